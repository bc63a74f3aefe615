def wk_2bcb35d7d (cy : Nat → ClassId) (a0 : Nat) (a1 : Int32) (a2 : Nat) (a3 a4 a5 : Value) (a6 a7 a8 a9 a10 a11 a12 a13 a14 a15 a16 : Int32) (a17 a18 a19 : Nat) (a20 a21 : Value) (a22 a23 : Int32) (a24 a25 a26 : Value) (a27 a28 : Int32) (a29 a30 a31 a32 a33 : Value) (a34 : Int32) (a35 a36 a37 : Value) (a38 : Nat) (a39 : Nat → Int32) (a40 : Nat) (a41 : Nat → Int32) (a42 : Nat) (a43 : Nat → Int32) (a44 : Nat) (a45 : Nat → Int32) : va_W := [(a0, .inr (12, [.int a1, .ref a2, a3, a4, a5, .int a6, .int a7, .int a8, .int a9, .int a10, .int a11, .int a12, .int a13, .int a14, .int a15, .int a16, .ref a17, .ref a18, .ref a19, a20, a21, .int a22, .int a23, a24, a25, a26, .int a27, .int a28, a29, a30, a31, a32, a33, .int a34, a35, a36, a37])), (a38, .inl (cy 1, 3918, .inl a39)), (a40, .inl (cy 1, 900, .inl a41)), (a42, .inl (cy 1, 11, .inl a43)), (a44, .inl (cy 1, 3, .inl a45))]
def wk_13c25f209 (cy : Nat → ClassId) (a0 : Nat) (a1 : Nat → Int32) (a2 : Nat) (a3 : Int32) (a4 : Nat) (a5 a6 a7 : Value) (a8 a9 a10 a11 a12 a13 a14 a15 a16 a17 a18 : Int32) (a19 a20 a21 : Nat) (a22 a23 : Value) (a24 a25 : Int32) (a26 a27 a28 : Value) (a29 a30 : Int32) (a31 a32 a33 a34 a35 : Value) (a36 : Int32) (a37 a38 a39 : Value) (a40 : Nat) (a41 : Nat → Int32) (a42 : Nat) (a43 : Nat → Int32) (a44 : Nat) (a45 : Nat → Int32) : va_W := [(a0, .inl (cy 1, 3, .inl a1)), (a2, .inr (12, [.int a3, .ref a4, a5, a6, a7, .int a8, .int a9, .int a10, .int a11, .int a12, .int a13, .int a14, .int a15, .int a16, .int a17, .int a18, .ref a19, .ref a20, .ref a21, a22, a23, .int a24, .int a25, a26, a27, a28, .int a29, .int a30, a31, a32, a33, a34, a35, .int a36, a37, a38, a39])), (a40, .inl (cy 1, 3918, .inl a41)), (a42, .inl (cy 1, 900, .inl a43)), (a44, .inl (cy 1, 11, .inl a45))]
def wk_c1caaabd7 (cy : Nat → ClassId) (a0 : Nat) (a1 : Int32) (a2 : Nat) (a3 a4 a5 : Value) (a6 a7 a8 a9 a10 a11 a12 a13 a14 a15 a16 : Int32) (a17 a18 a19 : Nat) (a20 : Value) (a21 : Nat) (a22 a23 : Int32) (a24 a25 a26 : Value) (a27 a28 : Int32) (a29 a30 a31 a32 a33 : Value) (a34 : Int32) (a35 a36 a37 : Value) (a38 : Nat) (a39 : Nat → Int32) (a40 : Nat) (a41 : Nat → Int32) (a42 : Nat) (a43 : Nat → Int32) (a44 : Nat) (a45 : Nat → Int32) (a46 : Nat) (a47 : Nat → Int32) : va_W := [(a0, .inr (12, [.int a1, .ref a2, a3, a4, a5, .int a6, .int a7, .int a8, .int a9, .int a10, .int a11, .int a12, .int a13, .int a14, .int a15, .int a16, .ref a17, .ref a18, .ref a19, a20, .ref a21, .int a22, .int a23, a24, a25, a26, .int a27, .int a28, a29, a30, a31, a32, a33, .int a34, a35, a36, a37])), (a38, .inl (cy 1, 3918, .inl a39)), (a40, .inl (cy 1, 900, .inl a41)), (a42, .inl (cy 1, 11, .inl a43)), (a44, .inl (cy 1, 3, .inl a45)), (a46, .inl (cy 1, 32, .inl a47))]
def wk_3a288e38f (cy : Nat → ClassId) (a0 : Nat) (a1 : Nat → Int32) (a2 : Nat) (a3 : Nat → Int32) (a4 : Nat) (a5 : Nat → Int32) (a6 : Nat) (a7 : Nat → Int32) : va_W := [(a0, .inl (cy 1, 900, .inl a1)), (a2, .inl (cy 1, 11, .inl a3)), (a4, .inl (cy 1, 3, .inl a5)), (a6, .inl (cy 1, 32, .inl a7))]
def wk_f610781b9 (cy : Nat → ClassId) (a0 : Nat) (a1 : Nat → Int32) (a2 : Nat) (a3 : Nat → Int32) (a4 : Nat) (a5 : Nat → Int32) (a6 : Nat) (a7 : Nat → Int32) (a8 : Nat) (a9 : Int32) (a10 : Nat) (a11 a12 a13 : Value) (a14 a15 a16 a17 a18 a19 a20 a21 a22 a23 a24 : Int32) (a25 a26 a27 : Nat) (a28 : Value) (a29 : Nat) (a30 a31 : Int32) (a32 a33 a34 : Value) (a35 a36 : Int32) (a37 a38 a39 a40 a41 : Value) (a42 : Int32) (a43 a44 a45 : Value) (a46 : Nat) (a47 : Nat → Int32) : va_W := [(a0, .inl (cy 1, 900, .inl a1)), (a2, .inl (cy 1, 11, .inl a3)), (a4, .inl (cy 1, 3, .inl a5)), (a6, .inl (cy 1, 32, .inl a7)), (a8, .inr (12, [.int a9, .ref a10, a11, a12, a13, .int a14, .int a15, .int a16, .int a17, .int a18, .int a19, .int a20, .int a21, .int a22, .int a23, .int a24, .ref a25, .ref a26, .ref a27, a28, .ref a29, .int a30, .int a31, a32, a33, a34, .int a35, .int a36, a37, a38, a39, a40, a41, .int a42, a43, a44, a45])), (a46, .inl (cy 1, 3918, .inl a47))]
def wk_840316d5a (cy : Nat → ClassId) (a0 : Nat) (a1 : Nat → Int32) (a2 : Nat) (a3 : Nat → Int32) (a4 : Nat) (a5 : Nat → Int32) : va_W := [(a0, .inl (cy 1, 900, .inl a1)), (a2, .inl (cy 1, 11, .inl a3)), (a4, .inl (cy 1, 3, .inl a5))]
def wk_e7966dd3c (cy : Nat → ClassId) (a0 : Nat) (a1 : Nat → Int32) (a2 : Nat) (a3 : Nat → Int32) (a4 : Nat) (a5 : Nat → Int32) (a6 : Nat) (a7 : Int32) (a8 : Nat) (a9 a10 a11 : Value) (a12 a13 a14 a15 a16 a17 a18 a19 a20 a21 a22 : Int32) (a23 a24 a25 : Nat) (a26 : Value) (a27 : Nat) (a28 a29 : Int32) (a30 a31 a32 : Value) (a33 a34 : Int32) (a35 a36 a37 a38 a39 : Value) (a40 : Int32) (a41 a42 a43 : Value) (a44 : Nat) (a45 : Nat → Int32) (a46 : Nat) (a47 : Nat → Int32) : va_W := [(a0, .inl (cy 1, 900, .inl a1)), (a2, .inl (cy 1, 11, .inl a3)), (a4, .inl (cy 1, 3, .inl a5)), (a6, .inr (12, [.int a7, .ref a8, a9, a10, a11, .int a12, .int a13, .int a14, .int a15, .int a16, .int a17, .int a18, .int a19, .int a20, .int a21, .int a22, .ref a23, .ref a24, .ref a25, a26, .ref a27, .int a28, .int a29, a30, a31, a32, .int a33, .int a34, a35, a36, a37, a38, a39, .int a40, a41, a42, a43])), (a44, .inl (cy 1, 3918, .inl a45)), (a46, .inl (cy 1, 32, .inl a47))]
def wk_7edf1f2f5 (cy : Nat → ClassId) (a0 : Nat) (a1 : Nat → Int32) (a2 : Nat) (a3 : Int32) (a4 : Nat) (a5 a6 a7 : Value) (a8 a9 a10 a11 a12 a13 a14 a15 a16 a17 a18 : Int32) (a19 a20 a21 : Nat) (a22 : Value) (a23 : Nat) (a24 a25 : Int32) (a26 a27 a28 : Value) (a29 a30 : Int32) (a31 a32 a33 a34 a35 : Value) (a36 : Int32) (a37 a38 a39 : Value) (a40 : Nat) (a41 : Nat → Int32) (a42 : Nat) (a43 : Nat → Int32) (a44 : Nat) (a45 : Nat → Int32) (a46 : Nat) (a47 : Nat → Int32) : va_W := [(a0, .inl (cy 1, 32, .inl a1)), (a2, .inr (12, [.int a3, .ref a4, a5, a6, a7, .int a8, .int a9, .int a10, .int a11, .int a12, .int a13, .int a14, .int a15, .int a16, .int a17, .int a18, .ref a19, .ref a20, .ref a21, a22, .ref a23, .int a24, .int a25, a26, a27, a28, .int a29, .int a30, a31, a32, a33, a34, a35, .int a36, a37, a38, a39])), (a40, .inl (cy 1, 3918, .inl a41)), (a42, .inl (cy 1, 900, .inl a43)), (a44, .inl (cy 1, 11, .inl a45)), (a46, .inl (cy 1, 3, .inl a47))]
def wk_b0ee437a1 (cy : Nat → ClassId) (a0 : Nat) (a1 : Nat → Int32) (a2 : Nat) (a3 : Int32) (a4 : Nat) (a5 a6 a7 : Value) (a8 a9 a10 a11 a12 a13 a14 a15 a16 a17 a18 : Int32) (a19 a20 a21 a22 : Value) (a23 : Nat) (a24 a25 : Int32) (a26 a27 a28 : Value) (a29 a30 : Int32) (a31 a32 a33 a34 a35 : Value) (a36 : Int32) (a37 a38 a39 : Value) (a40 : Nat) (a41 : Nat → Int32) : va_W := [(a0, .inl (cy 1, 32, .inl a1)), (a2, .inr (12, [.int a3, .ref a4, a5, a6, a7, .int a8, .int a9, .int a10, .int a11, .int a12, .int a13, .int a14, .int a15, .int a16, .int a17, .int a18, a19, a20, a21, a22, .ref a23, .int a24, .int a25, a26, a27, a28, .int a29, .int a30, a31, a32, a33, a34, a35, .int a36, a37, a38, a39])), (a40, .inl (cy 1, 3918, .inl a41))]
def wk_5f5f0c38e (cy : Nat → ClassId) (a0 : Nat) (a1 : Int32) (a2 a3 a4 a5 : Value) (a6 a7 a8 a9 a10 a11 a12 a13 a14 a15 a16 : Int32) (a17 a18 a19 a20 a21 : Value) (a22 a23 : Int32) (a24 a25 a26 : Value) (a27 a28 : Int32) (a29 a30 a31 a32 a33 : Value) (a34 : Int32) (a35 : Nat) (a36 a37 : Value) (a38 : Nat) (a39 : Nat → Int32) : va_W := [(a0, .inr (12, [.int a1, a2, a3, a4, a5, .int a6, .int a7, .int a8, .int a9, .int a10, .int a11, .int a12, .int a13, .int a14, .int a15, .int a16, a17, a18, a19, a20, a21, .int a22, .int a23, a24, a25, a26, .int a27, .int a28, a29, a30, a31, a32, a33, .int a34, .ref a35, a36, a37])), (a38, .inl (cy 1, 4, .inl a39))]
def wk_b38797f14 (cy : Nat → ClassId) (a0 : Nat) (a1 : Int32) (a2 : Nat) (a3 a4 a5 : Value) (a6 a7 a8 a9 a10 a11 a12 a13 a14 a15 a16 : Int32) (a17 a18 a19 : Nat) (a20 a21 : Value) (a22 a23 : Int32) (a24 a25 a26 : Value) (a27 a28 : Int32) (a29 a30 a31 a32 a33 : Value) (a34 : Int32) (a35 : Value) (a36 a37 a38 : Nat) (a39 : Nat → Int32) (a40 : Nat) (a41 : Nat → Int32) (a42 : Nat) (a43 : Nat → Int32) (a44 : Nat) (a45 : Nat → Int32) (a46 : Nat) (a47 : Nat → Int32) (a48 : Nat) (a49 : Nat → Int64) : va_W := [(a0, .inr (12, [.int a1, .ref a2, a3, a4, a5, .int a6, .int a7, .int a8, .int a9, .int a10, .int a11, .int a12, .int a13, .int a14, .int a15, .int a16, .ref a17, .ref a18, .ref a19, a20, a21, .int a22, .int a23, a24, a25, a26, .int a27, .int a28, a29, a30, a31, a32, a33, .int a34, a35, .ref a36, .ref a37])), (a38, .inl (cy 1, 3918, .inl a39)), (a40, .inl (cy 1, 900, .inl a41)), (a42, .inl (cy 1, 11, .inl a43)), (a44, .inl (cy 1, 3, .inl a45)), (a46, .inl (cy 1, 4, .inl a47)), (a48, .inl (cy 2, 160, .inr (.inl a49)))]
def wk_e9822dc44 (cy : Nat → ClassId) (a0 : Nat) (a1 : Nat → Int32) (a2 : Nat) (a3 : Nat → Int32) (a4 : Nat) (a5 : Nat → Int32) (a6 : Nat) (a7 : Nat → Int32) (a8 : Nat) (a9 : Nat → Int64) (a10 : Nat) (a11 : Int32) (a12 : Nat) (a13 a14 a15 : Value) (a16 a17 a18 a19 a20 a21 a22 a23 a24 a25 a26 : Int32) (a27 a28 a29 : Nat) (a30 a31 : Value) (a32 a33 : Int32) (a34 a35 a36 : Value) (a37 a38 : Int32) (a39 a40 a41 a42 a43 : Value) (a44 : Int32) (a45 : Value) (a46 a47 a48 : Nat) (a49 : Nat → Int32) : va_W := [(a0, .inl (cy 1, 900, .inl a1)), (a2, .inl (cy 1, 11, .inl a3)), (a4, .inl (cy 1, 3, .inl a5)), (a6, .inl (cy 1, 4, .inl a7)), (a8, .inl (cy 2, 160, .inr (.inl a9))), (a10, .inr (12, [.int a11, .ref a12, a13, a14, a15, .int a16, .int a17, .int a18, .int a19, .int a20, .int a21, .int a22, .int a23, .int a24, .int a25, .int a26, .ref a27, .ref a28, .ref a29, a30, a31, .int a32, .int a33, a34, a35, a36, .int a37, .int a38, a39, a40, a41, a42, a43, .int a44, a45, .ref a46, .ref a47])), (a48, .inl (cy 1, 3918, .inl a49))]
def wk_f48cbbbc0 (cy : Nat → ClassId) (a0 : Nat) (a1 : Nat → Int32) (a2 : Nat) (a3 : Nat → Int64) : va_W := [(a0, .inl (cy 1, 4, .inl a1)), (a2, .inl (cy 2, 160, .inr (.inl a3)))]
def wk_8b19a8a79 (cy : Nat → ClassId) (a0 : Nat) (a1 : Int32) (a2 : Nat) (a3 a4 a5 : Value) (a6 a7 a8 a9 a10 a11 a12 a13 a14 a15 a16 : Int32) (a17 a18 : Nat) (a19 : Value) (a20 : Nat) (a21 : Value) (a22 a23 : Int32) (a24 a25 a26 : Value) (a27 a28 : Int32) (a29 a30 a31 a32 a33 : Value) (a34 : Int32) (a35 a36 a37 : Value) (a38 : Nat) (a39 : Nat → Int32) (a40 : Nat) (a41 : Nat → Int32) (a42 : Nat) (a43 : Nat → Int32) (a44 : Nat) (a45 : Nat → Int32) : va_W := [(a0, .inr (12, [.int a1, .ref a2, a3, a4, a5, .int a6, .int a7, .int a8, .int a9, .int a10, .int a11, .int a12, .int a13, .int a14, .int a15, .int a16, .ref a17, .ref a18, a19, .ref a20, a21, .int a22, .int a23, a24, a25, a26, .int a27, .int a28, a29, a30, a31, a32, a33, .int a34, a35, a36, a37])), (a38, .inl (cy 1, 3918, .inl a39)), (a40, .inl (cy 1, 900, .inl a41)), (a42, .inl (cy 1, 11, .inl a43)), (a44, .inl (cy 1, 10, .inl a45))]
def wk_9b747ddb8 (cy : Nat → ClassId) (a0 : Nat) (a1 : Nat → Int32) (a2 : Nat) (a3 : Int32) (a4 : Nat) (a5 a6 a7 : Value) (a8 a9 a10 a11 a12 a13 a14 a15 a16 a17 a18 : Int32) (a19 a20 : Nat) (a21 : Value) (a22 : Nat) (a23 : Value) (a24 a25 : Int32) (a26 a27 a28 : Value) (a29 a30 : Int32) (a31 a32 a33 a34 a35 : Value) (a36 : Int32) (a37 a38 a39 : Value) (a40 : Nat) (a41 : Nat → Int32) (a42 : Nat) (a43 : Nat → Int32) (a44 : Nat) (a45 : Nat → Int32) : va_W := [(a0, .inl (cy 1, 10, .inl a1)), (a2, .inr (12, [.int a3, .ref a4, a5, a6, a7, .int a8, .int a9, .int a10, .int a11, .int a12, .int a13, .int a14, .int a15, .int a16, .int a17, .int a18, .ref a19, .ref a20, a21, .ref a22, a23, .int a24, .int a25, a26, a27, a28, .int a29, .int a30, a31, a32, a33, a34, a35, .int a36, a37, a38, a39])), (a40, .inl (cy 1, 3918, .inl a41)), (a42, .inl (cy 1, 900, .inl a43)), (a44, .inl (cy 1, 11, .inl a45))]
def wk_77052d223 (cy : Nat → ClassId) (a0 : Nat) (a1 : Int32) (a2 : Nat) (a3 a4 a5 : Value) (a6 a7 a8 a9 a10 a11 a12 a13 a14 a15 a16 : Int32) (a17 a18 a19 : Value) (a20 : Nat) (a21 : Value) (a22 a23 : Int32) (a24 : Nat) (a25 a26 : Value) (a27 a28 : Int32) (a29 a30 a31 a32 a33 : Value) (a34 : Int32) (a35 a36 a37 : Value) (a38 : Nat) (a39 : Nat → Int32) (a40 : Nat) (a41 : Nat → Int32) (a42 : Nat) (a43 : Nat → Int32) : va_W := [(a0, .inr (12, [.int a1, .ref a2, a3, a4, a5, .int a6, .int a7, .int a8, .int a9, .int a10, .int a11, .int a12, .int a13, .int a14, .int a15, .int a16, a17, a18, a19, .ref a20, a21, .int a22, .int a23, .ref a24, a25, a26, .int a27, .int a28, a29, a30, a31, a32, a33, .int a34, a35, a36, a37])), (a38, .inl (cy 1, 3918, .inl a39)), (a40, .inl (cy 1, 10, .inl a41)), (a42, .inl (cy 1, 1024, .inl a43))]
def wk_eecab3214 (cy : Nat → ClassId) (a0 : Nat) (a1 : Int32) (a2 : Nat) (a3 a4 a5 : Value) (a6 a7 a8 a9 a10 a11 a12 a13 a14 a15 a16 : Int32) (a17 a18 : Nat) (a19 : Value) (a20 : Nat) (a21 : Value) (a22 a23 : Int32) (a24 : Nat) (a25 a26 : Value) (a27 a28 : Int32) (a29 a30 a31 a32 a33 : Value) (a34 : Int32) (a35 a36 a37 : Value) (a38 : Nat) (a39 : Nat → Int32) (a40 : Nat) (a41 : Nat → Int32) (a42 : Nat) (a43 : Nat → Int32) (a44 : Nat) (a45 : Nat → Int32) (a46 : Nat) (a47 : Nat → Int32) : va_W := [(a0, .inr (12, [.int a1, .ref a2, a3, a4, a5, .int a6, .int a7, .int a8, .int a9, .int a10, .int a11, .int a12, .int a13, .int a14, .int a15, .int a16, .ref a17, .ref a18, a19, .ref a20, a21, .int a22, .int a23, .ref a24, a25, a26, .int a27, .int a28, a29, a30, a31, a32, a33, .int a34, a35, a36, a37])), (a38, .inl (cy 1, 3918, .inl a39)), (a40, .inl (cy 1, 900, .inl a41)), (a42, .inl (cy 1, 11, .inl a43)), (a44, .inl (cy 1, 10, .inl a45)), (a46, .inl (cy 1, 1024, .inl a47))]
def wk_330e90bb2 (cy : Nat → ClassId) (a0 : Nat) (a1 : Nat → Int32) (a2 : Nat) (a3 : Int32) (a4 : Nat) (a5 a6 a7 : Value) (a8 a9 a10 a11 a12 a13 a14 a15 a16 a17 a18 : Int32) (a19 a20 : Nat) (a21 : Value) (a22 : Nat) (a23 : Value) (a24 a25 : Int32) (a26 : Nat) (a27 a28 : Value) (a29 a30 : Int32) (a31 a32 a33 a34 a35 : Value) (a36 : Int32) (a37 a38 a39 : Value) (a40 : Nat) (a41 : Nat → Int32) (a42 : Nat) (a43 : Nat → Int32) (a44 : Nat) (a45 : Nat → Int32) (a46 : Nat) (a47 : Nat → Int32) : va_W := [(a0, .inl (cy 1, 1024, .inl a1)), (a2, .inr (12, [.int a3, .ref a4, a5, a6, a7, .int a8, .int a9, .int a10, .int a11, .int a12, .int a13, .int a14, .int a15, .int a16, .int a17, .int a18, .ref a19, .ref a20, a21, .ref a22, a23, .int a24, .int a25, .ref a26, a27, a28, .int a29, .int a30, a31, a32, a33, a34, a35, .int a36, a37, a38, a39])), (a40, .inl (cy 1, 3918, .inl a41)), (a42, .inl (cy 1, 900, .inl a43)), (a44, .inl (cy 1, 11, .inl a45)), (a46, .inl (cy 1, 10, .inl a47))]
def wk_e86de3109 (cy : Nat → ClassId) (a0 : Nat) (a1 : Nat → Int32) (a2 : Nat) (a3 : Nat → Int32) (a4 : Nat) (a5 : Int32) (a6 : Nat) (a7 a8 a9 : Value) (a10 a11 a12 a13 a14 a15 a16 a17 a18 a19 a20 : Int32) (a21 a22 : Nat) (a23 : Value) (a24 : Nat) (a25 : Value) (a26 a27 : Int32) (a28 : Nat) (a29 a30 : Value) (a31 a32 : Int32) (a33 a34 a35 a36 a37 : Value) (a38 : Int32) (a39 a40 a41 : Value) (a42 : Nat) (a43 : Nat → Int32) (a44 : Nat) (a45 : Nat → Int32) (a46 : Nat) (a47 : Nat → Int32) : va_W := [(a0, .inl (cy 1, 900, .inl a1)), (a2, .inl (cy 1, 11, .inl a3)), (a4, .inr (12, [.int a5, .ref a6, a7, a8, a9, .int a10, .int a11, .int a12, .int a13, .int a14, .int a15, .int a16, .int a17, .int a18, .int a19, .int a20, .ref a21, .ref a22, a23, .ref a24, a25, .int a26, .int a27, .ref a28, a29, a30, .int a31, .int a32, a33, a34, a35, a36, a37, .int a38, a39, a40, a41])), (a42, .inl (cy 1, 3918, .inl a43)), (a44, .inl (cy 1, 10, .inl a45)), (a46, .inl (cy 1, 1024, .inl a47))]
def wk_a2686efad (cy : Nat → ClassId) (a0 : Nat) (a1 : Int32) (a2 : Nat) (a3 a4 a5 : Value) (a6 a7 a8 a9 a10 a11 a12 a13 a14 a15 a16 : Int32) (a17 a18 a19 a20 a21 : Nat) (a22 a23 : Int32) (a24 : Nat) (a25 a26 : Value) (a27 a28 : Int32) (a29 a30 a31 a32 a33 : Value) (a34 : Int32) (a35 a36 a37 a38 : Nat) (a39 : Nat → Int32) (a40 : Nat) (a41 : Nat → Int32) (a42 : Nat) (a43 : Nat → Int32) (a44 : Nat) (a45 : Nat → Int32) (a46 : Nat) (a47 : Nat → Int32) (a48 : Nat) (a49 : Nat → Int32) (a50 : Nat) (a51 : Nat → Int32) (a52 : Nat) (a53 : Nat → Int32) (a54 : Nat) (a55 : Nat → Int32) (a56 : Nat) (a57 : Nat → Int64) : va_W := [(a0, .inr (12, [.int a1, .ref a2, a3, a4, a5, .int a6, .int a7, .int a8, .int a9, .int a10, .int a11, .int a12, .int a13, .int a14, .int a15, .int a16, .ref a17, .ref a18, .ref a19, .ref a20, .ref a21, .int a22, .int a23, .ref a24, a25, a26, .int a27, .int a28, a29, a30, a31, a32, a33, .int a34, .ref a35, .ref a36, .ref a37])), (a38, .inl (cy 1, 3918, .inl a39)), (a40, .inl (cy 1, 900, .inl a41)), (a42, .inl (cy 1, 11, .inl a43)), (a44, .inl (cy 1, 3, .inl a45)), (a46, .inl (cy 1, 10, .inl a47)), (a48, .inl (cy 1, 32, .inl a49)), (a50, .inl (cy 1, 1024, .inl a51)), (a52, .inl (cy 1, 4, .inl a53)), (a54, .inl (cy 1, 4, .inl a55)), (a56, .inl (cy 2, 160, .inr (.inl a57)))]
def wk_4a85b29b6 (cy : Nat → ClassId) (a0 : Nat) (a1 : Nat → Int32) (a2 : Nat) (a3 : Nat → Int32) (a4 : Nat) (a5 : Nat → Int32) (a6 : Nat) (a7 : Nat → Int32) (a8 : Nat) (a9 : Nat → Int64) (a10 : Nat) (a11 : Int32) (a12 : Nat) (a13 a14 a15 : Value) (a16 a17 a18 a19 a20 a21 a22 a23 a24 a25 a26 : Int32) (a27 a28 a29 a30 a31 : Nat) (a32 a33 : Int32) (a34 : Nat) (a35 a36 : Value) (a37 a38 : Int32) (a39 a40 a41 a42 a43 : Value) (a44 : Int32) (a45 a46 a47 a48 : Nat) (a49 : Nat → Int32) (a50 : Nat) (a51 : Nat → Int32) (a52 : Nat) (a53 : Nat → Int32) (a54 : Nat) (a55 : Nat → Int32) (a56 : Nat) (a57 : Nat → Int32) : va_W := [(a0, .inl (cy 1, 4, .inl a1)), (a2, .inl (cy 1, 32, .inl a3)), (a4, .inl (cy 1, 3, .inl a5)), (a6, .inl (cy 1, 4, .inl a7)), (a8, .inl (cy 2, 160, .inr (.inl a9))), (a10, .inr (12, [.int a11, .ref a12, a13, a14, a15, .int a16, .int a17, .int a18, .int a19, .int a20, .int a21, .int a22, .int a23, .int a24, .int a25, .int a26, .ref a27, .ref a28, .ref a29, .ref a30, .ref a31, .int a32, .int a33, .ref a34, a35, a36, .int a37, .int a38, a39, a40, a41, a42, a43, .int a44, .ref a45, .ref a46, .ref a47])), (a48, .inl (cy 1, 3918, .inl a49)), (a50, .inl (cy 1, 900, .inl a51)), (a52, .inl (cy 1, 11, .inl a53)), (a54, .inl (cy 1, 10, .inl a55)), (a56, .inl (cy 1, 1024, .inl a57))]
def wk_ec32a311a (cy : Nat → ClassId) (a0 : Nat) (a1 : Nat → Int32) (a2 : Nat) (a3 : Nat → Int32) (a4 : Nat) (a5 : Nat → Int32) (a6 : Nat) (a7 : Nat → Int64) (a8 : Nat) (a9 : Nat → Int32) (a10 : Nat) (a11 : Nat → Int32) (a12 : Nat) (a13 : Nat → Int32) (a14 : Nat) (a15 : Nat → Int32) (a16 : Nat) (a17 : Int32) (a18 : Nat) (a19 a20 a21 : Value) (a22 a23 a24 a25 a26 a27 a28 a29 a30 a31 a32 : Int32) (a33 a34 a35 a36 a37 : Nat) (a38 a39 : Int32) (a40 : Nat) (a41 a42 : Value) (a43 a44 : Int32) (a45 a46 a47 a48 a49 : Value) (a50 : Int32) (a51 a52 a53 a54 : Nat) (a55 : Nat → Int32) (a56 : Nat) (a57 : Nat → Int32) : va_W := [(a0, .inl (cy 1, 4, .inl a1)), (a2, .inl (cy 1, 3, .inl a3)), (a4, .inl (cy 1, 4, .inl a5)), (a6, .inl (cy 2, 160, .inr (.inl a7))), (a8, .inl (cy 1, 900, .inl a9)), (a10, .inl (cy 1, 11, .inl a11)), (a12, .inl (cy 1, 10, .inl a13)), (a14, .inl (cy 1, 1024, .inl a15)), (a16, .inr (12, [.int a17, .ref a18, a19, a20, a21, .int a22, .int a23, .int a24, .int a25, .int a26, .int a27, .int a28, .int a29, .int a30, .int a31, .int a32, .ref a33, .ref a34, .ref a35, .ref a36, .ref a37, .int a38, .int a39, .ref a40, a41, a42, .int a43, .int a44, a45, a46, a47, a48, a49, .int a50, .ref a51, .ref a52, .ref a53])), (a54, .inl (cy 1, 3918, .inl a55)), (a56, .inl (cy 1, 32, .inl a57))]
def wk_de5320454 (cy : Nat → ClassId) (a0 : Nat) (a1 : Int32) (a2 : Nat) (a3 a4 a5 : Value) (a6 a7 a8 a9 a10 a11 a12 a13 a14 a15 a16 : Int32) (a17 a18 a19 : Nat) (a20 : Value) (a21 : Nat) (a22 a23 : Int32) (a24 a25 a26 : Value) (a27 a28 : Int32) (a29 a30 a31 a32 a33 : Value) (a34 : Int32) (a35 a36 a37 a38 : Nat) (a39 : Nat → Int32) (a40 : Nat) (a41 : Nat → Int32) (a42 : Nat) (a43 : Nat → Int32) (a44 : Nat) (a45 : Nat → Int32) (a46 : Nat) (a47 : Nat → Int32) (a48 : Nat) (a49 : Nat → Int32) (a50 : Nat) (a51 : Nat → Int32) (a52 : Nat) (a53 : Nat → Int64) : va_W := [(a0, .inr (12, [.int a1, .ref a2, a3, a4, a5, .int a6, .int a7, .int a8, .int a9, .int a10, .int a11, .int a12, .int a13, .int a14, .int a15, .int a16, .ref a17, .ref a18, .ref a19, a20, .ref a21, .int a22, .int a23, a24, a25, a26, .int a27, .int a28, a29, a30, a31, a32, a33, .int a34, .ref a35, .ref a36, .ref a37])), (a38, .inl (cy 1, 3918, .inl a39)), (a40, .inl (cy 1, 900, .inl a41)), (a42, .inl (cy 1, 11, .inl a43)), (a44, .inl (cy 1, 3, .inl a45)), (a46, .inl (cy 1, 32, .inl a47)), (a48, .inl (cy 1, 4, .inl a49)), (a50, .inl (cy 1, 4, .inl a51)), (a52, .inl (cy 2, 160, .inr (.inl a53)))]
def wk_ec84e3810 (cy : Nat → ClassId) (a0 : Nat) (a1 : Nat → Int32) (a2 : Nat) (a3 : Nat → Int32) (a4 : Nat) (a5 : Int32) (a6 : Nat) (a7 a8 a9 : Value) (a10 a11 a12 a13 a14 a15 a16 a17 a18 a19 a20 : Int32) (a21 a22 a23 : Nat) (a24 : Value) (a25 : Nat) (a26 a27 : Int32) (a28 a29 a30 : Value) (a31 a32 : Int32) (a33 a34 a35 a36 a37 : Value) (a38 : Int32) (a39 a40 a41 a42 : Nat) (a43 : Nat → Int32) (a44 : Nat) (a45 : Nat → Int32) (a46 : Nat) (a47 : Nat → Int32) (a48 : Nat) (a49 : Nat → Int32) (a50 : Nat) (a51 : Nat → Int32) (a52 : Nat) (a53 : Nat → Int64) : va_W := [(a0, .inl (cy 1, 4, .inl a1)), (a2, .inl (cy 1, 32, .inl a3)), (a4, .inr (12, [.int a5, .ref a6, a7, a8, a9, .int a10, .int a11, .int a12, .int a13, .int a14, .int a15, .int a16, .int a17, .int a18, .int a19, .int a20, .ref a21, .ref a22, .ref a23, a24, .ref a25, .int a26, .int a27, a28, a29, a30, .int a31, .int a32, a33, a34, a35, a36, a37, .int a38, .ref a39, .ref a40, .ref a41])), (a42, .inl (cy 1, 3918, .inl a43)), (a44, .inl (cy 1, 900, .inl a45)), (a46, .inl (cy 1, 11, .inl a47)), (a48, .inl (cy 1, 3, .inl a49)), (a50, .inl (cy 1, 4, .inl a51)), (a52, .inl (cy 2, 160, .inr (.inl a53)))]
theorem wm_6_216 : Cond.methodLink RX12 263 yX12_whyTalk ∈ WG := wg_t6 (List.mem_of_getElem? (i := 216) rfl) rfl
theorem wm_6_219 : Cond.code yX12_whyTalk cX12_whyTalk 5 (some .int) ∈ WG := wg_t6 (List.mem_of_getElem? (i := 219) rfl) rfl
theorem wm_6_218 : Cond.instanceMethod yX12_whyTalk ∈ WG := wg_t6 (List.mem_of_getElem? (i := 218) rfl) rfl
theorem wp_5_15 : Cond.selects RX12 yX12_whyTalk yX12_whyTalk ∈ WG := wg_p (q := (yX12_whyTalk, 37)) (wg_p5 (List.mem_of_getElem? (i := 15) rfl)) rfl
theorem wm_6_220 : Cond.methodLink RX12 267 yX12_keeps ∈ WG := wg_t6 (List.mem_of_getElem? (i := 220) rfl) rfl
theorem wm_6_223 : Cond.code yX12_keeps cX12_keeps 2 none ∈ WG := wg_t6 (List.mem_of_getElem? (i := 223) rfl) rfl
theorem wm_6_222 : Cond.instanceMethod yX12_keeps ∈ WG := wg_t6 (List.mem_of_getElem? (i := 222) rfl) rfl
theorem wp_6_0 : Cond.selects RX12 yX12_keeps yX12_keeps ∈ WG := wg_p (q := (yX12_keeps, 37)) (wg_p6 (List.mem_of_getElem? (i := 0) rfl)) rfl
theorem wm_6_228 : Cond.methodLink RX12 238 yX12_sway ∈ WG := wg_t6 (List.mem_of_getElem? (i := 228) rfl) rfl
theorem wm_6_231 : Cond.code yX12_sway cX12_sway 4 (some .int) ∈ WG := wg_t6 (List.mem_of_getElem? (i := 231) rfl) rfl
theorem wm_6_230 : Cond.instanceMethod yX12_sway ∈ WG := wg_t6 (List.mem_of_getElem? (i := 230) rfl) rfl
theorem wp_6_2 : Cond.selects RX12 yX12_sway yX12_sway ∈ WG := wg_p (q := (yX12_sway, 37)) (wg_p6 (List.mem_of_getElem? (i := 2) rfl)) rfl
theorem wm_5_188 : Cond.fieldLink RX12 36 "OppositeHouseModel" "swayed" "[I" ∈ WG := wg_t5 (List.mem_of_getElem? (i := 188) rfl) rfl
theorem wm_6_224 : Cond.methodLink RX12 270 yX12_talks1 ∈ WG := wg_t6 (List.mem_of_getElem? (i := 224) rfl) rfl
theorem wm_6_227 : Cond.code yX12_talks1 cX12_talks1 6 none ∈ WG := wg_t6 (List.mem_of_getElem? (i := 227) rfl) rfl
theorem wm_6_226 : Cond.instanceMethod yX12_talks1 ∈ WG := wg_t6 (List.mem_of_getElem? (i := 226) rfl) rfl
theorem wp_6_1 : Cond.selects RX12 yX12_talks1 yX12_talks1 ∈ WG := wg_p (q := (yX12_talks1, 37)) (wg_p6 (List.mem_of_getElem? (i := 1) rfl)) rfl
theorem wm_6_232 : Cond.methodLink RX12 274 yX12_notes ∈ WG := wg_t6 (List.mem_of_getElem? (i := 232) rfl) rfl
theorem wm_6_235 : Cond.code yX12_notes cX12_notes 2 none ∈ WG := wg_t6 (List.mem_of_getElem? (i := 235) rfl) rfl
theorem wm_6_234 : Cond.instanceMethod yX12_notes ∈ WG := wg_t6 (List.mem_of_getElem? (i := 234) rfl) rfl
theorem wp_6_3 : Cond.selects RX12 yX12_notes yX12_notes ∈ WG := wg_p (q := (yX12_notes, 37)) (wg_p6 (List.mem_of_getElem? (i := 3) rfl)) rfl
theorem wm_7_4 : Cond.methodLink RX12 277 yX12_whySend ∈ WG := wg_t7 (List.mem_of_getElem? (i := 4) rfl) rfl
theorem wm_7_7 : Cond.code yX12_whySend cX12_whySend 4 (some .int) ∈ WG := wg_t7 (List.mem_of_getElem? (i := 7) rfl) rfl
theorem wm_7_6 : Cond.instanceMethod yX12_whySend ∈ WG := wg_t7 (List.mem_of_getElem? (i := 6) rfl) rfl
theorem wp_6_5 : Cond.selects RX12 yX12_whySend yX12_whySend ∈ WG := wg_p (q := (yX12_whySend, 37)) (wg_p6 (List.mem_of_getElem? (i := 5) rfl)) rfl
theorem wm_7_8 : Cond.methodLink RX12 281 yX12_bitsOf ∈ WG := wg_t7 (List.mem_of_getElem? (i := 8) rfl) rfl
theorem wm_7_10 : Cond.code yX12_bitsOf cX12_bitsOf 3 (some .int) ∈ WG := wg_t7 (List.mem_of_getElem? (i := 10) rfl) rfl
theorem wm_7_9 : Cond.static yX12_bitsOf ∈ WG := wg_t7 (List.mem_of_getElem? (i := 9) rfl) rfl
theorem wm_7_0 : Cond.methodLink RX12 284 yX12_goes ∈ WG := wg_t7 (List.mem_of_getElem? (i := 0) rfl) rfl
theorem wm_7_3 : Cond.code yX12_goes cX12_goes 4 (some .int) ∈ WG := wg_t7 (List.mem_of_getElem? (i := 3) rfl) rfl
theorem wm_7_2 : Cond.instanceMethod yX12_goes ∈ WG := wg_t7 (List.mem_of_getElem? (i := 2) rfl) rfl
theorem wp_6_4 : Cond.selects RX12 yX12_goes yX12_goes ∈ WG := wg_p (q := (yX12_goes, 37)) (wg_p6 (List.mem_of_getElem? (i := 4) rfl)) rfl
theorem wm_7_19 : Cond.constantLong RX12 287 (99) ∈ WG := wg_t7 (List.mem_of_getElem? (i := 19) rfl) rfl
theorem wm_7_24 : Cond.constantLong RX12 289 (10) ∈ WG := wg_t7 (List.mem_of_getElem? (i := 24) rfl) rfl
theorem wm_7_29 : Cond.constantLong RX12 311 (3) ∈ WG := wg_t7 (List.mem_of_getElem? (i := 29) rfl) rfl
theorem wm_5_204 : Cond.fieldLink RX12 69 "OppositeHouseModel" "rowSort" "[I" ∈ WG := wg_t5 (List.mem_of_getElem? (i := 204) rfl) rfl
theorem wm_7_30 : Cond.methodLink RX12 313 yX12_noTray ∈ WG := wg_t7 (List.mem_of_getElem? (i := 30) rfl) rfl
theorem wm_7_33 : Cond.code yX12_noTray cX12_noTray 2 (some .int) ∈ WG := wg_t7 (List.mem_of_getElem? (i := 33) rfl) rfl
theorem wm_7_32 : Cond.instanceMethod yX12_noTray ∈ WG := wg_t7 (List.mem_of_getElem? (i := 32) rfl) rfl
theorem wp_6_6 : Cond.selects RX12 yX12_noTray yX12_noTray ∈ WG := wg_p (q := (yX12_noTray, 37)) (wg_p6 (List.mem_of_getElem? (i := 6) rfl)) rfl
theorem wm_5_191 : Cond.fieldLink RX12 301 "OppositeHouseModel" "toldWhy" "I" ∈ WG := wg_t5 (List.mem_of_getElem? (i := 191) rfl) rfl
theorem wm_5_205 : Cond.fieldLink RX12 72 "OppositeHouseModel" "rowMany" "[I" ∈ WG := wg_t5 (List.mem_of_getElem? (i := 205) rfl) rfl
theorem wm_5_206 : Cond.fieldLink RX12 75 "OppositeHouseModel" "numbers" "[J" ∈ WG := wg_t5 (List.mem_of_getElem? (i := 206) rfl) rfl
theorem wm_7_42 : Cond.constantLong RX12 291 (-1) ∈ WG := wg_t7 (List.mem_of_getElem? (i := 42) rfl) rfl
theorem wm_7_43 : Cond.constantLong RX12 293 (100) ∈ WG := wg_t7 (List.mem_of_getElem? (i := 43) rfl) rfl
theorem wm_7_44 : Cond.constantLong RX12 295 (109) ∈ WG := wg_t7 (List.mem_of_getElem? (i := 44) rfl) rfl
theorem wm_7_45 : Cond.constantLong RX12 297 (200) ∈ WG := wg_t7 (List.mem_of_getElem? (i := 45) rfl) rfl
theorem wm_7_46 : Cond.constantLong RX12 299 (209) ∈ WG := wg_t7 (List.mem_of_getElem? (i := 46) rfl) rfl
theorem wm_7_38 : Cond.methodLink RX12 304 yX12_whyNot ∈ WG := wg_t7 (List.mem_of_getElem? (i := 38) rfl) rfl
theorem wm_7_41 : Cond.code yX12_whyNot cX12_whyNot 3 (some .int) ∈ WG := wg_t7 (List.mem_of_getElem? (i := 41) rfl) rfl
theorem wm_7_40 : Cond.instanceMethod yX12_whyNot ∈ WG := wg_t7 (List.mem_of_getElem? (i := 40) rfl) rfl
theorem wp_6_8 : Cond.selects RX12 yX12_whyNot yX12_whyNot ∈ WG := wg_p (q := (yX12_whyNot, 37)) (wg_p6 (List.mem_of_getElem? (i := 8) rfl)) rfl
theorem wm_7_47 : Cond.methodLink RX12 308 yX12_does ∈ WG := wg_t7 (List.mem_of_getElem? (i := 47) rfl) rfl
theorem wm_7_50 : Cond.code yX12_does cX12_does 2 none ∈ WG := wg_t7 (List.mem_of_getElem? (i := 50) rfl) rfl
theorem wm_7_49 : Cond.instanceMethod yX12_does ∈ WG := wg_t7 (List.mem_of_getElem? (i := 49) rfl) rfl
theorem wp_6_9 : Cond.selects RX12 yX12_does yX12_does ∈ WG := wg_p (q := (yX12_does, 37)) (wg_p6 (List.mem_of_getElem? (i := 9) rfl)) rfl
theorem wm_7_34 : Cond.methodLink RX12 316 yX12_tells ∈ WG := wg_t7 (List.mem_of_getElem? (i := 34) rfl) rfl
theorem wm_7_37 : Cond.code yX12_tells cX12_tells 3 (some .int) ∈ WG := wg_t7 (List.mem_of_getElem? (i := 37) rfl) rfl
theorem wm_7_36 : Cond.instanceMethod yX12_tells ∈ WG := wg_t7 (List.mem_of_getElem? (i := 36) rfl) rfl
theorem wp_6_7 : Cond.selects RX12 yX12_tells yX12_tells ∈ WG := wg_p (q := (yX12_tells, 37)) (wg_p6 (List.mem_of_getElem? (i := 7) rfl)) rfl
theorem wm_5_189 : Cond.fieldLink RX12 39 "OppositeHouseModel" "opposed" "[I" ∈ WG := wg_t5 (List.mem_of_getElem? (i := 189) rfl) rfl
theorem wm_7_59 : Cond.methodLink RX12 340 yX12_laysOpposed ∈ WG := wg_t7 (List.mem_of_getElem? (i := 59) rfl) rfl
theorem wm_7_62 : Cond.code yX12_laysOpposed cX12_laysOpposed 4 none ∈ WG := wg_t7 (List.mem_of_getElem? (i := 62) rfl) rfl
theorem wm_7_61 : Cond.instanceMethod yX12_laysOpposed ∈ WG := wg_t7 (List.mem_of_getElem? (i := 61) rfl) rfl
theorem wp_6_12 : Cond.selects RX12 yX12_laysOpposed yX12_laysOpposed ∈ WG := wg_p (q := (yX12_laysOpposed, 37)) (wg_p6 (List.mem_of_getElem? (i := 12) rfl)) rfl
theorem wm_5_193 : Cond.fieldLink RX12 45 "OppositeHouseModel" "parted" "[I" ∈ WG := wg_t5 (List.mem_of_getElem? (i := 193) rfl) rfl
theorem wm_7_67 : Cond.methodLink RX12 337 yX12_lowest ∈ WG := wg_t7 (List.mem_of_getElem? (i := 67) rfl) rfl
theorem wm_7_69 : Cond.code yX12_lowest cX12_lowest 2 (some .int) ∈ WG := wg_t7 (List.mem_of_getElem? (i := 69) rfl) rfl
theorem wm_7_68 : Cond.static yX12_lowest ∈ WG := wg_t7 (List.mem_of_getElem? (i := 68) rfl) rfl
theorem wm_7_63 : Cond.methodLink RX12 343 yX12_laysParted ∈ WG := wg_t7 (List.mem_of_getElem? (i := 63) rfl) rfl
theorem wm_7_66 : Cond.code yX12_laysParted cX12_laysParted 5 none ∈ WG := wg_t7 (List.mem_of_getElem? (i := 66) rfl) rfl
theorem wm_7_65 : Cond.instanceMethod yX12_laysParted ∈ WG := wg_t7 (List.mem_of_getElem? (i := 65) rfl) rfl
theorem wp_6_13 : Cond.selects RX12 yX12_laysParted yX12_laysParted ∈ WG := wg_p (q := (yX12_laysParted, 37)) (wg_p6 (List.mem_of_getElem? (i := 13) rfl)) rfl
theorem wm_7_55 : Cond.methodLink RX12 346 yX12_laysNow ∈ WG := wg_t7 (List.mem_of_getElem? (i := 55) rfl) rfl
theorem wm_7_58 : Cond.code yX12_laysNow cX12_laysNow 1 none ∈ WG := wg_t7 (List.mem_of_getElem? (i := 58) rfl) rfl
theorem wm_7_57 : Cond.instanceMethod yX12_laysNow ∈ WG := wg_t7 (List.mem_of_getElem? (i := 57) rfl) rfl
theorem wp_6_11 : Cond.selects RX12 yX12_laysNow yX12_laysNow ∈ WG := wg_p (q := (yX12_laysNow, 37)) (wg_p6 (List.mem_of_getElem? (i := 11) rfl)) rfl
theorem wm_7_51 : Cond.methodLink RX12 319 yX12_sitsNow ∈ WG := wg_t7 (List.mem_of_getElem? (i := 51) rfl) rfl
theorem wm_7_54 : Cond.code yX12_sitsNow cX12_sitsNow 2 (some .boolean) ∈ WG := wg_t7 (List.mem_of_getElem? (i := 54) rfl) rfl
theorem wm_7_53 : Cond.instanceMethod yX12_sitsNow ∈ WG := wg_t7 (List.mem_of_getElem? (i := 53) rfl) rfl
theorem wp_6_10 : Cond.selects RX12 yX12_sitsNow yX12_sitsNow ∈ WG := wg_p (q := (yX12_sitsNow, 37)) (wg_p6 (List.mem_of_getElem? (i := 10) rfl)) rfl
theorem wm_7_70 : Cond.methodLink RX12 322 yX12_isAgain ∈ WG := wg_t7 (List.mem_of_getElem? (i := 70) rfl) rfl
theorem wm_7_73 : Cond.code yX12_isAgain cX12_isAgain 2 none ∈ WG := wg_t7 (List.mem_of_getElem? (i := 73) rfl) rfl
theorem wm_7_72 : Cond.instanceMethod yX12_isAgain ∈ WG := wg_t7 (List.mem_of_getElem? (i := 72) rfl) rfl
theorem wp_6_14 : Cond.selects RX12 yX12_isAgain yX12_isAgain ∈ WG := wg_p (q := (yX12_isAgain, 37)) (wg_p6 (List.mem_of_getElem? (i := 14) rfl)) rfl
theorem wm_7_82 : Cond.constantLong RX12 332 (40) ∈ WG := wg_t7 (List.mem_of_getElem? (i := 82) rfl) rfl
theorem wm_5_192 : Cond.fieldLink RX12 326 "OppositeHouseModel" "x" "I" ∈ WG := wg_t5 (List.mem_of_getElem? (i := 192) rfl) rfl
theorem wm_7_91 : Cond.constant RX12 325 (1103515245) ∈ WG := wg_t7 (List.mem_of_getElem? (i := 91) rfl) rfl
theorem wm_7_87 : Cond.methodLink RX12 329 yX12_draw ∈ WG := wg_t7 (List.mem_of_getElem? (i := 87) rfl) rfl
theorem wm_7_90 : Cond.code yX12_draw cX12_draw 2 (some .int) ∈ WG := wg_t7 (List.mem_of_getElem? (i := 90) rfl) rfl
theorem wm_7_89 : Cond.instanceMethod yX12_draw ∈ WG := wg_t7 (List.mem_of_getElem? (i := 89) rfl) rfl
theorem wp_7_0 : Cond.selects RX12 yX12_draw yX12_draw ∈ WG := wg_p (q := (yX12_draw, 37)) (wg_p7 (List.mem_of_getElem? (i := 0) rfl)) rfl
theorem wm_7_83 : Cond.methodLink RX12 334 yX12_drawn ∈ WG := wg_t7 (List.mem_of_getElem? (i := 83) rfl) rfl
theorem wm_7_86 : Cond.code yX12_drawn cX12_drawn 3 (some .int) ∈ WG := wg_t7 (List.mem_of_getElem? (i := 86) rfl) rfl
theorem wm_7_85 : Cond.instanceMethod yX12_drawn ∈ WG := wg_t7 (List.mem_of_getElem? (i := 85) rfl) rfl
theorem wp_6_15 : Cond.selects RX12 yX12_drawn yX12_drawn ∈ WG := wg_p (q := (yX12_drawn, 37)) (wg_p6 (List.mem_of_getElem? (i := 15) rfl)) rfl
theorem wm_7_100 : Cond.methodLink RX12 217 yX12_everybody ∈ WG := wg_t7 (List.mem_of_getElem? (i := 100) rfl) rfl
theorem wm_7_103 : Cond.code yX12_everybody cX12_everybody 1 (some .int) ∈ WG := wg_t7 (List.mem_of_getElem? (i := 103) rfl) rfl
theorem wm_7_102 : Cond.instanceMethod yX12_everybody ∈ WG := wg_t7 (List.mem_of_getElem? (i := 102) rfl) rfl
theorem wp_7_2 : Cond.selects RX12 yX12_everybody yX12_everybody ∈ WG := wg_p (q := (yX12_everybody, 37)) (wg_p7 (List.mem_of_getElem? (i := 2) rfl)) rfl
theorem hd_X12_whyTalk : yX12_whyTalk.cls ≠ "java/lang/invoke/MethodHandle" ∧ yX12_whyTalk.cls ≠ "java/lang/invoke/VarHandle" ∧ (parseMethodDescriptor yX12_whyTalk.desc).map (fun d => d.parameters.length) = some 2 := by decide +kernel
theorem hd_X12_keeps : yX12_keeps.cls ≠ "java/lang/invoke/MethodHandle" ∧ yX12_keeps.cls ≠ "java/lang/invoke/VarHandle" ∧ (parseMethodDescriptor yX12_keeps.desc).map (fun d => d.parameters.length) = some 0 := by decide +kernel
theorem hd_X12_sway : yX12_sway.cls ≠ "java/lang/invoke/MethodHandle" ∧ yX12_sway.cls ≠ "java/lang/invoke/VarHandle" ∧ (parseMethodDescriptor yX12_sway.desc).map (fun d => d.parameters.length) = some 3 := by decide +kernel
theorem hd_X12_talks1 : yX12_talks1.cls ≠ "java/lang/invoke/MethodHandle" ∧ yX12_talks1.cls ≠ "java/lang/invoke/VarHandle" ∧ (parseMethodDescriptor yX12_talks1.desc).map (fun d => d.parameters.length) = some 2 := by decide +kernel
theorem hd_X12_notes : yX12_notes.cls ≠ "java/lang/invoke/MethodHandle" ∧ yX12_notes.cls ≠ "java/lang/invoke/VarHandle" ∧ (parseMethodDescriptor yX12_notes.desc).map (fun d => d.parameters.length) = some 0 := by decide +kernel
theorem hd_X12_whySend : yX12_whySend.cls ≠ "java/lang/invoke/MethodHandle" ∧ yX12_whySend.cls ≠ "java/lang/invoke/VarHandle" ∧ (parseMethodDescriptor yX12_whySend.desc).map (fun d => d.parameters.length) = some 2 := by decide +kernel
theorem hd_X12_bitsOf : yX12_bitsOf.cls ≠ "java/lang/invoke/MethodHandle" ∧ yX12_bitsOf.cls ≠ "java/lang/invoke/VarHandle" ∧ (parseMethodDescriptor yX12_bitsOf.desc).map (fun d => d.parameters.length) = some 1 := by decide +kernel
theorem hd_X12_goes : yX12_goes.cls ≠ "java/lang/invoke/MethodHandle" ∧ yX12_goes.cls ≠ "java/lang/invoke/VarHandle" ∧ (parseMethodDescriptor yX12_goes.desc).map (fun d => d.parameters.length) = some 2 := by decide +kernel
theorem hd_X12_noTray : yX12_noTray.cls ≠ "java/lang/invoke/MethodHandle" ∧ yX12_noTray.cls ≠ "java/lang/invoke/VarHandle" ∧ (parseMethodDescriptor yX12_noTray.desc).map (fun d => d.parameters.length) = some 1 := by decide +kernel
theorem hd_X12_whyNot : yX12_whyNot.cls ≠ "java/lang/invoke/MethodHandle" ∧ yX12_whyNot.cls ≠ "java/lang/invoke/VarHandle" ∧ (parseMethodDescriptor yX12_whyNot.desc).map (fun d => d.parameters.length) = some 1 := by decide +kernel
theorem hd_X12_does : yX12_does.cls ≠ "java/lang/invoke/MethodHandle" ∧ yX12_does.cls ≠ "java/lang/invoke/VarHandle" ∧ (parseMethodDescriptor yX12_does.desc).map (fun d => d.parameters.length) = some 1 := by decide +kernel
theorem hd_X12_tells : yX12_tells.cls ≠ "java/lang/invoke/MethodHandle" ∧ yX12_tells.cls ≠ "java/lang/invoke/VarHandle" ∧ (parseMethodDescriptor yX12_tells.desc).map (fun d => d.parameters.length) = some 1 := by decide +kernel
theorem hd_X12_laysOpposed : yX12_laysOpposed.cls ≠ "java/lang/invoke/MethodHandle" ∧ yX12_laysOpposed.cls ≠ "java/lang/invoke/VarHandle" ∧ (parseMethodDescriptor yX12_laysOpposed.desc).map (fun d => d.parameters.length) = some 1 := by decide +kernel
theorem hd_X12_lowest : yX12_lowest.cls ≠ "java/lang/invoke/MethodHandle" ∧ yX12_lowest.cls ≠ "java/lang/invoke/VarHandle" ∧ (parseMethodDescriptor yX12_lowest.desc).map (fun d => d.parameters.length) = some 1 := by decide +kernel
theorem hd_X12_laysParted : yX12_laysParted.cls ≠ "java/lang/invoke/MethodHandle" ∧ yX12_laysParted.cls ≠ "java/lang/invoke/VarHandle" ∧ (parseMethodDescriptor yX12_laysParted.desc).map (fun d => d.parameters.length) = some 0 := by decide +kernel
theorem hd_X12_laysNow : yX12_laysNow.cls ≠ "java/lang/invoke/MethodHandle" ∧ yX12_laysNow.cls ≠ "java/lang/invoke/VarHandle" ∧ (parseMethodDescriptor yX12_laysNow.desc).map (fun d => d.parameters.length) = some 0 := by decide +kernel
theorem hd_X12_sitsNow : yX12_sitsNow.cls ≠ "java/lang/invoke/MethodHandle" ∧ yX12_sitsNow.cls ≠ "java/lang/invoke/VarHandle" ∧ (parseMethodDescriptor yX12_sitsNow.desc).map (fun d => d.parameters.length) = some 1 := by decide +kernel
theorem hd_X12_isAgain : yX12_isAgain.cls ≠ "java/lang/invoke/MethodHandle" ∧ yX12_isAgain.cls ≠ "java/lang/invoke/VarHandle" ∧ (parseMethodDescriptor yX12_isAgain.desc).map (fun d => d.parameters.length) = some 0 := by decide +kernel
theorem hd_X12_draw : yX12_draw.cls ≠ "java/lang/invoke/MethodHandle" ∧ yX12_draw.cls ≠ "java/lang/invoke/VarHandle" ∧ (parseMethodDescriptor yX12_draw.desc).map (fun d => d.parameters.length) = some 1 := by decide +kernel
theorem hd_X12_drawn : yX12_drawn.cls ≠ "java/lang/invoke/MethodHandle" ∧ yX12_drawn.cls ≠ "java/lang/invoke/VarHandle" ∧ (parseMethodDescriptor yX12_drawn.desc).map (fun d => d.parameters.length) = some 0 := by decide +kernel
theorem hd_X12_everybody : yX12_everybody.cls ≠ "java/lang/invoke/MethodHandle" ∧ yX12_everybody.cls ≠ "java/lang/invoke/VarHandle" ∧ (parseMethodDescriptor yX12_everybody.desc).map (fun d => d.parameters.length) = some 0 := by decide +kernel
theorem dX12_bitsOf_0 : decode cX12_bitsOf 0 = .ok (.iconst 0, 1) := by decide +kernel
theorem dX12_bitsOf_1 : decode cX12_bitsOf 1 = .ok (.istore_n 1, 1) := by decide +kernel
theorem dX12_bitsOf_2 : decode cX12_bitsOf 2 = .ok (.iconst 0, 1) := by decide +kernel
theorem dX12_bitsOf_3 : decode cX12_bitsOf 3 = .ok (.istore_n 2, 1) := by decide +kernel
theorem dX12_bitsOf_4 : decode cX12_bitsOf 4 = .ok (.iload_n 2, 1) := by decide +kernel
theorem dX12_bitsOf_5 : decode cX12_bitsOf 5 = .ok (.bipush 10, 2) := by decide +kernel
theorem dX12_bitsOf_7 : decode cX12_bitsOf 7 = .ok (.if_icmp .ge 17, 3) := by decide +kernel
theorem dX12_bitsOf_10 : decode cX12_bitsOf 10 = .ok (.iload_n 1, 1) := by decide +kernel
theorem dX12_bitsOf_11 : decode cX12_bitsOf 11 = .ok (.iload_n 0, 1) := by decide +kernel
theorem dX12_bitsOf_12 : decode cX12_bitsOf 12 = .ok (.iload_n 2, 1) := by decide +kernel
theorem dX12_bitsOf_13 : decode cX12_bitsOf 13 = .ok (.ishr, 1) := by decide +kernel
theorem dX12_bitsOf_14 : decode cX12_bitsOf 14 = .ok (.iconst 1, 1) := by decide +kernel
theorem dX12_bitsOf_15 : decode cX12_bitsOf 15 = .ok (.iand, 1) := by decide +kernel
theorem dX12_bitsOf_16 : decode cX12_bitsOf 16 = .ok (.iadd, 1) := by decide +kernel
theorem dX12_bitsOf_17 : decode cX12_bitsOf 17 = .ok (.istore_n 1, 1) := by decide +kernel
theorem dX12_bitsOf_18 : decode cX12_bitsOf 18 = .ok (.iinc 2 1, 3) := by decide +kernel
theorem dX12_bitsOf_21 : decode cX12_bitsOf 21 = .ok (.goto (-17), 3) := by decide +kernel
theorem dX12_bitsOf_24 : decode cX12_bitsOf 24 = .ok (.iload_n 1, 1) := by decide +kernel
theorem dX12_bitsOf_25 : decode cX12_bitsOf 25 = .ok (.ireturn, 1) := by decide +kernel
theorem dX12_call_0 : decode cX12_call 0 = .ok (.aload_n 0, 1) := by decide +kernel
theorem dX12_call_1 : decode cX12_call 1 = .ok (.iconst 0, 1) := by decide +kernel
theorem dX12_call_2 : decode cX12_call 2 = .ok (.putfield 1, 3) := by decide +kernel
theorem dX12_call_5 : decode cX12_call 5 = .ok (.aload_n 0, 1) := by decide +kernel
theorem dX12_call_6 : decode cX12_call 6 = .ok (.iload_n 1, 1) := by decide +kernel
theorem dX12_call_7 : decode cX12_call 7 = .ok (.iconst 0, 1) := by decide +kernel
theorem dX12_call_8 : decode cX12_call 8 = .ok (.invokevirtual 284, 3) := by decide +kernel
theorem dX12_call_11 : decode cX12_call 11 = .ok (.ireturn, 1) := by decide +kernel
theorem dX12_days_0 : decode cX12_days 0 = .ok (.aload_n 0, 1) := by decide +kernel
theorem dX12_days_1 : decode cX12_days 1 = .ok (.iconst 0, 1) := by decide +kernel
theorem dX12_days_2 : decode cX12_days 2 = .ok (.putfield 1, 3) := by decide +kernel
theorem dX12_days_5 : decode cX12_days 5 = .ok (.iload_n 1, 1) := by decide +kernel
theorem dX12_days_6 : decode cX12_days 6 = .ok (.i2l, 1) := by decide +kernel
theorem dX12_days_7 : decode cX12_days 7 = .ok (.lconst 1, 1) := by decide +kernel
theorem dX12_days_8 : decode cX12_days 8 = .ok (.ldc2_w 287, 3) := by decide +kernel
theorem dX12_days_11 : decode cX12_days 11 = .ok (.invokestatic 145, 3) := by decide +kernel
theorem dX12_days_14 : decode cX12_days 14 = .ok (.ifCond .ne 6, 3) := by decide +kernel
theorem dX12_days_17 : decode cX12_days 17 = .ok (.bipush (-3), 2) := by decide +kernel
theorem dX12_days_19 : decode cX12_days 19 = .ok (.ireturn, 1) := by decide +kernel
theorem dX12_days_20 : decode cX12_days 20 = .ok (.aload_n 0, 1) := by decide +kernel
theorem dX12_days_21 : decode cX12_days 21 = .ok (.invokevirtual 267, 3) := by decide +kernel
theorem dX12_days_24 : decode cX12_days 24 = .ok (.aload_n 0, 1) := by decide +kernel
theorem dX12_days_25 : decode cX12_days 25 = .ok (.getfield 13, 3) := by decide +kernel
theorem dX12_days_28 : decode cX12_days 28 = .ok (.bipush 52, 2) := by decide +kernel
theorem dX12_days_30 : decode cX12_days 30 = .ok (.dup2, 1) := by decide +kernel
theorem dX12_days_31 : decode cX12_days 31 = .ok (.iaload, 1) := by decide +kernel
theorem dX12_days_32 : decode cX12_days 32 = .ok (.iload_n 1, 1) := by decide +kernel
theorem dX12_days_33 : decode cX12_days 33 = .ok (.iadd, 1) := by decide +kernel
theorem dX12_days_34 : decode cX12_days 34 = .ok (.iastore, 1) := by decide +kernel
theorem dX12_days_35 : decode cX12_days 35 = .ok (.aload_n 0, 1) := by decide +kernel
theorem dX12_days_36 : decode cX12_days 36 = .ok (.invokevirtual 274, 3) := by decide +kernel
theorem dX12_days_39 : decode cX12_days 39 = .ok (.aload_n 0, 1) := by decide +kernel
theorem dX12_days_40 : decode cX12_days 40 = .ok (.invokevirtual 255, 3) := by decide +kernel
theorem dX12_days_43 : decode cX12_days 43 = .ok (.ireturn, 1) := by decide +kernel
theorem dX12_does_0 : decode cX12_does 0 = .ok (.iload_n 1, 1) := by decide +kernel
theorem dX12_does_1 : decode cX12_does 1 = .ok (.iconst (-1), 1) := by decide +kernel
theorem dX12_does_2 : decode cX12_does 2 = .ok (.if_icmp .ne 17, 3) := by decide +kernel
theorem dX12_does_5 : decode cX12_does 5 = .ok (.aload_n 0, 1) := by decide +kernel
theorem dX12_does_6 : decode cX12_does 6 = .ok (.getfield 13, 3) := by decide +kernel
theorem dX12_does_9 : decode cX12_does 9 = .ok (.bipush 52, 2) := by decide +kernel
theorem dX12_does_11 : decode cX12_does 11 = .ok (.dup2, 1) := by decide +kernel
theorem dX12_does_12 : decode cX12_does 12 = .ok (.iaload, 1) := by decide +kernel
theorem dX12_does_13 : decode cX12_does 13 = .ok (.iconst 1, 1) := by decide +kernel
theorem dX12_does_14 : decode cX12_does 14 = .ok (.iadd, 1) := by decide +kernel
theorem dX12_does_15 : decode cX12_does 15 = .ok (.iastore, 1) := by decide +kernel
theorem dX12_does_16 : decode cX12_does 16 = .ok (.goto 40, 3) := by decide +kernel
theorem dX12_does_19 : decode cX12_does 19 = .ok (.iload_n 1, 1) := by decide +kernel
theorem dX12_does_20 : decode cX12_does 20 = .ok (.bipush 100, 2) := by decide +kernel
theorem dX12_does_22 : decode cX12_does 22 = .ok (.if_icmp .ge 18, 3) := by decide +kernel
theorem dX12_does_25 : decode cX12_does 25 = .ok (.aload_n 0, 1) := by decide +kernel
theorem dX12_does_26 : decode cX12_does 26 = .ok (.iload_n 1, 1) := by decide +kernel
theorem dX12_does_27 : decode cX12_does 27 = .ok (.bipush 10, 2) := by decide +kernel
theorem dX12_does_29 : decode cX12_does 29 = .ok (.idiv, 1) := by decide +kernel
theorem dX12_does_30 : decode cX12_does 30 = .ok (.iload_n 1, 1) := by decide +kernel
theorem dX12_does_31 : decode cX12_does 31 = .ok (.bipush 10, 2) := by decide +kernel
theorem dX12_does_33 : decode cX12_does 33 = .ok (.irem, 1) := by decide +kernel
theorem dX12_does_34 : decode cX12_does 34 = .ok (.invokevirtual 270, 3) := by decide +kernel
theorem dX12_does_37 : decode cX12_does 37 = .ok (.goto 19, 3) := by decide +kernel
theorem dX12_does_40 : decode cX12_does 40 = .ok (.aload_n 0, 1) := by decide +kernel
theorem dX12_does_41 : decode cX12_does 41 = .ok (.getfield 13, 3) := by decide +kernel
theorem dX12_does_44 : decode cX12_does 44 = .ok (.bipush 53, 2) := by decide +kernel
theorem dX12_does_46 : decode cX12_does 46 = .ok (.dup2, 1) := by decide +kernel
theorem dX12_does_47 : decode cX12_does 47 = .ok (.iaload, 1) := by decide +kernel
theorem dX12_does_48 : decode cX12_does 48 = .ok (.iconst 1, 1) := by decide +kernel
theorem dX12_does_49 : decode cX12_does 49 = .ok (.iload_n 1, 1) := by decide +kernel
theorem dX12_does_50 : decode cX12_does 50 = .ok (.bipush 100, 2) := by decide +kernel
theorem dX12_does_52 : decode cX12_does 52 = .ok (.irem, 1) := by decide +kernel
theorem dX12_does_53 : decode cX12_does 53 = .ok (.ishl, 1) := by decide +kernel
theorem dX12_does_54 : decode cX12_does 54 = .ok (.ixor, 1) := by decide +kernel
theorem dX12_does_55 : decode cX12_does 55 = .ok (.iastore, 1) := by decide +kernel
theorem dX12_does_56 : decode cX12_does 56 = .ok (.return_, 1) := by decide +kernel
theorem dX12_draw_0 : decode cX12_draw 0 = .ok (.aload_n 0, 1) := by decide +kernel
theorem dX12_draw_1 : decode cX12_draw 1 = .ok (.ldc_w 325, 3) := by decide +kernel
theorem dX12_draw_4 : decode cX12_draw 4 = .ok (.aload_n 0, 1) := by decide +kernel
theorem dX12_draw_5 : decode cX12_draw 5 = .ok (.getfield 326, 3) := by decide +kernel
theorem dX12_draw_8 : decode cX12_draw 8 = .ok (.imul, 1) := by decide +kernel
theorem dX12_draw_9 : decode cX12_draw 9 = .ok (.sipush 12345, 3) := by decide +kernel
theorem dX12_draw_12 : decode cX12_draw 12 = .ok (.iadd, 1) := by decide +kernel
theorem dX12_draw_13 : decode cX12_draw 13 = .ok (.putfield 326, 3) := by decide +kernel
theorem dX12_draw_16 : decode cX12_draw 16 = .ok (.aload_n 0, 1) := by decide +kernel
theorem dX12_draw_17 : decode cX12_draw 17 = .ok (.getfield 326, 3) := by decide +kernel
theorem dX12_draw_20 : decode cX12_draw 20 = .ok (.bipush 16, 2) := by decide +kernel
theorem dX12_draw_22 : decode cX12_draw 22 = .ok (.iushr, 1) := by decide +kernel
theorem dX12_draw_23 : decode cX12_draw 23 = .ok (.iload_n 1, 1) := by decide +kernel
theorem dX12_draw_24 : decode cX12_draw 24 = .ok (.irem, 1) := by decide +kernel
theorem dX12_draw_25 : decode cX12_draw 25 = .ok (.ireturn, 1) := by decide +kernel
theorem dX12_drawn_0 : decode cX12_drawn 0 = .ok (.aload_n 0, 1) := by decide +kernel
theorem dX12_drawn_1 : decode cX12_drawn 1 = .ok (.iconst 4, 1) := by decide +kernel
theorem dX12_drawn_2 : decode cX12_drawn 2 = .ok (.invokevirtual 329, 3) := by decide +kernel
theorem dX12_drawn_5 : decode cX12_drawn 5 = .ok (.istore_n 1, 1) := by decide +kernel
theorem dX12_drawn_6 : decode cX12_drawn 6 = .ok (.iload_n 1, 1) := by decide +kernel
theorem dX12_drawn_7 : decode cX12_drawn 7 = .ok (.ifCond .ne 5, 3) := by decide +kernel
theorem dX12_drawn_10 : decode cX12_drawn 10 = .ok (.iconst (-1), 1) := by decide +kernel
theorem dX12_drawn_11 : decode cX12_drawn 11 = .ok (.ireturn, 1) := by decide +kernel
theorem dX12_drawn_12 : decode cX12_drawn 12 = .ok (.aload_n 0, 1) := by decide +kernel
theorem dX12_drawn_13 : decode cX12_drawn 13 = .ok (.bipush 10, 2) := by decide +kernel
theorem dX12_drawn_15 : decode cX12_drawn 15 = .ok (.invokevirtual 329, 3) := by decide +kernel
theorem dX12_drawn_18 : decode cX12_drawn 18 = .ok (.istore_n 2, 1) := by decide +kernel
theorem dX12_drawn_19 : decode cX12_drawn 19 = .ok (.iload_n 1, 1) := by decide +kernel
theorem dX12_drawn_20 : decode cX12_drawn 20 = .ok (.iconst 1, 1) := by decide +kernel
theorem dX12_drawn_21 : decode cX12_drawn 21 = .ok (.if_icmp .ne 17, 3) := by decide +kernel
theorem dX12_drawn_24 : decode cX12_drawn 24 = .ok (.bipush 10, 2) := by decide +kernel
theorem dX12_drawn_26 : decode cX12_drawn 26 = .ok (.iload_n 2, 1) := by decide +kernel
theorem dX12_drawn_27 : decode cX12_drawn 27 = .ok (.imul, 1) := by decide +kernel
theorem dX12_drawn_28 : decode cX12_drawn 28 = .ok (.aload_n 0, 1) := by decide +kernel
theorem dX12_drawn_29 : decode cX12_drawn 29 = .ok (.bipush 10, 2) := by decide +kernel
theorem dX12_drawn_31 : decode cX12_drawn 31 = .ok (.invokevirtual 329, 3) := by decide +kernel
theorem dX12_drawn_34 : decode cX12_drawn 34 = .ok (.iadd, 1) := by decide +kernel
theorem dX12_drawn_35 : decode cX12_drawn 35 = .ok (.goto 20, 3) := by decide +kernel
theorem dX12_drawn_38 : decode cX12_drawn 38 = .ok (.iload_n 1, 1) := by decide +kernel
theorem dX12_drawn_39 : decode cX12_drawn 39 = .ok (.iconst 2, 1) := by decide +kernel
theorem dX12_drawn_40 : decode cX12_drawn 40 = .ok (.if_icmp .ne 10, 3) := by decide +kernel
theorem dX12_drawn_43 : decode cX12_drawn 43 = .ok (.bipush 100, 2) := by decide +kernel
theorem dX12_drawn_45 : decode cX12_drawn 45 = .ok (.iload_n 2, 1) := by decide +kernel
theorem dX12_drawn_46 : decode cX12_drawn 46 = .ok (.iadd, 1) := by decide +kernel
theorem dX12_drawn_47 : decode cX12_drawn 47 = .ok (.goto 8, 3) := by decide +kernel
theorem dX12_drawn_50 : decode cX12_drawn 50 = .ok (.sipush 200, 3) := by decide +kernel
theorem dX12_drawn_53 : decode cX12_drawn 53 = .ok (.iload_n 2, 1) := by decide +kernel
theorem dX12_drawn_54 : decode cX12_drawn 54 = .ok (.iadd, 1) := by decide +kernel
theorem dX12_drawn_55 : decode cX12_drawn 55 = .ok (.ireturn, 1) := by decide +kernel
theorem dX12_everybody_0 : decode cX12_everybody 0 = .ok (.iconst 1, 1) := by decide +kernel
theorem dX12_everybody_1 : decode cX12_everybody 1 = .ok (.aload_n 0, 1) := by decide +kernel
theorem dX12_everybody_2 : decode cX12_everybody 2 = .ok (.getfield 13, 3) := by decide +kernel
theorem dX12_everybody_5 : decode cX12_everybody 5 = .ok (.iconst 2, 1) := by decide +kernel
theorem dX12_everybody_6 : decode cX12_everybody 6 = .ok (.iaload, 1) := by decide +kernel
theorem dX12_everybody_7 : decode cX12_everybody 7 = .ok (.ishl, 1) := by decide +kernel
theorem dX12_everybody_8 : decode cX12_everybody 8 = .ok (.iconst 1, 1) := by decide +kernel
theorem dX12_everybody_9 : decode cX12_everybody 9 = .ok (.isub, 1) := by decide +kernel
theorem dX12_everybody_10 : decode cX12_everybody 10 = .ok (.ireturn, 1) := by decide +kernel
theorem dX12_goes_0 : decode cX12_goes 0 = .ok (.aload_n 0, 1) := by decide +kernel
theorem dX12_goes_1 : decode cX12_goes 1 = .ok (.iload_n 1, 1) := by decide +kernel
theorem dX12_goes_2 : decode cX12_goes 2 = .ok (.i2l, 1) := by decide +kernel
theorem dX12_goes_3 : decode cX12_goes 3 = .ok (.iload_n 2, 1) := by decide +kernel
theorem dX12_goes_4 : decode cX12_goes 4 = .ok (.invokevirtual 277, 3) := by decide +kernel
theorem dX12_goes_7 : decode cX12_goes 7 = .ok (.istore_n 3, 1) := by decide +kernel
theorem dX12_goes_8 : decode cX12_goes 8 = .ok (.iload_n 3, 1) := by decide +kernel
theorem dX12_goes_9 : decode cX12_goes 9 = .ok (.ifCond .eq 8, 3) := by decide +kernel
theorem dX12_goes_12 : decode cX12_goes 12 = .ok (.bipush (-10), 2) := by decide +kernel
theorem dX12_goes_14 : decode cX12_goes 14 = .ok (.iload_n 3, 1) := by decide +kernel
theorem dX12_goes_15 : decode cX12_goes 15 = .ok (.isub, 1) := by decide +kernel
theorem dX12_goes_16 : decode cX12_goes 16 = .ok (.ireturn, 1) := by decide +kernel
theorem dX12_goes_17 : decode cX12_goes 17 = .ok (.aload_n 0, 1) := by decide +kernel
theorem dX12_goes_18 : decode cX12_goes 18 = .ok (.invokevirtual 267, 3) := by decide +kernel
theorem dX12_goes_21 : decode cX12_goes 21 = .ok (.aload_n 0, 1) := by decide +kernel
theorem dX12_goes_22 : decode cX12_goes 22 = .ok (.getfield 13, 3) := by decide +kernel
theorem dX12_goes_25 : decode cX12_goes 25 = .ok (.bipush 53, 2) := by decide +kernel
theorem dX12_goes_27 : decode cX12_goes 27 = .ok (.dup2, 1) := by decide +kernel
theorem dX12_goes_28 : decode cX12_goes 28 = .ok (.iaload, 1) := by decide +kernel
theorem dX12_goes_29 : decode cX12_goes 29 = .ok (.iconst 1, 1) := by decide +kernel
theorem dX12_goes_30 : decode cX12_goes 30 = .ok (.iload_n 1, 1) := by decide +kernel
theorem dX12_goes_31 : decode cX12_goes 31 = .ok (.ishl, 1) := by decide +kernel
theorem dX12_goes_32 : decode cX12_goes 32 = .ok (.ixor, 1) := by decide +kernel
theorem dX12_goes_33 : decode cX12_goes 33 = .ok (.iastore, 1) := by decide +kernel
theorem dX12_goes_34 : decode cX12_goes 34 = .ok (.aload_n 0, 1) := by decide +kernel
theorem dX12_goes_35 : decode cX12_goes 35 = .ok (.invokevirtual 274, 3) := by decide +kernel
theorem dX12_goes_38 : decode cX12_goes 38 = .ok (.aload_n 0, 1) := by decide +kernel
theorem dX12_goes_39 : decode cX12_goes 39 = .ok (.getfield 13, 3) := by decide +kernel
theorem dX12_goes_42 : decode cX12_goes 42 = .ok (.bipush 53, 2) := by decide +kernel
theorem dX12_goes_44 : decode cX12_goes 44 = .ok (.iaload, 1) := by decide +kernel
theorem dX12_goes_45 : decode cX12_goes 45 = .ok (.invokestatic 281, 3) := by decide +kernel
theorem dX12_goes_48 : decode cX12_goes 48 = .ok (.ireturn, 1) := by decide +kernel
theorem dX12_isAgain_0 : decode cX12_isAgain 0 = .ok (.iconst 0, 1) := by decide +kernel
theorem dX12_isAgain_1 : decode cX12_isAgain 1 = .ok (.istore_n 1, 1) := by decide +kernel
theorem dX12_isAgain_2 : decode cX12_isAgain 2 = .ok (.iload_n 1, 1) := by decide +kernel
theorem dX12_isAgain_3 : decode cX12_isAgain 3 = .ok (.bipush 32, 2) := by decide +kernel
theorem dX12_isAgain_5 : decode cX12_isAgain 5 = .ok (.if_icmp .ge 24, 3) := by decide +kernel
theorem dX12_isAgain_8 : decode cX12_isAgain 8 = .ok (.aload_n 0, 1) := by decide +kernel
theorem dX12_isAgain_9 : decode cX12_isAgain 9 = .ok (.getfield 13, 3) := by decide +kernel
theorem dX12_isAgain_12 : decode cX12_isAgain 12 = .ok (.bipush 52, 2) := by decide +kernel
theorem dX12_isAgain_14 : decode cX12_isAgain 14 = .ok (.iload_n 1, 1) := by decide +kernel
theorem dX12_isAgain_15 : decode cX12_isAgain 15 = .ok (.iadd, 1) := by decide +kernel
theorem dX12_isAgain_16 : decode cX12_isAgain 16 = .ok (.aload_n 0, 1) := by decide +kernel
theorem dX12_isAgain_17 : decode cX12_isAgain 17 = .ok (.getfield 42, 3) := by decide +kernel
theorem dX12_isAgain_20 : decode cX12_isAgain 20 = .ok (.iload_n 1, 1) := by decide +kernel
theorem dX12_isAgain_21 : decode cX12_isAgain 21 = .ok (.iaload, 1) := by decide +kernel
theorem dX12_isAgain_22 : decode cX12_isAgain 22 = .ok (.iastore, 1) := by decide +kernel
theorem dX12_isAgain_23 : decode cX12_isAgain 23 = .ok (.iinc 1 1, 3) := by decide +kernel
theorem dX12_isAgain_26 : decode cX12_isAgain 26 = .ok (.goto (-24), 3) := by decide +kernel
theorem dX12_isAgain_29 : decode cX12_isAgain 29 = .ok (.return_, 1) := by decide +kernel
theorem dX12_isSet_0 : decode cX12_isSet 0 = .ok (.iload_n 1, 1) := by decide +kernel
theorem dX12_isSet_1 : decode cX12_isSet 1 = .ok (.aload_n 0, 1) := by decide +kernel
theorem dX12_isSet_2 : decode cX12_isSet 2 = .ok (.invokevirtual 217, 3) := by decide +kernel
theorem dX12_isSet_5 : decode cX12_isSet 5 = .ok (.iconst (-1), 1) := by decide +kernel
theorem dX12_isSet_6 : decode cX12_isSet 6 = .ok (.ixor, 1) := by decide +kernel
theorem dX12_isSet_7 : decode cX12_isSet 7 = .ok (.iand, 1) := by decide +kernel
theorem dX12_isSet_8 : decode cX12_isSet 8 = .ok (.ifCond .ne 7, 3) := by decide +kernel
theorem dX12_isSet_11 : decode cX12_isSet 11 = .ok (.iconst 1, 1) := by decide +kernel
theorem dX12_isSet_12 : decode cX12_isSet 12 = .ok (.goto 4, 3) := by decide +kernel
theorem dX12_isSet_15 : decode cX12_isSet 15 = .ok (.iconst 0, 1) := by decide +kernel
theorem dX12_isSet_16 : decode cX12_isSet 16 = .ok (.ireturn, 1) := by decide +kernel
theorem dX12_judge_0 : decode cX12_judge 0 = .ok (.aload_n 0, 1) := by decide +kernel
theorem dX12_judge_1 : decode cX12_judge 1 = .ok (.iconst 0, 1) := by decide +kernel
theorem dX12_judge_2 : decode cX12_judge 2 = .ok (.putfield 1, 3) := by decide +kernel
theorem dX12_judge_5 : decode cX12_judge 5 = .ok (.iload_n 2, 1) := by decide +kernel
theorem dX12_judge_6 : decode cX12_judge 6 = .ok (.i2l, 1) := by decide +kernel
theorem dX12_judge_7 : decode cX12_judge 7 = .ok (.lconst 0, 1) := by decide +kernel
theorem dX12_judge_8 : decode cX12_judge 8 = .ok (.ldc2_w 311, 3) := by decide +kernel
theorem dX12_judge_11 : decode cX12_judge 11 = .ok (.invokestatic 145, 3) := by decide +kernel
theorem dX12_judge_14 : decode cX12_judge 14 = .ok (.ifCond .ne 6, 3) := by decide +kernel
theorem dX12_judge_17 : decode cX12_judge 17 = .ok (.bipush (-2), 2) := by decide +kernel
theorem dX12_judge_19 : decode cX12_judge 19 = .ok (.ireturn, 1) := by decide +kernel
theorem dX12_judge_20 : decode cX12_judge 20 = .ok (.aload_n 0, 1) := by decide +kernel
theorem dX12_judge_21 : decode cX12_judge 21 = .ok (.iload_n 1, 1) := by decide +kernel
theorem dX12_judge_22 : decode cX12_judge 22 = .ok (.invokevirtual 313, 3) := by decide +kernel
theorem dX12_judge_25 : decode cX12_judge 25 = .ok (.istore_n 3, 1) := by decide +kernel
theorem dX12_judge_26 : decode cX12_judge 26 = .ok (.iload_n 3, 1) := by decide +kernel
theorem dX12_judge_27 : decode cX12_judge 27 = .ok (.ifCond .eq 5, 3) := by decide +kernel
theorem dX12_judge_30 : decode cX12_judge 30 = .ok (.iload_n 3, 1) := by decide +kernel
theorem dX12_judge_31 : decode cX12_judge 31 = .ok (.ireturn, 1) := by decide +kernel
theorem dX12_judge_32 : decode cX12_judge 32 = .ok (.aload_n 0, 1) := by decide +kernel
theorem dX12_judge_33 : decode cX12_judge 33 = .ok (.invokevirtual 267, 3) := by decide +kernel
theorem dX12_judge_36 : decode cX12_judge 36 = .ok (.aload_n 0, 1) := by decide +kernel
theorem dX12_judge_37 : decode cX12_judge 37 = .ok (.iload_n 1, 1) := by decide +kernel
theorem dX12_judge_38 : decode cX12_judge 38 = .ok (.invokevirtual 316, 3) := by decide +kernel
theorem dX12_judge_41 : decode cX12_judge 41 = .ok (.istore 4, 2) := by decide +kernel
theorem dX12_judge_43 : decode cX12_judge 43 = .ok (.aload_n 0, 1) := by decide +kernel
theorem dX12_judge_44 : decode cX12_judge 44 = .ok (.aload_n 0, 1) := by decide +kernel
theorem dX12_judge_45 : decode cX12_judge 45 = .ok (.invokevirtual 255, 3) := by decide +kernel
theorem dX12_judge_48 : decode cX12_judge 48 = .ok (.invokevirtual 319, 3) := by decide +kernel
theorem dX12_judge_51 : decode cX12_judge 51 = .ok (.ifCond .eq 7, 3) := by decide +kernel
theorem dX12_judge_54 : decode cX12_judge 54 = .ok (.iconst 1, 1) := by decide +kernel
theorem dX12_judge_55 : decode cX12_judge 55 = .ok (.goto 4, 3) := by decide +kernel
theorem dX12_judge_58 : decode cX12_judge 58 = .ok (.iconst 0, 1) := by decide +kernel
theorem dX12_judge_59 : decode cX12_judge 59 = .ok (.istore 5, 2) := by decide +kernel
theorem dX12_judge_61 : decode cX12_judge 61 = .ok (.aload_n 0, 1) := by decide +kernel
theorem dX12_judge_62 : decode cX12_judge 62 = .ok (.getfield 13, 3) := by decide +kernel
theorem dX12_judge_65 : decode cX12_judge 65 = .ok (.bipush 52, 2) := by decide +kernel
theorem dX12_judge_67 : decode cX12_judge 67 = .ok (.iaload, 1) := by decide +kernel
theorem dX12_judge_68 : decode cX12_judge 68 = .ok (.istore 6, 2) := by decide +kernel
theorem dX12_judge_70 : decode cX12_judge 70 = .ok (.aload_n 0, 1) := by decide +kernel
theorem dX12_judge_71 : decode cX12_judge 71 = .ok (.invokevirtual 322, 3) := by decide +kernel
theorem dX12_judge_74 : decode cX12_judge 74 = .ok (.iload_n 2, 1) := by decide +kernel
theorem dX12_judge_75 : decode cX12_judge 75 = .ok (.ifCond .ne 19, 3) := by decide +kernel
theorem dX12_judge_78 : decode cX12_judge 78 = .ok (.aload_n 0, 1) := by decide +kernel
theorem dX12_judge_79 : decode cX12_judge 79 = .ok (.getfield 301, 3) := by decide +kernel
theorem dX12_judge_82 : decode cX12_judge 82 = .ok (.ifCond .ne 7, 3) := by decide +kernel
theorem dX12_judge_85 : decode cX12_judge 85 = .ok (.iconst (-1), 1) := by decide +kernel
theorem dX12_judge_86 : decode cX12_judge 86 = .ok (.goto 32, 3) := by decide +kernel
theorem dX12_judge_89 : decode cX12_judge 89 = .ok (.iload 4, 2) := by decide +kernel
theorem dX12_judge_91 : decode cX12_judge 91 = .ok (.goto 27, 3) := by decide +kernel
theorem dX12_judge_94 : decode cX12_judge 94 = .ok (.iload_n 2, 1) := by decide +kernel
theorem dX12_judge_95 : decode cX12_judge 95 = .ok (.iconst 1, 1) := by decide +kernel
theorem dX12_judge_96 : decode cX12_judge 96 = .ok (.if_icmp .ne 10, 3) := by decide +kernel
theorem dX12_judge_99 : decode cX12_judge 99 = .ok (.aload_n 0, 1) := by decide +kernel
theorem dX12_judge_100 : decode cX12_judge 100 = .ok (.getfield 301, 3) := by decide +kernel
theorem dX12_judge_103 : decode cX12_judge 103 = .ok (.goto 15, 3) := by decide +kernel
theorem dX12_judge_106 : decode cX12_judge 106 = .ok (.iload_n 2, 1) := by decide +kernel
theorem dX12_judge_107 : decode cX12_judge 107 = .ok (.iconst 2, 1) := by decide +kernel
theorem dX12_judge_108 : decode cX12_judge 108 = .ok (.if_icmp .ne 8, 3) := by decide +kernel
theorem dX12_judge_111 : decode cX12_judge 111 = .ok (.iload 5, 2) := by decide +kernel
theorem dX12_judge_113 : decode cX12_judge 113 = .ok (.goto 5, 3) := by decide +kernel
theorem dX12_judge_116 : decode cX12_judge 116 = .ok (.iload 6, 2) := by decide +kernel
theorem dX12_judge_118 : decode cX12_judge 118 = .ok (.ireturn, 1) := by decide +kernel
theorem dX12_laysNow_0 : decode cX12_laysNow 0 = .ok (.aload_n 0, 1) := by decide +kernel
theorem dX12_laysNow_1 : decode cX12_laysNow 1 = .ok (.aload_n 0, 1) := by decide +kernel
theorem dX12_laysNow_2 : decode cX12_laysNow 2 = .ok (.getfield 13, 3) := by decide +kernel
theorem dX12_laysNow_5 : decode cX12_laysNow 5 = .ok (.bipush 52, 2) := by decide +kernel
theorem dX12_laysNow_7 : decode cX12_laysNow 7 = .ok (.iaload, 1) := by decide +kernel
theorem dX12_laysNow_8 : decode cX12_laysNow 8 = .ok (.invokevirtual 340, 3) := by decide +kernel
theorem dX12_laysNow_11 : decode cX12_laysNow 11 = .ok (.aload_n 0, 1) := by decide +kernel
theorem dX12_laysNow_12 : decode cX12_laysNow 12 = .ok (.invokevirtual 343, 3) := by decide +kernel
theorem dX12_laysNow_15 : decode cX12_laysNow 15 = .ok (.return_, 1) := by decide +kernel
theorem dX12_laysOpposed_0 : decode cX12_laysOpposed 0 = .ok (.iconst 0, 1) := by decide +kernel
theorem dX12_laysOpposed_1 : decode cX12_laysOpposed 1 = .ok (.istore_n 2, 1) := by decide +kernel
theorem dX12_laysOpposed_2 : decode cX12_laysOpposed 2 = .ok (.iload_n 2, 1) := by decide +kernel
theorem dX12_laysOpposed_3 : decode cX12_laysOpposed 3 = .ok (.aload_n 0, 1) := by decide +kernel
theorem dX12_laysOpposed_4 : decode cX12_laysOpposed 4 = .ok (.getfield 13, 3) := by decide +kernel
theorem dX12_laysOpposed_7 : decode cX12_laysOpposed 7 = .ok (.iconst 2, 1) := by decide +kernel
theorem dX12_laysOpposed_8 : decode cX12_laysOpposed 8 = .ok (.iaload, 1) := by decide +kernel
theorem dX12_laysOpposed_9 : decode cX12_laysOpposed 9 = .ok (.if_icmp .ge 16, 3) := by decide +kernel
theorem dX12_laysOpposed_12 : decode cX12_laysOpposed 12 = .ok (.aload_n 0, 1) := by decide +kernel
theorem dX12_laysOpposed_13 : decode cX12_laysOpposed 13 = .ok (.getfield 39, 3) := by decide +kernel
theorem dX12_laysOpposed_16 : decode cX12_laysOpposed 16 = .ok (.iload_n 2, 1) := by decide +kernel
theorem dX12_laysOpposed_17 : decode cX12_laysOpposed 17 = .ok (.iconst 0, 1) := by decide +kernel
theorem dX12_laysOpposed_18 : decode cX12_laysOpposed 18 = .ok (.iastore, 1) := by decide +kernel
theorem dX12_laysOpposed_19 : decode cX12_laysOpposed 19 = .ok (.iinc 2 1, 3) := by decide +kernel
theorem dX12_laysOpposed_22 : decode cX12_laysOpposed 22 = .ok (.goto (-20), 3) := by decide +kernel
theorem dX12_laysOpposed_25 : decode cX12_laysOpposed 25 = .ok (.iconst 0, 1) := by decide +kernel
theorem dX12_laysOpposed_26 : decode cX12_laysOpposed 26 = .ok (.istore_n 2, 1) := by decide +kernel
theorem dX12_laysOpposed_27 : decode cX12_laysOpposed 27 = .ok (.iload_n 2, 1) := by decide +kernel
theorem dX12_laysOpposed_28 : decode cX12_laysOpposed 28 = .ok (.aload_n 0, 1) := by decide +kernel
theorem dX12_laysOpposed_29 : decode cX12_laysOpposed 29 = .ok (.getfield 13, 3) := by decide +kernel
theorem dX12_laysOpposed_32 : decode cX12_laysOpposed 32 = .ok (.iconst 2, 1) := by decide +kernel
theorem dX12_laysOpposed_33 : decode cX12_laysOpposed 33 = .ok (.iaload, 1) := by decide +kernel
theorem dX12_laysOpposed_34 : decode cX12_laysOpposed 34 = .ok (.if_icmp .ge 59, 3) := by decide +kernel
theorem dX12_laysOpposed_37 : decode cX12_laysOpposed 37 = .ok (.iconst 0, 1) := by decide +kernel
theorem dX12_laysOpposed_38 : decode cX12_laysOpposed 38 = .ok (.istore_n 3, 1) := by decide +kernel
theorem dX12_laysOpposed_39 : decode cX12_laysOpposed 39 = .ok (.iload_n 3, 1) := by decide +kernel
theorem dX12_laysOpposed_40 : decode cX12_laysOpposed 40 = .ok (.iload_n 2, 1) := by decide +kernel
theorem dX12_laysOpposed_41 : decode cX12_laysOpposed 41 = .ok (.if_icmp .ge 46, 3) := by decide +kernel
theorem dX12_laysOpposed_44 : decode cX12_laysOpposed 44 = .ok (.aload_n 0, 1) := by decide +kernel
theorem dX12_laysOpposed_45 : decode cX12_laysOpposed 45 = .ok (.iload_n 2, 1) := by decide +kernel
theorem dX12_laysOpposed_46 : decode cX12_laysOpposed 46 = .ok (.iload_n 3, 1) := by decide +kernel
theorem dX12_laysOpposed_47 : decode cX12_laysOpposed 47 = .ok (.iload_n 1, 1) := by decide +kernel
theorem dX12_laysOpposed_48 : decode cX12_laysOpposed 48 = .ok (.invokevirtual 241, 3) := by decide +kernel
theorem dX12_laysOpposed_51 : decode cX12_laysOpposed 51 = .ok (.ifCond .ne 6, 3) := by decide +kernel
theorem dX12_laysOpposed_54 : decode cX12_laysOpposed 54 = .ok (.goto 27, 3) := by decide +kernel
theorem dX12_laysOpposed_57 : decode cX12_laysOpposed 57 = .ok (.aload_n 0, 1) := by decide +kernel
theorem dX12_laysOpposed_58 : decode cX12_laysOpposed 58 = .ok (.getfield 39, 3) := by decide +kernel
theorem dX12_laysOpposed_61 : decode cX12_laysOpposed 61 = .ok (.iload_n 2, 1) := by decide +kernel
theorem dX12_laysOpposed_62 : decode cX12_laysOpposed 62 = .ok (.dup2, 1) := by decide +kernel
theorem dX12_laysOpposed_63 : decode cX12_laysOpposed 63 = .ok (.iaload, 1) := by decide +kernel
theorem dX12_laysOpposed_64 : decode cX12_laysOpposed 64 = .ok (.iconst 1, 1) := by decide +kernel
theorem dX12_laysOpposed_65 : decode cX12_laysOpposed 65 = .ok (.iload_n 3, 1) := by decide +kernel
theorem dX12_laysOpposed_66 : decode cX12_laysOpposed 66 = .ok (.ishl, 1) := by decide +kernel
theorem dX12_laysOpposed_67 : decode cX12_laysOpposed 67 = .ok (.ior, 1) := by decide +kernel
theorem dX12_laysOpposed_68 : decode cX12_laysOpposed 68 = .ok (.iastore, 1) := by decide +kernel
theorem dX12_laysOpposed_69 : decode cX12_laysOpposed 69 = .ok (.aload_n 0, 1) := by decide +kernel
theorem dX12_laysOpposed_70 : decode cX12_laysOpposed 70 = .ok (.getfield 39, 3) := by decide +kernel
theorem dX12_laysOpposed_73 : decode cX12_laysOpposed 73 = .ok (.iload_n 3, 1) := by decide +kernel
theorem dX12_laysOpposed_74 : decode cX12_laysOpposed 74 = .ok (.dup2, 1) := by decide +kernel
theorem dX12_laysOpposed_75 : decode cX12_laysOpposed 75 = .ok (.iaload, 1) := by decide +kernel
theorem dX12_laysOpposed_76 : decode cX12_laysOpposed 76 = .ok (.iconst 1, 1) := by decide +kernel
theorem dX12_laysOpposed_77 : decode cX12_laysOpposed 77 = .ok (.iload_n 2, 1) := by decide +kernel
theorem dX12_laysOpposed_78 : decode cX12_laysOpposed 78 = .ok (.ishl, 1) := by decide +kernel
theorem dX12_laysOpposed_79 : decode cX12_laysOpposed 79 = .ok (.ior, 1) := by decide +kernel
theorem dX12_laysOpposed_80 : decode cX12_laysOpposed 80 = .ok (.iastore, 1) := by decide +kernel
theorem dX12_laysOpposed_81 : decode cX12_laysOpposed 81 = .ok (.iinc 3 1, 3) := by decide +kernel
theorem dX12_laysOpposed_84 : decode cX12_laysOpposed 84 = .ok (.goto (-45), 3) := by decide +kernel
theorem dX12_laysOpposed_87 : decode cX12_laysOpposed 87 = .ok (.iinc 2 1, 3) := by decide +kernel
theorem dX12_laysOpposed_90 : decode cX12_laysOpposed 90 = .ok (.goto (-63), 3) := by decide +kernel
theorem dX12_laysOpposed_93 : decode cX12_laysOpposed 93 = .ok (.return_, 1) := by decide +kernel
theorem dX12_laysParted_0 : decode cX12_laysParted 0 = .ok (.aload_n 0, 1) := by decide +kernel
theorem dX12_laysParted_1 : decode cX12_laysParted 1 = .ok (.getfield 45, 3) := by decide +kernel
theorem dX12_laysParted_4 : decode cX12_laysParted 4 = .ok (.iconst 0, 1) := by decide +kernel
theorem dX12_laysParted_5 : decode cX12_laysParted 5 = .ok (.iconst 1, 1) := by decide +kernel
theorem dX12_laysParted_6 : decode cX12_laysParted 6 = .ok (.iastore, 1) := by decide +kernel
theorem dX12_laysParted_7 : decode cX12_laysParted 7 = .ok (.iconst 1, 1) := by decide +kernel
theorem dX12_laysParted_8 : decode cX12_laysParted 8 = .ok (.istore_n 1, 1) := by decide +kernel
theorem dX12_laysParted_9 : decode cX12_laysParted 9 = .ok (.iload_n 1, 1) := by decide +kernel
theorem dX12_laysParted_10 : decode cX12_laysParted 10 = .ok (.iconst 1, 1) := by decide +kernel
theorem dX12_laysParted_11 : decode cX12_laysParted 11 = .ok (.aload_n 0, 1) := by decide +kernel
theorem dX12_laysParted_12 : decode cX12_laysParted 12 = .ok (.getfield 13, 3) := by decide +kernel
theorem dX12_laysParted_15 : decode cX12_laysParted 15 = .ok (.iconst 2, 1) := by decide +kernel
theorem dX12_laysParted_16 : decode cX12_laysParted 16 = .ok (.iaload, 1) := by decide +kernel
theorem dX12_laysParted_17 : decode cX12_laysParted 17 = .ok (.ishl, 1) := by decide +kernel
theorem dX12_laysParted_18 : decode cX12_laysParted 18 = .ok (.if_icmp .ge 84, 3) := by decide +kernel
theorem dX12_laysParted_21 : decode cX12_laysParted 21 = .ok (.iload_n 1, 1) := by decide +kernel
theorem dX12_laysParted_22 : decode cX12_laysParted 22 = .ok (.invokestatic 337, 3) := by decide +kernel
theorem dX12_laysParted_25 : decode cX12_laysParted 25 = .ok (.istore_n 2, 1) := by decide +kernel
theorem dX12_laysParted_26 : decode cX12_laysParted 26 = .ok (.iconst 0, 1) := by decide +kernel
theorem dX12_laysParted_27 : decode cX12_laysParted 27 = .ok (.istore_n 3, 1) := by decide +kernel
theorem dX12_laysParted_28 : decode cX12_laysParted 28 = .ok (.iload_n 2, 1) := by decide +kernel
theorem dX12_laysParted_29 : decode cX12_laysParted 29 = .ok (.iconst 1, 1) := by decide +kernel
theorem dX12_laysParted_30 : decode cX12_laysParted 30 = .ok (.iadd, 1) := by decide +kernel
theorem dX12_laysParted_31 : decode cX12_laysParted 31 = .ok (.istore 4, 2) := by decide +kernel
theorem dX12_laysParted_33 : decode cX12_laysParted 33 = .ok (.iload 4, 2) := by decide +kernel
theorem dX12_laysParted_35 : decode cX12_laysParted 35 = .ok (.aload_n 0, 1) := by decide +kernel
theorem dX12_laysParted_36 : decode cX12_laysParted 36 = .ok (.getfield 13, 3) := by decide +kernel
theorem dX12_laysParted_39 : decode cX12_laysParted 39 = .ok (.iconst 2, 1) := by decide +kernel
theorem dX12_laysParted_40 : decode cX12_laysParted 40 = .ok (.iaload, 1) := by decide +kernel
theorem dX12_laysParted_41 : decode cX12_laysParted 41 = .ok (.if_icmp .ge 48, 3) := by decide +kernel
theorem dX12_laysParted_44 : decode cX12_laysParted 44 = .ok (.iload_n 1, 1) := by decide +kernel
theorem dX12_laysParted_45 : decode cX12_laysParted 45 = .ok (.aload_n 0, 1) := by decide +kernel
theorem dX12_laysParted_46 : decode cX12_laysParted 46 = .ok (.getfield 39, 3) := by decide +kernel
theorem dX12_laysParted_49 : decode cX12_laysParted 49 = .ok (.iload_n 2, 1) := by decide +kernel
theorem dX12_laysParted_50 : decode cX12_laysParted 50 = .ok (.iaload, 1) := by decide +kernel
theorem dX12_laysParted_51 : decode cX12_laysParted 51 = .ok (.iand, 1) := by decide +kernel
theorem dX12_laysParted_52 : decode cX12_laysParted 52 = .ok (.i2l, 1) := by decide +kernel
theorem dX12_laysParted_53 : decode cX12_laysParted 53 = .ok (.iload 4, 2) := by decide +kernel
theorem dX12_laysParted_55 : decode cX12_laysParted 55 = .ok (.invokestatic 251, 3) := by decide +kernel
theorem dX12_laysParted_58 : decode cX12_laysParted 58 = .ok (.ifCond .eq 25, 3) := by decide +kernel
theorem dX12_laysParted_61 : decode cX12_laysParted 61 = .ok (.iload_n 3, 1) := by decide +kernel
theorem dX12_laysParted_62 : decode cX12_laysParted 62 = .ok (.aload_n 0, 1) := by decide +kernel
theorem dX12_laysParted_63 : decode cX12_laysParted 63 = .ok (.getfield 45, 3) := by decide +kernel
theorem dX12_laysParted_66 : decode cX12_laysParted 66 = .ok (.iload_n 1, 1) := by decide +kernel
theorem dX12_laysParted_67 : decode cX12_laysParted 67 = .ok (.iconst 1, 1) := by decide +kernel
theorem dX12_laysParted_68 : decode cX12_laysParted 68 = .ok (.iload_n 2, 1) := by decide +kernel
theorem dX12_laysParted_69 : decode cX12_laysParted 69 = .ok (.ishl, 1) := by decide +kernel
theorem dX12_laysParted_70 : decode cX12_laysParted 70 = .ok (.iconst (-1), 1) := by decide +kernel
theorem dX12_laysParted_71 : decode cX12_laysParted 71 = .ok (.ixor, 1) := by decide +kernel
theorem dX12_laysParted_72 : decode cX12_laysParted 72 = .ok (.iand, 1) := by decide +kernel
theorem dX12_laysParted_73 : decode cX12_laysParted 73 = .ok (.iconst 1, 1) := by decide +kernel
theorem dX12_laysParted_74 : decode cX12_laysParted 74 = .ok (.iload 4, 2) := by decide +kernel
theorem dX12_laysParted_76 : decode cX12_laysParted 76 = .ok (.ishl, 1) := by decide +kernel
theorem dX12_laysParted_77 : decode cX12_laysParted 77 = .ok (.iconst (-1), 1) := by decide +kernel
theorem dX12_laysParted_78 : decode cX12_laysParted 78 = .ok (.ixor, 1) := by decide +kernel
theorem dX12_laysParted_79 : decode cX12_laysParted 79 = .ok (.iand, 1) := by decide +kernel
theorem dX12_laysParted_80 : decode cX12_laysParted 80 = .ok (.iaload, 1) := by decide +kernel
theorem dX12_laysParted_81 : decode cX12_laysParted 81 = .ok (.iadd, 1) := by decide +kernel
theorem dX12_laysParted_82 : decode cX12_laysParted 82 = .ok (.istore_n 3, 1) := by decide +kernel
theorem dX12_laysParted_83 : decode cX12_laysParted 83 = .ok (.iinc 4 1, 3) := by decide +kernel
theorem dX12_laysParted_86 : decode cX12_laysParted 86 = .ok (.goto (-53), 3) := by decide +kernel
theorem dX12_laysParted_89 : decode cX12_laysParted 89 = .ok (.aload_n 0, 1) := by decide +kernel
theorem dX12_laysParted_90 : decode cX12_laysParted 90 = .ok (.getfield 45, 3) := by decide +kernel
theorem dX12_laysParted_93 : decode cX12_laysParted 93 = .ok (.iload_n 1, 1) := by decide +kernel
theorem dX12_laysParted_94 : decode cX12_laysParted 94 = .ok (.iload_n 3, 1) := by decide +kernel
theorem dX12_laysParted_95 : decode cX12_laysParted 95 = .ok (.iastore, 1) := by decide +kernel
theorem dX12_laysParted_96 : decode cX12_laysParted 96 = .ok (.iinc 1 1, 3) := by decide +kernel
theorem dX12_laysParted_99 : decode cX12_laysParted 99 = .ok (.goto (-90), 3) := by decide +kernel
theorem dX12_laysParted_102 : decode cX12_laysParted 102 = .ok (.return_, 1) := by decide +kernel
theorem dX12_lowest_0 : decode cX12_lowest 0 = .ok (.iconst 0, 1) := by decide +kernel
theorem dX12_lowest_1 : decode cX12_lowest 1 = .ok (.istore_n 1, 1) := by decide +kernel
theorem dX12_lowest_2 : decode cX12_lowest 2 = .ok (.iload_n 0, 1) := by decide +kernel
theorem dX12_lowest_3 : decode cX12_lowest 3 = .ok (.i2l, 1) := by decide +kernel
theorem dX12_lowest_4 : decode cX12_lowest 4 = .ok (.iload_n 1, 1) := by decide +kernel
theorem dX12_lowest_5 : decode cX12_lowest 5 = .ok (.invokestatic 251, 3) := by decide +kernel
theorem dX12_lowest_8 : decode cX12_lowest 8 = .ok (.ifCond .ne 9, 3) := by decide +kernel
theorem dX12_lowest_11 : decode cX12_lowest 11 = .ok (.iinc 1 1, 3) := by decide +kernel
theorem dX12_lowest_14 : decode cX12_lowest 14 = .ok (.goto (-12), 3) := by decide +kernel
theorem dX12_lowest_17 : decode cX12_lowest 17 = .ok (.iload_n 1, 1) := by decide +kernel
theorem dX12_lowest_18 : decode cX12_lowest 18 = .ok (.ireturn, 1) := by decide +kernel
theorem dX12_noTray_0 : decode cX12_noTray 0 = .ok (.iload_n 1, 1) := by decide +kernel
theorem dX12_noTray_1 : decode cX12_noTray 1 = .ok (.i2l, 1) := by decide +kernel
theorem dX12_noTray_2 : decode cX12_noTray 2 = .ok (.lconst 0, 1) := by decide +kernel
theorem dX12_noTray_3 : decode cX12_noTray 3 = .ok (.ldc2_w 311, 3) := by decide +kernel
theorem dX12_noTray_6 : decode cX12_noTray 6 = .ok (.invokestatic 145, 3) := by decide +kernel
theorem dX12_noTray_9 : decode cX12_noTray 9 = .ok (.ifCond .ne 8, 3) := by decide +kernel
theorem dX12_noTray_12 : decode cX12_noTray 12 = .ok (.bipush (-2), 2) := by decide +kernel
theorem dX12_noTray_14 : decode cX12_noTray 14 = .ok (.goto 19, 3) := by decide +kernel
theorem dX12_noTray_17 : decode cX12_noTray 17 = .ok (.aload_n 0, 1) := by decide +kernel
theorem dX12_noTray_18 : decode cX12_noTray 18 = .ok (.getfield 69, 3) := by decide +kernel
theorem dX12_noTray_21 : decode cX12_noTray 21 = .ok (.iload_n 1, 1) := by decide +kernel
theorem dX12_noTray_22 : decode cX12_noTray 22 = .ok (.iaload, 1) := by decide +kernel
theorem dX12_noTray_23 : decode cX12_noTray 23 = .ok (.iconst (-1), 1) := by decide +kernel
theorem dX12_noTray_24 : decode cX12_noTray 24 = .ok (.if_icmp .ne 8, 3) := by decide +kernel
theorem dX12_noTray_27 : decode cX12_noTray 27 = .ok (.bipush (-6), 2) := by decide +kernel
theorem dX12_noTray_29 : decode cX12_noTray 29 = .ok (.goto 4, 3) := by decide +kernel
theorem dX12_noTray_32 : decode cX12_noTray 32 = .ok (.iconst 0, 1) := by decide +kernel
theorem dX12_noTray_33 : decode cX12_noTray 33 = .ok (.ireturn, 1) := by decide +kernel
theorem dX12_notes_0 : decode cX12_notes 0 = .ok (.aload_n 0, 1) := by decide +kernel
theorem dX12_notes_1 : decode cX12_notes 1 = .ok (.getfield 13, 3) := by decide +kernel
theorem dX12_notes_4 : decode cX12_notes 4 = .ok (.bipush 84, 2) := by decide +kernel
theorem dX12_notes_6 : decode cX12_notes 6 = .ok (.iaload, 1) := by decide +kernel
theorem dX12_notes_7 : decode cX12_notes 7 = .ok (.bipush 10, 2) := by decide +kernel
theorem dX12_notes_9 : decode cX12_notes 9 = .ok (.if_icmp .ne 47, 3) := by decide +kernel
theorem dX12_notes_12 : decode cX12_notes 12 = .ok (.iconst 0, 1) := by decide +kernel
theorem dX12_notes_13 : decode cX12_notes 13 = .ok (.istore_n 1, 1) := by decide +kernel
theorem dX12_notes_14 : decode cX12_notes 14 = .ok (.iload_n 1, 1) := by decide +kernel
theorem dX12_notes_15 : decode cX12_notes 15 = .ok (.sipush 288, 3) := by decide +kernel
theorem dX12_notes_18 : decode cX12_notes 18 = .ok (.if_icmp .ge 27, 3) := by decide +kernel
theorem dX12_notes_21 : decode cX12_notes 21 = .ok (.aload_n 0, 1) := by decide +kernel
theorem dX12_notes_22 : decode cX12_notes 22 = .ok (.getfield 13, 3) := by decide +kernel
theorem dX12_notes_25 : decode cX12_notes 25 = .ok (.bipush 85, 2) := by decide +kernel
theorem dX12_notes_27 : decode cX12_notes 27 = .ok (.iload_n 1, 1) := by decide +kernel
theorem dX12_notes_28 : decode cX12_notes 28 = .ok (.iadd, 1) := by decide +kernel
theorem dX12_notes_29 : decode cX12_notes 29 = .ok (.aload_n 0, 1) := by decide +kernel
theorem dX12_notes_30 : decode cX12_notes 30 = .ok (.getfield 13, 3) := by decide +kernel
theorem dX12_notes_33 : decode cX12_notes 33 = .ok (.bipush 117, 2) := by decide +kernel
theorem dX12_notes_35 : decode cX12_notes 35 = .ok (.iload_n 1, 1) := by decide +kernel
theorem dX12_notes_36 : decode cX12_notes 36 = .ok (.iadd, 1) := by decide +kernel
theorem dX12_notes_37 : decode cX12_notes 37 = .ok (.iaload, 1) := by decide +kernel
theorem dX12_notes_38 : decode cX12_notes 38 = .ok (.iastore, 1) := by decide +kernel
theorem dX12_notes_39 : decode cX12_notes 39 = .ok (.iinc 1 1, 3) := by decide +kernel
theorem dX12_notes_42 : decode cX12_notes 42 = .ok (.goto (-28), 3) := by decide +kernel
theorem dX12_notes_45 : decode cX12_notes 45 = .ok (.aload_n 0, 1) := by decide +kernel
theorem dX12_notes_46 : decode cX12_notes 46 = .ok (.getfield 13, 3) := by decide +kernel
theorem dX12_notes_49 : decode cX12_notes 49 = .ok (.bipush 84, 2) := by decide +kernel
theorem dX12_notes_51 : decode cX12_notes 51 = .ok (.dup2, 1) := by decide +kernel
theorem dX12_notes_52 : decode cX12_notes 52 = .ok (.iaload, 1) := by decide +kernel
theorem dX12_notes_53 : decode cX12_notes 53 = .ok (.iconst 1, 1) := by decide +kernel
theorem dX12_notes_54 : decode cX12_notes 54 = .ok (.isub, 1) := by decide +kernel
theorem dX12_notes_55 : decode cX12_notes 55 = .ok (.iastore, 1) := by decide +kernel
theorem dX12_notes_56 : decode cX12_notes 56 = .ok (.iconst 0, 1) := by decide +kernel
theorem dX12_notes_57 : decode cX12_notes 57 = .ok (.istore_n 1, 1) := by decide +kernel
theorem dX12_notes_58 : decode cX12_notes 58 = .ok (.iload_n 1, 1) := by decide +kernel
theorem dX12_notes_59 : decode cX12_notes 59 = .ok (.bipush 32, 2) := by decide +kernel
theorem dX12_notes_61 : decode cX12_notes 61 = .ok (.if_icmp .ge 35, 3) := by decide +kernel
theorem dX12_notes_64 : decode cX12_notes 64 = .ok (.aload_n 0, 1) := by decide +kernel
theorem dX12_notes_65 : decode cX12_notes 65 = .ok (.getfield 13, 3) := by decide +kernel
theorem dX12_notes_68 : decode cX12_notes 68 = .ok (.bipush 85, 2) := by decide +kernel
theorem dX12_notes_70 : decode cX12_notes 70 = .ok (.bipush 32, 2) := by decide +kernel
theorem dX12_notes_72 : decode cX12_notes 72 = .ok (.aload_n 0, 1) := by decide +kernel
theorem dX12_notes_73 : decode cX12_notes 73 = .ok (.getfield 13, 3) := by decide +kernel
theorem dX12_notes_76 : decode cX12_notes 76 = .ok (.bipush 84, 2) := by decide +kernel
theorem dX12_notes_78 : decode cX12_notes 78 = .ok (.iaload, 1) := by decide +kernel
theorem dX12_notes_79 : decode cX12_notes 79 = .ok (.imul, 1) := by decide +kernel
theorem dX12_notes_80 : decode cX12_notes 80 = .ok (.iadd, 1) := by decide +kernel
theorem dX12_notes_81 : decode cX12_notes 81 = .ok (.iload_n 1, 1) := by decide +kernel
theorem dX12_notes_82 : decode cX12_notes 82 = .ok (.iadd, 1) := by decide +kernel
theorem dX12_notes_83 : decode cX12_notes 83 = .ok (.aload_n 0, 1) := by decide +kernel
theorem dX12_notes_84 : decode cX12_notes 84 = .ok (.getfield 42, 3) := by decide +kernel
theorem dX12_notes_87 : decode cX12_notes 87 = .ok (.iload_n 1, 1) := by decide +kernel
theorem dX12_notes_88 : decode cX12_notes 88 = .ok (.iaload, 1) := by decide +kernel
theorem dX12_notes_89 : decode cX12_notes 89 = .ok (.iastore, 1) := by decide +kernel
theorem dX12_notes_90 : decode cX12_notes 90 = .ok (.iinc 1 1, 3) := by decide +kernel
theorem dX12_notes_93 : decode cX12_notes 93 = .ok (.goto (-35), 3) := by decide +kernel
theorem dX12_notes_96 : decode cX12_notes 96 = .ok (.aload_n 0, 1) := by decide +kernel
theorem dX12_notes_97 : decode cX12_notes 97 = .ok (.getfield 13, 3) := by decide +kernel
theorem dX12_notes_100 : decode cX12_notes 100 = .ok (.bipush 84, 2) := by decide +kernel
theorem dX12_notes_102 : decode cX12_notes 102 = .ok (.dup2, 1) := by decide +kernel
theorem dX12_notes_103 : decode cX12_notes 103 = .ok (.iaload, 1) := by decide +kernel
theorem dX12_notes_104 : decode cX12_notes 104 = .ok (.iconst 1, 1) := by decide +kernel
theorem dX12_notes_105 : decode cX12_notes 105 = .ok (.iadd, 1) := by decide +kernel
theorem dX12_notes_106 : decode cX12_notes 106 = .ok (.iastore, 1) := by decide +kernel
theorem dX12_notes_107 : decode cX12_notes 107 = .ok (.return_, 1) := by decide +kernel
theorem dX12_perform_0 : decode cX12_perform 0 = .ok (.aload_n 0, 1) := by decide +kernel
theorem dX12_perform_1 : decode cX12_perform 1 = .ok (.iconst 0, 1) := by decide +kernel
theorem dX12_perform_2 : decode cX12_perform 2 = .ok (.putfield 1, 3) := by decide +kernel
theorem dX12_perform_5 : decode cX12_perform 5 = .ok (.aload_n 0, 1) := by decide +kernel
theorem dX12_perform_6 : decode cX12_perform 6 = .ok (.iload_n 1, 1) := by decide +kernel
theorem dX12_perform_7 : decode cX12_perform 7 = .ok (.invokevirtual 313, 3) := by decide +kernel
theorem dX12_perform_10 : decode cX12_perform 10 = .ok (.istore_n 2, 1) := by decide +kernel
theorem dX12_perform_11 : decode cX12_perform 11 = .ok (.iload_n 2, 1) := by decide +kernel
theorem dX12_perform_12 : decode cX12_perform 12 = .ok (.ifCond .eq 5, 3) := by decide +kernel
theorem dX12_perform_15 : decode cX12_perform 15 = .ok (.iload_n 2, 1) := by decide +kernel
theorem dX12_perform_16 : decode cX12_perform 16 = .ok (.ireturn, 1) := by decide +kernel
theorem dX12_perform_17 : decode cX12_perform 17 = .ok (.aload_n 0, 1) := by decide +kernel
theorem dX12_perform_18 : decode cX12_perform 18 = .ok (.invokevirtual 267, 3) := by decide +kernel
theorem dX12_perform_21 : decode cX12_perform 21 = .ok (.aload_n 0, 1) := by decide +kernel
theorem dX12_perform_22 : decode cX12_perform 22 = .ok (.iload_n 1, 1) := by decide +kernel
theorem dX12_perform_23 : decode cX12_perform 23 = .ok (.invokevirtual 316, 3) := by decide +kernel
theorem dX12_perform_26 : decode cX12_perform 26 = .ok (.istore_n 3, 1) := by decide +kernel
theorem dX12_perform_27 : decode cX12_perform 27 = .ok (.iload_n 3, 1) := by decide +kernel
theorem dX12_perform_28 : decode cX12_perform 28 = .ok (.ifCond .le 7, 3) := by decide +kernel
theorem dX12_perform_31 : decode cX12_perform 31 = .ok (.aload_n 0, 1) := by decide +kernel
theorem dX12_perform_32 : decode cX12_perform 32 = .ok (.invokevirtual 274, 3) := by decide +kernel
theorem dX12_perform_35 : decode cX12_perform 35 = .ok (.iload_n 3, 1) := by decide +kernel
theorem dX12_perform_36 : decode cX12_perform 36 = .ok (.ireturn, 1) := by decide +kernel
theorem dX12_send_0 : decode cX12_send 0 = .ok (.aload_n 0, 1) := by decide +kernel
theorem dX12_send_1 : decode cX12_send 1 = .ok (.iconst 0, 1) := by decide +kernel
theorem dX12_send_2 : decode cX12_send 2 = .ok (.putfield 1, 3) := by decide +kernel
theorem dX12_send_5 : decode cX12_send 5 = .ok (.aload_n 0, 1) := by decide +kernel
theorem dX12_send_6 : decode cX12_send 6 = .ok (.iload_n 1, 1) := by decide +kernel
theorem dX12_send_7 : decode cX12_send 7 = .ok (.iconst 1, 1) := by decide +kernel
theorem dX12_send_8 : decode cX12_send 8 = .ok (.invokevirtual 284, 3) := by decide +kernel
theorem dX12_send_11 : decode cX12_send 11 = .ok (.ireturn, 1) := by decide +kernel
theorem dX12_sitsNow_0 : decode cX12_sitsNow 0 = .ok (.aload_n 0, 1) := by decide +kernel
theorem dX12_sitsNow_1 : decode cX12_sitsNow 1 = .ok (.invokevirtual 346, 3) := by decide +kernel
theorem dX12_sitsNow_4 : decode cX12_sitsNow 4 = .ok (.aload_n 0, 1) := by decide +kernel
theorem dX12_sitsNow_5 : decode cX12_sitsNow 5 = .ok (.getfield 45, 3) := by decide +kernel
theorem dX12_sitsNow_8 : decode cX12_sitsNow 8 = .ok (.iload_n 1, 1) := by decide +kernel
theorem dX12_sitsNow_9 : decode cX12_sitsNow 9 = .ok (.iaload, 1) := by decide +kernel
theorem dX12_sitsNow_10 : decode cX12_sitsNow 10 = .ok (.ifCond .le 7, 3) := by decide +kernel
theorem dX12_sitsNow_13 : decode cX12_sitsNow 13 = .ok (.iconst 1, 1) := by decide +kernel
theorem dX12_sitsNow_14 : decode cX12_sitsNow 14 = .ok (.goto 4, 3) := by decide +kernel
theorem dX12_sitsNow_17 : decode cX12_sitsNow 17 = .ok (.iconst 0, 1) := by decide +kernel
theorem dX12_sitsNow_18 : decode cX12_sitsNow 18 = .ok (.ireturn, 1) := by decide +kernel
theorem dX12_sway_0 : decode cX12_sway 0 = .ok (.aload_n 0, 1) := by decide +kernel
theorem dX12_sway_1 : decode cX12_sway 1 = .ok (.getfield 13, 3) := by decide +kernel
theorem dX12_sway_4 : decode cX12_sway 4 = .ok (.iconst 5, 1) := by decide +kernel
theorem dX12_sway_5 : decode cX12_sway 5 = .ok (.iaload, 1) := by decide +kernel
theorem dX12_sway_6 : decode cX12_sway 6 = .ok (.ifCond .ne 31, 3) := by decide +kernel
theorem dX12_sway_9 : decode cX12_sway 9 = .ok (.aload_n 0, 1) := by decide +kernel
theorem dX12_sway_10 : decode cX12_sway 10 = .ok (.getfield 13, 3) := by decide +kernel
theorem dX12_sway_13 : decode cX12_sway 13 = .ok (.bipush 54, 2) := by decide +kernel
theorem dX12_sway_15 : decode cX12_sway 15 = .ok (.iconst 3, 1) := by decide +kernel
theorem dX12_sway_16 : decode cX12_sway 16 = .ok (.iload_n 2, 1) := by decide +kernel
theorem dX12_sway_17 : decode cX12_sway 17 = .ok (.imul, 1) := by decide +kernel
theorem dX12_sway_18 : decode cX12_sway 18 = .ok (.iadd, 1) := by decide +kernel
theorem dX12_sway_19 : decode cX12_sway 19 = .ok (.iload_n 3, 1) := by decide +kernel
theorem dX12_sway_20 : decode cX12_sway 20 = .ok (.iadd, 1) := by decide +kernel
theorem dX12_sway_21 : decode cX12_sway 21 = .ok (.iaload, 1) := by decide +kernel
theorem dX12_sway_22 : decode cX12_sway 22 = .ok (.aload_n 0, 1) := by decide +kernel
theorem dX12_sway_23 : decode cX12_sway 23 = .ok (.getfield 13, 3) := by decide +kernel
theorem dX12_sway_26 : decode cX12_sway 26 = .ok (.bipush 54, 2) := by decide +kernel
theorem dX12_sway_28 : decode cX12_sway 28 = .ok (.iconst 3, 1) := by decide +kernel
theorem dX12_sway_29 : decode cX12_sway 29 = .ok (.iload_n 1, 1) := by decide +kernel
theorem dX12_sway_30 : decode cX12_sway 30 = .ok (.imul, 1) := by decide +kernel
theorem dX12_sway_31 : decode cX12_sway 31 = .ok (.iadd, 1) := by decide +kernel
theorem dX12_sway_32 : decode cX12_sway 32 = .ok (.iload_n 3, 1) := by decide +kernel
theorem dX12_sway_33 : decode cX12_sway 33 = .ok (.iadd, 1) := by decide +kernel
theorem dX12_sway_34 : decode cX12_sway 34 = .ok (.iaload, 1) := by decide +kernel
theorem dX12_sway_35 : decode cX12_sway 35 = .ok (.isub, 1) := by decide +kernel
theorem dX12_sway_36 : decode cX12_sway 36 = .ok (.ireturn, 1) := by decide +kernel
theorem dX12_sway_37 : decode cX12_sway 37 = .ok (.aload_n 0, 1) := by decide +kernel
theorem dX12_sway_38 : decode cX12_sway 38 = .ok (.iload_n 1, 1) := by decide +kernel
theorem dX12_sway_39 : decode cX12_sway 39 = .ok (.iload_n 2, 1) := by decide +kernel
theorem dX12_sway_40 : decode cX12_sway 40 = .ok (.aload_n 0, 1) := by decide +kernel
theorem dX12_sway_41 : decode cX12_sway 41 = .ok (.getfield 13, 3) := by decide +kernel
theorem dX12_sway_44 : decode cX12_sway 44 = .ok (.bipush 52, 2) := by decide +kernel
theorem dX12_sway_46 : decode cX12_sway 46 = .ok (.iaload, 1) := by decide +kernel
theorem dX12_sway_47 : decode cX12_sway 47 = .ok (.invokevirtual 231, 3) := by decide +kernel
theorem dX12_sway_50 : decode cX12_sway 50 = .ok (.aload_n 0, 1) := by decide +kernel
theorem dX12_sway_51 : decode cX12_sway 51 = .ok (.getfield 33, 3) := by decide +kernel
theorem dX12_sway_54 : decode cX12_sway 54 = .ok (.bipush 10, 2) := by decide +kernel
theorem dX12_sway_56 : decode cX12_sway 56 = .ok (.iload_n 3, 1) := by decide +kernel
theorem dX12_sway_57 : decode cX12_sway 57 = .ok (.iastore, 1) := by decide +kernel
theorem dX12_sway_58 : decode cX12_sway 58 = .ok (.aload_n 0, 1) := by decide +kernel
theorem dX12_sway_59 : decode cX12_sway 59 = .ok (.iconst 2, 1) := by decide +kernel
theorem dX12_sway_60 : decode cX12_sway 60 = .ok (.invokevirtual 235, 3) := by decide +kernel
theorem dX12_sway_63 : decode cX12_sway 63 = .ok (.ireturn, 1) := by decide +kernel
theorem dX12_talk_0 : decode cX12_talk 0 = .ok (.aload_n 0, 1) := by decide +kernel
theorem dX12_talk_1 : decode cX12_talk 1 = .ok (.iconst 0, 1) := by decide +kernel
theorem dX12_talk_2 : decode cX12_talk 2 = .ok (.putfield 1, 3) := by decide +kernel
theorem dX12_talk_5 : decode cX12_talk 5 = .ok (.aload_n 0, 1) := by decide +kernel
theorem dX12_talk_6 : decode cX12_talk 6 = .ok (.iload_n 1, 1) := by decide +kernel
theorem dX12_talk_7 : decode cX12_talk 7 = .ok (.i2l, 1) := by decide +kernel
theorem dX12_talk_8 : decode cX12_talk 8 = .ok (.iload_n 2, 1) := by decide +kernel
theorem dX12_talk_9 : decode cX12_talk 9 = .ok (.i2l, 1) := by decide +kernel
theorem dX12_talk_10 : decode cX12_talk 10 = .ok (.invokevirtual 263, 3) := by decide +kernel
theorem dX12_talk_13 : decode cX12_talk 13 = .ok (.istore_n 3, 1) := by decide +kernel
theorem dX12_talk_14 : decode cX12_talk 14 = .ok (.iload_n 3, 1) := by decide +kernel
theorem dX12_talk_15 : decode cX12_talk 15 = .ok (.ifCond .eq 8, 3) := by decide +kernel
theorem dX12_talk_18 : decode cX12_talk 18 = .ok (.bipush (-10), 2) := by decide +kernel
theorem dX12_talk_20 : decode cX12_talk 20 = .ok (.iload_n 3, 1) := by decide +kernel
theorem dX12_talk_21 : decode cX12_talk 21 = .ok (.isub, 1) := by decide +kernel
theorem dX12_talk_22 : decode cX12_talk 22 = .ok (.ireturn, 1) := by decide +kernel
theorem dX12_talk_23 : decode cX12_talk 23 = .ok (.aload_n 0, 1) := by decide +kernel
theorem dX12_talk_24 : decode cX12_talk 24 = .ok (.invokevirtual 267, 3) := by decide +kernel
theorem dX12_talk_27 : decode cX12_talk 27 = .ok (.aload_n 0, 1) := by decide +kernel
theorem dX12_talk_28 : decode cX12_talk 28 = .ok (.iload_n 1, 1) := by decide +kernel
theorem dX12_talk_29 : decode cX12_talk 29 = .ok (.iload_n 2, 1) := by decide +kernel
theorem dX12_talk_30 : decode cX12_talk 30 = .ok (.invokevirtual 270, 3) := by decide +kernel
theorem dX12_talk_33 : decode cX12_talk 33 = .ok (.aload_n 0, 1) := by decide +kernel
theorem dX12_talk_34 : decode cX12_talk 34 = .ok (.invokevirtual 274, 3) := by decide +kernel
theorem dX12_talk_37 : decode cX12_talk 37 = .ok (.aload_n 0, 1) := by decide +kernel
theorem dX12_talk_38 : decode cX12_talk 38 = .ok (.iload_n 1, 1) := by decide +kernel
theorem dX12_talk_39 : decode cX12_talk 39 = .ok (.invokevirtual 260, 3) := by decide +kernel
theorem dX12_talk_42 : decode cX12_talk 42 = .ok (.ireturn, 1) := by decide +kernel
theorem dX12_talks1_0 : decode cX12_talks1 0 = .ok (.iconst 0, 1) := by decide +kernel
theorem dX12_talks1_1 : decode cX12_talks1 1 = .ok (.istore_n 3, 1) := by decide +kernel
theorem dX12_talks1_2 : decode cX12_talks1 2 = .ok (.iload_n 3, 1) := by decide +kernel
theorem dX12_talks1_3 : decode cX12_talks1 3 = .ok (.aload_n 0, 1) := by decide +kernel
theorem dX12_talks1_4 : decode cX12_talks1 4 = .ok (.getfield 13, 3) := by decide +kernel
theorem dX12_talks1_7 : decode cX12_talks1 7 = .ok (.iconst 1, 1) := by decide +kernel
theorem dX12_talks1_8 : decode cX12_talks1 8 = .ok (.iaload, 1) := by decide +kernel
theorem dX12_talks1_9 : decode cX12_talks1 9 = .ok (.if_icmp .ge 82, 3) := by decide +kernel
theorem dX12_talks1_12 : decode cX12_talks1 12 = .ok (.aload_n 0, 1) := by decide +kernel
theorem dX12_talks1_13 : decode cX12_talks1 13 = .ok (.iload_n 1, 1) := by decide +kernel
theorem dX12_talks1_14 : decode cX12_talks1 14 = .ok (.iload_n 2, 1) := by decide +kernel
theorem dX12_talks1_15 : decode cX12_talks1 15 = .ok (.iload_n 3, 1) := by decide +kernel
theorem dX12_talks1_16 : decode cX12_talks1 16 = .ok (.invokevirtual 238, 3) := by decide +kernel
theorem dX12_talks1_19 : decode cX12_talks1 19 = .ok (.istore 4, 2) := by decide +kernel
theorem dX12_talks1_21 : decode cX12_talks1 21 = .ok (.aload_n 0, 1) := by decide +kernel
theorem dX12_talks1_22 : decode cX12_talks1 22 = .ok (.getfield 13, 3) := by decide +kernel
theorem dX12_talks1_25 : decode cX12_talks1 25 = .ok (.bipush 54, 2) := by decide +kernel
theorem dX12_talks1_27 : decode cX12_talks1 27 = .ok (.iconst 3, 1) := by decide +kernel
theorem dX12_talks1_28 : decode cX12_talks1 28 = .ok (.iload_n 1, 1) := by decide +kernel
theorem dX12_talks1_29 : decode cX12_talks1 29 = .ok (.imul, 1) := by decide +kernel
theorem dX12_talks1_30 : decode cX12_talks1 30 = .ok (.iadd, 1) := by decide +kernel
theorem dX12_talks1_31 : decode cX12_talks1 31 = .ok (.iload_n 3, 1) := by decide +kernel
theorem dX12_talks1_32 : decode cX12_talks1 32 = .ok (.iadd, 1) := by decide +kernel
theorem dX12_talks1_33 : decode cX12_talks1 33 = .ok (.iaload, 1) := by decide +kernel
theorem dX12_talks1_34 : decode cX12_talks1 34 = .ok (.iload 4, 2) := by decide +kernel
theorem dX12_talks1_36 : decode cX12_talks1 36 = .ok (.ifCond .ge 7, 3) := by decide +kernel
theorem dX12_talks1_39 : decode cX12_talks1 39 = .ok (.iconst (-1), 1) := by decide +kernel
theorem dX12_talks1_40 : decode cX12_talks1 40 = .ok (.goto 13, 3) := by decide +kernel
theorem dX12_talks1_43 : decode cX12_talks1 43 = .ok (.iload 4, 2) := by decide +kernel
theorem dX12_talks1_45 : decode cX12_talks1 45 = .ok (.ifCond .le 7, 3) := by decide +kernel
theorem dX12_talks1_48 : decode cX12_talks1 48 = .ok (.iconst 1, 1) := by decide +kernel
theorem dX12_talks1_49 : decode cX12_talks1 49 = .ok (.goto 4, 3) := by decide +kernel
theorem dX12_talks1_52 : decode cX12_talks1 52 = .ok (.iconst 0, 1) := by decide +kernel
theorem dX12_talks1_53 : decode cX12_talks1 53 = .ok (.iadd, 1) := by decide +kernel
theorem dX12_talks1_54 : decode cX12_talks1 54 = .ok (.istore 5, 2) := by decide +kernel
theorem dX12_talks1_56 : decode cX12_talks1 56 = .ok (.aload_n 0, 1) := by decide +kernel
theorem dX12_talks1_57 : decode cX12_talks1 57 = .ok (.getfield 36, 3) := by decide +kernel
theorem dX12_talks1_60 : decode cX12_talks1 60 = .ok (.iload_n 3, 1) := by decide +kernel
theorem dX12_talks1_61 : decode cX12_talks1 61 = .ok (.iload 5, 2) := by decide +kernel
theorem dX12_talks1_63 : decode cX12_talks1 63 = .ok (.ifCond .ge 7, 3) := by decide +kernel
theorem dX12_talks1_66 : decode cX12_talks1 66 = .ok (.iconst 0, 1) := by decide +kernel
theorem dX12_talks1_67 : decode cX12_talks1 67 = .ok (.goto 17, 3) := by decide +kernel
theorem dX12_talks1_70 : decode cX12_talks1 70 = .ok (.iload 5, 2) := by decide +kernel
theorem dX12_talks1_72 : decode cX12_talks1 72 = .ok (.bipush 9, 2) := by decide +kernel
theorem dX12_talks1_74 : decode cX12_talks1 74 = .ok (.if_icmp .le 8, 3) := by decide +kernel
theorem dX12_talks1_77 : decode cX12_talks1 77 = .ok (.bipush 9, 2) := by decide +kernel
theorem dX12_talks1_79 : decode cX12_talks1 79 = .ok (.goto 5, 3) := by decide +kernel
theorem dX12_talks1_82 : decode cX12_talks1 82 = .ok (.iload 5, 2) := by decide +kernel
theorem dX12_talks1_84 : decode cX12_talks1 84 = .ok (.iastore, 1) := by decide +kernel
theorem dX12_talks1_85 : decode cX12_talks1 85 = .ok (.iinc 3 1, 3) := by decide +kernel
theorem dX12_talks1_88 : decode cX12_talks1 88 = .ok (.goto (-86), 3) := by decide +kernel
theorem dX12_talks1_91 : decode cX12_talks1 91 = .ok (.iconst 0, 1) := by decide +kernel
theorem dX12_talks1_92 : decode cX12_talks1 92 = .ok (.istore_n 3, 1) := by decide +kernel
theorem dX12_talks1_93 : decode cX12_talks1 93 = .ok (.iload_n 3, 1) := by decide +kernel
theorem dX12_talks1_94 : decode cX12_talks1 94 = .ok (.aload_n 0, 1) := by decide +kernel
theorem dX12_talks1_95 : decode cX12_talks1 95 = .ok (.getfield 13, 3) := by decide +kernel
theorem dX12_talks1_98 : decode cX12_talks1 98 = .ok (.iconst 1, 1) := by decide +kernel
theorem dX12_talks1_99 : decode cX12_talks1 99 = .ok (.iaload, 1) := by decide +kernel
theorem dX12_talks1_100 : decode cX12_talks1 100 = .ok (.if_icmp .ge 28, 3) := by decide +kernel
theorem dX12_talks1_103 : decode cX12_talks1 103 = .ok (.aload_n 0, 1) := by decide +kernel
theorem dX12_talks1_104 : decode cX12_talks1 104 = .ok (.getfield 13, 3) := by decide +kernel
theorem dX12_talks1_107 : decode cX12_talks1 107 = .ok (.bipush 54, 2) := by decide +kernel
theorem dX12_talks1_109 : decode cX12_talks1 109 = .ok (.iconst 3, 1) := by decide +kernel
theorem dX12_talks1_110 : decode cX12_talks1 110 = .ok (.iload_n 1, 1) := by decide +kernel
theorem dX12_talks1_111 : decode cX12_talks1 111 = .ok (.imul, 1) := by decide +kernel
theorem dX12_talks1_112 : decode cX12_talks1 112 = .ok (.iadd, 1) := by decide +kernel
theorem dX12_talks1_113 : decode cX12_talks1 113 = .ok (.iload_n 3, 1) := by decide +kernel
theorem dX12_talks1_114 : decode cX12_talks1 114 = .ok (.iadd, 1) := by decide +kernel
theorem dX12_talks1_115 : decode cX12_talks1 115 = .ok (.aload_n 0, 1) := by decide +kernel
theorem dX12_talks1_116 : decode cX12_talks1 116 = .ok (.getfield 36, 3) := by decide +kernel
theorem dX12_talks1_119 : decode cX12_talks1 119 = .ok (.iload_n 3, 1) := by decide +kernel
theorem dX12_talks1_120 : decode cX12_talks1 120 = .ok (.iaload, 1) := by decide +kernel
theorem dX12_talks1_121 : decode cX12_talks1 121 = .ok (.iastore, 1) := by decide +kernel
theorem dX12_talks1_122 : decode cX12_talks1 122 = .ok (.iinc 3 1, 3) := by decide +kernel
theorem dX12_talks1_125 : decode cX12_talks1 125 = .ok (.goto (-32), 3) := by decide +kernel
theorem dX12_talks1_128 : decode cX12_talks1 128 = .ok (.return_, 1) := by decide +kernel
theorem dX12_tells_0 : decode cX12_tells 0 = .ok (.aload_n 0, 1) := by decide +kernel
theorem dX12_tells_1 : decode cX12_tells 1 = .ok (.iconst 0, 1) := by decide +kernel
theorem dX12_tells_2 : decode cX12_tells 2 = .ok (.putfield 301, 3) := by decide +kernel
theorem dX12_tells_5 : decode cX12_tells 5 = .ok (.iconst 0, 1) := by decide +kernel
theorem dX12_tells_6 : decode cX12_tells 6 = .ok (.istore_n 2, 1) := by decide +kernel
theorem dX12_tells_7 : decode cX12_tells 7 = .ok (.iload_n 2, 1) := by decide +kernel
theorem dX12_tells_8 : decode cX12_tells 8 = .ok (.aload_n 0, 1) := by decide +kernel
theorem dX12_tells_9 : decode cX12_tells 9 = .ok (.getfield 72, 3) := by decide +kernel
theorem dX12_tells_12 : decode cX12_tells 12 = .ok (.iload_n 1, 1) := by decide +kernel
theorem dX12_tells_13 : decode cX12_tells 13 = .ok (.iaload, 1) := by decide +kernel
theorem dX12_tells_14 : decode cX12_tells 14 = .ok (.if_icmp .ge 53, 3) := by decide +kernel
theorem dX12_tells_17 : decode cX12_tells 17 = .ok (.aload_n 0, 1) := by decide +kernel
theorem dX12_tells_18 : decode cX12_tells 18 = .ok (.aload_n 0, 1) := by decide +kernel
theorem dX12_tells_19 : decode cX12_tells 19 = .ok (.aload_n 0, 1) := by decide +kernel
theorem dX12_tells_20 : decode cX12_tells 20 = .ok (.getfield 75, 3) := by decide +kernel
theorem dX12_tells_23 : decode cX12_tells 23 = .ok (.bipush 40, 2) := by decide +kernel
theorem dX12_tells_25 : decode cX12_tells 25 = .ok (.iload_n 1, 1) := by decide +kernel
theorem dX12_tells_26 : decode cX12_tells 26 = .ok (.imul, 1) := by decide +kernel
theorem dX12_tells_27 : decode cX12_tells 27 = .ok (.iload_n 2, 1) := by decide +kernel
theorem dX12_tells_28 : decode cX12_tells 28 = .ok (.iadd, 1) := by decide +kernel
theorem dX12_tells_29 : decode cX12_tells 29 = .ok (.laload, 1) := by decide +kernel
theorem dX12_tells_30 : decode cX12_tells 30 = .ok (.invokevirtual 304, 3) := by decide +kernel
theorem dX12_tells_33 : decode cX12_tells 33 = .ok (.putfield 301, 3) := by decide +kernel
theorem dX12_tells_36 : decode cX12_tells 36 = .ok (.aload_n 0, 1) := by decide +kernel
theorem dX12_tells_37 : decode cX12_tells 37 = .ok (.getfield 301, 3) := by decide +kernel
theorem dX12_tells_40 : decode cX12_tells 40 = .ok (.ifCond .eq 5, 3) := by decide +kernel
theorem dX12_tells_43 : decode cX12_tells 43 = .ok (.iload_n 2, 1) := by decide +kernel
theorem dX12_tells_44 : decode cX12_tells 44 = .ok (.ireturn, 1) := by decide +kernel
theorem dX12_tells_45 : decode cX12_tells 45 = .ok (.aload_n 0, 1) := by decide +kernel
theorem dX12_tells_46 : decode cX12_tells 46 = .ok (.aload_n 0, 1) := by decide +kernel
theorem dX12_tells_47 : decode cX12_tells 47 = .ok (.getfield 75, 3) := by decide +kernel
theorem dX12_tells_50 : decode cX12_tells 50 = .ok (.bipush 40, 2) := by decide +kernel
theorem dX12_tells_52 : decode cX12_tells 52 = .ok (.iload_n 1, 1) := by decide +kernel
theorem dX12_tells_53 : decode cX12_tells 53 = .ok (.imul, 1) := by decide +kernel
theorem dX12_tells_54 : decode cX12_tells 54 = .ok (.iload_n 2, 1) := by decide +kernel
theorem dX12_tells_55 : decode cX12_tells 55 = .ok (.iadd, 1) := by decide +kernel
theorem dX12_tells_56 : decode cX12_tells 56 = .ok (.laload, 1) := by decide +kernel
theorem dX12_tells_57 : decode cX12_tells 57 = .ok (.l2i, 1) := by decide +kernel
theorem dX12_tells_58 : decode cX12_tells 58 = .ok (.invokevirtual 308, 3) := by decide +kernel
theorem dX12_tells_61 : decode cX12_tells 61 = .ok (.iinc 2 1, 3) := by decide +kernel
theorem dX12_tells_64 : decode cX12_tells 64 = .ok (.goto (-57), 3) := by decide +kernel
theorem dX12_tells_67 : decode cX12_tells 67 = .ok (.aload_n 0, 1) := by decide +kernel
theorem dX12_tells_68 : decode cX12_tells 68 = .ok (.getfield 72, 3) := by decide +kernel
theorem dX12_tells_71 : decode cX12_tells 71 = .ok (.iload_n 1, 1) := by decide +kernel
theorem dX12_tells_72 : decode cX12_tells 72 = .ok (.iaload, 1) := by decide +kernel
theorem dX12_tells_73 : decode cX12_tells 73 = .ok (.ireturn, 1) := by decide +kernel
theorem dX12_undo_0 : decode cX12_undo 0 = .ok (.aload_n 0, 1) := by decide +kernel
theorem dX12_undo_1 : decode cX12_undo 1 = .ok (.iconst 0, 1) := by decide +kernel
theorem dX12_undo_2 : decode cX12_undo 2 = .ok (.putfield 1, 3) := by decide +kernel
theorem dX12_undo_5 : decode cX12_undo 5 = .ok (.iload_n 1, 1) := by decide +kernel
theorem dX12_undo_6 : decode cX12_undo 6 = .ok (.i2l, 1) := by decide +kernel
theorem dX12_undo_7 : decode cX12_undo 7 = .ok (.lconst 1, 1) := by decide +kernel
theorem dX12_undo_8 : decode cX12_undo 8 = .ok (.ldc2_w 289, 3) := by decide +kernel
theorem dX12_undo_11 : decode cX12_undo 11 = .ok (.invokestatic 145, 3) := by decide +kernel
theorem dX12_undo_14 : decode cX12_undo 14 = .ok (.ifCond .eq 14, 3) := by decide +kernel
theorem dX12_undo_17 : decode cX12_undo 17 = .ok (.iload_n 1, 1) := by decide +kernel
theorem dX12_undo_18 : decode cX12_undo 18 = .ok (.aload_n 0, 1) := by decide +kernel
theorem dX12_undo_19 : decode cX12_undo 19 = .ok (.getfield 13, 3) := by decide +kernel
theorem dX12_undo_22 : decode cX12_undo 22 = .ok (.bipush 84, 2) := by decide +kernel
theorem dX12_undo_24 : decode cX12_undo 24 = .ok (.iaload, 1) := by decide +kernel
theorem dX12_undo_25 : decode cX12_undo 25 = .ok (.if_icmp .le 6, 3) := by decide +kernel
theorem dX12_undo_28 : decode cX12_undo 28 = .ok (.bipush (-3), 2) := by decide +kernel
theorem dX12_undo_30 : decode cX12_undo 30 = .ok (.ireturn, 1) := by decide +kernel
theorem dX12_undo_31 : decode cX12_undo 31 = .ok (.aload_n 0, 1) := by decide +kernel
theorem dX12_undo_32 : decode cX12_undo 32 = .ok (.getfield 13, 3) := by decide +kernel
theorem dX12_undo_35 : decode cX12_undo 35 = .ok (.bipush 84, 2) := by decide +kernel
theorem dX12_undo_37 : decode cX12_undo 37 = .ok (.dup2, 1) := by decide +kernel
theorem dX12_undo_38 : decode cX12_undo 38 = .ok (.iaload, 1) := by decide +kernel
theorem dX12_undo_39 : decode cX12_undo 39 = .ok (.iload_n 1, 1) := by decide +kernel
theorem dX12_undo_40 : decode cX12_undo 40 = .ok (.isub, 1) := by decide +kernel
theorem dX12_undo_41 : decode cX12_undo 41 = .ok (.iastore, 1) := by decide +kernel
theorem dX12_undo_42 : decode cX12_undo 42 = .ok (.iconst 0, 1) := by decide +kernel
theorem dX12_undo_43 : decode cX12_undo 43 = .ok (.istore_n 2, 1) := by decide +kernel
theorem dX12_undo_44 : decode cX12_undo 44 = .ok (.iload_n 2, 1) := by decide +kernel
theorem dX12_undo_45 : decode cX12_undo 45 = .ok (.bipush 32, 2) := by decide +kernel
theorem dX12_undo_47 : decode cX12_undo 47 = .ok (.if_icmp .ge 38, 3) := by decide +kernel
theorem dX12_undo_50 : decode cX12_undo 50 = .ok (.aload_n 0, 1) := by decide +kernel
theorem dX12_undo_51 : decode cX12_undo 51 = .ok (.getfield 13, 3) := by decide +kernel
theorem dX12_undo_54 : decode cX12_undo 54 = .ok (.bipush 52, 2) := by decide +kernel
theorem dX12_undo_56 : decode cX12_undo 56 = .ok (.iload_n 2, 1) := by decide +kernel
theorem dX12_undo_57 : decode cX12_undo 57 = .ok (.iadd, 1) := by decide +kernel
theorem dX12_undo_58 : decode cX12_undo 58 = .ok (.aload_n 0, 1) := by decide +kernel
theorem dX12_undo_59 : decode cX12_undo 59 = .ok (.getfield 13, 3) := by decide +kernel
theorem dX12_undo_62 : decode cX12_undo 62 = .ok (.bipush 85, 2) := by decide +kernel
theorem dX12_undo_64 : decode cX12_undo 64 = .ok (.bipush 32, 2) := by decide +kernel
theorem dX12_undo_66 : decode cX12_undo 66 = .ok (.aload_n 0, 1) := by decide +kernel
theorem dX12_undo_67 : decode cX12_undo 67 = .ok (.getfield 13, 3) := by decide +kernel
theorem dX12_undo_70 : decode cX12_undo 70 = .ok (.bipush 84, 2) := by decide +kernel
theorem dX12_undo_72 : decode cX12_undo 72 = .ok (.iaload, 1) := by decide +kernel
theorem dX12_undo_73 : decode cX12_undo 73 = .ok (.imul, 1) := by decide +kernel
theorem dX12_undo_74 : decode cX12_undo 74 = .ok (.iadd, 1) := by decide +kernel
theorem dX12_undo_75 : decode cX12_undo 75 = .ok (.iload_n 2, 1) := by decide +kernel
theorem dX12_undo_76 : decode cX12_undo 76 = .ok (.iadd, 1) := by decide +kernel
theorem dX12_undo_77 : decode cX12_undo 77 = .ok (.iaload, 1) := by decide +kernel
theorem dX12_undo_78 : decode cX12_undo 78 = .ok (.iastore, 1) := by decide +kernel
theorem dX12_undo_79 : decode cX12_undo 79 = .ok (.iinc 2 1, 3) := by decide +kernel
theorem dX12_undo_82 : decode cX12_undo 82 = .ok (.goto (-38), 3) := by decide +kernel
theorem dX12_undo_85 : decode cX12_undo 85 = .ok (.aload_n 0, 1) := by decide +kernel
theorem dX12_undo_86 : decode cX12_undo 86 = .ok (.getfield 13, 3) := by decide +kernel
theorem dX12_undo_89 : decode cX12_undo 89 = .ok (.bipush 84, 2) := by decide +kernel
theorem dX12_undo_91 : decode cX12_undo 91 = .ok (.iaload, 1) := by decide +kernel
theorem dX12_undo_92 : decode cX12_undo 92 = .ok (.ireturn, 1) := by decide +kernel
theorem dX12_whyNot_0 : decode cX12_whyNot 0 = .ok (.lload_n 1, 1) := by decide +kernel
theorem dX12_whyNot_1 : decode cX12_whyNot 1 = .ok (.ldc2_w 291, 3) := by decide +kernel
theorem dX12_whyNot_4 : decode cX12_whyNot 4 = .ok (.lcmp, 1) := by decide +kernel
theorem dX12_whyNot_5 : decode cX12_whyNot 5 = .ok (.ifCond .ne 5, 3) := by decide +kernel
theorem dX12_whyNot_8 : decode cX12_whyNot 8 = .ok (.iconst 0, 1) := by decide +kernel
theorem dX12_whyNot_9 : decode cX12_whyNot 9 = .ok (.ireturn, 1) := by decide +kernel
theorem dX12_whyNot_10 : decode cX12_whyNot 10 = .ok (.lload_n 1, 1) := by decide +kernel
theorem dX12_whyNot_11 : decode cX12_whyNot 11 = .ok (.lconst 0, 1) := by decide +kernel
theorem dX12_whyNot_12 : decode cX12_whyNot 12 = .ok (.ldc2_w 287, 3) := by decide +kernel
theorem dX12_whyNot_15 : decode cX12_whyNot 15 = .ok (.invokestatic 145, 3) := by decide +kernel
theorem dX12_whyNot_18 : decode cX12_whyNot 18 = .ok (.ifCond .eq 18, 3) := by decide +kernel
theorem dX12_whyNot_21 : decode cX12_whyNot 21 = .ok (.aload_n 0, 1) := by decide +kernel
theorem dX12_whyNot_22 : decode cX12_whyNot 22 = .ok (.lload_n 1, 1) := by decide +kernel
theorem dX12_whyNot_23 : decode cX12_whyNot 23 = .ok (.ldc2_w 289, 3) := by decide +kernel
theorem dX12_whyNot_26 : decode cX12_whyNot 26 = .ok (.ldiv, 1) := by decide +kernel
theorem dX12_whyNot_27 : decode cX12_whyNot 27 = .ok (.lload_n 1, 1) := by decide +kernel
theorem dX12_whyNot_28 : decode cX12_whyNot 28 = .ok (.ldc2_w 289, 3) := by decide +kernel
theorem dX12_whyNot_31 : decode cX12_whyNot 31 = .ok (.lrem, 1) := by decide +kernel
theorem dX12_whyNot_32 : decode cX12_whyNot 32 = .ok (.invokevirtual 263, 3) := by decide +kernel
theorem dX12_whyNot_35 : decode cX12_whyNot 35 = .ok (.ireturn, 1) := by decide +kernel
theorem dX12_whyNot_36 : decode cX12_whyNot 36 = .ok (.lload_n 1, 1) := by decide +kernel
theorem dX12_whyNot_37 : decode cX12_whyNot 37 = .ok (.ldc2_w 293, 3) := by decide +kernel
theorem dX12_whyNot_40 : decode cX12_whyNot 40 = .ok (.ldc2_w 295, 3) := by decide +kernel
theorem dX12_whyNot_43 : decode cX12_whyNot 43 = .ok (.invokestatic 145, 3) := by decide +kernel
theorem dX12_whyNot_46 : decode cX12_whyNot 46 = .ok (.ifCond .eq 14, 3) := by decide +kernel
theorem dX12_whyNot_49 : decode cX12_whyNot 49 = .ok (.aload_n 0, 1) := by decide +kernel
theorem dX12_whyNot_50 : decode cX12_whyNot 50 = .ok (.lload_n 1, 1) := by decide +kernel
theorem dX12_whyNot_51 : decode cX12_whyNot 51 = .ok (.ldc2_w 293, 3) := by decide +kernel
theorem dX12_whyNot_54 : decode cX12_whyNot 54 = .ok (.lsub, 1) := by decide +kernel
theorem dX12_whyNot_55 : decode cX12_whyNot 55 = .ok (.iconst 1, 1) := by decide +kernel
theorem dX12_whyNot_56 : decode cX12_whyNot 56 = .ok (.invokevirtual 277, 3) := by decide +kernel
theorem dX12_whyNot_59 : decode cX12_whyNot 59 = .ok (.ireturn, 1) := by decide +kernel
theorem dX12_whyNot_60 : decode cX12_whyNot 60 = .ok (.lload_n 1, 1) := by decide +kernel
theorem dX12_whyNot_61 : decode cX12_whyNot 61 = .ok (.ldc2_w 297, 3) := by decide +kernel
theorem dX12_whyNot_64 : decode cX12_whyNot 64 = .ok (.ldc2_w 299, 3) := by decide +kernel
theorem dX12_whyNot_67 : decode cX12_whyNot 67 = .ok (.invokestatic 145, 3) := by decide +kernel
theorem dX12_whyNot_70 : decode cX12_whyNot 70 = .ok (.ifCond .eq 16, 3) := by decide +kernel
theorem dX12_whyNot_73 : decode cX12_whyNot 73 = .ok (.aload_n 0, 1) := by decide +kernel
theorem dX12_whyNot_74 : decode cX12_whyNot 74 = .ok (.lload_n 1, 1) := by decide +kernel
theorem dX12_whyNot_75 : decode cX12_whyNot 75 = .ok (.ldc2_w 297, 3) := by decide +kernel
theorem dX12_whyNot_78 : decode cX12_whyNot 78 = .ok (.lsub, 1) := by decide +kernel
theorem dX12_whyNot_79 : decode cX12_whyNot 79 = .ok (.iconst 0, 1) := by decide +kernel
theorem dX12_whyNot_80 : decode cX12_whyNot 80 = .ok (.invokevirtual 277, 3) := by decide +kernel
theorem dX12_whyNot_83 : decode cX12_whyNot 83 = .ok (.goto 4, 3) := by decide +kernel
theorem dX12_whyNot_86 : decode cX12_whyNot 86 = .ok (.iconst 1, 1) := by decide +kernel
theorem dX12_whyNot_87 : decode cX12_whyNot 87 = .ok (.ireturn, 1) := by decide +kernel
theorem dX12_whySend_0 : decode cX12_whySend 0 = .ok (.aload_n 0, 1) := by decide +kernel
theorem dX12_whySend_1 : decode cX12_whySend 1 = .ok (.lload_n 1, 1) := by decide +kernel
theorem dX12_whySend_2 : decode cX12_whySend 2 = .ok (.invokevirtual 245, 3) := by decide +kernel
theorem dX12_whySend_5 : decode cX12_whySend 5 = .ok (.ifCond .ne 7, 3) := by decide +kernel
theorem dX12_whySend_8 : decode cX12_whySend 8 = .ok (.iconst 1, 1) := by decide +kernel
theorem dX12_whySend_9 : decode cX12_whySend 9 = .ok (.goto 24, 3) := by decide +kernel
theorem dX12_whySend_12 : decode cX12_whySend 12 = .ok (.aload_n 0, 1) := by decide +kernel
theorem dX12_whySend_13 : decode cX12_whySend 13 = .ok (.getfield 13, 3) := by decide +kernel
theorem dX12_whySend_16 : decode cX12_whySend 16 = .ok (.bipush 53, 2) := by decide +kernel
theorem dX12_whySend_18 : decode cX12_whySend 18 = .ok (.iaload, 1) := by decide +kernel
theorem dX12_whySend_19 : decode cX12_whySend 19 = .ok (.lload_n 1, 1) := by decide +kernel
theorem dX12_whySend_20 : decode cX12_whySend 20 = .ok (.l2i, 1) := by decide +kernel
theorem dX12_whySend_21 : decode cX12_whySend 21 = .ok (.ishr, 1) := by decide +kernel
theorem dX12_whySend_22 : decode cX12_whySend 22 = .ok (.iconst 1, 1) := by decide +kernel
theorem dX12_whySend_23 : decode cX12_whySend 23 = .ok (.iand, 1) := by decide +kernel
theorem dX12_whySend_24 : decode cX12_whySend 24 = .ok (.iload_n 3, 1) := by decide +kernel
theorem dX12_whySend_25 : decode cX12_whySend 25 = .ok (.if_icmp .ne 7, 3) := by decide +kernel
theorem dX12_whySend_28 : decode cX12_whySend 28 = .ok (.iconst 2, 1) := by decide +kernel
theorem dX12_whySend_29 : decode cX12_whySend 29 = .ok (.goto 4, 3) := by decide +kernel
theorem dX12_whySend_32 : decode cX12_whySend 32 = .ok (.iconst 0, 1) := by decide +kernel
theorem dX12_whySend_33 : decode cX12_whySend 33 = .ok (.ireturn, 1) := by decide +kernel
theorem dX12_year_0 : decode cX12_year 0 = .ok (.aload_n 0, 1) := by decide +kernel
theorem dX12_year_1 : decode cX12_year 1 = .ok (.iconst 0, 1) := by decide +kernel
theorem dX12_year_2 : decode cX12_year 2 = .ok (.putfield 1, 3) := by decide +kernel
theorem dX12_year_5 : decode cX12_year 5 = .ok (.iload_n 2, 1) := by decide +kernel
theorem dX12_year_6 : decode cX12_year 6 = .ok (.i2l, 1) := by decide +kernel
theorem dX12_year_7 : decode cX12_year 7 = .ok (.lconst 1, 1) := by decide +kernel
theorem dX12_year_8 : decode cX12_year 8 = .ok (.ldc2_w 332, 3) := by decide +kernel
theorem dX12_year_11 : decode cX12_year 11 = .ok (.invokestatic 145, 3) := by decide +kernel
theorem dX12_year_14 : decode cX12_year 14 = .ok (.ifCond .ne 6, 3) := by decide +kernel
theorem dX12_year_17 : decode cX12_year 17 = .ok (.bipush (-3), 2) := by decide +kernel
theorem dX12_year_19 : decode cX12_year 19 = .ok (.ireturn, 1) := by decide +kernel
theorem dX12_year_20 : decode cX12_year 20 = .ok (.aload_n 0, 1) := by decide +kernel
theorem dX12_year_21 : decode cX12_year 21 = .ok (.invokevirtual 267, 3) := by decide +kernel
theorem dX12_year_24 : decode cX12_year 24 = .ok (.aload_n 0, 1) := by decide +kernel
theorem dX12_year_25 : decode cX12_year 25 = .ok (.iload_n 1, 1) := by decide +kernel
theorem dX12_year_26 : decode cX12_year 26 = .ok (.putfield 326, 3) := by decide +kernel
theorem dX12_year_29 : decode cX12_year 29 = .ok (.iconst 0, 1) := by decide +kernel
theorem dX12_year_30 : decode cX12_year 30 = .ok (.istore_n 3, 1) := by decide +kernel
theorem dX12_year_31 : decode cX12_year 31 = .ok (.iconst 0, 1) := by decide +kernel
theorem dX12_year_32 : decode cX12_year 32 = .ok (.istore 4, 2) := by decide +kernel
theorem dX12_year_34 : decode cX12_year 34 = .ok (.iload 4, 2) := by decide +kernel
theorem dX12_year_36 : decode cX12_year 36 = .ok (.iload_n 2, 1) := by decide +kernel
theorem dX12_year_37 : decode cX12_year 37 = .ok (.if_icmp .ge 37, 3) := by decide +kernel
theorem dX12_year_40 : decode cX12_year 40 = .ok (.aload_n 0, 1) := by decide +kernel
theorem dX12_year_41 : decode cX12_year 41 = .ok (.invokevirtual 334, 3) := by decide +kernel
theorem dX12_year_44 : decode cX12_year 44 = .ok (.istore 5, 2) := by decide +kernel
theorem dX12_year_46 : decode cX12_year 46 = .ok (.aload_n 0, 1) := by decide +kernel
theorem dX12_year_47 : decode cX12_year 47 = .ok (.iload 5, 2) := by decide +kernel
theorem dX12_year_49 : decode cX12_year 49 = .ok (.i2l, 1) := by decide +kernel
theorem dX12_year_50 : decode cX12_year 50 = .ok (.invokevirtual 304, 3) := by decide +kernel
theorem dX12_year_53 : decode cX12_year 53 = .ok (.ifCond .eq 6, 3) := by decide +kernel
theorem dX12_year_56 : decode cX12_year 56 = .ok (.goto 12, 3) := by decide +kernel
theorem dX12_year_59 : decode cX12_year 59 = .ok (.aload_n 0, 1) := by decide +kernel
theorem dX12_year_60 : decode cX12_year 60 = .ok (.iload 5, 2) := by decide +kernel
theorem dX12_year_62 : decode cX12_year 62 = .ok (.invokevirtual 308, 3) := by decide +kernel
theorem dX12_year_65 : decode cX12_year 65 = .ok (.iinc 3 1, 3) := by decide +kernel
theorem dX12_year_68 : decode cX12_year 68 = .ok (.iinc 4 1, 3) := by decide +kernel
theorem dX12_year_71 : decode cX12_year 71 = .ok (.goto (-37), 3) := by decide +kernel
theorem dX12_year_74 : decode cX12_year 74 = .ok (.iload_n 3, 1) := by decide +kernel
theorem dX12_year_75 : decode cX12_year 75 = .ok (.ifCond .le 7, 3) := by decide +kernel
theorem dX12_year_78 : decode cX12_year 78 = .ok (.aload_n 0, 1) := by decide +kernel
theorem dX12_year_79 : decode cX12_year 79 = .ok (.invokevirtual 274, 3) := by decide +kernel
theorem dX12_year_82 : decode cX12_year 82 = .ok (.iload_n 3, 1) := by decide +kernel
theorem dX12_year_83 : decode cX12_year 83 = .ok (.ireturn, 1) := by decide +kernel
set_option maxHeartbeats 4000000 in
set_option maxRecDepth 100000 in
theorem gX12_sway_129f43a (l : Launch) (D : va_G) (cy : Nat → ClassId) (h0 : Nat) (h1 : Nat) (h2 : Nat) (h3 : Nat) (p0 : Int32) (p1 : Int32) (p2 : Int32) (p3 : Int32) (w0 : Value) (w1 : Value) (w2 : Value) (p4 : Int32) (p5 : Int32) (p6 : Int32) (p7 : Int32) (p8 : Int32) (p9 : Int32) (p10 : Int32) (p11 : Int32) (p12 : Int32) (p13 : Int32) (p14 : Int32) (w3 : Value) (w4 : Value) (w5 : Value) (p15 : Int32) (p16 : Int32) (w6 : Value) (w7 : Value) (w8 : Value) (p17 : Int32) (p18 : Int32) (w9 : Value) (w10 : Value) (w11 : Value) (w12 : Value) (w13 : Value) (p19 : Int32) (w14 : Value) (w15 : Value) (w16 : Value) (f0 : Nat → Int32) (p20 : Int32) (f1 : Nat → Int32) (f2 : Nat → Int32) (hp0 : 0 ≤ (p0).toInt ∧ (p0).toInt ≤ 9) (hp1 : 0 ≤ (p1).toInt ∧ (p1).toInt ≤ 9) (hp2 : 0 ≤ (p2).toInt ∧ (p2).toInt ≤ 2) (hp3 : 0 ≤ (p3).toInt ∧ (p3).toInt ≤ 0) (hp4 : 0 ≤ (p4).toInt ∧ (p4).toInt ≤ 900) (hp5 : 0 ≤ (p5).toInt ∧ (p5).toInt ≤ 900) (hp6 : 0 ≤ (p6).toInt ∧ (p6).toInt ≤ 900) (hp7 : 0 ≤ (p7).toInt ∧ (p7).toInt ≤ 900) (hp8 : (-2147483648) ≤ (p8).toInt ∧ (p8).toInt ≤ 2147483647) (hp9 : 0 ≤ (p9).toInt ∧ (p9).toInt ≤ 999) (hp10 : (-2147483648) ≤ (p10).toInt ∧ (p10).toInt ≤ 2147483647) (hp11 : (-2147483648) ≤ (p11).toInt ∧ (p11).toInt ≤ 2147483647) (hp12 : (-2147483648) ≤ (p12).toInt ∧ (p12).toInt ≤ 2147483647) (hp13 : (-2147483648) ≤ (p13).toInt ∧ (p13).toInt ≤ 2147483647) (hp14 : (-2147483648) ≤ (p14).toInt ∧ (p14).toInt ≤ 2147483647) (hp15 : (-2147483648) ≤ (p15).toInt ∧ (p15).toInt ≤ 2147483647) (hp16 : (-2147483648) ≤ (p16).toInt ∧ (p16).toInt ≤ 2147483647) (hp17 : (-2147483648) ≤ (p17).toInt ∧ (p17).toInt ≤ 2147483647) (hp18 : (-2147483648) ≤ (p18).toInt ∧ (p18).toInt ≤ 2147483647) (hp19 : (-2147483648) ≤ (p19).toInt ∧ (p19).toInt ≤ 2147483647) (hp20 : 0 ≤ (p20).toInt ∧ (p20).toInt ≤ 10) (htf0_84 : f0 84 = p20) (rf0 : AL f0) (sz : Nat) : MI l yX12_sway cX12_sway 4 .int { frames := 2, cells := 0, slots := 0, locals := 48 } [.ref h0, .int p0, .int p1, .int p2] D cy (wk_d5826a772 cy h0 p3 h1 w0 w1 w2 p4 p5 p6 p7 p8 p9 p10 p11 p12 p13 p14 h2 h3 w3 w4 w5 p15 p16 w6 w7 w8 p17 p18 w9 w10 w11 w12 w13 p19 w14 w15 w16 h1 f0 h2 f1 h3 f2) sz (fun r u => ((-2147483648) ≤ r.toInt ∧ r.toInt ≤ 2147483647) ∧ True) (fun u => (wk_d5826a772 cy h0 p3 h1 w0 w1 w2 p4 p5 p6 p7 p8 p9 p10 p11 p12 p13 p14 h2 h3 w3 w4 w5 p15 p16 w6 w7 w8 p17 p18 w9 w10 w11 w12 w13 p19 w14 w15 w16 h1 f0 h2 (u.2.1 0) h3 (u.2.1 1))) 0 0 := by
  refine q_ent (own := RX12) (by decide) rfl (Nat.le_of_ble_eq_true rfl) (fun p e s m below meth c ls X hr hlk hnm hK hT h hA hl => ?_)
  obtain ⟨hx, hb, hml, hown, ht⟩ := id X
  replace hl : lv_has ls 4 [(0, .ref h0), (1, .int p0), (2, .int p1), (3, .int p2)] := hl
  refine lv_aload_n hx hb dX12_sway_0 rfl (lv_at hl 0 rfl) ?_
  refine q_get X hK h 0 rfl rfl wf_12 1 (by decide) rfl wm_5_171 dX12_sway_1 ?_
  refine lv_iconst (v := 5) hx hb dX12_sway_4 (by decide) ?_
  refine q_iald X hK h 1 rfl (q_in (by decide +kernel)) dX12_sway_5 ?_
  obtain ⟨z_1, ez_1, hz_1⟩ := e_any (f0 5)
  refine q_c z_1 ez_1 ?_
  have ei_1 := congrArg Int32.toInt ez_1
  refine lv_if_ne (tgt := 37) hx hb dX12_sway_6 (by decide) (fun c_2 => ?_) (fun c_2 => ?_)
  · replace c_2 := i_ne (x := z_1) (y := 0) rfl (show (0 : Int32).toInt = 0 by decide) c_2
    refine lv_aload_n hx hb dX12_sway_37 rfl (lv_at hl 0 rfl) ?_
    refine lv_iload_n hx hb dX12_sway_38 rfl (lv_at hl 1 rfl) ?_
    refine lv_iload_n hx hb dX12_sway_39 rfl (lv_at hl 2 rfl) ?_
    refine lv_aload_n hx hb dX12_sway_40 rfl (lv_at hl 0 rfl) ?_
    refine q_get X hK h 0 rfl rfl wf_12 1 (by decide) rfl wm_5_171 dX12_sway_41 ?_
    refine lv_bipush (v := 52) hx hb dX12_sway_44 (by decide) ?_
    refine q_iald X hK h 1 rfl (q_in (by decide +kernel)) dX12_sway_46 ?_
    refine q_any (fun z_3 hz_3 => ?_)
    refine q_callVv (rest := []) (wr := [(h2, .inl (cy 1, 900, .inl f1))]) X hK hT hA h (fun sz => gX12_asks_64a3bea l D cy h0 h1 h3 p0 p1 z_3 p3 w0 w1 w2 p4 p5 p6 p7 p8 p9 p10 p11 p12 p13 p14 (.ref h2) w3 w4 w5 p15 p16 w6 w7 w8 p17 p18 w9 w10 w11 w12 w13 p19 w14 w15 w16 f0 p20 f2 hp0 hp1 (i_rng _) hp3 hp4 hp5 hp6 hp7 (i_rng _) hp9 (i_rng _) (i_rng _) (i_rng _) (i_rng _) (i_rng _) (i_rng _) (i_rng _) (i_rng _) (i_rng _) (i_rng _) hp20 htf0_84 rf0 sz) wm_6_191 wm_6_194 wm_1_12 hd_X12_asks wm_6_193 wp_5_12 (ci := 12) (q0 := 0) rfl rfl ⟨Nat.le_of_ble_eq_true rfl, Nat.le_of_ble_eq_true rfl⟩ hl.1 rfl (Nat.le_of_ble_eq_true rfl) dX12_sway_47 ⟨Nat.le_of_ble_eq_true rfl, Nat.le_of_ble_eq_true rfl⟩ [0, 1, 3] [2] rfl rfl (by decide) rfl rfl (fun u_4 H locs w_4 h_4 => ?_)
    clear h
    clear w_4
    replace h_4 : qW D _ _ (wk_e4244dc24 cy h2 f1 h0 p3 h1 w0 w1 w2 p4 p5 p6 p7 p8 p9 p10 p11 p12 p13 p14 h2 h3 w3 w4 w5 p15 p16 w6 w7 w8 p17 p18 w9 w10 w11 w12 w13 p19 w14 w15 w16 h1 f0 h3 (u_4.2.1 0)) _ _ := h_4
    refine lv_aload_n hx hb dX12_sway_50 rfl (lv_at hl 0 rfl) ?_
    refine q_get X hK h_4 1 rfl rfl wf_12 17 (by decide) rfl wm_5_187 dX12_sway_51 ?_
    refine lv_bipush (v := 10) hx hb dX12_sway_54 (by decide) ?_
    refine lv_iload_n hx hb dX12_sway_56 rfl (lv_at hl 3 rfl) ?_
    refine q_iast X hK h_4 3 rfl (q_in (by decide +kernel)) dX12_sway_57 (fun H locs h_6 => ?_)
    clear h_4
    replace h_6 : qW D _ _ (wk_e4244dc24 cy h2 f1 h0 p3 h1 w0 w1 w2 p4 p5 p6 p7 p8 p9 p10 p11 p12 p13 p14 h2 h3 w3 w4 w5 p15 p16 w6 w7 w8 p17 p18 w9 w10 w11 w12 w13 p19 w14 w15 w16 h1 f0 h3 (upd (u_4.2.1 0) (Int32.toNatClampNeg 10) p2)) _ _ := h_6
    obtain ⟨F_5, eF_5⟩ : ∃ z, (upd (u_4.2.1 0) (Int32.toNatClampNeg 10) p2) = z := ⟨_, rfl⟩
    rw [eF_5] at h_6
    clear eF_5
    refine lv_aload_n hx hb dX12_sway_58 rfl (lv_at hl 0 rfl) ?_
    refine lv_iconst (v := 2) hx hb dX12_sway_59 (by decide) ?_
    refine q_callVi (rest := []) (wr := []) X hK hT hA h_6 (fun sz => gX12_reckons_cad4a39 l D cy h0 h1 h2 h3 p3 w0 w1 w2 p4 p5 p6 p7 p8 p9 p10 p11 p12 p13 p14 w3 w4 w5 p15 p16 w6 w7 w8 p17 p18 w9 w10 w11 w12 w13 p19 w14 w15 w16 f0 p20 f1 F_5 hp3 hp4 hp5 hp6 hp7 (i_rng _) hp9 (i_rng _) (i_rng _) (i_rng _) (i_rng _) (i_rng _) (i_rng _) (i_rng _) (i_rng _) (i_rng _) (i_rng _) hp20 htf0_84 rf0 (al_law rf0 2 (by decide) (by show (f0 5).toInt ≠ 0; omega)) sz) wm_6_195 wm_6_198 wm_1_12 hd_X12_reckons wm_6_197 wp_5_13 (ci := 12) (q0 := 0) rfl rfl ⟨Nat.le_of_ble_eq_true rfl, Nat.le_of_ble_eq_true rfl⟩ hl.1 rfl (Nat.le_of_ble_eq_true rfl) dX12_sway_60 ⟨Nat.le_of_ble_eq_true rfl, Nat.le_of_ble_eq_true rfl⟩ [1, 2, 0, 3] [] rfl rfl (by decide) rfl rfl (fun r_7 u_7 H locs w_7 h_7 => ?_)
    clear h_6
    obtain ⟨wr_7, _⟩ := w_7
    replace h_7 : qW D _ _ (wk_d5826a772 cy h0 p3 h1 w0 w1 w2 p4 p5 p6 p7 p8 p9 p10 p11 p12 p13 p14 h2 h3 w3 w4 w5 p15 p16 w6 w7 w8 p17 p18 w9 w10 w11 w12 w13 p19 w14 w15 w16 h1 f0 h2 (u_7.2.1 0) h3 F_5) _ _ := h_7
    exact q_iret X hr hlk hK h_7 rfl (fun _ => 0, (vcons (u_7.2.1 0) (vcons F_5 (fun _ => (fun _ => 0)))), fun _ _ => 0) ⟨wr_7, trivial⟩ [0, 1, 2, 3] rfl rfl dX12_sway_63 (Nat.le_of_ble_eq_true rfl) (Nat.le_of_ble_eq_true rfl)
  · replace c_2 := i_eq (x := z_1) (y := 0) rfl (show (0 : Int32).toInt = 0 by decide) c_2
    refine lv_aload_n hx hb dX12_sway_9 rfl (lv_at hl 0 rfl) ?_
    refine q_get X hK h 0 rfl rfl wf_12 1 (by decide) rfl wm_5_171 dX12_sway_10 ?_
    refine lv_bipush (v := 54) hx hb dX12_sway_13 (by decide) ?_
    refine lv_iconst (v := 3) hx hb dX12_sway_15 (by decide) ?_
    refine lv_iload_n hx hb dX12_sway_16 rfl (lv_at hl 2 rfl) ?_
    refine lv_imul hx hb dX12_sway_17 ?_
    obtain ⟨z_8, ez_8, hz_8⟩ := e_mul (x := 3) (y := p1) (show (3 : Int32).toInt = 3 by decide) rfl (by omega) (by omega)
    refine q_c z_8 ez_8 ?_
    clear ez_8
    refine lv_iadd hx hb dX12_sway_18 ?_
    obtain ⟨z_9, ez_9, hz_9⟩ := e_add (x := 54) (y := z_8) (show (54 : Int32).toInt = 54 by decide) rfl (by omega) (by omega)
    refine q_c z_9 ez_9 ?_
    clear ez_9
    refine lv_iload_n hx hb dX12_sway_19 rfl (lv_at hl 3 rfl) ?_
    refine lv_iadd hx hb dX12_sway_20 ?_
    obtain ⟨z_10, ez_10, hz_10⟩ := e_add (x := z_9) (y := p2) rfl rfl (by omega) (by omega)
    refine q_c z_10 ez_10 ?_
    clear ez_10
    refine q_iald X hK h 1 rfl (i_in rfl (by omega) (by omega)) dX12_sway_21 ?_
    obtain ⟨z_11, ez_11, hz_11⟩ := al_W rf0 (x := z_10) rfl (by omega) (by omega)
    refine q_c z_11 ez_11 ?_
    clear ez_11
    refine lv_aload_n hx hb dX12_sway_22 rfl (lv_at hl 0 rfl) ?_
    refine q_get X hK h 0 rfl rfl wf_12 1 (by decide) rfl wm_5_171 dX12_sway_23 ?_
    refine lv_bipush (v := 54) hx hb dX12_sway_26 (by decide) ?_
    refine lv_iconst (v := 3) hx hb dX12_sway_28 (by decide) ?_
    refine lv_iload_n hx hb dX12_sway_29 rfl (lv_at hl 1 rfl) ?_
    refine lv_imul hx hb dX12_sway_30 ?_
    obtain ⟨z_12, ez_12, hz_12⟩ := e_mul (x := 3) (y := p0) (show (3 : Int32).toInt = 3 by decide) rfl (by omega) (by omega)
    refine q_c z_12 ez_12 ?_
    clear ez_12
    refine lv_iadd hx hb dX12_sway_31 ?_
    obtain ⟨z_13, ez_13, hz_13⟩ := e_add (x := 54) (y := z_12) (show (54 : Int32).toInt = 54 by decide) rfl (by omega) (by omega)
    refine q_c z_13 ez_13 ?_
    clear ez_13
    refine lv_iload_n hx hb dX12_sway_32 rfl (lv_at hl 3 rfl) ?_
    refine lv_iadd hx hb dX12_sway_33 ?_
    obtain ⟨z_14, ez_14, hz_14⟩ := e_add (x := z_13) (y := p2) rfl rfl (by omega) (by omega)
    refine q_c z_14 ez_14 ?_
    clear ez_14
    refine q_iald X hK h 1 rfl (i_in rfl (by omega) (by omega)) dX12_sway_34 ?_
    obtain ⟨z_15, ez_15, hz_15⟩ := al_W rf0 (x := z_14) rfl (by omega) (by omega)
    refine q_c z_15 ez_15 ?_
    clear ez_15
    refine lv_isub hx hb dX12_sway_35 ?_
    obtain ⟨z_16, ez_16, hz_16⟩ := e_sub (x := z_11) (y := z_15) rfl rfl (by omega) (by omega)
    refine q_c z_16 ez_16 ?_
    clear ez_16
    exact q_iret X hr hlk hK h rfl (fun _ => 0, (vcons f1 (vcons f2 (fun _ => (fun _ => 0)))), fun _ _ => 0) ⟨⟨by omega, by omega⟩, trivial⟩ [0, 1, 2, 3] rfl rfl dX12_sway_36 (Nat.le_of_ble_eq_true rfl) (Nat.le_of_ble_eq_true rfl)
set_option maxHeartbeats 4000000 in
set_option maxRecDepth 100000 in
theorem gX12_talks1_48107b5 (l : Launch) (D : va_G) (cy : Nat → ClassId) (h0 : Nat) (h1 : Nat) (h2 : Nat) (h3 : Nat) (h4 : Nat) (p0 : Int32) (p1 : Int32) (p2 : Int32) (w0 : Value) (w1 : Value) (w2 : Value) (p3 : Int32) (p4 : Int32) (p5 : Int32) (p6 : Int32) (p7 : Int32) (p8 : Int32) (p9 : Int32) (p10 : Int32) (p11 : Int32) (p12 : Int32) (p13 : Int32) (w3 : Value) (w4 : Value) (p14 : Int32) (p15 : Int32) (w5 : Value) (w6 : Value) (w7 : Value) (p16 : Int32) (p17 : Int32) (w8 : Value) (w9 : Value) (w10 : Value) (w11 : Value) (w12 : Value) (p18 : Int32) (w13 : Value) (w14 : Value) (w15 : Value) (f0 : Nat → Int32) (p19 : Int32) (f1 : Nat → Int32) (f2 : Nat → Int32) (f3 : Nat → Int32) (hp0 : 0 ≤ (p0).toInt ∧ (p0).toInt ≤ 9) (hp1 : 0 ≤ (p1).toInt ∧ (p1).toInt ≤ 9) (hp2 : 0 ≤ (p2).toInt ∧ (p2).toInt ≤ 0) (hp3 : 0 ≤ (p3).toInt ∧ (p3).toInt ≤ 900) (hp4 : 0 ≤ (p4).toInt ∧ (p4).toInt ≤ 900) (hp5 : 0 ≤ (p5).toInt ∧ (p5).toInt ≤ 900) (hp6 : 0 ≤ (p6).toInt ∧ (p6).toInt ≤ 900) (hp7 : (-2147483648) ≤ (p7).toInt ∧ (p7).toInt ≤ 2147483647) (hp8 : 0 ≤ (p8).toInt ∧ (p8).toInt ≤ 999) (hp9 : (-2147483648) ≤ (p9).toInt ∧ (p9).toInt ≤ 2147483647) (hp10 : (-2147483648) ≤ (p10).toInt ∧ (p10).toInt ≤ 2147483647) (hp11 : (-2147483648) ≤ (p11).toInt ∧ (p11).toInt ≤ 2147483647) (hp12 : (-2147483648) ≤ (p12).toInt ∧ (p12).toInt ≤ 2147483647) (hp13 : (-2147483648) ≤ (p13).toInt ∧ (p13).toInt ≤ 2147483647) (hp14 : (-2147483648) ≤ (p14).toInt ∧ (p14).toInt ≤ 2147483647) (hp15 : (-2147483648) ≤ (p15).toInt ∧ (p15).toInt ≤ 2147483647) (hp16 : (-2147483648) ≤ (p16).toInt ∧ (p16).toInt ≤ 2147483647) (hp17 : (-2147483648) ≤ (p17).toInt ∧ (p17).toInt ≤ 2147483647) (hp18 : (-2147483648) ≤ (p18).toInt ∧ (p18).toInt ≤ 2147483647) (hp19 : 0 ≤ (p19).toInt ∧ (p19).toInt ≤ 10) (htf0_84 : f0 84 = p19) (rf0 : AL f0) (rf3 : RG f3 3 0 9) (sz : Nat) : MV l yX12_talks1 cX12_talks1 6 { frames := 3, cells := 0, slots := 0, locals := 71 } [.ref h0, .int p0, .int p1] D cy (wk_2bcb35d7d cy h0 p2 h1 w0 w1 w2 p3 p4 p5 p6 p7 p8 p9 p10 p11 p12 p13 h2 h3 h4 w3 w4 p14 p15 w5 w6 w7 p16 p17 w8 w9 w10 w11 w12 p18 w13 w14 w15 h1 f0 h2 f1 h3 f2 h4 f3) sz (fun u => AL (u.2.1 0) ∧ RG (u.2.1 3) 3 0 9 ∧ (u.2.1 0) 84 = p19 ∧ True) (fun u => (wk_2bcb35d7d cy h0 p2 h1 w0 w1 w2 p3 p4 p5 p6 p7 p8 p9 p10 p11 p12 p13 h2 h3 h4 w3 w4 p14 p15 w5 w6 w7 p16 p17 w8 w9 w10 w11 w12 p18 w13 w14 w15 h1 (u.2.1 0) h2 (u.2.1 1) h3 (u.2.1 2) h4 (u.2.1 3))) 0 0 := by
  refine q_ent (own := RX12) (by decide) rfl (Nat.le_of_ble_eq_true rfl) (fun p e s m below meth c ls X hr hlk hnm hK hT h hA hl => ?_)
  obtain ⟨hx, hb, hml, hown, ht⟩ := id X
  replace hl : lv_has ls 6 [(0, .ref h0), (1, .int p0), (2, .int p1)] := hl
  refine lv_iconst (v := 0) hx hb dX12_talks1_0 (by decide) ?_
  refine lv_istore_n (lv' := [(3, .int 0), (0, .ref h0), (1, .int p0), (2, .int p1)]) hx hb dX12_talks1_1 rfl hl (by decide) rfl (fun ls_1 hl_1 => ?_)
  clear hl
  refine q_wl (fun (v2_2_0 : Int32) H locs ls => ∃ v2_2_1 : Nat → Int32, ∃ v2_2_2 : Nat → Int32, ∃ v2_2_3 : Nat → Int32, (0 ≤ (v2_2_0).toInt ∧ (v2_2_0).toInt ≤ 3) ∧ RG v2_2_1 3 0 9 ∧ qW D (va_A (wk_2bcb35d7d cy h0 p2 h1 w0 w1 w2 p3 p4 p5 p6 p7 p8 p9 p10 p11 p12 p13 h2 h3 h4 w3 w4 p14 p15 w5 w6 w7 p16 p17 w8 w9 w10 w11 w12 p18 w13 w14 w15 h1 f0 h2 f1 h3 f2 h4 f3) sz) s.heap (wk_2bcb35d7d cy h0 p2 h1 w0 w1 w2 p3 p4 p5 p6 p7 p8 p9 p10 p11 p12 p13 h2 h3 h4 w3 w4 p14 p15 w5 w6 w7 p16 p17 w8 w9 w10 w11 w12 p18 w13 w14 w15 h1 f0 h2 v2_2_2 h3 v2_2_3 h4 v2_2_1) H locs ∧ lv_has ls 6 [(0, .ref h0), (1, .int p0), (2, .int p1), (3, .int v2_2_0)]) (fun (v2_2_0 : Int32) => (4 - (v2_2_0).toInt).toNat) (fun q_2 ih_2 H locs ls hP => ?_) 0 ⟨f3, f1, f2, ⟨by decide +kernel, by decide +kernel⟩, (rg_wide rf3 (by decide) (by decide)), h, (lv_sub hl_1 [1, 2, 3, 0] rfl)⟩
  obtain ⟨v2_2_0, rfl⟩ : ∃ z, z = q_2 := ⟨_, rfl⟩
  obtain ⟨v2_2_1, v2_2_2, v2_2_3, hv2_2_0, rv2_2_1, h, hl⟩ := hP
  refine lv_iload_n hx hb dX12_talks1_2 rfl (lv_at hl 3 rfl) ?_
  refine lv_aload_n hx hb dX12_talks1_3 rfl (lv_at hl 0 rfl) ?_
  refine q_get X hK h 0 rfl rfl wf_12 1 (by decide) rfl wm_5_171 dX12_talks1_4 ?_
  refine lv_iconst (v := 1) hx hb dX12_talks1_7 (by decide) ?_
  refine q_iald X hK h 1 rfl (q_in (by decide +kernel)) dX12_talks1_8 ?_
  obtain ⟨z_3, ez_3, hz_3⟩ := al_V rf0 (x := 1) (show (1 : Int32).toInt = 1 by decide) (by omega) (by omega)
  refine q_c z_3 ez_3 ?_
  clear ez_3
  refine lv_icmp_ge (tgt := 91) hx hb dX12_talks1_9 (by decide) (fun c_4 => ?_) (fun c_4 => ?_)
  · replace c_4 := i_le (x := z_3) (y := v2_2_0) rfl rfl c_4
    refine lv_iconst (v := 0) hx hb dX12_talks1_91 (by decide) ?_
    refine lv_istore_n (lv' := [(3, .int 0), (0, .ref h0), (1, .int p0), (2, .int p1)]) hx hb dX12_talks1_92 rfl hl (by decide) rfl (fun ls_5 hl_5 => ?_)
    clear hl
    refine q_wl (fun (v93_6_0 : Int32) H locs ls => ∃ v93_6_1 : Nat → Int32, (0 ≤ (v93_6_0).toInt ∧ (v93_6_0).toInt ≤ 3) ∧ v93_6_1 84 = p19 ∧ AL v93_6_1 ∧ qW D (va_A (wk_2bcb35d7d cy h0 p2 h1 w0 w1 w2 p3 p4 p5 p6 p7 p8 p9 p10 p11 p12 p13 h2 h3 h4 w3 w4 p14 p15 w5 w6 w7 p16 p17 w8 w9 w10 w11 w12 p18 w13 w14 w15 h1 f0 h2 f1 h3 f2 h4 f3) sz) s.heap (wk_2bcb35d7d cy h0 p2 h1 w0 w1 w2 p3 p4 p5 p6 p7 p8 p9 p10 p11 p12 p13 h2 h3 h4 w3 w4 p14 p15 w5 w6 w7 p16 p17 w8 w9 w10 w11 w12 p18 w13 w14 w15 h1 v93_6_1 h2 v2_2_2 h3 v2_2_3 h4 v2_2_1) H locs ∧ lv_has ls 6 [(0, .ref h0), (1, .int p0), (2, .int p1), (3, .int v93_6_0)]) (fun (v93_6_0 : Int32) => (4 - (v93_6_0).toInt).toNat) (fun q_93 ih_93 H locs ls hP => ?_) 0 ⟨f0, ⟨by decide +kernel, by decide +kernel⟩, htf0_84, rf0, h, (lv_sub hl_5 [1, 2, 3, 0] rfl)⟩
    obtain ⟨v93_6_0, rfl⟩ : ∃ z, z = q_93 := ⟨_, rfl⟩
    obtain ⟨v93_6_1, hv93_6_0, trv93_6_1_84, rv93_6_1, h, hl⟩ := hP
    refine lv_iload_n hx hb dX12_talks1_93 rfl (lv_at hl 3 rfl) ?_
    refine lv_aload_n hx hb dX12_talks1_94 rfl (lv_at hl 0 rfl) ?_
    refine q_get X hK h 0 rfl rfl wf_12 1 (by decide) rfl wm_5_171 dX12_talks1_95 ?_
    refine lv_iconst (v := 1) hx hb dX12_talks1_98 (by decide) ?_
    refine q_iald X hK h 1 rfl (q_in (by decide +kernel)) dX12_talks1_99 ?_
    obtain ⟨z_7, ez_7, hz_7⟩ := al_V rv93_6_1 (x := 1) (show (1 : Int32).toInt = 1 by decide) (by omega) (by omega)
    refine q_c z_7 ez_7 ?_
    clear ez_7
    refine lv_icmp_ge (tgt := 128) hx hb dX12_talks1_100 (by decide) (fun c_8 => ?_) (fun c_8 => ?_)
    · replace c_8 := i_le (x := z_7) (y := v93_6_0) rfl rfl c_8
      exact q_vret X hr hlk hK h (fun _ => 0, (vcons v93_6_1 (vcons v2_2_2 (vcons v2_2_3 (vcons v2_2_1 (fun _ => (fun _ => 0)))))), fun _ _ => 0) ⟨rv93_6_1, (rg_wide rv2_2_1 (by decide) (by decide)), trv93_6_1_84, trivial⟩ [0, 1, 2, 3, 4] rfl rfl dX12_talks1_128 (Nat.le_of_ble_eq_true rfl) (Nat.le_of_ble_eq_true rfl)
    · replace c_8 := i_nle (x := z_7) (y := v93_6_0) rfl rfl c_8
      refine lv_aload_n hx hb dX12_talks1_103 rfl (lv_at hl 0 rfl) ?_
      refine q_get X hK h 0 rfl rfl wf_12 1 (by decide) rfl wm_5_171 dX12_talks1_104 ?_
      refine lv_bipush (v := 54) hx hb dX12_talks1_107 (by decide) ?_
      refine lv_iconst (v := 3) hx hb dX12_talks1_109 (by decide) ?_
      refine lv_iload_n hx hb dX12_talks1_110 rfl (lv_at hl 1 rfl) ?_
      refine lv_imul hx hb dX12_talks1_111 ?_
      obtain ⟨z_9, ez_9, hz_9⟩ := e_mul (x := 3) (y := p0) (show (3 : Int32).toInt = 3 by decide) rfl (by omega) (by omega)
      refine q_c z_9 ez_9 ?_
      clear ez_9
      refine lv_iadd hx hb dX12_talks1_112 ?_
      obtain ⟨z_10, ez_10, hz_10⟩ := e_add (x := 54) (y := z_9) (show (54 : Int32).toInt = 54 by decide) rfl (by omega) (by omega)
      refine q_c z_10 ez_10 ?_
      clear ez_10
      refine lv_iload_n hx hb dX12_talks1_113 rfl (lv_at hl 3 rfl) ?_
      refine lv_iadd hx hb dX12_talks1_114 ?_
      obtain ⟨z_11, ez_11, hz_11⟩ := e_add (x := z_10) (y := v93_6_0) rfl rfl (by omega) (by omega)
      refine q_c z_11 ez_11 ?_
      clear ez_11
      refine lv_aload_n hx hb dX12_talks1_115 rfl (lv_at hl 0 rfl) ?_
      refine q_get X hK h 0 rfl rfl wf_12 18 (by decide) rfl wm_5_188 dX12_talks1_116 ?_
      refine lv_iload_n hx hb dX12_talks1_119 rfl (lv_at hl 3 rfl) ?_
      refine q_iald X hK h 4 rfl (i_in rfl (by omega) (by omega)) dX12_talks1_120 ?_
      obtain ⟨z_12, ez_12, hz_12⟩ := rg_get rv2_2_1 (x := v93_6_0) rfl (by omega) (by omega)
      refine q_c z_12 ez_12 ?_
      clear ez_12
      refine q_iast X hK h 1 rfl (i_in rfl (by omega) (by omega)) dX12_talks1_121 (fun H locs h_14 => ?_)
      clear h
      replace h_14 : qW D _ _ (wk_2bcb35d7d cy h0 p2 h1 w0 w1 w2 p3 p4 p5 p6 p7 p8 p9 p10 p11 p12 p13 h2 h3 h4 w3 w4 p14 p15 w5 w6 w7 p16 p17 w8 w9 w10 w11 w12 p18 w13 w14 w15 h1 (upd v93_6_1 (Int32.toNatClampNeg z_11) z_12) h2 v2_2_2 h3 v2_2_3 h4 v2_2_1) _ _ := h_14
      obtain ⟨F_13, eF_13, rF_13⟩ := al_upd rv93_6_1 (i := z_11) (x := z_12) rfl rfl (by omega)
      have trF_13_84 := (tr_ne eF_13 trv93_6_1_84 rfl (by omega))
      rw [eF_13] at h_14
      clear eF_13
      obtain ⟨z_15, ez_15, hz_15⟩ := e_add (x := v93_6_0) (y := Int32.ofInt 1) rfl (b := 1) (by decide) (by omega) (by omega)
      refine lv_iinc (v := z_15) (lv' := [(3, .int z_15), (0, .ref h0), (1, .int p0), (2, .int p1)]) hx hb dX12_talks1_122 hl (k := 3) rfl ez_15 (by decide) rfl (fun ls_15 hl_15 => ?_)
      clear hl
      refine lv_goto (tgt := 93) hx hb dX12_talks1_125 (by decide) ?_
      exact ih_93 z_15 (by show (4 - (z_15).toInt).toNat < (4 - (v93_6_0).toInt).toNat; omega) _ _ _ ⟨F_13, ⟨by omega, by omega⟩, trF_13_84, rF_13, h_14, (lv_sub hl_15 [1, 2, 3, 0] rfl)⟩
  · replace c_4 := i_nle (x := z_3) (y := v2_2_0) rfl rfl c_4
    refine lv_aload_n hx hb dX12_talks1_12 rfl (lv_at hl 0 rfl) ?_
    refine lv_iload_n hx hb dX12_talks1_13 rfl (lv_at hl 1 rfl) ?_
    refine lv_iload_n hx hb dX12_talks1_14 rfl (lv_at hl 2 rfl) ?_
    refine lv_iload_n hx hb dX12_talks1_15 rfl (lv_at hl 3 rfl) ?_
    refine q_callVi (rest := []) (wr := [(h4, .inl (cy 1, 3, .inl v2_2_1))]) X hK hT hA h (fun sz => gX12_sway_129f43a l D cy h0 h1 h2 h3 p0 p1 v2_2_0 p2 w0 w1 w2 p3 p4 p5 p6 p7 p8 p9 p10 p11 p12 p13 (.ref h4) w3 w4 p14 p15 w5 w6 w7 p16 p17 w8 w9 w10 w11 w12 p18 w13 w14 w15 f0 p19 v2_2_2 v2_2_3 hp0 hp1 ⟨by omega, by omega⟩ hp2 hp3 hp4 hp5 hp6 (i_rng _) hp8 (i_rng _) (i_rng _) (i_rng _) (i_rng _) (i_rng _) (i_rng _) (i_rng _) (i_rng _) (i_rng _) (i_rng _) hp19 htf0_84 rf0 sz) wm_6_228 wm_6_231 wm_1_12 hd_X12_sway wm_6_230 wp_6_2 (ci := 12) (q0 := 0) rfl rfl ⟨Nat.le_of_ble_eq_true rfl, Nat.le_of_ble_eq_true rfl⟩ hl.1 rfl (Nat.le_of_ble_eq_true rfl) dX12_talks1_16 ⟨Nat.le_of_ble_eq_true rfl, Nat.le_of_ble_eq_true rfl⟩ [0, 1, 2, 3] [4] rfl rfl (by decide) rfl rfl (fun r_16 u_16 H locs w_16 h_16 => ?_)
    clear h
    obtain ⟨wr_16, _⟩ := w_16
    replace h_16 : qW D _ _ (wk_13c25f209 cy h4 v2_2_1 h0 p2 h1 w0 w1 w2 p3 p4 p5 p6 p7 p8 p9 p10 p11 p12 p13 h2 h3 h4 w3 w4 p14 p15 w5 w6 w7 p16 p17 w8 w9 w10 w11 w12 p18 w13 w14 w15 h1 f0 h2 (u_16.2.1 0) h3 (u_16.2.1 1)) _ _ := h_16
    refine lv_istore (lv' := [(4, .int r_16), (0, .ref h0), (1, .int p0), (2, .int p1), (3, .int v2_2_0)]) hx hb dX12_talks1_19 hl (by decide) rfl (fun ls_17 hl_17 => ?_)
    clear hl
    refine lv_aload_n hx hb dX12_talks1_21 rfl (lv_at hl_17 1 rfl) ?_
    refine q_get X hK h_16 1 rfl rfl wf_12 1 (by decide) rfl wm_5_171 dX12_talks1_22 ?_
    refine lv_bipush (v := 54) hx hb dX12_talks1_25 (by decide) ?_
    refine lv_iconst (v := 3) hx hb dX12_talks1_27 (by decide) ?_
    refine lv_iload_n hx hb dX12_talks1_28 rfl (lv_at hl_17 2 rfl) ?_
    refine lv_imul hx hb dX12_talks1_29 ?_
    obtain ⟨z_18, ez_18, hz_18⟩ := e_mul (x := 3) (y := p0) (show (3 : Int32).toInt = 3 by decide) rfl (by omega) (by omega)
    refine q_c z_18 ez_18 ?_
    clear ez_18
    refine lv_iadd hx hb dX12_talks1_30 ?_
    obtain ⟨z_19, ez_19, hz_19⟩ := e_add (x := 54) (y := z_18) (show (54 : Int32).toInt = 54 by decide) rfl (by omega) (by omega)
    refine q_c z_19 ez_19 ?_
    clear ez_19
    refine lv_iload_n hx hb dX12_talks1_31 rfl (lv_at hl_17 4 rfl) ?_
    refine lv_iadd hx hb dX12_talks1_32 ?_
    obtain ⟨z_20, ez_20, hz_20⟩ := e_add (x := z_19) (y := v2_2_0) rfl rfl (by omega) (by omega)
    refine q_c z_20 ez_20 ?_
    clear ez_20
    refine q_iald X hK h_16 2 rfl (i_in rfl (by omega) (by omega)) dX12_talks1_33 ?_
    obtain ⟨z_21, ez_21, hz_21⟩ := al_W rf0 (x := z_20) rfl (by omega) (by omega)
    refine q_c z_21 ez_21 ?_
    clear ez_21
    refine lv_iload hx hb dX12_talks1_34 (lv_at hl_17 0 rfl) ?_
    refine q_jn (pc2 := 53) (fun H locs ls st => ∃ v53_22_0 : Int32, ((-1) ≤ (v53_22_0).toInt ∧ (v53_22_0).toInt ≤ 1) ∧ st = [.int v53_22_0, .int z_21] ∧ qW D (va_A (wk_2bcb35d7d cy h0 p2 h1 w0 w1 w2 p3 p4 p5 p6 p7 p8 p9 p10 p11 p12 p13 h2 h3 h4 w3 w4 p14 p15 w5 w6 w7 p16 p17 w8 w9 w10 w11 w12 p18 w13 w14 w15 h1 f0 h2 f1 h3 f2 h4 f3) sz) s.heap (wk_13c25f209 cy h4 v2_2_1 h0 p2 h1 w0 w1 w2 p3 p4 p5 p6 p7 p8 p9 p10 p11 p12 p13 h2 h3 h4 w3 w4 p14 p15 w5 w6 w7 p16 p17 w8 w9 w10 w11 w12 p18 w13 w14 w15 h1 f0 h2 (u_16.2.1 0) h3 (u_16.2.1 1)) H locs ∧ lv_has ls 6 [(0, .ref h0), (1, .int p0), (2, .int p1), (3, .int v2_2_0), (4, .int r_16)]) (fun H locs ls st hP => ?_) (fun J_53 => ?_)
    · obtain ⟨v53_22_0, hv53_22_0, rfl, h, hl⟩ := hP
      refine lv_iadd hx hb dX12_talks1_53 ?_
      obtain ⟨z_23, ez_23, hz_23⟩ := e_add (x := z_21) (y := v53_22_0) rfl rfl (by omega) (by omega)
      refine q_c z_23 ez_23 ?_
      clear ez_23
      refine lv_istore (lv' := [(5, .int z_23), (0, .ref h0), (1, .int p0), (2, .int p1), (3, .int v2_2_0), (4, .int r_16)]) hx hb dX12_talks1_54 hl (by decide) rfl (fun ls_24 hl_24 => ?_)
      clear hl
      refine lv_aload_n hx hb dX12_talks1_56 rfl (lv_at hl_24 1 rfl) ?_
      refine q_get X hK h 1 rfl rfl wf_12 18 (by decide) rfl wm_5_188 dX12_talks1_57 ?_
      refine lv_iload_n hx hb dX12_talks1_60 rfl (lv_at hl_24 4 rfl) ?_
      refine lv_iload hx hb dX12_talks1_61 (lv_at hl_24 0 rfl) ?_
      refine q_jn (pc2 := 84) (fun H locs ls st => ∃ v84_25_0 : Int32, (0 ≤ (v84_25_0).toInt ∧ (v84_25_0).toInt ≤ 9) ∧ st = [.int v84_25_0, .int v2_2_0, .ref h4] ∧ qW D (va_A (wk_2bcb35d7d cy h0 p2 h1 w0 w1 w2 p3 p4 p5 p6 p7 p8 p9 p10 p11 p12 p13 h2 h3 h4 w3 w4 p14 p15 w5 w6 w7 p16 p17 w8 w9 w10 w11 w12 p18 w13 w14 w15 h1 f0 h2 f1 h3 f2 h4 f3) sz) s.heap (wk_13c25f209 cy h4 v2_2_1 h0 p2 h1 w0 w1 w2 p3 p4 p5 p6 p7 p8 p9 p10 p11 p12 p13 h2 h3 h4 w3 w4 p14 p15 w5 w6 w7 p16 p17 w8 w9 w10 w11 w12 p18 w13 w14 w15 h1 f0 h2 (u_16.2.1 0) h3 (u_16.2.1 1)) H locs ∧ lv_has ls 6 [(0, .ref h0), (1, .int p0), (2, .int p1), (3, .int v2_2_0), (4, .int r_16), (5, .int z_23)]) (fun H locs ls st hP => ?_) (fun J_84 => ?_)
      · obtain ⟨v84_25_0, hv84_25_0, rfl, h, hl⟩ := hP
        refine q_iast X hK h 0 rfl (i_in rfl (by omega) (by omega)) dX12_talks1_84 (fun H locs h_27 => ?_)
        clear h
        replace h_27 : qW D _ _ (wk_13c25f209 cy h4 (upd v2_2_1 (Int32.toNatClampNeg v2_2_0) v84_25_0) h0 p2 h1 w0 w1 w2 p3 p4 p5 p6 p7 p8 p9 p10 p11 p12 p13 h2 h3 h4 w3 w4 p14 p15 w5 w6 w7 p16 p17 w8 w9 w10 w11 w12 p18 w13 w14 w15 h1 f0 h2 (u_16.2.1 0) h3 (u_16.2.1 1)) _ _ := h_27
        obtain ⟨F_26, eF_26, rF_26⟩ := rg_upd rv2_2_1 (Int32.toNatClampNeg v2_2_0) (x := v84_25_0) rfl (by omega) (by omega)
        rw [eF_26] at h_27
        clear eF_26
        obtain ⟨z_28, ez_28, hz_28⟩ := e_add (x := v2_2_0) (y := Int32.ofInt 1) rfl (b := 1) (by decide) (by omega) (by omega)
        refine lv_iinc (v := z_28) (lv' := [(3, .int z_28), (0, .ref h0), (1, .int p0), (2, .int p1), (4, .int r_16), (5, .int z_23)]) hx hb dX12_talks1_85 hl (k := 3) rfl ez_28 (by decide) rfl (fun ls_28 hl_28 => ?_)
        clear hl
        refine lv_goto (tgt := 2) hx hb dX12_talks1_88 (by decide) ?_
        exact ih_2 z_28 (by show (4 - (z_28).toInt).toNat < (4 - (v2_2_0).toInt).toNat; omega) _ _ _ ⟨F_26, (u_16.2.1 0), (u_16.2.1 1), ⟨by omega, by omega⟩, (rg_wide rF_26 (by decide) (by decide)), (q_re h_27 [1, 2, 3, 4, 0] rfl rfl), (lv_sub hl_28 [1, 2, 3, 0] rfl)⟩
      · skip
        refine lv_if_ge (tgt := 70) hx hb dX12_talks1_63 (by decide) (fun c_29 => ?_) (fun c_29 => ?_)
        · replace c_29 := i_le (x := 0) (y := z_23) (show (0 : Int32).toInt = 0 by decide) rfl c_29
          refine lv_iload hx hb dX12_talks1_70 (lv_at hl_24 0 rfl) ?_
          refine lv_bipush (v := 9) hx hb dX12_talks1_72 (by decide) ?_
          refine lv_icmp_le (tgt := 82) hx hb dX12_talks1_74 (by decide) (fun c_30 => ?_) (fun c_30 => ?_)
          · replace c_30 := i_le (x := z_23) (y := 9) rfl (show (9 : Int32).toInt = 9 by decide) c_30
            refine lv_iload hx hb dX12_talks1_82 (lv_at hl_24 0 rfl) ?_
            exact J_84 _ _ _ _ ⟨z_23, ⟨by omega, by omega⟩, rfl, h, (lv_sub hl_24 [1, 2, 3, 4, 5, 0] rfl)⟩
          · replace c_30 := i_nle (x := z_23) (y := 9) rfl (show (9 : Int32).toInt = 9 by decide) c_30
            refine lv_bipush (v := 9) hx hb dX12_talks1_77 (by decide) ?_
            refine lv_goto (tgt := 84) hx hb dX12_talks1_79 (by decide) ?_
            exact J_84 _ _ _ _ ⟨9, ⟨by decide +kernel, by decide +kernel⟩, rfl, h, (lv_sub hl_24 [1, 2, 3, 4, 5, 0] rfl)⟩
        · replace c_29 := i_nle (x := 0) (y := z_23) (show (0 : Int32).toInt = 0 by decide) rfl c_29
          refine lv_iconst (v := 0) hx hb dX12_talks1_66 (by decide) ?_
          refine lv_goto (tgt := 84) hx hb dX12_talks1_67 (by decide) ?_
          exact J_84 _ _ _ _ ⟨0, ⟨by decide +kernel, by decide +kernel⟩, rfl, h, (lv_sub hl_24 [1, 2, 3, 4, 5, 0] rfl)⟩
    · skip
      refine lv_if_ge (tgt := 43) hx hb dX12_talks1_36 (by decide) (fun c_31 => ?_) (fun c_31 => ?_)
      · replace c_31 := i_le (x := 0) (y := r_16) (show (0 : Int32).toInt = 0 by decide) rfl c_31
        refine lv_iload hx hb dX12_talks1_43 (lv_at hl_17 0 rfl) ?_
        refine lv_if_le (tgt := 52) hx hb dX12_talks1_45 (by decide) (fun c_32 => ?_) (fun c_32 => ?_)
        · replace c_32 := i_le (x := r_16) (y := 0) rfl (show (0 : Int32).toInt = 0 by decide) c_32
          refine lv_iconst (v := 0) hx hb dX12_talks1_52 (by decide) ?_
          exact J_53 _ _ _ _ ⟨0, ⟨by decide +kernel, by decide +kernel⟩, rfl, h_16, (lv_sub hl_17 [1, 2, 3, 4, 0] rfl)⟩
        · replace c_32 := i_nle (x := r_16) (y := 0) rfl (show (0 : Int32).toInt = 0 by decide) c_32
          refine lv_iconst (v := 1) hx hb dX12_talks1_48 (by decide) ?_
          refine lv_goto (tgt := 53) hx hb dX12_talks1_49 (by decide) ?_
          exact J_53 _ _ _ _ ⟨1, ⟨by decide +kernel, by decide +kernel⟩, rfl, h_16, (lv_sub hl_17 [1, 2, 3, 4, 0] rfl)⟩
      · replace c_31 := i_nle (x := 0) (y := r_16) (show (0 : Int32).toInt = 0 by decide) rfl c_31
        refine lv_iconst (v := (-1)) hx hb dX12_talks1_39 (by decide) ?_
        refine lv_goto (tgt := 53) hx hb dX12_talks1_40 (by decide) ?_
        exact J_53 _ _ _ _ ⟨(-1), ⟨by decide +kernel, by decide +kernel⟩, rfl, h_16, (lv_sub hl_17 [1, 2, 3, 4, 0] rfl)⟩
set_option maxHeartbeats 4000000 in
set_option maxRecDepth 100000 in
theorem gX12_notes_fd80d29 (l : Launch) (D : va_G) (cy : Nat → ClassId) (h0 : Nat) (h1 : Nat) (h2 : Nat) (p0 : Int32) (w0 : Value) (w1 : Value) (w2 : Value) (p1 : Int32) (p2 : Int32) (p3 : Int32) (p4 : Int32) (p5 : Int32) (p6 : Int32) (p7 : Int32) (p8 : Int32) (p9 : Int32) (p10 : Int32) (p11 : Int32) (w3 : Value) (w4 : Value) (w5 : Value) (w6 : Value) (p12 : Int32) (p13 : Int32) (w7 : Value) (w8 : Value) (w9 : Value) (p14 : Int32) (p15 : Int32) (w10 : Value) (w11 : Value) (w12 : Value) (w13 : Value) (w14 : Value) (p16 : Int32) (w15 : Value) (w16 : Value) (w17 : Value) (f0 : Nat → Int32) (p17 : Int32) (f1 : Nat → Int32) (hp0 : 0 ≤ (p0).toInt ∧ (p0).toInt ≤ 0) (hp1 : 0 ≤ (p1).toInt ∧ (p1).toInt ≤ 900) (hp2 : 0 ≤ (p2).toInt ∧ (p2).toInt ≤ 900) (hp3 : 0 ≤ (p3).toInt ∧ (p3).toInt ≤ 900) (hp4 : 0 ≤ (p4).toInt ∧ (p4).toInt ≤ 900) (hp5 : (-2147483648) ≤ (p5).toInt ∧ (p5).toInt ≤ 2147483647) (hp6 : 0 ≤ (p6).toInt ∧ (p6).toInt ≤ 999) (hp7 : (-2147483648) ≤ (p7).toInt ∧ (p7).toInt ≤ 2147483647) (hp8 : (-2147483648) ≤ (p8).toInt ∧ (p8).toInt ≤ 2147483647) (hp9 : (-2147483648) ≤ (p9).toInt ∧ (p9).toInt ≤ 2147483647) (hp10 : (-2147483648) ≤ (p10).toInt ∧ (p10).toInt ≤ 2147483647) (hp11 : (-2147483648) ≤ (p11).toInt ∧ (p11).toInt ≤ 2147483647) (hp12 : (-2147483648) ≤ (p12).toInt ∧ (p12).toInt ≤ 2147483647) (hp13 : (-2147483648) ≤ (p13).toInt ∧ (p13).toInt ≤ 2147483647) (hp14 : (-2147483648) ≤ (p14).toInt ∧ (p14).toInt ≤ 2147483647) (hp15 : (-2147483648) ≤ (p15).toInt ∧ (p15).toInt ≤ 2147483647) (hp16 : (-2147483648) ≤ (p16).toInt ∧ (p16).toInt ≤ 2147483647) (hp17 : 0 ≤ (p17).toInt ∧ (p17).toInt ≤ 10) (htf0_84 : f0 84 = p17) (rf0 : AL f0) (rf1 : WA f1) (sz : Nat) : MV l yX12_notes cX12_notes 2 { frames := 0, cells := 0, slots := 0, locals := 0 } [.ref h0] D cy (wk_22f40a116 cy h0 p0 h1 w0 w1 w2 p1 p2 p3 p4 p5 p6 p7 p8 p9 p10 p11 w3 w4 w5 w6 h2 p12 p13 w7 w8 w9 p14 p15 w10 w11 w12 w13 w14 p16 w15 w16 w17 h1 f0 h2 f1) sz (fun u => AL (u.2.1 0) ∧ (1 ≤ (u.2.1 1 0).toInt ∧ (u.2.1 1 0).toInt ≤ 10) ∧ (u.2.1 0) 84 = (u.2.1 1 0) ∧ True) (fun u => (wk_22f40a116 cy h0 p0 h1 w0 w1 w2 p1 p2 p3 p4 p5 p6 p7 p8 p9 p10 p11 w3 w4 w5 w6 h2 p12 p13 w7 w8 w9 p14 p15 w10 w11 w12 w13 w14 p16 w15 w16 w17 h1 (u.2.1 0) h2 f1)) 0 0 := by
  refine q_ent (own := RX12) (by decide) rfl (Nat.le_of_ble_eq_true rfl) (fun p e s m below meth c ls X hr hlk hnm hK hT h hA hl => ?_)
  obtain ⟨hx, hb, hml, hown, ht⟩ := id X
  replace hl : lv_has ls 2 [(0, .ref h0)] := hl
  refine lv_aload_n hx hb dX12_notes_0 rfl (lv_at hl 0 rfl) ?_
  refine q_get X hK h 0 rfl rfl wf_12 1 (by decide) rfl wm_5_171 dX12_notes_1 ?_
  refine lv_bipush (v := 84) hx hb dX12_notes_4 (by decide) ?_
  refine q_iald X hK h 1 rfl (q_in (by decide +kernel)) dX12_notes_6 ?_
  refine q_c p17 htf0_84 ?_
  refine lv_bipush (v := 10) hx hb dX12_notes_7 (by decide) ?_
  refine q_jn (pc2 := 56) (fun H locs ls st => ∃ v56_1_1 : Int32, ∃ v56_1_0 : Nat → Int32, (0 ≤ (v56_1_1).toInt ∧ (v56_1_1).toInt ≤ 9) ∧ v56_1_0 84 = v56_1_1 ∧ AL v56_1_0 ∧ st = [] ∧ qW D (va_A (wk_22f40a116 cy h0 p0 h1 w0 w1 w2 p1 p2 p3 p4 p5 p6 p7 p8 p9 p10 p11 w3 w4 w5 w6 h2 p12 p13 w7 w8 w9 p14 p15 w10 w11 w12 w13 w14 p16 w15 w16 w17 h1 f0 h2 f1) sz) s.heap (wk_22f40a116 cy h0 p0 h1 w0 w1 w2 p1 p2 p3 p4 p5 p6 p7 p8 p9 p10 p11 w3 w4 w5 w6 h2 p12 p13 w7 w8 w9 p14 p15 w10 w11 w12 w13 w14 p16 w15 w16 w17 h1 v56_1_0 h2 f1) H locs ∧ lv_has ls 2 [(0, .ref h0)]) (fun H locs ls st hP => ?_) (fun J_56 => ?_)
  · obtain ⟨v56_1_1, v56_1_0, hv56_1_1, trv56_1_0_84, rv56_1_0, rfl, h, hl⟩ := hP
    refine lv_iconst (v := 0) hx hb dX12_notes_56 (by decide) ?_
    refine lv_istore_n (lv' := [(1, .int 0), (0, .ref h0)]) hx hb dX12_notes_57 rfl hl (by decide) rfl (fun ls_2 hl_2 => ?_)
    clear hl
    refine q_wl (fun (v58_3_0 : Int32) H locs ls => ∃ v58_3_1 : Nat → Int32, (0 ≤ (v58_3_0).toInt ∧ (v58_3_0).toInt ≤ 32) ∧ v58_3_1 84 = v56_1_1 ∧ (CPY v58_3_1 v56_1_0 (85 + 32 * ((v56_1_1 : Int32).toInt).toNat) f1 0 ((v58_3_0 : Int32).toInt).toNat) ∧ qW D (va_A (wk_22f40a116 cy h0 p0 h1 w0 w1 w2 p1 p2 p3 p4 p5 p6 p7 p8 p9 p10 p11 w3 w4 w5 w6 h2 p12 p13 w7 w8 w9 p14 p15 w10 w11 w12 w13 w14 p16 w15 w16 w17 h1 f0 h2 f1) sz) s.heap (wk_22f40a116 cy h0 p0 h1 w0 w1 w2 p1 p2 p3 p4 p5 p6 p7 p8 p9 p10 p11 w3 w4 w5 w6 h2 p12 p13 w7 w8 w9 p14 p15 w10 w11 w12 w13 w14 p16 w15 w16 w17 h1 v58_3_1 h2 f1) H locs ∧ lv_has ls 2 [(0, .ref h0), (1, .int v58_3_0)]) (fun (v58_3_0 : Int32) => (33 - (v58_3_0).toInt).toNat) (fun q_58 ih_58 H locs ls hP => ?_) 0 ⟨v56_1_0, ⟨by decide +kernel, by decide +kernel⟩, trv56_1_0_84, (cp_0 (by decide)), h, (lv_sub hl_2 [1, 0] rfl)⟩
    obtain ⟨v58_3_0, rfl⟩ : ∃ z, z = q_58 := ⟨_, rfl⟩
    obtain ⟨v58_3_1, hv58_3_0, trv58_3_1_84, x4_0, h, hl⟩ := hP
    refine lv_iload_n hx hb dX12_notes_58 rfl (lv_at hl 1 rfl) ?_
    refine lv_bipush (v := 32) hx hb dX12_notes_59 (by decide) ?_
    refine lv_icmp_ge (tgt := 96) hx hb dX12_notes_61 (by decide) (fun c_5 => ?_) (fun c_5 => ?_)
    · replace c_5 := i_le (x := 32) (y := v58_3_0) (show (32 : Int32).toInt = 32 by decide) rfl c_5
      have cx_6 := al_note x4_0 (by omega) (by omega) rv56_1_0 rf1
      refine lv_aload_n hx hb dX12_notes_96 rfl (lv_at hl 0 rfl) ?_
      refine q_get X hK h 0 rfl rfl wf_12 1 (by decide) rfl wm_5_171 dX12_notes_97 ?_
      refine lv_bipush (v := 84) hx hb dX12_notes_100 (by decide) ?_
      refine lv_dup2_11 hx hb dX12_notes_102 rfl rfl ?_
      refine q_iald X hK h 1 rfl (q_in (by decide +kernel)) dX12_notes_103 ?_
      refine q_c v56_1_1 trv58_3_1_84 ?_
      refine lv_iconst (v := 1) hx hb dX12_notes_104 (by decide) ?_
      refine lv_iadd hx hb dX12_notes_105 ?_
      obtain ⟨z_7, ez_7, hz_7⟩ := e_add (x := v56_1_1) (y := 1) rfl (show (1 : Int32).toInt = 1 by decide) (by omega) (by omega)
      refine q_c z_7 ez_7 ?_
      clear ez_7
      refine q_iast X hK h 1 rfl (q_in (by decide +kernel)) dX12_notes_106 (fun H locs h_9 => ?_)
      clear h
      replace h_9 : qW D _ _ (wk_22f40a116 cy h0 p0 h1 w0 w1 w2 p1 p2 p3 p4 p5 p6 p7 p8 p9 p10 p11 w3 w4 w5 w6 h2 p12 p13 w7 w8 w9 p14 p15 w10 w11 w12 w13 w14 p16 w15 w16 w17 h1 (upd v58_3_1 (Int32.toNatClampNeg 84) z_7) h2 f1) _ _ := h_9
      obtain ⟨F_8, eF_8, rF_8⟩ := al_upd cx_6 (i := 84) (x := z_7) (show (84 : Int32).toInt = 84 by decide) rfl (by omega)
      have trF_8_84 := (tr_eq eF_8 (k := 84) (x := 84) (by decide))
      rw [eF_8] at h_9
      clear eF_8
      exact q_vret X hr hlk hK h_9 (fun _ => 0, (vcons F_8 (vcons (fun _ => z_7) (fun _ => (fun _ => 0)))), fun _ _ => 0) ⟨rF_8, (⟨by omega, by omega⟩ : 1 ≤ (z_7 : Int32).toInt ∧ (z_7 : Int32).toInt ≤ 10), trF_8_84, trivial⟩ [0, 1, 2] rfl rfl dX12_notes_107 (Nat.le_of_ble_eq_true rfl) (Nat.le_of_ble_eq_true rfl)
    · replace c_5 := i_nle (x := 32) (y := v58_3_0) (show (32 : Int32).toInt = 32 by decide) rfl c_5
      refine lv_aload_n hx hb dX12_notes_64 rfl (lv_at hl 0 rfl) ?_
      refine q_get X hK h 0 rfl rfl wf_12 1 (by decide) rfl wm_5_171 dX12_notes_65 ?_
      refine lv_bipush (v := 85) hx hb dX12_notes_68 (by decide) ?_
      refine lv_bipush (v := 32) hx hb dX12_notes_70 (by decide) ?_
      refine lv_aload_n hx hb dX12_notes_72 rfl (lv_at hl 0 rfl) ?_
      refine q_get X hK h 0 rfl rfl wf_12 1 (by decide) rfl wm_5_171 dX12_notes_73 ?_
      refine lv_bipush (v := 84) hx hb dX12_notes_76 (by decide) ?_
      refine q_iald X hK h 1 rfl (q_in (by decide +kernel)) dX12_notes_78 ?_
      refine q_c v56_1_1 trv58_3_1_84 ?_
      refine lv_imul hx hb dX12_notes_79 ?_
      obtain ⟨z_10, ez_10, hz_10⟩ := e_mul (x := 32) (y := v56_1_1) (show (32 : Int32).toInt = 32 by decide) rfl (by omega) (by omega)
      refine q_c z_10 ez_10 ?_
      clear ez_10
      refine lv_iadd hx hb dX12_notes_80 ?_
      obtain ⟨z_11, ez_11, hz_11⟩ := e_add (x := 85) (y := z_10) (show (85 : Int32).toInt = 85 by decide) rfl (by omega) (by omega)
      refine q_c z_11 ez_11 ?_
      clear ez_11
      refine lv_iload_n hx hb dX12_notes_81 rfl (lv_at hl 1 rfl) ?_
      refine lv_iadd hx hb dX12_notes_82 ?_
      obtain ⟨z_12, ez_12, hz_12⟩ := e_add (x := z_11) (y := v58_3_0) rfl rfl (by omega) (by omega)
      refine q_c z_12 ez_12 ?_
      clear ez_12
      refine lv_aload_n hx hb dX12_notes_83 rfl (lv_at hl 0 rfl) ?_
      refine q_get X hK h 0 rfl rfl wf_12 20 (by decide) rfl wm_5_190 dX12_notes_84 ?_
      refine lv_iload_n hx hb dX12_notes_87 rfl (lv_at hl 1 rfl) ?_
      refine q_iald X hK h 2 rfl (i_in rfl (by omega) (by omega)) dX12_notes_88 ?_
      obtain ⟨z_13, ez_13, hz_13⟩ := e_any (f1 v58_3_0.toNatClampNeg)
      refine q_c z_13 ez_13 ?_
      refine q_iast X hK h 1 rfl (i_in rfl (by omega) (by omega)) dX12_notes_89 (fun H locs h_15 => ?_)
      clear h
      replace h_15 : qW D _ _ (wk_22f40a116 cy h0 p0 h1 w0 w1 w2 p1 p2 p3 p4 p5 p6 p7 p8 p9 p10 p11 w3 w4 w5 w6 h2 p12 p13 w7 w8 w9 p14 p15 w10 w11 w12 w13 w14 p16 w15 w16 w17 h1 (upd v58_3_1 (Int32.toNatClampNeg z_12) z_13) h2 f1) _ _ := h_15
      obtain ⟨F_14, eF_14⟩ : ∃ z, (upd v58_3_1 (Int32.toNatClampNeg z_12) z_13) = z := ⟨_, rfl⟩
      have trF_14_84 := (tr_ne eF_14 trv58_3_1_84 rfl (by omega))
      rw [eF_14] at h_15
      have cs_16 := cp_s x4_0 ez_13 eF_14 (by omega) (by omega)
      obtain ⟨z_17, ez_17, hz_17⟩ := e_add (x := v58_3_0) (y := Int32.ofInt 1) rfl (b := 1) (by decide) (by omega) (by omega)
      refine lv_iinc (v := z_17) (lv' := [(1, .int z_17), (0, .ref h0)]) hx hb dX12_notes_90 hl (k := 1) rfl ez_17 (by decide) rfl (fun ls_17 hl_17 => ?_)
      clear hl
      refine lv_goto (tgt := 58) hx hb dX12_notes_93 (by decide) ?_
      exact ih_58 z_17 (by show (33 - (z_17).toInt).toNat < (33 - (v58_3_0).toInt).toNat; omega) _ _ _ ⟨F_14, ⟨by omega, by omega⟩, trF_14_84, (cp_n cs_16 (by (first | assumption | omega))), h_15, (lv_sub hl_17 [1, 0] rfl)⟩
  · skip
    refine lv_icmp_ne (tgt := 56) hx hb dX12_notes_9 (by decide) (fun c_18 => ?_) (fun c_18 => ?_)
    · replace c_18 := i_ne (x := p17) (y := 10) rfl (show (10 : Int32).toInt = 10 by decide) c_18
      exact J_56 _ _ _ _ ⟨p17, f0, ⟨by omega, by omega⟩, htf0_84, rf0, rfl, h, (lv_sub hl [0] rfl)⟩
    · replace c_18 := i_eq (x := p17) (y := 10) rfl (show (10 : Int32).toInt = 10 by decide) c_18
      refine lv_iconst (v := 0) hx hb dX12_notes_12 (by decide) ?_
      refine lv_istore_n (lv' := [(1, .int 0), (0, .ref h0)]) hx hb dX12_notes_13 rfl hl (by decide) rfl (fun ls_19 hl_19 => ?_)
      clear hl
      refine q_wl (fun (v14_20_0 : Int32) H locs ls => ∃ v14_20_1 : Nat → Int32, (0 ≤ (v14_20_0).toInt ∧ (v14_20_0).toInt ≤ 288) ∧ v14_20_1 84 = p17 ∧ (CPY v14_20_1 f0 85 f0 117 ((v14_20_0 : Int32).toInt).toNat) ∧ qW D (va_A (wk_22f40a116 cy h0 p0 h1 w0 w1 w2 p1 p2 p3 p4 p5 p6 p7 p8 p9 p10 p11 w3 w4 w5 w6 h2 p12 p13 w7 w8 w9 p14 p15 w10 w11 w12 w13 w14 p16 w15 w16 w17 h1 f0 h2 f1) sz) s.heap (wk_22f40a116 cy h0 p0 h1 w0 w1 w2 p1 p2 p3 p4 p5 p6 p7 p8 p9 p10 p11 w3 w4 w5 w6 h2 p12 p13 w7 w8 w9 p14 p15 w10 w11 w12 w13 w14 p16 w15 w16 w17 h1 v14_20_1 h2 f1) H locs ∧ lv_has ls 2 [(0, .ref h0), (1, .int v14_20_0)]) (fun (v14_20_0 : Int32) => (289 - (v14_20_0).toInt).toNat) (fun q_14 ih_14 H locs ls hP => ?_) 0 ⟨f0, ⟨by decide +kernel, by decide +kernel⟩, htf0_84, (cp_0 (by decide)), h, (lv_sub hl_19 [1, 0] rfl)⟩
      obtain ⟨v14_20_0, rfl⟩ : ∃ z, z = q_14 := ⟨_, rfl⟩
      obtain ⟨v14_20_1, hv14_20_0, trv14_20_1_84, x21_0, h, hl⟩ := hP
      refine lv_iload_n hx hb dX12_notes_14 rfl (lv_at hl 1 rfl) ?_
      refine lv_sipush (v := 288) hx hb dX12_notes_15 (by decide) ?_
      refine lv_icmp_ge (tgt := 45) hx hb dX12_notes_18 (by decide) (fun c_22 => ?_) (fun c_22 => ?_)
      · replace c_22 := i_le (x := 288) (y := v14_20_0) (show (288 : Int32).toInt = 288 by decide) rfl c_22
        have cx_23 := al_shift x21_0 (by omega) rf0
        refine lv_aload_n hx hb dX12_notes_45 rfl (lv_at hl 0 rfl) ?_
        refine q_get X hK h 0 rfl rfl wf_12 1 (by decide) rfl wm_5_171 dX12_notes_46 ?_
        refine lv_bipush (v := 84) hx hb dX12_notes_49 (by decide) ?_
        refine lv_dup2_11 hx hb dX12_notes_51 rfl rfl ?_
        refine q_iald X hK h 1 rfl (q_in (by decide +kernel)) dX12_notes_52 ?_
        refine q_c p17 trv14_20_1_84 ?_
        refine lv_iconst (v := 1) hx hb dX12_notes_53 (by decide) ?_
        refine lv_isub hx hb dX12_notes_54 ?_
        obtain ⟨z_24, ez_24, hz_24⟩ := e_sub (x := p17) (y := 1) rfl (show (1 : Int32).toInt = 1 by decide) (by omega) (by omega)
        refine q_c z_24 ez_24 ?_
        clear ez_24
        refine q_iast X hK h 1 rfl (q_in (by decide +kernel)) dX12_notes_55 (fun H locs h_26 => ?_)
        clear h
        replace h_26 : qW D _ _ (wk_22f40a116 cy h0 p0 h1 w0 w1 w2 p1 p2 p3 p4 p5 p6 p7 p8 p9 p10 p11 w3 w4 w5 w6 h2 p12 p13 w7 w8 w9 p14 p15 w10 w11 w12 w13 w14 p16 w15 w16 w17 h1 (upd v14_20_1 (Int32.toNatClampNeg 84) z_24) h2 f1) _ _ := h_26
        obtain ⟨F_25, eF_25, rF_25⟩ := al_upd cx_23 (i := 84) (x := z_24) (show (84 : Int32).toInt = 84 by decide) rfl (by omega)
        have trF_25_84 := (tr_eq eF_25 (k := 84) (x := 84) (by decide))
        rw [eF_25] at h_26
        clear eF_25
        exact J_56 _ _ _ _ ⟨z_24, F_25, ⟨by omega, by omega⟩, trF_25_84, rF_25, rfl, h_26, (lv_sub hl [0] rfl)⟩
      · replace c_22 := i_nle (x := 288) (y := v14_20_0) (show (288 : Int32).toInt = 288 by decide) rfl c_22
        refine lv_aload_n hx hb dX12_notes_21 rfl (lv_at hl 0 rfl) ?_
        refine q_get X hK h 0 rfl rfl wf_12 1 (by decide) rfl wm_5_171 dX12_notes_22 ?_
        refine lv_bipush (v := 85) hx hb dX12_notes_25 (by decide) ?_
        refine lv_iload_n hx hb dX12_notes_27 rfl (lv_at hl 1 rfl) ?_
        refine lv_iadd hx hb dX12_notes_28 ?_
        obtain ⟨z_27, ez_27, hz_27⟩ := e_add (x := 85) (y := v14_20_0) (show (85 : Int32).toInt = 85 by decide) rfl (by omega) (by omega)
        refine q_c z_27 ez_27 ?_
        clear ez_27
        refine lv_aload_n hx hb dX12_notes_29 rfl (lv_at hl 0 rfl) ?_
        refine q_get X hK h 0 rfl rfl wf_12 1 (by decide) rfl wm_5_171 dX12_notes_30 ?_
        refine lv_bipush (v := 117) hx hb dX12_notes_33 (by decide) ?_
        refine lv_iload_n hx hb dX12_notes_35 rfl (lv_at hl 1 rfl) ?_
        refine lv_iadd hx hb dX12_notes_36 ?_
        obtain ⟨z_28, ez_28, hz_28⟩ := e_add (x := 117) (y := v14_20_0) (show (117 : Int32).toInt = 117 by decide) rfl (by omega) (by omega)
        refine q_c z_28 ez_28 ?_
        clear ez_28
        refine q_iald X hK h 1 rfl (i_in rfl (by omega) (by omega)) dX12_notes_37 ?_
        obtain ⟨z_29, ez_29, hz_29⟩ := e_any (v14_20_1 z_28.toNatClampNeg)
        refine q_c z_29 ez_29 ?_
        refine q_iast X hK h 1 rfl (i_in rfl (by omega) (by omega)) dX12_notes_38 (fun H locs h_31 => ?_)
        clear h
        replace h_31 : qW D _ _ (wk_22f40a116 cy h0 p0 h1 w0 w1 w2 p1 p2 p3 p4 p5 p6 p7 p8 p9 p10 p11 w3 w4 w5 w6 h2 p12 p13 w7 w8 w9 p14 p15 w10 w11 w12 w13 w14 p16 w15 w16 w17 h1 (upd v14_20_1 (Int32.toNatClampNeg z_27) z_29) h2 f1) _ _ := h_31
        obtain ⟨F_30, eF_30⟩ : ∃ z, (upd v14_20_1 (Int32.toNatClampNeg z_27) z_29) = z := ⟨_, rfl⟩
        have trF_30_84 := (tr_ne eF_30 trv14_20_1_84 rfl (by omega))
        rw [eF_30] at h_31
        have cs_32 := cp_t x21_0 ez_29 eF_30 (by omega) (by omega) (by omega)
        obtain ⟨z_33, ez_33, hz_33⟩ := e_add (x := v14_20_0) (y := Int32.ofInt 1) rfl (b := 1) (by decide) (by omega) (by omega)
        refine lv_iinc (v := z_33) (lv' := [(1, .int z_33), (0, .ref h0)]) hx hb dX12_notes_39 hl (k := 1) rfl ez_33 (by decide) rfl (fun ls_33 hl_33 => ?_)
        clear hl
        refine lv_goto (tgt := 14) hx hb dX12_notes_42 (by decide) ?_
        exact ih_14 z_33 (by show (289 - (z_33).toInt).toNat < (289 - (v14_20_0).toInt).toNat; omega) _ _ _ ⟨F_30, ⟨by omega, by omega⟩, trF_30_84, (cp_n cs_32 (by (first | assumption | omega))), h_31, (lv_sub hl_33 [1, 0] rfl)⟩
set_option maxHeartbeats 4000000 in
set_option maxRecDepth 100000 in
theorem gX12_talk_498b959 (l : Launch) (D : va_G) (cy : Nat → ClassId) (h0 : Nat) (h1 : Nat) (h2 : Nat) (h3 : Nat) (h4 : Nat) (h5 : Nat) (p0 : Int32) (p1 : Int32) (p2 : Int32) (w0 : Value) (w1 : Value) (w2 : Value) (p3 : Int32) (p4 : Int32) (p5 : Int32) (p6 : Int32) (p7 : Int32) (p8 : Int32) (p9 : Int32) (p10 : Int32) (p11 : Int32) (p12 : Int32) (p13 : Int32) (w3 : Value) (p14 : Int32) (p15 : Int32) (w4 : Value) (w5 : Value) (w6 : Value) (p16 : Int32) (p17 : Int32) (w7 : Value) (w8 : Value) (w9 : Value) (w10 : Value) (w11 : Value) (p18 : Int32) (w12 : Value) (w13 : Value) (w14 : Value) (f0 : Nat → Int32) (p19 : Int32) (f1 : Nat → Int32) (f2 : Nat → Int32) (f3 : Nat → Int32) (f4 : Nat → Int32) (hp0 : (-2147483648) ≤ (p0).toInt ∧ (p0).toInt ≤ 2147483647) (hp1 : (-2147483648) ≤ (p1).toInt ∧ (p1).toInt ≤ 2147483647) (hp2 : (-2147483648) ≤ (p2).toInt ∧ (p2).toInt ≤ 2147483647) (hp3 : 0 ≤ (p3).toInt ∧ (p3).toInt ≤ 900) (hp4 : 0 ≤ (p4).toInt ∧ (p4).toInt ≤ 900) (hp5 : 0 ≤ (p5).toInt ∧ (p5).toInt ≤ 900) (hp6 : 0 ≤ (p6).toInt ∧ (p6).toInt ≤ 900) (hp7 : (-2147483648) ≤ (p7).toInt ∧ (p7).toInt ≤ 2147483647) (hp8 : 0 ≤ (p8).toInt ∧ (p8).toInt ≤ 999) (hp9 : (-2147483648) ≤ (p9).toInt ∧ (p9).toInt ≤ 2147483647) (hp10 : (-2147483648) ≤ (p10).toInt ∧ (p10).toInt ≤ 2147483647) (hp11 : (-2147483648) ≤ (p11).toInt ∧ (p11).toInt ≤ 2147483647) (hp12 : (-2147483648) ≤ (p12).toInt ∧ (p12).toInt ≤ 2147483647) (hp13 : (-2147483648) ≤ (p13).toInt ∧ (p13).toInt ≤ 2147483647) (hp14 : (-2147483648) ≤ (p14).toInt ∧ (p14).toInt ≤ 2147483647) (hp15 : (-2147483648) ≤ (p15).toInt ∧ (p15).toInt ≤ 2147483647) (hp16 : (-2147483648) ≤ (p16).toInt ∧ (p16).toInt ≤ 2147483647) (hp17 : (-2147483648) ≤ (p17).toInt ∧ (p17).toInt ≤ 2147483647) (hp18 : (-2147483648) ≤ (p18).toInt ∧ (p18).toInt ≤ 2147483647) (hp19 : 0 ≤ (p19).toInt ∧ (p19).toInt ≤ 10) (htf0_84 : f0 84 = p19) (rf0 : AL f0) (rf3 : RG f3 3 0 9) (rf4 : WA f4) (sz : Nat) : MI l yX12_talk cX12_talk 4 .int { frames := 4, cells := 0, slots := 0, locals := 96 } [.ref h0, .int p0, .int p1] D cy (wk_c1caaabd7 cy h0 p2 h1 w0 w1 w2 p3 p4 p5 p6 p7 p8 p9 p10 p11 p12 p13 h2 h3 h4 w3 h5 p14 p15 w4 w5 w6 p16 p17 w7 w8 w9 w10 w11 p18 w12 w13 w14 h1 f0 h2 f1 h3 f2 h4 f3 h5 f4) sz (fun r u => ((-12) ≤ r.toInt ∧ r.toInt ≤ 1023) ∧ RG (u.2.1 0) 3 0 9 ∧ WA (u.2.1 1) ∧ (0 ≤ (u.2.1 2 0).toInt ∧ (u.2.1 2 0).toInt ≤ 0) ∧ AL (u.2.1 3) ∧ (0 ≤ (u.2.1 4 0).toInt ∧ (u.2.1 4 0).toInt ≤ 10) ∧ (u.2.1 3) 84 = (u.2.1 4 0) ∧ True) (fun u => (wk_c1caaabd7 cy h0 (u.2.1 2 0) h1 w0 w1 w2 p3 p4 p5 p6 p7 p8 p9 p10 p11 p12 p13 h2 h3 h4 w3 h5 p14 p15 w4 w5 w6 p16 p17 w7 w8 w9 w10 w11 p18 w12 w13 w14 h1 (u.2.1 3) h2 (u.2.1 5) h3 (u.2.1 6) h4 (u.2.1 0) h5 (u.2.1 1))) 0 0 := by
  refine q_ent (own := RX12) (by decide) rfl (Nat.le_of_ble_eq_true rfl) (fun p e s m below meth c ls X hr hlk hnm hK hT h hA hl => ?_)
  obtain ⟨hx, hb, hml, hown, ht⟩ := id X
  replace hl : lv_has ls 4 [(0, .ref h0), (1, .int p0), (2, .int p1)] := hl
  refine lv_aload_n hx hb dX12_talk_0 rfl (lv_at hl 0 rfl) ?_
  refine lv_iconst (v := 0) hx hb dX12_talk_1 (by decide) ?_
  refine q_put (v := .int 0) X hK h 0 rfl rfl wf_12 tyX12 tyX12_ok nmX12 0 (by decide) wm_5_170 rfl rfl rfl (Nat.le_of_ble_eq_true rfl) dX12_talk_2 (fun H locs h_1 => ?_)
  clear h
  replace h_1 : qW D _ _ (wk_c1caaabd7 cy h0 0 h1 w0 w1 w2 p3 p4 p5 p6 p7 p8 p9 p10 p11 p12 p13 h2 h3 h4 w3 h5 p14 p15 w4 w5 w6 p16 p17 w7 w8 w9 w10 w11 p18 w12 w13 w14 h1 f0 h2 f1 h3 f2 h4 f3 h5 f4) _ _ := h_1
  refine lv_aload_n hx hb dX12_talk_5 rfl (lv_at hl 0 rfl) ?_
  refine lv_iload_n hx hb dX12_talk_6 rfl (lv_at hl 1 rfl) ?_
  refine lv_i2l hx hb dX12_talk_7 rfl ?_
  obtain ⟨z_2, ez_2, hz_2⟩ := e_i2l (x := p0) rfl
  refine q_cl z_2 ez_2 ?_
  clear ez_2
  refine lv_iload_n hx hb dX12_talk_8 rfl (lv_at hl 2 rfl) ?_
  refine lv_i2l hx hb dX12_talk_9 rfl ?_
  obtain ⟨z_3, ez_3, hz_3⟩ := e_i2l (x := p1) rfl
  refine q_cl z_3 ez_3 ?_
  clear ez_3
  refine q_callVi (rest := []) (wr := (wk_3a288e38f cy h2 f1 h3 f2 h4 f3 h5 f4)) X hK hT hA h_1 (fun sz => gX12_whyTalk_1a9da66 l D cy h0 h1 z_2 z_3 (0 : Int32) w0 w1 w2 p3 p4 p5 p6 p7 p8 p9 p10 p11 p12 p13 (.ref h2) (.ref h3) (.ref h4) w3 (.ref h5) p14 p15 w4 w5 w6 p16 p17 w7 w8 w9 w10 w11 p18 w12 w13 w14 f0 p19 ⟨by omega, by omega⟩ ⟨by omega, by omega⟩ ⟨by decide +kernel, by decide +kernel⟩ hp3 hp4 hp5 hp6 (i_rng _) hp8 (i_rng _) (i_rng _) (i_rng _) (i_rng _) (i_rng _) (i_rng _) (i_rng _) (i_rng _) (i_rng _) (i_rng _) hp19 htf0_84 rf0 sz) wm_6_216 wm_6_219 wm_1_12 hd_X12_whyTalk wm_6_218 wp_5_15 (ci := 12) (q0 := 0) rfl rfl ⟨Nat.le_of_ble_eq_true rfl, Nat.le_of_ble_eq_true rfl⟩ hl.1 rfl (Nat.le_of_ble_eq_true rfl) dX12_talk_10 ⟨Nat.le_of_ble_eq_true rfl, Nat.le_of_ble_eq_true rfl⟩ [0, 1] [2, 3, 4, 5] rfl rfl (by decide) rfl rfl (fun r_4 u_4 H locs w_4 h_4 => ?_)
  clear h_1
  obtain ⟨wr_4, y4_0, _⟩ := w_4
  replace h_4 : qW D _ _ (wk_f610781b9 cy h2 f1 h3 f2 h4 f3 h5 f4 h0 0 h1 w0 w1 w2 p3 p4 p5 p6 p7 p8 p9 p10 p11 p12 p13 h2 h3 h4 w3 h5 p14 p15 w4 w5 w6 p16 p17 w7 w8 w9 w10 w11 p18 w12 w13 w14 h1 f0) _ _ := h_4
  refine lv_istore_n (lv' := [(3, .int r_4), (0, .ref h0), (1, .int p0), (2, .int p1)]) hx hb dX12_talk_13 rfl hl (by decide) rfl (fun ls_5 hl_5 => ?_)
  clear hl
  refine lv_iload_n hx hb dX12_talk_14 rfl (lv_at hl_5 0 rfl) ?_
  refine lv_if_eq (tgt := 23) hx hb dX12_talk_15 (by decide) (fun c_6 => ?_) (fun c_6 => ?_)
  · replace c_6 := i_eq (x := r_4) (y := 0) rfl (show (0 : Int32).toInt = 0 by decide) c_6
    refine lv_aload_n hx hb dX12_talk_23 rfl (lv_at hl_5 1 rfl) ?_
    refine q_callVv (rest := []) (wr := (wk_840316d5a cy h2 f1 h3 f2 h4 f3)) X hK hT hA h_4 (fun sz => gX12_keeps_814ac6b l D cy h0 h1 h5 (0 : Int32) w0 w1 w2 p3 p4 p5 p6 p7 p8 p9 p10 p11 p12 p13 (.ref h2) (.ref h3) (.ref h4) w3 p14 p15 w4 w5 w6 p16 p17 w7 w8 w9 w10 w11 p18 w12 w13 w14 f0 p19 f4 ⟨by decide +kernel, by decide +kernel⟩ hp3 hp4 hp5 hp6 (i_rng _) hp8 (i_rng _) (i_rng _) (i_rng _) (i_rng _) (i_rng _) (i_rng _) (i_rng _) (i_rng _) (i_rng _) (i_rng _) hp19 htf0_84 rf0 rf4 sz) wm_6_220 wm_6_223 wm_1_12 hd_X12_keeps wm_6_222 wp_6_0 (ci := 12) (q0 := 0) rfl rfl ⟨Nat.le_of_ble_eq_true rfl, Nat.le_of_ble_eq_true rfl⟩ hl_5.1 rfl (Nat.le_of_ble_eq_true rfl) dX12_talk_24 ⟨Nat.le_of_ble_eq_true rfl, Nat.le_of_ble_eq_true rfl⟩ [4, 5, 3] [0, 1, 2] rfl rfl (by decide) rfl rfl (fun u_7 H locs w_7 h_7 => ?_)
    clear h_4
    obtain ⟨w7_0, _⟩ := w_7
    replace h_7 : qW D _ _ (wk_e7966dd3c cy h2 f1 h3 f2 h4 f3 h0 0 h1 w0 w1 w2 p3 p4 p5 p6 p7 p8 p9 p10 p11 p12 p13 h2 h3 h4 w3 h5 p14 p15 w4 w5 w6 p16 p17 w7 w8 w9 w10 w11 p18 w12 w13 w14 h1 f0 h5 (u_7.2.1 0)) _ _ := h_7
    refine lv_aload_n hx hb dX12_talk_27 rfl (lv_at hl_5 1 rfl) ?_
    refine lv_iload_n hx hb dX12_talk_28 rfl (lv_at hl_5 2 rfl) ?_
    refine lv_iload_n hx hb dX12_talk_29 rfl (lv_at hl_5 3 rfl) ?_
    refine q_callVv (rest := []) (wr := [(h5, .inl (cy 1, 32, .inl (u_7.2.1 0)))]) X hK hT hA h_7 (fun sz => gX12_talks1_48107b5 l D cy h0 h1 h2 h3 h4 p0 p1 (0 : Int32) w0 w1 w2 p3 p4 p5 p6 p7 p8 p9 p10 p11 p12 p13 w3 (.ref h5) p14 p15 w4 w5 w6 p16 p17 w7 w8 w9 w10 w11 p18 w12 w13 w14 f0 p19 f1 f2 f3 ⟨by omega, by omega⟩ ⟨by omega, by omega⟩ ⟨by decide +kernel, by decide +kernel⟩ hp3 hp4 hp5 hp6 (i_rng _) hp8 (i_rng _) (i_rng _) (i_rng _) (i_rng _) (i_rng _) (i_rng _) (i_rng _) (i_rng _) (i_rng _) (i_rng _) hp19 htf0_84 rf0 (rg_wide rf3 (by decide) (by decide)) sz) wm_6_224 wm_6_227 wm_1_12 hd_X12_talks1 wm_6_226 wp_6_1 (ci := 12) (q0 := 0) rfl rfl ⟨Nat.le_of_ble_eq_true rfl, Nat.le_of_ble_eq_true rfl⟩ hl_5.1 rfl (Nat.le_of_ble_eq_true rfl) dX12_talk_30 ⟨Nat.le_of_ble_eq_true rfl, Nat.le_of_ble_eq_true rfl⟩ [3, 4, 0, 1, 2] [5] rfl rfl (by decide) rfl rfl (fun u_8 H locs w_8 h_8 => ?_)
    clear h_7
    obtain ⟨w8_0, w8_1, w8_2, _⟩ := w_8
    replace h_8 : qW D _ _ (wk_7edf1f2f5 cy h5 (u_7.2.1 0) h0 0 h1 w0 w1 w2 p3 p4 p5 p6 p7 p8 p9 p10 p11 p12 p13 h2 h3 h4 w3 h5 p14 p15 w4 w5 w6 p16 p17 w7 w8 w9 w10 w11 p18 w12 w13 w14 h1 (u_8.2.1 0) h2 (u_8.2.1 1) h3 (u_8.2.1 2) h4 (u_8.2.1 3)) _ _ := h_8
    refine lv_aload_n hx hb dX12_talk_33 rfl (lv_at hl_5 1 rfl) ?_
    refine q_callVv (rest := []) (wr := (wk_840316d5a cy h2 (u_8.2.1 1) h3 (u_8.2.1 2) h4 (u_8.2.1 3))) X hK hT hA h_8 (fun sz => gX12_notes_fd80d29 l D cy h0 h1 h5 (0 : Int32) w0 w1 w2 p3 p4 p5 p6 p7 p8 p9 p10 p11 p12 p13 (.ref h2) (.ref h3) (.ref h4) w3 p14 p15 w4 w5 w6 p16 p17 w7 w8 w9 w10 w11 p18 w12 w13 w14 (u_8.2.1 0) p19 (u_7.2.1 0) ⟨by decide +kernel, by decide +kernel⟩ hp3 hp4 hp5 hp6 (i_rng _) hp8 (i_rng _) (i_rng _) (i_rng _) (i_rng _) (i_rng _) (i_rng _) (i_rng _) (i_rng _) (i_rng _) (i_rng _) hp19 w8_2 w8_0 w7_0 sz) wm_6_232 wm_6_235 wm_1_12 hd_X12_notes wm_6_234 wp_6_3 (ci := 12) (q0 := 0) rfl rfl ⟨Nat.le_of_ble_eq_true rfl, Nat.le_of_ble_eq_true rfl⟩ hl_5.1 rfl (Nat.le_of_ble_eq_true rfl) dX12_talk_34 ⟨Nat.le_of_ble_eq_true rfl, Nat.le_of_ble_eq_true rfl⟩ [1, 2, 0] [3, 4, 5] rfl rfl (by decide) rfl rfl (fun u_9 H locs w_9 h_9 => ?_)
    clear h_8
    obtain ⟨w9_0, w9_1, w9_2, _⟩ := w_9
    replace h_9 : qW D _ _ (wk_e7966dd3c cy h2 (u_8.2.1 1) h3 (u_8.2.1 2) h4 (u_8.2.1 3) h0 0 h1 w0 w1 w2 p3 p4 p5 p6 p7 p8 p9 p10 p11 p12 p13 h2 h3 h4 w3 h5 p14 p15 w4 w5 w6 p16 p17 w7 w8 w9 w10 w11 p18 w12 w13 w14 h1 (u_9.2.1 0) h5 (u_7.2.1 0)) _ _ := h_9
    refine lv_aload_n hx hb dX12_talk_37 rfl (lv_at hl_5 1 rfl) ?_
    refine lv_iload_n hx hb dX12_talk_38 rfl (lv_at hl_5 2 rfl) ?_
    refine q_callVi (rest := []) (wr := [(h4, .inl (cy 1, 3, .inl (u_8.2.1 3))), (h5, .inl (cy 1, 32, .inl (u_7.2.1 0)))]) X hK hT hA h_9 (fun sz => gX12_opposedTo_12aa0ac l D cy h0 h1 h2 h3 p0 (0 : Int32) w0 w1 w2 p3 p4 p5 p6 p7 p8 p9 p10 p11 p12 p13 (.ref h4) w3 (.ref h5) p14 p15 w4 w5 w6 p16 p17 w7 w8 w9 w10 w11 p18 w12 w13 w14 (u_9.2.1 0) (u_9.2.1 1 0) (u_8.2.1 1) (u_8.2.1 2) ⟨by omega, by omega⟩ ⟨by decide +kernel, by decide +kernel⟩ hp3 hp4 hp5 hp6 (i_rng _) hp8 (i_rng _) (i_rng _) (i_rng _) (i_rng _) (i_rng _) (i_rng _) (i_rng _) (i_rng _) (i_rng _) (i_rng _) (bw w9_1 (by decide) (by decide)) w9_2 w9_0 sz) wm_6_208 wm_6_211 wm_1_12 hd_X12_opposedTo wm_6_210 wp_5_14 (ci := 12) (q0 := 0) rfl rfl ⟨Nat.le_of_ble_eq_true rfl, Nat.le_of_ble_eq_true rfl⟩ hl_5.1 rfl (Nat.le_of_ble_eq_true rfl) dX12_talk_39 ⟨Nat.le_of_ble_eq_true rfl, Nat.le_of_ble_eq_true rfl⟩ [3, 4, 0, 1] [2, 5] rfl rfl (by decide) rfl rfl (fun r_10 u_10 H locs w_10 h_10 => ?_)
    clear h_9
    obtain ⟨wr_10, _⟩ := w_10
    replace h_10 : qW D _ _ [(h4, .inl (cy 1, 3, .inl (u_8.2.1 3))), (h5, .inl (cy 1, 32, .inl (u_7.2.1 0))), (h0, .inr (12, [.int 0, .ref h1, w0, w1, w2, .int p3, .int p4, .int p5, .int p6, .int p7, .int p8, .int p9, .int p10, .int p11, .int p12, .int p13, .ref h2, .ref h3, .ref h4, w3, .ref h5, .int p14, .int p15, w4, w5, w6, .int p16, .int p17, w7, w8, w9, w10, w11, .int p18, w12, w13, w14])), (h1, .inl (cy 1, 3918, .inl (u_9.2.1 0))), (h2, .inl (cy 1, 900, .inl (u_10.2.1 0))), (h3, .inl (cy 1, 11, .inl (u_10.2.1 1)))] _ _ := h_10
    exact q_iret X hr hlk hK h_10 rfl (fun _ => 0, (vcons (u_8.2.1 3) (vcons (u_7.2.1 0) (vcons (fun _ => 0) (vcons (u_9.2.1 0) (vcons (fun _ => (u_9.2.1 1 0)) (vcons (u_10.2.1 0) (vcons (u_10.2.1 1) (fun _ => (fun _ => 0))))))))), fun _ _ => 0) ⟨(bw wr_10 (by decide) (by decide)), (rg_wide w8_1 (by decide) (by decide)), w7_0, (⟨by decide +kernel, by decide +kernel⟩ : 0 ≤ (0 : Int32).toInt ∧ (0 : Int32).toInt ≤ 0), w9_0, (bw w9_1 (by decide) (by decide)), w9_2, trivial⟩ [2, 3, 4, 5, 0, 1] rfl rfl dX12_talk_42 (Nat.le_of_ble_eq_true rfl) (Nat.le_of_ble_eq_true rfl)
  · replace c_6 := i_ne (x := r_4) (y := 0) rfl (show (0 : Int32).toInt = 0 by decide) c_6
    refine lv_bipush (v := (-10)) hx hb dX12_talk_18 (by decide) ?_
    refine lv_iload_n hx hb dX12_talk_20 rfl (lv_at hl_5 0 rfl) ?_
    refine lv_isub hx hb dX12_talk_21 ?_
    obtain ⟨z_11, ez_11, hz_11⟩ := e_sub (x := (-10)) (y := r_4) (show ((-10) : Int32).toInt = -10 by decide) rfl (by omega) (by omega)
    refine q_c z_11 ez_11 ?_
    clear ez_11
    exact q_iret X hr hlk hK h_4 rfl (fun _ => 0, (vcons f3 (vcons f4 (vcons (fun _ => 0) (vcons f0 (vcons (fun _ => p19) (vcons f1 (vcons f2 (fun _ => (fun _ => 0))))))))), fun _ _ => 0) ⟨⟨by omega, by omega⟩, (rg_wide rf3 (by decide) (by decide)), rf4, (⟨by decide +kernel, by decide +kernel⟩ : 0 ≤ (0 : Int32).toInt ∧ (0 : Int32).toInt ≤ 0), rf0, hp19, htf0_84, trivial⟩ [4, 5, 0, 1, 2, 3] rfl rfl dX12_talk_22 (Nat.le_of_ble_eq_true rfl) (Nat.le_of_ble_eq_true rfl)
set_option maxHeartbeats 4000000 in
set_option maxRecDepth 100000 in
theorem gX12_whySend_e93c98d (l : Launch) (D : va_G) (cy : Nat → ClassId) (h0 : Nat) (h1 : Nat) (j0 : Int64) (p0 : Int32) (p1 : Int32) (w0 : Value) (w1 : Value) (w2 : Value) (p2 : Int32) (p3 : Int32) (p4 : Int32) (p5 : Int32) (p6 : Int32) (p7 : Int32) (p8 : Int32) (p9 : Int32) (p10 : Int32) (p11 : Int32) (p12 : Int32) (w3 : Value) (w4 : Value) (w5 : Value) (w6 : Value) (w7 : Value) (p13 : Int32) (p14 : Int32) (w8 : Value) (w9 : Value) (w10 : Value) (p15 : Int32) (p16 : Int32) (w11 : Value) (w12 : Value) (w13 : Value) (w14 : Value) (w15 : Value) (p17 : Int32) (w16 : Value) (w17 : Value) (w18 : Value) (f0 : Nat → Int32) (p18 : Int32) (hj0 : (-2147483648) ≤ (j0).toInt ∧ (j0).toInt ≤ 2147483647) (hp0 : 0 ≤ (p0).toInt ∧ (p0).toInt ≤ 1) (hp1 : 0 ≤ (p1).toInt ∧ (p1).toInt ≤ 0) (hp2 : 0 ≤ (p2).toInt ∧ (p2).toInt ≤ 900) (hp3 : 0 ≤ (p3).toInt ∧ (p3).toInt ≤ 900) (hp4 : 0 ≤ (p4).toInt ∧ (p4).toInt ≤ 900) (hp5 : 0 ≤ (p5).toInt ∧ (p5).toInt ≤ 900) (hp6 : (-2147483648) ≤ (p6).toInt ∧ (p6).toInt ≤ 2147483647) (hp7 : 0 ≤ (p7).toInt ∧ (p7).toInt ≤ 999) (hp8 : (-2147483648) ≤ (p8).toInt ∧ (p8).toInt ≤ 2147483647) (hp9 : (-2147483648) ≤ (p9).toInt ∧ (p9).toInt ≤ 2147483647) (hp10 : (-2147483648) ≤ (p10).toInt ∧ (p10).toInt ≤ 2147483647) (hp11 : (-2147483648) ≤ (p11).toInt ∧ (p11).toInt ≤ 2147483647) (hp12 : (-2147483648) ≤ (p12).toInt ∧ (p12).toInt ≤ 2147483647) (hp13 : (-2147483648) ≤ (p13).toInt ∧ (p13).toInt ≤ 2147483647) (hp14 : (-2147483648) ≤ (p14).toInt ∧ (p14).toInt ≤ 2147483647) (hp15 : (-2147483648) ≤ (p15).toInt ∧ (p15).toInt ≤ 2147483647) (hp16 : (-2147483648) ≤ (p16).toInt ∧ (p16).toInt ≤ 2147483647) (hp17 : (-2147483648) ≤ (p17).toInt ∧ (p17).toInt ≤ 2147483647) (hp18 : 0 ≤ (p18).toInt ∧ (p18).toInt ≤ 10) (htf0_84 : f0 84 = p18) (rf0 : AL f0) (sz : Nat) : MI l yX12_whySend cX12_whySend 4 .int { frames := 2, cells := 0, slots := 0, locals := 47 } [.ref h0, .long j0, .int p0] D cy (wk_e1f596b07 cy h0 p1 h1 w0 w1 w2 p2 p3 p4 p5 p6 p7 p8 p9 p10 p11 p12 w3 w4 w5 w6 w7 p13 p14 w8 w9 w10 p15 p16 w11 w12 w13 w14 w15 p17 w16 w17 w18 h1 f0) sz (fun r u => (0 ≤ r.toInt ∧ r.toInt ≤ 2) ∧ True) (fun u => (wk_e1f596b07 cy h0 p1 h1 w0 w1 w2 p2 p3 p4 p5 p6 p7 p8 p9 p10 p11 p12 w3 w4 w5 w6 w7 p13 p14 w8 w9 w10 p15 p16 w11 w12 w13 w14 w15 p17 w16 w17 w18 h1 f0)) 0 0 := by
  refine q_ent (own := RX12) (by decide) rfl (Nat.le_of_ble_eq_true rfl) (fun p e s m below meth c ls X hr hlk hnm hK hT h hA hl => ?_)
  obtain ⟨hx, hb, hml, hown, ht⟩ := id X
  replace hl : lv_has ls 4 [(0, .ref h0), (1, .long j0), (3, .int p0)] := hl
  refine lv_aload_n hx hb dX12_whySend_0 rfl (lv_at hl 0 rfl) ?_
  refine lv_lload_n hx hb dX12_whySend_1 rfl (lv_at hl 1 rfl) ?_
  refine q_callVi (rest := []) (wr := []) X hK hT hA h (fun sz => gX12_isPerson_039c8d6 l D cy h0 h1 j0 p1 w0 w1 w2 p2 p3 p4 p5 p6 p7 p8 p9 p10 p11 p12 w3 w4 w5 w6 w7 p13 p14 w8 w9 w10 p15 p16 w11 w12 w13 w14 w15 p17 w16 w17 w18 f0 p18 ⟨by omega, by omega⟩ hp1 hp2 hp3 hp4 hp5 (i_rng _) hp7 (i_rng _) (i_rng _) (i_rng _) (i_rng _) (i_rng _) (i_rng _) (i_rng _) (i_rng _) (i_rng _) (i_rng _) hp18 htf0_84 rf0 sz) wm_6_162 wm_6_165 wm_1_12 hd_X12_isPerson wm_6_164 wp_5_8 (ci := 12) (q0 := 0) rfl rfl ⟨Nat.le_of_ble_eq_true rfl, Nat.le_of_ble_eq_true rfl⟩ hl.1 rfl (Nat.le_of_ble_eq_true rfl) dX12_whySend_2 ⟨Nat.le_of_ble_eq_true rfl, Nat.le_of_ble_eq_true rfl⟩ [0, 1] [] rfl rfl (by decide) rfl rfl (fun r_1 u_1 H locs w_1 h_1 => ?_)
  clear h
  obtain ⟨wr_1, y1_0, _⟩ := w_1
  replace h_1 : qW D _ _ (wk_e1f596b07 cy h0 p1 h1 w0 w1 w2 p2 p3 p4 p5 p6 p7 p8 p9 p10 p11 p12 w3 w4 w5 w6 w7 p13 p14 w8 w9 w10 p15 p16 w11 w12 w13 w14 w15 p17 w16 w17 w18 h1 f0) _ _ := h_1
  refine lv_if_ne (tgt := 12) hx hb dX12_whySend_5 (by decide) (fun c_2 => ?_) (fun c_2 => ?_)
  · replace c_2 := i_ne (x := r_1) (y := 0) rfl (show (0 : Int32).toInt = 0 by decide) c_2
    refine lv_aload_n hx hb dX12_whySend_12 rfl (lv_at hl 0 rfl) ?_
    refine q_get X hK h_1 0 rfl rfl wf_12 1 (by decide) rfl wm_5_171 dX12_whySend_13 ?_
    refine lv_bipush (v := 53) hx hb dX12_whySend_16 (by decide) ?_
    refine q_iald X hK h_1 1 rfl (q_in (by decide +kernel)) dX12_whySend_18 ?_
    refine q_any (fun z_3 hz_3 => ?_)
    refine lv_lload_n hx hb dX12_whySend_19 rfl (lv_at hl 1 rfl) ?_
    refine lv_l2i hx hb dX12_whySend_20 rfl ?_
    obtain ⟨z_4, ez_4, hz_4⟩ := e_l2i (x := j0) rfl (by omega) (by omega)
    refine q_c z_4 ez_4 ?_
    clear ez_4
    refine lv_ishr hx hb dX12_whySend_21 ?_
    refine q_any (fun z_5 hz_5 => ?_)
    refine lv_iconst (v := 1) hx hb dX12_whySend_22 (by decide) ?_
    refine lv_iand hx hb dX12_whySend_23 ?_
    obtain ⟨z_6, ez_6, hz_6⟩ := e_and2 (x := z_5) (y := 1) (show (1 : Int32).toInt = 1 by decide) (by omega)
    refine q_c z_6 ez_6 ?_
    clear ez_6
    refine lv_iload_n hx hb dX12_whySend_24 rfl (lv_at hl 2 rfl) ?_
    refine lv_icmp_ne (tgt := 32) hx hb dX12_whySend_25 (by decide) (fun c_7 => ?_) (fun c_7 => ?_)
    · replace c_7 := i_ne (x := z_6) (y := p0) rfl rfl c_7
      refine lv_iconst (v := 0) hx hb dX12_whySend_32 (by decide) ?_
      exact q_iret X hr hlk hK h_1 rfl (fun _ => 0, fun _ _ => 0, fun _ _ => 0) ⟨⟨by decide +kernel, by decide +kernel⟩, trivial⟩ [0, 1] rfl rfl dX12_whySend_33 (Nat.le_of_ble_eq_true rfl) (Nat.le_of_ble_eq_true rfl)
    · replace c_7 := i_eq (x := z_6) (y := p0) rfl rfl c_7
      refine lv_iconst (v := 2) hx hb dX12_whySend_28 (by decide) ?_
      refine lv_goto (tgt := 33) hx hb dX12_whySend_29 (by decide) ?_
      exact q_iret X hr hlk hK h_1 rfl (fun _ => 0, fun _ _ => 0, fun _ _ => 0) ⟨⟨by decide +kernel, by decide +kernel⟩, trivial⟩ [0, 1] rfl rfl dX12_whySend_33 (Nat.le_of_ble_eq_true rfl) (Nat.le_of_ble_eq_true rfl)
  · replace c_2 := i_eq (x := r_1) (y := 0) rfl (show (0 : Int32).toInt = 0 by decide) c_2
    refine lv_iconst (v := 1) hx hb dX12_whySend_8 (by decide) ?_
    refine lv_goto (tgt := 33) hx hb dX12_whySend_9 (by decide) ?_
    exact q_iret X hr hlk hK h_1 rfl (fun _ => 0, fun _ _ => 0, fun _ _ => 0) ⟨⟨by decide +kernel, by decide +kernel⟩, trivial⟩ [0, 1] rfl rfl dX12_whySend_33 (Nat.le_of_ble_eq_true rfl) (Nat.le_of_ble_eq_true rfl)
set_option maxHeartbeats 4000000 in
set_option maxRecDepth 100000 in
theorem gX12_bitsOf_5a43b1c (l : Launch) (D : va_G) (cy : Nat → ClassId) (p0 : Int32) (hp0 : (-2147483648) ≤ (p0).toInt ∧ (p0).toInt ≤ 2147483647) (sz : Nat) : MI l yX12_bitsOf cX12_bitsOf 3 .int { frames := 0, cells := 0, slots := 0, locals := 0 } [.int p0] D cy [] sz (fun r u => (0 ≤ r.toInt ∧ r.toInt ≤ 10) ∧ True) (fun u => []) 0 0 := by
  refine q_ent (own := RX12) (by decide) rfl (Nat.le_of_ble_eq_true rfl) (fun p e s m below meth c ls X hr hlk hnm hK hT h hA hl => ?_)
  obtain ⟨hx, hb, hml, hown, ht⟩ := id X
  replace hl : lv_has ls 3 [(0, .int p0)] := hl
  refine lv_iconst (v := 0) hx hb dX12_bitsOf_0 (by decide) ?_
  refine lv_istore_n (lv' := [(1, .int 0), (0, .int p0)]) hx hb dX12_bitsOf_1 rfl hl (by decide) rfl (fun ls_1 hl_1 => ?_)
  clear hl
  refine lv_iconst (v := 0) hx hb dX12_bitsOf_2 (by decide) ?_
  refine lv_istore_n (lv' := [(2, .int 0), (1, .int 0), (0, .int p0)]) hx hb dX12_bitsOf_3 rfl hl_1 (by decide) rfl (fun ls_2 hl_2 => ?_)
  clear hl_1
  refine lv_iload_n hx hb dX12_bitsOf_4 rfl (lv_at hl_2 0 rfl) ?_
  refine lv_bipush (v := 10) hx hb dX12_bitsOf_5 (by decide) ?_
  refine lv_icmp_ge (tgt := 24) hx hb dX12_bitsOf_7 (by decide) (fun c => absurd c (by decide +kernel)) (fun _ => ?_)
  refine lv_iload_n hx hb dX12_bitsOf_10 rfl (lv_at hl_2 1 rfl) ?_
  refine lv_iload_n hx hb dX12_bitsOf_11 rfl (lv_at hl_2 2 rfl) ?_
  refine lv_iload_n hx hb dX12_bitsOf_12 rfl (lv_at hl_2 0 rfl) ?_
  refine lv_ishr hx hb dX12_bitsOf_13 ?_
  refine q_any (fun z_3 hz_3 => ?_)
  refine lv_iconst (v := 1) hx hb dX12_bitsOf_14 (by decide) ?_
  refine lv_iand hx hb dX12_bitsOf_15 ?_
  obtain ⟨z_4, ez_4, hz_4⟩ := e_and2 (x := z_3) (y := 1) (show (1 : Int32).toInt = 1 by decide) (by omega)
  refine q_c z_4 ez_4 ?_
  clear ez_4
  refine lv_iadd hx hb dX12_bitsOf_16 ?_
  obtain ⟨z_5, ez_5, hz_5⟩ := e_add (x := 0) (y := z_4) (show (0 : Int32).toInt = 0 by decide) rfl (by omega) (by omega)
  refine q_c z_5 ez_5 ?_
  clear ez_5
  refine lv_istore_n (lv' := [(1, .int z_5), (2, .int 0), (0, .int p0)]) hx hb dX12_bitsOf_17 rfl hl_2 (by decide) rfl (fun ls_6 hl_6 => ?_)
  clear hl_2
  refine lv_iinc (v := 1) (lv' := [(2, .int 1), (1, .int z_5), (0, .int p0)]) hx hb dX12_bitsOf_18 hl_6 (k := 1) rfl (by decide +kernel) (by decide) rfl (fun ls_7 hl_7 => ?_)
  clear hl_6
  refine lv_goto (tgt := 4) hx hb dX12_bitsOf_21 (by decide) ?_
  refine lv_iload_n hx hb dX12_bitsOf_4 rfl (lv_at hl_7 0 rfl) ?_
  refine lv_bipush (v := 10) hx hb dX12_bitsOf_5 (by decide) ?_
  refine lv_icmp_ge (tgt := 24) hx hb dX12_bitsOf_7 (by decide) (fun c => absurd c (by decide +kernel)) (fun _ => ?_)
  refine lv_iload_n hx hb dX12_bitsOf_10 rfl (lv_at hl_7 1 rfl) ?_
  refine lv_iload_n hx hb dX12_bitsOf_11 rfl (lv_at hl_7 2 rfl) ?_
  refine lv_iload_n hx hb dX12_bitsOf_12 rfl (lv_at hl_7 0 rfl) ?_
  refine lv_ishr hx hb dX12_bitsOf_13 ?_
  refine q_any (fun z_8 hz_8 => ?_)
  refine lv_iconst (v := 1) hx hb dX12_bitsOf_14 (by decide) ?_
  refine lv_iand hx hb dX12_bitsOf_15 ?_
  obtain ⟨z_9, ez_9, hz_9⟩ := e_and2 (x := z_8) (y := 1) (show (1 : Int32).toInt = 1 by decide) (by omega)
  refine q_c z_9 ez_9 ?_
  clear ez_9
  refine lv_iadd hx hb dX12_bitsOf_16 ?_
  obtain ⟨z_10, ez_10, hz_10⟩ := e_add (x := z_5) (y := z_9) rfl rfl (by omega) (by omega)
  refine q_c z_10 ez_10 ?_
  clear ez_10
  refine lv_istore_n (lv' := [(1, .int z_10), (2, .int 1), (0, .int p0)]) hx hb dX12_bitsOf_17 rfl hl_7 (by decide) rfl (fun ls_11 hl_11 => ?_)
  clear hl_7
  refine lv_iinc (v := 2) (lv' := [(2, .int 2), (1, .int z_10), (0, .int p0)]) hx hb dX12_bitsOf_18 hl_11 (k := 1) rfl (by decide +kernel) (by decide) rfl (fun ls_12 hl_12 => ?_)
  clear hl_11
  refine lv_goto (tgt := 4) hx hb dX12_bitsOf_21 (by decide) ?_
  refine lv_iload_n hx hb dX12_bitsOf_4 rfl (lv_at hl_12 0 rfl) ?_
  refine lv_bipush (v := 10) hx hb dX12_bitsOf_5 (by decide) ?_
  refine lv_icmp_ge (tgt := 24) hx hb dX12_bitsOf_7 (by decide) (fun c => absurd c (by decide +kernel)) (fun _ => ?_)
  refine lv_iload_n hx hb dX12_bitsOf_10 rfl (lv_at hl_12 1 rfl) ?_
  refine lv_iload_n hx hb dX12_bitsOf_11 rfl (lv_at hl_12 2 rfl) ?_
  refine lv_iload_n hx hb dX12_bitsOf_12 rfl (lv_at hl_12 0 rfl) ?_
  refine lv_ishr hx hb dX12_bitsOf_13 ?_
  refine q_any (fun z_13 hz_13 => ?_)
  refine lv_iconst (v := 1) hx hb dX12_bitsOf_14 (by decide) ?_
  refine lv_iand hx hb dX12_bitsOf_15 ?_
  obtain ⟨z_14, ez_14, hz_14⟩ := e_and2 (x := z_13) (y := 1) (show (1 : Int32).toInt = 1 by decide) (by omega)
  refine q_c z_14 ez_14 ?_
  clear ez_14
  refine lv_iadd hx hb dX12_bitsOf_16 ?_
  obtain ⟨z_15, ez_15, hz_15⟩ := e_add (x := z_10) (y := z_14) rfl rfl (by omega) (by omega)
  refine q_c z_15 ez_15 ?_
  clear ez_15
  refine lv_istore_n (lv' := [(1, .int z_15), (2, .int 2), (0, .int p0)]) hx hb dX12_bitsOf_17 rfl hl_12 (by decide) rfl (fun ls_16 hl_16 => ?_)
  clear hl_12
  refine lv_iinc (v := 3) (lv' := [(2, .int 3), (1, .int z_15), (0, .int p0)]) hx hb dX12_bitsOf_18 hl_16 (k := 1) rfl (by decide +kernel) (by decide) rfl (fun ls_17 hl_17 => ?_)
  clear hl_16
  refine lv_goto (tgt := 4) hx hb dX12_bitsOf_21 (by decide) ?_
  refine lv_iload_n hx hb dX12_bitsOf_4 rfl (lv_at hl_17 0 rfl) ?_
  refine lv_bipush (v := 10) hx hb dX12_bitsOf_5 (by decide) ?_
  refine lv_icmp_ge (tgt := 24) hx hb dX12_bitsOf_7 (by decide) (fun c => absurd c (by decide +kernel)) (fun _ => ?_)
  refine lv_iload_n hx hb dX12_bitsOf_10 rfl (lv_at hl_17 1 rfl) ?_
  refine lv_iload_n hx hb dX12_bitsOf_11 rfl (lv_at hl_17 2 rfl) ?_
  refine lv_iload_n hx hb dX12_bitsOf_12 rfl (lv_at hl_17 0 rfl) ?_
  refine lv_ishr hx hb dX12_bitsOf_13 ?_
  refine q_any (fun z_18 hz_18 => ?_)
  refine lv_iconst (v := 1) hx hb dX12_bitsOf_14 (by decide) ?_
  refine lv_iand hx hb dX12_bitsOf_15 ?_
  obtain ⟨z_19, ez_19, hz_19⟩ := e_and2 (x := z_18) (y := 1) (show (1 : Int32).toInt = 1 by decide) (by omega)
  refine q_c z_19 ez_19 ?_
  clear ez_19
  refine lv_iadd hx hb dX12_bitsOf_16 ?_
  obtain ⟨z_20, ez_20, hz_20⟩ := e_add (x := z_15) (y := z_19) rfl rfl (by omega) (by omega)
  refine q_c z_20 ez_20 ?_
  clear ez_20
  refine lv_istore_n (lv' := [(1, .int z_20), (2, .int 3), (0, .int p0)]) hx hb dX12_bitsOf_17 rfl hl_17 (by decide) rfl (fun ls_21 hl_21 => ?_)
  clear hl_17
  refine lv_iinc (v := 4) (lv' := [(2, .int 4), (1, .int z_20), (0, .int p0)]) hx hb dX12_bitsOf_18 hl_21 (k := 1) rfl (by decide +kernel) (by decide) rfl (fun ls_22 hl_22 => ?_)
  clear hl_21
  refine lv_goto (tgt := 4) hx hb dX12_bitsOf_21 (by decide) ?_
  refine lv_iload_n hx hb dX12_bitsOf_4 rfl (lv_at hl_22 0 rfl) ?_
  refine lv_bipush (v := 10) hx hb dX12_bitsOf_5 (by decide) ?_
  refine lv_icmp_ge (tgt := 24) hx hb dX12_bitsOf_7 (by decide) (fun c => absurd c (by decide +kernel)) (fun _ => ?_)
  refine lv_iload_n hx hb dX12_bitsOf_10 rfl (lv_at hl_22 1 rfl) ?_
  refine lv_iload_n hx hb dX12_bitsOf_11 rfl (lv_at hl_22 2 rfl) ?_
  refine lv_iload_n hx hb dX12_bitsOf_12 rfl (lv_at hl_22 0 rfl) ?_
  refine lv_ishr hx hb dX12_bitsOf_13 ?_
  refine q_any (fun z_23 hz_23 => ?_)
  refine lv_iconst (v := 1) hx hb dX12_bitsOf_14 (by decide) ?_
  refine lv_iand hx hb dX12_bitsOf_15 ?_
  obtain ⟨z_24, ez_24, hz_24⟩ := e_and2 (x := z_23) (y := 1) (show (1 : Int32).toInt = 1 by decide) (by omega)
  refine q_c z_24 ez_24 ?_
  clear ez_24
  refine lv_iadd hx hb dX12_bitsOf_16 ?_
  obtain ⟨z_25, ez_25, hz_25⟩ := e_add (x := z_20) (y := z_24) rfl rfl (by omega) (by omega)
  refine q_c z_25 ez_25 ?_
  clear ez_25
  refine lv_istore_n (lv' := [(1, .int z_25), (2, .int 4), (0, .int p0)]) hx hb dX12_bitsOf_17 rfl hl_22 (by decide) rfl (fun ls_26 hl_26 => ?_)
  clear hl_22
  refine lv_iinc (v := 5) (lv' := [(2, .int 5), (1, .int z_25), (0, .int p0)]) hx hb dX12_bitsOf_18 hl_26 (k := 1) rfl (by decide +kernel) (by decide) rfl (fun ls_27 hl_27 => ?_)
  clear hl_26
  refine lv_goto (tgt := 4) hx hb dX12_bitsOf_21 (by decide) ?_
  refine lv_iload_n hx hb dX12_bitsOf_4 rfl (lv_at hl_27 0 rfl) ?_
  refine lv_bipush (v := 10) hx hb dX12_bitsOf_5 (by decide) ?_
  refine lv_icmp_ge (tgt := 24) hx hb dX12_bitsOf_7 (by decide) (fun c => absurd c (by decide +kernel)) (fun _ => ?_)
  refine lv_iload_n hx hb dX12_bitsOf_10 rfl (lv_at hl_27 1 rfl) ?_
  refine lv_iload_n hx hb dX12_bitsOf_11 rfl (lv_at hl_27 2 rfl) ?_
  refine lv_iload_n hx hb dX12_bitsOf_12 rfl (lv_at hl_27 0 rfl) ?_
  refine lv_ishr hx hb dX12_bitsOf_13 ?_
  refine q_any (fun z_28 hz_28 => ?_)
  refine lv_iconst (v := 1) hx hb dX12_bitsOf_14 (by decide) ?_
  refine lv_iand hx hb dX12_bitsOf_15 ?_
  obtain ⟨z_29, ez_29, hz_29⟩ := e_and2 (x := z_28) (y := 1) (show (1 : Int32).toInt = 1 by decide) (by omega)
  refine q_c z_29 ez_29 ?_
  clear ez_29
  refine lv_iadd hx hb dX12_bitsOf_16 ?_
  obtain ⟨z_30, ez_30, hz_30⟩ := e_add (x := z_25) (y := z_29) rfl rfl (by omega) (by omega)
  refine q_c z_30 ez_30 ?_
  clear ez_30
  refine lv_istore_n (lv' := [(1, .int z_30), (2, .int 5), (0, .int p0)]) hx hb dX12_bitsOf_17 rfl hl_27 (by decide) rfl (fun ls_31 hl_31 => ?_)
  clear hl_27
  refine lv_iinc (v := 6) (lv' := [(2, .int 6), (1, .int z_30), (0, .int p0)]) hx hb dX12_bitsOf_18 hl_31 (k := 1) rfl (by decide +kernel) (by decide) rfl (fun ls_32 hl_32 => ?_)
  clear hl_31
  refine lv_goto (tgt := 4) hx hb dX12_bitsOf_21 (by decide) ?_
  refine lv_iload_n hx hb dX12_bitsOf_4 rfl (lv_at hl_32 0 rfl) ?_
  refine lv_bipush (v := 10) hx hb dX12_bitsOf_5 (by decide) ?_
  refine lv_icmp_ge (tgt := 24) hx hb dX12_bitsOf_7 (by decide) (fun c => absurd c (by decide +kernel)) (fun _ => ?_)
  refine lv_iload_n hx hb dX12_bitsOf_10 rfl (lv_at hl_32 1 rfl) ?_
  refine lv_iload_n hx hb dX12_bitsOf_11 rfl (lv_at hl_32 2 rfl) ?_
  refine lv_iload_n hx hb dX12_bitsOf_12 rfl (lv_at hl_32 0 rfl) ?_
  refine lv_ishr hx hb dX12_bitsOf_13 ?_
  refine q_any (fun z_33 hz_33 => ?_)
  refine lv_iconst (v := 1) hx hb dX12_bitsOf_14 (by decide) ?_
  refine lv_iand hx hb dX12_bitsOf_15 ?_
  obtain ⟨z_34, ez_34, hz_34⟩ := e_and2 (x := z_33) (y := 1) (show (1 : Int32).toInt = 1 by decide) (by omega)
  refine q_c z_34 ez_34 ?_
  clear ez_34
  refine lv_iadd hx hb dX12_bitsOf_16 ?_
  obtain ⟨z_35, ez_35, hz_35⟩ := e_add (x := z_30) (y := z_34) rfl rfl (by omega) (by omega)
  refine q_c z_35 ez_35 ?_
  clear ez_35
  refine lv_istore_n (lv' := [(1, .int z_35), (2, .int 6), (0, .int p0)]) hx hb dX12_bitsOf_17 rfl hl_32 (by decide) rfl (fun ls_36 hl_36 => ?_)
  clear hl_32
  refine lv_iinc (v := 7) (lv' := [(2, .int 7), (1, .int z_35), (0, .int p0)]) hx hb dX12_bitsOf_18 hl_36 (k := 1) rfl (by decide +kernel) (by decide) rfl (fun ls_37 hl_37 => ?_)
  clear hl_36
  refine lv_goto (tgt := 4) hx hb dX12_bitsOf_21 (by decide) ?_
  refine lv_iload_n hx hb dX12_bitsOf_4 rfl (lv_at hl_37 0 rfl) ?_
  refine lv_bipush (v := 10) hx hb dX12_bitsOf_5 (by decide) ?_
  refine lv_icmp_ge (tgt := 24) hx hb dX12_bitsOf_7 (by decide) (fun c => absurd c (by decide +kernel)) (fun _ => ?_)
  refine lv_iload_n hx hb dX12_bitsOf_10 rfl (lv_at hl_37 1 rfl) ?_
  refine lv_iload_n hx hb dX12_bitsOf_11 rfl (lv_at hl_37 2 rfl) ?_
  refine lv_iload_n hx hb dX12_bitsOf_12 rfl (lv_at hl_37 0 rfl) ?_
  refine lv_ishr hx hb dX12_bitsOf_13 ?_
  refine q_any (fun z_38 hz_38 => ?_)
  refine lv_iconst (v := 1) hx hb dX12_bitsOf_14 (by decide) ?_
  refine lv_iand hx hb dX12_bitsOf_15 ?_
  obtain ⟨z_39, ez_39, hz_39⟩ := e_and2 (x := z_38) (y := 1) (show (1 : Int32).toInt = 1 by decide) (by omega)
  refine q_c z_39 ez_39 ?_
  clear ez_39
  refine lv_iadd hx hb dX12_bitsOf_16 ?_
  obtain ⟨z_40, ez_40, hz_40⟩ := e_add (x := z_35) (y := z_39) rfl rfl (by omega) (by omega)
  refine q_c z_40 ez_40 ?_
  clear ez_40
  refine lv_istore_n (lv' := [(1, .int z_40), (2, .int 7), (0, .int p0)]) hx hb dX12_bitsOf_17 rfl hl_37 (by decide) rfl (fun ls_41 hl_41 => ?_)
  clear hl_37
  refine lv_iinc (v := 8) (lv' := [(2, .int 8), (1, .int z_40), (0, .int p0)]) hx hb dX12_bitsOf_18 hl_41 (k := 1) rfl (by decide +kernel) (by decide) rfl (fun ls_42 hl_42 => ?_)
  clear hl_41
  refine lv_goto (tgt := 4) hx hb dX12_bitsOf_21 (by decide) ?_
  refine lv_iload_n hx hb dX12_bitsOf_4 rfl (lv_at hl_42 0 rfl) ?_
  refine lv_bipush (v := 10) hx hb dX12_bitsOf_5 (by decide) ?_
  refine lv_icmp_ge (tgt := 24) hx hb dX12_bitsOf_7 (by decide) (fun c => absurd c (by decide +kernel)) (fun _ => ?_)
  refine lv_iload_n hx hb dX12_bitsOf_10 rfl (lv_at hl_42 1 rfl) ?_
  refine lv_iload_n hx hb dX12_bitsOf_11 rfl (lv_at hl_42 2 rfl) ?_
  refine lv_iload_n hx hb dX12_bitsOf_12 rfl (lv_at hl_42 0 rfl) ?_
  refine lv_ishr hx hb dX12_bitsOf_13 ?_
  refine q_any (fun z_43 hz_43 => ?_)
  refine lv_iconst (v := 1) hx hb dX12_bitsOf_14 (by decide) ?_
  refine lv_iand hx hb dX12_bitsOf_15 ?_
  obtain ⟨z_44, ez_44, hz_44⟩ := e_and2 (x := z_43) (y := 1) (show (1 : Int32).toInt = 1 by decide) (by omega)
  refine q_c z_44 ez_44 ?_
  clear ez_44
  refine lv_iadd hx hb dX12_bitsOf_16 ?_
  obtain ⟨z_45, ez_45, hz_45⟩ := e_add (x := z_40) (y := z_44) rfl rfl (by omega) (by omega)
  refine q_c z_45 ez_45 ?_
  clear ez_45
  refine lv_istore_n (lv' := [(1, .int z_45), (2, .int 8), (0, .int p0)]) hx hb dX12_bitsOf_17 rfl hl_42 (by decide) rfl (fun ls_46 hl_46 => ?_)
  clear hl_42
  refine lv_iinc (v := 9) (lv' := [(2, .int 9), (1, .int z_45), (0, .int p0)]) hx hb dX12_bitsOf_18 hl_46 (k := 1) rfl (by decide +kernel) (by decide) rfl (fun ls_47 hl_47 => ?_)
  clear hl_46
  refine lv_goto (tgt := 4) hx hb dX12_bitsOf_21 (by decide) ?_
  refine lv_iload_n hx hb dX12_bitsOf_4 rfl (lv_at hl_47 0 rfl) ?_
  refine lv_bipush (v := 10) hx hb dX12_bitsOf_5 (by decide) ?_
  refine lv_icmp_ge (tgt := 24) hx hb dX12_bitsOf_7 (by decide) (fun c => absurd c (by decide +kernel)) (fun _ => ?_)
  refine lv_iload_n hx hb dX12_bitsOf_10 rfl (lv_at hl_47 1 rfl) ?_
  refine lv_iload_n hx hb dX12_bitsOf_11 rfl (lv_at hl_47 2 rfl) ?_
  refine lv_iload_n hx hb dX12_bitsOf_12 rfl (lv_at hl_47 0 rfl) ?_
  refine lv_ishr hx hb dX12_bitsOf_13 ?_
  refine q_any (fun z_48 hz_48 => ?_)
  refine lv_iconst (v := 1) hx hb dX12_bitsOf_14 (by decide) ?_
  refine lv_iand hx hb dX12_bitsOf_15 ?_
  obtain ⟨z_49, ez_49, hz_49⟩ := e_and2 (x := z_48) (y := 1) (show (1 : Int32).toInt = 1 by decide) (by omega)
  refine q_c z_49 ez_49 ?_
  clear ez_49
  refine lv_iadd hx hb dX12_bitsOf_16 ?_
  obtain ⟨z_50, ez_50, hz_50⟩ := e_add (x := z_45) (y := z_49) rfl rfl (by omega) (by omega)
  refine q_c z_50 ez_50 ?_
  clear ez_50
  refine lv_istore_n (lv' := [(1, .int z_50), (2, .int 9), (0, .int p0)]) hx hb dX12_bitsOf_17 rfl hl_47 (by decide) rfl (fun ls_51 hl_51 => ?_)
  clear hl_47
  refine lv_iinc (v := 10) (lv' := [(2, .int 10), (1, .int z_50), (0, .int p0)]) hx hb dX12_bitsOf_18 hl_51 (k := 1) rfl (by decide +kernel) (by decide) rfl (fun ls_52 hl_52 => ?_)
  clear hl_51
  refine lv_goto (tgt := 4) hx hb dX12_bitsOf_21 (by decide) ?_
  refine lv_iload_n hx hb dX12_bitsOf_4 rfl (lv_at hl_52 0 rfl) ?_
  refine lv_bipush (v := 10) hx hb dX12_bitsOf_5 (by decide) ?_
  refine lv_icmp_ge (tgt := 24) hx hb dX12_bitsOf_7 (by decide) (fun _ => ?_) (fun c => absurd c (by decide +kernel))
  refine lv_iload_n hx hb dX12_bitsOf_24 rfl (lv_at hl_52 1 rfl) ?_
  exact q_iret X hr hlk hK h rfl (fun _ => 0, fun _ _ => 0, fun _ _ => 0) ⟨⟨by omega, by omega⟩, trivial⟩ [] rfl rfl dX12_bitsOf_25 (Nat.le_of_ble_eq_true rfl) (Nat.le_of_ble_eq_true rfl)
set_option maxHeartbeats 4000000 in
set_option maxRecDepth 100000 in
theorem gX12_goes_f1c769e (l : Launch) (D : va_G) (cy : Nat → ClassId) (h0 : Nat) (h1 : Nat) (h2 : Nat) (p0 : Int32) (p1 : Int32) (p2 : Int32) (w0 : Value) (w1 : Value) (w2 : Value) (p3 : Int32) (p4 : Int32) (p5 : Int32) (p6 : Int32) (p7 : Int32) (p8 : Int32) (p9 : Int32) (p10 : Int32) (p11 : Int32) (p12 : Int32) (p13 : Int32) (w3 : Value) (w4 : Value) (w5 : Value) (w6 : Value) (p14 : Int32) (p15 : Int32) (w7 : Value) (w8 : Value) (w9 : Value) (p16 : Int32) (p17 : Int32) (w10 : Value) (w11 : Value) (w12 : Value) (w13 : Value) (w14 : Value) (p18 : Int32) (w15 : Value) (w16 : Value) (w17 : Value) (f0 : Nat → Int32) (p19 : Int32) (f1 : Nat → Int32) (hp0 : (-2147483648) ≤ (p0).toInt ∧ (p0).toInt ≤ 2147483647) (hp1 : 0 ≤ (p1).toInt ∧ (p1).toInt ≤ 1) (hp2 : 0 ≤ (p2).toInt ∧ (p2).toInt ≤ 0) (hp3 : 0 ≤ (p3).toInt ∧ (p3).toInt ≤ 900) (hp4 : 0 ≤ (p4).toInt ∧ (p4).toInt ≤ 900) (hp5 : 0 ≤ (p5).toInt ∧ (p5).toInt ≤ 900) (hp6 : 0 ≤ (p6).toInt ∧ (p6).toInt ≤ 900) (hp7 : (-2147483648) ≤ (p7).toInt ∧ (p7).toInt ≤ 2147483647) (hp8 : 0 ≤ (p8).toInt ∧ (p8).toInt ≤ 999) (hp9 : (-2147483648) ≤ (p9).toInt ∧ (p9).toInt ≤ 2147483647) (hp10 : (-2147483648) ≤ (p10).toInt ∧ (p10).toInt ≤ 2147483647) (hp11 : (-2147483648) ≤ (p11).toInt ∧ (p11).toInt ≤ 2147483647) (hp12 : (-2147483648) ≤ (p12).toInt ∧ (p12).toInt ≤ 2147483647) (hp13 : (-2147483648) ≤ (p13).toInt ∧ (p13).toInt ≤ 2147483647) (hp14 : (-2147483648) ≤ (p14).toInt ∧ (p14).toInt ≤ 2147483647) (hp15 : (-2147483648) ≤ (p15).toInt ∧ (p15).toInt ≤ 2147483647) (hp16 : (-2147483648) ≤ (p16).toInt ∧ (p16).toInt ≤ 2147483647) (hp17 : (-2147483648) ≤ (p17).toInt ∧ (p17).toInt ≤ 2147483647) (hp18 : (-2147483648) ≤ (p18).toInt ∧ (p18).toInt ≤ 2147483647) (hp19 : 0 ≤ (p19).toInt ∧ (p19).toInt ≤ 10) (htf0_84 : f0 84 = p19) (rf0 : AL f0) (rf1 : WA f1) (sz : Nat) : MI l yX12_goes cX12_goes 4 .int { frames := 3, cells := 0, slots := 0, locals := 70 } [.ref h0, .int p0, .int p1] D cy (wk_22f40a116 cy h0 p2 h1 w0 w1 w2 p3 p4 p5 p6 p7 p8 p9 p10 p11 p12 p13 w3 w4 w5 w6 h2 p14 p15 w7 w8 w9 p16 p17 w10 w11 w12 w13 w14 p18 w15 w16 w17 h1 f0 h2 f1) sz (fun r u => ((-12) ≤ r.toInt ∧ r.toInt ≤ 10) ∧ AL (u.2.1 0) ∧ (0 ≤ (u.2.1 1 0).toInt ∧ (u.2.1 1 0).toInt ≤ 10) ∧ WA (u.2.1 2) ∧ (u.2.1 0) 84 = (u.2.1 1 0) ∧ True) (fun u => (wk_22f40a116 cy h0 p2 h1 w0 w1 w2 p3 p4 p5 p6 p7 p8 p9 p10 p11 p12 p13 w3 w4 w5 w6 h2 p14 p15 w7 w8 w9 p16 p17 w10 w11 w12 w13 w14 p18 w15 w16 w17 h1 (u.2.1 0) h2 (u.2.1 2))) 0 0 := by
  refine q_ent (own := RX12) (by decide) rfl (Nat.le_of_ble_eq_true rfl) (fun p e s m below meth c ls X hr hlk hnm hK hT h hA hl => ?_)
  obtain ⟨hx, hb, hml, hown, ht⟩ := id X
  replace hl : lv_has ls 4 [(0, .ref h0), (1, .int p0), (2, .int p1)] := hl
  refine lv_aload_n hx hb dX12_goes_0 rfl (lv_at hl 0 rfl) ?_
  refine lv_iload_n hx hb dX12_goes_1 rfl (lv_at hl 1 rfl) ?_
  refine lv_i2l hx hb dX12_goes_2 rfl ?_
  obtain ⟨z_1, ez_1, hz_1⟩ := e_i2l (x := p0) rfl
  refine q_cl z_1 ez_1 ?_
  clear ez_1
  refine lv_iload_n hx hb dX12_goes_3 rfl (lv_at hl 2 rfl) ?_
  refine q_callVi (rest := []) (wr := [(h2, .inl (cy 1, 32, .inl f1))]) X hK hT hA h (fun sz => gX12_whySend_e93c98d l D cy h0 h1 z_1 p1 p2 w0 w1 w2 p3 p4 p5 p6 p7 p8 p9 p10 p11 p12 p13 w3 w4 w5 w6 (.ref h2) p14 p15 w7 w8 w9 p16 p17 w10 w11 w12 w13 w14 p18 w15 w16 w17 f0 p19 ⟨by omega, by omega⟩ hp1 hp2 hp3 hp4 hp5 hp6 (i_rng _) hp8 (i_rng _) (i_rng _) (i_rng _) (i_rng _) (i_rng _) (i_rng _) (i_rng _) (i_rng _) (i_rng _) (i_rng _) hp19 htf0_84 rf0 sz) wm_7_4 wm_7_7 wm_1_12 hd_X12_whySend wm_7_6 wp_6_5 (ci := 12) (q0 := 0) rfl rfl ⟨Nat.le_of_ble_eq_true rfl, Nat.le_of_ble_eq_true rfl⟩ hl.1 rfl (Nat.le_of_ble_eq_true rfl) dX12_goes_4 ⟨Nat.le_of_ble_eq_true rfl, Nat.le_of_ble_eq_true rfl⟩ [0, 1] [2] rfl rfl (by decide) rfl rfl (fun r_2 u_2 H locs w_2 h_2 => ?_)
  clear h
  obtain ⟨wr_2, _⟩ := w_2
  replace h_2 : qW D _ _ (wk_b0ee437a1 cy h2 f1 h0 p2 h1 w0 w1 w2 p3 p4 p5 p6 p7 p8 p9 p10 p11 p12 p13 w3 w4 w5 w6 h2 p14 p15 w7 w8 w9 p16 p17 w10 w11 w12 w13 w14 p18 w15 w16 w17 h1 f0) _ _ := h_2
  refine lv_istore_n (lv' := [(3, .int r_2), (0, .ref h0), (1, .int p0), (2, .int p1)]) hx hb dX12_goes_7 rfl hl (by decide) rfl (fun ls_3 hl_3 => ?_)
  clear hl
  refine lv_iload_n hx hb dX12_goes_8 rfl (lv_at hl_3 0 rfl) ?_
  refine lv_if_eq (tgt := 17) hx hb dX12_goes_9 (by decide) (fun c_4 => ?_) (fun c_4 => ?_)
  · replace c_4 := i_eq (x := r_2) (y := 0) rfl (show (0 : Int32).toInt = 0 by decide) c_4
    refine lv_aload_n hx hb dX12_goes_17 rfl (lv_at hl_3 1 rfl) ?_
    refine q_callVv (rest := []) (wr := []) X hK hT hA h_2 (fun sz => gX12_keeps_814ac6b l D cy h0 h1 h2 p2 w0 w1 w2 p3 p4 p5 p6 p7 p8 p9 p10 p11 p12 p13 w3 w4 w5 w6 p14 p15 w7 w8 w9 p16 p17 w10 w11 w12 w13 w14 p18 w15 w16 w17 f0 p19 f1 hp2 hp3 hp4 hp5 hp6 (i_rng _) hp8 (i_rng _) (i_rng _) (i_rng _) (i_rng _) (i_rng _) (i_rng _) (i_rng _) (i_rng _) (i_rng _) (i_rng _) hp19 htf0_84 rf0 rf1 sz) wm_6_220 wm_6_223 wm_1_12 hd_X12_keeps wm_6_222 wp_6_0 (ci := 12) (q0 := 0) rfl rfl ⟨Nat.le_of_ble_eq_true rfl, Nat.le_of_ble_eq_true rfl⟩ hl_3.1 rfl (Nat.le_of_ble_eq_true rfl) dX12_goes_18 ⟨Nat.le_of_ble_eq_true rfl, Nat.le_of_ble_eq_true rfl⟩ [1, 2, 0] [] rfl rfl (by decide) rfl rfl (fun u_5 H locs w_5 h_5 => ?_)
    clear h_2
    obtain ⟨w5_0, _⟩ := w_5
    replace h_5 : qW D _ _ (wk_22f40a116 cy h0 p2 h1 w0 w1 w2 p3 p4 p5 p6 p7 p8 p9 p10 p11 p12 p13 w3 w4 w5 w6 h2 p14 p15 w7 w8 w9 p16 p17 w10 w11 w12 w13 w14 p18 w15 w16 w17 h1 f0 h2 (u_5.2.1 0)) _ _ := h_5
    refine lv_aload_n hx hb dX12_goes_21 rfl (lv_at hl_3 1 rfl) ?_
    refine q_get X hK h_5 0 rfl rfl wf_12 1 (by decide) rfl wm_5_171 dX12_goes_22 ?_
    refine lv_bipush (v := 53) hx hb dX12_goes_25 (by decide) ?_
    refine lv_dup2_11 hx hb dX12_goes_27 rfl rfl ?_
    refine q_iald X hK h_5 1 rfl (q_in (by decide +kernel)) dX12_goes_28 ?_
    refine q_any (fun z_6 hz_6 => ?_)
    refine lv_iconst (v := 1) hx hb dX12_goes_29 (by decide) ?_
    refine lv_iload_n hx hb dX12_goes_30 rfl (lv_at hl_3 2 rfl) ?_
    refine lv_ishl hx hb dX12_goes_31 ?_
    refine q_any (fun z_7 hz_7 => ?_)
    refine lv_ixor hx hb dX12_goes_32 ?_
    refine q_any (fun z_8 hz_8 => ?_)
    refine q_iast X hK h_5 1 rfl (q_in (by decide +kernel)) dX12_goes_33 (fun H locs h_10 => ?_)
    clear h_5
    replace h_10 : qW D _ _ (wk_22f40a116 cy h0 p2 h1 w0 w1 w2 p3 p4 p5 p6 p7 p8 p9 p10 p11 p12 p13 w3 w4 w5 w6 h2 p14 p15 w7 w8 w9 p16 p17 w10 w11 w12 w13 w14 p18 w15 w16 w17 h1 (upd f0 (Int32.toNatClampNeg 53) z_8) h2 (u_5.2.1 0)) _ _ := h_10
    obtain ⟨F_9, eF_9, rF_9⟩ := al_upd rf0 (i := 53) (x := z_8) (show (53 : Int32).toInt = 53 by decide) rfl (by omega)
    have trF_9_84 := (tr_ne eF_9 htf0_84 (show (53 : Int32).toInt = 53 by decide) (by omega))
    rw [eF_9] at h_10
    clear eF_9
    refine lv_aload_n hx hb dX12_goes_34 rfl (lv_at hl_3 1 rfl) ?_
    refine q_callVv (rest := []) (wr := []) X hK hT hA h_10 (fun sz => gX12_notes_fd80d29 l D cy h0 h1 h2 p2 w0 w1 w2 p3 p4 p5 p6 p7 p8 p9 p10 p11 p12 p13 w3 w4 w5 w6 p14 p15 w7 w8 w9 p16 p17 w10 w11 w12 w13 w14 p18 w15 w16 w17 F_9 p19 (u_5.2.1 0) hp2 hp3 hp4 hp5 hp6 (i_rng _) hp8 (i_rng _) (i_rng _) (i_rng _) (i_rng _) (i_rng _) (i_rng _) (i_rng _) (i_rng _) (i_rng _) (i_rng _) hp19 trF_9_84 rF_9 w5_0 sz) wm_6_232 wm_6_235 wm_1_12 hd_X12_notes wm_6_234 wp_6_3 (ci := 12) (q0 := 0) rfl rfl ⟨Nat.le_of_ble_eq_true rfl, Nat.le_of_ble_eq_true rfl⟩ hl_3.1 rfl (Nat.le_of_ble_eq_true rfl) dX12_goes_35 ⟨Nat.le_of_ble_eq_true rfl, Nat.le_of_ble_eq_true rfl⟩ [0, 1, 2] [] rfl rfl (by decide) rfl rfl (fun u_11 H locs w_11 h_11 => ?_)
    clear h_10
    obtain ⟨w11_0, w11_1, w11_2, _⟩ := w_11
    replace h_11 : qW D _ _ (wk_22f40a116 cy h0 p2 h1 w0 w1 w2 p3 p4 p5 p6 p7 p8 p9 p10 p11 p12 p13 w3 w4 w5 w6 h2 p14 p15 w7 w8 w9 p16 p17 w10 w11 w12 w13 w14 p18 w15 w16 w17 h1 (u_11.2.1 0) h2 (u_5.2.1 0)) _ _ := h_11
    refine lv_aload_n hx hb dX12_goes_38 rfl (lv_at hl_3 1 rfl) ?_
    refine q_get X hK h_11 0 rfl rfl wf_12 1 (by decide) rfl wm_5_171 dX12_goes_39 ?_
    refine lv_bipush (v := 53) hx hb dX12_goes_42 (by decide) ?_
    refine q_iald X hK h_11 1 rfl (q_in (by decide +kernel)) dX12_goes_44 ?_
    refine q_any (fun z_12 hz_12 => ?_)
    refine q_callSi (rest := []) (wr := (wk_22f40a116 cy h0 p2 h1 w0 w1 w2 p3 p4 p5 p6 p7 p8 p9 p10 p11 p12 p13 w3 w4 w5 w6 h2 p14 p15 w7 w8 w9 p16 p17 w10 w11 w12 w13 w14 p18 w15 w16 w17 h1 (u_11.2.1 0) h2 (u_5.2.1 0))) X hK hT hA h_11 (fun sz => gX12_bitsOf_5a43b1c l D cy z_12 (i_rng _) sz) wm_7_8 wm_7_10 wm_1_12 hd_X12_bitsOf wm_7_9 ⟨Nat.le_of_ble_eq_true rfl, Nat.le_of_ble_eq_true rfl⟩ hl_3.1 rfl (Nat.le_of_ble_eq_true rfl) dX12_goes_45 ⟨Nat.le_of_ble_eq_true rfl, Nat.le_of_ble_eq_true rfl⟩ [] [0, 1, 2] rfl rfl (by decide) rfl rfl (fun r_13 u_13 H locs w_13 h_13 => ?_)
    clear h_11
    obtain ⟨wr_13, _⟩ := w_13
    replace h_13 : qW D _ _ (wk_22f40a116 cy h0 p2 h1 w0 w1 w2 p3 p4 p5 p6 p7 p8 p9 p10 p11 p12 p13 w3 w4 w5 w6 h2 p14 p15 w7 w8 w9 p16 p17 w10 w11 w12 w13 w14 p18 w15 w16 w17 h1 (u_11.2.1 0) h2 (u_5.2.1 0)) _ _ := h_13
    exact q_iret X hr hlk hK h_13 rfl (fun _ => 0, (vcons (u_11.2.1 0) (vcons (fun _ => (u_11.2.1 1 0)) (vcons (u_5.2.1 0) (fun _ => (fun _ => 0))))), fun _ _ => 0) ⟨(bw wr_13 (by decide) (by decide)), w11_0, (bw w11_1 (by decide) (by decide)), w5_0, w11_2, trivial⟩ [0, 1, 2] rfl rfl dX12_goes_48 (Nat.le_of_ble_eq_true rfl) (Nat.le_of_ble_eq_true rfl)
  · replace c_4 := i_ne (x := r_2) (y := 0) rfl (show (0 : Int32).toInt = 0 by decide) c_4
    refine lv_bipush (v := (-10)) hx hb dX12_goes_12 (by decide) ?_
    refine lv_iload_n hx hb dX12_goes_14 rfl (lv_at hl_3 0 rfl) ?_
    refine lv_isub hx hb dX12_goes_15 ?_
    obtain ⟨z_14, ez_14, hz_14⟩ := e_sub (x := (-10)) (y := r_2) (show ((-10) : Int32).toInt = -10 by decide) rfl (by omega) (by omega)
    refine q_c z_14 ez_14 ?_
    clear ez_14
    exact q_iret X hr hlk hK h_2 rfl (fun _ => 0, (vcons f0 (vcons (fun _ => p19) (vcons f1 (fun _ => (fun _ => 0))))), fun _ _ => 0) ⟨⟨by omega, by omega⟩, rf0, hp19, rf1, htf0_84, trivial⟩ [1, 2, 0] rfl rfl dX12_goes_16 (Nat.le_of_ble_eq_true rfl) (Nat.le_of_ble_eq_true rfl)
set_option maxHeartbeats 4000000 in
set_option maxRecDepth 100000 in
theorem gX12_send_3f463e6 (l : Launch) (D : va_G) (cy : Nat → ClassId) (h0 : Nat) (h1 : Nat) (h2 : Nat) (p0 : Int32) (p1 : Int32) (w0 : Value) (w1 : Value) (w2 : Value) (p2 : Int32) (p3 : Int32) (p4 : Int32) (p5 : Int32) (p6 : Int32) (p7 : Int32) (p8 : Int32) (p9 : Int32) (p10 : Int32) (p11 : Int32) (p12 : Int32) (w3 : Value) (w4 : Value) (w5 : Value) (w6 : Value) (p13 : Int32) (p14 : Int32) (w7 : Value) (w8 : Value) (w9 : Value) (p15 : Int32) (p16 : Int32) (w10 : Value) (w11 : Value) (w12 : Value) (w13 : Value) (w14 : Value) (p17 : Int32) (w15 : Value) (w16 : Value) (w17 : Value) (f0 : Nat → Int32) (p18 : Int32) (f1 : Nat → Int32) (hp0 : (-2147483648) ≤ (p0).toInt ∧ (p0).toInt ≤ 2147483647) (hp1 : (-2147483648) ≤ (p1).toInt ∧ (p1).toInt ≤ 2147483647) (hp2 : 0 ≤ (p2).toInt ∧ (p2).toInt ≤ 900) (hp3 : 0 ≤ (p3).toInt ∧ (p3).toInt ≤ 900) (hp4 : 0 ≤ (p4).toInt ∧ (p4).toInt ≤ 900) (hp5 : 0 ≤ (p5).toInt ∧ (p5).toInt ≤ 900) (hp6 : (-2147483648) ≤ (p6).toInt ∧ (p6).toInt ≤ 2147483647) (hp7 : 0 ≤ (p7).toInt ∧ (p7).toInt ≤ 999) (hp8 : (-2147483648) ≤ (p8).toInt ∧ (p8).toInt ≤ 2147483647) (hp9 : (-2147483648) ≤ (p9).toInt ∧ (p9).toInt ≤ 2147483647) (hp10 : (-2147483648) ≤ (p10).toInt ∧ (p10).toInt ≤ 2147483647) (hp11 : (-2147483648) ≤ (p11).toInt ∧ (p11).toInt ≤ 2147483647) (hp12 : (-2147483648) ≤ (p12).toInt ∧ (p12).toInt ≤ 2147483647) (hp13 : (-2147483648) ≤ (p13).toInt ∧ (p13).toInt ≤ 2147483647) (hp14 : (-2147483648) ≤ (p14).toInt ∧ (p14).toInt ≤ 2147483647) (hp15 : (-2147483648) ≤ (p15).toInt ∧ (p15).toInt ≤ 2147483647) (hp16 : (-2147483648) ≤ (p16).toInt ∧ (p16).toInt ≤ 2147483647) (hp17 : (-2147483648) ≤ (p17).toInt ∧ (p17).toInt ≤ 2147483647) (hp18 : 0 ≤ (p18).toInt ∧ (p18).toInt ≤ 10) (htf0_84 : f0 84 = p18) (rf0 : AL f0) (rf1 : WA f1) (sz : Nat) : MI l yX12_send cX12_send 2 .int { frames := 4, cells := 0, slots := 0, locals := 93 } [.ref h0, .int p0] D cy (wk_22f40a116 cy h0 p1 h1 w0 w1 w2 p2 p3 p4 p5 p6 p7 p8 p9 p10 p11 p12 w3 w4 w5 w6 h2 p13 p14 w7 w8 w9 p15 p16 w10 w11 w12 w13 w14 p17 w15 w16 w17 h1 f0 h2 f1) sz (fun r u => ((-12) ≤ r.toInt ∧ r.toInt ≤ 10) ∧ (0 ≤ (u.2.1 0 0).toInt ∧ (u.2.1 0 0).toInt ≤ 0) ∧ AL (u.2.1 1) ∧ (0 ≤ (u.2.1 2 0).toInt ∧ (u.2.1 2 0).toInt ≤ 10) ∧ WA (u.2.1 3) ∧ (u.2.1 1) 84 = (u.2.1 2 0) ∧ True) (fun u => (wk_22f40a116 cy h0 (u.2.1 0 0) h1 w0 w1 w2 p2 p3 p4 p5 p6 p7 p8 p9 p10 p11 p12 w3 w4 w5 w6 h2 p13 p14 w7 w8 w9 p15 p16 w10 w11 w12 w13 w14 p17 w15 w16 w17 h1 (u.2.1 1) h2 (u.2.1 3))) 0 0 := by
  refine q_ent (own := RX12) (by decide) rfl (Nat.le_of_ble_eq_true rfl) (fun p e s m below meth c ls X hr hlk hnm hK hT h hA hl => ?_)
  obtain ⟨hx, hb, hml, hown, ht⟩ := id X
  replace hl : lv_has ls 2 [(0, .ref h0), (1, .int p0)] := hl
  refine lv_aload_n hx hb dX12_send_0 rfl (lv_at hl 0 rfl) ?_
  refine lv_iconst (v := 0) hx hb dX12_send_1 (by decide) ?_
  refine q_put (v := .int 0) X hK h 0 rfl rfl wf_12 tyX12 tyX12_ok nmX12 0 (by decide) wm_5_170 rfl rfl rfl (Nat.le_of_ble_eq_true rfl) dX12_send_2 (fun H locs h_1 => ?_)
  clear h
  replace h_1 : qW D _ _ (wk_22f40a116 cy h0 0 h1 w0 w1 w2 p2 p3 p4 p5 p6 p7 p8 p9 p10 p11 p12 w3 w4 w5 w6 h2 p13 p14 w7 w8 w9 p15 p16 w10 w11 w12 w13 w14 p17 w15 w16 w17 h1 f0 h2 f1) _ _ := h_1
  refine lv_aload_n hx hb dX12_send_5 rfl (lv_at hl 0 rfl) ?_
  refine lv_iload_n hx hb dX12_send_6 rfl (lv_at hl 1 rfl) ?_
  refine lv_iconst (v := 1) hx hb dX12_send_7 (by decide) ?_
  refine q_callVi (rest := []) (wr := []) X hK hT hA h_1 (fun sz => gX12_goes_f1c769e l D cy h0 h1 h2 p0 (1 : Int32) (0 : Int32) w0 w1 w2 p2 p3 p4 p5 p6 p7 p8 p9 p10 p11 p12 w3 w4 w5 w6 p13 p14 w7 w8 w9 p15 p16 w10 w11 w12 w13 w14 p17 w15 w16 w17 f0 p18 f1 (i_rng _) ⟨by decide +kernel, by decide +kernel⟩ ⟨by decide +kernel, by decide +kernel⟩ hp2 hp3 hp4 hp5 (i_rng _) hp7 (i_rng _) (i_rng _) (i_rng _) (i_rng _) (i_rng _) (i_rng _) (i_rng _) (i_rng _) (i_rng _) (i_rng _) hp18 htf0_84 rf0 rf1 sz) wm_7_0 wm_7_3 wm_1_12 hd_X12_goes wm_7_2 wp_6_4 (ci := 12) (q0 := 0) rfl rfl ⟨Nat.le_of_ble_eq_true rfl, Nat.le_of_ble_eq_true rfl⟩ hl.1 rfl (Nat.le_of_ble_eq_true rfl) dX12_send_8 ⟨Nat.le_of_ble_eq_true rfl, Nat.le_of_ble_eq_true rfl⟩ [0, 1, 2] [] rfl rfl (by decide) rfl rfl (fun r_2 u_2 H locs w_2 h_2 => ?_)
  clear h_1
  obtain ⟨wr_2, w2_0, w2_1, w2_2, w2_3, _⟩ := w_2
  replace h_2 : qW D _ _ (wk_22f40a116 cy h0 0 h1 w0 w1 w2 p2 p3 p4 p5 p6 p7 p8 p9 p10 p11 p12 w3 w4 w5 w6 h2 p13 p14 w7 w8 w9 p15 p16 w10 w11 w12 w13 w14 p17 w15 w16 w17 h1 (u_2.2.1 0) h2 (u_2.2.1 2)) _ _ := h_2
  exact q_iret X hr hlk hK h_2 rfl (fun _ => 0, (vcons (fun _ => 0) (vcons (u_2.2.1 0) (vcons (fun _ => (u_2.2.1 1 0)) (vcons (u_2.2.1 2) (fun _ => (fun _ => 0)))))), fun _ _ => 0) ⟨wr_2, (⟨by decide +kernel, by decide +kernel⟩ : 0 ≤ (0 : Int32).toInt ∧ (0 : Int32).toInt ≤ 0), w2_0, w2_1, w2_2, w2_3, trivial⟩ [0, 1, 2] rfl rfl dX12_send_11 (Nat.le_of_ble_eq_true rfl) (Nat.le_of_ble_eq_true rfl)
set_option maxHeartbeats 4000000 in
set_option maxRecDepth 100000 in
theorem gX12_call_3c19e0f (l : Launch) (D : va_G) (cy : Nat → ClassId) (h0 : Nat) (h1 : Nat) (h2 : Nat) (p0 : Int32) (p1 : Int32) (w0 : Value) (w1 : Value) (w2 : Value) (p2 : Int32) (p3 : Int32) (p4 : Int32) (p5 : Int32) (p6 : Int32) (p7 : Int32) (p8 : Int32) (p9 : Int32) (p10 : Int32) (p11 : Int32) (p12 : Int32) (w3 : Value) (w4 : Value) (w5 : Value) (w6 : Value) (p13 : Int32) (p14 : Int32) (w7 : Value) (w8 : Value) (w9 : Value) (p15 : Int32) (p16 : Int32) (w10 : Value) (w11 : Value) (w12 : Value) (w13 : Value) (w14 : Value) (p17 : Int32) (w15 : Value) (w16 : Value) (w17 : Value) (f0 : Nat → Int32) (p18 : Int32) (f1 : Nat → Int32) (hp0 : (-2147483648) ≤ (p0).toInt ∧ (p0).toInt ≤ 2147483647) (hp1 : (-2147483648) ≤ (p1).toInt ∧ (p1).toInt ≤ 2147483647) (hp2 : 0 ≤ (p2).toInt ∧ (p2).toInt ≤ 900) (hp3 : 0 ≤ (p3).toInt ∧ (p3).toInt ≤ 900) (hp4 : 0 ≤ (p4).toInt ∧ (p4).toInt ≤ 900) (hp5 : 0 ≤ (p5).toInt ∧ (p5).toInt ≤ 900) (hp6 : (-2147483648) ≤ (p6).toInt ∧ (p6).toInt ≤ 2147483647) (hp7 : 0 ≤ (p7).toInt ∧ (p7).toInt ≤ 999) (hp8 : (-2147483648) ≤ (p8).toInt ∧ (p8).toInt ≤ 2147483647) (hp9 : (-2147483648) ≤ (p9).toInt ∧ (p9).toInt ≤ 2147483647) (hp10 : (-2147483648) ≤ (p10).toInt ∧ (p10).toInt ≤ 2147483647) (hp11 : (-2147483648) ≤ (p11).toInt ∧ (p11).toInt ≤ 2147483647) (hp12 : (-2147483648) ≤ (p12).toInt ∧ (p12).toInt ≤ 2147483647) (hp13 : (-2147483648) ≤ (p13).toInt ∧ (p13).toInt ≤ 2147483647) (hp14 : (-2147483648) ≤ (p14).toInt ∧ (p14).toInt ≤ 2147483647) (hp15 : (-2147483648) ≤ (p15).toInt ∧ (p15).toInt ≤ 2147483647) (hp16 : (-2147483648) ≤ (p16).toInt ∧ (p16).toInt ≤ 2147483647) (hp17 : (-2147483648) ≤ (p17).toInt ∧ (p17).toInt ≤ 2147483647) (hp18 : 0 ≤ (p18).toInt ∧ (p18).toInt ≤ 10) (htf0_84 : f0 84 = p18) (rf0 : AL f0) (rf1 : WA f1) (sz : Nat) : MI l yX12_call cX12_call 2 .int { frames := 4, cells := 0, slots := 0, locals := 93 } [.ref h0, .int p0] D cy (wk_22f40a116 cy h0 p1 h1 w0 w1 w2 p2 p3 p4 p5 p6 p7 p8 p9 p10 p11 p12 w3 w4 w5 w6 h2 p13 p14 w7 w8 w9 p15 p16 w10 w11 w12 w13 w14 p17 w15 w16 w17 h1 f0 h2 f1) sz (fun r u => ((-12) ≤ r.toInt ∧ r.toInt ≤ 10) ∧ (0 ≤ (u.2.1 0 0).toInt ∧ (u.2.1 0 0).toInt ≤ 0) ∧ AL (u.2.1 1) ∧ (0 ≤ (u.2.1 2 0).toInt ∧ (u.2.1 2 0).toInt ≤ 10) ∧ WA (u.2.1 3) ∧ (u.2.1 1) 84 = (u.2.1 2 0) ∧ True) (fun u => (wk_22f40a116 cy h0 (u.2.1 0 0) h1 w0 w1 w2 p2 p3 p4 p5 p6 p7 p8 p9 p10 p11 p12 w3 w4 w5 w6 h2 p13 p14 w7 w8 w9 p15 p16 w10 w11 w12 w13 w14 p17 w15 w16 w17 h1 (u.2.1 1) h2 (u.2.1 3))) 0 0 := by
  refine q_ent (own := RX12) (by decide) rfl (Nat.le_of_ble_eq_true rfl) (fun p e s m below meth c ls X hr hlk hnm hK hT h hA hl => ?_)
  obtain ⟨hx, hb, hml, hown, ht⟩ := id X
  replace hl : lv_has ls 2 [(0, .ref h0), (1, .int p0)] := hl
  refine lv_aload_n hx hb dX12_call_0 rfl (lv_at hl 0 rfl) ?_
  refine lv_iconst (v := 0) hx hb dX12_call_1 (by decide) ?_
  refine q_put (v := .int 0) X hK h 0 rfl rfl wf_12 tyX12 tyX12_ok nmX12 0 (by decide) wm_5_170 rfl rfl rfl (Nat.le_of_ble_eq_true rfl) dX12_call_2 (fun H locs h_1 => ?_)
  clear h
  replace h_1 : qW D _ _ (wk_22f40a116 cy h0 0 h1 w0 w1 w2 p2 p3 p4 p5 p6 p7 p8 p9 p10 p11 p12 w3 w4 w5 w6 h2 p13 p14 w7 w8 w9 p15 p16 w10 w11 w12 w13 w14 p17 w15 w16 w17 h1 f0 h2 f1) _ _ := h_1
  refine lv_aload_n hx hb dX12_call_5 rfl (lv_at hl 0 rfl) ?_
  refine lv_iload_n hx hb dX12_call_6 rfl (lv_at hl 1 rfl) ?_
  refine lv_iconst (v := 0) hx hb dX12_call_7 (by decide) ?_
  refine q_callVi (rest := []) (wr := []) X hK hT hA h_1 (fun sz => gX12_goes_f1c769e l D cy h0 h1 h2 p0 (0 : Int32) (0 : Int32) w0 w1 w2 p2 p3 p4 p5 p6 p7 p8 p9 p10 p11 p12 w3 w4 w5 w6 p13 p14 w7 w8 w9 p15 p16 w10 w11 w12 w13 w14 p17 w15 w16 w17 f0 p18 f1 (i_rng _) ⟨by decide +kernel, by decide +kernel⟩ ⟨by decide +kernel, by decide +kernel⟩ hp2 hp3 hp4 hp5 (i_rng _) hp7 (i_rng _) (i_rng _) (i_rng _) (i_rng _) (i_rng _) (i_rng _) (i_rng _) (i_rng _) (i_rng _) (i_rng _) hp18 htf0_84 rf0 rf1 sz) wm_7_0 wm_7_3 wm_1_12 hd_X12_goes wm_7_2 wp_6_4 (ci := 12) (q0 := 0) rfl rfl ⟨Nat.le_of_ble_eq_true rfl, Nat.le_of_ble_eq_true rfl⟩ hl.1 rfl (Nat.le_of_ble_eq_true rfl) dX12_call_8 ⟨Nat.le_of_ble_eq_true rfl, Nat.le_of_ble_eq_true rfl⟩ [0, 1, 2] [] rfl rfl (by decide) rfl rfl (fun r_2 u_2 H locs w_2 h_2 => ?_)
  clear h_1
  obtain ⟨wr_2, w2_0, w2_1, w2_2, w2_3, _⟩ := w_2
  replace h_2 : qW D _ _ (wk_22f40a116 cy h0 0 h1 w0 w1 w2 p2 p3 p4 p5 p6 p7 p8 p9 p10 p11 p12 w3 w4 w5 w6 h2 p13 p14 w7 w8 w9 p15 p16 w10 w11 w12 w13 w14 p17 w15 w16 w17 h1 (u_2.2.1 0) h2 (u_2.2.1 2)) _ _ := h_2
  exact q_iret X hr hlk hK h_2 rfl (fun _ => 0, (vcons (fun _ => 0) (vcons (u_2.2.1 0) (vcons (fun _ => (u_2.2.1 1 0)) (vcons (u_2.2.1 2) (fun _ => (fun _ => 0)))))), fun _ _ => 0) ⟨wr_2, (⟨by decide +kernel, by decide +kernel⟩ : 0 ≤ (0 : Int32).toInt ∧ (0 : Int32).toInt ≤ 0), w2_0, w2_1, w2_2, w2_3, trivial⟩ [0, 1, 2] rfl rfl dX12_call_11 (Nat.le_of_ble_eq_true rfl) (Nat.le_of_ble_eq_true rfl)
set_option maxHeartbeats 4000000 in
set_option maxRecDepth 100000 in
theorem gX12_days_4acbfa2 (l : Launch) (D : va_G) (cy : Nat → ClassId) (h0 : Nat) (h1 : Nat) (h2 : Nat) (p0 : Int32) (p1 : Int32) (w0 : Value) (w1 : Value) (w2 : Value) (p2 : Int32) (p3 : Int32) (p4 : Int32) (p5 : Int32) (p6 : Int32) (p7 : Int32) (p8 : Int32) (p9 : Int32) (p10 : Int32) (p11 : Int32) (p12 : Int32) (w3 : Value) (w4 : Value) (w5 : Value) (w6 : Value) (p13 : Int32) (p14 : Int32) (w7 : Value) (w8 : Value) (w9 : Value) (p15 : Int32) (p16 : Int32) (w10 : Value) (w11 : Value) (w12 : Value) (w13 : Value) (w14 : Value) (p17 : Int32) (w15 : Value) (w16 : Value) (w17 : Value) (f0 : Nat → Int32) (p18 : Int32) (f1 : Nat → Int32) (hp0 : (-2147483648) ≤ (p0).toInt ∧ (p0).toInt ≤ 2147483647) (hp1 : (-2147483648) ≤ (p1).toInt ∧ (p1).toInt ≤ 2147483647) (hp2 : 0 ≤ (p2).toInt ∧ (p2).toInt ≤ 900) (hp3 : 0 ≤ (p3).toInt ∧ (p3).toInt ≤ 900) (hp4 : 0 ≤ (p4).toInt ∧ (p4).toInt ≤ 900) (hp5 : 0 ≤ (p5).toInt ∧ (p5).toInt ≤ 900) (hp6 : (-2147483648) ≤ (p6).toInt ∧ (p6).toInt ≤ 2147483647) (hp7 : 0 ≤ (p7).toInt ∧ (p7).toInt ≤ 999) (hp8 : (-2147483648) ≤ (p8).toInt ∧ (p8).toInt ≤ 2147483647) (hp9 : (-2147483648) ≤ (p9).toInt ∧ (p9).toInt ≤ 2147483647) (hp10 : (-2147483648) ≤ (p10).toInt ∧ (p10).toInt ≤ 2147483647) (hp11 : (-2147483648) ≤ (p11).toInt ∧ (p11).toInt ≤ 2147483647) (hp12 : (-2147483648) ≤ (p12).toInt ∧ (p12).toInt ≤ 2147483647) (hp13 : (-2147483648) ≤ (p13).toInt ∧ (p13).toInt ≤ 2147483647) (hp14 : (-2147483648) ≤ (p14).toInt ∧ (p14).toInt ≤ 2147483647) (hp15 : (-2147483648) ≤ (p15).toInt ∧ (p15).toInt ≤ 2147483647) (hp16 : (-2147483648) ≤ (p16).toInt ∧ (p16).toInt ≤ 2147483647) (hp17 : (-2147483648) ≤ (p17).toInt ∧ (p17).toInt ≤ 2147483647) (hp18 : 0 ≤ (p18).toInt ∧ (p18).toInt ≤ 10) (htf0_84 : f0 84 = p18) (rf0 : AL f0) (rf1 : WA f1) (sz : Nat) : MI l yX12_days cX12_days 2 .int { frames := 3, cells := 0, slots := 0, locals := 68 } [.ref h0, .int p0] D cy (wk_22f40a116 cy h0 p1 h1 w0 w1 w2 p2 p3 p4 p5 p6 p7 p8 p9 p10 p11 p12 w3 w4 w5 w6 h2 p13 p14 w7 w8 w9 p15 p16 w10 w11 w12 w13 w14 p17 w15 w16 w17 h1 f0 h2 f1) sz (fun r u => ((-3) ≤ r.toInt ∧ r.toInt ≤ 1023) ∧ WA (u.2.1 0) ∧ (0 ≤ (u.2.1 1 0).toInt ∧ (u.2.1 1 0).toInt ≤ 0) ∧ AL (u.2.1 2) ∧ (0 ≤ (u.2.1 3 0).toInt ∧ (u.2.1 3 0).toInt ≤ 10) ∧ (u.2.1 2) 84 = (u.2.1 3 0) ∧ True) (fun u => (wk_22f40a116 cy h0 (u.2.1 1 0) h1 w0 w1 w2 p2 p3 p4 p5 p6 p7 p8 p9 p10 p11 p12 w3 w4 w5 w6 h2 p13 p14 w7 w8 w9 p15 p16 w10 w11 w12 w13 w14 p17 w15 w16 w17 h1 (u.2.1 2) h2 (u.2.1 0))) 0 0 := by
  refine q_ent (own := RX12) (by decide) rfl (Nat.le_of_ble_eq_true rfl) (fun p e s m below meth c ls X hr hlk hnm hK hT h hA hl => ?_)
  obtain ⟨hx, hb, hml, hown, ht⟩ := id X
  replace hl : lv_has ls 2 [(0, .ref h0), (1, .int p0)] := hl
  refine lv_aload_n hx hb dX12_days_0 rfl (lv_at hl 0 rfl) ?_
  refine lv_iconst (v := 0) hx hb dX12_days_1 (by decide) ?_
  refine q_put (v := .int 0) X hK h 0 rfl rfl wf_12 tyX12 tyX12_ok nmX12 0 (by decide) wm_5_170 rfl rfl rfl (Nat.le_of_ble_eq_true rfl) dX12_days_2 (fun H locs h_1 => ?_)
  clear h
  replace h_1 : qW D _ _ (wk_22f40a116 cy h0 0 h1 w0 w1 w2 p2 p3 p4 p5 p6 p7 p8 p9 p10 p11 p12 w3 w4 w5 w6 h2 p13 p14 w7 w8 w9 p15 p16 w10 w11 w12 w13 w14 p17 w15 w16 w17 h1 f0 h2 f1) _ _ := h_1
  refine lv_iload_n hx hb dX12_days_5 rfl (lv_at hl 1 rfl) ?_
  refine lv_i2l hx hb dX12_days_6 rfl ?_
  obtain ⟨z_2, ez_2, hz_2⟩ := e_i2l (x := p0) rfl
  refine q_cl z_2 ez_2 ?_
  clear ez_2
  refine lv_lconst (v := 1) hx hb dX12_days_7 (by decide) ?_
  refine lv_ldc2 hx hb hown (ht _ wm_7_19) dX12_days_8 ?_
  refine q_callSi (rest := []) (wr := (wk_22f40a116 cy h0 0 h1 w0 w1 w2 p2 p3 p4 p5 p6 p7 p8 p9 p10 p11 p12 w3 w4 w5 w6 h2 p13 p14 w7 w8 w9 p15 p16 w10 w11 w12 w13 w14 p17 w15 w16 w17 h1 f0 h2 f1)) X hK hT hA h_1 (fun sz => gX12_within_00c7897 l D cy z_2 (1 : Int64) (99 : Int64) (j_rng _) ⟨by decide +kernel, by decide +kernel⟩ ⟨by decide +kernel, by decide +kernel⟩ sz) wm_6_50 wm_6_52 wm_1_12 hd_X12_within wm_6_51 ⟨Nat.le_of_ble_eq_true rfl, Nat.le_of_ble_eq_true rfl⟩ hl.1 rfl (Nat.le_of_ble_eq_true rfl) dX12_days_11 ⟨Nat.le_of_ble_eq_true rfl, Nat.le_of_ble_eq_true rfl⟩ [] [0, 1, 2] rfl rfl (by decide) rfl rfl (fun r_3 u_3 H locs w_3 h_3 => ?_)
  clear h_1
  obtain ⟨wr_3, y3_0, _⟩ := w_3
  have lq_3_1 : (1 : Int64).toInt = 1 := (by decide)
  have lq_3_2 : (99 : Int64).toInt = 99 := (by decide)
  replace h_3 : qW D _ _ (wk_22f40a116 cy h0 0 h1 w0 w1 w2 p2 p3 p4 p5 p6 p7 p8 p9 p10 p11 p12 w3 w4 w5 w6 h2 p13 p14 w7 w8 w9 p15 p16 w10 w11 w12 w13 w14 p17 w15 w16 w17 h1 f0 h2 f1) _ _ := h_3
  refine lv_if_ne (tgt := 20) hx hb dX12_days_14 (by decide) (fun c_4 => ?_) (fun c_4 => ?_)
  · replace c_4 := i_ne (x := r_3) (y := 0) rfl (show (0 : Int32).toInt = 0 by decide) c_4
    replace y3_0 := a10_1 y3_0 c_4
    refine lv_aload_n hx hb dX12_days_20 rfl (lv_at hl 0 rfl) ?_
    refine q_callVv (rest := []) (wr := []) X hK hT hA h_3 (fun sz => gX12_keeps_814ac6b l D cy h0 h1 h2 (0 : Int32) w0 w1 w2 p2 p3 p4 p5 p6 p7 p8 p9 p10 p11 p12 w3 w4 w5 w6 p13 p14 w7 w8 w9 p15 p16 w10 w11 w12 w13 w14 p17 w15 w16 w17 f0 p18 f1 ⟨by decide +kernel, by decide +kernel⟩ hp2 hp3 hp4 hp5 (i_rng _) hp7 (i_rng _) (i_rng _) (i_rng _) (i_rng _) (i_rng _) (i_rng _) (i_rng _) (i_rng _) (i_rng _) (i_rng _) hp18 htf0_84 rf0 rf1 sz) wm_6_220 wm_6_223 wm_1_12 hd_X12_keeps wm_6_222 wp_6_0 (ci := 12) (q0 := 0) rfl rfl ⟨Nat.le_of_ble_eq_true rfl, Nat.le_of_ble_eq_true rfl⟩ hl.1 rfl (Nat.le_of_ble_eq_true rfl) dX12_days_21 ⟨Nat.le_of_ble_eq_true rfl, Nat.le_of_ble_eq_true rfl⟩ [0, 1, 2] [] rfl rfl (by decide) rfl rfl (fun u_5 H locs w_5 h_5 => ?_)
    clear h_3
    obtain ⟨w5_0, _⟩ := w_5
    replace h_5 : qW D _ _ (wk_22f40a116 cy h0 0 h1 w0 w1 w2 p2 p3 p4 p5 p6 p7 p8 p9 p10 p11 p12 w3 w4 w5 w6 h2 p13 p14 w7 w8 w9 p15 p16 w10 w11 w12 w13 w14 p17 w15 w16 w17 h1 f0 h2 (u_5.2.1 0)) _ _ := h_5
    refine lv_aload_n hx hb dX12_days_24 rfl (lv_at hl 0 rfl) ?_
    refine q_get X hK h_5 0 rfl rfl wf_12 1 (by decide) rfl wm_5_171 dX12_days_25 ?_
    refine lv_bipush (v := 52) hx hb dX12_days_28 (by decide) ?_
    refine lv_dup2_11 hx hb dX12_days_30 rfl rfl ?_
    refine q_iald X hK h_5 1 rfl (q_in (by decide +kernel)) dX12_days_31 ?_
    refine q_any (fun z_6 hz_6 => ?_)
    refine lv_iload_n hx hb dX12_days_32 rfl (lv_at hl 1 rfl) ?_
    refine lv_iadd hx hb dX12_days_33 ?_
    refine q_any (fun z_7 hz_7 => ?_)
    refine q_iast X hK h_5 1 rfl (q_in (by decide +kernel)) dX12_days_34 (fun H locs h_9 => ?_)
    clear h_5
    replace h_9 : qW D _ _ (wk_22f40a116 cy h0 0 h1 w0 w1 w2 p2 p3 p4 p5 p6 p7 p8 p9 p10 p11 p12 w3 w4 w5 w6 h2 p13 p14 w7 w8 w9 p15 p16 w10 w11 w12 w13 w14 p17 w15 w16 w17 h1 (upd f0 (Int32.toNatClampNeg 52) z_7) h2 (u_5.2.1 0)) _ _ := h_9
    obtain ⟨F_8, eF_8, rF_8⟩ := al_upd rf0 (i := 52) (x := z_7) (show (52 : Int32).toInt = 52 by decide) rfl (by omega)
    have trF_8_84 := (tr_ne eF_8 htf0_84 (show (52 : Int32).toInt = 52 by decide) (by omega))
    rw [eF_8] at h_9
    clear eF_8
    refine lv_aload_n hx hb dX12_days_35 rfl (lv_at hl 0 rfl) ?_
    refine q_callVv (rest := []) (wr := []) X hK hT hA h_9 (fun sz => gX12_notes_fd80d29 l D cy h0 h1 h2 (0 : Int32) w0 w1 w2 p2 p3 p4 p5 p6 p7 p8 p9 p10 p11 p12 w3 w4 w5 w6 p13 p14 w7 w8 w9 p15 p16 w10 w11 w12 w13 w14 p17 w15 w16 w17 F_8 p18 (u_5.2.1 0) ⟨by decide +kernel, by decide +kernel⟩ hp2 hp3 hp4 hp5 (i_rng _) hp7 (i_rng _) (i_rng _) (i_rng _) (i_rng _) (i_rng _) (i_rng _) (i_rng _) (i_rng _) (i_rng _) (i_rng _) hp18 trF_8_84 rF_8 w5_0 sz) wm_6_232 wm_6_235 wm_1_12 hd_X12_notes wm_6_234 wp_6_3 (ci := 12) (q0 := 0) rfl rfl ⟨Nat.le_of_ble_eq_true rfl, Nat.le_of_ble_eq_true rfl⟩ hl.1 rfl (Nat.le_of_ble_eq_true rfl) dX12_days_36 ⟨Nat.le_of_ble_eq_true rfl, Nat.le_of_ble_eq_true rfl⟩ [0, 1, 2] [] rfl rfl (by decide) rfl rfl (fun u_10 H locs w_10 h_10 => ?_)
    clear h_9
    obtain ⟨w10_0, w10_1, w10_2, _⟩ := w_10
    replace h_10 : qW D _ _ (wk_22f40a116 cy h0 0 h1 w0 w1 w2 p2 p3 p4 p5 p6 p7 p8 p9 p10 p11 p12 w3 w4 w5 w6 h2 p13 p14 w7 w8 w9 p15 p16 w10 w11 w12 w13 w14 p17 w15 w16 w17 h1 (u_10.2.1 0) h2 (u_5.2.1 0)) _ _ := h_10
    refine lv_aload_n hx hb dX12_days_39 rfl (lv_at hl 0 rfl) ?_
    refine q_callVi (rest := []) (wr := [(h2, .inl (cy 1, 32, .inl (u_5.2.1 0)))]) X hK hT hA h_10 (fun sz => gX12_townNow_2907b4b l D cy h0 h1 (0 : Int32) w0 w1 w2 p2 p3 p4 p5 p6 p7 p8 p9 p10 p11 p12 w3 w4 w5 w6 (.ref h2) p13 p14 w7 w8 w9 p15 p16 w10 w11 w12 w13 w14 p17 w15 w16 w17 (u_10.2.1 0) (u_10.2.1 1 0) ⟨by decide +kernel, by decide +kernel⟩ hp2 hp3 hp4 hp5 (i_rng _) hp7 (i_rng _) (i_rng _) (i_rng _) (i_rng _) (i_rng _) (i_rng _) (i_rng _) (i_rng _) (i_rng _) (i_rng _) (bw w10_1 (by decide) (by decide)) w10_2 w10_0 sz) wm_6_170 wm_6_173 wm_1_12 hd_X12_townNow wm_6_172 wp_5_9 (ci := 12) (q0 := 0) rfl rfl ⟨Nat.le_of_ble_eq_true rfl, Nat.le_of_ble_eq_true rfl⟩ hl.1 rfl (Nat.le_of_ble_eq_true rfl) dX12_days_40 ⟨Nat.le_of_ble_eq_true rfl, Nat.le_of_ble_eq_true rfl⟩ [0, 1] [2] rfl rfl (by decide) rfl rfl (fun r_11 u_11 H locs w_11 h_11 => ?_)
    clear h_10
    obtain ⟨wr_11, _⟩ := w_11
    replace h_11 : qW D _ _ (wk_b0ee437a1 cy h2 (u_5.2.1 0) h0 0 h1 w0 w1 w2 p2 p3 p4 p5 p6 p7 p8 p9 p10 p11 p12 w3 w4 w5 w6 h2 p13 p14 w7 w8 w9 p15 p16 w10 w11 w12 w13 w14 p17 w15 w16 w17 h1 (u_10.2.1 0)) _ _ := h_11
    exact q_iret X hr hlk hK h_11 rfl (fun _ => 0, (vcons (u_5.2.1 0) (vcons (fun _ => 0) (vcons (u_10.2.1 0) (vcons (fun _ => (u_10.2.1 1 0)) (fun _ => (fun _ => 0)))))), fun _ _ => 0) ⟨(bw wr_11 (by decide) (by decide)), w5_0, (⟨by decide +kernel, by decide +kernel⟩ : 0 ≤ (0 : Int32).toInt ∧ (0 : Int32).toInt ≤ 0), w10_0, (bw w10_1 (by decide) (by decide)), w10_2, trivial⟩ [1, 2, 0] rfl rfl dX12_days_43 (Nat.le_of_ble_eq_true rfl) (Nat.le_of_ble_eq_true rfl)
  · replace c_4 := i_eq (x := r_3) (y := 0) rfl (show (0 : Int32).toInt = 0 by decide) c_4
    replace y3_0 := a10_0 y3_0 c_4
    refine lv_bipush (v := (-3)) hx hb dX12_days_17 (by decide) ?_
    exact q_iret X hr hlk hK h_3 rfl (fun _ => 0, (vcons f1 (vcons (fun _ => 0) (vcons f0 (vcons (fun _ => p18) (fun _ => (fun _ => 0)))))), fun _ _ => 0) ⟨⟨by decide +kernel, by decide +kernel⟩, rf1, (⟨by decide +kernel, by decide +kernel⟩ : 0 ≤ (0 : Int32).toInt ∧ (0 : Int32).toInt ≤ 0), rf0, hp18, htf0_84, trivial⟩ [0, 1, 2] rfl rfl dX12_days_19 (Nat.le_of_ble_eq_true rfl) (Nat.le_of_ble_eq_true rfl)
set_option maxHeartbeats 4000000 in
set_option maxRecDepth 100000 in
theorem gX12_undo_e942426 (l : Launch) (D : va_G) (cy : Nat → ClassId) (h0 : Nat) (h1 : Nat) (p0 : Int32) (p1 : Int32) (w0 : Value) (w1 : Value) (w2 : Value) (p2 : Int32) (p3 : Int32) (p4 : Int32) (p5 : Int32) (p6 : Int32) (p7 : Int32) (p8 : Int32) (p9 : Int32) (p10 : Int32) (p11 : Int32) (p12 : Int32) (w3 : Value) (w4 : Value) (w5 : Value) (w6 : Value) (w7 : Value) (p13 : Int32) (p14 : Int32) (w8 : Value) (w9 : Value) (w10 : Value) (p15 : Int32) (p16 : Int32) (w11 : Value) (w12 : Value) (w13 : Value) (w14 : Value) (w15 : Value) (p17 : Int32) (w16 : Value) (w17 : Value) (w18 : Value) (f0 : Nat → Int32) (p18 : Int32) (hp0 : (-2147483648) ≤ (p0).toInt ∧ (p0).toInt ≤ 2147483647) (hp1 : (-2147483648) ≤ (p1).toInt ∧ (p1).toInt ≤ 2147483647) (hp2 : 0 ≤ (p2).toInt ∧ (p2).toInt ≤ 900) (hp3 : 0 ≤ (p3).toInt ∧ (p3).toInt ≤ 900) (hp4 : 0 ≤ (p4).toInt ∧ (p4).toInt ≤ 900) (hp5 : 0 ≤ (p5).toInt ∧ (p5).toInt ≤ 900) (hp6 : (-2147483648) ≤ (p6).toInt ∧ (p6).toInt ≤ 2147483647) (hp7 : 0 ≤ (p7).toInt ∧ (p7).toInt ≤ 999) (hp8 : (-2147483648) ≤ (p8).toInt ∧ (p8).toInt ≤ 2147483647) (hp9 : (-2147483648) ≤ (p9).toInt ∧ (p9).toInt ≤ 2147483647) (hp10 : (-2147483648) ≤ (p10).toInt ∧ (p10).toInt ≤ 2147483647) (hp11 : (-2147483648) ≤ (p11).toInt ∧ (p11).toInt ≤ 2147483647) (hp12 : (-2147483648) ≤ (p12).toInt ∧ (p12).toInt ≤ 2147483647) (hp13 : (-2147483648) ≤ (p13).toInt ∧ (p13).toInt ≤ 2147483647) (hp14 : (-2147483648) ≤ (p14).toInt ∧ (p14).toInt ≤ 2147483647) (hp15 : (-2147483648) ≤ (p15).toInt ∧ (p15).toInt ≤ 2147483647) (hp16 : (-2147483648) ≤ (p16).toInt ∧ (p16).toInt ≤ 2147483647) (hp17 : (-2147483648) ≤ (p17).toInt ∧ (p17).toInt ≤ 2147483647) (hp18 : 0 ≤ (p18).toInt ∧ (p18).toInt ≤ 10) (htf0_84 : f0 84 = p18) (rf0 : AL f0) (sz : Nat) : MI l yX12_undo cX12_undo 3 .int { frames := 1, cells := 0, slots := 0, locals := 25 } [.ref h0, .int p0] D cy (wk_e1f596b07 cy h0 p1 h1 w0 w1 w2 p2 p3 p4 p5 p6 p7 p8 p9 p10 p11 p12 w3 w4 w5 w6 w7 p13 p14 w8 w9 w10 p15 p16 w11 w12 w13 w14 w15 p17 w16 w17 w18 h1 f0) sz (fun r u => ((-3) ≤ r.toInt ∧ r.toInt ≤ 9) ∧ (0 ≤ (u.2.1 0 0).toInt ∧ (u.2.1 0 0).toInt ≤ 0) ∧ AL (u.2.1 1) ∧ (0 ≤ (u.2.1 2 0).toInt ∧ (u.2.1 2 0).toInt ≤ 10) ∧ (u.2.1 1) 84 = (u.2.1 2 0) ∧ True) (fun u => (wk_e1f596b07 cy h0 (u.2.1 0 0) h1 w0 w1 w2 p2 p3 p4 p5 p6 p7 p8 p9 p10 p11 p12 w3 w4 w5 w6 w7 p13 p14 w8 w9 w10 p15 p16 w11 w12 w13 w14 w15 p17 w16 w17 w18 h1 (u.2.1 1))) 0 0 := by
  refine q_ent (own := RX12) (by decide) rfl (Nat.le_of_ble_eq_true rfl) (fun p e s m below meth c ls X hr hlk hnm hK hT h hA hl => ?_)
  obtain ⟨hx, hb, hml, hown, ht⟩ := id X
  replace hl : lv_has ls 3 [(0, .ref h0), (1, .int p0)] := hl
  refine lv_aload_n hx hb dX12_undo_0 rfl (lv_at hl 0 rfl) ?_
  refine lv_iconst (v := 0) hx hb dX12_undo_1 (by decide) ?_
  refine q_put (v := .int 0) X hK h 0 rfl rfl wf_12 tyX12 tyX12_ok nmX12 0 (by decide) wm_5_170 rfl rfl rfl (Nat.le_of_ble_eq_true rfl) dX12_undo_2 (fun H locs h_1 => ?_)
  clear h
  replace h_1 : qW D _ _ (wk_e1f596b07 cy h0 0 h1 w0 w1 w2 p2 p3 p4 p5 p6 p7 p8 p9 p10 p11 p12 w3 w4 w5 w6 w7 p13 p14 w8 w9 w10 p15 p16 w11 w12 w13 w14 w15 p17 w16 w17 w18 h1 f0) _ _ := h_1
  refine lv_iload_n hx hb dX12_undo_5 rfl (lv_at hl 1 rfl) ?_
  refine lv_i2l hx hb dX12_undo_6 rfl ?_
  obtain ⟨z_2, ez_2, hz_2⟩ := e_i2l (x := p0) rfl
  refine q_cl z_2 ez_2 ?_
  clear ez_2
  refine lv_lconst (v := 1) hx hb dX12_undo_7 (by decide) ?_
  refine lv_ldc2 hx hb hown (ht _ wm_7_24) dX12_undo_8 ?_
  refine q_callSi (rest := []) (wr := (wk_e1f596b07 cy h0 0 h1 w0 w1 w2 p2 p3 p4 p5 p6 p7 p8 p9 p10 p11 p12 w3 w4 w5 w6 w7 p13 p14 w8 w9 w10 p15 p16 w11 w12 w13 w14 w15 p17 w16 w17 w18 h1 f0)) X hK hT hA h_1 (fun sz => gX12_within_00c7897 l D cy z_2 (1 : Int64) (10 : Int64) (j_rng _) ⟨by decide +kernel, by decide +kernel⟩ ⟨by decide +kernel, by decide +kernel⟩ sz) wm_6_50 wm_6_52 wm_1_12 hd_X12_within wm_6_51 ⟨Nat.le_of_ble_eq_true rfl, Nat.le_of_ble_eq_true rfl⟩ hl.1 rfl (Nat.le_of_ble_eq_true rfl) dX12_undo_11 ⟨Nat.le_of_ble_eq_true rfl, Nat.le_of_ble_eq_true rfl⟩ [] [0, 1] rfl rfl (by decide) rfl rfl (fun r_3 u_3 H locs w_3 h_3 => ?_)
  clear h_1
  obtain ⟨wr_3, y3_0, _⟩ := w_3
  have lq_3_1 : (1 : Int64).toInt = 1 := (by decide)
  have lq_3_2 : (10 : Int64).toInt = 10 := (by decide)
  replace h_3 : qW D _ _ (wk_e1f596b07 cy h0 0 h1 w0 w1 w2 p2 p3 p4 p5 p6 p7 p8 p9 p10 p11 p12 w3 w4 w5 w6 w7 p13 p14 w8 w9 w10 p15 p16 w11 w12 w13 w14 w15 p17 w16 w17 w18 h1 f0) _ _ := h_3
  refine q_jn (pc2 := 28) (fun H locs ls st => st = [] ∧ qW D (va_A (wk_e1f596b07 cy h0 p1 h1 w0 w1 w2 p2 p3 p4 p5 p6 p7 p8 p9 p10 p11 p12 w3 w4 w5 w6 w7 p13 p14 w8 w9 w10 p15 p16 w11 w12 w13 w14 w15 p17 w16 w17 w18 h1 f0) sz) s.heap (wk_e1f596b07 cy h0 0 h1 w0 w1 w2 p2 p3 p4 p5 p6 p7 p8 p9 p10 p11 p12 w3 w4 w5 w6 w7 p13 p14 w8 w9 w10 p15 p16 w11 w12 w13 w14 w15 p17 w16 w17 w18 h1 f0) H locs ∧ lv_has ls 3 [(0, .ref h0), (1, .int p0)]) (fun H locs ls st hP => ?_) (fun J_28 => ?_)
  · obtain ⟨rfl, h, hl⟩ := hP
    refine lv_bipush (v := (-3)) hx hb dX12_undo_28 (by decide) ?_
    exact q_iret X hr hlk hK h rfl (fun _ => 0, (vcons (fun _ => 0) (vcons f0 (vcons (fun _ => p18) (fun _ => (fun _ => 0))))), fun _ _ => 0) ⟨⟨by decide +kernel, by decide +kernel⟩, (⟨by decide +kernel, by decide +kernel⟩ : 0 ≤ (0 : Int32).toInt ∧ (0 : Int32).toInt ≤ 0), rf0, hp18, htf0_84, trivial⟩ [0, 1] rfl rfl dX12_undo_30 (Nat.le_of_ble_eq_true rfl) (Nat.le_of_ble_eq_true rfl)
  · skip
    refine lv_if_eq (tgt := 28) hx hb dX12_undo_14 (by decide) (fun c_5 => ?_) (fun c_5 => ?_)
    · replace c_5 := i_eq (x := r_3) (y := 0) rfl (show (0 : Int32).toInt = 0 by decide) c_5
      replace y3_0 := a10_0 y3_0 c_5
      exact J_28 _ _ _ _ ⟨rfl, h_3, (lv_sub hl [0, 1] rfl)⟩
    · replace c_5 := i_ne (x := r_3) (y := 0) rfl (show (0 : Int32).toInt = 0 by decide) c_5
      replace y3_0 := a10_1 y3_0 c_5
      refine lv_iload_n hx hb dX12_undo_17 rfl (lv_at hl 1 rfl) ?_
      refine lv_aload_n hx hb dX12_undo_18 rfl (lv_at hl 0 rfl) ?_
      refine q_get X hK h_3 0 rfl rfl wf_12 1 (by decide) rfl wm_5_171 dX12_undo_19 ?_
      refine lv_bipush (v := 84) hx hb dX12_undo_22 (by decide) ?_
      refine q_iald X hK h_3 1 rfl (q_in (by decide +kernel)) dX12_undo_24 ?_
      refine q_c p18 htf0_84 ?_
      refine lv_icmp_le (tgt := 31) hx hb dX12_undo_25 (by decide) (fun c_6 => ?_) (fun c_6 => ?_)
      · replace c_6 := i_le (x := p0) (y := p18) rfl rfl c_6
        refine lv_aload_n hx hb dX12_undo_31 rfl (lv_at hl 0 rfl) ?_
        refine q_get X hK h_3 0 rfl rfl wf_12 1 (by decide) rfl wm_5_171 dX12_undo_32 ?_
        refine lv_bipush (v := 84) hx hb dX12_undo_35 (by decide) ?_
        refine lv_dup2_11 hx hb dX12_undo_37 rfl rfl ?_
        refine q_iald X hK h_3 1 rfl (q_in (by decide +kernel)) dX12_undo_38 ?_
        refine q_c p18 htf0_84 ?_
        refine lv_iload_n hx hb dX12_undo_39 rfl (lv_at hl 1 rfl) ?_
        refine lv_isub hx hb dX12_undo_40 ?_
        obtain ⟨z_7, ez_7, hz_7⟩ := e_sub (x := p18) (y := p0) rfl rfl (by omega) (by omega)
        refine q_c z_7 ez_7 ?_
        clear ez_7
        refine q_iast X hK h_3 1 rfl (q_in (by decide +kernel)) dX12_undo_41 (fun H locs h_9 => ?_)
        clear h_3
        replace h_9 : qW D _ _ (wk_e1f596b07 cy h0 0 h1 w0 w1 w2 p2 p3 p4 p5 p6 p7 p8 p9 p10 p11 p12 w3 w4 w5 w6 w7 p13 p14 w8 w9 w10 p15 p16 w11 w12 w13 w14 w15 p17 w16 w17 w18 h1 (upd f0 (Int32.toNatClampNeg 84) z_7)) _ _ := h_9
        obtain ⟨F_8, eF_8, rF_8⟩ := al_upd rf0 (i := 84) (x := z_7) (show (84 : Int32).toInt = 84 by decide) rfl (by omega)
        have trF_8_84 := (tr_eq eF_8 (k := 84) (x := 84) (by decide))
        rw [eF_8] at h_9
        clear eF_8
        refine lv_iconst (v := 0) hx hb dX12_undo_42 (by decide) ?_
        refine lv_istore_n (lv' := [(2, .int 0), (0, .ref h0), (1, .int p0)]) hx hb dX12_undo_43 rfl hl (by decide) rfl (fun ls_10 hl_10 => ?_)
        clear hl
        refine q_wl (fun (v44_11_0 : Int32) H locs ls => ∃ v44_11_1 : Nat → Int32, (0 ≤ (v44_11_0).toInt ∧ (v44_11_0).toInt ≤ 32) ∧ v44_11_1 84 = z_7 ∧ (CPY v44_11_1 F_8 52 F_8 (85 + 32 * ((z_7 : Int32).toInt).toNat) ((v44_11_0 : Int32).toInt).toNat) ∧ qW D (va_A (wk_e1f596b07 cy h0 p1 h1 w0 w1 w2 p2 p3 p4 p5 p6 p7 p8 p9 p10 p11 p12 w3 w4 w5 w6 w7 p13 p14 w8 w9 w10 p15 p16 w11 w12 w13 w14 w15 p17 w16 w17 w18 h1 f0) sz) s.heap (wk_e1f596b07 cy h0 0 h1 w0 w1 w2 p2 p3 p4 p5 p6 p7 p8 p9 p10 p11 p12 w3 w4 w5 w6 w7 p13 p14 w8 w9 w10 p15 p16 w11 w12 w13 w14 w15 p17 w16 w17 w18 h1 v44_11_1) H locs ∧ lv_has ls 3 [(0, .ref h0), (1, .int p0), (2, .int v44_11_0)]) (fun (v44_11_0 : Int32) => (33 - (v44_11_0).toInt).toNat) (fun q_44 ih_44 H locs ls hP => ?_) 0 ⟨F_8, ⟨by decide +kernel, by decide +kernel⟩, trF_8_84, (cp_0 (by decide)), h_9, (lv_sub hl_10 [1, 2, 0] rfl)⟩
        obtain ⟨v44_11_0, rfl⟩ : ∃ z, z = q_44 := ⟨_, rfl⟩
        obtain ⟨v44_11_1, hv44_11_0, trv44_11_1_84, x12_0, h, hl⟩ := hP
        refine lv_iload_n hx hb dX12_undo_44 rfl (lv_at hl 2 rfl) ?_
        refine lv_bipush (v := 32) hx hb dX12_undo_45 (by decide) ?_
        refine lv_icmp_ge (tgt := 85) hx hb dX12_undo_47 (by decide) (fun c_13 => ?_) (fun c_13 => ?_)
        · replace c_13 := i_le (x := 32) (y := v44_11_0) (show (32 : Int32).toInt = 32 by decide) rfl c_13
          have cx_14 := al_undo x12_0 (by omega) (by omega) rF_8
          refine lv_aload_n hx hb dX12_undo_85 rfl (lv_at hl 0 rfl) ?_
          refine q_get X hK h 0 rfl rfl wf_12 1 (by decide) rfl wm_5_171 dX12_undo_86 ?_
          refine lv_bipush (v := 84) hx hb dX12_undo_89 (by decide) ?_
          refine q_iald X hK h 1 rfl (q_in (by decide +kernel)) dX12_undo_91 ?_
          refine q_c z_7 trv44_11_1_84 ?_
          exact q_iret X hr hlk hK h rfl (fun _ => 0, (vcons (fun _ => 0) (vcons v44_11_1 (vcons (fun _ => z_7) (fun _ => (fun _ => 0))))), fun _ _ => 0) ⟨⟨by omega, by omega⟩, (⟨by decide +kernel, by decide +kernel⟩ : 0 ≤ (0 : Int32).toInt ∧ (0 : Int32).toInt ≤ 0), cx_14, (⟨by omega, by omega⟩ : 0 ≤ (z_7 : Int32).toInt ∧ (z_7 : Int32).toInt ≤ 10), trv44_11_1_84, trivial⟩ [0, 1] rfl rfl dX12_undo_92 (Nat.le_of_ble_eq_true rfl) (Nat.le_of_ble_eq_true rfl)
        · replace c_13 := i_nle (x := 32) (y := v44_11_0) (show (32 : Int32).toInt = 32 by decide) rfl c_13
          refine lv_aload_n hx hb dX12_undo_50 rfl (lv_at hl 0 rfl) ?_
          refine q_get X hK h 0 rfl rfl wf_12 1 (by decide) rfl wm_5_171 dX12_undo_51 ?_
          refine lv_bipush (v := 52) hx hb dX12_undo_54 (by decide) ?_
          refine lv_iload_n hx hb dX12_undo_56 rfl (lv_at hl 2 rfl) ?_
          refine lv_iadd hx hb dX12_undo_57 ?_
          obtain ⟨z_15, ez_15, hz_15⟩ := e_add (x := 52) (y := v44_11_0) (show (52 : Int32).toInt = 52 by decide) rfl (by omega) (by omega)
          refine q_c z_15 ez_15 ?_
          clear ez_15
          refine lv_aload_n hx hb dX12_undo_58 rfl (lv_at hl 0 rfl) ?_
          refine q_get X hK h 0 rfl rfl wf_12 1 (by decide) rfl wm_5_171 dX12_undo_59 ?_
          refine lv_bipush (v := 85) hx hb dX12_undo_62 (by decide) ?_
          refine lv_bipush (v := 32) hx hb dX12_undo_64 (by decide) ?_
          refine lv_aload_n hx hb dX12_undo_66 rfl (lv_at hl 0 rfl) ?_
          refine q_get X hK h 0 rfl rfl wf_12 1 (by decide) rfl wm_5_171 dX12_undo_67 ?_
          refine lv_bipush (v := 84) hx hb dX12_undo_70 (by decide) ?_
          refine q_iald X hK h 1 rfl (q_in (by decide +kernel)) dX12_undo_72 ?_
          refine q_c z_7 trv44_11_1_84 ?_
          refine lv_imul hx hb dX12_undo_73 ?_
          obtain ⟨z_16, ez_16, hz_16⟩ := e_mul (x := 32) (y := z_7) (show (32 : Int32).toInt = 32 by decide) rfl (by omega) (by omega)
          refine q_c z_16 ez_16 ?_
          clear ez_16
          refine lv_iadd hx hb dX12_undo_74 ?_
          obtain ⟨z_17, ez_17, hz_17⟩ := e_add (x := 85) (y := z_16) (show (85 : Int32).toInt = 85 by decide) rfl (by omega) (by omega)
          refine q_c z_17 ez_17 ?_
          clear ez_17
          refine lv_iload_n hx hb dX12_undo_75 rfl (lv_at hl 2 rfl) ?_
          refine lv_iadd hx hb dX12_undo_76 ?_
          obtain ⟨z_18, ez_18, hz_18⟩ := e_add (x := z_17) (y := v44_11_0) rfl rfl (by omega) (by omega)
          refine q_c z_18 ez_18 ?_
          clear ez_18
          refine q_iald X hK h 1 rfl (i_in rfl (by omega) (by omega)) dX12_undo_77 ?_
          obtain ⟨z_19, ez_19, hz_19⟩ := e_any (v44_11_1 z_18.toNatClampNeg)
          refine q_c z_19 ez_19 ?_
          refine q_iast X hK h 1 rfl (i_in rfl (by omega) (by omega)) dX12_undo_78 (fun H locs h_21 => ?_)
          clear h
          replace h_21 : qW D _ _ (wk_e1f596b07 cy h0 0 h1 w0 w1 w2 p2 p3 p4 p5 p6 p7 p8 p9 p10 p11 p12 w3 w4 w5 w6 w7 p13 p14 w8 w9 w10 p15 p16 w11 w12 w13 w14 w15 p17 w16 w17 w18 h1 (upd v44_11_1 (Int32.toNatClampNeg z_15) z_19)) _ _ := h_21
          obtain ⟨F_20, eF_20⟩ : ∃ z, (upd v44_11_1 (Int32.toNatClampNeg z_15) z_19) = z := ⟨_, rfl⟩
          have trF_20_84 := (tr_ne eF_20 trv44_11_1_84 rfl (by omega))
          rw [eF_20] at h_21
          have cs_22 := cp_t x12_0 ez_19 eF_20 (by omega) (by omega) (by omega)
          obtain ⟨z_23, ez_23, hz_23⟩ := e_add (x := v44_11_0) (y := Int32.ofInt 1) rfl (b := 1) (by decide) (by omega) (by omega)
          refine lv_iinc (v := z_23) (lv' := [(2, .int z_23), (0, .ref h0), (1, .int p0)]) hx hb dX12_undo_79 hl (k := 2) rfl ez_23 (by decide) rfl (fun ls_23 hl_23 => ?_)
          clear hl
          refine lv_goto (tgt := 44) hx hb dX12_undo_82 (by decide) ?_
          exact ih_44 z_23 (by show (33 - (z_23).toInt).toNat < (33 - (v44_11_0).toInt).toNat; omega) _ _ _ ⟨F_20, ⟨by omega, by omega⟩, trF_20_84, (cp_n cs_22 (by (first | assumption | omega))), h_21, (lv_sub hl_23 [1, 2, 0] rfl)⟩
      · replace c_6 := i_nle (x := p0) (y := p18) rfl rfl c_6
        exact J_28 _ _ _ _ ⟨rfl, h_3, (lv_sub hl [0, 1] rfl)⟩
set_option maxHeartbeats 4000000 in
set_option maxRecDepth 100000 in
theorem gX12_noTray_c6f52ea (l : Launch) (D : va_G) (cy : Nat → ClassId) (h0 : Nat) (h1 : Nat) (p0 : Int32) (p1 : Int32) (w0 : Value) (w1 : Value) (w2 : Value) (w3 : Value) (p2 : Int32) (p3 : Int32) (p4 : Int32) (p5 : Int32) (p6 : Int32) (p7 : Int32) (p8 : Int32) (p9 : Int32) (p10 : Int32) (p11 : Int32) (p12 : Int32) (w4 : Value) (w5 : Value) (w6 : Value) (w7 : Value) (w8 : Value) (p13 : Int32) (p14 : Int32) (w9 : Value) (w10 : Value) (w11 : Value) (p15 : Int32) (p16 : Int32) (w12 : Value) (w13 : Value) (w14 : Value) (w15 : Value) (w16 : Value) (p17 : Int32) (w17 : Value) (w18 : Value) (f0 : Nat → Int32) (hp0 : (-2147483648) ≤ (p0).toInt ∧ (p0).toInt ≤ 2147483647) (hp1 : 0 ≤ (p1).toInt ∧ (p1).toInt ≤ 0) (hp2 : 0 ≤ (p2).toInt ∧ (p2).toInt ≤ 900) (hp3 : 0 ≤ (p3).toInt ∧ (p3).toInt ≤ 900) (hp4 : 0 ≤ (p4).toInt ∧ (p4).toInt ≤ 900) (hp5 : 0 ≤ (p5).toInt ∧ (p5).toInt ≤ 900) (hp6 : (-2147483648) ≤ (p6).toInt ∧ (p6).toInt ≤ 2147483647) (hp7 : 0 ≤ (p7).toInt ∧ (p7).toInt ≤ 999) (hp8 : (-2147483648) ≤ (p8).toInt ∧ (p8).toInt ≤ 2147483647) (hp9 : (-2147483648) ≤ (p9).toInt ∧ (p9).toInt ≤ 2147483647) (hp10 : (-2147483648) ≤ (p10).toInt ∧ (p10).toInt ≤ 2147483647) (hp11 : (-2147483648) ≤ (p11).toInt ∧ (p11).toInt ≤ 2147483647) (hp12 : (-2147483648) ≤ (p12).toInt ∧ (p12).toInt ≤ 2147483647) (hp13 : (-2147483648) ≤ (p13).toInt ∧ (p13).toInt ≤ 2147483647) (hp14 : (-2147483648) ≤ (p14).toInt ∧ (p14).toInt ≤ 2147483647) (hp15 : (-2147483648) ≤ (p15).toInt ∧ (p15).toInt ≤ 2147483647) (hp16 : (-2147483648) ≤ (p16).toInt ∧ (p16).toInt ≤ 2147483647) (hp17 : (-2147483648) ≤ (p17).toInt ∧ (p17).toInt ≤ 2147483647) (sz : Nat) : MI l yX12_noTray cX12_noTray 2 .int { frames := 1, cells := 0, slots := 0, locals := 25 } [.ref h0, .int p0] D cy (wk_5f5f0c38e cy h0 p1 w0 w1 w2 w3 p2 p3 p4 p5 p6 p7 p8 p9 p10 p11 p12 w4 w5 w6 w7 w8 p13 p14 w9 w10 w11 p15 p16 w12 w13 w14 w15 w16 p17 h1 w17 w18 h1 f0) sz (fun r u => ((-6) ≤ r.toInt ∧ r.toInt ≤ 0) ∧ ((r : Int32).toInt = -2 ∨ (r : Int32).toInt = -6 ∨ (0 ≤ (p0 : Int32).toInt ∧ (p0 : Int32).toInt ≤ 3)) ∧ True) (fun u => (wk_5f5f0c38e cy h0 p1 w0 w1 w2 w3 p2 p3 p4 p5 p6 p7 p8 p9 p10 p11 p12 w4 w5 w6 w7 w8 p13 p14 w9 w10 w11 p15 p16 w12 w13 w14 w15 w16 p17 h1 w17 w18 h1 f0)) 0 0 := by
  refine q_ent (own := RX12) (by decide) rfl (Nat.le_of_ble_eq_true rfl) (fun p e s m below meth c ls X hr hlk hnm hK hT h hA hl => ?_)
  obtain ⟨hx, hb, hml, hown, ht⟩ := id X
  replace hl : lv_has ls 2 [(0, .ref h0), (1, .int p0)] := hl
  refine lv_iload_n hx hb dX12_noTray_0 rfl (lv_at hl 1 rfl) ?_
  refine lv_i2l hx hb dX12_noTray_1 rfl ?_
  obtain ⟨z_1, ez_1, hz_1⟩ := e_i2l (x := p0) rfl
  refine q_cl z_1 ez_1 ?_
  clear ez_1
  refine lv_lconst (v := 0) hx hb dX12_noTray_2 (by decide) ?_
  refine lv_ldc2 hx hb hown (ht _ wm_7_29) dX12_noTray_3 ?_
  refine q_callSi (rest := []) (wr := (wk_5f5f0c38e cy h0 p1 w0 w1 w2 w3 p2 p3 p4 p5 p6 p7 p8 p9 p10 p11 p12 w4 w5 w6 w7 w8 p13 p14 w9 w10 w11 p15 p16 w12 w13 w14 w15 w16 p17 h1 w17 w18 h1 f0)) X hK hT hA h (fun sz => gX12_within_00c7897 l D cy z_1 (0 : Int64) (3 : Int64) (j_rng _) ⟨by decide +kernel, by decide +kernel⟩ ⟨by decide +kernel, by decide +kernel⟩ sz) wm_6_50 wm_6_52 wm_1_12 hd_X12_within wm_6_51 ⟨Nat.le_of_ble_eq_true rfl, Nat.le_of_ble_eq_true rfl⟩ hl.1 rfl (Nat.le_of_ble_eq_true rfl) dX12_noTray_6 ⟨Nat.le_of_ble_eq_true rfl, Nat.le_of_ble_eq_true rfl⟩ [] [0, 1] rfl rfl (by decide) rfl rfl (fun r_2 u_2 H locs w_2 h_2 => ?_)
  clear h
  obtain ⟨wr_2, y2_0, _⟩ := w_2
  have lq_2_1 : (0 : Int64).toInt = 0 := (by decide)
  have lq_2_2 : (3 : Int64).toInt = 3 := (by decide)
  replace h_2 : qW D _ _ (wk_5f5f0c38e cy h0 p1 w0 w1 w2 w3 p2 p3 p4 p5 p6 p7 p8 p9 p10 p11 p12 w4 w5 w6 w7 w8 p13 p14 w9 w10 w11 p15 p16 w12 w13 w14 w15 w16 p17 h1 w17 w18 h1 f0) _ _ := h_2
  refine lv_if_ne (tgt := 17) hx hb dX12_noTray_9 (by decide) (fun c_3 => ?_) (fun c_3 => ?_)
  · replace c_3 := i_ne (x := r_2) (y := 0) rfl (show (0 : Int32).toInt = 0 by decide) c_3
    replace y2_0 := a10_1 y2_0 c_3
    refine lv_aload_n hx hb dX12_noTray_17 rfl (lv_at hl 0 rfl) ?_
    refine q_get X hK h_2 0 rfl rfl wf_12 34 (by decide) rfl wm_5_204 dX12_noTray_18 ?_
    refine lv_iload_n hx hb dX12_noTray_21 rfl (lv_at hl 1 rfl) ?_
    refine q_iald X hK h_2 1 rfl (i_in rfl (by omega) (by omega)) dX12_noTray_22 ?_
    refine q_any (fun z_4 hz_4 => ?_)
    refine lv_iconst (v := (-1)) hx hb dX12_noTray_23 (by decide) ?_
    refine lv_icmp_ne (tgt := 32) hx hb dX12_noTray_24 (by decide) (fun c_5 => ?_) (fun c_5 => ?_)
    · replace c_5 := i_ne (x := z_4) (y := (-1)) rfl (show ((-1) : Int32).toInt = -1 by decide) c_5
      refine lv_iconst (v := 0) hx hb dX12_noTray_32 (by decide) ?_
      exact q_iret X hr hlk hK h_2 rfl (fun _ => 0, fun _ _ => 0, fun _ _ => 0) ⟨⟨by decide +kernel, by decide +kernel⟩, (show (0 : Int32).toInt = -2 ∨ (0 : Int32).toInt = -6 ∨ (0 ≤ (p0 : Int32).toInt ∧ (p0 : Int32).toInt ≤ 3) from by have q0 : (0 : Int32).toInt = 0 := (by decide); omega), trivial⟩ [0, 1] rfl rfl dX12_noTray_33 (Nat.le_of_ble_eq_true rfl) (Nat.le_of_ble_eq_true rfl)
    · replace c_5 := i_eq (x := z_4) (y := (-1)) rfl (show ((-1) : Int32).toInt = -1 by decide) c_5
      refine lv_bipush (v := (-6)) hx hb dX12_noTray_27 (by decide) ?_
      refine lv_goto (tgt := 33) hx hb dX12_noTray_29 (by decide) ?_
      exact q_iret X hr hlk hK h_2 rfl (fun _ => 0, fun _ _ => 0, fun _ _ => 0) ⟨⟨by decide +kernel, by decide +kernel⟩, (show ((-6) : Int32).toInt = -2 ∨ ((-6) : Int32).toInt = -6 ∨ (0 ≤ (p0 : Int32).toInt ∧ (p0 : Int32).toInt ≤ 3) from by have q0 : ((-6) : Int32).toInt = -6 := (by decide); omega), trivial⟩ [0, 1] rfl rfl dX12_noTray_33 (Nat.le_of_ble_eq_true rfl) (Nat.le_of_ble_eq_true rfl)
  · replace c_3 := i_eq (x := r_2) (y := 0) rfl (show (0 : Int32).toInt = 0 by decide) c_3
    replace y2_0 := a10_0 y2_0 c_3
    refine lv_bipush (v := (-2)) hx hb dX12_noTray_12 (by decide) ?_
    refine lv_goto (tgt := 33) hx hb dX12_noTray_14 (by decide) ?_
    exact q_iret X hr hlk hK h_2 rfl (fun _ => 0, fun _ _ => 0, fun _ _ => 0) ⟨⟨by decide +kernel, by decide +kernel⟩, (show ((-2) : Int32).toInt = -2 ∨ ((-2) : Int32).toInt = -6 ∨ (0 ≤ (p0 : Int32).toInt ∧ (p0 : Int32).toInt ≤ 3) from by have q0 : ((-2) : Int32).toInt = -2 := (by decide); (first | (clear y2_0; omega) | omega)), trivial⟩ [0, 1] rfl rfl dX12_noTray_33 (Nat.le_of_ble_eq_true rfl) (Nat.le_of_ble_eq_true rfl)
set_option maxHeartbeats 4000000 in
set_option maxRecDepth 100000 in
theorem gX12_whyNot_70f43d9 (l : Launch) (D : va_G) (cy : Nat → ClassId) (h0 : Nat) (h1 : Nat) (j0 : Int64) (p0 : Int32) (w0 : Value) (w1 : Value) (w2 : Value) (p1 : Int32) (p2 : Int32) (p3 : Int32) (p4 : Int32) (p5 : Int32) (p6 : Int32) (p7 : Int32) (p8 : Int32) (p9 : Int32) (p10 : Int32) (p11 : Int32) (w3 : Value) (w4 : Value) (w5 : Value) (w6 : Value) (w7 : Value) (p12 : Int32) (p13 : Int32) (w8 : Value) (w9 : Value) (w10 : Value) (p14 : Int32) (p15 : Int32) (w11 : Value) (w12 : Value) (w13 : Value) (w14 : Value) (w15 : Value) (p16 : Int32) (w16 : Value) (w17 : Value) (w18 : Value) (f0 : Nat → Int32) (p17 : Int32) (hj0 : (-9223372036854775808) ≤ (j0).toInt ∧ (j0).toInt ≤ 9223372036854775807) (hp0 : 0 ≤ (p0).toInt ∧ (p0).toInt ≤ 0) (hp1 : 0 ≤ (p1).toInt ∧ (p1).toInt ≤ 900) (hp2 : 0 ≤ (p2).toInt ∧ (p2).toInt ≤ 900) (hp3 : 0 ≤ (p3).toInt ∧ (p3).toInt ≤ 900) (hp4 : 0 ≤ (p4).toInt ∧ (p4).toInt ≤ 900) (hp5 : (-2147483648) ≤ (p5).toInt ∧ (p5).toInt ≤ 2147483647) (hp6 : 0 ≤ (p6).toInt ∧ (p6).toInt ≤ 999) (hp7 : (-2147483648) ≤ (p7).toInt ∧ (p7).toInt ≤ 2147483647) (hp8 : (-2147483648) ≤ (p8).toInt ∧ (p8).toInt ≤ 2147483647) (hp9 : (-2147483648) ≤ (p9).toInt ∧ (p9).toInt ≤ 2147483647) (hp10 : (-2147483648) ≤ (p10).toInt ∧ (p10).toInt ≤ 2147483647) (hp11 : (-2147483648) ≤ (p11).toInt ∧ (p11).toInt ≤ 2147483647) (hp12 : (-2147483648) ≤ (p12).toInt ∧ (p12).toInt ≤ 2147483647) (hp13 : (-2147483648) ≤ (p13).toInt ∧ (p13).toInt ≤ 2147483647) (hp14 : (-2147483648) ≤ (p14).toInt ∧ (p14).toInt ≤ 2147483647) (hp15 : (-2147483648) ≤ (p15).toInt ∧ (p15).toInt ≤ 2147483647) (hp16 : (-2147483648) ≤ (p16).toInt ∧ (p16).toInt ≤ 2147483647) (hp17 : 0 ≤ (p17).toInt ∧ (p17).toInt ≤ 10) (htf0_84 : f0 84 = p17) (rf0 : AL f0) (sz : Nat) : MI l yX12_whyNot cX12_whyNot 3 .int { frames := 4, cells := 0, slots := 0, locals := 92 } [.ref h0, .long j0] D cy (wk_e1f596b07 cy h0 p0 h1 w0 w1 w2 p1 p2 p3 p4 p5 p6 p7 p8 p9 p10 p11 w3 w4 w5 w6 w7 p12 p13 w8 w9 w10 p14 p15 w11 w12 w13 w14 w15 p16 w16 w17 w18 h1 f0) sz (fun r u => (0 ≤ r.toInt ∧ r.toInt ≤ 2) ∧ ((r : Int32).toInt = 1 ∨ (r : Int32).toInt = 2 ∨ (-1 ≤ (j0 : Int64).toInt ∧ (j0 : Int64).toInt ≤ 209)) ∧ True) (fun u => (wk_e1f596b07 cy h0 p0 h1 w0 w1 w2 p1 p2 p3 p4 p5 p6 p7 p8 p9 p10 p11 w3 w4 w5 w6 w7 p12 p13 w8 w9 w10 p14 p15 w11 w12 w13 w14 w15 p16 w16 w17 w18 h1 f0)) 0 0 := by
  refine q_ent (own := RX12) (by decide) rfl (Nat.le_of_ble_eq_true rfl) (fun p e s m below meth c ls X hr hlk hnm hK hT h hA hl => ?_)
  obtain ⟨hx, hb, hml, hown, ht⟩ := id X
  replace hl : lv_has ls 3 [(0, .ref h0), (1, .long j0)] := hl
  refine lv_lload_n hx hb dX12_whyNot_0 rfl (lv_at hl 1 rfl) ?_
  refine lv_ldc2 hx hb hown (ht _ wm_7_42) dX12_whyNot_1 ?_
  refine W.lcmp hx hb dX12_whyNot_4 ?_
  refine lv_if_ne (tgt := 10) hx hb dX12_whyNot_5 (by decide) (fun c_1 => ?_) (fun c_1 => ?_)
  · replace c_1 := j_neq (x := j0) (y := (-1)) rfl (show ((-1) : Int64).toInt = -1 by decide) c_1
    refine lv_lload_n hx hb dX12_whyNot_10 rfl (lv_at hl 1 rfl) ?_
    refine lv_lconst (v := 0) hx hb dX12_whyNot_11 (by decide) ?_
    refine lv_ldc2 hx hb hown (ht _ wm_7_19) dX12_whyNot_12 ?_
    refine q_callSi (rest := []) (wr := (wk_e1f596b07 cy h0 p0 h1 w0 w1 w2 p1 p2 p3 p4 p5 p6 p7 p8 p9 p10 p11 w3 w4 w5 w6 w7 p12 p13 w8 w9 w10 p14 p15 w11 w12 w13 w14 w15 p16 w16 w17 w18 h1 f0)) X hK hT hA h (fun sz => gX12_within_00c7897 l D cy j0 (0 : Int64) (99 : Int64) (j_rng _) ⟨by decide +kernel, by decide +kernel⟩ ⟨by decide +kernel, by decide +kernel⟩ sz) wm_6_50 wm_6_52 wm_1_12 hd_X12_within wm_6_51 ⟨Nat.le_of_ble_eq_true rfl, Nat.le_of_ble_eq_true rfl⟩ hl.1 rfl (Nat.le_of_ble_eq_true rfl) dX12_whyNot_15 ⟨Nat.le_of_ble_eq_true rfl, Nat.le_of_ble_eq_true rfl⟩ [] [0, 1] rfl rfl (by decide) rfl rfl (fun r_2 u_2 H locs w_2 h_2 => ?_)
    clear h
    obtain ⟨wr_2, y2_0, _⟩ := w_2
    have lq_2_1 : (0 : Int64).toInt = 0 := (by decide)
    have lq_2_2 : (99 : Int64).toInt = 99 := (by decide)
    replace h_2 : qW D _ _ (wk_e1f596b07 cy h0 p0 h1 w0 w1 w2 p1 p2 p3 p4 p5 p6 p7 p8 p9 p10 p11 w3 w4 w5 w6 w7 p12 p13 w8 w9 w10 p14 p15 w11 w12 w13 w14 w15 p16 w16 w17 w18 h1 f0) _ _ := h_2
    refine lv_if_eq (tgt := 36) hx hb dX12_whyNot_18 (by decide) (fun c_3 => ?_) (fun c_3 => ?_)
    · replace c_3 := i_eq (x := r_2) (y := 0) rfl (show (0 : Int32).toInt = 0 by decide) c_3
      replace y2_0 := a10_0 y2_0 c_3
      refine lv_lload_n hx hb dX12_whyNot_36 rfl (lv_at hl 1 rfl) ?_
      refine lv_ldc2 hx hb hown (ht _ wm_7_43) dX12_whyNot_37 ?_
      refine lv_ldc2 hx hb hown (ht _ wm_7_44) dX12_whyNot_40 ?_
      refine q_callSi (rest := []) (wr := (wk_e1f596b07 cy h0 p0 h1 w0 w1 w2 p1 p2 p3 p4 p5 p6 p7 p8 p9 p10 p11 w3 w4 w5 w6 w7 p12 p13 w8 w9 w10 p14 p15 w11 w12 w13 w14 w15 p16 w16 w17 w18 h1 f0)) X hK hT hA h_2 (fun sz => gX12_within_00c7897 l D cy j0 (100 : Int64) (109 : Int64) (j_rng _) ⟨by decide +kernel, by decide +kernel⟩ ⟨by decide +kernel, by decide +kernel⟩ sz) wm_6_50 wm_6_52 wm_1_12 hd_X12_within wm_6_51 ⟨Nat.le_of_ble_eq_true rfl, Nat.le_of_ble_eq_true rfl⟩ hl.1 rfl (Nat.le_of_ble_eq_true rfl) dX12_whyNot_43 ⟨Nat.le_of_ble_eq_true rfl, Nat.le_of_ble_eq_true rfl⟩ [] [0, 1] rfl rfl (by decide) rfl rfl (fun r_4 u_4 H locs w_4 h_4 => ?_)
      clear h_2
      obtain ⟨wr_4, y4_0, _⟩ := w_4
      have lq_4_1 : (100 : Int64).toInt = 100 := (by decide)
      have lq_4_2 : (109 : Int64).toInt = 109 := (by decide)
      replace h_4 : qW D _ _ (wk_e1f596b07 cy h0 p0 h1 w0 w1 w2 p1 p2 p3 p4 p5 p6 p7 p8 p9 p10 p11 w3 w4 w5 w6 w7 p12 p13 w8 w9 w10 p14 p15 w11 w12 w13 w14 w15 p16 w16 w17 w18 h1 f0) _ _ := h_4
      refine lv_if_eq (tgt := 60) hx hb dX12_whyNot_46 (by decide) (fun c_5 => ?_) (fun c_5 => ?_)
      · replace c_5 := i_eq (x := r_4) (y := 0) rfl (show (0 : Int32).toInt = 0 by decide) c_5
        replace y4_0 := a10_0 y4_0 c_5
        refine lv_lload_n hx hb dX12_whyNot_60 rfl (lv_at hl 1 rfl) ?_
        refine lv_ldc2 hx hb hown (ht _ wm_7_45) dX12_whyNot_61 ?_
        refine lv_ldc2 hx hb hown (ht _ wm_7_46) dX12_whyNot_64 ?_
        refine q_callSi (rest := []) (wr := (wk_e1f596b07 cy h0 p0 h1 w0 w1 w2 p1 p2 p3 p4 p5 p6 p7 p8 p9 p10 p11 w3 w4 w5 w6 w7 p12 p13 w8 w9 w10 p14 p15 w11 w12 w13 w14 w15 p16 w16 w17 w18 h1 f0)) X hK hT hA h_4 (fun sz => gX12_within_00c7897 l D cy j0 (200 : Int64) (209 : Int64) (j_rng _) ⟨by decide +kernel, by decide +kernel⟩ ⟨by decide +kernel, by decide +kernel⟩ sz) wm_6_50 wm_6_52 wm_1_12 hd_X12_within wm_6_51 ⟨Nat.le_of_ble_eq_true rfl, Nat.le_of_ble_eq_true rfl⟩ hl.1 rfl (Nat.le_of_ble_eq_true rfl) dX12_whyNot_67 ⟨Nat.le_of_ble_eq_true rfl, Nat.le_of_ble_eq_true rfl⟩ [] [0, 1] rfl rfl (by decide) rfl rfl (fun r_6 u_6 H locs w_6 h_6 => ?_)
        clear h_4
        obtain ⟨wr_6, y6_0, _⟩ := w_6
        have lq_6_1 : (200 : Int64).toInt = 200 := (by decide)
        have lq_6_2 : (209 : Int64).toInt = 209 := (by decide)
        replace h_6 : qW D _ _ (wk_e1f596b07 cy h0 p0 h1 w0 w1 w2 p1 p2 p3 p4 p5 p6 p7 p8 p9 p10 p11 w3 w4 w5 w6 w7 p12 p13 w8 w9 w10 p14 p15 w11 w12 w13 w14 w15 p16 w16 w17 w18 h1 f0) _ _ := h_6
        refine lv_if_eq (tgt := 86) hx hb dX12_whyNot_70 (by decide) (fun c_7 => ?_) (fun c_7 => ?_)
        · replace c_7 := i_eq (x := r_6) (y := 0) rfl (show (0 : Int32).toInt = 0 by decide) c_7
          replace y6_0 := a10_0 y6_0 c_7
          refine lv_iconst (v := 1) hx hb dX12_whyNot_86 (by decide) ?_
          exact q_iret X hr hlk hK h_6 rfl (fun _ => 0, fun _ _ => 0, fun _ _ => 0) ⟨⟨by decide +kernel, by decide +kernel⟩, (show (1 : Int32).toInt = 1 ∨ (1 : Int32).toInt = 2 ∨ (-1 ≤ (j0 : Int64).toInt ∧ (j0 : Int64).toInt ≤ 209) from by have q0 : (1 : Int32).toInt = 1 := (by decide); (first | (clear y2_0 y4_0 y6_0; omega) | omega)), trivial⟩ [0, 1] rfl rfl dX12_whyNot_87 (Nat.le_of_ble_eq_true rfl) (Nat.le_of_ble_eq_true rfl)
        · replace c_7 := i_ne (x := r_6) (y := 0) rfl (show (0 : Int32).toInt = 0 by decide) c_7
          replace y6_0 := a10_1 y6_0 c_7
          refine lv_aload_n hx hb dX12_whyNot_73 rfl (lv_at hl 0 rfl) ?_
          refine lv_lload_n hx hb dX12_whyNot_74 rfl (lv_at hl 1 rfl) ?_
          refine lv_ldc2 hx hb hown (ht _ wm_7_45) dX12_whyNot_75 ?_
          refine lv_lsub hx hb dX12_whyNot_78 ?_
          obtain ⟨z_8, ez_8, hz_8⟩ := e_subJ (x := j0) (y := 200) rfl (show (200 : Int64).toInt = 200 by decide) (by omega) (by omega)
          refine q_cl z_8 ez_8 ?_
          clear ez_8
          refine lv_iconst (v := 0) hx hb dX12_whyNot_79 (by decide) ?_
          refine q_callVi (rest := []) (wr := []) X hK hT hA h_6 (fun sz => gX12_whySend_e93c98d l D cy h0 h1 z_8 (0 : Int32) p0 w0 w1 w2 p1 p2 p3 p4 p5 p6 p7 p8 p9 p10 p11 w3 w4 w5 w6 w7 p12 p13 w8 w9 w10 p14 p15 w11 w12 w13 w14 w15 p16 w16 w17 w18 f0 p17 ⟨by omega, by omega⟩ ⟨by decide +kernel, by decide +kernel⟩ hp0 hp1 hp2 hp3 hp4 (i_rng _) hp6 (i_rng _) (i_rng _) (i_rng _) (i_rng _) (i_rng _) (i_rng _) (i_rng _) (i_rng _) (i_rng _) (i_rng _) hp17 htf0_84 rf0 sz) wm_7_4 wm_7_7 wm_1_12 hd_X12_whySend wm_7_6 wp_6_5 (ci := 12) (q0 := 0) rfl rfl ⟨Nat.le_of_ble_eq_true rfl, Nat.le_of_ble_eq_true rfl⟩ hl.1 rfl (Nat.le_of_ble_eq_true rfl) dX12_whyNot_80 ⟨Nat.le_of_ble_eq_true rfl, Nat.le_of_ble_eq_true rfl⟩ [0, 1] [] rfl rfl (by decide) rfl rfl (fun r_9 u_9 H locs w_9 h_9 => ?_)
          clear h_6
          obtain ⟨wr_9, _⟩ := w_9
          replace h_9 : qW D _ _ (wk_e1f596b07 cy h0 p0 h1 w0 w1 w2 p1 p2 p3 p4 p5 p6 p7 p8 p9 p10 p11 w3 w4 w5 w6 w7 p12 p13 w8 w9 w10 p14 p15 w11 w12 w13 w14 w15 p16 w16 w17 w18 h1 f0) _ _ := h_9
          refine lv_goto (tgt := 87) hx hb dX12_whyNot_83 (by decide) ?_
          exact q_iret X hr hlk hK h_9 rfl (fun _ => 0, fun _ _ => 0, fun _ _ => 0) ⟨wr_9, (show (r_9 : Int32).toInt = 1 ∨ (r_9 : Int32).toInt = 2 ∨ (-1 ≤ (j0 : Int64).toInt ∧ (j0 : Int64).toInt ≤ 209) from by (first | (clear y2_0 y4_0; omega) | omega)), trivial⟩ [0, 1] rfl rfl dX12_whyNot_87 (Nat.le_of_ble_eq_true rfl) (Nat.le_of_ble_eq_true rfl)
      · replace c_5 := i_ne (x := r_4) (y := 0) rfl (show (0 : Int32).toInt = 0 by decide) c_5
        replace y4_0 := a10_1 y4_0 c_5
        refine lv_aload_n hx hb dX12_whyNot_49 rfl (lv_at hl 0 rfl) ?_
        refine lv_lload_n hx hb dX12_whyNot_50 rfl (lv_at hl 1 rfl) ?_
        refine lv_ldc2 hx hb hown (ht _ wm_7_43) dX12_whyNot_51 ?_
        refine lv_lsub hx hb dX12_whyNot_54 ?_
        obtain ⟨z_10, ez_10, hz_10⟩ := e_subJ (x := j0) (y := 100) rfl (show (100 : Int64).toInt = 100 by decide) (by omega) (by omega)
        refine q_cl z_10 ez_10 ?_
        clear ez_10
        refine lv_iconst (v := 1) hx hb dX12_whyNot_55 (by decide) ?_
        refine q_callVi (rest := []) (wr := []) X hK hT hA h_4 (fun sz => gX12_whySend_e93c98d l D cy h0 h1 z_10 (1 : Int32) p0 w0 w1 w2 p1 p2 p3 p4 p5 p6 p7 p8 p9 p10 p11 w3 w4 w5 w6 w7 p12 p13 w8 w9 w10 p14 p15 w11 w12 w13 w14 w15 p16 w16 w17 w18 f0 p17 ⟨by omega, by omega⟩ ⟨by decide +kernel, by decide +kernel⟩ hp0 hp1 hp2 hp3 hp4 (i_rng _) hp6 (i_rng _) (i_rng _) (i_rng _) (i_rng _) (i_rng _) (i_rng _) (i_rng _) (i_rng _) (i_rng _) (i_rng _) hp17 htf0_84 rf0 sz) wm_7_4 wm_7_7 wm_1_12 hd_X12_whySend wm_7_6 wp_6_5 (ci := 12) (q0 := 0) rfl rfl ⟨Nat.le_of_ble_eq_true rfl, Nat.le_of_ble_eq_true rfl⟩ hl.1 rfl (Nat.le_of_ble_eq_true rfl) dX12_whyNot_56 ⟨Nat.le_of_ble_eq_true rfl, Nat.le_of_ble_eq_true rfl⟩ [0, 1] [] rfl rfl (by decide) rfl rfl (fun r_11 u_11 H locs w_11 h_11 => ?_)
        clear h_4
        obtain ⟨wr_11, _⟩ := w_11
        replace h_11 : qW D _ _ (wk_e1f596b07 cy h0 p0 h1 w0 w1 w2 p1 p2 p3 p4 p5 p6 p7 p8 p9 p10 p11 w3 w4 w5 w6 w7 p12 p13 w8 w9 w10 p14 p15 w11 w12 w13 w14 w15 p16 w16 w17 w18 h1 f0) _ _ := h_11
        exact q_iret X hr hlk hK h_11 rfl (fun _ => 0, fun _ _ => 0, fun _ _ => 0) ⟨wr_11, (show (r_11 : Int32).toInt = 1 ∨ (r_11 : Int32).toInt = 2 ∨ (-1 ≤ (j0 : Int64).toInt ∧ (j0 : Int64).toInt ≤ 209) from by (first | (clear y2_0; omega) | omega)), trivial⟩ [0, 1] rfl rfl dX12_whyNot_59 (Nat.le_of_ble_eq_true rfl) (Nat.le_of_ble_eq_true rfl)
    · replace c_3 := i_ne (x := r_2) (y := 0) rfl (show (0 : Int32).toInt = 0 by decide) c_3
      replace y2_0 := a10_1 y2_0 c_3
      refine lv_aload_n hx hb dX12_whyNot_21 rfl (lv_at hl 0 rfl) ?_
      refine lv_lload_n hx hb dX12_whyNot_22 rfl (lv_at hl 1 rfl) ?_
      refine lv_ldc2 hx hb hown (ht _ wm_7_24) dX12_whyNot_23 ?_
      refine lv_ldiv hx hb dX12_whyNot_26 (by decide) ?_
      obtain ⟨z_12, ez_12, hz_12⟩ := e_divJ (x := j0) (y := 10) rfl (show (10 : Int64).toInt = 10 by decide) (by omega) (by omega)
      refine q_cl z_12 ez_12 ?_
      clear ez_12
      refine lv_lload_n hx hb dX12_whyNot_27 rfl (lv_at hl 1 rfl) ?_
      refine lv_ldc2 hx hb hown (ht _ wm_7_24) dX12_whyNot_28 ?_
      refine lv_lrem hx hb dX12_whyNot_31 (by decide) ?_
      obtain ⟨z_13, ez_13, hz_13⟩ := e_remJ (x := j0) (y := 10) rfl (show (10 : Int64).toInt = 10 by decide) (by omega) (by omega)
      refine q_cl z_13 ez_13 ?_
      clear ez_13
      refine q_callVi (rest := []) (wr := []) X hK hT hA h_2 (fun sz => gX12_whyTalk_1a9da66 l D cy h0 h1 z_12 z_13 p0 w0 w1 w2 p1 p2 p3 p4 p5 p6 p7 p8 p9 p10 p11 w3 w4 w5 w6 w7 p12 p13 w8 w9 w10 p14 p15 w11 w12 w13 w14 w15 p16 w16 w17 w18 f0 p17 ⟨by omega, by omega⟩ ⟨by omega, by omega⟩ hp0 hp1 hp2 hp3 hp4 (i_rng _) hp6 (i_rng _) (i_rng _) (i_rng _) (i_rng _) (i_rng _) (i_rng _) (i_rng _) (i_rng _) (i_rng _) (i_rng _) hp17 htf0_84 rf0 sz) wm_6_216 wm_6_219 wm_1_12 hd_X12_whyTalk wm_6_218 wp_5_15 (ci := 12) (q0 := 0) rfl rfl ⟨Nat.le_of_ble_eq_true rfl, Nat.le_of_ble_eq_true rfl⟩ hl.1 rfl (Nat.le_of_ble_eq_true rfl) dX12_whyNot_32 ⟨Nat.le_of_ble_eq_true rfl, Nat.le_of_ble_eq_true rfl⟩ [0, 1] [] rfl rfl (by decide) rfl rfl (fun r_14 u_14 H locs w_14 h_14 => ?_)
      clear h_2
      obtain ⟨wr_14, y14_0, _⟩ := w_14
      replace h_14 : qW D _ _ (wk_e1f596b07 cy h0 p0 h1 w0 w1 w2 p1 p2 p3 p4 p5 p6 p7 p8 p9 p10 p11 w3 w4 w5 w6 w7 p12 p13 w8 w9 w10 p14 p15 w11 w12 w13 w14 w15 p16 w16 w17 w18 h1 f0) _ _ := h_14
      exact q_iret X hr hlk hK h_14 rfl (fun _ => 0, fun _ _ => 0, fun _ _ => 0) ⟨wr_14, (show (r_14 : Int32).toInt = 1 ∨ (r_14 : Int32).toInt = 2 ∨ (-1 ≤ (j0 : Int64).toInt ∧ (j0 : Int64).toInt ≤ 209) from by (first | (clear y14_0; omega) | omega)), trivial⟩ [0, 1] rfl rfl dX12_whyNot_35 (Nat.le_of_ble_eq_true rfl) (Nat.le_of_ble_eq_true rfl)
  · replace c_1 := j_eq (x := j0) (y := (-1)) rfl (show ((-1) : Int64).toInt = -1 by decide) c_1
    refine lv_iconst (v := 0) hx hb dX12_whyNot_8 (by decide) ?_
    exact q_iret X hr hlk hK h rfl (fun _ => 0, fun _ _ => 0, fun _ _ => 0) ⟨⟨by decide +kernel, by decide +kernel⟩, (show (0 : Int32).toInt = 1 ∨ (0 : Int32).toInt = 2 ∨ (-1 ≤ (j0 : Int64).toInt ∧ (j0 : Int64).toInt ≤ 209) from by have q0 : (0 : Int32).toInt = 0 := (by decide); omega), trivial⟩ [0, 1] rfl rfl dX12_whyNot_9 (Nat.le_of_ble_eq_true rfl) (Nat.le_of_ble_eq_true rfl)
set_option maxHeartbeats 4000000 in
set_option maxRecDepth 100000 in
theorem gX12_does_b30d22d (l : Launch) (D : va_G) (cy : Nat → ClassId) (h0 : Nat) (h1 : Nat) (h2 : Nat) (h3 : Nat) (h4 : Nat) (p0 : Int32) (p1 : Int32) (w0 : Value) (w1 : Value) (w2 : Value) (p2 : Int32) (p3 : Int32) (p4 : Int32) (p5 : Int32) (p6 : Int32) (p7 : Int32) (p8 : Int32) (p9 : Int32) (p10 : Int32) (p11 : Int32) (p12 : Int32) (w3 : Value) (w4 : Value) (p13 : Int32) (p14 : Int32) (w5 : Value) (w6 : Value) (w7 : Value) (p15 : Int32) (p16 : Int32) (w8 : Value) (w9 : Value) (w10 : Value) (w11 : Value) (w12 : Value) (p17 : Int32) (w13 : Value) (w14 : Value) (w15 : Value) (f0 : Nat → Int32) (p18 : Int32) (f1 : Nat → Int32) (f2 : Nat → Int32) (f3 : Nat → Int32) (hp0 : (-1) ≤ (p0).toInt ∧ (p0).toInt ≤ 209) (hp1 : 0 ≤ (p1).toInt ∧ (p1).toInt ≤ 0) (hp2 : 0 ≤ (p2).toInt ∧ (p2).toInt ≤ 900) (hp3 : 0 ≤ (p3).toInt ∧ (p3).toInt ≤ 900) (hp4 : 0 ≤ (p4).toInt ∧ (p4).toInt ≤ 900) (hp5 : 0 ≤ (p5).toInt ∧ (p5).toInt ≤ 900) (hp6 : (-2147483648) ≤ (p6).toInt ∧ (p6).toInt ≤ 2147483647) (hp7 : 0 ≤ (p7).toInt ∧ (p7).toInt ≤ 999) (hp8 : (-2147483648) ≤ (p8).toInt ∧ (p8).toInt ≤ 2147483647) (hp9 : (-2147483648) ≤ (p9).toInt ∧ (p9).toInt ≤ 2147483647) (hp10 : (-2147483648) ≤ (p10).toInt ∧ (p10).toInt ≤ 2147483647) (hp11 : (-2147483648) ≤ (p11).toInt ∧ (p11).toInt ≤ 2147483647) (hp12 : (-2147483648) ≤ (p12).toInt ∧ (p12).toInt ≤ 2147483647) (hp13 : (-2147483648) ≤ (p13).toInt ∧ (p13).toInt ≤ 2147483647) (hp14 : (-2147483648) ≤ (p14).toInt ∧ (p14).toInt ≤ 2147483647) (hp15 : (-2147483648) ≤ (p15).toInt ∧ (p15).toInt ≤ 2147483647) (hp16 : (-2147483648) ≤ (p16).toInt ∧ (p16).toInt ≤ 2147483647) (hp17 : (-2147483648) ≤ (p17).toInt ∧ (p17).toInt ≤ 2147483647) (hp18 : 0 ≤ (p18).toInt ∧ (p18).toInt ≤ 10) (htf0_84 : f0 84 = p18) (rf0 : AL f0) (rf3 : RG f3 3 0 9) (hpre0 : -1 ≤ (p0 : Int32).toInt) (sz : Nat) : MV l yX12_does cX12_does 2 { frames := 4, cells := 0, slots := 0, locals := 96 } [.ref h0, .int p0] D cy (wk_2bcb35d7d cy h0 p1 h1 w0 w1 w2 p2 p3 p4 p5 p6 p7 p8 p9 p10 p11 p12 h2 h3 h4 w3 w4 p13 p14 w5 w6 w7 p15 p16 w8 w9 w10 w11 w12 p17 w13 w14 w15 h1 f0 h2 f1 h3 f2 h4 f3) sz (fun u => AL (u.2.1 0) ∧ RG (u.2.1 3) 3 0 9 ∧ (u.2.1 0) 84 = p18 ∧ True) (fun u => (wk_2bcb35d7d cy h0 p1 h1 w0 w1 w2 p2 p3 p4 p5 p6 p7 p8 p9 p10 p11 p12 h2 h3 h4 w3 w4 p13 p14 w5 w6 w7 p15 p16 w8 w9 w10 w11 w12 p17 w13 w14 w15 h1 (u.2.1 0) h2 (u.2.1 1) h3 (u.2.1 2) h4 (u.2.1 3))) 0 0 := by
  refine q_ent (own := RX12) (by decide) rfl (Nat.le_of_ble_eq_true rfl) (fun p e s m below meth c ls X hr hlk hnm hK hT h hA hl => ?_)
  obtain ⟨hx, hb, hml, hown, ht⟩ := id X
  replace hl : lv_has ls 2 [(0, .ref h0), (1, .int p0)] := hl
  refine lv_iload_n hx hb dX12_does_0 rfl (lv_at hl 1 rfl) ?_
  refine lv_iconst (v := (-1)) hx hb dX12_does_1 (by decide) ?_
  refine q_jn (pc2 := 56) (fun H locs ls st => ∃ v56_1_0 : Nat → Int32, ∃ v56_1_1 : Nat → Int32, ∃ v56_1_2 : Nat → Int32, ∃ v56_1_3 : Nat → Int32, v56_1_0 84 = p18 ∧ AL v56_1_0 ∧ RG v56_1_3 3 0 9 ∧ st = [] ∧ qW D (va_A (wk_2bcb35d7d cy h0 p1 h1 w0 w1 w2 p2 p3 p4 p5 p6 p7 p8 p9 p10 p11 p12 h2 h3 h4 w3 w4 p13 p14 w5 w6 w7 p15 p16 w8 w9 w10 w11 w12 p17 w13 w14 w15 h1 f0 h2 f1 h3 f2 h4 f3) sz) s.heap (wk_2bcb35d7d cy h0 p1 h1 w0 w1 w2 p2 p3 p4 p5 p6 p7 p8 p9 p10 p11 p12 h2 h3 h4 w3 w4 p13 p14 w5 w6 w7 p15 p16 w8 w9 w10 w11 w12 p17 w13 w14 w15 h1 v56_1_0 h2 v56_1_1 h3 v56_1_2 h4 v56_1_3) H locs ∧ lv_has ls 2 [(0, .ref h0), (1, .int p0)]) (fun H locs ls st hP => ?_) (fun J_56 => ?_)
  · obtain ⟨v56_1_0, v56_1_1, v56_1_2, v56_1_3, trv56_1_0_84, rv56_1_0, rv56_1_3, rfl, h, hl⟩ := hP
    exact q_vret X hr hlk hK h (fun _ => 0, (vcons v56_1_0 (vcons v56_1_1 (vcons v56_1_2 (vcons v56_1_3 (fun _ => (fun _ => 0)))))), fun _ _ => 0) ⟨rv56_1_0, (rg_wide rv56_1_3 (by decide) (by decide)), trv56_1_0_84, trivial⟩ [0, 1, 2, 3, 4] rfl rfl dX12_does_56 (Nat.le_of_ble_eq_true rfl) (Nat.le_of_ble_eq_true rfl)
  · skip
    refine lv_icmp_ne (tgt := 19) hx hb dX12_does_2 (by decide) (fun c_2 => ?_) (fun c_2 => ?_)
    · replace c_2 := i_ne (x := p0) (y := (-1)) rfl (show ((-1) : Int32).toInt = -1 by decide) c_2
      refine lv_iload_n hx hb dX12_does_19 rfl (lv_at hl 1 rfl) ?_
      refine lv_bipush (v := 100) hx hb dX12_does_20 (by decide) ?_
      refine lv_icmp_ge (tgt := 40) hx hb dX12_does_22 (by decide) (fun c_3 => ?_) (fun c_3 => ?_)
      · replace c_3 := i_le (x := 100) (y := p0) (show (100 : Int32).toInt = 100 by decide) rfl c_3
        refine lv_aload_n hx hb dX12_does_40 rfl (lv_at hl 0 rfl) ?_
        refine q_get X hK h 0 rfl rfl wf_12 1 (by decide) rfl wm_5_171 dX12_does_41 ?_
        refine lv_bipush (v := 53) hx hb dX12_does_44 (by decide) ?_
        refine lv_dup2_11 hx hb dX12_does_46 rfl rfl ?_
        refine q_iald X hK h 1 rfl (q_in (by decide +kernel)) dX12_does_47 ?_
        refine q_any (fun z_4 hz_4 => ?_)
        refine lv_iconst (v := 1) hx hb dX12_does_48 (by decide) ?_
        refine lv_iload_n hx hb dX12_does_49 rfl (lv_at hl 1 rfl) ?_
        refine lv_bipush (v := 100) hx hb dX12_does_50 (by decide) ?_
        refine lv_irem hx hb dX12_does_52 (by decide) ?_
        obtain ⟨z_5, ez_5, hz_5⟩ := e_rem (x := p0) (y := 100) rfl (show (100 : Int32).toInt = 100 by decide) (by omega) (by omega)
        refine q_c z_5 ez_5 ?_
        clear ez_5
        refine lv_ishl hx hb dX12_does_53 ?_
        refine q_any (fun z_6 hz_6 => ?_)
        refine lv_ixor hx hb dX12_does_54 ?_
        refine q_any (fun z_7 hz_7 => ?_)
        refine q_iast X hK h 1 rfl (q_in (by decide +kernel)) dX12_does_55 (fun H locs h_9 => ?_)
        clear h
        replace h_9 : qW D _ _ (wk_2bcb35d7d cy h0 p1 h1 w0 w1 w2 p2 p3 p4 p5 p6 p7 p8 p9 p10 p11 p12 h2 h3 h4 w3 w4 p13 p14 w5 w6 w7 p15 p16 w8 w9 w10 w11 w12 p17 w13 w14 w15 h1 (upd f0 (Int32.toNatClampNeg 53) z_7) h2 f1 h3 f2 h4 f3) _ _ := h_9
        obtain ⟨F_8, eF_8, rF_8⟩ := al_upd rf0 (i := 53) (x := z_7) (show (53 : Int32).toInt = 53 by decide) rfl (by omega)
        have trF_8_84 := (tr_ne eF_8 htf0_84 (show (53 : Int32).toInt = 53 by decide) (by omega))
        rw [eF_8] at h_9
        clear eF_8
        exact J_56 _ _ _ _ ⟨F_8, f1, f2, f3, trF_8_84, rF_8, (rg_wide rf3 (by decide) (by decide)), rfl, h_9, (lv_sub hl [0, 1] rfl)⟩
      · replace c_3 := i_nle (x := 100) (y := p0) (show (100 : Int32).toInt = 100 by decide) rfl c_3
        refine lv_aload_n hx hb dX12_does_25 rfl (lv_at hl 0 rfl) ?_
        refine lv_iload_n hx hb dX12_does_26 rfl (lv_at hl 1 rfl) ?_
        refine lv_bipush (v := 10) hx hb dX12_does_27 (by decide) ?_
        refine lv_idiv hx hb dX12_does_29 (by decide) ?_
        obtain ⟨z_10, ez_10, hz_10⟩ := e_div (x := p0) (y := 10) rfl (show (10 : Int32).toInt = 10 by decide) (by omega) (by omega)
        refine q_c z_10 ez_10 ?_
        clear ez_10
        refine lv_iload_n hx hb dX12_does_30 rfl (lv_at hl 1 rfl) ?_
        refine lv_bipush (v := 10) hx hb dX12_does_31 (by decide) ?_
        refine lv_irem hx hb dX12_does_33 (by decide) ?_
        obtain ⟨z_11, ez_11, hz_11⟩ := e_rem (x := p0) (y := 10) rfl (show (10 : Int32).toInt = 10 by decide) (by omega) (by omega)
        refine q_c z_11 ez_11 ?_
        clear ez_11
        refine q_callVv (rest := []) (wr := []) X hK hT hA h (fun sz => gX12_talks1_48107b5 l D cy h0 h1 h2 h3 h4 z_10 z_11 p1 w0 w1 w2 p2 p3 p4 p5 p6 p7 p8 p9 p10 p11 p12 w3 w4 p13 p14 w5 w6 w7 p15 p16 w8 w9 w10 w11 w12 p17 w13 w14 w15 f0 p18 f1 f2 f3 ⟨by omega, by omega⟩ ⟨by omega, by omega⟩ hp1 hp2 hp3 hp4 hp5 (i_rng _) hp7 (i_rng _) (i_rng _) (i_rng _) (i_rng _) (i_rng _) (i_rng _) (i_rng _) (i_rng _) (i_rng _) (i_rng _) hp18 htf0_84 rf0 (rg_wide rf3 (by decide) (by decide)) sz) wm_6_224 wm_6_227 wm_1_12 hd_X12_talks1 wm_6_226 wp_6_1 (ci := 12) (q0 := 0) rfl rfl ⟨Nat.le_of_ble_eq_true rfl, Nat.le_of_ble_eq_true rfl⟩ hl.1 rfl (Nat.le_of_ble_eq_true rfl) dX12_does_34 ⟨Nat.le_of_ble_eq_true rfl, Nat.le_of_ble_eq_true rfl⟩ [0, 1, 2, 3, 4] [] rfl rfl (by decide) rfl rfl (fun u_12 H locs w_12 h_12 => ?_)
        clear h
        obtain ⟨w12_0, w12_1, w12_2, _⟩ := w_12
        replace h_12 : qW D _ _ (wk_2bcb35d7d cy h0 p1 h1 w0 w1 w2 p2 p3 p4 p5 p6 p7 p8 p9 p10 p11 p12 h2 h3 h4 w3 w4 p13 p14 w5 w6 w7 p15 p16 w8 w9 w10 w11 w12 p17 w13 w14 w15 h1 (u_12.2.1 0) h2 (u_12.2.1 1) h3 (u_12.2.1 2) h4 (u_12.2.1 3)) _ _ := h_12
        refine lv_goto (tgt := 56) hx hb dX12_does_37 (by decide) ?_
        exact J_56 _ _ _ _ ⟨(u_12.2.1 0), (u_12.2.1 1), (u_12.2.1 2), (u_12.2.1 3), w12_2, w12_0, (rg_wide w12_1 (by decide) (by decide)), rfl, h_12, (lv_sub hl [0, 1] rfl)⟩
    · replace c_2 := i_eq (x := p0) (y := (-1)) rfl (show ((-1) : Int32).toInt = -1 by decide) c_2
      refine lv_aload_n hx hb dX12_does_5 rfl (lv_at hl 0 rfl) ?_
      refine q_get X hK h 0 rfl rfl wf_12 1 (by decide) rfl wm_5_171 dX12_does_6 ?_
      refine lv_bipush (v := 52) hx hb dX12_does_9 (by decide) ?_
      refine lv_dup2_11 hx hb dX12_does_11 rfl rfl ?_
      refine q_iald X hK h 1 rfl (q_in (by decide +kernel)) dX12_does_12 ?_
      refine q_any (fun z_13 hz_13 => ?_)
      refine lv_iconst (v := 1) hx hb dX12_does_13 (by decide) ?_
      refine lv_iadd hx hb dX12_does_14 ?_
      refine q_any (fun z_14 hz_14 => ?_)
      refine q_iast X hK h 1 rfl (q_in (by decide +kernel)) dX12_does_15 (fun H locs h_16 => ?_)
      clear h
      replace h_16 : qW D _ _ (wk_2bcb35d7d cy h0 p1 h1 w0 w1 w2 p2 p3 p4 p5 p6 p7 p8 p9 p10 p11 p12 h2 h3 h4 w3 w4 p13 p14 w5 w6 w7 p15 p16 w8 w9 w10 w11 w12 p17 w13 w14 w15 h1 (upd f0 (Int32.toNatClampNeg 52) z_14) h2 f1 h3 f2 h4 f3) _ _ := h_16
      obtain ⟨F_15, eF_15, rF_15⟩ := al_upd rf0 (i := 52) (x := z_14) (show (52 : Int32).toInt = 52 by decide) rfl (by omega)
      have trF_15_84 := (tr_ne eF_15 htf0_84 (show (52 : Int32).toInt = 52 by decide) (by omega))
      rw [eF_15] at h_16
      clear eF_15
      refine lv_goto (tgt := 56) hx hb dX12_does_16 (by decide) ?_
      exact J_56 _ _ _ _ ⟨F_15, f1, f2, f3, trF_15_84, rF_15, (rg_wide rf3 (by decide) (by decide)), rfl, h_16, (lv_sub hl [0, 1] rfl)⟩
set_option maxHeartbeats 4000000 in
set_option maxRecDepth 100000 in
theorem gX12_tells_f7a3d50 (l : Launch) (D : va_G) (cy : Nat → ClassId) (h0 : Nat) (h1 : Nat) (h2 : Nat) (h3 : Nat) (h4 : Nat) (h5 : Nat) (h6 : Nat) (p0 : Int32) (p1 : Int32) (w0 : Value) (w1 : Value) (w2 : Value) (p2 : Int32) (p3 : Int32) (p4 : Int32) (p5 : Int32) (p6 : Int32) (p7 : Int32) (p8 : Int32) (p9 : Int32) (p10 : Int32) (p11 : Int32) (p12 : Int32) (w3 : Value) (w4 : Value) (p13 : Int32) (p14 : Int32) (w5 : Value) (w6 : Value) (w7 : Value) (p15 : Int32) (p16 : Int32) (w8 : Value) (w9 : Value) (w10 : Value) (w11 : Value) (w12 : Value) (p17 : Int32) (w13 : Value) (f0 : Nat → Int32) (p18 : Int32) (f1 : Nat → Int32) (f2 : Nat → Int32) (f3 : Nat → Int32) (f4 : Nat → Int32) (g0 : Nat → Int64) (hp0 : 0 ≤ (p0).toInt ∧ (p0).toInt ≤ 3) (hp1 : 0 ≤ (p1).toInt ∧ (p1).toInt ≤ 0) (hp2 : 0 ≤ (p2).toInt ∧ (p2).toInt ≤ 900) (hp3 : 0 ≤ (p3).toInt ∧ (p3).toInt ≤ 900) (hp4 : 0 ≤ (p4).toInt ∧ (p4).toInt ≤ 900) (hp5 : 0 ≤ (p5).toInt ∧ (p5).toInt ≤ 900) (hp6 : (-2147483648) ≤ (p6).toInt ∧ (p6).toInt ≤ 2147483647) (hp7 : 0 ≤ (p7).toInt ∧ (p7).toInt ≤ 999) (hp8 : (-2147483648) ≤ (p8).toInt ∧ (p8).toInt ≤ 2147483647) (hp9 : (-2147483648) ≤ (p9).toInt ∧ (p9).toInt ≤ 2147483647) (hp10 : (-2147483648) ≤ (p10).toInt ∧ (p10).toInt ≤ 2147483647) (hp11 : (-2147483648) ≤ (p11).toInt ∧ (p11).toInt ≤ 2147483647) (hp12 : (-2147483648) ≤ (p12).toInt ∧ (p12).toInt ≤ 2147483647) (hp13 : (-2147483648) ≤ (p13).toInt ∧ (p13).toInt ≤ 2147483647) (hp14 : (-2147483648) ≤ (p14).toInt ∧ (p14).toInt ≤ 2147483647) (hp15 : (-2147483648) ≤ (p15).toInt ∧ (p15).toInt ≤ 2147483647) (hp16 : (-2147483648) ≤ (p16).toInt ∧ (p16).toInt ≤ 2147483647) (hp17 : (-2147483648) ≤ (p17).toInt ∧ (p17).toInt ≤ 2147483647) (hp18 : 0 ≤ (p18).toInt ∧ (p18).toInt ≤ 10) (htf0_84 : f0 84 = p18) (rf0 : AL f0) (rf3 : RG f3 3 0 9) (rf4 : RG f4 4 0 40) (sz : Nat) : MI l yX12_tells cX12_tells 3 .int { frames := 5, cells := 0, slots := 0, locals := 117 } [.ref h0, .int p0] D cy (wk_b38797f14 cy h0 p1 h1 w0 w1 w2 p2 p3 p4 p5 p6 p7 p8 p9 p10 p11 p12 h2 h3 h4 w3 w4 p13 p14 w5 w6 w7 p15 p16 w8 w9 w10 w11 w12 p17 w13 h5 h6 h1 f0 h2 f1 h3 f2 h4 f3 h5 f4 h6 g0) sz (fun r u => (0 ≤ r.toInt ∧ r.toInt ≤ 40) ∧ (0 ≤ (u.2.1 0 0).toInt ∧ (u.2.1 0 0).toInt ≤ 2) ∧ AL (u.2.1 1) ∧ RG (u.2.1 4) 3 0 9 ∧ (u.2.1 1) 84 = p18 ∧ True) (fun u => (wk_b38797f14 cy h0 p1 h1 w0 w1 w2 p2 p3 p4 p5 p6 p7 p8 p9 p10 p11 p12 h2 h3 h4 w3 w4 (u.2.1 0 0) p14 w5 w6 w7 p15 p16 w8 w9 w10 w11 w12 p17 w13 h5 h6 h1 (u.2.1 1) h2 (u.2.1 2) h3 (u.2.1 3) h4 (u.2.1 4) h5 f4 h6 g0)) 0 0 := by
  refine q_ent (own := RX12) (by decide) rfl (Nat.le_of_ble_eq_true rfl) (fun p e s m below meth c ls X hr hlk hnm hK hT h hA hl => ?_)
  obtain ⟨hx, hb, hml, hown, ht⟩ := id X
  replace hl : lv_has ls 3 [(0, .ref h0), (1, .int p0)] := hl
  refine lv_aload_n hx hb dX12_tells_0 rfl (lv_at hl 0 rfl) ?_
  refine lv_iconst (v := 0) hx hb dX12_tells_1 (by decide) ?_
  refine q_put (v := .int 0) X hK h 0 rfl rfl wf_12 tyX12 tyX12_ok nmX12 21 (by decide) wm_5_191 rfl rfl rfl (Nat.le_of_ble_eq_true rfl) dX12_tells_2 (fun H locs h_1 => ?_)
  clear h
  replace h_1 : qW D _ _ (wk_b38797f14 cy h0 p1 h1 w0 w1 w2 p2 p3 p4 p5 p6 p7 p8 p9 p10 p11 p12 h2 h3 h4 w3 w4 0 p14 w5 w6 w7 p15 p16 w8 w9 w10 w11 w12 p17 w13 h5 h6 h1 f0 h2 f1 h3 f2 h4 f3 h5 f4 h6 g0) _ _ := h_1
  refine lv_iconst (v := 0) hx hb dX12_tells_5 (by decide) ?_
  refine lv_istore_n (lv' := [(2, .int 0), (0, .ref h0), (1, .int p0)]) hx hb dX12_tells_6 rfl hl (by decide) rfl (fun ls_2 hl_2 => ?_)
  clear hl
  refine q_wl (fun (q : Int32 × Int32) H locs ls => match q with | (v7_3_0, v7_3_1) => ∃ v7_3_2 : Nat → Int32, ∃ v7_3_3 : Nat → Int32, ∃ v7_3_4 : Nat → Int32, ∃ v7_3_5 : Nat → Int32, (0 ≤ (v7_3_0).toInt ∧ (v7_3_0).toInt ≤ 40) ∧ (0 ≤ (v7_3_1).toInt ∧ (v7_3_1).toInt ≤ 0) ∧ v7_3_2 84 = p18 ∧ AL v7_3_2 ∧ RG v7_3_5 3 0 9 ∧ qW D (va_A (wk_b38797f14 cy h0 p1 h1 w0 w1 w2 p2 p3 p4 p5 p6 p7 p8 p9 p10 p11 p12 h2 h3 h4 w3 w4 p13 p14 w5 w6 w7 p15 p16 w8 w9 w10 w11 w12 p17 w13 h5 h6 h1 f0 h2 f1 h3 f2 h4 f3 h5 f4 h6 g0) sz) s.heap (wk_b38797f14 cy h0 p1 h1 w0 w1 w2 p2 p3 p4 p5 p6 p7 p8 p9 p10 p11 p12 h2 h3 h4 w3 w4 v7_3_1 p14 w5 w6 w7 p15 p16 w8 w9 w10 w11 w12 p17 w13 h5 h6 h1 v7_3_2 h2 v7_3_3 h3 v7_3_4 h4 v7_3_5 h5 f4 h6 g0) H locs ∧ lv_has ls 3 [(0, .ref h0), (1, .int p0), (2, .int v7_3_0)]) (fun (q : Int32 × Int32) => match q with | (v7_3_0, v7_3_1) => (41 - (v7_3_0).toInt).toNat) (fun q_7 ih_7 H locs ls hP => ?_) (0, 0) ⟨f0, f1, f2, f3, ⟨by decide +kernel, by decide +kernel⟩, ⟨by decide +kernel, by decide +kernel⟩, htf0_84, rf0, (rg_wide rf3 (by decide) (by decide)), h_1, (lv_sub hl_2 [1, 2, 0] rfl)⟩
  obtain ⟨v7_3_0, v7_3_1⟩ := q_7
  obtain ⟨v7_3_2, v7_3_3, v7_3_4, v7_3_5, hv7_3_0, hv7_3_1, trv7_3_2_84, rv7_3_2, rv7_3_5, h, hl⟩ := hP
  refine lv_iload_n hx hb dX12_tells_7 rfl (lv_at hl 2 rfl) ?_
  refine lv_aload_n hx hb dX12_tells_8 rfl (lv_at hl 0 rfl) ?_
  refine q_get X hK h 0 rfl rfl wf_12 35 (by decide) rfl wm_5_205 dX12_tells_9 ?_
  refine lv_iload_n hx hb dX12_tells_12 rfl (lv_at hl 1 rfl) ?_
  refine q_iald X hK h 5 rfl (i_in rfl (by omega) (by omega)) dX12_tells_13 ?_
  obtain ⟨z_4, ez_4, hz_4⟩ := rg_get rf4 (x := p0) rfl (by omega) (by omega)
  refine q_c z_4 ez_4 ?_
  clear ez_4
  refine lv_icmp_ge (tgt := 67) hx hb dX12_tells_14 (by decide) (fun c_5 => ?_) (fun c_5 => ?_)
  · replace c_5 := i_le (x := z_4) (y := v7_3_0) rfl rfl c_5
    refine lv_aload_n hx hb dX12_tells_67 rfl (lv_at hl 0 rfl) ?_
    refine q_get X hK h 0 rfl rfl wf_12 35 (by decide) rfl wm_5_205 dX12_tells_68 ?_
    refine lv_iload_n hx hb dX12_tells_71 rfl (lv_at hl 1 rfl) ?_
    refine q_iald X hK h 5 rfl (i_in rfl (by omega) (by omega)) dX12_tells_72 ?_
    obtain ⟨z_6, ez_6, hz_6⟩ := rg_get rf4 (x := p0) rfl (by omega) (by omega)
    refine q_c z_6 ez_6 ?_
    clear ez_6
    exact q_iret X hr hlk hK h rfl (fun _ => 0, (vcons (fun _ => v7_3_1) (vcons v7_3_2 (vcons v7_3_3 (vcons v7_3_4 (vcons v7_3_5 (fun _ => (fun _ => 0))))))), fun _ _ => 0) ⟨⟨by omega, by omega⟩, (bw hv7_3_1 (by decide) (by decide)), rv7_3_2, (rg_wide rv7_3_5 (by decide) (by decide)), trv7_3_2_84, trivial⟩ [0, 1, 2, 3, 4, 5, 6] rfl rfl dX12_tells_73 (Nat.le_of_ble_eq_true rfl) (Nat.le_of_ble_eq_true rfl)
  · replace c_5 := i_nle (x := z_4) (y := v7_3_0) rfl rfl c_5
    refine lv_aload_n hx hb dX12_tells_17 rfl (lv_at hl 0 rfl) ?_
    refine lv_aload_n hx hb dX12_tells_18 rfl (lv_at hl 0 rfl) ?_
    refine lv_aload_n hx hb dX12_tells_19 rfl (lv_at hl 0 rfl) ?_
    refine q_get X hK h 0 rfl rfl wf_12 36 (by decide) rfl wm_5_206 dX12_tells_20 ?_
    refine lv_bipush (v := 40) hx hb dX12_tells_23 (by decide) ?_
    refine lv_iload_n hx hb dX12_tells_25 rfl (lv_at hl 1 rfl) ?_
    refine lv_imul hx hb dX12_tells_26 ?_
    obtain ⟨z_7, ez_7, hz_7⟩ := e_mul (x := 40) (y := p0) (show (40 : Int32).toInt = 40 by decide) rfl (by omega) (by omega)
    refine q_c z_7 ez_7 ?_
    clear ez_7
    refine lv_iload_n hx hb dX12_tells_27 rfl (lv_at hl 2 rfl) ?_
    refine lv_iadd hx hb dX12_tells_28 ?_
    obtain ⟨z_8, ez_8, hz_8⟩ := e_add (x := z_7) (y := v7_3_0) rfl rfl (by omega) (by omega)
    refine q_c z_8 ez_8 ?_
    clear ez_8
    refine q_lald X hK h 6 rfl (i_in rfl (by omega) (by omega)) dX12_tells_29 ?_
    obtain ⟨z_9, ez_9, hz_9⟩ := e_anyJ (g0 z_8.toNatClampNeg)
    refine q_cl z_9 ez_9 ?_
    refine q_callVi (rest := [.ref h0]) (wr := [(h2, .inl (cy 1, 900, .inl v7_3_3)), (h3, .inl (cy 1, 11, .inl v7_3_4)), (h4, .inl (cy 1, 3, .inl v7_3_5)), (h5, .inl (cy 1, 4, .inl f4)), (h6, .inl (cy 2, 160, .inr (.inl g0)))]) X hK hT hA h (fun sz => gX12_whyNot_70f43d9 l D cy h0 h1 z_9 p1 w0 w1 w2 p2 p3 p4 p5 p6 p7 p8 p9 p10 p11 p12 (.ref h2) (.ref h3) (.ref h4) w3 w4 v7_3_1 p14 w5 w6 w7 p15 p16 w8 w9 w10 w11 w12 p17 w13 (.ref h5) (.ref h6) v7_3_2 p18 (j_rng _) hp1 hp2 hp3 hp4 hp5 (i_rng _) hp7 (i_rng _) (i_rng _) (i_rng _) (i_rng _) (i_rng _) (i_rng _) (i_rng _) (i_rng _) (i_rng _) (i_rng _) hp18 trv7_3_2_84 rv7_3_2 sz) wm_7_38 wm_7_41 wm_1_12 hd_X12_whyNot wm_7_40 wp_6_8 (ci := 12) (q0 := 0) rfl rfl ⟨Nat.le_of_ble_eq_true rfl, Nat.le_of_ble_eq_true rfl⟩ hl.1 rfl (Nat.le_of_ble_eq_true rfl) dX12_tells_30 ⟨Nat.le_of_ble_eq_true rfl, Nat.le_of_ble_eq_true rfl⟩ [0, 1] [2, 3, 4, 5, 6] rfl rfl (by decide) rfl rfl (fun r_10 u_10 H locs w_10 h_10 => ?_)
    clear h
    obtain ⟨wr_10, y10_0, _⟩ := w_10
    replace h_10 : qW D _ _ (wk_e9822dc44 cy h2 v7_3_3 h3 v7_3_4 h4 v7_3_5 h5 f4 h6 g0 h0 p1 h1 w0 w1 w2 p2 p3 p4 p5 p6 p7 p8 p9 p10 p11 p12 h2 h3 h4 w3 w4 v7_3_1 p14 w5 w6 w7 p15 p16 w8 w9 w10 w11 w12 p17 w13 h5 h6 h1 v7_3_2) _ _ := h_10
    refine q_put (v := .int r_10) X hK h_10 5 rfl rfl wf_12 tyX12 tyX12_ok nmX12 21 (by decide) wm_5_191 rfl rfl rfl (Nat.le_of_ble_eq_true rfl) dX12_tells_33 (fun H locs h_11 => ?_)
    clear h_10
    replace h_11 : qW D _ _ (wk_e9822dc44 cy h2 v7_3_3 h3 v7_3_4 h4 v7_3_5 h5 f4 h6 g0 h0 p1 h1 w0 w1 w2 p2 p3 p4 p5 p6 p7 p8 p9 p10 p11 p12 h2 h3 h4 w3 w4 r_10 p14 w5 w6 w7 p15 p16 w8 w9 w10 w11 w12 p17 w13 h5 h6 h1 v7_3_2) _ _ := h_11
    refine lv_aload_n hx hb dX12_tells_36 rfl (lv_at hl 0 rfl) ?_
    refine q_get X hK h_11 5 rfl rfl wf_12 21 (by decide) rfl wm_5_191 dX12_tells_37 ?_
    refine lv_if_eq (tgt := 45) hx hb dX12_tells_40 (by decide) (fun c_12 => ?_) (fun c_12 => ?_)
    · replace c_12 := i_eq (x := r_10) (y := 0) rfl (show (0 : Int32).toInt = 0 by decide) c_12
      refine lv_aload_n hx hb dX12_tells_45 rfl (lv_at hl 0 rfl) ?_
      refine lv_aload_n hx hb dX12_tells_46 rfl (lv_at hl 0 rfl) ?_
      refine q_get X hK h_11 5 rfl rfl wf_12 36 (by decide) rfl wm_5_206 dX12_tells_47 ?_
      refine lv_bipush (v := 40) hx hb dX12_tells_50 (by decide) ?_
      refine lv_iload_n hx hb dX12_tells_52 rfl (lv_at hl 1 rfl) ?_
      refine lv_imul hx hb dX12_tells_53 ?_
      obtain ⟨z_13, ez_13, hz_13⟩ := e_mul (x := 40) (y := p0) (show (40 : Int32).toInt = 40 by decide) rfl (by omega) (by omega)
      refine q_c z_13 ez_13 ?_
      clear ez_13
      refine lv_iload_n hx hb dX12_tells_54 rfl (lv_at hl 2 rfl) ?_
      refine lv_iadd hx hb dX12_tells_55 ?_
      obtain ⟨z_14, ez_14, hz_14⟩ := e_add (x := z_13) (y := v7_3_0) rfl rfl (by omega) (by omega)
      refine q_c z_14 ez_14 ?_
      clear ez_14
      refine q_lald X hK h_11 4 rfl (i_in rfl (by omega) (by omega)) dX12_tells_56 ?_
      obtain ⟨z_15, ez_15, hz_15⟩ := e_anyJ (g0 z_14.toNatClampNeg)
      refine q_cl z_15 ez_15 ?_
      have dd_16 := ld2J ez_9 ez_15 (by omega)
      refine lv_l2i hx hb dX12_tells_57 rfl ?_
      obtain ⟨z_17, ez_17, hz_17⟩ := e_l2i (x := z_15) rfl (by omega) (by omega)
      refine q_c z_17 ez_17 ?_
      clear ez_17
      refine q_callVv (rest := []) (wr := (wk_f48cbbbc0 cy h5 f4 h6 g0)) X hK hT hA h_11 (fun sz => gX12_does_b30d22d l D cy h0 h1 h2 h3 h4 z_17 p1 w0 w1 w2 p2 p3 p4 p5 p6 p7 p8 p9 p10 p11 p12 w3 w4 r_10 p14 w5 w6 w7 p15 p16 w8 w9 w10 w11 w12 p17 w13 (.ref h5) (.ref h6) v7_3_2 p18 v7_3_3 v7_3_4 v7_3_5 ⟨by omega, by omega⟩ hp1 hp2 hp3 hp4 hp5 (i_rng _) hp7 (i_rng _) (i_rng _) (i_rng _) (i_rng _) (i_rng _) (i_rng _) (i_rng _) (i_rng _) (i_rng _) (i_rng _) hp18 trv7_3_2_84 rv7_3_2 (rg_wide rv7_3_5 (by decide) (by decide)) (by (first | (clear y10_0; omega) | omega)) sz) wm_7_47 wm_7_50 wm_1_12 hd_X12_does wm_7_49 wp_6_9 (ci := 12) (q0 := 0) rfl rfl ⟨Nat.le_of_ble_eq_true rfl, Nat.le_of_ble_eq_true rfl⟩ hl.1 rfl (Nat.le_of_ble_eq_true rfl) dX12_tells_58 ⟨Nat.le_of_ble_eq_true rfl, Nat.le_of_ble_eq_true rfl⟩ [5, 6, 0, 1, 2] [3, 4] rfl rfl (by decide) rfl rfl (fun u_18 H locs w_18 h_18 => ?_)
      clear h_11
      obtain ⟨w18_0, w18_1, w18_2, _⟩ := w_18
      replace h_18 : qW D _ _ [(h5, .inl (cy 1, 4, .inl f4)), (h6, .inl (cy 2, 160, .inr (.inl g0))), (h0, .inr (12, [.int p1, .ref h1, w0, w1, w2, .int p2, .int p3, .int p4, .int p5, .int p6, .int p7, .int p8, .int p9, .int p10, .int p11, .int p12, .ref h2, .ref h3, .ref h4, w3, w4, .int r_10, .int p14, w5, w6, w7, .int p15, .int p16, w8, w9, w10, w11, w12, .int p17, w13, .ref h5, .ref h6])), (h1, .inl (cy 1, 3918, .inl (u_18.2.1 0))), (h2, .inl (cy 1, 900, .inl (u_18.2.1 1))), (h3, .inl (cy 1, 11, .inl (u_18.2.1 2))), (h4, .inl (cy 1, 3, .inl (u_18.2.1 3)))] _ _ := h_18
      obtain ⟨z_19, ez_19, hz_19⟩ := e_add (x := v7_3_0) (y := Int32.ofInt 1) rfl (b := 1) (by decide) (by omega) (by omega)
      refine lv_iinc (v := z_19) (lv' := [(2, .int z_19), (0, .ref h0), (1, .int p0)]) hx hb dX12_tells_61 hl (k := 2) rfl ez_19 (by decide) rfl (fun ls_19 hl_19 => ?_)
      clear hl
      refine lv_goto (tgt := 7) hx hb dX12_tells_64 (by decide) ?_
      exact ih_7 (z_19, r_10) (by show (41 - (z_19).toInt).toNat < (41 - (v7_3_0).toInt).toNat; omega) _ _ _ ⟨(u_18.2.1 0), (u_18.2.1 1), (u_18.2.1 2), (u_18.2.1 3), ⟨by omega, by omega⟩, ⟨by omega, by omega⟩, w18_2, w18_0, (rg_wide w18_1 (by decide) (by decide)), (q_re h_18 [2, 3, 4, 5, 6, 0, 1] rfl rfl), (lv_sub hl_19 [1, 2, 0] rfl)⟩
    · replace c_12 := i_ne (x := r_10) (y := 0) rfl (show (0 : Int32).toInt = 0 by decide) c_12
      refine lv_iload_n hx hb dX12_tells_43 rfl (lv_at hl 2 rfl) ?_
      exact q_iret X hr hlk hK h_11 rfl (fun _ => 0, (vcons (fun _ => r_10) (vcons v7_3_2 (vcons v7_3_3 (vcons v7_3_4 (vcons v7_3_5 (fun _ => (fun _ => 0))))))), fun _ _ => 0) ⟨hv7_3_0, wr_10, rv7_3_2, (rg_wide rv7_3_5 (by decide) (by decide)), trv7_3_2_84, trivial⟩ [5, 6, 0, 1, 2, 3, 4] rfl rfl dX12_tells_44 (Nat.le_of_ble_eq_true rfl) (Nat.le_of_ble_eq_true rfl)
set_option maxHeartbeats 4000000 in
set_option maxRecDepth 100000 in
theorem gX12_laysOpposed_6a814f8 (l : Launch) (D : va_G) (cy : Nat → ClassId) (h0 : Nat) (h1 : Nat) (h2 : Nat) (h3 : Nat) (h4 : Nat) (p0 : Int32) (p1 : Int32) (w0 : Value) (w1 : Value) (w2 : Value) (p2 : Int32) (p3 : Int32) (p4 : Int32) (p5 : Int32) (p6 : Int32) (p7 : Int32) (p8 : Int32) (p9 : Int32) (p10 : Int32) (p11 : Int32) (p12 : Int32) (w3 : Value) (w4 : Value) (p13 : Int32) (p14 : Int32) (w5 : Value) (w6 : Value) (w7 : Value) (p15 : Int32) (p16 : Int32) (w8 : Value) (w9 : Value) (w10 : Value) (w11 : Value) (w12 : Value) (p17 : Int32) (w13 : Value) (w14 : Value) (w15 : Value) (f0 : Nat → Int32) (p18 : Int32) (f1 : Nat → Int32) (f2 : Nat → Int32) (f3 : Nat → Int32) (hp0 : (-2147483648) ≤ (p0).toInt ∧ (p0).toInt ≤ 2147483647) (hp1 : 0 ≤ (p1).toInt ∧ (p1).toInt ≤ 0) (hp2 : 0 ≤ (p2).toInt ∧ (p2).toInt ≤ 900) (hp3 : 0 ≤ (p3).toInt ∧ (p3).toInt ≤ 900) (hp4 : 0 ≤ (p4).toInt ∧ (p4).toInt ≤ 900) (hp5 : 0 ≤ (p5).toInt ∧ (p5).toInt ≤ 900) (hp6 : (-2147483648) ≤ (p6).toInt ∧ (p6).toInt ≤ 2147483647) (hp7 : 0 ≤ (p7).toInt ∧ (p7).toInt ≤ 999) (hp8 : (-2147483648) ≤ (p8).toInt ∧ (p8).toInt ≤ 2147483647) (hp9 : (-2147483648) ≤ (p9).toInt ∧ (p9).toInt ≤ 2147483647) (hp10 : (-2147483648) ≤ (p10).toInt ∧ (p10).toInt ≤ 2147483647) (hp11 : (-2147483648) ≤ (p11).toInt ∧ (p11).toInt ≤ 2147483647) (hp12 : (-2147483648) ≤ (p12).toInt ∧ (p12).toInt ≤ 2147483647) (hp13 : (-2147483648) ≤ (p13).toInt ∧ (p13).toInt ≤ 2147483647) (hp14 : (-2147483648) ≤ (p14).toInt ∧ (p14).toInt ≤ 2147483647) (hp15 : (-2147483648) ≤ (p15).toInt ∧ (p15).toInt ≤ 2147483647) (hp16 : (-2147483648) ≤ (p16).toInt ∧ (p16).toInt ≤ 2147483647) (hp17 : (-2147483648) ≤ (p17).toInt ∧ (p17).toInt ≤ 2147483647) (hp18 : 0 ≤ (p18).toInt ∧ (p18).toInt ≤ 10) (htf0_84 : f0 84 = p18) (rf0 : AL f0) (rf3 : RG f3 10 0 1023) (sz : Nat) : MV l yX12_laysOpposed cX12_laysOpposed 4 { frames := 3, cells := 0, slots := 0, locals := 71 } [.ref h0, .int p0] D cy (wk_8b19a8a79 cy h0 p1 h1 w0 w1 w2 p2 p3 p4 p5 p6 p7 p8 p9 p10 p11 p12 h2 h3 w3 h4 w4 p13 p14 w5 w6 w7 p15 p16 w8 w9 w10 w11 w12 p17 w13 w14 w15 h1 f0 h2 f1 h3 f2 h4 f3) sz (fun u => RG (u.2.1 2) 10 0 1023 ∧ True) (fun u => (wk_8b19a8a79 cy h0 p1 h1 w0 w1 w2 p2 p3 p4 p5 p6 p7 p8 p9 p10 p11 p12 h2 h3 w3 h4 w4 p13 p14 w5 w6 w7 p15 p16 w8 w9 w10 w11 w12 p17 w13 w14 w15 h1 f0 h2 (u.2.1 0) h3 (u.2.1 1) h4 (u.2.1 2))) 0 0 := by
  refine q_ent (own := RX12) (by decide) rfl (Nat.le_of_ble_eq_true rfl) (fun p e s m below meth c ls X hr hlk hnm hK hT h hA hl => ?_)
  obtain ⟨hx, hb, hml, hown, ht⟩ := id X
  replace hl : lv_has ls 4 [(0, .ref h0), (1, .int p0)] := hl
  refine lv_iconst (v := 0) hx hb dX12_laysOpposed_0 (by decide) ?_
  refine lv_istore_n (lv' := [(2, .int 0), (0, .ref h0), (1, .int p0)]) hx hb dX12_laysOpposed_1 rfl hl (by decide) rfl (fun ls_1 hl_1 => ?_)
  clear hl
  refine q_wl (fun (v2_2_0 : Int32) H locs ls => ∃ v2_2_1 : Nat → Int32, (0 ≤ (v2_2_0).toInt ∧ (v2_2_0).toInt ≤ 10) ∧ RG v2_2_1 10 0 1023 ∧ qW D (va_A (wk_8b19a8a79 cy h0 p1 h1 w0 w1 w2 p2 p3 p4 p5 p6 p7 p8 p9 p10 p11 p12 h2 h3 w3 h4 w4 p13 p14 w5 w6 w7 p15 p16 w8 w9 w10 w11 w12 p17 w13 w14 w15 h1 f0 h2 f1 h3 f2 h4 f3) sz) s.heap (wk_8b19a8a79 cy h0 p1 h1 w0 w1 w2 p2 p3 p4 p5 p6 p7 p8 p9 p10 p11 p12 h2 h3 w3 h4 w4 p13 p14 w5 w6 w7 p15 p16 w8 w9 w10 w11 w12 p17 w13 w14 w15 h1 f0 h2 f1 h3 f2 h4 v2_2_1) H locs ∧ lv_has ls 4 [(0, .ref h0), (1, .int p0), (2, .int v2_2_0)]) (fun (v2_2_0 : Int32) => (11 - (v2_2_0).toInt).toNat) (fun q_2 ih_2 H locs ls hP => ?_) 0 ⟨f3, ⟨by decide +kernel, by decide +kernel⟩, (rg_wide rf3 (by decide) (by decide)), h, (lv_sub hl_1 [1, 2, 0] rfl)⟩
  obtain ⟨v2_2_0, rfl⟩ : ∃ z, z = q_2 := ⟨_, rfl⟩
  obtain ⟨v2_2_1, hv2_2_0, rv2_2_1, h, hl⟩ := hP
  refine lv_iload_n hx hb dX12_laysOpposed_2 rfl (lv_at hl 2 rfl) ?_
  refine lv_aload_n hx hb dX12_laysOpposed_3 rfl (lv_at hl 0 rfl) ?_
  refine q_get X hK h 0 rfl rfl wf_12 1 (by decide) rfl wm_5_171 dX12_laysOpposed_4 ?_
  refine lv_iconst (v := 2) hx hb dX12_laysOpposed_7 (by decide) ?_
  refine q_iald X hK h 1 rfl (q_in (by decide +kernel)) dX12_laysOpposed_8 ?_
  obtain ⟨z_3, ez_3, hz_3⟩ := al_P rf0 (x := 2) (show (2 : Int32).toInt = 2 by decide) (by omega) (by omega)
  refine q_c z_3 ez_3 ?_
  clear ez_3
  refine lv_icmp_ge (tgt := 25) hx hb dX12_laysOpposed_9 (by decide) (fun c_4 => ?_) (fun c_4 => ?_)
  · replace c_4 := i_le (x := z_3) (y := v2_2_0) rfl rfl c_4
    refine lv_iconst (v := 0) hx hb dX12_laysOpposed_25 (by decide) ?_
    refine lv_istore_n (lv' := [(2, .int 0), (0, .ref h0), (1, .int p0)]) hx hb dX12_laysOpposed_26 rfl hl (by decide) rfl (fun ls_5 hl_5 => ?_)
    clear hl
    refine q_wl (fun (v27_6_0 : Int32) H locs ls => ∃ v27_6_1 : Nat → Int32, ∃ v27_6_2 : Nat → Int32, ∃ v27_6_3 : Nat → Int32, (0 ≤ (v27_6_0).toInt ∧ (v27_6_0).toInt ≤ 10) ∧ RG v27_6_3 10 0 1023 ∧ qW D (va_A (wk_8b19a8a79 cy h0 p1 h1 w0 w1 w2 p2 p3 p4 p5 p6 p7 p8 p9 p10 p11 p12 h2 h3 w3 h4 w4 p13 p14 w5 w6 w7 p15 p16 w8 w9 w10 w11 w12 p17 w13 w14 w15 h1 f0 h2 f1 h3 f2 h4 f3) sz) s.heap (wk_8b19a8a79 cy h0 p1 h1 w0 w1 w2 p2 p3 p4 p5 p6 p7 p8 p9 p10 p11 p12 h2 h3 w3 h4 w4 p13 p14 w5 w6 w7 p15 p16 w8 w9 w10 w11 w12 p17 w13 w14 w15 h1 f0 h2 v27_6_1 h3 v27_6_2 h4 v27_6_3) H locs ∧ lv_has ls 4 [(0, .ref h0), (1, .int p0), (2, .int v27_6_0)]) (fun (v27_6_0 : Int32) => (11 - (v27_6_0).toInt).toNat) (fun q_27 ih_27 H locs ls hP => ?_) 0 ⟨f1, f2, v2_2_1, ⟨by decide +kernel, by decide +kernel⟩, (rg_wide rv2_2_1 (by decide) (by decide)), h, (lv_sub hl_5 [1, 2, 0] rfl)⟩
    obtain ⟨v27_6_0, rfl⟩ : ∃ z, z = q_27 := ⟨_, rfl⟩
    obtain ⟨v27_6_1, v27_6_2, v27_6_3, hv27_6_0, rv27_6_3, h, hl⟩ := hP
    refine lv_iload_n hx hb dX12_laysOpposed_27 rfl (lv_at hl 2 rfl) ?_
    refine lv_aload_n hx hb dX12_laysOpposed_28 rfl (lv_at hl 0 rfl) ?_
    refine q_get X hK h 0 rfl rfl wf_12 1 (by decide) rfl wm_5_171 dX12_laysOpposed_29 ?_
    refine lv_iconst (v := 2) hx hb dX12_laysOpposed_32 (by decide) ?_
    refine q_iald X hK h 1 rfl (q_in (by decide +kernel)) dX12_laysOpposed_33 ?_
    obtain ⟨z_7, ez_7, hz_7⟩ := al_P rf0 (x := 2) (show (2 : Int32).toInt = 2 by decide) (by omega) (by omega)
    refine q_c z_7 ez_7 ?_
    clear ez_7
    refine lv_icmp_ge (tgt := 93) hx hb dX12_laysOpposed_34 (by decide) (fun c_8 => ?_) (fun c_8 => ?_)
    · replace c_8 := i_le (x := z_7) (y := v27_6_0) rfl rfl c_8
      exact q_vret X hr hlk hK h (fun _ => 0, (vcons v27_6_1 (vcons v27_6_2 (vcons v27_6_3 (fun _ => (fun _ => 0))))), fun _ _ => 0) ⟨(rg_wide rv27_6_3 (by decide) (by decide)), trivial⟩ [0, 1, 2, 3, 4] rfl rfl dX12_laysOpposed_93 (Nat.le_of_ble_eq_true rfl) (Nat.le_of_ble_eq_true rfl)
    · replace c_8 := i_nle (x := z_7) (y := v27_6_0) rfl rfl c_8
      refine lv_iconst (v := 0) hx hb dX12_laysOpposed_37 (by decide) ?_
      refine lv_istore_n (lv' := [(3, .int 0), (0, .ref h0), (1, .int p0), (2, .int v27_6_0)]) hx hb dX12_laysOpposed_38 rfl hl (by decide) rfl (fun ls_9 hl_9 => ?_)
      clear hl
      refine q_wl (fun (v39_10_0 : Int32) H locs ls => ∃ v39_10_1 : Nat → Int32, ∃ v39_10_2 : Nat → Int32, ∃ v39_10_3 : Nat → Int32, (0 ≤ (v39_10_0).toInt ∧ (v39_10_0).toInt ≤ 9) ∧ RG v39_10_1 10 0 1023 ∧ qW D (va_A (wk_8b19a8a79 cy h0 p1 h1 w0 w1 w2 p2 p3 p4 p5 p6 p7 p8 p9 p10 p11 p12 h2 h3 w3 h4 w4 p13 p14 w5 w6 w7 p15 p16 w8 w9 w10 w11 w12 p17 w13 w14 w15 h1 f0 h2 f1 h3 f2 h4 f3) sz) s.heap (wk_8b19a8a79 cy h0 p1 h1 w0 w1 w2 p2 p3 p4 p5 p6 p7 p8 p9 p10 p11 p12 h2 h3 w3 h4 w4 p13 p14 w5 w6 w7 p15 p16 w8 w9 w10 w11 w12 p17 w13 w14 w15 h1 f0 h2 v39_10_2 h3 v39_10_3 h4 v39_10_1) H locs ∧ lv_has ls 4 [(0, .ref h0), (1, .int p0), (2, .int v27_6_0), (3, .int v39_10_0)]) (fun (v39_10_0 : Int32) => (10 - (v39_10_0).toInt).toNat) (fun q_39 ih_39 H locs ls hP => ?_) 0 ⟨v27_6_3, v27_6_1, v27_6_2, ⟨by decide +kernel, by decide +kernel⟩, (rg_wide rv27_6_3 (by decide) (by decide)), h, (lv_sub hl_9 [1, 2, 3, 0] rfl)⟩
      obtain ⟨v39_10_0, rfl⟩ : ∃ z, z = q_39 := ⟨_, rfl⟩
      obtain ⟨v39_10_1, v39_10_2, v39_10_3, hv39_10_0, rv39_10_1, h, hl⟩ := hP
      refine lv_iload_n hx hb dX12_laysOpposed_39 rfl (lv_at hl 3 rfl) ?_
      refine lv_iload_n hx hb dX12_laysOpposed_40 rfl (lv_at hl 2 rfl) ?_
      refine lv_icmp_ge (tgt := 87) hx hb dX12_laysOpposed_41 (by decide) (fun c_11 => ?_) (fun c_11 => ?_)
      · replace c_11 := i_le (x := v27_6_0) (y := v39_10_0) rfl rfl c_11
        obtain ⟨z_12, ez_12, hz_12⟩ := e_add (x := v27_6_0) (y := Int32.ofInt 1) rfl (b := 1) (by decide) (by omega) (by omega)
        refine lv_iinc (v := z_12) (lv' := [(2, .int z_12), (0, .ref h0), (1, .int p0), (3, .int v39_10_0)]) hx hb dX12_laysOpposed_87 hl (k := 2) rfl ez_12 (by decide) rfl (fun ls_12 hl_12 => ?_)
        clear hl
        refine lv_goto (tgt := 27) hx hb dX12_laysOpposed_90 (by decide) ?_
        exact ih_27 z_12 (by show (11 - (z_12).toInt).toNat < (11 - (v27_6_0).toInt).toNat; omega) _ _ _ ⟨v39_10_2, v39_10_3, v39_10_1, ⟨by omega, by omega⟩, (rg_wide rv39_10_1 (by decide) (by decide)), h, (lv_sub hl_12 [1, 2, 0] rfl)⟩
      · replace c_11 := i_nle (x := v27_6_0) (y := v39_10_0) rfl rfl c_11
        refine lv_aload_n hx hb dX12_laysOpposed_44 rfl (lv_at hl 0 rfl) ?_
        refine lv_iload_n hx hb dX12_laysOpposed_45 rfl (lv_at hl 2 rfl) ?_
        refine lv_iload_n hx hb dX12_laysOpposed_46 rfl (lv_at hl 3 rfl) ?_
        refine lv_iload_n hx hb dX12_laysOpposed_47 rfl (lv_at hl 1 rfl) ?_
        refine q_callVi (rest := []) (wr := [(h4, .inl (cy 1, 10, .inl v39_10_1))]) X hK hT hA h (fun sz => gX12_areOpposed_e7e6c1a l D cy h0 h1 h2 h3 v27_6_0 v39_10_0 p0 p1 w0 w1 w2 p2 p3 p4 p5 p6 p7 p8 p9 p10 p11 p12 w3 (.ref h4) w4 p13 p14 w5 w6 w7 p15 p16 w8 w9 w10 w11 w12 p17 w13 w14 w15 f0 p18 v39_10_2 v39_10_3 ⟨by omega, by omega⟩ hv39_10_0 (i_rng _) hp1 hp2 hp3 hp4 hp5 (i_rng _) hp7 (i_rng _) (i_rng _) (i_rng _) (i_rng _) (i_rng _) (i_rng _) (i_rng _) (i_rng _) (i_rng _) (i_rng _) hp18 htf0_84 rf0 sz) wm_6_187 wm_6_190 wm_1_12 hd_X12_areOpposed wm_6_189 wp_5_11 (ci := 12) (q0 := 0) rfl rfl ⟨Nat.le_of_ble_eq_true rfl, Nat.le_of_ble_eq_true rfl⟩ hl.1 rfl (Nat.le_of_ble_eq_true rfl) dX12_laysOpposed_48 ⟨Nat.le_of_ble_eq_true rfl, Nat.le_of_ble_eq_true rfl⟩ [0, 1, 2, 3] [4] rfl rfl (by decide) rfl rfl (fun r_13 u_13 H locs w_13 h_13 => ?_)
        clear h
        obtain ⟨wr_13, _⟩ := w_13
        replace h_13 : qW D _ _ (wk_9b747ddb8 cy h4 v39_10_1 h0 p1 h1 w0 w1 w2 p2 p3 p4 p5 p6 p7 p8 p9 p10 p11 p12 h2 h3 w3 h4 w4 p13 p14 w5 w6 w7 p15 p16 w8 w9 w10 w11 w12 p17 w13 w14 w15 h1 f0 h2 (u_13.2.1 0) h3 (u_13.2.1 1)) _ _ := h_13
        refine q_jn (pc2 := 81) (fun H locs ls st => ∃ v81_14_0 : Nat → Int32, RG v81_14_0 10 0 1023 ∧ st = [] ∧ qW D (va_A (wk_8b19a8a79 cy h0 p1 h1 w0 w1 w2 p2 p3 p4 p5 p6 p7 p8 p9 p10 p11 p12 h2 h3 w3 h4 w4 p13 p14 w5 w6 w7 p15 p16 w8 w9 w10 w11 w12 p17 w13 w14 w15 h1 f0 h2 f1 h3 f2 h4 f3) sz) s.heap (wk_9b747ddb8 cy h4 v81_14_0 h0 p1 h1 w0 w1 w2 p2 p3 p4 p5 p6 p7 p8 p9 p10 p11 p12 h2 h3 w3 h4 w4 p13 p14 w5 w6 w7 p15 p16 w8 w9 w10 w11 w12 p17 w13 w14 w15 h1 f0 h2 (u_13.2.1 0) h3 (u_13.2.1 1)) H locs ∧ lv_has ls 4 [(0, .ref h0), (1, .int p0), (2, .int v27_6_0), (3, .int v39_10_0)]) (fun H locs ls st hP => ?_) (fun J_81 => ?_)
        · obtain ⟨v81_14_0, rv81_14_0, rfl, h, hl⟩ := hP
          obtain ⟨z_15, ez_15, hz_15⟩ := e_add (x := v39_10_0) (y := Int32.ofInt 1) rfl (b := 1) (by decide) (by omega) (by omega)
          refine lv_iinc (v := z_15) (lv' := [(3, .int z_15), (0, .ref h0), (1, .int p0), (2, .int v27_6_0)]) hx hb dX12_laysOpposed_81 hl (k := 3) rfl ez_15 (by decide) rfl (fun ls_15 hl_15 => ?_)
          clear hl
          refine lv_goto (tgt := 39) hx hb dX12_laysOpposed_84 (by decide) ?_
          exact ih_39 z_15 (by show (10 - (z_15).toInt).toNat < (10 - (v39_10_0).toInt).toNat; omega) _ _ _ ⟨v81_14_0, (u_13.2.1 0), (u_13.2.1 1), ⟨by omega, by omega⟩, (rg_wide rv81_14_0 (by decide) (by decide)), (q_re h [1, 2, 3, 4, 0] rfl rfl), (lv_sub hl_15 [1, 2, 3, 0] rfl)⟩
        · skip
          refine lv_if_ne (tgt := 57) hx hb dX12_laysOpposed_51 (by decide) (fun c_16 => ?_) (fun c_16 => ?_)
          · replace c_16 := i_ne (x := r_13) (y := 0) rfl (show (0 : Int32).toInt = 0 by decide) c_16
            refine lv_aload_n hx hb dX12_laysOpposed_57 rfl (lv_at hl 0 rfl) ?_
            refine q_get X hK h_13 1 rfl rfl wf_12 19 (by decide) rfl wm_5_189 dX12_laysOpposed_58 ?_
            refine lv_iload_n hx hb dX12_laysOpposed_61 rfl (lv_at hl 2 rfl) ?_
            refine lv_dup2_11 hx hb dX12_laysOpposed_62 rfl rfl ?_
            refine q_iald X hK h_13 0 rfl (i_in rfl (by omega) (by omega)) dX12_laysOpposed_63 ?_
            obtain ⟨z_17, ez_17, hz_17⟩ := rg_get rv39_10_1 (x := v27_6_0) rfl (by omega) (by omega)
            refine q_c z_17 ez_17 ?_
            clear ez_17
            refine lv_iconst (v := 1) hx hb dX12_laysOpposed_64 (by decide) ?_
            refine lv_iload_n hx hb dX12_laysOpposed_65 rfl (lv_at hl 3 rfl) ?_
            refine lv_ishl hx hb dX12_laysOpposed_66 ?_
            obtain ⟨z_18, ez_18, hz_18⟩ := e_shlk (p := v39_10_0) 8 (by decide) rfl (by omega) (by omega)
            refine q_c z_18 ez_18 ?_
            clear ez_18
            refine lv_ior hx hb dX12_laysOpposed_67 ?_
            obtain ⟨z_19, ez_19, hz_19⟩ := e_orm (x := z_17) (y := z_18) 10 (by decide) rfl rfl (by omega) (by omega) (by omega) (by omega)
            refine q_c z_19 ez_19 ?_
            clear ez_19
            refine q_iast X hK h_13 0 rfl (i_in rfl (by omega) (by omega)) dX12_laysOpposed_68 (fun H locs h_21 => ?_)
            clear h_13
            replace h_21 : qW D _ _ (wk_9b747ddb8 cy h4 (upd v39_10_1 (Int32.toNatClampNeg v27_6_0) z_19) h0 p1 h1 w0 w1 w2 p2 p3 p4 p5 p6 p7 p8 p9 p10 p11 p12 h2 h3 w3 h4 w4 p13 p14 w5 w6 w7 p15 p16 w8 w9 w10 w11 w12 p17 w13 w14 w15 h1 f0 h2 (u_13.2.1 0) h3 (u_13.2.1 1)) _ _ := h_21
            obtain ⟨F_20, eF_20, rF_20⟩ := rg_upd rv39_10_1 (Int32.toNatClampNeg v27_6_0) (x := z_19) rfl (by omega) (by omega)
            rw [eF_20] at h_21
            clear eF_20
            refine lv_aload_n hx hb dX12_laysOpposed_69 rfl (lv_at hl 0 rfl) ?_
            refine q_get X hK h_21 1 rfl rfl wf_12 19 (by decide) rfl wm_5_189 dX12_laysOpposed_70 ?_
            refine lv_iload_n hx hb dX12_laysOpposed_73 rfl (lv_at hl 3 rfl) ?_
            refine lv_dup2_11 hx hb dX12_laysOpposed_74 rfl rfl ?_
            refine q_iald X hK h_21 0 rfl (i_in rfl (by omega) (by omega)) dX12_laysOpposed_75 ?_
            obtain ⟨z_22, ez_22, hz_22⟩ := rg_get rF_20 (x := v39_10_0) rfl (by omega) (by omega)
            refine q_c z_22 ez_22 ?_
            clear ez_22
            refine lv_iconst (v := 1) hx hb dX12_laysOpposed_76 (by decide) ?_
            refine lv_iload_n hx hb dX12_laysOpposed_77 rfl (lv_at hl 2 rfl) ?_
            refine lv_ishl hx hb dX12_laysOpposed_78 ?_
            obtain ⟨z_23, ez_23, hz_23⟩ := e_shlk (p := v27_6_0) 9 (by decide) rfl (by omega) (by omega)
            refine q_c z_23 ez_23 ?_
            clear ez_23
            refine lv_ior hx hb dX12_laysOpposed_79 ?_
            obtain ⟨z_24, ez_24, hz_24⟩ := e_orm (x := z_22) (y := z_23) 10 (by decide) rfl rfl (by omega) (by omega) (by omega) (by omega)
            refine q_c z_24 ez_24 ?_
            clear ez_24
            refine q_iast X hK h_21 0 rfl (i_in rfl (by omega) (by omega)) dX12_laysOpposed_80 (fun H locs h_26 => ?_)
            clear h_21
            replace h_26 : qW D _ _ (wk_9b747ddb8 cy h4 (upd F_20 (Int32.toNatClampNeg v39_10_0) z_24) h0 p1 h1 w0 w1 w2 p2 p3 p4 p5 p6 p7 p8 p9 p10 p11 p12 h2 h3 w3 h4 w4 p13 p14 w5 w6 w7 p15 p16 w8 w9 w10 w11 w12 p17 w13 w14 w15 h1 f0 h2 (u_13.2.1 0) h3 (u_13.2.1 1)) _ _ := h_26
            obtain ⟨F_25, eF_25, rF_25⟩ := rg_upd rF_20 (Int32.toNatClampNeg v39_10_0) (x := z_24) rfl (by omega) (by omega)
            rw [eF_25] at h_26
            clear eF_25
            exact J_81 _ _ _ _ ⟨F_25, (rg_wide rF_25 (by decide) (by decide)), rfl, h_26, (lv_sub hl [0, 1, 2, 3] rfl)⟩
          · replace c_16 := i_eq (x := r_13) (y := 0) rfl (show (0 : Int32).toInt = 0 by decide) c_16
            refine lv_goto (tgt := 81) hx hb dX12_laysOpposed_54 (by decide) ?_
            exact J_81 _ _ _ _ ⟨v39_10_1, (rg_wide rv39_10_1 (by decide) (by decide)), rfl, h_13, (lv_sub hl [0, 1, 2, 3] rfl)⟩
  · replace c_4 := i_nle (x := z_3) (y := v2_2_0) rfl rfl c_4
    refine lv_aload_n hx hb dX12_laysOpposed_12 rfl (lv_at hl 0 rfl) ?_
    refine q_get X hK h 0 rfl rfl wf_12 19 (by decide) rfl wm_5_189 dX12_laysOpposed_13 ?_
    refine lv_iload_n hx hb dX12_laysOpposed_16 rfl (lv_at hl 2 rfl) ?_
    refine lv_iconst (v := 0) hx hb dX12_laysOpposed_17 (by decide) ?_
    refine q_iast X hK h 4 rfl (i_in rfl (by omega) (by omega)) dX12_laysOpposed_18 (fun H locs h_28 => ?_)
    clear h
    replace h_28 : qW D _ _ (wk_8b19a8a79 cy h0 p1 h1 w0 w1 w2 p2 p3 p4 p5 p6 p7 p8 p9 p10 p11 p12 h2 h3 w3 h4 w4 p13 p14 w5 w6 w7 p15 p16 w8 w9 w10 w11 w12 p17 w13 w14 w15 h1 f0 h2 f1 h3 f2 h4 (upd v2_2_1 (Int32.toNatClampNeg v2_2_0) 0)) _ _ := h_28
    obtain ⟨F_27, eF_27, rF_27⟩ := rg_upd rv2_2_1 (Int32.toNatClampNeg v2_2_0) (x := 0) (show (0 : Int32).toInt = 0 by decide) (by omega) (by omega)
    rw [eF_27] at h_28
    clear eF_27
    obtain ⟨z_29, ez_29, hz_29⟩ := e_add (x := v2_2_0) (y := Int32.ofInt 1) rfl (b := 1) (by decide) (by omega) (by omega)
    refine lv_iinc (v := z_29) (lv' := [(2, .int z_29), (0, .ref h0), (1, .int p0)]) hx hb dX12_laysOpposed_19 hl (k := 2) rfl ez_29 (by decide) rfl (fun ls_29 hl_29 => ?_)
    clear hl
    refine lv_goto (tgt := 2) hx hb dX12_laysOpposed_22 (by decide) ?_
    exact ih_2 z_29 (by show (11 - (z_29).toInt).toNat < (11 - (v2_2_0).toInt).toNat; omega) _ _ _ ⟨F_27, ⟨by omega, by omega⟩, (rg_wide rF_27 (by decide) (by decide)), h_28, (lv_sub hl_29 [1, 2, 0] rfl)⟩
set_option maxHeartbeats 4000000 in
set_option maxRecDepth 100000 in
theorem gX12_isIn_41a0a9c (l : Launch) (D : va_G) (cy : Nat → ClassId) (j0 : Int64) (hj0 : 1 ≤ (j0).toInt ∧ (j0).toInt ≤ 1023) (sz : Nat) : MI l yX12_isIn cX12_isIn 3 .boolean { frames := 0, cells := 0, slots := 0, locals := 0 } [.long j0, .int 0] D cy [] sz (fun r u => (0 ≤ r.toInt ∧ r.toInt ≤ 1) ∧ (((r : Int32).toInt = 1 ∧ (j0 : Int64).toInt / 1 % 2 = 1) ∨ ((r : Int32).toInt = 0 ∧ (j0 : Int64).toInt / 1 % 2 = 0)) ∧ True) (fun u => []) 0 0 := by
  refine q_ent (own := RX12) (by decide) rfl (Nat.le_of_ble_eq_true rfl) (fun p e s m below meth c ls X hr hlk hnm hK hT h hA hl => ?_)
  obtain ⟨hx, hb, hml, hown, ht⟩ := id X
  replace hl : lv_has ls 3 [(0, .long j0), (2, .int 0)] := hl
  refine lv_lload_n hx hb dX12_isIn_0 rfl (lv_at hl 0 rfl) ?_
  refine lv_iload_n hx hb dX12_isIn_1 rfl (lv_at hl 1 rfl) ?_
  refine lv_lshr hx hb dX12_isIn_2 rfl ?_
  refine lv_lconst (v := 1) hx hb dX12_isIn_3 (by decide) ?_
  refine lv_land hx hb dX12_isIn_4 ?_
  refine lv_lconst (v := 1) hx hb dX12_isIn_5 (by decide) ?_
  refine W.lcmp hx hb dX12_isIn_6 ?_
  refine lv_if_ne (tgt := 14) hx hb dX12_isIn_7 (by decide) (fun c_1 => ?_) (fun c_1 => ?_)
  · replace c_1 := j_neq (x := ((j0 >>> ((0 : Int32).toInt64 &&& 63)) &&& 1)) (y := 1) rfl (show (1 : Int64).toInt = 1 by decide) c_1
    have ib_2 := is_bit0 (x := j0) (by omega)
    refine lv_iconst (v := 0) hx hb dX12_isIn_14 (by decide) ?_
    exact q_iret X hr hlk hK h rfl (fun _ => 0, fun _ _ => 0, fun _ _ => 0) ⟨⟨by decide +kernel, by decide +kernel⟩, (show ((0 : Int32).toInt = 1 ∧ (j0 : Int64).toInt / 1 % 2 = 1) ∨ ((0 : Int32).toInt = 0 ∧ (j0 : Int64).toInt / 1 % 2 = 0) from by have q0 : (0 : Int32).toInt = 0 := (by decide); omega), trivial⟩ [] rfl rfl dX12_isIn_15 (Nat.le_of_ble_eq_true rfl) (Nat.le_of_ble_eq_true rfl)
  · replace c_1 := j_eq (x := ((j0 >>> ((0 : Int32).toInt64 &&& 63)) &&& 1)) (y := 1) rfl (show (1 : Int64).toInt = 1 by decide) c_1
    have ib_3 := is_bit0 (x := j0) (by omega)
    refine lv_iconst (v := 1) hx hb dX12_isIn_10 (by decide) ?_
    refine lv_goto (tgt := 15) hx hb dX12_isIn_11 (by decide) ?_
    exact q_iret X hr hlk hK h rfl (fun _ => 0, fun _ _ => 0, fun _ _ => 0) ⟨⟨by decide +kernel, by decide +kernel⟩, (show ((1 : Int32).toInt = 1 ∧ (j0 : Int64).toInt / 1 % 2 = 1) ∨ ((1 : Int32).toInt = 0 ∧ (j0 : Int64).toInt / 1 % 2 = 0) from by have q0 : (1 : Int32).toInt = 1 := (by decide); omega), trivial⟩ [] rfl rfl dX12_isIn_15 (Nat.le_of_ble_eq_true rfl) (Nat.le_of_ble_eq_true rfl)
set_option maxHeartbeats 4000000 in
set_option maxRecDepth 100000 in
theorem gX12_isIn_2d8709b (l : Launch) (D : va_G) (cy : Nat → ClassId) (j0 : Int64) (hj0 : 1 ≤ (j0).toInt ∧ (j0).toInt ≤ 1023) (sz : Nat) : MI l yX12_isIn cX12_isIn 3 .boolean { frames := 0, cells := 0, slots := 0, locals := 0 } [.long j0, .int 1] D cy [] sz (fun r u => (0 ≤ r.toInt ∧ r.toInt ≤ 1) ∧ (((r : Int32).toInt = 1 ∧ (j0 : Int64).toInt / 2 % 2 = 1) ∨ ((r : Int32).toInt = 0 ∧ (j0 : Int64).toInt / 2 % 2 = 0)) ∧ True) (fun u => []) 0 0 := by
  refine q_ent (own := RX12) (by decide) rfl (Nat.le_of_ble_eq_true rfl) (fun p e s m below meth c ls X hr hlk hnm hK hT h hA hl => ?_)
  obtain ⟨hx, hb, hml, hown, ht⟩ := id X
  replace hl : lv_has ls 3 [(0, .long j0), (2, .int 1)] := hl
  refine lv_lload_n hx hb dX12_isIn_0 rfl (lv_at hl 0 rfl) ?_
  refine lv_iload_n hx hb dX12_isIn_1 rfl (lv_at hl 1 rfl) ?_
  refine lv_lshr hx hb dX12_isIn_2 rfl ?_
  refine lv_lconst (v := 1) hx hb dX12_isIn_3 (by decide) ?_
  refine lv_land hx hb dX12_isIn_4 ?_
  refine lv_lconst (v := 1) hx hb dX12_isIn_5 (by decide) ?_
  refine W.lcmp hx hb dX12_isIn_6 ?_
  refine lv_if_ne (tgt := 14) hx hb dX12_isIn_7 (by decide) (fun c_1 => ?_) (fun c_1 => ?_)
  · replace c_1 := j_neq (x := ((j0 >>> ((1 : Int32).toInt64 &&& 63)) &&& 1)) (y := 1) rfl (show (1 : Int64).toInt = 1 by decide) c_1
    have ib_2 := is_bit1 (x := j0) (by omega)
    refine lv_iconst (v := 0) hx hb dX12_isIn_14 (by decide) ?_
    exact q_iret X hr hlk hK h rfl (fun _ => 0, fun _ _ => 0, fun _ _ => 0) ⟨⟨by decide +kernel, by decide +kernel⟩, (show ((0 : Int32).toInt = 1 ∧ (j0 : Int64).toInt / 2 % 2 = 1) ∨ ((0 : Int32).toInt = 0 ∧ (j0 : Int64).toInt / 2 % 2 = 0) from by have q0 : (0 : Int32).toInt = 0 := (by decide); omega), trivial⟩ [] rfl rfl dX12_isIn_15 (Nat.le_of_ble_eq_true rfl) (Nat.le_of_ble_eq_true rfl)
  · replace c_1 := j_eq (x := ((j0 >>> ((1 : Int32).toInt64 &&& 63)) &&& 1)) (y := 1) rfl (show (1 : Int64).toInt = 1 by decide) c_1
    have ib_3 := is_bit1 (x := j0) (by omega)
    refine lv_iconst (v := 1) hx hb dX12_isIn_10 (by decide) ?_
    refine lv_goto (tgt := 15) hx hb dX12_isIn_11 (by decide) ?_
    exact q_iret X hr hlk hK h rfl (fun _ => 0, fun _ _ => 0, fun _ _ => 0) ⟨⟨by decide +kernel, by decide +kernel⟩, (show ((1 : Int32).toInt = 1 ∧ (j0 : Int64).toInt / 2 % 2 = 1) ∨ ((1 : Int32).toInt = 0 ∧ (j0 : Int64).toInt / 2 % 2 = 0) from by have q0 : (1 : Int32).toInt = 1 := (by decide); omega), trivial⟩ [] rfl rfl dX12_isIn_15 (Nat.le_of_ble_eq_true rfl) (Nat.le_of_ble_eq_true rfl)
set_option maxHeartbeats 4000000 in
set_option maxRecDepth 100000 in
theorem gX12_isIn_2b10bab (l : Launch) (D : va_G) (cy : Nat → ClassId) (j0 : Int64) (hj0 : 1 ≤ (j0).toInt ∧ (j0).toInt ≤ 1023) (sz : Nat) : MI l yX12_isIn cX12_isIn 3 .boolean { frames := 0, cells := 0, slots := 0, locals := 0 } [.long j0, .int 2] D cy [] sz (fun r u => (0 ≤ r.toInt ∧ r.toInt ≤ 1) ∧ (((r : Int32).toInt = 1 ∧ (j0 : Int64).toInt / 4 % 2 = 1) ∨ ((r : Int32).toInt = 0 ∧ (j0 : Int64).toInt / 4 % 2 = 0)) ∧ True) (fun u => []) 0 0 := by
  refine q_ent (own := RX12) (by decide) rfl (Nat.le_of_ble_eq_true rfl) (fun p e s m below meth c ls X hr hlk hnm hK hT h hA hl => ?_)
  obtain ⟨hx, hb, hml, hown, ht⟩ := id X
  replace hl : lv_has ls 3 [(0, .long j0), (2, .int 2)] := hl
  refine lv_lload_n hx hb dX12_isIn_0 rfl (lv_at hl 0 rfl) ?_
  refine lv_iload_n hx hb dX12_isIn_1 rfl (lv_at hl 1 rfl) ?_
  refine lv_lshr hx hb dX12_isIn_2 rfl ?_
  refine lv_lconst (v := 1) hx hb dX12_isIn_3 (by decide) ?_
  refine lv_land hx hb dX12_isIn_4 ?_
  refine lv_lconst (v := 1) hx hb dX12_isIn_5 (by decide) ?_
  refine W.lcmp hx hb dX12_isIn_6 ?_
  refine lv_if_ne (tgt := 14) hx hb dX12_isIn_7 (by decide) (fun c_1 => ?_) (fun c_1 => ?_)
  · replace c_1 := j_neq (x := ((j0 >>> ((2 : Int32).toInt64 &&& 63)) &&& 1)) (y := 1) rfl (show (1 : Int64).toInt = 1 by decide) c_1
    have ib_2 := is_bit2 (x := j0) (by omega)
    refine lv_iconst (v := 0) hx hb dX12_isIn_14 (by decide) ?_
    exact q_iret X hr hlk hK h rfl (fun _ => 0, fun _ _ => 0, fun _ _ => 0) ⟨⟨by decide +kernel, by decide +kernel⟩, (show ((0 : Int32).toInt = 1 ∧ (j0 : Int64).toInt / 4 % 2 = 1) ∨ ((0 : Int32).toInt = 0 ∧ (j0 : Int64).toInt / 4 % 2 = 0) from by have q0 : (0 : Int32).toInt = 0 := (by decide); omega), trivial⟩ [] rfl rfl dX12_isIn_15 (Nat.le_of_ble_eq_true rfl) (Nat.le_of_ble_eq_true rfl)
  · replace c_1 := j_eq (x := ((j0 >>> ((2 : Int32).toInt64 &&& 63)) &&& 1)) (y := 1) rfl (show (1 : Int64).toInt = 1 by decide) c_1
    have ib_3 := is_bit2 (x := j0) (by omega)
    refine lv_iconst (v := 1) hx hb dX12_isIn_10 (by decide) ?_
    refine lv_goto (tgt := 15) hx hb dX12_isIn_11 (by decide) ?_
    exact q_iret X hr hlk hK h rfl (fun _ => 0, fun _ _ => 0, fun _ _ => 0) ⟨⟨by decide +kernel, by decide +kernel⟩, (show ((1 : Int32).toInt = 1 ∧ (j0 : Int64).toInt / 4 % 2 = 1) ∨ ((1 : Int32).toInt = 0 ∧ (j0 : Int64).toInt / 4 % 2 = 0) from by have q0 : (1 : Int32).toInt = 1 := (by decide); omega), trivial⟩ [] rfl rfl dX12_isIn_15 (Nat.le_of_ble_eq_true rfl) (Nat.le_of_ble_eq_true rfl)
set_option maxHeartbeats 4000000 in
set_option maxRecDepth 100000 in
theorem gX12_isIn_a432504 (l : Launch) (D : va_G) (cy : Nat → ClassId) (j0 : Int64) (hj0 : 1 ≤ (j0).toInt ∧ (j0).toInt ≤ 1023) (sz : Nat) : MI l yX12_isIn cX12_isIn 3 .boolean { frames := 0, cells := 0, slots := 0, locals := 0 } [.long j0, .int 3] D cy [] sz (fun r u => (0 ≤ r.toInt ∧ r.toInt ≤ 1) ∧ (((r : Int32).toInt = 1 ∧ (j0 : Int64).toInt / 8 % 2 = 1) ∨ ((r : Int32).toInt = 0 ∧ (j0 : Int64).toInt / 8 % 2 = 0)) ∧ True) (fun u => []) 0 0 := by
  refine q_ent (own := RX12) (by decide) rfl (Nat.le_of_ble_eq_true rfl) (fun p e s m below meth c ls X hr hlk hnm hK hT h hA hl => ?_)
  obtain ⟨hx, hb, hml, hown, ht⟩ := id X
  replace hl : lv_has ls 3 [(0, .long j0), (2, .int 3)] := hl
  refine lv_lload_n hx hb dX12_isIn_0 rfl (lv_at hl 0 rfl) ?_
  refine lv_iload_n hx hb dX12_isIn_1 rfl (lv_at hl 1 rfl) ?_
  refine lv_lshr hx hb dX12_isIn_2 rfl ?_
  refine lv_lconst (v := 1) hx hb dX12_isIn_3 (by decide) ?_
  refine lv_land hx hb dX12_isIn_4 ?_
  refine lv_lconst (v := 1) hx hb dX12_isIn_5 (by decide) ?_
  refine W.lcmp hx hb dX12_isIn_6 ?_
  refine lv_if_ne (tgt := 14) hx hb dX12_isIn_7 (by decide) (fun c_1 => ?_) (fun c_1 => ?_)
  · replace c_1 := j_neq (x := ((j0 >>> ((3 : Int32).toInt64 &&& 63)) &&& 1)) (y := 1) rfl (show (1 : Int64).toInt = 1 by decide) c_1
    have ib_2 := is_bit3 (x := j0) (by omega)
    refine lv_iconst (v := 0) hx hb dX12_isIn_14 (by decide) ?_
    exact q_iret X hr hlk hK h rfl (fun _ => 0, fun _ _ => 0, fun _ _ => 0) ⟨⟨by decide +kernel, by decide +kernel⟩, (show ((0 : Int32).toInt = 1 ∧ (j0 : Int64).toInt / 8 % 2 = 1) ∨ ((0 : Int32).toInt = 0 ∧ (j0 : Int64).toInt / 8 % 2 = 0) from by have q0 : (0 : Int32).toInt = 0 := (by decide); omega), trivial⟩ [] rfl rfl dX12_isIn_15 (Nat.le_of_ble_eq_true rfl) (Nat.le_of_ble_eq_true rfl)
  · replace c_1 := j_eq (x := ((j0 >>> ((3 : Int32).toInt64 &&& 63)) &&& 1)) (y := 1) rfl (show (1 : Int64).toInt = 1 by decide) c_1
    have ib_3 := is_bit3 (x := j0) (by omega)
    refine lv_iconst (v := 1) hx hb dX12_isIn_10 (by decide) ?_
    refine lv_goto (tgt := 15) hx hb dX12_isIn_11 (by decide) ?_
    exact q_iret X hr hlk hK h rfl (fun _ => 0, fun _ _ => 0, fun _ _ => 0) ⟨⟨by decide +kernel, by decide +kernel⟩, (show ((1 : Int32).toInt = 1 ∧ (j0 : Int64).toInt / 8 % 2 = 1) ∨ ((1 : Int32).toInt = 0 ∧ (j0 : Int64).toInt / 8 % 2 = 0) from by have q0 : (1 : Int32).toInt = 1 := (by decide); omega), trivial⟩ [] rfl rfl dX12_isIn_15 (Nat.le_of_ble_eq_true rfl) (Nat.le_of_ble_eq_true rfl)
set_option maxHeartbeats 4000000 in
set_option maxRecDepth 100000 in
theorem gX12_isIn_214de6c (l : Launch) (D : va_G) (cy : Nat → ClassId) (j0 : Int64) (hj0 : 1 ≤ (j0).toInt ∧ (j0).toInt ≤ 1023) (sz : Nat) : MI l yX12_isIn cX12_isIn 3 .boolean { frames := 0, cells := 0, slots := 0, locals := 0 } [.long j0, .int 4] D cy [] sz (fun r u => (0 ≤ r.toInt ∧ r.toInt ≤ 1) ∧ (((r : Int32).toInt = 1 ∧ (j0 : Int64).toInt / 16 % 2 = 1) ∨ ((r : Int32).toInt = 0 ∧ (j0 : Int64).toInt / 16 % 2 = 0)) ∧ True) (fun u => []) 0 0 := by
  refine q_ent (own := RX12) (by decide) rfl (Nat.le_of_ble_eq_true rfl) (fun p e s m below meth c ls X hr hlk hnm hK hT h hA hl => ?_)
  obtain ⟨hx, hb, hml, hown, ht⟩ := id X
  replace hl : lv_has ls 3 [(0, .long j0), (2, .int 4)] := hl
  refine lv_lload_n hx hb dX12_isIn_0 rfl (lv_at hl 0 rfl) ?_
  refine lv_iload_n hx hb dX12_isIn_1 rfl (lv_at hl 1 rfl) ?_
  refine lv_lshr hx hb dX12_isIn_2 rfl ?_
  refine lv_lconst (v := 1) hx hb dX12_isIn_3 (by decide) ?_
  refine lv_land hx hb dX12_isIn_4 ?_
  refine lv_lconst (v := 1) hx hb dX12_isIn_5 (by decide) ?_
  refine W.lcmp hx hb dX12_isIn_6 ?_
  refine lv_if_ne (tgt := 14) hx hb dX12_isIn_7 (by decide) (fun c_1 => ?_) (fun c_1 => ?_)
  · replace c_1 := j_neq (x := ((j0 >>> ((4 : Int32).toInt64 &&& 63)) &&& 1)) (y := 1) rfl (show (1 : Int64).toInt = 1 by decide) c_1
    have ib_2 := is_bit4 (x := j0) (by omega)
    refine lv_iconst (v := 0) hx hb dX12_isIn_14 (by decide) ?_
    exact q_iret X hr hlk hK h rfl (fun _ => 0, fun _ _ => 0, fun _ _ => 0) ⟨⟨by decide +kernel, by decide +kernel⟩, (show ((0 : Int32).toInt = 1 ∧ (j0 : Int64).toInt / 16 % 2 = 1) ∨ ((0 : Int32).toInt = 0 ∧ (j0 : Int64).toInt / 16 % 2 = 0) from by have q0 : (0 : Int32).toInt = 0 := (by decide); omega), trivial⟩ [] rfl rfl dX12_isIn_15 (Nat.le_of_ble_eq_true rfl) (Nat.le_of_ble_eq_true rfl)
  · replace c_1 := j_eq (x := ((j0 >>> ((4 : Int32).toInt64 &&& 63)) &&& 1)) (y := 1) rfl (show (1 : Int64).toInt = 1 by decide) c_1
    have ib_3 := is_bit4 (x := j0) (by omega)
    refine lv_iconst (v := 1) hx hb dX12_isIn_10 (by decide) ?_
    refine lv_goto (tgt := 15) hx hb dX12_isIn_11 (by decide) ?_
    exact q_iret X hr hlk hK h rfl (fun _ => 0, fun _ _ => 0, fun _ _ => 0) ⟨⟨by decide +kernel, by decide +kernel⟩, (show ((1 : Int32).toInt = 1 ∧ (j0 : Int64).toInt / 16 % 2 = 1) ∨ ((1 : Int32).toInt = 0 ∧ (j0 : Int64).toInt / 16 % 2 = 0) from by have q0 : (1 : Int32).toInt = 1 := (by decide); omega), trivial⟩ [] rfl rfl dX12_isIn_15 (Nat.le_of_ble_eq_true rfl) (Nat.le_of_ble_eq_true rfl)
set_option maxHeartbeats 4000000 in
set_option maxRecDepth 100000 in
theorem gX12_isIn_ac6e654 (l : Launch) (D : va_G) (cy : Nat → ClassId) (j0 : Int64) (hj0 : 1 ≤ (j0).toInt ∧ (j0).toInt ≤ 1023) (sz : Nat) : MI l yX12_isIn cX12_isIn 3 .boolean { frames := 0, cells := 0, slots := 0, locals := 0 } [.long j0, .int 5] D cy [] sz (fun r u => (0 ≤ r.toInt ∧ r.toInt ≤ 1) ∧ (((r : Int32).toInt = 1 ∧ (j0 : Int64).toInt / 32 % 2 = 1) ∨ ((r : Int32).toInt = 0 ∧ (j0 : Int64).toInt / 32 % 2 = 0)) ∧ True) (fun u => []) 0 0 := by
  refine q_ent (own := RX12) (by decide) rfl (Nat.le_of_ble_eq_true rfl) (fun p e s m below meth c ls X hr hlk hnm hK hT h hA hl => ?_)
  obtain ⟨hx, hb, hml, hown, ht⟩ := id X
  replace hl : lv_has ls 3 [(0, .long j0), (2, .int 5)] := hl
  refine lv_lload_n hx hb dX12_isIn_0 rfl (lv_at hl 0 rfl) ?_
  refine lv_iload_n hx hb dX12_isIn_1 rfl (lv_at hl 1 rfl) ?_
  refine lv_lshr hx hb dX12_isIn_2 rfl ?_
  refine lv_lconst (v := 1) hx hb dX12_isIn_3 (by decide) ?_
  refine lv_land hx hb dX12_isIn_4 ?_
  refine lv_lconst (v := 1) hx hb dX12_isIn_5 (by decide) ?_
  refine W.lcmp hx hb dX12_isIn_6 ?_
  refine lv_if_ne (tgt := 14) hx hb dX12_isIn_7 (by decide) (fun c_1 => ?_) (fun c_1 => ?_)
  · replace c_1 := j_neq (x := ((j0 >>> ((5 : Int32).toInt64 &&& 63)) &&& 1)) (y := 1) rfl (show (1 : Int64).toInt = 1 by decide) c_1
    have ib_2 := is_bit5 (x := j0) (by omega)
    refine lv_iconst (v := 0) hx hb dX12_isIn_14 (by decide) ?_
    exact q_iret X hr hlk hK h rfl (fun _ => 0, fun _ _ => 0, fun _ _ => 0) ⟨⟨by decide +kernel, by decide +kernel⟩, (show ((0 : Int32).toInt = 1 ∧ (j0 : Int64).toInt / 32 % 2 = 1) ∨ ((0 : Int32).toInt = 0 ∧ (j0 : Int64).toInt / 32 % 2 = 0) from by have q0 : (0 : Int32).toInt = 0 := (by decide); omega), trivial⟩ [] rfl rfl dX12_isIn_15 (Nat.le_of_ble_eq_true rfl) (Nat.le_of_ble_eq_true rfl)
  · replace c_1 := j_eq (x := ((j0 >>> ((5 : Int32).toInt64 &&& 63)) &&& 1)) (y := 1) rfl (show (1 : Int64).toInt = 1 by decide) c_1
    have ib_3 := is_bit5 (x := j0) (by omega)
    refine lv_iconst (v := 1) hx hb dX12_isIn_10 (by decide) ?_
    refine lv_goto (tgt := 15) hx hb dX12_isIn_11 (by decide) ?_
    exact q_iret X hr hlk hK h rfl (fun _ => 0, fun _ _ => 0, fun _ _ => 0) ⟨⟨by decide +kernel, by decide +kernel⟩, (show ((1 : Int32).toInt = 1 ∧ (j0 : Int64).toInt / 32 % 2 = 1) ∨ ((1 : Int32).toInt = 0 ∧ (j0 : Int64).toInt / 32 % 2 = 0) from by have q0 : (1 : Int32).toInt = 1 := (by decide); omega), trivial⟩ [] rfl rfl dX12_isIn_15 (Nat.le_of_ble_eq_true rfl) (Nat.le_of_ble_eq_true rfl)
set_option maxHeartbeats 4000000 in
set_option maxRecDepth 100000 in
theorem gX12_isIn_c688203 (l : Launch) (D : va_G) (cy : Nat → ClassId) (j0 : Int64) (hj0 : 1 ≤ (j0).toInt ∧ (j0).toInt ≤ 1023) (sz : Nat) : MI l yX12_isIn cX12_isIn 3 .boolean { frames := 0, cells := 0, slots := 0, locals := 0 } [.long j0, .int 6] D cy [] sz (fun r u => (0 ≤ r.toInt ∧ r.toInt ≤ 1) ∧ (((r : Int32).toInt = 1 ∧ (j0 : Int64).toInt / 64 % 2 = 1) ∨ ((r : Int32).toInt = 0 ∧ (j0 : Int64).toInt / 64 % 2 = 0)) ∧ True) (fun u => []) 0 0 := by
  refine q_ent (own := RX12) (by decide) rfl (Nat.le_of_ble_eq_true rfl) (fun p e s m below meth c ls X hr hlk hnm hK hT h hA hl => ?_)
  obtain ⟨hx, hb, hml, hown, ht⟩ := id X
  replace hl : lv_has ls 3 [(0, .long j0), (2, .int 6)] := hl
  refine lv_lload_n hx hb dX12_isIn_0 rfl (lv_at hl 0 rfl) ?_
  refine lv_iload_n hx hb dX12_isIn_1 rfl (lv_at hl 1 rfl) ?_
  refine lv_lshr hx hb dX12_isIn_2 rfl ?_
  refine lv_lconst (v := 1) hx hb dX12_isIn_3 (by decide) ?_
  refine lv_land hx hb dX12_isIn_4 ?_
  refine lv_lconst (v := 1) hx hb dX12_isIn_5 (by decide) ?_
  refine W.lcmp hx hb dX12_isIn_6 ?_
  refine lv_if_ne (tgt := 14) hx hb dX12_isIn_7 (by decide) (fun c_1 => ?_) (fun c_1 => ?_)
  · replace c_1 := j_neq (x := ((j0 >>> ((6 : Int32).toInt64 &&& 63)) &&& 1)) (y := 1) rfl (show (1 : Int64).toInt = 1 by decide) c_1
    have ib_2 := is_bit6 (x := j0) (by omega)
    refine lv_iconst (v := 0) hx hb dX12_isIn_14 (by decide) ?_
    exact q_iret X hr hlk hK h rfl (fun _ => 0, fun _ _ => 0, fun _ _ => 0) ⟨⟨by decide +kernel, by decide +kernel⟩, (show ((0 : Int32).toInt = 1 ∧ (j0 : Int64).toInt / 64 % 2 = 1) ∨ ((0 : Int32).toInt = 0 ∧ (j0 : Int64).toInt / 64 % 2 = 0) from by have q0 : (0 : Int32).toInt = 0 := (by decide); omega), trivial⟩ [] rfl rfl dX12_isIn_15 (Nat.le_of_ble_eq_true rfl) (Nat.le_of_ble_eq_true rfl)
  · replace c_1 := j_eq (x := ((j0 >>> ((6 : Int32).toInt64 &&& 63)) &&& 1)) (y := 1) rfl (show (1 : Int64).toInt = 1 by decide) c_1
    have ib_3 := is_bit6 (x := j0) (by omega)
    refine lv_iconst (v := 1) hx hb dX12_isIn_10 (by decide) ?_
    refine lv_goto (tgt := 15) hx hb dX12_isIn_11 (by decide) ?_
    exact q_iret X hr hlk hK h rfl (fun _ => 0, fun _ _ => 0, fun _ _ => 0) ⟨⟨by decide +kernel, by decide +kernel⟩, (show ((1 : Int32).toInt = 1 ∧ (j0 : Int64).toInt / 64 % 2 = 1) ∨ ((1 : Int32).toInt = 0 ∧ (j0 : Int64).toInt / 64 % 2 = 0) from by have q0 : (1 : Int32).toInt = 1 := (by decide); omega), trivial⟩ [] rfl rfl dX12_isIn_15 (Nat.le_of_ble_eq_true rfl) (Nat.le_of_ble_eq_true rfl)
set_option maxHeartbeats 4000000 in
set_option maxRecDepth 100000 in
theorem gX12_isIn_a28f3df (l : Launch) (D : va_G) (cy : Nat → ClassId) (j0 : Int64) (hj0 : 1 ≤ (j0).toInt ∧ (j0).toInt ≤ 1023) (sz : Nat) : MI l yX12_isIn cX12_isIn 3 .boolean { frames := 0, cells := 0, slots := 0, locals := 0 } [.long j0, .int 7] D cy [] sz (fun r u => (0 ≤ r.toInt ∧ r.toInt ≤ 1) ∧ (((r : Int32).toInt = 1 ∧ (j0 : Int64).toInt / 128 % 2 = 1) ∨ ((r : Int32).toInt = 0 ∧ (j0 : Int64).toInt / 128 % 2 = 0)) ∧ True) (fun u => []) 0 0 := by
  refine q_ent (own := RX12) (by decide) rfl (Nat.le_of_ble_eq_true rfl) (fun p e s m below meth c ls X hr hlk hnm hK hT h hA hl => ?_)
  obtain ⟨hx, hb, hml, hown, ht⟩ := id X
  replace hl : lv_has ls 3 [(0, .long j0), (2, .int 7)] := hl
  refine lv_lload_n hx hb dX12_isIn_0 rfl (lv_at hl 0 rfl) ?_
  refine lv_iload_n hx hb dX12_isIn_1 rfl (lv_at hl 1 rfl) ?_
  refine lv_lshr hx hb dX12_isIn_2 rfl ?_
  refine lv_lconst (v := 1) hx hb dX12_isIn_3 (by decide) ?_
  refine lv_land hx hb dX12_isIn_4 ?_
  refine lv_lconst (v := 1) hx hb dX12_isIn_5 (by decide) ?_
  refine W.lcmp hx hb dX12_isIn_6 ?_
  refine lv_if_ne (tgt := 14) hx hb dX12_isIn_7 (by decide) (fun c_1 => ?_) (fun c_1 => ?_)
  · replace c_1 := j_neq (x := ((j0 >>> ((7 : Int32).toInt64 &&& 63)) &&& 1)) (y := 1) rfl (show (1 : Int64).toInt = 1 by decide) c_1
    have ib_2 := is_bit7 (x := j0) (by omega)
    refine lv_iconst (v := 0) hx hb dX12_isIn_14 (by decide) ?_
    exact q_iret X hr hlk hK h rfl (fun _ => 0, fun _ _ => 0, fun _ _ => 0) ⟨⟨by decide +kernel, by decide +kernel⟩, (show ((0 : Int32).toInt = 1 ∧ (j0 : Int64).toInt / 128 % 2 = 1) ∨ ((0 : Int32).toInt = 0 ∧ (j0 : Int64).toInt / 128 % 2 = 0) from by have q0 : (0 : Int32).toInt = 0 := (by decide); omega), trivial⟩ [] rfl rfl dX12_isIn_15 (Nat.le_of_ble_eq_true rfl) (Nat.le_of_ble_eq_true rfl)
  · replace c_1 := j_eq (x := ((j0 >>> ((7 : Int32).toInt64 &&& 63)) &&& 1)) (y := 1) rfl (show (1 : Int64).toInt = 1 by decide) c_1
    have ib_3 := is_bit7 (x := j0) (by omega)
    refine lv_iconst (v := 1) hx hb dX12_isIn_10 (by decide) ?_
    refine lv_goto (tgt := 15) hx hb dX12_isIn_11 (by decide) ?_
    exact q_iret X hr hlk hK h rfl (fun _ => 0, fun _ _ => 0, fun _ _ => 0) ⟨⟨by decide +kernel, by decide +kernel⟩, (show ((1 : Int32).toInt = 1 ∧ (j0 : Int64).toInt / 128 % 2 = 1) ∨ ((1 : Int32).toInt = 0 ∧ (j0 : Int64).toInt / 128 % 2 = 0) from by have q0 : (1 : Int32).toInt = 1 := (by decide); omega), trivial⟩ [] rfl rfl dX12_isIn_15 (Nat.le_of_ble_eq_true rfl) (Nat.le_of_ble_eq_true rfl)
set_option maxHeartbeats 4000000 in
set_option maxRecDepth 100000 in
theorem gX12_isIn_f7f44e3 (l : Launch) (D : va_G) (cy : Nat → ClassId) (j0 : Int64) (hj0 : 1 ≤ (j0).toInt ∧ (j0).toInt ≤ 1023) (sz : Nat) : MI l yX12_isIn cX12_isIn 3 .boolean { frames := 0, cells := 0, slots := 0, locals := 0 } [.long j0, .int 8] D cy [] sz (fun r u => (0 ≤ r.toInt ∧ r.toInt ≤ 1) ∧ (((r : Int32).toInt = 1 ∧ (j0 : Int64).toInt / 256 % 2 = 1) ∨ ((r : Int32).toInt = 0 ∧ (j0 : Int64).toInt / 256 % 2 = 0)) ∧ True) (fun u => []) 0 0 := by
  refine q_ent (own := RX12) (by decide) rfl (Nat.le_of_ble_eq_true rfl) (fun p e s m below meth c ls X hr hlk hnm hK hT h hA hl => ?_)
  obtain ⟨hx, hb, hml, hown, ht⟩ := id X
  replace hl : lv_has ls 3 [(0, .long j0), (2, .int 8)] := hl
  refine lv_lload_n hx hb dX12_isIn_0 rfl (lv_at hl 0 rfl) ?_
  refine lv_iload_n hx hb dX12_isIn_1 rfl (lv_at hl 1 rfl) ?_
  refine lv_lshr hx hb dX12_isIn_2 rfl ?_
  refine lv_lconst (v := 1) hx hb dX12_isIn_3 (by decide) ?_
  refine lv_land hx hb dX12_isIn_4 ?_
  refine lv_lconst (v := 1) hx hb dX12_isIn_5 (by decide) ?_
  refine W.lcmp hx hb dX12_isIn_6 ?_
  refine lv_if_ne (tgt := 14) hx hb dX12_isIn_7 (by decide) (fun c_1 => ?_) (fun c_1 => ?_)
  · replace c_1 := j_neq (x := ((j0 >>> ((8 : Int32).toInt64 &&& 63)) &&& 1)) (y := 1) rfl (show (1 : Int64).toInt = 1 by decide) c_1
    have ib_2 := is_bit8 (x := j0) (by omega)
    refine lv_iconst (v := 0) hx hb dX12_isIn_14 (by decide) ?_
    exact q_iret X hr hlk hK h rfl (fun _ => 0, fun _ _ => 0, fun _ _ => 0) ⟨⟨by decide +kernel, by decide +kernel⟩, (show ((0 : Int32).toInt = 1 ∧ (j0 : Int64).toInt / 256 % 2 = 1) ∨ ((0 : Int32).toInt = 0 ∧ (j0 : Int64).toInt / 256 % 2 = 0) from by have q0 : (0 : Int32).toInt = 0 := (by decide); omega), trivial⟩ [] rfl rfl dX12_isIn_15 (Nat.le_of_ble_eq_true rfl) (Nat.le_of_ble_eq_true rfl)
  · replace c_1 := j_eq (x := ((j0 >>> ((8 : Int32).toInt64 &&& 63)) &&& 1)) (y := 1) rfl (show (1 : Int64).toInt = 1 by decide) c_1
    have ib_3 := is_bit8 (x := j0) (by omega)
    refine lv_iconst (v := 1) hx hb dX12_isIn_10 (by decide) ?_
    refine lv_goto (tgt := 15) hx hb dX12_isIn_11 (by decide) ?_
    exact q_iret X hr hlk hK h rfl (fun _ => 0, fun _ _ => 0, fun _ _ => 0) ⟨⟨by decide +kernel, by decide +kernel⟩, (show ((1 : Int32).toInt = 1 ∧ (j0 : Int64).toInt / 256 % 2 = 1) ∨ ((1 : Int32).toInt = 0 ∧ (j0 : Int64).toInt / 256 % 2 = 0) from by have q0 : (1 : Int32).toInt = 1 := (by decide); omega), trivial⟩ [] rfl rfl dX12_isIn_15 (Nat.le_of_ble_eq_true rfl) (Nat.le_of_ble_eq_true rfl)
set_option maxHeartbeats 4000000 in
set_option maxRecDepth 100000 in
theorem gX12_isIn_39c5110 (l : Launch) (D : va_G) (cy : Nat → ClassId) (j0 : Int64) (hj0 : 1 ≤ (j0).toInt ∧ (j0).toInt ≤ 1023) (sz : Nat) : MI l yX12_isIn cX12_isIn 3 .boolean { frames := 0, cells := 0, slots := 0, locals := 0 } [.long j0, .int 9] D cy [] sz (fun r u => (0 ≤ r.toInt ∧ r.toInt ≤ 1) ∧ (((r : Int32).toInt = 1 ∧ (j0 : Int64).toInt / 512 % 2 = 1) ∨ ((r : Int32).toInt = 0 ∧ (j0 : Int64).toInt / 512 % 2 = 0)) ∧ True) (fun u => []) 0 0 := by
  refine q_ent (own := RX12) (by decide) rfl (Nat.le_of_ble_eq_true rfl) (fun p e s m below meth c ls X hr hlk hnm hK hT h hA hl => ?_)
  obtain ⟨hx, hb, hml, hown, ht⟩ := id X
  replace hl : lv_has ls 3 [(0, .long j0), (2, .int 9)] := hl
  refine lv_lload_n hx hb dX12_isIn_0 rfl (lv_at hl 0 rfl) ?_
  refine lv_iload_n hx hb dX12_isIn_1 rfl (lv_at hl 1 rfl) ?_
  refine lv_lshr hx hb dX12_isIn_2 rfl ?_
  refine lv_lconst (v := 1) hx hb dX12_isIn_3 (by decide) ?_
  refine lv_land hx hb dX12_isIn_4 ?_
  refine lv_lconst (v := 1) hx hb dX12_isIn_5 (by decide) ?_
  refine W.lcmp hx hb dX12_isIn_6 ?_
  refine lv_if_ne (tgt := 14) hx hb dX12_isIn_7 (by decide) (fun c_1 => ?_) (fun c_1 => ?_)
  · replace c_1 := j_neq (x := ((j0 >>> ((9 : Int32).toInt64 &&& 63)) &&& 1)) (y := 1) rfl (show (1 : Int64).toInt = 1 by decide) c_1
    have ib_2 := is_bit9 (x := j0) (by omega)
    refine lv_iconst (v := 0) hx hb dX12_isIn_14 (by decide) ?_
    exact q_iret X hr hlk hK h rfl (fun _ => 0, fun _ _ => 0, fun _ _ => 0) ⟨⟨by decide +kernel, by decide +kernel⟩, (show ((0 : Int32).toInt = 1 ∧ (j0 : Int64).toInt / 512 % 2 = 1) ∨ ((0 : Int32).toInt = 0 ∧ (j0 : Int64).toInt / 512 % 2 = 0) from by have q0 : (0 : Int32).toInt = 0 := (by decide); omega), trivial⟩ [] rfl rfl dX12_isIn_15 (Nat.le_of_ble_eq_true rfl) (Nat.le_of_ble_eq_true rfl)
  · replace c_1 := j_eq (x := ((j0 >>> ((9 : Int32).toInt64 &&& 63)) &&& 1)) (y := 1) rfl (show (1 : Int64).toInt = 1 by decide) c_1
    have ib_3 := is_bit9 (x := j0) (by omega)
    refine lv_iconst (v := 1) hx hb dX12_isIn_10 (by decide) ?_
    refine lv_goto (tgt := 15) hx hb dX12_isIn_11 (by decide) ?_
    exact q_iret X hr hlk hK h rfl (fun _ => 0, fun _ _ => 0, fun _ _ => 0) ⟨⟨by decide +kernel, by decide +kernel⟩, (show ((1 : Int32).toInt = 1 ∧ (j0 : Int64).toInt / 512 % 2 = 1) ∨ ((1 : Int32).toInt = 0 ∧ (j0 : Int64).toInt / 512 % 2 = 0) from by have q0 : (1 : Int32).toInt = 1 := (by decide); omega), trivial⟩ [] rfl rfl dX12_isIn_15 (Nat.le_of_ble_eq_true rfl) (Nat.le_of_ble_eq_true rfl)
set_option maxHeartbeats 4000000 in
set_option maxRecDepth 100000 in
theorem gX12_lowest_51df8cb (l : Launch) (D : va_G) (cy : Nat → ClassId) (p0 : Int32) (hp0 : 1 ≤ (p0).toInt ∧ (p0).toInt ≤ 1023) (sz : Nat) : MI l yX12_lowest cX12_lowest 2 .int { frames := 1, cells := 0, slots := 0, locals := 22 } [.int p0] D cy [] sz (fun r u => (0 ≤ r.toInt ∧ r.toInt ≤ 9) ∧ (LOWD p0 r) ∧ True) (fun u => []) 0 0 := by
  refine q_ent (own := RX12) (by decide) rfl (Nat.le_of_ble_eq_true rfl) (fun p e s m below meth c ls X hr hlk hnm hK hT h hA hl => ?_)
  obtain ⟨hx, hb, hml, hown, ht⟩ := id X
  replace hl : lv_has ls 2 [(0, .int p0)] := hl
  refine lv_iconst (v := 0) hx hb dX12_lowest_0 (by decide) ?_
  refine lv_istore_n (lv' := [(1, .int 0), (0, .int p0)]) hx hb dX12_lowest_1 rfl hl (by decide) rfl (fun ls_1 hl_1 => ?_)
  clear hl
  refine lv_iload_n hx hb dX12_lowest_2 rfl (lv_at hl_1 1 rfl) ?_
  refine lv_i2l hx hb dX12_lowest_3 rfl ?_
  obtain ⟨z_2, ez_2, hz_2⟩ := e_i2l (x := p0) rfl
  refine q_cl z_2 ez_2 ?_
  clear ez_2
  refine lv_iload_n hx hb dX12_lowest_4 rfl (lv_at hl_1 0 rfl) ?_
  refine q_callSi (rest := []) (wr := []) X hK hT hA h (fun sz => gX12_isIn_41a0a9c l D cy z_2 ⟨by omega, by omega⟩ sz) wm_6_167 wm_6_169 wm_1_12 hd_X12_isIn wm_6_168 ⟨Nat.le_of_ble_eq_true rfl, Nat.le_of_ble_eq_true rfl⟩ hl_1.1 rfl (Nat.le_of_ble_eq_true rfl) dX12_lowest_5 ⟨Nat.le_of_ble_eq_true rfl, Nat.le_of_ble_eq_true rfl⟩ [] [] rfl rfl (by decide) rfl rfl (fun r_3 u_3 H locs w_3 h_3 => ?_)
  clear h
  obtain ⟨wr_3, y3_0, _⟩ := w_3
  have lq_3_1 : (0 : Int32).toInt = 0 := (by decide)
  replace h_3 : qW D _ _ [] _ _ := h_3
  refine lv_if_ne (tgt := 17) hx hb dX12_lowest_8 (by decide) (fun c_4 => ?_) (fun c_4 => ?_)
  · replace c_4 := i_ne (x := r_3) (y := 0) rfl (show (0 : Int32).toInt = 0 by decide) c_4
    replace y3_0 := a10_1 y3_0 c_4
    refine lv_iload_n hx hb dX12_lowest_17 rfl (lv_at hl_1 0 rfl) ?_
    exact q_iret X hr hlk hK h_3 rfl (fun _ => 0, fun _ _ => 0, fun _ _ => 0) ⟨⟨by decide +kernel, by decide +kernel⟩, (show LOWD p0 0 from lowd0 (by decide) (by (first | assumption | omega))), trivial⟩ [] rfl rfl dX12_lowest_18 (Nat.le_of_ble_eq_true rfl) (Nat.le_of_ble_eq_true rfl)
  · replace c_4 := i_eq (x := r_3) (y := 0) rfl (show (0 : Int32).toInt = 0 by decide) c_4
    replace y3_0 := a10_0 y3_0 c_4
    have mz_1 : (p0 : Int32).toInt % 2 = 0 := by omega
    clear y3_0
    refine lv_iinc (v := 1) (lv' := [(1, .int 1), (0, .int p0)]) hx hb dX12_lowest_11 hl_1 (k := 0) rfl (by decide +kernel) (by decide) rfl (fun ls_5 hl_5 => ?_)
    clear hl_1
    refine lv_goto (tgt := 2) hx hb dX12_lowest_14 (by decide) ?_
    refine lv_iload_n hx hb dX12_lowest_2 rfl (lv_at hl_5 1 rfl) ?_
    refine lv_i2l hx hb dX12_lowest_3 rfl ?_
    obtain ⟨z_6, ez_6, hz_6⟩ := e_i2l (x := p0) rfl
    refine q_cl z_6 ez_6 ?_
    clear ez_6
    refine lv_iload_n hx hb dX12_lowest_4 rfl (lv_at hl_5 0 rfl) ?_
    refine q_callSi (rest := []) (wr := []) X hK hT hA h_3 (fun sz => gX12_isIn_2d8709b l D cy z_6 ⟨by omega, by omega⟩ sz) wm_6_167 wm_6_169 wm_1_12 hd_X12_isIn wm_6_168 ⟨Nat.le_of_ble_eq_true rfl, Nat.le_of_ble_eq_true rfl⟩ hl_5.1 rfl (Nat.le_of_ble_eq_true rfl) dX12_lowest_5 ⟨Nat.le_of_ble_eq_true rfl, Nat.le_of_ble_eq_true rfl⟩ [] [] rfl rfl (by decide) rfl rfl (fun r_7 u_7 H locs w_7 h_7 => ?_)
    clear h_3
    obtain ⟨wr_7, y7_0, _⟩ := w_7
    have lq_7_1 : (1 : Int32).toInt = 1 := (by decide)
    replace h_7 : qW D _ _ [] _ _ := h_7
    refine lv_if_ne (tgt := 17) hx hb dX12_lowest_8 (by decide) (fun c_8 => ?_) (fun c_8 => ?_)
    · replace c_8 := i_ne (x := r_7) (y := 0) rfl (show (0 : Int32).toInt = 0 by decide) c_8
      replace y7_0 := a10_1 y7_0 c_8
      refine lv_iload_n hx hb dX12_lowest_17 rfl (lv_at hl_5 0 rfl) ?_
      exact q_iret X hr hlk hK h_7 rfl (fun _ => 0, fun _ _ => 0, fun _ _ => 0) ⟨⟨by decide +kernel, by decide +kernel⟩, (show LOWD p0 1 from lowd1 (by decide) (by (first | assumption | omega))), trivial⟩ [] rfl rfl dX12_lowest_18 (Nat.le_of_ble_eq_true rfl) (Nat.le_of_ble_eq_true rfl)
    · replace c_8 := i_eq (x := r_7) (y := 0) rfl (show (0 : Int32).toInt = 0 by decide) c_8
      replace y7_0 := a10_0 y7_0 c_8
      have mz_2 : (p0 : Int32).toInt % 4 = 0 := by omega
      clear y7_0
      clear mz_1
      refine lv_iinc (v := 2) (lv' := [(1, .int 2), (0, .int p0)]) hx hb dX12_lowest_11 hl_5 (k := 0) rfl (by decide +kernel) (by decide) rfl (fun ls_9 hl_9 => ?_)
      clear hl_5
      refine lv_goto (tgt := 2) hx hb dX12_lowest_14 (by decide) ?_
      refine lv_iload_n hx hb dX12_lowest_2 rfl (lv_at hl_9 1 rfl) ?_
      refine lv_i2l hx hb dX12_lowest_3 rfl ?_
      obtain ⟨z_10, ez_10, hz_10⟩ := e_i2l (x := p0) rfl
      refine q_cl z_10 ez_10 ?_
      clear ez_10
      refine lv_iload_n hx hb dX12_lowest_4 rfl (lv_at hl_9 0 rfl) ?_
      refine q_callSi (rest := []) (wr := []) X hK hT hA h_7 (fun sz => gX12_isIn_2b10bab l D cy z_10 ⟨by omega, by omega⟩ sz) wm_6_167 wm_6_169 wm_1_12 hd_X12_isIn wm_6_168 ⟨Nat.le_of_ble_eq_true rfl, Nat.le_of_ble_eq_true rfl⟩ hl_9.1 rfl (Nat.le_of_ble_eq_true rfl) dX12_lowest_5 ⟨Nat.le_of_ble_eq_true rfl, Nat.le_of_ble_eq_true rfl⟩ [] [] rfl rfl (by decide) rfl rfl (fun r_11 u_11 H locs w_11 h_11 => ?_)
      clear h_7
      obtain ⟨wr_11, y11_0, _⟩ := w_11
      have lq_11_1 : (2 : Int32).toInt = 2 := (by decide)
      replace h_11 : qW D _ _ [] _ _ := h_11
      refine lv_if_ne (tgt := 17) hx hb dX12_lowest_8 (by decide) (fun c_12 => ?_) (fun c_12 => ?_)
      · replace c_12 := i_ne (x := r_11) (y := 0) rfl (show (0 : Int32).toInt = 0 by decide) c_12
        replace y11_0 := a10_1 y11_0 c_12
        refine lv_iload_n hx hb dX12_lowest_17 rfl (lv_at hl_9 0 rfl) ?_
        exact q_iret X hr hlk hK h_11 rfl (fun _ => 0, fun _ _ => 0, fun _ _ => 0) ⟨⟨by decide +kernel, by decide +kernel⟩, (show LOWD p0 2 from lowd2 (by decide) (by (first | assumption | omega))), trivial⟩ [] rfl rfl dX12_lowest_18 (Nat.le_of_ble_eq_true rfl) (Nat.le_of_ble_eq_true rfl)
      · replace c_12 := i_eq (x := r_11) (y := 0) rfl (show (0 : Int32).toInt = 0 by decide) c_12
        replace y11_0 := a10_0 y11_0 c_12
        have mz_3 : (p0 : Int32).toInt % 8 = 0 := by omega
        clear y11_0
        clear mz_2
        refine lv_iinc (v := 3) (lv' := [(1, .int 3), (0, .int p0)]) hx hb dX12_lowest_11 hl_9 (k := 0) rfl (by decide +kernel) (by decide) rfl (fun ls_13 hl_13 => ?_)
        clear hl_9
        refine lv_goto (tgt := 2) hx hb dX12_lowest_14 (by decide) ?_
        refine lv_iload_n hx hb dX12_lowest_2 rfl (lv_at hl_13 1 rfl) ?_
        refine lv_i2l hx hb dX12_lowest_3 rfl ?_
        obtain ⟨z_14, ez_14, hz_14⟩ := e_i2l (x := p0) rfl
        refine q_cl z_14 ez_14 ?_
        clear ez_14
        refine lv_iload_n hx hb dX12_lowest_4 rfl (lv_at hl_13 0 rfl) ?_
        refine q_callSi (rest := []) (wr := []) X hK hT hA h_11 (fun sz => gX12_isIn_a432504 l D cy z_14 ⟨by omega, by omega⟩ sz) wm_6_167 wm_6_169 wm_1_12 hd_X12_isIn wm_6_168 ⟨Nat.le_of_ble_eq_true rfl, Nat.le_of_ble_eq_true rfl⟩ hl_13.1 rfl (Nat.le_of_ble_eq_true rfl) dX12_lowest_5 ⟨Nat.le_of_ble_eq_true rfl, Nat.le_of_ble_eq_true rfl⟩ [] [] rfl rfl (by decide) rfl rfl (fun r_15 u_15 H locs w_15 h_15 => ?_)
        clear h_11
        obtain ⟨wr_15, y15_0, _⟩ := w_15
        have lq_15_1 : (3 : Int32).toInt = 3 := (by decide)
        replace h_15 : qW D _ _ [] _ _ := h_15
        refine lv_if_ne (tgt := 17) hx hb dX12_lowest_8 (by decide) (fun c_16 => ?_) (fun c_16 => ?_)
        · replace c_16 := i_ne (x := r_15) (y := 0) rfl (show (0 : Int32).toInt = 0 by decide) c_16
          replace y15_0 := a10_1 y15_0 c_16
          refine lv_iload_n hx hb dX12_lowest_17 rfl (lv_at hl_13 0 rfl) ?_
          exact q_iret X hr hlk hK h_15 rfl (fun _ => 0, fun _ _ => 0, fun _ _ => 0) ⟨⟨by decide +kernel, by decide +kernel⟩, (show LOWD p0 3 from lowd3 (by decide) (by (first | assumption | omega))), trivial⟩ [] rfl rfl dX12_lowest_18 (Nat.le_of_ble_eq_true rfl) (Nat.le_of_ble_eq_true rfl)
        · replace c_16 := i_eq (x := r_15) (y := 0) rfl (show (0 : Int32).toInt = 0 by decide) c_16
          replace y15_0 := a10_0 y15_0 c_16
          have mz_4 : (p0 : Int32).toInt % 16 = 0 := by omega
          clear y15_0
          clear mz_3
          refine lv_iinc (v := 4) (lv' := [(1, .int 4), (0, .int p0)]) hx hb dX12_lowest_11 hl_13 (k := 0) rfl (by decide +kernel) (by decide) rfl (fun ls_17 hl_17 => ?_)
          clear hl_13
          refine lv_goto (tgt := 2) hx hb dX12_lowest_14 (by decide) ?_
          refine lv_iload_n hx hb dX12_lowest_2 rfl (lv_at hl_17 1 rfl) ?_
          refine lv_i2l hx hb dX12_lowest_3 rfl ?_
          obtain ⟨z_18, ez_18, hz_18⟩ := e_i2l (x := p0) rfl
          refine q_cl z_18 ez_18 ?_
          clear ez_18
          refine lv_iload_n hx hb dX12_lowest_4 rfl (lv_at hl_17 0 rfl) ?_
          refine q_callSi (rest := []) (wr := []) X hK hT hA h_15 (fun sz => gX12_isIn_214de6c l D cy z_18 ⟨by omega, by omega⟩ sz) wm_6_167 wm_6_169 wm_1_12 hd_X12_isIn wm_6_168 ⟨Nat.le_of_ble_eq_true rfl, Nat.le_of_ble_eq_true rfl⟩ hl_17.1 rfl (Nat.le_of_ble_eq_true rfl) dX12_lowest_5 ⟨Nat.le_of_ble_eq_true rfl, Nat.le_of_ble_eq_true rfl⟩ [] [] rfl rfl (by decide) rfl rfl (fun r_19 u_19 H locs w_19 h_19 => ?_)
          clear h_15
          obtain ⟨wr_19, y19_0, _⟩ := w_19
          have lq_19_1 : (4 : Int32).toInt = 4 := (by decide)
          replace h_19 : qW D _ _ [] _ _ := h_19
          refine lv_if_ne (tgt := 17) hx hb dX12_lowest_8 (by decide) (fun c_20 => ?_) (fun c_20 => ?_)
          · replace c_20 := i_ne (x := r_19) (y := 0) rfl (show (0 : Int32).toInt = 0 by decide) c_20
            replace y19_0 := a10_1 y19_0 c_20
            refine lv_iload_n hx hb dX12_lowest_17 rfl (lv_at hl_17 0 rfl) ?_
            exact q_iret X hr hlk hK h_19 rfl (fun _ => 0, fun _ _ => 0, fun _ _ => 0) ⟨⟨by decide +kernel, by decide +kernel⟩, (show LOWD p0 4 from lowd4 (by decide) (by (first | assumption | omega))), trivial⟩ [] rfl rfl dX12_lowest_18 (Nat.le_of_ble_eq_true rfl) (Nat.le_of_ble_eq_true rfl)
          · replace c_20 := i_eq (x := r_19) (y := 0) rfl (show (0 : Int32).toInt = 0 by decide) c_20
            replace y19_0 := a10_0 y19_0 c_20
            have mz_5 : (p0 : Int32).toInt % 32 = 0 := by omega
            clear y19_0
            clear mz_4
            refine lv_iinc (v := 5) (lv' := [(1, .int 5), (0, .int p0)]) hx hb dX12_lowest_11 hl_17 (k := 0) rfl (by decide +kernel) (by decide) rfl (fun ls_21 hl_21 => ?_)
            clear hl_17
            refine lv_goto (tgt := 2) hx hb dX12_lowest_14 (by decide) ?_
            refine lv_iload_n hx hb dX12_lowest_2 rfl (lv_at hl_21 1 rfl) ?_
            refine lv_i2l hx hb dX12_lowest_3 rfl ?_
            obtain ⟨z_22, ez_22, hz_22⟩ := e_i2l (x := p0) rfl
            refine q_cl z_22 ez_22 ?_
            clear ez_22
            refine lv_iload_n hx hb dX12_lowest_4 rfl (lv_at hl_21 0 rfl) ?_
            refine q_callSi (rest := []) (wr := []) X hK hT hA h_19 (fun sz => gX12_isIn_ac6e654 l D cy z_22 ⟨by omega, by omega⟩ sz) wm_6_167 wm_6_169 wm_1_12 hd_X12_isIn wm_6_168 ⟨Nat.le_of_ble_eq_true rfl, Nat.le_of_ble_eq_true rfl⟩ hl_21.1 rfl (Nat.le_of_ble_eq_true rfl) dX12_lowest_5 ⟨Nat.le_of_ble_eq_true rfl, Nat.le_of_ble_eq_true rfl⟩ [] [] rfl rfl (by decide) rfl rfl (fun r_23 u_23 H locs w_23 h_23 => ?_)
            clear h_19
            obtain ⟨wr_23, y23_0, _⟩ := w_23
            have lq_23_1 : (5 : Int32).toInt = 5 := (by decide)
            replace h_23 : qW D _ _ [] _ _ := h_23
            refine lv_if_ne (tgt := 17) hx hb dX12_lowest_8 (by decide) (fun c_24 => ?_) (fun c_24 => ?_)
            · replace c_24 := i_ne (x := r_23) (y := 0) rfl (show (0 : Int32).toInt = 0 by decide) c_24
              replace y23_0 := a10_1 y23_0 c_24
              refine lv_iload_n hx hb dX12_lowest_17 rfl (lv_at hl_21 0 rfl) ?_
              exact q_iret X hr hlk hK h_23 rfl (fun _ => 0, fun _ _ => 0, fun _ _ => 0) ⟨⟨by decide +kernel, by decide +kernel⟩, (show LOWD p0 5 from lowd5 (by decide) (by (first | assumption | omega))), trivial⟩ [] rfl rfl dX12_lowest_18 (Nat.le_of_ble_eq_true rfl) (Nat.le_of_ble_eq_true rfl)
            · replace c_24 := i_eq (x := r_23) (y := 0) rfl (show (0 : Int32).toInt = 0 by decide) c_24
              replace y23_0 := a10_0 y23_0 c_24
              have mz_6 : (p0 : Int32).toInt % 64 = 0 := by omega
              clear y23_0
              clear mz_5
              refine lv_iinc (v := 6) (lv' := [(1, .int 6), (0, .int p0)]) hx hb dX12_lowest_11 hl_21 (k := 0) rfl (by decide +kernel) (by decide) rfl (fun ls_25 hl_25 => ?_)
              clear hl_21
              refine lv_goto (tgt := 2) hx hb dX12_lowest_14 (by decide) ?_
              refine lv_iload_n hx hb dX12_lowest_2 rfl (lv_at hl_25 1 rfl) ?_
              refine lv_i2l hx hb dX12_lowest_3 rfl ?_
              obtain ⟨z_26, ez_26, hz_26⟩ := e_i2l (x := p0) rfl
              refine q_cl z_26 ez_26 ?_
              clear ez_26
              refine lv_iload_n hx hb dX12_lowest_4 rfl (lv_at hl_25 0 rfl) ?_
              refine q_callSi (rest := []) (wr := []) X hK hT hA h_23 (fun sz => gX12_isIn_c688203 l D cy z_26 ⟨by omega, by omega⟩ sz) wm_6_167 wm_6_169 wm_1_12 hd_X12_isIn wm_6_168 ⟨Nat.le_of_ble_eq_true rfl, Nat.le_of_ble_eq_true rfl⟩ hl_25.1 rfl (Nat.le_of_ble_eq_true rfl) dX12_lowest_5 ⟨Nat.le_of_ble_eq_true rfl, Nat.le_of_ble_eq_true rfl⟩ [] [] rfl rfl (by decide) rfl rfl (fun r_27 u_27 H locs w_27 h_27 => ?_)
              clear h_23
              obtain ⟨wr_27, y27_0, _⟩ := w_27
              have lq_27_1 : (6 : Int32).toInt = 6 := (by decide)
              replace h_27 : qW D _ _ [] _ _ := h_27
              refine lv_if_ne (tgt := 17) hx hb dX12_lowest_8 (by decide) (fun c_28 => ?_) (fun c_28 => ?_)
              · replace c_28 := i_ne (x := r_27) (y := 0) rfl (show (0 : Int32).toInt = 0 by decide) c_28
                replace y27_0 := a10_1 y27_0 c_28
                refine lv_iload_n hx hb dX12_lowest_17 rfl (lv_at hl_25 0 rfl) ?_
                exact q_iret X hr hlk hK h_27 rfl (fun _ => 0, fun _ _ => 0, fun _ _ => 0) ⟨⟨by decide +kernel, by decide +kernel⟩, (show LOWD p0 6 from lowd6 (by decide) (by (first | assumption | omega))), trivial⟩ [] rfl rfl dX12_lowest_18 (Nat.le_of_ble_eq_true rfl) (Nat.le_of_ble_eq_true rfl)
              · replace c_28 := i_eq (x := r_27) (y := 0) rfl (show (0 : Int32).toInt = 0 by decide) c_28
                replace y27_0 := a10_0 y27_0 c_28
                have mz_7 : (p0 : Int32).toInt % 128 = 0 := by omega
                clear y27_0
                clear mz_6
                refine lv_iinc (v := 7) (lv' := [(1, .int 7), (0, .int p0)]) hx hb dX12_lowest_11 hl_25 (k := 0) rfl (by decide +kernel) (by decide) rfl (fun ls_29 hl_29 => ?_)
                clear hl_25
                refine lv_goto (tgt := 2) hx hb dX12_lowest_14 (by decide) ?_
                refine lv_iload_n hx hb dX12_lowest_2 rfl (lv_at hl_29 1 rfl) ?_
                refine lv_i2l hx hb dX12_lowest_3 rfl ?_
                obtain ⟨z_30, ez_30, hz_30⟩ := e_i2l (x := p0) rfl
                refine q_cl z_30 ez_30 ?_
                clear ez_30
                refine lv_iload_n hx hb dX12_lowest_4 rfl (lv_at hl_29 0 rfl) ?_
                refine q_callSi (rest := []) (wr := []) X hK hT hA h_27 (fun sz => gX12_isIn_a28f3df l D cy z_30 ⟨by omega, by omega⟩ sz) wm_6_167 wm_6_169 wm_1_12 hd_X12_isIn wm_6_168 ⟨Nat.le_of_ble_eq_true rfl, Nat.le_of_ble_eq_true rfl⟩ hl_29.1 rfl (Nat.le_of_ble_eq_true rfl) dX12_lowest_5 ⟨Nat.le_of_ble_eq_true rfl, Nat.le_of_ble_eq_true rfl⟩ [] [] rfl rfl (by decide) rfl rfl (fun r_31 u_31 H locs w_31 h_31 => ?_)
                clear h_27
                obtain ⟨wr_31, y31_0, _⟩ := w_31
                have lq_31_1 : (7 : Int32).toInt = 7 := (by decide)
                replace h_31 : qW D _ _ [] _ _ := h_31
                refine lv_if_ne (tgt := 17) hx hb dX12_lowest_8 (by decide) (fun c_32 => ?_) (fun c_32 => ?_)
                · replace c_32 := i_ne (x := r_31) (y := 0) rfl (show (0 : Int32).toInt = 0 by decide) c_32
                  replace y31_0 := a10_1 y31_0 c_32
                  refine lv_iload_n hx hb dX12_lowest_17 rfl (lv_at hl_29 0 rfl) ?_
                  exact q_iret X hr hlk hK h_31 rfl (fun _ => 0, fun _ _ => 0, fun _ _ => 0) ⟨⟨by decide +kernel, by decide +kernel⟩, (show LOWD p0 7 from lowd7 (by decide) (by (first | assumption | omega))), trivial⟩ [] rfl rfl dX12_lowest_18 (Nat.le_of_ble_eq_true rfl) (Nat.le_of_ble_eq_true rfl)
                · replace c_32 := i_eq (x := r_31) (y := 0) rfl (show (0 : Int32).toInt = 0 by decide) c_32
                  replace y31_0 := a10_0 y31_0 c_32
                  have mz_8 : (p0 : Int32).toInt % 256 = 0 := by omega
                  clear y31_0
                  clear mz_7
                  refine lv_iinc (v := 8) (lv' := [(1, .int 8), (0, .int p0)]) hx hb dX12_lowest_11 hl_29 (k := 0) rfl (by decide +kernel) (by decide) rfl (fun ls_33 hl_33 => ?_)
                  clear hl_29
                  refine lv_goto (tgt := 2) hx hb dX12_lowest_14 (by decide) ?_
                  refine lv_iload_n hx hb dX12_lowest_2 rfl (lv_at hl_33 1 rfl) ?_
                  refine lv_i2l hx hb dX12_lowest_3 rfl ?_
                  obtain ⟨z_34, ez_34, hz_34⟩ := e_i2l (x := p0) rfl
                  refine q_cl z_34 ez_34 ?_
                  clear ez_34
                  refine lv_iload_n hx hb dX12_lowest_4 rfl (lv_at hl_33 0 rfl) ?_
                  refine q_callSi (rest := []) (wr := []) X hK hT hA h_31 (fun sz => gX12_isIn_f7f44e3 l D cy z_34 ⟨by omega, by omega⟩ sz) wm_6_167 wm_6_169 wm_1_12 hd_X12_isIn wm_6_168 ⟨Nat.le_of_ble_eq_true rfl, Nat.le_of_ble_eq_true rfl⟩ hl_33.1 rfl (Nat.le_of_ble_eq_true rfl) dX12_lowest_5 ⟨Nat.le_of_ble_eq_true rfl, Nat.le_of_ble_eq_true rfl⟩ [] [] rfl rfl (by decide) rfl rfl (fun r_35 u_35 H locs w_35 h_35 => ?_)
                  clear h_31
                  obtain ⟨wr_35, y35_0, _⟩ := w_35
                  have lq_35_1 : (8 : Int32).toInt = 8 := (by decide)
                  replace h_35 : qW D _ _ [] _ _ := h_35
                  refine lv_if_ne (tgt := 17) hx hb dX12_lowest_8 (by decide) (fun c_36 => ?_) (fun c_36 => ?_)
                  · replace c_36 := i_ne (x := r_35) (y := 0) rfl (show (0 : Int32).toInt = 0 by decide) c_36
                    replace y35_0 := a10_1 y35_0 c_36
                    refine lv_iload_n hx hb dX12_lowest_17 rfl (lv_at hl_33 0 rfl) ?_
                    exact q_iret X hr hlk hK h_35 rfl (fun _ => 0, fun _ _ => 0, fun _ _ => 0) ⟨⟨by decide +kernel, by decide +kernel⟩, (show LOWD p0 8 from lowd8 (by decide) (by (first | assumption | omega))), trivial⟩ [] rfl rfl dX12_lowest_18 (Nat.le_of_ble_eq_true rfl) (Nat.le_of_ble_eq_true rfl)
                  · replace c_36 := i_eq (x := r_35) (y := 0) rfl (show (0 : Int32).toInt = 0 by decide) c_36
                    replace y35_0 := a10_0 y35_0 c_36
                    have mz_9 : (p0 : Int32).toInt % 512 = 0 := by omega
                    clear y35_0
                    clear mz_8
                    refine lv_iinc (v := 9) (lv' := [(1, .int 9), (0, .int p0)]) hx hb dX12_lowest_11 hl_33 (k := 0) rfl (by decide +kernel) (by decide) rfl (fun ls_37 hl_37 => ?_)
                    clear hl_33
                    refine lv_goto (tgt := 2) hx hb dX12_lowest_14 (by decide) ?_
                    refine lv_iload_n hx hb dX12_lowest_2 rfl (lv_at hl_37 1 rfl) ?_
                    refine lv_i2l hx hb dX12_lowest_3 rfl ?_
                    obtain ⟨z_38, ez_38, hz_38⟩ := e_i2l (x := p0) rfl
                    refine q_cl z_38 ez_38 ?_
                    clear ez_38
                    refine lv_iload_n hx hb dX12_lowest_4 rfl (lv_at hl_37 0 rfl) ?_
                    refine q_callSi (rest := []) (wr := []) X hK hT hA h_35 (fun sz => gX12_isIn_39c5110 l D cy z_38 ⟨by omega, by omega⟩ sz) wm_6_167 wm_6_169 wm_1_12 hd_X12_isIn wm_6_168 ⟨Nat.le_of_ble_eq_true rfl, Nat.le_of_ble_eq_true rfl⟩ hl_37.1 rfl (Nat.le_of_ble_eq_true rfl) dX12_lowest_5 ⟨Nat.le_of_ble_eq_true rfl, Nat.le_of_ble_eq_true rfl⟩ [] [] rfl rfl (by decide) rfl rfl (fun r_39 u_39 H locs w_39 h_39 => ?_)
                    clear h_35
                    obtain ⟨wr_39, y39_0, _⟩ := w_39
                    have lq_39_1 : (9 : Int32).toInt = 9 := (by decide)
                    replace h_39 : qW D _ _ [] _ _ := h_39
                    refine lv_if_ne (tgt := 17) hx hb dX12_lowest_8 (by decide) (fun c_40 => ?_) (fun c_40 => ?_)
                    · replace c_40 := i_ne (x := r_39) (y := 0) rfl (show (0 : Int32).toInt = 0 by decide) c_40
                      replace y39_0 := a10_1 y39_0 c_40
                      refine lv_iload_n hx hb dX12_lowest_17 rfl (lv_at hl_37 0 rfl) ?_
                      exact q_iret X hr hlk hK h_39 rfl (fun _ => 0, fun _ _ => 0, fun _ _ => 0) ⟨⟨by decide +kernel, by decide +kernel⟩, (show LOWD p0 9 from lowd9 (by decide) (by (first | assumption | omega))), trivial⟩ [] rfl rfl dX12_lowest_18 (Nat.le_of_ble_eq_true rfl) (Nat.le_of_ble_eq_true rfl)
                    · replace c_40 := i_eq (x := r_39) (y := 0) rfl (show (0 : Int32).toInt = 0 by decide) c_40
                      replace y39_0 := a10_0 y39_0 c_40
                      have mz_10 : (p0 : Int32).toInt % 1024 = 0 := by omega
                      clear y39_0
                      clear mz_9
                      refine lv_iinc (v := 10) (lv' := [(1, .int 10), (0, .int p0)]) hx hb dX12_lowest_11 hl_37 (k := 0) rfl (by decide +kernel) (by decide) rfl (fun ls_41 hl_41 => ?_)
                      clear hl_37
                      refine lv_goto (tgt := 2) hx hb dX12_lowest_14 (by decide) ?_
                      exfalso
                      omega
set_option maxHeartbeats 4000000 in
set_option maxRecDepth 100000 in
theorem gX12_laysParted_f6bf834 (l : Launch) (D : va_G) (cy : Nat → ClassId) (h0 : Nat) (h1 : Nat) (h2 : Nat) (h3 : Nat) (p0 : Int32) (w0 : Value) (w1 : Value) (w2 : Value) (p1 : Int32) (p2 : Int32) (p3 : Int32) (p4 : Int32) (p5 : Int32) (p6 : Int32) (p7 : Int32) (p8 : Int32) (p9 : Int32) (p10 : Int32) (p11 : Int32) (w3 : Value) (w4 : Value) (w5 : Value) (w6 : Value) (p12 : Int32) (p13 : Int32) (w7 : Value) (w8 : Value) (p14 : Int32) (p15 : Int32) (w9 : Value) (w10 : Value) (w11 : Value) (w12 : Value) (w13 : Value) (p16 : Int32) (w14 : Value) (w15 : Value) (w16 : Value) (f0 : Nat → Int32) (p17 : Int32) (f1 : Nat → Int32) (f2 : Nat → Int32) (hp0 : 0 ≤ (p0).toInt ∧ (p0).toInt ≤ 0) (hp1 : 0 ≤ (p1).toInt ∧ (p1).toInt ≤ 900) (hp2 : 0 ≤ (p2).toInt ∧ (p2).toInt ≤ 900) (hp3 : 0 ≤ (p3).toInt ∧ (p3).toInt ≤ 900) (hp4 : 0 ≤ (p4).toInt ∧ (p4).toInt ≤ 900) (hp5 : (-2147483648) ≤ (p5).toInt ∧ (p5).toInt ≤ 2147483647) (hp6 : 0 ≤ (p6).toInt ∧ (p6).toInt ≤ 999) (hp7 : (-2147483648) ≤ (p7).toInt ∧ (p7).toInt ≤ 2147483647) (hp8 : (-2147483648) ≤ (p8).toInt ∧ (p8).toInt ≤ 2147483647) (hp9 : (-2147483648) ≤ (p9).toInt ∧ (p9).toInt ≤ 2147483647) (hp10 : (-2147483648) ≤ (p10).toInt ∧ (p10).toInt ≤ 2147483647) (hp11 : (-2147483648) ≤ (p11).toInt ∧ (p11).toInt ≤ 2147483647) (hp12 : (-2147483648) ≤ (p12).toInt ∧ (p12).toInt ≤ 2147483647) (hp13 : (-2147483648) ≤ (p13).toInt ∧ (p13).toInt ≤ 2147483647) (hp14 : (-2147483648) ≤ (p14).toInt ∧ (p14).toInt ≤ 2147483647) (hp15 : (-2147483648) ≤ (p15).toInt ∧ (p15).toInt ≤ 2147483647) (hp16 : (-2147483648) ≤ (p16).toInt ∧ (p16).toInt ≤ 2147483647) (hp17 : 0 ≤ (p17).toInt ∧ (p17).toInt ≤ 10) (htf0_84 : f0 84 = p17) (rf0 : AL f0) (rf1 : RG f1 10 0 1023) (sz : Nat) : MV l yX12_laysParted cX12_laysParted 5 { frames := 2, cells := 0, slots := 0, locals := 43 } [.ref h0] D cy (wk_77052d223 cy h0 p0 h1 w0 w1 w2 p1 p2 p3 p4 p5 p6 p7 p8 p9 p10 p11 w3 w4 w5 h2 w6 p12 p13 h3 w7 w8 p14 p15 w9 w10 w11 w12 w13 p16 w14 w15 w16 h1 f0 h2 f1 h3 f2) sz (fun u => True) (fun u => (wk_77052d223 cy h0 p0 h1 w0 w1 w2 p1 p2 p3 p4 p5 p6 p7 p8 p9 p10 p11 w3 w4 w5 h2 w6 p12 p13 h3 w7 w8 p14 p15 w9 w10 w11 w12 w13 p16 w14 w15 w16 h1 f0 h2 f1 h3 (u.2.1 0))) 0 0 := by
  refine q_ent (own := RX12) (by decide) rfl (Nat.le_of_ble_eq_true rfl) (fun p e s m below meth c ls X hr hlk hnm hK hT h hA hl => ?_)
  obtain ⟨hx, hb, hml, hown, ht⟩ := id X
  replace hl : lv_has ls 5 [(0, .ref h0)] := hl
  refine lv_aload_n hx hb dX12_laysParted_0 rfl (lv_at hl 0 rfl) ?_
  refine q_get X hK h 0 rfl rfl wf_12 23 (by decide) rfl wm_5_193 dX12_laysParted_1 ?_
  refine lv_iconst (v := 0) hx hb dX12_laysParted_4 (by decide) ?_
  refine lv_iconst (v := 1) hx hb dX12_laysParted_5 (by decide) ?_
  refine q_iast X hK h 3 rfl (q_in (by decide +kernel)) dX12_laysParted_6 (fun H locs h_2 => ?_)
  clear h
  replace h_2 : qW D _ _ (wk_77052d223 cy h0 p0 h1 w0 w1 w2 p1 p2 p3 p4 p5 p6 p7 p8 p9 p10 p11 w3 w4 w5 h2 w6 p12 p13 h3 w7 w8 p14 p15 w9 w10 w11 w12 w13 p16 w14 w15 w16 h1 f0 h2 f1 h3 (upd f2 (Int32.toNatClampNeg 0) 1)) _ _ := h_2
  obtain ⟨F_1, eF_1⟩ : ∃ z, (upd f2 (Int32.toNatClampNeg 0) 1) = z := ⟨_, rfl⟩
  rw [eF_1] at h_2
  clear eF_1
  refine lv_iconst (v := 1) hx hb dX12_laysParted_7 (by decide) ?_
  refine lv_istore_n (lv' := [(1, .int 1), (0, .ref h0)]) hx hb dX12_laysParted_8 rfl hl (by decide) rfl (fun ls_3 hl_3 => ?_)
  clear hl
  refine q_wl (fun (v9_4_0 : Int32) H locs ls => ∃ v9_4_1 : Nat → Int32, (1 ≤ (v9_4_0).toInt ∧ (v9_4_0).toInt ≤ 1024) ∧ qW D (va_A (wk_77052d223 cy h0 p0 h1 w0 w1 w2 p1 p2 p3 p4 p5 p6 p7 p8 p9 p10 p11 w3 w4 w5 h2 w6 p12 p13 h3 w7 w8 p14 p15 w9 w10 w11 w12 w13 p16 w14 w15 w16 h1 f0 h2 f1 h3 f2) sz) s.heap (wk_77052d223 cy h0 p0 h1 w0 w1 w2 p1 p2 p3 p4 p5 p6 p7 p8 p9 p10 p11 w3 w4 w5 h2 w6 p12 p13 h3 w7 w8 p14 p15 w9 w10 w11 w12 w13 p16 w14 w15 w16 h1 f0 h2 f1 h3 v9_4_1) H locs ∧ lv_has ls 5 [(0, .ref h0), (1, .int v9_4_0)]) (fun (v9_4_0 : Int32) => (1025 - (v9_4_0).toInt).toNat) (fun q_9 ih_9 H locs ls hP => ?_) 1 ⟨F_1, ⟨by decide +kernel, by decide +kernel⟩, h_2, (lv_sub hl_3 [1, 0] rfl)⟩
  obtain ⟨v9_4_0, rfl⟩ : ∃ z, z = q_9 := ⟨_, rfl⟩
  obtain ⟨v9_4_1, hv9_4_0, h, hl⟩ := hP
  refine lv_iload_n hx hb dX12_laysParted_9 rfl (lv_at hl 1 rfl) ?_
  refine lv_iconst (v := 1) hx hb dX12_laysParted_10 (by decide) ?_
  refine lv_aload_n hx hb dX12_laysParted_11 rfl (lv_at hl 0 rfl) ?_
  refine q_get X hK h 0 rfl rfl wf_12 1 (by decide) rfl wm_5_171 dX12_laysParted_12 ?_
  refine lv_iconst (v := 2) hx hb dX12_laysParted_15 (by decide) ?_
  refine q_iald X hK h 1 rfl (q_in (by decide +kernel)) dX12_laysParted_16 ?_
  obtain ⟨z_5, ez_5, hz_5⟩ := al_P rf0 (x := 2) (show (2 : Int32).toInt = 2 by decide) (by omega) (by omega)
  refine q_c z_5 ez_5 ?_
  clear ez_5
  refine lv_ishl hx hb dX12_laysParted_17 ?_
  obtain ⟨z_6, ez_6, hz_6⟩ := e_shlk (p := z_5) 10 (by decide) rfl (by omega) (by omega)
  refine q_c z_6 ez_6 ?_
  clear ez_6
  refine lv_icmp_ge (tgt := 102) hx hb dX12_laysParted_18 (by decide) (fun c_7 => ?_) (fun c_7 => ?_)
  · replace c_7 := i_le (x := z_6) (y := v9_4_0) rfl rfl c_7
    exact q_vret X hr hlk hK h (fun _ => 0, (vcons v9_4_1 (fun _ => (fun _ => 0))), fun _ _ => 0) trivial [0, 1, 2, 3] rfl rfl dX12_laysParted_102 (Nat.le_of_ble_eq_true rfl) (Nat.le_of_ble_eq_true rfl)
  · replace c_7 := i_nle (x := z_6) (y := v9_4_0) rfl rfl c_7
    refine lv_iload_n hx hb dX12_laysParted_21 rfl (lv_at hl 1 rfl) ?_
    refine q_callSi (rest := []) (wr := (wk_77052d223 cy h0 p0 h1 w0 w1 w2 p1 p2 p3 p4 p5 p6 p7 p8 p9 p10 p11 w3 w4 w5 h2 w6 p12 p13 h3 w7 w8 p14 p15 w9 w10 w11 w12 w13 p16 w14 w15 w16 h1 f0 h2 f1 h3 v9_4_1)) X hK hT hA h (fun sz => gX12_lowest_51df8cb l D cy v9_4_0 ⟨by omega, by omega⟩ sz) wm_7_67 wm_7_69 wm_1_12 hd_X12_lowest wm_7_68 ⟨Nat.le_of_ble_eq_true rfl, Nat.le_of_ble_eq_true rfl⟩ hl.1 rfl (Nat.le_of_ble_eq_true rfl) dX12_laysParted_22 ⟨Nat.le_of_ble_eq_true rfl, Nat.le_of_ble_eq_true rfl⟩ [] [0, 1, 2, 3] rfl rfl (by decide) rfl rfl (fun r_8 u_8 H locs w_8 h_8 => ?_)
    clear h
    obtain ⟨wr_8, y8_0, _⟩ := w_8
    replace h_8 : qW D _ _ (wk_77052d223 cy h0 p0 h1 w0 w1 w2 p1 p2 p3 p4 p5 p6 p7 p8 p9 p10 p11 w3 w4 w5 h2 w6 p12 p13 h3 w7 w8 p14 p15 w9 w10 w11 w12 w13 p16 w14 w15 w16 h1 f0 h2 f1 h3 v9_4_1) _ _ := h_8
    refine lv_istore_n (lv' := [(2, .int r_8), (0, .ref h0), (1, .int v9_4_0)]) hx hb dX12_laysParted_25 rfl hl (by decide) rfl (fun ls_9 hl_9 => ?_)
    clear hl
    refine lv_iconst (v := 0) hx hb dX12_laysParted_26 (by decide) ?_
    refine lv_istore_n (lv' := [(3, .int 0), (2, .int r_8), (0, .ref h0), (1, .int v9_4_0)]) hx hb dX12_laysParted_27 rfl hl_9 (by decide) rfl (fun ls_10 hl_10 => ?_)
    clear hl_9
    refine lv_iload_n hx hb dX12_laysParted_28 rfl (lv_at hl_10 1 rfl) ?_
    refine lv_iconst (v := 1) hx hb dX12_laysParted_29 (by decide) ?_
    refine lv_iadd hx hb dX12_laysParted_30 ?_
    obtain ⟨z_11, ez_11, hz_11⟩ := e_add (x := r_8) (y := 1) rfl (show (1 : Int32).toInt = 1 by decide) (by omega) (by omega)
    refine q_c z_11 ez_11 ?_
    clear ez_11
    refine lv_istore (lv' := [(4, .int z_11), (3, .int 0), (2, .int r_8), (0, .ref h0), (1, .int v9_4_0)]) hx hb dX12_laysParted_31 hl_10 (by decide) rfl (fun ls_12 hl_12 => ?_)
    clear hl_10
    refine q_wl (fun (q : Int32 × Int32) H locs ls => match q with | (v33_13_0, v33_13_1) => (1 ≤ (v33_13_0).toInt ∧ (v33_13_0).toInt ≤ 10) ∧ ((-2147483648) ≤ (v33_13_1).toInt ∧ (v33_13_1).toInt ≤ 2147483647) ∧ qW D (va_A (wk_77052d223 cy h0 p0 h1 w0 w1 w2 p1 p2 p3 p4 p5 p6 p7 p8 p9 p10 p11 w3 w4 w5 h2 w6 p12 p13 h3 w7 w8 p14 p15 w9 w10 w11 w12 w13 p16 w14 w15 w16 h1 f0 h2 f1 h3 f2) sz) s.heap (wk_77052d223 cy h0 p0 h1 w0 w1 w2 p1 p2 p3 p4 p5 p6 p7 p8 p9 p10 p11 w3 w4 w5 h2 w6 p12 p13 h3 w7 w8 p14 p15 w9 w10 w11 w12 w13 p16 w14 w15 w16 h1 f0 h2 f1 h3 v9_4_1) H locs ∧ lv_has ls 5 [(0, .ref h0), (1, .int v9_4_0), (2, .int r_8), (3, .int v33_13_1), (4, .int v33_13_0)]) (fun (q : Int32 × Int32) => match q with | (v33_13_0, v33_13_1) => (11 - (v33_13_0).toInt).toNat) (fun q_33 ih_33 H locs ls hP => ?_) (z_11, 0) ⟨⟨by omega, by omega⟩, ⟨by decide +kernel, by decide +kernel⟩, h_8, (lv_sub hl_12 [3, 4, 2, 1, 0] rfl)⟩
    obtain ⟨v33_13_0, v33_13_1⟩ := q_33
    obtain ⟨hv33_13_0, hv33_13_1, h, hl⟩ := hP
    refine lv_iload hx hb dX12_laysParted_33 (lv_at hl 4 rfl) ?_
    refine lv_aload_n hx hb dX12_laysParted_35 rfl (lv_at hl 0 rfl) ?_
    refine q_get X hK h 0 rfl rfl wf_12 1 (by decide) rfl wm_5_171 dX12_laysParted_36 ?_
    refine lv_iconst (v := 2) hx hb dX12_laysParted_39 (by decide) ?_
    refine q_iald X hK h 1 rfl (q_in (by decide +kernel)) dX12_laysParted_40 ?_
    obtain ⟨z_14, ez_14, hz_14⟩ := al_P rf0 (x := 2) (show (2 : Int32).toInt = 2 by decide) (by omega) (by omega)
    refine q_c z_14 ez_14 ?_
    clear ez_14
    refine lv_icmp_ge (tgt := 89) hx hb dX12_laysParted_41 (by decide) (fun c_15 => ?_) (fun c_15 => ?_)
    · replace c_15 := i_le (x := z_14) (y := v33_13_0) rfl rfl c_15
      refine lv_aload_n hx hb dX12_laysParted_89 rfl (lv_at hl 0 rfl) ?_
      refine q_get X hK h 0 rfl rfl wf_12 23 (by decide) rfl wm_5_193 dX12_laysParted_90 ?_
      refine lv_iload_n hx hb dX12_laysParted_93 rfl (lv_at hl 1 rfl) ?_
      refine lv_iload_n hx hb dX12_laysParted_94 rfl (lv_at hl 3 rfl) ?_
      refine q_iast X hK h 3 rfl (i_in rfl (by omega) (by omega)) dX12_laysParted_95 (fun H locs h_17 => ?_)
      clear h
      replace h_17 : qW D _ _ (wk_77052d223 cy h0 p0 h1 w0 w1 w2 p1 p2 p3 p4 p5 p6 p7 p8 p9 p10 p11 w3 w4 w5 h2 w6 p12 p13 h3 w7 w8 p14 p15 w9 w10 w11 w12 w13 p16 w14 w15 w16 h1 f0 h2 f1 h3 (upd v9_4_1 (Int32.toNatClampNeg v9_4_0) v33_13_1)) _ _ := h_17
      obtain ⟨F_16, eF_16⟩ : ∃ z, (upd v9_4_1 (Int32.toNatClampNeg v9_4_0) v33_13_1) = z := ⟨_, rfl⟩
      rw [eF_16] at h_17
      clear eF_16
      obtain ⟨z_18, ez_18, hz_18⟩ := e_add (x := v9_4_0) (y := Int32.ofInt 1) rfl (b := 1) (by decide) (by omega) (by omega)
      refine lv_iinc (v := z_18) (lv' := [(1, .int z_18), (0, .ref h0), (2, .int r_8), (3, .int v33_13_1), (4, .int v33_13_0)]) hx hb dX12_laysParted_96 hl (k := 1) rfl ez_18 (by decide) rfl (fun ls_18 hl_18 => ?_)
      clear hl
      refine lv_goto (tgt := 9) hx hb dX12_laysParted_99 (by decide) ?_
      exact ih_9 z_18 (by show (1025 - (z_18).toInt).toNat < (1025 - (v9_4_0).toInt).toNat; omega) _ _ _ ⟨F_16, ⟨by omega, by omega⟩, h_17, (lv_sub hl_18 [1, 0] rfl)⟩
    · replace c_15 := i_nle (x := z_14) (y := v33_13_0) rfl rfl c_15
      refine lv_iload_n hx hb dX12_laysParted_44 rfl (lv_at hl 1 rfl) ?_
      refine lv_aload_n hx hb dX12_laysParted_45 rfl (lv_at hl 0 rfl) ?_
      refine q_get X hK h 0 rfl rfl wf_12 19 (by decide) rfl wm_5_189 dX12_laysParted_46 ?_
      refine lv_iload_n hx hb dX12_laysParted_49 rfl (lv_at hl 2 rfl) ?_
      refine q_iald X hK h 2 rfl (i_in rfl (by omega) (by omega)) dX12_laysParted_50 ?_
      obtain ⟨z_19, ez_19, hz_19⟩ := rg_get rf1 (x := r_8) rfl (by omega) (by omega)
      refine q_c z_19 ez_19 ?_
      clear ez_19
      refine lv_iand hx hb dX12_laysParted_51 ?_
      obtain ⟨z_20, ez_20, hz_20⟩ := e_and2 (x := v9_4_0) (y := z_19) rfl (by omega)
      refine q_c z_20 ez_20 ?_
      clear ez_20
      refine lv_i2l hx hb dX12_laysParted_52 rfl ?_
      obtain ⟨z_21, ez_21, hz_21⟩ := e_i2l (x := z_20) rfl
      refine q_cl z_21 ez_21 ?_
      clear ez_21
      refine lv_iload hx hb dX12_laysParted_53 (lv_at hl 4 rfl) ?_
      refine q_callSi (rest := []) (wr := (wk_77052d223 cy h0 p0 h1 w0 w1 w2 p1 p2 p3 p4 p5 p6 p7 p8 p9 p10 p11 w3 w4 w5 h2 w6 p12 p13 h3 w7 w8 p14 p15 w9 w10 w11 w12 w13 p16 w14 w15 w16 h1 f0 h2 f1 h3 v9_4_1)) X hK hT hA h (fun sz => gX12_isIn_b0455a8 l D cy z_21 v33_13_0 ⟨by omega, by omega⟩ ⟨by omega, by omega⟩ sz) wm_6_167 wm_6_169 wm_1_12 hd_X12_isIn wm_6_168 ⟨Nat.le_of_ble_eq_true rfl, Nat.le_of_ble_eq_true rfl⟩ hl.1 rfl (Nat.le_of_ble_eq_true rfl) dX12_laysParted_55 ⟨Nat.le_of_ble_eq_true rfl, Nat.le_of_ble_eq_true rfl⟩ [] [0, 1, 2, 3] rfl rfl (by decide) rfl rfl (fun r_22 u_22 H locs w_22 h_22 => ?_)
      clear h
      obtain ⟨wr_22, _⟩ := w_22
      replace h_22 : qW D _ _ (wk_77052d223 cy h0 p0 h1 w0 w1 w2 p1 p2 p3 p4 p5 p6 p7 p8 p9 p10 p11 w3 w4 w5 h2 w6 p12 p13 h3 w7 w8 p14 p15 w9 w10 w11 w12 w13 p16 w14 w15 w16 h1 f0 h2 f1 h3 v9_4_1) _ _ := h_22
      refine q_jn (pc2 := 83) (fun H locs ls st => ∃ v83_23_0 : Int32, ((-2147483648) ≤ (v83_23_0).toInt ∧ (v83_23_0).toInt ≤ 2147483647) ∧ st = [] ∧ qW D (va_A (wk_77052d223 cy h0 p0 h1 w0 w1 w2 p1 p2 p3 p4 p5 p6 p7 p8 p9 p10 p11 w3 w4 w5 h2 w6 p12 p13 h3 w7 w8 p14 p15 w9 w10 w11 w12 w13 p16 w14 w15 w16 h1 f0 h2 f1 h3 f2) sz) s.heap (wk_77052d223 cy h0 p0 h1 w0 w1 w2 p1 p2 p3 p4 p5 p6 p7 p8 p9 p10 p11 w3 w4 w5 h2 w6 p12 p13 h3 w7 w8 p14 p15 w9 w10 w11 w12 w13 p16 w14 w15 w16 h1 f0 h2 f1 h3 v9_4_1) H locs ∧ lv_has ls 5 [(0, .ref h0), (1, .int v9_4_0), (2, .int r_8), (3, .int v83_23_0), (4, .int v33_13_0)]) (fun H locs ls st hP => ?_) (fun J_83 => ?_)
      · obtain ⟨v83_23_0, hv83_23_0, rfl, h, hl⟩ := hP
        obtain ⟨z_24, ez_24, hz_24⟩ := e_add (x := v33_13_0) (y := Int32.ofInt 1) rfl (b := 1) (by decide) (by omega) (by omega)
        refine lv_iinc (v := z_24) (lv' := [(4, .int z_24), (0, .ref h0), (1, .int v9_4_0), (2, .int r_8), (3, .int v83_23_0)]) hx hb dX12_laysParted_83 hl (k := 4) rfl ez_24 (by decide) rfl (fun ls_24 hl_24 => ?_)
        clear hl
        refine lv_goto (tgt := 33) hx hb dX12_laysParted_86 (by decide) ?_
        exact ih_33 (z_24, v83_23_0) (by show (11 - (z_24).toInt).toNat < (11 - (v33_13_0).toInt).toNat; omega) _ _ _ ⟨⟨by omega, by omega⟩, hv83_23_0, h, (lv_sub hl_24 [1, 2, 3, 4, 0] rfl)⟩
      · skip
        refine lv_if_eq (tgt := 83) hx hb dX12_laysParted_58 (by decide) (fun c_25 => ?_) (fun c_25 => ?_)
        · replace c_25 := i_eq (x := r_22) (y := 0) rfl (show (0 : Int32).toInt = 0 by decide) c_25
          exact J_83 _ _ _ _ ⟨v33_13_1, hv33_13_1, rfl, h_22, (lv_sub hl [0, 1, 2, 3, 4] rfl)⟩
        · replace c_25 := i_ne (x := r_22) (y := 0) rfl (show (0 : Int32).toInt = 0 by decide) c_25
          refine lv_iload_n hx hb dX12_laysParted_61 rfl (lv_at hl 3 rfl) ?_
          refine lv_aload_n hx hb dX12_laysParted_62 rfl (lv_at hl 0 rfl) ?_
          refine q_get X hK h_22 0 rfl rfl wf_12 23 (by decide) rfl wm_5_193 dX12_laysParted_63 ?_
          refine lv_iload_n hx hb dX12_laysParted_66 rfl (lv_at hl 1 rfl) ?_
          refine lv_iconst (v := 1) hx hb dX12_laysParted_67 (by decide) ?_
          refine lv_iload_n hx hb dX12_laysParted_68 rfl (lv_at hl 2 rfl) ?_
          refine lv_ishl hx hb dX12_laysParted_69 ?_
          obtain ⟨z_26, ez_26, hz_26⟩ := e_shlk (p := r_8) 9 (by decide) rfl (by omega) (by omega)
          refine q_c z_26 ez_26 ?_
          clear ez_26
          refine lv_iconst (v := (-1)) hx hb dX12_laysParted_70 (by decide) ?_
          refine lv_ixor hx hb dX12_laysParted_71 ?_
          refine q_any (fun z_27 hz_27 => ?_)
          refine lv_iand hx hb dX12_laysParted_72 ?_
          obtain ⟨z_28, ez_28, hz_28⟩ := e_and1 (x := v9_4_0) (y := z_27) rfl (by omega)
          refine q_c z_28 ez_28 ?_
          clear ez_28
          refine lv_iconst (v := 1) hx hb dX12_laysParted_73 (by decide) ?_
          refine lv_iload hx hb dX12_laysParted_74 (lv_at hl 4 rfl) ?_
          refine lv_ishl hx hb dX12_laysParted_76 ?_
          obtain ⟨z_29, ez_29, hz_29⟩ := e_shlk (p := v33_13_0) 9 (by decide) rfl (by omega) (by omega)
          refine q_c z_29 ez_29 ?_
          clear ez_29
          refine lv_iconst (v := (-1)) hx hb dX12_laysParted_77 (by decide) ?_
          refine lv_ixor hx hb dX12_laysParted_78 ?_
          refine q_any (fun z_30 hz_30 => ?_)
          refine lv_iand hx hb dX12_laysParted_79 ?_
          obtain ⟨z_31, ez_31, hz_31⟩ := e_and1 (x := z_28) (y := z_30) rfl (by omega)
          refine q_c z_31 ez_31 ?_
          clear ez_31
          refine q_iald X hK h_22 3 rfl (i_in rfl (by omega) (by omega)) dX12_laysParted_80 ?_
          refine q_any (fun z_32 hz_32 => ?_)
          refine lv_iadd hx hb dX12_laysParted_81 ?_
          refine q_any (fun z_33 hz_33 => ?_)
          refine lv_istore_n (lv' := [(3, .int z_33), (0, .ref h0), (1, .int v9_4_0), (2, .int r_8), (4, .int v33_13_0)]) hx hb dX12_laysParted_82 rfl hl (by decide) rfl (fun ls_34 hl_34 => ?_)
          clear hl
          exact J_83 _ _ _ _ ⟨z_33, ⟨by omega, by omega⟩, rfl, h_22, (lv_sub hl_34 [1, 2, 3, 0, 4] rfl)⟩
set_option maxHeartbeats 4000000 in
set_option maxRecDepth 100000 in
theorem gX12_laysNow_7e7bd2c (l : Launch) (D : va_G) (cy : Nat → ClassId) (h0 : Nat) (h1 : Nat) (h2 : Nat) (h3 : Nat) (h4 : Nat) (h5 : Nat) (p0 : Int32) (w0 : Value) (w1 : Value) (w2 : Value) (p1 : Int32) (p2 : Int32) (p3 : Int32) (p4 : Int32) (p5 : Int32) (p6 : Int32) (p7 : Int32) (p8 : Int32) (p9 : Int32) (p10 : Int32) (p11 : Int32) (w3 : Value) (w4 : Value) (p12 : Int32) (p13 : Int32) (w5 : Value) (w6 : Value) (p14 : Int32) (p15 : Int32) (w7 : Value) (w8 : Value) (w9 : Value) (w10 : Value) (w11 : Value) (p16 : Int32) (w12 : Value) (w13 : Value) (w14 : Value) (f0 : Nat → Int32) (p17 : Int32) (f1 : Nat → Int32) (f2 : Nat → Int32) (f3 : Nat → Int32) (f4 : Nat → Int32) (hp0 : 0 ≤ (p0).toInt ∧ (p0).toInt ≤ 0) (hp1 : 0 ≤ (p1).toInt ∧ (p1).toInt ≤ 900) (hp2 : 0 ≤ (p2).toInt ∧ (p2).toInt ≤ 900) (hp3 : 0 ≤ (p3).toInt ∧ (p3).toInt ≤ 900) (hp4 : 0 ≤ (p4).toInt ∧ (p4).toInt ≤ 900) (hp5 : (-2147483648) ≤ (p5).toInt ∧ (p5).toInt ≤ 2147483647) (hp6 : 0 ≤ (p6).toInt ∧ (p6).toInt ≤ 999) (hp7 : (-2147483648) ≤ (p7).toInt ∧ (p7).toInt ≤ 2147483647) (hp8 : (-2147483648) ≤ (p8).toInt ∧ (p8).toInt ≤ 2147483647) (hp9 : (-2147483648) ≤ (p9).toInt ∧ (p9).toInt ≤ 2147483647) (hp10 : (-2147483648) ≤ (p10).toInt ∧ (p10).toInt ≤ 2147483647) (hp11 : (-2147483648) ≤ (p11).toInt ∧ (p11).toInt ≤ 2147483647) (hp12 : (-2147483648) ≤ (p12).toInt ∧ (p12).toInt ≤ 2147483647) (hp13 : (-2147483648) ≤ (p13).toInt ∧ (p13).toInt ≤ 2147483647) (hp14 : (-2147483648) ≤ (p14).toInt ∧ (p14).toInt ≤ 2147483647) (hp15 : (-2147483648) ≤ (p15).toInt ∧ (p15).toInt ≤ 2147483647) (hp16 : (-2147483648) ≤ (p16).toInt ∧ (p16).toInt ≤ 2147483647) (hp17 : 0 ≤ (p17).toInt ∧ (p17).toInt ≤ 10) (htf0_84 : f0 84 = p17) (rf0 : AL f0) (rf3 : RG f3 10 0 1023) (sz : Nat) : MV l yX12_laysNow cX12_laysNow 1 { frames := 4, cells := 0, slots := 0, locals := 94 } [.ref h0] D cy (wk_eecab3214 cy h0 p0 h1 w0 w1 w2 p1 p2 p3 p4 p5 p6 p7 p8 p9 p10 p11 h2 h3 w3 h4 w4 p12 p13 h5 w5 w6 p14 p15 w7 w8 w9 w10 w11 p16 w12 w13 w14 h1 f0 h2 f1 h3 f2 h4 f3 h5 f4) sz (fun u => RG (u.2.1 2) 10 0 1023 ∧ True) (fun u => (wk_eecab3214 cy h0 p0 h1 w0 w1 w2 p1 p2 p3 p4 p5 p6 p7 p8 p9 p10 p11 h2 h3 w3 h4 w4 p12 p13 h5 w5 w6 p14 p15 w7 w8 w9 w10 w11 p16 w12 w13 w14 h1 f0 h2 (u.2.1 0) h3 (u.2.1 1) h4 (u.2.1 2) h5 (u.2.1 3))) 0 0 := by
  refine q_ent (own := RX12) (by decide) rfl (Nat.le_of_ble_eq_true rfl) (fun p e s m below meth c ls X hr hlk hnm hK hT h hA hl => ?_)
  obtain ⟨hx, hb, hml, hown, ht⟩ := id X
  replace hl : lv_has ls 1 [(0, .ref h0)] := hl
  refine lv_aload_n hx hb dX12_laysNow_0 rfl (lv_at hl 0 rfl) ?_
  refine lv_aload_n hx hb dX12_laysNow_1 rfl (lv_at hl 0 rfl) ?_
  refine q_get X hK h 0 rfl rfl wf_12 1 (by decide) rfl wm_5_171 dX12_laysNow_2 ?_
  refine lv_bipush (v := 52) hx hb dX12_laysNow_5 (by decide) ?_
  refine q_iald X hK h 1 rfl (q_in (by decide +kernel)) dX12_laysNow_7 ?_
  refine q_any (fun z_1 hz_1 => ?_)
  refine q_callVv (rest := []) (wr := [(h5, .inl (cy 1, 1024, .inl f4))]) X hK hT hA h (fun sz => gX12_laysOpposed_6a814f8 l D cy h0 h1 h2 h3 h4 z_1 p0 w0 w1 w2 p1 p2 p3 p4 p5 p6 p7 p8 p9 p10 p11 w3 w4 p12 p13 (.ref h5) w5 w6 p14 p15 w7 w8 w9 w10 w11 p16 w12 w13 w14 f0 p17 f1 f2 f3 (i_rng _) hp0 hp1 hp2 hp3 hp4 (i_rng _) hp6 (i_rng _) (i_rng _) (i_rng _) (i_rng _) (i_rng _) (i_rng _) (i_rng _) (i_rng _) (i_rng _) (i_rng _) hp17 htf0_84 rf0 (rg_wide rf3 (by decide) (by decide)) sz) wm_7_59 wm_7_62 wm_1_12 hd_X12_laysOpposed wm_7_61 wp_6_12 (ci := 12) (q0 := 0) rfl rfl ⟨Nat.le_of_ble_eq_true rfl, Nat.le_of_ble_eq_true rfl⟩ hl.1 rfl (Nat.le_of_ble_eq_true rfl) dX12_laysNow_8 ⟨Nat.le_of_ble_eq_true rfl, Nat.le_of_ble_eq_true rfl⟩ [0, 1, 2, 3, 4] [5] rfl rfl (by decide) rfl rfl (fun u_2 H locs w_2 h_2 => ?_)
  clear h
  obtain ⟨w2_0, _⟩ := w_2
  replace h_2 : qW D _ _ (wk_330e90bb2 cy h5 f4 h0 p0 h1 w0 w1 w2 p1 p2 p3 p4 p5 p6 p7 p8 p9 p10 p11 h2 h3 w3 h4 w4 p12 p13 h5 w5 w6 p14 p15 w7 w8 w9 w10 w11 p16 w12 w13 w14 h1 f0 h2 (u_2.2.1 0) h3 (u_2.2.1 1) h4 (u_2.2.1 2)) _ _ := h_2
  refine lv_aload_n hx hb dX12_laysNow_11 rfl (lv_at hl 0 rfl) ?_
  refine q_callVv (rest := []) (wr := (wk_3fb6de35f cy h2 (u_2.2.1 0) h3 (u_2.2.1 1))) X hK hT hA h_2 (fun sz => gX12_laysParted_f6bf834 l D cy h0 h1 h4 h5 p0 w0 w1 w2 p1 p2 p3 p4 p5 p6 p7 p8 p9 p10 p11 (.ref h2) (.ref h3) w3 w4 p12 p13 w5 w6 p14 p15 w7 w8 w9 w10 w11 p16 w12 w13 w14 f0 p17 (u_2.2.1 2) f4 hp0 hp1 hp2 hp3 hp4 (i_rng _) hp6 (i_rng _) (i_rng _) (i_rng _) (i_rng _) (i_rng _) (i_rng _) (i_rng _) (i_rng _) (i_rng _) (i_rng _) hp17 htf0_84 rf0 (rg_wide w2_0 (by decide) (by decide)) sz) wm_7_63 wm_7_66 wm_1_12 hd_X12_laysParted wm_7_65 wp_6_13 (ci := 12) (q0 := 0) rfl rfl ⟨Nat.le_of_ble_eq_true rfl, Nat.le_of_ble_eq_true rfl⟩ hl.1 rfl (Nat.le_of_ble_eq_true rfl) dX12_laysNow_12 ⟨Nat.le_of_ble_eq_true rfl, Nat.le_of_ble_eq_true rfl⟩ [1, 2, 5, 0] [3, 4] rfl rfl (by decide) rfl rfl (fun u_3 H locs w_3 h_3 => ?_)
  clear h_2
  clear w_3
  replace h_3 : qW D _ _ (wk_e86de3109 cy h2 (u_2.2.1 0) h3 (u_2.2.1 1) h0 p0 h1 w0 w1 w2 p1 p2 p3 p4 p5 p6 p7 p8 p9 p10 p11 h2 h3 w3 h4 w4 p12 p13 h5 w5 w6 p14 p15 w7 w8 w9 w10 w11 p16 w12 w13 w14 h1 f0 h4 (u_2.2.1 2) h5 (u_3.2.1 0)) _ _ := h_3
  exact q_vret X hr hlk hK h_3 (fun _ => 0, (vcons (u_2.2.1 0) (vcons (u_2.2.1 1) (vcons (u_2.2.1 2) (vcons (u_3.2.1 0) (fun _ => (fun _ => 0)))))), fun _ _ => 0) ⟨(rg_wide w2_0 (by decide) (by decide)), trivial⟩ [2, 3, 0, 1, 4, 5] rfl rfl dX12_laysNow_15 (Nat.le_of_ble_eq_true rfl) (Nat.le_of_ble_eq_true rfl)
set_option maxHeartbeats 4000000 in
set_option maxRecDepth 100000 in
theorem gX12_sitsNow_472ffcf (l : Launch) (D : va_G) (cy : Nat → ClassId) (h0 : Nat) (h1 : Nat) (h2 : Nat) (h3 : Nat) (h4 : Nat) (h5 : Nat) (p0 : Int32) (p1 : Int32) (w0 : Value) (w1 : Value) (w2 : Value) (p2 : Int32) (p3 : Int32) (p4 : Int32) (p5 : Int32) (p6 : Int32) (p7 : Int32) (p8 : Int32) (p9 : Int32) (p10 : Int32) (p11 : Int32) (p12 : Int32) (w3 : Value) (w4 : Value) (p13 : Int32) (p14 : Int32) (w5 : Value) (w6 : Value) (p15 : Int32) (p16 : Int32) (w7 : Value) (w8 : Value) (w9 : Value) (w10 : Value) (w11 : Value) (p17 : Int32) (w12 : Value) (w13 : Value) (w14 : Value) (f0 : Nat → Int32) (p18 : Int32) (f1 : Nat → Int32) (f2 : Nat → Int32) (f3 : Nat → Int32) (f4 : Nat → Int32) (hp0 : 0 ≤ (p0).toInt ∧ (p0).toInt ≤ 1023) (hp1 : 0 ≤ (p1).toInt ∧ (p1).toInt ≤ 0) (hp2 : 0 ≤ (p2).toInt ∧ (p2).toInt ≤ 900) (hp3 : 0 ≤ (p3).toInt ∧ (p3).toInt ≤ 900) (hp4 : 0 ≤ (p4).toInt ∧ (p4).toInt ≤ 900) (hp5 : 0 ≤ (p5).toInt ∧ (p5).toInt ≤ 900) (hp6 : (-2147483648) ≤ (p6).toInt ∧ (p6).toInt ≤ 2147483647) (hp7 : 0 ≤ (p7).toInt ∧ (p7).toInt ≤ 999) (hp8 : (-2147483648) ≤ (p8).toInt ∧ (p8).toInt ≤ 2147483647) (hp9 : (-2147483648) ≤ (p9).toInt ∧ (p9).toInt ≤ 2147483647) (hp10 : (-2147483648) ≤ (p10).toInt ∧ (p10).toInt ≤ 2147483647) (hp11 : (-2147483648) ≤ (p11).toInt ∧ (p11).toInt ≤ 2147483647) (hp12 : (-2147483648) ≤ (p12).toInt ∧ (p12).toInt ≤ 2147483647) (hp13 : (-2147483648) ≤ (p13).toInt ∧ (p13).toInt ≤ 2147483647) (hp14 : (-2147483648) ≤ (p14).toInt ∧ (p14).toInt ≤ 2147483647) (hp15 : (-2147483648) ≤ (p15).toInt ∧ (p15).toInt ≤ 2147483647) (hp16 : (-2147483648) ≤ (p16).toInt ∧ (p16).toInt ≤ 2147483647) (hp17 : (-2147483648) ≤ (p17).toInt ∧ (p17).toInt ≤ 2147483647) (hp18 : 0 ≤ (p18).toInt ∧ (p18).toInt ≤ 10) (htf0_84 : f0 84 = p18) (rf0 : AL f0) (rf3 : RG f3 10 0 1023) (sz : Nat) : MI l yX12_sitsNow cX12_sitsNow 2 .boolean { frames := 5, cells := 0, slots := 0, locals := 114 } [.ref h0, .int p0] D cy (wk_eecab3214 cy h0 p1 h1 w0 w1 w2 p2 p3 p4 p5 p6 p7 p8 p9 p10 p11 p12 h2 h3 w3 h4 w4 p13 p14 h5 w5 w6 p15 p16 w7 w8 w9 w10 w11 p17 w12 w13 w14 h1 f0 h2 f1 h3 f2 h4 f3 h5 f4) sz (fun r u => (0 ≤ r.toInt ∧ r.toInt ≤ 1) ∧ RG (u.2.1 2) 10 0 1023 ∧ True) (fun u => (wk_eecab3214 cy h0 p1 h1 w0 w1 w2 p2 p3 p4 p5 p6 p7 p8 p9 p10 p11 p12 h2 h3 w3 h4 w4 p13 p14 h5 w5 w6 p15 p16 w7 w8 w9 w10 w11 p17 w12 w13 w14 h1 f0 h2 (u.2.1 0) h3 (u.2.1 1) h4 (u.2.1 2) h5 (u.2.1 3))) 0 0 := by
  refine q_ent (own := RX12) (by decide) rfl (Nat.le_of_ble_eq_true rfl) (fun p e s m below meth c ls X hr hlk hnm hK hT h hA hl => ?_)
  obtain ⟨hx, hb, hml, hown, ht⟩ := id X
  replace hl : lv_has ls 2 [(0, .ref h0), (1, .int p0)] := hl
  refine lv_aload_n hx hb dX12_sitsNow_0 rfl (lv_at hl 0 rfl) ?_
  refine q_callVv (rest := []) (wr := []) X hK hT hA h (fun sz => gX12_laysNow_7e7bd2c l D cy h0 h1 h2 h3 h4 h5 p1 w0 w1 w2 p2 p3 p4 p5 p6 p7 p8 p9 p10 p11 p12 w3 w4 p13 p14 w5 w6 p15 p16 w7 w8 w9 w10 w11 p17 w12 w13 w14 f0 p18 f1 f2 f3 f4 hp1 hp2 hp3 hp4 hp5 (i_rng _) hp7 (i_rng _) (i_rng _) (i_rng _) (i_rng _) (i_rng _) (i_rng _) (i_rng _) (i_rng _) (i_rng _) (i_rng _) hp18 htf0_84 rf0 (rg_wide rf3 (by decide) (by decide)) sz) wm_7_55 wm_7_58 wm_1_12 hd_X12_laysNow wm_7_57 wp_6_11 (ci := 12) (q0 := 0) rfl rfl ⟨Nat.le_of_ble_eq_true rfl, Nat.le_of_ble_eq_true rfl⟩ hl.1 rfl (Nat.le_of_ble_eq_true rfl) dX12_sitsNow_1 ⟨Nat.le_of_ble_eq_true rfl, Nat.le_of_ble_eq_true rfl⟩ [0, 1, 2, 3, 4, 5] [] rfl rfl (by decide) rfl rfl (fun u_1 H locs w_1 h_1 => ?_)
  clear h
  obtain ⟨w1_0, _⟩ := w_1
  replace h_1 : qW D _ _ (wk_eecab3214 cy h0 p1 h1 w0 w1 w2 p2 p3 p4 p5 p6 p7 p8 p9 p10 p11 p12 h2 h3 w3 h4 w4 p13 p14 h5 w5 w6 p15 p16 w7 w8 w9 w10 w11 p17 w12 w13 w14 h1 f0 h2 (u_1.2.1 0) h3 (u_1.2.1 1) h4 (u_1.2.1 2) h5 (u_1.2.1 3)) _ _ := h_1
  refine lv_aload_n hx hb dX12_sitsNow_4 rfl (lv_at hl 0 rfl) ?_
  refine q_get X hK h_1 0 rfl rfl wf_12 23 (by decide) rfl wm_5_193 dX12_sitsNow_5 ?_
  refine lv_iload_n hx hb dX12_sitsNow_8 rfl (lv_at hl 1 rfl) ?_
  refine q_iald X hK h_1 5 rfl (i_in rfl (by omega) (by omega)) dX12_sitsNow_9 ?_
  refine q_any (fun z_2 hz_2 => ?_)
  refine q_jn (pc2 := 18) (fun H locs ls st => ∃ v18_3_0 : Int32, (0 ≤ (v18_3_0).toInt ∧ (v18_3_0).toInt ≤ 1) ∧ st = [.int v18_3_0] ∧ qW D (va_A (wk_eecab3214 cy h0 p1 h1 w0 w1 w2 p2 p3 p4 p5 p6 p7 p8 p9 p10 p11 p12 h2 h3 w3 h4 w4 p13 p14 h5 w5 w6 p15 p16 w7 w8 w9 w10 w11 p17 w12 w13 w14 h1 f0 h2 f1 h3 f2 h4 f3 h5 f4) sz) s.heap (wk_eecab3214 cy h0 p1 h1 w0 w1 w2 p2 p3 p4 p5 p6 p7 p8 p9 p10 p11 p12 h2 h3 w3 h4 w4 p13 p14 h5 w5 w6 p15 p16 w7 w8 w9 w10 w11 p17 w12 w13 w14 h1 f0 h2 (u_1.2.1 0) h3 (u_1.2.1 1) h4 (u_1.2.1 2) h5 (u_1.2.1 3)) H locs ∧ lv_has ls 2 [(0, .ref h0), (1, .int p0)]) (fun H locs ls st hP => ?_) (fun J_18 => ?_)
  · obtain ⟨v18_3_0, hv18_3_0, rfl, h, hl⟩ := hP
    exact q_iret X hr hlk hK h (q_nz (by omega) (by omega)) (fun _ => 0, (vcons (u_1.2.1 0) (vcons (u_1.2.1 1) (vcons (u_1.2.1 2) (vcons (u_1.2.1 3) (fun _ => (fun _ => 0)))))), fun _ _ => 0) ⟨hv18_3_0, (rg_wide w1_0 (by decide) (by decide)), trivial⟩ [0, 1, 2, 3, 4, 5] rfl rfl dX12_sitsNow_18 (Nat.le_of_ble_eq_true rfl) (Nat.le_of_ble_eq_true rfl)
  · skip
    refine lv_if_le (tgt := 17) hx hb dX12_sitsNow_10 (by decide) (fun c_4 => ?_) (fun c_4 => ?_)
    · replace c_4 := i_le (x := z_2) (y := 0) rfl (show (0 : Int32).toInt = 0 by decide) c_4
      refine lv_iconst (v := 0) hx hb dX12_sitsNow_17 (by decide) ?_
      exact J_18 _ _ _ _ ⟨0, ⟨by decide +kernel, by decide +kernel⟩, rfl, h_1, (lv_sub hl [0, 1] rfl)⟩
    · replace c_4 := i_nle (x := z_2) (y := 0) rfl (show (0 : Int32).toInt = 0 by decide) c_4
      refine lv_iconst (v := 1) hx hb dX12_sitsNow_13 (by decide) ?_
      refine lv_goto (tgt := 18) hx hb dX12_sitsNow_14 (by decide) ?_
      exact J_18 _ _ _ _ ⟨1, ⟨by decide +kernel, by decide +kernel⟩, rfl, h_1, (lv_sub hl [0, 1] rfl)⟩
set_option maxHeartbeats 4000000 in
set_option maxRecDepth 100000 in
theorem gX12_isAgain_2833386 (l : Launch) (D : va_G) (cy : Nat → ClassId) (h0 : Nat) (h1 : Nat) (h2 : Nat) (p0 : Int32) (w0 : Value) (w1 : Value) (w2 : Value) (p1 : Int32) (p2 : Int32) (p3 : Int32) (p4 : Int32) (p5 : Int32) (p6 : Int32) (p7 : Int32) (p8 : Int32) (p9 : Int32) (p10 : Int32) (p11 : Int32) (w3 : Value) (w4 : Value) (w5 : Value) (w6 : Value) (p12 : Int32) (p13 : Int32) (w7 : Value) (w8 : Value) (w9 : Value) (p14 : Int32) (p15 : Int32) (w10 : Value) (w11 : Value) (w12 : Value) (w13 : Value) (w14 : Value) (p16 : Int32) (w15 : Value) (w16 : Value) (w17 : Value) (f0 : Nat → Int32) (p17 : Int32) (f1 : Nat → Int32) (hp0 : 0 ≤ (p0).toInt ∧ (p0).toInt ≤ 0) (hp1 : 0 ≤ (p1).toInt ∧ (p1).toInt ≤ 900) (hp2 : 0 ≤ (p2).toInt ∧ (p2).toInt ≤ 900) (hp3 : 0 ≤ (p3).toInt ∧ (p3).toInt ≤ 900) (hp4 : 0 ≤ (p4).toInt ∧ (p4).toInt ≤ 900) (hp5 : (-2147483648) ≤ (p5).toInt ∧ (p5).toInt ≤ 2147483647) (hp6 : 0 ≤ (p6).toInt ∧ (p6).toInt ≤ 999) (hp7 : (-2147483648) ≤ (p7).toInt ∧ (p7).toInt ≤ 2147483647) (hp8 : (-2147483648) ≤ (p8).toInt ∧ (p8).toInt ≤ 2147483647) (hp9 : (-2147483648) ≤ (p9).toInt ∧ (p9).toInt ≤ 2147483647) (hp10 : (-2147483648) ≤ (p10).toInt ∧ (p10).toInt ≤ 2147483647) (hp11 : (-2147483648) ≤ (p11).toInt ∧ (p11).toInt ≤ 2147483647) (hp12 : 0 ≤ (p12).toInt ∧ (p12).toInt ≤ 2) (hp13 : (-2147483648) ≤ (p13).toInt ∧ (p13).toInt ≤ 2147483647) (hp14 : (-2147483648) ≤ (p14).toInt ∧ (p14).toInt ≤ 2147483647) (hp15 : (-2147483648) ≤ (p15).toInt ∧ (p15).toInt ≤ 2147483647) (hp16 : (-2147483648) ≤ (p16).toInt ∧ (p16).toInt ≤ 2147483647) (hp17 : 0 ≤ (p17).toInt ∧ (p17).toInt ≤ 10) (htf0_84 : f0 84 = p17) (rf0 : AL f0) (rf1 : WA f1) (sz : Nat) : MV l yX12_isAgain cX12_isAgain 2 { frames := 0, cells := 0, slots := 0, locals := 0 } [.ref h0] D cy (wk_22f40a116 cy h0 p0 h1 w0 w1 w2 p1 p2 p3 p4 p5 p6 p7 p8 p9 p10 p11 w3 w4 w5 w6 h2 p12 p13 w7 w8 w9 p14 p15 w10 w11 w12 w13 w14 p16 w15 w16 w17 h1 f0 h2 f1) sz (fun u => AL (u.2.1 0) ∧ (u.2.1 0) 84 = p17 ∧ True) (fun u => (wk_22f40a116 cy h0 p0 h1 w0 w1 w2 p1 p2 p3 p4 p5 p6 p7 p8 p9 p10 p11 w3 w4 w5 w6 h2 p12 p13 w7 w8 w9 p14 p15 w10 w11 w12 w13 w14 p16 w15 w16 w17 h1 (u.2.1 0) h2 f1)) 0 0 := by
  refine q_ent (own := RX12) (by decide) rfl (Nat.le_of_ble_eq_true rfl) (fun p e s m below meth c ls X hr hlk hnm hK hT h hA hl => ?_)
  obtain ⟨hx, hb, hml, hown, ht⟩ := id X
  replace hl : lv_has ls 2 [(0, .ref h0)] := hl
  refine lv_iconst (v := 0) hx hb dX12_isAgain_0 (by decide) ?_
  refine lv_istore_n (lv' := [(1, .int 0), (0, .ref h0)]) hx hb dX12_isAgain_1 rfl hl (by decide) rfl (fun ls_1 hl_1 => ?_)
  clear hl
  refine q_wl (fun (v2_2_0 : Int32) H locs ls => ∃ v2_2_1 : Nat → Int32, (0 ≤ (v2_2_0).toInt ∧ (v2_2_0).toInt ≤ 32) ∧ v2_2_1 84 = p17 ∧ (CPY v2_2_1 f0 52 f1 0 ((v2_2_0 : Int32).toInt).toNat) ∧ qW D (va_A (wk_22f40a116 cy h0 p0 h1 w0 w1 w2 p1 p2 p3 p4 p5 p6 p7 p8 p9 p10 p11 w3 w4 w5 w6 h2 p12 p13 w7 w8 w9 p14 p15 w10 w11 w12 w13 w14 p16 w15 w16 w17 h1 f0 h2 f1) sz) s.heap (wk_22f40a116 cy h0 p0 h1 w0 w1 w2 p1 p2 p3 p4 p5 p6 p7 p8 p9 p10 p11 w3 w4 w5 w6 h2 p12 p13 w7 w8 w9 p14 p15 w10 w11 w12 w13 w14 p16 w15 w16 w17 h1 v2_2_1 h2 f1) H locs ∧ lv_has ls 2 [(0, .ref h0), (1, .int v2_2_0)]) (fun (v2_2_0 : Int32) => (33 - (v2_2_0).toInt).toNat) (fun q_2 ih_2 H locs ls hP => ?_) 0 ⟨f0, ⟨by decide +kernel, by decide +kernel⟩, htf0_84, (cp_0 (by decide)), h, (lv_sub hl_1 [1, 0] rfl)⟩
  obtain ⟨v2_2_0, rfl⟩ : ∃ z, z = q_2 := ⟨_, rfl⟩
  obtain ⟨v2_2_1, hv2_2_0, trv2_2_1_84, x3_0, h, hl⟩ := hP
  refine lv_iload_n hx hb dX12_isAgain_2 rfl (lv_at hl 1 rfl) ?_
  refine lv_bipush (v := 32) hx hb dX12_isAgain_3 (by decide) ?_
  refine lv_icmp_ge (tgt := 29) hx hb dX12_isAgain_5 (by decide) (fun c_4 => ?_) (fun c_4 => ?_)
  · replace c_4 := i_le (x := 32) (y := v2_2_0) (show (32 : Int32).toInt = 32 by decide) rfl c_4
    have cx_5 := al_again x3_0 (by omega) rf0 rf1
    exact q_vret X hr hlk hK h (fun _ => 0, (vcons v2_2_1 (fun _ => (fun _ => 0))), fun _ _ => 0) ⟨cx_5, trv2_2_1_84, trivial⟩ [0, 1, 2] rfl rfl dX12_isAgain_29 (Nat.le_of_ble_eq_true rfl) (Nat.le_of_ble_eq_true rfl)
  · replace c_4 := i_nle (x := 32) (y := v2_2_0) (show (32 : Int32).toInt = 32 by decide) rfl c_4
    refine lv_aload_n hx hb dX12_isAgain_8 rfl (lv_at hl 0 rfl) ?_
    refine q_get X hK h 0 rfl rfl wf_12 1 (by decide) rfl wm_5_171 dX12_isAgain_9 ?_
    refine lv_bipush (v := 52) hx hb dX12_isAgain_12 (by decide) ?_
    refine lv_iload_n hx hb dX12_isAgain_14 rfl (lv_at hl 1 rfl) ?_
    refine lv_iadd hx hb dX12_isAgain_15 ?_
    obtain ⟨z_6, ez_6, hz_6⟩ := e_add (x := 52) (y := v2_2_0) (show (52 : Int32).toInt = 52 by decide) rfl (by omega) (by omega)
    refine q_c z_6 ez_6 ?_
    clear ez_6
    refine lv_aload_n hx hb dX12_isAgain_16 rfl (lv_at hl 0 rfl) ?_
    refine q_get X hK h 0 rfl rfl wf_12 20 (by decide) rfl wm_5_190 dX12_isAgain_17 ?_
    refine lv_iload_n hx hb dX12_isAgain_20 rfl (lv_at hl 1 rfl) ?_
    refine q_iald X hK h 2 rfl (i_in rfl (by omega) (by omega)) dX12_isAgain_21 ?_
    obtain ⟨z_7, ez_7, hz_7⟩ := e_any (f1 v2_2_0.toNatClampNeg)
    refine q_c z_7 ez_7 ?_
    refine q_iast X hK h 1 rfl (i_in rfl (by omega) (by omega)) dX12_isAgain_22 (fun H locs h_9 => ?_)
    clear h
    replace h_9 : qW D _ _ (wk_22f40a116 cy h0 p0 h1 w0 w1 w2 p1 p2 p3 p4 p5 p6 p7 p8 p9 p10 p11 w3 w4 w5 w6 h2 p12 p13 w7 w8 w9 p14 p15 w10 w11 w12 w13 w14 p16 w15 w16 w17 h1 (upd v2_2_1 (Int32.toNatClampNeg z_6) z_7) h2 f1) _ _ := h_9
    obtain ⟨F_8, eF_8⟩ : ∃ z, (upd v2_2_1 (Int32.toNatClampNeg z_6) z_7) = z := ⟨_, rfl⟩
    have trF_8_84 := (tr_ne eF_8 trv2_2_1_84 rfl (by omega))
    rw [eF_8] at h_9
    have cs_10 := cp_s x3_0 ez_7 eF_8 (by omega) (by omega)
    obtain ⟨z_11, ez_11, hz_11⟩ := e_add (x := v2_2_0) (y := Int32.ofInt 1) rfl (b := 1) (by decide) (by omega) (by omega)
    refine lv_iinc (v := z_11) (lv' := [(1, .int z_11), (0, .ref h0)]) hx hb dX12_isAgain_23 hl (k := 1) rfl ez_11 (by decide) rfl (fun ls_11 hl_11 => ?_)
    clear hl
    refine lv_goto (tgt := 2) hx hb dX12_isAgain_26 (by decide) ?_
    exact ih_2 z_11 (by show (33 - (z_11).toInt).toNat < (33 - (v2_2_0).toInt).toNat; omega) _ _ _ ⟨F_8, ⟨by omega, by omega⟩, trF_8_84, (cp_n cs_10 (by (first | assumption | omega))), h_9, (lv_sub hl_11 [1, 0] rfl)⟩
set_option maxHeartbeats 4000000 in
set_option maxRecDepth 100000 in
theorem gX12_judge_669095e (l : Launch) (D : va_G) (cy : Nat → ClassId) (h0 : Nat) (h1 : Nat) (h2 : Nat) (h3 : Nat) (h4 : Nat) (h5 : Nat) (h6 : Nat) (h7 : Nat) (h8 : Nat) (h9 : Nat) (h10 : Nat) (p0 : Int32) (p1 : Int32) (p2 : Int32) (w0 : Value) (w1 : Value) (w2 : Value) (p3 : Int32) (p4 : Int32) (p5 : Int32) (p6 : Int32) (p7 : Int32) (p8 : Int32) (p9 : Int32) (p10 : Int32) (p11 : Int32) (p12 : Int32) (p13 : Int32) (p14 : Int32) (p15 : Int32) (w3 : Value) (w4 : Value) (p16 : Int32) (p17 : Int32) (w5 : Value) (w6 : Value) (w7 : Value) (w8 : Value) (w9 : Value) (p18 : Int32) (f0 : Nat → Int32) (p19 : Int32) (f1 : Nat → Int32) (f2 : Nat → Int32) (f3 : Nat → Int32) (f4 : Nat → Int32) (f5 : Nat → Int32) (f6 : Nat → Int32) (f7 : Nat → Int32) (f8 : Nat → Int32) (g0 : Nat → Int64) (hp0 : (-2147483648) ≤ (p0).toInt ∧ (p0).toInt ≤ 2147483647) (hp1 : (-2147483648) ≤ (p1).toInt ∧ (p1).toInt ≤ 2147483647) (hp2 : (-2147483648) ≤ (p2).toInt ∧ (p2).toInt ≤ 2147483647) (hp3 : 0 ≤ (p3).toInt ∧ (p3).toInt ≤ 900) (hp4 : 0 ≤ (p4).toInt ∧ (p4).toInt ≤ 900) (hp5 : 0 ≤ (p5).toInt ∧ (p5).toInt ≤ 900) (hp6 : 0 ≤ (p6).toInt ∧ (p6).toInt ≤ 900) (hp7 : (-2147483648) ≤ (p7).toInt ∧ (p7).toInt ≤ 2147483647) (hp8 : 0 ≤ (p8).toInt ∧ (p8).toInt ≤ 999) (hp9 : (-2147483648) ≤ (p9).toInt ∧ (p9).toInt ≤ 2147483647) (hp10 : (-2147483648) ≤ (p10).toInt ∧ (p10).toInt ≤ 2147483647) (hp11 : (-2147483648) ≤ (p11).toInt ∧ (p11).toInt ≤ 2147483647) (hp12 : (-2147483648) ≤ (p12).toInt ∧ (p12).toInt ≤ 2147483647) (hp13 : (-2147483648) ≤ (p13).toInt ∧ (p13).toInt ≤ 2147483647) (hp14 : (-2147483648) ≤ (p14).toInt ∧ (p14).toInt ≤ 2147483647) (hp15 : (-2147483648) ≤ (p15).toInt ∧ (p15).toInt ≤ 2147483647) (hp16 : (-2147483648) ≤ (p16).toInt ∧ (p16).toInt ≤ 2147483647) (hp17 : (-2147483648) ≤ (p17).toInt ∧ (p17).toInt ≤ 2147483647) (hp18 : (-2147483648) ≤ (p18).toInt ∧ (p18).toInt ≤ 2147483647) (hp19 : 0 ≤ (p19).toInt ∧ (p19).toInt ≤ 10) (htf0_84 : f0 84 = p19) (rf0 : AL f0) (rf3 : RG f3 3 0 9) (rf4 : RG f4 10 0 1023) (rf5 : WA f5) (rf8 : RG f8 4 0 40) (sz : Nat) : MI l yX12_judge cX12_judge 7 .int { frames := 6, cells := 0, slots := 0, locals := 139 } [.ref h0, .int p0, .int p1] D cy (wk_a2686efad cy h0 p2 h1 w0 w1 w2 p3 p4 p5 p6 p7 p8 p9 p10 p11 p12 p13 h2 h3 h4 h5 h6 p14 p15 h7 w3 w4 p16 p17 w5 w6 w7 w8 w9 p18 h8 h9 h10 h1 f0 h2 f1 h3 f2 h4 f3 h5 f4 h6 f5 h7 f6 h8 f7 h9 f8 h10 g0) sz (fun r u => ((-2147483648) ≤ r.toInt ∧ r.toInt ≤ 2147483647) ∧ RG (u.2.1 0) 3 0 9 ∧ RG (u.2.1 3) 10 0 1023 ∧ (0 ≤ (u.2.1 5 0).toInt ∧ (u.2.1 5 0).toInt ≤ 0) ∧ ((-2147483648) ≤ (u.2.1 6 0).toInt ∧ (u.2.1 6 0).toInt ≤ 2147483647) ∧ AL (u.2.1 7) ∧ WA (u.2.1 8) ∧ (u.2.1 7) 84 = p19 ∧ True) (fun u => (wk_a2686efad cy h0 (u.2.1 5 0) h1 w0 w1 w2 p3 p4 p5 p6 p7 p8 p9 p10 p11 p12 p13 h2 h3 h4 h5 h6 (u.2.1 6 0) p15 h7 w3 w4 p16 p17 w5 w6 w7 w8 w9 p18 h8 h9 h10 h1 (u.2.1 7) h2 (u.2.1 1) h3 (u.2.1 2) h4 (u.2.1 0) h5 (u.2.1 3) h6 (u.2.1 8) h7 (u.2.1 4) h8 f7 h9 f8 h10 g0)) 0 0 := by
  refine q_ent (own := RX12) (by decide) rfl (Nat.le_of_ble_eq_true rfl) (fun p e s m below meth c ls X hr hlk hnm hK hT h hA hl => ?_)
  obtain ⟨hx, hb, hml, hown, ht⟩ := id X
  replace hl : lv_has ls 7 [(0, .ref h0), (1, .int p0), (2, .int p1)] := hl
  refine lv_aload_n hx hb dX12_judge_0 rfl (lv_at hl 0 rfl) ?_
  refine lv_iconst (v := 0) hx hb dX12_judge_1 (by decide) ?_
  refine q_put (v := .int 0) X hK h 0 rfl rfl wf_12 tyX12 tyX12_ok nmX12 0 (by decide) wm_5_170 rfl rfl rfl (Nat.le_of_ble_eq_true rfl) dX12_judge_2 (fun H locs h_1 => ?_)
  clear h
  replace h_1 : qW D _ _ (wk_a2686efad cy h0 0 h1 w0 w1 w2 p3 p4 p5 p6 p7 p8 p9 p10 p11 p12 p13 h2 h3 h4 h5 h6 p14 p15 h7 w3 w4 p16 p17 w5 w6 w7 w8 w9 p18 h8 h9 h10 h1 f0 h2 f1 h3 f2 h4 f3 h5 f4 h6 f5 h7 f6 h8 f7 h9 f8 h10 g0) _ _ := h_1
  refine lv_iload_n hx hb dX12_judge_5 rfl (lv_at hl 2 rfl) ?_
  refine lv_i2l hx hb dX12_judge_6 rfl ?_
  obtain ⟨z_2, ez_2, hz_2⟩ := e_i2l (x := p1) rfl
  refine q_cl z_2 ez_2 ?_
  clear ez_2
  refine lv_lconst (v := 0) hx hb dX12_judge_7 (by decide) ?_
  refine lv_ldc2 hx hb hown (ht _ wm_7_29) dX12_judge_8 ?_
  refine q_callSi (rest := []) (wr := (wk_a2686efad cy h0 0 h1 w0 w1 w2 p3 p4 p5 p6 p7 p8 p9 p10 p11 p12 p13 h2 h3 h4 h5 h6 p14 p15 h7 w3 w4 p16 p17 w5 w6 w7 w8 w9 p18 h8 h9 h10 h1 f0 h2 f1 h3 f2 h4 f3 h5 f4 h6 f5 h7 f6 h8 f7 h9 f8 h10 g0)) X hK hT hA h_1 (fun sz => gX12_within_00c7897 l D cy z_2 (0 : Int64) (3 : Int64) (j_rng _) ⟨by decide +kernel, by decide +kernel⟩ ⟨by decide +kernel, by decide +kernel⟩ sz) wm_6_50 wm_6_52 wm_1_12 hd_X12_within wm_6_51 ⟨Nat.le_of_ble_eq_true rfl, Nat.le_of_ble_eq_true rfl⟩ hl.1 rfl (Nat.le_of_ble_eq_true rfl) dX12_judge_11 ⟨Nat.le_of_ble_eq_true rfl, Nat.le_of_ble_eq_true rfl⟩ [] [0, 1, 2, 3, 4, 5, 6, 7, 8, 9, 10] rfl rfl (by decide) rfl rfl (fun r_3 u_3 H locs w_3 h_3 => ?_)
  clear h_1
  obtain ⟨wr_3, y3_0, _⟩ := w_3
  have lq_3_1 : (0 : Int64).toInt = 0 := (by decide)
  have lq_3_2 : (3 : Int64).toInt = 3 := (by decide)
  replace h_3 : qW D _ _ (wk_a2686efad cy h0 0 h1 w0 w1 w2 p3 p4 p5 p6 p7 p8 p9 p10 p11 p12 p13 h2 h3 h4 h5 h6 p14 p15 h7 w3 w4 p16 p17 w5 w6 w7 w8 w9 p18 h8 h9 h10 h1 f0 h2 f1 h3 f2 h4 f3 h5 f4 h6 f5 h7 f6 h8 f7 h9 f8 h10 g0) _ _ := h_3
  refine lv_if_ne (tgt := 20) hx hb dX12_judge_14 (by decide) (fun c_4 => ?_) (fun c_4 => ?_)
  · replace c_4 := i_ne (x := r_3) (y := 0) rfl (show (0 : Int32).toInt = 0 by decide) c_4
    replace y3_0 := a10_1 y3_0 c_4
    refine lv_aload_n hx hb dX12_judge_20 rfl (lv_at hl 0 rfl) ?_
    refine lv_iload_n hx hb dX12_judge_21 rfl (lv_at hl 1 rfl) ?_
    refine q_callVi (rest := []) (wr := [(h1, .inl (cy 1, 3918, .inl f0)), (h2, .inl (cy 1, 900, .inl f1)), (h3, .inl (cy 1, 11, .inl f2)), (h4, .inl (cy 1, 3, .inl f3)), (h5, .inl (cy 1, 10, .inl f4)), (h6, .inl (cy 1, 32, .inl f5)), (h7, .inl (cy 1, 1024, .inl f6)), (h9, .inl (cy 1, 4, .inl f8)), (h10, .inl (cy 2, 160, .inr (.inl g0)))]) X hK hT hA h_3 (fun sz => gX12_noTray_c6f52ea l D cy h0 h8 p0 (0 : Int32) (.ref h1) w0 w1 w2 p3 p4 p5 p6 p7 p8 p9 p10 p11 p12 p13 (.ref h2) (.ref h3) (.ref h4) (.ref h5) (.ref h6) p14 p15 (.ref h7) w3 w4 p16 p17 w5 w6 w7 w8 w9 p18 (.ref h9) (.ref h10) f7 (i_rng _) ⟨by decide +kernel, by decide +kernel⟩ hp3 hp4 hp5 hp6 (i_rng _) hp8 (i_rng _) (i_rng _) (i_rng _) (i_rng _) (i_rng _) (i_rng _) (i_rng _) (i_rng _) (i_rng _) (i_rng _) sz) wm_7_30 wm_7_33 wm_1_12 hd_X12_noTray wm_7_32 wp_6_6 (ci := 12) (q0 := 0) rfl rfl ⟨Nat.le_of_ble_eq_true rfl, Nat.le_of_ble_eq_true rfl⟩ hl.1 rfl (Nat.le_of_ble_eq_true rfl) dX12_judge_22 ⟨Nat.le_of_ble_eq_true rfl, Nat.le_of_ble_eq_true rfl⟩ [0, 8] [1, 2, 3, 4, 5, 6, 7, 9, 10] rfl rfl (by decide) rfl rfl (fun r_5 u_5 H locs w_5 h_5 => ?_)
    clear h_3
    obtain ⟨wr_5, y5_0, _⟩ := w_5
    replace h_5 : qW D _ _ [(h1, .inl (cy 1, 3918, .inl f0)), (h2, .inl (cy 1, 900, .inl f1)), (h3, .inl (cy 1, 11, .inl f2)), (h4, .inl (cy 1, 3, .inl f3)), (h5, .inl (cy 1, 10, .inl f4)), (h6, .inl (cy 1, 32, .inl f5)), (h7, .inl (cy 1, 1024, .inl f6)), (h9, .inl (cy 1, 4, .inl f8)), (h10, .inl (cy 2, 160, .inr (.inl g0))), (h0, .inr (12, [.int 0, .ref h1, w0, w1, w2, .int p3, .int p4, .int p5, .int p6, .int p7, .int p8, .int p9, .int p10, .int p11, .int p12, .int p13, .ref h2, .ref h3, .ref h4, .ref h5, .ref h6, .int p14, .int p15, .ref h7, w3, w4, .int p16, .int p17, w5, w6, w7, w8, w9, .int p18, .ref h8, .ref h9, .ref h10])), (h8, .inl (cy 1, 4, .inl f7))] _ _ := h_5
    refine lv_istore_n (lv' := [(3, .int r_5), (0, .ref h0), (1, .int p0), (2, .int p1)]) hx hb dX12_judge_25 rfl hl (by decide) rfl (fun ls_6 hl_6 => ?_)
    clear hl
    refine lv_iload_n hx hb dX12_judge_26 rfl (lv_at hl_6 0 rfl) ?_
    refine lv_if_eq (tgt := 32) hx hb dX12_judge_27 (by decide) (fun c_7 => ?_) (fun c_7 => ?_)
    · replace c_7 := i_eq (x := r_5) (y := 0) rfl (show (0 : Int32).toInt = 0 by decide) c_7
      refine lv_aload_n hx hb dX12_judge_32 rfl (lv_at hl_6 1 rfl) ?_
      refine q_callVv (rest := []) (wr := [(h2, .inl (cy 1, 900, .inl f1)), (h3, .inl (cy 1, 11, .inl f2)), (h4, .inl (cy 1, 3, .inl f3)), (h5, .inl (cy 1, 10, .inl f4)), (h7, .inl (cy 1, 1024, .inl f6)), (h9, .inl (cy 1, 4, .inl f8)), (h10, .inl (cy 2, 160, .inr (.inl g0))), (h8, .inl (cy 1, 4, .inl f7))]) X hK hT hA h_5 (fun sz => gX12_keeps_814ac6b l D cy h0 h1 h6 (0 : Int32) w0 w1 w2 p3 p4 p5 p6 p7 p8 p9 p10 p11 p12 p13 (.ref h2) (.ref h3) (.ref h4) (.ref h5) p14 p15 (.ref h7) w3 w4 p16 p17 w5 w6 w7 w8 w9 p18 (.ref h8) (.ref h9) (.ref h10) f0 p19 f5 ⟨by decide +kernel, by decide +kernel⟩ hp3 hp4 hp5 hp6 (i_rng _) hp8 (i_rng _) (i_rng _) (i_rng _) (i_rng _) (i_rng _) (i_rng _) (i_rng _) (i_rng _) (i_rng _) (i_rng _) hp19 htf0_84 rf0 rf5 sz) wm_6_220 wm_6_223 wm_1_12 hd_X12_keeps wm_6_222 wp_6_0 (ci := 12) (q0 := 0) rfl rfl ⟨Nat.le_of_ble_eq_true rfl, Nat.le_of_ble_eq_true rfl⟩ hl_6.1 rfl (Nat.le_of_ble_eq_true rfl) dX12_judge_33 ⟨Nat.le_of_ble_eq_true rfl, Nat.le_of_ble_eq_true rfl⟩ [9, 0, 5] [1, 2, 3, 4, 6, 7, 8, 10] rfl rfl (by decide) rfl rfl (fun u_8 H locs w_8 h_8 => ?_)
      clear h_5
      obtain ⟨w8_0, _⟩ := w_8
      replace h_8 : qW D _ _ [(h2, .inl (cy 1, 900, .inl f1)), (h3, .inl (cy 1, 11, .inl f2)), (h4, .inl (cy 1, 3, .inl f3)), (h5, .inl (cy 1, 10, .inl f4)), (h7, .inl (cy 1, 1024, .inl f6)), (h9, .inl (cy 1, 4, .inl f8)), (h10, .inl (cy 2, 160, .inr (.inl g0))), (h8, .inl (cy 1, 4, .inl f7)), (h0, .inr (12, [.int 0, .ref h1, w0, w1, w2, .int p3, .int p4, .int p5, .int p6, .int p7, .int p8, .int p9, .int p10, .int p11, .int p12, .int p13, .ref h2, .ref h3, .ref h4, .ref h5, .ref h6, .int p14, .int p15, .ref h7, w3, w4, .int p16, .int p17, w5, w6, w7, w8, w9, .int p18, .ref h8, .ref h9, .ref h10])), (h1, .inl (cy 1, 3918, .inl f0)), (h6, .inl (cy 1, 32, .inl (u_8.2.1 0)))] _ _ := h_8
      refine lv_aload_n hx hb dX12_judge_36 rfl (lv_at hl_6 1 rfl) ?_
      refine lv_iload_n hx hb dX12_judge_37 rfl (lv_at hl_6 2 rfl) ?_
      refine q_callVi (rest := []) (wr := [(h5, .inl (cy 1, 10, .inl f4)), (h7, .inl (cy 1, 1024, .inl f6)), (h8, .inl (cy 1, 4, .inl f7)), (h6, .inl (cy 1, 32, .inl (u_8.2.1 0)))]) X hK hT hA h_8 (fun sz => gX12_tells_f7a3d50 l D cy h0 h1 h2 h3 h4 h9 h10 p0 (0 : Int32) w0 w1 w2 p3 p4 p5 p6 p7 p8 p9 p10 p11 p12 p13 (.ref h5) (.ref h6) p14 p15 (.ref h7) w3 w4 p16 p17 w5 w6 w7 w8 w9 p18 (.ref h8) f0 p19 f1 f2 f3 f8 g0 ⟨by omega, by omega⟩ ⟨by decide +kernel, by decide +kernel⟩ hp3 hp4 hp5 hp6 (i_rng _) hp8 (i_rng _) (i_rng _) (i_rng _) (i_rng _) (i_rng _) (i_rng _) (i_rng _) (i_rng _) (i_rng _) (i_rng _) hp19 htf0_84 rf0 (rg_wide rf3 (by decide) (by decide)) (rg_wide rf8 (by decide) (by decide)) sz) wm_7_34 wm_7_37 wm_1_12 hd_X12_tells wm_7_36 wp_6_7 (ci := 12) (q0 := 0) rfl rfl ⟨Nat.le_of_ble_eq_true rfl, Nat.le_of_ble_eq_true rfl⟩ hl_6.1 rfl (Nat.le_of_ble_eq_true rfl) dX12_judge_38 ⟨Nat.le_of_ble_eq_true rfl, Nat.le_of_ble_eq_true rfl⟩ [8, 9, 0, 1, 2, 5, 6] [3, 4, 7, 10] rfl rfl (by decide) rfl rfl (fun r_9 u_9 H locs w_9 h_9 => ?_)
      clear h_8
      obtain ⟨wr_9, w9_0, w9_1, w9_2, w9_3, _⟩ := w_9
      replace h_9 : qW D _ _ [(h5, .inl (cy 1, 10, .inl f4)), (h7, .inl (cy 1, 1024, .inl f6)), (h8, .inl (cy 1, 4, .inl f7)), (h6, .inl (cy 1, 32, .inl (u_8.2.1 0))), (h0, .inr (12, [.int 0, .ref h1, w0, w1, w2, .int p3, .int p4, .int p5, .int p6, .int p7, .int p8, .int p9, .int p10, .int p11, .int p12, .int p13, .ref h2, .ref h3, .ref h4, .ref h5, .ref h6, .int (u_9.2.1 0 0), .int p15, .ref h7, w3, w4, .int p16, .int p17, w5, w6, w7, w8, w9, .int p18, .ref h8, .ref h9, .ref h10])), (h1, .inl (cy 1, 3918, .inl (u_9.2.1 1))), (h2, .inl (cy 1, 900, .inl (u_9.2.1 2))), (h3, .inl (cy 1, 11, .inl (u_9.2.1 3))), (h4, .inl (cy 1, 3, .inl (u_9.2.1 4))), (h9, .inl (cy 1, 4, .inl f8)), (h10, .inl (cy 2, 160, .inr (.inl g0)))] _ _ := h_9
      refine lv_istore (lv' := [(4, .int r_9), (3, .int r_5), (0, .ref h0), (1, .int p0), (2, .int p1)]) hx hb dX12_judge_41 hl_6 (by decide) rfl (fun ls_10 hl_10 => ?_)
      clear hl_6
      refine lv_aload_n hx hb dX12_judge_43 rfl (lv_at hl_10 2 rfl) ?_
      refine lv_aload_n hx hb dX12_judge_44 rfl (lv_at hl_10 2 rfl) ?_
      refine q_callVi (rest := [.ref h0]) (wr := [(h5, .inl (cy 1, 10, .inl f4)), (h7, .inl (cy 1, 1024, .inl f6)), (h8, .inl (cy 1, 4, .inl f7)), (h6, .inl (cy 1, 32, .inl (u_8.2.1 0))), (h2, .inl (cy 1, 900, .inl (u_9.2.1 2))), (h3, .inl (cy 1, 11, .inl (u_9.2.1 3))), (h4, .inl (cy 1, 3, .inl (u_9.2.1 4))), (h9, .inl (cy 1, 4, .inl f8)), (h10, .inl (cy 2, 160, .inr (.inl g0)))]) X hK hT hA h_9 (fun sz => gX12_townNow_2907b4b l D cy h0 h1 (0 : Int32) w0 w1 w2 p3 p4 p5 p6 p7 p8 p9 p10 p11 p12 p13 (.ref h2) (.ref h3) (.ref h4) (.ref h5) (.ref h6) (u_9.2.1 0 0) p15 (.ref h7) w3 w4 p16 p17 w5 w6 w7 w8 w9 p18 (.ref h8) (.ref h9) (.ref h10) (u_9.2.1 1) p19 ⟨by decide +kernel, by decide +kernel⟩ hp3 hp4 hp5 hp6 (i_rng _) hp8 (i_rng _) (i_rng _) (i_rng _) (i_rng _) (i_rng _) (i_rng _) (i_rng _) (i_rng _) (i_rng _) (i_rng _) hp19 w9_3 w9_1 sz) wm_6_170 wm_6_173 wm_1_12 hd_X12_townNow wm_6_172 wp_5_9 (ci := 12) (q0 := 0) rfl rfl ⟨Nat.le_of_ble_eq_true rfl, Nat.le_of_ble_eq_true rfl⟩ hl_10.1 rfl (Nat.le_of_ble_eq_true rfl) dX12_judge_45 ⟨Nat.le_of_ble_eq_true rfl, Nat.le_of_ble_eq_true rfl⟩ [4, 5] [0, 1, 2, 3, 6, 7, 8, 9, 10] rfl rfl (by decide) rfl rfl (fun r_11 u_11 H locs w_11 h_11 => ?_)
      clear h_9
      obtain ⟨wr_11, _⟩ := w_11
      replace h_11 : qW D _ _ [(h5, .inl (cy 1, 10, .inl f4)), (h7, .inl (cy 1, 1024, .inl f6)), (h8, .inl (cy 1, 4, .inl f7)), (h6, .inl (cy 1, 32, .inl (u_8.2.1 0))), (h2, .inl (cy 1, 900, .inl (u_9.2.1 2))), (h3, .inl (cy 1, 11, .inl (u_9.2.1 3))), (h4, .inl (cy 1, 3, .inl (u_9.2.1 4))), (h9, .inl (cy 1, 4, .inl f8)), (h10, .inl (cy 2, 160, .inr (.inl g0))), (h0, .inr (12, [.int 0, .ref h1, w0, w1, w2, .int p3, .int p4, .int p5, .int p6, .int p7, .int p8, .int p9, .int p10, .int p11, .int p12, .int p13, .ref h2, .ref h3, .ref h4, .ref h5, .ref h6, .int (u_9.2.1 0 0), .int p15, .ref h7, w3, w4, .int p16, .int p17, w5, w6, w7, w8, w9, .int p18, .ref h8, .ref h9, .ref h10])), (h1, .inl (cy 1, 3918, .inl (u_9.2.1 1)))] _ _ := h_11
      refine q_callVi (rest := []) (wr := [(h8, .inl (cy 1, 4, .inl f7)), (h6, .inl (cy 1, 32, .inl (u_8.2.1 0))), (h4, .inl (cy 1, 3, .inl (u_9.2.1 4))), (h9, .inl (cy 1, 4, .inl f8)), (h10, .inl (cy 2, 160, .inr (.inl g0)))]) X hK hT hA h_11 (fun sz => gX12_sitsNow_472ffcf l D cy h0 h1 h2 h3 h5 h7 r_11 (0 : Int32) w0 w1 w2 p3 p4 p5 p6 p7 p8 p9 p10 p11 p12 p13 (.ref h4) (.ref h6) (u_9.2.1 0 0) p15 w3 w4 p16 p17 w5 w6 w7 w8 w9 p18 (.ref h8) (.ref h9) (.ref h10) (u_9.2.1 1) p19 (u_9.2.1 2) (u_9.2.1 3) f4 f6 wr_11 ⟨by decide +kernel, by decide +kernel⟩ hp3 hp4 hp5 hp6 (i_rng _) hp8 (i_rng _) (i_rng _) (i_rng _) (i_rng _) (i_rng _) (i_rng _) (i_rng _) (i_rng _) (i_rng _) (i_rng _) hp19 w9_3 w9_1 (rg_wide rf4 (by decide) (by decide)) sz) wm_7_51 wm_7_54 wm_1_12 hd_X12_sitsNow wm_7_53 wp_6_10 (ci := 12) (q0 := 0) rfl rfl ⟨Nat.le_of_ble_eq_true rfl, Nat.le_of_ble_eq_true rfl⟩ hl_10.1 rfl (Nat.le_of_ble_eq_true rfl) dX12_judge_48 ⟨Nat.le_of_ble_eq_true rfl, Nat.le_of_ble_eq_true rfl⟩ [9, 10, 4, 5, 0, 1] [2, 3, 6, 7, 8] rfl rfl (by decide) rfl rfl (fun r_12 u_12 H locs w_12 h_12 => ?_)
      clear h_11
      obtain ⟨wr_12, w12_0, _⟩ := w_12
      replace h_12 : qW D _ _ (wk_4a85b29b6 cy h8 f7 h6 (u_8.2.1 0) h4 (u_9.2.1 4) h9 f8 h10 g0 h0 0 h1 w0 w1 w2 p3 p4 p5 p6 p7 p8 p9 p10 p11 p12 p13 h2 h3 h4 h5 h6 (u_9.2.1 0 0) p15 h7 w3 w4 p16 p17 w5 w6 w7 w8 w9 p18 h8 h9 h10 h1 (u_9.2.1 1) h2 (u_12.2.1 0) h3 (u_12.2.1 1) h5 (u_12.2.1 2) h7 (u_12.2.1 3)) _ _ := h_12
      refine q_jn (pc2 := 59) (fun H locs ls st => ∃ v59_13_0 : Int32, (0 ≤ (v59_13_0).toInt ∧ (v59_13_0).toInt ≤ 1) ∧ st = [.int v59_13_0] ∧ qW D (va_A (wk_a2686efad cy h0 p2 h1 w0 w1 w2 p3 p4 p5 p6 p7 p8 p9 p10 p11 p12 p13 h2 h3 h4 h5 h6 p14 p15 h7 w3 w4 p16 p17 w5 w6 w7 w8 w9 p18 h8 h9 h10 h1 f0 h2 f1 h3 f2 h4 f3 h5 f4 h6 f5 h7 f6 h8 f7 h9 f8 h10 g0) sz) s.heap (wk_4a85b29b6 cy h8 f7 h6 (u_8.2.1 0) h4 (u_9.2.1 4) h9 f8 h10 g0 h0 0 h1 w0 w1 w2 p3 p4 p5 p6 p7 p8 p9 p10 p11 p12 p13 h2 h3 h4 h5 h6 (u_9.2.1 0 0) p15 h7 w3 w4 p16 p17 w5 w6 w7 w8 w9 p18 h8 h9 h10 h1 (u_9.2.1 1) h2 (u_12.2.1 0) h3 (u_12.2.1 1) h5 (u_12.2.1 2) h7 (u_12.2.1 3)) H locs ∧ lv_has ls 7 [(0, .ref h0), (1, .int p0), (2, .int p1), (3, .int r_5), (4, .int r_9)]) (fun H locs ls st hP => ?_) (fun J_59 => ?_)
      · obtain ⟨v59_13_0, hv59_13_0, rfl, h, hl⟩ := hP
        refine lv_istore (lv' := [(5, .int v59_13_0), (0, .ref h0), (1, .int p0), (2, .int p1), (3, .int r_5), (4, .int r_9)]) hx hb dX12_judge_59 hl (by decide) rfl (fun ls_14 hl_14 => ?_)
        clear hl
        refine lv_aload_n hx hb dX12_judge_61 rfl (lv_at hl_14 1 rfl) ?_
        refine q_get X hK h 5 rfl rfl wf_12 1 (by decide) rfl wm_5_171 dX12_judge_62 ?_
        refine lv_bipush (v := 52) hx hb dX12_judge_65 (by decide) ?_
        refine q_iald X hK h 6 rfl (q_in (by decide +kernel)) dX12_judge_67 ?_
        refine q_any (fun z_15 hz_15 => ?_)
        refine lv_istore (lv' := [(6, .int z_15), (5, .int v59_13_0), (0, .ref h0), (1, .int p0), (2, .int p1), (3, .int r_5), (4, .int r_9)]) hx hb dX12_judge_68 hl_14 (by decide) rfl (fun ls_16 hl_16 => ?_)
        clear hl_14
        refine lv_aload_n hx hb dX12_judge_70 rfl (lv_at hl_16 2 rfl) ?_
        refine q_callVv (rest := []) (wr := [(h8, .inl (cy 1, 4, .inl f7)), (h4, .inl (cy 1, 3, .inl (u_9.2.1 4))), (h9, .inl (cy 1, 4, .inl f8)), (h10, .inl (cy 2, 160, .inr (.inl g0))), (h2, .inl (cy 1, 900, .inl (u_12.2.1 0))), (h3, .inl (cy 1, 11, .inl (u_12.2.1 1))), (h5, .inl (cy 1, 10, .inl (u_12.2.1 2))), (h7, .inl (cy 1, 1024, .inl (u_12.2.1 3)))]) X hK hT hA h (fun sz => gX12_isAgain_2833386 l D cy h0 h1 h6 (0 : Int32) w0 w1 w2 p3 p4 p5 p6 p7 p8 p9 p10 p11 p12 p13 (.ref h2) (.ref h3) (.ref h4) (.ref h5) (u_9.2.1 0 0) p15 (.ref h7) w3 w4 p16 p17 w5 w6 w7 w8 w9 p18 (.ref h8) (.ref h9) (.ref h10) (u_9.2.1 1) p19 (u_8.2.1 0) ⟨by decide +kernel, by decide +kernel⟩ hp3 hp4 hp5 hp6 (i_rng _) hp8 (i_rng _) (i_rng _) (i_rng _) (i_rng _) (i_rng _) w9_0 (i_rng _) (i_rng _) (i_rng _) (i_rng _) hp19 w9_3 w9_1 w8_0 sz) wm_7_70 wm_7_73 wm_1_12 hd_X12_isAgain wm_7_72 wp_6_14 (ci := 12) (q0 := 0) rfl rfl ⟨Nat.le_of_ble_eq_true rfl, Nat.le_of_ble_eq_true rfl⟩ hl_16.1 rfl (Nat.le_of_ble_eq_true rfl) dX12_judge_71 ⟨Nat.le_of_ble_eq_true rfl, Nat.le_of_ble_eq_true rfl⟩ [5, 6, 1] [0, 2, 3, 4, 7, 8, 9, 10] rfl rfl (by decide) rfl rfl (fun u_17 H locs w_17 h_17 => ?_)
        clear h
        obtain ⟨w17_0, w17_1, _⟩ := w_17
        replace h_17 : qW D _ _ (wk_ec32a311a cy h8 f7 h4 (u_9.2.1 4) h9 f8 h10 g0 h2 (u_12.2.1 0) h3 (u_12.2.1 1) h5 (u_12.2.1 2) h7 (u_12.2.1 3) h0 0 h1 w0 w1 w2 p3 p4 p5 p6 p7 p8 p9 p10 p11 p12 p13 h2 h3 h4 h5 h6 (u_9.2.1 0 0) p15 h7 w3 w4 p16 p17 w5 w6 w7 w8 w9 p18 h8 h9 h10 h1 (u_17.2.1 0) h6 (u_8.2.1 0)) _ _ := h_17
        refine lv_iload_n hx hb dX12_judge_74 rfl (lv_at hl_16 4 rfl) ?_
        refine q_jn (pc2 := 118) (fun H locs ls st => ∃ v118_18_0 : Int32, ((-2147483648) ≤ (v118_18_0).toInt ∧ (v118_18_0).toInt ≤ 2147483647) ∧ st = [.int v118_18_0] ∧ qW D (va_A (wk_a2686efad cy h0 p2 h1 w0 w1 w2 p3 p4 p5 p6 p7 p8 p9 p10 p11 p12 p13 h2 h3 h4 h5 h6 p14 p15 h7 w3 w4 p16 p17 w5 w6 w7 w8 w9 p18 h8 h9 h10 h1 f0 h2 f1 h3 f2 h4 f3 h5 f4 h6 f5 h7 f6 h8 f7 h9 f8 h10 g0) sz) s.heap (wk_ec32a311a cy h8 f7 h4 (u_9.2.1 4) h9 f8 h10 g0 h2 (u_12.2.1 0) h3 (u_12.2.1 1) h5 (u_12.2.1 2) h7 (u_12.2.1 3) h0 0 h1 w0 w1 w2 p3 p4 p5 p6 p7 p8 p9 p10 p11 p12 p13 h2 h3 h4 h5 h6 (u_9.2.1 0 0) p15 h7 w3 w4 p16 p17 w5 w6 w7 w8 w9 p18 h8 h9 h10 h1 (u_17.2.1 0) h6 (u_8.2.1 0)) H locs ∧ lv_has ls 7 [(0, .ref h0), (1, .int p0), (2, .int p1), (3, .int r_5), (4, .int r_9), (5, .int v59_13_0), (6, .int z_15)]) (fun H locs ls st hP => ?_) (fun J_118 => ?_)
        · obtain ⟨v118_18_0, hv118_18_0, rfl, h, hl⟩ := hP
          exact q_iret X hr hlk hK h rfl (fun _ => 0, (vcons (u_9.2.1 4) (vcons (u_12.2.1 0) (vcons (u_12.2.1 1) (vcons (u_12.2.1 2) (vcons (u_12.2.1 3) (vcons (fun _ => 0) (vcons (fun _ => (u_9.2.1 0 0)) (vcons (u_17.2.1 0) (vcons (u_8.2.1 0) (fun _ => (fun _ => 0))))))))))), fun _ _ => 0) ⟨hv118_18_0, (rg_wide w9_2 (by decide) (by decide)), (rg_wide w12_0 (by decide) (by decide)), (⟨by decide +kernel, by decide +kernel⟩ : 0 ≤ (0 : Int32).toInt ∧ (0 : Int32).toInt ≤ 0), (bw w9_0 (by decide) (by decide)), w17_0, w8_0, w17_1, trivial⟩ [8, 9, 4, 5, 1, 6, 10, 7, 0, 2, 3] rfl rfl dX12_judge_118 (Nat.le_of_ble_eq_true rfl) (Nat.le_of_ble_eq_true rfl)
        · skip
          refine lv_if_ne (tgt := 94) hx hb dX12_judge_75 (by decide) (fun c_19 => ?_) (fun c_19 => ?_)
          · replace c_19 := i_ne (x := p1) (y := 0) rfl (show (0 : Int32).toInt = 0 by decide) c_19
            refine lv_iload_n hx hb dX12_judge_94 rfl (lv_at hl_16 4 rfl) ?_
            refine lv_iconst (v := 1) hx hb dX12_judge_95 (by decide) ?_
            refine lv_icmp_ne (tgt := 106) hx hb dX12_judge_96 (by decide) (fun c_20 => ?_) (fun c_20 => ?_)
            · replace c_20 := i_ne (x := p1) (y := 1) rfl (show (1 : Int32).toInt = 1 by decide) c_20
              refine lv_iload_n hx hb dX12_judge_106 rfl (lv_at hl_16 4 rfl) ?_
              refine lv_iconst (v := 2) hx hb dX12_judge_107 (by decide) ?_
              refine lv_icmp_ne (tgt := 116) hx hb dX12_judge_108 (by decide) (fun c_21 => ?_) (fun c_21 => ?_)
              · replace c_21 := i_ne (x := p1) (y := 2) rfl (show (2 : Int32).toInt = 2 by decide) c_21
                refine lv_iload hx hb dX12_judge_116 (lv_at hl_16 0 rfl) ?_
                exact J_118 _ _ _ _ ⟨z_15, ⟨by omega, by omega⟩, rfl, h_17, (lv_sub hl_16 [2, 3, 4, 5, 6, 1, 0] rfl)⟩
              · replace c_21 := i_eq (x := p1) (y := 2) rfl (show (2 : Int32).toInt = 2 by decide) c_21
                refine lv_iload hx hb dX12_judge_111 (lv_at hl_16 1 rfl) ?_
                refine lv_goto (tgt := 118) hx hb dX12_judge_113 (by decide) ?_
                exact J_118 _ _ _ _ ⟨v59_13_0, (bw hv59_13_0 (by decide) (by decide)), rfl, h_17, (lv_sub hl_16 [2, 3, 4, 5, 6, 1, 0] rfl)⟩
            · replace c_20 := i_eq (x := p1) (y := 1) rfl (show (1 : Int32).toInt = 1 by decide) c_20
              refine lv_aload_n hx hb dX12_judge_99 rfl (lv_at hl_16 2 rfl) ?_
              refine q_get X hK h_17 8 rfl rfl wf_12 21 (by decide) rfl wm_5_191 dX12_judge_100 ?_
              refine lv_goto (tgt := 118) hx hb dX12_judge_103 (by decide) ?_
              exact J_118 _ _ _ _ ⟨(u_9.2.1 0 0), (bw w9_0 (by decide) (by decide)), rfl, h_17, (lv_sub hl_16 [2, 3, 4, 5, 6, 1, 0] rfl)⟩
          · replace c_19 := i_eq (x := p1) (y := 0) rfl (show (0 : Int32).toInt = 0 by decide) c_19
            refine lv_aload_n hx hb dX12_judge_78 rfl (lv_at hl_16 2 rfl) ?_
            refine q_get X hK h_17 8 rfl rfl wf_12 21 (by decide) rfl wm_5_191 dX12_judge_79 ?_
            refine lv_if_ne (tgt := 89) hx hb dX12_judge_82 (by decide) (fun c_22 => ?_) (fun c_22 => ?_)
            · replace c_22 := i_ne (x := (u_9.2.1 0 0)) (y := 0) rfl (show (0 : Int32).toInt = 0 by decide) c_22
              refine lv_iload hx hb dX12_judge_89 (lv_at hl_16 6 rfl) ?_
              refine lv_goto (tgt := 118) hx hb dX12_judge_91 (by decide) ?_
              exact J_118 _ _ _ _ ⟨r_9, (bw wr_9 (by decide) (by decide)), rfl, h_17, (lv_sub hl_16 [2, 3, 4, 5, 6, 1, 0] rfl)⟩
            · replace c_22 := i_eq (x := (u_9.2.1 0 0)) (y := 0) rfl (show (0 : Int32).toInt = 0 by decide) c_22
              refine lv_iconst (v := (-1)) hx hb dX12_judge_85 (by decide) ?_
              refine lv_goto (tgt := 118) hx hb dX12_judge_86 (by decide) ?_
              exact J_118 _ _ _ _ ⟨(-1), ⟨by decide +kernel, by decide +kernel⟩, rfl, h_17, (lv_sub hl_16 [2, 3, 4, 5, 6, 1, 0] rfl)⟩
      · skip
        refine lv_if_eq (tgt := 58) hx hb dX12_judge_51 (by decide) (fun c_23 => ?_) (fun c_23 => ?_)
        · replace c_23 := i_eq (x := r_12) (y := 0) rfl (show (0 : Int32).toInt = 0 by decide) c_23
          refine lv_iconst (v := 0) hx hb dX12_judge_58 (by decide) ?_
          exact J_59 _ _ _ _ ⟨0, ⟨by decide +kernel, by decide +kernel⟩, rfl, h_12, (lv_sub hl_10 [2, 3, 4, 1, 0] rfl)⟩
        · replace c_23 := i_ne (x := r_12) (y := 0) rfl (show (0 : Int32).toInt = 0 by decide) c_23
          refine lv_iconst (v := 1) hx hb dX12_judge_54 (by decide) ?_
          refine lv_goto (tgt := 59) hx hb dX12_judge_55 (by decide) ?_
          exact J_59 _ _ _ _ ⟨1, ⟨by decide +kernel, by decide +kernel⟩, rfl, h_12, (lv_sub hl_10 [2, 3, 4, 1, 0] rfl)⟩
    · replace c_7 := i_ne (x := r_5) (y := 0) rfl (show (0 : Int32).toInt = 0 by decide) c_7
      refine lv_iload_n hx hb dX12_judge_30 rfl (lv_at hl_6 0 rfl) ?_
      exact q_iret X hr hlk hK h_5 rfl (fun _ => 0, (vcons f3 (vcons f1 (vcons f2 (vcons f4 (vcons f6 (vcons (fun _ => 0) (vcons (fun _ => p14) (vcons f0 (vcons f5 (fun _ => (fun _ => 0))))))))))), fun _ _ => 0) ⟨(bw wr_5 (by decide) (by decide)), (rg_wide rf3 (by decide) (by decide)), (rg_wide rf4 (by decide) (by decide)), (⟨by decide +kernel, by decide +kernel⟩ : 0 ≤ (0 : Int32).toInt ∧ (0 : Int32).toInt ≤ 0), hp14, rf0, rf5, htf0_84, trivial⟩ [9, 0, 1, 2, 3, 4, 5, 6, 10, 7, 8] rfl rfl dX12_judge_31 (Nat.le_of_ble_eq_true rfl) (Nat.le_of_ble_eq_true rfl)
  · replace c_4 := i_eq (x := r_3) (y := 0) rfl (show (0 : Int32).toInt = 0 by decide) c_4
    replace y3_0 := a10_0 y3_0 c_4
    refine lv_bipush (v := (-2)) hx hb dX12_judge_17 (by decide) ?_
    exact q_iret X hr hlk hK h_3 rfl (fun _ => 0, (vcons f3 (vcons f1 (vcons f2 (vcons f4 (vcons f6 (vcons (fun _ => 0) (vcons (fun _ => p14) (vcons f0 (vcons f5 (fun _ => (fun _ => 0))))))))))), fun _ _ => 0) ⟨⟨by decide +kernel, by decide +kernel⟩, (rg_wide rf3 (by decide) (by decide)), (rg_wide rf4 (by decide) (by decide)), (⟨by decide +kernel, by decide +kernel⟩ : 0 ≤ (0 : Int32).toInt ∧ (0 : Int32).toInt ≤ 0), hp14, rf0, rf5, htf0_84, trivial⟩ [0, 1, 2, 3, 4, 5, 6, 7, 8, 9, 10] rfl rfl dX12_judge_19 (Nat.le_of_ble_eq_true rfl) (Nat.le_of_ble_eq_true rfl)
set_option maxHeartbeats 4000000 in
set_option maxRecDepth 100000 in
theorem gX12_perform_224864d (l : Launch) (D : va_G) (cy : Nat → ClassId) (h0 : Nat) (h1 : Nat) (h2 : Nat) (h3 : Nat) (h4 : Nat) (h5 : Nat) (h6 : Nat) (h7 : Nat) (h8 : Nat) (p0 : Int32) (p1 : Int32) (w0 : Value) (w1 : Value) (w2 : Value) (p2 : Int32) (p3 : Int32) (p4 : Int32) (p5 : Int32) (p6 : Int32) (p7 : Int32) (p8 : Int32) (p9 : Int32) (p10 : Int32) (p11 : Int32) (p12 : Int32) (w3 : Value) (p13 : Int32) (p14 : Int32) (w4 : Value) (w5 : Value) (w6 : Value) (p15 : Int32) (p16 : Int32) (w7 : Value) (w8 : Value) (w9 : Value) (w10 : Value) (w11 : Value) (p17 : Int32) (f0 : Nat → Int32) (p18 : Int32) (f1 : Nat → Int32) (f2 : Nat → Int32) (f3 : Nat → Int32) (f4 : Nat → Int32) (f5 : Nat → Int32) (f6 : Nat → Int32) (g0 : Nat → Int64) (hp0 : (-2147483648) ≤ (p0).toInt ∧ (p0).toInt ≤ 2147483647) (hp1 : (-2147483648) ≤ (p1).toInt ∧ (p1).toInt ≤ 2147483647) (hp2 : 0 ≤ (p2).toInt ∧ (p2).toInt ≤ 900) (hp3 : 0 ≤ (p3).toInt ∧ (p3).toInt ≤ 900) (hp4 : 0 ≤ (p4).toInt ∧ (p4).toInt ≤ 900) (hp5 : 0 ≤ (p5).toInt ∧ (p5).toInt ≤ 900) (hp6 : (-2147483648) ≤ (p6).toInt ∧ (p6).toInt ≤ 2147483647) (hp7 : 0 ≤ (p7).toInt ∧ (p7).toInt ≤ 999) (hp8 : (-2147483648) ≤ (p8).toInt ∧ (p8).toInt ≤ 2147483647) (hp9 : (-2147483648) ≤ (p9).toInt ∧ (p9).toInt ≤ 2147483647) (hp10 : (-2147483648) ≤ (p10).toInt ∧ (p10).toInt ≤ 2147483647) (hp11 : (-2147483648) ≤ (p11).toInt ∧ (p11).toInt ≤ 2147483647) (hp12 : (-2147483648) ≤ (p12).toInt ∧ (p12).toInt ≤ 2147483647) (hp13 : (-2147483648) ≤ (p13).toInt ∧ (p13).toInt ≤ 2147483647) (hp14 : (-2147483648) ≤ (p14).toInt ∧ (p14).toInt ≤ 2147483647) (hp15 : (-2147483648) ≤ (p15).toInt ∧ (p15).toInt ≤ 2147483647) (hp16 : (-2147483648) ≤ (p16).toInt ∧ (p16).toInt ≤ 2147483647) (hp17 : (-2147483648) ≤ (p17).toInt ∧ (p17).toInt ≤ 2147483647) (hp18 : 0 ≤ (p18).toInt ∧ (p18).toInt ≤ 10) (htf0_84 : f0 84 = p18) (rf0 : AL f0) (rf3 : RG f3 3 0 9) (rf4 : WA f4) (rf6 : RG f6 4 0 40) (sz : Nat) : MI l yX12_perform cX12_perform 4 .int { frames := 6, cells := 0, slots := 0, locals := 139 } [.ref h0, .int p0] D cy (wk_de5320454 cy h0 p1 h1 w0 w1 w2 p2 p3 p4 p5 p6 p7 p8 p9 p10 p11 p12 h2 h3 h4 w3 h5 p13 p14 w4 w5 w6 p15 p16 w7 w8 w9 w10 w11 p17 h6 h7 h8 h1 f0 h2 f1 h3 f2 h4 f3 h5 f4 h6 f5 h7 f6 h8 g0) sz (fun r u => ((-6) ≤ r.toInt ∧ r.toInt ≤ 40) ∧ WA (u.2.1 0) ∧ (0 ≤ (u.2.1 1 0).toInt ∧ (u.2.1 1 0).toInt ≤ 0) ∧ ((-2147483648) ≤ (u.2.1 2 0).toInt ∧ (u.2.1 2 0).toInt ≤ 2147483647) ∧ AL (u.2.1 3) ∧ (0 ≤ (u.2.1 4 0).toInt ∧ (u.2.1 4 0).toInt ≤ 10) ∧ RG (u.2.1 7) 3 0 9 ∧ (u.2.1 3) 84 = (u.2.1 4 0) ∧ True) (fun u => (wk_de5320454 cy h0 (u.2.1 1 0) h1 w0 w1 w2 p2 p3 p4 p5 p6 p7 p8 p9 p10 p11 p12 h2 h3 h4 w3 h5 (u.2.1 2 0) p14 w4 w5 w6 p15 p16 w7 w8 w9 w10 w11 p17 h6 h7 h8 h1 (u.2.1 3) h2 (u.2.1 5) h3 (u.2.1 6) h4 (u.2.1 7) h5 (u.2.1 0) h6 f5 h7 f6 h8 g0)) 0 0 := by
  refine q_ent (own := RX12) (by decide) rfl (Nat.le_of_ble_eq_true rfl) (fun p e s m below meth c ls X hr hlk hnm hK hT h hA hl => ?_)
  obtain ⟨hx, hb, hml, hown, ht⟩ := id X
  replace hl : lv_has ls 4 [(0, .ref h0), (1, .int p0)] := hl
  refine lv_aload_n hx hb dX12_perform_0 rfl (lv_at hl 0 rfl) ?_
  refine lv_iconst (v := 0) hx hb dX12_perform_1 (by decide) ?_
  refine q_put (v := .int 0) X hK h 0 rfl rfl wf_12 tyX12 tyX12_ok nmX12 0 (by decide) wm_5_170 rfl rfl rfl (Nat.le_of_ble_eq_true rfl) dX12_perform_2 (fun H locs h_1 => ?_)
  clear h
  replace h_1 : qW D _ _ (wk_de5320454 cy h0 0 h1 w0 w1 w2 p2 p3 p4 p5 p6 p7 p8 p9 p10 p11 p12 h2 h3 h4 w3 h5 p13 p14 w4 w5 w6 p15 p16 w7 w8 w9 w10 w11 p17 h6 h7 h8 h1 f0 h2 f1 h3 f2 h4 f3 h5 f4 h6 f5 h7 f6 h8 g0) _ _ := h_1
  refine lv_aload_n hx hb dX12_perform_5 rfl (lv_at hl 0 rfl) ?_
  refine lv_iload_n hx hb dX12_perform_6 rfl (lv_at hl 1 rfl) ?_
  refine q_callVi (rest := []) (wr := [(h1, .inl (cy 1, 3918, .inl f0)), (h2, .inl (cy 1, 900, .inl f1)), (h3, .inl (cy 1, 11, .inl f2)), (h4, .inl (cy 1, 3, .inl f3)), (h5, .inl (cy 1, 32, .inl f4)), (h7, .inl (cy 1, 4, .inl f6)), (h8, .inl (cy 2, 160, .inr (.inl g0)))]) X hK hT hA h_1 (fun sz => gX12_noTray_c6f52ea l D cy h0 h6 p0 (0 : Int32) (.ref h1) w0 w1 w2 p2 p3 p4 p5 p6 p7 p8 p9 p10 p11 p12 (.ref h2) (.ref h3) (.ref h4) w3 (.ref h5) p13 p14 w4 w5 w6 p15 p16 w7 w8 w9 w10 w11 p17 (.ref h7) (.ref h8) f5 (i_rng _) ⟨by decide +kernel, by decide +kernel⟩ hp2 hp3 hp4 hp5 (i_rng _) hp7 (i_rng _) (i_rng _) (i_rng _) (i_rng _) (i_rng _) (i_rng _) (i_rng _) (i_rng _) (i_rng _) (i_rng _) sz) wm_7_30 wm_7_33 wm_1_12 hd_X12_noTray wm_7_32 wp_6_6 (ci := 12) (q0 := 0) rfl rfl ⟨Nat.le_of_ble_eq_true rfl, Nat.le_of_ble_eq_true rfl⟩ hl.1 rfl (Nat.le_of_ble_eq_true rfl) dX12_perform_7 ⟨Nat.le_of_ble_eq_true rfl, Nat.le_of_ble_eq_true rfl⟩ [0, 6] [1, 2, 3, 4, 5, 7, 8] rfl rfl (by decide) rfl rfl (fun r_2 u_2 H locs w_2 h_2 => ?_)
  clear h_1
  obtain ⟨wr_2, y2_0, _⟩ := w_2
  replace h_2 : qW D _ _ [(h1, .inl (cy 1, 3918, .inl f0)), (h2, .inl (cy 1, 900, .inl f1)), (h3, .inl (cy 1, 11, .inl f2)), (h4, .inl (cy 1, 3, .inl f3)), (h5, .inl (cy 1, 32, .inl f4)), (h7, .inl (cy 1, 4, .inl f6)), (h8, .inl (cy 2, 160, .inr (.inl g0))), (h0, .inr (12, [.int 0, .ref h1, w0, w1, w2, .int p2, .int p3, .int p4, .int p5, .int p6, .int p7, .int p8, .int p9, .int p10, .int p11, .int p12, .ref h2, .ref h3, .ref h4, w3, .ref h5, .int p13, .int p14, w4, w5, w6, .int p15, .int p16, w7, w8, w9, w10, w11, .int p17, .ref h6, .ref h7, .ref h8])), (h6, .inl (cy 1, 4, .inl f5))] _ _ := h_2
  refine lv_istore_n (lv' := [(2, .int r_2), (0, .ref h0), (1, .int p0)]) hx hb dX12_perform_10 rfl hl (by decide) rfl (fun ls_3 hl_3 => ?_)
  clear hl
  refine lv_iload_n hx hb dX12_perform_11 rfl (lv_at hl_3 0 rfl) ?_
  refine lv_if_eq (tgt := 17) hx hb dX12_perform_12 (by decide) (fun c_4 => ?_) (fun c_4 => ?_)
  · replace c_4 := i_eq (x := r_2) (y := 0) rfl (show (0 : Int32).toInt = 0 by decide) c_4
    refine lv_aload_n hx hb dX12_perform_17 rfl (lv_at hl_3 1 rfl) ?_
    refine q_callVv (rest := []) (wr := [(h2, .inl (cy 1, 900, .inl f1)), (h3, .inl (cy 1, 11, .inl f2)), (h4, .inl (cy 1, 3, .inl f3)), (h7, .inl (cy 1, 4, .inl f6)), (h8, .inl (cy 2, 160, .inr (.inl g0))), (h6, .inl (cy 1, 4, .inl f5))]) X hK hT hA h_2 (fun sz => gX12_keeps_814ac6b l D cy h0 h1 h5 (0 : Int32) w0 w1 w2 p2 p3 p4 p5 p6 p7 p8 p9 p10 p11 p12 (.ref h2) (.ref h3) (.ref h4) w3 p13 p14 w4 w5 w6 p15 p16 w7 w8 w9 w10 w11 p17 (.ref h6) (.ref h7) (.ref h8) f0 p18 f4 ⟨by decide +kernel, by decide +kernel⟩ hp2 hp3 hp4 hp5 (i_rng _) hp7 (i_rng _) (i_rng _) (i_rng _) (i_rng _) (i_rng _) (i_rng _) (i_rng _) (i_rng _) (i_rng _) (i_rng _) hp18 htf0_84 rf0 rf4 sz) wm_6_220 wm_6_223 wm_1_12 hd_X12_keeps wm_6_222 wp_6_0 (ci := 12) (q0 := 0) rfl rfl ⟨Nat.le_of_ble_eq_true rfl, Nat.le_of_ble_eq_true rfl⟩ hl_3.1 rfl (Nat.le_of_ble_eq_true rfl) dX12_perform_18 ⟨Nat.le_of_ble_eq_true rfl, Nat.le_of_ble_eq_true rfl⟩ [7, 0, 4] [1, 2, 3, 5, 6, 8] rfl rfl (by decide) rfl rfl (fun u_5 H locs w_5 h_5 => ?_)
    clear h_2
    obtain ⟨w5_0, _⟩ := w_5
    replace h_5 : qW D _ _ [(h2, .inl (cy 1, 900, .inl f1)), (h3, .inl (cy 1, 11, .inl f2)), (h4, .inl (cy 1, 3, .inl f3)), (h7, .inl (cy 1, 4, .inl f6)), (h8, .inl (cy 2, 160, .inr (.inl g0))), (h6, .inl (cy 1, 4, .inl f5)), (h0, .inr (12, [.int 0, .ref h1, w0, w1, w2, .int p2, .int p3, .int p4, .int p5, .int p6, .int p7, .int p8, .int p9, .int p10, .int p11, .int p12, .ref h2, .ref h3, .ref h4, w3, .ref h5, .int p13, .int p14, w4, w5, w6, .int p15, .int p16, w7, w8, w9, w10, w11, .int p17, .ref h6, .ref h7, .ref h8])), (h1, .inl (cy 1, 3918, .inl f0)), (h5, .inl (cy 1, 32, .inl (u_5.2.1 0)))] _ _ := h_5
    refine lv_aload_n hx hb dX12_perform_21 rfl (lv_at hl_3 1 rfl) ?_
    refine lv_iload_n hx hb dX12_perform_22 rfl (lv_at hl_3 2 rfl) ?_
    refine q_callVi (rest := []) (wr := [(h6, .inl (cy 1, 4, .inl f5)), (h5, .inl (cy 1, 32, .inl (u_5.2.1 0)))]) X hK hT hA h_5 (fun sz => gX12_tells_f7a3d50 l D cy h0 h1 h2 h3 h4 h7 h8 p0 (0 : Int32) w0 w1 w2 p2 p3 p4 p5 p6 p7 p8 p9 p10 p11 p12 w3 (.ref h5) p13 p14 w4 w5 w6 p15 p16 w7 w8 w9 w10 w11 p17 (.ref h6) f0 p18 f1 f2 f3 f6 g0 ⟨by omega, by omega⟩ ⟨by decide +kernel, by decide +kernel⟩ hp2 hp3 hp4 hp5 (i_rng _) hp7 (i_rng _) (i_rng _) (i_rng _) (i_rng _) (i_rng _) (i_rng _) (i_rng _) (i_rng _) (i_rng _) (i_rng _) hp18 htf0_84 rf0 (rg_wide rf3 (by decide) (by decide)) (rg_wide rf6 (by decide) (by decide)) sz) wm_7_34 wm_7_37 wm_1_12 hd_X12_tells wm_7_36 wp_6_7 (ci := 12) (q0 := 0) rfl rfl ⟨Nat.le_of_ble_eq_true rfl, Nat.le_of_ble_eq_true rfl⟩ hl_3.1 rfl (Nat.le_of_ble_eq_true rfl) dX12_perform_23 ⟨Nat.le_of_ble_eq_true rfl, Nat.le_of_ble_eq_true rfl⟩ [6, 7, 0, 1, 2, 3, 4] [5, 8] rfl rfl (by decide) rfl rfl (fun r_6 u_6 H locs w_6 h_6 => ?_)
    clear h_5
    obtain ⟨wr_6, w6_0, w6_1, w6_2, w6_3, _⟩ := w_6
    replace h_6 : qW D _ _ (wk_ec84e3810 cy h6 f5 h5 (u_5.2.1 0) h0 0 h1 w0 w1 w2 p2 p3 p4 p5 p6 p7 p8 p9 p10 p11 p12 h2 h3 h4 w3 h5 (u_6.2.1 0 0) p14 w4 w5 w6 p15 p16 w7 w8 w9 w10 w11 p17 h6 h7 h8 h1 (u_6.2.1 1) h2 (u_6.2.1 2) h3 (u_6.2.1 3) h4 (u_6.2.1 4) h7 f6 h8 g0) _ _ := h_6
    refine lv_istore_n (lv' := [(3, .int r_6), (2, .int r_2), (0, .ref h0), (1, .int p0)]) hx hb dX12_perform_26 rfl hl_3 (by decide) rfl (fun ls_7 hl_7 => ?_)
    clear hl_3
    refine lv_iload_n hx hb dX12_perform_27 rfl (lv_at hl_7 0 rfl) ?_
    refine q_jn (pc2 := 35) (fun H locs ls st => ∃ v35_8_1 : Int32, ∃ v35_8_0 : Nat → Int32, (0 ≤ (v35_8_1).toInt ∧ (v35_8_1).toInt ≤ 10) ∧ v35_8_0 84 = v35_8_1 ∧ AL v35_8_0 ∧ st = [] ∧ qW D (va_A (wk_de5320454 cy h0 p1 h1 w0 w1 w2 p2 p3 p4 p5 p6 p7 p8 p9 p10 p11 p12 h2 h3 h4 w3 h5 p13 p14 w4 w5 w6 p15 p16 w7 w8 w9 w10 w11 p17 h6 h7 h8 h1 f0 h2 f1 h3 f2 h4 f3 h5 f4 h6 f5 h7 f6 h8 g0) sz) s.heap (wk_ec84e3810 cy h6 f5 h5 (u_5.2.1 0) h0 0 h1 w0 w1 w2 p2 p3 p4 p5 p6 p7 p8 p9 p10 p11 p12 h2 h3 h4 w3 h5 (u_6.2.1 0 0) p14 w4 w5 w6 p15 p16 w7 w8 w9 w10 w11 p17 h6 h7 h8 h1 v35_8_0 h2 (u_6.2.1 2) h3 (u_6.2.1 3) h4 (u_6.2.1 4) h7 f6 h8 g0) H locs ∧ lv_has ls 4 [(0, .ref h0), (1, .int p0), (2, .int r_2), (3, .int r_6)]) (fun H locs ls st hP => ?_) (fun J_35 => ?_)
    · obtain ⟨v35_8_1, v35_8_0, hv35_8_1, trv35_8_0_84, rv35_8_0, rfl, h, hl⟩ := hP
      refine lv_iload_n hx hb dX12_perform_35 rfl (lv_at hl 3 rfl) ?_
      exact q_iret X hr hlk hK h rfl (fun _ => 0, (vcons (u_5.2.1 0) (vcons (fun _ => 0) (vcons (fun _ => (u_6.2.1 0 0)) (vcons v35_8_0 (vcons (fun _ => v35_8_1) (vcons (u_6.2.1 2) (vcons (u_6.2.1 3) (vcons (u_6.2.1 4) (fun _ => (fun _ => 0)))))))))), fun _ _ => 0) ⟨(bw wr_6 (by decide) (by decide)), w5_0, (⟨by decide +kernel, by decide +kernel⟩ : 0 ≤ (0 : Int32).toInt ∧ (0 : Int32).toInt ≤ 0), (bw w6_0 (by decide) (by decide)), rv35_8_0, hv35_8_1, (rg_wide w6_2 (by decide) (by decide)), trv35_8_0_84, trivial⟩ [2, 3, 4, 5, 6, 1, 0, 7, 8] rfl rfl dX12_perform_36 (Nat.le_of_ble_eq_true rfl) (Nat.le_of_ble_eq_true rfl)
    · skip
      refine lv_if_le (tgt := 35) hx hb dX12_perform_28 (by decide) (fun c_9 => ?_) (fun c_9 => ?_)
      · replace c_9 := i_le (x := r_6) (y := 0) rfl (show (0 : Int32).toInt = 0 by decide) c_9
        exact J_35 _ _ _ _ ⟨p18, (u_6.2.1 1), hp18, w6_3, w6_1, rfl, h_6, (lv_sub hl_7 [2, 3, 1, 0] rfl)⟩
      · replace c_9 := i_nle (x := r_6) (y := 0) rfl (show (0 : Int32).toInt = 0 by decide) c_9
        refine lv_aload_n hx hb dX12_perform_31 rfl (lv_at hl_7 2 rfl) ?_
        refine q_callVv (rest := []) (wr := [(h6, .inl (cy 1, 4, .inl f5)), (h2, .inl (cy 1, 900, .inl (u_6.2.1 2))), (h3, .inl (cy 1, 11, .inl (u_6.2.1 3))), (h4, .inl (cy 1, 3, .inl (u_6.2.1 4))), (h7, .inl (cy 1, 4, .inl f6)), (h8, .inl (cy 2, 160, .inr (.inl g0)))]) X hK hT hA h_6 (fun sz => gX12_notes_fd80d29 l D cy h0 h1 h5 (0 : Int32) w0 w1 w2 p2 p3 p4 p5 p6 p7 p8 p9 p10 p11 p12 (.ref h2) (.ref h3) (.ref h4) w3 (u_6.2.1 0 0) p14 w4 w5 w6 p15 p16 w7 w8 w9 w10 w11 p17 (.ref h6) (.ref h7) (.ref h8) (u_6.2.1 1) p18 (u_5.2.1 0) ⟨by decide +kernel, by decide +kernel⟩ hp2 hp3 hp4 hp5 (i_rng _) hp7 (i_rng _) (i_rng _) (i_rng _) (i_rng _) (i_rng _) (i_rng _) (i_rng _) (i_rng _) (i_rng _) (i_rng _) hp18 w6_3 w6_1 w5_0 sz) wm_6_232 wm_6_235 wm_1_12 hd_X12_notes wm_6_234 wp_6_3 (ci := 12) (q0 := 0) rfl rfl ⟨Nat.le_of_ble_eq_true rfl, Nat.le_of_ble_eq_true rfl⟩ hl_7.1 rfl (Nat.le_of_ble_eq_true rfl) dX12_perform_32 ⟨Nat.le_of_ble_eq_true rfl, Nat.le_of_ble_eq_true rfl⟩ [2, 3, 1] [0, 4, 5, 6, 7, 8] rfl rfl (by decide) rfl rfl (fun u_10 H locs w_10 h_10 => ?_)
        clear h_6
        obtain ⟨w10_0, w10_1, w10_2, _⟩ := w_10
        replace h_10 : qW D _ _ [(h6, .inl (cy 1, 4, .inl f5)), (h2, .inl (cy 1, 900, .inl (u_6.2.1 2))), (h3, .inl (cy 1, 11, .inl (u_6.2.1 3))), (h4, .inl (cy 1, 3, .inl (u_6.2.1 4))), (h7, .inl (cy 1, 4, .inl f6)), (h8, .inl (cy 2, 160, .inr (.inl g0))), (h0, .inr (12, [.int 0, .ref h1, w0, w1, w2, .int p2, .int p3, .int p4, .int p5, .int p6, .int p7, .int p8, .int p9, .int p10, .int p11, .int p12, .ref h2, .ref h3, .ref h4, w3, .ref h5, .int (u_6.2.1 0 0), .int p14, w4, w5, w6, .int p15, .int p16, w7, w8, w9, w10, w11, .int p17, .ref h6, .ref h7, .ref h8])), (h1, .inl (cy 1, 3918, .inl (u_10.2.1 0))), (h5, .inl (cy 1, 32, .inl (u_5.2.1 0)))] _ _ := h_10
        exact J_35 _ _ _ _ ⟨(u_10.2.1 1 0), (u_10.2.1 0), (bw w10_1 (by decide) (by decide)), w10_2, w10_0, rfl, (q_re h_10 [0, 8, 6, 7, 1, 2, 3, 4, 5] rfl rfl), (lv_sub hl_7 [2, 3, 1, 0] rfl)⟩
  · replace c_4 := i_ne (x := r_2) (y := 0) rfl (show (0 : Int32).toInt = 0 by decide) c_4
    refine lv_iload_n hx hb dX12_perform_15 rfl (lv_at hl_3 0 rfl) ?_
    exact q_iret X hr hlk hK h_2 rfl (fun _ => 0, (vcons f4 (vcons (fun _ => 0) (vcons (fun _ => p13) (vcons f0 (vcons (fun _ => p18) (vcons f1 (vcons f2 (vcons f3 (fun _ => (fun _ => 0)))))))))), fun _ _ => 0) ⟨(bw wr_2 (by decide) (by decide)), rf4, (⟨by decide +kernel, by decide +kernel⟩ : 0 ≤ (0 : Int32).toInt ∧ (0 : Int32).toInt ≤ 0), hp13, rf0, hp18, (rg_wide rf3 (by decide) (by decide)), htf0_84, trivial⟩ [7, 0, 1, 2, 3, 4, 8, 5, 6] rfl rfl dX12_perform_16 (Nat.le_of_ble_eq_true rfl) (Nat.le_of_ble_eq_true rfl)
set_option maxHeartbeats 4000000 in
set_option maxRecDepth 100000 in
theorem gX12_draw_4456584 (l : Launch) (D : va_G) (cy : Nat → ClassId) (h0 : Nat) (p0 : Int32) (w0 : Value) (w1 : Value) (w2 : Value) (w3 : Value) (p1 : Int32) (p2 : Int32) (p3 : Int32) (p4 : Int32) (p5 : Int32) (p6 : Int32) (p7 : Int32) (p8 : Int32) (p9 : Int32) (p10 : Int32) (p11 : Int32) (w4 : Value) (w5 : Value) (w6 : Value) (w7 : Value) (w8 : Value) (p12 : Int32) (p13 : Int32) (w9 : Value) (w10 : Value) (w11 : Value) (p14 : Int32) (p15 : Int32) (w12 : Value) (w13 : Value) (w14 : Value) (w15 : Value) (w16 : Value) (p16 : Int32) (w17 : Value) (w18 : Value) (w19 : Value) (hp0 : 0 ≤ (p0).toInt ∧ (p0).toInt ≤ 0) (hp1 : 0 ≤ (p1).toInt ∧ (p1).toInt ≤ 900) (hp2 : 0 ≤ (p2).toInt ∧ (p2).toInt ≤ 900) (hp3 : 0 ≤ (p3).toInt ∧ (p3).toInt ≤ 900) (hp4 : 0 ≤ (p4).toInt ∧ (p4).toInt ≤ 900) (hp5 : (-2147483648) ≤ (p5).toInt ∧ (p5).toInt ≤ 2147483647) (hp6 : 0 ≤ (p6).toInt ∧ (p6).toInt ≤ 999) (hp7 : (-2147483648) ≤ (p7).toInt ∧ (p7).toInt ≤ 2147483647) (hp8 : (-2147483648) ≤ (p8).toInt ∧ (p8).toInt ≤ 2147483647) (hp9 : (-2147483648) ≤ (p9).toInt ∧ (p9).toInt ≤ 2147483647) (hp10 : (-2147483648) ≤ (p10).toInt ∧ (p10).toInt ≤ 2147483647) (hp11 : (-2147483648) ≤ (p11).toInt ∧ (p11).toInt ≤ 2147483647) (hp12 : (-2147483648) ≤ (p12).toInt ∧ (p12).toInt ≤ 2147483647) (hp13 : (-2147483648) ≤ (p13).toInt ∧ (p13).toInt ≤ 2147483647) (hp14 : (-2147483648) ≤ (p14).toInt ∧ (p14).toInt ≤ 2147483647) (hp15 : (-2147483648) ≤ (p15).toInt ∧ (p15).toInt ≤ 2147483647) (hp16 : (-2147483648) ≤ (p16).toInt ∧ (p16).toInt ≤ 2147483647) (sz : Nat) : MI l yX12_draw cX12_draw 2 .int { frames := 0, cells := 0, slots := 0, locals := 0 } [.ref h0, .int 4] D cy [(h0, .inr (12, [.int p0, w0, w1, w2, w3, .int p1, .int p2, .int p3, .int p4, .int p5, .int p6, .int p7, .int p8, .int p9, .int p10, .int p11, w4, w5, w6, w7, w8, .int p12, .int p13, w9, w10, w11, .int p14, .int p15, w12, w13, w14, w15, w16, .int p16, w17, w18, w19]))] sz (fun r u => ((-2147483648) ≤ r.toInt ∧ r.toInt ≤ 2147483647) ∧ ((-2147483648) ≤ (u.2.1 0 0).toInt ∧ (u.2.1 0 0).toInt ≤ 2147483647) ∧ True) (fun u => [(h0, .inr (12, [.int p0, w0, w1, w2, w3, .int p1, .int p2, .int p3, .int p4, .int p5, .int p6, .int p7, .int p8, .int p9, .int p10, .int p11, w4, w5, w6, w7, w8, .int p12, .int (u.2.1 0 0), w9, w10, w11, .int p14, .int p15, w12, w13, w14, w15, w16, .int p16, w17, w18, w19]))]) 0 0 := by
  refine q_ent (own := RX12) (by decide) rfl (Nat.le_of_ble_eq_true rfl) (fun p e s m below meth c ls X hr hlk hnm hK hT h hA hl => ?_)
  obtain ⟨hx, hb, hml, hown, ht⟩ := id X
  replace hl : lv_has ls 2 [(0, .ref h0), (1, .int 4)] := hl
  refine lv_aload_n hx hb dX12_draw_0 rfl (lv_at hl 0 rfl) ?_
  refine lv_ldcw hx hb hown (ht _ wm_7_91) dX12_draw_1 ?_
  refine lv_aload_n hx hb dX12_draw_4 rfl (lv_at hl 0 rfl) ?_
  refine q_get X hK h 0 rfl rfl wf_12 22 (by decide) rfl wm_5_192 dX12_draw_5 ?_
  refine lv_imul hx hb dX12_draw_8 ?_
  refine q_any (fun z_1 hz_1 => ?_)
  refine lv_sipush (v := 12345) hx hb dX12_draw_9 (by decide) ?_
  refine lv_iadd hx hb dX12_draw_12 ?_
  refine q_any (fun z_2 hz_2 => ?_)
  refine q_put (v := .int z_2) X hK h 0 rfl rfl wf_12 tyX12 tyX12_ok nmX12 22 (by decide) wm_5_192 rfl rfl rfl (Nat.le_of_ble_eq_true rfl) dX12_draw_13 (fun H locs h_3 => ?_)
  clear h
  replace h_3 : qW D _ _ [(h0, .inr (12, [.int p0, w0, w1, w2, w3, .int p1, .int p2, .int p3, .int p4, .int p5, .int p6, .int p7, .int p8, .int p9, .int p10, .int p11, w4, w5, w6, w7, w8, .int p12, .int z_2, w9, w10, w11, .int p14, .int p15, w12, w13, w14, w15, w16, .int p16, w17, w18, w19]))] _ _ := h_3
  refine lv_aload_n hx hb dX12_draw_16 rfl (lv_at hl 0 rfl) ?_
  refine q_get X hK h_3 0 rfl rfl wf_12 22 (by decide) rfl wm_5_192 dX12_draw_17 ?_
  refine lv_bipush (v := 16) hx hb dX12_draw_20 (by decide) ?_
  refine lv_iushr hx hb dX12_draw_22 rfl ?_
  refine q_any (fun z_4 hz_4 => ?_)
  refine lv_iload_n hx hb dX12_draw_23 rfl (lv_at hl 1 rfl) ?_
  refine lv_irem hx hb dX12_draw_24 (by decide) ?_
  refine q_any (fun z_5 hz_5 => ?_)
  exact q_iret X hr hlk hK h_3 rfl (fun _ => 0, (vcons (fun _ => z_2) (fun _ => (fun _ => 0))), fun _ _ => 0) ⟨⟨by omega, by omega⟩, (⟨by omega, by omega⟩ : (-2147483648) ≤ (z_2 : Int32).toInt ∧ (z_2 : Int32).toInt ≤ 2147483647), trivial⟩ [0] rfl rfl dX12_draw_25 (Nat.le_of_ble_eq_true rfl) (Nat.le_of_ble_eq_true rfl)
set_option maxHeartbeats 4000000 in
set_option maxRecDepth 100000 in
theorem gX12_draw_a844e70 (l : Launch) (D : va_G) (cy : Nat → ClassId) (h0 : Nat) (p0 : Int32) (w0 : Value) (w1 : Value) (w2 : Value) (w3 : Value) (p1 : Int32) (p2 : Int32) (p3 : Int32) (p4 : Int32) (p5 : Int32) (p6 : Int32) (p7 : Int32) (p8 : Int32) (p9 : Int32) (p10 : Int32) (p11 : Int32) (w4 : Value) (w5 : Value) (w6 : Value) (w7 : Value) (w8 : Value) (p12 : Int32) (p13 : Int32) (w9 : Value) (w10 : Value) (w11 : Value) (p14 : Int32) (p15 : Int32) (w12 : Value) (w13 : Value) (w14 : Value) (w15 : Value) (w16 : Value) (p16 : Int32) (w17 : Value) (w18 : Value) (w19 : Value) (hp0 : 0 ≤ (p0).toInt ∧ (p0).toInt ≤ 0) (hp1 : 0 ≤ (p1).toInt ∧ (p1).toInt ≤ 900) (hp2 : 0 ≤ (p2).toInt ∧ (p2).toInt ≤ 900) (hp3 : 0 ≤ (p3).toInt ∧ (p3).toInt ≤ 900) (hp4 : 0 ≤ (p4).toInt ∧ (p4).toInt ≤ 900) (hp5 : (-2147483648) ≤ (p5).toInt ∧ (p5).toInt ≤ 2147483647) (hp6 : 0 ≤ (p6).toInt ∧ (p6).toInt ≤ 999) (hp7 : (-2147483648) ≤ (p7).toInt ∧ (p7).toInt ≤ 2147483647) (hp8 : (-2147483648) ≤ (p8).toInt ∧ (p8).toInt ≤ 2147483647) (hp9 : (-2147483648) ≤ (p9).toInt ∧ (p9).toInt ≤ 2147483647) (hp10 : (-2147483648) ≤ (p10).toInt ∧ (p10).toInt ≤ 2147483647) (hp11 : (-2147483648) ≤ (p11).toInt ∧ (p11).toInt ≤ 2147483647) (hp12 : (-2147483648) ≤ (p12).toInt ∧ (p12).toInt ≤ 2147483647) (hp13 : (-2147483648) ≤ (p13).toInt ∧ (p13).toInt ≤ 2147483647) (hp14 : (-2147483648) ≤ (p14).toInt ∧ (p14).toInt ≤ 2147483647) (hp15 : (-2147483648) ≤ (p15).toInt ∧ (p15).toInt ≤ 2147483647) (hp16 : (-2147483648) ≤ (p16).toInt ∧ (p16).toInt ≤ 2147483647) (sz : Nat) : MI l yX12_draw cX12_draw 2 .int { frames := 0, cells := 0, slots := 0, locals := 0 } [.ref h0, .int 10] D cy [(h0, .inr (12, [.int p0, w0, w1, w2, w3, .int p1, .int p2, .int p3, .int p4, .int p5, .int p6, .int p7, .int p8, .int p9, .int p10, .int p11, w4, w5, w6, w7, w8, .int p12, .int p13, w9, w10, w11, .int p14, .int p15, w12, w13, w14, w15, w16, .int p16, w17, w18, w19]))] sz (fun r u => ((-2147483648) ≤ r.toInt ∧ r.toInt ≤ 2147483647) ∧ ((-2147483648) ≤ (u.2.1 0 0).toInt ∧ (u.2.1 0 0).toInt ≤ 2147483647) ∧ True) (fun u => [(h0, .inr (12, [.int p0, w0, w1, w2, w3, .int p1, .int p2, .int p3, .int p4, .int p5, .int p6, .int p7, .int p8, .int p9, .int p10, .int p11, w4, w5, w6, w7, w8, .int p12, .int (u.2.1 0 0), w9, w10, w11, .int p14, .int p15, w12, w13, w14, w15, w16, .int p16, w17, w18, w19]))]) 0 0 := by
  refine q_ent (own := RX12) (by decide) rfl (Nat.le_of_ble_eq_true rfl) (fun p e s m below meth c ls X hr hlk hnm hK hT h hA hl => ?_)
  obtain ⟨hx, hb, hml, hown, ht⟩ := id X
  replace hl : lv_has ls 2 [(0, .ref h0), (1, .int 10)] := hl
  refine lv_aload_n hx hb dX12_draw_0 rfl (lv_at hl 0 rfl) ?_
  refine lv_ldcw hx hb hown (ht _ wm_7_91) dX12_draw_1 ?_
  refine lv_aload_n hx hb dX12_draw_4 rfl (lv_at hl 0 rfl) ?_
  refine q_get X hK h 0 rfl rfl wf_12 22 (by decide) rfl wm_5_192 dX12_draw_5 ?_
  refine lv_imul hx hb dX12_draw_8 ?_
  refine q_any (fun z_1 hz_1 => ?_)
  refine lv_sipush (v := 12345) hx hb dX12_draw_9 (by decide) ?_
  refine lv_iadd hx hb dX12_draw_12 ?_
  refine q_any (fun z_2 hz_2 => ?_)
  refine q_put (v := .int z_2) X hK h 0 rfl rfl wf_12 tyX12 tyX12_ok nmX12 22 (by decide) wm_5_192 rfl rfl rfl (Nat.le_of_ble_eq_true rfl) dX12_draw_13 (fun H locs h_3 => ?_)
  clear h
  replace h_3 : qW D _ _ [(h0, .inr (12, [.int p0, w0, w1, w2, w3, .int p1, .int p2, .int p3, .int p4, .int p5, .int p6, .int p7, .int p8, .int p9, .int p10, .int p11, w4, w5, w6, w7, w8, .int p12, .int z_2, w9, w10, w11, .int p14, .int p15, w12, w13, w14, w15, w16, .int p16, w17, w18, w19]))] _ _ := h_3
  refine lv_aload_n hx hb dX12_draw_16 rfl (lv_at hl 0 rfl) ?_
  refine q_get X hK h_3 0 rfl rfl wf_12 22 (by decide) rfl wm_5_192 dX12_draw_17 ?_
  refine lv_bipush (v := 16) hx hb dX12_draw_20 (by decide) ?_
  refine lv_iushr hx hb dX12_draw_22 rfl ?_
  refine q_any (fun z_4 hz_4 => ?_)
  refine lv_iload_n hx hb dX12_draw_23 rfl (lv_at hl 1 rfl) ?_
  refine lv_irem hx hb dX12_draw_24 (by decide) ?_
  refine q_any (fun z_5 hz_5 => ?_)
  exact q_iret X hr hlk hK h_3 rfl (fun _ => 0, (vcons (fun _ => z_2) (fun _ => (fun _ => 0))), fun _ _ => 0) ⟨⟨by omega, by omega⟩, (⟨by omega, by omega⟩ : (-2147483648) ≤ (z_2 : Int32).toInt ∧ (z_2 : Int32).toInt ≤ 2147483647), trivial⟩ [0] rfl rfl dX12_draw_25 (Nat.le_of_ble_eq_true rfl) (Nat.le_of_ble_eq_true rfl)
set_option maxHeartbeats 4000000 in
set_option maxRecDepth 100000 in
theorem gX12_drawn_2a50122 (l : Launch) (D : va_G) (cy : Nat → ClassId) (h0 : Nat) (p0 : Int32) (w0 : Value) (w1 : Value) (w2 : Value) (w3 : Value) (p1 : Int32) (p2 : Int32) (p3 : Int32) (p4 : Int32) (p5 : Int32) (p6 : Int32) (p7 : Int32) (p8 : Int32) (p9 : Int32) (p10 : Int32) (p11 : Int32) (w4 : Value) (w5 : Value) (w6 : Value) (w7 : Value) (w8 : Value) (p12 : Int32) (p13 : Int32) (w9 : Value) (w10 : Value) (w11 : Value) (p14 : Int32) (p15 : Int32) (w12 : Value) (w13 : Value) (w14 : Value) (w15 : Value) (w16 : Value) (p16 : Int32) (w17 : Value) (w18 : Value) (w19 : Value) (hp0 : 0 ≤ (p0).toInt ∧ (p0).toInt ≤ 0) (hp1 : 0 ≤ (p1).toInt ∧ (p1).toInt ≤ 900) (hp2 : 0 ≤ (p2).toInt ∧ (p2).toInt ≤ 900) (hp3 : 0 ≤ (p3).toInt ∧ (p3).toInt ≤ 900) (hp4 : 0 ≤ (p4).toInt ∧ (p4).toInt ≤ 900) (hp5 : (-2147483648) ≤ (p5).toInt ∧ (p5).toInt ≤ 2147483647) (hp6 : 0 ≤ (p6).toInt ∧ (p6).toInt ≤ 999) (hp7 : (-2147483648) ≤ (p7).toInt ∧ (p7).toInt ≤ 2147483647) (hp8 : (-2147483648) ≤ (p8).toInt ∧ (p8).toInt ≤ 2147483647) (hp9 : (-2147483648) ≤ (p9).toInt ∧ (p9).toInt ≤ 2147483647) (hp10 : (-2147483648) ≤ (p10).toInt ∧ (p10).toInt ≤ 2147483647) (hp11 : (-2147483648) ≤ (p11).toInt ∧ (p11).toInt ≤ 2147483647) (hp12 : (-2147483648) ≤ (p12).toInt ∧ (p12).toInt ≤ 2147483647) (hp13 : (-2147483648) ≤ (p13).toInt ∧ (p13).toInt ≤ 2147483647) (hp14 : (-2147483648) ≤ (p14).toInt ∧ (p14).toInt ≤ 2147483647) (hp15 : (-2147483648) ≤ (p15).toInt ∧ (p15).toInt ≤ 2147483647) (hp16 : (-2147483648) ≤ (p16).toInt ∧ (p16).toInt ≤ 2147483647) (sz : Nat) : MI l yX12_drawn cX12_drawn 3 .int { frames := 1, cells := 0, slots := 0, locals := 21 } [.ref h0] D cy [(h0, .inr (12, [.int p0, w0, w1, w2, w3, .int p1, .int p2, .int p3, .int p4, .int p5, .int p6, .int p7, .int p8, .int p9, .int p10, .int p11, w4, w5, w6, w7, w8, .int p12, .int p13, w9, w10, w11, .int p14, .int p15, w12, w13, w14, w15, w16, .int p16, w17, w18, w19]))] sz (fun r u => ((-2147483648) ≤ r.toInt ∧ r.toInt ≤ 2147483647) ∧ ((-2147483648) ≤ (u.2.1 0 0).toInt ∧ (u.2.1 0 0).toInt ≤ 2147483647) ∧ True) (fun u => [(h0, .inr (12, [.int p0, w0, w1, w2, w3, .int p1, .int p2, .int p3, .int p4, .int p5, .int p6, .int p7, .int p8, .int p9, .int p10, .int p11, w4, w5, w6, w7, w8, .int p12, .int (u.2.1 0 0), w9, w10, w11, .int p14, .int p15, w12, w13, w14, w15, w16, .int p16, w17, w18, w19]))]) 0 0 := by
  refine q_ent (own := RX12) (by decide) rfl (Nat.le_of_ble_eq_true rfl) (fun p e s m below meth c ls X hr hlk hnm hK hT h hA hl => ?_)
  obtain ⟨hx, hb, hml, hown, ht⟩ := id X
  replace hl : lv_has ls 3 [(0, .ref h0)] := hl
  refine lv_aload_n hx hb dX12_drawn_0 rfl (lv_at hl 0 rfl) ?_
  refine lv_iconst (v := 4) hx hb dX12_drawn_1 (by decide) ?_
  refine q_callVi (rest := []) (wr := []) X hK hT hA h (fun sz => gX12_draw_4456584 l D cy h0 p0 w0 w1 w2 w3 p1 p2 p3 p4 p5 p6 p7 p8 p9 p10 p11 w4 w5 w6 w7 w8 p12 p13 w9 w10 w11 p14 p15 w12 w13 w14 w15 w16 p16 w17 w18 w19 hp0 hp1 hp2 hp3 hp4 (i_rng _) hp6 (i_rng _) (i_rng _) (i_rng _) (i_rng _) (i_rng _) (i_rng _) (i_rng _) (i_rng _) (i_rng _) (i_rng _) sz) wm_7_87 wm_7_90 wm_1_12 hd_X12_draw wm_7_89 wp_7_0 (ci := 12) (q0 := 0) rfl rfl ⟨Nat.le_of_ble_eq_true rfl, Nat.le_of_ble_eq_true rfl⟩ hl.1 rfl (Nat.le_of_ble_eq_true rfl) dX12_drawn_2 ⟨Nat.le_of_ble_eq_true rfl, Nat.le_of_ble_eq_true rfl⟩ [0] [] rfl rfl (by decide) rfl rfl (fun r_1 u_1 H locs w_1 h_1 => ?_)
  clear h
  obtain ⟨wr_1, w1_0, _⟩ := w_1
  replace h_1 : qW D _ _ [(h0, .inr (12, [.int p0, w0, w1, w2, w3, .int p1, .int p2, .int p3, .int p4, .int p5, .int p6, .int p7, .int p8, .int p9, .int p10, .int p11, w4, w5, w6, w7, w8, .int p12, .int (u_1.2.1 0 0), w9, w10, w11, .int p14, .int p15, w12, w13, w14, w15, w16, .int p16, w17, w18, w19]))] _ _ := h_1
  refine lv_istore_n (lv' := [(1, .int r_1), (0, .ref h0)]) hx hb dX12_drawn_5 rfl hl (by decide) rfl (fun ls_2 hl_2 => ?_)
  clear hl
  refine lv_iload_n hx hb dX12_drawn_6 rfl (lv_at hl_2 0 rfl) ?_
  refine lv_if_ne (tgt := 12) hx hb dX12_drawn_7 (by decide) (fun c_3 => ?_) (fun c_3 => ?_)
  · replace c_3 := i_ne (x := r_1) (y := 0) rfl (show (0 : Int32).toInt = 0 by decide) c_3
    refine lv_aload_n hx hb dX12_drawn_12 rfl (lv_at hl_2 1 rfl) ?_
    refine lv_bipush (v := 10) hx hb dX12_drawn_13 (by decide) ?_
    refine q_callVi (rest := []) (wr := []) X hK hT hA h_1 (fun sz => gX12_draw_a844e70 l D cy h0 p0 w0 w1 w2 w3 p1 p2 p3 p4 p5 p6 p7 p8 p9 p10 p11 w4 w5 w6 w7 w8 p12 (u_1.2.1 0 0) w9 w10 w11 p14 p15 w12 w13 w14 w15 w16 p16 w17 w18 w19 hp0 hp1 hp2 hp3 hp4 (i_rng _) hp6 (i_rng _) (i_rng _) (i_rng _) (i_rng _) (i_rng _) (i_rng _) (i_rng _) (i_rng _) (i_rng _) (i_rng _) sz) wm_7_87 wm_7_90 wm_1_12 hd_X12_draw wm_7_89 wp_7_0 (ci := 12) (q0 := 0) rfl rfl ⟨Nat.le_of_ble_eq_true rfl, Nat.le_of_ble_eq_true rfl⟩ hl_2.1 rfl (Nat.le_of_ble_eq_true rfl) dX12_drawn_15 ⟨Nat.le_of_ble_eq_true rfl, Nat.le_of_ble_eq_true rfl⟩ [0] [] rfl rfl (by decide) rfl rfl (fun r_4 u_4 H locs w_4 h_4 => ?_)
    clear h_1
    obtain ⟨wr_4, w4_0, _⟩ := w_4
    replace h_4 : qW D _ _ [(h0, .inr (12, [.int p0, w0, w1, w2, w3, .int p1, .int p2, .int p3, .int p4, .int p5, .int p6, .int p7, .int p8, .int p9, .int p10, .int p11, w4, w5, w6, w7, w8, .int p12, .int (u_4.2.1 0 0), w9, w10, w11, .int p14, .int p15, w12, w13, w14, w15, w16, .int p16, w17, w18, w19]))] _ _ := h_4
    refine lv_istore_n (lv' := [(2, .int r_4), (1, .int r_1), (0, .ref h0)]) hx hb dX12_drawn_18 rfl hl_2 (by decide) rfl (fun ls_5 hl_5 => ?_)
    clear hl_2
    refine lv_iload_n hx hb dX12_drawn_19 rfl (lv_at hl_5 1 rfl) ?_
    refine lv_iconst (v := 1) hx hb dX12_drawn_20 (by decide) ?_
    refine q_jn (pc2 := 55) (fun H locs ls st => ∃ v55_6_0 : Int32, ∃ v55_6_1 : Int32, ((-2147483648) ≤ (v55_6_0).toInt ∧ (v55_6_0).toInt ≤ 2147483647) ∧ ((-2147483648) ≤ (v55_6_1).toInt ∧ (v55_6_1).toInt ≤ 2147483647) ∧ st = [.int v55_6_1] ∧ qW D (va_A [(h0, .inr (12, [.int p0, w0, w1, w2, w3, .int p1, .int p2, .int p3, .int p4, .int p5, .int p6, .int p7, .int p8, .int p9, .int p10, .int p11, w4, w5, w6, w7, w8, .int p12, .int p13, w9, w10, w11, .int p14, .int p15, w12, w13, w14, w15, w16, .int p16, w17, w18, w19]))] sz) s.heap [(h0, .inr (12, [.int p0, w0, w1, w2, w3, .int p1, .int p2, .int p3, .int p4, .int p5, .int p6, .int p7, .int p8, .int p9, .int p10, .int p11, w4, w5, w6, w7, w8, .int p12, .int v55_6_0, w9, w10, w11, .int p14, .int p15, w12, w13, w14, w15, w16, .int p16, w17, w18, w19]))] H locs ∧ lv_has ls 3 [(0, .ref h0), (1, .int r_1), (2, .int r_4)]) (fun H locs ls st hP => ?_) (fun J_55 => ?_)
    · obtain ⟨v55_6_0, v55_6_1, hv55_6_0, hv55_6_1, rfl, h, hl⟩ := hP
      exact q_iret X hr hlk hK h rfl (fun _ => 0, (vcons (fun _ => v55_6_0) (fun _ => (fun _ => 0))), fun _ _ => 0) ⟨hv55_6_1, hv55_6_0, trivial⟩ [0] rfl rfl dX12_drawn_55 (Nat.le_of_ble_eq_true rfl) (Nat.le_of_ble_eq_true rfl)
    · skip
      refine lv_icmp_ne (tgt := 38) hx hb dX12_drawn_21 (by decide) (fun c_7 => ?_) (fun c_7 => ?_)
      · replace c_7 := i_ne (x := r_1) (y := 1) rfl (show (1 : Int32).toInt = 1 by decide) c_7
        refine lv_iload_n hx hb dX12_drawn_38 rfl (lv_at hl_5 1 rfl) ?_
        refine lv_iconst (v := 2) hx hb dX12_drawn_39 (by decide) ?_
        refine lv_icmp_ne (tgt := 50) hx hb dX12_drawn_40 (by decide) (fun c_8 => ?_) (fun c_8 => ?_)
        · replace c_8 := i_ne (x := r_1) (y := 2) rfl (show (2 : Int32).toInt = 2 by decide) c_8
          refine lv_sipush (v := 200) hx hb dX12_drawn_50 (by decide) ?_
          refine lv_iload_n hx hb dX12_drawn_53 rfl (lv_at hl_5 0 rfl) ?_
          refine lv_iadd hx hb dX12_drawn_54 ?_
          refine q_any (fun z_9 hz_9 => ?_)
          exact J_55 _ _ _ _ ⟨(u_4.2.1 0 0), z_9, w4_0, ⟨by omega, by omega⟩, rfl, h_4, (lv_sub hl_5 [2, 1, 0] rfl)⟩
        · replace c_8 := i_eq (x := r_1) (y := 2) rfl (show (2 : Int32).toInt = 2 by decide) c_8
          refine lv_bipush (v := 100) hx hb dX12_drawn_43 (by decide) ?_
          refine lv_iload_n hx hb dX12_drawn_45 rfl (lv_at hl_5 0 rfl) ?_
          refine lv_iadd hx hb dX12_drawn_46 ?_
          refine q_any (fun z_10 hz_10 => ?_)
          refine lv_goto (tgt := 55) hx hb dX12_drawn_47 (by decide) ?_
          exact J_55 _ _ _ _ ⟨(u_4.2.1 0 0), z_10, w4_0, ⟨by omega, by omega⟩, rfl, h_4, (lv_sub hl_5 [2, 1, 0] rfl)⟩
      · replace c_7 := i_eq (x := r_1) (y := 1) rfl (show (1 : Int32).toInt = 1 by decide) c_7
        refine lv_bipush (v := 10) hx hb dX12_drawn_24 (by decide) ?_
        refine lv_iload_n hx hb dX12_drawn_26 rfl (lv_at hl_5 0 rfl) ?_
        refine lv_imul hx hb dX12_drawn_27 ?_
        refine q_any (fun z_11 hz_11 => ?_)
        refine lv_aload_n hx hb dX12_drawn_28 rfl (lv_at hl_5 2 rfl) ?_
        refine lv_bipush (v := 10) hx hb dX12_drawn_29 (by decide) ?_
        refine q_callVi (rest := [.int z_11]) (wr := []) X hK hT hA h_4 (fun sz => gX12_draw_a844e70 l D cy h0 p0 w0 w1 w2 w3 p1 p2 p3 p4 p5 p6 p7 p8 p9 p10 p11 w4 w5 w6 w7 w8 p12 (u_4.2.1 0 0) w9 w10 w11 p14 p15 w12 w13 w14 w15 w16 p16 w17 w18 w19 hp0 hp1 hp2 hp3 hp4 (i_rng _) hp6 (i_rng _) (i_rng _) (i_rng _) (i_rng _) (i_rng _) (i_rng _) (i_rng _) (i_rng _) (i_rng _) (i_rng _) sz) wm_7_87 wm_7_90 wm_1_12 hd_X12_draw wm_7_89 wp_7_0 (ci := 12) (q0 := 0) rfl rfl ⟨Nat.le_of_ble_eq_true rfl, Nat.le_of_ble_eq_true rfl⟩ hl_5.1 rfl (Nat.le_of_ble_eq_true rfl) dX12_drawn_31 ⟨Nat.le_of_ble_eq_true rfl, Nat.le_of_ble_eq_true rfl⟩ [0] [] rfl rfl (by decide) rfl rfl (fun r_12 u_12 H locs w_12 h_12 => ?_)
        clear h_4
        obtain ⟨wr_12, w12_0, _⟩ := w_12
        replace h_12 : qW D _ _ [(h0, .inr (12, [.int p0, w0, w1, w2, w3, .int p1, .int p2, .int p3, .int p4, .int p5, .int p6, .int p7, .int p8, .int p9, .int p10, .int p11, w4, w5, w6, w7, w8, .int p12, .int (u_12.2.1 0 0), w9, w10, w11, .int p14, .int p15, w12, w13, w14, w15, w16, .int p16, w17, w18, w19]))] _ _ := h_12
        refine lv_iadd hx hb dX12_drawn_34 ?_
        refine q_any (fun z_13 hz_13 => ?_)
        refine lv_goto (tgt := 55) hx hb dX12_drawn_35 (by decide) ?_
        exact J_55 _ _ _ _ ⟨(u_12.2.1 0 0), z_13, w12_0, ⟨by omega, by omega⟩, rfl, h_12, (lv_sub hl_5 [2, 1, 0] rfl)⟩
  · replace c_3 := i_eq (x := r_1) (y := 0) rfl (show (0 : Int32).toInt = 0 by decide) c_3
    refine lv_iconst (v := (-1)) hx hb dX12_drawn_10 (by decide) ?_
    exact q_iret X hr hlk hK h_1 rfl (fun _ => 0, (vcons (fun _ => (u_1.2.1 0 0)) (fun _ => (fun _ => 0))), fun _ _ => 0) ⟨⟨by decide +kernel, by decide +kernel⟩, w1_0, trivial⟩ [0] rfl rfl dX12_drawn_11 (Nat.le_of_ble_eq_true rfl) (Nat.le_of_ble_eq_true rfl)
set_option maxHeartbeats 4000000 in
set_option maxRecDepth 100000 in
theorem gX12_year_fa35dbf (l : Launch) (D : va_G) (cy : Nat → ClassId) (h0 : Nat) (h1 : Nat) (h2 : Nat) (h3 : Nat) (h4 : Nat) (h5 : Nat) (p0 : Int32) (p1 : Int32) (p2 : Int32) (w0 : Value) (w1 : Value) (w2 : Value) (p3 : Int32) (p4 : Int32) (p5 : Int32) (p6 : Int32) (p7 : Int32) (p8 : Int32) (p9 : Int32) (p10 : Int32) (p11 : Int32) (p12 : Int32) (p13 : Int32) (w3 : Value) (p14 : Int32) (p15 : Int32) (w4 : Value) (w5 : Value) (w6 : Value) (p16 : Int32) (p17 : Int32) (w7 : Value) (w8 : Value) (w9 : Value) (w10 : Value) (w11 : Value) (p18 : Int32) (w12 : Value) (w13 : Value) (w14 : Value) (f0 : Nat → Int32) (p19 : Int32) (f1 : Nat → Int32) (f2 : Nat → Int32) (f3 : Nat → Int32) (f4 : Nat → Int32) (hp0 : (-2147483648) ≤ (p0).toInt ∧ (p0).toInt ≤ 2147483647) (hp1 : (-2147483648) ≤ (p1).toInt ∧ (p1).toInt ≤ 2147483647) (hp2 : (-2147483648) ≤ (p2).toInt ∧ (p2).toInt ≤ 2147483647) (hp3 : 0 ≤ (p3).toInt ∧ (p3).toInt ≤ 900) (hp4 : 0 ≤ (p4).toInt ∧ (p4).toInt ≤ 900) (hp5 : 0 ≤ (p5).toInt ∧ (p5).toInt ≤ 900) (hp6 : 0 ≤ (p6).toInt ∧ (p6).toInt ≤ 900) (hp7 : (-2147483648) ≤ (p7).toInt ∧ (p7).toInt ≤ 2147483647) (hp8 : 0 ≤ (p8).toInt ∧ (p8).toInt ≤ 999) (hp9 : (-2147483648) ≤ (p9).toInt ∧ (p9).toInt ≤ 2147483647) (hp10 : (-2147483648) ≤ (p10).toInt ∧ (p10).toInt ≤ 2147483647) (hp11 : (-2147483648) ≤ (p11).toInt ∧ (p11).toInt ≤ 2147483647) (hp12 : (-2147483648) ≤ (p12).toInt ∧ (p12).toInt ≤ 2147483647) (hp13 : (-2147483648) ≤ (p13).toInt ∧ (p13).toInt ≤ 2147483647) (hp14 : (-2147483648) ≤ (p14).toInt ∧ (p14).toInt ≤ 2147483647) (hp15 : (-2147483648) ≤ (p15).toInt ∧ (p15).toInt ≤ 2147483647) (hp16 : (-2147483648) ≤ (p16).toInt ∧ (p16).toInt ≤ 2147483647) (hp17 : (-2147483648) ≤ (p17).toInt ∧ (p17).toInt ≤ 2147483647) (hp18 : (-2147483648) ≤ (p18).toInt ∧ (p18).toInt ≤ 2147483647) (hp19 : 0 ≤ (p19).toInt ∧ (p19).toInt ≤ 10) (htf0_84 : f0 84 = p19) (rf0 : AL f0) (rf3 : RG f3 3 0 9) (rf4 : WA f4) (sz : Nat) : MI l yX12_year cX12_year 6 .int { frames := 5, cells := 0, slots := 0, locals := 117 } [.ref h0, .int p0, .int p1] D cy (wk_c1caaabd7 cy h0 p2 h1 w0 w1 w2 p3 p4 p5 p6 p7 p8 p9 p10 p11 p12 p13 h2 h3 h4 w3 h5 p14 p15 w4 w5 w6 p16 p17 w7 w8 w9 w10 w11 p18 w12 w13 w14 h1 f0 h2 f1 h3 f2 h4 f3 h5 f4) sz (fun r u => ((-2147483648) ≤ r.toInt ∧ r.toInt ≤ 2147483647) ∧ RG (u.2.1 2) 3 0 9 ∧ (0 ≤ (u.2.1 3 0).toInt ∧ (u.2.1 3 0).toInt ≤ 0) ∧ ((-2147483648) ≤ (u.2.1 4 0).toInt ∧ (u.2.1 4 0).toInt ≤ 2147483647) ∧ AL (u.2.1 5) ∧ (0 ≤ (u.2.1 6 0).toInt ∧ (u.2.1 6 0).toInt ≤ 10) ∧ WA (u.2.1 7) ∧ (u.2.1 5) 84 = (u.2.1 6 0) ∧ True) (fun u => (wk_c1caaabd7 cy h0 (u.2.1 3 0) h1 w0 w1 w2 p3 p4 p5 p6 p7 p8 p9 p10 p11 p12 p13 h2 h3 h4 w3 h5 p14 (u.2.1 4 0) w4 w5 w6 p16 p17 w7 w8 w9 w10 w11 p18 w12 w13 w14 h1 (u.2.1 5) h2 (u.2.1 0) h3 (u.2.1 1) h4 (u.2.1 2) h5 (u.2.1 7))) 0 0 := by
  refine q_ent (own := RX12) (by decide) rfl (Nat.le_of_ble_eq_true rfl) (fun p e s m below meth c ls X hr hlk hnm hK hT h hA hl => ?_)
  obtain ⟨hx, hb, hml, hown, ht⟩ := id X
  replace hl : lv_has ls 6 [(0, .ref h0), (1, .int p0), (2, .int p1)] := hl
  refine lv_aload_n hx hb dX12_year_0 rfl (lv_at hl 0 rfl) ?_
  refine lv_iconst (v := 0) hx hb dX12_year_1 (by decide) ?_
  refine q_put (v := .int 0) X hK h 0 rfl rfl wf_12 tyX12 tyX12_ok nmX12 0 (by decide) wm_5_170 rfl rfl rfl (Nat.le_of_ble_eq_true rfl) dX12_year_2 (fun H locs h_1 => ?_)
  clear h
  replace h_1 : qW D _ _ (wk_c1caaabd7 cy h0 0 h1 w0 w1 w2 p3 p4 p5 p6 p7 p8 p9 p10 p11 p12 p13 h2 h3 h4 w3 h5 p14 p15 w4 w5 w6 p16 p17 w7 w8 w9 w10 w11 p18 w12 w13 w14 h1 f0 h2 f1 h3 f2 h4 f3 h5 f4) _ _ := h_1
  refine lv_iload_n hx hb dX12_year_5 rfl (lv_at hl 2 rfl) ?_
  refine lv_i2l hx hb dX12_year_6 rfl ?_
  obtain ⟨z_2, ez_2, hz_2⟩ := e_i2l (x := p1) rfl
  refine q_cl z_2 ez_2 ?_
  clear ez_2
  refine lv_lconst (v := 1) hx hb dX12_year_7 (by decide) ?_
  refine lv_ldc2 hx hb hown (ht _ wm_7_82) dX12_year_8 ?_
  refine q_callSi (rest := []) (wr := (wk_c1caaabd7 cy h0 0 h1 w0 w1 w2 p3 p4 p5 p6 p7 p8 p9 p10 p11 p12 p13 h2 h3 h4 w3 h5 p14 p15 w4 w5 w6 p16 p17 w7 w8 w9 w10 w11 p18 w12 w13 w14 h1 f0 h2 f1 h3 f2 h4 f3 h5 f4)) X hK hT hA h_1 (fun sz => gX12_within_00c7897 l D cy z_2 (1 : Int64) (40 : Int64) (j_rng _) ⟨by decide +kernel, by decide +kernel⟩ ⟨by decide +kernel, by decide +kernel⟩ sz) wm_6_50 wm_6_52 wm_1_12 hd_X12_within wm_6_51 ⟨Nat.le_of_ble_eq_true rfl, Nat.le_of_ble_eq_true rfl⟩ hl.1 rfl (Nat.le_of_ble_eq_true rfl) dX12_year_11 ⟨Nat.le_of_ble_eq_true rfl, Nat.le_of_ble_eq_true rfl⟩ [] [0, 1, 2, 3, 4, 5] rfl rfl (by decide) rfl rfl (fun r_3 u_3 H locs w_3 h_3 => ?_)
  clear h_1
  obtain ⟨wr_3, y3_0, _⟩ := w_3
  have lq_3_1 : (1 : Int64).toInt = 1 := (by decide)
  have lq_3_2 : (40 : Int64).toInt = 40 := (by decide)
  replace h_3 : qW D _ _ (wk_c1caaabd7 cy h0 0 h1 w0 w1 w2 p3 p4 p5 p6 p7 p8 p9 p10 p11 p12 p13 h2 h3 h4 w3 h5 p14 p15 w4 w5 w6 p16 p17 w7 w8 w9 w10 w11 p18 w12 w13 w14 h1 f0 h2 f1 h3 f2 h4 f3 h5 f4) _ _ := h_3
  refine lv_if_ne (tgt := 20) hx hb dX12_year_14 (by decide) (fun c_4 => ?_) (fun c_4 => ?_)
  · replace c_4 := i_ne (x := r_3) (y := 0) rfl (show (0 : Int32).toInt = 0 by decide) c_4
    replace y3_0 := a10_1 y3_0 c_4
    refine lv_aload_n hx hb dX12_year_20 rfl (lv_at hl 0 rfl) ?_
    refine q_callVv (rest := []) (wr := (wk_840316d5a cy h2 f1 h3 f2 h4 f3)) X hK hT hA h_3 (fun sz => gX12_keeps_814ac6b l D cy h0 h1 h5 (0 : Int32) w0 w1 w2 p3 p4 p5 p6 p7 p8 p9 p10 p11 p12 p13 (.ref h2) (.ref h3) (.ref h4) w3 p14 p15 w4 w5 w6 p16 p17 w7 w8 w9 w10 w11 p18 w12 w13 w14 f0 p19 f4 ⟨by decide +kernel, by decide +kernel⟩ hp3 hp4 hp5 hp6 (i_rng _) hp8 (i_rng _) (i_rng _) (i_rng _) (i_rng _) (i_rng _) (i_rng _) (i_rng _) (i_rng _) (i_rng _) (i_rng _) hp19 htf0_84 rf0 rf4 sz) wm_6_220 wm_6_223 wm_1_12 hd_X12_keeps wm_6_222 wp_6_0 (ci := 12) (q0 := 0) rfl rfl ⟨Nat.le_of_ble_eq_true rfl, Nat.le_of_ble_eq_true rfl⟩ hl.1 rfl (Nat.le_of_ble_eq_true rfl) dX12_year_21 ⟨Nat.le_of_ble_eq_true rfl, Nat.le_of_ble_eq_true rfl⟩ [0, 1, 5] [2, 3, 4] rfl rfl (by decide) rfl rfl (fun u_5 H locs w_5 h_5 => ?_)
    clear h_3
    obtain ⟨w5_0, _⟩ := w_5
    replace h_5 : qW D _ _ (wk_e7966dd3c cy h2 f1 h3 f2 h4 f3 h0 0 h1 w0 w1 w2 p3 p4 p5 p6 p7 p8 p9 p10 p11 p12 p13 h2 h3 h4 w3 h5 p14 p15 w4 w5 w6 p16 p17 w7 w8 w9 w10 w11 p18 w12 w13 w14 h1 f0 h5 (u_5.2.1 0)) _ _ := h_5
    refine lv_aload_n hx hb dX12_year_24 rfl (lv_at hl 0 rfl) ?_
    refine lv_iload_n hx hb dX12_year_25 rfl (lv_at hl 1 rfl) ?_
    refine q_put (v := .int p0) X hK h_5 3 rfl rfl wf_12 tyX12 tyX12_ok nmX12 22 (by decide) wm_5_192 rfl rfl rfl (Nat.le_of_ble_eq_true rfl) dX12_year_26 (fun H locs h_6 => ?_)
    clear h_5
    replace h_6 : qW D _ _ (wk_e7966dd3c cy h2 f1 h3 f2 h4 f3 h0 0 h1 w0 w1 w2 p3 p4 p5 p6 p7 p8 p9 p10 p11 p12 p13 h2 h3 h4 w3 h5 p14 p0 w4 w5 w6 p16 p17 w7 w8 w9 w10 w11 p18 w12 w13 w14 h1 f0 h5 (u_5.2.1 0)) _ _ := h_6
    refine lv_iconst (v := 0) hx hb dX12_year_29 (by decide) ?_
    refine lv_istore_n (lv' := [(3, .int 0), (0, .ref h0), (1, .int p0), (2, .int p1)]) hx hb dX12_year_30 rfl hl (by decide) rfl (fun ls_7 hl_7 => ?_)
    clear hl
    refine lv_iconst (v := 0) hx hb dX12_year_31 (by decide) ?_
    refine lv_istore (lv' := [(4, .int 0), (3, .int 0), (0, .ref h0), (1, .int p0), (2, .int p1)]) hx hb dX12_year_32 hl_7 (by decide) rfl (fun ls_8 hl_8 => ?_)
    clear hl_7
    refine q_wl (fun (q : Int32 × Int32 × Int32) H locs ls => match q with | (v34_9_0, v34_9_1, v34_9_5) => ∃ v34_9_2 : Nat → Int32, ∃ v34_9_3 : Nat → Int32, ∃ v34_9_4 : Nat → Int32, ∃ v34_9_6 : Nat → Int32, (0 ≤ (v34_9_0).toInt ∧ (v34_9_0).toInt ≤ 40) ∧ ((-2147483648) ≤ (v34_9_1).toInt ∧ (v34_9_1).toInt ≤ 2147483647) ∧ ((-2147483648) ≤ (v34_9_5).toInt ∧ (v34_9_5).toInt ≤ 2147483647) ∧ RG v34_9_4 3 0 9 ∧ v34_9_6 84 = p19 ∧ AL v34_9_6 ∧ qW D (va_A (wk_c1caaabd7 cy h0 p2 h1 w0 w1 w2 p3 p4 p5 p6 p7 p8 p9 p10 p11 p12 p13 h2 h3 h4 w3 h5 p14 p15 w4 w5 w6 p16 p17 w7 w8 w9 w10 w11 p18 w12 w13 w14 h1 f0 h2 f1 h3 f2 h4 f3 h5 f4) sz) s.heap (wk_e7966dd3c cy h2 v34_9_2 h3 v34_9_3 h4 v34_9_4 h0 0 h1 w0 w1 w2 p3 p4 p5 p6 p7 p8 p9 p10 p11 p12 p13 h2 h3 h4 w3 h5 p14 v34_9_5 w4 w5 w6 p16 p17 w7 w8 w9 w10 w11 p18 w12 w13 w14 h1 v34_9_6 h5 (u_5.2.1 0)) H locs ∧ lv_has ls 6 [(0, .ref h0), (1, .int p0), (2, .int p1), (3, .int v34_9_1), (4, .int v34_9_0)]) (fun (q : Int32 × Int32 × Int32) => match q with | (v34_9_0, v34_9_1, v34_9_5) => (41 - (v34_9_0).toInt).toNat) (fun q_34 ih_34 H locs ls hP => ?_) (0, 0, p0) ⟨f1, f2, f3, f0, ⟨by decide +kernel, by decide +kernel⟩, ⟨by decide +kernel, by decide +kernel⟩, hp0, (rg_wide rf3 (by decide) (by decide)), htf0_84, rf0, h_6, (lv_sub hl_8 [2, 3, 4, 1, 0] rfl)⟩
    obtain ⟨v34_9_0, v34_9_1, v34_9_5⟩ := q_34
    obtain ⟨v34_9_2, v34_9_3, v34_9_4, v34_9_6, hv34_9_0, hv34_9_1, hv34_9_5, rv34_9_4, trv34_9_6_84, rv34_9_6, h, hl⟩ := hP
    refine lv_iload hx hb dX12_year_34 (lv_at hl 4 rfl) ?_
    refine lv_iload_n hx hb dX12_year_36 rfl (lv_at hl 2 rfl) ?_
    refine lv_icmp_ge (tgt := 74) hx hb dX12_year_37 (by decide) (fun c_10 => ?_) (fun c_10 => ?_)
    · replace c_10 := i_le (x := p1) (y := v34_9_0) rfl rfl c_10
      refine lv_iload_n hx hb dX12_year_74 rfl (lv_at hl 3 rfl) ?_
      refine q_jn (pc2 := 82) (fun H locs ls st => ∃ v82_11_1 : Int32, ∃ v82_11_0 : Nat → Int32, (0 ≤ (v82_11_1).toInt ∧ (v82_11_1).toInt ≤ 10) ∧ v82_11_0 84 = v82_11_1 ∧ AL v82_11_0 ∧ st = [] ∧ qW D (va_A (wk_c1caaabd7 cy h0 p2 h1 w0 w1 w2 p3 p4 p5 p6 p7 p8 p9 p10 p11 p12 p13 h2 h3 h4 w3 h5 p14 p15 w4 w5 w6 p16 p17 w7 w8 w9 w10 w11 p18 w12 w13 w14 h1 f0 h2 f1 h3 f2 h4 f3 h5 f4) sz) s.heap (wk_e7966dd3c cy h2 v34_9_2 h3 v34_9_3 h4 v34_9_4 h0 0 h1 w0 w1 w2 p3 p4 p5 p6 p7 p8 p9 p10 p11 p12 p13 h2 h3 h4 w3 h5 p14 v34_9_5 w4 w5 w6 p16 p17 w7 w8 w9 w10 w11 p18 w12 w13 w14 h1 v82_11_0 h5 (u_5.2.1 0)) H locs ∧ lv_has ls 6 [(0, .ref h0), (1, .int p0), (2, .int p1), (3, .int v34_9_1), (4, .int v34_9_0)]) (fun H locs ls st hP => ?_) (fun J_82 => ?_)
      · obtain ⟨v82_11_1, v82_11_0, hv82_11_1, trv82_11_0_84, rv82_11_0, rfl, h, hl⟩ := hP
        refine lv_iload_n hx hb dX12_year_82 rfl (lv_at hl 3 rfl) ?_
        exact q_iret X hr hlk hK h rfl (fun _ => 0, (vcons v34_9_2 (vcons v34_9_3 (vcons v34_9_4 (vcons (fun _ => 0) (vcons (fun _ => v34_9_5) (vcons v82_11_0 (vcons (fun _ => v82_11_1) (vcons (u_5.2.1 0) (fun _ => (fun _ => 0)))))))))), fun _ _ => 0) ⟨hv34_9_1, (rg_wide rv34_9_4 (by decide) (by decide)), (⟨by decide +kernel, by decide +kernel⟩ : 0 ≤ (0 : Int32).toInt ∧ (0 : Int32).toInt ≤ 0), hv34_9_5, rv82_11_0, hv82_11_1, w5_0, trv82_11_0_84, trivial⟩ [3, 4, 0, 1, 2, 5] rfl rfl dX12_year_83 (Nat.le_of_ble_eq_true rfl) (Nat.le_of_ble_eq_true rfl)
      · skip
        refine lv_if_le (tgt := 82) hx hb dX12_year_75 (by decide) (fun c_12 => ?_) (fun c_12 => ?_)
        · replace c_12 := i_le (x := v34_9_1) (y := 0) rfl (show (0 : Int32).toInt = 0 by decide) c_12
          exact J_82 _ _ _ _ ⟨p19, v34_9_6, hp19, trv34_9_6_84, rv34_9_6, rfl, h, (lv_sub hl [0, 1, 2, 3, 4] rfl)⟩
        · replace c_12 := i_nle (x := v34_9_1) (y := 0) rfl (show (0 : Int32).toInt = 0 by decide) c_12
          refine lv_aload_n hx hb dX12_year_78 rfl (lv_at hl 0 rfl) ?_
          refine q_callVv (rest := []) (wr := (wk_840316d5a cy h2 v34_9_2 h3 v34_9_3 h4 v34_9_4)) X hK hT hA h (fun sz => gX12_notes_fd80d29 l D cy h0 h1 h5 (0 : Int32) w0 w1 w2 p3 p4 p5 p6 p7 p8 p9 p10 p11 p12 p13 (.ref h2) (.ref h3) (.ref h4) w3 p14 v34_9_5 w4 w5 w6 p16 p17 w7 w8 w9 w10 w11 p18 w12 w13 w14 v34_9_6 p19 (u_5.2.1 0) ⟨by decide +kernel, by decide +kernel⟩ hp3 hp4 hp5 hp6 (i_rng _) hp8 (i_rng _) (i_rng _) (i_rng _) (i_rng _) (i_rng _) (i_rng _) (i_rng _) (i_rng _) (i_rng _) (i_rng _) hp19 trv34_9_6_84 rv34_9_6 w5_0 sz) wm_6_232 wm_6_235 wm_1_12 hd_X12_notes wm_6_234 wp_6_3 (ci := 12) (q0 := 0) rfl rfl ⟨Nat.le_of_ble_eq_true rfl, Nat.le_of_ble_eq_true rfl⟩ hl.1 rfl (Nat.le_of_ble_eq_true rfl) dX12_year_79 ⟨Nat.le_of_ble_eq_true rfl, Nat.le_of_ble_eq_true rfl⟩ [3, 4, 5] [0, 1, 2] rfl rfl (by decide) rfl rfl (fun u_13 H locs w_13 h_13 => ?_)
          clear h
          obtain ⟨w13_0, w13_1, w13_2, _⟩ := w_13
          replace h_13 : qW D _ _ (wk_e7966dd3c cy h2 v34_9_2 h3 v34_9_3 h4 v34_9_4 h0 0 h1 w0 w1 w2 p3 p4 p5 p6 p7 p8 p9 p10 p11 p12 p13 h2 h3 h4 w3 h5 p14 v34_9_5 w4 w5 w6 p16 p17 w7 w8 w9 w10 w11 p18 w12 w13 w14 h1 (u_13.2.1 0) h5 (u_5.2.1 0)) _ _ := h_13
          exact J_82 _ _ _ _ ⟨(u_13.2.1 1 0), (u_13.2.1 0), (bw w13_1 (by decide) (by decide)), w13_2, w13_0, rfl, h_13, (lv_sub hl [0, 1, 2, 3, 4] rfl)⟩
    · replace c_10 := i_nle (x := p1) (y := v34_9_0) rfl rfl c_10
      refine lv_aload_n hx hb dX12_year_40 rfl (lv_at hl 0 rfl) ?_
      refine q_callVi (rest := []) (wr := [(h2, .inl (cy 1, 900, .inl v34_9_2)), (h3, .inl (cy 1, 11, .inl v34_9_3)), (h4, .inl (cy 1, 3, .inl v34_9_4)), (h1, .inl (cy 1, 3918, .inl v34_9_6)), (h5, .inl (cy 1, 32, .inl (u_5.2.1 0)))]) X hK hT hA h (fun sz => gX12_drawn_2a50122 l D cy h0 (0 : Int32) (.ref h1) w0 w1 w2 p3 p4 p5 p6 p7 p8 p9 p10 p11 p12 p13 (.ref h2) (.ref h3) (.ref h4) w3 (.ref h5) p14 v34_9_5 w4 w5 w6 p16 p17 w7 w8 w9 w10 w11 p18 w12 w13 w14 ⟨by decide +kernel, by decide +kernel⟩ hp3 hp4 hp5 hp6 (i_rng _) hp8 (i_rng _) (i_rng _) (i_rng _) (i_rng _) (i_rng _) (i_rng _) (i_rng _) (i_rng _) (i_rng _) (i_rng _) sz) wm_7_83 wm_7_86 wm_1_12 hd_X12_drawn wm_7_85 wp_6_15 (ci := 12) (q0 := 0) rfl rfl ⟨Nat.le_of_ble_eq_true rfl, Nat.le_of_ble_eq_true rfl⟩ hl.1 rfl (Nat.le_of_ble_eq_true rfl) dX12_year_41 ⟨Nat.le_of_ble_eq_true rfl, Nat.le_of_ble_eq_true rfl⟩ [3] [0, 1, 2, 4, 5] rfl rfl (by decide) rfl rfl (fun r_14 u_14 H locs w_14 h_14 => ?_)
      clear h
      obtain ⟨wr_14, w14_0, _⟩ := w_14
      replace h_14 : qW D _ _ [(h2, .inl (cy 1, 900, .inl v34_9_2)), (h3, .inl (cy 1, 11, .inl v34_9_3)), (h4, .inl (cy 1, 3, .inl v34_9_4)), (h1, .inl (cy 1, 3918, .inl v34_9_6)), (h5, .inl (cy 1, 32, .inl (u_5.2.1 0))), (h0, .inr (12, [.int 0, .ref h1, w0, w1, w2, .int p3, .int p4, .int p5, .int p6, .int p7, .int p8, .int p9, .int p10, .int p11, .int p12, .int p13, .ref h2, .ref h3, .ref h4, w3, .ref h5, .int p14, .int (u_14.2.1 0 0), w4, w5, w6, .int p16, .int p17, w7, w8, w9, w10, w11, .int p18, w12, w13, w14]))] _ _ := h_14
      refine lv_istore (lv' := [(5, .int r_14), (0, .ref h0), (1, .int p0), (2, .int p1), (3, .int v34_9_1), (4, .int v34_9_0)]) hx hb dX12_year_44 hl (by decide) rfl (fun ls_15 hl_15 => ?_)
      clear hl
      refine lv_aload_n hx hb dX12_year_46 rfl (lv_at hl_15 1 rfl) ?_
      refine lv_iload hx hb dX12_year_47 (lv_at hl_15 0 rfl) ?_
      refine lv_i2l hx hb dX12_year_49 rfl ?_
      obtain ⟨z_16, ez_16, hz_16⟩ := e_i2l (x := r_14) rfl
      refine q_cl z_16 ez_16 ?_
      clear ez_16
      refine q_callVi (rest := []) (wr := (wk_3a288e38f cy h2 v34_9_2 h3 v34_9_3 h4 v34_9_4 h5 (u_5.2.1 0))) X hK hT hA h_14 (fun sz => gX12_whyNot_70f43d9 l D cy h0 h1 z_16 (0 : Int32) w0 w1 w2 p3 p4 p5 p6 p7 p8 p9 p10 p11 p12 p13 (.ref h2) (.ref h3) (.ref h4) w3 (.ref h5) p14 (u_14.2.1 0 0) w4 w5 w6 p16 p17 w7 w8 w9 w10 w11 p18 w12 w13 w14 v34_9_6 p19 (j_rng _) ⟨by decide +kernel, by decide +kernel⟩ hp3 hp4 hp5 hp6 (i_rng _) hp8 (i_rng _) (i_rng _) (i_rng _) (i_rng _) (i_rng _) (i_rng _) (i_rng _) (i_rng _) (i_rng _) (i_rng _) hp19 trv34_9_6_84 rv34_9_6 sz) wm_7_38 wm_7_41 wm_1_12 hd_X12_whyNot wm_7_40 wp_6_8 (ci := 12) (q0 := 0) rfl rfl ⟨Nat.le_of_ble_eq_true rfl, Nat.le_of_ble_eq_true rfl⟩ hl_15.1 rfl (Nat.le_of_ble_eq_true rfl) dX12_year_50 ⟨Nat.le_of_ble_eq_true rfl, Nat.le_of_ble_eq_true rfl⟩ [5, 3] [0, 1, 2, 4] rfl rfl (by decide) rfl rfl (fun r_17 u_17 H locs w_17 h_17 => ?_)
      clear h_14
      obtain ⟨wr_17, y17_0, _⟩ := w_17
      replace h_17 : qW D _ _ (wk_f610781b9 cy h2 v34_9_2 h3 v34_9_3 h4 v34_9_4 h5 (u_5.2.1 0) h0 0 h1 w0 w1 w2 p3 p4 p5 p6 p7 p8 p9 p10 p11 p12 p13 h2 h3 h4 w3 h5 p14 (u_14.2.1 0 0) w4 w5 w6 p16 p17 w7 w8 w9 w10 w11 p18 w12 w13 w14 h1 v34_9_6) _ _ := h_17
      refine q_jn (pc2 := 68) (fun H locs ls st => ∃ v68_18_0 : Int32, ∃ v68_18_1 : Nat → Int32, ∃ v68_18_2 : Nat → Int32, ∃ v68_18_3 : Nat → Int32, ∃ v68_18_4 : Nat → Int32, ((-2147483648) ≤ (v68_18_0).toInt ∧ (v68_18_0).toInt ≤ 2147483647) ∧ v68_18_1 84 = p19 ∧ AL v68_18_1 ∧ RG v68_18_4 3 0 9 ∧ st = [] ∧ qW D (va_A (wk_c1caaabd7 cy h0 p2 h1 w0 w1 w2 p3 p4 p5 p6 p7 p8 p9 p10 p11 p12 p13 h2 h3 h4 w3 h5 p14 p15 w4 w5 w6 p16 p17 w7 w8 w9 w10 w11 p18 w12 w13 w14 h1 f0 h2 f1 h3 f2 h4 f3 h5 f4) sz) s.heap (wk_f610781b9 cy h2 v68_18_2 h3 v68_18_3 h4 v68_18_4 h5 (u_5.2.1 0) h0 0 h1 w0 w1 w2 p3 p4 p5 p6 p7 p8 p9 p10 p11 p12 p13 h2 h3 h4 w3 h5 p14 (u_14.2.1 0 0) w4 w5 w6 p16 p17 w7 w8 w9 w10 w11 p18 w12 w13 w14 h1 v68_18_1) H locs ∧ lv_has ls 6 [(0, .ref h0), (1, .int p0), (2, .int p1), (3, .int v68_18_0), (4, .int v34_9_0), (5, .int r_14)]) (fun H locs ls st hP => ?_) (fun J_68 => ?_)
      · obtain ⟨v68_18_0, v68_18_1, v68_18_2, v68_18_3, v68_18_4, hv68_18_0, trv68_18_1_84, rv68_18_1, rv68_18_4, rfl, h, hl⟩ := hP
        obtain ⟨z_19, ez_19, hz_19⟩ := e_add (x := v34_9_0) (y := Int32.ofInt 1) rfl (b := 1) (by decide) (by omega) (by omega)
        refine lv_iinc (v := z_19) (lv' := [(4, .int z_19), (0, .ref h0), (1, .int p0), (2, .int p1), (3, .int v68_18_0), (5, .int r_14)]) hx hb dX12_year_68 hl (k := 4) rfl ez_19 (by decide) rfl (fun ls_19 hl_19 => ?_)
        clear hl
        refine lv_goto (tgt := 34) hx hb dX12_year_71 (by decide) ?_
        exact ih_34 (z_19, v68_18_0, (u_14.2.1 0 0)) (by show (41 - (z_19).toInt).toNat < (41 - (v34_9_0).toInt).toNat; omega) _ _ _ ⟨v68_18_2, v68_18_3, v68_18_4, v68_18_1, ⟨by omega, by omega⟩, hv68_18_0, w14_0, (rg_wide rv68_18_4 (by decide) (by decide)), trv68_18_1_84, rv68_18_1, (q_re h [0, 1, 2, 4, 5, 3] rfl rfl), (lv_sub hl_19 [1, 2, 3, 4, 0] rfl)⟩
      · skip
        refine lv_if_eq (tgt := 59) hx hb dX12_year_53 (by decide) (fun c_20 => ?_) (fun c_20 => ?_)
        · replace c_20 := i_eq (x := r_17) (y := 0) rfl (show (0 : Int32).toInt = 0 by decide) c_20
          refine lv_aload_n hx hb dX12_year_59 rfl (lv_at hl_15 1 rfl) ?_
          refine lv_iload hx hb dX12_year_60 (lv_at hl_15 0 rfl) ?_
          refine q_callVv (rest := []) (wr := [(h5, .inl (cy 1, 32, .inl (u_5.2.1 0)))]) X hK hT hA h_17 (fun sz => gX12_does_b30d22d l D cy h0 h1 h2 h3 h4 r_14 (0 : Int32) w0 w1 w2 p3 p4 p5 p6 p7 p8 p9 p10 p11 p12 p13 w3 (.ref h5) p14 (u_14.2.1 0 0) w4 w5 w6 p16 p17 w7 w8 w9 w10 w11 p18 w12 w13 w14 v34_9_6 p19 v34_9_2 v34_9_3 v34_9_4 ⟨by omega, by omega⟩ ⟨by decide +kernel, by decide +kernel⟩ hp3 hp4 hp5 hp6 (i_rng _) hp8 (i_rng _) (i_rng _) (i_rng _) (i_rng _) (i_rng _) (i_rng _) (i_rng _) (i_rng _) (i_rng _) (i_rng _) hp19 trv34_9_6_84 rv34_9_6 (rg_wide rv34_9_4 (by decide) (by decide)) (by (first | (clear y17_0; omega) | omega)) sz) wm_7_47 wm_7_50 wm_1_12 hd_X12_does wm_7_49 wp_6_9 (ci := 12) (q0 := 0) rfl rfl ⟨Nat.le_of_ble_eq_true rfl, Nat.le_of_ble_eq_true rfl⟩ hl_15.1 rfl (Nat.le_of_ble_eq_true rfl) dX12_year_62 ⟨Nat.le_of_ble_eq_true rfl, Nat.le_of_ble_eq_true rfl⟩ [4, 5, 0, 1, 2] [3] rfl rfl (by decide) rfl rfl (fun u_21 H locs w_21 h_21 => ?_)
          clear h_17
          obtain ⟨w21_0, w21_1, w21_2, _⟩ := w_21
          replace h_21 : qW D _ _ (wk_7edf1f2f5 cy h5 (u_5.2.1 0) h0 0 h1 w0 w1 w2 p3 p4 p5 p6 p7 p8 p9 p10 p11 p12 p13 h2 h3 h4 w3 h5 p14 (u_14.2.1 0 0) w4 w5 w6 p16 p17 w7 w8 w9 w10 w11 p18 w12 w13 w14 h1 (u_21.2.1 0) h2 (u_21.2.1 1) h3 (u_21.2.1 2) h4 (u_21.2.1 3)) _ _ := h_21
          obtain ⟨z_22, ez_22, hz_22⟩ := e_any (v34_9_1 + Int32.ofInt 1)
          refine lv_iinc (v := z_22) (lv' := [(3, .int z_22), (5, .int r_14), (0, .ref h0), (1, .int p0), (2, .int p1), (4, .int v34_9_0)]) hx hb dX12_year_65 hl_15 (k := 4) rfl ez_22 (by decide) rfl (fun ls_22 hl_22 => ?_)
          clear hl_15
          exact J_68 _ _ _ _ ⟨z_22, (u_21.2.1 0), (u_21.2.1 1), (u_21.2.1 2), (u_21.2.1 3), ⟨by omega, by omega⟩, w21_2, w21_0, (rg_wide w21_1 (by decide) (by decide)), rfl, (q_re h_21 [3, 4, 5, 0, 1, 2] rfl rfl), (lv_sub hl_22 [2, 3, 4, 0, 5, 1] rfl)⟩
        · replace c_20 := i_ne (x := r_17) (y := 0) rfl (show (0 : Int32).toInt = 0 by decide) c_20
          refine lv_goto (tgt := 68) hx hb dX12_year_56 (by decide) ?_
          exact J_68 _ _ _ _ ⟨v34_9_1, v34_9_6, v34_9_2, v34_9_3, v34_9_4, hv34_9_1, trv34_9_6_84, rv34_9_6, (rg_wide rv34_9_4 (by decide) (by decide)), rfl, h_17, (lv_sub hl_15 [1, 2, 3, 4, 5, 0] rfl)⟩
  · replace c_4 := i_eq (x := r_3) (y := 0) rfl (show (0 : Int32).toInt = 0 by decide) c_4
    replace y3_0 := a10_0 y3_0 c_4
    refine lv_bipush (v := (-3)) hx hb dX12_year_17 (by decide) ?_
    exact q_iret X hr hlk hK h_3 rfl (fun _ => 0, (vcons f1 (vcons f2 (vcons f3 (vcons (fun _ => 0) (vcons (fun _ => p15) (vcons f0 (vcons (fun _ => p19) (vcons f4 (fun _ => (fun _ => 0)))))))))), fun _ _ => 0) ⟨⟨by decide +kernel, by decide +kernel⟩, (rg_wide rf3 (by decide) (by decide)), (⟨by decide +kernel, by decide +kernel⟩ : 0 ≤ (0 : Int32).toInt ∧ (0 : Int32).toInt ≤ 0), hp15, rf0, hp19, rf4, htf0_84, trivial⟩ [0, 1, 2, 3, 4, 5] rfl rfl dX12_year_19 (Nat.le_of_ble_eq_true rfl) (Nat.le_of_ble_eq_true rfl)
set_option maxHeartbeats 4000000 in
set_option maxRecDepth 100000 in
theorem gX12_everybody_0c25b78 (l : Launch) (D : va_G) (cy : Nat → ClassId) (h0 : Nat) (h1 : Nat) (p0 : Int32) (w0 : Value) (w1 : Value) (w2 : Value) (p1 : Int32) (p2 : Int32) (p3 : Int32) (p4 : Int32) (p5 : Int32) (p6 : Int32) (p7 : Int32) (p8 : Int32) (p9 : Int32) (p10 : Int32) (p11 : Int32) (w3 : Value) (w4 : Value) (w5 : Value) (w6 : Value) (w7 : Value) (p12 : Int32) (p13 : Int32) (w8 : Value) (w9 : Value) (w10 : Value) (p14 : Int32) (p15 : Int32) (w11 : Value) (w12 : Value) (w13 : Value) (w14 : Value) (w15 : Value) (p16 : Int32) (w16 : Value) (w17 : Value) (w18 : Value) (f0 : Nat → Int32) (p17 : Int32) (hp0 : 0 ≤ (p0).toInt ∧ (p0).toInt ≤ 0) (hp1 : 0 ≤ (p1).toInt ∧ (p1).toInt ≤ 900) (hp2 : 0 ≤ (p2).toInt ∧ (p2).toInt ≤ 900) (hp3 : 0 ≤ (p3).toInt ∧ (p3).toInt ≤ 900) (hp4 : 0 ≤ (p4).toInt ∧ (p4).toInt ≤ 900) (hp5 : (-2147483648) ≤ (p5).toInt ∧ (p5).toInt ≤ 2147483647) (hp6 : 0 ≤ (p6).toInt ∧ (p6).toInt ≤ 999) (hp7 : (-2147483648) ≤ (p7).toInt ∧ (p7).toInt ≤ 2147483647) (hp8 : (-2147483648) ≤ (p8).toInt ∧ (p8).toInt ≤ 2147483647) (hp9 : (-2147483648) ≤ (p9).toInt ∧ (p9).toInt ≤ 2147483647) (hp10 : (-2147483648) ≤ (p10).toInt ∧ (p10).toInt ≤ 2147483647) (hp11 : (-2147483648) ≤ (p11).toInt ∧ (p11).toInt ≤ 2147483647) (hp12 : (-2147483648) ≤ (p12).toInt ∧ (p12).toInt ≤ 2147483647) (hp13 : (-2147483648) ≤ (p13).toInt ∧ (p13).toInt ≤ 2147483647) (hp14 : (-2147483648) ≤ (p14).toInt ∧ (p14).toInt ≤ 2147483647) (hp15 : (-2147483648) ≤ (p15).toInt ∧ (p15).toInt ≤ 2147483647) (hp16 : (-2147483648) ≤ (p16).toInt ∧ (p16).toInt ≤ 2147483647) (hp17 : 0 ≤ (p17).toInt ∧ (p17).toInt ≤ 10) (htf0_84 : f0 84 = p17) (rf0 : AL f0) (sz : Nat) : MI l yX12_everybody cX12_everybody 1 .int { frames := 0, cells := 0, slots := 0, locals := 0 } [.ref h0] D cy (wk_e1f596b07 cy h0 p0 h1 w0 w1 w2 p1 p2 p3 p4 p5 p6 p7 p8 p9 p10 p11 w3 w4 w5 w6 w7 p12 p13 w8 w9 w10 p14 p15 w11 w12 w13 w14 w15 p16 w16 w17 w18 h1 f0) sz (fun r u => (0 ≤ r.toInt ∧ r.toInt ≤ 1023) ∧ True) (fun u => (wk_e1f596b07 cy h0 p0 h1 w0 w1 w2 p1 p2 p3 p4 p5 p6 p7 p8 p9 p10 p11 w3 w4 w5 w6 w7 p12 p13 w8 w9 w10 p14 p15 w11 w12 w13 w14 w15 p16 w16 w17 w18 h1 f0)) 0 0 := by
  refine q_ent (own := RX12) (by decide) rfl (Nat.le_of_ble_eq_true rfl) (fun p e s m below meth c ls X hr hlk hnm hK hT h hA hl => ?_)
  obtain ⟨hx, hb, hml, hown, ht⟩ := id X
  replace hl : lv_has ls 1 [(0, .ref h0)] := hl
  refine lv_iconst (v := 1) hx hb dX12_everybody_0 (by decide) ?_
  refine lv_aload_n hx hb dX12_everybody_1 rfl (lv_at hl 0 rfl) ?_
  refine q_get X hK h 0 rfl rfl wf_12 1 (by decide) rfl wm_5_171 dX12_everybody_2 ?_
  refine lv_iconst (v := 2) hx hb dX12_everybody_5 (by decide) ?_
  refine q_iald X hK h 1 rfl (q_in (by decide +kernel)) dX12_everybody_6 ?_
  obtain ⟨z_1, ez_1, hz_1⟩ := al_P rf0 (x := 2) (show (2 : Int32).toInt = 2 by decide) (by omega) (by omega)
  refine q_c z_1 ez_1 ?_
  clear ez_1
  refine lv_ishl hx hb dX12_everybody_7 ?_
  obtain ⟨z_2, ez_2, hz_2⟩ := e_shlk (p := z_1) 10 (by decide) rfl (by omega) (by omega)
  refine q_c z_2 ez_2 ?_
  clear ez_2
  refine lv_iconst (v := 1) hx hb dX12_everybody_8 (by decide) ?_
  refine lv_isub hx hb dX12_everybody_9 ?_
  obtain ⟨z_3, ez_3, hz_3⟩ := e_sub (x := z_2) (y := 1) rfl (show (1 : Int32).toInt = 1 by decide) (by omega) (by omega)
  refine q_c z_3 ez_3 ?_
  clear ez_3
  exact q_iret X hr hlk hK h rfl (fun _ => 0, fun _ _ => 0, fun _ _ => 0) ⟨⟨by omega, by omega⟩, trivial⟩ [0, 1] rfl rfl dX12_everybody_10 (Nat.le_of_ble_eq_true rfl) (Nat.le_of_ble_eq_true rfl)
set_option maxHeartbeats 4000000 in
set_option maxRecDepth 100000 in
theorem gX12_isSet_9166d70 (l : Launch) (D : va_G) (cy : Nat → ClassId) (h0 : Nat) (h1 : Nat) (p0 : Int32) (p1 : Int32) (w0 : Value) (w1 : Value) (w2 : Value) (p2 : Int32) (p3 : Int32) (p4 : Int32) (p5 : Int32) (p6 : Int32) (p7 : Int32) (p8 : Int32) (p9 : Int32) (p10 : Int32) (p11 : Int32) (p12 : Int32) (w3 : Value) (w4 : Value) (w5 : Value) (w6 : Value) (w7 : Value) (p13 : Int32) (p14 : Int32) (w8 : Value) (w9 : Value) (w10 : Value) (p15 : Int32) (p16 : Int32) (w11 : Value) (w12 : Value) (w13 : Value) (w14 : Value) (w15 : Value) (p17 : Int32) (w16 : Value) (w17 : Value) (w18 : Value) (f0 : Nat → Int32) (p18 : Int32) (hp0 : (-2147483648) ≤ (p0).toInt ∧ (p0).toInt ≤ 2147483647) (hp1 : 0 ≤ (p1).toInt ∧ (p1).toInt ≤ 0) (hp2 : 0 ≤ (p2).toInt ∧ (p2).toInt ≤ 900) (hp3 : 0 ≤ (p3).toInt ∧ (p3).toInt ≤ 900) (hp4 : 0 ≤ (p4).toInt ∧ (p4).toInt ≤ 900) (hp5 : 0 ≤ (p5).toInt ∧ (p5).toInt ≤ 900) (hp6 : (-2147483648) ≤ (p6).toInt ∧ (p6).toInt ≤ 2147483647) (hp7 : 0 ≤ (p7).toInt ∧ (p7).toInt ≤ 999) (hp8 : (-2147483648) ≤ (p8).toInt ∧ (p8).toInt ≤ 2147483647) (hp9 : (-2147483648) ≤ (p9).toInt ∧ (p9).toInt ≤ 2147483647) (hp10 : (-2147483648) ≤ (p10).toInt ∧ (p10).toInt ≤ 2147483647) (hp11 : (-2147483648) ≤ (p11).toInt ∧ (p11).toInt ≤ 2147483647) (hp12 : (-2147483648) ≤ (p12).toInt ∧ (p12).toInt ≤ 2147483647) (hp13 : (-2147483648) ≤ (p13).toInt ∧ (p13).toInt ≤ 2147483647) (hp14 : (-2147483648) ≤ (p14).toInt ∧ (p14).toInt ≤ 2147483647) (hp15 : (-2147483648) ≤ (p15).toInt ∧ (p15).toInt ≤ 2147483647) (hp16 : (-2147483648) ≤ (p16).toInt ∧ (p16).toInt ≤ 2147483647) (hp17 : (-2147483648) ≤ (p17).toInt ∧ (p17).toInt ≤ 2147483647) (hp18 : 0 ≤ (p18).toInt ∧ (p18).toInt ≤ 10) (htf0_84 : f0 84 = p18) (rf0 : AL f0) (sz : Nat) : MI l yX12_isSet cX12_isSet 2 .boolean { frames := 1, cells := 0, slots := 0, locals := 20 } [.ref h0, .int p0] D cy (wk_e1f596b07 cy h0 p1 h1 w0 w1 w2 p2 p3 p4 p5 p6 p7 p8 p9 p10 p11 p12 w3 w4 w5 w6 w7 p13 p14 w8 w9 w10 p15 p16 w11 w12 w13 w14 w15 p17 w16 w17 w18 h1 f0) sz (fun r u => (0 ≤ r.toInt ∧ r.toInt ≤ 1) ∧ ((r : Int32).toInt = 0 ∨ (0 ≤ (p0 : Int32).toInt ∧ (p0 : Int32).toInt ≤ 1023)) ∧ True) (fun u => (wk_e1f596b07 cy h0 p1 h1 w0 w1 w2 p2 p3 p4 p5 p6 p7 p8 p9 p10 p11 p12 w3 w4 w5 w6 w7 p13 p14 w8 w9 w10 p15 p16 w11 w12 w13 w14 w15 p17 w16 w17 w18 h1 f0)) 0 0 := by
  refine q_ent (own := RX12) (by decide) rfl (Nat.le_of_ble_eq_true rfl) (fun p e s m below meth c ls X hr hlk hnm hK hT h hA hl => ?_)
  obtain ⟨hx, hb, hml, hown, ht⟩ := id X
  replace hl : lv_has ls 2 [(0, .ref h0), (1, .int p0)] := hl
  refine lv_iload_n hx hb dX12_isSet_0 rfl (lv_at hl 1 rfl) ?_
  refine lv_aload_n hx hb dX12_isSet_1 rfl (lv_at hl 0 rfl) ?_
  refine q_callVi (rest := [.int p0]) (wr := []) X hK hT hA h (fun sz => gX12_everybody_0c25b78 l D cy h0 h1 p1 w0 w1 w2 p2 p3 p4 p5 p6 p7 p8 p9 p10 p11 p12 w3 w4 w5 w6 w7 p13 p14 w8 w9 w10 p15 p16 w11 w12 w13 w14 w15 p17 w16 w17 w18 f0 p18 hp1 hp2 hp3 hp4 hp5 (i_rng _) hp7 (i_rng _) (i_rng _) (i_rng _) (i_rng _) (i_rng _) (i_rng _) (i_rng _) (i_rng _) (i_rng _) (i_rng _) hp18 htf0_84 rf0 sz) wm_7_100 wm_7_103 wm_1_12 hd_X12_everybody wm_7_102 wp_7_2 (ci := 12) (q0 := 0) rfl rfl ⟨Nat.le_of_ble_eq_true rfl, Nat.le_of_ble_eq_true rfl⟩ hl.1 rfl (Nat.le_of_ble_eq_true rfl) dX12_isSet_2 ⟨Nat.le_of_ble_eq_true rfl, Nat.le_of_ble_eq_true rfl⟩ [0, 1] [] rfl rfl (by decide) rfl rfl (fun r_1 u_1 H locs w_1 h_1 => ?_)
  clear h
  obtain ⟨wr_1, _⟩ := w_1
  replace h_1 : qW D _ _ (wk_e1f596b07 cy h0 p1 h1 w0 w1 w2 p2 p3 p4 p5 p6 p7 p8 p9 p10 p11 p12 w3 w4 w5 w6 w7 p13 p14 w8 w9 w10 p15 p16 w11 w12 w13 w14 w15 p17 w16 w17 w18 h1 f0) _ _ := h_1
  refine lv_iconst (v := (-1)) hx hb dX12_isSet_5 (by decide) ?_
  refine lv_ixor hx hb dX12_isSet_6 ?_
  refine lv_iand hx hb dX12_isSet_7 ?_
  refine lv_if_ne (tgt := 15) hx hb dX12_isSet_8 (by decide) (fun c_2 => ?_) (fun c_2 => ?_)
  · replace c_2 := i_ne (x := (p0 &&& (r_1 ^^^ (-1)))) (y := 0) rfl (show (0 : Int32).toInt = 0 by decide) c_2
    refine lv_iconst (v := 0) hx hb dX12_isSet_15 (by decide) ?_
    exact q_iret X hr hlk hK h_1 rfl (fun _ => 0, fun _ _ => 0, fun _ _ => 0) ⟨⟨by decide +kernel, by decide +kernel⟩, (show (0 : Int32).toInt = 0 ∨ (0 ≤ (p0 : Int32).toInt ∧ (p0 : Int32).toInt ≤ 1023) from by have q0 : (0 : Int32).toInt = 0 := (by decide); omega), trivial⟩ [0, 1] rfl rfl dX12_isSet_16 (Nat.le_of_ble_eq_true rfl) (Nat.le_of_ble_eq_true rfl)
  · replace c_2 := i_eq (x := (p0 &&& (r_1 ^^^ (-1)))) (y := 0) rfl (show (0 : Int32).toInt = 0 by decide) c_2
    have is_3 := bs_set (x := p0) c_2 (by omega)
    refine lv_iconst (v := 1) hx hb dX12_isSet_11 (by decide) ?_
    refine lv_goto (tgt := 16) hx hb dX12_isSet_12 (by decide) ?_
    exact q_iret X hr hlk hK h_1 rfl (fun _ => 0, fun _ _ => 0, fun _ _ => 0) ⟨⟨by decide +kernel, by decide +kernel⟩, (show (1 : Int32).toInt = 0 ∨ (0 ≤ (p0 : Int32).toInt ∧ (p0 : Int32).toInt ≤ 1023) from by have q0 : (1 : Int32).toInt = 1 := (by decide); omega), trivial⟩ [0, 1] rfl rfl dX12_isSet_16 (Nat.le_of_ble_eq_true rfl) (Nat.le_of_ble_eq_true rfl)
