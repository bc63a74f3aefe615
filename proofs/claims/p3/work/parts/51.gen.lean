def wk_6dfdb8f2c (cy : Nat → ClassId) (a0 a1 : Nat) (a2 a3 a4 a5 : Int32) (a6 : Nat) (a7 : Value) (a8 a9 : Int32) (a10 : Nat) (a11 : Value) (a12 a13 : Int32) (a14 a15 a16 a17 : Nat) (a18 : Nat → Int32) (a19 : Nat) (a20 : Nat → Int32) (a21 : Nat) (a22 : Nat → Int32) (a23 : Nat) (a24 a25 a26 a27 : Int32) (a28 a29 a30 a31 : Value) (a32 a33 a34 a35 a36 : Nat) (a37 : Nat → Int32) (a38 : Nat) (a39 : Nat → Int32) (a40 : Nat) (a41 : Nat → Int32) (a42 : Nat) (a43 : Nat → Int32) : va_W := [(a0, .inr (5, [.ref a1, .int a2, .int a3, .int a4, .int a5, .ref a6, a7, .int a8, .int a9])), (a10, .inr (8, [a11, .int a12, .int a13, .ref a14, .ref a15, .ref a16])), (a17, .inl (cy 1, 901, .inl a18)), (a19, .inl (cy 1, 901, .inl a20)), (a21, .inl (cy 1, 901, .inl a22)), (a23, .inr (3, [.int a24, .int a25, .int a26, .int a27, a28, a29, a30, a31, .ref a32, .ref a33, .ref a34, .ref a35])), (a36, .inl (cy 1, 10, .inl a37)), (a38, .inl (cy 1, 10, .inl a39)), (a40, .inl (cy 1, 10, .inl a41)), (a42, .inl (cy 1, 10, .inl a43))]
def wk_c6d07a17f (cy : Nat → ClassId) (a0 : Nat) (a1 : Nat → Int32) (a2 : Nat) (a3 a4 a5 a6 : Int32) (a7 a8 a9 a10 : Value) (a11 a12 a13 a14 a15 : Nat) (a16 : Nat → Int32) (a17 : Nat) (a18 : Nat → Int32) (a19 : Nat) (a20 : Nat → Int32) (a21 : Nat) (a22 : Nat → Int32) : va_W := [(a0, .inl (cy 1, 901, .inl a1)), (a2, .inr (3, [.int a3, .int a4, .int a5, .int a6, a7, a8, a9, a10, .ref a11, .ref a12, .ref a13, .ref a14])), (a15, .inl (cy 1, 10, .inl a16)), (a17, .inl (cy 1, 10, .inl a18)), (a19, .inl (cy 1, 10, .inl a20)), (a21, .inl (cy 1, 10, .inl a22))]
def wk_95b3593d1 (cy : Nat → ClassId) (a0 : Nat) (a1 : Nat → Int32) (a2 : Nat) (a3 a4 a5 a6 : Int32) (a7 a8 a9 a10 : Value) (a11 a12 a13 a14 a15 : Nat) (a16 : Nat → Int32) (a17 : Nat) (a18 : Nat → Int32) (a19 : Nat) (a20 : Nat → Int32) (a21 : Nat) (a22 : Nat → Int32) (a23 a24 : Nat) (a25 a26 a27 a28 : Int32) (a29 : Nat) (a30 : Value) (a31 a32 : Int32) (a33 : Nat) (a34 : Value) (a35 a36 : Int32) (a37 a38 a39 a40 : Nat) (a41 : Nat → Int32) (a42 : Nat) (a43 : Nat → Int32) : va_W := [(a0, .inl (cy 1, 901, .inl a1)), (a2, .inr (3, [.int a3, .int a4, .int a5, .int a6, a7, a8, a9, a10, .ref a11, .ref a12, .ref a13, .ref a14])), (a15, .inl (cy 1, 10, .inl a16)), (a17, .inl (cy 1, 10, .inl a18)), (a19, .inl (cy 1, 10, .inl a20)), (a21, .inl (cy 1, 10, .inl a22)), (a23, .inr (5, [.ref a24, .int a25, .int a26, .int a27, .int a28, .ref a29, a30, .int a31, .int a32])), (a33, .inr (8, [a34, .int a35, .int a36, .ref a37, .ref a38, .ref a39])), (a40, .inl (cy 1, 901, .inl a41)), (a42, .inl (cy 1, 901, .inl a43))]
def wk_6e746cde0 (cy : Nat → ClassId) (a0 : Nat) (a1 a2 a3 a4 : Int32) (a5 a6 a7 a8 : Value) (a9 a10 a11 a12 a13 : Nat) (a14 : Nat → Int32) (a15 : Nat) (a16 : Nat → Int32) (a17 : Nat) (a18 : Nat → Int32) (a19 : Nat) (a20 : Nat → Int32) : va_W := [(a0, .inr (3, [.int a1, .int a2, .int a3, .int a4, a5, a6, a7, a8, .ref a9, .ref a10, .ref a11, .ref a12])), (a13, .inl (cy 1, 10, .inl a14)), (a15, .inl (cy 1, 10, .inl a16)), (a17, .inl (cy 1, 10, .inl a18)), (a19, .inl (cy 1, 10, .inl a20))]
def wk_85b1c7a9f (cy : Nat → ClassId) (a0 : Nat) (a1 a2 a3 a4 : Int32) (a5 a6 a7 a8 : Value) (a9 a10 a11 a12 a13 : Nat) (a14 : Nat → Int32) (a15 : Nat) (a16 : Nat → Int32) (a17 : Nat) (a18 : Nat → Int32) (a19 : Nat) (a20 : Nat → Int32) (a21 a22 : Nat) (a23 a24 a25 a26 : Int32) (a27 : Nat) (a28 : Value) (a29 a30 : Int32) (a31 : Nat) (a32 : Value) (a33 a34 : Int32) (a35 a36 a37 a38 : Nat) (a39 : Nat → Int32) (a40 : Nat) (a41 : Nat → Int32) (a42 : Nat) (a43 : Nat → Int32) : va_W := [(a0, .inr (3, [.int a1, .int a2, .int a3, .int a4, a5, a6, a7, a8, .ref a9, .ref a10, .ref a11, .ref a12])), (a13, .inl (cy 1, 10, .inl a14)), (a15, .inl (cy 1, 10, .inl a16)), (a17, .inl (cy 1, 10, .inl a18)), (a19, .inl (cy 1, 10, .inl a20)), (a21, .inr (5, [.ref a22, .int a23, .int a24, .int a25, .int a26, .ref a27, a28, .int a29, .int a30])), (a31, .inr (8, [a32, .int a33, .int a34, .ref a35, .ref a36, .ref a37])), (a38, .inl (cy 1, 901, .inl a39)), (a40, .inl (cy 1, 901, .inl a41)), (a42, .inl (cy 1, 901, .inl a43))]
def wk_e27dce96c (cy : Nat → ClassId) (a0 a1 : Nat) (a2 a3 a4 a5 : Int32) (a6 : Nat) (a7 : Value) (a8 a9 : Int32) (a10 : Nat) (a11 : Value) (a12 a13 : Int32) (a14 a15 a16 a17 : Nat) (a18 : Nat → Int32) (a19 : Nat) (a20 : Nat → Int32) (a21 : Nat) (a22 : Nat → Int32) (a23 : Nat) (a24 a25 a26 a27 : Int32) (a28 a29 a30 : Value) (a31 a32 a33 a34 a35 a36 : Nat) (a37 : Nat → Int32) (a38 : Nat) (a39 : Nat → Int32) (a40 : Nat) (a41 : Nat → Int32) (a42 : Nat) (a43 : Nat → Int32) (a44 : Nat) (a45 : Nat → Int32) : va_W := [(a0, .inr (5, [.ref a1, .int a2, .int a3, .int a4, .int a5, .ref a6, a7, .int a8, .int a9])), (a10, .inr (8, [a11, .int a12, .int a13, .ref a14, .ref a15, .ref a16])), (a17, .inl (cy 1, 901, .inl a18)), (a19, .inl (cy 1, 901, .inl a20)), (a21, .inl (cy 1, 901, .inl a22)), (a23, .inr (3, [.int a24, .int a25, .int a26, .int a27, a28, a29, a30, .ref a31, .ref a32, .ref a33, .ref a34, .ref a35])), (a36, .inl (cy 1, 10, .inl a37)), (a38, .inl (cy 1, 10, .inl a39)), (a40, .inl (cy 1, 10, .inl a41)), (a42, .inl (cy 1, 10, .inl a43)), (a44, .inl (cy 1, 10, .inl a45))]
def wk_31c2093ae (cy : Nat → ClassId) (a0 : Nat) (a1 : Nat → Int32) (a2 : Nat) (a3 a4 a5 a6 : Int32) (a7 a8 a9 : Value) (a10 a11 a12 a13 a14 a15 : Nat) (a16 : Nat → Int32) (a17 : Nat) (a18 : Nat → Int32) (a19 : Nat) (a20 : Nat → Int32) (a21 : Nat) (a22 : Nat → Int32) (a23 : Nat) (a24 : Nat → Int32) (a25 a26 : Nat) (a27 a28 a29 a30 : Int32) (a31 : Nat) (a32 : Value) (a33 a34 : Int32) (a35 : Nat) (a36 : Value) (a37 a38 : Int32) (a39 a40 a41 a42 : Nat) (a43 : Nat → Int32) (a44 : Nat) (a45 : Nat → Int32) : va_W := [(a0, .inl (cy 1, 901, .inl a1)), (a2, .inr (3, [.int a3, .int a4, .int a5, .int a6, a7, a8, a9, .ref a10, .ref a11, .ref a12, .ref a13, .ref a14])), (a15, .inl (cy 1, 10, .inl a16)), (a17, .inl (cy 1, 10, .inl a18)), (a19, .inl (cy 1, 10, .inl a20)), (a21, .inl (cy 1, 10, .inl a22)), (a23, .inl (cy 1, 10, .inl a24)), (a25, .inr (5, [.ref a26, .int a27, .int a28, .int a29, .int a30, .ref a31, a32, .int a33, .int a34])), (a35, .inr (8, [a36, .int a37, .int a38, .ref a39, .ref a40, .ref a41])), (a42, .inl (cy 1, 901, .inl a43)), (a44, .inl (cy 1, 901, .inl a45))]
def wk_dea5df769 (cy : Nat → ClassId) (a0 : Nat) (a1 a2 a3 a4 : Int32) (a5 a6 a7 : Value) (a8 a9 a10 a11 a12 a13 : Nat) (a14 : Nat → Int32) (a15 : Nat) (a16 : Nat → Int32) (a17 : Nat) (a18 : Nat → Int32) (a19 : Nat) (a20 : Nat → Int32) (a21 : Nat) (a22 : Nat → Int32) : va_W := [(a0, .inr (3, [.int a1, .int a2, .int a3, .int a4, a5, a6, a7, .ref a8, .ref a9, .ref a10, .ref a11, .ref a12])), (a13, .inl (cy 1, 10, .inl a14)), (a15, .inl (cy 1, 10, .inl a16)), (a17, .inl (cy 1, 10, .inl a18)), (a19, .inl (cy 1, 10, .inl a20)), (a21, .inl (cy 1, 10, .inl a22))]
def wk_21b02cfdf (cy : Nat → ClassId) (a0 : Nat) (a1 a2 a3 a4 : Int32) (a5 a6 a7 : Value) (a8 a9 a10 a11 a12 a13 : Nat) (a14 : Nat → Int32) (a15 : Nat) (a16 : Nat → Int32) (a17 : Nat) (a18 : Nat → Int32) (a19 : Nat) (a20 : Nat → Int32) (a21 : Nat) (a22 : Nat → Int32) (a23 a24 : Nat) (a25 a26 a27 a28 : Int32) (a29 : Nat) (a30 : Value) (a31 a32 : Int32) (a33 : Nat) (a34 : Value) (a35 a36 : Int32) (a37 a38 a39 a40 : Nat) (a41 : Nat → Int32) (a42 : Nat) (a43 : Nat → Int32) (a44 : Nat) (a45 : Nat → Int32) : va_W := [(a0, .inr (3, [.int a1, .int a2, .int a3, .int a4, a5, a6, a7, .ref a8, .ref a9, .ref a10, .ref a11, .ref a12])), (a13, .inl (cy 1, 10, .inl a14)), (a15, .inl (cy 1, 10, .inl a16)), (a17, .inl (cy 1, 10, .inl a18)), (a19, .inl (cy 1, 10, .inl a20)), (a21, .inl (cy 1, 10, .inl a22)), (a23, .inr (5, [.ref a24, .int a25, .int a26, .int a27, .int a28, .ref a29, a30, .int a31, .int a32])), (a33, .inr (8, [a34, .int a35, .int a36, .ref a37, .ref a38, .ref a39])), (a40, .inl (cy 1, 901, .inl a41)), (a42, .inl (cy 1, 901, .inl a43)), (a44, .inl (cy 1, 901, .inl a45))]
def wk_bc275e43f (cy : Nat → ClassId) (a0 : Nat) (a1 : Nat → Int32) (a2 a3 : Nat) (a4 : Nat → Int32) : va_W := [(a0, .inl (cy 1, 900, .inl a1)), (a2, .inl (cy 1, a3, .inl a4))]
def wk_dfd8ea8dd (cy : Nat → ClassId) (a0 a1 a2 : Nat) (a3 : Nat → Int32) (a4 a5 : Nat) (a6 : Nat → Int32) : va_W := [(a0, .inr (4, [.ref a1])), (a2, .inl (cy 1, 900, .inl a3)), (a4, .inl (cy 1, a5, .inl a6))]
def wk_ae24459d8 (cy : Nat → ClassId) (a0 a1 : Nat) (a2 a3 a4 a5 : Int32) (a6 : Value) (a7 : Nat) (a8 a9 : Int32) (a10 : Nat) (a11 : Value) (a12 a13 : Int32) (a14 a15 a16 a17 : Nat) (a18 : Nat → Int32) (a19 : Nat) (a20 : Nat → Int32) (a21 : Nat) (a22 : Nat → Int32) (a23 : Nat) (a24 : Nat → Int32) (a25 : Nat) : va_W := [(a0, .inr (5, [.ref a1, .int a2, .int a3, .int a4, .int a5, a6, .ref a7, .int a8, .int a9])), (a10, .inr (8, [a11, .int a12, .int a13, .ref a14, .ref a15, .ref a16])), (a17, .inl (cy 1, 901, .inl a18)), (a19, .inl (cy 1, 901, .inl a20)), (a21, .inl (cy 1, 901, .inl a22)), (a23, .inl (cy 1, 900, .inl a24)), (a25, .inr (4, [.null]))]
def wk_c1f241b95 (cy : Nat → ClassId) (a0 a1 : Nat) (a2 a3 a4 a5 : Int32) (a6 : Value) (a7 : Nat) (a8 a9 : Int32) (a10 : Nat) (a11 : Value) (a12 a13 : Int32) (a14 a15 a16 a17 : Nat) (a18 : Nat → Int32) (a19 : Nat) (a20 : Nat → Int32) (a21 : Nat) (a22 : Nat → Int32) : va_W := [(a0, .inr (5, [.ref a1, .int a2, .int a3, .int a4, .int a5, a6, .ref a7, .int a8, .int a9])), (a10, .inr (8, [a11, .int a12, .int a13, .ref a14, .ref a15, .ref a16])), (a17, .inl (cy 1, 901, .inl a18)), (a19, .inl (cy 1, 901, .inl a20)), (a21, .inl (cy 1, 901, .inl a22))]
def wk_1fec3ea31 (cy : Nat → ClassId) (a0 a1 : Nat) (a2 a3 a4 a5 : Int32) (a6 : Value) (a7 : Nat) (a8 a9 : Int32) (a10 : Nat) (a11 : Value) (a12 a13 : Int32) (a14 a15 a16 a17 : Nat) (a18 : Nat → Int32) (a19 : Nat) (a20 : Nat → Int32) (a21 : Nat) (a22 : Nat → Int32) (a23 a24 a25 : Nat) (a26 : Nat → Int32) (a27 a28 : Nat) (a29 : Nat → Int32) : va_W := [(a0, .inr (5, [.ref a1, .int a2, .int a3, .int a4, .int a5, a6, .ref a7, .int a8, .int a9])), (a10, .inr (8, [a11, .int a12, .int a13, .ref a14, .ref a15, .ref a16])), (a17, .inl (cy 1, 901, .inl a18)), (a19, .inl (cy 1, 901, .inl a20)), (a21, .inl (cy 1, 901, .inl a22)), (a23, .inr (4, [.ref a24])), (a25, .inl (cy 1, 900, .inl a26)), (a27, .inl (cy 1, a28, .inl a29))]
def wk_d33bee7ee (cy : Nat → ClassId) (a0 a1 : Nat) (a2 a3 a4 a5 : Int32) (a6 a7 : Nat) (a8 a9 : Int32) (a10 : Nat) (a11 : Value) (a12 a13 : Int32) (a14 a15 a16 a17 : Nat) (a18 : Nat → Int32) (a19 : Nat) (a20 : Nat → Int32) (a21 : Nat) (a22 : Nat → Int32) (a23 : Nat) (a24 a25 a26 a27 : Int32) (a28 a29 a30 : Option Nat) (a31 a32 a33 a34 a35 a36 : Nat) (a37 : Nat → Int32) (a38 : Nat) (a39 : Nat → Int32) (a40 : Nat) (a41 : Nat → Int32) (a42 : Nat) (a43 : Nat → Int32) (a44 : Nat) (a45 : Nat → Int32) (a46 : Nat) (a47 : Nat → Int32) : va_W := [(a0, .inr (5, [.ref a1, .int a2, .int a3, .int a4, .int a5, .ref a6, .ref a7, .int a8, .int a9])), (a10, .inr (8, [a11, .int a12, .int a13, .ref a14, .ref a15, .ref a16])), (a17, .inl (cy 1, 901, .inl a18)), (a19, .inl (cy 1, 901, .inl a20)), (a21, .inl (cy 1, 901, .inl a22)), (a23, .inr (3, [.int a24, .int a25, .int a26, .int a27, (va_rf a28), (va_rf a29), (va_rf a30), .ref a31, .ref a32, .ref a33, .ref a34, .ref a35])), (a36, .inl (cy 1, 10, .inl a37)), (a38, .inl (cy 1, 10, .inl a39)), (a40, .inl (cy 1, 10, .inl a41)), (a42, .inl (cy 1, 10, .inl a43)), (a44, .inl (cy 1, 10, .inl a45)), (a46, .inl (cy 1, 900, .inl a47))]
def wk_2d757fd5f (cy : Nat → ClassId) (a0 : Nat) (a1 a2 a3 a4 : Int32) (a5 a6 a7 : Option Nat) (a8 a9 a10 a11 a12 a13 : Nat) (a14 : Nat → Int32) (a15 : Nat) (a16 : Nat → Int32) (a17 : Nat) (a18 : Nat → Int32) (a19 : Nat) (a20 : Nat → Int32) (a21 : Nat) (a22 : Nat → Int32) (a23 : Nat) (a24 : Nat → Int32) (a25 a26 : Nat) (a27 a28 a29 a30 : Int32) (a31 a32 : Nat) (a33 a34 : Int32) (a35 : Nat) (a36 : Value) (a37 a38 : Int32) (a39 a40 a41 a42 : Nat) (a43 : Nat → Int32) (a44 : Nat) (a45 : Nat → Int32) (a46 : Nat) (a47 : Nat → Int32) : va_W := [(a0, .inr (3, [.int a1, .int a2, .int a3, .int a4, (va_rf a5), (va_rf a6), (va_rf a7), .ref a8, .ref a9, .ref a10, .ref a11, .ref a12])), (a13, .inl (cy 1, 10, .inl a14)), (a15, .inl (cy 1, 10, .inl a16)), (a17, .inl (cy 1, 10, .inl a18)), (a19, .inl (cy 1, 10, .inl a20)), (a21, .inl (cy 1, 10, .inl a22)), (a23, .inl (cy 1, 900, .inl a24)), (a25, .inr (5, [.ref a26, .int a27, .int a28, .int a29, .int a30, .ref a31, .ref a32, .int a33, .int a34])), (a35, .inr (8, [a36, .int a37, .int a38, .ref a39, .ref a40, .ref a41])), (a42, .inl (cy 1, 901, .inl a43)), (a44, .inl (cy 1, 901, .inl a45)), (a46, .inl (cy 1, 901, .inl a47))]
def wk_31def65b3 (cy : Nat → ClassId) (a0 : Nat) (a1 : Nat → Int32) (a2 : Nat) (a3 : Nat → Int32) (a4 : Nat) (a5 a6 a7 a8 : Int32) (a9 a10 a11 : Option Nat) (a12 a13 a14 a15 a16 a17 : Nat) (a18 : Nat → Int32) (a19 : Nat) (a20 : Nat → Int32) (a21 : Nat) (a22 : Nat → Int32) (a23 : Nat) (a24 : Nat → Int32) (a25 : Nat) (a26 : Nat → Int32) (a27 : Nat) (a28 : Nat → Int32) : va_W := [(a0, .inl (cy 1, 901, .inl a1)), (a2, .inl (cy 1, 901, .inl a3)), (a4, .inr (3, [.int a5, .int a6, .int a7, .int a8, (va_rf a9), (va_rf a10), (va_rf a11), .ref a12, .ref a13, .ref a14, .ref a15, .ref a16])), (a17, .inl (cy 1, 10, .inl a18)), (a19, .inl (cy 1, 10, .inl a20)), (a21, .inl (cy 1, 10, .inl a22)), (a23, .inl (cy 1, 10, .inl a24)), (a25, .inl (cy 1, 10, .inl a26)), (a27, .inl (cy 1, 900, .inl a28))]
def wk_0202ea6aa (cy : Nat → ClassId) (a0 : Nat) (a1 : Nat → Int32) (a2 : Nat) (a3 : Nat → Int32) (a4 : Nat) (a5 a6 a7 a8 : Int32) (a9 a10 a11 : Option Nat) (a12 a13 a14 a15 a16 a17 : Nat) (a18 : Nat → Int32) (a19 : Nat) (a20 : Nat → Int32) (a21 : Nat) (a22 : Nat → Int32) (a23 : Nat) (a24 : Nat → Int32) (a25 : Nat) (a26 : Nat → Int32) (a27 : Nat) (a28 : Nat → Int32) (a29 a30 : Nat) (a31 a32 a33 a34 : Int32) (a35 a36 : Nat) (a37 a38 : Int32) (a39 : Nat) (a40 : Value) (a41 a42 : Int32) (a43 a44 a45 a46 : Nat) (a47 : Nat → Int32) : va_W := [(a0, .inl (cy 1, 901, .inl a1)), (a2, .inl (cy 1, 901, .inl a3)), (a4, .inr (3, [.int a5, .int a6, .int a7, .int a8, (va_rf a9), (va_rf a10), (va_rf a11), .ref a12, .ref a13, .ref a14, .ref a15, .ref a16])), (a17, .inl (cy 1, 10, .inl a18)), (a19, .inl (cy 1, 10, .inl a20)), (a21, .inl (cy 1, 10, .inl a22)), (a23, .inl (cy 1, 10, .inl a24)), (a25, .inl (cy 1, 10, .inl a26)), (a27, .inl (cy 1, 900, .inl a28)), (a29, .inr (5, [.ref a30, .int a31, .int a32, .int a33, .int a34, .ref a35, .ref a36, .int a37, .int a38])), (a39, .inr (8, [a40, .int a41, .int a42, .ref a43, .ref a44, .ref a45])), (a46, .inl (cy 1, 901, .inl a47))]
def wk_27a2fc362 (cy : Nat → ClassId) (a0 : Nat) (a1 a2 a3 a4 : Int32) (a5 a6 a7 : Option Nat) (a8 a9 a10 a11 a12 a13 : Nat) (a14 : Nat → Int32) (a15 : Nat) (a16 : Nat → Int32) (a17 : Nat) (a18 : Nat → Int32) (a19 : Nat) (a20 : Nat → Int32) (a21 : Nat) (a22 : Nat → Int32) : va_W := [(a0, .inr (3, [.int a1, .int a2, .int a3, .int a4, (va_rf a5), (va_rf a6), (va_rf a7), .ref a8, .ref a9, .ref a10, .ref a11, .ref a12])), (a13, .inl (cy 1, 10, .inl a14)), (a15, .inl (cy 1, 10, .inl a16)), (a17, .inl (cy 1, 10, .inl a18)), (a19, .inl (cy 1, 10, .inl a20)), (a21, .inl (cy 1, 10, .inl a22))]
def wk_fb187a8e3 (cy : Nat → ClassId) (a0 : Nat) (a1 a2 a3 a4 : Int32) (a5 a6 a7 : Option Nat) (a8 a9 a10 a11 a12 a13 : Nat) (a14 : Nat → Int32) (a15 : Nat) (a16 : Nat → Int32) (a17 : Nat) (a18 : Nat → Int32) (a19 : Nat) (a20 : Nat → Int32) (a21 : Nat) (a22 : Nat → Int32) (a23 a24 : Nat) (a25 a26 a27 a28 : Int32) (a29 a30 : Nat) (a31 a32 : Int32) (a33 : Nat) (a34 : Value) (a35 a36 : Int32) (a37 a38 a39 a40 : Nat) (a41 : Nat → Int32) (a42 : Nat) (a43 : Nat → Int32) (a44 : Nat) (a45 : Nat → Int32) (a46 : Nat) (a47 : Nat → Int32) : va_W := [(a0, .inr (3, [.int a1, .int a2, .int a3, .int a4, (va_rf a5), (va_rf a6), (va_rf a7), .ref a8, .ref a9, .ref a10, .ref a11, .ref a12])), (a13, .inl (cy 1, 10, .inl a14)), (a15, .inl (cy 1, 10, .inl a16)), (a17, .inl (cy 1, 10, .inl a18)), (a19, .inl (cy 1, 10, .inl a20)), (a21, .inl (cy 1, 10, .inl a22)), (a23, .inr (5, [.ref a24, .int a25, .int a26, .int a27, .int a28, .ref a29, .ref a30, .int a31, .int a32])), (a33, .inr (8, [a34, .int a35, .int a36, .ref a37, .ref a38, .ref a39])), (a40, .inl (cy 1, 901, .inl a41)), (a42, .inl (cy 1, 901, .inl a43)), (a44, .inl (cy 1, 901, .inl a45)), (a46, .inl (cy 1, 900, .inl a47))]
def wk_060e1226c (cy : Nat → ClassId) (a0 : Nat) (a1 a2 a3 a4 : Int32) (a5 a6 a7 a8 a9 a10 : Nat) (a11 : Nat → Int32) (a12 : Nat) (a13 : Nat → Int32) (a14 : Nat) (a15 : Nat → Int32) (a16 : Nat) (a17 : Nat → Int32) (a18 : Nat) (a19 : Nat → Int32) : va_W := [(a0, .inr (3, [.int a1, .int a2, .int a3, .int a4, .null, .null, .null, .ref a5, .ref a6, .ref a7, .ref a8, .ref a9])), (a10, .inl (cy 1, 10, .inl a11)), (a12, .inl (cy 1, 10, .inl a13)), (a14, .inl (cy 1, 10, .inl a15)), (a16, .inl (cy 1, 10, .inl a17)), (a18, .inl (cy 1, 10, .inl a19))]
def wk_f120e8fa4 (cy : Nat → ClassId) (a0 a1 : Nat) (a2 a3 a4 a5 : Int32) (a6 : Option Nat) (a7 : Nat) (a8 a9 : Int32) (a10 : Nat) (a11 : Option Nat) (a12 a13 : Int32) (a14 a15 a16 a17 : Nat) (a18 : Nat → Int32) (a19 : Nat) (a20 : Nat → Int32) (a21 : Nat) (a22 : Nat → Int32) (a23 : Nat) (a24 : Nat → Int32) (a25 : Nat) (a26 : Nat → Int32) : va_W := [(a0, .inr (5, [.ref a1, .int a2, .int a3, .int a4, .int a5, (va_rf a6), .ref a7, .int a8, .int a9])), (a10, .inr (8, [(va_rf a11), .int a12, .int a13, .ref a14, .ref a15, .ref a16])), (a17, .inl (cy 1, 901, .inl a18)), (a19, .inl (cy 1, 901, .inl a20)), (a21, .inl (cy 1, 901, .inl a22)), (a23, .inl (cy 1, 900, .inl a24)), (a25, .inl (cy 0, 900, .inl a26))]
def wk_b3fee32c6 (cy : Nat → ClassId) (a0 a1 : Nat) (a2 a3 a4 a5 : Int32) (a6 : Option Nat) (a7 : Nat) (a8 a9 : Int32) (a10 : Nat) (a11 : Nat → Int32) (a12 a13 : Nat) (a14 a15 : Int32) (a16 a17 a18 a19 : Nat) (a20 : Nat → Int32) (a21 : Nat) (a22 : Nat → Int32) (a23 : Nat) (a24 : Nat → Int32) (a25 : Nat) (a26 : Nat → Int32) : va_W := [(a0, .inr (5, [.ref a1, .int a2, .int a3, .int a4, .int a5, (va_rf a6), .ref a7, .int a8, .int a9])), (a10, .inl (cy 1, 900, .inl a11)), (a12, .inr (8, [.ref a13, .int a14, .int a15, .ref a16, .ref a17, .ref a18])), (a19, .inl (cy 1, 901, .inl a20)), (a21, .inl (cy 1, 901, .inl a22)), (a23, .inl (cy 1, 901, .inl a24)), (a25, .inl (cy 0, 900, .inl a26))]
def wk_ec5c743af (cy : Nat → ClassId) (a0 : Nat) (a1 : Nat → Int32) (a2 : Nat) (a3 : Nat → Int32) (a4 : Nat) (a5 : Nat → Int32) (a6 : Nat) (a7 a8 a9 a10 : Int32) (a11 a12 a13 a14 a15 a16 : Nat) (a17 : Nat → Int32) (a18 : Nat) (a19 : Nat → Int32) (a20 : Nat) (a21 : Nat → Int32) (a22 : Nat) (a23 : Nat → Int32) (a24 : Nat) (a25 : Nat → Int32) : va_W := [(a0, .inl (cy 1, 900, .inl a1)), (a2, .inl (cy 1, 901, .inl a3)), (a4, .inl (cy 0, 900, .inl a5)), (a6, .inr (3, [.int a7, .int a8, .int a9, .int a10, .null, .null, .null, .ref a11, .ref a12, .ref a13, .ref a14, .ref a15])), (a16, .inl (cy 1, 10, .inl a17)), (a18, .inl (cy 1, 10, .inl a19)), (a20, .inl (cy 1, 10, .inl a21)), (a22, .inl (cy 1, 10, .inl a23)), (a24, .inl (cy 1, 10, .inl a25))]
def wk_3cb20a52e (cy : Nat → ClassId) (a0 : Nat) (a1 : Nat → Int32) (a2 : Nat) (a3 : Nat → Int32) (a4 : Nat) (a5 : Nat → Int32) (a6 : Nat) (a7 a8 a9 a10 : Int32) (a11 a12 a13 a14 a15 a16 : Nat) (a17 : Nat → Int32) (a18 : Nat) (a19 : Nat → Int32) (a20 : Nat) (a21 : Nat → Int32) (a22 : Nat) (a23 : Nat → Int32) (a24 : Nat) (a25 : Nat → Int32) (a26 a27 : Nat) (a28 a29 a30 a31 : Int32) (a32 a33 : Nat) (a34 a35 : Int32) (a36 a37 : Nat) (a38 a39 : Int32) (a40 a41 a42 a43 : Nat) (a44 : Nat → Int32) (a45 : Nat) (a46 : Nat → Int32) : va_W := [(a0, .inl (cy 1, 900, .inl a1)), (a2, .inl (cy 1, 901, .inl a3)), (a4, .inl (cy 0, 900, .inl a5)), (a6, .inr (3, [.int a7, .int a8, .int a9, .int a10, .null, .null, .null, .ref a11, .ref a12, .ref a13, .ref a14, .ref a15])), (a16, .inl (cy 1, 10, .inl a17)), (a18, .inl (cy 1, 10, .inl a19)), (a20, .inl (cy 1, 10, .inl a21)), (a22, .inl (cy 1, 10, .inl a23)), (a24, .inl (cy 1, 10, .inl a25)), (a26, .inr (5, [.ref a27, .int a28, .int a29, .int a30, .int a31, .ref a32, .ref a33, .int a34, .int a35])), (a36, .inr (8, [.ref a37, .int a38, .int a39, .ref a40, .ref a41, .ref a42])), (a43, .inl (cy 1, 901, .inl a44)), (a45, .inl (cy 1, 901, .inl a46))]
def wk_5f6295072 (cy : Nat → ClassId) (a0 : Nat) (a1 : Nat → Int32) (a2 : Nat) (a3 : Nat → Int32) (a4 : Nat) (a5 a6 a7 a8 : Int32) (a9 a10 a11 a12 a13 a14 : Nat) (a15 : Nat → Int32) (a16 : Nat) (a17 : Nat → Int32) (a18 : Nat) (a19 : Nat → Int32) (a20 : Nat) (a21 : Nat → Int32) (a22 : Nat) (a23 : Nat → Int32) (a24 a25 : Nat) (a26 a27 a28 a29 : Int32) (a30 a31 : Nat) (a32 a33 : Int32) (a34 a35 : Nat) (a36 a37 : Int32) (a38 a39 a40 a41 : Nat) (a42 : Nat → Int32) (a43 : Nat) (a44 : Nat → Int32) (a45 : Nat) (a46 : Nat → Int32) : va_W := [(a0, .inl (cy 1, 900, .inl a1)), (a2, .inl (cy 0, 900, .inl a3)), (a4, .inr (3, [.int a5, .int a6, .int a7, .int a8, .null, .null, .null, .ref a9, .ref a10, .ref a11, .ref a12, .ref a13])), (a14, .inl (cy 1, 10, .inl a15)), (a16, .inl (cy 1, 10, .inl a17)), (a18, .inl (cy 1, 10, .inl a19)), (a20, .inl (cy 1, 10, .inl a21)), (a22, .inl (cy 1, 10, .inl a23)), (a24, .inr (5, [.ref a25, .int a26, .int a27, .int a28, .int a29, .ref a30, .ref a31, .int a32, .int a33])), (a34, .inr (8, [.ref a35, .int a36, .int a37, .ref a38, .ref a39, .ref a40])), (a41, .inl (cy 1, 901, .inl a42)), (a43, .inl (cy 1, 901, .inl a44)), (a45, .inl (cy 1, 901, .inl a46))]
def wk_705940f6f (cy : Nat → ClassId) (a0 : Nat) (a1 : Nat → Int32) (a2 : Nat) (a3 : Nat → Int32) (a4 : Nat) (a5 a6 a7 a8 : Int32) (a9 a10 a11 a12 a13 a14 : Nat) (a15 : Nat → Int32) (a16 : Nat) (a17 : Nat → Int32) (a18 : Nat) (a19 : Nat → Int32) (a20 : Nat) (a21 : Nat → Int32) (a22 : Nat) (a23 : Nat → Int32) (a24 : Nat) (a25 : Nat → Int32) (a26 a27 : Nat) (a28 a29 a30 a31 : Int32) (a32 a33 : Nat) (a34 a35 : Int32) (a36 a37 : Nat) (a38 a39 : Int32) (a40 a41 a42 a43 : Nat) (a44 : Nat → Int32) (a45 : Nat) (a46 : Nat → Int32) : va_W := [(a0, .inl (cy 1, 900, .inl a1)), (a2, .inl (cy 0, 900, .inl a3)), (a4, .inr (3, [.int a5, .int a6, .int a7, .int a8, .null, .null, .null, .ref a9, .ref a10, .ref a11, .ref a12, .ref a13])), (a14, .inl (cy 1, 10, .inl a15)), (a16, .inl (cy 1, 10, .inl a17)), (a18, .inl (cy 1, 10, .inl a19)), (a20, .inl (cy 1, 10, .inl a21)), (a22, .inl (cy 1, 10, .inl a23)), (a24, .inl (cy 1, 901, .inl a25)), (a26, .inr (5, [.ref a27, .int a28, .int a29, .int a30, .int a31, .ref a32, .ref a33, .int a34, .int a35])), (a36, .inr (8, [.ref a37, .int a38, .int a39, .ref a40, .ref a41, .ref a42])), (a43, .inl (cy 1, 901, .inl a44)), (a45, .inl (cy 1, 901, .inl a46))]
def wk_8ccb92c0e (cy : Nat → ClassId) (a0 : Nat) (a1 : Nat → Int32) (a2 : Nat) (a3 : Nat → Int32) (a4 : Nat) (a5 a6 a7 a8 : Int32) (a9 a10 a11 : Option Nat) (a12 a13 a14 a15 a16 a17 : Nat) (a18 : Nat → Int32) (a19 : Nat) (a20 : Nat → Int32) (a21 : Nat) (a22 : Nat → Int32) (a23 : Nat) (a24 : Nat → Int32) (a25 : Nat) (a26 : Nat → Int32) (a27 : Nat) (a28 : Nat → Int32) (a29 a30 : Nat) (a31 a32 a33 a34 : Int32) (a35 a36 : Nat) (a37 a38 : Int32) (a39 a40 : Nat) (a41 a42 : Int32) (a43 a44 a45 a46 : Nat) (a47 : Nat → Int32) (a48 : Nat) (a49 : Nat → Int32) : va_W := [(a0, .inl (cy 1, 900, .inl a1)), (a2, .inl (cy 0, 900, .inl a3)), (a4, .inr (3, [.int a5, .int a6, .int a7, .int a8, (va_rf a9), (va_rf a10), (va_rf a11), .ref a12, .ref a13, .ref a14, .ref a15, .ref a16])), (a17, .inl (cy 1, 10, .inl a18)), (a19, .inl (cy 1, 10, .inl a20)), (a21, .inl (cy 1, 10, .inl a22)), (a23, .inl (cy 1, 10, .inl a24)), (a25, .inl (cy 1, 10, .inl a26)), (a27, .inl (cy 1, 901, .inl a28)), (a29, .inr (5, [.ref a30, .int a31, .int a32, .int a33, .int a34, .ref a35, .ref a36, .int a37, .int a38])), (a39, .inr (8, [.ref a40, .int a41, .int a42, .ref a43, .ref a44, .ref a45])), (a46, .inl (cy 1, 901, .inl a47)), (a48, .inl (cy 1, 901, .inl a49))]
def wk_7cbba6239 (cy : Nat → ClassId) (a0 : Nat) (a1 : Nat → Int32) (a2 : Nat) (a3 : Nat → Int32) (a4 : Nat) (a5 a6 a7 a8 : Int32) (a9 a10 a11 : Option Nat) (a12 a13 a14 a15 a16 a17 : Nat) (a18 : Nat → Int32) (a19 : Nat) (a20 : Nat → Int32) (a21 : Nat) (a22 : Nat → Int32) (a23 : Nat) (a24 : Nat → Int32) (a25 : Nat) (a26 : Nat → Int32) (a27 : Nat) (a28 : Nat → Int32) (a29 a30 : Nat) (a31 a32 a33 a34 : Int32) (a35 a36 : Nat) (a37 a38 : Int32) (a39 a40 : Nat) (a41 a42 : Int32) (a43 a44 a45 a46 : Nat) (a47 : Nat → Int32) (a48 : Nat) (a49 : Nat → Int32) : va_W := [(a0, .inl (cy 0, 900, .inl a1)), (a2, .inl (cy 1, 901, .inl a3)), (a4, .inr (3, [.int a5, .int a6, .int a7, .int a8, (va_rf a9), (va_rf a10), (va_rf a11), .ref a12, .ref a13, .ref a14, .ref a15, .ref a16])), (a17, .inl (cy 1, 10, .inl a18)), (a19, .inl (cy 1, 10, .inl a20)), (a21, .inl (cy 1, 10, .inl a22)), (a23, .inl (cy 1, 10, .inl a24)), (a25, .inl (cy 1, 10, .inl a26)), (a27, .inl (cy 1, 900, .inl a28)), (a29, .inr (5, [.ref a30, .int a31, .int a32, .int a33, .int a34, .ref a35, .ref a36, .int a37, .int a38])), (a39, .inr (8, [.ref a40, .int a41, .int a42, .ref a43, .ref a44, .ref a45])), (a46, .inl (cy 1, 901, .inl a47)), (a48, .inl (cy 1, 901, .inl a49))]
def wk_a794cc59d (cy : Nat → ClassId) (a0 a1 : Nat) (a2 a3 a4 : Int32) (a5 a6 a7 a8 a9 a10 a11 a12 a13 a14 a15 a16 : Value) (a17 : Int32) (a18 : Nat) (a19 : Nat → Int32) : va_W := [(a0, .inr (11, [.ref a1, .int a2, .int a3, .int a4, a5, a6, a7, a8, a9, a10, a11, a12, a13, a14, a15, a16, .int a17])), (a18, .inl (cy 0, 900, .inl a19))]
theorem wm_2_99 : Cond.fieldLink RX11 13 "OppositeHouse" "tapeLength" "I" ∈ WG := wg_t2 (List.mem_of_getElem? (i := 99) rfl) rfl
theorem wm_2_98 : Cond.fieldLink RX11 9 "OppositeHouse" "tape" "[B" ∈ WG := wg_t2 (List.mem_of_getElem? (i := 98) rfl) rfl
theorem wm_2_154 : Cond.methodLink RX11 101 yX11_putOnTape ∈ WG := wg_t2 (List.mem_of_getElem? (i := 154) rfl) rfl
theorem wm_2_157 : Cond.code yX11_putOnTape cX11_putOnTape 3 none ∈ WG := wg_t2 (List.mem_of_getElem? (i := 157) rfl) rfl
theorem wm_2_156 : Cond.instanceMethod yX11_putOnTape ∈ WG := wg_t2 (List.mem_of_getElem? (i := 156) rfl) rfl
theorem wp_1_0 : Cond.selects RX11 yX11_putOnTape yX11_putOnTape ∈ WG := wg_p (q := (yX11_putOnTape, 17)) (wg_p1 (List.mem_of_getElem? (i := 0) rfl)) rfl
theorem wm_1_151 : Cond.fieldLink RX5 34 "OppositeHouse$Reader" "told" "LOppositeHouse$House;" ∈ WG := wg_t1 (List.mem_of_getElem? (i := 151) rfl) rfl
theorem wm_1_108 : Cond.fieldLink RX5 113 "OppositeHouse$House" "first" "[I" ∈ WG := wg_t1 (List.mem_of_getElem? (i := 108) rfl) rfl
theorem wm_3_80 : Cond.methodLink RX5 59 yX5_takeNumber ∈ WG := wg_t3 (List.mem_of_getElem? (i := 80) rfl) rfl
theorem wm_3_83 : Cond.code yX5_takeNumber cX5_takeNumber 4 (some .int) ∈ WG := wg_t3 (List.mem_of_getElem? (i := 83) rfl) rfl
theorem wm_3_82 : Cond.instanceMethod yX5_takeNumber ∈ WG := wg_t3 (List.mem_of_getElem? (i := 82) rfl) rfl
theorem wp_1_11 : Cond.selects RX5 yX5_takeNumber yX5_takeNumber ∈ WG := wg_p (q := (yX5_takeNumber, 9)) (wg_p1 (List.mem_of_getElem? (i := 11) rfl)) rfl
theorem wm_1_112 : Cond.fieldLink RX5 116 "OppositeHouse$House" "last" "[I" ∈ WG := wg_t1 (List.mem_of_getElem? (i := 112) rfl) rfl
theorem wm_1_115 : Cond.fieldLink RX5 120 "OppositeHouse$House" "temper" "[I" ∈ WG := wg_t1 (List.mem_of_getElem? (i := 115) rfl) rfl
theorem wm_1_118 : Cond.fieldLink RX5 123 "OppositeHouse$House" "weight" "[I" ∈ WG := wg_t1 (List.mem_of_getElem? (i := 118) rfl) rfl
theorem wm_1_86 : Cond.fieldLink RX5 107 "OppositeHouse$House" "people" "I" ∈ WG := wg_t1 (List.mem_of_getElem? (i := 86) rfl) rfl
theorem wm_1_76 : Cond.fieldLink RX5 63 "OppositeHouse$House" "lines" "I" ∈ WG := wg_t1 (List.mem_of_getElem? (i := 76) rfl) rfl
theorem wm_1_104 : Cond.fieldLink RX5 110 "OppositeHouse$House" "views" "[I" ∈ WG := wg_t1 (List.mem_of_getElem? (i := 104) rfl) rfl
theorem wm_3_92 : Cond.constant RX5 119 (1000000) ∈ WG := wg_t3 (List.mem_of_getElem? (i := 92) rfl) rfl
theorem wm_3_93 : Cond.methodLink RX5 126 yX5_readFlag ∈ WG := wg_t3 (List.mem_of_getElem? (i := 93) rfl) rfl
theorem wm_3_96 : Cond.code yX5_readFlag cX5_readFlag 2 (some .boolean) ∈ WG := wg_t3 (List.mem_of_getElem? (i := 96) rfl) rfl
theorem wm_3_95 : Cond.instanceMethod yX5_readFlag ∈ WG := wg_t3 (List.mem_of_getElem? (i := 95) rfl) rfl
theorem wp_1_14 : Cond.selects RX5 yX5_readFlag yX5_readFlag ∈ WG := wg_p (q := (yX5_readFlag, 9)) (wg_p1 (List.mem_of_getElem? (i := 14) rfl)) rfl
theorem wm_3_133 : Cond.classLink RX5 136 RX4 ∈ WG := wg_t3 (List.mem_of_getElem? (i := 133) rfl) rfl
theorem wm_3_134 : Cond.instantiable RX4 1 ∈ WG := wg_t3 (List.mem_of_getElem? (i := 134) rfl) rfl
theorem wm_3_138 : Cond.methodLink RX4 3 Lib.objectInit ∈ WG := wg_t3 (List.mem_of_getElem? (i := 138) rfl) rfl
theorem wm_1_29 : Cond.instanceMethod Lib.objectInit ∈ WG := wg_t1 (List.mem_of_getElem? (i := 29) rfl) rfl
theorem wm_1_30 : Cond.code Lib.objectInit ⟨#[0xb1]⟩ 1 none ∈ WG := wg_t1 (List.mem_of_getElem? (i := 30) rfl) rfl
theorem wm_1_67 : Cond.arrayClass .int ∈ WG := wg_t1 (List.mem_of_getElem? (i := 67) rfl) rfl
theorem wm_3_149 : Cond.methodLink RJ7 304 yJ9_min_7cf53 ∈ WG := wg_t3 (List.mem_of_getElem? (i := 149) rfl) rfl
theorem wm_3_150 : Cond.methodLink RJ7 150 arraycopyName ∈ WG := wg_t3 (List.mem_of_getElem? (i := 150) rfl) rfl
theorem wm_3_139 : Cond.methodLink RX4 9 yJ7_copyOf_59c91 ∈ WG := wg_t3 (List.mem_of_getElem? (i := 139) rfl) rfl
theorem wm_3_141 : Cond.code yJ7_copyOf_59c91 cJ7_copyOf_59c91 3 (some (.array .int)) ∈ WG := wg_t3 (List.mem_of_getElem? (i := 141) rfl) rfl
theorem wm_3_140 : Cond.static yJ7_copyOf_59c91 ∈ WG := wg_t3 (List.mem_of_getElem? (i := 140) rfl) rfl
theorem wm_3_135 : Cond.methodLink RX5 138 yX4_init ∈ WG := wg_t3 (List.mem_of_getElem? (i := 135) rfl) rfl
theorem wm_3_137 : Cond.code yX4_init cX4_init 3 none ∈ WG := wg_t3 (List.mem_of_getElem? (i := 137) rfl) rfl
theorem wm_3_136 : Cond.instanceMethod yX4_init ∈ WG := wg_t3 (List.mem_of_getElem? (i := 136) rfl) rfl
theorem wm_1_92 : Cond.fieldLink RX5 104 "OppositeHouse$House" "startDay" "I" ∈ WG := wg_t1 (List.mem_of_getElem? (i := 92) rfl) rfl
theorem wm_3_88 : Cond.methodLink RX5 87 yX5_readPerson ∈ WG := wg_t3 (List.mem_of_getElem? (i := 88) rfl) rfl
theorem wm_3_91 : Cond.code yX5_readPerson cX5_readPerson 5 none ∈ WG := wg_t3 (List.mem_of_getElem? (i := 91) rfl) rfl
theorem wm_3_90 : Cond.instanceMethod yX5_readPerson ∈ WG := wg_t3 (List.mem_of_getElem? (i := 90) rfl) rfl
theorem wp_1_13 : Cond.selects RX5 yX5_readPerson yX5_readPerson ∈ WG := wg_p (q := (yX5_readPerson, 9)) (wg_p1 (List.mem_of_getElem? (i := 13) rfl)) rfl
theorem wm_1_95 : Cond.fieldLink RX5 90 "OppositeHouse$House" "opposing" "LOppositeHouse$Law;" ∈ WG := wg_t1 (List.mem_of_getElem? (i := 95) rfl) rfl
theorem wm_3_97 : Cond.methodLink RX5 94 yX5_readLaw ∈ WG := wg_t3 (List.mem_of_getElem? (i := 97) rfl) rfl
theorem wm_3_100 : Cond.code yX5_readLaw cX5_readLaw 4 (some (.object "OppositeHouse$Law")) ∈ WG := wg_t3 (List.mem_of_getElem? (i := 100) rfl) rfl
theorem wm_3_99 : Cond.instanceMethod yX5_readLaw ∈ WG := wg_t3 (List.mem_of_getElem? (i := 99) rfl) rfl
theorem wp_1_15 : Cond.selects RX5 yX5_readLaw yX5_readLaw ∈ WG := wg_p (q := (yX5_readLaw, 9)) (wg_p1 (List.mem_of_getElem? (i := 15) rfl)) rfl
theorem wm_1_98 : Cond.fieldLink RX5 98 "OppositeHouse$House" "saying" "LOppositeHouse$Law;" ∈ WG := wg_t1 (List.mem_of_getElem? (i := 98) rfl) rfl
theorem wm_1_101 : Cond.fieldLink RX5 101 "OppositeHouse$House" "swaying" "LOppositeHouse$Law;" ∈ WG := wg_t1 (List.mem_of_getElem? (i := 101) rfl) rfl
theorem wm_2_166 : Cond.methodLink RX5 48 yX8_cut ∈ WG := wg_t2 (List.mem_of_getElem? (i := 166) rfl) rfl
theorem wm_2_169 : Cond.code yX8_cut cX8_cut 7 none ∈ WG := wg_t2 (List.mem_of_getElem? (i := 169) rfl) rfl
theorem wm_2_167 : Cond.instanceMethod yX8_cut ∈ WG := wg_t2 (List.mem_of_getElem? (i := 167) rfl) rfl
theorem wm_2_168 : Cond.selects RX8 yX8_cut yX8_cut ∈ WG := wg_t2 (List.mem_of_getElem? (i := 168) rfl) rfl
theorem wm_1_68 : Cond.classLink RX5 31 RX3 ∈ WG := wg_t1 (List.mem_of_getElem? (i := 68) rfl) rfl
theorem wm_1_69 : Cond.instantiable RX3 12 ∈ WG := wg_t1 (List.mem_of_getElem? (i := 69) rfl) rfl
theorem wm_1_4 : Cond.initialized RX3 ∈ WG := wg_t1 (List.mem_of_getElem? (i := 4) rfl) rfl
theorem wm_1_73 : Cond.methodLink RX3 3 Lib.objectInit ∈ WG := wg_t1 (List.mem_of_getElem? (i := 73) rfl) rfl
theorem wm_1_74 : Cond.fieldLink RX3 9 "OppositeHouse$House" "lines" "I" ∈ WG := wg_t1 (List.mem_of_getElem? (i := 74) rfl) rfl
theorem wm_1_79 : Cond.fieldLink RX3 15 "OppositeHouse$House" "people" "I" ∈ WG := wg_t1 (List.mem_of_getElem? (i := 79) rfl) rfl
theorem wm_1_87 : Cond.fieldLink RX3 18 "OppositeHouse$House" "textLines" "I" ∈ WG := wg_t1 (List.mem_of_getElem? (i := 87) rfl) rfl
theorem wm_1_90 : Cond.fieldLink RX3 21 "OppositeHouse$House" "startDay" "I" ∈ WG := wg_t1 (List.mem_of_getElem? (i := 90) rfl) rfl
theorem wm_1_93 : Cond.fieldLink RX3 24 "OppositeHouse$House" "opposing" "LOppositeHouse$Law;" ∈ WG := wg_t1 (List.mem_of_getElem? (i := 93) rfl) rfl
theorem wm_1_96 : Cond.fieldLink RX3 28 "OppositeHouse$House" "saying" "LOppositeHouse$Law;" ∈ WG := wg_t1 (List.mem_of_getElem? (i := 96) rfl) rfl
theorem wm_1_99 : Cond.fieldLink RX3 31 "OppositeHouse$House" "swaying" "LOppositeHouse$Law;" ∈ WG := wg_t1 (List.mem_of_getElem? (i := 99) rfl) rfl
theorem wm_1_102 : Cond.fieldLink RX3 34 "OppositeHouse$House" "views" "[I" ∈ WG := wg_t1 (List.mem_of_getElem? (i := 102) rfl) rfl
theorem wm_1_105 : Cond.fieldLink RX3 38 "OppositeHouse$House" "first" "[I" ∈ WG := wg_t1 (List.mem_of_getElem? (i := 105) rfl) rfl
theorem wm_1_109 : Cond.fieldLink RX3 41 "OppositeHouse$House" "last" "[I" ∈ WG := wg_t1 (List.mem_of_getElem? (i := 109) rfl) rfl
theorem wm_1_113 : Cond.fieldLink RX3 44 "OppositeHouse$House" "temper" "[I" ∈ WG := wg_t1 (List.mem_of_getElem? (i := 113) rfl) rfl
theorem wm_1_116 : Cond.fieldLink RX3 47 "OppositeHouse$House" "weight" "[I" ∈ WG := wg_t1 (List.mem_of_getElem? (i := 116) rfl) rfl
theorem wm_1_72 : Cond.code yX3_init cX3_init 1 none ∈ WG := wg_t1 (List.mem_of_getElem? (i := 72) rfl) rfl
theorem wm_1_71 : Cond.instanceMethod yX3_init ∈ WG := wg_t1 (List.mem_of_getElem? (i := 71) rfl) rfl
theorem wm_1_88 : Cond.fieldLink RX5 66 "OppositeHouse$House" "textLines" "I" ∈ WG := wg_t1 (List.mem_of_getElem? (i := 88) rfl) rfl
theorem wm_3_84 : Cond.methodLink RX5 72 yX5_readLine ∈ WG := wg_t3 (List.mem_of_getElem? (i := 84) rfl) rfl
theorem wm_3_87 : Cond.code yX5_readLine cX5_readLine 1 none ∈ WG := wg_t3 (List.mem_of_getElem? (i := 87) rfl) rfl
theorem wm_3_86 : Cond.instanceMethod yX5_readLine ∈ WG := wg_t3 (List.mem_of_getElem? (i := 86) rfl) rfl
theorem wp_1_12 : Cond.selects RX5 yX5_readLine yX5_readLine ∈ WG := wg_p (q := (yX5_readLine, 9)) (wg_p1 (List.mem_of_getElem? (i := 12) rfl)) rfl
theorem df_3 : ∀ j, j < 12 → defaultValue (tyX3 j) = vp_V [.int 0, .int 0, .int 0, .int 0, .null, .null, .null, .null, .null, .null, .null, .null] j := by
  intro k hk
  match k, hk with
  | 0, _ => rfl
  | 1, _ => rfl
  | 2, _ => rfl
  | 3, _ => rfl
  | 4, _ => rfl
  | 5, _ => rfl
  | 6, _ => rfl
  | 7, _ => rfl
  | 8, _ => rfl
  | 9, _ => rfl
  | 10, _ => rfl
  | 11, _ => rfl
  | n + 12, hk => exact absurd hk (by omega)
theorem df_4 : ∀ j, j < 1 → defaultValue (tyX4 j) = vp_V [.null] j := by
  intro k hk
  match k, hk with
  | 0, _ => rfl
  | n + 1, hk => exact absurd hk (by omega)
theorem hd_X11_putOnTape : yX11_putOnTape.cls ≠ "java/lang/invoke/MethodHandle" ∧ yX11_putOnTape.cls ≠ "java/lang/invoke/VarHandle" ∧ (parseMethodDescriptor yX11_putOnTape.desc).map (fun d => d.parameters.length) = some 1 := by decide +kernel
theorem hd_X5_takeNumber : yX5_takeNumber.cls ≠ "java/lang/invoke/MethodHandle" ∧ yX5_takeNumber.cls ≠ "java/lang/invoke/VarHandle" ∧ (parseMethodDescriptor yX5_takeNumber.desc).map (fun d => d.parameters.length) = some 2 := by decide +kernel
theorem hd_X5_readFlag : yX5_readFlag.cls ≠ "java/lang/invoke/MethodHandle" ∧ yX5_readFlag.cls ≠ "java/lang/invoke/VarHandle" ∧ (parseMethodDescriptor yX5_readFlag.desc).map (fun d => d.parameters.length) = some 1 := by decide +kernel
theorem hd_J7_copyOf_59c91 : yJ7_copyOf_59c91.cls ≠ "java/lang/invoke/MethodHandle" ∧ yJ7_copyOf_59c91.cls ≠ "java/lang/invoke/VarHandle" ∧ (parseMethodDescriptor yJ7_copyOf_59c91.desc).map (fun d => d.parameters.length) = some 2 := by decide +kernel
theorem hd_X4_init : yX4_init.cls ≠ "java/lang/invoke/MethodHandle" ∧ yX4_init.cls ≠ "java/lang/invoke/VarHandle" ∧ (parseMethodDescriptor yX4_init.desc).map (fun d => d.parameters.length) = some 2 := by decide +kernel
theorem hd_X5_readPerson : yX5_readPerson.cls ≠ "java/lang/invoke/MethodHandle" ∧ yX5_readPerson.cls ≠ "java/lang/invoke/VarHandle" ∧ (parseMethodDescriptor yX5_readPerson.desc).map (fun d => d.parameters.length) = some 0 := by decide +kernel
theorem hd_X5_readLaw : yX5_readLaw.cls ≠ "java/lang/invoke/MethodHandle" ∧ yX5_readLaw.cls ≠ "java/lang/invoke/VarHandle" ∧ (parseMethodDescriptor yX5_readLaw.desc).map (fun d => d.parameters.length) = some 2 := by decide +kernel
theorem hd_X8_cut : yX8_cut.cls ≠ "java/lang/invoke/MethodHandle" ∧ yX8_cut.cls ≠ "java/lang/invoke/VarHandle" ∧ (parseMethodDescriptor yX8_cut.desc).map (fun d => d.parameters.length) = some 2 := by decide +kernel
theorem hd_X3_init : yX3_init.cls ≠ "java/lang/invoke/MethodHandle" ∧ yX3_init.cls ≠ "java/lang/invoke/VarHandle" ∧ (parseMethodDescriptor yX3_init.desc).map (fun d => d.parameters.length) = some 0 := by decide +kernel
theorem hd_X5_readLine : yX5_readLine.cls ≠ "java/lang/invoke/MethodHandle" ∧ yX5_readLine.cls ≠ "java/lang/invoke/VarHandle" ∧ (parseMethodDescriptor yX5_readLine.desc).map (fun d => d.parameters.length) = some 0 := by decide +kernel
theorem dJ7_copyOf_59c91_0 : decode cJ7_copyOf_59c91 0 = .ok (.iload_n 1, 1) := by decide +kernel
theorem dJ7_copyOf_59c91_1 : decode cJ7_copyOf_59c91 1 = .ok (.aload_n 0, 1) := by decide +kernel
theorem dJ7_copyOf_59c91_2 : decode cJ7_copyOf_59c91 2 = .ok (.arraylength, 1) := by decide +kernel
theorem dJ7_copyOf_59c91_3 : decode cJ7_copyOf_59c91 3 = .ok (.if_icmp .ne 11, 3) := by decide +kernel
theorem dJ7_copyOf_59c91_6 : decode cJ7_copyOf_59c91 6 = .ok (.aload_n 0, 1) := by decide +kernel
theorem dJ7_copyOf_59c91_7 : decode cJ7_copyOf_59c91 7 = .ok (.invokevirtual 316, 3) := by decide +kernel
theorem dJ7_copyOf_59c91_10 : decode cJ7_copyOf_59c91 10 = .ok (.checkcast 317, 3) := by decide +kernel
theorem dJ7_copyOf_59c91_13 : decode cJ7_copyOf_59c91 13 = .ok (.areturn, 1) := by decide +kernel
theorem dJ7_copyOf_59c91_14 : decode cJ7_copyOf_59c91 14 = .ok (.iload_n 1, 1) := by decide +kernel
theorem dJ7_copyOf_59c91_15 : decode cJ7_copyOf_59c91 15 = .ok (.newarray .int, 2) := by decide +kernel
theorem dJ7_copyOf_59c91_17 : decode cJ7_copyOf_59c91 17 = .ok (.astore_n 2, 1) := by decide +kernel
theorem dJ7_copyOf_59c91_18 : decode cJ7_copyOf_59c91 18 = .ok (.aload_n 0, 1) := by decide +kernel
theorem dJ7_copyOf_59c91_19 : decode cJ7_copyOf_59c91 19 = .ok (.iconst 0, 1) := by decide +kernel
theorem dJ7_copyOf_59c91_20 : decode cJ7_copyOf_59c91 20 = .ok (.aload_n 2, 1) := by decide +kernel
theorem dJ7_copyOf_59c91_21 : decode cJ7_copyOf_59c91 21 = .ok (.iconst 0, 1) := by decide +kernel
theorem dJ7_copyOf_59c91_22 : decode cJ7_copyOf_59c91 22 = .ok (.aload_n 0, 1) := by decide +kernel
theorem dJ7_copyOf_59c91_23 : decode cJ7_copyOf_59c91 23 = .ok (.arraylength, 1) := by decide +kernel
theorem dJ7_copyOf_59c91_24 : decode cJ7_copyOf_59c91 24 = .ok (.iload_n 1, 1) := by decide +kernel
theorem dJ7_copyOf_59c91_25 : decode cJ7_copyOf_59c91 25 = .ok (.invokestatic 304, 3) := by decide +kernel
theorem dJ7_copyOf_59c91_28 : decode cJ7_copyOf_59c91 28 = .ok (.invokestatic 150, 3) := by decide +kernel
theorem dJ7_copyOf_59c91_31 : decode cJ7_copyOf_59c91 31 = .ok (.aload_n 2, 1) := by decide +kernel
theorem dJ7_copyOf_59c91_32 : decode cJ7_copyOf_59c91 32 = .ok (.areturn, 1) := by decide +kernel
theorem dX11_feed_0 : decode cX11_feed 0 = .ok (.aload_n 0, 1) := by decide +kernel
theorem dX11_feed_1 : decode cX11_feed 1 = .ok (.getfield 13, 3) := by decide +kernel
theorem dX11_feed_4 : decode cX11_feed 4 = .ok (.bipush 20, 2) := by decide +kernel
theorem dX11_feed_6 : decode cX11_feed 6 = .ok (.iadd, 1) := by decide +kernel
theorem dX11_feed_7 : decode cX11_feed 7 = .ok (.sipush 900, 3) := by decide +kernel
theorem dX11_feed_10 : decode cX11_feed 10 = .ok (.if_icmp .le 6, 3) := by decide +kernel
theorem dX11_feed_13 : decode cX11_feed 13 = .ok (.bipush (-5), 2) := by decide +kernel
theorem dX11_feed_15 : decode cX11_feed 15 = .ok (.ireturn, 1) := by decide +kernel
theorem dX11_feed_16 : decode cX11_feed 16 = .ok (.aload_n 0, 1) := by decide +kernel
theorem dX11_feed_17 : decode cX11_feed 17 = .ok (.iload_n 1, 1) := by decide +kernel
theorem dX11_feed_18 : decode cX11_feed 18 = .ok (.invokevirtual 101, 3) := by decide +kernel
theorem dX11_feed_21 : decode cX11_feed 21 = .ok (.aload_n 0, 1) := by decide +kernel
theorem dX11_feed_22 : decode cX11_feed 22 = .ok (.iload_n 2, 1) := by decide +kernel
theorem dX11_feed_23 : decode cX11_feed 23 = .ok (.invokevirtual 101, 3) := by decide +kernel
theorem dX11_feed_26 : decode cX11_feed 26 = .ok (.aload_n 0, 1) := by decide +kernel
theorem dX11_feed_27 : decode cX11_feed 27 = .ok (.iload_n 3, 1) := by decide +kernel
theorem dX11_feed_28 : decode cX11_feed 28 = .ok (.invokevirtual 101, 3) := by decide +kernel
theorem dX11_feed_31 : decode cX11_feed 31 = .ok (.aload_n 0, 1) := by decide +kernel
theorem dX11_feed_32 : decode cX11_feed 32 = .ok (.iload 4, 2) := by decide +kernel
theorem dX11_feed_34 : decode cX11_feed 34 = .ok (.invokevirtual 101, 3) := by decide +kernel
theorem dX11_feed_37 : decode cX11_feed 37 = .ok (.aload_n 0, 1) := by decide +kernel
theorem dX11_feed_38 : decode cX11_feed 38 = .ok (.iload 5, 2) := by decide +kernel
theorem dX11_feed_40 : decode cX11_feed 40 = .ok (.invokevirtual 101, 3) := by decide +kernel
theorem dX11_feed_43 : decode cX11_feed 43 = .ok (.aload_n 0, 1) := by decide +kernel
theorem dX11_feed_44 : decode cX11_feed 44 = .ok (.getfield 13, 3) := by decide +kernel
theorem dX11_feed_47 : decode cX11_feed 47 = .ok (.ireturn, 1) := by decide +kernel
theorem dX11_putOnTape_0 : decode cX11_putOnTape 0 = .ok (.bipush 24, 2) := by decide +kernel
theorem dX11_putOnTape_2 : decode cX11_putOnTape 2 = .ok (.istore_n 2, 1) := by decide +kernel
theorem dX11_putOnTape_3 : decode cX11_putOnTape 3 = .ok (.iload_n 2, 1) := by decide +kernel
theorem dX11_putOnTape_4 : decode cX11_putOnTape 4 = .ok (.ifCond .lt 42, 3) := by decide +kernel
theorem dX11_putOnTape_7 : decode cX11_putOnTape 7 = .ok (.aload_n 0, 1) := by decide +kernel
theorem dX11_putOnTape_8 : decode cX11_putOnTape 8 = .ok (.getfield 13, 3) := by decide +kernel
theorem dX11_putOnTape_11 : decode cX11_putOnTape 11 = .ok (.sipush 900, 3) := by decide +kernel
theorem dX11_putOnTape_14 : decode cX11_putOnTape 14 = .ok (.if_icmp .ge 32, 3) := by decide +kernel
theorem dX11_putOnTape_17 : decode cX11_putOnTape 17 = .ok (.aload_n 0, 1) := by decide +kernel
theorem dX11_putOnTape_18 : decode cX11_putOnTape 18 = .ok (.getfield 9, 3) := by decide +kernel
theorem dX11_putOnTape_21 : decode cX11_putOnTape 21 = .ok (.aload_n 0, 1) := by decide +kernel
theorem dX11_putOnTape_22 : decode cX11_putOnTape 22 = .ok (.getfield 13, 3) := by decide +kernel
theorem dX11_putOnTape_25 : decode cX11_putOnTape 25 = .ok (.iload_n 1, 1) := by decide +kernel
theorem dX11_putOnTape_26 : decode cX11_putOnTape 26 = .ok (.iload_n 2, 1) := by decide +kernel
theorem dX11_putOnTape_27 : decode cX11_putOnTape 27 = .ok (.iushr, 1) := by decide +kernel
theorem dX11_putOnTape_28 : decode cX11_putOnTape 28 = .ok (.i2b, 1) := by decide +kernel
theorem dX11_putOnTape_29 : decode cX11_putOnTape 29 = .ok (.bastore, 1) := by decide +kernel
theorem dX11_putOnTape_30 : decode cX11_putOnTape 30 = .ok (.aload_n 0, 1) := by decide +kernel
theorem dX11_putOnTape_31 : decode cX11_putOnTape 31 = .ok (.dup, 1) := by decide +kernel
theorem dX11_putOnTape_32 : decode cX11_putOnTape 32 = .ok (.getfield 13, 3) := by decide +kernel
theorem dX11_putOnTape_35 : decode cX11_putOnTape 35 = .ok (.iconst 1, 1) := by decide +kernel
theorem dX11_putOnTape_36 : decode cX11_putOnTape 36 = .ok (.iadd, 1) := by decide +kernel
theorem dX11_putOnTape_37 : decode cX11_putOnTape 37 = .ok (.putfield 13, 3) := by decide +kernel
theorem dX11_putOnTape_40 : decode cX11_putOnTape 40 = .ok (.iinc 2 (-8), 3) := by decide +kernel
theorem dX11_putOnTape_43 : decode cX11_putOnTape 43 = .ok (.goto (-40), 3) := by decide +kernel
theorem dX11_putOnTape_46 : decode cX11_putOnTape 46 = .ok (.return_, 1) := by decide +kernel
theorem dX3_init_0 : decode cX3_init 0 = .ok (.aload_n 0, 1) := by decide +kernel
theorem dX3_init_1 : decode cX3_init 1 = .ok (.invokespecial 3, 3) := by decide +kernel
theorem dX3_init_4 : decode cX3_init 4 = .ok (.aload_n 0, 1) := by decide +kernel
theorem dX3_init_5 : decode cX3_init 5 = .ok (.iconst 1, 1) := by decide +kernel
theorem dX3_init_6 : decode cX3_init 6 = .ok (.putfield 9, 3) := by decide +kernel
theorem dX3_init_9 : decode cX3_init 9 = .ok (.aload_n 0, 1) := by decide +kernel
theorem dX3_init_10 : decode cX3_init 10 = .ok (.iconst 0, 1) := by decide +kernel
theorem dX3_init_11 : decode cX3_init 11 = .ok (.putfield 15, 3) := by decide +kernel
theorem dX3_init_14 : decode cX3_init 14 = .ok (.aload_n 0, 1) := by decide +kernel
theorem dX3_init_15 : decode cX3_init 15 = .ok (.iconst 0, 1) := by decide +kernel
theorem dX3_init_16 : decode cX3_init 16 = .ok (.putfield 18, 3) := by decide +kernel
theorem dX3_init_19 : decode cX3_init 19 = .ok (.aload_n 0, 1) := by decide +kernel
theorem dX3_init_20 : decode cX3_init 20 = .ok (.iconst 0, 1) := by decide +kernel
theorem dX3_init_21 : decode cX3_init 21 = .ok (.putfield 21, 3) := by decide +kernel
theorem dX3_init_24 : decode cX3_init 24 = .ok (.aload_n 0, 1) := by decide +kernel
theorem dX3_init_25 : decode cX3_init 25 = .ok (.aconst_null, 1) := by decide +kernel
theorem dX3_init_26 : decode cX3_init 26 = .ok (.putfield 24, 3) := by decide +kernel
theorem dX3_init_29 : decode cX3_init 29 = .ok (.aload_n 0, 1) := by decide +kernel
theorem dX3_init_30 : decode cX3_init 30 = .ok (.aconst_null, 1) := by decide +kernel
theorem dX3_init_31 : decode cX3_init 31 = .ok (.putfield 28, 3) := by decide +kernel
theorem dX3_init_34 : decode cX3_init 34 = .ok (.aload_n 0, 1) := by decide +kernel
theorem dX3_init_35 : decode cX3_init 35 = .ok (.aconst_null, 1) := by decide +kernel
theorem dX3_init_36 : decode cX3_init 36 = .ok (.putfield 31, 3) := by decide +kernel
theorem dX3_init_39 : decode cX3_init 39 = .ok (.aload_n 0, 1) := by decide +kernel
theorem dX3_init_40 : decode cX3_init 40 = .ok (.bipush 10, 2) := by decide +kernel
theorem dX3_init_42 : decode cX3_init 42 = .ok (.newarray .int, 2) := by decide +kernel
theorem dX3_init_44 : decode cX3_init 44 = .ok (.putfield 34, 3) := by decide +kernel
theorem dX3_init_47 : decode cX3_init 47 = .ok (.aload_n 0, 1) := by decide +kernel
theorem dX3_init_48 : decode cX3_init 48 = .ok (.bipush 10, 2) := by decide +kernel
theorem dX3_init_50 : decode cX3_init 50 = .ok (.newarray .int, 2) := by decide +kernel
theorem dX3_init_52 : decode cX3_init 52 = .ok (.putfield 38, 3) := by decide +kernel
theorem dX3_init_55 : decode cX3_init 55 = .ok (.aload_n 0, 1) := by decide +kernel
theorem dX3_init_56 : decode cX3_init 56 = .ok (.bipush 10, 2) := by decide +kernel
theorem dX3_init_58 : decode cX3_init 58 = .ok (.newarray .int, 2) := by decide +kernel
theorem dX3_init_60 : decode cX3_init 60 = .ok (.putfield 41, 3) := by decide +kernel
theorem dX3_init_63 : decode cX3_init 63 = .ok (.aload_n 0, 1) := by decide +kernel
theorem dX3_init_64 : decode cX3_init 64 = .ok (.bipush 10, 2) := by decide +kernel
theorem dX3_init_66 : decode cX3_init 66 = .ok (.newarray .int, 2) := by decide +kernel
theorem dX3_init_68 : decode cX3_init 68 = .ok (.putfield 44, 3) := by decide +kernel
theorem dX3_init_71 : decode cX3_init 71 = .ok (.aload_n 0, 1) := by decide +kernel
theorem dX3_init_72 : decode cX3_init 72 = .ok (.bipush 10, 2) := by decide +kernel
theorem dX3_init_74 : decode cX3_init 74 = .ok (.newarray .int, 2) := by decide +kernel
theorem dX3_init_76 : decode cX3_init 76 = .ok (.putfield 47, 3) := by decide +kernel
theorem dX3_init_79 : decode cX3_init 79 = .ok (.return_, 1) := by decide +kernel
theorem dX4_init_0 : decode cX4_init 0 = .ok (.aload_n 0, 1) := by decide +kernel
theorem dX4_init_1 : decode cX4_init 1 = .ok (.invokespecial 3, 3) := by decide +kernel
theorem dX4_init_4 : decode cX4_init 4 = .ok (.aload_n 0, 1) := by decide +kernel
theorem dX4_init_5 : decode cX4_init 5 = .ok (.aload_n 1, 1) := by decide +kernel
theorem dX4_init_6 : decode cX4_init 6 = .ok (.iload_n 2, 1) := by decide +kernel
theorem dX4_init_7 : decode cX4_init 7 = .ok (.invokestatic 9, 3) := by decide +kernel
theorem dX4_init_10 : decode cX4_init 10 = .ok (.putfield 15, 3) := by decide +kernel
theorem dX4_init_13 : decode cX4_init 13 = .ok (.return_, 1) := by decide +kernel
theorem dX5_read_0 : decode cX5_read 0 = .ok (.aload_n 0, 1) := by decide +kernel
theorem dX5_read_1 : decode cX5_read 1 = .ok (.getfield 12, 3) := by decide +kernel
theorem dX5_read_4 : decode cX5_read 4 = .ok (.aload_n 1, 1) := by decide +kernel
theorem dX5_read_5 : decode cX5_read 5 = .ok (.iload_n 2, 1) := by decide +kernel
theorem dX5_read_6 : decode cX5_read 6 = .ok (.invokevirtual 48, 3) := by decide +kernel
theorem dX5_read_9 : decode cX5_read 9 = .ok (.aload_n 0, 1) := by decide +kernel
theorem dX5_read_10 : decode cX5_read 10 = .ok (.iconst (-1), 1) := by decide +kernel
theorem dX5_read_11 : decode cX5_read 11 = .ok (.putfield 18, 3) := by decide +kernel
theorem dX5_read_14 : decode cX5_read 14 = .ok (.aload_n 0, 1) := by decide +kernel
theorem dX5_read_15 : decode cX5_read 15 = .ok (.iconst 0, 1) := by decide +kernel
theorem dX5_read_16 : decode cX5_read 16 = .ok (.putfield 25, 3) := by decide +kernel
theorem dX5_read_19 : decode cX5_read 19 = .ok (.aload_n 0, 1) := by decide +kernel
theorem dX5_read_20 : decode cX5_read 20 = .ok (.iconst (-1), 1) := by decide +kernel
theorem dX5_read_21 : decode cX5_read 21 = .ok (.putfield 28, 3) := by decide +kernel
theorem dX5_read_24 : decode cX5_read 24 = .ok (.aload_n 0, 1) := by decide +kernel
theorem dX5_read_25 : decode cX5_read 25 = .ok (.new 31, 3) := by decide +kernel
theorem dX5_read_28 : decode cX5_read 28 = .ok (.dup, 1) := by decide +kernel
theorem dX5_read_29 : decode cX5_read 29 = .ok (.invokespecial 33, 3) := by decide +kernel
theorem dX5_read_32 : decode cX5_read 32 = .ok (.putfield 34, 3) := by decide +kernel
theorem dX5_read_35 : decode cX5_read 35 = .ok (.aload_n 0, 1) := by decide +kernel
theorem dX5_read_36 : decode cX5_read 36 = .ok (.invokevirtual 52, 3) := by decide +kernel
theorem dX5_read_39 : decode cX5_read 39 = .ok (.aload_n 0, 1) := by decide +kernel
theorem dX5_read_40 : decode cX5_read 40 = .ok (.bipush 11, 2) := by decide +kernel
theorem dX5_read_42 : decode cX5_read 42 = .ok (.invokevirtual 55, 3) := by decide +kernel
theorem dX5_read_45 : decode cX5_read 45 = .ok (.aload_n 0, 1) := by decide +kernel
theorem dX5_read_46 : decode cX5_read 46 = .ok (.bipush 12, 2) := by decide +kernel
theorem dX5_read_48 : decode cX5_read 48 = .ok (.invokevirtual 55, 3) := by decide +kernel
theorem dX5_read_51 : decode cX5_read 51 = .ok (.aload_n 0, 1) := by decide +kernel
theorem dX5_read_52 : decode cX5_read 52 = .ok (.getfield 34, 3) := by decide +kernel
theorem dX5_read_55 : decode cX5_read 55 = .ok (.aload_n 0, 1) := by decide +kernel
theorem dX5_read_56 : decode cX5_read 56 = .ok (.iconst 1, 1) := by decide +kernel
theorem dX5_read_57 : decode cX5_read 57 = .ok (.iconst 3, 1) := by decide +kernel
theorem dX5_read_58 : decode cX5_read 58 = .ok (.invokevirtual 59, 3) := by decide +kernel
theorem dX5_read_61 : decode cX5_read 61 = .ok (.putfield 63, 3) := by decide +kernel
theorem dX5_read_64 : decode cX5_read 64 = .ok (.aload_n 0, 1) := by decide +kernel
theorem dX5_read_65 : decode cX5_read 65 = .ok (.bipush 59, 2) := by decide +kernel
theorem dX5_read_67 : decode cX5_read 67 = .ok (.invokevirtual 55, 3) := by decide +kernel
theorem dX5_read_70 : decode cX5_read 70 = .ok (.aload_n 0, 1) := by decide +kernel
theorem dX5_read_71 : decode cX5_read 71 = .ok (.getfield 34, 3) := by decide +kernel
theorem dX5_read_74 : decode cX5_read 74 = .ok (.iconst 1, 1) := by decide +kernel
theorem dX5_read_75 : decode cX5_read 75 = .ok (.putfield 66, 3) := by decide +kernel
theorem dX5_read_78 : decode cX5_read 78 = .ok (.iconst 0, 1) := by decide +kernel
theorem dX5_read_79 : decode cX5_read 79 = .ok (.istore_n 3, 1) := by decide +kernel
theorem dX5_read_80 : decode cX5_read 80 = .ok (.iload_n 3, 1) := by decide +kernel
theorem dX5_read_81 : decode cX5_read 81 = .ok (.aload_n 0, 1) := by decide +kernel
theorem dX5_read_82 : decode cX5_read 82 = .ok (.getfield 12, 3) := by decide +kernel
theorem dX5_read_85 : decode cX5_read 85 = .ok (.getfield 69, 3) := by decide +kernel
theorem dX5_read_88 : decode cX5_read 88 = .ok (.if_icmp .ge 50, 3) := by decide +kernel
theorem dX5_read_91 : decode cX5_read 91 = .ok (.aload_n 0, 1) := by decide +kernel
theorem dX5_read_92 : decode cX5_read 92 = .ok (.getfield 22, 3) := by decide +kernel
theorem dX5_read_95 : decode cX5_read 95 = .ok (.bipush 26, 2) := by decide +kernel
theorem dX5_read_97 : decode cX5_read 97 = .ok (.if_icmp .eq 41, 3) := by decide +kernel
theorem dX5_read_100 : decode cX5_read 100 = .ok (.aload_n 0, 1) := by decide +kernel
theorem dX5_read_101 : decode cX5_read 101 = .ok (.getfield 22, 3) := by decide +kernel
theorem dX5_read_104 : decode cX5_read 104 = .ok (.bipush 27, 2) := by decide +kernel
theorem dX5_read_106 : decode cX5_read 106 = .ok (.if_icmp .eq 32, 3) := by decide +kernel
theorem dX5_read_109 : decode cX5_read 109 = .ok (.aload_n 0, 1) := by decide +kernel
theorem dX5_read_110 : decode cX5_read 110 = .ok (.invokevirtual 72, 3) := by decide +kernel
theorem dX5_read_113 : decode cX5_read 113 = .ok (.aload_n 0, 1) := by decide +kernel
theorem dX5_read_114 : decode cX5_read 114 = .ok (.bipush 59, 2) := by decide +kernel
theorem dX5_read_116 : decode cX5_read 116 = .ok (.invokevirtual 55, 3) := by decide +kernel
theorem dX5_read_119 : decode cX5_read 119 = .ok (.aload_n 0, 1) := by decide +kernel
theorem dX5_read_120 : decode cX5_read 120 = .ok (.getfield 34, 3) := by decide +kernel
theorem dX5_read_123 : decode cX5_read 123 = .ok (.dup, 1) := by decide +kernel
theorem dX5_read_124 : decode cX5_read 124 = .ok (.getfield 66, 3) := by decide +kernel
theorem dX5_read_127 : decode cX5_read 127 = .ok (.iconst 1, 1) := by decide +kernel
theorem dX5_read_128 : decode cX5_read 128 = .ok (.iadd, 1) := by decide +kernel
theorem dX5_read_129 : decode cX5_read 129 = .ok (.putfield 66, 3) := by decide +kernel
theorem dX5_read_132 : decode cX5_read 132 = .ok (.iinc 3 1, 3) := by decide +kernel
theorem dX5_read_135 : decode cX5_read 135 = .ok (.goto (-55), 3) := by decide +kernel
theorem dX5_read_138 : decode cX5_read 138 = .ok (.aload_n 0, 1) := by decide +kernel
theorem dX5_read_139 : decode cX5_read 139 = .ok (.getfield 34, 3) := by decide +kernel
theorem dX5_read_142 : decode cX5_read 142 = .ok (.areturn, 1) := by decide +kernel
theorem dX5_readFlag_0 : decode cX5_readFlag 0 = .ok (.aload_n 0, 1) := by decide +kernel
theorem dX5_readFlag_1 : decode cX5_readFlag 1 = .ok (.getfield 22, 3) := by decide +kernel
theorem dX5_readFlag_4 : decode cX5_readFlag 4 = .ok (.tableswitch 130 14 17 #[32, 130, 86, 108], 32) := by decide +kernel
theorem dX5_readFlag_36 : decode cX5_readFlag 36 = .ok (.aload_n 0, 1) := by decide +kernel
theorem dX5_readFlag_37 : decode cX5_readFlag 37 = .ok (.invokevirtual 52, 3) := by decide +kernel
theorem dX5_readFlag_40 : decode cX5_readFlag 40 = .ok (.aload_n 0, 1) := by decide +kernel
theorem dX5_readFlag_41 : decode cX5_readFlag 41 = .ok (.getfield 34, 3) := by decide +kernel
theorem dX5_readFlag_44 : decode cX5_readFlag 44 = .ok (.getfield 113, 3) := by decide +kernel
theorem dX5_readFlag_47 : decode cX5_readFlag 47 = .ok (.iload_n 1, 1) := by decide +kernel
theorem dX5_readFlag_48 : decode cX5_readFlag 48 = .ok (.aload_n 0, 1) := by decide +kernel
theorem dX5_readFlag_49 : decode cX5_readFlag 49 = .ok (.iconst 0, 1) := by decide +kernel
theorem dX5_readFlag_50 : decode cX5_readFlag 50 = .ok (.sipush 999, 3) := by decide +kernel
theorem dX5_readFlag_53 : decode cX5_readFlag 53 = .ok (.invokevirtual 59, 3) := by decide +kernel
theorem dX5_readFlag_56 : decode cX5_readFlag 56 = .ok (.iastore, 1) := by decide +kernel
theorem dX5_readFlag_57 : decode cX5_readFlag 57 = .ok (.aload_n 0, 1) := by decide +kernel
theorem dX5_readFlag_58 : decode cX5_readFlag 58 = .ok (.bipush 15, 2) := by decide +kernel
theorem dX5_readFlag_60 : decode cX5_readFlag 60 = .ok (.invokevirtual 55, 3) := by decide +kernel
theorem dX5_readFlag_63 : decode cX5_readFlag 63 = .ok (.aload_n 0, 1) := by decide +kernel
theorem dX5_readFlag_64 : decode cX5_readFlag 64 = .ok (.getfield 34, 3) := by decide +kernel
theorem dX5_readFlag_67 : decode cX5_readFlag 67 = .ok (.getfield 116, 3) := by decide +kernel
theorem dX5_readFlag_70 : decode cX5_readFlag 70 = .ok (.iload_n 1, 1) := by decide +kernel
theorem dX5_readFlag_71 : decode cX5_readFlag 71 = .ok (.aload_n 0, 1) := by decide +kernel
theorem dX5_readFlag_72 : decode cX5_readFlag 72 = .ok (.aload_n 0, 1) := by decide +kernel
theorem dX5_readFlag_73 : decode cX5_readFlag 73 = .ok (.getfield 34, 3) := by decide +kernel
theorem dX5_readFlag_76 : decode cX5_readFlag 76 = .ok (.getfield 113, 3) := by decide +kernel
theorem dX5_readFlag_79 : decode cX5_readFlag 79 = .ok (.iload_n 1, 1) := by decide +kernel
theorem dX5_readFlag_80 : decode cX5_readFlag 80 = .ok (.iaload, 1) := by decide +kernel
theorem dX5_readFlag_81 : decode cX5_readFlag 81 = .ok (.sipush 999, 3) := by decide +kernel
theorem dX5_readFlag_84 : decode cX5_readFlag 84 = .ok (.invokevirtual 59, 3) := by decide +kernel
theorem dX5_readFlag_87 : decode cX5_readFlag 87 = .ok (.iastore, 1) := by decide +kernel
theorem dX5_readFlag_88 : decode cX5_readFlag 88 = .ok (.iconst 1, 1) := by decide +kernel
theorem dX5_readFlag_89 : decode cX5_readFlag 89 = .ok (.ireturn, 1) := by decide +kernel
theorem dX5_readFlag_90 : decode cX5_readFlag 90 = .ok (.aload_n 0, 1) := by decide +kernel
theorem dX5_readFlag_91 : decode cX5_readFlag 91 = .ok (.invokevirtual 52, 3) := by decide +kernel
theorem dX5_readFlag_94 : decode cX5_readFlag 94 = .ok (.aload_n 0, 1) := by decide +kernel
theorem dX5_readFlag_95 : decode cX5_readFlag 95 = .ok (.getfield 34, 3) := by decide +kernel
theorem dX5_readFlag_98 : decode cX5_readFlag 98 = .ok (.getfield 120, 3) := by decide +kernel
theorem dX5_readFlag_101 : decode cX5_readFlag 101 = .ok (.iload_n 1, 1) := by decide +kernel
theorem dX5_readFlag_102 : decode cX5_readFlag 102 = .ok (.aload_n 0, 1) := by decide +kernel
theorem dX5_readFlag_103 : decode cX5_readFlag 103 = .ok (.iconst 0, 1) := by decide +kernel
theorem dX5_readFlag_104 : decode cX5_readFlag 104 = .ok (.bipush 10, 2) := by decide +kernel
theorem dX5_readFlag_106 : decode cX5_readFlag 106 = .ok (.invokevirtual 59, 3) := by decide +kernel
theorem dX5_readFlag_109 : decode cX5_readFlag 109 = .ok (.iastore, 1) := by decide +kernel
theorem dX5_readFlag_110 : decode cX5_readFlag 110 = .ok (.iconst 1, 1) := by decide +kernel
theorem dX5_readFlag_111 : decode cX5_readFlag 111 = .ok (.ireturn, 1) := by decide +kernel
theorem dX5_readFlag_112 : decode cX5_readFlag 112 = .ok (.aload_n 0, 1) := by decide +kernel
theorem dX5_readFlag_113 : decode cX5_readFlag 113 = .ok (.invokevirtual 52, 3) := by decide +kernel
theorem dX5_readFlag_116 : decode cX5_readFlag 116 = .ok (.aload_n 0, 1) := by decide +kernel
theorem dX5_readFlag_117 : decode cX5_readFlag 117 = .ok (.getfield 34, 3) := by decide +kernel
theorem dX5_readFlag_120 : decode cX5_readFlag 120 = .ok (.getfield 123, 3) := by decide +kernel
theorem dX5_readFlag_123 : decode cX5_readFlag 123 = .ok (.iload_n 1, 1) := by decide +kernel
theorem dX5_readFlag_124 : decode cX5_readFlag 124 = .ok (.aload_n 0, 1) := by decide +kernel
theorem dX5_readFlag_125 : decode cX5_readFlag 125 = .ok (.iconst 1, 1) := by decide +kernel
theorem dX5_readFlag_126 : decode cX5_readFlag 126 = .ok (.bipush 99, 2) := by decide +kernel
theorem dX5_readFlag_128 : decode cX5_readFlag 128 = .ok (.invokevirtual 59, 3) := by decide +kernel
theorem dX5_readFlag_131 : decode cX5_readFlag 131 = .ok (.iastore, 1) := by decide +kernel
theorem dX5_readFlag_132 : decode cX5_readFlag 132 = .ok (.iconst 1, 1) := by decide +kernel
theorem dX5_readFlag_133 : decode cX5_readFlag 133 = .ok (.ireturn, 1) := by decide +kernel
theorem dX5_readFlag_134 : decode cX5_readFlag 134 = .ok (.iconst 0, 1) := by decide +kernel
theorem dX5_readFlag_135 : decode cX5_readFlag 135 = .ok (.ireturn, 1) := by decide +kernel
theorem dX5_readLaw_0 : decode cX5_readLaw 0 = .ok (.aload_n 0, 1) := by decide +kernel
theorem dX5_readLaw_1 : decode cX5_readLaw 1 = .ok (.getfield 22, 3) := by decide +kernel
theorem dX5_readLaw_4 : decode cX5_readLaw 4 = .ok (.bipush 20, 2) := by decide +kernel
theorem dX5_readLaw_6 : decode cX5_readLaw 6 = .ok (.if_icmp .ne 7, 3) := by decide +kernel
theorem dX5_readLaw_9 : decode cX5_readLaw 9 = .ok (.iconst 1, 1) := by decide +kernel
theorem dX5_readLaw_10 : decode cX5_readLaw 10 = .ok (.goto 4, 3) := by decide +kernel
theorem dX5_readLaw_13 : decode cX5_readLaw 13 = .ok (.iconst 0, 1) := by decide +kernel
theorem dX5_readLaw_14 : decode cX5_readLaw 14 = .ok (.istore_n 3, 1) := by decide +kernel
theorem dX5_readLaw_15 : decode cX5_readLaw 15 = .ok (.aload_n 0, 1) := by decide +kernel
theorem dX5_readLaw_16 : decode cX5_readLaw 16 = .ok (.invokevirtual 52, 3) := by decide +kernel
theorem dX5_readLaw_19 : decode cX5_readLaw 19 = .ok (.aload_n 0, 1) := by decide +kernel
theorem dX5_readLaw_20 : decode cX5_readLaw 20 = .ok (.bipush 58, 2) := by decide +kernel
theorem dX5_readLaw_22 : decode cX5_readLaw 22 = .ok (.invokevirtual 55, 3) := by decide +kernel
theorem dX5_readLaw_25 : decode cX5_readLaw 25 = .ok (.aload_n 0, 1) := by decide +kernel
theorem dX5_readLaw_26 : decode cX5_readLaw 26 = .ok (.iconst 0, 1) := by decide +kernel
theorem dX5_readLaw_27 : decode cX5_readLaw 27 = .ok (.putfield 42, 3) := by decide +kernel
theorem dX5_readLaw_30 : decode cX5_readLaw 30 = .ok (.aload_n 0, 1) := by decide +kernel
theorem dX5_readLaw_31 : decode cX5_readLaw 31 = .ok (.iload_n 1, 1) := by decide +kernel
theorem dX5_readLaw_32 : decode cX5_readLaw 32 = .ok (.putfield 45, 3) := by decide +kernel
theorem dX5_readLaw_35 : decode cX5_readLaw 35 = .ok (.iload_n 3, 1) := by decide +kernel
theorem dX5_readLaw_36 : decode cX5_readLaw 36 = .ok (.ifCond .eq 11, 3) := by decide +kernel
theorem dX5_readLaw_39 : decode cX5_readLaw 39 = .ok (.aload_n 0, 1) := by decide +kernel
theorem dX5_readLaw_40 : decode cX5_readLaw 40 = .ok (.iconst 0, 1) := by decide +kernel
theorem dX5_readLaw_41 : decode cX5_readLaw 41 = .ok (.invokevirtual 130, 3) := by decide +kernel
theorem dX5_readLaw_44 : decode cX5_readLaw 44 = .ok (.goto 8, 3) := by decide +kernel
theorem dX5_readLaw_47 : decode cX5_readLaw 47 = .ok (.aload_n 0, 1) := by decide +kernel
theorem dX5_readLaw_48 : decode cX5_readLaw 48 = .ok (.iconst 0, 1) := by decide +kernel
theorem dX5_readLaw_49 : decode cX5_readLaw 49 = .ok (.invokevirtual 133, 3) := by decide +kernel
theorem dX5_readLaw_52 : decode cX5_readLaw 52 = .ok (.aload_n 0, 1) := by decide +kernel
theorem dX5_readLaw_53 : decode cX5_readLaw 53 = .ok (.getfield 25, 3) := by decide +kernel
theorem dX5_readLaw_56 : decode cX5_readLaw 56 = .ok (.ifCond .eq 7, 3) := by decide +kernel
theorem dX5_readLaw_59 : decode cX5_readLaw 59 = .ok (.aload_n 2, 1) := by decide +kernel
theorem dX5_readLaw_60 : decode cX5_readLaw 60 = .ok (.goto 18, 3) := by decide +kernel
theorem dX5_readLaw_63 : decode cX5_readLaw 63 = .ok (.new 136, 3) := by decide +kernel
theorem dX5_readLaw_66 : decode cX5_readLaw 66 = .ok (.dup, 1) := by decide +kernel
theorem dX5_readLaw_67 : decode cX5_readLaw 67 = .ok (.aload_n 0, 1) := by decide +kernel
theorem dX5_readLaw_68 : decode cX5_readLaw 68 = .ok (.getfield 38, 3) := by decide +kernel
theorem dX5_readLaw_71 : decode cX5_readLaw 71 = .ok (.aload_n 0, 1) := by decide +kernel
theorem dX5_readLaw_72 : decode cX5_readLaw 72 = .ok (.getfield 42, 3) := by decide +kernel
theorem dX5_readLaw_75 : decode cX5_readLaw 75 = .ok (.invokespecial 138, 3) := by decide +kernel
theorem dX5_readLaw_78 : decode cX5_readLaw 78 = .ok (.areturn, 1) := by decide +kernel
theorem dX5_readLine_0 : decode cX5_readLine 0 = .ok (.aload_n 0, 1) := by decide +kernel
theorem dX5_readLine_1 : decode cX5_readLine 1 = .ok (.getfield 22, 3) := by decide +kernel
theorem dX5_readLine_4 : decode cX5_readLine 4 = .ok (.tableswitch 169 8 20 #[147, 169, 169, 169, 169, 68, 169, 169, 169, 169, 75, 99, 123], 68) := by decide +kernel
theorem dX5_readLine_72 : decode cX5_readLine 72 = .ok (.aload_n 0, 1) := by decide +kernel
theorem dX5_readLine_73 : decode cX5_readLine 73 = .ok (.invokevirtual 87, 3) := by decide +kernel
theorem dX5_readLine_76 : decode cX5_readLine 76 = .ok (.goto 102, 3) := by decide +kernel
theorem dX5_readLine_79 : decode cX5_readLine 79 = .ok (.aload_n 0, 1) := by decide +kernel
theorem dX5_readLine_80 : decode cX5_readLine 80 = .ok (.getfield 34, 3) := by decide +kernel
theorem dX5_readLine_83 : decode cX5_readLine 83 = .ok (.aload_n 0, 1) := by decide +kernel
theorem dX5_readLine_84 : decode cX5_readLine 84 = .ok (.sipush 511, 3) := by decide +kernel
theorem dX5_readLine_87 : decode cX5_readLine 87 = .ok (.aload_n 0, 1) := by decide +kernel
theorem dX5_readLine_88 : decode cX5_readLine 88 = .ok (.getfield 34, 3) := by decide +kernel
theorem dX5_readLine_91 : decode cX5_readLine 91 = .ok (.getfield 90, 3) := by decide +kernel
theorem dX5_readLine_94 : decode cX5_readLine 94 = .ok (.invokevirtual 94, 3) := by decide +kernel
theorem dX5_readLine_97 : decode cX5_readLine 97 = .ok (.putfield 90, 3) := by decide +kernel
theorem dX5_readLine_100 : decode cX5_readLine 100 = .ok (.goto 78, 3) := by decide +kernel
theorem dX5_readLine_103 : decode cX5_readLine 103 = .ok (.aload_n 0, 1) := by decide +kernel
theorem dX5_readLine_104 : decode cX5_readLine 104 = .ok (.getfield 34, 3) := by decide +kernel
theorem dX5_readLine_107 : decode cX5_readLine 107 = .ok (.aload_n 0, 1) := by decide +kernel
theorem dX5_readLine_108 : decode cX5_readLine 108 = .ok (.sipush 783, 3) := by decide +kernel
theorem dX5_readLine_111 : decode cX5_readLine 111 = .ok (.aload_n 0, 1) := by decide +kernel
theorem dX5_readLine_112 : decode cX5_readLine 112 = .ok (.getfield 34, 3) := by decide +kernel
theorem dX5_readLine_115 : decode cX5_readLine 115 = .ok (.getfield 98, 3) := by decide +kernel
theorem dX5_readLine_118 : decode cX5_readLine 118 = .ok (.invokevirtual 94, 3) := by decide +kernel
theorem dX5_readLine_121 : decode cX5_readLine 121 = .ok (.putfield 98, 3) := by decide +kernel
theorem dX5_readLine_124 : decode cX5_readLine 124 = .ok (.goto 54, 3) := by decide +kernel
theorem dX5_readLine_127 : decode cX5_readLine 127 = .ok (.aload_n 0, 1) := by decide +kernel
theorem dX5_readLine_128 : decode cX5_readLine 128 = .ok (.getfield 34, 3) := by decide +kernel
theorem dX5_readLine_131 : decode cX5_readLine 131 = .ok (.aload_n 0, 1) := by decide +kernel
theorem dX5_readLine_132 : decode cX5_readLine 132 = .ok (.sipush 1535, 3) := by decide +kernel
theorem dX5_readLine_135 : decode cX5_readLine 135 = .ok (.aload_n 0, 1) := by decide +kernel
theorem dX5_readLine_136 : decode cX5_readLine 136 = .ok (.getfield 34, 3) := by decide +kernel
theorem dX5_readLine_139 : decode cX5_readLine 139 = .ok (.getfield 101, 3) := by decide +kernel
theorem dX5_readLine_142 : decode cX5_readLine 142 = .ok (.invokevirtual 94, 3) := by decide +kernel
theorem dX5_readLine_145 : decode cX5_readLine 145 = .ok (.putfield 101, 3) := by decide +kernel
theorem dX5_readLine_148 : decode cX5_readLine 148 = .ok (.goto 30, 3) := by decide +kernel
theorem dX5_readLine_151 : decode cX5_readLine 151 = .ok (.aload_n 0, 1) := by decide +kernel
theorem dX5_readLine_152 : decode cX5_readLine 152 = .ok (.invokevirtual 52, 3) := by decide +kernel
theorem dX5_readLine_155 : decode cX5_readLine 155 = .ok (.aload_n 0, 1) := by decide +kernel
theorem dX5_readLine_156 : decode cX5_readLine 156 = .ok (.getfield 34, 3) := by decide +kernel
theorem dX5_readLine_159 : decode cX5_readLine 159 = .ok (.aload_n 0, 1) := by decide +kernel
theorem dX5_readLine_160 : decode cX5_readLine 160 = .ok (.iconst 0, 1) := by decide +kernel
theorem dX5_readLine_161 : decode cX5_readLine 161 = .ok (.sipush 999, 3) := by decide +kernel
theorem dX5_readLine_164 : decode cX5_readLine 164 = .ok (.invokevirtual 59, 3) := by decide +kernel
theorem dX5_readLine_167 : decode cX5_readLine 167 = .ok (.putfield 104, 3) := by decide +kernel
theorem dX5_readLine_170 : decode cX5_readLine 170 = .ok (.goto 8, 3) := by decide +kernel
theorem dX5_readLine_173 : decode cX5_readLine 173 = .ok (.aload_n 0, 1) := by decide +kernel
theorem dX5_readLine_174 : decode cX5_readLine 174 = .ok (.iconst 2, 1) := by decide +kernel
theorem dX5_readLine_175 : decode cX5_readLine 175 = .ok (.invokevirtual 81, 3) := by decide +kernel
theorem dX5_readLine_178 : decode cX5_readLine 178 = .ok (.return_, 1) := by decide +kernel
theorem dX5_readPerson_0 : decode cX5_readPerson 0 = .ok (.aload_n 0, 1) := by decide +kernel
theorem dX5_readPerson_1 : decode cX5_readPerson 1 = .ok (.getfield 34, 3) := by decide +kernel
theorem dX5_readPerson_4 : decode cX5_readPerson 4 = .ok (.getfield 107, 3) := by decide +kernel
theorem dX5_readPerson_7 : decode cX5_readPerson 7 = .ok (.istore_n 1, 1) := by decide +kernel
theorem dX5_readPerson_8 : decode cX5_readPerson 8 = .ok (.iload_n 1, 1) := by decide +kernel
theorem dX5_readPerson_9 : decode cX5_readPerson 9 = .ok (.bipush 10, 2) := by decide +kernel
theorem dX5_readPerson_11 : decode cX5_readPerson 11 = .ok (.if_icmp .lt 9, 3) := by decide +kernel
theorem dX5_readPerson_14 : decode cX5_readPerson 14 = .ok (.aload_n 0, 1) := by decide +kernel
theorem dX5_readPerson_15 : decode cX5_readPerson 15 = .ok (.iconst 4, 1) := by decide +kernel
theorem dX5_readPerson_16 : decode cX5_readPerson 16 = .ok (.invokevirtual 81, 3) := by decide +kernel
theorem dX5_readPerson_19 : decode cX5_readPerson 19 = .ok (.return_, 1) := by decide +kernel
theorem dX5_readPerson_20 : decode cX5_readPerson 20 = .ok (.aload_n 0, 1) := by decide +kernel
theorem dX5_readPerson_21 : decode cX5_readPerson 21 = .ok (.invokevirtual 52, 3) := by decide +kernel
theorem dX5_readPerson_24 : decode cX5_readPerson 24 = .ok (.iconst 0, 1) := by decide +kernel
theorem dX5_readPerson_25 : decode cX5_readPerson 25 = .ok (.istore_n 2, 1) := by decide +kernel
theorem dX5_readPerson_26 : decode cX5_readPerson 26 = .ok (.iconst 0, 1) := by decide +kernel
theorem dX5_readPerson_27 : decode cX5_readPerson 27 = .ok (.istore_n 3, 1) := by decide +kernel
theorem dX5_readPerson_28 : decode cX5_readPerson 28 = .ok (.iload_n 3, 1) := by decide +kernel
theorem dX5_readPerson_29 : decode cX5_readPerson 29 = .ok (.iconst 3, 1) := by decide +kernel
theorem dX5_readPerson_30 : decode cX5_readPerson 30 = .ok (.if_icmp .ge 37, 3) := by decide +kernel
theorem dX5_readPerson_33 : decode cX5_readPerson 33 = .ok (.bipush 10, 2) := by decide +kernel
theorem dX5_readPerson_35 : decode cX5_readPerson 35 = .ok (.iload_n 2, 1) := by decide +kernel
theorem dX5_readPerson_36 : decode cX5_readPerson 36 = .ok (.imul, 1) := by decide +kernel
theorem dX5_readPerson_37 : decode cX5_readPerson 37 = .ok (.iload_n 3, 1) := by decide +kernel
theorem dX5_readPerson_38 : decode cX5_readPerson 38 = .ok (.aload_n 0, 1) := by decide +kernel
theorem dX5_readPerson_39 : decode cX5_readPerson 39 = .ok (.getfield 34, 3) := by decide +kernel
theorem dX5_readPerson_42 : decode cX5_readPerson 42 = .ok (.getfield 63, 3) := by decide +kernel
theorem dX5_readPerson_45 : decode cX5_readPerson 45 = .ok (.if_icmp .ge 13, 3) := by decide +kernel
theorem dX5_readPerson_48 : decode cX5_readPerson 48 = .ok (.aload_n 0, 1) := by decide +kernel
theorem dX5_readPerson_49 : decode cX5_readPerson 49 = .ok (.iconst 0, 1) := by decide +kernel
theorem dX5_readPerson_50 : decode cX5_readPerson 50 = .ok (.bipush 9, 2) := by decide +kernel
theorem dX5_readPerson_52 : decode cX5_readPerson 52 = .ok (.invokevirtual 59, 3) := by decide +kernel
theorem dX5_readPerson_55 : decode cX5_readPerson 55 = .ok (.goto 4, 3) := by decide +kernel
theorem dX5_readPerson_58 : decode cX5_readPerson 58 = .ok (.iconst 0, 1) := by decide +kernel
theorem dX5_readPerson_59 : decode cX5_readPerson 59 = .ok (.iadd, 1) := by decide +kernel
theorem dX5_readPerson_60 : decode cX5_readPerson 60 = .ok (.istore_n 2, 1) := by decide +kernel
theorem dX5_readPerson_61 : decode cX5_readPerson 61 = .ok (.iinc 3 1, 3) := by decide +kernel
theorem dX5_readPerson_64 : decode cX5_readPerson 64 = .ok (.goto (-36), 3) := by decide +kernel
theorem dX5_readPerson_67 : decode cX5_readPerson 67 = .ok (.aload_n 0, 1) := by decide +kernel
theorem dX5_readPerson_68 : decode cX5_readPerson 68 = .ok (.getfield 34, 3) := by decide +kernel
theorem dX5_readPerson_71 : decode cX5_readPerson 71 = .ok (.getfield 110, 3) := by decide +kernel
theorem dX5_readPerson_74 : decode cX5_readPerson 74 = .ok (.iload_n 1, 1) := by decide +kernel
theorem dX5_readPerson_75 : decode cX5_readPerson 75 = .ok (.iload_n 2, 1) := by decide +kernel
theorem dX5_readPerson_76 : decode cX5_readPerson 76 = .ok (.iastore, 1) := by decide +kernel
theorem dX5_readPerson_77 : decode cX5_readPerson 77 = .ok (.aload_n 0, 1) := by decide +kernel
theorem dX5_readPerson_78 : decode cX5_readPerson 78 = .ok (.getfield 34, 3) := by decide +kernel
theorem dX5_readPerson_81 : decode cX5_readPerson 81 = .ok (.getfield 113, 3) := by decide +kernel
theorem dX5_readPerson_84 : decode cX5_readPerson 84 = .ok (.iload_n 1, 1) := by decide +kernel
theorem dX5_readPerson_85 : decode cX5_readPerson 85 = .ok (.iconst 0, 1) := by decide +kernel
theorem dX5_readPerson_86 : decode cX5_readPerson 86 = .ok (.iastore, 1) := by decide +kernel
theorem dX5_readPerson_87 : decode cX5_readPerson 87 = .ok (.aload_n 0, 1) := by decide +kernel
theorem dX5_readPerson_88 : decode cX5_readPerson 88 = .ok (.getfield 34, 3) := by decide +kernel
theorem dX5_readPerson_91 : decode cX5_readPerson 91 = .ok (.getfield 116, 3) := by decide +kernel
theorem dX5_readPerson_94 : decode cX5_readPerson 94 = .ok (.iload_n 1, 1) := by decide +kernel
theorem dX5_readPerson_95 : decode cX5_readPerson 95 = .ok (.ldc 119, 2) := by decide +kernel
theorem dX5_readPerson_97 : decode cX5_readPerson 97 = .ok (.iastore, 1) := by decide +kernel
theorem dX5_readPerson_98 : decode cX5_readPerson 98 = .ok (.aload_n 0, 1) := by decide +kernel
theorem dX5_readPerson_99 : decode cX5_readPerson 99 = .ok (.getfield 34, 3) := by decide +kernel
theorem dX5_readPerson_102 : decode cX5_readPerson 102 = .ok (.getfield 120, 3) := by decide +kernel
theorem dX5_readPerson_105 : decode cX5_readPerson 105 = .ok (.iload_n 1, 1) := by decide +kernel
theorem dX5_readPerson_106 : decode cX5_readPerson 106 = .ok (.bipush 10, 2) := by decide +kernel
theorem dX5_readPerson_108 : decode cX5_readPerson 108 = .ok (.iastore, 1) := by decide +kernel
theorem dX5_readPerson_109 : decode cX5_readPerson 109 = .ok (.aload_n 0, 1) := by decide +kernel
theorem dX5_readPerson_110 : decode cX5_readPerson 110 = .ok (.getfield 34, 3) := by decide +kernel
theorem dX5_readPerson_113 : decode cX5_readPerson 113 = .ok (.getfield 123, 3) := by decide +kernel
theorem dX5_readPerson_116 : decode cX5_readPerson 116 = .ok (.iload_n 1, 1) := by decide +kernel
theorem dX5_readPerson_117 : decode cX5_readPerson 117 = .ok (.iconst 1, 1) := by decide +kernel
theorem dX5_readPerson_118 : decode cX5_readPerson 118 = .ok (.iastore, 1) := by decide +kernel
theorem dX5_readPerson_119 : decode cX5_readPerson 119 = .ok (.iconst 1, 1) := by decide +kernel
theorem dX5_readPerson_120 : decode cX5_readPerson 120 = .ok (.istore_n 3, 1) := by decide +kernel
theorem dX5_readPerson_121 : decode cX5_readPerson 121 = .ok (.iconst 0, 1) := by decide +kernel
theorem dX5_readPerson_122 : decode cX5_readPerson 122 = .ok (.istore 4, 2) := by decide +kernel
theorem dX5_readPerson_124 : decode cX5_readPerson 124 = .ok (.iload 4, 2) := by decide +kernel
theorem dX5_readPerson_126 : decode cX5_readPerson 126 = .ok (.aload_n 0, 1) := by decide +kernel
theorem dX5_readPerson_127 : decode cX5_readPerson 127 = .ok (.getfield 12, 3) := by decide +kernel
theorem dX5_readPerson_130 : decode cX5_readPerson 130 = .ok (.getfield 69, 3) := by decide +kernel
theorem dX5_readPerson_133 : decode cX5_readPerson 133 = .ok (.if_icmp .ge 19, 3) := by decide +kernel
theorem dX5_readPerson_136 : decode cX5_readPerson 136 = .ok (.iload_n 3, 1) := by decide +kernel
theorem dX5_readPerson_137 : decode cX5_readPerson 137 = .ok (.ifCond .eq 15, 3) := by decide +kernel
theorem dX5_readPerson_140 : decode cX5_readPerson 140 = .ok (.aload_n 0, 1) := by decide +kernel
theorem dX5_readPerson_141 : decode cX5_readPerson 141 = .ok (.iload_n 1, 1) := by decide +kernel
theorem dX5_readPerson_142 : decode cX5_readPerson 142 = .ok (.invokevirtual 126, 3) := by decide +kernel
theorem dX5_readPerson_145 : decode cX5_readPerson 145 = .ok (.istore_n 3, 1) := by decide +kernel
theorem dX5_readPerson_146 : decode cX5_readPerson 146 = .ok (.iinc 4 1, 3) := by decide +kernel
theorem dX5_readPerson_149 : decode cX5_readPerson 149 = .ok (.goto (-25), 3) := by decide +kernel
theorem dX5_readPerson_152 : decode cX5_readPerson 152 = .ok (.aload_n 0, 1) := by decide +kernel
theorem dX5_readPerson_153 : decode cX5_readPerson 153 = .ok (.getfield 34, 3) := by decide +kernel
theorem dX5_readPerson_156 : decode cX5_readPerson 156 = .ok (.dup, 1) := by decide +kernel
theorem dX5_readPerson_157 : decode cX5_readPerson 157 = .ok (.getfield 107, 3) := by decide +kernel
theorem dX5_readPerson_160 : decode cX5_readPerson 160 = .ok (.iconst 1, 1) := by decide +kernel
theorem dX5_readPerson_161 : decode cX5_readPerson 161 = .ok (.iadd, 1) := by decide +kernel
theorem dX5_readPerson_162 : decode cX5_readPerson 162 = .ok (.putfield 107, 3) := by decide +kernel
theorem dX5_readPerson_165 : decode cX5_readPerson 165 = .ok (.return_, 1) := by decide +kernel
set_option maxHeartbeats 4000000 in
set_option maxRecDepth 100000 in
theorem gX5_takeNumber_6ae0c88 (l : Launch) (D : va_G) (cy : Nat → ClassId) (h0 : Nat) (h1 : Nat) (h2 : Nat) (h3 : Nat) (h4 : Nat) (p0 : Int32) (p1 : Int32) (p2 : Int32) (p3 : Int32) (w0 : Value) (w1 : Value) (p4 : Int32) (p5 : Int32) (w2 : Value) (p6 : Int32) (p7 : Int32) (f0 : Nat → Int32) (f1 : Nat → Int32) (f2 : Nat → Int32) (hp0 : (-1) ≤ (p0).toInt ∧ (p0).toInt ≤ 900) (hp1 : (-2147483648) ≤ (p1).toInt ∧ (p1).toInt ≤ 2147483647) (hp2 : (-2147483648) ≤ (p2).toInt ∧ (p2).toInt ≤ 2147483647) (hp3 : (-2147483648) ≤ (p3).toInt ∧ (p3).toInt ≤ 2147483647) (hp4 : 0 ≤ (p4).toInt ∧ (p4).toInt ≤ 900) (hp5 : (-2147483648) ≤ (p5).toInt ∧ (p5).toInt ≤ 2147483647) (hp6 : 0 ≤ (p6).toInt ∧ (p6).toInt ≤ 900) (hp7 : 0 ≤ (p7).toInt ∧ (p7).toInt ≤ 901) (hpre0 : KZ f0 (p7 : Int32).toInt) (hpre1 : 0 ≤ (p0 : Int32).toInt ∧ (p0 : Int32).toInt < (p7 : Int32).toInt) (hpre2 : (p2 : Int32).toInt ≠ 0 ∨ (p1 : Int32).toInt = 26 ∨ (p1 : Int32).toInt = 27 ∨ (p0 : Int32).toInt + 1 < (p7 : Int32).toInt) (hpre3 : (p2 : Int32).toInt = 0 ∨ (p1 : Int32).toInt = 27) (sz : Nat) : MI l yX5_takeNumber cX5_takeNumber 4 .int { frames := 1, cells := 0, slots := 0, locals := 21 } [.ref h0, .int 0, .int 10] D cy (wk_aa6ee0650 cy h0 h1 p0 p1 p2 p3 w0 w1 p4 p5 h1 w2 p6 p7 h2 h3 h4 h2 f0 h3 f1 h4 f2) sz (fun r u => (0 ≤ r.toInt ∧ r.toInt ≤ 10) ∧ ((-2147483648) ≤ (u.2.1 0 0).toInt ∧ (u.2.1 0 0).toInt ≤ 2147483647) ∧ ((-2147483648) ≤ (u.2.1 1 0).toInt ∧ (u.2.1 1 0).toInt ≤ 2147483647) ∧ ((-2147483648) ≤ (u.2.1 2 0).toInt ∧ (u.2.1 2 0).toInt ≤ 2147483647) ∧ ((-1) ≤ (u.2.1 3 0).toInt ∧ (u.2.1 3 0).toInt ≤ 900) ∧ (0 ≤ ((u.2.1 3 0) : Int32).toInt ∧ ((u.2.1 3 0) : Int32).toInt < (p7 : Int32).toInt) ∧ (((u.2.1 1 0) : Int32).toInt ≠ 0 ∨ ((u.2.1 0 0) : Int32).toInt = 26 ∨ ((u.2.1 0 0) : Int32).toInt = 27 ∨ ((u.2.1 3 0) : Int32).toInt + 1 < (p7 : Int32).toInt) ∧ (((u.2.1 1 0) : Int32).toInt ≠ 0 ∨ ((u.2.1 3 0) : Int32).toInt = (p0 : Int32).toInt + 1) ∧ (((u.2.1 1 0) : Int32).toInt ≠ 0 ∨ (p2 : Int32).toInt = 0) ∧ (((u.2.1 1 0) : Int32).toInt = 0 ∨ ((u.2.1 0 0) : Int32).toInt = 27) ∧ ((p0 : Int32).toInt ≤ ((u.2.1 3 0) : Int32).toInt) ∧ (SIM f0 f1 f2 (p7 : Int32).toInt (num 0 10) (p0 : Int32).toInt (p1 : Int32).toInt (p2 : Int32).toInt (p3 : Int32).toInt ((u.2.1 3 0) : Int32).toInt ((u.2.1 0 0) : Int32).toInt ((u.2.1 1 0) : Int32).toInt ((u.2.1 2 0) : Int32).toInt) ∧ (NMP ((u.2.1 1 0) : Int32).toInt (p1 : Int32).toInt (r : Int32).toInt (f2 ((p0 : Int32).toInt).toNat).toInt) ∧ True) (fun u => (wk_aa6ee0650 cy h0 h1 (u.2.1 3 0) (u.2.1 0 0) (u.2.1 1 0) (u.2.1 2 0) w0 w1 p4 p5 h1 w2 p6 p7 h2 h3 h4 h2 f0 h3 f1 h4 f2)) 0 0 := by
  refine q_ent (own := RX5) (by decide) rfl (Nat.le_of_ble_eq_true rfl) (fun p e s m below meth c ls X hr hlk hnm hK hT h hA hl => ?_)
  obtain ⟨hx, hb, hml, hown, ht⟩ := id X
  replace hl : lv_has ls 4 [(0, .ref h0), (1, .int 0), (2, .int 10)] := hl
  refine lv_aload_n hx hb dX5_takeNumber_0 rfl (lv_at hl 0 rfl) ?_
  refine q_get X hK h 0 rfl rfl wf_5 2 (by decide) rfl wm_1_146 dX5_takeNumber_1 ?_
  refine lv_bipush (v := 25) hx hb dX5_takeNumber_4 (by decide) ?_
  refine lv_icmp_eq (tgt := 16) hx hb dX5_takeNumber_6 (by decide) (fun c_1 => ?_) (fun c_1 => ?_)
  · replace c_1 := i_eq (x := p1) (y := 25) rfl (show (25 : Int32).toInt = 25 by decide) c_1
    refine lv_aload_n hx hb dX5_takeNumber_16 rfl (lv_at hl 0 rfl) ?_
    refine q_get X hK h 0 rfl rfl wf_5 0 (by decide) rfl wm_1_144 dX5_takeNumber_17 ?_
    refine q_get X hK h 1 rfl rfl wf_8 5 (by decide) rfl wm_1_52 dX5_takeNumber_20 ?_
    refine lv_aload_n hx hb dX5_takeNumber_23 rfl (lv_at hl 0 rfl) ?_
    refine q_get X hK h 0 rfl rfl wf_5 1 (by decide) rfl wm_1_145 dX5_takeNumber_24 ?_
    refine q_iald X hK h 4 rfl (i_in rfl (by omega) (by omega)) dX5_takeNumber_27 ?_
    obtain ⟨z_2, ez_2, hz_2⟩ := e_any (f2 p0.toNatClampNeg)
    refine q_c z_2 ez_2 ?_
    refine lv_istore_n (lv' := [(3, .int z_2), (0, .ref h0), (1, .int 0), (2, .int 10)]) hx hb dX5_takeNumber_28 rfl hl (by decide) rfl (fun ls_3 hl_3 => ?_)
    clear hl
    refine lv_iload_n hx hb dX5_takeNumber_29 rfl (lv_at hl_3 0 rfl) ?_
    refine lv_iload_n hx hb dX5_takeNumber_30 rfl (lv_at hl_3 2 rfl) ?_
    refine lv_icmp_lt (tgt := 39) hx hb dX5_takeNumber_31 (by decide) (fun c_4 => ?_) (fun c_4 => ?_)
    · replace c_4 := i_lt (x := z_2) (y := 0) rfl (show (0 : Int32).toInt = 0 by decide) c_4
      refine lv_aload_n hx hb dX5_takeNumber_39 rfl (lv_at hl_3 1 rfl) ?_
      refine lv_iconst (v := 3) hx hb dX5_takeNumber_40 (by decide) ?_
      refine q_callVv (rest := []) (wr := (wk_5f0ef36a6 cy h2 f0 h4 f2)) X hK hT hA h (fun sz => gX5_refuse_3ecba60 l D cy h0 h1 h3 p0 p1 p2 p3 w0 w1 p4 p5 w2 p6 p7 (.ref h2) (.ref h4) f1 hp0 (i_rng _) (i_rng _) (i_rng _) hp4 (i_rng _) hp6 hp7 (hpre1) (hpre3) (by have q0 : (3 : Int32).toInt = 3 := (by decide); (first | (clear hpre2 hpre3; omega) | omega)) sz) wm_3_76 wm_3_79 wm_1_2 hd_X5_refuse wm_3_78 wp_1_10 (ci := 5) (q0 := 0) rfl rfl ⟨Nat.le_of_ble_eq_true rfl, Nat.le_of_ble_eq_true rfl⟩ hl_3.1 rfl (Nat.le_of_ble_eq_true rfl) dX5_takeNumber_41 ⟨Nat.le_of_ble_eq_true rfl, Nat.le_of_ble_eq_true rfl⟩ [0, 1, 3] [2, 4] rfl rfl (by decide) rfl rfl (fun u_5 H locs w_5 h_5 => ?_)
      clear h
      obtain ⟨w5_0, w5_1, w5_2, y5_0, y5_1, y5_2, _⟩ := w_5
      have lq_5_1 : (3 : Int32).toInt = 3 := (by decide)
      replace h_5 : qW D _ _ (wk_1a85a4215 cy h2 f0 h4 f2 h0 h1 p0 (u_5.2.1 0 0) (u_5.2.1 1 0) (u_5.2.1 2 0) w0 w1 p4 p5 h1 w2 p6 p7 h2 h3 h4 h3 f1) _ _ := h_5
      refine lv_iload_n hx hb dX5_takeNumber_44 rfl (lv_at hl_3 2 rfl) ?_
      exact q_iret X hr hlk hK h_5 rfl (fun _ => 0, (vcons (fun _ => (u_5.2.1 0 0)) (vcons (fun _ => (u_5.2.1 1 0)) (vcons (fun _ => (u_5.2.1 2 0)) (vcons (fun _ => p0) (fun _ => (fun _ => 0)))))), fun _ _ => 0) ⟨⟨by decide +kernel, by decide +kernel⟩, w5_0, w5_1, w5_2, hp0, hpre1, (show ((u_5.2.1 1 0) : Int32).toInt ≠ 0 ∨ ((u_5.2.1 0 0) : Int32).toInt = 26 ∨ ((u_5.2.1 0 0) : Int32).toInt = 27 ∨ (p0 : Int32).toInt + 1 < (p7 : Int32).toInt from by (first | (clear hpre2 hpre3 y5_1; omega) | omega)), (show ((u_5.2.1 1 0) : Int32).toInt ≠ 0 ∨ (p0 : Int32).toInt = (p0 : Int32).toInt + 1 from by (first | (clear hpre2 hpre3 y5_1; omega) | omega)), (show ((u_5.2.1 1 0) : Int32).toInt ≠ 0 ∨ (p2 : Int32).toInt = 0 from by (first | (clear hpre2 hpre3 y5_1; omega) | omega)), y5_1, (show (p0 : Int32).toInt ≤ (p0 : Int32).toInt from (Int.le_refl _)), (show SIM f0 f1 f2 (p7 : Int32).toInt (num 0 10) (p0 : Int32).toInt (p1 : Int32).toInt (p2 : Int32).toInt (p3 : Int32).toInt (p0 : Int32).toInt ((u_5.2.1 0 0) : Int32).toInt ((u_5.2.1 1 0) : Int32).toInt ((u_5.2.1 2 0) : Int32).toInt from sim_nm2 (by (first | assumption | (clear hpre2 hpre3 y5_1; omega) | omega)) (by (first | assumption | (clear hpre2 hpre3 y5_1; omega) | omega)) (by (first | assumption | (clear hpre2 hpre3 y5_1; omega) | omega)) (congrArg Int32.toInt ez_2).symm (by (first | assumption | (clear hpre2 hpre3 y5_1; omega) | omega)) (y5_2 _ _)), (show NMP ((u_5.2.1 1 0) : Int32).toInt (p1 : Int32).toInt (0 : Int32).toInt (f2 ((p0 : Int32).toInt).toNat).toInt from Or.inl (by (first | assumption | (clear hpre2 hpre3 y5_1; omega) | omega))), trivial⟩ [2, 3, 0, 4, 1] rfl rfl dX5_takeNumber_45 (Nat.le_of_ble_eq_true rfl) (Nat.le_of_ble_eq_true rfl)
    · replace c_4 := i_nlt (x := z_2) (y := 0) rfl (show (0 : Int32).toInt = 0 by decide) c_4
      refine lv_iload_n hx hb dX5_takeNumber_34 rfl (lv_at hl_3 0 rfl) ?_
      refine lv_iload_n hx hb dX5_takeNumber_35 rfl (lv_at hl_3 3 rfl) ?_
      refine lv_icmp_le (tgt := 46) hx hb dX5_takeNumber_36 (by decide) (fun c_6 => ?_) (fun c_6 => ?_)
      · replace c_6 := i_le (x := z_2) (y := 10) rfl (show (10 : Int32).toInt = 10 by decide) c_6
        refine lv_aload_n hx hb dX5_takeNumber_46 rfl (lv_at hl_3 1 rfl) ?_
        refine q_callVv (rest := []) (wr := [(h4, .inl (cy 1, 901, .inl f2))]) X hK hT hA h (fun sz => gX5_advance_9820dfe l D cy h0 h1 h2 h3 p0 p1 p2 p3 w0 w1 p4 p5 w2 p6 p7 (.ref h4) f0 f1 hp0 (i_rng _) (i_rng _) (i_rng _) hp4 (i_rng _) hp6 hp7 (hpre0) (hpre3) (by (first | (clear hpre2 hpre3; omega) | omega)) sz) wm_3_68 wm_3_71 wm_1_2 hd_X5_advance wm_3_70 wp_1_8 (ci := 5) (q0 := 0) rfl rfl ⟨Nat.le_of_ble_eq_true rfl, Nat.le_of_ble_eq_true rfl⟩ hl_3.1 rfl (Nat.le_of_ble_eq_true rfl) dX5_takeNumber_47 ⟨Nat.le_of_ble_eq_true rfl, Nat.le_of_ble_eq_true rfl⟩ [0, 1, 2, 3] [4] rfl rfl (by decide) rfl rfl (fun u_7 H locs w_7 h_7 => ?_)
        clear h
        obtain ⟨w7_0, w7_1, w7_2, w7_3, y7_0, y7_1, y7_2, y7_3, y7_4, y7_5, y7_6, _⟩ := w_7
        replace h_7 : qW D _ _ (wk_84183f5c8 cy h4 f2 h0 h1 (u_7.2.1 0 0) (u_7.2.1 1 0) (u_7.2.1 2 0) (u_7.2.1 3 0) w0 w1 p4 p5 h1 w2 p6 p7 h2 h3 h4 h2 f0 h3 f1) _ _ := h_7
        refine lv_iload_n hx hb dX5_takeNumber_50 rfl (lv_at hl_3 0 rfl) ?_
        exact q_iret X hr hlk hK h_7 rfl (fun _ => 0, (vcons (fun _ => (u_7.2.1 1 0)) (vcons (fun _ => (u_7.2.1 2 0)) (vcons (fun _ => (u_7.2.1 3 0)) (vcons (fun _ => (u_7.2.1 0 0)) (fun _ => (fun _ => 0)))))), fun _ _ => 0) ⟨⟨by omega, by omega⟩, w7_1, w7_2, w7_3, w7_0, y7_0, (show ((u_7.2.1 2 0) : Int32).toInt ≠ 0 ∨ ((u_7.2.1 1 0) : Int32).toInt = 26 ∨ ((u_7.2.1 1 0) : Int32).toInt = 27 ∨ ((u_7.2.1 0 0) : Int32).toInt + 1 < (p7 : Int32).toInt from by (first | (clear hpre2 hpre3 y7_1 y7_2 y7_4 y7_5; omega) | omega)), (show ((u_7.2.1 2 0) : Int32).toInt ≠ 0 ∨ ((u_7.2.1 0 0) : Int32).toInt = (p0 : Int32).toInt + 1 from by (first | (clear hpre2 hpre3 y7_1 y7_2 y7_4 y7_5; omega) | omega)), y7_2, y7_5, y7_3, (show SIM f0 f1 f2 (p7 : Int32).toInt (num 0 10) (p0 : Int32).toInt (p1 : Int32).toInt (p2 : Int32).toInt (p3 : Int32).toInt ((u_7.2.1 0 0) : Int32).toInt ((u_7.2.1 1 0) : Int32).toInt ((u_7.2.1 2 0) : Int32).toInt ((u_7.2.1 3 0) : Int32).toInt from sim_nm3 (by (first | assumption | (clear hpre2 hpre3 y7_1 y7_2 y7_4 y7_5; omega) | omega)) (by (first | assumption | (clear hpre2 hpre3 y7_1 y7_2 y7_4 y7_5; omega) | omega)) (by (first | assumption | (clear hpre2 hpre3 y7_1 y7_2 y7_4 y7_5; omega) | omega)) (congrArg Int32.toInt ez_2).symm (by (first | assumption | (clear hpre2 hpre3 y7_1 y7_2 y7_4 y7_5; omega) | omega)) y7_6 (by (first | assumption | (clear hpre2 hpre3 y7_1 y7_2 y7_4 y7_5; omega) | omega))), (show NMP ((u_7.2.1 2 0) : Int32).toInt (p1 : Int32).toInt (z_2 : Int32).toInt (f2 ((p0 : Int32).toInt).toNat).toInt from Or.inr ⟨(by (first | assumption | (clear hpre2 hpre3 y7_1 y7_2 y7_4 y7_5; omega) | omega)), (congrArg Int32.toInt ez_2).symm⟩), trivial⟩ [1, 2, 3, 4, 0] rfl rfl dX5_takeNumber_51 (Nat.le_of_ble_eq_true rfl) (Nat.le_of_ble_eq_true rfl)
      · replace c_6 := i_nle (x := z_2) (y := 10) rfl (show (10 : Int32).toInt = 10 by decide) c_6
        refine lv_aload_n hx hb dX5_takeNumber_39 rfl (lv_at hl_3 1 rfl) ?_
        refine lv_iconst (v := 3) hx hb dX5_takeNumber_40 (by decide) ?_
        refine q_callVv (rest := []) (wr := (wk_5f0ef36a6 cy h2 f0 h4 f2)) X hK hT hA h (fun sz => gX5_refuse_3ecba60 l D cy h0 h1 h3 p0 p1 p2 p3 w0 w1 p4 p5 w2 p6 p7 (.ref h2) (.ref h4) f1 hp0 (i_rng _) (i_rng _) (i_rng _) hp4 (i_rng _) hp6 hp7 (hpre1) (hpre3) (by have q0 : (3 : Int32).toInt = 3 := (by decide); (first | (clear hpre2 hpre3; omega) | omega)) sz) wm_3_76 wm_3_79 wm_1_2 hd_X5_refuse wm_3_78 wp_1_10 (ci := 5) (q0 := 0) rfl rfl ⟨Nat.le_of_ble_eq_true rfl, Nat.le_of_ble_eq_true rfl⟩ hl_3.1 rfl (Nat.le_of_ble_eq_true rfl) dX5_takeNumber_41 ⟨Nat.le_of_ble_eq_true rfl, Nat.le_of_ble_eq_true rfl⟩ [0, 1, 3] [2, 4] rfl rfl (by decide) rfl rfl (fun u_8 H locs w_8 h_8 => ?_)
        clear h
        obtain ⟨w8_0, w8_1, w8_2, y8_0, y8_1, y8_2, _⟩ := w_8
        have lq_8_1 : (3 : Int32).toInt = 3 := (by decide)
        replace h_8 : qW D _ _ (wk_1a85a4215 cy h2 f0 h4 f2 h0 h1 p0 (u_8.2.1 0 0) (u_8.2.1 1 0) (u_8.2.1 2 0) w0 w1 p4 p5 h1 w2 p6 p7 h2 h3 h4 h3 f1) _ _ := h_8
        refine lv_iload_n hx hb dX5_takeNumber_44 rfl (lv_at hl_3 2 rfl) ?_
        exact q_iret X hr hlk hK h_8 rfl (fun _ => 0, (vcons (fun _ => (u_8.2.1 0 0)) (vcons (fun _ => (u_8.2.1 1 0)) (vcons (fun _ => (u_8.2.1 2 0)) (vcons (fun _ => p0) (fun _ => (fun _ => 0)))))), fun _ _ => 0) ⟨⟨by decide +kernel, by decide +kernel⟩, w8_0, w8_1, w8_2, hp0, hpre1, (show ((u_8.2.1 1 0) : Int32).toInt ≠ 0 ∨ ((u_8.2.1 0 0) : Int32).toInt = 26 ∨ ((u_8.2.1 0 0) : Int32).toInt = 27 ∨ (p0 : Int32).toInt + 1 < (p7 : Int32).toInt from by (first | (clear hpre2 hpre3 y8_1; omega) | omega)), (show ((u_8.2.1 1 0) : Int32).toInt ≠ 0 ∨ (p0 : Int32).toInt = (p0 : Int32).toInt + 1 from by (first | (clear hpre2 hpre3 y8_1; omega) | omega)), (show ((u_8.2.1 1 0) : Int32).toInt ≠ 0 ∨ (p2 : Int32).toInt = 0 from by (first | (clear hpre2 hpre3 y8_1; omega) | omega)), y8_1, (show (p0 : Int32).toInt ≤ (p0 : Int32).toInt from (Int.le_refl _)), (show SIM f0 f1 f2 (p7 : Int32).toInt (num 0 10) (p0 : Int32).toInt (p1 : Int32).toInt (p2 : Int32).toInt (p3 : Int32).toInt (p0 : Int32).toInt ((u_8.2.1 0 0) : Int32).toInt ((u_8.2.1 1 0) : Int32).toInt ((u_8.2.1 2 0) : Int32).toInt from sim_nm2 (by (first | assumption | (clear hpre2 hpre3 y8_1; omega) | omega)) (by (first | assumption | (clear hpre2 hpre3 y8_1; omega) | omega)) (by (first | assumption | (clear hpre2 hpre3 y8_1; omega) | omega)) (congrArg Int32.toInt ez_2).symm (by (first | assumption | (clear hpre2 hpre3 y8_1; omega) | omega)) (y8_2 _ _)), (show NMP ((u_8.2.1 1 0) : Int32).toInt (p1 : Int32).toInt (0 : Int32).toInt (f2 ((p0 : Int32).toInt).toNat).toInt from Or.inl (by (first | assumption | (clear hpre2 hpre3 y8_1; omega) | omega))), trivial⟩ [2, 3, 0, 4, 1] rfl rfl dX5_takeNumber_45 (Nat.le_of_ble_eq_true rfl) (Nat.le_of_ble_eq_true rfl)
  · replace c_1 := i_ne (x := p1) (y := 25) rfl (show (25 : Int32).toInt = 25 by decide) c_1
    refine lv_aload_n hx hb dX5_takeNumber_9 rfl (lv_at hl 0 rfl) ?_
    refine lv_iconst (v := 2) hx hb dX5_takeNumber_10 (by decide) ?_
    refine q_callVv (rest := []) (wr := (wk_5f0ef36a6 cy h2 f0 h4 f2)) X hK hT hA h (fun sz => gX5_refuse_067fcff l D cy h0 h1 h3 p0 p1 p2 p3 w0 w1 p4 p5 w2 p6 p7 (.ref h2) (.ref h4) f1 hp0 (i_rng _) (i_rng _) (i_rng _) hp4 (i_rng _) hp6 hp7 (hpre1) (hpre3) (by have q0 : (2 : Int32).toInt = 2 := (by decide); (first | (clear hpre2 hpre3; omega) | omega)) sz) wm_3_76 wm_3_79 wm_1_2 hd_X5_refuse wm_3_78 wp_1_10 (ci := 5) (q0 := 0) rfl rfl ⟨Nat.le_of_ble_eq_true rfl, Nat.le_of_ble_eq_true rfl⟩ hl.1 rfl (Nat.le_of_ble_eq_true rfl) dX5_takeNumber_11 ⟨Nat.le_of_ble_eq_true rfl, Nat.le_of_ble_eq_true rfl⟩ [0, 1, 3] [2, 4] rfl rfl (by decide) rfl rfl (fun u_9 H locs w_9 h_9 => ?_)
    clear h
    obtain ⟨w9_0, w9_1, w9_2, y9_0, y9_1, y9_2, _⟩ := w_9
    have lq_9_1 : (2 : Int32).toInt = 2 := (by decide)
    replace h_9 : qW D _ _ (wk_1a85a4215 cy h2 f0 h4 f2 h0 h1 p0 (u_9.2.1 0 0) (u_9.2.1 1 0) (u_9.2.1 2 0) w0 w1 p4 p5 h1 w2 p6 p7 h2 h3 h4 h3 f1) _ _ := h_9
    refine lv_iload_n hx hb dX5_takeNumber_14 rfl (lv_at hl 1 rfl) ?_
    exact q_iret X hr hlk hK h_9 rfl (fun _ => 0, (vcons (fun _ => (u_9.2.1 0 0)) (vcons (fun _ => (u_9.2.1 1 0)) (vcons (fun _ => (u_9.2.1 2 0)) (vcons (fun _ => p0) (fun _ => (fun _ => 0)))))), fun _ _ => 0) ⟨⟨by decide +kernel, by decide +kernel⟩, w9_0, w9_1, w9_2, hp0, hpre1, (show ((u_9.2.1 1 0) : Int32).toInt ≠ 0 ∨ ((u_9.2.1 0 0) : Int32).toInt = 26 ∨ ((u_9.2.1 0 0) : Int32).toInt = 27 ∨ (p0 : Int32).toInt + 1 < (p7 : Int32).toInt from by (first | (clear hpre2 hpre3 y9_1; omega) | omega)), (show ((u_9.2.1 1 0) : Int32).toInt ≠ 0 ∨ (p0 : Int32).toInt = (p0 : Int32).toInt + 1 from by (first | (clear hpre2 hpre3 y9_1; omega) | omega)), (show ((u_9.2.1 1 0) : Int32).toInt ≠ 0 ∨ (p2 : Int32).toInt = 0 from by (first | (clear hpre2 hpre3 y9_1; omega) | omega)), y9_1, (show (p0 : Int32).toInt ≤ (p0 : Int32).toInt from (Int.le_refl _)), (show SIM f0 f1 f2 (p7 : Int32).toInt (num 0 10) (p0 : Int32).toInt (p1 : Int32).toInt (p2 : Int32).toInt (p3 : Int32).toInt (p0 : Int32).toInt ((u_9.2.1 0 0) : Int32).toInt ((u_9.2.1 1 0) : Int32).toInt ((u_9.2.1 2 0) : Int32).toInt from sim_nm1 (by (first | assumption | (clear hpre2 hpre3 y9_1; omega) | omega)) (y9_2 _ _)), (show NMP ((u_9.2.1 1 0) : Int32).toInt (p1 : Int32).toInt (0 : Int32).toInt (f2 ((p0 : Int32).toInt).toNat).toInt from Or.inl (by (first | assumption | (clear hpre2 hpre3 y9_1; omega) | omega))), trivial⟩ [2, 3, 0, 4, 1] rfl rfl dX5_takeNumber_15 (Nat.le_of_ble_eq_true rfl) (Nat.le_of_ble_eq_true rfl)
set_option maxHeartbeats 4000000 in
set_option maxRecDepth 100000 in
theorem gX5_takeNumber_bbeef74 (l : Launch) (D : va_G) (cy : Nat → ClassId) (h0 : Nat) (h1 : Nat) (h2 : Nat) (h3 : Nat) (h4 : Nat) (p0 : Int32) (p1 : Int32) (p2 : Int32) (p3 : Int32) (w0 : Value) (w1 : Value) (p4 : Int32) (p5 : Int32) (w2 : Value) (p6 : Int32) (p7 : Int32) (f0 : Nat → Int32) (f1 : Nat → Int32) (f2 : Nat → Int32) (hp0 : (-1) ≤ (p0).toInt ∧ (p0).toInt ≤ 900) (hp1 : (-2147483648) ≤ (p1).toInt ∧ (p1).toInt ≤ 2147483647) (hp2 : (-2147483648) ≤ (p2).toInt ∧ (p2).toInt ≤ 2147483647) (hp3 : (-2147483648) ≤ (p3).toInt ∧ (p3).toInt ≤ 2147483647) (hp4 : 0 ≤ (p4).toInt ∧ (p4).toInt ≤ 900) (hp5 : (-2147483648) ≤ (p5).toInt ∧ (p5).toInt ≤ 2147483647) (hp6 : 0 ≤ (p6).toInt ∧ (p6).toInt ≤ 900) (hp7 : 0 ≤ (p7).toInt ∧ (p7).toInt ≤ 901) (hpre0 : KZ f0 (p7 : Int32).toInt) (hpre1 : 0 ≤ (p0 : Int32).toInt ∧ (p0 : Int32).toInt < (p7 : Int32).toInt) (hpre2 : (p2 : Int32).toInt ≠ 0 ∨ (p1 : Int32).toInt = 26 ∨ (p1 : Int32).toInt = 27 ∨ (p0 : Int32).toInt + 1 < (p7 : Int32).toInt) (hpre3 : (p2 : Int32).toInt = 0 ∨ (p1 : Int32).toInt = 27) (sz : Nat) : MI l yX5_takeNumber cX5_takeNumber 4 .int { frames := 1, cells := 0, slots := 0, locals := 21 } [.ref h0, .int 1, .int 99] D cy (wk_aa6ee0650 cy h0 h1 p0 p1 p2 p3 w0 w1 p4 p5 h1 w2 p6 p7 h2 h3 h4 h2 f0 h3 f1 h4 f2) sz (fun r u => (1 ≤ r.toInt ∧ r.toInt ≤ 99) ∧ ((-2147483648) ≤ (u.2.1 0 0).toInt ∧ (u.2.1 0 0).toInt ≤ 2147483647) ∧ ((-2147483648) ≤ (u.2.1 1 0).toInt ∧ (u.2.1 1 0).toInt ≤ 2147483647) ∧ ((-2147483648) ≤ (u.2.1 2 0).toInt ∧ (u.2.1 2 0).toInt ≤ 2147483647) ∧ ((-1) ≤ (u.2.1 3 0).toInt ∧ (u.2.1 3 0).toInt ≤ 900) ∧ (0 ≤ ((u.2.1 3 0) : Int32).toInt ∧ ((u.2.1 3 0) : Int32).toInt < (p7 : Int32).toInt) ∧ (((u.2.1 1 0) : Int32).toInt ≠ 0 ∨ ((u.2.1 0 0) : Int32).toInt = 26 ∨ ((u.2.1 0 0) : Int32).toInt = 27 ∨ ((u.2.1 3 0) : Int32).toInt + 1 < (p7 : Int32).toInt) ∧ (((u.2.1 1 0) : Int32).toInt ≠ 0 ∨ ((u.2.1 3 0) : Int32).toInt = (p0 : Int32).toInt + 1) ∧ (((u.2.1 1 0) : Int32).toInt ≠ 0 ∨ (p2 : Int32).toInt = 0) ∧ (((u.2.1 1 0) : Int32).toInt = 0 ∨ ((u.2.1 0 0) : Int32).toInt = 27) ∧ ((p0 : Int32).toInt ≤ ((u.2.1 3 0) : Int32).toInt) ∧ (SIM f0 f1 f2 (p7 : Int32).toInt (num 1 99) (p0 : Int32).toInt (p1 : Int32).toInt (p2 : Int32).toInt (p3 : Int32).toInt ((u.2.1 3 0) : Int32).toInt ((u.2.1 0 0) : Int32).toInt ((u.2.1 1 0) : Int32).toInt ((u.2.1 2 0) : Int32).toInt) ∧ (NMP ((u.2.1 1 0) : Int32).toInt (p1 : Int32).toInt (r : Int32).toInt (f2 ((p0 : Int32).toInt).toNat).toInt) ∧ True) (fun u => (wk_aa6ee0650 cy h0 h1 (u.2.1 3 0) (u.2.1 0 0) (u.2.1 1 0) (u.2.1 2 0) w0 w1 p4 p5 h1 w2 p6 p7 h2 h3 h4 h2 f0 h3 f1 h4 f2)) 0 0 := by
  refine q_ent (own := RX5) (by decide) rfl (Nat.le_of_ble_eq_true rfl) (fun p e s m below meth c ls X hr hlk hnm hK hT h hA hl => ?_)
  obtain ⟨hx, hb, hml, hown, ht⟩ := id X
  replace hl : lv_has ls 4 [(0, .ref h0), (1, .int 1), (2, .int 99)] := hl
  refine lv_aload_n hx hb dX5_takeNumber_0 rfl (lv_at hl 0 rfl) ?_
  refine q_get X hK h 0 rfl rfl wf_5 2 (by decide) rfl wm_1_146 dX5_takeNumber_1 ?_
  refine lv_bipush (v := 25) hx hb dX5_takeNumber_4 (by decide) ?_
  refine lv_icmp_eq (tgt := 16) hx hb dX5_takeNumber_6 (by decide) (fun c_1 => ?_) (fun c_1 => ?_)
  · replace c_1 := i_eq (x := p1) (y := 25) rfl (show (25 : Int32).toInt = 25 by decide) c_1
    refine lv_aload_n hx hb dX5_takeNumber_16 rfl (lv_at hl 0 rfl) ?_
    refine q_get X hK h 0 rfl rfl wf_5 0 (by decide) rfl wm_1_144 dX5_takeNumber_17 ?_
    refine q_get X hK h 1 rfl rfl wf_8 5 (by decide) rfl wm_1_52 dX5_takeNumber_20 ?_
    refine lv_aload_n hx hb dX5_takeNumber_23 rfl (lv_at hl 0 rfl) ?_
    refine q_get X hK h 0 rfl rfl wf_5 1 (by decide) rfl wm_1_145 dX5_takeNumber_24 ?_
    refine q_iald X hK h 4 rfl (i_in rfl (by omega) (by omega)) dX5_takeNumber_27 ?_
    obtain ⟨z_2, ez_2, hz_2⟩ := e_any (f2 p0.toNatClampNeg)
    refine q_c z_2 ez_2 ?_
    refine lv_istore_n (lv' := [(3, .int z_2), (0, .ref h0), (1, .int 1), (2, .int 99)]) hx hb dX5_takeNumber_28 rfl hl (by decide) rfl (fun ls_3 hl_3 => ?_)
    clear hl
    refine lv_iload_n hx hb dX5_takeNumber_29 rfl (lv_at hl_3 0 rfl) ?_
    refine lv_iload_n hx hb dX5_takeNumber_30 rfl (lv_at hl_3 2 rfl) ?_
    refine lv_icmp_lt (tgt := 39) hx hb dX5_takeNumber_31 (by decide) (fun c_4 => ?_) (fun c_4 => ?_)
    · replace c_4 := i_lt (x := z_2) (y := 1) rfl (show (1 : Int32).toInt = 1 by decide) c_4
      refine lv_aload_n hx hb dX5_takeNumber_39 rfl (lv_at hl_3 1 rfl) ?_
      refine lv_iconst (v := 3) hx hb dX5_takeNumber_40 (by decide) ?_
      refine q_callVv (rest := []) (wr := (wk_5f0ef36a6 cy h2 f0 h4 f2)) X hK hT hA h (fun sz => gX5_refuse_3ecba60 l D cy h0 h1 h3 p0 p1 p2 p3 w0 w1 p4 p5 w2 p6 p7 (.ref h2) (.ref h4) f1 hp0 (i_rng _) (i_rng _) (i_rng _) hp4 (i_rng _) hp6 hp7 (hpre1) (hpre3) (by have q0 : (3 : Int32).toInt = 3 := (by decide); (first | (clear hpre2 hpre3; omega) | omega)) sz) wm_3_76 wm_3_79 wm_1_2 hd_X5_refuse wm_3_78 wp_1_10 (ci := 5) (q0 := 0) rfl rfl ⟨Nat.le_of_ble_eq_true rfl, Nat.le_of_ble_eq_true rfl⟩ hl_3.1 rfl (Nat.le_of_ble_eq_true rfl) dX5_takeNumber_41 ⟨Nat.le_of_ble_eq_true rfl, Nat.le_of_ble_eq_true rfl⟩ [0, 1, 3] [2, 4] rfl rfl (by decide) rfl rfl (fun u_5 H locs w_5 h_5 => ?_)
      clear h
      obtain ⟨w5_0, w5_1, w5_2, y5_0, y5_1, y5_2, _⟩ := w_5
      have lq_5_1 : (3 : Int32).toInt = 3 := (by decide)
      replace h_5 : qW D _ _ (wk_1a85a4215 cy h2 f0 h4 f2 h0 h1 p0 (u_5.2.1 0 0) (u_5.2.1 1 0) (u_5.2.1 2 0) w0 w1 p4 p5 h1 w2 p6 p7 h2 h3 h4 h3 f1) _ _ := h_5
      refine lv_iload_n hx hb dX5_takeNumber_44 rfl (lv_at hl_3 2 rfl) ?_
      exact q_iret X hr hlk hK h_5 rfl (fun _ => 0, (vcons (fun _ => (u_5.2.1 0 0)) (vcons (fun _ => (u_5.2.1 1 0)) (vcons (fun _ => (u_5.2.1 2 0)) (vcons (fun _ => p0) (fun _ => (fun _ => 0)))))), fun _ _ => 0) ⟨⟨by decide +kernel, by decide +kernel⟩, w5_0, w5_1, w5_2, hp0, hpre1, (show ((u_5.2.1 1 0) : Int32).toInt ≠ 0 ∨ ((u_5.2.1 0 0) : Int32).toInt = 26 ∨ ((u_5.2.1 0 0) : Int32).toInt = 27 ∨ (p0 : Int32).toInt + 1 < (p7 : Int32).toInt from by (first | (clear hpre2 hpre3 y5_1; omega) | omega)), (show ((u_5.2.1 1 0) : Int32).toInt ≠ 0 ∨ (p0 : Int32).toInt = (p0 : Int32).toInt + 1 from by (first | (clear hpre2 hpre3 y5_1; omega) | omega)), (show ((u_5.2.1 1 0) : Int32).toInt ≠ 0 ∨ (p2 : Int32).toInt = 0 from by (first | (clear hpre2 hpre3 y5_1; omega) | omega)), y5_1, (show (p0 : Int32).toInt ≤ (p0 : Int32).toInt from (Int.le_refl _)), (show SIM f0 f1 f2 (p7 : Int32).toInt (num 1 99) (p0 : Int32).toInt (p1 : Int32).toInt (p2 : Int32).toInt (p3 : Int32).toInt (p0 : Int32).toInt ((u_5.2.1 0 0) : Int32).toInt ((u_5.2.1 1 0) : Int32).toInt ((u_5.2.1 2 0) : Int32).toInt from sim_nm2 (by (first | assumption | (clear hpre2 hpre3 y5_1; omega) | omega)) (by (first | assumption | (clear hpre2 hpre3 y5_1; omega) | omega)) (by (first | assumption | (clear hpre2 hpre3 y5_1; omega) | omega)) (congrArg Int32.toInt ez_2).symm (by (first | assumption | (clear hpre2 hpre3 y5_1; omega) | omega)) (y5_2 _ _)), (show NMP ((u_5.2.1 1 0) : Int32).toInt (p1 : Int32).toInt (1 : Int32).toInt (f2 ((p0 : Int32).toInt).toNat).toInt from Or.inl (by (first | assumption | (clear hpre2 hpre3 y5_1; omega) | omega))), trivial⟩ [2, 3, 0, 4, 1] rfl rfl dX5_takeNumber_45 (Nat.le_of_ble_eq_true rfl) (Nat.le_of_ble_eq_true rfl)
    · replace c_4 := i_nlt (x := z_2) (y := 1) rfl (show (1 : Int32).toInt = 1 by decide) c_4
      refine lv_iload_n hx hb dX5_takeNumber_34 rfl (lv_at hl_3 0 rfl) ?_
      refine lv_iload_n hx hb dX5_takeNumber_35 rfl (lv_at hl_3 3 rfl) ?_
      refine lv_icmp_le (tgt := 46) hx hb dX5_takeNumber_36 (by decide) (fun c_6 => ?_) (fun c_6 => ?_)
      · replace c_6 := i_le (x := z_2) (y := 99) rfl (show (99 : Int32).toInt = 99 by decide) c_6
        refine lv_aload_n hx hb dX5_takeNumber_46 rfl (lv_at hl_3 1 rfl) ?_
        refine q_callVv (rest := []) (wr := [(h4, .inl (cy 1, 901, .inl f2))]) X hK hT hA h (fun sz => gX5_advance_9820dfe l D cy h0 h1 h2 h3 p0 p1 p2 p3 w0 w1 p4 p5 w2 p6 p7 (.ref h4) f0 f1 hp0 (i_rng _) (i_rng _) (i_rng _) hp4 (i_rng _) hp6 hp7 (hpre0) (hpre3) (by (first | (clear hpre2 hpre3; omega) | omega)) sz) wm_3_68 wm_3_71 wm_1_2 hd_X5_advance wm_3_70 wp_1_8 (ci := 5) (q0 := 0) rfl rfl ⟨Nat.le_of_ble_eq_true rfl, Nat.le_of_ble_eq_true rfl⟩ hl_3.1 rfl (Nat.le_of_ble_eq_true rfl) dX5_takeNumber_47 ⟨Nat.le_of_ble_eq_true rfl, Nat.le_of_ble_eq_true rfl⟩ [0, 1, 2, 3] [4] rfl rfl (by decide) rfl rfl (fun u_7 H locs w_7 h_7 => ?_)
        clear h
        obtain ⟨w7_0, w7_1, w7_2, w7_3, y7_0, y7_1, y7_2, y7_3, y7_4, y7_5, y7_6, _⟩ := w_7
        replace h_7 : qW D _ _ (wk_84183f5c8 cy h4 f2 h0 h1 (u_7.2.1 0 0) (u_7.2.1 1 0) (u_7.2.1 2 0) (u_7.2.1 3 0) w0 w1 p4 p5 h1 w2 p6 p7 h2 h3 h4 h2 f0 h3 f1) _ _ := h_7
        refine lv_iload_n hx hb dX5_takeNumber_50 rfl (lv_at hl_3 0 rfl) ?_
        exact q_iret X hr hlk hK h_7 rfl (fun _ => 0, (vcons (fun _ => (u_7.2.1 1 0)) (vcons (fun _ => (u_7.2.1 2 0)) (vcons (fun _ => (u_7.2.1 3 0)) (vcons (fun _ => (u_7.2.1 0 0)) (fun _ => (fun _ => 0)))))), fun _ _ => 0) ⟨⟨by omega, by omega⟩, w7_1, w7_2, w7_3, w7_0, y7_0, (show ((u_7.2.1 2 0) : Int32).toInt ≠ 0 ∨ ((u_7.2.1 1 0) : Int32).toInt = 26 ∨ ((u_7.2.1 1 0) : Int32).toInt = 27 ∨ ((u_7.2.1 0 0) : Int32).toInt + 1 < (p7 : Int32).toInt from by (first | (clear hpre2 hpre3 y7_1 y7_2 y7_4 y7_5; omega) | omega)), (show ((u_7.2.1 2 0) : Int32).toInt ≠ 0 ∨ ((u_7.2.1 0 0) : Int32).toInt = (p0 : Int32).toInt + 1 from by (first | (clear hpre2 hpre3 y7_1 y7_2 y7_4 y7_5; omega) | omega)), y7_2, y7_5, y7_3, (show SIM f0 f1 f2 (p7 : Int32).toInt (num 1 99) (p0 : Int32).toInt (p1 : Int32).toInt (p2 : Int32).toInt (p3 : Int32).toInt ((u_7.2.1 0 0) : Int32).toInt ((u_7.2.1 1 0) : Int32).toInt ((u_7.2.1 2 0) : Int32).toInt ((u_7.2.1 3 0) : Int32).toInt from sim_nm3 (by (first | assumption | (clear hpre2 hpre3 y7_1 y7_2 y7_4 y7_5; omega) | omega)) (by (first | assumption | (clear hpre2 hpre3 y7_1 y7_2 y7_4 y7_5; omega) | omega)) (by (first | assumption | (clear hpre2 hpre3 y7_1 y7_2 y7_4 y7_5; omega) | omega)) (congrArg Int32.toInt ez_2).symm (by (first | assumption | (clear hpre2 hpre3 y7_1 y7_2 y7_4 y7_5; omega) | omega)) y7_6 (by (first | assumption | (clear hpre2 hpre3 y7_1 y7_2 y7_4 y7_5; omega) | omega))), (show NMP ((u_7.2.1 2 0) : Int32).toInt (p1 : Int32).toInt (z_2 : Int32).toInt (f2 ((p0 : Int32).toInt).toNat).toInt from Or.inr ⟨(by (first | assumption | (clear hpre2 hpre3 y7_1 y7_2 y7_4 y7_5; omega) | omega)), (congrArg Int32.toInt ez_2).symm⟩), trivial⟩ [1, 2, 3, 4, 0] rfl rfl dX5_takeNumber_51 (Nat.le_of_ble_eq_true rfl) (Nat.le_of_ble_eq_true rfl)
      · replace c_6 := i_nle (x := z_2) (y := 99) rfl (show (99 : Int32).toInt = 99 by decide) c_6
        refine lv_aload_n hx hb dX5_takeNumber_39 rfl (lv_at hl_3 1 rfl) ?_
        refine lv_iconst (v := 3) hx hb dX5_takeNumber_40 (by decide) ?_
        refine q_callVv (rest := []) (wr := (wk_5f0ef36a6 cy h2 f0 h4 f2)) X hK hT hA h (fun sz => gX5_refuse_3ecba60 l D cy h0 h1 h3 p0 p1 p2 p3 w0 w1 p4 p5 w2 p6 p7 (.ref h2) (.ref h4) f1 hp0 (i_rng _) (i_rng _) (i_rng _) hp4 (i_rng _) hp6 hp7 (hpre1) (hpre3) (by have q0 : (3 : Int32).toInt = 3 := (by decide); (first | (clear hpre2 hpre3; omega) | omega)) sz) wm_3_76 wm_3_79 wm_1_2 hd_X5_refuse wm_3_78 wp_1_10 (ci := 5) (q0 := 0) rfl rfl ⟨Nat.le_of_ble_eq_true rfl, Nat.le_of_ble_eq_true rfl⟩ hl_3.1 rfl (Nat.le_of_ble_eq_true rfl) dX5_takeNumber_41 ⟨Nat.le_of_ble_eq_true rfl, Nat.le_of_ble_eq_true rfl⟩ [0, 1, 3] [2, 4] rfl rfl (by decide) rfl rfl (fun u_8 H locs w_8 h_8 => ?_)
        clear h
        obtain ⟨w8_0, w8_1, w8_2, y8_0, y8_1, y8_2, _⟩ := w_8
        have lq_8_1 : (3 : Int32).toInt = 3 := (by decide)
        replace h_8 : qW D _ _ (wk_1a85a4215 cy h2 f0 h4 f2 h0 h1 p0 (u_8.2.1 0 0) (u_8.2.1 1 0) (u_8.2.1 2 0) w0 w1 p4 p5 h1 w2 p6 p7 h2 h3 h4 h3 f1) _ _ := h_8
        refine lv_iload_n hx hb dX5_takeNumber_44 rfl (lv_at hl_3 2 rfl) ?_
        exact q_iret X hr hlk hK h_8 rfl (fun _ => 0, (vcons (fun _ => (u_8.2.1 0 0)) (vcons (fun _ => (u_8.2.1 1 0)) (vcons (fun _ => (u_8.2.1 2 0)) (vcons (fun _ => p0) (fun _ => (fun _ => 0)))))), fun _ _ => 0) ⟨⟨by decide +kernel, by decide +kernel⟩, w8_0, w8_1, w8_2, hp0, hpre1, (show ((u_8.2.1 1 0) : Int32).toInt ≠ 0 ∨ ((u_8.2.1 0 0) : Int32).toInt = 26 ∨ ((u_8.2.1 0 0) : Int32).toInt = 27 ∨ (p0 : Int32).toInt + 1 < (p7 : Int32).toInt from by (first | (clear hpre2 hpre3 y8_1; omega) | omega)), (show ((u_8.2.1 1 0) : Int32).toInt ≠ 0 ∨ (p0 : Int32).toInt = (p0 : Int32).toInt + 1 from by (first | (clear hpre2 hpre3 y8_1; omega) | omega)), (show ((u_8.2.1 1 0) : Int32).toInt ≠ 0 ∨ (p2 : Int32).toInt = 0 from by (first | (clear hpre2 hpre3 y8_1; omega) | omega)), y8_1, (show (p0 : Int32).toInt ≤ (p0 : Int32).toInt from (Int.le_refl _)), (show SIM f0 f1 f2 (p7 : Int32).toInt (num 1 99) (p0 : Int32).toInt (p1 : Int32).toInt (p2 : Int32).toInt (p3 : Int32).toInt (p0 : Int32).toInt ((u_8.2.1 0 0) : Int32).toInt ((u_8.2.1 1 0) : Int32).toInt ((u_8.2.1 2 0) : Int32).toInt from sim_nm2 (by (first | assumption | (clear hpre2 hpre3 y8_1; omega) | omega)) (by (first | assumption | (clear hpre2 hpre3 y8_1; omega) | omega)) (by (first | assumption | (clear hpre2 hpre3 y8_1; omega) | omega)) (congrArg Int32.toInt ez_2).symm (by (first | assumption | (clear hpre2 hpre3 y8_1; omega) | omega)) (y8_2 _ _)), (show NMP ((u_8.2.1 1 0) : Int32).toInt (p1 : Int32).toInt (1 : Int32).toInt (f2 ((p0 : Int32).toInt).toNat).toInt from Or.inl (by (first | assumption | (clear hpre2 hpre3 y8_1; omega) | omega))), trivial⟩ [2, 3, 0, 4, 1] rfl rfl dX5_takeNumber_45 (Nat.le_of_ble_eq_true rfl) (Nat.le_of_ble_eq_true rfl)
  · replace c_1 := i_ne (x := p1) (y := 25) rfl (show (25 : Int32).toInt = 25 by decide) c_1
    refine lv_aload_n hx hb dX5_takeNumber_9 rfl (lv_at hl 0 rfl) ?_
    refine lv_iconst (v := 2) hx hb dX5_takeNumber_10 (by decide) ?_
    refine q_callVv (rest := []) (wr := (wk_5f0ef36a6 cy h2 f0 h4 f2)) X hK hT hA h (fun sz => gX5_refuse_067fcff l D cy h0 h1 h3 p0 p1 p2 p3 w0 w1 p4 p5 w2 p6 p7 (.ref h2) (.ref h4) f1 hp0 (i_rng _) (i_rng _) (i_rng _) hp4 (i_rng _) hp6 hp7 (hpre1) (hpre3) (by have q0 : (2 : Int32).toInt = 2 := (by decide); (first | (clear hpre2 hpre3; omega) | omega)) sz) wm_3_76 wm_3_79 wm_1_2 hd_X5_refuse wm_3_78 wp_1_10 (ci := 5) (q0 := 0) rfl rfl ⟨Nat.le_of_ble_eq_true rfl, Nat.le_of_ble_eq_true rfl⟩ hl.1 rfl (Nat.le_of_ble_eq_true rfl) dX5_takeNumber_11 ⟨Nat.le_of_ble_eq_true rfl, Nat.le_of_ble_eq_true rfl⟩ [0, 1, 3] [2, 4] rfl rfl (by decide) rfl rfl (fun u_9 H locs w_9 h_9 => ?_)
    clear h
    obtain ⟨w9_0, w9_1, w9_2, y9_0, y9_1, y9_2, _⟩ := w_9
    have lq_9_1 : (2 : Int32).toInt = 2 := (by decide)
    replace h_9 : qW D _ _ (wk_1a85a4215 cy h2 f0 h4 f2 h0 h1 p0 (u_9.2.1 0 0) (u_9.2.1 1 0) (u_9.2.1 2 0) w0 w1 p4 p5 h1 w2 p6 p7 h2 h3 h4 h3 f1) _ _ := h_9
    refine lv_iload_n hx hb dX5_takeNumber_14 rfl (lv_at hl 1 rfl) ?_
    exact q_iret X hr hlk hK h_9 rfl (fun _ => 0, (vcons (fun _ => (u_9.2.1 0 0)) (vcons (fun _ => (u_9.2.1 1 0)) (vcons (fun _ => (u_9.2.1 2 0)) (vcons (fun _ => p0) (fun _ => (fun _ => 0)))))), fun _ _ => 0) ⟨⟨by decide +kernel, by decide +kernel⟩, w9_0, w9_1, w9_2, hp0, hpre1, (show ((u_9.2.1 1 0) : Int32).toInt ≠ 0 ∨ ((u_9.2.1 0 0) : Int32).toInt = 26 ∨ ((u_9.2.1 0 0) : Int32).toInt = 27 ∨ (p0 : Int32).toInt + 1 < (p7 : Int32).toInt from by (first | (clear hpre2 hpre3 y9_1; omega) | omega)), (show ((u_9.2.1 1 0) : Int32).toInt ≠ 0 ∨ (p0 : Int32).toInt = (p0 : Int32).toInt + 1 from by (first | (clear hpre2 hpre3 y9_1; omega) | omega)), (show ((u_9.2.1 1 0) : Int32).toInt ≠ 0 ∨ (p2 : Int32).toInt = 0 from by (first | (clear hpre2 hpre3 y9_1; omega) | omega)), y9_1, (show (p0 : Int32).toInt ≤ (p0 : Int32).toInt from (Int.le_refl _)), (show SIM f0 f1 f2 (p7 : Int32).toInt (num 1 99) (p0 : Int32).toInt (p1 : Int32).toInt (p2 : Int32).toInt (p3 : Int32).toInt (p0 : Int32).toInt ((u_9.2.1 0 0) : Int32).toInt ((u_9.2.1 1 0) : Int32).toInt ((u_9.2.1 2 0) : Int32).toInt from sim_nm1 (by (first | assumption | (clear hpre2 hpre3 y9_1; omega) | omega)) (y9_2 _ _)), (show NMP ((u_9.2.1 1 0) : Int32).toInt (p1 : Int32).toInt (1 : Int32).toInt (f2 ((p0 : Int32).toInt).toNat).toInt from Or.inl (by (first | assumption | (clear hpre2 hpre3 y9_1; omega) | omega))), trivial⟩ [2, 3, 0, 4, 1] rfl rfl dX5_takeNumber_15 (Nat.le_of_ble_eq_true rfl) (Nat.le_of_ble_eq_true rfl)
set_option maxHeartbeats 4000000 in
set_option maxRecDepth 100000 in
theorem gX5_takeNumber_b9026d7 (l : Launch) (D : va_G) (cy : Nat → ClassId) (h0 : Nat) (h1 : Nat) (h2 : Nat) (h3 : Nat) (h4 : Nat) (p0 : Int32) (p1 : Int32) (p2 : Int32) (p3 : Int32) (w0 : Value) (w1 : Value) (p4 : Int32) (p5 : Int32) (w2 : Value) (p6 : Int32) (p7 : Int32) (f0 : Nat → Int32) (f1 : Nat → Int32) (f2 : Nat → Int32) (hp0 : (-1) ≤ (p0).toInt ∧ (p0).toInt ≤ 900) (hp1 : (-2147483648) ≤ (p1).toInt ∧ (p1).toInt ≤ 2147483647) (hp2 : (-2147483648) ≤ (p2).toInt ∧ (p2).toInt ≤ 2147483647) (hp3 : (-2147483648) ≤ (p3).toInt ∧ (p3).toInt ≤ 2147483647) (hp4 : 0 ≤ (p4).toInt ∧ (p4).toInt ≤ 900) (hp5 : (-2147483648) ≤ (p5).toInt ∧ (p5).toInt ≤ 2147483647) (hp6 : 0 ≤ (p6).toInt ∧ (p6).toInt ≤ 900) (hp7 : 0 ≤ (p7).toInt ∧ (p7).toInt ≤ 901) (hpre0 : KZ f0 (p7 : Int32).toInt) (hpre1 : 0 ≤ (p0 : Int32).toInt ∧ (p0 : Int32).toInt < (p7 : Int32).toInt) (hpre2 : (p2 : Int32).toInt ≠ 0 ∨ (p1 : Int32).toInt = 26 ∨ (p1 : Int32).toInt = 27 ∨ (p0 : Int32).toInt + 1 < (p7 : Int32).toInt) (hpre3 : (p2 : Int32).toInt = 0 ∨ (p1 : Int32).toInt = 27) (sz : Nat) : MI l yX5_takeNumber cX5_takeNumber 4 .int { frames := 1, cells := 0, slots := 0, locals := 21 } [.ref h0, .int 0, .int 9] D cy (wk_aa6ee0650 cy h0 h1 p0 p1 p2 p3 w0 w1 p4 p5 h1 w2 p6 p7 h2 h3 h4 h2 f0 h3 f1 h4 f2) sz (fun r u => (0 ≤ r.toInt ∧ r.toInt ≤ 9) ∧ ((-2147483648) ≤ (u.2.1 0 0).toInt ∧ (u.2.1 0 0).toInt ≤ 2147483647) ∧ ((-2147483648) ≤ (u.2.1 1 0).toInt ∧ (u.2.1 1 0).toInt ≤ 2147483647) ∧ ((-2147483648) ≤ (u.2.1 2 0).toInt ∧ (u.2.1 2 0).toInt ≤ 2147483647) ∧ ((-1) ≤ (u.2.1 3 0).toInt ∧ (u.2.1 3 0).toInt ≤ 900) ∧ (0 ≤ ((u.2.1 3 0) : Int32).toInt ∧ ((u.2.1 3 0) : Int32).toInt < (p7 : Int32).toInt) ∧ (((u.2.1 1 0) : Int32).toInt ≠ 0 ∨ ((u.2.1 0 0) : Int32).toInt = 26 ∨ ((u.2.1 0 0) : Int32).toInt = 27 ∨ ((u.2.1 3 0) : Int32).toInt + 1 < (p7 : Int32).toInt) ∧ (((u.2.1 1 0) : Int32).toInt ≠ 0 ∨ ((u.2.1 3 0) : Int32).toInt = (p0 : Int32).toInt + 1) ∧ (((u.2.1 1 0) : Int32).toInt ≠ 0 ∨ (p2 : Int32).toInt = 0) ∧ (((u.2.1 1 0) : Int32).toInt = 0 ∨ ((u.2.1 0 0) : Int32).toInt = 27) ∧ ((p0 : Int32).toInt ≤ ((u.2.1 3 0) : Int32).toInt) ∧ (SIM f0 f1 f2 (p7 : Int32).toInt (num 0 9) (p0 : Int32).toInt (p1 : Int32).toInt (p2 : Int32).toInt (p3 : Int32).toInt ((u.2.1 3 0) : Int32).toInt ((u.2.1 0 0) : Int32).toInt ((u.2.1 1 0) : Int32).toInt ((u.2.1 2 0) : Int32).toInt) ∧ (NMP ((u.2.1 1 0) : Int32).toInt (p1 : Int32).toInt (r : Int32).toInt (f2 ((p0 : Int32).toInt).toNat).toInt) ∧ True) (fun u => (wk_aa6ee0650 cy h0 h1 (u.2.1 3 0) (u.2.1 0 0) (u.2.1 1 0) (u.2.1 2 0) w0 w1 p4 p5 h1 w2 p6 p7 h2 h3 h4 h2 f0 h3 f1 h4 f2)) 0 0 := by
  refine q_ent (own := RX5) (by decide) rfl (Nat.le_of_ble_eq_true rfl) (fun p e s m below meth c ls X hr hlk hnm hK hT h hA hl => ?_)
  obtain ⟨hx, hb, hml, hown, ht⟩ := id X
  replace hl : lv_has ls 4 [(0, .ref h0), (1, .int 0), (2, .int 9)] := hl
  refine lv_aload_n hx hb dX5_takeNumber_0 rfl (lv_at hl 0 rfl) ?_
  refine q_get X hK h 0 rfl rfl wf_5 2 (by decide) rfl wm_1_146 dX5_takeNumber_1 ?_
  refine lv_bipush (v := 25) hx hb dX5_takeNumber_4 (by decide) ?_
  refine lv_icmp_eq (tgt := 16) hx hb dX5_takeNumber_6 (by decide) (fun c_1 => ?_) (fun c_1 => ?_)
  · replace c_1 := i_eq (x := p1) (y := 25) rfl (show (25 : Int32).toInt = 25 by decide) c_1
    refine lv_aload_n hx hb dX5_takeNumber_16 rfl (lv_at hl 0 rfl) ?_
    refine q_get X hK h 0 rfl rfl wf_5 0 (by decide) rfl wm_1_144 dX5_takeNumber_17 ?_
    refine q_get X hK h 1 rfl rfl wf_8 5 (by decide) rfl wm_1_52 dX5_takeNumber_20 ?_
    refine lv_aload_n hx hb dX5_takeNumber_23 rfl (lv_at hl 0 rfl) ?_
    refine q_get X hK h 0 rfl rfl wf_5 1 (by decide) rfl wm_1_145 dX5_takeNumber_24 ?_
    refine q_iald X hK h 4 rfl (i_in rfl (by omega) (by omega)) dX5_takeNumber_27 ?_
    obtain ⟨z_2, ez_2, hz_2⟩ := e_any (f2 p0.toNatClampNeg)
    refine q_c z_2 ez_2 ?_
    refine lv_istore_n (lv' := [(3, .int z_2), (0, .ref h0), (1, .int 0), (2, .int 9)]) hx hb dX5_takeNumber_28 rfl hl (by decide) rfl (fun ls_3 hl_3 => ?_)
    clear hl
    refine lv_iload_n hx hb dX5_takeNumber_29 rfl (lv_at hl_3 0 rfl) ?_
    refine lv_iload_n hx hb dX5_takeNumber_30 rfl (lv_at hl_3 2 rfl) ?_
    refine lv_icmp_lt (tgt := 39) hx hb dX5_takeNumber_31 (by decide) (fun c_4 => ?_) (fun c_4 => ?_)
    · replace c_4 := i_lt (x := z_2) (y := 0) rfl (show (0 : Int32).toInt = 0 by decide) c_4
      refine lv_aload_n hx hb dX5_takeNumber_39 rfl (lv_at hl_3 1 rfl) ?_
      refine lv_iconst (v := 3) hx hb dX5_takeNumber_40 (by decide) ?_
      refine q_callVv (rest := []) (wr := (wk_5f0ef36a6 cy h2 f0 h4 f2)) X hK hT hA h (fun sz => gX5_refuse_3ecba60 l D cy h0 h1 h3 p0 p1 p2 p3 w0 w1 p4 p5 w2 p6 p7 (.ref h2) (.ref h4) f1 hp0 (i_rng _) (i_rng _) (i_rng _) hp4 (i_rng _) hp6 hp7 (hpre1) (hpre3) (by have q0 : (3 : Int32).toInt = 3 := (by decide); (first | (clear hpre2 hpre3; omega) | omega)) sz) wm_3_76 wm_3_79 wm_1_2 hd_X5_refuse wm_3_78 wp_1_10 (ci := 5) (q0 := 0) rfl rfl ⟨Nat.le_of_ble_eq_true rfl, Nat.le_of_ble_eq_true rfl⟩ hl_3.1 rfl (Nat.le_of_ble_eq_true rfl) dX5_takeNumber_41 ⟨Nat.le_of_ble_eq_true rfl, Nat.le_of_ble_eq_true rfl⟩ [0, 1, 3] [2, 4] rfl rfl (by decide) rfl rfl (fun u_5 H locs w_5 h_5 => ?_)
      clear h
      obtain ⟨w5_0, w5_1, w5_2, y5_0, y5_1, y5_2, _⟩ := w_5
      have lq_5_1 : (3 : Int32).toInt = 3 := (by decide)
      replace h_5 : qW D _ _ (wk_1a85a4215 cy h2 f0 h4 f2 h0 h1 p0 (u_5.2.1 0 0) (u_5.2.1 1 0) (u_5.2.1 2 0) w0 w1 p4 p5 h1 w2 p6 p7 h2 h3 h4 h3 f1) _ _ := h_5
      refine lv_iload_n hx hb dX5_takeNumber_44 rfl (lv_at hl_3 2 rfl) ?_
      exact q_iret X hr hlk hK h_5 rfl (fun _ => 0, (vcons (fun _ => (u_5.2.1 0 0)) (vcons (fun _ => (u_5.2.1 1 0)) (vcons (fun _ => (u_5.2.1 2 0)) (vcons (fun _ => p0) (fun _ => (fun _ => 0)))))), fun _ _ => 0) ⟨⟨by decide +kernel, by decide +kernel⟩, w5_0, w5_1, w5_2, hp0, hpre1, (show ((u_5.2.1 1 0) : Int32).toInt ≠ 0 ∨ ((u_5.2.1 0 0) : Int32).toInt = 26 ∨ ((u_5.2.1 0 0) : Int32).toInt = 27 ∨ (p0 : Int32).toInt + 1 < (p7 : Int32).toInt from by (first | (clear hpre2 hpre3 y5_1; omega) | omega)), (show ((u_5.2.1 1 0) : Int32).toInt ≠ 0 ∨ (p0 : Int32).toInt = (p0 : Int32).toInt + 1 from by (first | (clear hpre2 hpre3 y5_1; omega) | omega)), (show ((u_5.2.1 1 0) : Int32).toInt ≠ 0 ∨ (p2 : Int32).toInt = 0 from by (first | (clear hpre2 hpre3 y5_1; omega) | omega)), y5_1, (show (p0 : Int32).toInt ≤ (p0 : Int32).toInt from (Int.le_refl _)), (show SIM f0 f1 f2 (p7 : Int32).toInt (num 0 9) (p0 : Int32).toInt (p1 : Int32).toInt (p2 : Int32).toInt (p3 : Int32).toInt (p0 : Int32).toInt ((u_5.2.1 0 0) : Int32).toInt ((u_5.2.1 1 0) : Int32).toInt ((u_5.2.1 2 0) : Int32).toInt from sim_nm2 (by (first | assumption | (clear hpre2 hpre3 y5_1; omega) | omega)) (by (first | assumption | (clear hpre2 hpre3 y5_1; omega) | omega)) (by (first | assumption | (clear hpre2 hpre3 y5_1; omega) | omega)) (congrArg Int32.toInt ez_2).symm (by (first | assumption | (clear hpre2 hpre3 y5_1; omega) | omega)) (y5_2 _ _)), (show NMP ((u_5.2.1 1 0) : Int32).toInt (p1 : Int32).toInt (0 : Int32).toInt (f2 ((p0 : Int32).toInt).toNat).toInt from Or.inl (by (first | assumption | (clear hpre2 hpre3 y5_1; omega) | omega))), trivial⟩ [2, 3, 0, 4, 1] rfl rfl dX5_takeNumber_45 (Nat.le_of_ble_eq_true rfl) (Nat.le_of_ble_eq_true rfl)
    · replace c_4 := i_nlt (x := z_2) (y := 0) rfl (show (0 : Int32).toInt = 0 by decide) c_4
      refine lv_iload_n hx hb dX5_takeNumber_34 rfl (lv_at hl_3 0 rfl) ?_
      refine lv_iload_n hx hb dX5_takeNumber_35 rfl (lv_at hl_3 3 rfl) ?_
      refine lv_icmp_le (tgt := 46) hx hb dX5_takeNumber_36 (by decide) (fun c_6 => ?_) (fun c_6 => ?_)
      · replace c_6 := i_le (x := z_2) (y := 9) rfl (show (9 : Int32).toInt = 9 by decide) c_6
        refine lv_aload_n hx hb dX5_takeNumber_46 rfl (lv_at hl_3 1 rfl) ?_
        refine q_callVv (rest := []) (wr := [(h4, .inl (cy 1, 901, .inl f2))]) X hK hT hA h (fun sz => gX5_advance_9820dfe l D cy h0 h1 h2 h3 p0 p1 p2 p3 w0 w1 p4 p5 w2 p6 p7 (.ref h4) f0 f1 hp0 (i_rng _) (i_rng _) (i_rng _) hp4 (i_rng _) hp6 hp7 (hpre0) (hpre3) (by (first | (clear hpre2 hpre3; omega) | omega)) sz) wm_3_68 wm_3_71 wm_1_2 hd_X5_advance wm_3_70 wp_1_8 (ci := 5) (q0 := 0) rfl rfl ⟨Nat.le_of_ble_eq_true rfl, Nat.le_of_ble_eq_true rfl⟩ hl_3.1 rfl (Nat.le_of_ble_eq_true rfl) dX5_takeNumber_47 ⟨Nat.le_of_ble_eq_true rfl, Nat.le_of_ble_eq_true rfl⟩ [0, 1, 2, 3] [4] rfl rfl (by decide) rfl rfl (fun u_7 H locs w_7 h_7 => ?_)
        clear h
        obtain ⟨w7_0, w7_1, w7_2, w7_3, y7_0, y7_1, y7_2, y7_3, y7_4, y7_5, y7_6, _⟩ := w_7
        replace h_7 : qW D _ _ (wk_84183f5c8 cy h4 f2 h0 h1 (u_7.2.1 0 0) (u_7.2.1 1 0) (u_7.2.1 2 0) (u_7.2.1 3 0) w0 w1 p4 p5 h1 w2 p6 p7 h2 h3 h4 h2 f0 h3 f1) _ _ := h_7
        refine lv_iload_n hx hb dX5_takeNumber_50 rfl (lv_at hl_3 0 rfl) ?_
        exact q_iret X hr hlk hK h_7 rfl (fun _ => 0, (vcons (fun _ => (u_7.2.1 1 0)) (vcons (fun _ => (u_7.2.1 2 0)) (vcons (fun _ => (u_7.2.1 3 0)) (vcons (fun _ => (u_7.2.1 0 0)) (fun _ => (fun _ => 0)))))), fun _ _ => 0) ⟨⟨by omega, by omega⟩, w7_1, w7_2, w7_3, w7_0, y7_0, (show ((u_7.2.1 2 0) : Int32).toInt ≠ 0 ∨ ((u_7.2.1 1 0) : Int32).toInt = 26 ∨ ((u_7.2.1 1 0) : Int32).toInt = 27 ∨ ((u_7.2.1 0 0) : Int32).toInt + 1 < (p7 : Int32).toInt from by (first | (clear hpre2 hpre3 y7_1 y7_2 y7_4 y7_5; omega) | omega)), (show ((u_7.2.1 2 0) : Int32).toInt ≠ 0 ∨ ((u_7.2.1 0 0) : Int32).toInt = (p0 : Int32).toInt + 1 from by (first | (clear hpre2 hpre3 y7_1 y7_2 y7_4 y7_5; omega) | omega)), y7_2, y7_5, y7_3, (show SIM f0 f1 f2 (p7 : Int32).toInt (num 0 9) (p0 : Int32).toInt (p1 : Int32).toInt (p2 : Int32).toInt (p3 : Int32).toInt ((u_7.2.1 0 0) : Int32).toInt ((u_7.2.1 1 0) : Int32).toInt ((u_7.2.1 2 0) : Int32).toInt ((u_7.2.1 3 0) : Int32).toInt from sim_nm3 (by (first | assumption | (clear hpre2 hpre3 y7_1 y7_2 y7_4 y7_5; omega) | omega)) (by (first | assumption | (clear hpre2 hpre3 y7_1 y7_2 y7_4 y7_5; omega) | omega)) (by (first | assumption | (clear hpre2 hpre3 y7_1 y7_2 y7_4 y7_5; omega) | omega)) (congrArg Int32.toInt ez_2).symm (by (first | assumption | (clear hpre2 hpre3 y7_1 y7_2 y7_4 y7_5; omega) | omega)) y7_6 (by (first | assumption | (clear hpre2 hpre3 y7_1 y7_2 y7_4 y7_5; omega) | omega))), (show NMP ((u_7.2.1 2 0) : Int32).toInt (p1 : Int32).toInt (z_2 : Int32).toInt (f2 ((p0 : Int32).toInt).toNat).toInt from Or.inr ⟨(by (first | assumption | (clear hpre2 hpre3 y7_1 y7_2 y7_4 y7_5; omega) | omega)), (congrArg Int32.toInt ez_2).symm⟩), trivial⟩ [1, 2, 3, 4, 0] rfl rfl dX5_takeNumber_51 (Nat.le_of_ble_eq_true rfl) (Nat.le_of_ble_eq_true rfl)
      · replace c_6 := i_nle (x := z_2) (y := 9) rfl (show (9 : Int32).toInt = 9 by decide) c_6
        refine lv_aload_n hx hb dX5_takeNumber_39 rfl (lv_at hl_3 1 rfl) ?_
        refine lv_iconst (v := 3) hx hb dX5_takeNumber_40 (by decide) ?_
        refine q_callVv (rest := []) (wr := (wk_5f0ef36a6 cy h2 f0 h4 f2)) X hK hT hA h (fun sz => gX5_refuse_3ecba60 l D cy h0 h1 h3 p0 p1 p2 p3 w0 w1 p4 p5 w2 p6 p7 (.ref h2) (.ref h4) f1 hp0 (i_rng _) (i_rng _) (i_rng _) hp4 (i_rng _) hp6 hp7 (hpre1) (hpre3) (by have q0 : (3 : Int32).toInt = 3 := (by decide); (first | (clear hpre2 hpre3; omega) | omega)) sz) wm_3_76 wm_3_79 wm_1_2 hd_X5_refuse wm_3_78 wp_1_10 (ci := 5) (q0 := 0) rfl rfl ⟨Nat.le_of_ble_eq_true rfl, Nat.le_of_ble_eq_true rfl⟩ hl_3.1 rfl (Nat.le_of_ble_eq_true rfl) dX5_takeNumber_41 ⟨Nat.le_of_ble_eq_true rfl, Nat.le_of_ble_eq_true rfl⟩ [0, 1, 3] [2, 4] rfl rfl (by decide) rfl rfl (fun u_8 H locs w_8 h_8 => ?_)
        clear h
        obtain ⟨w8_0, w8_1, w8_2, y8_0, y8_1, y8_2, _⟩ := w_8
        have lq_8_1 : (3 : Int32).toInt = 3 := (by decide)
        replace h_8 : qW D _ _ (wk_1a85a4215 cy h2 f0 h4 f2 h0 h1 p0 (u_8.2.1 0 0) (u_8.2.1 1 0) (u_8.2.1 2 0) w0 w1 p4 p5 h1 w2 p6 p7 h2 h3 h4 h3 f1) _ _ := h_8
        refine lv_iload_n hx hb dX5_takeNumber_44 rfl (lv_at hl_3 2 rfl) ?_
        exact q_iret X hr hlk hK h_8 rfl (fun _ => 0, (vcons (fun _ => (u_8.2.1 0 0)) (vcons (fun _ => (u_8.2.1 1 0)) (vcons (fun _ => (u_8.2.1 2 0)) (vcons (fun _ => p0) (fun _ => (fun _ => 0)))))), fun _ _ => 0) ⟨⟨by decide +kernel, by decide +kernel⟩, w8_0, w8_1, w8_2, hp0, hpre1, (show ((u_8.2.1 1 0) : Int32).toInt ≠ 0 ∨ ((u_8.2.1 0 0) : Int32).toInt = 26 ∨ ((u_8.2.1 0 0) : Int32).toInt = 27 ∨ (p0 : Int32).toInt + 1 < (p7 : Int32).toInt from by (first | (clear hpre2 hpre3 y8_1; omega) | omega)), (show ((u_8.2.1 1 0) : Int32).toInt ≠ 0 ∨ (p0 : Int32).toInt = (p0 : Int32).toInt + 1 from by (first | (clear hpre2 hpre3 y8_1; omega) | omega)), (show ((u_8.2.1 1 0) : Int32).toInt ≠ 0 ∨ (p2 : Int32).toInt = 0 from by (first | (clear hpre2 hpre3 y8_1; omega) | omega)), y8_1, (show (p0 : Int32).toInt ≤ (p0 : Int32).toInt from (Int.le_refl _)), (show SIM f0 f1 f2 (p7 : Int32).toInt (num 0 9) (p0 : Int32).toInt (p1 : Int32).toInt (p2 : Int32).toInt (p3 : Int32).toInt (p0 : Int32).toInt ((u_8.2.1 0 0) : Int32).toInt ((u_8.2.1 1 0) : Int32).toInt ((u_8.2.1 2 0) : Int32).toInt from sim_nm2 (by (first | assumption | (clear hpre2 hpre3 y8_1; omega) | omega)) (by (first | assumption | (clear hpre2 hpre3 y8_1; omega) | omega)) (by (first | assumption | (clear hpre2 hpre3 y8_1; omega) | omega)) (congrArg Int32.toInt ez_2).symm (by (first | assumption | (clear hpre2 hpre3 y8_1; omega) | omega)) (y8_2 _ _)), (show NMP ((u_8.2.1 1 0) : Int32).toInt (p1 : Int32).toInt (0 : Int32).toInt (f2 ((p0 : Int32).toInt).toNat).toInt from Or.inl (by (first | assumption | (clear hpre2 hpre3 y8_1; omega) | omega))), trivial⟩ [2, 3, 0, 4, 1] rfl rfl dX5_takeNumber_45 (Nat.le_of_ble_eq_true rfl) (Nat.le_of_ble_eq_true rfl)
  · replace c_1 := i_ne (x := p1) (y := 25) rfl (show (25 : Int32).toInt = 25 by decide) c_1
    refine lv_aload_n hx hb dX5_takeNumber_9 rfl (lv_at hl 0 rfl) ?_
    refine lv_iconst (v := 2) hx hb dX5_takeNumber_10 (by decide) ?_
    refine q_callVv (rest := []) (wr := (wk_5f0ef36a6 cy h2 f0 h4 f2)) X hK hT hA h (fun sz => gX5_refuse_067fcff l D cy h0 h1 h3 p0 p1 p2 p3 w0 w1 p4 p5 w2 p6 p7 (.ref h2) (.ref h4) f1 hp0 (i_rng _) (i_rng _) (i_rng _) hp4 (i_rng _) hp6 hp7 (hpre1) (hpre3) (by have q0 : (2 : Int32).toInt = 2 := (by decide); (first | (clear hpre2 hpre3; omega) | omega)) sz) wm_3_76 wm_3_79 wm_1_2 hd_X5_refuse wm_3_78 wp_1_10 (ci := 5) (q0 := 0) rfl rfl ⟨Nat.le_of_ble_eq_true rfl, Nat.le_of_ble_eq_true rfl⟩ hl.1 rfl (Nat.le_of_ble_eq_true rfl) dX5_takeNumber_11 ⟨Nat.le_of_ble_eq_true rfl, Nat.le_of_ble_eq_true rfl⟩ [0, 1, 3] [2, 4] rfl rfl (by decide) rfl rfl (fun u_9 H locs w_9 h_9 => ?_)
    clear h
    obtain ⟨w9_0, w9_1, w9_2, y9_0, y9_1, y9_2, _⟩ := w_9
    have lq_9_1 : (2 : Int32).toInt = 2 := (by decide)
    replace h_9 : qW D _ _ (wk_1a85a4215 cy h2 f0 h4 f2 h0 h1 p0 (u_9.2.1 0 0) (u_9.2.1 1 0) (u_9.2.1 2 0) w0 w1 p4 p5 h1 w2 p6 p7 h2 h3 h4 h3 f1) _ _ := h_9
    refine lv_iload_n hx hb dX5_takeNumber_14 rfl (lv_at hl 1 rfl) ?_
    exact q_iret X hr hlk hK h_9 rfl (fun _ => 0, (vcons (fun _ => (u_9.2.1 0 0)) (vcons (fun _ => (u_9.2.1 1 0)) (vcons (fun _ => (u_9.2.1 2 0)) (vcons (fun _ => p0) (fun _ => (fun _ => 0)))))), fun _ _ => 0) ⟨⟨by decide +kernel, by decide +kernel⟩, w9_0, w9_1, w9_2, hp0, hpre1, (show ((u_9.2.1 1 0) : Int32).toInt ≠ 0 ∨ ((u_9.2.1 0 0) : Int32).toInt = 26 ∨ ((u_9.2.1 0 0) : Int32).toInt = 27 ∨ (p0 : Int32).toInt + 1 < (p7 : Int32).toInt from by (first | (clear hpre2 hpre3 y9_1; omega) | omega)), (show ((u_9.2.1 1 0) : Int32).toInt ≠ 0 ∨ (p0 : Int32).toInt = (p0 : Int32).toInt + 1 from by (first | (clear hpre2 hpre3 y9_1; omega) | omega)), (show ((u_9.2.1 1 0) : Int32).toInt ≠ 0 ∨ (p2 : Int32).toInt = 0 from by (first | (clear hpre2 hpre3 y9_1; omega) | omega)), y9_1, (show (p0 : Int32).toInt ≤ (p0 : Int32).toInt from (Int.le_refl _)), (show SIM f0 f1 f2 (p7 : Int32).toInt (num 0 9) (p0 : Int32).toInt (p1 : Int32).toInt (p2 : Int32).toInt (p3 : Int32).toInt (p0 : Int32).toInt ((u_9.2.1 0 0) : Int32).toInt ((u_9.2.1 1 0) : Int32).toInt ((u_9.2.1 2 0) : Int32).toInt from sim_nm1 (by (first | assumption | (clear hpre2 hpre3 y9_1; omega) | omega)) (y9_2 _ _)), (show NMP ((u_9.2.1 1 0) : Int32).toInt (p1 : Int32).toInt (0 : Int32).toInt (f2 ((p0 : Int32).toInt).toNat).toInt from Or.inl (by (first | assumption | (clear hpre2 hpre3 y9_1; omega) | omega))), trivial⟩ [2, 3, 0, 4, 1] rfl rfl dX5_takeNumber_15 (Nat.le_of_ble_eq_true rfl) (Nat.le_of_ble_eq_true rfl)
set_option maxHeartbeats 4000000 in
set_option maxRecDepth 100000 in
theorem gX5_readFlag_936f279 (l : Launch) (D : va_G) (cy : Nat → ClassId) (h0 : Nat) (h1 : Nat) (h2 : Nat) (h3 : Nat) (h4 : Nat) (h5 : Nat) (h6 : Nat) (h7 : Nat) (h8 : Nat) (h9 : Nat) (p0 : Int32) (p1 : Int32) (p2 : Int32) (p3 : Int32) (p4 : Int32) (w0 : Value) (p5 : Int32) (p6 : Int32) (w1 : Value) (p7 : Int32) (p8 : Int32) (f0 : Nat → Int32) (f1 : Nat → Int32) (f2 : Nat → Int32) (p9 : Int32) (p10 : Int32) (p11 : Int32) (w2 : Value) (w3 : Value) (w4 : Value) (w5 : Value) (f3 : Nat → Int32) (f4 : Nat → Int32) (f5 : Nat → Int32) (f6 : Nat → Int32) (hp0 : 0 ≤ (p0).toInt ∧ (p0).toInt ≤ 9) (hp1 : (-1) ≤ (p1).toInt ∧ (p1).toInt ≤ 900) (hp2 : (-2147483648) ≤ (p2).toInt ∧ (p2).toInt ≤ 2147483647) (hp3 : (-2147483648) ≤ (p3).toInt ∧ (p3).toInt ≤ 2147483647) (hp4 : (-2147483648) ≤ (p4).toInt ∧ (p4).toInt ≤ 2147483647) (hp5 : 0 ≤ (p5).toInt ∧ (p5).toInt ≤ 900) (hp6 : (-2147483648) ≤ (p6).toInt ∧ (p6).toInt ≤ 2147483647) (hp7 : 0 ≤ (p7).toInt ∧ (p7).toInt ≤ 900) (hp8 : 0 ≤ (p8).toInt ∧ (p8).toInt ≤ 901) (hp9 : 1 ≤ (p9).toInt ∧ (p9).toInt ≤ 3) (hp10 : (-2147483648) ≤ (p10).toInt ∧ (p10).toInt ≤ 2147483647) (hp11 : (-2147483648) ≤ (p11).toInt ∧ (p11).toInt ≤ 2147483647) (hpre0 : KZ f0 (p8 : Int32).toInt) (hpre1 : 0 ≤ (p1 : Int32).toInt ∧ (p1 : Int32).toInt < (p8 : Int32).toInt) (hpre2 : (p3 : Int32).toInt ≠ 0 ∨ (p2 : Int32).toInt = 26 ∨ (p2 : Int32).toInt = 27 ∨ (p1 : Int32).toInt + 1 < (p8 : Int32).toInt) (hpre3 : (p3 : Int32).toInt = 0 ∨ (p2 : Int32).toInt = 27) (sz : Nat) : MI l yX5_readFlag cX5_readFlag 2 .boolean { frames := 2, cells := 0, slots := 0, locals := 44 } [.ref h0, .int p0] D cy (wk_6dfdb8f2c cy h0 h1 p1 p2 p3 p4 h5 w0 p5 p6 h1 w1 p7 p8 h2 h3 h4 h2 f0 h3 f1 h4 f2 h5 p9 p0 p10 p11 w2 w3 w4 w5 h6 h7 h8 h9 h6 f3 h7 f4 h8 f5 h9 f6) sz (fun r u => (0 ≤ r.toInt ∧ r.toInt ≤ 1) ∧ ((-1) ≤ (u.2.1 2 0).toInt ∧ (u.2.1 2 0).toInt ≤ 900) ∧ ((-2147483648) ≤ (u.2.1 3 0).toInt ∧ (u.2.1 3 0).toInt ≤ 2147483647) ∧ ((-2147483648) ≤ (u.2.1 4 0).toInt ∧ (u.2.1 4 0).toInt ≤ 2147483647) ∧ ((-2147483648) ≤ (u.2.1 5 0).toInt ∧ (u.2.1 5 0).toInt ≤ 2147483647) ∧ (0 ≤ ((u.2.1 2 0) : Int32).toInt ∧ ((u.2.1 2 0) : Int32).toInt < (p8 : Int32).toInt) ∧ (((u.2.1 4 0) : Int32).toInt ≠ 0 ∨ ((u.2.1 3 0) : Int32).toInt = 26 ∨ ((u.2.1 3 0) : Int32).toInt = 27 ∨ ((u.2.1 2 0) : Int32).toInt + 1 < (p8 : Int32).toInt) ∧ (((u.2.1 4 0) : Int32).toInt = 0 ∨ ((u.2.1 3 0) : Int32).toInt = 27) ∧ (((u.2.1 4 0) : Int32).toInt ≠ 0 ∨ (p3 : Int32).toInt = 0) ∧ ((p1 : Int32).toInt ≤ ((u.2.1 2 0) : Int32).toInt) ∧ (ALT (r : Int32).toInt 0 1 (isFl (p2 : Int32).toInt = false ∧ ((u.2.1 2 0) : Int32).toInt = (p1 : Int32).toInt ∧ ((u.2.1 3 0) : Int32).toInt = (p2 : Int32).toInt ∧ ((u.2.1 4 0) : Int32).toInt = (p3 : Int32).toInt ∧ ((u.2.1 5 0) : Int32).toInt = (p4 : Int32).toInt) (isFl (p2 : Int32).toInt = true ∧ SIM f0 f1 f2 (p8 : Int32).toInt flag1 (p1 : Int32).toInt (p2 : Int32).toInt (p3 : Int32).toInt (p4 : Int32).toInt ((u.2.1 2 0) : Int32).toInt ((u.2.1 3 0) : Int32).toInt ((u.2.1 4 0) : Int32).toInt ((u.2.1 5 0) : Int32).toInt)) ∧ ((r : Int32).toInt = 0 ∨ ((u.2.1 4 0) : Int32).toInt ≠ 0 ∨ (p1 : Int32).toInt + 1 ≤ ((u.2.1 2 0) : Int32).toInt) ∧ True) (fun u => (wk_6dfdb8f2c cy h0 h1 (u.2.1 2 0) (u.2.1 3 0) (u.2.1 4 0) (u.2.1 5 0) h5 w0 p5 p6 h1 w1 p7 p8 h2 h3 h4 h2 f0 h3 f1 h4 f2 h5 p9 p0 p10 p11 w2 w3 w4 w5 h6 h7 h8 h9 h6 (u.2.1 0) h7 (u.2.1 1) h8 (u.2.1 6) h9 (u.2.1 7))) 0 0 := by
  refine q_ent (own := RX5) (by decide) rfl (Nat.le_of_ble_eq_true rfl) (fun p e s m below meth c ls X hr hlk hnm hK hT h hA hl => ?_)
  obtain ⟨hx, hb, hml, hown, ht⟩ := id X
  replace hl : lv_has ls 2 [(0, .ref h0), (1, .int p0)] := hl
  refine lv_aload_n hx hb dX5_readFlag_0 rfl (lv_at hl 0 rfl) ?_
  refine q_get X hK h 0 rfl rfl wf_5 2 (by decide) rfl wm_1_146 dX5_readFlag_1 ?_
  by_cases c_1 : p2 = 14
  · have ec_1 : (p2).toInt = 14 := by rw [c_1]; decide
    refine lv_tableIn (off := 32) (tgt := 36) hx hb dX5_readFlag_4 (by rw [c_1]; decide +kernel) (by rw [c_1]; decide +kernel) (by rw [c_1]; decide +kernel) (by decide) ?_
    refine lv_aload_n hx hb dX5_readFlag_36 rfl (lv_at hl 0 rfl) ?_
    refine q_callVv (rest := []) (wr := (wk_c6d07a17f cy h4 f2 h5 p9 p0 p10 p11 w2 w3 w4 w5 h6 h7 h8 h9 h6 f3 h7 f4 h8 f5 h9 f6)) X hK hT hA h (fun sz => gX5_advance_9820dfe l D cy h0 h1 h2 h3 p1 p2 p3 p4 (.ref h5) w0 p5 p6 w1 p7 p8 (.ref h4) f0 f1 hp1 (i_rng _) (i_rng _) (i_rng _) hp5 (i_rng _) hp7 hp8 (hpre0) (hpre3) (by (first | (clear hpre2 hpre3; omega) | omega)) sz) wm_3_68 wm_3_71 wm_1_2 hd_X5_advance wm_3_70 wp_1_8 (ci := 5) (q0 := 0) rfl rfl ⟨Nat.le_of_ble_eq_true rfl, Nat.le_of_ble_eq_true rfl⟩ hl.1 rfl (Nat.le_of_ble_eq_true rfl) dX5_readFlag_37 ⟨Nat.le_of_ble_eq_true rfl, Nat.le_of_ble_eq_true rfl⟩ [0, 1, 2, 3] [4, 5, 6, 7, 8, 9] rfl rfl (by decide) rfl rfl (fun u_2 H locs w_2 h_2 => ?_)
    clear h
    obtain ⟨w2_0, w2_1, w2_2, w2_3, y2_0, y2_1, y2_2, y2_3, y2_4, y2_5, y2_6, _⟩ := w_2
    replace h_2 : qW D _ _ (wk_95b3593d1 cy h4 f2 h5 p9 p0 p10 p11 w2 w3 w4 w5 h6 h7 h8 h9 h6 f3 h7 f4 h8 f5 h9 f6 h0 h1 (u_2.2.1 0 0) (u_2.2.1 1 0) (u_2.2.1 2 0) (u_2.2.1 3 0) h5 w0 p5 p6 h1 w1 p7 p8 h2 h3 h4 h2 f0 h3 f1) _ _ := h_2
    refine lv_aload_n hx hb dX5_readFlag_40 rfl (lv_at hl 0 rfl) ?_
    refine q_get X hK h_2 6 rfl rfl wf_5 5 (by decide) rfl wm_1_151 dX5_readFlag_41 ?_
    refine q_get X hK h_2 1 rfl rfl wf_3 8 (by decide) rfl wm_1_108 dX5_readFlag_44 ?_
    refine lv_iload_n hx hb dX5_readFlag_47 rfl (lv_at hl 1 rfl) ?_
    refine lv_aload_n hx hb dX5_readFlag_48 rfl (lv_at hl 0 rfl) ?_
    refine lv_iconst (v := 0) hx hb dX5_readFlag_49 (by decide) ?_
    refine lv_sipush (v := 999) hx hb dX5_readFlag_50 (by decide) ?_
    refine q_callVi (rest := [.int p0, .ref h6]) (wr := (wk_6e746cde0 cy h5 p9 p0 p10 p11 w2 w3 w4 w5 h6 h7 h8 h9 h6 f3 h7 f4 h8 f5 h9 f6)) X hK hT hA h_2 (fun sz => gX5_takeNumber_7db443e l D cy h0 h1 h2 h3 h4 (u_2.2.1 0 0) (u_2.2.1 1 0) (u_2.2.1 2 0) (u_2.2.1 3 0) (.ref h5) w0 p5 p6 w1 p7 p8 f0 f1 f2 w2_0 (i_rng _) (i_rng _) (i_rng _) hp5 (i_rng _) hp7 hp8 (hpre0) (y2_0) (by (first | (clear hpre2 hpre3 y2_1 y2_2 y2_4 y2_5; omega) | omega)) (y2_5) sz) wm_3_80 wm_3_83 wm_1_2 hd_X5_takeNumber wm_3_82 wp_1_11 (ci := 5) (q0 := 0) rfl rfl ⟨Nat.le_of_ble_eq_true rfl, Nat.le_of_ble_eq_true rfl⟩ hl.1 rfl (Nat.le_of_ble_eq_true rfl) dX5_readFlag_53 ⟨Nat.le_of_ble_eq_true rfl, Nat.le_of_ble_eq_true rfl⟩ [6, 7, 8, 9, 0] [1, 2, 3, 4, 5] rfl rfl (by decide) rfl rfl (fun r_3 u_3 H locs w_3 h_3 => ?_)
    clear h_2
    obtain ⟨wr_3, w3_0, w3_1, w3_2, w3_3, y3_0, y3_1, y3_2, y3_3, y3_4, y3_5, y3_6, y3_7, _⟩ := w_3
    have lq_3_1 : (0 : Int32).toInt = 0 := (by decide)
    have lq_3_2 : (999 : Int32).toInt = 999 := (by decide)
    replace h_3 : qW D _ _ (wk_85b1c7a9f cy h5 p9 p0 p10 p11 w2 w3 w4 w5 h6 h7 h8 h9 h6 f3 h7 f4 h8 f5 h9 f6 h0 h1 (u_3.2.1 3 0) (u_3.2.1 0 0) (u_3.2.1 1 0) (u_3.2.1 2 0) h5 w0 p5 p6 h1 w1 p7 p8 h2 h3 h4 h2 f0 h3 f1 h4 f2) _ _ := h_3
    refine q_iast X hK h_3 1 rfl (i_in rfl (by omega) (by omega)) dX5_readFlag_56 (fun H locs h_5 => ?_)
    clear h_3
    replace h_5 : qW D _ _ (wk_85b1c7a9f cy h5 p9 p0 p10 p11 w2 w3 w4 w5 h6 h7 h8 h9 h6 (upd f3 (Int32.toNatClampNeg p0) r_3) h7 f4 h8 f5 h9 f6 h0 h1 (u_3.2.1 3 0) (u_3.2.1 0 0) (u_3.2.1 1 0) (u_3.2.1 2 0) h5 w0 p5 p6 h1 w1 p7 p8 h2 h3 h4 h2 f0 h3 f1 h4 f2) _ _ := h_5
    obtain ⟨F_4, eF_4⟩ : ∃ z, (upd f3 (Int32.toNatClampNeg p0) r_3) = z := ⟨_, rfl⟩
    rw [eF_4] at h_5
    refine lv_aload_n hx hb dX5_readFlag_57 rfl (lv_at hl 0 rfl) ?_
    refine lv_bipush (v := 15) hx hb dX5_readFlag_58 (by decide) ?_
    refine q_callVv (rest := []) (wr := [(h5, .inr (3, [.int p9, .int p0, .int p10, .int p11, w2, w3, w4, w5, .ref h6, .ref h7, .ref h8, .ref h9])), (h6, .inl (cy 1, 10, .inl F_4)), (h7, .inl (cy 1, 10, .inl f4)), (h8, .inl (cy 1, 10, .inl f5)), (h9, .inl (cy 1, 10, .inl f6)), (h4, .inl (cy 1, 901, .inl f2))]) X hK hT hA h_5 (fun sz => gX5_take_4548c15 l D cy h0 h1 h2 h3 (u_3.2.1 3 0) (u_3.2.1 0 0) (u_3.2.1 1 0) (u_3.2.1 2 0) (.ref h5) w0 p5 p6 w1 p7 p8 (.ref h4) f0 f1 w3_3 (i_rng _) (i_rng _) (i_rng _) hp5 (i_rng _) hp7 hp8 (hpre0) (y3_0) (y3_1) (y3_4) (by have q0 : (15 : Int32).toInt = 15 := (by decide); (first | (clear hpre2 hpre3 y2_1 y2_2 y2_4 y2_5 y3_1 y3_2 y3_3 y3_4; omega) | omega)) sz) wm_3_72 wm_3_75 wm_1_2 hd_X5_take wm_3_74 wp_1_9 (ci := 5) (q0 := 0) rfl rfl ⟨Nat.le_of_ble_eq_true rfl, Nat.le_of_ble_eq_true rfl⟩ hl.1 rfl (Nat.le_of_ble_eq_true rfl) dX5_readFlag_60 ⟨Nat.le_of_ble_eq_true rfl, Nat.le_of_ble_eq_true rfl⟩ [5, 6, 7, 8] [0, 1, 2, 3, 4, 9] rfl rfl (by decide) rfl rfl (fun u_6 H locs w_6 h_6 => ?_)
    clear h_5
    obtain ⟨w6_0, w6_1, w6_2, w6_3, y6_0, y6_1, y6_2, y6_3, y6_4, y6_5, y6_6, _⟩ := w_6
    have lq_6_1 : (15 : Int32).toInt = 15 := (by decide)
    replace h_6 : qW D _ _ [(h5, .inr (3, [.int p9, .int p0, .int p10, .int p11, w2, w3, w4, w5, .ref h6, .ref h7, .ref h8, .ref h9])), (h6, .inl (cy 1, 10, .inl F_4)), (h7, .inl (cy 1, 10, .inl f4)), (h8, .inl (cy 1, 10, .inl f5)), (h9, .inl (cy 1, 10, .inl f6)), (h4, .inl (cy 1, 901, .inl f2)), (h0, .inr (5, [.ref h1, .int (u_6.2.1 3 0), .int (u_6.2.1 0 0), .int (u_6.2.1 1 0), .int (u_6.2.1 2 0), .ref h5, w0, .int p5, .int p6])), (h1, .inr (8, [w1, .int p7, .int p8, .ref h2, .ref h3, .ref h4])), (h2, .inl (cy 1, 901, .inl f0)), (h3, .inl (cy 1, 901, .inl f1))] _ _ := h_6
    refine lv_aload_n hx hb dX5_readFlag_63 rfl (lv_at hl 0 rfl) ?_
    refine q_get X hK h_6 6 rfl rfl wf_5 5 (by decide) rfl wm_1_151 dX5_readFlag_64 ?_
    refine q_get X hK h_6 0 rfl rfl wf_3 9 (by decide) rfl wm_1_112 dX5_readFlag_67 ?_
    refine lv_iload_n hx hb dX5_readFlag_70 rfl (lv_at hl 1 rfl) ?_
    refine lv_aload_n hx hb dX5_readFlag_71 rfl (lv_at hl 0 rfl) ?_
    refine lv_aload_n hx hb dX5_readFlag_72 rfl (lv_at hl 0 rfl) ?_
    refine q_get X hK h_6 6 rfl rfl wf_5 5 (by decide) rfl wm_1_151 dX5_readFlag_73 ?_
    refine q_get X hK h_6 0 rfl rfl wf_3 8 (by decide) rfl wm_1_108 dX5_readFlag_76 ?_
    refine lv_iload_n hx hb dX5_readFlag_79 rfl (lv_at hl 1 rfl) ?_
    refine q_iald X hK h_6 1 rfl (i_in rfl (by omega) (by omega)) dX5_readFlag_80 ?_
    obtain ⟨z_7, ez_7, hz_7⟩ := e_any (F_4 p0.toNatClampNeg)
    refine q_c z_7 ez_7 ?_
    have ls_8 := ld_st eF_4 ez_7
    refine lv_sipush (v := 999) hx hb dX5_readFlag_81 (by decide) ?_
    refine q_callVi (rest := [.int p0, .ref h7]) (wr := (wk_6e746cde0 cy h5 p9 p0 p10 p11 w2 w3 w4 w5 h6 h7 h8 h9 h6 F_4 h7 f4 h8 f5 h9 f6)) X hK hT hA h_6 (fun sz => gX5_takeNumber_f1ade24 l D cy h0 h1 h2 h3 h4 z_7 (u_6.2.1 3 0) (u_6.2.1 0 0) (u_6.2.1 1 0) (u_6.2.1 2 0) (.ref h5) w0 p5 p6 w1 p7 p8 f0 f1 f2 (i_rng _) w6_3 (i_rng _) (i_rng _) (i_rng _) hp5 (i_rng _) hp7 hp8 (hpre0) (y6_0) (y6_1) (y6_4) sz) wm_3_80 wm_3_83 wm_1_2 hd_X5_takeNumber wm_3_82 wp_1_11 (ci := 5) (q0 := 0) rfl rfl ⟨Nat.le_of_ble_eq_true rfl, Nat.le_of_ble_eq_true rfl⟩ hl.1 rfl (Nat.le_of_ble_eq_true rfl) dX5_readFlag_84 ⟨Nat.le_of_ble_eq_true rfl, Nat.le_of_ble_eq_true rfl⟩ [6, 7, 8, 9, 5] [0, 1, 2, 3, 4] rfl rfl (by decide) rfl rfl (fun r_9 u_9 H locs w_9 h_9 => ?_)
    clear h_6
    obtain ⟨wr_9, w9_0, w9_1, w9_2, w9_3, y9_0, y9_1, y9_2, y9_3, y9_4, y9_5, y9_6, y9_7, _⟩ := w_9
    have lq_9_2 : (999 : Int32).toInt = 999 := (by decide)
    replace h_9 : qW D _ _ (wk_85b1c7a9f cy h5 p9 p0 p10 p11 w2 w3 w4 w5 h6 h7 h8 h9 h6 F_4 h7 f4 h8 f5 h9 f6 h0 h1 (u_9.2.1 3 0) (u_9.2.1 0 0) (u_9.2.1 1 0) (u_9.2.1 2 0) h5 w0 p5 p6 h1 w1 p7 p8 h2 h3 h4 h2 f0 h3 f1 h4 f2) _ _ := h_9
    refine q_iast X hK h_9 2 rfl (i_in rfl (by omega) (by omega)) dX5_readFlag_87 (fun H locs h_11 => ?_)
    clear h_9
    replace h_11 : qW D _ _ (wk_85b1c7a9f cy h5 p9 p0 p10 p11 w2 w3 w4 w5 h6 h7 h8 h9 h6 F_4 h7 (upd f4 (Int32.toNatClampNeg p0) r_9) h8 f5 h9 f6 h0 h1 (u_9.2.1 3 0) (u_9.2.1 0 0) (u_9.2.1 1 0) (u_9.2.1 2 0) h5 w0 p5 p6 h1 w1 p7 p8 h2 h3 h4 h2 f0 h3 f1 h4 f2) _ _ := h_11
    obtain ⟨F_10, eF_10⟩ : ∃ z, (upd f4 (Int32.toNatClampNeg p0) r_9) = z := ⟨_, rfl⟩
    rw [eF_10] at h_11
    clear eF_10
    refine lv_iconst (v := 1) hx hb dX5_readFlag_88 (by decide) ?_
    exact q_iret X hr hlk hK h_11 rfl (fun _ => 0, (vcons F_4 (vcons F_10 (vcons (fun _ => (u_9.2.1 3 0)) (vcons (fun _ => (u_9.2.1 0 0)) (vcons (fun _ => (u_9.2.1 1 0)) (vcons (fun _ => (u_9.2.1 2 0)) (vcons f5 (vcons f6 (fun _ => (fun _ => 0)))))))))), fun _ _ => 0) ⟨⟨by decide +kernel, by decide +kernel⟩, w9_3, w9_0, w9_1, w9_2, y9_0, y9_1, y9_4, (show ((u_9.2.1 1 0) : Int32).toInt ≠ 0 ∨ (p3 : Int32).toInt = 0 from (fl_tr y9_3 (fl_tr y6_3 (fl_tr y3_3 y2_2)))), (show (p1 : Int32).toInt ≤ ((u_9.2.1 3 0) : Int32).toInt from (Int.le_trans (Int.le_trans (Int.le_trans y2_3 y3_5) y6_5) y9_5)), (show ALT (1 : Int32).toInt 0 1 (isFl (p2 : Int32).toInt = false ∧ ((u_9.2.1 3 0) : Int32).toInt = (p1 : Int32).toInt ∧ ((u_9.2.1 0 0) : Int32).toInt = (p2 : Int32).toInt ∧ ((u_9.2.1 1 0) : Int32).toInt = (p3 : Int32).toInt ∧ ((u_9.2.1 2 0) : Int32).toInt = (p4 : Int32).toInt) (isFl (p2 : Int32).toInt = true ∧ SIM f0 f1 f2 (p8 : Int32).toInt flag1 (p1 : Int32).toInt (p2 : Int32).toInt (p3 : Int32).toInt (p4 : Int32).toInt ((u_9.2.1 3 0) : Int32).toInt ((u_9.2.1 0 0) : Int32).toInt ((u_9.2.1 1 0) : Int32).toInt ((u_9.2.1 2 0) : Int32).toInt) from Or.inr ⟨by decide, fl_yes (by (first | assumption | (clear hpre2 hpre3 y2_1 y2_2 y2_4 y2_5 y3_1 y3_2 y3_3 y3_4 y6_1 y6_2 y6_3 y6_4 y9_1 y9_2 y9_3 y9_4; omega) | omega)), sim_fl1 (by (first | assumption | (clear hpre2 hpre3 y2_1 y2_2 y2_4 y2_5 y3_1 y3_2 y3_3 y3_4 y6_1 y6_2 y6_3 y6_4 y9_1 y9_2 y9_3 y9_4; omega) | omega)) y2_6 (by (first | assumption | (clear hpre2 hpre3 y2_1 y2_2 y2_4 y2_5 y3_1 y3_2 y3_3 y3_4 y6_1 y6_2 y6_3 y6_4 y9_1 y9_2 y9_3 y9_4; omega) | omega)) y3_6 (by (first | assumption | (clear hpre2 hpre3 y2_1 y2_2 y2_4 y2_5 y3_1 y3_2 y3_3 y3_4 y6_1 y6_2 y6_3 y6_4 y9_1 y9_2 y9_3 y9_4; omega) | omega)) (by (first | assumption | (clear hpre2 hpre3 y2_1 y2_2 y2_4 y2_5 y3_1 y3_2 y3_3 y3_4 y6_1 y6_2 y6_3 y6_4 y9_1 y9_2 y9_3 y9_4; omega) | omega)) y3_7 (y6_6 _) (by (first | assumption | (clear hpre2 hpre3 y2_1 y2_2 y2_4 y2_5 y3_1 y3_2 y3_3 y3_4 y6_1 y6_2 y6_3 y6_4 y9_1 y9_2 y9_3 y9_4; omega) | omega)) y9_6⟩), (show (1 : Int32).toInt = 0 ∨ ((u_9.2.1 1 0) : Int32).toInt ≠ 0 ∨ (p1 : Int32).toInt + 1 ≤ ((u_9.2.1 3 0) : Int32).toInt from by have q0 : (1 : Int32).toInt = 1 := (by decide); (first | (clear hpre2 hpre3 y2_1 y2_2 y2_4 y2_5 y3_1 y3_2 y3_3 y3_4 y6_1 y6_2 y6_3 y6_4 y9_1 y9_2 y9_3 y9_4; omega) | omega)), trivial⟩ [5, 6, 7, 8, 9, 0, 1, 2, 3, 4] rfl rfl dX5_readFlag_89 (Nat.le_of_ble_eq_true rfl) (Nat.le_of_ble_eq_true rfl)
  by_cases c_12 : p2 = 15
  · have ec_12 : (p2).toInt = 15 := by rw [c_12]; decide
    refine lv_tableIn (off := 130) (tgt := 134) hx hb dX5_readFlag_4 (by rw [c_12]; decide +kernel) (by rw [c_12]; decide +kernel) (by rw [c_12]; decide +kernel) (by decide) ?_
    refine lv_iconst (v := 0) hx hb dX5_readFlag_134 (by decide) ?_
    exact q_iret X hr hlk hK h rfl (fun _ => 0, (vcons f3 (vcons f4 (vcons (fun _ => p1) (vcons (fun _ => p2) (vcons (fun _ => p3) (vcons (fun _ => p4) (vcons f5 (vcons f6 (fun _ => (fun _ => 0)))))))))), fun _ _ => 0) ⟨⟨by decide +kernel, by decide +kernel⟩, hp1, hp2, hp3, hp4, hpre1, hpre2, hpre3, (show (p3 : Int32).toInt ≠ 0 ∨ (p3 : Int32).toInt = 0 from (ne_or _)), (show (p1 : Int32).toInt ≤ (p1 : Int32).toInt from (Int.le_refl _)), (show ALT (0 : Int32).toInt 0 1 (isFl (p2 : Int32).toInt = false ∧ (p1 : Int32).toInt = (p1 : Int32).toInt ∧ (p2 : Int32).toInt = (p2 : Int32).toInt ∧ (p3 : Int32).toInt = (p3 : Int32).toInt ∧ (p4 : Int32).toInt = (p4 : Int32).toInt) (isFl (p2 : Int32).toInt = true ∧ SIM f0 f1 f2 (p8 : Int32).toInt flag1 (p1 : Int32).toInt (p2 : Int32).toInt (p3 : Int32).toInt (p4 : Int32).toInt (p1 : Int32).toInt (p2 : Int32).toInt (p3 : Int32).toInt (p4 : Int32).toInt) from Or.inl ⟨by decide, fl_no (by (first | assumption | (clear hpre2 hpre3; omega) | omega)), rfl, rfl, rfl, rfl⟩), (show (0 : Int32).toInt = 0 ∨ (p3 : Int32).toInt ≠ 0 ∨ (p1 : Int32).toInt + 1 ≤ (p1 : Int32).toInt from by have q0 : (0 : Int32).toInt = 0 := (by decide); (first | (clear hpre2 hpre3; omega) | omega)), trivial⟩ [0, 1, 2, 3, 4, 5, 6, 7, 8, 9] rfl rfl dX5_readFlag_135 (Nat.le_of_ble_eq_true rfl) (Nat.le_of_ble_eq_true rfl)
  by_cases c_13 : p2 = 16
  · have ec_13 : (p2).toInt = 16 := by rw [c_13]; decide
    refine lv_tableIn (off := 86) (tgt := 90) hx hb dX5_readFlag_4 (by rw [c_13]; decide +kernel) (by rw [c_13]; decide +kernel) (by rw [c_13]; decide +kernel) (by decide) ?_
    refine lv_aload_n hx hb dX5_readFlag_90 rfl (lv_at hl 0 rfl) ?_
    refine q_callVv (rest := []) (wr := (wk_c6d07a17f cy h4 f2 h5 p9 p0 p10 p11 w2 w3 w4 w5 h6 h7 h8 h9 h6 f3 h7 f4 h8 f5 h9 f6)) X hK hT hA h (fun sz => gX5_advance_9820dfe l D cy h0 h1 h2 h3 p1 p2 p3 p4 (.ref h5) w0 p5 p6 w1 p7 p8 (.ref h4) f0 f1 hp1 (i_rng _) (i_rng _) (i_rng _) hp5 (i_rng _) hp7 hp8 (hpre0) (hpre3) (by (first | (clear hpre2 hpre3; omega) | omega)) sz) wm_3_68 wm_3_71 wm_1_2 hd_X5_advance wm_3_70 wp_1_8 (ci := 5) (q0 := 0) rfl rfl ⟨Nat.le_of_ble_eq_true rfl, Nat.le_of_ble_eq_true rfl⟩ hl.1 rfl (Nat.le_of_ble_eq_true rfl) dX5_readFlag_91 ⟨Nat.le_of_ble_eq_true rfl, Nat.le_of_ble_eq_true rfl⟩ [0, 1, 2, 3] [4, 5, 6, 7, 8, 9] rfl rfl (by decide) rfl rfl (fun u_14 H locs w_14 h_14 => ?_)
    clear h
    obtain ⟨w14_0, w14_1, w14_2, w14_3, y14_0, y14_1, y14_2, y14_3, y14_4, y14_5, y14_6, _⟩ := w_14
    replace h_14 : qW D _ _ (wk_95b3593d1 cy h4 f2 h5 p9 p0 p10 p11 w2 w3 w4 w5 h6 h7 h8 h9 h6 f3 h7 f4 h8 f5 h9 f6 h0 h1 (u_14.2.1 0 0) (u_14.2.1 1 0) (u_14.2.1 2 0) (u_14.2.1 3 0) h5 w0 p5 p6 h1 w1 p7 p8 h2 h3 h4 h2 f0 h3 f1) _ _ := h_14
    refine lv_aload_n hx hb dX5_readFlag_94 rfl (lv_at hl 0 rfl) ?_
    refine q_get X hK h_14 6 rfl rfl wf_5 5 (by decide) rfl wm_1_151 dX5_readFlag_95 ?_
    refine q_get X hK h_14 1 rfl rfl wf_3 10 (by decide) rfl wm_1_115 dX5_readFlag_98 ?_
    refine lv_iload_n hx hb dX5_readFlag_101 rfl (lv_at hl 1 rfl) ?_
    refine lv_aload_n hx hb dX5_readFlag_102 rfl (lv_at hl 0 rfl) ?_
    refine lv_iconst (v := 0) hx hb dX5_readFlag_103 (by decide) ?_
    refine lv_bipush (v := 10) hx hb dX5_readFlag_104 (by decide) ?_
    refine q_callVi (rest := [.int p0, .ref h8]) (wr := (wk_6e746cde0 cy h5 p9 p0 p10 p11 w2 w3 w4 w5 h6 h7 h8 h9 h6 f3 h7 f4 h8 f5 h9 f6)) X hK hT hA h_14 (fun sz => gX5_takeNumber_6ae0c88 l D cy h0 h1 h2 h3 h4 (u_14.2.1 0 0) (u_14.2.1 1 0) (u_14.2.1 2 0) (u_14.2.1 3 0) (.ref h5) w0 p5 p6 w1 p7 p8 f0 f1 f2 w14_0 (i_rng _) (i_rng _) (i_rng _) hp5 (i_rng _) hp7 hp8 (hpre0) (y14_0) (by (first | (clear hpre2 hpre3 y14_1 y14_2 y14_4 y14_5; omega) | omega)) (y14_5) sz) wm_3_80 wm_3_83 wm_1_2 hd_X5_takeNumber wm_3_82 wp_1_11 (ci := 5) (q0 := 0) rfl rfl ⟨Nat.le_of_ble_eq_true rfl, Nat.le_of_ble_eq_true rfl⟩ hl.1 rfl (Nat.le_of_ble_eq_true rfl) dX5_readFlag_106 ⟨Nat.le_of_ble_eq_true rfl, Nat.le_of_ble_eq_true rfl⟩ [6, 7, 8, 9, 0] [1, 2, 3, 4, 5] rfl rfl (by decide) rfl rfl (fun r_15 u_15 H locs w_15 h_15 => ?_)
    clear h_14
    obtain ⟨wr_15, w15_0, w15_1, w15_2, w15_3, y15_0, y15_1, y15_2, y15_3, y15_4, y15_5, y15_6, y15_7, _⟩ := w_15
    have lq_15_1 : (0 : Int32).toInt = 0 := (by decide)
    have lq_15_2 : (10 : Int32).toInt = 10 := (by decide)
    replace h_15 : qW D _ _ (wk_85b1c7a9f cy h5 p9 p0 p10 p11 w2 w3 w4 w5 h6 h7 h8 h9 h6 f3 h7 f4 h8 f5 h9 f6 h0 h1 (u_15.2.1 3 0) (u_15.2.1 0 0) (u_15.2.1 1 0) (u_15.2.1 2 0) h5 w0 p5 p6 h1 w1 p7 p8 h2 h3 h4 h2 f0 h3 f1 h4 f2) _ _ := h_15
    refine q_iast X hK h_15 3 rfl (i_in rfl (by omega) (by omega)) dX5_readFlag_109 (fun H locs h_17 => ?_)
    clear h_15
    replace h_17 : qW D _ _ (wk_85b1c7a9f cy h5 p9 p0 p10 p11 w2 w3 w4 w5 h6 h7 h8 h9 h6 f3 h7 f4 h8 (upd f5 (Int32.toNatClampNeg p0) r_15) h9 f6 h0 h1 (u_15.2.1 3 0) (u_15.2.1 0 0) (u_15.2.1 1 0) (u_15.2.1 2 0) h5 w0 p5 p6 h1 w1 p7 p8 h2 h3 h4 h2 f0 h3 f1 h4 f2) _ _ := h_17
    obtain ⟨F_16, eF_16⟩ : ∃ z, (upd f5 (Int32.toNatClampNeg p0) r_15) = z := ⟨_, rfl⟩
    rw [eF_16] at h_17
    clear eF_16
    refine lv_iconst (v := 1) hx hb dX5_readFlag_110 (by decide) ?_
    exact q_iret X hr hlk hK h_17 rfl (fun _ => 0, (vcons f3 (vcons f4 (vcons (fun _ => (u_15.2.1 3 0)) (vcons (fun _ => (u_15.2.1 0 0)) (vcons (fun _ => (u_15.2.1 1 0)) (vcons (fun _ => (u_15.2.1 2 0)) (vcons F_16 (vcons f6 (fun _ => (fun _ => 0)))))))))), fun _ _ => 0) ⟨⟨by decide +kernel, by decide +kernel⟩, w15_3, w15_0, w15_1, w15_2, y15_0, y15_1, y15_4, (show ((u_15.2.1 1 0) : Int32).toInt ≠ 0 ∨ (p3 : Int32).toInt = 0 from (fl_tr y15_3 y14_2)), (show (p1 : Int32).toInt ≤ ((u_15.2.1 3 0) : Int32).toInt from (Int.le_trans y14_3 y15_5)), (show ALT (1 : Int32).toInt 0 1 (isFl (p2 : Int32).toInt = false ∧ ((u_15.2.1 3 0) : Int32).toInt = (p1 : Int32).toInt ∧ ((u_15.2.1 0 0) : Int32).toInt = (p2 : Int32).toInt ∧ ((u_15.2.1 1 0) : Int32).toInt = (p3 : Int32).toInt ∧ ((u_15.2.1 2 0) : Int32).toInt = (p4 : Int32).toInt) (isFl (p2 : Int32).toInt = true ∧ SIM f0 f1 f2 (p8 : Int32).toInt flag1 (p1 : Int32).toInt (p2 : Int32).toInt (p3 : Int32).toInt (p4 : Int32).toInt ((u_15.2.1 3 0) : Int32).toInt ((u_15.2.1 0 0) : Int32).toInt ((u_15.2.1 1 0) : Int32).toInt ((u_15.2.1 2 0) : Int32).toInt) from Or.inr ⟨by decide, fl_yes (by (first | assumption | (clear hpre2 hpre3 y14_1 y14_2 y14_4 y14_5 y15_1 y15_2 y15_3 y15_4; omega) | omega)), sim_fl2 (by (first | assumption | (clear hpre2 hpre3 y14_1 y14_2 y14_4 y14_5 y15_1 y15_2 y15_3 y15_4; omega) | omega)) y14_6 (by (first | assumption | (clear hpre2 hpre3 y14_1 y14_2 y14_4 y14_5 y15_1 y15_2 y15_3 y15_4; omega) | omega)) y15_6⟩), (show (1 : Int32).toInt = 0 ∨ ((u_15.2.1 1 0) : Int32).toInt ≠ 0 ∨ (p1 : Int32).toInt + 1 ≤ ((u_15.2.1 3 0) : Int32).toInt from by have q0 : (1 : Int32).toInt = 1 := (by decide); (first | (clear hpre2 hpre3 y14_1 y14_2 y14_4 y14_5 y15_1 y15_2 y15_3 y15_4; omega) | omega)), trivial⟩ [5, 6, 7, 8, 9, 0, 1, 2, 3, 4] rfl rfl dX5_readFlag_111 (Nat.le_of_ble_eq_true rfl) (Nat.le_of_ble_eq_true rfl)
  by_cases c_18 : p2 = 17
  · have ec_18 : (p2).toInt = 17 := by rw [c_18]; decide
    refine lv_tableIn (off := 108) (tgt := 112) hx hb dX5_readFlag_4 (by rw [c_18]; decide +kernel) (by rw [c_18]; decide +kernel) (by rw [c_18]; decide +kernel) (by decide) ?_
    refine lv_aload_n hx hb dX5_readFlag_112 rfl (lv_at hl 0 rfl) ?_
    refine q_callVv (rest := []) (wr := (wk_c6d07a17f cy h4 f2 h5 p9 p0 p10 p11 w2 w3 w4 w5 h6 h7 h8 h9 h6 f3 h7 f4 h8 f5 h9 f6)) X hK hT hA h (fun sz => gX5_advance_9820dfe l D cy h0 h1 h2 h3 p1 p2 p3 p4 (.ref h5) w0 p5 p6 w1 p7 p8 (.ref h4) f0 f1 hp1 (i_rng _) (i_rng _) (i_rng _) hp5 (i_rng _) hp7 hp8 (hpre0) (hpre3) (by (first | (clear hpre2 hpre3; omega) | omega)) sz) wm_3_68 wm_3_71 wm_1_2 hd_X5_advance wm_3_70 wp_1_8 (ci := 5) (q0 := 0) rfl rfl ⟨Nat.le_of_ble_eq_true rfl, Nat.le_of_ble_eq_true rfl⟩ hl.1 rfl (Nat.le_of_ble_eq_true rfl) dX5_readFlag_113 ⟨Nat.le_of_ble_eq_true rfl, Nat.le_of_ble_eq_true rfl⟩ [0, 1, 2, 3] [4, 5, 6, 7, 8, 9] rfl rfl (by decide) rfl rfl (fun u_19 H locs w_19 h_19 => ?_)
    clear h
    obtain ⟨w19_0, w19_1, w19_2, w19_3, y19_0, y19_1, y19_2, y19_3, y19_4, y19_5, y19_6, _⟩ := w_19
    replace h_19 : qW D _ _ (wk_95b3593d1 cy h4 f2 h5 p9 p0 p10 p11 w2 w3 w4 w5 h6 h7 h8 h9 h6 f3 h7 f4 h8 f5 h9 f6 h0 h1 (u_19.2.1 0 0) (u_19.2.1 1 0) (u_19.2.1 2 0) (u_19.2.1 3 0) h5 w0 p5 p6 h1 w1 p7 p8 h2 h3 h4 h2 f0 h3 f1) _ _ := h_19
    refine lv_aload_n hx hb dX5_readFlag_116 rfl (lv_at hl 0 rfl) ?_
    refine q_get X hK h_19 6 rfl rfl wf_5 5 (by decide) rfl wm_1_151 dX5_readFlag_117 ?_
    refine q_get X hK h_19 1 rfl rfl wf_3 11 (by decide) rfl wm_1_118 dX5_readFlag_120 ?_
    refine lv_iload_n hx hb dX5_readFlag_123 rfl (lv_at hl 1 rfl) ?_
    refine lv_aload_n hx hb dX5_readFlag_124 rfl (lv_at hl 0 rfl) ?_
    refine lv_iconst (v := 1) hx hb dX5_readFlag_125 (by decide) ?_
    refine lv_bipush (v := 99) hx hb dX5_readFlag_126 (by decide) ?_
    refine q_callVi (rest := [.int p0, .ref h9]) (wr := (wk_6e746cde0 cy h5 p9 p0 p10 p11 w2 w3 w4 w5 h6 h7 h8 h9 h6 f3 h7 f4 h8 f5 h9 f6)) X hK hT hA h_19 (fun sz => gX5_takeNumber_bbeef74 l D cy h0 h1 h2 h3 h4 (u_19.2.1 0 0) (u_19.2.1 1 0) (u_19.2.1 2 0) (u_19.2.1 3 0) (.ref h5) w0 p5 p6 w1 p7 p8 f0 f1 f2 w19_0 (i_rng _) (i_rng _) (i_rng _) hp5 (i_rng _) hp7 hp8 (hpre0) (y19_0) (by (first | (clear hpre2 hpre3 y19_1 y19_2 y19_4 y19_5; omega) | omega)) (y19_5) sz) wm_3_80 wm_3_83 wm_1_2 hd_X5_takeNumber wm_3_82 wp_1_11 (ci := 5) (q0 := 0) rfl rfl ⟨Nat.le_of_ble_eq_true rfl, Nat.le_of_ble_eq_true rfl⟩ hl.1 rfl (Nat.le_of_ble_eq_true rfl) dX5_readFlag_128 ⟨Nat.le_of_ble_eq_true rfl, Nat.le_of_ble_eq_true rfl⟩ [6, 7, 8, 9, 0] [1, 2, 3, 4, 5] rfl rfl (by decide) rfl rfl (fun r_20 u_20 H locs w_20 h_20 => ?_)
    clear h_19
    obtain ⟨wr_20, w20_0, w20_1, w20_2, w20_3, y20_0, y20_1, y20_2, y20_3, y20_4, y20_5, y20_6, y20_7, _⟩ := w_20
    have lq_20_1 : (1 : Int32).toInt = 1 := (by decide)
    have lq_20_2 : (99 : Int32).toInt = 99 := (by decide)
    replace h_20 : qW D _ _ (wk_85b1c7a9f cy h5 p9 p0 p10 p11 w2 w3 w4 w5 h6 h7 h8 h9 h6 f3 h7 f4 h8 f5 h9 f6 h0 h1 (u_20.2.1 3 0) (u_20.2.1 0 0) (u_20.2.1 1 0) (u_20.2.1 2 0) h5 w0 p5 p6 h1 w1 p7 p8 h2 h3 h4 h2 f0 h3 f1 h4 f2) _ _ := h_20
    refine q_iast X hK h_20 4 rfl (i_in rfl (by omega) (by omega)) dX5_readFlag_131 (fun H locs h_22 => ?_)
    clear h_20
    replace h_22 : qW D _ _ (wk_85b1c7a9f cy h5 p9 p0 p10 p11 w2 w3 w4 w5 h6 h7 h8 h9 h6 f3 h7 f4 h8 f5 h9 (upd f6 (Int32.toNatClampNeg p0) r_20) h0 h1 (u_20.2.1 3 0) (u_20.2.1 0 0) (u_20.2.1 1 0) (u_20.2.1 2 0) h5 w0 p5 p6 h1 w1 p7 p8 h2 h3 h4 h2 f0 h3 f1 h4 f2) _ _ := h_22
    obtain ⟨F_21, eF_21⟩ : ∃ z, (upd f6 (Int32.toNatClampNeg p0) r_20) = z := ⟨_, rfl⟩
    rw [eF_21] at h_22
    clear eF_21
    refine lv_iconst (v := 1) hx hb dX5_readFlag_132 (by decide) ?_
    exact q_iret X hr hlk hK h_22 rfl (fun _ => 0, (vcons f3 (vcons f4 (vcons (fun _ => (u_20.2.1 3 0)) (vcons (fun _ => (u_20.2.1 0 0)) (vcons (fun _ => (u_20.2.1 1 0)) (vcons (fun _ => (u_20.2.1 2 0)) (vcons f5 (vcons F_21 (fun _ => (fun _ => 0)))))))))), fun _ _ => 0) ⟨⟨by decide +kernel, by decide +kernel⟩, w20_3, w20_0, w20_1, w20_2, y20_0, y20_1, y20_4, (show ((u_20.2.1 1 0) : Int32).toInt ≠ 0 ∨ (p3 : Int32).toInt = 0 from (fl_tr y20_3 y19_2)), (show (p1 : Int32).toInt ≤ ((u_20.2.1 3 0) : Int32).toInt from (Int.le_trans y19_3 y20_5)), (show ALT (1 : Int32).toInt 0 1 (isFl (p2 : Int32).toInt = false ∧ ((u_20.2.1 3 0) : Int32).toInt = (p1 : Int32).toInt ∧ ((u_20.2.1 0 0) : Int32).toInt = (p2 : Int32).toInt ∧ ((u_20.2.1 1 0) : Int32).toInt = (p3 : Int32).toInt ∧ ((u_20.2.1 2 0) : Int32).toInt = (p4 : Int32).toInt) (isFl (p2 : Int32).toInt = true ∧ SIM f0 f1 f2 (p8 : Int32).toInt flag1 (p1 : Int32).toInt (p2 : Int32).toInt (p3 : Int32).toInt (p4 : Int32).toInt ((u_20.2.1 3 0) : Int32).toInt ((u_20.2.1 0 0) : Int32).toInt ((u_20.2.1 1 0) : Int32).toInt ((u_20.2.1 2 0) : Int32).toInt) from Or.inr ⟨by decide, fl_yes (by (first | assumption | (clear hpre2 hpre3 y19_1 y19_2 y19_4 y19_5 y20_1 y20_2 y20_3 y20_4; omega) | omega)), sim_fl3 (by (first | assumption | (clear hpre2 hpre3 y19_1 y19_2 y19_4 y19_5 y20_1 y20_2 y20_3 y20_4; omega) | omega)) y19_6 (by (first | assumption | (clear hpre2 hpre3 y19_1 y19_2 y19_4 y19_5 y20_1 y20_2 y20_3 y20_4; omega) | omega)) y20_6⟩), (show (1 : Int32).toInt = 0 ∨ ((u_20.2.1 1 0) : Int32).toInt ≠ 0 ∨ (p1 : Int32).toInt + 1 ≤ ((u_20.2.1 3 0) : Int32).toInt from by have q0 : (1 : Int32).toInt = 1 := (by decide); (first | (clear hpre2 hpre3 y19_1 y19_2 y19_4 y19_5 y20_1 y20_2 y20_3 y20_4; omega) | omega)), trivial⟩ [5, 6, 7, 8, 9, 0, 1, 2, 3, 4] rfl rfl dX5_readFlag_133 (Nat.le_of_ble_eq_true rfl) (Nat.le_of_ble_eq_true rfl)
  have nc_1 := lv_neT c_1 (show (14 : Int32).toInt = 14 by decide)
  have nc_12 := lv_neT c_12 (show (15 : Int32).toInt = 15 by decide)
  have nc_13 := lv_neT c_13 (show (16 : Int32).toInt = 16 by decide)
  have nc_18 := lv_neT c_18 (show (17 : Int32).toInt = 17 by decide)
  refine lv_tableOut (tgt := 134) hx hb dX5_readFlag_4 (by omega) (by decide) ?_
  refine lv_iconst (v := 0) hx hb dX5_readFlag_134 (by decide) ?_
  exact q_iret X hr hlk hK h rfl (fun _ => 0, (vcons f3 (vcons f4 (vcons (fun _ => p1) (vcons (fun _ => p2) (vcons (fun _ => p3) (vcons (fun _ => p4) (vcons f5 (vcons f6 (fun _ => (fun _ => 0)))))))))), fun _ _ => 0) ⟨⟨by decide +kernel, by decide +kernel⟩, hp1, hp2, hp3, hp4, hpre1, hpre2, hpre3, (show (p3 : Int32).toInt ≠ 0 ∨ (p3 : Int32).toInt = 0 from (ne_or _)), (show (p1 : Int32).toInt ≤ (p1 : Int32).toInt from (Int.le_refl _)), (show ALT (0 : Int32).toInt 0 1 (isFl (p2 : Int32).toInt = false ∧ (p1 : Int32).toInt = (p1 : Int32).toInt ∧ (p2 : Int32).toInt = (p2 : Int32).toInt ∧ (p3 : Int32).toInt = (p3 : Int32).toInt ∧ (p4 : Int32).toInt = (p4 : Int32).toInt) (isFl (p2 : Int32).toInt = true ∧ SIM f0 f1 f2 (p8 : Int32).toInt flag1 (p1 : Int32).toInt (p2 : Int32).toInt (p3 : Int32).toInt (p4 : Int32).toInt (p1 : Int32).toInt (p2 : Int32).toInt (p3 : Int32).toInt (p4 : Int32).toInt) from Or.inl ⟨by decide, fl_no (by (first | assumption | (clear hpre2 hpre3; omega) | omega)), rfl, rfl, rfl, rfl⟩), (show (0 : Int32).toInt = 0 ∨ (p3 : Int32).toInt ≠ 0 ∨ (p1 : Int32).toInt + 1 ≤ (p1 : Int32).toInt from by have q0 : (0 : Int32).toInt = 0 := (by decide); (first | (clear hpre2 hpre3; omega) | omega)), trivial⟩ [0, 1, 2, 3, 4, 5, 6, 7, 8, 9] rfl rfl dX5_readFlag_135 (Nat.le_of_ble_eq_true rfl) (Nat.le_of_ble_eq_true rfl)
set_option maxHeartbeats 4000000 in
set_option maxRecDepth 100000 in
theorem gX5_readPerson_fb208ee (l : Launch) (D : va_G) (cy : Nat → ClassId) (h0 : Nat) (h1 : Nat) (h2 : Nat) (h3 : Nat) (h4 : Nat) (h5 : Nat) (h6 : Nat) (h7 : Nat) (h8 : Nat) (h9 : Nat) (h10 : Nat) (p0 : Int32) (p1 : Int32) (p2 : Int32) (p3 : Int32) (w0 : Value) (p4 : Int32) (p5 : Int32) (w1 : Value) (p6 : Int32) (p7 : Int32) (f0 : Nat → Int32) (f1 : Nat → Int32) (f2 : Nat → Int32) (p8 : Int32) (p9 : Int32) (p10 : Int32) (p11 : Int32) (w2 : Value) (w3 : Value) (w4 : Value) (f3 : Nat → Int32) (f4 : Nat → Int32) (f5 : Nat → Int32) (f6 : Nat → Int32) (f7 : Nat → Int32) (hp0 : (-1) ≤ (p0).toInt ∧ (p0).toInt ≤ 900) (hp1 : (-2147483648) ≤ (p1).toInt ∧ (p1).toInt ≤ 2147483647) (hp2 : (-2147483648) ≤ (p2).toInt ∧ (p2).toInt ≤ 2147483647) (hp3 : (-2147483648) ≤ (p3).toInt ∧ (p3).toInt ≤ 2147483647) (hp4 : 0 ≤ (p4).toInt ∧ (p4).toInt ≤ 900) (hp5 : (-2147483648) ≤ (p5).toInt ∧ (p5).toInt ≤ 2147483647) (hp6 : 0 ≤ (p6).toInt ∧ (p6).toInt ≤ 900) (hp7 : 0 ≤ (p7).toInt ∧ (p7).toInt ≤ 901) (hp8 : 1 ≤ (p8).toInt ∧ (p8).toInt ≤ 3) (hp9 : 0 ≤ (p9).toInt ∧ (p9).toInt ≤ 10) (hp10 : (-2147483648) ≤ (p10).toInt ∧ (p10).toInt ≤ 2147483647) (hp11 : (-2147483648) ≤ (p11).toInt ∧ (p11).toInt ≤ 2147483647) (rf3 : RG f3 10 0 999) (hpre0 : KZ f0 (p7 : Int32).toInt) (hpre1 : 0 ≤ (p0 : Int32).toInt ∧ (p0 : Int32).toInt < (p7 : Int32).toInt) (hpre2 : (p2 : Int32).toInt ≠ 0 ∨ (p1 : Int32).toInt = 26 ∨ (p1 : Int32).toInt = 27 ∨ (p0 : Int32).toInt + 1 < (p7 : Int32).toInt) (hpre3 : (p2 : Int32).toInt = 0 ∨ (p1 : Int32).toInt = 27) (hpre4 : (p1 : Int32).toInt ≠ 26 ∧ (p1 : Int32).toInt ≠ 27) (sz : Nat) : MV l yX5_readPerson cX5_readPerson 5 { frames := 3, cells := 0, slots := 0, locals := 65 } [.ref h0] D cy (wk_e27dce96c cy h0 h1 p0 p1 p2 p3 h5 w0 p4 p5 h1 w1 p6 p7 h2 h3 h4 h2 f0 h3 f1 h4 f2 h5 p8 p9 p10 p11 w2 w3 w4 h6 h7 h8 h9 h10 h6 f3 h7 f4 h8 f5 h9 f6 h10 f7) sz (fun u => (1 ≤ (u.2.1 0 0).toInt ∧ (u.2.1 0 0).toInt ≤ 10) ∧ RG (u.2.1 1) 10 0 999 ∧ ((-1) ≤ (u.2.1 6 0).toInt ∧ (u.2.1 6 0).toInt ≤ 900) ∧ ((-2147483648) ≤ (u.2.1 7 0).toInt ∧ (u.2.1 7 0).toInt ≤ 2147483647) ∧ ((-2147483648) ≤ (u.2.1 8 0).toInt ∧ (u.2.1 8 0).toInt ≤ 2147483647) ∧ ((-2147483648) ≤ (u.2.1 9 0).toInt ∧ (u.2.1 9 0).toInt ≤ 2147483647) ∧ (0 ≤ ((u.2.1 6 0) : Int32).toInt ∧ ((u.2.1 6 0) : Int32).toInt < (p7 : Int32).toInt) ∧ (((u.2.1 8 0) : Int32).toInt ≠ 0 ∨ ((u.2.1 7 0) : Int32).toInt = 26 ∨ ((u.2.1 7 0) : Int32).toInt = 27 ∨ ((u.2.1 6 0) : Int32).toInt + 1 < (p7 : Int32).toInt) ∧ (((u.2.1 8 0) : Int32).toInt = 0 ∨ ((u.2.1 7 0) : Int32).toInt = 27) ∧ (((u.2.1 8 0) : Int32).toInt ≠ 0 ∨ (p2 : Int32).toInt = 0) ∧ ((p0 : Int32).toInt ≤ ((u.2.1 6 0) : Int32).toInt) ∧ (((u.2.1 8 0) : Int32).toInt ≠ 0 ∨ (p0 : Int32).toInt + 1 ≤ ((u.2.1 6 0) : Int32).toInt) ∧ (SIM f0 f1 f2 (p7 : Int32).toInt (persS (p8 : Int32).toInt (p9 : Int32).toInt) (p0 : Int32).toInt (p1 : Int32).toInt (p2 : Int32).toInt (p3 : Int32).toInt ((u.2.1 6 0) : Int32).toInt ((u.2.1 7 0) : Int32).toInt ((u.2.1 8 0) : Int32).toInt ((u.2.1 9 0) : Int32).toInt) ∧ (((u.2.1 8 0) : Int32).toInt ≠ 0 ∨ ((u.2.1 0 0) : Int32).toInt = (p9 : Int32).toInt + 1) ∧ True) (fun u => (wk_e27dce96c cy h0 h1 (u.2.1 6 0) (u.2.1 7 0) (u.2.1 8 0) (u.2.1 9 0) h5 w0 p4 p5 h1 w1 p6 p7 h2 h3 h4 h2 f0 h3 f1 h4 f2 h5 p8 (u.2.1 0 0) p10 p11 w2 w3 w4 h6 h7 h8 h9 h10 h6 (u.2.1 1) h7 (u.2.1 2) h8 (u.2.1 3) h9 (u.2.1 4) h10 (u.2.1 5))) 0 0 := by
  refine q_ent (own := RX5) (by decide) rfl (Nat.le_of_ble_eq_true rfl) (fun p e s m below meth c ls X hr hlk hnm hK hT h hA hl => ?_)
  obtain ⟨hx, hb, hml, hown, ht⟩ := id X
  replace hl : lv_has ls 5 [(0, .ref h0)] := hl
  refine lv_aload_n hx hb dX5_readPerson_0 rfl (lv_at hl 0 rfl) ?_
  refine q_get X hK h 0 rfl rfl wf_5 5 (by decide) rfl wm_1_151 dX5_readPerson_1 ?_
  refine q_get X hK h 5 rfl rfl wf_3 1 (by decide) rfl wm_1_86 dX5_readPerson_4 ?_
  refine lv_istore_n (lv' := [(1, .int p9), (0, .ref h0)]) hx hb dX5_readPerson_7 rfl hl (by decide) rfl (fun ls_1 hl_1 => ?_)
  clear hl
  refine lv_iload_n hx hb dX5_readPerson_8 rfl (lv_at hl_1 0 rfl) ?_
  refine lv_bipush (v := 10) hx hb dX5_readPerson_9 (by decide) ?_
  refine lv_icmp_lt (tgt := 20) hx hb dX5_readPerson_11 (by decide) (fun c_2 => ?_) (fun c_2 => ?_)
  · replace c_2 := i_lt (x := p9) (y := 10) rfl (show (10 : Int32).toInt = 10 by decide) c_2
    refine lv_aload_n hx hb dX5_readPerson_20 rfl (lv_at hl_1 1 rfl) ?_
    refine q_callVv (rest := []) (wr := [(h4, .inl (cy 1, 901, .inl f2)), (h5, .inr (3, [.int p8, .int p9, .int p10, .int p11, w2, w3, w4, .ref h6, .ref h7, .ref h8, .ref h9, .ref h10])), (h6, .inl (cy 1, 10, .inl f3)), (h7, .inl (cy 1, 10, .inl f4)), (h8, .inl (cy 1, 10, .inl f5)), (h9, .inl (cy 1, 10, .inl f6)), (h10, .inl (cy 1, 10, .inl f7))]) X hK hT hA h (fun sz => gX5_advance_9820dfe l D cy h0 h1 h2 h3 p0 p1 p2 p3 (.ref h5) w0 p4 p5 w1 p6 p7 (.ref h4) f0 f1 hp0 (i_rng _) (i_rng _) (i_rng _) hp4 (i_rng _) hp6 hp7 (hpre0) (hpre3) (by (first | (clear hpre2 hpre3; omega) | omega)) sz) wm_3_68 wm_3_71 wm_1_2 hd_X5_advance wm_3_70 wp_1_8 (ci := 5) (q0 := 0) rfl rfl ⟨Nat.le_of_ble_eq_true rfl, Nat.le_of_ble_eq_true rfl⟩ hl_1.1 rfl (Nat.le_of_ble_eq_true rfl) dX5_readPerson_21 ⟨Nat.le_of_ble_eq_true rfl, Nat.le_of_ble_eq_true rfl⟩ [0, 1, 2, 3] [4, 5, 6, 7, 8, 9, 10] rfl rfl (by decide) rfl rfl (fun u_3 H locs w_3 h_3 => ?_)
    clear h
    obtain ⟨w3_0, w3_1, w3_2, w3_3, y3_0, y3_1, y3_2, y3_3, y3_4, y3_5, y3_6, _⟩ := w_3
    replace h_3 : qW D _ _ (wk_31c2093ae cy h4 f2 h5 p8 p9 p10 p11 w2 w3 w4 h6 h7 h8 h9 h10 h6 f3 h7 f4 h8 f5 h9 f6 h10 f7 h0 h1 (u_3.2.1 0 0) (u_3.2.1 1 0) (u_3.2.1 2 0) (u_3.2.1 3 0) h5 w0 p4 p5 h1 w1 p6 p7 h2 h3 h4 h2 f0 h3 f1) _ _ := h_3
    refine lv_iconst (v := 0) hx hb dX5_readPerson_24 (by decide) ?_
    refine lv_istore_n (lv' := [(2, .int 0), (1, .int p9), (0, .ref h0)]) hx hb dX5_readPerson_25 rfl hl_1 (by decide) rfl (fun ls_4 hl_4 => ?_)
    clear hl_1
    refine lv_iconst (v := 0) hx hb dX5_readPerson_26 (by decide) ?_
    refine lv_istore_n (lv' := [(3, .int 0), (2, .int 0), (1, .int p9), (0, .ref h0)]) hx hb dX5_readPerson_27 rfl hl_4 (by decide) rfl (fun ls_5 hl_5 => ?_)
    clear hl_4
    have pv_6 : SIM f0 f1 f2 (p7 : Int32).toInt (persV 0) (p0 : Int32).toInt (p1 : Int32).toInt (p2 : Int32).toInt (p3 : Int32).toInt ((u_3.2.1 0 0) : Int32).toInt ((u_3.2.1 1 0) : Int32).toInt ((u_3.2.1 2 0) : Int32).toInt ((u_3.2.1 3 0) : Int32).toInt := sim_pv0 y3_6 (by omega) (by omega) rfl
    refine lv_iload_n hx hb dX5_readPerson_28 rfl (lv_at hl_5 0 rfl) ?_
    refine lv_iconst (v := 3) hx hb dX5_readPerson_29 (by decide) ?_
    refine lv_icmp_ge (tgt := 67) hx hb dX5_readPerson_30 (by decide) (fun c => absurd c (by decide +kernel)) (fun _ => ?_)
    refine lv_bipush (v := 10) hx hb dX5_readPerson_33 (by decide) ?_
    refine lv_iload_n hx hb dX5_readPerson_35 rfl (lv_at hl_5 1 rfl) ?_
    refine lv_imul hx hb dX5_readPerson_36 ?_
    refine q_c 0 (by decide +kernel) ?_
    refine lv_iload_n hx hb dX5_readPerson_37 rfl (lv_at hl_5 0 rfl) ?_
    refine lv_aload_n hx hb dX5_readPerson_38 rfl (lv_at hl_5 3 rfl) ?_
    refine q_get X hK h_3 7 rfl rfl wf_5 5 (by decide) rfl wm_1_151 dX5_readPerson_39 ?_
    refine q_get X hK h_3 1 rfl rfl wf_3 0 (by decide) rfl wm_1_76 dX5_readPerson_42 ?_
    refine q_jn (pc2 := 59) (fun H locs ls st => ∃ v59_7_0 : Int32, ∃ v59_7_1 : Int32, ∃ v59_7_2 : Int32, ∃ v59_7_3 : Int32, ∃ v59_7_4 : Int32, ((-1) ≤ (v59_7_0).toInt ∧ (v59_7_0).toInt ≤ 900) ∧ ((-2147483648) ≤ (v59_7_1).toInt ∧ (v59_7_1).toInt ≤ 2147483647) ∧ ((-2147483648) ≤ (v59_7_2).toInt ∧ (v59_7_2).toInt ≤ 2147483647) ∧ ((-2147483648) ≤ (v59_7_3).toInt ∧ (v59_7_3).toInt ≤ 2147483647) ∧ (0 ≤ (v59_7_4).toInt ∧ (v59_7_4).toInt ≤ 9) ∧ (0 ≤ (v59_7_0 : Int32).toInt ∧ (v59_7_0 : Int32).toInt < (p7 : Int32).toInt) ∧ ((v59_7_2 : Int32).toInt ≠ 0 ∨ (v59_7_1 : Int32).toInt = 26 ∨ (v59_7_1 : Int32).toInt = 27 ∨ (v59_7_0 : Int32).toInt + 1 < (p7 : Int32).toInt) ∧ ((v59_7_2 : Int32).toInt = 0 ∨ (v59_7_1 : Int32).toInt = 27) ∧ ((v59_7_2 : Int32).toInt ≠ 0 ∨ (p2 : Int32).toInt = 0) ∧ ((p0 : Int32).toInt ≤ (v59_7_0 : Int32).toInt) ∧ ((v59_7_2 : Int32).toInt ≠ 0 ∨ (p0 : Int32).toInt + 1 ≤ (v59_7_0 : Int32).toInt) ∧ (SIM f0 f1 f2 (p7 : Int32).toInt (persV (min ((p8 : Int32).toInt).toNat 1)) (p0 : Int32).toInt (p1 : Int32).toInt (p2 : Int32).toInt (p3 : Int32).toInt (v59_7_0 : Int32).toInt (v59_7_1 : Int32).toInt (v59_7_2 : Int32).toInt (v59_7_3 : Int32).toInt) ∧ st = [.int v59_7_4, .int 0] ∧ qW D (va_A (wk_e27dce96c cy h0 h1 p0 p1 p2 p3 h5 w0 p4 p5 h1 w1 p6 p7 h2 h3 h4 h2 f0 h3 f1 h4 f2 h5 p8 p9 p10 p11 w2 w3 w4 h6 h7 h8 h9 h10 h6 f3 h7 f4 h8 f5 h9 f6 h10 f7) sz) s.heap (wk_31c2093ae cy h4 f2 h5 p8 p9 p10 p11 w2 w3 w4 h6 h7 h8 h9 h10 h6 f3 h7 f4 h8 f5 h9 f6 h10 f7 h0 h1 v59_7_0 v59_7_1 v59_7_2 v59_7_3 h5 w0 p4 p5 h1 w1 p6 p7 h2 h3 h4 h2 f0 h3 f1) H locs ∧ lv_has ls 5 [(0, .ref h0), (1, .int p9), (2, .int 0), (3, .int 0)]) (fun H locs ls st hP => ?_) (fun J_59 => ?_)
    · obtain ⟨v59_7_0, v59_7_1, v59_7_2, v59_7_3, v59_7_4, hv59_7_0, hv59_7_1, hv59_7_2, hv59_7_3, hv59_7_4, x8_0, x9_1, x10_2, x11_3, x12_4, x13_5, x14_6, rfl, h, hl⟩ := hP
      refine lv_iadd hx hb dX5_readPerson_59 ?_
      obtain ⟨z_15, ez_15, hz_15⟩ := e_add (x := 0) (y := v59_7_4) (show (0 : Int32).toInt = 0 by decide) rfl (by omega) (by omega)
      refine q_c z_15 ez_15 ?_
      clear ez_15
      refine lv_istore_n (lv' := [(2, .int z_15), (0, .ref h0), (1, .int p9), (3, .int 0)]) hx hb dX5_readPerson_60 rfl hl (by decide) rfl (fun ls_16 hl_16 => ?_)
      clear hl
      refine lv_iinc (v := 1) (lv' := [(3, .int 1), (2, .int z_15), (0, .ref h0), (1, .int p9)]) hx hb dX5_readPerson_61 hl_16 (k := 3) rfl (by decide +kernel) (by decide) rfl (fun ls_17 hl_17 => ?_)
      clear hl_16
      refine lv_goto (tgt := 28) hx hb dX5_readPerson_64 (by decide) ?_
      refine lv_iload_n hx hb dX5_readPerson_28 rfl (lv_at hl_17 0 rfl) ?_
      refine lv_iconst (v := 3) hx hb dX5_readPerson_29 (by decide) ?_
      refine lv_icmp_ge (tgt := 67) hx hb dX5_readPerson_30 (by decide) (fun c => absurd c (by decide +kernel)) (fun _ => ?_)
      refine lv_bipush (v := 10) hx hb dX5_readPerson_33 (by decide) ?_
      refine lv_iload_n hx hb dX5_readPerson_35 rfl (lv_at hl_17 1 rfl) ?_
      refine lv_imul hx hb dX5_readPerson_36 ?_
      obtain ⟨z_18, ez_18, hz_18⟩ := e_mul (x := 10) (y := z_15) (show (10 : Int32).toInt = 10 by decide) rfl (by omega) (by omega)
      refine q_c z_18 ez_18 ?_
      clear ez_18
      refine lv_iload_n hx hb dX5_readPerson_37 rfl (lv_at hl_17 0 rfl) ?_
      refine lv_aload_n hx hb dX5_readPerson_38 rfl (lv_at hl_17 2 rfl) ?_
      refine q_get X hK h 7 rfl rfl wf_5 5 (by decide) rfl wm_1_151 dX5_readPerson_39 ?_
      refine q_get X hK h 1 rfl rfl wf_3 0 (by decide) rfl wm_1_76 dX5_readPerson_42 ?_
      refine q_jn (pc2 := 59) (fun H locs ls st => ∃ v59_19_0 : Int32, ∃ v59_19_1 : Int32, ∃ v59_19_2 : Int32, ∃ v59_19_3 : Int32, ∃ v59_19_4 : Int32, ((-1) ≤ (v59_19_0).toInt ∧ (v59_19_0).toInt ≤ 900) ∧ ((-2147483648) ≤ (v59_19_1).toInt ∧ (v59_19_1).toInt ≤ 2147483647) ∧ ((-2147483648) ≤ (v59_19_2).toInt ∧ (v59_19_2).toInt ≤ 2147483647) ∧ ((-2147483648) ≤ (v59_19_3).toInt ∧ (v59_19_3).toInt ≤ 2147483647) ∧ (0 ≤ (v59_19_4).toInt ∧ (v59_19_4).toInt ≤ 9) ∧ (0 ≤ (v59_19_0 : Int32).toInt ∧ (v59_19_0 : Int32).toInt < (p7 : Int32).toInt) ∧ ((v59_19_2 : Int32).toInt ≠ 0 ∨ (v59_19_1 : Int32).toInt = 26 ∨ (v59_19_1 : Int32).toInt = 27 ∨ (v59_19_0 : Int32).toInt + 1 < (p7 : Int32).toInt) ∧ ((v59_19_2 : Int32).toInt = 0 ∨ (v59_19_1 : Int32).toInt = 27) ∧ ((v59_19_2 : Int32).toInt ≠ 0 ∨ (p2 : Int32).toInt = 0) ∧ ((p0 : Int32).toInt ≤ (v59_19_0 : Int32).toInt) ∧ ((v59_19_2 : Int32).toInt ≠ 0 ∨ (p0 : Int32).toInt + 1 ≤ (v59_19_0 : Int32).toInt) ∧ (SIM f0 f1 f2 (p7 : Int32).toInt (persV (min ((p8 : Int32).toInt).toNat 2)) (p0 : Int32).toInt (p1 : Int32).toInt (p2 : Int32).toInt (p3 : Int32).toInt (v59_19_0 : Int32).toInt (v59_19_1 : Int32).toInt (v59_19_2 : Int32).toInt (v59_19_3 : Int32).toInt) ∧ st = [.int v59_19_4, .int z_18] ∧ qW D (va_A (wk_e27dce96c cy h0 h1 p0 p1 p2 p3 h5 w0 p4 p5 h1 w1 p6 p7 h2 h3 h4 h2 f0 h3 f1 h4 f2 h5 p8 p9 p10 p11 w2 w3 w4 h6 h7 h8 h9 h10 h6 f3 h7 f4 h8 f5 h9 f6 h10 f7) sz) s.heap (wk_31c2093ae cy h4 f2 h5 p8 p9 p10 p11 w2 w3 w4 h6 h7 h8 h9 h10 h6 f3 h7 f4 h8 f5 h9 f6 h10 f7 h0 h1 v59_19_0 v59_19_1 v59_19_2 v59_19_3 h5 w0 p4 p5 h1 w1 p6 p7 h2 h3 h4 h2 f0 h3 f1) H locs ∧ lv_has ls 5 [(0, .ref h0), (1, .int p9), (2, .int z_15), (3, .int 1)]) (fun H locs ls st hP => ?_) (fun J_59 => ?_)
      · obtain ⟨v59_19_0, v59_19_1, v59_19_2, v59_19_3, v59_19_4, hv59_19_0, hv59_19_1, hv59_19_2, hv59_19_3, hv59_19_4, x20_0, x21_1, x22_2, x23_3, x24_4, x25_5, x26_6, rfl, h, hl⟩ := hP
        refine lv_iadd hx hb dX5_readPerson_59 ?_
        obtain ⟨z_27, ez_27, hz_27⟩ := e_add (x := z_18) (y := v59_19_4) rfl rfl (by omega) (by omega)
        refine q_c z_27 ez_27 ?_
        clear ez_27
        refine lv_istore_n (lv' := [(2, .int z_27), (0, .ref h0), (1, .int p9), (3, .int 1)]) hx hb dX5_readPerson_60 rfl hl (by decide) rfl (fun ls_28 hl_28 => ?_)
        clear hl
        refine lv_iinc (v := 2) (lv' := [(3, .int 2), (2, .int z_27), (0, .ref h0), (1, .int p9)]) hx hb dX5_readPerson_61 hl_28 (k := 3) rfl (by decide +kernel) (by decide) rfl (fun ls_29 hl_29 => ?_)
        clear hl_28
        refine lv_goto (tgt := 28) hx hb dX5_readPerson_64 (by decide) ?_
        refine lv_iload_n hx hb dX5_readPerson_28 rfl (lv_at hl_29 0 rfl) ?_
        refine lv_iconst (v := 3) hx hb dX5_readPerson_29 (by decide) ?_
        refine lv_icmp_ge (tgt := 67) hx hb dX5_readPerson_30 (by decide) (fun c => absurd c (by decide +kernel)) (fun _ => ?_)
        refine lv_bipush (v := 10) hx hb dX5_readPerson_33 (by decide) ?_
        refine lv_iload_n hx hb dX5_readPerson_35 rfl (lv_at hl_29 1 rfl) ?_
        refine lv_imul hx hb dX5_readPerson_36 ?_
        obtain ⟨z_30, ez_30, hz_30⟩ := e_mul (x := 10) (y := z_27) (show (10 : Int32).toInt = 10 by decide) rfl (by omega) (by omega)
        refine q_c z_30 ez_30 ?_
        clear ez_30
        refine lv_iload_n hx hb dX5_readPerson_37 rfl (lv_at hl_29 0 rfl) ?_
        refine lv_aload_n hx hb dX5_readPerson_38 rfl (lv_at hl_29 2 rfl) ?_
        refine q_get X hK h 7 rfl rfl wf_5 5 (by decide) rfl wm_1_151 dX5_readPerson_39 ?_
        refine q_get X hK h 1 rfl rfl wf_3 0 (by decide) rfl wm_1_76 dX5_readPerson_42 ?_
        refine q_jn (pc2 := 59) (fun H locs ls st => ∃ v59_31_0 : Int32, ∃ v59_31_1 : Int32, ∃ v59_31_2 : Int32, ∃ v59_31_3 : Int32, ∃ v59_31_4 : Int32, ((-1) ≤ (v59_31_0).toInt ∧ (v59_31_0).toInt ≤ 900) ∧ ((-2147483648) ≤ (v59_31_1).toInt ∧ (v59_31_1).toInt ≤ 2147483647) ∧ ((-2147483648) ≤ (v59_31_2).toInt ∧ (v59_31_2).toInt ≤ 2147483647) ∧ ((-2147483648) ≤ (v59_31_3).toInt ∧ (v59_31_3).toInt ≤ 2147483647) ∧ (0 ≤ (v59_31_4).toInt ∧ (v59_31_4).toInt ≤ 9) ∧ (0 ≤ (v59_31_0 : Int32).toInt ∧ (v59_31_0 : Int32).toInt < (p7 : Int32).toInt) ∧ ((v59_31_2 : Int32).toInt ≠ 0 ∨ (v59_31_1 : Int32).toInt = 26 ∨ (v59_31_1 : Int32).toInt = 27 ∨ (v59_31_0 : Int32).toInt + 1 < (p7 : Int32).toInt) ∧ ((v59_31_2 : Int32).toInt = 0 ∨ (v59_31_1 : Int32).toInt = 27) ∧ ((v59_31_2 : Int32).toInt ≠ 0 ∨ (p2 : Int32).toInt = 0) ∧ ((p0 : Int32).toInt ≤ (v59_31_0 : Int32).toInt) ∧ ((v59_31_2 : Int32).toInt ≠ 0 ∨ (p0 : Int32).toInt + 1 ≤ (v59_31_0 : Int32).toInt) ∧ (SIM f0 f1 f2 (p7 : Int32).toInt (persV (min ((p8 : Int32).toInt).toNat 3)) (p0 : Int32).toInt (p1 : Int32).toInt (p2 : Int32).toInt (p3 : Int32).toInt (v59_31_0 : Int32).toInt (v59_31_1 : Int32).toInt (v59_31_2 : Int32).toInt (v59_31_3 : Int32).toInt) ∧ st = [.int v59_31_4, .int z_30] ∧ qW D (va_A (wk_e27dce96c cy h0 h1 p0 p1 p2 p3 h5 w0 p4 p5 h1 w1 p6 p7 h2 h3 h4 h2 f0 h3 f1 h4 f2 h5 p8 p9 p10 p11 w2 w3 w4 h6 h7 h8 h9 h10 h6 f3 h7 f4 h8 f5 h9 f6 h10 f7) sz) s.heap (wk_31c2093ae cy h4 f2 h5 p8 p9 p10 p11 w2 w3 w4 h6 h7 h8 h9 h10 h6 f3 h7 f4 h8 f5 h9 f6 h10 f7 h0 h1 v59_31_0 v59_31_1 v59_31_2 v59_31_3 h5 w0 p4 p5 h1 w1 p6 p7 h2 h3 h4 h2 f0 h3 f1) H locs ∧ lv_has ls 5 [(0, .ref h0), (1, .int p9), (2, .int z_27), (3, .int 2)]) (fun H locs ls st hP => ?_) (fun J_59 => ?_)
        · obtain ⟨v59_31_0, v59_31_1, v59_31_2, v59_31_3, v59_31_4, hv59_31_0, hv59_31_1, hv59_31_2, hv59_31_3, hv59_31_4, x32_0, x33_1, x34_2, x35_3, x36_4, x37_5, x38_6, rfl, h, hl⟩ := hP
          refine lv_iadd hx hb dX5_readPerson_59 ?_
          obtain ⟨z_39, ez_39, hz_39⟩ := e_add (x := z_30) (y := v59_31_4) rfl rfl (by omega) (by omega)
          refine q_c z_39 ez_39 ?_
          clear ez_39
          refine lv_istore_n (lv' := [(2, .int z_39), (0, .ref h0), (1, .int p9), (3, .int 2)]) hx hb dX5_readPerson_60 rfl hl (by decide) rfl (fun ls_40 hl_40 => ?_)
          clear hl
          refine lv_iinc (v := 3) (lv' := [(3, .int 3), (2, .int z_39), (0, .ref h0), (1, .int p9)]) hx hb dX5_readPerson_61 hl_40 (k := 3) rfl (by decide +kernel) (by decide) rfl (fun ls_41 hl_41 => ?_)
          clear hl_40
          refine lv_goto (tgt := 28) hx hb dX5_readPerson_64 (by decide) ?_
          refine lv_iload_n hx hb dX5_readPerson_28 rfl (lv_at hl_41 0 rfl) ?_
          refine lv_iconst (v := 3) hx hb dX5_readPerson_29 (by decide) ?_
          refine lv_icmp_ge (tgt := 67) hx hb dX5_readPerson_30 (by decide) (fun _ => ?_) (fun c => absurd c (by decide +kernel))
          refine lv_aload_n hx hb dX5_readPerson_67 rfl (lv_at hl_41 2 rfl) ?_
          refine q_get X hK h 7 rfl rfl wf_5 5 (by decide) rfl wm_1_151 dX5_readPerson_68 ?_
          refine q_get X hK h 1 rfl rfl wf_3 7 (by decide) rfl wm_1_104 dX5_readPerson_71 ?_
          refine lv_iload_n hx hb dX5_readPerson_74 rfl (lv_at hl_41 3 rfl) ?_
          refine lv_iload_n hx hb dX5_readPerson_75 rfl (lv_at hl_41 1 rfl) ?_
          refine q_iast X hK h 2 rfl (i_in rfl (by omega) (by omega)) dX5_readPerson_76 (fun H locs h_43 => ?_)
          clear h
          replace h_43 : qW D _ _ (wk_31c2093ae cy h4 f2 h5 p8 p9 p10 p11 w2 w3 w4 h6 h7 h8 h9 h10 h6 (upd f3 (Int32.toNatClampNeg p9) z_39) h7 f4 h8 f5 h9 f6 h10 f7 h0 h1 v59_31_0 v59_31_1 v59_31_2 v59_31_3 h5 w0 p4 p5 h1 w1 p6 p7 h2 h3 h4 h2 f0 h3 f1) _ _ := h_43
          obtain ⟨F_42, eF_42, rF_42⟩ := rg_upd rf3 (Int32.toNatClampNeg p9) (x := z_39) rfl (by omega) (by omega)
          rw [eF_42] at h_43
          clear eF_42
          refine lv_aload_n hx hb dX5_readPerson_77 rfl (lv_at hl_41 2 rfl) ?_
          refine q_get X hK h_43 7 rfl rfl wf_5 5 (by decide) rfl wm_1_151 dX5_readPerson_78 ?_
          refine q_get X hK h_43 1 rfl rfl wf_3 8 (by decide) rfl wm_1_108 dX5_readPerson_81 ?_
          refine lv_iload_n hx hb dX5_readPerson_84 rfl (lv_at hl_41 3 rfl) ?_
          refine lv_iconst (v := 0) hx hb dX5_readPerson_85 (by decide) ?_
          refine q_iast X hK h_43 3 rfl (i_in rfl (by omega) (by omega)) dX5_readPerson_86 (fun H locs h_45 => ?_)
          clear h_43
          replace h_45 : qW D _ _ (wk_31c2093ae cy h4 f2 h5 p8 p9 p10 p11 w2 w3 w4 h6 h7 h8 h9 h10 h6 F_42 h7 (upd f4 (Int32.toNatClampNeg p9) 0) h8 f5 h9 f6 h10 f7 h0 h1 v59_31_0 v59_31_1 v59_31_2 v59_31_3 h5 w0 p4 p5 h1 w1 p6 p7 h2 h3 h4 h2 f0 h3 f1) _ _ := h_45
          obtain ⟨F_44, eF_44⟩ : ∃ z, (upd f4 (Int32.toNatClampNeg p9) 0) = z := ⟨_, rfl⟩
          rw [eF_44] at h_45
          clear eF_44
          refine lv_aload_n hx hb dX5_readPerson_87 rfl (lv_at hl_41 2 rfl) ?_
          refine q_get X hK h_45 7 rfl rfl wf_5 5 (by decide) rfl wm_1_151 dX5_readPerson_88 ?_
          refine q_get X hK h_45 1 rfl rfl wf_3 9 (by decide) rfl wm_1_112 dX5_readPerson_91 ?_
          refine lv_iload_n hx hb dX5_readPerson_94 rfl (lv_at hl_41 3 rfl) ?_
          refine lv_ldc hx hb hown (ht _ wm_3_92) dX5_readPerson_95 ?_
          refine q_iast X hK h_45 4 rfl (i_in rfl (by omega) (by omega)) dX5_readPerson_97 (fun H locs h_47 => ?_)
          clear h_45
          replace h_47 : qW D _ _ (wk_31c2093ae cy h4 f2 h5 p8 p9 p10 p11 w2 w3 w4 h6 h7 h8 h9 h10 h6 F_42 h7 F_44 h8 (upd f5 (Int32.toNatClampNeg p9) 1000000) h9 f6 h10 f7 h0 h1 v59_31_0 v59_31_1 v59_31_2 v59_31_3 h5 w0 p4 p5 h1 w1 p6 p7 h2 h3 h4 h2 f0 h3 f1) _ _ := h_47
          obtain ⟨F_46, eF_46⟩ : ∃ z, (upd f5 (Int32.toNatClampNeg p9) 1000000) = z := ⟨_, rfl⟩
          rw [eF_46] at h_47
          clear eF_46
          refine lv_aload_n hx hb dX5_readPerson_98 rfl (lv_at hl_41 2 rfl) ?_
          refine q_get X hK h_47 7 rfl rfl wf_5 5 (by decide) rfl wm_1_151 dX5_readPerson_99 ?_
          refine q_get X hK h_47 1 rfl rfl wf_3 10 (by decide) rfl wm_1_115 dX5_readPerson_102 ?_
          refine lv_iload_n hx hb dX5_readPerson_105 rfl (lv_at hl_41 3 rfl) ?_
          refine lv_bipush (v := 10) hx hb dX5_readPerson_106 (by decide) ?_
          refine q_iast X hK h_47 5 rfl (i_in rfl (by omega) (by omega)) dX5_readPerson_108 (fun H locs h_49 => ?_)
          clear h_47
          replace h_49 : qW D _ _ (wk_31c2093ae cy h4 f2 h5 p8 p9 p10 p11 w2 w3 w4 h6 h7 h8 h9 h10 h6 F_42 h7 F_44 h8 F_46 h9 (upd f6 (Int32.toNatClampNeg p9) 10) h10 f7 h0 h1 v59_31_0 v59_31_1 v59_31_2 v59_31_3 h5 w0 p4 p5 h1 w1 p6 p7 h2 h3 h4 h2 f0 h3 f1) _ _ := h_49
          obtain ⟨F_48, eF_48⟩ : ∃ z, (upd f6 (Int32.toNatClampNeg p9) 10) = z := ⟨_, rfl⟩
          rw [eF_48] at h_49
          clear eF_48
          refine lv_aload_n hx hb dX5_readPerson_109 rfl (lv_at hl_41 2 rfl) ?_
          refine q_get X hK h_49 7 rfl rfl wf_5 5 (by decide) rfl wm_1_151 dX5_readPerson_110 ?_
          refine q_get X hK h_49 1 rfl rfl wf_3 11 (by decide) rfl wm_1_118 dX5_readPerson_113 ?_
          refine lv_iload_n hx hb dX5_readPerson_116 rfl (lv_at hl_41 3 rfl) ?_
          refine lv_iconst (v := 1) hx hb dX5_readPerson_117 (by decide) ?_
          refine q_iast X hK h_49 6 rfl (i_in rfl (by omega) (by omega)) dX5_readPerson_118 (fun H locs h_51 => ?_)
          clear h_49
          replace h_51 : qW D _ _ (wk_31c2093ae cy h4 f2 h5 p8 p9 p10 p11 w2 w3 w4 h6 h7 h8 h9 h10 h6 F_42 h7 F_44 h8 F_46 h9 F_48 h10 (upd f7 (Int32.toNatClampNeg p9) 1) h0 h1 v59_31_0 v59_31_1 v59_31_2 v59_31_3 h5 w0 p4 p5 h1 w1 p6 p7 h2 h3 h4 h2 f0 h3 f1) _ _ := h_51
          obtain ⟨F_50, eF_50⟩ : ∃ z, (upd f7 (Int32.toNatClampNeg p9) 1) = z := ⟨_, rfl⟩
          rw [eF_50] at h_51
          clear eF_50
          refine lv_iconst (v := 1) hx hb dX5_readPerson_119 (by decide) ?_
          refine lv_istore_n (lv' := [(3, .int 1), (2, .int z_39), (0, .ref h0), (1, .int p9)]) hx hb dX5_readPerson_120 rfl hl_41 (by decide) rfl (fun ls_52 hl_52 => ?_)
          clear hl_41
          refine lv_iconst (v := 0) hx hb dX5_readPerson_121 (by decide) ?_
          refine lv_istore (lv' := [(4, .int 0), (3, .int 1), (2, .int z_39), (0, .ref h0), (1, .int p9)]) hx hb dX5_readPerson_122 hl_52 (by decide) rfl (fun ls_53 hl_53 => ?_)
          clear hl_52
          refine q_wl (fun (q : Int32 × Int32 × Int32 × Int32 × Int32 × Int32) H locs ls => match q with | (v124_54_0, v124_54_1, v124_54_2, v124_54_3, v124_54_4, v124_54_5) => ∃ v124_54_6 : Nat → Int32, ∃ v124_54_7 : Nat → Int32, ∃ v124_54_8 : Nat → Int32, ∃ v124_54_9 : Nat → Int32, (0 ≤ (v124_54_0).toInt ∧ (v124_54_0).toInt ≤ 901) ∧ (0 ≤ (v124_54_1).toInt ∧ (v124_54_1).toInt ≤ 1) ∧ (0 ≤ (v124_54_2).toInt ∧ (v124_54_2).toInt ≤ 900) ∧ ((-2147483648) ≤ (v124_54_3).toInt ∧ (v124_54_3).toInt ≤ 2147483647) ∧ ((-2147483648) ≤ (v124_54_4).toInt ∧ (v124_54_4).toInt ≤ 2147483647) ∧ ((-2147483648) ≤ (v124_54_5).toInt ∧ (v124_54_5).toInt ≤ 2147483647) ∧ (0 ≤ (v124_54_2 : Int32).toInt ∧ (v124_54_2 : Int32).toInt < (p7 : Int32).toInt) ∧ ((v124_54_4 : Int32).toInt ≠ 0 ∨ (v124_54_3 : Int32).toInt = 26 ∨ (v124_54_3 : Int32).toInt = 27 ∨ (v124_54_2 : Int32).toInt + 1 < (p7 : Int32).toInt) ∧ ((v124_54_4 : Int32).toInt = 0 ∨ (v124_54_3 : Int32).toInt = 27) ∧ ((v124_54_4 : Int32).toInt ≠ 0 ∨ (p2 : Int32).toInt = 0) ∧ ((p0 : Int32).toInt ≤ (v124_54_2 : Int32).toInt) ∧ ((v124_54_4 : Int32).toInt ≠ 0 ∨ (p0 : Int32).toInt + 1 ≤ (v124_54_2 : Int32).toInt) ∧ (SIML f0 f1 f2 (p7 : Int32).toInt (sq (persV ((p8 : Int32).toInt).toNat) (lpK isFl flag1 1000)) isFl flag1 (p0 : Int32).toInt (p1 : Int32).toInt (p2 : Int32).toInt (p3 : Int32).toInt (v124_54_2 : Int32).toInt (v124_54_3 : Int32).toInt (v124_54_4 : Int32).toInt (v124_54_5 : Int32).toInt) ∧ (MRP (v124_54_1 : Int32).toInt (v124_54_3 : Int32).toInt) ∧ ((v124_54_4 : Int32).toInt ≠ 0 ∨ (v124_54_1 : Int32).toInt = 0 ∨ (v124_54_0 : Int32).toInt ≤ (v124_54_2 : Int32).toInt) ∧ qW D (va_A (wk_e27dce96c cy h0 h1 p0 p1 p2 p3 h5 w0 p4 p5 h1 w1 p6 p7 h2 h3 h4 h2 f0 h3 f1 h4 f2 h5 p8 p9 p10 p11 w2 w3 w4 h6 h7 h8 h9 h10 h6 f3 h7 f4 h8 f5 h9 f6 h10 f7) sz) s.heap (wk_31c2093ae cy h4 f2 h5 p8 p9 p10 p11 w2 w3 w4 h6 h7 h8 h9 h10 h6 F_42 h7 v124_54_6 h8 v124_54_7 h9 v124_54_8 h10 v124_54_9 h0 h1 v124_54_2 v124_54_3 v124_54_4 v124_54_5 h5 w0 p4 p5 h1 w1 p6 p7 h2 h3 h4 h2 f0 h3 f1) H locs ∧ lv_has ls 5 [(0, .ref h0), (1, .int p9), (2, .int z_39), (3, .int v124_54_1), (4, .int v124_54_0)]) (fun (q : Int32 × Int32 × Int32 × Int32 × Int32 × Int32) => match q with | (v124_54_0, v124_54_1, v124_54_2, v124_54_3, v124_54_4, v124_54_5) => (902 - (v124_54_0).toInt).toNat) (fun q_124 ih_124 H locs ls hP => ?_) (0, 1, v59_31_0, v59_31_1, v59_31_2, v59_31_3) ⟨F_44, F_46, F_48, F_50, ⟨by decide +kernel, by decide +kernel⟩, ⟨by decide +kernel, by decide +kernel⟩, ⟨by omega, by omega⟩, hv59_31_1, hv59_31_2, hv59_31_3, (x32_0), (x33_1), (x34_2), (x35_3), (x36_4), (x37_5), (siml_0 (sim_pvn x38_6 (by (first | assumption | (clear hpre2 hpre3 y3_1 y3_2 y3_4 y3_5 x9_1 x10_2 x11_3 x13_5 x21_1 x22_2 x23_3 x25_5 x33_1 x34_2 x35_3 x37_5; omega) | omega)))), (Or.inl (by decide)), (by have q0 : (1 : Int32).toInt = 1 := (by decide); have q1 : (0 : Int32).toInt = 0 := (by decide); (first | (clear hpre2 hpre3 y3_1 y3_2 y3_4 y3_5 x9_1 x10_2 x11_3 x13_5 x21_1 x22_2 x23_3 x25_5 x33_1 x34_2 x35_3 x37_5; omega) | omega)), h_51, (lv_sub hl_53 [3, 4, 2, 1, 0] rfl)⟩
          obtain ⟨v124_54_0, v124_54_1, v124_54_2, v124_54_3, v124_54_4, v124_54_5⟩ := q_124
          obtain ⟨v124_54_6, v124_54_7, v124_54_8, v124_54_9, hv124_54_0, hv124_54_1, hv124_54_2, hv124_54_3, hv124_54_4, hv124_54_5, x55_0, x56_1, x57_2, x58_3, x59_4, x60_5, x61_6, x62_7, x63_8, h, hl⟩ := hP
          refine lv_iload hx hb dX5_readPerson_124 (lv_at hl 4 rfl) ?_
          refine lv_aload_n hx hb dX5_readPerson_126 rfl (lv_at hl 0 rfl) ?_
          refine q_get X hK h 7 rfl rfl wf_5 0 (by decide) rfl wm_1_144 dX5_readPerson_127 ?_
          refine q_get X hK h 8 rfl rfl wf_8 2 (by decide) rfl wm_1_46 dX5_readPerson_130 ?_
          refine lv_icmp_ge (tgt := 152) hx hb dX5_readPerson_133 (by decide) (fun c_64 => ?_) (fun c_64 => ?_)
          · replace c_64 := i_le (x := p7) (y := v124_54_0) rfl rfl c_64
            refine lv_aload_n hx hb dX5_readPerson_152 rfl (lv_at hl 0 rfl) ?_
            refine q_get X hK h 7 rfl rfl wf_5 5 (by decide) rfl wm_1_151 dX5_readPerson_153 ?_
            refine lv_dup hx hb dX5_readPerson_156 rfl ?_
            refine q_get X hK h 1 rfl rfl wf_3 1 (by decide) rfl wm_1_86 dX5_readPerson_157 ?_
            refine lv_iconst (v := 1) hx hb dX5_readPerson_160 (by decide) ?_
            refine lv_iadd hx hb dX5_readPerson_161 ?_
            obtain ⟨z_65, ez_65, hz_65⟩ := e_add (x := p9) (y := 1) rfl (show (1 : Int32).toInt = 1 by decide) (by omega) (by omega)
            refine q_c z_65 ez_65 ?_
            clear ez_65
            refine q_put (v := .int z_65) X hK h 1 rfl rfl wf_3 tyX3 tyX3_ok nmX3 1 (by decide) wm_1_86 rfl rfl rfl (Nat.le_of_ble_eq_true rfl) dX5_readPerson_162 (fun H locs h_66 => ?_)
            clear h
            replace h_66 : qW D _ _ (wk_31c2093ae cy h4 f2 h5 p8 z_65 p10 p11 w2 w3 w4 h6 h7 h8 h9 h10 h6 F_42 h7 v124_54_6 h8 v124_54_7 h9 v124_54_8 h10 v124_54_9 h0 h1 v124_54_2 v124_54_3 v124_54_4 v124_54_5 h5 w0 p4 p5 h1 w1 p6 p7 h2 h3 h4 h2 f0 h3 f1) _ _ := h_66
            exact q_vret X hr hlk hK h_66 (fun _ => 0, (vcons (fun _ => z_65) (vcons F_42 (vcons v124_54_6 (vcons v124_54_7 (vcons v124_54_8 (vcons v124_54_9 (vcons (fun _ => v124_54_2) (vcons (fun _ => v124_54_3) (vcons (fun _ => v124_54_4) (vcons (fun _ => v124_54_5) (fun _ => (fun _ => 0)))))))))))), fun _ _ => 0) ⟨(⟨by omega, by omega⟩ : 1 ≤ (z_65 : Int32).toInt ∧ (z_65 : Int32).toInt ≤ 10), (rg_wide rF_42 (by decide) (by decide)), (bw hv124_54_2 (by decide) (by decide)), hv124_54_3, hv124_54_4, hv124_54_5, x55_0, x56_1, x57_2, x58_3, x59_4, x60_5, (show SIM f0 f1 f2 (p7 : Int32).toInt (persS (p8 : Int32).toInt (p9 : Int32).toInt) (p0 : Int32).toInt (p1 : Int32).toInt (p2 : Int32).toInt (p3 : Int32).toInt (v124_54_2 : Int32).toInt (v124_54_3 : Int32).toInt (v124_54_4 : Int32).toInt (v124_54_5 : Int32).toInt from sim_pe2 (by (first | assumption | (clear hpre2 hpre3 y3_1 y3_2 y3_4 y3_5 x9_1 x10_2 x11_3 x13_5 x21_1 x22_2 x23_3 x25_5 x33_1 x34_2 x35_3 x37_5 x56_1 x57_2 x58_3 x60_5 x63_8; omega) | omega)) (siml_e x61_6 (by by_cases hq : (v124_54_1 : Int32).toInt = 0; exact Or.inr (Or.resolve_left x62_7 (by (first | assumption | (clear hpre2 hpre3 y3_1 y3_2 y3_4 y3_5 x9_1 x10_2 x11_3 x13_5 x21_1 x22_2 x23_3 x25_5 x33_1 x34_2 x35_3 x37_5 x56_1 x57_2 x58_3 x60_5 x63_8; omega) | omega))); exact Or.inl (by (first | assumption | (clear hpre2 hpre3 y3_1 y3_2 y3_4 y3_5 x9_1 x10_2 x11_3 x13_5 x21_1 x22_2 x23_3 x25_5 x33_1 x34_2 x35_3 x37_5 x56_1 x57_2 x58_3 x60_5 x63_8; omega) | omega))))), (show (v124_54_4 : Int32).toInt ≠ 0 ∨ (z_65 : Int32).toInt = (p9 : Int32).toInt + 1 from by (first | (clear hpre2 hpre3 y3_1 y3_2 y3_4 y3_5 x9_1 x10_2 x11_3 x13_5 x21_1 x22_2 x23_3 x25_5 x33_1 x34_2 x35_3 x37_5 x56_1 x57_2 x58_3 x60_5 x63_8; omega) | omega)), trivial⟩ [7, 8, 9, 10, 0, 1, 2, 3, 4, 5, 6] rfl rfl dX5_readPerson_165 (Nat.le_of_ble_eq_true rfl) (Nat.le_of_ble_eq_true rfl)
          · replace c_64 := i_nle (x := p7) (y := v124_54_0) rfl rfl c_64
            refine lv_iload_n hx hb dX5_readPerson_136 rfl (lv_at hl 3 rfl) ?_
            refine lv_if_eq (tgt := 152) hx hb dX5_readPerson_137 (by decide) (fun c_67 => ?_) (fun c_67 => ?_)
            · replace c_67 := i_eq (x := v124_54_1) (y := 0) rfl (show (0 : Int32).toInt = 0 by decide) c_67
              refine lv_aload_n hx hb dX5_readPerson_152 rfl (lv_at hl 0 rfl) ?_
              refine q_get X hK h 7 rfl rfl wf_5 5 (by decide) rfl wm_1_151 dX5_readPerson_153 ?_
              refine lv_dup hx hb dX5_readPerson_156 rfl ?_
              refine q_get X hK h 1 rfl rfl wf_3 1 (by decide) rfl wm_1_86 dX5_readPerson_157 ?_
              refine lv_iconst (v := 1) hx hb dX5_readPerson_160 (by decide) ?_
              refine lv_iadd hx hb dX5_readPerson_161 ?_
              obtain ⟨z_68, ez_68, hz_68⟩ := e_add (x := p9) (y := 1) rfl (show (1 : Int32).toInt = 1 by decide) (by omega) (by omega)
              refine q_c z_68 ez_68 ?_
              clear ez_68
              refine q_put (v := .int z_68) X hK h 1 rfl rfl wf_3 tyX3 tyX3_ok nmX3 1 (by decide) wm_1_86 rfl rfl rfl (Nat.le_of_ble_eq_true rfl) dX5_readPerson_162 (fun H locs h_69 => ?_)
              clear h
              replace h_69 : qW D _ _ (wk_31c2093ae cy h4 f2 h5 p8 z_68 p10 p11 w2 w3 w4 h6 h7 h8 h9 h10 h6 F_42 h7 v124_54_6 h8 v124_54_7 h9 v124_54_8 h10 v124_54_9 h0 h1 v124_54_2 v124_54_3 v124_54_4 v124_54_5 h5 w0 p4 p5 h1 w1 p6 p7 h2 h3 h4 h2 f0 h3 f1) _ _ := h_69
              exact q_vret X hr hlk hK h_69 (fun _ => 0, (vcons (fun _ => z_68) (vcons F_42 (vcons v124_54_6 (vcons v124_54_7 (vcons v124_54_8 (vcons v124_54_9 (vcons (fun _ => v124_54_2) (vcons (fun _ => v124_54_3) (vcons (fun _ => v124_54_4) (vcons (fun _ => v124_54_5) (fun _ => (fun _ => 0)))))))))))), fun _ _ => 0) ⟨(⟨by omega, by omega⟩ : 1 ≤ (z_68 : Int32).toInt ∧ (z_68 : Int32).toInt ≤ 10), (rg_wide rF_42 (by decide) (by decide)), (bw hv124_54_2 (by decide) (by decide)), hv124_54_3, hv124_54_4, hv124_54_5, x55_0, x56_1, x57_2, x58_3, x59_4, x60_5, (show SIM f0 f1 f2 (p7 : Int32).toInt (persS (p8 : Int32).toInt (p9 : Int32).toInt) (p0 : Int32).toInt (p1 : Int32).toInt (p2 : Int32).toInt (p3 : Int32).toInt (v124_54_2 : Int32).toInt (v124_54_3 : Int32).toInt (v124_54_4 : Int32).toInt (v124_54_5 : Int32).toInt from sim_pe2 (by (first | assumption | (clear hpre2 hpre3 y3_1 y3_2 y3_4 y3_5 x9_1 x10_2 x11_3 x13_5 x21_1 x22_2 x23_3 x25_5 x33_1 x34_2 x35_3 x37_5 x56_1 x57_2 x58_3 x60_5 x63_8; omega) | omega)) (siml_e x61_6 (by by_cases hq : (v124_54_1 : Int32).toInt = 0; exact Or.inr (Or.resolve_left x62_7 (by (first | assumption | (clear hpre2 hpre3 y3_1 y3_2 y3_4 y3_5 x9_1 x10_2 x11_3 x13_5 x21_1 x22_2 x23_3 x25_5 x33_1 x34_2 x35_3 x37_5 x56_1 x57_2 x58_3 x60_5 x63_8; omega) | omega))); exact Or.inl (by (first | assumption | (clear hpre2 hpre3 y3_1 y3_2 y3_4 y3_5 x9_1 x10_2 x11_3 x13_5 x21_1 x22_2 x23_3 x25_5 x33_1 x34_2 x35_3 x37_5 x56_1 x57_2 x58_3 x60_5 x63_8; omega) | omega))))), (show (v124_54_4 : Int32).toInt ≠ 0 ∨ (z_68 : Int32).toInt = (p9 : Int32).toInt + 1 from by (first | (clear hpre2 hpre3 y3_1 y3_2 y3_4 y3_5 x9_1 x10_2 x11_3 x13_5 x21_1 x22_2 x23_3 x25_5 x33_1 x34_2 x35_3 x37_5 x56_1 x57_2 x58_3 x60_5 x63_8; omega) | omega)), trivial⟩ [7, 8, 9, 10, 0, 1, 2, 3, 4, 5, 6] rfl rfl dX5_readPerson_165 (Nat.le_of_ble_eq_true rfl) (Nat.le_of_ble_eq_true rfl)
            · replace c_67 := i_ne (x := v124_54_1) (y := 0) rfl (show (0 : Int32).toInt = 0 by decide) c_67
              refine lv_aload_n hx hb dX5_readPerson_140 rfl (lv_at hl 0 rfl) ?_
              refine lv_iload_n hx hb dX5_readPerson_141 rfl (lv_at hl 1 rfl) ?_
              refine q_callVi (rest := []) (wr := [(h6, .inl (cy 1, 10, .inl F_42))]) X hK hT hA h (fun sz => gX5_readFlag_936f279 l D cy h0 h1 h2 h3 h4 h5 h7 h8 h9 h10 p9 v124_54_2 v124_54_3 v124_54_4 v124_54_5 w0 p4 p5 w1 p6 p7 f0 f1 f2 p8 p10 p11 w2 w3 w4 (.ref h6) v124_54_6 v124_54_7 v124_54_8 v124_54_9 ⟨by omega, by omega⟩ (bw hv124_54_2 (by decide) (by decide)) (i_rng _) (i_rng _) (i_rng _) hp4 (i_rng _) hp6 hp7 hp8 (i_rng _) (i_rng _) (hpre0) (x55_0) (x56_1) (x57_2) sz) wm_3_93 wm_3_96 wm_1_2 hd_X5_readFlag wm_3_95 wp_1_14 (ci := 5) (q0 := 0) rfl rfl ⟨Nat.le_of_ble_eq_true rfl, Nat.le_of_ble_eq_true rfl⟩ hl.1 rfl (Nat.le_of_ble_eq_true rfl) dX5_readPerson_142 ⟨Nat.le_of_ble_eq_true rfl, Nat.le_of_ble_eq_true rfl⟩ [7, 8, 9, 10, 0, 1, 3, 4, 5, 6] [2] rfl rfl (by decide) rfl rfl (fun r_70 u_70 H locs w_70 h_70 => ?_)
              clear h
              obtain ⟨wr_70, w70_0, w70_1, w70_2, w70_3, y70_0, y70_1, y70_2, y70_3, y70_4, y70_5, y70_6, _⟩ := w_70
              replace h_70 : qW D _ _ [(h6, .inl (cy 1, 10, .inl F_42)), (h0, .inr (5, [.ref h1, .int (u_70.2.1 2 0), .int (u_70.2.1 3 0), .int (u_70.2.1 4 0), .int (u_70.2.1 5 0), .ref h5, w0, .int p4, .int p5])), (h1, .inr (8, [w1, .int p6, .int p7, .ref h2, .ref h3, .ref h4])), (h2, .inl (cy 1, 901, .inl f0)), (h3, .inl (cy 1, 901, .inl f1)), (h4, .inl (cy 1, 901, .inl f2)), (h5, .inr (3, [.int p8, .int p9, .int p10, .int p11, w2, w3, w4, .ref h6, .ref h7, .ref h8, .ref h9, .ref h10])), (h7, .inl (cy 1, 10, .inl (u_70.2.1 0))), (h8, .inl (cy 1, 10, .inl (u_70.2.1 1))), (h9, .inl (cy 1, 10, .inl (u_70.2.1 6))), (h10, .inl (cy 1, 10, .inl (u_70.2.1 7)))] _ _ := h_70
              refine lv_istore_n (lv' := [(3, .int r_70), (0, .ref h0), (1, .int p9), (2, .int z_39), (4, .int v124_54_0)]) hx hb dX5_readPerson_145 rfl hl (by decide) rfl (fun ls_71 hl_71 => ?_)
              clear hl
              obtain ⟨z_72, ez_72, hz_72⟩ := e_add (x := v124_54_0) (y := Int32.ofInt 1) rfl (b := 1) (by decide) (by omega) (by omega)
              refine lv_iinc (v := z_72) (lv' := [(4, .int z_72), (3, .int r_70), (0, .ref h0), (1, .int p9), (2, .int z_39)]) hx hb dX5_readPerson_146 hl_71 (k := 4) rfl ez_72 (by decide) rfl (fun ls_72 hl_72 => ?_)
              clear hl_71
              refine lv_goto (tgt := 124) hx hb dX5_readPerson_149 (by decide) ?_
              exact ih_124 (z_72, r_70, (u_70.2.1 2 0), (u_70.2.1 3 0), (u_70.2.1 4 0), (u_70.2.1 5 0)) (by show (902 - (z_72).toInt).toNat < (902 - (v124_54_0).toInt).toNat; omega) _ _ _ ⟨(u_70.2.1 0), (u_70.2.1 1), (u_70.2.1 6), (u_70.2.1 7), ⟨by omega, by omega⟩, wr_70, ⟨by omega, by omega⟩, w70_1, w70_2, w70_3, (y70_0), (y70_1), (y70_2), ((fl_tr y70_3 x58_3)), ((Int.le_trans x59_4 y70_4)), ((p1_c y70_3 x60_5 (Int.le_refl _) y70_4)), (siml_fl x61_6 y70_5 (by (first | assumption | (clear hpre2 hpre3 y3_1 y3_2 y3_4 y3_5 x9_1 x10_2 x11_3 x13_5 x21_1 x22_2 x23_3 x25_5 x33_1 x34_2 x35_3 x37_5 x56_1 x57_2 x58_3 x60_5 x63_8 y70_1 y70_2 y70_3 y70_6; omega) | omega)) (by (first | assumption | (clear hpre2 hpre3 y3_1 y3_2 y3_4 y3_5 x9_1 x10_2 x11_3 x13_5 x21_1 x22_2 x23_3 x25_5 x33_1 x34_2 x35_3 x37_5 x56_1 x57_2 x58_3 x60_5 x63_8 y70_1 y70_2 y70_3 y70_6; omega) | omega)) (by (first | assumption | (clear hpre2 hpre3 y3_1 y3_2 y3_4 y3_5 x9_1 x10_2 x11_3 x13_5 x21_1 x22_2 x23_3 x25_5 x33_1 x34_2 x35_3 x37_5 x56_1 x57_2 x58_3 x60_5 x63_8 y70_1 y70_2 y70_3 y70_6; omega) | omega))), (mor_fl y70_5), (by (first | (clear hpre2 hpre3 y3_1 y3_2 y3_4 y3_5 x9_1 x10_2 x11_3 x13_5 x21_1 x22_2 x23_3 x25_5 x33_1 x34_2 x35_3 x37_5 x56_1 x57_2 x58_3 x60_5 x63_8 y70_1 y70_2 y70_3 y70_6; omega) | omega)), (q_re h_70 [5, 6, 0, 7, 8, 9, 10, 1, 2, 3, 4] rfl rfl), (lv_sub hl_72 [2, 3, 4, 1, 0] rfl)⟩
        · skip
          refine lv_icmp_ge (tgt := 58) hx hb dX5_readPerson_45 (by decide) (fun c_73 => ?_) (fun c_73 => ?_)
          · replace c_73 := i_le (x := p8) (y := 2) rfl (show (2 : Int32).toInt = 2 by decide) c_73
            refine lv_iconst (v := 0) hx hb dX5_readPerson_58 (by decide) ?_
            exact J_59 _ _ _ _ ⟨v59_19_0, v59_19_1, v59_19_2, v59_19_3, 0, hv59_19_0, hv59_19_1, hv59_19_2, hv59_19_3, ⟨by decide +kernel, by decide +kernel⟩, (x20_0), (x21_1), (x22_2), (x23_3), (x24_4), (x25_5), (sim_pvn x26_6 (by (first | assumption | (clear hpre2 hpre3 y3_1 y3_2 y3_4 y3_5 x9_1 x10_2 x11_3 x13_5 x21_1 x22_2 x23_3 x25_5; omega) | omega))), rfl, h, (lv_sub hl_29 [2, 3, 1, 0] rfl)⟩
          · replace c_73 := i_nle (x := p8) (y := 2) rfl (show (2 : Int32).toInt = 2 by decide) c_73
            refine lv_aload_n hx hb dX5_readPerson_48 rfl (lv_at hl_29 2 rfl) ?_
            refine lv_iconst (v := 0) hx hb dX5_readPerson_49 (by decide) ?_
            refine lv_bipush (v := 9) hx hb dX5_readPerson_50 (by decide) ?_
            refine q_callVi (rest := [.int z_30]) (wr := (wk_dea5df769 cy h5 p8 p9 p10 p11 w2 w3 w4 h6 h7 h8 h9 h10 h6 f3 h7 f4 h8 f5 h9 f6 h10 f7)) X hK hT hA h (fun sz => gX5_takeNumber_b9026d7 l D cy h0 h1 h2 h3 h4 v59_19_0 v59_19_1 v59_19_2 v59_19_3 (.ref h5) w0 p4 p5 w1 p6 p7 f0 f1 f2 hv59_19_0 (i_rng _) (i_rng _) (i_rng _) hp4 (i_rng _) hp6 hp7 (hpre0) (x20_0) (x21_1) (x22_2) sz) wm_3_80 wm_3_83 wm_1_2 hd_X5_takeNumber wm_3_82 wp_1_11 (ci := 5) (q0 := 0) rfl rfl ⟨Nat.le_of_ble_eq_true rfl, Nat.le_of_ble_eq_true rfl⟩ hl_29.1 rfl (Nat.le_of_ble_eq_true rfl) dX5_readPerson_52 ⟨Nat.le_of_ble_eq_true rfl, Nat.le_of_ble_eq_true rfl⟩ [7, 8, 9, 10, 0] [1, 2, 3, 4, 5, 6] rfl rfl (by decide) rfl rfl (fun r_74 u_74 H locs w_74 h_74 => ?_)
            clear h
            obtain ⟨wr_74, w74_0, w74_1, w74_2, w74_3, y74_0, y74_1, y74_2, y74_3, y74_4, y74_5, y74_6, y74_7, _⟩ := w_74
            have lq_74_1 : (0 : Int32).toInt = 0 := (by decide)
            have lq_74_2 : (9 : Int32).toInt = 9 := (by decide)
            replace h_74 : qW D _ _ (wk_21b02cfdf cy h5 p8 p9 p10 p11 w2 w3 w4 h6 h7 h8 h9 h10 h6 f3 h7 f4 h8 f5 h9 f6 h10 f7 h0 h1 (u_74.2.1 3 0) (u_74.2.1 0 0) (u_74.2.1 1 0) (u_74.2.1 2 0) h5 w0 p4 p5 h1 w1 p6 p7 h2 h3 h4 h2 f0 h3 f1 h4 f2) _ _ := h_74
            refine lv_goto (tgt := 59) hx hb dX5_readPerson_55 (by decide) ?_
            exact J_59 _ _ _ _ ⟨(u_74.2.1 3 0), (u_74.2.1 0 0), (u_74.2.1 1 0), (u_74.2.1 2 0), r_74, w74_3, w74_0, w74_1, w74_2, wr_74, (y74_0), (y74_1), (y74_4), ((fl_tr y74_3 x23_3)), ((Int.le_trans x24_4 y74_5)), ((p1_o (ne_or _) y74_2 x24_4 (Int.le_refl _))), (sim_pvs x26_6 y74_6 (by (first | assumption | (clear hpre2 hpre3 y3_1 y3_2 y3_4 y3_5 x9_1 x10_2 x11_3 x13_5 x21_1 x22_2 x23_3 x25_5 y74_1 y74_2 y74_3 y74_4; omega) | omega))), rfl, (q_re h_74 [10, 0, 1, 2, 3, 4, 5, 6, 7, 8, 9] rfl rfl), (lv_sub hl_29 [2, 3, 1, 0] rfl)⟩
      · skip
        refine lv_icmp_ge (tgt := 58) hx hb dX5_readPerson_45 (by decide) (fun c_75 => ?_) (fun c_75 => ?_)
        · replace c_75 := i_le (x := p8) (y := 1) rfl (show (1 : Int32).toInt = 1 by decide) c_75
          refine lv_iconst (v := 0) hx hb dX5_readPerson_58 (by decide) ?_
          exact J_59 _ _ _ _ ⟨v59_7_0, v59_7_1, v59_7_2, v59_7_3, 0, hv59_7_0, hv59_7_1, hv59_7_2, hv59_7_3, ⟨by decide +kernel, by decide +kernel⟩, (x8_0), (x9_1), (x10_2), (x11_3), (x12_4), (x13_5), (sim_pvn x14_6 (by (first | assumption | (clear hpre2 hpre3 y3_1 y3_2 y3_4 y3_5 x9_1 x10_2 x11_3 x13_5; omega) | omega))), rfl, h, (lv_sub hl_17 [2, 3, 1, 0] rfl)⟩
        · replace c_75 := i_nle (x := p8) (y := 1) rfl (show (1 : Int32).toInt = 1 by decide) c_75
          refine lv_aload_n hx hb dX5_readPerson_48 rfl (lv_at hl_17 2 rfl) ?_
          refine lv_iconst (v := 0) hx hb dX5_readPerson_49 (by decide) ?_
          refine lv_bipush (v := 9) hx hb dX5_readPerson_50 (by decide) ?_
          refine q_callVi (rest := [.int z_18]) (wr := (wk_dea5df769 cy h5 p8 p9 p10 p11 w2 w3 w4 h6 h7 h8 h9 h10 h6 f3 h7 f4 h8 f5 h9 f6 h10 f7)) X hK hT hA h (fun sz => gX5_takeNumber_b9026d7 l D cy h0 h1 h2 h3 h4 v59_7_0 v59_7_1 v59_7_2 v59_7_3 (.ref h5) w0 p4 p5 w1 p6 p7 f0 f1 f2 hv59_7_0 (i_rng _) (i_rng _) (i_rng _) hp4 (i_rng _) hp6 hp7 (hpre0) (x8_0) (x9_1) (x10_2) sz) wm_3_80 wm_3_83 wm_1_2 hd_X5_takeNumber wm_3_82 wp_1_11 (ci := 5) (q0 := 0) rfl rfl ⟨Nat.le_of_ble_eq_true rfl, Nat.le_of_ble_eq_true rfl⟩ hl_17.1 rfl (Nat.le_of_ble_eq_true rfl) dX5_readPerson_52 ⟨Nat.le_of_ble_eq_true rfl, Nat.le_of_ble_eq_true rfl⟩ [7, 8, 9, 10, 0] [1, 2, 3, 4, 5, 6] rfl rfl (by decide) rfl rfl (fun r_76 u_76 H locs w_76 h_76 => ?_)
          clear h
          obtain ⟨wr_76, w76_0, w76_1, w76_2, w76_3, y76_0, y76_1, y76_2, y76_3, y76_4, y76_5, y76_6, y76_7, _⟩ := w_76
          have lq_76_1 : (0 : Int32).toInt = 0 := (by decide)
          have lq_76_2 : (9 : Int32).toInt = 9 := (by decide)
          replace h_76 : qW D _ _ (wk_21b02cfdf cy h5 p8 p9 p10 p11 w2 w3 w4 h6 h7 h8 h9 h10 h6 f3 h7 f4 h8 f5 h9 f6 h10 f7 h0 h1 (u_76.2.1 3 0) (u_76.2.1 0 0) (u_76.2.1 1 0) (u_76.2.1 2 0) h5 w0 p4 p5 h1 w1 p6 p7 h2 h3 h4 h2 f0 h3 f1 h4 f2) _ _ := h_76
          refine lv_goto (tgt := 59) hx hb dX5_readPerson_55 (by decide) ?_
          exact J_59 _ _ _ _ ⟨(u_76.2.1 3 0), (u_76.2.1 0 0), (u_76.2.1 1 0), (u_76.2.1 2 0), r_76, w76_3, w76_0, w76_1, w76_2, wr_76, (y76_0), (y76_1), (y76_4), ((fl_tr y76_3 x11_3)), ((Int.le_trans x12_4 y76_5)), ((p1_o (ne_or _) y76_2 x12_4 (Int.le_refl _))), (sim_pvs x14_6 y76_6 (by (first | assumption | (clear hpre2 hpre3 y3_1 y3_2 y3_4 y3_5 x9_1 x10_2 x11_3 x13_5 y76_1 y76_2 y76_3 y76_4; omega) | omega))), rfl, (q_re h_76 [10, 0, 1, 2, 3, 4, 5, 6, 7, 8, 9] rfl rfl), (lv_sub hl_17 [2, 3, 1, 0] rfl)⟩
    · skip
      refine lv_icmp_ge (tgt := 58) hx hb dX5_readPerson_45 (by decide) (fun c_77 => ?_) (fun c_77 => ?_)
      · replace c_77 := i_le (x := p8) (y := 0) rfl (show (0 : Int32).toInt = 0 by decide) c_77
        exfalso
        omega
      · replace c_77 := i_nle (x := p8) (y := 0) rfl (show (0 : Int32).toInt = 0 by decide) c_77
        refine lv_aload_n hx hb dX5_readPerson_48 rfl (lv_at hl_5 3 rfl) ?_
        refine lv_iconst (v := 0) hx hb dX5_readPerson_49 (by decide) ?_
        refine lv_bipush (v := 9) hx hb dX5_readPerson_50 (by decide) ?_
        refine q_callVi (rest := [.int 0]) (wr := (wk_dea5df769 cy h5 p8 p9 p10 p11 w2 w3 w4 h6 h7 h8 h9 h10 h6 f3 h7 f4 h8 f5 h9 f6 h10 f7)) X hK hT hA h_3 (fun sz => gX5_takeNumber_b9026d7 l D cy h0 h1 h2 h3 h4 (u_3.2.1 0 0) (u_3.2.1 1 0) (u_3.2.1 2 0) (u_3.2.1 3 0) (.ref h5) w0 p4 p5 w1 p6 p7 f0 f1 f2 w3_0 (i_rng _) (i_rng _) (i_rng _) hp4 (i_rng _) hp6 hp7 (hpre0) (y3_0) (by (first | (clear hpre2 hpre3 y3_1 y3_2 y3_4 y3_5; omega) | omega)) (y3_5) sz) wm_3_80 wm_3_83 wm_1_2 hd_X5_takeNumber wm_3_82 wp_1_11 (ci := 5) (q0 := 0) rfl rfl ⟨Nat.le_of_ble_eq_true rfl, Nat.le_of_ble_eq_true rfl⟩ hl_5.1 rfl (Nat.le_of_ble_eq_true rfl) dX5_readPerson_52 ⟨Nat.le_of_ble_eq_true rfl, Nat.le_of_ble_eq_true rfl⟩ [7, 8, 9, 10, 0] [1, 2, 3, 4, 5, 6] rfl rfl (by decide) rfl rfl (fun r_78 u_78 H locs w_78 h_78 => ?_)
        clear h_3
        obtain ⟨wr_78, w78_0, w78_1, w78_2, w78_3, y78_0, y78_1, y78_2, y78_3, y78_4, y78_5, y78_6, y78_7, _⟩ := w_78
        have lq_78_1 : (0 : Int32).toInt = 0 := (by decide)
        have lq_78_2 : (9 : Int32).toInt = 9 := (by decide)
        replace h_78 : qW D _ _ (wk_21b02cfdf cy h5 p8 p9 p10 p11 w2 w3 w4 h6 h7 h8 h9 h10 h6 f3 h7 f4 h8 f5 h9 f6 h10 f7 h0 h1 (u_78.2.1 3 0) (u_78.2.1 0 0) (u_78.2.1 1 0) (u_78.2.1 2 0) h5 w0 p4 p5 h1 w1 p6 p7 h2 h3 h4 h2 f0 h3 f1 h4 f2) _ _ := h_78
        refine lv_goto (tgt := 59) hx hb dX5_readPerson_55 (by decide) ?_
        exact J_59 _ _ _ _ ⟨(u_78.2.1 3 0), (u_78.2.1 0 0), (u_78.2.1 1 0), (u_78.2.1 2 0), r_78, w78_3, w78_0, w78_1, w78_2, wr_78, (y78_0), (y78_1), (y78_4), ((fl_tr y78_3 y3_2)), ((Int.le_trans y3_3 y78_5)), ((p1_o (ne_or _) y78_2 y3_3 (Int.le_refl _))), (sim_pvs pv_6 y78_6 (by (first | assumption | (clear hpre2 hpre3 y3_1 y3_2 y3_4 y3_5 y78_1 y78_2 y78_3 y78_4; omega) | omega))), rfl, (q_re h_78 [10, 0, 1, 2, 3, 4, 5, 6, 7, 8, 9] rfl rfl), (lv_sub hl_5 [3, 2, 1, 0] rfl)⟩
  · replace c_2 := i_nlt (x := p9) (y := 10) rfl (show (10 : Int32).toInt = 10 by decide) c_2
    refine lv_aload_n hx hb dX5_readPerson_14 rfl (lv_at hl_1 1 rfl) ?_
    refine lv_iconst (v := 4) hx hb dX5_readPerson_15 (by decide) ?_
    refine q_callVv (rest := []) (wr := [(h2, .inl (cy 1, 901, .inl f0)), (h4, .inl (cy 1, 901, .inl f2)), (h5, .inr (3, [.int p8, .int p9, .int p10, .int p11, w2, w3, w4, .ref h6, .ref h7, .ref h8, .ref h9, .ref h10])), (h6, .inl (cy 1, 10, .inl f3)), (h7, .inl (cy 1, 10, .inl f4)), (h8, .inl (cy 1, 10, .inl f5)), (h9, .inl (cy 1, 10, .inl f6)), (h10, .inl (cy 1, 10, .inl f7))]) X hK hT hA h (fun sz => gX5_refuse_3c74158 l D cy h0 h1 h3 p0 p1 p2 p3 (.ref h5) w0 p4 p5 w1 p6 p7 (.ref h2) (.ref h4) f1 hp0 (i_rng _) (i_rng _) (i_rng _) hp4 (i_rng _) hp6 hp7 (hpre1) (hpre3) (by have q0 : (4 : Int32).toInt = 4 := (by decide); (first | (clear hpre2 hpre3; omega) | omega)) sz) wm_3_76 wm_3_79 wm_1_2 hd_X5_refuse wm_3_78 wp_1_10 (ci := 5) (q0 := 0) rfl rfl ⟨Nat.le_of_ble_eq_true rfl, Nat.le_of_ble_eq_true rfl⟩ hl_1.1 rfl (Nat.le_of_ble_eq_true rfl) dX5_readPerson_16 ⟨Nat.le_of_ble_eq_true rfl, Nat.le_of_ble_eq_true rfl⟩ [0, 1, 3] [2, 4, 5, 6, 7, 8, 9, 10] rfl rfl (by decide) rfl rfl (fun u_79 H locs w_79 h_79 => ?_)
    clear h
    obtain ⟨w79_0, w79_1, w79_2, y79_0, y79_1, y79_2, _⟩ := w_79
    have lq_79_1 : (4 : Int32).toInt = 4 := (by decide)
    replace h_79 : qW D _ _ [(h2, .inl (cy 1, 901, .inl f0)), (h4, .inl (cy 1, 901, .inl f2)), (h5, .inr (3, [.int p8, .int p9, .int p10, .int p11, w2, w3, w4, .ref h6, .ref h7, .ref h8, .ref h9, .ref h10])), (h6, .inl (cy 1, 10, .inl f3)), (h7, .inl (cy 1, 10, .inl f4)), (h8, .inl (cy 1, 10, .inl f5)), (h9, .inl (cy 1, 10, .inl f6)), (h10, .inl (cy 1, 10, .inl f7)), (h0, .inr (5, [.ref h1, .int p0, .int (u_79.2.1 0 0), .int (u_79.2.1 1 0), .int (u_79.2.1 2 0), .ref h5, w0, .int p4, .int p5])), (h1, .inr (8, [w1, .int p6, .int p7, .ref h2, .ref h3, .ref h4])), (h3, .inl (cy 1, 901, .inl f1))] _ _ := h_79
    exact q_vret X hr hlk hK h_79 (fun _ => 0, (vcons (fun _ => p9) (vcons f3 (vcons f4 (vcons f5 (vcons f6 (vcons f7 (vcons (fun _ => p0) (vcons (fun _ => (u_79.2.1 0 0)) (vcons (fun _ => (u_79.2.1 1 0)) (vcons (fun _ => (u_79.2.1 2 0)) (fun _ => (fun _ => 0)))))))))))), fun _ _ => 0) ⟨(⟨by omega, by omega⟩ : 1 ≤ (p9 : Int32).toInt ∧ (p9 : Int32).toInt ≤ 10), (rg_wide rf3 (by decide) (by decide)), hp0, w79_0, w79_1, w79_2, hpre1, (show ((u_79.2.1 1 0) : Int32).toInt ≠ 0 ∨ ((u_79.2.1 0 0) : Int32).toInt = 26 ∨ ((u_79.2.1 0 0) : Int32).toInt = 27 ∨ (p0 : Int32).toInt + 1 < (p7 : Int32).toInt from by (first | (clear hpre2 hpre3 y79_1; omega) | omega)), y79_1, (show ((u_79.2.1 1 0) : Int32).toInt ≠ 0 ∨ (p2 : Int32).toInt = 0 from by (first | (clear hpre2 hpre3 y79_1; omega) | omega)), (show (p0 : Int32).toInt ≤ (p0 : Int32).toInt from (Int.le_refl _)), (show ((u_79.2.1 1 0) : Int32).toInt ≠ 0 ∨ (p0 : Int32).toInt + 1 ≤ (p0 : Int32).toInt from by (first | (clear hpre2 hpre3 y79_1; omega) | omega)), (show SIM f0 f1 f2 (p7 : Int32).toInt (persS (p8 : Int32).toInt (p9 : Int32).toInt) (p0 : Int32).toInt (p1 : Int32).toInt (p2 : Int32).toInt (p3 : Int32).toInt (p0 : Int32).toInt ((u_79.2.1 0 0) : Int32).toInt ((u_79.2.1 1 0) : Int32).toInt ((u_79.2.1 2 0) : Int32).toInt from sim_pe1 (by (first | assumption | (clear hpre2 hpre3 y79_1; omega) | omega)) (y79_2 _ _)), (show ((u_79.2.1 1 0) : Int32).toInt ≠ 0 ∨ (p9 : Int32).toInt = (p9 : Int32).toInt + 1 from by (first | (clear hpre2 hpre3 y79_1; omega) | omega)), trivial⟩ [8, 9, 0, 10, 1, 2, 3, 4, 5, 6, 7] rfl rfl dX5_readPerson_19 (Nat.le_of_ble_eq_true rfl) (Nat.le_of_ble_eq_true rfl)
set_option maxHeartbeats 4000000 in
set_option maxRecDepth 100000 in
theorem gX5_take_0541260 (l : Launch) (D : va_G) (cy : Nat → ClassId) (h0 : Nat) (h1 : Nat) (h2 : Nat) (h3 : Nat) (p0 : Int32) (p1 : Int32) (p2 : Int32) (p3 : Int32) (w0 : Value) (w1 : Value) (p4 : Int32) (p5 : Int32) (w2 : Value) (p6 : Int32) (p7 : Int32) (w3 : Value) (f0 : Nat → Int32) (f1 : Nat → Int32) (hp0 : (-1) ≤ (p0).toInt ∧ (p0).toInt ≤ 900) (hp1 : (-2147483648) ≤ (p1).toInt ∧ (p1).toInt ≤ 2147483647) (hp2 : (-2147483648) ≤ (p2).toInt ∧ (p2).toInt ≤ 2147483647) (hp3 : (-2147483648) ≤ (p3).toInt ∧ (p3).toInt ≤ 2147483647) (hp4 : 0 ≤ (p4).toInt ∧ (p4).toInt ≤ 900) (hp5 : (-2147483648) ≤ (p5).toInt ∧ (p5).toInt ≤ 2147483647) (hp6 : 0 ≤ (p6).toInt ∧ (p6).toInt ≤ 900) (hp7 : 0 ≤ (p7).toInt ∧ (p7).toInt ≤ 901) (hpre0 : KZ f0 (p7 : Int32).toInt) (hpre1 : 0 ≤ (p0 : Int32).toInt ∧ (p0 : Int32).toInt < (p7 : Int32).toInt) (hpre2 : (p2 : Int32).toInt ≠ 0 ∨ (p1 : Int32).toInt = 26 ∨ (p1 : Int32).toInt = 27 ∨ (p0 : Int32).toInt + 1 < (p7 : Int32).toInt) (hpre3 : (p2 : Int32).toInt = 0 ∨ (p1 : Int32).toInt = 27) (hpre4 : (58 : Int32).toInt ≠ 26 ∧ (58 : Int32).toInt ≠ 27) (sz : Nat) : MV l yX5_take cX5_take 2 { frames := 1, cells := 0, slots := 0, locals := 21 } [.ref h0, .int 58] D cy (wk_8964b4ae4 cy h0 h1 p0 p1 p2 p3 w0 w1 p4 p5 h1 w2 p6 p7 h2 h3 w3 h2 f0 h3 f1) sz (fun u => ((-2147483648) ≤ (u.2.1 0 0).toInt ∧ (u.2.1 0 0).toInt ≤ 2147483647) ∧ ((-2147483648) ≤ (u.2.1 1 0).toInt ∧ (u.2.1 1 0).toInt ≤ 2147483647) ∧ ((-2147483648) ≤ (u.2.1 2 0).toInt ∧ (u.2.1 2 0).toInt ≤ 2147483647) ∧ ((-1) ≤ (u.2.1 3 0).toInt ∧ (u.2.1 3 0).toInt ≤ 900) ∧ (0 ≤ ((u.2.1 3 0) : Int32).toInt ∧ ((u.2.1 3 0) : Int32).toInt < (p7 : Int32).toInt) ∧ (((u.2.1 1 0) : Int32).toInt ≠ 0 ∨ ((u.2.1 0 0) : Int32).toInt = 26 ∨ ((u.2.1 0 0) : Int32).toInt = 27 ∨ ((u.2.1 3 0) : Int32).toInt + 1 < (p7 : Int32).toInt) ∧ (((u.2.1 1 0) : Int32).toInt ≠ 0 ∨ ((u.2.1 3 0) : Int32).toInt = (p0 : Int32).toInt + 1) ∧ (((u.2.1 1 0) : Int32).toInt ≠ 0 ∨ (p2 : Int32).toInt = 0) ∧ (((u.2.1 1 0) : Int32).toInt = 0 ∨ ((u.2.1 0 0) : Int32).toInt = 27) ∧ ((p0 : Int32).toInt ≤ ((u.2.1 3 0) : Int32).toInt) ∧ (∀ vv : Nat → Int32, SIM f0 f1 vv (p7 : Int32).toInt (tak 58) (p0 : Int32).toInt (p1 : Int32).toInt (p2 : Int32).toInt (p3 : Int32).toInt ((u.2.1 3 0) : Int32).toInt ((u.2.1 0 0) : Int32).toInt ((u.2.1 1 0) : Int32).toInt ((u.2.1 2 0) : Int32).toInt) ∧ True) (fun u => (wk_8964b4ae4 cy h0 h1 (u.2.1 3 0) (u.2.1 0 0) (u.2.1 1 0) (u.2.1 2 0) w0 w1 p4 p5 h1 w2 p6 p7 h2 h3 w3 h2 f0 h3 f1)) 0 0 := by
  refine q_ent (own := RX5) (by decide) rfl (Nat.le_of_ble_eq_true rfl) (fun p e s m below meth c ls X hr hlk hnm hK hT h hA hl => ?_)
  obtain ⟨hx, hb, hml, hown, ht⟩ := id X
  replace hl : lv_has ls 2 [(0, .ref h0), (1, .int 58)] := hl
  refine lv_aload_n hx hb dX5_take_0 rfl (lv_at hl 0 rfl) ?_
  refine q_get X hK h 0 rfl rfl wf_5 2 (by decide) rfl wm_1_146 dX5_take_1 ?_
  refine lv_iload_n hx hb dX5_take_4 rfl (lv_at hl 1 rfl) ?_
  refine lv_icmp_ne (tgt := 15) hx hb dX5_take_5 (by decide) (fun c_1 => ?_) (fun c_1 => ?_)
  · replace c_1 := i_ne (x := p1) (y := 58) rfl (show (58 : Int32).toInt = 58 by decide) c_1
    refine lv_aload_n hx hb dX5_take_15 rfl (lv_at hl 0 rfl) ?_
    refine lv_iconst (v := 2) hx hb dX5_take_16 (by decide) ?_
    refine q_callVv (rest := []) (wr := [(h2, .inl (cy 1, 901, .inl f0))]) X hK hT hA h (fun sz => gX5_refuse_067fcff l D cy h0 h1 h3 p0 p1 p2 p3 w0 w1 p4 p5 w2 p6 p7 (.ref h2) w3 f1 hp0 (i_rng _) (i_rng _) (i_rng _) hp4 (i_rng _) hp6 hp7 (hpre1) (hpre3) (by have q0 : (2 : Int32).toInt = 2 := (by decide); (first | (clear hpre2 hpre3; omega) | omega)) sz) wm_3_76 wm_3_79 wm_1_2 hd_X5_refuse wm_3_78 wp_1_10 (ci := 5) (q0 := 0) rfl rfl ⟨Nat.le_of_ble_eq_true rfl, Nat.le_of_ble_eq_true rfl⟩ hl.1 rfl (Nat.le_of_ble_eq_true rfl) dX5_take_17 ⟨Nat.le_of_ble_eq_true rfl, Nat.le_of_ble_eq_true rfl⟩ [0, 1, 3] [2] rfl rfl (by decide) rfl rfl (fun u_2 H locs w_2 h_2 => ?_)
    clear h
    obtain ⟨w2_0, w2_1, w2_2, y2_0, y2_1, y2_2, _⟩ := w_2
    have lq_2_1 : (2 : Int32).toInt = 2 := (by decide)
    replace h_2 : qW D _ _ (wk_565e7035b cy h2 f0 h0 h1 p0 (u_2.2.1 0 0) (u_2.2.1 1 0) (u_2.2.1 2 0) w0 w1 p4 p5 h1 w2 p6 p7 h2 h3 w3 h3 f1) _ _ := h_2
    exact q_vret X hr hlk hK h_2 (fun _ => 0, (vcons (fun _ => (u_2.2.1 0 0)) (vcons (fun _ => (u_2.2.1 1 0)) (vcons (fun _ => (u_2.2.1 2 0)) (vcons (fun _ => p0) (fun _ => (fun _ => 0)))))), fun _ _ => 0) ⟨w2_0, w2_1, w2_2, hp0, hpre1, (show ((u_2.2.1 1 0) : Int32).toInt ≠ 0 ∨ ((u_2.2.1 0 0) : Int32).toInt = 26 ∨ ((u_2.2.1 0 0) : Int32).toInt = 27 ∨ (p0 : Int32).toInt + 1 < (p7 : Int32).toInt from by (first | (clear hpre2 hpre3 y2_1; omega) | omega)), (show ((u_2.2.1 1 0) : Int32).toInt ≠ 0 ∨ (p0 : Int32).toInt = (p0 : Int32).toInt + 1 from by (first | (clear hpre2 hpre3 y2_1; omega) | omega)), (show ((u_2.2.1 1 0) : Int32).toInt ≠ 0 ∨ (p2 : Int32).toInt = 0 from by (first | (clear hpre2 hpre3 y2_1; omega) | omega)), y2_1, (show (p0 : Int32).toInt ≤ (p0 : Int32).toInt from (Int.le_refl _)), (show ∀ vv : Nat → Int32, SIM f0 f1 vv (p7 : Int32).toInt (tak 58) (p0 : Int32).toInt (p1 : Int32).toInt (p2 : Int32).toInt (p3 : Int32).toInt (p0 : Int32).toInt ((u_2.2.1 0 0) : Int32).toInt ((u_2.2.1 1 0) : Int32).toInt ((u_2.2.1 2 0) : Int32).toInt from fun _ => sim_tk2 (by (first | assumption | (clear hpre2 hpre3 y2_1; omega) | omega)) (y2_2 _ _)), trivial⟩ [1, 2, 0, 3] rfl rfl dX5_take_20 (Nat.le_of_ble_eq_true rfl) (Nat.le_of_ble_eq_true rfl)
  · replace c_1 := i_eq (x := p1) (y := 58) rfl (show (58 : Int32).toInt = 58 by decide) c_1
    refine lv_aload_n hx hb dX5_take_8 rfl (lv_at hl 0 rfl) ?_
    refine q_callVv (rest := []) (wr := []) X hK hT hA h (fun sz => gX5_advance_9820dfe l D cy h0 h1 h2 h3 p0 p1 p2 p3 w0 w1 p4 p5 w2 p6 p7 w3 f0 f1 hp0 (i_rng _) (i_rng _) (i_rng _) hp4 (i_rng _) hp6 hp7 (hpre0) (hpre3) (by (first | (clear hpre2 hpre3; omega) | omega)) sz) wm_3_68 wm_3_71 wm_1_2 hd_X5_advance wm_3_70 wp_1_8 (ci := 5) (q0 := 0) rfl rfl ⟨Nat.le_of_ble_eq_true rfl, Nat.le_of_ble_eq_true rfl⟩ hl.1 rfl (Nat.le_of_ble_eq_true rfl) dX5_take_9 ⟨Nat.le_of_ble_eq_true rfl, Nat.le_of_ble_eq_true rfl⟩ [0, 1, 2, 3] [] rfl rfl (by decide) rfl rfl (fun u_3 H locs w_3 h_3 => ?_)
    clear h
    obtain ⟨w3_0, w3_1, w3_2, w3_3, y3_0, y3_1, y3_2, y3_3, y3_4, y3_5, y3_6, _⟩ := w_3
    replace h_3 : qW D _ _ (wk_8964b4ae4 cy h0 h1 (u_3.2.1 0 0) (u_3.2.1 1 0) (u_3.2.1 2 0) (u_3.2.1 3 0) w0 w1 p4 p5 h1 w2 p6 p7 h2 h3 w3 h2 f0 h3 f1) _ _ := h_3
    refine lv_goto (tgt := 20) hx hb dX5_take_12 (by decide) ?_
    exact q_vret X hr hlk hK h_3 (fun _ => 0, (vcons (fun _ => (u_3.2.1 1 0)) (vcons (fun _ => (u_3.2.1 2 0)) (vcons (fun _ => (u_3.2.1 3 0)) (vcons (fun _ => (u_3.2.1 0 0)) (fun _ => (fun _ => 0)))))), fun _ _ => 0) ⟨w3_1, w3_2, w3_3, w3_0, y3_0, (show ((u_3.2.1 2 0) : Int32).toInt ≠ 0 ∨ ((u_3.2.1 1 0) : Int32).toInt = 26 ∨ ((u_3.2.1 1 0) : Int32).toInt = 27 ∨ ((u_3.2.1 0 0) : Int32).toInt + 1 < (p7 : Int32).toInt from by (first | (clear hpre2 hpre3 y3_1 y3_2 y3_4 y3_5; omega) | omega)), (show ((u_3.2.1 2 0) : Int32).toInt ≠ 0 ∨ ((u_3.2.1 0 0) : Int32).toInt = (p0 : Int32).toInt + 1 from by (first | (clear hpre2 hpre3 y3_1 y3_2 y3_4 y3_5; omega) | omega)), y3_2, y3_5, y3_3, (show ∀ vv : Nat → Int32, SIM f0 f1 vv (p7 : Int32).toInt (tak 58) (p0 : Int32).toInt (p1 : Int32).toInt (p2 : Int32).toInt (p3 : Int32).toInt ((u_3.2.1 0 0) : Int32).toInt ((u_3.2.1 1 0) : Int32).toInt ((u_3.2.1 2 0) : Int32).toInt ((u_3.2.1 3 0) : Int32).toInt from fun _ => sim_tk1 (by (first | assumption | (clear hpre2 hpre3 y3_1 y3_2 y3_4 y3_5; omega) | omega)) (by (first | assumption | (clear hpre2 hpre3 y3_1 y3_2 y3_4 y3_5; omega) | omega)) y3_6 (by (first | assumption | (clear hpre2 hpre3 y3_1 y3_2 y3_4 y3_5; omega) | omega))), trivial⟩ [0, 1, 2, 3] rfl rfl dX5_take_20 (Nat.le_of_ble_eq_true rfl) (Nat.le_of_ble_eq_true rfl)
set_option maxHeartbeats 4000000 in
set_option maxRecDepth 100000 in
theorem gJ7_copyOf_59c91_81346bf (l : Launch) (D : va_G) (cy : Nat → ClassId) (h0 : Nat) (p0 : Int32) (f0 : Nat → Int32) (hp0 : 0 ≤ (p0).toInt ∧ (p0).toInt ≤ 899) (hpre0 : (p0 : Int32).toInt ≤ 899) (sz : Nat) : MAr l yJ7_copyOf_59c91 cJ7_copyOf_59c91 3 { frames := 1, cells := 1, slots := 900, locals := 40 } [.ref h0, .int p0] D cy [(h0, .inl (cy 1, 900, .inl f0))] sz (fun u => True) (fun u => (wk_bc275e43f cy h0 f0 (u.1 0) p0.toNatClampNeg (u.2.1 0))) 1 900 := by
  refine q_ent (own := RJ7) (by decide) rfl (Nat.le_of_ble_eq_true rfl) (fun p e s m below meth c ls X hr hlk hnm hK hT h hA hl => ?_)
  obtain ⟨hx, hb, hml, hown, ht⟩ := id X
  replace hl : lv_has ls 3 [(0, .ref h0), (1, .int p0)] := hl
  refine lv_iload_n hx hb dJ7_copyOf_59c91_0 rfl (lv_at hl 1 rfl) ?_
  refine lv_aload_n hx hb dJ7_copyOf_59c91_1 rfl (lv_at hl 0 rfl) ?_
  refine q_alen X hK h 0 1 rfl rfl 900 (show Int32.ofNat 900 = 900 by decide) dJ7_copyOf_59c91_2 ?_
  refine lv_icmp_ne (tgt := 14) hx hb dJ7_copyOf_59c91_3 (by decide) (fun c_1 => ?_) (fun c_1 => ?_)
  · replace c_1 := i_ne (x := p0) (y := 900) rfl (show (900 : Int32).toInt = 900 by decide) c_1
    refine lv_iload_n hx hb dJ7_copyOf_59c91_14 rfl (lv_at hl 1 rfl) ?_
    refine q_newi X hK hA h wm_1_67 (p0.toNatClampNeg) (i_nn (by omega)) rfl (i_bts (by omega) (by omega)) (Nat.le_of_ble_eq_true rfl) (i_sl (by omega) (by omega)) dJ7_copyOf_59c91_15 (fun q_2 H h_2 => ?_)
    refine W.widen (k := 1) (n := 900) (Nat.le_of_ble_eq_true rfl) (i_sl (by omega) (by omega)) ?_
    clear h
    replace h_2 : qW D _ _ (wk_bc275e43f cy h0 f0 q_2 p0.toNatClampNeg (fun _ => 0)) _ _ := h_2
    refine lv_astore_n (lv' := [(2, .ref q_2), (0, .ref h0), (1, .int p0)]) hx hb dJ7_copyOf_59c91_17 rfl hl (by decide) rfl (fun ls_3 hl_3 => ?_)
    clear hl
    refine lv_aload_n hx hb dJ7_copyOf_59c91_18 rfl (lv_at hl_3 1 rfl) ?_
    refine lv_iconst (v := 0) hx hb dJ7_copyOf_59c91_19 (by decide) ?_
    refine lv_aload_n hx hb dJ7_copyOf_59c91_20 rfl (lv_at hl_3 0 rfl) ?_
    refine lv_iconst (v := 0) hx hb dJ7_copyOf_59c91_21 (by decide) ?_
    refine lv_aload_n hx hb dJ7_copyOf_59c91_22 rfl (lv_at hl_3 1 rfl) ?_
    refine q_alen X hK h_2 0 1 rfl rfl 900 (show Int32.ofNat 900 = 900 by decide) dJ7_copyOf_59c91_23 ?_
    refine lv_iload_n hx hb dJ7_copyOf_59c91_24 rfl (lv_at hl_3 2 rfl) ?_
    refine va_mmin hx hb (hml.trans hl_3.1.symm) hown (ht _ wm_3_149) (ht _ wm_2_171) (ht _ wm_1_13) (ht _ wm_2_172) (Nat.le_of_ble_eq_true rfl) (Nat.le_of_ble_eq_true rfl) (Nat.le_of_ble_eq_true rfl) (Nat.le_of_ble_eq_true rfl) dJ7_copyOf_59c91_25 ?_
    obtain ⟨z_4, ez_4, hz_4⟩ := e_min (x := 900) (y := p0) (show (900 : Int32).toInt = 900 by decide) rfl
    refine q_c z_4 ez_4 ?_
    clear ez_4
    refine q_copy X hK h_2 wm_3_150 wm_3_152 wm_3_151 wm_1_21 hl_3.1 0 1 rfl rfl (by decide) (by decide) (i_nn (by omega)) (i_cp0 (by omega) (by omega)) (i_cp1 (by omega) (by omega)) (Nat.le_of_ble_eq_true rfl) (Nat.le_of_ble_eq_true rfl) dJ7_copyOf_59c91_28 (fun F_5 H locs h_6 => ?_)
    clear h_2
    replace h_6 : qW D _ _ (wk_bc275e43f cy h0 f0 q_2 p0.toNatClampNeg F_5) _ _ := h_6
    refine lv_aload_n hx hb dJ7_copyOf_59c91_31 rfl (lv_at hl_3 0 rfl) ?_
    exact q_aretA X hr hlk hK h_6 ((vcons q_2 (fun _ => 0)), (vcons F_5 (fun _ => (fun _ => 0))), fun _ _ => 0) rfl trivial [0, 1] rfl rfl dJ7_copyOf_59c91_32 (Nat.le_of_ble_eq_true rfl) (Nat.le_of_ble_eq_true rfl)
  · replace c_1 := i_eq (x := p0) (y := 900) rfl (show (900 : Int32).toInt = 900 by decide) c_1
    exfalso
    omega
set_option maxHeartbeats 4000000 in
set_option maxRecDepth 100000 in
theorem gX4_init_6da7c59 (l : Launch) (D : va_G) (cy : Nat → ClassId) (h0 : Nat) (h1 : Nat) (p0 : Int32) (w0 : Value) (f0 : Nat → Int32) (hp0 : 0 ≤ (p0).toInt ∧ (p0).toInt ≤ 899) (hpre0 : (p0 : Int32).toInt ≤ 899) (sz : Nat) : MV l yX4_init cX4_init 3 { frames := 2, cells := 1, slots := 900, locals := 62 } [.ref h0, .ref h1, .int p0] D cy [(h0, .inr (4, [w0])), (h1, .inl (cy 1, 900, .inl f0))] sz (fun u => True) (fun u => (wk_dfd8ea8dd cy h0 (u.1 0) h1 f0 (u.1 0) p0.toNatClampNeg (u.2.1 0))) 1 900 := by
  refine q_ent (own := RX4) (by decide) rfl (Nat.le_of_ble_eq_true rfl) (fun p e s m below meth c ls X hr hlk hnm hK hT h hA hl => ?_)
  obtain ⟨hx, hb, hml, hown, ht⟩ := id X
  replace hl : lv_has ls 3 [(0, .ref h0), (1, .ref h1), (2, .int p0)] := hl
  refine lv_aload_n hx hb dX4_init_0 rfl (lv_at hl 0 rfl) ?_
  refine q_obj X wm_3_138 wm_1_29 wm_1_30 hl.1 dX4_init_1 (Nat.le_of_ble_eq_true rfl) (Nat.le_of_ble_eq_true rfl) ?_
  refine lv_aload_n hx hb dX4_init_4 rfl (lv_at hl 0 rfl) ?_
  refine lv_aload_n hx hb dX4_init_5 rfl (lv_at hl 1 rfl) ?_
  refine lv_iload_n hx hb dX4_init_6 rfl (lv_at hl 2 rfl) ?_
  refine q_callSr (rest := [.ref h0]) (wr := [(h0, .inr (4, [w0]))]) X hK hT hA h (fun sz => gJ7_copyOf_59c91_81346bf l D cy h1 p0 f0 hp0 (hpre0) sz) wm_3_139 wm_3_141 wm_1_20 hd_J7_copyOf_59c91 wm_3_140 ⟨Nat.le_of_ble_eq_true rfl, Nat.le_of_ble_eq_true rfl⟩ hl.1 rfl (Nat.le_of_ble_eq_true rfl) dX4_init_7 ⟨Nat.le_of_ble_eq_true rfl, Nat.le_of_ble_eq_true rfl⟩ [1] [0] rfl rfl (by decide) rfl rfl (fun u_1 H locs w_1 h_1 => ?_)
  clear h
  clear w_1
  replace h_1 : qW D _ _ [(h0, .inr (4, [w0])), (h1, .inl (cy 1, 900, .inl f0)), ((u_1.1 0), .inl (cy 1, p0.toNatClampNeg, .inl (u_1.2.1 0)))] _ _ := h_1
  refine q_putF (v := .ref (u_1.1 0)) X hK h_1 0 rfl rfl wf_4 tyX4 tyX4_ok nmX4 0 (by decide) wm_3_153 rfl hnm rfl rfl rfl (Nat.le_of_ble_eq_true rfl) dX4_init_10 (fun H locs h_2 => ?_)
  clear h_1
  replace h_2 : qW D _ _ (wk_dfd8ea8dd cy h0 (u_1.1 0) h1 f0 (u_1.1 0) p0.toNatClampNeg (u_1.2.1 0)) _ _ := h_2
  exact q_vret X hr hlk hK h_2 ((vcons (u_1.1 0) (fun _ => 0)), (vcons (u_1.2.1 0) (fun _ => (fun _ => 0))), fun _ _ => 0) trivial [0, 1, 2] rfl rfl dX4_init_13 (Nat.le_of_ble_eq_true rfl) (Nat.le_of_ble_eq_true rfl)
set_option maxHeartbeats 4000000 in
set_option maxRecDepth 100000 in
theorem gX5_readLaw_3277650 (l : Launch) (D : va_G) (cy : Nat → ClassId) (h0 : Nat) (h1 : Nat) (h2 : Nat) (h3 : Nat) (h4 : Nat) (h5 : Nat) (p0 : Int32) (o0 : Option Nat) (p1 : Int32) (p2 : Int32) (p3 : Int32) (p4 : Int32) (w0 : Value) (p5 : Int32) (p6 : Int32) (w1 : Value) (p7 : Int32) (p8 : Int32) (f0 : Nat → Int32) (f1 : Nat → Int32) (f2 : Nat → Int32) (f3 : Nat → Int32) (hp0 : (-2147483648) ≤ (p0).toInt ∧ (p0).toInt ≤ 2147483647) (hp1 : (-1) ≤ (p1).toInt ∧ (p1).toInt ≤ 900) (hp2 : (-2147483648) ≤ (p2).toInt ∧ (p2).toInt ≤ 2147483647) (hp3 : (-2147483648) ≤ (p3).toInt ∧ (p3).toInt ≤ 2147483647) (hp4 : (-2147483648) ≤ (p4).toInt ∧ (p4).toInt ≤ 2147483647) (hp5 : 0 ≤ (p5).toInt ∧ (p5).toInt ≤ 900) (hp6 : (-2147483648) ≤ (p6).toInt ∧ (p6).toInt ≤ 2147483647) (hp7 : 0 ≤ (p7).toInt ∧ (p7).toInt ≤ 900) (hp8 : 0 ≤ (p8).toInt ∧ (p8).toInt ≤ 901) (hpre0 : KZ f0 (p8 : Int32).toInt) (hpre1 : 0 ≤ (p1 : Int32).toInt ∧ (p1 : Int32).toInt < (p8 : Int32).toInt) (hpre2 : (p3 : Int32).toInt ≠ 0 ∨ (p2 : Int32).toInt = 26 ∨ (p2 : Int32).toInt = 27 ∨ (p1 : Int32).toInt + 1 < (p8 : Int32).toInt) (hpre3 : (p3 : Int32).toInt = 0 ∨ (p2 : Int32).toInt = 27) (hpre4 : (p2 : Int32).toInt ≠ 26 ∧ (p2 : Int32).toInt ≠ 27) (sz : Nat) : MQw l yX5_readLaw cX5_readLaw 4 "OppositeHouse$Law" { frames := 26, cells := 2, slots := 901, locals := 654 } [.ref h0, .int p0, (va_rf o0)] D cy (wk_a727c0403 cy h0 h1 p1 p2 p3 p4 w0 h5 p5 p6 h1 w1 p7 p8 h2 h3 h4 h2 f0 h3 f1 h4 f2 h5 f3) sz (fun r u => (0 ≤ (u.1.2.1 0 0).toInt ∧ (u.1.2.1 0 0).toInt ≤ 900) ∧ ((-2147483648) ≤ (u.1.2.1 1 0).toInt ∧ (u.1.2.1 1 0).toInt ≤ 2147483647) ∧ ((-2147483648) ≤ (u.1.2.1 2 0).toInt ∧ (u.1.2.1 2 0).toInt ≤ 2147483647) ∧ ((-2147483648) ≤ (u.1.2.1 3 0).toInt ∧ (u.1.2.1 3 0).toInt ≤ 2147483647) ∧ (0 ≤ (u.1.2.1 4 0).toInt ∧ (u.1.2.1 4 0).toInt ≤ 900) ∧ ((-2147483648) ≤ (u.1.2.1 5 0).toInt ∧ (u.1.2.1 5 0).toInt ≤ 2147483647) ∧ (0 ≤ ((u.1.2.1 0 0) : Int32).toInt ∧ ((u.1.2.1 0 0) : Int32).toInt < (p8 : Int32).toInt) ∧ (((u.1.2.1 2 0) : Int32).toInt ≠ 0 ∨ ((u.1.2.1 1 0) : Int32).toInt = 26 ∨ ((u.1.2.1 1 0) : Int32).toInt = 27 ∨ ((u.1.2.1 0 0) : Int32).toInt + 1 < (p8 : Int32).toInt) ∧ (((u.1.2.1 2 0) : Int32).toInt = 0 ∨ ((u.1.2.1 1 0) : Int32).toInt = 27) ∧ (((u.1.2.1 2 0) : Int32).toInt ≠ 0 ∨ (p3 : Int32).toInt = 0) ∧ ((p1 : Int32).toInt ≤ ((u.1.2.1 0 0) : Int32).toInt) ∧ (((u.1.2.1 2 0) : Int32).toInt ≠ 0 ∨ (p1 : Int32).toInt + 1 ≤ ((u.1.2.1 0 0) : Int32).toInt) ∧ (LR cy u.2.1 (va_rf o0) (va_rf r)) ∧ (SIM f0 f1 f2 (p8 : Int32).toInt (lawS p0) (p1 : Int32).toInt (p2 : Int32).toInt (p3 : Int32).toInt (p4 : Int32).toInt ((u.1.2.1 0 0) : Int32).toInt ((u.1.2.1 1 0) : Int32).toInt ((u.1.2.1 2 0) : Int32).toInt ((u.1.2.1 3 0) : Int32).toInt) ∧ True) (fun u => (wk_a727c0403 cy h0 h1 (u.1.2.1 0 0) (u.1.2.1 1 0) (u.1.2.1 2 0) (u.1.2.1 3 0) w0 h5 (u.1.2.1 4 0) (u.1.2.1 5 0) h1 w1 p7 p8 h2 h3 h4 h2 f0 h3 f1 h4 f2 h5 (u.1.2.1 6))) 2 901 := by
  refine q_ent (own := RX5) (by decide) rfl (by cases o0 <;> exact Nat.le_of_ble_eq_true rfl) (fun p e s m below meth c ls X hr hlk hnm hK hT h hA hl => ?_)
  obtain ⟨hx, hb, hml, hown, ht⟩ := id X
  replace h : qW D _ _ ((wk_a727c0403 cy h0 h1 p1 p2 p3 p4 w0 h5 p5 p6 h1 w1 p7 p8 h2 h3 h4 h2 f0 h3 f1 h4 f2 h5 f3) ++ []) _ _ := h
  replace hl : lv_has ls 4 [(0, .ref h0), (1, .int p0), (2, (va_rf o0))] := hl
  refine lv_aload_n hx hb dX5_readLaw_0 rfl (lv_at hl 0 rfl) ?_
  refine q_get X hK h 0 rfl rfl wf_5 2 (by decide) rfl wm_1_146 dX5_readLaw_1 ?_
  refine lv_bipush (v := 20) hx hb dX5_readLaw_4 (by decide) ?_
  refine lv_icmp_ne (tgt := 13) hx hb dX5_readLaw_6 (by decide) (fun c_1 => ?_) (fun c_1 => ?_)
  · replace c_1 := i_ne (x := p2) (y := 20) rfl (show (20 : Int32).toInt = 20 by decide) c_1
    refine lv_iconst (v := 0) hx hb dX5_readLaw_13 (by decide) ?_
    refine lv_istore_n (lv' := [(3, .int 0), (0, .ref h0), (1, .int p0), (2, (va_rf o0))]) hx hb dX5_readLaw_14 rfl hl (by decide) (by cases o0 <;> rfl) (fun ls_2 hl_2 => ?_)
    clear hl
    refine lv_aload_n hx hb dX5_readLaw_15 rfl (lv_at hl_2 1 rfl) ?_
    refine q_callVvT (rest := []) (wr := (wk_97b0566c7 cy h4 f2 h5 f3)) X hK hT hA h (fun sz => gX5_advance_9820dfe l D cy h0 h1 h2 h3 p1 p2 p3 p4 w0 (.ref h5) p5 p6 w1 p7 p8 (.ref h4) f0 f1 hp1 (i_rng _) (i_rng _) (i_rng _) hp5 (i_rng _) hp7 hp8 (hpre0) (hpre3) (by (first | (clear hpre2 hpre3; omega) | omega)) sz) wm_3_68 wm_3_71 wm_1_2 hd_X5_advance wm_3_70 wp_1_8 (ci := 5) (q0 := 0) rfl rfl ⟨Nat.le_of_ble_eq_true rfl, Nat.le_of_ble_eq_true rfl⟩ hl_2.1 rfl (Nat.le_of_ble_eq_true rfl) dX5_readLaw_16 ⟨Nat.le_of_ble_eq_true rfl, Nat.le_of_ble_eq_true rfl⟩ [0, 1, 2, 3] [4, 5] rfl rfl (by decide) rfl rfl (fun u_3 H locs w_3 h_3 => ?_)
    clear h
    obtain ⟨w3_0, w3_1, w3_2, w3_3, y3_0, y3_1, y3_2, y3_3, y3_4, y3_5, y3_6, _⟩ := w_3
    replace h_3 : qW D _ _ ((wk_e6664c302 cy h4 f2 h5 f3 h0 h1 (u_3.2.1 0 0) (u_3.2.1 1 0) (u_3.2.1 2 0) (u_3.2.1 3 0) w0 h5 p5 p6 h1 w1 p7 p8 h2 h3 h4 h2 f0 h3 f1) ++ []) _ _ := h_3
    refine lv_aload_n hx hb dX5_readLaw_19 rfl (lv_at hl_2 1 rfl) ?_
    refine lv_bipush (v := 58) hx hb dX5_readLaw_20 (by decide) ?_
    refine q_callVvT (rest := []) (wr := (wk_97b0566c7 cy h4 f2 h5 f3)) X hK hT hA h_3 (fun sz => gX5_take_0541260 l D cy h0 h1 h2 h3 (u_3.2.1 0 0) (u_3.2.1 1 0) (u_3.2.1 2 0) (u_3.2.1 3 0) w0 (.ref h5) p5 p6 w1 p7 p8 (.ref h4) f0 f1 w3_0 (i_rng _) (i_rng _) (i_rng _) hp5 (i_rng _) hp7 hp8 (hpre0) (y3_0) (by (first | (clear hpre2 hpre3 y3_1 y3_2 y3_4 y3_5; omega) | omega)) (y3_5) (by have q0 : (58 : Int32).toInt = 58 := (by decide); (first | (clear hpre2 hpre3 y3_1 y3_2 y3_4 y3_5; omega) | omega)) sz) wm_3_72 wm_3_75 wm_1_2 hd_X5_take wm_3_74 wp_1_9 (ci := 5) (q0 := 0) rfl rfl ⟨Nat.le_of_ble_eq_true rfl, Nat.le_of_ble_eq_true rfl⟩ hl_2.1 rfl (Nat.le_of_ble_eq_true rfl) dX5_readLaw_22 ⟨Nat.le_of_ble_eq_true rfl, Nat.le_of_ble_eq_true rfl⟩ [2, 3, 4, 5] [0, 1] rfl rfl (by decide) rfl rfl (fun u_4 H locs w_4 h_4 => ?_)
    clear h_3
    obtain ⟨w4_0, w4_1, w4_2, w4_3, y4_0, y4_1, y4_2, y4_3, y4_4, y4_5, y4_6, _⟩ := w_4
    have lq_4_1 : (58 : Int32).toInt = 58 := (by decide)
    replace h_4 : qW D _ _ ((wk_e6664c302 cy h4 f2 h5 f3 h0 h1 (u_4.2.1 3 0) (u_4.2.1 0 0) (u_4.2.1 1 0) (u_4.2.1 2 0) w0 h5 p5 p6 h1 w1 p7 p8 h2 h3 h4 h2 f0 h3 f1) ++ []) _ _ := h_4
    refine lv_aload_n hx hb dX5_readLaw_25 rfl (lv_at hl_2 1 rfl) ?_
    refine lv_iconst (v := 0) hx hb dX5_readLaw_26 (by decide) ?_
    refine q_put (v := .int 0) X hK h_4 2 rfl rfl wf_5 tyX5 tyX5_ok nmX5 7 (by decide) wm_1_153 rfl rfl rfl (Nat.le_of_ble_eq_true rfl) dX5_readLaw_27 (fun H locs h_5 => ?_)
    clear h_4
    replace h_5 : qW D _ _ ((wk_e6664c302 cy h4 f2 h5 f3 h0 h1 (u_4.2.1 3 0) (u_4.2.1 0 0) (u_4.2.1 1 0) (u_4.2.1 2 0) w0 h5 0 p6 h1 w1 p7 p8 h2 h3 h4 h2 f0 h3 f1) ++ []) _ _ := h_5
    refine lv_aload_n hx hb dX5_readLaw_30 rfl (lv_at hl_2 1 rfl) ?_
    refine lv_iload_n hx hb dX5_readLaw_31 rfl (lv_at hl_2 2 rfl) ?_
    refine q_put (v := .int p0) X hK h_5 2 rfl rfl wf_5 tyX5 tyX5_ok nmX5 8 (by decide) wm_1_154 rfl rfl rfl (Nat.le_of_ble_eq_true rfl) dX5_readLaw_32 (fun H locs h_6 => ?_)
    clear h_5
    replace h_6 : qW D _ _ ((wk_e6664c302 cy h4 f2 h5 f3 h0 h1 (u_4.2.1 3 0) (u_4.2.1 0 0) (u_4.2.1 1 0) (u_4.2.1 2 0) w0 h5 0 p0 h1 w1 p7 p8 h2 h3 h4 h2 f0 h3 f1) ++ []) _ _ := h_6
    refine lv_iload_n hx hb dX5_readLaw_35 rfl (lv_at hl_2 0 rfl) ?_
    refine lv_if_eq (tgt := 47) hx hb dX5_readLaw_36 (by decide) (fun _ => ?_) (fun c => absurd c (by decide +kernel))
    refine lv_aload_n hx hb dX5_readLaw_47 rfl (lv_at hl_2 1 rfl) ?_
    refine lv_iconst (v := 0) hx hb dX5_readLaw_48 (by decide) ?_
    refine q_callVvT (rest := []) (wr := []) X hK hT hA h_6 (fun sz => (gX5_ALLT_0feb8f5 l D cy 6).1  h0 h1 h2 h3 h4 h5 (0 : Int32) (u_4.2.1 3 0) (u_4.2.1 0 0) (u_4.2.1 1 0) (u_4.2.1 2 0) w0 (0 : Int32) p0 w1 p7 p8 f0 f1 f2 f3 ⟨by decide +kernel, by decide +kernel⟩ w4_3 (i_rng _) (i_rng _) (i_rng _) ⟨by decide +kernel, by decide +kernel⟩ (i_rng _) hp7 hp8 (hpre0) (y4_0) (y4_1) (y4_4) (by decide) sz) wm_3_121 wm_3_124 wm_1_2 hd_X5_readTruth wm_3_123 wp_2_5 (ci := 5) (q0 := 0) rfl rfl ⟨Nat.le_of_ble_eq_true rfl, Nat.le_of_ble_eq_true rfl⟩ hl_2.1 rfl (Nat.le_of_ble_eq_true rfl) dX5_readLaw_49 ⟨Nat.le_of_ble_eq_true rfl, Nat.le_of_ble_eq_true rfl⟩ [2, 3, 4, 5, 0, 1] [] rfl rfl (by decide) rfl rfl (fun u_7 H locs w_7 h_7 => ?_)
    clear h_6
    obtain ⟨w7_0, w7_1, w7_2, w7_3, w7_4, y7_0, y7_1, y7_2, y7_3, y7_4, y7_5, y7_6, _⟩ := w_7
    have lz_7_0 : (0 : Int32).toInt = 0 := (by decide)
    replace h_7 : qW D _ _ ((wk_a727c0403 cy h0 h1 (u_7.2.1 0 0) (u_7.2.1 1 0) (u_7.2.1 2 0) (u_7.2.1 3 0) w0 h5 (u_7.2.1 4 0) p0 h1 w1 p7 p8 h2 h3 h4 h2 f0 h3 f1 h4 f2 h5 (u_7.2.1 5)) ++ []) _ _ := h_7
    refine lv_aload_n hx hb dX5_readLaw_52 rfl (lv_at hl_2 1 rfl) ?_
    refine q_get X hK h_7 0 rfl rfl wf_5 3 (by decide) rfl wm_1_147 dX5_readLaw_53 ?_
    refine lv_if_eq (tgt := 63) hx hb dX5_readLaw_56 (by decide) (fun c_8 => ?_) (fun c_8 => ?_)
    · replace c_8 := i_eq (x := (u_7.2.1 2 0)) (y := 0) rfl (show (0 : Int32).toInt = 0 by decide) c_8
      have cb_9 := cs_b c_8 y7_2 (by decide) y7_3 y4_2 y3_0 y7_0 w7_4 hp8
      refine q_new (fs := [.null]) (ci := 4) X hK hA h_7 rfl wf_4 tyX4 tyX4_ok wm_3_133 wm_3_134 wm_1_19 df_4 (Nat.le_of_ble_eq_true rfl) (Nat.le_of_ble_eq_true rfl) dX5_readLaw_63 (fun q_10 H h_10 => ?_)
      clear h_7
      replace h_10 : qW D _ _ ((wk_ae24459d8 cy h0 h1 (u_7.2.1 0 0) (u_7.2.1 1 0) (u_7.2.1 2 0) (u_7.2.1 3 0) w0 h5 (u_7.2.1 4 0) p0 h1 w1 p7 p8 h2 h3 h4 h2 f0 h3 f1 h4 f2 h5 (u_7.2.1 5) q_10) ++ []) _ _ := h_10
      refine lv_dup hx hb dX5_readLaw_66 rfl ?_
      refine lv_aload_n hx hb dX5_readLaw_67 rfl (lv_at hl_2 1 rfl) ?_
      refine q_get X hK h_10 0 rfl rfl wf_5 6 (by decide) rfl wm_1_152 dX5_readLaw_68 ?_
      refine lv_aload_n hx hb dX5_readLaw_71 rfl (lv_at hl_2 1 rfl) ?_
      refine q_get X hK h_10 0 rfl rfl wf_5 7 (by decide) rfl wm_1_153 dX5_readLaw_72 ?_
      refine q_callIv (rest := [.ref q_10]) (wr := (wk_c1f241b95 cy h0 h1 (u_7.2.1 0 0) (u_7.2.1 1 0) (u_7.2.1 2 0) (u_7.2.1 3 0) w0 h5 (u_7.2.1 4 0) p0 h1 w1 p7 p8 h2 h3 h4 h2 f0 h3 f1 h4 f2)) X hK hT hA h_10 (fun sz => gX4_init_6da7c59 l D cy q_10 h5 (u_7.2.1 4 0) Value.null (u_7.2.1 5) cb_9 (cb_9.2) sz) wm_3_135 wm_3_137 wm_1_19 hd_X4_init wm_3_136 rfl ⟨Nat.le_of_ble_eq_true rfl, Nat.le_of_ble_eq_true rfl⟩ hl_2.1 rfl (Nat.le_of_ble_eq_true rfl) dX5_readLaw_75 ⟨Nat.le_of_ble_eq_true rfl, Nat.le_of_ble_eq_true rfl⟩ [6, 5] [0, 1, 2, 3, 4] rfl rfl (by decide) rfl rfl (fun u_11 H locs w_11 h_11 => ?_)
      clear h_10
      clear w_11
      replace h_11 : qW D _ _ ((wk_1fec3ea31 cy h0 h1 (u_7.2.1 0 0) (u_7.2.1 1 0) (u_7.2.1 2 0) (u_7.2.1 3 0) w0 h5 (u_7.2.1 4 0) p0 h1 w1 p7 p8 h2 h3 h4 h2 f0 h3 f1 h4 f2 q_10 (u_11.1 0) h5 (u_7.2.1 5) (u_11.1 0) (u_7.2.1 4 0).toNatClampNeg (u_11.2.1 0)) ++ []) _ _ := h_11
      exact q_qretW X hr hlk hK h_11 (some q_10) rfl (wk_11f4a5c50 cy q_10 (u_11.1 0) (u_11.1 0) (u_7.2.1 4 0).toNatClampNeg (u_11.2.1 0)) ((fun _ => 0, (vcons (fun _ => (u_7.2.1 0 0)) (vcons (fun _ => (u_7.2.1 1 0)) (vcons (fun _ => (u_7.2.1 2 0)) (vcons (fun _ => (u_7.2.1 3 0)) (vcons (fun _ => (u_7.2.1 4 0)) (vcons (fun _ => p0) (vcons (u_7.2.1 5) (fun _ => (fun _ => 0))))))))), fun _ _ => 0), ((wk_11f4a5c50 cy q_10 (u_11.1 0) (u_11.1 0) (u_7.2.1 4 0).toNatClampNeg (u_11.2.1 0)) ++ []), fun _ => none) rfl ⟨w7_0, w7_1, w7_2, w7_3, (bw cb_9 (by decide) (by decide)), hp0, y7_0, y7_1, y7_4, (show ((u_7.2.1 2 0) : Int32).toInt ≠ 0 ∨ (p3 : Int32).toInt = 0 from (fl_tr y7_3 (fl_tr y4_3 y3_2))), (show (p1 : Int32).toInt ≤ ((u_7.2.1 0 0) : Int32).toInt from (Int.le_trans (Int.le_trans y3_3 y4_5) y7_5)), (show ((u_7.2.1 2 0) : Int32).toInt ≠ 0 ∨ (p1 : Int32).toInt + 1 ≤ ((u_7.2.1 0 0) : Int32).toInt from (p1_o y7_3 y4_2 y3_3 y7_5)), (show LR cy ((wk_11f4a5c50 cy q_10 (u_11.1 0) (u_11.1 0) (u_7.2.1 4 0).toNatClampNeg (u_11.2.1 0)) ++ []) (va_rf o0) (.ref q_10) from Or.inr ⟨_, _, _, _, rfl, i_c900 (by (first | assumption | (clear hpre2 hpre3 y3_1 y3_2 y3_4 y3_5 y4_1 y4_2 y4_3 y4_4 y7_1 y7_2 y7_3 y7_4; omega) | omega)) (by (first | assumption | (clear hpre2 hpre3 y3_1 y3_2 y3_4 y3_5 y4_1 y4_2 y4_3 y4_4 y7_1 y7_2 y7_3 y7_4; omega) | omega)), rfl⟩), (show SIM f0 f1 f2 (p8 : Int32).toInt (lawS p0) (p1 : Int32).toInt (p2 : Int32).toInt (p3 : Int32).toInt (p4 : Int32).toInt ((u_7.2.1 0 0) : Int32).toInt ((u_7.2.1 1 0) : Int32).toInt ((u_7.2.1 2 0) : Int32).toInt ((u_7.2.1 3 0) : Int32).toInt from sim_la y3_6 (by (first | assumption | (clear hpre2 hpre3 y3_1 y3_2 y3_4 y3_5 y4_1 y4_2 y4_3 y4_4 y7_1 y7_2 y7_3 y7_4; omega) | omega)) (by (first | assumption | (clear hpre2 hpre3 y3_1 y3_2 y3_4 y3_5 y4_1 y4_2 y4_3 y4_4 y7_1 y7_2 y7_3 y7_4; omega) | omega)) (y4_6 _) (Or.inr ⟨(by (first | assumption | (clear hpre2 hpre3 y3_1 y3_2 y3_4 y3_5 y4_1 y4_2 y4_3 y4_4 y7_1 y7_2 y7_3 y7_4; omega) | omega)), y7_6⟩)), trivial⟩ [0, 1, 2, 3, 4, 6, 5, 7] rfl rfl dX5_readLaw_78 (Nat.le_of_ble_eq_true rfl) (Nat.le_of_ble_eq_true rfl)
    · replace c_8 := i_ne (x := (u_7.2.1 2 0)) (y := 0) rfl (show (0 : Int32).toInt = 0 by decide) c_8
      refine q_aldq hx hb dX5_readLaw_59 rfl (lv_at hl_2 3 rfl) ?_
      refine lv_goto (tgt := 78) hx hb dX5_readLaw_60 (by decide) ?_
      exact q_qretW X hr hlk hK h_7 o0 rfl [] ((fun _ => 0, (vcons (fun _ => (u_7.2.1 0 0)) (vcons (fun _ => (u_7.2.1 1 0)) (vcons (fun _ => (u_7.2.1 2 0)) (vcons (fun _ => (u_7.2.1 3 0)) (vcons (fun _ => (u_7.2.1 4 0)) (vcons (fun _ => p0) (vcons (u_7.2.1 5) (fun _ => (fun _ => 0))))))))), fun _ _ => 0), ([] ++ []), fun _ => none) rfl ⟨w7_0, w7_1, w7_2, w7_3, w7_4, hp0, y7_0, y7_1, y7_4, (show ((u_7.2.1 2 0) : Int32).toInt ≠ 0 ∨ (p3 : Int32).toInt = 0 from (fl_tr y7_3 (fl_tr y4_3 y3_2))), (show (p1 : Int32).toInt ≤ ((u_7.2.1 0 0) : Int32).toInt from (Int.le_trans (Int.le_trans y3_3 y4_5) y7_5)), (show ((u_7.2.1 2 0) : Int32).toInt ≠ 0 ∨ (p1 : Int32).toInt + 1 ≤ ((u_7.2.1 0 0) : Int32).toInt from (p1_o y7_3 y4_2 y3_3 y7_5)), (show LR cy ([] ++ []) (va_rf o0) (va_rf o0) from Or.inl ⟨rfl, rfl⟩), (show SIM f0 f1 f2 (p8 : Int32).toInt (lawS p0) (p1 : Int32).toInt (p2 : Int32).toInt (p3 : Int32).toInt (p4 : Int32).toInt ((u_7.2.1 0 0) : Int32).toInt ((u_7.2.1 1 0) : Int32).toInt ((u_7.2.1 2 0) : Int32).toInt ((u_7.2.1 3 0) : Int32).toInt from sim_la y3_6 (by (first | assumption | (clear hpre2 hpre3 y3_1 y3_2 y3_4 y3_5 y4_1 y4_2 y4_3 y4_4 y7_1 y7_2 y7_3 y7_4; omega) | omega)) (by (first | assumption | (clear hpre2 hpre3 y3_1 y3_2 y3_4 y3_5 y4_1 y4_2 y4_3 y4_4 y7_1 y7_2 y7_3 y7_4; omega) | omega)) (y4_6 _) (Or.inr ⟨(by (first | assumption | (clear hpre2 hpre3 y3_1 y3_2 y3_4 y3_5 y4_1 y4_2 y4_3 y4_4 y7_1 y7_2 y7_3 y7_4; omega) | omega)), y7_6⟩)), trivial⟩ [0, 1, 2, 3, 4, 5] rfl rfl dX5_readLaw_78 (Nat.le_of_ble_eq_true rfl) (Nat.le_of_ble_eq_true rfl)
  · replace c_1 := i_eq (x := p2) (y := 20) rfl (show (20 : Int32).toInt = 20 by decide) c_1
    refine lv_iconst (v := 1) hx hb dX5_readLaw_9 (by decide) ?_
    refine lv_goto (tgt := 14) hx hb dX5_readLaw_10 (by decide) ?_
    refine lv_istore_n (lv' := [(3, .int 1), (0, .ref h0), (1, .int p0), (2, (va_rf o0))]) hx hb dX5_readLaw_14 rfl hl (by decide) (by cases o0 <;> rfl) (fun ls_12 hl_12 => ?_)
    clear hl
    refine lv_aload_n hx hb dX5_readLaw_15 rfl (lv_at hl_12 1 rfl) ?_
    refine q_callVvT (rest := []) (wr := (wk_97b0566c7 cy h4 f2 h5 f3)) X hK hT hA h (fun sz => gX5_advance_9820dfe l D cy h0 h1 h2 h3 p1 p2 p3 p4 w0 (.ref h5) p5 p6 w1 p7 p8 (.ref h4) f0 f1 hp1 (i_rng _) (i_rng _) (i_rng _) hp5 (i_rng _) hp7 hp8 (hpre0) (hpre3) (by (first | (clear hpre2 hpre3; omega) | omega)) sz) wm_3_68 wm_3_71 wm_1_2 hd_X5_advance wm_3_70 wp_1_8 (ci := 5) (q0 := 0) rfl rfl ⟨Nat.le_of_ble_eq_true rfl, Nat.le_of_ble_eq_true rfl⟩ hl_12.1 rfl (Nat.le_of_ble_eq_true rfl) dX5_readLaw_16 ⟨Nat.le_of_ble_eq_true rfl, Nat.le_of_ble_eq_true rfl⟩ [0, 1, 2, 3] [4, 5] rfl rfl (by decide) rfl rfl (fun u_13 H locs w_13 h_13 => ?_)
    clear h
    obtain ⟨w13_0, w13_1, w13_2, w13_3, y13_0, y13_1, y13_2, y13_3, y13_4, y13_5, y13_6, _⟩ := w_13
    replace h_13 : qW D _ _ ((wk_e6664c302 cy h4 f2 h5 f3 h0 h1 (u_13.2.1 0 0) (u_13.2.1 1 0) (u_13.2.1 2 0) (u_13.2.1 3 0) w0 h5 p5 p6 h1 w1 p7 p8 h2 h3 h4 h2 f0 h3 f1) ++ []) _ _ := h_13
    refine lv_aload_n hx hb dX5_readLaw_19 rfl (lv_at hl_12 1 rfl) ?_
    refine lv_bipush (v := 58) hx hb dX5_readLaw_20 (by decide) ?_
    refine q_callVvT (rest := []) (wr := (wk_97b0566c7 cy h4 f2 h5 f3)) X hK hT hA h_13 (fun sz => gX5_take_0541260 l D cy h0 h1 h2 h3 (u_13.2.1 0 0) (u_13.2.1 1 0) (u_13.2.1 2 0) (u_13.2.1 3 0) w0 (.ref h5) p5 p6 w1 p7 p8 (.ref h4) f0 f1 w13_0 (i_rng _) (i_rng _) (i_rng _) hp5 (i_rng _) hp7 hp8 (hpre0) (y13_0) (by (first | (clear hpre2 hpre3 y13_1 y13_2 y13_4 y13_5; omega) | omega)) (y13_5) (by have q0 : (58 : Int32).toInt = 58 := (by decide); (first | (clear hpre2 hpre3 y13_1 y13_2 y13_4 y13_5; omega) | omega)) sz) wm_3_72 wm_3_75 wm_1_2 hd_X5_take wm_3_74 wp_1_9 (ci := 5) (q0 := 0) rfl rfl ⟨Nat.le_of_ble_eq_true rfl, Nat.le_of_ble_eq_true rfl⟩ hl_12.1 rfl (Nat.le_of_ble_eq_true rfl) dX5_readLaw_22 ⟨Nat.le_of_ble_eq_true rfl, Nat.le_of_ble_eq_true rfl⟩ [2, 3, 4, 5] [0, 1] rfl rfl (by decide) rfl rfl (fun u_14 H locs w_14 h_14 => ?_)
    clear h_13
    obtain ⟨w14_0, w14_1, w14_2, w14_3, y14_0, y14_1, y14_2, y14_3, y14_4, y14_5, y14_6, _⟩ := w_14
    have lq_14_1 : (58 : Int32).toInt = 58 := (by decide)
    replace h_14 : qW D _ _ ((wk_e6664c302 cy h4 f2 h5 f3 h0 h1 (u_14.2.1 3 0) (u_14.2.1 0 0) (u_14.2.1 1 0) (u_14.2.1 2 0) w0 h5 p5 p6 h1 w1 p7 p8 h2 h3 h4 h2 f0 h3 f1) ++ []) _ _ := h_14
    refine lv_aload_n hx hb dX5_readLaw_25 rfl (lv_at hl_12 1 rfl) ?_
    refine lv_iconst (v := 0) hx hb dX5_readLaw_26 (by decide) ?_
    refine q_put (v := .int 0) X hK h_14 2 rfl rfl wf_5 tyX5 tyX5_ok nmX5 7 (by decide) wm_1_153 rfl rfl rfl (Nat.le_of_ble_eq_true rfl) dX5_readLaw_27 (fun H locs h_15 => ?_)
    clear h_14
    replace h_15 : qW D _ _ ((wk_e6664c302 cy h4 f2 h5 f3 h0 h1 (u_14.2.1 3 0) (u_14.2.1 0 0) (u_14.2.1 1 0) (u_14.2.1 2 0) w0 h5 0 p6 h1 w1 p7 p8 h2 h3 h4 h2 f0 h3 f1) ++ []) _ _ := h_15
    refine lv_aload_n hx hb dX5_readLaw_30 rfl (lv_at hl_12 1 rfl) ?_
    refine lv_iload_n hx hb dX5_readLaw_31 rfl (lv_at hl_12 2 rfl) ?_
    refine q_put (v := .int p0) X hK h_15 2 rfl rfl wf_5 tyX5 tyX5_ok nmX5 8 (by decide) wm_1_154 rfl rfl rfl (Nat.le_of_ble_eq_true rfl) dX5_readLaw_32 (fun H locs h_16 => ?_)
    clear h_15
    replace h_16 : qW D _ _ ((wk_e6664c302 cy h4 f2 h5 f3 h0 h1 (u_14.2.1 3 0) (u_14.2.1 0 0) (u_14.2.1 1 0) (u_14.2.1 2 0) w0 h5 0 p0 h1 w1 p7 p8 h2 h3 h4 h2 f0 h3 f1) ++ []) _ _ := h_16
    refine lv_iload_n hx hb dX5_readLaw_35 rfl (lv_at hl_12 0 rfl) ?_
    refine lv_if_eq (tgt := 47) hx hb dX5_readLaw_36 (by decide) (fun c => absurd c (by decide +kernel)) (fun _ => ?_)
    refine lv_aload_n hx hb dX5_readLaw_39 rfl (lv_at hl_12 1 rfl) ?_
    refine lv_iconst (v := 0) hx hb dX5_readLaw_40 (by decide) ?_
    refine q_callVvT (rest := []) (wr := []) X hK hT hA h_16 (fun sz => (gX5_ALLS_799895c l D cy 6)  h0 h1 h2 h3 h4 h5 (0 : Int32) (u_14.2.1 3 0) (u_14.2.1 0 0) (u_14.2.1 1 0) (u_14.2.1 2 0) w0 (0 : Int32) p0 w1 p7 p8 f0 f1 f2 f3 ⟨by decide +kernel, by decide +kernel⟩ w14_3 (i_rng _) (i_rng _) (i_rng _) ⟨by decide +kernel, by decide +kernel⟩ (i_rng _) hp7 hp8 (hpre0) (y14_0) (y14_1) (y14_4) (by decide) sz) wm_3_101 wm_3_104 wm_1_2 hd_X5_readSum wm_3_103 wp_2_0 (ci := 5) (q0 := 0) rfl rfl ⟨Nat.le_of_ble_eq_true rfl, Nat.le_of_ble_eq_true rfl⟩ hl_12.1 rfl (Nat.le_of_ble_eq_true rfl) dX5_readLaw_41 ⟨Nat.le_of_ble_eq_true rfl, Nat.le_of_ble_eq_true rfl⟩ [2, 3, 4, 5, 0, 1] [] rfl rfl (by decide) rfl rfl (fun u_17 H locs w_17 h_17 => ?_)
    clear h_16
    obtain ⟨w17_0, w17_1, w17_2, w17_3, w17_4, y17_0, y17_1, y17_2, y17_3, y17_4, y17_5, y17_6, _⟩ := w_17
    have lz_17_0 : (0 : Int32).toInt = 0 := (by decide)
    replace h_17 : qW D _ _ ((wk_a727c0403 cy h0 h1 (u_17.2.1 0 0) (u_17.2.1 1 0) (u_17.2.1 2 0) (u_17.2.1 3 0) w0 h5 (u_17.2.1 4 0) p0 h1 w1 p7 p8 h2 h3 h4 h2 f0 h3 f1 h4 f2 h5 (u_17.2.1 5)) ++ []) _ _ := h_17
    refine lv_goto (tgt := 52) hx hb dX5_readLaw_44 (by decide) ?_
    refine lv_aload_n hx hb dX5_readLaw_52 rfl (lv_at hl_12 1 rfl) ?_
    refine q_get X hK h_17 0 rfl rfl wf_5 3 (by decide) rfl wm_1_147 dX5_readLaw_53 ?_
    refine lv_if_eq (tgt := 63) hx hb dX5_readLaw_56 (by decide) (fun c_18 => ?_) (fun c_18 => ?_)
    · replace c_18 := i_eq (x := (u_17.2.1 2 0)) (y := 0) rfl (show (0 : Int32).toInt = 0 by decide) c_18
      have cb_19 := cs_b c_18 y17_2 (by decide) y17_3 y14_2 y13_0 y17_0 w17_4 hp8
      refine q_new (fs := [.null]) (ci := 4) X hK hA h_17 rfl wf_4 tyX4 tyX4_ok wm_3_133 wm_3_134 wm_1_19 df_4 (Nat.le_of_ble_eq_true rfl) (Nat.le_of_ble_eq_true rfl) dX5_readLaw_63 (fun q_20 H h_20 => ?_)
      clear h_17
      replace h_20 : qW D _ _ ((wk_ae24459d8 cy h0 h1 (u_17.2.1 0 0) (u_17.2.1 1 0) (u_17.2.1 2 0) (u_17.2.1 3 0) w0 h5 (u_17.2.1 4 0) p0 h1 w1 p7 p8 h2 h3 h4 h2 f0 h3 f1 h4 f2 h5 (u_17.2.1 5) q_20) ++ []) _ _ := h_20
      refine lv_dup hx hb dX5_readLaw_66 rfl ?_
      refine lv_aload_n hx hb dX5_readLaw_67 rfl (lv_at hl_12 1 rfl) ?_
      refine q_get X hK h_20 0 rfl rfl wf_5 6 (by decide) rfl wm_1_152 dX5_readLaw_68 ?_
      refine lv_aload_n hx hb dX5_readLaw_71 rfl (lv_at hl_12 1 rfl) ?_
      refine q_get X hK h_20 0 rfl rfl wf_5 7 (by decide) rfl wm_1_153 dX5_readLaw_72 ?_
      refine q_callIv (rest := [.ref q_20]) (wr := (wk_c1f241b95 cy h0 h1 (u_17.2.1 0 0) (u_17.2.1 1 0) (u_17.2.1 2 0) (u_17.2.1 3 0) w0 h5 (u_17.2.1 4 0) p0 h1 w1 p7 p8 h2 h3 h4 h2 f0 h3 f1 h4 f2)) X hK hT hA h_20 (fun sz => gX4_init_6da7c59 l D cy q_20 h5 (u_17.2.1 4 0) Value.null (u_17.2.1 5) cb_19 (cb_19.2) sz) wm_3_135 wm_3_137 wm_1_19 hd_X4_init wm_3_136 rfl ⟨Nat.le_of_ble_eq_true rfl, Nat.le_of_ble_eq_true rfl⟩ hl_12.1 rfl (Nat.le_of_ble_eq_true rfl) dX5_readLaw_75 ⟨Nat.le_of_ble_eq_true rfl, Nat.le_of_ble_eq_true rfl⟩ [6, 5] [0, 1, 2, 3, 4] rfl rfl (by decide) rfl rfl (fun u_21 H locs w_21 h_21 => ?_)
      clear h_20
      clear w_21
      replace h_21 : qW D _ _ ((wk_1fec3ea31 cy h0 h1 (u_17.2.1 0 0) (u_17.2.1 1 0) (u_17.2.1 2 0) (u_17.2.1 3 0) w0 h5 (u_17.2.1 4 0) p0 h1 w1 p7 p8 h2 h3 h4 h2 f0 h3 f1 h4 f2 q_20 (u_21.1 0) h5 (u_17.2.1 5) (u_21.1 0) (u_17.2.1 4 0).toNatClampNeg (u_21.2.1 0)) ++ []) _ _ := h_21
      exact q_qretW X hr hlk hK h_21 (some q_20) rfl (wk_11f4a5c50 cy q_20 (u_21.1 0) (u_21.1 0) (u_17.2.1 4 0).toNatClampNeg (u_21.2.1 0)) ((fun _ => 0, (vcons (fun _ => (u_17.2.1 0 0)) (vcons (fun _ => (u_17.2.1 1 0)) (vcons (fun _ => (u_17.2.1 2 0)) (vcons (fun _ => (u_17.2.1 3 0)) (vcons (fun _ => (u_17.2.1 4 0)) (vcons (fun _ => p0) (vcons (u_17.2.1 5) (fun _ => (fun _ => 0))))))))), fun _ _ => 0), ((wk_11f4a5c50 cy q_20 (u_21.1 0) (u_21.1 0) (u_17.2.1 4 0).toNatClampNeg (u_21.2.1 0)) ++ []), fun _ => none) rfl ⟨w17_0, w17_1, w17_2, w17_3, (bw cb_19 (by decide) (by decide)), hp0, y17_0, y17_1, y17_4, (show ((u_17.2.1 2 0) : Int32).toInt ≠ 0 ∨ (p3 : Int32).toInt = 0 from (fl_tr y17_3 (fl_tr y14_3 y13_2))), (show (p1 : Int32).toInt ≤ ((u_17.2.1 0 0) : Int32).toInt from (Int.le_trans (Int.le_trans y13_3 y14_5) y17_5)), (show ((u_17.2.1 2 0) : Int32).toInt ≠ 0 ∨ (p1 : Int32).toInt + 1 ≤ ((u_17.2.1 0 0) : Int32).toInt from (p1_o y17_3 y14_2 y13_3 y17_5)), (show LR cy ((wk_11f4a5c50 cy q_20 (u_21.1 0) (u_21.1 0) (u_17.2.1 4 0).toNatClampNeg (u_21.2.1 0)) ++ []) (va_rf o0) (.ref q_20) from Or.inr ⟨_, _, _, _, rfl, i_c900 (by (first | assumption | (clear hpre2 hpre3 y13_1 y13_2 y13_4 y13_5 y14_1 y14_2 y14_3 y14_4 y17_1 y17_2 y17_3 y17_4; omega) | omega)) (by (first | assumption | (clear hpre2 hpre3 y13_1 y13_2 y13_4 y13_5 y14_1 y14_2 y14_3 y14_4 y17_1 y17_2 y17_3 y17_4; omega) | omega)), rfl⟩), (show SIM f0 f1 f2 (p8 : Int32).toInt (lawS p0) (p1 : Int32).toInt (p2 : Int32).toInt (p3 : Int32).toInt (p4 : Int32).toInt ((u_17.2.1 0 0) : Int32).toInt ((u_17.2.1 1 0) : Int32).toInt ((u_17.2.1 2 0) : Int32).toInt ((u_17.2.1 3 0) : Int32).toInt from sim_la y13_6 (by (first | assumption | (clear hpre2 hpre3 y13_1 y13_2 y13_4 y13_5 y14_1 y14_2 y14_3 y14_4 y17_1 y17_2 y17_3 y17_4; omega) | omega)) (by (first | assumption | (clear hpre2 hpre3 y13_1 y13_2 y13_4 y13_5 y14_1 y14_2 y14_3 y14_4 y17_1 y17_2 y17_3 y17_4; omega) | omega)) (y14_6 _) (Or.inl ⟨(by (first | assumption | (clear hpre2 hpre3 y13_1 y13_2 y13_4 y13_5 y14_1 y14_2 y14_3 y14_4 y17_1 y17_2 y17_3 y17_4; omega) | omega)), y17_6⟩)), trivial⟩ [0, 1, 2, 3, 4, 6, 5, 7] rfl rfl dX5_readLaw_78 (Nat.le_of_ble_eq_true rfl) (Nat.le_of_ble_eq_true rfl)
    · replace c_18 := i_ne (x := (u_17.2.1 2 0)) (y := 0) rfl (show (0 : Int32).toInt = 0 by decide) c_18
      refine q_aldq hx hb dX5_readLaw_59 rfl (lv_at hl_12 3 rfl) ?_
      refine lv_goto (tgt := 78) hx hb dX5_readLaw_60 (by decide) ?_
      exact q_qretW X hr hlk hK h_17 o0 rfl [] ((fun _ => 0, (vcons (fun _ => (u_17.2.1 0 0)) (vcons (fun _ => (u_17.2.1 1 0)) (vcons (fun _ => (u_17.2.1 2 0)) (vcons (fun _ => (u_17.2.1 3 0)) (vcons (fun _ => (u_17.2.1 4 0)) (vcons (fun _ => p0) (vcons (u_17.2.1 5) (fun _ => (fun _ => 0))))))))), fun _ _ => 0), ([] ++ []), fun _ => none) rfl ⟨w17_0, w17_1, w17_2, w17_3, w17_4, hp0, y17_0, y17_1, y17_4, (show ((u_17.2.1 2 0) : Int32).toInt ≠ 0 ∨ (p3 : Int32).toInt = 0 from (fl_tr y17_3 (fl_tr y14_3 y13_2))), (show (p1 : Int32).toInt ≤ ((u_17.2.1 0 0) : Int32).toInt from (Int.le_trans (Int.le_trans y13_3 y14_5) y17_5)), (show ((u_17.2.1 2 0) : Int32).toInt ≠ 0 ∨ (p1 : Int32).toInt + 1 ≤ ((u_17.2.1 0 0) : Int32).toInt from (p1_o y17_3 y14_2 y13_3 y17_5)), (show LR cy ([] ++ []) (va_rf o0) (va_rf o0) from Or.inl ⟨rfl, rfl⟩), (show SIM f0 f1 f2 (p8 : Int32).toInt (lawS p0) (p1 : Int32).toInt (p2 : Int32).toInt (p3 : Int32).toInt (p4 : Int32).toInt ((u_17.2.1 0 0) : Int32).toInt ((u_17.2.1 1 0) : Int32).toInt ((u_17.2.1 2 0) : Int32).toInt ((u_17.2.1 3 0) : Int32).toInt from sim_la y13_6 (by (first | assumption | (clear hpre2 hpre3 y13_1 y13_2 y13_4 y13_5 y14_1 y14_2 y14_3 y14_4 y17_1 y17_2 y17_3 y17_4; omega) | omega)) (by (first | assumption | (clear hpre2 hpre3 y13_1 y13_2 y13_4 y13_5 y14_1 y14_2 y14_3 y14_4 y17_1 y17_2 y17_3 y17_4; omega) | omega)) (y14_6 _) (Or.inl ⟨(by (first | assumption | (clear hpre2 hpre3 y13_1 y13_2 y13_4 y13_5 y14_1 y14_2 y14_3 y14_4 y17_1 y17_2 y17_3 y17_4; omega) | omega)), y17_6⟩)), trivial⟩ [0, 1, 2, 3, 4, 5] rfl rfl dX5_readLaw_78 (Nat.le_of_ble_eq_true rfl) (Nat.le_of_ble_eq_true rfl)
set_option maxHeartbeats 4000000 in
set_option maxRecDepth 100000 in
theorem gX5_readLine_ab75d68 (l : Launch) (D : va_G) (cy : Nat → ClassId) (h0 : Nat) (h1 : Nat) (h2 : Nat) (h3 : Nat) (h4 : Nat) (h5 : Nat) (h6 : Nat) (h7 : Nat) (h8 : Nat) (h9 : Nat) (h10 : Nat) (h11 : Nat) (p0 : Int32) (p1 : Int32) (p2 : Int32) (p3 : Int32) (p4 : Int32) (p5 : Int32) (w0 : Value) (p6 : Int32) (p7 : Int32) (f0 : Nat → Int32) (f1 : Nat → Int32) (f2 : Nat → Int32) (p8 : Int32) (p9 : Int32) (p10 : Int32) (p11 : Int32) (o0 : Option Nat) (o1 : Option Nat) (o2 : Option Nat) (f3 : Nat → Int32) (f4 : Nat → Int32) (f5 : Nat → Int32) (f6 : Nat → Int32) (f7 : Nat → Int32) (f8 : Nat → Int32) (hp0 : (-1) ≤ (p0).toInt ∧ (p0).toInt ≤ 900) (hp1 : (-2147483648) ≤ (p1).toInt ∧ (p1).toInt ≤ 2147483647) (hp2 : (-2147483648) ≤ (p2).toInt ∧ (p2).toInt ≤ 2147483647) (hp3 : (-2147483648) ≤ (p3).toInt ∧ (p3).toInt ≤ 2147483647) (hp4 : 0 ≤ (p4).toInt ∧ (p4).toInt ≤ 900) (hp5 : (-2147483648) ≤ (p5).toInt ∧ (p5).toInt ≤ 2147483647) (hp6 : 0 ≤ (p6).toInt ∧ (p6).toInt ≤ 900) (hp7 : 0 ≤ (p7).toInt ∧ (p7).toInt ≤ 901) (hp8 : 1 ≤ (p8).toInt ∧ (p8).toInt ≤ 3) (hp9 : 0 ≤ (p9).toInt ∧ (p9).toInt ≤ 10) (hp10 : (-2147483648) ≤ (p10).toInt ∧ (p10).toInt ≤ 2147483647) (hp11 : (-2147483648) ≤ (p11).toInt ∧ (p11).toInt ≤ 2147483647) (rf3 : RG f3 10 0 999) (hpre0 : KZ f0 (p7 : Int32).toInt) (hpre1 : 0 ≤ (p0 : Int32).toInt ∧ (p0 : Int32).toInt < (p7 : Int32).toInt) (hpre2 : (p2 : Int32).toInt ≠ 0 ∨ (p1 : Int32).toInt = 26 ∨ (p1 : Int32).toInt = 27 ∨ (p0 : Int32).toInt + 1 < (p7 : Int32).toInt) (hpre3 : (p2 : Int32).toInt = 0 ∨ (p1 : Int32).toInt = 27) (hpre4 : (p1 : Int32).toInt ≠ 26 ∧ (p1 : Int32).toInt ≠ 27) (sz : Nat) : MVw l yX5_readLine cX5_readLine 1 { frames := 27, cells := 2, slots := 901, locals := 677 } [.ref h0] D cy (wk_d33bee7ee cy h0 h1 p0 p1 p2 p3 h5 h11 p4 p5 h1 w0 p6 p7 h2 h3 h4 h2 f0 h3 f1 h4 f2 h5 p8 p9 p10 p11 o0 o1 o2 h6 h7 h8 h9 h10 h6 f3 h7 f4 h8 f5 h9 f6 h10 f7 h11 f8) sz (fun u => ((-2147483648) ≤ (u.1.2.1 0 0).toInt ∧ (u.1.2.1 0 0).toInt ≤ 2147483647) ∧ ((-1) ≤ (u.1.2.1 1 0).toInt ∧ (u.1.2.1 1 0).toInt ≤ 900) ∧ ((-2147483648) ≤ (u.1.2.1 2 0).toInt ∧ (u.1.2.1 2 0).toInt ≤ 2147483647) ∧ ((-2147483648) ≤ (u.1.2.1 3 0).toInt ∧ (u.1.2.1 3 0).toInt ≤ 2147483647) ∧ ((-2147483648) ≤ (u.1.2.1 4 0).toInt ∧ (u.1.2.1 4 0).toInt ≤ 2147483647) ∧ (0 ≤ (u.1.2.1 5 0).toInt ∧ (u.1.2.1 5 0).toInt ≤ 10) ∧ RG (u.1.2.1 6) 10 0 999 ∧ (0 ≤ (u.1.2.1 11 0).toInt ∧ (u.1.2.1 11 0).toInt ≤ 900) ∧ ((-2147483648) ≤ (u.1.2.1 12 0).toInt ∧ (u.1.2.1 12 0).toInt ≤ 2147483647) ∧ (0 ≤ ((u.1.2.1 1 0) : Int32).toInt ∧ ((u.1.2.1 1 0) : Int32).toInt < (p7 : Int32).toInt) ∧ (((u.1.2.1 3 0) : Int32).toInt ≠ 0 ∨ ((u.1.2.1 2 0) : Int32).toInt = 26 ∨ ((u.1.2.1 2 0) : Int32).toInt = 27 ∨ ((u.1.2.1 1 0) : Int32).toInt + 1 < (p7 : Int32).toInt) ∧ (((u.1.2.1 3 0) : Int32).toInt = 0 ∨ ((u.1.2.1 2 0) : Int32).toInt = 27) ∧ (((u.1.2.1 3 0) : Int32).toInt ≠ 0 ∨ (p2 : Int32).toInt = 0) ∧ ((p0 : Int32).toInt ≤ ((u.1.2.1 1 0) : Int32).toInt) ∧ (((u.1.2.1 3 0) : Int32).toInt ≠ 0 ∨ (p0 : Int32).toInt + 1 ≤ ((u.1.2.1 1 0) : Int32).toInt) ∧ (LawS cy u.2.1 (va_rf o0) (va_rf o1) (va_rf o2) (va_rf (u.2.2 0)) (va_rf (u.2.2 1)) (va_rf (u.2.2 2))) ∧ (SIM f0 f1 f2 (p7 : Int32).toInt (lineS (p8 : Int32).toInt (p9 : Int32).toInt) (p0 : Int32).toInt (p1 : Int32).toInt (p2 : Int32).toInt (p3 : Int32).toInt ((u.1.2.1 1 0) : Int32).toInt ((u.1.2.1 2 0) : Int32).toInt ((u.1.2.1 3 0) : Int32).toInt ((u.1.2.1 4 0) : Int32).toInt) ∧ (((u.1.2.1 3 0) : Int32).toInt ≠ 0 ∨ ((p1 : Int32).toInt = 13 ∧ ((u.1.2.1 5 0) : Int32).toInt = (p9 : Int32).toInt + 1) ∨ ((p1 : Int32).toInt ≠ 13 ∧ ((u.1.2.1 5 0) : Int32).toInt = (p9 : Int32).toInt)) ∧ True) (fun u => (wk_d33bee7ee cy h0 h1 (u.1.2.1 1 0) (u.1.2.1 2 0) (u.1.2.1 3 0) (u.1.2.1 4 0) h5 h11 (u.1.2.1 11 0) (u.1.2.1 12 0) h1 w0 p6 p7 h2 h3 h4 h2 f0 h3 f1 h4 f2 h5 p8 (u.1.2.1 5 0) p10 (u.1.2.1 0 0) (u.2.2 0) (u.2.2 1) (u.2.2 2) h6 h7 h8 h9 h10 h6 (u.1.2.1 6) h7 (u.1.2.1 7) h8 (u.1.2.1 8) h9 (u.1.2.1 9) h10 (u.1.2.1 10) h11 (u.1.2.1 13))) 2 901 := by
  refine q_ent (own := RX5) (by decide) rfl (Nat.le_of_ble_eq_true rfl) (fun p e s m below meth c ls X hr hlk hnm hK hT h hA hl => ?_)
  obtain ⟨hx, hb, hml, hown, ht⟩ := id X
  replace h : qW D _ _ ((wk_d33bee7ee cy h0 h1 p0 p1 p2 p3 h5 h11 p4 p5 h1 w0 p6 p7 h2 h3 h4 h2 f0 h3 f1 h4 f2 h5 p8 p9 p10 p11 o0 o1 o2 h6 h7 h8 h9 h10 h6 f3 h7 f4 h8 f5 h9 f6 h10 f7 h11 f8) ++ []) _ _ := h
  replace hl : lv_has ls 1 [(0, .ref h0)] := hl
  refine lv_aload_n hx hb dX5_readLine_0 rfl (lv_at hl 0 rfl) ?_
  refine q_get X hK h 0 rfl rfl wf_5 2 (by decide) rfl wm_1_146 dX5_readLine_1 ?_
  by_cases c_1 : p1 = 8
  · have ec_1 : (p1).toInt = 8 := by rw [c_1]; decide
    refine lv_tableIn (off := 147) (tgt := 151) hx hb dX5_readLine_4 (by rw [c_1]; decide +kernel) (by rw [c_1]; decide +kernel) (by rw [c_1]; decide +kernel) (by decide) ?_
    refine lv_aload_n hx hb dX5_readLine_151 rfl (lv_at hl 0 rfl) ?_
    refine q_callVvT (rest := []) (wr := [(h4, .inl (cy 1, 901, .inl f2)), (h5, .inr (3, [.int p8, .int p9, .int p10, .int p11, (va_rf o0), (va_rf o1), (va_rf o2), .ref h6, .ref h7, .ref h8, .ref h9, .ref h10])), (h6, .inl (cy 1, 10, .inl f3)), (h7, .inl (cy 1, 10, .inl f4)), (h8, .inl (cy 1, 10, .inl f5)), (h9, .inl (cy 1, 10, .inl f6)), (h10, .inl (cy 1, 10, .inl f7)), (h11, .inl (cy 1, 900, .inl f8))]) X hK hT hA h (fun sz => gX5_advance_9820dfe l D cy h0 h1 h2 h3 p0 p1 p2 p3 (.ref h5) (.ref h11) p4 p5 w0 p6 p7 (.ref h4) f0 f1 hp0 (i_rng _) (i_rng _) (i_rng _) hp4 (i_rng _) hp6 hp7 (hpre0) (hpre3) (by (first | (clear hpre2 hpre3; omega) | omega)) sz) wm_3_68 wm_3_71 wm_1_2 hd_X5_advance wm_3_70 wp_1_8 (ci := 5) (q0 := 0) rfl rfl ⟨Nat.le_of_ble_eq_true rfl, Nat.le_of_ble_eq_true rfl⟩ hl.1 rfl (Nat.le_of_ble_eq_true rfl) dX5_readLine_152 ⟨Nat.le_of_ble_eq_true rfl, Nat.le_of_ble_eq_true rfl⟩ [0, 1, 2, 3] [4, 5, 6, 7, 8, 9, 10, 11] rfl rfl (by decide) rfl rfl (fun u_2 H locs w_2 h_2 => ?_)
    clear h
    obtain ⟨w2_0, w2_1, w2_2, w2_3, y2_0, y2_1, y2_2, y2_3, y2_4, y2_5, y2_6, _⟩ := w_2
    replace h_2 : qW D _ _ ([(h4, .inl (cy 1, 901, .inl f2)), (h5, .inr (3, [.int p8, .int p9, .int p10, .int p11, (va_rf o0), (va_rf o1), (va_rf o2), .ref h6, .ref h7, .ref h8, .ref h9, .ref h10])), (h6, .inl (cy 1, 10, .inl f3)), (h7, .inl (cy 1, 10, .inl f4)), (h8, .inl (cy 1, 10, .inl f5)), (h9, .inl (cy 1, 10, .inl f6)), (h10, .inl (cy 1, 10, .inl f7)), (h11, .inl (cy 1, 900, .inl f8)), (h0, .inr (5, [.ref h1, .int (u_2.2.1 0 0), .int (u_2.2.1 1 0), .int (u_2.2.1 2 0), .int (u_2.2.1 3 0), .ref h5, .ref h11, .int p4, .int p5])), (h1, .inr (8, [w0, .int p6, .int p7, .ref h2, .ref h3, .ref h4])), (h2, .inl (cy 1, 901, .inl f0)), (h3, .inl (cy 1, 901, .inl f1))] ++ []) _ _ := h_2
    refine lv_aload_n hx hb dX5_readLine_155 rfl (lv_at hl 0 rfl) ?_
    refine q_get X hK h_2 8 rfl rfl wf_5 5 (by decide) rfl wm_1_151 dX5_readLine_156 ?_
    refine lv_aload_n hx hb dX5_readLine_159 rfl (lv_at hl 0 rfl) ?_
    refine lv_iconst (v := 0) hx hb dX5_readLine_160 (by decide) ?_
    refine lv_sipush (v := 999) hx hb dX5_readLine_161 (by decide) ?_
    refine q_callViT (rest := [.ref h5]) (wr := [(h5, .inr (3, [.int p8, .int p9, .int p10, .int p11, (va_rf o0), (va_rf o1), (va_rf o2), .ref h6, .ref h7, .ref h8, .ref h9, .ref h10])), (h6, .inl (cy 1, 10, .inl f3)), (h7, .inl (cy 1, 10, .inl f4)), (h8, .inl (cy 1, 10, .inl f5)), (h9, .inl (cy 1, 10, .inl f6)), (h10, .inl (cy 1, 10, .inl f7)), (h11, .inl (cy 1, 900, .inl f8))]) X hK hT hA h_2 (fun sz => gX5_takeNumber_7db443e l D cy h0 h1 h2 h3 h4 (u_2.2.1 0 0) (u_2.2.1 1 0) (u_2.2.1 2 0) (u_2.2.1 3 0) (.ref h5) (.ref h11) p4 p5 w0 p6 p7 f0 f1 f2 w2_0 (i_rng _) (i_rng _) (i_rng _) hp4 (i_rng _) hp6 hp7 (hpre0) (y2_0) (by (first | (clear hpre2 hpre3 y2_1 y2_2 y2_4 y2_5; omega) | omega)) (y2_5) sz) wm_3_80 wm_3_83 wm_1_2 hd_X5_takeNumber wm_3_82 wp_1_11 (ci := 5) (q0 := 0) rfl rfl ⟨Nat.le_of_ble_eq_true rfl, Nat.le_of_ble_eq_true rfl⟩ hl.1 rfl (Nat.le_of_ble_eq_true rfl) dX5_readLine_164 ⟨Nat.le_of_ble_eq_true rfl, Nat.le_of_ble_eq_true rfl⟩ [8, 9, 10, 11, 0] [1, 2, 3, 4, 5, 6, 7] rfl rfl (by decide) rfl rfl (fun r_3 u_3 H locs w_3 h_3 => ?_)
    clear h_2
    obtain ⟨wr_3, w3_0, w3_1, w3_2, w3_3, y3_0, y3_1, y3_2, y3_3, y3_4, y3_5, y3_6, y3_7, _⟩ := w_3
    have lq_3_1 : (0 : Int32).toInt = 0 := (by decide)
    have lq_3_2 : (999 : Int32).toInt = 999 := (by decide)
    replace h_3 : qW D _ _ ((wk_2d757fd5f cy h5 p8 p9 p10 p11 o0 o1 o2 h6 h7 h8 h9 h10 h6 f3 h7 f4 h8 f5 h9 f6 h10 f7 h11 f8 h0 h1 (u_3.2.1 3 0) (u_3.2.1 0 0) (u_3.2.1 1 0) (u_3.2.1 2 0) h5 h11 p4 p5 h1 w0 p6 p7 h2 h3 h4 h2 f0 h3 f1 h4 f2) ++ []) _ _ := h_3
    refine q_put (v := .int r_3) X hK h_3 0 rfl rfl wf_3 tyX3 tyX3_ok nmX3 3 (by decide) wm_1_92 rfl rfl rfl (Nat.le_of_ble_eq_true rfl) dX5_readLine_167 (fun H locs h_4 => ?_)
    clear h_3
    replace h_4 : qW D _ _ ((wk_2d757fd5f cy h5 p8 p9 p10 r_3 o0 o1 o2 h6 h7 h8 h9 h10 h6 f3 h7 f4 h8 f5 h9 f6 h10 f7 h11 f8 h0 h1 (u_3.2.1 3 0) (u_3.2.1 0 0) (u_3.2.1 1 0) (u_3.2.1 2 0) h5 h11 p4 p5 h1 w0 p6 p7 h2 h3 h4 h2 f0 h3 f1 h4 f2) ++ []) _ _ := h_4
    refine lv_goto (tgt := 178) hx hb dX5_readLine_170 (by decide) ?_
    exact q_vretW X hr hlk hK h_4 [] ((fun _ => 0, (vcons (fun _ => r_3) (vcons (fun _ => (u_3.2.1 3 0)) (vcons (fun _ => (u_3.2.1 0 0)) (vcons (fun _ => (u_3.2.1 1 0)) (vcons (fun _ => (u_3.2.1 2 0)) (vcons (fun _ => p9) (vcons f3 (vcons f4 (vcons f5 (vcons f6 (vcons f7 (vcons (fun _ => p4) (vcons (fun _ => p5) (vcons f8 (fun _ => (fun _ => 0)))))))))))))))), fun _ _ => 0), ([] ++ []), (vcons o0 (vcons o1 (vcons o2 (fun _ => none))))) rfl ⟨(bw wr_3 (by decide) (by decide)), w3_3, w3_0, w3_1, w3_2, hp9, (rg_wide rf3 (by decide) (by decide)), hp4, hp5, y3_0, y3_1, y3_4, (show ((u_3.2.1 1 0) : Int32).toInt ≠ 0 ∨ (p2 : Int32).toInt = 0 from (fl_tr y3_3 y2_2)), (show (p0 : Int32).toInt ≤ ((u_3.2.1 3 0) : Int32).toInt from (Int.le_trans y2_3 y3_5)), (show ((u_3.2.1 1 0) : Int32).toInt ≠ 0 ∨ (p0 : Int32).toInt + 1 ≤ ((u_3.2.1 3 0) : Int32).toInt from (p1_o (ne_or _) y3_2 y2_3 (Int.le_refl _))), ls_0, (show SIM f0 f1 f2 (p7 : Int32).toInt (lineS (p8 : Int32).toInt (p9 : Int32).toInt) (p0 : Int32).toInt (p1 : Int32).toInt (p2 : Int32).toInt (p3 : Int32).toInt ((u_3.2.1 3 0) : Int32).toInt ((u_3.2.1 0 0) : Int32).toInt ((u_3.2.1 1 0) : Int32).toInt ((u_3.2.1 2 0) : Int32).toInt from sim_li (Or.inr (Or.inr (Or.inr (Or.inr (Or.inl ⟨(by (first | assumption | (clear hpre2 hpre3 y2_1 y2_2 y2_4 y2_5 y3_1 y3_2 y3_3 y3_4; omega) | omega)), sim_sq (sim_adv y2_6 (by (first | assumption | (clear hpre2 hpre3 y2_1 y2_2 y2_4 y2_5 y3_1 y3_2 y3_3 y3_4; omega) | omega)) (by (first | assumption | (clear hpre2 hpre3 y2_1 y2_2 y2_4 y2_5 y3_1 y3_2 y3_3 y3_4; omega) | omega))) y3_6⟩)))))), (show ((u_3.2.1 1 0) : Int32).toInt ≠ 0 ∨ ((p1 : Int32).toInt = 13 ∧ (p9 : Int32).toInt = (p9 : Int32).toInt + 1) ∨ ((p1 : Int32).toInt ≠ 13 ∧ (p9 : Int32).toInt = (p9 : Int32).toInt) from by (first | (clear hpre2 hpre3 y2_1 y2_2 y2_4 y2_5 y3_1 y3_2 y3_3 y3_4; omega) | omega)), trivial⟩ [7, 8, 9, 10, 11, 0, 1, 2, 3, 4, 5, 6] rfl rfl dX5_readLine_178 (Nat.le_of_ble_eq_true rfl) (Nat.le_of_ble_eq_true rfl)
  by_cases c_5 : p1 = 9
  · have ec_5 : (p1).toInt = 9 := by rw [c_5]; decide
    refine lv_tableIn (off := 169) (tgt := 173) hx hb dX5_readLine_4 (by rw [c_5]; decide +kernel) (by rw [c_5]; decide +kernel) (by rw [c_5]; decide +kernel) (by decide) ?_
    refine lv_aload_n hx hb dX5_readLine_173 rfl (lv_at hl 0 rfl) ?_
    refine lv_iconst (v := 2) hx hb dX5_readLine_174 (by decide) ?_
    refine q_callVvT (rest := []) (wr := (wk_31def65b3 cy h2 f0 h4 f2 h5 p8 p9 p10 p11 o0 o1 o2 h6 h7 h8 h9 h10 h6 f3 h7 f4 h8 f5 h9 f6 h10 f7 h11 f8)) X hK hT hA h (fun sz => gX5_refuse_067fcff l D cy h0 h1 h3 p0 p1 p2 p3 (.ref h5) (.ref h11) p4 p5 w0 p6 p7 (.ref h2) (.ref h4) f1 hp0 (i_rng _) (i_rng _) (i_rng _) hp4 (i_rng _) hp6 hp7 (hpre1) (hpre3) (by have q0 : (2 : Int32).toInt = 2 := (by decide); (first | (clear hpre2 hpre3; omega) | omega)) sz) wm_3_76 wm_3_79 wm_1_2 hd_X5_refuse wm_3_78 wp_1_10 (ci := 5) (q0 := 0) rfl rfl ⟨Nat.le_of_ble_eq_true rfl, Nat.le_of_ble_eq_true rfl⟩ hl.1 rfl (Nat.le_of_ble_eq_true rfl) dX5_readLine_175 ⟨Nat.le_of_ble_eq_true rfl, Nat.le_of_ble_eq_true rfl⟩ [0, 1, 3] [2, 4, 5, 6, 7, 8, 9, 10, 11] rfl rfl (by decide) rfl rfl (fun u_6 H locs w_6 h_6 => ?_)
    clear h
    obtain ⟨w6_0, w6_1, w6_2, y6_0, y6_1, y6_2, _⟩ := w_6
    have lq_6_1 : (2 : Int32).toInt = 2 := (by decide)
    replace h_6 : qW D _ _ ((wk_0202ea6aa cy h2 f0 h4 f2 h5 p8 p9 p10 p11 o0 o1 o2 h6 h7 h8 h9 h10 h6 f3 h7 f4 h8 f5 h9 f6 h10 f7 h11 f8 h0 h1 p0 (u_6.2.1 0 0) (u_6.2.1 1 0) (u_6.2.1 2 0) h5 h11 p4 p5 h1 w0 p6 p7 h2 h3 h4 h3 f1) ++ []) _ _ := h_6
    exact q_vretW X hr hlk hK h_6 [] ((fun _ => 0, (vcons (fun _ => p11) (vcons (fun _ => p0) (vcons (fun _ => (u_6.2.1 0 0)) (vcons (fun _ => (u_6.2.1 1 0)) (vcons (fun _ => (u_6.2.1 2 0)) (vcons (fun _ => p9) (vcons f3 (vcons f4 (vcons f5 (vcons f6 (vcons f7 (vcons (fun _ => p4) (vcons (fun _ => p5) (vcons f8 (fun _ => (fun _ => 0)))))))))))))))), fun _ _ => 0), ([] ++ []), (vcons o0 (vcons o1 (vcons o2 (fun _ => none))))) rfl ⟨hp11, hp0, w6_0, w6_1, w6_2, hp9, (rg_wide rf3 (by decide) (by decide)), hp4, hp5, hpre1, (show ((u_6.2.1 1 0) : Int32).toInt ≠ 0 ∨ ((u_6.2.1 0 0) : Int32).toInt = 26 ∨ ((u_6.2.1 0 0) : Int32).toInt = 27 ∨ (p0 : Int32).toInt + 1 < (p7 : Int32).toInt from by (first | (clear hpre2 hpre3 y6_1; omega) | omega)), y6_1, (show ((u_6.2.1 1 0) : Int32).toInt ≠ 0 ∨ (p2 : Int32).toInt = 0 from by (first | (clear hpre2 hpre3 y6_1; omega) | omega)), (show (p0 : Int32).toInt ≤ (p0 : Int32).toInt from (Int.le_refl _)), (show ((u_6.2.1 1 0) : Int32).toInt ≠ 0 ∨ (p0 : Int32).toInt + 1 ≤ (p0 : Int32).toInt from by (first | (clear hpre2 hpre3 y6_1; omega) | omega)), ls_0, (show SIM f0 f1 f2 (p7 : Int32).toInt (lineS (p8 : Int32).toInt (p9 : Int32).toInt) (p0 : Int32).toInt (p1 : Int32).toInt (p2 : Int32).toInt (p3 : Int32).toInt (p0 : Int32).toInt ((u_6.2.1 0 0) : Int32).toInt ((u_6.2.1 1 0) : Int32).toInt ((u_6.2.1 2 0) : Int32).toInt from sim_li (Or.inr (Or.inr (Or.inr (Or.inr (Or.inr ⟨(by (first | assumption | (clear hpre2 hpre3 y6_1; omega) | omega)), y6_2 _ _⟩)))))), (show ((u_6.2.1 1 0) : Int32).toInt ≠ 0 ∨ ((p1 : Int32).toInt = 13 ∧ (p9 : Int32).toInt = (p9 : Int32).toInt + 1) ∨ ((p1 : Int32).toInt ≠ 13 ∧ (p9 : Int32).toInt = (p9 : Int32).toInt) from by (first | (clear hpre2 hpre3 y6_1; omega) | omega)), trivial⟩ [9, 10, 0, 11, 1, 2, 3, 4, 5, 6, 7, 8] rfl rfl dX5_readLine_178 (Nat.le_of_ble_eq_true rfl) (Nat.le_of_ble_eq_true rfl)
  by_cases c_7 : p1 = 10
  · have ec_7 : (p1).toInt = 10 := by rw [c_7]; decide
    refine lv_tableIn (off := 169) (tgt := 173) hx hb dX5_readLine_4 (by rw [c_7]; decide +kernel) (by rw [c_7]; decide +kernel) (by rw [c_7]; decide +kernel) (by decide) ?_
    refine lv_aload_n hx hb dX5_readLine_173 rfl (lv_at hl 0 rfl) ?_
    refine lv_iconst (v := 2) hx hb dX5_readLine_174 (by decide) ?_
    refine q_callVvT (rest := []) (wr := (wk_31def65b3 cy h2 f0 h4 f2 h5 p8 p9 p10 p11 o0 o1 o2 h6 h7 h8 h9 h10 h6 f3 h7 f4 h8 f5 h9 f6 h10 f7 h11 f8)) X hK hT hA h (fun sz => gX5_refuse_067fcff l D cy h0 h1 h3 p0 p1 p2 p3 (.ref h5) (.ref h11) p4 p5 w0 p6 p7 (.ref h2) (.ref h4) f1 hp0 (i_rng _) (i_rng _) (i_rng _) hp4 (i_rng _) hp6 hp7 (hpre1) (hpre3) (by have q0 : (2 : Int32).toInt = 2 := (by decide); (first | (clear hpre2 hpre3; omega) | omega)) sz) wm_3_76 wm_3_79 wm_1_2 hd_X5_refuse wm_3_78 wp_1_10 (ci := 5) (q0 := 0) rfl rfl ⟨Nat.le_of_ble_eq_true rfl, Nat.le_of_ble_eq_true rfl⟩ hl.1 rfl (Nat.le_of_ble_eq_true rfl) dX5_readLine_175 ⟨Nat.le_of_ble_eq_true rfl, Nat.le_of_ble_eq_true rfl⟩ [0, 1, 3] [2, 4, 5, 6, 7, 8, 9, 10, 11] rfl rfl (by decide) rfl rfl (fun u_8 H locs w_8 h_8 => ?_)
    clear h
    obtain ⟨w8_0, w8_1, w8_2, y8_0, y8_1, y8_2, _⟩ := w_8
    have lq_8_1 : (2 : Int32).toInt = 2 := (by decide)
    replace h_8 : qW D _ _ ((wk_0202ea6aa cy h2 f0 h4 f2 h5 p8 p9 p10 p11 o0 o1 o2 h6 h7 h8 h9 h10 h6 f3 h7 f4 h8 f5 h9 f6 h10 f7 h11 f8 h0 h1 p0 (u_8.2.1 0 0) (u_8.2.1 1 0) (u_8.2.1 2 0) h5 h11 p4 p5 h1 w0 p6 p7 h2 h3 h4 h3 f1) ++ []) _ _ := h_8
    exact q_vretW X hr hlk hK h_8 [] ((fun _ => 0, (vcons (fun _ => p11) (vcons (fun _ => p0) (vcons (fun _ => (u_8.2.1 0 0)) (vcons (fun _ => (u_8.2.1 1 0)) (vcons (fun _ => (u_8.2.1 2 0)) (vcons (fun _ => p9) (vcons f3 (vcons f4 (vcons f5 (vcons f6 (vcons f7 (vcons (fun _ => p4) (vcons (fun _ => p5) (vcons f8 (fun _ => (fun _ => 0)))))))))))))))), fun _ _ => 0), ([] ++ []), (vcons o0 (vcons o1 (vcons o2 (fun _ => none))))) rfl ⟨hp11, hp0, w8_0, w8_1, w8_2, hp9, (rg_wide rf3 (by decide) (by decide)), hp4, hp5, hpre1, (show ((u_8.2.1 1 0) : Int32).toInt ≠ 0 ∨ ((u_8.2.1 0 0) : Int32).toInt = 26 ∨ ((u_8.2.1 0 0) : Int32).toInt = 27 ∨ (p0 : Int32).toInt + 1 < (p7 : Int32).toInt from by (first | (clear hpre2 hpre3 y8_1; omega) | omega)), y8_1, (show ((u_8.2.1 1 0) : Int32).toInt ≠ 0 ∨ (p2 : Int32).toInt = 0 from by (first | (clear hpre2 hpre3 y8_1; omega) | omega)), (show (p0 : Int32).toInt ≤ (p0 : Int32).toInt from (Int.le_refl _)), (show ((u_8.2.1 1 0) : Int32).toInt ≠ 0 ∨ (p0 : Int32).toInt + 1 ≤ (p0 : Int32).toInt from by (first | (clear hpre2 hpre3 y8_1; omega) | omega)), ls_0, (show SIM f0 f1 f2 (p7 : Int32).toInt (lineS (p8 : Int32).toInt (p9 : Int32).toInt) (p0 : Int32).toInt (p1 : Int32).toInt (p2 : Int32).toInt (p3 : Int32).toInt (p0 : Int32).toInt ((u_8.2.1 0 0) : Int32).toInt ((u_8.2.1 1 0) : Int32).toInt ((u_8.2.1 2 0) : Int32).toInt from sim_li (Or.inr (Or.inr (Or.inr (Or.inr (Or.inr ⟨(by (first | assumption | (clear hpre2 hpre3 y8_1; omega) | omega)), y8_2 _ _⟩)))))), (show ((u_8.2.1 1 0) : Int32).toInt ≠ 0 ∨ ((p1 : Int32).toInt = 13 ∧ (p9 : Int32).toInt = (p9 : Int32).toInt + 1) ∨ ((p1 : Int32).toInt ≠ 13 ∧ (p9 : Int32).toInt = (p9 : Int32).toInt) from by (first | (clear hpre2 hpre3 y8_1; omega) | omega)), trivial⟩ [9, 10, 0, 11, 1, 2, 3, 4, 5, 6, 7, 8] rfl rfl dX5_readLine_178 (Nat.le_of_ble_eq_true rfl) (Nat.le_of_ble_eq_true rfl)
  by_cases c_9 : p1 = 11
  · have ec_9 : (p1).toInt = 11 := by rw [c_9]; decide
    refine lv_tableIn (off := 169) (tgt := 173) hx hb dX5_readLine_4 (by rw [c_9]; decide +kernel) (by rw [c_9]; decide +kernel) (by rw [c_9]; decide +kernel) (by decide) ?_
    refine lv_aload_n hx hb dX5_readLine_173 rfl (lv_at hl 0 rfl) ?_
    refine lv_iconst (v := 2) hx hb dX5_readLine_174 (by decide) ?_
    refine q_callVvT (rest := []) (wr := (wk_31def65b3 cy h2 f0 h4 f2 h5 p8 p9 p10 p11 o0 o1 o2 h6 h7 h8 h9 h10 h6 f3 h7 f4 h8 f5 h9 f6 h10 f7 h11 f8)) X hK hT hA h (fun sz => gX5_refuse_067fcff l D cy h0 h1 h3 p0 p1 p2 p3 (.ref h5) (.ref h11) p4 p5 w0 p6 p7 (.ref h2) (.ref h4) f1 hp0 (i_rng _) (i_rng _) (i_rng _) hp4 (i_rng _) hp6 hp7 (hpre1) (hpre3) (by have q0 : (2 : Int32).toInt = 2 := (by decide); (first | (clear hpre2 hpre3; omega) | omega)) sz) wm_3_76 wm_3_79 wm_1_2 hd_X5_refuse wm_3_78 wp_1_10 (ci := 5) (q0 := 0) rfl rfl ⟨Nat.le_of_ble_eq_true rfl, Nat.le_of_ble_eq_true rfl⟩ hl.1 rfl (Nat.le_of_ble_eq_true rfl) dX5_readLine_175 ⟨Nat.le_of_ble_eq_true rfl, Nat.le_of_ble_eq_true rfl⟩ [0, 1, 3] [2, 4, 5, 6, 7, 8, 9, 10, 11] rfl rfl (by decide) rfl rfl (fun u_10 H locs w_10 h_10 => ?_)
    clear h
    obtain ⟨w10_0, w10_1, w10_2, y10_0, y10_1, y10_2, _⟩ := w_10
    have lq_10_1 : (2 : Int32).toInt = 2 := (by decide)
    replace h_10 : qW D _ _ ((wk_0202ea6aa cy h2 f0 h4 f2 h5 p8 p9 p10 p11 o0 o1 o2 h6 h7 h8 h9 h10 h6 f3 h7 f4 h8 f5 h9 f6 h10 f7 h11 f8 h0 h1 p0 (u_10.2.1 0 0) (u_10.2.1 1 0) (u_10.2.1 2 0) h5 h11 p4 p5 h1 w0 p6 p7 h2 h3 h4 h3 f1) ++ []) _ _ := h_10
    exact q_vretW X hr hlk hK h_10 [] ((fun _ => 0, (vcons (fun _ => p11) (vcons (fun _ => p0) (vcons (fun _ => (u_10.2.1 0 0)) (vcons (fun _ => (u_10.2.1 1 0)) (vcons (fun _ => (u_10.2.1 2 0)) (vcons (fun _ => p9) (vcons f3 (vcons f4 (vcons f5 (vcons f6 (vcons f7 (vcons (fun _ => p4) (vcons (fun _ => p5) (vcons f8 (fun _ => (fun _ => 0)))))))))))))))), fun _ _ => 0), ([] ++ []), (vcons o0 (vcons o1 (vcons o2 (fun _ => none))))) rfl ⟨hp11, hp0, w10_0, w10_1, w10_2, hp9, (rg_wide rf3 (by decide) (by decide)), hp4, hp5, hpre1, (show ((u_10.2.1 1 0) : Int32).toInt ≠ 0 ∨ ((u_10.2.1 0 0) : Int32).toInt = 26 ∨ ((u_10.2.1 0 0) : Int32).toInt = 27 ∨ (p0 : Int32).toInt + 1 < (p7 : Int32).toInt from by (first | (clear hpre2 hpre3 y10_1; omega) | omega)), y10_1, (show ((u_10.2.1 1 0) : Int32).toInt ≠ 0 ∨ (p2 : Int32).toInt = 0 from by (first | (clear hpre2 hpre3 y10_1; omega) | omega)), (show (p0 : Int32).toInt ≤ (p0 : Int32).toInt from (Int.le_refl _)), (show ((u_10.2.1 1 0) : Int32).toInt ≠ 0 ∨ (p0 : Int32).toInt + 1 ≤ (p0 : Int32).toInt from by (first | (clear hpre2 hpre3 y10_1; omega) | omega)), ls_0, (show SIM f0 f1 f2 (p7 : Int32).toInt (lineS (p8 : Int32).toInt (p9 : Int32).toInt) (p0 : Int32).toInt (p1 : Int32).toInt (p2 : Int32).toInt (p3 : Int32).toInt (p0 : Int32).toInt ((u_10.2.1 0 0) : Int32).toInt ((u_10.2.1 1 0) : Int32).toInt ((u_10.2.1 2 0) : Int32).toInt from sim_li (Or.inr (Or.inr (Or.inr (Or.inr (Or.inr ⟨(by (first | assumption | (clear hpre2 hpre3 y10_1; omega) | omega)), y10_2 _ _⟩)))))), (show ((u_10.2.1 1 0) : Int32).toInt ≠ 0 ∨ ((p1 : Int32).toInt = 13 ∧ (p9 : Int32).toInt = (p9 : Int32).toInt + 1) ∨ ((p1 : Int32).toInt ≠ 13 ∧ (p9 : Int32).toInt = (p9 : Int32).toInt) from by (first | (clear hpre2 hpre3 y10_1; omega) | omega)), trivial⟩ [9, 10, 0, 11, 1, 2, 3, 4, 5, 6, 7, 8] rfl rfl dX5_readLine_178 (Nat.le_of_ble_eq_true rfl) (Nat.le_of_ble_eq_true rfl)
  by_cases c_11 : p1 = 12
  · have ec_11 : (p1).toInt = 12 := by rw [c_11]; decide
    refine lv_tableIn (off := 169) (tgt := 173) hx hb dX5_readLine_4 (by rw [c_11]; decide +kernel) (by rw [c_11]; decide +kernel) (by rw [c_11]; decide +kernel) (by decide) ?_
    refine lv_aload_n hx hb dX5_readLine_173 rfl (lv_at hl 0 rfl) ?_
    refine lv_iconst (v := 2) hx hb dX5_readLine_174 (by decide) ?_
    refine q_callVvT (rest := []) (wr := (wk_31def65b3 cy h2 f0 h4 f2 h5 p8 p9 p10 p11 o0 o1 o2 h6 h7 h8 h9 h10 h6 f3 h7 f4 h8 f5 h9 f6 h10 f7 h11 f8)) X hK hT hA h (fun sz => gX5_refuse_067fcff l D cy h0 h1 h3 p0 p1 p2 p3 (.ref h5) (.ref h11) p4 p5 w0 p6 p7 (.ref h2) (.ref h4) f1 hp0 (i_rng _) (i_rng _) (i_rng _) hp4 (i_rng _) hp6 hp7 (hpre1) (hpre3) (by have q0 : (2 : Int32).toInt = 2 := (by decide); (first | (clear hpre2 hpre3; omega) | omega)) sz) wm_3_76 wm_3_79 wm_1_2 hd_X5_refuse wm_3_78 wp_1_10 (ci := 5) (q0 := 0) rfl rfl ⟨Nat.le_of_ble_eq_true rfl, Nat.le_of_ble_eq_true rfl⟩ hl.1 rfl (Nat.le_of_ble_eq_true rfl) dX5_readLine_175 ⟨Nat.le_of_ble_eq_true rfl, Nat.le_of_ble_eq_true rfl⟩ [0, 1, 3] [2, 4, 5, 6, 7, 8, 9, 10, 11] rfl rfl (by decide) rfl rfl (fun u_12 H locs w_12 h_12 => ?_)
    clear h
    obtain ⟨w12_0, w12_1, w12_2, y12_0, y12_1, y12_2, _⟩ := w_12
    have lq_12_1 : (2 : Int32).toInt = 2 := (by decide)
    replace h_12 : qW D _ _ ((wk_0202ea6aa cy h2 f0 h4 f2 h5 p8 p9 p10 p11 o0 o1 o2 h6 h7 h8 h9 h10 h6 f3 h7 f4 h8 f5 h9 f6 h10 f7 h11 f8 h0 h1 p0 (u_12.2.1 0 0) (u_12.2.1 1 0) (u_12.2.1 2 0) h5 h11 p4 p5 h1 w0 p6 p7 h2 h3 h4 h3 f1) ++ []) _ _ := h_12
    exact q_vretW X hr hlk hK h_12 [] ((fun _ => 0, (vcons (fun _ => p11) (vcons (fun _ => p0) (vcons (fun _ => (u_12.2.1 0 0)) (vcons (fun _ => (u_12.2.1 1 0)) (vcons (fun _ => (u_12.2.1 2 0)) (vcons (fun _ => p9) (vcons f3 (vcons f4 (vcons f5 (vcons f6 (vcons f7 (vcons (fun _ => p4) (vcons (fun _ => p5) (vcons f8 (fun _ => (fun _ => 0)))))))))))))))), fun _ _ => 0), ([] ++ []), (vcons o0 (vcons o1 (vcons o2 (fun _ => none))))) rfl ⟨hp11, hp0, w12_0, w12_1, w12_2, hp9, (rg_wide rf3 (by decide) (by decide)), hp4, hp5, hpre1, (show ((u_12.2.1 1 0) : Int32).toInt ≠ 0 ∨ ((u_12.2.1 0 0) : Int32).toInt = 26 ∨ ((u_12.2.1 0 0) : Int32).toInt = 27 ∨ (p0 : Int32).toInt + 1 < (p7 : Int32).toInt from by (first | (clear hpre2 hpre3 y12_1; omega) | omega)), y12_1, (show ((u_12.2.1 1 0) : Int32).toInt ≠ 0 ∨ (p2 : Int32).toInt = 0 from by (first | (clear hpre2 hpre3 y12_1; omega) | omega)), (show (p0 : Int32).toInt ≤ (p0 : Int32).toInt from (Int.le_refl _)), (show ((u_12.2.1 1 0) : Int32).toInt ≠ 0 ∨ (p0 : Int32).toInt + 1 ≤ (p0 : Int32).toInt from by (first | (clear hpre2 hpre3 y12_1; omega) | omega)), ls_0, (show SIM f0 f1 f2 (p7 : Int32).toInt (lineS (p8 : Int32).toInt (p9 : Int32).toInt) (p0 : Int32).toInt (p1 : Int32).toInt (p2 : Int32).toInt (p3 : Int32).toInt (p0 : Int32).toInt ((u_12.2.1 0 0) : Int32).toInt ((u_12.2.1 1 0) : Int32).toInt ((u_12.2.1 2 0) : Int32).toInt from sim_li (Or.inr (Or.inr (Or.inr (Or.inr (Or.inr ⟨(by (first | assumption | (clear hpre2 hpre3 y12_1; omega) | omega)), y12_2 _ _⟩)))))), (show ((u_12.2.1 1 0) : Int32).toInt ≠ 0 ∨ ((p1 : Int32).toInt = 13 ∧ (p9 : Int32).toInt = (p9 : Int32).toInt + 1) ∨ ((p1 : Int32).toInt ≠ 13 ∧ (p9 : Int32).toInt = (p9 : Int32).toInt) from by (first | (clear hpre2 hpre3 y12_1; omega) | omega)), trivial⟩ [9, 10, 0, 11, 1, 2, 3, 4, 5, 6, 7, 8] rfl rfl dX5_readLine_178 (Nat.le_of_ble_eq_true rfl) (Nat.le_of_ble_eq_true rfl)
  by_cases c_13 : p1 = 13
  · have ec_13 : (p1).toInt = 13 := by rw [c_13]; decide
    refine lv_tableIn (off := 68) (tgt := 72) hx hb dX5_readLine_4 (by rw [c_13]; decide +kernel) (by rw [c_13]; decide +kernel) (by rw [c_13]; decide +kernel) (by decide) ?_
    refine lv_aload_n hx hb dX5_readLine_72 rfl (lv_at hl 0 rfl) ?_
    refine q_callVvT (rest := []) (wr := [(h11, .inl (cy 1, 900, .inl f8))]) X hK hT hA h (fun sz => gX5_readPerson_fb208ee l D cy h0 h1 h2 h3 h4 h5 h6 h7 h8 h9 h10 p0 p1 p2 p3 (.ref h11) p4 p5 w0 p6 p7 f0 f1 f2 p8 p9 p10 p11 (va_rf o0) (va_rf o1) (va_rf o2) f3 f4 f5 f6 f7 hp0 (i_rng _) (i_rng _) (i_rng _) hp4 (i_rng _) hp6 hp7 hp8 hp9 (i_rng _) (i_rng _) (rg_wide rf3 (by decide) (by decide)) (hpre0) (hpre1) (hpre2) (hpre3) (hpre4) sz) wm_3_88 wm_3_91 wm_1_2 hd_X5_readPerson wm_3_90 wp_1_13 (ci := 5) (q0 := 0) rfl rfl ⟨Nat.le_of_ble_eq_true rfl, Nat.le_of_ble_eq_true rfl⟩ hl.1 rfl (Nat.le_of_ble_eq_true rfl) dX5_readLine_73 ⟨Nat.le_of_ble_eq_true rfl, Nat.le_of_ble_eq_true rfl⟩ [0, 1, 2, 3, 4, 5, 6, 7, 8, 9, 10] [11] rfl rfl (by decide) rfl rfl (fun u_14 H locs w_14 h_14 => ?_)
    clear h
    obtain ⟨w14_0, w14_1, w14_2, w14_3, w14_4, w14_5, y14_0, y14_1, y14_2, y14_3, y14_4, y14_5, y14_6, y14_7, _⟩ := w_14
    replace h_14 : qW D _ _ ([(h11, .inl (cy 1, 900, .inl f8)), (h0, .inr (5, [.ref h1, .int (u_14.2.1 6 0), .int (u_14.2.1 7 0), .int (u_14.2.1 8 0), .int (u_14.2.1 9 0), .ref h5, .ref h11, .int p4, .int p5])), (h1, .inr (8, [w0, .int p6, .int p7, .ref h2, .ref h3, .ref h4])), (h2, .inl (cy 1, 901, .inl f0)), (h3, .inl (cy 1, 901, .inl f1)), (h4, .inl (cy 1, 901, .inl f2)), (h5, .inr (3, [.int p8, .int (u_14.2.1 0 0), .int p10, .int p11, (va_rf o0), (va_rf o1), (va_rf o2), .ref h6, .ref h7, .ref h8, .ref h9, .ref h10])), (h6, .inl (cy 1, 10, .inl (u_14.2.1 1))), (h7, .inl (cy 1, 10, .inl (u_14.2.1 2))), (h8, .inl (cy 1, 10, .inl (u_14.2.1 3))), (h9, .inl (cy 1, 10, .inl (u_14.2.1 4))), (h10, .inl (cy 1, 10, .inl (u_14.2.1 5)))] ++ []) _ _ := h_14
    refine lv_goto (tgt := 178) hx hb dX5_readLine_76 (by decide) ?_
    exact q_vretW X hr hlk hK h_14 [] ((fun _ => 0, (vcons (fun _ => p11) (vcons (fun _ => (u_14.2.1 6 0)) (vcons (fun _ => (u_14.2.1 7 0)) (vcons (fun _ => (u_14.2.1 8 0)) (vcons (fun _ => (u_14.2.1 9 0)) (vcons (fun _ => (u_14.2.1 0 0)) (vcons (u_14.2.1 1) (vcons (u_14.2.1 2) (vcons (u_14.2.1 3) (vcons (u_14.2.1 4) (vcons (u_14.2.1 5) (vcons (fun _ => p4) (vcons (fun _ => p5) (vcons f8 (fun _ => (fun _ => 0)))))))))))))))), fun _ _ => 0), ([] ++ []), (vcons o0 (vcons o1 (vcons o2 (fun _ => none))))) rfl ⟨hp11, w14_2, w14_3, w14_4, w14_5, (bw w14_0 (by decide) (by decide)), (rg_wide w14_1 (by decide) (by decide)), hp4, hp5, y14_0, y14_1, y14_2, y14_3, y14_4, y14_5, ls_0, (show SIM f0 f1 f2 (p7 : Int32).toInt (lineS (p8 : Int32).toInt (p9 : Int32).toInt) (p0 : Int32).toInt (p1 : Int32).toInt (p2 : Int32).toInt (p3 : Int32).toInt ((u_14.2.1 6 0) : Int32).toInt ((u_14.2.1 7 0) : Int32).toInt ((u_14.2.1 8 0) : Int32).toInt ((u_14.2.1 9 0) : Int32).toInt from sim_li (Or.inl ⟨(by (first | assumption | (clear hpre2 hpre3 y14_1 y14_2 y14_3 y14_5 y14_7; omega) | omega)), y14_6⟩)), (show ((u_14.2.1 8 0) : Int32).toInt ≠ 0 ∨ ((p1 : Int32).toInt = 13 ∧ ((u_14.2.1 0 0) : Int32).toInt = (p9 : Int32).toInt + 1) ∨ ((p1 : Int32).toInt ≠ 13 ∧ ((u_14.2.1 0 0) : Int32).toInt = (p9 : Int32).toInt) from by (first | (clear hpre2 hpre3 y14_1 y14_2 y14_3 y14_5 y14_7; omega) | omega)), trivial⟩ [1, 2, 3, 4, 5, 6, 7, 8, 9, 10, 11, 0] rfl rfl dX5_readLine_178 (Nat.le_of_ble_eq_true rfl) (Nat.le_of_ble_eq_true rfl)
  by_cases c_15 : p1 = 14
  · have ec_15 : (p1).toInt = 14 := by rw [c_15]; decide
    refine lv_tableIn (off := 169) (tgt := 173) hx hb dX5_readLine_4 (by rw [c_15]; decide +kernel) (by rw [c_15]; decide +kernel) (by rw [c_15]; decide +kernel) (by decide) ?_
    refine lv_aload_n hx hb dX5_readLine_173 rfl (lv_at hl 0 rfl) ?_
    refine lv_iconst (v := 2) hx hb dX5_readLine_174 (by decide) ?_
    refine q_callVvT (rest := []) (wr := (wk_31def65b3 cy h2 f0 h4 f2 h5 p8 p9 p10 p11 o0 o1 o2 h6 h7 h8 h9 h10 h6 f3 h7 f4 h8 f5 h9 f6 h10 f7 h11 f8)) X hK hT hA h (fun sz => gX5_refuse_067fcff l D cy h0 h1 h3 p0 p1 p2 p3 (.ref h5) (.ref h11) p4 p5 w0 p6 p7 (.ref h2) (.ref h4) f1 hp0 (i_rng _) (i_rng _) (i_rng _) hp4 (i_rng _) hp6 hp7 (hpre1) (hpre3) (by have q0 : (2 : Int32).toInt = 2 := (by decide); (first | (clear hpre2 hpre3; omega) | omega)) sz) wm_3_76 wm_3_79 wm_1_2 hd_X5_refuse wm_3_78 wp_1_10 (ci := 5) (q0 := 0) rfl rfl ⟨Nat.le_of_ble_eq_true rfl, Nat.le_of_ble_eq_true rfl⟩ hl.1 rfl (Nat.le_of_ble_eq_true rfl) dX5_readLine_175 ⟨Nat.le_of_ble_eq_true rfl, Nat.le_of_ble_eq_true rfl⟩ [0, 1, 3] [2, 4, 5, 6, 7, 8, 9, 10, 11] rfl rfl (by decide) rfl rfl (fun u_16 H locs w_16 h_16 => ?_)
    clear h
    obtain ⟨w16_0, w16_1, w16_2, y16_0, y16_1, y16_2, _⟩ := w_16
    have lq_16_1 : (2 : Int32).toInt = 2 := (by decide)
    replace h_16 : qW D _ _ ((wk_0202ea6aa cy h2 f0 h4 f2 h5 p8 p9 p10 p11 o0 o1 o2 h6 h7 h8 h9 h10 h6 f3 h7 f4 h8 f5 h9 f6 h10 f7 h11 f8 h0 h1 p0 (u_16.2.1 0 0) (u_16.2.1 1 0) (u_16.2.1 2 0) h5 h11 p4 p5 h1 w0 p6 p7 h2 h3 h4 h3 f1) ++ []) _ _ := h_16
    exact q_vretW X hr hlk hK h_16 [] ((fun _ => 0, (vcons (fun _ => p11) (vcons (fun _ => p0) (vcons (fun _ => (u_16.2.1 0 0)) (vcons (fun _ => (u_16.2.1 1 0)) (vcons (fun _ => (u_16.2.1 2 0)) (vcons (fun _ => p9) (vcons f3 (vcons f4 (vcons f5 (vcons f6 (vcons f7 (vcons (fun _ => p4) (vcons (fun _ => p5) (vcons f8 (fun _ => (fun _ => 0)))))))))))))))), fun _ _ => 0), ([] ++ []), (vcons o0 (vcons o1 (vcons o2 (fun _ => none))))) rfl ⟨hp11, hp0, w16_0, w16_1, w16_2, hp9, (rg_wide rf3 (by decide) (by decide)), hp4, hp5, hpre1, (show ((u_16.2.1 1 0) : Int32).toInt ≠ 0 ∨ ((u_16.2.1 0 0) : Int32).toInt = 26 ∨ ((u_16.2.1 0 0) : Int32).toInt = 27 ∨ (p0 : Int32).toInt + 1 < (p7 : Int32).toInt from by (first | (clear hpre2 hpre3 y16_1; omega) | omega)), y16_1, (show ((u_16.2.1 1 0) : Int32).toInt ≠ 0 ∨ (p2 : Int32).toInt = 0 from by (first | (clear hpre2 hpre3 y16_1; omega) | omega)), (show (p0 : Int32).toInt ≤ (p0 : Int32).toInt from (Int.le_refl _)), (show ((u_16.2.1 1 0) : Int32).toInt ≠ 0 ∨ (p0 : Int32).toInt + 1 ≤ (p0 : Int32).toInt from by (first | (clear hpre2 hpre3 y16_1; omega) | omega)), ls_0, (show SIM f0 f1 f2 (p7 : Int32).toInt (lineS (p8 : Int32).toInt (p9 : Int32).toInt) (p0 : Int32).toInt (p1 : Int32).toInt (p2 : Int32).toInt (p3 : Int32).toInt (p0 : Int32).toInt ((u_16.2.1 0 0) : Int32).toInt ((u_16.2.1 1 0) : Int32).toInt ((u_16.2.1 2 0) : Int32).toInt from sim_li (Or.inr (Or.inr (Or.inr (Or.inr (Or.inr ⟨(by (first | assumption | (clear hpre2 hpre3 y16_1; omega) | omega)), y16_2 _ _⟩)))))), (show ((u_16.2.1 1 0) : Int32).toInt ≠ 0 ∨ ((p1 : Int32).toInt = 13 ∧ (p9 : Int32).toInt = (p9 : Int32).toInt + 1) ∨ ((p1 : Int32).toInt ≠ 13 ∧ (p9 : Int32).toInt = (p9 : Int32).toInt) from by (first | (clear hpre2 hpre3 y16_1; omega) | omega)), trivial⟩ [9, 10, 0, 11, 1, 2, 3, 4, 5, 6, 7, 8] rfl rfl dX5_readLine_178 (Nat.le_of_ble_eq_true rfl) (Nat.le_of_ble_eq_true rfl)
  by_cases c_17 : p1 = 15
  · have ec_17 : (p1).toInt = 15 := by rw [c_17]; decide
    refine lv_tableIn (off := 169) (tgt := 173) hx hb dX5_readLine_4 (by rw [c_17]; decide +kernel) (by rw [c_17]; decide +kernel) (by rw [c_17]; decide +kernel) (by decide) ?_
    refine lv_aload_n hx hb dX5_readLine_173 rfl (lv_at hl 0 rfl) ?_
    refine lv_iconst (v := 2) hx hb dX5_readLine_174 (by decide) ?_
    refine q_callVvT (rest := []) (wr := (wk_31def65b3 cy h2 f0 h4 f2 h5 p8 p9 p10 p11 o0 o1 o2 h6 h7 h8 h9 h10 h6 f3 h7 f4 h8 f5 h9 f6 h10 f7 h11 f8)) X hK hT hA h (fun sz => gX5_refuse_067fcff l D cy h0 h1 h3 p0 p1 p2 p3 (.ref h5) (.ref h11) p4 p5 w0 p6 p7 (.ref h2) (.ref h4) f1 hp0 (i_rng _) (i_rng _) (i_rng _) hp4 (i_rng _) hp6 hp7 (hpre1) (hpre3) (by have q0 : (2 : Int32).toInt = 2 := (by decide); (first | (clear hpre2 hpre3; omega) | omega)) sz) wm_3_76 wm_3_79 wm_1_2 hd_X5_refuse wm_3_78 wp_1_10 (ci := 5) (q0 := 0) rfl rfl ⟨Nat.le_of_ble_eq_true rfl, Nat.le_of_ble_eq_true rfl⟩ hl.1 rfl (Nat.le_of_ble_eq_true rfl) dX5_readLine_175 ⟨Nat.le_of_ble_eq_true rfl, Nat.le_of_ble_eq_true rfl⟩ [0, 1, 3] [2, 4, 5, 6, 7, 8, 9, 10, 11] rfl rfl (by decide) rfl rfl (fun u_18 H locs w_18 h_18 => ?_)
    clear h
    obtain ⟨w18_0, w18_1, w18_2, y18_0, y18_1, y18_2, _⟩ := w_18
    have lq_18_1 : (2 : Int32).toInt = 2 := (by decide)
    replace h_18 : qW D _ _ ((wk_0202ea6aa cy h2 f0 h4 f2 h5 p8 p9 p10 p11 o0 o1 o2 h6 h7 h8 h9 h10 h6 f3 h7 f4 h8 f5 h9 f6 h10 f7 h11 f8 h0 h1 p0 (u_18.2.1 0 0) (u_18.2.1 1 0) (u_18.2.1 2 0) h5 h11 p4 p5 h1 w0 p6 p7 h2 h3 h4 h3 f1) ++ []) _ _ := h_18
    exact q_vretW X hr hlk hK h_18 [] ((fun _ => 0, (vcons (fun _ => p11) (vcons (fun _ => p0) (vcons (fun _ => (u_18.2.1 0 0)) (vcons (fun _ => (u_18.2.1 1 0)) (vcons (fun _ => (u_18.2.1 2 0)) (vcons (fun _ => p9) (vcons f3 (vcons f4 (vcons f5 (vcons f6 (vcons f7 (vcons (fun _ => p4) (vcons (fun _ => p5) (vcons f8 (fun _ => (fun _ => 0)))))))))))))))), fun _ _ => 0), ([] ++ []), (vcons o0 (vcons o1 (vcons o2 (fun _ => none))))) rfl ⟨hp11, hp0, w18_0, w18_1, w18_2, hp9, (rg_wide rf3 (by decide) (by decide)), hp4, hp5, hpre1, (show ((u_18.2.1 1 0) : Int32).toInt ≠ 0 ∨ ((u_18.2.1 0 0) : Int32).toInt = 26 ∨ ((u_18.2.1 0 0) : Int32).toInt = 27 ∨ (p0 : Int32).toInt + 1 < (p7 : Int32).toInt from by (first | (clear hpre2 hpre3 y18_1; omega) | omega)), y18_1, (show ((u_18.2.1 1 0) : Int32).toInt ≠ 0 ∨ (p2 : Int32).toInt = 0 from by (first | (clear hpre2 hpre3 y18_1; omega) | omega)), (show (p0 : Int32).toInt ≤ (p0 : Int32).toInt from (Int.le_refl _)), (show ((u_18.2.1 1 0) : Int32).toInt ≠ 0 ∨ (p0 : Int32).toInt + 1 ≤ (p0 : Int32).toInt from by (first | (clear hpre2 hpre3 y18_1; omega) | omega)), ls_0, (show SIM f0 f1 f2 (p7 : Int32).toInt (lineS (p8 : Int32).toInt (p9 : Int32).toInt) (p0 : Int32).toInt (p1 : Int32).toInt (p2 : Int32).toInt (p3 : Int32).toInt (p0 : Int32).toInt ((u_18.2.1 0 0) : Int32).toInt ((u_18.2.1 1 0) : Int32).toInt ((u_18.2.1 2 0) : Int32).toInt from sim_li (Or.inr (Or.inr (Or.inr (Or.inr (Or.inr ⟨(by (first | assumption | (clear hpre2 hpre3 y18_1; omega) | omega)), y18_2 _ _⟩)))))), (show ((u_18.2.1 1 0) : Int32).toInt ≠ 0 ∨ ((p1 : Int32).toInt = 13 ∧ (p9 : Int32).toInt = (p9 : Int32).toInt + 1) ∨ ((p1 : Int32).toInt ≠ 13 ∧ (p9 : Int32).toInt = (p9 : Int32).toInt) from by (first | (clear hpre2 hpre3 y18_1; omega) | omega)), trivial⟩ [9, 10, 0, 11, 1, 2, 3, 4, 5, 6, 7, 8] rfl rfl dX5_readLine_178 (Nat.le_of_ble_eq_true rfl) (Nat.le_of_ble_eq_true rfl)
  by_cases c_19 : p1 = 16
  · have ec_19 : (p1).toInt = 16 := by rw [c_19]; decide
    refine lv_tableIn (off := 169) (tgt := 173) hx hb dX5_readLine_4 (by rw [c_19]; decide +kernel) (by rw [c_19]; decide +kernel) (by rw [c_19]; decide +kernel) (by decide) ?_
    refine lv_aload_n hx hb dX5_readLine_173 rfl (lv_at hl 0 rfl) ?_
    refine lv_iconst (v := 2) hx hb dX5_readLine_174 (by decide) ?_
    refine q_callVvT (rest := []) (wr := (wk_31def65b3 cy h2 f0 h4 f2 h5 p8 p9 p10 p11 o0 o1 o2 h6 h7 h8 h9 h10 h6 f3 h7 f4 h8 f5 h9 f6 h10 f7 h11 f8)) X hK hT hA h (fun sz => gX5_refuse_067fcff l D cy h0 h1 h3 p0 p1 p2 p3 (.ref h5) (.ref h11) p4 p5 w0 p6 p7 (.ref h2) (.ref h4) f1 hp0 (i_rng _) (i_rng _) (i_rng _) hp4 (i_rng _) hp6 hp7 (hpre1) (hpre3) (by have q0 : (2 : Int32).toInt = 2 := (by decide); (first | (clear hpre2 hpre3; omega) | omega)) sz) wm_3_76 wm_3_79 wm_1_2 hd_X5_refuse wm_3_78 wp_1_10 (ci := 5) (q0 := 0) rfl rfl ⟨Nat.le_of_ble_eq_true rfl, Nat.le_of_ble_eq_true rfl⟩ hl.1 rfl (Nat.le_of_ble_eq_true rfl) dX5_readLine_175 ⟨Nat.le_of_ble_eq_true rfl, Nat.le_of_ble_eq_true rfl⟩ [0, 1, 3] [2, 4, 5, 6, 7, 8, 9, 10, 11] rfl rfl (by decide) rfl rfl (fun u_20 H locs w_20 h_20 => ?_)
    clear h
    obtain ⟨w20_0, w20_1, w20_2, y20_0, y20_1, y20_2, _⟩ := w_20
    have lq_20_1 : (2 : Int32).toInt = 2 := (by decide)
    replace h_20 : qW D _ _ ((wk_0202ea6aa cy h2 f0 h4 f2 h5 p8 p9 p10 p11 o0 o1 o2 h6 h7 h8 h9 h10 h6 f3 h7 f4 h8 f5 h9 f6 h10 f7 h11 f8 h0 h1 p0 (u_20.2.1 0 0) (u_20.2.1 1 0) (u_20.2.1 2 0) h5 h11 p4 p5 h1 w0 p6 p7 h2 h3 h4 h3 f1) ++ []) _ _ := h_20
    exact q_vretW X hr hlk hK h_20 [] ((fun _ => 0, (vcons (fun _ => p11) (vcons (fun _ => p0) (vcons (fun _ => (u_20.2.1 0 0)) (vcons (fun _ => (u_20.2.1 1 0)) (vcons (fun _ => (u_20.2.1 2 0)) (vcons (fun _ => p9) (vcons f3 (vcons f4 (vcons f5 (vcons f6 (vcons f7 (vcons (fun _ => p4) (vcons (fun _ => p5) (vcons f8 (fun _ => (fun _ => 0)))))))))))))))), fun _ _ => 0), ([] ++ []), (vcons o0 (vcons o1 (vcons o2 (fun _ => none))))) rfl ⟨hp11, hp0, w20_0, w20_1, w20_2, hp9, (rg_wide rf3 (by decide) (by decide)), hp4, hp5, hpre1, (show ((u_20.2.1 1 0) : Int32).toInt ≠ 0 ∨ ((u_20.2.1 0 0) : Int32).toInt = 26 ∨ ((u_20.2.1 0 0) : Int32).toInt = 27 ∨ (p0 : Int32).toInt + 1 < (p7 : Int32).toInt from by (first | (clear hpre2 hpre3 y20_1; omega) | omega)), y20_1, (show ((u_20.2.1 1 0) : Int32).toInt ≠ 0 ∨ (p2 : Int32).toInt = 0 from by (first | (clear hpre2 hpre3 y20_1; omega) | omega)), (show (p0 : Int32).toInt ≤ (p0 : Int32).toInt from (Int.le_refl _)), (show ((u_20.2.1 1 0) : Int32).toInt ≠ 0 ∨ (p0 : Int32).toInt + 1 ≤ (p0 : Int32).toInt from by (first | (clear hpre2 hpre3 y20_1; omega) | omega)), ls_0, (show SIM f0 f1 f2 (p7 : Int32).toInt (lineS (p8 : Int32).toInt (p9 : Int32).toInt) (p0 : Int32).toInt (p1 : Int32).toInt (p2 : Int32).toInt (p3 : Int32).toInt (p0 : Int32).toInt ((u_20.2.1 0 0) : Int32).toInt ((u_20.2.1 1 0) : Int32).toInt ((u_20.2.1 2 0) : Int32).toInt from sim_li (Or.inr (Or.inr (Or.inr (Or.inr (Or.inr ⟨(by (first | assumption | (clear hpre2 hpre3 y20_1; omega) | omega)), y20_2 _ _⟩)))))), (show ((u_20.2.1 1 0) : Int32).toInt ≠ 0 ∨ ((p1 : Int32).toInt = 13 ∧ (p9 : Int32).toInt = (p9 : Int32).toInt + 1) ∨ ((p1 : Int32).toInt ≠ 13 ∧ (p9 : Int32).toInt = (p9 : Int32).toInt) from by (first | (clear hpre2 hpre3 y20_1; omega) | omega)), trivial⟩ [9, 10, 0, 11, 1, 2, 3, 4, 5, 6, 7, 8] rfl rfl dX5_readLine_178 (Nat.le_of_ble_eq_true rfl) (Nat.le_of_ble_eq_true rfl)
  by_cases c_21 : p1 = 17
  · have ec_21 : (p1).toInt = 17 := by rw [c_21]; decide
    refine lv_tableIn (off := 169) (tgt := 173) hx hb dX5_readLine_4 (by rw [c_21]; decide +kernel) (by rw [c_21]; decide +kernel) (by rw [c_21]; decide +kernel) (by decide) ?_
    refine lv_aload_n hx hb dX5_readLine_173 rfl (lv_at hl 0 rfl) ?_
    refine lv_iconst (v := 2) hx hb dX5_readLine_174 (by decide) ?_
    refine q_callVvT (rest := []) (wr := (wk_31def65b3 cy h2 f0 h4 f2 h5 p8 p9 p10 p11 o0 o1 o2 h6 h7 h8 h9 h10 h6 f3 h7 f4 h8 f5 h9 f6 h10 f7 h11 f8)) X hK hT hA h (fun sz => gX5_refuse_067fcff l D cy h0 h1 h3 p0 p1 p2 p3 (.ref h5) (.ref h11) p4 p5 w0 p6 p7 (.ref h2) (.ref h4) f1 hp0 (i_rng _) (i_rng _) (i_rng _) hp4 (i_rng _) hp6 hp7 (hpre1) (hpre3) (by have q0 : (2 : Int32).toInt = 2 := (by decide); (first | (clear hpre2 hpre3; omega) | omega)) sz) wm_3_76 wm_3_79 wm_1_2 hd_X5_refuse wm_3_78 wp_1_10 (ci := 5) (q0 := 0) rfl rfl ⟨Nat.le_of_ble_eq_true rfl, Nat.le_of_ble_eq_true rfl⟩ hl.1 rfl (Nat.le_of_ble_eq_true rfl) dX5_readLine_175 ⟨Nat.le_of_ble_eq_true rfl, Nat.le_of_ble_eq_true rfl⟩ [0, 1, 3] [2, 4, 5, 6, 7, 8, 9, 10, 11] rfl rfl (by decide) rfl rfl (fun u_22 H locs w_22 h_22 => ?_)
    clear h
    obtain ⟨w22_0, w22_1, w22_2, y22_0, y22_1, y22_2, _⟩ := w_22
    have lq_22_1 : (2 : Int32).toInt = 2 := (by decide)
    replace h_22 : qW D _ _ ((wk_0202ea6aa cy h2 f0 h4 f2 h5 p8 p9 p10 p11 o0 o1 o2 h6 h7 h8 h9 h10 h6 f3 h7 f4 h8 f5 h9 f6 h10 f7 h11 f8 h0 h1 p0 (u_22.2.1 0 0) (u_22.2.1 1 0) (u_22.2.1 2 0) h5 h11 p4 p5 h1 w0 p6 p7 h2 h3 h4 h3 f1) ++ []) _ _ := h_22
    exact q_vretW X hr hlk hK h_22 [] ((fun _ => 0, (vcons (fun _ => p11) (vcons (fun _ => p0) (vcons (fun _ => (u_22.2.1 0 0)) (vcons (fun _ => (u_22.2.1 1 0)) (vcons (fun _ => (u_22.2.1 2 0)) (vcons (fun _ => p9) (vcons f3 (vcons f4 (vcons f5 (vcons f6 (vcons f7 (vcons (fun _ => p4) (vcons (fun _ => p5) (vcons f8 (fun _ => (fun _ => 0)))))))))))))))), fun _ _ => 0), ([] ++ []), (vcons o0 (vcons o1 (vcons o2 (fun _ => none))))) rfl ⟨hp11, hp0, w22_0, w22_1, w22_2, hp9, (rg_wide rf3 (by decide) (by decide)), hp4, hp5, hpre1, (show ((u_22.2.1 1 0) : Int32).toInt ≠ 0 ∨ ((u_22.2.1 0 0) : Int32).toInt = 26 ∨ ((u_22.2.1 0 0) : Int32).toInt = 27 ∨ (p0 : Int32).toInt + 1 < (p7 : Int32).toInt from by (first | (clear hpre2 hpre3 y22_1; omega) | omega)), y22_1, (show ((u_22.2.1 1 0) : Int32).toInt ≠ 0 ∨ (p2 : Int32).toInt = 0 from by (first | (clear hpre2 hpre3 y22_1; omega) | omega)), (show (p0 : Int32).toInt ≤ (p0 : Int32).toInt from (Int.le_refl _)), (show ((u_22.2.1 1 0) : Int32).toInt ≠ 0 ∨ (p0 : Int32).toInt + 1 ≤ (p0 : Int32).toInt from by (first | (clear hpre2 hpre3 y22_1; omega) | omega)), ls_0, (show SIM f0 f1 f2 (p7 : Int32).toInt (lineS (p8 : Int32).toInt (p9 : Int32).toInt) (p0 : Int32).toInt (p1 : Int32).toInt (p2 : Int32).toInt (p3 : Int32).toInt (p0 : Int32).toInt ((u_22.2.1 0 0) : Int32).toInt ((u_22.2.1 1 0) : Int32).toInt ((u_22.2.1 2 0) : Int32).toInt from sim_li (Or.inr (Or.inr (Or.inr (Or.inr (Or.inr ⟨(by (first | assumption | (clear hpre2 hpre3 y22_1; omega) | omega)), y22_2 _ _⟩)))))), (show ((u_22.2.1 1 0) : Int32).toInt ≠ 0 ∨ ((p1 : Int32).toInt = 13 ∧ (p9 : Int32).toInt = (p9 : Int32).toInt + 1) ∨ ((p1 : Int32).toInt ≠ 13 ∧ (p9 : Int32).toInt = (p9 : Int32).toInt) from by (first | (clear hpre2 hpre3 y22_1; omega) | omega)), trivial⟩ [9, 10, 0, 11, 1, 2, 3, 4, 5, 6, 7, 8] rfl rfl dX5_readLine_178 (Nat.le_of_ble_eq_true rfl) (Nat.le_of_ble_eq_true rfl)
  by_cases c_23 : p1 = 18
  · have ec_23 : (p1).toInt = 18 := by rw [c_23]; decide
    refine lv_tableIn (off := 75) (tgt := 79) hx hb dX5_readLine_4 (by rw [c_23]; decide +kernel) (by rw [c_23]; decide +kernel) (by rw [c_23]; decide +kernel) (by decide) ?_
    refine lv_aload_n hx hb dX5_readLine_79 rfl (lv_at hl 0 rfl) ?_
    refine q_get X hK h 0 rfl rfl wf_5 5 (by decide) rfl wm_1_151 dX5_readLine_80 ?_
    refine lv_aload_n hx hb dX5_readLine_83 rfl (lv_at hl 0 rfl) ?_
    refine lv_sipush (v := 511) hx hb dX5_readLine_84 (by decide) ?_
    refine lv_aload_n hx hb dX5_readLine_87 rfl (lv_at hl 0 rfl) ?_
    refine q_get X hK h 0 rfl rfl wf_5 5 (by decide) rfl wm_1_151 dX5_readLine_88 ?_
    refine q_get X hK h 5 rfl rfl wf_3 4 (by decide) rfl wm_1_95 dX5_readLine_91 ?_
    refine q_callVqW (rest := [.ref h5]) (wr := (wk_27a2fc362 cy h5 p8 p9 p10 p11 o0 o1 o2 h6 h7 h8 h9 h10 h6 f3 h7 f4 h8 f5 h9 f6 h10 f7)) X hK hT hA h (fun sz => gX5_readLaw_3277650 l D cy h0 h1 h2 h3 h4 h11 (511 : Int32) o0 p0 p1 p2 p3 (.ref h5) p4 p5 w0 p6 p7 f0 f1 f2 f8 (i_rng _) hp0 (i_rng _) (i_rng _) (i_rng _) hp4 (i_rng _) hp6 hp7 (hpre0) (hpre1) (hpre2) (hpre3) (hpre4) sz) wm_3_97 wm_3_100 wm_1_2 hd_X5_readLaw wm_3_99 wp_1_15 (ci := 5) (q0 := 0) rfl rfl ⟨Nat.le_of_ble_eq_true rfl, Nat.le_of_ble_eq_true rfl⟩ hl.1 rfl (Nat.le_of_ble_eq_true rfl) dX5_readLine_94 ⟨Nat.le_of_ble_eq_true rfl, Nat.le_of_ble_eq_true rfl⟩ [0, 1, 2, 3, 4, 11] [5, 6, 7, 8, 9, 10] rfl rfl (by decide) rfl rfl (fun r_24 u_24 H locs w_24 h_24 => ?_)
    clear h
    obtain ⟨w24_0, w24_1, w24_2, w24_3, w24_4, w24_5, y24_0, y24_1, y24_2, y24_3, y24_4, y24_5, y24_6, y24_7, _⟩ := w_24
    replace h_24 : qW D _ _ ((wk_fb187a8e3 cy h5 p8 p9 p10 p11 o0 o1 o2 h6 h7 h8 h9 h10 h6 f3 h7 f4 h8 f5 h9 f6 h10 f7 h0 h1 (u_24.1.2.1 0 0) (u_24.1.2.1 1 0) (u_24.1.2.1 2 0) (u_24.1.2.1 3 0) h5 h11 (u_24.1.2.1 4 0) (u_24.1.2.1 5 0) h1 w0 p6 p7 h2 h3 h4 h2 f0 h3 f1 h4 f2 h11 (u_24.1.2.1 6)) ++ (u_24.2.1 ++ [])) _ _ := h_24
    refine q_putq (r := r_24) X hK h_24 0 rfl rfl wf_3 tyX3 tyX3_ok nmX3 4 (by decide) wm_1_95 rfl rfl (fun _ => rfl) rfl (fun _ => rfl) (Nat.le_of_ble_eq_true rfl) dX5_readLine_97 (fun H locs h_25 => ?_)
    clear h_24
    replace h_25 : qW D _ _ ((wk_fb187a8e3 cy h5 p8 p9 p10 p11 r_24 o1 o2 h6 h7 h8 h9 h10 h6 f3 h7 f4 h8 f5 h9 f6 h10 f7 h0 h1 (u_24.1.2.1 0 0) (u_24.1.2.1 1 0) (u_24.1.2.1 2 0) (u_24.1.2.1 3 0) h5 h11 (u_24.1.2.1 4 0) (u_24.1.2.1 5 0) h1 w0 p6 p7 h2 h3 h4 h2 f0 h3 f1 h4 f2 h11 (u_24.1.2.1 6)) ++ (u_24.2.1 ++ [])) _ _ := h_25
    refine lv_goto (tgt := 178) hx hb dX5_readLine_100 (by decide) ?_
    exact q_vretW X hr hlk hK h_25 [] ((fun _ => 0, (vcons (fun _ => p11) (vcons (fun _ => (u_24.1.2.1 0 0)) (vcons (fun _ => (u_24.1.2.1 1 0)) (vcons (fun _ => (u_24.1.2.1 2 0)) (vcons (fun _ => (u_24.1.2.1 3 0)) (vcons (fun _ => p9) (vcons f3 (vcons f4 (vcons f5 (vcons f6 (vcons f7 (vcons (fun _ => (u_24.1.2.1 4 0)) (vcons (fun _ => (u_24.1.2.1 5 0)) (vcons (u_24.1.2.1 6) (fun _ => (fun _ => 0)))))))))))))))), fun _ _ => 0), ([] ++ (u_24.2.1 ++ [])), (vcons r_24 (vcons o1 (vcons o2 (fun _ => none))))) rfl ⟨hp11, (bw w24_0 (by decide) (by decide)), w24_1, w24_2, w24_3, hp9, (rg_wide rf3 (by decide) (by decide)), w24_4, w24_5, y24_0, y24_1, y24_2, y24_3, y24_4, y24_5, (show LawS cy ([] ++ (u_24.2.1 ++ [])) (va_rf o0) (va_rf o1) (va_rf o2) (va_rf r_24) (va_rf o1) (va_rf o2) from (ls_4 (by rw [List.append_nil]; exact y24_6))), (show SIM f0 f1 f2 (p7 : Int32).toInt (lineS (p8 : Int32).toInt (p9 : Int32).toInt) (p0 : Int32).toInt (p1 : Int32).toInt (p2 : Int32).toInt (p3 : Int32).toInt ((u_24.1.2.1 0 0) : Int32).toInt ((u_24.1.2.1 1 0) : Int32).toInt ((u_24.1.2.1 2 0) : Int32).toInt ((u_24.1.2.1 3 0) : Int32).toInt from sim_li (Or.inr (Or.inl ⟨(by (first | assumption | (clear hpre2 hpre3 y24_1 y24_2 y24_3 y24_5; omega) | omega)), y24_7⟩))), (show ((u_24.1.2.1 2 0) : Int32).toInt ≠ 0 ∨ ((p1 : Int32).toInt = 13 ∧ (p9 : Int32).toInt = (p9 : Int32).toInt + 1) ∨ ((p1 : Int32).toInt ≠ 13 ∧ (p9 : Int32).toInt = (p9 : Int32).toInt) from by (first | (clear hpre2 hpre3 y24_1 y24_2 y24_3 y24_5; omega) | omega)), trivial⟩ [6, 7, 8, 9, 10, 0, 1, 2, 3, 4, 5, 11] rfl rfl dX5_readLine_178 (Nat.le_of_ble_eq_true rfl) (Nat.le_of_ble_eq_true rfl)
  by_cases c_26 : p1 = 19
  · have ec_26 : (p1).toInt = 19 := by rw [c_26]; decide
    refine lv_tableIn (off := 99) (tgt := 103) hx hb dX5_readLine_4 (by rw [c_26]; decide +kernel) (by rw [c_26]; decide +kernel) (by rw [c_26]; decide +kernel) (by decide) ?_
    refine lv_aload_n hx hb dX5_readLine_103 rfl (lv_at hl 0 rfl) ?_
    refine q_get X hK h 0 rfl rfl wf_5 5 (by decide) rfl wm_1_151 dX5_readLine_104 ?_
    refine lv_aload_n hx hb dX5_readLine_107 rfl (lv_at hl 0 rfl) ?_
    refine lv_sipush (v := 783) hx hb dX5_readLine_108 (by decide) ?_
    refine lv_aload_n hx hb dX5_readLine_111 rfl (lv_at hl 0 rfl) ?_
    refine q_get X hK h 0 rfl rfl wf_5 5 (by decide) rfl wm_1_151 dX5_readLine_112 ?_
    refine q_get X hK h 5 rfl rfl wf_3 5 (by decide) rfl wm_1_98 dX5_readLine_115 ?_
    refine q_callVqW (rest := [.ref h5]) (wr := (wk_27a2fc362 cy h5 p8 p9 p10 p11 o0 o1 o2 h6 h7 h8 h9 h10 h6 f3 h7 f4 h8 f5 h9 f6 h10 f7)) X hK hT hA h (fun sz => gX5_readLaw_3277650 l D cy h0 h1 h2 h3 h4 h11 (783 : Int32) o1 p0 p1 p2 p3 (.ref h5) p4 p5 w0 p6 p7 f0 f1 f2 f8 (i_rng _) hp0 (i_rng _) (i_rng _) (i_rng _) hp4 (i_rng _) hp6 hp7 (hpre0) (hpre1) (hpre2) (hpre3) (hpre4) sz) wm_3_97 wm_3_100 wm_1_2 hd_X5_readLaw wm_3_99 wp_1_15 (ci := 5) (q0 := 0) rfl rfl ⟨Nat.le_of_ble_eq_true rfl, Nat.le_of_ble_eq_true rfl⟩ hl.1 rfl (Nat.le_of_ble_eq_true rfl) dX5_readLine_118 ⟨Nat.le_of_ble_eq_true rfl, Nat.le_of_ble_eq_true rfl⟩ [0, 1, 2, 3, 4, 11] [5, 6, 7, 8, 9, 10] rfl rfl (by decide) rfl rfl (fun r_27 u_27 H locs w_27 h_27 => ?_)
    clear h
    obtain ⟨w27_0, w27_1, w27_2, w27_3, w27_4, w27_5, y27_0, y27_1, y27_2, y27_3, y27_4, y27_5, y27_6, y27_7, _⟩ := w_27
    replace h_27 : qW D _ _ ((wk_fb187a8e3 cy h5 p8 p9 p10 p11 o0 o1 o2 h6 h7 h8 h9 h10 h6 f3 h7 f4 h8 f5 h9 f6 h10 f7 h0 h1 (u_27.1.2.1 0 0) (u_27.1.2.1 1 0) (u_27.1.2.1 2 0) (u_27.1.2.1 3 0) h5 h11 (u_27.1.2.1 4 0) (u_27.1.2.1 5 0) h1 w0 p6 p7 h2 h3 h4 h2 f0 h3 f1 h4 f2 h11 (u_27.1.2.1 6)) ++ (u_27.2.1 ++ [])) _ _ := h_27
    refine q_putq (r := r_27) X hK h_27 0 rfl rfl wf_3 tyX3 tyX3_ok nmX3 5 (by decide) wm_1_98 rfl rfl (fun _ => rfl) rfl (fun _ => rfl) (Nat.le_of_ble_eq_true rfl) dX5_readLine_121 (fun H locs h_28 => ?_)
    clear h_27
    replace h_28 : qW D _ _ ((wk_fb187a8e3 cy h5 p8 p9 p10 p11 o0 r_27 o2 h6 h7 h8 h9 h10 h6 f3 h7 f4 h8 f5 h9 f6 h10 f7 h0 h1 (u_27.1.2.1 0 0) (u_27.1.2.1 1 0) (u_27.1.2.1 2 0) (u_27.1.2.1 3 0) h5 h11 (u_27.1.2.1 4 0) (u_27.1.2.1 5 0) h1 w0 p6 p7 h2 h3 h4 h2 f0 h3 f1 h4 f2 h11 (u_27.1.2.1 6)) ++ (u_27.2.1 ++ [])) _ _ := h_28
    refine lv_goto (tgt := 178) hx hb dX5_readLine_124 (by decide) ?_
    exact q_vretW X hr hlk hK h_28 [] ((fun _ => 0, (vcons (fun _ => p11) (vcons (fun _ => (u_27.1.2.1 0 0)) (vcons (fun _ => (u_27.1.2.1 1 0)) (vcons (fun _ => (u_27.1.2.1 2 0)) (vcons (fun _ => (u_27.1.2.1 3 0)) (vcons (fun _ => p9) (vcons f3 (vcons f4 (vcons f5 (vcons f6 (vcons f7 (vcons (fun _ => (u_27.1.2.1 4 0)) (vcons (fun _ => (u_27.1.2.1 5 0)) (vcons (u_27.1.2.1 6) (fun _ => (fun _ => 0)))))))))))))))), fun _ _ => 0), ([] ++ (u_27.2.1 ++ [])), (vcons o0 (vcons r_27 (vcons o2 (fun _ => none))))) rfl ⟨hp11, (bw w27_0 (by decide) (by decide)), w27_1, w27_2, w27_3, hp9, (rg_wide rf3 (by decide) (by decide)), w27_4, w27_5, y27_0, y27_1, y27_2, y27_3, y27_4, y27_5, (show LawS cy ([] ++ (u_27.2.1 ++ [])) (va_rf o0) (va_rf o1) (va_rf o2) (va_rf o0) (va_rf r_27) (va_rf o2) from (ls_5 (by rw [List.append_nil]; exact y27_6))), (show SIM f0 f1 f2 (p7 : Int32).toInt (lineS (p8 : Int32).toInt (p9 : Int32).toInt) (p0 : Int32).toInt (p1 : Int32).toInt (p2 : Int32).toInt (p3 : Int32).toInt ((u_27.1.2.1 0 0) : Int32).toInt ((u_27.1.2.1 1 0) : Int32).toInt ((u_27.1.2.1 2 0) : Int32).toInt ((u_27.1.2.1 3 0) : Int32).toInt from sim_li (Or.inr (Or.inr (Or.inl ⟨(by (first | assumption | (clear hpre2 hpre3 y27_1 y27_2 y27_3 y27_5; omega) | omega)), y27_7⟩)))), (show ((u_27.1.2.1 2 0) : Int32).toInt ≠ 0 ∨ ((p1 : Int32).toInt = 13 ∧ (p9 : Int32).toInt = (p9 : Int32).toInt + 1) ∨ ((p1 : Int32).toInt ≠ 13 ∧ (p9 : Int32).toInt = (p9 : Int32).toInt) from by (first | (clear hpre2 hpre3 y27_1 y27_2 y27_3 y27_5; omega) | omega)), trivial⟩ [6, 7, 8, 9, 10, 0, 1, 2, 3, 4, 5, 11] rfl rfl dX5_readLine_178 (Nat.le_of_ble_eq_true rfl) (Nat.le_of_ble_eq_true rfl)
  by_cases c_29 : p1 = 20
  · have ec_29 : (p1).toInt = 20 := by rw [c_29]; decide
    refine lv_tableIn (off := 123) (tgt := 127) hx hb dX5_readLine_4 (by rw [c_29]; decide +kernel) (by rw [c_29]; decide +kernel) (by rw [c_29]; decide +kernel) (by decide) ?_
    refine lv_aload_n hx hb dX5_readLine_127 rfl (lv_at hl 0 rfl) ?_
    refine q_get X hK h 0 rfl rfl wf_5 5 (by decide) rfl wm_1_151 dX5_readLine_128 ?_
    refine lv_aload_n hx hb dX5_readLine_131 rfl (lv_at hl 0 rfl) ?_
    refine lv_sipush (v := 1535) hx hb dX5_readLine_132 (by decide) ?_
    refine lv_aload_n hx hb dX5_readLine_135 rfl (lv_at hl 0 rfl) ?_
    refine q_get X hK h 0 rfl rfl wf_5 5 (by decide) rfl wm_1_151 dX5_readLine_136 ?_
    refine q_get X hK h 5 rfl rfl wf_3 6 (by decide) rfl wm_1_101 dX5_readLine_139 ?_
    refine q_callVqW (rest := [.ref h5]) (wr := (wk_27a2fc362 cy h5 p8 p9 p10 p11 o0 o1 o2 h6 h7 h8 h9 h10 h6 f3 h7 f4 h8 f5 h9 f6 h10 f7)) X hK hT hA h (fun sz => gX5_readLaw_3277650 l D cy h0 h1 h2 h3 h4 h11 (1535 : Int32) o2 p0 p1 p2 p3 (.ref h5) p4 p5 w0 p6 p7 f0 f1 f2 f8 (i_rng _) hp0 (i_rng _) (i_rng _) (i_rng _) hp4 (i_rng _) hp6 hp7 (hpre0) (hpre1) (hpre2) (hpre3) (hpre4) sz) wm_3_97 wm_3_100 wm_1_2 hd_X5_readLaw wm_3_99 wp_1_15 (ci := 5) (q0 := 0) rfl rfl ⟨Nat.le_of_ble_eq_true rfl, Nat.le_of_ble_eq_true rfl⟩ hl.1 rfl (Nat.le_of_ble_eq_true rfl) dX5_readLine_142 ⟨Nat.le_of_ble_eq_true rfl, Nat.le_of_ble_eq_true rfl⟩ [0, 1, 2, 3, 4, 11] [5, 6, 7, 8, 9, 10] rfl rfl (by decide) rfl rfl (fun r_30 u_30 H locs w_30 h_30 => ?_)
    clear h
    obtain ⟨w30_0, w30_1, w30_2, w30_3, w30_4, w30_5, y30_0, y30_1, y30_2, y30_3, y30_4, y30_5, y30_6, y30_7, _⟩ := w_30
    replace h_30 : qW D _ _ ((wk_fb187a8e3 cy h5 p8 p9 p10 p11 o0 o1 o2 h6 h7 h8 h9 h10 h6 f3 h7 f4 h8 f5 h9 f6 h10 f7 h0 h1 (u_30.1.2.1 0 0) (u_30.1.2.1 1 0) (u_30.1.2.1 2 0) (u_30.1.2.1 3 0) h5 h11 (u_30.1.2.1 4 0) (u_30.1.2.1 5 0) h1 w0 p6 p7 h2 h3 h4 h2 f0 h3 f1 h4 f2 h11 (u_30.1.2.1 6)) ++ (u_30.2.1 ++ [])) _ _ := h_30
    refine q_putq (r := r_30) X hK h_30 0 rfl rfl wf_3 tyX3 tyX3_ok nmX3 6 (by decide) wm_1_101 rfl rfl (fun _ => rfl) rfl (fun _ => rfl) (Nat.le_of_ble_eq_true rfl) dX5_readLine_145 (fun H locs h_31 => ?_)
    clear h_30
    replace h_31 : qW D _ _ ((wk_fb187a8e3 cy h5 p8 p9 p10 p11 o0 o1 r_30 h6 h7 h8 h9 h10 h6 f3 h7 f4 h8 f5 h9 f6 h10 f7 h0 h1 (u_30.1.2.1 0 0) (u_30.1.2.1 1 0) (u_30.1.2.1 2 0) (u_30.1.2.1 3 0) h5 h11 (u_30.1.2.1 4 0) (u_30.1.2.1 5 0) h1 w0 p6 p7 h2 h3 h4 h2 f0 h3 f1 h4 f2 h11 (u_30.1.2.1 6)) ++ (u_30.2.1 ++ [])) _ _ := h_31
    refine lv_goto (tgt := 178) hx hb dX5_readLine_148 (by decide) ?_
    exact q_vretW X hr hlk hK h_31 [] ((fun _ => 0, (vcons (fun _ => p11) (vcons (fun _ => (u_30.1.2.1 0 0)) (vcons (fun _ => (u_30.1.2.1 1 0)) (vcons (fun _ => (u_30.1.2.1 2 0)) (vcons (fun _ => (u_30.1.2.1 3 0)) (vcons (fun _ => p9) (vcons f3 (vcons f4 (vcons f5 (vcons f6 (vcons f7 (vcons (fun _ => (u_30.1.2.1 4 0)) (vcons (fun _ => (u_30.1.2.1 5 0)) (vcons (u_30.1.2.1 6) (fun _ => (fun _ => 0)))))))))))))))), fun _ _ => 0), ([] ++ (u_30.2.1 ++ [])), (vcons o0 (vcons o1 (vcons r_30 (fun _ => none))))) rfl ⟨hp11, (bw w30_0 (by decide) (by decide)), w30_1, w30_2, w30_3, hp9, (rg_wide rf3 (by decide) (by decide)), w30_4, w30_5, y30_0, y30_1, y30_2, y30_3, y30_4, y30_5, (show LawS cy ([] ++ (u_30.2.1 ++ [])) (va_rf o0) (va_rf o1) (va_rf o2) (va_rf o0) (va_rf o1) (va_rf r_30) from (ls_6 (by rw [List.append_nil]; exact y30_6))), (show SIM f0 f1 f2 (p7 : Int32).toInt (lineS (p8 : Int32).toInt (p9 : Int32).toInt) (p0 : Int32).toInt (p1 : Int32).toInt (p2 : Int32).toInt (p3 : Int32).toInt ((u_30.1.2.1 0 0) : Int32).toInt ((u_30.1.2.1 1 0) : Int32).toInt ((u_30.1.2.1 2 0) : Int32).toInt ((u_30.1.2.1 3 0) : Int32).toInt from sim_li (Or.inr (Or.inr (Or.inr (Or.inl ⟨(by (first | assumption | (clear hpre2 hpre3 y30_1 y30_2 y30_3 y30_5; omega) | omega)), y30_7⟩))))), (show ((u_30.1.2.1 2 0) : Int32).toInt ≠ 0 ∨ ((p1 : Int32).toInt = 13 ∧ (p9 : Int32).toInt = (p9 : Int32).toInt + 1) ∨ ((p1 : Int32).toInt ≠ 13 ∧ (p9 : Int32).toInt = (p9 : Int32).toInt) from by (first | (clear hpre2 hpre3 y30_1 y30_2 y30_3 y30_5; omega) | omega)), trivial⟩ [6, 7, 8, 9, 10, 0, 1, 2, 3, 4, 5, 11] rfl rfl dX5_readLine_178 (Nat.le_of_ble_eq_true rfl) (Nat.le_of_ble_eq_true rfl)
  have nc_1 := lv_neT c_1 (show (8 : Int32).toInt = 8 by decide)
  have nc_5 := lv_neT c_5 (show (9 : Int32).toInt = 9 by decide)
  have nc_7 := lv_neT c_7 (show (10 : Int32).toInt = 10 by decide)
  have nc_9 := lv_neT c_9 (show (11 : Int32).toInt = 11 by decide)
  have nc_11 := lv_neT c_11 (show (12 : Int32).toInt = 12 by decide)
  have nc_13 := lv_neT c_13 (show (13 : Int32).toInt = 13 by decide)
  have nc_15 := lv_neT c_15 (show (14 : Int32).toInt = 14 by decide)
  have nc_17 := lv_neT c_17 (show (15 : Int32).toInt = 15 by decide)
  have nc_19 := lv_neT c_19 (show (16 : Int32).toInt = 16 by decide)
  have nc_21 := lv_neT c_21 (show (17 : Int32).toInt = 17 by decide)
  have nc_23 := lv_neT c_23 (show (18 : Int32).toInt = 18 by decide)
  have nc_26 := lv_neT c_26 (show (19 : Int32).toInt = 19 by decide)
  have nc_29 := lv_neT c_29 (show (20 : Int32).toInt = 20 by decide)
  refine lv_tableOut (tgt := 173) hx hb dX5_readLine_4 (by omega) (by decide) ?_
  refine lv_aload_n hx hb dX5_readLine_173 rfl (lv_at hl 0 rfl) ?_
  refine lv_iconst (v := 2) hx hb dX5_readLine_174 (by decide) ?_
  refine q_callVvT (rest := []) (wr := (wk_31def65b3 cy h2 f0 h4 f2 h5 p8 p9 p10 p11 o0 o1 o2 h6 h7 h8 h9 h10 h6 f3 h7 f4 h8 f5 h9 f6 h10 f7 h11 f8)) X hK hT hA h (fun sz => gX5_refuse_067fcff l D cy h0 h1 h3 p0 p1 p2 p3 (.ref h5) (.ref h11) p4 p5 w0 p6 p7 (.ref h2) (.ref h4) f1 hp0 (i_rng _) (i_rng _) (i_rng _) hp4 (i_rng _) hp6 hp7 (hpre1) (hpre3) (by have q0 : (2 : Int32).toInt = 2 := (by decide); (first | (clear hpre2 hpre3; omega) | omega)) sz) wm_3_76 wm_3_79 wm_1_2 hd_X5_refuse wm_3_78 wp_1_10 (ci := 5) (q0 := 0) rfl rfl ⟨Nat.le_of_ble_eq_true rfl, Nat.le_of_ble_eq_true rfl⟩ hl.1 rfl (Nat.le_of_ble_eq_true rfl) dX5_readLine_175 ⟨Nat.le_of_ble_eq_true rfl, Nat.le_of_ble_eq_true rfl⟩ [0, 1, 3] [2, 4, 5, 6, 7, 8, 9, 10, 11] rfl rfl (by decide) rfl rfl (fun u_32 H locs w_32 h_32 => ?_)
  clear h
  obtain ⟨w32_0, w32_1, w32_2, y32_0, y32_1, y32_2, _⟩ := w_32
  have lq_32_1 : (2 : Int32).toInt = 2 := (by decide)
  replace h_32 : qW D _ _ ((wk_0202ea6aa cy h2 f0 h4 f2 h5 p8 p9 p10 p11 o0 o1 o2 h6 h7 h8 h9 h10 h6 f3 h7 f4 h8 f5 h9 f6 h10 f7 h11 f8 h0 h1 p0 (u_32.2.1 0 0) (u_32.2.1 1 0) (u_32.2.1 2 0) h5 h11 p4 p5 h1 w0 p6 p7 h2 h3 h4 h3 f1) ++ []) _ _ := h_32
  exact q_vretW X hr hlk hK h_32 [] ((fun _ => 0, (vcons (fun _ => p11) (vcons (fun _ => p0) (vcons (fun _ => (u_32.2.1 0 0)) (vcons (fun _ => (u_32.2.1 1 0)) (vcons (fun _ => (u_32.2.1 2 0)) (vcons (fun _ => p9) (vcons f3 (vcons f4 (vcons f5 (vcons f6 (vcons f7 (vcons (fun _ => p4) (vcons (fun _ => p5) (vcons f8 (fun _ => (fun _ => 0)))))))))))))))), fun _ _ => 0), ([] ++ []), (vcons o0 (vcons o1 (vcons o2 (fun _ => none))))) rfl ⟨hp11, hp0, w32_0, w32_1, w32_2, hp9, (rg_wide rf3 (by decide) (by decide)), hp4, hp5, hpre1, (show ((u_32.2.1 1 0) : Int32).toInt ≠ 0 ∨ ((u_32.2.1 0 0) : Int32).toInt = 26 ∨ ((u_32.2.1 0 0) : Int32).toInt = 27 ∨ (p0 : Int32).toInt + 1 < (p7 : Int32).toInt from by (first | (clear hpre2 hpre3 y32_1; omega) | omega)), y32_1, (show ((u_32.2.1 1 0) : Int32).toInt ≠ 0 ∨ (p2 : Int32).toInt = 0 from by (first | (clear hpre2 hpre3 y32_1; omega) | omega)), (show (p0 : Int32).toInt ≤ (p0 : Int32).toInt from (Int.le_refl _)), (show ((u_32.2.1 1 0) : Int32).toInt ≠ 0 ∨ (p0 : Int32).toInt + 1 ≤ (p0 : Int32).toInt from by (first | (clear hpre2 hpre3 y32_1; omega) | omega)), ls_0, (show SIM f0 f1 f2 (p7 : Int32).toInt (lineS (p8 : Int32).toInt (p9 : Int32).toInt) (p0 : Int32).toInt (p1 : Int32).toInt (p2 : Int32).toInt (p3 : Int32).toInt (p0 : Int32).toInt ((u_32.2.1 0 0) : Int32).toInt ((u_32.2.1 1 0) : Int32).toInt ((u_32.2.1 2 0) : Int32).toInt from sim_li (Or.inr (Or.inr (Or.inr (Or.inr (Or.inr ⟨(by (first | assumption | (clear hpre2 hpre3 y32_1; omega) | omega)), y32_2 _ _⟩)))))), (show ((u_32.2.1 1 0) : Int32).toInt ≠ 0 ∨ ((p1 : Int32).toInt = 13 ∧ (p9 : Int32).toInt = (p9 : Int32).toInt + 1) ∨ ((p1 : Int32).toInt ≠ 13 ∧ (p9 : Int32).toInt = (p9 : Int32).toInt) from by (first | (clear hpre2 hpre3 y32_1; omega) | omega)), trivial⟩ [9, 10, 0, 11, 1, 2, 3, 4, 5, 6, 7, 8] rfl rfl dX5_readLine_178 (Nat.le_of_ble_eq_true rfl) (Nat.le_of_ble_eq_true rfl)
set_option maxHeartbeats 4000000 in
set_option maxRecDepth 100000 in
theorem gX3_init_51a17bc (l : Launch) (D : va_G) (cy : Nat → ClassId) (h0 : Nat) (p0 : Int32) (p1 : Int32) (p2 : Int32) (p3 : Int32) (w0 : Value) (hp0 : 0 ≤ (p0).toInt ∧ (p0).toInt ≤ 0) (hp1 : 0 ≤ (p1).toInt ∧ (p1).toInt ≤ 0) (hp2 : 0 ≤ (p2).toInt ∧ (p2).toInt ≤ 0) (hp3 : 0 ≤ (p3).toInt ∧ (p3).toInt ≤ 0) (sz : Nat) : MV l yX3_init cX3_init 1 { frames := 1, cells := 5, slots := 50, locals := 12 } [.ref h0] D cy [(h0, .inr (3, [.int p0, .int p1, .int p2, .int p3, w0, w0, w0, w0, w0, w0, w0, w0]))] sz (fun u => (1 ≤ (u.2.1 0 0).toInt ∧ (u.2.1 0 0).toInt ≤ 1) ∧ (0 ≤ (u.2.1 1 0).toInt ∧ (u.2.1 1 0).toInt ≤ 0) ∧ (0 ≤ (u.2.1 2 0).toInt ∧ (u.2.1 2 0).toInt ≤ 0) ∧ (0 ≤ (u.2.1 3 0).toInt ∧ (u.2.1 3 0).toInt ≤ 0) ∧ True) (fun u => (wk_060e1226c cy h0 (u.2.1 0 0) (u.2.1 1 0) (u.2.1 2 0) (u.2.1 3 0) (u.1 0) (u.1 1) (u.1 2) (u.1 3) (u.1 4) (u.1 0) (fun _ => 0) (u.1 1) (fun _ => 0) (u.1 2) (fun _ => 0) (u.1 3) (fun _ => 0) (u.1 4) (fun _ => 0))) 5 50 := by
  refine q_ent (own := RX3) (by decide) rfl (Nat.le_of_ble_eq_true rfl) (fun p e s m below meth c ls X hr hlk hnm hK hT h hA hl => ?_)
  obtain ⟨hx, hb, hml, hown, ht⟩ := id X
  replace hl : lv_has ls 1 [(0, .ref h0)] := hl
  refine lv_aload_n hx hb dX3_init_0 rfl (lv_at hl 0 rfl) ?_
  refine q_obj X wm_1_73 wm_1_29 wm_1_30 hl.1 dX3_init_1 (Nat.le_of_ble_eq_true rfl) (Nat.le_of_ble_eq_true rfl) ?_
  refine lv_aload_n hx hb dX3_init_4 rfl (lv_at hl 0 rfl) ?_
  refine lv_iconst (v := 1) hx hb dX3_init_5 (by decide) ?_
  refine q_put (v := .int 1) X hK h 0 rfl rfl wf_3 tyX3 tyX3_ok nmX3 0 (by decide) wm_1_74 rfl rfl rfl (Nat.le_of_ble_eq_true rfl) dX3_init_6 (fun H locs h_1 => ?_)
  clear h
  replace h_1 : qW D _ _ [(h0, .inr (3, [.int 1, .int p1, .int p2, .int p3, w0, w0, w0, w0, w0, w0, w0, w0]))] _ _ := h_1
  refine lv_aload_n hx hb dX3_init_9 rfl (lv_at hl 0 rfl) ?_
  refine lv_iconst (v := 0) hx hb dX3_init_10 (by decide) ?_
  refine q_put (v := .int 0) X hK h_1 0 rfl rfl wf_3 tyX3 tyX3_ok nmX3 1 (by decide) wm_1_79 rfl rfl rfl (Nat.le_of_ble_eq_true rfl) dX3_init_11 (fun H locs h_2 => ?_)
  clear h_1
  replace h_2 : qW D _ _ [(h0, .inr (3, [.int 1, .int 0, .int p2, .int p3, w0, w0, w0, w0, w0, w0, w0, w0]))] _ _ := h_2
  refine lv_aload_n hx hb dX3_init_14 rfl (lv_at hl 0 rfl) ?_
  refine lv_iconst (v := 0) hx hb dX3_init_15 (by decide) ?_
  refine q_put (v := .int 0) X hK h_2 0 rfl rfl wf_3 tyX3 tyX3_ok nmX3 2 (by decide) wm_1_87 rfl rfl rfl (Nat.le_of_ble_eq_true rfl) dX3_init_16 (fun H locs h_3 => ?_)
  clear h_2
  replace h_3 : qW D _ _ [(h0, .inr (3, [.int 1, .int 0, .int 0, .int p3, w0, w0, w0, w0, w0, w0, w0, w0]))] _ _ := h_3
  refine lv_aload_n hx hb dX3_init_19 rfl (lv_at hl 0 rfl) ?_
  refine lv_iconst (v := 0) hx hb dX3_init_20 (by decide) ?_
  refine q_put (v := .int 0) X hK h_3 0 rfl rfl wf_3 tyX3 tyX3_ok nmX3 3 (by decide) wm_1_90 rfl rfl rfl (Nat.le_of_ble_eq_true rfl) dX3_init_21 (fun H locs h_4 => ?_)
  clear h_3
  replace h_4 : qW D _ _ [(h0, .inr (3, [.int 1, .int 0, .int 0, .int 0, w0, w0, w0, w0, w0, w0, w0, w0]))] _ _ := h_4
  refine lv_aload_n hx hb dX3_init_24 rfl (lv_at hl 0 rfl) ?_
  refine lv_null hx hb dX3_init_25 ?_
  refine q_put (v := .null) X hK h_4 0 rfl rfl wf_3 tyX3 tyX3_ok nmX3 4 (by decide) wm_1_93 rfl rfl rfl (Nat.le_of_ble_eq_true rfl) dX3_init_26 (fun H locs h_5 => ?_)
  clear h_4
  replace h_5 : qW D _ _ [(h0, .inr (3, [.int 1, .int 0, .int 0, .int 0, .null, w0, w0, w0, w0, w0, w0, w0]))] _ _ := h_5
  refine lv_aload_n hx hb dX3_init_29 rfl (lv_at hl 0 rfl) ?_
  refine lv_null hx hb dX3_init_30 ?_
  refine q_put (v := .null) X hK h_5 0 rfl rfl wf_3 tyX3 tyX3_ok nmX3 5 (by decide) wm_1_96 rfl rfl rfl (Nat.le_of_ble_eq_true rfl) dX3_init_31 (fun H locs h_6 => ?_)
  clear h_5
  replace h_6 : qW D _ _ [(h0, .inr (3, [.int 1, .int 0, .int 0, .int 0, .null, .null, w0, w0, w0, w0, w0, w0]))] _ _ := h_6
  refine lv_aload_n hx hb dX3_init_34 rfl (lv_at hl 0 rfl) ?_
  refine lv_null hx hb dX3_init_35 ?_
  refine q_put (v := .null) X hK h_6 0 rfl rfl wf_3 tyX3 tyX3_ok nmX3 6 (by decide) wm_1_99 rfl rfl rfl (Nat.le_of_ble_eq_true rfl) dX3_init_36 (fun H locs h_7 => ?_)
  clear h_6
  replace h_7 : qW D _ _ [(h0, .inr (3, [.int 1, .int 0, .int 0, .int 0, .null, .null, .null, w0, w0, w0, w0, w0]))] _ _ := h_7
  refine lv_aload_n hx hb dX3_init_39 rfl (lv_at hl 0 rfl) ?_
  refine lv_bipush (v := 10) hx hb dX3_init_40 (by decide) ?_
  refine q_newi X hK hA h_7 wm_1_67 10 (by decide) (by decide +kernel) (by decide) (Nat.le_of_ble_eq_true rfl) (Nat.le_of_ble_eq_true rfl) dX3_init_42 (fun q_8 H h_8 => ?_)
  clear h_7
  replace h_8 : qW D _ _ [(h0, .inr (3, [.int 1, .int 0, .int 0, .int 0, .null, .null, .null, w0, w0, w0, w0, w0])), (q_8, .inl (cy 1, 10, .inl (fun _ => 0)))] _ _ := h_8
  refine q_putF (v := .ref q_8) X hK h_8 0 rfl rfl wf_3 tyX3 tyX3_ok nmX3 7 (by decide) wm_1_102 rfl hnm rfl rfl rfl (Nat.le_of_ble_eq_true rfl) dX3_init_44 (fun H locs h_9 => ?_)
  clear h_8
  replace h_9 : qW D _ _ [(h0, .inr (3, [.int 1, .int 0, .int 0, .int 0, .null, .null, .null, .ref q_8, w0, w0, w0, w0])), (q_8, .inl (cy 1, 10, .inl (fun _ => 0)))] _ _ := h_9
  refine lv_aload_n hx hb dX3_init_47 rfl (lv_at hl 0 rfl) ?_
  refine lv_bipush (v := 10) hx hb dX3_init_48 (by decide) ?_
  refine q_newi X hK hA h_9 wm_1_67 10 (by decide) (by decide +kernel) (by decide) (Nat.le_of_ble_eq_true rfl) (Nat.le_of_ble_eq_true rfl) dX3_init_50 (fun q_10 H h_10 => ?_)
  clear h_9
  replace h_10 : qW D _ _ [(h0, .inr (3, [.int 1, .int 0, .int 0, .int 0, .null, .null, .null, .ref q_8, w0, w0, w0, w0])), (q_8, .inl (cy 1, 10, .inl (fun _ => 0))), (q_10, .inl (cy 1, 10, .inl (fun _ => 0)))] _ _ := h_10
  refine q_putF (v := .ref q_10) X hK h_10 0 rfl rfl wf_3 tyX3 tyX3_ok nmX3 8 (by decide) wm_1_105 rfl hnm rfl rfl rfl (Nat.le_of_ble_eq_true rfl) dX3_init_52 (fun H locs h_11 => ?_)
  clear h_10
  replace h_11 : qW D _ _ [(h0, .inr (3, [.int 1, .int 0, .int 0, .int 0, .null, .null, .null, .ref q_8, .ref q_10, w0, w0, w0])), (q_8, .inl (cy 1, 10, .inl (fun _ => 0))), (q_10, .inl (cy 1, 10, .inl (fun _ => 0)))] _ _ := h_11
  refine lv_aload_n hx hb dX3_init_55 rfl (lv_at hl 0 rfl) ?_
  refine lv_bipush (v := 10) hx hb dX3_init_56 (by decide) ?_
  refine q_newi X hK hA h_11 wm_1_67 10 (by decide) (by decide +kernel) (by decide) (Nat.le_of_ble_eq_true rfl) (Nat.le_of_ble_eq_true rfl) dX3_init_58 (fun q_12 H h_12 => ?_)
  clear h_11
  replace h_12 : qW D _ _ [(h0, .inr (3, [.int 1, .int 0, .int 0, .int 0, .null, .null, .null, .ref q_8, .ref q_10, w0, w0, w0])), (q_8, .inl (cy 1, 10, .inl (fun _ => 0))), (q_10, .inl (cy 1, 10, .inl (fun _ => 0))), (q_12, .inl (cy 1, 10, .inl (fun _ => 0)))] _ _ := h_12
  refine q_putF (v := .ref q_12) X hK h_12 0 rfl rfl wf_3 tyX3 tyX3_ok nmX3 9 (by decide) wm_1_109 rfl hnm rfl rfl rfl (Nat.le_of_ble_eq_true rfl) dX3_init_60 (fun H locs h_13 => ?_)
  clear h_12
  replace h_13 : qW D _ _ [(h0, .inr (3, [.int 1, .int 0, .int 0, .int 0, .null, .null, .null, .ref q_8, .ref q_10, .ref q_12, w0, w0])), (q_8, .inl (cy 1, 10, .inl (fun _ => 0))), (q_10, .inl (cy 1, 10, .inl (fun _ => 0))), (q_12, .inl (cy 1, 10, .inl (fun _ => 0)))] _ _ := h_13
  refine lv_aload_n hx hb dX3_init_63 rfl (lv_at hl 0 rfl) ?_
  refine lv_bipush (v := 10) hx hb dX3_init_64 (by decide) ?_
  refine q_newi X hK hA h_13 wm_1_67 10 (by decide) (by decide +kernel) (by decide) (Nat.le_of_ble_eq_true rfl) (Nat.le_of_ble_eq_true rfl) dX3_init_66 (fun q_14 H h_14 => ?_)
  clear h_13
  replace h_14 : qW D _ _ [(h0, .inr (3, [.int 1, .int 0, .int 0, .int 0, .null, .null, .null, .ref q_8, .ref q_10, .ref q_12, w0, w0])), (q_8, .inl (cy 1, 10, .inl (fun _ => 0))), (q_10, .inl (cy 1, 10, .inl (fun _ => 0))), (q_12, .inl (cy 1, 10, .inl (fun _ => 0))), (q_14, .inl (cy 1, 10, .inl (fun _ => 0)))] _ _ := h_14
  refine q_putF (v := .ref q_14) X hK h_14 0 rfl rfl wf_3 tyX3 tyX3_ok nmX3 10 (by decide) wm_1_113 rfl hnm rfl rfl rfl (Nat.le_of_ble_eq_true rfl) dX3_init_68 (fun H locs h_15 => ?_)
  clear h_14
  replace h_15 : qW D _ _ [(h0, .inr (3, [.int 1, .int 0, .int 0, .int 0, .null, .null, .null, .ref q_8, .ref q_10, .ref q_12, .ref q_14, w0])), (q_8, .inl (cy 1, 10, .inl (fun _ => 0))), (q_10, .inl (cy 1, 10, .inl (fun _ => 0))), (q_12, .inl (cy 1, 10, .inl (fun _ => 0))), (q_14, .inl (cy 1, 10, .inl (fun _ => 0)))] _ _ := h_15
  refine lv_aload_n hx hb dX3_init_71 rfl (lv_at hl 0 rfl) ?_
  refine lv_bipush (v := 10) hx hb dX3_init_72 (by decide) ?_
  refine q_newi X hK hA h_15 wm_1_67 10 (by decide) (by decide +kernel) (by decide) (Nat.le_of_ble_eq_true rfl) (Nat.le_of_ble_eq_true rfl) dX3_init_74 (fun q_16 H h_16 => ?_)
  clear h_15
  replace h_16 : qW D _ _ [(h0, .inr (3, [.int 1, .int 0, .int 0, .int 0, .null, .null, .null, .ref q_8, .ref q_10, .ref q_12, .ref q_14, w0])), (q_8, .inl (cy 1, 10, .inl (fun _ => 0))), (q_10, .inl (cy 1, 10, .inl (fun _ => 0))), (q_12, .inl (cy 1, 10, .inl (fun _ => 0))), (q_14, .inl (cy 1, 10, .inl (fun _ => 0))), (q_16, .inl (cy 1, 10, .inl (fun _ => 0)))] _ _ := h_16
  refine q_putF (v := .ref q_16) X hK h_16 0 rfl rfl wf_3 tyX3 tyX3_ok nmX3 11 (by decide) wm_1_116 rfl hnm rfl rfl rfl (Nat.le_of_ble_eq_true rfl) dX3_init_76 (fun H locs h_17 => ?_)
  clear h_16
  replace h_17 : qW D _ _ (wk_060e1226c cy h0 1 0 0 0 q_8 q_10 q_12 q_14 q_16 q_8 (fun _ => 0) q_10 (fun _ => 0) q_12 (fun _ => 0) q_14 (fun _ => 0) q_16 (fun _ => 0)) _ _ := h_17
  exact q_vret X hr hlk hK h_17 ((vcons q_8 (vcons q_10 (vcons q_12 (vcons q_14 (vcons q_16 (fun _ => 0)))))), (vcons (fun _ => 1) (vcons (fun _ => 0) (vcons (fun _ => 0) (vcons (fun _ => 0) (fun _ => (fun _ => 0)))))), fun _ _ => 0) ⟨(⟨by decide +kernel, by decide +kernel⟩ : 1 ≤ (1 : Int32).toInt ∧ (1 : Int32).toInt ≤ 1), (⟨by decide +kernel, by decide +kernel⟩ : 0 ≤ (0 : Int32).toInt ∧ (0 : Int32).toInt ≤ 0), (⟨by decide +kernel, by decide +kernel⟩ : 0 ≤ (0 : Int32).toInt ∧ (0 : Int32).toInt ≤ 0), (⟨by decide +kernel, by decide +kernel⟩ : 0 ≤ (0 : Int32).toInt ∧ (0 : Int32).toInt ≤ 0), trivial⟩ [0, 1, 2, 3, 4, 5] rfl rfl dX3_init_79 (Nat.le_of_ble_eq_true rfl) (Nat.le_of_ble_eq_true rfl)
set_option maxHeartbeats 4000000 in
set_option maxRecDepth 100000 in
theorem gX5_take_b81c5b0 (l : Launch) (D : va_G) (cy : Nat → ClassId) (h0 : Nat) (h1 : Nat) (h2 : Nat) (h3 : Nat) (p0 : Int32) (p1 : Int32) (p2 : Int32) (p3 : Int32) (w0 : Value) (w1 : Value) (p4 : Int32) (p5 : Int32) (w2 : Value) (p6 : Int32) (p7 : Int32) (w3 : Value) (f0 : Nat → Int32) (f1 : Nat → Int32) (hp0 : (-1) ≤ (p0).toInt ∧ (p0).toInt ≤ 900) (hp1 : (-2147483648) ≤ (p1).toInt ∧ (p1).toInt ≤ 2147483647) (hp2 : (-2147483648) ≤ (p2).toInt ∧ (p2).toInt ≤ 2147483647) (hp3 : (-2147483648) ≤ (p3).toInt ∧ (p3).toInt ≤ 2147483647) (hp4 : 0 ≤ (p4).toInt ∧ (p4).toInt ≤ 900) (hp5 : (-2147483648) ≤ (p5).toInt ∧ (p5).toInt ≤ 2147483647) (hp6 : 0 ≤ (p6).toInt ∧ (p6).toInt ≤ 900) (hp7 : 0 ≤ (p7).toInt ∧ (p7).toInt ≤ 901) (hpre0 : KZ f0 (p7 : Int32).toInt) (hpre1 : 0 ≤ (p0 : Int32).toInt ∧ (p0 : Int32).toInt < (p7 : Int32).toInt) (hpre2 : (p2 : Int32).toInt ≠ 0 ∨ (p1 : Int32).toInt = 26 ∨ (p1 : Int32).toInt = 27 ∨ (p0 : Int32).toInt + 1 < (p7 : Int32).toInt) (hpre3 : (p2 : Int32).toInt = 0 ∨ (p1 : Int32).toInt = 27) (hpre4 : (11 : Int32).toInt ≠ 26 ∧ (11 : Int32).toInt ≠ 27) (sz : Nat) : MV l yX5_take cX5_take 2 { frames := 1, cells := 0, slots := 0, locals := 21 } [.ref h0, .int 11] D cy (wk_8964b4ae4 cy h0 h1 p0 p1 p2 p3 w0 w1 p4 p5 h1 w2 p6 p7 h2 h3 w3 h2 f0 h3 f1) sz (fun u => ((-2147483648) ≤ (u.2.1 0 0).toInt ∧ (u.2.1 0 0).toInt ≤ 2147483647) ∧ ((-2147483648) ≤ (u.2.1 1 0).toInt ∧ (u.2.1 1 0).toInt ≤ 2147483647) ∧ ((-2147483648) ≤ (u.2.1 2 0).toInt ∧ (u.2.1 2 0).toInt ≤ 2147483647) ∧ ((-1) ≤ (u.2.1 3 0).toInt ∧ (u.2.1 3 0).toInt ≤ 900) ∧ (0 ≤ ((u.2.1 3 0) : Int32).toInt ∧ ((u.2.1 3 0) : Int32).toInt < (p7 : Int32).toInt) ∧ (((u.2.1 1 0) : Int32).toInt ≠ 0 ∨ ((u.2.1 0 0) : Int32).toInt = 26 ∨ ((u.2.1 0 0) : Int32).toInt = 27 ∨ ((u.2.1 3 0) : Int32).toInt + 1 < (p7 : Int32).toInt) ∧ (((u.2.1 1 0) : Int32).toInt ≠ 0 ∨ ((u.2.1 3 0) : Int32).toInt = (p0 : Int32).toInt + 1) ∧ (((u.2.1 1 0) : Int32).toInt ≠ 0 ∨ (p2 : Int32).toInt = 0) ∧ (((u.2.1 1 0) : Int32).toInt = 0 ∨ ((u.2.1 0 0) : Int32).toInt = 27) ∧ ((p0 : Int32).toInt ≤ ((u.2.1 3 0) : Int32).toInt) ∧ (∀ vv : Nat → Int32, SIM f0 f1 vv (p7 : Int32).toInt (tak 11) (p0 : Int32).toInt (p1 : Int32).toInt (p2 : Int32).toInt (p3 : Int32).toInt ((u.2.1 3 0) : Int32).toInt ((u.2.1 0 0) : Int32).toInt ((u.2.1 1 0) : Int32).toInt ((u.2.1 2 0) : Int32).toInt) ∧ True) (fun u => (wk_8964b4ae4 cy h0 h1 (u.2.1 3 0) (u.2.1 0 0) (u.2.1 1 0) (u.2.1 2 0) w0 w1 p4 p5 h1 w2 p6 p7 h2 h3 w3 h2 f0 h3 f1)) 0 0 := by
  refine q_ent (own := RX5) (by decide) rfl (Nat.le_of_ble_eq_true rfl) (fun p e s m below meth c ls X hr hlk hnm hK hT h hA hl => ?_)
  obtain ⟨hx, hb, hml, hown, ht⟩ := id X
  replace hl : lv_has ls 2 [(0, .ref h0), (1, .int 11)] := hl
  refine lv_aload_n hx hb dX5_take_0 rfl (lv_at hl 0 rfl) ?_
  refine q_get X hK h 0 rfl rfl wf_5 2 (by decide) rfl wm_1_146 dX5_take_1 ?_
  refine lv_iload_n hx hb dX5_take_4 rfl (lv_at hl 1 rfl) ?_
  refine lv_icmp_ne (tgt := 15) hx hb dX5_take_5 (by decide) (fun c_1 => ?_) (fun c_1 => ?_)
  · replace c_1 := i_ne (x := p1) (y := 11) rfl (show (11 : Int32).toInt = 11 by decide) c_1
    refine lv_aload_n hx hb dX5_take_15 rfl (lv_at hl 0 rfl) ?_
    refine lv_iconst (v := 2) hx hb dX5_take_16 (by decide) ?_
    refine q_callVv (rest := []) (wr := [(h2, .inl (cy 1, 901, .inl f0))]) X hK hT hA h (fun sz => gX5_refuse_067fcff l D cy h0 h1 h3 p0 p1 p2 p3 w0 w1 p4 p5 w2 p6 p7 (.ref h2) w3 f1 hp0 (i_rng _) (i_rng _) (i_rng _) hp4 (i_rng _) hp6 hp7 (hpre1) (hpre3) (by have q0 : (2 : Int32).toInt = 2 := (by decide); (first | (clear hpre2 hpre3; omega) | omega)) sz) wm_3_76 wm_3_79 wm_1_2 hd_X5_refuse wm_3_78 wp_1_10 (ci := 5) (q0 := 0) rfl rfl ⟨Nat.le_of_ble_eq_true rfl, Nat.le_of_ble_eq_true rfl⟩ hl.1 rfl (Nat.le_of_ble_eq_true rfl) dX5_take_17 ⟨Nat.le_of_ble_eq_true rfl, Nat.le_of_ble_eq_true rfl⟩ [0, 1, 3] [2] rfl rfl (by decide) rfl rfl (fun u_2 H locs w_2 h_2 => ?_)
    clear h
    obtain ⟨w2_0, w2_1, w2_2, y2_0, y2_1, y2_2, _⟩ := w_2
    have lq_2_1 : (2 : Int32).toInt = 2 := (by decide)
    replace h_2 : qW D _ _ (wk_565e7035b cy h2 f0 h0 h1 p0 (u_2.2.1 0 0) (u_2.2.1 1 0) (u_2.2.1 2 0) w0 w1 p4 p5 h1 w2 p6 p7 h2 h3 w3 h3 f1) _ _ := h_2
    exact q_vret X hr hlk hK h_2 (fun _ => 0, (vcons (fun _ => (u_2.2.1 0 0)) (vcons (fun _ => (u_2.2.1 1 0)) (vcons (fun _ => (u_2.2.1 2 0)) (vcons (fun _ => p0) (fun _ => (fun _ => 0)))))), fun _ _ => 0) ⟨w2_0, w2_1, w2_2, hp0, hpre1, (show ((u_2.2.1 1 0) : Int32).toInt ≠ 0 ∨ ((u_2.2.1 0 0) : Int32).toInt = 26 ∨ ((u_2.2.1 0 0) : Int32).toInt = 27 ∨ (p0 : Int32).toInt + 1 < (p7 : Int32).toInt from by (first | (clear hpre2 hpre3 y2_1; omega) | omega)), (show ((u_2.2.1 1 0) : Int32).toInt ≠ 0 ∨ (p0 : Int32).toInt = (p0 : Int32).toInt + 1 from by (first | (clear hpre2 hpre3 y2_1; omega) | omega)), (show ((u_2.2.1 1 0) : Int32).toInt ≠ 0 ∨ (p2 : Int32).toInt = 0 from by (first | (clear hpre2 hpre3 y2_1; omega) | omega)), y2_1, (show (p0 : Int32).toInt ≤ (p0 : Int32).toInt from (Int.le_refl _)), (show ∀ vv : Nat → Int32, SIM f0 f1 vv (p7 : Int32).toInt (tak 11) (p0 : Int32).toInt (p1 : Int32).toInt (p2 : Int32).toInt (p3 : Int32).toInt (p0 : Int32).toInt ((u_2.2.1 0 0) : Int32).toInt ((u_2.2.1 1 0) : Int32).toInt ((u_2.2.1 2 0) : Int32).toInt from fun _ => sim_tk2 (by (first | assumption | (clear hpre2 hpre3 y2_1; omega) | omega)) (y2_2 _ _)), trivial⟩ [1, 2, 0, 3] rfl rfl dX5_take_20 (Nat.le_of_ble_eq_true rfl) (Nat.le_of_ble_eq_true rfl)
  · replace c_1 := i_eq (x := p1) (y := 11) rfl (show (11 : Int32).toInt = 11 by decide) c_1
    refine lv_aload_n hx hb dX5_take_8 rfl (lv_at hl 0 rfl) ?_
    refine q_callVv (rest := []) (wr := []) X hK hT hA h (fun sz => gX5_advance_9820dfe l D cy h0 h1 h2 h3 p0 p1 p2 p3 w0 w1 p4 p5 w2 p6 p7 w3 f0 f1 hp0 (i_rng _) (i_rng _) (i_rng _) hp4 (i_rng _) hp6 hp7 (hpre0) (hpre3) (by (first | (clear hpre2 hpre3; omega) | omega)) sz) wm_3_68 wm_3_71 wm_1_2 hd_X5_advance wm_3_70 wp_1_8 (ci := 5) (q0 := 0) rfl rfl ⟨Nat.le_of_ble_eq_true rfl, Nat.le_of_ble_eq_true rfl⟩ hl.1 rfl (Nat.le_of_ble_eq_true rfl) dX5_take_9 ⟨Nat.le_of_ble_eq_true rfl, Nat.le_of_ble_eq_true rfl⟩ [0, 1, 2, 3] [] rfl rfl (by decide) rfl rfl (fun u_3 H locs w_3 h_3 => ?_)
    clear h
    obtain ⟨w3_0, w3_1, w3_2, w3_3, y3_0, y3_1, y3_2, y3_3, y3_4, y3_5, y3_6, _⟩ := w_3
    replace h_3 : qW D _ _ (wk_8964b4ae4 cy h0 h1 (u_3.2.1 0 0) (u_3.2.1 1 0) (u_3.2.1 2 0) (u_3.2.1 3 0) w0 w1 p4 p5 h1 w2 p6 p7 h2 h3 w3 h2 f0 h3 f1) _ _ := h_3
    refine lv_goto (tgt := 20) hx hb dX5_take_12 (by decide) ?_
    exact q_vret X hr hlk hK h_3 (fun _ => 0, (vcons (fun _ => (u_3.2.1 1 0)) (vcons (fun _ => (u_3.2.1 2 0)) (vcons (fun _ => (u_3.2.1 3 0)) (vcons (fun _ => (u_3.2.1 0 0)) (fun _ => (fun _ => 0)))))), fun _ _ => 0) ⟨w3_1, w3_2, w3_3, w3_0, y3_0, (show ((u_3.2.1 2 0) : Int32).toInt ≠ 0 ∨ ((u_3.2.1 1 0) : Int32).toInt = 26 ∨ ((u_3.2.1 1 0) : Int32).toInt = 27 ∨ ((u_3.2.1 0 0) : Int32).toInt + 1 < (p7 : Int32).toInt from by (first | (clear hpre2 hpre3 y3_1 y3_2 y3_4 y3_5; omega) | omega)), (show ((u_3.2.1 2 0) : Int32).toInt ≠ 0 ∨ ((u_3.2.1 0 0) : Int32).toInt = (p0 : Int32).toInt + 1 from by (first | (clear hpre2 hpre3 y3_1 y3_2 y3_4 y3_5; omega) | omega)), y3_2, y3_5, y3_3, (show ∀ vv : Nat → Int32, SIM f0 f1 vv (p7 : Int32).toInt (tak 11) (p0 : Int32).toInt (p1 : Int32).toInt (p2 : Int32).toInt (p3 : Int32).toInt ((u_3.2.1 0 0) : Int32).toInt ((u_3.2.1 1 0) : Int32).toInt ((u_3.2.1 2 0) : Int32).toInt ((u_3.2.1 3 0) : Int32).toInt from fun _ => sim_tk1 (by (first | assumption | (clear hpre2 hpre3 y3_1 y3_2 y3_4 y3_5; omega) | omega)) (by (first | assumption | (clear hpre2 hpre3 y3_1 y3_2 y3_4 y3_5; omega) | omega)) y3_6 (by (first | assumption | (clear hpre2 hpre3 y3_1 y3_2 y3_4 y3_5; omega) | omega))), trivial⟩ [0, 1, 2, 3] rfl rfl dX5_take_20 (Nat.le_of_ble_eq_true rfl) (Nat.le_of_ble_eq_true rfl)
set_option maxHeartbeats 4000000 in
set_option maxRecDepth 100000 in
theorem gX5_take_b74706d (l : Launch) (D : va_G) (cy : Nat → ClassId) (h0 : Nat) (h1 : Nat) (h2 : Nat) (h3 : Nat) (p0 : Int32) (p1 : Int32) (p2 : Int32) (p3 : Int32) (w0 : Value) (w1 : Value) (p4 : Int32) (p5 : Int32) (w2 : Value) (p6 : Int32) (p7 : Int32) (w3 : Value) (f0 : Nat → Int32) (f1 : Nat → Int32) (hp0 : (-1) ≤ (p0).toInt ∧ (p0).toInt ≤ 900) (hp1 : (-2147483648) ≤ (p1).toInt ∧ (p1).toInt ≤ 2147483647) (hp2 : (-2147483648) ≤ (p2).toInt ∧ (p2).toInt ≤ 2147483647) (hp3 : (-2147483648) ≤ (p3).toInt ∧ (p3).toInt ≤ 2147483647) (hp4 : 0 ≤ (p4).toInt ∧ (p4).toInt ≤ 900) (hp5 : (-2147483648) ≤ (p5).toInt ∧ (p5).toInt ≤ 2147483647) (hp6 : 0 ≤ (p6).toInt ∧ (p6).toInt ≤ 900) (hp7 : 0 ≤ (p7).toInt ∧ (p7).toInt ≤ 901) (hpre0 : KZ f0 (p7 : Int32).toInt) (hpre1 : 0 ≤ (p0 : Int32).toInt ∧ (p0 : Int32).toInt < (p7 : Int32).toInt) (hpre2 : (p2 : Int32).toInt ≠ 0 ∨ (p1 : Int32).toInt = 26 ∨ (p1 : Int32).toInt = 27 ∨ (p0 : Int32).toInt + 1 < (p7 : Int32).toInt) (hpre3 : (p2 : Int32).toInt = 0 ∨ (p1 : Int32).toInt = 27) (hpre4 : (12 : Int32).toInt ≠ 26 ∧ (12 : Int32).toInt ≠ 27) (sz : Nat) : MV l yX5_take cX5_take 2 { frames := 1, cells := 0, slots := 0, locals := 21 } [.ref h0, .int 12] D cy (wk_8964b4ae4 cy h0 h1 p0 p1 p2 p3 w0 w1 p4 p5 h1 w2 p6 p7 h2 h3 w3 h2 f0 h3 f1) sz (fun u => ((-2147483648) ≤ (u.2.1 0 0).toInt ∧ (u.2.1 0 0).toInt ≤ 2147483647) ∧ ((-2147483648) ≤ (u.2.1 1 0).toInt ∧ (u.2.1 1 0).toInt ≤ 2147483647) ∧ ((-2147483648) ≤ (u.2.1 2 0).toInt ∧ (u.2.1 2 0).toInt ≤ 2147483647) ∧ ((-1) ≤ (u.2.1 3 0).toInt ∧ (u.2.1 3 0).toInt ≤ 900) ∧ (0 ≤ ((u.2.1 3 0) : Int32).toInt ∧ ((u.2.1 3 0) : Int32).toInt < (p7 : Int32).toInt) ∧ (((u.2.1 1 0) : Int32).toInt ≠ 0 ∨ ((u.2.1 0 0) : Int32).toInt = 26 ∨ ((u.2.1 0 0) : Int32).toInt = 27 ∨ ((u.2.1 3 0) : Int32).toInt + 1 < (p7 : Int32).toInt) ∧ (((u.2.1 1 0) : Int32).toInt ≠ 0 ∨ ((u.2.1 3 0) : Int32).toInt = (p0 : Int32).toInt + 1) ∧ (((u.2.1 1 0) : Int32).toInt ≠ 0 ∨ (p2 : Int32).toInt = 0) ∧ (((u.2.1 1 0) : Int32).toInt = 0 ∨ ((u.2.1 0 0) : Int32).toInt = 27) ∧ ((p0 : Int32).toInt ≤ ((u.2.1 3 0) : Int32).toInt) ∧ (∀ vv : Nat → Int32, SIM f0 f1 vv (p7 : Int32).toInt (tak 12) (p0 : Int32).toInt (p1 : Int32).toInt (p2 : Int32).toInt (p3 : Int32).toInt ((u.2.1 3 0) : Int32).toInt ((u.2.1 0 0) : Int32).toInt ((u.2.1 1 0) : Int32).toInt ((u.2.1 2 0) : Int32).toInt) ∧ True) (fun u => (wk_8964b4ae4 cy h0 h1 (u.2.1 3 0) (u.2.1 0 0) (u.2.1 1 0) (u.2.1 2 0) w0 w1 p4 p5 h1 w2 p6 p7 h2 h3 w3 h2 f0 h3 f1)) 0 0 := by
  refine q_ent (own := RX5) (by decide) rfl (Nat.le_of_ble_eq_true rfl) (fun p e s m below meth c ls X hr hlk hnm hK hT h hA hl => ?_)
  obtain ⟨hx, hb, hml, hown, ht⟩ := id X
  replace hl : lv_has ls 2 [(0, .ref h0), (1, .int 12)] := hl
  refine lv_aload_n hx hb dX5_take_0 rfl (lv_at hl 0 rfl) ?_
  refine q_get X hK h 0 rfl rfl wf_5 2 (by decide) rfl wm_1_146 dX5_take_1 ?_
  refine lv_iload_n hx hb dX5_take_4 rfl (lv_at hl 1 rfl) ?_
  refine lv_icmp_ne (tgt := 15) hx hb dX5_take_5 (by decide) (fun c_1 => ?_) (fun c_1 => ?_)
  · replace c_1 := i_ne (x := p1) (y := 12) rfl (show (12 : Int32).toInt = 12 by decide) c_1
    refine lv_aload_n hx hb dX5_take_15 rfl (lv_at hl 0 rfl) ?_
    refine lv_iconst (v := 2) hx hb dX5_take_16 (by decide) ?_
    refine q_callVv (rest := []) (wr := [(h2, .inl (cy 1, 901, .inl f0))]) X hK hT hA h (fun sz => gX5_refuse_067fcff l D cy h0 h1 h3 p0 p1 p2 p3 w0 w1 p4 p5 w2 p6 p7 (.ref h2) w3 f1 hp0 (i_rng _) (i_rng _) (i_rng _) hp4 (i_rng _) hp6 hp7 (hpre1) (hpre3) (by have q0 : (2 : Int32).toInt = 2 := (by decide); (first | (clear hpre2 hpre3; omega) | omega)) sz) wm_3_76 wm_3_79 wm_1_2 hd_X5_refuse wm_3_78 wp_1_10 (ci := 5) (q0 := 0) rfl rfl ⟨Nat.le_of_ble_eq_true rfl, Nat.le_of_ble_eq_true rfl⟩ hl.1 rfl (Nat.le_of_ble_eq_true rfl) dX5_take_17 ⟨Nat.le_of_ble_eq_true rfl, Nat.le_of_ble_eq_true rfl⟩ [0, 1, 3] [2] rfl rfl (by decide) rfl rfl (fun u_2 H locs w_2 h_2 => ?_)
    clear h
    obtain ⟨w2_0, w2_1, w2_2, y2_0, y2_1, y2_2, _⟩ := w_2
    have lq_2_1 : (2 : Int32).toInt = 2 := (by decide)
    replace h_2 : qW D _ _ (wk_565e7035b cy h2 f0 h0 h1 p0 (u_2.2.1 0 0) (u_2.2.1 1 0) (u_2.2.1 2 0) w0 w1 p4 p5 h1 w2 p6 p7 h2 h3 w3 h3 f1) _ _ := h_2
    exact q_vret X hr hlk hK h_2 (fun _ => 0, (vcons (fun _ => (u_2.2.1 0 0)) (vcons (fun _ => (u_2.2.1 1 0)) (vcons (fun _ => (u_2.2.1 2 0)) (vcons (fun _ => p0) (fun _ => (fun _ => 0)))))), fun _ _ => 0) ⟨w2_0, w2_1, w2_2, hp0, hpre1, (show ((u_2.2.1 1 0) : Int32).toInt ≠ 0 ∨ ((u_2.2.1 0 0) : Int32).toInt = 26 ∨ ((u_2.2.1 0 0) : Int32).toInt = 27 ∨ (p0 : Int32).toInt + 1 < (p7 : Int32).toInt from by (first | (clear hpre2 hpre3 y2_1; omega) | omega)), (show ((u_2.2.1 1 0) : Int32).toInt ≠ 0 ∨ (p0 : Int32).toInt = (p0 : Int32).toInt + 1 from by (first | (clear hpre2 hpre3 y2_1; omega) | omega)), (show ((u_2.2.1 1 0) : Int32).toInt ≠ 0 ∨ (p2 : Int32).toInt = 0 from by (first | (clear hpre2 hpre3 y2_1; omega) | omega)), y2_1, (show (p0 : Int32).toInt ≤ (p0 : Int32).toInt from (Int.le_refl _)), (show ∀ vv : Nat → Int32, SIM f0 f1 vv (p7 : Int32).toInt (tak 12) (p0 : Int32).toInt (p1 : Int32).toInt (p2 : Int32).toInt (p3 : Int32).toInt (p0 : Int32).toInt ((u_2.2.1 0 0) : Int32).toInt ((u_2.2.1 1 0) : Int32).toInt ((u_2.2.1 2 0) : Int32).toInt from fun _ => sim_tk2 (by (first | assumption | (clear hpre2 hpre3 y2_1; omega) | omega)) (y2_2 _ _)), trivial⟩ [1, 2, 0, 3] rfl rfl dX5_take_20 (Nat.le_of_ble_eq_true rfl) (Nat.le_of_ble_eq_true rfl)
  · replace c_1 := i_eq (x := p1) (y := 12) rfl (show (12 : Int32).toInt = 12 by decide) c_1
    refine lv_aload_n hx hb dX5_take_8 rfl (lv_at hl 0 rfl) ?_
    refine q_callVv (rest := []) (wr := []) X hK hT hA h (fun sz => gX5_advance_9820dfe l D cy h0 h1 h2 h3 p0 p1 p2 p3 w0 w1 p4 p5 w2 p6 p7 w3 f0 f1 hp0 (i_rng _) (i_rng _) (i_rng _) hp4 (i_rng _) hp6 hp7 (hpre0) (hpre3) (by (first | (clear hpre2 hpre3; omega) | omega)) sz) wm_3_68 wm_3_71 wm_1_2 hd_X5_advance wm_3_70 wp_1_8 (ci := 5) (q0 := 0) rfl rfl ⟨Nat.le_of_ble_eq_true rfl, Nat.le_of_ble_eq_true rfl⟩ hl.1 rfl (Nat.le_of_ble_eq_true rfl) dX5_take_9 ⟨Nat.le_of_ble_eq_true rfl, Nat.le_of_ble_eq_true rfl⟩ [0, 1, 2, 3] [] rfl rfl (by decide) rfl rfl (fun u_3 H locs w_3 h_3 => ?_)
    clear h
    obtain ⟨w3_0, w3_1, w3_2, w3_3, y3_0, y3_1, y3_2, y3_3, y3_4, y3_5, y3_6, _⟩ := w_3
    replace h_3 : qW D _ _ (wk_8964b4ae4 cy h0 h1 (u_3.2.1 0 0) (u_3.2.1 1 0) (u_3.2.1 2 0) (u_3.2.1 3 0) w0 w1 p4 p5 h1 w2 p6 p7 h2 h3 w3 h2 f0 h3 f1) _ _ := h_3
    refine lv_goto (tgt := 20) hx hb dX5_take_12 (by decide) ?_
    exact q_vret X hr hlk hK h_3 (fun _ => 0, (vcons (fun _ => (u_3.2.1 1 0)) (vcons (fun _ => (u_3.2.1 2 0)) (vcons (fun _ => (u_3.2.1 3 0)) (vcons (fun _ => (u_3.2.1 0 0)) (fun _ => (fun _ => 0)))))), fun _ _ => 0) ⟨w3_1, w3_2, w3_3, w3_0, y3_0, (show ((u_3.2.1 2 0) : Int32).toInt ≠ 0 ∨ ((u_3.2.1 1 0) : Int32).toInt = 26 ∨ ((u_3.2.1 1 0) : Int32).toInt = 27 ∨ ((u_3.2.1 0 0) : Int32).toInt + 1 < (p7 : Int32).toInt from by (first | (clear hpre2 hpre3 y3_1 y3_2 y3_4 y3_5; omega) | omega)), (show ((u_3.2.1 2 0) : Int32).toInt ≠ 0 ∨ ((u_3.2.1 0 0) : Int32).toInt = (p0 : Int32).toInt + 1 from by (first | (clear hpre2 hpre3 y3_1 y3_2 y3_4 y3_5; omega) | omega)), y3_2, y3_5, y3_3, (show ∀ vv : Nat → Int32, SIM f0 f1 vv (p7 : Int32).toInt (tak 12) (p0 : Int32).toInt (p1 : Int32).toInt (p2 : Int32).toInt (p3 : Int32).toInt ((u_3.2.1 0 0) : Int32).toInt ((u_3.2.1 1 0) : Int32).toInt ((u_3.2.1 2 0) : Int32).toInt ((u_3.2.1 3 0) : Int32).toInt from fun _ => sim_tk1 (by (first | assumption | (clear hpre2 hpre3 y3_1 y3_2 y3_4 y3_5; omega) | omega)) (by (first | assumption | (clear hpre2 hpre3 y3_1 y3_2 y3_4 y3_5; omega) | omega)) y3_6 (by (first | assumption | (clear hpre2 hpre3 y3_1 y3_2 y3_4 y3_5; omega) | omega))), trivial⟩ [0, 1, 2, 3] rfl rfl dX5_take_20 (Nat.le_of_ble_eq_true rfl) (Nat.le_of_ble_eq_true rfl)
set_option maxHeartbeats 4000000 in
set_option maxRecDepth 100000 in
theorem gX5_read_b67bca9 (l : Launch) (D : va_G) (cy : Nat → ClassId) (h0 : Nat) (h1 : Nat) (h2 : Nat) (h3 : Nat) (h4 : Nat) (h5 : Nat) (h6 : Nat) (p0 : Int32) (p1 : Int32) (p2 : Int32) (p3 : Int32) (p4 : Int32) (o0 : Option Nat) (p5 : Int32) (p6 : Int32) (o1 : Option Nat) (p7 : Int32) (p8 : Int32) (f0 : Nat → Int32) (f1 : Nat → Int32) (f2 : Nat → Int32) (f3 : Nat → Int32) (f4 : Nat → Int32) (hp0 : 0 ≤ (p0).toInt ∧ (p0).toInt ≤ 900) (hp1 : (-1) ≤ (p1).toInt ∧ (p1).toInt ≤ 900) (hp2 : (-2147483648) ≤ (p2).toInt ∧ (p2).toInt ≤ 2147483647) (hp3 : (-2147483648) ≤ (p3).toInt ∧ (p3).toInt ≤ 2147483647) (hp4 : (-2147483648) ≤ (p4).toInt ∧ (p4).toInt ≤ 2147483647) (hp5 : 0 ≤ (p5).toInt ∧ (p5).toInt ≤ 900) (hp6 : (-2147483648) ≤ (p6).toInt ∧ (p6).toInt ≤ 2147483647) (hp7 : 0 ≤ (p7).toInt ∧ (p7).toInt ≤ 900) (hp8 : 0 ≤ (p8).toInt ∧ (p8).toInt ≤ 901) (rf4 : TB f4) (sz : Nat) : MQw l yX5_read cX5_read 4 "OppositeHouse$House" { frames := 28, cells := ((p0).toInt.toNat + 20), slots := (451 * (p0).toInt.toNat + 2000), locals := 697 } [.ref h0, .ref h6, .int p0] D cy (wk_f120e8fa4 cy h0 h1 p1 p2 p3 p4 o0 h5 p5 p6 h1 o1 p7 p8 h2 h3 h4 h2 f0 h3 f1 h4 f2 h5 f3 h6 f4) sz (fun r u => r = some (u.1.1 0) ∧ (0 ≤ (u.1.2.1 2 0).toInt ∧ (u.1.2.1 2 0).toInt ≤ 900) ∧ ((-2147483648) ≤ (u.1.2.1 3 0).toInt ∧ (u.1.2.1 3 0).toInt ≤ 2147483647) ∧ ((-2147483648) ≤ (u.1.2.1 4 0).toInt ∧ (u.1.2.1 4 0).toInt ≤ 2147483647) ∧ ((-2147483648) ≤ (u.1.2.1 5 0).toInt ∧ (u.1.2.1 5 0).toInt ≤ 2147483647) ∧ (0 ≤ (u.1.2.1 6 0).toInt ∧ (u.1.2.1 6 0).toInt ≤ 900) ∧ ((-2147483648) ≤ (u.1.2.1 7 0).toInt ∧ (u.1.2.1 7 0).toInt ≤ 2147483647) ∧ (0 ≤ (u.1.2.1 8 0).toInt ∧ (u.1.2.1 8 0).toInt ≤ 900) ∧ (0 ≤ (u.1.2.1 9 0).toInt ∧ (u.1.2.1 9 0).toInt ≤ 901) ∧ (1 ≤ (u.1.2.1 12 0).toInt ∧ (u.1.2.1 12 0).toInt ≤ 3) ∧ (0 ≤ (u.1.2.1 13 0).toInt ∧ (u.1.2.1 13 0).toInt ≤ 10) ∧ (0 ≤ (u.1.2.1 14 0).toInt ∧ (u.1.2.1 14 0).toInt ≤ 902) ∧ ((-2147483648) ≤ (u.1.2.1 15 0).toInt ∧ (u.1.2.1 15 0).toInt ≤ 2147483647) ∧ RG (u.1.2.1 16) 10 0 999 ∧ (LI cy u.2.1 (va_rf (u.2.2 0)) (va_rf (u.2.2 1)) (va_rf (u.2.2 2))) ∧ (PFR (bB f4) ((p0 : Int32).toInt).toNat ((u.1.2.1 4 0) : Int32).toInt ((u.1.2.1 5 0) : Int32).toInt ((u.1.2.1 14 0) : Int32).toInt) ∧ True) (fun u => [(h0, .inr (5, [.ref h1, .int (u.1.2.1 2 0), .int (u.1.2.1 3 0), .int (u.1.2.1 4 0), .int (u.1.2.1 5 0), .ref (u.1.1 0), .ref h5, .int (u.1.2.1 6 0), .int (u.1.2.1 7 0)])), (h1, .inr (8, [.ref h6, .int (u.1.2.1 8 0), .int (u.1.2.1 9 0), .ref h2, .ref h3, .ref h4])), (h2, .inl (cy 1, 901, .inl (u.1.2.1 10))), (h3, .inl (cy 1, 901, .inl (u.1.2.1 11))), (h4, .inl (cy 1, 901, .inl (u.1.2.1 1))), (h5, .inl (cy 1, 900, .inl (u.1.2.1 0))), (h6, .inl (cy 0, 900, .inl f4)), ((u.1.1 0), .inr (3, [.int (u.1.2.1 12 0), .int (u.1.2.1 13 0), .int (u.1.2.1 14 0), .int (u.1.2.1 15 0), (va_rf (u.2.2 0)), (va_rf (u.2.2 1)), (va_rf (u.2.2 2)), .ref (u.1.1 1), .ref (u.1.1 2), .ref (u.1.1 3), .ref (u.1.1 4), .ref (u.1.1 5)])), ((u.1.1 1), .inl (cy 1, 10, .inl (u.1.2.1 16))), ((u.1.1 2), .inl (cy 1, 10, .inl (u.1.2.1 17))), ((u.1.1 3), .inl (cy 1, 10, .inl (u.1.2.1 18))), ((u.1.1 4), .inl (cy 1, 10, .inl (u.1.2.1 19))), ((u.1.1 5), .inl (cy 1, 10, .inl (u.1.2.1 20)))]) ((p0).toInt.toNat + 20) (451 * (p0).toInt.toNat + 2000) := by
  refine q_ent (own := RX5) (by decide) rfl (Nat.le_of_ble_eq_true rfl) (fun p e s m below meth c ls X hr hlk hnm hK hT h hA hl => ?_)
  obtain ⟨hx, hb, hml, hown, ht⟩ := id X
  replace h : qW D _ _ ((wk_f120e8fa4 cy h0 h1 p1 p2 p3 p4 o0 h5 p5 p6 h1 o1 p7 p8 h2 h3 h4 h2 f0 h3 f1 h4 f2 h5 f3 h6 f4) ++ []) _ _ := h
  replace hl : lv_has ls 4 [(0, .ref h0), (1, .ref h6), (2, .int p0)] := hl
  refine lv_aload_n hx hb dX5_read_0 rfl (lv_at hl 0 rfl) ?_
  refine q_get X hK h 0 rfl rfl wf_5 0 (by decide) rfl wm_1_144 dX5_read_1 ?_
  refine lv_aload_n hx hb dX5_read_4 rfl (lv_at hl 1 rfl) ?_
  refine lv_iload_n hx hb dX5_read_5 rfl (lv_at hl 2 rfl) ?_
  refine q_callVvT (rest := []) (wr := [(h0, .inr (5, [.ref h1, .int p1, .int p2, .int p3, .int p4, (va_rf o0), .ref h5, .int p5, .int p6])), (h5, .inl (cy 1, 900, .inl f3))]) X hK hT hA h (fun sz => gX8_cut_7ab6d9e l D cy h1 h2 h3 h4 h6 p0 o1 p7 p8 f0 f1 f2 f4 hp0 hp7 hp8 rf4 sz) wm_2_166 wm_2_169 wm_1_3 hd_X8_cut wm_2_167 wm_2_168 (ci := 8) (q0 := 0) rfl rfl ⟨Nat.le_of_ble_eq_true rfl, Nat.le_of_ble_eq_true rfl⟩ hl.1 rfl (Nat.le_of_ble_eq_true rfl) dX5_read_6 ⟨Nat.le_of_ble_eq_true rfl, Nat.le_of_ble_eq_true rfl⟩ [1, 2, 3, 4, 6] [0, 5] rfl rfl (by decide) rfl rfl (fun u_1 H locs w_1 h_1 => ?_)
  clear h
  obtain ⟨w1_0, w1_1, y1_0, y1_1, y1_2, y1_3, y1_4, _⟩ := w_1
  replace h_1 : qW D _ _ ((wk_b3fee32c6 cy h0 h1 p1 p2 p3 p4 o0 h5 p5 p6 h5 f3 h1 h6 (u_1.2.1 0 0) (u_1.2.1 1 0) h2 h3 h4 h2 (u_1.2.1 2) h3 (u_1.2.1 3) h4 (u_1.2.1 4) h6 f4) ++ []) _ _ := h_1
  refine lv_aload_n hx hb dX5_read_9 rfl (lv_at hl 0 rfl) ?_
  refine lv_iconst (v := (-1)) hx hb dX5_read_10 (by decide) ?_
  refine q_put (v := .int (-1)) X hK h_1 0 rfl rfl wf_5 tyX5 tyX5_ok nmX5 1 (by decide) wm_1_145 rfl rfl rfl (Nat.le_of_ble_eq_true rfl) dX5_read_11 (fun H locs h_2 => ?_)
  clear h_1
  replace h_2 : qW D _ _ ((wk_b3fee32c6 cy h0 h1 (-1) p2 p3 p4 o0 h5 p5 p6 h5 f3 h1 h6 (u_1.2.1 0 0) (u_1.2.1 1 0) h2 h3 h4 h2 (u_1.2.1 2) h3 (u_1.2.1 3) h4 (u_1.2.1 4) h6 f4) ++ []) _ _ := h_2
  refine lv_aload_n hx hb dX5_read_14 rfl (lv_at hl 0 rfl) ?_
  refine lv_iconst (v := 0) hx hb dX5_read_15 (by decide) ?_
  refine q_put (v := .int 0) X hK h_2 0 rfl rfl wf_5 tyX5 tyX5_ok nmX5 3 (by decide) wm_1_147 rfl rfl rfl (Nat.le_of_ble_eq_true rfl) dX5_read_16 (fun H locs h_3 => ?_)
  clear h_2
  replace h_3 : qW D _ _ ((wk_b3fee32c6 cy h0 h1 (-1) p2 0 p4 o0 h5 p5 p6 h5 f3 h1 h6 (u_1.2.1 0 0) (u_1.2.1 1 0) h2 h3 h4 h2 (u_1.2.1 2) h3 (u_1.2.1 3) h4 (u_1.2.1 4) h6 f4) ++ []) _ _ := h_3
  refine lv_aload_n hx hb dX5_read_19 rfl (lv_at hl 0 rfl) ?_
  refine lv_iconst (v := (-1)) hx hb dX5_read_20 (by decide) ?_
  refine q_put (v := .int (-1)) X hK h_3 0 rfl rfl wf_5 tyX5 tyX5_ok nmX5 4 (by decide) wm_1_149 rfl rfl rfl (Nat.le_of_ble_eq_true rfl) dX5_read_21 (fun H locs h_4 => ?_)
  clear h_3
  replace h_4 : qW D _ _ ((wk_b3fee32c6 cy h0 h1 (-1) p2 0 (-1) o0 h5 p5 p6 h5 f3 h1 h6 (u_1.2.1 0 0) (u_1.2.1 1 0) h2 h3 h4 h2 (u_1.2.1 2) h3 (u_1.2.1 3) h4 (u_1.2.1 4) h6 f4) ++ []) _ _ := h_4
  refine lv_aload_n hx hb dX5_read_24 rfl (lv_at hl 0 rfl) ?_
  refine q_new (fs := [.int 0, .int 0, .int 0, .int 0, .null, .null, .null, .null, .null, .null, .null, .null]) (ci := 3) X hK hA h_4 rfl wf_3 tyX3 tyX3_ok wm_1_68 wm_1_69 wm_1_4 df_3 (Nat.le_of_ble_eq_true rfl) (Nat.le_of_ble_eq_true rfl) dX5_read_25 (fun q_5 H h_5 => ?_)
  clear h_4
  replace h_5 : qW D _ _ ([(h0, .inr (5, [.ref h1, .int (-1), .int p2, .int 0, .int (-1), (va_rf o0), .ref h5, .int p5, .int p6])), (h5, .inl (cy 1, 900, .inl f3)), (h1, .inr (8, [.ref h6, .int (u_1.2.1 0 0), .int (u_1.2.1 1 0), .ref h2, .ref h3, .ref h4])), (h2, .inl (cy 1, 901, .inl (u_1.2.1 2))), (h3, .inl (cy 1, 901, .inl (u_1.2.1 3))), (h4, .inl (cy 1, 901, .inl (u_1.2.1 4))), (h6, .inl (cy 0, 900, .inl f4)), (q_5, .inr (3, [.int 0, .int 0, .int 0, .int 0, .null, .null, .null, .null, .null, .null, .null, .null]))] ++ []) _ _ := h_5
  refine lv_dup hx hb dX5_read_28 rfl ?_
  refine q_callNv (rest := [.ref q_5, .ref h0]) (wr := (wk_b3fee32c6 cy h0 h1 (-1) p2 0 (-1) o0 h5 p5 p6 h5 f3 h1 h6 (u_1.2.1 0 0) (u_1.2.1 1 0) h2 h3 h4 h2 (u_1.2.1 2) h3 (u_1.2.1 3) h4 (u_1.2.1 4) h6 f4)) X hK hT hA h_5 (fun sz => gX3_init_51a17bc l D cy q_5 (0 : Int32) (0 : Int32) (0 : Int32) (0 : Int32) Value.null ⟨by decide +kernel, by decide +kernel⟩ ⟨by decide +kernel, by decide +kernel⟩ ⟨by decide +kernel, by decide +kernel⟩ ⟨by decide +kernel, by decide +kernel⟩ sz) (List.mem_of_getElem? (i := 8) rfl) wm_1_72 wm_1_4 hd_X3_init wm_1_71 rfl ⟨Nat.le_of_ble_eq_true rfl, Nat.le_of_ble_eq_true rfl⟩ hl.1 rfl (Nat.le_of_ble_eq_true rfl) dX5_read_29 ⟨Nat.le_of_ble_eq_true rfl, Nat.le_of_ble_eq_true rfl⟩ [7] [0, 1, 2, 3, 4, 5, 6] rfl rfl (by decide) rfl rfl (fun u_6 H locs w_6 h_6 => ?_)
  clear h_5
  obtain ⟨w6_0, w6_1, w6_2, w6_3, _⟩ := w_6
  replace h_6 : qW D _ _ ([(h0, .inr (5, [.ref h1, .int (-1), .int p2, .int 0, .int (-1), (va_rf o0), .ref h5, .int p5, .int p6])), (h5, .inl (cy 1, 900, .inl f3)), (h1, .inr (8, [.ref h6, .int (u_1.2.1 0 0), .int (u_1.2.1 1 0), .ref h2, .ref h3, .ref h4])), (h2, .inl (cy 1, 901, .inl (u_1.2.1 2))), (h3, .inl (cy 1, 901, .inl (u_1.2.1 3))), (h4, .inl (cy 1, 901, .inl (u_1.2.1 4))), (h6, .inl (cy 0, 900, .inl f4)), (q_5, .inr (3, [.int (u_6.2.1 0 0), .int (u_6.2.1 1 0), .int (u_6.2.1 2 0), .int (u_6.2.1 3 0), .null, .null, .null, .ref (u_6.1 0), .ref (u_6.1 1), .ref (u_6.1 2), .ref (u_6.1 3), .ref (u_6.1 4)])), ((u_6.1 0), .inl (cy 1, 10, .inl (fun _ => 0))), ((u_6.1 1), .inl (cy 1, 10, .inl (fun _ => 0))), ((u_6.1 2), .inl (cy 1, 10, .inl (fun _ => 0))), ((u_6.1 3), .inl (cy 1, 10, .inl (fun _ => 0))), ((u_6.1 4), .inl (cy 1, 10, .inl (fun _ => 0)))] ++ []) _ _ := h_6
  refine q_put (v := .ref q_5) X hK h_6 0 rfl rfl wf_5 tyX5 tyX5_ok nmX5 5 (by decide) wm_1_151 rfl rfl rfl (Nat.le_of_ble_eq_true rfl) dX5_read_32 (fun H locs h_7 => ?_)
  clear h_6
  replace h_7 : qW D _ _ ([(h0, .inr (5, [.ref h1, .int (-1), .int p2, .int 0, .int (-1), .ref q_5, .ref h5, .int p5, .int p6])), (h5, .inl (cy 1, 900, .inl f3)), (h1, .inr (8, [.ref h6, .int (u_1.2.1 0 0), .int (u_1.2.1 1 0), .ref h2, .ref h3, .ref h4])), (h2, .inl (cy 1, 901, .inl (u_1.2.1 2))), (h3, .inl (cy 1, 901, .inl (u_1.2.1 3))), (h4, .inl (cy 1, 901, .inl (u_1.2.1 4))), (h6, .inl (cy 0, 900, .inl f4)), (q_5, .inr (3, [.int (u_6.2.1 0 0), .int (u_6.2.1 1 0), .int (u_6.2.1 2 0), .int (u_6.2.1 3 0), .null, .null, .null, .ref (u_6.1 0), .ref (u_6.1 1), .ref (u_6.1 2), .ref (u_6.1 3), .ref (u_6.1 4)])), ((u_6.1 0), .inl (cy 1, 10, .inl (fun _ => 0))), ((u_6.1 1), .inl (cy 1, 10, .inl (fun _ => 0))), ((u_6.1 2), .inl (cy 1, 10, .inl (fun _ => 0))), ((u_6.1 3), .inl (cy 1, 10, .inl (fun _ => 0))), ((u_6.1 4), .inl (cy 1, 10, .inl (fun _ => 0)))] ++ []) _ _ := h_7
  have lm_1 : ((-1) : Int32).toInt = -1 := by decide
  have lm_0 : (0 : Int32).toInt = 0 := by decide
  refine lv_aload_n hx hb dX5_read_35 rfl (lv_at hl 0 rfl) ?_
  refine q_callVvT (rest := []) (wr := (wk_ec5c743af cy h5 f3 h4 (u_1.2.1 4) h6 f4 q_5 (u_6.2.1 0 0) (u_6.2.1 1 0) (u_6.2.1 2 0) (u_6.2.1 3 0) (u_6.1 0) (u_6.1 1) (u_6.1 2) (u_6.1 3) (u_6.1 4) (u_6.1 0) (fun _ => 0) (u_6.1 1) (fun _ => 0) (u_6.1 2) (fun _ => 0) (u_6.1 3) (fun _ => 0) (u_6.1 4) (fun _ => 0))) X hK hT hA h_7 (fun sz => gX5_advance_9820dfe l D cy h0 h1 h2 h3 ((-1) : Int32) p2 (0 : Int32) ((-1) : Int32) (.ref q_5) (.ref h5) p5 p6 (.ref h6) (u_1.2.1 0 0) (u_1.2.1 1 0) (.ref h4) (u_1.2.1 2) (u_1.2.1 3) ⟨by decide +kernel, by decide +kernel⟩ (i_rng _) (i_rng _) (i_rng _) hp5 (i_rng _) w1_0 w1_1 (y1_1) (by have q0 : (0 : Int32).toInt = 0 := (by decide); omega) (by have q0 : ((-1) : Int32).toInt = -1 := (by decide); have q1 : (0 : Int32).toInt = 0 := (by decide); omega) sz) wm_3_68 wm_3_71 wm_1_2 hd_X5_advance wm_3_70 wp_1_8 (ci := 5) (q0 := 0) rfl rfl ⟨Nat.le_of_ble_eq_true rfl, Nat.le_of_ble_eq_true rfl⟩ hl.1 rfl (Nat.le_of_ble_eq_true rfl) dX5_read_36 ⟨Nat.le_of_ble_eq_true rfl, Nat.le_of_ble_eq_true rfl⟩ [0, 2, 3, 4] [1, 5, 6, 7, 8, 9, 10, 11, 12] rfl rfl (by decide) rfl rfl (fun u_8 H locs w_8 h_8 => ?_)
  clear h_7
  obtain ⟨w8_0, w8_1, w8_2, w8_3, y8_0, y8_1, y8_2, y8_3, y8_4, y8_5, y8_6, _⟩ := w_8
  have lz_8_m1 : ((-1) : Int32).toInt = (-1) := (by decide)
  have lz_8_0 : (0 : Int32).toInt = 0 := (by decide)
  replace h_8 : qW D _ _ ((wk_3cb20a52e cy h5 f3 h4 (u_1.2.1 4) h6 f4 q_5 (u_6.2.1 0 0) (u_6.2.1 1 0) (u_6.2.1 2 0) (u_6.2.1 3 0) (u_6.1 0) (u_6.1 1) (u_6.1 2) (u_6.1 3) (u_6.1 4) (u_6.1 0) (fun _ => 0) (u_6.1 1) (fun _ => 0) (u_6.1 2) (fun _ => 0) (u_6.1 3) (fun _ => 0) (u_6.1 4) (fun _ => 0) h0 h1 (u_8.2.1 0 0) (u_8.2.1 1 0) (u_8.2.1 2 0) (u_8.2.1 3 0) q_5 h5 p5 p6 h1 h6 (u_1.2.1 0 0) (u_1.2.1 1 0) h2 h3 h4 h2 (u_1.2.1 2) h3 (u_1.2.1 3)) ++ []) _ _ := h_8
  have rc_9 := rc_st y1_3 y8_6 (by decide) (by decide) (by decide) (by (first | assumption | (clear y8_1 y8_2 y8_4 y8_5; omega) | omega))
  refine lv_aload_n hx hb dX5_read_39 rfl (lv_at hl 0 rfl) ?_
  refine lv_bipush (v := 11) hx hb dX5_read_40 (by decide) ?_
  refine q_callVvT (rest := []) (wr := (wk_ec5c743af cy h5 f3 h4 (u_1.2.1 4) h6 f4 q_5 (u_6.2.1 0 0) (u_6.2.1 1 0) (u_6.2.1 2 0) (u_6.2.1 3 0) (u_6.1 0) (u_6.1 1) (u_6.1 2) (u_6.1 3) (u_6.1 4) (u_6.1 0) (fun _ => 0) (u_6.1 1) (fun _ => 0) (u_6.1 2) (fun _ => 0) (u_6.1 3) (fun _ => 0) (u_6.1 4) (fun _ => 0))) X hK hT hA h_8 (fun sz => gX5_take_b81c5b0 l D cy h0 h1 h2 h3 (u_8.2.1 0 0) (u_8.2.1 1 0) (u_8.2.1 2 0) (u_8.2.1 3 0) (.ref q_5) (.ref h5) p5 p6 (.ref h6) (u_1.2.1 0 0) (u_1.2.1 1 0) (.ref h4) (u_1.2.1 2) (u_1.2.1 3) w8_0 (i_rng _) (i_rng _) (i_rng _) hp5 (i_rng _) w1_0 w1_1 (y1_1) (y8_0) (by (first | (clear y8_1 y8_2 y8_4 y8_5; omega) | omega)) (y8_5) (by have q0 : (11 : Int32).toInt = 11 := (by decide); (first | (clear y8_1 y8_2 y8_4 y8_5; omega) | omega)) sz) wm_3_72 wm_3_75 wm_1_2 hd_X5_take wm_3_74 wp_1_9 (ci := 5) (q0 := 0) rfl rfl ⟨Nat.le_of_ble_eq_true rfl, Nat.le_of_ble_eq_true rfl⟩ hl.1 rfl (Nat.le_of_ble_eq_true rfl) dX5_read_42 ⟨Nat.le_of_ble_eq_true rfl, Nat.le_of_ble_eq_true rfl⟩ [9, 10, 11, 12] [0, 1, 2, 3, 4, 5, 6, 7, 8] rfl rfl (by decide) rfl rfl (fun u_10 H locs w_10 h_10 => ?_)
  clear h_8
  obtain ⟨w10_0, w10_1, w10_2, w10_3, y10_0, y10_1, y10_2, y10_3, y10_4, y10_5, y10_6, _⟩ := w_10
  have lq_10_1 : (11 : Int32).toInt = 11 := (by decide)
  replace h_10 : qW D _ _ ((wk_3cb20a52e cy h5 f3 h4 (u_1.2.1 4) h6 f4 q_5 (u_6.2.1 0 0) (u_6.2.1 1 0) (u_6.2.1 2 0) (u_6.2.1 3 0) (u_6.1 0) (u_6.1 1) (u_6.1 2) (u_6.1 3) (u_6.1 4) (u_6.1 0) (fun _ => 0) (u_6.1 1) (fun _ => 0) (u_6.1 2) (fun _ => 0) (u_6.1 3) (fun _ => 0) (u_6.1 4) (fun _ => 0) h0 h1 (u_10.2.1 3 0) (u_10.2.1 0 0) (u_10.2.1 1 0) (u_10.2.1 2 0) q_5 h5 p5 p6 h1 h6 (u_1.2.1 0 0) (u_1.2.1 1 0) h2 h3 h4 h2 (u_1.2.1 2) h3 (u_1.2.1 3)) ++ []) _ _ := h_10
  refine lv_aload_n hx hb dX5_read_45 rfl (lv_at hl 0 rfl) ?_
  refine lv_bipush (v := 12) hx hb dX5_read_46 (by decide) ?_
  refine q_callVvT (rest := []) (wr := (wk_ec5c743af cy h5 f3 h4 (u_1.2.1 4) h6 f4 q_5 (u_6.2.1 0 0) (u_6.2.1 1 0) (u_6.2.1 2 0) (u_6.2.1 3 0) (u_6.1 0) (u_6.1 1) (u_6.1 2) (u_6.1 3) (u_6.1 4) (u_6.1 0) (fun _ => 0) (u_6.1 1) (fun _ => 0) (u_6.1 2) (fun _ => 0) (u_6.1 3) (fun _ => 0) (u_6.1 4) (fun _ => 0))) X hK hT hA h_10 (fun sz => gX5_take_b74706d l D cy h0 h1 h2 h3 (u_10.2.1 3 0) (u_10.2.1 0 0) (u_10.2.1 1 0) (u_10.2.1 2 0) (.ref q_5) (.ref h5) p5 p6 (.ref h6) (u_1.2.1 0 0) (u_1.2.1 1 0) (.ref h4) (u_1.2.1 2) (u_1.2.1 3) w10_3 (i_rng _) (i_rng _) (i_rng _) hp5 (i_rng _) w1_0 w1_1 (y1_1) (y10_0) (y10_1) (y10_4) (by have q0 : (12 : Int32).toInt = 12 := (by decide); (first | (clear y8_1 y8_2 y8_4 y8_5 y10_1 y10_2 y10_3 y10_4; omega) | omega)) sz) wm_3_72 wm_3_75 wm_1_2 hd_X5_take wm_3_74 wp_1_9 (ci := 5) (q0 := 0) rfl rfl ⟨Nat.le_of_ble_eq_true rfl, Nat.le_of_ble_eq_true rfl⟩ hl.1 rfl (Nat.le_of_ble_eq_true rfl) dX5_read_48 ⟨Nat.le_of_ble_eq_true rfl, Nat.le_of_ble_eq_true rfl⟩ [9, 10, 11, 12] [0, 1, 2, 3, 4, 5, 6, 7, 8] rfl rfl (by decide) rfl rfl (fun u_11 H locs w_11 h_11 => ?_)
  clear h_10
  obtain ⟨w11_0, w11_1, w11_2, w11_3, y11_0, y11_1, y11_2, y11_3, y11_4, y11_5, y11_6, _⟩ := w_11
  have lq_11_1 : (12 : Int32).toInt = 12 := (by decide)
  replace h_11 : qW D _ _ ((wk_3cb20a52e cy h5 f3 h4 (u_1.2.1 4) h6 f4 q_5 (u_6.2.1 0 0) (u_6.2.1 1 0) (u_6.2.1 2 0) (u_6.2.1 3 0) (u_6.1 0) (u_6.1 1) (u_6.1 2) (u_6.1 3) (u_6.1 4) (u_6.1 0) (fun _ => 0) (u_6.1 1) (fun _ => 0) (u_6.1 2) (fun _ => 0) (u_6.1 3) (fun _ => 0) (u_6.1 4) (fun _ => 0) h0 h1 (u_11.2.1 3 0) (u_11.2.1 0 0) (u_11.2.1 1 0) (u_11.2.1 2 0) q_5 h5 p5 p6 h1 h6 (u_1.2.1 0 0) (u_1.2.1 1 0) h2 h3 h4 h2 (u_1.2.1 2) h3 (u_1.2.1 3)) ++ []) _ _ := h_11
  refine lv_aload_n hx hb dX5_read_51 rfl (lv_at hl 0 rfl) ?_
  refine q_get X hK h_11 9 rfl rfl wf_5 5 (by decide) rfl wm_1_151 dX5_read_52 ?_
  refine lv_aload_n hx hb dX5_read_55 rfl (lv_at hl 0 rfl) ?_
  refine lv_iconst (v := 1) hx hb dX5_read_56 (by decide) ?_
  refine lv_iconst (v := 3) hx hb dX5_read_57 (by decide) ?_
  refine q_callViT (rest := [.ref q_5]) (wr := [(h5, .inl (cy 1, 900, .inl f3)), (h6, .inl (cy 0, 900, .inl f4)), (q_5, .inr (3, [.int (u_6.2.1 0 0), .int (u_6.2.1 1 0), .int (u_6.2.1 2 0), .int (u_6.2.1 3 0), .null, .null, .null, .ref (u_6.1 0), .ref (u_6.1 1), .ref (u_6.1 2), .ref (u_6.1 3), .ref (u_6.1 4)])), ((u_6.1 0), .inl (cy 1, 10, .inl (fun _ => 0))), ((u_6.1 1), .inl (cy 1, 10, .inl (fun _ => 0))), ((u_6.1 2), .inl (cy 1, 10, .inl (fun _ => 0))), ((u_6.1 3), .inl (cy 1, 10, .inl (fun _ => 0))), ((u_6.1 4), .inl (cy 1, 10, .inl (fun _ => 0)))]) X hK hT hA h_11 (fun sz => gX5_takeNumber_68d9e2c l D cy h0 h1 h2 h3 h4 (u_11.2.1 3 0) (u_11.2.1 0 0) (u_11.2.1 1 0) (u_11.2.1 2 0) (.ref q_5) (.ref h5) p5 p6 (.ref h6) (u_1.2.1 0 0) (u_1.2.1 1 0) (u_1.2.1 2) (u_1.2.1 3) (u_1.2.1 4) w11_3 (i_rng _) (i_rng _) (i_rng _) hp5 (i_rng _) w1_0 w1_1 (y1_1) (y11_0) (y11_1) (y11_4) sz) wm_3_80 wm_3_83 wm_1_2 hd_X5_takeNumber wm_3_82 wp_1_11 (ci := 5) (q0 := 0) rfl rfl ⟨Nat.le_of_ble_eq_true rfl, Nat.le_of_ble_eq_true rfl⟩ hl.1 rfl (Nat.le_of_ble_eq_true rfl) dX5_read_58 ⟨Nat.le_of_ble_eq_true rfl, Nat.le_of_ble_eq_true rfl⟩ [9, 10, 11, 12, 1] [0, 2, 3, 4, 5, 6, 7, 8] rfl rfl (by decide) rfl rfl (fun r_12 u_12 H locs w_12 h_12 => ?_)
  clear h_11
  obtain ⟨wr_12, w12_0, w12_1, w12_2, w12_3, y12_0, y12_1, y12_2, y12_3, y12_4, y12_5, y12_6, y12_7, _⟩ := w_12
  have lq_12_1 : (1 : Int32).toInt = 1 := (by decide)
  have lq_12_2 : (3 : Int32).toInt = 3 := (by decide)
  replace h_12 : qW D _ _ ((wk_5f6295072 cy h5 f3 h6 f4 q_5 (u_6.2.1 0 0) (u_6.2.1 1 0) (u_6.2.1 2 0) (u_6.2.1 3 0) (u_6.1 0) (u_6.1 1) (u_6.1 2) (u_6.1 3) (u_6.1 4) (u_6.1 0) (fun _ => 0) (u_6.1 1) (fun _ => 0) (u_6.1 2) (fun _ => 0) (u_6.1 3) (fun _ => 0) (u_6.1 4) (fun _ => 0) h0 h1 (u_12.2.1 3 0) (u_12.2.1 0 0) (u_12.2.1 1 0) (u_12.2.1 2 0) q_5 h5 p5 p6 h1 h6 (u_1.2.1 0 0) (u_1.2.1 1 0) h2 h3 h4 h2 (u_1.2.1 2) h3 (u_1.2.1 3) h4 (u_1.2.1 4)) ++ []) _ _ := h_12
  refine q_put (v := .int r_12) X hK h_12 2 rfl rfl wf_3 tyX3 tyX3_ok nmX3 0 (by decide) wm_1_76 rfl rfl rfl (Nat.le_of_ble_eq_true rfl) dX5_read_61 (fun H locs h_13 => ?_)
  clear h_12
  replace h_13 : qW D _ _ ((wk_5f6295072 cy h5 f3 h6 f4 q_5 r_12 (u_6.2.1 1 0) (u_6.2.1 2 0) (u_6.2.1 3 0) (u_6.1 0) (u_6.1 1) (u_6.1 2) (u_6.1 3) (u_6.1 4) (u_6.1 0) (fun _ => 0) (u_6.1 1) (fun _ => 0) (u_6.1 2) (fun _ => 0) (u_6.1 3) (fun _ => 0) (u_6.1 4) (fun _ => 0) h0 h1 (u_12.2.1 3 0) (u_12.2.1 0 0) (u_12.2.1 1 0) (u_12.2.1 2 0) q_5 h5 p5 p6 h1 h6 (u_1.2.1 0 0) (u_1.2.1 1 0) h2 h3 h4 h2 (u_1.2.1 2) h3 (u_1.2.1 3) h4 (u_1.2.1 4)) ++ []) _ _ := h_13
  refine lv_aload_n hx hb dX5_read_64 rfl (lv_at hl 0 rfl) ?_
  refine lv_bipush (v := 59) hx hb dX5_read_65 (by decide) ?_
  refine q_callVvT (rest := []) (wr := [(h5, .inl (cy 1, 900, .inl f3)), (h6, .inl (cy 0, 900, .inl f4)), (q_5, .inr (3, [.int r_12, .int (u_6.2.1 1 0), .int (u_6.2.1 2 0), .int (u_6.2.1 3 0), .null, .null, .null, .ref (u_6.1 0), .ref (u_6.1 1), .ref (u_6.1 2), .ref (u_6.1 3), .ref (u_6.1 4)])), ((u_6.1 0), .inl (cy 1, 10, .inl (fun _ => 0))), ((u_6.1 1), .inl (cy 1, 10, .inl (fun _ => 0))), ((u_6.1 2), .inl (cy 1, 10, .inl (fun _ => 0))), ((u_6.1 3), .inl (cy 1, 10, .inl (fun _ => 0))), ((u_6.1 4), .inl (cy 1, 10, .inl (fun _ => 0))), (h4, .inl (cy 1, 901, .inl (u_1.2.1 4)))]) X hK hT hA h_13 (fun sz => gX5_take_4365b58 l D cy h0 h1 h2 h3 (u_12.2.1 3 0) (u_12.2.1 0 0) (u_12.2.1 1 0) (u_12.2.1 2 0) (.ref q_5) (.ref h5) p5 p6 (.ref h6) (u_1.2.1 0 0) (u_1.2.1 1 0) (.ref h4) (u_1.2.1 2) (u_1.2.1 3) w12_3 (i_rng _) (i_rng _) (i_rng _) hp5 (i_rng _) w1_0 w1_1 (y1_1) (y12_0) (y12_1) (y12_4) (by have q0 : (59 : Int32).toInt = 59 := (by decide); (first | (clear y8_1 y8_2 y8_4 y8_5 y10_1 y10_2 y10_3 y10_4 y11_1 y11_2 y11_3 y11_4 y12_1 y12_2 y12_3 y12_4; omega) | omega)) sz) wm_3_72 wm_3_75 wm_1_2 hd_X5_take wm_3_74 wp_1_9 (ci := 5) (q0 := 0) rfl rfl ⟨Nat.le_of_ble_eq_true rfl, Nat.le_of_ble_eq_true rfl⟩ hl.1 rfl (Nat.le_of_ble_eq_true rfl) dX5_read_67 ⟨Nat.le_of_ble_eq_true rfl, Nat.le_of_ble_eq_true rfl⟩ [8, 9, 10, 11] [0, 1, 2, 3, 4, 5, 6, 7, 12] rfl rfl (by decide) rfl rfl (fun u_14 H locs w_14 h_14 => ?_)
  clear h_13
  obtain ⟨w14_0, w14_1, w14_2, w14_3, y14_0, y14_1, y14_2, y14_3, y14_4, y14_5, y14_6, _⟩ := w_14
  have lq_14_1 : (59 : Int32).toInt = 59 := (by decide)
  replace h_14 : qW D _ _ ((wk_705940f6f cy h5 f3 h6 f4 q_5 r_12 (u_6.2.1 1 0) (u_6.2.1 2 0) (u_6.2.1 3 0) (u_6.1 0) (u_6.1 1) (u_6.1 2) (u_6.1 3) (u_6.1 4) (u_6.1 0) (fun _ => 0) (u_6.1 1) (fun _ => 0) (u_6.1 2) (fun _ => 0) (u_6.1 3) (fun _ => 0) (u_6.1 4) (fun _ => 0) h4 (u_1.2.1 4) h0 h1 (u_14.2.1 3 0) (u_14.2.1 0 0) (u_14.2.1 1 0) (u_14.2.1 2 0) q_5 h5 p5 p6 h1 h6 (u_1.2.1 0 0) (u_1.2.1 1 0) h2 h3 h4 h2 (u_1.2.1 2) h3 (u_1.2.1 3)) ++ []) _ _ := h_14
  refine lv_aload_n hx hb dX5_read_70 rfl (lv_at hl 0 rfl) ?_
  refine q_get X hK h_14 9 rfl rfl wf_5 5 (by decide) rfl wm_1_151 dX5_read_71 ?_
  refine lv_iconst (v := 1) hx hb dX5_read_74 (by decide) ?_
  refine q_put (v := .int 1) X hK h_14 2 rfl rfl wf_3 tyX3 tyX3_ok nmX3 2 (by decide) wm_1_88 rfl rfl rfl (Nat.le_of_ble_eq_true rfl) dX5_read_75 (fun H locs h_15 => ?_)
  clear h_14
  replace h_15 : qW D _ _ ((wk_705940f6f cy h5 f3 h6 f4 q_5 r_12 (u_6.2.1 1 0) 1 (u_6.2.1 3 0) (u_6.1 0) (u_6.1 1) (u_6.1 2) (u_6.1 3) (u_6.1 4) (u_6.1 0) (fun _ => 0) (u_6.1 1) (fun _ => 0) (u_6.1 2) (fun _ => 0) (u_6.1 3) (fun _ => 0) (u_6.1 4) (fun _ => 0) h4 (u_1.2.1 4) h0 h1 (u_14.2.1 3 0) (u_14.2.1 0 0) (u_14.2.1 1 0) (u_14.2.1 2 0) q_5 h5 p5 p6 h1 h6 (u_1.2.1 0 0) (u_1.2.1 1 0) h2 h3 h4 h2 (u_1.2.1 2) h3 (u_1.2.1 3)) ++ []) _ _ := h_15
  refine lv_iconst (v := 0) hx hb dX5_read_78 (by decide) ?_
  refine lv_istore_n (lv' := [(3, .int 0), (0, .ref h0), (1, .ref h6), (2, .int p0)]) hx hb dX5_read_79 rfl hl (by decide) rfl (fun ls_16 hl_16 => ?_)
  clear hl
  refine W.widen (show 6 ≤ (6 + 2 * ((0 : Int32)).toInt.toNat) by decide) (show 62 ≤ (62 + 901 * ((0 : Int32)).toInt.toNat) by decide) (q_wlS (fun (q : Int32 × Int32 × Int32 × Int32 × Option Nat × Option Nat × Option Nat × Int32 × Int32 × Int32 × Int32 × Int32 × Int32) H locs ls => match q with | (v80_17_0, v80_17_1, v80_17_2, v80_17_3, v80_17_4, v80_17_5, v80_17_6, v80_17_13, v80_17_14, v80_17_15, v80_17_16, v80_17_17, v80_17_18) => ∃ v80_17_7 : Nat → Int32, ∃ v80_17_8 : Nat → Int32, ∃ v80_17_9 : Nat → Int32, ∃ v80_17_10 : Nat → Int32, ∃ v80_17_11 : Nat → Int32, ∃ v80_17_12 : Nat → Int32, ∃ v80_17_19 : va_W, (0 ≤ (v80_17_0).toInt ∧ (v80_17_0).toInt ≤ 901) ∧ (0 ≤ (v80_17_1).toInt ∧ (v80_17_1).toInt ≤ 10) ∧ (0 ≤ (v80_17_2).toInt ∧ (v80_17_2).toInt ≤ 902) ∧ ((-2147483648) ≤ (v80_17_3).toInt ∧ (v80_17_3).toInt ≤ 2147483647) ∧ (0 ≤ (v80_17_13).toInt ∧ (v80_17_13).toInt ≤ 900) ∧ ((-2147483648) ≤ (v80_17_14).toInt ∧ (v80_17_14).toInt ≤ 2147483647) ∧ ((-2147483648) ≤ (v80_17_15).toInt ∧ (v80_17_15).toInt ≤ 2147483647) ∧ ((-2147483648) ≤ (v80_17_16).toInt ∧ (v80_17_16).toInt ≤ 2147483647) ∧ (0 ≤ (v80_17_17).toInt ∧ (v80_17_17).toInt ≤ 900) ∧ ((-2147483648) ≤ (v80_17_18).toInt ∧ (v80_17_18).toInt ≤ 2147483647) ∧ RG v80_17_7 10 0 999 ∧ (KZ (u_1.2.1 2) ((u_1.2.1 1 0) : Int32).toInt) ∧ (0 ≤ (v80_17_13 : Int32).toInt ∧ (v80_17_13 : Int32).toInt < ((u_1.2.1 1 0) : Int32).toInt) ∧ ((v80_17_15 : Int32).toInt ≠ 0 ∨ (v80_17_14 : Int32).toInt = 26 ∨ (v80_17_14 : Int32).toInt = 27 ∨ (v80_17_13 : Int32).toInt + 1 < ((u_1.2.1 1 0) : Int32).toInt) ∧ ((v80_17_15 : Int32).toInt = 0 ∨ (v80_17_14 : Int32).toInt = 27) ∧ (2 * (v80_17_0 : Int32).toInt ≤ (v80_17_13 : Int32).toInt ∨ ((v80_17_15 : Int32).toInt ≠ 0 ∧ 2 * (v80_17_0 : Int32).toInt ≤ (v80_17_13 : Int32).toInt + 2)) ∧ (LI cy v80_17_19 (va_rf v80_17_4) (va_rf v80_17_5) (va_rf v80_17_6)) ∧ (LNI (bB f4) ((p0 : Int32).toInt).toNat (r_12 : Int32).toInt (v80_17_1 : Int32).toInt (v80_17_2 : Int32).toInt (v80_17_13 : Int32).toInt (v80_17_14 : Int32).toInt (v80_17_15 : Int32).toInt (v80_17_16 : Int32).toInt) ∧ ((v80_17_2 : Int32).toInt = (v80_17_0 : Int32).toInt + 1) ∧ qW D (va_A (wk_f120e8fa4 cy h0 h1 p1 p2 p3 p4 o0 h5 p5 p6 h1 o1 p7 p8 h2 h3 h4 h2 f0 h3 f1 h4 f2 h5 f3 h6 f4) sz) s.heap ((wk_8ccb92c0e cy h5 v80_17_12 h6 f4 q_5 r_12 v80_17_1 v80_17_2 v80_17_3 v80_17_4 v80_17_5 v80_17_6 (u_6.1 0) (u_6.1 1) (u_6.1 2) (u_6.1 3) (u_6.1 4) (u_6.1 0) v80_17_7 (u_6.1 1) v80_17_8 (u_6.1 2) v80_17_9 (u_6.1 3) v80_17_10 (u_6.1 4) v80_17_11 h4 (u_1.2.1 4) h0 h1 v80_17_13 v80_17_14 v80_17_15 v80_17_16 q_5 h5 v80_17_17 v80_17_18 h1 h6 (u_1.2.1 0 0) (u_1.2.1 1 0) h2 h3 h4 h2 (u_1.2.1 2) h3 (u_1.2.1 3)) ++ v80_17_19) H locs ∧ lv_has ls 4 [(0, .ref h0), (1, .ref h6), (2, .int p0), (3, .int v80_17_0)]) (fun (q : Int32 × Int32 × Int32 × Int32 × Option Nat × Option Nat × Option Nat × Int32 × Int32 × Int32 × Int32 × Int32 × Int32) => match q with | (v80_17_0, v80_17_1, v80_17_2, v80_17_3, v80_17_4, v80_17_5, v80_17_6, v80_17_13, v80_17_14, v80_17_15, v80_17_16, v80_17_17, v80_17_18) => (902 - (v80_17_0).toInt).toNat) (fun (q : Int32 × Int32 × Int32 × Int32 × Option Nat × Option Nat × Option Nat × Int32 × Int32 × Int32 × Int32 × Int32 × Int32) => match q with | (v80_17_0, v80_17_1, v80_17_2, v80_17_3, v80_17_4, v80_17_5, v80_17_6, v80_17_13, v80_17_14, v80_17_15, v80_17_16, v80_17_17, v80_17_18) => (6 + 2 * (v80_17_0).toInt.toNat)) (fun (q : Int32 × Int32 × Int32 × Int32 × Option Nat × Option Nat × Option Nat × Int32 × Int32 × Int32 × Int32 × Int32 × Int32) => match q with | (v80_17_0, v80_17_1, v80_17_2, v80_17_3, v80_17_4, v80_17_5, v80_17_6, v80_17_13, v80_17_14, v80_17_15, v80_17_16, v80_17_17, v80_17_18) => (62 + 901 * (v80_17_0).toInt.toNat)) (fun q_80 ih_80 H locs ls hP => ?_) (0, (u_6.2.1 1 0), 1, (u_6.2.1 3 0), none, none, none, (u_14.2.1 3 0), (u_14.2.1 0 0), (u_14.2.1 1 0), (u_14.2.1 2 0), p5, p6) ⟨(fun _ => 0), (fun _ => 0), (fun _ => 0), (fun _ => 0), (fun _ => 0), f3, [], ⟨by decide +kernel, by decide +kernel⟩, (bw w6_1 (by decide) (by decide)), ⟨by decide +kernel, by decide +kernel⟩, (bw w6_3 (by decide) (by decide)), ⟨by omega, by omega⟩, w14_0, w14_1, w14_2, hp5, hp6, (rg_zero _ (by decide) (by decide)), (y1_1), (y14_0), (y14_1), (y14_4), (by have q0 : (0 : Int32).toInt = 0 := (by decide); (first | (clear y8_1 y8_2 y8_4 y8_5 y10_1 y10_2 y10_3 y10_4 y11_1 y11_2 y11_3 y11_4 y12_1 y12_2 y12_3 y12_4 y14_1 y14_2 y14_3 y14_4; omega) | omega)), (li_0), (lni_n (lni_0 y1_3 rc_9 (y10_6 _) (y11_6 _) (by (first | assumption | (clear y8_1 y8_2 y8_4 y8_5 y10_1 y10_2 y10_3 y10_4 y11_1 y11_2 y11_3 y11_4 y12_1 y12_2 y12_3 y12_4 y14_1 y14_2 y14_3 y14_4; omega) | omega)) (by (first | assumption | (clear y8_1 y8_2 y8_4 y8_5 y10_1 y10_2 y10_3 y10_4 y11_1 y11_2 y11_3 y11_4 y12_1 y12_2 y12_3 y12_4 y14_1 y14_2 y14_3 y14_4; omega) | omega)) y12_6 y12_7 rfl (y14_6 _)) rfl (by (first | assumption | (clear y8_1 y8_2 y8_4 y8_5 y10_1 y10_2 y10_3 y10_4 y11_1 y11_2 y11_3 y11_4 y12_1 y12_2 y12_3 y12_4 y14_1 y14_2 y14_3 y14_4; omega) | omega)) (by decide) rfl rfl rfl rfl), (by have q0 : (1 : Int32).toInt = 1 := (by decide); have q1 : (0 : Int32).toInt = 0 := (by decide); (first | (clear y8_1 y8_2 y8_4 y8_5 y10_1 y10_2 y10_3 y10_4 y11_1 y11_2 y11_3 y11_4 y12_1 y12_2 y12_3 y12_4 y14_1 y14_2 y14_3 y14_4; omega) | omega)), h_15, (lv_sub hl_16 [1, 2, 3, 0] rfl)⟩)
  obtain ⟨v80_17_0, v80_17_1, v80_17_2, v80_17_3, v80_17_4, v80_17_5, v80_17_6, v80_17_13, v80_17_14, v80_17_15, v80_17_16, v80_17_17, v80_17_18⟩ := q_80
  obtain ⟨v80_17_7, v80_17_8, v80_17_9, v80_17_10, v80_17_11, v80_17_12, v80_17_19, hv80_17_0, hv80_17_1, hv80_17_2, hv80_17_3, hv80_17_13, hv80_17_14, hv80_17_15, hv80_17_16, hv80_17_17, hv80_17_18, rv80_17_7, x18_0, x19_1, x20_2, x21_3, x22_4, x23_5, x24_6, x25_7, h, hl⟩ := hP
  show W p l e _ s m _ below meth c H locs ((6 + 2 * (v80_17_0).toInt.toNat)) ((62 + 901 * (v80_17_0).toInt.toNat)) _ _
  refine lv_iload_n hx hb dX5_read_80 rfl (lv_at hl 3 rfl) ?_
  refine lv_aload_n hx hb dX5_read_81 rfl (lv_at hl 0 rfl) ?_
  refine q_get X hK h 9 rfl rfl wf_5 0 (by decide) rfl wm_1_144 dX5_read_82 ?_
  refine q_get X hK h 10 rfl rfl wf_8 2 (by decide) rfl wm_1_46 dX5_read_85 ?_
  refine q_jn (pc2 := 138) (fun H locs ls st => (LNI (bB f4) ((p0 : Int32).toInt).toNat (r_12 : Int32).toInt (v80_17_1 : Int32).toInt (v80_17_2 : Int32).toInt (v80_17_13 : Int32).toInt (v80_17_14 : Int32).toInt (v80_17_15 : Int32).toInt (v80_17_16 : Int32).toInt) ∧ ((v80_17_14 : Int32).toInt = 26 ∨ (v80_17_14 : Int32).toInt = 27 ∨ (v80_17_15 : Int32).toInt ≠ 0) ∧ st = [] ∧ qW D (va_A (wk_f120e8fa4 cy h0 h1 p1 p2 p3 p4 o0 h5 p5 p6 h1 o1 p7 p8 h2 h3 h4 h2 f0 h3 f1 h4 f2 h5 f3 h6 f4) sz) s.heap ((wk_8ccb92c0e cy h5 v80_17_12 h6 f4 q_5 r_12 v80_17_1 v80_17_2 v80_17_3 v80_17_4 v80_17_5 v80_17_6 (u_6.1 0) (u_6.1 1) (u_6.1 2) (u_6.1 3) (u_6.1 4) (u_6.1 0) v80_17_7 (u_6.1 1) v80_17_8 (u_6.1 2) v80_17_9 (u_6.1 3) v80_17_10 (u_6.1 4) v80_17_11 h4 (u_1.2.1 4) h0 h1 v80_17_13 v80_17_14 v80_17_15 v80_17_16 q_5 h5 v80_17_17 v80_17_18 h1 h6 (u_1.2.1 0 0) (u_1.2.1 1 0) h2 h3 h4 h2 (u_1.2.1 2) h3 (u_1.2.1 3)) ++ v80_17_19) H locs ∧ lv_has ls 4 [(0, .ref h0), (1, .ref h6), (2, .int p0), (3, .int v80_17_0)]) (fun H locs ls st hP => ?_) (fun J_138 => ?_)
  · obtain ⟨x27_0, x28_1, rfl, h, hl⟩ := hP
    refine lv_aload_n hx hb dX5_read_138 rfl (lv_at hl 0 rfl) ?_
    refine q_get X hK h 9 rfl rfl wf_5 5 (by decide) rfl wm_1_151 dX5_read_139 ?_
    exact q_qretW X hr hlk hK h (some q_5) rfl [] (((vcons q_5 (vcons (u_6.1 0) (vcons (u_6.1 1) (vcons (u_6.1 2) (vcons (u_6.1 3) (vcons (u_6.1 4) (fun _ => 0))))))), (vcons v80_17_12 (vcons (u_1.2.1 4) (vcons (fun _ => v80_17_13) (vcons (fun _ => v80_17_14) (vcons (fun _ => v80_17_15) (vcons (fun _ => v80_17_16) (vcons (fun _ => v80_17_17) (vcons (fun _ => v80_17_18) (vcons (fun _ => (u_1.2.1 0 0)) (vcons (fun _ => (u_1.2.1 1 0)) (vcons (u_1.2.1 2) (vcons (u_1.2.1 3) (vcons (fun _ => r_12) (vcons (fun _ => v80_17_1) (vcons (fun _ => v80_17_2) (vcons (fun _ => v80_17_3) (vcons v80_17_7 (vcons v80_17_8 (vcons v80_17_9 (vcons v80_17_10 (vcons v80_17_11 (fun _ => (fun _ => 0))))))))))))))))))))))), fun _ _ => 0), ([] ++ v80_17_19), (vcons v80_17_4 (vcons v80_17_5 (vcons v80_17_6 (fun _ => none))))) rfl ⟨rfl, hv80_17_13, hv80_17_14, hv80_17_15, hv80_17_16, hv80_17_17, hv80_17_18, w1_0, w1_1, (⟨by omega, by omega⟩ : 1 ≤ (r_12 : Int32).toInt ∧ (r_12 : Int32).toInt ≤ 3), (⟨by omega, by omega⟩ : 0 ≤ (v80_17_1 : Int32).toInt ∧ (v80_17_1 : Int32).toInt ≤ 10), (⟨by omega, by omega⟩ : 0 ≤ (v80_17_2 : Int32).toInt ∧ (v80_17_2 : Int32).toInt ≤ 902), (⟨by omega, by omega⟩ : (-2147483648) ≤ (v80_17_3 : Int32).toInt ∧ (v80_17_3 : Int32).toInt ≤ 2147483647), (rg_wide rv80_17_7 (by decide) (by decide)), x23_5, (show PFR (bB f4) ((p0 : Int32).toInt).toNat (v80_17_15 : Int32).toInt (v80_17_16 : Int32).toInt (v80_17_2 : Int32).toInt from pfr_of x27_0 (by (first | assumption | (clear y8_1 y8_2 y8_4 y8_5 y10_1 y10_2 y10_3 y10_4 y11_1 y11_2 y11_3 y11_4 y12_1 y12_2 y12_3 y12_4 y14_1 y14_2 y14_3 y14_4 x20_2 x21_3 x22_4 x28_1; omega) | omega))), trivial⟩ [9, 10, 11, 12, 8, 0, 1, 2, 3, 4, 5, 6, 7] rfl rfl dX5_read_142 (by show (6 + 2 * (v80_17_0).toInt.toNat) ≤ ((p0).toInt.toNat + 20); omega) (by show (62 + 901 * (v80_17_0).toInt.toNat) ≤ (451 * (p0).toInt.toNat + 2000); omega)
  · skip
    refine lv_icmp_ge (tgt := 138) hx hb dX5_read_88 (by decide) (fun c_29 => ?_) (fun c_29 => ?_)
    · replace c_29 := i_le (x := (u_1.2.1 1 0)) (y := v80_17_0) rfl rfl c_29
      exact J_138 _ _ _ _ ⟨(x24_6), (by (first | (clear y8_1 y8_2 y8_4 y8_5 y10_1 y10_2 y10_3 y10_4 y11_1 y11_2 y11_3 y11_4 y12_1 y12_2 y12_3 y12_4 y14_1 y14_2 y14_3 y14_4 x20_2 x21_3 x22_4; omega) | omega)), rfl, h, (lv_sub hl [0, 1, 2, 3] rfl)⟩
    · replace c_29 := i_nle (x := (u_1.2.1 1 0)) (y := v80_17_0) rfl rfl c_29
      refine lv_aload_n hx hb dX5_read_91 rfl (lv_at hl 0 rfl) ?_
      refine q_get X hK h 9 rfl rfl wf_5 2 (by decide) rfl wm_1_146 dX5_read_92 ?_
      refine lv_bipush (v := 26) hx hb dX5_read_95 (by decide) ?_
      refine lv_icmp_eq (tgt := 138) hx hb dX5_read_97 (by decide) (fun c_30 => ?_) (fun c_30 => ?_)
      · replace c_30 := i_eq (x := v80_17_14) (y := 26) rfl (show (26 : Int32).toInt = 26 by decide) c_30
        exact J_138 _ _ _ _ ⟨(x24_6), (by (first | (clear y8_1 y8_2 y8_4 y8_5 y10_1 y10_2 y10_3 y10_4 y11_1 y11_2 y11_3 y11_4 y12_1 y12_2 y12_3 y12_4 y14_1 y14_2 y14_3 y14_4 x20_2 x21_3 x22_4; omega) | omega)), rfl, h, (lv_sub hl [0, 1, 2, 3] rfl)⟩
      · replace c_30 := i_ne (x := v80_17_14) (y := 26) rfl (show (26 : Int32).toInt = 26 by decide) c_30
        refine lv_aload_n hx hb dX5_read_100 rfl (lv_at hl 0 rfl) ?_
        refine q_get X hK h 9 rfl rfl wf_5 2 (by decide) rfl wm_1_146 dX5_read_101 ?_
        refine lv_bipush (v := 27) hx hb dX5_read_104 (by decide) ?_
        refine lv_icmp_eq (tgt := 138) hx hb dX5_read_106 (by decide) (fun c_31 => ?_) (fun c_31 => ?_)
        · replace c_31 := i_eq (x := v80_17_14) (y := 27) rfl (show (27 : Int32).toInt = 27 by decide) c_31
          exact J_138 _ _ _ _ ⟨(x24_6), (by (first | (clear y8_1 y8_2 y8_4 y8_5 y10_1 y10_2 y10_3 y10_4 y11_1 y11_2 y11_3 y11_4 y12_1 y12_2 y12_3 y12_4 y14_1 y14_2 y14_3 y14_4 x20_2 x21_3 x22_4; omega) | omega)), rfl, h, (lv_sub hl [0, 1, 2, 3] rfl)⟩
        · replace c_31 := i_ne (x := v80_17_14) (y := 27) rfl (show (27 : Int32).toInt = 27 by decide) c_31
          refine lv_aload_n hx hb dX5_read_109 rfl (lv_at hl 0 rfl) ?_
          refine q_callVvW (rest := []) (wr := [(h6, .inl (cy 0, 900, .inl f4))]) X hK hT hA h (fun sz => gX5_readLine_ab75d68 l D cy h0 h1 h2 h3 h4 q_5 (u_6.1 0) (u_6.1 1) (u_6.1 2) (u_6.1 3) (u_6.1 4) h5 v80_17_13 v80_17_14 v80_17_15 v80_17_16 v80_17_17 v80_17_18 (.ref h6) (u_1.2.1 0 0) (u_1.2.1 1 0) (u_1.2.1 2) (u_1.2.1 3) (u_1.2.1 4) r_12 v80_17_1 v80_17_2 v80_17_3 v80_17_4 v80_17_5 v80_17_6 v80_17_7 v80_17_8 v80_17_9 v80_17_10 v80_17_11 v80_17_12 (bw hv80_17_13 (by decide) (by decide)) (i_rng _) (i_rng _) (i_rng _) hv80_17_17 (i_rng _) w1_0 w1_1 wr_12 hv80_17_1 (i_rng _) (i_rng _) (rg_wide rv80_17_7 (by decide) (by decide)) (x18_0) (x19_1) (x20_2) (x21_3) (by (first | (clear y8_1 y8_2 y8_4 y8_5 y10_1 y10_2 y10_3 y10_4 y11_1 y11_2 y11_3 y11_4 y12_1 y12_2 y12_3 y12_4 y14_1 y14_2 y14_3 y14_4 x20_2 x21_3 x22_4; omega) | omega)) sz) wm_3_84 wm_3_87 wm_1_2 hd_X5_readLine wm_3_86 wp_1_12 (ci := 5) (q0 := 0) rfl rfl ⟨Nat.le_of_ble_eq_true rfl, Nat.le_of_ble_eq_true rfl⟩ hl.1 rfl (Nat.le_of_ble_eq_true rfl) dX5_read_110 ⟨by show (6 + 2 * (v80_17_0).toInt.toNat) + 2 ≤ ((p0).toInt.toNat + 20); omega, by show (62 + 901 * (v80_17_0).toInt.toNat) + 901 ≤ (451 * (p0).toInt.toNat + 2000); omega⟩ [9, 10, 11, 12, 8, 2, 3, 4, 5, 6, 7, 0] [1] rfl rfl (by decide) rfl rfl (fun u_32 H locs w_32 h_32 => ?_)
          clear h
          obtain ⟨w32_0, w32_1, w32_2, w32_3, w32_4, w32_5, w32_6, w32_7, w32_8, y32_0, y32_1, y32_2, y32_3, y32_4, y32_5, y32_6, y32_7, y32_8, _⟩ := w_32
          replace h_32 : qW D _ _ ([(h6, .inl (cy 0, 900, .inl f4)), (h0, .inr (5, [.ref h1, .int (u_32.1.2.1 1 0), .int (u_32.1.2.1 2 0), .int (u_32.1.2.1 3 0), .int (u_32.1.2.1 4 0), .ref q_5, .ref h5, .int (u_32.1.2.1 11 0), .int (u_32.1.2.1 12 0)])), (h1, .inr (8, [.ref h6, .int (u_1.2.1 0 0), .int (u_1.2.1 1 0), .ref h2, .ref h3, .ref h4])), (h2, .inl (cy 1, 901, .inl (u_1.2.1 2))), (h3, .inl (cy 1, 901, .inl (u_1.2.1 3))), (h4, .inl (cy 1, 901, .inl (u_1.2.1 4))), (q_5, .inr (3, [.int r_12, .int (u_32.1.2.1 5 0), .int v80_17_2, .int (u_32.1.2.1 0 0), (va_rf (u_32.2.2 0)), (va_rf (u_32.2.2 1)), (va_rf (u_32.2.2 2)), .ref (u_6.1 0), .ref (u_6.1 1), .ref (u_6.1 2), .ref (u_6.1 3), .ref (u_6.1 4)])), ((u_6.1 0), .inl (cy 1, 10, .inl (u_32.1.2.1 6))), ((u_6.1 1), .inl (cy 1, 10, .inl (u_32.1.2.1 7))), ((u_6.1 2), .inl (cy 1, 10, .inl (u_32.1.2.1 8))), ((u_6.1 3), .inl (cy 1, 10, .inl (u_32.1.2.1 9))), ((u_6.1 4), .inl (cy 1, 10, .inl (u_32.1.2.1 10))), (h5, .inl (cy 1, 900, .inl (u_32.1.2.1 13)))] ++ (u_32.2.1 ++ v80_17_19)) _ _ := h_32
          refine lv_aload_n hx hb dX5_read_113 rfl (lv_at hl 0 rfl) ?_
          refine lv_bipush (v := 59) hx hb dX5_read_114 (by decide) ?_
          refine q_callVvT (rest := []) (wr := [(h6, .inl (cy 0, 900, .inl f4)), (h4, .inl (cy 1, 901, .inl (u_1.2.1 4))), (q_5, .inr (3, [.int r_12, .int (u_32.1.2.1 5 0), .int v80_17_2, .int (u_32.1.2.1 0 0), (va_rf (u_32.2.2 0)), (va_rf (u_32.2.2 1)), (va_rf (u_32.2.2 2)), .ref (u_6.1 0), .ref (u_6.1 1), .ref (u_6.1 2), .ref (u_6.1 3), .ref (u_6.1 4)])), ((u_6.1 0), .inl (cy 1, 10, .inl (u_32.1.2.1 6))), ((u_6.1 1), .inl (cy 1, 10, .inl (u_32.1.2.1 7))), ((u_6.1 2), .inl (cy 1, 10, .inl (u_32.1.2.1 8))), ((u_6.1 3), .inl (cy 1, 10, .inl (u_32.1.2.1 9))), ((u_6.1 4), .inl (cy 1, 10, .inl (u_32.1.2.1 10))), (h5, .inl (cy 1, 900, .inl (u_32.1.2.1 13)))]) X hK hT hA h_32 (fun sz => gX5_take_4365b58 l D cy h0 h1 h2 h3 (u_32.1.2.1 1 0) (u_32.1.2.1 2 0) (u_32.1.2.1 3 0) (u_32.1.2.1 4 0) (.ref q_5) (.ref h5) (u_32.1.2.1 11 0) (u_32.1.2.1 12 0) (.ref h6) (u_1.2.1 0 0) (u_1.2.1 1 0) (.ref h4) (u_1.2.1 2) (u_1.2.1 3) w32_1 (i_rng _) (i_rng _) (i_rng _) w32_7 (i_rng _) w1_0 w1_1 (x18_0) (y32_0) (y32_1) (y32_2) (by have q0 : (59 : Int32).toInt = 59 := (by decide); (first | (clear y8_1 y8_2 y8_4 y8_5 y10_1 y10_2 y10_3 y10_4 y11_1 y11_2 y11_3 y11_4 y12_1 y12_2 y12_3 y12_4 y14_1 y14_2 y14_3 y14_4 x20_2 x21_3 x22_4 y32_1 y32_2 y32_3 y32_5 y32_8; omega) | omega)) sz) wm_3_72 wm_3_75 wm_1_2 hd_X5_take wm_3_74 wp_1_9 (ci := 5) (q0 := 0) rfl rfl ⟨Nat.le_of_ble_eq_true rfl, Nat.le_of_ble_eq_true rfl⟩ hl.1 rfl (Nat.le_of_ble_eq_true rfl) dX5_read_116 ⟨by show (6 + 2 * (v80_17_0).toInt.toNat) + 2 + 0 ≤ ((p0).toInt.toNat + 20); omega, by show (62 + 901 * (v80_17_0).toInt.toNat) + 901 + 0 ≤ (451 * (p0).toInt.toNat + 2000); omega⟩ [1, 2, 3, 4] [0, 5, 6, 7, 8, 9, 10, 11, 12] rfl rfl (by decide) rfl rfl (fun u_33 H locs w_33 h_33 => ?_)
          clear h_32
          obtain ⟨w33_0, w33_1, w33_2, w33_3, y33_0, y33_1, y33_2, y33_3, y33_4, y33_5, y33_6, _⟩ := w_33
          have lq_33_1 : (59 : Int32).toInt = 59 := (by decide)
          replace h_33 : qW D _ _ ((wk_7cbba6239 cy h6 f4 h4 (u_1.2.1 4) q_5 r_12 (u_32.1.2.1 5 0) v80_17_2 (u_32.1.2.1 0 0) (u_32.2.2 0) (u_32.2.2 1) (u_32.2.2 2) (u_6.1 0) (u_6.1 1) (u_6.1 2) (u_6.1 3) (u_6.1 4) (u_6.1 0) (u_32.1.2.1 6) (u_6.1 1) (u_32.1.2.1 7) (u_6.1 2) (u_32.1.2.1 8) (u_6.1 3) (u_32.1.2.1 9) (u_6.1 4) (u_32.1.2.1 10) h5 (u_32.1.2.1 13) h0 h1 (u_33.2.1 3 0) (u_33.2.1 0 0) (u_33.2.1 1 0) (u_33.2.1 2 0) q_5 h5 (u_32.1.2.1 11 0) (u_32.1.2.1 12 0) h1 h6 (u_1.2.1 0 0) (u_1.2.1 1 0) h2 h3 h4 h2 (u_1.2.1 2) h3 (u_1.2.1 3)) ++ (u_32.2.1 ++ v80_17_19)) _ _ := h_33
          refine lv_aload_n hx hb dX5_read_119 rfl (lv_at hl 0 rfl) ?_
          refine q_get X hK h_33 9 rfl rfl wf_5 5 (by decide) rfl wm_1_151 dX5_read_120 ?_
          refine lv_dup hx hb dX5_read_123 rfl ?_
          refine q_get X hK h_33 2 rfl rfl wf_3 2 (by decide) rfl wm_1_88 dX5_read_124 ?_
          refine lv_iconst (v := 1) hx hb dX5_read_127 (by decide) ?_
          refine lv_iadd hx hb dX5_read_128 ?_
          obtain ⟨z_34, ez_34, hz_34⟩ := e_add (x := v80_17_2) (y := 1) rfl (show (1 : Int32).toInt = 1 by decide) (by omega) (by omega)
          refine q_c z_34 ez_34 ?_
          clear ez_34
          refine q_put (v := .int z_34) X hK h_33 2 rfl rfl wf_3 tyX3 tyX3_ok nmX3 2 (by decide) wm_1_88 rfl rfl rfl (Nat.le_of_ble_eq_true rfl) dX5_read_129 (fun H locs h_35 => ?_)
          clear h_33
          replace h_35 : qW D _ _ ((wk_7cbba6239 cy h6 f4 h4 (u_1.2.1 4) q_5 r_12 (u_32.1.2.1 5 0) z_34 (u_32.1.2.1 0 0) (u_32.2.2 0) (u_32.2.2 1) (u_32.2.2 2) (u_6.1 0) (u_6.1 1) (u_6.1 2) (u_6.1 3) (u_6.1 4) (u_6.1 0) (u_32.1.2.1 6) (u_6.1 1) (u_32.1.2.1 7) (u_6.1 2) (u_32.1.2.1 8) (u_6.1 3) (u_32.1.2.1 9) (u_6.1 4) (u_32.1.2.1 10) h5 (u_32.1.2.1 13) h0 h1 (u_33.2.1 3 0) (u_33.2.1 0 0) (u_33.2.1 1 0) (u_33.2.1 2 0) q_5 h5 (u_32.1.2.1 11 0) (u_32.1.2.1 12 0) h1 h6 (u_1.2.1 0 0) (u_1.2.1 1 0) h2 h3 h4 h2 (u_1.2.1 2) h3 (u_1.2.1 3)) ++ (u_32.2.1 ++ v80_17_19)) _ _ := h_35
          obtain ⟨z_36, ez_36, hz_36⟩ := e_add (x := v80_17_0) (y := Int32.ofInt 1) rfl (b := 1) (by decide) (by omega) (by omega)
          refine lv_iinc (v := z_36) (lv' := [(3, .int z_36), (0, .ref h0), (1, .ref h6), (2, .int p0)]) hx hb dX5_read_132 hl (k := 3) rfl ez_36 (by decide) rfl (fun ls_36 hl_36 => ?_)
          clear hl
          refine lv_goto (tgt := 80) hx hb dX5_read_135 (by decide) ?_
          exact W.widen (by show (6 + 2 * (v80_17_0).toInt.toNat) + 2 ≤ (6 + 2 * (z_36).toInt.toNat); omega) (by show (62 + 901 * (v80_17_0).toInt.toNat) + 901 ≤ (62 + 901 * (z_36).toInt.toNat); omega) (ih_80 (z_36, (u_32.1.2.1 5 0), z_34, (u_32.1.2.1 0 0), (u_32.2.2 0), (u_32.2.2 1), (u_32.2.2 2), (u_33.2.1 3 0), (u_33.2.1 0 0), (u_33.2.1 1 0), (u_33.2.1 2 0), (u_32.1.2.1 11 0), (u_32.1.2.1 12 0)) (by show (902 - (z_36).toInt).toNat < (902 - (v80_17_0).toInt).toNat; omega) _ _ _ ⟨(u_32.1.2.1 6), (u_32.1.2.1 7), (u_32.1.2.1 8), (u_32.1.2.1 9), (u_32.1.2.1 10), (u_32.1.2.1 13), (u_32.2.1 ++ v80_17_19), ⟨by omega, by omega⟩, w32_5, ⟨by omega, by omega⟩, w32_0, ⟨by omega, by omega⟩, w33_0, w33_1, w33_2, w32_7, w32_8, (rg_wide w32_6 (by decide) (by decide)), (x18_0), (y33_0), (y33_1), (y33_4), (cnt_s x22_4 x21_3 (by (first | assumption | (clear y8_1 y8_2 y8_4 y8_5 y10_1 y10_2 y10_3 y10_4 y11_1 y11_2 y11_3 y11_4 y12_1 y12_2 y12_3 y12_4 y14_1 y14_2 y14_3 y14_4 x20_2 x21_3 x22_4 y32_1 y32_2 y32_3 y32_5 y32_8 y33_1 y33_2 y33_3 y33_4; omega) | omega)) y32_5 y32_4 y33_2 y33_5 y33_3 (by (first | assumption | (clear y8_1 y8_2 y8_4 y8_5 y10_1 y10_2 y10_3 y10_4 y11_1 y11_2 y11_3 y11_4 y12_1 y12_2 y12_3 y12_4 y14_1 y14_2 y14_3 y14_4 x20_2 x21_3 x22_4 y32_1 y32_2 y32_3 y32_5 y32_8 y33_1 y33_2 y33_3 y33_4; omega) | omega))), (li_step x23_5 y32_6 h_35.2.1), (lni_s y1_3 x24_6 (by (first | assumption | (clear y8_1 y8_2 y8_4 y8_5 y10_1 y10_2 y10_3 y10_4 y11_1 y11_2 y11_3 y11_4 y12_1 y12_2 y12_3 y12_4 y14_1 y14_2 y14_3 y14_4 x20_2 x21_3 x22_4 y32_1 y32_2 y32_3 y32_5 y32_8 y33_1 y33_2 y33_3 y33_4; omega) | omega)) (by (first | assumption | (clear y8_1 y8_2 y8_4 y8_5 y10_1 y10_2 y10_3 y10_4 y11_1 y11_2 y11_3 y11_4 y12_1 y12_2 y12_3 y12_4 y14_1 y14_2 y14_3 y14_4 x20_2 x21_3 x22_4 y32_1 y32_2 y32_3 y32_5 y32_8 y33_1 y33_2 y33_3 y33_4; omega) | omega)) (by (first | assumption | (clear y8_1 y8_2 y8_4 y8_5 y10_1 y10_2 y10_3 y10_4 y11_1 y11_2 y11_3 y11_4 y12_1 y12_2 y12_3 y12_4 y14_1 y14_2 y14_3 y14_4 x20_2 x21_3 x22_4 y32_1 y32_2 y32_3 y32_5 y32_8 y33_1 y33_2 y33_3 y33_4; omega) | omega)) (by (first | assumption | (clear y8_1 y8_2 y8_4 y8_5 y10_1 y10_2 y10_3 y10_4 y11_1 y11_2 y11_3 y11_4 y12_1 y12_2 y12_3 y12_4 y14_1 y14_2 y14_3 y14_4 x20_2 x21_3 x22_4 y32_1 y32_2 y32_3 y32_5 y32_8 y33_1 y33_2 y33_3 y33_4; omega) | omega)) y32_7 (y33_6 _) (by (first | assumption | (clear y8_1 y8_2 y8_4 y8_5 y10_1 y10_2 y10_3 y10_4 y11_1 y11_2 y11_3 y11_4 y12_1 y12_2 y12_3 y12_4 y14_1 y14_2 y14_3 y14_4 x20_2 x21_3 x22_4 y32_1 y32_2 y32_3 y32_5 y32_8 y33_1 y33_2 y33_3 y33_4; omega) | omega)) (by (first | assumption | (clear y8_1 y8_2 y8_4 y8_5 y10_1 y10_2 y10_3 y10_4 y11_1 y11_2 y11_3 y11_4 y12_1 y12_2 y12_3 y12_4 y14_1 y14_2 y14_3 y14_4 x20_2 x21_3 x22_4 y32_1 y32_2 y32_3 y32_5 y32_8 y33_1 y33_2 y33_3 y33_4; omega) | omega)) (by (first | assumption | (clear y8_1 y8_2 y8_4 y8_5 y10_1 y10_2 y10_3 y10_4 y11_1 y11_2 y11_3 y11_4 y12_1 y12_2 y12_3 y12_4 y14_1 y14_2 y14_3 y14_4 x20_2 x21_3 x22_4 y32_1 y32_2 y32_3 y32_5 y32_8 y33_1 y33_2 y33_3 y33_4; omega) | omega))), (by (first | (clear y8_1 y8_2 y8_4 y8_5 y10_1 y10_2 y10_3 y10_4 y11_1 y11_2 y11_3 y11_4 y12_1 y12_2 y12_3 y12_4 y14_1 y14_2 y14_3 y14_4 x20_2 x21_3 x22_4 y32_1 y32_2 y32_3 y32_5 y32_8 y33_1 y33_2 y33_3 y33_4; omega) | omega)), (q_reT h_35 [8, 0, 2, 3, 4, 5, 6, 7, 1, 9, 10, 11, 12] rfl rfl), (lv_sub hl_36 [1, 2, 3, 0] rfl)⟩)
set_option maxHeartbeats 4000000 in
set_option maxRecDepth 100000 in
theorem gX11_putOnTape_9d88fd1 (l : Launch) (D : va_G) (cy : Nat → ClassId) (h0 : Nat) (h1 : Nat) (p0 : Int32) (p1 : Int32) (p2 : Int32) (p3 : Int32) (w0 : Value) (w1 : Value) (w2 : Value) (w3 : Value) (w4 : Value) (w5 : Value) (w6 : Value) (w7 : Value) (w8 : Value) (w9 : Value) (w10 : Value) (w11 : Value) (p4 : Int32) (f0 : Nat → Int32) (hp0 : (-2147483648) ≤ (p0).toInt ∧ (p0).toInt ≤ 2147483647) (hp1 : 0 ≤ (p1).toInt ∧ (p1).toInt ≤ 900) (hp2 : (-2147483648) ≤ (p2).toInt ∧ (p2).toInt ≤ 2147483647) (hp3 : (-2147483648) ≤ (p3).toInt ∧ (p3).toInt ≤ 2147483647) (hp4 : (-2147483648) ≤ (p4).toInt ∧ (p4).toInt ≤ 2147483647) (rf0 : TB f0) (sz : Nat) : MV l yX11_putOnTape cX11_putOnTape 3 { frames := 0, cells := 0, slots := 0, locals := 0 } [.ref h0, .int p0] D cy (wk_a794cc59d cy h0 h1 p1 p2 p3 w0 w1 w2 w3 w4 w5 w6 w7 w8 w9 w10 w11 p4 h1 f0) sz (fun u => (4 ≤ (u.2.1 0 0).toInt ∧ (u.2.1 0 0).toInt ≤ 900) ∧ TB (u.2.1 1) ∧ (900 < (p1 : Int32).toInt + 4 ∨ ((u.2.1 0 0) : Int32).toInt = (p1 : Int32).toInt + 4) ∧ (900 < (p1 : Int32).toInt + 4 ∨ PTS f0 (u.2.1 1) (p1 : Int32).toInt (p0 : Int32).toInt 4) ∧ True) (fun u => (wk_a794cc59d cy h0 h1 (u.2.1 0 0) p2 p3 w0 w1 w2 w3 w4 w5 w6 w7 w8 w9 w10 w11 p4 h1 (u.2.1 1))) 0 0 := by
  refine q_ent (own := RX11) (by decide) rfl (Nat.le_of_ble_eq_true rfl) (fun p e s m below meth c ls X hr hlk hnm hK hT h hA hl => ?_)
  obtain ⟨hx, hb, hml, hown, ht⟩ := id X
  replace hl : lv_has ls 3 [(0, .ref h0), (1, .int p0)] := hl
  refine lv_bipush (v := 24) hx hb dX11_putOnTape_0 (by decide) ?_
  refine lv_istore_n (lv' := [(2, .int 24), (0, .ref h0), (1, .int p0)]) hx hb dX11_putOnTape_2 rfl hl (by decide) rfl (fun ls_1 hl_1 => ?_)
  clear hl
  refine lv_iload_n hx hb dX11_putOnTape_3 rfl (lv_at hl_1 0 rfl) ?_
  refine lv_if_lt (tgt := 46) hx hb dX11_putOnTape_4 (by decide) (fun c => absurd c (by decide +kernel)) (fun _ => ?_)
  refine lv_aload_n hx hb dX11_putOnTape_7 rfl (lv_at hl_1 1 rfl) ?_
  refine q_get X hK h 0 rfl rfl wf_11 1 (by decide) rfl wm_2_99 dX11_putOnTape_8 ?_
  refine lv_sipush (v := 900) hx hb dX11_putOnTape_11 (by decide) ?_
  refine lv_icmp_ge (tgt := 46) hx hb dX11_putOnTape_14 (by decide) (fun c_2 => ?_) (fun c_2 => ?_)
  · replace c_2 := i_le (x := 900) (y := p1) (show (900 : Int32).toInt = 900 by decide) rfl c_2
    exact q_vret X hr hlk hK h (fun _ => 0, (vcons (fun _ => p1) (vcons f0 (fun _ => (fun _ => 0)))), fun _ _ => 0) ⟨(⟨by omega, by omega⟩ : 4 ≤ (p1 : Int32).toInt ∧ (p1 : Int32).toInt ≤ 900), rf0, (show 900 < (p1 : Int32).toInt + 4 ∨ (p1 : Int32).toInt = (p1 : Int32).toInt + 4 from by omega), (show 900 < (p1 : Int32).toInt + 4 ∨ PTS f0 f0 (p1 : Int32).toInt (p0 : Int32).toInt 4 from Or.inl (by omega)), trivial⟩ [0, 1] rfl rfl dX11_putOnTape_46 (Nat.le_of_ble_eq_true rfl) (Nat.le_of_ble_eq_true rfl)
  · replace c_2 := i_nle (x := 900) (y := p1) (show (900 : Int32).toInt = 900 by decide) rfl c_2
    refine lv_aload_n hx hb dX11_putOnTape_17 rfl (lv_at hl_1 1 rfl) ?_
    refine q_get X hK h 0 rfl rfl wf_11 0 (by decide) rfl wm_2_98 dX11_putOnTape_18 ?_
    refine lv_aload_n hx hb dX11_putOnTape_21 rfl (lv_at hl_1 1 rfl) ?_
    refine q_get X hK h 0 rfl rfl wf_11 1 (by decide) rfl wm_2_99 dX11_putOnTape_22 ?_
    refine lv_iload_n hx hb dX11_putOnTape_25 rfl (lv_at hl_1 2 rfl) ?_
    refine lv_iload_n hx hb dX11_putOnTape_26 rfl (lv_at hl_1 0 rfl) ?_
    refine lv_iushr hx hb dX11_putOnTape_27 rfl ?_
    obtain ⟨z_3, ez_3, hz_3⟩ := e_any (((p0).toUInt32 >>> ((24 : Int32).toUInt32 &&& Int32.toUInt32 31)).toInt32)
    refine q_c z_3 ez_3 ?_
    refine lv_i2b hx hb dX11_putOnTape_28 rfl ?_
    obtain ⟨z_4, ez_4, hz_4⟩ := e_i2b z_3
    refine q_c z_4 ez_4 ?_
    refine q_bast X hK h 1 rfl (i_in rfl (by omega) (by omega)) dX11_putOnTape_29 (fun H locs h_6 => ?_)
    clear h
    replace h_6 : qW D _ _ (wk_a794cc59d cy h0 h1 p1 p2 p3 w0 w1 w2 w3 w4 w5 w6 w7 w8 w9 w10 w11 p4 h1 (upd f0 (Int32.toNatClampNeg p1) (vp_nar .byte z_4))) _ _ := h_6
    obtain ⟨F_5, eF_5, rF_5⟩ := tb_upd rf0 (i := p1) (x := z_4) rfl rfl (by omega)
    rw [eF_5] at h_6
    have pt_7 : PTS f0 F_5 (p1 : Int32).toInt (p0 : Int32).toInt 1 := pts_s (m := 0) (n := 24) (show PTS f0 f0 (p1 : Int32).toInt (p0 : Int32).toInt 0 from pts_0 rfl) (by omega) (by omega) (by decide) (by decide) (by decide) ez_3 ez_4 eF_5 (by decide)
    refine lv_aload_n hx hb dX11_putOnTape_30 rfl (lv_at hl_1 1 rfl) ?_
    refine lv_dup hx hb dX11_putOnTape_31 rfl ?_
    refine q_get X hK h_6 0 rfl rfl wf_11 1 (by decide) rfl wm_2_99 dX11_putOnTape_32 ?_
    refine lv_iconst (v := 1) hx hb dX11_putOnTape_35 (by decide) ?_
    refine lv_iadd hx hb dX11_putOnTape_36 ?_
    obtain ⟨z_8, ez_8, hz_8⟩ := e_add (x := p1) (y := 1) rfl (show (1 : Int32).toInt = 1 by decide) (by omega) (by omega)
    refine q_c z_8 ez_8 ?_
    clear ez_8
    refine q_put (v := .int z_8) X hK h_6 0 rfl rfl wf_11 tyX11 tyX11_ok nmX11 1 (by decide) wm_2_99 rfl rfl rfl (Nat.le_of_ble_eq_true rfl) dX11_putOnTape_37 (fun H locs h_9 => ?_)
    clear h_6
    replace h_9 : qW D _ _ (wk_a794cc59d cy h0 h1 z_8 p2 p3 w0 w1 w2 w3 w4 w5 w6 w7 w8 w9 w10 w11 p4 h1 F_5) _ _ := h_9
    refine lv_iinc (v := 16) (lv' := [(2, .int 16), (0, .ref h0), (1, .int p0)]) hx hb dX11_putOnTape_40 hl_1 (k := 0) rfl (by decide +kernel) (by decide) rfl (fun ls_10 hl_10 => ?_)
    clear hl_1
    refine lv_goto (tgt := 3) hx hb dX11_putOnTape_43 (by decide) ?_
    refine lv_iload_n hx hb dX11_putOnTape_3 rfl (lv_at hl_10 0 rfl) ?_
    refine lv_if_lt (tgt := 46) hx hb dX11_putOnTape_4 (by decide) (fun c => absurd c (by decide +kernel)) (fun _ => ?_)
    refine lv_aload_n hx hb dX11_putOnTape_7 rfl (lv_at hl_10 1 rfl) ?_
    refine q_get X hK h_9 0 rfl rfl wf_11 1 (by decide) rfl wm_2_99 dX11_putOnTape_8 ?_
    refine lv_sipush (v := 900) hx hb dX11_putOnTape_11 (by decide) ?_
    refine lv_icmp_ge (tgt := 46) hx hb dX11_putOnTape_14 (by decide) (fun c_11 => ?_) (fun c_11 => ?_)
    · replace c_11 := i_le (x := 900) (y := z_8) (show (900 : Int32).toInt = 900 by decide) rfl c_11
      exact q_vret X hr hlk hK h_9 (fun _ => 0, (vcons (fun _ => z_8) (vcons F_5 (fun _ => (fun _ => 0)))), fun _ _ => 0) ⟨(⟨by omega, by omega⟩ : 4 ≤ (z_8 : Int32).toInt ∧ (z_8 : Int32).toInt ≤ 900), rF_5, (show 900 < (p1 : Int32).toInt + 4 ∨ (z_8 : Int32).toInt = (p1 : Int32).toInt + 4 from by omega), (show 900 < (p1 : Int32).toInt + 4 ∨ PTS f0 F_5 (p1 : Int32).toInt (p0 : Int32).toInt 4 from Or.inl (by omega)), trivial⟩ [0, 1] rfl rfl dX11_putOnTape_46 (Nat.le_of_ble_eq_true rfl) (Nat.le_of_ble_eq_true rfl)
    · replace c_11 := i_nle (x := 900) (y := z_8) (show (900 : Int32).toInt = 900 by decide) rfl c_11
      refine lv_aload_n hx hb dX11_putOnTape_17 rfl (lv_at hl_10 1 rfl) ?_
      refine q_get X hK h_9 0 rfl rfl wf_11 0 (by decide) rfl wm_2_98 dX11_putOnTape_18 ?_
      refine lv_aload_n hx hb dX11_putOnTape_21 rfl (lv_at hl_10 1 rfl) ?_
      refine q_get X hK h_9 0 rfl rfl wf_11 1 (by decide) rfl wm_2_99 dX11_putOnTape_22 ?_
      refine lv_iload_n hx hb dX11_putOnTape_25 rfl (lv_at hl_10 2 rfl) ?_
      refine lv_iload_n hx hb dX11_putOnTape_26 rfl (lv_at hl_10 0 rfl) ?_
      refine lv_iushr hx hb dX11_putOnTape_27 rfl ?_
      obtain ⟨z_12, ez_12, hz_12⟩ := e_any (((p0).toUInt32 >>> ((16 : Int32).toUInt32 &&& Int32.toUInt32 31)).toInt32)
      refine q_c z_12 ez_12 ?_
      refine lv_i2b hx hb dX11_putOnTape_28 rfl ?_
      obtain ⟨z_13, ez_13, hz_13⟩ := e_i2b z_12
      refine q_c z_13 ez_13 ?_
      refine q_bast X hK h_9 1 rfl (i_in rfl (by omega) (by omega)) dX11_putOnTape_29 (fun H locs h_15 => ?_)
      clear h_9
      replace h_15 : qW D _ _ (wk_a794cc59d cy h0 h1 z_8 p2 p3 w0 w1 w2 w3 w4 w5 w6 w7 w8 w9 w10 w11 p4 h1 (upd F_5 (Int32.toNatClampNeg z_8) (vp_nar .byte z_13))) _ _ := h_15
      obtain ⟨F_14, eF_14, rF_14⟩ := tb_upd rF_5 (i := z_8) (x := z_13) rfl rfl (by omega)
      rw [eF_14] at h_15
      have pt_16 : PTS f0 F_14 (p1 : Int32).toInt (p0 : Int32).toInt 2 := pts_s (m := 1) (n := 16) pt_7 (by omega) (by omega) (by decide) (by decide) (by decide) ez_12 ez_13 eF_14 (by decide)
      refine lv_aload_n hx hb dX11_putOnTape_30 rfl (lv_at hl_10 1 rfl) ?_
      refine lv_dup hx hb dX11_putOnTape_31 rfl ?_
      refine q_get X hK h_15 0 rfl rfl wf_11 1 (by decide) rfl wm_2_99 dX11_putOnTape_32 ?_
      refine lv_iconst (v := 1) hx hb dX11_putOnTape_35 (by decide) ?_
      refine lv_iadd hx hb dX11_putOnTape_36 ?_
      obtain ⟨z_17, ez_17, hz_17⟩ := e_add (x := z_8) (y := 1) rfl (show (1 : Int32).toInt = 1 by decide) (by omega) (by omega)
      refine q_c z_17 ez_17 ?_
      clear ez_17
      refine q_put (v := .int z_17) X hK h_15 0 rfl rfl wf_11 tyX11 tyX11_ok nmX11 1 (by decide) wm_2_99 rfl rfl rfl (Nat.le_of_ble_eq_true rfl) dX11_putOnTape_37 (fun H locs h_18 => ?_)
      clear h_15
      replace h_18 : qW D _ _ (wk_a794cc59d cy h0 h1 z_17 p2 p3 w0 w1 w2 w3 w4 w5 w6 w7 w8 w9 w10 w11 p4 h1 F_14) _ _ := h_18
      refine lv_iinc (v := 8) (lv' := [(2, .int 8), (0, .ref h0), (1, .int p0)]) hx hb dX11_putOnTape_40 hl_10 (k := 0) rfl (by decide +kernel) (by decide) rfl (fun ls_19 hl_19 => ?_)
      clear hl_10
      refine lv_goto (tgt := 3) hx hb dX11_putOnTape_43 (by decide) ?_
      refine lv_iload_n hx hb dX11_putOnTape_3 rfl (lv_at hl_19 0 rfl) ?_
      refine lv_if_lt (tgt := 46) hx hb dX11_putOnTape_4 (by decide) (fun c => absurd c (by decide +kernel)) (fun _ => ?_)
      refine lv_aload_n hx hb dX11_putOnTape_7 rfl (lv_at hl_19 1 rfl) ?_
      refine q_get X hK h_18 0 rfl rfl wf_11 1 (by decide) rfl wm_2_99 dX11_putOnTape_8 ?_
      refine lv_sipush (v := 900) hx hb dX11_putOnTape_11 (by decide) ?_
      refine lv_icmp_ge (tgt := 46) hx hb dX11_putOnTape_14 (by decide) (fun c_20 => ?_) (fun c_20 => ?_)
      · replace c_20 := i_le (x := 900) (y := z_17) (show (900 : Int32).toInt = 900 by decide) rfl c_20
        exact q_vret X hr hlk hK h_18 (fun _ => 0, (vcons (fun _ => z_17) (vcons F_14 (fun _ => (fun _ => 0)))), fun _ _ => 0) ⟨(⟨by omega, by omega⟩ : 4 ≤ (z_17 : Int32).toInt ∧ (z_17 : Int32).toInt ≤ 900), rF_14, (show 900 < (p1 : Int32).toInt + 4 ∨ (z_17 : Int32).toInt = (p1 : Int32).toInt + 4 from by omega), (show 900 < (p1 : Int32).toInt + 4 ∨ PTS f0 F_14 (p1 : Int32).toInt (p0 : Int32).toInt 4 from Or.inl (by omega)), trivial⟩ [0, 1] rfl rfl dX11_putOnTape_46 (Nat.le_of_ble_eq_true rfl) (Nat.le_of_ble_eq_true rfl)
      · replace c_20 := i_nle (x := 900) (y := z_17) (show (900 : Int32).toInt = 900 by decide) rfl c_20
        refine lv_aload_n hx hb dX11_putOnTape_17 rfl (lv_at hl_19 1 rfl) ?_
        refine q_get X hK h_18 0 rfl rfl wf_11 0 (by decide) rfl wm_2_98 dX11_putOnTape_18 ?_
        refine lv_aload_n hx hb dX11_putOnTape_21 rfl (lv_at hl_19 1 rfl) ?_
        refine q_get X hK h_18 0 rfl rfl wf_11 1 (by decide) rfl wm_2_99 dX11_putOnTape_22 ?_
        refine lv_iload_n hx hb dX11_putOnTape_25 rfl (lv_at hl_19 2 rfl) ?_
        refine lv_iload_n hx hb dX11_putOnTape_26 rfl (lv_at hl_19 0 rfl) ?_
        refine lv_iushr hx hb dX11_putOnTape_27 rfl ?_
        obtain ⟨z_21, ez_21, hz_21⟩ := e_any (((p0).toUInt32 >>> ((8 : Int32).toUInt32 &&& Int32.toUInt32 31)).toInt32)
        refine q_c z_21 ez_21 ?_
        refine lv_i2b hx hb dX11_putOnTape_28 rfl ?_
        obtain ⟨z_22, ez_22, hz_22⟩ := e_i2b z_21
        refine q_c z_22 ez_22 ?_
        refine q_bast X hK h_18 1 rfl (i_in rfl (by omega) (by omega)) dX11_putOnTape_29 (fun H locs h_24 => ?_)
        clear h_18
        replace h_24 : qW D _ _ (wk_a794cc59d cy h0 h1 z_17 p2 p3 w0 w1 w2 w3 w4 w5 w6 w7 w8 w9 w10 w11 p4 h1 (upd F_14 (Int32.toNatClampNeg z_17) (vp_nar .byte z_22))) _ _ := h_24
        obtain ⟨F_23, eF_23, rF_23⟩ := tb_upd rF_14 (i := z_17) (x := z_22) rfl rfl (by omega)
        rw [eF_23] at h_24
        have pt_25 : PTS f0 F_23 (p1 : Int32).toInt (p0 : Int32).toInt 3 := pts_s (m := 2) (n := 8) pt_16 (by omega) (by omega) (by decide) (by decide) (by decide) ez_21 ez_22 eF_23 (by decide)
        refine lv_aload_n hx hb dX11_putOnTape_30 rfl (lv_at hl_19 1 rfl) ?_
        refine lv_dup hx hb dX11_putOnTape_31 rfl ?_
        refine q_get X hK h_24 0 rfl rfl wf_11 1 (by decide) rfl wm_2_99 dX11_putOnTape_32 ?_
        refine lv_iconst (v := 1) hx hb dX11_putOnTape_35 (by decide) ?_
        refine lv_iadd hx hb dX11_putOnTape_36 ?_
        obtain ⟨z_26, ez_26, hz_26⟩ := e_add (x := z_17) (y := 1) rfl (show (1 : Int32).toInt = 1 by decide) (by omega) (by omega)
        refine q_c z_26 ez_26 ?_
        clear ez_26
        refine q_put (v := .int z_26) X hK h_24 0 rfl rfl wf_11 tyX11 tyX11_ok nmX11 1 (by decide) wm_2_99 rfl rfl rfl (Nat.le_of_ble_eq_true rfl) dX11_putOnTape_37 (fun H locs h_27 => ?_)
        clear h_24
        replace h_27 : qW D _ _ (wk_a794cc59d cy h0 h1 z_26 p2 p3 w0 w1 w2 w3 w4 w5 w6 w7 w8 w9 w10 w11 p4 h1 F_23) _ _ := h_27
        refine lv_iinc (v := 0) (lv' := [(2, .int 0), (0, .ref h0), (1, .int p0)]) hx hb dX11_putOnTape_40 hl_19 (k := 0) rfl (by decide +kernel) (by decide) rfl (fun ls_28 hl_28 => ?_)
        clear hl_19
        refine lv_goto (tgt := 3) hx hb dX11_putOnTape_43 (by decide) ?_
        refine lv_iload_n hx hb dX11_putOnTape_3 rfl (lv_at hl_28 0 rfl) ?_
        refine lv_if_lt (tgt := 46) hx hb dX11_putOnTape_4 (by decide) (fun c => absurd c (by decide +kernel)) (fun _ => ?_)
        refine lv_aload_n hx hb dX11_putOnTape_7 rfl (lv_at hl_28 1 rfl) ?_
        refine q_get X hK h_27 0 rfl rfl wf_11 1 (by decide) rfl wm_2_99 dX11_putOnTape_8 ?_
        refine lv_sipush (v := 900) hx hb dX11_putOnTape_11 (by decide) ?_
        refine lv_icmp_ge (tgt := 46) hx hb dX11_putOnTape_14 (by decide) (fun c_29 => ?_) (fun c_29 => ?_)
        · replace c_29 := i_le (x := 900) (y := z_26) (show (900 : Int32).toInt = 900 by decide) rfl c_29
          exact q_vret X hr hlk hK h_27 (fun _ => 0, (vcons (fun _ => z_26) (vcons F_23 (fun _ => (fun _ => 0)))), fun _ _ => 0) ⟨(⟨by omega, by omega⟩ : 4 ≤ (z_26 : Int32).toInt ∧ (z_26 : Int32).toInt ≤ 900), rF_23, (show 900 < (p1 : Int32).toInt + 4 ∨ (z_26 : Int32).toInt = (p1 : Int32).toInt + 4 from by omega), (show 900 < (p1 : Int32).toInt + 4 ∨ PTS f0 F_23 (p1 : Int32).toInt (p0 : Int32).toInt 4 from Or.inl (by omega)), trivial⟩ [0, 1] rfl rfl dX11_putOnTape_46 (Nat.le_of_ble_eq_true rfl) (Nat.le_of_ble_eq_true rfl)
        · replace c_29 := i_nle (x := 900) (y := z_26) (show (900 : Int32).toInt = 900 by decide) rfl c_29
          refine lv_aload_n hx hb dX11_putOnTape_17 rfl (lv_at hl_28 1 rfl) ?_
          refine q_get X hK h_27 0 rfl rfl wf_11 0 (by decide) rfl wm_2_98 dX11_putOnTape_18 ?_
          refine lv_aload_n hx hb dX11_putOnTape_21 rfl (lv_at hl_28 1 rfl) ?_
          refine q_get X hK h_27 0 rfl rfl wf_11 1 (by decide) rfl wm_2_99 dX11_putOnTape_22 ?_
          refine lv_iload_n hx hb dX11_putOnTape_25 rfl (lv_at hl_28 2 rfl) ?_
          refine lv_iload_n hx hb dX11_putOnTape_26 rfl (lv_at hl_28 0 rfl) ?_
          refine lv_iushr hx hb dX11_putOnTape_27 rfl ?_
          obtain ⟨z_30, ez_30, hz_30⟩ := e_any (((p0).toUInt32 >>> ((0 : Int32).toUInt32 &&& Int32.toUInt32 31)).toInt32)
          refine q_c z_30 ez_30 ?_
          refine lv_i2b hx hb dX11_putOnTape_28 rfl ?_
          obtain ⟨z_31, ez_31, hz_31⟩ := e_i2b z_30
          refine q_c z_31 ez_31 ?_
          refine q_bast X hK h_27 1 rfl (i_in rfl (by omega) (by omega)) dX11_putOnTape_29 (fun H locs h_33 => ?_)
          clear h_27
          replace h_33 : qW D _ _ (wk_a794cc59d cy h0 h1 z_26 p2 p3 w0 w1 w2 w3 w4 w5 w6 w7 w8 w9 w10 w11 p4 h1 (upd F_23 (Int32.toNatClampNeg z_26) (vp_nar .byte z_31))) _ _ := h_33
          obtain ⟨F_32, eF_32, rF_32⟩ := tb_upd rF_23 (i := z_26) (x := z_31) rfl rfl (by omega)
          rw [eF_32] at h_33
          have pt_34 : PTS f0 F_32 (p1 : Int32).toInt (p0 : Int32).toInt 4 := pts_s (m := 3) (n := 0) pt_25 (by omega) (by omega) (by decide) (by decide) (by decide) ez_30 ez_31 eF_32 (by decide)
          refine lv_aload_n hx hb dX11_putOnTape_30 rfl (lv_at hl_28 1 rfl) ?_
          refine lv_dup hx hb dX11_putOnTape_31 rfl ?_
          refine q_get X hK h_33 0 rfl rfl wf_11 1 (by decide) rfl wm_2_99 dX11_putOnTape_32 ?_
          refine lv_iconst (v := 1) hx hb dX11_putOnTape_35 (by decide) ?_
          refine lv_iadd hx hb dX11_putOnTape_36 ?_
          obtain ⟨z_35, ez_35, hz_35⟩ := e_add (x := z_26) (y := 1) rfl (show (1 : Int32).toInt = 1 by decide) (by omega) (by omega)
          refine q_c z_35 ez_35 ?_
          clear ez_35
          refine q_put (v := .int z_35) X hK h_33 0 rfl rfl wf_11 tyX11 tyX11_ok nmX11 1 (by decide) wm_2_99 rfl rfl rfl (Nat.le_of_ble_eq_true rfl) dX11_putOnTape_37 (fun H locs h_36 => ?_)
          clear h_33
          replace h_36 : qW D _ _ (wk_a794cc59d cy h0 h1 z_35 p2 p3 w0 w1 w2 w3 w4 w5 w6 w7 w8 w9 w10 w11 p4 h1 F_32) _ _ := h_36
          refine lv_iinc (v := (-8)) (lv' := [(2, .int (-8)), (0, .ref h0), (1, .int p0)]) hx hb dX11_putOnTape_40 hl_28 (k := 0) rfl (by decide +kernel) (by decide) rfl (fun ls_37 hl_37 => ?_)
          clear hl_28
          refine lv_goto (tgt := 3) hx hb dX11_putOnTape_43 (by decide) ?_
          refine lv_iload_n hx hb dX11_putOnTape_3 rfl (lv_at hl_37 0 rfl) ?_
          refine lv_if_lt (tgt := 46) hx hb dX11_putOnTape_4 (by decide) (fun _ => ?_) (fun c => absurd c (by decide +kernel))
          exact q_vret X hr hlk hK h_36 (fun _ => 0, (vcons (fun _ => z_35) (vcons F_32 (fun _ => (fun _ => 0)))), fun _ _ => 0) ⟨(⟨by omega, by omega⟩ : 4 ≤ (z_35 : Int32).toInt ∧ (z_35 : Int32).toInt ≤ 900), rF_32, (show 900 < (p1 : Int32).toInt + 4 ∨ (z_35 : Int32).toInt = (p1 : Int32).toInt + 4 from by omega), (show 900 < (p1 : Int32).toInt + 4 ∨ PTS f0 F_32 (p1 : Int32).toInt (p0 : Int32).toInt 4 from Or.inr pt_34), trivial⟩ [0, 1] rfl rfl dX11_putOnTape_46 (Nat.le_of_ble_eq_true rfl) (Nat.le_of_ble_eq_true rfl)
set_option maxHeartbeats 4000000 in
set_option maxRecDepth 100000 in
theorem gX11_feed_982a50c (l : Launch) (D : va_G) (cy : Nat → ClassId) (h0 : Nat) (h1 : Nat) (p0 : Int32) (p1 : Int32) (p2 : Int32) (p3 : Int32) (p4 : Int32) (p5 : Int32) (p6 : Int32) (p7 : Int32) (w0 : Value) (w1 : Value) (w2 : Value) (w3 : Value) (w4 : Value) (w5 : Value) (w6 : Value) (w7 : Value) (w8 : Value) (w9 : Value) (w10 : Value) (w11 : Value) (p8 : Int32) (f0 : Nat → Int32) (hp0 : (-2147483648) ≤ (p0).toInt ∧ (p0).toInt ≤ 2147483647) (hp1 : (-2147483648) ≤ (p1).toInt ∧ (p1).toInt ≤ 2147483647) (hp2 : (-2147483648) ≤ (p2).toInt ∧ (p2).toInt ≤ 2147483647) (hp3 : (-2147483648) ≤ (p3).toInt ∧ (p3).toInt ≤ 2147483647) (hp4 : (-2147483648) ≤ (p4).toInt ∧ (p4).toInt ≤ 2147483647) (hp5 : 0 ≤ (p5).toInt ∧ (p5).toInt ≤ 900) (hp6 : (-2147483648) ≤ (p6).toInt ∧ (p6).toInt ≤ 2147483647) (hp7 : (-2147483648) ≤ (p7).toInt ∧ (p7).toInt ≤ 2147483647) (hp8 : (-2147483648) ≤ (p8).toInt ∧ (p8).toInt ≤ 2147483647) (rf0 : TB f0) (sz : Nat) : MI l yX11_feed cX11_feed 6 .int { frames := 1, cells := 0, slots := 0, locals := 22 } [.ref h0, .int p0, .int p1, .int p2, .int p3, .int p4] D cy (wk_a794cc59d cy h0 h1 p5 p6 p7 w0 w1 w2 w3 w4 w5 w6 w7 w8 w9 w10 w11 p8 h1 f0) sz (fun r u => ((-5) ≤ r.toInt ∧ r.toInt ≤ 900) ∧ (0 ≤ (u.2.1 0 0).toInt ∧ (u.2.1 0 0).toInt ≤ 900) ∧ TB (u.2.1 1) ∧ (((r : Int32).toInt = -5 ∧ 900 < (p5 : Int32).toInt + 20 ∧ ((u.2.1 0 0) : Int32).toInt = (p5 : Int32).toInt) ∨ ((r : Int32).toInt = ((u.2.1 0 0) : Int32).toInt ∧ ((u.2.1 0 0) : Int32).toInt = (p5 : Int32).toInt + 20 ∧ ((u.2.1 0 0) : Int32).toInt ≤ 900)) ∧ (((r : Int32).toInt = -5 ∧ bB (u.2.1 1) = bB f0) ∨ ((r : Int32).toInt ≠ -5 ∧ bB (u.2.1 1) = fdB (bB f0) (p5 : Int32).toInt (pk5 (p0 : Int32).toInt (p1 : Int32).toInt (p2 : Int32).toInt (p3 : Int32).toInt (p4 : Int32).toInt))) ∧ True) (fun u => (wk_a794cc59d cy h0 h1 (u.2.1 0 0) p6 p7 w0 w1 w2 w3 w4 w5 w6 w7 w8 w9 w10 w11 p8 h1 (u.2.1 1))) 0 0 := by
  refine q_ent (own := RX11) (by decide) rfl (Nat.le_of_ble_eq_true rfl) (fun p e s m below meth c ls X hr hlk hnm hK hT h hA hl => ?_)
  obtain ⟨hx, hb, hml, hown, ht⟩ := id X
  replace hl : lv_has ls 6 [(0, .ref h0), (1, .int p0), (2, .int p1), (3, .int p2), (4, .int p3), (5, .int p4)] := hl
  refine lv_aload_n hx hb dX11_feed_0 rfl (lv_at hl 0 rfl) ?_
  refine q_get X hK h 0 rfl rfl wf_11 1 (by decide) rfl wm_2_99 dX11_feed_1 ?_
  refine lv_bipush (v := 20) hx hb dX11_feed_4 (by decide) ?_
  refine lv_iadd hx hb dX11_feed_6 ?_
  obtain ⟨z_1, ez_1, hz_1⟩ := e_add (x := p5) (y := 20) rfl (show (20 : Int32).toInt = 20 by decide) (by omega) (by omega)
  refine q_c z_1 ez_1 ?_
  clear ez_1
  refine lv_sipush (v := 900) hx hb dX11_feed_7 (by decide) ?_
  refine lv_icmp_le (tgt := 16) hx hb dX11_feed_10 (by decide) (fun c_2 => ?_) (fun c_2 => ?_)
  · replace c_2 := i_le (x := z_1) (y := 900) rfl (show (900 : Int32).toInt = 900 by decide) c_2
    refine lv_aload_n hx hb dX11_feed_16 rfl (lv_at hl 0 rfl) ?_
    refine lv_iload_n hx hb dX11_feed_17 rfl (lv_at hl 1 rfl) ?_
    refine q_callVv (rest := []) (wr := []) X hK hT hA h (fun sz => gX11_putOnTape_9d88fd1 l D cy h0 h1 p0 p5 p6 p7 w0 w1 w2 w3 w4 w5 w6 w7 w8 w9 w10 w11 p8 f0 (i_rng _) hp5 (i_rng _) (i_rng _) (i_rng _) rf0 sz) wm_2_154 wm_2_157 wm_1_1 hd_X11_putOnTape wm_2_156 wp_1_0 (ci := 11) (q0 := 0) rfl rfl ⟨Nat.le_of_ble_eq_true rfl, Nat.le_of_ble_eq_true rfl⟩ hl.1 rfl (Nat.le_of_ble_eq_true rfl) dX11_feed_18 ⟨Nat.le_of_ble_eq_true rfl, Nat.le_of_ble_eq_true rfl⟩ [0, 1] [] rfl rfl (by decide) rfl rfl (fun u_3 H locs w_3 h_3 => ?_)
    clear h
    obtain ⟨w3_0, w3_1, y3_0, y3_1, _⟩ := w_3
    replace h_3 : qW D _ _ (wk_a794cc59d cy h0 h1 (u_3.2.1 0 0) p6 p7 w0 w1 w2 w3 w4 w5 w6 w7 w8 w9 w10 w11 p8 h1 (u_3.2.1 1)) _ _ := h_3
    refine lv_aload_n hx hb dX11_feed_21 rfl (lv_at hl 0 rfl) ?_
    refine lv_iload_n hx hb dX11_feed_22 rfl (lv_at hl 2 rfl) ?_
    refine q_callVv (rest := []) (wr := []) X hK hT hA h_3 (fun sz => gX11_putOnTape_9d88fd1 l D cy h0 h1 p1 (u_3.2.1 0 0) p6 p7 w0 w1 w2 w3 w4 w5 w6 w7 w8 w9 w10 w11 p8 (u_3.2.1 1) (i_rng _) (bw w3_0 (by decide) (by decide)) (i_rng _) (i_rng _) (i_rng _) w3_1 sz) wm_2_154 wm_2_157 wm_1_1 hd_X11_putOnTape wm_2_156 wp_1_0 (ci := 11) (q0 := 0) rfl rfl ⟨Nat.le_of_ble_eq_true rfl, Nat.le_of_ble_eq_true rfl⟩ hl.1 rfl (Nat.le_of_ble_eq_true rfl) dX11_feed_23 ⟨Nat.le_of_ble_eq_true rfl, Nat.le_of_ble_eq_true rfl⟩ [0, 1] [] rfl rfl (by decide) rfl rfl (fun u_4 H locs w_4 h_4 => ?_)
    clear h_3
    obtain ⟨w4_0, w4_1, y4_0, y4_1, _⟩ := w_4
    replace h_4 : qW D _ _ (wk_a794cc59d cy h0 h1 (u_4.2.1 0 0) p6 p7 w0 w1 w2 w3 w4 w5 w6 w7 w8 w9 w10 w11 p8 h1 (u_4.2.1 1)) _ _ := h_4
    refine lv_aload_n hx hb dX11_feed_26 rfl (lv_at hl 0 rfl) ?_
    refine lv_iload_n hx hb dX11_feed_27 rfl (lv_at hl 3 rfl) ?_
    refine q_callVv (rest := []) (wr := []) X hK hT hA h_4 (fun sz => gX11_putOnTape_9d88fd1 l D cy h0 h1 p2 (u_4.2.1 0 0) p6 p7 w0 w1 w2 w3 w4 w5 w6 w7 w8 w9 w10 w11 p8 (u_4.2.1 1) (i_rng _) (bw w4_0 (by decide) (by decide)) (i_rng _) (i_rng _) (i_rng _) w4_1 sz) wm_2_154 wm_2_157 wm_1_1 hd_X11_putOnTape wm_2_156 wp_1_0 (ci := 11) (q0 := 0) rfl rfl ⟨Nat.le_of_ble_eq_true rfl, Nat.le_of_ble_eq_true rfl⟩ hl.1 rfl (Nat.le_of_ble_eq_true rfl) dX11_feed_28 ⟨Nat.le_of_ble_eq_true rfl, Nat.le_of_ble_eq_true rfl⟩ [0, 1] [] rfl rfl (by decide) rfl rfl (fun u_5 H locs w_5 h_5 => ?_)
    clear h_4
    obtain ⟨w5_0, w5_1, y5_0, y5_1, _⟩ := w_5
    replace h_5 : qW D _ _ (wk_a794cc59d cy h0 h1 (u_5.2.1 0 0) p6 p7 w0 w1 w2 w3 w4 w5 w6 w7 w8 w9 w10 w11 p8 h1 (u_5.2.1 1)) _ _ := h_5
    refine lv_aload_n hx hb dX11_feed_31 rfl (lv_at hl 0 rfl) ?_
    refine lv_iload hx hb dX11_feed_32 (lv_at hl 4 rfl) ?_
    refine q_callVv (rest := []) (wr := []) X hK hT hA h_5 (fun sz => gX11_putOnTape_9d88fd1 l D cy h0 h1 p3 (u_5.2.1 0 0) p6 p7 w0 w1 w2 w3 w4 w5 w6 w7 w8 w9 w10 w11 p8 (u_5.2.1 1) (i_rng _) (bw w5_0 (by decide) (by decide)) (i_rng _) (i_rng _) (i_rng _) w5_1 sz) wm_2_154 wm_2_157 wm_1_1 hd_X11_putOnTape wm_2_156 wp_1_0 (ci := 11) (q0 := 0) rfl rfl ⟨Nat.le_of_ble_eq_true rfl, Nat.le_of_ble_eq_true rfl⟩ hl.1 rfl (Nat.le_of_ble_eq_true rfl) dX11_feed_34 ⟨Nat.le_of_ble_eq_true rfl, Nat.le_of_ble_eq_true rfl⟩ [0, 1] [] rfl rfl (by decide) rfl rfl (fun u_6 H locs w_6 h_6 => ?_)
    clear h_5
    obtain ⟨w6_0, w6_1, y6_0, y6_1, _⟩ := w_6
    replace h_6 : qW D _ _ (wk_a794cc59d cy h0 h1 (u_6.2.1 0 0) p6 p7 w0 w1 w2 w3 w4 w5 w6 w7 w8 w9 w10 w11 p8 h1 (u_6.2.1 1)) _ _ := h_6
    refine lv_aload_n hx hb dX11_feed_37 rfl (lv_at hl 0 rfl) ?_
    refine lv_iload hx hb dX11_feed_38 (lv_at hl 5 rfl) ?_
    refine q_callVv (rest := []) (wr := []) X hK hT hA h_6 (fun sz => gX11_putOnTape_9d88fd1 l D cy h0 h1 p4 (u_6.2.1 0 0) p6 p7 w0 w1 w2 w3 w4 w5 w6 w7 w8 w9 w10 w11 p8 (u_6.2.1 1) (i_rng _) (bw w6_0 (by decide) (by decide)) (i_rng _) (i_rng _) (i_rng _) w6_1 sz) wm_2_154 wm_2_157 wm_1_1 hd_X11_putOnTape wm_2_156 wp_1_0 (ci := 11) (q0 := 0) rfl rfl ⟨Nat.le_of_ble_eq_true rfl, Nat.le_of_ble_eq_true rfl⟩ hl.1 rfl (Nat.le_of_ble_eq_true rfl) dX11_feed_40 ⟨Nat.le_of_ble_eq_true rfl, Nat.le_of_ble_eq_true rfl⟩ [0, 1] [] rfl rfl (by decide) rfl rfl (fun u_7 H locs w_7 h_7 => ?_)
    clear h_6
    obtain ⟨w7_0, w7_1, y7_0, y7_1, _⟩ := w_7
    replace h_7 : qW D _ _ (wk_a794cc59d cy h0 h1 (u_7.2.1 0 0) p6 p7 w0 w1 w2 w3 w4 w5 w6 w7 w8 w9 w10 w11 p8 h1 (u_7.2.1 1)) _ _ := h_7
    refine lv_aload_n hx hb dX11_feed_43 rfl (lv_at hl 0 rfl) ?_
    refine q_get X hK h_7 0 rfl rfl wf_11 1 (by decide) rfl wm_2_99 dX11_feed_44 ?_
    exact q_iret X hr hlk hK h_7 rfl (fun _ => 0, (vcons (fun _ => (u_7.2.1 0 0)) (vcons (u_7.2.1 1) (fun _ => (fun _ => 0)))), fun _ _ => 0) ⟨(bw w7_0 (by decide) (by decide)), (bw w7_0 (by decide) (by decide)), w7_1, (show (((u_7.2.1 0 0) : Int32).toInt = -5 ∧ 900 < (p5 : Int32).toInt + 20 ∧ ((u_7.2.1 0 0) : Int32).toInt = (p5 : Int32).toInt) ∨ (((u_7.2.1 0 0) : Int32).toInt = ((u_7.2.1 0 0) : Int32).toInt ∧ ((u_7.2.1 0 0) : Int32).toInt = (p5 : Int32).toInt + 20 ∧ ((u_7.2.1 0 0) : Int32).toInt ≤ 900) from by omega), (show (((u_7.2.1 0 0) : Int32).toInt = -5 ∧ bB (u_7.2.1 1) = bB f0) ∨ (((u_7.2.1 0 0) : Int32).toInt ≠ -5 ∧ bB (u_7.2.1 1) = fdB (bB f0) (p5 : Int32).toInt (pk5 (p0 : Int32).toInt (p1 : Int32).toInt (p2 : Int32).toInt (p3 : Int32).toInt (p4 : Int32).toInt)) from Or.inr ⟨by omega, fd_all y3_1 y4_1 y5_1 y6_1 y7_1 (by omega) (by omega) (by omega) (by omega) (by omega) (by omega)⟩), trivial⟩ [0, 1] rfl rfl dX11_feed_47 (Nat.le_of_ble_eq_true rfl) (Nat.le_of_ble_eq_true rfl)
  · replace c_2 := i_nle (x := z_1) (y := 900) rfl (show (900 : Int32).toInt = 900 by decide) c_2
    refine lv_bipush (v := (-5)) hx hb dX11_feed_13 (by decide) ?_
    exact q_iret X hr hlk hK h rfl (fun _ => 0, (vcons (fun _ => p5) (vcons f0 (fun _ => (fun _ => 0)))), fun _ _ => 0) ⟨⟨by decide +kernel, by decide +kernel⟩, hp5, rf0, (show (((-5) : Int32).toInt = -5 ∧ 900 < (p5 : Int32).toInt + 20 ∧ (p5 : Int32).toInt = (p5 : Int32).toInt) ∨ (((-5) : Int32).toInt = (p5 : Int32).toInt ∧ (p5 : Int32).toInt = (p5 : Int32).toInt + 20 ∧ (p5 : Int32).toInt ≤ 900) from by have q0 : ((-5) : Int32).toInt = -5 := (by decide); omega), (show (((-5) : Int32).toInt = -5 ∧ bB f0 = bB f0) ∨ (((-5) : Int32).toInt ≠ -5 ∧ bB f0 = fdB (bB f0) (p5 : Int32).toInt (pk5 (p0 : Int32).toInt (p1 : Int32).toInt (p2 : Int32).toInt (p3 : Int32).toInt (p4 : Int32).toInt)) from Or.inl ⟨by decide, rfl⟩), trivial⟩ [0, 1] rfl rfl dX11_feed_15 (Nat.le_of_ble_eq_true rfl) (Nat.le_of_ble_eq_true rfl)
