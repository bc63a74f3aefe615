def wk_bc275e43f (cy : Nat → ClassId) (a0 : Nat) (a1 : Nat → Int32) (a2 a3 : Nat) (a4 : Nat → Int32) : va_W := [(a0, .inl (cy 1, 900, .inl a1)), (a2, .inl (cy 1, a3, .inl a4))]
def wk_dfd8ea8dd (cy : Nat → ClassId) (a0 a1 a2 : Nat) (a3 : Nat → Int32) (a4 a5 : Nat) (a6 : Nat → Int32) : va_W := [(a0, .inr (4, [.ref a1])), (a2, .inl (cy 1, 900, .inl a3)), (a4, .inl (cy 1, a5, .inl a6))]
def wk_ae24459d8 (cy : Nat → ClassId) (a0 a1 : Nat) (a2 a3 a4 a5 : Int32) (a6 : Value) (a7 : Nat) (a8 a9 : Int32) (a10 : Nat) (a11 : Value) (a12 a13 : Int32) (a14 a15 a16 a17 : Nat) (a18 : Nat → Int32) (a19 : Nat) (a20 : Nat → Int32) (a21 : Nat) (a22 : Nat → Int32) (a23 : Nat) (a24 : Nat → Int32) (a25 : Nat) : va_W := [(a0, .inr (5, [.ref a1, .int a2, .int a3, .int a4, .int a5, a6, .ref a7, .int a8, .int a9])), (a10, .inr (8, [a11, .int a12, .int a13, .ref a14, .ref a15, .ref a16])), (a17, .inl (cy 1, 901, .inl a18)), (a19, .inl (cy 1, 901, .inl a20)), (a21, .inl (cy 1, 901, .inl a22)), (a23, .inl (cy 1, 900, .inl a24)), (a25, .inr (4, [.null]))]
def wk_c1f241b95 (cy : Nat → ClassId) (a0 a1 : Nat) (a2 a3 a4 a5 : Int32) (a6 : Value) (a7 : Nat) (a8 a9 : Int32) (a10 : Nat) (a11 : Value) (a12 a13 : Int32) (a14 a15 a16 a17 : Nat) (a18 : Nat → Int32) (a19 : Nat) (a20 : Nat → Int32) (a21 : Nat) (a22 : Nat → Int32) : va_W := [(a0, .inr (5, [.ref a1, .int a2, .int a3, .int a4, .int a5, a6, .ref a7, .int a8, .int a9])), (a10, .inr (8, [a11, .int a12, .int a13, .ref a14, .ref a15, .ref a16])), (a17, .inl (cy 1, 901, .inl a18)), (a19, .inl (cy 1, 901, .inl a20)), (a21, .inl (cy 1, 901, .inl a22))]
def wk_1fec3ea31 (cy : Nat → ClassId) (a0 a1 : Nat) (a2 a3 a4 a5 : Int32) (a6 : Value) (a7 : Nat) (a8 a9 : Int32) (a10 : Nat) (a11 : Value) (a12 a13 : Int32) (a14 a15 a16 a17 : Nat) (a18 : Nat → Int32) (a19 : Nat) (a20 : Nat → Int32) (a21 : Nat) (a22 : Nat → Int32) (a23 a24 a25 : Nat) (a26 : Nat → Int32) (a27 a28 : Nat) (a29 : Nat → Int32) : va_W := [(a0, .inr (5, [.ref a1, .int a2, .int a3, .int a4, .int a5, a6, .ref a7, .int a8, .int a9])), (a10, .inr (8, [a11, .int a12, .int a13, .ref a14, .ref a15, .ref a16])), (a17, .inl (cy 1, 901, .inl a18)), (a19, .inl (cy 1, 901, .inl a20)), (a21, .inl (cy 1, 901, .inl a22)), (a23, .inr (4, [.ref a24])), (a25, .inl (cy 1, 900, .inl a26)), (a27, .inl (cy 1, a28, .inl a29))]
def wk_11f4a5c50 (cy : Nat → ClassId) (a0 a1 a2 a3 : Nat) (a4 : Nat → Int32) : va_W := [(a0, .inr (4, [.ref a1])), (a2, .inl (cy 1, a3, .inl a4))]
def wk_6dfdb8f2c (cy : Nat → ClassId) (a0 a1 : Nat) (a2 a3 a4 a5 : Int32) (a6 : Nat) (a7 : Value) (a8 a9 : Int32) (a10 : Nat) (a11 : Value) (a12 a13 : Int32) (a14 a15 a16 a17 : Nat) (a18 : Nat → Int32) (a19 : Nat) (a20 : Nat → Int32) (a21 : Nat) (a22 : Nat → Int32) (a23 : Nat) (a24 a25 a26 a27 : Int32) (a28 a29 a30 a31 : Value) (a32 a33 a34 a35 a36 : Nat) (a37 : Nat → Int32) (a38 : Nat) (a39 : Nat → Int32) (a40 : Nat) (a41 : Nat → Int32) (a42 : Nat) (a43 : Nat → Int32) : va_W := [(a0, .inr (5, [.ref a1, .int a2, .int a3, .int a4, .int a5, .ref a6, a7, .int a8, .int a9])), (a10, .inr (8, [a11, .int a12, .int a13, .ref a14, .ref a15, .ref a16])), (a17, .inl (cy 1, 901, .inl a18)), (a19, .inl (cy 1, 901, .inl a20)), (a21, .inl (cy 1, 901, .inl a22)), (a23, .inr (3, [.int a24, .int a25, .int a26, .int a27, a28, a29, a30, a31, .ref a32, .ref a33, .ref a34, .ref a35])), (a36, .inl (cy 1, 10, .inl a37)), (a38, .inl (cy 1, 10, .inl a39)), (a40, .inl (cy 1, 10, .inl a41)), (a42, .inl (cy 1, 10, .inl a43))]
def wk_c6d07a17f (cy : Nat → ClassId) (a0 : Nat) (a1 : Nat → Int32) (a2 : Nat) (a3 a4 a5 a6 : Int32) (a7 a8 a9 a10 : Value) (a11 a12 a13 a14 a15 : Nat) (a16 : Nat → Int32) (a17 : Nat) (a18 : Nat → Int32) (a19 : Nat) (a20 : Nat → Int32) (a21 : Nat) (a22 : Nat → Int32) : va_W := [(a0, .inl (cy 1, 901, .inl a1)), (a2, .inr (3, [.int a3, .int a4, .int a5, .int a6, a7, a8, a9, a10, .ref a11, .ref a12, .ref a13, .ref a14])), (a15, .inl (cy 1, 10, .inl a16)), (a17, .inl (cy 1, 10, .inl a18)), (a19, .inl (cy 1, 10, .inl a20)), (a21, .inl (cy 1, 10, .inl a22))]
def wk_95b3593d1 (cy : Nat → ClassId) (a0 : Nat) (a1 : Nat → Int32) (a2 : Nat) (a3 a4 a5 a6 : Int32) (a7 a8 a9 a10 : Value) (a11 a12 a13 a14 a15 : Nat) (a16 : Nat → Int32) (a17 : Nat) (a18 : Nat → Int32) (a19 : Nat) (a20 : Nat → Int32) (a21 : Nat) (a22 : Nat → Int32) (a23 a24 : Nat) (a25 a26 a27 a28 : Int32) (a29 : Nat) (a30 : Value) (a31 a32 : Int32) (a33 : Nat) (a34 : Value) (a35 a36 : Int32) (a37 a38 a39 a40 : Nat) (a41 : Nat → Int32) (a42 : Nat) (a43 : Nat → Int32) : va_W := [(a0, .inl (cy 1, 901, .inl a1)), (a2, .inr (3, [.int a3, .int a4, .int a5, .int a6, a7, a8, a9, a10, .ref a11, .ref a12, .ref a13, .ref a14])), (a15, .inl (cy 1, 10, .inl a16)), (a17, .inl (cy 1, 10, .inl a18)), (a19, .inl (cy 1, 10, .inl a20)), (a21, .inl (cy 1, 10, .inl a22)), (a23, .inr (5, [.ref a24, .int a25, .int a26, .int a27, .int a28, .ref a29, a30, .int a31, .int a32])), (a33, .inr (8, [a34, .int a35, .int a36, .ref a37, .ref a38, .ref a39])), (a40, .inl (cy 1, 901, .inl a41)), (a42, .inl (cy 1, 901, .inl a43))]
def wk_6e746cde0 (cy : Nat → ClassId) (a0 : Nat) (a1 a2 a3 a4 : Int32) (a5 a6 a7 a8 : Value) (a9 a10 a11 a12 a13 : Nat) (a14 : Nat → Int32) (a15 : Nat) (a16 : Nat → Int32) (a17 : Nat) (a18 : Nat → Int32) (a19 : Nat) (a20 : Nat → Int32) : va_W := [(a0, .inr (3, [.int a1, .int a2, .int a3, .int a4, a5, a6, a7, a8, .ref a9, .ref a10, .ref a11, .ref a12])), (a13, .inl (cy 1, 10, .inl a14)), (a15, .inl (cy 1, 10, .inl a16)), (a17, .inl (cy 1, 10, .inl a18)), (a19, .inl (cy 1, 10, .inl a20))]
def wk_85b1c7a9f (cy : Nat → ClassId) (a0 : Nat) (a1 a2 a3 a4 : Int32) (a5 a6 a7 a8 : Value) (a9 a10 a11 a12 a13 : Nat) (a14 : Nat → Int32) (a15 : Nat) (a16 : Nat → Int32) (a17 : Nat) (a18 : Nat → Int32) (a19 : Nat) (a20 : Nat → Int32) (a21 a22 : Nat) (a23 a24 a25 a26 : Int32) (a27 : Nat) (a28 : Value) (a29 a30 : Int32) (a31 : Nat) (a32 : Value) (a33 a34 : Int32) (a35 a36 a37 a38 : Nat) (a39 : Nat → Int32) (a40 : Nat) (a41 : Nat → Int32) (a42 : Nat) (a43 : Nat → Int32) : va_W := [(a0, .inr (3, [.int a1, .int a2, .int a3, .int a4, a5, a6, a7, a8, .ref a9, .ref a10, .ref a11, .ref a12])), (a13, .inl (cy 1, 10, .inl a14)), (a15, .inl (cy 1, 10, .inl a16)), (a17, .inl (cy 1, 10, .inl a18)), (a19, .inl (cy 1, 10, .inl a20)), (a21, .inr (5, [.ref a22, .int a23, .int a24, .int a25, .int a26, .ref a27, a28, .int a29, .int a30])), (a31, .inr (8, [a32, .int a33, .int a34, .ref a35, .ref a36, .ref a37])), (a38, .inl (cy 1, 901, .inl a39)), (a40, .inl (cy 1, 901, .inl a41)), (a42, .inl (cy 1, 901, .inl a43))]
def wk_e27dce96c (cy : Nat → ClassId) (a0 a1 : Nat) (a2 a3 a4 a5 : Int32) (a6 : Nat) (a7 : Value) (a8 a9 : Int32) (a10 : Nat) (a11 : Value) (a12 a13 : Int32) (a14 a15 a16 a17 : Nat) (a18 : Nat → Int32) (a19 : Nat) (a20 : Nat → Int32) (a21 : Nat) (a22 : Nat → Int32) (a23 : Nat) (a24 a25 a26 a27 : Int32) (a28 a29 a30 : Value) (a31 a32 a33 a34 a35 a36 : Nat) (a37 : Nat → Int32) (a38 : Nat) (a39 : Nat → Int32) (a40 : Nat) (a41 : Nat → Int32) (a42 : Nat) (a43 : Nat → Int32) (a44 : Nat) (a45 : Nat → Int32) : va_W := [(a0, .inr (5, [.ref a1, .int a2, .int a3, .int a4, .int a5, .ref a6, a7, .int a8, .int a9])), (a10, .inr (8, [a11, .int a12, .int a13, .ref a14, .ref a15, .ref a16])), (a17, .inl (cy 1, 901, .inl a18)), (a19, .inl (cy 1, 901, .inl a20)), (a21, .inl (cy 1, 901, .inl a22)), (a23, .inr (3, [.int a24, .int a25, .int a26, .int a27, a28, a29, a30, .ref a31, .ref a32, .ref a33, .ref a34, .ref a35])), (a36, .inl (cy 1, 10, .inl a37)), (a38, .inl (cy 1, 10, .inl a39)), (a40, .inl (cy 1, 10, .inl a41)), (a42, .inl (cy 1, 10, .inl a43)), (a44, .inl (cy 1, 10, .inl a45))]
def wk_31c2093ae (cy : Nat → ClassId) (a0 : Nat) (a1 : Nat → Int32) (a2 : Nat) (a3 a4 a5 a6 : Int32) (a7 a8 a9 : Value) (a10 a11 a12 a13 a14 a15 : Nat) (a16 : Nat → Int32) (a17 : Nat) (a18 : Nat → Int32) (a19 : Nat) (a20 : Nat → Int32) (a21 : Nat) (a22 : Nat → Int32) (a23 : Nat) (a24 : Nat → Int32) (a25 a26 : Nat) (a27 a28 a29 a30 : Int32) (a31 : Nat) (a32 : Value) (a33 a34 : Int32) (a35 : Nat) (a36 : Value) (a37 a38 : Int32) (a39 a40 a41 a42 : Nat) (a43 : Nat → Int32) (a44 : Nat) (a45 : Nat → Int32) : va_W := [(a0, .inl (cy 1, 901, .inl a1)), (a2, .inr (3, [.int a3, .int a4, .int a5, .int a6, a7, a8, a9, .ref a10, .ref a11, .ref a12, .ref a13, .ref a14])), (a15, .inl (cy 1, 10, .inl a16)), (a17, .inl (cy 1, 10, .inl a18)), (a19, .inl (cy 1, 10, .inl a20)), (a21, .inl (cy 1, 10, .inl a22)), (a23, .inl (cy 1, 10, .inl a24)), (a25, .inr (5, [.ref a26, .int a27, .int a28, .int a29, .int a30, .ref a31, a32, .int a33, .int a34])), (a35, .inr (8, [a36, .int a37, .int a38, .ref a39, .ref a40, .ref a41])), (a42, .inl (cy 1, 901, .inl a43)), (a44, .inl (cy 1, 901, .inl a45))]
def wk_dea5df769 (cy : Nat → ClassId) (a0 : Nat) (a1 a2 a3 a4 : Int32) (a5 a6 a7 : Value) (a8 a9 a10 a11 a12 a13 : Nat) (a14 : Nat → Int32) (a15 : Nat) (a16 : Nat → Int32) (a17 : Nat) (a18 : Nat → Int32) (a19 : Nat) (a20 : Nat → Int32) (a21 : Nat) (a22 : Nat → Int32) : va_W := [(a0, .inr (3, [.int a1, .int a2, .int a3, .int a4, a5, a6, a7, .ref a8, .ref a9, .ref a10, .ref a11, .ref a12])), (a13, .inl (cy 1, 10, .inl a14)), (a15, .inl (cy 1, 10, .inl a16)), (a17, .inl (cy 1, 10, .inl a18)), (a19, .inl (cy 1, 10, .inl a20)), (a21, .inl (cy 1, 10, .inl a22))]
def wk_21b02cfdf (cy : Nat → ClassId) (a0 : Nat) (a1 a2 a3 a4 : Int32) (a5 a6 a7 : Value) (a8 a9 a10 a11 a12 a13 : Nat) (a14 : Nat → Int32) (a15 : Nat) (a16 : Nat → Int32) (a17 : Nat) (a18 : Nat → Int32) (a19 : Nat) (a20 : Nat → Int32) (a21 : Nat) (a22 : Nat → Int32) (a23 a24 : Nat) (a25 a26 a27 a28 : Int32) (a29 : Nat) (a30 : Value) (a31 a32 : Int32) (a33 : Nat) (a34 : Value) (a35 a36 : Int32) (a37 a38 a39 a40 : Nat) (a41 : Nat → Int32) (a42 : Nat) (a43 : Nat → Int32) (a44 : Nat) (a45 : Nat → Int32) : va_W := [(a0, .inr (3, [.int a1, .int a2, .int a3, .int a4, a5, a6, a7, .ref a8, .ref a9, .ref a10, .ref a11, .ref a12])), (a13, .inl (cy 1, 10, .inl a14)), (a15, .inl (cy 1, 10, .inl a16)), (a17, .inl (cy 1, 10, .inl a18)), (a19, .inl (cy 1, 10, .inl a20)), (a21, .inl (cy 1, 10, .inl a22)), (a23, .inr (5, [.ref a24, .int a25, .int a26, .int a27, .int a28, .ref a29, a30, .int a31, .int a32])), (a33, .inr (8, [a34, .int a35, .int a36, .ref a37, .ref a38, .ref a39])), (a40, .inl (cy 1, 901, .inl a41)), (a42, .inl (cy 1, 901, .inl a43)), (a44, .inl (cy 1, 901, .inl a45))]
def wk_d33bee7ee (cy : Nat → ClassId) (a0 a1 : Nat) (a2 a3 a4 a5 : Int32) (a6 a7 : Nat) (a8 a9 : Int32) (a10 : Nat) (a11 : Value) (a12 a13 : Int32) (a14 a15 a16 a17 : Nat) (a18 : Nat → Int32) (a19 : Nat) (a20 : Nat → Int32) (a21 : Nat) (a22 : Nat → Int32) (a23 : Nat) (a24 a25 a26 a27 : Int32) (a28 a29 a30 : Option Nat) (a31 a32 a33 a34 a35 a36 : Nat) (a37 : Nat → Int32) (a38 : Nat) (a39 : Nat → Int32) (a40 : Nat) (a41 : Nat → Int32) (a42 : Nat) (a43 : Nat → Int32) (a44 : Nat) (a45 : Nat → Int32) (a46 : Nat) (a47 : Nat → Int32) : va_W := [(a0, .inr (5, [.ref a1, .int a2, .int a3, .int a4, .int a5, .ref a6, .ref a7, .int a8, .int a9])), (a10, .inr (8, [a11, .int a12, .int a13, .ref a14, .ref a15, .ref a16])), (a17, .inl (cy 1, 901, .inl a18)), (a19, .inl (cy 1, 901, .inl a20)), (a21, .inl (cy 1, 901, .inl a22)), (a23, .inr (3, [.int a24, .int a25, .int a26, .int a27, (va_rf a28), (va_rf a29), (va_rf a30), .ref a31, .ref a32, .ref a33, .ref a34, .ref a35])), (a36, .inl (cy 1, 10, .inl a37)), (a38, .inl (cy 1, 10, .inl a39)), (a40, .inl (cy 1, 10, .inl a41)), (a42, .inl (cy 1, 10, .inl a43)), (a44, .inl (cy 1, 10, .inl a45)), (a46, .inl (cy 1, 900, .inl a47))]
def wk_2d757fd5f (cy : Nat → ClassId) (a0 : Nat) (a1 a2 a3 a4 : Int32) (a5 a6 a7 : Option Nat) (a8 a9 a10 a11 a12 a13 : Nat) (a14 : Nat → Int32) (a15 : Nat) (a16 : Nat → Int32) (a17 : Nat) (a18 : Nat → Int32) (a19 : Nat) (a20 : Nat → Int32) (a21 : Nat) (a22 : Nat → Int32) (a23 : Nat) (a24 : Nat → Int32) (a25 a26 : Nat) (a27 a28 a29 a30 : Int32) (a31 a32 : Nat) (a33 a34 : Int32) (a35 : Nat) (a36 : Value) (a37 a38 : Int32) (a39 a40 a41 a42 : Nat) (a43 : Nat → Int32) (a44 : Nat) (a45 : Nat → Int32) (a46 : Nat) (a47 : Nat → Int32) : va_W := [(a0, .inr (3, [.int a1, .int a2, .int a3, .int a4, (va_rf a5), (va_rf a6), (va_rf a7), .ref a8, .ref a9, .ref a10, .ref a11, .ref a12])), (a13, .inl (cy 1, 10, .inl a14)), (a15, .inl (cy 1, 10, .inl a16)), (a17, .inl (cy 1, 10, .inl a18)), (a19, .inl (cy 1, 10, .inl a20)), (a21, .inl (cy 1, 10, .inl a22)), (a23, .inl (cy 1, 900, .inl a24)), (a25, .inr (5, [.ref a26, .int a27, .int a28, .int a29, .int a30, .ref a31, .ref a32, .int a33, .int a34])), (a35, .inr (8, [a36, .int a37, .int a38, .ref a39, .ref a40, .ref a41])), (a42, .inl (cy 1, 901, .inl a43)), (a44, .inl (cy 1, 901, .inl a45)), (a46, .inl (cy 1, 901, .inl a47))]
def wk_31def65b3 (cy : Nat → ClassId) (a0 : Nat) (a1 : Nat → Int32) (a2 : Nat) (a3 : Nat → Int32) (a4 : Nat) (a5 a6 a7 a8 : Int32) (a9 a10 a11 : Option Nat) (a12 a13 a14 a15 a16 a17 : Nat) (a18 : Nat → Int32) (a19 : Nat) (a20 : Nat → Int32) (a21 : Nat) (a22 : Nat → Int32) (a23 : Nat) (a24 : Nat → Int32) (a25 : Nat) (a26 : Nat → Int32) (a27 : Nat) (a28 : Nat → Int32) : va_W := [(a0, .inl (cy 1, 901, .inl a1)), (a2, .inl (cy 1, 901, .inl a3)), (a4, .inr (3, [.int a5, .int a6, .int a7, .int a8, (va_rf a9), (va_rf a10), (va_rf a11), .ref a12, .ref a13, .ref a14, .ref a15, .ref a16])), (a17, .inl (cy 1, 10, .inl a18)), (a19, .inl (cy 1, 10, .inl a20)), (a21, .inl (cy 1, 10, .inl a22)), (a23, .inl (cy 1, 10, .inl a24)), (a25, .inl (cy 1, 10, .inl a26)), (a27, .inl (cy 1, 900, .inl a28))]
def wk_0202ea6aa (cy : Nat → ClassId) (a0 : Nat) (a1 : Nat → Int32) (a2 : Nat) (a3 : Nat → Int32) (a4 : Nat) (a5 a6 a7 a8 : Int32) (a9 a10 a11 : Option Nat) (a12 a13 a14 a15 a16 a17 : Nat) (a18 : Nat → Int32) (a19 : Nat) (a20 : Nat → Int32) (a21 : Nat) (a22 : Nat → Int32) (a23 : Nat) (a24 : Nat → Int32) (a25 : Nat) (a26 : Nat → Int32) (a27 : Nat) (a28 : Nat → Int32) (a29 a30 : Nat) (a31 a32 a33 a34 : Int32) (a35 a36 : Nat) (a37 a38 : Int32) (a39 : Nat) (a40 : Value) (a41 a42 : Int32) (a43 a44 a45 a46 : Nat) (a47 : Nat → Int32) : va_W := [(a0, .inl (cy 1, 901, .inl a1)), (a2, .inl (cy 1, 901, .inl a3)), (a4, .inr (3, [.int a5, .int a6, .int a7, .int a8, (va_rf a9), (va_rf a10), (va_rf a11), .ref a12, .ref a13, .ref a14, .ref a15, .ref a16])), (a17, .inl (cy 1, 10, .inl a18)), (a19, .inl (cy 1, 10, .inl a20)), (a21, .inl (cy 1, 10, .inl a22)), (a23, .inl (cy 1, 10, .inl a24)), (a25, .inl (cy 1, 10, .inl a26)), (a27, .inl (cy 1, 900, .inl a28)), (a29, .inr (5, [.ref a30, .int a31, .int a32, .int a33, .int a34, .ref a35, .ref a36, .int a37, .int a38])), (a39, .inr (8, [a40, .int a41, .int a42, .ref a43, .ref a44, .ref a45])), (a46, .inl (cy 1, 901, .inl a47))]
def wk_27a2fc362 (cy : Nat → ClassId) (a0 : Nat) (a1 a2 a3 a4 : Int32) (a5 a6 a7 : Option Nat) (a8 a9 a10 a11 a12 a13 : Nat) (a14 : Nat → Int32) (a15 : Nat) (a16 : Nat → Int32) (a17 : Nat) (a18 : Nat → Int32) (a19 : Nat) (a20 : Nat → Int32) (a21 : Nat) (a22 : Nat → Int32) : va_W := [(a0, .inr (3, [.int a1, .int a2, .int a3, .int a4, (va_rf a5), (va_rf a6), (va_rf a7), .ref a8, .ref a9, .ref a10, .ref a11, .ref a12])), (a13, .inl (cy 1, 10, .inl a14)), (a15, .inl (cy 1, 10, .inl a16)), (a17, .inl (cy 1, 10, .inl a18)), (a19, .inl (cy 1, 10, .inl a20)), (a21, .inl (cy 1, 10, .inl a22))]
def wk_fb187a8e3 (cy : Nat → ClassId) (a0 : Nat) (a1 a2 a3 a4 : Int32) (a5 a6 a7 : Option Nat) (a8 a9 a10 a11 a12 a13 : Nat) (a14 : Nat → Int32) (a15 : Nat) (a16 : Nat → Int32) (a17 : Nat) (a18 : Nat → Int32) (a19 : Nat) (a20 : Nat → Int32) (a21 : Nat) (a22 : Nat → Int32) (a23 a24 : Nat) (a25 a26 a27 a28 : Int32) (a29 a30 : Nat) (a31 a32 : Int32) (a33 : Nat) (a34 : Value) (a35 a36 : Int32) (a37 a38 a39 a40 : Nat) (a41 : Nat → Int32) (a42 : Nat) (a43 : Nat → Int32) (a44 : Nat) (a45 : Nat → Int32) (a46 : Nat) (a47 : Nat → Int32) : va_W := [(a0, .inr (3, [.int a1, .int a2, .int a3, .int a4, (va_rf a5), (va_rf a6), (va_rf a7), .ref a8, .ref a9, .ref a10, .ref a11, .ref a12])), (a13, .inl (cy 1, 10, .inl a14)), (a15, .inl (cy 1, 10, .inl a16)), (a17, .inl (cy 1, 10, .inl a18)), (a19, .inl (cy 1, 10, .inl a20)), (a21, .inl (cy 1, 10, .inl a22)), (a23, .inr (5, [.ref a24, .int a25, .int a26, .int a27, .int a28, .ref a29, .ref a30, .int a31, .int a32])), (a33, .inr (8, [a34, .int a35, .int a36, .ref a37, .ref a38, .ref a39])), (a40, .inl (cy 1, 901, .inl a41)), (a42, .inl (cy 1, 901, .inl a43)), (a44, .inl (cy 1, 901, .inl a45)), (a46, .inl (cy 1, 900, .inl a47))]
theorem wm_3_153 : Cond.fieldLink RX4 15 "OppositeHouse$Law" "steps" "[I" ∈ WG := wg_t3 (List.mem_of_getElem? (i := 153) rfl) rfl
theorem wm_1_19 : Cond.initialized RX4 ∈ WG := wg_t1 (List.mem_of_getElem? (i := 19) rfl) rfl
theorem wm_1_20 : Cond.initialized RJ7 ∈ WG := wg_t1 (List.mem_of_getElem? (i := 20) rfl) rfl
theorem wm_3_152 : Cond.native arraycopyName ∈ WG := wg_t3 (List.mem_of_getElem? (i := 152) rfl) rfl
theorem wm_3_151 : Cond.static arraycopyName ∈ WG := wg_t3 (List.mem_of_getElem? (i := 151) rfl) rfl
theorem wm_1_21 : Cond.initialized RJ10 ∈ WG := wg_t1 (List.mem_of_getElem? (i := 21) rfl) rfl
theorem wm_3_105 : Cond.methodLink RX5 153 yX5_readTerm ∈ WG := wg_t3 (List.mem_of_getElem? (i := 105) rfl) rfl
theorem wm_3_108 : Cond.code yX5_readTerm cX5_readTerm 3 none ∈ WG := wg_t3 (List.mem_of_getElem? (i := 108) rfl) rfl
theorem wm_3_107 : Cond.instanceMethod yX5_readTerm ∈ WG := wg_t3 (List.mem_of_getElem? (i := 107) rfl) rfl
theorem wp_2_1 : Cond.selects RX5 yX5_readTerm yX5_readTerm ∈ WG := wg_p (q := (yX5_readTerm, 9)) (wg_p2 (List.mem_of_getElem? (i := 1) rfl)) rfl
theorem wm_3_129 : Cond.methodLink RX5 147 yX5_readUnit ∈ WG := wg_t3 (List.mem_of_getElem? (i := 129) rfl) rfl
theorem wm_3_132 : Cond.code yX5_readUnit cX5_readUnit 3 none ∈ WG := wg_t3 (List.mem_of_getElem? (i := 132) rfl) rfl
theorem wm_3_131 : Cond.instanceMethod yX5_readUnit ∈ WG := wg_t3 (List.mem_of_getElem? (i := 131) rfl) rfl
theorem wp_2_7 : Cond.selects RX5 yX5_readUnit yX5_readUnit ∈ WG := wg_p (q := (yX5_readUnit, 9)) (wg_p2 (List.mem_of_getElem? (i := 7) rfl)) rfl
theorem wm_3_125 : Cond.methodLink RX5 141 yX5_readBoth ∈ WG := wg_t3 (List.mem_of_getElem? (i := 125) rfl) rfl
theorem wm_3_128 : Cond.code yX5_readBoth cX5_readBoth 3 none ∈ WG := wg_t3 (List.mem_of_getElem? (i := 128) rfl) rfl
theorem wm_3_127 : Cond.instanceMethod yX5_readBoth ∈ WG := wg_t3 (List.mem_of_getElem? (i := 127) rfl) rfl
theorem wp_2_6 : Cond.selects RX5 yX5_readBoth yX5_readBoth ∈ WG := wg_p (q := (yX5_readBoth, 9)) (wg_p2 (List.mem_of_getElem? (i := 6) rfl)) rfl
theorem wm_3_121 : Cond.methodLink RX5 133 yX5_readTruth ∈ WG := wg_t3 (List.mem_of_getElem? (i := 121) rfl) rfl
theorem wm_3_124 : Cond.code yX5_readTruth cX5_readTruth 3 none ∈ WG := wg_t3 (List.mem_of_getElem? (i := 124) rfl) rfl
theorem wm_3_123 : Cond.instanceMethod yX5_readTruth ∈ WG := wg_t3 (List.mem_of_getElem? (i := 123) rfl) rfl
theorem wp_2_5 : Cond.selects RX5 yX5_readTruth yX5_readTruth ∈ WG := wg_p (q := (yX5_readTruth, 9)) (wg_p2 (List.mem_of_getElem? (i := 5) rfl)) rfl
theorem wm_1_151 : Cond.fieldLink RX5 34 "OppositeHouse$Reader" "told" "LOppositeHouse$House;" ∈ WG := wg_t1 (List.mem_of_getElem? (i := 151) rfl) rfl
theorem wm_1_108 : Cond.fieldLink RX5 113 "OppositeHouse$House" "first" "[I" ∈ WG := wg_t1 (List.mem_of_getElem? (i := 108) rfl) rfl
theorem wm_3_80 : Cond.methodLink RX5 59 yX5_takeNumber ∈ WG := wg_t3 (List.mem_of_getElem? (i := 80) rfl) rfl
theorem wm_3_83 : Cond.code yX5_takeNumber cX5_takeNumber 4 (some .int) ∈ WG := wg_t3 (List.mem_of_getElem? (i := 83) rfl) rfl
theorem wm_3_82 : Cond.instanceMethod yX5_takeNumber ∈ WG := wg_t3 (List.mem_of_getElem? (i := 82) rfl) rfl
theorem wp_1_11 : Cond.selects RX5 yX5_takeNumber yX5_takeNumber ∈ WG := wg_p (q := (yX5_takeNumber, 9)) (wg_p1 (List.mem_of_getElem? (i := 11) rfl)) rfl
theorem wm_1_112 : Cond.fieldLink RX5 116 "OppositeHouse$House" "last" "[I" ∈ WG := wg_t1 (List.mem_of_getElem? (i := 112) rfl) rfl
theorem wm_1_115 : Cond.fieldLink RX5 120 "OppositeHouse$House" "temper" "[I" ∈ WG := wg_t1 (List.mem_of_getElem? (i := 115) rfl) rfl
theorem wm_1_118 : Cond.fieldLink RX5 123 "OppositeHouse$House" "weight" "[I" ∈ WG := wg_t1 (List.mem_of_getElem? (i := 118) rfl) rfl
theorem wm_1_86 : Cond.fieldLink RX5 107 "OppositeHouse$House" "people" "I" ∈ WG := wg_t1 (List.mem_of_getElem? (i := 86) rfl) rfl
theorem wm_1_76 : Cond.fieldLink RX5 63 "OppositeHouse$House" "lines" "I" ∈ WG := wg_t1 (List.mem_of_getElem? (i := 76) rfl) rfl
theorem wm_1_104 : Cond.fieldLink RX5 110 "OppositeHouse$House" "views" "[I" ∈ WG := wg_t1 (List.mem_of_getElem? (i := 104) rfl) rfl
theorem wm_3_92 : Cond.constant RX5 119 (1000000) ∈ WG := wg_t3 (List.mem_of_getElem? (i := 92) rfl) rfl
theorem wm_3_93 : Cond.methodLink RX5 126 yX5_readFlag ∈ WG := wg_t3 (List.mem_of_getElem? (i := 93) rfl) rfl
theorem wm_3_96 : Cond.code yX5_readFlag cX5_readFlag 2 (some .boolean) ∈ WG := wg_t3 (List.mem_of_getElem? (i := 96) rfl) rfl
theorem wm_3_95 : Cond.instanceMethod yX5_readFlag ∈ WG := wg_t3 (List.mem_of_getElem? (i := 95) rfl) rfl
theorem wp_1_14 : Cond.selects RX5 yX5_readFlag yX5_readFlag ∈ WG := wg_p (q := (yX5_readFlag, 9)) (wg_p1 (List.mem_of_getElem? (i := 14) rfl)) rfl
theorem wm_3_133 : Cond.classLink RX5 136 RX4 ∈ WG := wg_t3 (List.mem_of_getElem? (i := 133) rfl) rfl
theorem wm_3_134 : Cond.instantiable RX4 1 ∈ WG := wg_t3 (List.mem_of_getElem? (i := 134) rfl) rfl
theorem wm_3_138 : Cond.methodLink RX4 3 Lib.objectInit ∈ WG := wg_t3 (List.mem_of_getElem? (i := 138) rfl) rfl
theorem wm_3_149 : Cond.methodLink RJ7 304 yJ9_min_7cf53 ∈ WG := wg_t3 (List.mem_of_getElem? (i := 149) rfl) rfl
theorem wm_3_150 : Cond.methodLink RJ7 150 arraycopyName ∈ WG := wg_t3 (List.mem_of_getElem? (i := 150) rfl) rfl
theorem wm_3_139 : Cond.methodLink RX4 9 yJ7_copyOf_59c91 ∈ WG := wg_t3 (List.mem_of_getElem? (i := 139) rfl) rfl
theorem wm_3_141 : Cond.code yJ7_copyOf_59c91 cJ7_copyOf_59c91 3 (some (.array .int)) ∈ WG := wg_t3 (List.mem_of_getElem? (i := 141) rfl) rfl
theorem wm_3_140 : Cond.static yJ7_copyOf_59c91 ∈ WG := wg_t3 (List.mem_of_getElem? (i := 140) rfl) rfl
theorem wm_3_135 : Cond.methodLink RX5 138 yX4_init ∈ WG := wg_t3 (List.mem_of_getElem? (i := 135) rfl) rfl
theorem wm_3_137 : Cond.code yX4_init cX4_init 3 none ∈ WG := wg_t3 (List.mem_of_getElem? (i := 137) rfl) rfl
theorem wm_3_136 : Cond.instanceMethod yX4_init ∈ WG := wg_t3 (List.mem_of_getElem? (i := 136) rfl) rfl
theorem wm_1_92 : Cond.fieldLink RX5 104 "OppositeHouse$House" "startDay" "I" ∈ WG := wg_t1 (List.mem_of_getElem? (i := 92) rfl) rfl
theorem wm_3_88 : Cond.methodLink RX5 87 yX5_readPerson ∈ WG := wg_t3 (List.mem_of_getElem? (i := 88) rfl) rfl
theorem wm_3_91 : Cond.code yX5_readPerson cX5_readPerson 5 none ∈ WG := wg_t3 (List.mem_of_getElem? (i := 91) rfl) rfl
theorem wm_3_90 : Cond.instanceMethod yX5_readPerson ∈ WG := wg_t3 (List.mem_of_getElem? (i := 90) rfl) rfl
theorem wp_1_13 : Cond.selects RX5 yX5_readPerson yX5_readPerson ∈ WG := wg_p (q := (yX5_readPerson, 9)) (wg_p1 (List.mem_of_getElem? (i := 13) rfl)) rfl
theorem wm_1_95 : Cond.fieldLink RX5 90 "OppositeHouse$House" "opposing" "LOppositeHouse$Law;" ∈ WG := wg_t1 (List.mem_of_getElem? (i := 95) rfl) rfl
theorem wm_3_97 : Cond.methodLink RX5 94 yX5_readLaw ∈ WG := wg_t3 (List.mem_of_getElem? (i := 97) rfl) rfl
theorem wm_3_100 : Cond.code yX5_readLaw cX5_readLaw 4 (some (.object "OppositeHouse$Law")) ∈ WG := wg_t3 (List.mem_of_getElem? (i := 100) rfl) rfl
theorem wm_3_99 : Cond.instanceMethod yX5_readLaw ∈ WG := wg_t3 (List.mem_of_getElem? (i := 99) rfl) rfl
theorem wp_1_15 : Cond.selects RX5 yX5_readLaw yX5_readLaw ∈ WG := wg_p (q := (yX5_readLaw, 9)) (wg_p1 (List.mem_of_getElem? (i := 15) rfl)) rfl
theorem wm_1_98 : Cond.fieldLink RX5 98 "OppositeHouse$House" "saying" "LOppositeHouse$Law;" ∈ WG := wg_t1 (List.mem_of_getElem? (i := 98) rfl) rfl
theorem wm_1_101 : Cond.fieldLink RX5 101 "OppositeHouse$House" "swaying" "LOppositeHouse$Law;" ∈ WG := wg_t1 (List.mem_of_getElem? (i := 101) rfl) rfl
theorem wf_4 : ∀ w ∈ u_ws RX4 TX4 1, w ∈ WG := sorry
theorem df_4 : ∀ j, j < 1 → defaultValue (tyX4 j) = vp_V [.null] j := sorry
theorem hd_X5_readTerm : yX5_readTerm.cls ≠ "java/lang/invoke/MethodHandle" ∧ yX5_readTerm.cls ≠ "java/lang/invoke/VarHandle" ∧ (parseMethodDescriptor yX5_readTerm.desc).map (fun d => d.parameters.length) = some 1 := by decide +kernel
theorem hd_X5_readUnit : yX5_readUnit.cls ≠ "java/lang/invoke/MethodHandle" ∧ yX5_readUnit.cls ≠ "java/lang/invoke/VarHandle" ∧ (parseMethodDescriptor yX5_readUnit.desc).map (fun d => d.parameters.length) = some 1 := by decide +kernel
theorem hd_X5_readBoth : yX5_readBoth.cls ≠ "java/lang/invoke/MethodHandle" ∧ yX5_readBoth.cls ≠ "java/lang/invoke/VarHandle" ∧ (parseMethodDescriptor yX5_readBoth.desc).map (fun d => d.parameters.length) = some 1 := by decide +kernel
theorem hd_X5_readTruth : yX5_readTruth.cls ≠ "java/lang/invoke/MethodHandle" ∧ yX5_readTruth.cls ≠ "java/lang/invoke/VarHandle" ∧ (parseMethodDescriptor yX5_readTruth.desc).map (fun d => d.parameters.length) = some 1 := by decide +kernel
theorem hd_X5_takeNumber : yX5_takeNumber.cls ≠ "java/lang/invoke/MethodHandle" ∧ yX5_takeNumber.cls ≠ "java/lang/invoke/VarHandle" ∧ (parseMethodDescriptor yX5_takeNumber.desc).map (fun d => d.parameters.length) = some 2 := by decide +kernel
theorem hd_X5_readFlag : yX5_readFlag.cls ≠ "java/lang/invoke/MethodHandle" ∧ yX5_readFlag.cls ≠ "java/lang/invoke/VarHandle" ∧ (parseMethodDescriptor yX5_readFlag.desc).map (fun d => d.parameters.length) = some 1 := by decide +kernel
theorem hd_J7_copyOf_59c91 : yJ7_copyOf_59c91.cls ≠ "java/lang/invoke/MethodHandle" ∧ yJ7_copyOf_59c91.cls ≠ "java/lang/invoke/VarHandle" ∧ (parseMethodDescriptor yJ7_copyOf_59c91.desc).map (fun d => d.parameters.length) = some 2 := by decide +kernel
theorem hd_X4_init : yX4_init.cls ≠ "java/lang/invoke/MethodHandle" ∧ yX4_init.cls ≠ "java/lang/invoke/VarHandle" ∧ (parseMethodDescriptor yX4_init.desc).map (fun d => d.parameters.length) = some 2 := by decide +kernel
theorem hd_X5_readPerson : yX5_readPerson.cls ≠ "java/lang/invoke/MethodHandle" ∧ yX5_readPerson.cls ≠ "java/lang/invoke/VarHandle" ∧ (parseMethodDescriptor yX5_readPerson.desc).map (fun d => d.parameters.length) = some 0 := by decide +kernel
theorem hd_X5_readLaw : yX5_readLaw.cls ≠ "java/lang/invoke/MethodHandle" ∧ yX5_readLaw.cls ≠ "java/lang/invoke/VarHandle" ∧ (parseMethodDescriptor yX5_readLaw.desc).map (fun d => d.parameters.length) = some 2 := by decide +kernel
theorem dJ7_copyOf_59c91_0 : decode cJ7_copyOf_59c91 0 = .ok (.iload_n 1, 1) := sorry
theorem dJ7_copyOf_59c91_1 : decode cJ7_copyOf_59c91 1 = .ok (.aload_n 0, 1) := sorry
theorem dJ7_copyOf_59c91_2 : decode cJ7_copyOf_59c91 2 = .ok (.arraylength, 1) := sorry
theorem dJ7_copyOf_59c91_3 : decode cJ7_copyOf_59c91 3 = .ok (.if_icmp .ne 11, 3) := sorry
theorem dJ7_copyOf_59c91_6 : decode cJ7_copyOf_59c91 6 = .ok (.aload_n 0, 1) := sorry
theorem dJ7_copyOf_59c91_7 : decode cJ7_copyOf_59c91 7 = .ok (.invokevirtual 316, 3) := sorry
theorem dJ7_copyOf_59c91_10 : decode cJ7_copyOf_59c91 10 = .ok (.checkcast 317, 3) := sorry
theorem dJ7_copyOf_59c91_13 : decode cJ7_copyOf_59c91 13 = .ok (.areturn, 1) := sorry
theorem dJ7_copyOf_59c91_14 : decode cJ7_copyOf_59c91 14 = .ok (.iload_n 1, 1) := sorry
theorem dJ7_copyOf_59c91_15 : decode cJ7_copyOf_59c91 15 = .ok (.newarray .int, 2) := sorry
theorem dJ7_copyOf_59c91_17 : decode cJ7_copyOf_59c91 17 = .ok (.astore_n 2, 1) := sorry
theorem dJ7_copyOf_59c91_18 : decode cJ7_copyOf_59c91 18 = .ok (.aload_n 0, 1) := sorry
theorem dJ7_copyOf_59c91_19 : decode cJ7_copyOf_59c91 19 = .ok (.iconst 0, 1) := sorry
theorem dJ7_copyOf_59c91_20 : decode cJ7_copyOf_59c91 20 = .ok (.aload_n 2, 1) := sorry
theorem dJ7_copyOf_59c91_21 : decode cJ7_copyOf_59c91 21 = .ok (.iconst 0, 1) := sorry
theorem dJ7_copyOf_59c91_22 : decode cJ7_copyOf_59c91 22 = .ok (.aload_n 0, 1) := sorry
theorem dJ7_copyOf_59c91_23 : decode cJ7_copyOf_59c91 23 = .ok (.arraylength, 1) := sorry
theorem dJ7_copyOf_59c91_24 : decode cJ7_copyOf_59c91 24 = .ok (.iload_n 1, 1) := sorry
theorem dJ7_copyOf_59c91_25 : decode cJ7_copyOf_59c91 25 = .ok (.invokestatic 304, 3) := sorry
theorem dJ7_copyOf_59c91_28 : decode cJ7_copyOf_59c91 28 = .ok (.invokestatic 150, 3) := sorry
theorem dJ7_copyOf_59c91_31 : decode cJ7_copyOf_59c91 31 = .ok (.aload_n 2, 1) := sorry
theorem dJ7_copyOf_59c91_32 : decode cJ7_copyOf_59c91 32 = .ok (.areturn, 1) := sorry
theorem dX4_init_0 : decode cX4_init 0 = .ok (.aload_n 0, 1) := sorry
theorem dX4_init_1 : decode cX4_init 1 = .ok (.invokespecial 3, 3) := sorry
theorem dX4_init_4 : decode cX4_init 4 = .ok (.aload_n 0, 1) := sorry
theorem dX4_init_5 : decode cX4_init 5 = .ok (.aload_n 1, 1) := sorry
theorem dX4_init_6 : decode cX4_init 6 = .ok (.iload_n 2, 1) := sorry
theorem dX4_init_7 : decode cX4_init 7 = .ok (.invokestatic 9, 3) := sorry
theorem dX4_init_10 : decode cX4_init 10 = .ok (.putfield 15, 3) := sorry
theorem dX4_init_13 : decode cX4_init 13 = .ok (.return_, 1) := sorry
theorem dX5_readBoth_0 : decode cX5_readBoth 0 = .ok (.aload_n 0, 1) := sorry
theorem dX5_readBoth_1 : decode cX5_readBoth 1 = .ok (.iload_n 1, 1) := sorry
theorem dX5_readBoth_2 : decode cX5_readBoth 2 = .ok (.invokevirtual 147, 3) := sorry
theorem dX5_readBoth_5 : decode cX5_readBoth 5 = .ok (.iconst 0, 1) := sorry
theorem dX5_readBoth_6 : decode cX5_readBoth 6 = .ok (.istore_n 2, 1) := sorry
theorem dX5_readBoth_7 : decode cX5_readBoth 7 = .ok (.iload_n 2, 1) := sorry
theorem dX5_readBoth_8 : decode cX5_readBoth 8 = .ok (.aload_n 0, 1) := sorry
theorem dX5_readBoth_9 : decode cX5_readBoth 9 = .ok (.getfield 12, 3) := sorry
theorem dX5_readBoth_12 : decode cX5_readBoth 12 = .ok (.getfield 69, 3) := sorry
theorem dX5_readBoth_15 : decode cX5_readBoth 15 = .ok (.if_icmp .ge 34, 3) := sorry
theorem dX5_readBoth_18 : decode cX5_readBoth 18 = .ok (.aload_n 0, 1) := sorry
theorem dX5_readBoth_19 : decode cX5_readBoth 19 = .ok (.getfield 22, 3) := sorry
theorem dX5_readBoth_22 : decode cX5_readBoth 22 = .ok (.bipush 22, 2) := sorry
theorem dX5_readBoth_24 : decode cX5_readBoth 24 = .ok (.if_icmp .ne 25, 3) := sorry
theorem dX5_readBoth_27 : decode cX5_readBoth 27 = .ok (.aload_n 0, 1) := sorry
theorem dX5_readBoth_28 : decode cX5_readBoth 28 = .ok (.invokevirtual 52, 3) := sorry
theorem dX5_readBoth_31 : decode cX5_readBoth 31 = .ok (.aload_n 0, 1) := sorry
theorem dX5_readBoth_32 : decode cX5_readBoth 32 = .ok (.iload_n 1, 1) := sorry
theorem dX5_readBoth_33 : decode cX5_readBoth 33 = .ok (.invokevirtual 147, 3) := sorry
theorem dX5_readBoth_36 : decode cX5_readBoth 36 = .ok (.aload_n 0, 1) := sorry
theorem dX5_readBoth_37 : decode cX5_readBoth 37 = .ok (.sipush 2022, 3) := sorry
theorem dX5_readBoth_40 : decode cX5_readBoth 40 = .ok (.invokevirtual 144, 3) := sorry
theorem dX5_readBoth_43 : decode cX5_readBoth 43 = .ok (.iinc 2 1, 3) := sorry
theorem dX5_readBoth_46 : decode cX5_readBoth 46 = .ok (.goto (-39), 3) := sorry
theorem dX5_readBoth_49 : decode cX5_readBoth 49 = .ok (.return_, 1) := sorry
theorem dX5_readFlag_0 : decode cX5_readFlag 0 = .ok (.aload_n 0, 1) := sorry
theorem dX5_readFlag_1 : decode cX5_readFlag 1 = .ok (.getfield 22, 3) := sorry
theorem dX5_readFlag_4 : decode cX5_readFlag 4 = .ok (.tableswitch 130 14 17 #[32, 130, 86, 108], 32) := sorry
theorem dX5_readFlag_36 : decode cX5_readFlag 36 = .ok (.aload_n 0, 1) := sorry
theorem dX5_readFlag_37 : decode cX5_readFlag 37 = .ok (.invokevirtual 52, 3) := sorry
theorem dX5_readFlag_40 : decode cX5_readFlag 40 = .ok (.aload_n 0, 1) := sorry
theorem dX5_readFlag_41 : decode cX5_readFlag 41 = .ok (.getfield 34, 3) := sorry
theorem dX5_readFlag_44 : decode cX5_readFlag 44 = .ok (.getfield 113, 3) := sorry
theorem dX5_readFlag_47 : decode cX5_readFlag 47 = .ok (.iload_n 1, 1) := sorry
theorem dX5_readFlag_48 : decode cX5_readFlag 48 = .ok (.aload_n 0, 1) := sorry
theorem dX5_readFlag_49 : decode cX5_readFlag 49 = .ok (.iconst 0, 1) := sorry
theorem dX5_readFlag_50 : decode cX5_readFlag 50 = .ok (.sipush 999, 3) := sorry
theorem dX5_readFlag_53 : decode cX5_readFlag 53 = .ok (.invokevirtual 59, 3) := sorry
theorem dX5_readFlag_56 : decode cX5_readFlag 56 = .ok (.iastore, 1) := sorry
theorem dX5_readFlag_57 : decode cX5_readFlag 57 = .ok (.aload_n 0, 1) := sorry
theorem dX5_readFlag_58 : decode cX5_readFlag 58 = .ok (.bipush 15, 2) := sorry
theorem dX5_readFlag_60 : decode cX5_readFlag 60 = .ok (.invokevirtual 55, 3) := sorry
theorem dX5_readFlag_63 : decode cX5_readFlag 63 = .ok (.aload_n 0, 1) := sorry
theorem dX5_readFlag_64 : decode cX5_readFlag 64 = .ok (.getfield 34, 3) := sorry
theorem dX5_readFlag_67 : decode cX5_readFlag 67 = .ok (.getfield 116, 3) := sorry
theorem dX5_readFlag_70 : decode cX5_readFlag 70 = .ok (.iload_n 1, 1) := sorry
theorem dX5_readFlag_71 : decode cX5_readFlag 71 = .ok (.aload_n 0, 1) := sorry
theorem dX5_readFlag_72 : decode cX5_readFlag 72 = .ok (.aload_n 0, 1) := sorry
theorem dX5_readFlag_73 : decode cX5_readFlag 73 = .ok (.getfield 34, 3) := sorry
theorem dX5_readFlag_76 : decode cX5_readFlag 76 = .ok (.getfield 113, 3) := sorry
theorem dX5_readFlag_79 : decode cX5_readFlag 79 = .ok (.iload_n 1, 1) := sorry
theorem dX5_readFlag_80 : decode cX5_readFlag 80 = .ok (.iaload, 1) := sorry
theorem dX5_readFlag_81 : decode cX5_readFlag 81 = .ok (.sipush 999, 3) := sorry
theorem dX5_readFlag_84 : decode cX5_readFlag 84 = .ok (.invokevirtual 59, 3) := sorry
theorem dX5_readFlag_87 : decode cX5_readFlag 87 = .ok (.iastore, 1) := sorry
theorem dX5_readFlag_88 : decode cX5_readFlag 88 = .ok (.iconst 1, 1) := sorry
theorem dX5_readFlag_89 : decode cX5_readFlag 89 = .ok (.ireturn, 1) := sorry
theorem dX5_readFlag_90 : decode cX5_readFlag 90 = .ok (.aload_n 0, 1) := sorry
theorem dX5_readFlag_91 : decode cX5_readFlag 91 = .ok (.invokevirtual 52, 3) := sorry
theorem dX5_readFlag_94 : decode cX5_readFlag 94 = .ok (.aload_n 0, 1) := sorry
theorem dX5_readFlag_95 : decode cX5_readFlag 95 = .ok (.getfield 34, 3) := sorry
theorem dX5_readFlag_98 : decode cX5_readFlag 98 = .ok (.getfield 120, 3) := sorry
theorem dX5_readFlag_101 : decode cX5_readFlag 101 = .ok (.iload_n 1, 1) := sorry
theorem dX5_readFlag_102 : decode cX5_readFlag 102 = .ok (.aload_n 0, 1) := sorry
theorem dX5_readFlag_103 : decode cX5_readFlag 103 = .ok (.iconst 0, 1) := sorry
theorem dX5_readFlag_104 : decode cX5_readFlag 104 = .ok (.bipush 10, 2) := sorry
theorem dX5_readFlag_106 : decode cX5_readFlag 106 = .ok (.invokevirtual 59, 3) := sorry
theorem dX5_readFlag_109 : decode cX5_readFlag 109 = .ok (.iastore, 1) := sorry
theorem dX5_readFlag_110 : decode cX5_readFlag 110 = .ok (.iconst 1, 1) := sorry
theorem dX5_readFlag_111 : decode cX5_readFlag 111 = .ok (.ireturn, 1) := sorry
theorem dX5_readFlag_112 : decode cX5_readFlag 112 = .ok (.aload_n 0, 1) := sorry
theorem dX5_readFlag_113 : decode cX5_readFlag 113 = .ok (.invokevirtual 52, 3) := sorry
theorem dX5_readFlag_116 : decode cX5_readFlag 116 = .ok (.aload_n 0, 1) := sorry
theorem dX5_readFlag_117 : decode cX5_readFlag 117 = .ok (.getfield 34, 3) := sorry
theorem dX5_readFlag_120 : decode cX5_readFlag 120 = .ok (.getfield 123, 3) := sorry
theorem dX5_readFlag_123 : decode cX5_readFlag 123 = .ok (.iload_n 1, 1) := sorry
theorem dX5_readFlag_124 : decode cX5_readFlag 124 = .ok (.aload_n 0, 1) := sorry
theorem dX5_readFlag_125 : decode cX5_readFlag 125 = .ok (.iconst 1, 1) := sorry
theorem dX5_readFlag_126 : decode cX5_readFlag 126 = .ok (.bipush 99, 2) := sorry
theorem dX5_readFlag_128 : decode cX5_readFlag 128 = .ok (.invokevirtual 59, 3) := sorry
theorem dX5_readFlag_131 : decode cX5_readFlag 131 = .ok (.iastore, 1) := sorry
theorem dX5_readFlag_132 : decode cX5_readFlag 132 = .ok (.iconst 1, 1) := sorry
theorem dX5_readFlag_133 : decode cX5_readFlag 133 = .ok (.ireturn, 1) := sorry
theorem dX5_readFlag_134 : decode cX5_readFlag 134 = .ok (.iconst 0, 1) := sorry
theorem dX5_readFlag_135 : decode cX5_readFlag 135 = .ok (.ireturn, 1) := sorry
theorem dX5_readLaw_0 : decode cX5_readLaw 0 = .ok (.aload_n 0, 1) := sorry
theorem dX5_readLaw_1 : decode cX5_readLaw 1 = .ok (.getfield 22, 3) := sorry
theorem dX5_readLaw_4 : decode cX5_readLaw 4 = .ok (.bipush 20, 2) := sorry
theorem dX5_readLaw_6 : decode cX5_readLaw 6 = .ok (.if_icmp .ne 7, 3) := sorry
theorem dX5_readLaw_9 : decode cX5_readLaw 9 = .ok (.iconst 1, 1) := sorry
theorem dX5_readLaw_10 : decode cX5_readLaw 10 = .ok (.goto 4, 3) := sorry
theorem dX5_readLaw_13 : decode cX5_readLaw 13 = .ok (.iconst 0, 1) := sorry
theorem dX5_readLaw_14 : decode cX5_readLaw 14 = .ok (.istore_n 3, 1) := sorry
theorem dX5_readLaw_15 : decode cX5_readLaw 15 = .ok (.aload_n 0, 1) := sorry
theorem dX5_readLaw_16 : decode cX5_readLaw 16 = .ok (.invokevirtual 52, 3) := sorry
theorem dX5_readLaw_19 : decode cX5_readLaw 19 = .ok (.aload_n 0, 1) := sorry
theorem dX5_readLaw_20 : decode cX5_readLaw 20 = .ok (.bipush 58, 2) := sorry
theorem dX5_readLaw_22 : decode cX5_readLaw 22 = .ok (.invokevirtual 55, 3) := sorry
theorem dX5_readLaw_25 : decode cX5_readLaw 25 = .ok (.aload_n 0, 1) := sorry
theorem dX5_readLaw_26 : decode cX5_readLaw 26 = .ok (.iconst 0, 1) := sorry
theorem dX5_readLaw_27 : decode cX5_readLaw 27 = .ok (.putfield 42, 3) := sorry
theorem dX5_readLaw_30 : decode cX5_readLaw 30 = .ok (.aload_n 0, 1) := sorry
theorem dX5_readLaw_31 : decode cX5_readLaw 31 = .ok (.iload_n 1, 1) := sorry
theorem dX5_readLaw_32 : decode cX5_readLaw 32 = .ok (.putfield 45, 3) := sorry
theorem dX5_readLaw_35 : decode cX5_readLaw 35 = .ok (.iload_n 3, 1) := sorry
theorem dX5_readLaw_36 : decode cX5_readLaw 36 = .ok (.ifCond .eq 11, 3) := sorry
theorem dX5_readLaw_39 : decode cX5_readLaw 39 = .ok (.aload_n 0, 1) := sorry
theorem dX5_readLaw_40 : decode cX5_readLaw 40 = .ok (.iconst 0, 1) := sorry
theorem dX5_readLaw_41 : decode cX5_readLaw 41 = .ok (.invokevirtual 130, 3) := sorry
theorem dX5_readLaw_44 : decode cX5_readLaw 44 = .ok (.goto 8, 3) := sorry
theorem dX5_readLaw_47 : decode cX5_readLaw 47 = .ok (.aload_n 0, 1) := sorry
theorem dX5_readLaw_48 : decode cX5_readLaw 48 = .ok (.iconst 0, 1) := sorry
theorem dX5_readLaw_49 : decode cX5_readLaw 49 = .ok (.invokevirtual 133, 3) := sorry
theorem dX5_readLaw_52 : decode cX5_readLaw 52 = .ok (.aload_n 0, 1) := sorry
theorem dX5_readLaw_53 : decode cX5_readLaw 53 = .ok (.getfield 25, 3) := sorry
theorem dX5_readLaw_56 : decode cX5_readLaw 56 = .ok (.ifCond .eq 7, 3) := sorry
theorem dX5_readLaw_59 : decode cX5_readLaw 59 = .ok (.aload_n 2, 1) := sorry
theorem dX5_readLaw_60 : decode cX5_readLaw 60 = .ok (.goto 18, 3) := sorry
theorem dX5_readLaw_63 : decode cX5_readLaw 63 = .ok (.new 136, 3) := sorry
theorem dX5_readLaw_66 : decode cX5_readLaw 66 = .ok (.dup, 1) := sorry
theorem dX5_readLaw_67 : decode cX5_readLaw 67 = .ok (.aload_n 0, 1) := sorry
theorem dX5_readLaw_68 : decode cX5_readLaw 68 = .ok (.getfield 38, 3) := sorry
theorem dX5_readLaw_71 : decode cX5_readLaw 71 = .ok (.aload_n 0, 1) := sorry
theorem dX5_readLaw_72 : decode cX5_readLaw 72 = .ok (.getfield 42, 3) := sorry
theorem dX5_readLaw_75 : decode cX5_readLaw 75 = .ok (.invokespecial 138, 3) := sorry
theorem dX5_readLaw_78 : decode cX5_readLaw 78 = .ok (.areturn, 1) := sorry
theorem dX5_readLine_0 : decode cX5_readLine 0 = .ok (.aload_n 0, 1) := sorry
theorem dX5_readLine_1 : decode cX5_readLine 1 = .ok (.getfield 22, 3) := sorry
theorem dX5_readLine_4 : decode cX5_readLine 4 = .ok (.tableswitch 169 8 20 #[147, 169, 169, 169, 169, 68, 169, 169, 169, 169, 75, 99, 123], 68) := sorry
theorem dX5_readLine_72 : decode cX5_readLine 72 = .ok (.aload_n 0, 1) := sorry
theorem dX5_readLine_73 : decode cX5_readLine 73 = .ok (.invokevirtual 87, 3) := sorry
theorem dX5_readLine_76 : decode cX5_readLine 76 = .ok (.goto 102, 3) := sorry
theorem dX5_readLine_79 : decode cX5_readLine 79 = .ok (.aload_n 0, 1) := sorry
theorem dX5_readLine_80 : decode cX5_readLine 80 = .ok (.getfield 34, 3) := sorry
theorem dX5_readLine_83 : decode cX5_readLine 83 = .ok (.aload_n 0, 1) := sorry
theorem dX5_readLine_84 : decode cX5_readLine 84 = .ok (.sipush 511, 3) := sorry
theorem dX5_readLine_87 : decode cX5_readLine 87 = .ok (.aload_n 0, 1) := sorry
theorem dX5_readLine_88 : decode cX5_readLine 88 = .ok (.getfield 34, 3) := sorry
theorem dX5_readLine_91 : decode cX5_readLine 91 = .ok (.getfield 90, 3) := sorry
theorem dX5_readLine_94 : decode cX5_readLine 94 = .ok (.invokevirtual 94, 3) := sorry
theorem dX5_readLine_97 : decode cX5_readLine 97 = .ok (.putfield 90, 3) := sorry
theorem dX5_readLine_100 : decode cX5_readLine 100 = .ok (.goto 78, 3) := sorry
theorem dX5_readLine_103 : decode cX5_readLine 103 = .ok (.aload_n 0, 1) := sorry
theorem dX5_readLine_104 : decode cX5_readLine 104 = .ok (.getfield 34, 3) := sorry
theorem dX5_readLine_107 : decode cX5_readLine 107 = .ok (.aload_n 0, 1) := sorry
theorem dX5_readLine_108 : decode cX5_readLine 108 = .ok (.sipush 783, 3) := sorry
theorem dX5_readLine_111 : decode cX5_readLine 111 = .ok (.aload_n 0, 1) := sorry
theorem dX5_readLine_112 : decode cX5_readLine 112 = .ok (.getfield 34, 3) := sorry
theorem dX5_readLine_115 : decode cX5_readLine 115 = .ok (.getfield 98, 3) := sorry
theorem dX5_readLine_118 : decode cX5_readLine 118 = .ok (.invokevirtual 94, 3) := sorry
theorem dX5_readLine_121 : decode cX5_readLine 121 = .ok (.putfield 98, 3) := sorry
theorem dX5_readLine_124 : decode cX5_readLine 124 = .ok (.goto 54, 3) := sorry
theorem dX5_readLine_127 : decode cX5_readLine 127 = .ok (.aload_n 0, 1) := sorry
theorem dX5_readLine_128 : decode cX5_readLine 128 = .ok (.getfield 34, 3) := sorry
theorem dX5_readLine_131 : decode cX5_readLine 131 = .ok (.aload_n 0, 1) := sorry
theorem dX5_readLine_132 : decode cX5_readLine 132 = .ok (.sipush 1535, 3) := sorry
theorem dX5_readLine_135 : decode cX5_readLine 135 = .ok (.aload_n 0, 1) := sorry
theorem dX5_readLine_136 : decode cX5_readLine 136 = .ok (.getfield 34, 3) := sorry
theorem dX5_readLine_139 : decode cX5_readLine 139 = .ok (.getfield 101, 3) := sorry
theorem dX5_readLine_142 : decode cX5_readLine 142 = .ok (.invokevirtual 94, 3) := sorry
theorem dX5_readLine_145 : decode cX5_readLine 145 = .ok (.putfield 101, 3) := sorry
theorem dX5_readLine_148 : decode cX5_readLine 148 = .ok (.goto 30, 3) := sorry
theorem dX5_readLine_151 : decode cX5_readLine 151 = .ok (.aload_n 0, 1) := sorry
theorem dX5_readLine_152 : decode cX5_readLine 152 = .ok (.invokevirtual 52, 3) := sorry
theorem dX5_readLine_155 : decode cX5_readLine 155 = .ok (.aload_n 0, 1) := sorry
theorem dX5_readLine_156 : decode cX5_readLine 156 = .ok (.getfield 34, 3) := sorry
theorem dX5_readLine_159 : decode cX5_readLine 159 = .ok (.aload_n 0, 1) := sorry
theorem dX5_readLine_160 : decode cX5_readLine 160 = .ok (.iconst 0, 1) := sorry
theorem dX5_readLine_161 : decode cX5_readLine 161 = .ok (.sipush 999, 3) := sorry
theorem dX5_readLine_164 : decode cX5_readLine 164 = .ok (.invokevirtual 59, 3) := sorry
theorem dX5_readLine_167 : decode cX5_readLine 167 = .ok (.putfield 104, 3) := sorry
theorem dX5_readLine_170 : decode cX5_readLine 170 = .ok (.goto 8, 3) := sorry
theorem dX5_readLine_173 : decode cX5_readLine 173 = .ok (.aload_n 0, 1) := sorry
theorem dX5_readLine_174 : decode cX5_readLine 174 = .ok (.iconst 2, 1) := sorry
theorem dX5_readLine_175 : decode cX5_readLine 175 = .ok (.invokevirtual 81, 3) := sorry
theorem dX5_readLine_178 : decode cX5_readLine 178 = .ok (.return_, 1) := sorry
theorem dX5_readPerson_0 : decode cX5_readPerson 0 = .ok (.aload_n 0, 1) := sorry
theorem dX5_readPerson_1 : decode cX5_readPerson 1 = .ok (.getfield 34, 3) := sorry
theorem dX5_readPerson_4 : decode cX5_readPerson 4 = .ok (.getfield 107, 3) := sorry
theorem dX5_readPerson_7 : decode cX5_readPerson 7 = .ok (.istore_n 1, 1) := sorry
theorem dX5_readPerson_8 : decode cX5_readPerson 8 = .ok (.iload_n 1, 1) := sorry
theorem dX5_readPerson_9 : decode cX5_readPerson 9 = .ok (.bipush 10, 2) := sorry
theorem dX5_readPerson_11 : decode cX5_readPerson 11 = .ok (.if_icmp .lt 9, 3) := sorry
theorem dX5_readPerson_14 : decode cX5_readPerson 14 = .ok (.aload_n 0, 1) := sorry
theorem dX5_readPerson_15 : decode cX5_readPerson 15 = .ok (.iconst 4, 1) := sorry
theorem dX5_readPerson_16 : decode cX5_readPerson 16 = .ok (.invokevirtual 81, 3) := sorry
theorem dX5_readPerson_19 : decode cX5_readPerson 19 = .ok (.return_, 1) := sorry
theorem dX5_readPerson_20 : decode cX5_readPerson 20 = .ok (.aload_n 0, 1) := sorry
theorem dX5_readPerson_21 : decode cX5_readPerson 21 = .ok (.invokevirtual 52, 3) := sorry
theorem dX5_readPerson_24 : decode cX5_readPerson 24 = .ok (.iconst 0, 1) := sorry
theorem dX5_readPerson_25 : decode cX5_readPerson 25 = .ok (.istore_n 2, 1) := sorry
theorem dX5_readPerson_26 : decode cX5_readPerson 26 = .ok (.iconst 0, 1) := sorry
theorem dX5_readPerson_27 : decode cX5_readPerson 27 = .ok (.istore_n 3, 1) := sorry
theorem dX5_readPerson_28 : decode cX5_readPerson 28 = .ok (.iload_n 3, 1) := sorry
theorem dX5_readPerson_29 : decode cX5_readPerson 29 = .ok (.iconst 3, 1) := sorry
theorem dX5_readPerson_30 : decode cX5_readPerson 30 = .ok (.if_icmp .ge 37, 3) := sorry
theorem dX5_readPerson_33 : decode cX5_readPerson 33 = .ok (.bipush 10, 2) := sorry
theorem dX5_readPerson_35 : decode cX5_readPerson 35 = .ok (.iload_n 2, 1) := sorry
theorem dX5_readPerson_36 : decode cX5_readPerson 36 = .ok (.imul, 1) := sorry
theorem dX5_readPerson_37 : decode cX5_readPerson 37 = .ok (.iload_n 3, 1) := sorry
theorem dX5_readPerson_38 : decode cX5_readPerson 38 = .ok (.aload_n 0, 1) := sorry
theorem dX5_readPerson_39 : decode cX5_readPerson 39 = .ok (.getfield 34, 3) := sorry
theorem dX5_readPerson_42 : decode cX5_readPerson 42 = .ok (.getfield 63, 3) := sorry
theorem dX5_readPerson_45 : decode cX5_readPerson 45 = .ok (.if_icmp .ge 13, 3) := sorry
theorem dX5_readPerson_48 : decode cX5_readPerson 48 = .ok (.aload_n 0, 1) := sorry
theorem dX5_readPerson_49 : decode cX5_readPerson 49 = .ok (.iconst 0, 1) := sorry
theorem dX5_readPerson_50 : decode cX5_readPerson 50 = .ok (.bipush 9, 2) := sorry
theorem dX5_readPerson_52 : decode cX5_readPerson 52 = .ok (.invokevirtual 59, 3) := sorry
theorem dX5_readPerson_55 : decode cX5_readPerson 55 = .ok (.goto 4, 3) := sorry
theorem dX5_readPerson_58 : decode cX5_readPerson 58 = .ok (.iconst 0, 1) := sorry
theorem dX5_readPerson_59 : decode cX5_readPerson 59 = .ok (.iadd, 1) := sorry
theorem dX5_readPerson_60 : decode cX5_readPerson 60 = .ok (.istore_n 2, 1) := sorry
theorem dX5_readPerson_61 : decode cX5_readPerson 61 = .ok (.iinc 3 1, 3) := sorry
theorem dX5_readPerson_64 : decode cX5_readPerson 64 = .ok (.goto (-36), 3) := sorry
theorem dX5_readPerson_67 : decode cX5_readPerson 67 = .ok (.aload_n 0, 1) := sorry
theorem dX5_readPerson_68 : decode cX5_readPerson 68 = .ok (.getfield 34, 3) := sorry
theorem dX5_readPerson_71 : decode cX5_readPerson 71 = .ok (.getfield 110, 3) := sorry
theorem dX5_readPerson_74 : decode cX5_readPerson 74 = .ok (.iload_n 1, 1) := sorry
theorem dX5_readPerson_75 : decode cX5_readPerson 75 = .ok (.iload_n 2, 1) := sorry
theorem dX5_readPerson_76 : decode cX5_readPerson 76 = .ok (.iastore, 1) := sorry
theorem dX5_readPerson_77 : decode cX5_readPerson 77 = .ok (.aload_n 0, 1) := sorry
theorem dX5_readPerson_78 : decode cX5_readPerson 78 = .ok (.getfield 34, 3) := sorry
theorem dX5_readPerson_81 : decode cX5_readPerson 81 = .ok (.getfield 113, 3) := sorry
theorem dX5_readPerson_84 : decode cX5_readPerson 84 = .ok (.iload_n 1, 1) := sorry
theorem dX5_readPerson_85 : decode cX5_readPerson 85 = .ok (.iconst 0, 1) := sorry
theorem dX5_readPerson_86 : decode cX5_readPerson 86 = .ok (.iastore, 1) := sorry
theorem dX5_readPerson_87 : decode cX5_readPerson 87 = .ok (.aload_n 0, 1) := sorry
theorem dX5_readPerson_88 : decode cX5_readPerson 88 = .ok (.getfield 34, 3) := sorry
theorem dX5_readPerson_91 : decode cX5_readPerson 91 = .ok (.getfield 116, 3) := sorry
theorem dX5_readPerson_94 : decode cX5_readPerson 94 = .ok (.iload_n 1, 1) := sorry
theorem dX5_readPerson_95 : decode cX5_readPerson 95 = .ok (.ldc 119, 2) := sorry
theorem dX5_readPerson_97 : decode cX5_readPerson 97 = .ok (.iastore, 1) := sorry
theorem dX5_readPerson_98 : decode cX5_readPerson 98 = .ok (.aload_n 0, 1) := sorry
theorem dX5_readPerson_99 : decode cX5_readPerson 99 = .ok (.getfield 34, 3) := sorry
theorem dX5_readPerson_102 : decode cX5_readPerson 102 = .ok (.getfield 120, 3) := sorry
theorem dX5_readPerson_105 : decode cX5_readPerson 105 = .ok (.iload_n 1, 1) := sorry
theorem dX5_readPerson_106 : decode cX5_readPerson 106 = .ok (.bipush 10, 2) := sorry
theorem dX5_readPerson_108 : decode cX5_readPerson 108 = .ok (.iastore, 1) := sorry
theorem dX5_readPerson_109 : decode cX5_readPerson 109 = .ok (.aload_n 0, 1) := sorry
theorem dX5_readPerson_110 : decode cX5_readPerson 110 = .ok (.getfield 34, 3) := sorry
theorem dX5_readPerson_113 : decode cX5_readPerson 113 = .ok (.getfield 123, 3) := sorry
theorem dX5_readPerson_116 : decode cX5_readPerson 116 = .ok (.iload_n 1, 1) := sorry
theorem dX5_readPerson_117 : decode cX5_readPerson 117 = .ok (.iconst 1, 1) := sorry
theorem dX5_readPerson_118 : decode cX5_readPerson 118 = .ok (.iastore, 1) := sorry
theorem dX5_readPerson_119 : decode cX5_readPerson 119 = .ok (.iconst 1, 1) := sorry
theorem dX5_readPerson_120 : decode cX5_readPerson 120 = .ok (.istore_n 3, 1) := sorry
theorem dX5_readPerson_121 : decode cX5_readPerson 121 = .ok (.iconst 0, 1) := sorry
theorem dX5_readPerson_122 : decode cX5_readPerson 122 = .ok (.istore 4, 2) := sorry
theorem dX5_readPerson_124 : decode cX5_readPerson 124 = .ok (.iload 4, 2) := sorry
theorem dX5_readPerson_126 : decode cX5_readPerson 126 = .ok (.aload_n 0, 1) := sorry
theorem dX5_readPerson_127 : decode cX5_readPerson 127 = .ok (.getfield 12, 3) := sorry
theorem dX5_readPerson_130 : decode cX5_readPerson 130 = .ok (.getfield 69, 3) := sorry
theorem dX5_readPerson_133 : decode cX5_readPerson 133 = .ok (.if_icmp .ge 19, 3) := sorry
theorem dX5_readPerson_136 : decode cX5_readPerson 136 = .ok (.iload_n 3, 1) := sorry
theorem dX5_readPerson_137 : decode cX5_readPerson 137 = .ok (.ifCond .eq 15, 3) := sorry
theorem dX5_readPerson_140 : decode cX5_readPerson 140 = .ok (.aload_n 0, 1) := sorry
theorem dX5_readPerson_141 : decode cX5_readPerson 141 = .ok (.iload_n 1, 1) := sorry
theorem dX5_readPerson_142 : decode cX5_readPerson 142 = .ok (.invokevirtual 126, 3) := sorry
theorem dX5_readPerson_145 : decode cX5_readPerson 145 = .ok (.istore_n 3, 1) := sorry
theorem dX5_readPerson_146 : decode cX5_readPerson 146 = .ok (.iinc 4 1, 3) := sorry
theorem dX5_readPerson_149 : decode cX5_readPerson 149 = .ok (.goto (-25), 3) := sorry
theorem dX5_readPerson_152 : decode cX5_readPerson 152 = .ok (.aload_n 0, 1) := sorry
theorem dX5_readPerson_153 : decode cX5_readPerson 153 = .ok (.getfield 34, 3) := sorry
theorem dX5_readPerson_156 : decode cX5_readPerson 156 = .ok (.dup, 1) := sorry
theorem dX5_readPerson_157 : decode cX5_readPerson 157 = .ok (.getfield 107, 3) := sorry
theorem dX5_readPerson_160 : decode cX5_readPerson 160 = .ok (.iconst 1, 1) := sorry
theorem dX5_readPerson_161 : decode cX5_readPerson 161 = .ok (.iadd, 1) := sorry
theorem dX5_readPerson_162 : decode cX5_readPerson 162 = .ok (.putfield 107, 3) := sorry
theorem dX5_readPerson_165 : decode cX5_readPerson 165 = .ok (.return_, 1) := sorry
theorem dX5_readSum_0 : decode cX5_readSum 0 = .ok (.aload_n 0, 1) := sorry
theorem dX5_readSum_1 : decode cX5_readSum 1 = .ok (.iload_n 1, 1) := sorry
theorem dX5_readSum_2 : decode cX5_readSum 2 = .ok (.invokevirtual 153, 3) := sorry
theorem dX5_readSum_5 : decode cX5_readSum 5 = .ok (.iconst 0, 1) := sorry
theorem dX5_readSum_6 : decode cX5_readSum 6 = .ok (.istore_n 2, 1) := sorry
theorem dX5_readSum_7 : decode cX5_readSum 7 = .ok (.iload_n 2, 1) := sorry
theorem dX5_readSum_8 : decode cX5_readSum 8 = .ok (.aload_n 0, 1) := sorry
theorem dX5_readSum_9 : decode cX5_readSum 9 = .ok (.getfield 12, 3) := sorry
theorem dX5_readSum_12 : decode cX5_readSum 12 = .ok (.getfield 69, 3) := sorry
theorem dX5_readSum_15 : decode cX5_readSum 15 = .ok (.if_icmp .ge 50, 3) := sorry
theorem dX5_readSum_18 : decode cX5_readSum 18 = .ok (.aload_n 0, 1) := sorry
theorem dX5_readSum_19 : decode cX5_readSum 19 = .ok (.getfield 22, 3) := sorry
theorem dX5_readSum_22 : decode cX5_readSum 22 = .ok (.bipush 43, 2) := sorry
theorem dX5_readSum_24 : decode cX5_readSum 24 = .ok (.if_icmp .eq 12, 3) := sorry
theorem dX5_readSum_27 : decode cX5_readSum 27 = .ok (.aload_n 0, 1) := sorry
theorem dX5_readSum_28 : decode cX5_readSum 28 = .ok (.getfield 22, 3) := sorry
theorem dX5_readSum_31 : decode cX5_readSum 31 = .ok (.bipush 45, 2) := sorry
theorem dX5_readSum_33 : decode cX5_readSum 33 = .ok (.if_icmp .ne 32, 3) := sorry
theorem dX5_readSum_36 : decode cX5_readSum 36 = .ok (.aload_n 0, 1) := sorry
theorem dX5_readSum_37 : decode cX5_readSum 37 = .ok (.getfield 22, 3) := sorry
theorem dX5_readSum_40 : decode cX5_readSum 40 = .ok (.istore_n 3, 1) := sorry
theorem dX5_readSum_41 : decode cX5_readSum 41 = .ok (.aload_n 0, 1) := sorry
theorem dX5_readSum_42 : decode cX5_readSum 42 = .ok (.invokevirtual 52, 3) := sorry
theorem dX5_readSum_45 : decode cX5_readSum 45 = .ok (.aload_n 0, 1) := sorry
theorem dX5_readSum_46 : decode cX5_readSum 46 = .ok (.iload_n 1, 1) := sorry
theorem dX5_readSum_47 : decode cX5_readSum 47 = .ok (.invokevirtual 153, 3) := sorry
theorem dX5_readSum_50 : decode cX5_readSum 50 = .ok (.aload_n 0, 1) := sorry
theorem dX5_readSum_51 : decode cX5_readSum 51 = .ok (.sipush 2000, 3) := sorry
theorem dX5_readSum_54 : decode cX5_readSum 54 = .ok (.iload_n 3, 1) := sorry
theorem dX5_readSum_55 : decode cX5_readSum 55 = .ok (.iadd, 1) := sorry
theorem dX5_readSum_56 : decode cX5_readSum 56 = .ok (.invokevirtual 144, 3) := sorry
theorem dX5_readSum_59 : decode cX5_readSum 59 = .ok (.iinc 2 1, 3) := sorry
theorem dX5_readSum_62 : decode cX5_readSum 62 = .ok (.goto (-55), 3) := sorry
theorem dX5_readSum_65 : decode cX5_readSum 65 = .ok (.return_, 1) := sorry
theorem dX5_readTruth_0 : decode cX5_readTruth 0 = .ok (.aload_n 0, 1) := sorry
theorem dX5_readTruth_1 : decode cX5_readTruth 1 = .ok (.iload_n 1, 1) := sorry
theorem dX5_readTruth_2 : decode cX5_readTruth 2 = .ok (.invokevirtual 141, 3) := sorry
theorem dX5_readTruth_5 : decode cX5_readTruth 5 = .ok (.iconst 0, 1) := sorry
theorem dX5_readTruth_6 : decode cX5_readTruth 6 = .ok (.istore_n 2, 1) := sorry
theorem dX5_readTruth_7 : decode cX5_readTruth 7 = .ok (.iload_n 2, 1) := sorry
theorem dX5_readTruth_8 : decode cX5_readTruth 8 = .ok (.aload_n 0, 1) := sorry
theorem dX5_readTruth_9 : decode cX5_readTruth 9 = .ok (.getfield 12, 3) := sorry
theorem dX5_readTruth_12 : decode cX5_readTruth 12 = .ok (.getfield 69, 3) := sorry
theorem dX5_readTruth_15 : decode cX5_readTruth 15 = .ok (.if_icmp .ge 34, 3) := sorry
theorem dX5_readTruth_18 : decode cX5_readTruth 18 = .ok (.aload_n 0, 1) := sorry
theorem dX5_readTruth_19 : decode cX5_readTruth 19 = .ok (.getfield 22, 3) := sorry
theorem dX5_readTruth_22 : decode cX5_readTruth 22 = .ok (.bipush 21, 2) := sorry
theorem dX5_readTruth_24 : decode cX5_readTruth 24 = .ok (.if_icmp .ne 25, 3) := sorry
theorem dX5_readTruth_27 : decode cX5_readTruth 27 = .ok (.aload_n 0, 1) := sorry
theorem dX5_readTruth_28 : decode cX5_readTruth 28 = .ok (.invokevirtual 52, 3) := sorry
theorem dX5_readTruth_31 : decode cX5_readTruth 31 = .ok (.aload_n 0, 1) := sorry
theorem dX5_readTruth_32 : decode cX5_readTruth 32 = .ok (.iload_n 1, 1) := sorry
theorem dX5_readTruth_33 : decode cX5_readTruth 33 = .ok (.invokevirtual 141, 3) := sorry
theorem dX5_readTruth_36 : decode cX5_readTruth 36 = .ok (.aload_n 0, 1) := sorry
theorem dX5_readTruth_37 : decode cX5_readTruth 37 = .ok (.sipush 2021, 3) := sorry
theorem dX5_readTruth_40 : decode cX5_readTruth 40 = .ok (.invokevirtual 144, 3) := sorry
theorem dX5_readTruth_43 : decode cX5_readTruth 43 = .ok (.iinc 2 1, 3) := sorry
theorem dX5_readTruth_46 : decode cX5_readTruth 46 = .ok (.goto (-39), 3) := sorry
theorem dX5_readTruth_49 : decode cX5_readTruth 49 = .ok (.return_, 1) := sorry
theorem dX5_readUnit_0 : decode cX5_readUnit 0 = .ok (.aload_n 0, 1) := sorry
theorem dX5_readUnit_1 : decode cX5_readUnit 1 = .ok (.getfield 22, 3) := sorry
theorem dX5_readUnit_4 : decode cX5_readUnit 4 = .ok (.bipush 23, 2) := sorry
theorem dX5_readUnit_6 : decode cX5_readUnit 6 = .ok (.if_icmp .ne 28, 3) := sorry
theorem dX5_readUnit_9 : decode cX5_readUnit 9 = .ok (.aload_n 0, 1) := sorry
theorem dX5_readUnit_10 : decode cX5_readUnit 10 = .ok (.iload_n 1, 1) := sorry
theorem dX5_readUnit_11 : decode cX5_readUnit 11 = .ok (.invokevirtual 150, 3) := sorry
theorem dX5_readUnit_14 : decode cX5_readUnit 14 = .ok (.ifCond .eq 107, 3) := sorry
theorem dX5_readUnit_17 : decode cX5_readUnit 17 = .ok (.aload_n 0, 1) := sorry
theorem dX5_readUnit_18 : decode cX5_readUnit 18 = .ok (.iload_n 1, 1) := sorry
theorem dX5_readUnit_19 : decode cX5_readUnit 19 = .ok (.iconst 1, 1) := sorry
theorem dX5_readUnit_20 : decode cX5_readUnit 20 = .ok (.iadd, 1) := sorry
theorem dX5_readUnit_21 : decode cX5_readUnit 21 = .ok (.invokevirtual 147, 3) := sorry
theorem dX5_readUnit_24 : decode cX5_readUnit 24 = .ok (.aload_n 0, 1) := sorry
theorem dX5_readUnit_25 : decode cX5_readUnit 25 = .ok (.sipush 2023, 3) := sorry
theorem dX5_readUnit_28 : decode cX5_readUnit 28 = .ok (.invokevirtual 144, 3) := sorry
theorem dX5_readUnit_31 : decode cX5_readUnit 31 = .ok (.goto 90, 3) := sorry
theorem dX5_readUnit_34 : decode cX5_readUnit 34 = .ok (.aload_n 0, 1) := sorry
theorem dX5_readUnit_35 : decode cX5_readUnit 35 = .ok (.getfield 22, 3) := sorry
theorem dX5_readUnit_38 : decode cX5_readUnit 38 = .ok (.bipush 91, 2) := sorry
theorem dX5_readUnit_40 : decode cX5_readUnit 40 = .ok (.if_icmp .ne 27, 3) := sorry
theorem dX5_readUnit_43 : decode cX5_readUnit 43 = .ok (.aload_n 0, 1) := sorry
theorem dX5_readUnit_44 : decode cX5_readUnit 44 = .ok (.iload_n 1, 1) := sorry
theorem dX5_readUnit_45 : decode cX5_readUnit 45 = .ok (.invokevirtual 150, 3) := sorry
theorem dX5_readUnit_48 : decode cX5_readUnit 48 = .ok (.ifCond .eq 73, 3) := sorry
theorem dX5_readUnit_51 : decode cX5_readUnit 51 = .ok (.aload_n 0, 1) := sorry
theorem dX5_readUnit_52 : decode cX5_readUnit 52 = .ok (.iload_n 1, 1) := sorry
theorem dX5_readUnit_53 : decode cX5_readUnit 53 = .ok (.iconst 1, 1) := sorry
theorem dX5_readUnit_54 : decode cX5_readUnit 54 = .ok (.iadd, 1) := sorry
theorem dX5_readUnit_55 : decode cX5_readUnit 55 = .ok (.invokevirtual 133, 3) := sorry
theorem dX5_readUnit_58 : decode cX5_readUnit 58 = .ok (.aload_n 0, 1) := sorry
theorem dX5_readUnit_59 : decode cX5_readUnit 59 = .ok (.bipush 93, 2) := sorry
theorem dX5_readUnit_61 : decode cX5_readUnit 61 = .ok (.invokevirtual 55, 3) := sorry
theorem dX5_readUnit_64 : decode cX5_readUnit 64 = .ok (.goto 57, 3) := sorry
theorem dX5_readUnit_67 : decode cX5_readUnit 67 = .ok (.aload_n 0, 1) := sorry
theorem dX5_readUnit_68 : decode cX5_readUnit 68 = .ok (.iload_n 1, 1) := sorry
theorem dX5_readUnit_69 : decode cX5_readUnit 69 = .ok (.invokevirtual 130, 3) := sorry
theorem dX5_readUnit_72 : decode cX5_readUnit 72 = .ok (.aload_n 0, 1) := sorry
theorem dX5_readUnit_73 : decode cX5_readUnit 73 = .ok (.getfield 22, 3) := sorry
theorem dX5_readUnit_76 : decode cX5_readUnit 76 = .ok (.istore_n 2, 1) := sorry
theorem dX5_readUnit_77 : decode cX5_readUnit 77 = .ok (.iload_n 2, 1) := sorry
theorem dX5_readUnit_78 : decode cX5_readUnit 78 = .ok (.bipush 61, 2) := sorry
theorem dX5_readUnit_80 : decode cX5_readUnit 80 = .ok (.if_icmp .eq 15, 3) := sorry
theorem dX5_readUnit_83 : decode cX5_readUnit 83 = .ok (.iload_n 2, 1) := sorry
theorem dX5_readUnit_84 : decode cX5_readUnit 84 = .ok (.bipush 60, 2) := sorry
theorem dX5_readUnit_86 : decode cX5_readUnit 86 = .ok (.if_icmp .eq 9, 3) := sorry
theorem dX5_readUnit_89 : decode cX5_readUnit 89 = .ok (.iload_n 2, 1) := sorry
theorem dX5_readUnit_90 : decode cX5_readUnit 90 = .ok (.bipush 62, 2) := sorry
theorem dX5_readUnit_92 : decode cX5_readUnit 92 = .ok (.if_icmp .ne 24, 3) := sorry
theorem dX5_readUnit_95 : decode cX5_readUnit 95 = .ok (.aload_n 0, 1) := sorry
theorem dX5_readUnit_96 : decode cX5_readUnit 96 = .ok (.invokevirtual 52, 3) := sorry
theorem dX5_readUnit_99 : decode cX5_readUnit 99 = .ok (.aload_n 0, 1) := sorry
theorem dX5_readUnit_100 : decode cX5_readUnit 100 = .ok (.iload_n 1, 1) := sorry
theorem dX5_readUnit_101 : decode cX5_readUnit 101 = .ok (.invokevirtual 130, 3) := sorry
theorem dX5_readUnit_104 : decode cX5_readUnit 104 = .ok (.aload_n 0, 1) := sorry
theorem dX5_readUnit_105 : decode cX5_readUnit 105 = .ok (.sipush 2000, 3) := sorry
theorem dX5_readUnit_108 : decode cX5_readUnit 108 = .ok (.iload_n 2, 1) := sorry
theorem dX5_readUnit_109 : decode cX5_readUnit 109 = .ok (.iadd, 1) := sorry
theorem dX5_readUnit_110 : decode cX5_readUnit 110 = .ok (.invokevirtual 144, 3) := sorry
theorem dX5_readUnit_113 : decode cX5_readUnit 113 = .ok (.goto 8, 3) := sorry
theorem dX5_readUnit_116 : decode cX5_readUnit 116 = .ok (.aload_n 0, 1) := sorry
theorem dX5_readUnit_117 : decode cX5_readUnit 117 = .ok (.iconst 2, 1) := sorry
theorem dX5_readUnit_118 : decode cX5_readUnit 118 = .ok (.invokevirtual 81, 3) := sorry
theorem dX5_readUnit_121 : decode cX5_readUnit 121 = .ok (.return_, 1) := sorry
set_option maxHeartbeats 4000000 in
set_option maxRecDepth 100000 in
theorem gX5_readSum_6dbf67a (l : Launch) (D : va_G) (cy : Nat → ClassId) (h0 : Nat) (h1 : Nat) (h2 : Nat) (h3 : Nat) (h4 : Nat) (h5 : Nat) (p0 : Int32) (p1 : Int32) (p2 : Int32) (p3 : Int32) (p4 : Int32) (w0 : Value) (p5 : Int32) (p6 : Int32) (w1 : Value) (p7 : Int32) (p8 : Int32) (f0 : Nat → Int32) (f1 : Nat → Int32) (f2 : Nat → Int32) (f3 : Nat → Int32) (hp0 : 0 ≤ (p0).toInt ∧ (p0).toInt ≤ 6) (hp1 : (-1) ≤ (p1).toInt ∧ (p1).toInt ≤ 900) (hp2 : (-2147483648) ≤ (p2).toInt ∧ (p2).toInt ≤ 2147483647) (hp3 : (-2147483648) ≤ (p3).toInt ∧ (p3).toInt ≤ 2147483647) (hp4 : (-2147483648) ≤ (p4).toInt ∧ (p4).toInt ≤ 2147483647) (hp5 : 0 ≤ (p5).toInt ∧ (p5).toInt ≤ 900) (hp6 : (-2147483648) ≤ (p6).toInt ∧ (p6).toInt ≤ 2147483647) (hp7 : 0 ≤ (p7).toInt ∧ (p7).toInt ≤ 900) (hp8 : 0 ≤ (p8).toInt ∧ (p8).toInt ≤ 901) (hpre0 : KZ f0 (p8 : Int32).toInt) (hpre1 : 0 ≤ (p1 : Int32).toInt ∧ (p1 : Int32).toInt < (p8 : Int32).toInt) (hpre2 : (p3 : Int32).toInt ≠ 0 ∨ (p2 : Int32).toInt = 26 ∨ (p2 : Int32).toInt = 27 ∨ (p1 : Int32).toInt + 1 < (p8 : Int32).toInt) (hpre3 : (p3 : Int32).toInt = 0 ∨ (p2 : Int32).toInt = 27) (kk_ : Nat) (hkk : (p0).toInt + kk_ = 6) (ih : ∀ j : Nat, kk_ = j + 1 → gX5_IHS_799895c l D cy j) (sz : Nat) : MV l yX5_readSum cX5_readSum 4 { frames := 4 + 3 * kk_, cells := 0, slots := 0, locals := 85 + 80 * kk_ } [.ref h0, .int p0] D cy (wk_a727c0403 cy h0 h1 p1 p2 p3 p4 w0 h5 p5 p6 h1 w1 p7 p8 h2 h3 h4 h2 f0 h3 f1 h4 f2 h5 f3) sz (fun u => (0 ≤ (u.2.1 0 0).toInt ∧ (u.2.1 0 0).toInt ≤ 900) ∧ ((-2147483648) ≤ (u.2.1 1 0).toInt ∧ (u.2.1 1 0).toInt ≤ 2147483647) ∧ ((-2147483648) ≤ (u.2.1 2 0).toInt ∧ (u.2.1 2 0).toInt ≤ 2147483647) ∧ ((-2147483648) ≤ (u.2.1 3 0).toInt ∧ (u.2.1 3 0).toInt ≤ 2147483647) ∧ (0 ≤ (u.2.1 4 0).toInt ∧ (u.2.1 4 0).toInt ≤ 900) ∧ (0 ≤ ((u.2.1 0 0) : Int32).toInt ∧ ((u.2.1 0 0) : Int32).toInt < (p8 : Int32).toInt) ∧ (((u.2.1 2 0) : Int32).toInt ≠ 0 ∨ ((u.2.1 1 0) : Int32).toInt = 26 ∨ ((u.2.1 1 0) : Int32).toInt = 27 ∨ ((u.2.1 0 0) : Int32).toInt + 1 < (p8 : Int32).toInt) ∧ (((u.2.1 2 0) : Int32).toInt ≠ 0 ∨ ((u.2.1 4 0) : Int32).toInt + (p1 : Int32).toInt ≤ (p5 : Int32).toInt + ((u.2.1 0 0) : Int32).toInt) ∧ (((u.2.1 2 0) : Int32).toInt ≠ 0 ∨ (p3 : Int32).toInt = 0) ∧ (((u.2.1 2 0) : Int32).toInt = 0 ∨ ((u.2.1 1 0) : Int32).toInt = 27) ∧ ((p1 : Int32).toInt ≤ ((u.2.1 0 0) : Int32).toInt) ∧ (SIM f0 f1 f2 (p8 : Int32).toInt (sumS (naC p6) kk_) (p1 : Int32).toInt (p2 : Int32).toInt (p3 : Int32).toInt (p4 : Int32).toInt ((u.2.1 0 0) : Int32).toInt ((u.2.1 1 0) : Int32).toInt ((u.2.1 2 0) : Int32).toInt ((u.2.1 3 0) : Int32).toInt) ∧ True) (fun u => (wk_a727c0403 cy h0 h1 (u.2.1 0 0) (u.2.1 1 0) (u.2.1 2 0) (u.2.1 3 0) w0 h5 (u.2.1 4 0) p6 h1 w1 p7 p8 h2 h3 h4 h2 f0 h3 f1 h4 f2 h5 (u.2.1 5))) 0 0 := sorry
set_option maxRecDepth 100000 in
theorem gX5_ALLS_799895c (l : Launch) (D : va_G) (cy : Nat → ClassId) : ∀ kk_ : Nat, gX5_IHS_799895c l D cy kk_ := sorry
set_option maxHeartbeats 4000000 in
set_option maxRecDepth 100000 in
theorem gX5_take_e8bb470 (l : Launch) (D : va_G) (cy : Nat → ClassId) (h0 : Nat) (h1 : Nat) (h2 : Nat) (h3 : Nat) (p0 : Int32) (p1 : Int32) (p2 : Int32) (p3 : Int32) (w0 : Value) (w1 : Value) (p4 : Int32) (p5 : Int32) (w2 : Value) (p6 : Int32) (p7 : Int32) (w3 : Value) (f0 : Nat → Int32) (f1 : Nat → Int32) (hp0 : (-1) ≤ (p0).toInt ∧ (p0).toInt ≤ 900) (hp1 : (-2147483648) ≤ (p1).toInt ∧ (p1).toInt ≤ 2147483647) (hp2 : (-2147483648) ≤ (p2).toInt ∧ (p2).toInt ≤ 2147483647) (hp3 : (-2147483648) ≤ (p3).toInt ∧ (p3).toInt ≤ 2147483647) (hp4 : 0 ≤ (p4).toInt ∧ (p4).toInt ≤ 900) (hp5 : (-2147483648) ≤ (p5).toInt ∧ (p5).toInt ≤ 2147483647) (hp6 : 0 ≤ (p6).toInt ∧ (p6).toInt ≤ 900) (hp7 : 0 ≤ (p7).toInt ∧ (p7).toInt ≤ 901) (hpre0 : KZ f0 (p7 : Int32).toInt) (hpre1 : 0 ≤ (p0 : Int32).toInt ∧ (p0 : Int32).toInt < (p7 : Int32).toInt) (hpre2 : (p2 : Int32).toInt ≠ 0 ∨ (p1 : Int32).toInt = 26 ∨ (p1 : Int32).toInt = 27 ∨ (p0 : Int32).toInt + 1 < (p7 : Int32).toInt) (hpre3 : (p2 : Int32).toInt = 0 ∨ (p1 : Int32).toInt = 27) (hpre4 : (93 : Int32).toInt ≠ 26 ∧ (93 : Int32).toInt ≠ 27) (sz : Nat) : MV l yX5_take cX5_take 2 { frames := 1, cells := 0, slots := 0, locals := 21 } [.ref h0, .int 93] D cy (wk_8964b4ae4 cy h0 h1 p0 p1 p2 p3 w0 w1 p4 p5 h1 w2 p6 p7 h2 h3 w3 h2 f0 h3 f1) sz (fun u => ((-2147483648) ≤ (u.2.1 0 0).toInt ∧ (u.2.1 0 0).toInt ≤ 2147483647) ∧ ((-2147483648) ≤ (u.2.1 1 0).toInt ∧ (u.2.1 1 0).toInt ≤ 2147483647) ∧ ((-2147483648) ≤ (u.2.1 2 0).toInt ∧ (u.2.1 2 0).toInt ≤ 2147483647) ∧ ((-1) ≤ (u.2.1 3 0).toInt ∧ (u.2.1 3 0).toInt ≤ 900) ∧ (0 ≤ ((u.2.1 3 0) : Int32).toInt ∧ ((u.2.1 3 0) : Int32).toInt < (p7 : Int32).toInt) ∧ (((u.2.1 1 0) : Int32).toInt ≠ 0 ∨ ((u.2.1 0 0) : Int32).toInt = 26 ∨ ((u.2.1 0 0) : Int32).toInt = 27 ∨ ((u.2.1 3 0) : Int32).toInt + 1 < (p7 : Int32).toInt) ∧ (((u.2.1 1 0) : Int32).toInt ≠ 0 ∨ ((u.2.1 3 0) : Int32).toInt = (p0 : Int32).toInt + 1) ∧ (((u.2.1 1 0) : Int32).toInt ≠ 0 ∨ (p2 : Int32).toInt = 0) ∧ (((u.2.1 1 0) : Int32).toInt = 0 ∨ ((u.2.1 0 0) : Int32).toInt = 27) ∧ ((p0 : Int32).toInt ≤ ((u.2.1 3 0) : Int32).toInt) ∧ (∀ vv : Nat → Int32, SIM f0 f1 vv (p7 : Int32).toInt (tak 93) (p0 : Int32).toInt (p1 : Int32).toInt (p2 : Int32).toInt (p3 : Int32).toInt ((u.2.1 3 0) : Int32).toInt ((u.2.1 0 0) : Int32).toInt ((u.2.1 1 0) : Int32).toInt ((u.2.1 2 0) : Int32).toInt) ∧ True) (fun u => (wk_8964b4ae4 cy h0 h1 (u.2.1 3 0) (u.2.1 0 0) (u.2.1 1 0) (u.2.1 2 0) w0 w1 p4 p5 h1 w2 p6 p7 h2 h3 w3 h2 f0 h3 f1)) 0 0 := sorry
set_option maxRecDepth 100000 in
def gX5_IHT_0feb8f5 (l : Launch) (D : va_G) (cy : Nat → ClassId) (kk_ : Nat) : Prop := (∀ (h0 : Nat) (h1 : Nat) (h2 : Nat) (h3 : Nat) (h4 : Nat) (h5 : Nat) (p0 : Int32) (p1 : Int32) (p2 : Int32) (p3 : Int32) (p4 : Int32) (w0 : Value) (p5 : Int32) (p6 : Int32) (w1 : Value) (p7 : Int32) (p8 : Int32) (f0 : Nat → Int32) (f1 : Nat → Int32) (f2 : Nat → Int32) (f3 : Nat → Int32) (hp0 : 0 ≤ (p0).toInt ∧ (p0).toInt ≤ 6) (hp1 : (-1) ≤ (p1).toInt ∧ (p1).toInt ≤ 900) (hp2 : (-2147483648) ≤ (p2).toInt ∧ (p2).toInt ≤ 2147483647) (hp3 : (-2147483648) ≤ (p3).toInt ∧ (p3).toInt ≤ 2147483647) (hp4 : (-2147483648) ≤ (p4).toInt ∧ (p4).toInt ≤ 2147483647) (hp5 : 0 ≤ (p5).toInt ∧ (p5).toInt ≤ 900) (hp6 : (-2147483648) ≤ (p6).toInt ∧ (p6).toInt ≤ 2147483647) (hp7 : 0 ≤ (p7).toInt ∧ (p7).toInt ≤ 900) (hp8 : 0 ≤ (p8).toInt ∧ (p8).toInt ≤ 901) (hpre0 : KZ f0 (p8 : Int32).toInt) (hpre1 : 0 ≤ (p1 : Int32).toInt ∧ (p1 : Int32).toInt < (p8 : Int32).toInt) (hpre2 : (p3 : Int32).toInt ≠ 0 ∨ (p2 : Int32).toInt = 26 ∨ (p2 : Int32).toInt = 27 ∨ (p1 : Int32).toInt + 1 < (p8 : Int32).toInt) (hpre3 : (p3 : Int32).toInt = 0 ∨ (p2 : Int32).toInt = 27) (hkk : (p0).toInt + kk_ = 6) (sz : Nat), MV l yX5_readTruth cX5_readTruth 3 { frames := 7 + 3 * kk_, cells := 0, slots := 0, locals := 152 + 80 * kk_ } [.ref h0, .int p0] D cy (wk_a727c0403 cy h0 h1 p1 p2 p3 p4 w0 h5 p5 p6 h1 w1 p7 p8 h2 h3 h4 h2 f0 h3 f1 h4 f2 h5 f3) sz (fun u => (0 ≤ (u.2.1 0 0).toInt ∧ (u.2.1 0 0).toInt ≤ 900) ∧ ((-2147483648) ≤ (u.2.1 1 0).toInt ∧ (u.2.1 1 0).toInt ≤ 2147483647) ∧ ((-2147483648) ≤ (u.2.1 2 0).toInt ∧ (u.2.1 2 0).toInt ≤ 2147483647) ∧ ((-2147483648) ≤ (u.2.1 3 0).toInt ∧ (u.2.1 3 0).toInt ≤ 2147483647) ∧ (0 ≤ (u.2.1 4 0).toInt ∧ (u.2.1 4 0).toInt ≤ 900) ∧ (0 ≤ ((u.2.1 0 0) : Int32).toInt ∧ ((u.2.1 0 0) : Int32).toInt < (p8 : Int32).toInt) ∧ (((u.2.1 2 0) : Int32).toInt ≠ 0 ∨ ((u.2.1 1 0) : Int32).toInt = 26 ∨ ((u.2.1 1 0) : Int32).toInt = 27 ∨ ((u.2.1 0 0) : Int32).toInt + 1 < (p8 : Int32).toInt) ∧ (((u.2.1 2 0) : Int32).toInt ≠ 0 ∨ ((u.2.1 4 0) : Int32).toInt + (p1 : Int32).toInt ≤ (p5 : Int32).toInt + ((u.2.1 0 0) : Int32).toInt) ∧ (((u.2.1 2 0) : Int32).toInt ≠ 0 ∨ (p3 : Int32).toInt = 0) ∧ (((u.2.1 2 0) : Int32).toInt = 0 ∨ ((u.2.1 1 0) : Int32).toInt = 27) ∧ ((p1 : Int32).toInt ≤ ((u.2.1 0 0) : Int32).toInt) ∧ (SIM f0 f1 f2 (p8 : Int32).toInt (truthS (naC p6) kk_) (p1 : Int32).toInt (p2 : Int32).toInt (p3 : Int32).toInt (p4 : Int32).toInt ((u.2.1 0 0) : Int32).toInt ((u.2.1 1 0) : Int32).toInt ((u.2.1 2 0) : Int32).toInt ((u.2.1 3 0) : Int32).toInt) ∧ True) (fun u => (wk_a727c0403 cy h0 h1 (u.2.1 0 0) (u.2.1 1 0) (u.2.1 2 0) (u.2.1 3 0) w0 h5 (u.2.1 4 0) p6 h1 w1 p7 p8 h2 h3 h4 h2 f0 h3 f1 h4 f2 h5 (u.2.1 5))) 0 0) ∧ (∀ (h0 : Nat) (h1 : Nat) (h2 : Nat) (h3 : Nat) (h4 : Nat) (h5 : Nat) (p0 : Int32) (p1 : Int32) (p2 : Int32) (p3 : Int32) (p4 : Int32) (w0 : Value) (p5 : Int32) (p6 : Int32) (w1 : Value) (p7 : Int32) (p8 : Int32) (f0 : Nat → Int32) (f1 : Nat → Int32) (f2 : Nat → Int32) (f3 : Nat → Int32) (hp0 : 0 ≤ (p0).toInt ∧ (p0).toInt ≤ 6) (hp1 : (-1) ≤ (p1).toInt ∧ (p1).toInt ≤ 900) (hp2 : (-2147483648) ≤ (p2).toInt ∧ (p2).toInt ≤ 2147483647) (hp3 : (-2147483648) ≤ (p3).toInt ∧ (p3).toInt ≤ 2147483647) (hp4 : (-2147483648) ≤ (p4).toInt ∧ (p4).toInt ≤ 2147483647) (hp5 : 0 ≤ (p5).toInt ∧ (p5).toInt ≤ 900) (hp6 : (-2147483648) ≤ (p6).toInt ∧ (p6).toInt ≤ 2147483647) (hp7 : 0 ≤ (p7).toInt ∧ (p7).toInt ≤ 900) (hp8 : 0 ≤ (p8).toInt ∧ (p8).toInt ≤ 901) (hpre0 : KZ f0 (p8 : Int32).toInt) (hpre1 : 0 ≤ (p1 : Int32).toInt ∧ (p1 : Int32).toInt < (p8 : Int32).toInt) (hpre2 : (p3 : Int32).toInt ≠ 0 ∨ (p2 : Int32).toInt = 26 ∨ (p2 : Int32).toInt = 27 ∨ (p1 : Int32).toInt + 1 < (p8 : Int32).toInt) (hpre3 : (p3 : Int32).toInt = 0 ∨ (p2 : Int32).toInt = 27) (hkk : (p0).toInt + kk_ = 6) (sz : Nat), MV l yX5_readUnit cX5_readUnit 3 { frames := 5 + 3 * kk_, cells := 0, slots := 0, locals := 108 + 80 * kk_ } [.ref h0, .int p0] D cy (wk_a727c0403 cy h0 h1 p1 p2 p3 p4 w0 h5 p5 p6 h1 w1 p7 p8 h2 h3 h4 h2 f0 h3 f1 h4 f2 h5 f3) sz (fun u => ((-1) ≤ (u.2.1 1 0).toInt ∧ (u.2.1 1 0).toInt ≤ 900) ∧ ((-2147483648) ≤ (u.2.1 2 0).toInt ∧ (u.2.1 2 0).toInt ≤ 2147483647) ∧ ((-2147483648) ≤ (u.2.1 3 0).toInt ∧ (u.2.1 3 0).toInt ≤ 2147483647) ∧ ((-2147483648) ≤ (u.2.1 4 0).toInt ∧ (u.2.1 4 0).toInt ≤ 2147483647) ∧ (0 ≤ (u.2.1 5 0).toInt ∧ (u.2.1 5 0).toInt ≤ 900) ∧ (0 ≤ ((u.2.1 1 0) : Int32).toInt ∧ ((u.2.1 1 0) : Int32).toInt < (p8 : Int32).toInt) ∧ (((u.2.1 3 0) : Int32).toInt ≠ 0 ∨ ((u.2.1 2 0) : Int32).toInt = 26 ∨ ((u.2.1 2 0) : Int32).toInt = 27 ∨ ((u.2.1 1 0) : Int32).toInt + 1 < (p8 : Int32).toInt) ∧ (((u.2.1 3 0) : Int32).toInt ≠ 0 ∨ ((u.2.1 5 0) : Int32).toInt + (p1 : Int32).toInt ≤ (p5 : Int32).toInt + ((u.2.1 1 0) : Int32).toInt) ∧ (((u.2.1 3 0) : Int32).toInt ≠ 0 ∨ (p3 : Int32).toInt = 0) ∧ (((u.2.1 3 0) : Int32).toInt = 0 ∨ ((u.2.1 2 0) : Int32).toInt = 27) ∧ ((p1 : Int32).toInt ≤ ((u.2.1 1 0) : Int32).toInt) ∧ (SIM f0 f1 f2 (p8 : Int32).toInt (unitS (naC p6) kk_) (p1 : Int32).toInt (p2 : Int32).toInt (p3 : Int32).toInt (p4 : Int32).toInt ((u.2.1 1 0) : Int32).toInt ((u.2.1 2 0) : Int32).toInt ((u.2.1 3 0) : Int32).toInt ((u.2.1 4 0) : Int32).toInt) ∧ True) (fun u => (wk_a727c0403 cy h0 h1 (u.2.1 1 0) (u.2.1 2 0) (u.2.1 3 0) (u.2.1 4 0) w0 h5 (u.2.1 5 0) p6 h1 w1 p7 p8 h2 h3 h4 h2 f0 h3 f1 h4 f2 h5 (u.2.1 0))) 0 0)
set_option maxHeartbeats 4000000 in
set_option maxRecDepth 100000 in
theorem gX5_readUnit_85b78ca (l : Launch) (D : va_G) (cy : Nat → ClassId) (h0 : Nat) (h1 : Nat) (h2 : Nat) (h3 : Nat) (h4 : Nat) (h5 : Nat) (p0 : Int32) (p1 : Int32) (p2 : Int32) (p3 : Int32) (p4 : Int32) (w0 : Value) (p5 : Int32) (p6 : Int32) (w1 : Value) (p7 : Int32) (p8 : Int32) (f0 : Nat → Int32) (f1 : Nat → Int32) (f2 : Nat → Int32) (f3 : Nat → Int32) (hp0 : 0 ≤ (p0).toInt ∧ (p0).toInt ≤ 6) (hp1 : (-1) ≤ (p1).toInt ∧ (p1).toInt ≤ 900) (hp2 : (-2147483648) ≤ (p2).toInt ∧ (p2).toInt ≤ 2147483647) (hp3 : (-2147483648) ≤ (p3).toInt ∧ (p3).toInt ≤ 2147483647) (hp4 : (-2147483648) ≤ (p4).toInt ∧ (p4).toInt ≤ 2147483647) (hp5 : 0 ≤ (p5).toInt ∧ (p5).toInt ≤ 900) (hp6 : (-2147483648) ≤ (p6).toInt ∧ (p6).toInt ≤ 2147483647) (hp7 : 0 ≤ (p7).toInt ∧ (p7).toInt ≤ 900) (hp8 : 0 ≤ (p8).toInt ∧ (p8).toInt ≤ 901) (hpre0 : KZ f0 (p8 : Int32).toInt) (hpre1 : 0 ≤ (p1 : Int32).toInt ∧ (p1 : Int32).toInt < (p8 : Int32).toInt) (hpre2 : (p3 : Int32).toInt ≠ 0 ∨ (p2 : Int32).toInt = 26 ∨ (p2 : Int32).toInt = 27 ∨ (p1 : Int32).toInt + 1 < (p8 : Int32).toInt) (hpre3 : (p3 : Int32).toInt = 0 ∨ (p2 : Int32).toInt = 27) (kk_ : Nat) (hkk : (p0).toInt + kk_ = 6) (ih : ∀ j : Nat, kk_ = j + 1 → gX5_IHT_0feb8f5 l D cy j) (sz : Nat) : MV l yX5_readUnit cX5_readUnit 3 { frames := 5 + 3 * kk_, cells := 0, slots := 0, locals := 108 + 80 * kk_ } [.ref h0, .int p0] D cy (wk_a727c0403 cy h0 h1 p1 p2 p3 p4 w0 h5 p5 p6 h1 w1 p7 p8 h2 h3 h4 h2 f0 h3 f1 h4 f2 h5 f3) sz (fun u => ((-1) ≤ (u.2.1 1 0).toInt ∧ (u.2.1 1 0).toInt ≤ 900) ∧ ((-2147483648) ≤ (u.2.1 2 0).toInt ∧ (u.2.1 2 0).toInt ≤ 2147483647) ∧ ((-2147483648) ≤ (u.2.1 3 0).toInt ∧ (u.2.1 3 0).toInt ≤ 2147483647) ∧ ((-2147483648) ≤ (u.2.1 4 0).toInt ∧ (u.2.1 4 0).toInt ≤ 2147483647) ∧ (0 ≤ (u.2.1 5 0).toInt ∧ (u.2.1 5 0).toInt ≤ 900) ∧ (0 ≤ ((u.2.1 1 0) : Int32).toInt ∧ ((u.2.1 1 0) : Int32).toInt < (p8 : Int32).toInt) ∧ (((u.2.1 3 0) : Int32).toInt ≠ 0 ∨ ((u.2.1 2 0) : Int32).toInt = 26 ∨ ((u.2.1 2 0) : Int32).toInt = 27 ∨ ((u.2.1 1 0) : Int32).toInt + 1 < (p8 : Int32).toInt) ∧ (((u.2.1 3 0) : Int32).toInt ≠ 0 ∨ ((u.2.1 5 0) : Int32).toInt + (p1 : Int32).toInt ≤ (p5 : Int32).toInt + ((u.2.1 1 0) : Int32).toInt) ∧ (((u.2.1 3 0) : Int32).toInt ≠ 0 ∨ (p3 : Int32).toInt = 0) ∧ (((u.2.1 3 0) : Int32).toInt = 0 ∨ ((u.2.1 2 0) : Int32).toInt = 27) ∧ ((p1 : Int32).toInt ≤ ((u.2.1 1 0) : Int32).toInt) ∧ (SIM f0 f1 f2 (p8 : Int32).toInt (unitS (naC p6) kk_) (p1 : Int32).toInt (p2 : Int32).toInt (p3 : Int32).toInt (p4 : Int32).toInt ((u.2.1 1 0) : Int32).toInt ((u.2.1 2 0) : Int32).toInt ((u.2.1 3 0) : Int32).toInt ((u.2.1 4 0) : Int32).toInt) ∧ True) (fun u => (wk_a727c0403 cy h0 h1 (u.2.1 1 0) (u.2.1 2 0) (u.2.1 3 0) (u.2.1 4 0) w0 h5 (u.2.1 5 0) p6 h1 w1 p7 p8 h2 h3 h4 h2 f0 h3 f1 h4 f2 h5 (u.2.1 0))) 0 0 := sorry
set_option maxHeartbeats 4000000 in
set_option maxRecDepth 100000 in
theorem gX5_readBoth_58da8ea (l : Launch) (D : va_G) (cy : Nat → ClassId) (h0 : Nat) (h1 : Nat) (h2 : Nat) (h3 : Nat) (h4 : Nat) (h5 : Nat) (p0 : Int32) (p1 : Int32) (p2 : Int32) (p3 : Int32) (p4 : Int32) (w0 : Value) (p5 : Int32) (p6 : Int32) (w1 : Value) (p7 : Int32) (p8 : Int32) (f0 : Nat → Int32) (f1 : Nat → Int32) (f2 : Nat → Int32) (f3 : Nat → Int32) (hp0 : 0 ≤ (p0).toInt ∧ (p0).toInt ≤ 6) (hp1 : (-1) ≤ (p1).toInt ∧ (p1).toInt ≤ 900) (hp2 : (-2147483648) ≤ (p2).toInt ∧ (p2).toInt ≤ 2147483647) (hp3 : (-2147483648) ≤ (p3).toInt ∧ (p3).toInt ≤ 2147483647) (hp4 : (-2147483648) ≤ (p4).toInt ∧ (p4).toInt ≤ 2147483647) (hp5 : 0 ≤ (p5).toInt ∧ (p5).toInt ≤ 900) (hp6 : (-2147483648) ≤ (p6).toInt ∧ (p6).toInt ≤ 2147483647) (hp7 : 0 ≤ (p7).toInt ∧ (p7).toInt ≤ 900) (hp8 : 0 ≤ (p8).toInt ∧ (p8).toInt ≤ 901) (hpre0 : KZ f0 (p8 : Int32).toInt) (hpre1 : 0 ≤ (p1 : Int32).toInt ∧ (p1 : Int32).toInt < (p8 : Int32).toInt) (hpre2 : (p3 : Int32).toInt ≠ 0 ∨ (p2 : Int32).toInt = 26 ∨ (p2 : Int32).toInt = 27 ∨ (p1 : Int32).toInt + 1 < (p8 : Int32).toInt) (hpre3 : (p3 : Int32).toInt = 0 ∨ (p2 : Int32).toInt = 27) (kk_ : Nat) (hkk : (p0).toInt + kk_ = 6) (ih : ∀ j : Nat, kk_ = j + 1 → gX5_IHT_0feb8f5 l D cy j) (sz : Nat) : MV l yX5_readBoth cX5_readBoth 3 { frames := 6 + 3 * kk_, cells := 0, slots := 0, locals := 130 + 80 * kk_ } [.ref h0, .int p0] D cy (wk_a727c0403 cy h0 h1 p1 p2 p3 p4 w0 h5 p5 p6 h1 w1 p7 p8 h2 h3 h4 h2 f0 h3 f1 h4 f2 h5 f3) sz (fun u => (0 ≤ (u.2.1 0 0).toInt ∧ (u.2.1 0 0).toInt ≤ 900) ∧ ((-2147483648) ≤ (u.2.1 1 0).toInt ∧ (u.2.1 1 0).toInt ≤ 2147483647) ∧ ((-2147483648) ≤ (u.2.1 2 0).toInt ∧ (u.2.1 2 0).toInt ≤ 2147483647) ∧ ((-2147483648) ≤ (u.2.1 3 0).toInt ∧ (u.2.1 3 0).toInt ≤ 2147483647) ∧ (0 ≤ (u.2.1 4 0).toInt ∧ (u.2.1 4 0).toInt ≤ 900) ∧ (0 ≤ ((u.2.1 0 0) : Int32).toInt ∧ ((u.2.1 0 0) : Int32).toInt < (p8 : Int32).toInt) ∧ (((u.2.1 2 0) : Int32).toInt ≠ 0 ∨ ((u.2.1 1 0) : Int32).toInt = 26 ∨ ((u.2.1 1 0) : Int32).toInt = 27 ∨ ((u.2.1 0 0) : Int32).toInt + 1 < (p8 : Int32).toInt) ∧ (((u.2.1 2 0) : Int32).toInt ≠ 0 ∨ ((u.2.1 4 0) : Int32).toInt + (p1 : Int32).toInt ≤ (p5 : Int32).toInt + ((u.2.1 0 0) : Int32).toInt) ∧ (((u.2.1 2 0) : Int32).toInt ≠ 0 ∨ (p3 : Int32).toInt = 0) ∧ (((u.2.1 2 0) : Int32).toInt = 0 ∨ ((u.2.1 1 0) : Int32).toInt = 27) ∧ ((p1 : Int32).toInt ≤ ((u.2.1 0 0) : Int32).toInt) ∧ (SIM f0 f1 f2 (p8 : Int32).toInt (bothS (naC p6) kk_) (p1 : Int32).toInt (p2 : Int32).toInt (p3 : Int32).toInt (p4 : Int32).toInt ((u.2.1 0 0) : Int32).toInt ((u.2.1 1 0) : Int32).toInt ((u.2.1 2 0) : Int32).toInt ((u.2.1 3 0) : Int32).toInt) ∧ True) (fun u => (wk_a727c0403 cy h0 h1 (u.2.1 0 0) (u.2.1 1 0) (u.2.1 2 0) (u.2.1 3 0) w0 h5 (u.2.1 4 0) p6 h1 w1 p7 p8 h2 h3 h4 h2 f0 h3 f1 h4 f2 h5 (u.2.1 5))) 0 0 := sorry
set_option maxHeartbeats 4000000 in
set_option maxRecDepth 100000 in
theorem gX5_readTruth_1179368 (l : Launch) (D : va_G) (cy : Nat → ClassId) (h0 : Nat) (h1 : Nat) (h2 : Nat) (h3 : Nat) (h4 : Nat) (h5 : Nat) (p0 : Int32) (p1 : Int32) (p2 : Int32) (p3 : Int32) (p4 : Int32) (w0 : Value) (p5 : Int32) (p6 : Int32) (w1 : Value) (p7 : Int32) (p8 : Int32) (f0 : Nat → Int32) (f1 : Nat → Int32) (f2 : Nat → Int32) (f3 : Nat → Int32) (hp0 : 0 ≤ (p0).toInt ∧ (p0).toInt ≤ 6) (hp1 : (-1) ≤ (p1).toInt ∧ (p1).toInt ≤ 900) (hp2 : (-2147483648) ≤ (p2).toInt ∧ (p2).toInt ≤ 2147483647) (hp3 : (-2147483648) ≤ (p3).toInt ∧ (p3).toInt ≤ 2147483647) (hp4 : (-2147483648) ≤ (p4).toInt ∧ (p4).toInt ≤ 2147483647) (hp5 : 0 ≤ (p5).toInt ∧ (p5).toInt ≤ 900) (hp6 : (-2147483648) ≤ (p6).toInt ∧ (p6).toInt ≤ 2147483647) (hp7 : 0 ≤ (p7).toInt ∧ (p7).toInt ≤ 900) (hp8 : 0 ≤ (p8).toInt ∧ (p8).toInt ≤ 901) (hpre0 : KZ f0 (p8 : Int32).toInt) (hpre1 : 0 ≤ (p1 : Int32).toInt ∧ (p1 : Int32).toInt < (p8 : Int32).toInt) (hpre2 : (p3 : Int32).toInt ≠ 0 ∨ (p2 : Int32).toInt = 26 ∨ (p2 : Int32).toInt = 27 ∨ (p1 : Int32).toInt + 1 < (p8 : Int32).toInt) (hpre3 : (p3 : Int32).toInt = 0 ∨ (p2 : Int32).toInt = 27) (kk_ : Nat) (hkk : (p0).toInt + kk_ = 6) (ih : ∀ j : Nat, kk_ = j + 1 → gX5_IHT_0feb8f5 l D cy j) (sz : Nat) : MV l yX5_readTruth cX5_readTruth 3 { frames := 7 + 3 * kk_, cells := 0, slots := 0, locals := 152 + 80 * kk_ } [.ref h0, .int p0] D cy (wk_a727c0403 cy h0 h1 p1 p2 p3 p4 w0 h5 p5 p6 h1 w1 p7 p8 h2 h3 h4 h2 f0 h3 f1 h4 f2 h5 f3) sz (fun u => (0 ≤ (u.2.1 0 0).toInt ∧ (u.2.1 0 0).toInt ≤ 900) ∧ ((-2147483648) ≤ (u.2.1 1 0).toInt ∧ (u.2.1 1 0).toInt ≤ 2147483647) ∧ ((-2147483648) ≤ (u.2.1 2 0).toInt ∧ (u.2.1 2 0).toInt ≤ 2147483647) ∧ ((-2147483648) ≤ (u.2.1 3 0).toInt ∧ (u.2.1 3 0).toInt ≤ 2147483647) ∧ (0 ≤ (u.2.1 4 0).toInt ∧ (u.2.1 4 0).toInt ≤ 900) ∧ (0 ≤ ((u.2.1 0 0) : Int32).toInt ∧ ((u.2.1 0 0) : Int32).toInt < (p8 : Int32).toInt) ∧ (((u.2.1 2 0) : Int32).toInt ≠ 0 ∨ ((u.2.1 1 0) : Int32).toInt = 26 ∨ ((u.2.1 1 0) : Int32).toInt = 27 ∨ ((u.2.1 0 0) : Int32).toInt + 1 < (p8 : Int32).toInt) ∧ (((u.2.1 2 0) : Int32).toInt ≠ 0 ∨ ((u.2.1 4 0) : Int32).toInt + (p1 : Int32).toInt ≤ (p5 : Int32).toInt + ((u.2.1 0 0) : Int32).toInt) ∧ (((u.2.1 2 0) : Int32).toInt ≠ 0 ∨ (p3 : Int32).toInt = 0) ∧ (((u.2.1 2 0) : Int32).toInt = 0 ∨ ((u.2.1 1 0) : Int32).toInt = 27) ∧ ((p1 : Int32).toInt ≤ ((u.2.1 0 0) : Int32).toInt) ∧ (SIM f0 f1 f2 (p8 : Int32).toInt (truthS (naC p6) kk_) (p1 : Int32).toInt (p2 : Int32).toInt (p3 : Int32).toInt (p4 : Int32).toInt ((u.2.1 0 0) : Int32).toInt ((u.2.1 1 0) : Int32).toInt ((u.2.1 2 0) : Int32).toInt ((u.2.1 3 0) : Int32).toInt) ∧ True) (fun u => (wk_a727c0403 cy h0 h1 (u.2.1 0 0) (u.2.1 1 0) (u.2.1 2 0) (u.2.1 3 0) w0 h5 (u.2.1 4 0) p6 h1 w1 p7 p8 h2 h3 h4 h2 f0 h3 f1 h4 f2 h5 (u.2.1 5))) 0 0 := sorry
set_option maxRecDepth 100000 in
theorem gX5_ALLT_0feb8f5 (l : Launch) (D : va_G) (cy : Nat → ClassId) : ∀ kk_ : Nat, gX5_IHT_0feb8f5 l D cy kk_ := sorry
set_option maxHeartbeats 4000000 in
set_option maxRecDepth 100000 in
theorem gJ7_copyOf_59c91_81346bf (l : Launch) (D : va_G) (cy : Nat → ClassId) (h0 : Nat) (p0 : Int32) (f0 : Nat → Int32) (hp0 : 0 ≤ (p0).toInt ∧ (p0).toInt ≤ 899) (hpre0 : (p0 : Int32).toInt ≤ 899) (sz : Nat) : MAr l yJ7_copyOf_59c91 cJ7_copyOf_59c91 3 { frames := 1, cells := 1, slots := 900, locals := 40 } [.ref h0, .int p0] D cy [(h0, .inl (cy 1, 900, .inl f0))] sz (fun u => True) (fun u => (wk_bc275e43f cy h0 f0 (u.1 0) p0.toNatClampNeg (u.2.1 0))) 1 900 := sorry
set_option maxHeartbeats 4000000 in
set_option maxRecDepth 100000 in
theorem gX4_init_6da7c59 (l : Launch) (D : va_G) (cy : Nat → ClassId) (h0 : Nat) (h1 : Nat) (p0 : Int32) (w0 : Value) (f0 : Nat → Int32) (hp0 : 0 ≤ (p0).toInt ∧ (p0).toInt ≤ 899) (hpre0 : (p0 : Int32).toInt ≤ 899) (sz : Nat) : MV l yX4_init cX4_init 3 { frames := 2, cells := 1, slots := 900, locals := 62 } [.ref h0, .ref h1, .int p0] D cy [(h0, .inr (4, [w0])), (h1, .inl (cy 1, 900, .inl f0))] sz (fun u => True) (fun u => (wk_dfd8ea8dd cy h0 (u.1 0) h1 f0 (u.1 0) p0.toNatClampNeg (u.2.1 0))) 1 900 := sorry
set_option maxHeartbeats 4000000 in
set_option maxRecDepth 100000 in
theorem gX5_readLaw_d452534 (l : Launch) (D : va_G) (cy : Nat → ClassId) (h0 : Nat) (h1 : Nat) (h2 : Nat) (h3 : Nat) (h4 : Nat) (h5 : Nat) (p0 : Int32) (o0 : Option Nat) (p1 : Int32) (p2 : Int32) (p3 : Int32) (p4 : Int32) (w0 : Value) (p5 : Int32) (p6 : Int32) (w1 : Value) (p7 : Int32) (p8 : Int32) (f0 : Nat → Int32) (f1 : Nat → Int32) (f2 : Nat → Int32) (f3 : Nat → Int32) (hp0 : 511 ≤ (p0).toInt ∧ (p0).toInt ≤ 511) (hp1 : (-1) ≤ (p1).toInt ∧ (p1).toInt ≤ 900) (hp2 : (-2147483648) ≤ (p2).toInt ∧ (p2).toInt ≤ 2147483647) (hp3 : (-2147483648) ≤ (p3).toInt ∧ (p3).toInt ≤ 2147483647) (hp4 : (-2147483648) ≤ (p4).toInt ∧ (p4).toInt ≤ 2147483647) (hp5 : 0 ≤ (p5).toInt ∧ (p5).toInt ≤ 900) (hp6 : (-2147483648) ≤ (p6).toInt ∧ (p6).toInt ≤ 2147483647) (hp7 : 0 ≤ (p7).toInt ∧ (p7).toInt ≤ 900) (hp8 : 0 ≤ (p8).toInt ∧ (p8).toInt ≤ 901) (hpre0 : KZ f0 (p8 : Int32).toInt) (hpre1 : 0 ≤ (p1 : Int32).toInt ∧ (p1 : Int32).toInt < (p8 : Int32).toInt) (hpre2 : (p3 : Int32).toInt ≠ 0 ∨ (p2 : Int32).toInt = 26 ∨ (p2 : Int32).toInt = 27 ∨ (p1 : Int32).toInt + 1 < (p8 : Int32).toInt) (hpre3 : (p3 : Int32).toInt = 0 ∨ (p2 : Int32).toInt = 27) (hpre4 : (p2 : Int32).toInt ≠ 26 ∧ (p2 : Int32).toInt ≠ 27) (sz : Nat) : MQw l yX5_readLaw cX5_readLaw 4 "OppositeHouse$Law" { frames := 26, cells := 2, slots := 901, locals := 654 } [.ref h0, .int p0, (va_rf o0)] D cy (wk_a727c0403 cy h0 h1 p1 p2 p3 p4 w0 h5 p5 p6 h1 w1 p7 p8 h2 h3 h4 h2 f0 h3 f1 h4 f2 h5 f3) sz (fun r u => (0 ≤ (u.1.2.1 0 0).toInt ∧ (u.1.2.1 0 0).toInt ≤ 900) ∧ ((-2147483648) ≤ (u.1.2.1 1 0).toInt ∧ (u.1.2.1 1 0).toInt ≤ 2147483647) ∧ ((-2147483648) ≤ (u.1.2.1 2 0).toInt ∧ (u.1.2.1 2 0).toInt ≤ 2147483647) ∧ ((-2147483648) ≤ (u.1.2.1 3 0).toInt ∧ (u.1.2.1 3 0).toInt ≤ 2147483647) ∧ (0 ≤ (u.1.2.1 4 0).toInt ∧ (u.1.2.1 4 0).toInt ≤ 900) ∧ (511 ≤ (u.1.2.1 5 0).toInt ∧ (u.1.2.1 5 0).toInt ≤ 511) ∧ (0 ≤ ((u.1.2.1 0 0) : Int32).toInt ∧ ((u.1.2.1 0 0) : Int32).toInt < (p8 : Int32).toInt) ∧ (((u.1.2.1 2 0) : Int32).toInt ≠ 0 ∨ ((u.1.2.1 1 0) : Int32).toInt = 26 ∨ ((u.1.2.1 1 0) : Int32).toInt = 27 ∨ ((u.1.2.1 0 0) : Int32).toInt + 1 < (p8 : Int32).toInt) ∧ (((u.1.2.1 2 0) : Int32).toInt = 0 ∨ ((u.1.2.1 1 0) : Int32).toInt = 27) ∧ (((u.1.2.1 2 0) : Int32).toInt ≠ 0 ∨ (p3 : Int32).toInt = 0) ∧ ((p1 : Int32).toInt ≤ ((u.1.2.1 0 0) : Int32).toInt) ∧ (((u.1.2.1 2 0) : Int32).toInt ≠ 0 ∨ (p1 : Int32).toInt + 1 ≤ ((u.1.2.1 0 0) : Int32).toInt) ∧ (LR cy u.2.1 (va_rf o0) (va_rf r)) ∧ (SIM f0 f1 f2 (p8 : Int32).toInt (lawS p0) (p1 : Int32).toInt (p2 : Int32).toInt (p3 : Int32).toInt (p4 : Int32).toInt ((u.1.2.1 0 0) : Int32).toInt ((u.1.2.1 1 0) : Int32).toInt ((u.1.2.1 2 0) : Int32).toInt ((u.1.2.1 3 0) : Int32).toInt) ∧ True) (fun u => (wk_a727c0403 cy h0 h1 (u.1.2.1 0 0) (u.1.2.1 1 0) (u.1.2.1 2 0) (u.1.2.1 3 0) w0 h5 (u.1.2.1 4 0) (u.1.2.1 5 0) h1 w1 p7 p8 h2 h3 h4 h2 f0 h3 f1 h4 f2 h5 (u.1.2.1 6))) 2 901 := sorry
set_option maxHeartbeats 4000000 in
set_option maxRecDepth 100000 in
theorem gX5_readLaw_f0ad08a (l : Launch) (D : va_G) (cy : Nat → ClassId) (h0 : Nat) (h1 : Nat) (h2 : Nat) (h3 : Nat) (h4 : Nat) (h5 : Nat) (p0 : Int32) (o0 : Option Nat) (p1 : Int32) (p2 : Int32) (p3 : Int32) (p4 : Int32) (w0 : Value) (p5 : Int32) (p6 : Int32) (w1 : Value) (p7 : Int32) (p8 : Int32) (f0 : Nat → Int32) (f1 : Nat → Int32) (f2 : Nat → Int32) (f3 : Nat → Int32) (hp0 : 511 ≤ (p0).toInt ∧ (p0).toInt ≤ 900) (hp1 : (-1) ≤ (p1).toInt ∧ (p1).toInt ≤ 900) (hp2 : (-2147483648) ≤ (p2).toInt ∧ (p2).toInt ≤ 2147483647) (hp3 : (-2147483648) ≤ (p3).toInt ∧ (p3).toInt ≤ 2147483647) (hp4 : (-2147483648) ≤ (p4).toInt ∧ (p4).toInt ≤ 2147483647) (hp5 : 0 ≤ (p5).toInt ∧ (p5).toInt ≤ 900) (hp6 : (-2147483648) ≤ (p6).toInt ∧ (p6).toInt ≤ 2147483647) (hp7 : 0 ≤ (p7).toInt ∧ (p7).toInt ≤ 900) (hp8 : 0 ≤ (p8).toInt ∧ (p8).toInt ≤ 901) (hpre0 : KZ f0 (p8 : Int32).toInt) (hpre1 : 0 ≤ (p1 : Int32).toInt ∧ (p1 : Int32).toInt < (p8 : Int32).toInt) (hpre2 : (p3 : Int32).toInt ≠ 0 ∨ (p2 : Int32).toInt = 26 ∨ (p2 : Int32).toInt = 27 ∨ (p1 : Int32).toInt + 1 < (p8 : Int32).toInt) (hpre3 : (p3 : Int32).toInt = 0 ∨ (p2 : Int32).toInt = 27) (hpre4 : (p2 : Int32).toInt ≠ 26 ∧ (p2 : Int32).toInt ≠ 27) (sz : Nat) : MQw l yX5_readLaw cX5_readLaw 4 "OppositeHouse$Law" { frames := 26, cells := 2, slots := 901, locals := 654 } [.ref h0, .int p0, (va_rf o0)] D cy (wk_a727c0403 cy h0 h1 p1 p2 p3 p4 w0 h5 p5 p6 h1 w1 p7 p8 h2 h3 h4 h2 f0 h3 f1 h4 f2 h5 f3) sz (fun r u => (0 ≤ (u.1.2.1 0 0).toInt ∧ (u.1.2.1 0 0).toInt ≤ 900) ∧ ((-2147483648) ≤ (u.1.2.1 1 0).toInt ∧ (u.1.2.1 1 0).toInt ≤ 2147483647) ∧ ((-2147483648) ≤ (u.1.2.1 2 0).toInt ∧ (u.1.2.1 2 0).toInt ≤ 2147483647) ∧ ((-2147483648) ≤ (u.1.2.1 3 0).toInt ∧ (u.1.2.1 3 0).toInt ≤ 2147483647) ∧ (0 ≤ (u.1.2.1 4 0).toInt ∧ (u.1.2.1 4 0).toInt ≤ 900) ∧ (511 ≤ (u.1.2.1 5 0).toInt ∧ (u.1.2.1 5 0).toInt ≤ 900) ∧ (0 ≤ ((u.1.2.1 0 0) : Int32).toInt ∧ ((u.1.2.1 0 0) : Int32).toInt < (p8 : Int32).toInt) ∧ (((u.1.2.1 2 0) : Int32).toInt ≠ 0 ∨ ((u.1.2.1 1 0) : Int32).toInt = 26 ∨ ((u.1.2.1 1 0) : Int32).toInt = 27 ∨ ((u.1.2.1 0 0) : Int32).toInt + 1 < (p8 : Int32).toInt) ∧ (((u.1.2.1 2 0) : Int32).toInt = 0 ∨ ((u.1.2.1 1 0) : Int32).toInt = 27) ∧ (((u.1.2.1 2 0) : Int32).toInt ≠ 0 ∨ (p3 : Int32).toInt = 0) ∧ ((p1 : Int32).toInt ≤ ((u.1.2.1 0 0) : Int32).toInt) ∧ (((u.1.2.1 2 0) : Int32).toInt ≠ 0 ∨ (p1 : Int32).toInt + 1 ≤ ((u.1.2.1 0 0) : Int32).toInt) ∧ (LR cy u.2.1 (va_rf o0) (va_rf r)) ∧ (SIM f0 f1 f2 (p8 : Int32).toInt (lawS p0) (p1 : Int32).toInt (p2 : Int32).toInt (p3 : Int32).toInt (p4 : Int32).toInt ((u.1.2.1 0 0) : Int32).toInt ((u.1.2.1 1 0) : Int32).toInt ((u.1.2.1 2 0) : Int32).toInt ((u.1.2.1 3 0) : Int32).toInt) ∧ True) (fun u => (wk_a727c0403 cy h0 h1 (u.1.2.1 0 0) (u.1.2.1 1 0) (u.1.2.1 2 0) (u.1.2.1 3 0) w0 h5 (u.1.2.1 4 0) (u.1.2.1 5 0) h1 w1 p7 p8 h2 h3 h4 h2 f0 h3 f1 h4 f2 h5 (u.1.2.1 6))) 2 901 := sorry
set_option maxHeartbeats 4000000 in
set_option maxRecDepth 100000 in
theorem gX5_readLaw_657493c (l : Launch) (D : va_G) (cy : Nat → ClassId) (h0 : Nat) (h1 : Nat) (h2 : Nat) (h3 : Nat) (h4 : Nat) (h5 : Nat) (p0 : Int32) (o0 : Option Nat) (p1 : Int32) (p2 : Int32) (p3 : Int32) (p4 : Int32) (w0 : Value) (p5 : Int32) (p6 : Int32) (w1 : Value) (p7 : Int32) (p8 : Int32) (f0 : Nat → Int32) (f1 : Nat → Int32) (f2 : Nat → Int32) (f3 : Nat → Int32) (hp0 : 511 ≤ (p0).toInt ∧ (p0).toInt ≤ 2000) (hp1 : (-1) ≤ (p1).toInt ∧ (p1).toInt ≤ 900) (hp2 : (-2147483648) ≤ (p2).toInt ∧ (p2).toInt ≤ 2147483647) (hp3 : (-2147483648) ≤ (p3).toInt ∧ (p3).toInt ≤ 2147483647) (hp4 : (-2147483648) ≤ (p4).toInt ∧ (p4).toInt ≤ 2147483647) (hp5 : 0 ≤ (p5).toInt ∧ (p5).toInt ≤ 900) (hp6 : (-2147483648) ≤ (p6).toInt ∧ (p6).toInt ≤ 2147483647) (hp7 : 0 ≤ (p7).toInt ∧ (p7).toInt ≤ 900) (hp8 : 0 ≤ (p8).toInt ∧ (p8).toInt ≤ 901) (hpre0 : KZ f0 (p8 : Int32).toInt) (hpre1 : 0 ≤ (p1 : Int32).toInt ∧ (p1 : Int32).toInt < (p8 : Int32).toInt) (hpre2 : (p3 : Int32).toInt ≠ 0 ∨ (p2 : Int32).toInt = 26 ∨ (p2 : Int32).toInt = 27 ∨ (p1 : Int32).toInt + 1 < (p8 : Int32).toInt) (hpre3 : (p3 : Int32).toInt = 0 ∨ (p2 : Int32).toInt = 27) (hpre4 : (p2 : Int32).toInt ≠ 26 ∧ (p2 : Int32).toInt ≠ 27) (sz : Nat) : MQw l yX5_readLaw cX5_readLaw 4 "OppositeHouse$Law" { frames := 26, cells := 2, slots := 901, locals := 654 } [.ref h0, .int p0, (va_rf o0)] D cy (wk_a727c0403 cy h0 h1 p1 p2 p3 p4 w0 h5 p5 p6 h1 w1 p7 p8 h2 h3 h4 h2 f0 h3 f1 h4 f2 h5 f3) sz (fun r u => (0 ≤ (u.1.2.1 0 0).toInt ∧ (u.1.2.1 0 0).toInt ≤ 900) ∧ ((-2147483648) ≤ (u.1.2.1 1 0).toInt ∧ (u.1.2.1 1 0).toInt ≤ 2147483647) ∧ ((-2147483648) ≤ (u.1.2.1 2 0).toInt ∧ (u.1.2.1 2 0).toInt ≤ 2147483647) ∧ ((-2147483648) ≤ (u.1.2.1 3 0).toInt ∧ (u.1.2.1 3 0).toInt ≤ 2147483647) ∧ (0 ≤ (u.1.2.1 4 0).toInt ∧ (u.1.2.1 4 0).toInt ≤ 900) ∧ (511 ≤ (u.1.2.1 5 0).toInt ∧ (u.1.2.1 5 0).toInt ≤ 2000) ∧ (0 ≤ ((u.1.2.1 0 0) : Int32).toInt ∧ ((u.1.2.1 0 0) : Int32).toInt < (p8 : Int32).toInt) ∧ (((u.1.2.1 2 0) : Int32).toInt ≠ 0 ∨ ((u.1.2.1 1 0) : Int32).toInt = 26 ∨ ((u.1.2.1 1 0) : Int32).toInt = 27 ∨ ((u.1.2.1 0 0) : Int32).toInt + 1 < (p8 : Int32).toInt) ∧ (((u.1.2.1 2 0) : Int32).toInt = 0 ∨ ((u.1.2.1 1 0) : Int32).toInt = 27) ∧ (((u.1.2.1 2 0) : Int32).toInt ≠ 0 ∨ (p3 : Int32).toInt = 0) ∧ ((p1 : Int32).toInt ≤ ((u.1.2.1 0 0) : Int32).toInt) ∧ (((u.1.2.1 2 0) : Int32).toInt ≠ 0 ∨ (p1 : Int32).toInt + 1 ≤ ((u.1.2.1 0 0) : Int32).toInt) ∧ (LR cy u.2.1 (va_rf o0) (va_rf r)) ∧ (SIM f0 f1 f2 (p8 : Int32).toInt (lawS p0) (p1 : Int32).toInt (p2 : Int32).toInt (p3 : Int32).toInt (p4 : Int32).toInt ((u.1.2.1 0 0) : Int32).toInt ((u.1.2.1 1 0) : Int32).toInt ((u.1.2.1 2 0) : Int32).toInt ((u.1.2.1 3 0) : Int32).toInt) ∧ True) (fun u => (wk_a727c0403 cy h0 h1 (u.1.2.1 0 0) (u.1.2.1 1 0) (u.1.2.1 2 0) (u.1.2.1 3 0) w0 h5 (u.1.2.1 4 0) (u.1.2.1 5 0) h1 w1 p7 p8 h2 h3 h4 h2 f0 h3 f1 h4 f2 h5 (u.1.2.1 6))) 2 901 := sorry
set_option maxHeartbeats 4000000 in
set_option maxRecDepth 100000 in
theorem gX5_readFlag_91806d8 (l : Launch) (D : va_G) (cy : Nat → ClassId) (h0 : Nat) (h1 : Nat) (h2 : Nat) (h3 : Nat) (h4 : Nat) (h5 : Nat) (h6 : Nat) (h7 : Nat) (h8 : Nat) (h9 : Nat) (p0 : Int32) (p1 : Int32) (p2 : Int32) (p3 : Int32) (p4 : Int32) (w0 : Value) (p5 : Int32) (p6 : Int32) (w1 : Value) (p7 : Int32) (p8 : Int32) (f0 : Nat → Int32) (f1 : Nat → Int32) (f2 : Nat → Int32) (p9 : Int32) (p10 : Int32) (p11 : Int32) (w2 : Value) (w3 : Value) (w4 : Value) (w5 : Value) (f3 : Nat → Int32) (f4 : Nat → Int32) (f5 : Nat → Int32) (f6 : Nat → Int32) (hp0 : 0 ≤ (p0).toInt ∧ (p0).toInt ≤ 9) (hp1 : (-1) ≤ (p1).toInt ∧ (p1).toInt ≤ 900) (hp2 : (-2147483648) ≤ (p2).toInt ∧ (p2).toInt ≤ 2147483647) (hp3 : (-2147483648) ≤ (p3).toInt ∧ (p3).toInt ≤ 2147483647) (hp4 : (-2147483648) ≤ (p4).toInt ∧ (p4).toInt ≤ 2147483647) (hp5 : 0 ≤ (p5).toInt ∧ (p5).toInt ≤ 900) (hp6 : (-2147483648) ≤ (p6).toInt ∧ (p6).toInt ≤ 2147483647) (hp7 : 0 ≤ (p7).toInt ∧ (p7).toInt ≤ 900) (hp8 : 0 ≤ (p8).toInt ∧ (p8).toInt ≤ 901) (hp9 : 1 ≤ (p9).toInt ∧ (p9).toInt ≤ 3) (hp10 : (-2147483648) ≤ (p10).toInt ∧ (p10).toInt ≤ 2147483647) (hp11 : 0 ≤ (p11).toInt ∧ (p11).toInt ≤ 999) (rf3 : RG f3 10 0 999) (rf4 : RG f4 10 0 1000000) (rf5 : RG f5 10 0 10) (rf6 : RG f6 10 0 99) (hpre0 : KZ f0 (p8 : Int32).toInt) (hpre1 : 0 ≤ (p1 : Int32).toInt ∧ (p1 : Int32).toInt < (p8 : Int32).toInt) (hpre2 : (p3 : Int32).toInt ≠ 0 ∨ (p2 : Int32).toInt = 26 ∨ (p2 : Int32).toInt = 27 ∨ (p1 : Int32).toInt + 1 < (p8 : Int32).toInt) (hpre3 : (p3 : Int32).toInt = 0 ∨ (p2 : Int32).toInt = 27) (sz : Nat) : MI l yX5_readFlag cX5_readFlag 2 .boolean { frames := 2, cells := 0, slots := 0, locals := 44 } [.ref h0, .int p0] D cy (wk_6dfdb8f2c cy h0 h1 p1 p2 p3 p4 h5 w0 p5 p6 h1 w1 p7 p8 h2 h3 h4 h2 f0 h3 f1 h4 f2 h5 p9 p0 p10 p11 w2 w3 w4 w5 h6 h7 h8 h9 h6 f3 h7 f4 h8 f5 h9 f6) sz (fun r u => (0 ≤ r.toInt ∧ r.toInt ≤ 1) ∧ RG (u.2.1 0) 10 0 999 ∧ RG (u.2.1 1) 10 0 1000000 ∧ ((-1) ≤ (u.2.1 2 0).toInt ∧ (u.2.1 2 0).toInt ≤ 900) ∧ ((-2147483648) ≤ (u.2.1 3 0).toInt ∧ (u.2.1 3 0).toInt ≤ 2147483647) ∧ ((-2147483648) ≤ (u.2.1 4 0).toInt ∧ (u.2.1 4 0).toInt ≤ 2147483647) ∧ ((-2147483648) ≤ (u.2.1 5 0).toInt ∧ (u.2.1 5 0).toInt ≤ 2147483647) ∧ RG (u.2.1 6) 10 0 10 ∧ RG (u.2.1 7) 10 0 99 ∧ (0 ≤ ((u.2.1 2 0) : Int32).toInt ∧ ((u.2.1 2 0) : Int32).toInt < (p8 : Int32).toInt) ∧ (((u.2.1 4 0) : Int32).toInt ≠ 0 ∨ ((u.2.1 3 0) : Int32).toInt = 26 ∨ ((u.2.1 3 0) : Int32).toInt = 27 ∨ ((u.2.1 2 0) : Int32).toInt + 1 < (p8 : Int32).toInt) ∧ (((u.2.1 4 0) : Int32).toInt = 0 ∨ ((u.2.1 3 0) : Int32).toInt = 27) ∧ (((u.2.1 4 0) : Int32).toInt ≠ 0 ∨ (p3 : Int32).toInt = 0) ∧ ((p1 : Int32).toInt ≤ ((u.2.1 2 0) : Int32).toInt) ∧ (ALT (r : Int32).toInt 0 1 (isFl (p2 : Int32).toInt = false ∧ ((u.2.1 2 0) : Int32).toInt = (p1 : Int32).toInt ∧ ((u.2.1 3 0) : Int32).toInt = (p2 : Int32).toInt ∧ ((u.2.1 4 0) : Int32).toInt = (p3 : Int32).toInt ∧ ((u.2.1 5 0) : Int32).toInt = (p4 : Int32).toInt) (isFl (p2 : Int32).toInt = true ∧ SIM f0 f1 f2 (p8 : Int32).toInt flag1 (p1 : Int32).toInt (p2 : Int32).toInt (p3 : Int32).toInt (p4 : Int32).toInt ((u.2.1 2 0) : Int32).toInt ((u.2.1 3 0) : Int32).toInt ((u.2.1 4 0) : Int32).toInt ((u.2.1 5 0) : Int32).toInt)) ∧ ((r : Int32).toInt = 0 ∨ ((u.2.1 4 0) : Int32).toInt ≠ 0 ∨ (p1 : Int32).toInt + 1 ≤ ((u.2.1 2 0) : Int32).toInt) ∧ True) (fun u => (wk_6dfdb8f2c cy h0 h1 (u.2.1 2 0) (u.2.1 3 0) (u.2.1 4 0) (u.2.1 5 0) h5 w0 p5 p6 h1 w1 p7 p8 h2 h3 h4 h2 f0 h3 f1 h4 f2 h5 p9 p0 p10 p11 w2 w3 w4 w5 h6 h7 h8 h9 h6 (u.2.1 0) h7 (u.2.1 1) h8 (u.2.1 6) h9 (u.2.1 7))) 0 0 := sorry
set_option maxHeartbeats 4000000 in
set_option maxRecDepth 100000 in
theorem gX5_readPerson_5fbeb8d (l : Launch) (D : va_G) (cy : Nat → ClassId) (h0 : Nat) (h1 : Nat) (h2 : Nat) (h3 : Nat) (h4 : Nat) (h5 : Nat) (h6 : Nat) (h7 : Nat) (h8 : Nat) (h9 : Nat) (h10 : Nat) (p0 : Int32) (p1 : Int32) (p2 : Int32) (p3 : Int32) (w0 : Value) (p4 : Int32) (p5 : Int32) (w1 : Value) (p6 : Int32) (p7 : Int32) (f0 : Nat → Int32) (f1 : Nat → Int32) (f2 : Nat → Int32) (p8 : Int32) (p9 : Int32) (p10 : Int32) (p11 : Int32) (w2 : Value) (w3 : Value) (w4 : Value) (f3 : Nat → Int32) (f4 : Nat → Int32) (f5 : Nat → Int32) (f6 : Nat → Int32) (f7 : Nat → Int32) (hp0 : (-1) ≤ (p0).toInt ∧ (p0).toInt ≤ 900) (hp1 : (-2147483648) ≤ (p1).toInt ∧ (p1).toInt ≤ 2147483647) (hp2 : (-2147483648) ≤ (p2).toInt ∧ (p2).toInt ≤ 2147483647) (hp3 : (-2147483648) ≤ (p3).toInt ∧ (p3).toInt ≤ 2147483647) (hp4 : 0 ≤ (p4).toInt ∧ (p4).toInt ≤ 900) (hp5 : (-2147483648) ≤ (p5).toInt ∧ (p5).toInt ≤ 2147483647) (hp6 : 0 ≤ (p6).toInt ∧ (p6).toInt ≤ 900) (hp7 : 0 ≤ (p7).toInt ∧ (p7).toInt ≤ 901) (hp8 : 1 ≤ (p8).toInt ∧ (p8).toInt ≤ 3) (hp9 : 0 ≤ (p9).toInt ∧ (p9).toInt ≤ 10) (hp10 : (-2147483648) ≤ (p10).toInt ∧ (p10).toInt ≤ 2147483647) (hp11 : 0 ≤ (p11).toInt ∧ (p11).toInt ≤ 999) (rf3 : RG f3 10 0 999) (rf4 : RG f4 10 0 999) (rf5 : RG f5 10 0 1000000) (rf6 : RG f6 10 0 10) (rf7 : RG f7 10 0 99) (hpre0 : KZ f0 (p7 : Int32).toInt) (hpre1 : 0 ≤ (p0 : Int32).toInt ∧ (p0 : Int32).toInt < (p7 : Int32).toInt) (hpre2 : (p2 : Int32).toInt ≠ 0 ∨ (p1 : Int32).toInt = 26 ∨ (p1 : Int32).toInt = 27 ∨ (p0 : Int32).toInt + 1 < (p7 : Int32).toInt) (hpre3 : (p2 : Int32).toInt = 0 ∨ (p1 : Int32).toInt = 27) (hpre4 : (p1 : Int32).toInt ≠ 26 ∧ (p1 : Int32).toInt ≠ 27) (sz : Nat) : MV l yX5_readPerson cX5_readPerson 5 { frames := 3, cells := 0, slots := 0, locals := 65 } [.ref h0] D cy (wk_e27dce96c cy h0 h1 p0 p1 p2 p3 h5 w0 p4 p5 h1 w1 p6 p7 h2 h3 h4 h2 f0 h3 f1 h4 f2 h5 p8 p9 p10 p11 w2 w3 w4 h6 h7 h8 h9 h10 h6 f3 h7 f4 h8 f5 h9 f6 h10 f7) sz (fun u => (1 ≤ (u.2.1 0 0).toInt ∧ (u.2.1 0 0).toInt ≤ 10) ∧ RG (u.2.1 1) 10 0 999 ∧ RG (u.2.1 2) 10 0 999 ∧ RG (u.2.1 3) 10 0 1000000 ∧ RG (u.2.1 4) 10 0 10 ∧ RG (u.2.1 5) 10 0 99 ∧ ((-1) ≤ (u.2.1 6 0).toInt ∧ (u.2.1 6 0).toInt ≤ 900) ∧ ((-2147483648) ≤ (u.2.1 7 0).toInt ∧ (u.2.1 7 0).toInt ≤ 2147483647) ∧ ((-2147483648) ≤ (u.2.1 8 0).toInt ∧ (u.2.1 8 0).toInt ≤ 2147483647) ∧ ((-2147483648) ≤ (u.2.1 9 0).toInt ∧ (u.2.1 9 0).toInt ≤ 2147483647) ∧ (0 ≤ ((u.2.1 6 0) : Int32).toInt ∧ ((u.2.1 6 0) : Int32).toInt < (p7 : Int32).toInt) ∧ (((u.2.1 8 0) : Int32).toInt ≠ 0 ∨ ((u.2.1 7 0) : Int32).toInt = 26 ∨ ((u.2.1 7 0) : Int32).toInt = 27 ∨ ((u.2.1 6 0) : Int32).toInt + 1 < (p7 : Int32).toInt) ∧ (((u.2.1 8 0) : Int32).toInt = 0 ∨ ((u.2.1 7 0) : Int32).toInt = 27) ∧ (((u.2.1 8 0) : Int32).toInt ≠ 0 ∨ (p2 : Int32).toInt = 0) ∧ ((p0 : Int32).toInt ≤ ((u.2.1 6 0) : Int32).toInt) ∧ (((u.2.1 8 0) : Int32).toInt ≠ 0 ∨ (p0 : Int32).toInt + 1 ≤ ((u.2.1 6 0) : Int32).toInt) ∧ (SIM f0 f1 f2 (p7 : Int32).toInt (persS (p8 : Int32).toInt (p9 : Int32).toInt) (p0 : Int32).toInt (p1 : Int32).toInt (p2 : Int32).toInt (p3 : Int32).toInt ((u.2.1 6 0) : Int32).toInt ((u.2.1 7 0) : Int32).toInt ((u.2.1 8 0) : Int32).toInt ((u.2.1 9 0) : Int32).toInt) ∧ (((u.2.1 8 0) : Int32).toInt ≠ 0 ∨ ((u.2.1 0 0) : Int32).toInt = (p9 : Int32).toInt + 1) ∧ True) (fun u => (wk_e27dce96c cy h0 h1 (u.2.1 6 0) (u.2.1 7 0) (u.2.1 8 0) (u.2.1 9 0) h5 w0 p4 p5 h1 w1 p6 p7 h2 h3 h4 h2 f0 h3 f1 h4 f2 h5 p8 (u.2.1 0 0) p10 p11 w2 w3 w4 h6 h7 h8 h9 h10 h6 (u.2.1 1) h7 (u.2.1 2) h8 (u.2.1 3) h9 (u.2.1 4) h10 (u.2.1 5))) 0 0 := sorry
set_option maxHeartbeats 4000000 in
set_option maxRecDepth 100000 in
theorem gX5_readLine_4a62a35 (l : Launch) (D : va_G) (cy : Nat → ClassId) (h0 : Nat) (h1 : Nat) (h2 : Nat) (h3 : Nat) (h4 : Nat) (h5 : Nat) (h6 : Nat) (h7 : Nat) (h8 : Nat) (h9 : Nat) (h10 : Nat) (h11 : Nat) (p0 : Int32) (p1 : Int32) (p2 : Int32) (p3 : Int32) (p4 : Int32) (p5 : Int32) (w0 : Value) (p6 : Int32) (p7 : Int32) (f0 : Nat → Int32) (f1 : Nat → Int32) (f2 : Nat → Int32) (p8 : Int32) (p9 : Int32) (p10 : Int32) (p11 : Int32) (o0 : Option Nat) (o1 : Option Nat) (o2 : Option Nat) (f3 : Nat → Int32) (f4 : Nat → Int32) (f5 : Nat → Int32) (f6 : Nat → Int32) (f7 : Nat → Int32) (f8 : Nat → Int32) (hp0 : (-1) ≤ (p0).toInt ∧ (p0).toInt ≤ 900) (hp1 : (-2147483648) ≤ (p1).toInt ∧ (p1).toInt ≤ 2147483647) (hp2 : (-2147483648) ≤ (p2).toInt ∧ (p2).toInt ≤ 2147483647) (hp3 : (-2147483648) ≤ (p3).toInt ∧ (p3).toInt ≤ 2147483647) (hp4 : 0 ≤ (p4).toInt ∧ (p4).toInt ≤ 900) (hp5 : (-2147483648) ≤ (p5).toInt ∧ (p5).toInt ≤ 2147483647) (hp6 : 0 ≤ (p6).toInt ∧ (p6).toInt ≤ 900) (hp7 : 0 ≤ (p7).toInt ∧ (p7).toInt ≤ 901) (hp8 : 1 ≤ (p8).toInt ∧ (p8).toInt ≤ 3) (hp9 : 0 ≤ (p9).toInt ∧ (p9).toInt ≤ 10) (hp10 : (-2147483648) ≤ (p10).toInt ∧ (p10).toInt ≤ 2147483647) (hp11 : 0 ≤ (p11).toInt ∧ (p11).toInt ≤ 999) (rf3 : RG f3 10 0 999) (rf4 : RG f4 10 0 999) (rf5 : RG f5 10 0 1000000) (rf6 : RG f6 10 0 10) (rf7 : RG f7 10 0 99) (hpre0 : KZ f0 (p7 : Int32).toInt) (hpre1 : 0 ≤ (p0 : Int32).toInt ∧ (p0 : Int32).toInt < (p7 : Int32).toInt) (hpre2 : (p2 : Int32).toInt ≠ 0 ∨ (p1 : Int32).toInt = 26 ∨ (p1 : Int32).toInt = 27 ∨ (p0 : Int32).toInt + 1 < (p7 : Int32).toInt) (hpre3 : (p2 : Int32).toInt = 0 ∨ (p1 : Int32).toInt = 27) (hpre4 : (p1 : Int32).toInt ≠ 26 ∧ (p1 : Int32).toInt ≠ 27) (sz : Nat) : MVw l yX5_readLine cX5_readLine 1 { frames := 27, cells := 2, slots := 901, locals := 677 } [.ref h0] D cy (wk_d33bee7ee cy h0 h1 p0 p1 p2 p3 h5 h11 p4 p5 h1 w0 p6 p7 h2 h3 h4 h2 f0 h3 f1 h4 f2 h5 p8 p9 p10 p11 o0 o1 o2 h6 h7 h8 h9 h10 h6 f3 h7 f4 h8 f5 h9 f6 h10 f7 h11 f8) sz (fun u => (0 ≤ (u.1.2.1 0 0).toInt ∧ (u.1.2.1 0 0).toInt ≤ 999) ∧ ((-1) ≤ (u.1.2.1 1 0).toInt ∧ (u.1.2.1 1 0).toInt ≤ 900) ∧ ((-2147483648) ≤ (u.1.2.1 2 0).toInt ∧ (u.1.2.1 2 0).toInt ≤ 2147483647) ∧ ((-2147483648) ≤ (u.1.2.1 3 0).toInt ∧ (u.1.2.1 3 0).toInt ≤ 2147483647) ∧ ((-2147483648) ≤ (u.1.2.1 4 0).toInt ∧ (u.1.2.1 4 0).toInt ≤ 2147483647) ∧ (0 ≤ (u.1.2.1 5 0).toInt ∧ (u.1.2.1 5 0).toInt ≤ 10) ∧ RG (u.1.2.1 6) 10 0 999 ∧ RG (u.1.2.1 7) 10 0 999 ∧ RG (u.1.2.1 8) 10 0 1000000 ∧ RG (u.1.2.1 9) 10 0 10 ∧ RG (u.1.2.1 10) 10 0 99 ∧ (0 ≤ (u.1.2.1 11 0).toInt ∧ (u.1.2.1 11 0).toInt ≤ 900) ∧ ((-2147483648) ≤ (u.1.2.1 12 0).toInt ∧ (u.1.2.1 12 0).toInt ≤ 2147483647) ∧ (0 ≤ ((u.1.2.1 1 0) : Int32).toInt ∧ ((u.1.2.1 1 0) : Int32).toInt < (p7 : Int32).toInt) ∧ (((u.1.2.1 3 0) : Int32).toInt ≠ 0 ∨ ((u.1.2.1 2 0) : Int32).toInt = 26 ∨ ((u.1.2.1 2 0) : Int32).toInt = 27 ∨ ((u.1.2.1 1 0) : Int32).toInt + 1 < (p7 : Int32).toInt) ∧ (((u.1.2.1 3 0) : Int32).toInt = 0 ∨ ((u.1.2.1 2 0) : Int32).toInt = 27) ∧ (((u.1.2.1 3 0) : Int32).toInt ≠ 0 ∨ (p2 : Int32).toInt = 0) ∧ ((p0 : Int32).toInt ≤ ((u.1.2.1 1 0) : Int32).toInt) ∧ (((u.1.2.1 3 0) : Int32).toInt ≠ 0 ∨ (p0 : Int32).toInt + 1 ≤ ((u.1.2.1 1 0) : Int32).toInt) ∧ (LawS cy u.2.1 (va_rf o0) (va_rf o1) (va_rf o2) (va_rf (u.2.2 0)) (va_rf (u.2.2 1)) (va_rf (u.2.2 2))) ∧ (SIM f0 f1 f2 (p7 : Int32).toInt (lineS (p8 : Int32).toInt (p9 : Int32).toInt) (p0 : Int32).toInt (p1 : Int32).toInt (p2 : Int32).toInt (p3 : Int32).toInt ((u.1.2.1 1 0) : Int32).toInt ((u.1.2.1 2 0) : Int32).toInt ((u.1.2.1 3 0) : Int32).toInt ((u.1.2.1 4 0) : Int32).toInt) ∧ (((u.1.2.1 3 0) : Int32).toInt ≠ 0 ∨ ((p1 : Int32).toInt = 13 ∧ ((u.1.2.1 5 0) : Int32).toInt = (p9 : Int32).toInt + 1) ∨ ((p1 : Int32).toInt ≠ 13 ∧ ((u.1.2.1 5 0) : Int32).toInt = (p9 : Int32).toInt)) ∧ True) (fun u => (wk_d33bee7ee cy h0 h1 (u.1.2.1 1 0) (u.1.2.1 2 0) (u.1.2.1 3 0) (u.1.2.1 4 0) h5 h11 (u.1.2.1 11 0) (u.1.2.1 12 0) h1 w0 p6 p7 h2 h3 h4 h2 f0 h3 f1 h4 f2 h5 p8 (u.1.2.1 5 0) p10 (u.1.2.1 0 0) (u.2.2 0) (u.2.2 1) (u.2.2 2) h6 h7 h8 h9 h10 h6 (u.1.2.1 6) h7 (u.1.2.1 7) h8 (u.1.2.1 8) h9 (u.1.2.1 9) h10 (u.1.2.1 10) h11 (u.1.2.1 13))) 2 901 := sorry