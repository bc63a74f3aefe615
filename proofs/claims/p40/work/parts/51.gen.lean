def wk_e27dce96c (cy : Nat → ClassId) (a0 a1 : Nat) (a2 a3 a4 a5 : Int32) (a6 : Nat) (a7 : Value) (a8 a9 : Int32) (a10 : Nat) (a11 : Value) (a12 a13 : Int32) (a14 a15 a16 a17 : Nat) (a18 : Nat → Int32) (a19 : Nat) (a20 : Nat → Int32) (a21 : Nat) (a22 : Nat → Int32) (a23 : Nat) (a24 a25 a26 a27 : Int32) (a28 a29 a30 : Value) (a31 a32 a33 a34 a35 a36 : Nat) (a37 : Nat → Int32) (a38 : Nat) (a39 : Nat → Int32) (a40 : Nat) (a41 : Nat → Int32) (a42 : Nat) (a43 : Nat → Int32) (a44 : Nat) (a45 : Nat → Int32) : va_W := [(a0, .inr (5, [.ref a1, .int a2, .int a3, .int a4, .int a5, .ref a6, a7, .int a8, .int a9])), (a10, .inr (8, [a11, .int a12, .int a13, .ref a14, .ref a15, .ref a16])), (a17, .inl (cy 1, 901, .inl a18)), (a19, .inl (cy 1, 901, .inl a20)), (a21, .inl (cy 1, 901, .inl a22)), (a23, .inr (3, [.int a24, .int a25, .int a26, .int a27, a28, a29, a30, .ref a31, .ref a32, .ref a33, .ref a34, .ref a35])), (a36, .inl (cy 1, 10, .inl a37)), (a38, .inl (cy 1, 10, .inl a39)), (a40, .inl (cy 1, 10, .inl a41)), (a42, .inl (cy 1, 10, .inl a43)), (a44, .inl (cy 1, 10, .inl a45))]
def wk_31c2093ae (cy : Nat → ClassId) (a0 : Nat) (a1 : Nat → Int32) (a2 : Nat) (a3 a4 a5 a6 : Int32) (a7 a8 a9 : Value) (a10 a11 a12 a13 a14 a15 : Nat) (a16 : Nat → Int32) (a17 : Nat) (a18 : Nat → Int32) (a19 : Nat) (a20 : Nat → Int32) (a21 : Nat) (a22 : Nat → Int32) (a23 : Nat) (a24 : Nat → Int32) (a25 a26 : Nat) (a27 a28 a29 a30 : Int32) (a31 : Nat) (a32 : Value) (a33 a34 : Int32) (a35 : Nat) (a36 : Value) (a37 a38 : Int32) (a39 a40 a41 a42 : Nat) (a43 : Nat → Int32) (a44 : Nat) (a45 : Nat → Int32) : va_W := [(a0, .inl (cy 1, 901, .inl a1)), (a2, .inr (3, [.int a3, .int a4, .int a5, .int a6, a7, a8, a9, .ref a10, .ref a11, .ref a12, .ref a13, .ref a14])), (a15, .inl (cy 1, 10, .inl a16)), (a17, .inl (cy 1, 10, .inl a18)), (a19, .inl (cy 1, 10, .inl a20)), (a21, .inl (cy 1, 10, .inl a22)), (a23, .inl (cy 1, 10, .inl a24)), (a25, .inr (5, [.ref a26, .int a27, .int a28, .int a29, .int a30, .ref a31, a32, .int a33, .int a34])), (a35, .inr (8, [a36, .int a37, .int a38, .ref a39, .ref a40, .ref a41])), (a42, .inl (cy 1, 901, .inl a43)), (a44, .inl (cy 1, 901, .inl a45))]
def wk_dea5df769 (cy : Nat → ClassId) (a0 : Nat) (a1 a2 a3 a4 : Int32) (a5 a6 a7 : Value) (a8 a9 a10 a11 a12 a13 : Nat) (a14 : Nat → Int32) (a15 : Nat) (a16 : Nat → Int32) (a17 : Nat) (a18 : Nat → Int32) (a19 : Nat) (a20 : Nat → Int32) (a21 : Nat) (a22 : Nat → Int32) : va_W := [(a0, .inr (3, [.int a1, .int a2, .int a3, .int a4, a5, a6, a7, .ref a8, .ref a9, .ref a10, .ref a11, .ref a12])), (a13, .inl (cy 1, 10, .inl a14)), (a15, .inl (cy 1, 10, .inl a16)), (a17, .inl (cy 1, 10, .inl a18)), (a19, .inl (cy 1, 10, .inl a20)), (a21, .inl (cy 1, 10, .inl a22))]
def wk_21b02cfdf (cy : Nat → ClassId) (a0 : Nat) (a1 a2 a3 a4 : Int32) (a5 a6 a7 : Value) (a8 a9 a10 a11 a12 a13 : Nat) (a14 : Nat → Int32) (a15 : Nat) (a16 : Nat → Int32) (a17 : Nat) (a18 : Nat → Int32) (a19 : Nat) (a20 : Nat → Int32) (a21 : Nat) (a22 : Nat → Int32) (a23 a24 : Nat) (a25 a26 a27 a28 : Int32) (a29 : Nat) (a30 : Value) (a31 a32 : Int32) (a33 : Nat) (a34 : Value) (a35 a36 : Int32) (a37 a38 a39 a40 : Nat) (a41 : Nat → Int32) (a42 : Nat) (a43 : Nat → Int32) (a44 : Nat) (a45 : Nat → Int32) : va_W := [(a0, .inr (3, [.int a1, .int a2, .int a3, .int a4, a5, a6, a7, .ref a8, .ref a9, .ref a10, .ref a11, .ref a12])), (a13, .inl (cy 1, 10, .inl a14)), (a15, .inl (cy 1, 10, .inl a16)), (a17, .inl (cy 1, 10, .inl a18)), (a19, .inl (cy 1, 10, .inl a20)), (a21, .inl (cy 1, 10, .inl a22)), (a23, .inr (5, [.ref a24, .int a25, .int a26, .int a27, .int a28, .ref a29, a30, .int a31, .int a32])), (a33, .inr (8, [a34, .int a35, .int a36, .ref a37, .ref a38, .ref a39])), (a40, .inl (cy 1, 901, .inl a41)), (a42, .inl (cy 1, 901, .inl a43)), (a44, .inl (cy 1, 901, .inl a45))]
def wk_bc275e43f (cy : Nat → ClassId) (a0 : Nat) (a1 : Nat → Int32) (a2 a3 : Nat) (a4 : Nat → Int32) : va_W := [(a0, .inl (cy 1, 900, .inl a1)), (a2, .inl (cy 1, a3, .inl a4))]
def wk_dfd8ea8dd (cy : Nat → ClassId) (a0 a1 a2 : Nat) (a3 : Nat → Int32) (a4 a5 : Nat) (a6 : Nat → Int32) : va_W := [(a0, .inr (4, [.ref a1])), (a2, .inl (cy 1, 900, .inl a3)), (a4, .inl (cy 1, a5, .inl a6))]
def wk_ae24459d8 (cy : Nat → ClassId) (a0 a1 : Nat) (a2 a3 a4 a5 : Int32) (a6 : Value) (a7 : Nat) (a8 a9 : Int32) (a10 : Nat) (a11 : Value) (a12 a13 : Int32) (a14 a15 a16 a17 : Nat) (a18 : Nat → Int32) (a19 : Nat) (a20 : Nat → Int32) (a21 : Nat) (a22 : Nat → Int32) (a23 : Nat) (a24 : Nat → Int32) (a25 : Nat) : va_W := [(a0, .inr (5, [.ref a1, .int a2, .int a3, .int a4, .int a5, a6, .ref a7, .int a8, .int a9])), (a10, .inr (8, [a11, .int a12, .int a13, .ref a14, .ref a15, .ref a16])), (a17, .inl (cy 1, 901, .inl a18)), (a19, .inl (cy 1, 901, .inl a20)), (a21, .inl (cy 1, 901, .inl a22)), (a23, .inl (cy 1, 900, .inl a24)), (a25, .inr (4, [.null]))]
def wk_c1f241b95 (cy : Nat → ClassId) (a0 a1 : Nat) (a2 a3 a4 a5 : Int32) (a6 : Value) (a7 : Nat) (a8 a9 : Int32) (a10 : Nat) (a11 : Value) (a12 a13 : Int32) (a14 a15 a16 a17 : Nat) (a18 : Nat → Int32) (a19 : Nat) (a20 : Nat → Int32) (a21 : Nat) (a22 : Nat → Int32) : va_W := [(a0, .inr (5, [.ref a1, .int a2, .int a3, .int a4, .int a5, a6, .ref a7, .int a8, .int a9])), (a10, .inr (8, [a11, .int a12, .int a13, .ref a14, .ref a15, .ref a16])), (a17, .inl (cy 1, 901, .inl a18)), (a19, .inl (cy 1, 901, .inl a20)), (a21, .inl (cy 1, 901, .inl a22))]
def wk_1fec3ea31 (cy : Nat → ClassId) (a0 a1 : Nat) (a2 a3 a4 a5 : Int32) (a6 : Value) (a7 : Nat) (a8 a9 : Int32) (a10 : Nat) (a11 : Value) (a12 a13 : Int32) (a14 a15 a16 a17 : Nat) (a18 : Nat → Int32) (a19 : Nat) (a20 : Nat → Int32) (a21 : Nat) (a22 : Nat → Int32) (a23 a24 a25 : Nat) (a26 : Nat → Int32) (a27 a28 : Nat) (a29 : Nat → Int32) : va_W := [(a0, .inr (5, [.ref a1, .int a2, .int a3, .int a4, .int a5, a6, .ref a7, .int a8, .int a9])), (a10, .inr (8, [a11, .int a12, .int a13, .ref a14, .ref a15, .ref a16])), (a17, .inl (cy 1, 901, .inl a18)), (a19, .inl (cy 1, 901, .inl a20)), (a21, .inl (cy 1, 901, .inl a22)), (a23, .inr (4, [.ref a24])), (a25, .inl (cy 1, 900, .inl a26)), (a27, .inl (cy 1, a28, .inl a29))]
def wk_d33bee7ee (cy : Nat → ClassId) (a0 a1 : Nat) (a2 a3 a4 a5 : Int32) (a6 a7 : Nat) (a8 a9 : Int32) (a10 : Nat) (a11 : Value) (a12 a13 : Int32) (a14 a15 a16 a17 : Nat) (a18 : Nat → Int32) (a19 : Nat) (a20 : Nat → Int32) (a21 : Nat) (a22 : Nat → Int32) (a23 : Nat) (a24 a25 a26 a27 : Int32) (a28 a29 a30 : Option Nat) (a31 a32 a33 a34 a35 a36 : Nat) (a37 : Nat → Int32) (a38 : Nat) (a39 : Nat → Int32) (a40 : Nat) (a41 : Nat → Int32) (a42 : Nat) (a43 : Nat → Int32) (a44 : Nat) (a45 : Nat → Int32) (a46 : Nat) (a47 : Nat → Int32) : va_W := [(a0, .inr (5, [.ref a1, .int a2, .int a3, .int a4, .int a5, .ref a6, .ref a7, .int a8, .int a9])), (a10, .inr (8, [a11, .int a12, .int a13, .ref a14, .ref a15, .ref a16])), (a17, .inl (cy 1, 901, .inl a18)), (a19, .inl (cy 1, 901, .inl a20)), (a21, .inl (cy 1, 901, .inl a22)), (a23, .inr (3, [.int a24, .int a25, .int a26, .int a27, (va_rf a28), (va_rf a29), (va_rf a30), .ref a31, .ref a32, .ref a33, .ref a34, .ref a35])), (a36, .inl (cy 1, 10, .inl a37)), (a38, .inl (cy 1, 10, .inl a39)), (a40, .inl (cy 1, 10, .inl a41)), (a42, .inl (cy 1, 10, .inl a43)), (a44, .inl (cy 1, 10, .inl a45)), (a46, .inl (cy 1, 900, .inl a47))]
def wk_2d757fd5f (cy : Nat → ClassId) (a0 : Nat) (a1 a2 a3 a4 : Int32) (a5 a6 a7 : Option Nat) (a8 a9 a10 a11 a12 a13 : Nat) (a14 : Nat → Int32) (a15 : Nat) (a16 : Nat → Int32) (a17 : Nat) (a18 : Nat → Int32) (a19 : Nat) (a20 : Nat → Int32) (a21 : Nat) (a22 : Nat → Int32) (a23 : Nat) (a24 : Nat → Int32) (a25 a26 : Nat) (a27 a28 a29 a30 : Int32) (a31 a32 : Nat) (a33 a34 : Int32) (a35 : Nat) (a36 : Value) (a37 a38 : Int32) (a39 a40 a41 a42 : Nat) (a43 : Nat → Int32) (a44 : Nat) (a45 : Nat → Int32) (a46 : Nat) (a47 : Nat → Int32) : va_W := [(a0, .inr (3, [.int a1, .int a2, .int a3, .int a4, (va_rf a5), (va_rf a6), (va_rf a7), .ref a8, .ref a9, .ref a10, .ref a11, .ref a12])), (a13, .inl (cy 1, 10, .inl a14)), (a15, .inl (cy 1, 10, .inl a16)), (a17, .inl (cy 1, 10, .inl a18)), (a19, .inl (cy 1, 10, .inl a20)), (a21, .inl (cy 1, 10, .inl a22)), (a23, .inl (cy 1, 900, .inl a24)), (a25, .inr (5, [.ref a26, .int a27, .int a28, .int a29, .int a30, .ref a31, .ref a32, .int a33, .int a34])), (a35, .inr (8, [a36, .int a37, .int a38, .ref a39, .ref a40, .ref a41])), (a42, .inl (cy 1, 901, .inl a43)), (a44, .inl (cy 1, 901, .inl a45)), (a46, .inl (cy 1, 901, .inl a47))]
def wk_31def65b3 (cy : Nat → ClassId) (a0 : Nat) (a1 : Nat → Int32) (a2 : Nat) (a3 : Nat → Int32) (a4 : Nat) (a5 a6 a7 a8 : Int32) (a9 a10 a11 : Option Nat) (a12 a13 a14 a15 a16 a17 : Nat) (a18 : Nat → Int32) (a19 : Nat) (a20 : Nat → Int32) (a21 : Nat) (a22 : Nat → Int32) (a23 : Nat) (a24 : Nat → Int32) (a25 : Nat) (a26 : Nat → Int32) (a27 : Nat) (a28 : Nat → Int32) : va_W := [(a0, .inl (cy 1, 901, .inl a1)), (a2, .inl (cy 1, 901, .inl a3)), (a4, .inr (3, [.int a5, .int a6, .int a7, .int a8, (va_rf a9), (va_rf a10), (va_rf a11), .ref a12, .ref a13, .ref a14, .ref a15, .ref a16])), (a17, .inl (cy 1, 10, .inl a18)), (a19, .inl (cy 1, 10, .inl a20)), (a21, .inl (cy 1, 10, .inl a22)), (a23, .inl (cy 1, 10, .inl a24)), (a25, .inl (cy 1, 10, .inl a26)), (a27, .inl (cy 1, 900, .inl a28))]
def wk_0202ea6aa (cy : Nat → ClassId) (a0 : Nat) (a1 : Nat → Int32) (a2 : Nat) (a3 : Nat → Int32) (a4 : Nat) (a5 a6 a7 a8 : Int32) (a9 a10 a11 : Option Nat) (a12 a13 a14 a15 a16 a17 : Nat) (a18 : Nat → Int32) (a19 : Nat) (a20 : Nat → Int32) (a21 : Nat) (a22 : Nat → Int32) (a23 : Nat) (a24 : Nat → Int32) (a25 : Nat) (a26 : Nat → Int32) (a27 : Nat) (a28 : Nat → Int32) (a29 a30 : Nat) (a31 a32 a33 a34 : Int32) (a35 a36 : Nat) (a37 a38 : Int32) (a39 : Nat) (a40 : Value) (a41 a42 : Int32) (a43 a44 a45 a46 : Nat) (a47 : Nat → Int32) : va_W := [(a0, .inl (cy 1, 901, .inl a1)), (a2, .inl (cy 1, 901, .inl a3)), (a4, .inr (3, [.int a5, .int a6, .int a7, .int a8, (va_rf a9), (va_rf a10), (va_rf a11), .ref a12, .ref a13, .ref a14, .ref a15, .ref a16])), (a17, .inl (cy 1, 10, .inl a18)), (a19, .inl (cy 1, 10, .inl a20)), (a21, .inl (cy 1, 10, .inl a22)), (a23, .inl (cy 1, 10, .inl a24)), (a25, .inl (cy 1, 10, .inl a26)), (a27, .inl (cy 1, 900, .inl a28)), (a29, .inr (5, [.ref a30, .int a31, .int a32, .int a33, .int a34, .ref a35, .ref a36, .int a37, .int a38])), (a39, .inr (8, [a40, .int a41, .int a42, .ref a43, .ref a44, .ref a45])), (a46, .inl (cy 1, 901, .inl a47))]
def wk_27a2fc362 (cy : Nat → ClassId) (a0 : Nat) (a1 a2 a3 a4 : Int32) (a5 a6 a7 : Option Nat) (a8 a9 a10 a11 a12 a13 : Nat) (a14 : Nat → Int32) (a15 : Nat) (a16 : Nat → Int32) (a17 : Nat) (a18 : Nat → Int32) (a19 : Nat) (a20 : Nat → Int32) (a21 : Nat) (a22 : Nat → Int32) : va_W := [(a0, .inr (3, [.int a1, .int a2, .int a3, .int a4, (va_rf a5), (va_rf a6), (va_rf a7), .ref a8, .ref a9, .ref a10, .ref a11, .ref a12])), (a13, .inl (cy 1, 10, .inl a14)), (a15, .inl (cy 1, 10, .inl a16)), (a17, .inl (cy 1, 10, .inl a18)), (a19, .inl (cy 1, 10, .inl a20)), (a21, .inl (cy 1, 10, .inl a22))]
def wk_fb187a8e3 (cy : Nat → ClassId) (a0 : Nat) (a1 a2 a3 a4 : Int32) (a5 a6 a7 : Option Nat) (a8 a9 a10 a11 a12 a13 : Nat) (a14 : Nat → Int32) (a15 : Nat) (a16 : Nat → Int32) (a17 : Nat) (a18 : Nat → Int32) (a19 : Nat) (a20 : Nat → Int32) (a21 : Nat) (a22 : Nat → Int32) (a23 a24 : Nat) (a25 a26 a27 a28 : Int32) (a29 a30 : Nat) (a31 a32 : Int32) (a33 : Nat) (a34 : Value) (a35 a36 : Int32) (a37 a38 a39 a40 : Nat) (a41 : Nat → Int32) (a42 : Nat) (a43 : Nat → Int32) (a44 : Nat) (a45 : Nat → Int32) (a46 : Nat) (a47 : Nat → Int32) : va_W := [(a0, .inr (3, [.int a1, .int a2, .int a3, .int a4, (va_rf a5), (va_rf a6), (va_rf a7), .ref a8, .ref a9, .ref a10, .ref a11, .ref a12])), (a13, .inl (cy 1, 10, .inl a14)), (a15, .inl (cy 1, 10, .inl a16)), (a17, .inl (cy 1, 10, .inl a18)), (a19, .inl (cy 1, 10, .inl a20)), (a21, .inl (cy 1, 10, .inl a22)), (a23, .inr (5, [.ref a24, .int a25, .int a26, .int a27, .int a28, .ref a29, .ref a30, .int a31, .int a32])), (a33, .inr (8, [a34, .int a35, .int a36, .ref a37, .ref a38, .ref a39])), (a40, .inl (cy 1, 901, .inl a41)), (a42, .inl (cy 1, 901, .inl a43)), (a44, .inl (cy 1, 901, .inl a45)), (a46, .inl (cy 1, 900, .inl a47))]
def wk_060e1226c (cy : Nat → ClassId) (a0 : Nat) (a1 a2 a3 a4 : Int32) (a5 a6 a7 a8 a9 a10 : Nat) (a11 : Nat → Int32) (a12 : Nat) (a13 : Nat → Int32) (a14 : Nat) (a15 : Nat → Int32) (a16 : Nat) (a17 : Nat → Int32) (a18 : Nat) (a19 : Nat → Int32) : va_W := [(a0, .inr (3, [.int a1, .int a2, .int a3, .int a4, .null, .null, .null, .ref a5, .ref a6, .ref a7, .ref a8, .ref a9])), (a10, .inl (cy 1, 10, .inl a11)), (a12, .inl (cy 1, 10, .inl a13)), (a14, .inl (cy 1, 10, .inl a15)), (a16, .inl (cy 1, 10, .inl a17)), (a18, .inl (cy 1, 10, .inl a19))]
def wk_f120e8fa4 (cy : Nat → ClassId) (a0 a1 : Nat) (a2 a3 a4 a5 : Int32) (a6 : Option Nat) (a7 : Nat) (a8 a9 : Int32) (a10 : Nat) (a11 : Option Nat) (a12 a13 : Int32) (a14 a15 a16 a17 : Nat) (a18 : Nat → Int32) (a19 : Nat) (a20 : Nat → Int32) (a21 : Nat) (a22 : Nat → Int32) (a23 : Nat) (a24 : Nat → Int32) (a25 : Nat) (a26 : Nat → Int32) : va_W := [(a0, .inr (5, [.ref a1, .int a2, .int a3, .int a4, .int a5, (va_rf a6), .ref a7, .int a8, .int a9])), (a10, .inr (8, [(va_rf a11), .int a12, .int a13, .ref a14, .ref a15, .ref a16])), (a17, .inl (cy 1, 901, .inl a18)), (a19, .inl (cy 1, 901, .inl a20)), (a21, .inl (cy 1, 901, .inl a22)), (a23, .inl (cy 1, 900, .inl a24)), (a25, .inl (cy 0, 900, .inl a26))]
def wk_b3fee32c6 (cy : Nat → ClassId) (a0 a1 : Nat) (a2 a3 a4 a5 : Int32) (a6 : Option Nat) (a7 : Nat) (a8 a9 : Int32) (a10 : Nat) (a11 : Nat → Int32) (a12 a13 : Nat) (a14 a15 : Int32) (a16 a17 a18 a19 : Nat) (a20 : Nat → Int32) (a21 : Nat) (a22 : Nat → Int32) (a23 : Nat) (a24 : Nat → Int32) (a25 : Nat) (a26 : Nat → Int32) : va_W := [(a0, .inr (5, [.ref a1, .int a2, .int a3, .int a4, .int a5, (va_rf a6), .ref a7, .int a8, .int a9])), (a10, .inl (cy 1, 900, .inl a11)), (a12, .inr (8, [.ref a13, .int a14, .int a15, .ref a16, .ref a17, .ref a18])), (a19, .inl (cy 1, 901, .inl a20)), (a21, .inl (cy 1, 901, .inl a22)), (a23, .inl (cy 1, 901, .inl a24)), (a25, .inl (cy 0, 900, .inl a26))]
def wk_ec5c743af (cy : Nat → ClassId) (a0 : Nat) (a1 : Nat → Int32) (a2 : Nat) (a3 : Nat → Int32) (a4 : Nat) (a5 : Nat → Int32) (a6 : Nat) (a7 a8 a9 a10 : Int32) (a11 a12 a13 a14 a15 a16 : Nat) (a17 : Nat → Int32) (a18 : Nat) (a19 : Nat → Int32) (a20 : Nat) (a21 : Nat → Int32) (a22 : Nat) (a23 : Nat → Int32) (a24 : Nat) (a25 : Nat → Int32) : va_W := [(a0, .inl (cy 1, 900, .inl a1)), (a2, .inl (cy 1, 901, .inl a3)), (a4, .inl (cy 0, 900, .inl a5)), (a6, .inr (3, [.int a7, .int a8, .int a9, .int a10, .null, .null, .null, .ref a11, .ref a12, .ref a13, .ref a14, .ref a15])), (a16, .inl (cy 1, 10, .inl a17)), (a18, .inl (cy 1, 10, .inl a19)), (a20, .inl (cy 1, 10, .inl a21)), (a22, .inl (cy 1, 10, .inl a23)), (a24, .inl (cy 1, 10, .inl a25))]
def wk_3cb20a52e (cy : Nat → ClassId) (a0 : Nat) (a1 : Nat → Int32) (a2 : Nat) (a3 : Nat → Int32) (a4 : Nat) (a5 : Nat → Int32) (a6 : Nat) (a7 a8 a9 a10 : Int32) (a11 a12 a13 a14 a15 a16 : Nat) (a17 : Nat → Int32) (a18 : Nat) (a19 : Nat → Int32) (a20 : Nat) (a21 : Nat → Int32) (a22 : Nat) (a23 : Nat → Int32) (a24 : Nat) (a25 : Nat → Int32) (a26 a27 : Nat) (a28 a29 a30 a31 : Int32) (a32 a33 : Nat) (a34 a35 : Int32) (a36 a37 : Nat) (a38 a39 : Int32) (a40 a41 a42 a43 : Nat) (a44 : Nat → Int32) (a45 : Nat) (a46 : Nat → Int32) : va_W := [(a0, .inl (cy 1, 900, .inl a1)), (a2, .inl (cy 1, 901, .inl a3)), (a4, .inl (cy 0, 900, .inl a5)), (a6, .inr (3, [.int a7, .int a8, .int a9, .int a10, .null, .null, .null, .ref a11, .ref a12, .ref a13, .ref a14, .ref a15])), (a16, .inl (cy 1, 10, .inl a17)), (a18, .inl (cy 1, 10, .inl a19)), (a20, .inl (cy 1, 10, .inl a21)), (a22, .inl (cy 1, 10, .inl a23)), (a24, .inl (cy 1, 10, .inl a25)), (a26, .inr (5, [.ref a27, .int a28, .int a29, .int a30, .int a31, .ref a32, .ref a33, .int a34, .int a35])), (a36, .inr (8, [.ref a37, .int a38, .int a39, .ref a40, .ref a41, .ref a42])), (a43, .inl (cy 1, 901, .inl a44)), (a45, .inl (cy 1, 901, .inl a46))]
def wk_5f6295072 (cy : Nat → ClassId) (a0 : Nat) (a1 : Nat → Int32) (a2 : Nat) (a3 : Nat → Int32) (a4 : Nat) (a5 a6 a7 a8 : Int32) (a9 a10 a11 a12 a13 a14 : Nat) (a15 : Nat → Int32) (a16 : Nat) (a17 : Nat → Int32) (a18 : Nat) (a19 : Nat → Int32) (a20 : Nat) (a21 : Nat → Int32) (a22 : Nat) (a23 : Nat → Int32) (a24 a25 : Nat) (a26 a27 a28 a29 : Int32) (a30 a31 : Nat) (a32 a33 : Int32) (a34 a35 : Nat) (a36 a37 : Int32) (a38 a39 a40 a41 : Nat) (a42 : Nat → Int32) (a43 : Nat) (a44 : Nat → Int32) (a45 : Nat) (a46 : Nat → Int32) : va_W := [(a0, .inl (cy 1, 900, .inl a1)), (a2, .inl (cy 0, 900, .inl a3)), (a4, .inr (3, [.int a5, .int a6, .int a7, .int a8, .null, .null, .null, .ref a9, .ref a10, .ref a11, .ref a12, .ref a13])), (a14, .inl (cy 1, 10, .inl a15)), (a16, .inl (cy 1, 10, .inl a17)), (a18, .inl (cy 1, 10, .inl a19)), (a20, .inl (cy 1, 10, .inl a21)), (a22, .inl (cy 1, 10, .inl a23)), (a24, .inr (5, [.ref a25, .int a26, .int a27, .int a28, .int a29, .ref a30, .ref a31, .int a32, .int a33])), (a34, .inr (8, [.ref a35, .int a36, .int a37, .ref a38, .ref a39, .ref a40])), (a41, .inl (cy 1, 901, .inl a42)), (a43, .inl (cy 1, 901, .inl a44)), (a45, .inl (cy 1, 901, .inl a46))]
def wk_705940f6f (cy : Nat → ClassId) (a0 : Nat) (a1 : Nat → Int32) (a2 : Nat) (a3 : Nat → Int32) (a4 : Nat) (a5 a6 a7 a8 : Int32) (a9 a10 a11 a12 a13 a14 : Nat) (a15 : Nat → Int32) (a16 : Nat) (a17 : Nat → Int32) (a18 : Nat) (a19 : Nat → Int32) (a20 : Nat) (a21 : Nat → Int32) (a22 : Nat) (a23 : Nat → Int32) (a24 : Nat) (a25 : Nat → Int32) (a26 a27 : Nat) (a28 a29 a30 a31 : Int32) (a32 a33 : Nat) (a34 a35 : Int32) (a36 a37 : Nat) (a38 a39 : Int32) (a40 a41 a42 a43 : Nat) (a44 : Nat → Int32) (a45 : Nat) (a46 : Nat → Int32) : va_W := [(a0, .inl (cy 1, 900, .inl a1)), (a2, .inl (cy 0, 900, .inl a3)), (a4, .inr (3, [.int a5, .int a6, .int a7, .int a8, .null, .null, .null, .ref a9, .ref a10, .ref a11, .ref a12, .ref a13])), (a14, .inl (cy 1, 10, .inl a15)), (a16, .inl (cy 1, 10, .inl a17)), (a18, .inl (cy 1, 10, .inl a19)), (a20, .inl (cy 1, 10, .inl a21)), (a22, .inl (cy 1, 10, .inl a23)), (a24, .inl (cy 1, 901, .inl a25)), (a26, .inr (5, [.ref a27, .int a28, .int a29, .int a30, .int a31, .ref a32, .ref a33, .int a34, .int a35])), (a36, .inr (8, [.ref a37, .int a38, .int a39, .ref a40, .ref a41, .ref a42])), (a43, .inl (cy 1, 901, .inl a44)), (a45, .inl (cy 1, 901, .inl a46))]
def wk_8ccb92c0e (cy : Nat → ClassId) (a0 : Nat) (a1 : Nat → Int32) (a2 : Nat) (a3 : Nat → Int32) (a4 : Nat) (a5 a6 a7 a8 : Int32) (a9 a10 a11 : Option Nat) (a12 a13 a14 a15 a16 a17 : Nat) (a18 : Nat → Int32) (a19 : Nat) (a20 : Nat → Int32) (a21 : Nat) (a22 : Nat → Int32) (a23 : Nat) (a24 : Nat → Int32) (a25 : Nat) (a26 : Nat → Int32) (a27 : Nat) (a28 : Nat → Int32) (a29 a30 : Nat) (a31 a32 a33 a34 : Int32) (a35 a36 : Nat) (a37 a38 : Int32) (a39 a40 : Nat) (a41 a42 : Int32) (a43 a44 a45 a46 : Nat) (a47 : Nat → Int32) (a48 : Nat) (a49 : Nat → Int32) : va_W := [(a0, .inl (cy 1, 900, .inl a1)), (a2, .inl (cy 0, 900, .inl a3)), (a4, .inr (3, [.int a5, .int a6, .int a7, .int a8, (va_rf a9), (va_rf a10), (va_rf a11), .ref a12, .ref a13, .ref a14, .ref a15, .ref a16])), (a17, .inl (cy 1, 10, .inl a18)), (a19, .inl (cy 1, 10, .inl a20)), (a21, .inl (cy 1, 10, .inl a22)), (a23, .inl (cy 1, 10, .inl a24)), (a25, .inl (cy 1, 10, .inl a26)), (a27, .inl (cy 1, 901, .inl a28)), (a29, .inr (5, [.ref a30, .int a31, .int a32, .int a33, .int a34, .ref a35, .ref a36, .int a37, .int a38])), (a39, .inr (8, [.ref a40, .int a41, .int a42, .ref a43, .ref a44, .ref a45])), (a46, .inl (cy 1, 901, .inl a47)), (a48, .inl (cy 1, 901, .inl a49))]
def wk_7cbba6239 (cy : Nat → ClassId) (a0 : Nat) (a1 : Nat → Int32) (a2 : Nat) (a3 : Nat → Int32) (a4 : Nat) (a5 a6 a7 a8 : Int32) (a9 a10 a11 : Option Nat) (a12 a13 a14 a15 a16 a17 : Nat) (a18 : Nat → Int32) (a19 : Nat) (a20 : Nat → Int32) (a21 : Nat) (a22 : Nat → Int32) (a23 : Nat) (a24 : Nat → Int32) (a25 : Nat) (a26 : Nat → Int32) (a27 : Nat) (a28 : Nat → Int32) (a29 a30 : Nat) (a31 a32 a33 a34 : Int32) (a35 a36 : Nat) (a37 a38 : Int32) (a39 a40 : Nat) (a41 a42 : Int32) (a43 a44 a45 a46 : Nat) (a47 : Nat → Int32) (a48 : Nat) (a49 : Nat → Int32) : va_W := [(a0, .inl (cy 0, 900, .inl a1)), (a2, .inl (cy 1, 901, .inl a3)), (a4, .inr (3, [.int a5, .int a6, .int a7, .int a8, (va_rf a9), (va_rf a10), (va_rf a11), .ref a12, .ref a13, .ref a14, .ref a15, .ref a16])), (a17, .inl (cy 1, 10, .inl a18)), (a19, .inl (cy 1, 10, .inl a20)), (a21, .inl (cy 1, 10, .inl a22)), (a23, .inl (cy 1, 10, .inl a24)), (a25, .inl (cy 1, 10, .inl a26)), (a27, .inl (cy 1, 900, .inl a28)), (a29, .inr (5, [.ref a30, .int a31, .int a32, .int a33, .int a34, .ref a35, .ref a36, .int a37, .int a38])), (a39, .inr (8, [.ref a40, .int a41, .int a42, .ref a43, .ref a44, .ref a45])), (a46, .inl (cy 1, 901, .inl a47)), (a48, .inl (cy 1, 901, .inl a49))]
def wk_a794cc59d (cy : Nat → ClassId) (a0 a1 : Nat) (a2 a3 a4 : Int32) (a5 a6 a7 a8 a9 a10 a11 a12 a13 a14 a15 a16 : Value) (a17 : Int32) (a18 : Nat) (a19 : Nat → Int32) : va_W := [(a0, .inr (11, [.ref a1, .int a2, .int a3, .int a4, a5, a6, a7, a8, a9, a10, a11, a12, a13, a14, a15, a16, .int a17])), (a18, .inl (cy 0, 900, .inl a19))]
def wk_377872c90 (cy : Nat → ClassId) (a0 a1 : Nat) (a2 a3 : Int32) (a4 a5 : Nat) (a6 : Nat → Int32) (a7 : Nat) (a8 a9 a10 a11 : Int32) (a12 a13 a14 : Value) (a15 : Nat) (a16 a17 a18 a19 : Value) (a20 : Nat) (a21 : Nat → Int32) : va_W := [(a0, .inr (7, [.ref a1, .int a2, .int a3, .ref a4])), (a5, .inl (cy 1, 10, .inl a6)), (a7, .inr (3, [.int a8, .int a9, .int a10, .int a11, a12, a13, a14, .ref a15, a16, a17, a18, a19])), (a20, .inl (cy 1, 10, .inl a21))]
def wk_88b9e977e (cy : Nat → ClassId) (a0 a1 : Nat) (a2 a3 a4 : Int32) (a5 a6 : Nat) (a7 a8 : Value) (a9 : Nat) (a10 a11 a12 a13 a14 a15 a16 : Value) (a17 : Int32) (a18 : Nat) (a19 : Nat → Int32) (a20 a21 : Nat) (a22 a23 a24 a25 : Int32) (a26 : Option Nat) (a27 : Nat) (a28 a29 : Int32) (a30 : Nat) (a31 : Option Nat) (a32 a33 : Int32) (a34 a35 a36 a37 : Nat) (a38 : Nat → Int32) (a39 : Nat) (a40 : Nat → Int32) (a41 : Nat) (a42 : Nat → Int32) (a43 : Nat) (a44 : Nat → Int32) (a45 a46 : Nat) (a47 a48 : Int32) (a49 a50 : Nat) (a51 : Nat → Int32) (a52 : Nat) (a53 : Int32) (a54 : Value) : va_W := [(a0, .inr (11, [.ref a1, .int a2, .int a3, .int a4, .ref a5, .ref a6, a7, a8, .ref a9, a10, a11, a12, a13, a14, a15, a16, .int a17])), (a18, .inl (cy 0, 900, .inl a19)), (a20, .inr (5, [.ref a21, .int a22, .int a23, .int a24, .int a25, (va_rf a26), .ref a27, .int a28, .int a29])), (a30, .inr (8, [(va_rf a31), .int a32, .int a33, .ref a34, .ref a35, .ref a36])), (a37, .inl (cy 1, 901, .inl a38)), (a39, .inl (cy 1, 901, .inl a40)), (a41, .inl (cy 1, 901, .inl a42)), (a43, .inl (cy 1, 900, .inl a44)), (a45, .inr (7, [.ref a46, .int a47, .int a48, .ref a49])), (a50, .inl (cy 1, 10, .inl a51)), (a52, .inr (2, [.int a53, a54]))]
def wk_5d87e3385 (cy : Nat → ClassId) (a0 a1 : Nat) (a2 a3 a4 : Int32) (a5 a6 : Nat) (a7 a8 : Value) (a9 : Nat) (a10 a11 a12 a13 a14 a15 a16 : Value) (a17 : Int32) (a18 a19 : Nat) (a20 a21 : Int32) (a22 a23 : Nat) (a24 : Nat → Int32) (a25 : Nat) (a26 : Int32) (a27 : Value) (a28 a29 : Nat) (a30 a31 a32 a33 : Int32) (a34 a35 : Nat) (a36 a37 : Int32) (a38 a39 : Nat) (a40 a41 : Int32) (a42 a43 a44 a45 : Nat) (a46 : Nat → Int32) (a47 : Nat) (a48 : Nat → Int32) (a49 : Nat) (a50 : Nat → Int32) (a51 : Nat) (a52 : Nat → Int32) (a53 : Nat) (a54 : Nat → Int32) (a55 : Nat) (a56 a57 a58 a59 : Int32) (a60 a61 a62 : Option Nat) (a63 a64 a65 a66 a67 a68 : Nat) (a69 : Nat → Int32) (a70 : Nat) (a71 : Nat → Int32) (a72 : Nat) (a73 : Nat → Int32) (a74 : Nat) (a75 : Nat → Int32) (a76 : Nat) (a77 : Nat → Int32) : va_W := [(a0, .inr (11, [.ref a1, .int a2, .int a3, .int a4, .ref a5, .ref a6, a7, a8, .ref a9, a10, a11, a12, a13, a14, a15, a16, .int a17])), (a18, .inr (7, [.ref a19, .int a20, .int a21, .ref a22])), (a23, .inl (cy 1, 10, .inl a24)), (a25, .inr (2, [.int a26, a27])), (a28, .inr (5, [.ref a29, .int a30, .int a31, .int a32, .int a33, .ref a34, .ref a35, .int a36, .int a37])), (a38, .inr (8, [.ref a39, .int a40, .int a41, .ref a42, .ref a43, .ref a44])), (a45, .inl (cy 1, 901, .inl a46)), (a47, .inl (cy 1, 901, .inl a48)), (a49, .inl (cy 1, 901, .inl a50)), (a51, .inl (cy 1, 900, .inl a52)), (a53, .inl (cy 0, 900, .inl a54)), (a55, .inr (3, [.int a56, .int a57, .int a58, .int a59, (va_rf a60), (va_rf a61), (va_rf a62), .ref a63, .ref a64, .ref a65, .ref a66, .ref a67])), (a68, .inl (cy 1, 10, .inl a69)), (a70, .inl (cy 1, 10, .inl a71)), (a72, .inl (cy 1, 10, .inl a73)), (a74, .inl (cy 1, 10, .inl a75)), (a76, .inl (cy 1, 10, .inl a77))]
def wk_8f9a0fc93 (cy : Nat → ClassId) (a0 a1 : Nat) (a2 a3 a4 : Int32) (a5 a6 : Nat) (a7 a8 : Value) (a9 : Nat) (a10 a11 a12 a13 a14 a15 a16 : Value) (a17 : Int32) (a18 a19 : Nat) (a20 a21 a22 a23 : Int32) (a24 a25 : Nat) (a26 a27 : Int32) (a28 a29 : Nat) (a30 a31 : Int32) (a32 a33 a34 a35 : Nat) (a36 : Nat → Int32) (a37 : Nat) (a38 : Nat → Int32) (a39 : Nat) (a40 : Nat → Int32) (a41 : Nat) (a42 : Nat → Int32) (a43 : Nat) (a44 : Nat → Int32) (a45 : Nat) (a46 : Nat → Int32) (a47 : Nat) (a48 : Nat → Int32) (a49 : Nat) (a50 : Nat → Int32) (a51 : Nat) (a52 : Nat → Int32) (a53 a54 : Nat) (a55 a56 : Int32) (a57 a58 : Nat) (a59 : Nat → Int32) (a60 : Nat) (a61 a62 a63 a64 : Int32) (a65 a66 a67 : Option Nat) (a68 a69 a70 a71 a72 a73 : Nat) (a74 : Nat → Int32) (a75 : Nat) (a76 : Int32) (a77 : Value) : va_W := [(a0, .inr (11, [.ref a1, .int a2, .int a3, .int a4, .ref a5, .ref a6, a7, a8, .ref a9, a10, a11, a12, a13, a14, a15, a16, .int a17])), (a18, .inr (5, [.ref a19, .int a20, .int a21, .int a22, .int a23, .ref a24, .ref a25, .int a26, .int a27])), (a28, .inr (8, [.ref a29, .int a30, .int a31, .ref a32, .ref a33, .ref a34])), (a35, .inl (cy 1, 901, .inl a36)), (a37, .inl (cy 1, 901, .inl a38)), (a39, .inl (cy 1, 901, .inl a40)), (a41, .inl (cy 1, 900, .inl a42)), (a43, .inl (cy 0, 900, .inl a44)), (a45, .inl (cy 1, 10, .inl a46)), (a47, .inl (cy 1, 10, .inl a48)), (a49, .inl (cy 1, 10, .inl a50)), (a51, .inl (cy 1, 10, .inl a52)), (a53, .inr (7, [.ref a54, .int a55, .int a56, .ref a57])), (a58, .inl (cy 1, 10, .inl a59)), (a60, .inr (3, [.int a61, .int a62, .int a63, .int a64, (va_rf a65), (va_rf a66), (va_rf a67), .ref a68, .ref a69, .ref a70, .ref a71, .ref a72])), (a73, .inl (cy 1, 10, .inl a74)), (a75, .inr (2, [.int a76, a77]))]
def wk_8f4c68668 (cy : Nat → ClassId) (a0 : Nat) (a1 : Nat → Int32) (a2 : Nat) (a3 : Nat → Int32) (a4 : Nat) (a5 : Nat → Int32) (a6 : Nat) (a7 : Nat → Int32) (a8 : Nat) (a9 a10 a11 a12 : Int32) (a13 a14 a15 : Option Nat) (a16 a17 a18 a19 a20 a21 : Nat) (a22 : Nat → Int32) : va_W := [(a0, .inl (cy 1, 10, .inl a1)), (a2, .inl (cy 1, 10, .inl a3)), (a4, .inl (cy 1, 10, .inl a5)), (a6, .inl (cy 1, 10, .inl a7)), (a8, .inr (3, [.int a9, .int a10, .int a11, .int a12, (va_rf a13), (va_rf a14), (va_rf a15), .ref a16, .ref a17, .ref a18, .ref a19, .ref a20])), (a21, .inl (cy 1, 10, .inl a22))]
def wk_235474b32 (cy : Nat → ClassId) (a0 : Nat) (a1 : Value) (a2 a3 a4 : Int32) (a5 : Value) (a6 : Nat) (a7 a8 a9 a10 a11 a12 a13 a14 a15 a16 : Value) (a17 : Int32) (a18 a19 : Nat) (a20 a21 : Int32) (a22 a23 : Nat) (a24 a25 a26 a27 : Int32) (a28 a29 a30 a31 : Value) (a32 a33 a34 a35 a36 : Nat) (a37 : Nat → Int32) (a38 : Nat) (a39 : Nat → Int32) (a40 : Nat) (a41 : Nat → Int32) (a42 : Nat) (a43 : Nat → Int32) (a44 : Nat) (a45 : Nat → Int32) : va_W := [(a0, .inr (11, [a1, .int a2, .int a3, .int a4, a5, .ref a6, a7, a8, a9, a10, a11, a12, a13, a14, a15, a16, .int a17])), (a18, .inr (7, [.ref a19, .int a20, .int a21, .ref a22])), (a23, .inr (3, [.int a24, .int a25, .int a26, .int a27, a28, a29, a30, a31, .ref a32, .ref a33, .ref a34, .ref a35])), (a36, .inl (cy 1, 10, .inl a37)), (a38, .inl (cy 1, 10, .inl a39)), (a40, .inl (cy 1, 10, .inl a41)), (a42, .inl (cy 1, 10, .inl a43)), (a44, .inl (cy 1, 10, .inl a45))]
def wk_e4500ffd6 (cy : Nat → ClassId) (a0 : Nat) (a1 : Value) (a2 a3 a4 : Int32) (a5 : Value) (a6 : Nat) (a7 a8 a9 a10 a11 a12 a13 a14 a15 a16 : Value) (a17 : Int32) (a18 a19 : Nat) (a20 a21 : Int32) (a22 : Value) (a23 : Nat) (a24 a25 a26 a27 : Int32) (a28 a29 a30 a31 : Value) (a32 a33 : Nat) (a34 a35 : Value) (a36 : Nat) (a37 : Nat → Int32) (a38 : Nat) (a39 : Nat → Int32) : va_W := [(a0, .inr (11, [a1, .int a2, .int a3, .int a4, a5, .ref a6, a7, a8, a9, a10, a11, a12, a13, a14, a15, a16, .int a17])), (a18, .inr (7, [.ref a19, .int a20, .int a21, a22])), (a23, .inr (3, [.int a24, .int a25, .int a26, .int a27, a28, a29, a30, a31, .ref a32, .ref a33, a34, a35])), (a36, .inl (cy 1, 10, .inl a37)), (a38, .inl (cy 1, 10, .inl a39))]
def wk_2300276c7 (cy : Nat → ClassId) (a0 : Nat) (a1 : Value) (a2 a3 a4 : Int32) (a5 : Value) (a6 a7 : Nat) (a8 : Value) (a9 : Nat) (a10 a11 a12 : Value) (a13 : Nat) (a14 a15 a16 : Value) (a17 : Int32) (a18 a19 : Nat) (a20 a21 : Int32) (a22 a23 : Nat) (a24 a25 a26 a27 : Int32) (a28 a29 a30 : Value) (a31 a32 : Nat) (a33 a34 : Value) (a35 : Nat) (a36 : Nat → Int32) (a37 : Nat) (a38 : Nat → Int32) (a39 : Nat) (a40 : Nat → Int32) (a41 a42 : Nat) (a43 a44 : Int32) (a45 a46 : Nat) (a47 : Nat → Int32) (a48 : Nat) (a49 : Int32) (a50 a51 a52 : Nat) (a53 : Value) (a54 : Nat) (a55 : Nat → Int32) : va_W := [(a0, .inr (11, [a1, .int a2, .int a3, .int a4, a5, .ref a6, .ref a7, a8, .ref a9, a10, a11, a12, .ref a13, a14, a15, a16, .int a17])), (a18, .inr (7, [.ref a19, .int a20, .int a21, .ref a22])), (a23, .inr (3, [.int a24, .int a25, .int a26, .int a27, a28, a29, .null, a30, .ref a31, .ref a32, a33, a34])), (a35, .inl (cy 1, 10, .inl a36)), (a37, .inl (cy 1, 10, .inl a38)), (a39, .inl (cy 1, 10, .inl a40)), (a41, .inr (7, [.ref a42, .int a43, .int a44, .ref a45])), (a46, .inl (cy 1, 10, .inl a47)), (a48, .inr (2, [.int a49, .ref a50])), (a51, .inr (6, [.ref a52, a53])), (a54, .inl (cy 1, 11, .inl a55))]
def wk_6725115eb (cy : Nat → ClassId) (a0 : Nat) (a1 : Value) (a2 a3 a4 : Int32) (a5 : Value) (a6 a7 : Nat) (a8 : Value) (a9 : Nat) (a10 a11 a12 : Value) (a13 : Nat) (a14 a15 a16 : Value) (a17 : Int32) (a18 : Nat) (a19 : Nat → Int32) (a20 a21 : Nat) (a22 a23 : Int32) (a24 a25 : Nat) (a26 : Nat → Int32) (a27 : Nat) (a28 : Int32) (a29 a30 a31 : Nat) (a32 : Value) (a33 : Nat) (a34 : Nat → Int32) (a35 a36 : Nat) (a37 a38 : Int32) (a39 a40 : Nat) (a41 a42 a43 a44 : Int32) (a45 a46 a47 : Value) (a48 a49 : Nat) (a50 a51 : Value) (a52 : Nat) (a53 : Nat → Int32) (a54 : Nat) (a55 : Nat → Int32) : va_W := [(a0, .inr (11, [a1, .int a2, .int a3, .int a4, a5, .ref a6, .ref a7, a8, .ref a9, a10, a11, a12, .ref a13, a14, a15, a16, .int a17])), (a18, .inl (cy 1, 10, .inl a19)), (a20, .inr (7, [.ref a21, .int a22, .int a23, .ref a24])), (a25, .inl (cy 1, 10, .inl a26)), (a27, .inr (2, [.int a28, .ref a29])), (a30, .inr (6, [.ref a31, a32])), (a33, .inl (cy 1, 11, .inl a34)), (a35, .inr (7, [.ref a36, .int a37, .int a38, .ref a39])), (a40, .inr (3, [.int a41, .int a42, .int a43, .int a44, a45, a46, .null, a47, .ref a48, .ref a49, a50, a51])), (a52, .inl (cy 1, 10, .inl a53)), (a54, .inl (cy 1, 10, .inl a55))]
def wk_a3e2e2e56 (cy : Nat → ClassId) (a0 : Nat) (a1 : Value) (a2 a3 a4 : Int32) (a5 : Value) (a6 a7 : Nat) (a8 : Value) (a9 : Nat) (a10 a11 a12 : Value) (a13 : Nat) (a14 a15 a16 : Value) (a17 : Int32) (a18 : Nat) (a19 : Int32) (a20 a21 : Nat) (a22 : Nat → Int32) (a23 : Nat) (a24 : Nat → Int32) (a25 a26 : Nat) (a27 a28 : Int32) (a29 a30 : Nat) (a31 : Nat → Int32) : va_W := [(a0, .inr (11, [a1, .int a2, .int a3, .int a4, a5, .ref a6, .ref a7, a8, .ref a9, a10, a11, a12, .ref a13, a14, a15, a16, .int a17])), (a18, .inr (2, [.int a19, .ref a20])), (a21, .inl (cy 1, 10, .inl a22)), (a23, .inl (cy 1, 10, .inl a24)), (a25, .inr (7, [.ref a26, .int a27, .int a28, .ref a29])), (a30, .inl (cy 1, 10, .inl a31))]
def wk_e8304df9d (cy : Nat → ClassId) (a0 : Nat) (a1 : Value) (a2 a3 a4 : Int32) (a5 : Value) (a6 a7 : Nat) (a8 : Value) (a9 : Nat) (a10 a11 a12 : Value) (a13 : Nat) (a14 a15 a16 : Value) (a17 : Int32) (a18 a19 : Nat) (a20 a21 : Int32) (a22 a23 : Nat) (a24 a25 a26 a27 : Int32) (a28 a29 : Value) (a30 a31 : Nat) (a32 a33 : Value) (a34 : Nat) (a35 : Nat → Int32) (a36 : Nat) (a37 : Nat → Int32) (a38 : Nat) (a39 : Nat → Int32) (a40 a41 : Nat) (a42 a43 : Int32) (a44 a45 : Nat) (a46 : Nat → Int32) (a47 : Nat) (a48 : Int32) (a49 a50 a51 : Nat) (a52 : Value) (a53 : Nat) (a54 : Nat → Int32) : va_W := [(a0, .inr (11, [a1, .int a2, .int a3, .int a4, a5, .ref a6, .ref a7, a8, .ref a9, a10, a11, a12, .ref a13, a14, a15, a16, .int a17])), (a18, .inr (7, [.ref a19, .int a20, .int a21, .ref a22])), (a23, .inr (3, [.int a24, .int a25, .int a26, .int a27, .null, a28, .null, a29, .ref a30, .ref a31, a32, a33])), (a34, .inl (cy 1, 10, .inl a35)), (a36, .inl (cy 1, 10, .inl a37)), (a38, .inl (cy 1, 10, .inl a39)), (a40, .inr (7, [.ref a41, .int a42, .int a43, .ref a44])), (a45, .inl (cy 1, 10, .inl a46)), (a47, .inr (2, [.int a48, .ref a49])), (a50, .inr (6, [.ref a51, a52])), (a53, .inl (cy 1, 11, .inl a54))]
theorem wm_2_99 : Cond.fieldLink RX11 13 "OppositeHouse" "tapeLength" "I" ∈ WG := wg_t2 (List.mem_of_getElem? (i := 99) rfl) rfl
theorem wm_2_98 : Cond.fieldLink RX11 9 "OppositeHouse" "tape" "[B" ∈ WG := wg_t2 (List.mem_of_getElem? (i := 98) rfl) rfl
theorem wm_2_154 : Cond.methodLink RX11 101 yX11_putOnTape ∈ WG := wg_t2 (List.mem_of_getElem? (i := 154) rfl) rfl
theorem wm_2_157 : Cond.code yX11_putOnTape cX11_putOnTape 3 none ∈ WG := wg_t2 (List.mem_of_getElem? (i := 157) rfl) rfl
theorem wm_2_156 : Cond.instanceMethod yX11_putOnTape ∈ WG := wg_t2 (List.mem_of_getElem? (i := 156) rfl) rfl
theorem wp_1_0 : Cond.selects RX11 yX11_putOnTape yX11_putOnTape ∈ WG := wg_p (q := (yX11_putOnTape, 17)) (wg_p1 (List.mem_of_getElem? (i := 0) rfl)) rfl
theorem wm_1_107 : Cond.fieldLink RX11 134 "OppositeHouse$House" "first" "[I" ∈ WG := wg_t1 (List.mem_of_getElem? (i := 107) rfl) rfl
theorem wm_1_111 : Cond.fieldLink RX11 137 "OppositeHouse$House" "last" "[I" ∈ WG := wg_t1 (List.mem_of_getElem? (i := 111) rfl) rfl
theorem wm_1_114 : Cond.fieldLink RX11 146 "OppositeHouse$House" "temper" "[I" ∈ WG := wg_t1 (List.mem_of_getElem? (i := 114) rfl) rfl
theorem wm_1_117 : Cond.fieldLink RX11 149 "OppositeHouse$House" "weight" "[I" ∈ WG := wg_t1 (List.mem_of_getElem? (i := 117) rfl) rfl
theorem wm_2_49 : Cond.fieldLink RX11 152 "OppositeHouse$State" "away" "I" ∈ WG := wg_t2 (List.mem_of_getElem? (i := 49) rfl) rfl
theorem wm_3_191 : Cond.methodLink RX11 168 yX7_inTownOn ∈ WG := wg_t3 (List.mem_of_getElem? (i := 191) rfl) rfl
theorem wm_3_196 : Cond.methodLink RX11 172 yX6_areOpposites ∈ WG := wg_t3 (List.mem_of_getElem? (i := 196) rfl) rfl
theorem wm_1_89 : Cond.fieldLink RX11 119 "OppositeHouse$House" "textLines" "I" ∈ WG := wg_t1 (List.mem_of_getElem? (i := 89) rfl) rfl
theorem wm_4_22 : Cond.methodLink RX11 206 yX7_carryOut ∈ WG := wg_t4 (List.mem_of_getElem? (i := 22) rfl) rfl
theorem wm_4_39 : Cond.methodLink RX11 210 yX11_remember ∈ WG := wg_t4 (List.mem_of_getElem? (i := 39) rfl) rfl
theorem wm_4_42 : Cond.code yX11_remember cX11_remember 1 none ∈ WG := wg_t4 (List.mem_of_getElem? (i := 42) rfl) rfl
theorem wm_4_41 : Cond.instanceMethod yX11_remember ∈ WG := wg_t4 (List.mem_of_getElem? (i := 41) rfl) rfl
theorem wp_2_15 : Cond.selects RX11 yX11_remember yX11_remember ∈ WG := wg_p (q := (yX11_remember, 17)) (wg_p2 (List.mem_of_getElem? (i := 15) rfl)) rfl
theorem wm_4_0 : Cond.methodLink RX11 184 yX11_doAlone ∈ WG := wg_t4 (List.mem_of_getElem? (i := 0) rfl) rfl
theorem wm_4_3 : Cond.code yX11_doAlone cX11_doAlone 3 (some .int) ∈ WG := wg_t4 (List.mem_of_getElem? (i := 3) rfl) rfl
theorem wm_4_2 : Cond.instanceMethod yX11_doAlone ∈ WG := wg_t4 (List.mem_of_getElem? (i := 2) rfl) rfl
theorem wp_2_12 : Cond.selects RX11 yX11_doAlone yX11_doAlone ∈ WG := wg_p (q := (yX11_doAlone, 17)) (wg_p2 (List.mem_of_getElem? (i := 12) rfl)) rfl
theorem wm_4_48 : Cond.methodLink RX11 187 yX11_opposites ∈ WG := wg_t4 (List.mem_of_getElem? (i := 48) rfl) rfl
theorem wm_3_226 : Cond.code yX11_opposites cX11_opposites 2 (some .int) ∈ WG := wg_t3 (List.mem_of_getElem? (i := 226) rfl) rfl
theorem wm_3_224 : Cond.instanceMethod yX11_opposites ∈ WG := wg_t3 (List.mem_of_getElem? (i := 224) rfl) rfl
theorem wm_3_225 : Cond.selects RX11 yX11_opposites yX11_opposites ∈ WG := wg_t3 (List.mem_of_getElem? (i := 225) rfl) rfl
theorem wm_1_86 : Cond.fieldLink RX5 107 "OppositeHouse$House" "people" "I" ∈ WG := wg_t1 (List.mem_of_getElem? (i := 86) rfl) rfl
theorem wm_1_76 : Cond.fieldLink RX5 63 "OppositeHouse$House" "lines" "I" ∈ WG := wg_t1 (List.mem_of_getElem? (i := 76) rfl) rfl
theorem wm_1_104 : Cond.fieldLink RX5 110 "OppositeHouse$House" "views" "[I" ∈ WG := wg_t1 (List.mem_of_getElem? (i := 104) rfl) rfl
theorem wm_3_92 : Cond.constant RX5 119 (1000000) ∈ WG := wg_t3 (List.mem_of_getElem? (i := 92) rfl) rfl
theorem wm_3_93 : Cond.methodLink RX5 126 yX5_readFlag ∈ WG := wg_t3 (List.mem_of_getElem? (i := 93) rfl) rfl
theorem wm_3_96 : Cond.code yX5_readFlag cX5_readFlag 2 (some .boolean) ∈ WG := wg_t3 (List.mem_of_getElem? (i := 96) rfl) rfl
theorem wm_3_95 : Cond.instanceMethod yX5_readFlag ∈ WG := wg_t3 (List.mem_of_getElem? (i := 95) rfl) rfl
theorem wp_1_14 : Cond.selects RX5 yX5_readFlag yX5_readFlag ∈ WG := wg_p (q := (yX5_readFlag, 9)) (wg_p1 (List.mem_of_getElem? (i := 14) rfl)) rfl
theorem wm_3_133 : Cond.classLink RX5 136 RX4 ∈ WG := wg_t3 (List.mem_of_getElem? (i := 133) rfl) rfl
theorem wm_3_134 : Cond.instantiable RX4 1 ∈ WG := wg_t3 (List.mem_of_getElem? (i := 134) rfl) rfl
theorem wm_3_138 : Cond.methodLink RX4 3 Lib.objectInit ∈ WG := wg_t3 (List.mem_of_getElem? (i := 138) rfl) rfl
theorem wm_1_29 : Cond.instanceMethod Lib.objectInit ∈ WG := wg_t1 (List.mem_of_getElem? (i := 29) rfl) rfl
theorem wm_1_30 : Cond.code Lib.objectInit ⟨#[0xb1]⟩ 1 none ∈ WG := wg_t1 (List.mem_of_getElem? (i := 30) rfl) rfl
theorem wm_1_67 : Cond.arrayClass .int ∈ WG := wg_t1 (List.mem_of_getElem? (i := 67) rfl) rfl
theorem wm_3_149 : Cond.methodLink RJ7 304 yJ9_min_7cf53 ∈ WG := wg_t3 (List.mem_of_getElem? (i := 149) rfl) rfl
theorem wm_3_150 : Cond.methodLink RJ7 150 arraycopyName ∈ WG := wg_t3 (List.mem_of_getElem? (i := 150) rfl) rfl
theorem wm_3_139 : Cond.methodLink RX4 9 yJ7_copyOf_59c91 ∈ WG := wg_t3 (List.mem_of_getElem? (i := 139) rfl) rfl
theorem wm_3_141 : Cond.code yJ7_copyOf_59c91 cJ7_copyOf_59c91 3 (some (.array .int)) ∈ WG := wg_t3 (List.mem_of_getElem? (i := 141) rfl) rfl
theorem wm_3_140 : Cond.static yJ7_copyOf_59c91 ∈ WG := wg_t3 (List.mem_of_getElem? (i := 140) rfl) rfl
theorem wm_3_135 : Cond.methodLink RX5 138 yX4_init ∈ WG := wg_t3 (List.mem_of_getElem? (i := 135) rfl) rfl
theorem wm_3_137 : Cond.code yX4_init cX4_init 3 none ∈ WG := wg_t3 (List.mem_of_getElem? (i := 137) rfl) rfl
theorem wm_3_136 : Cond.instanceMethod yX4_init ∈ WG := wg_t3 (List.mem_of_getElem? (i := 136) rfl) rfl
theorem wm_1_92 : Cond.fieldLink RX5 104 "OppositeHouse$House" "startDay" "I" ∈ WG := wg_t1 (List.mem_of_getElem? (i := 92) rfl) rfl
theorem wm_3_88 : Cond.methodLink RX5 87 yX5_readPerson ∈ WG := wg_t3 (List.mem_of_getElem? (i := 88) rfl) rfl
theorem wm_3_91 : Cond.code yX5_readPerson cX5_readPerson 5 none ∈ WG := wg_t3 (List.mem_of_getElem? (i := 91) rfl) rfl
theorem wm_3_90 : Cond.instanceMethod yX5_readPerson ∈ WG := wg_t3 (List.mem_of_getElem? (i := 90) rfl) rfl
theorem wp_1_13 : Cond.selects RX5 yX5_readPerson yX5_readPerson ∈ WG := wg_p (q := (yX5_readPerson, 9)) (wg_p1 (List.mem_of_getElem? (i := 13) rfl)) rfl
theorem wm_1_95 : Cond.fieldLink RX5 90 "OppositeHouse$House" "opposing" "LOppositeHouse$Law;" ∈ WG := wg_t1 (List.mem_of_getElem? (i := 95) rfl) rfl
theorem wm_3_97 : Cond.methodLink RX5 94 yX5_readLaw ∈ WG := wg_t3 (List.mem_of_getElem? (i := 97) rfl) rfl
theorem wm_3_100 : Cond.code yX5_readLaw cX5_readLaw 4 (some (.object "OppositeHouse$Law")) ∈ WG := wg_t3 (List.mem_of_getElem? (i := 100) rfl) rfl
theorem wm_3_99 : Cond.instanceMethod yX5_readLaw ∈ WG := wg_t3 (List.mem_of_getElem? (i := 99) rfl) rfl
theorem wp_1_15 : Cond.selects RX5 yX5_readLaw yX5_readLaw ∈ WG := wg_p (q := (yX5_readLaw, 9)) (wg_p1 (List.mem_of_getElem? (i := 15) rfl)) rfl
theorem wm_1_98 : Cond.fieldLink RX5 98 "OppositeHouse$House" "saying" "LOppositeHouse$Law;" ∈ WG := wg_t1 (List.mem_of_getElem? (i := 98) rfl) rfl
theorem wm_1_101 : Cond.fieldLink RX5 101 "OppositeHouse$House" "swaying" "LOppositeHouse$Law;" ∈ WG := wg_t1 (List.mem_of_getElem? (i := 101) rfl) rfl
theorem wm_2_166 : Cond.methodLink RX5 48 yX8_cut ∈ WG := wg_t2 (List.mem_of_getElem? (i := 166) rfl) rfl
theorem wm_2_169 : Cond.code yX8_cut cX8_cut 7 none ∈ WG := wg_t2 (List.mem_of_getElem? (i := 169) rfl) rfl
theorem wm_2_167 : Cond.instanceMethod yX8_cut ∈ WG := wg_t2 (List.mem_of_getElem? (i := 167) rfl) rfl
theorem wm_2_168 : Cond.selects RX8 yX8_cut yX8_cut ∈ WG := wg_t2 (List.mem_of_getElem? (i := 168) rfl) rfl
theorem wm_1_68 : Cond.classLink RX5 31 RX3 ∈ WG := wg_t1 (List.mem_of_getElem? (i := 68) rfl) rfl
theorem wm_1_69 : Cond.instantiable RX3 12 ∈ WG := wg_t1 (List.mem_of_getElem? (i := 69) rfl) rfl
theorem wm_1_4 : Cond.initialized RX3 ∈ WG := wg_t1 (List.mem_of_getElem? (i := 4) rfl) rfl
theorem wm_1_73 : Cond.methodLink RX3 3 Lib.objectInit ∈ WG := wg_t1 (List.mem_of_getElem? (i := 73) rfl) rfl
theorem wm_1_74 : Cond.fieldLink RX3 9 "OppositeHouse$House" "lines" "I" ∈ WG := wg_t1 (List.mem_of_getElem? (i := 74) rfl) rfl
theorem wm_1_79 : Cond.fieldLink RX3 15 "OppositeHouse$House" "people" "I" ∈ WG := wg_t1 (List.mem_of_getElem? (i := 79) rfl) rfl
theorem wm_1_87 : Cond.fieldLink RX3 18 "OppositeHouse$House" "textLines" "I" ∈ WG := wg_t1 (List.mem_of_getElem? (i := 87) rfl) rfl
theorem wm_1_90 : Cond.fieldLink RX3 21 "OppositeHouse$House" "startDay" "I" ∈ WG := wg_t1 (List.mem_of_getElem? (i := 90) rfl) rfl
theorem wm_1_93 : Cond.fieldLink RX3 24 "OppositeHouse$House" "opposing" "LOppositeHouse$Law;" ∈ WG := wg_t1 (List.mem_of_getElem? (i := 93) rfl) rfl
theorem wm_1_96 : Cond.fieldLink RX3 28 "OppositeHouse$House" "saying" "LOppositeHouse$Law;" ∈ WG := wg_t1 (List.mem_of_getElem? (i := 96) rfl) rfl
theorem wm_1_99 : Cond.fieldLink RX3 31 "OppositeHouse$House" "swaying" "LOppositeHouse$Law;" ∈ WG := wg_t1 (List.mem_of_getElem? (i := 99) rfl) rfl
theorem wm_1_102 : Cond.fieldLink RX3 34 "OppositeHouse$House" "views" "[I" ∈ WG := wg_t1 (List.mem_of_getElem? (i := 102) rfl) rfl
theorem wm_1_105 : Cond.fieldLink RX3 38 "OppositeHouse$House" "first" "[I" ∈ WG := wg_t1 (List.mem_of_getElem? (i := 105) rfl) rfl
theorem wm_1_109 : Cond.fieldLink RX3 41 "OppositeHouse$House" "last" "[I" ∈ WG := wg_t1 (List.mem_of_getElem? (i := 109) rfl) rfl
theorem wm_1_113 : Cond.fieldLink RX3 44 "OppositeHouse$House" "temper" "[I" ∈ WG := wg_t1 (List.mem_of_getElem? (i := 113) rfl) rfl
theorem wm_1_116 : Cond.fieldLink RX3 47 "OppositeHouse$House" "weight" "[I" ∈ WG := wg_t1 (List.mem_of_getElem? (i := 116) rfl) rfl
theorem wm_1_72 : Cond.code yX3_init cX3_init 1 none ∈ WG := wg_t1 (List.mem_of_getElem? (i := 72) rfl) rfl
theorem wm_1_71 : Cond.instanceMethod yX3_init ∈ WG := wg_t1 (List.mem_of_getElem? (i := 71) rfl) rfl
theorem wm_1_88 : Cond.fieldLink RX5 66 "OppositeHouse$House" "textLines" "I" ∈ WG := wg_t1 (List.mem_of_getElem? (i := 88) rfl) rfl
theorem wm_3_84 : Cond.methodLink RX5 72 yX5_readLine ∈ WG := wg_t3 (List.mem_of_getElem? (i := 84) rfl) rfl
theorem wm_3_87 : Cond.code yX5_readLine cX5_readLine 1 none ∈ WG := wg_t3 (List.mem_of_getElem? (i := 87) rfl) rfl
theorem wm_3_86 : Cond.instanceMethod yX5_readLine ∈ WG := wg_t3 (List.mem_of_getElem? (i := 86) rfl) rfl
theorem wp_1_12 : Cond.selects RX5 yX5_readLine yX5_readLine ∈ WG := wg_p (q := (yX5_readLine, 9)) (wg_p1 (List.mem_of_getElem? (i := 12) rfl)) rfl
theorem wm_2_102 : Cond.fieldLink RX11 26 "OppositeHouse" "reader" "LOppositeHouse$Reader;" ∈ WG := wg_t2 (List.mem_of_getElem? (i := 102) rfl) rfl
theorem wm_2_162 : Cond.methodLink RX11 105 yX5_read ∈ WG := wg_t2 (List.mem_of_getElem? (i := 162) rfl) rfl
theorem wm_2_165 : Cond.code yX5_read cX5_read 4 (some (.object "OppositeHouse$House")) ∈ WG := wg_t2 (List.mem_of_getElem? (i := 165) rfl) rfl
theorem wm_2_163 : Cond.instanceMethod yX5_read ∈ WG := wg_t2 (List.mem_of_getElem? (i := 163) rfl) rfl
theorem wm_2_164 : Cond.selects RX5 yX5_read yX5_read ∈ WG := wg_t2 (List.mem_of_getElem? (i := 164) rfl) rfl
theorem wm_1_148 : Cond.fieldLink RX11 109 "OppositeHouse$Reader" "fault" "I" ∈ WG := wg_t1 (List.mem_of_getElem? (i := 148) rfl) rfl
theorem wm_1_150 : Cond.fieldLink RX11 112 "OppositeHouse$Reader" "faultPlace" "I" ∈ WG := wg_t1 (List.mem_of_getElem? (i := 150) rfl) rfl
theorem wm_1_91 : Cond.fieldLink RX7 26 "OppositeHouse$House" "startDay" "I" ∈ WG := wg_t1 (List.mem_of_getElem? (i := 91) rfl) rfl
theorem wm_1_103 : Cond.fieldLink RX7 31 "OppositeHouse$House" "views" "[I" ∈ WG := wg_t1 (List.mem_of_getElem? (i := 103) rfl) rfl
theorem wm_3_157 : Cond.methodLink RX11 113 yX7_begin ∈ WG := wg_t3 (List.mem_of_getElem? (i := 157) rfl) rfl
theorem wm_3_160 : Cond.code yX7_begin cX7_begin 2 none ∈ WG := wg_t3 (List.mem_of_getElem? (i := 160) rfl) rfl
theorem wm_3_158 : Cond.instanceMethod yX7_begin ∈ WG := wg_t3 (List.mem_of_getElem? (i := 158) rfl) rfl
theorem wm_3_159 : Cond.selects RX7 yX7_begin yX7_begin ∈ WG := wg_t3 (List.mem_of_getElem? (i := 159) rfl) rfl
theorem df_3 : ∀ j, j < 12 → defaultValue (tyX3 j) = vp_V [.int 0, .int 0, .int 0, .int 0, .null, .null, .null, .null, .null, .null, .null, .null] j := by
  intro k hk
  match k, hk with
  | 0, _ => rfl
  | 1, _ => rfl
  | 2, _ => rfl
  | 3, _ => rfl
  | 4, _ => rfl
  | 5, _ => rfl
  | 6, _ => rfl
  | 7, _ => rfl
  | 8, _ => rfl
  | 9, _ => rfl
  | 10, _ => rfl
  | 11, _ => rfl
  | n + 12, hk => exact absurd hk (by omega)
theorem df_4 : ∀ j, j < 1 → defaultValue (tyX4 j) = vp_V [.null] j := by
  intro k hk
  match k, hk with
  | 0, _ => rfl
  | n + 1, hk => exact absurd hk (by omega)
theorem hd_X11_putOnTape : yX11_putOnTape.cls ≠ "java/lang/invoke/MethodHandle" ∧ yX11_putOnTape.cls ≠ "java/lang/invoke/VarHandle" ∧ (parseMethodDescriptor yX11_putOnTape.desc).map (fun d => d.parameters.length) = some 1 := by decide +kernel
theorem hd_X11_remember : yX11_remember.cls ≠ "java/lang/invoke/MethodHandle" ∧ yX11_remember.cls ≠ "java/lang/invoke/VarHandle" ∧ (parseMethodDescriptor yX11_remember.desc).map (fun d => d.parameters.length) = some 0 := by decide +kernel
theorem hd_X11_doAlone : yX11_doAlone.cls ≠ "java/lang/invoke/MethodHandle" ∧ yX11_doAlone.cls ≠ "java/lang/invoke/VarHandle" ∧ (parseMethodDescriptor yX11_doAlone.desc).map (fun d => d.parameters.length) = some 1 := by decide +kernel
theorem hd_X11_opposites : yX11_opposites.cls ≠ "java/lang/invoke/MethodHandle" ∧ yX11_opposites.cls ≠ "java/lang/invoke/VarHandle" ∧ (parseMethodDescriptor yX11_opposites.desc).map (fun d => d.parameters.length) = some 1 := by decide +kernel
theorem hd_X5_readFlag : yX5_readFlag.cls ≠ "java/lang/invoke/MethodHandle" ∧ yX5_readFlag.cls ≠ "java/lang/invoke/VarHandle" ∧ (parseMethodDescriptor yX5_readFlag.desc).map (fun d => d.parameters.length) = some 1 := by decide +kernel
theorem hd_J7_copyOf_59c91 : yJ7_copyOf_59c91.cls ≠ "java/lang/invoke/MethodHandle" ∧ yJ7_copyOf_59c91.cls ≠ "java/lang/invoke/VarHandle" ∧ (parseMethodDescriptor yJ7_copyOf_59c91.desc).map (fun d => d.parameters.length) = some 2 := by decide +kernel
theorem hd_X4_init : yX4_init.cls ≠ "java/lang/invoke/MethodHandle" ∧ yX4_init.cls ≠ "java/lang/invoke/VarHandle" ∧ (parseMethodDescriptor yX4_init.desc).map (fun d => d.parameters.length) = some 2 := by decide +kernel
theorem hd_X5_readPerson : yX5_readPerson.cls ≠ "java/lang/invoke/MethodHandle" ∧ yX5_readPerson.cls ≠ "java/lang/invoke/VarHandle" ∧ (parseMethodDescriptor yX5_readPerson.desc).map (fun d => d.parameters.length) = some 0 := by decide +kernel
theorem hd_X5_readLaw : yX5_readLaw.cls ≠ "java/lang/invoke/MethodHandle" ∧ yX5_readLaw.cls ≠ "java/lang/invoke/VarHandle" ∧ (parseMethodDescriptor yX5_readLaw.desc).map (fun d => d.parameters.length) = some 2 := by decide +kernel
theorem hd_X8_cut : yX8_cut.cls ≠ "java/lang/invoke/MethodHandle" ∧ yX8_cut.cls ≠ "java/lang/invoke/VarHandle" ∧ (parseMethodDescriptor yX8_cut.desc).map (fun d => d.parameters.length) = some 2 := by decide +kernel
theorem hd_X3_init : yX3_init.cls ≠ "java/lang/invoke/MethodHandle" ∧ yX3_init.cls ≠ "java/lang/invoke/VarHandle" ∧ (parseMethodDescriptor yX3_init.desc).map (fun d => d.parameters.length) = some 0 := by decide +kernel
theorem hd_X5_readLine : yX5_readLine.cls ≠ "java/lang/invoke/MethodHandle" ∧ yX5_readLine.cls ≠ "java/lang/invoke/VarHandle" ∧ (parseMethodDescriptor yX5_readLine.desc).map (fun d => d.parameters.length) = some 0 := by decide +kernel
theorem hd_X5_read : yX5_read.cls ≠ "java/lang/invoke/MethodHandle" ∧ yX5_read.cls ≠ "java/lang/invoke/VarHandle" ∧ (parseMethodDescriptor yX5_read.desc).map (fun d => d.parameters.length) = some 2 := by decide +kernel
theorem hd_X7_begin : yX7_begin.cls ≠ "java/lang/invoke/MethodHandle" ∧ yX7_begin.cls ≠ "java/lang/invoke/VarHandle" ∧ (parseMethodDescriptor yX7_begin.desc).map (fun d => d.parameters.length) = some 1 := by decide +kernel
theorem dJ7_copyOf_59c91_0 : decode cJ7_copyOf_59c91 0 = .ok (.iload_n 1, 1) := by decide +kernel
theorem dJ7_copyOf_59c91_1 : decode cJ7_copyOf_59c91 1 = .ok (.aload_n 0, 1) := by decide +kernel
theorem dJ7_copyOf_59c91_2 : decode cJ7_copyOf_59c91 2 = .ok (.arraylength, 1) := by decide +kernel
theorem dJ7_copyOf_59c91_3 : decode cJ7_copyOf_59c91 3 = .ok (.if_icmp .ne 11, 3) := by decide +kernel
theorem dJ7_copyOf_59c91_6 : decode cJ7_copyOf_59c91 6 = .ok (.aload_n 0, 1) := by decide +kernel
theorem dJ7_copyOf_59c91_7 : decode cJ7_copyOf_59c91 7 = .ok (.invokevirtual 316, 3) := by decide +kernel
theorem dJ7_copyOf_59c91_10 : decode cJ7_copyOf_59c91 10 = .ok (.checkcast 317, 3) := by decide +kernel
theorem dJ7_copyOf_59c91_13 : decode cJ7_copyOf_59c91 13 = .ok (.areturn, 1) := by decide +kernel
theorem dJ7_copyOf_59c91_14 : decode cJ7_copyOf_59c91 14 = .ok (.iload_n 1, 1) := by decide +kernel
theorem dJ7_copyOf_59c91_15 : decode cJ7_copyOf_59c91 15 = .ok (.newarray .int, 2) := by decide +kernel
theorem dJ7_copyOf_59c91_17 : decode cJ7_copyOf_59c91 17 = .ok (.astore_n 2, 1) := by decide +kernel
theorem dJ7_copyOf_59c91_18 : decode cJ7_copyOf_59c91 18 = .ok (.aload_n 0, 1) := by decide +kernel
theorem dJ7_copyOf_59c91_19 : decode cJ7_copyOf_59c91 19 = .ok (.iconst 0, 1) := by decide +kernel
theorem dJ7_copyOf_59c91_20 : decode cJ7_copyOf_59c91 20 = .ok (.aload_n 2, 1) := by decide +kernel
theorem dJ7_copyOf_59c91_21 : decode cJ7_copyOf_59c91 21 = .ok (.iconst 0, 1) := by decide +kernel
theorem dJ7_copyOf_59c91_22 : decode cJ7_copyOf_59c91 22 = .ok (.aload_n 0, 1) := by decide +kernel
theorem dJ7_copyOf_59c91_23 : decode cJ7_copyOf_59c91 23 = .ok (.arraylength, 1) := by decide +kernel
theorem dJ7_copyOf_59c91_24 : decode cJ7_copyOf_59c91 24 = .ok (.iload_n 1, 1) := by decide +kernel
theorem dJ7_copyOf_59c91_25 : decode cJ7_copyOf_59c91 25 = .ok (.invokestatic 304, 3) := by decide +kernel
theorem dJ7_copyOf_59c91_28 : decode cJ7_copyOf_59c91 28 = .ok (.invokestatic 150, 3) := by decide +kernel
theorem dJ7_copyOf_59c91_31 : decode cJ7_copyOf_59c91 31 = .ok (.aload_n 2, 1) := by decide +kernel
theorem dJ7_copyOf_59c91_32 : decode cJ7_copyOf_59c91 32 = .ok (.areturn, 1) := by decide +kernel
theorem dX11_doAlone_0 : decode cX11_doAlone 0 = .ok (.aload_n 0, 1) := by decide +kernel
theorem dX11_doAlone_1 : decode cX11_doAlone 1 = .ok (.getfield 83, 3) := by decide +kernel
theorem dX11_doAlone_4 : decode cX11_doAlone 4 = .ok (.iload_n 1, 1) := by decide +kernel
theorem dX11_doAlone_5 : decode cX11_doAlone 5 = .ok (.i2l, 1) := by decide +kernel
theorem dX11_doAlone_6 : decode cX11_doAlone 6 = .ok (.invokevirtual 198, 3) := by decide +kernel
theorem dX11_doAlone_9 : decode cX11_doAlone 9 = .ok (.istore_n 2, 1) := by decide +kernel
theorem dX11_doAlone_10 : decode cX11_doAlone 10 = .ok (.iload_n 2, 1) := by decide +kernel
theorem dX11_doAlone_11 : decode cX11_doAlone 11 = .ok (.ifCond .ne 31, 3) := by decide +kernel
theorem dX11_doAlone_14 : decode cX11_doAlone 14 = .ok (.aload_n 0, 1) := by decide +kernel
theorem dX11_doAlone_15 : decode cX11_doAlone 15 = .ok (.getfield 87, 3) := by decide +kernel
theorem dX11_doAlone_18 : decode cX11_doAlone 18 = .ok (.aload_n 0, 1) := by decide +kernel
theorem dX11_doAlone_19 : decode cX11_doAlone 19 = .ok (.getfield 83, 3) := by decide +kernel
theorem dX11_doAlone_22 : decode cX11_doAlone 22 = .ok (.invokevirtual 202, 3) := by decide +kernel
theorem dX11_doAlone_25 : decode cX11_doAlone 25 = .ok (.aload_n 0, 1) := by decide +kernel
theorem dX11_doAlone_26 : decode cX11_doAlone 26 = .ok (.getfield 83, 3) := by decide +kernel
theorem dX11_doAlone_29 : decode cX11_doAlone 29 = .ok (.iload_n 1, 1) := by decide +kernel
theorem dX11_doAlone_30 : decode cX11_doAlone 30 = .ok (.i2l, 1) := by decide +kernel
theorem dX11_doAlone_31 : decode cX11_doAlone 31 = .ok (.aload_n 0, 1) := by decide +kernel
theorem dX11_doAlone_32 : decode cX11_doAlone 32 = .ok (.getfield 49, 3) := by decide +kernel
theorem dX11_doAlone_35 : decode cX11_doAlone 35 = .ok (.invokevirtual 206, 3) := by decide +kernel
theorem dX11_doAlone_38 : decode cX11_doAlone 38 = .ok (.aload_n 0, 1) := by decide +kernel
theorem dX11_doAlone_39 : decode cX11_doAlone 39 = .ok (.invokevirtual 210, 3) := by decide +kernel
theorem dX11_doAlone_42 : decode cX11_doAlone 42 = .ok (.iload_n 2, 1) := by decide +kernel
theorem dX11_doAlone_43 : decode cX11_doAlone 43 = .ok (.ireturn, 1) := by decide +kernel
theorem dX11_feed_0 : decode cX11_feed 0 = .ok (.aload_n 0, 1) := by decide +kernel
theorem dX11_feed_1 : decode cX11_feed 1 = .ok (.getfield 13, 3) := by decide +kernel
theorem dX11_feed_4 : decode cX11_feed 4 = .ok (.bipush 20, 2) := by decide +kernel
theorem dX11_feed_6 : decode cX11_feed 6 = .ok (.iadd, 1) := by decide +kernel
theorem dX11_feed_7 : decode cX11_feed 7 = .ok (.sipush 900, 3) := by decide +kernel
theorem dX11_feed_10 : decode cX11_feed 10 = .ok (.if_icmp .le 6, 3) := by decide +kernel
theorem dX11_feed_13 : decode cX11_feed 13 = .ok (.bipush (-5), 2) := by decide +kernel
theorem dX11_feed_15 : decode cX11_feed 15 = .ok (.ireturn, 1) := by decide +kernel
theorem dX11_feed_16 : decode cX11_feed 16 = .ok (.aload_n 0, 1) := by decide +kernel
theorem dX11_feed_17 : decode cX11_feed 17 = .ok (.iload_n 1, 1) := by decide +kernel
theorem dX11_feed_18 : decode cX11_feed 18 = .ok (.invokevirtual 101, 3) := by decide +kernel
theorem dX11_feed_21 : decode cX11_feed 21 = .ok (.aload_n 0, 1) := by decide +kernel
theorem dX11_feed_22 : decode cX11_feed 22 = .ok (.iload_n 2, 1) := by decide +kernel
theorem dX11_feed_23 : decode cX11_feed 23 = .ok (.invokevirtual 101, 3) := by decide +kernel
theorem dX11_feed_26 : decode cX11_feed 26 = .ok (.aload_n 0, 1) := by decide +kernel
theorem dX11_feed_27 : decode cX11_feed 27 = .ok (.iload_n 3, 1) := by decide +kernel
theorem dX11_feed_28 : decode cX11_feed 28 = .ok (.invokevirtual 101, 3) := by decide +kernel
theorem dX11_feed_31 : decode cX11_feed 31 = .ok (.aload_n 0, 1) := by decide +kernel
theorem dX11_feed_32 : decode cX11_feed 32 = .ok (.iload 4, 2) := by decide +kernel
theorem dX11_feed_34 : decode cX11_feed 34 = .ok (.invokevirtual 101, 3) := by decide +kernel
theorem dX11_feed_37 : decode cX11_feed 37 = .ok (.aload_n 0, 1) := by decide +kernel
theorem dX11_feed_38 : decode cX11_feed 38 = .ok (.iload 5, 2) := by decide +kernel
theorem dX11_feed_40 : decode cX11_feed 40 = .ok (.invokevirtual 101, 3) := by decide +kernel
theorem dX11_feed_43 : decode cX11_feed 43 = .ok (.aload_n 0, 1) := by decide +kernel
theorem dX11_feed_44 : decode cX11_feed 44 = .ok (.getfield 13, 3) := by decide +kernel
theorem dX11_feed_47 : decode cX11_feed 47 = .ok (.ireturn, 1) := by decide +kernel
theorem dX11_house_0 : decode cX11_house 0 = .ok (.iload_n 1, 1) := by decide +kernel
theorem dX11_house_1 : decode cX11_house 1 = .ok (.ifCond .lt 11, 3) := by decide +kernel
theorem dX11_house_4 : decode cX11_house 4 = .ok (.iload_n 1, 1) := by decide +kernel
theorem dX11_house_5 : decode cX11_house 5 = .ok (.aload_n 0, 1) := by decide +kernel
theorem dX11_house_6 : decode cX11_house 6 = .ok (.getfield 13, 3) := by decide +kernel
theorem dX11_house_9 : decode cX11_house 9 = .ok (.if_icmp .le 6, 3) := by decide +kernel
theorem dX11_house_12 : decode cX11_house 12 = .ok (.bipush (-3), 2) := by decide +kernel
theorem dX11_house_14 : decode cX11_house 14 = .ok (.ireturn, 1) := by decide +kernel
theorem dX11_house_15 : decode cX11_house 15 = .ok (.aload_n 0, 1) := by decide +kernel
theorem dX11_house_16 : decode cX11_house 16 = .ok (.iconst 0, 1) := by decide +kernel
theorem dX11_house_17 : decode cX11_house 17 = .ok (.putfield 13, 3) := by decide +kernel
theorem dX11_house_20 : decode cX11_house 20 = .ok (.aload_n 0, 1) := by decide +kernel
theorem dX11_house_21 : decode cX11_house 21 = .ok (.getfield 26, 3) := by decide +kernel
theorem dX11_house_24 : decode cX11_house 24 = .ok (.aload_n 0, 1) := by decide +kernel
theorem dX11_house_25 : decode cX11_house 25 = .ok (.getfield 9, 3) := by decide +kernel
theorem dX11_house_28 : decode cX11_house 28 = .ok (.iload_n 1, 1) := by decide +kernel
theorem dX11_house_29 : decode cX11_house 29 = .ok (.invokevirtual 105, 3) := by decide +kernel
theorem dX11_house_32 : decode cX11_house 32 = .ok (.astore_n 2, 1) := by decide +kernel
theorem dX11_house_33 : decode cX11_house 33 = .ok (.aload_n 0, 1) := by decide +kernel
theorem dX11_house_34 : decode cX11_house 34 = .ok (.aload_n 0, 1) := by decide +kernel
theorem dX11_house_35 : decode cX11_house 35 = .ok (.getfield 26, 3) := by decide +kernel
theorem dX11_house_38 : decode cX11_house 38 = .ok (.getfield 109, 3) := by decide +kernel
theorem dX11_house_41 : decode cX11_house 41 = .ok (.putfield 17, 3) := by decide +kernel
theorem dX11_house_44 : decode cX11_house 44 = .ok (.aload_n 0, 1) := by decide +kernel
theorem dX11_house_45 : decode cX11_house 45 = .ok (.aload_n 0, 1) := by decide +kernel
theorem dX11_house_46 : decode cX11_house 46 = .ok (.getfield 26, 3) := by decide +kernel
theorem dX11_house_49 : decode cX11_house 49 = .ok (.getfield 112, 3) := by decide +kernel
theorem dX11_house_52 : decode cX11_house 52 = .ok (.putfield 20, 3) := by decide +kernel
theorem dX11_house_55 : decode cX11_house 55 = .ok (.aload_n 0, 1) := by decide +kernel
theorem dX11_house_56 : decode cX11_house 56 = .ok (.getfield 17, 3) := by decide +kernel
theorem dX11_house_59 : decode cX11_house 59 = .ok (.ifCond .eq 11, 3) := by decide +kernel
theorem dX11_house_62 : decode cX11_house 62 = .ok (.bipush (-30), 2) := by decide +kernel
theorem dX11_house_64 : decode cX11_house 64 = .ok (.aload_n 0, 1) := by decide +kernel
theorem dX11_house_65 : decode cX11_house 65 = .ok (.getfield 17, 3) := by decide +kernel
theorem dX11_house_68 : decode cX11_house 68 = .ok (.isub, 1) := by decide +kernel
theorem dX11_house_69 : decode cX11_house 69 = .ok (.ireturn, 1) := by decide +kernel
theorem dX11_house_70 : decode cX11_house 70 = .ok (.aload_n 0, 1) := by decide +kernel
theorem dX11_house_71 : decode cX11_house 71 = .ok (.getfield 83, 3) := by decide +kernel
theorem dX11_house_74 : decode cX11_house 74 = .ok (.aload_n 2, 1) := by decide +kernel
theorem dX11_house_75 : decode cX11_house 75 = .ok (.invokevirtual 113, 3) := by decide +kernel
theorem dX11_house_78 : decode cX11_house 78 = .ok (.aload_n 0, 1) := by decide +kernel
theorem dX11_house_79 : decode cX11_house 79 = .ok (.getfield 96, 3) := by decide +kernel
theorem dX11_house_82 : decode cX11_house 82 = .ok (.invokevirtual 116, 3) := by decide +kernel
theorem dX11_house_85 : decode cX11_house 85 = .ok (.aload_n 0, 1) := by decide +kernel
theorem dX11_house_86 : decode cX11_house 86 = .ok (.dup, 1) := by decide +kernel
theorem dX11_house_87 : decode cX11_house 87 = .ok (.getfield 74, 3) := by decide +kernel
theorem dX11_house_90 : decode cX11_house 90 = .ok (.iconst 1, 1) := by decide +kernel
theorem dX11_house_91 : decode cX11_house 91 = .ok (.iadd, 1) := by decide +kernel
theorem dX11_house_92 : decode cX11_house 92 = .ok (.putfield 74, 3) := by decide +kernel
theorem dX11_house_95 : decode cX11_house 95 = .ok (.aload_n 2, 1) := by decide +kernel
theorem dX11_house_96 : decode cX11_house 96 = .ok (.getfield 119, 3) := by decide +kernel
theorem dX11_house_99 : decode cX11_house 99 = .ok (.ireturn, 1) := by decide +kernel
theorem dX11_opposed_0 : decode cX11_opposed 0 = .ok (.aload_n 0, 1) := by decide +kernel
theorem dX11_opposed_1 : decode cX11_opposed 1 = .ok (.iload_n 1, 1) := by decide +kernel
theorem dX11_opposed_2 : decode cX11_opposed 2 = .ok (.invokevirtual 122, 3) := by decide +kernel
theorem dX11_opposed_5 : decode cX11_opposed 5 = .ok (.ifCond .eq 11, 3) := by decide +kernel
theorem dX11_opposed_8 : decode cX11_opposed 8 = .ok (.aload_n 0, 1) := by decide +kernel
theorem dX11_opposed_9 : decode cX11_opposed 9 = .ok (.iload_n 2, 1) := by decide +kernel
theorem dX11_opposed_10 : decode cX11_opposed 10 = .ok (.invokevirtual 122, 3) := by decide +kernel
theorem dX11_opposed_13 : decode cX11_opposed 13 = .ok (.ifCond .ne 6, 3) := by decide +kernel
theorem dX11_opposed_16 : decode cX11_opposed 16 = .ok (.bipush (-2), 2) := by decide +kernel
theorem dX11_opposed_18 : decode cX11_opposed 18 = .ok (.ireturn, 1) := by decide +kernel
theorem dX11_opposed_19 : decode cX11_opposed 19 = .ok (.iload_n 1, 1) := by decide +kernel
theorem dX11_opposed_20 : decode cX11_opposed 20 = .ok (.iload_n 2, 1) := by decide +kernel
theorem dX11_opposed_21 : decode cX11_opposed 21 = .ok (.if_icmp .eq 39, 3) := by decide +kernel
theorem dX11_opposed_24 : decode cX11_opposed 24 = .ok (.aload_n 0, 1) := by decide +kernel
theorem dX11_opposed_25 : decode cX11_opposed 25 = .ok (.getfield 49, 3) := by decide +kernel
theorem dX11_opposed_28 : decode cX11_opposed 28 = .ok (.aload_n 0, 1) := by decide +kernel
theorem dX11_opposed_29 : decode cX11_opposed 29 = .ok (.getfield 83, 3) := by decide +kernel
theorem dX11_opposed_32 : decode cX11_opposed 32 = .ok (.iload_n 1, 1) := by decide +kernel
theorem dX11_opposed_33 : decode cX11_opposed 33 = .ok (.aload_n 0, 1) := by decide +kernel
theorem dX11_opposed_34 : decode cX11_opposed 34 = .ok (.getfield 83, 3) := by decide +kernel
theorem dX11_opposed_37 : decode cX11_opposed 37 = .ok (.getfield 130, 3) := by decide +kernel
theorem dX11_opposed_40 : decode cX11_opposed 40 = .ok (.iload_n 1, 1) := by decide +kernel
theorem dX11_opposed_41 : decode cX11_opposed 41 = .ok (.iaload, 1) := by decide +kernel
theorem dX11_opposed_42 : decode cX11_opposed 42 = .ok (.iload_n 2, 1) := by decide +kernel
theorem dX11_opposed_43 : decode cX11_opposed 43 = .ok (.aload_n 0, 1) := by decide +kernel
theorem dX11_opposed_44 : decode cX11_opposed 44 = .ok (.getfield 83, 3) := by decide +kernel
theorem dX11_opposed_47 : decode cX11_opposed 47 = .ok (.getfield 165, 3) := by decide +kernel
theorem dX11_opposed_50 : decode cX11_opposed 50 = .ok (.invokevirtual 172, 3) := by decide +kernel
theorem dX11_opposed_53 : decode cX11_opposed 53 = .ok (.ifCond .eq 7, 3) := by decide +kernel
theorem dX11_opposed_56 : decode cX11_opposed 56 = .ok (.iconst 1, 1) := by decide +kernel
theorem dX11_opposed_57 : decode cX11_opposed 57 = .ok (.goto 4, 3) := by decide +kernel
theorem dX11_opposed_60 : decode cX11_opposed 60 = .ok (.iconst 0, 1) := by decide +kernel
theorem dX11_opposed_61 : decode cX11_opposed 61 = .ok (.ireturn, 1) := by decide +kernel
theorem dX11_person_0 : decode cX11_person 0 = .ok (.aload_n 0, 1) := by decide +kernel
theorem dX11_person_1 : decode cX11_person 1 = .ok (.iload_n 1, 1) := by decide +kernel
theorem dX11_person_2 : decode cX11_person 2 = .ok (.invokevirtual 122, 3) := by decide +kernel
theorem dX11_person_5 : decode cX11_person 5 = .ok (.ifCond .ne 6, 3) := by decide +kernel
theorem dX11_person_8 : decode cX11_person 8 = .ok (.bipush (-2), 2) := by decide +kernel
theorem dX11_person_10 : decode cX11_person 10 = .ok (.ireturn, 1) := by decide +kernel
theorem dX11_person_11 : decode cX11_person 11 = .ok (.aload_n 0, 1) := by decide +kernel
theorem dX11_person_12 : decode cX11_person 12 = .ok (.getfield 83, 3) := by decide +kernel
theorem dX11_person_15 : decode cX11_person 15 = .ok (.getfield 126, 3) := by decide +kernel
theorem dX11_person_18 : decode cX11_person 18 = .ok (.astore_n 3, 1) := by decide +kernel
theorem dX11_person_19 : decode cX11_person 19 = .ok (.iload_n 2, 1) := by decide +kernel
theorem dX11_person_20 : decode cX11_person 20 = .ok (.tableswitch 152 0 8 #[52, 65, 81, 94, 101, 114, 121, 128, 140], 52) := by decide +kernel
theorem dX11_person_72 : decode cX11_person 72 = .ok (.aload_n 0, 1) := by decide +kernel
theorem dX11_person_73 : decode cX11_person 73 = .ok (.getfield 83, 3) := by decide +kernel
theorem dX11_person_76 : decode cX11_person 76 = .ok (.getfield 130, 3) := by decide +kernel
theorem dX11_person_79 : decode cX11_person 79 = .ok (.iload_n 1, 1) := by decide +kernel
theorem dX11_person_80 : decode cX11_person 80 = .ok (.iaload, 1) := by decide +kernel
theorem dX11_person_81 : decode cX11_person 81 = .ok (.bipush 100, 2) := by decide +kernel
theorem dX11_person_83 : decode cX11_person 83 = .ok (.idiv, 1) := by decide +kernel
theorem dX11_person_84 : decode cX11_person 84 = .ok (.ireturn, 1) := by decide +kernel
theorem dX11_person_85 : decode cX11_person 85 = .ok (.aload_n 0, 1) := by decide +kernel
theorem dX11_person_86 : decode cX11_person 86 = .ok (.getfield 83, 3) := by decide +kernel
theorem dX11_person_89 : decode cX11_person 89 = .ok (.getfield 130, 3) := by decide +kernel
theorem dX11_person_92 : decode cX11_person 92 = .ok (.iload_n 1, 1) := by decide +kernel
theorem dX11_person_93 : decode cX11_person 93 = .ok (.iaload, 1) := by decide +kernel
theorem dX11_person_94 : decode cX11_person 94 = .ok (.bipush 10, 2) := by decide +kernel
theorem dX11_person_96 : decode cX11_person 96 = .ok (.idiv, 1) := by decide +kernel
theorem dX11_person_97 : decode cX11_person 97 = .ok (.bipush 10, 2) := by decide +kernel
theorem dX11_person_99 : decode cX11_person 99 = .ok (.irem, 1) := by decide +kernel
theorem dX11_person_100 : decode cX11_person 100 = .ok (.ireturn, 1) := by decide +kernel
theorem dX11_person_101 : decode cX11_person 101 = .ok (.aload_n 0, 1) := by decide +kernel
theorem dX11_person_102 : decode cX11_person 102 = .ok (.getfield 83, 3) := by decide +kernel
theorem dX11_person_105 : decode cX11_person 105 = .ok (.getfield 130, 3) := by decide +kernel
theorem dX11_person_108 : decode cX11_person 108 = .ok (.iload_n 1, 1) := by decide +kernel
theorem dX11_person_109 : decode cX11_person 109 = .ok (.iaload, 1) := by decide +kernel
theorem dX11_person_110 : decode cX11_person 110 = .ok (.bipush 10, 2) := by decide +kernel
theorem dX11_person_112 : decode cX11_person 112 = .ok (.irem, 1) := by decide +kernel
theorem dX11_person_113 : decode cX11_person 113 = .ok (.ireturn, 1) := by decide +kernel
theorem dX11_person_114 : decode cX11_person 114 = .ok (.aload_n 3, 1) := by decide +kernel
theorem dX11_person_115 : decode cX11_person 115 = .ok (.getfield 134, 3) := by decide +kernel
theorem dX11_person_118 : decode cX11_person 118 = .ok (.iload_n 1, 1) := by decide +kernel
theorem dX11_person_119 : decode cX11_person 119 = .ok (.iaload, 1) := by decide +kernel
theorem dX11_person_120 : decode cX11_person 120 = .ok (.ireturn, 1) := by decide +kernel
theorem dX11_person_121 : decode cX11_person 121 = .ok (.aload_n 3, 1) := by decide +kernel
theorem dX11_person_122 : decode cX11_person 122 = .ok (.getfield 137, 3) := by decide +kernel
theorem dX11_person_125 : decode cX11_person 125 = .ok (.iload_n 1, 1) := by decide +kernel
theorem dX11_person_126 : decode cX11_person 126 = .ok (.iaload, 1) := by decide +kernel
theorem dX11_person_127 : decode cX11_person 127 = .ok (.sipush 999, 3) := by decide +kernel
theorem dX11_person_130 : decode cX11_person 130 = .ok (.invokestatic 140, 3) := by decide +kernel
theorem dX11_person_133 : decode cX11_person 133 = .ok (.ireturn, 1) := by decide +kernel
theorem dX11_person_134 : decode cX11_person 134 = .ok (.aload_n 3, 1) := by decide +kernel
theorem dX11_person_135 : decode cX11_person 135 = .ok (.getfield 146, 3) := by decide +kernel
theorem dX11_person_138 : decode cX11_person 138 = .ok (.iload_n 1, 1) := by decide +kernel
theorem dX11_person_139 : decode cX11_person 139 = .ok (.iaload, 1) := by decide +kernel
theorem dX11_person_140 : decode cX11_person 140 = .ok (.ireturn, 1) := by decide +kernel
theorem dX11_person_141 : decode cX11_person 141 = .ok (.aload_n 3, 1) := by decide +kernel
theorem dX11_person_142 : decode cX11_person 142 = .ok (.getfield 149, 3) := by decide +kernel
theorem dX11_person_145 : decode cX11_person 145 = .ok (.iload_n 1, 1) := by decide +kernel
theorem dX11_person_146 : decode cX11_person 146 = .ok (.iaload, 1) := by decide +kernel
theorem dX11_person_147 : decode cX11_person 147 = .ok (.ireturn, 1) := by decide +kernel
theorem dX11_person_148 : decode cX11_person 148 = .ok (.aload_n 0, 1) := by decide +kernel
theorem dX11_person_149 : decode cX11_person 149 = .ok (.getfield 83, 3) := by decide +kernel
theorem dX11_person_152 : decode cX11_person 152 = .ok (.getfield 152, 3) := by decide +kernel
theorem dX11_person_155 : decode cX11_person 155 = .ok (.iload_n 1, 1) := by decide +kernel
theorem dX11_person_156 : decode cX11_person 156 = .ok (.ishr, 1) := by decide +kernel
theorem dX11_person_157 : decode cX11_person 157 = .ok (.iconst 1, 1) := by decide +kernel
theorem dX11_person_158 : decode cX11_person 158 = .ok (.iand, 1) := by decide +kernel
theorem dX11_person_159 : decode cX11_person 159 = .ok (.ireturn, 1) := by decide +kernel
theorem dX11_person_160 : decode cX11_person 160 = .ok (.aload_n 0, 1) := by decide +kernel
theorem dX11_person_161 : decode cX11_person 161 = .ok (.getfield 83, 3) := by decide +kernel
theorem dX11_person_164 : decode cX11_person 164 = .ok (.invokevirtual 155, 3) := by decide +kernel
theorem dX11_person_167 : decode cX11_person 167 = .ok (.iload_n 1, 1) := by decide +kernel
theorem dX11_person_168 : decode cX11_person 168 = .ok (.ishr, 1) := by decide +kernel
theorem dX11_person_169 : decode cX11_person 169 = .ok (.iconst 1, 1) := by decide +kernel
theorem dX11_person_170 : decode cX11_person 170 = .ok (.iand, 1) := by decide +kernel
theorem dX11_person_171 : decode cX11_person 171 = .ok (.ireturn, 1) := by decide +kernel
theorem dX11_person_172 : decode cX11_person 172 = .ok (.bipush (-2), 2) := by decide +kernel
theorem dX11_person_174 : decode cX11_person 174 = .ok (.ireturn, 1) := by decide +kernel
theorem dX11_putOnTape_0 : decode cX11_putOnTape 0 = .ok (.bipush 24, 2) := by decide +kernel
theorem dX11_putOnTape_2 : decode cX11_putOnTape 2 = .ok (.istore_n 2, 1) := by decide +kernel
theorem dX11_putOnTape_3 : decode cX11_putOnTape 3 = .ok (.iload_n 2, 1) := by decide +kernel
theorem dX11_putOnTape_4 : decode cX11_putOnTape 4 = .ok (.ifCond .lt 42, 3) := by decide +kernel
theorem dX11_putOnTape_7 : decode cX11_putOnTape 7 = .ok (.aload_n 0, 1) := by decide +kernel
theorem dX11_putOnTape_8 : decode cX11_putOnTape 8 = .ok (.getfield 13, 3) := by decide +kernel
theorem dX11_putOnTape_11 : decode cX11_putOnTape 11 = .ok (.sipush 900, 3) := by decide +kernel
theorem dX11_putOnTape_14 : decode cX11_putOnTape 14 = .ok (.if_icmp .ge 32, 3) := by decide +kernel
theorem dX11_putOnTape_17 : decode cX11_putOnTape 17 = .ok (.aload_n 0, 1) := by decide +kernel
theorem dX11_putOnTape_18 : decode cX11_putOnTape 18 = .ok (.getfield 9, 3) := by decide +kernel
theorem dX11_putOnTape_21 : decode cX11_putOnTape 21 = .ok (.aload_n 0, 1) := by decide +kernel
theorem dX11_putOnTape_22 : decode cX11_putOnTape 22 = .ok (.getfield 13, 3) := by decide +kernel
theorem dX11_putOnTape_25 : decode cX11_putOnTape 25 = .ok (.iload_n 1, 1) := by decide +kernel
theorem dX11_putOnTape_26 : decode cX11_putOnTape 26 = .ok (.iload_n 2, 1) := by decide +kernel
theorem dX11_putOnTape_27 : decode cX11_putOnTape 27 = .ok (.iushr, 1) := by decide +kernel
theorem dX11_putOnTape_28 : decode cX11_putOnTape 28 = .ok (.i2b, 1) := by decide +kernel
theorem dX11_putOnTape_29 : decode cX11_putOnTape 29 = .ok (.bastore, 1) := by decide +kernel
theorem dX11_putOnTape_30 : decode cX11_putOnTape 30 = .ok (.aload_n 0, 1) := by decide +kernel
theorem dX11_putOnTape_31 : decode cX11_putOnTape 31 = .ok (.dup, 1) := by decide +kernel
theorem dX11_putOnTape_32 : decode cX11_putOnTape 32 = .ok (.getfield 13, 3) := by decide +kernel
theorem dX11_putOnTape_35 : decode cX11_putOnTape 35 = .ok (.iconst 1, 1) := by decide +kernel
theorem dX11_putOnTape_36 : decode cX11_putOnTape 36 = .ok (.iadd, 1) := by decide +kernel
theorem dX11_putOnTape_37 : decode cX11_putOnTape 37 = .ok (.putfield 13, 3) := by decide +kernel
theorem dX11_putOnTape_40 : decode cX11_putOnTape 40 = .ok (.iinc 2 (-8), 3) := by decide +kernel
theorem dX11_putOnTape_43 : decode cX11_putOnTape 43 = .ok (.goto (-40), 3) := by decide +kernel
theorem dX11_putOnTape_46 : decode cX11_putOnTape 46 = .ok (.return_, 1) := by decide +kernel
theorem dX11_talk_0 : decode cX11_talk 0 = .ok (.aload_n 0, 1) := by decide +kernel
theorem dX11_talk_1 : decode cX11_talk 1 = .ok (.iload_n 1, 1) := by decide +kernel
theorem dX11_talk_2 : decode cX11_talk 2 = .ok (.iload_n 2, 1) := by decide +kernel
theorem dX11_talk_3 : decode cX11_talk 3 = .ok (.invokevirtual 180, 3) := by decide +kernel
theorem dX11_talk_6 : decode cX11_talk 6 = .ok (.ifCond .ne 6, 3) := by decide +kernel
theorem dX11_talk_9 : decode cX11_talk 9 = .ok (.bipush (-11), 2) := by decide +kernel
theorem dX11_talk_11 : decode cX11_talk 11 = .ok (.ireturn, 1) := by decide +kernel
theorem dX11_talk_12 : decode cX11_talk 12 = .ok (.aload_n 0, 1) := by decide +kernel
theorem dX11_talk_13 : decode cX11_talk 13 = .ok (.bipush 10, 2) := by decide +kernel
theorem dX11_talk_15 : decode cX11_talk 15 = .ok (.iload_n 1, 1) := by decide +kernel
theorem dX11_talk_16 : decode cX11_talk 16 = .ok (.imul, 1) := by decide +kernel
theorem dX11_talk_17 : decode cX11_talk 17 = .ok (.iload_n 2, 1) := by decide +kernel
theorem dX11_talk_18 : decode cX11_talk 18 = .ok (.iadd, 1) := by decide +kernel
theorem dX11_talk_19 : decode cX11_talk 19 = .ok (.invokevirtual 184, 3) := by decide +kernel
theorem dX11_talk_22 : decode cX11_talk 22 = .ok (.istore_n 3, 1) := by decide +kernel
theorem dX11_talk_23 : decode cX11_talk 23 = .ok (.iload_n 3, 1) := by decide +kernel
theorem dX11_talk_24 : decode cX11_talk 24 = .ok (.ifCond .eq 10, 3) := by decide +kernel
theorem dX11_talk_27 : decode cX11_talk 27 = .ok (.bipush (-10), 2) := by decide +kernel
theorem dX11_talk_29 : decode cX11_talk 29 = .ok (.iload_n 3, 1) := by decide +kernel
theorem dX11_talk_30 : decode cX11_talk 30 = .ok (.isub, 1) := by decide +kernel
theorem dX11_talk_31 : decode cX11_talk 31 = .ok (.goto 8, 3) := by decide +kernel
theorem dX11_talk_34 : decode cX11_talk 34 = .ok (.aload_n 0, 1) := by decide +kernel
theorem dX11_talk_35 : decode cX11_talk 35 = .ok (.iload_n 1, 1) := by decide +kernel
theorem dX11_talk_36 : decode cX11_talk 36 = .ok (.invokevirtual 187, 3) := by decide +kernel
theorem dX11_talk_39 : decode cX11_talk 39 = .ok (.ireturn, 1) := by decide +kernel
theorem dX11_town_0 : decode cX11_town 0 = .ok (.iload_n 1, 1) := by decide +kernel
theorem dX11_town_1 : decode cX11_town 1 = .ok (.ifCond .lt 10, 3) := by decide +kernel
theorem dX11_town_4 : decode cX11_town 4 = .ok (.iload_n 1, 1) := by decide +kernel
theorem dX11_town_5 : decode cX11_town 5 = .ok (.sipush 999, 3) := by decide +kernel
theorem dX11_town_8 : decode cX11_town 8 = .ok (.if_icmp .le 6, 3) := by decide +kernel
theorem dX11_town_11 : decode cX11_town 11 = .ok (.bipush (-3), 2) := by decide +kernel
theorem dX11_town_13 : decode cX11_town 13 = .ok (.ireturn, 1) := by decide +kernel
theorem dX11_town_14 : decode cX11_town 14 = .ok (.aload_n 0, 1) := by decide +kernel
theorem dX11_town_15 : decode cX11_town 15 = .ok (.getfield 83, 3) := by decide +kernel
theorem dX11_town_18 : decode cX11_town 18 = .ok (.aload_n 0, 1) := by decide +kernel
theorem dX11_town_19 : decode cX11_town 19 = .ok (.getfield 83, 3) := by decide +kernel
theorem dX11_town_22 : decode cX11_town 22 = .ok (.getfield 165, 3) := by decide +kernel
theorem dX11_town_25 : decode cX11_town 25 = .ok (.iload_n 1, 1) := by decide +kernel
theorem dX11_town_26 : decode cX11_town 26 = .ok (.iadd, 1) := by decide +kernel
theorem dX11_town_27 : decode cX11_town 27 = .ok (.invokevirtual 168, 3) := by decide +kernel
theorem dX11_town_30 : decode cX11_town 30 = .ok (.ireturn, 1) := by decide +kernel
theorem dX3_init_0 : decode cX3_init 0 = .ok (.aload_n 0, 1) := by decide +kernel
theorem dX3_init_1 : decode cX3_init 1 = .ok (.invokespecial 3, 3) := by decide +kernel
theorem dX3_init_4 : decode cX3_init 4 = .ok (.aload_n 0, 1) := by decide +kernel
theorem dX3_init_5 : decode cX3_init 5 = .ok (.iconst 1, 1) := by decide +kernel
theorem dX3_init_6 : decode cX3_init 6 = .ok (.putfield 9, 3) := by decide +kernel
theorem dX3_init_9 : decode cX3_init 9 = .ok (.aload_n 0, 1) := by decide +kernel
theorem dX3_init_10 : decode cX3_init 10 = .ok (.iconst 0, 1) := by decide +kernel
theorem dX3_init_11 : decode cX3_init 11 = .ok (.putfield 15, 3) := by decide +kernel
theorem dX3_init_14 : decode cX3_init 14 = .ok (.aload_n 0, 1) := by decide +kernel
theorem dX3_init_15 : decode cX3_init 15 = .ok (.iconst 0, 1) := by decide +kernel
theorem dX3_init_16 : decode cX3_init 16 = .ok (.putfield 18, 3) := by decide +kernel
theorem dX3_init_19 : decode cX3_init 19 = .ok (.aload_n 0, 1) := by decide +kernel
theorem dX3_init_20 : decode cX3_init 20 = .ok (.iconst 0, 1) := by decide +kernel
theorem dX3_init_21 : decode cX3_init 21 = .ok (.putfield 21, 3) := by decide +kernel
theorem dX3_init_24 : decode cX3_init 24 = .ok (.aload_n 0, 1) := by decide +kernel
theorem dX3_init_25 : decode cX3_init 25 = .ok (.aconst_null, 1) := by decide +kernel
theorem dX3_init_26 : decode cX3_init 26 = .ok (.putfield 24, 3) := by decide +kernel
theorem dX3_init_29 : decode cX3_init 29 = .ok (.aload_n 0, 1) := by decide +kernel
theorem dX3_init_30 : decode cX3_init 30 = .ok (.aconst_null, 1) := by decide +kernel
theorem dX3_init_31 : decode cX3_init 31 = .ok (.putfield 28, 3) := by decide +kernel
theorem dX3_init_34 : decode cX3_init 34 = .ok (.aload_n 0, 1) := by decide +kernel
theorem dX3_init_35 : decode cX3_init 35 = .ok (.aconst_null, 1) := by decide +kernel
theorem dX3_init_36 : decode cX3_init 36 = .ok (.putfield 31, 3) := by decide +kernel
theorem dX3_init_39 : decode cX3_init 39 = .ok (.aload_n 0, 1) := by decide +kernel
theorem dX3_init_40 : decode cX3_init 40 = .ok (.bipush 10, 2) := by decide +kernel
theorem dX3_init_42 : decode cX3_init 42 = .ok (.newarray .int, 2) := by decide +kernel
theorem dX3_init_44 : decode cX3_init 44 = .ok (.putfield 34, 3) := by decide +kernel
theorem dX3_init_47 : decode cX3_init 47 = .ok (.aload_n 0, 1) := by decide +kernel
theorem dX3_init_48 : decode cX3_init 48 = .ok (.bipush 10, 2) := by decide +kernel
theorem dX3_init_50 : decode cX3_init 50 = .ok (.newarray .int, 2) := by decide +kernel
theorem dX3_init_52 : decode cX3_init 52 = .ok (.putfield 38, 3) := by decide +kernel
theorem dX3_init_55 : decode cX3_init 55 = .ok (.aload_n 0, 1) := by decide +kernel
theorem dX3_init_56 : decode cX3_init 56 = .ok (.bipush 10, 2) := by decide +kernel
theorem dX3_init_58 : decode cX3_init 58 = .ok (.newarray .int, 2) := by decide +kernel
theorem dX3_init_60 : decode cX3_init 60 = .ok (.putfield 41, 3) := by decide +kernel
theorem dX3_init_63 : decode cX3_init 63 = .ok (.aload_n 0, 1) := by decide +kernel
theorem dX3_init_64 : decode cX3_init 64 = .ok (.bipush 10, 2) := by decide +kernel
theorem dX3_init_66 : decode cX3_init 66 = .ok (.newarray .int, 2) := by decide +kernel
theorem dX3_init_68 : decode cX3_init 68 = .ok (.putfield 44, 3) := by decide +kernel
theorem dX3_init_71 : decode cX3_init 71 = .ok (.aload_n 0, 1) := by decide +kernel
theorem dX3_init_72 : decode cX3_init 72 = .ok (.bipush 10, 2) := by decide +kernel
theorem dX3_init_74 : decode cX3_init 74 = .ok (.newarray .int, 2) := by decide +kernel
theorem dX3_init_76 : decode cX3_init 76 = .ok (.putfield 47, 3) := by decide +kernel
theorem dX3_init_79 : decode cX3_init 79 = .ok (.return_, 1) := by decide +kernel
theorem dX4_init_0 : decode cX4_init 0 = .ok (.aload_n 0, 1) := by decide +kernel
theorem dX4_init_1 : decode cX4_init 1 = .ok (.invokespecial 3, 3) := by decide +kernel
theorem dX4_init_4 : decode cX4_init 4 = .ok (.aload_n 0, 1) := by decide +kernel
theorem dX4_init_5 : decode cX4_init 5 = .ok (.aload_n 1, 1) := by decide +kernel
theorem dX4_init_6 : decode cX4_init 6 = .ok (.iload_n 2, 1) := by decide +kernel
theorem dX4_init_7 : decode cX4_init 7 = .ok (.invokestatic 9, 3) := by decide +kernel
theorem dX4_init_10 : decode cX4_init 10 = .ok (.putfield 15, 3) := by decide +kernel
theorem dX4_init_13 : decode cX4_init 13 = .ok (.return_, 1) := by decide +kernel
theorem dX5_read_0 : decode cX5_read 0 = .ok (.aload_n 0, 1) := by decide +kernel
theorem dX5_read_1 : decode cX5_read 1 = .ok (.getfield 12, 3) := by decide +kernel
theorem dX5_read_4 : decode cX5_read 4 = .ok (.aload_n 1, 1) := by decide +kernel
theorem dX5_read_5 : decode cX5_read 5 = .ok (.iload_n 2, 1) := by decide +kernel
theorem dX5_read_6 : decode cX5_read 6 = .ok (.invokevirtual 48, 3) := by decide +kernel
theorem dX5_read_9 : decode cX5_read 9 = .ok (.aload_n 0, 1) := by decide +kernel
theorem dX5_read_10 : decode cX5_read 10 = .ok (.iconst (-1), 1) := by decide +kernel
theorem dX5_read_11 : decode cX5_read 11 = .ok (.putfield 18, 3) := by decide +kernel
theorem dX5_read_14 : decode cX5_read 14 = .ok (.aload_n 0, 1) := by decide +kernel
theorem dX5_read_15 : decode cX5_read 15 = .ok (.iconst 0, 1) := by decide +kernel
theorem dX5_read_16 : decode cX5_read 16 = .ok (.putfield 25, 3) := by decide +kernel
theorem dX5_read_19 : decode cX5_read 19 = .ok (.aload_n 0, 1) := by decide +kernel
theorem dX5_read_20 : decode cX5_read 20 = .ok (.iconst (-1), 1) := by decide +kernel
theorem dX5_read_21 : decode cX5_read 21 = .ok (.putfield 28, 3) := by decide +kernel
theorem dX5_read_24 : decode cX5_read 24 = .ok (.aload_n 0, 1) := by decide +kernel
theorem dX5_read_25 : decode cX5_read 25 = .ok (.new 31, 3) := by decide +kernel
theorem dX5_read_28 : decode cX5_read 28 = .ok (.dup, 1) := by decide +kernel
theorem dX5_read_29 : decode cX5_read 29 = .ok (.invokespecial 33, 3) := by decide +kernel
theorem dX5_read_32 : decode cX5_read 32 = .ok (.putfield 34, 3) := by decide +kernel
theorem dX5_read_35 : decode cX5_read 35 = .ok (.aload_n 0, 1) := by decide +kernel
theorem dX5_read_36 : decode cX5_read 36 = .ok (.invokevirtual 52, 3) := by decide +kernel
theorem dX5_read_39 : decode cX5_read 39 = .ok (.aload_n 0, 1) := by decide +kernel
theorem dX5_read_40 : decode cX5_read 40 = .ok (.bipush 11, 2) := by decide +kernel
theorem dX5_read_42 : decode cX5_read 42 = .ok (.invokevirtual 55, 3) := by decide +kernel
theorem dX5_read_45 : decode cX5_read 45 = .ok (.aload_n 0, 1) := by decide +kernel
theorem dX5_read_46 : decode cX5_read 46 = .ok (.bipush 12, 2) := by decide +kernel
theorem dX5_read_48 : decode cX5_read 48 = .ok (.invokevirtual 55, 3) := by decide +kernel
theorem dX5_read_51 : decode cX5_read 51 = .ok (.aload_n 0, 1) := by decide +kernel
theorem dX5_read_52 : decode cX5_read 52 = .ok (.getfield 34, 3) := by decide +kernel
theorem dX5_read_55 : decode cX5_read 55 = .ok (.aload_n 0, 1) := by decide +kernel
theorem dX5_read_56 : decode cX5_read 56 = .ok (.iconst 1, 1) := by decide +kernel
theorem dX5_read_57 : decode cX5_read 57 = .ok (.iconst 3, 1) := by decide +kernel
theorem dX5_read_58 : decode cX5_read 58 = .ok (.invokevirtual 59, 3) := by decide +kernel
theorem dX5_read_61 : decode cX5_read 61 = .ok (.putfield 63, 3) := by decide +kernel
theorem dX5_read_64 : decode cX5_read 64 = .ok (.aload_n 0, 1) := by decide +kernel
theorem dX5_read_65 : decode cX5_read 65 = .ok (.bipush 59, 2) := by decide +kernel
theorem dX5_read_67 : decode cX5_read 67 = .ok (.invokevirtual 55, 3) := by decide +kernel
theorem dX5_read_70 : decode cX5_read 70 = .ok (.aload_n 0, 1) := by decide +kernel
theorem dX5_read_71 : decode cX5_read 71 = .ok (.getfield 34, 3) := by decide +kernel
theorem dX5_read_74 : decode cX5_read 74 = .ok (.iconst 1, 1) := by decide +kernel
theorem dX5_read_75 : decode cX5_read 75 = .ok (.putfield 66, 3) := by decide +kernel
theorem dX5_read_78 : decode cX5_read 78 = .ok (.iconst 0, 1) := by decide +kernel
theorem dX5_read_79 : decode cX5_read 79 = .ok (.istore_n 3, 1) := by decide +kernel
theorem dX5_read_80 : decode cX5_read 80 = .ok (.iload_n 3, 1) := by decide +kernel
theorem dX5_read_81 : decode cX5_read 81 = .ok (.aload_n 0, 1) := by decide +kernel
theorem dX5_read_82 : decode cX5_read 82 = .ok (.getfield 12, 3) := by decide +kernel
theorem dX5_read_85 : decode cX5_read 85 = .ok (.getfield 69, 3) := by decide +kernel
theorem dX5_read_88 : decode cX5_read 88 = .ok (.if_icmp .ge 50, 3) := by decide +kernel
theorem dX5_read_91 : decode cX5_read 91 = .ok (.aload_n 0, 1) := by decide +kernel
theorem dX5_read_92 : decode cX5_read 92 = .ok (.getfield 22, 3) := by decide +kernel
theorem dX5_read_95 : decode cX5_read 95 = .ok (.bipush 26, 2) := by decide +kernel
theorem dX5_read_97 : decode cX5_read 97 = .ok (.if_icmp .eq 41, 3) := by decide +kernel
theorem dX5_read_100 : decode cX5_read 100 = .ok (.aload_n 0, 1) := by decide +kernel
theorem dX5_read_101 : decode cX5_read 101 = .ok (.getfield 22, 3) := by decide +kernel
theorem dX5_read_104 : decode cX5_read 104 = .ok (.bipush 27, 2) := by decide +kernel
theorem dX5_read_106 : decode cX5_read 106 = .ok (.if_icmp .eq 32, 3) := by decide +kernel
theorem dX5_read_109 : decode cX5_read 109 = .ok (.aload_n 0, 1) := by decide +kernel
theorem dX5_read_110 : decode cX5_read 110 = .ok (.invokevirtual 72, 3) := by decide +kernel
theorem dX5_read_113 : decode cX5_read 113 = .ok (.aload_n 0, 1) := by decide +kernel
theorem dX5_read_114 : decode cX5_read 114 = .ok (.bipush 59, 2) := by decide +kernel
theorem dX5_read_116 : decode cX5_read 116 = .ok (.invokevirtual 55, 3) := by decide +kernel
theorem dX5_read_119 : decode cX5_read 119 = .ok (.aload_n 0, 1) := by decide +kernel
theorem dX5_read_120 : decode cX5_read 120 = .ok (.getfield 34, 3) := by decide +kernel
theorem dX5_read_123 : decode cX5_read 123 = .ok (.dup, 1) := by decide +kernel
theorem dX5_read_124 : decode cX5_read 124 = .ok (.getfield 66, 3) := by decide +kernel
theorem dX5_read_127 : decode cX5_read 127 = .ok (.iconst 1, 1) := by decide +kernel
theorem dX5_read_128 : decode cX5_read 128 = .ok (.iadd, 1) := by decide +kernel
theorem dX5_read_129 : decode cX5_read 129 = .ok (.putfield 66, 3) := by decide +kernel
theorem dX5_read_132 : decode cX5_read 132 = .ok (.iinc 3 1, 3) := by decide +kernel
theorem dX5_read_135 : decode cX5_read 135 = .ok (.goto (-55), 3) := by decide +kernel
theorem dX5_read_138 : decode cX5_read 138 = .ok (.aload_n 0, 1) := by decide +kernel
theorem dX5_read_139 : decode cX5_read 139 = .ok (.getfield 34, 3) := by decide +kernel
theorem dX5_read_142 : decode cX5_read 142 = .ok (.areturn, 1) := by decide +kernel
theorem dX5_readLaw_0 : decode cX5_readLaw 0 = .ok (.aload_n 0, 1) := by decide +kernel
theorem dX5_readLaw_1 : decode cX5_readLaw 1 = .ok (.getfield 22, 3) := by decide +kernel
theorem dX5_readLaw_4 : decode cX5_readLaw 4 = .ok (.bipush 20, 2) := by decide +kernel
theorem dX5_readLaw_6 : decode cX5_readLaw 6 = .ok (.if_icmp .ne 7, 3) := by decide +kernel
theorem dX5_readLaw_9 : decode cX5_readLaw 9 = .ok (.iconst 1, 1) := by decide +kernel
theorem dX5_readLaw_10 : decode cX5_readLaw 10 = .ok (.goto 4, 3) := by decide +kernel
theorem dX5_readLaw_13 : decode cX5_readLaw 13 = .ok (.iconst 0, 1) := by decide +kernel
theorem dX5_readLaw_14 : decode cX5_readLaw 14 = .ok (.istore_n 3, 1) := by decide +kernel
theorem dX5_readLaw_15 : decode cX5_readLaw 15 = .ok (.aload_n 0, 1) := by decide +kernel
theorem dX5_readLaw_16 : decode cX5_readLaw 16 = .ok (.invokevirtual 52, 3) := by decide +kernel
theorem dX5_readLaw_19 : decode cX5_readLaw 19 = .ok (.aload_n 0, 1) := by decide +kernel
theorem dX5_readLaw_20 : decode cX5_readLaw 20 = .ok (.bipush 58, 2) := by decide +kernel
theorem dX5_readLaw_22 : decode cX5_readLaw 22 = .ok (.invokevirtual 55, 3) := by decide +kernel
theorem dX5_readLaw_25 : decode cX5_readLaw 25 = .ok (.aload_n 0, 1) := by decide +kernel
theorem dX5_readLaw_26 : decode cX5_readLaw 26 = .ok (.iconst 0, 1) := by decide +kernel
theorem dX5_readLaw_27 : decode cX5_readLaw 27 = .ok (.putfield 42, 3) := by decide +kernel
theorem dX5_readLaw_30 : decode cX5_readLaw 30 = .ok (.aload_n 0, 1) := by decide +kernel
theorem dX5_readLaw_31 : decode cX5_readLaw 31 = .ok (.iload_n 1, 1) := by decide +kernel
theorem dX5_readLaw_32 : decode cX5_readLaw 32 = .ok (.putfield 45, 3) := by decide +kernel
theorem dX5_readLaw_35 : decode cX5_readLaw 35 = .ok (.iload_n 3, 1) := by decide +kernel
theorem dX5_readLaw_36 : decode cX5_readLaw 36 = .ok (.ifCond .eq 11, 3) := by decide +kernel
theorem dX5_readLaw_39 : decode cX5_readLaw 39 = .ok (.aload_n 0, 1) := by decide +kernel
theorem dX5_readLaw_40 : decode cX5_readLaw 40 = .ok (.iconst 0, 1) := by decide +kernel
theorem dX5_readLaw_41 : decode cX5_readLaw 41 = .ok (.invokevirtual 130, 3) := by decide +kernel
theorem dX5_readLaw_44 : decode cX5_readLaw 44 = .ok (.goto 8, 3) := by decide +kernel
theorem dX5_readLaw_47 : decode cX5_readLaw 47 = .ok (.aload_n 0, 1) := by decide +kernel
theorem dX5_readLaw_48 : decode cX5_readLaw 48 = .ok (.iconst 0, 1) := by decide +kernel
theorem dX5_readLaw_49 : decode cX5_readLaw 49 = .ok (.invokevirtual 133, 3) := by decide +kernel
theorem dX5_readLaw_52 : decode cX5_readLaw 52 = .ok (.aload_n 0, 1) := by decide +kernel
theorem dX5_readLaw_53 : decode cX5_readLaw 53 = .ok (.getfield 25, 3) := by decide +kernel
theorem dX5_readLaw_56 : decode cX5_readLaw 56 = .ok (.ifCond .eq 7, 3) := by decide +kernel
theorem dX5_readLaw_59 : decode cX5_readLaw 59 = .ok (.aload_n 2, 1) := by decide +kernel
theorem dX5_readLaw_60 : decode cX5_readLaw 60 = .ok (.goto 18, 3) := by decide +kernel
theorem dX5_readLaw_63 : decode cX5_readLaw 63 = .ok (.new 136, 3) := by decide +kernel
theorem dX5_readLaw_66 : decode cX5_readLaw 66 = .ok (.dup, 1) := by decide +kernel
theorem dX5_readLaw_67 : decode cX5_readLaw 67 = .ok (.aload_n 0, 1) := by decide +kernel
theorem dX5_readLaw_68 : decode cX5_readLaw 68 = .ok (.getfield 38, 3) := by decide +kernel
theorem dX5_readLaw_71 : decode cX5_readLaw 71 = .ok (.aload_n 0, 1) := by decide +kernel
theorem dX5_readLaw_72 : decode cX5_readLaw 72 = .ok (.getfield 42, 3) := by decide +kernel
theorem dX5_readLaw_75 : decode cX5_readLaw 75 = .ok (.invokespecial 138, 3) := by decide +kernel
theorem dX5_readLaw_78 : decode cX5_readLaw 78 = .ok (.areturn, 1) := by decide +kernel
theorem dX5_readLine_0 : decode cX5_readLine 0 = .ok (.aload_n 0, 1) := by decide +kernel
theorem dX5_readLine_1 : decode cX5_readLine 1 = .ok (.getfield 22, 3) := by decide +kernel
theorem dX5_readLine_4 : decode cX5_readLine 4 = .ok (.tableswitch 169 8 20 #[147, 169, 169, 169, 169, 68, 169, 169, 169, 169, 75, 99, 123], 68) := by decide +kernel
theorem dX5_readLine_72 : decode cX5_readLine 72 = .ok (.aload_n 0, 1) := by decide +kernel
theorem dX5_readLine_73 : decode cX5_readLine 73 = .ok (.invokevirtual 87, 3) := by decide +kernel
theorem dX5_readLine_76 : decode cX5_readLine 76 = .ok (.goto 102, 3) := by decide +kernel
theorem dX5_readLine_79 : decode cX5_readLine 79 = .ok (.aload_n 0, 1) := by decide +kernel
theorem dX5_readLine_80 : decode cX5_readLine 80 = .ok (.getfield 34, 3) := by decide +kernel
theorem dX5_readLine_83 : decode cX5_readLine 83 = .ok (.aload_n 0, 1) := by decide +kernel
theorem dX5_readLine_84 : decode cX5_readLine 84 = .ok (.sipush 511, 3) := by decide +kernel
theorem dX5_readLine_87 : decode cX5_readLine 87 = .ok (.aload_n 0, 1) := by decide +kernel
theorem dX5_readLine_88 : decode cX5_readLine 88 = .ok (.getfield 34, 3) := by decide +kernel
theorem dX5_readLine_91 : decode cX5_readLine 91 = .ok (.getfield 90, 3) := by decide +kernel
theorem dX5_readLine_94 : decode cX5_readLine 94 = .ok (.invokevirtual 94, 3) := by decide +kernel
theorem dX5_readLine_97 : decode cX5_readLine 97 = .ok (.putfield 90, 3) := by decide +kernel
theorem dX5_readLine_100 : decode cX5_readLine 100 = .ok (.goto 78, 3) := by decide +kernel
theorem dX5_readLine_103 : decode cX5_readLine 103 = .ok (.aload_n 0, 1) := by decide +kernel
theorem dX5_readLine_104 : decode cX5_readLine 104 = .ok (.getfield 34, 3) := by decide +kernel
theorem dX5_readLine_107 : decode cX5_readLine 107 = .ok (.aload_n 0, 1) := by decide +kernel
theorem dX5_readLine_108 : decode cX5_readLine 108 = .ok (.sipush 783, 3) := by decide +kernel
theorem dX5_readLine_111 : decode cX5_readLine 111 = .ok (.aload_n 0, 1) := by decide +kernel
theorem dX5_readLine_112 : decode cX5_readLine 112 = .ok (.getfield 34, 3) := by decide +kernel
theorem dX5_readLine_115 : decode cX5_readLine 115 = .ok (.getfield 98, 3) := by decide +kernel
theorem dX5_readLine_118 : decode cX5_readLine 118 = .ok (.invokevirtual 94, 3) := by decide +kernel
theorem dX5_readLine_121 : decode cX5_readLine 121 = .ok (.putfield 98, 3) := by decide +kernel
theorem dX5_readLine_124 : decode cX5_readLine 124 = .ok (.goto 54, 3) := by decide +kernel
theorem dX5_readLine_127 : decode cX5_readLine 127 = .ok (.aload_n 0, 1) := by decide +kernel
theorem dX5_readLine_128 : decode cX5_readLine 128 = .ok (.getfield 34, 3) := by decide +kernel
theorem dX5_readLine_131 : decode cX5_readLine 131 = .ok (.aload_n 0, 1) := by decide +kernel
theorem dX5_readLine_132 : decode cX5_readLine 132 = .ok (.sipush 1535, 3) := by decide +kernel
theorem dX5_readLine_135 : decode cX5_readLine 135 = .ok (.aload_n 0, 1) := by decide +kernel
theorem dX5_readLine_136 : decode cX5_readLine 136 = .ok (.getfield 34, 3) := by decide +kernel
theorem dX5_readLine_139 : decode cX5_readLine 139 = .ok (.getfield 101, 3) := by decide +kernel
theorem dX5_readLine_142 : decode cX5_readLine 142 = .ok (.invokevirtual 94, 3) := by decide +kernel
theorem dX5_readLine_145 : decode cX5_readLine 145 = .ok (.putfield 101, 3) := by decide +kernel
theorem dX5_readLine_148 : decode cX5_readLine 148 = .ok (.goto 30, 3) := by decide +kernel
theorem dX5_readLine_151 : decode cX5_readLine 151 = .ok (.aload_n 0, 1) := by decide +kernel
theorem dX5_readLine_152 : decode cX5_readLine 152 = .ok (.invokevirtual 52, 3) := by decide +kernel
theorem dX5_readLine_155 : decode cX5_readLine 155 = .ok (.aload_n 0, 1) := by decide +kernel
theorem dX5_readLine_156 : decode cX5_readLine 156 = .ok (.getfield 34, 3) := by decide +kernel
theorem dX5_readLine_159 : decode cX5_readLine 159 = .ok (.aload_n 0, 1) := by decide +kernel
theorem dX5_readLine_160 : decode cX5_readLine 160 = .ok (.iconst 0, 1) := by decide +kernel
theorem dX5_readLine_161 : decode cX5_readLine 161 = .ok (.sipush 999, 3) := by decide +kernel
theorem dX5_readLine_164 : decode cX5_readLine 164 = .ok (.invokevirtual 59, 3) := by decide +kernel
theorem dX5_readLine_167 : decode cX5_readLine 167 = .ok (.putfield 104, 3) := by decide +kernel
theorem dX5_readLine_170 : decode cX5_readLine 170 = .ok (.goto 8, 3) := by decide +kernel
theorem dX5_readLine_173 : decode cX5_readLine 173 = .ok (.aload_n 0, 1) := by decide +kernel
theorem dX5_readLine_174 : decode cX5_readLine 174 = .ok (.iconst 2, 1) := by decide +kernel
theorem dX5_readLine_175 : decode cX5_readLine 175 = .ok (.invokevirtual 81, 3) := by decide +kernel
theorem dX5_readLine_178 : decode cX5_readLine 178 = .ok (.return_, 1) := by decide +kernel
theorem dX5_readPerson_0 : decode cX5_readPerson 0 = .ok (.aload_n 0, 1) := by decide +kernel
theorem dX5_readPerson_1 : decode cX5_readPerson 1 = .ok (.getfield 34, 3) := by decide +kernel
theorem dX5_readPerson_4 : decode cX5_readPerson 4 = .ok (.getfield 107, 3) := by decide +kernel
theorem dX5_readPerson_7 : decode cX5_readPerson 7 = .ok (.istore_n 1, 1) := by decide +kernel
theorem dX5_readPerson_8 : decode cX5_readPerson 8 = .ok (.iload_n 1, 1) := by decide +kernel
theorem dX5_readPerson_9 : decode cX5_readPerson 9 = .ok (.bipush 10, 2) := by decide +kernel
theorem dX5_readPerson_11 : decode cX5_readPerson 11 = .ok (.if_icmp .lt 9, 3) := by decide +kernel
theorem dX5_readPerson_14 : decode cX5_readPerson 14 = .ok (.aload_n 0, 1) := by decide +kernel
theorem dX5_readPerson_15 : decode cX5_readPerson 15 = .ok (.iconst 4, 1) := by decide +kernel
theorem dX5_readPerson_16 : decode cX5_readPerson 16 = .ok (.invokevirtual 81, 3) := by decide +kernel
theorem dX5_readPerson_19 : decode cX5_readPerson 19 = .ok (.return_, 1) := by decide +kernel
theorem dX5_readPerson_20 : decode cX5_readPerson 20 = .ok (.aload_n 0, 1) := by decide +kernel
theorem dX5_readPerson_21 : decode cX5_readPerson 21 = .ok (.invokevirtual 52, 3) := by decide +kernel
theorem dX5_readPerson_24 : decode cX5_readPerson 24 = .ok (.iconst 0, 1) := by decide +kernel
theorem dX5_readPerson_25 : decode cX5_readPerson 25 = .ok (.istore_n 2, 1) := by decide +kernel
theorem dX5_readPerson_26 : decode cX5_readPerson 26 = .ok (.iconst 0, 1) := by decide +kernel
theorem dX5_readPerson_27 : decode cX5_readPerson 27 = .ok (.istore_n 3, 1) := by decide +kernel
theorem dX5_readPerson_28 : decode cX5_readPerson 28 = .ok (.iload_n 3, 1) := by decide +kernel
theorem dX5_readPerson_29 : decode cX5_readPerson 29 = .ok (.iconst 3, 1) := by decide +kernel
theorem dX5_readPerson_30 : decode cX5_readPerson 30 = .ok (.if_icmp .ge 37, 3) := by decide +kernel
theorem dX5_readPerson_33 : decode cX5_readPerson 33 = .ok (.bipush 10, 2) := by decide +kernel
theorem dX5_readPerson_35 : decode cX5_readPerson 35 = .ok (.iload_n 2, 1) := by decide +kernel
theorem dX5_readPerson_36 : decode cX5_readPerson 36 = .ok (.imul, 1) := by decide +kernel
theorem dX5_readPerson_37 : decode cX5_readPerson 37 = .ok (.iload_n 3, 1) := by decide +kernel
theorem dX5_readPerson_38 : decode cX5_readPerson 38 = .ok (.aload_n 0, 1) := by decide +kernel
theorem dX5_readPerson_39 : decode cX5_readPerson 39 = .ok (.getfield 34, 3) := by decide +kernel
theorem dX5_readPerson_42 : decode cX5_readPerson 42 = .ok (.getfield 63, 3) := by decide +kernel
theorem dX5_readPerson_45 : decode cX5_readPerson 45 = .ok (.if_icmp .ge 13, 3) := by decide +kernel
theorem dX5_readPerson_48 : decode cX5_readPerson 48 = .ok (.aload_n 0, 1) := by decide +kernel
theorem dX5_readPerson_49 : decode cX5_readPerson 49 = .ok (.iconst 0, 1) := by decide +kernel
theorem dX5_readPerson_50 : decode cX5_readPerson 50 = .ok (.bipush 9, 2) := by decide +kernel
theorem dX5_readPerson_52 : decode cX5_readPerson 52 = .ok (.invokevirtual 59, 3) := by decide +kernel
theorem dX5_readPerson_55 : decode cX5_readPerson 55 = .ok (.goto 4, 3) := by decide +kernel
theorem dX5_readPerson_58 : decode cX5_readPerson 58 = .ok (.iconst 0, 1) := by decide +kernel
theorem dX5_readPerson_59 : decode cX5_readPerson 59 = .ok (.iadd, 1) := by decide +kernel
theorem dX5_readPerson_60 : decode cX5_readPerson 60 = .ok (.istore_n 2, 1) := by decide +kernel
theorem dX5_readPerson_61 : decode cX5_readPerson 61 = .ok (.iinc 3 1, 3) := by decide +kernel
theorem dX5_readPerson_64 : decode cX5_readPerson 64 = .ok (.goto (-36), 3) := by decide +kernel
theorem dX5_readPerson_67 : decode cX5_readPerson 67 = .ok (.aload_n 0, 1) := by decide +kernel
theorem dX5_readPerson_68 : decode cX5_readPerson 68 = .ok (.getfield 34, 3) := by decide +kernel
theorem dX5_readPerson_71 : decode cX5_readPerson 71 = .ok (.getfield 110, 3) := by decide +kernel
theorem dX5_readPerson_74 : decode cX5_readPerson 74 = .ok (.iload_n 1, 1) := by decide +kernel
theorem dX5_readPerson_75 : decode cX5_readPerson 75 = .ok (.iload_n 2, 1) := by decide +kernel
theorem dX5_readPerson_76 : decode cX5_readPerson 76 = .ok (.iastore, 1) := by decide +kernel
theorem dX5_readPerson_77 : decode cX5_readPerson 77 = .ok (.aload_n 0, 1) := by decide +kernel
theorem dX5_readPerson_78 : decode cX5_readPerson 78 = .ok (.getfield 34, 3) := by decide +kernel
theorem dX5_readPerson_81 : decode cX5_readPerson 81 = .ok (.getfield 113, 3) := by decide +kernel
theorem dX5_readPerson_84 : decode cX5_readPerson 84 = .ok (.iload_n 1, 1) := by decide +kernel
theorem dX5_readPerson_85 : decode cX5_readPerson 85 = .ok (.iconst 0, 1) := by decide +kernel
theorem dX5_readPerson_86 : decode cX5_readPerson 86 = .ok (.iastore, 1) := by decide +kernel
theorem dX5_readPerson_87 : decode cX5_readPerson 87 = .ok (.aload_n 0, 1) := by decide +kernel
theorem dX5_readPerson_88 : decode cX5_readPerson 88 = .ok (.getfield 34, 3) := by decide +kernel
theorem dX5_readPerson_91 : decode cX5_readPerson 91 = .ok (.getfield 116, 3) := by decide +kernel
theorem dX5_readPerson_94 : decode cX5_readPerson 94 = .ok (.iload_n 1, 1) := by decide +kernel
theorem dX5_readPerson_95 : decode cX5_readPerson 95 = .ok (.ldc 119, 2) := by decide +kernel
theorem dX5_readPerson_97 : decode cX5_readPerson 97 = .ok (.iastore, 1) := by decide +kernel
theorem dX5_readPerson_98 : decode cX5_readPerson 98 = .ok (.aload_n 0, 1) := by decide +kernel
theorem dX5_readPerson_99 : decode cX5_readPerson 99 = .ok (.getfield 34, 3) := by decide +kernel
theorem dX5_readPerson_102 : decode cX5_readPerson 102 = .ok (.getfield 120, 3) := by decide +kernel
theorem dX5_readPerson_105 : decode cX5_readPerson 105 = .ok (.iload_n 1, 1) := by decide +kernel
theorem dX5_readPerson_106 : decode cX5_readPerson 106 = .ok (.bipush 10, 2) := by decide +kernel
theorem dX5_readPerson_108 : decode cX5_readPerson 108 = .ok (.iastore, 1) := by decide +kernel
theorem dX5_readPerson_109 : decode cX5_readPerson 109 = .ok (.aload_n 0, 1) := by decide +kernel
theorem dX5_readPerson_110 : decode cX5_readPerson 110 = .ok (.getfield 34, 3) := by decide +kernel
theorem dX5_readPerson_113 : decode cX5_readPerson 113 = .ok (.getfield 123, 3) := by decide +kernel
theorem dX5_readPerson_116 : decode cX5_readPerson 116 = .ok (.iload_n 1, 1) := by decide +kernel
theorem dX5_readPerson_117 : decode cX5_readPerson 117 = .ok (.iconst 1, 1) := by decide +kernel
theorem dX5_readPerson_118 : decode cX5_readPerson 118 = .ok (.iastore, 1) := by decide +kernel
theorem dX5_readPerson_119 : decode cX5_readPerson 119 = .ok (.iconst 1, 1) := by decide +kernel
theorem dX5_readPerson_120 : decode cX5_readPerson 120 = .ok (.istore_n 3, 1) := by decide +kernel
theorem dX5_readPerson_121 : decode cX5_readPerson 121 = .ok (.iconst 0, 1) := by decide +kernel
theorem dX5_readPerson_122 : decode cX5_readPerson 122 = .ok (.istore 4, 2) := by decide +kernel
theorem dX5_readPerson_124 : decode cX5_readPerson 124 = .ok (.iload 4, 2) := by decide +kernel
theorem dX5_readPerson_126 : decode cX5_readPerson 126 = .ok (.aload_n 0, 1) := by decide +kernel
theorem dX5_readPerson_127 : decode cX5_readPerson 127 = .ok (.getfield 12, 3) := by decide +kernel
theorem dX5_readPerson_130 : decode cX5_readPerson 130 = .ok (.getfield 69, 3) := by decide +kernel
theorem dX5_readPerson_133 : decode cX5_readPerson 133 = .ok (.if_icmp .ge 19, 3) := by decide +kernel
theorem dX5_readPerson_136 : decode cX5_readPerson 136 = .ok (.iload_n 3, 1) := by decide +kernel
theorem dX5_readPerson_137 : decode cX5_readPerson 137 = .ok (.ifCond .eq 15, 3) := by decide +kernel
theorem dX5_readPerson_140 : decode cX5_readPerson 140 = .ok (.aload_n 0, 1) := by decide +kernel
theorem dX5_readPerson_141 : decode cX5_readPerson 141 = .ok (.iload_n 1, 1) := by decide +kernel
theorem dX5_readPerson_142 : decode cX5_readPerson 142 = .ok (.invokevirtual 126, 3) := by decide +kernel
theorem dX5_readPerson_145 : decode cX5_readPerson 145 = .ok (.istore_n 3, 1) := by decide +kernel
theorem dX5_readPerson_146 : decode cX5_readPerson 146 = .ok (.iinc 4 1, 3) := by decide +kernel
theorem dX5_readPerson_149 : decode cX5_readPerson 149 = .ok (.goto (-25), 3) := by decide +kernel
theorem dX5_readPerson_152 : decode cX5_readPerson 152 = .ok (.aload_n 0, 1) := by decide +kernel
theorem dX5_readPerson_153 : decode cX5_readPerson 153 = .ok (.getfield 34, 3) := by decide +kernel
theorem dX5_readPerson_156 : decode cX5_readPerson 156 = .ok (.dup, 1) := by decide +kernel
theorem dX5_readPerson_157 : decode cX5_readPerson 157 = .ok (.getfield 107, 3) := by decide +kernel
theorem dX5_readPerson_160 : decode cX5_readPerson 160 = .ok (.iconst 1, 1) := by decide +kernel
theorem dX5_readPerson_161 : decode cX5_readPerson 161 = .ok (.iadd, 1) := by decide +kernel
theorem dX5_readPerson_162 : decode cX5_readPerson 162 = .ok (.putfield 107, 3) := by decide +kernel
theorem dX5_readPerson_165 : decode cX5_readPerson 165 = .ok (.return_, 1) := by decide +kernel
theorem dX7_begin_0 : decode cX7_begin 0 = .ok (.aload_n 0, 1) := by decide +kernel
theorem dX7_begin_1 : decode cX7_begin 1 = .ok (.aload_n 1, 1) := by decide +kernel
theorem dX7_begin_2 : decode cX7_begin 2 = .ok (.putfield 22, 3) := by decide +kernel
theorem dX7_begin_5 : decode cX7_begin 5 = .ok (.aload_n 0, 1) := by decide +kernel
theorem dX7_begin_6 : decode cX7_begin 6 = .ok (.aload_n 1, 1) := by decide +kernel
theorem dX7_begin_7 : decode cX7_begin 7 = .ok (.getfield 26, 3) := by decide +kernel
theorem dX7_begin_10 : decode cX7_begin 10 = .ok (.putfield 9, 3) := by decide +kernel
theorem dX7_begin_13 : decode cX7_begin 13 = .ok (.aload_n 0, 1) := by decide +kernel
theorem dX7_begin_14 : decode cX7_begin 14 = .ok (.iconst 0, 1) := by decide +kernel
theorem dX7_begin_15 : decode cX7_begin 15 = .ok (.putfield 15, 3) := by decide +kernel
theorem dX7_begin_18 : decode cX7_begin 18 = .ok (.aload_n 1, 1) := by decide +kernel
theorem dX7_begin_19 : decode cX7_begin 19 = .ok (.getfield 31, 3) := by decide +kernel
theorem dX7_begin_22 : decode cX7_begin 22 = .ok (.iconst 0, 1) := by decide +kernel
theorem dX7_begin_23 : decode cX7_begin 23 = .ok (.aload_n 0, 1) := by decide +kernel
theorem dX7_begin_24 : decode cX7_begin 24 = .ok (.getfield 18, 3) := by decide +kernel
theorem dX7_begin_27 : decode cX7_begin 27 = .ok (.iconst 0, 1) := by decide +kernel
theorem dX7_begin_28 : decode cX7_begin 28 = .ok (.bipush 10, 2) := by decide +kernel
theorem dX7_begin_30 : decode cX7_begin 30 = .ok (.invokestatic 32, 3) := by decide +kernel
theorem dX7_begin_33 : decode cX7_begin 33 = .ok (.return_, 1) := by decide +kernel
set_option maxHeartbeats 4000000 in
set_option maxRecDepth 100000 in
theorem gX5_readPerson_fb208ee (l : Launch) (D : va_G) (cy : Nat → ClassId) (h0 : Nat) (h1 : Nat) (h2 : Nat) (h3 : Nat) (h4 : Nat) (h5 : Nat) (h6 : Nat) (h7 : Nat) (h8 : Nat) (h9 : Nat) (h10 : Nat) (p0 : Int32) (p1 : Int32) (p2 : Int32) (p3 : Int32) (w0 : Value) (p4 : Int32) (p5 : Int32) (w1 : Value) (p6 : Int32) (p7 : Int32) (f0 : Nat → Int32) (f1 : Nat → Int32) (f2 : Nat → Int32) (p8 : Int32) (p9 : Int32) (p10 : Int32) (p11 : Int32) (w2 : Value) (w3 : Value) (w4 : Value) (f3 : Nat → Int32) (f4 : Nat → Int32) (f5 : Nat → Int32) (f6 : Nat → Int32) (f7 : Nat → Int32) (hp0 : (-1) ≤ (p0).toInt ∧ (p0).toInt ≤ 900) (hp1 : (-2147483648) ≤ (p1).toInt ∧ (p1).toInt ≤ 2147483647) (hp2 : (-2147483648) ≤ (p2).toInt ∧ (p2).toInt ≤ 2147483647) (hp3 : (-2147483648) ≤ (p3).toInt ∧ (p3).toInt ≤ 2147483647) (hp4 : 0 ≤ (p4).toInt ∧ (p4).toInt ≤ 900) (hp5 : (-2147483648) ≤ (p5).toInt ∧ (p5).toInt ≤ 2147483647) (hp6 : 0 ≤ (p6).toInt ∧ (p6).toInt ≤ 900) (hp7 : 0 ≤ (p7).toInt ∧ (p7).toInt ≤ 901) (hp8 : 1 ≤ (p8).toInt ∧ (p8).toInt ≤ 3) (hp9 : 0 ≤ (p9).toInt ∧ (p9).toInt ≤ 10) (hp10 : (-2147483648) ≤ (p10).toInt ∧ (p10).toInt ≤ 2147483647) (hp11 : (-2147483648) ≤ (p11).toInt ∧ (p11).toInt ≤ 2147483647) (rf3 : RG f3 10 0 999) (hpre0 : KZ f0 (p7 : Int32).toInt) (hpre1 : 0 ≤ (p0 : Int32).toInt ∧ (p0 : Int32).toInt < (p7 : Int32).toInt) (hpre2 : (p2 : Int32).toInt ≠ 0 ∨ (p1 : Int32).toInt = 26 ∨ (p1 : Int32).toInt = 27 ∨ (p0 : Int32).toInt + 1 < (p7 : Int32).toInt) (hpre3 : (p2 : Int32).toInt = 0 ∨ (p1 : Int32).toInt = 27) (hpre4 : (p1 : Int32).toInt ≠ 26 ∧ (p1 : Int32).toInt ≠ 27) (sz : Nat) : MV l yX5_readPerson cX5_readPerson 5 { frames := 3, cells := 0, slots := 0, locals := 65 } [.ref h0] D cy (wk_e27dce96c cy h0 h1 p0 p1 p2 p3 h5 w0 p4 p5 h1 w1 p6 p7 h2 h3 h4 h2 f0 h3 f1 h4 f2 h5 p8 p9 p10 p11 w2 w3 w4 h6 h7 h8 h9 h10 h6 f3 h7 f4 h8 f5 h9 f6 h10 f7) sz (fun u => (1 ≤ (u.2.1 0 0).toInt ∧ (u.2.1 0 0).toInt ≤ 10) ∧ RG (u.2.1 1) 10 0 999 ∧ ((-1) ≤ (u.2.1 6 0).toInt ∧ (u.2.1 6 0).toInt ≤ 900) ∧ ((-2147483648) ≤ (u.2.1 7 0).toInt ∧ (u.2.1 7 0).toInt ≤ 2147483647) ∧ ((-2147483648) ≤ (u.2.1 8 0).toInt ∧ (u.2.1 8 0).toInt ≤ 2147483647) ∧ ((-2147483648) ≤ (u.2.1 9 0).toInt ∧ (u.2.1 9 0).toInt ≤ 2147483647) ∧ (0 ≤ ((u.2.1 6 0) : Int32).toInt ∧ ((u.2.1 6 0) : Int32).toInt < (p7 : Int32).toInt) ∧ (((u.2.1 8 0) : Int32).toInt ≠ 0 ∨ ((u.2.1 7 0) : Int32).toInt = 26 ∨ ((u.2.1 7 0) : Int32).toInt = 27 ∨ ((u.2.1 6 0) : Int32).toInt + 1 < (p7 : Int32).toInt) ∧ (((u.2.1 8 0) : Int32).toInt = 0 ∨ ((u.2.1 7 0) : Int32).toInt = 27) ∧ (((u.2.1 8 0) : Int32).toInt ≠ 0 ∨ (p2 : Int32).toInt = 0) ∧ ((p0 : Int32).toInt ≤ ((u.2.1 6 0) : Int32).toInt) ∧ (((u.2.1 8 0) : Int32).toInt ≠ 0 ∨ (p0 : Int32).toInt + 1 ≤ ((u.2.1 6 0) : Int32).toInt) ∧ True) (fun u => (wk_e27dce96c cy h0 h1 (u.2.1 6 0) (u.2.1 7 0) (u.2.1 8 0) (u.2.1 9 0) h5 w0 p4 p5 h1 w1 p6 p7 h2 h3 h4 h2 f0 h3 f1 h4 f2 h5 p8 (u.2.1 0 0) p10 p11 w2 w3 w4 h6 h7 h8 h9 h10 h6 (u.2.1 1) h7 (u.2.1 2) h8 (u.2.1 3) h9 (u.2.1 4) h10 (u.2.1 5))) 0 0 := by
  refine q_ent (own := RX5) (by decide) rfl (Nat.le_of_ble_eq_true rfl) (fun p e s m below meth c ls X hr hlk hnm hK hT h hA hl => ?_)
  obtain ⟨hx, hb, hml, hown, ht⟩ := id X
  replace hl : lv_has ls 5 [(0, .ref h0)] := hl
  refine lv_aload_n hx hb dX5_readPerson_0 rfl (lv_at hl 0 rfl) ?_
  refine q_get X hK h 0 rfl rfl wf_5 5 (by decide) rfl wm_1_151 dX5_readPerson_1 ?_
  refine q_get X hK h 5 rfl rfl wf_3 1 (by decide) rfl wm_1_86 dX5_readPerson_4 ?_
  refine lv_istore_n (lv' := [(1, .int p9), (0, .ref h0)]) hx hb dX5_readPerson_7 rfl hl (by decide) rfl (fun ls_1 hl_1 => ?_)
  clear hl
  refine lv_iload_n hx hb dX5_readPerson_8 rfl (lv_at hl_1 0 rfl) ?_
  refine lv_bipush (v := 10) hx hb dX5_readPerson_9 (by decide) ?_
  refine lv_icmp_lt (tgt := 20) hx hb dX5_readPerson_11 (by decide) (fun c_2 => ?_) (fun c_2 => ?_)
  · replace c_2 := i_lt (x := p9) (y := 10) rfl (show (10 : Int32).toInt = 10 by decide) c_2
    refine lv_aload_n hx hb dX5_readPerson_20 rfl (lv_at hl_1 1 rfl) ?_
    refine q_callVv (rest := []) (wr := [(h4, .inl (cy 1, 901, .inl f2)), (h5, .inr (3, [.int p8, .int p9, .int p10, .int p11, w2, w3, w4, .ref h6, .ref h7, .ref h8, .ref h9, .ref h10])), (h6, .inl (cy 1, 10, .inl f3)), (h7, .inl (cy 1, 10, .inl f4)), (h8, .inl (cy 1, 10, .inl f5)), (h9, .inl (cy 1, 10, .inl f6)), (h10, .inl (cy 1, 10, .inl f7))]) X hK hT hA h (fun sz => gX5_advance_9820dfe l D cy h0 h1 h2 h3 p0 p1 p2 p3 (.ref h5) w0 p4 p5 w1 p6 p7 (.ref h4) f0 f1 hp0 (i_rng _) (i_rng _) (i_rng _) hp4 (i_rng _) hp6 hp7 (hpre0) (hpre3) (by (first | (clear hpre2 hpre3; omega) | omega)) sz) wm_3_68 wm_3_71 wm_1_2 hd_X5_advance wm_3_70 wp_1_8 (ci := 5) (q0 := 0) rfl rfl ⟨Nat.le_of_ble_eq_true rfl, Nat.le_of_ble_eq_true rfl⟩ hl_1.1 rfl (Nat.le_of_ble_eq_true rfl) dX5_readPerson_21 ⟨Nat.le_of_ble_eq_true rfl, Nat.le_of_ble_eq_true rfl⟩ [0, 1, 2, 3] [4, 5, 6, 7, 8, 9, 10] rfl rfl (by decide) rfl rfl (fun u_3 H locs w_3 h_3 => ?_)
    clear h
    obtain ⟨w3_0, w3_1, w3_2, w3_3, y3_0, y3_1, y3_2, y3_3, y3_4, y3_5, _⟩ := w_3
    replace h_3 : qW D _ _ (wk_31c2093ae cy h4 f2 h5 p8 p9 p10 p11 w2 w3 w4 h6 h7 h8 h9 h10 h6 f3 h7 f4 h8 f5 h9 f6 h10 f7 h0 h1 (u_3.2.1 0 0) (u_3.2.1 1 0) (u_3.2.1 2 0) (u_3.2.1 3 0) h5 w0 p4 p5 h1 w1 p6 p7 h2 h3 h4 h2 f0 h3 f1) _ _ := h_3
    refine lv_iconst (v := 0) hx hb dX5_readPerson_24 (by decide) ?_
    refine lv_istore_n (lv' := [(2, .int 0), (1, .int p9), (0, .ref h0)]) hx hb dX5_readPerson_25 rfl hl_1 (by decide) rfl (fun ls_4 hl_4 => ?_)
    clear hl_1
    refine lv_iconst (v := 0) hx hb dX5_readPerson_26 (by decide) ?_
    refine lv_istore_n (lv' := [(3, .int 0), (2, .int 0), (1, .int p9), (0, .ref h0)]) hx hb dX5_readPerson_27 rfl hl_4 (by decide) rfl (fun ls_5 hl_5 => ?_)
    clear hl_4
    refine lv_iload_n hx hb dX5_readPerson_28 rfl (lv_at hl_5 0 rfl) ?_
    refine lv_iconst (v := 3) hx hb dX5_readPerson_29 (by decide) ?_
    refine lv_icmp_ge (tgt := 67) hx hb dX5_readPerson_30 (by decide) (fun c => absurd c (by decide +kernel)) (fun _ => ?_)
    refine lv_bipush (v := 10) hx hb dX5_readPerson_33 (by decide) ?_
    refine lv_iload_n hx hb dX5_readPerson_35 rfl (lv_at hl_5 1 rfl) ?_
    refine lv_imul hx hb dX5_readPerson_36 ?_
    refine q_c 0 (by decide +kernel) ?_
    refine lv_iload_n hx hb dX5_readPerson_37 rfl (lv_at hl_5 0 rfl) ?_
    refine lv_aload_n hx hb dX5_readPerson_38 rfl (lv_at hl_5 3 rfl) ?_
    refine q_get X hK h_3 7 rfl rfl wf_5 5 (by decide) rfl wm_1_151 dX5_readPerson_39 ?_
    refine q_get X hK h_3 1 rfl rfl wf_3 0 (by decide) rfl wm_1_76 dX5_readPerson_42 ?_
    refine q_jn (pc2 := 59) (fun H locs ls st => ∃ v59_6_0 : Int32, ∃ v59_6_1 : Int32, ∃ v59_6_2 : Int32, ∃ v59_6_3 : Int32, ∃ v59_6_4 : Int32, ((-1) ≤ (v59_6_0).toInt ∧ (v59_6_0).toInt ≤ 900) ∧ ((-2147483648) ≤ (v59_6_1).toInt ∧ (v59_6_1).toInt ≤ 2147483647) ∧ ((-2147483648) ≤ (v59_6_2).toInt ∧ (v59_6_2).toInt ≤ 2147483647) ∧ ((-2147483648) ≤ (v59_6_3).toInt ∧ (v59_6_3).toInt ≤ 2147483647) ∧ (0 ≤ (v59_6_4).toInt ∧ (v59_6_4).toInt ≤ 9) ∧ (0 ≤ (v59_6_0 : Int32).toInt ∧ (v59_6_0 : Int32).toInt < (p7 : Int32).toInt) ∧ ((v59_6_2 : Int32).toInt ≠ 0 ∨ (v59_6_1 : Int32).toInt = 26 ∨ (v59_6_1 : Int32).toInt = 27 ∨ (v59_6_0 : Int32).toInt + 1 < (p7 : Int32).toInt) ∧ ((v59_6_2 : Int32).toInt = 0 ∨ (v59_6_1 : Int32).toInt = 27) ∧ ((v59_6_2 : Int32).toInt ≠ 0 ∨ (p2 : Int32).toInt = 0) ∧ ((p0 : Int32).toInt ≤ (v59_6_0 : Int32).toInt) ∧ ((v59_6_2 : Int32).toInt ≠ 0 ∨ (p0 : Int32).toInt + 1 ≤ (v59_6_0 : Int32).toInt) ∧ st = [.int v59_6_4, .int 0] ∧ qW D (va_A (wk_e27dce96c cy h0 h1 p0 p1 p2 p3 h5 w0 p4 p5 h1 w1 p6 p7 h2 h3 h4 h2 f0 h3 f1 h4 f2 h5 p8 p9 p10 p11 w2 w3 w4 h6 h7 h8 h9 h10 h6 f3 h7 f4 h8 f5 h9 f6 h10 f7) sz) s.heap (wk_31c2093ae cy h4 f2 h5 p8 p9 p10 p11 w2 w3 w4 h6 h7 h8 h9 h10 h6 f3 h7 f4 h8 f5 h9 f6 h10 f7 h0 h1 v59_6_0 v59_6_1 v59_6_2 v59_6_3 h5 w0 p4 p5 h1 w1 p6 p7 h2 h3 h4 h2 f0 h3 f1) H locs ∧ lv_has ls 5 [(0, .ref h0), (1, .int p9), (2, .int 0), (3, .int 0)]) (fun H locs ls st hP => ?_) (fun J_59 => ?_)
    · obtain ⟨v59_6_0, v59_6_1, v59_6_2, v59_6_3, v59_6_4, hv59_6_0, hv59_6_1, hv59_6_2, hv59_6_3, hv59_6_4, x7_0, x8_1, x9_2, x10_3, x11_4, x12_5, rfl, h, hl⟩ := hP
      refine lv_iadd hx hb dX5_readPerson_59 ?_
      obtain ⟨z_13, ez_13, hz_13⟩ := e_add (x := 0) (y := v59_6_4) (show (0 : Int32).toInt = 0 by decide) rfl (by omega) (by omega)
      refine q_c z_13 ez_13 ?_
      clear ez_13
      refine lv_istore_n (lv' := [(2, .int z_13), (0, .ref h0), (1, .int p9), (3, .int 0)]) hx hb dX5_readPerson_60 rfl hl (by decide) rfl (fun ls_14 hl_14 => ?_)
      clear hl
      refine lv_iinc (v := 1) (lv' := [(3, .int 1), (2, .int z_13), (0, .ref h0), (1, .int p9)]) hx hb dX5_readPerson_61 hl_14 (k := 3) rfl (by decide +kernel) (by decide) rfl (fun ls_15 hl_15 => ?_)
      clear hl_14
      refine lv_goto (tgt := 28) hx hb dX5_readPerson_64 (by decide) ?_
      refine lv_iload_n hx hb dX5_readPerson_28 rfl (lv_at hl_15 0 rfl) ?_
      refine lv_iconst (v := 3) hx hb dX5_readPerson_29 (by decide) ?_
      refine lv_icmp_ge (tgt := 67) hx hb dX5_readPerson_30 (by decide) (fun c => absurd c (by decide +kernel)) (fun _ => ?_)
      refine lv_bipush (v := 10) hx hb dX5_readPerson_33 (by decide) ?_
      refine lv_iload_n hx hb dX5_readPerson_35 rfl (lv_at hl_15 1 rfl) ?_
      refine lv_imul hx hb dX5_readPerson_36 ?_
      obtain ⟨z_16, ez_16, hz_16⟩ := e_mul (x := 10) (y := z_13) (show (10 : Int32).toInt = 10 by decide) rfl (by omega) (by omega)
      refine q_c z_16 ez_16 ?_
      clear ez_16
      refine lv_iload_n hx hb dX5_readPerson_37 rfl (lv_at hl_15 0 rfl) ?_
      refine lv_aload_n hx hb dX5_readPerson_38 rfl (lv_at hl_15 2 rfl) ?_
      refine q_get X hK h 7 rfl rfl wf_5 5 (by decide) rfl wm_1_151 dX5_readPerson_39 ?_
      refine q_get X hK h 1 rfl rfl wf_3 0 (by decide) rfl wm_1_76 dX5_readPerson_42 ?_
      refine q_jn (pc2 := 59) (fun H locs ls st => ∃ v59_17_0 : Int32, ∃ v59_17_1 : Int32, ∃ v59_17_2 : Int32, ∃ v59_17_3 : Int32, ∃ v59_17_4 : Int32, ((-1) ≤ (v59_17_0).toInt ∧ (v59_17_0).toInt ≤ 900) ∧ ((-2147483648) ≤ (v59_17_1).toInt ∧ (v59_17_1).toInt ≤ 2147483647) ∧ ((-2147483648) ≤ (v59_17_2).toInt ∧ (v59_17_2).toInt ≤ 2147483647) ∧ ((-2147483648) ≤ (v59_17_3).toInt ∧ (v59_17_3).toInt ≤ 2147483647) ∧ (0 ≤ (v59_17_4).toInt ∧ (v59_17_4).toInt ≤ 9) ∧ (0 ≤ (v59_17_0 : Int32).toInt ∧ (v59_17_0 : Int32).toInt < (p7 : Int32).toInt) ∧ ((v59_17_2 : Int32).toInt ≠ 0 ∨ (v59_17_1 : Int32).toInt = 26 ∨ (v59_17_1 : Int32).toInt = 27 ∨ (v59_17_0 : Int32).toInt + 1 < (p7 : Int32).toInt) ∧ ((v59_17_2 : Int32).toInt = 0 ∨ (v59_17_1 : Int32).toInt = 27) ∧ ((v59_17_2 : Int32).toInt ≠ 0 ∨ (p2 : Int32).toInt = 0) ∧ ((p0 : Int32).toInt ≤ (v59_17_0 : Int32).toInt) ∧ ((v59_17_2 : Int32).toInt ≠ 0 ∨ (p0 : Int32).toInt + 1 ≤ (v59_17_0 : Int32).toInt) ∧ st = [.int v59_17_4, .int z_16] ∧ qW D (va_A (wk_e27dce96c cy h0 h1 p0 p1 p2 p3 h5 w0 p4 p5 h1 w1 p6 p7 h2 h3 h4 h2 f0 h3 f1 h4 f2 h5 p8 p9 p10 p11 w2 w3 w4 h6 h7 h8 h9 h10 h6 f3 h7 f4 h8 f5 h9 f6 h10 f7) sz) s.heap (wk_31c2093ae cy h4 f2 h5 p8 p9 p10 p11 w2 w3 w4 h6 h7 h8 h9 h10 h6 f3 h7 f4 h8 f5 h9 f6 h10 f7 h0 h1 v59_17_0 v59_17_1 v59_17_2 v59_17_3 h5 w0 p4 p5 h1 w1 p6 p7 h2 h3 h4 h2 f0 h3 f1) H locs ∧ lv_has ls 5 [(0, .ref h0), (1, .int p9), (2, .int z_13), (3, .int 1)]) (fun H locs ls st hP => ?_) (fun J_59 => ?_)
      · obtain ⟨v59_17_0, v59_17_1, v59_17_2, v59_17_3, v59_17_4, hv59_17_0, hv59_17_1, hv59_17_2, hv59_17_3, hv59_17_4, x18_0, x19_1, x20_2, x21_3, x22_4, x23_5, rfl, h, hl⟩ := hP
        refine lv_iadd hx hb dX5_readPerson_59 ?_
        obtain ⟨z_24, ez_24, hz_24⟩ := e_add (x := z_16) (y := v59_17_4) rfl rfl (by omega) (by omega)
        refine q_c z_24 ez_24 ?_
        clear ez_24
        refine lv_istore_n (lv' := [(2, .int z_24), (0, .ref h0), (1, .int p9), (3, .int 1)]) hx hb dX5_readPerson_60 rfl hl (by decide) rfl (fun ls_25 hl_25 => ?_)
        clear hl
        refine lv_iinc (v := 2) (lv' := [(3, .int 2), (2, .int z_24), (0, .ref h0), (1, .int p9)]) hx hb dX5_readPerson_61 hl_25 (k := 3) rfl (by decide +kernel) (by decide) rfl (fun ls_26 hl_26 => ?_)
        clear hl_25
        refine lv_goto (tgt := 28) hx hb dX5_readPerson_64 (by decide) ?_
        refine lv_iload_n hx hb dX5_readPerson_28 rfl (lv_at hl_26 0 rfl) ?_
        refine lv_iconst (v := 3) hx hb dX5_readPerson_29 (by decide) ?_
        refine lv_icmp_ge (tgt := 67) hx hb dX5_readPerson_30 (by decide) (fun c => absurd c (by decide +kernel)) (fun _ => ?_)
        refine lv_bipush (v := 10) hx hb dX5_readPerson_33 (by decide) ?_
        refine lv_iload_n hx hb dX5_readPerson_35 rfl (lv_at hl_26 1 rfl) ?_
        refine lv_imul hx hb dX5_readPerson_36 ?_
        obtain ⟨z_27, ez_27, hz_27⟩ := e_mul (x := 10) (y := z_24) (show (10 : Int32).toInt = 10 by decide) rfl (by omega) (by omega)
        refine q_c z_27 ez_27 ?_
        clear ez_27
        refine lv_iload_n hx hb dX5_readPerson_37 rfl (lv_at hl_26 0 rfl) ?_
        refine lv_aload_n hx hb dX5_readPerson_38 rfl (lv_at hl_26 2 rfl) ?_
        refine q_get X hK h 7 rfl rfl wf_5 5 (by decide) rfl wm_1_151 dX5_readPerson_39 ?_
        refine q_get X hK h 1 rfl rfl wf_3 0 (by decide) rfl wm_1_76 dX5_readPerson_42 ?_
        refine q_jn (pc2 := 59) (fun H locs ls st => ∃ v59_28_0 : Int32, ∃ v59_28_1 : Int32, ∃ v59_28_2 : Int32, ∃ v59_28_3 : Int32, ∃ v59_28_4 : Int32, ((-1) ≤ (v59_28_0).toInt ∧ (v59_28_0).toInt ≤ 900) ∧ ((-2147483648) ≤ (v59_28_1).toInt ∧ (v59_28_1).toInt ≤ 2147483647) ∧ ((-2147483648) ≤ (v59_28_2).toInt ∧ (v59_28_2).toInt ≤ 2147483647) ∧ ((-2147483648) ≤ (v59_28_3).toInt ∧ (v59_28_3).toInt ≤ 2147483647) ∧ (0 ≤ (v59_28_4).toInt ∧ (v59_28_4).toInt ≤ 9) ∧ (0 ≤ (v59_28_0 : Int32).toInt ∧ (v59_28_0 : Int32).toInt < (p7 : Int32).toInt) ∧ ((v59_28_2 : Int32).toInt ≠ 0 ∨ (v59_28_1 : Int32).toInt = 26 ∨ (v59_28_1 : Int32).toInt = 27 ∨ (v59_28_0 : Int32).toInt + 1 < (p7 : Int32).toInt) ∧ ((v59_28_2 : Int32).toInt = 0 ∨ (v59_28_1 : Int32).toInt = 27) ∧ ((v59_28_2 : Int32).toInt ≠ 0 ∨ (p2 : Int32).toInt = 0) ∧ ((p0 : Int32).toInt ≤ (v59_28_0 : Int32).toInt) ∧ ((v59_28_2 : Int32).toInt ≠ 0 ∨ (p0 : Int32).toInt + 1 ≤ (v59_28_0 : Int32).toInt) ∧ st = [.int v59_28_4, .int z_27] ∧ qW D (va_A (wk_e27dce96c cy h0 h1 p0 p1 p2 p3 h5 w0 p4 p5 h1 w1 p6 p7 h2 h3 h4 h2 f0 h3 f1 h4 f2 h5 p8 p9 p10 p11 w2 w3 w4 h6 h7 h8 h9 h10 h6 f3 h7 f4 h8 f5 h9 f6 h10 f7) sz) s.heap (wk_31c2093ae cy h4 f2 h5 p8 p9 p10 p11 w2 w3 w4 h6 h7 h8 h9 h10 h6 f3 h7 f4 h8 f5 h9 f6 h10 f7 h0 h1 v59_28_0 v59_28_1 v59_28_2 v59_28_3 h5 w0 p4 p5 h1 w1 p6 p7 h2 h3 h4 h2 f0 h3 f1) H locs ∧ lv_has ls 5 [(0, .ref h0), (1, .int p9), (2, .int z_24), (3, .int 2)]) (fun H locs ls st hP => ?_) (fun J_59 => ?_)
        · obtain ⟨v59_28_0, v59_28_1, v59_28_2, v59_28_3, v59_28_4, hv59_28_0, hv59_28_1, hv59_28_2, hv59_28_3, hv59_28_4, x29_0, x30_1, x31_2, x32_3, x33_4, x34_5, rfl, h, hl⟩ := hP
          refine lv_iadd hx hb dX5_readPerson_59 ?_
          obtain ⟨z_35, ez_35, hz_35⟩ := e_add (x := z_27) (y := v59_28_4) rfl rfl (by omega) (by omega)
          refine q_c z_35 ez_35 ?_
          clear ez_35
          refine lv_istore_n (lv' := [(2, .int z_35), (0, .ref h0), (1, .int p9), (3, .int 2)]) hx hb dX5_readPerson_60 rfl hl (by decide) rfl (fun ls_36 hl_36 => ?_)
          clear hl
          refine lv_iinc (v := 3) (lv' := [(3, .int 3), (2, .int z_35), (0, .ref h0), (1, .int p9)]) hx hb dX5_readPerson_61 hl_36 (k := 3) rfl (by decide +kernel) (by decide) rfl (fun ls_37 hl_37 => ?_)
          clear hl_36
          refine lv_goto (tgt := 28) hx hb dX5_readPerson_64 (by decide) ?_
          refine lv_iload_n hx hb dX5_readPerson_28 rfl (lv_at hl_37 0 rfl) ?_
          refine lv_iconst (v := 3) hx hb dX5_readPerson_29 (by decide) ?_
          refine lv_icmp_ge (tgt := 67) hx hb dX5_readPerson_30 (by decide) (fun _ => ?_) (fun c => absurd c (by decide +kernel))
          refine lv_aload_n hx hb dX5_readPerson_67 rfl (lv_at hl_37 2 rfl) ?_
          refine q_get X hK h 7 rfl rfl wf_5 5 (by decide) rfl wm_1_151 dX5_readPerson_68 ?_
          refine q_get X hK h 1 rfl rfl wf_3 7 (by decide) rfl wm_1_104 dX5_readPerson_71 ?_
          refine lv_iload_n hx hb dX5_readPerson_74 rfl (lv_at hl_37 3 rfl) ?_
          refine lv_iload_n hx hb dX5_readPerson_75 rfl (lv_at hl_37 1 rfl) ?_
          refine q_iast X hK h 2 rfl (i_in rfl (by omega) (by omega)) dX5_readPerson_76 (fun H locs h_39 => ?_)
          clear h
          replace h_39 : qW D _ _ (wk_31c2093ae cy h4 f2 h5 p8 p9 p10 p11 w2 w3 w4 h6 h7 h8 h9 h10 h6 (upd f3 (Int32.toNatClampNeg p9) z_35) h7 f4 h8 f5 h9 f6 h10 f7 h0 h1 v59_28_0 v59_28_1 v59_28_2 v59_28_3 h5 w0 p4 p5 h1 w1 p6 p7 h2 h3 h4 h2 f0 h3 f1) _ _ := h_39
          obtain ⟨F_38, eF_38, rF_38⟩ := rg_upd rf3 (Int32.toNatClampNeg p9) (x := z_35) rfl (by omega) (by omega)
          rw [eF_38] at h_39
          clear eF_38
          refine lv_aload_n hx hb dX5_readPerson_77 rfl (lv_at hl_37 2 rfl) ?_
          refine q_get X hK h_39 7 rfl rfl wf_5 5 (by decide) rfl wm_1_151 dX5_readPerson_78 ?_
          refine q_get X hK h_39 1 rfl rfl wf_3 8 (by decide) rfl wm_1_108 dX5_readPerson_81 ?_
          refine lv_iload_n hx hb dX5_readPerson_84 rfl (lv_at hl_37 3 rfl) ?_
          refine lv_iconst (v := 0) hx hb dX5_readPerson_85 (by decide) ?_
          refine q_iast X hK h_39 3 rfl (i_in rfl (by omega) (by omega)) dX5_readPerson_86 (fun H locs h_41 => ?_)
          clear h_39
          replace h_41 : qW D _ _ (wk_31c2093ae cy h4 f2 h5 p8 p9 p10 p11 w2 w3 w4 h6 h7 h8 h9 h10 h6 F_38 h7 (upd f4 (Int32.toNatClampNeg p9) 0) h8 f5 h9 f6 h10 f7 h0 h1 v59_28_0 v59_28_1 v59_28_2 v59_28_3 h5 w0 p4 p5 h1 w1 p6 p7 h2 h3 h4 h2 f0 h3 f1) _ _ := h_41
          obtain ⟨F_40, eF_40⟩ : ∃ z, (upd f4 (Int32.toNatClampNeg p9) 0) = z := ⟨_, rfl⟩
          rw [eF_40] at h_41
          clear eF_40
          refine lv_aload_n hx hb dX5_readPerson_87 rfl (lv_at hl_37 2 rfl) ?_
          refine q_get X hK h_41 7 rfl rfl wf_5 5 (by decide) rfl wm_1_151 dX5_readPerson_88 ?_
          refine q_get X hK h_41 1 rfl rfl wf_3 9 (by decide) rfl wm_1_112 dX5_readPerson_91 ?_
          refine lv_iload_n hx hb dX5_readPerson_94 rfl (lv_at hl_37 3 rfl) ?_
          refine lv_ldc hx hb hown (ht _ wm_3_92) dX5_readPerson_95 ?_
          refine q_iast X hK h_41 4 rfl (i_in rfl (by omega) (by omega)) dX5_readPerson_97 (fun H locs h_43 => ?_)
          clear h_41
          replace h_43 : qW D _ _ (wk_31c2093ae cy h4 f2 h5 p8 p9 p10 p11 w2 w3 w4 h6 h7 h8 h9 h10 h6 F_38 h7 F_40 h8 (upd f5 (Int32.toNatClampNeg p9) 1000000) h9 f6 h10 f7 h0 h1 v59_28_0 v59_28_1 v59_28_2 v59_28_3 h5 w0 p4 p5 h1 w1 p6 p7 h2 h3 h4 h2 f0 h3 f1) _ _ := h_43
          obtain ⟨F_42, eF_42⟩ : ∃ z, (upd f5 (Int32.toNatClampNeg p9) 1000000) = z := ⟨_, rfl⟩
          rw [eF_42] at h_43
          clear eF_42
          refine lv_aload_n hx hb dX5_readPerson_98 rfl (lv_at hl_37 2 rfl) ?_
          refine q_get X hK h_43 7 rfl rfl wf_5 5 (by decide) rfl wm_1_151 dX5_readPerson_99 ?_
          refine q_get X hK h_43 1 rfl rfl wf_3 10 (by decide) rfl wm_1_115 dX5_readPerson_102 ?_
          refine lv_iload_n hx hb dX5_readPerson_105 rfl (lv_at hl_37 3 rfl) ?_
          refine lv_bipush (v := 10) hx hb dX5_readPerson_106 (by decide) ?_
          refine q_iast X hK h_43 5 rfl (i_in rfl (by omega) (by omega)) dX5_readPerson_108 (fun H locs h_45 => ?_)
          clear h_43
          replace h_45 : qW D _ _ (wk_31c2093ae cy h4 f2 h5 p8 p9 p10 p11 w2 w3 w4 h6 h7 h8 h9 h10 h6 F_38 h7 F_40 h8 F_42 h9 (upd f6 (Int32.toNatClampNeg p9) 10) h10 f7 h0 h1 v59_28_0 v59_28_1 v59_28_2 v59_28_3 h5 w0 p4 p5 h1 w1 p6 p7 h2 h3 h4 h2 f0 h3 f1) _ _ := h_45
          obtain ⟨F_44, eF_44⟩ : ∃ z, (upd f6 (Int32.toNatClampNeg p9) 10) = z := ⟨_, rfl⟩
          rw [eF_44] at h_45
          clear eF_44
          refine lv_aload_n hx hb dX5_readPerson_109 rfl (lv_at hl_37 2 rfl) ?_
          refine q_get X hK h_45 7 rfl rfl wf_5 5 (by decide) rfl wm_1_151 dX5_readPerson_110 ?_
          refine q_get X hK h_45 1 rfl rfl wf_3 11 (by decide) rfl wm_1_118 dX5_readPerson_113 ?_
          refine lv_iload_n hx hb dX5_readPerson_116 rfl (lv_at hl_37 3 rfl) ?_
          refine lv_iconst (v := 1) hx hb dX5_readPerson_117 (by decide) ?_
          refine q_iast X hK h_45 6 rfl (i_in rfl (by omega) (by omega)) dX5_readPerson_118 (fun H locs h_47 => ?_)
          clear h_45
          replace h_47 : qW D _ _ (wk_31c2093ae cy h4 f2 h5 p8 p9 p10 p11 w2 w3 w4 h6 h7 h8 h9 h10 h6 F_38 h7 F_40 h8 F_42 h9 F_44 h10 (upd f7 (Int32.toNatClampNeg p9) 1) h0 h1 v59_28_0 v59_28_1 v59_28_2 v59_28_3 h5 w0 p4 p5 h1 w1 p6 p7 h2 h3 h4 h2 f0 h3 f1) _ _ := h_47
          obtain ⟨F_46, eF_46⟩ : ∃ z, (upd f7 (Int32.toNatClampNeg p9) 1) = z := ⟨_, rfl⟩
          rw [eF_46] at h_47
          clear eF_46
          refine lv_iconst (v := 1) hx hb dX5_readPerson_119 (by decide) ?_
          refine lv_istore_n (lv' := [(3, .int 1), (2, .int z_35), (0, .ref h0), (1, .int p9)]) hx hb dX5_readPerson_120 rfl hl_37 (by decide) rfl (fun ls_48 hl_48 => ?_)
          clear hl_37
          refine lv_iconst (v := 0) hx hb dX5_readPerson_121 (by decide) ?_
          refine lv_istore (lv' := [(4, .int 0), (3, .int 1), (2, .int z_35), (0, .ref h0), (1, .int p9)]) hx hb dX5_readPerson_122 hl_48 (by decide) rfl (fun ls_49 hl_49 => ?_)
          clear hl_48
          refine q_wl (fun (q : Int32 × Int32 × Int32 × Int32 × Int32 × Int32) H locs ls => match q with | (v124_50_0, v124_50_1, v124_50_2, v124_50_3, v124_50_4, v124_50_5) => ∃ v124_50_6 : Nat → Int32, ∃ v124_50_7 : Nat → Int32, ∃ v124_50_8 : Nat → Int32, ∃ v124_50_9 : Nat → Int32, (0 ≤ (v124_50_0).toInt ∧ (v124_50_0).toInt ≤ 901) ∧ (0 ≤ (v124_50_1).toInt ∧ (v124_50_1).toInt ≤ 1) ∧ (0 ≤ (v124_50_2).toInt ∧ (v124_50_2).toInt ≤ 900) ∧ ((-2147483648) ≤ (v124_50_3).toInt ∧ (v124_50_3).toInt ≤ 2147483647) ∧ ((-2147483648) ≤ (v124_50_4).toInt ∧ (v124_50_4).toInt ≤ 2147483647) ∧ ((-2147483648) ≤ (v124_50_5).toInt ∧ (v124_50_5).toInt ≤ 2147483647) ∧ (0 ≤ (v124_50_2 : Int32).toInt ∧ (v124_50_2 : Int32).toInt < (p7 : Int32).toInt) ∧ ((v124_50_4 : Int32).toInt ≠ 0 ∨ (v124_50_3 : Int32).toInt = 26 ∨ (v124_50_3 : Int32).toInt = 27 ∨ (v124_50_2 : Int32).toInt + 1 < (p7 : Int32).toInt) ∧ ((v124_50_4 : Int32).toInt = 0 ∨ (v124_50_3 : Int32).toInt = 27) ∧ ((v124_50_4 : Int32).toInt ≠ 0 ∨ (p2 : Int32).toInt = 0) ∧ ((p0 : Int32).toInt ≤ (v124_50_2 : Int32).toInt) ∧ ((v124_50_4 : Int32).toInt ≠ 0 ∨ (p0 : Int32).toInt + 1 ≤ (v124_50_2 : Int32).toInt) ∧ qW D (va_A (wk_e27dce96c cy h0 h1 p0 p1 p2 p3 h5 w0 p4 p5 h1 w1 p6 p7 h2 h3 h4 h2 f0 h3 f1 h4 f2 h5 p8 p9 p10 p11 w2 w3 w4 h6 h7 h8 h9 h10 h6 f3 h7 f4 h8 f5 h9 f6 h10 f7) sz) s.heap (wk_31c2093ae cy h4 f2 h5 p8 p9 p10 p11 w2 w3 w4 h6 h7 h8 h9 h10 h6 F_38 h7 v124_50_6 h8 v124_50_7 h9 v124_50_8 h10 v124_50_9 h0 h1 v124_50_2 v124_50_3 v124_50_4 v124_50_5 h5 w0 p4 p5 h1 w1 p6 p7 h2 h3 h4 h2 f0 h3 f1) H locs ∧ lv_has ls 5 [(0, .ref h0), (1, .int p9), (2, .int z_35), (3, .int v124_50_1), (4, .int v124_50_0)]) (fun (q : Int32 × Int32 × Int32 × Int32 × Int32 × Int32) => match q with | (v124_50_0, v124_50_1, v124_50_2, v124_50_3, v124_50_4, v124_50_5) => (902 - (v124_50_0).toInt).toNat) (fun q_124 ih_124 H locs ls hP => ?_) (0, 1, v59_28_0, v59_28_1, v59_28_2, v59_28_3) ⟨F_40, F_42, F_44, F_46, ⟨by decide +kernel, by decide +kernel⟩, ⟨by decide +kernel, by decide +kernel⟩, ⟨by omega, by omega⟩, hv59_28_1, hv59_28_2, hv59_28_3, (x29_0), (x30_1), (x31_2), (x32_3), (x33_4), (x34_5), h_47, (lv_sub hl_49 [3, 4, 2, 1, 0] rfl)⟩
          obtain ⟨v124_50_0, v124_50_1, v124_50_2, v124_50_3, v124_50_4, v124_50_5⟩ := q_124
          obtain ⟨v124_50_6, v124_50_7, v124_50_8, v124_50_9, hv124_50_0, hv124_50_1, hv124_50_2, hv124_50_3, hv124_50_4, hv124_50_5, x51_0, x52_1, x53_2, x54_3, x55_4, x56_5, h, hl⟩ := hP
          refine lv_iload hx hb dX5_readPerson_124 (lv_at hl 4 rfl) ?_
          refine lv_aload_n hx hb dX5_readPerson_126 rfl (lv_at hl 0 rfl) ?_
          refine q_get X hK h 7 rfl rfl wf_5 0 (by decide) rfl wm_1_144 dX5_readPerson_127 ?_
          refine q_get X hK h 8 rfl rfl wf_8 2 (by decide) rfl wm_1_46 dX5_readPerson_130 ?_
          refine q_jn (pc2 := 152) (fun H locs ls st => st = [] ∧ qW D (va_A (wk_e27dce96c cy h0 h1 p0 p1 p2 p3 h5 w0 p4 p5 h1 w1 p6 p7 h2 h3 h4 h2 f0 h3 f1 h4 f2 h5 p8 p9 p10 p11 w2 w3 w4 h6 h7 h8 h9 h10 h6 f3 h7 f4 h8 f5 h9 f6 h10 f7) sz) s.heap (wk_31c2093ae cy h4 f2 h5 p8 p9 p10 p11 w2 w3 w4 h6 h7 h8 h9 h10 h6 F_38 h7 v124_50_6 h8 v124_50_7 h9 v124_50_8 h10 v124_50_9 h0 h1 v124_50_2 v124_50_3 v124_50_4 v124_50_5 h5 w0 p4 p5 h1 w1 p6 p7 h2 h3 h4 h2 f0 h3 f1) H locs ∧ lv_has ls 5 [(0, .ref h0), (1, .int p9), (2, .int z_35), (3, .int v124_50_1), (4, .int v124_50_0)]) (fun H locs ls st hP => ?_) (fun J_152 => ?_)
          · obtain ⟨rfl, h, hl⟩ := hP
            refine lv_aload_n hx hb dX5_readPerson_152 rfl (lv_at hl 0 rfl) ?_
            refine q_get X hK h 7 rfl rfl wf_5 5 (by decide) rfl wm_1_151 dX5_readPerson_153 ?_
            refine lv_dup hx hb dX5_readPerson_156 rfl ?_
            refine q_get X hK h 1 rfl rfl wf_3 1 (by decide) rfl wm_1_86 dX5_readPerson_157 ?_
            refine lv_iconst (v := 1) hx hb dX5_readPerson_160 (by decide) ?_
            refine lv_iadd hx hb dX5_readPerson_161 ?_
            obtain ⟨z_58, ez_58, hz_58⟩ := e_add (x := p9) (y := 1) rfl (show (1 : Int32).toInt = 1 by decide) (by omega) (by omega)
            refine q_c z_58 ez_58 ?_
            clear ez_58
            refine q_put (v := .int z_58) X hK h 1 rfl rfl wf_3 tyX3 tyX3_ok nmX3 1 (by decide) wm_1_86 rfl rfl rfl (Nat.le_of_ble_eq_true rfl) dX5_readPerson_162 (fun H locs h_59 => ?_)
            clear h
            replace h_59 : qW D _ _ (wk_31c2093ae cy h4 f2 h5 p8 z_58 p10 p11 w2 w3 w4 h6 h7 h8 h9 h10 h6 F_38 h7 v124_50_6 h8 v124_50_7 h9 v124_50_8 h10 v124_50_9 h0 h1 v124_50_2 v124_50_3 v124_50_4 v124_50_5 h5 w0 p4 p5 h1 w1 p6 p7 h2 h3 h4 h2 f0 h3 f1) _ _ := h_59
            exact q_vret X hr hlk hK h_59 (fun _ => 0, (vcons (fun _ => z_58) (vcons F_38 (vcons v124_50_6 (vcons v124_50_7 (vcons v124_50_8 (vcons v124_50_9 (vcons (fun _ => v124_50_2) (vcons (fun _ => v124_50_3) (vcons (fun _ => v124_50_4) (vcons (fun _ => v124_50_5) (fun _ => (fun _ => 0)))))))))))), fun _ _ => 0) ⟨(⟨by omega, by omega⟩ : 1 ≤ (z_58 : Int32).toInt ∧ (z_58 : Int32).toInt ≤ 10), (rg_wide rF_38 (by decide) (by decide)), (bw hv124_50_2 (by decide) (by decide)), hv124_50_3, hv124_50_4, hv124_50_5, x51_0, x52_1, x53_2, x54_3, x55_4, x56_5, trivial⟩ [7, 8, 9, 10, 0, 1, 2, 3, 4, 5, 6] rfl rfl dX5_readPerson_165 (Nat.le_of_ble_eq_true rfl) (Nat.le_of_ble_eq_true rfl)
          · skip
            refine lv_icmp_ge (tgt := 152) hx hb dX5_readPerson_133 (by decide) (fun c_60 => ?_) (fun c_60 => ?_)
            · replace c_60 := i_le (x := p7) (y := v124_50_0) rfl rfl c_60
              exact J_152 _ _ _ _ ⟨rfl, h, (lv_sub hl [0, 1, 2, 3, 4] rfl)⟩
            · replace c_60 := i_nle (x := p7) (y := v124_50_0) rfl rfl c_60
              refine lv_iload_n hx hb dX5_readPerson_136 rfl (lv_at hl 3 rfl) ?_
              refine lv_if_eq (tgt := 152) hx hb dX5_readPerson_137 (by decide) (fun c_61 => ?_) (fun c_61 => ?_)
              · replace c_61 := i_eq (x := v124_50_1) (y := 0) rfl (show (0 : Int32).toInt = 0 by decide) c_61
                exact J_152 _ _ _ _ ⟨rfl, h, (lv_sub hl [0, 1, 2, 3, 4] rfl)⟩
              · replace c_61 := i_ne (x := v124_50_1) (y := 0) rfl (show (0 : Int32).toInt = 0 by decide) c_61
                refine lv_aload_n hx hb dX5_readPerson_140 rfl (lv_at hl 0 rfl) ?_
                refine lv_iload_n hx hb dX5_readPerson_141 rfl (lv_at hl 1 rfl) ?_
                refine q_callVi (rest := []) (wr := [(h6, .inl (cy 1, 10, .inl F_38))]) X hK hT hA h (fun sz => gX5_readFlag_936f279 l D cy h0 h1 h2 h3 h4 h5 h7 h8 h9 h10 p9 v124_50_2 v124_50_3 v124_50_4 v124_50_5 w0 p4 p5 w1 p6 p7 f0 f1 f2 p8 p10 p11 w2 w3 w4 (.ref h6) v124_50_6 v124_50_7 v124_50_8 v124_50_9 ⟨by omega, by omega⟩ (bw hv124_50_2 (by decide) (by decide)) (i_rng _) (i_rng _) (i_rng _) hp4 (i_rng _) hp6 hp7 hp8 (i_rng _) (i_rng _) (hpre0) (x51_0) (x52_1) (x53_2) sz) wm_3_93 wm_3_96 wm_1_2 hd_X5_readFlag wm_3_95 wp_1_14 (ci := 5) (q0 := 0) rfl rfl ⟨Nat.le_of_ble_eq_true rfl, Nat.le_of_ble_eq_true rfl⟩ hl.1 rfl (Nat.le_of_ble_eq_true rfl) dX5_readPerson_142 ⟨Nat.le_of_ble_eq_true rfl, Nat.le_of_ble_eq_true rfl⟩ [7, 8, 9, 10, 0, 1, 3, 4, 5, 6] [2] rfl rfl (by decide) rfl rfl (fun r_62 u_62 H locs w_62 h_62 => ?_)
                clear h
                obtain ⟨wr_62, w62_0, w62_1, w62_2, w62_3, y62_0, y62_1, y62_2, y62_3, y62_4, _⟩ := w_62
                replace h_62 : qW D _ _ [(h6, .inl (cy 1, 10, .inl F_38)), (h0, .inr (5, [.ref h1, .int (u_62.2.1 2 0), .int (u_62.2.1 3 0), .int (u_62.2.1 4 0), .int (u_62.2.1 5 0), .ref h5, w0, .int p4, .int p5])), (h1, .inr (8, [w1, .int p6, .int p7, .ref h2, .ref h3, .ref h4])), (h2, .inl (cy 1, 901, .inl f0)), (h3, .inl (cy 1, 901, .inl f1)), (h4, .inl (cy 1, 901, .inl f2)), (h5, .inr (3, [.int p8, .int p9, .int p10, .int p11, w2, w3, w4, .ref h6, .ref h7, .ref h8, .ref h9, .ref h10])), (h7, .inl (cy 1, 10, .inl (u_62.2.1 0))), (h8, .inl (cy 1, 10, .inl (u_62.2.1 1))), (h9, .inl (cy 1, 10, .inl (u_62.2.1 6))), (h10, .inl (cy 1, 10, .inl (u_62.2.1 7)))] _ _ := h_62
                refine lv_istore_n (lv' := [(3, .int r_62), (0, .ref h0), (1, .int p9), (2, .int z_35), (4, .int v124_50_0)]) hx hb dX5_readPerson_145 rfl hl (by decide) rfl (fun ls_63 hl_63 => ?_)
                clear hl
                obtain ⟨z_64, ez_64, hz_64⟩ := e_add (x := v124_50_0) (y := Int32.ofInt 1) rfl (b := 1) (by decide) (by omega) (by omega)
                refine lv_iinc (v := z_64) (lv' := [(4, .int z_64), (3, .int r_62), (0, .ref h0), (1, .int p9), (2, .int z_35)]) hx hb dX5_readPerson_146 hl_63 (k := 4) rfl ez_64 (by decide) rfl (fun ls_64 hl_64 => ?_)
                clear hl_63
                refine lv_goto (tgt := 124) hx hb dX5_readPerson_149 (by decide) ?_
                exact ih_124 (z_64, r_62, (u_62.2.1 2 0), (u_62.2.1 3 0), (u_62.2.1 4 0), (u_62.2.1 5 0)) (by show (902 - (z_64).toInt).toNat < (902 - (v124_50_0).toInt).toNat; omega) _ _ _ ⟨(u_62.2.1 0), (u_62.2.1 1), (u_62.2.1 6), (u_62.2.1 7), ⟨by omega, by omega⟩, wr_62, ⟨by omega, by omega⟩, w62_1, w62_2, w62_3, (y62_0), (y62_1), (y62_2), ((fl_tr y62_3 x54_3)), ((Int.le_trans x55_4 y62_4)), ((p1_c y62_3 x56_5 (Int.le_refl _) y62_4)), (q_re h_62 [5, 6, 0, 7, 8, 9, 10, 1, 2, 3, 4] rfl rfl), (lv_sub hl_64 [2, 3, 4, 1, 0] rfl)⟩
        · skip
          refine lv_icmp_ge (tgt := 58) hx hb dX5_readPerson_45 (by decide) (fun c_65 => ?_) (fun c_65 => ?_)
          · replace c_65 := i_le (x := p8) (y := 2) rfl (show (2 : Int32).toInt = 2 by decide) c_65
            refine lv_iconst (v := 0) hx hb dX5_readPerson_58 (by decide) ?_
            exact J_59 _ _ _ _ ⟨v59_17_0, v59_17_1, v59_17_2, v59_17_3, 0, hv59_17_0, hv59_17_1, hv59_17_2, hv59_17_3, ⟨by decide +kernel, by decide +kernel⟩, (x18_0), (x19_1), (x20_2), (x21_3), (x22_4), (x23_5), rfl, h, (lv_sub hl_26 [2, 3, 1, 0] rfl)⟩
          · replace c_65 := i_nle (x := p8) (y := 2) rfl (show (2 : Int32).toInt = 2 by decide) c_65
            refine lv_aload_n hx hb dX5_readPerson_48 rfl (lv_at hl_26 2 rfl) ?_
            refine lv_iconst (v := 0) hx hb dX5_readPerson_49 (by decide) ?_
            refine lv_bipush (v := 9) hx hb dX5_readPerson_50 (by decide) ?_
            refine q_callVi (rest := [.int z_27]) (wr := (wk_dea5df769 cy h5 p8 p9 p10 p11 w2 w3 w4 h6 h7 h8 h9 h10 h6 f3 h7 f4 h8 f5 h9 f6 h10 f7)) X hK hT hA h (fun sz => gX5_takeNumber_b9026d7 l D cy h0 h1 h2 h3 h4 v59_17_0 v59_17_1 v59_17_2 v59_17_3 (.ref h5) w0 p4 p5 w1 p6 p7 f0 f1 f2 hv59_17_0 (i_rng _) (i_rng _) (i_rng _) hp4 (i_rng _) hp6 hp7 (hpre0) (x18_0) (x19_1) (x20_2) sz) wm_3_80 wm_3_83 wm_1_2 hd_X5_takeNumber wm_3_82 wp_1_11 (ci := 5) (q0 := 0) rfl rfl ⟨Nat.le_of_ble_eq_true rfl, Nat.le_of_ble_eq_true rfl⟩ hl_26.1 rfl (Nat.le_of_ble_eq_true rfl) dX5_readPerson_52 ⟨Nat.le_of_ble_eq_true rfl, Nat.le_of_ble_eq_true rfl⟩ [7, 8, 9, 10, 0] [1, 2, 3, 4, 5, 6] rfl rfl (by decide) rfl rfl (fun r_66 u_66 H locs w_66 h_66 => ?_)
            clear h
            obtain ⟨wr_66, w66_0, w66_1, w66_2, w66_3, y66_0, y66_1, y66_2, y66_3, y66_4, y66_5, _⟩ := w_66
            have lq_66_1 : (0 : Int32).toInt = 0 := (by decide)
            have lq_66_2 : (9 : Int32).toInt = 9 := (by decide)
            replace h_66 : qW D _ _ (wk_21b02cfdf cy h5 p8 p9 p10 p11 w2 w3 w4 h6 h7 h8 h9 h10 h6 f3 h7 f4 h8 f5 h9 f6 h10 f7 h0 h1 (u_66.2.1 0 0) (u_66.2.1 1 0) (u_66.2.1 2 0) (u_66.2.1 3 0) h5 w0 p4 p5 h1 w1 p6 p7 h2 h3 h4 h2 f0 h3 f1 h4 f2) _ _ := h_66
            refine lv_goto (tgt := 59) hx hb dX5_readPerson_55 (by decide) ?_
            exact J_59 _ _ _ _ ⟨(u_66.2.1 0 0), (u_66.2.1 1 0), (u_66.2.1 2 0), (u_66.2.1 3 0), r_66, w66_0, w66_1, w66_2, w66_3, wr_66, (y66_0), (y66_1), (y66_4), ((fl_tr y66_3 x21_3)), ((Int.le_trans x22_4 y66_5)), ((p1_o (ne_or _) y66_2 x22_4 (Int.le_refl _))), rfl, (q_re h_66 [10, 0, 1, 2, 3, 4, 5, 6, 7, 8, 9] rfl rfl), (lv_sub hl_26 [2, 3, 1, 0] rfl)⟩
      · skip
        refine lv_icmp_ge (tgt := 58) hx hb dX5_readPerson_45 (by decide) (fun c_67 => ?_) (fun c_67 => ?_)
        · replace c_67 := i_le (x := p8) (y := 1) rfl (show (1 : Int32).toInt = 1 by decide) c_67
          refine lv_iconst (v := 0) hx hb dX5_readPerson_58 (by decide) ?_
          exact J_59 _ _ _ _ ⟨v59_6_0, v59_6_1, v59_6_2, v59_6_3, 0, hv59_6_0, hv59_6_1, hv59_6_2, hv59_6_3, ⟨by decide +kernel, by decide +kernel⟩, (x7_0), (x8_1), (x9_2), (x10_3), (x11_4), (x12_5), rfl, h, (lv_sub hl_15 [2, 3, 1, 0] rfl)⟩
        · replace c_67 := i_nle (x := p8) (y := 1) rfl (show (1 : Int32).toInt = 1 by decide) c_67
          refine lv_aload_n hx hb dX5_readPerson_48 rfl (lv_at hl_15 2 rfl) ?_
          refine lv_iconst (v := 0) hx hb dX5_readPerson_49 (by decide) ?_
          refine lv_bipush (v := 9) hx hb dX5_readPerson_50 (by decide) ?_
          refine q_callVi (rest := [.int z_16]) (wr := (wk_dea5df769 cy h5 p8 p9 p10 p11 w2 w3 w4 h6 h7 h8 h9 h10 h6 f3 h7 f4 h8 f5 h9 f6 h10 f7)) X hK hT hA h (fun sz => gX5_takeNumber_b9026d7 l D cy h0 h1 h2 h3 h4 v59_6_0 v59_6_1 v59_6_2 v59_6_3 (.ref h5) w0 p4 p5 w1 p6 p7 f0 f1 f2 hv59_6_0 (i_rng _) (i_rng _) (i_rng _) hp4 (i_rng _) hp6 hp7 (hpre0) (x7_0) (x8_1) (x9_2) sz) wm_3_80 wm_3_83 wm_1_2 hd_X5_takeNumber wm_3_82 wp_1_11 (ci := 5) (q0 := 0) rfl rfl ⟨Nat.le_of_ble_eq_true rfl, Nat.le_of_ble_eq_true rfl⟩ hl_15.1 rfl (Nat.le_of_ble_eq_true rfl) dX5_readPerson_52 ⟨Nat.le_of_ble_eq_true rfl, Nat.le_of_ble_eq_true rfl⟩ [7, 8, 9, 10, 0] [1, 2, 3, 4, 5, 6] rfl rfl (by decide) rfl rfl (fun r_68 u_68 H locs w_68 h_68 => ?_)
          clear h
          obtain ⟨wr_68, w68_0, w68_1, w68_2, w68_3, y68_0, y68_1, y68_2, y68_3, y68_4, y68_5, _⟩ := w_68
          have lq_68_1 : (0 : Int32).toInt = 0 := (by decide)
          have lq_68_2 : (9 : Int32).toInt = 9 := (by decide)
          replace h_68 : qW D _ _ (wk_21b02cfdf cy h5 p8 p9 p10 p11 w2 w3 w4 h6 h7 h8 h9 h10 h6 f3 h7 f4 h8 f5 h9 f6 h10 f7 h0 h1 (u_68.2.1 0 0) (u_68.2.1 1 0) (u_68.2.1 2 0) (u_68.2.1 3 0) h5 w0 p4 p5 h1 w1 p6 p7 h2 h3 h4 h2 f0 h3 f1 h4 f2) _ _ := h_68
          refine lv_goto (tgt := 59) hx hb dX5_readPerson_55 (by decide) ?_
          exact J_59 _ _ _ _ ⟨(u_68.2.1 0 0), (u_68.2.1 1 0), (u_68.2.1 2 0), (u_68.2.1 3 0), r_68, w68_0, w68_1, w68_2, w68_3, wr_68, (y68_0), (y68_1), (y68_4), ((fl_tr y68_3 x10_3)), ((Int.le_trans x11_4 y68_5)), ((p1_o (ne_or _) y68_2 x11_4 (Int.le_refl _))), rfl, (q_re h_68 [10, 0, 1, 2, 3, 4, 5, 6, 7, 8, 9] rfl rfl), (lv_sub hl_15 [2, 3, 1, 0] rfl)⟩
    · skip
      refine lv_icmp_ge (tgt := 58) hx hb dX5_readPerson_45 (by decide) (fun c_69 => ?_) (fun c_69 => ?_)
      · replace c_69 := i_le (x := p8) (y := 0) rfl (show (0 : Int32).toInt = 0 by decide) c_69
        exfalso
        omega
      · replace c_69 := i_nle (x := p8) (y := 0) rfl (show (0 : Int32).toInt = 0 by decide) c_69
        refine lv_aload_n hx hb dX5_readPerson_48 rfl (lv_at hl_5 3 rfl) ?_
        refine lv_iconst (v := 0) hx hb dX5_readPerson_49 (by decide) ?_
        refine lv_bipush (v := 9) hx hb dX5_readPerson_50 (by decide) ?_
        refine q_callVi (rest := [.int 0]) (wr := (wk_dea5df769 cy h5 p8 p9 p10 p11 w2 w3 w4 h6 h7 h8 h9 h10 h6 f3 h7 f4 h8 f5 h9 f6 h10 f7)) X hK hT hA h_3 (fun sz => gX5_takeNumber_b9026d7 l D cy h0 h1 h2 h3 h4 (u_3.2.1 0 0) (u_3.2.1 1 0) (u_3.2.1 2 0) (u_3.2.1 3 0) (.ref h5) w0 p4 p5 w1 p6 p7 f0 f1 f2 w3_0 (i_rng _) (i_rng _) (i_rng _) hp4 (i_rng _) hp6 hp7 (hpre0) (y3_0) (by (first | (clear hpre2 hpre3 y3_1 y3_2 y3_4 y3_5; omega) | omega)) (y3_5) sz) wm_3_80 wm_3_83 wm_1_2 hd_X5_takeNumber wm_3_82 wp_1_11 (ci := 5) (q0 := 0) rfl rfl ⟨Nat.le_of_ble_eq_true rfl, Nat.le_of_ble_eq_true rfl⟩ hl_5.1 rfl (Nat.le_of_ble_eq_true rfl) dX5_readPerson_52 ⟨Nat.le_of_ble_eq_true rfl, Nat.le_of_ble_eq_true rfl⟩ [7, 8, 9, 10, 0] [1, 2, 3, 4, 5, 6] rfl rfl (by decide) rfl rfl (fun r_70 u_70 H locs w_70 h_70 => ?_)
        clear h_3
        obtain ⟨wr_70, w70_0, w70_1, w70_2, w70_3, y70_0, y70_1, y70_2, y70_3, y70_4, y70_5, _⟩ := w_70
        have lq_70_1 : (0 : Int32).toInt = 0 := (by decide)
        have lq_70_2 : (9 : Int32).toInt = 9 := (by decide)
        replace h_70 : qW D _ _ (wk_21b02cfdf cy h5 p8 p9 p10 p11 w2 w3 w4 h6 h7 h8 h9 h10 h6 f3 h7 f4 h8 f5 h9 f6 h10 f7 h0 h1 (u_70.2.1 0 0) (u_70.2.1 1 0) (u_70.2.1 2 0) (u_70.2.1 3 0) h5 w0 p4 p5 h1 w1 p6 p7 h2 h3 h4 h2 f0 h3 f1 h4 f2) _ _ := h_70
        refine lv_goto (tgt := 59) hx hb dX5_readPerson_55 (by decide) ?_
        exact J_59 _ _ _ _ ⟨(u_70.2.1 0 0), (u_70.2.1 1 0), (u_70.2.1 2 0), (u_70.2.1 3 0), r_70, w70_0, w70_1, w70_2, w70_3, wr_70, (y70_0), (y70_1), (y70_4), ((fl_tr y70_3 y3_2)), ((Int.le_trans y3_3 y70_5)), ((p1_o (ne_or _) y70_2 y3_3 (Int.le_refl _))), rfl, (q_re h_70 [10, 0, 1, 2, 3, 4, 5, 6, 7, 8, 9] rfl rfl), (lv_sub hl_5 [3, 2, 1, 0] rfl)⟩
  · replace c_2 := i_nlt (x := p9) (y := 10) rfl (show (10 : Int32).toInt = 10 by decide) c_2
    refine lv_aload_n hx hb dX5_readPerson_14 rfl (lv_at hl_1 1 rfl) ?_
    refine lv_iconst (v := 4) hx hb dX5_readPerson_15 (by decide) ?_
    refine q_callVv (rest := []) (wr := [(h2, .inl (cy 1, 901, .inl f0)), (h4, .inl (cy 1, 901, .inl f2)), (h5, .inr (3, [.int p8, .int p9, .int p10, .int p11, w2, w3, w4, .ref h6, .ref h7, .ref h8, .ref h9, .ref h10])), (h6, .inl (cy 1, 10, .inl f3)), (h7, .inl (cy 1, 10, .inl f4)), (h8, .inl (cy 1, 10, .inl f5)), (h9, .inl (cy 1, 10, .inl f6)), (h10, .inl (cy 1, 10, .inl f7))]) X hK hT hA h (fun sz => gX5_refuse_3c74158 l D cy h0 h1 h3 p0 p1 p2 p3 (.ref h5) w0 p4 p5 w1 p6 p7 (.ref h2) (.ref h4) f1 hp0 (i_rng _) (i_rng _) (i_rng _) hp4 (i_rng _) hp6 hp7 (hpre1) (hpre3) (by have q0 : (4 : Int32).toInt = 4 := (by decide); (first | (clear hpre2 hpre3; omega) | omega)) sz) wm_3_76 wm_3_79 wm_1_2 hd_X5_refuse wm_3_78 wp_1_10 (ci := 5) (q0 := 0) rfl rfl ⟨Nat.le_of_ble_eq_true rfl, Nat.le_of_ble_eq_true rfl⟩ hl_1.1 rfl (Nat.le_of_ble_eq_true rfl) dX5_readPerson_16 ⟨Nat.le_of_ble_eq_true rfl, Nat.le_of_ble_eq_true rfl⟩ [0, 1, 3] [2, 4, 5, 6, 7, 8, 9, 10] rfl rfl (by decide) rfl rfl (fun u_71 H locs w_71 h_71 => ?_)
    clear h
    obtain ⟨w71_0, w71_1, w71_2, y71_0, y71_1, _⟩ := w_71
    have lq_71_1 : (4 : Int32).toInt = 4 := (by decide)
    replace h_71 : qW D _ _ [(h2, .inl (cy 1, 901, .inl f0)), (h4, .inl (cy 1, 901, .inl f2)), (h5, .inr (3, [.int p8, .int p9, .int p10, .int p11, w2, w3, w4, .ref h6, .ref h7, .ref h8, .ref h9, .ref h10])), (h6, .inl (cy 1, 10, .inl f3)), (h7, .inl (cy 1, 10, .inl f4)), (h8, .inl (cy 1, 10, .inl f5)), (h9, .inl (cy 1, 10, .inl f6)), (h10, .inl (cy 1, 10, .inl f7)), (h0, .inr (5, [.ref h1, .int p0, .int (u_71.2.1 0 0), .int (u_71.2.1 1 0), .int (u_71.2.1 2 0), .ref h5, w0, .int p4, .int p5])), (h1, .inr (8, [w1, .int p6, .int p7, .ref h2, .ref h3, .ref h4])), (h3, .inl (cy 1, 901, .inl f1))] _ _ := h_71
    exact q_vret X hr hlk hK h_71 (fun _ => 0, (vcons (fun _ => p9) (vcons f3 (vcons f4 (vcons f5 (vcons f6 (vcons f7 (vcons (fun _ => p0) (vcons (fun _ => (u_71.2.1 0 0)) (vcons (fun _ => (u_71.2.1 1 0)) (vcons (fun _ => (u_71.2.1 2 0)) (fun _ => (fun _ => 0)))))))))))), fun _ _ => 0) ⟨(⟨by omega, by omega⟩ : 1 ≤ (p9 : Int32).toInt ∧ (p9 : Int32).toInt ≤ 10), (rg_wide rf3 (by decide) (by decide)), hp0, w71_0, w71_1, w71_2, hpre1, (show ((u_71.2.1 1 0) : Int32).toInt ≠ 0 ∨ ((u_71.2.1 0 0) : Int32).toInt = 26 ∨ ((u_71.2.1 0 0) : Int32).toInt = 27 ∨ (p0 : Int32).toInt + 1 < (p7 : Int32).toInt from by (first | (clear hpre2 hpre3 y71_1; omega) | omega)), y71_1, (show ((u_71.2.1 1 0) : Int32).toInt ≠ 0 ∨ (p2 : Int32).toInt = 0 from by (first | (clear hpre2 hpre3 y71_1; omega) | omega)), (show (p0 : Int32).toInt ≤ (p0 : Int32).toInt from (Int.le_refl _)), (show ((u_71.2.1 1 0) : Int32).toInt ≠ 0 ∨ (p0 : Int32).toInt + 1 ≤ (p0 : Int32).toInt from by (first | (clear hpre2 hpre3 y71_1; omega) | omega)), trivial⟩ [8, 9, 0, 10, 1, 2, 3, 4, 5, 6, 7] rfl rfl dX5_readPerson_19 (Nat.le_of_ble_eq_true rfl) (Nat.le_of_ble_eq_true rfl)
set_option maxHeartbeats 4000000 in
set_option maxRecDepth 100000 in
theorem gX5_take_0541260 (l : Launch) (D : va_G) (cy : Nat → ClassId) (h0 : Nat) (h1 : Nat) (h2 : Nat) (h3 : Nat) (p0 : Int32) (p1 : Int32) (p2 : Int32) (p3 : Int32) (w0 : Value) (w1 : Value) (p4 : Int32) (p5 : Int32) (w2 : Value) (p6 : Int32) (p7 : Int32) (w3 : Value) (f0 : Nat → Int32) (f1 : Nat → Int32) (hp0 : (-1) ≤ (p0).toInt ∧ (p0).toInt ≤ 900) (hp1 : (-2147483648) ≤ (p1).toInt ∧ (p1).toInt ≤ 2147483647) (hp2 : (-2147483648) ≤ (p2).toInt ∧ (p2).toInt ≤ 2147483647) (hp3 : (-2147483648) ≤ (p3).toInt ∧ (p3).toInt ≤ 2147483647) (hp4 : 0 ≤ (p4).toInt ∧ (p4).toInt ≤ 900) (hp5 : (-2147483648) ≤ (p5).toInt ∧ (p5).toInt ≤ 2147483647) (hp6 : 0 ≤ (p6).toInt ∧ (p6).toInt ≤ 900) (hp7 : 0 ≤ (p7).toInt ∧ (p7).toInt ≤ 901) (hpre0 : KZ f0 (p7 : Int32).toInt) (hpre1 : 0 ≤ (p0 : Int32).toInt ∧ (p0 : Int32).toInt < (p7 : Int32).toInt) (hpre2 : (p2 : Int32).toInt ≠ 0 ∨ (p1 : Int32).toInt = 26 ∨ (p1 : Int32).toInt = 27 ∨ (p0 : Int32).toInt + 1 < (p7 : Int32).toInt) (hpre3 : (p2 : Int32).toInt = 0 ∨ (p1 : Int32).toInt = 27) (hpre4 : (58 : Int32).toInt ≠ 26 ∧ (58 : Int32).toInt ≠ 27) (sz : Nat) : MV l yX5_take cX5_take 2 { frames := 1, cells := 0, slots := 0, locals := 21 } [.ref h0, .int 58] D cy (wk_8964b4ae4 cy h0 h1 p0 p1 p2 p3 w0 w1 p4 p5 h1 w2 p6 p7 h2 h3 w3 h2 f0 h3 f1) sz (fun u => ((-2147483648) ≤ (u.2.1 0 0).toInt ∧ (u.2.1 0 0).toInt ≤ 2147483647) ∧ ((-2147483648) ≤ (u.2.1 1 0).toInt ∧ (u.2.1 1 0).toInt ≤ 2147483647) ∧ ((-2147483648) ≤ (u.2.1 2 0).toInt ∧ (u.2.1 2 0).toInt ≤ 2147483647) ∧ ((-1) ≤ (u.2.1 3 0).toInt ∧ (u.2.1 3 0).toInt ≤ 900) ∧ (0 ≤ ((u.2.1 3 0) : Int32).toInt ∧ ((u.2.1 3 0) : Int32).toInt < (p7 : Int32).toInt) ∧ (((u.2.1 1 0) : Int32).toInt ≠ 0 ∨ ((u.2.1 0 0) : Int32).toInt = 26 ∨ ((u.2.1 0 0) : Int32).toInt = 27 ∨ ((u.2.1 3 0) : Int32).toInt + 1 < (p7 : Int32).toInt) ∧ (((u.2.1 1 0) : Int32).toInt ≠ 0 ∨ ((u.2.1 3 0) : Int32).toInt = (p0 : Int32).toInt + 1) ∧ (((u.2.1 1 0) : Int32).toInt ≠ 0 ∨ (p2 : Int32).toInt = 0) ∧ (((u.2.1 1 0) : Int32).toInt = 0 ∨ ((u.2.1 0 0) : Int32).toInt = 27) ∧ ((p0 : Int32).toInt ≤ ((u.2.1 3 0) : Int32).toInt) ∧ True) (fun u => (wk_8964b4ae4 cy h0 h1 (u.2.1 3 0) (u.2.1 0 0) (u.2.1 1 0) (u.2.1 2 0) w0 w1 p4 p5 h1 w2 p6 p7 h2 h3 w3 h2 f0 h3 f1)) 0 0 := by
  refine q_ent (own := RX5) (by decide) rfl (Nat.le_of_ble_eq_true rfl) (fun p e s m below meth c ls X hr hlk hnm hK hT h hA hl => ?_)
  obtain ⟨hx, hb, hml, hown, ht⟩ := id X
  replace hl : lv_has ls 2 [(0, .ref h0), (1, .int 58)] := hl
  refine lv_aload_n hx hb dX5_take_0 rfl (lv_at hl 0 rfl) ?_
  refine q_get X hK h 0 rfl rfl wf_5 2 (by decide) rfl wm_1_146 dX5_take_1 ?_
  refine lv_iload_n hx hb dX5_take_4 rfl (lv_at hl 1 rfl) ?_
  refine lv_icmp_ne (tgt := 15) hx hb dX5_take_5 (by decide) (fun c_1 => ?_) (fun c_1 => ?_)
  · replace c_1 := i_ne (x := p1) (y := 58) rfl (show (58 : Int32).toInt = 58 by decide) c_1
    refine lv_aload_n hx hb dX5_take_15 rfl (lv_at hl 0 rfl) ?_
    refine lv_iconst (v := 2) hx hb dX5_take_16 (by decide) ?_
    refine q_callVv (rest := []) (wr := [(h2, .inl (cy 1, 901, .inl f0))]) X hK hT hA h (fun sz => gX5_refuse_067fcff l D cy h0 h1 h3 p0 p1 p2 p3 w0 w1 p4 p5 w2 p6 p7 (.ref h2) w3 f1 hp0 (i_rng _) (i_rng _) (i_rng _) hp4 (i_rng _) hp6 hp7 (hpre1) (hpre3) (by have q0 : (2 : Int32).toInt = 2 := (by decide); (first | (clear hpre2 hpre3; omega) | omega)) sz) wm_3_76 wm_3_79 wm_1_2 hd_X5_refuse wm_3_78 wp_1_10 (ci := 5) (q0 := 0) rfl rfl ⟨Nat.le_of_ble_eq_true rfl, Nat.le_of_ble_eq_true rfl⟩ hl.1 rfl (Nat.le_of_ble_eq_true rfl) dX5_take_17 ⟨Nat.le_of_ble_eq_true rfl, Nat.le_of_ble_eq_true rfl⟩ [0, 1, 3] [2] rfl rfl (by decide) rfl rfl (fun u_2 H locs w_2 h_2 => ?_)
    clear h
    obtain ⟨w2_0, w2_1, w2_2, y2_0, y2_1, _⟩ := w_2
    have lq_2_1 : (2 : Int32).toInt = 2 := (by decide)
    replace h_2 : qW D _ _ (wk_565e7035b cy h2 f0 h0 h1 p0 (u_2.2.1 0 0) (u_2.2.1 1 0) (u_2.2.1 2 0) w0 w1 p4 p5 h1 w2 p6 p7 h2 h3 w3 h3 f1) _ _ := h_2
    exact q_vret X hr hlk hK h_2 (fun _ => 0, (vcons (fun _ => (u_2.2.1 0 0)) (vcons (fun _ => (u_2.2.1 1 0)) (vcons (fun _ => (u_2.2.1 2 0)) (vcons (fun _ => p0) (fun _ => (fun _ => 0)))))), fun _ _ => 0) ⟨w2_0, w2_1, w2_2, hp0, hpre1, (show ((u_2.2.1 1 0) : Int32).toInt ≠ 0 ∨ ((u_2.2.1 0 0) : Int32).toInt = 26 ∨ ((u_2.2.1 0 0) : Int32).toInt = 27 ∨ (p0 : Int32).toInt + 1 < (p7 : Int32).toInt from by (first | (clear hpre2 hpre3 y2_1; omega) | omega)), (show ((u_2.2.1 1 0) : Int32).toInt ≠ 0 ∨ (p0 : Int32).toInt = (p0 : Int32).toInt + 1 from by (first | (clear hpre2 hpre3 y2_1; omega) | omega)), (show ((u_2.2.1 1 0) : Int32).toInt ≠ 0 ∨ (p2 : Int32).toInt = 0 from by (first | (clear hpre2 hpre3 y2_1; omega) | omega)), y2_1, (show (p0 : Int32).toInt ≤ (p0 : Int32).toInt from (Int.le_refl _)), trivial⟩ [1, 2, 0, 3] rfl rfl dX5_take_20 (Nat.le_of_ble_eq_true rfl) (Nat.le_of_ble_eq_true rfl)
  · replace c_1 := i_eq (x := p1) (y := 58) rfl (show (58 : Int32).toInt = 58 by decide) c_1
    refine lv_aload_n hx hb dX5_take_8 rfl (lv_at hl 0 rfl) ?_
    refine q_callVv (rest := []) (wr := []) X hK hT hA h (fun sz => gX5_advance_9820dfe l D cy h0 h1 h2 h3 p0 p1 p2 p3 w0 w1 p4 p5 w2 p6 p7 w3 f0 f1 hp0 (i_rng _) (i_rng _) (i_rng _) hp4 (i_rng _) hp6 hp7 (hpre0) (hpre3) (by (first | (clear hpre2 hpre3; omega) | omega)) sz) wm_3_68 wm_3_71 wm_1_2 hd_X5_advance wm_3_70 wp_1_8 (ci := 5) (q0 := 0) rfl rfl ⟨Nat.le_of_ble_eq_true rfl, Nat.le_of_ble_eq_true rfl⟩ hl.1 rfl (Nat.le_of_ble_eq_true rfl) dX5_take_9 ⟨Nat.le_of_ble_eq_true rfl, Nat.le_of_ble_eq_true rfl⟩ [0, 1, 2, 3] [] rfl rfl (by decide) rfl rfl (fun u_3 H locs w_3 h_3 => ?_)
    clear h
    obtain ⟨w3_0, w3_1, w3_2, w3_3, y3_0, y3_1, y3_2, y3_3, y3_4, y3_5, _⟩ := w_3
    replace h_3 : qW D _ _ (wk_8964b4ae4 cy h0 h1 (u_3.2.1 0 0) (u_3.2.1 1 0) (u_3.2.1 2 0) (u_3.2.1 3 0) w0 w1 p4 p5 h1 w2 p6 p7 h2 h3 w3 h2 f0 h3 f1) _ _ := h_3
    refine lv_goto (tgt := 20) hx hb dX5_take_12 (by decide) ?_
    exact q_vret X hr hlk hK h_3 (fun _ => 0, (vcons (fun _ => (u_3.2.1 1 0)) (vcons (fun _ => (u_3.2.1 2 0)) (vcons (fun _ => (u_3.2.1 3 0)) (vcons (fun _ => (u_3.2.1 0 0)) (fun _ => (fun _ => 0)))))), fun _ _ => 0) ⟨w3_1, w3_2, w3_3, w3_0, y3_0, (show ((u_3.2.1 2 0) : Int32).toInt ≠ 0 ∨ ((u_3.2.1 1 0) : Int32).toInt = 26 ∨ ((u_3.2.1 1 0) : Int32).toInt = 27 ∨ ((u_3.2.1 0 0) : Int32).toInt + 1 < (p7 : Int32).toInt from by (first | (clear hpre2 hpre3 y3_1 y3_2 y3_4 y3_5; omega) | omega)), (show ((u_3.2.1 2 0) : Int32).toInt ≠ 0 ∨ ((u_3.2.1 0 0) : Int32).toInt = (p0 : Int32).toInt + 1 from by (first | (clear hpre2 hpre3 y3_1 y3_2 y3_4 y3_5; omega) | omega)), y3_2, y3_5, y3_3, trivial⟩ [0, 1, 2, 3] rfl rfl dX5_take_20 (Nat.le_of_ble_eq_true rfl) (Nat.le_of_ble_eq_true rfl)
set_option maxHeartbeats 4000000 in
set_option maxRecDepth 100000 in
theorem gJ7_copyOf_59c91_81346bf (l : Launch) (D : va_G) (cy : Nat → ClassId) (h0 : Nat) (p0 : Int32) (f0 : Nat → Int32) (hp0 : 0 ≤ (p0).toInt ∧ (p0).toInt ≤ 899) (hpre0 : (p0 : Int32).toInt ≤ 899) (sz : Nat) : MAr l yJ7_copyOf_59c91 cJ7_copyOf_59c91 3 { frames := 1, cells := 1, slots := 900, locals := 40 } [.ref h0, .int p0] D cy [(h0, .inl (cy 1, 900, .inl f0))] sz (fun u => True) (fun u => (wk_bc275e43f cy h0 f0 (u.1 0) p0.toNatClampNeg (u.2.1 0))) 1 900 := by
  refine q_ent (own := RJ7) (by decide) rfl (Nat.le_of_ble_eq_true rfl) (fun p e s m below meth c ls X hr hlk hnm hK hT h hA hl => ?_)
  obtain ⟨hx, hb, hml, hown, ht⟩ := id X
  replace hl : lv_has ls 3 [(0, .ref h0), (1, .int p0)] := hl
  refine lv_iload_n hx hb dJ7_copyOf_59c91_0 rfl (lv_at hl 1 rfl) ?_
  refine lv_aload_n hx hb dJ7_copyOf_59c91_1 rfl (lv_at hl 0 rfl) ?_
  refine q_alen X hK h 0 1 rfl rfl 900 (show Int32.ofNat 900 = 900 by decide) dJ7_copyOf_59c91_2 ?_
  refine lv_icmp_ne (tgt := 14) hx hb dJ7_copyOf_59c91_3 (by decide) (fun c_1 => ?_) (fun c_1 => ?_)
  · replace c_1 := i_ne (x := p0) (y := 900) rfl (show (900 : Int32).toInt = 900 by decide) c_1
    refine lv_iload_n hx hb dJ7_copyOf_59c91_14 rfl (lv_at hl 1 rfl) ?_
    refine q_newi X hK hA h wm_1_67 (p0.toNatClampNeg) (i_nn (by omega)) rfl (i_bts (by omega) (by omega)) (Nat.le_of_ble_eq_true rfl) (i_sl (by omega) (by omega)) dJ7_copyOf_59c91_15 (fun q_2 H h_2 => ?_)
    refine W.widen (k := 1) (n := 900) (Nat.le_of_ble_eq_true rfl) (i_sl (by omega) (by omega)) ?_
    clear h
    replace h_2 : qW D _ _ (wk_bc275e43f cy h0 f0 q_2 p0.toNatClampNeg (fun _ => 0)) _ _ := h_2
    refine lv_astore_n (lv' := [(2, .ref q_2), (0, .ref h0), (1, .int p0)]) hx hb dJ7_copyOf_59c91_17 rfl hl (by decide) rfl (fun ls_3 hl_3 => ?_)
    clear hl
    refine lv_aload_n hx hb dJ7_copyOf_59c91_18 rfl (lv_at hl_3 1 rfl) ?_
    refine lv_iconst (v := 0) hx hb dJ7_copyOf_59c91_19 (by decide) ?_
    refine lv_aload_n hx hb dJ7_copyOf_59c91_20 rfl (lv_at hl_3 0 rfl) ?_
    refine lv_iconst (v := 0) hx hb dJ7_copyOf_59c91_21 (by decide) ?_
    refine lv_aload_n hx hb dJ7_copyOf_59c91_22 rfl (lv_at hl_3 1 rfl) ?_
    refine q_alen X hK h_2 0 1 rfl rfl 900 (show Int32.ofNat 900 = 900 by decide) dJ7_copyOf_59c91_23 ?_
    refine lv_iload_n hx hb dJ7_copyOf_59c91_24 rfl (lv_at hl_3 2 rfl) ?_
    refine va_mmin hx hb (hml.trans hl_3.1.symm) hown (ht _ wm_3_149) (ht _ wm_2_171) (ht _ wm_1_13) (ht _ wm_2_172) (Nat.le_of_ble_eq_true rfl) (Nat.le_of_ble_eq_true rfl) (Nat.le_of_ble_eq_true rfl) (Nat.le_of_ble_eq_true rfl) dJ7_copyOf_59c91_25 ?_
    obtain ⟨z_4, ez_4, hz_4⟩ := e_min (x := 900) (y := p0) (show (900 : Int32).toInt = 900 by decide) rfl
    refine q_c z_4 ez_4 ?_
    clear ez_4
    refine q_copy X hK h_2 wm_3_150 wm_3_152 wm_3_151 wm_1_21 hl_3.1 0 1 rfl rfl (by decide) (by decide) (i_nn (by omega)) (i_cp0 (by omega) (by omega)) (i_cp1 (by omega) (by omega)) (Nat.le_of_ble_eq_true rfl) (Nat.le_of_ble_eq_true rfl) dJ7_copyOf_59c91_28 (fun F_5 H locs h_6 => ?_)
    clear h_2
    replace h_6 : qW D _ _ (wk_bc275e43f cy h0 f0 q_2 p0.toNatClampNeg F_5) _ _ := h_6
    refine lv_aload_n hx hb dJ7_copyOf_59c91_31 rfl (lv_at hl_3 0 rfl) ?_
    exact q_aretA X hr hlk hK h_6 ((vcons q_2 (fun _ => 0)), (vcons F_5 (fun _ => (fun _ => 0))), fun _ _ => 0) rfl trivial [0, 1] rfl rfl dJ7_copyOf_59c91_32 (Nat.le_of_ble_eq_true rfl) (Nat.le_of_ble_eq_true rfl)
  · replace c_1 := i_eq (x := p0) (y := 900) rfl (show (900 : Int32).toInt = 900 by decide) c_1
    exfalso
    omega
set_option maxHeartbeats 4000000 in
set_option maxRecDepth 100000 in
theorem gX4_init_6da7c59 (l : Launch) (D : va_G) (cy : Nat → ClassId) (h0 : Nat) (h1 : Nat) (p0 : Int32) (w0 : Value) (f0 : Nat → Int32) (hp0 : 0 ≤ (p0).toInt ∧ (p0).toInt ≤ 899) (hpre0 : (p0 : Int32).toInt ≤ 899) (sz : Nat) : MV l yX4_init cX4_init 3 { frames := 2, cells := 1, slots := 900, locals := 62 } [.ref h0, .ref h1, .int p0] D cy [(h0, .inr (4, [w0])), (h1, .inl (cy 1, 900, .inl f0))] sz (fun u => True) (fun u => (wk_dfd8ea8dd cy h0 (u.1 0) h1 f0 (u.1 0) p0.toNatClampNeg (u.2.1 0))) 1 900 := by
  refine q_ent (own := RX4) (by decide) rfl (Nat.le_of_ble_eq_true rfl) (fun p e s m below meth c ls X hr hlk hnm hK hT h hA hl => ?_)
  obtain ⟨hx, hb, hml, hown, ht⟩ := id X
  replace hl : lv_has ls 3 [(0, .ref h0), (1, .ref h1), (2, .int p0)] := hl
  refine lv_aload_n hx hb dX4_init_0 rfl (lv_at hl 0 rfl) ?_
  refine q_obj X wm_3_138 wm_1_29 wm_1_30 hl.1 dX4_init_1 (Nat.le_of_ble_eq_true rfl) (Nat.le_of_ble_eq_true rfl) ?_
  refine lv_aload_n hx hb dX4_init_4 rfl (lv_at hl 0 rfl) ?_
  refine lv_aload_n hx hb dX4_init_5 rfl (lv_at hl 1 rfl) ?_
  refine lv_iload_n hx hb dX4_init_6 rfl (lv_at hl 2 rfl) ?_
  refine q_callSr (rest := [.ref h0]) (wr := [(h0, .inr (4, [w0]))]) X hK hT hA h (fun sz => gJ7_copyOf_59c91_81346bf l D cy h1 p0 f0 hp0 (hpre0) sz) wm_3_139 wm_3_141 wm_1_20 hd_J7_copyOf_59c91 wm_3_140 ⟨Nat.le_of_ble_eq_true rfl, Nat.le_of_ble_eq_true rfl⟩ hl.1 rfl (Nat.le_of_ble_eq_true rfl) dX4_init_7 ⟨Nat.le_of_ble_eq_true rfl, Nat.le_of_ble_eq_true rfl⟩ [1] [0] rfl rfl (by decide) rfl rfl (fun u_1 H locs w_1 h_1 => ?_)
  clear h
  clear w_1
  replace h_1 : qW D _ _ [(h0, .inr (4, [w0])), (h1, .inl (cy 1, 900, .inl f0)), ((u_1.1 0), .inl (cy 1, p0.toNatClampNeg, .inl (u_1.2.1 0)))] _ _ := h_1
  refine q_putF (v := .ref (u_1.1 0)) X hK h_1 0 rfl rfl wf_4 tyX4 tyX4_ok nmX4 0 (by decide) wm_3_153 rfl hnm rfl rfl rfl (Nat.le_of_ble_eq_true rfl) dX4_init_10 (fun H locs h_2 => ?_)
  clear h_1
  replace h_2 : qW D _ _ (wk_dfd8ea8dd cy h0 (u_1.1 0) h1 f0 (u_1.1 0) p0.toNatClampNeg (u_1.2.1 0)) _ _ := h_2
  exact q_vret X hr hlk hK h_2 ((vcons (u_1.1 0) (fun _ => 0)), (vcons (u_1.2.1 0) (fun _ => (fun _ => 0))), fun _ _ => 0) trivial [0, 1, 2] rfl rfl dX4_init_13 (Nat.le_of_ble_eq_true rfl) (Nat.le_of_ble_eq_true rfl)
set_option maxHeartbeats 4000000 in
set_option maxRecDepth 100000 in
theorem gX5_readLaw_3277650 (l : Launch) (D : va_G) (cy : Nat → ClassId) (h0 : Nat) (h1 : Nat) (h2 : Nat) (h3 : Nat) (h4 : Nat) (h5 : Nat) (p0 : Int32) (o0 : Option Nat) (p1 : Int32) (p2 : Int32) (p3 : Int32) (p4 : Int32) (w0 : Value) (p5 : Int32) (p6 : Int32) (w1 : Value) (p7 : Int32) (p8 : Int32) (f0 : Nat → Int32) (f1 : Nat → Int32) (f2 : Nat → Int32) (f3 : Nat → Int32) (hp0 : (-2147483648) ≤ (p0).toInt ∧ (p0).toInt ≤ 2147483647) (hp1 : (-1) ≤ (p1).toInt ∧ (p1).toInt ≤ 900) (hp2 : (-2147483648) ≤ (p2).toInt ∧ (p2).toInt ≤ 2147483647) (hp3 : (-2147483648) ≤ (p3).toInt ∧ (p3).toInt ≤ 2147483647) (hp4 : (-2147483648) ≤ (p4).toInt ∧ (p4).toInt ≤ 2147483647) (hp5 : 0 ≤ (p5).toInt ∧ (p5).toInt ≤ 900) (hp6 : (-2147483648) ≤ (p6).toInt ∧ (p6).toInt ≤ 2147483647) (hp7 : 0 ≤ (p7).toInt ∧ (p7).toInt ≤ 900) (hp8 : 0 ≤ (p8).toInt ∧ (p8).toInt ≤ 901) (hpre0 : KZ f0 (p8 : Int32).toInt) (hpre1 : 0 ≤ (p1 : Int32).toInt ∧ (p1 : Int32).toInt < (p8 : Int32).toInt) (hpre2 : (p3 : Int32).toInt ≠ 0 ∨ (p2 : Int32).toInt = 26 ∨ (p2 : Int32).toInt = 27 ∨ (p1 : Int32).toInt + 1 < (p8 : Int32).toInt) (hpre3 : (p3 : Int32).toInt = 0 ∨ (p2 : Int32).toInt = 27) (hpre4 : (p2 : Int32).toInt ≠ 26 ∧ (p2 : Int32).toInt ≠ 27) (sz : Nat) : MQw l yX5_readLaw cX5_readLaw 4 "OppositeHouse$Law" { frames := 26, cells := 2, slots := 901, locals := 654 } [.ref h0, .int p0, (va_rf o0)] D cy (wk_a727c0403 cy h0 h1 p1 p2 p3 p4 w0 h5 p5 p6 h1 w1 p7 p8 h2 h3 h4 h2 f0 h3 f1 h4 f2 h5 f3) sz (fun r u => (0 ≤ (u.1.2.1 0 0).toInt ∧ (u.1.2.1 0 0).toInt ≤ 900) ∧ ((-2147483648) ≤ (u.1.2.1 1 0).toInt ∧ (u.1.2.1 1 0).toInt ≤ 2147483647) ∧ ((-2147483648) ≤ (u.1.2.1 2 0).toInt ∧ (u.1.2.1 2 0).toInt ≤ 2147483647) ∧ ((-2147483648) ≤ (u.1.2.1 3 0).toInt ∧ (u.1.2.1 3 0).toInt ≤ 2147483647) ∧ (0 ≤ (u.1.2.1 4 0).toInt ∧ (u.1.2.1 4 0).toInt ≤ 900) ∧ ((-2147483648) ≤ (u.1.2.1 5 0).toInt ∧ (u.1.2.1 5 0).toInt ≤ 2147483647) ∧ (0 ≤ ((u.1.2.1 0 0) : Int32).toInt ∧ ((u.1.2.1 0 0) : Int32).toInt < (p8 : Int32).toInt) ∧ (((u.1.2.1 2 0) : Int32).toInt ≠ 0 ∨ ((u.1.2.1 1 0) : Int32).toInt = 26 ∨ ((u.1.2.1 1 0) : Int32).toInt = 27 ∨ ((u.1.2.1 0 0) : Int32).toInt + 1 < (p8 : Int32).toInt) ∧ (((u.1.2.1 2 0) : Int32).toInt = 0 ∨ ((u.1.2.1 1 0) : Int32).toInt = 27) ∧ (((u.1.2.1 2 0) : Int32).toInt ≠ 0 ∨ (p3 : Int32).toInt = 0) ∧ ((p1 : Int32).toInt ≤ ((u.1.2.1 0 0) : Int32).toInt) ∧ (((u.1.2.1 2 0) : Int32).toInt ≠ 0 ∨ (p1 : Int32).toInt + 1 ≤ ((u.1.2.1 0 0) : Int32).toInt) ∧ (LR cy u.2.1 (va_rf o0) (va_rf r)) ∧ True) (fun u => (wk_a727c0403 cy h0 h1 (u.1.2.1 0 0) (u.1.2.1 1 0) (u.1.2.1 2 0) (u.1.2.1 3 0) w0 h5 (u.1.2.1 4 0) (u.1.2.1 5 0) h1 w1 p7 p8 h2 h3 h4 h2 f0 h3 f1 h4 f2 h5 (u.1.2.1 6))) 2 901 := by
  refine q_ent (own := RX5) (by decide) rfl (by cases o0 <;> exact Nat.le_of_ble_eq_true rfl) (fun p e s m below meth c ls X hr hlk hnm hK hT h hA hl => ?_)
  obtain ⟨hx, hb, hml, hown, ht⟩ := id X
  replace h : qW D _ _ ((wk_a727c0403 cy h0 h1 p1 p2 p3 p4 w0 h5 p5 p6 h1 w1 p7 p8 h2 h3 h4 h2 f0 h3 f1 h4 f2 h5 f3) ++ []) _ _ := h
  replace hl : lv_has ls 4 [(0, .ref h0), (1, .int p0), (2, (va_rf o0))] := hl
  refine lv_aload_n hx hb dX5_readLaw_0 rfl (lv_at hl 0 rfl) ?_
  refine q_get X hK h 0 rfl rfl wf_5 2 (by decide) rfl wm_1_146 dX5_readLaw_1 ?_
  refine lv_bipush (v := 20) hx hb dX5_readLaw_4 (by decide) ?_
  refine lv_icmp_ne (tgt := 13) hx hb dX5_readLaw_6 (by decide) (fun c_1 => ?_) (fun c_1 => ?_)
  · replace c_1 := i_ne (x := p2) (y := 20) rfl (show (20 : Int32).toInt = 20 by decide) c_1
    refine lv_iconst (v := 0) hx hb dX5_readLaw_13 (by decide) ?_
    refine lv_istore_n (lv' := [(3, .int 0), (0, .ref h0), (1, .int p0), (2, (va_rf o0))]) hx hb dX5_readLaw_14 rfl hl (by decide) (by cases o0 <;> rfl) (fun ls_2 hl_2 => ?_)
    clear hl
    refine lv_aload_n hx hb dX5_readLaw_15 rfl (lv_at hl_2 1 rfl) ?_
    refine q_callVvT (rest := []) (wr := (wk_97b0566c7 cy h4 f2 h5 f3)) X hK hT hA h (fun sz => gX5_advance_9820dfe l D cy h0 h1 h2 h3 p1 p2 p3 p4 w0 (.ref h5) p5 p6 w1 p7 p8 (.ref h4) f0 f1 hp1 (i_rng _) (i_rng _) (i_rng _) hp5 (i_rng _) hp7 hp8 (hpre0) (hpre3) (by (first | (clear hpre2 hpre3; omega) | omega)) sz) wm_3_68 wm_3_71 wm_1_2 hd_X5_advance wm_3_70 wp_1_8 (ci := 5) (q0 := 0) rfl rfl ⟨Nat.le_of_ble_eq_true rfl, Nat.le_of_ble_eq_true rfl⟩ hl_2.1 rfl (Nat.le_of_ble_eq_true rfl) dX5_readLaw_16 ⟨Nat.le_of_ble_eq_true rfl, Nat.le_of_ble_eq_true rfl⟩ [0, 1, 2, 3] [4, 5] rfl rfl (by decide) rfl rfl (fun u_3 H locs w_3 h_3 => ?_)
    clear h
    obtain ⟨w3_0, w3_1, w3_2, w3_3, y3_0, y3_1, y3_2, y3_3, y3_4, y3_5, _⟩ := w_3
    replace h_3 : qW D _ _ ((wk_e6664c302 cy h4 f2 h5 f3 h0 h1 (u_3.2.1 0 0) (u_3.2.1 1 0) (u_3.2.1 2 0) (u_3.2.1 3 0) w0 h5 p5 p6 h1 w1 p7 p8 h2 h3 h4 h2 f0 h3 f1) ++ []) _ _ := h_3
    refine lv_aload_n hx hb dX5_readLaw_19 rfl (lv_at hl_2 1 rfl) ?_
    refine lv_bipush (v := 58) hx hb dX5_readLaw_20 (by decide) ?_
    refine q_callVvT (rest := []) (wr := (wk_97b0566c7 cy h4 f2 h5 f3)) X hK hT hA h_3 (fun sz => gX5_take_0541260 l D cy h0 h1 h2 h3 (u_3.2.1 0 0) (u_3.2.1 1 0) (u_3.2.1 2 0) (u_3.2.1 3 0) w0 (.ref h5) p5 p6 w1 p7 p8 (.ref h4) f0 f1 w3_0 (i_rng _) (i_rng _) (i_rng _) hp5 (i_rng _) hp7 hp8 (hpre0) (y3_0) (by (first | (clear hpre2 hpre3 y3_1 y3_2 y3_4 y3_5; omega) | omega)) (y3_5) (by have q0 : (58 : Int32).toInt = 58 := (by decide); (first | (clear hpre2 hpre3 y3_1 y3_2 y3_4 y3_5; omega) | omega)) sz) wm_3_72 wm_3_75 wm_1_2 hd_X5_take wm_3_74 wp_1_9 (ci := 5) (q0 := 0) rfl rfl ⟨Nat.le_of_ble_eq_true rfl, Nat.le_of_ble_eq_true rfl⟩ hl_2.1 rfl (Nat.le_of_ble_eq_true rfl) dX5_readLaw_22 ⟨Nat.le_of_ble_eq_true rfl, Nat.le_of_ble_eq_true rfl⟩ [2, 3, 4, 5] [0, 1] rfl rfl (by decide) rfl rfl (fun u_4 H locs w_4 h_4 => ?_)
    clear h_3
    obtain ⟨w4_0, w4_1, w4_2, w4_3, y4_0, y4_1, y4_2, y4_3, y4_4, y4_5, _⟩ := w_4
    have lq_4_1 : (58 : Int32).toInt = 58 := (by decide)
    replace h_4 : qW D _ _ ((wk_e6664c302 cy h4 f2 h5 f3 h0 h1 (u_4.2.1 3 0) (u_4.2.1 0 0) (u_4.2.1 1 0) (u_4.2.1 2 0) w0 h5 p5 p6 h1 w1 p7 p8 h2 h3 h4 h2 f0 h3 f1) ++ []) _ _ := h_4
    refine lv_aload_n hx hb dX5_readLaw_25 rfl (lv_at hl_2 1 rfl) ?_
    refine lv_iconst (v := 0) hx hb dX5_readLaw_26 (by decide) ?_
    refine q_put (v := .int 0) X hK h_4 2 rfl rfl wf_5 tyX5 tyX5_ok nmX5 7 (by decide) wm_1_153 rfl rfl rfl (Nat.le_of_ble_eq_true rfl) dX5_readLaw_27 (fun H locs h_5 => ?_)
    clear h_4
    replace h_5 : qW D _ _ ((wk_e6664c302 cy h4 f2 h5 f3 h0 h1 (u_4.2.1 3 0) (u_4.2.1 0 0) (u_4.2.1 1 0) (u_4.2.1 2 0) w0 h5 0 p6 h1 w1 p7 p8 h2 h3 h4 h2 f0 h3 f1) ++ []) _ _ := h_5
    refine lv_aload_n hx hb dX5_readLaw_30 rfl (lv_at hl_2 1 rfl) ?_
    refine lv_iload_n hx hb dX5_readLaw_31 rfl (lv_at hl_2 2 rfl) ?_
    refine q_put (v := .int p0) X hK h_5 2 rfl rfl wf_5 tyX5 tyX5_ok nmX5 8 (by decide) wm_1_154 rfl rfl rfl (Nat.le_of_ble_eq_true rfl) dX5_readLaw_32 (fun H locs h_6 => ?_)
    clear h_5
    replace h_6 : qW D _ _ ((wk_e6664c302 cy h4 f2 h5 f3 h0 h1 (u_4.2.1 3 0) (u_4.2.1 0 0) (u_4.2.1 1 0) (u_4.2.1 2 0) w0 h5 0 p0 h1 w1 p7 p8 h2 h3 h4 h2 f0 h3 f1) ++ []) _ _ := h_6
    refine lv_iload_n hx hb dX5_readLaw_35 rfl (lv_at hl_2 0 rfl) ?_
    refine lv_if_eq (tgt := 47) hx hb dX5_readLaw_36 (by decide) (fun _ => ?_) (fun c => absurd c (by decide +kernel))
    refine lv_aload_n hx hb dX5_readLaw_47 rfl (lv_at hl_2 1 rfl) ?_
    refine lv_iconst (v := 0) hx hb dX5_readLaw_48 (by decide) ?_
    refine q_callVvT (rest := []) (wr := []) X hK hT hA h_6 (fun sz => (gX5_ALLT_0feb8f5 l D cy 6).1  h0 h1 h2 h3 h4 h5 (0 : Int32) (u_4.2.1 3 0) (u_4.2.1 0 0) (u_4.2.1 1 0) (u_4.2.1 2 0) w0 (0 : Int32) p0 w1 p7 p8 f0 f1 f2 f3 ⟨by decide +kernel, by decide +kernel⟩ w4_3 (i_rng _) (i_rng _) (i_rng _) ⟨by decide +kernel, by decide +kernel⟩ (i_rng _) hp7 hp8 (hpre0) (y4_0) (y4_1) (y4_4) (by decide) sz) wm_3_121 wm_3_124 wm_1_2 hd_X5_readTruth wm_3_123 wp_2_5 (ci := 5) (q0 := 0) rfl rfl ⟨Nat.le_of_ble_eq_true rfl, Nat.le_of_ble_eq_true rfl⟩ hl_2.1 rfl (Nat.le_of_ble_eq_true rfl) dX5_readLaw_49 ⟨Nat.le_of_ble_eq_true rfl, Nat.le_of_ble_eq_true rfl⟩ [2, 3, 4, 5, 0, 1] [] rfl rfl (by decide) rfl rfl (fun u_7 H locs w_7 h_7 => ?_)
    clear h_6
    obtain ⟨w7_0, w7_1, w7_2, w7_3, w7_4, y7_0, y7_1, y7_2, y7_3, y7_4, y7_5, _⟩ := w_7
    have lz_7_0 : (0 : Int32).toInt = 0 := (by decide)
    replace h_7 : qW D _ _ ((wk_a727c0403 cy h0 h1 (u_7.2.1 0 0) (u_7.2.1 1 0) (u_7.2.1 2 0) (u_7.2.1 3 0) w0 h5 (u_7.2.1 4 0) p0 h1 w1 p7 p8 h2 h3 h4 h2 f0 h3 f1 h4 f2 h5 (u_7.2.1 5)) ++ []) _ _ := h_7
    refine lv_aload_n hx hb dX5_readLaw_52 rfl (lv_at hl_2 1 rfl) ?_
    refine q_get X hK h_7 0 rfl rfl wf_5 3 (by decide) rfl wm_1_147 dX5_readLaw_53 ?_
    refine lv_if_eq (tgt := 63) hx hb dX5_readLaw_56 (by decide) (fun c_8 => ?_) (fun c_8 => ?_)
    · replace c_8 := i_eq (x := (u_7.2.1 2 0)) (y := 0) rfl (show (0 : Int32).toInt = 0 by decide) c_8
      have cb_9 := cs_b c_8 y7_2 (by decide) y7_3 y4_2 y3_0 y7_0 w7_4 hp8
      refine q_new (fs := [.null]) (ci := 4) X hK hA h_7 rfl wf_4 tyX4 tyX4_ok wm_3_133 wm_3_134 wm_1_19 df_4 (Nat.le_of_ble_eq_true rfl) (Nat.le_of_ble_eq_true rfl) dX5_readLaw_63 (fun q_10 H h_10 => ?_)
      clear h_7
      replace h_10 : qW D _ _ ((wk_ae24459d8 cy h0 h1 (u_7.2.1 0 0) (u_7.2.1 1 0) (u_7.2.1 2 0) (u_7.2.1 3 0) w0 h5 (u_7.2.1 4 0) p0 h1 w1 p7 p8 h2 h3 h4 h2 f0 h3 f1 h4 f2 h5 (u_7.2.1 5) q_10) ++ []) _ _ := h_10
      refine lv_dup hx hb dX5_readLaw_66 rfl ?_
      refine lv_aload_n hx hb dX5_readLaw_67 rfl (lv_at hl_2 1 rfl) ?_
      refine q_get X hK h_10 0 rfl rfl wf_5 6 (by decide) rfl wm_1_152 dX5_readLaw_68 ?_
      refine lv_aload_n hx hb dX5_readLaw_71 rfl (lv_at hl_2 1 rfl) ?_
      refine q_get X hK h_10 0 rfl rfl wf_5 7 (by decide) rfl wm_1_153 dX5_readLaw_72 ?_
      refine q_callIv (rest := [.ref q_10]) (wr := (wk_c1f241b95 cy h0 h1 (u_7.2.1 0 0) (u_7.2.1 1 0) (u_7.2.1 2 0) (u_7.2.1 3 0) w0 h5 (u_7.2.1 4 0) p0 h1 w1 p7 p8 h2 h3 h4 h2 f0 h3 f1 h4 f2)) X hK hT hA h_10 (fun sz => gX4_init_6da7c59 l D cy q_10 h5 (u_7.2.1 4 0) Value.null (u_7.2.1 5) cb_9 (cb_9.2) sz) wm_3_135 wm_3_137 wm_1_19 hd_X4_init wm_3_136 rfl ⟨Nat.le_of_ble_eq_true rfl, Nat.le_of_ble_eq_true rfl⟩ hl_2.1 rfl (Nat.le_of_ble_eq_true rfl) dX5_readLaw_75 ⟨Nat.le_of_ble_eq_true rfl, Nat.le_of_ble_eq_true rfl⟩ [6, 5] [0, 1, 2, 3, 4] rfl rfl (by decide) rfl rfl (fun u_11 H locs w_11 h_11 => ?_)
      clear h_10
      clear w_11
      replace h_11 : qW D _ _ ((wk_1fec3ea31 cy h0 h1 (u_7.2.1 0 0) (u_7.2.1 1 0) (u_7.2.1 2 0) (u_7.2.1 3 0) w0 h5 (u_7.2.1 4 0) p0 h1 w1 p7 p8 h2 h3 h4 h2 f0 h3 f1 h4 f2 q_10 (u_11.1 0) h5 (u_7.2.1 5) (u_11.1 0) (u_7.2.1 4 0).toNatClampNeg (u_11.2.1 0)) ++ []) _ _ := h_11
      exact q_qretW X hr hlk hK h_11 (some q_10) rfl (wk_11f4a5c50 cy q_10 (u_11.1 0) (u_11.1 0) (u_7.2.1 4 0).toNatClampNeg (u_11.2.1 0)) ((fun _ => 0, (vcons (fun _ => (u_7.2.1 0 0)) (vcons (fun _ => (u_7.2.1 1 0)) (vcons (fun _ => (u_7.2.1 2 0)) (vcons (fun _ => (u_7.2.1 3 0)) (vcons (fun _ => (u_7.2.1 4 0)) (vcons (fun _ => p0) (vcons (u_7.2.1 5) (fun _ => (fun _ => 0))))))))), fun _ _ => 0), ((wk_11f4a5c50 cy q_10 (u_11.1 0) (u_11.1 0) (u_7.2.1 4 0).toNatClampNeg (u_11.2.1 0)) ++ []), fun _ => none) rfl ⟨w7_0, w7_1, w7_2, w7_3, (bw cb_9 (by decide) (by decide)), hp0, y7_0, y7_1, y7_4, (show ((u_7.2.1 2 0) : Int32).toInt ≠ 0 ∨ (p3 : Int32).toInt = 0 from (fl_tr y7_3 (fl_tr y4_3 y3_2))), (show (p1 : Int32).toInt ≤ ((u_7.2.1 0 0) : Int32).toInt from (Int.le_trans (Int.le_trans y3_3 y4_5) y7_5)), (show ((u_7.2.1 2 0) : Int32).toInt ≠ 0 ∨ (p1 : Int32).toInt + 1 ≤ ((u_7.2.1 0 0) : Int32).toInt from (p1_o y7_3 y4_2 y3_3 y7_5)), (show LR cy ((wk_11f4a5c50 cy q_10 (u_11.1 0) (u_11.1 0) (u_7.2.1 4 0).toNatClampNeg (u_11.2.1 0)) ++ []) (va_rf o0) (.ref q_10) from Or.inr ⟨_, _, _, _, rfl, i_c900 (by (first | assumption | (clear hpre2 hpre3 y3_1 y3_2 y3_4 y3_5 y4_1 y4_2 y4_3 y4_4 y7_1 y7_2 y7_3 y7_4; omega) | omega)) (by (first | assumption | (clear hpre2 hpre3 y3_1 y3_2 y3_4 y3_5 y4_1 y4_2 y4_3 y4_4 y7_1 y7_2 y7_3 y7_4; omega) | omega)), rfl⟩), trivial⟩ [0, 1, 2, 3, 4, 6, 5, 7] rfl rfl dX5_readLaw_78 (Nat.le_of_ble_eq_true rfl) (Nat.le_of_ble_eq_true rfl)
    · replace c_8 := i_ne (x := (u_7.2.1 2 0)) (y := 0) rfl (show (0 : Int32).toInt = 0 by decide) c_8
      refine q_aldq hx hb dX5_readLaw_59 rfl (lv_at hl_2 3 rfl) ?_
      refine lv_goto (tgt := 78) hx hb dX5_readLaw_60 (by decide) ?_
      exact q_qretW X hr hlk hK h_7 o0 rfl [] ((fun _ => 0, (vcons (fun _ => (u_7.2.1 0 0)) (vcons (fun _ => (u_7.2.1 1 0)) (vcons (fun _ => (u_7.2.1 2 0)) (vcons (fun _ => (u_7.2.1 3 0)) (vcons (fun _ => (u_7.2.1 4 0)) (vcons (fun _ => p0) (vcons (u_7.2.1 5) (fun _ => (fun _ => 0))))))))), fun _ _ => 0), ([] ++ []), fun _ => none) rfl ⟨w7_0, w7_1, w7_2, w7_3, w7_4, hp0, y7_0, y7_1, y7_4, (show ((u_7.2.1 2 0) : Int32).toInt ≠ 0 ∨ (p3 : Int32).toInt = 0 from (fl_tr y7_3 (fl_tr y4_3 y3_2))), (show (p1 : Int32).toInt ≤ ((u_7.2.1 0 0) : Int32).toInt from (Int.le_trans (Int.le_trans y3_3 y4_5) y7_5)), (show ((u_7.2.1 2 0) : Int32).toInt ≠ 0 ∨ (p1 : Int32).toInt + 1 ≤ ((u_7.2.1 0 0) : Int32).toInt from (p1_o y7_3 y4_2 y3_3 y7_5)), (show LR cy ([] ++ []) (va_rf o0) (va_rf o0) from Or.inl ⟨rfl, rfl⟩), trivial⟩ [0, 1, 2, 3, 4, 5] rfl rfl dX5_readLaw_78 (Nat.le_of_ble_eq_true rfl) (Nat.le_of_ble_eq_true rfl)
  · replace c_1 := i_eq (x := p2) (y := 20) rfl (show (20 : Int32).toInt = 20 by decide) c_1
    refine lv_iconst (v := 1) hx hb dX5_readLaw_9 (by decide) ?_
    refine lv_goto (tgt := 14) hx hb dX5_readLaw_10 (by decide) ?_
    refine lv_istore_n (lv' := [(3, .int 1), (0, .ref h0), (1, .int p0), (2, (va_rf o0))]) hx hb dX5_readLaw_14 rfl hl (by decide) (by cases o0 <;> rfl) (fun ls_12 hl_12 => ?_)
    clear hl
    refine lv_aload_n hx hb dX5_readLaw_15 rfl (lv_at hl_12 1 rfl) ?_
    refine q_callVvT (rest := []) (wr := (wk_97b0566c7 cy h4 f2 h5 f3)) X hK hT hA h (fun sz => gX5_advance_9820dfe l D cy h0 h1 h2 h3 p1 p2 p3 p4 w0 (.ref h5) p5 p6 w1 p7 p8 (.ref h4) f0 f1 hp1 (i_rng _) (i_rng _) (i_rng _) hp5 (i_rng _) hp7 hp8 (hpre0) (hpre3) (by (first | (clear hpre2 hpre3; omega) | omega)) sz) wm_3_68 wm_3_71 wm_1_2 hd_X5_advance wm_3_70 wp_1_8 (ci := 5) (q0 := 0) rfl rfl ⟨Nat.le_of_ble_eq_true rfl, Nat.le_of_ble_eq_true rfl⟩ hl_12.1 rfl (Nat.le_of_ble_eq_true rfl) dX5_readLaw_16 ⟨Nat.le_of_ble_eq_true rfl, Nat.le_of_ble_eq_true rfl⟩ [0, 1, 2, 3] [4, 5] rfl rfl (by decide) rfl rfl (fun u_13 H locs w_13 h_13 => ?_)
    clear h
    obtain ⟨w13_0, w13_1, w13_2, w13_3, y13_0, y13_1, y13_2, y13_3, y13_4, y13_5, _⟩ := w_13
    replace h_13 : qW D _ _ ((wk_e6664c302 cy h4 f2 h5 f3 h0 h1 (u_13.2.1 0 0) (u_13.2.1 1 0) (u_13.2.1 2 0) (u_13.2.1 3 0) w0 h5 p5 p6 h1 w1 p7 p8 h2 h3 h4 h2 f0 h3 f1) ++ []) _ _ := h_13
    refine lv_aload_n hx hb dX5_readLaw_19 rfl (lv_at hl_12 1 rfl) ?_
    refine lv_bipush (v := 58) hx hb dX5_readLaw_20 (by decide) ?_
    refine q_callVvT (rest := []) (wr := (wk_97b0566c7 cy h4 f2 h5 f3)) X hK hT hA h_13 (fun sz => gX5_take_0541260 l D cy h0 h1 h2 h3 (u_13.2.1 0 0) (u_13.2.1 1 0) (u_13.2.1 2 0) (u_13.2.1 3 0) w0 (.ref h5) p5 p6 w1 p7 p8 (.ref h4) f0 f1 w13_0 (i_rng _) (i_rng _) (i_rng _) hp5 (i_rng _) hp7 hp8 (hpre0) (y13_0) (by (first | (clear hpre2 hpre3 y13_1 y13_2 y13_4 y13_5; omega) | omega)) (y13_5) (by have q0 : (58 : Int32).toInt = 58 := (by decide); (first | (clear hpre2 hpre3 y13_1 y13_2 y13_4 y13_5; omega) | omega)) sz) wm_3_72 wm_3_75 wm_1_2 hd_X5_take wm_3_74 wp_1_9 (ci := 5) (q0 := 0) rfl rfl ⟨Nat.le_of_ble_eq_true rfl, Nat.le_of_ble_eq_true rfl⟩ hl_12.1 rfl (Nat.le_of_ble_eq_true rfl) dX5_readLaw_22 ⟨Nat.le_of_ble_eq_true rfl, Nat.le_of_ble_eq_true rfl⟩ [2, 3, 4, 5] [0, 1] rfl rfl (by decide) rfl rfl (fun u_14 H locs w_14 h_14 => ?_)
    clear h_13
    obtain ⟨w14_0, w14_1, w14_2, w14_3, y14_0, y14_1, y14_2, y14_3, y14_4, y14_5, _⟩ := w_14
    have lq_14_1 : (58 : Int32).toInt = 58 := (by decide)
    replace h_14 : qW D _ _ ((wk_e6664c302 cy h4 f2 h5 f3 h0 h1 (u_14.2.1 3 0) (u_14.2.1 0 0) (u_14.2.1 1 0) (u_14.2.1 2 0) w0 h5 p5 p6 h1 w1 p7 p8 h2 h3 h4 h2 f0 h3 f1) ++ []) _ _ := h_14
    refine lv_aload_n hx hb dX5_readLaw_25 rfl (lv_at hl_12 1 rfl) ?_
    refine lv_iconst (v := 0) hx hb dX5_readLaw_26 (by decide) ?_
    refine q_put (v := .int 0) X hK h_14 2 rfl rfl wf_5 tyX5 tyX5_ok nmX5 7 (by decide) wm_1_153 rfl rfl rfl (Nat.le_of_ble_eq_true rfl) dX5_readLaw_27 (fun H locs h_15 => ?_)
    clear h_14
    replace h_15 : qW D _ _ ((wk_e6664c302 cy h4 f2 h5 f3 h0 h1 (u_14.2.1 3 0) (u_14.2.1 0 0) (u_14.2.1 1 0) (u_14.2.1 2 0) w0 h5 0 p6 h1 w1 p7 p8 h2 h3 h4 h2 f0 h3 f1) ++ []) _ _ := h_15
    refine lv_aload_n hx hb dX5_readLaw_30 rfl (lv_at hl_12 1 rfl) ?_
    refine lv_iload_n hx hb dX5_readLaw_31 rfl (lv_at hl_12 2 rfl) ?_
    refine q_put (v := .int p0) X hK h_15 2 rfl rfl wf_5 tyX5 tyX5_ok nmX5 8 (by decide) wm_1_154 rfl rfl rfl (Nat.le_of_ble_eq_true rfl) dX5_readLaw_32 (fun H locs h_16 => ?_)
    clear h_15
    replace h_16 : qW D _ _ ((wk_e6664c302 cy h4 f2 h5 f3 h0 h1 (u_14.2.1 3 0) (u_14.2.1 0 0) (u_14.2.1 1 0) (u_14.2.1 2 0) w0 h5 0 p0 h1 w1 p7 p8 h2 h3 h4 h2 f0 h3 f1) ++ []) _ _ := h_16
    refine lv_iload_n hx hb dX5_readLaw_35 rfl (lv_at hl_12 0 rfl) ?_
    refine lv_if_eq (tgt := 47) hx hb dX5_readLaw_36 (by decide) (fun c => absurd c (by decide +kernel)) (fun _ => ?_)
    refine lv_aload_n hx hb dX5_readLaw_39 rfl (lv_at hl_12 1 rfl) ?_
    refine lv_iconst (v := 0) hx hb dX5_readLaw_40 (by decide) ?_
    refine q_callVvT (rest := []) (wr := []) X hK hT hA h_16 (fun sz => (gX5_ALLS_799895c l D cy 6)  h0 h1 h2 h3 h4 h5 (0 : Int32) (u_14.2.1 3 0) (u_14.2.1 0 0) (u_14.2.1 1 0) (u_14.2.1 2 0) w0 (0 : Int32) p0 w1 p7 p8 f0 f1 f2 f3 ⟨by decide +kernel, by decide +kernel⟩ w14_3 (i_rng _) (i_rng _) (i_rng _) ⟨by decide +kernel, by decide +kernel⟩ (i_rng _) hp7 hp8 (hpre0) (y14_0) (y14_1) (y14_4) (by decide) sz) wm_3_101 wm_3_104 wm_1_2 hd_X5_readSum wm_3_103 wp_2_0 (ci := 5) (q0 := 0) rfl rfl ⟨Nat.le_of_ble_eq_true rfl, Nat.le_of_ble_eq_true rfl⟩ hl_12.1 rfl (Nat.le_of_ble_eq_true rfl) dX5_readLaw_41 ⟨Nat.le_of_ble_eq_true rfl, Nat.le_of_ble_eq_true rfl⟩ [2, 3, 4, 5, 0, 1] [] rfl rfl (by decide) rfl rfl (fun u_17 H locs w_17 h_17 => ?_)
    clear h_16
    obtain ⟨w17_0, w17_1, w17_2, w17_3, w17_4, y17_0, y17_1, y17_2, y17_3, y17_4, y17_5, _⟩ := w_17
    have lz_17_0 : (0 : Int32).toInt = 0 := (by decide)
    replace h_17 : qW D _ _ ((wk_a727c0403 cy h0 h1 (u_17.2.1 0 0) (u_17.2.1 1 0) (u_17.2.1 2 0) (u_17.2.1 3 0) w0 h5 (u_17.2.1 4 0) p0 h1 w1 p7 p8 h2 h3 h4 h2 f0 h3 f1 h4 f2 h5 (u_17.2.1 5)) ++ []) _ _ := h_17
    refine lv_goto (tgt := 52) hx hb dX5_readLaw_44 (by decide) ?_
    refine lv_aload_n hx hb dX5_readLaw_52 rfl (lv_at hl_12 1 rfl) ?_
    refine q_get X hK h_17 0 rfl rfl wf_5 3 (by decide) rfl wm_1_147 dX5_readLaw_53 ?_
    refine lv_if_eq (tgt := 63) hx hb dX5_readLaw_56 (by decide) (fun c_18 => ?_) (fun c_18 => ?_)
    · replace c_18 := i_eq (x := (u_17.2.1 2 0)) (y := 0) rfl (show (0 : Int32).toInt = 0 by decide) c_18
      have cb_19 := cs_b c_18 y17_2 (by decide) y17_3 y14_2 y13_0 y17_0 w17_4 hp8
      refine q_new (fs := [.null]) (ci := 4) X hK hA h_17 rfl wf_4 tyX4 tyX4_ok wm_3_133 wm_3_134 wm_1_19 df_4 (Nat.le_of_ble_eq_true rfl) (Nat.le_of_ble_eq_true rfl) dX5_readLaw_63 (fun q_20 H h_20 => ?_)
      clear h_17
      replace h_20 : qW D _ _ ((wk_ae24459d8 cy h0 h1 (u_17.2.1 0 0) (u_17.2.1 1 0) (u_17.2.1 2 0) (u_17.2.1 3 0) w0 h5 (u_17.2.1 4 0) p0 h1 w1 p7 p8 h2 h3 h4 h2 f0 h3 f1 h4 f2 h5 (u_17.2.1 5) q_20) ++ []) _ _ := h_20
      refine lv_dup hx hb dX5_readLaw_66 rfl ?_
      refine lv_aload_n hx hb dX5_readLaw_67 rfl (lv_at hl_12 1 rfl) ?_
      refine q_get X hK h_20 0 rfl rfl wf_5 6 (by decide) rfl wm_1_152 dX5_readLaw_68 ?_
      refine lv_aload_n hx hb dX5_readLaw_71 rfl (lv_at hl_12 1 rfl) ?_
      refine q_get X hK h_20 0 rfl rfl wf_5 7 (by decide) rfl wm_1_153 dX5_readLaw_72 ?_
      refine q_callIv (rest := [.ref q_20]) (wr := (wk_c1f241b95 cy h0 h1 (u_17.2.1 0 0) (u_17.2.1 1 0) (u_17.2.1 2 0) (u_17.2.1 3 0) w0 h5 (u_17.2.1 4 0) p0 h1 w1 p7 p8 h2 h3 h4 h2 f0 h3 f1 h4 f2)) X hK hT hA h_20 (fun sz => gX4_init_6da7c59 l D cy q_20 h5 (u_17.2.1 4 0) Value.null (u_17.2.1 5) cb_19 (cb_19.2) sz) wm_3_135 wm_3_137 wm_1_19 hd_X4_init wm_3_136 rfl ⟨Nat.le_of_ble_eq_true rfl, Nat.le_of_ble_eq_true rfl⟩ hl_12.1 rfl (Nat.le_of_ble_eq_true rfl) dX5_readLaw_75 ⟨Nat.le_of_ble_eq_true rfl, Nat.le_of_ble_eq_true rfl⟩ [6, 5] [0, 1, 2, 3, 4] rfl rfl (by decide) rfl rfl (fun u_21 H locs w_21 h_21 => ?_)
      clear h_20
      clear w_21
      replace h_21 : qW D _ _ ((wk_1fec3ea31 cy h0 h1 (u_17.2.1 0 0) (u_17.2.1 1 0) (u_17.2.1 2 0) (u_17.2.1 3 0) w0 h5 (u_17.2.1 4 0) p0 h1 w1 p7 p8 h2 h3 h4 h2 f0 h3 f1 h4 f2 q_20 (u_21.1 0) h5 (u_17.2.1 5) (u_21.1 0) (u_17.2.1 4 0).toNatClampNeg (u_21.2.1 0)) ++ []) _ _ := h_21
      exact q_qretW X hr hlk hK h_21 (some q_20) rfl (wk_11f4a5c50 cy q_20 (u_21.1 0) (u_21.1 0) (u_17.2.1 4 0).toNatClampNeg (u_21.2.1 0)) ((fun _ => 0, (vcons (fun _ => (u_17.2.1 0 0)) (vcons (fun _ => (u_17.2.1 1 0)) (vcons (fun _ => (u_17.2.1 2 0)) (vcons (fun _ => (u_17.2.1 3 0)) (vcons (fun _ => (u_17.2.1 4 0)) (vcons (fun _ => p0) (vcons (u_17.2.1 5) (fun _ => (fun _ => 0))))))))), fun _ _ => 0), ((wk_11f4a5c50 cy q_20 (u_21.1 0) (u_21.1 0) (u_17.2.1 4 0).toNatClampNeg (u_21.2.1 0)) ++ []), fun _ => none) rfl ⟨w17_0, w17_1, w17_2, w17_3, (bw cb_19 (by decide) (by decide)), hp0, y17_0, y17_1, y17_4, (show ((u_17.2.1 2 0) : Int32).toInt ≠ 0 ∨ (p3 : Int32).toInt = 0 from (fl_tr y17_3 (fl_tr y14_3 y13_2))), (show (p1 : Int32).toInt ≤ ((u_17.2.1 0 0) : Int32).toInt from (Int.le_trans (Int.le_trans y13_3 y14_5) y17_5)), (show ((u_17.2.1 2 0) : Int32).toInt ≠ 0 ∨ (p1 : Int32).toInt + 1 ≤ ((u_17.2.1 0 0) : Int32).toInt from (p1_o y17_3 y14_2 y13_3 y17_5)), (show LR cy ((wk_11f4a5c50 cy q_20 (u_21.1 0) (u_21.1 0) (u_17.2.1 4 0).toNatClampNeg (u_21.2.1 0)) ++ []) (va_rf o0) (.ref q_20) from Or.inr ⟨_, _, _, _, rfl, i_c900 (by (first | assumption | (clear hpre2 hpre3 y13_1 y13_2 y13_4 y13_5 y14_1 y14_2 y14_3 y14_4 y17_1 y17_2 y17_3 y17_4; omega) | omega)) (by (first | assumption | (clear hpre2 hpre3 y13_1 y13_2 y13_4 y13_5 y14_1 y14_2 y14_3 y14_4 y17_1 y17_2 y17_3 y17_4; omega) | omega)), rfl⟩), trivial⟩ [0, 1, 2, 3, 4, 6, 5, 7] rfl rfl dX5_readLaw_78 (Nat.le_of_ble_eq_true rfl) (Nat.le_of_ble_eq_true rfl)
    · replace c_18 := i_ne (x := (u_17.2.1 2 0)) (y := 0) rfl (show (0 : Int32).toInt = 0 by decide) c_18
      refine q_aldq hx hb dX5_readLaw_59 rfl (lv_at hl_12 3 rfl) ?_
      refine lv_goto (tgt := 78) hx hb dX5_readLaw_60 (by decide) ?_
      exact q_qretW X hr hlk hK h_17 o0 rfl [] ((fun _ => 0, (vcons (fun _ => (u_17.2.1 0 0)) (vcons (fun _ => (u_17.2.1 1 0)) (vcons (fun _ => (u_17.2.1 2 0)) (vcons (fun _ => (u_17.2.1 3 0)) (vcons (fun _ => (u_17.2.1 4 0)) (vcons (fun _ => p0) (vcons (u_17.2.1 5) (fun _ => (fun _ => 0))))))))), fun _ _ => 0), ([] ++ []), fun _ => none) rfl ⟨w17_0, w17_1, w17_2, w17_3, w17_4, hp0, y17_0, y17_1, y17_4, (show ((u_17.2.1 2 0) : Int32).toInt ≠ 0 ∨ (p3 : Int32).toInt = 0 from (fl_tr y17_3 (fl_tr y14_3 y13_2))), (show (p1 : Int32).toInt ≤ ((u_17.2.1 0 0) : Int32).toInt from (Int.le_trans (Int.le_trans y13_3 y14_5) y17_5)), (show ((u_17.2.1 2 0) : Int32).toInt ≠ 0 ∨ (p1 : Int32).toInt + 1 ≤ ((u_17.2.1 0 0) : Int32).toInt from (p1_o y17_3 y14_2 y13_3 y17_5)), (show LR cy ([] ++ []) (va_rf o0) (va_rf o0) from Or.inl ⟨rfl, rfl⟩), trivial⟩ [0, 1, 2, 3, 4, 5] rfl rfl dX5_readLaw_78 (Nat.le_of_ble_eq_true rfl) (Nat.le_of_ble_eq_true rfl)
set_option maxHeartbeats 4000000 in
set_option maxRecDepth 100000 in
theorem gX5_readLine_ab75d68 (l : Launch) (D : va_G) (cy : Nat → ClassId) (h0 : Nat) (h1 : Nat) (h2 : Nat) (h3 : Nat) (h4 : Nat) (h5 : Nat) (h6 : Nat) (h7 : Nat) (h8 : Nat) (h9 : Nat) (h10 : Nat) (h11 : Nat) (p0 : Int32) (p1 : Int32) (p2 : Int32) (p3 : Int32) (p4 : Int32) (p5 : Int32) (w0 : Value) (p6 : Int32) (p7 : Int32) (f0 : Nat → Int32) (f1 : Nat → Int32) (f2 : Nat → Int32) (p8 : Int32) (p9 : Int32) (p10 : Int32) (p11 : Int32) (o0 : Option Nat) (o1 : Option Nat) (o2 : Option Nat) (f3 : Nat → Int32) (f4 : Nat → Int32) (f5 : Nat → Int32) (f6 : Nat → Int32) (f7 : Nat → Int32) (f8 : Nat → Int32) (hp0 : (-1) ≤ (p0).toInt ∧ (p0).toInt ≤ 900) (hp1 : (-2147483648) ≤ (p1).toInt ∧ (p1).toInt ≤ 2147483647) (hp2 : (-2147483648) ≤ (p2).toInt ∧ (p2).toInt ≤ 2147483647) (hp3 : (-2147483648) ≤ (p3).toInt ∧ (p3).toInt ≤ 2147483647) (hp4 : 0 ≤ (p4).toInt ∧ (p4).toInt ≤ 900) (hp5 : (-2147483648) ≤ (p5).toInt ∧ (p5).toInt ≤ 2147483647) (hp6 : 0 ≤ (p6).toInt ∧ (p6).toInt ≤ 900) (hp7 : 0 ≤ (p7).toInt ∧ (p7).toInt ≤ 901) (hp8 : 1 ≤ (p8).toInt ∧ (p8).toInt ≤ 3) (hp9 : 0 ≤ (p9).toInt ∧ (p9).toInt ≤ 10) (hp10 : (-2147483648) ≤ (p10).toInt ∧ (p10).toInt ≤ 2147483647) (hp11 : (-2147483648) ≤ (p11).toInt ∧ (p11).toInt ≤ 2147483647) (rf3 : RG f3 10 0 999) (hpre0 : KZ f0 (p7 : Int32).toInt) (hpre1 : 0 ≤ (p0 : Int32).toInt ∧ (p0 : Int32).toInt < (p7 : Int32).toInt) (hpre2 : (p2 : Int32).toInt ≠ 0 ∨ (p1 : Int32).toInt = 26 ∨ (p1 : Int32).toInt = 27 ∨ (p0 : Int32).toInt + 1 < (p7 : Int32).toInt) (hpre3 : (p2 : Int32).toInt = 0 ∨ (p1 : Int32).toInt = 27) (hpre4 : (p1 : Int32).toInt ≠ 26 ∧ (p1 : Int32).toInt ≠ 27) (sz : Nat) : MVw l yX5_readLine cX5_readLine 1 { frames := 27, cells := 2, slots := 901, locals := 677 } [.ref h0] D cy (wk_d33bee7ee cy h0 h1 p0 p1 p2 p3 h5 h11 p4 p5 h1 w0 p6 p7 h2 h3 h4 h2 f0 h3 f1 h4 f2 h5 p8 p9 p10 p11 o0 o1 o2 h6 h7 h8 h9 h10 h6 f3 h7 f4 h8 f5 h9 f6 h10 f7 h11 f8) sz (fun u => ((-1) ≤ (u.1.2.1 0 0).toInt ∧ (u.1.2.1 0 0).toInt ≤ 900) ∧ ((-2147483648) ≤ (u.1.2.1 1 0).toInt ∧ (u.1.2.1 1 0).toInt ≤ 2147483647) ∧ ((-2147483648) ≤ (u.1.2.1 2 0).toInt ∧ (u.1.2.1 2 0).toInt ≤ 2147483647) ∧ ((-2147483648) ≤ (u.1.2.1 3 0).toInt ∧ (u.1.2.1 3 0).toInt ≤ 2147483647) ∧ (0 ≤ (u.1.2.1 4 0).toInt ∧ (u.1.2.1 4 0).toInt ≤ 900) ∧ ((-2147483648) ≤ (u.1.2.1 5 0).toInt ∧ (u.1.2.1 5 0).toInt ≤ 2147483647) ∧ (0 ≤ (u.1.2.1 6 0).toInt ∧ (u.1.2.1 6 0).toInt ≤ 10) ∧ ((-2147483648) ≤ (u.1.2.1 7 0).toInt ∧ (u.1.2.1 7 0).toInt ≤ 2147483647) ∧ RG (u.1.2.1 8) 10 0 999 ∧ (0 ≤ ((u.1.2.1 0 0) : Int32).toInt ∧ ((u.1.2.1 0 0) : Int32).toInt < (p7 : Int32).toInt) ∧ (((u.1.2.1 2 0) : Int32).toInt ≠ 0 ∨ ((u.1.2.1 1 0) : Int32).toInt = 26 ∨ ((u.1.2.1 1 0) : Int32).toInt = 27 ∨ ((u.1.2.1 0 0) : Int32).toInt + 1 < (p7 : Int32).toInt) ∧ (((u.1.2.1 2 0) : Int32).toInt = 0 ∨ ((u.1.2.1 1 0) : Int32).toInt = 27) ∧ (((u.1.2.1 2 0) : Int32).toInt ≠ 0 ∨ (p2 : Int32).toInt = 0) ∧ ((p0 : Int32).toInt ≤ ((u.1.2.1 0 0) : Int32).toInt) ∧ (((u.1.2.1 2 0) : Int32).toInt ≠ 0 ∨ (p0 : Int32).toInt + 1 ≤ ((u.1.2.1 0 0) : Int32).toInt) ∧ (LawS cy u.2.1 (va_rf o0) (va_rf o1) (va_rf o2) (va_rf (u.2.2 0)) (va_rf (u.2.2 1)) (va_rf (u.2.2 2))) ∧ True) (fun u => (wk_d33bee7ee cy h0 h1 (u.1.2.1 0 0) (u.1.2.1 1 0) (u.1.2.1 2 0) (u.1.2.1 3 0) h5 h11 (u.1.2.1 4 0) (u.1.2.1 5 0) h1 w0 p6 p7 h2 h3 h4 h2 f0 h3 f1 h4 f2 h5 p8 (u.1.2.1 6 0) p10 (u.1.2.1 7 0) (u.2.2 0) (u.2.2 1) (u.2.2 2) h6 h7 h8 h9 h10 h6 (u.1.2.1 8) h7 (u.1.2.1 9) h8 (u.1.2.1 10) h9 (u.1.2.1 11) h10 (u.1.2.1 12) h11 (u.1.2.1 13))) 2 901 := by
  refine q_ent (own := RX5) (by decide) rfl (Nat.le_of_ble_eq_true rfl) (fun p e s m below meth c ls X hr hlk hnm hK hT h hA hl => ?_)
  obtain ⟨hx, hb, hml, hown, ht⟩ := id X
  replace h : qW D _ _ ((wk_d33bee7ee cy h0 h1 p0 p1 p2 p3 h5 h11 p4 p5 h1 w0 p6 p7 h2 h3 h4 h2 f0 h3 f1 h4 f2 h5 p8 p9 p10 p11 o0 o1 o2 h6 h7 h8 h9 h10 h6 f3 h7 f4 h8 f5 h9 f6 h10 f7 h11 f8) ++ []) _ _ := h
  replace hl : lv_has ls 1 [(0, .ref h0)] := hl
  refine lv_aload_n hx hb dX5_readLine_0 rfl (lv_at hl 0 rfl) ?_
  refine q_get X hK h 0 rfl rfl wf_5 2 (by decide) rfl wm_1_146 dX5_readLine_1 ?_
  refine q_jnC (c2 := 2) (s2 := 901) (pc2 := 178) (fun H locs ls st => ∃ v178_1_0 : Int32, ∃ v178_1_1 : Int32, ∃ v178_1_2 : Int32, ∃ v178_1_3 : Int32, ∃ v178_1_4 : Int32, ∃ v178_1_5 : Int32, ∃ v178_1_11 : Option Nat, ∃ v178_1_12 : Int32, ∃ v178_1_13 : Int32, ∃ v178_1_16 : Option Nat, ∃ v178_1_17 : Option Nat, ∃ v178_1_6 : Nat → Int32, ∃ v178_1_7 : Nat → Int32, ∃ v178_1_8 : Nat → Int32, ∃ v178_1_9 : Nat → Int32, ∃ v178_1_10 : Nat → Int32, ∃ v178_1_14 : Nat → Int32, ∃ v178_1_15 : va_W, ((-2147483648) ≤ (v178_1_0).toInt ∧ (v178_1_0).toInt ≤ 2147483647) ∧ ((-1) ≤ (v178_1_1).toInt ∧ (v178_1_1).toInt ≤ 900) ∧ ((-2147483648) ≤ (v178_1_2).toInt ∧ (v178_1_2).toInt ≤ 2147483647) ∧ ((-2147483648) ≤ (v178_1_3).toInt ∧ (v178_1_3).toInt ≤ 2147483647) ∧ ((-2147483648) ≤ (v178_1_4).toInt ∧ (v178_1_4).toInt ≤ 2147483647) ∧ (0 ≤ (v178_1_5).toInt ∧ (v178_1_5).toInt ≤ 10) ∧ (0 ≤ (v178_1_12).toInt ∧ (v178_1_12).toInt ≤ 900) ∧ ((-2147483648) ≤ (v178_1_13).toInt ∧ (v178_1_13).toInt ≤ 2147483647) ∧ RG v178_1_6 10 0 999 ∧ (0 ≤ (v178_1_1 : Int32).toInt ∧ (v178_1_1 : Int32).toInt < (p7 : Int32).toInt) ∧ ((v178_1_3 : Int32).toInt ≠ 0 ∨ (v178_1_2 : Int32).toInt = 26 ∨ (v178_1_2 : Int32).toInt = 27 ∨ (v178_1_1 : Int32).toInt + 1 < (p7 : Int32).toInt) ∧ ((v178_1_3 : Int32).toInt = 0 ∨ (v178_1_2 : Int32).toInt = 27) ∧ ((v178_1_3 : Int32).toInt ≠ 0 ∨ (p2 : Int32).toInt = 0) ∧ ((p0 : Int32).toInt ≤ (v178_1_1 : Int32).toInt) ∧ ((v178_1_3 : Int32).toInt ≠ 0 ∨ (p0 : Int32).toInt + 1 ≤ (v178_1_1 : Int32).toInt) ∧ (LawS cy v178_1_15 (va_rf o0) (va_rf o1) (va_rf o2) (va_rf v178_1_11) (va_rf v178_1_16) (va_rf v178_1_17)) ∧ st = [] ∧ qW D (va_A (wk_d33bee7ee cy h0 h1 p0 p1 p2 p3 h5 h11 p4 p5 h1 w0 p6 p7 h2 h3 h4 h2 f0 h3 f1 h4 f2 h5 p8 p9 p10 p11 o0 o1 o2 h6 h7 h8 h9 h10 h6 f3 h7 f4 h8 f5 h9 f6 h10 f7 h11 f8) sz) s.heap ((wk_d33bee7ee cy h0 h1 v178_1_1 v178_1_2 v178_1_3 v178_1_4 h5 h11 v178_1_12 v178_1_13 h1 w0 p6 p7 h2 h3 h4 h2 f0 h3 f1 h4 f2 h5 p8 v178_1_5 p10 v178_1_0 v178_1_11 v178_1_16 v178_1_17 h6 h7 h8 h9 h10 h6 v178_1_6 h7 v178_1_7 h8 v178_1_8 h9 v178_1_9 h10 v178_1_10 h11 v178_1_14) ++ v178_1_15) H locs ∧ lv_has ls 1 [(0, .ref h0)]) (fun H locs ls st hP => ?_) (fun J_178 => ?_)
  · obtain ⟨v178_1_0, v178_1_1, v178_1_2, v178_1_3, v178_1_4, v178_1_5, v178_1_11, v178_1_12, v178_1_13, v178_1_16, v178_1_17, v178_1_6, v178_1_7, v178_1_8, v178_1_9, v178_1_10, v178_1_14, v178_1_15, hv178_1_0, hv178_1_1, hv178_1_2, hv178_1_3, hv178_1_4, hv178_1_5, hv178_1_12, hv178_1_13, rv178_1_6, x2_0, x3_1, x4_2, x5_3, x6_4, x7_5, x8_6, rfl, h, hl⟩ := hP
    exact q_vretW X hr hlk hK h [] ((fun _ => 0, (vcons (fun _ => v178_1_1) (vcons (fun _ => v178_1_2) (vcons (fun _ => v178_1_3) (vcons (fun _ => v178_1_4) (vcons (fun _ => v178_1_12) (vcons (fun _ => v178_1_13) (vcons (fun _ => v178_1_5) (vcons (fun _ => v178_1_0) (vcons v178_1_6 (vcons v178_1_7 (vcons v178_1_8 (vcons v178_1_9 (vcons v178_1_10 (vcons v178_1_14 (fun _ => (fun _ => 0)))))))))))))))), fun _ _ => 0), ([] ++ v178_1_15), (vcons v178_1_11 (vcons v178_1_16 (vcons v178_1_17 (fun _ => none))))) rfl ⟨hv178_1_1, hv178_1_2, hv178_1_3, hv178_1_4, hv178_1_12, hv178_1_13, hv178_1_5, hv178_1_0, (rg_wide rv178_1_6 (by decide) (by decide)), x2_0, x3_1, x4_2, x5_3, x6_4, x7_5, x8_6, trivial⟩ [0, 1, 2, 3, 4, 5, 6, 7, 8, 9, 10, 11] rfl rfl dX5_readLine_178 (Nat.le_of_ble_eq_true rfl) (Nat.le_of_ble_eq_true rfl)
  · skip
    by_cases c_9 : p1 = 8
    · have ec_9 : (p1).toInt = 8 := by rw [c_9]; decide
      refine lv_tableIn (off := 147) (tgt := 151) hx hb dX5_readLine_4 (by rw [c_9]; decide +kernel) (by rw [c_9]; decide +kernel) (by rw [c_9]; decide +kernel) (by decide) ?_
      refine lv_aload_n hx hb dX5_readLine_151 rfl (lv_at hl 0 rfl) ?_
      refine q_callVvT (rest := []) (wr := [(h4, .inl (cy 1, 901, .inl f2)), (h5, .inr (3, [.int p8, .int p9, .int p10, .int p11, (va_rf o0), (va_rf o1), (va_rf o2), .ref h6, .ref h7, .ref h8, .ref h9, .ref h10])), (h6, .inl (cy 1, 10, .inl f3)), (h7, .inl (cy 1, 10, .inl f4)), (h8, .inl (cy 1, 10, .inl f5)), (h9, .inl (cy 1, 10, .inl f6)), (h10, .inl (cy 1, 10, .inl f7)), (h11, .inl (cy 1, 900, .inl f8))]) X hK hT hA h (fun sz => gX5_advance_9820dfe l D cy h0 h1 h2 h3 p0 p1 p2 p3 (.ref h5) (.ref h11) p4 p5 w0 p6 p7 (.ref h4) f0 f1 hp0 (i_rng _) (i_rng _) (i_rng _) hp4 (i_rng _) hp6 hp7 (hpre0) (hpre3) (by (first | (clear hpre2 hpre3; omega) | omega)) sz) wm_3_68 wm_3_71 wm_1_2 hd_X5_advance wm_3_70 wp_1_8 (ci := 5) (q0 := 0) rfl rfl ⟨Nat.le_of_ble_eq_true rfl, Nat.le_of_ble_eq_true rfl⟩ hl.1 rfl (Nat.le_of_ble_eq_true rfl) dX5_readLine_152 ⟨Nat.le_of_ble_eq_true rfl, Nat.le_of_ble_eq_true rfl⟩ [0, 1, 2, 3] [4, 5, 6, 7, 8, 9, 10, 11] rfl rfl (by decide) rfl rfl (fun u_10 H locs w_10 h_10 => ?_)
      clear h
      obtain ⟨w10_0, w10_1, w10_2, w10_3, y10_0, y10_1, y10_2, y10_3, y10_4, y10_5, _⟩ := w_10
      replace h_10 : qW D _ _ ([(h4, .inl (cy 1, 901, .inl f2)), (h5, .inr (3, [.int p8, .int p9, .int p10, .int p11, (va_rf o0), (va_rf o1), (va_rf o2), .ref h6, .ref h7, .ref h8, .ref h9, .ref h10])), (h6, .inl (cy 1, 10, .inl f3)), (h7, .inl (cy 1, 10, .inl f4)), (h8, .inl (cy 1, 10, .inl f5)), (h9, .inl (cy 1, 10, .inl f6)), (h10, .inl (cy 1, 10, .inl f7)), (h11, .inl (cy 1, 900, .inl f8)), (h0, .inr (5, [.ref h1, .int (u_10.2.1 0 0), .int (u_10.2.1 1 0), .int (u_10.2.1 2 0), .int (u_10.2.1 3 0), .ref h5, .ref h11, .int p4, .int p5])), (h1, .inr (8, [w0, .int p6, .int p7, .ref h2, .ref h3, .ref h4])), (h2, .inl (cy 1, 901, .inl f0)), (h3, .inl (cy 1, 901, .inl f1))] ++ []) _ _ := h_10
      refine lv_aload_n hx hb dX5_readLine_155 rfl (lv_at hl 0 rfl) ?_
      refine q_get X hK h_10 8 rfl rfl wf_5 5 (by decide) rfl wm_1_151 dX5_readLine_156 ?_
      refine lv_aload_n hx hb dX5_readLine_159 rfl (lv_at hl 0 rfl) ?_
      refine lv_iconst (v := 0) hx hb dX5_readLine_160 (by decide) ?_
      refine lv_sipush (v := 999) hx hb dX5_readLine_161 (by decide) ?_
      refine q_callViT (rest := [.ref h5]) (wr := [(h5, .inr (3, [.int p8, .int p9, .int p10, .int p11, (va_rf o0), (va_rf o1), (va_rf o2), .ref h6, .ref h7, .ref h8, .ref h9, .ref h10])), (h6, .inl (cy 1, 10, .inl f3)), (h7, .inl (cy 1, 10, .inl f4)), (h8, .inl (cy 1, 10, .inl f5)), (h9, .inl (cy 1, 10, .inl f6)), (h10, .inl (cy 1, 10, .inl f7)), (h11, .inl (cy 1, 900, .inl f8))]) X hK hT hA h_10 (fun sz => gX5_takeNumber_7db443e l D cy h0 h1 h2 h3 h4 (u_10.2.1 0 0) (u_10.2.1 1 0) (u_10.2.1 2 0) (u_10.2.1 3 0) (.ref h5) (.ref h11) p4 p5 w0 p6 p7 f0 f1 f2 w10_0 (i_rng _) (i_rng _) (i_rng _) hp4 (i_rng _) hp6 hp7 (hpre0) (y10_0) (by (first | (clear hpre2 hpre3 y10_1 y10_2 y10_4 y10_5; omega) | omega)) (y10_5) sz) wm_3_80 wm_3_83 wm_1_2 hd_X5_takeNumber wm_3_82 wp_1_11 (ci := 5) (q0 := 0) rfl rfl ⟨Nat.le_of_ble_eq_true rfl, Nat.le_of_ble_eq_true rfl⟩ hl.1 rfl (Nat.le_of_ble_eq_true rfl) dX5_readLine_164 ⟨Nat.le_of_ble_eq_true rfl, Nat.le_of_ble_eq_true rfl⟩ [8, 9, 10, 11, 0] [1, 2, 3, 4, 5, 6, 7] rfl rfl (by decide) rfl rfl (fun r_11 u_11 H locs w_11 h_11 => ?_)
      clear h_10
      obtain ⟨wr_11, w11_0, w11_1, w11_2, w11_3, y11_0, y11_1, y11_2, y11_3, y11_4, y11_5, _⟩ := w_11
      have lq_11_1 : (0 : Int32).toInt = 0 := (by decide)
      have lq_11_2 : (999 : Int32).toInt = 999 := (by decide)
      replace h_11 : qW D _ _ ((wk_2d757fd5f cy h5 p8 p9 p10 p11 o0 o1 o2 h6 h7 h8 h9 h10 h6 f3 h7 f4 h8 f5 h9 f6 h10 f7 h11 f8 h0 h1 (u_11.2.1 0 0) (u_11.2.1 1 0) (u_11.2.1 2 0) (u_11.2.1 3 0) h5 h11 p4 p5 h1 w0 p6 p7 h2 h3 h4 h2 f0 h3 f1 h4 f2) ++ []) _ _ := h_11
      refine q_put (v := .int r_11) X hK h_11 0 rfl rfl wf_3 tyX3 tyX3_ok nmX3 3 (by decide) wm_1_92 rfl rfl rfl (Nat.le_of_ble_eq_true rfl) dX5_readLine_167 (fun H locs h_12 => ?_)
      clear h_11
      replace h_12 : qW D _ _ ((wk_2d757fd5f cy h5 p8 p9 p10 r_11 o0 o1 o2 h6 h7 h8 h9 h10 h6 f3 h7 f4 h8 f5 h9 f6 h10 f7 h11 f8 h0 h1 (u_11.2.1 0 0) (u_11.2.1 1 0) (u_11.2.1 2 0) (u_11.2.1 3 0) h5 h11 p4 p5 h1 w0 p6 p7 h2 h3 h4 h2 f0 h3 f1 h4 f2) ++ []) _ _ := h_12
      refine lv_goto (tgt := 178) hx hb dX5_readLine_170 (by decide) ?_
      exact W.widen (k := 2) (n := 901) (Nat.le_of_ble_eq_true rfl) (Nat.le_of_ble_eq_true rfl) (J_178 _ _ _ _ ⟨r_11, (u_11.2.1 0 0), (u_11.2.1 1 0), (u_11.2.1 2 0), (u_11.2.1 3 0), p9, o0, p4, p5, o1, o2, f3, f4, f5, f6, f7, f8, [], (bw wr_11 (by decide) (by decide)), w11_0, w11_1, w11_2, w11_3, hp9, hp4, hp5, (rg_wide rf3 (by decide) (by decide)), (y11_0), (y11_1), (y11_4), ((fl_tr y11_3 y10_2)), ((Int.le_trans y10_3 y11_5)), ((p1_o (ne_or _) y11_2 y10_3 (Int.le_refl _))), (ls_0), rfl, (q_reT h_12 [7, 8, 9, 10, 11, 0, 1, 2, 3, 4, 5, 6] rfl rfl), (lv_sub hl [0] rfl)⟩)
    by_cases c_13 : p1 = 9
    · have ec_13 : (p1).toInt = 9 := by rw [c_13]; decide
      refine lv_tableIn (off := 169) (tgt := 173) hx hb dX5_readLine_4 (by rw [c_13]; decide +kernel) (by rw [c_13]; decide +kernel) (by rw [c_13]; decide +kernel) (by decide) ?_
      refine lv_aload_n hx hb dX5_readLine_173 rfl (lv_at hl 0 rfl) ?_
      refine lv_iconst (v := 2) hx hb dX5_readLine_174 (by decide) ?_
      refine q_callVvT (rest := []) (wr := (wk_31def65b3 cy h2 f0 h4 f2 h5 p8 p9 p10 p11 o0 o1 o2 h6 h7 h8 h9 h10 h6 f3 h7 f4 h8 f5 h9 f6 h10 f7 h11 f8)) X hK hT hA h (fun sz => gX5_refuse_067fcff l D cy h0 h1 h3 p0 p1 p2 p3 (.ref h5) (.ref h11) p4 p5 w0 p6 p7 (.ref h2) (.ref h4) f1 hp0 (i_rng _) (i_rng _) (i_rng _) hp4 (i_rng _) hp6 hp7 (hpre1) (hpre3) (by have q0 : (2 : Int32).toInt = 2 := (by decide); (first | (clear hpre2 hpre3; omega) | omega)) sz) wm_3_76 wm_3_79 wm_1_2 hd_X5_refuse wm_3_78 wp_1_10 (ci := 5) (q0 := 0) rfl rfl ⟨Nat.le_of_ble_eq_true rfl, Nat.le_of_ble_eq_true rfl⟩ hl.1 rfl (Nat.le_of_ble_eq_true rfl) dX5_readLine_175 ⟨Nat.le_of_ble_eq_true rfl, Nat.le_of_ble_eq_true rfl⟩ [0, 1, 3] [2, 4, 5, 6, 7, 8, 9, 10, 11] rfl rfl (by decide) rfl rfl (fun u_14 H locs w_14 h_14 => ?_)
      clear h
      obtain ⟨w14_0, w14_1, w14_2, y14_0, y14_1, _⟩ := w_14
      have lq_14_1 : (2 : Int32).toInt = 2 := (by decide)
      replace h_14 : qW D _ _ ((wk_0202ea6aa cy h2 f0 h4 f2 h5 p8 p9 p10 p11 o0 o1 o2 h6 h7 h8 h9 h10 h6 f3 h7 f4 h8 f5 h9 f6 h10 f7 h11 f8 h0 h1 p0 (u_14.2.1 0 0) (u_14.2.1 1 0) (u_14.2.1 2 0) h5 h11 p4 p5 h1 w0 p6 p7 h2 h3 h4 h3 f1) ++ []) _ _ := h_14
      exact W.widen (k := 2) (n := 901) (Nat.le_of_ble_eq_true rfl) (Nat.le_of_ble_eq_true rfl) (J_178 _ _ _ _ ⟨p11, p0, (u_14.2.1 0 0), (u_14.2.1 1 0), (u_14.2.1 2 0), p9, o0, p4, p5, o1, o2, f3, f4, f5, f6, f7, f8, [], hp11, hp0, w14_0, w14_1, w14_2, hp9, hp4, hp5, (rg_wide rf3 (by decide) (by decide)), (hpre1), (by (first | (clear hpre2 hpre3 y14_1; omega) | omega)), (y14_1), (by (first | (clear hpre2 hpre3 y14_1; omega) | omega)), ((Int.le_refl _)), (by (first | (clear hpre2 hpre3 y14_1; omega) | omega)), (ls_0), rfl, (q_reT h_14 [9, 10, 0, 11, 1, 2, 3, 4, 5, 6, 7, 8] rfl rfl), (lv_sub hl [0] rfl)⟩)
    by_cases c_15 : p1 = 10
    · have ec_15 : (p1).toInt = 10 := by rw [c_15]; decide
      refine lv_tableIn (off := 169) (tgt := 173) hx hb dX5_readLine_4 (by rw [c_15]; decide +kernel) (by rw [c_15]; decide +kernel) (by rw [c_15]; decide +kernel) (by decide) ?_
      refine lv_aload_n hx hb dX5_readLine_173 rfl (lv_at hl 0 rfl) ?_
      refine lv_iconst (v := 2) hx hb dX5_readLine_174 (by decide) ?_
      refine q_callVvT (rest := []) (wr := (wk_31def65b3 cy h2 f0 h4 f2 h5 p8 p9 p10 p11 o0 o1 o2 h6 h7 h8 h9 h10 h6 f3 h7 f4 h8 f5 h9 f6 h10 f7 h11 f8)) X hK hT hA h (fun sz => gX5_refuse_067fcff l D cy h0 h1 h3 p0 p1 p2 p3 (.ref h5) (.ref h11) p4 p5 w0 p6 p7 (.ref h2) (.ref h4) f1 hp0 (i_rng _) (i_rng _) (i_rng _) hp4 (i_rng _) hp6 hp7 (hpre1) (hpre3) (by have q0 : (2 : Int32).toInt = 2 := (by decide); (first | (clear hpre2 hpre3; omega) | omega)) sz) wm_3_76 wm_3_79 wm_1_2 hd_X5_refuse wm_3_78 wp_1_10 (ci := 5) (q0 := 0) rfl rfl ⟨Nat.le_of_ble_eq_true rfl, Nat.le_of_ble_eq_true rfl⟩ hl.1 rfl (Nat.le_of_ble_eq_true rfl) dX5_readLine_175 ⟨Nat.le_of_ble_eq_true rfl, Nat.le_of_ble_eq_true rfl⟩ [0, 1, 3] [2, 4, 5, 6, 7, 8, 9, 10, 11] rfl rfl (by decide) rfl rfl (fun u_16 H locs w_16 h_16 => ?_)
      clear h
      obtain ⟨w16_0, w16_1, w16_2, y16_0, y16_1, _⟩ := w_16
      have lq_16_1 : (2 : Int32).toInt = 2 := (by decide)
      replace h_16 : qW D _ _ ((wk_0202ea6aa cy h2 f0 h4 f2 h5 p8 p9 p10 p11 o0 o1 o2 h6 h7 h8 h9 h10 h6 f3 h7 f4 h8 f5 h9 f6 h10 f7 h11 f8 h0 h1 p0 (u_16.2.1 0 0) (u_16.2.1 1 0) (u_16.2.1 2 0) h5 h11 p4 p5 h1 w0 p6 p7 h2 h3 h4 h3 f1) ++ []) _ _ := h_16
      exact W.widen (k := 2) (n := 901) (Nat.le_of_ble_eq_true rfl) (Nat.le_of_ble_eq_true rfl) (J_178 _ _ _ _ ⟨p11, p0, (u_16.2.1 0 0), (u_16.2.1 1 0), (u_16.2.1 2 0), p9, o0, p4, p5, o1, o2, f3, f4, f5, f6, f7, f8, [], hp11, hp0, w16_0, w16_1, w16_2, hp9, hp4, hp5, (rg_wide rf3 (by decide) (by decide)), (hpre1), (by (first | (clear hpre2 hpre3 y16_1; omega) | omega)), (y16_1), (by (first | (clear hpre2 hpre3 y16_1; omega) | omega)), ((Int.le_refl _)), (by (first | (clear hpre2 hpre3 y16_1; omega) | omega)), (ls_0), rfl, (q_reT h_16 [9, 10, 0, 11, 1, 2, 3, 4, 5, 6, 7, 8] rfl rfl), (lv_sub hl [0] rfl)⟩)
    by_cases c_17 : p1 = 11
    · have ec_17 : (p1).toInt = 11 := by rw [c_17]; decide
      refine lv_tableIn (off := 169) (tgt := 173) hx hb dX5_readLine_4 (by rw [c_17]; decide +kernel) (by rw [c_17]; decide +kernel) (by rw [c_17]; decide +kernel) (by decide) ?_
      refine lv_aload_n hx hb dX5_readLine_173 rfl (lv_at hl 0 rfl) ?_
      refine lv_iconst (v := 2) hx hb dX5_readLine_174 (by decide) ?_
      refine q_callVvT (rest := []) (wr := (wk_31def65b3 cy h2 f0 h4 f2 h5 p8 p9 p10 p11 o0 o1 o2 h6 h7 h8 h9 h10 h6 f3 h7 f4 h8 f5 h9 f6 h10 f7 h11 f8)) X hK hT hA h (fun sz => gX5_refuse_067fcff l D cy h0 h1 h3 p0 p1 p2 p3 (.ref h5) (.ref h11) p4 p5 w0 p6 p7 (.ref h2) (.ref h4) f1 hp0 (i_rng _) (i_rng _) (i_rng _) hp4 (i_rng _) hp6 hp7 (hpre1) (hpre3) (by have q0 : (2 : Int32).toInt = 2 := (by decide); (first | (clear hpre2 hpre3; omega) | omega)) sz) wm_3_76 wm_3_79 wm_1_2 hd_X5_refuse wm_3_78 wp_1_10 (ci := 5) (q0 := 0) rfl rfl ⟨Nat.le_of_ble_eq_true rfl, Nat.le_of_ble_eq_true rfl⟩ hl.1 rfl (Nat.le_of_ble_eq_true rfl) dX5_readLine_175 ⟨Nat.le_of_ble_eq_true rfl, Nat.le_of_ble_eq_true rfl⟩ [0, 1, 3] [2, 4, 5, 6, 7, 8, 9, 10, 11] rfl rfl (by decide) rfl rfl (fun u_18 H locs w_18 h_18 => ?_)
      clear h
      obtain ⟨w18_0, w18_1, w18_2, y18_0, y18_1, _⟩ := w_18
      have lq_18_1 : (2 : Int32).toInt = 2 := (by decide)
      replace h_18 : qW D _ _ ((wk_0202ea6aa cy h2 f0 h4 f2 h5 p8 p9 p10 p11 o0 o1 o2 h6 h7 h8 h9 h10 h6 f3 h7 f4 h8 f5 h9 f6 h10 f7 h11 f8 h0 h1 p0 (u_18.2.1 0 0) (u_18.2.1 1 0) (u_18.2.1 2 0) h5 h11 p4 p5 h1 w0 p6 p7 h2 h3 h4 h3 f1) ++ []) _ _ := h_18
      exact W.widen (k := 2) (n := 901) (Nat.le_of_ble_eq_true rfl) (Nat.le_of_ble_eq_true rfl) (J_178 _ _ _ _ ⟨p11, p0, (u_18.2.1 0 0), (u_18.2.1 1 0), (u_18.2.1 2 0), p9, o0, p4, p5, o1, o2, f3, f4, f5, f6, f7, f8, [], hp11, hp0, w18_0, w18_1, w18_2, hp9, hp4, hp5, (rg_wide rf3 (by decide) (by decide)), (hpre1), (by (first | (clear hpre2 hpre3 y18_1; omega) | omega)), (y18_1), (by (first | (clear hpre2 hpre3 y18_1; omega) | omega)), ((Int.le_refl _)), (by (first | (clear hpre2 hpre3 y18_1; omega) | omega)), (ls_0), rfl, (q_reT h_18 [9, 10, 0, 11, 1, 2, 3, 4, 5, 6, 7, 8] rfl rfl), (lv_sub hl [0] rfl)⟩)
    by_cases c_19 : p1 = 12
    · have ec_19 : (p1).toInt = 12 := by rw [c_19]; decide
      refine lv_tableIn (off := 169) (tgt := 173) hx hb dX5_readLine_4 (by rw [c_19]; decide +kernel) (by rw [c_19]; decide +kernel) (by rw [c_19]; decide +kernel) (by decide) ?_
      refine lv_aload_n hx hb dX5_readLine_173 rfl (lv_at hl 0 rfl) ?_
      refine lv_iconst (v := 2) hx hb dX5_readLine_174 (by decide) ?_
      refine q_callVvT (rest := []) (wr := (wk_31def65b3 cy h2 f0 h4 f2 h5 p8 p9 p10 p11 o0 o1 o2 h6 h7 h8 h9 h10 h6 f3 h7 f4 h8 f5 h9 f6 h10 f7 h11 f8)) X hK hT hA h (fun sz => gX5_refuse_067fcff l D cy h0 h1 h3 p0 p1 p2 p3 (.ref h5) (.ref h11) p4 p5 w0 p6 p7 (.ref h2) (.ref h4) f1 hp0 (i_rng _) (i_rng _) (i_rng _) hp4 (i_rng _) hp6 hp7 (hpre1) (hpre3) (by have q0 : (2 : Int32).toInt = 2 := (by decide); (first | (clear hpre2 hpre3; omega) | omega)) sz) wm_3_76 wm_3_79 wm_1_2 hd_X5_refuse wm_3_78 wp_1_10 (ci := 5) (q0 := 0) rfl rfl ⟨Nat.le_of_ble_eq_true rfl, Nat.le_of_ble_eq_true rfl⟩ hl.1 rfl (Nat.le_of_ble_eq_true rfl) dX5_readLine_175 ⟨Nat.le_of_ble_eq_true rfl, Nat.le_of_ble_eq_true rfl⟩ [0, 1, 3] [2, 4, 5, 6, 7, 8, 9, 10, 11] rfl rfl (by decide) rfl rfl (fun u_20 H locs w_20 h_20 => ?_)
      clear h
      obtain ⟨w20_0, w20_1, w20_2, y20_0, y20_1, _⟩ := w_20
      have lq_20_1 : (2 : Int32).toInt = 2 := (by decide)
      replace h_20 : qW D _ _ ((wk_0202ea6aa cy h2 f0 h4 f2 h5 p8 p9 p10 p11 o0 o1 o2 h6 h7 h8 h9 h10 h6 f3 h7 f4 h8 f5 h9 f6 h10 f7 h11 f8 h0 h1 p0 (u_20.2.1 0 0) (u_20.2.1 1 0) (u_20.2.1 2 0) h5 h11 p4 p5 h1 w0 p6 p7 h2 h3 h4 h3 f1) ++ []) _ _ := h_20
      exact W.widen (k := 2) (n := 901) (Nat.le_of_ble_eq_true rfl) (Nat.le_of_ble_eq_true rfl) (J_178 _ _ _ _ ⟨p11, p0, (u_20.2.1 0 0), (u_20.2.1 1 0), (u_20.2.1 2 0), p9, o0, p4, p5, o1, o2, f3, f4, f5, f6, f7, f8, [], hp11, hp0, w20_0, w20_1, w20_2, hp9, hp4, hp5, (rg_wide rf3 (by decide) (by decide)), (hpre1), (by (first | (clear hpre2 hpre3 y20_1; omega) | omega)), (y20_1), (by (first | (clear hpre2 hpre3 y20_1; omega) | omega)), ((Int.le_refl _)), (by (first | (clear hpre2 hpre3 y20_1; omega) | omega)), (ls_0), rfl, (q_reT h_20 [9, 10, 0, 11, 1, 2, 3, 4, 5, 6, 7, 8] rfl rfl), (lv_sub hl [0] rfl)⟩)
    by_cases c_21 : p1 = 13
    · have ec_21 : (p1).toInt = 13 := by rw [c_21]; decide
      refine lv_tableIn (off := 68) (tgt := 72) hx hb dX5_readLine_4 (by rw [c_21]; decide +kernel) (by rw [c_21]; decide +kernel) (by rw [c_21]; decide +kernel) (by decide) ?_
      refine lv_aload_n hx hb dX5_readLine_72 rfl (lv_at hl 0 rfl) ?_
      refine q_callVvT (rest := []) (wr := [(h11, .inl (cy 1, 900, .inl f8))]) X hK hT hA h (fun sz => gX5_readPerson_fb208ee l D cy h0 h1 h2 h3 h4 h5 h6 h7 h8 h9 h10 p0 p1 p2 p3 (.ref h11) p4 p5 w0 p6 p7 f0 f1 f2 p8 p9 p10 p11 (va_rf o0) (va_rf o1) (va_rf o2) f3 f4 f5 f6 f7 hp0 (i_rng _) (i_rng _) (i_rng _) hp4 (i_rng _) hp6 hp7 hp8 hp9 (i_rng _) (i_rng _) (rg_wide rf3 (by decide) (by decide)) (hpre0) (hpre1) (hpre2) (hpre3) (hpre4) sz) wm_3_88 wm_3_91 wm_1_2 hd_X5_readPerson wm_3_90 wp_1_13 (ci := 5) (q0 := 0) rfl rfl ⟨Nat.le_of_ble_eq_true rfl, Nat.le_of_ble_eq_true rfl⟩ hl.1 rfl (Nat.le_of_ble_eq_true rfl) dX5_readLine_73 ⟨Nat.le_of_ble_eq_true rfl, Nat.le_of_ble_eq_true rfl⟩ [0, 1, 2, 3, 4, 5, 6, 7, 8, 9, 10] [11] rfl rfl (by decide) rfl rfl (fun u_22 H locs w_22 h_22 => ?_)
      clear h
      obtain ⟨w22_0, w22_1, w22_2, w22_3, w22_4, w22_5, y22_0, y22_1, y22_2, y22_3, y22_4, y22_5, _⟩ := w_22
      replace h_22 : qW D _ _ ([(h11, .inl (cy 1, 900, .inl f8)), (h0, .inr (5, [.ref h1, .int (u_22.2.1 6 0), .int (u_22.2.1 7 0), .int (u_22.2.1 8 0), .int (u_22.2.1 9 0), .ref h5, .ref h11, .int p4, .int p5])), (h1, .inr (8, [w0, .int p6, .int p7, .ref h2, .ref h3, .ref h4])), (h2, .inl (cy 1, 901, .inl f0)), (h3, .inl (cy 1, 901, .inl f1)), (h4, .inl (cy 1, 901, .inl f2)), (h5, .inr (3, [.int p8, .int (u_22.2.1 0 0), .int p10, .int p11, (va_rf o0), (va_rf o1), (va_rf o2), .ref h6, .ref h7, .ref h8, .ref h9, .ref h10])), (h6, .inl (cy 1, 10, .inl (u_22.2.1 1))), (h7, .inl (cy 1, 10, .inl (u_22.2.1 2))), (h8, .inl (cy 1, 10, .inl (u_22.2.1 3))), (h9, .inl (cy 1, 10, .inl (u_22.2.1 4))), (h10, .inl (cy 1, 10, .inl (u_22.2.1 5)))] ++ []) _ _ := h_22
      refine lv_goto (tgt := 178) hx hb dX5_readLine_76 (by decide) ?_
      exact W.widen (k := 2) (n := 901) (Nat.le_of_ble_eq_true rfl) (Nat.le_of_ble_eq_true rfl) (J_178 _ _ _ _ ⟨p11, (u_22.2.1 6 0), (u_22.2.1 7 0), (u_22.2.1 8 0), (u_22.2.1 9 0), (u_22.2.1 0 0), o0, p4, p5, o1, o2, (u_22.2.1 1), (u_22.2.1 2), (u_22.2.1 3), (u_22.2.1 4), (u_22.2.1 5), f8, [], hp11, w22_2, w22_3, w22_4, w22_5, (bw w22_0 (by decide) (by decide)), hp4, hp5, (rg_wide w22_1 (by decide) (by decide)), (y22_0), (y22_1), (y22_2), (y22_3), (y22_4), (y22_5), (ls_0), rfl, (q_reT h_22 [1, 2, 3, 4, 5, 6, 7, 8, 9, 10, 11, 0] rfl rfl), (lv_sub hl [0] rfl)⟩)
    by_cases c_23 : p1 = 14
    · have ec_23 : (p1).toInt = 14 := by rw [c_23]; decide
      refine lv_tableIn (off := 169) (tgt := 173) hx hb dX5_readLine_4 (by rw [c_23]; decide +kernel) (by rw [c_23]; decide +kernel) (by rw [c_23]; decide +kernel) (by decide) ?_
      refine lv_aload_n hx hb dX5_readLine_173 rfl (lv_at hl 0 rfl) ?_
      refine lv_iconst (v := 2) hx hb dX5_readLine_174 (by decide) ?_
      refine q_callVvT (rest := []) (wr := (wk_31def65b3 cy h2 f0 h4 f2 h5 p8 p9 p10 p11 o0 o1 o2 h6 h7 h8 h9 h10 h6 f3 h7 f4 h8 f5 h9 f6 h10 f7 h11 f8)) X hK hT hA h (fun sz => gX5_refuse_067fcff l D cy h0 h1 h3 p0 p1 p2 p3 (.ref h5) (.ref h11) p4 p5 w0 p6 p7 (.ref h2) (.ref h4) f1 hp0 (i_rng _) (i_rng _) (i_rng _) hp4 (i_rng _) hp6 hp7 (hpre1) (hpre3) (by have q0 : (2 : Int32).toInt = 2 := (by decide); (first | (clear hpre2 hpre3; omega) | omega)) sz) wm_3_76 wm_3_79 wm_1_2 hd_X5_refuse wm_3_78 wp_1_10 (ci := 5) (q0 := 0) rfl rfl ⟨Nat.le_of_ble_eq_true rfl, Nat.le_of_ble_eq_true rfl⟩ hl.1 rfl (Nat.le_of_ble_eq_true rfl) dX5_readLine_175 ⟨Nat.le_of_ble_eq_true rfl, Nat.le_of_ble_eq_true rfl⟩ [0, 1, 3] [2, 4, 5, 6, 7, 8, 9, 10, 11] rfl rfl (by decide) rfl rfl (fun u_24 H locs w_24 h_24 => ?_)
      clear h
      obtain ⟨w24_0, w24_1, w24_2, y24_0, y24_1, _⟩ := w_24
      have lq_24_1 : (2 : Int32).toInt = 2 := (by decide)
      replace h_24 : qW D _ _ ((wk_0202ea6aa cy h2 f0 h4 f2 h5 p8 p9 p10 p11 o0 o1 o2 h6 h7 h8 h9 h10 h6 f3 h7 f4 h8 f5 h9 f6 h10 f7 h11 f8 h0 h1 p0 (u_24.2.1 0 0) (u_24.2.1 1 0) (u_24.2.1 2 0) h5 h11 p4 p5 h1 w0 p6 p7 h2 h3 h4 h3 f1) ++ []) _ _ := h_24
      exact W.widen (k := 2) (n := 901) (Nat.le_of_ble_eq_true rfl) (Nat.le_of_ble_eq_true rfl) (J_178 _ _ _ _ ⟨p11, p0, (u_24.2.1 0 0), (u_24.2.1 1 0), (u_24.2.1 2 0), p9, o0, p4, p5, o1, o2, f3, f4, f5, f6, f7, f8, [], hp11, hp0, w24_0, w24_1, w24_2, hp9, hp4, hp5, (rg_wide rf3 (by decide) (by decide)), (hpre1), (by (first | (clear hpre2 hpre3 y24_1; omega) | omega)), (y24_1), (by (first | (clear hpre2 hpre3 y24_1; omega) | omega)), ((Int.le_refl _)), (by (first | (clear hpre2 hpre3 y24_1; omega) | omega)), (ls_0), rfl, (q_reT h_24 [9, 10, 0, 11, 1, 2, 3, 4, 5, 6, 7, 8] rfl rfl), (lv_sub hl [0] rfl)⟩)
    by_cases c_25 : p1 = 15
    · have ec_25 : (p1).toInt = 15 := by rw [c_25]; decide
      refine lv_tableIn (off := 169) (tgt := 173) hx hb dX5_readLine_4 (by rw [c_25]; decide +kernel) (by rw [c_25]; decide +kernel) (by rw [c_25]; decide +kernel) (by decide) ?_
      refine lv_aload_n hx hb dX5_readLine_173 rfl (lv_at hl 0 rfl) ?_
      refine lv_iconst (v := 2) hx hb dX5_readLine_174 (by decide) ?_
      refine q_callVvT (rest := []) (wr := (wk_31def65b3 cy h2 f0 h4 f2 h5 p8 p9 p10 p11 o0 o1 o2 h6 h7 h8 h9 h10 h6 f3 h7 f4 h8 f5 h9 f6 h10 f7 h11 f8)) X hK hT hA h (fun sz => gX5_refuse_067fcff l D cy h0 h1 h3 p0 p1 p2 p3 (.ref h5) (.ref h11) p4 p5 w0 p6 p7 (.ref h2) (.ref h4) f1 hp0 (i_rng _) (i_rng _) (i_rng _) hp4 (i_rng _) hp6 hp7 (hpre1) (hpre3) (by have q0 : (2 : Int32).toInt = 2 := (by decide); (first | (clear hpre2 hpre3; omega) | omega)) sz) wm_3_76 wm_3_79 wm_1_2 hd_X5_refuse wm_3_78 wp_1_10 (ci := 5) (q0 := 0) rfl rfl ⟨Nat.le_of_ble_eq_true rfl, Nat.le_of_ble_eq_true rfl⟩ hl.1 rfl (Nat.le_of_ble_eq_true rfl) dX5_readLine_175 ⟨Nat.le_of_ble_eq_true rfl, Nat.le_of_ble_eq_true rfl⟩ [0, 1, 3] [2, 4, 5, 6, 7, 8, 9, 10, 11] rfl rfl (by decide) rfl rfl (fun u_26 H locs w_26 h_26 => ?_)
      clear h
      obtain ⟨w26_0, w26_1, w26_2, y26_0, y26_1, _⟩ := w_26
      have lq_26_1 : (2 : Int32).toInt = 2 := (by decide)
      replace h_26 : qW D _ _ ((wk_0202ea6aa cy h2 f0 h4 f2 h5 p8 p9 p10 p11 o0 o1 o2 h6 h7 h8 h9 h10 h6 f3 h7 f4 h8 f5 h9 f6 h10 f7 h11 f8 h0 h1 p0 (u_26.2.1 0 0) (u_26.2.1 1 0) (u_26.2.1 2 0) h5 h11 p4 p5 h1 w0 p6 p7 h2 h3 h4 h3 f1) ++ []) _ _ := h_26
      exact W.widen (k := 2) (n := 901) (Nat.le_of_ble_eq_true rfl) (Nat.le_of_ble_eq_true rfl) (J_178 _ _ _ _ ⟨p11, p0, (u_26.2.1 0 0), (u_26.2.1 1 0), (u_26.2.1 2 0), p9, o0, p4, p5, o1, o2, f3, f4, f5, f6, f7, f8, [], hp11, hp0, w26_0, w26_1, w26_2, hp9, hp4, hp5, (rg_wide rf3 (by decide) (by decide)), (hpre1), (by (first | (clear hpre2 hpre3 y26_1; omega) | omega)), (y26_1), (by (first | (clear hpre2 hpre3 y26_1; omega) | omega)), ((Int.le_refl _)), (by (first | (clear hpre2 hpre3 y26_1; omega) | omega)), (ls_0), rfl, (q_reT h_26 [9, 10, 0, 11, 1, 2, 3, 4, 5, 6, 7, 8] rfl rfl), (lv_sub hl [0] rfl)⟩)
    by_cases c_27 : p1 = 16
    · have ec_27 : (p1).toInt = 16 := by rw [c_27]; decide
      refine lv_tableIn (off := 169) (tgt := 173) hx hb dX5_readLine_4 (by rw [c_27]; decide +kernel) (by rw [c_27]; decide +kernel) (by rw [c_27]; decide +kernel) (by decide) ?_
      refine lv_aload_n hx hb dX5_readLine_173 rfl (lv_at hl 0 rfl) ?_
      refine lv_iconst (v := 2) hx hb dX5_readLine_174 (by decide) ?_
      refine q_callVvT (rest := []) (wr := (wk_31def65b3 cy h2 f0 h4 f2 h5 p8 p9 p10 p11 o0 o1 o2 h6 h7 h8 h9 h10 h6 f3 h7 f4 h8 f5 h9 f6 h10 f7 h11 f8)) X hK hT hA h (fun sz => gX5_refuse_067fcff l D cy h0 h1 h3 p0 p1 p2 p3 (.ref h5) (.ref h11) p4 p5 w0 p6 p7 (.ref h2) (.ref h4) f1 hp0 (i_rng _) (i_rng _) (i_rng _) hp4 (i_rng _) hp6 hp7 (hpre1) (hpre3) (by have q0 : (2 : Int32).toInt = 2 := (by decide); (first | (clear hpre2 hpre3; omega) | omega)) sz) wm_3_76 wm_3_79 wm_1_2 hd_X5_refuse wm_3_78 wp_1_10 (ci := 5) (q0 := 0) rfl rfl ⟨Nat.le_of_ble_eq_true rfl, Nat.le_of_ble_eq_true rfl⟩ hl.1 rfl (Nat.le_of_ble_eq_true rfl) dX5_readLine_175 ⟨Nat.le_of_ble_eq_true rfl, Nat.le_of_ble_eq_true rfl⟩ [0, 1, 3] [2, 4, 5, 6, 7, 8, 9, 10, 11] rfl rfl (by decide) rfl rfl (fun u_28 H locs w_28 h_28 => ?_)
      clear h
      obtain ⟨w28_0, w28_1, w28_2, y28_0, y28_1, _⟩ := w_28
      have lq_28_1 : (2 : Int32).toInt = 2 := (by decide)
      replace h_28 : qW D _ _ ((wk_0202ea6aa cy h2 f0 h4 f2 h5 p8 p9 p10 p11 o0 o1 o2 h6 h7 h8 h9 h10 h6 f3 h7 f4 h8 f5 h9 f6 h10 f7 h11 f8 h0 h1 p0 (u_28.2.1 0 0) (u_28.2.1 1 0) (u_28.2.1 2 0) h5 h11 p4 p5 h1 w0 p6 p7 h2 h3 h4 h3 f1) ++ []) _ _ := h_28
      exact W.widen (k := 2) (n := 901) (Nat.le_of_ble_eq_true rfl) (Nat.le_of_ble_eq_true rfl) (J_178 _ _ _ _ ⟨p11, p0, (u_28.2.1 0 0), (u_28.2.1 1 0), (u_28.2.1 2 0), p9, o0, p4, p5, o1, o2, f3, f4, f5, f6, f7, f8, [], hp11, hp0, w28_0, w28_1, w28_2, hp9, hp4, hp5, (rg_wide rf3 (by decide) (by decide)), (hpre1), (by (first | (clear hpre2 hpre3 y28_1; omega) | omega)), (y28_1), (by (first | (clear hpre2 hpre3 y28_1; omega) | omega)), ((Int.le_refl _)), (by (first | (clear hpre2 hpre3 y28_1; omega) | omega)), (ls_0), rfl, (q_reT h_28 [9, 10, 0, 11, 1, 2, 3, 4, 5, 6, 7, 8] rfl rfl), (lv_sub hl [0] rfl)⟩)
    by_cases c_29 : p1 = 17
    · have ec_29 : (p1).toInt = 17 := by rw [c_29]; decide
      refine lv_tableIn (off := 169) (tgt := 173) hx hb dX5_readLine_4 (by rw [c_29]; decide +kernel) (by rw [c_29]; decide +kernel) (by rw [c_29]; decide +kernel) (by decide) ?_
      refine lv_aload_n hx hb dX5_readLine_173 rfl (lv_at hl 0 rfl) ?_
      refine lv_iconst (v := 2) hx hb dX5_readLine_174 (by decide) ?_
      refine q_callVvT (rest := []) (wr := (wk_31def65b3 cy h2 f0 h4 f2 h5 p8 p9 p10 p11 o0 o1 o2 h6 h7 h8 h9 h10 h6 f3 h7 f4 h8 f5 h9 f6 h10 f7 h11 f8)) X hK hT hA h (fun sz => gX5_refuse_067fcff l D cy h0 h1 h3 p0 p1 p2 p3 (.ref h5) (.ref h11) p4 p5 w0 p6 p7 (.ref h2) (.ref h4) f1 hp0 (i_rng _) (i_rng _) (i_rng _) hp4 (i_rng _) hp6 hp7 (hpre1) (hpre3) (by have q0 : (2 : Int32).toInt = 2 := (by decide); (first | (clear hpre2 hpre3; omega) | omega)) sz) wm_3_76 wm_3_79 wm_1_2 hd_X5_refuse wm_3_78 wp_1_10 (ci := 5) (q0 := 0) rfl rfl ⟨Nat.le_of_ble_eq_true rfl, Nat.le_of_ble_eq_true rfl⟩ hl.1 rfl (Nat.le_of_ble_eq_true rfl) dX5_readLine_175 ⟨Nat.le_of_ble_eq_true rfl, Nat.le_of_ble_eq_true rfl⟩ [0, 1, 3] [2, 4, 5, 6, 7, 8, 9, 10, 11] rfl rfl (by decide) rfl rfl (fun u_30 H locs w_30 h_30 => ?_)
      clear h
      obtain ⟨w30_0, w30_1, w30_2, y30_0, y30_1, _⟩ := w_30
      have lq_30_1 : (2 : Int32).toInt = 2 := (by decide)
      replace h_30 : qW D _ _ ((wk_0202ea6aa cy h2 f0 h4 f2 h5 p8 p9 p10 p11 o0 o1 o2 h6 h7 h8 h9 h10 h6 f3 h7 f4 h8 f5 h9 f6 h10 f7 h11 f8 h0 h1 p0 (u_30.2.1 0 0) (u_30.2.1 1 0) (u_30.2.1 2 0) h5 h11 p4 p5 h1 w0 p6 p7 h2 h3 h4 h3 f1) ++ []) _ _ := h_30
      exact W.widen (k := 2) (n := 901) (Nat.le_of_ble_eq_true rfl) (Nat.le_of_ble_eq_true rfl) (J_178 _ _ _ _ ⟨p11, p0, (u_30.2.1 0 0), (u_30.2.1 1 0), (u_30.2.1 2 0), p9, o0, p4, p5, o1, o2, f3, f4, f5, f6, f7, f8, [], hp11, hp0, w30_0, w30_1, w30_2, hp9, hp4, hp5, (rg_wide rf3 (by decide) (by decide)), (hpre1), (by (first | (clear hpre2 hpre3 y30_1; omega) | omega)), (y30_1), (by (first | (clear hpre2 hpre3 y30_1; omega) | omega)), ((Int.le_refl _)), (by (first | (clear hpre2 hpre3 y30_1; omega) | omega)), (ls_0), rfl, (q_reT h_30 [9, 10, 0, 11, 1, 2, 3, 4, 5, 6, 7, 8] rfl rfl), (lv_sub hl [0] rfl)⟩)
    by_cases c_31 : p1 = 18
    · have ec_31 : (p1).toInt = 18 := by rw [c_31]; decide
      refine lv_tableIn (off := 75) (tgt := 79) hx hb dX5_readLine_4 (by rw [c_31]; decide +kernel) (by rw [c_31]; decide +kernel) (by rw [c_31]; decide +kernel) (by decide) ?_
      refine lv_aload_n hx hb dX5_readLine_79 rfl (lv_at hl 0 rfl) ?_
      refine q_get X hK h 0 rfl rfl wf_5 5 (by decide) rfl wm_1_151 dX5_readLine_80 ?_
      refine lv_aload_n hx hb dX5_readLine_83 rfl (lv_at hl 0 rfl) ?_
      refine lv_sipush (v := 511) hx hb dX5_readLine_84 (by decide) ?_
      refine lv_aload_n hx hb dX5_readLine_87 rfl (lv_at hl 0 rfl) ?_
      refine q_get X hK h 0 rfl rfl wf_5 5 (by decide) rfl wm_1_151 dX5_readLine_88 ?_
      refine q_get X hK h 5 rfl rfl wf_3 4 (by decide) rfl wm_1_95 dX5_readLine_91 ?_
      refine q_callVqW (rest := [.ref h5]) (wr := (wk_27a2fc362 cy h5 p8 p9 p10 p11 o0 o1 o2 h6 h7 h8 h9 h10 h6 f3 h7 f4 h8 f5 h9 f6 h10 f7)) X hK hT hA h (fun sz => gX5_readLaw_3277650 l D cy h0 h1 h2 h3 h4 h11 (511 : Int32) o0 p0 p1 p2 p3 (.ref h5) p4 p5 w0 p6 p7 f0 f1 f2 f8 (i_rng _) hp0 (i_rng _) (i_rng _) (i_rng _) hp4 (i_rng _) hp6 hp7 (hpre0) (hpre1) (hpre2) (hpre3) (hpre4) sz) wm_3_97 wm_3_100 wm_1_2 hd_X5_readLaw wm_3_99 wp_1_15 (ci := 5) (q0 := 0) rfl rfl ⟨Nat.le_of_ble_eq_true rfl, Nat.le_of_ble_eq_true rfl⟩ hl.1 rfl (Nat.le_of_ble_eq_true rfl) dX5_readLine_94 ⟨Nat.le_of_ble_eq_true rfl, Nat.le_of_ble_eq_true rfl⟩ [0, 1, 2, 3, 4, 11] [5, 6, 7, 8, 9, 10] rfl rfl (by decide) rfl rfl (fun r_32 u_32 H locs w_32 h_32 => ?_)
      clear h
      obtain ⟨w32_0, w32_1, w32_2, w32_3, w32_4, w32_5, y32_0, y32_1, y32_2, y32_3, y32_4, y32_5, y32_6, _⟩ := w_32
      replace h_32 : qW D _ _ ((wk_fb187a8e3 cy h5 p8 p9 p10 p11 o0 o1 o2 h6 h7 h8 h9 h10 h6 f3 h7 f4 h8 f5 h9 f6 h10 f7 h0 h1 (u_32.1.2.1 0 0) (u_32.1.2.1 1 0) (u_32.1.2.1 2 0) (u_32.1.2.1 3 0) h5 h11 (u_32.1.2.1 4 0) (u_32.1.2.1 5 0) h1 w0 p6 p7 h2 h3 h4 h2 f0 h3 f1 h4 f2 h11 (u_32.1.2.1 6)) ++ (u_32.2.1 ++ [])) _ _ := h_32
      refine q_putq (r := r_32) X hK h_32 0 rfl rfl wf_3 tyX3 tyX3_ok nmX3 4 (by decide) wm_1_95 rfl rfl (fun _ => rfl) rfl (fun _ => rfl) (Nat.le_of_ble_eq_true rfl) dX5_readLine_97 (fun H locs h_33 => ?_)
      clear h_32
      replace h_33 : qW D _ _ ((wk_fb187a8e3 cy h5 p8 p9 p10 p11 r_32 o1 o2 h6 h7 h8 h9 h10 h6 f3 h7 f4 h8 f5 h9 f6 h10 f7 h0 h1 (u_32.1.2.1 0 0) (u_32.1.2.1 1 0) (u_32.1.2.1 2 0) (u_32.1.2.1 3 0) h5 h11 (u_32.1.2.1 4 0) (u_32.1.2.1 5 0) h1 w0 p6 p7 h2 h3 h4 h2 f0 h3 f1 h4 f2 h11 (u_32.1.2.1 6)) ++ (u_32.2.1 ++ [])) _ _ := h_33
      refine lv_goto (tgt := 178) hx hb dX5_readLine_100 (by decide) ?_
      exact J_178 _ _ _ _ ⟨p11, (u_32.1.2.1 0 0), (u_32.1.2.1 1 0), (u_32.1.2.1 2 0), (u_32.1.2.1 3 0), p9, r_32, (u_32.1.2.1 4 0), (u_32.1.2.1 5 0), o1, o2, f3, f4, f5, f6, f7, (u_32.1.2.1 6), (u_32.2.1 ++ []), hp11, (bw w32_0 (by decide) (by decide)), w32_1, w32_2, w32_3, hp9, w32_4, w32_5, (rg_wide rf3 (by decide) (by decide)), (y32_0), (y32_1), (y32_2), (y32_3), (y32_4), (y32_5), ((ls_4 (by rw [List.append_nil]; exact y32_6))), rfl, (q_reT h_33 [6, 7, 8, 9, 10, 0, 1, 2, 3, 4, 5, 11] rfl rfl), (lv_sub hl [0] rfl)⟩
    by_cases c_34 : p1 = 19
    · have ec_34 : (p1).toInt = 19 := by rw [c_34]; decide
      refine lv_tableIn (off := 99) (tgt := 103) hx hb dX5_readLine_4 (by rw [c_34]; decide +kernel) (by rw [c_34]; decide +kernel) (by rw [c_34]; decide +kernel) (by decide) ?_
      refine lv_aload_n hx hb dX5_readLine_103 rfl (lv_at hl 0 rfl) ?_
      refine q_get X hK h 0 rfl rfl wf_5 5 (by decide) rfl wm_1_151 dX5_readLine_104 ?_
      refine lv_aload_n hx hb dX5_readLine_107 rfl (lv_at hl 0 rfl) ?_
      refine lv_sipush (v := 783) hx hb dX5_readLine_108 (by decide) ?_
      refine lv_aload_n hx hb dX5_readLine_111 rfl (lv_at hl 0 rfl) ?_
      refine q_get X hK h 0 rfl rfl wf_5 5 (by decide) rfl wm_1_151 dX5_readLine_112 ?_
      refine q_get X hK h 5 rfl rfl wf_3 5 (by decide) rfl wm_1_98 dX5_readLine_115 ?_
      refine q_callVqW (rest := [.ref h5]) (wr := (wk_27a2fc362 cy h5 p8 p9 p10 p11 o0 o1 o2 h6 h7 h8 h9 h10 h6 f3 h7 f4 h8 f5 h9 f6 h10 f7)) X hK hT hA h (fun sz => gX5_readLaw_3277650 l D cy h0 h1 h2 h3 h4 h11 (783 : Int32) o1 p0 p1 p2 p3 (.ref h5) p4 p5 w0 p6 p7 f0 f1 f2 f8 (i_rng _) hp0 (i_rng _) (i_rng _) (i_rng _) hp4 (i_rng _) hp6 hp7 (hpre0) (hpre1) (hpre2) (hpre3) (hpre4) sz) wm_3_97 wm_3_100 wm_1_2 hd_X5_readLaw wm_3_99 wp_1_15 (ci := 5) (q0 := 0) rfl rfl ⟨Nat.le_of_ble_eq_true rfl, Nat.le_of_ble_eq_true rfl⟩ hl.1 rfl (Nat.le_of_ble_eq_true rfl) dX5_readLine_118 ⟨Nat.le_of_ble_eq_true rfl, Nat.le_of_ble_eq_true rfl⟩ [0, 1, 2, 3, 4, 11] [5, 6, 7, 8, 9, 10] rfl rfl (by decide) rfl rfl (fun r_35 u_35 H locs w_35 h_35 => ?_)
      clear h
      obtain ⟨w35_0, w35_1, w35_2, w35_3, w35_4, w35_5, y35_0, y35_1, y35_2, y35_3, y35_4, y35_5, y35_6, _⟩ := w_35
      replace h_35 : qW D _ _ ((wk_fb187a8e3 cy h5 p8 p9 p10 p11 o0 o1 o2 h6 h7 h8 h9 h10 h6 f3 h7 f4 h8 f5 h9 f6 h10 f7 h0 h1 (u_35.1.2.1 0 0) (u_35.1.2.1 1 0) (u_35.1.2.1 2 0) (u_35.1.2.1 3 0) h5 h11 (u_35.1.2.1 4 0) (u_35.1.2.1 5 0) h1 w0 p6 p7 h2 h3 h4 h2 f0 h3 f1 h4 f2 h11 (u_35.1.2.1 6)) ++ (u_35.2.1 ++ [])) _ _ := h_35
      refine q_putq (r := r_35) X hK h_35 0 rfl rfl wf_3 tyX3 tyX3_ok nmX3 5 (by decide) wm_1_98 rfl rfl (fun _ => rfl) rfl (fun _ => rfl) (Nat.le_of_ble_eq_true rfl) dX5_readLine_121 (fun H locs h_36 => ?_)
      clear h_35
      replace h_36 : qW D _ _ ((wk_fb187a8e3 cy h5 p8 p9 p10 p11 o0 r_35 o2 h6 h7 h8 h9 h10 h6 f3 h7 f4 h8 f5 h9 f6 h10 f7 h0 h1 (u_35.1.2.1 0 0) (u_35.1.2.1 1 0) (u_35.1.2.1 2 0) (u_35.1.2.1 3 0) h5 h11 (u_35.1.2.1 4 0) (u_35.1.2.1 5 0) h1 w0 p6 p7 h2 h3 h4 h2 f0 h3 f1 h4 f2 h11 (u_35.1.2.1 6)) ++ (u_35.2.1 ++ [])) _ _ := h_36
      refine lv_goto (tgt := 178) hx hb dX5_readLine_124 (by decide) ?_
      exact J_178 _ _ _ _ ⟨p11, (u_35.1.2.1 0 0), (u_35.1.2.1 1 0), (u_35.1.2.1 2 0), (u_35.1.2.1 3 0), p9, o0, (u_35.1.2.1 4 0), (u_35.1.2.1 5 0), r_35, o2, f3, f4, f5, f6, f7, (u_35.1.2.1 6), (u_35.2.1 ++ []), hp11, (bw w35_0 (by decide) (by decide)), w35_1, w35_2, w35_3, hp9, w35_4, w35_5, (rg_wide rf3 (by decide) (by decide)), (y35_0), (y35_1), (y35_2), (y35_3), (y35_4), (y35_5), ((ls_5 (by rw [List.append_nil]; exact y35_6))), rfl, (q_reT h_36 [6, 7, 8, 9, 10, 0, 1, 2, 3, 4, 5, 11] rfl rfl), (lv_sub hl [0] rfl)⟩
    by_cases c_37 : p1 = 20
    · have ec_37 : (p1).toInt = 20 := by rw [c_37]; decide
      refine lv_tableIn (off := 123) (tgt := 127) hx hb dX5_readLine_4 (by rw [c_37]; decide +kernel) (by rw [c_37]; decide +kernel) (by rw [c_37]; decide +kernel) (by decide) ?_
      refine lv_aload_n hx hb dX5_readLine_127 rfl (lv_at hl 0 rfl) ?_
      refine q_get X hK h 0 rfl rfl wf_5 5 (by decide) rfl wm_1_151 dX5_readLine_128 ?_
      refine lv_aload_n hx hb dX5_readLine_131 rfl (lv_at hl 0 rfl) ?_
      refine lv_sipush (v := 1535) hx hb dX5_readLine_132 (by decide) ?_
      refine lv_aload_n hx hb dX5_readLine_135 rfl (lv_at hl 0 rfl) ?_
      refine q_get X hK h 0 rfl rfl wf_5 5 (by decide) rfl wm_1_151 dX5_readLine_136 ?_
      refine q_get X hK h 5 rfl rfl wf_3 6 (by decide) rfl wm_1_101 dX5_readLine_139 ?_
      refine q_callVqW (rest := [.ref h5]) (wr := (wk_27a2fc362 cy h5 p8 p9 p10 p11 o0 o1 o2 h6 h7 h8 h9 h10 h6 f3 h7 f4 h8 f5 h9 f6 h10 f7)) X hK hT hA h (fun sz => gX5_readLaw_3277650 l D cy h0 h1 h2 h3 h4 h11 (1535 : Int32) o2 p0 p1 p2 p3 (.ref h5) p4 p5 w0 p6 p7 f0 f1 f2 f8 (i_rng _) hp0 (i_rng _) (i_rng _) (i_rng _) hp4 (i_rng _) hp6 hp7 (hpre0) (hpre1) (hpre2) (hpre3) (hpre4) sz) wm_3_97 wm_3_100 wm_1_2 hd_X5_readLaw wm_3_99 wp_1_15 (ci := 5) (q0 := 0) rfl rfl ⟨Nat.le_of_ble_eq_true rfl, Nat.le_of_ble_eq_true rfl⟩ hl.1 rfl (Nat.le_of_ble_eq_true rfl) dX5_readLine_142 ⟨Nat.le_of_ble_eq_true rfl, Nat.le_of_ble_eq_true rfl⟩ [0, 1, 2, 3, 4, 11] [5, 6, 7, 8, 9, 10] rfl rfl (by decide) rfl rfl (fun r_38 u_38 H locs w_38 h_38 => ?_)
      clear h
      obtain ⟨w38_0, w38_1, w38_2, w38_3, w38_4, w38_5, y38_0, y38_1, y38_2, y38_3, y38_4, y38_5, y38_6, _⟩ := w_38
      replace h_38 : qW D _ _ ((wk_fb187a8e3 cy h5 p8 p9 p10 p11 o0 o1 o2 h6 h7 h8 h9 h10 h6 f3 h7 f4 h8 f5 h9 f6 h10 f7 h0 h1 (u_38.1.2.1 0 0) (u_38.1.2.1 1 0) (u_38.1.2.1 2 0) (u_38.1.2.1 3 0) h5 h11 (u_38.1.2.1 4 0) (u_38.1.2.1 5 0) h1 w0 p6 p7 h2 h3 h4 h2 f0 h3 f1 h4 f2 h11 (u_38.1.2.1 6)) ++ (u_38.2.1 ++ [])) _ _ := h_38
      refine q_putq (r := r_38) X hK h_38 0 rfl rfl wf_3 tyX3 tyX3_ok nmX3 6 (by decide) wm_1_101 rfl rfl (fun _ => rfl) rfl (fun _ => rfl) (Nat.le_of_ble_eq_true rfl) dX5_readLine_145 (fun H locs h_39 => ?_)
      clear h_38
      replace h_39 : qW D _ _ ((wk_fb187a8e3 cy h5 p8 p9 p10 p11 o0 o1 r_38 h6 h7 h8 h9 h10 h6 f3 h7 f4 h8 f5 h9 f6 h10 f7 h0 h1 (u_38.1.2.1 0 0) (u_38.1.2.1 1 0) (u_38.1.2.1 2 0) (u_38.1.2.1 3 0) h5 h11 (u_38.1.2.1 4 0) (u_38.1.2.1 5 0) h1 w0 p6 p7 h2 h3 h4 h2 f0 h3 f1 h4 f2 h11 (u_38.1.2.1 6)) ++ (u_38.2.1 ++ [])) _ _ := h_39
      refine lv_goto (tgt := 178) hx hb dX5_readLine_148 (by decide) ?_
      exact J_178 _ _ _ _ ⟨p11, (u_38.1.2.1 0 0), (u_38.1.2.1 1 0), (u_38.1.2.1 2 0), (u_38.1.2.1 3 0), p9, o0, (u_38.1.2.1 4 0), (u_38.1.2.1 5 0), o1, r_38, f3, f4, f5, f6, f7, (u_38.1.2.1 6), (u_38.2.1 ++ []), hp11, (bw w38_0 (by decide) (by decide)), w38_1, w38_2, w38_3, hp9, w38_4, w38_5, (rg_wide rf3 (by decide) (by decide)), (y38_0), (y38_1), (y38_2), (y38_3), (y38_4), (y38_5), ((ls_6 (by rw [List.append_nil]; exact y38_6))), rfl, (q_reT h_39 [6, 7, 8, 9, 10, 0, 1, 2, 3, 4, 5, 11] rfl rfl), (lv_sub hl [0] rfl)⟩
    have nc_9 := lv_neT c_9 (show (8 : Int32).toInt = 8 by decide)
    have nc_13 := lv_neT c_13 (show (9 : Int32).toInt = 9 by decide)
    have nc_15 := lv_neT c_15 (show (10 : Int32).toInt = 10 by decide)
    have nc_17 := lv_neT c_17 (show (11 : Int32).toInt = 11 by decide)
    have nc_19 := lv_neT c_19 (show (12 : Int32).toInt = 12 by decide)
    have nc_21 := lv_neT c_21 (show (13 : Int32).toInt = 13 by decide)
    have nc_23 := lv_neT c_23 (show (14 : Int32).toInt = 14 by decide)
    have nc_25 := lv_neT c_25 (show (15 : Int32).toInt = 15 by decide)
    have nc_27 := lv_neT c_27 (show (16 : Int32).toInt = 16 by decide)
    have nc_29 := lv_neT c_29 (show (17 : Int32).toInt = 17 by decide)
    have nc_31 := lv_neT c_31 (show (18 : Int32).toInt = 18 by decide)
    have nc_34 := lv_neT c_34 (show (19 : Int32).toInt = 19 by decide)
    have nc_37 := lv_neT c_37 (show (20 : Int32).toInt = 20 by decide)
    refine lv_tableOut (tgt := 173) hx hb dX5_readLine_4 (by omega) (by decide) ?_
    refine lv_aload_n hx hb dX5_readLine_173 rfl (lv_at hl 0 rfl) ?_
    refine lv_iconst (v := 2) hx hb dX5_readLine_174 (by decide) ?_
    refine q_callVvT (rest := []) (wr := (wk_31def65b3 cy h2 f0 h4 f2 h5 p8 p9 p10 p11 o0 o1 o2 h6 h7 h8 h9 h10 h6 f3 h7 f4 h8 f5 h9 f6 h10 f7 h11 f8)) X hK hT hA h (fun sz => gX5_refuse_067fcff l D cy h0 h1 h3 p0 p1 p2 p3 (.ref h5) (.ref h11) p4 p5 w0 p6 p7 (.ref h2) (.ref h4) f1 hp0 (i_rng _) (i_rng _) (i_rng _) hp4 (i_rng _) hp6 hp7 (hpre1) (hpre3) (by have q0 : (2 : Int32).toInt = 2 := (by decide); (first | (clear hpre2 hpre3; omega) | omega)) sz) wm_3_76 wm_3_79 wm_1_2 hd_X5_refuse wm_3_78 wp_1_10 (ci := 5) (q0 := 0) rfl rfl ⟨Nat.le_of_ble_eq_true rfl, Nat.le_of_ble_eq_true rfl⟩ hl.1 rfl (Nat.le_of_ble_eq_true rfl) dX5_readLine_175 ⟨Nat.le_of_ble_eq_true rfl, Nat.le_of_ble_eq_true rfl⟩ [0, 1, 3] [2, 4, 5, 6, 7, 8, 9, 10, 11] rfl rfl (by decide) rfl rfl (fun u_40 H locs w_40 h_40 => ?_)
    clear h
    obtain ⟨w40_0, w40_1, w40_2, y40_0, y40_1, _⟩ := w_40
    have lq_40_1 : (2 : Int32).toInt = 2 := (by decide)
    replace h_40 : qW D _ _ ((wk_0202ea6aa cy h2 f0 h4 f2 h5 p8 p9 p10 p11 o0 o1 o2 h6 h7 h8 h9 h10 h6 f3 h7 f4 h8 f5 h9 f6 h10 f7 h11 f8 h0 h1 p0 (u_40.2.1 0 0) (u_40.2.1 1 0) (u_40.2.1 2 0) h5 h11 p4 p5 h1 w0 p6 p7 h2 h3 h4 h3 f1) ++ []) _ _ := h_40
    exact W.widen (k := 2) (n := 901) (Nat.le_of_ble_eq_true rfl) (Nat.le_of_ble_eq_true rfl) (J_178 _ _ _ _ ⟨p11, p0, (u_40.2.1 0 0), (u_40.2.1 1 0), (u_40.2.1 2 0), p9, o0, p4, p5, o1, o2, f3, f4, f5, f6, f7, f8, [], hp11, hp0, w40_0, w40_1, w40_2, hp9, hp4, hp5, (rg_wide rf3 (by decide) (by decide)), (hpre1), (by (first | (clear hpre2 hpre3 y40_1; omega) | omega)), (y40_1), (by (first | (clear hpre2 hpre3 y40_1; omega) | omega)), ((Int.le_refl _)), (by (first | (clear hpre2 hpre3 y40_1; omega) | omega)), (ls_0), rfl, (q_reT h_40 [9, 10, 0, 11, 1, 2, 3, 4, 5, 6, 7, 8] rfl rfl), (lv_sub hl [0] rfl)⟩)
set_option maxHeartbeats 4000000 in
set_option maxRecDepth 100000 in
theorem gX3_init_51a17bc (l : Launch) (D : va_G) (cy : Nat → ClassId) (h0 : Nat) (p0 : Int32) (p1 : Int32) (p2 : Int32) (p3 : Int32) (w0 : Value) (hp0 : 0 ≤ (p0).toInt ∧ (p0).toInt ≤ 0) (hp1 : 0 ≤ (p1).toInt ∧ (p1).toInt ≤ 0) (hp2 : 0 ≤ (p2).toInt ∧ (p2).toInt ≤ 0) (hp3 : 0 ≤ (p3).toInt ∧ (p3).toInt ≤ 0) (sz : Nat) : MV l yX3_init cX3_init 1 { frames := 1, cells := 5, slots := 50, locals := 12 } [.ref h0] D cy [(h0, .inr (3, [.int p0, .int p1, .int p2, .int p3, w0, w0, w0, w0, w0, w0, w0, w0]))] sz (fun u => (1 ≤ (u.2.1 0 0).toInt ∧ (u.2.1 0 0).toInt ≤ 1) ∧ (0 ≤ (u.2.1 1 0).toInt ∧ (u.2.1 1 0).toInt ≤ 0) ∧ (0 ≤ (u.2.1 2 0).toInt ∧ (u.2.1 2 0).toInt ≤ 0) ∧ (0 ≤ (u.2.1 3 0).toInt ∧ (u.2.1 3 0).toInt ≤ 0) ∧ True) (fun u => (wk_060e1226c cy h0 (u.2.1 0 0) (u.2.1 1 0) (u.2.1 2 0) (u.2.1 3 0) (u.1 0) (u.1 1) (u.1 2) (u.1 3) (u.1 4) (u.1 0) (fun _ => 0) (u.1 1) (fun _ => 0) (u.1 2) (fun _ => 0) (u.1 3) (fun _ => 0) (u.1 4) (fun _ => 0))) 5 50 := by
  refine q_ent (own := RX3) (by decide) rfl (Nat.le_of_ble_eq_true rfl) (fun p e s m below meth c ls X hr hlk hnm hK hT h hA hl => ?_)
  obtain ⟨hx, hb, hml, hown, ht⟩ := id X
  replace hl : lv_has ls 1 [(0, .ref h0)] := hl
  refine lv_aload_n hx hb dX3_init_0 rfl (lv_at hl 0 rfl) ?_
  refine q_obj X wm_1_73 wm_1_29 wm_1_30 hl.1 dX3_init_1 (Nat.le_of_ble_eq_true rfl) (Nat.le_of_ble_eq_true rfl) ?_
  refine lv_aload_n hx hb dX3_init_4 rfl (lv_at hl 0 rfl) ?_
  refine lv_iconst (v := 1) hx hb dX3_init_5 (by decide) ?_
  refine q_put (v := .int 1) X hK h 0 rfl rfl wf_3 tyX3 tyX3_ok nmX3 0 (by decide) wm_1_74 rfl rfl rfl (Nat.le_of_ble_eq_true rfl) dX3_init_6 (fun H locs h_1 => ?_)
  clear h
  replace h_1 : qW D _ _ [(h0, .inr (3, [.int 1, .int p1, .int p2, .int p3, w0, w0, w0, w0, w0, w0, w0, w0]))] _ _ := h_1
  refine lv_aload_n hx hb dX3_init_9 rfl (lv_at hl 0 rfl) ?_
  refine lv_iconst (v := 0) hx hb dX3_init_10 (by decide) ?_
  refine q_put (v := .int 0) X hK h_1 0 rfl rfl wf_3 tyX3 tyX3_ok nmX3 1 (by decide) wm_1_79 rfl rfl rfl (Nat.le_of_ble_eq_true rfl) dX3_init_11 (fun H locs h_2 => ?_)
  clear h_1
  replace h_2 : qW D _ _ [(h0, .inr (3, [.int 1, .int 0, .int p2, .int p3, w0, w0, w0, w0, w0, w0, w0, w0]))] _ _ := h_2
  refine lv_aload_n hx hb dX3_init_14 rfl (lv_at hl 0 rfl) ?_
  refine lv_iconst (v := 0) hx hb dX3_init_15 (by decide) ?_
  refine q_put (v := .int 0) X hK h_2 0 rfl rfl wf_3 tyX3 tyX3_ok nmX3 2 (by decide) wm_1_87 rfl rfl rfl (Nat.le_of_ble_eq_true rfl) dX3_init_16 (fun H locs h_3 => ?_)
  clear h_2
  replace h_3 : qW D _ _ [(h0, .inr (3, [.int 1, .int 0, .int 0, .int p3, w0, w0, w0, w0, w0, w0, w0, w0]))] _ _ := h_3
  refine lv_aload_n hx hb dX3_init_19 rfl (lv_at hl 0 rfl) ?_
  refine lv_iconst (v := 0) hx hb dX3_init_20 (by decide) ?_
  refine q_put (v := .int 0) X hK h_3 0 rfl rfl wf_3 tyX3 tyX3_ok nmX3 3 (by decide) wm_1_90 rfl rfl rfl (Nat.le_of_ble_eq_true rfl) dX3_init_21 (fun H locs h_4 => ?_)
  clear h_3
  replace h_4 : qW D _ _ [(h0, .inr (3, [.int 1, .int 0, .int 0, .int 0, w0, w0, w0, w0, w0, w0, w0, w0]))] _ _ := h_4
  refine lv_aload_n hx hb dX3_init_24 rfl (lv_at hl 0 rfl) ?_
  refine lv_null hx hb dX3_init_25 ?_
  refine q_put (v := .null) X hK h_4 0 rfl rfl wf_3 tyX3 tyX3_ok nmX3 4 (by decide) wm_1_93 rfl rfl rfl (Nat.le_of_ble_eq_true rfl) dX3_init_26 (fun H locs h_5 => ?_)
  clear h_4
  replace h_5 : qW D _ _ [(h0, .inr (3, [.int 1, .int 0, .int 0, .int 0, .null, w0, w0, w0, w0, w0, w0, w0]))] _ _ := h_5
  refine lv_aload_n hx hb dX3_init_29 rfl (lv_at hl 0 rfl) ?_
  refine lv_null hx hb dX3_init_30 ?_
  refine q_put (v := .null) X hK h_5 0 rfl rfl wf_3 tyX3 tyX3_ok nmX3 5 (by decide) wm_1_96 rfl rfl rfl (Nat.le_of_ble_eq_true rfl) dX3_init_31 (fun H locs h_6 => ?_)
  clear h_5
  replace h_6 : qW D _ _ [(h0, .inr (3, [.int 1, .int 0, .int 0, .int 0, .null, .null, w0, w0, w0, w0, w0, w0]))] _ _ := h_6
  refine lv_aload_n hx hb dX3_init_34 rfl (lv_at hl 0 rfl) ?_
  refine lv_null hx hb dX3_init_35 ?_
  refine q_put (v := .null) X hK h_6 0 rfl rfl wf_3 tyX3 tyX3_ok nmX3 6 (by decide) wm_1_99 rfl rfl rfl (Nat.le_of_ble_eq_true rfl) dX3_init_36 (fun H locs h_7 => ?_)
  clear h_6
  replace h_7 : qW D _ _ [(h0, .inr (3, [.int 1, .int 0, .int 0, .int 0, .null, .null, .null, w0, w0, w0, w0, w0]))] _ _ := h_7
  refine lv_aload_n hx hb dX3_init_39 rfl (lv_at hl 0 rfl) ?_
  refine lv_bipush (v := 10) hx hb dX3_init_40 (by decide) ?_
  refine q_newi X hK hA h_7 wm_1_67 10 (by decide) (by decide +kernel) (by decide) (Nat.le_of_ble_eq_true rfl) (Nat.le_of_ble_eq_true rfl) dX3_init_42 (fun q_8 H h_8 => ?_)
  clear h_7
  replace h_8 : qW D _ _ [(h0, .inr (3, [.int 1, .int 0, .int 0, .int 0, .null, .null, .null, w0, w0, w0, w0, w0])), (q_8, .inl (cy 1, 10, .inl (fun _ => 0)))] _ _ := h_8
  refine q_putF (v := .ref q_8) X hK h_8 0 rfl rfl wf_3 tyX3 tyX3_ok nmX3 7 (by decide) wm_1_102 rfl hnm rfl rfl rfl (Nat.le_of_ble_eq_true rfl) dX3_init_44 (fun H locs h_9 => ?_)
  clear h_8
  replace h_9 : qW D _ _ [(h0, .inr (3, [.int 1, .int 0, .int 0, .int 0, .null, .null, .null, .ref q_8, w0, w0, w0, w0])), (q_8, .inl (cy 1, 10, .inl (fun _ => 0)))] _ _ := h_9
  refine lv_aload_n hx hb dX3_init_47 rfl (lv_at hl 0 rfl) ?_
  refine lv_bipush (v := 10) hx hb dX3_init_48 (by decide) ?_
  refine q_newi X hK hA h_9 wm_1_67 10 (by decide) (by decide +kernel) (by decide) (Nat.le_of_ble_eq_true rfl) (Nat.le_of_ble_eq_true rfl) dX3_init_50 (fun q_10 H h_10 => ?_)
  clear h_9
  replace h_10 : qW D _ _ [(h0, .inr (3, [.int 1, .int 0, .int 0, .int 0, .null, .null, .null, .ref q_8, w0, w0, w0, w0])), (q_8, .inl (cy 1, 10, .inl (fun _ => 0))), (q_10, .inl (cy 1, 10, .inl (fun _ => 0)))] _ _ := h_10
  refine q_putF (v := .ref q_10) X hK h_10 0 rfl rfl wf_3 tyX3 tyX3_ok nmX3 8 (by decide) wm_1_105 rfl hnm rfl rfl rfl (Nat.le_of_ble_eq_true rfl) dX3_init_52 (fun H locs h_11 => ?_)
  clear h_10
  replace h_11 : qW D _ _ [(h0, .inr (3, [.int 1, .int 0, .int 0, .int 0, .null, .null, .null, .ref q_8, .ref q_10, w0, w0, w0])), (q_8, .inl (cy 1, 10, .inl (fun _ => 0))), (q_10, .inl (cy 1, 10, .inl (fun _ => 0)))] _ _ := h_11
  refine lv_aload_n hx hb dX3_init_55 rfl (lv_at hl 0 rfl) ?_
  refine lv_bipush (v := 10) hx hb dX3_init_56 (by decide) ?_
  refine q_newi X hK hA h_11 wm_1_67 10 (by decide) (by decide +kernel) (by decide) (Nat.le_of_ble_eq_true rfl) (Nat.le_of_ble_eq_true rfl) dX3_init_58 (fun q_12 H h_12 => ?_)
  clear h_11
  replace h_12 : qW D _ _ [(h0, .inr (3, [.int 1, .int 0, .int 0, .int 0, .null, .null, .null, .ref q_8, .ref q_10, w0, w0, w0])), (q_8, .inl (cy 1, 10, .inl (fun _ => 0))), (q_10, .inl (cy 1, 10, .inl (fun _ => 0))), (q_12, .inl (cy 1, 10, .inl (fun _ => 0)))] _ _ := h_12
  refine q_putF (v := .ref q_12) X hK h_12 0 rfl rfl wf_3 tyX3 tyX3_ok nmX3 9 (by decide) wm_1_109 rfl hnm rfl rfl rfl (Nat.le_of_ble_eq_true rfl) dX3_init_60 (fun H locs h_13 => ?_)
  clear h_12
  replace h_13 : qW D _ _ [(h0, .inr (3, [.int 1, .int 0, .int 0, .int 0, .null, .null, .null, .ref q_8, .ref q_10, .ref q_12, w0, w0])), (q_8, .inl (cy 1, 10, .inl (fun _ => 0))), (q_10, .inl (cy 1, 10, .inl (fun _ => 0))), (q_12, .inl (cy 1, 10, .inl (fun _ => 0)))] _ _ := h_13
  refine lv_aload_n hx hb dX3_init_63 rfl (lv_at hl 0 rfl) ?_
  refine lv_bipush (v := 10) hx hb dX3_init_64 (by decide) ?_
  refine q_newi X hK hA h_13 wm_1_67 10 (by decide) (by decide +kernel) (by decide) (Nat.le_of_ble_eq_true rfl) (Nat.le_of_ble_eq_true rfl) dX3_init_66 (fun q_14 H h_14 => ?_)
  clear h_13
  replace h_14 : qW D _ _ [(h0, .inr (3, [.int 1, .int 0, .int 0, .int 0, .null, .null, .null, .ref q_8, .ref q_10, .ref q_12, w0, w0])), (q_8, .inl (cy 1, 10, .inl (fun _ => 0))), (q_10, .inl (cy 1, 10, .inl (fun _ => 0))), (q_12, .inl (cy 1, 10, .inl (fun _ => 0))), (q_14, .inl (cy 1, 10, .inl (fun _ => 0)))] _ _ := h_14
  refine q_putF (v := .ref q_14) X hK h_14 0 rfl rfl wf_3 tyX3 tyX3_ok nmX3 10 (by decide) wm_1_113 rfl hnm rfl rfl rfl (Nat.le_of_ble_eq_true rfl) dX3_init_68 (fun H locs h_15 => ?_)
  clear h_14
  replace h_15 : qW D _ _ [(h0, .inr (3, [.int 1, .int 0, .int 0, .int 0, .null, .null, .null, .ref q_8, .ref q_10, .ref q_12, .ref q_14, w0])), (q_8, .inl (cy 1, 10, .inl (fun _ => 0))), (q_10, .inl (cy 1, 10, .inl (fun _ => 0))), (q_12, .inl (cy 1, 10, .inl (fun _ => 0))), (q_14, .inl (cy 1, 10, .inl (fun _ => 0)))] _ _ := h_15
  refine lv_aload_n hx hb dX3_init_71 rfl (lv_at hl 0 rfl) ?_
  refine lv_bipush (v := 10) hx hb dX3_init_72 (by decide) ?_
  refine q_newi X hK hA h_15 wm_1_67 10 (by decide) (by decide +kernel) (by decide) (Nat.le_of_ble_eq_true rfl) (Nat.le_of_ble_eq_true rfl) dX3_init_74 (fun q_16 H h_16 => ?_)
  clear h_15
  replace h_16 : qW D _ _ [(h0, .inr (3, [.int 1, .int 0, .int 0, .int 0, .null, .null, .null, .ref q_8, .ref q_10, .ref q_12, .ref q_14, w0])), (q_8, .inl (cy 1, 10, .inl (fun _ => 0))), (q_10, .inl (cy 1, 10, .inl (fun _ => 0))), (q_12, .inl (cy 1, 10, .inl (fun _ => 0))), (q_14, .inl (cy 1, 10, .inl (fun _ => 0))), (q_16, .inl (cy 1, 10, .inl (fun _ => 0)))] _ _ := h_16
  refine q_putF (v := .ref q_16) X hK h_16 0 rfl rfl wf_3 tyX3 tyX3_ok nmX3 11 (by decide) wm_1_116 rfl hnm rfl rfl rfl (Nat.le_of_ble_eq_true rfl) dX3_init_76 (fun H locs h_17 => ?_)
  clear h_16
  replace h_17 : qW D _ _ (wk_060e1226c cy h0 1 0 0 0 q_8 q_10 q_12 q_14 q_16 q_8 (fun _ => 0) q_10 (fun _ => 0) q_12 (fun _ => 0) q_14 (fun _ => 0) q_16 (fun _ => 0)) _ _ := h_17
  exact q_vret X hr hlk hK h_17 ((vcons q_8 (vcons q_10 (vcons q_12 (vcons q_14 (vcons q_16 (fun _ => 0)))))), (vcons (fun _ => 1) (vcons (fun _ => 0) (vcons (fun _ => 0) (vcons (fun _ => 0) (fun _ => (fun _ => 0)))))), fun _ _ => 0) ⟨(⟨by decide +kernel, by decide +kernel⟩ : 1 ≤ (1 : Int32).toInt ∧ (1 : Int32).toInt ≤ 1), (⟨by decide +kernel, by decide +kernel⟩ : 0 ≤ (0 : Int32).toInt ∧ (0 : Int32).toInt ≤ 0), (⟨by decide +kernel, by decide +kernel⟩ : 0 ≤ (0 : Int32).toInt ∧ (0 : Int32).toInt ≤ 0), (⟨by decide +kernel, by decide +kernel⟩ : 0 ≤ (0 : Int32).toInt ∧ (0 : Int32).toInt ≤ 0), trivial⟩ [0, 1, 2, 3, 4, 5] rfl rfl dX3_init_79 (Nat.le_of_ble_eq_true rfl) (Nat.le_of_ble_eq_true rfl)
set_option maxHeartbeats 4000000 in
set_option maxRecDepth 100000 in
theorem gX5_take_b81c5b0 (l : Launch) (D : va_G) (cy : Nat → ClassId) (h0 : Nat) (h1 : Nat) (h2 : Nat) (h3 : Nat) (p0 : Int32) (p1 : Int32) (p2 : Int32) (p3 : Int32) (w0 : Value) (w1 : Value) (p4 : Int32) (p5 : Int32) (w2 : Value) (p6 : Int32) (p7 : Int32) (w3 : Value) (f0 : Nat → Int32) (f1 : Nat → Int32) (hp0 : (-1) ≤ (p0).toInt ∧ (p0).toInt ≤ 900) (hp1 : (-2147483648) ≤ (p1).toInt ∧ (p1).toInt ≤ 2147483647) (hp2 : (-2147483648) ≤ (p2).toInt ∧ (p2).toInt ≤ 2147483647) (hp3 : (-2147483648) ≤ (p3).toInt ∧ (p3).toInt ≤ 2147483647) (hp4 : 0 ≤ (p4).toInt ∧ (p4).toInt ≤ 900) (hp5 : (-2147483648) ≤ (p5).toInt ∧ (p5).toInt ≤ 2147483647) (hp6 : 0 ≤ (p6).toInt ∧ (p6).toInt ≤ 900) (hp7 : 0 ≤ (p7).toInt ∧ (p7).toInt ≤ 901) (hpre0 : KZ f0 (p7 : Int32).toInt) (hpre1 : 0 ≤ (p0 : Int32).toInt ∧ (p0 : Int32).toInt < (p7 : Int32).toInt) (hpre2 : (p2 : Int32).toInt ≠ 0 ∨ (p1 : Int32).toInt = 26 ∨ (p1 : Int32).toInt = 27 ∨ (p0 : Int32).toInt + 1 < (p7 : Int32).toInt) (hpre3 : (p2 : Int32).toInt = 0 ∨ (p1 : Int32).toInt = 27) (hpre4 : (11 : Int32).toInt ≠ 26 ∧ (11 : Int32).toInt ≠ 27) (sz : Nat) : MV l yX5_take cX5_take 2 { frames := 1, cells := 0, slots := 0, locals := 21 } [.ref h0, .int 11] D cy (wk_8964b4ae4 cy h0 h1 p0 p1 p2 p3 w0 w1 p4 p5 h1 w2 p6 p7 h2 h3 w3 h2 f0 h3 f1) sz (fun u => ((-2147483648) ≤ (u.2.1 0 0).toInt ∧ (u.2.1 0 0).toInt ≤ 2147483647) ∧ ((-2147483648) ≤ (u.2.1 1 0).toInt ∧ (u.2.1 1 0).toInt ≤ 2147483647) ∧ ((-2147483648) ≤ (u.2.1 2 0).toInt ∧ (u.2.1 2 0).toInt ≤ 2147483647) ∧ ((-1) ≤ (u.2.1 3 0).toInt ∧ (u.2.1 3 0).toInt ≤ 900) ∧ (0 ≤ ((u.2.1 3 0) : Int32).toInt ∧ ((u.2.1 3 0) : Int32).toInt < (p7 : Int32).toInt) ∧ (((u.2.1 1 0) : Int32).toInt ≠ 0 ∨ ((u.2.1 0 0) : Int32).toInt = 26 ∨ ((u.2.1 0 0) : Int32).toInt = 27 ∨ ((u.2.1 3 0) : Int32).toInt + 1 < (p7 : Int32).toInt) ∧ (((u.2.1 1 0) : Int32).toInt ≠ 0 ∨ ((u.2.1 3 0) : Int32).toInt = (p0 : Int32).toInt + 1) ∧ (((u.2.1 1 0) : Int32).toInt ≠ 0 ∨ (p2 : Int32).toInt = 0) ∧ (((u.2.1 1 0) : Int32).toInt = 0 ∨ ((u.2.1 0 0) : Int32).toInt = 27) ∧ ((p0 : Int32).toInt ≤ ((u.2.1 3 0) : Int32).toInt) ∧ True) (fun u => (wk_8964b4ae4 cy h0 h1 (u.2.1 3 0) (u.2.1 0 0) (u.2.1 1 0) (u.2.1 2 0) w0 w1 p4 p5 h1 w2 p6 p7 h2 h3 w3 h2 f0 h3 f1)) 0 0 := by
  refine q_ent (own := RX5) (by decide) rfl (Nat.le_of_ble_eq_true rfl) (fun p e s m below meth c ls X hr hlk hnm hK hT h hA hl => ?_)
  obtain ⟨hx, hb, hml, hown, ht⟩ := id X
  replace hl : lv_has ls 2 [(0, .ref h0), (1, .int 11)] := hl
  refine lv_aload_n hx hb dX5_take_0 rfl (lv_at hl 0 rfl) ?_
  refine q_get X hK h 0 rfl rfl wf_5 2 (by decide) rfl wm_1_146 dX5_take_1 ?_
  refine lv_iload_n hx hb dX5_take_4 rfl (lv_at hl 1 rfl) ?_
  refine lv_icmp_ne (tgt := 15) hx hb dX5_take_5 (by decide) (fun c_1 => ?_) (fun c_1 => ?_)
  · replace c_1 := i_ne (x := p1) (y := 11) rfl (show (11 : Int32).toInt = 11 by decide) c_1
    refine lv_aload_n hx hb dX5_take_15 rfl (lv_at hl 0 rfl) ?_
    refine lv_iconst (v := 2) hx hb dX5_take_16 (by decide) ?_
    refine q_callVv (rest := []) (wr := [(h2, .inl (cy 1, 901, .inl f0))]) X hK hT hA h (fun sz => gX5_refuse_067fcff l D cy h0 h1 h3 p0 p1 p2 p3 w0 w1 p4 p5 w2 p6 p7 (.ref h2) w3 f1 hp0 (i_rng _) (i_rng _) (i_rng _) hp4 (i_rng _) hp6 hp7 (hpre1) (hpre3) (by have q0 : (2 : Int32).toInt = 2 := (by decide); (first | (clear hpre2 hpre3; omega) | omega)) sz) wm_3_76 wm_3_79 wm_1_2 hd_X5_refuse wm_3_78 wp_1_10 (ci := 5) (q0 := 0) rfl rfl ⟨Nat.le_of_ble_eq_true rfl, Nat.le_of_ble_eq_true rfl⟩ hl.1 rfl (Nat.le_of_ble_eq_true rfl) dX5_take_17 ⟨Nat.le_of_ble_eq_true rfl, Nat.le_of_ble_eq_true rfl⟩ [0, 1, 3] [2] rfl rfl (by decide) rfl rfl (fun u_2 H locs w_2 h_2 => ?_)
    clear h
    obtain ⟨w2_0, w2_1, w2_2, y2_0, y2_1, _⟩ := w_2
    have lq_2_1 : (2 : Int32).toInt = 2 := (by decide)
    replace h_2 : qW D _ _ (wk_565e7035b cy h2 f0 h0 h1 p0 (u_2.2.1 0 0) (u_2.2.1 1 0) (u_2.2.1 2 0) w0 w1 p4 p5 h1 w2 p6 p7 h2 h3 w3 h3 f1) _ _ := h_2
    exact q_vret X hr hlk hK h_2 (fun _ => 0, (vcons (fun _ => (u_2.2.1 0 0)) (vcons (fun _ => (u_2.2.1 1 0)) (vcons (fun _ => (u_2.2.1 2 0)) (vcons (fun _ => p0) (fun _ => (fun _ => 0)))))), fun _ _ => 0) ⟨w2_0, w2_1, w2_2, hp0, hpre1, (show ((u_2.2.1 1 0) : Int32).toInt ≠ 0 ∨ ((u_2.2.1 0 0) : Int32).toInt = 26 ∨ ((u_2.2.1 0 0) : Int32).toInt = 27 ∨ (p0 : Int32).toInt + 1 < (p7 : Int32).toInt from by (first | (clear hpre2 hpre3 y2_1; omega) | omega)), (show ((u_2.2.1 1 0) : Int32).toInt ≠ 0 ∨ (p0 : Int32).toInt = (p0 : Int32).toInt + 1 from by (first | (clear hpre2 hpre3 y2_1; omega) | omega)), (show ((u_2.2.1 1 0) : Int32).toInt ≠ 0 ∨ (p2 : Int32).toInt = 0 from by (first | (clear hpre2 hpre3 y2_1; omega) | omega)), y2_1, (show (p0 : Int32).toInt ≤ (p0 : Int32).toInt from (Int.le_refl _)), trivial⟩ [1, 2, 0, 3] rfl rfl dX5_take_20 (Nat.le_of_ble_eq_true rfl) (Nat.le_of_ble_eq_true rfl)
  · replace c_1 := i_eq (x := p1) (y := 11) rfl (show (11 : Int32).toInt = 11 by decide) c_1
    refine lv_aload_n hx hb dX5_take_8 rfl (lv_at hl 0 rfl) ?_
    refine q_callVv (rest := []) (wr := []) X hK hT hA h (fun sz => gX5_advance_9820dfe l D cy h0 h1 h2 h3 p0 p1 p2 p3 w0 w1 p4 p5 w2 p6 p7 w3 f0 f1 hp0 (i_rng _) (i_rng _) (i_rng _) hp4 (i_rng _) hp6 hp7 (hpre0) (hpre3) (by (first | (clear hpre2 hpre3; omega) | omega)) sz) wm_3_68 wm_3_71 wm_1_2 hd_X5_advance wm_3_70 wp_1_8 (ci := 5) (q0 := 0) rfl rfl ⟨Nat.le_of_ble_eq_true rfl, Nat.le_of_ble_eq_true rfl⟩ hl.1 rfl (Nat.le_of_ble_eq_true rfl) dX5_take_9 ⟨Nat.le_of_ble_eq_true rfl, Nat.le_of_ble_eq_true rfl⟩ [0, 1, 2, 3] [] rfl rfl (by decide) rfl rfl (fun u_3 H locs w_3 h_3 => ?_)
    clear h
    obtain ⟨w3_0, w3_1, w3_2, w3_3, y3_0, y3_1, y3_2, y3_3, y3_4, y3_5, _⟩ := w_3
    replace h_3 : qW D _ _ (wk_8964b4ae4 cy h0 h1 (u_3.2.1 0 0) (u_3.2.1 1 0) (u_3.2.1 2 0) (u_3.2.1 3 0) w0 w1 p4 p5 h1 w2 p6 p7 h2 h3 w3 h2 f0 h3 f1) _ _ := h_3
    refine lv_goto (tgt := 20) hx hb dX5_take_12 (by decide) ?_
    exact q_vret X hr hlk hK h_3 (fun _ => 0, (vcons (fun _ => (u_3.2.1 1 0)) (vcons (fun _ => (u_3.2.1 2 0)) (vcons (fun _ => (u_3.2.1 3 0)) (vcons (fun _ => (u_3.2.1 0 0)) (fun _ => (fun _ => 0)))))), fun _ _ => 0) ⟨w3_1, w3_2, w3_3, w3_0, y3_0, (show ((u_3.2.1 2 0) : Int32).toInt ≠ 0 ∨ ((u_3.2.1 1 0) : Int32).toInt = 26 ∨ ((u_3.2.1 1 0) : Int32).toInt = 27 ∨ ((u_3.2.1 0 0) : Int32).toInt + 1 < (p7 : Int32).toInt from by (first | (clear hpre2 hpre3 y3_1 y3_2 y3_4 y3_5; omega) | omega)), (show ((u_3.2.1 2 0) : Int32).toInt ≠ 0 ∨ ((u_3.2.1 0 0) : Int32).toInt = (p0 : Int32).toInt + 1 from by (first | (clear hpre2 hpre3 y3_1 y3_2 y3_4 y3_5; omega) | omega)), y3_2, y3_5, y3_3, trivial⟩ [0, 1, 2, 3] rfl rfl dX5_take_20 (Nat.le_of_ble_eq_true rfl) (Nat.le_of_ble_eq_true rfl)
set_option maxHeartbeats 4000000 in
set_option maxRecDepth 100000 in
theorem gX5_take_b74706d (l : Launch) (D : va_G) (cy : Nat → ClassId) (h0 : Nat) (h1 : Nat) (h2 : Nat) (h3 : Nat) (p0 : Int32) (p1 : Int32) (p2 : Int32) (p3 : Int32) (w0 : Value) (w1 : Value) (p4 : Int32) (p5 : Int32) (w2 : Value) (p6 : Int32) (p7 : Int32) (w3 : Value) (f0 : Nat → Int32) (f1 : Nat → Int32) (hp0 : (-1) ≤ (p0).toInt ∧ (p0).toInt ≤ 900) (hp1 : (-2147483648) ≤ (p1).toInt ∧ (p1).toInt ≤ 2147483647) (hp2 : (-2147483648) ≤ (p2).toInt ∧ (p2).toInt ≤ 2147483647) (hp3 : (-2147483648) ≤ (p3).toInt ∧ (p3).toInt ≤ 2147483647) (hp4 : 0 ≤ (p4).toInt ∧ (p4).toInt ≤ 900) (hp5 : (-2147483648) ≤ (p5).toInt ∧ (p5).toInt ≤ 2147483647) (hp6 : 0 ≤ (p6).toInt ∧ (p6).toInt ≤ 900) (hp7 : 0 ≤ (p7).toInt ∧ (p7).toInt ≤ 901) (hpre0 : KZ f0 (p7 : Int32).toInt) (hpre1 : 0 ≤ (p0 : Int32).toInt ∧ (p0 : Int32).toInt < (p7 : Int32).toInt) (hpre2 : (p2 : Int32).toInt ≠ 0 ∨ (p1 : Int32).toInt = 26 ∨ (p1 : Int32).toInt = 27 ∨ (p0 : Int32).toInt + 1 < (p7 : Int32).toInt) (hpre3 : (p2 : Int32).toInt = 0 ∨ (p1 : Int32).toInt = 27) (hpre4 : (12 : Int32).toInt ≠ 26 ∧ (12 : Int32).toInt ≠ 27) (sz : Nat) : MV l yX5_take cX5_take 2 { frames := 1, cells := 0, slots := 0, locals := 21 } [.ref h0, .int 12] D cy (wk_8964b4ae4 cy h0 h1 p0 p1 p2 p3 w0 w1 p4 p5 h1 w2 p6 p7 h2 h3 w3 h2 f0 h3 f1) sz (fun u => ((-2147483648) ≤ (u.2.1 0 0).toInt ∧ (u.2.1 0 0).toInt ≤ 2147483647) ∧ ((-2147483648) ≤ (u.2.1 1 0).toInt ∧ (u.2.1 1 0).toInt ≤ 2147483647) ∧ ((-2147483648) ≤ (u.2.1 2 0).toInt ∧ (u.2.1 2 0).toInt ≤ 2147483647) ∧ ((-1) ≤ (u.2.1 3 0).toInt ∧ (u.2.1 3 0).toInt ≤ 900) ∧ (0 ≤ ((u.2.1 3 0) : Int32).toInt ∧ ((u.2.1 3 0) : Int32).toInt < (p7 : Int32).toInt) ∧ (((u.2.1 1 0) : Int32).toInt ≠ 0 ∨ ((u.2.1 0 0) : Int32).toInt = 26 ∨ ((u.2.1 0 0) : Int32).toInt = 27 ∨ ((u.2.1 3 0) : Int32).toInt + 1 < (p7 : Int32).toInt) ∧ (((u.2.1 1 0) : Int32).toInt ≠ 0 ∨ ((u.2.1 3 0) : Int32).toInt = (p0 : Int32).toInt + 1) ∧ (((u.2.1 1 0) : Int32).toInt ≠ 0 ∨ (p2 : Int32).toInt = 0) ∧ (((u.2.1 1 0) : Int32).toInt = 0 ∨ ((u.2.1 0 0) : Int32).toInt = 27) ∧ ((p0 : Int32).toInt ≤ ((u.2.1 3 0) : Int32).toInt) ∧ True) (fun u => (wk_8964b4ae4 cy h0 h1 (u.2.1 3 0) (u.2.1 0 0) (u.2.1 1 0) (u.2.1 2 0) w0 w1 p4 p5 h1 w2 p6 p7 h2 h3 w3 h2 f0 h3 f1)) 0 0 := by
  refine q_ent (own := RX5) (by decide) rfl (Nat.le_of_ble_eq_true rfl) (fun p e s m below meth c ls X hr hlk hnm hK hT h hA hl => ?_)
  obtain ⟨hx, hb, hml, hown, ht⟩ := id X
  replace hl : lv_has ls 2 [(0, .ref h0), (1, .int 12)] := hl
  refine lv_aload_n hx hb dX5_take_0 rfl (lv_at hl 0 rfl) ?_
  refine q_get X hK h 0 rfl rfl wf_5 2 (by decide) rfl wm_1_146 dX5_take_1 ?_
  refine lv_iload_n hx hb dX5_take_4 rfl (lv_at hl 1 rfl) ?_
  refine lv_icmp_ne (tgt := 15) hx hb dX5_take_5 (by decide) (fun c_1 => ?_) (fun c_1 => ?_)
  · replace c_1 := i_ne (x := p1) (y := 12) rfl (show (12 : Int32).toInt = 12 by decide) c_1
    refine lv_aload_n hx hb dX5_take_15 rfl (lv_at hl 0 rfl) ?_
    refine lv_iconst (v := 2) hx hb dX5_take_16 (by decide) ?_
    refine q_callVv (rest := []) (wr := [(h2, .inl (cy 1, 901, .inl f0))]) X hK hT hA h (fun sz => gX5_refuse_067fcff l D cy h0 h1 h3 p0 p1 p2 p3 w0 w1 p4 p5 w2 p6 p7 (.ref h2) w3 f1 hp0 (i_rng _) (i_rng _) (i_rng _) hp4 (i_rng _) hp6 hp7 (hpre1) (hpre3) (by have q0 : (2 : Int32).toInt = 2 := (by decide); (first | (clear hpre2 hpre3; omega) | omega)) sz) wm_3_76 wm_3_79 wm_1_2 hd_X5_refuse wm_3_78 wp_1_10 (ci := 5) (q0 := 0) rfl rfl ⟨Nat.le_of_ble_eq_true rfl, Nat.le_of_ble_eq_true rfl⟩ hl.1 rfl (Nat.le_of_ble_eq_true rfl) dX5_take_17 ⟨Nat.le_of_ble_eq_true rfl, Nat.le_of_ble_eq_true rfl⟩ [0, 1, 3] [2] rfl rfl (by decide) rfl rfl (fun u_2 H locs w_2 h_2 => ?_)
    clear h
    obtain ⟨w2_0, w2_1, w2_2, y2_0, y2_1, _⟩ := w_2
    have lq_2_1 : (2 : Int32).toInt = 2 := (by decide)
    replace h_2 : qW D _ _ (wk_565e7035b cy h2 f0 h0 h1 p0 (u_2.2.1 0 0) (u_2.2.1 1 0) (u_2.2.1 2 0) w0 w1 p4 p5 h1 w2 p6 p7 h2 h3 w3 h3 f1) _ _ := h_2
    exact q_vret X hr hlk hK h_2 (fun _ => 0, (vcons (fun _ => (u_2.2.1 0 0)) (vcons (fun _ => (u_2.2.1 1 0)) (vcons (fun _ => (u_2.2.1 2 0)) (vcons (fun _ => p0) (fun _ => (fun _ => 0)))))), fun _ _ => 0) ⟨w2_0, w2_1, w2_2, hp0, hpre1, (show ((u_2.2.1 1 0) : Int32).toInt ≠ 0 ∨ ((u_2.2.1 0 0) : Int32).toInt = 26 ∨ ((u_2.2.1 0 0) : Int32).toInt = 27 ∨ (p0 : Int32).toInt + 1 < (p7 : Int32).toInt from by (first | (clear hpre2 hpre3 y2_1; omega) | omega)), (show ((u_2.2.1 1 0) : Int32).toInt ≠ 0 ∨ (p0 : Int32).toInt = (p0 : Int32).toInt + 1 from by (first | (clear hpre2 hpre3 y2_1; omega) | omega)), (show ((u_2.2.1 1 0) : Int32).toInt ≠ 0 ∨ (p2 : Int32).toInt = 0 from by (first | (clear hpre2 hpre3 y2_1; omega) | omega)), y2_1, (show (p0 : Int32).toInt ≤ (p0 : Int32).toInt from (Int.le_refl _)), trivial⟩ [1, 2, 0, 3] rfl rfl dX5_take_20 (Nat.le_of_ble_eq_true rfl) (Nat.le_of_ble_eq_true rfl)
  · replace c_1 := i_eq (x := p1) (y := 12) rfl (show (12 : Int32).toInt = 12 by decide) c_1
    refine lv_aload_n hx hb dX5_take_8 rfl (lv_at hl 0 rfl) ?_
    refine q_callVv (rest := []) (wr := []) X hK hT hA h (fun sz => gX5_advance_9820dfe l D cy h0 h1 h2 h3 p0 p1 p2 p3 w0 w1 p4 p5 w2 p6 p7 w3 f0 f1 hp0 (i_rng _) (i_rng _) (i_rng _) hp4 (i_rng _) hp6 hp7 (hpre0) (hpre3) (by (first | (clear hpre2 hpre3; omega) | omega)) sz) wm_3_68 wm_3_71 wm_1_2 hd_X5_advance wm_3_70 wp_1_8 (ci := 5) (q0 := 0) rfl rfl ⟨Nat.le_of_ble_eq_true rfl, Nat.le_of_ble_eq_true rfl⟩ hl.1 rfl (Nat.le_of_ble_eq_true rfl) dX5_take_9 ⟨Nat.le_of_ble_eq_true rfl, Nat.le_of_ble_eq_true rfl⟩ [0, 1, 2, 3] [] rfl rfl (by decide) rfl rfl (fun u_3 H locs w_3 h_3 => ?_)
    clear h
    obtain ⟨w3_0, w3_1, w3_2, w3_3, y3_0, y3_1, y3_2, y3_3, y3_4, y3_5, _⟩ := w_3
    replace h_3 : qW D _ _ (wk_8964b4ae4 cy h0 h1 (u_3.2.1 0 0) (u_3.2.1 1 0) (u_3.2.1 2 0) (u_3.2.1 3 0) w0 w1 p4 p5 h1 w2 p6 p7 h2 h3 w3 h2 f0 h3 f1) _ _ := h_3
    refine lv_goto (tgt := 20) hx hb dX5_take_12 (by decide) ?_
    exact q_vret X hr hlk hK h_3 (fun _ => 0, (vcons (fun _ => (u_3.2.1 1 0)) (vcons (fun _ => (u_3.2.1 2 0)) (vcons (fun _ => (u_3.2.1 3 0)) (vcons (fun _ => (u_3.2.1 0 0)) (fun _ => (fun _ => 0)))))), fun _ _ => 0) ⟨w3_1, w3_2, w3_3, w3_0, y3_0, (show ((u_3.2.1 2 0) : Int32).toInt ≠ 0 ∨ ((u_3.2.1 1 0) : Int32).toInt = 26 ∨ ((u_3.2.1 1 0) : Int32).toInt = 27 ∨ ((u_3.2.1 0 0) : Int32).toInt + 1 < (p7 : Int32).toInt from by (first | (clear hpre2 hpre3 y3_1 y3_2 y3_4 y3_5; omega) | omega)), (show ((u_3.2.1 2 0) : Int32).toInt ≠ 0 ∨ ((u_3.2.1 0 0) : Int32).toInt = (p0 : Int32).toInt + 1 from by (first | (clear hpre2 hpre3 y3_1 y3_2 y3_4 y3_5; omega) | omega)), y3_2, y3_5, y3_3, trivial⟩ [0, 1, 2, 3] rfl rfl dX5_take_20 (Nat.le_of_ble_eq_true rfl) (Nat.le_of_ble_eq_true rfl)
set_option maxHeartbeats 4000000 in
set_option maxRecDepth 100000 in
theorem gX5_read_b67bca9 (l : Launch) (D : va_G) (cy : Nat → ClassId) (h0 : Nat) (h1 : Nat) (h2 : Nat) (h3 : Nat) (h4 : Nat) (h5 : Nat) (h6 : Nat) (p0 : Int32) (p1 : Int32) (p2 : Int32) (p3 : Int32) (p4 : Int32) (o0 : Option Nat) (p5 : Int32) (p6 : Int32) (o1 : Option Nat) (p7 : Int32) (p8 : Int32) (f0 : Nat → Int32) (f1 : Nat → Int32) (f2 : Nat → Int32) (f3 : Nat → Int32) (f4 : Nat → Int32) (hp0 : 0 ≤ (p0).toInt ∧ (p0).toInt ≤ 900) (hp1 : (-1) ≤ (p1).toInt ∧ (p1).toInt ≤ 900) (hp2 : (-2147483648) ≤ (p2).toInt ∧ (p2).toInt ≤ 2147483647) (hp3 : (-2147483648) ≤ (p3).toInt ∧ (p3).toInt ≤ 2147483647) (hp4 : (-2147483648) ≤ (p4).toInt ∧ (p4).toInt ≤ 2147483647) (hp5 : 0 ≤ (p5).toInt ∧ (p5).toInt ≤ 900) (hp6 : (-2147483648) ≤ (p6).toInt ∧ (p6).toInt ≤ 2147483647) (hp7 : 0 ≤ (p7).toInt ∧ (p7).toInt ≤ 900) (hp8 : 0 ≤ (p8).toInt ∧ (p8).toInt ≤ 901) (sz : Nat) : MQw l yX5_read cX5_read 4 "OppositeHouse$House" { frames := 28, cells := ((p0).toInt.toNat + 20), slots := (451 * (p0).toInt.toNat + 2000), locals := 697 } [.ref h0, .ref h6, .int p0] D cy (wk_f120e8fa4 cy h0 h1 p1 p2 p3 p4 o0 h5 p5 p6 h1 o1 p7 p8 h2 h3 h4 h2 f0 h3 f1 h4 f2 h5 f3 h6 f4) sz (fun r u => r = some (u.1.1 0) ∧ (0 ≤ (u.1.2.1 2 0).toInt ∧ (u.1.2.1 2 0).toInt ≤ 900) ∧ ((-2147483648) ≤ (u.1.2.1 3 0).toInt ∧ (u.1.2.1 3 0).toInt ≤ 2147483647) ∧ ((-2147483648) ≤ (u.1.2.1 4 0).toInt ∧ (u.1.2.1 4 0).toInt ≤ 2147483647) ∧ ((-2147483648) ≤ (u.1.2.1 5 0).toInt ∧ (u.1.2.1 5 0).toInt ≤ 2147483647) ∧ (0 ≤ (u.1.2.1 6 0).toInt ∧ (u.1.2.1 6 0).toInt ≤ 900) ∧ ((-2147483648) ≤ (u.1.2.1 7 0).toInt ∧ (u.1.2.1 7 0).toInt ≤ 2147483647) ∧ (0 ≤ (u.1.2.1 8 0).toInt ∧ (u.1.2.1 8 0).toInt ≤ 900) ∧ (0 ≤ (u.1.2.1 9 0).toInt ∧ (u.1.2.1 9 0).toInt ≤ 901) ∧ (1 ≤ (u.1.2.1 12 0).toInt ∧ (u.1.2.1 12 0).toInt ≤ 3) ∧ (0 ≤ (u.1.2.1 13 0).toInt ∧ (u.1.2.1 13 0).toInt ≤ 10) ∧ ((-2147483648) ≤ (u.1.2.1 14 0).toInt ∧ (u.1.2.1 14 0).toInt ≤ 2147483647) ∧ ((-2147483648) ≤ (u.1.2.1 15 0).toInt ∧ (u.1.2.1 15 0).toInt ≤ 2147483647) ∧ RG (u.1.2.1 16) 10 0 999 ∧ (LI cy u.2.1 (va_rf (u.2.2 0)) (va_rf (u.2.2 1)) (va_rf (u.2.2 2))) ∧ True) (fun u => [(h0, .inr (5, [.ref h1, .int (u.1.2.1 2 0), .int (u.1.2.1 3 0), .int (u.1.2.1 4 0), .int (u.1.2.1 5 0), .ref (u.1.1 0), .ref h5, .int (u.1.2.1 6 0), .int (u.1.2.1 7 0)])), (h1, .inr (8, [.ref h6, .int (u.1.2.1 8 0), .int (u.1.2.1 9 0), .ref h2, .ref h3, .ref h4])), (h2, .inl (cy 1, 901, .inl (u.1.2.1 10))), (h3, .inl (cy 1, 901, .inl (u.1.2.1 11))), (h4, .inl (cy 1, 901, .inl (u.1.2.1 1))), (h5, .inl (cy 1, 900, .inl (u.1.2.1 0))), (h6, .inl (cy 0, 900, .inl f4)), ((u.1.1 0), .inr (3, [.int (u.1.2.1 12 0), .int (u.1.2.1 13 0), .int (u.1.2.1 14 0), .int (u.1.2.1 15 0), (va_rf (u.2.2 0)), (va_rf (u.2.2 1)), (va_rf (u.2.2 2)), .ref (u.1.1 1), .ref (u.1.1 2), .ref (u.1.1 3), .ref (u.1.1 4), .ref (u.1.1 5)])), ((u.1.1 1), .inl (cy 1, 10, .inl (u.1.2.1 16))), ((u.1.1 2), .inl (cy 1, 10, .inl (u.1.2.1 17))), ((u.1.1 3), .inl (cy 1, 10, .inl (u.1.2.1 18))), ((u.1.1 4), .inl (cy 1, 10, .inl (u.1.2.1 19))), ((u.1.1 5), .inl (cy 1, 10, .inl (u.1.2.1 20)))]) ((p0).toInt.toNat + 20) (451 * (p0).toInt.toNat + 2000) := by
  refine q_ent (own := RX5) (by decide) rfl (Nat.le_of_ble_eq_true rfl) (fun p e s m below meth c ls X hr hlk hnm hK hT h hA hl => ?_)
  obtain ⟨hx, hb, hml, hown, ht⟩ := id X
  replace h : qW D _ _ ((wk_f120e8fa4 cy h0 h1 p1 p2 p3 p4 o0 h5 p5 p6 h1 o1 p7 p8 h2 h3 h4 h2 f0 h3 f1 h4 f2 h5 f3 h6 f4) ++ []) _ _ := h
  replace hl : lv_has ls 4 [(0, .ref h0), (1, .ref h6), (2, .int p0)] := hl
  refine lv_aload_n hx hb dX5_read_0 rfl (lv_at hl 0 rfl) ?_
  refine q_get X hK h 0 rfl rfl wf_5 0 (by decide) rfl wm_1_144 dX5_read_1 ?_
  refine lv_aload_n hx hb dX5_read_4 rfl (lv_at hl 1 rfl) ?_
  refine lv_iload_n hx hb dX5_read_5 rfl (lv_at hl 2 rfl) ?_
  refine q_callVvT (rest := []) (wr := [(h0, .inr (5, [.ref h1, .int p1, .int p2, .int p3, .int p4, (va_rf o0), .ref h5, .int p5, .int p6])), (h5, .inl (cy 1, 900, .inl f3))]) X hK hT hA h (fun sz => gX8_cut_7ab6d9e l D cy h1 h2 h3 h4 h6 p0 o1 p7 p8 f0 f1 f2 f4 hp0 hp7 hp8 sz) wm_2_166 wm_2_169 wm_1_3 hd_X8_cut wm_2_167 wm_2_168 (ci := 8) (q0 := 0) rfl rfl ⟨Nat.le_of_ble_eq_true rfl, Nat.le_of_ble_eq_true rfl⟩ hl.1 rfl (Nat.le_of_ble_eq_true rfl) dX5_read_6 ⟨Nat.le_of_ble_eq_true rfl, Nat.le_of_ble_eq_true rfl⟩ [1, 2, 3, 4, 6] [0, 5] rfl rfl (by decide) rfl rfl (fun u_1 H locs w_1 h_1 => ?_)
  clear h
  obtain ⟨w1_0, w1_1, y1_0, y1_1, y1_2, _⟩ := w_1
  replace h_1 : qW D _ _ ((wk_b3fee32c6 cy h0 h1 p1 p2 p3 p4 o0 h5 p5 p6 h5 f3 h1 h6 (u_1.2.1 0 0) (u_1.2.1 1 0) h2 h3 h4 h2 (u_1.2.1 2) h3 (u_1.2.1 3) h4 (u_1.2.1 4) h6 f4) ++ []) _ _ := h_1
  refine lv_aload_n hx hb dX5_read_9 rfl (lv_at hl 0 rfl) ?_
  refine lv_iconst (v := (-1)) hx hb dX5_read_10 (by decide) ?_
  refine q_put (v := .int (-1)) X hK h_1 0 rfl rfl wf_5 tyX5 tyX5_ok nmX5 1 (by decide) wm_1_145 rfl rfl rfl (Nat.le_of_ble_eq_true rfl) dX5_read_11 (fun H locs h_2 => ?_)
  clear h_1
  replace h_2 : qW D _ _ ((wk_b3fee32c6 cy h0 h1 (-1) p2 p3 p4 o0 h5 p5 p6 h5 f3 h1 h6 (u_1.2.1 0 0) (u_1.2.1 1 0) h2 h3 h4 h2 (u_1.2.1 2) h3 (u_1.2.1 3) h4 (u_1.2.1 4) h6 f4) ++ []) _ _ := h_2
  refine lv_aload_n hx hb dX5_read_14 rfl (lv_at hl 0 rfl) ?_
  refine lv_iconst (v := 0) hx hb dX5_read_15 (by decide) ?_
  refine q_put (v := .int 0) X hK h_2 0 rfl rfl wf_5 tyX5 tyX5_ok nmX5 3 (by decide) wm_1_147 rfl rfl rfl (Nat.le_of_ble_eq_true rfl) dX5_read_16 (fun H locs h_3 => ?_)
  clear h_2
  replace h_3 : qW D _ _ ((wk_b3fee32c6 cy h0 h1 (-1) p2 0 p4 o0 h5 p5 p6 h5 f3 h1 h6 (u_1.2.1 0 0) (u_1.2.1 1 0) h2 h3 h4 h2 (u_1.2.1 2) h3 (u_1.2.1 3) h4 (u_1.2.1 4) h6 f4) ++ []) _ _ := h_3
  refine lv_aload_n hx hb dX5_read_19 rfl (lv_at hl 0 rfl) ?_
  refine lv_iconst (v := (-1)) hx hb dX5_read_20 (by decide) ?_
  refine q_put (v := .int (-1)) X hK h_3 0 rfl rfl wf_5 tyX5 tyX5_ok nmX5 4 (by decide) wm_1_149 rfl rfl rfl (Nat.le_of_ble_eq_true rfl) dX5_read_21 (fun H locs h_4 => ?_)
  clear h_3
  replace h_4 : qW D _ _ ((wk_b3fee32c6 cy h0 h1 (-1) p2 0 (-1) o0 h5 p5 p6 h5 f3 h1 h6 (u_1.2.1 0 0) (u_1.2.1 1 0) h2 h3 h4 h2 (u_1.2.1 2) h3 (u_1.2.1 3) h4 (u_1.2.1 4) h6 f4) ++ []) _ _ := h_4
  refine lv_aload_n hx hb dX5_read_24 rfl (lv_at hl 0 rfl) ?_
  refine q_new (fs := [.int 0, .int 0, .int 0, .int 0, .null, .null, .null, .null, .null, .null, .null, .null]) (ci := 3) X hK hA h_4 rfl wf_3 tyX3 tyX3_ok wm_1_68 wm_1_69 wm_1_4 df_3 (Nat.le_of_ble_eq_true rfl) (Nat.le_of_ble_eq_true rfl) dX5_read_25 (fun q_5 H h_5 => ?_)
  clear h_4
  replace h_5 : qW D _ _ ([(h0, .inr (5, [.ref h1, .int (-1), .int p2, .int 0, .int (-1), (va_rf o0), .ref h5, .int p5, .int p6])), (h5, .inl (cy 1, 900, .inl f3)), (h1, .inr (8, [.ref h6, .int (u_1.2.1 0 0), .int (u_1.2.1 1 0), .ref h2, .ref h3, .ref h4])), (h2, .inl (cy 1, 901, .inl (u_1.2.1 2))), (h3, .inl (cy 1, 901, .inl (u_1.2.1 3))), (h4, .inl (cy 1, 901, .inl (u_1.2.1 4))), (h6, .inl (cy 0, 900, .inl f4)), (q_5, .inr (3, [.int 0, .int 0, .int 0, .int 0, .null, .null, .null, .null, .null, .null, .null, .null]))] ++ []) _ _ := h_5
  refine lv_dup hx hb dX5_read_28 rfl ?_
  refine q_callNv (rest := [.ref q_5, .ref h0]) (wr := (wk_b3fee32c6 cy h0 h1 (-1) p2 0 (-1) o0 h5 p5 p6 h5 f3 h1 h6 (u_1.2.1 0 0) (u_1.2.1 1 0) h2 h3 h4 h2 (u_1.2.1 2) h3 (u_1.2.1 3) h4 (u_1.2.1 4) h6 f4)) X hK hT hA h_5 (fun sz => gX3_init_51a17bc l D cy q_5 (0 : Int32) (0 : Int32) (0 : Int32) (0 : Int32) Value.null ⟨by decide +kernel, by decide +kernel⟩ ⟨by decide +kernel, by decide +kernel⟩ ⟨by decide +kernel, by decide +kernel⟩ ⟨by decide +kernel, by decide +kernel⟩ sz) (List.mem_of_getElem? (i := 8) rfl) wm_1_72 wm_1_4 hd_X3_init wm_1_71 rfl ⟨Nat.le_of_ble_eq_true rfl, Nat.le_of_ble_eq_true rfl⟩ hl.1 rfl (Nat.le_of_ble_eq_true rfl) dX5_read_29 ⟨Nat.le_of_ble_eq_true rfl, Nat.le_of_ble_eq_true rfl⟩ [7] [0, 1, 2, 3, 4, 5, 6] rfl rfl (by decide) rfl rfl (fun u_6 H locs w_6 h_6 => ?_)
  clear h_5
  obtain ⟨w6_0, w6_1, w6_2, w6_3, _⟩ := w_6
  replace h_6 : qW D _ _ ([(h0, .inr (5, [.ref h1, .int (-1), .int p2, .int 0, .int (-1), (va_rf o0), .ref h5, .int p5, .int p6])), (h5, .inl (cy 1, 900, .inl f3)), (h1, .inr (8, [.ref h6, .int (u_1.2.1 0 0), .int (u_1.2.1 1 0), .ref h2, .ref h3, .ref h4])), (h2, .inl (cy 1, 901, .inl (u_1.2.1 2))), (h3, .inl (cy 1, 901, .inl (u_1.2.1 3))), (h4, .inl (cy 1, 901, .inl (u_1.2.1 4))), (h6, .inl (cy 0, 900, .inl f4)), (q_5, .inr (3, [.int (u_6.2.1 0 0), .int (u_6.2.1 1 0), .int (u_6.2.1 2 0), .int (u_6.2.1 3 0), .null, .null, .null, .ref (u_6.1 0), .ref (u_6.1 1), .ref (u_6.1 2), .ref (u_6.1 3), .ref (u_6.1 4)])), ((u_6.1 0), .inl (cy 1, 10, .inl (fun _ => 0))), ((u_6.1 1), .inl (cy 1, 10, .inl (fun _ => 0))), ((u_6.1 2), .inl (cy 1, 10, .inl (fun _ => 0))), ((u_6.1 3), .inl (cy 1, 10, .inl (fun _ => 0))), ((u_6.1 4), .inl (cy 1, 10, .inl (fun _ => 0)))] ++ []) _ _ := h_6
  refine q_put (v := .ref q_5) X hK h_6 0 rfl rfl wf_5 tyX5 tyX5_ok nmX5 5 (by decide) wm_1_151 rfl rfl rfl (Nat.le_of_ble_eq_true rfl) dX5_read_32 (fun H locs h_7 => ?_)
  clear h_6
  replace h_7 : qW D _ _ ([(h0, .inr (5, [.ref h1, .int (-1), .int p2, .int 0, .int (-1), .ref q_5, .ref h5, .int p5, .int p6])), (h5, .inl (cy 1, 900, .inl f3)), (h1, .inr (8, [.ref h6, .int (u_1.2.1 0 0), .int (u_1.2.1 1 0), .ref h2, .ref h3, .ref h4])), (h2, .inl (cy 1, 901, .inl (u_1.2.1 2))), (h3, .inl (cy 1, 901, .inl (u_1.2.1 3))), (h4, .inl (cy 1, 901, .inl (u_1.2.1 4))), (h6, .inl (cy 0, 900, .inl f4)), (q_5, .inr (3, [.int (u_6.2.1 0 0), .int (u_6.2.1 1 0), .int (u_6.2.1 2 0), .int (u_6.2.1 3 0), .null, .null, .null, .ref (u_6.1 0), .ref (u_6.1 1), .ref (u_6.1 2), .ref (u_6.1 3), .ref (u_6.1 4)])), ((u_6.1 0), .inl (cy 1, 10, .inl (fun _ => 0))), ((u_6.1 1), .inl (cy 1, 10, .inl (fun _ => 0))), ((u_6.1 2), .inl (cy 1, 10, .inl (fun _ => 0))), ((u_6.1 3), .inl (cy 1, 10, .inl (fun _ => 0))), ((u_6.1 4), .inl (cy 1, 10, .inl (fun _ => 0)))] ++ []) _ _ := h_7
  have lm_1 : ((-1) : Int32).toInt = -1 := by decide
  have lm_0 : (0 : Int32).toInt = 0 := by decide
  refine lv_aload_n hx hb dX5_read_35 rfl (lv_at hl 0 rfl) ?_
  refine q_callVvT (rest := []) (wr := (wk_ec5c743af cy h5 f3 h4 (u_1.2.1 4) h6 f4 q_5 (u_6.2.1 0 0) (u_6.2.1 1 0) (u_6.2.1 2 0) (u_6.2.1 3 0) (u_6.1 0) (u_6.1 1) (u_6.1 2) (u_6.1 3) (u_6.1 4) (u_6.1 0) (fun _ => 0) (u_6.1 1) (fun _ => 0) (u_6.1 2) (fun _ => 0) (u_6.1 3) (fun _ => 0) (u_6.1 4) (fun _ => 0))) X hK hT hA h_7 (fun sz => gX5_advance_9820dfe l D cy h0 h1 h2 h3 ((-1) : Int32) p2 (0 : Int32) ((-1) : Int32) (.ref q_5) (.ref h5) p5 p6 (.ref h6) (u_1.2.1 0 0) (u_1.2.1 1 0) (.ref h4) (u_1.2.1 2) (u_1.2.1 3) ⟨by decide +kernel, by decide +kernel⟩ (i_rng _) (i_rng _) (i_rng _) hp5 (i_rng _) w1_0 w1_1 (y1_1) (by have q0 : (0 : Int32).toInt = 0 := (by decide); omega) (by have q0 : ((-1) : Int32).toInt = -1 := (by decide); have q1 : (0 : Int32).toInt = 0 := (by decide); omega) sz) wm_3_68 wm_3_71 wm_1_2 hd_X5_advance wm_3_70 wp_1_8 (ci := 5) (q0 := 0) rfl rfl ⟨Nat.le_of_ble_eq_true rfl, Nat.le_of_ble_eq_true rfl⟩ hl.1 rfl (Nat.le_of_ble_eq_true rfl) dX5_read_36 ⟨Nat.le_of_ble_eq_true rfl, Nat.le_of_ble_eq_true rfl⟩ [0, 2, 3, 4] [1, 5, 6, 7, 8, 9, 10, 11, 12] rfl rfl (by decide) rfl rfl (fun u_8 H locs w_8 h_8 => ?_)
  clear h_7
  obtain ⟨w8_0, w8_1, w8_2, w8_3, y8_0, y8_1, y8_2, y8_3, y8_4, y8_5, _⟩ := w_8
  have lz_8_m1 : ((-1) : Int32).toInt = (-1) := (by decide)
  have lz_8_0 : (0 : Int32).toInt = 0 := (by decide)
  replace h_8 : qW D _ _ ((wk_3cb20a52e cy h5 f3 h4 (u_1.2.1 4) h6 f4 q_5 (u_6.2.1 0 0) (u_6.2.1 1 0) (u_6.2.1 2 0) (u_6.2.1 3 0) (u_6.1 0) (u_6.1 1) (u_6.1 2) (u_6.1 3) (u_6.1 4) (u_6.1 0) (fun _ => 0) (u_6.1 1) (fun _ => 0) (u_6.1 2) (fun _ => 0) (u_6.1 3) (fun _ => 0) (u_6.1 4) (fun _ => 0) h0 h1 (u_8.2.1 0 0) (u_8.2.1 1 0) (u_8.2.1 2 0) (u_8.2.1 3 0) q_5 h5 p5 p6 h1 h6 (u_1.2.1 0 0) (u_1.2.1 1 0) h2 h3 h4 h2 (u_1.2.1 2) h3 (u_1.2.1 3)) ++ []) _ _ := h_8
  refine lv_aload_n hx hb dX5_read_39 rfl (lv_at hl 0 rfl) ?_
  refine lv_bipush (v := 11) hx hb dX5_read_40 (by decide) ?_
  refine q_callVvT (rest := []) (wr := (wk_ec5c743af cy h5 f3 h4 (u_1.2.1 4) h6 f4 q_5 (u_6.2.1 0 0) (u_6.2.1 1 0) (u_6.2.1 2 0) (u_6.2.1 3 0) (u_6.1 0) (u_6.1 1) (u_6.1 2) (u_6.1 3) (u_6.1 4) (u_6.1 0) (fun _ => 0) (u_6.1 1) (fun _ => 0) (u_6.1 2) (fun _ => 0) (u_6.1 3) (fun _ => 0) (u_6.1 4) (fun _ => 0))) X hK hT hA h_8 (fun sz => gX5_take_b81c5b0 l D cy h0 h1 h2 h3 (u_8.2.1 0 0) (u_8.2.1 1 0) (u_8.2.1 2 0) (u_8.2.1 3 0) (.ref q_5) (.ref h5) p5 p6 (.ref h6) (u_1.2.1 0 0) (u_1.2.1 1 0) (.ref h4) (u_1.2.1 2) (u_1.2.1 3) w8_0 (i_rng _) (i_rng _) (i_rng _) hp5 (i_rng _) w1_0 w1_1 (y1_1) (y8_0) (by (first | (clear y8_1 y8_2 y8_4 y8_5; omega) | omega)) (y8_5) (by have q0 : (11 : Int32).toInt = 11 := (by decide); (first | (clear y8_1 y8_2 y8_4 y8_5; omega) | omega)) sz) wm_3_72 wm_3_75 wm_1_2 hd_X5_take wm_3_74 wp_1_9 (ci := 5) (q0 := 0) rfl rfl ⟨Nat.le_of_ble_eq_true rfl, Nat.le_of_ble_eq_true rfl⟩ hl.1 rfl (Nat.le_of_ble_eq_true rfl) dX5_read_42 ⟨Nat.le_of_ble_eq_true rfl, Nat.le_of_ble_eq_true rfl⟩ [9, 10, 11, 12] [0, 1, 2, 3, 4, 5, 6, 7, 8] rfl rfl (by decide) rfl rfl (fun u_9 H locs w_9 h_9 => ?_)
  clear h_8
  obtain ⟨w9_0, w9_1, w9_2, w9_3, y9_0, y9_1, y9_2, y9_3, y9_4, y9_5, _⟩ := w_9
  have lq_9_1 : (11 : Int32).toInt = 11 := (by decide)
  replace h_9 : qW D _ _ ((wk_3cb20a52e cy h5 f3 h4 (u_1.2.1 4) h6 f4 q_5 (u_6.2.1 0 0) (u_6.2.1 1 0) (u_6.2.1 2 0) (u_6.2.1 3 0) (u_6.1 0) (u_6.1 1) (u_6.1 2) (u_6.1 3) (u_6.1 4) (u_6.1 0) (fun _ => 0) (u_6.1 1) (fun _ => 0) (u_6.1 2) (fun _ => 0) (u_6.1 3) (fun _ => 0) (u_6.1 4) (fun _ => 0) h0 h1 (u_9.2.1 3 0) (u_9.2.1 0 0) (u_9.2.1 1 0) (u_9.2.1 2 0) q_5 h5 p5 p6 h1 h6 (u_1.2.1 0 0) (u_1.2.1 1 0) h2 h3 h4 h2 (u_1.2.1 2) h3 (u_1.2.1 3)) ++ []) _ _ := h_9
  refine lv_aload_n hx hb dX5_read_45 rfl (lv_at hl 0 rfl) ?_
  refine lv_bipush (v := 12) hx hb dX5_read_46 (by decide) ?_
  refine q_callVvT (rest := []) (wr := (wk_ec5c743af cy h5 f3 h4 (u_1.2.1 4) h6 f4 q_5 (u_6.2.1 0 0) (u_6.2.1 1 0) (u_6.2.1 2 0) (u_6.2.1 3 0) (u_6.1 0) (u_6.1 1) (u_6.1 2) (u_6.1 3) (u_6.1 4) (u_6.1 0) (fun _ => 0) (u_6.1 1) (fun _ => 0) (u_6.1 2) (fun _ => 0) (u_6.1 3) (fun _ => 0) (u_6.1 4) (fun _ => 0))) X hK hT hA h_9 (fun sz => gX5_take_b74706d l D cy h0 h1 h2 h3 (u_9.2.1 3 0) (u_9.2.1 0 0) (u_9.2.1 1 0) (u_9.2.1 2 0) (.ref q_5) (.ref h5) p5 p6 (.ref h6) (u_1.2.1 0 0) (u_1.2.1 1 0) (.ref h4) (u_1.2.1 2) (u_1.2.1 3) w9_3 (i_rng _) (i_rng _) (i_rng _) hp5 (i_rng _) w1_0 w1_1 (y1_1) (y9_0) (y9_1) (y9_4) (by have q0 : (12 : Int32).toInt = 12 := (by decide); (first | (clear y8_1 y8_2 y8_4 y8_5 y9_1 y9_2 y9_3 y9_4; omega) | omega)) sz) wm_3_72 wm_3_75 wm_1_2 hd_X5_take wm_3_74 wp_1_9 (ci := 5) (q0 := 0) rfl rfl ⟨Nat.le_of_ble_eq_true rfl, Nat.le_of_ble_eq_true rfl⟩ hl.1 rfl (Nat.le_of_ble_eq_true rfl) dX5_read_48 ⟨Nat.le_of_ble_eq_true rfl, Nat.le_of_ble_eq_true rfl⟩ [9, 10, 11, 12] [0, 1, 2, 3, 4, 5, 6, 7, 8] rfl rfl (by decide) rfl rfl (fun u_10 H locs w_10 h_10 => ?_)
  clear h_9
  obtain ⟨w10_0, w10_1, w10_2, w10_3, y10_0, y10_1, y10_2, y10_3, y10_4, y10_5, _⟩ := w_10
  have lq_10_1 : (12 : Int32).toInt = 12 := (by decide)
  replace h_10 : qW D _ _ ((wk_3cb20a52e cy h5 f3 h4 (u_1.2.1 4) h6 f4 q_5 (u_6.2.1 0 0) (u_6.2.1 1 0) (u_6.2.1 2 0) (u_6.2.1 3 0) (u_6.1 0) (u_6.1 1) (u_6.1 2) (u_6.1 3) (u_6.1 4) (u_6.1 0) (fun _ => 0) (u_6.1 1) (fun _ => 0) (u_6.1 2) (fun _ => 0) (u_6.1 3) (fun _ => 0) (u_6.1 4) (fun _ => 0) h0 h1 (u_10.2.1 3 0) (u_10.2.1 0 0) (u_10.2.1 1 0) (u_10.2.1 2 0) q_5 h5 p5 p6 h1 h6 (u_1.2.1 0 0) (u_1.2.1 1 0) h2 h3 h4 h2 (u_1.2.1 2) h3 (u_1.2.1 3)) ++ []) _ _ := h_10
  refine lv_aload_n hx hb dX5_read_51 rfl (lv_at hl 0 rfl) ?_
  refine q_get X hK h_10 9 rfl rfl wf_5 5 (by decide) rfl wm_1_151 dX5_read_52 ?_
  refine lv_aload_n hx hb dX5_read_55 rfl (lv_at hl 0 rfl) ?_
  refine lv_iconst (v := 1) hx hb dX5_read_56 (by decide) ?_
  refine lv_iconst (v := 3) hx hb dX5_read_57 (by decide) ?_
  refine q_callViT (rest := [.ref q_5]) (wr := [(h5, .inl (cy 1, 900, .inl f3)), (h6, .inl (cy 0, 900, .inl f4)), (q_5, .inr (3, [.int (u_6.2.1 0 0), .int (u_6.2.1 1 0), .int (u_6.2.1 2 0), .int (u_6.2.1 3 0), .null, .null, .null, .ref (u_6.1 0), .ref (u_6.1 1), .ref (u_6.1 2), .ref (u_6.1 3), .ref (u_6.1 4)])), ((u_6.1 0), .inl (cy 1, 10, .inl (fun _ => 0))), ((u_6.1 1), .inl (cy 1, 10, .inl (fun _ => 0))), ((u_6.1 2), .inl (cy 1, 10, .inl (fun _ => 0))), ((u_6.1 3), .inl (cy 1, 10, .inl (fun _ => 0))), ((u_6.1 4), .inl (cy 1, 10, .inl (fun _ => 0)))]) X hK hT hA h_10 (fun sz => gX5_takeNumber_68d9e2c l D cy h0 h1 h2 h3 h4 (u_10.2.1 3 0) (u_10.2.1 0 0) (u_10.2.1 1 0) (u_10.2.1 2 0) (.ref q_5) (.ref h5) p5 p6 (.ref h6) (u_1.2.1 0 0) (u_1.2.1 1 0) (u_1.2.1 2) (u_1.2.1 3) (u_1.2.1 4) w10_3 (i_rng _) (i_rng _) (i_rng _) hp5 (i_rng _) w1_0 w1_1 (y1_1) (y10_0) (y10_1) (y10_4) sz) wm_3_80 wm_3_83 wm_1_2 hd_X5_takeNumber wm_3_82 wp_1_11 (ci := 5) (q0 := 0) rfl rfl ⟨Nat.le_of_ble_eq_true rfl, Nat.le_of_ble_eq_true rfl⟩ hl.1 rfl (Nat.le_of_ble_eq_true rfl) dX5_read_58 ⟨Nat.le_of_ble_eq_true rfl, Nat.le_of_ble_eq_true rfl⟩ [9, 10, 11, 12, 1] [0, 2, 3, 4, 5, 6, 7, 8] rfl rfl (by decide) rfl rfl (fun r_11 u_11 H locs w_11 h_11 => ?_)
  clear h_10
  obtain ⟨wr_11, w11_0, w11_1, w11_2, w11_3, y11_0, y11_1, y11_2, y11_3, y11_4, y11_5, _⟩ := w_11
  have lq_11_1 : (1 : Int32).toInt = 1 := (by decide)
  have lq_11_2 : (3 : Int32).toInt = 3 := (by decide)
  replace h_11 : qW D _ _ ((wk_5f6295072 cy h5 f3 h6 f4 q_5 (u_6.2.1 0 0) (u_6.2.1 1 0) (u_6.2.1 2 0) (u_6.2.1 3 0) (u_6.1 0) (u_6.1 1) (u_6.1 2) (u_6.1 3) (u_6.1 4) (u_6.1 0) (fun _ => 0) (u_6.1 1) (fun _ => 0) (u_6.1 2) (fun _ => 0) (u_6.1 3) (fun _ => 0) (u_6.1 4) (fun _ => 0) h0 h1 (u_11.2.1 0 0) (u_11.2.1 1 0) (u_11.2.1 2 0) (u_11.2.1 3 0) q_5 h5 p5 p6 h1 h6 (u_1.2.1 0 0) (u_1.2.1 1 0) h2 h3 h4 h2 (u_1.2.1 2) h3 (u_1.2.1 3) h4 (u_1.2.1 4)) ++ []) _ _ := h_11
  refine q_put (v := .int r_11) X hK h_11 2 rfl rfl wf_3 tyX3 tyX3_ok nmX3 0 (by decide) wm_1_76 rfl rfl rfl (Nat.le_of_ble_eq_true rfl) dX5_read_61 (fun H locs h_12 => ?_)
  clear h_11
  replace h_12 : qW D _ _ ((wk_5f6295072 cy h5 f3 h6 f4 q_5 r_11 (u_6.2.1 1 0) (u_6.2.1 2 0) (u_6.2.1 3 0) (u_6.1 0) (u_6.1 1) (u_6.1 2) (u_6.1 3) (u_6.1 4) (u_6.1 0) (fun _ => 0) (u_6.1 1) (fun _ => 0) (u_6.1 2) (fun _ => 0) (u_6.1 3) (fun _ => 0) (u_6.1 4) (fun _ => 0) h0 h1 (u_11.2.1 0 0) (u_11.2.1 1 0) (u_11.2.1 2 0) (u_11.2.1 3 0) q_5 h5 p5 p6 h1 h6 (u_1.2.1 0 0) (u_1.2.1 1 0) h2 h3 h4 h2 (u_1.2.1 2) h3 (u_1.2.1 3) h4 (u_1.2.1 4)) ++ []) _ _ := h_12
  refine lv_aload_n hx hb dX5_read_64 rfl (lv_at hl 0 rfl) ?_
  refine lv_bipush (v := 59) hx hb dX5_read_65 (by decide) ?_
  refine q_callVvT (rest := []) (wr := [(h5, .inl (cy 1, 900, .inl f3)), (h6, .inl (cy 0, 900, .inl f4)), (q_5, .inr (3, [.int r_11, .int (u_6.2.1 1 0), .int (u_6.2.1 2 0), .int (u_6.2.1 3 0), .null, .null, .null, .ref (u_6.1 0), .ref (u_6.1 1), .ref (u_6.1 2), .ref (u_6.1 3), .ref (u_6.1 4)])), ((u_6.1 0), .inl (cy 1, 10, .inl (fun _ => 0))), ((u_6.1 1), .inl (cy 1, 10, .inl (fun _ => 0))), ((u_6.1 2), .inl (cy 1, 10, .inl (fun _ => 0))), ((u_6.1 3), .inl (cy 1, 10, .inl (fun _ => 0))), ((u_6.1 4), .inl (cy 1, 10, .inl (fun _ => 0))), (h4, .inl (cy 1, 901, .inl (u_1.2.1 4)))]) X hK hT hA h_12 (fun sz => gX5_take_4365b58 l D cy h0 h1 h2 h3 (u_11.2.1 0 0) (u_11.2.1 1 0) (u_11.2.1 2 0) (u_11.2.1 3 0) (.ref q_5) (.ref h5) p5 p6 (.ref h6) (u_1.2.1 0 0) (u_1.2.1 1 0) (.ref h4) (u_1.2.1 2) (u_1.2.1 3) w11_0 (i_rng _) (i_rng _) (i_rng _) hp5 (i_rng _) w1_0 w1_1 (y1_1) (y11_0) (y11_1) (y11_4) (by have q0 : (59 : Int32).toInt = 59 := (by decide); (first | (clear y8_1 y8_2 y8_4 y8_5 y9_1 y9_2 y9_3 y9_4 y10_1 y10_2 y10_3 y10_4 y11_1 y11_2 y11_3 y11_4; omega) | omega)) sz) wm_3_72 wm_3_75 wm_1_2 hd_X5_take wm_3_74 wp_1_9 (ci := 5) (q0 := 0) rfl rfl ⟨Nat.le_of_ble_eq_true rfl, Nat.le_of_ble_eq_true rfl⟩ hl.1 rfl (Nat.le_of_ble_eq_true rfl) dX5_read_67 ⟨Nat.le_of_ble_eq_true rfl, Nat.le_of_ble_eq_true rfl⟩ [8, 9, 10, 11] [0, 1, 2, 3, 4, 5, 6, 7, 12] rfl rfl (by decide) rfl rfl (fun u_13 H locs w_13 h_13 => ?_)
  clear h_12
  obtain ⟨w13_0, w13_1, w13_2, w13_3, y13_0, y13_1, y13_2, y13_3, y13_4, y13_5, _⟩ := w_13
  have lq_13_1 : (59 : Int32).toInt = 59 := (by decide)
  replace h_13 : qW D _ _ ((wk_705940f6f cy h5 f3 h6 f4 q_5 r_11 (u_6.2.1 1 0) (u_6.2.1 2 0) (u_6.2.1 3 0) (u_6.1 0) (u_6.1 1) (u_6.1 2) (u_6.1 3) (u_6.1 4) (u_6.1 0) (fun _ => 0) (u_6.1 1) (fun _ => 0) (u_6.1 2) (fun _ => 0) (u_6.1 3) (fun _ => 0) (u_6.1 4) (fun _ => 0) h4 (u_1.2.1 4) h0 h1 (u_13.2.1 3 0) (u_13.2.1 0 0) (u_13.2.1 1 0) (u_13.2.1 2 0) q_5 h5 p5 p6 h1 h6 (u_1.2.1 0 0) (u_1.2.1 1 0) h2 h3 h4 h2 (u_1.2.1 2) h3 (u_1.2.1 3)) ++ []) _ _ := h_13
  refine lv_aload_n hx hb dX5_read_70 rfl (lv_at hl 0 rfl) ?_
  refine q_get X hK h_13 9 rfl rfl wf_5 5 (by decide) rfl wm_1_151 dX5_read_71 ?_
  refine lv_iconst (v := 1) hx hb dX5_read_74 (by decide) ?_
  refine q_put (v := .int 1) X hK h_13 2 rfl rfl wf_3 tyX3 tyX3_ok nmX3 2 (by decide) wm_1_88 rfl rfl rfl (Nat.le_of_ble_eq_true rfl) dX5_read_75 (fun H locs h_14 => ?_)
  clear h_13
  replace h_14 : qW D _ _ ((wk_705940f6f cy h5 f3 h6 f4 q_5 r_11 (u_6.2.1 1 0) 1 (u_6.2.1 3 0) (u_6.1 0) (u_6.1 1) (u_6.1 2) (u_6.1 3) (u_6.1 4) (u_6.1 0) (fun _ => 0) (u_6.1 1) (fun _ => 0) (u_6.1 2) (fun _ => 0) (u_6.1 3) (fun _ => 0) (u_6.1 4) (fun _ => 0) h4 (u_1.2.1 4) h0 h1 (u_13.2.1 3 0) (u_13.2.1 0 0) (u_13.2.1 1 0) (u_13.2.1 2 0) q_5 h5 p5 p6 h1 h6 (u_1.2.1 0 0) (u_1.2.1 1 0) h2 h3 h4 h2 (u_1.2.1 2) h3 (u_1.2.1 3)) ++ []) _ _ := h_14
  refine lv_iconst (v := 0) hx hb dX5_read_78 (by decide) ?_
  refine lv_istore_n (lv' := [(3, .int 0), (0, .ref h0), (1, .ref h6), (2, .int p0)]) hx hb dX5_read_79 rfl hl (by decide) rfl (fun ls_15 hl_15 => ?_)
  clear hl
  refine W.widen (show 6 ≤ (6 + 2 * ((0 : Int32)).toInt.toNat) by decide) (show 62 ≤ (62 + 901 * ((0 : Int32)).toInt.toNat) by decide) (q_wlS (fun (q : Int32 × Int32 × Int32 × Int32 × Option Nat × Option Nat × Option Nat × Int32 × Int32 × Int32 × Int32 × Int32 × Int32) H locs ls => match q with | (v80_16_0, v80_16_1, v80_16_2, v80_16_3, v80_16_4, v80_16_5, v80_16_6, v80_16_13, v80_16_14, v80_16_15, v80_16_16, v80_16_17, v80_16_18) => ∃ v80_16_7 : Nat → Int32, ∃ v80_16_8 : Nat → Int32, ∃ v80_16_9 : Nat → Int32, ∃ v80_16_10 : Nat → Int32, ∃ v80_16_11 : Nat → Int32, ∃ v80_16_12 : Nat → Int32, ∃ v80_16_19 : va_W, (0 ≤ (v80_16_0).toInt ∧ (v80_16_0).toInt ≤ 901) ∧ (0 ≤ (v80_16_1).toInt ∧ (v80_16_1).toInt ≤ 10) ∧ ((-2147483648) ≤ (v80_16_2).toInt ∧ (v80_16_2).toInt ≤ 2147483647) ∧ ((-2147483648) ≤ (v80_16_3).toInt ∧ (v80_16_3).toInt ≤ 2147483647) ∧ (0 ≤ (v80_16_13).toInt ∧ (v80_16_13).toInt ≤ 900) ∧ ((-2147483648) ≤ (v80_16_14).toInt ∧ (v80_16_14).toInt ≤ 2147483647) ∧ ((-2147483648) ≤ (v80_16_15).toInt ∧ (v80_16_15).toInt ≤ 2147483647) ∧ ((-2147483648) ≤ (v80_16_16).toInt ∧ (v80_16_16).toInt ≤ 2147483647) ∧ (0 ≤ (v80_16_17).toInt ∧ (v80_16_17).toInt ≤ 900) ∧ ((-2147483648) ≤ (v80_16_18).toInt ∧ (v80_16_18).toInt ≤ 2147483647) ∧ RG v80_16_7 10 0 999 ∧ (KZ (u_1.2.1 2) ((u_1.2.1 1 0) : Int32).toInt) ∧ (0 ≤ (v80_16_13 : Int32).toInt ∧ (v80_16_13 : Int32).toInt < ((u_1.2.1 1 0) : Int32).toInt) ∧ ((v80_16_15 : Int32).toInt ≠ 0 ∨ (v80_16_14 : Int32).toInt = 26 ∨ (v80_16_14 : Int32).toInt = 27 ∨ (v80_16_13 : Int32).toInt + 1 < ((u_1.2.1 1 0) : Int32).toInt) ∧ ((v80_16_15 : Int32).toInt = 0 ∨ (v80_16_14 : Int32).toInt = 27) ∧ (2 * (v80_16_0 : Int32).toInt ≤ (v80_16_13 : Int32).toInt ∨ ((v80_16_15 : Int32).toInt ≠ 0 ∧ 2 * (v80_16_0 : Int32).toInt ≤ (v80_16_13 : Int32).toInt + 2)) ∧ (LI cy v80_16_19 (va_rf v80_16_4) (va_rf v80_16_5) (va_rf v80_16_6)) ∧ qW D (va_A (wk_f120e8fa4 cy h0 h1 p1 p2 p3 p4 o0 h5 p5 p6 h1 o1 p7 p8 h2 h3 h4 h2 f0 h3 f1 h4 f2 h5 f3 h6 f4) sz) s.heap ((wk_8ccb92c0e cy h5 v80_16_12 h6 f4 q_5 r_11 v80_16_1 v80_16_2 v80_16_3 v80_16_4 v80_16_5 v80_16_6 (u_6.1 0) (u_6.1 1) (u_6.1 2) (u_6.1 3) (u_6.1 4) (u_6.1 0) v80_16_7 (u_6.1 1) v80_16_8 (u_6.1 2) v80_16_9 (u_6.1 3) v80_16_10 (u_6.1 4) v80_16_11 h4 (u_1.2.1 4) h0 h1 v80_16_13 v80_16_14 v80_16_15 v80_16_16 q_5 h5 v80_16_17 v80_16_18 h1 h6 (u_1.2.1 0 0) (u_1.2.1 1 0) h2 h3 h4 h2 (u_1.2.1 2) h3 (u_1.2.1 3)) ++ v80_16_19) H locs ∧ lv_has ls 4 [(0, .ref h0), (1, .ref h6), (2, .int p0), (3, .int v80_16_0)]) (fun (q : Int32 × Int32 × Int32 × Int32 × Option Nat × Option Nat × Option Nat × Int32 × Int32 × Int32 × Int32 × Int32 × Int32) => match q with | (v80_16_0, v80_16_1, v80_16_2, v80_16_3, v80_16_4, v80_16_5, v80_16_6, v80_16_13, v80_16_14, v80_16_15, v80_16_16, v80_16_17, v80_16_18) => (902 - (v80_16_0).toInt).toNat) (fun (q : Int32 × Int32 × Int32 × Int32 × Option Nat × Option Nat × Option Nat × Int32 × Int32 × Int32 × Int32 × Int32 × Int32) => match q with | (v80_16_0, v80_16_1, v80_16_2, v80_16_3, v80_16_4, v80_16_5, v80_16_6, v80_16_13, v80_16_14, v80_16_15, v80_16_16, v80_16_17, v80_16_18) => (6 + 2 * (v80_16_0).toInt.toNat)) (fun (q : Int32 × Int32 × Int32 × Int32 × Option Nat × Option Nat × Option Nat × Int32 × Int32 × Int32 × Int32 × Int32 × Int32) => match q with | (v80_16_0, v80_16_1, v80_16_2, v80_16_3, v80_16_4, v80_16_5, v80_16_6, v80_16_13, v80_16_14, v80_16_15, v80_16_16, v80_16_17, v80_16_18) => (62 + 901 * (v80_16_0).toInt.toNat)) (fun q_80 ih_80 H locs ls hP => ?_) (0, (u_6.2.1 1 0), 1, (u_6.2.1 3 0), none, none, none, (u_13.2.1 3 0), (u_13.2.1 0 0), (u_13.2.1 1 0), (u_13.2.1 2 0), p5, p6) ⟨(fun _ => 0), (fun _ => 0), (fun _ => 0), (fun _ => 0), (fun _ => 0), f3, [], ⟨by decide +kernel, by decide +kernel⟩, (bw w6_1 (by decide) (by decide)), ⟨by decide +kernel, by decide +kernel⟩, (bw w6_3 (by decide) (by decide)), ⟨by omega, by omega⟩, w13_0, w13_1, w13_2, hp5, hp6, (rg_zero _ (by decide) (by decide)), (y1_1), (y13_0), (y13_1), (y13_4), (by have q0 : (0 : Int32).toInt = 0 := (by decide); (first | (clear y8_1 y8_2 y8_4 y8_5 y9_1 y9_2 y9_3 y9_4 y10_1 y10_2 y10_3 y10_4 y11_1 y11_2 y11_3 y11_4 y13_1 y13_2 y13_3 y13_4; omega) | omega)), (li_0), h_14, (lv_sub hl_15 [1, 2, 3, 0] rfl)⟩)
  obtain ⟨v80_16_0, v80_16_1, v80_16_2, v80_16_3, v80_16_4, v80_16_5, v80_16_6, v80_16_13, v80_16_14, v80_16_15, v80_16_16, v80_16_17, v80_16_18⟩ := q_80
  obtain ⟨v80_16_7, v80_16_8, v80_16_9, v80_16_10, v80_16_11, v80_16_12, v80_16_19, hv80_16_0, hv80_16_1, hv80_16_2, hv80_16_3, hv80_16_13, hv80_16_14, hv80_16_15, hv80_16_16, hv80_16_17, hv80_16_18, rv80_16_7, x17_0, x18_1, x19_2, x20_3, x21_4, x22_5, h, hl⟩ := hP
  show W p l e _ s m _ below meth c H locs ((6 + 2 * (v80_16_0).toInt.toNat)) ((62 + 901 * (v80_16_0).toInt.toNat)) _ _
  refine lv_iload_n hx hb dX5_read_80 rfl (lv_at hl 3 rfl) ?_
  refine lv_aload_n hx hb dX5_read_81 rfl (lv_at hl 0 rfl) ?_
  refine q_get X hK h 9 rfl rfl wf_5 0 (by decide) rfl wm_1_144 dX5_read_82 ?_
  refine q_get X hK h 10 rfl rfl wf_8 2 (by decide) rfl wm_1_46 dX5_read_85 ?_
  refine q_jn (pc2 := 138) (fun H locs ls st => st = [] ∧ qW D (va_A (wk_f120e8fa4 cy h0 h1 p1 p2 p3 p4 o0 h5 p5 p6 h1 o1 p7 p8 h2 h3 h4 h2 f0 h3 f1 h4 f2 h5 f3 h6 f4) sz) s.heap ((wk_8ccb92c0e cy h5 v80_16_12 h6 f4 q_5 r_11 v80_16_1 v80_16_2 v80_16_3 v80_16_4 v80_16_5 v80_16_6 (u_6.1 0) (u_6.1 1) (u_6.1 2) (u_6.1 3) (u_6.1 4) (u_6.1 0) v80_16_7 (u_6.1 1) v80_16_8 (u_6.1 2) v80_16_9 (u_6.1 3) v80_16_10 (u_6.1 4) v80_16_11 h4 (u_1.2.1 4) h0 h1 v80_16_13 v80_16_14 v80_16_15 v80_16_16 q_5 h5 v80_16_17 v80_16_18 h1 h6 (u_1.2.1 0 0) (u_1.2.1 1 0) h2 h3 h4 h2 (u_1.2.1 2) h3 (u_1.2.1 3)) ++ v80_16_19) H locs ∧ lv_has ls 4 [(0, .ref h0), (1, .ref h6), (2, .int p0), (3, .int v80_16_0)]) (fun H locs ls st hP => ?_) (fun J_138 => ?_)
  · obtain ⟨rfl, h, hl⟩ := hP
    refine lv_aload_n hx hb dX5_read_138 rfl (lv_at hl 0 rfl) ?_
    refine q_get X hK h 9 rfl rfl wf_5 5 (by decide) rfl wm_1_151 dX5_read_139 ?_
    exact q_qretW X hr hlk hK h (some q_5) rfl [] (((vcons q_5 (vcons (u_6.1 0) (vcons (u_6.1 1) (vcons (u_6.1 2) (vcons (u_6.1 3) (vcons (u_6.1 4) (fun _ => 0))))))), (vcons v80_16_12 (vcons (u_1.2.1 4) (vcons (fun _ => v80_16_13) (vcons (fun _ => v80_16_14) (vcons (fun _ => v80_16_15) (vcons (fun _ => v80_16_16) (vcons (fun _ => v80_16_17) (vcons (fun _ => v80_16_18) (vcons (fun _ => (u_1.2.1 0 0)) (vcons (fun _ => (u_1.2.1 1 0)) (vcons (u_1.2.1 2) (vcons (u_1.2.1 3) (vcons (fun _ => r_11) (vcons (fun _ => v80_16_1) (vcons (fun _ => v80_16_2) (vcons (fun _ => v80_16_3) (vcons v80_16_7 (vcons v80_16_8 (vcons v80_16_9 (vcons v80_16_10 (vcons v80_16_11 (fun _ => (fun _ => 0))))))))))))))))))))))), fun _ _ => 0), ([] ++ v80_16_19), (vcons v80_16_4 (vcons v80_16_5 (vcons v80_16_6 (fun _ => none))))) rfl ⟨rfl, hv80_16_13, hv80_16_14, hv80_16_15, hv80_16_16, hv80_16_17, hv80_16_18, w1_0, w1_1, (⟨by omega, by omega⟩ : 1 ≤ (r_11 : Int32).toInt ∧ (r_11 : Int32).toInt ≤ 3), (⟨by omega, by omega⟩ : 0 ≤ (v80_16_1 : Int32).toInt ∧ (v80_16_1 : Int32).toInt ≤ 10), (⟨by omega, by omega⟩ : (-2147483648) ≤ (v80_16_2 : Int32).toInt ∧ (v80_16_2 : Int32).toInt ≤ 2147483647), (⟨by omega, by omega⟩ : (-2147483648) ≤ (v80_16_3 : Int32).toInt ∧ (v80_16_3 : Int32).toInt ≤ 2147483647), (rg_wide rv80_16_7 (by decide) (by decide)), x22_5, trivial⟩ [9, 10, 11, 12, 8, 0, 1, 2, 3, 4, 5, 6, 7] rfl rfl dX5_read_142 (by show (6 + 2 * (v80_16_0).toInt.toNat) ≤ ((p0).toInt.toNat + 20); omega) (by show (62 + 901 * (v80_16_0).toInt.toNat) ≤ (451 * (p0).toInt.toNat + 2000); omega)
  · skip
    refine lv_icmp_ge (tgt := 138) hx hb dX5_read_88 (by decide) (fun c_24 => ?_) (fun c_24 => ?_)
    · replace c_24 := i_le (x := (u_1.2.1 1 0)) (y := v80_16_0) rfl rfl c_24
      exact J_138 _ _ _ _ ⟨rfl, h, (lv_sub hl [0, 1, 2, 3] rfl)⟩
    · replace c_24 := i_nle (x := (u_1.2.1 1 0)) (y := v80_16_0) rfl rfl c_24
      refine lv_aload_n hx hb dX5_read_91 rfl (lv_at hl 0 rfl) ?_
      refine q_get X hK h 9 rfl rfl wf_5 2 (by decide) rfl wm_1_146 dX5_read_92 ?_
      refine lv_bipush (v := 26) hx hb dX5_read_95 (by decide) ?_
      refine lv_icmp_eq (tgt := 138) hx hb dX5_read_97 (by decide) (fun c_25 => ?_) (fun c_25 => ?_)
      · replace c_25 := i_eq (x := v80_16_14) (y := 26) rfl (show (26 : Int32).toInt = 26 by decide) c_25
        exact J_138 _ _ _ _ ⟨rfl, h, (lv_sub hl [0, 1, 2, 3] rfl)⟩
      · replace c_25 := i_ne (x := v80_16_14) (y := 26) rfl (show (26 : Int32).toInt = 26 by decide) c_25
        refine lv_aload_n hx hb dX5_read_100 rfl (lv_at hl 0 rfl) ?_
        refine q_get X hK h 9 rfl rfl wf_5 2 (by decide) rfl wm_1_146 dX5_read_101 ?_
        refine lv_bipush (v := 27) hx hb dX5_read_104 (by decide) ?_
        refine lv_icmp_eq (tgt := 138) hx hb dX5_read_106 (by decide) (fun c_26 => ?_) (fun c_26 => ?_)
        · replace c_26 := i_eq (x := v80_16_14) (y := 27) rfl (show (27 : Int32).toInt = 27 by decide) c_26
          exact J_138 _ _ _ _ ⟨rfl, h, (lv_sub hl [0, 1, 2, 3] rfl)⟩
        · replace c_26 := i_ne (x := v80_16_14) (y := 27) rfl (show (27 : Int32).toInt = 27 by decide) c_26
          refine lv_aload_n hx hb dX5_read_109 rfl (lv_at hl 0 rfl) ?_
          refine q_callVvW (rest := []) (wr := [(h6, .inl (cy 0, 900, .inl f4))]) X hK hT hA h (fun sz => gX5_readLine_ab75d68 l D cy h0 h1 h2 h3 h4 q_5 (u_6.1 0) (u_6.1 1) (u_6.1 2) (u_6.1 3) (u_6.1 4) h5 v80_16_13 v80_16_14 v80_16_15 v80_16_16 v80_16_17 v80_16_18 (.ref h6) (u_1.2.1 0 0) (u_1.2.1 1 0) (u_1.2.1 2) (u_1.2.1 3) (u_1.2.1 4) r_11 v80_16_1 v80_16_2 v80_16_3 v80_16_4 v80_16_5 v80_16_6 v80_16_7 v80_16_8 v80_16_9 v80_16_10 v80_16_11 v80_16_12 (bw hv80_16_13 (by decide) (by decide)) (i_rng _) (i_rng _) (i_rng _) hv80_16_17 (i_rng _) w1_0 w1_1 wr_11 hv80_16_1 (i_rng _) (i_rng _) (rg_wide rv80_16_7 (by decide) (by decide)) (x17_0) (x18_1) (x19_2) (x20_3) (by (first | (clear y8_1 y8_2 y8_4 y8_5 y9_1 y9_2 y9_3 y9_4 y10_1 y10_2 y10_3 y10_4 y11_1 y11_2 y11_3 y11_4 y13_1 y13_2 y13_3 y13_4 x19_2 x20_3 x21_4; omega) | omega)) sz) wm_3_84 wm_3_87 wm_1_2 hd_X5_readLine wm_3_86 wp_1_12 (ci := 5) (q0 := 0) rfl rfl ⟨Nat.le_of_ble_eq_true rfl, Nat.le_of_ble_eq_true rfl⟩ hl.1 rfl (Nat.le_of_ble_eq_true rfl) dX5_read_110 ⟨by show (6 + 2 * (v80_16_0).toInt.toNat) + 2 ≤ ((p0).toInt.toNat + 20); omega, by show (62 + 901 * (v80_16_0).toInt.toNat) + 901 ≤ (451 * (p0).toInt.toNat + 2000); omega⟩ [9, 10, 11, 12, 8, 2, 3, 4, 5, 6, 7, 0] [1] rfl rfl (by decide) rfl rfl (fun u_27 H locs w_27 h_27 => ?_)
          clear h
          obtain ⟨w27_0, w27_1, w27_2, w27_3, w27_4, w27_5, w27_6, w27_7, w27_8, y27_0, y27_1, y27_2, y27_3, y27_4, y27_5, y27_6, _⟩ := w_27
          replace h_27 : qW D _ _ ([(h6, .inl (cy 0, 900, .inl f4)), (h0, .inr (5, [.ref h1, .int (u_27.1.2.1 0 0), .int (u_27.1.2.1 1 0), .int (u_27.1.2.1 2 0), .int (u_27.1.2.1 3 0), .ref q_5, .ref h5, .int (u_27.1.2.1 4 0), .int (u_27.1.2.1 5 0)])), (h1, .inr (8, [.ref h6, .int (u_1.2.1 0 0), .int (u_1.2.1 1 0), .ref h2, .ref h3, .ref h4])), (h2, .inl (cy 1, 901, .inl (u_1.2.1 2))), (h3, .inl (cy 1, 901, .inl (u_1.2.1 3))), (h4, .inl (cy 1, 901, .inl (u_1.2.1 4))), (q_5, .inr (3, [.int r_11, .int (u_27.1.2.1 6 0), .int v80_16_2, .int (u_27.1.2.1 7 0), (va_rf (u_27.2.2 0)), (va_rf (u_27.2.2 1)), (va_rf (u_27.2.2 2)), .ref (u_6.1 0), .ref (u_6.1 1), .ref (u_6.1 2), .ref (u_6.1 3), .ref (u_6.1 4)])), ((u_6.1 0), .inl (cy 1, 10, .inl (u_27.1.2.1 8))), ((u_6.1 1), .inl (cy 1, 10, .inl (u_27.1.2.1 9))), ((u_6.1 2), .inl (cy 1, 10, .inl (u_27.1.2.1 10))), ((u_6.1 3), .inl (cy 1, 10, .inl (u_27.1.2.1 11))), ((u_6.1 4), .inl (cy 1, 10, .inl (u_27.1.2.1 12))), (h5, .inl (cy 1, 900, .inl (u_27.1.2.1 13)))] ++ (u_27.2.1 ++ v80_16_19)) _ _ := h_27
          refine lv_aload_n hx hb dX5_read_113 rfl (lv_at hl 0 rfl) ?_
          refine lv_bipush (v := 59) hx hb dX5_read_114 (by decide) ?_
          refine q_callVvT (rest := []) (wr := [(h6, .inl (cy 0, 900, .inl f4)), (h4, .inl (cy 1, 901, .inl (u_1.2.1 4))), (q_5, .inr (3, [.int r_11, .int (u_27.1.2.1 6 0), .int v80_16_2, .int (u_27.1.2.1 7 0), (va_rf (u_27.2.2 0)), (va_rf (u_27.2.2 1)), (va_rf (u_27.2.2 2)), .ref (u_6.1 0), .ref (u_6.1 1), .ref (u_6.1 2), .ref (u_6.1 3), .ref (u_6.1 4)])), ((u_6.1 0), .inl (cy 1, 10, .inl (u_27.1.2.1 8))), ((u_6.1 1), .inl (cy 1, 10, .inl (u_27.1.2.1 9))), ((u_6.1 2), .inl (cy 1, 10, .inl (u_27.1.2.1 10))), ((u_6.1 3), .inl (cy 1, 10, .inl (u_27.1.2.1 11))), ((u_6.1 4), .inl (cy 1, 10, .inl (u_27.1.2.1 12))), (h5, .inl (cy 1, 900, .inl (u_27.1.2.1 13)))]) X hK hT hA h_27 (fun sz => gX5_take_4365b58 l D cy h0 h1 h2 h3 (u_27.1.2.1 0 0) (u_27.1.2.1 1 0) (u_27.1.2.1 2 0) (u_27.1.2.1 3 0) (.ref q_5) (.ref h5) (u_27.1.2.1 4 0) (u_27.1.2.1 5 0) (.ref h6) (u_1.2.1 0 0) (u_1.2.1 1 0) (.ref h4) (u_1.2.1 2) (u_1.2.1 3) w27_0 (i_rng _) (i_rng _) (i_rng _) w27_4 (i_rng _) w1_0 w1_1 (x17_0) (y27_0) (y27_1) (y27_2) (by have q0 : (59 : Int32).toInt = 59 := (by decide); (first | (clear y8_1 y8_2 y8_4 y8_5 y9_1 y9_2 y9_3 y9_4 y10_1 y10_2 y10_3 y10_4 y11_1 y11_2 y11_3 y11_4 y13_1 y13_2 y13_3 y13_4 x19_2 x20_3 x21_4 y27_1 y27_2 y27_3 y27_5; omega) | omega)) sz) wm_3_72 wm_3_75 wm_1_2 hd_X5_take wm_3_74 wp_1_9 (ci := 5) (q0 := 0) rfl rfl ⟨Nat.le_of_ble_eq_true rfl, Nat.le_of_ble_eq_true rfl⟩ hl.1 rfl (Nat.le_of_ble_eq_true rfl) dX5_read_116 ⟨by show (6 + 2 * (v80_16_0).toInt.toNat) + 2 + 0 ≤ ((p0).toInt.toNat + 20); omega, by show (62 + 901 * (v80_16_0).toInt.toNat) + 901 + 0 ≤ (451 * (p0).toInt.toNat + 2000); omega⟩ [1, 2, 3, 4] [0, 5, 6, 7, 8, 9, 10, 11, 12] rfl rfl (by decide) rfl rfl (fun u_28 H locs w_28 h_28 => ?_)
          clear h_27
          obtain ⟨w28_0, w28_1, w28_2, w28_3, y28_0, y28_1, y28_2, y28_3, y28_4, y28_5, _⟩ := w_28
          have lq_28_1 : (59 : Int32).toInt = 59 := (by decide)
          replace h_28 : qW D _ _ ((wk_7cbba6239 cy h6 f4 h4 (u_1.2.1 4) q_5 r_11 (u_27.1.2.1 6 0) v80_16_2 (u_27.1.2.1 7 0) (u_27.2.2 0) (u_27.2.2 1) (u_27.2.2 2) (u_6.1 0) (u_6.1 1) (u_6.1 2) (u_6.1 3) (u_6.1 4) (u_6.1 0) (u_27.1.2.1 8) (u_6.1 1) (u_27.1.2.1 9) (u_6.1 2) (u_27.1.2.1 10) (u_6.1 3) (u_27.1.2.1 11) (u_6.1 4) (u_27.1.2.1 12) h5 (u_27.1.2.1 13) h0 h1 (u_28.2.1 3 0) (u_28.2.1 0 0) (u_28.2.1 1 0) (u_28.2.1 2 0) q_5 h5 (u_27.1.2.1 4 0) (u_27.1.2.1 5 0) h1 h6 (u_1.2.1 0 0) (u_1.2.1 1 0) h2 h3 h4 h2 (u_1.2.1 2) h3 (u_1.2.1 3)) ++ (u_27.2.1 ++ v80_16_19)) _ _ := h_28
          refine lv_aload_n hx hb dX5_read_119 rfl (lv_at hl 0 rfl) ?_
          refine q_get X hK h_28 9 rfl rfl wf_5 5 (by decide) rfl wm_1_151 dX5_read_120 ?_
          refine lv_dup hx hb dX5_read_123 rfl ?_
          refine q_get X hK h_28 2 rfl rfl wf_3 2 (by decide) rfl wm_1_88 dX5_read_124 ?_
          refine lv_iconst (v := 1) hx hb dX5_read_127 (by decide) ?_
          refine lv_iadd hx hb dX5_read_128 ?_
          refine q_any (fun z_29 hz_29 => ?_)
          refine q_put (v := .int z_29) X hK h_28 2 rfl rfl wf_3 tyX3 tyX3_ok nmX3 2 (by decide) wm_1_88 rfl rfl rfl (Nat.le_of_ble_eq_true rfl) dX5_read_129 (fun H locs h_30 => ?_)
          clear h_28
          replace h_30 : qW D _ _ ((wk_7cbba6239 cy h6 f4 h4 (u_1.2.1 4) q_5 r_11 (u_27.1.2.1 6 0) z_29 (u_27.1.2.1 7 0) (u_27.2.2 0) (u_27.2.2 1) (u_27.2.2 2) (u_6.1 0) (u_6.1 1) (u_6.1 2) (u_6.1 3) (u_6.1 4) (u_6.1 0) (u_27.1.2.1 8) (u_6.1 1) (u_27.1.2.1 9) (u_6.1 2) (u_27.1.2.1 10) (u_6.1 3) (u_27.1.2.1 11) (u_6.1 4) (u_27.1.2.1 12) h5 (u_27.1.2.1 13) h0 h1 (u_28.2.1 3 0) (u_28.2.1 0 0) (u_28.2.1 1 0) (u_28.2.1 2 0) q_5 h5 (u_27.1.2.1 4 0) (u_27.1.2.1 5 0) h1 h6 (u_1.2.1 0 0) (u_1.2.1 1 0) h2 h3 h4 h2 (u_1.2.1 2) h3 (u_1.2.1 3)) ++ (u_27.2.1 ++ v80_16_19)) _ _ := h_30
          obtain ⟨z_31, ez_31, hz_31⟩ := e_add (x := v80_16_0) (y := Int32.ofInt 1) rfl (b := 1) (by decide) (by omega) (by omega)
          refine lv_iinc (v := z_31) (lv' := [(3, .int z_31), (0, .ref h0), (1, .ref h6), (2, .int p0)]) hx hb dX5_read_132 hl (k := 3) rfl ez_31 (by decide) rfl (fun ls_31 hl_31 => ?_)
          clear hl
          refine lv_goto (tgt := 80) hx hb dX5_read_135 (by decide) ?_
          exact W.widen (by show (6 + 2 * (v80_16_0).toInt.toNat) + 2 ≤ (6 + 2 * (z_31).toInt.toNat); omega) (by show (62 + 901 * (v80_16_0).toInt.toNat) + 901 ≤ (62 + 901 * (z_31).toInt.toNat); omega) (ih_80 (z_31, (u_27.1.2.1 6 0), z_29, (u_27.1.2.1 7 0), (u_27.2.2 0), (u_27.2.2 1), (u_27.2.2 2), (u_28.2.1 3 0), (u_28.2.1 0 0), (u_28.2.1 1 0), (u_28.2.1 2 0), (u_27.1.2.1 4 0), (u_27.1.2.1 5 0)) (by show (902 - (z_31).toInt).toNat < (902 - (v80_16_0).toInt).toNat; omega) _ _ _ ⟨(u_27.1.2.1 8), (u_27.1.2.1 9), (u_27.1.2.1 10), (u_27.1.2.1 11), (u_27.1.2.1 12), (u_27.1.2.1 13), (u_27.2.1 ++ v80_16_19), ⟨by omega, by omega⟩, w27_6, ⟨by omega, by omega⟩, w27_7, ⟨by omega, by omega⟩, w28_0, w28_1, w28_2, w27_4, w27_5, (rg_wide w27_8 (by decide) (by decide)), (x17_0), (y28_0), (y28_1), (y28_4), (cnt_s x21_4 x20_3 (by (first | assumption | (clear y8_1 y8_2 y8_4 y8_5 y9_1 y9_2 y9_3 y9_4 y10_1 y10_2 y10_3 y10_4 y11_1 y11_2 y11_3 y11_4 y13_1 y13_2 y13_3 y13_4 x19_2 x20_3 x21_4 y27_1 y27_2 y27_3 y27_5 y28_1 y28_2 y28_3 y28_4; omega) | omega)) y27_5 y27_4 y28_2 y28_5 y28_3 (by (first | assumption | (clear y8_1 y8_2 y8_4 y8_5 y9_1 y9_2 y9_3 y9_4 y10_1 y10_2 y10_3 y10_4 y11_1 y11_2 y11_3 y11_4 y13_1 y13_2 y13_3 y13_4 x19_2 x20_3 x21_4 y27_1 y27_2 y27_3 y27_5 y28_1 y28_2 y28_3 y28_4; omega) | omega))), (li_step x22_5 y27_6 h_30.2.1), (q_reT h_30 [8, 0, 2, 3, 4, 5, 6, 7, 1, 9, 10, 11, 12] rfl rfl), (lv_sub hl_31 [1, 2, 3, 0] rfl)⟩)
set_option maxHeartbeats 4000000 in
set_option maxRecDepth 100000 in
theorem gX11_putOnTape_9d88fd1 (l : Launch) (D : va_G) (cy : Nat → ClassId) (h0 : Nat) (h1 : Nat) (p0 : Int32) (p1 : Int32) (p2 : Int32) (p3 : Int32) (w0 : Value) (w1 : Value) (w2 : Value) (w3 : Value) (w4 : Value) (w5 : Value) (w6 : Value) (w7 : Value) (w8 : Value) (w9 : Value) (w10 : Value) (w11 : Value) (p4 : Int32) (f0 : Nat → Int32) (hp0 : (-2147483648) ≤ (p0).toInt ∧ (p0).toInt ≤ 2147483647) (hp1 : 0 ≤ (p1).toInt ∧ (p1).toInt ≤ 900) (hp2 : (-2147483648) ≤ (p2).toInt ∧ (p2).toInt ≤ 2147483647) (hp3 : (-2147483648) ≤ (p3).toInt ∧ (p3).toInt ≤ 2147483647) (hp4 : (-2147483648) ≤ (p4).toInt ∧ (p4).toInt ≤ 2147483647) (sz : Nat) : MV l yX11_putOnTape cX11_putOnTape 3 { frames := 0, cells := 0, slots := 0, locals := 0 } [.ref h0, .int p0] D cy (wk_a794cc59d cy h0 h1 p1 p2 p3 w0 w1 w2 w3 w4 w5 w6 w7 w8 w9 w10 w11 p4 h1 f0) sz (fun u => (4 ≤ (u.2.1 0 0).toInt ∧ (u.2.1 0 0).toInt ≤ 900) ∧ (900 < (p1 : Int32).toInt + 4 ∨ ((u.2.1 0 0) : Int32).toInt = (p1 : Int32).toInt + 4) ∧ True) (fun u => (wk_a794cc59d cy h0 h1 (u.2.1 0 0) p2 p3 w0 w1 w2 w3 w4 w5 w6 w7 w8 w9 w10 w11 p4 h1 (u.2.1 1))) 0 0 := by
  refine q_ent (own := RX11) (by decide) rfl (Nat.le_of_ble_eq_true rfl) (fun p e s m below meth c ls X hr hlk hnm hK hT h hA hl => ?_)
  obtain ⟨hx, hb, hml, hown, ht⟩ := id X
  replace hl : lv_has ls 3 [(0, .ref h0), (1, .int p0)] := hl
  refine lv_bipush (v := 24) hx hb dX11_putOnTape_0 (by decide) ?_
  refine lv_istore_n (lv' := [(2, .int 24), (0, .ref h0), (1, .int p0)]) hx hb dX11_putOnTape_2 rfl hl (by decide) rfl (fun ls_1 hl_1 => ?_)
  clear hl
  refine lv_iload_n hx hb dX11_putOnTape_3 rfl (lv_at hl_1 0 rfl) ?_
  refine lv_if_lt (tgt := 46) hx hb dX11_putOnTape_4 (by decide) (fun c => absurd c (by decide +kernel)) (fun _ => ?_)
  refine lv_aload_n hx hb dX11_putOnTape_7 rfl (lv_at hl_1 1 rfl) ?_
  refine q_get X hK h 0 rfl rfl wf_11 1 (by decide) rfl wm_2_99 dX11_putOnTape_8 ?_
  refine lv_sipush (v := 900) hx hb dX11_putOnTape_11 (by decide) ?_
  refine lv_icmp_ge (tgt := 46) hx hb dX11_putOnTape_14 (by decide) (fun c_2 => ?_) (fun c_2 => ?_)
  · replace c_2 := i_le (x := 900) (y := p1) (show (900 : Int32).toInt = 900 by decide) rfl c_2
    exact q_vret X hr hlk hK h (fun _ => 0, (vcons (fun _ => p1) (vcons f0 (fun _ => (fun _ => 0)))), fun _ _ => 0) ⟨(⟨by omega, by omega⟩ : 4 ≤ (p1 : Int32).toInt ∧ (p1 : Int32).toInt ≤ 900), (show 900 < (p1 : Int32).toInt + 4 ∨ (p1 : Int32).toInt = (p1 : Int32).toInt + 4 from by omega), trivial⟩ [0, 1] rfl rfl dX11_putOnTape_46 (Nat.le_of_ble_eq_true rfl) (Nat.le_of_ble_eq_true rfl)
  · replace c_2 := i_nle (x := 900) (y := p1) (show (900 : Int32).toInt = 900 by decide) rfl c_2
    refine lv_aload_n hx hb dX11_putOnTape_17 rfl (lv_at hl_1 1 rfl) ?_
    refine q_get X hK h 0 rfl rfl wf_11 0 (by decide) rfl wm_2_98 dX11_putOnTape_18 ?_
    refine lv_aload_n hx hb dX11_putOnTape_21 rfl (lv_at hl_1 1 rfl) ?_
    refine q_get X hK h 0 rfl rfl wf_11 1 (by decide) rfl wm_2_99 dX11_putOnTape_22 ?_
    refine lv_iload_n hx hb dX11_putOnTape_25 rfl (lv_at hl_1 2 rfl) ?_
    refine lv_iload_n hx hb dX11_putOnTape_26 rfl (lv_at hl_1 0 rfl) ?_
    refine lv_iushr hx hb dX11_putOnTape_27 rfl ?_
    refine q_any (fun z_3 hz_3 => ?_)
    refine lv_i2b hx hb dX11_putOnTape_28 rfl ?_
    obtain ⟨z_4, ez_4, hz_4⟩ := e_i2b z_3
    refine q_c z_4 ez_4 ?_
    clear ez_4
    refine q_bast X hK h 1 rfl (i_in rfl (by omega) (by omega)) dX11_putOnTape_29 (fun H locs h_6 => ?_)
    clear h
    replace h_6 : qW D _ _ (wk_a794cc59d cy h0 h1 p1 p2 p3 w0 w1 w2 w3 w4 w5 w6 w7 w8 w9 w10 w11 p4 h1 (upd f0 (Int32.toNatClampNeg p1) (vp_nar .byte z_4))) _ _ := h_6
    obtain ⟨F_5, eF_5⟩ : ∃ z, (upd f0 (Int32.toNatClampNeg p1) (vp_nar .byte z_4)) = z := ⟨_, rfl⟩
    rw [eF_5] at h_6
    clear eF_5
    refine lv_aload_n hx hb dX11_putOnTape_30 rfl (lv_at hl_1 1 rfl) ?_
    refine lv_dup hx hb dX11_putOnTape_31 rfl ?_
    refine q_get X hK h_6 0 rfl rfl wf_11 1 (by decide) rfl wm_2_99 dX11_putOnTape_32 ?_
    refine lv_iconst (v := 1) hx hb dX11_putOnTape_35 (by decide) ?_
    refine lv_iadd hx hb dX11_putOnTape_36 ?_
    obtain ⟨z_7, ez_7, hz_7⟩ := e_add (x := p1) (y := 1) rfl (show (1 : Int32).toInt = 1 by decide) (by omega) (by omega)
    refine q_c z_7 ez_7 ?_
    clear ez_7
    refine q_put (v := .int z_7) X hK h_6 0 rfl rfl wf_11 tyX11 tyX11_ok nmX11 1 (by decide) wm_2_99 rfl rfl rfl (Nat.le_of_ble_eq_true rfl) dX11_putOnTape_37 (fun H locs h_8 => ?_)
    clear h_6
    replace h_8 : qW D _ _ (wk_a794cc59d cy h0 h1 z_7 p2 p3 w0 w1 w2 w3 w4 w5 w6 w7 w8 w9 w10 w11 p4 h1 F_5) _ _ := h_8
    refine lv_iinc (v := 16) (lv' := [(2, .int 16), (0, .ref h0), (1, .int p0)]) hx hb dX11_putOnTape_40 hl_1 (k := 0) rfl (by decide +kernel) (by decide) rfl (fun ls_9 hl_9 => ?_)
    clear hl_1
    refine lv_goto (tgt := 3) hx hb dX11_putOnTape_43 (by decide) ?_
    refine lv_iload_n hx hb dX11_putOnTape_3 rfl (lv_at hl_9 0 rfl) ?_
    refine lv_if_lt (tgt := 46) hx hb dX11_putOnTape_4 (by decide) (fun c => absurd c (by decide +kernel)) (fun _ => ?_)
    refine lv_aload_n hx hb dX11_putOnTape_7 rfl (lv_at hl_9 1 rfl) ?_
    refine q_get X hK h_8 0 rfl rfl wf_11 1 (by decide) rfl wm_2_99 dX11_putOnTape_8 ?_
    refine lv_sipush (v := 900) hx hb dX11_putOnTape_11 (by decide) ?_
    refine lv_icmp_ge (tgt := 46) hx hb dX11_putOnTape_14 (by decide) (fun c_10 => ?_) (fun c_10 => ?_)
    · replace c_10 := i_le (x := 900) (y := z_7) (show (900 : Int32).toInt = 900 by decide) rfl c_10
      exact q_vret X hr hlk hK h_8 (fun _ => 0, (vcons (fun _ => z_7) (vcons F_5 (fun _ => (fun _ => 0)))), fun _ _ => 0) ⟨(⟨by omega, by omega⟩ : 4 ≤ (z_7 : Int32).toInt ∧ (z_7 : Int32).toInt ≤ 900), (show 900 < (p1 : Int32).toInt + 4 ∨ (z_7 : Int32).toInt = (p1 : Int32).toInt + 4 from by omega), trivial⟩ [0, 1] rfl rfl dX11_putOnTape_46 (Nat.le_of_ble_eq_true rfl) (Nat.le_of_ble_eq_true rfl)
    · replace c_10 := i_nle (x := 900) (y := z_7) (show (900 : Int32).toInt = 900 by decide) rfl c_10
      refine lv_aload_n hx hb dX11_putOnTape_17 rfl (lv_at hl_9 1 rfl) ?_
      refine q_get X hK h_8 0 rfl rfl wf_11 0 (by decide) rfl wm_2_98 dX11_putOnTape_18 ?_
      refine lv_aload_n hx hb dX11_putOnTape_21 rfl (lv_at hl_9 1 rfl) ?_
      refine q_get X hK h_8 0 rfl rfl wf_11 1 (by decide) rfl wm_2_99 dX11_putOnTape_22 ?_
      refine lv_iload_n hx hb dX11_putOnTape_25 rfl (lv_at hl_9 2 rfl) ?_
      refine lv_iload_n hx hb dX11_putOnTape_26 rfl (lv_at hl_9 0 rfl) ?_
      refine lv_iushr hx hb dX11_putOnTape_27 rfl ?_
      refine q_any (fun z_11 hz_11 => ?_)
      refine lv_i2b hx hb dX11_putOnTape_28 rfl ?_
      obtain ⟨z_12, ez_12, hz_12⟩ := e_i2b z_11
      refine q_c z_12 ez_12 ?_
      clear ez_12
      refine q_bast X hK h_8 1 rfl (i_in rfl (by omega) (by omega)) dX11_putOnTape_29 (fun H locs h_14 => ?_)
      clear h_8
      replace h_14 : qW D _ _ (wk_a794cc59d cy h0 h1 z_7 p2 p3 w0 w1 w2 w3 w4 w5 w6 w7 w8 w9 w10 w11 p4 h1 (upd F_5 (Int32.toNatClampNeg z_7) (vp_nar .byte z_12))) _ _ := h_14
      obtain ⟨F_13, eF_13⟩ : ∃ z, (upd F_5 (Int32.toNatClampNeg z_7) (vp_nar .byte z_12)) = z := ⟨_, rfl⟩
      rw [eF_13] at h_14
      clear eF_13
      refine lv_aload_n hx hb dX11_putOnTape_30 rfl (lv_at hl_9 1 rfl) ?_
      refine lv_dup hx hb dX11_putOnTape_31 rfl ?_
      refine q_get X hK h_14 0 rfl rfl wf_11 1 (by decide) rfl wm_2_99 dX11_putOnTape_32 ?_
      refine lv_iconst (v := 1) hx hb dX11_putOnTape_35 (by decide) ?_
      refine lv_iadd hx hb dX11_putOnTape_36 ?_
      obtain ⟨z_15, ez_15, hz_15⟩ := e_add (x := z_7) (y := 1) rfl (show (1 : Int32).toInt = 1 by decide) (by omega) (by omega)
      refine q_c z_15 ez_15 ?_
      clear ez_15
      refine q_put (v := .int z_15) X hK h_14 0 rfl rfl wf_11 tyX11 tyX11_ok nmX11 1 (by decide) wm_2_99 rfl rfl rfl (Nat.le_of_ble_eq_true rfl) dX11_putOnTape_37 (fun H locs h_16 => ?_)
      clear h_14
      replace h_16 : qW D _ _ (wk_a794cc59d cy h0 h1 z_15 p2 p3 w0 w1 w2 w3 w4 w5 w6 w7 w8 w9 w10 w11 p4 h1 F_13) _ _ := h_16
      refine lv_iinc (v := 8) (lv' := [(2, .int 8), (0, .ref h0), (1, .int p0)]) hx hb dX11_putOnTape_40 hl_9 (k := 0) rfl (by decide +kernel) (by decide) rfl (fun ls_17 hl_17 => ?_)
      clear hl_9
      refine lv_goto (tgt := 3) hx hb dX11_putOnTape_43 (by decide) ?_
      refine lv_iload_n hx hb dX11_putOnTape_3 rfl (lv_at hl_17 0 rfl) ?_
      refine lv_if_lt (tgt := 46) hx hb dX11_putOnTape_4 (by decide) (fun c => absurd c (by decide +kernel)) (fun _ => ?_)
      refine lv_aload_n hx hb dX11_putOnTape_7 rfl (lv_at hl_17 1 rfl) ?_
      refine q_get X hK h_16 0 rfl rfl wf_11 1 (by decide) rfl wm_2_99 dX11_putOnTape_8 ?_
      refine lv_sipush (v := 900) hx hb dX11_putOnTape_11 (by decide) ?_
      refine lv_icmp_ge (tgt := 46) hx hb dX11_putOnTape_14 (by decide) (fun c_18 => ?_) (fun c_18 => ?_)
      · replace c_18 := i_le (x := 900) (y := z_15) (show (900 : Int32).toInt = 900 by decide) rfl c_18
        exact q_vret X hr hlk hK h_16 (fun _ => 0, (vcons (fun _ => z_15) (vcons F_13 (fun _ => (fun _ => 0)))), fun _ _ => 0) ⟨(⟨by omega, by omega⟩ : 4 ≤ (z_15 : Int32).toInt ∧ (z_15 : Int32).toInt ≤ 900), (show 900 < (p1 : Int32).toInt + 4 ∨ (z_15 : Int32).toInt = (p1 : Int32).toInt + 4 from by omega), trivial⟩ [0, 1] rfl rfl dX11_putOnTape_46 (Nat.le_of_ble_eq_true rfl) (Nat.le_of_ble_eq_true rfl)
      · replace c_18 := i_nle (x := 900) (y := z_15) (show (900 : Int32).toInt = 900 by decide) rfl c_18
        refine lv_aload_n hx hb dX11_putOnTape_17 rfl (lv_at hl_17 1 rfl) ?_
        refine q_get X hK h_16 0 rfl rfl wf_11 0 (by decide) rfl wm_2_98 dX11_putOnTape_18 ?_
        refine lv_aload_n hx hb dX11_putOnTape_21 rfl (lv_at hl_17 1 rfl) ?_
        refine q_get X hK h_16 0 rfl rfl wf_11 1 (by decide) rfl wm_2_99 dX11_putOnTape_22 ?_
        refine lv_iload_n hx hb dX11_putOnTape_25 rfl (lv_at hl_17 2 rfl) ?_
        refine lv_iload_n hx hb dX11_putOnTape_26 rfl (lv_at hl_17 0 rfl) ?_
        refine lv_iushr hx hb dX11_putOnTape_27 rfl ?_
        refine q_any (fun z_19 hz_19 => ?_)
        refine lv_i2b hx hb dX11_putOnTape_28 rfl ?_
        obtain ⟨z_20, ez_20, hz_20⟩ := e_i2b z_19
        refine q_c z_20 ez_20 ?_
        clear ez_20
        refine q_bast X hK h_16 1 rfl (i_in rfl (by omega) (by omega)) dX11_putOnTape_29 (fun H locs h_22 => ?_)
        clear h_16
        replace h_22 : qW D _ _ (wk_a794cc59d cy h0 h1 z_15 p2 p3 w0 w1 w2 w3 w4 w5 w6 w7 w8 w9 w10 w11 p4 h1 (upd F_13 (Int32.toNatClampNeg z_15) (vp_nar .byte z_20))) _ _ := h_22
        obtain ⟨F_21, eF_21⟩ : ∃ z, (upd F_13 (Int32.toNatClampNeg z_15) (vp_nar .byte z_20)) = z := ⟨_, rfl⟩
        rw [eF_21] at h_22
        clear eF_21
        refine lv_aload_n hx hb dX11_putOnTape_30 rfl (lv_at hl_17 1 rfl) ?_
        refine lv_dup hx hb dX11_putOnTape_31 rfl ?_
        refine q_get X hK h_22 0 rfl rfl wf_11 1 (by decide) rfl wm_2_99 dX11_putOnTape_32 ?_
        refine lv_iconst (v := 1) hx hb dX11_putOnTape_35 (by decide) ?_
        refine lv_iadd hx hb dX11_putOnTape_36 ?_
        obtain ⟨z_23, ez_23, hz_23⟩ := e_add (x := z_15) (y := 1) rfl (show (1 : Int32).toInt = 1 by decide) (by omega) (by omega)
        refine q_c z_23 ez_23 ?_
        clear ez_23
        refine q_put (v := .int z_23) X hK h_22 0 rfl rfl wf_11 tyX11 tyX11_ok nmX11 1 (by decide) wm_2_99 rfl rfl rfl (Nat.le_of_ble_eq_true rfl) dX11_putOnTape_37 (fun H locs h_24 => ?_)
        clear h_22
        replace h_24 : qW D _ _ (wk_a794cc59d cy h0 h1 z_23 p2 p3 w0 w1 w2 w3 w4 w5 w6 w7 w8 w9 w10 w11 p4 h1 F_21) _ _ := h_24
        refine lv_iinc (v := 0) (lv' := [(2, .int 0), (0, .ref h0), (1, .int p0)]) hx hb dX11_putOnTape_40 hl_17 (k := 0) rfl (by decide +kernel) (by decide) rfl (fun ls_25 hl_25 => ?_)
        clear hl_17
        refine lv_goto (tgt := 3) hx hb dX11_putOnTape_43 (by decide) ?_
        refine lv_iload_n hx hb dX11_putOnTape_3 rfl (lv_at hl_25 0 rfl) ?_
        refine lv_if_lt (tgt := 46) hx hb dX11_putOnTape_4 (by decide) (fun c => absurd c (by decide +kernel)) (fun _ => ?_)
        refine lv_aload_n hx hb dX11_putOnTape_7 rfl (lv_at hl_25 1 rfl) ?_
        refine q_get X hK h_24 0 rfl rfl wf_11 1 (by decide) rfl wm_2_99 dX11_putOnTape_8 ?_
        refine lv_sipush (v := 900) hx hb dX11_putOnTape_11 (by decide) ?_
        refine lv_icmp_ge (tgt := 46) hx hb dX11_putOnTape_14 (by decide) (fun c_26 => ?_) (fun c_26 => ?_)
        · replace c_26 := i_le (x := 900) (y := z_23) (show (900 : Int32).toInt = 900 by decide) rfl c_26
          exact q_vret X hr hlk hK h_24 (fun _ => 0, (vcons (fun _ => z_23) (vcons F_21 (fun _ => (fun _ => 0)))), fun _ _ => 0) ⟨(⟨by omega, by omega⟩ : 4 ≤ (z_23 : Int32).toInt ∧ (z_23 : Int32).toInt ≤ 900), (show 900 < (p1 : Int32).toInt + 4 ∨ (z_23 : Int32).toInt = (p1 : Int32).toInt + 4 from by omega), trivial⟩ [0, 1] rfl rfl dX11_putOnTape_46 (Nat.le_of_ble_eq_true rfl) (Nat.le_of_ble_eq_true rfl)
        · replace c_26 := i_nle (x := 900) (y := z_23) (show (900 : Int32).toInt = 900 by decide) rfl c_26
          refine lv_aload_n hx hb dX11_putOnTape_17 rfl (lv_at hl_25 1 rfl) ?_
          refine q_get X hK h_24 0 rfl rfl wf_11 0 (by decide) rfl wm_2_98 dX11_putOnTape_18 ?_
          refine lv_aload_n hx hb dX11_putOnTape_21 rfl (lv_at hl_25 1 rfl) ?_
          refine q_get X hK h_24 0 rfl rfl wf_11 1 (by decide) rfl wm_2_99 dX11_putOnTape_22 ?_
          refine lv_iload_n hx hb dX11_putOnTape_25 rfl (lv_at hl_25 2 rfl) ?_
          refine lv_iload_n hx hb dX11_putOnTape_26 rfl (lv_at hl_25 0 rfl) ?_
          refine lv_iushr hx hb dX11_putOnTape_27 rfl ?_
          refine q_any (fun z_27 hz_27 => ?_)
          refine lv_i2b hx hb dX11_putOnTape_28 rfl ?_
          obtain ⟨z_28, ez_28, hz_28⟩ := e_i2b z_27
          refine q_c z_28 ez_28 ?_
          clear ez_28
          refine q_bast X hK h_24 1 rfl (i_in rfl (by omega) (by omega)) dX11_putOnTape_29 (fun H locs h_30 => ?_)
          clear h_24
          replace h_30 : qW D _ _ (wk_a794cc59d cy h0 h1 z_23 p2 p3 w0 w1 w2 w3 w4 w5 w6 w7 w8 w9 w10 w11 p4 h1 (upd F_21 (Int32.toNatClampNeg z_23) (vp_nar .byte z_28))) _ _ := h_30
          obtain ⟨F_29, eF_29⟩ : ∃ z, (upd F_21 (Int32.toNatClampNeg z_23) (vp_nar .byte z_28)) = z := ⟨_, rfl⟩
          rw [eF_29] at h_30
          clear eF_29
          refine lv_aload_n hx hb dX11_putOnTape_30 rfl (lv_at hl_25 1 rfl) ?_
          refine lv_dup hx hb dX11_putOnTape_31 rfl ?_
          refine q_get X hK h_30 0 rfl rfl wf_11 1 (by decide) rfl wm_2_99 dX11_putOnTape_32 ?_
          refine lv_iconst (v := 1) hx hb dX11_putOnTape_35 (by decide) ?_
          refine lv_iadd hx hb dX11_putOnTape_36 ?_
          obtain ⟨z_31, ez_31, hz_31⟩ := e_add (x := z_23) (y := 1) rfl (show (1 : Int32).toInt = 1 by decide) (by omega) (by omega)
          refine q_c z_31 ez_31 ?_
          clear ez_31
          refine q_put (v := .int z_31) X hK h_30 0 rfl rfl wf_11 tyX11 tyX11_ok nmX11 1 (by decide) wm_2_99 rfl rfl rfl (Nat.le_of_ble_eq_true rfl) dX11_putOnTape_37 (fun H locs h_32 => ?_)
          clear h_30
          replace h_32 : qW D _ _ (wk_a794cc59d cy h0 h1 z_31 p2 p3 w0 w1 w2 w3 w4 w5 w6 w7 w8 w9 w10 w11 p4 h1 F_29) _ _ := h_32
          refine lv_iinc (v := (-8)) (lv' := [(2, .int (-8)), (0, .ref h0), (1, .int p0)]) hx hb dX11_putOnTape_40 hl_25 (k := 0) rfl (by decide +kernel) (by decide) rfl (fun ls_33 hl_33 => ?_)
          clear hl_25
          refine lv_goto (tgt := 3) hx hb dX11_putOnTape_43 (by decide) ?_
          refine lv_iload_n hx hb dX11_putOnTape_3 rfl (lv_at hl_33 0 rfl) ?_
          refine lv_if_lt (tgt := 46) hx hb dX11_putOnTape_4 (by decide) (fun _ => ?_) (fun c => absurd c (by decide +kernel))
          exact q_vret X hr hlk hK h_32 (fun _ => 0, (vcons (fun _ => z_31) (vcons F_29 (fun _ => (fun _ => 0)))), fun _ _ => 0) ⟨(⟨by omega, by omega⟩ : 4 ≤ (z_31 : Int32).toInt ∧ (z_31 : Int32).toInt ≤ 900), (show 900 < (p1 : Int32).toInt + 4 ∨ (z_31 : Int32).toInt = (p1 : Int32).toInt + 4 from by omega), trivial⟩ [0, 1] rfl rfl dX11_putOnTape_46 (Nat.le_of_ble_eq_true rfl) (Nat.le_of_ble_eq_true rfl)
set_option maxHeartbeats 4000000 in
set_option maxRecDepth 100000 in
theorem gX11_feed_982a50c (l : Launch) (D : va_G) (cy : Nat → ClassId) (h0 : Nat) (h1 : Nat) (p0 : Int32) (p1 : Int32) (p2 : Int32) (p3 : Int32) (p4 : Int32) (p5 : Int32) (p6 : Int32) (p7 : Int32) (w0 : Value) (w1 : Value) (w2 : Value) (w3 : Value) (w4 : Value) (w5 : Value) (w6 : Value) (w7 : Value) (w8 : Value) (w9 : Value) (w10 : Value) (w11 : Value) (p8 : Int32) (f0 : Nat → Int32) (hp0 : (-2147483648) ≤ (p0).toInt ∧ (p0).toInt ≤ 2147483647) (hp1 : (-2147483648) ≤ (p1).toInt ∧ (p1).toInt ≤ 2147483647) (hp2 : (-2147483648) ≤ (p2).toInt ∧ (p2).toInt ≤ 2147483647) (hp3 : (-2147483648) ≤ (p3).toInt ∧ (p3).toInt ≤ 2147483647) (hp4 : (-2147483648) ≤ (p4).toInt ∧ (p4).toInt ≤ 2147483647) (hp5 : 0 ≤ (p5).toInt ∧ (p5).toInt ≤ 900) (hp6 : (-2147483648) ≤ (p6).toInt ∧ (p6).toInt ≤ 2147483647) (hp7 : (-2147483648) ≤ (p7).toInt ∧ (p7).toInt ≤ 2147483647) (hp8 : (-2147483648) ≤ (p8).toInt ∧ (p8).toInt ≤ 2147483647) (sz : Nat) : MI l yX11_feed cX11_feed 6 .int { frames := 1, cells := 0, slots := 0, locals := 22 } [.ref h0, .int p0, .int p1, .int p2, .int p3, .int p4] D cy (wk_a794cc59d cy h0 h1 p5 p6 p7 w0 w1 w2 w3 w4 w5 w6 w7 w8 w9 w10 w11 p8 h1 f0) sz (fun r u => ((-5) ≤ r.toInt ∧ r.toInt ≤ 900) ∧ (0 ≤ (u.2.1 0 0).toInt ∧ (u.2.1 0 0).toInt ≤ 900) ∧ (((r : Int32).toInt = -5 ∧ 900 < (p5 : Int32).toInt + 20 ∧ ((u.2.1 0 0) : Int32).toInt = (p5 : Int32).toInt) ∨ ((r : Int32).toInt = ((u.2.1 0 0) : Int32).toInt ∧ ((u.2.1 0 0) : Int32).toInt = (p5 : Int32).toInt + 20 ∧ ((u.2.1 0 0) : Int32).toInt ≤ 900)) ∧ True) (fun u => (wk_a794cc59d cy h0 h1 (u.2.1 0 0) p6 p7 w0 w1 w2 w3 w4 w5 w6 w7 w8 w9 w10 w11 p8 h1 (u.2.1 1))) 0 0 := by
  refine q_ent (own := RX11) (by decide) rfl (Nat.le_of_ble_eq_true rfl) (fun p e s m below meth c ls X hr hlk hnm hK hT h hA hl => ?_)
  obtain ⟨hx, hb, hml, hown, ht⟩ := id X
  replace hl : lv_has ls 6 [(0, .ref h0), (1, .int p0), (2, .int p1), (3, .int p2), (4, .int p3), (5, .int p4)] := hl
  refine lv_aload_n hx hb dX11_feed_0 rfl (lv_at hl 0 rfl) ?_
  refine q_get X hK h 0 rfl rfl wf_11 1 (by decide) rfl wm_2_99 dX11_feed_1 ?_
  refine lv_bipush (v := 20) hx hb dX11_feed_4 (by decide) ?_
  refine lv_iadd hx hb dX11_feed_6 ?_
  obtain ⟨z_1, ez_1, hz_1⟩ := e_add (x := p5) (y := 20) rfl (show (20 : Int32).toInt = 20 by decide) (by omega) (by omega)
  refine q_c z_1 ez_1 ?_
  clear ez_1
  refine lv_sipush (v := 900) hx hb dX11_feed_7 (by decide) ?_
  refine lv_icmp_le (tgt := 16) hx hb dX11_feed_10 (by decide) (fun c_2 => ?_) (fun c_2 => ?_)
  · replace c_2 := i_le (x := z_1) (y := 900) rfl (show (900 : Int32).toInt = 900 by decide) c_2
    refine lv_aload_n hx hb dX11_feed_16 rfl (lv_at hl 0 rfl) ?_
    refine lv_iload_n hx hb dX11_feed_17 rfl (lv_at hl 1 rfl) ?_
    refine q_callVv (rest := []) (wr := []) X hK hT hA h (fun sz => gX11_putOnTape_9d88fd1 l D cy h0 h1 p0 p5 p6 p7 w0 w1 w2 w3 w4 w5 w6 w7 w8 w9 w10 w11 p8 f0 (i_rng _) hp5 (i_rng _) (i_rng _) (i_rng _) sz) wm_2_154 wm_2_157 wm_1_1 hd_X11_putOnTape wm_2_156 wp_1_0 (ci := 11) (q0 := 0) rfl rfl ⟨Nat.le_of_ble_eq_true rfl, Nat.le_of_ble_eq_true rfl⟩ hl.1 rfl (Nat.le_of_ble_eq_true rfl) dX11_feed_18 ⟨Nat.le_of_ble_eq_true rfl, Nat.le_of_ble_eq_true rfl⟩ [0, 1] [] rfl rfl (by decide) rfl rfl (fun u_3 H locs w_3 h_3 => ?_)
    clear h
    obtain ⟨w3_0, y3_0, _⟩ := w_3
    replace h_3 : qW D _ _ (wk_a794cc59d cy h0 h1 (u_3.2.1 0 0) p6 p7 w0 w1 w2 w3 w4 w5 w6 w7 w8 w9 w10 w11 p8 h1 (u_3.2.1 1)) _ _ := h_3
    refine lv_aload_n hx hb dX11_feed_21 rfl (lv_at hl 0 rfl) ?_
    refine lv_iload_n hx hb dX11_feed_22 rfl (lv_at hl 2 rfl) ?_
    refine q_callVv (rest := []) (wr := []) X hK hT hA h_3 (fun sz => gX11_putOnTape_9d88fd1 l D cy h0 h1 p1 (u_3.2.1 0 0) p6 p7 w0 w1 w2 w3 w4 w5 w6 w7 w8 w9 w10 w11 p8 (u_3.2.1 1) (i_rng _) (bw w3_0 (by decide) (by decide)) (i_rng _) (i_rng _) (i_rng _) sz) wm_2_154 wm_2_157 wm_1_1 hd_X11_putOnTape wm_2_156 wp_1_0 (ci := 11) (q0 := 0) rfl rfl ⟨Nat.le_of_ble_eq_true rfl, Nat.le_of_ble_eq_true rfl⟩ hl.1 rfl (Nat.le_of_ble_eq_true rfl) dX11_feed_23 ⟨Nat.le_of_ble_eq_true rfl, Nat.le_of_ble_eq_true rfl⟩ [0, 1] [] rfl rfl (by decide) rfl rfl (fun u_4 H locs w_4 h_4 => ?_)
    clear h_3
    obtain ⟨w4_0, y4_0, _⟩ := w_4
    replace h_4 : qW D _ _ (wk_a794cc59d cy h0 h1 (u_4.2.1 0 0) p6 p7 w0 w1 w2 w3 w4 w5 w6 w7 w8 w9 w10 w11 p8 h1 (u_4.2.1 1)) _ _ := h_4
    refine lv_aload_n hx hb dX11_feed_26 rfl (lv_at hl 0 rfl) ?_
    refine lv_iload_n hx hb dX11_feed_27 rfl (lv_at hl 3 rfl) ?_
    refine q_callVv (rest := []) (wr := []) X hK hT hA h_4 (fun sz => gX11_putOnTape_9d88fd1 l D cy h0 h1 p2 (u_4.2.1 0 0) p6 p7 w0 w1 w2 w3 w4 w5 w6 w7 w8 w9 w10 w11 p8 (u_4.2.1 1) (i_rng _) (bw w4_0 (by decide) (by decide)) (i_rng _) (i_rng _) (i_rng _) sz) wm_2_154 wm_2_157 wm_1_1 hd_X11_putOnTape wm_2_156 wp_1_0 (ci := 11) (q0 := 0) rfl rfl ⟨Nat.le_of_ble_eq_true rfl, Nat.le_of_ble_eq_true rfl⟩ hl.1 rfl (Nat.le_of_ble_eq_true rfl) dX11_feed_28 ⟨Nat.le_of_ble_eq_true rfl, Nat.le_of_ble_eq_true rfl⟩ [0, 1] [] rfl rfl (by decide) rfl rfl (fun u_5 H locs w_5 h_5 => ?_)
    clear h_4
    obtain ⟨w5_0, y5_0, _⟩ := w_5
    replace h_5 : qW D _ _ (wk_a794cc59d cy h0 h1 (u_5.2.1 0 0) p6 p7 w0 w1 w2 w3 w4 w5 w6 w7 w8 w9 w10 w11 p8 h1 (u_5.2.1 1)) _ _ := h_5
    refine lv_aload_n hx hb dX11_feed_31 rfl (lv_at hl 0 rfl) ?_
    refine lv_iload hx hb dX11_feed_32 (lv_at hl 4 rfl) ?_
    refine q_callVv (rest := []) (wr := []) X hK hT hA h_5 (fun sz => gX11_putOnTape_9d88fd1 l D cy h0 h1 p3 (u_5.2.1 0 0) p6 p7 w0 w1 w2 w3 w4 w5 w6 w7 w8 w9 w10 w11 p8 (u_5.2.1 1) (i_rng _) (bw w5_0 (by decide) (by decide)) (i_rng _) (i_rng _) (i_rng _) sz) wm_2_154 wm_2_157 wm_1_1 hd_X11_putOnTape wm_2_156 wp_1_0 (ci := 11) (q0 := 0) rfl rfl ⟨Nat.le_of_ble_eq_true rfl, Nat.le_of_ble_eq_true rfl⟩ hl.1 rfl (Nat.le_of_ble_eq_true rfl) dX11_feed_34 ⟨Nat.le_of_ble_eq_true rfl, Nat.le_of_ble_eq_true rfl⟩ [0, 1] [] rfl rfl (by decide) rfl rfl (fun u_6 H locs w_6 h_6 => ?_)
    clear h_5
    obtain ⟨w6_0, y6_0, _⟩ := w_6
    replace h_6 : qW D _ _ (wk_a794cc59d cy h0 h1 (u_6.2.1 0 0) p6 p7 w0 w1 w2 w3 w4 w5 w6 w7 w8 w9 w10 w11 p8 h1 (u_6.2.1 1)) _ _ := h_6
    refine lv_aload_n hx hb dX11_feed_37 rfl (lv_at hl 0 rfl) ?_
    refine lv_iload hx hb dX11_feed_38 (lv_at hl 5 rfl) ?_
    refine q_callVv (rest := []) (wr := []) X hK hT hA h_6 (fun sz => gX11_putOnTape_9d88fd1 l D cy h0 h1 p4 (u_6.2.1 0 0) p6 p7 w0 w1 w2 w3 w4 w5 w6 w7 w8 w9 w10 w11 p8 (u_6.2.1 1) (i_rng _) (bw w6_0 (by decide) (by decide)) (i_rng _) (i_rng _) (i_rng _) sz) wm_2_154 wm_2_157 wm_1_1 hd_X11_putOnTape wm_2_156 wp_1_0 (ci := 11) (q0 := 0) rfl rfl ⟨Nat.le_of_ble_eq_true rfl, Nat.le_of_ble_eq_true rfl⟩ hl.1 rfl (Nat.le_of_ble_eq_true rfl) dX11_feed_40 ⟨Nat.le_of_ble_eq_true rfl, Nat.le_of_ble_eq_true rfl⟩ [0, 1] [] rfl rfl (by decide) rfl rfl (fun u_7 H locs w_7 h_7 => ?_)
    clear h_6
    obtain ⟨w7_0, y7_0, _⟩ := w_7
    replace h_7 : qW D _ _ (wk_a794cc59d cy h0 h1 (u_7.2.1 0 0) p6 p7 w0 w1 w2 w3 w4 w5 w6 w7 w8 w9 w10 w11 p8 h1 (u_7.2.1 1)) _ _ := h_7
    refine lv_aload_n hx hb dX11_feed_43 rfl (lv_at hl 0 rfl) ?_
    refine q_get X hK h_7 0 rfl rfl wf_11 1 (by decide) rfl wm_2_99 dX11_feed_44 ?_
    exact q_iret X hr hlk hK h_7 rfl (fun _ => 0, (vcons (fun _ => (u_7.2.1 0 0)) (vcons (u_7.2.1 1) (fun _ => (fun _ => 0)))), fun _ _ => 0) ⟨(bw w7_0 (by decide) (by decide)), (bw w7_0 (by decide) (by decide)), (show (((u_7.2.1 0 0) : Int32).toInt = -5 ∧ 900 < (p5 : Int32).toInt + 20 ∧ ((u_7.2.1 0 0) : Int32).toInt = (p5 : Int32).toInt) ∨ (((u_7.2.1 0 0) : Int32).toInt = ((u_7.2.1 0 0) : Int32).toInt ∧ ((u_7.2.1 0 0) : Int32).toInt = (p5 : Int32).toInt + 20 ∧ ((u_7.2.1 0 0) : Int32).toInt ≤ 900) from by omega), trivial⟩ [0, 1] rfl rfl dX11_feed_47 (Nat.le_of_ble_eq_true rfl) (Nat.le_of_ble_eq_true rfl)
  · replace c_2 := i_nle (x := z_1) (y := 900) rfl (show (900 : Int32).toInt = 900 by decide) c_2
    refine lv_bipush (v := (-5)) hx hb dX11_feed_13 (by decide) ?_
    exact q_iret X hr hlk hK h rfl (fun _ => 0, (vcons (fun _ => p5) (vcons f0 (fun _ => (fun _ => 0)))), fun _ _ => 0) ⟨⟨by decide +kernel, by decide +kernel⟩, hp5, (show (((-5) : Int32).toInt = -5 ∧ 900 < (p5 : Int32).toInt + 20 ∧ (p5 : Int32).toInt = (p5 : Int32).toInt) ∨ (((-5) : Int32).toInt = (p5 : Int32).toInt ∧ (p5 : Int32).toInt = (p5 : Int32).toInt + 20 ∧ (p5 : Int32).toInt ≤ 900) from by have q0 : ((-5) : Int32).toInt = -5 := (by decide); omega), trivial⟩ [0, 1] rfl rfl dX11_feed_15 (Nat.le_of_ble_eq_true rfl) (Nat.le_of_ble_eq_true rfl)
set_option maxHeartbeats 4000000 in
set_option maxRecDepth 100000 in
theorem gX7_begin_537f01a (l : Launch) (D : va_G) (cy : Nat → ClassId) (h0 : Nat) (h1 : Nat) (h2 : Nat) (h3 : Nat) (h4 : Nat) (p0 : Int32) (p1 : Int32) (f0 : Nat → Int32) (p2 : Int32) (p3 : Int32) (p4 : Int32) (p5 : Int32) (w0 : Value) (w1 : Value) (w2 : Value) (w3 : Value) (w4 : Value) (w5 : Value) (w6 : Value) (f1 : Nat → Int32) (hp0 : (-2147483648) ≤ (p0).toInt ∧ (p0).toInt ≤ 2147483647) (hp1 : (-2147483648) ≤ (p1).toInt ∧ (p1).toInt ≤ 2147483647) (hp2 : 1 ≤ (p2).toInt ∧ (p2).toInt ≤ 3) (hp3 : 0 ≤ (p3).toInt ∧ (p3).toInt ≤ 10) (hp4 : (-2147483648) ≤ (p4).toInt ∧ (p4).toInt ≤ 2147483647) (hp5 : (-2147483648) ≤ (p5).toInt ∧ (p5).toInt ≤ 2147483647) (rf0 : RG f0 10 0 999) (rf1 : RG f1 10 0 999) (sz : Nat) : MV l yX7_begin cX7_begin 2 { frames := 1, cells := 0, slots := 0, locals := 40 } [.ref h0, .ref h2] D cy (wk_377872c90 cy h0 h4 p0 p1 h1 h1 f0 h2 p2 p3 p4 p5 w0 w1 w2 h3 w3 w4 w5 w6 h3 f1) sz (fun u => ((-2147483648) ≤ (u.2.1 0 0).toInt ∧ (u.2.1 0 0).toInt ≤ 2147483647) ∧ (0 ≤ (u.2.1 1 0).toInt ∧ (u.2.1 1 0).toInt ≤ 0) ∧ RG (u.2.1 2) 10 0 999 ∧ True) (fun u => (wk_377872c90 cy h0 h2 (u.2.1 0 0) (u.2.1 1 0) h1 h1 (u.2.1 2) h2 p2 p3 p4 p5 w0 w1 w2 h3 w3 w4 w5 w6 h3 f1)) 0 0 := by
  refine q_ent (own := RX7) (by decide) rfl (Nat.le_of_ble_eq_true rfl) (fun p e s m below meth c ls X hr hlk hnm hK hT h hA hl => ?_)
  obtain ⟨hx, hb, hml, hown, ht⟩ := id X
  replace hl : lv_has ls 2 [(0, .ref h0), (1, .ref h2)] := hl
  refine lv_aload_n hx hb dX7_begin_0 rfl (lv_at hl 0 rfl) ?_
  refine lv_aload_n hx hb dX7_begin_1 rfl (lv_at hl 1 rfl) ?_
  refine q_put (v := .ref h2) X hK h 0 rfl rfl wf_7 tyX7 tyX7_ok nmX7 0 (by decide) wm_2_37 rfl rfl rfl (Nat.le_of_ble_eq_true rfl) dX7_begin_2 (fun H locs h_1 => ?_)
  clear h
  replace h_1 : qW D _ _ (wk_377872c90 cy h0 h2 p0 p1 h1 h1 f0 h2 p2 p3 p4 p5 w0 w1 w2 h3 w3 w4 w5 w6 h3 f1) _ _ := h_1
  refine lv_aload_n hx hb dX7_begin_5 rfl (lv_at hl 0 rfl) ?_
  refine lv_aload_n hx hb dX7_begin_6 rfl (lv_at hl 1 rfl) ?_
  refine q_get X hK h_1 2 rfl rfl wf_3 3 (by decide) rfl wm_1_91 dX7_begin_7 ?_
  refine q_put (v := .int p5) X hK h_1 0 rfl rfl wf_7 tyX7 tyX7_ok nmX7 1 (by decide) wm_2_43 rfl rfl rfl (Nat.le_of_ble_eq_true rfl) dX7_begin_10 (fun H locs h_2 => ?_)
  clear h_1
  replace h_2 : qW D _ _ (wk_377872c90 cy h0 h2 p5 p1 h1 h1 f0 h2 p2 p3 p4 p5 w0 w1 w2 h3 w3 w4 w5 w6 h3 f1) _ _ := h_2
  refine lv_aload_n hx hb dX7_begin_13 rfl (lv_at hl 0 rfl) ?_
  refine lv_iconst (v := 0) hx hb dX7_begin_14 (by decide) ?_
  refine q_put (v := .int 0) X hK h_2 0 rfl rfl wf_7 tyX7 tyX7_ok nmX7 2 (by decide) wm_2_48 rfl rfl rfl (Nat.le_of_ble_eq_true rfl) dX7_begin_15 (fun H locs h_3 => ?_)
  clear h_2
  replace h_3 : qW D _ _ (wk_377872c90 cy h0 h2 p5 0 h1 h1 f0 h2 p2 p3 p4 p5 w0 w1 w2 h3 w3 w4 w5 w6 h3 f1) _ _ := h_3
  refine lv_aload_n hx hb dX7_begin_18 rfl (lv_at hl 1 rfl) ?_
  refine q_get X hK h_3 2 rfl rfl wf_3 7 (by decide) rfl wm_1_103 dX7_begin_19 ?_
  refine lv_iconst (v := 0) hx hb dX7_begin_22 (by decide) ?_
  refine lv_aload_n hx hb dX7_begin_23 rfl (lv_at hl 0 rfl) ?_
  refine q_get X hK h_3 0 rfl rfl wf_7 3 (by decide) rfl wm_2_50 dX7_begin_24 ?_
  refine lv_iconst (v := 0) hx hb dX7_begin_27 (by decide) ?_
  refine lv_bipush (v := 10) hx hb dX7_begin_28 (by decide) ?_
  refine q_copyR X hK h_3 wm_3_161 wm_3_152 wm_3_151 wm_1_21 hl.1 3 1 rfl rfl (by decide +kernel) (by decide) (Nat.le_of_ble_eq_true rfl) (Nat.le_of_ble_eq_true rfl) dX7_begin_30 (fun F_4 eF_4 H locs h_5 => ?_)
  clear h_3
  have rF_4 := rg_eq eF_4 rf1
  clear eF_4
  replace h_5 : qW D _ _ (wk_377872c90 cy h0 h2 p5 0 h1 h1 F_4 h2 p2 p3 p4 p5 w0 w1 w2 h3 w3 w4 w5 w6 h3 f1) _ _ := h_5
  exact q_vret X hr hlk hK h_5 (fun _ => 0, (vcons (fun _ => p5) (vcons (fun _ => 0) (vcons F_4 (fun _ => (fun _ => 0))))), fun _ _ => 0) ⟨hp5, (⟨by decide +kernel, by decide +kernel⟩ : 0 ≤ (0 : Int32).toInt ∧ (0 : Int32).toInt ≤ 0), (rg_wide rF_4 (by decide) (by decide)), trivial⟩ [0, 1, 2, 3] rfl rfl dX7_begin_33 (Nat.le_of_ble_eq_true rfl) (Nat.le_of_ble_eq_true rfl)
set_option maxHeartbeats 4000000 in
set_option maxRecDepth 100000 in
theorem gX11_house_4fcf2c0 (l : Launch) (D : va_G) (cy : Nat → ClassId) (h0 : Nat) (h1 : Nat) (h2 : Nat) (h3 : Nat) (h4 : Nat) (h5 : Nat) (h6 : Nat) (h7 : Nat) (h8 : Nat) (h9 : Nat) (h10 : Nat) (p0 : Int32) (p1 : Int32) (p2 : Int32) (p3 : Int32) (w0 : Value) (w1 : Value) (w2 : Value) (w3 : Value) (w4 : Value) (w5 : Value) (w6 : Value) (w7 : Value) (w8 : Value) (p4 : Int32) (f0 : Nat → Int32) (p5 : Int32) (p6 : Int32) (p7 : Int32) (p8 : Int32) (o0 : Option Nat) (p9 : Int32) (p10 : Int32) (o1 : Option Nat) (p11 : Int32) (p12 : Int32) (f1 : Nat → Int32) (f2 : Nat → Int32) (f3 : Nat → Int32) (f4 : Nat → Int32) (h11 : Nat) (p13 : Int32) (p14 : Int32) (f5 : Nat → Int32) (p15 : Int32) (w9 : Value) (hp0 : (-2147483648) ≤ (p0).toInt ∧ (p0).toInt ≤ 2147483647) (hp1 : 0 ≤ (p1).toInt ∧ (p1).toInt ≤ 900) (hp2 : (-2147483648) ≤ (p2).toInt ∧ (p2).toInt ≤ 2147483647) (hp3 : (-2147483648) ≤ (p3).toInt ∧ (p3).toInt ≤ 2147483647) (hp4 : (-2147483648) ≤ (p4).toInt ∧ (p4).toInt ≤ 2147483647) (hp5 : (-1) ≤ (p5).toInt ∧ (p5).toInt ≤ 900) (hp6 : (-2147483648) ≤ (p6).toInt ∧ (p6).toInt ≤ 2147483647) (hp7 : (-2147483648) ≤ (p7).toInt ∧ (p7).toInt ≤ 2147483647) (hp8 : (-2147483648) ≤ (p8).toInt ∧ (p8).toInt ≤ 2147483647) (hp9 : 0 ≤ (p9).toInt ∧ (p9).toInt ≤ 900) (hp10 : (-2147483648) ≤ (p10).toInt ∧ (p10).toInt ≤ 2147483647) (hp11 : 0 ≤ (p11).toInt ∧ (p11).toInt ≤ 900) (hp12 : 0 ≤ (p12).toInt ∧ (p12).toInt ≤ 901) (hp13 : (-2147483648) ≤ (p13).toInt ∧ (p13).toInt ≤ 2147483647) (hp14 : (-2147483648) ≤ (p14).toInt ∧ (p14).toInt ≤ 2147483647) (hp15 : 0 ≤ (p15).toInt ∧ (p15).toInt ≤ 10) (rf5 : RG f5 10 0 999) (hpre0 : 0 ≤ (p0 : Int32).toInt ∧ (p0 : Int32).toInt ≤ (p1 : Int32).toInt) (sz : Nat) : MIw l yX11_house cX11_house 3 .int { frames := 29, cells := (p1.toInt.toNat + 20), slots := (451 * p1.toInt.toNat + 2000), locals := 720 } [.ref h0, .int p0] D cy (wk_88b9e977e cy h0 h1 p1 p2 p3 h2 h8 w0 w1 h10 w2 w3 w4 w5 w6 w7 w8 p4 h1 f0 h2 h3 p5 p6 p7 p8 o0 h7 p9 p10 h3 o1 p11 p12 h4 h5 h6 h4 f1 h5 f2 h6 f3 h7 f4 h8 h11 p13 p14 h9 h9 f5 h10 p15 w9) sz (fun r u => ((-2147483648) ≤ r.toInt ∧ r.toInt ≤ 2147483647) ∧ (0 ≤ (u.1.2.1 0 0).toInt ∧ (u.1.2.1 0 0).toInt ≤ 900) ∧ ((-2147483648) ≤ (u.1.2.1 1 0).toInt ∧ (u.1.2.1 1 0).toInt ≤ 2147483647) ∧ ((-2147483648) ≤ (u.1.2.1 2 0).toInt ∧ (u.1.2.1 2 0).toInt ≤ 2147483647) ∧ ((-2147483648) ≤ (u.1.2.1 3 0).toInt ∧ (u.1.2.1 3 0).toInt ≤ 2147483647) ∧ ((-1) ≤ (u.1.2.1 4 0).toInt ∧ (u.1.2.1 4 0).toInt ≤ 900) ∧ ((-2147483648) ≤ (u.1.2.1 5 0).toInt ∧ (u.1.2.1 5 0).toInt ≤ 2147483647) ∧ ((-2147483648) ≤ (u.1.2.1 6 0).toInt ∧ (u.1.2.1 6 0).toInt ≤ 2147483647) ∧ ((-2147483648) ≤ (u.1.2.1 7 0).toInt ∧ (u.1.2.1 7 0).toInt ≤ 2147483647) ∧ (0 ≤ (u.1.2.1 8 0).toInt ∧ (u.1.2.1 8 0).toInt ≤ 900) ∧ ((-2147483648) ≤ (u.1.2.1 9 0).toInt ∧ (u.1.2.1 9 0).toInt ≤ 2147483647) ∧ (0 ≤ (u.1.2.1 10 0).toInt ∧ (u.1.2.1 10 0).toInt ≤ 900) ∧ (0 ≤ (u.1.2.1 11 0).toInt ∧ (u.1.2.1 11 0).toInt ≤ 901) ∧ ((-2147483648) ≤ (u.1.2.1 16 0).toInt ∧ (u.1.2.1 16 0).toInt ≤ 2147483647) ∧ ((-2147483648) ≤ (u.1.2.1 17 0).toInt ∧ (u.1.2.1 17 0).toInt ≤ 2147483647) ∧ RG (u.1.2.1 18) 10 0 999 ∧ (0 ≤ (u.1.2.1 19 0).toInt ∧ (u.1.2.1 19 0).toInt ≤ 10) ∧ (NH cy u.2.1 h11 (u.1.1 0)) ∧ (((u.1.2.1 0 0) : Int32).toInt = 0) ∧ True) (fun u => (wk_88b9e977e cy h0 h1 (u.1.2.1 0 0) (u.1.2.1 1 0) (u.1.2.1 2 0) h2 h8 w0 w1 h10 w2 w3 w4 w5 w6 w7 w8 (u.1.2.1 3 0) h1 f0 h2 h3 (u.1.2.1 4 0) (u.1.2.1 5 0) (u.1.2.1 6 0) (u.1.2.1 7 0) (u.2.2 0) h7 (u.1.2.1 8 0) (u.1.2.1 9 0) h3 (u.2.2 1) (u.1.2.1 10 0) (u.1.2.1 11 0) h4 h5 h6 h4 (u.1.2.1 12) h5 (u.1.2.1 13) h6 (u.1.2.1 14) h7 (u.1.2.1 15) h8 (u.1.1 0) (u.1.2.1 16 0) (u.1.2.1 17 0) h9 h9 (u.1.2.1 18) h10 (u.1.2.1 19 0) w9)) (p1.toInt.toNat + 20) (451 * p1.toInt.toNat + 2000) := by
  refine q_ent (own := RX11) (by decide) rfl (Nat.le_of_ble_eq_true rfl) (fun p e s m below meth c ls X hr hlk hnm hK hT h hA hl => ?_)
  obtain ⟨hx, hb, hml, hown, ht⟩ := id X
  replace h : qW D _ _ ((wk_88b9e977e cy h0 h1 p1 p2 p3 h2 h8 w0 w1 h10 w2 w3 w4 w5 w6 w7 w8 p4 h1 f0 h2 h3 p5 p6 p7 p8 o0 h7 p9 p10 h3 o1 p11 p12 h4 h5 h6 h4 f1 h5 f2 h6 f3 h7 f4 h8 h11 p13 p14 h9 h9 f5 h10 p15 w9) ++ []) _ _ := h
  replace hl : lv_has ls 3 [(0, .ref h0), (1, .int p0)] := hl
  refine lv_iload_n hx hb dX11_house_0 rfl (lv_at hl 1 rfl) ?_
  refine lv_if_lt (tgt := 12) hx hb dX11_house_1 (by decide) (fun c_1 => ?_) (fun c_1 => ?_)
  · replace c_1 := i_lt (x := p0) (y := 0) rfl (show (0 : Int32).toInt = 0 by decide) c_1
    refine lv_bipush (v := (-3)) hx hb dX11_house_12 (by decide) ?_
    exact q_iretW X hr hlk hK h rfl [] (((vcons h11 (fun _ => 0)), (vcons (fun _ => p1) (vcons (fun _ => p2) (vcons (fun _ => p3) (vcons (fun _ => p4) (vcons (fun _ => p5) (vcons (fun _ => p6) (vcons (fun _ => p7) (vcons (fun _ => p8) (vcons (fun _ => p9) (vcons (fun _ => p10) (vcons (fun _ => p11) (vcons (fun _ => p12) (vcons f1 (vcons f2 (vcons f3 (vcons f4 (vcons (fun _ => p13) (vcons (fun _ => p14) (vcons f5 (vcons (fun _ => p15) (fun _ => (fun _ => 0)))))))))))))))))))))), fun _ _ => 0), ([] ++ []), (vcons o0 (vcons o1 (fun _ => none)))) rfl ⟨⟨by decide +kernel, by decide +kernel⟩, hp1, hp2, hp3, hp4, hp5, hp6, hp7, hp8, hp9, hp10, hp11, hp12, hp13, hp14, (rg_wide rf5 (by decide) (by decide)), hp15, (show NH cy ([] ++ []) h11 h11 from Or.inl rfl), (show (p1 : Int32).toInt = 0 from by omega), trivial⟩ [0, 1, 2, 3, 4, 5, 6, 7, 8, 9, 10] rfl rfl dX11_house_14 (by show 0 ≤ (p1.toInt.toNat + 20); omega) (by show 0 ≤ (451 * p1.toInt.toNat + 2000); omega)
  · replace c_1 := i_nlt (x := p0) (y := 0) rfl (show (0 : Int32).toInt = 0 by decide) c_1
    refine lv_iload_n hx hb dX11_house_4 rfl (lv_at hl 1 rfl) ?_
    refine lv_aload_n hx hb dX11_house_5 rfl (lv_at hl 0 rfl) ?_
    refine q_get X hK h 0 rfl rfl wf_11 1 (by decide) rfl wm_2_99 dX11_house_6 ?_
    refine lv_icmp_le (tgt := 15) hx hb dX11_house_9 (by decide) (fun c_2 => ?_) (fun c_2 => ?_)
    · replace c_2 := i_le (x := p0) (y := p1) rfl rfl c_2
      refine lv_aload_n hx hb dX11_house_15 rfl (lv_at hl 0 rfl) ?_
      refine lv_iconst (v := 0) hx hb dX11_house_16 (by decide) ?_
      refine q_put (v := .int 0) X hK h 0 rfl rfl wf_11 tyX11 tyX11_ok nmX11 1 (by decide) wm_2_99 rfl rfl rfl (Nat.le_of_ble_eq_true rfl) dX11_house_17 (fun H locs h_3 => ?_)
      clear h
      replace h_3 : qW D _ _ ((wk_88b9e977e cy h0 h1 0 p2 p3 h2 h8 w0 w1 h10 w2 w3 w4 w5 w6 w7 w8 p4 h1 f0 h2 h3 p5 p6 p7 p8 o0 h7 p9 p10 h3 o1 p11 p12 h4 h5 h6 h4 f1 h5 f2 h6 f3 h7 f4 h8 h11 p13 p14 h9 h9 f5 h10 p15 w9) ++ []) _ _ := h_3
      refine lv_aload_n hx hb dX11_house_20 rfl (lv_at hl 0 rfl) ?_
      refine q_get X hK h_3 0 rfl rfl wf_11 4 (by decide) rfl wm_2_102 dX11_house_21 ?_
      refine lv_aload_n hx hb dX11_house_24 rfl (lv_at hl 0 rfl) ?_
      refine q_get X hK h_3 0 rfl rfl wf_11 0 (by decide) rfl wm_2_98 dX11_house_25 ?_
      refine lv_iload_n hx hb dX11_house_28 rfl (lv_at hl 1 rfl) ?_
      refine q_callVqW (rest := []) (wr := [(h0, .inr (11, [.ref h1, .int 0, .int p2, .int p3, .ref h2, .ref h8, w0, w1, .ref h10, w2, w3, w4, w5, w6, w7, w8, .int p4])), (h8, .inr (7, [.ref h11, .int p13, .int p14, .ref h9])), (h9, .inl (cy 1, 10, .inl f5)), (h10, .inr (2, [.int p15, w9]))]) X hK hT hA h_3 (fun sz => gX5_read_b67bca9 l D cy h2 h3 h4 h5 h6 h7 h1 p0 p5 p6 p7 p8 o0 p9 p10 o1 p11 p12 f1 f2 f3 f4 f0 ⟨by omega, by omega⟩ hp5 (i_rng _) (i_rng _) (i_rng _) hp9 (i_rng _) hp11 hp12 sz) wm_2_162 wm_2_165 wm_1_2 hd_X5_read wm_2_163 wm_2_164 (ci := 5) (q0 := 0) rfl rfl ⟨Nat.le_of_ble_eq_true rfl, Nat.le_of_ble_eq_true rfl⟩ hl.1 rfl (Nat.le_of_ble_eq_true rfl) dX11_house_29 ⟨by show 0 + (((p0 : Int32)).toInt.toNat + 20) ≤ (p1.toInt.toNat + 20); omega, by show 0 + (451 * ((p0 : Int32)).toInt.toNat + 2000) ≤ (451 * p1.toInt.toNat + 2000); omega⟩ [2, 3, 4, 5, 6, 7, 1] [0, 8, 9, 10] rfl rfl (by decide) rfl rfl (fun r_4 u_4 H locs w_4 h_4 => ?_)
      clear h_3
      obtain ⟨wr_4, w4_0, w4_1, w4_2, w4_3, w4_4, w4_5, w4_6, w4_7, w4_8, w4_9, w4_10, w4_11, w4_12, y4_0, _⟩ := w_4
      subst wr_4
      refine q_cv (u_4.1.1 0) rfl ?_
      replace h_4 : qW D _ _ ((wk_5d87e3385 cy h0 h1 0 p2 p3 h2 h8 w0 w1 h10 w2 w3 w4 w5 w6 w7 w8 p4 h8 h11 p13 p14 h9 h9 f5 h10 p15 w9 h2 h3 (u_4.1.2.1 2 0) (u_4.1.2.1 3 0) (u_4.1.2.1 4 0) (u_4.1.2.1 5 0) (u_4.1.1 0) h7 (u_4.1.2.1 6 0) (u_4.1.2.1 7 0) h3 h1 (u_4.1.2.1 8 0) (u_4.1.2.1 9 0) h4 h5 h6 h4 (u_4.1.2.1 10) h5 (u_4.1.2.1 11) h6 (u_4.1.2.1 1) h7 (u_4.1.2.1 0) h1 f0 (u_4.1.1 0) (u_4.1.2.1 12 0) (u_4.1.2.1 13 0) (u_4.1.2.1 14 0) (u_4.1.2.1 15 0) (u_4.2.2 0) (u_4.2.2 1) (u_4.2.2 2) (u_4.1.1 1) (u_4.1.1 2) (u_4.1.1 3) (u_4.1.1 4) (u_4.1.1 5) (u_4.1.1 1) (u_4.1.2.1 16) (u_4.1.1 2) (u_4.1.2.1 17) (u_4.1.1 3) (u_4.1.2.1 18) (u_4.1.1 4) (u_4.1.2.1 19) (u_4.1.1 5) (u_4.1.2.1 20)) ++ (u_4.2.1 ++ [])) _ _ := h_4
      refine lv_astore_n (lv' := [(2, .ref (u_4.1.1 0)), (0, .ref h0), (1, .int p0)]) hx hb dX11_house_32 rfl hl (by decide) rfl (fun ls_5 hl_5 => ?_)
      clear hl
      refine lv_aload_n hx hb dX11_house_33 rfl (lv_at hl_5 1 rfl) ?_
      refine lv_aload_n hx hb dX11_house_34 rfl (lv_at hl_5 1 rfl) ?_
      refine q_get X hK h_4 0 rfl rfl wf_11 4 (by decide) rfl wm_2_102 dX11_house_35 ?_
      refine q_get X hK h_4 4 rfl rfl wf_5 3 (by decide) rfl wm_1_148 dX11_house_38 ?_
      refine q_put (v := .int (u_4.1.2.1 4 0)) X hK h_4 0 rfl rfl wf_11 tyX11 tyX11_ok nmX11 2 (by decide) wm_2_100 rfl rfl rfl (Nat.le_of_ble_eq_true rfl) dX11_house_41 (fun H locs h_6 => ?_)
      clear h_4
      replace h_6 : qW D _ _ ((wk_5d87e3385 cy h0 h1 0 (u_4.1.2.1 4 0) p3 h2 h8 w0 w1 h10 w2 w3 w4 w5 w6 w7 w8 p4 h8 h11 p13 p14 h9 h9 f5 h10 p15 w9 h2 h3 (u_4.1.2.1 2 0) (u_4.1.2.1 3 0) (u_4.1.2.1 4 0) (u_4.1.2.1 5 0) (u_4.1.1 0) h7 (u_4.1.2.1 6 0) (u_4.1.2.1 7 0) h3 h1 (u_4.1.2.1 8 0) (u_4.1.2.1 9 0) h4 h5 h6 h4 (u_4.1.2.1 10) h5 (u_4.1.2.1 11) h6 (u_4.1.2.1 1) h7 (u_4.1.2.1 0) h1 f0 (u_4.1.1 0) (u_4.1.2.1 12 0) (u_4.1.2.1 13 0) (u_4.1.2.1 14 0) (u_4.1.2.1 15 0) (u_4.2.2 0) (u_4.2.2 1) (u_4.2.2 2) (u_4.1.1 1) (u_4.1.1 2) (u_4.1.1 3) (u_4.1.1 4) (u_4.1.1 5) (u_4.1.1 1) (u_4.1.2.1 16) (u_4.1.1 2) (u_4.1.2.1 17) (u_4.1.1 3) (u_4.1.2.1 18) (u_4.1.1 4) (u_4.1.2.1 19) (u_4.1.1 5) (u_4.1.2.1 20)) ++ (u_4.2.1 ++ [])) _ _ := h_6
      refine lv_aload_n hx hb dX11_house_44 rfl (lv_at hl_5 1 rfl) ?_
      refine lv_aload_n hx hb dX11_house_45 rfl (lv_at hl_5 1 rfl) ?_
      refine q_get X hK h_6 0 rfl rfl wf_11 4 (by decide) rfl wm_2_102 dX11_house_46 ?_
      refine q_get X hK h_6 4 rfl rfl wf_5 4 (by decide) rfl wm_1_150 dX11_house_49 ?_
      refine q_put (v := .int (u_4.1.2.1 5 0)) X hK h_6 0 rfl rfl wf_11 tyX11 tyX11_ok nmX11 3 (by decide) wm_2_101 rfl rfl rfl (Nat.le_of_ble_eq_true rfl) dX11_house_52 (fun H locs h_7 => ?_)
      clear h_6
      replace h_7 : qW D _ _ ((wk_5d87e3385 cy h0 h1 0 (u_4.1.2.1 4 0) (u_4.1.2.1 5 0) h2 h8 w0 w1 h10 w2 w3 w4 w5 w6 w7 w8 p4 h8 h11 p13 p14 h9 h9 f5 h10 p15 w9 h2 h3 (u_4.1.2.1 2 0) (u_4.1.2.1 3 0) (u_4.1.2.1 4 0) (u_4.1.2.1 5 0) (u_4.1.1 0) h7 (u_4.1.2.1 6 0) (u_4.1.2.1 7 0) h3 h1 (u_4.1.2.1 8 0) (u_4.1.2.1 9 0) h4 h5 h6 h4 (u_4.1.2.1 10) h5 (u_4.1.2.1 11) h6 (u_4.1.2.1 1) h7 (u_4.1.2.1 0) h1 f0 (u_4.1.1 0) (u_4.1.2.1 12 0) (u_4.1.2.1 13 0) (u_4.1.2.1 14 0) (u_4.1.2.1 15 0) (u_4.2.2 0) (u_4.2.2 1) (u_4.2.2 2) (u_4.1.1 1) (u_4.1.1 2) (u_4.1.1 3) (u_4.1.1 4) (u_4.1.1 5) (u_4.1.1 1) (u_4.1.2.1 16) (u_4.1.1 2) (u_4.1.2.1 17) (u_4.1.1 3) (u_4.1.2.1 18) (u_4.1.1 4) (u_4.1.2.1 19) (u_4.1.1 5) (u_4.1.2.1 20)) ++ (u_4.2.1 ++ [])) _ _ := h_7
      refine lv_aload_n hx hb dX11_house_55 rfl (lv_at hl_5 1 rfl) ?_
      refine q_get X hK h_7 0 rfl rfl wf_11 2 (by decide) rfl wm_2_100 dX11_house_56 ?_
      refine lv_if_eq (tgt := 70) hx hb dX11_house_59 (by decide) (fun c_8 => ?_) (fun c_8 => ?_)
      · replace c_8 := i_eq (x := (u_4.1.2.1 4 0)) (y := 0) rfl (show (0 : Int32).toInt = 0 by decide) c_8
        refine lv_aload_n hx hb dX11_house_70 rfl (lv_at hl_5 1 rfl) ?_
        refine q_get X hK h_7 0 rfl rfl wf_11 5 (by decide) rfl wm_2_103 dX11_house_71 ?_
        refine lv_aload_n hx hb dX11_house_74 rfl (lv_at hl_5 0 rfl) ?_
        refine q_callVvT (rest := []) (wr := [(h0, .inr (11, [.ref h1, .int 0, .int (u_4.1.2.1 4 0), .int (u_4.1.2.1 5 0), .ref h2, .ref h8, w0, w1, .ref h10, w2, w3, w4, w5, w6, w7, w8, .int p4])), (h10, .inr (2, [.int p15, w9])), (h2, .inr (5, [.ref h3, .int (u_4.1.2.1 2 0), .int (u_4.1.2.1 3 0), .int (u_4.1.2.1 4 0), .int (u_4.1.2.1 5 0), .ref (u_4.1.1 0), .ref h7, .int (u_4.1.2.1 6 0), .int (u_4.1.2.1 7 0)])), (h3, .inr (8, [.ref h1, .int (u_4.1.2.1 8 0), .int (u_4.1.2.1 9 0), .ref h4, .ref h5, .ref h6])), (h4, .inl (cy 1, 901, .inl (u_4.1.2.1 10))), (h5, .inl (cy 1, 901, .inl (u_4.1.2.1 11))), (h6, .inl (cy 1, 901, .inl (u_4.1.2.1 1))), (h7, .inl (cy 1, 900, .inl (u_4.1.2.1 0))), (h1, .inl (cy 0, 900, .inl f0)), ((u_4.1.1 2), .inl (cy 1, 10, .inl (u_4.1.2.1 17))), ((u_4.1.1 3), .inl (cy 1, 10, .inl (u_4.1.2.1 18))), ((u_4.1.1 4), .inl (cy 1, 10, .inl (u_4.1.2.1 19))), ((u_4.1.1 5), .inl (cy 1, 10, .inl (u_4.1.2.1 20)))]) X hK hT hA h_7 (fun sz => gX7_begin_537f01a l D cy h8 h9 (u_4.1.1 0) (u_4.1.1 1) h11 p13 p14 f5 (u_4.1.2.1 12 0) (u_4.1.2.1 13 0) (u_4.1.2.1 14 0) (u_4.1.2.1 15 0) (va_rf (u_4.2.2 0)) (va_rf (u_4.2.2 1)) (va_rf (u_4.2.2 2)) (.ref (u_4.1.1 2)) (.ref (u_4.1.1 3)) (.ref (u_4.1.1 4)) (.ref (u_4.1.1 5)) (u_4.1.2.1 16) (i_rng _) (i_rng _) ⟨by omega, by omega⟩ ⟨by omega, by omega⟩ (i_rng _) (i_rng _) (rg_wide rf5 (by decide) (by decide)) (rg_wide w4_12 (by decide) (by decide)) sz) wm_3_157 wm_3_160 wm_1_9 hd_X7_begin wm_3_158 wm_3_159 (ci := 7) (q0 := 0) rfl rfl ⟨Nat.le_of_ble_eq_true rfl, Nat.le_of_ble_eq_true rfl⟩ hl_5.1 rfl (Nat.le_of_ble_eq_true rfl) dX11_house_75 ⟨by show 0 + (((p0 : Int32)).toInt.toNat + 20) + 0 ≤ (p1.toInt.toNat + 20); omega, by show 0 + (451 * ((p0 : Int32)).toInt.toNat + 2000) + 0 ≤ (451 * p1.toInt.toNat + 2000); omega⟩ [1, 2, 11, 12] [0, 3, 4, 5, 6, 7, 8, 9, 10, 13, 14, 15, 16] rfl rfl (by decide) rfl rfl (fun u_9 H locs w_9 h_9 => ?_)
        clear h_7
        obtain ⟨w9_0, w9_1, w9_2, _⟩ := w_9
        replace h_9 : qW D _ _ ([(h0, .inr (11, [.ref h1, .int 0, .int (u_4.1.2.1 4 0), .int (u_4.1.2.1 5 0), .ref h2, .ref h8, w0, w1, .ref h10, w2, w3, w4, w5, w6, w7, w8, .int p4])), (h10, .inr (2, [.int p15, w9])), (h2, .inr (5, [.ref h3, .int (u_4.1.2.1 2 0), .int (u_4.1.2.1 3 0), .int (u_4.1.2.1 4 0), .int (u_4.1.2.1 5 0), .ref (u_4.1.1 0), .ref h7, .int (u_4.1.2.1 6 0), .int (u_4.1.2.1 7 0)])), (h3, .inr (8, [.ref h1, .int (u_4.1.2.1 8 0), .int (u_4.1.2.1 9 0), .ref h4, .ref h5, .ref h6])), (h4, .inl (cy 1, 901, .inl (u_4.1.2.1 10))), (h5, .inl (cy 1, 901, .inl (u_4.1.2.1 11))), (h6, .inl (cy 1, 901, .inl (u_4.1.2.1 1))), (h7, .inl (cy 1, 900, .inl (u_4.1.2.1 0))), (h1, .inl (cy 0, 900, .inl f0)), ((u_4.1.1 2), .inl (cy 1, 10, .inl (u_4.1.2.1 17))), ((u_4.1.1 3), .inl (cy 1, 10, .inl (u_4.1.2.1 18))), ((u_4.1.1 4), .inl (cy 1, 10, .inl (u_4.1.2.1 19))), ((u_4.1.1 5), .inl (cy 1, 10, .inl (u_4.1.2.1 20))), (h8, .inr (7, [.ref (u_4.1.1 0), .int (u_9.2.1 0 0), .int (u_9.2.1 1 0), .ref h9])), (h9, .inl (cy 1, 10, .inl (u_9.2.1 2))), ((u_4.1.1 0), .inr (3, [.int (u_4.1.2.1 12 0), .int (u_4.1.2.1 13 0), .int (u_4.1.2.1 14 0), .int (u_4.1.2.1 15 0), (va_rf (u_4.2.2 0)), (va_rf (u_4.2.2 1)), (va_rf (u_4.2.2 2)), .ref (u_4.1.1 1), .ref (u_4.1.1 2), .ref (u_4.1.1 3), .ref (u_4.1.1 4), .ref (u_4.1.1 5)])), ((u_4.1.1 1), .inl (cy 1, 10, .inl (u_4.1.2.1 16)))] ++ (u_4.2.1 ++ [])) _ _ := h_9
        refine lv_aload_n hx hb dX11_house_78 rfl (lv_at hl_5 1 rfl) ?_
        refine q_get X hK h_9 0 rfl rfl wf_11 8 (by decide) rfl wm_2_106 dX11_house_79 ?_
        refine q_callVvT (rest := []) (wr := [(h0, .inr (11, [.ref h1, .int 0, .int (u_4.1.2.1 4 0), .int (u_4.1.2.1 5 0), .ref h2, .ref h8, w0, w1, .ref h10, w2, w3, w4, w5, w6, w7, w8, .int p4])), (h2, .inr (5, [.ref h3, .int (u_4.1.2.1 2 0), .int (u_4.1.2.1 3 0), .int (u_4.1.2.1 4 0), .int (u_4.1.2.1 5 0), .ref (u_4.1.1 0), .ref h7, .int (u_4.1.2.1 6 0), .int (u_4.1.2.1 7 0)])), (h3, .inr (8, [.ref h1, .int (u_4.1.2.1 8 0), .int (u_4.1.2.1 9 0), .ref h4, .ref h5, .ref h6])), (h4, .inl (cy 1, 901, .inl (u_4.1.2.1 10))), (h5, .inl (cy 1, 901, .inl (u_4.1.2.1 11))), (h6, .inl (cy 1, 901, .inl (u_4.1.2.1 1))), (h7, .inl (cy 1, 900, .inl (u_4.1.2.1 0))), (h1, .inl (cy 0, 900, .inl f0)), ((u_4.1.1 2), .inl (cy 1, 10, .inl (u_4.1.2.1 17))), ((u_4.1.1 3), .inl (cy 1, 10, .inl (u_4.1.2.1 18))), ((u_4.1.1 4), .inl (cy 1, 10, .inl (u_4.1.2.1 19))), ((u_4.1.1 5), .inl (cy 1, 10, .inl (u_4.1.2.1 20))), (h8, .inr (7, [.ref (u_4.1.1 0), .int (u_9.2.1 0 0), .int (u_9.2.1 1 0), .ref h9])), (h9, .inl (cy 1, 10, .inl (u_9.2.1 2))), ((u_4.1.1 0), .inr (3, [.int (u_4.1.2.1 12 0), .int (u_4.1.2.1 13 0), .int (u_4.1.2.1 14 0), .int (u_4.1.2.1 15 0), (va_rf (u_4.2.2 0)), (va_rf (u_4.2.2 1)), (va_rf (u_4.2.2 2)), .ref (u_4.1.1 1), .ref (u_4.1.1 2), .ref (u_4.1.1 3), .ref (u_4.1.1 4), .ref (u_4.1.1 5)])), ((u_4.1.1 1), .inl (cy 1, 10, .inl (u_4.1.2.1 16)))]) X hK hT hA h_9 (fun sz => gX2_forget_062d4b6 l D cy h10 p15 w9 hp15 sz) wm_3_162 wm_3_165 wm_1_10 hd_X2_forget wm_3_163 wm_3_164 (ci := 2) (q0 := 0) rfl rfl ⟨Nat.le_of_ble_eq_true rfl, Nat.le_of_ble_eq_true rfl⟩ hl_5.1 rfl (Nat.le_of_ble_eq_true rfl) dX11_house_82 ⟨by show 0 + (((p0 : Int32)).toInt.toNat + 20) + 0 ≤ (p1.toInt.toNat + 20); omega, by show 0 + (451 * ((p0 : Int32)).toInt.toNat + 2000) + 0 ≤ (451 * p1.toInt.toNat + 2000); omega⟩ [1] [0, 2, 3, 4, 5, 6, 7, 8, 9, 10, 11, 12, 13, 14, 15, 16] rfl rfl (by decide) rfl rfl (fun u_10 H locs w_10 h_10 => ?_)
        clear h_9
        obtain ⟨w10_0, _⟩ := w_10
        replace h_10 : qW D _ _ ((wk_8f9a0fc93 cy h0 h1 0 (u_4.1.2.1 4 0) (u_4.1.2.1 5 0) h2 h8 w0 w1 h10 w2 w3 w4 w5 w6 w7 w8 p4 h2 h3 (u_4.1.2.1 2 0) (u_4.1.2.1 3 0) (u_4.1.2.1 4 0) (u_4.1.2.1 5 0) (u_4.1.1 0) h7 (u_4.1.2.1 6 0) (u_4.1.2.1 7 0) h3 h1 (u_4.1.2.1 8 0) (u_4.1.2.1 9 0) h4 h5 h6 h4 (u_4.1.2.1 10) h5 (u_4.1.2.1 11) h6 (u_4.1.2.1 1) h7 (u_4.1.2.1 0) h1 f0 (u_4.1.1 2) (u_4.1.2.1 17) (u_4.1.1 3) (u_4.1.2.1 18) (u_4.1.1 4) (u_4.1.2.1 19) (u_4.1.1 5) (u_4.1.2.1 20) h8 (u_4.1.1 0) (u_9.2.1 0 0) (u_9.2.1 1 0) h9 h9 (u_9.2.1 2) (u_4.1.1 0) (u_4.1.2.1 12 0) (u_4.1.2.1 13 0) (u_4.1.2.1 14 0) (u_4.1.2.1 15 0) (u_4.2.2 0) (u_4.2.2 1) (u_4.2.2 2) (u_4.1.1 1) (u_4.1.1 2) (u_4.1.1 3) (u_4.1.1 4) (u_4.1.1 5) (u_4.1.1 1) (u_4.1.2.1 16) h10 (u_10.2.1 0 0) w9) ++ (u_4.2.1 ++ [])) _ _ := h_10
        refine lv_aload_n hx hb dX11_house_85 rfl (lv_at hl_5 1 rfl) ?_
        refine lv_dup hx hb dX11_house_86 rfl ?_
        refine q_get X hK h_10 0 rfl rfl wf_11 16 (by decide) rfl wm_2_114 dX11_house_87 ?_
        refine lv_iconst (v := 1) hx hb dX11_house_90 (by decide) ?_
        refine lv_iadd hx hb dX11_house_91 ?_
        refine q_any (fun z_11 hz_11 => ?_)
        refine q_put (v := .int z_11) X hK h_10 0 rfl rfl wf_11 tyX11 tyX11_ok nmX11 16 (by decide) wm_2_114 rfl rfl rfl (Nat.le_of_ble_eq_true rfl) dX11_house_92 (fun H locs h_12 => ?_)
        clear h_10
        replace h_12 : qW D _ _ ((wk_8f9a0fc93 cy h0 h1 0 (u_4.1.2.1 4 0) (u_4.1.2.1 5 0) h2 h8 w0 w1 h10 w2 w3 w4 w5 w6 w7 w8 z_11 h2 h3 (u_4.1.2.1 2 0) (u_4.1.2.1 3 0) (u_4.1.2.1 4 0) (u_4.1.2.1 5 0) (u_4.1.1 0) h7 (u_4.1.2.1 6 0) (u_4.1.2.1 7 0) h3 h1 (u_4.1.2.1 8 0) (u_4.1.2.1 9 0) h4 h5 h6 h4 (u_4.1.2.1 10) h5 (u_4.1.2.1 11) h6 (u_4.1.2.1 1) h7 (u_4.1.2.1 0) h1 f0 (u_4.1.1 2) (u_4.1.2.1 17) (u_4.1.1 3) (u_4.1.2.1 18) (u_4.1.1 4) (u_4.1.2.1 19) (u_4.1.1 5) (u_4.1.2.1 20) h8 (u_4.1.1 0) (u_9.2.1 0 0) (u_9.2.1 1 0) h9 h9 (u_9.2.1 2) (u_4.1.1 0) (u_4.1.2.1 12 0) (u_4.1.2.1 13 0) (u_4.1.2.1 14 0) (u_4.1.2.1 15 0) (u_4.2.2 0) (u_4.2.2 1) (u_4.2.2 2) (u_4.1.1 1) (u_4.1.1 2) (u_4.1.1 3) (u_4.1.1 4) (u_4.1.1 5) (u_4.1.1 1) (u_4.1.2.1 16) h10 (u_10.2.1 0 0) w9) ++ (u_4.2.1 ++ [])) _ _ := h_12
        refine lv_aload_n hx hb dX11_house_95 rfl (lv_at hl_5 0 rfl) ?_
        refine q_get X hK h_12 14 rfl rfl wf_3 2 (by decide) rfl wm_1_89 dX11_house_96 ?_
        have hq_13 : qW D _ _ ([(h0, .inr (11, [.ref h1, .int 0, .int (u_4.1.2.1 4 0), .int (u_4.1.2.1 5 0), .ref h2, .ref h8, w0, w1, .ref h10, w2, w3, w4, w5, w6, w7, w8, .int z_11])), (h2, .inr (5, [.ref h3, .int (u_4.1.2.1 2 0), .int (u_4.1.2.1 3 0), .int (u_4.1.2.1 4 0), .int (u_4.1.2.1 5 0), .ref (u_4.1.1 0), .ref h7, .int (u_4.1.2.1 6 0), .int (u_4.1.2.1 7 0)])), (h3, .inr (8, [.ref h1, .int (u_4.1.2.1 8 0), .int (u_4.1.2.1 9 0), .ref h4, .ref h5, .ref h6])), (h4, .inl (cy 1, 901, .inl (u_4.1.2.1 10))), (h5, .inl (cy 1, 901, .inl (u_4.1.2.1 11))), (h6, .inl (cy 1, 901, .inl (u_4.1.2.1 1))), (h7, .inl (cy 1, 900, .inl (u_4.1.2.1 0))), (h1, .inl (cy 0, 900, .inl f0)), (h8, .inr (7, [.ref (u_4.1.1 0), .int (u_9.2.1 0 0), .int (u_9.2.1 1 0), .ref h9])), (h9, .inl (cy 1, 10, .inl (u_9.2.1 2))), (h10, .inr (2, [.int (u_10.2.1 0 0), w9])), ((u_4.1.1 0), .inr (3, [.int (u_4.1.2.1 12 0), .int (u_4.1.2.1 13 0), .int (u_4.1.2.1 14 0), .int (u_4.1.2.1 15 0), (va_rf (u_4.2.2 0)), (va_rf (u_4.2.2 1)), (va_rf (u_4.2.2 2)), .ref (u_4.1.1 1), .ref (u_4.1.1 2), .ref (u_4.1.1 3), .ref (u_4.1.1 4), .ref (u_4.1.1 5)])), ((u_4.1.1 1), .inl (cy 1, 10, .inl (u_4.1.2.1 16))), ((u_4.1.1 2), .inl (cy 1, 10, .inl (u_4.1.2.1 17))), ((u_4.1.1 3), .inl (cy 1, 10, .inl (u_4.1.2.1 18))), ((u_4.1.1 4), .inl (cy 1, 10, .inl (u_4.1.2.1 19))), ((u_4.1.1 5), .inl (cy 1, 10, .inl (u_4.1.2.1 20)))] ++ (u_4.2.1 ++ [])) _ _ := q_reT h_12 [0, 1, 2, 3, 4, 5, 6, 7, 12, 13, 16, 14, 15, 8, 9, 10, 11] rfl rfl
        replace hq_13 : qW D _ _ ([(h0, .inr (11, [.ref h1, .int 0, .int (u_4.1.2.1 4 0), .int (u_4.1.2.1 5 0), .ref h2, .ref h8, w0, w1, .ref h10, w2, w3, w4, w5, w6, w7, w8, .int z_11])), (h2, .inr (5, [.ref h3, .int (u_4.1.2.1 2 0), .int (u_4.1.2.1 3 0), .int (u_4.1.2.1 4 0), .int (u_4.1.2.1 5 0), .ref (u_4.1.1 0), .ref h7, .int (u_4.1.2.1 6 0), .int (u_4.1.2.1 7 0)])), (h3, .inr (8, [.ref h1, .int (u_4.1.2.1 8 0), .int (u_4.1.2.1 9 0), .ref h4, .ref h5, .ref h6])), (h4, .inl (cy 1, 901, .inl (u_4.1.2.1 10))), (h5, .inl (cy 1, 901, .inl (u_4.1.2.1 11))), (h6, .inl (cy 1, 901, .inl (u_4.1.2.1 1))), (h7, .inl (cy 1, 900, .inl (u_4.1.2.1 0))), (h1, .inl (cy 0, 900, .inl f0)), (h8, .inr (7, [.ref (u_4.1.1 0), .int (u_9.2.1 0 0), .int (u_9.2.1 1 0), .ref h9])), (h9, .inl (cy 1, 10, .inl (u_9.2.1 2))), (h10, .inr (2, [.int (u_10.2.1 0 0), w9]))] ++ ((wk_27a2fc362 cy (u_4.1.1 0) (u_4.1.2.1 12 0) (u_4.1.2.1 13 0) (u_4.1.2.1 14 0) (u_4.1.2.1 15 0) (u_4.2.2 0) (u_4.2.2 1) (u_4.2.2 2) (u_4.1.1 1) (u_4.1.1 2) (u_4.1.1 3) (u_4.1.1 4) (u_4.1.1 5) (u_4.1.1 1) (u_4.1.2.1 16) (u_4.1.1 2) (u_4.1.2.1 17) (u_4.1.1 3) (u_4.1.2.1 18) (u_4.1.1 4) (u_4.1.2.1 19) (u_4.1.1 5) (u_4.1.2.1 20)) ++ (u_4.2.1 ++ []))) _ _ := hq_13
        exact q_iretW X hr hlk hK h_12 rfl (wk_8f4c68668 cy (u_4.1.1 2) (u_4.1.2.1 17) (u_4.1.1 3) (u_4.1.2.1 18) (u_4.1.1 4) (u_4.1.2.1 19) (u_4.1.1 5) (u_4.1.2.1 20) (u_4.1.1 0) (u_4.1.2.1 12 0) (u_4.1.2.1 13 0) (u_4.1.2.1 14 0) (u_4.1.2.1 15 0) (u_4.2.2 0) (u_4.2.2 1) (u_4.2.2 2) (u_4.1.1 1) (u_4.1.1 2) (u_4.1.1 3) (u_4.1.1 4) (u_4.1.1 5) (u_4.1.1 1) (u_4.1.2.1 16)) (((vcons (u_4.1.1 0) (fun _ => 0)), (vcons (fun _ => 0) (vcons (fun _ => (u_4.1.2.1 4 0)) (vcons (fun _ => (u_4.1.2.1 5 0)) (vcons (fun _ => z_11) (vcons (fun _ => (u_4.1.2.1 2 0)) (vcons (fun _ => (u_4.1.2.1 3 0)) (vcons (fun _ => (u_4.1.2.1 4 0)) (vcons (fun _ => (u_4.1.2.1 5 0)) (vcons (fun _ => (u_4.1.2.1 6 0)) (vcons (fun _ => (u_4.1.2.1 7 0)) (vcons (fun _ => (u_4.1.2.1 8 0)) (vcons (fun _ => (u_4.1.2.1 9 0)) (vcons (u_4.1.2.1 10) (vcons (u_4.1.2.1 11) (vcons (u_4.1.2.1 1) (vcons (u_4.1.2.1 0) (vcons (fun _ => (u_9.2.1 0 0)) (vcons (fun _ => (u_9.2.1 1 0)) (vcons (u_9.2.1 2) (vcons (fun _ => (u_10.2.1 0 0)) (fun _ => (fun _ => 0)))))))))))))))))))))), fun _ _ => 0), ((wk_8f4c68668 cy (u_4.1.1 2) (u_4.1.2.1 17) (u_4.1.1 3) (u_4.1.2.1 18) (u_4.1.1 4) (u_4.1.2.1 19) (u_4.1.1 5) (u_4.1.2.1 20) (u_4.1.1 0) (u_4.1.2.1 12 0) (u_4.1.2.1 13 0) (u_4.1.2.1 14 0) (u_4.1.2.1 15 0) (u_4.2.2 0) (u_4.2.2 1) (u_4.2.2 2) (u_4.1.1 1) (u_4.1.1 2) (u_4.1.1 3) (u_4.1.1 4) (u_4.1.1 5) (u_4.1.1 1) (u_4.1.2.1 16)) ++ (u_4.2.1 ++ [])), (vcons (some (u_4.1.1 0)) (vcons (some h1) (fun _ => none)))) rfl ⟨⟨by omega, by omega⟩, (⟨by decide +kernel, by decide +kernel⟩ : 0 ≤ (0 : Int32).toInt ∧ (0 : Int32).toInt ≤ 900), w4_2, w4_3, (⟨by omega, by omega⟩ : (-2147483648) ≤ (z_11 : Int32).toInt ∧ (z_11 : Int32).toInt ≤ 2147483647), (bw w4_0 (by decide) (by decide)), w4_1, w4_2, w4_3, w4_4, w4_5, w4_6, w4_7, w9_0, (bw w9_1 (by decide) (by decide)), (rg_wide w9_2 (by decide) (by decide)), (bw w10_0 (by decide) (by decide)), (show NH cy ((wk_8f4c68668 cy (u_4.1.1 2) (u_4.1.2.1 17) (u_4.1.1 3) (u_4.1.2.1 18) (u_4.1.1 4) (u_4.1.2.1 19) (u_4.1.1 5) (u_4.1.2.1 20) (u_4.1.1 0) (u_4.1.2.1 12 0) (u_4.1.2.1 13 0) (u_4.1.2.1 14 0) (u_4.1.2.1 15 0) (u_4.2.2 0) (u_4.2.2 1) (u_4.2.2 2) (u_4.1.1 1) (u_4.1.1 2) (u_4.1.1 3) (u_4.1.1 4) (u_4.1.1 5) (u_4.1.1 1) (u_4.1.2.1 16)) ++ (u_4.2.1 ++ [])) h11 (u_4.1.1 0) from Or.inr (house_re (by omega) (by omega) w4_12 y4_0 hq_13.2.1 [4, 5, 0, 1, 2, 3] rfl)), (show (0 : Int32).toInt = 0 from by have q0 : (0 : Int32).toInt = 0 := (by decide); omega), trivial⟩ [0, 7, 1, 2, 3, 4, 5, 6, 12, 13, 16, 8, 9, 10, 11, 14, 15] rfl rfl dX11_house_99 (by show 0 + (((p0 : Int32)).toInt.toNat + 20) ≤ (p1.toInt.toNat + 20); omega) (by show 0 + (451 * ((p0 : Int32)).toInt.toNat + 2000) ≤ (451 * p1.toInt.toNat + 2000); omega)
      · replace c_8 := i_ne (x := (u_4.1.2.1 4 0)) (y := 0) rfl (show (0 : Int32).toInt = 0 by decide) c_8
        refine lv_bipush (v := (-30)) hx hb dX11_house_62 (by decide) ?_
        refine lv_aload_n hx hb dX11_house_64 rfl (lv_at hl_5 1 rfl) ?_
        refine q_get X hK h_7 0 rfl rfl wf_11 2 (by decide) rfl wm_2_100 dX11_house_65 ?_
        refine lv_isub hx hb dX11_house_68 ?_
        refine q_any (fun z_14 hz_14 => ?_)
        exact q_iretW X hr hlk hK h_7 rfl (wk_27a2fc362 cy (u_4.1.1 0) (u_4.1.2.1 12 0) (u_4.1.2.1 13 0) (u_4.1.2.1 14 0) (u_4.1.2.1 15 0) (u_4.2.2 0) (u_4.2.2 1) (u_4.2.2 2) (u_4.1.1 1) (u_4.1.1 2) (u_4.1.1 3) (u_4.1.1 4) (u_4.1.1 5) (u_4.1.1 1) (u_4.1.2.1 16) (u_4.1.1 2) (u_4.1.2.1 17) (u_4.1.1 3) (u_4.1.2.1 18) (u_4.1.1 4) (u_4.1.2.1 19) (u_4.1.1 5) (u_4.1.2.1 20)) (((vcons h11 (fun _ => 0)), (vcons (fun _ => 0) (vcons (fun _ => (u_4.1.2.1 4 0)) (vcons (fun _ => (u_4.1.2.1 5 0)) (vcons (fun _ => p4) (vcons (fun _ => (u_4.1.2.1 2 0)) (vcons (fun _ => (u_4.1.2.1 3 0)) (vcons (fun _ => (u_4.1.2.1 4 0)) (vcons (fun _ => (u_4.1.2.1 5 0)) (vcons (fun _ => (u_4.1.2.1 6 0)) (vcons (fun _ => (u_4.1.2.1 7 0)) (vcons (fun _ => (u_4.1.2.1 8 0)) (vcons (fun _ => (u_4.1.2.1 9 0)) (vcons (u_4.1.2.1 10) (vcons (u_4.1.2.1 11) (vcons (u_4.1.2.1 1) (vcons (u_4.1.2.1 0) (vcons (fun _ => p13) (vcons (fun _ => p14) (vcons f5 (vcons (fun _ => p15) (fun _ => (fun _ => 0)))))))))))))))))))))), fun _ _ => 0), ((wk_27a2fc362 cy (u_4.1.1 0) (u_4.1.2.1 12 0) (u_4.1.2.1 13 0) (u_4.1.2.1 14 0) (u_4.1.2.1 15 0) (u_4.2.2 0) (u_4.2.2 1) (u_4.2.2 2) (u_4.1.1 1) (u_4.1.1 2) (u_4.1.1 3) (u_4.1.1 4) (u_4.1.1 5) (u_4.1.1 1) (u_4.1.2.1 16) (u_4.1.1 2) (u_4.1.2.1 17) (u_4.1.1 3) (u_4.1.2.1 18) (u_4.1.1 4) (u_4.1.2.1 19) (u_4.1.1 5) (u_4.1.2.1 20)) ++ (u_4.2.1 ++ [])), (vcons (some (u_4.1.1 0)) (vcons (some h1) (fun _ => none)))) rfl ⟨⟨by omega, by omega⟩, (⟨by decide +kernel, by decide +kernel⟩ : 0 ≤ (0 : Int32).toInt ∧ (0 : Int32).toInt ≤ 900), w4_2, w4_3, hp4, (bw w4_0 (by decide) (by decide)), w4_1, w4_2, w4_3, w4_4, w4_5, w4_6, w4_7, hp13, hp14, (rg_wide rf5 (by decide) (by decide)), hp15, (show NH cy ((wk_27a2fc362 cy (u_4.1.1 0) (u_4.1.2.1 12 0) (u_4.1.2.1 13 0) (u_4.1.2.1 14 0) (u_4.1.2.1 15 0) (u_4.2.2 0) (u_4.2.2 1) (u_4.2.2 2) (u_4.1.1 1) (u_4.1.1 2) (u_4.1.1 3) (u_4.1.1 4) (u_4.1.1 5) (u_4.1.1 1) (u_4.1.2.1 16) (u_4.1.1 2) (u_4.1.2.1 17) (u_4.1.1 3) (u_4.1.2.1 18) (u_4.1.1 4) (u_4.1.2.1 19) (u_4.1.1 5) (u_4.1.2.1 20)) ++ (u_4.2.1 ++ [])) h11 h11 from Or.inl rfl), (show (0 : Int32).toInt = 0 from by have q0 : (0 : Int32).toInt = 0 := (by decide); omega), trivial⟩ [0, 10, 4, 5, 6, 7, 8, 9, 1, 2, 3, 11, 12, 13, 14, 15, 16] rfl rfl dX11_house_69 (by show 0 + (((p0 : Int32)).toInt.toNat + 20) ≤ (p1.toInt.toNat + 20); omega) (by show 0 + (451 * ((p0 : Int32)).toInt.toNat + 2000) ≤ (451 * p1.toInt.toNat + 2000); omega)
    · replace c_2 := i_nle (x := p0) (y := p1) rfl rfl c_2
      refine lv_bipush (v := (-3)) hx hb dX11_house_12 (by decide) ?_
      exact q_iretW X hr hlk hK h rfl [] (((vcons h11 (fun _ => 0)), (vcons (fun _ => p1) (vcons (fun _ => p2) (vcons (fun _ => p3) (vcons (fun _ => p4) (vcons (fun _ => p5) (vcons (fun _ => p6) (vcons (fun _ => p7) (vcons (fun _ => p8) (vcons (fun _ => p9) (vcons (fun _ => p10) (vcons (fun _ => p11) (vcons (fun _ => p12) (vcons f1 (vcons f2 (vcons f3 (vcons f4 (vcons (fun _ => p13) (vcons (fun _ => p14) (vcons f5 (vcons (fun _ => p15) (fun _ => (fun _ => 0)))))))))))))))))))))), fun _ _ => 0), ([] ++ []), (vcons o0 (vcons o1 (fun _ => none)))) rfl ⟨⟨by decide +kernel, by decide +kernel⟩, hp1, hp2, hp3, hp4, hp5, hp6, hp7, hp8, hp9, hp10, hp11, hp12, hp13, hp14, (rg_wide rf5 (by decide) (by decide)), hp15, (show NH cy ([] ++ []) h11 h11 from Or.inl rfl), (show (p1 : Int32).toInt = 0 from by omega), trivial⟩ [0, 1, 2, 3, 4, 5, 6, 7, 8, 9, 10] rfl rfl dX11_house_14 (by show 0 ≤ (p1.toInt.toNat + 20); omega) (by show 0 ≤ (451 * p1.toInt.toNat + 2000); omega)
set_option maxHeartbeats 4000000 in
set_option maxRecDepth 100000 in
theorem gX11_house_0ea43cb (l : Launch) (D : va_G) (cy : Nat → ClassId) (h0 : Nat) (p0 : Int32) (w0 : Value) (p1 : Int32) (p2 : Int32) (p3 : Int32) (w1 : Value) (w2 : Value) (w3 : Value) (w4 : Value) (w5 : Value) (w6 : Value) (w7 : Value) (w8 : Value) (w9 : Value) (w10 : Value) (w11 : Value) (w12 : Value) (p4 : Int32) (hp0 : (-2147483648) ≤ (p0).toInt ∧ (p0).toInt ≤ 2147483647) (hp1 : 0 ≤ (p1).toInt ∧ (p1).toInt ≤ 900) (hp2 : (-2147483648) ≤ (p2).toInt ∧ (p2).toInt ≤ 2147483647) (hp3 : (-2147483648) ≤ (p3).toInt ∧ (p3).toInt ≤ 2147483647) (hp4 : (-2147483648) ≤ (p4).toInt ∧ (p4).toInt ≤ 2147483647) (hpre0 : (p0 : Int32).toInt < 0 ∨ (p1 : Int32).toInt < (p0 : Int32).toInt) (sz : Nat) : MIw l yX11_house cX11_house 3 .int { frames := 0, cells := 0, slots := 0, locals := 0 } [.ref h0, .int p0] D cy [(h0, .inr (11, [w0, .int p1, .int p2, .int p3, w1, w2, w3, w4, w5, w6, w7, w8, w9, w10, w11, w12, .int p4]))] sz (fun r u => r = (-3) ∧ True) (fun u => [(h0, .inr (11, [w0, .int p1, .int p2, .int p3, w1, w2, w3, w4, w5, w6, w7, w8, w9, w10, w11, w12, .int p4]))]) 0 0 := by
  refine q_ent (own := RX11) (by decide) rfl (Nat.le_of_ble_eq_true rfl) (fun p e s m below meth c ls X hr hlk hnm hK hT h hA hl => ?_)
  obtain ⟨hx, hb, hml, hown, ht⟩ := id X
  replace h : qW D _ _ ([(h0, .inr (11, [w0, .int p1, .int p2, .int p3, w1, w2, w3, w4, w5, w6, w7, w8, w9, w10, w11, w12, .int p4]))] ++ []) _ _ := h
  replace hl : lv_has ls 3 [(0, .ref h0), (1, .int p0)] := hl
  refine lv_iload_n hx hb dX11_house_0 rfl (lv_at hl 1 rfl) ?_
  refine lv_if_lt (tgt := 12) hx hb dX11_house_1 (by decide) (fun c_1 => ?_) (fun c_1 => ?_)
  · replace c_1 := i_lt (x := p0) (y := 0) rfl (show (0 : Int32).toInt = 0 by decide) c_1
    refine lv_bipush (v := (-3)) hx hb dX11_house_12 (by decide) ?_
    exact q_iretW X hr hlk hK h rfl [] ((fun _ => 0, fun _ _ => 0, fun _ _ => 0), ([] ++ []), fun _ => none) rfl ⟨rfl, trivial⟩ [0] rfl rfl dX11_house_14 (Nat.le_of_ble_eq_true rfl) (Nat.le_of_ble_eq_true rfl)
  · replace c_1 := i_nlt (x := p0) (y := 0) rfl (show (0 : Int32).toInt = 0 by decide) c_1
    refine lv_iload_n hx hb dX11_house_4 rfl (lv_at hl 1 rfl) ?_
    refine lv_aload_n hx hb dX11_house_5 rfl (lv_at hl 0 rfl) ?_
    refine q_get X hK h 0 rfl rfl wf_11 1 (by decide) rfl wm_2_99 dX11_house_6 ?_
    refine lv_icmp_le (tgt := 15) hx hb dX11_house_9 (by decide) (fun c_2 => ?_) (fun c_2 => ?_)
    · replace c_2 := i_le (x := p0) (y := p1) rfl rfl c_2
      exfalso
      omega
    · replace c_2 := i_nle (x := p0) (y := p1) rfl rfl c_2
      refine lv_bipush (v := (-3)) hx hb dX11_house_12 (by decide) ?_
      exact q_iretW X hr hlk hK h rfl [] ((fun _ => 0, fun _ _ => 0, fun _ _ => 0), ([] ++ []), fun _ => none) rfl ⟨rfl, trivial⟩ [0] rfl rfl dX11_house_14 (Nat.le_of_ble_eq_true rfl) (Nat.le_of_ble_eq_true rfl)
set_option maxHeartbeats 4000000 in
set_option maxRecDepth 100000 in
theorem gX11_person_a9fb441 (l : Launch) (D : va_G) (cy : Nat → ClassId) (h0 : Nat) (h1 : Nat) (h2 : Nat) (h3 : Nat) (h4 : Nat) (h5 : Nat) (h6 : Nat) (h7 : Nat) (p0 : Int32) (p1 : Int32) (w0 : Value) (p2 : Int32) (p3 : Int32) (p4 : Int32) (w1 : Value) (w2 : Value) (w3 : Value) (w4 : Value) (w5 : Value) (w6 : Value) (w7 : Value) (w8 : Value) (w9 : Value) (w10 : Value) (w11 : Value) (p5 : Int32) (p6 : Int32) (p7 : Int32) (p8 : Int32) (p9 : Int32) (p10 : Int32) (p11 : Int32) (w12 : Value) (w13 : Value) (w14 : Value) (w15 : Value) (f0 : Nat → Int32) (f1 : Nat → Int32) (f2 : Nat → Int32) (f3 : Nat → Int32) (f4 : Nat → Int32) (hp0 : (-2147483648) ≤ (p0).toInt ∧ (p0).toInt ≤ 2147483647) (hp1 : (-2147483648) ≤ (p1).toInt ∧ (p1).toInt ≤ 2147483647) (hp2 : 0 ≤ (p2).toInt ∧ (p2).toInt ≤ 900) (hp3 : (-2147483648) ≤ (p3).toInt ∧ (p3).toInt ≤ 2147483647) (hp4 : (-2147483648) ≤ (p4).toInt ∧ (p4).toInt ≤ 2147483647) (hp5 : (-2147483648) ≤ (p5).toInt ∧ (p5).toInt ≤ 2147483647) (hp6 : (-2147483648) ≤ (p6).toInt ∧ (p6).toInt ≤ 2147483647) (hp7 : (-2147483648) ≤ (p7).toInt ∧ (p7).toInt ≤ 2147483647) (hp8 : 1 ≤ (p8).toInt ∧ (p8).toInt ≤ 3) (hp9 : 0 ≤ (p9).toInt ∧ (p9).toInt ≤ 10) (hp10 : (-2147483648) ≤ (p10).toInt ∧ (p10).toInt ≤ 2147483647) (hp11 : (-2147483648) ≤ (p11).toInt ∧ (p11).toInt ≤ 2147483647) (rf4 : RG f4 10 0 999) (sz : Nat) : MI l yX11_person cX11_person 4 .int { frames := 2, cells := 0, slots := 0, locals := 43 } [.ref h0, .int p0, .int p1] D cy (wk_235474b32 cy h0 w0 p2 p3 p4 w1 h1 w2 w3 w4 w5 w6 w7 w8 w9 w10 w11 p5 h1 h2 p6 p7 h7 h2 p8 p9 p10 p11 w12 w13 w14 w15 h3 h4 h5 h6 h3 f0 h4 f1 h5 f2 h6 f3 h7 f4) sz (fun r u => ((-2147483648) ≤ r.toInt ∧ r.toInt ≤ 2147483647) ∧ True) (fun u => (wk_235474b32 cy h0 w0 p2 p3 p4 w1 h1 w2 w3 w4 w5 w6 w7 w8 w9 w10 w11 p5 h1 h2 p6 p7 h7 h2 p8 p9 p10 p11 w12 w13 w14 w15 h3 h4 h5 h6 h3 f0 h4 f1 h5 f2 h6 f3 h7 f4)) 0 0 := by
  refine q_ent (own := RX11) (by decide) rfl (Nat.le_of_ble_eq_true rfl) (fun p e s m below meth c ls X hr hlk hnm hK hT h hA hl => ?_)
  obtain ⟨hx, hb, hml, hown, ht⟩ := id X
  replace hl : lv_has ls 4 [(0, .ref h0), (1, .int p0), (2, .int p1)] := hl
  refine lv_aload_n hx hb dX11_person_0 rfl (lv_at hl 0 rfl) ?_
  refine lv_iload_n hx hb dX11_person_1 rfl (lv_at hl 1 rfl) ?_
  refine q_callVi (rest := []) (wr := [(h3, .inl (cy 1, 10, .inl f0)), (h4, .inl (cy 1, 10, .inl f1)), (h5, .inl (cy 1, 10, .inl f2)), (h6, .inl (cy 1, 10, .inl f3)), (h7, .inl (cy 1, 10, .inl f4))]) X hK hT hA h (fun sz => gX11_isPerson_a5d2bee l D cy h0 h1 h2 p0 w0 p2 p3 p4 w1 w2 w3 w4 w5 w6 w7 w8 w9 w10 w11 p5 p6 p7 (.ref h7) p8 p9 p10 p11 w12 w13 w14 w15 (.ref h3) (.ref h4) (.ref h5) (.ref h6) (i_rng _) hp2 (i_rng _) (i_rng _) (i_rng _) (i_rng _) (i_rng _) hp8 hp9 (i_rng _) (i_rng _) sz) wm_3_174 wm_3_177 wm_1_1 hd_X11_isPerson wm_3_176 wp_2_8 (ci := 11) (q0 := 0) rfl rfl ⟨Nat.le_of_ble_eq_true rfl, Nat.le_of_ble_eq_true rfl⟩ hl.1 rfl (Nat.le_of_ble_eq_true rfl) dX11_person_2 ⟨Nat.le_of_ble_eq_true rfl, Nat.le_of_ble_eq_true rfl⟩ [0, 1, 2] [3, 4, 5, 6, 7] rfl rfl (by decide) rfl rfl (fun r_1 u_1 H locs w_1 h_1 => ?_)
  clear h
  obtain ⟨wr_1, y1_0, _⟩ := w_1
  replace h_1 : qW D _ _ [(h3, .inl (cy 1, 10, .inl f0)), (h4, .inl (cy 1, 10, .inl f1)), (h5, .inl (cy 1, 10, .inl f2)), (h6, .inl (cy 1, 10, .inl f3)), (h7, .inl (cy 1, 10, .inl f4)), (h0, .inr (11, [w0, .int p2, .int p3, .int p4, w1, .ref h1, w2, w3, w4, w5, w6, w7, w8, w9, w10, w11, .int p5])), (h1, .inr (7, [.ref h2, .int p6, .int p7, .ref h7])), (h2, .inr (3, [.int p8, .int p9, .int p10, .int p11, w12, w13, w14, w15, .ref h3, .ref h4, .ref h5, .ref h6]))] _ _ := h_1
  refine lv_if_ne (tgt := 11) hx hb dX11_person_5 (by decide) (fun c_2 => ?_) (fun c_2 => ?_)
  · replace c_2 := i_ne (x := r_1) (y := 0) rfl (show (0 : Int32).toInt = 0 by decide) c_2
    refine lv_aload_n hx hb dX11_person_11 rfl (lv_at hl 0 rfl) ?_
    refine q_get X hK h_1 5 rfl rfl wf_11 5 (by decide) rfl wm_2_103 dX11_person_12 ?_
    refine q_get X hK h_1 6 rfl rfl wf_7 0 (by decide) rfl wm_2_42 dX11_person_15 ?_
    refine lv_astore_n (lv' := [(3, .ref h2), (0, .ref h0), (1, .int p0), (2, .int p1)]) hx hb dX11_person_18 rfl hl (by decide) rfl (fun ls_3 hl_3 => ?_)
    clear hl
    refine lv_iload_n hx hb dX11_person_19 rfl (lv_at hl_3 3 rfl) ?_
    by_cases c_4 : p1 = 0
    · have ec_4 : (p1).toInt = 0 := by rw [c_4]; decide
      refine lv_tableIn (off := 52) (tgt := 72) hx hb dX11_person_20 (by rw [c_4]; decide +kernel) (by rw [c_4]; decide +kernel) (by rw [c_4]; decide +kernel) (by decide) ?_
      refine lv_aload_n hx hb dX11_person_72 rfl (lv_at hl_3 1 rfl) ?_
      refine q_get X hK h_1 5 rfl rfl wf_11 5 (by decide) rfl wm_2_103 dX11_person_73 ?_
      refine q_get X hK h_1 6 rfl rfl wf_7 3 (by decide) rfl wm_2_54 dX11_person_76 ?_
      refine lv_iload_n hx hb dX11_person_79 rfl (lv_at hl_3 2 rfl) ?_
      refine q_iald X hK h_1 4 rfl (i_in rfl (by omega) (by omega)) dX11_person_80 ?_
      obtain ⟨z_5, ez_5, hz_5⟩ := rg_get rf4 (x := p0) rfl (by omega) (by omega)
      refine q_c z_5 ez_5 ?_
      clear ez_5
      refine lv_bipush (v := 100) hx hb dX11_person_81 (by decide) ?_
      refine lv_idiv hx hb dX11_person_83 (by decide) ?_
      obtain ⟨z_6, ez_6, hz_6⟩ := e_div (x := z_5) (y := 100) rfl (show (100 : Int32).toInt = 100 by decide) (by omega) (by omega)
      refine q_c z_6 ez_6 ?_
      clear ez_6
      exact q_iret X hr hlk hK h_1 rfl (fun _ => 0, fun _ _ => 0, fun _ _ => 0) ⟨⟨by omega, by omega⟩, trivial⟩ [5, 6, 7, 0, 1, 2, 3, 4] rfl rfl dX11_person_84 (Nat.le_of_ble_eq_true rfl) (Nat.le_of_ble_eq_true rfl)
    by_cases c_7 : p1 = 1
    · have ec_7 : (p1).toInt = 1 := by rw [c_7]; decide
      refine lv_tableIn (off := 65) (tgt := 85) hx hb dX11_person_20 (by rw [c_7]; decide +kernel) (by rw [c_7]; decide +kernel) (by rw [c_7]; decide +kernel) (by decide) ?_
      refine lv_aload_n hx hb dX11_person_85 rfl (lv_at hl_3 1 rfl) ?_
      refine q_get X hK h_1 5 rfl rfl wf_11 5 (by decide) rfl wm_2_103 dX11_person_86 ?_
      refine q_get X hK h_1 6 rfl rfl wf_7 3 (by decide) rfl wm_2_54 dX11_person_89 ?_
      refine lv_iload_n hx hb dX11_person_92 rfl (lv_at hl_3 2 rfl) ?_
      refine q_iald X hK h_1 4 rfl (i_in rfl (by omega) (by omega)) dX11_person_93 ?_
      obtain ⟨z_8, ez_8, hz_8⟩ := rg_get rf4 (x := p0) rfl (by omega) (by omega)
      refine q_c z_8 ez_8 ?_
      clear ez_8
      refine lv_bipush (v := 10) hx hb dX11_person_94 (by decide) ?_
      refine lv_idiv hx hb dX11_person_96 (by decide) ?_
      obtain ⟨z_9, ez_9, hz_9⟩ := e_div (x := z_8) (y := 10) rfl (show (10 : Int32).toInt = 10 by decide) (by omega) (by omega)
      refine q_c z_9 ez_9 ?_
      clear ez_9
      refine lv_bipush (v := 10) hx hb dX11_person_97 (by decide) ?_
      refine lv_irem hx hb dX11_person_99 (by decide) ?_
      obtain ⟨z_10, ez_10, hz_10⟩ := e_rem (x := z_9) (y := 10) rfl (show (10 : Int32).toInt = 10 by decide) (by omega) (by omega)
      refine q_c z_10 ez_10 ?_
      clear ez_10
      exact q_iret X hr hlk hK h_1 rfl (fun _ => 0, fun _ _ => 0, fun _ _ => 0) ⟨⟨by omega, by omega⟩, trivial⟩ [5, 6, 7, 0, 1, 2, 3, 4] rfl rfl dX11_person_100 (Nat.le_of_ble_eq_true rfl) (Nat.le_of_ble_eq_true rfl)
    by_cases c_11 : p1 = 2
    · have ec_11 : (p1).toInt = 2 := by rw [c_11]; decide
      refine lv_tableIn (off := 81) (tgt := 101) hx hb dX11_person_20 (by rw [c_11]; decide +kernel) (by rw [c_11]; decide +kernel) (by rw [c_11]; decide +kernel) (by decide) ?_
      refine lv_aload_n hx hb dX11_person_101 rfl (lv_at hl_3 1 rfl) ?_
      refine q_get X hK h_1 5 rfl rfl wf_11 5 (by decide) rfl wm_2_103 dX11_person_102 ?_
      refine q_get X hK h_1 6 rfl rfl wf_7 3 (by decide) rfl wm_2_54 dX11_person_105 ?_
      refine lv_iload_n hx hb dX11_person_108 rfl (lv_at hl_3 2 rfl) ?_
      refine q_iald X hK h_1 4 rfl (i_in rfl (by omega) (by omega)) dX11_person_109 ?_
      obtain ⟨z_12, ez_12, hz_12⟩ := rg_get rf4 (x := p0) rfl (by omega) (by omega)
      refine q_c z_12 ez_12 ?_
      clear ez_12
      refine lv_bipush (v := 10) hx hb dX11_person_110 (by decide) ?_
      refine lv_irem hx hb dX11_person_112 (by decide) ?_
      obtain ⟨z_13, ez_13, hz_13⟩ := e_rem (x := z_12) (y := 10) rfl (show (10 : Int32).toInt = 10 by decide) (by omega) (by omega)
      refine q_c z_13 ez_13 ?_
      clear ez_13
      exact q_iret X hr hlk hK h_1 rfl (fun _ => 0, fun _ _ => 0, fun _ _ => 0) ⟨⟨by omega, by omega⟩, trivial⟩ [5, 6, 7, 0, 1, 2, 3, 4] rfl rfl dX11_person_113 (Nat.le_of_ble_eq_true rfl) (Nat.le_of_ble_eq_true rfl)
    by_cases c_14 : p1 = 3
    · have ec_14 : (p1).toInt = 3 := by rw [c_14]; decide
      refine lv_tableIn (off := 94) (tgt := 114) hx hb dX11_person_20 (by rw [c_14]; decide +kernel) (by rw [c_14]; decide +kernel) (by rw [c_14]; decide +kernel) (by decide) ?_
      refine lv_aload_n hx hb dX11_person_114 rfl (lv_at hl_3 0 rfl) ?_
      refine q_get X hK h_1 7 rfl rfl wf_3 8 (by decide) rfl wm_1_107 dX11_person_115 ?_
      refine lv_iload_n hx hb dX11_person_118 rfl (lv_at hl_3 2 rfl) ?_
      refine q_iald X hK h_1 0 rfl (i_in rfl (by omega) (by omega)) dX11_person_119 ?_
      refine q_any (fun z_15 hz_15 => ?_)
      exact q_iret X hr hlk hK h_1 rfl (fun _ => 0, fun _ _ => 0, fun _ _ => 0) ⟨⟨by omega, by omega⟩, trivial⟩ [5, 6, 7, 0, 1, 2, 3, 4] rfl rfl dX11_person_120 (Nat.le_of_ble_eq_true rfl) (Nat.le_of_ble_eq_true rfl)
    by_cases c_16 : p1 = 4
    · have ec_16 : (p1).toInt = 4 := by rw [c_16]; decide
      refine lv_tableIn (off := 101) (tgt := 121) hx hb dX11_person_20 (by rw [c_16]; decide +kernel) (by rw [c_16]; decide +kernel) (by rw [c_16]; decide +kernel) (by decide) ?_
      refine lv_aload_n hx hb dX11_person_121 rfl (lv_at hl_3 0 rfl) ?_
      refine q_get X hK h_1 7 rfl rfl wf_3 9 (by decide) rfl wm_1_111 dX11_person_122 ?_
      refine lv_iload_n hx hb dX11_person_125 rfl (lv_at hl_3 2 rfl) ?_
      refine q_iald X hK h_1 1 rfl (i_in rfl (by omega) (by omega)) dX11_person_126 ?_
      refine q_any (fun z_17 hz_17 => ?_)
      refine lv_sipush (v := 999) hx hb dX11_person_127 (by decide) ?_
      refine va_mmin hx hb (hml.trans hl_3.1.symm) hown (ht _ wm_3_178) (ht _ wm_2_171) (ht _ wm_1_13) (ht _ wm_2_172) (Nat.le_of_ble_eq_true rfl) (Nat.le_of_ble_eq_true rfl) (Nat.le_of_ble_eq_true rfl) (Nat.le_of_ble_eq_true rfl) dX11_person_130 ?_
      obtain ⟨z_18, ez_18, hz_18⟩ := e_min (x := z_17) (y := 999) rfl (show (999 : Int32).toInt = 999 by decide)
      refine q_c z_18 ez_18 ?_
      clear ez_18
      exact q_iret X hr hlk hK h_1 rfl (fun _ => 0, fun _ _ => 0, fun _ _ => 0) ⟨⟨by omega, by omega⟩, trivial⟩ [5, 6, 7, 0, 1, 2, 3, 4] rfl rfl dX11_person_133 (Nat.le_of_ble_eq_true rfl) (Nat.le_of_ble_eq_true rfl)
    by_cases c_19 : p1 = 5
    · have ec_19 : (p1).toInt = 5 := by rw [c_19]; decide
      refine lv_tableIn (off := 114) (tgt := 134) hx hb dX11_person_20 (by rw [c_19]; decide +kernel) (by rw [c_19]; decide +kernel) (by rw [c_19]; decide +kernel) (by decide) ?_
      refine lv_aload_n hx hb dX11_person_134 rfl (lv_at hl_3 0 rfl) ?_
      refine q_get X hK h_1 7 rfl rfl wf_3 10 (by decide) rfl wm_1_114 dX11_person_135 ?_
      refine lv_iload_n hx hb dX11_person_138 rfl (lv_at hl_3 2 rfl) ?_
      refine q_iald X hK h_1 2 rfl (i_in rfl (by omega) (by omega)) dX11_person_139 ?_
      refine q_any (fun z_20 hz_20 => ?_)
      exact q_iret X hr hlk hK h_1 rfl (fun _ => 0, fun _ _ => 0, fun _ _ => 0) ⟨⟨by omega, by omega⟩, trivial⟩ [5, 6, 7, 0, 1, 2, 3, 4] rfl rfl dX11_person_140 (Nat.le_of_ble_eq_true rfl) (Nat.le_of_ble_eq_true rfl)
    by_cases c_21 : p1 = 6
    · have ec_21 : (p1).toInt = 6 := by rw [c_21]; decide
      refine lv_tableIn (off := 121) (tgt := 141) hx hb dX11_person_20 (by rw [c_21]; decide +kernel) (by rw [c_21]; decide +kernel) (by rw [c_21]; decide +kernel) (by decide) ?_
      refine lv_aload_n hx hb dX11_person_141 rfl (lv_at hl_3 0 rfl) ?_
      refine q_get X hK h_1 7 rfl rfl wf_3 11 (by decide) rfl wm_1_117 dX11_person_142 ?_
      refine lv_iload_n hx hb dX11_person_145 rfl (lv_at hl_3 2 rfl) ?_
      refine q_iald X hK h_1 3 rfl (i_in rfl (by omega) (by omega)) dX11_person_146 ?_
      refine q_any (fun z_22 hz_22 => ?_)
      exact q_iret X hr hlk hK h_1 rfl (fun _ => 0, fun _ _ => 0, fun _ _ => 0) ⟨⟨by omega, by omega⟩, trivial⟩ [5, 6, 7, 0, 1, 2, 3, 4] rfl rfl dX11_person_147 (Nat.le_of_ble_eq_true rfl) (Nat.le_of_ble_eq_true rfl)
    by_cases c_23 : p1 = 7
    · have ec_23 : (p1).toInt = 7 := by rw [c_23]; decide
      refine lv_tableIn (off := 128) (tgt := 148) hx hb dX11_person_20 (by rw [c_23]; decide +kernel) (by rw [c_23]; decide +kernel) (by rw [c_23]; decide +kernel) (by decide) ?_
      refine lv_aload_n hx hb dX11_person_148 rfl (lv_at hl_3 1 rfl) ?_
      refine q_get X hK h_1 5 rfl rfl wf_11 5 (by decide) rfl wm_2_103 dX11_person_149 ?_
      refine q_get X hK h_1 6 rfl rfl wf_7 2 (by decide) rfl wm_2_49 dX11_person_152 ?_
      refine lv_iload_n hx hb dX11_person_155 rfl (lv_at hl_3 2 rfl) ?_
      refine lv_ishr hx hb dX11_person_156 ?_
      refine q_any (fun z_24 hz_24 => ?_)
      refine lv_iconst (v := 1) hx hb dX11_person_157 (by decide) ?_
      refine lv_iand hx hb dX11_person_158 ?_
      obtain ⟨z_25, ez_25, hz_25⟩ := e_and2 (x := z_24) (y := 1) (show (1 : Int32).toInt = 1 by decide) (by omega)
      refine q_c z_25 ez_25 ?_
      clear ez_25
      exact q_iret X hr hlk hK h_1 rfl (fun _ => 0, fun _ _ => 0, fun _ _ => 0) ⟨⟨by omega, by omega⟩, trivial⟩ [5, 6, 7, 0, 1, 2, 3, 4] rfl rfl dX11_person_159 (Nat.le_of_ble_eq_true rfl) (Nat.le_of_ble_eq_true rfl)
    by_cases c_26 : p1 = 8
    · have ec_26 : (p1).toInt = 8 := by rw [c_26]; decide
      refine lv_tableIn (off := 140) (tgt := 160) hx hb dX11_person_20 (by rw [c_26]; decide +kernel) (by rw [c_26]; decide +kernel) (by rw [c_26]; decide +kernel) (by decide) ?_
      refine lv_aload_n hx hb dX11_person_160 rfl (lv_at hl_3 1 rfl) ?_
      refine q_get X hK h_1 5 rfl rfl wf_11 5 (by decide) rfl wm_2_103 dX11_person_161 ?_
      refine q_callVi (rest := []) (wr := [(h5, .inl (cy 1, 10, .inl f2)), (h6, .inl (cy 1, 10, .inl f3)), (h7, .inl (cy 1, 10, .inl f4)), (h0, .inr (11, [w0, .int p2, .int p3, .int p4, w1, .ref h1, w2, w3, w4, w5, w6, w7, w8, w9, w10, w11, .int p5]))]) X hK hT hA h_1 (fun sz => gX7_inTown_696679d l D cy h1 h2 h3 h4 p6 p7 (.ref h7) p8 p9 p10 p11 w12 w13 w14 w15 (.ref h5) (.ref h6) f0 f1 (i_rng _) (i_rng _) hp8 hp9 (i_rng _) (i_rng _) sz) wm_3_179 wm_3_182 wm_1_9 hd_X7_inTown wm_3_180 wm_3_181 (ci := 7) (q0 := 0) rfl rfl ⟨Nat.le_of_ble_eq_true rfl, Nat.le_of_ble_eq_true rfl⟩ hl_3.1 rfl (Nat.le_of_ble_eq_true rfl) dX11_person_164 ⟨Nat.le_of_ble_eq_true rfl, Nat.le_of_ble_eq_true rfl⟩ [6, 7, 0, 1] [2, 3, 4, 5] rfl rfl (by decide) rfl rfl (fun r_27 u_27 H locs w_27 h_27 => ?_)
      clear h_1
      obtain ⟨wr_27, _⟩ := w_27
      replace h_27 : qW D _ _ [(h5, .inl (cy 1, 10, .inl f2)), (h6, .inl (cy 1, 10, .inl f3)), (h7, .inl (cy 1, 10, .inl f4)), (h0, .inr (11, [w0, .int p2, .int p3, .int p4, w1, .ref h1, w2, w3, w4, w5, w6, w7, w8, w9, w10, w11, .int p5])), (h1, .inr (7, [.ref h2, .int p6, .int p7, .ref h7])), (h2, .inr (3, [.int p8, .int p9, .int p10, .int p11, w12, w13, w14, w15, .ref h3, .ref h4, .ref h5, .ref h6])), (h3, .inl (cy 1, 10, .inl f0)), (h4, .inl (cy 1, 10, .inl f1))] _ _ := h_27
      refine lv_iload_n hx hb dX11_person_167 rfl (lv_at hl_3 2 rfl) ?_
      refine lv_ishr hx hb dX11_person_168 ?_
      obtain ⟨z_28, ez_28, hz_28⟩ := e_shr (x := r_27) p0 rfl (by omega)
      refine q_c z_28 ez_28 ?_
      clear ez_28
      refine lv_iconst (v := 1) hx hb dX11_person_169 (by decide) ?_
      refine lv_iand hx hb dX11_person_170 ?_
      obtain ⟨z_29, ez_29, hz_29⟩ := e_and2 (x := z_28) (y := 1) (show (1 : Int32).toInt = 1 by decide) (by omega)
      refine q_c z_29 ez_29 ?_
      clear ez_29
      exact q_iret X hr hlk hK h_27 rfl (fun _ => 0, fun _ _ => 0, fun _ _ => 0) ⟨⟨by omega, by omega⟩, trivial⟩ [3, 4, 5, 6, 7, 0, 1, 2] rfl rfl dX11_person_171 (Nat.le_of_ble_eq_true rfl) (Nat.le_of_ble_eq_true rfl)
    have nc_4 := lv_neT c_4 (show (0 : Int32).toInt = 0 by decide)
    have nc_7 := lv_neT c_7 (show (1 : Int32).toInt = 1 by decide)
    have nc_11 := lv_neT c_11 (show (2 : Int32).toInt = 2 by decide)
    have nc_14 := lv_neT c_14 (show (3 : Int32).toInt = 3 by decide)
    have nc_16 := lv_neT c_16 (show (4 : Int32).toInt = 4 by decide)
    have nc_19 := lv_neT c_19 (show (5 : Int32).toInt = 5 by decide)
    have nc_21 := lv_neT c_21 (show (6 : Int32).toInt = 6 by decide)
    have nc_23 := lv_neT c_23 (show (7 : Int32).toInt = 7 by decide)
    have nc_26 := lv_neT c_26 (show (8 : Int32).toInt = 8 by decide)
    refine lv_tableOut (tgt := 172) hx hb dX11_person_20 (by omega) (by decide) ?_
    refine lv_bipush (v := (-2)) hx hb dX11_person_172 (by decide) ?_
    exact q_iret X hr hlk hK h_1 rfl (fun _ => 0, fun _ _ => 0, fun _ _ => 0) ⟨⟨by decide +kernel, by decide +kernel⟩, trivial⟩ [5, 6, 7, 0, 1, 2, 3, 4] rfl rfl dX11_person_174 (Nat.le_of_ble_eq_true rfl) (Nat.le_of_ble_eq_true rfl)
  · replace c_2 := i_eq (x := r_1) (y := 0) rfl (show (0 : Int32).toInt = 0 by decide) c_2
    refine lv_bipush (v := (-2)) hx hb dX11_person_8 (by decide) ?_
    exact q_iret X hr hlk hK h_1 rfl (fun _ => 0, fun _ _ => 0, fun _ _ => 0) ⟨⟨by decide +kernel, by decide +kernel⟩, trivial⟩ [5, 6, 7, 0, 1, 2, 3, 4] rfl rfl dX11_person_10 (Nat.le_of_ble_eq_true rfl) (Nat.le_of_ble_eq_true rfl)
set_option maxHeartbeats 4000000 in
set_option maxRecDepth 100000 in
theorem gX7_inTownOn_dc3f27c (l : Launch) (D : va_G) (cy : Nat → ClassId) (h0 : Nat) (h1 : Nat) (h2 : Nat) (h3 : Nat) (p0 : Int32) (p1 : Int32) (p2 : Int32) (w0 : Value) (p3 : Int32) (p4 : Int32) (p5 : Int32) (p6 : Int32) (w1 : Value) (w2 : Value) (w3 : Value) (w4 : Value) (w5 : Value) (w6 : Value) (f0 : Nat → Int32) (f1 : Nat → Int32) (hp0 : (-2147483648) ≤ (p0).toInt ∧ (p0).toInt ≤ 2147483647) (hp1 : (-2147483648) ≤ (p1).toInt ∧ (p1).toInt ≤ 2147483647) (hp2 : (-2147483648) ≤ (p2).toInt ∧ (p2).toInt ≤ 2147483647) (hp3 : 1 ≤ (p3).toInt ∧ (p3).toInt ≤ 3) (hp4 : 0 ≤ (p4).toInt ∧ (p4).toInt ≤ 10) (hp5 : (-2147483648) ≤ (p5).toInt ∧ (p5).toInt ≤ 2147483647) (hp6 : (-2147483648) ≤ (p6).toInt ∧ (p6).toInt ≤ 2147483647) (sz : Nat) : MI l yX7_inTownOn cX7_inTownOn 4 .int { frames := 0, cells := 0, slots := 0, locals := 0 } [.ref h0, .int p0] D cy (wk_c1cec6de2 cy h0 h1 p1 p2 w0 h1 p3 p4 p5 p6 w1 w2 w3 w4 h2 h3 w5 w6 h2 f0 h3 f1) sz (fun r u => (0 ≤ r.toInt ∧ r.toInt ≤ 1023) ∧ True) (fun u => (wk_c1cec6de2 cy h0 h1 p1 p2 w0 h1 p3 p4 p5 p6 w1 w2 w3 w4 h2 h3 w5 w6 h2 f0 h3 f1)) 0 0 := by
  refine q_ent (own := RX7) (by decide) rfl (Nat.le_of_ble_eq_true rfl) (fun p e s m below meth c ls X hr hlk hnm hK hT h hA hl => ?_)
  obtain ⟨hx, hb, hml, hown, ht⟩ := id X
  replace hl : lv_has ls 4 [(0, .ref h0), (1, .int p0)] := hl
  refine lv_iconst (v := 0) hx hb dX7_inTownOn_0 (by decide) ?_
  refine lv_istore_n (lv' := [(2, .int 0), (0, .ref h0), (1, .int p0)]) hx hb dX7_inTownOn_1 rfl hl (by decide) rfl (fun ls_1 hl_1 => ?_)
  clear hl
  refine lv_iconst (v := 0) hx hb dX7_inTownOn_2 (by decide) ?_
  refine lv_istore_n (lv' := [(3, .int 0), (2, .int 0), (0, .ref h0), (1, .int p0)]) hx hb dX7_inTownOn_3 rfl hl_1 (by decide) rfl (fun ls_2 hl_2 => ?_)
  clear hl_1
  refine q_wl (fun (q : Int32 × Int32) H locs ls => match q with | (v4_3_0, v4_3_1) => (0 ≤ (v4_3_0).toInt ∧ (v4_3_0).toInt ≤ 10) ∧ (0 ≤ (v4_3_1).toInt ∧ (v4_3_1).toInt ≤ 1023) ∧ qW D (va_A (wk_c1cec6de2 cy h0 h1 p1 p2 w0 h1 p3 p4 p5 p6 w1 w2 w3 w4 h2 h3 w5 w6 h2 f0 h3 f1) sz) s.heap (wk_c1cec6de2 cy h0 h1 p1 p2 w0 h1 p3 p4 p5 p6 w1 w2 w3 w4 h2 h3 w5 w6 h2 f0 h3 f1) H locs ∧ lv_has ls 4 [(0, .ref h0), (1, .int p0), (2, .int v4_3_1), (3, .int v4_3_0)]) (fun (q : Int32 × Int32) => match q with | (v4_3_0, v4_3_1) => (11 - (v4_3_0).toInt).toNat) (fun q_4 ih_4 H locs ls hP => ?_) (0, 0) ⟨⟨by decide +kernel, by decide +kernel⟩, ⟨by decide +kernel, by decide +kernel⟩, h, (lv_sub hl_2 [2, 3, 1, 0] rfl)⟩
  obtain ⟨v4_3_0, v4_3_1⟩ := q_4
  obtain ⟨hv4_3_0, hv4_3_1, h, hl⟩ := hP
  refine lv_iload_n hx hb dX7_inTownOn_4 rfl (lv_at hl 3 rfl) ?_
  refine lv_aload_n hx hb dX7_inTownOn_5 rfl (lv_at hl 0 rfl) ?_
  refine q_get X hK h 0 rfl rfl wf_7 0 (by decide) rfl wm_2_37 dX7_inTownOn_6 ?_
  refine q_get X hK h 1 rfl rfl wf_3 1 (by decide) rfl wm_1_83 dX7_inTownOn_9 ?_
  refine lv_icmp_ge (tgt := 53) hx hb dX7_inTownOn_12 (by decide) (fun c_4 => ?_) (fun c_4 => ?_)
  · replace c_4 := i_le (x := p4) (y := v4_3_0) rfl rfl c_4
    refine lv_iload_n hx hb dX7_inTownOn_53 rfl (lv_at hl 2 rfl) ?_
    refine lv_aload_n hx hb dX7_inTownOn_54 rfl (lv_at hl 0 rfl) ?_
    refine q_get X hK h 0 rfl rfl wf_7 2 (by decide) rfl wm_2_48 dX7_inTownOn_55 ?_
    refine lv_iconst (v := (-1)) hx hb dX7_inTownOn_58 (by decide) ?_
    refine lv_ixor hx hb dX7_inTownOn_59 ?_
    refine q_any (fun z_5 hz_5 => ?_)
    refine lv_iand hx hb dX7_inTownOn_60 ?_
    obtain ⟨z_6, ez_6, hz_6⟩ := e_and1 (x := v4_3_1) (y := z_5) rfl (by omega)
    refine q_c z_6 ez_6 ?_
    clear ez_6
    exact q_iret X hr hlk hK h rfl (fun _ => 0, fun _ _ => 0, fun _ _ => 0) ⟨⟨by omega, by omega⟩, trivial⟩ [0, 1, 2, 3] rfl rfl dX7_inTownOn_61 (Nat.le_of_ble_eq_true rfl) (Nat.le_of_ble_eq_true rfl)
  · replace c_4 := i_nle (x := p4) (y := v4_3_0) rfl rfl c_4
    refine lv_aload_n hx hb dX7_inTownOn_15 rfl (lv_at hl 0 rfl) ?_
    refine q_get X hK h 0 rfl rfl wf_7 0 (by decide) rfl wm_2_37 dX7_inTownOn_16 ?_
    refine q_get X hK h 1 rfl rfl wf_3 8 (by decide) rfl wm_1_106 dX7_inTownOn_19 ?_
    refine lv_iload_n hx hb dX7_inTownOn_22 rfl (lv_at hl 3 rfl) ?_
    refine q_iald X hK h 2 rfl (i_in rfl (by omega) (by omega)) dX7_inTownOn_23 ?_
    refine q_any (fun z_7 hz_7 => ?_)
    refine lv_iload_n hx hb dX7_inTownOn_24 rfl (lv_at hl 1 rfl) ?_
    refine q_jn (pc2 := 47) (fun H locs ls st => ∃ v47_8_0 : Int32, (0 ≤ (v47_8_0).toInt ∧ (v47_8_0).toInt ≤ 1023) ∧ st = [] ∧ qW D (va_A (wk_c1cec6de2 cy h0 h1 p1 p2 w0 h1 p3 p4 p5 p6 w1 w2 w3 w4 h2 h3 w5 w6 h2 f0 h3 f1) sz) s.heap (wk_c1cec6de2 cy h0 h1 p1 p2 w0 h1 p3 p4 p5 p6 w1 w2 w3 w4 h2 h3 w5 w6 h2 f0 h3 f1) H locs ∧ lv_has ls 4 [(0, .ref h0), (1, .int p0), (2, .int v47_8_0), (3, .int v4_3_0)]) (fun H locs ls st hP => ?_) (fun J_47 => ?_)
    · obtain ⟨v47_8_0, hv47_8_0, rfl, h, hl⟩ := hP
      obtain ⟨z_9, ez_9, hz_9⟩ := e_add (x := v4_3_0) (y := Int32.ofInt 1) rfl (b := 1) (by decide) (by omega) (by omega)
      refine lv_iinc (v := z_9) (lv' := [(3, .int z_9), (0, .ref h0), (1, .int p0), (2, .int v47_8_0)]) hx hb dX7_inTownOn_47 hl (k := 3) rfl ez_9 (by decide) rfl (fun ls_9 hl_9 => ?_)
      clear hl
      refine lv_goto (tgt := 4) hx hb dX7_inTownOn_50 (by decide) ?_
      exact ih_4 (z_9, v47_8_0) (by show (11 - (z_9).toInt).toNat < (11 - (v4_3_0).toInt).toNat; omega) _ _ _ ⟨⟨by omega, by omega⟩, hv47_8_0, h, (lv_sub hl_9 [1, 2, 3, 0] rfl)⟩
    · skip
      refine lv_icmp_gt (tgt := 47) hx hb dX7_inTownOn_25 (by decide) (fun c_10 => ?_) (fun c_10 => ?_)
      · replace c_10 := i_lt (x := p0) (y := z_7) rfl rfl c_10
        exact J_47 _ _ _ _ ⟨v4_3_1, hv4_3_1, rfl, h, (lv_sub hl [0, 1, 2, 3] rfl)⟩
      · replace c_10 := i_nlt (x := p0) (y := z_7) rfl rfl c_10
        refine lv_iload_n hx hb dX7_inTownOn_28 rfl (lv_at hl 1 rfl) ?_
        refine lv_aload_n hx hb dX7_inTownOn_29 rfl (lv_at hl 0 rfl) ?_
        refine q_get X hK h 0 rfl rfl wf_7 0 (by decide) rfl wm_2_37 dX7_inTownOn_30 ?_
        refine q_get X hK h 1 rfl rfl wf_3 9 (by decide) rfl wm_1_110 dX7_inTownOn_33 ?_
        refine lv_iload_n hx hb dX7_inTownOn_36 rfl (lv_at hl 3 rfl) ?_
        refine q_iald X hK h 3 rfl (i_in rfl (by omega) (by omega)) dX7_inTownOn_37 ?_
        refine q_any (fun z_11 hz_11 => ?_)
        refine lv_icmp_gt (tgt := 47) hx hb dX7_inTownOn_38 (by decide) (fun c_12 => ?_) (fun c_12 => ?_)
        · replace c_12 := i_lt (x := z_11) (y := p0) rfl rfl c_12
          exact J_47 _ _ _ _ ⟨v4_3_1, hv4_3_1, rfl, h, (lv_sub hl [0, 1, 2, 3] rfl)⟩
        · replace c_12 := i_nlt (x := z_11) (y := p0) rfl rfl c_12
          refine lv_iload_n hx hb dX7_inTownOn_41 rfl (lv_at hl 2 rfl) ?_
          refine lv_iconst (v := 1) hx hb dX7_inTownOn_42 (by decide) ?_
          refine lv_iload_n hx hb dX7_inTownOn_43 rfl (lv_at hl 3 rfl) ?_
          refine lv_ishl hx hb dX7_inTownOn_44 ?_
          obtain ⟨z_13, ez_13, hz_13⟩ := e_shlk (p := v4_3_0) 9 (by decide) rfl (by omega) (by omega)
          refine q_c z_13 ez_13 ?_
          clear ez_13
          refine lv_ior hx hb dX7_inTownOn_45 ?_
          obtain ⟨z_14, ez_14, hz_14⟩ := e_or (x := v4_3_1) (y := z_13) 10 (by decide) rfl rfl (by omega) (by omega) (by omega) (by omega)
          refine q_c z_14 ez_14 ?_
          clear ez_14
          refine lv_istore_n (lv' := [(2, .int z_14), (0, .ref h0), (1, .int p0), (3, .int v4_3_0)]) hx hb dX7_inTownOn_46 rfl hl (by decide) rfl (fun ls_15 hl_15 => ?_)
          clear hl
          exact J_47 _ _ _ _ ⟨z_14, ⟨by omega, by omega⟩, rfl, h, (lv_sub hl_15 [1, 2, 0, 3] rfl)⟩
set_option maxHeartbeats 4000000 in
set_option maxRecDepth 100000 in
theorem gX11_town_3cf898c (l : Launch) (D : va_G) (cy : Nat → ClassId) (h0 : Nat) (h1 : Nat) (h2 : Nat) (h3 : Nat) (h4 : Nat) (p0 : Int32) (w0 : Value) (p1 : Int32) (p2 : Int32) (p3 : Int32) (w1 : Value) (w2 : Value) (w3 : Value) (w4 : Value) (w5 : Value) (w6 : Value) (w7 : Value) (w8 : Value) (w9 : Value) (w10 : Value) (w11 : Value) (p4 : Int32) (p5 : Int32) (p6 : Int32) (w12 : Value) (p7 : Int32) (p8 : Int32) (p9 : Int32) (p10 : Int32) (w13 : Value) (w14 : Value) (w15 : Value) (w16 : Value) (w17 : Value) (w18 : Value) (f0 : Nat → Int32) (f1 : Nat → Int32) (hp0 : (-2147483648) ≤ (p0).toInt ∧ (p0).toInt ≤ 2147483647) (hp1 : 0 ≤ (p1).toInt ∧ (p1).toInt ≤ 900) (hp2 : (-2147483648) ≤ (p2).toInt ∧ (p2).toInt ≤ 2147483647) (hp3 : (-2147483648) ≤ (p3).toInt ∧ (p3).toInt ≤ 2147483647) (hp4 : (-2147483648) ≤ (p4).toInt ∧ (p4).toInt ≤ 2147483647) (hp5 : (-2147483648) ≤ (p5).toInt ∧ (p5).toInt ≤ 2147483647) (hp6 : (-2147483648) ≤ (p6).toInt ∧ (p6).toInt ≤ 2147483647) (hp7 : 1 ≤ (p7).toInt ∧ (p7).toInt ≤ 3) (hp8 : 0 ≤ (p8).toInt ∧ (p8).toInt ≤ 10) (hp9 : (-2147483648) ≤ (p9).toInt ∧ (p9).toInt ≤ 2147483647) (hp10 : (-2147483648) ≤ (p10).toInt ∧ (p10).toInt ≤ 2147483647) (sz : Nat) : MI l yX11_town cX11_town 2 .int { frames := 1, cells := 0, slots := 0, locals := 23 } [.ref h0, .int p0] D cy (wk_e4500ffd6 cy h0 w0 p1 p2 p3 w1 h1 w2 w3 w4 w5 w6 w7 w8 w9 w10 w11 p4 h1 h2 p5 p6 w12 h2 p7 p8 p9 p10 w13 w14 w15 w16 h3 h4 w17 w18 h3 f0 h4 f1) sz (fun r u => ((-3) ≤ r.toInt ∧ r.toInt ≤ 1023) ∧ True) (fun u => (wk_e4500ffd6 cy h0 w0 p1 p2 p3 w1 h1 w2 w3 w4 w5 w6 w7 w8 w9 w10 w11 p4 h1 h2 p5 p6 w12 h2 p7 p8 p9 p10 w13 w14 w15 w16 h3 h4 w17 w18 h3 f0 h4 f1)) 0 0 := by
  refine q_ent (own := RX11) (by decide) rfl (Nat.le_of_ble_eq_true rfl) (fun p e s m below meth c ls X hr hlk hnm hK hT h hA hl => ?_)
  obtain ⟨hx, hb, hml, hown, ht⟩ := id X
  replace hl : lv_has ls 2 [(0, .ref h0), (1, .int p0)] := hl
  refine lv_iload_n hx hb dX11_town_0 rfl (lv_at hl 1 rfl) ?_
  refine q_jn (pc2 := 11) (fun H locs ls st => st = [] ∧ qW D (va_A (wk_e4500ffd6 cy h0 w0 p1 p2 p3 w1 h1 w2 w3 w4 w5 w6 w7 w8 w9 w10 w11 p4 h1 h2 p5 p6 w12 h2 p7 p8 p9 p10 w13 w14 w15 w16 h3 h4 w17 w18 h3 f0 h4 f1) sz) s.heap (wk_e4500ffd6 cy h0 w0 p1 p2 p3 w1 h1 w2 w3 w4 w5 w6 w7 w8 w9 w10 w11 p4 h1 h2 p5 p6 w12 h2 p7 p8 p9 p10 w13 w14 w15 w16 h3 h4 w17 w18 h3 f0 h4 f1) H locs ∧ lv_has ls 2 [(0, .ref h0), (1, .int p0)]) (fun H locs ls st hP => ?_) (fun J_11 => ?_)
  · obtain ⟨rfl, h, hl⟩ := hP
    refine lv_bipush (v := (-3)) hx hb dX11_town_11 (by decide) ?_
    exact q_iret X hr hlk hK h rfl (fun _ => 0, fun _ _ => 0, fun _ _ => 0) ⟨⟨by decide +kernel, by decide +kernel⟩, trivial⟩ [0, 1, 2, 3, 4] rfl rfl dX11_town_13 (Nat.le_of_ble_eq_true rfl) (Nat.le_of_ble_eq_true rfl)
  · skip
    refine lv_if_lt (tgt := 11) hx hb dX11_town_1 (by decide) (fun c_2 => ?_) (fun c_2 => ?_)
    · replace c_2 := i_lt (x := p0) (y := 0) rfl (show (0 : Int32).toInt = 0 by decide) c_2
      exact J_11 _ _ _ _ ⟨rfl, h, (lv_sub hl [0, 1] rfl)⟩
    · replace c_2 := i_nlt (x := p0) (y := 0) rfl (show (0 : Int32).toInt = 0 by decide) c_2
      refine lv_iload_n hx hb dX11_town_4 rfl (lv_at hl 1 rfl) ?_
      refine lv_sipush (v := 999) hx hb dX11_town_5 (by decide) ?_
      refine lv_icmp_le (tgt := 14) hx hb dX11_town_8 (by decide) (fun c_3 => ?_) (fun c_3 => ?_)
      · replace c_3 := i_le (x := p0) (y := 999) rfl (show (999 : Int32).toInt = 999 by decide) c_3
        refine lv_aload_n hx hb dX11_town_14 rfl (lv_at hl 0 rfl) ?_
        refine q_get X hK h 0 rfl rfl wf_11 5 (by decide) rfl wm_2_103 dX11_town_15 ?_
        refine lv_aload_n hx hb dX11_town_18 rfl (lv_at hl 0 rfl) ?_
        refine q_get X hK h 0 rfl rfl wf_11 5 (by decide) rfl wm_2_103 dX11_town_19 ?_
        refine q_get X hK h 1 rfl rfl wf_7 1 (by decide) rfl wm_2_47 dX11_town_22 ?_
        refine lv_iload_n hx hb dX11_town_25 rfl (lv_at hl 1 rfl) ?_
        refine lv_iadd hx hb dX11_town_26 ?_
        refine q_any (fun z_4 hz_4 => ?_)
        refine q_callVi (rest := []) (wr := [(h0, .inr (11, [w0, .int p1, .int p2, .int p3, w1, .ref h1, w2, w3, w4, w5, w6, w7, w8, w9, w10, w11, .int p4]))]) X hK hT hA h (fun sz => gX7_inTownOn_dc3f27c l D cy h1 h2 h3 h4 z_4 p5 p6 w12 p7 p8 p9 p10 w13 w14 w15 w16 w17 w18 f0 f1 (i_rng _) (i_rng _) (i_rng _) hp7 hp8 (i_rng _) (i_rng _) sz) wm_3_191 wm_3_186 wm_1_9 hd_X7_inTownOn wm_3_184 wm_3_185 (ci := 7) (q0 := 0) rfl rfl ⟨Nat.le_of_ble_eq_true rfl, Nat.le_of_ble_eq_true rfl⟩ hl.1 rfl (Nat.le_of_ble_eq_true rfl) dX11_town_27 ⟨Nat.le_of_ble_eq_true rfl, Nat.le_of_ble_eq_true rfl⟩ [1, 2, 3, 4] [0] rfl rfl (by decide) rfl rfl (fun r_5 u_5 H locs w_5 h_5 => ?_)
        clear h
        obtain ⟨wr_5, _⟩ := w_5
        replace h_5 : qW D _ _ (wk_e4500ffd6 cy h0 w0 p1 p2 p3 w1 h1 w2 w3 w4 w5 w6 w7 w8 w9 w10 w11 p4 h1 h2 p5 p6 w12 h2 p7 p8 p9 p10 w13 w14 w15 w16 h3 h4 w17 w18 h3 f0 h4 f1) _ _ := h_5
        exact q_iret X hr hlk hK h_5 rfl (fun _ => 0, fun _ _ => 0, fun _ _ => 0) ⟨(bw wr_5 (by decide) (by decide)), trivial⟩ [0, 1, 2, 3, 4] rfl rfl dX11_town_30 (Nat.le_of_ble_eq_true rfl) (Nat.le_of_ble_eq_true rfl)
      · replace c_3 := i_nle (x := p0) (y := 999) rfl (show (999 : Int32).toInt = 999 by decide) c_3
        exact J_11 _ _ _ _ ⟨rfl, h, (lv_sub hl [0, 1] rfl)⟩
set_option maxHeartbeats 4000000 in
set_option maxRecDepth 100000 in
theorem gX11_opposed_576d87b (l : Launch) (D : va_G) (cy : Nat → ClassId) (h0 : Nat) (h1 : Nat) (h2 : Nat) (h3 : Nat) (h4 : Nat) (p0 : Int32) (p1 : Int32) (w0 : Value) (p2 : Int32) (p3 : Int32) (p4 : Int32) (w1 : Value) (w2 : Value) (w3 : Value) (w4 : Value) (w5 : Value) (w6 : Value) (w7 : Value) (w8 : Value) (w9 : Value) (w10 : Value) (p5 : Int32) (p6 : Int32) (p7 : Int32) (p8 : Int32) (p9 : Int32) (p10 : Int32) (p11 : Int32) (w11 : Value) (w12 : Value) (w13 : Value) (w14 : Value) (w15 : Value) (w16 : Value) (w17 : Value) (f0 : Nat → Int32) (w18 : Value) (w19 : Value) (hp0 : (-2147483648) ≤ (p0).toInt ∧ (p0).toInt ≤ 2147483647) (hp1 : (-2147483648) ≤ (p1).toInt ∧ (p1).toInt ≤ 2147483647) (hp2 : 0 ≤ (p2).toInt ∧ (p2).toInt ≤ 900) (hp3 : (-2147483648) ≤ (p3).toInt ∧ (p3).toInt ≤ 2147483647) (hp4 : (-2147483648) ≤ (p4).toInt ∧ (p4).toInt ≤ 2147483647) (hp5 : (-2147483648) ≤ (p5).toInt ∧ (p5).toInt ≤ 2147483647) (hp6 : (-2147483648) ≤ (p6).toInt ∧ (p6).toInt ≤ 2147483647) (hp7 : (-2147483648) ≤ (p7).toInt ∧ (p7).toInt ≤ 2147483647) (hp8 : 1 ≤ (p8).toInt ∧ (p8).toInt ≤ 3) (hp9 : 0 ≤ (p9).toInt ∧ (p9).toInt ≤ 10) (hp10 : (-2147483648) ≤ (p10).toInt ∧ (p10).toInt ≤ 2147483647) (hp11 : (-2147483648) ≤ (p11).toInt ∧ (p11).toInt ≤ 2147483647) (rf0 : RG f0 10 0 999) (sz : Nat) : MI l yX11_opposed cX11_opposed 3 .int { frames := 1, cells := 0, slots := 0, locals := 27 } [.ref h0, .int p0, .int p1] D cy (wk_2be7b364d cy h0 w0 p2 p3 p4 w1 h1 w2 w3 w4 w5 w6 w7 h4 w8 w9 w10 p5 h1 h2 p6 p7 h3 h2 p8 p9 p10 p11 w11 w12 w13 w14 w15 w16 w17 h3 f0 h4 w18 w19) sz (fun r u => ((-2) ≤ r.toInt ∧ r.toInt ≤ 1) ∧ True) (fun u => (wk_2be7b364d cy h0 w0 p2 p3 p4 w1 h1 w2 w3 w4 w5 w6 w7 h4 w8 w9 w10 p5 h1 h2 p6 p7 h3 h2 p8 p9 p10 p11 w11 w12 w13 w14 w15 w16 w17 h3 f0 h4 w18 w19)) 0 0 := by
  refine q_ent (own := RX11) (by decide) rfl (Nat.le_of_ble_eq_true rfl) (fun p e s m below meth c ls X hr hlk hnm hK hT h hA hl => ?_)
  obtain ⟨hx, hb, hml, hown, ht⟩ := id X
  replace hl : lv_has ls 3 [(0, .ref h0), (1, .int p0), (2, .int p1)] := hl
  refine lv_aload_n hx hb dX11_opposed_0 rfl (lv_at hl 0 rfl) ?_
  refine lv_iload_n hx hb dX11_opposed_1 rfl (lv_at hl 1 rfl) ?_
  refine q_callVi (rest := []) (wr := (wk_9024348c3 cy h3 f0 h4 w18 w19)) X hK hT hA h (fun sz => gX11_isPerson_a5d2bee l D cy h0 h1 h2 p0 w0 p2 p3 p4 w1 w2 w3 w4 w5 w6 w7 (.ref h4) w8 w9 w10 p5 p6 p7 (.ref h3) p8 p9 p10 p11 Value.null w11 w12 w13 w14 w15 w16 w17 (i_rng _) hp2 (i_rng _) (i_rng _) (i_rng _) (i_rng _) (i_rng _) hp8 hp9 (i_rng _) (i_rng _) sz) wm_3_174 wm_3_177 wm_1_1 hd_X11_isPerson wm_3_176 wp_2_8 (ci := 11) (q0 := 0) rfl rfl ⟨Nat.le_of_ble_eq_true rfl, Nat.le_of_ble_eq_true rfl⟩ hl.1 rfl (Nat.le_of_ble_eq_true rfl) dX11_opposed_2 ⟨Nat.le_of_ble_eq_true rfl, Nat.le_of_ble_eq_true rfl⟩ [0, 1, 2] [3, 4] rfl rfl (by decide) rfl rfl (fun r_1 u_1 H locs w_1 h_1 => ?_)
  clear h
  obtain ⟨wr_1, y1_0, _⟩ := w_1
  replace h_1 : qW D _ _ (wk_fbb05978d cy h3 f0 h4 w18 w19 h0 w0 p2 p3 p4 w1 h1 w2 w3 w4 w5 w6 w7 h4 w8 w9 w10 p5 h1 h2 p6 p7 h3 h2 p8 p9 p10 p11 w11 w12 w13 w14 w15 w16 w17) _ _ := h_1
  refine q_jn (pc2 := 16) (fun H locs ls st => st = [] ∧ qW D (va_A (wk_2be7b364d cy h0 w0 p2 p3 p4 w1 h1 w2 w3 w4 w5 w6 w7 h4 w8 w9 w10 p5 h1 h2 p6 p7 h3 h2 p8 p9 p10 p11 w11 w12 w13 w14 w15 w16 w17 h3 f0 h4 w18 w19) sz) s.heap (wk_fbb05978d cy h3 f0 h4 w18 w19 h0 w0 p2 p3 p4 w1 h1 w2 w3 w4 w5 w6 w7 h4 w8 w9 w10 p5 h1 h2 p6 p7 h3 h2 p8 p9 p10 p11 w11 w12 w13 w14 w15 w16 w17) H locs ∧ lv_has ls 3 [(0, .ref h0), (1, .int p0), (2, .int p1)]) (fun H locs ls st hP => ?_) (fun J_16 => ?_)
  · obtain ⟨rfl, h, hl⟩ := hP
    refine lv_bipush (v := (-2)) hx hb dX11_opposed_16 (by decide) ?_
    exact q_iret X hr hlk hK h rfl (fun _ => 0, fun _ _ => 0, fun _ _ => 0) ⟨⟨by decide +kernel, by decide +kernel⟩, trivial⟩ [2, 3, 4, 0, 1] rfl rfl dX11_opposed_18 (Nat.le_of_ble_eq_true rfl) (Nat.le_of_ble_eq_true rfl)
  · skip
    refine lv_if_eq (tgt := 16) hx hb dX11_opposed_5 (by decide) (fun c_3 => ?_) (fun c_3 => ?_)
    · replace c_3 := i_eq (x := r_1) (y := 0) rfl (show (0 : Int32).toInt = 0 by decide) c_3
      exact J_16 _ _ _ _ ⟨rfl, h_1, (lv_sub hl [0, 1, 2] rfl)⟩
    · replace c_3 := i_ne (x := r_1) (y := 0) rfl (show (0 : Int32).toInt = 0 by decide) c_3
      refine lv_aload_n hx hb dX11_opposed_8 rfl (lv_at hl 0 rfl) ?_
      refine lv_iload_n hx hb dX11_opposed_9 rfl (lv_at hl 2 rfl) ?_
      refine q_callVi (rest := []) (wr := (wk_9024348c3 cy h3 f0 h4 w18 w19)) X hK hT hA h_1 (fun sz => gX11_isPerson_a5d2bee l D cy h0 h1 h2 p1 w0 p2 p3 p4 w1 w2 w3 w4 w5 w6 w7 (.ref h4) w8 w9 w10 p5 p6 p7 (.ref h3) p8 p9 p10 p11 Value.null w11 w12 w13 w14 w15 w16 w17 (i_rng _) hp2 (i_rng _) (i_rng _) (i_rng _) (i_rng _) (i_rng _) hp8 hp9 (i_rng _) (i_rng _) sz) wm_3_174 wm_3_177 wm_1_1 hd_X11_isPerson wm_3_176 wp_2_8 (ci := 11) (q0 := 0) rfl rfl ⟨Nat.le_of_ble_eq_true rfl, Nat.le_of_ble_eq_true rfl⟩ hl.1 rfl (Nat.le_of_ble_eq_true rfl) dX11_opposed_10 ⟨Nat.le_of_ble_eq_true rfl, Nat.le_of_ble_eq_true rfl⟩ [2, 3, 4] [0, 1] rfl rfl (by decide) rfl rfl (fun r_4 u_4 H locs w_4 h_4 => ?_)
      clear h_1
      obtain ⟨wr_4, y4_0, _⟩ := w_4
      replace h_4 : qW D _ _ (wk_fbb05978d cy h3 f0 h4 w18 w19 h0 w0 p2 p3 p4 w1 h1 w2 w3 w4 w5 w6 w7 h4 w8 w9 w10 p5 h1 h2 p6 p7 h3 h2 p8 p9 p10 p11 w11 w12 w13 w14 w15 w16 w17) _ _ := h_4
      refine lv_if_ne (tgt := 19) hx hb dX11_opposed_13 (by decide) (fun c_5 => ?_) (fun c_5 => ?_)
      · replace c_5 := i_ne (x := r_4) (y := 0) rfl (show (0 : Int32).toInt = 0 by decide) c_5
        refine lv_iload_n hx hb dX11_opposed_19 rfl (lv_at hl 1 rfl) ?_
        refine lv_iload_n hx hb dX11_opposed_20 rfl (lv_at hl 2 rfl) ?_
        refine q_jn (pc2 := 61) (fun H locs ls st => ∃ v61_6_0 : Int32, (0 ≤ (v61_6_0).toInt ∧ (v61_6_0).toInt ≤ 1) ∧ st = [.int v61_6_0] ∧ qW D (va_A (wk_2be7b364d cy h0 w0 p2 p3 p4 w1 h1 w2 w3 w4 w5 w6 w7 h4 w8 w9 w10 p5 h1 h2 p6 p7 h3 h2 p8 p9 p10 p11 w11 w12 w13 w14 w15 w16 w17 h3 f0 h4 w18 w19) sz) s.heap (wk_fbb05978d cy h3 f0 h4 w18 w19 h0 w0 p2 p3 p4 w1 h1 w2 w3 w4 w5 w6 w7 h4 w8 w9 w10 p5 h1 h2 p6 p7 h3 h2 p8 p9 p10 p11 w11 w12 w13 w14 w15 w16 w17) H locs ∧ lv_has ls 3 [(0, .ref h0), (1, .int p0), (2, .int p1)]) (fun H locs ls st hP => ?_) (fun J_61 => ?_)
        · obtain ⟨v61_6_0, hv61_6_0, rfl, h, hl⟩ := hP
          exact q_iret X hr hlk hK h rfl (fun _ => 0, fun _ _ => 0, fun _ _ => 0) ⟨(bw hv61_6_0 (by decide) (by decide)), trivial⟩ [2, 3, 4, 0, 1] rfl rfl dX11_opposed_61 (Nat.le_of_ble_eq_true rfl) (Nat.le_of_ble_eq_true rfl)
        · skip
          refine q_jn (pc2 := 60) (fun H locs ls st => st = [] ∧ qW D (va_A (wk_2be7b364d cy h0 w0 p2 p3 p4 w1 h1 w2 w3 w4 w5 w6 w7 h4 w8 w9 w10 p5 h1 h2 p6 p7 h3 h2 p8 p9 p10 p11 w11 w12 w13 w14 w15 w16 w17 h3 f0 h4 w18 w19) sz) s.heap (wk_fbb05978d cy h3 f0 h4 w18 w19 h0 w0 p2 p3 p4 w1 h1 w2 w3 w4 w5 w6 w7 h4 w8 w9 w10 p5 h1 h2 p6 p7 h3 h2 p8 p9 p10 p11 w11 w12 w13 w14 w15 w16 w17) H locs ∧ lv_has ls 3 [(0, .ref h0), (1, .int p0), (2, .int p1)]) (fun H locs ls st hP => ?_) (fun J_60 => ?_)
          · obtain ⟨rfl, h, hl⟩ := hP
            refine lv_iconst (v := 0) hx hb dX11_opposed_60 (by decide) ?_
            exact J_61 _ _ _ _ ⟨0, ⟨by decide +kernel, by decide +kernel⟩, rfl, h, (lv_sub hl [0, 1, 2] rfl)⟩
          · skip
            refine lv_icmp_eq (tgt := 60) hx hb dX11_opposed_21 (by decide) (fun c_8 => ?_) (fun c_8 => ?_)
            · replace c_8 := i_eq (x := p0) (y := p1) rfl rfl c_8
              exact J_60 _ _ _ _ ⟨rfl, h_4, (lv_sub hl [0, 1, 2] rfl)⟩
            · replace c_8 := i_ne (x := p0) (y := p1) rfl rfl c_8
              refine lv_aload_n hx hb dX11_opposed_24 rfl (lv_at hl 0 rfl) ?_
              refine q_get X hK h_4 2 rfl rfl wf_11 12 (by decide) rfl wm_2_110 dX11_opposed_25 ?_
              refine lv_aload_n hx hb dX11_opposed_28 rfl (lv_at hl 0 rfl) ?_
              refine q_get X hK h_4 2 rfl rfl wf_11 5 (by decide) rfl wm_2_103 dX11_opposed_29 ?_
              refine lv_iload_n hx hb dX11_opposed_32 rfl (lv_at hl 1 rfl) ?_
              refine lv_aload_n hx hb dX11_opposed_33 rfl (lv_at hl 0 rfl) ?_
              refine q_get X hK h_4 2 rfl rfl wf_11 5 (by decide) rfl wm_2_103 dX11_opposed_34 ?_
              refine q_get X hK h_4 3 rfl rfl wf_7 3 (by decide) rfl wm_2_54 dX11_opposed_37 ?_
              refine lv_iload_n hx hb dX11_opposed_40 rfl (lv_at hl 1 rfl) ?_
              refine q_iald X hK h_4 0 rfl (i_in rfl (by omega) (by omega)) dX11_opposed_41 ?_
              obtain ⟨z_9, ez_9, hz_9⟩ := rg_get rf0 (x := p0) rfl (by omega) (by omega)
              refine q_c z_9 ez_9 ?_
              clear ez_9
              refine lv_iload_n hx hb dX11_opposed_42 rfl (lv_at hl 2 rfl) ?_
              refine lv_aload_n hx hb dX11_opposed_43 rfl (lv_at hl 0 rfl) ?_
              refine q_get X hK h_4 2 rfl rfl wf_11 5 (by decide) rfl wm_2_103 dX11_opposed_44 ?_
              refine q_get X hK h_4 3 rfl rfl wf_7 1 (by decide) rfl wm_2_47 dX11_opposed_47 ?_
              refine q_callVi (rest := []) (wr := [(h0, .inr (11, [w0, .int p2, .int p3, .int p4, w1, .ref h1, w2, w3, w4, w5, w6, w7, .ref h4, w8, w9, w10, .int p5]))]) X hK hT hA h_4 (fun sz => gX6_areOpposites_68d373d l D cy h4 h1 h2 h3 p0 z_9 p1 p6 w18 w19 p7 p8 p9 p10 p11 w11 w12 w13 w14 w15 w16 w17 f0 ⟨by omega, by omega⟩ ⟨by omega, by omega⟩ ⟨by omega, by omega⟩ (i_rng _) (i_rng _) hp8 hp9 (i_rng _) (i_rng _) (rg_wide rf0 (by decide) (by decide)) sz) wm_3_196 wm_3_199 wm_1_5 hd_X6_areOpposites wm_3_197 wm_3_198 (ci := 6) (q0 := 0) rfl rfl ⟨Nat.le_of_ble_eq_true rfl, Nat.le_of_ble_eq_true rfl⟩ hl.1 rfl (Nat.le_of_ble_eq_true rfl) dX11_opposed_50 ⟨Nat.le_of_ble_eq_true rfl, Nat.le_of_ble_eq_true rfl⟩ [1, 3, 4, 0] [2] rfl rfl (by decide) rfl rfl (fun r_10 u_10 H locs w_10 h_10 => ?_)
              clear h_4
              obtain ⟨wr_10, _⟩ := w_10
              replace h_10 : qW D _ _ (wk_bc1158795 cy h0 w0 p2 p3 p4 w1 h1 w2 w3 w4 w5 w6 w7 h4 w8 w9 w10 p5 h4 w18 w19 h1 h2 p6 p7 h3 h2 p8 p9 p10 p11 w11 w12 w13 w14 w15 w16 w17 h3 f0) _ _ := h_10
              refine lv_if_eq (tgt := 60) hx hb dX11_opposed_53 (by decide) (fun c_11 => ?_) (fun c_11 => ?_)
              · replace c_11 := i_eq (x := r_10) (y := 0) rfl (show (0 : Int32).toInt = 0 by decide) c_11
                exact J_60 _ _ _ _ ⟨rfl, (q_re h_10 [4, 1, 0, 2, 3] rfl rfl), (lv_sub hl [0, 1, 2] rfl)⟩
              · replace c_11 := i_ne (x := r_10) (y := 0) rfl (show (0 : Int32).toInt = 0 by decide) c_11
                refine lv_iconst (v := 1) hx hb dX11_opposed_56 (by decide) ?_
                refine lv_goto (tgt := 61) hx hb dX11_opposed_57 (by decide) ?_
                exact J_61 _ _ _ _ ⟨1, ⟨by decide +kernel, by decide +kernel⟩, rfl, (q_re h_10 [4, 1, 0, 2, 3] rfl rfl), (lv_sub hl [0, 1, 2] rfl)⟩
      · replace c_5 := i_eq (x := r_4) (y := 0) rfl (show (0 : Int32).toInt = 0 by decide) c_5
        exact J_16 _ _ _ _ ⟨rfl, h_4, (lv_sub hl [0, 1, 2] rfl)⟩
set_option maxHeartbeats 4000000 in
set_option maxRecDepth 100000 in
theorem gX11_opposed_300df46 (l : Launch) (D : va_G) (cy : Nat → ClassId) (h0 : Nat) (h1 : Nat) (h2 : Nat) (h3 : Nat) (h4 : Nat) (h5 : Nat) (h6 : Nat) (h7 : Nat) (h8 : Nat) (p0 : Int32) (p1 : Int32) (w0 : Value) (p2 : Int32) (p3 : Int32) (p4 : Int32) (w1 : Value) (w2 : Value) (w3 : Value) (w4 : Value) (w5 : Value) (w6 : Value) (w7 : Value) (w8 : Value) (w9 : Value) (w10 : Value) (p5 : Int32) (p6 : Int32) (p7 : Int32) (p8 : Int32) (p9 : Int32) (p10 : Int32) (p11 : Int32) (w11 : Value) (w12 : Value) (w13 : Value) (w14 : Value) (w15 : Value) (w16 : Value) (w17 : Value) (m0 : Nat) (f0 : Nat → Int32) (f1 : Nat → Int32) (f2 : Nat → Int32) (f3 : Nat → Int32) (hp0 : (-2147483648) ≤ (p0).toInt ∧ (p0).toInt ≤ 2147483647) (hp1 : (-2147483648) ≤ (p1).toInt ∧ (p1).toInt ≤ 2147483647) (hp2 : 0 ≤ (p2).toInt ∧ (p2).toInt ≤ 900) (hp3 : (-2147483648) ≤ (p3).toInt ∧ (p3).toInt ≤ 2147483647) (hp4 : (-2147483648) ≤ (p4).toInt ∧ (p4).toInt ≤ 2147483647) (hp5 : (-2147483648) ≤ (p5).toInt ∧ (p5).toInt ≤ 2147483647) (hp6 : (-2147483648) ≤ (p6).toInt ∧ (p6).toInt ≤ 2147483647) (hp7 : (-2147483648) ≤ (p7).toInt ∧ (p7).toInt ≤ 2147483647) (hp8 : 1 ≤ (p8).toInt ∧ (p8).toInt ≤ 3) (hp9 : 0 ≤ (p9).toInt ∧ (p9).toInt ≤ 10) (hp10 : (-2147483648) ≤ (p10).toInt ∧ (p10).toInt ≤ 2147483647) (hp11 : (-2147483648) ≤ (p11).toInt ∧ (p11).toInt ≤ 2147483647) (hm0 : m0 ≤ 900) (rf1 : RG f1 10 0 999) (sz : Nat) : MI l yX11_opposed cX11_opposed 3 .int { frames := 5, cells := 0, slots := 0, locals := 119 } [.ref h0, .int p0, .int p1] D cy (wk_7755af277 cy h0 w0 p2 p3 p4 w1 h1 w2 w3 w4 w5 w6 w7 h6 w8 w9 w10 p5 h1 h2 p6 p7 h5 h2 p8 p9 p10 p11 h3 w11 w12 w13 w14 w15 w16 w17 h3 h4 h4 m0 f0 h5 f1 h6 h7 h8 h7 f2 h8 f3) sz (fun r u => ((-2) ≤ r.toInt ∧ r.toInt ≤ 1) ∧ True) (fun u => (wk_7755af277 cy h0 w0 p2 p3 p4 w1 h1 w2 w3 w4 w5 w6 w7 h6 w8 w9 w10 p5 h1 h2 p6 p7 h5 h2 p8 p9 p10 p11 h3 w11 w12 w13 w14 w15 w16 w17 h3 h4 h4 m0 f0 h5 f1 h6 h7 h8 h7 (u.2.1 0) h8 (u.2.1 1))) 0 0 := by
  refine q_ent (own := RX11) (by decide) rfl (Nat.le_of_ble_eq_true rfl) (fun p e s m below meth c ls X hr hlk hnm hK hT h hA hl => ?_)
  obtain ⟨hx, hb, hml, hown, ht⟩ := id X
  replace hl : lv_has ls 3 [(0, .ref h0), (1, .int p0), (2, .int p1)] := hl
  refine lv_aload_n hx hb dX11_opposed_0 rfl (lv_at hl 0 rfl) ?_
  refine lv_iload_n hx hb dX11_opposed_1 rfl (lv_at hl 1 rfl) ?_
  refine q_callVi (rest := []) (wr := (wk_c949ce636 cy h3 h4 h4 m0 f0 h5 f1 h6 h7 h8 h7 f2 h8 f3)) X hK hT hA h (fun sz => gX11_isPerson_a5d2bee l D cy h0 h1 h2 p0 w0 p2 p3 p4 w1 w2 w3 w4 w5 w6 w7 (.ref h6) w8 w9 w10 p5 p6 p7 (.ref h5) p8 p9 p10 p11 (.ref h3) w11 w12 w13 w14 w15 w16 w17 (i_rng _) hp2 (i_rng _) (i_rng _) (i_rng _) (i_rng _) (i_rng _) hp8 hp9 (i_rng _) (i_rng _) sz) wm_3_174 wm_3_177 wm_1_1 hd_X11_isPerson wm_3_176 wp_2_8 (ci := 11) (q0 := 0) rfl rfl ⟨Nat.le_of_ble_eq_true rfl, Nat.le_of_ble_eq_true rfl⟩ hl.1 rfl (Nat.le_of_ble_eq_true rfl) dX11_opposed_2 ⟨Nat.le_of_ble_eq_true rfl, Nat.le_of_ble_eq_true rfl⟩ [0, 1, 2] [3, 4, 5, 6, 7, 8] rfl rfl (by decide) rfl rfl (fun r_1 u_1 H locs w_1 h_1 => ?_)
  clear h
  obtain ⟨wr_1, y1_0, _⟩ := w_1
  replace h_1 : qW D _ _ (wk_84a7f80a9 cy h3 h4 h4 m0 f0 h5 f1 h6 h7 h8 h7 f2 h8 f3 h0 w0 p2 p3 p4 w1 h1 w2 w3 w4 w5 w6 w7 h6 w8 w9 w10 p5 h1 h2 p6 p7 h5 h2 p8 p9 p10 p11 h3 w11 w12 w13 w14 w15 w16 w17) _ _ := h_1
  refine q_jn (pc2 := 16) (fun H locs ls st => st = [] ∧ qW D (va_A (wk_7755af277 cy h0 w0 p2 p3 p4 w1 h1 w2 w3 w4 w5 w6 w7 h6 w8 w9 w10 p5 h1 h2 p6 p7 h5 h2 p8 p9 p10 p11 h3 w11 w12 w13 w14 w15 w16 w17 h3 h4 h4 m0 f0 h5 f1 h6 h7 h8 h7 f2 h8 f3) sz) s.heap (wk_84a7f80a9 cy h3 h4 h4 m0 f0 h5 f1 h6 h7 h8 h7 f2 h8 f3 h0 w0 p2 p3 p4 w1 h1 w2 w3 w4 w5 w6 w7 h6 w8 w9 w10 p5 h1 h2 p6 p7 h5 h2 p8 p9 p10 p11 h3 w11 w12 w13 w14 w15 w16 w17) H locs ∧ lv_has ls 3 [(0, .ref h0), (1, .int p0), (2, .int p1)]) (fun H locs ls st hP => ?_) (fun J_16 => ?_)
  · obtain ⟨rfl, h, hl⟩ := hP
    refine lv_bipush (v := (-2)) hx hb dX11_opposed_16 (by decide) ?_
    exact q_iret X hr hlk hK h rfl (fun _ => 0, (vcons f2 (vcons f3 (fun _ => (fun _ => 0)))), fun _ _ => 0) ⟨⟨by decide +kernel, by decide +kernel⟩, trivial⟩ [6, 7, 8, 0, 1, 2, 3, 4, 5] rfl rfl dX11_opposed_18 (Nat.le_of_ble_eq_true rfl) (Nat.le_of_ble_eq_true rfl)
  · skip
    refine lv_if_eq (tgt := 16) hx hb dX11_opposed_5 (by decide) (fun c_3 => ?_) (fun c_3 => ?_)
    · replace c_3 := i_eq (x := r_1) (y := 0) rfl (show (0 : Int32).toInt = 0 by decide) c_3
      exact J_16 _ _ _ _ ⟨rfl, h_1, (lv_sub hl [0, 1, 2] rfl)⟩
    · replace c_3 := i_ne (x := r_1) (y := 0) rfl (show (0 : Int32).toInt = 0 by decide) c_3
      refine lv_aload_n hx hb dX11_opposed_8 rfl (lv_at hl 0 rfl) ?_
      refine lv_iload_n hx hb dX11_opposed_9 rfl (lv_at hl 2 rfl) ?_
      refine q_callVi (rest := []) (wr := (wk_c949ce636 cy h3 h4 h4 m0 f0 h5 f1 h6 h7 h8 h7 f2 h8 f3)) X hK hT hA h_1 (fun sz => gX11_isPerson_a5d2bee l D cy h0 h1 h2 p1 w0 p2 p3 p4 w1 w2 w3 w4 w5 w6 w7 (.ref h6) w8 w9 w10 p5 p6 p7 (.ref h5) p8 p9 p10 p11 (.ref h3) w11 w12 w13 w14 w15 w16 w17 (i_rng _) hp2 (i_rng _) (i_rng _) (i_rng _) (i_rng _) (i_rng _) hp8 hp9 (i_rng _) (i_rng _) sz) wm_3_174 wm_3_177 wm_1_1 hd_X11_isPerson wm_3_176 wp_2_8 (ci := 11) (q0 := 0) rfl rfl ⟨Nat.le_of_ble_eq_true rfl, Nat.le_of_ble_eq_true rfl⟩ hl.1 rfl (Nat.le_of_ble_eq_true rfl) dX11_opposed_10 ⟨Nat.le_of_ble_eq_true rfl, Nat.le_of_ble_eq_true rfl⟩ [6, 7, 8] [0, 1, 2, 3, 4, 5] rfl rfl (by decide) rfl rfl (fun r_4 u_4 H locs w_4 h_4 => ?_)
      clear h_1
      obtain ⟨wr_4, y4_0, _⟩ := w_4
      replace h_4 : qW D _ _ (wk_84a7f80a9 cy h3 h4 h4 m0 f0 h5 f1 h6 h7 h8 h7 f2 h8 f3 h0 w0 p2 p3 p4 w1 h1 w2 w3 w4 w5 w6 w7 h6 w8 w9 w10 p5 h1 h2 p6 p7 h5 h2 p8 p9 p10 p11 h3 w11 w12 w13 w14 w15 w16 w17) _ _ := h_4
      refine lv_if_ne (tgt := 19) hx hb dX11_opposed_13 (by decide) (fun c_5 => ?_) (fun c_5 => ?_)
      · replace c_5 := i_ne (x := r_4) (y := 0) rfl (show (0 : Int32).toInt = 0 by decide) c_5
        refine lv_iload_n hx hb dX11_opposed_19 rfl (lv_at hl 1 rfl) ?_
        refine lv_iload_n hx hb dX11_opposed_20 rfl (lv_at hl 2 rfl) ?_
        refine q_jn (pc2 := 61) (fun H locs ls st => ∃ v61_6_2 : Int32, ∃ v61_6_0 : Nat → Int32, ∃ v61_6_1 : Nat → Int32, (0 ≤ (v61_6_2).toInt ∧ (v61_6_2).toInt ≤ 1) ∧ st = [.int v61_6_2] ∧ qW D (va_A (wk_7755af277 cy h0 w0 p2 p3 p4 w1 h1 w2 w3 w4 w5 w6 w7 h6 w8 w9 w10 p5 h1 h2 p6 p7 h5 h2 p8 p9 p10 p11 h3 w11 w12 w13 w14 w15 w16 w17 h3 h4 h4 m0 f0 h5 f1 h6 h7 h8 h7 f2 h8 f3) sz) s.heap (wk_84a7f80a9 cy h3 h4 h4 m0 f0 h5 f1 h6 h7 h8 h7 v61_6_0 h8 v61_6_1 h0 w0 p2 p3 p4 w1 h1 w2 w3 w4 w5 w6 w7 h6 w8 w9 w10 p5 h1 h2 p6 p7 h5 h2 p8 p9 p10 p11 h3 w11 w12 w13 w14 w15 w16 w17) H locs ∧ lv_has ls 3 [(0, .ref h0), (1, .int p0), (2, .int p1)]) (fun H locs ls st hP => ?_) (fun J_61 => ?_)
        · obtain ⟨v61_6_2, v61_6_0, v61_6_1, hv61_6_2, rfl, h, hl⟩ := hP
          exact q_iret X hr hlk hK h rfl (fun _ => 0, (vcons v61_6_0 (vcons v61_6_1 (fun _ => (fun _ => 0)))), fun _ _ => 0) ⟨(bw hv61_6_2 (by decide) (by decide)), trivial⟩ [6, 7, 8, 0, 1, 2, 3, 4, 5] rfl rfl dX11_opposed_61 (Nat.le_of_ble_eq_true rfl) (Nat.le_of_ble_eq_true rfl)
        · skip
          refine q_jn (pc2 := 60) (fun H locs ls st => ∃ v60_7_0 : Nat → Int32, ∃ v60_7_1 : Nat → Int32, st = [] ∧ qW D (va_A (wk_7755af277 cy h0 w0 p2 p3 p4 w1 h1 w2 w3 w4 w5 w6 w7 h6 w8 w9 w10 p5 h1 h2 p6 p7 h5 h2 p8 p9 p10 p11 h3 w11 w12 w13 w14 w15 w16 w17 h3 h4 h4 m0 f0 h5 f1 h6 h7 h8 h7 f2 h8 f3) sz) s.heap (wk_84a7f80a9 cy h3 h4 h4 m0 f0 h5 f1 h6 h7 h8 h7 v60_7_0 h8 v60_7_1 h0 w0 p2 p3 p4 w1 h1 w2 w3 w4 w5 w6 w7 h6 w8 w9 w10 p5 h1 h2 p6 p7 h5 h2 p8 p9 p10 p11 h3 w11 w12 w13 w14 w15 w16 w17) H locs ∧ lv_has ls 3 [(0, .ref h0), (1, .int p0), (2, .int p1)]) (fun H locs ls st hP => ?_) (fun J_60 => ?_)
          · obtain ⟨v60_7_0, v60_7_1, rfl, h, hl⟩ := hP
            refine lv_iconst (v := 0) hx hb dX11_opposed_60 (by decide) ?_
            exact J_61 _ _ _ _ ⟨0, v60_7_0, v60_7_1, ⟨by decide +kernel, by decide +kernel⟩, rfl, h, (lv_sub hl [0, 1, 2] rfl)⟩
          · skip
            refine lv_icmp_eq (tgt := 60) hx hb dX11_opposed_21 (by decide) (fun c_8 => ?_) (fun c_8 => ?_)
            · replace c_8 := i_eq (x := p0) (y := p1) rfl rfl c_8
              exact J_60 _ _ _ _ ⟨f2, f3, rfl, h_4, (lv_sub hl [0, 1, 2] rfl)⟩
            · replace c_8 := i_ne (x := p0) (y := p1) rfl rfl c_8
              refine lv_aload_n hx hb dX11_opposed_24 rfl (lv_at hl 0 rfl) ?_
              refine q_get X hK h_4 6 rfl rfl wf_11 12 (by decide) rfl wm_2_110 dX11_opposed_25 ?_
              refine lv_aload_n hx hb dX11_opposed_28 rfl (lv_at hl 0 rfl) ?_
              refine q_get X hK h_4 6 rfl rfl wf_11 5 (by decide) rfl wm_2_103 dX11_opposed_29 ?_
              refine lv_iload_n hx hb dX11_opposed_32 rfl (lv_at hl 1 rfl) ?_
              refine lv_aload_n hx hb dX11_opposed_33 rfl (lv_at hl 0 rfl) ?_
              refine q_get X hK h_4 6 rfl rfl wf_11 5 (by decide) rfl wm_2_103 dX11_opposed_34 ?_
              refine q_get X hK h_4 7 rfl rfl wf_7 3 (by decide) rfl wm_2_54 dX11_opposed_37 ?_
              refine lv_iload_n hx hb dX11_opposed_40 rfl (lv_at hl 1 rfl) ?_
              refine q_iald X hK h_4 2 rfl (i_in rfl (by omega) (by omega)) dX11_opposed_41 ?_
              obtain ⟨z_9, ez_9, hz_9⟩ := rg_get rf1 (x := p0) rfl (by omega) (by omega)
              refine q_c z_9 ez_9 ?_
              clear ez_9
              refine lv_iload_n hx hb dX11_opposed_42 rfl (lv_at hl 2 rfl) ?_
              refine lv_aload_n hx hb dX11_opposed_43 rfl (lv_at hl 0 rfl) ?_
              refine q_get X hK h_4 6 rfl rfl wf_11 5 (by decide) rfl wm_2_103 dX11_opposed_44 ?_
              refine q_get X hK h_4 7 rfl rfl wf_7 1 (by decide) rfl wm_2_47 dX11_opposed_47 ?_
              refine q_callVi (rest := []) (wr := [(h0, .inr (11, [w0, .int p2, .int p3, .int p4, w1, .ref h1, w2, w3, w4, w5, w6, w7, .ref h6, w8, w9, w10, .int p5]))]) X hK hT hA h_4 (fun sz => gX6_areOpposites_33728bb l D cy h6 h7 h8 h1 h2 h3 h4 h5 p0 z_9 p1 p6 f2 f3 p7 p8 p9 p10 p11 w11 w12 w13 w14 w15 w16 w17 m0 f0 f1 ⟨by omega, by omega⟩ ⟨by omega, by omega⟩ ⟨by omega, by omega⟩ (i_rng _) (i_rng _) hp8 hp9 (i_rng _) (i_rng _) (by omega) (rg_wide rf1 (by decide) (by decide)) sz) wm_3_196 wm_3_199 wm_1_5 hd_X6_areOpposites wm_3_197 wm_3_198 (ci := 6) (q0 := 0) rfl rfl ⟨Nat.le_of_ble_eq_true rfl, Nat.le_of_ble_eq_true rfl⟩ hl.1 rfl (Nat.le_of_ble_eq_true rfl) dX11_opposed_50 ⟨Nat.le_of_ble_eq_true rfl, Nat.le_of_ble_eq_true rfl⟩ [3, 4, 5, 7, 8, 0, 1, 2] [6] rfl rfl (by decide) rfl rfl (fun r_10 u_10 H locs w_10 h_10 => ?_)
              clear h_4
              obtain ⟨wr_10, _⟩ := w_10
              replace h_10 : qW D _ _ (wk_04616d866 cy h0 w0 p2 p3 p4 w1 h1 w2 w3 w4 w5 w6 w7 h6 w8 w9 w10 p5 h6 h7 h8 h7 (u_10.2.1 0) h8 (u_10.2.1 1) h1 h2 p6 p7 h5 h2 p8 p9 p10 p11 h3 w11 w12 w13 w14 w15 w16 w17 h3 h4 h4 m0 f0 h5 f1) _ _ := h_10
              refine lv_if_eq (tgt := 60) hx hb dX11_opposed_53 (by decide) (fun c_11 => ?_) (fun c_11 => ?_)
              · replace c_11 := i_eq (x := r_10) (y := 0) rfl (show (0 : Int32).toInt = 0 by decide) c_11
                exact J_60 _ _ _ _ ⟨(u_10.2.1 0), (u_10.2.1 1), rfl, (q_re h_10 [6, 7, 8, 1, 2, 3, 0, 4, 5] rfl rfl), (lv_sub hl [0, 1, 2] rfl)⟩
              · replace c_11 := i_ne (x := r_10) (y := 0) rfl (show (0 : Int32).toInt = 0 by decide) c_11
                refine lv_iconst (v := 1) hx hb dX11_opposed_56 (by decide) ?_
                refine lv_goto (tgt := 61) hx hb dX11_opposed_57 (by decide) ?_
                exact J_61 _ _ _ _ ⟨1, (u_10.2.1 0), (u_10.2.1 1), ⟨by decide +kernel, by decide +kernel⟩, rfl, (q_re h_10 [6, 7, 8, 1, 2, 3, 0, 4, 5] rfl rfl), (lv_sub hl [0, 1, 2] rfl)⟩
      · replace c_5 := i_eq (x := r_4) (y := 0) rfl (show (0 : Int32).toInt = 0 by decide) c_5
        exact J_16 _ _ _ _ ⟨rfl, h_4, (lv_sub hl [0, 1, 2] rfl)⟩
set_option maxHeartbeats 4000000 in
set_option maxRecDepth 100000 in
theorem gX11_opposites_83db685 (l : Launch) (D : va_G) (cy : Nat → ClassId) (h0 : Nat) (h1 : Nat) (h2 : Nat) (h3 : Nat) (h4 : Nat) (p0 : Int32) (w0 : Value) (p1 : Int32) (p2 : Int32) (p3 : Int32) (w1 : Value) (w2 : Value) (w3 : Value) (w4 : Value) (w5 : Value) (w6 : Value) (w7 : Value) (w8 : Value) (w9 : Value) (w10 : Value) (p4 : Int32) (p5 : Int32) (p6 : Int32) (p7 : Int32) (p8 : Int32) (p9 : Int32) (p10 : Int32) (w11 : Value) (w12 : Value) (w13 : Value) (w14 : Value) (w15 : Value) (w16 : Value) (w17 : Value) (f0 : Nat → Int32) (w18 : Value) (w19 : Value) (hp0 : (-2147483648) ≤ (p0).toInt ∧ (p0).toInt ≤ 2147483647) (hp1 : 0 ≤ (p1).toInt ∧ (p1).toInt ≤ 900) (hp2 : (-2147483648) ≤ (p2).toInt ∧ (p2).toInt ≤ 2147483647) (hp3 : (-2147483648) ≤ (p3).toInt ∧ (p3).toInt ≤ 2147483647) (hp4 : (-2147483648) ≤ (p4).toInt ∧ (p4).toInt ≤ 2147483647) (hp5 : (-2147483648) ≤ (p5).toInt ∧ (p5).toInt ≤ 2147483647) (hp6 : (-2147483648) ≤ (p6).toInt ∧ (p6).toInt ≤ 2147483647) (hp7 : 1 ≤ (p7).toInt ∧ (p7).toInt ≤ 3) (hp8 : 0 ≤ (p8).toInt ∧ (p8).toInt ≤ 10) (hp9 : (-2147483648) ≤ (p9).toInt ∧ (p9).toInt ≤ 2147483647) (hp10 : (-2147483648) ≤ (p10).toInt ∧ (p10).toInt ≤ 2147483647) (rf0 : RG f0 10 0 999) (sz : Nat) : MI l yX11_opposites cX11_opposites 2 .int { frames := 2, cells := 0, slots := 0, locals := 53 } [.ref h0, .int p0] D cy (wk_2be7b364d cy h0 w0 p1 p2 p3 w1 h1 w2 w3 w4 w5 w6 w7 h4 w8 w9 w10 p4 h1 h2 p5 p6 h3 h2 p7 p8 p9 p10 w11 w12 w13 w14 w15 w16 w17 h3 f0 h4 w18 w19) sz (fun r u => ((-2) ≤ r.toInt ∧ r.toInt ≤ 1023) ∧ True) (fun u => (wk_2be7b364d cy h0 w0 p1 p2 p3 w1 h1 w2 w3 w4 w5 w6 w7 h4 w8 w9 w10 p4 h1 h2 p5 p6 h3 h2 p7 p8 p9 p10 w11 w12 w13 w14 w15 w16 w17 h3 f0 h4 w18 w19)) 0 0 := by
  refine q_ent (own := RX11) (by decide) rfl (Nat.le_of_ble_eq_true rfl) (fun p e s m below meth c ls X hr hlk hnm hK hT h hA hl => ?_)
  obtain ⟨hx, hb, hml, hown, ht⟩ := id X
  replace hl : lv_has ls 2 [(0, .ref h0), (1, .int p0)] := hl
  refine lv_aload_n hx hb dX11_opposites_0 rfl (lv_at hl 0 rfl) ?_
  refine lv_iload_n hx hb dX11_opposites_1 rfl (lv_at hl 1 rfl) ?_
  refine q_callVi (rest := []) (wr := (wk_9024348c3 cy h3 f0 h4 w18 w19)) X hK hT hA h (fun sz => gX11_isPerson_a5d2bee l D cy h0 h1 h2 p0 w0 p1 p2 p3 w1 w2 w3 w4 w5 w6 w7 (.ref h4) w8 w9 w10 p4 p5 p6 (.ref h3) p7 p8 p9 p10 Value.null w11 w12 w13 w14 w15 w16 w17 (i_rng _) hp1 (i_rng _) (i_rng _) (i_rng _) (i_rng _) (i_rng _) hp7 hp8 (i_rng _) (i_rng _) sz) wm_3_174 wm_3_177 wm_1_1 hd_X11_isPerson wm_3_176 wp_2_8 (ci := 11) (q0 := 0) rfl rfl ⟨Nat.le_of_ble_eq_true rfl, Nat.le_of_ble_eq_true rfl⟩ hl.1 rfl (Nat.le_of_ble_eq_true rfl) dX11_opposites_2 ⟨Nat.le_of_ble_eq_true rfl, Nat.le_of_ble_eq_true rfl⟩ [0, 1, 2] [3, 4] rfl rfl (by decide) rfl rfl (fun r_1 u_1 H locs w_1 h_1 => ?_)
  clear h
  obtain ⟨wr_1, y1_0, _⟩ := w_1
  replace h_1 : qW D _ _ (wk_fbb05978d cy h3 f0 h4 w18 w19 h0 w0 p1 p2 p3 w1 h1 w2 w3 w4 w5 w6 w7 h4 w8 w9 w10 p4 h1 h2 p5 p6 h3 h2 p7 p8 p9 p10 w11 w12 w13 w14 w15 w16 w17) _ _ := h_1
  refine lv_if_ne (tgt := 11) hx hb dX11_opposites_5 (by decide) (fun c_2 => ?_) (fun c_2 => ?_)
  · replace c_2 := i_ne (x := r_1) (y := 0) rfl (show (0 : Int32).toInt = 0 by decide) c_2
    refine lv_aload_n hx hb dX11_opposites_11 rfl (lv_at hl 0 rfl) ?_
    refine q_get X hK h_1 2 rfl rfl wf_11 12 (by decide) rfl wm_2_110 dX11_opposites_12 ?_
    refine lv_aload_n hx hb dX11_opposites_15 rfl (lv_at hl 0 rfl) ?_
    refine q_get X hK h_1 2 rfl rfl wf_11 5 (by decide) rfl wm_2_103 dX11_opposites_16 ?_
    refine lv_iload_n hx hb dX11_opposites_19 rfl (lv_at hl 1 rfl) ?_
    refine lv_aload_n hx hb dX11_opposites_20 rfl (lv_at hl 0 rfl) ?_
    refine q_get X hK h_1 2 rfl rfl wf_11 5 (by decide) rfl wm_2_103 dX11_opposites_21 ?_
    refine q_get X hK h_1 3 rfl rfl wf_7 3 (by decide) rfl wm_2_54 dX11_opposites_24 ?_
    refine lv_iload_n hx hb dX11_opposites_27 rfl (lv_at hl 1 rfl) ?_
    refine q_iald X hK h_1 0 rfl (i_in rfl (by omega) (by omega)) dX11_opposites_28 ?_
    obtain ⟨z_3, ez_3, hz_3⟩ := rg_get rf0 (x := p0) rfl (by omega) (by omega)
    refine q_c z_3 ez_3 ?_
    clear ez_3
    refine lv_aload_n hx hb dX11_opposites_29 rfl (lv_at hl 0 rfl) ?_
    refine q_get X hK h_1 2 rfl rfl wf_11 5 (by decide) rfl wm_2_103 dX11_opposites_30 ?_
    refine q_get X hK h_1 3 rfl rfl wf_7 1 (by decide) rfl wm_2_47 dX11_opposites_33 ?_
    refine q_callVi (rest := []) (wr := [(h0, .inr (11, [w0, .int p1, .int p2, .int p3, w1, .ref h1, w2, w3, w4, w5, w6, w7, .ref h4, w8, w9, w10, .int p4]))]) X hK hT hA h_1 (fun sz => gX6_rowOf_66e7a6f l D cy h4 h1 h2 h3 p0 z_3 p5 w18 w19 p6 p7 p8 p9 p10 w11 w12 w13 w14 w15 w16 w17 f0 ⟨by omega, by omega⟩ ⟨by omega, by omega⟩ (i_rng _) (i_rng _) hp7 hp8 (i_rng _) (i_rng _) (rg_wide rf0 (by decide) (by decide)) sz) wm_3_227 wm_3_230 wm_1_5 hd_X6_rowOf wm_3_228 wm_3_229 (ci := 6) (q0 := 0) rfl rfl ⟨Nat.le_of_ble_eq_true rfl, Nat.le_of_ble_eq_true rfl⟩ hl.1 rfl (Nat.le_of_ble_eq_true rfl) dX11_opposites_36 ⟨Nat.le_of_ble_eq_true rfl, Nat.le_of_ble_eq_true rfl⟩ [1, 3, 4, 0] [2] rfl rfl (by decide) rfl rfl (fun r_4 u_4 H locs w_4 h_4 => ?_)
    clear h_1
    obtain ⟨wr_4, _⟩ := w_4
    replace h_4 : qW D _ _ (wk_bc1158795 cy h0 w0 p1 p2 p3 w1 h1 w2 w3 w4 w5 w6 w7 h4 w8 w9 w10 p4 h4 w18 w19 h1 h2 p5 p6 h3 h2 p7 p8 p9 p10 w11 w12 w13 w14 w15 w16 w17 h3 f0) _ _ := h_4
    exact q_iret X hr hlk hK h_4 rfl (fun _ => 0, fun _ _ => 0, fun _ _ => 0) ⟨(bw wr_4 (by decide) (by decide)), trivial⟩ [0, 2, 3, 4, 1] rfl rfl dX11_opposites_39 (Nat.le_of_ble_eq_true rfl) (Nat.le_of_ble_eq_true rfl)
  · replace c_2 := i_eq (x := r_1) (y := 0) rfl (show (0 : Int32).toInt = 0 by decide) c_2
    refine lv_bipush (v := (-2)) hx hb dX11_opposites_8 (by decide) ?_
    exact q_iret X hr hlk hK h_1 rfl (fun _ => 0, fun _ _ => 0, fun _ _ => 0) ⟨⟨by decide +kernel, by decide +kernel⟩, trivial⟩ [2, 3, 4, 0, 1] rfl rfl dX11_opposites_10 (Nat.le_of_ble_eq_true rfl) (Nat.le_of_ble_eq_true rfl)
set_option maxHeartbeats 4000000 in
set_option maxRecDepth 100000 in
theorem gX11_opposites_1519ba4 (l : Launch) (D : va_G) (cy : Nat → ClassId) (h0 : Nat) (h1 : Nat) (h2 : Nat) (h3 : Nat) (h4 : Nat) (h5 : Nat) (h6 : Nat) (h7 : Nat) (h8 : Nat) (p0 : Int32) (w0 : Value) (p1 : Int32) (p2 : Int32) (p3 : Int32) (w1 : Value) (w2 : Value) (w3 : Value) (w4 : Value) (w5 : Value) (w6 : Value) (w7 : Value) (w8 : Value) (w9 : Value) (w10 : Value) (p4 : Int32) (p5 : Int32) (p6 : Int32) (p7 : Int32) (p8 : Int32) (p9 : Int32) (p10 : Int32) (w11 : Value) (w12 : Value) (w13 : Value) (w14 : Value) (w15 : Value) (w16 : Value) (w17 : Value) (m0 : Nat) (f0 : Nat → Int32) (f1 : Nat → Int32) (f2 : Nat → Int32) (f3 : Nat → Int32) (hp0 : (-2147483648) ≤ (p0).toInt ∧ (p0).toInt ≤ 2147483647) (hp1 : 0 ≤ (p1).toInt ∧ (p1).toInt ≤ 900) (hp2 : (-2147483648) ≤ (p2).toInt ∧ (p2).toInt ≤ 2147483647) (hp3 : (-2147483648) ≤ (p3).toInt ∧ (p3).toInt ≤ 2147483647) (hp4 : (-2147483648) ≤ (p4).toInt ∧ (p4).toInt ≤ 2147483647) (hp5 : (-2147483648) ≤ (p5).toInt ∧ (p5).toInt ≤ 2147483647) (hp6 : (-2147483648) ≤ (p6).toInt ∧ (p6).toInt ≤ 2147483647) (hp7 : 1 ≤ (p7).toInt ∧ (p7).toInt ≤ 3) (hp8 : 0 ≤ (p8).toInt ∧ (p8).toInt ≤ 10) (hp9 : (-2147483648) ≤ (p9).toInt ∧ (p9).toInt ≤ 2147483647) (hp10 : (-2147483648) ≤ (p10).toInt ∧ (p10).toInt ≤ 2147483647) (hm0 : m0 ≤ 900) (rf1 : RG f1 10 0 999) (sz : Nat) : MI l yX11_opposites cX11_opposites 2 .int { frames := 6, cells := 0, slots := 0, locals := 145 } [.ref h0, .int p0] D cy (wk_7755af277 cy h0 w0 p1 p2 p3 w1 h1 w2 w3 w4 w5 w6 w7 h6 w8 w9 w10 p4 h1 h2 p5 p6 h5 h2 p7 p8 p9 p10 h3 w11 w12 w13 w14 w15 w16 w17 h3 h4 h4 m0 f0 h5 f1 h6 h7 h8 h7 f2 h8 f3) sz (fun r u => ((-2) ≤ r.toInt ∧ r.toInt ≤ 1023) ∧ True) (fun u => (wk_7755af277 cy h0 w0 p1 p2 p3 w1 h1 w2 w3 w4 w5 w6 w7 h6 w8 w9 w10 p4 h1 h2 p5 p6 h5 h2 p7 p8 p9 p10 h3 w11 w12 w13 w14 w15 w16 w17 h3 h4 h4 m0 f0 h5 f1 h6 h7 h8 h7 (u.2.1 0) h8 (u.2.1 1))) 0 0 := by
  refine q_ent (own := RX11) (by decide) rfl (Nat.le_of_ble_eq_true rfl) (fun p e s m below meth c ls X hr hlk hnm hK hT h hA hl => ?_)
  obtain ⟨hx, hb, hml, hown, ht⟩ := id X
  replace hl : lv_has ls 2 [(0, .ref h0), (1, .int p0)] := hl
  refine lv_aload_n hx hb dX11_opposites_0 rfl (lv_at hl 0 rfl) ?_
  refine lv_iload_n hx hb dX11_opposites_1 rfl (lv_at hl 1 rfl) ?_
  refine q_callVi (rest := []) (wr := (wk_c949ce636 cy h3 h4 h4 m0 f0 h5 f1 h6 h7 h8 h7 f2 h8 f3)) X hK hT hA h (fun sz => gX11_isPerson_a5d2bee l D cy h0 h1 h2 p0 w0 p1 p2 p3 w1 w2 w3 w4 w5 w6 w7 (.ref h6) w8 w9 w10 p4 p5 p6 (.ref h5) p7 p8 p9 p10 (.ref h3) w11 w12 w13 w14 w15 w16 w17 (i_rng _) hp1 (i_rng _) (i_rng _) (i_rng _) (i_rng _) (i_rng _) hp7 hp8 (i_rng _) (i_rng _) sz) wm_3_174 wm_3_177 wm_1_1 hd_X11_isPerson wm_3_176 wp_2_8 (ci := 11) (q0 := 0) rfl rfl ⟨Nat.le_of_ble_eq_true rfl, Nat.le_of_ble_eq_true rfl⟩ hl.1 rfl (Nat.le_of_ble_eq_true rfl) dX11_opposites_2 ⟨Nat.le_of_ble_eq_true rfl, Nat.le_of_ble_eq_true rfl⟩ [0, 1, 2] [3, 4, 5, 6, 7, 8] rfl rfl (by decide) rfl rfl (fun r_1 u_1 H locs w_1 h_1 => ?_)
  clear h
  obtain ⟨wr_1, y1_0, _⟩ := w_1
  replace h_1 : qW D _ _ (wk_84a7f80a9 cy h3 h4 h4 m0 f0 h5 f1 h6 h7 h8 h7 f2 h8 f3 h0 w0 p1 p2 p3 w1 h1 w2 w3 w4 w5 w6 w7 h6 w8 w9 w10 p4 h1 h2 p5 p6 h5 h2 p7 p8 p9 p10 h3 w11 w12 w13 w14 w15 w16 w17) _ _ := h_1
  refine lv_if_ne (tgt := 11) hx hb dX11_opposites_5 (by decide) (fun c_2 => ?_) (fun c_2 => ?_)
  · replace c_2 := i_ne (x := r_1) (y := 0) rfl (show (0 : Int32).toInt = 0 by decide) c_2
    refine lv_aload_n hx hb dX11_opposites_11 rfl (lv_at hl 0 rfl) ?_
    refine q_get X hK h_1 6 rfl rfl wf_11 12 (by decide) rfl wm_2_110 dX11_opposites_12 ?_
    refine lv_aload_n hx hb dX11_opposites_15 rfl (lv_at hl 0 rfl) ?_
    refine q_get X hK h_1 6 rfl rfl wf_11 5 (by decide) rfl wm_2_103 dX11_opposites_16 ?_
    refine lv_iload_n hx hb dX11_opposites_19 rfl (lv_at hl 1 rfl) ?_
    refine lv_aload_n hx hb dX11_opposites_20 rfl (lv_at hl 0 rfl) ?_
    refine q_get X hK h_1 6 rfl rfl wf_11 5 (by decide) rfl wm_2_103 dX11_opposites_21 ?_
    refine q_get X hK h_1 7 rfl rfl wf_7 3 (by decide) rfl wm_2_54 dX11_opposites_24 ?_
    refine lv_iload_n hx hb dX11_opposites_27 rfl (lv_at hl 1 rfl) ?_
    refine q_iald X hK h_1 2 rfl (i_in rfl (by omega) (by omega)) dX11_opposites_28 ?_
    obtain ⟨z_3, ez_3, hz_3⟩ := rg_get rf1 (x := p0) rfl (by omega) (by omega)
    refine q_c z_3 ez_3 ?_
    clear ez_3
    refine lv_aload_n hx hb dX11_opposites_29 rfl (lv_at hl 0 rfl) ?_
    refine q_get X hK h_1 6 rfl rfl wf_11 5 (by decide) rfl wm_2_103 dX11_opposites_30 ?_
    refine q_get X hK h_1 7 rfl rfl wf_7 1 (by decide) rfl wm_2_47 dX11_opposites_33 ?_
    refine q_callVi (rest := []) (wr := [(h0, .inr (11, [w0, .int p1, .int p2, .int p3, w1, .ref h1, w2, w3, w4, w5, w6, w7, .ref h6, w8, w9, w10, .int p4]))]) X hK hT hA h_1 (fun sz => gX6_rowOf_c6af44d l D cy h6 h7 h8 h1 h2 h3 h4 h5 p0 z_3 p5 f2 f3 p6 p7 p8 p9 p10 w11 w12 w13 w14 w15 w16 w17 m0 f0 f1 ⟨by omega, by omega⟩ ⟨by omega, by omega⟩ (i_rng _) (i_rng _) hp7 hp8 (i_rng _) (i_rng _) (by omega) (rg_wide rf1 (by decide) (by decide)) sz) wm_3_227 wm_3_230 wm_1_5 hd_X6_rowOf wm_3_228 wm_3_229 (ci := 6) (q0 := 0) rfl rfl ⟨Nat.le_of_ble_eq_true rfl, Nat.le_of_ble_eq_true rfl⟩ hl.1 rfl (Nat.le_of_ble_eq_true rfl) dX11_opposites_36 ⟨Nat.le_of_ble_eq_true rfl, Nat.le_of_ble_eq_true rfl⟩ [3, 4, 5, 7, 8, 0, 1, 2] [6] rfl rfl (by decide) rfl rfl (fun r_4 u_4 H locs w_4 h_4 => ?_)
    clear h_1
    obtain ⟨wr_4, _⟩ := w_4
    replace h_4 : qW D _ _ (wk_04616d866 cy h0 w0 p1 p2 p3 w1 h1 w2 w3 w4 w5 w6 w7 h6 w8 w9 w10 p4 h6 h7 h8 h7 (u_4.2.1 0) h8 (u_4.2.1 1) h1 h2 p5 p6 h5 h2 p7 p8 p9 p10 h3 w11 w12 w13 w14 w15 w16 w17 h3 h4 h4 m0 f0 h5 f1) _ _ := h_4
    exact q_iret X hr hlk hK h_4 rfl (fun _ => 0, (vcons (u_4.2.1 0) (vcons (u_4.2.1 1) (fun _ => (fun _ => 0)))), fun _ _ => 0) ⟨(bw wr_4 (by decide) (by decide)), trivial⟩ [0, 4, 5, 6, 7, 8, 1, 2, 3] rfl rfl dX11_opposites_39 (Nat.le_of_ble_eq_true rfl) (Nat.le_of_ble_eq_true rfl)
  · replace c_2 := i_eq (x := r_1) (y := 0) rfl (show (0 : Int32).toInt = 0 by decide) c_2
    refine lv_bipush (v := (-2)) hx hb dX11_opposites_8 (by decide) ?_
    exact q_iret X hr hlk hK h_1 rfl (fun _ => 0, (vcons f2 (vcons f3 (fun _ => (fun _ => 0)))), fun _ _ => 0) ⟨⟨by decide +kernel, by decide +kernel⟩, trivial⟩ [6, 7, 8, 0, 1, 2, 3, 4, 5] rfl rfl dX11_opposites_10 (Nat.le_of_ble_eq_true rfl) (Nat.le_of_ble_eq_true rfl)
set_option maxHeartbeats 4000000 in
set_option maxRecDepth 100000 in
theorem gX11_doAlone_cb0361a (l : Launch) (D : va_G) (cy : Nat → ClassId) (h0 : Nat) (h1 : Nat) (h2 : Nat) (h3 : Nat) (h4 : Nat) (h5 : Nat) (h6 : Nat) (h7 : Nat) (h8 : Nat) (h9 : Nat) (h10 : Nat) (h11 : Nat) (hv : Nat → Prop) (p0 : Int32) (w0 : Value) (p1 : Int32) (p2 : Int32) (p3 : Int32) (w1 : Value) (w2 : Value) (w3 : Value) (w4 : Value) (w5 : Value) (w6 : Value) (w7 : Value) (w8 : Value) (p4 : Int32) (p5 : Int32) (p6 : Int32) (p7 : Int32) (p8 : Int32) (p9 : Int32) (p10 : Int32) (w9 : Value) (w10 : Value) (w11 : Value) (w12 : Value) (w13 : Value) (f0 : Nat → Int32) (f1 : Nat → Int32) (f2 : Nat → Int32) (h13 : Nat) (p11 : Int32) (p12 : Int32) (f3 : Nat → Int32) (p13 : Int32) (w14 : Value) (f4 : Nat → Int32) (v0 : SS) (hp0 : 0 ≤ (p0).toInt ∧ (p0).toInt ≤ 99) (hp1 : 0 ≤ (p1).toInt ∧ (p1).toInt ≤ 900) (hp2 : (-2147483648) ≤ (p2).toInt ∧ (p2).toInt ≤ 2147483647) (hp3 : (-2147483648) ≤ (p3).toInt ∧ (p3).toInt ≤ 2147483647) (hp4 : (-2147483648) ≤ (p4).toInt ∧ (p4).toInt ≤ 2147483647) (hp5 : (-2147483648) ≤ (p5).toInt ∧ (p5).toInt ≤ 2147483647) (hp6 : (-2147483648) ≤ (p6).toInt ∧ (p6).toInt ≤ 2147483647) (hp7 : 1 ≤ (p7).toInt ∧ (p7).toInt ≤ 3) (hp8 : 0 ≤ (p8).toInt ∧ (p8).toInt ≤ 10) (hp9 : (-2147483648) ≤ (p9).toInt ∧ (p9).toInt ≤ 2147483647) (hp10 : (-2147483648) ≤ (p10).toInt ∧ (p10).toInt ≤ 2147483647) (hp11 : (-2147483648) ≤ (p11).toInt ∧ (p11).toInt ≤ 2147483647) (hp12 : (-2147483648) ≤ (p12).toInt ∧ (p12).toInt ≤ 2147483647) (hp13 : 0 ≤ (p13).toInt ∧ (p13).toInt ≤ 10) (rf2 : RG f2 10 0 999) (rf3 : RG f3 10 0 999) (okv0 : HBok hv v0) (hpre0 : hv h2) (hpre1 : hv h13) (sz : Nat) : MI l yX11_doAlone cX11_doAlone 3 .int { frames := 4, cells := 0, slots := 0, locals := 104 } [.ref h0, .int p0] D cy ((wk_2300276c7 cy h0 w0 p1 p2 p3 w1 h1 h6 w2 h8 w3 w4 w5 h9 w6 w7 w8 p4 h1 h2 p5 p6 h5 h2 p7 p8 p9 p10 w9 w10 w11 h3 h4 w12 w13 h3 f0 h4 f1 h5 f2 h6 h13 p11 p12 h7 h7 f3 h8 p13 h11 h9 h10 w14 h10 f4) ++ HB cy h11 v0) sz (fun r u => (0 ≤ r.toInt ∧ r.toInt ≤ 2) ∧ ((-2147483648) ≤ (u.2.1 0 0).toInt ∧ (u.2.1 0 0).toInt ≤ 2147483647) ∧ RG (u.2.1 1) 10 0 999 ∧ ((-2147483648) ≤ (u.2.1 2 0).toInt ∧ (u.2.1 2 0).toInt ≤ 2147483647) ∧ ((-2147483648) ≤ (u.2.1 3 0).toInt ∧ (u.2.1 3 0).toInt ≤ 2147483647) ∧ RG (u.2.1 4) 10 0 999 ∧ (0 ≤ (u.2.1 5 0).toInt ∧ (u.2.1 5 0).toInt ≤ 10) ∧ ((-2147483648) ≤ (u.2.1 7 0).toInt ∧ (u.2.1 7 0).toInt ≤ 2147483647) ∧ ((-2147483648) ≤ (u.2.1 8 0).toInt ∧ (u.2.1 8 0).toInt ≤ 2147483647) ∧ HBok hv (fun k => u.1 (k + 1), fun k => u.2.1 (k + 9), u.2.2) ∧ (hv (u.1 0)) ∧ True) (fun u => ((wk_2300276c7 cy h0 w0 p1 p2 p3 w1 h1 h6 w2 h8 w3 w4 w5 h9 w6 w7 w8 (u.2.1 0 0) h1 h2 (u.2.1 7 0) (u.2.1 8 0) h5 h2 p7 p8 p9 p10 w9 w10 w11 h3 h4 w12 w13 h3 f0 h4 f1 h5 (u.2.1 1) h6 (u.1 0) (u.2.1 2 0) (u.2.1 3 0) h7 h7 (u.2.1 4) h8 (u.2.1 5 0) h11 h9 h10 w14 h10 (u.2.1 6)) ++ HB cy h11 (fun k => u.1 (k + 1), fun k => u.2.1 (k + 9), u.2.2))) 0 0 := by
  refine q_ent (own := RX11) (by decide) rfl (Nat.le_of_ble_eq_true rfl) (fun p e s m below meth c ls X hr hlk hnm hK hT h hA hl => ?_)
  obtain ⟨hx, hb, hml, hown, ht⟩ := id X
  replace hl : lv_has ls 3 [(0, .ref h0), (1, .int p0)] := hl
  refine lv_aload_n hx hb dX11_doAlone_0 rfl (lv_at hl 0 rfl) ?_
  refine q_get X hK h 0 rfl rfl wf_11 5 (by decide) rfl wm_2_103 dX11_doAlone_1 ?_
  refine lv_iload_n hx hb dX11_doAlone_4 rfl (lv_at hl 1 rfl) ?_
  refine lv_i2l hx hb dX11_doAlone_5 rfl ?_
  obtain ⟨z_1, ez_1, hz_1⟩ := e_i2l (x := p0) rfl
  refine q_cl z_1 ez_1 ?_
  clear ez_1
  refine q_callVi (rest := []) (wr := ([(h0, .inr (11, [w0, .int p1, .int p2, .int p3, w1, .ref h1, .ref h6, w2, .ref h8, w3, w4, w5, .ref h9, w6, w7, w8, .int p4])), (h5, .inl (cy 1, 10, .inl f2)), (h6, .inr (7, [.ref h13, .int p11, .int p12, .ref h7])), (h7, .inl (cy 1, 10, .inl f3)), (h8, .inr (2, [.int p13, .ref h11])), (h9, .inr (6, [.ref h10, w14])), (h10, .inl (cy 1, 11, .inl f4))] ++ HB cy h11 v0)) X hK hT hA h (fun sz => gX7_whyNot_681946d l D cy h1 h2 h3 h4 z_1 p5 p6 (.ref h5) p7 p8 p9 p10 w9 w10 Value.null w11 w12 w13 f0 f1 (j_rng _) (i_rng _) (i_rng _) hp7 hp8 (i_rng _) (i_rng _) sz) wm_4_4 wm_4_7 wm_1_9 hd_X7_whyNot wm_4_5 wm_4_6 (ci := 7) (q0 := 0) rfl rfl ⟨Nat.le_of_ble_eq_true rfl, Nat.le_of_ble_eq_true rfl⟩ hl.1 rfl (Nat.le_of_ble_eq_true rfl) dX11_doAlone_6 ⟨Nat.le_of_ble_eq_true rfl, Nat.le_of_ble_eq_true rfl⟩ [1, 2, 3, 4] [0, 5, 6, 7, 8, 9, 10, 11, 12, 13, 14, 15, 16, 17, 18, 19, 20, 21, 22, 23, 24, 25, 26, 27, 28, 29, 30, 31] rfl rfl (by decide) rfl rfl (fun r_2 u_2 H locs w_2 h_2 => ?_)
  clear h
  obtain ⟨wr_2, _⟩ := w_2
  replace h_2 : qW D _ _ ((wk_6725115eb cy h0 w0 p1 p2 p3 w1 h1 h6 w2 h8 w3 w4 w5 h9 w6 w7 w8 p4 h5 f2 h6 h13 p11 p12 h7 h7 f3 h8 p13 h11 h9 h10 w14 h10 f4 h1 h2 p5 p6 h5 h2 p7 p8 p9 p10 w9 w10 w11 h3 h4 w12 w13 h3 f0 h4 f1) ++ HB cy h11 v0) _ _ := q_re h_2 [0, 1, 2, 3, 4, 5, 6, 28, 29, 30, 31, 7, 8, 9, 10, 11, 12, 13, 14, 15, 16, 17, 18, 19, 20, 21, 22, 23, 24, 25, 26, 27] rfl rfl
  refine lv_istore_n (lv' := [(2, .int r_2), (0, .ref h0), (1, .int p0)]) hx hb dX11_doAlone_9 rfl hl (by decide) rfl (fun ls_3 hl_3 => ?_)
  clear hl
  refine lv_iload_n hx hb dX11_doAlone_10 rfl (lv_at hl_3 0 rfl) ?_
  refine q_jn (pc2 := 42) (fun H locs ls st => ∃ v42_4_0 : Int32, ∃ v42_4_1 : Int32, ∃ v42_4_4 : Int32, ∃ v42_4_5 : Nat, ∃ v42_4_6 : Int32, ∃ v42_4_7 : Int32, ∃ v42_4_9 : Int32, ∃ v42_4_2 : Nat → Int32, ∃ v42_4_3 : Nat → Int32, ∃ v42_4_8 : Nat → Int32, ∃ v42_4_10 : SS, ((-2147483648) ≤ (v42_4_0).toInt ∧ (v42_4_0).toInt ≤ 2147483647) ∧ ((-2147483648) ≤ (v42_4_1).toInt ∧ (v42_4_1).toInt ≤ 2147483647) ∧ ((-2147483648) ≤ (v42_4_4).toInt ∧ (v42_4_4).toInt ≤ 2147483647) ∧ ((-2147483648) ≤ (v42_4_6).toInt ∧ (v42_4_6).toInt ≤ 2147483647) ∧ ((-2147483648) ≤ (v42_4_7).toInt ∧ (v42_4_7).toInt ≤ 2147483647) ∧ (0 ≤ (v42_4_9).toInt ∧ (v42_4_9).toInt ≤ 10) ∧ RG v42_4_2 10 0 999 ∧ RG v42_4_8 10 0 999 ∧ HBok hv v42_4_10 ∧ (hv v42_4_5) ∧ st = [] ∧ qW D (va_A ((wk_2300276c7 cy h0 w0 p1 p2 p3 w1 h1 h6 w2 h8 w3 w4 w5 h9 w6 w7 w8 p4 h1 h2 p5 p6 h5 h2 p7 p8 p9 p10 w9 w10 w11 h3 h4 w12 w13 h3 f0 h4 f1 h5 f2 h6 h13 p11 p12 h7 h7 f3 h8 p13 h11 h9 h10 w14 h10 f4) ++ HB cy h11 v0) sz) s.heap ((wk_6725115eb cy h0 w0 p1 p2 p3 w1 h1 h6 w2 h8 w3 w4 w5 h9 w6 w7 w8 v42_4_4 h5 v42_4_2 h6 v42_4_5 v42_4_6 v42_4_7 h7 h7 v42_4_8 h8 v42_4_9 h11 h9 h10 w14 h10 v42_4_3 h1 h2 v42_4_0 v42_4_1 h5 h2 p7 p8 p9 p10 w9 w10 w11 h3 h4 w12 w13 h3 f0 h4 f1) ++ HB cy h11 v42_4_10) H locs ∧ lv_has ls 3 [(0, .ref h0), (1, .int p0), (2, .int r_2)]) (fun H locs ls st hP => ?_) (fun J_42 => ?_)
  · obtain ⟨v42_4_0, v42_4_1, v42_4_4, v42_4_5, v42_4_6, v42_4_7, v42_4_9, v42_4_2, v42_4_3, v42_4_8, v42_4_10, hv42_4_0, hv42_4_1, hv42_4_4, hv42_4_6, hv42_4_7, hv42_4_9, rv42_4_2, rv42_4_8, okv42_4_10, x5_0, rfl, h, hl⟩ := hP
    refine lv_iload_n hx hb dX11_doAlone_42 rfl (lv_at hl 2 rfl) ?_
    exact q_iret X hr hlk hK h rfl ((vcons v42_4_5 v42_4_10.1), (vcons (fun _ => v42_4_4) (vcons v42_4_2 (vcons (fun _ => v42_4_6) (vcons (fun _ => v42_4_7) (vcons v42_4_8 (vcons (fun _ => v42_4_9) (vcons v42_4_3 (vcons (fun _ => v42_4_0) (vcons (fun _ => v42_4_1) v42_4_10.2.1))))))))), v42_4_10.2.2) ⟨wr_2, hv42_4_4, (rg_wide rv42_4_2 (by decide) (by decide)), hv42_4_6, hv42_4_7, (rg_wide rv42_4_8 (by decide) (by decide)), hv42_4_9, hv42_4_0, hv42_4_1, okv42_4_10, (show hv v42_4_5 from by assumption), trivial⟩ [0, 7, 8, 9, 10, 1, 2, 3, 4, 5, 6, 11, 12, 13, 14, 15, 16, 17, 18, 19, 20, 21, 22, 23, 24, 25, 26, 27, 28, 29, 30, 31] rfl rfl dX11_doAlone_43 (Nat.le_of_ble_eq_true rfl) (Nat.le_of_ble_eq_true rfl)
  · skip
    refine lv_if_ne (tgt := 42) hx hb dX11_doAlone_11 (by decide) (fun c_6 => ?_) (fun c_6 => ?_)
    · replace c_6 := i_ne (x := r_2) (y := 0) rfl (show (0 : Int32).toInt = 0 by decide) c_6
      exact J_42 _ _ _ _ ⟨p5, p6, p4, h13, p11, p12, p13, f2, f4, f3, v0, hp5, hp6, hp4, hp11, hp12, hp13, (rg_wide rf2 (by decide) (by decide)), (rg_wide rf3 (by decide) (by decide)), okv0, (by assumption), rfl, h_2, (lv_sub hl_3 [1, 2, 0] rfl)⟩
    · replace c_6 := i_eq (x := r_2) (y := 0) rfl (show (0 : Int32).toInt = 0 by decide) c_6
      refine lv_aload_n hx hb dX11_doAlone_14 rfl (lv_at hl_3 1 rfl) ?_
      refine q_get X hK h_2 0 rfl rfl wf_11 6 (by decide) rfl wm_2_104 dX11_doAlone_15 ?_
      refine lv_aload_n hx hb dX11_doAlone_18 rfl (lv_at hl_3 1 rfl) ?_
      refine q_get X hK h_2 0 rfl rfl wf_11 5 (by decide) rfl wm_2_103 dX11_doAlone_19 ?_
      refine q_callVv (rest := []) (wr := ([(h0, .inr (11, [w0, .int p1, .int p2, .int p3, w1, .ref h1, .ref h6, w2, .ref h8, w3, w4, w5, .ref h9, w6, w7, w8, .int p4])), (h8, .inr (2, [.int p13, .ref h11])), (h9, .inr (6, [.ref h10, w14])), (h10, .inl (cy 1, 11, .inl f4)), (h2, .inr (3, [.int p7, .int p8, .int p9, .int p10, w9, w10, .null, w11, .ref h3, .ref h4, w12, w13])), (h3, .inl (cy 1, 10, .inl f0)), (h4, .inl (cy 1, 10, .inl f1))] ++ HB cy h11 v0)) X hK hT hA h_2 (fun sz => gX7_takeFrom_18eae4c l D cy h6 h7 h1 h5 h13 p11 p12 f3 h2 p5 p6 f2 (i_rng _) (i_rng _) (i_rng _) (i_rng _) (rg_wide rf3 (by decide) (by decide)) (rg_wide rf2 (by decide) (by decide)) sz) wm_4_18 wm_4_21 wm_1_9 hd_X7_takeFrom wm_4_19 wm_4_20 (ci := 7) (q0 := 0) rfl rfl ⟨Nat.le_of_ble_eq_true rfl, Nat.le_of_ble_eq_true rfl⟩ hl_3.1 rfl (Nat.le_of_ble_eq_true rfl) dX11_doAlone_22 ⟨Nat.le_of_ble_eq_true rfl, Nat.le_of_ble_eq_true rfl⟩ [2, 3, 7, 1] [0, 4, 5, 6, 8, 9, 10, 11, 12, 13, 14, 15, 16, 17, 18, 19, 20, 21, 22, 23, 24, 25, 26, 27, 28, 29, 30, 31] rfl rfl (by decide) rfl rfl (fun u_7 H locs w_7 h_7 => ?_)
      clear h_2
      obtain ⟨w7_0, w7_1, w7_2, _⟩ := w_7
      replace h_7 : qW D _ _ ([(h0, .inr (11, [w0, .int p1, .int p2, .int p3, w1, .ref h1, .ref h6, w2, .ref h8, w3, w4, w5, .ref h9, w6, w7, w8, .int p4])), (h8, .inr (2, [.int p13, .ref h11])), (h9, .inr (6, [.ref h10, w14])), (h10, .inl (cy 1, 11, .inl f4)), (h2, .inr (3, [.int p7, .int p8, .int p9, .int p10, w9, w10, .null, w11, .ref h3, .ref h4, w12, w13])), (h3, .inl (cy 1, 10, .inl f0)), (h4, .inl (cy 1, 10, .inl f1)), (h6, .inr (7, [.ref h2, .int (u_7.2.1 0 0), .int (u_7.2.1 1 0), .ref h7])), (h7, .inl (cy 1, 10, .inl (u_7.2.1 2))), (h1, .inr (7, [.ref h2, .int p5, .int p6, .ref h5])), (h5, .inl (cy 1, 10, .inl f2))] ++ HB cy h11 v0) _ _ := q_re h_7 [0, 1, 2, 3, 4, 5, 6, 28, 29, 30, 31, 7, 8, 9, 10, 11, 12, 13, 14, 15, 16, 17, 18, 19, 20, 21, 22, 23, 24, 25, 26, 27] rfl rfl
      refine lv_aload_n hx hb dX11_doAlone_25 rfl (lv_at hl_3 1 rfl) ?_
      refine q_get X hK h_7 0 rfl rfl wf_11 5 (by decide) rfl wm_2_103 dX11_doAlone_26 ?_
      refine lv_iload_n hx hb dX11_doAlone_29 rfl (lv_at hl_3 2 rfl) ?_
      refine lv_i2l hx hb dX11_doAlone_30 rfl ?_
      obtain ⟨z_8, ez_8, hz_8⟩ := e_i2l (x := p0) rfl
      refine q_cl z_8 ez_8 ?_
      clear ez_8
      refine lv_aload_n hx hb dX11_doAlone_31 rfl (lv_at hl_3 1 rfl) ?_
      refine q_get X hK h_7 0 rfl rfl wf_11 12 (by decide) rfl wm_2_110 dX11_doAlone_32 ?_
      refine q_callVv (rest := []) (wr := ((wk_a3e2e2e56 cy h0 w0 p1 p2 p3 w1 h1 h6 w2 h8 w3 w4 w5 h9 w6 w7 w8 p4 h8 p13 h11 h3 f0 h4 f1 h6 h2 (u_7.2.1 0 0) (u_7.2.1 1 0) h7 h7 (u_7.2.1 2)) ++ HB cy h11 v0)) X hK hT hA h_7 (fun sz => gX7_carryOut_776adad l D cy h1 h2 h5 h9 h10 z_8 p5 p6 p7 p8 p9 p10 w9 w10 w11 (.ref h3) (.ref h4) w12 w13 f2 w14 f4 (j_rng _) (i_rng _) (i_rng _) hp7 hp8 (i_rng _) (i_rng _) (rg_wide rf2 (by decide) (by decide)) sz) wm_4_22 wm_4_25 wm_1_9 hd_X7_carryOut wm_4_23 wm_4_24 (ci := 7) (q0 := 0) rfl rfl ⟨Nat.le_of_ble_eq_true rfl, Nat.le_of_ble_eq_true rfl⟩ hl_3.1 rfl (Nat.le_of_ble_eq_true rfl) dX11_doAlone_35 ⟨Nat.le_of_ble_eq_true rfl, Nat.le_of_ble_eq_true rfl⟩ [9, 4, 10, 2, 3] [0, 1, 5, 6, 7, 8, 11, 12, 13, 14, 15, 16, 17, 18, 19, 20, 21, 22, 23, 24, 25, 26, 27, 28, 29, 30, 31] rfl rfl (by decide) rfl rfl (fun u_9 H locs w_9 h_9 => ?_)
      clear h_7
      obtain ⟨w9_0, w9_1, w9_2, _⟩ := w_9
      replace h_9 : qW D _ _ ([(h0, .inr (11, [w0, .int p1, .int p2, .int p3, w1, .ref h1, .ref h6, w2, .ref h8, w3, w4, w5, .ref h9, w6, w7, w8, .int p4])), (h8, .inr (2, [.int p13, .ref h11])), (h3, .inl (cy 1, 10, .inl f0)), (h4, .inl (cy 1, 10, .inl f1)), (h6, .inr (7, [.ref h2, .int (u_7.2.1 0 0), .int (u_7.2.1 1 0), .ref h7])), (h7, .inl (cy 1, 10, .inl (u_7.2.1 2))), (h1, .inr (7, [.ref h2, .int (u_9.2.1 0 0), .int (u_9.2.1 1 0), .ref h5])), (h2, .inr (3, [.int p7, .int p8, .int p9, .int p10, w9, w10, .null, w11, .ref h3, .ref h4, w12, w13])), (h5, .inl (cy 1, 10, .inl (u_9.2.1 2))), (h9, .inr (6, [.ref h10, w14])), (h10, .inl (cy 1, 11, .inl (u_9.2.1 3)))] ++ HB cy h11 v0) _ _ := q_re h_9 [0, 1, 2, 3, 4, 5, 27, 28, 29, 30, 31, 6, 7, 8, 9, 10, 11, 12, 13, 14, 15, 16, 17, 18, 19, 20, 21, 22, 23, 24, 25, 26] rfl rfl
      refine lv_aload_n hx hb dX11_doAlone_38 rfl (lv_at hl_3 1 rfl) ?_
      refine q_callVv (rest := []) (wr := [(h3, .inl (cy 1, 10, .inl f0)), (h4, .inl (cy 1, 10, .inl f1)), (h1, .inr (7, [.ref h2, .int (u_9.2.1 0 0), .int (u_9.2.1 1 0), .ref h5])), (h2, .inr (3, [.int p7, .int p8, .int p9, .int p10, w9, w10, .null, w11, .ref h3, .ref h4, w12, w13])), (h5, .inl (cy 1, 10, .inl (u_9.2.1 2))), (h9, .inr (6, [.ref h10, w14])), (h10, .inl (cy 1, 11, .inl (u_9.2.1 3)))]) X hK hT hA h_9 (fun sz => gX11_remember_9909f19 l D cy h0 h6 h7 h8 h11 hv w0 p1 p2 p3 w1 (.ref h1) w2 w3 w4 w5 (.ref h9) w6 w7 w8 p4 h2 (u_7.2.1 0 0) (u_7.2.1 1 0) (u_7.2.1 2) p13 v0 hp1 (i_rng _) (i_rng _) (i_rng _) (i_rng _) (i_rng _) hp13 (rg_wide w7_2 (by decide) (by decide)) okv0 (hpre0) sz) wm_4_39 wm_4_42 wm_1_1 hd_X11_remember wm_4_41 wp_2_15 (ci := 11) (q0 := 0) rfl rfl ⟨Nat.le_of_ble_eq_true rfl, Nat.le_of_ble_eq_true rfl⟩ hl_3.1 rfl (Nat.le_of_ble_eq_true rfl) dX11_doAlone_39 ⟨Nat.le_of_ble_eq_true rfl, Nat.le_of_ble_eq_true rfl⟩ [0, 4, 5, 1, 11, 12, 13, 14, 15, 16, 17, 18, 19, 20, 21, 22, 23, 24, 25, 26, 27, 28, 29, 30, 31] [2, 3, 6, 7, 8, 9, 10] rfl rfl (by decide) rfl rfl (fun u_10 H locs w_10 h_10 => ?_)
      clear h_9
      obtain ⟨w10_0, w10_1, w10_2, _⟩ := w_10
      replace h_10 : qW D _ _ ([(h3, .inl (cy 1, 10, .inl f0)), (h4, .inl (cy 1, 10, .inl f1)), (h1, .inr (7, [.ref h2, .int (u_9.2.1 0 0), .int (u_9.2.1 1 0), .ref h5])), (h2, .inr (3, [.int p7, .int p8, .int p9, .int p10, w9, w10, .null, w11, .ref h3, .ref h4, w12, w13])), (h5, .inl (cy 1, 10, .inl (u_9.2.1 2))), (h9, .inr (6, [.ref h10, w14])), (h10, .inl (cy 1, 11, .inl (u_9.2.1 3))), (h0, .inr (11, [w0, .int p1, .int p2, .int p3, w1, .ref h1, .ref h6, w2, .ref h8, w3, w4, w5, .ref h9, w6, w7, w8, .int (u_10.2.1 0 0)])), (h6, .inr (7, [.ref h2, .int (u_7.2.1 0 0), .int (u_7.2.1 1 0), .ref h7])), (h7, .inl (cy 1, 10, .inl (u_7.2.1 2))), (h8, .inr (2, [.int (u_10.2.1 1 0), .ref h11]))] ++ HB cy h11 (fun k => u_10.1 (k + 0), fun k => u_10.2.1 (k + 2), u_10.2.2)) _ _ := h_10
      exact J_42 _ _ _ _ ⟨(u_9.2.1 0 0), (u_9.2.1 1 0), (u_10.2.1 0 0), h2, (u_7.2.1 0 0), (u_7.2.1 1 0), (u_10.2.1 1 0), (u_9.2.1 2), (u_9.2.1 3), (u_7.2.1 2), (fun k => u_10.1 (k + 0), fun k => u_10.2.1 (k + 2), u_10.2.2), w9_0, w9_1, w10_0, w7_0, w7_1, (bw w10_1 (by decide) (by decide)), (rg_wide w9_2 (by decide) (by decide)), (rg_wide w7_2 (by decide) (by decide)), w10_2, (by assumption), rfl, (q_re h_10 [7, 4, 8, 9, 10, 5, 6, 2, 3, 0, 1, 11, 12, 13, 14, 15, 16, 17, 18, 19, 20, 21, 22, 23, 24, 25, 26, 27, 28, 29, 30, 31] rfl rfl), (lv_sub hl_3 [1, 2, 0] rfl)⟩
set_option maxHeartbeats 4000000 in
set_option maxRecDepth 100000 in
theorem gX11_talk_744436e (l : Launch) (D : va_G) (cy : Nat → ClassId) (h0 : Nat) (h1 : Nat) (h2 : Nat) (h3 : Nat) (h4 : Nat) (h5 : Nat) (h6 : Nat) (h7 : Nat) (h8 : Nat) (h9 : Nat) (h10 : Nat) (h11 : Nat) (hv : Nat → Prop) (p0 : Int32) (p1 : Int32) (w0 : Value) (p2 : Int32) (p3 : Int32) (p4 : Int32) (w1 : Value) (w2 : Value) (w3 : Value) (w4 : Value) (w5 : Value) (w6 : Value) (w7 : Value) (w8 : Value) (p5 : Int32) (p6 : Int32) (p7 : Int32) (p8 : Int32) (p9 : Int32) (p10 : Int32) (p11 : Int32) (w9 : Value) (w10 : Value) (w11 : Value) (w12 : Value) (f0 : Nat → Int32) (f1 : Nat → Int32) (f2 : Nat → Int32) (h13 : Nat) (p12 : Int32) (p13 : Int32) (f3 : Nat → Int32) (p14 : Int32) (w13 : Value) (f4 : Nat → Int32) (v0 : SS) (hp0 : (-2147483648) ≤ (p0).toInt ∧ (p0).toInt ≤ 2147483647) (hp1 : (-2147483648) ≤ (p1).toInt ∧ (p1).toInt ≤ 2147483647) (hp2 : 0 ≤ (p2).toInt ∧ (p2).toInt ≤ 900) (hp3 : (-2147483648) ≤ (p3).toInt ∧ (p3).toInt ≤ 2147483647) (hp4 : (-2147483648) ≤ (p4).toInt ∧ (p4).toInt ≤ 2147483647) (hp5 : (-2147483648) ≤ (p5).toInt ∧ (p5).toInt ≤ 2147483647) (hp6 : (-2147483648) ≤ (p6).toInt ∧ (p6).toInt ≤ 2147483647) (hp7 : (-2147483648) ≤ (p7).toInt ∧ (p7).toInt ≤ 2147483647) (hp8 : 1 ≤ (p8).toInt ∧ (p8).toInt ≤ 3) (hp9 : 0 ≤ (p9).toInt ∧ (p9).toInt ≤ 10) (hp10 : (-2147483648) ≤ (p10).toInt ∧ (p10).toInt ≤ 2147483647) (hp11 : (-2147483648) ≤ (p11).toInt ∧ (p11).toInt ≤ 2147483647) (hp12 : (-2147483648) ≤ (p12).toInt ∧ (p12).toInt ≤ 2147483647) (hp13 : (-2147483648) ≤ (p13).toInt ∧ (p13).toInt ≤ 2147483647) (hp14 : 0 ≤ (p14).toInt ∧ (p14).toInt ≤ 10) (rf2 : RG f2 10 0 999) (rf3 : RG f3 10 0 999) (okv0 : HBok hv v0) (hpre0 : hv h2) (hpre1 : hv h13) (sz : Nat) : MI l yX11_talk cX11_talk 4 .int { frames := 5, cells := 0, slots := 0, locals := 126 } [.ref h0, .int p0, .int p1] D cy ((wk_e8304df9d cy h0 w0 p2 p3 p4 w1 h1 h6 w2 h8 w3 w4 w5 h9 w6 w7 w8 p5 h1 h2 p6 p7 h5 h2 p8 p9 p10 p11 w9 w10 h3 h4 w11 w12 h3 f0 h4 f1 h5 f2 h6 h13 p12 p13 h7 h7 f3 h8 p14 h11 h9 h10 w13 h10 f4) ++ HB cy h11 v0) sz (fun r u => ((-12) ≤ r.toInt ∧ r.toInt ≤ 1023) ∧ ((-2147483648) ≤ (u.2.1 0 0).toInt ∧ (u.2.1 0 0).toInt ≤ 2147483647) ∧ ((-2147483648) ≤ (u.2.1 1 0).toInt ∧ (u.2.1 1 0).toInt ≤ 2147483647) ∧ ((-2147483648) ≤ (u.2.1 2 0).toInt ∧ (u.2.1 2 0).toInt ≤ 2147483647) ∧ RG (u.2.1 3) 10 0 999 ∧ ((-2147483648) ≤ (u.2.1 4 0).toInt ∧ (u.2.1 4 0).toInt ≤ 2147483647) ∧ ((-2147483648) ≤ (u.2.1 5 0).toInt ∧ (u.2.1 5 0).toInt ≤ 2147483647) ∧ RG (u.2.1 6) 10 0 999 ∧ (0 ≤ (u.2.1 7 0).toInt ∧ (u.2.1 7 0).toInt ≤ 10) ∧ HBok hv (fun k => u.1 (k + 1), fun k => u.2.1 (k + 9), u.2.2) ∧ (hv (u.1 0)) ∧ True) (fun u => ((wk_e8304df9d cy h0 w0 p2 p3 p4 w1 h1 h6 w2 h8 w3 w4 w5 h9 w6 w7 w8 (u.2.1 0 0) h1 h2 (u.2.1 1 0) (u.2.1 2 0) h5 h2 p8 p9 p10 p11 w9 w10 h3 h4 w11 w12 h3 f0 h4 f1 h5 (u.2.1 3) h6 (u.1 0) (u.2.1 4 0) (u.2.1 5 0) h7 h7 (u.2.1 6) h8 (u.2.1 7 0) h11 h9 h10 w13 h10 (u.2.1 8)) ++ HB cy h11 (fun k => u.1 (k + 1), fun k => u.2.1 (k + 9), u.2.2))) 0 0 := by
  refine q_ent (own := RX11) (by decide) rfl (Nat.le_of_ble_eq_true rfl) (fun p e s m below meth c ls X hr hlk hnm hK hT h hA hl => ?_)
  obtain ⟨hx, hb, hml, hown, ht⟩ := id X
  replace hl : lv_has ls 4 [(0, .ref h0), (1, .int p0), (2, .int p1)] := hl
  refine lv_aload_n hx hb dX11_talk_0 rfl (lv_at hl 0 rfl) ?_
  refine lv_iload_n hx hb dX11_talk_1 rfl (lv_at hl 1 rfl) ?_
  refine lv_iload_n hx hb dX11_talk_2 rfl (lv_at hl 2 rfl) ?_
  refine q_callVi (rest := []) (wr := ([(h3, .inl (cy 1, 10, .inl f0)), (h4, .inl (cy 1, 10, .inl f1)), (h5, .inl (cy 1, 10, .inl f2)), (h6, .inr (7, [.ref h13, .int p12, .int p13, .ref h7])), (h7, .inl (cy 1, 10, .inl f3)), (h8, .inr (2, [.int p14, .ref h11])), (h9, .inr (6, [.ref h10, w13])), (h10, .inl (cy 1, 11, .inl f4))] ++ HB cy h11 v0)) X hK hT hA h (fun sz => gX11_areTwoPeople_1eaec98 l D cy h0 h1 h2 p0 p1 w0 p2 p3 p4 w1 (.ref h6) w2 (.ref h8) w3 w4 w5 (.ref h9) w6 w7 w8 p5 p6 p7 (.ref h5) p8 p9 p10 p11 Value.null w9 w10 (.ref h3) (.ref h4) w11 w12 (i_rng _) (i_rng _) hp2 (i_rng _) (i_rng _) (i_rng _) (i_rng _) (i_rng _) hp8 hp9 (i_rng _) (i_rng _) sz) wm_3_236 wm_3_239 wm_1_1 hd_X11_areTwoPeople wm_3_238 wp_2_11 (ci := 11) (q0 := 0) rfl rfl ⟨Nat.le_of_ble_eq_true rfl, Nat.le_of_ble_eq_true rfl⟩ hl.1 rfl (Nat.le_of_ble_eq_true rfl) dX11_talk_3 ⟨Nat.le_of_ble_eq_true rfl, Nat.le_of_ble_eq_true rfl⟩ [0, 1, 2] [3, 4, 5, 6, 7, 8, 9, 10, 11, 12, 13, 14, 15, 16, 17, 18, 19, 20, 21, 22, 23, 24, 25, 26, 27, 28, 29, 30, 31] rfl rfl (by decide) rfl rfl (fun r_1 u_1 H locs w_1 h_1 => ?_)
  clear h
  obtain ⟨wr_1, y1_0, _⟩ := w_1
  replace h_1 : qW D _ _ ([(h3, .inl (cy 1, 10, .inl f0)), (h4, .inl (cy 1, 10, .inl f1)), (h5, .inl (cy 1, 10, .inl f2)), (h6, .inr (7, [.ref h13, .int p12, .int p13, .ref h7])), (h7, .inl (cy 1, 10, .inl f3)), (h8, .inr (2, [.int p14, .ref h11])), (h9, .inr (6, [.ref h10, w13])), (h10, .inl (cy 1, 11, .inl f4)), (h0, .inr (11, [w0, .int p2, .int p3, .int p4, w1, .ref h1, .ref h6, w2, .ref h8, w3, w4, w5, .ref h9, w6, w7, w8, .int p5])), (h1, .inr (7, [.ref h2, .int p6, .int p7, .ref h5])), (h2, .inr (3, [.int p8, .int p9, .int p10, .int p11, .null, w9, .null, w10, .ref h3, .ref h4, w11, w12]))] ++ HB cy h11 v0) _ _ := q_re h_1 [0, 1, 2, 3, 4, 5, 6, 7, 29, 30, 31, 8, 9, 10, 11, 12, 13, 14, 15, 16, 17, 18, 19, 20, 21, 22, 23, 24, 25, 26, 27, 28] rfl rfl
  refine lv_if_ne (tgt := 12) hx hb dX11_talk_6 (by decide) (fun c_2 => ?_) (fun c_2 => ?_)
  · replace c_2 := i_ne (x := r_1) (y := 0) rfl (show (0 : Int32).toInt = 0 by decide) c_2
    refine lv_aload_n hx hb dX11_talk_12 rfl (lv_at hl 0 rfl) ?_
    refine lv_bipush (v := 10) hx hb dX11_talk_13 (by decide) ?_
    refine lv_iload_n hx hb dX11_talk_15 rfl (lv_at hl 1 rfl) ?_
    refine lv_imul hx hb dX11_talk_16 ?_
    obtain ⟨z_3, ez_3, hz_3⟩ := e_mul (x := 10) (y := p0) (show (10 : Int32).toInt = 10 by decide) rfl (by omega) (by omega)
    refine q_c z_3 ez_3 ?_
    clear ez_3
    refine lv_iload_n hx hb dX11_talk_17 rfl (lv_at hl 2 rfl) ?_
    refine lv_iadd hx hb dX11_talk_18 ?_
    obtain ⟨z_4, ez_4, hz_4⟩ := e_add (x := z_3) (y := p1) rfl rfl (by omega) (by omega)
    refine q_c z_4 ez_4 ?_
    clear ez_4
    refine q_callVi (rest := []) (wr := []) X hK hT hA h_1 (fun sz => gX11_doAlone_cb0361a l D cy h0 h1 h2 h3 h4 h5 h6 h7 h8 h9 h10 h11 hv z_4 w0 p2 p3 p4 w1 w2 w3 w4 w5 w6 w7 w8 p5 p6 p7 p8 p9 p10 p11 Value.null w9 w10 w11 w12 f0 f1 f2 h13 p12 p13 f3 p14 w13 f4 v0 ⟨by omega, by omega⟩ hp2 (i_rng _) (i_rng _) (i_rng _) (i_rng _) (i_rng _) hp8 hp9 (i_rng _) (i_rng _) (i_rng _) (i_rng _) hp14 (rg_wide rf2 (by decide) (by decide)) (rg_wide rf3 (by decide) (by decide)) okv0 (hpre0) (by assumption) sz) wm_4_0 wm_4_3 wm_1_1 hd_X11_doAlone wm_4_2 wp_2_12 (ci := 11) (q0 := 0) rfl rfl ⟨Nat.le_of_ble_eq_true rfl, Nat.le_of_ble_eq_true rfl⟩ hl.1 rfl (Nat.le_of_ble_eq_true rfl) dX11_talk_19 ⟨Nat.le_of_ble_eq_true rfl, Nat.le_of_ble_eq_true rfl⟩ [8, 9, 10, 0, 1, 2, 3, 4, 5, 6, 7, 11, 12, 13, 14, 15, 16, 17, 18, 19, 20, 21, 22, 23, 24, 25, 26, 27, 28, 29, 30, 31] [] rfl rfl (by decide) rfl rfl (fun r_5 u_5 H locs w_5 h_5 => ?_)
    clear h_1
    obtain ⟨wr_5, w5_0, w5_1, w5_2, w5_3, w5_4, w5_5, w5_6, w5_7, w5_8, y5_0, _⟩ := w_5
    replace h_5 : qW D _ _ ((wk_e8304df9d cy h0 w0 p2 p3 p4 w1 h1 h6 w2 h8 w3 w4 w5 h9 w6 w7 w8 (u_5.2.1 0 0) h1 h2 (u_5.2.1 7 0) (u_5.2.1 8 0) h5 h2 p8 p9 p10 p11 w9 w10 h3 h4 w11 w12 h3 f0 h4 f1 h5 (u_5.2.1 1) h6 (u_5.1 0) (u_5.2.1 2 0) (u_5.2.1 3 0) h7 h7 (u_5.2.1 4) h8 (u_5.2.1 5 0) h11 h9 h10 w13 h10 (u_5.2.1 6)) ++ HB cy h11 (fun k => u_5.1 (k + 1), fun k => u_5.2.1 (k + 9), u_5.2.2)) _ _ := h_5
    refine lv_istore_n (lv' := [(3, .int r_5), (0, .ref h0), (1, .int p0), (2, .int p1)]) hx hb dX11_talk_22 rfl hl (by decide) rfl (fun ls_6 hl_6 => ?_)
    clear hl
    refine lv_iload_n hx hb dX11_talk_23 rfl (lv_at hl_6 0 rfl) ?_
    refine q_jn (pc2 := 39) (fun H locs ls st => ∃ v39_7_0 : Int32, ((-12) ≤ (v39_7_0).toInt ∧ (v39_7_0).toInt ≤ 1023) ∧ st = [.int v39_7_0] ∧ qW D (va_A ((wk_e8304df9d cy h0 w0 p2 p3 p4 w1 h1 h6 w2 h8 w3 w4 w5 h9 w6 w7 w8 p5 h1 h2 p6 p7 h5 h2 p8 p9 p10 p11 w9 w10 h3 h4 w11 w12 h3 f0 h4 f1 h5 f2 h6 h13 p12 p13 h7 h7 f3 h8 p14 h11 h9 h10 w13 h10 f4) ++ HB cy h11 v0) sz) s.heap ((wk_e8304df9d cy h0 w0 p2 p3 p4 w1 h1 h6 w2 h8 w3 w4 w5 h9 w6 w7 w8 (u_5.2.1 0 0) h1 h2 (u_5.2.1 7 0) (u_5.2.1 8 0) h5 h2 p8 p9 p10 p11 w9 w10 h3 h4 w11 w12 h3 f0 h4 f1 h5 (u_5.2.1 1) h6 (u_5.1 0) (u_5.2.1 2 0) (u_5.2.1 3 0) h7 h7 (u_5.2.1 4) h8 (u_5.2.1 5 0) h11 h9 h10 w13 h10 (u_5.2.1 6)) ++ HB cy h11 (fun k => u_5.1 (k + 1), fun k => u_5.2.1 (k + 9), u_5.2.2)) H locs ∧ lv_has ls 4 [(0, .ref h0), (1, .int p0), (2, .int p1), (3, .int r_5)]) (fun H locs ls st hP => ?_) (fun J_39 => ?_)
    · obtain ⟨v39_7_0, hv39_7_0, rfl, h, hl⟩ := hP
      exact q_iret X hr hlk hK h rfl ((vcons (u_5.1 0) (fun k => u_5.1 (k + 1), fun k => u_5.2.1 (k + 9), u_5.2.2).1), (vcons (fun _ => (u_5.2.1 0 0)) (vcons (fun _ => (u_5.2.1 7 0)) (vcons (fun _ => (u_5.2.1 8 0)) (vcons (u_5.2.1 1) (vcons (fun _ => (u_5.2.1 2 0)) (vcons (fun _ => (u_5.2.1 3 0)) (vcons (u_5.2.1 4) (vcons (fun _ => (u_5.2.1 5 0)) (vcons (u_5.2.1 6) (fun k => u_5.1 (k + 1), fun k => u_5.2.1 (k + 9), u_5.2.2).2.1))))))))), (fun k => u_5.1 (k + 1), fun k => u_5.2.1 (k + 9), u_5.2.2).2.2) ⟨hv39_7_0, w5_0, w5_6, w5_7, (rg_wide w5_1 (by decide) (by decide)), w5_2, w5_3, (rg_wide w5_4 (by decide) (by decide)), w5_5, w5_8, (show hv (u_5.1 0) from by assumption), trivial⟩ [0, 1, 2, 3, 4, 5, 6, 7, 8, 9, 10, 11, 12, 13, 14, 15, 16, 17, 18, 19, 20, 21, 22, 23, 24, 25, 26, 27, 28, 29, 30, 31] rfl rfl dX11_talk_39 (Nat.le_of_ble_eq_true rfl) (Nat.le_of_ble_eq_true rfl)
    · skip
      refine lv_if_eq (tgt := 34) hx hb dX11_talk_24 (by decide) (fun c_8 => ?_) (fun c_8 => ?_)
      · replace c_8 := i_eq (x := r_5) (y := 0) rfl (show (0 : Int32).toInt = 0 by decide) c_8
        refine lv_aload_n hx hb dX11_talk_34 rfl (lv_at hl_6 1 rfl) ?_
        refine lv_iload_n hx hb dX11_talk_35 rfl (lv_at hl_6 2 rfl) ?_
        refine q_callVi (rest := []) (wr := ([(h3, .inl (cy 1, 10, .inl f0)), (h4, .inl (cy 1, 10, .inl f1)), (h6, .inr (7, [.ref (u_5.1 0), .int (u_5.2.1 2 0), .int (u_5.2.1 3 0), .ref h7])), (h7, .inl (cy 1, 10, .inl (u_5.2.1 4))), (h8, .inr (2, [.int (u_5.2.1 5 0), .ref h11])), (h10, .inl (cy 1, 11, .inl (u_5.2.1 6)))] ++ HB cy h11 (fun k => u_5.1 (k + 1), fun k => u_5.2.1 (k + 9), u_5.2.2))) X hK hT hA h_5 (fun sz => gX11_opposites_ae54630 l D cy h0 h1 h2 h5 h9 p0 w0 p2 p3 p4 w1 (.ref h6) w2 (.ref h8) w3 w4 w5 w6 w7 w8 (u_5.2.1 0 0) (u_5.2.1 7 0) (u_5.2.1 8 0) p8 p9 p10 p11 w9 Value.null w10 (.ref h3) (.ref h4) w11 w12 (u_5.2.1 1) (.ref h10) w13 ⟨by omega, by omega⟩ hp2 (i_rng _) (i_rng _) (i_rng _) (i_rng _) (i_rng _) hp8 hp9 (i_rng _) (i_rng _) (rg_wide w5_1 (by decide) (by decide)) sz) wm_4_48 wm_3_226 wm_1_1 hd_X11_opposites wm_3_224 wm_3_225 (ci := 11) (q0 := 0) rfl rfl ⟨Nat.le_of_ble_eq_true rfl, Nat.le_of_ble_eq_true rfl⟩ hl_6.1 rfl (Nat.le_of_ble_eq_true rfl) dX11_talk_36 ⟨Nat.le_of_ble_eq_true rfl, Nat.le_of_ble_eq_true rfl⟩ [0, 1, 2, 5, 9] [3, 4, 6, 7, 8, 10, 11, 12, 13, 14, 15, 16, 17, 18, 19, 20, 21, 22, 23, 24, 25, 26, 27, 28, 29, 30, 31] rfl rfl (by decide) rfl rfl (fun r_9 u_9 H locs w_9 h_9 => ?_)
        clear h_5
        obtain ⟨wr_9, _⟩ := w_9
        replace h_9 : qW D _ _ ([(h3, .inl (cy 1, 10, .inl f0)), (h4, .inl (cy 1, 10, .inl f1)), (h6, .inr (7, [.ref (u_5.1 0), .int (u_5.2.1 2 0), .int (u_5.2.1 3 0), .ref h7])), (h7, .inl (cy 1, 10, .inl (u_5.2.1 4))), (h8, .inr (2, [.int (u_5.2.1 5 0), .ref h11])), (h10, .inl (cy 1, 11, .inl (u_5.2.1 6))), (h0, .inr (11, [w0, .int p2, .int p3, .int p4, w1, .ref h1, .ref h6, w2, .ref h8, w3, w4, w5, .ref h9, w6, w7, w8, .int (u_5.2.1 0 0)])), (h1, .inr (7, [.ref h2, .int (u_5.2.1 7 0), .int (u_5.2.1 8 0), .ref h5])), (h2, .inr (3, [.int p8, .int p9, .int p10, .int p11, .null, w9, .null, w10, .ref h3, .ref h4, w11, w12])), (h5, .inl (cy 1, 10, .inl (u_5.2.1 1))), (h9, .inr (6, [.ref h10, w13]))] ++ HB cy h11 (fun k => u_5.1 (k + 1), fun k => u_5.2.1 (k + 9), u_5.2.2)) _ _ := q_re h_9 [0, 1, 2, 3, 4, 5, 27, 28, 29, 30, 31, 6, 7, 8, 9, 10, 11, 12, 13, 14, 15, 16, 17, 18, 19, 20, 21, 22, 23, 24, 25, 26] rfl rfl
        exact J_39 _ _ _ _ ⟨r_9, (bw wr_9 (by decide) (by decide)), rfl, (q_re h_9 [6, 7, 8, 0, 1, 9, 2, 3, 4, 10, 5, 11, 12, 13, 14, 15, 16, 17, 18, 19, 20, 21, 22, 23, 24, 25, 26, 27, 28, 29, 30, 31] rfl rfl), (lv_sub hl_6 [1, 2, 3, 0] rfl)⟩
      · replace c_8 := i_ne (x := r_5) (y := 0) rfl (show (0 : Int32).toInt = 0 by decide) c_8
        refine lv_bipush (v := (-10)) hx hb dX11_talk_27 (by decide) ?_
        refine lv_iload_n hx hb dX11_talk_29 rfl (lv_at hl_6 0 rfl) ?_
        refine lv_isub hx hb dX11_talk_30 ?_
        obtain ⟨z_10, ez_10, hz_10⟩ := e_sub (x := (-10)) (y := r_5) (show ((-10) : Int32).toInt = -10 by decide) rfl (by omega) (by omega)
        refine q_c z_10 ez_10 ?_
        clear ez_10
        refine lv_goto (tgt := 39) hx hb dX11_talk_31 (by decide) ?_
        exact J_39 _ _ _ _ ⟨z_10, ⟨by omega, by omega⟩, rfl, h_5, (lv_sub hl_6 [1, 2, 3, 0] rfl)⟩
  · replace c_2 := i_eq (x := r_1) (y := 0) rfl (show (0 : Int32).toInt = 0 by decide) c_2
    refine lv_bipush (v := (-11)) hx hb dX11_talk_9 (by decide) ?_
    exact q_iret X hr hlk hK h_1 rfl ((vcons h13 v0.1), (vcons (fun _ => p5) (vcons (fun _ => p6) (vcons (fun _ => p7) (vcons f2 (vcons (fun _ => p12) (vcons (fun _ => p13) (vcons f3 (vcons (fun _ => p14) (vcons f4 v0.2.1))))))))), v0.2.2) ⟨⟨by decide +kernel, by decide +kernel⟩, hp5, hp6, hp7, (rg_wide rf2 (by decide) (by decide)), hp12, hp13, (rg_wide rf3 (by decide) (by decide)), hp14, okv0, (show hv h13 from by assumption), trivial⟩ [8, 9, 10, 0, 1, 2, 3, 4, 5, 6, 7, 11, 12, 13, 14, 15, 16, 17, 18, 19, 20, 21, 22, 23, 24, 25, 26, 27, 28, 29, 30, 31] rfl rfl dX11_talk_11 (Nat.le_of_ble_eq_true rfl) (Nat.le_of_ble_eq_true rfl)
