def wk_253faa1b8 (cy : Nat → ClassId) (a0 : Nat) (a1 : Int32) (a2 a3 : Value) (a4 : Nat) (a5 : Value) (a6 a7 a8 a9 a10 a11 a12 a13 a14 a15 a16 : Int32) (a17 a18 a19 a20 a21 : Value) (a22 a23 : Int32) (a24 a25 a26 : Value) (a27 a28 : Int32) (a29 a30 a31 a32 a33 : Value) (a34 : Int32) (a35 a36 a37 : Value) (a38 : Nat) (a39 : Nat → Int32) : va_W := [(a0, .inr (12, [.int a1, a2, a3, .ref a4, a5, .int a6, .int a7, .int a8, .int a9, .int a10, .int a11, .int a12, .int a13, .int a14, .int a15, .int a16, a17, a18, a19, a20, a21, .int a22, .int a23, a24, a25, a26, .int a27, .int a28, a29, a30, a31, a32, a33, .int a34, a35, a36, a37])), (a38, .inl (cy 1, 900, .inl a39))]
def wk_e69636a28 (cy : Nat → ClassId) (a0 : Nat) (a1 : Nat → Int32) (a2 : Nat) (a3 : Int32) (a4 a5 : Value) (a6 : Nat) (a7 : Value) (a8 a9 a10 a11 a12 a13 a14 a15 a16 a17 a18 : Int32) (a19 a20 a21 a22 a23 : Value) (a24 a25 : Int32) (a26 a27 a28 : Value) (a29 a30 : Int32) (a31 a32 a33 a34 a35 : Value) (a36 : Int32) (a37 a38 a39 : Value) : va_W := [(a0, .inl (cy 1, 900, .inl a1)), (a2, .inr (12, [.int a3, a4, a5, .ref a6, a7, .int a8, .int a9, .int a10, .int a11, .int a12, .int a13, .int a14, .int a15, .int a16, .int a17, .int a18, a19, a20, a21, a22, a23, .int a24, .int a25, a26, a27, a28, .int a29, .int a30, a31, a32, a33, a34, a35, .int a36, a37, a38, a39]))]
def wk_8d528f753 (cy : Nat → ClassId) (a0 : Nat) (a1 : Int32) (a2 a3 : Value) (a4 a5 : Nat) (a6 a7 a8 a9 a10 a11 a12 a13 a14 a15 a16 : Int32) (a17 a18 a19 a20 a21 : Value) (a22 a23 : Int32) (a24 a25 a26 : Value) (a27 a28 : Int32) (a29 a30 a31 a32 a33 : Value) (a34 : Int32) (a35 a36 a37 : Value) (a38 : Nat) (a39 : Nat → Int32) (a40 : Nat) (a41 : Nat → Int32) : va_W := [(a0, .inr (12, [.int a1, a2, a3, .ref a4, .ref a5, .int a6, .int a7, .int a8, .int a9, .int a10, .int a11, .int a12, .int a13, .int a14, .int a15, .int a16, a17, a18, a19, a20, a21, .int a22, .int a23, a24, a25, a26, .int a27, .int a28, a29, a30, a31, a32, a33, .int a34, a35, a36, a37])), (a38, .inl (cy 1, 900, .inl a39)), (a40, .inl (cy 1, 1306, .inl a41))]
def wk_1d090495b (cy : Nat → ClassId) (a0 : Nat) (a1 : Nat → Int32) (a2 : Nat) (a3 : Int32) (a4 a5 : Value) (a6 a7 : Nat) (a8 a9 a10 a11 a12 a13 a14 a15 a16 a17 a18 : Int32) (a19 a20 a21 a22 a23 : Value) (a24 a25 : Int32) (a26 a27 a28 : Value) (a29 a30 : Int32) (a31 a32 a33 a34 a35 : Value) (a36 : Int32) (a37 a38 a39 : Value) (a40 : Nat) (a41 : Nat → Int32) : va_W := [(a0, .inl (cy 1, 1306, .inl a1)), (a2, .inr (12, [.int a3, a4, a5, .ref a6, .ref a7, .int a8, .int a9, .int a10, .int a11, .int a12, .int a13, .int a14, .int a15, .int a16, .int a17, .int a18, a19, a20, a21, a22, a23, .int a24, .int a25, a26, a27, a28, .int a29, .int a30, a31, a32, a33, a34, a35, .int a36, a37, a38, a39])), (a40, .inl (cy 1, 900, .inl a41))]
def wk_8c87e24ed (cy : Nat → ClassId) (a0 : Nat) (a1 : Nat → Int32) (a2 : Nat) (a3 : Nat → Int32) : va_W := [(a0, .inl (cy 1, 1306, .inl a1)), (a2, .inl (cy 1, 900, .inl a3))]
def wk_a24e8cc19 (cy : Nat → ClassId) (a0 : Nat) (a1 : Nat → Int32) (a2 : Nat) (a3 : Nat → Int32) (a4 : Nat) (a5 : Int32) (a6 a7 : Value) (a8 a9 : Nat) (a10 a11 a12 a13 a14 a15 a16 a17 a18 a19 a20 : Int32) (a21 a22 a23 a24 a25 : Value) (a26 a27 : Int32) (a28 a29 a30 : Value) (a31 a32 : Int32) (a33 a34 a35 a36 a37 : Value) (a38 : Int32) (a39 a40 a41 : Value) : va_W := [(a0, .inl (cy 1, 1306, .inl a1)), (a2, .inl (cy 1, 900, .inl a3)), (a4, .inr (12, [.int a5, a6, a7, .ref a8, .ref a9, .int a10, .int a11, .int a12, .int a13, .int a14, .int a15, .int a16, .int a17, .int a18, .int a19, .int a20, a21, a22, a23, a24, a25, .int a26, .int a27, a28, a29, a30, .int a31, .int a32, a33, a34, a35, a36, a37, .int a38, a39, a40, a41]))]
theorem wm_2_207 : Cond.code yJ0_charAt_5068e cJ0_charAt_5068e 2 (some .char) ∈ WG := wg_t2 (List.mem_of_getElem? (i := 207) rfl) rfl
theorem wm_2_205 : Cond.instanceMethod yJ0_charAt_5068e ∈ WG := wg_t2 (List.mem_of_getElem? (i := 205) rfl) rfl
theorem wm_2_206 : Cond.selects RJ0 yJ0_charAt_5068e yJ0_charAt_5068e ∈ WG := wg_t2 (List.mem_of_getElem? (i := 206) rfl) rfl
theorem wm_5_173 : Cond.fieldLink RX12 21 "OppositeHouseModel" "tape" "[I" ∈ WG := wg_t5 (List.mem_of_getElem? (i := 173) rfl) rfl
theorem wm_6_50 : Cond.methodLink RX12 145 yX12_within ∈ WG := wg_t6 (List.mem_of_getElem? (i := 50) rfl) rfl
theorem wm_6_52 : Cond.code yX12_within cX12_within 6 (some .boolean) ∈ WG := wg_t6 (List.mem_of_getElem? (i := 52) rfl) rfl
theorem wm_1_12 : Cond.initialized RX12 ∈ WG := wg_t1 (List.mem_of_getElem? (i := 12) rfl) rfl
theorem wm_6_51 : Cond.static yX12_within ∈ WG := wg_t6 (List.mem_of_getElem? (i := 51) rfl) rfl
theorem wm_5_178 : Cond.fieldLink RX12 86 "OppositeHouseModel" "size" "I" ∈ WG := wg_t5 (List.mem_of_getElem? (i := 178) rfl) rfl
theorem wm_5_177 : Cond.fieldLink RX12 104 "OppositeHouseModel" "behind" "I" ∈ WG := wg_t5 (List.mem_of_getElem? (i := 177) rfl) rfl
theorem wm_5_181 : Cond.fieldLink RX12 129 "OppositeHouseModel" "wrong" "I" ∈ WG := wg_t5 (List.mem_of_getElem? (i := 181) rfl) rfl
theorem wm_5_174 : Cond.fieldLink RX12 24 "OppositeHouseModel" "fresh" "[I" ∈ WG := wg_t5 (List.mem_of_getElem? (i := 174) rfl) rfl
theorem wm_5_176 : Cond.fieldLink RX12 101 "OppositeHouseModel" "at" "I" ∈ WG := wg_t5 (List.mem_of_getElem? (i := 176) rfl) rfl
theorem wm_6_57 : Cond.methodLink RX12 107 yX12_see ∈ WG := wg_t6 (List.mem_of_getElem? (i := 57) rfl) rfl
theorem wm_6_60 : Cond.code yX12_see cX12_see 2 (some .int) ∈ WG := wg_t6 (List.mem_of_getElem? (i := 60) rfl) rfl
theorem wm_6_59 : Cond.instanceMethod yX12_see ∈ WG := wg_t6 (List.mem_of_getElem? (i := 59) rfl) rfl
theorem wp_4_4 : Cond.selects RX12 yX12_see yX12_see ∈ WG := wg_p (q := (yX12_see, 37)) (wg_p4 (List.mem_of_getElem? (i := 4) rfl)) rfl
theorem wm_6_61 : Cond.methodLink RX12 114 yX12_isSmall ∈ WG := wg_t6 (List.mem_of_getElem? (i := 61) rfl) rfl
theorem wm_6_63 : Cond.code yX12_isSmall cX12_isSmall 1 (some .boolean) ∈ WG := wg_t6 (List.mem_of_getElem? (i := 63) rfl) rfl
theorem wm_6_62 : Cond.static yX12_isSmall ∈ WG := wg_t6 (List.mem_of_getElem? (i := 62) rfl) rfl
theorem wm_6_71 : Cond.methodLink RX12 121 yX12_isDigit ∈ WG := wg_t6 (List.mem_of_getElem? (i := 71) rfl) rfl
theorem wm_6_73 : Cond.code yX12_isDigit cX12_isDigit 1 (some .boolean) ∈ WG := wg_t6 (List.mem_of_getElem? (i := 73) rfl) rfl
theorem wm_6_72 : Cond.static yX12_isDigit ∈ WG := wg_t6 (List.mem_of_getElem? (i := 72) rfl) rfl
theorem wm_5_179 : Cond.fieldLink RX12 111 "OppositeHouseModel" "kind" "I" ∈ WG := wg_t5 (List.mem_of_getElem? (i := 179) rfl) rfl
theorem wm_6_69 : Cond.methodLink RX12 91 yJ0_length_8abf5 ∈ WG := wg_t6 (List.mem_of_getElem? (i := 69) rfl) rfl
theorem wm_6_70 : Cond.methodLink RX12 97 yJ0_charAt_5068e ∈ WG := wg_t6 (List.mem_of_getElem? (i := 70) rfl) rfl
theorem wm_5_180 : Cond.fieldLink RX12 124 "OppositeHouseModel" "number" "I" ∈ WG := wg_t5 (List.mem_of_getElem? (i := 180) rfl) rfl
theorem wm_6_64 : Cond.methodLink RX12 118 yX12_keyAt ∈ WG := wg_t6 (List.mem_of_getElem? (i := 64) rfl) rfl
theorem wm_6_67 : Cond.code yX12_keyAt cX12_keyAt 4 (some .int) ∈ WG := wg_t6 (List.mem_of_getElem? (i := 67) rfl) rfl
theorem wm_6_66 : Cond.instanceMethod yX12_keyAt ∈ WG := wg_t6 (List.mem_of_getElem? (i := 66) rfl) rfl
theorem wp_4_5 : Cond.selects RX12 yX12_keyAt yX12_keyAt ∈ WG := wg_p (q := (yX12_keyAt, 37)) (wg_p4 (List.mem_of_getElem? (i := 5) rfl)) rfl
theorem wm_6_53 : Cond.methodLink RX12 138 yX12_next ∈ WG := wg_t6 (List.mem_of_getElem? (i := 53) rfl) rfl
theorem wm_6_56 : Cond.code yX12_next cX12_next 2 none ∈ WG := wg_t6 (List.mem_of_getElem? (i := 56) rfl) rfl
theorem wm_6_55 : Cond.instanceMethod yX12_next ∈ WG := wg_t6 (List.mem_of_getElem? (i := 55) rfl) rfl
theorem wp_4_3 : Cond.selects RX12 yX12_next yX12_next ∈ WG := wg_p (q := (yX12_next, 37)) (wg_p4 (List.mem_of_getElem? (i := 3) rfl)) rfl
theorem wm_6_79 : Cond.methodLink RX12 135 yX12_is ∈ WG := wg_t6 (List.mem_of_getElem? (i := 79) rfl) rfl
theorem wm_6_82 : Cond.code yX12_is cX12_is 2 (some .boolean) ∈ WG := wg_t6 (List.mem_of_getElem? (i := 82) rfl) rfl
theorem wm_6_81 : Cond.instanceMethod yX12_is ∈ WG := wg_t6 (List.mem_of_getElem? (i := 81) rfl) rfl
theorem wp_4_7 : Cond.selects RX12 yX12_is yX12_is ∈ WG := wg_p (q := (yX12_is, 37)) (wg_p4 (List.mem_of_getElem? (i := 7) rfl)) rfl
theorem wm_6_75 : Cond.methodLink RX12 172 yX12_eats ∈ WG := wg_t6 (List.mem_of_getElem? (i := 75) rfl) rfl
theorem wm_6_78 : Cond.code yX12_eats cX12_eats 2 (some .boolean) ∈ WG := wg_t6 (List.mem_of_getElem? (i := 78) rfl) rfl
theorem wm_6_77 : Cond.instanceMethod yX12_eats ∈ WG := wg_t6 (List.mem_of_getElem? (i := 77) rfl) rfl
theorem wp_4_6 : Cond.selects RX12 yX12_eats yX12_eats ∈ WG := wg_p (q := (yX12_eats, 37)) (wg_p4 (List.mem_of_getElem? (i := 6) rfl)) rfl
theorem wm_5_182 : Cond.fieldLink RX12 132 "OppositeHouseModel" "wrongAt" "I" ∈ WG := wg_t5 (List.mem_of_getElem? (i := 182) rfl) rfl
theorem wm_6_83 : Cond.methodLink RX12 141 yX12_fails ∈ WG := wg_t6 (List.mem_of_getElem? (i := 83) rfl) rfl
theorem wm_6_86 : Cond.code yX12_fails cX12_fails 2 none ∈ WG := wg_t6 (List.mem_of_getElem? (i := 86) rfl) rfl
theorem wm_6_85 : Cond.instanceMethod yX12_fails ∈ WG := wg_t6 (List.mem_of_getElem? (i := 85) rfl) rfl
theorem wp_4_8 : Cond.selects RX12 yX12_fails yX12_fails ∈ WG := wg_p (q := (yX12_fails, 37)) (wg_p4 (List.mem_of_getElem? (i := 8) rfl)) rfl
theorem wm_5_185 : Cond.fieldLink RX12 157 "OppositeHouseModel" "reading" "I" ∈ WG := wg_t5 (List.mem_of_getElem? (i := 185) rfl) rfl
theorem wm_6_134 : Cond.constantLong RX12 149 (11) ∈ WG := wg_t6 (List.mem_of_getElem? (i := 134) rfl) rfl
theorem wm_6_135 : Cond.constantLong RX12 151 (14) ∈ WG := wg_t6 (List.mem_of_getElem? (i := 135) rfl) rfl
theorem wm_6_136 : Cond.constantLong RX12 153 (15) ∈ WG := wg_t6 (List.mem_of_getElem? (i := 136) rfl) rfl
theorem wm_6_137 : Cond.constantLong RX12 155 (18) ∈ WG := wg_t6 (List.mem_of_getElem? (i := 137) rfl) rfl
theorem wf_12 : ∀ w ∈ u_ws RX12 TX12 37, w ∈ WG := by
  intro w hw
  obtain ⟨k, hk, rfl⟩ := List.mem_map.mp hw
  have hk := List.mem_range.mp hk
  match k, hk with
  | 0, _ => exact wg_t5 (List.mem_of_getElem? (i := 207) rfl) rfl
  | 1, _ => exact wg_t5 (List.mem_of_getElem? (i := 209) rfl) rfl
  | 2, _ => exact wg_t5 (List.mem_of_getElem? (i := 211) rfl) rfl
  | 3, _ => exact wg_t5 (List.mem_of_getElem? (i := 213) rfl) rfl
  | 4, _ => exact wg_t5 (List.mem_of_getElem? (i := 215) rfl) rfl
  | 5, _ => exact wg_t5 (List.mem_of_getElem? (i := 217) rfl) rfl
  | 6, _ => exact wg_t5 (List.mem_of_getElem? (i := 219) rfl) rfl
  | 7, _ => exact wg_t5 (List.mem_of_getElem? (i := 221) rfl) rfl
  | 8, _ => exact wg_t5 (List.mem_of_getElem? (i := 223) rfl) rfl
  | 9, _ => exact wg_t5 (List.mem_of_getElem? (i := 225) rfl) rfl
  | 10, _ => exact wg_t5 (List.mem_of_getElem? (i := 227) rfl) rfl
  | 11, _ => exact wg_t5 (List.mem_of_getElem? (i := 229) rfl) rfl
  | 12, _ => exact wg_t5 (List.mem_of_getElem? (i := 231) rfl) rfl
  | 13, _ => exact wg_t5 (List.mem_of_getElem? (i := 233) rfl) rfl
  | 14, _ => exact wg_t5 (List.mem_of_getElem? (i := 235) rfl) rfl
  | 15, _ => exact wg_t5 (List.mem_of_getElem? (i := 237) rfl) rfl
  | 16, _ => exact wg_t5 (List.mem_of_getElem? (i := 239) rfl) rfl
  | 17, _ => exact wg_t6 (List.mem_of_getElem? (i := 1) rfl) rfl
  | 18, _ => exact wg_t6 (List.mem_of_getElem? (i := 3) rfl) rfl
  | 19, _ => exact wg_t6 (List.mem_of_getElem? (i := 5) rfl) rfl
  | 20, _ => exact wg_t6 (List.mem_of_getElem? (i := 7) rfl) rfl
  | 21, _ => exact wg_t6 (List.mem_of_getElem? (i := 9) rfl) rfl
  | 22, _ => exact wg_t6 (List.mem_of_getElem? (i := 11) rfl) rfl
  | 23, _ => exact wg_t6 (List.mem_of_getElem? (i := 13) rfl) rfl
  | 24, _ => exact wg_t6 (List.mem_of_getElem? (i := 15) rfl) rfl
  | 25, _ => exact wg_t6 (List.mem_of_getElem? (i := 17) rfl) rfl
  | 26, _ => exact wg_t6 (List.mem_of_getElem? (i := 19) rfl) rfl
  | 27, _ => exact wg_t6 (List.mem_of_getElem? (i := 21) rfl) rfl
  | 28, _ => exact wg_t6 (List.mem_of_getElem? (i := 23) rfl) rfl
  | 29, _ => exact wg_t6 (List.mem_of_getElem? (i := 25) rfl) rfl
  | 30, _ => exact wg_t6 (List.mem_of_getElem? (i := 27) rfl) rfl
  | 31, _ => exact wg_t6 (List.mem_of_getElem? (i := 29) rfl) rfl
  | 32, _ => exact wg_t6 (List.mem_of_getElem? (i := 31) rfl) rfl
  | 33, _ => exact wg_t6 (List.mem_of_getElem? (i := 33) rfl) rfl
  | 34, _ => exact wg_t6 (List.mem_of_getElem? (i := 35) rfl) rfl
  | 35, _ => exact wg_t6 (List.mem_of_getElem? (i := 37) rfl) rfl
  | 36, _ => exact wg_t6 (List.mem_of_getElem? (i := 39) rfl) rfl
  | n + 37, hk => exact absurd hk (by omega)
theorem hd_J0_charAt_5068e : yJ0_charAt_5068e.cls ≠ "java/lang/invoke/MethodHandle" ∧ yJ0_charAt_5068e.cls ≠ "java/lang/invoke/VarHandle" ∧ (parseMethodDescriptor yJ0_charAt_5068e.desc).map (fun d => d.parameters.length) = some 1 := by decide +kernel
theorem hd_X12_within : yX12_within.cls ≠ "java/lang/invoke/MethodHandle" ∧ yX12_within.cls ≠ "java/lang/invoke/VarHandle" ∧ (parseMethodDescriptor yX12_within.desc).map (fun d => d.parameters.length) = some 3 := by decide +kernel
theorem hd_X12_see : yX12_see.cls ≠ "java/lang/invoke/MethodHandle" ∧ yX12_see.cls ≠ "java/lang/invoke/VarHandle" ∧ (parseMethodDescriptor yX12_see.desc).map (fun d => d.parameters.length) = some 1 := by decide +kernel
theorem hd_X12_isSmall : yX12_isSmall.cls ≠ "java/lang/invoke/MethodHandle" ∧ yX12_isSmall.cls ≠ "java/lang/invoke/VarHandle" ∧ (parseMethodDescriptor yX12_isSmall.desc).map (fun d => d.parameters.length) = some 1 := by decide +kernel
theorem hd_X12_isDigit : yX12_isDigit.cls ≠ "java/lang/invoke/MethodHandle" ∧ yX12_isDigit.cls ≠ "java/lang/invoke/VarHandle" ∧ (parseMethodDescriptor yX12_isDigit.desc).map (fun d => d.parameters.length) = some 1 := by decide +kernel
theorem hd_X12_keyAt : yX12_keyAt.cls ≠ "java/lang/invoke/MethodHandle" ∧ yX12_keyAt.cls ≠ "java/lang/invoke/VarHandle" ∧ (parseMethodDescriptor yX12_keyAt.desc).map (fun d => d.parameters.length) = some 0 := by decide +kernel
theorem hd_X12_next : yX12_next.cls ≠ "java/lang/invoke/MethodHandle" ∧ yX12_next.cls ≠ "java/lang/invoke/VarHandle" ∧ (parseMethodDescriptor yX12_next.desc).map (fun d => d.parameters.length) = some 0 := by decide +kernel
theorem hd_X12_is : yX12_is.cls ≠ "java/lang/invoke/MethodHandle" ∧ yX12_is.cls ≠ "java/lang/invoke/VarHandle" ∧ (parseMethodDescriptor yX12_is.desc).map (fun d => d.parameters.length) = some 1 := by decide +kernel
theorem hd_X12_eats : yX12_eats.cls ≠ "java/lang/invoke/MethodHandle" ∧ yX12_eats.cls ≠ "java/lang/invoke/VarHandle" ∧ (parseMethodDescriptor yX12_eats.desc).map (fun d => d.parameters.length) = some 1 := by decide +kernel
theorem hd_X12_fails : yX12_fails.cls ≠ "java/lang/invoke/MethodHandle" ∧ yX12_fails.cls ≠ "java/lang/invoke/VarHandle" ∧ (parseMethodDescriptor yX12_fails.desc).map (fun d => d.parameters.length) = some 1 := by decide +kernel
theorem dX12_eats_0 : decode cX12_eats 0 = .ok (.aload_n 0, 1) := by decide +kernel
theorem dX12_eats_1 : decode cX12_eats 1 = .ok (.iload_n 1, 1) := by decide +kernel
theorem dX12_eats_2 : decode cX12_eats 2 = .ok (.invokevirtual 135, 3) := by decide +kernel
theorem dX12_eats_5 : decode cX12_eats 5 = .ok (.ifCond .ne 5, 3) := by decide +kernel
theorem dX12_eats_8 : decode cX12_eats 8 = .ok (.iconst 0, 1) := by decide +kernel
theorem dX12_eats_9 : decode cX12_eats 9 = .ok (.ireturn, 1) := by decide +kernel
theorem dX12_eats_10 : decode cX12_eats 10 = .ok (.aload_n 0, 1) := by decide +kernel
theorem dX12_eats_11 : decode cX12_eats 11 = .ok (.invokevirtual 138, 3) := by decide +kernel
theorem dX12_eats_14 : decode cX12_eats 14 = .ok (.iconst 1, 1) := by decide +kernel
theorem dX12_eats_15 : decode cX12_eats 15 = .ok (.ireturn, 1) := by decide +kernel
theorem dX12_ends_0 : decode cX12_ends 0 = .ok (.aload_n 0, 1) := by decide +kernel
theorem dX12_ends_1 : decode cX12_ends 1 = .ok (.bipush 30, 2) := by decide +kernel
theorem dX12_ends_3 : decode cX12_ends 3 = .ok (.invokevirtual 172, 3) := by decide +kernel
theorem dX12_ends_6 : decode cX12_ends 6 = .ok (.ifCond .ne 8, 3) := by decide +kernel
theorem dX12_ends_9 : decode cX12_ends 9 = .ok (.aload_n 0, 1) := by decide +kernel
theorem dX12_ends_10 : decode cX12_ends 10 = .ok (.iconst 2, 1) := by decide +kernel
theorem dX12_ends_11 : decode cX12_ends 11 = .ok (.invokevirtual 141, 3) := by decide +kernel
theorem dX12_ends_14 : decode cX12_ends 14 = .ok (.aload_n 0, 1) := by decide +kernel
theorem dX12_ends_15 : decode cX12_ends 15 = .ok (.getfield 24, 3) := by decide +kernel
theorem dX12_ends_18 : decode cX12_ends 18 = .ok (.iconst 0, 1) := by decide +kernel
theorem dX12_ends_19 : decode cX12_ends 19 = .ok (.dup2, 1) := by decide +kernel
theorem dX12_ends_20 : decode cX12_ends 20 = .ok (.iaload, 1) := by decide +kernel
theorem dX12_ends_21 : decode cX12_ends 21 = .ok (.iconst 1, 1) := by decide +kernel
theorem dX12_ends_22 : decode cX12_ends 22 = .ok (.iadd, 1) := by decide +kernel
theorem dX12_ends_23 : decode cX12_ends 23 = .ok (.iastore, 1) := by decide +kernel
theorem dX12_ends_24 : decode cX12_ends 24 = .ok (.return_, 1) := by decide +kernel
theorem dX12_fails_0 : decode cX12_fails 0 = .ok (.aload_n 0, 1) := by decide +kernel
theorem dX12_fails_1 : decode cX12_fails 1 = .ok (.getfield 129, 3) := by decide +kernel
theorem dX12_fails_4 : decode cX12_fails 4 = .ok (.ifCond .eq 4, 3) := by decide +kernel
theorem dX12_fails_7 : decode cX12_fails 7 = .ok (.return_, 1) := by decide +kernel
theorem dX12_fails_8 : decode cX12_fails 8 = .ok (.aload_n 0, 1) := by decide +kernel
theorem dX12_fails_9 : decode cX12_fails 9 = .ok (.aload_n 0, 1) := by decide +kernel
theorem dX12_fails_10 : decode cX12_fails 10 = .ok (.getfield 111, 3) := by decide +kernel
theorem dX12_fails_13 : decode cX12_fails 13 = .ok (.bipush 27, 2) := by decide +kernel
theorem dX12_fails_15 : decode cX12_fails 15 = .ok (.if_icmp .ne 7, 3) := by decide +kernel
theorem dX12_fails_18 : decode cX12_fails 18 = .ok (.iconst 1, 1) := by decide +kernel
theorem dX12_fails_19 : decode cX12_fails 19 = .ok (.goto 4, 3) := by decide +kernel
theorem dX12_fails_22 : decode cX12_fails 22 = .ok (.iload_n 1, 1) := by decide +kernel
theorem dX12_fails_23 : decode cX12_fails 23 = .ok (.putfield 129, 3) := by decide +kernel
theorem dX12_fails_26 : decode cX12_fails 26 = .ok (.aload_n 0, 1) := by decide +kernel
theorem dX12_fails_27 : decode cX12_fails 27 = .ok (.aload_n 0, 1) := by decide +kernel
theorem dX12_fails_28 : decode cX12_fails 28 = .ok (.getfield 101, 3) := by decide +kernel
theorem dX12_fails_31 : decode cX12_fails 31 = .ok (.putfield 132, 3) := by decide +kernel
theorem dX12_fails_34 : decode cX12_fails 34 = .ok (.return_, 1) := by decide +kernel
theorem dX12_goesIn_0 : decode cX12_goesIn 0 = .ok (.iload_n 1, 1) := by decide +kernel
theorem dX12_goesIn_1 : decode cX12_goesIn 1 = .ok (.bipush 6, 2) := by decide +kernel
theorem dX12_goesIn_3 : decode cX12_goesIn 3 = .ok (.if_icmp .ne 8, 3) := by decide +kernel
theorem dX12_goesIn_6 : decode cX12_goesIn 6 = .ok (.aload_n 0, 1) := by decide +kernel
theorem dX12_goesIn_7 : decode cX12_goesIn 7 = .ok (.iconst 4, 1) := by decide +kernel
theorem dX12_goesIn_8 : decode cX12_goesIn 8 = .ok (.invokevirtual 141, 3) := by decide +kernel
theorem dX12_goesIn_11 : decode cX12_goesIn 11 = .ok (.aload_n 0, 1) := by decide +kernel
theorem dX12_goesIn_12 : decode cX12_goesIn 12 = .ok (.getfield 129, 3) := by decide +kernel
theorem dX12_goesIn_15 : decode cX12_goesIn 15 = .ok (.ifCond .ne 7, 3) := by decide +kernel
theorem dX12_goesIn_18 : decode cX12_goesIn 18 = .ok (.aload_n 0, 1) := by decide +kernel
theorem dX12_goesIn_19 : decode cX12_goesIn 19 = .ok (.invokevirtual 138, 3) := by decide +kernel
theorem dX12_goesIn_22 : decode cX12_goesIn 22 = .ok (.aload_n 0, 1) := by decide +kernel
theorem dX12_goesIn_23 : decode cX12_goesIn 23 = .ok (.getfield 129, 3) := by decide +kernel
theorem dX12_goesIn_26 : decode cX12_goesIn 26 = .ok (.ifCond .ne 7, 3) := by decide +kernel
theorem dX12_goesIn_29 : decode cX12_goesIn 29 = .ok (.iconst 1, 1) := by decide +kernel
theorem dX12_goesIn_30 : decode cX12_goesIn 30 = .ok (.goto 4, 3) := by decide +kernel
theorem dX12_goesIn_33 : decode cX12_goesIn 33 = .ok (.iconst 0, 1) := by decide +kernel
theorem dX12_goesIn_34 : decode cX12_goesIn 34 = .ok (.ireturn, 1) := by decide +kernel
theorem dX12_is_0 : decode cX12_is 0 = .ok (.aload_n 0, 1) := by decide +kernel
theorem dX12_is_1 : decode cX12_is 1 = .ok (.getfield 129, 3) := by decide +kernel
theorem dX12_is_4 : decode cX12_is 4 = .ok (.ifCond .ne 15, 3) := by decide +kernel
theorem dX12_is_7 : decode cX12_is 7 = .ok (.aload_n 0, 1) := by decide +kernel
theorem dX12_is_8 : decode cX12_is 8 = .ok (.getfield 111, 3) := by decide +kernel
theorem dX12_is_11 : decode cX12_is 11 = .ok (.iload_n 1, 1) := by decide +kernel
theorem dX12_is_12 : decode cX12_is 12 = .ok (.if_icmp .ne 7, 3) := by decide +kernel
theorem dX12_is_15 : decode cX12_is 15 = .ok (.iconst 1, 1) := by decide +kernel
theorem dX12_is_16 : decode cX12_is 16 = .ok (.goto 4, 3) := by decide +kernel
theorem dX12_is_19 : decode cX12_is 19 = .ok (.iconst 0, 1) := by decide +kernel
theorem dX12_is_20 : decode cX12_is 20 = .ok (.ireturn, 1) := by decide +kernel
theorem dX12_isDigit_0 : decode cX12_isDigit 0 = .ok (.iload_n 0, 1) := by decide +kernel
theorem dX12_isDigit_1 : decode cX12_isDigit 1 = .ok (.bipush 48, 2) := by decide +kernel
theorem dX12_isDigit_3 : decode cX12_isDigit 3 = .ok (.if_icmp .lt 13, 3) := by decide +kernel
theorem dX12_isDigit_6 : decode cX12_isDigit 6 = .ok (.iload_n 0, 1) := by decide +kernel
theorem dX12_isDigit_7 : decode cX12_isDigit 7 = .ok (.bipush 57, 2) := by decide +kernel
theorem dX12_isDigit_9 : decode cX12_isDigit 9 = .ok (.if_icmp .gt 7, 3) := by decide +kernel
theorem dX12_isDigit_12 : decode cX12_isDigit 12 = .ok (.iconst 1, 1) := by decide +kernel
theorem dX12_isDigit_13 : decode cX12_isDigit 13 = .ok (.goto 4, 3) := by decide +kernel
theorem dX12_isDigit_16 : decode cX12_isDigit 16 = .ok (.iconst 0, 1) := by decide +kernel
theorem dX12_isDigit_17 : decode cX12_isDigit 17 = .ok (.ireturn, 1) := by decide +kernel
theorem dX12_isSmall_0 : decode cX12_isSmall 0 = .ok (.iload_n 0, 1) := by decide +kernel
theorem dX12_isSmall_1 : decode cX12_isSmall 1 = .ok (.bipush 97, 2) := by decide +kernel
theorem dX12_isSmall_3 : decode cX12_isSmall 3 = .ok (.if_icmp .lt 13, 3) := by decide +kernel
theorem dX12_isSmall_6 : decode cX12_isSmall 6 = .ok (.iload_n 0, 1) := by decide +kernel
theorem dX12_isSmall_7 : decode cX12_isSmall 7 = .ok (.bipush 122, 2) := by decide +kernel
theorem dX12_isSmall_9 : decode cX12_isSmall 9 = .ok (.if_icmp .gt 7, 3) := by decide +kernel
theorem dX12_isSmall_12 : decode cX12_isSmall 12 = .ok (.iconst 1, 1) := by decide +kernel
theorem dX12_isSmall_13 : decode cX12_isSmall 13 = .ok (.goto 4, 3) := by decide +kernel
theorem dX12_isSmall_16 : decode cX12_isSmall 16 = .ok (.iconst 0, 1) := by decide +kernel
theorem dX12_isSmall_17 : decode cX12_isSmall 17 = .ok (.ireturn, 1) := by decide +kernel
theorem dX12_keyAt_0 : decode cX12_keyAt 0 = .ok (.iconst 0, 1) := by decide +kernel
theorem dX12_keyAt_1 : decode cX12_keyAt 1 = .ok (.istore_n 1, 1) := by decide +kernel
theorem dX12_keyAt_2 : decode cX12_keyAt 2 = .ok (.iconst 1, 1) := by decide +kernel
theorem dX12_keyAt_3 : decode cX12_keyAt 3 = .ok (.istore_n 2, 1) := by decide +kernel
theorem dX12_keyAt_4 : decode cX12_keyAt 4 = .ok (.iload_n 2, 1) := by decide +kernel
theorem dX12_keyAt_5 : decode cX12_keyAt 5 = .ok (.ldc 89, 2) := by decide +kernel
theorem dX12_keyAt_7 : decode cX12_keyAt 7 = .ok (.invokevirtual 91, 3) := by decide +kernel
theorem dX12_keyAt_10 : decode cX12_keyAt 10 = .ok (.if_icmp .ge 113, 3) := by decide +kernel
theorem dX12_keyAt_13 : decode cX12_keyAt 13 = .ok (.iconst 0, 1) := by decide +kernel
theorem dX12_keyAt_14 : decode cX12_keyAt 14 = .ok (.istore_n 3, 1) := by decide +kernel
theorem dX12_keyAt_15 : decode cX12_keyAt 15 = .ok (.ldc 89, 2) := by decide +kernel
theorem dX12_keyAt_17 : decode cX12_keyAt 17 = .ok (.iload_n 2, 1) := by decide +kernel
theorem dX12_keyAt_18 : decode cX12_keyAt 18 = .ok (.iload_n 3, 1) := by decide +kernel
theorem dX12_keyAt_19 : decode cX12_keyAt 19 = .ok (.iadd, 1) := by decide +kernel
theorem dX12_keyAt_20 : decode cX12_keyAt 20 = .ok (.invokevirtual 97, 3) := by decide +kernel
theorem dX12_keyAt_23 : decode cX12_keyAt 23 = .ok (.bipush 32, 2) := by decide +kernel
theorem dX12_keyAt_25 : decode cX12_keyAt 25 = .ok (.if_icmp .eq 44, 3) := by decide +kernel
theorem dX12_keyAt_28 : decode cX12_keyAt 28 = .ok (.aload_n 0, 1) := by decide +kernel
theorem dX12_keyAt_29 : decode cX12_keyAt 29 = .ok (.getfield 101, 3) := by decide +kernel
theorem dX12_keyAt_32 : decode cX12_keyAt 32 = .ok (.iload_n 3, 1) := by decide +kernel
theorem dX12_keyAt_33 : decode cX12_keyAt 33 = .ok (.iadd, 1) := by decide +kernel
theorem dX12_keyAt_34 : decode cX12_keyAt 34 = .ok (.aload_n 0, 1) := by decide +kernel
theorem dX12_keyAt_35 : decode cX12_keyAt 35 = .ok (.getfield 104, 3) := by decide +kernel
theorem dX12_keyAt_38 : decode cX12_keyAt 38 = .ok (.if_icmp .ge 31, 3) := by decide +kernel
theorem dX12_keyAt_41 : decode cX12_keyAt 41 = .ok (.aload_n 0, 1) := by decide +kernel
theorem dX12_keyAt_42 : decode cX12_keyAt 42 = .ok (.getfield 21, 3) := by decide +kernel
theorem dX12_keyAt_45 : decode cX12_keyAt 45 = .ok (.aload_n 0, 1) := by decide +kernel
theorem dX12_keyAt_46 : decode cX12_keyAt 46 = .ok (.getfield 101, 3) := by decide +kernel
theorem dX12_keyAt_49 : decode cX12_keyAt 49 = .ok (.iload_n 3, 1) := by decide +kernel
theorem dX12_keyAt_50 : decode cX12_keyAt 50 = .ok (.iadd, 1) := by decide +kernel
theorem dX12_keyAt_51 : decode cX12_keyAt 51 = .ok (.iaload, 1) := by decide +kernel
theorem dX12_keyAt_52 : decode cX12_keyAt 52 = .ok (.ldc 89, 2) := by decide +kernel
theorem dX12_keyAt_54 : decode cX12_keyAt 54 = .ok (.iload_n 2, 1) := by decide +kernel
theorem dX12_keyAt_55 : decode cX12_keyAt 55 = .ok (.iload_n 3, 1) := by decide +kernel
theorem dX12_keyAt_56 : decode cX12_keyAt 56 = .ok (.iadd, 1) := by decide +kernel
theorem dX12_keyAt_57 : decode cX12_keyAt 57 = .ok (.invokevirtual 97, 3) := by decide +kernel
theorem dX12_keyAt_60 : decode cX12_keyAt 60 = .ok (.if_icmp .ne 9, 3) := by decide +kernel
theorem dX12_keyAt_63 : decode cX12_keyAt 63 = .ok (.iinc 3 1, 3) := by decide +kernel
theorem dX12_keyAt_66 : decode cX12_keyAt 66 = .ok (.goto (-51), 3) := by decide +kernel
theorem dX12_keyAt_69 : decode cX12_keyAt 69 = .ok (.ldc 89, 2) := by decide +kernel
theorem dX12_keyAt_71 : decode cX12_keyAt 71 = .ok (.iload_n 2, 1) := by decide +kernel
theorem dX12_keyAt_72 : decode cX12_keyAt 72 = .ok (.iload_n 3, 1) := by decide +kernel
theorem dX12_keyAt_73 : decode cX12_keyAt 73 = .ok (.iadd, 1) := by decide +kernel
theorem dX12_keyAt_74 : decode cX12_keyAt 74 = .ok (.invokevirtual 97, 3) := by decide +kernel
theorem dX12_keyAt_77 : decode cX12_keyAt 77 = .ok (.bipush 32, 2) := by decide +kernel
theorem dX12_keyAt_79 : decode cX12_keyAt 79 = .ok (.if_icmp .ne 18, 3) := by decide +kernel
theorem dX12_keyAt_82 : decode cX12_keyAt 82 = .ok (.aload_n 0, 1) := by decide +kernel
theorem dX12_keyAt_83 : decode cX12_keyAt 83 = .ok (.getfield 101, 3) := by decide +kernel
theorem dX12_keyAt_86 : decode cX12_keyAt 86 = .ok (.iload_n 3, 1) := by decide +kernel
theorem dX12_keyAt_87 : decode cX12_keyAt 87 = .ok (.iadd, 1) := by decide +kernel
theorem dX12_keyAt_88 : decode cX12_keyAt 88 = .ok (.aload_n 0, 1) := by decide +kernel
theorem dX12_keyAt_89 : decode cX12_keyAt 89 = .ok (.getfield 104, 3) := by decide +kernel
theorem dX12_keyAt_92 : decode cX12_keyAt 92 = .ok (.if_icmp .ne 5, 3) := by decide +kernel
theorem dX12_keyAt_95 : decode cX12_keyAt 95 = .ok (.iload_n 1, 1) := by decide +kernel
theorem dX12_keyAt_96 : decode cX12_keyAt 96 = .ok (.ireturn, 1) := by decide +kernel
theorem dX12_keyAt_97 : decode cX12_keyAt 97 = .ok (.ldc 89, 2) := by decide +kernel
theorem dX12_keyAt_99 : decode cX12_keyAt 99 = .ok (.iload_n 2, 1) := by decide +kernel
theorem dX12_keyAt_100 : decode cX12_keyAt 100 = .ok (.invokevirtual 97, 3) := by decide +kernel
theorem dX12_keyAt_103 : decode cX12_keyAt 103 = .ok (.bipush 32, 2) := by decide +kernel
theorem dX12_keyAt_105 : decode cX12_keyAt 105 = .ok (.if_icmp .eq 9, 3) := by decide +kernel
theorem dX12_keyAt_108 : decode cX12_keyAt 108 = .ok (.iinc 2 1, 3) := by decide +kernel
theorem dX12_keyAt_111 : decode cX12_keyAt 111 = .ok (.goto (-14), 3) := by decide +kernel
theorem dX12_keyAt_114 : decode cX12_keyAt 114 = .ok (.iinc 2 1, 3) := by decide +kernel
theorem dX12_keyAt_117 : decode cX12_keyAt 117 = .ok (.iinc 1 1, 3) := by decide +kernel
theorem dX12_keyAt_120 : decode cX12_keyAt 120 = .ok (.goto (-116), 3) := by decide +kernel
theorem dX12_keyAt_123 : decode cX12_keyAt 123 = .ok (.bipush 24, 2) := by decide +kernel
theorem dX12_keyAt_125 : decode cX12_keyAt 125 = .ok (.ireturn, 1) := by decide +kernel
theorem dX12_next_0 : decode cX12_next 0 = .ok (.aload_n 0, 1) := by decide +kernel
theorem dX12_next_1 : decode cX12_next 1 = .ok (.aload_n 0, 1) := by decide +kernel
theorem dX12_next_2 : decode cX12_next 2 = .ok (.getfield 104, 3) := by decide +kernel
theorem dX12_next_5 : decode cX12_next 5 = .ok (.putfield 101, 3) := by decide +kernel
theorem dX12_next_8 : decode cX12_next 8 = .ok (.aload_n 0, 1) := by decide +kernel
theorem dX12_next_9 : decode cX12_next 9 = .ok (.aload_n 0, 1) := by decide +kernel
theorem dX12_next_10 : decode cX12_next 10 = .ok (.getfield 101, 3) := by decide +kernel
theorem dX12_next_13 : decode cX12_next 13 = .ok (.invokevirtual 107, 3) := by decide +kernel
theorem dX12_next_16 : decode cX12_next 16 = .ok (.bipush 10, 2) := by decide +kernel
theorem dX12_next_18 : decode cX12_next 18 = .ok (.if_icmp .eq 16, 3) := by decide +kernel
theorem dX12_next_21 : decode cX12_next 21 = .ok (.aload_n 0, 1) := by decide +kernel
theorem dX12_next_22 : decode cX12_next 22 = .ok (.aload_n 0, 1) := by decide +kernel
theorem dX12_next_23 : decode cX12_next 23 = .ok (.getfield 101, 3) := by decide +kernel
theorem dX12_next_26 : decode cX12_next 26 = .ok (.invokevirtual 107, 3) := by decide +kernel
theorem dX12_next_29 : decode cX12_next 29 = .ok (.bipush 32, 2) := by decide +kernel
theorem dX12_next_31 : decode cX12_next 31 = .ok (.if_icmp .ne 16, 3) := by decide +kernel
theorem dX12_next_34 : decode cX12_next 34 = .ok (.aload_n 0, 1) := by decide +kernel
theorem dX12_next_35 : decode cX12_next 35 = .ok (.dup, 1) := by decide +kernel
theorem dX12_next_36 : decode cX12_next 36 = .ok (.getfield 101, 3) := by decide +kernel
theorem dX12_next_39 : decode cX12_next 39 = .ok (.iconst 1, 1) := by decide +kernel
theorem dX12_next_40 : decode cX12_next 40 = .ok (.iadd, 1) := by decide +kernel
theorem dX12_next_41 : decode cX12_next 41 = .ok (.putfield 101, 3) := by decide +kernel
theorem dX12_next_44 : decode cX12_next 44 = .ok (.goto (-36), 3) := by decide +kernel
theorem dX12_next_47 : decode cX12_next 47 = .ok (.aload_n 0, 1) := by decide +kernel
theorem dX12_next_48 : decode cX12_next 48 = .ok (.aload_n 0, 1) := by decide +kernel
theorem dX12_next_49 : decode cX12_next 49 = .ok (.getfield 101, 3) := by decide +kernel
theorem dX12_next_52 : decode cX12_next 52 = .ok (.putfield 104, 3) := by decide +kernel
theorem dX12_next_55 : decode cX12_next 55 = .ok (.aload_n 0, 1) := by decide +kernel
theorem dX12_next_56 : decode cX12_next 56 = .ok (.getfield 101, 3) := by decide +kernel
theorem dX12_next_59 : decode cX12_next 59 = .ok (.aload_n 0, 1) := by decide +kernel
theorem dX12_next_60 : decode cX12_next 60 = .ok (.getfield 86, 3) := by decide +kernel
theorem dX12_next_63 : decode cX12_next 63 = .ok (.if_icmp .lt 12, 3) := by decide +kernel
theorem dX12_next_66 : decode cX12_next 66 = .ok (.aload_n 0, 1) := by decide +kernel
theorem dX12_next_67 : decode cX12_next 67 = .ok (.bipush 26, 2) := by decide +kernel
theorem dX12_next_69 : decode cX12_next 69 = .ok (.putfield 111, 3) := by decide +kernel
theorem dX12_next_72 : decode cX12_next 72 = .ok (.goto 222, 3) := by decide +kernel
theorem dX12_next_75 : decode cX12_next 75 = .ok (.aload_n 0, 1) := by decide +kernel
theorem dX12_next_76 : decode cX12_next 76 = .ok (.aload_n 0, 1) := by decide +kernel
theorem dX12_next_77 : decode cX12_next 77 = .ok (.getfield 101, 3) := by decide +kernel
theorem dX12_next_80 : decode cX12_next 80 = .ok (.invokevirtual 107, 3) := by decide +kernel
theorem dX12_next_83 : decode cX12_next 83 = .ok (.invokestatic 114, 3) := by decide +kernel
theorem dX12_next_86 : decode cX12_next 86 = .ok (.ifCond .eq 41, 3) := by decide +kernel
theorem dX12_next_89 : decode cX12_next 89 = .ok (.aload_n 0, 1) := by decide +kernel
theorem dX12_next_90 : decode cX12_next 90 = .ok (.aload_n 0, 1) := by decide +kernel
theorem dX12_next_91 : decode cX12_next 91 = .ok (.getfield 104, 3) := by decide +kernel
theorem dX12_next_94 : decode cX12_next 94 = .ok (.invokevirtual 107, 3) := by decide +kernel
theorem dX12_next_97 : decode cX12_next 97 = .ok (.invokestatic 114, 3) := by decide +kernel
theorem dX12_next_100 : decode cX12_next 100 = .ok (.ifCond .eq 16, 3) := by decide +kernel
theorem dX12_next_103 : decode cX12_next 103 = .ok (.aload_n 0, 1) := by decide +kernel
theorem dX12_next_104 : decode cX12_next 104 = .ok (.dup, 1) := by decide +kernel
theorem dX12_next_105 : decode cX12_next 105 = .ok (.getfield 104, 3) := by decide +kernel
theorem dX12_next_108 : decode cX12_next 108 = .ok (.iconst 1, 1) := by decide +kernel
theorem dX12_next_109 : decode cX12_next 109 = .ok (.iadd, 1) := by decide +kernel
theorem dX12_next_110 : decode cX12_next 110 = .ok (.putfield 104, 3) := by decide +kernel
theorem dX12_next_113 : decode cX12_next 113 = .ok (.goto (-24), 3) := by decide +kernel
theorem dX12_next_116 : decode cX12_next 116 = .ok (.aload_n 0, 1) := by decide +kernel
theorem dX12_next_117 : decode cX12_next 117 = .ok (.aload_n 0, 1) := by decide +kernel
theorem dX12_next_118 : decode cX12_next 118 = .ok (.invokevirtual 118, 3) := by decide +kernel
theorem dX12_next_121 : decode cX12_next 121 = .ok (.putfield 111, 3) := by decide +kernel
theorem dX12_next_124 : decode cX12_next 124 = .ok (.goto 170, 3) := by decide +kernel
theorem dX12_next_127 : decode cX12_next 127 = .ok (.aload_n 0, 1) := by decide +kernel
theorem dX12_next_128 : decode cX12_next 128 = .ok (.aload_n 0, 1) := by decide +kernel
theorem dX12_next_129 : decode cX12_next 129 = .ok (.getfield 101, 3) := by decide +kernel
theorem dX12_next_132 : decode cX12_next 132 = .ok (.invokevirtual 107, 3) := by decide +kernel
theorem dX12_next_135 : decode cX12_next 135 = .ok (.invokestatic 121, 3) := by decide +kernel
theorem dX12_next_138 : decode cX12_next 138 = .ok (.ifCond .eq 98, 3) := by decide +kernel
theorem dX12_next_141 : decode cX12_next 141 = .ok (.aload_n 0, 1) := by decide +kernel
theorem dX12_next_142 : decode cX12_next 142 = .ok (.iconst 0, 1) := by decide +kernel
theorem dX12_next_143 : decode cX12_next 143 = .ok (.putfield 124, 3) := by decide +kernel
theorem dX12_next_146 : decode cX12_next 146 = .ok (.aload_n 0, 1) := by decide +kernel
theorem dX12_next_147 : decode cX12_next 147 = .ok (.aload_n 0, 1) := by decide +kernel
theorem dX12_next_148 : decode cX12_next 148 = .ok (.getfield 104, 3) := by decide +kernel
theorem dX12_next_151 : decode cX12_next 151 = .ok (.invokevirtual 107, 3) := by decide +kernel
theorem dX12_next_154 : decode cX12_next 154 = .ok (.invokestatic 121, 3) := by decide +kernel
theorem dX12_next_157 : decode cX12_next 157 = .ok (.ifCond .eq 52, 3) := by decide +kernel
theorem dX12_next_160 : decode cX12_next 160 = .ok (.aload_n 0, 1) := by decide +kernel
theorem dX12_next_161 : decode cX12_next 161 = .ok (.getfield 104, 3) := by decide +kernel
theorem dX12_next_164 : decode cX12_next 164 = .ok (.aload_n 0, 1) := by decide +kernel
theorem dX12_next_165 : decode cX12_next 165 = .ok (.getfield 101, 3) := by decide +kernel
theorem dX12_next_168 : decode cX12_next 168 = .ok (.isub, 1) := by decide +kernel
theorem dX12_next_169 : decode cX12_next 169 = .ok (.iconst 3, 1) := by decide +kernel
theorem dX12_next_170 : decode cX12_next 170 = .ok (.if_icmp .ge 26, 3) := by decide +kernel
theorem dX12_next_173 : decode cX12_next 173 = .ok (.aload_n 0, 1) := by decide +kernel
theorem dX12_next_174 : decode cX12_next 174 = .ok (.bipush 10, 2) := by decide +kernel
theorem dX12_next_176 : decode cX12_next 176 = .ok (.aload_n 0, 1) := by decide +kernel
theorem dX12_next_177 : decode cX12_next 177 = .ok (.getfield 124, 3) := by decide +kernel
theorem dX12_next_180 : decode cX12_next 180 = .ok (.imul, 1) := by decide +kernel
theorem dX12_next_181 : decode cX12_next 181 = .ok (.aload_n 0, 1) := by decide +kernel
theorem dX12_next_182 : decode cX12_next 182 = .ok (.aload_n 0, 1) := by decide +kernel
theorem dX12_next_183 : decode cX12_next 183 = .ok (.getfield 104, 3) := by decide +kernel
theorem dX12_next_186 : decode cX12_next 186 = .ok (.invokevirtual 107, 3) := by decide +kernel
theorem dX12_next_189 : decode cX12_next 189 = .ok (.iadd, 1) := by decide +kernel
theorem dX12_next_190 : decode cX12_next 190 = .ok (.bipush 48, 2) := by decide +kernel
theorem dX12_next_192 : decode cX12_next 192 = .ok (.isub, 1) := by decide +kernel
theorem dX12_next_193 : decode cX12_next 193 = .ok (.putfield 124, 3) := by decide +kernel
theorem dX12_next_196 : decode cX12_next 196 = .ok (.aload_n 0, 1) := by decide +kernel
theorem dX12_next_197 : decode cX12_next 197 = .ok (.dup, 1) := by decide +kernel
theorem dX12_next_198 : decode cX12_next 198 = .ok (.getfield 104, 3) := by decide +kernel
theorem dX12_next_201 : decode cX12_next 201 = .ok (.iconst 1, 1) := by decide +kernel
theorem dX12_next_202 : decode cX12_next 202 = .ok (.iadd, 1) := by decide +kernel
theorem dX12_next_203 : decode cX12_next 203 = .ok (.putfield 104, 3) := by decide +kernel
theorem dX12_next_206 : decode cX12_next 206 = .ok (.goto (-60), 3) := by decide +kernel
theorem dX12_next_209 : decode cX12_next 209 = .ok (.aload_n 0, 1) := by decide +kernel
theorem dX12_next_210 : decode cX12_next 210 = .ok (.aload_n 0, 1) := by decide +kernel
theorem dX12_next_211 : decode cX12_next 211 = .ok (.getfield 104, 3) := by decide +kernel
theorem dX12_next_214 : decode cX12_next 214 = .ok (.aload_n 0, 1) := by decide +kernel
theorem dX12_next_215 : decode cX12_next 215 = .ok (.getfield 101, 3) := by decide +kernel
theorem dX12_next_218 : decode cX12_next 218 = .ok (.isub, 1) := by decide +kernel
theorem dX12_next_219 : decode cX12_next 219 = .ok (.iconst 3, 1) := by decide +kernel
theorem dX12_next_220 : decode cX12_next 220 = .ok (.if_icmp .le 8, 3) := by decide +kernel
theorem dX12_next_223 : decode cX12_next 223 = .ok (.bipush 27, 2) := by decide +kernel
theorem dX12_next_225 : decode cX12_next 225 = .ok (.goto 5, 3) := by decide +kernel
theorem dX12_next_228 : decode cX12_next 228 = .ok (.bipush 25, 2) := by decide +kernel
theorem dX12_next_230 : decode cX12_next 230 = .ok (.putfield 111, 3) := by decide +kernel
theorem dX12_next_233 : decode cX12_next 233 = .ok (.goto 61, 3) := by decide +kernel
theorem dX12_next_236 : decode cX12_next 236 = .ok (.aload_n 0, 1) := by decide +kernel
theorem dX12_next_237 : decode cX12_next 237 = .ok (.dup, 1) := by decide +kernel
theorem dX12_next_238 : decode cX12_next 238 = .ok (.getfield 104, 3) := by decide +kernel
theorem dX12_next_241 : decode cX12_next 241 = .ok (.iconst 1, 1) := by decide +kernel
theorem dX12_next_242 : decode cX12_next 242 = .ok (.iadd, 1) := by decide +kernel
theorem dX12_next_243 : decode cX12_next 243 = .ok (.putfield 104, 3) := by decide +kernel
theorem dX12_next_246 : decode cX12_next 246 = .ok (.aload_n 0, 1) := by decide +kernel
theorem dX12_next_247 : decode cX12_next 247 = .ok (.bipush 27, 2) := by decide +kernel
theorem dX12_next_249 : decode cX12_next 249 = .ok (.putfield 111, 3) := by decide +kernel
theorem dX12_next_252 : decode cX12_next 252 = .ok (.iconst 0, 1) := by decide +kernel
theorem dX12_next_253 : decode cX12_next 253 = .ok (.istore_n 1, 1) := by decide +kernel
theorem dX12_next_254 : decode cX12_next 254 = .ok (.iload_n 1, 1) := by decide +kernel
theorem dX12_next_255 : decode cX12_next 255 = .ok (.ldc 127, 2) := by decide +kernel
theorem dX12_next_257 : decode cX12_next 257 = .ok (.invokevirtual 91, 3) := by decide +kernel
theorem dX12_next_260 : decode cX12_next 260 = .ok (.if_icmp .ge 34, 3) := by decide +kernel
theorem dX12_next_263 : decode cX12_next 263 = .ok (.aload_n 0, 1) := by decide +kernel
theorem dX12_next_264 : decode cX12_next 264 = .ok (.aload_n 0, 1) := by decide +kernel
theorem dX12_next_265 : decode cX12_next 265 = .ok (.getfield 101, 3) := by decide +kernel
theorem dX12_next_268 : decode cX12_next 268 = .ok (.invokevirtual 107, 3) := by decide +kernel
theorem dX12_next_271 : decode cX12_next 271 = .ok (.ldc 127, 2) := by decide +kernel
theorem dX12_next_273 : decode cX12_next 273 = .ok (.iload_n 1, 1) := by decide +kernel
theorem dX12_next_274 : decode cX12_next 274 = .ok (.invokevirtual 97, 3) := by decide +kernel
theorem dX12_next_277 : decode cX12_next 277 = .ok (.if_icmp .ne 11, 3) := by decide +kernel
theorem dX12_next_280 : decode cX12_next 280 = .ok (.aload_n 0, 1) := by decide +kernel
theorem dX12_next_281 : decode cX12_next 281 = .ok (.bipush 30, 2) := by decide +kernel
theorem dX12_next_283 : decode cX12_next 283 = .ok (.iload_n 1, 1) := by decide +kernel
theorem dX12_next_284 : decode cX12_next 284 = .ok (.iadd, 1) := by decide +kernel
theorem dX12_next_285 : decode cX12_next 285 = .ok (.putfield 111, 3) := by decide +kernel
theorem dX12_next_288 : decode cX12_next 288 = .ok (.iinc 1 1, 3) := by decide +kernel
theorem dX12_next_291 : decode cX12_next 291 = .ok (.goto (-37), 3) := by decide +kernel
theorem dX12_next_294 : decode cX12_next 294 = .ok (.return_, 1) := by decide +kernel
theorem dX12_plain_0 : decode cX12_plain 0 = .ok (.iconst 0, 1) := by decide +kernel
theorem dX12_plain_1 : decode cX12_plain 1 = .ok (.istore_n 1, 1) := by decide +kernel
theorem dX12_plain_2 : decode cX12_plain 2 = .ok (.iload_n 1, 1) := by decide +kernel
theorem dX12_plain_3 : decode cX12_plain 3 = .ok (.sipush 1306, 3) := by decide +kernel
theorem dX12_plain_6 : decode cX12_plain 6 = .ok (.if_icmp .ge 13, 3) := by decide +kernel
theorem dX12_plain_9 : decode cX12_plain 9 = .ok (.aload_n 0, 1) := by decide +kernel
theorem dX12_plain_10 : decode cX12_plain 10 = .ok (.iload_n 1, 1) := by decide +kernel
theorem dX12_plain_11 : decode cX12_plain 11 = .ok (.iconst 0, 1) := by decide +kernel
theorem dX12_plain_12 : decode cX12_plain 12 = .ok (.iastore, 1) := by decide +kernel
theorem dX12_plain_13 : decode cX12_plain 13 = .ok (.iinc 1 1, 3) := by decide +kernel
theorem dX12_plain_16 : decode cX12_plain 16 = .ok (.goto (-14), 3) := by decide +kernel
theorem dX12_plain_19 : decode cX12_plain 19 = .ok (.aload_n 0, 1) := by decide +kernel
theorem dX12_plain_20 : decode cX12_plain 20 = .ok (.iconst 1, 1) := by decide +kernel
theorem dX12_plain_21 : decode cX12_plain 21 = .ok (.iconst 1, 1) := by decide +kernel
theorem dX12_plain_22 : decode cX12_plain 22 = .ok (.iastore, 1) := by decide +kernel
theorem dX12_plain_23 : decode cX12_plain 23 = .ok (.return_, 1) := by decide +kernel
theorem dX12_see_0 : decode cX12_see 0 = .ok (.iload_n 1, 1) := by decide +kernel
theorem dX12_see_1 : decode cX12_see 1 = .ok (.aload_n 0, 1) := by decide +kernel
theorem dX12_see_2 : decode cX12_see 2 = .ok (.getfield 86, 3) := by decide +kernel
theorem dX12_see_5 : decode cX12_see 5 = .ok (.if_icmp .ge 12, 3) := by decide +kernel
theorem dX12_see_8 : decode cX12_see 8 = .ok (.aload_n 0, 1) := by decide +kernel
theorem dX12_see_9 : decode cX12_see 9 = .ok (.getfield 21, 3) := by decide +kernel
theorem dX12_see_12 : decode cX12_see 12 = .ok (.iload_n 1, 1) := by decide +kernel
theorem dX12_see_13 : decode cX12_see 13 = .ok (.iaload, 1) := by decide +kernel
theorem dX12_see_14 : decode cX12_see 14 = .ok (.goto 4, 3) := by decide +kernel
theorem dX12_see_17 : decode cX12_see 17 = .ok (.iconst (-1), 1) := by decide +kernel
theorem dX12_see_18 : decode cX12_see 18 = .ok (.ireturn, 1) := by decide +kernel
theorem dX12_takes_0 : decode cX12_takes 0 = .ok (.aload_n 0, 1) := by decide +kernel
theorem dX12_takes_1 : decode cX12_takes 1 = .ok (.bipush 25, 2) := by decide +kernel
theorem dX12_takes_3 : decode cX12_takes 3 = .ok (.invokevirtual 135, 3) := by decide +kernel
theorem dX12_takes_6 : decode cX12_takes 6 = .ok (.ifCond .ne 11, 3) := by decide +kernel
theorem dX12_takes_9 : decode cX12_takes 9 = .ok (.aload_n 0, 1) := by decide +kernel
theorem dX12_takes_10 : decode cX12_takes 10 = .ok (.iconst 2, 1) := by decide +kernel
theorem dX12_takes_11 : decode cX12_takes 11 = .ok (.invokevirtual 141, 3) := by decide +kernel
theorem dX12_takes_14 : decode cX12_takes 14 = .ok (.goto 23, 3) := by decide +kernel
theorem dX12_takes_17 : decode cX12_takes 17 = .ok (.aload_n 0, 1) := by decide +kernel
theorem dX12_takes_18 : decode cX12_takes 18 = .ok (.getfield 124, 3) := by decide +kernel
theorem dX12_takes_21 : decode cX12_takes 21 = .ok (.i2l, 1) := by decide +kernel
theorem dX12_takes_22 : decode cX12_takes 22 = .ok (.iload_n 1, 1) := by decide +kernel
theorem dX12_takes_23 : decode cX12_takes 23 = .ok (.i2l, 1) := by decide +kernel
theorem dX12_takes_24 : decode cX12_takes 24 = .ok (.iload_n 2, 1) := by decide +kernel
theorem dX12_takes_25 : decode cX12_takes 25 = .ok (.i2l, 1) := by decide +kernel
theorem dX12_takes_26 : decode cX12_takes 26 = .ok (.invokestatic 145, 3) := by decide +kernel
theorem dX12_takes_29 : decode cX12_takes 29 = .ok (.ifCond .ne 8, 3) := by decide +kernel
theorem dX12_takes_32 : decode cX12_takes 32 = .ok (.aload_n 0, 1) := by decide +kernel
theorem dX12_takes_33 : decode cX12_takes 33 = .ok (.iconst 3, 1) := by decide +kernel
theorem dX12_takes_34 : decode cX12_takes 34 = .ok (.invokevirtual 141, 3) := by decide +kernel
theorem dX12_takes_37 : decode cX12_takes 37 = .ok (.aload_n 0, 1) := by decide +kernel
theorem dX12_takes_38 : decode cX12_takes 38 = .ok (.getfield 124, 3) := by decide +kernel
theorem dX12_takes_41 : decode cX12_takes 41 = .ok (.istore_n 3, 1) := by decide +kernel
theorem dX12_takes_42 : decode cX12_takes 42 = .ok (.aload_n 0, 1) := by decide +kernel
theorem dX12_takes_43 : decode cX12_takes 43 = .ok (.getfield 129, 3) := by decide +kernel
theorem dX12_takes_46 : decode cX12_takes 46 = .ok (.ifCond .ne 7, 3) := by decide +kernel
theorem dX12_takes_49 : decode cX12_takes 49 = .ok (.aload_n 0, 1) := by decide +kernel
theorem dX12_takes_50 : decode cX12_takes 50 = .ok (.invokevirtual 138, 3) := by decide +kernel
theorem dX12_takes_53 : decode cX12_takes 53 = .ok (.iload_n 3, 1) := by decide +kernel
theorem dX12_takes_54 : decode cX12_takes 54 = .ok (.ireturn, 1) := by decide +kernel
theorem dX12_within_0 : decode cX12_within 0 = .ok (.lload_n 0, 1) := by decide +kernel
theorem dX12_within_1 : decode cX12_within 1 = .ok (.lload_n 2, 1) := by decide +kernel
theorem dX12_within_2 : decode cX12_within 2 = .ok (.lcmp, 1) := by decide +kernel
theorem dX12_within_3 : decode cX12_within 3 = .ok (.ifCond .lt 14, 3) := by decide +kernel
theorem dX12_within_6 : decode cX12_within 6 = .ok (.lload_n 0, 1) := by decide +kernel
theorem dX12_within_7 : decode cX12_within 7 = .ok (.lload 4, 2) := by decide +kernel
theorem dX12_within_9 : decode cX12_within 9 = .ok (.lcmp, 1) := by decide +kernel
theorem dX12_within_10 : decode cX12_within 10 = .ok (.ifCond .gt 7, 3) := by decide +kernel
theorem dX12_within_13 : decode cX12_within 13 = .ok (.iconst 1, 1) := by decide +kernel
theorem dX12_within_14 : decode cX12_within 14 = .ok (.goto 4, 3) := by decide +kernel
theorem dX12_within_17 : decode cX12_within 17 = .ok (.iconst 0, 1) := by decide +kernel
theorem dX12_within_18 : decode cX12_within 18 = .ok (.ireturn, 1) := by decide +kernel
theorem dX12_wordOf_0 : decode cX12_wordOf 0 = .ok (.iload_n 1, 1) := by decide +kernel
theorem dX12_wordOf_1 : decode cX12_wordOf 1 = .ok (.i2l, 1) := by decide +kernel
theorem dX12_wordOf_2 : decode cX12_wordOf 2 = .ok (.ldc2_w 149, 3) := by decide +kernel
theorem dX12_wordOf_5 : decode cX12_wordOf 5 = .ok (.ldc2_w 151, 3) := by decide +kernel
theorem dX12_wordOf_8 : decode cX12_wordOf 8 = .ok (.invokestatic 145, 3) := by decide +kernel
theorem dX12_wordOf_11 : decode cX12_wordOf 11 = .ok (.ifCond .eq 8, 3) := by decide +kernel
theorem dX12_wordOf_14 : decode cX12_wordOf 14 = .ok (.iload_n 1, 1) := by decide +kernel
theorem dX12_wordOf_15 : decode cX12_wordOf 15 = .ok (.bipush 11, 2) := by decide +kernel
theorem dX12_wordOf_17 : decode cX12_wordOf 17 = .ok (.isub, 1) := by decide +kernel
theorem dX12_wordOf_18 : decode cX12_wordOf 18 = .ok (.ireturn, 1) := by decide +kernel
theorem dX12_wordOf_19 : decode cX12_wordOf 19 = .ok (.iload_n 1, 1) := by decide +kernel
theorem dX12_wordOf_20 : decode cX12_wordOf 20 = .ok (.bipush 10, 2) := by decide +kernel
theorem dX12_wordOf_22 : decode cX12_wordOf 22 = .ok (.if_icmp .ne 5, 3) := by decide +kernel
theorem dX12_wordOf_25 : decode cX12_wordOf 25 = .ok (.iconst 4, 1) := by decide +kernel
theorem dX12_wordOf_26 : decode cX12_wordOf 26 = .ok (.ireturn, 1) := by decide +kernel
theorem dX12_wordOf_27 : decode cX12_wordOf 27 = .ok (.iload_n 1, 1) := by decide +kernel
theorem dX12_wordOf_28 : decode cX12_wordOf 28 = .ok (.i2l, 1) := by decide +kernel
theorem dX12_wordOf_29 : decode cX12_wordOf 29 = .ok (.ldc2_w 153, 3) := by decide +kernel
theorem dX12_wordOf_32 : decode cX12_wordOf 32 = .ok (.ldc2_w 155, 3) := by decide +kernel
theorem dX12_wordOf_35 : decode cX12_wordOf 35 = .ok (.invokestatic 145, 3) := by decide +kernel
theorem dX12_wordOf_38 : decode cX12_wordOf 38 = .ok (.ifCond .eq 22, 3) := by decide +kernel
theorem dX12_wordOf_41 : decode cX12_wordOf 41 = .ok (.aload_n 0, 1) := by decide +kernel
theorem dX12_wordOf_42 : decode cX12_wordOf 42 = .ok (.getfield 157, 3) := by decide +kernel
theorem dX12_wordOf_45 : decode cX12_wordOf 45 = .ok (.iconst 1, 1) := by decide +kernel
theorem dX12_wordOf_46 : decode cX12_wordOf 46 = .ok (.if_icmp .ne 7, 3) := by decide +kernel
theorem dX12_wordOf_49 : decode cX12_wordOf 49 = .ok (.iconst (-1), 1) := by decide +kernel
theorem dX12_wordOf_50 : decode cX12_wordOf 50 = .ok (.goto 9, 3) := by decide +kernel
theorem dX12_wordOf_53 : decode cX12_wordOf 53 = .ok (.iconst 5, 1) := by decide +kernel
theorem dX12_wordOf_54 : decode cX12_wordOf 54 = .ok (.iload_n 1, 1) := by decide +kernel
theorem dX12_wordOf_55 : decode cX12_wordOf 55 = .ok (.iadd, 1) := by decide +kernel
theorem dX12_wordOf_56 : decode cX12_wordOf 56 = .ok (.bipush 15, 2) := by decide +kernel
theorem dX12_wordOf_58 : decode cX12_wordOf 58 = .ok (.isub, 1) := by decide +kernel
theorem dX12_wordOf_59 : decode cX12_wordOf 59 = .ok (.ireturn, 1) := by decide +kernel
theorem dX12_wordOf_60 : decode cX12_wordOf 60 = .ok (.iload_n 1, 1) := by decide +kernel
theorem dX12_wordOf_61 : decode cX12_wordOf 61 = .ok (.bipush 19, 2) := by decide +kernel
theorem dX12_wordOf_63 : decode cX12_wordOf 63 = .ok (.if_icmp .ne 16, 3) := by decide +kernel
theorem dX12_wordOf_66 : decode cX12_wordOf 66 = .ok (.aload_n 0, 1) := by decide +kernel
theorem dX12_wordOf_67 : decode cX12_wordOf 67 = .ok (.getfield 157, 3) := by decide +kernel
theorem dX12_wordOf_70 : decode cX12_wordOf 70 = .ok (.iconst 1, 1) := by decide +kernel
theorem dX12_wordOf_71 : decode cX12_wordOf 71 = .ok (.if_icmp .ne 8, 3) := by decide +kernel
theorem dX12_wordOf_74 : decode cX12_wordOf 74 = .ok (.bipush 9, 2) := by decide +kernel
theorem dX12_wordOf_76 : decode cX12_wordOf 76 = .ok (.goto 23, 3) := by decide +kernel
theorem dX12_wordOf_79 : decode cX12_wordOf 79 = .ok (.iload_n 1, 1) := by decide +kernel
theorem dX12_wordOf_80 : decode cX12_wordOf 80 = .ok (.bipush 20, 2) := by decide +kernel
theorem dX12_wordOf_82 : decode cX12_wordOf 82 = .ok (.if_icmp .ne 16, 3) := by decide +kernel
theorem dX12_wordOf_85 : decode cX12_wordOf 85 = .ok (.aload_n 0, 1) := by decide +kernel
theorem dX12_wordOf_86 : decode cX12_wordOf 86 = .ok (.getfield 157, 3) := by decide +kernel
theorem dX12_wordOf_89 : decode cX12_wordOf 89 = .ok (.iconst 2, 1) := by decide +kernel
theorem dX12_wordOf_90 : decode cX12_wordOf 90 = .ok (.if_icmp .ne 8, 3) := by decide +kernel
theorem dX12_wordOf_93 : decode cX12_wordOf 93 = .ok (.bipush 10, 2) := by decide +kernel
theorem dX12_wordOf_95 : decode cX12_wordOf 95 = .ok (.goto 4, 3) := by decide +kernel
theorem dX12_wordOf_98 : decode cX12_wordOf 98 = .ok (.iconst (-1), 1) := by decide +kernel
theorem dX12_wordOf_99 : decode cX12_wordOf 99 = .ok (.ireturn, 1) := by decide +kernel
set_option maxHeartbeats 4000000 in
set_option maxRecDepth 100000 in
theorem gX12_within_00c7897 (l : Launch) (D : va_G) (cy : Nat → ClassId) (j0 : Int64) (j1 : Int64) (j2 : Int64) (hj0 : (-9223372036854775808) ≤ (j0).toInt ∧ (j0).toInt ≤ 9223372036854775807) (hj1 : (-2147483648) ≤ (j1).toInt ∧ (j1).toInt ≤ 2147483647) (hj2 : (-2147483648) ≤ (j2).toInt ∧ (j2).toInt ≤ 2147483647) (sz : Nat) : MI l yX12_within cX12_within 6 .boolean { frames := 0, cells := 0, slots := 0, locals := 0 } [.long j0, .long j1, .long j2] D cy [] sz (fun r u => (0 ≤ r.toInt ∧ r.toInt ≤ 1) ∧ (((r : Int32).toInt = 1 ∧ (j1 : Int64).toInt ≤ (j0 : Int64).toInt ∧ (j0 : Int64).toInt ≤ (j2 : Int64).toInt) ∨ ((r : Int32).toInt = 0 ∧ ((j0 : Int64).toInt < (j1 : Int64).toInt ∨ (j2 : Int64).toInt < (j0 : Int64).toInt))) ∧ True) (fun u => []) 0 0 := by
  refine q_ent (own := RX12) (by decide) rfl (Nat.le_of_ble_eq_true rfl) (fun p e s m below meth c ls X hr hlk hnm hK hT h hA hl => ?_)
  obtain ⟨hx, hb, hml, hown, ht⟩ := id X
  replace hl : lv_has ls 6 [(0, .long j0), (2, .long j1), (4, .long j2)] := hl
  refine lv_lload_n hx hb dX12_within_0 rfl (lv_at hl 0 rfl) ?_
  refine lv_lload_n hx hb dX12_within_1 rfl (lv_at hl 1 rfl) ?_
  refine W.lcmp hx hb dX12_within_2 ?_
  refine lv_if_lt (tgt := 17) hx hb dX12_within_3 (by decide) (fun c_1 => ?_) (fun c_1 => ?_)
  · replace c_1 := j_lt (x := j0) (y := j1) rfl rfl c_1
    refine lv_iconst (v := 0) hx hb dX12_within_17 (by decide) ?_
    exact q_iret X hr hlk hK h rfl (fun _ => 0, fun _ _ => 0, fun _ _ => 0) ⟨⟨by decide +kernel, by decide +kernel⟩, (show ((0 : Int32).toInt = 1 ∧ (j1 : Int64).toInt ≤ (j0 : Int64).toInt ∧ (j0 : Int64).toInt ≤ (j2 : Int64).toInt) ∨ ((0 : Int32).toInt = 0 ∧ ((j0 : Int64).toInt < (j1 : Int64).toInt ∨ (j2 : Int64).toInt < (j0 : Int64).toInt)) from by have q0 : (0 : Int32).toInt = 0 := (by decide); omega), trivial⟩ [] rfl rfl dX12_within_18 (Nat.le_of_ble_eq_true rfl) (Nat.le_of_ble_eq_true rfl)
  · replace c_1 := j_nlt (x := j0) (y := j1) rfl rfl c_1
    refine lv_lload_n hx hb dX12_within_6 rfl (lv_at hl 0 rfl) ?_
    refine lv_lload hx hb dX12_within_7 (lv_at hl 2 rfl) ?_
    refine W.lcmp hx hb dX12_within_9 ?_
    refine lv_if_gt (tgt := 17) hx hb dX12_within_10 (by decide) (fun c_2 => ?_) (fun c_2 => ?_)
    · replace c_2 := j_gt (x := j0) (y := j2) rfl rfl c_2
      refine lv_iconst (v := 0) hx hb dX12_within_17 (by decide) ?_
      exact q_iret X hr hlk hK h rfl (fun _ => 0, fun _ _ => 0, fun _ _ => 0) ⟨⟨by decide +kernel, by decide +kernel⟩, (show ((0 : Int32).toInt = 1 ∧ (j1 : Int64).toInt ≤ (j0 : Int64).toInt ∧ (j0 : Int64).toInt ≤ (j2 : Int64).toInt) ∨ ((0 : Int32).toInt = 0 ∧ ((j0 : Int64).toInt < (j1 : Int64).toInt ∨ (j2 : Int64).toInt < (j0 : Int64).toInt)) from by have q0 : (0 : Int32).toInt = 0 := (by decide); omega), trivial⟩ [] rfl rfl dX12_within_18 (Nat.le_of_ble_eq_true rfl) (Nat.le_of_ble_eq_true rfl)
    · replace c_2 := j_ngt (x := j0) (y := j2) rfl rfl c_2
      refine lv_iconst (v := 1) hx hb dX12_within_13 (by decide) ?_
      refine lv_goto (tgt := 18) hx hb dX12_within_14 (by decide) ?_
      exact q_iret X hr hlk hK h rfl (fun _ => 0, fun _ _ => 0, fun _ _ => 0) ⟨⟨by decide +kernel, by decide +kernel⟩, (show ((1 : Int32).toInt = 1 ∧ (j1 : Int64).toInt ≤ (j0 : Int64).toInt ∧ (j0 : Int64).toInt ≤ (j2 : Int64).toInt) ∨ ((1 : Int32).toInt = 0 ∧ ((j0 : Int64).toInt < (j1 : Int64).toInt ∨ (j2 : Int64).toInt < (j0 : Int64).toInt)) from by have q0 : (1 : Int32).toInt = 1 := (by decide); omega), trivial⟩ [] rfl rfl dX12_within_18 (Nat.le_of_ble_eq_true rfl) (Nat.le_of_ble_eq_true rfl)
set_option maxHeartbeats 4000000 in
set_option maxRecDepth 100000 in
theorem gX12_plain_0c5a33d (l : Launch) (D : va_G) (cy : Nat → ClassId) (h0 : Nat) (f0 : Nat → Int32) (p0 : Int32) (p1 : Int32) (p2 : Int32) (p3 : Int32) (hp0 : 0 ≤ (p0).toInt ∧ (p0).toInt ≤ 1000) (hp1 : (-2147483648) ≤ (p1).toInt ∧ (p1).toInt ≤ 2147483647) (hp2 : 0 ≤ (p2).toInt ∧ (p2).toInt ≤ 10) (hp3 : 0 ≤ (p3).toInt ∧ (p3).toInt ≤ 900) (htf0_0 : f0 0 = p0) (htf0_1 : f0 1 = p1) (htf0_2 : f0 2 = p2) (htf0_405 : f0 405 = p3) (sz : Nat) : MV l yX12_plain cX12_plain 2 { frames := 0, cells := 0, slots := 0, locals := 0 } [.ref h0] D cy [(h0, .inl (cy 1, 1306, .inl f0))] sz (fun u => (0 ≤ (u.2.1 1 0).toInt ∧ (u.2.1 1 0).toInt ≤ 0) ∧ (1 ≤ (u.2.1 2 0).toInt ∧ (u.2.1 2 0).toInt ≤ 1) ∧ (0 ≤ (u.2.1 3 0).toInt ∧ (u.2.1 3 0).toInt ≤ 0) ∧ (0 ≤ (u.2.1 4 0).toInt ∧ (u.2.1 4 0).toInt ≤ 0) ∧ (u.2.1 0) 0 = (u.2.1 1 0) ∧ (u.2.1 0) 1 = (u.2.1 2 0) ∧ (u.2.1 0) 2 = (u.2.1 3 0) ∧ (u.2.1 0) 405 = (u.2.1 4 0) ∧ (HZ (u.2.1 0)) ∧ True) (fun u => [(h0, .inl (cy 1, 1306, .inl (u.2.1 0)))]) 0 0 := by
  refine q_ent (own := RX12) (by decide) rfl (Nat.le_of_ble_eq_true rfl) (fun p e s m below meth c ls X hr hlk hnm hK hT h hA hl => ?_)
  obtain ⟨hx, hb, hml, hown, ht⟩ := id X
  replace hl : lv_has ls 2 [(0, .ref h0)] := hl
  refine lv_iconst (v := 0) hx hb dX12_plain_0 (by decide) ?_
  refine lv_istore_n (lv' := [(1, .int 0), (0, .ref h0)]) hx hb dX12_plain_1 rfl hl (by decide) rfl (fun ls_1 hl_1 => ?_)
  clear hl
  refine q_wl (fun (v2_2_0 : Int32) H locs ls => ∃ v2_2_1 : Nat → Int32, (0 ≤ (v2_2_0).toInt ∧ (v2_2_0).toInt ≤ 1306) ∧ (ZI v2_2_1 (v2_2_0 : Int32).toInt) ∧ qW D (va_A [(h0, .inl (cy 1, 1306, .inl f0))] sz) s.heap [(h0, .inl (cy 1, 1306, .inl v2_2_1))] H locs ∧ lv_has ls 2 [(0, .ref h0), (1, .int v2_2_0)]) (fun (v2_2_0 : Int32) => (1307 - (v2_2_0).toInt).toNat) (fun q_2 ih_2 H locs ls hP => ?_) 0 ⟨f0, ⟨by decide +kernel, by decide +kernel⟩, (zi_0 (by have q0 : (0 : Int32).toInt = 0 := (by decide); omega)), h, (lv_sub hl_1 [1, 0] rfl)⟩
  obtain ⟨v2_2_0, rfl⟩ : ∃ z, z = q_2 := ⟨_, rfl⟩
  obtain ⟨v2_2_1, hv2_2_0, x3_0, h, hl⟩ := hP
  refine lv_iload_n hx hb dX12_plain_2 rfl (lv_at hl 1 rfl) ?_
  refine lv_sipush (v := 1306) hx hb dX12_plain_3 (by decide) ?_
  refine lv_icmp_ge (tgt := 19) hx hb dX12_plain_6 (by decide) (fun c_4 => ?_) (fun c_4 => ?_)
  · replace c_4 := i_le (x := 1306) (y := v2_2_0) (show (1306 : Int32).toInt = 1306 by decide) rfl c_4
    obtain ⟨z_5, ez_5, hz_5⟩ := zi_at x3_0 0 (by omega)
    obtain ⟨z_6, ez_6, hz_6⟩ := zi_at x3_0 1 (by omega)
    obtain ⟨z_7, ez_7, hz_7⟩ := zi_at x3_0 2 (by omega)
    obtain ⟨z_8, ez_8, hz_8⟩ := zi_at x3_0 405 (by omega)
    refine lv_aload_n hx hb dX12_plain_19 rfl (lv_at hl 0 rfl) ?_
    refine lv_iconst (v := 1) hx hb dX12_plain_20 (by decide) ?_
    refine lv_iconst (v := 1) hx hb dX12_plain_21 (by decide) ?_
    refine q_iast X hK h 0 rfl (q_in (by decide +kernel)) dX12_plain_22 (fun H locs h_10 => ?_)
    clear h
    replace h_10 : qW D _ _ [(h0, .inl (cy 1, 1306, .inl (upd v2_2_1 (Int32.toNatClampNeg 1) 1)))] _ _ := h_10
    obtain ⟨F_9, eF_9⟩ : ∃ z, (upd v2_2_1 (Int32.toNatClampNeg 1) 1) = z := ⟨_, rfl⟩
    have trF_9_0 := (tr_ne eF_9 ez_5 (show (1 : Int32).toInt = 1 by decide) (by omega))
    have trF_9_1 := (tr_eq eF_9 (k := 1) (x := 1) (by decide))
    have trF_9_2 := (tr_ne eF_9 ez_7 (show (1 : Int32).toInt = 1 by decide) (by omega))
    have trF_9_405 := (tr_ne eF_9 ez_8 (show (1 : Int32).toInt = 1 by decide) (by omega))
    rw [eF_9] at h_10
    exact q_vret X hr hlk hK h_10 (fun _ => 0, (vcons F_9 (vcons (fun _ => z_5) (vcons (fun _ => 1) (vcons (fun _ => z_7) (vcons (fun _ => z_8) (fun _ => (fun _ => 0))))))), fun _ _ => 0) ⟨(⟨by omega, by omega⟩ : 0 ≤ (z_5 : Int32).toInt ∧ (z_5 : Int32).toInt ≤ 0), (⟨by decide +kernel, by decide +kernel⟩ : 1 ≤ (1 : Int32).toInt ∧ (1 : Int32).toInt ≤ 1), (⟨by omega, by omega⟩ : 0 ≤ (z_7 : Int32).toInt ∧ (z_7 : Int32).toInt ≤ 0), (⟨by omega, by omega⟩ : 0 ≤ (z_8 : Int32).toInt ∧ (z_8 : Int32).toInt ≤ 0), trF_9_0, trF_9_1, trF_9_2, trF_9_405, (show HZ F_9 from (hz_mk x3_0 (by (first | assumption | omega)) eF_9 (by decide))), trivial⟩ [0] rfl rfl dX12_plain_23 (Nat.le_of_ble_eq_true rfl) (Nat.le_of_ble_eq_true rfl)
  · replace c_4 := i_nle (x := 1306) (y := v2_2_0) (show (1306 : Int32).toInt = 1306 by decide) rfl c_4
    refine lv_aload_n hx hb dX12_plain_9 rfl (lv_at hl 0 rfl) ?_
    refine lv_iload_n hx hb dX12_plain_10 rfl (lv_at hl 1 rfl) ?_
    refine lv_iconst (v := 0) hx hb dX12_plain_11 (by decide) ?_
    refine q_iast X hK h 0 rfl (i_in rfl (by omega) (by omega)) dX12_plain_12 (fun H locs h_12 => ?_)
    clear h
    replace h_12 : qW D _ _ [(h0, .inl (cy 1, 1306, .inl (upd v2_2_1 (Int32.toNatClampNeg v2_2_0) 0)))] _ _ := h_12
    obtain ⟨F_11, eF_11⟩ : ∃ z, (upd v2_2_1 (Int32.toNatClampNeg v2_2_0) 0) = z := ⟨_, rfl⟩
    rw [eF_11] at h_12
    have zs_13 := zi_s x3_0 (by omega) eF_11
    obtain ⟨z_14, ez_14, hz_14⟩ := e_add (x := v2_2_0) (y := Int32.ofInt 1) rfl (b := 1) (by decide) (by omega) (by omega)
    refine lv_iinc (v := z_14) (lv' := [(1, .int z_14), (0, .ref h0)]) hx hb dX12_plain_13 hl (k := 1) rfl ez_14 (by decide) rfl (fun ls_14 hl_14 => ?_)
    clear hl
    refine lv_goto (tgt := 2) hx hb dX12_plain_16 (by decide) ?_
    exact ih_2 z_14 (by show (1307 - (z_14).toInt).toNat < (1307 - (v2_2_0).toInt).toNat; omega) _ _ _ ⟨F_11, ⟨by omega, by omega⟩, (zi_le zs_13 (by (first | assumption | omega))), h_12, (lv_sub hl_14 [1, 0] rfl)⟩
set_option maxHeartbeats 4000000 in
set_option maxRecDepth 100000 in
theorem gX12_see_c803b73 (l : Launch) (D : va_G) (cy : Nat → ClassId) (h0 : Nat) (h1 : Nat) (p0 : Int32) (p1 : Int32) (w0 : Value) (w1 : Value) (w2 : Value) (p2 : Int32) (p3 : Int32) (p4 : Int32) (p5 : Int32) (p6 : Int32) (p7 : Int32) (p8 : Int32) (p9 : Int32) (p10 : Int32) (w3 : Value) (w4 : Value) (w5 : Value) (w6 : Value) (w7 : Value) (p11 : Int32) (p12 : Int32) (w8 : Value) (w9 : Value) (w10 : Value) (p13 : Int32) (p14 : Int32) (w11 : Value) (w12 : Value) (w13 : Value) (w14 : Value) (w15 : Value) (p15 : Int32) (w16 : Value) (w17 : Value) (w18 : Value) (f0 : Nat → Int32) (hp0 : 0 ≤ (p0).toInt ∧ (p0).toInt ≤ 900) (hp1 : 0 ≤ (p1).toInt ∧ (p1).toInt ≤ 0) (hp2 : 0 ≤ (p2).toInt ∧ (p2).toInt ≤ 900) (hp3 : 0 ≤ (p3).toInt ∧ (p3).toInt ≤ 900) (hp4 : (-2147483648) ≤ (p4).toInt ∧ (p4).toInt ≤ 2147483647) (hp5 : 0 ≤ (p5).toInt ∧ (p5).toInt ≤ 999) (hp6 : (-2147483648) ≤ (p6).toInt ∧ (p6).toInt ≤ 2147483647) (hp7 : (-2147483648) ≤ (p7).toInt ∧ (p7).toInt ≤ 2147483647) (hp8 : (-2147483648) ≤ (p8).toInt ∧ (p8).toInt ≤ 2147483647) (hp9 : (-2147483648) ≤ (p9).toInt ∧ (p9).toInt ≤ 2147483647) (hp10 : (-2147483648) ≤ (p10).toInt ∧ (p10).toInt ≤ 2147483647) (hp11 : (-2147483648) ≤ (p11).toInt ∧ (p11).toInt ≤ 2147483647) (hp12 : (-2147483648) ≤ (p12).toInt ∧ (p12).toInt ≤ 2147483647) (hp13 : (-2147483648) ≤ (p13).toInt ∧ (p13).toInt ≤ 2147483647) (hp14 : (-2147483648) ≤ (p14).toInt ∧ (p14).toInt ≤ 2147483647) (hp15 : (-2147483648) ≤ (p15).toInt ∧ (p15).toInt ≤ 2147483647) (sz : Nat) : MI l yX12_see cX12_see 2 .int { frames := 0, cells := 0, slots := 0, locals := 0 } [.ref h0, .int p0] D cy (wk_253faa1b8 cy h0 p1 w0 w1 h1 w2 p2 p0 p0 p3 p4 p5 p6 p7 p8 p9 p10 w3 w4 w5 w6 w7 p11 p12 w8 w9 w10 p13 p14 w11 w12 w13 w14 w15 p15 w16 w17 w18 h1 f0) sz (fun r u => ((-2147483648) ≤ r.toInt ∧ r.toInt ≤ 2147483647) ∧ (((p0 : Int32).toInt < (p3 : Int32).toInt ∧ (r : Int32).toInt = (f0 (p0 : Int32).toNatClampNeg).toInt) ∨ ((p3 : Int32).toInt ≤ (p0 : Int32).toInt ∧ (r : Int32).toInt = -1)) ∧ True) (fun u => (wk_253faa1b8 cy h0 p1 w0 w1 h1 w2 p2 p0 p0 p3 p4 p5 p6 p7 p8 p9 p10 w3 w4 w5 w6 w7 p11 p12 w8 w9 w10 p13 p14 w11 w12 w13 w14 w15 p15 w16 w17 w18 h1 f0)) 0 0 := by
  refine q_ent (own := RX12) (by decide) rfl (Nat.le_of_ble_eq_true rfl) (fun p e s m below meth c ls X hr hlk hnm hK hT h hA hl => ?_)
  obtain ⟨hx, hb, hml, hown, ht⟩ := id X
  replace hl : lv_has ls 2 [(0, .ref h0), (1, .int p0)] := hl
  refine lv_iload_n hx hb dX12_see_0 rfl (lv_at hl 1 rfl) ?_
  refine lv_aload_n hx hb dX12_see_1 rfl (lv_at hl 0 rfl) ?_
  refine q_get X hK h 0 rfl rfl wf_12 8 (by decide) rfl wm_5_178 dX12_see_2 ?_
  refine lv_icmp_ge (tgt := 17) hx hb dX12_see_5 (by decide) (fun c_1 => ?_) (fun c_1 => ?_)
  · replace c_1 := i_le (x := p3) (y := p0) rfl rfl c_1
    refine lv_iconst (v := (-1)) hx hb dX12_see_17 (by decide) ?_
    exact q_iret X hr hlk hK h rfl (fun _ => 0, fun _ _ => 0, fun _ _ => 0) ⟨⟨by decide +kernel, by decide +kernel⟩, (show ((p0 : Int32).toInt < (p3 : Int32).toInt ∧ ((-1) : Int32).toInt = (f0 (p0 : Int32).toNatClampNeg).toInt) ∨ ((p3 : Int32).toInt ≤ (p0 : Int32).toInt ∧ ((-1) : Int32).toInt = -1) from by have q0 : ((-1) : Int32).toInt = -1 := (by decide); omega), trivial⟩ [0, 1] rfl rfl dX12_see_18 (Nat.le_of_ble_eq_true rfl) (Nat.le_of_ble_eq_true rfl)
  · replace c_1 := i_nle (x := p3) (y := p0) rfl rfl c_1
    refine lv_aload_n hx hb dX12_see_8 rfl (lv_at hl 0 rfl) ?_
    refine q_get X hK h 0 rfl rfl wf_12 3 (by decide) rfl wm_5_173 dX12_see_9 ?_
    refine lv_iload_n hx hb dX12_see_12 rfl (lv_at hl 1 rfl) ?_
    refine q_iald X hK h 1 rfl (i_in rfl (by omega) (by omega)) dX12_see_13 ?_
    obtain ⟨z_2, ez_2, hz_2⟩ := e_any (f0 p0.toNatClampNeg)
    refine q_c z_2 ez_2 ?_
    have ei_2 := congrArg Int32.toInt ez_2
    refine lv_goto (tgt := 18) hx hb dX12_see_14 (by decide) ?_
    exact q_iret X hr hlk hK h rfl (fun _ => 0, fun _ _ => 0, fun _ _ => 0) ⟨⟨by omega, by omega⟩, (show ((p0 : Int32).toInt < (p3 : Int32).toInt ∧ (z_2 : Int32).toInt = (f0 (p0 : Int32).toNatClampNeg).toInt) ∨ ((p3 : Int32).toInt ≤ (p0 : Int32).toInt ∧ (z_2 : Int32).toInt = -1) from by omega), trivial⟩ [0, 1] rfl rfl dX12_see_18 (Nat.le_of_ble_eq_true rfl) (Nat.le_of_ble_eq_true rfl)
set_option maxHeartbeats 4000000 in
set_option maxRecDepth 100000 in
theorem gX12_see_ef51ce6 (l : Launch) (D : va_G) (cy : Nat → ClassId) (h0 : Nat) (h1 : Nat) (p0 : Int32) (p1 : Int32) (w0 : Value) (w1 : Value) (w2 : Value) (p2 : Int32) (p3 : Int32) (p4 : Int32) (p5 : Int32) (p6 : Int32) (p7 : Int32) (p8 : Int32) (p9 : Int32) (p10 : Int32) (p11 : Int32) (w3 : Value) (w4 : Value) (w5 : Value) (w6 : Value) (w7 : Value) (p12 : Int32) (p13 : Int32) (w8 : Value) (w9 : Value) (w10 : Value) (p14 : Int32) (p15 : Int32) (w11 : Value) (w12 : Value) (w13 : Value) (w14 : Value) (w15 : Value) (p16 : Int32) (w16 : Value) (w17 : Value) (w18 : Value) (f0 : Nat → Int32) (hp0 : 0 ≤ (p0).toInt ∧ (p0).toInt ≤ 900) (hp1 : 0 ≤ (p1).toInt ∧ (p1).toInt ≤ 0) (hp2 : 0 ≤ (p2).toInt ∧ (p2).toInt ≤ 900) (hp3 : 0 ≤ (p3).toInt ∧ (p3).toInt ≤ 900) (hp4 : 0 ≤ (p4).toInt ∧ (p4).toInt ≤ 900) (hp5 : (-2147483648) ≤ (p5).toInt ∧ (p5).toInt ≤ 2147483647) (hp6 : 0 ≤ (p6).toInt ∧ (p6).toInt ≤ 999) (hp7 : (-2147483648) ≤ (p7).toInt ∧ (p7).toInt ≤ 2147483647) (hp8 : (-2147483648) ≤ (p8).toInt ∧ (p8).toInt ≤ 2147483647) (hp9 : (-2147483648) ≤ (p9).toInt ∧ (p9).toInt ≤ 2147483647) (hp10 : (-2147483648) ≤ (p10).toInt ∧ (p10).toInt ≤ 2147483647) (hp11 : (-2147483648) ≤ (p11).toInt ∧ (p11).toInt ≤ 2147483647) (hp12 : (-2147483648) ≤ (p12).toInt ∧ (p12).toInt ≤ 2147483647) (hp13 : (-2147483648) ≤ (p13).toInt ∧ (p13).toInt ≤ 2147483647) (hp14 : (-2147483648) ≤ (p14).toInt ∧ (p14).toInt ≤ 2147483647) (hp15 : (-2147483648) ≤ (p15).toInt ∧ (p15).toInt ≤ 2147483647) (hp16 : (-2147483648) ≤ (p16).toInt ∧ (p16).toInt ≤ 2147483647) (sz : Nat) : MI l yX12_see cX12_see 2 .int { frames := 0, cells := 0, slots := 0, locals := 0 } [.ref h0, .int p0] D cy (wk_253faa1b8 cy h0 p1 w0 w1 h1 w2 p2 p0 p3 p4 p5 p6 p7 p8 p9 p10 p11 w3 w4 w5 w6 w7 p12 p13 w8 w9 w10 p14 p15 w11 w12 w13 w14 w15 p16 w16 w17 w18 h1 f0) sz (fun r u => ((-2147483648) ≤ r.toInt ∧ r.toInt ≤ 2147483647) ∧ (((p0 : Int32).toInt < (p4 : Int32).toInt ∧ (r : Int32).toInt = (f0 (p0 : Int32).toNatClampNeg).toInt) ∨ ((p4 : Int32).toInt ≤ (p0 : Int32).toInt ∧ (r : Int32).toInt = -1)) ∧ True) (fun u => (wk_253faa1b8 cy h0 p1 w0 w1 h1 w2 p2 p0 p3 p4 p5 p6 p7 p8 p9 p10 p11 w3 w4 w5 w6 w7 p12 p13 w8 w9 w10 p14 p15 w11 w12 w13 w14 w15 p16 w16 w17 w18 h1 f0)) 0 0 := by
  refine q_ent (own := RX12) (by decide) rfl (Nat.le_of_ble_eq_true rfl) (fun p e s m below meth c ls X hr hlk hnm hK hT h hA hl => ?_)
  obtain ⟨hx, hb, hml, hown, ht⟩ := id X
  replace hl : lv_has ls 2 [(0, .ref h0), (1, .int p0)] := hl
  refine lv_iload_n hx hb dX12_see_0 rfl (lv_at hl 1 rfl) ?_
  refine lv_aload_n hx hb dX12_see_1 rfl (lv_at hl 0 rfl) ?_
  refine q_get X hK h 0 rfl rfl wf_12 8 (by decide) rfl wm_5_178 dX12_see_2 ?_
  refine lv_icmp_ge (tgt := 17) hx hb dX12_see_5 (by decide) (fun c_1 => ?_) (fun c_1 => ?_)
  · replace c_1 := i_le (x := p4) (y := p0) rfl rfl c_1
    refine lv_iconst (v := (-1)) hx hb dX12_see_17 (by decide) ?_
    exact q_iret X hr hlk hK h rfl (fun _ => 0, fun _ _ => 0, fun _ _ => 0) ⟨⟨by decide +kernel, by decide +kernel⟩, (show ((p0 : Int32).toInt < (p4 : Int32).toInt ∧ ((-1) : Int32).toInt = (f0 (p0 : Int32).toNatClampNeg).toInt) ∨ ((p4 : Int32).toInt ≤ (p0 : Int32).toInt ∧ ((-1) : Int32).toInt = -1) from by have q0 : ((-1) : Int32).toInt = -1 := (by decide); omega), trivial⟩ [0, 1] rfl rfl dX12_see_18 (Nat.le_of_ble_eq_true rfl) (Nat.le_of_ble_eq_true rfl)
  · replace c_1 := i_nle (x := p4) (y := p0) rfl rfl c_1
    refine lv_aload_n hx hb dX12_see_8 rfl (lv_at hl 0 rfl) ?_
    refine q_get X hK h 0 rfl rfl wf_12 3 (by decide) rfl wm_5_173 dX12_see_9 ?_
    refine lv_iload_n hx hb dX12_see_12 rfl (lv_at hl 1 rfl) ?_
    refine q_iald X hK h 1 rfl (i_in rfl (by omega) (by omega)) dX12_see_13 ?_
    obtain ⟨z_2, ez_2, hz_2⟩ := e_any (f0 p0.toNatClampNeg)
    refine q_c z_2 ez_2 ?_
    have ei_2 := congrArg Int32.toInt ez_2
    refine lv_goto (tgt := 18) hx hb dX12_see_14 (by decide) ?_
    exact q_iret X hr hlk hK h rfl (fun _ => 0, fun _ _ => 0, fun _ _ => 0) ⟨⟨by omega, by omega⟩, (show ((p0 : Int32).toInt < (p4 : Int32).toInt ∧ (z_2 : Int32).toInt = (f0 (p0 : Int32).toNatClampNeg).toInt) ∨ ((p4 : Int32).toInt ≤ (p0 : Int32).toInt ∧ (z_2 : Int32).toInt = -1) from by omega), trivial⟩ [0, 1] rfl rfl dX12_see_18 (Nat.le_of_ble_eq_true rfl) (Nat.le_of_ble_eq_true rfl)
set_option maxHeartbeats 4000000 in
set_option maxRecDepth 100000 in
theorem gX12_isSmall_57f175a (l : Launch) (D : va_G) (cy : Nat → ClassId) (p0 : Int32) (hp0 : (-2147483648) ≤ (p0).toInt ∧ (p0).toInt ≤ 2147483647) (sz : Nat) : MI l yX12_isSmall cX12_isSmall 1 .boolean { frames := 0, cells := 0, slots := 0, locals := 0 } [.int p0] D cy [] sz (fun r u => (0 ≤ r.toInt ∧ r.toInt ≤ 1) ∧ (((r : Int32).toInt = 1 ∧ 97 ≤ (p0 : Int32).toInt ∧ (p0 : Int32).toInt ≤ 122) ∨ ((r : Int32).toInt = 0 ∧ ((p0 : Int32).toInt < 97 ∨ 122 < (p0 : Int32).toInt))) ∧ True) (fun u => []) 0 0 := by
  refine q_ent (own := RX12) (by decide) rfl (Nat.le_of_ble_eq_true rfl) (fun p e s m below meth c ls X hr hlk hnm hK hT h hA hl => ?_)
  obtain ⟨hx, hb, hml, hown, ht⟩ := id X
  replace hl : lv_has ls 1 [(0, .int p0)] := hl
  refine lv_iload_n hx hb dX12_isSmall_0 rfl (lv_at hl 0 rfl) ?_
  refine lv_bipush (v := 97) hx hb dX12_isSmall_1 (by decide) ?_
  refine lv_icmp_lt (tgt := 16) hx hb dX12_isSmall_3 (by decide) (fun c_1 => ?_) (fun c_1 => ?_)
  · replace c_1 := i_lt (x := p0) (y := 97) rfl (show (97 : Int32).toInt = 97 by decide) c_1
    refine lv_iconst (v := 0) hx hb dX12_isSmall_16 (by decide) ?_
    exact q_iret X hr hlk hK h rfl (fun _ => 0, fun _ _ => 0, fun _ _ => 0) ⟨⟨by decide +kernel, by decide +kernel⟩, (show ((0 : Int32).toInt = 1 ∧ 97 ≤ (p0 : Int32).toInt ∧ (p0 : Int32).toInt ≤ 122) ∨ ((0 : Int32).toInt = 0 ∧ ((p0 : Int32).toInt < 97 ∨ 122 < (p0 : Int32).toInt)) from by have q0 : (0 : Int32).toInt = 0 := (by decide); omega), trivial⟩ [] rfl rfl dX12_isSmall_17 (Nat.le_of_ble_eq_true rfl) (Nat.le_of_ble_eq_true rfl)
  · replace c_1 := i_nlt (x := p0) (y := 97) rfl (show (97 : Int32).toInt = 97 by decide) c_1
    refine lv_iload_n hx hb dX12_isSmall_6 rfl (lv_at hl 0 rfl) ?_
    refine lv_bipush (v := 122) hx hb dX12_isSmall_7 (by decide) ?_
    refine lv_icmp_gt (tgt := 16) hx hb dX12_isSmall_9 (by decide) (fun c_2 => ?_) (fun c_2 => ?_)
    · replace c_2 := i_lt (x := 122) (y := p0) (show (122 : Int32).toInt = 122 by decide) rfl c_2
      refine lv_iconst (v := 0) hx hb dX12_isSmall_16 (by decide) ?_
      exact q_iret X hr hlk hK h rfl (fun _ => 0, fun _ _ => 0, fun _ _ => 0) ⟨⟨by decide +kernel, by decide +kernel⟩, (show ((0 : Int32).toInt = 1 ∧ 97 ≤ (p0 : Int32).toInt ∧ (p0 : Int32).toInt ≤ 122) ∨ ((0 : Int32).toInt = 0 ∧ ((p0 : Int32).toInt < 97 ∨ 122 < (p0 : Int32).toInt)) from by have q0 : (0 : Int32).toInt = 0 := (by decide); omega), trivial⟩ [] rfl rfl dX12_isSmall_17 (Nat.le_of_ble_eq_true rfl) (Nat.le_of_ble_eq_true rfl)
    · replace c_2 := i_nlt (x := 122) (y := p0) (show (122 : Int32).toInt = 122 by decide) rfl c_2
      refine lv_iconst (v := 1) hx hb dX12_isSmall_12 (by decide) ?_
      refine lv_goto (tgt := 17) hx hb dX12_isSmall_13 (by decide) ?_
      exact q_iret X hr hlk hK h rfl (fun _ => 0, fun _ _ => 0, fun _ _ => 0) ⟨⟨by decide +kernel, by decide +kernel⟩, (show ((1 : Int32).toInt = 1 ∧ 97 ≤ (p0 : Int32).toInt ∧ (p0 : Int32).toInt ≤ 122) ∨ ((1 : Int32).toInt = 0 ∧ ((p0 : Int32).toInt < 97 ∨ 122 < (p0 : Int32).toInt)) from by have q0 : (1 : Int32).toInt = 1 := (by decide); omega), trivial⟩ [] rfl rfl dX12_isSmall_17 (Nat.le_of_ble_eq_true rfl) (Nat.le_of_ble_eq_true rfl)
set_option maxHeartbeats 4000000 in
set_option maxRecDepth 100000 in
theorem gX12_isDigit_703c4e6 (l : Launch) (D : va_G) (cy : Nat → ClassId) (p0 : Int32) (hp0 : (-2147483648) ≤ (p0).toInt ∧ (p0).toInt ≤ 2147483647) (sz : Nat) : MI l yX12_isDigit cX12_isDigit 1 .boolean { frames := 0, cells := 0, slots := 0, locals := 0 } [.int p0] D cy [] sz (fun r u => (0 ≤ r.toInt ∧ r.toInt ≤ 1) ∧ (((r : Int32).toInt = 1 ∧ 48 ≤ (p0 : Int32).toInt ∧ (p0 : Int32).toInt ≤ 57) ∨ ((r : Int32).toInt = 0 ∧ ((p0 : Int32).toInt < 48 ∨ 57 < (p0 : Int32).toInt))) ∧ True) (fun u => []) 0 0 := by
  refine q_ent (own := RX12) (by decide) rfl (Nat.le_of_ble_eq_true rfl) (fun p e s m below meth c ls X hr hlk hnm hK hT h hA hl => ?_)
  obtain ⟨hx, hb, hml, hown, ht⟩ := id X
  replace hl : lv_has ls 1 [(0, .int p0)] := hl
  refine lv_iload_n hx hb dX12_isDigit_0 rfl (lv_at hl 0 rfl) ?_
  refine lv_bipush (v := 48) hx hb dX12_isDigit_1 (by decide) ?_
  refine lv_icmp_lt (tgt := 16) hx hb dX12_isDigit_3 (by decide) (fun c_1 => ?_) (fun c_1 => ?_)
  · replace c_1 := i_lt (x := p0) (y := 48) rfl (show (48 : Int32).toInt = 48 by decide) c_1
    refine lv_iconst (v := 0) hx hb dX12_isDigit_16 (by decide) ?_
    exact q_iret X hr hlk hK h rfl (fun _ => 0, fun _ _ => 0, fun _ _ => 0) ⟨⟨by decide +kernel, by decide +kernel⟩, (show ((0 : Int32).toInt = 1 ∧ 48 ≤ (p0 : Int32).toInt ∧ (p0 : Int32).toInt ≤ 57) ∨ ((0 : Int32).toInt = 0 ∧ ((p0 : Int32).toInt < 48 ∨ 57 < (p0 : Int32).toInt)) from by have q0 : (0 : Int32).toInt = 0 := (by decide); omega), trivial⟩ [] rfl rfl dX12_isDigit_17 (Nat.le_of_ble_eq_true rfl) (Nat.le_of_ble_eq_true rfl)
  · replace c_1 := i_nlt (x := p0) (y := 48) rfl (show (48 : Int32).toInt = 48 by decide) c_1
    refine lv_iload_n hx hb dX12_isDigit_6 rfl (lv_at hl 0 rfl) ?_
    refine lv_bipush (v := 57) hx hb dX12_isDigit_7 (by decide) ?_
    refine lv_icmp_gt (tgt := 16) hx hb dX12_isDigit_9 (by decide) (fun c_2 => ?_) (fun c_2 => ?_)
    · replace c_2 := i_lt (x := 57) (y := p0) (show (57 : Int32).toInt = 57 by decide) rfl c_2
      refine lv_iconst (v := 0) hx hb dX12_isDigit_16 (by decide) ?_
      exact q_iret X hr hlk hK h rfl (fun _ => 0, fun _ _ => 0, fun _ _ => 0) ⟨⟨by decide +kernel, by decide +kernel⟩, (show ((0 : Int32).toInt = 1 ∧ 48 ≤ (p0 : Int32).toInt ∧ (p0 : Int32).toInt ≤ 57) ∨ ((0 : Int32).toInt = 0 ∧ ((p0 : Int32).toInt < 48 ∨ 57 < (p0 : Int32).toInt)) from by have q0 : (0 : Int32).toInt = 0 := (by decide); omega), trivial⟩ [] rfl rfl dX12_isDigit_17 (Nat.le_of_ble_eq_true rfl) (Nat.le_of_ble_eq_true rfl)
    · replace c_2 := i_nlt (x := 57) (y := p0) (show (57 : Int32).toInt = 57 by decide) rfl c_2
      refine lv_iconst (v := 1) hx hb dX12_isDigit_12 (by decide) ?_
      refine lv_goto (tgt := 17) hx hb dX12_isDigit_13 (by decide) ?_
      exact q_iret X hr hlk hK h rfl (fun _ => 0, fun _ _ => 0, fun _ _ => 0) ⟨⟨by decide +kernel, by decide +kernel⟩, (show ((1 : Int32).toInt = 1 ∧ 48 ≤ (p0 : Int32).toInt ∧ (p0 : Int32).toInt ≤ 57) ∨ ((1 : Int32).toInt = 0 ∧ ((p0 : Int32).toInt < 48 ∨ 57 < (p0 : Int32).toInt)) from by have q0 : (1 : Int32).toInt = 1 := (by decide); omega), trivial⟩ [] rfl rfl dX12_isDigit_17 (Nat.le_of_ble_eq_true rfl) (Nat.le_of_ble_eq_true rfl)
set_option maxHeartbeats 4000000 in
set_option maxRecDepth 100000 in
theorem gX12_see_2ecf617 (l : Launch) (D : va_G) (cy : Nat → ClassId) (h0 : Nat) (h1 : Nat) (p0 : Int32) (p1 : Int32) (w0 : Value) (w1 : Value) (w2 : Value) (p2 : Int32) (p3 : Int32) (p4 : Int32) (p5 : Int32) (p6 : Int32) (p7 : Int32) (p8 : Int32) (p9 : Int32) (p10 : Int32) (p11 : Int32) (w3 : Value) (w4 : Value) (w5 : Value) (w6 : Value) (w7 : Value) (p12 : Int32) (p13 : Int32) (w8 : Value) (w9 : Value) (w10 : Value) (p14 : Int32) (p15 : Int32) (w11 : Value) (w12 : Value) (w13 : Value) (w14 : Value) (w15 : Value) (p16 : Int32) (w16 : Value) (w17 : Value) (w18 : Value) (f0 : Nat → Int32) (hp0 : 0 ≤ (p0).toInt ∧ (p0).toInt ≤ 900) (hp1 : 0 ≤ (p1).toInt ∧ (p1).toInt ≤ 0) (hp2 : 0 ≤ (p2).toInt ∧ (p2).toInt ≤ 900) (hp3 : 0 ≤ (p3).toInt ∧ (p3).toInt ≤ 900) (hp4 : 0 ≤ (p4).toInt ∧ (p4).toInt ≤ 900) (hp5 : (-2147483648) ≤ (p5).toInt ∧ (p5).toInt ≤ 2147483647) (hp6 : 0 ≤ (p6).toInt ∧ (p6).toInt ≤ 999) (hp7 : (-2147483648) ≤ (p7).toInt ∧ (p7).toInt ≤ 2147483647) (hp8 : (-2147483648) ≤ (p8).toInt ∧ (p8).toInt ≤ 2147483647) (hp9 : (-2147483648) ≤ (p9).toInt ∧ (p9).toInt ≤ 2147483647) (hp10 : (-2147483648) ≤ (p10).toInt ∧ (p10).toInt ≤ 2147483647) (hp11 : (-2147483648) ≤ (p11).toInt ∧ (p11).toInt ≤ 2147483647) (hp12 : (-2147483648) ≤ (p12).toInt ∧ (p12).toInt ≤ 2147483647) (hp13 : (-2147483648) ≤ (p13).toInt ∧ (p13).toInt ≤ 2147483647) (hp14 : (-2147483648) ≤ (p14).toInt ∧ (p14).toInt ≤ 2147483647) (hp15 : (-2147483648) ≤ (p15).toInt ∧ (p15).toInt ≤ 2147483647) (hp16 : (-2147483648) ≤ (p16).toInt ∧ (p16).toInt ≤ 2147483647) (sz : Nat) : MI l yX12_see cX12_see 2 .int { frames := 0, cells := 0, slots := 0, locals := 0 } [.ref h0, .int p0] D cy (wk_253faa1b8 cy h0 p1 w0 w1 h1 w2 p2 p3 p0 p4 p5 p6 p7 p8 p9 p10 p11 w3 w4 w5 w6 w7 p12 p13 w8 w9 w10 p14 p15 w11 w12 w13 w14 w15 p16 w16 w17 w18 h1 f0) sz (fun r u => ((-2147483648) ≤ r.toInt ∧ r.toInt ≤ 2147483647) ∧ (((p0 : Int32).toInt < (p4 : Int32).toInt ∧ (r : Int32).toInt = (f0 (p0 : Int32).toNatClampNeg).toInt) ∨ ((p4 : Int32).toInt ≤ (p0 : Int32).toInt ∧ (r : Int32).toInt = -1)) ∧ True) (fun u => (wk_253faa1b8 cy h0 p1 w0 w1 h1 w2 p2 p3 p0 p4 p5 p6 p7 p8 p9 p10 p11 w3 w4 w5 w6 w7 p12 p13 w8 w9 w10 p14 p15 w11 w12 w13 w14 w15 p16 w16 w17 w18 h1 f0)) 0 0 := by
  refine q_ent (own := RX12) (by decide) rfl (Nat.le_of_ble_eq_true rfl) (fun p e s m below meth c ls X hr hlk hnm hK hT h hA hl => ?_)
  obtain ⟨hx, hb, hml, hown, ht⟩ := id X
  replace hl : lv_has ls 2 [(0, .ref h0), (1, .int p0)] := hl
  refine lv_iload_n hx hb dX12_see_0 rfl (lv_at hl 1 rfl) ?_
  refine lv_aload_n hx hb dX12_see_1 rfl (lv_at hl 0 rfl) ?_
  refine q_get X hK h 0 rfl rfl wf_12 8 (by decide) rfl wm_5_178 dX12_see_2 ?_
  refine lv_icmp_ge (tgt := 17) hx hb dX12_see_5 (by decide) (fun c_1 => ?_) (fun c_1 => ?_)
  · replace c_1 := i_le (x := p4) (y := p0) rfl rfl c_1
    refine lv_iconst (v := (-1)) hx hb dX12_see_17 (by decide) ?_
    exact q_iret X hr hlk hK h rfl (fun _ => 0, fun _ _ => 0, fun _ _ => 0) ⟨⟨by decide +kernel, by decide +kernel⟩, (show ((p0 : Int32).toInt < (p4 : Int32).toInt ∧ ((-1) : Int32).toInt = (f0 (p0 : Int32).toNatClampNeg).toInt) ∨ ((p4 : Int32).toInt ≤ (p0 : Int32).toInt ∧ ((-1) : Int32).toInt = -1) from by have q0 : ((-1) : Int32).toInt = -1 := (by decide); omega), trivial⟩ [0, 1] rfl rfl dX12_see_18 (Nat.le_of_ble_eq_true rfl) (Nat.le_of_ble_eq_true rfl)
  · replace c_1 := i_nle (x := p4) (y := p0) rfl rfl c_1
    refine lv_aload_n hx hb dX12_see_8 rfl (lv_at hl 0 rfl) ?_
    refine q_get X hK h 0 rfl rfl wf_12 3 (by decide) rfl wm_5_173 dX12_see_9 ?_
    refine lv_iload_n hx hb dX12_see_12 rfl (lv_at hl 1 rfl) ?_
    refine q_iald X hK h 1 rfl (i_in rfl (by omega) (by omega)) dX12_see_13 ?_
    obtain ⟨z_2, ez_2, hz_2⟩ := e_any (f0 p0.toNatClampNeg)
    refine q_c z_2 ez_2 ?_
    have ei_2 := congrArg Int32.toInt ez_2
    refine lv_goto (tgt := 18) hx hb dX12_see_14 (by decide) ?_
    exact q_iret X hr hlk hK h rfl (fun _ => 0, fun _ _ => 0, fun _ _ => 0) ⟨⟨by omega, by omega⟩, (show ((p0 : Int32).toInt < (p4 : Int32).toInt ∧ (z_2 : Int32).toInt = (f0 (p0 : Int32).toNatClampNeg).toInt) ∨ ((p4 : Int32).toInt ≤ (p0 : Int32).toInt ∧ (z_2 : Int32).toInt = -1) from by omega), trivial⟩ [0, 1] rfl rfl dX12_see_18 (Nat.le_of_ble_eq_true rfl) (Nat.le_of_ble_eq_true rfl)
set_option maxHeartbeats 4000000 in
set_option maxRecDepth 100000 in
theorem gX12_keyAt_a94a6a5 (l : Launch) (D : va_G) (cy : Nat → ClassId) (h0 : Nat) (h1 : Nat) (p0 : Int32) (w0 : Value) (w1 : Value) (w2 : Value) (p1 : Int32) (p2 : Int32) (p3 : Int32) (p4 : Int32) (p5 : Int32) (p6 : Int32) (p7 : Int32) (p8 : Int32) (p9 : Int32) (p10 : Int32) (w3 : Value) (w4 : Value) (w5 : Value) (w6 : Value) (w7 : Value) (p11 : Int32) (p12 : Int32) (w8 : Value) (w9 : Value) (w10 : Value) (p13 : Int32) (p14 : Int32) (w11 : Value) (w12 : Value) (w13 : Value) (w14 : Value) (w15 : Value) (p15 : Int32) (w16 : Value) (w17 : Value) (w18 : Value) (f0 : Nat → Int32) (hp0 : 0 ≤ (p0).toInt ∧ (p0).toInt ≤ 0) (hp1 : 0 ≤ (p1).toInt ∧ (p1).toInt ≤ 900) (hp2 : 0 ≤ (p2).toInt ∧ (p2).toInt ≤ 900) (hp3 : 0 ≤ (p3).toInt ∧ (p3).toInt ≤ 900) (hp4 : (-2147483648) ≤ (p4).toInt ∧ (p4).toInt ≤ 2147483647) (hp5 : 0 ≤ (p5).toInt ∧ (p5).toInt ≤ 999) (hp6 : (-2147483648) ≤ (p6).toInt ∧ (p6).toInt ≤ 2147483647) (hp7 : (-2147483648) ≤ (p7).toInt ∧ (p7).toInt ≤ 2147483647) (hp8 : (-2147483648) ≤ (p8).toInt ∧ (p8).toInt ≤ 2147483647) (hp9 : (-2147483648) ≤ (p9).toInt ∧ (p9).toInt ≤ 2147483647) (hp10 : (-2147483648) ≤ (p10).toInt ∧ (p10).toInt ≤ 2147483647) (hp11 : (-2147483648) ≤ (p11).toInt ∧ (p11).toInt ≤ 2147483647) (hp12 : (-2147483648) ≤ (p12).toInt ∧ (p12).toInt ≤ 2147483647) (hp13 : (-2147483648) ≤ (p13).toInt ∧ (p13).toInt ≤ 2147483647) (hp14 : (-2147483648) ≤ (p14).toInt ∧ (p14).toInt ≤ 2147483647) (hp15 : (-2147483648) ≤ (p15).toInt ∧ (p15).toInt ≤ 2147483647) (hpre0 : 0 ≤ (p2 : Int32).toInt ∧ (p2 : Int32).toInt ≤ (p2 : Int32).toInt ∧ (p2 : Int32).toInt ≤ (p3 : Int32).toInt) (sz : Nat) : MI l yX12_keyAt cX12_keyAt 4 .int { frames := 4, cells := 0, slots := 0, locals := 85 } [.ref h0] D cy (wk_253faa1b8 cy h0 p0 w0 w1 h1 w2 p1 p2 p2 p3 p4 p5 p6 p7 p8 p9 p10 w3 w4 w5 w6 w7 p11 p12 w8 w9 w10 p13 p14 w11 w12 w13 w14 w15 p15 w16 w17 w18 h1 f0) sz (fun r u => (0 ≤ r.toInt ∧ r.toInt ≤ 24) ∧ (KYE f0 (p2 : Int32).toInt (p2 : Int32).toInt (r : Int32).toInt) ∧ True) (fun u => (wk_253faa1b8 cy h0 p0 w0 w1 h1 w2 p1 p2 p2 p3 p4 p5 p6 p7 p8 p9 p10 w3 w4 w5 w6 w7 p11 p12 w8 w9 w10 p13 p14 w11 w12 w13 w14 w15 p15 w16 w17 w18 h1 f0)) 0 0 := by
  refine q_ent (own := RX12) (by decide) rfl (Nat.le_of_ble_eq_true rfl) (fun p e s m below meth c ls X hr hlk hnm hK hT h hA hl => ?_)
  obtain ⟨hx, hb, hml, hown, ht⟩ := id X
  replace hl : lv_has ls 4 [(0, .ref h0)] := hl
  refine lv_iconst (v := 0) hx hb dX12_keyAt_0 (by decide) ?_
  refine lv_istore_n (lv' := [(1, .int 0), (0, .ref h0)]) hx hb dX12_keyAt_1 rfl hl (by decide) rfl (fun ls_1 hl_1 => ?_)
  clear hl
  refine lv_iconst (v := 1) hx hb dX12_keyAt_2 (by decide) ?_
  refine lv_istore_n (lv' := [(2, .int 1), (1, .int 0), (0, .ref h0)]) hx hb dX12_keyAt_3 rfl hl_1 (by decide) rfl (fun ls_2 hl_2 => ?_)
  clear hl_1
  refine q_wl (fun (q : Int32 × Int32) H locs ls => match q with | (v4_3_0, v4_3_1) => (0 ≤ (v4_3_0).toInt ∧ (v4_3_0).toInt ≤ 24) ∧ (1 ≤ (v4_3_1).toInt ∧ (v4_3_1).toInt ≤ 130) ∧ (KYI f0 (p2 : Int32).toInt (p2 : Int32).toInt (v4_3_0 : Int32).toInt (v4_3_1 : Int32).toInt) ∧ qW D (va_A (wk_253faa1b8 cy h0 p0 w0 w1 h1 w2 p1 p2 p2 p3 p4 p5 p6 p7 p8 p9 p10 w3 w4 w5 w6 w7 p11 p12 w8 w9 w10 p13 p14 w11 w12 w13 w14 w15 p15 w16 w17 w18 h1 f0) sz) s.heap (wk_253faa1b8 cy h0 p0 w0 w1 h1 w2 p1 p2 p2 p3 p4 p5 p6 p7 p8 p9 p10 w3 w4 w5 w6 w7 p11 p12 w8 w9 w10 p13 p14 w11 w12 w13 w14 w15 p15 w16 w17 w18 h1 f0) H locs ∧ lv_has ls 4 [(0, .ref h0), (1, .int v4_3_0), (2, .int v4_3_1)]) (fun (q : Int32 × Int32) => match q with | (v4_3_0, v4_3_1) => (131 - (v4_3_1).toInt).toNat) (fun q_4 ih_4 H locs ls hP => ?_) (0, 1) ⟨⟨by decide +kernel, by decide +kernel⟩, ⟨by decide +kernel, by decide +kernel⟩, (kyi_0 (by decide) (by decide)), h, (lv_sub hl_2 [2, 1, 0] rfl)⟩
  obtain ⟨v4_3_0, v4_3_1⟩ := q_4
  obtain ⟨hv4_3_0, hv4_3_1, x4_0, h, hl⟩ := hP
  refine lv_iload_n hx hb dX12_keyAt_4 rfl (lv_at hl 2 rfl) ?_
  refine q_ldc2 X hT dX12_keyAt_5 ?_
  refine q_callGi (rest := [.int v4_3_1]) (wr := (wk_253faa1b8 cy h0 p0 w0 w1 h1 w2 p1 p2 p2 p3 p4 p5 p6 p7 p8 p9 p10 w3 w4 w5 w6 w7 p11 p12 w8 w9 w10 p13 p14 w11 w12 w13 w14 w15 p15 w16 w17 w18 h1 f0)) X hK hT hA h (fun sz => gJ0_length_8abf5_227ad04 l D cy   sz) wm_6_69 wm_2_197 wm_1_14 hd_J0_length_8abf5 rfl wm_2_195 wm_2_196 2 (by decide) rfl ⟨Nat.le_of_ble_eq_true rfl, Nat.le_of_ble_eq_true rfl⟩ hl.1 rfl (Nat.le_of_ble_eq_true rfl) dX12_keyAt_7 ⟨Nat.le_of_ble_eq_true rfl, Nat.le_of_ble_eq_true rfl⟩ [] [0, 1] rfl rfl (by decide) rfl rfl (fun r_5 u_5 H locs w_5 h_5 => ?_)
  clear h
  obtain ⟨wr_5, _⟩ := w_5
  obtain rfl : r_5 = 130 := wr_5
  replace h_5 : qW D _ _ (wk_253faa1b8 cy h0 p0 w0 w1 h1 w2 p1 p2 p2 p3 p4 p5 p6 p7 p8 p9 p10 w3 w4 w5 w6 w7 p11 p12 w8 w9 w10 p13 p14 w11 w12 w13 w14 w15 p15 w16 w17 w18 h1 f0) _ _ := h_5
  refine lv_icmp_ge (tgt := 123) hx hb dX12_keyAt_10 (by decide) (fun c_6 => ?_) (fun c_6 => ?_)
  · replace c_6 := i_le (x := 130) (y := v4_3_1) (show (130 : Int32).toInt = 130 by decide) rfl c_6
    refine lv_bipush (v := 24) hx hb dX12_keyAt_123 (by decide) ?_
    exact q_iret X hr hlk hK h_5 rfl (fun _ => 0, fun _ _ => 0, fun _ _ => 0) ⟨⟨by decide +kernel, by decide +kernel⟩, (show KYE f0 (p2 : Int32).toInt (p2 : Int32).toInt (24 : Int32).toInt from kye_no x4_0 (by (first | assumption | omega)) (by decide)), trivial⟩ [0, 1] rfl rfl dX12_keyAt_125 (Nat.le_of_ble_eq_true rfl) (Nat.le_of_ble_eq_true rfl)
  · replace c_6 := i_nle (x := 130) (y := v4_3_1) (show (130 : Int32).toInt = 130 by decide) rfl c_6
    have kl_7 := ky_lt x4_0 (by (first | assumption | omega))
    refine lv_iconst (v := 0) hx hb dX12_keyAt_13 (by decide) ?_
    refine lv_istore_n (lv' := [(3, .int 0), (0, .ref h0), (1, .int v4_3_0), (2, .int v4_3_1)]) hx hb dX12_keyAt_14 rfl hl (by decide) rfl (fun ls_8 hl_8 => ?_)
    clear hl
    refine q_wl (fun (v15_9_0 : Int32) H locs ls => (0 ≤ (v15_9_0).toInt ∧ (v15_9_0).toInt ≤ 129) ∧ ((v4_3_1 : Int32).toInt + (v15_9_0 : Int32).toInt ≤ 129) ∧ (KYP f0 (p2 : Int32).toInt (v4_3_1 : Int32).toInt (v15_9_0 : Int32).toInt) ∧ qW D (va_A (wk_253faa1b8 cy h0 p0 w0 w1 h1 w2 p1 p2 p2 p3 p4 p5 p6 p7 p8 p9 p10 w3 w4 w5 w6 w7 p11 p12 w8 w9 w10 p13 p14 w11 w12 w13 w14 w15 p15 w16 w17 w18 h1 f0) sz) s.heap (wk_253faa1b8 cy h0 p0 w0 w1 h1 w2 p1 p2 p2 p3 p4 p5 p6 p7 p8 p9 p10 w3 w4 w5 w6 w7 p11 p12 w8 w9 w10 p13 p14 w11 w12 w13 w14 w15 p15 w16 w17 w18 h1 f0) H locs ∧ lv_has ls 4 [(0, .ref h0), (1, .int v4_3_0), (2, .int v4_3_1), (3, .int v15_9_0)]) (fun (v15_9_0 : Int32) => (130 - (v15_9_0).toInt).toNat) (fun q_15 ih_15 H locs ls hP => ?_) 0 ⟨⟨by decide +kernel, by decide +kernel⟩, (by have q0 : (0 : Int32).toInt = 0 := (by decide); omega), (kyp_0 (by decide)), h_5, (lv_sub hl_8 [1, 2, 3, 0] rfl)⟩
    obtain ⟨v15_9_0, rfl⟩ : ∃ z, z = q_15 := ⟨_, rfl⟩
    obtain ⟨hv15_9_0, x10_0, x11_1, h, hl⟩ := hP
    refine q_ldc2 X hT dX12_keyAt_15 ?_
    refine lv_iload_n hx hb dX12_keyAt_17 rfl (lv_at hl 2 rfl) ?_
    refine lv_iload_n hx hb dX12_keyAt_18 rfl (lv_at hl 3 rfl) ?_
    refine lv_iadd hx hb dX12_keyAt_19 ?_
    obtain ⟨z_12, ez_12, hz_12⟩ := e_add (x := v4_3_1) (y := v15_9_0) rfl rfl (by omega) (by omega)
    refine q_c z_12 ez_12 ?_
    clear ez_12
    refine q_callGi (rest := []) (wr := (wk_253faa1b8 cy h0 p0 w0 w1 h1 w2 p1 p2 p2 p3 p4 p5 p6 p7 p8 p9 p10 w3 w4 w5 w6 w7 p11 p12 w8 w9 w10 p13 p14 w11 w12 w13 w14 w15 p15 w16 w17 w18 h1 f0)) X hK hT hA h (fun sz => gJ0_charAt_5068e_7fea22b l D cy z_12 ⟨by omega, by omega⟩ sz) wm_6_70 wm_2_207 wm_1_14 hd_J0_charAt_5068e rfl wm_2_205 wm_2_206 2 (by decide) rfl ⟨Nat.le_of_ble_eq_true rfl, Nat.le_of_ble_eq_true rfl⟩ hl.1 rfl (Nat.le_of_ble_eq_true rfl) dX12_keyAt_20 ⟨Nat.le_of_ble_eq_true rfl, Nat.le_of_ble_eq_true rfl⟩ [] [0, 1] rfl rfl (by decide) rfl rfl (fun r_13 u_13 H locs w_13 h_13 => ?_)
    clear h
    obtain ⟨wr_13, y13_0, y13_1, _⟩ := w_13
    replace h_13 : qW D _ _ (wk_253faa1b8 cy h0 p0 w0 w1 h1 w2 p1 p2 p2 p3 p4 p5 p6 p7 p8 p9 p10 w3 w4 w5 w6 w7 p11 p12 w8 w9 w10 p13 p14 w11 w12 w13 w14 w15 p15 w16 w17 w18 h1 f0) _ _ := h_13
    refine lv_bipush (v := 32) hx hb dX12_keyAt_23 (by decide) ?_
    refine q_jn (pc2 := 69) (fun H locs ls st => (KYX f0 (p2 : Int32).toInt (p2 : Int32).toInt (v4_3_1 : Int32).toInt (v15_9_0 : Int32).toInt) ∧ st = [] ∧ qW D (va_A (wk_253faa1b8 cy h0 p0 w0 w1 h1 w2 p1 p2 p2 p3 p4 p5 p6 p7 p8 p9 p10 w3 w4 w5 w6 w7 p11 p12 w8 w9 w10 p13 p14 w11 w12 w13 w14 w15 p15 w16 w17 w18 h1 f0) sz) s.heap (wk_253faa1b8 cy h0 p0 w0 w1 h1 w2 p1 p2 p2 p3 p4 p5 p6 p7 p8 p9 p10 w3 w4 w5 w6 w7 p11 p12 w8 w9 w10 p13 p14 w11 w12 w13 w14 w15 p15 w16 w17 w18 h1 f0) H locs ∧ lv_has ls 4 [(0, .ref h0), (1, .int v4_3_0), (2, .int v4_3_1), (3, .int v15_9_0)]) (fun H locs ls st hP => ?_) (fun J_69 => ?_)
    · obtain ⟨x15_0, rfl, h, hl⟩ := hP
      refine q_ldc2 X hT dX12_keyAt_69 ?_
      refine lv_iload_n hx hb dX12_keyAt_71 rfl (lv_at hl 2 rfl) ?_
      refine lv_iload_n hx hb dX12_keyAt_72 rfl (lv_at hl 3 rfl) ?_
      refine lv_iadd hx hb dX12_keyAt_73 ?_
      obtain ⟨z_16, ez_16, hz_16⟩ := e_add (x := v4_3_1) (y := v15_9_0) rfl rfl (by omega) (by omega)
      refine q_c z_16 ez_16 ?_
      clear ez_16
      refine q_callGi (rest := []) (wr := (wk_253faa1b8 cy h0 p0 w0 w1 h1 w2 p1 p2 p2 p3 p4 p5 p6 p7 p8 p9 p10 w3 w4 w5 w6 w7 p11 p12 w8 w9 w10 p13 p14 w11 w12 w13 w14 w15 p15 w16 w17 w18 h1 f0)) X hK hT hA h (fun sz => gJ0_charAt_5068e_7fea22b l D cy z_16 ⟨by omega, by omega⟩ sz) wm_6_70 wm_2_207 wm_1_14 hd_J0_charAt_5068e rfl wm_2_205 wm_2_206 2 (by decide) rfl ⟨Nat.le_of_ble_eq_true rfl, Nat.le_of_ble_eq_true rfl⟩ hl.1 rfl (Nat.le_of_ble_eq_true rfl) dX12_keyAt_74 ⟨Nat.le_of_ble_eq_true rfl, Nat.le_of_ble_eq_true rfl⟩ [] [0, 1] rfl rfl (by decide) rfl rfl (fun r_17 u_17 H locs w_17 h_17 => ?_)
      clear h
      obtain ⟨wr_17, y17_0, y17_1, _⟩ := w_17
      replace h_17 : qW D _ _ (wk_253faa1b8 cy h0 p0 w0 w1 h1 w2 p1 p2 p2 p3 p4 p5 p6 p7 p8 p9 p10 w3 w4 w5 w6 w7 p11 p12 w8 w9 w10 p13 p14 w11 w12 w13 w14 w15 p15 w16 w17 w18 h1 f0) _ _ := h_17
      refine lv_bipush (v := 32) hx hb dX12_keyAt_77 (by decide) ?_
      refine q_jn (pc2 := 97) (fun H locs ls st => ((v4_3_1 : Int32).toInt ≤ (v4_3_1 : Int32).toInt) ∧ (¬ WAT (bM f0) ((p2 : Int32).toInt).toNat ((p2 : Int32).toInt).toNat (perm ((v4_3_0 : Int32).toInt).toNat)) ∧ (KYS (v4_3_0 : Int32).toInt (v4_3_1 : Int32).toInt) ∧ st = [] ∧ qW D (va_A (wk_253faa1b8 cy h0 p0 w0 w1 h1 w2 p1 p2 p2 p3 p4 p5 p6 p7 p8 p9 p10 w3 w4 w5 w6 w7 p11 p12 w8 w9 w10 p13 p14 w11 w12 w13 w14 w15 p15 w16 w17 w18 h1 f0) sz) s.heap (wk_253faa1b8 cy h0 p0 w0 w1 h1 w2 p1 p2 p2 p3 p4 p5 p6 p7 p8 p9 p10 w3 w4 w5 w6 w7 p11 p12 w8 w9 w10 p13 p14 w11 w12 w13 w14 w15 p15 w16 w17 w18 h1 f0) H locs ∧ lv_has ls 4 [(0, .ref h0), (1, .int v4_3_0), (2, .int v4_3_1), (3, .int v15_9_0)]) (fun H locs ls st hP => ?_) (fun J_97 => ?_)
      · obtain ⟨x19_0, x20_1, x21_2, rfl, h, hl⟩ := hP
        refine q_wl (fun (v97_22_0 : Int32) H locs ls => (1 ≤ (v97_22_0).toInt ∧ (v97_22_0).toInt ≤ 129) ∧ ((v4_3_1 : Int32).toInt ≤ (v97_22_0 : Int32).toInt) ∧ (¬ WAT (bM f0) ((p2 : Int32).toInt).toNat ((p2 : Int32).toInt).toNat (perm ((v4_3_0 : Int32).toInt).toNat)) ∧ (KYS (v4_3_0 : Int32).toInt (v97_22_0 : Int32).toInt) ∧ qW D (va_A (wk_253faa1b8 cy h0 p0 w0 w1 h1 w2 p1 p2 p2 p3 p4 p5 p6 p7 p8 p9 p10 w3 w4 w5 w6 w7 p11 p12 w8 w9 w10 p13 p14 w11 w12 w13 w14 w15 p15 w16 w17 w18 h1 f0) sz) s.heap (wk_253faa1b8 cy h0 p0 w0 w1 h1 w2 p1 p2 p2 p3 p4 p5 p6 p7 p8 p9 p10 w3 w4 w5 w6 w7 p11 p12 w8 w9 w10 p13 p14 w11 w12 w13 w14 w15 p15 w16 w17 w18 h1 f0) H locs ∧ lv_has ls 4 [(0, .ref h0), (1, .int v4_3_0), (2, .int v97_22_0), (3, .int v15_9_0)]) (fun (v97_22_0 : Int32) => (130 - (v97_22_0).toInt).toNat) (fun q_97 ih_97 H locs ls hP => ?_) v4_3_1 ⟨⟨by omega, by omega⟩, (x19_0), (x20_1), (x21_2), h, (lv_sub hl [0, 1, 2, 3] rfl)⟩
        obtain ⟨v97_22_0, rfl⟩ : ∃ z, z = q_97 := ⟨_, rfl⟩
        obtain ⟨hv97_22_0, x23_0, x24_1, x25_2, h, hl⟩ := hP
        refine q_ldc2 X hT dX12_keyAt_97 ?_
        refine lv_iload_n hx hb dX12_keyAt_99 rfl (lv_at hl 2 rfl) ?_
        refine q_callGi (rest := []) (wr := (wk_253faa1b8 cy h0 p0 w0 w1 h1 w2 p1 p2 p2 p3 p4 p5 p6 p7 p8 p9 p10 w3 w4 w5 w6 w7 p11 p12 w8 w9 w10 p13 p14 w11 w12 w13 w14 w15 p15 w16 w17 w18 h1 f0)) X hK hT hA h (fun sz => gJ0_charAt_5068e_7fea22b l D cy v97_22_0 (bw hv97_22_0 (by decide) (by decide)) sz) wm_6_70 wm_2_207 wm_1_14 hd_J0_charAt_5068e rfl wm_2_205 wm_2_206 2 (by decide) rfl ⟨Nat.le_of_ble_eq_true rfl, Nat.le_of_ble_eq_true rfl⟩ hl.1 rfl (Nat.le_of_ble_eq_true rfl) dX12_keyAt_100 ⟨Nat.le_of_ble_eq_true rfl, Nat.le_of_ble_eq_true rfl⟩ [] [0, 1] rfl rfl (by decide) rfl rfl (fun r_26 u_26 H locs w_26 h_26 => ?_)
        clear h
        obtain ⟨wr_26, y26_0, y26_1, _⟩ := w_26
        replace h_26 : qW D _ _ (wk_253faa1b8 cy h0 p0 w0 w1 h1 w2 p1 p2 p2 p3 p4 p5 p6 p7 p8 p9 p10 w3 w4 w5 w6 w7 p11 p12 w8 w9 w10 p13 p14 w11 w12 w13 w14 w15 p15 w16 w17 w18 h1 f0) _ _ := h_26
        refine lv_bipush (v := 32) hx hb dX12_keyAt_103 (by decide) ?_
        refine lv_icmp_eq (tgt := 114) hx hb dX12_keyAt_105 (by decide) (fun c_27 => ?_) (fun c_27 => ?_)
        · replace c_27 := i_eq (x := r_26) (y := 32) rfl (show (32 : Int32).toInt = 32 by decide) c_27
          obtain ⟨z_28, ez_28, hz_28⟩ := e_add (x := v97_22_0) (y := Int32.ofInt 1) rfl (b := 1) (by decide) (by omega) (by omega)
          refine lv_iinc (v := z_28) (lv' := [(2, .int z_28), (0, .ref h0), (1, .int v4_3_0), (3, .int v15_9_0)]) hx hb dX12_keyAt_114 hl (k := 2) rfl ez_28 (by decide) rfl (fun ls_28 hl_28 => ?_)
          clear hl
          obtain ⟨z_29, ez_29, hz_29⟩ := e_add (x := v4_3_0) (y := Int32.ofInt 1) rfl (b := 1) (by decide) (by omega) (by omega)
          refine lv_iinc (v := z_29) (lv' := [(1, .int z_29), (2, .int z_28), (0, .ref h0), (3, .int v15_9_0)]) hx hb dX12_keyAt_117 hl_28 (k := 2) rfl ez_29 (by decide) rfl (fun ls_29 hl_29 => ?_)
          clear hl_28
          refine lv_goto (tgt := 4) hx hb dX12_keyAt_120 (by decide) ?_
          exact ih_4 (z_29, z_28) (by show (131 - (z_28).toInt).toNat < (131 - (v4_3_1).toInt).toNat; omega) _ _ _ ⟨⟨by omega, by omega⟩, ⟨by omega, by omega⟩, (kyi_s x4_0 kl_7 x24_1 x25_2 rfl y26_1 (by (first | assumption | (clear y13_0 y17_0 y26_0; omega) | omega)) (by (first | assumption | (clear y13_0 y17_0 y26_0; omega) | omega)) (by (first | assumption | (clear y13_0 y17_0 y26_0; omega) | omega))), h_26, (lv_sub hl_29 [2, 0, 1] rfl)⟩
        · replace c_27 := i_ne (x := r_26) (y := 32) rfl (show (32 : Int32).toInt = 32 by decide) c_27
          obtain ⟨z_30, ez_30, hz_30⟩ := e_add (x := v97_22_0) (y := Int32.ofInt 1) rfl (b := 1) (by decide) (by omega) (by omega)
          refine lv_iinc (v := z_30) (lv' := [(2, .int z_30), (0, .ref h0), (1, .int v4_3_0), (3, .int v15_9_0)]) hx hb dX12_keyAt_108 hl (k := 2) rfl ez_30 (by decide) rfl (fun ls_30 hl_30 => ?_)
          clear hl
          refine lv_goto (tgt := 97) hx hb dX12_keyAt_111 (by decide) ?_
          exact ih_97 z_30 (by show (130 - (z_30).toInt).toNat < (130 - (v97_22_0).toInt).toNat; omega) _ _ _ ⟨⟨by omega, by omega⟩, (by (first | (clear y13_0 y17_0 y26_0; omega) | omega)), (x24_1), (kys_s x25_2 (by (first | assumption | (clear y13_0 y17_0 y26_0; omega) | omega)) (by (first | assumption | (clear y13_0 y17_0 y26_0; omega) | omega)) rfl y26_1 (by (first | assumption | (clear y13_0 y17_0 y26_0; omega) | omega)) (by (first | assumption | (clear y13_0 y17_0 y26_0; omega) | omega))), h_26, (lv_sub hl_30 [1, 2, 0, 3] rfl)⟩
      · skip
        refine lv_icmp_ne (tgt := 97) hx hb dX12_keyAt_79 (by decide) (fun c_31 => ?_) (fun c_31 => ?_)
        · replace c_31 := i_ne (x := r_17) (y := 32) rfl (show (32 : Int32).toInt = 32 by decide) c_31
          exact J_97 _ _ _ _ ⟨((Int.le_refl _)), (ky_miss x4_0 kl_7 x11_1 x15_0 (by (first | assumption | (clear y13_0 y17_0; omega) | omega)) (by (first | assumption | (clear y13_0 y17_0; omega) | omega)) (by (first | assumption | (clear y13_0 y17_0; omega) | omega)) (by (first | assumption | (clear y13_0 y17_0; omega) | omega)) y17_1 (by (first | assumption | (clear y13_0 y17_0; omega) | omega))), (kys_0 x4_0), rfl, h_17, (lv_sub hl [0, 1, 2, 3] rfl)⟩
        · replace c_31 := i_eq (x := r_17) (y := 32) rfl (show (32 : Int32).toInt = 32 by decide) c_31
          refine lv_aload_n hx hb dX12_keyAt_82 rfl (lv_at hl 0 rfl) ?_
          refine q_get X hK h_17 0 rfl rfl wf_12 6 (by decide) rfl wm_5_176 dX12_keyAt_83 ?_
          refine lv_iload_n hx hb dX12_keyAt_86 rfl (lv_at hl 3 rfl) ?_
          refine lv_iadd hx hb dX12_keyAt_87 ?_
          obtain ⟨z_32, ez_32, hz_32⟩ := e_add (x := p2) (y := v15_9_0) rfl rfl (by omega) (by omega)
          refine q_c z_32 ez_32 ?_
          clear ez_32
          refine lv_aload_n hx hb dX12_keyAt_88 rfl (lv_at hl 0 rfl) ?_
          refine q_get X hK h_17 0 rfl rfl wf_12 7 (by decide) rfl wm_5_177 dX12_keyAt_89 ?_
          refine lv_icmp_ne (tgt := 97) hx hb dX12_keyAt_92 (by decide) (fun c_33 => ?_) (fun c_33 => ?_)
          · replace c_33 := i_ne (x := z_32) (y := p2) rfl rfl c_33
            exact J_97 _ _ _ _ ⟨((Int.le_refl _)), (ky_miss x4_0 kl_7 x11_1 x15_0 (by (first | assumption | (clear y13_0 y17_0; omega) | omega)) (by (first | assumption | (clear y13_0 y17_0; omega) | omega)) (by (first | assumption | (clear y13_0 y17_0; omega) | omega)) (by (first | assumption | (clear y13_0 y17_0; omega) | omega)) y17_1 (by (first | assumption | (clear y13_0 y17_0; omega) | omega))), (kys_0 x4_0), rfl, h_17, (lv_sub hl [0, 1, 2, 3] rfl)⟩
          · replace c_33 := i_eq (x := z_32) (y := p2) rfl rfl c_33
            refine lv_iload_n hx hb dX12_keyAt_95 rfl (lv_at hl 1 rfl) ?_
            exact q_iret X hr hlk hK h_17 rfl (fun _ => 0, fun _ _ => 0, fun _ _ => 0) ⟨hv4_3_0, (show KYE f0 (p2 : Int32).toInt (p2 : Int32).toInt (v4_3_0 : Int32).toInt from kye_at x4_0 kl_7 (ky_hit x4_0 kl_7 x11_1 (by (first | assumption | (clear y13_0 y17_0; omega) | omega)) (by (first | assumption | (clear y13_0 y17_0; omega) | omega)) (by (first | assumption | (clear y13_0 y17_0; omega) | omega)) y17_1 (by (first | assumption | (clear y13_0 y17_0; omega) | omega)) (by (first | assumption | (clear y13_0 y17_0; omega) | omega)))), trivial⟩ [0, 1] rfl rfl dX12_keyAt_96 (Nat.le_of_ble_eq_true rfl) (Nat.le_of_ble_eq_true rfl)
    · skip
      refine lv_icmp_eq (tgt := 69) hx hb dX12_keyAt_25 (by decide) (fun c_34 => ?_) (fun c_34 => ?_)
      · replace c_34 := i_eq (x := r_13) (y := 32) rfl (show (32 : Int32).toInt = 32 by decide) c_34
        exact J_69 _ _ _ _ ⟨(kyx_1 (by (first | assumption | (clear y13_0; omega) | omega)) (by (first | assumption | (clear y13_0; omega) | omega)) (by (first | assumption | (clear y13_0; omega) | omega)) y13_1 (by (first | assumption | (clear y13_0; omega) | omega))), rfl, h_13, (lv_sub hl [0, 1, 2, 3] rfl)⟩
      · replace c_34 := i_ne (x := r_13) (y := 32) rfl (show (32 : Int32).toInt = 32 by decide) c_34
        refine lv_aload_n hx hb dX12_keyAt_28 rfl (lv_at hl 0 rfl) ?_
        refine q_get X hK h_13 0 rfl rfl wf_12 6 (by decide) rfl wm_5_176 dX12_keyAt_29 ?_
        refine lv_iload_n hx hb dX12_keyAt_32 rfl (lv_at hl 3 rfl) ?_
        refine lv_iadd hx hb dX12_keyAt_33 ?_
        obtain ⟨z_35, ez_35, hz_35⟩ := e_add (x := p2) (y := v15_9_0) rfl rfl (by omega) (by omega)
        refine q_c z_35 ez_35 ?_
        clear ez_35
        refine lv_aload_n hx hb dX12_keyAt_34 rfl (lv_at hl 0 rfl) ?_
        refine q_get X hK h_13 0 rfl rfl wf_12 7 (by decide) rfl wm_5_177 dX12_keyAt_35 ?_
        refine lv_icmp_ge (tgt := 69) hx hb dX12_keyAt_38 (by decide) (fun c_36 => ?_) (fun c_36 => ?_)
        · replace c_36 := i_le (x := p2) (y := z_35) rfl rfl c_36
          exact J_69 _ _ _ _ ⟨(Or.inr (Or.inl (by (first | assumption | (clear y13_0; omega) | omega)))), rfl, h_13, (lv_sub hl [0, 1, 2, 3] rfl)⟩
        · replace c_36 := i_nle (x := p2) (y := z_35) rfl rfl c_36
          refine lv_aload_n hx hb dX12_keyAt_41 rfl (lv_at hl 0 rfl) ?_
          refine q_get X hK h_13 0 rfl rfl wf_12 3 (by decide) rfl wm_5_173 dX12_keyAt_42 ?_
          refine lv_aload_n hx hb dX12_keyAt_45 rfl (lv_at hl 0 rfl) ?_
          refine q_get X hK h_13 0 rfl rfl wf_12 6 (by decide) rfl wm_5_176 dX12_keyAt_46 ?_
          refine lv_iload_n hx hb dX12_keyAt_49 rfl (lv_at hl 3 rfl) ?_
          refine lv_iadd hx hb dX12_keyAt_50 ?_
          obtain ⟨z_37, ez_37, hz_37⟩ := e_add (x := p2) (y := v15_9_0) rfl rfl (by omega) (by omega)
          refine q_c z_37 ez_37 ?_
          clear ez_37
          refine q_iald X hK h_13 1 rfl (i_in rfl (by omega) (by omega)) dX12_keyAt_51 ?_
          obtain ⟨z_38, ez_38, hz_38⟩ := e_any (f0 z_37.toNatClampNeg)
          refine q_c z_38 ez_38 ?_
          refine q_ldc2 X hT dX12_keyAt_52 ?_
          refine lv_iload_n hx hb dX12_keyAt_54 rfl (lv_at hl 2 rfl) ?_
          refine lv_iload_n hx hb dX12_keyAt_55 rfl (lv_at hl 3 rfl) ?_
          refine lv_iadd hx hb dX12_keyAt_56 ?_
          obtain ⟨z_39, ez_39, hz_39⟩ := e_add (x := v4_3_1) (y := v15_9_0) rfl rfl (by omega) (by omega)
          refine q_c z_39 ez_39 ?_
          clear ez_39
          refine q_callGi (rest := [.int z_38]) (wr := (wk_253faa1b8 cy h0 p0 w0 w1 h1 w2 p1 p2 p2 p3 p4 p5 p6 p7 p8 p9 p10 w3 w4 w5 w6 w7 p11 p12 w8 w9 w10 p13 p14 w11 w12 w13 w14 w15 p15 w16 w17 w18 h1 f0)) X hK hT hA h_13 (fun sz => gJ0_charAt_5068e_7fea22b l D cy z_39 ⟨by omega, by omega⟩ sz) wm_6_70 wm_2_207 wm_1_14 hd_J0_charAt_5068e rfl wm_2_205 wm_2_206 2 (by decide) rfl ⟨Nat.le_of_ble_eq_true rfl, Nat.le_of_ble_eq_true rfl⟩ hl.1 rfl (Nat.le_of_ble_eq_true rfl) dX12_keyAt_57 ⟨Nat.le_of_ble_eq_true rfl, Nat.le_of_ble_eq_true rfl⟩ [] [0, 1] rfl rfl (by decide) rfl rfl (fun r_40 u_40 H locs w_40 h_40 => ?_)
          clear h_13
          obtain ⟨wr_40, y40_0, y40_1, _⟩ := w_40
          replace h_40 : qW D _ _ (wk_253faa1b8 cy h0 p0 w0 w1 h1 w2 p1 p2 p2 p3 p4 p5 p6 p7 p8 p9 p10 w3 w4 w5 w6 w7 p11 p12 w8 w9 w10 p13 p14 w11 w12 w13 w14 w15 p15 w16 w17 w18 h1 f0) _ _ := h_40
          refine lv_icmp_ne (tgt := 69) hx hb dX12_keyAt_60 (by decide) (fun c_41 => ?_) (fun c_41 => ?_)
          · replace c_41 := i_ne (x := z_38) (y := r_40) rfl rfl c_41
            exact J_69 _ _ _ _ ⟨(kyx_3 (by (first | assumption | (clear y13_0 y40_0; omega) | omega)) (by (first | assumption | (clear y13_0 y40_0; omega) | omega)) (by (first | assumption | (clear y13_0 y40_0; omega) | omega)) (by (first | assumption | (clear y13_0 y40_0; omega) | omega)) y40_1 (by (first | assumption | (clear y13_0 y40_0; omega) | omega)) ez_38 (by (first | assumption | (clear y13_0 y40_0; omega) | omega))), rfl, h_40, (lv_sub hl [0, 1, 2, 3] rfl)⟩
          · replace c_41 := i_eq (x := z_38) (y := r_40) rfl rfl c_41
            obtain ⟨z_42, ez_42, hz_42⟩ := e_add (x := v15_9_0) (y := Int32.ofInt 1) rfl (b := 1) (by decide) (by omega) (by omega)
            refine lv_iinc (v := z_42) (lv' := [(3, .int z_42), (0, .ref h0), (1, .int v4_3_0), (2, .int v4_3_1)]) hx hb dX12_keyAt_63 hl (k := 3) rfl ez_42 (by decide) rfl (fun ls_42 hl_42 => ?_)
            clear hl
            refine lv_goto (tgt := 15) hx hb dX12_keyAt_66 (by decide) ?_
            exact ih_15 z_42 (by show (130 - (z_42).toInt).toNat < (130 - (v15_9_0).toInt).toNat; omega) _ _ _ ⟨⟨by omega, by omega⟩, (by (first | (clear y13_0 y40_0; omega) | omega)), (kyp_s x11_1 (by (first | assumption | (clear y13_0 y40_0; omega) | omega)) (by (first | assumption | (clear y13_0 y40_0; omega) | omega)) (by (first | assumption | (clear y13_0 y40_0; omega) | omega)) (by (first | assumption | (clear y13_0 y40_0; omega) | omega)) y13_1 (by (first | assumption | (clear y13_0 y40_0; omega) | omega)) (by (first | assumption | (clear y13_0 y40_0; omega) | omega)) ez_38 (by (first | assumption | (clear y13_0 y40_0; omega) | omega)) y40_1 (by (first | assumption | (clear y13_0 y40_0; omega) | omega)) (by (first | assumption | (clear y13_0 y40_0; omega) | omega))), h_40, (lv_sub hl_42 [1, 2, 3, 0] rfl)⟩
set_option maxHeartbeats 4000000 in
set_option maxRecDepth 100000 in
theorem gX12_keyAt_2274ba1 (l : Launch) (D : va_G) (cy : Nat → ClassId) (h0 : Nat) (h1 : Nat) (p0 : Int32) (w0 : Value) (w1 : Value) (w2 : Value) (p1 : Int32) (p2 : Int32) (p3 : Int32) (p4 : Int32) (p5 : Int32) (p6 : Int32) (p7 : Int32) (p8 : Int32) (p9 : Int32) (p10 : Int32) (p11 : Int32) (w3 : Value) (w4 : Value) (w5 : Value) (w6 : Value) (w7 : Value) (p12 : Int32) (p13 : Int32) (w8 : Value) (w9 : Value) (w10 : Value) (p14 : Int32) (p15 : Int32) (w11 : Value) (w12 : Value) (w13 : Value) (w14 : Value) (w15 : Value) (p16 : Int32) (w16 : Value) (w17 : Value) (w18 : Value) (f0 : Nat → Int32) (hp0 : 0 ≤ (p0).toInt ∧ (p0).toInt ≤ 0) (hp1 : 0 ≤ (p1).toInt ∧ (p1).toInt ≤ 900) (hp2 : 0 ≤ (p2).toInt ∧ (p2).toInt ≤ 900) (hp3 : 0 ≤ (p3).toInt ∧ (p3).toInt ≤ 900) (hp4 : 0 ≤ (p4).toInt ∧ (p4).toInt ≤ 900) (hp5 : (-2147483648) ≤ (p5).toInt ∧ (p5).toInt ≤ 2147483647) (hp6 : 0 ≤ (p6).toInt ∧ (p6).toInt ≤ 999) (hp7 : (-2147483648) ≤ (p7).toInt ∧ (p7).toInt ≤ 2147483647) (hp8 : (-2147483648) ≤ (p8).toInt ∧ (p8).toInt ≤ 2147483647) (hp9 : (-2147483648) ≤ (p9).toInt ∧ (p9).toInt ≤ 2147483647) (hp10 : (-2147483648) ≤ (p10).toInt ∧ (p10).toInt ≤ 2147483647) (hp11 : (-2147483648) ≤ (p11).toInt ∧ (p11).toInt ≤ 2147483647) (hp12 : (-2147483648) ≤ (p12).toInt ∧ (p12).toInt ≤ 2147483647) (hp13 : (-2147483648) ≤ (p13).toInt ∧ (p13).toInt ≤ 2147483647) (hp14 : (-2147483648) ≤ (p14).toInt ∧ (p14).toInt ≤ 2147483647) (hp15 : (-2147483648) ≤ (p15).toInt ∧ (p15).toInt ≤ 2147483647) (hp16 : (-2147483648) ≤ (p16).toInt ∧ (p16).toInt ≤ 2147483647) (hpre0 : 0 ≤ (p2 : Int32).toInt ∧ (p2 : Int32).toInt ≤ (p3 : Int32).toInt ∧ (p3 : Int32).toInt ≤ (p4 : Int32).toInt) (sz : Nat) : MI l yX12_keyAt cX12_keyAt 4 .int { frames := 4, cells := 0, slots := 0, locals := 85 } [.ref h0] D cy (wk_253faa1b8 cy h0 p0 w0 w1 h1 w2 p1 p2 p3 p4 p5 p6 p7 p8 p9 p10 p11 w3 w4 w5 w6 w7 p12 p13 w8 w9 w10 p14 p15 w11 w12 w13 w14 w15 p16 w16 w17 w18 h1 f0) sz (fun r u => (0 ≤ r.toInt ∧ r.toInt ≤ 24) ∧ (KYE f0 (p2 : Int32).toInt (p3 : Int32).toInt (r : Int32).toInt) ∧ True) (fun u => (wk_253faa1b8 cy h0 p0 w0 w1 h1 w2 p1 p2 p3 p4 p5 p6 p7 p8 p9 p10 p11 w3 w4 w5 w6 w7 p12 p13 w8 w9 w10 p14 p15 w11 w12 w13 w14 w15 p16 w16 w17 w18 h1 f0)) 0 0 := by
  refine q_ent (own := RX12) (by decide) rfl (Nat.le_of_ble_eq_true rfl) (fun p e s m below meth c ls X hr hlk hnm hK hT h hA hl => ?_)
  obtain ⟨hx, hb, hml, hown, ht⟩ := id X
  replace hl : lv_has ls 4 [(0, .ref h0)] := hl
  refine lv_iconst (v := 0) hx hb dX12_keyAt_0 (by decide) ?_
  refine lv_istore_n (lv' := [(1, .int 0), (0, .ref h0)]) hx hb dX12_keyAt_1 rfl hl (by decide) rfl (fun ls_1 hl_1 => ?_)
  clear hl
  refine lv_iconst (v := 1) hx hb dX12_keyAt_2 (by decide) ?_
  refine lv_istore_n (lv' := [(2, .int 1), (1, .int 0), (0, .ref h0)]) hx hb dX12_keyAt_3 rfl hl_1 (by decide) rfl (fun ls_2 hl_2 => ?_)
  clear hl_1
  refine q_wl (fun (q : Int32 × Int32) H locs ls => match q with | (v4_3_0, v4_3_1) => (0 ≤ (v4_3_0).toInt ∧ (v4_3_0).toInt ≤ 24) ∧ (1 ≤ (v4_3_1).toInt ∧ (v4_3_1).toInt ≤ 130) ∧ (KYI f0 (p2 : Int32).toInt (p3 : Int32).toInt (v4_3_0 : Int32).toInt (v4_3_1 : Int32).toInt) ∧ qW D (va_A (wk_253faa1b8 cy h0 p0 w0 w1 h1 w2 p1 p2 p3 p4 p5 p6 p7 p8 p9 p10 p11 w3 w4 w5 w6 w7 p12 p13 w8 w9 w10 p14 p15 w11 w12 w13 w14 w15 p16 w16 w17 w18 h1 f0) sz) s.heap (wk_253faa1b8 cy h0 p0 w0 w1 h1 w2 p1 p2 p3 p4 p5 p6 p7 p8 p9 p10 p11 w3 w4 w5 w6 w7 p12 p13 w8 w9 w10 p14 p15 w11 w12 w13 w14 w15 p16 w16 w17 w18 h1 f0) H locs ∧ lv_has ls 4 [(0, .ref h0), (1, .int v4_3_0), (2, .int v4_3_1)]) (fun (q : Int32 × Int32) => match q with | (v4_3_0, v4_3_1) => (131 - (v4_3_1).toInt).toNat) (fun q_4 ih_4 H locs ls hP => ?_) (0, 1) ⟨⟨by decide +kernel, by decide +kernel⟩, ⟨by decide +kernel, by decide +kernel⟩, (kyi_0 (by decide) (by decide)), h, (lv_sub hl_2 [2, 1, 0] rfl)⟩
  obtain ⟨v4_3_0, v4_3_1⟩ := q_4
  obtain ⟨hv4_3_0, hv4_3_1, x4_0, h, hl⟩ := hP
  refine lv_iload_n hx hb dX12_keyAt_4 rfl (lv_at hl 2 rfl) ?_
  refine q_ldc2 X hT dX12_keyAt_5 ?_
  refine q_callGi (rest := [.int v4_3_1]) (wr := (wk_253faa1b8 cy h0 p0 w0 w1 h1 w2 p1 p2 p3 p4 p5 p6 p7 p8 p9 p10 p11 w3 w4 w5 w6 w7 p12 p13 w8 w9 w10 p14 p15 w11 w12 w13 w14 w15 p16 w16 w17 w18 h1 f0)) X hK hT hA h (fun sz => gJ0_length_8abf5_227ad04 l D cy   sz) wm_6_69 wm_2_197 wm_1_14 hd_J0_length_8abf5 rfl wm_2_195 wm_2_196 2 (by decide) rfl ⟨Nat.le_of_ble_eq_true rfl, Nat.le_of_ble_eq_true rfl⟩ hl.1 rfl (Nat.le_of_ble_eq_true rfl) dX12_keyAt_7 ⟨Nat.le_of_ble_eq_true rfl, Nat.le_of_ble_eq_true rfl⟩ [] [0, 1] rfl rfl (by decide) rfl rfl (fun r_5 u_5 H locs w_5 h_5 => ?_)
  clear h
  obtain ⟨wr_5, _⟩ := w_5
  obtain rfl : r_5 = 130 := wr_5
  replace h_5 : qW D _ _ (wk_253faa1b8 cy h0 p0 w0 w1 h1 w2 p1 p2 p3 p4 p5 p6 p7 p8 p9 p10 p11 w3 w4 w5 w6 w7 p12 p13 w8 w9 w10 p14 p15 w11 w12 w13 w14 w15 p16 w16 w17 w18 h1 f0) _ _ := h_5
  refine lv_icmp_ge (tgt := 123) hx hb dX12_keyAt_10 (by decide) (fun c_6 => ?_) (fun c_6 => ?_)
  · replace c_6 := i_le (x := 130) (y := v4_3_1) (show (130 : Int32).toInt = 130 by decide) rfl c_6
    refine lv_bipush (v := 24) hx hb dX12_keyAt_123 (by decide) ?_
    exact q_iret X hr hlk hK h_5 rfl (fun _ => 0, fun _ _ => 0, fun _ _ => 0) ⟨⟨by decide +kernel, by decide +kernel⟩, (show KYE f0 (p2 : Int32).toInt (p3 : Int32).toInt (24 : Int32).toInt from kye_no x4_0 (by (first | assumption | omega)) (by decide)), trivial⟩ [0, 1] rfl rfl dX12_keyAt_125 (Nat.le_of_ble_eq_true rfl) (Nat.le_of_ble_eq_true rfl)
  · replace c_6 := i_nle (x := 130) (y := v4_3_1) (show (130 : Int32).toInt = 130 by decide) rfl c_6
    have kl_7 := ky_lt x4_0 (by (first | assumption | omega))
    refine lv_iconst (v := 0) hx hb dX12_keyAt_13 (by decide) ?_
    refine lv_istore_n (lv' := [(3, .int 0), (0, .ref h0), (1, .int v4_3_0), (2, .int v4_3_1)]) hx hb dX12_keyAt_14 rfl hl (by decide) rfl (fun ls_8 hl_8 => ?_)
    clear hl
    refine q_wl (fun (v15_9_0 : Int32) H locs ls => (0 ≤ (v15_9_0).toInt ∧ (v15_9_0).toInt ≤ 129) ∧ ((v4_3_1 : Int32).toInt + (v15_9_0 : Int32).toInt ≤ 129) ∧ (KYP f0 (p2 : Int32).toInt (v4_3_1 : Int32).toInt (v15_9_0 : Int32).toInt) ∧ qW D (va_A (wk_253faa1b8 cy h0 p0 w0 w1 h1 w2 p1 p2 p3 p4 p5 p6 p7 p8 p9 p10 p11 w3 w4 w5 w6 w7 p12 p13 w8 w9 w10 p14 p15 w11 w12 w13 w14 w15 p16 w16 w17 w18 h1 f0) sz) s.heap (wk_253faa1b8 cy h0 p0 w0 w1 h1 w2 p1 p2 p3 p4 p5 p6 p7 p8 p9 p10 p11 w3 w4 w5 w6 w7 p12 p13 w8 w9 w10 p14 p15 w11 w12 w13 w14 w15 p16 w16 w17 w18 h1 f0) H locs ∧ lv_has ls 4 [(0, .ref h0), (1, .int v4_3_0), (2, .int v4_3_1), (3, .int v15_9_0)]) (fun (v15_9_0 : Int32) => (130 - (v15_9_0).toInt).toNat) (fun q_15 ih_15 H locs ls hP => ?_) 0 ⟨⟨by decide +kernel, by decide +kernel⟩, (by have q0 : (0 : Int32).toInt = 0 := (by decide); omega), (kyp_0 (by decide)), h_5, (lv_sub hl_8 [1, 2, 3, 0] rfl)⟩
    obtain ⟨v15_9_0, rfl⟩ : ∃ z, z = q_15 := ⟨_, rfl⟩
    obtain ⟨hv15_9_0, x10_0, x11_1, h, hl⟩ := hP
    refine q_ldc2 X hT dX12_keyAt_15 ?_
    refine lv_iload_n hx hb dX12_keyAt_17 rfl (lv_at hl 2 rfl) ?_
    refine lv_iload_n hx hb dX12_keyAt_18 rfl (lv_at hl 3 rfl) ?_
    refine lv_iadd hx hb dX12_keyAt_19 ?_
    obtain ⟨z_12, ez_12, hz_12⟩ := e_add (x := v4_3_1) (y := v15_9_0) rfl rfl (by omega) (by omega)
    refine q_c z_12 ez_12 ?_
    clear ez_12
    refine q_callGi (rest := []) (wr := (wk_253faa1b8 cy h0 p0 w0 w1 h1 w2 p1 p2 p3 p4 p5 p6 p7 p8 p9 p10 p11 w3 w4 w5 w6 w7 p12 p13 w8 w9 w10 p14 p15 w11 w12 w13 w14 w15 p16 w16 w17 w18 h1 f0)) X hK hT hA h (fun sz => gJ0_charAt_5068e_7fea22b l D cy z_12 ⟨by omega, by omega⟩ sz) wm_6_70 wm_2_207 wm_1_14 hd_J0_charAt_5068e rfl wm_2_205 wm_2_206 2 (by decide) rfl ⟨Nat.le_of_ble_eq_true rfl, Nat.le_of_ble_eq_true rfl⟩ hl.1 rfl (Nat.le_of_ble_eq_true rfl) dX12_keyAt_20 ⟨Nat.le_of_ble_eq_true rfl, Nat.le_of_ble_eq_true rfl⟩ [] [0, 1] rfl rfl (by decide) rfl rfl (fun r_13 u_13 H locs w_13 h_13 => ?_)
    clear h
    obtain ⟨wr_13, y13_0, y13_1, _⟩ := w_13
    replace h_13 : qW D _ _ (wk_253faa1b8 cy h0 p0 w0 w1 h1 w2 p1 p2 p3 p4 p5 p6 p7 p8 p9 p10 p11 w3 w4 w5 w6 w7 p12 p13 w8 w9 w10 p14 p15 w11 w12 w13 w14 w15 p16 w16 w17 w18 h1 f0) _ _ := h_13
    refine lv_bipush (v := 32) hx hb dX12_keyAt_23 (by decide) ?_
    refine q_jn (pc2 := 69) (fun H locs ls st => (KYX f0 (p2 : Int32).toInt (p3 : Int32).toInt (v4_3_1 : Int32).toInt (v15_9_0 : Int32).toInt) ∧ st = [] ∧ qW D (va_A (wk_253faa1b8 cy h0 p0 w0 w1 h1 w2 p1 p2 p3 p4 p5 p6 p7 p8 p9 p10 p11 w3 w4 w5 w6 w7 p12 p13 w8 w9 w10 p14 p15 w11 w12 w13 w14 w15 p16 w16 w17 w18 h1 f0) sz) s.heap (wk_253faa1b8 cy h0 p0 w0 w1 h1 w2 p1 p2 p3 p4 p5 p6 p7 p8 p9 p10 p11 w3 w4 w5 w6 w7 p12 p13 w8 w9 w10 p14 p15 w11 w12 w13 w14 w15 p16 w16 w17 w18 h1 f0) H locs ∧ lv_has ls 4 [(0, .ref h0), (1, .int v4_3_0), (2, .int v4_3_1), (3, .int v15_9_0)]) (fun H locs ls st hP => ?_) (fun J_69 => ?_)
    · obtain ⟨x15_0, rfl, h, hl⟩ := hP
      refine q_ldc2 X hT dX12_keyAt_69 ?_
      refine lv_iload_n hx hb dX12_keyAt_71 rfl (lv_at hl 2 rfl) ?_
      refine lv_iload_n hx hb dX12_keyAt_72 rfl (lv_at hl 3 rfl) ?_
      refine lv_iadd hx hb dX12_keyAt_73 ?_
      obtain ⟨z_16, ez_16, hz_16⟩ := e_add (x := v4_3_1) (y := v15_9_0) rfl rfl (by omega) (by omega)
      refine q_c z_16 ez_16 ?_
      clear ez_16
      refine q_callGi (rest := []) (wr := (wk_253faa1b8 cy h0 p0 w0 w1 h1 w2 p1 p2 p3 p4 p5 p6 p7 p8 p9 p10 p11 w3 w4 w5 w6 w7 p12 p13 w8 w9 w10 p14 p15 w11 w12 w13 w14 w15 p16 w16 w17 w18 h1 f0)) X hK hT hA h (fun sz => gJ0_charAt_5068e_7fea22b l D cy z_16 ⟨by omega, by omega⟩ sz) wm_6_70 wm_2_207 wm_1_14 hd_J0_charAt_5068e rfl wm_2_205 wm_2_206 2 (by decide) rfl ⟨Nat.le_of_ble_eq_true rfl, Nat.le_of_ble_eq_true rfl⟩ hl.1 rfl (Nat.le_of_ble_eq_true rfl) dX12_keyAt_74 ⟨Nat.le_of_ble_eq_true rfl, Nat.le_of_ble_eq_true rfl⟩ [] [0, 1] rfl rfl (by decide) rfl rfl (fun r_17 u_17 H locs w_17 h_17 => ?_)
      clear h
      obtain ⟨wr_17, y17_0, y17_1, _⟩ := w_17
      replace h_17 : qW D _ _ (wk_253faa1b8 cy h0 p0 w0 w1 h1 w2 p1 p2 p3 p4 p5 p6 p7 p8 p9 p10 p11 w3 w4 w5 w6 w7 p12 p13 w8 w9 w10 p14 p15 w11 w12 w13 w14 w15 p16 w16 w17 w18 h1 f0) _ _ := h_17
      refine lv_bipush (v := 32) hx hb dX12_keyAt_77 (by decide) ?_
      refine q_jn (pc2 := 97) (fun H locs ls st => ((v4_3_1 : Int32).toInt ≤ (v4_3_1 : Int32).toInt) ∧ (¬ WAT (bM f0) ((p2 : Int32).toInt).toNat ((p3 : Int32).toInt).toNat (perm ((v4_3_0 : Int32).toInt).toNat)) ∧ (KYS (v4_3_0 : Int32).toInt (v4_3_1 : Int32).toInt) ∧ st = [] ∧ qW D (va_A (wk_253faa1b8 cy h0 p0 w0 w1 h1 w2 p1 p2 p3 p4 p5 p6 p7 p8 p9 p10 p11 w3 w4 w5 w6 w7 p12 p13 w8 w9 w10 p14 p15 w11 w12 w13 w14 w15 p16 w16 w17 w18 h1 f0) sz) s.heap (wk_253faa1b8 cy h0 p0 w0 w1 h1 w2 p1 p2 p3 p4 p5 p6 p7 p8 p9 p10 p11 w3 w4 w5 w6 w7 p12 p13 w8 w9 w10 p14 p15 w11 w12 w13 w14 w15 p16 w16 w17 w18 h1 f0) H locs ∧ lv_has ls 4 [(0, .ref h0), (1, .int v4_3_0), (2, .int v4_3_1), (3, .int v15_9_0)]) (fun H locs ls st hP => ?_) (fun J_97 => ?_)
      · obtain ⟨x19_0, x20_1, x21_2, rfl, h, hl⟩ := hP
        refine q_wl (fun (v97_22_0 : Int32) H locs ls => (1 ≤ (v97_22_0).toInt ∧ (v97_22_0).toInt ≤ 129) ∧ ((v4_3_1 : Int32).toInt ≤ (v97_22_0 : Int32).toInt) ∧ (¬ WAT (bM f0) ((p2 : Int32).toInt).toNat ((p3 : Int32).toInt).toNat (perm ((v4_3_0 : Int32).toInt).toNat)) ∧ (KYS (v4_3_0 : Int32).toInt (v97_22_0 : Int32).toInt) ∧ qW D (va_A (wk_253faa1b8 cy h0 p0 w0 w1 h1 w2 p1 p2 p3 p4 p5 p6 p7 p8 p9 p10 p11 w3 w4 w5 w6 w7 p12 p13 w8 w9 w10 p14 p15 w11 w12 w13 w14 w15 p16 w16 w17 w18 h1 f0) sz) s.heap (wk_253faa1b8 cy h0 p0 w0 w1 h1 w2 p1 p2 p3 p4 p5 p6 p7 p8 p9 p10 p11 w3 w4 w5 w6 w7 p12 p13 w8 w9 w10 p14 p15 w11 w12 w13 w14 w15 p16 w16 w17 w18 h1 f0) H locs ∧ lv_has ls 4 [(0, .ref h0), (1, .int v4_3_0), (2, .int v97_22_0), (3, .int v15_9_0)]) (fun (v97_22_0 : Int32) => (130 - (v97_22_0).toInt).toNat) (fun q_97 ih_97 H locs ls hP => ?_) v4_3_1 ⟨⟨by omega, by omega⟩, (x19_0), (x20_1), (x21_2), h, (lv_sub hl [0, 1, 2, 3] rfl)⟩
        obtain ⟨v97_22_0, rfl⟩ : ∃ z, z = q_97 := ⟨_, rfl⟩
        obtain ⟨hv97_22_0, x23_0, x24_1, x25_2, h, hl⟩ := hP
        refine q_ldc2 X hT dX12_keyAt_97 ?_
        refine lv_iload_n hx hb dX12_keyAt_99 rfl (lv_at hl 2 rfl) ?_
        refine q_callGi (rest := []) (wr := (wk_253faa1b8 cy h0 p0 w0 w1 h1 w2 p1 p2 p3 p4 p5 p6 p7 p8 p9 p10 p11 w3 w4 w5 w6 w7 p12 p13 w8 w9 w10 p14 p15 w11 w12 w13 w14 w15 p16 w16 w17 w18 h1 f0)) X hK hT hA h (fun sz => gJ0_charAt_5068e_7fea22b l D cy v97_22_0 (bw hv97_22_0 (by decide) (by decide)) sz) wm_6_70 wm_2_207 wm_1_14 hd_J0_charAt_5068e rfl wm_2_205 wm_2_206 2 (by decide) rfl ⟨Nat.le_of_ble_eq_true rfl, Nat.le_of_ble_eq_true rfl⟩ hl.1 rfl (Nat.le_of_ble_eq_true rfl) dX12_keyAt_100 ⟨Nat.le_of_ble_eq_true rfl, Nat.le_of_ble_eq_true rfl⟩ [] [0, 1] rfl rfl (by decide) rfl rfl (fun r_26 u_26 H locs w_26 h_26 => ?_)
        clear h
        obtain ⟨wr_26, y26_0, y26_1, _⟩ := w_26
        replace h_26 : qW D _ _ (wk_253faa1b8 cy h0 p0 w0 w1 h1 w2 p1 p2 p3 p4 p5 p6 p7 p8 p9 p10 p11 w3 w4 w5 w6 w7 p12 p13 w8 w9 w10 p14 p15 w11 w12 w13 w14 w15 p16 w16 w17 w18 h1 f0) _ _ := h_26
        refine lv_bipush (v := 32) hx hb dX12_keyAt_103 (by decide) ?_
        refine lv_icmp_eq (tgt := 114) hx hb dX12_keyAt_105 (by decide) (fun c_27 => ?_) (fun c_27 => ?_)
        · replace c_27 := i_eq (x := r_26) (y := 32) rfl (show (32 : Int32).toInt = 32 by decide) c_27
          obtain ⟨z_28, ez_28, hz_28⟩ := e_add (x := v97_22_0) (y := Int32.ofInt 1) rfl (b := 1) (by decide) (by omega) (by omega)
          refine lv_iinc (v := z_28) (lv' := [(2, .int z_28), (0, .ref h0), (1, .int v4_3_0), (3, .int v15_9_0)]) hx hb dX12_keyAt_114 hl (k := 2) rfl ez_28 (by decide) rfl (fun ls_28 hl_28 => ?_)
          clear hl
          obtain ⟨z_29, ez_29, hz_29⟩ := e_add (x := v4_3_0) (y := Int32.ofInt 1) rfl (b := 1) (by decide) (by omega) (by omega)
          refine lv_iinc (v := z_29) (lv' := [(1, .int z_29), (2, .int z_28), (0, .ref h0), (3, .int v15_9_0)]) hx hb dX12_keyAt_117 hl_28 (k := 2) rfl ez_29 (by decide) rfl (fun ls_29 hl_29 => ?_)
          clear hl_28
          refine lv_goto (tgt := 4) hx hb dX12_keyAt_120 (by decide) ?_
          exact ih_4 (z_29, z_28) (by show (131 - (z_28).toInt).toNat < (131 - (v4_3_1).toInt).toNat; omega) _ _ _ ⟨⟨by omega, by omega⟩, ⟨by omega, by omega⟩, (kyi_s x4_0 kl_7 x24_1 x25_2 rfl y26_1 (by (first | assumption | (clear y13_0 y17_0 y26_0; omega) | omega)) (by (first | assumption | (clear y13_0 y17_0 y26_0; omega) | omega)) (by (first | assumption | (clear y13_0 y17_0 y26_0; omega) | omega))), h_26, (lv_sub hl_29 [2, 0, 1] rfl)⟩
        · replace c_27 := i_ne (x := r_26) (y := 32) rfl (show (32 : Int32).toInt = 32 by decide) c_27
          obtain ⟨z_30, ez_30, hz_30⟩ := e_add (x := v97_22_0) (y := Int32.ofInt 1) rfl (b := 1) (by decide) (by omega) (by omega)
          refine lv_iinc (v := z_30) (lv' := [(2, .int z_30), (0, .ref h0), (1, .int v4_3_0), (3, .int v15_9_0)]) hx hb dX12_keyAt_108 hl (k := 2) rfl ez_30 (by decide) rfl (fun ls_30 hl_30 => ?_)
          clear hl
          refine lv_goto (tgt := 97) hx hb dX12_keyAt_111 (by decide) ?_
          exact ih_97 z_30 (by show (130 - (z_30).toInt).toNat < (130 - (v97_22_0).toInt).toNat; omega) _ _ _ ⟨⟨by omega, by omega⟩, (by (first | (clear y13_0 y17_0 y26_0; omega) | omega)), (x24_1), (kys_s x25_2 (by (first | assumption | (clear y13_0 y17_0 y26_0; omega) | omega)) (by (first | assumption | (clear y13_0 y17_0 y26_0; omega) | omega)) rfl y26_1 (by (first | assumption | (clear y13_0 y17_0 y26_0; omega) | omega)) (by (first | assumption | (clear y13_0 y17_0 y26_0; omega) | omega))), h_26, (lv_sub hl_30 [1, 2, 0, 3] rfl)⟩
      · skip
        refine lv_icmp_ne (tgt := 97) hx hb dX12_keyAt_79 (by decide) (fun c_31 => ?_) (fun c_31 => ?_)
        · replace c_31 := i_ne (x := r_17) (y := 32) rfl (show (32 : Int32).toInt = 32 by decide) c_31
          exact J_97 _ _ _ _ ⟨((Int.le_refl _)), (ky_miss x4_0 kl_7 x11_1 x15_0 (by (first | assumption | (clear y13_0 y17_0; omega) | omega)) (by (first | assumption | (clear y13_0 y17_0; omega) | omega)) (by (first | assumption | (clear y13_0 y17_0; omega) | omega)) (by (first | assumption | (clear y13_0 y17_0; omega) | omega)) y17_1 (by (first | assumption | (clear y13_0 y17_0; omega) | omega))), (kys_0 x4_0), rfl, h_17, (lv_sub hl [0, 1, 2, 3] rfl)⟩
        · replace c_31 := i_eq (x := r_17) (y := 32) rfl (show (32 : Int32).toInt = 32 by decide) c_31
          refine lv_aload_n hx hb dX12_keyAt_82 rfl (lv_at hl 0 rfl) ?_
          refine q_get X hK h_17 0 rfl rfl wf_12 6 (by decide) rfl wm_5_176 dX12_keyAt_83 ?_
          refine lv_iload_n hx hb dX12_keyAt_86 rfl (lv_at hl 3 rfl) ?_
          refine lv_iadd hx hb dX12_keyAt_87 ?_
          obtain ⟨z_32, ez_32, hz_32⟩ := e_add (x := p2) (y := v15_9_0) rfl rfl (by omega) (by omega)
          refine q_c z_32 ez_32 ?_
          clear ez_32
          refine lv_aload_n hx hb dX12_keyAt_88 rfl (lv_at hl 0 rfl) ?_
          refine q_get X hK h_17 0 rfl rfl wf_12 7 (by decide) rfl wm_5_177 dX12_keyAt_89 ?_
          refine lv_icmp_ne (tgt := 97) hx hb dX12_keyAt_92 (by decide) (fun c_33 => ?_) (fun c_33 => ?_)
          · replace c_33 := i_ne (x := z_32) (y := p3) rfl rfl c_33
            exact J_97 _ _ _ _ ⟨((Int.le_refl _)), (ky_miss x4_0 kl_7 x11_1 x15_0 (by (first | assumption | (clear y13_0 y17_0; omega) | omega)) (by (first | assumption | (clear y13_0 y17_0; omega) | omega)) (by (first | assumption | (clear y13_0 y17_0; omega) | omega)) (by (first | assumption | (clear y13_0 y17_0; omega) | omega)) y17_1 (by (first | assumption | (clear y13_0 y17_0; omega) | omega))), (kys_0 x4_0), rfl, h_17, (lv_sub hl [0, 1, 2, 3] rfl)⟩
          · replace c_33 := i_eq (x := z_32) (y := p3) rfl rfl c_33
            refine lv_iload_n hx hb dX12_keyAt_95 rfl (lv_at hl 1 rfl) ?_
            exact q_iret X hr hlk hK h_17 rfl (fun _ => 0, fun _ _ => 0, fun _ _ => 0) ⟨hv4_3_0, (show KYE f0 (p2 : Int32).toInt (p3 : Int32).toInt (v4_3_0 : Int32).toInt from kye_at x4_0 kl_7 (ky_hit x4_0 kl_7 x11_1 (by (first | assumption | (clear y13_0 y17_0; omega) | omega)) (by (first | assumption | (clear y13_0 y17_0; omega) | omega)) (by (first | assumption | (clear y13_0 y17_0; omega) | omega)) y17_1 (by (first | assumption | (clear y13_0 y17_0; omega) | omega)) (by (first | assumption | (clear y13_0 y17_0; omega) | omega)))), trivial⟩ [0, 1] rfl rfl dX12_keyAt_96 (Nat.le_of_ble_eq_true rfl) (Nat.le_of_ble_eq_true rfl)
    · skip
      refine lv_icmp_eq (tgt := 69) hx hb dX12_keyAt_25 (by decide) (fun c_34 => ?_) (fun c_34 => ?_)
      · replace c_34 := i_eq (x := r_13) (y := 32) rfl (show (32 : Int32).toInt = 32 by decide) c_34
        exact J_69 _ _ _ _ ⟨(kyx_1 (by (first | assumption | (clear y13_0; omega) | omega)) (by (first | assumption | (clear y13_0; omega) | omega)) (by (first | assumption | (clear y13_0; omega) | omega)) y13_1 (by (first | assumption | (clear y13_0; omega) | omega))), rfl, h_13, (lv_sub hl [0, 1, 2, 3] rfl)⟩
      · replace c_34 := i_ne (x := r_13) (y := 32) rfl (show (32 : Int32).toInt = 32 by decide) c_34
        refine lv_aload_n hx hb dX12_keyAt_28 rfl (lv_at hl 0 rfl) ?_
        refine q_get X hK h_13 0 rfl rfl wf_12 6 (by decide) rfl wm_5_176 dX12_keyAt_29 ?_
        refine lv_iload_n hx hb dX12_keyAt_32 rfl (lv_at hl 3 rfl) ?_
        refine lv_iadd hx hb dX12_keyAt_33 ?_
        obtain ⟨z_35, ez_35, hz_35⟩ := e_add (x := p2) (y := v15_9_0) rfl rfl (by omega) (by omega)
        refine q_c z_35 ez_35 ?_
        clear ez_35
        refine lv_aload_n hx hb dX12_keyAt_34 rfl (lv_at hl 0 rfl) ?_
        refine q_get X hK h_13 0 rfl rfl wf_12 7 (by decide) rfl wm_5_177 dX12_keyAt_35 ?_
        refine lv_icmp_ge (tgt := 69) hx hb dX12_keyAt_38 (by decide) (fun c_36 => ?_) (fun c_36 => ?_)
        · replace c_36 := i_le (x := p3) (y := z_35) rfl rfl c_36
          exact J_69 _ _ _ _ ⟨(Or.inr (Or.inl (by (first | assumption | (clear y13_0; omega) | omega)))), rfl, h_13, (lv_sub hl [0, 1, 2, 3] rfl)⟩
        · replace c_36 := i_nle (x := p3) (y := z_35) rfl rfl c_36
          refine lv_aload_n hx hb dX12_keyAt_41 rfl (lv_at hl 0 rfl) ?_
          refine q_get X hK h_13 0 rfl rfl wf_12 3 (by decide) rfl wm_5_173 dX12_keyAt_42 ?_
          refine lv_aload_n hx hb dX12_keyAt_45 rfl (lv_at hl 0 rfl) ?_
          refine q_get X hK h_13 0 rfl rfl wf_12 6 (by decide) rfl wm_5_176 dX12_keyAt_46 ?_
          refine lv_iload_n hx hb dX12_keyAt_49 rfl (lv_at hl 3 rfl) ?_
          refine lv_iadd hx hb dX12_keyAt_50 ?_
          obtain ⟨z_37, ez_37, hz_37⟩ := e_add (x := p2) (y := v15_9_0) rfl rfl (by omega) (by omega)
          refine q_c z_37 ez_37 ?_
          clear ez_37
          refine q_iald X hK h_13 1 rfl (i_in rfl (by omega) (by omega)) dX12_keyAt_51 ?_
          obtain ⟨z_38, ez_38, hz_38⟩ := e_any (f0 z_37.toNatClampNeg)
          refine q_c z_38 ez_38 ?_
          refine q_ldc2 X hT dX12_keyAt_52 ?_
          refine lv_iload_n hx hb dX12_keyAt_54 rfl (lv_at hl 2 rfl) ?_
          refine lv_iload_n hx hb dX12_keyAt_55 rfl (lv_at hl 3 rfl) ?_
          refine lv_iadd hx hb dX12_keyAt_56 ?_
          obtain ⟨z_39, ez_39, hz_39⟩ := e_add (x := v4_3_1) (y := v15_9_0) rfl rfl (by omega) (by omega)
          refine q_c z_39 ez_39 ?_
          clear ez_39
          refine q_callGi (rest := [.int z_38]) (wr := (wk_253faa1b8 cy h0 p0 w0 w1 h1 w2 p1 p2 p3 p4 p5 p6 p7 p8 p9 p10 p11 w3 w4 w5 w6 w7 p12 p13 w8 w9 w10 p14 p15 w11 w12 w13 w14 w15 p16 w16 w17 w18 h1 f0)) X hK hT hA h_13 (fun sz => gJ0_charAt_5068e_7fea22b l D cy z_39 ⟨by omega, by omega⟩ sz) wm_6_70 wm_2_207 wm_1_14 hd_J0_charAt_5068e rfl wm_2_205 wm_2_206 2 (by decide) rfl ⟨Nat.le_of_ble_eq_true rfl, Nat.le_of_ble_eq_true rfl⟩ hl.1 rfl (Nat.le_of_ble_eq_true rfl) dX12_keyAt_57 ⟨Nat.le_of_ble_eq_true rfl, Nat.le_of_ble_eq_true rfl⟩ [] [0, 1] rfl rfl (by decide) rfl rfl (fun r_40 u_40 H locs w_40 h_40 => ?_)
          clear h_13
          obtain ⟨wr_40, y40_0, y40_1, _⟩ := w_40
          replace h_40 : qW D _ _ (wk_253faa1b8 cy h0 p0 w0 w1 h1 w2 p1 p2 p3 p4 p5 p6 p7 p8 p9 p10 p11 w3 w4 w5 w6 w7 p12 p13 w8 w9 w10 p14 p15 w11 w12 w13 w14 w15 p16 w16 w17 w18 h1 f0) _ _ := h_40
          refine lv_icmp_ne (tgt := 69) hx hb dX12_keyAt_60 (by decide) (fun c_41 => ?_) (fun c_41 => ?_)
          · replace c_41 := i_ne (x := z_38) (y := r_40) rfl rfl c_41
            exact J_69 _ _ _ _ ⟨(kyx_3 (by (first | assumption | (clear y13_0 y40_0; omega) | omega)) (by (first | assumption | (clear y13_0 y40_0; omega) | omega)) (by (first | assumption | (clear y13_0 y40_0; omega) | omega)) (by (first | assumption | (clear y13_0 y40_0; omega) | omega)) y40_1 (by (first | assumption | (clear y13_0 y40_0; omega) | omega)) ez_38 (by (first | assumption | (clear y13_0 y40_0; omega) | omega))), rfl, h_40, (lv_sub hl [0, 1, 2, 3] rfl)⟩
          · replace c_41 := i_eq (x := z_38) (y := r_40) rfl rfl c_41
            obtain ⟨z_42, ez_42, hz_42⟩ := e_add (x := v15_9_0) (y := Int32.ofInt 1) rfl (b := 1) (by decide) (by omega) (by omega)
            refine lv_iinc (v := z_42) (lv' := [(3, .int z_42), (0, .ref h0), (1, .int v4_3_0), (2, .int v4_3_1)]) hx hb dX12_keyAt_63 hl (k := 3) rfl ez_42 (by decide) rfl (fun ls_42 hl_42 => ?_)
            clear hl
            refine lv_goto (tgt := 15) hx hb dX12_keyAt_66 (by decide) ?_
            exact ih_15 z_42 (by show (130 - (z_42).toInt).toNat < (130 - (v15_9_0).toInt).toNat; omega) _ _ _ ⟨⟨by omega, by omega⟩, (by (first | (clear y13_0 y40_0; omega) | omega)), (kyp_s x11_1 (by (first | assumption | (clear y13_0 y40_0; omega) | omega)) (by (first | assumption | (clear y13_0 y40_0; omega) | omega)) (by (first | assumption | (clear y13_0 y40_0; omega) | omega)) (by (first | assumption | (clear y13_0 y40_0; omega) | omega)) y13_1 (by (first | assumption | (clear y13_0 y40_0; omega) | omega)) (by (first | assumption | (clear y13_0 y40_0; omega) | omega)) ez_38 (by (first | assumption | (clear y13_0 y40_0; omega) | omega)) y40_1 (by (first | assumption | (clear y13_0 y40_0; omega) | omega)) (by (first | assumption | (clear y13_0 y40_0; omega) | omega))), h_40, (lv_sub hl_42 [1, 2, 3, 0] rfl)⟩
set_option maxHeartbeats 4000000 in
set_option maxRecDepth 100000 in
theorem gX12_next_c515fc5 (l : Launch) (D : va_G) (cy : Nat → ClassId) (h0 : Nat) (h1 : Nat) (p0 : Int32) (w0 : Value) (w1 : Value) (w2 : Value) (p1 : Int32) (p2 : Int32) (p3 : Int32) (p4 : Int32) (p5 : Int32) (p6 : Int32) (p7 : Int32) (p8 : Int32) (p9 : Int32) (p10 : Int32) (p11 : Int32) (w3 : Value) (w4 : Value) (w5 : Value) (w6 : Value) (w7 : Value) (p12 : Int32) (p13 : Int32) (w8 : Value) (w9 : Value) (w10 : Value) (p14 : Int32) (p15 : Int32) (w11 : Value) (w12 : Value) (w13 : Value) (w14 : Value) (w15 : Value) (p16 : Int32) (w16 : Value) (w17 : Value) (w18 : Value) (f0 : Nat → Int32) (hp0 : 0 ≤ (p0).toInt ∧ (p0).toInt ≤ 0) (hp1 : 0 ≤ (p1).toInt ∧ (p1).toInt ≤ 900) (hp2 : 0 ≤ (p2).toInt ∧ (p2).toInt ≤ 900) (hp3 : 0 ≤ (p3).toInt ∧ (p3).toInt ≤ 900) (hp4 : 0 ≤ (p4).toInt ∧ (p4).toInt ≤ 900) (hp5 : (-2147483648) ≤ (p5).toInt ∧ (p5).toInt ≤ 2147483647) (hp6 : 0 ≤ (p6).toInt ∧ (p6).toInt ≤ 999) (hp7 : (-2147483648) ≤ (p7).toInt ∧ (p7).toInt ≤ 2147483647) (hp8 : (-2147483648) ≤ (p8).toInt ∧ (p8).toInt ≤ 2147483647) (hp9 : (-2147483648) ≤ (p9).toInt ∧ (p9).toInt ≤ 2147483647) (hp10 : (-2147483648) ≤ (p10).toInt ∧ (p10).toInt ≤ 2147483647) (hp11 : (-2147483648) ≤ (p11).toInt ∧ (p11).toInt ≤ 2147483647) (hp12 : (-2147483648) ≤ (p12).toInt ∧ (p12).toInt ≤ 2147483647) (hp13 : (-2147483648) ≤ (p13).toInt ∧ (p13).toInt ≤ 2147483647) (hp14 : (-2147483648) ≤ (p14).toInt ∧ (p14).toInt ≤ 2147483647) (hp15 : (-2147483648) ≤ (p15).toInt ∧ (p15).toInt ≤ 2147483647) (hp16 : (-2147483648) ≤ (p16).toInt ∧ (p16).toInt ≤ 2147483647) (hpre0 : 0 ≤ (p3 : Int32).toInt ∧ (p3 : Int32).toInt ≤ (p4 : Int32).toInt) (sz : Nat) : MV l yX12_next cX12_next 2 { frames := 5, cells := 0, slots := 0, locals := 108 } [.ref h0] D cy (wk_253faa1b8 cy h0 p0 w0 w1 h1 w2 p1 p2 p3 p4 p5 p6 p7 p8 p9 p10 p11 w3 w4 w5 w6 w7 p12 p13 w8 w9 w10 p14 p15 w11 w12 w13 w14 w15 p16 w16 w17 w18 h1 f0) sz (fun u => (0 ≤ (u.2.1 0 0).toInt ∧ (u.2.1 0 0).toInt ≤ 900) ∧ (0 ≤ (u.2.1 1 0).toInt ∧ (u.2.1 1 0).toInt ≤ 900) ∧ (0 ≤ (u.2.1 2 0).toInt ∧ (u.2.1 2 0).toInt ≤ 63) ∧ (0 ≤ (u.2.1 3 0).toInt ∧ (u.2.1 3 0).toInt ≤ 999) ∧ (0 ≤ ((u.2.1 0 0) : Int32).toInt ∧ ((u.2.1 0 0) : Int32).toInt ≤ ((u.2.1 1 0) : Int32).toInt ∧ ((u.2.1 1 0) : Int32).toInt ≤ (p4 : Int32).toInt) ∧ (((u.2.1 2 0) : Int32).toInt = 26 ∨ ((u.2.1 0 0) : Int32).toInt < ((u.2.1 1 0) : Int32).toInt) ∧ ((p3 : Int32).toInt ≤ ((u.2.1 0 0) : Int32).toInt) ∧ (NXR f0 (p4 : Int32).toInt (p3 : Int32).toInt ((u.2.1 0 0) : Int32).toInt ((u.2.1 1 0) : Int32).toInt ((u.2.1 2 0) : Int32).toInt ((u.2.1 3 0) : Int32).toInt) ∧ True) (fun u => (wk_253faa1b8 cy h0 p0 w0 w1 h1 w2 p1 (u.2.1 0 0) (u.2.1 1 0) p4 (u.2.1 2 0) (u.2.1 3 0) p7 p8 p9 p10 p11 w3 w4 w5 w6 w7 p12 p13 w8 w9 w10 p14 p15 w11 w12 w13 w14 w15 p16 w16 w17 w18 h1 f0)) 0 0 := by
  refine q_ent (own := RX12) (by decide) rfl (Nat.le_of_ble_eq_true rfl) (fun p e s m below meth c ls X hr hlk hnm hK hT h hA hl => ?_)
  obtain ⟨hx, hb, hml, hown, ht⟩ := id X
  replace hl : lv_has ls 2 [(0, .ref h0)] := hl
  refine lv_aload_n hx hb dX12_next_0 rfl (lv_at hl 0 rfl) ?_
  refine lv_aload_n hx hb dX12_next_1 rfl (lv_at hl 0 rfl) ?_
  refine q_get X hK h 0 rfl rfl wf_12 7 (by decide) rfl wm_5_177 dX12_next_2 ?_
  refine q_put (v := .int p3) X hK h 0 rfl rfl wf_12 tyX12 tyX12_ok nmX12 6 (by decide) wm_5_176 rfl rfl rfl (Nat.le_of_ble_eq_true rfl) dX12_next_5 (fun H locs h_1 => ?_)
  clear h
  replace h_1 : qW D _ _ (wk_253faa1b8 cy h0 p0 w0 w1 h1 w2 p1 p3 p3 p4 p5 p6 p7 p8 p9 p10 p11 w3 w4 w5 w6 w7 p12 p13 w8 w9 w10 p14 p15 w11 w12 w13 w14 w15 p16 w16 w17 w18 h1 f0) _ _ := h_1
  refine q_wl (fun (v8_2_0 : Int32) H locs ls => (0 ≤ (v8_2_0).toInt ∧ (v8_2_0).toInt ≤ 900) ∧ ((p3 : Int32).toInt ≤ (v8_2_0 : Int32).toInt ∧ (v8_2_0 : Int32).toInt ≤ (p4 : Int32).toInt) ∧ (BLM f0 (p3 : Int32).toInt (v8_2_0 : Int32).toInt) ∧ qW D (va_A (wk_253faa1b8 cy h0 p0 w0 w1 h1 w2 p1 p2 p3 p4 p5 p6 p7 p8 p9 p10 p11 w3 w4 w5 w6 w7 p12 p13 w8 w9 w10 p14 p15 w11 w12 w13 w14 w15 p16 w16 w17 w18 h1 f0) sz) s.heap (wk_253faa1b8 cy h0 p0 w0 w1 h1 w2 p1 v8_2_0 p3 p4 p5 p6 p7 p8 p9 p10 p11 w3 w4 w5 w6 w7 p12 p13 w8 w9 w10 p14 p15 w11 w12 w13 w14 w15 p16 w16 w17 w18 h1 f0) H locs ∧ lv_has ls 2 [(0, .ref h0)]) (fun (v8_2_0 : Int32) => (901 - (v8_2_0).toInt).toNat) (fun q_8 ih_8 H locs ls hP => ?_) p3 ⟨hp3, (by omega), (blm_0 rfl), h_1, (lv_sub hl [0] rfl)⟩
  obtain ⟨v8_2_0, rfl⟩ : ∃ z, z = q_8 := ⟨_, rfl⟩
  obtain ⟨hv8_2_0, x3_0, x4_1, h, hl⟩ := hP
  refine lv_aload_n hx hb dX12_next_8 rfl (lv_at hl 0 rfl) ?_
  refine lv_aload_n hx hb dX12_next_9 rfl (lv_at hl 0 rfl) ?_
  refine q_get X hK h 0 rfl rfl wf_12 6 (by decide) rfl wm_5_176 dX12_next_10 ?_
  refine q_callVi (rest := []) (wr := []) X hK hT hA h (fun sz => gX12_see_ef51ce6 l D cy h0 h1 v8_2_0 p0 w0 w1 w2 p1 p3 p4 p5 p6 p7 p8 p9 p10 p11 w3 w4 w5 w6 w7 p12 p13 w8 w9 w10 p14 p15 w11 w12 w13 w14 w15 p16 w16 w17 w18 f0 hv8_2_0 hp0 hp1 hp3 hp4 (i_rng _) hp6 (i_rng _) (i_rng _) (i_rng _) (i_rng _) (i_rng _) (i_rng _) (i_rng _) (i_rng _) (i_rng _) (i_rng _) sz) wm_6_57 wm_6_60 wm_1_12 hd_X12_see wm_6_59 wp_4_4 (ci := 12) (q0 := 0) rfl rfl ⟨Nat.le_of_ble_eq_true rfl, Nat.le_of_ble_eq_true rfl⟩ hl.1 rfl (Nat.le_of_ble_eq_true rfl) dX12_next_13 ⟨Nat.le_of_ble_eq_true rfl, Nat.le_of_ble_eq_true rfl⟩ [0, 1] [] rfl rfl (by decide) rfl rfl (fun r_5 u_5 H locs w_5 h_5 => ?_)
  clear h
  obtain ⟨wr_5, y5_0, _⟩ := w_5
  replace h_5 : qW D _ _ (wk_253faa1b8 cy h0 p0 w0 w1 h1 w2 p1 v8_2_0 p3 p4 p5 p6 p7 p8 p9 p10 p11 w3 w4 w5 w6 w7 p12 p13 w8 w9 w10 p14 p15 w11 w12 w13 w14 w15 p16 w16 w17 w18 h1 f0) _ _ := h_5
  refine lv_bipush (v := 10) hx hb dX12_next_16 (by decide) ?_
  refine q_jn (pc2 := 34) (fun H locs ls st => ((v8_2_0 : Int32).toInt < (p4 : Int32).toInt) ∧ (BLM f0 (p3 : Int32).toInt ((v8_2_0 : Int32).toInt + 1)) ∧ st = [] ∧ qW D (va_A (wk_253faa1b8 cy h0 p0 w0 w1 h1 w2 p1 p2 p3 p4 p5 p6 p7 p8 p9 p10 p11 w3 w4 w5 w6 w7 p12 p13 w8 w9 w10 p14 p15 w11 w12 w13 w14 w15 p16 w16 w17 w18 h1 f0) sz) s.heap (wk_253faa1b8 cy h0 p0 w0 w1 h1 w2 p1 v8_2_0 p3 p4 p5 p6 p7 p8 p9 p10 p11 w3 w4 w5 w6 w7 p12 p13 w8 w9 w10 p14 p15 w11 w12 w13 w14 w15 p16 w16 w17 w18 h1 f0) H locs ∧ lv_has ls 2 [(0, .ref h0)]) (fun H locs ls st hP => ?_) (fun J_34 => ?_)
  · obtain ⟨x7_0, x8_1, rfl, h, hl⟩ := hP
    refine lv_aload_n hx hb dX12_next_34 rfl (lv_at hl 0 rfl) ?_
    refine lv_dup hx hb dX12_next_35 rfl ?_
    refine q_get X hK h 0 rfl rfl wf_12 6 (by decide) rfl wm_5_176 dX12_next_36 ?_
    refine lv_iconst (v := 1) hx hb dX12_next_39 (by decide) ?_
    refine lv_iadd hx hb dX12_next_40 ?_
    obtain ⟨z_9, ez_9, hz_9⟩ := e_add (x := v8_2_0) (y := 1) rfl (show (1 : Int32).toInt = 1 by decide) (by omega) (by omega)
    refine q_c z_9 ez_9 ?_
    clear ez_9
    refine q_put (v := .int z_9) X hK h 0 rfl rfl wf_12 tyX12 tyX12_ok nmX12 6 (by decide) wm_5_176 rfl rfl rfl (Nat.le_of_ble_eq_true rfl) dX12_next_41 (fun H locs h_10 => ?_)
    clear h
    replace h_10 : qW D _ _ (wk_253faa1b8 cy h0 p0 w0 w1 h1 w2 p1 z_9 p3 p4 p5 p6 p7 p8 p9 p10 p11 w3 w4 w5 w6 w7 p12 p13 w8 w9 w10 p14 p15 w11 w12 w13 w14 w15 p16 w16 w17 w18 h1 f0) _ _ := h_10
    refine lv_goto (tgt := 8) hx hb dX12_next_44 (by decide) ?_
    exact ih_8 z_9 (by show (901 - (z_9).toInt).toNat < (901 - (v8_2_0).toInt).toNat; omega) _ _ _ ⟨⟨by omega, by omega⟩, (by (first | (clear y5_0; omega) | omega)), (blm_e x8_1 (by (first | assumption | (clear y5_0; omega) | omega))), h_10, (lv_sub hl [0] rfl)⟩
  · skip
    refine lv_icmp_eq (tgt := 34) hx hb dX12_next_18 (by decide) (fun c_11 => ?_) (fun c_11 => ?_)
    · replace c_11 := i_eq (x := r_5) (y := 10) rfl (show (10 : Int32).toInt = 10 by decide) c_11
      exact J_34 _ _ _ _ ⟨(by (first | (clear y5_0; omega) | omega)), (blm_s x4_1 (by (first | assumption | (clear y5_0; omega) | omega)) y5_0 (by (first | assumption | (clear y5_0; omega) | omega)) rfl), rfl, h_5, (lv_sub hl [0] rfl)⟩
    · replace c_11 := i_ne (x := r_5) (y := 10) rfl (show (10 : Int32).toInt = 10 by decide) c_11
      refine lv_aload_n hx hb dX12_next_21 rfl (lv_at hl 0 rfl) ?_
      refine lv_aload_n hx hb dX12_next_22 rfl (lv_at hl 0 rfl) ?_
      refine q_get X hK h_5 0 rfl rfl wf_12 6 (by decide) rfl wm_5_176 dX12_next_23 ?_
      refine q_callVi (rest := []) (wr := []) X hK hT hA h_5 (fun sz => gX12_see_ef51ce6 l D cy h0 h1 v8_2_0 p0 w0 w1 w2 p1 p3 p4 p5 p6 p7 p8 p9 p10 p11 w3 w4 w5 w6 w7 p12 p13 w8 w9 w10 p14 p15 w11 w12 w13 w14 w15 p16 w16 w17 w18 f0 hv8_2_0 hp0 hp1 hp3 hp4 (i_rng _) hp6 (i_rng _) (i_rng _) (i_rng _) (i_rng _) (i_rng _) (i_rng _) (i_rng _) (i_rng _) (i_rng _) (i_rng _) sz) wm_6_57 wm_6_60 wm_1_12 hd_X12_see wm_6_59 wp_4_4 (ci := 12) (q0 := 0) rfl rfl ⟨Nat.le_of_ble_eq_true rfl, Nat.le_of_ble_eq_true rfl⟩ hl.1 rfl (Nat.le_of_ble_eq_true rfl) dX12_next_26 ⟨Nat.le_of_ble_eq_true rfl, Nat.le_of_ble_eq_true rfl⟩ [0, 1] [] rfl rfl (by decide) rfl rfl (fun r_12 u_12 H locs w_12 h_12 => ?_)
      clear h_5
      obtain ⟨wr_12, y12_0, _⟩ := w_12
      replace h_12 : qW D _ _ (wk_253faa1b8 cy h0 p0 w0 w1 h1 w2 p1 v8_2_0 p3 p4 p5 p6 p7 p8 p9 p10 p11 w3 w4 w5 w6 w7 p12 p13 w8 w9 w10 p14 p15 w11 w12 w13 w14 w15 p16 w16 w17 w18 h1 f0) _ _ := h_12
      refine lv_bipush (v := 32) hx hb dX12_next_29 (by decide) ?_
      refine lv_icmp_ne (tgt := 47) hx hb dX12_next_31 (by decide) (fun c_13 => ?_) (fun c_13 => ?_)
      · replace c_13 := i_ne (x := r_12) (y := 32) rfl (show (32 : Int32).toInt = 32 by decide) c_13
        have ts_14 := tsm_of x4_1 (by (first | assumption | (clear y5_0 y12_0; omega) | omega)) (by (first | assumption | (clear y5_0 y12_0; omega) | omega)) y5_0 (by (first | assumption | (clear y5_0 y12_0; omega) | omega)) y12_0 (by (first | assumption | (clear y5_0 y12_0; omega) | omega))
        refine lv_aload_n hx hb dX12_next_47 rfl (lv_at hl 0 rfl) ?_
        refine lv_aload_n hx hb dX12_next_48 rfl (lv_at hl 0 rfl) ?_
        refine q_get X hK h_12 0 rfl rfl wf_12 6 (by decide) rfl wm_5_176 dX12_next_49 ?_
        refine q_put (v := .int v8_2_0) X hK h_12 0 rfl rfl wf_12 tyX12 tyX12_ok nmX12 7 (by decide) wm_5_177 rfl rfl rfl (Nat.le_of_ble_eq_true rfl) dX12_next_52 (fun H locs h_15 => ?_)
        clear h_12
        replace h_15 : qW D _ _ (wk_253faa1b8 cy h0 p0 w0 w1 h1 w2 p1 v8_2_0 v8_2_0 p4 p5 p6 p7 p8 p9 p10 p11 w3 w4 w5 w6 w7 p12 p13 w8 w9 w10 p14 p15 w11 w12 w13 w14 w15 p16 w16 w17 w18 h1 f0) _ _ := h_15
        refine lv_aload_n hx hb dX12_next_55 rfl (lv_at hl 0 rfl) ?_
        refine q_get X hK h_15 0 rfl rfl wf_12 6 (by decide) rfl wm_5_176 dX12_next_56 ?_
        refine lv_aload_n hx hb dX12_next_59 rfl (lv_at hl 0 rfl) ?_
        refine q_get X hK h_15 0 rfl rfl wf_12 8 (by decide) rfl wm_5_178 dX12_next_60 ?_
        refine lv_icmp_lt (tgt := 75) hx hb dX12_next_63 (by decide) (fun c_16 => ?_) (fun c_16 => ?_)
        · replace c_16 := i_lt (x := v8_2_0) (y := p4) rfl rfl c_16
          refine lv_aload_n hx hb dX12_next_75 rfl (lv_at hl 0 rfl) ?_
          refine lv_aload_n hx hb dX12_next_76 rfl (lv_at hl 0 rfl) ?_
          refine q_get X hK h_15 0 rfl rfl wf_12 6 (by decide) rfl wm_5_176 dX12_next_77 ?_
          refine q_callVi (rest := []) (wr := []) X hK hT hA h_15 (fun sz => gX12_see_c803b73 l D cy h0 h1 v8_2_0 p0 w0 w1 w2 p1 p4 p5 p6 p7 p8 p9 p10 p11 w3 w4 w5 w6 w7 p12 p13 w8 w9 w10 p14 p15 w11 w12 w13 w14 w15 p16 w16 w17 w18 f0 hv8_2_0 hp0 hp1 hp4 (i_rng _) hp6 (i_rng _) (i_rng _) (i_rng _) (i_rng _) (i_rng _) (i_rng _) (i_rng _) (i_rng _) (i_rng _) (i_rng _) sz) wm_6_57 wm_6_60 wm_1_12 hd_X12_see wm_6_59 wp_4_4 (ci := 12) (q0 := 0) rfl rfl ⟨Nat.le_of_ble_eq_true rfl, Nat.le_of_ble_eq_true rfl⟩ hl.1 rfl (Nat.le_of_ble_eq_true rfl) dX12_next_80 ⟨Nat.le_of_ble_eq_true rfl, Nat.le_of_ble_eq_true rfl⟩ [0, 1] [] rfl rfl (by decide) rfl rfl (fun r_17 u_17 H locs w_17 h_17 => ?_)
          clear h_15
          obtain ⟨wr_17, y17_0, _⟩ := w_17
          replace h_17 : qW D _ _ (wk_253faa1b8 cy h0 p0 w0 w1 h1 w2 p1 v8_2_0 v8_2_0 p4 p5 p6 p7 p8 p9 p10 p11 w3 w4 w5 w6 w7 p12 p13 w8 w9 w10 p14 p15 w11 w12 w13 w14 w15 p16 w16 w17 w18 h1 f0) _ _ := h_17
          refine q_callSi (rest := []) (wr := (wk_253faa1b8 cy h0 p0 w0 w1 h1 w2 p1 v8_2_0 v8_2_0 p4 p5 p6 p7 p8 p9 p10 p11 w3 w4 w5 w6 w7 p12 p13 w8 w9 w10 p14 p15 w11 w12 w13 w14 w15 p16 w16 w17 w18 h1 f0)) X hK hT hA h_17 (fun sz => gX12_isSmall_57f175a l D cy r_17 (i_rng _) sz) wm_6_61 wm_6_63 wm_1_12 hd_X12_isSmall wm_6_62 ⟨Nat.le_of_ble_eq_true rfl, Nat.le_of_ble_eq_true rfl⟩ hl.1 rfl (Nat.le_of_ble_eq_true rfl) dX12_next_83 ⟨Nat.le_of_ble_eq_true rfl, Nat.le_of_ble_eq_true rfl⟩ [] [0, 1] rfl rfl (by decide) rfl rfl (fun r_18 u_18 H locs w_18 h_18 => ?_)
          clear h_17
          obtain ⟨wr_18, y18_0, _⟩ := w_18
          replace h_18 : qW D _ _ (wk_253faa1b8 cy h0 p0 w0 w1 h1 w2 p1 v8_2_0 v8_2_0 p4 p5 p6 p7 p8 p9 p10 p11 w3 w4 w5 w6 w7 p12 p13 w8 w9 w10 p14 p15 w11 w12 w13 w14 w15 p16 w16 w17 w18 h1 f0) _ _ := h_18
          refine lv_if_eq (tgt := 127) hx hb dX12_next_86 (by decide) (fun c_19 => ?_) (fun c_19 => ?_)
          · replace c_19 := i_eq (x := r_18) (y := 0) rfl (show (0 : Int32).toInt = 0 by decide) c_19
            refine lv_aload_n hx hb dX12_next_127 rfl (lv_at hl 0 rfl) ?_
            refine lv_aload_n hx hb dX12_next_128 rfl (lv_at hl 0 rfl) ?_
            refine q_get X hK h_18 0 rfl rfl wf_12 6 (by decide) rfl wm_5_176 dX12_next_129 ?_
            refine q_callVi (rest := []) (wr := []) X hK hT hA h_18 (fun sz => gX12_see_c803b73 l D cy h0 h1 v8_2_0 p0 w0 w1 w2 p1 p4 p5 p6 p7 p8 p9 p10 p11 w3 w4 w5 w6 w7 p12 p13 w8 w9 w10 p14 p15 w11 w12 w13 w14 w15 p16 w16 w17 w18 f0 hv8_2_0 hp0 hp1 hp4 (i_rng _) hp6 (i_rng _) (i_rng _) (i_rng _) (i_rng _) (i_rng _) (i_rng _) (i_rng _) (i_rng _) (i_rng _) (i_rng _) sz) wm_6_57 wm_6_60 wm_1_12 hd_X12_see wm_6_59 wp_4_4 (ci := 12) (q0 := 0) rfl rfl ⟨Nat.le_of_ble_eq_true rfl, Nat.le_of_ble_eq_true rfl⟩ hl.1 rfl (Nat.le_of_ble_eq_true rfl) dX12_next_132 ⟨Nat.le_of_ble_eq_true rfl, Nat.le_of_ble_eq_true rfl⟩ [0, 1] [] rfl rfl (by decide) rfl rfl (fun r_20 u_20 H locs w_20 h_20 => ?_)
            clear h_18
            obtain ⟨wr_20, y20_0, _⟩ := w_20
            replace h_20 : qW D _ _ (wk_253faa1b8 cy h0 p0 w0 w1 h1 w2 p1 v8_2_0 v8_2_0 p4 p5 p6 p7 p8 p9 p10 p11 w3 w4 w5 w6 w7 p12 p13 w8 w9 w10 p14 p15 w11 w12 w13 w14 w15 p16 w16 w17 w18 h1 f0) _ _ := h_20
            refine q_callSi (rest := []) (wr := (wk_253faa1b8 cy h0 p0 w0 w1 h1 w2 p1 v8_2_0 v8_2_0 p4 p5 p6 p7 p8 p9 p10 p11 w3 w4 w5 w6 w7 p12 p13 w8 w9 w10 p14 p15 w11 w12 w13 w14 w15 p16 w16 w17 w18 h1 f0)) X hK hT hA h_20 (fun sz => gX12_isDigit_703c4e6 l D cy r_20 (i_rng _) sz) wm_6_71 wm_6_73 wm_1_12 hd_X12_isDigit wm_6_72 ⟨Nat.le_of_ble_eq_true rfl, Nat.le_of_ble_eq_true rfl⟩ hl.1 rfl (Nat.le_of_ble_eq_true rfl) dX12_next_135 ⟨Nat.le_of_ble_eq_true rfl, Nat.le_of_ble_eq_true rfl⟩ [] [0, 1] rfl rfl (by decide) rfl rfl (fun r_21 u_21 H locs w_21 h_21 => ?_)
            clear h_20
            obtain ⟨wr_21, y21_0, _⟩ := w_21
            replace h_21 : qW D _ _ (wk_253faa1b8 cy h0 p0 w0 w1 h1 w2 p1 v8_2_0 v8_2_0 p4 p5 p6 p7 p8 p9 p10 p11 w3 w4 w5 w6 w7 p12 p13 w8 w9 w10 p14 p15 w11 w12 w13 w14 w15 p16 w16 w17 w18 h1 f0) _ _ := h_21
            refine lv_if_eq (tgt := 236) hx hb dX12_next_138 (by decide) (fun c_22 => ?_) (fun c_22 => ?_)
            · replace c_22 := i_eq (x := r_21) (y := 0) rfl (show (0 : Int32).toInt = 0 by decide) c_22
              refine lv_aload_n hx hb dX12_next_236 rfl (lv_at hl 0 rfl) ?_
              refine lv_dup hx hb dX12_next_237 rfl ?_
              refine q_get X hK h_21 0 rfl rfl wf_12 7 (by decide) rfl wm_5_177 dX12_next_238 ?_
              refine lv_iconst (v := 1) hx hb dX12_next_241 (by decide) ?_
              refine lv_iadd hx hb dX12_next_242 ?_
              obtain ⟨z_23, ez_23, hz_23⟩ := e_add (x := v8_2_0) (y := 1) rfl (show (1 : Int32).toInt = 1 by decide) (by omega) (by omega)
              refine q_c z_23 ez_23 ?_
              clear ez_23
              refine q_put (v := .int z_23) X hK h_21 0 rfl rfl wf_12 tyX12 tyX12_ok nmX12 7 (by decide) wm_5_177 rfl rfl rfl (Nat.le_of_ble_eq_true rfl) dX12_next_243 (fun H locs h_24 => ?_)
              clear h_21
              replace h_24 : qW D _ _ (wk_253faa1b8 cy h0 p0 w0 w1 h1 w2 p1 v8_2_0 z_23 p4 p5 p6 p7 p8 p9 p10 p11 w3 w4 w5 w6 w7 p12 p13 w8 w9 w10 p14 p15 w11 w12 w13 w14 w15 p16 w16 w17 w18 h1 f0) _ _ := h_24
              refine lv_aload_n hx hb dX12_next_246 rfl (lv_at hl 0 rfl) ?_
              refine lv_bipush (v := 27) hx hb dX12_next_247 (by decide) ?_
              refine q_put (v := .int 27) X hK h_24 0 rfl rfl wf_12 tyX12 tyX12_ok nmX12 9 (by decide) wm_5_179 rfl rfl rfl (Nat.le_of_ble_eq_true rfl) dX12_next_249 (fun H locs h_25 => ?_)
              clear h_24
              replace h_25 : qW D _ _ (wk_253faa1b8 cy h0 p0 w0 w1 h1 w2 p1 v8_2_0 z_23 p4 27 p6 p7 p8 p9 p10 p11 w3 w4 w5 w6 w7 p12 p13 w8 w9 w10 p14 p15 w11 w12 w13 w14 w15 p16 w16 w17 w18 h1 f0) _ _ := h_25
              refine lv_iconst (v := 0) hx hb dX12_next_252 (by decide) ?_
              refine lv_istore_n (lv' := [(1, .int 0), (0, .ref h0)]) hx hb dX12_next_253 rfl hl (by decide) rfl (fun ls_26 hl_26 => ?_)
              clear hl
              refine q_wl (fun (q : Int32 × Int32) H locs ls => match q with | (v254_27_0, v254_27_1) => (0 ≤ (v254_27_0).toInt ∧ (v254_27_0).toInt ≤ 20) ∧ (27 ≤ (v254_27_1).toInt ∧ (v254_27_1).toInt ≤ 63) ∧ (SGK (f0 (v8_2_0 : Int32).toNatClampNeg).toInt (v254_27_0 : Int32).toInt (v254_27_1 : Int32).toInt) ∧ qW D (va_A (wk_253faa1b8 cy h0 p0 w0 w1 h1 w2 p1 p2 p3 p4 p5 p6 p7 p8 p9 p10 p11 w3 w4 w5 w6 w7 p12 p13 w8 w9 w10 p14 p15 w11 w12 w13 w14 w15 p16 w16 w17 w18 h1 f0) sz) s.heap (wk_253faa1b8 cy h0 p0 w0 w1 h1 w2 p1 v8_2_0 z_23 p4 v254_27_1 p6 p7 p8 p9 p10 p11 w3 w4 w5 w6 w7 p12 p13 w8 w9 w10 p14 p15 w11 w12 w13 w14 w15 p16 w16 w17 w18 h1 f0) H locs ∧ lv_has ls 2 [(0, .ref h0), (1, .int v254_27_0)]) (fun (q : Int32 × Int32) => match q with | (v254_27_0, v254_27_1) => (21 - (v254_27_0).toInt).toNat) (fun q_254 ih_254 H locs ls hP => ?_) (0, 27) ⟨⟨by decide +kernel, by decide +kernel⟩, ⟨by decide +kernel, by decide +kernel⟩, (sgk_0 (by decide) (by decide)), h_25, (lv_sub hl_26 [1, 0] rfl)⟩
              obtain ⟨v254_27_0, v254_27_1⟩ := q_254
              obtain ⟨hv254_27_0, hv254_27_1, x28_0, h, hl⟩ := hP
              refine lv_iload_n hx hb dX12_next_254 rfl (lv_at hl 1 rfl) ?_
              refine q_ldc3 X hT dX12_next_255 ?_
              refine q_callGi (rest := [.int v254_27_0]) (wr := (wk_253faa1b8 cy h0 p0 w0 w1 h1 w2 p1 v8_2_0 z_23 p4 v254_27_1 p6 p7 p8 p9 p10 p11 w3 w4 w5 w6 w7 p12 p13 w8 w9 w10 p14 p15 w11 w12 w13 w14 w15 p16 w16 w17 w18 h1 f0)) X hK hT hA h (fun sz => gJ0_length_8abf5_3e0234a l D cy   sz) wm_6_69 wm_2_197 wm_1_14 hd_J0_length_8abf5 rfl wm_2_195 wm_2_196 3 (by decide) rfl ⟨Nat.le_of_ble_eq_true rfl, Nat.le_of_ble_eq_true rfl⟩ hl.1 rfl (Nat.le_of_ble_eq_true rfl) dX12_next_257 ⟨Nat.le_of_ble_eq_true rfl, Nat.le_of_ble_eq_true rfl⟩ [] [0, 1] rfl rfl (by decide) rfl rfl (fun r_29 u_29 H locs w_29 h_29 => ?_)
              clear h
              obtain ⟨wr_29, _⟩ := w_29
              obtain rfl : r_29 = 12 := wr_29
              replace h_29 : qW D _ _ (wk_253faa1b8 cy h0 p0 w0 w1 h1 w2 p1 v8_2_0 z_23 p4 v254_27_1 p6 p7 p8 p9 p10 p11 w3 w4 w5 w6 w7 p12 p13 w8 w9 w10 p14 p15 w11 w12 w13 w14 w15 p16 w16 w17 w18 h1 f0) _ _ := h_29
              refine lv_icmp_ge (tgt := 294) hx hb dX12_next_260 (by decide) (fun c_30 => ?_) (fun c_30 => ?_)
              · replace c_30 := i_le (x := 12) (y := v254_27_0) (show (12 : Int32).toInt = 12 by decide) rfl c_30
                exact q_vret X hr hlk hK h_29 (fun _ => 0, (vcons (fun _ => v8_2_0) (vcons (fun _ => z_23) (vcons (fun _ => v254_27_1) (vcons (fun _ => p6) (fun _ => (fun _ => 0)))))), fun _ _ => 0) ⟨hv8_2_0, (⟨by omega, by omega⟩ : 0 ≤ (z_23 : Int32).toInt ∧ (z_23 : Int32).toInt ≤ 900), (bw hv254_27_1 (by decide) (by decide)), hp6, (show 0 ≤ (v8_2_0 : Int32).toInt ∧ (v8_2_0 : Int32).toInt ≤ (z_23 : Int32).toInt ∧ (z_23 : Int32).toInt ≤ (p4 : Int32).toInt from by (first | (clear y5_0 y12_0 y17_0 y18_0 y20_0 y21_0; omega) | omega)), (show (v254_27_1 : Int32).toInt = 26 ∨ (v8_2_0 : Int32).toInt < (z_23 : Int32).toInt from by (first | (clear y5_0 y12_0 y17_0 y18_0 y20_0 y21_0; omega) | omega)), (show (p3 : Int32).toInt ≤ (v8_2_0 : Int32).toInt from by (first | (clear y5_0 y12_0 y17_0 y18_0 y20_0 y21_0; omega) | omega)), (show NXR f0 (p4 : Int32).toInt (p3 : Int32).toInt (v8_2_0 : Int32).toInt (z_23 : Int32).toInt (v254_27_1 : Int32).toInt (p6 : Int32).toInt from nxr_s ts_14 (by (first | assumption | (clear y5_0 y12_0 y17_0 y18_0 y20_0 y21_0; omega) | omega)) (by (first | assumption | (clear y5_0 y12_0 y17_0 y18_0 y20_0 y21_0; omega) | omega)) y17_0 y18_0 (by (first | assumption | (clear y5_0 y12_0 y17_0 y18_0 y20_0 y21_0; omega) | omega)) y20_0 y21_0 (by (first | assumption | (clear y5_0 y12_0 y17_0 y18_0 y20_0 y21_0; omega) | omega)) (by (first | assumption | (clear y5_0 y12_0 y17_0 y18_0 y20_0 y21_0; omega) | omega)) (sgk_e x28_0 (by (first | assumption | (clear y5_0 y12_0 y17_0 y18_0 y20_0 y21_0; omega) | omega)))), trivial⟩ [0, 1] rfl rfl dX12_next_294 (Nat.le_of_ble_eq_true rfl) (Nat.le_of_ble_eq_true rfl)
              · replace c_30 := i_nle (x := 12) (y := v254_27_0) (show (12 : Int32).toInt = 12 by decide) rfl c_30
                refine lv_aload_n hx hb dX12_next_263 rfl (lv_at hl 0 rfl) ?_
                refine lv_aload_n hx hb dX12_next_264 rfl (lv_at hl 0 rfl) ?_
                refine q_get X hK h_29 0 rfl rfl wf_12 6 (by decide) rfl wm_5_176 dX12_next_265 ?_
                refine q_callVi (rest := []) (wr := []) X hK hT hA h_29 (fun sz => gX12_see_ef51ce6 l D cy h0 h1 v8_2_0 p0 w0 w1 w2 p1 z_23 p4 v254_27_1 p6 p7 p8 p9 p10 p11 w3 w4 w5 w6 w7 p12 p13 w8 w9 w10 p14 p15 w11 w12 w13 w14 w15 p16 w16 w17 w18 f0 hv8_2_0 hp0 hp1 ⟨by omega, by omega⟩ hp4 (i_rng _) hp6 (i_rng _) (i_rng _) (i_rng _) (i_rng _) (i_rng _) (i_rng _) (i_rng _) (i_rng _) (i_rng _) (i_rng _) sz) wm_6_57 wm_6_60 wm_1_12 hd_X12_see wm_6_59 wp_4_4 (ci := 12) (q0 := 0) rfl rfl ⟨Nat.le_of_ble_eq_true rfl, Nat.le_of_ble_eq_true rfl⟩ hl.1 rfl (Nat.le_of_ble_eq_true rfl) dX12_next_268 ⟨Nat.le_of_ble_eq_true rfl, Nat.le_of_ble_eq_true rfl⟩ [0, 1] [] rfl rfl (by decide) rfl rfl (fun r_31 u_31 H locs w_31 h_31 => ?_)
                clear h_29
                obtain ⟨wr_31, y31_0, _⟩ := w_31
                replace h_31 : qW D _ _ (wk_253faa1b8 cy h0 p0 w0 w1 h1 w2 p1 v8_2_0 z_23 p4 v254_27_1 p6 p7 p8 p9 p10 p11 w3 w4 w5 w6 w7 p12 p13 w8 w9 w10 p14 p15 w11 w12 w13 w14 w15 p16 w16 w17 w18 h1 f0) _ _ := h_31
                refine q_ldc3 X hT dX12_next_271 ?_
                refine lv_iload_n hx hb dX12_next_273 rfl (lv_at hl 1 rfl) ?_
                refine q_callGi (rest := [.int r_31]) (wr := (wk_253faa1b8 cy h0 p0 w0 w1 h1 w2 p1 v8_2_0 z_23 p4 v254_27_1 p6 p7 p8 p9 p10 p11 w3 w4 w5 w6 w7 p12 p13 w8 w9 w10 p14 p15 w11 w12 w13 w14 w15 p16 w16 w17 w18 h1 f0)) X hK hT hA h_31 (fun sz => gJ0_charAt_5068e_e322d56 l D cy v254_27_0 ⟨by omega, by omega⟩ sz) wm_6_70 wm_2_207 wm_1_14 hd_J0_charAt_5068e rfl wm_2_205 wm_2_206 3 (by decide) rfl ⟨Nat.le_of_ble_eq_true rfl, Nat.le_of_ble_eq_true rfl⟩ hl.1 rfl (Nat.le_of_ble_eq_true rfl) dX12_next_274 ⟨Nat.le_of_ble_eq_true rfl, Nat.le_of_ble_eq_true rfl⟩ [] [0, 1] rfl rfl (by decide) rfl rfl (fun r_32 u_32 H locs w_32 h_32 => ?_)
                clear h_31
                obtain ⟨wr_32, y32_0, _⟩ := w_32
                replace h_32 : qW D _ _ (wk_253faa1b8 cy h0 p0 w0 w1 h1 w2 p1 v8_2_0 z_23 p4 v254_27_1 p6 p7 p8 p9 p10 p11 w3 w4 w5 w6 w7 p12 p13 w8 w9 w10 p14 p15 w11 w12 w13 w14 w15 p16 w16 w17 w18 h1 f0) _ _ := h_32
                refine q_jn (pc2 := 288) (fun H locs ls st => ∃ v288_33_0 : Int32, (27 ≤ (v288_33_0).toInt ∧ (v288_33_0).toInt ≤ 63) ∧ (SGK (f0 (v8_2_0 : Int32).toNatClampNeg).toInt ((v254_27_0 : Int32).toInt + 1) (v288_33_0 : Int32).toInt) ∧ st = [] ∧ qW D (va_A (wk_253faa1b8 cy h0 p0 w0 w1 h1 w2 p1 p2 p3 p4 p5 p6 p7 p8 p9 p10 p11 w3 w4 w5 w6 w7 p12 p13 w8 w9 w10 p14 p15 w11 w12 w13 w14 w15 p16 w16 w17 w18 h1 f0) sz) s.heap (wk_253faa1b8 cy h0 p0 w0 w1 h1 w2 p1 v8_2_0 z_23 p4 v288_33_0 p6 p7 p8 p9 p10 p11 w3 w4 w5 w6 w7 p12 p13 w8 w9 w10 p14 p15 w11 w12 w13 w14 w15 p16 w16 w17 w18 h1 f0) H locs ∧ lv_has ls 2 [(0, .ref h0), (1, .int v254_27_0)]) (fun H locs ls st hP => ?_) (fun J_288 => ?_)
                · obtain ⟨v288_33_0, hv288_33_0, x34_0, rfl, h, hl⟩ := hP
                  obtain ⟨z_35, ez_35, hz_35⟩ := e_add (x := v254_27_0) (y := Int32.ofInt 1) rfl (b := 1) (by decide) (by omega) (by omega)
                  refine lv_iinc (v := z_35) (lv' := [(1, .int z_35), (0, .ref h0)]) hx hb dX12_next_288 hl (k := 1) rfl ez_35 (by decide) rfl (fun ls_35 hl_35 => ?_)
                  clear hl
                  refine lv_goto (tgt := 254) hx hb dX12_next_291 (by decide) ?_
                  exact ih_254 (z_35, v288_33_0) (by show (21 - (z_35).toInt).toNat < (21 - (v254_27_0).toInt).toNat; omega) _ _ _ ⟨⟨by omega, by omega⟩, hv288_33_0, (sgk_n x34_0 (by (first | assumption | (clear y5_0 y12_0 y17_0 y18_0 y20_0 y21_0 y31_0; omega) | omega))), h, (lv_sub hl_35 [1, 0] rfl)⟩
                · skip
                  refine lv_icmp_ne (tgt := 288) hx hb dX12_next_277 (by decide) (fun c_36 => ?_) (fun c_36 => ?_)
                  · replace c_36 := i_ne (x := r_31) (y := r_32) rfl rfl c_36
                    exact J_288 _ _ _ _ ⟨v254_27_1, hv254_27_1, (sgk_s x28_0 (by (first | assumption | (clear y5_0 y12_0 y17_0 y18_0 y20_0 y21_0 y31_0; omega) | omega)) y32_0 (by (first | assumption | (clear y5_0 y12_0 y17_0 y18_0 y20_0 y21_0 y31_0; omega) | omega)) rfl rfl), rfl, h_32, (lv_sub hl [0, 1] rfl)⟩
                  · replace c_36 := i_eq (x := r_31) (y := r_32) rfl rfl c_36
                    refine lv_aload_n hx hb dX12_next_280 rfl (lv_at hl 0 rfl) ?_
                    refine lv_bipush (v := 30) hx hb dX12_next_281 (by decide) ?_
                    refine lv_iload_n hx hb dX12_next_283 rfl (lv_at hl 1 rfl) ?_
                    refine lv_iadd hx hb dX12_next_284 ?_
                    obtain ⟨z_37, ez_37, hz_37⟩ := e_add (x := 30) (y := v254_27_0) (show (30 : Int32).toInt = 30 by decide) rfl (by omega) (by omega)
                    refine q_c z_37 ez_37 ?_
                    clear ez_37
                    refine q_put (v := .int z_37) X hK h_32 0 rfl rfl wf_12 tyX12 tyX12_ok nmX12 9 (by decide) wm_5_179 rfl rfl rfl (Nat.le_of_ble_eq_true rfl) dX12_next_285 (fun H locs h_38 => ?_)
                    clear h_32
                    replace h_38 : qW D _ _ (wk_253faa1b8 cy h0 p0 w0 w1 h1 w2 p1 v8_2_0 z_23 p4 z_37 p6 p7 p8 p9 p10 p11 w3 w4 w5 w6 w7 p12 p13 w8 w9 w10 p14 p15 w11 w12 w13 w14 w15 p16 w16 w17 w18 h1 f0) _ _ := h_38
                    exact J_288 _ _ _ _ ⟨z_37, ⟨by omega, by omega⟩, (sgk_hit (x := v254_27_0) (by (first | assumption | (clear y5_0 y12_0 y17_0 y18_0 y20_0 y21_0 y31_0; omega) | omega)) (by (first | assumption | (clear y5_0 y12_0 y17_0 y18_0 y20_0 y21_0 y31_0; omega) | omega)) y32_0 (by (first | assumption | (clear y5_0 y12_0 y17_0 y18_0 y20_0 y21_0 y31_0; omega) | omega)) (by (first | assumption | (clear y5_0 y12_0 y17_0 y18_0 y20_0 y21_0 y31_0; omega) | omega))), rfl, h_38, (lv_sub hl [0, 1] rfl)⟩
            · replace c_22 := i_ne (x := r_21) (y := 0) rfl (show (0 : Int32).toInt = 0 by decide) c_22
              refine lv_aload_n hx hb dX12_next_141 rfl (lv_at hl 0 rfl) ?_
              refine lv_iconst (v := 0) hx hb dX12_next_142 (by decide) ?_
              refine q_put (v := .int 0) X hK h_21 0 rfl rfl wf_12 tyX12 tyX12_ok nmX12 10 (by decide) wm_5_180 rfl rfl rfl (Nat.le_of_ble_eq_true rfl) dX12_next_143 (fun H locs h_39 => ?_)
              clear h_21
              replace h_39 : qW D _ _ (wk_253faa1b8 cy h0 p0 w0 w1 h1 w2 p1 v8_2_0 v8_2_0 p4 p5 0 p7 p8 p9 p10 p11 w3 w4 w5 w6 w7 p12 p13 w8 w9 w10 p14 p15 w11 w12 w13 w14 w15 p16 w16 w17 w18 h1 f0) _ _ := h_39
              refine lv_aload_n hx hb dX12_next_146 rfl (lv_at hl 0 rfl) ?_
              refine lv_aload_n hx hb dX12_next_147 rfl (lv_at hl 0 rfl) ?_
              refine q_get X hK h_39 0 rfl rfl wf_12 7 (by decide) rfl wm_5_177 dX12_next_148 ?_
              refine q_callVi (rest := []) (wr := []) X hK hT hA h_39 (fun sz => gX12_see_c803b73 l D cy h0 h1 v8_2_0 p0 w0 w1 w2 p1 p4 p5 (0 : Int32) p7 p8 p9 p10 p11 w3 w4 w5 w6 w7 p12 p13 w8 w9 w10 p14 p15 w11 w12 w13 w14 w15 p16 w16 w17 w18 f0 hv8_2_0 hp0 hp1 hp4 (i_rng _) ⟨by decide +kernel, by decide +kernel⟩ (i_rng _) (i_rng _) (i_rng _) (i_rng _) (i_rng _) (i_rng _) (i_rng _) (i_rng _) (i_rng _) (i_rng _) sz) wm_6_57 wm_6_60 wm_1_12 hd_X12_see wm_6_59 wp_4_4 (ci := 12) (q0 := 0) rfl rfl ⟨Nat.le_of_ble_eq_true rfl, Nat.le_of_ble_eq_true rfl⟩ hl.1 rfl (Nat.le_of_ble_eq_true rfl) dX12_next_151 ⟨Nat.le_of_ble_eq_true rfl, Nat.le_of_ble_eq_true rfl⟩ [0, 1] [] rfl rfl (by decide) rfl rfl (fun r_40 u_40 H locs w_40 h_40 => ?_)
              clear h_39
              obtain ⟨wr_40, y40_0, _⟩ := w_40
              replace h_40 : qW D _ _ (wk_253faa1b8 cy h0 p0 w0 w1 h1 w2 p1 v8_2_0 v8_2_0 p4 p5 0 p7 p8 p9 p10 p11 w3 w4 w5 w6 w7 p12 p13 w8 w9 w10 p14 p15 w11 w12 w13 w14 w15 p16 w16 w17 w18 h1 f0) _ _ := h_40
              refine q_callSi (rest := []) (wr := (wk_253faa1b8 cy h0 p0 w0 w1 h1 w2 p1 v8_2_0 v8_2_0 p4 p5 0 p7 p8 p9 p10 p11 w3 w4 w5 w6 w7 p12 p13 w8 w9 w10 p14 p15 w11 w12 w13 w14 w15 p16 w16 w17 w18 h1 f0)) X hK hT hA h_40 (fun sz => gX12_isDigit_703c4e6 l D cy r_40 (i_rng _) sz) wm_6_71 wm_6_73 wm_1_12 hd_X12_isDigit wm_6_72 ⟨Nat.le_of_ble_eq_true rfl, Nat.le_of_ble_eq_true rfl⟩ hl.1 rfl (Nat.le_of_ble_eq_true rfl) dX12_next_154 ⟨Nat.le_of_ble_eq_true rfl, Nat.le_of_ble_eq_true rfl⟩ [] [0, 1] rfl rfl (by decide) rfl rfl (fun r_41 u_41 H locs w_41 h_41 => ?_)
              clear h_40
              obtain ⟨wr_41, y41_0, _⟩ := w_41
              replace h_41 : qW D _ _ (wk_253faa1b8 cy h0 p0 w0 w1 h1 w2 p1 v8_2_0 v8_2_0 p4 p5 0 p7 p8 p9 p10 p11 w3 w4 w5 w6 w7 p12 p13 w8 w9 w10 p14 p15 w11 w12 w13 w14 w15 p16 w16 w17 w18 h1 f0) _ _ := h_41
              refine lv_if_eq (tgt := 209) hx hb dX12_next_157 (by decide) (fun c_42 => ?_) (fun c_42 => ?_)
              · replace c_42 := i_eq (x := r_41) (y := 0) rfl (show (0 : Int32).toInt = 0 by decide) c_42
                refine lv_aload_n hx hb dX12_next_209 rfl (lv_at hl 0 rfl) ?_
                refine lv_aload_n hx hb dX12_next_210 rfl (lv_at hl 0 rfl) ?_
                refine q_get X hK h_41 0 rfl rfl wf_12 7 (by decide) rfl wm_5_177 dX12_next_211 ?_
                refine lv_aload_n hx hb dX12_next_214 rfl (lv_at hl 0 rfl) ?_
                refine q_get X hK h_41 0 rfl rfl wf_12 6 (by decide) rfl wm_5_176 dX12_next_215 ?_
                refine lv_isub hx hb dX12_next_218 ?_
                obtain ⟨z_43, ez_43, hz_43⟩ := e_sub (x := v8_2_0) (y := v8_2_0) rfl rfl (by omega) (by omega)
                refine q_c z_43 ez_43 ?_
                clear ez_43
                refine lv_iconst (v := 3) hx hb dX12_next_219 (by decide) ?_
                refine lv_icmp_le (tgt := 228) hx hb dX12_next_220 (by decide) (fun c_44 => ?_) (fun c_44 => ?_)
                · replace c_44 := i_le (x := z_43) (y := 3) rfl (show (3 : Int32).toInt = 3 by decide) c_44
                  refine lv_bipush (v := 25) hx hb dX12_next_228 (by decide) ?_
                  refine q_put (v := .int 25) X hK h_41 0 rfl rfl wf_12 tyX12 tyX12_ok nmX12 9 (by decide) wm_5_179 rfl rfl rfl (Nat.le_of_ble_eq_true rfl) dX12_next_230 (fun H locs h_45 => ?_)
                  clear h_41
                  replace h_45 : qW D _ _ (wk_253faa1b8 cy h0 p0 w0 w1 h1 w2 p1 v8_2_0 v8_2_0 p4 25 0 p7 p8 p9 p10 p11 w3 w4 w5 w6 w7 p12 p13 w8 w9 w10 p14 p15 w11 w12 w13 w14 w15 p16 w16 w17 w18 h1 f0) _ _ := h_45
                  refine lv_goto (tgt := 294) hx hb dX12_next_233 (by decide) ?_
                  exact q_vret X hr hlk hK h_45 (fun _ => 0, (vcons (fun _ => v8_2_0) (vcons (fun _ => v8_2_0) (vcons (fun _ => 25) (vcons (fun _ => 0) (fun _ => (fun _ => 0)))))), fun _ _ => 0) ⟨hv8_2_0, hv8_2_0, (⟨by decide +kernel, by decide +kernel⟩ : 0 ≤ (25 : Int32).toInt ∧ (25 : Int32).toInt ≤ 63), (⟨by decide +kernel, by decide +kernel⟩ : 0 ≤ (0 : Int32).toInt ∧ (0 : Int32).toInt ≤ 999), (show 0 ≤ (v8_2_0 : Int32).toInt ∧ (v8_2_0 : Int32).toInt ≤ (v8_2_0 : Int32).toInt ∧ (v8_2_0 : Int32).toInt ≤ (p4 : Int32).toInt from by (first | (clear y5_0 y12_0 y17_0 y18_0 y20_0 y21_0 y40_0 y41_0; omega) | omega)), (show (25 : Int32).toInt = 26 ∨ (v8_2_0 : Int32).toInt < (v8_2_0 : Int32).toInt from by have q0 : (25 : Int32).toInt = 25 := (by decide); (first | (clear y5_0 y12_0 y17_0 y18_0 y20_0 y21_0 y40_0 y41_0; omega) | omega)), (show (p3 : Int32).toInt ≤ (v8_2_0 : Int32).toInt from by (first | (clear y5_0 y12_0 y17_0 y18_0 y20_0 y21_0 y40_0 y41_0; omega) | omega)), (show NXR f0 (p4 : Int32).toInt (p3 : Int32).toInt (v8_2_0 : Int32).toInt (v8_2_0 : Int32).toInt (25 : Int32).toInt (0 : Int32).toInt from by first | (exfalso; omega) | exact nxr_d ts_14 (by (first | assumption | (clear y5_0 y12_0 y17_0 y18_0 y20_0 y21_0 y40_0 y41_0; omega) | omega)) (by (first | assumption | (clear y5_0 y12_0 y17_0 y18_0 y20_0 y21_0 y40_0 y41_0; omega) | omega)) (by (first | assumption | (clear y5_0 y12_0 y17_0 y18_0 y20_0 y21_0 y40_0 y41_0; omega) | omega)) (spn_0 (by (first | assumption | (clear y5_0 y12_0 y17_0 y18_0 y20_0 y21_0 y40_0 y41_0; omega) | omega))) y40_0 y41_0 (by (first | assumption | (clear y5_0 y12_0 y17_0 y18_0 y20_0 y21_0 y40_0 y41_0; omega) | omega)) (by have q0 : (25 : Int32).toInt = 25 := (by decide); have q1 : (0 : Int32).toInt = 0 := (by decide); omega) (fun q => vlm_e _ (by (first | assumption | (clear y5_0 y12_0 y17_0 y18_0 y20_0 y21_0 y40_0 y41_0; omega) | omega)) (by (first | assumption | (clear y5_0 y12_0 y17_0 y18_0 y20_0 y21_0 y40_0 y41_0; omega) | omega)) (by (first | assumption | (clear y5_0 y12_0 y17_0 y18_0 y20_0 y21_0 y40_0 y41_0; omega) | omega)))), trivial⟩ [0, 1] rfl rfl dX12_next_294 (Nat.le_of_ble_eq_true rfl) (Nat.le_of_ble_eq_true rfl)
                · replace c_44 := i_nle (x := z_43) (y := 3) rfl (show (3 : Int32).toInt = 3 by decide) c_44
                  refine lv_bipush (v := 27) hx hb dX12_next_223 (by decide) ?_
                  refine lv_goto (tgt := 230) hx hb dX12_next_225 (by decide) ?_
                  refine q_put (v := .int 27) X hK h_41 0 rfl rfl wf_12 tyX12 tyX12_ok nmX12 9 (by decide) wm_5_179 rfl rfl rfl (Nat.le_of_ble_eq_true rfl) dX12_next_230 (fun H locs h_46 => ?_)
                  clear h_41
                  replace h_46 : qW D _ _ (wk_253faa1b8 cy h0 p0 w0 w1 h1 w2 p1 v8_2_0 v8_2_0 p4 27 0 p7 p8 p9 p10 p11 w3 w4 w5 w6 w7 p12 p13 w8 w9 w10 p14 p15 w11 w12 w13 w14 w15 p16 w16 w17 w18 h1 f0) _ _ := h_46
                  refine lv_goto (tgt := 294) hx hb dX12_next_233 (by decide) ?_
                  exact q_vret X hr hlk hK h_46 (fun _ => 0, (vcons (fun _ => v8_2_0) (vcons (fun _ => v8_2_0) (vcons (fun _ => 27) (vcons (fun _ => 0) (fun _ => (fun _ => 0)))))), fun _ _ => 0) ⟨hv8_2_0, hv8_2_0, (⟨by decide +kernel, by decide +kernel⟩ : 0 ≤ (27 : Int32).toInt ∧ (27 : Int32).toInt ≤ 63), (⟨by decide +kernel, by decide +kernel⟩ : 0 ≤ (0 : Int32).toInt ∧ (0 : Int32).toInt ≤ 999), (show 0 ≤ (v8_2_0 : Int32).toInt ∧ (v8_2_0 : Int32).toInt ≤ (v8_2_0 : Int32).toInt ∧ (v8_2_0 : Int32).toInt ≤ (p4 : Int32).toInt from by (first | (clear y5_0 y12_0 y17_0 y18_0 y20_0 y21_0 y40_0 y41_0; omega) | omega)), (show (27 : Int32).toInt = 26 ∨ (v8_2_0 : Int32).toInt < (v8_2_0 : Int32).toInt from by have q0 : (27 : Int32).toInt = 27 := (by decide); (first | (clear y5_0 y12_0 y17_0 y18_0 y20_0 y21_0 y40_0 y41_0; omega) | omega)), (show (p3 : Int32).toInt ≤ (v8_2_0 : Int32).toInt from by (first | (clear y5_0 y12_0 y17_0 y18_0 y20_0 y21_0 y40_0 y41_0; omega) | omega)), (show NXR f0 (p4 : Int32).toInt (p3 : Int32).toInt (v8_2_0 : Int32).toInt (v8_2_0 : Int32).toInt (27 : Int32).toInt (0 : Int32).toInt from by first | (exfalso; omega) | exact nxr_d ts_14 (by (first | assumption | (clear y5_0 y12_0 y17_0 y18_0 y20_0 y21_0 y40_0 y41_0; omega) | omega)) (by (first | assumption | (clear y5_0 y12_0 y17_0 y18_0 y20_0 y21_0 y40_0 y41_0; omega) | omega)) (by (first | assumption | (clear y5_0 y12_0 y17_0 y18_0 y20_0 y21_0 y40_0 y41_0; omega) | omega)) (spn_0 (by (first | assumption | (clear y5_0 y12_0 y17_0 y18_0 y20_0 y21_0 y40_0 y41_0; omega) | omega))) y40_0 y41_0 (by (first | assumption | (clear y5_0 y12_0 y17_0 y18_0 y20_0 y21_0 y40_0 y41_0; omega) | omega)) (by have q0 : (27 : Int32).toInt = 27 := (by decide); have q1 : (0 : Int32).toInt = 0 := (by decide); omega) (fun q => vlm_e _ (by (first | assumption | (clear y5_0 y12_0 y17_0 y18_0 y20_0 y21_0 y40_0 y41_0; omega) | omega)) (by (first | assumption | (clear y5_0 y12_0 y17_0 y18_0 y20_0 y21_0 y40_0 y41_0; omega) | omega)) (by (first | assumption | (clear y5_0 y12_0 y17_0 y18_0 y20_0 y21_0 y40_0 y41_0; omega) | omega)))), trivial⟩ [0, 1] rfl rfl dX12_next_294 (Nat.le_of_ble_eq_true rfl) (Nat.le_of_ble_eq_true rfl)
              · replace c_42 := i_ne (x := r_41) (y := 0) rfl (show (0 : Int32).toInt = 0 by decide) c_42
                refine lv_aload_n hx hb dX12_next_160 rfl (lv_at hl 0 rfl) ?_
                refine q_get X hK h_41 0 rfl rfl wf_12 7 (by decide) rfl wm_5_177 dX12_next_161 ?_
                refine lv_aload_n hx hb dX12_next_164 rfl (lv_at hl 0 rfl) ?_
                refine q_get X hK h_41 0 rfl rfl wf_12 6 (by decide) rfl wm_5_176 dX12_next_165 ?_
                refine lv_isub hx hb dX12_next_168 ?_
                obtain ⟨z_47, ez_47, hz_47⟩ := e_sub (x := v8_2_0) (y := v8_2_0) rfl rfl (by omega) (by omega)
                refine q_c z_47 ez_47 ?_
                clear ez_47
                refine lv_iconst (v := 3) hx hb dX12_next_169 (by decide) ?_
                refine q_jn (pc2 := 196) (fun H locs ls st => ∃ v196_48_0 : Int32, (0 ≤ (v196_48_0).toInt ∧ (v196_48_0).toInt ≤ 9999) ∧ (((v8_2_0 : Int32).toInt - (v8_2_0 : Int32).toInt = 0 ∧ 0 ≤ (v196_48_0 : Int32).toInt ∧ (v196_48_0 : Int32).toInt ≤ 9) ∨ ((v8_2_0 : Int32).toInt - (v8_2_0 : Int32).toInt = 1 ∧ 0 ≤ (v196_48_0 : Int32).toInt ∧ (v196_48_0 : Int32).toInt ≤ 99) ∨ (2 ≤ (v8_2_0 : Int32).toInt - (v8_2_0 : Int32).toInt ∧ 0 ≤ (v196_48_0 : Int32).toInt ∧ (v196_48_0 : Int32).toInt ≤ 999)) ∧ (VLM f0 (v8_2_0 : Int32).toInt ((v8_2_0 : Int32).toInt + 1) (v196_48_0 : Int32).toInt) ∧ st = [] ∧ qW D (va_A (wk_253faa1b8 cy h0 p0 w0 w1 h1 w2 p1 p2 p3 p4 p5 p6 p7 p8 p9 p10 p11 w3 w4 w5 w6 w7 p12 p13 w8 w9 w10 p14 p15 w11 w12 w13 w14 w15 p16 w16 w17 w18 h1 f0) sz) s.heap (wk_253faa1b8 cy h0 p0 w0 w1 h1 w2 p1 v8_2_0 v8_2_0 p4 p5 v196_48_0 p7 p8 p9 p10 p11 w3 w4 w5 w6 w7 p12 p13 w8 w9 w10 p14 p15 w11 w12 w13 w14 w15 p16 w16 w17 w18 h1 f0) H locs ∧ lv_has ls 2 [(0, .ref h0)]) (fun H locs ls st hP => ?_) (fun J_196 => ?_)
                · obtain ⟨v196_48_0, hv196_48_0, x49_0, x50_1, rfl, h, hl⟩ := hP
                  refine lv_aload_n hx hb dX12_next_196 rfl (lv_at hl 0 rfl) ?_
                  refine lv_dup hx hb dX12_next_197 rfl ?_
                  refine q_get X hK h 0 rfl rfl wf_12 7 (by decide) rfl wm_5_177 dX12_next_198 ?_
                  refine lv_iconst (v := 1) hx hb dX12_next_201 (by decide) ?_
                  refine lv_iadd hx hb dX12_next_202 ?_
                  obtain ⟨z_51, ez_51, hz_51⟩ := e_add (x := v8_2_0) (y := 1) rfl (show (1 : Int32).toInt = 1 by decide) (by omega) (by omega)
                  refine q_c z_51 ez_51 ?_
                  clear ez_51
                  refine q_put (v := .int z_51) X hK h 0 rfl rfl wf_12 tyX12 tyX12_ok nmX12 7 (by decide) wm_5_177 rfl rfl rfl (Nat.le_of_ble_eq_true rfl) dX12_next_203 (fun H locs h_52 => ?_)
                  clear h
                  replace h_52 : qW D _ _ (wk_253faa1b8 cy h0 p0 w0 w1 h1 w2 p1 v8_2_0 z_51 p4 p5 v196_48_0 p7 p8 p9 p10 p11 w3 w4 w5 w6 w7 p12 p13 w8 w9 w10 p14 p15 w11 w12 w13 w14 w15 p16 w16 w17 w18 h1 f0) _ _ := h_52
                  refine lv_goto (tgt := 146) hx hb dX12_next_206 (by decide) ?_
                  refine q_wl (fun (q : Int32 × Int32) H locs ls => match q with | (v146_53_0, v146_53_1) => (0 ≤ (v146_53_0).toInt ∧ (v146_53_0).toInt ≤ 900) ∧ (0 ≤ (v146_53_1).toInt ∧ (v146_53_1).toInt ≤ 999) ∧ ((v8_2_0 : Int32).toInt + 1 ≤ (v146_53_0 : Int32).toInt ∧ (v146_53_0 : Int32).toInt ≤ (p4 : Int32).toInt) ∧ (((v146_53_0 : Int32).toInt - (v8_2_0 : Int32).toInt = 1 ∧ 0 ≤ (v146_53_1 : Int32).toInt ∧ (v146_53_1 : Int32).toInt ≤ 9) ∨ ((v146_53_0 : Int32).toInt - (v8_2_0 : Int32).toInt = 2 ∧ 0 ≤ (v146_53_1 : Int32).toInt ∧ (v146_53_1 : Int32).toInt ≤ 99) ∨ (3 ≤ (v146_53_0 : Int32).toInt - (v8_2_0 : Int32).toInt ∧ 0 ≤ (v146_53_1 : Int32).toInt ∧ (v146_53_1 : Int32).toInt ≤ 999)) ∧ (SPN 48 57 f0 (v8_2_0 : Int32).toInt (v146_53_0 : Int32).toInt) ∧ (VLM f0 (v8_2_0 : Int32).toInt (v146_53_0 : Int32).toInt (v146_53_1 : Int32).toInt) ∧ qW D (va_A (wk_253faa1b8 cy h0 p0 w0 w1 h1 w2 p1 p2 p3 p4 p5 p6 p7 p8 p9 p10 p11 w3 w4 w5 w6 w7 p12 p13 w8 w9 w10 p14 p15 w11 w12 w13 w14 w15 p16 w16 w17 w18 h1 f0) sz) s.heap (wk_253faa1b8 cy h0 p0 w0 w1 h1 w2 p1 v8_2_0 v146_53_0 p4 p5 v146_53_1 p7 p8 p9 p10 p11 w3 w4 w5 w6 w7 p12 p13 w8 w9 w10 p14 p15 w11 w12 w13 w14 w15 p16 w16 w17 w18 h1 f0) H locs ∧ lv_has ls 2 [(0, .ref h0)]) (fun (q : Int32 × Int32) => match q with | (v146_53_0, v146_53_1) => (901 - (v146_53_0).toInt).toNat) (fun q_146 ih_146 H locs ls hP => ?_) (z_51, v196_48_0) ⟨⟨by omega, by omega⟩, ⟨by omega, by omega⟩, (by (first | (clear y5_0 y12_0 y17_0 y18_0 y20_0 y21_0 y40_0 y41_0 x49_0; omega) | omega)), (by (first | (clear y5_0 y12_0 y17_0 y18_0 y20_0 y21_0 y40_0 y41_0 x49_0; omega) | omega)), (spm_s (spn_0 (lo := 48) (hi := 57) (f := f0) (a := (v8_2_0 : Int32).toInt) (e := (v8_2_0 : Int32).toInt) (by (first | assumption | (clear y5_0 y12_0 y17_0 y18_0 y20_0 y21_0 y40_0 y41_0 x49_0; omega) | omega))) (by (first | assumption | (clear y5_0 y12_0 y17_0 y18_0 y20_0 y21_0 y40_0 y41_0 x49_0; omega) | omega)) y40_0 y41_0 (by (first | assumption | (clear y5_0 y12_0 y17_0 y18_0 y20_0 y21_0 y40_0 y41_0 x49_0; omega) | omega)) (by (first | assumption | (clear y5_0 y12_0 y17_0 y18_0 y20_0 y21_0 y40_0 y41_0 x49_0; omega) | omega)) (by (first | assumption | (clear y5_0 y12_0 y17_0 y18_0 y20_0 y21_0 y40_0 y41_0 x49_0; omega) | omega))), (vlm_n x50_1 (by (first | assumption | (clear y5_0 y12_0 y17_0 y18_0 y20_0 y21_0 y40_0 y41_0 x49_0; omega) | omega))), h_52, (lv_sub hl [0] rfl)⟩
                  obtain ⟨v146_53_0, v146_53_1⟩ := q_146
                  obtain ⟨hv146_53_0, hv146_53_1, x54_0, x55_1, x56_2, x57_3, h, hl⟩ := hP
                  refine lv_aload_n hx hb dX12_next_146 rfl (lv_at hl 0 rfl) ?_
                  refine lv_aload_n hx hb dX12_next_147 rfl (lv_at hl 0 rfl) ?_
                  refine q_get X hK h 0 rfl rfl wf_12 7 (by decide) rfl wm_5_177 dX12_next_148 ?_
                  refine q_callVi (rest := []) (wr := []) X hK hT hA h (fun sz => gX12_see_2ecf617 l D cy h0 h1 v146_53_0 p0 w0 w1 w2 p1 v8_2_0 p4 p5 v146_53_1 p7 p8 p9 p10 p11 w3 w4 w5 w6 w7 p12 p13 w8 w9 w10 p14 p15 w11 w12 w13 w14 w15 p16 w16 w17 w18 f0 hv146_53_0 hp0 hp1 hv8_2_0 hp4 (i_rng _) hv146_53_1 (i_rng _) (i_rng _) (i_rng _) (i_rng _) (i_rng _) (i_rng _) (i_rng _) (i_rng _) (i_rng _) (i_rng _) sz) wm_6_57 wm_6_60 wm_1_12 hd_X12_see wm_6_59 wp_4_4 (ci := 12) (q0 := 0) rfl rfl ⟨Nat.le_of_ble_eq_true rfl, Nat.le_of_ble_eq_true rfl⟩ hl.1 rfl (Nat.le_of_ble_eq_true rfl) dX12_next_151 ⟨Nat.le_of_ble_eq_true rfl, Nat.le_of_ble_eq_true rfl⟩ [0, 1] [] rfl rfl (by decide) rfl rfl (fun r_58 u_58 H locs w_58 h_58 => ?_)
                  clear h
                  obtain ⟨wr_58, y58_0, _⟩ := w_58
                  replace h_58 : qW D _ _ (wk_253faa1b8 cy h0 p0 w0 w1 h1 w2 p1 v8_2_0 v146_53_0 p4 p5 v146_53_1 p7 p8 p9 p10 p11 w3 w4 w5 w6 w7 p12 p13 w8 w9 w10 p14 p15 w11 w12 w13 w14 w15 p16 w16 w17 w18 h1 f0) _ _ := h_58
                  refine q_callSi (rest := []) (wr := (wk_253faa1b8 cy h0 p0 w0 w1 h1 w2 p1 v8_2_0 v146_53_0 p4 p5 v146_53_1 p7 p8 p9 p10 p11 w3 w4 w5 w6 w7 p12 p13 w8 w9 w10 p14 p15 w11 w12 w13 w14 w15 p16 w16 w17 w18 h1 f0)) X hK hT hA h_58 (fun sz => gX12_isDigit_703c4e6 l D cy r_58 (i_rng _) sz) wm_6_71 wm_6_73 wm_1_12 hd_X12_isDigit wm_6_72 ⟨Nat.le_of_ble_eq_true rfl, Nat.le_of_ble_eq_true rfl⟩ hl.1 rfl (Nat.le_of_ble_eq_true rfl) dX12_next_154 ⟨Nat.le_of_ble_eq_true rfl, Nat.le_of_ble_eq_true rfl⟩ [] [0, 1] rfl rfl (by decide) rfl rfl (fun r_59 u_59 H locs w_59 h_59 => ?_)
                  clear h_58
                  obtain ⟨wr_59, y59_0, _⟩ := w_59
                  replace h_59 : qW D _ _ (wk_253faa1b8 cy h0 p0 w0 w1 h1 w2 p1 v8_2_0 v146_53_0 p4 p5 v146_53_1 p7 p8 p9 p10 p11 w3 w4 w5 w6 w7 p12 p13 w8 w9 w10 p14 p15 w11 w12 w13 w14 w15 p16 w16 w17 w18 h1 f0) _ _ := h_59
                  refine lv_if_eq (tgt := 209) hx hb dX12_next_157 (by decide) (fun c_60 => ?_) (fun c_60 => ?_)
                  · replace c_60 := i_eq (x := r_59) (y := 0) rfl (show (0 : Int32).toInt = 0 by decide) c_60
                    refine lv_aload_n hx hb dX12_next_209 rfl (lv_at hl 0 rfl) ?_
                    refine lv_aload_n hx hb dX12_next_210 rfl (lv_at hl 0 rfl) ?_
                    refine q_get X hK h_59 0 rfl rfl wf_12 7 (by decide) rfl wm_5_177 dX12_next_211 ?_
                    refine lv_aload_n hx hb dX12_next_214 rfl (lv_at hl 0 rfl) ?_
                    refine q_get X hK h_59 0 rfl rfl wf_12 6 (by decide) rfl wm_5_176 dX12_next_215 ?_
                    refine lv_isub hx hb dX12_next_218 ?_
                    obtain ⟨z_61, ez_61, hz_61⟩ := e_sub (x := v146_53_0) (y := v8_2_0) rfl rfl (by omega) (by omega)
                    refine q_c z_61 ez_61 ?_
                    clear ez_61
                    refine lv_iconst (v := 3) hx hb dX12_next_219 (by decide) ?_
                    refine lv_icmp_le (tgt := 228) hx hb dX12_next_220 (by decide) (fun c_62 => ?_) (fun c_62 => ?_)
                    · replace c_62 := i_le (x := z_61) (y := 3) rfl (show (3 : Int32).toInt = 3 by decide) c_62
                      refine lv_bipush (v := 25) hx hb dX12_next_228 (by decide) ?_
                      refine q_put (v := .int 25) X hK h_59 0 rfl rfl wf_12 tyX12 tyX12_ok nmX12 9 (by decide) wm_5_179 rfl rfl rfl (Nat.le_of_ble_eq_true rfl) dX12_next_230 (fun H locs h_63 => ?_)
                      clear h_59
                      replace h_63 : qW D _ _ (wk_253faa1b8 cy h0 p0 w0 w1 h1 w2 p1 v8_2_0 v146_53_0 p4 25 v146_53_1 p7 p8 p9 p10 p11 w3 w4 w5 w6 w7 p12 p13 w8 w9 w10 p14 p15 w11 w12 w13 w14 w15 p16 w16 w17 w18 h1 f0) _ _ := h_63
                      refine lv_goto (tgt := 294) hx hb dX12_next_233 (by decide) ?_
                      exact q_vret X hr hlk hK h_63 (fun _ => 0, (vcons (fun _ => v8_2_0) (vcons (fun _ => v146_53_0) (vcons (fun _ => 25) (vcons (fun _ => v146_53_1) (fun _ => (fun _ => 0)))))), fun _ _ => 0) ⟨hv8_2_0, hv146_53_0, (⟨by decide +kernel, by decide +kernel⟩ : 0 ≤ (25 : Int32).toInt ∧ (25 : Int32).toInt ≤ 63), hv146_53_1, (show 0 ≤ (v8_2_0 : Int32).toInt ∧ (v8_2_0 : Int32).toInt ≤ (v146_53_0 : Int32).toInt ∧ (v146_53_0 : Int32).toInt ≤ (p4 : Int32).toInt from by (first | (clear y5_0 y12_0 y17_0 y18_0 y20_0 y21_0 y40_0 y41_0 x49_0 x55_1 y58_0 y59_0; omega) | omega)), (show (25 : Int32).toInt = 26 ∨ (v8_2_0 : Int32).toInt < (v146_53_0 : Int32).toInt from by have q0 : (25 : Int32).toInt = 25 := (by decide); (first | (clear y5_0 y12_0 y17_0 y18_0 y20_0 y21_0 y40_0 y41_0 x49_0 x55_1 y58_0 y59_0; omega) | omega)), (show (p3 : Int32).toInt ≤ (v8_2_0 : Int32).toInt from by (first | (clear y5_0 y12_0 y17_0 y18_0 y20_0 y21_0 y40_0 y41_0 x49_0 x55_1 y58_0 y59_0; omega) | omega)), (show NXR f0 (p4 : Int32).toInt (p3 : Int32).toInt (v8_2_0 : Int32).toInt (v146_53_0 : Int32).toInt (25 : Int32).toInt (v146_53_1 : Int32).toInt from by first | (exfalso; omega) | exact nxr_d ts_14 (by (first | assumption | (clear y5_0 y12_0 y17_0 y18_0 y20_0 y21_0 y40_0 y41_0 x49_0 x55_1 y58_0 y59_0; omega) | omega)) (by (first | assumption | (clear y5_0 y12_0 y17_0 y18_0 y20_0 y21_0 y40_0 y41_0 x49_0 x55_1 y58_0 y59_0; omega) | omega)) (by (first | assumption | (clear y5_0 y12_0 y17_0 y18_0 y20_0 y21_0 y40_0 y41_0 x49_0 x55_1 y58_0 y59_0; omega) | omega)) x56_2 y58_0 y59_0 (by (first | assumption | (clear y5_0 y12_0 y17_0 y18_0 y20_0 y21_0 y40_0 y41_0 x49_0 x55_1 y58_0 y59_0; omega) | omega)) (by have q0 : (25 : Int32).toInt = 25 := (by decide); omega) (fun q => vlm_e x57_3 (by (first | assumption | (clear y5_0 y12_0 y17_0 y18_0 y20_0 y21_0 y40_0 y41_0 x49_0 x55_1 y58_0 y59_0; omega) | omega)) (by (first | assumption | (clear y5_0 y12_0 y17_0 y18_0 y20_0 y21_0 y40_0 y41_0 x49_0 x55_1 y58_0 y59_0; omega) | omega)) (by (first | assumption | (clear y5_0 y12_0 y17_0 y18_0 y20_0 y21_0 y40_0 y41_0 x49_0 x55_1 y58_0 y59_0; omega) | omega)))), trivial⟩ [0, 1] rfl rfl dX12_next_294 (Nat.le_of_ble_eq_true rfl) (Nat.le_of_ble_eq_true rfl)
                    · replace c_62 := i_nle (x := z_61) (y := 3) rfl (show (3 : Int32).toInt = 3 by decide) c_62
                      refine lv_bipush (v := 27) hx hb dX12_next_223 (by decide) ?_
                      refine lv_goto (tgt := 230) hx hb dX12_next_225 (by decide) ?_
                      refine q_put (v := .int 27) X hK h_59 0 rfl rfl wf_12 tyX12 tyX12_ok nmX12 9 (by decide) wm_5_179 rfl rfl rfl (Nat.le_of_ble_eq_true rfl) dX12_next_230 (fun H locs h_64 => ?_)
                      clear h_59
                      replace h_64 : qW D _ _ (wk_253faa1b8 cy h0 p0 w0 w1 h1 w2 p1 v8_2_0 v146_53_0 p4 27 v146_53_1 p7 p8 p9 p10 p11 w3 w4 w5 w6 w7 p12 p13 w8 w9 w10 p14 p15 w11 w12 w13 w14 w15 p16 w16 w17 w18 h1 f0) _ _ := h_64
                      refine lv_goto (tgt := 294) hx hb dX12_next_233 (by decide) ?_
                      exact q_vret X hr hlk hK h_64 (fun _ => 0, (vcons (fun _ => v8_2_0) (vcons (fun _ => v146_53_0) (vcons (fun _ => 27) (vcons (fun _ => v146_53_1) (fun _ => (fun _ => 0)))))), fun _ _ => 0) ⟨hv8_2_0, hv146_53_0, (⟨by decide +kernel, by decide +kernel⟩ : 0 ≤ (27 : Int32).toInt ∧ (27 : Int32).toInt ≤ 63), hv146_53_1, (show 0 ≤ (v8_2_0 : Int32).toInt ∧ (v8_2_0 : Int32).toInt ≤ (v146_53_0 : Int32).toInt ∧ (v146_53_0 : Int32).toInt ≤ (p4 : Int32).toInt from by (first | (clear y5_0 y12_0 y17_0 y18_0 y20_0 y21_0 y40_0 y41_0 x49_0 x55_1 y58_0 y59_0; omega) | omega)), (show (27 : Int32).toInt = 26 ∨ (v8_2_0 : Int32).toInt < (v146_53_0 : Int32).toInt from by have q0 : (27 : Int32).toInt = 27 := (by decide); (first | (clear y5_0 y12_0 y17_0 y18_0 y20_0 y21_0 y40_0 y41_0 x49_0 x55_1 y58_0 y59_0; omega) | omega)), (show (p3 : Int32).toInt ≤ (v8_2_0 : Int32).toInt from by (first | (clear y5_0 y12_0 y17_0 y18_0 y20_0 y21_0 y40_0 y41_0 x49_0 x55_1 y58_0 y59_0; omega) | omega)), (show NXR f0 (p4 : Int32).toInt (p3 : Int32).toInt (v8_2_0 : Int32).toInt (v146_53_0 : Int32).toInt (27 : Int32).toInt (v146_53_1 : Int32).toInt from by first | (exfalso; omega) | exact nxr_d ts_14 (by (first | assumption | (clear y5_0 y12_0 y17_0 y18_0 y20_0 y21_0 y40_0 y41_0 x49_0 x55_1 y58_0 y59_0; omega) | omega)) (by (first | assumption | (clear y5_0 y12_0 y17_0 y18_0 y20_0 y21_0 y40_0 y41_0 x49_0 x55_1 y58_0 y59_0; omega) | omega)) (by (first | assumption | (clear y5_0 y12_0 y17_0 y18_0 y20_0 y21_0 y40_0 y41_0 x49_0 x55_1 y58_0 y59_0; omega) | omega)) x56_2 y58_0 y59_0 (by (first | assumption | (clear y5_0 y12_0 y17_0 y18_0 y20_0 y21_0 y40_0 y41_0 x49_0 x55_1 y58_0 y59_0; omega) | omega)) (by have q0 : (27 : Int32).toInt = 27 := (by decide); omega) (fun q => vlm_e x57_3 (by (first | assumption | (clear y5_0 y12_0 y17_0 y18_0 y20_0 y21_0 y40_0 y41_0 x49_0 x55_1 y58_0 y59_0; omega) | omega)) (by (first | assumption | (clear y5_0 y12_0 y17_0 y18_0 y20_0 y21_0 y40_0 y41_0 x49_0 x55_1 y58_0 y59_0; omega) | omega)) (by (first | assumption | (clear y5_0 y12_0 y17_0 y18_0 y20_0 y21_0 y40_0 y41_0 x49_0 x55_1 y58_0 y59_0; omega) | omega)))), trivial⟩ [0, 1] rfl rfl dX12_next_294 (Nat.le_of_ble_eq_true rfl) (Nat.le_of_ble_eq_true rfl)
                  · replace c_60 := i_ne (x := r_59) (y := 0) rfl (show (0 : Int32).toInt = 0 by decide) c_60
                    refine lv_aload_n hx hb dX12_next_160 rfl (lv_at hl 0 rfl) ?_
                    refine q_get X hK h_59 0 rfl rfl wf_12 7 (by decide) rfl wm_5_177 dX12_next_161 ?_
                    refine lv_aload_n hx hb dX12_next_164 rfl (lv_at hl 0 rfl) ?_
                    refine q_get X hK h_59 0 rfl rfl wf_12 6 (by decide) rfl wm_5_176 dX12_next_165 ?_
                    refine lv_isub hx hb dX12_next_168 ?_
                    obtain ⟨z_65, ez_65, hz_65⟩ := e_sub (x := v146_53_0) (y := v8_2_0) rfl rfl (by omega) (by omega)
                    refine q_c z_65 ez_65 ?_
                    clear ez_65
                    refine lv_iconst (v := 3) hx hb dX12_next_169 (by decide) ?_
                    refine q_jn (pc2 := 196) (fun H locs ls st => ∃ v196_66_0 : Int32, (0 ≤ (v196_66_0).toInt ∧ (v196_66_0).toInt ≤ 9999) ∧ (((v146_53_0 : Int32).toInt - (v8_2_0 : Int32).toInt = 0 ∧ 0 ≤ (v196_66_0 : Int32).toInt ∧ (v196_66_0 : Int32).toInt ≤ 9) ∨ ((v146_53_0 : Int32).toInt - (v8_2_0 : Int32).toInt = 1 ∧ 0 ≤ (v196_66_0 : Int32).toInt ∧ (v196_66_0 : Int32).toInt ≤ 99) ∨ (2 ≤ (v146_53_0 : Int32).toInt - (v8_2_0 : Int32).toInt ∧ 0 ≤ (v196_66_0 : Int32).toInt ∧ (v196_66_0 : Int32).toInt ≤ 999)) ∧ (VLM f0 (v8_2_0 : Int32).toInt ((v146_53_0 : Int32).toInt + 1) (v196_66_0 : Int32).toInt) ∧ st = [] ∧ qW D (va_A (wk_253faa1b8 cy h0 p0 w0 w1 h1 w2 p1 p2 p3 p4 p5 p6 p7 p8 p9 p10 p11 w3 w4 w5 w6 w7 p12 p13 w8 w9 w10 p14 p15 w11 w12 w13 w14 w15 p16 w16 w17 w18 h1 f0) sz) s.heap (wk_253faa1b8 cy h0 p0 w0 w1 h1 w2 p1 v8_2_0 v146_53_0 p4 p5 v196_66_0 p7 p8 p9 p10 p11 w3 w4 w5 w6 w7 p12 p13 w8 w9 w10 p14 p15 w11 w12 w13 w14 w15 p16 w16 w17 w18 h1 f0) H locs ∧ lv_has ls 2 [(0, .ref h0)]) (fun H locs ls st hP => ?_) (fun J_196 => ?_)
                    · obtain ⟨v196_66_0, hv196_66_0, x67_0, x68_1, rfl, h, hl⟩ := hP
                      refine lv_aload_n hx hb dX12_next_196 rfl (lv_at hl 0 rfl) ?_
                      refine lv_dup hx hb dX12_next_197 rfl ?_
                      refine q_get X hK h 0 rfl rfl wf_12 7 (by decide) rfl wm_5_177 dX12_next_198 ?_
                      refine lv_iconst (v := 1) hx hb dX12_next_201 (by decide) ?_
                      refine lv_iadd hx hb dX12_next_202 ?_
                      obtain ⟨z_69, ez_69, hz_69⟩ := e_add (x := v146_53_0) (y := 1) rfl (show (1 : Int32).toInt = 1 by decide) (by omega) (by omega)
                      refine q_c z_69 ez_69 ?_
                      clear ez_69
                      refine q_put (v := .int z_69) X hK h 0 rfl rfl wf_12 tyX12 tyX12_ok nmX12 7 (by decide) wm_5_177 rfl rfl rfl (Nat.le_of_ble_eq_true rfl) dX12_next_203 (fun H locs h_70 => ?_)
                      clear h
                      replace h_70 : qW D _ _ (wk_253faa1b8 cy h0 p0 w0 w1 h1 w2 p1 v8_2_0 z_69 p4 p5 v196_66_0 p7 p8 p9 p10 p11 w3 w4 w5 w6 w7 p12 p13 w8 w9 w10 p14 p15 w11 w12 w13 w14 w15 p16 w16 w17 w18 h1 f0) _ _ := h_70
                      refine lv_goto (tgt := 146) hx hb dX12_next_206 (by decide) ?_
                      exact ih_146 (z_69, v196_66_0) (by show (901 - (z_69).toInt).toNat < (901 - (v146_53_0).toInt).toNat; omega) _ _ _ ⟨⟨by omega, by omega⟩, ⟨by omega, by omega⟩, (by (first | (clear y5_0 y12_0 y17_0 y18_0 y20_0 y21_0 y40_0 y41_0 x49_0 x55_1 y58_0 y59_0 x67_0; omega) | omega)), (by (first | (clear y5_0 y12_0 y17_0 y18_0 y20_0 y21_0 y40_0 y41_0 x49_0 x55_1 y58_0 y59_0 x67_0; omega) | omega)), (spm_s x56_2 (by (first | assumption | (clear y5_0 y12_0 y17_0 y18_0 y20_0 y21_0 y40_0 y41_0 x49_0 x55_1 y58_0 y59_0 x67_0; omega) | omega)) y58_0 y59_0 (by (first | assumption | (clear y5_0 y12_0 y17_0 y18_0 y20_0 y21_0 y40_0 y41_0 x49_0 x55_1 y58_0 y59_0 x67_0; omega) | omega)) (by (first | assumption | (clear y5_0 y12_0 y17_0 y18_0 y20_0 y21_0 y40_0 y41_0 x49_0 x55_1 y58_0 y59_0 x67_0; omega) | omega)) (by (first | assumption | (clear y5_0 y12_0 y17_0 y18_0 y20_0 y21_0 y40_0 y41_0 x49_0 x55_1 y58_0 y59_0 x67_0; omega) | omega))), (vlm_n x68_1 (by (first | assumption | (clear y5_0 y12_0 y17_0 y18_0 y20_0 y21_0 y40_0 y41_0 x49_0 x55_1 y58_0 y59_0 x67_0; omega) | omega))), h_70, (lv_sub hl [0] rfl)⟩
                    · skip
                      refine lv_icmp_ge (tgt := 196) hx hb dX12_next_170 (by decide) (fun c_71 => ?_) (fun c_71 => ?_)
                      · replace c_71 := i_le (x := 3) (y := z_65) (show (3 : Int32).toInt = 3 by decide) rfl c_71
                        exact J_196 _ _ _ _ ⟨v146_53_1, (bw hv146_53_1 (by decide) (by decide)), (by (first | (clear y5_0 y12_0 y17_0 y18_0 y20_0 y21_0 y40_0 y41_0 x49_0 x55_1 y58_0 y59_0; omega) | omega)), (vlm_s x57_3 (by (first | assumption | (clear y5_0 y12_0 y17_0 y18_0 y20_0 y21_0 y40_0 y41_0 x49_0 x55_1 y58_0 y59_0; omega) | omega)) (by (first | assumption | (clear y5_0 y12_0 y17_0 y18_0 y20_0 y21_0 y40_0 y41_0 x49_0 x55_1 y58_0 y59_0; omega) | omega)) y58_0 (fun q => absurd q (by (first | assumption | (clear y5_0 y12_0 y17_0 y18_0 y20_0 y21_0 y40_0 y41_0 x49_0 x55_1 y58_0 y59_0; omega) | omega))) (fun _ => rfl) rfl), rfl, h_59, (lv_sub hl [0] rfl)⟩
                      · replace c_71 := i_nle (x := 3) (y := z_65) (show (3 : Int32).toInt = 3 by decide) rfl c_71
                        refine lv_aload_n hx hb dX12_next_173 rfl (lv_at hl 0 rfl) ?_
                        refine lv_bipush (v := 10) hx hb dX12_next_174 (by decide) ?_
                        refine lv_aload_n hx hb dX12_next_176 rfl (lv_at hl 0 rfl) ?_
                        refine q_get X hK h_59 0 rfl rfl wf_12 10 (by decide) rfl wm_5_180 dX12_next_177 ?_
                        refine lv_imul hx hb dX12_next_180 ?_
                        obtain ⟨z_72, ez_72, hz_72⟩ := e_mul (x := 10) (y := v146_53_1) (show (10 : Int32).toInt = 10 by decide) rfl (by omega) (by omega)
                        refine q_c z_72 ez_72 ?_
                        clear ez_72
                        refine lv_aload_n hx hb dX12_next_181 rfl (lv_at hl 0 rfl) ?_
                        refine lv_aload_n hx hb dX12_next_182 rfl (lv_at hl 0 rfl) ?_
                        refine q_get X hK h_59 0 rfl rfl wf_12 7 (by decide) rfl wm_5_177 dX12_next_183 ?_
                        refine q_callVi (rest := [.int z_72, .ref h0]) (wr := []) X hK hT hA h_59 (fun sz => gX12_see_2ecf617 l D cy h0 h1 v146_53_0 p0 w0 w1 w2 p1 v8_2_0 p4 p5 v146_53_1 p7 p8 p9 p10 p11 w3 w4 w5 w6 w7 p12 p13 w8 w9 w10 p14 p15 w11 w12 w13 w14 w15 p16 w16 w17 w18 f0 hv146_53_0 hp0 hp1 hv8_2_0 hp4 (i_rng _) hv146_53_1 (i_rng _) (i_rng _) (i_rng _) (i_rng _) (i_rng _) (i_rng _) (i_rng _) (i_rng _) (i_rng _) (i_rng _) sz) wm_6_57 wm_6_60 wm_1_12 hd_X12_see wm_6_59 wp_4_4 (ci := 12) (q0 := 0) rfl rfl ⟨Nat.le_of_ble_eq_true rfl, Nat.le_of_ble_eq_true rfl⟩ hl.1 rfl (Nat.le_of_ble_eq_true rfl) dX12_next_186 ⟨Nat.le_of_ble_eq_true rfl, Nat.le_of_ble_eq_true rfl⟩ [0, 1] [] rfl rfl (by decide) rfl rfl (fun r_73 u_73 H locs w_73 h_73 => ?_)
                        clear h_59
                        obtain ⟨wr_73, y73_0, _⟩ := w_73
                        replace h_73 : qW D _ _ (wk_253faa1b8 cy h0 p0 w0 w1 h1 w2 p1 v8_2_0 v146_53_0 p4 p5 v146_53_1 p7 p8 p9 p10 p11 w3 w4 w5 w6 w7 p12 p13 w8 w9 w10 p14 p15 w11 w12 w13 w14 w15 p16 w16 w17 w18 h1 f0) _ _ := h_73
                        refine lv_iadd hx hb dX12_next_189 ?_
                        obtain ⟨z_74, ez_74, hz_74⟩ := e_add (x := z_72) (y := r_73) rfl rfl (by omega) (by omega)
                        refine q_c z_74 ez_74 ?_
                        clear ez_74
                        refine lv_bipush (v := 48) hx hb dX12_next_190 (by decide) ?_
                        refine lv_isub hx hb dX12_next_192 ?_
                        obtain ⟨z_75, ez_75, hz_75⟩ := e_sub (x := z_74) (y := 48) rfl (show (48 : Int32).toInt = 48 by decide) (by omega) (by omega)
                        refine q_c z_75 ez_75 ?_
                        clear ez_75
                        refine q_put (v := .int z_75) X hK h_73 0 rfl rfl wf_12 tyX12 tyX12_ok nmX12 10 (by decide) wm_5_180 rfl rfl rfl (Nat.le_of_ble_eq_true rfl) dX12_next_193 (fun H locs h_76 => ?_)
                        clear h_73
                        replace h_76 : qW D _ _ (wk_253faa1b8 cy h0 p0 w0 w1 h1 w2 p1 v8_2_0 v146_53_0 p4 p5 z_75 p7 p8 p9 p10 p11 w3 w4 w5 w6 w7 p12 p13 w8 w9 w10 p14 p15 w11 w12 w13 w14 w15 p16 w16 w17 w18 h1 f0) _ _ := h_76
                        exact J_196 _ _ _ _ ⟨z_75, ⟨by omega, by omega⟩, (by (first | (clear y5_0 y12_0 y17_0 y18_0 y20_0 y21_0 y40_0 y41_0 x49_0 x55_1 y58_0 y59_0 y73_0; omega) | omega)), (vlm_s x57_3 (by (first | assumption | (clear y5_0 y12_0 y17_0 y18_0 y20_0 y21_0 y40_0 y41_0 x49_0 x55_1 y58_0 y59_0 y73_0; omega) | omega)) (by (first | assumption | (clear y5_0 y12_0 y17_0 y18_0 y20_0 y21_0 y40_0 y41_0 x49_0 x55_1 y58_0 y59_0 y73_0; omega) | omega)) y73_0 (fun _ => (by (first | assumption | (clear y5_0 y12_0 y17_0 y18_0 y20_0 y21_0 y40_0 y41_0 x49_0 x55_1 y58_0 y59_0 y73_0; omega) | omega))) (fun q => absurd q (by (first | assumption | (clear y5_0 y12_0 y17_0 y18_0 y20_0 y21_0 y40_0 y41_0 x49_0 x55_1 y58_0 y59_0 y73_0; omega) | omega))) rfl), rfl, h_76, (lv_sub hl [0] rfl)⟩
                · skip
                  refine lv_icmp_ge (tgt := 196) hx hb dX12_next_170 (by decide) (fun c_77 => ?_) (fun c_77 => ?_)
                  · replace c_77 := i_le (x := 3) (y := z_47) (show (3 : Int32).toInt = 3 by decide) rfl c_77
                    exact J_196 _ _ _ _ ⟨0, ⟨by decide +kernel, by decide +kernel⟩, (by have q0 : (0 : Int32).toInt = 0 := (by decide); (first | (clear y5_0 y12_0 y17_0 y18_0 y20_0 y21_0 y40_0 y41_0; omega) | omega)), (vlm_s (show VLM f0 (v8_2_0 : Int32).toInt (v8_2_0 : Int32).toInt 0 from Or.inl ⟨rfl, rfl⟩) (by (first | assumption | (clear y5_0 y12_0 y17_0 y18_0 y20_0 y21_0 y40_0 y41_0; omega) | omega)) (by (first | assumption | (clear y5_0 y12_0 y17_0 y18_0 y20_0 y21_0 y40_0 y41_0; omega) | omega)) y40_0 (fun q => absurd q (by (first | assumption | (clear y5_0 y12_0 y17_0 y18_0 y20_0 y21_0 y40_0 y41_0; omega) | omega))) (fun _ => rfl) rfl), rfl, h_41, (lv_sub hl [0] rfl)⟩
                  · replace c_77 := i_nle (x := 3) (y := z_47) (show (3 : Int32).toInt = 3 by decide) rfl c_77
                    refine lv_aload_n hx hb dX12_next_173 rfl (lv_at hl 0 rfl) ?_
                    refine lv_bipush (v := 10) hx hb dX12_next_174 (by decide) ?_
                    refine lv_aload_n hx hb dX12_next_176 rfl (lv_at hl 0 rfl) ?_
                    refine q_get X hK h_41 0 rfl rfl wf_12 10 (by decide) rfl wm_5_180 dX12_next_177 ?_
                    refine lv_imul hx hb dX12_next_180 ?_
                    refine q_c 0 (by decide +kernel) ?_
                    refine lv_aload_n hx hb dX12_next_181 rfl (lv_at hl 0 rfl) ?_
                    refine lv_aload_n hx hb dX12_next_182 rfl (lv_at hl 0 rfl) ?_
                    refine q_get X hK h_41 0 rfl rfl wf_12 7 (by decide) rfl wm_5_177 dX12_next_183 ?_
                    refine q_callVi (rest := [.int 0, .ref h0]) (wr := []) X hK hT hA h_41 (fun sz => gX12_see_c803b73 l D cy h0 h1 v8_2_0 p0 w0 w1 w2 p1 p4 p5 (0 : Int32) p7 p8 p9 p10 p11 w3 w4 w5 w6 w7 p12 p13 w8 w9 w10 p14 p15 w11 w12 w13 w14 w15 p16 w16 w17 w18 f0 hv8_2_0 hp0 hp1 hp4 (i_rng _) ⟨by decide +kernel, by decide +kernel⟩ (i_rng _) (i_rng _) (i_rng _) (i_rng _) (i_rng _) (i_rng _) (i_rng _) (i_rng _) (i_rng _) (i_rng _) sz) wm_6_57 wm_6_60 wm_1_12 hd_X12_see wm_6_59 wp_4_4 (ci := 12) (q0 := 0) rfl rfl ⟨Nat.le_of_ble_eq_true rfl, Nat.le_of_ble_eq_true rfl⟩ hl.1 rfl (Nat.le_of_ble_eq_true rfl) dX12_next_186 ⟨Nat.le_of_ble_eq_true rfl, Nat.le_of_ble_eq_true rfl⟩ [0, 1] [] rfl rfl (by decide) rfl rfl (fun r_78 u_78 H locs w_78 h_78 => ?_)
                    clear h_41
                    obtain ⟨wr_78, y78_0, _⟩ := w_78
                    replace h_78 : qW D _ _ (wk_253faa1b8 cy h0 p0 w0 w1 h1 w2 p1 v8_2_0 v8_2_0 p4 p5 0 p7 p8 p9 p10 p11 w3 w4 w5 w6 w7 p12 p13 w8 w9 w10 p14 p15 w11 w12 w13 w14 w15 p16 w16 w17 w18 h1 f0) _ _ := h_78
                    refine lv_iadd hx hb dX12_next_189 ?_
                    obtain ⟨z_79, ez_79, hz_79⟩ := e_add (x := 0) (y := r_78) (show (0 : Int32).toInt = 0 by decide) rfl (by omega) (by omega)
                    refine q_c z_79 ez_79 ?_
                    clear ez_79
                    refine lv_bipush (v := 48) hx hb dX12_next_190 (by decide) ?_
                    refine lv_isub hx hb dX12_next_192 ?_
                    obtain ⟨z_80, ez_80, hz_80⟩ := e_sub (x := z_79) (y := 48) rfl (show (48 : Int32).toInt = 48 by decide) (by omega) (by omega)
                    refine q_c z_80 ez_80 ?_
                    clear ez_80
                    refine q_put (v := .int z_80) X hK h_78 0 rfl rfl wf_12 tyX12 tyX12_ok nmX12 10 (by decide) wm_5_180 rfl rfl rfl (Nat.le_of_ble_eq_true rfl) dX12_next_193 (fun H locs h_81 => ?_)
                    clear h_78
                    replace h_81 : qW D _ _ (wk_253faa1b8 cy h0 p0 w0 w1 h1 w2 p1 v8_2_0 v8_2_0 p4 p5 z_80 p7 p8 p9 p10 p11 w3 w4 w5 w6 w7 p12 p13 w8 w9 w10 p14 p15 w11 w12 w13 w14 w15 p16 w16 w17 w18 h1 f0) _ _ := h_81
                    exact J_196 _ _ _ _ ⟨z_80, ⟨by omega, by omega⟩, (by (first | (clear y5_0 y12_0 y17_0 y18_0 y20_0 y21_0 y40_0 y41_0 y78_0; omega) | omega)), (vlm_s (show VLM f0 (v8_2_0 : Int32).toInt (v8_2_0 : Int32).toInt 0 from Or.inl ⟨rfl, rfl⟩) (by (first | assumption | (clear y5_0 y12_0 y17_0 y18_0 y20_0 y21_0 y40_0 y41_0 y78_0; omega) | omega)) (by (first | assumption | (clear y5_0 y12_0 y17_0 y18_0 y20_0 y21_0 y40_0 y41_0 y78_0; omega) | omega)) y78_0 (fun _ => (by (first | assumption | (clear y5_0 y12_0 y17_0 y18_0 y20_0 y21_0 y40_0 y41_0 y78_0; omega) | omega))) (fun q => absurd q (by (first | assumption | (clear y5_0 y12_0 y17_0 y18_0 y20_0 y21_0 y40_0 y41_0 y78_0; omega) | omega))) rfl), rfl, h_81, (lv_sub hl [0] rfl)⟩
          · replace c_19 := i_ne (x := r_18) (y := 0) rfl (show (0 : Int32).toInt = 0 by decide) c_19
            refine lv_aload_n hx hb dX12_next_89 rfl (lv_at hl 0 rfl) ?_
            refine lv_aload_n hx hb dX12_next_90 rfl (lv_at hl 0 rfl) ?_
            refine q_get X hK h_18 0 rfl rfl wf_12 7 (by decide) rfl wm_5_177 dX12_next_91 ?_
            refine q_callVi (rest := []) (wr := []) X hK hT hA h_18 (fun sz => gX12_see_c803b73 l D cy h0 h1 v8_2_0 p0 w0 w1 w2 p1 p4 p5 p6 p7 p8 p9 p10 p11 w3 w4 w5 w6 w7 p12 p13 w8 w9 w10 p14 p15 w11 w12 w13 w14 w15 p16 w16 w17 w18 f0 hv8_2_0 hp0 hp1 hp4 (i_rng _) hp6 (i_rng _) (i_rng _) (i_rng _) (i_rng _) (i_rng _) (i_rng _) (i_rng _) (i_rng _) (i_rng _) (i_rng _) sz) wm_6_57 wm_6_60 wm_1_12 hd_X12_see wm_6_59 wp_4_4 (ci := 12) (q0 := 0) rfl rfl ⟨Nat.le_of_ble_eq_true rfl, Nat.le_of_ble_eq_true rfl⟩ hl.1 rfl (Nat.le_of_ble_eq_true rfl) dX12_next_94 ⟨Nat.le_of_ble_eq_true rfl, Nat.le_of_ble_eq_true rfl⟩ [0, 1] [] rfl rfl (by decide) rfl rfl (fun r_82 u_82 H locs w_82 h_82 => ?_)
            clear h_18
            obtain ⟨wr_82, y82_0, _⟩ := w_82
            replace h_82 : qW D _ _ (wk_253faa1b8 cy h0 p0 w0 w1 h1 w2 p1 v8_2_0 v8_2_0 p4 p5 p6 p7 p8 p9 p10 p11 w3 w4 w5 w6 w7 p12 p13 w8 w9 w10 p14 p15 w11 w12 w13 w14 w15 p16 w16 w17 w18 h1 f0) _ _ := h_82
            refine q_callSi (rest := []) (wr := (wk_253faa1b8 cy h0 p0 w0 w1 h1 w2 p1 v8_2_0 v8_2_0 p4 p5 p6 p7 p8 p9 p10 p11 w3 w4 w5 w6 w7 p12 p13 w8 w9 w10 p14 p15 w11 w12 w13 w14 w15 p16 w16 w17 w18 h1 f0)) X hK hT hA h_82 (fun sz => gX12_isSmall_57f175a l D cy r_82 (i_rng _) sz) wm_6_61 wm_6_63 wm_1_12 hd_X12_isSmall wm_6_62 ⟨Nat.le_of_ble_eq_true rfl, Nat.le_of_ble_eq_true rfl⟩ hl.1 rfl (Nat.le_of_ble_eq_true rfl) dX12_next_97 ⟨Nat.le_of_ble_eq_true rfl, Nat.le_of_ble_eq_true rfl⟩ [] [0, 1] rfl rfl (by decide) rfl rfl (fun r_83 u_83 H locs w_83 h_83 => ?_)
            clear h_82
            obtain ⟨wr_83, y83_0, _⟩ := w_83
            replace h_83 : qW D _ _ (wk_253faa1b8 cy h0 p0 w0 w1 h1 w2 p1 v8_2_0 v8_2_0 p4 p5 p6 p7 p8 p9 p10 p11 w3 w4 w5 w6 w7 p12 p13 w8 w9 w10 p14 p15 w11 w12 w13 w14 w15 p16 w16 w17 w18 h1 f0) _ _ := h_83
            refine lv_if_eq (tgt := 116) hx hb dX12_next_100 (by decide) (fun c_84 => ?_) (fun c_84 => ?_)
            · replace c_84 := i_eq (x := r_83) (y := 0) rfl (show (0 : Int32).toInt = 0 by decide) c_84
              refine lv_aload_n hx hb dX12_next_116 rfl (lv_at hl 0 rfl) ?_
              refine lv_aload_n hx hb dX12_next_117 rfl (lv_at hl 0 rfl) ?_
              refine q_callVi (rest := [.ref h0]) (wr := []) X hK hT hA h_83 (fun sz => gX12_keyAt_a94a6a5 l D cy h0 h1 p0 w0 w1 w2 p1 v8_2_0 p4 p5 p6 p7 p8 p9 p10 p11 w3 w4 w5 w6 w7 p12 p13 w8 w9 w10 p14 p15 w11 w12 w13 w14 w15 p16 w16 w17 w18 f0 hp0 hp1 hv8_2_0 hp4 (i_rng _) hp6 (i_rng _) (i_rng _) (i_rng _) (i_rng _) (i_rng _) (i_rng _) (i_rng _) (i_rng _) (i_rng _) (i_rng _) (by (first | (clear y5_0 y12_0 y17_0 y18_0 y82_0 y83_0; omega) | omega)) sz) wm_6_64 wm_6_67 wm_1_12 hd_X12_keyAt wm_6_66 wp_4_5 (ci := 12) (q0 := 0) rfl rfl ⟨Nat.le_of_ble_eq_true rfl, Nat.le_of_ble_eq_true rfl⟩ hl.1 rfl (Nat.le_of_ble_eq_true rfl) dX12_next_118 ⟨Nat.le_of_ble_eq_true rfl, Nat.le_of_ble_eq_true rfl⟩ [0, 1] [] rfl rfl (by decide) rfl rfl (fun r_85 u_85 H locs w_85 h_85 => ?_)
              clear h_83
              obtain ⟨wr_85, y85_0, _⟩ := w_85
              replace h_85 : qW D _ _ (wk_253faa1b8 cy h0 p0 w0 w1 h1 w2 p1 v8_2_0 v8_2_0 p4 p5 p6 p7 p8 p9 p10 p11 w3 w4 w5 w6 w7 p12 p13 w8 w9 w10 p14 p15 w11 w12 w13 w14 w15 p16 w16 w17 w18 h1 f0) _ _ := h_85
              refine q_put (v := .int r_85) X hK h_85 0 rfl rfl wf_12 tyX12 tyX12_ok nmX12 9 (by decide) wm_5_179 rfl rfl rfl (Nat.le_of_ble_eq_true rfl) dX12_next_121 (fun H locs h_86 => ?_)
              clear h_85
              replace h_86 : qW D _ _ (wk_253faa1b8 cy h0 p0 w0 w1 h1 w2 p1 v8_2_0 v8_2_0 p4 r_85 p6 p7 p8 p9 p10 p11 w3 w4 w5 w6 w7 p12 p13 w8 w9 w10 p14 p15 w11 w12 w13 w14 w15 p16 w16 w17 w18 h1 f0) _ _ := h_86
              refine lv_goto (tgt := 294) hx hb dX12_next_124 (by decide) ?_
              exact q_vret X hr hlk hK h_86 (fun _ => 0, (vcons (fun _ => v8_2_0) (vcons (fun _ => v8_2_0) (vcons (fun _ => r_85) (vcons (fun _ => p6) (fun _ => (fun _ => 0)))))), fun _ _ => 0) ⟨hv8_2_0, hv8_2_0, (bw wr_85 (by decide) (by decide)), hp6, (show 0 ≤ (v8_2_0 : Int32).toInt ∧ (v8_2_0 : Int32).toInt ≤ (v8_2_0 : Int32).toInt ∧ (v8_2_0 : Int32).toInt ≤ (p4 : Int32).toInt from by (first | (clear y5_0 y12_0 y17_0 y18_0 y82_0 y83_0; omega) | omega)), (show (r_85 : Int32).toInt = 26 ∨ (v8_2_0 : Int32).toInt < (v8_2_0 : Int32).toInt from by (first | (clear y5_0 y12_0 y17_0 y18_0 y82_0 y83_0; omega) | omega)), (show (p3 : Int32).toInt ≤ (v8_2_0 : Int32).toInt from by (first | (clear y5_0 y12_0 y17_0 y18_0 y82_0 y83_0; omega) | omega)), (show NXR f0 (p4 : Int32).toInt (p3 : Int32).toInt (v8_2_0 : Int32).toInt (v8_2_0 : Int32).toInt (r_85 : Int32).toInt (p6 : Int32).toInt from by first | (exfalso; omega) | exact nxr_w ts_14 (by (first | assumption | (clear y5_0 y12_0 y17_0 y18_0 y82_0 y83_0; omega) | omega)) (by (first | assumption | (clear y5_0 y12_0 y17_0 y18_0 y82_0 y83_0; omega) | omega)) (by (first | assumption | (clear y5_0 y12_0 y17_0 y18_0 y82_0 y83_0; omega) | omega)) (spn_0 (by (first | assumption | (clear y5_0 y12_0 y17_0 y18_0 y82_0 y83_0; omega) | omega))) y82_0 y83_0 (by (first | assumption | (clear y5_0 y12_0 y17_0 y18_0 y82_0 y83_0; omega) | omega)) y85_0), trivial⟩ [0, 1] rfl rfl dX12_next_294 (Nat.le_of_ble_eq_true rfl) (Nat.le_of_ble_eq_true rfl)
            · replace c_84 := i_ne (x := r_83) (y := 0) rfl (show (0 : Int32).toInt = 0 by decide) c_84
              refine lv_aload_n hx hb dX12_next_103 rfl (lv_at hl 0 rfl) ?_
              refine lv_dup hx hb dX12_next_104 rfl ?_
              refine q_get X hK h_83 0 rfl rfl wf_12 7 (by decide) rfl wm_5_177 dX12_next_105 ?_
              refine lv_iconst (v := 1) hx hb dX12_next_108 (by decide) ?_
              refine lv_iadd hx hb dX12_next_109 ?_
              obtain ⟨z_87, ez_87, hz_87⟩ := e_add (x := v8_2_0) (y := 1) rfl (show (1 : Int32).toInt = 1 by decide) (by omega) (by omega)
              refine q_c z_87 ez_87 ?_
              clear ez_87
              refine q_put (v := .int z_87) X hK h_83 0 rfl rfl wf_12 tyX12 tyX12_ok nmX12 7 (by decide) wm_5_177 rfl rfl rfl (Nat.le_of_ble_eq_true rfl) dX12_next_110 (fun H locs h_88 => ?_)
              clear h_83
              replace h_88 : qW D _ _ (wk_253faa1b8 cy h0 p0 w0 w1 h1 w2 p1 v8_2_0 z_87 p4 p5 p6 p7 p8 p9 p10 p11 w3 w4 w5 w6 w7 p12 p13 w8 w9 w10 p14 p15 w11 w12 w13 w14 w15 p16 w16 w17 w18 h1 f0) _ _ := h_88
              refine lv_goto (tgt := 89) hx hb dX12_next_113 (by decide) ?_
              refine q_wl (fun (v89_89_0 : Int32) H locs ls => (0 ≤ (v89_89_0).toInt ∧ (v89_89_0).toInt ≤ 900) ∧ ((v8_2_0 : Int32).toInt + 1 ≤ (v89_89_0 : Int32).toInt ∧ (v89_89_0 : Int32).toInt ≤ (p4 : Int32).toInt) ∧ (SPN 97 122 f0 (v8_2_0 : Int32).toInt (v89_89_0 : Int32).toInt) ∧ qW D (va_A (wk_253faa1b8 cy h0 p0 w0 w1 h1 w2 p1 p2 p3 p4 p5 p6 p7 p8 p9 p10 p11 w3 w4 w5 w6 w7 p12 p13 w8 w9 w10 p14 p15 w11 w12 w13 w14 w15 p16 w16 w17 w18 h1 f0) sz) s.heap (wk_253faa1b8 cy h0 p0 w0 w1 h1 w2 p1 v8_2_0 v89_89_0 p4 p5 p6 p7 p8 p9 p10 p11 w3 w4 w5 w6 w7 p12 p13 w8 w9 w10 p14 p15 w11 w12 w13 w14 w15 p16 w16 w17 w18 h1 f0) H locs ∧ lv_has ls 2 [(0, .ref h0)]) (fun (v89_89_0 : Int32) => (901 - (v89_89_0).toInt).toNat) (fun q_89 ih_89 H locs ls hP => ?_) z_87 ⟨⟨by omega, by omega⟩, (by (first | (clear y5_0 y12_0 y17_0 y18_0 y82_0 y83_0; omega) | omega)), (spm_s (spn_0 (lo := 97) (hi := 122) (f := f0) (a := (v8_2_0 : Int32).toInt) (e := (v8_2_0 : Int32).toInt) (by (first | assumption | (clear y5_0 y12_0 y17_0 y18_0 y82_0 y83_0; omega) | omega))) (by (first | assumption | (clear y5_0 y12_0 y17_0 y18_0 y82_0 y83_0; omega) | omega)) y82_0 y83_0 (by (first | assumption | (clear y5_0 y12_0 y17_0 y18_0 y82_0 y83_0; omega) | omega)) (by (first | assumption | (clear y5_0 y12_0 y17_0 y18_0 y82_0 y83_0; omega) | omega)) (by (first | assumption | (clear y5_0 y12_0 y17_0 y18_0 y82_0 y83_0; omega) | omega))), h_88, (lv_sub hl [0] rfl)⟩
              obtain ⟨v89_89_0, rfl⟩ : ∃ z, z = q_89 := ⟨_, rfl⟩
              obtain ⟨hv89_89_0, x90_0, x91_1, h, hl⟩ := hP
              refine lv_aload_n hx hb dX12_next_89 rfl (lv_at hl 0 rfl) ?_
              refine lv_aload_n hx hb dX12_next_90 rfl (lv_at hl 0 rfl) ?_
              refine q_get X hK h 0 rfl rfl wf_12 7 (by decide) rfl wm_5_177 dX12_next_91 ?_
              refine q_callVi (rest := []) (wr := []) X hK hT hA h (fun sz => gX12_see_2ecf617 l D cy h0 h1 v89_89_0 p0 w0 w1 w2 p1 v8_2_0 p4 p5 p6 p7 p8 p9 p10 p11 w3 w4 w5 w6 w7 p12 p13 w8 w9 w10 p14 p15 w11 w12 w13 w14 w15 p16 w16 w17 w18 f0 hv89_89_0 hp0 hp1 hv8_2_0 hp4 (i_rng _) hp6 (i_rng _) (i_rng _) (i_rng _) (i_rng _) (i_rng _) (i_rng _) (i_rng _) (i_rng _) (i_rng _) (i_rng _) sz) wm_6_57 wm_6_60 wm_1_12 hd_X12_see wm_6_59 wp_4_4 (ci := 12) (q0 := 0) rfl rfl ⟨Nat.le_of_ble_eq_true rfl, Nat.le_of_ble_eq_true rfl⟩ hl.1 rfl (Nat.le_of_ble_eq_true rfl) dX12_next_94 ⟨Nat.le_of_ble_eq_true rfl, Nat.le_of_ble_eq_true rfl⟩ [0, 1] [] rfl rfl (by decide) rfl rfl (fun r_92 u_92 H locs w_92 h_92 => ?_)
              clear h
              obtain ⟨wr_92, y92_0, _⟩ := w_92
              replace h_92 : qW D _ _ (wk_253faa1b8 cy h0 p0 w0 w1 h1 w2 p1 v8_2_0 v89_89_0 p4 p5 p6 p7 p8 p9 p10 p11 w3 w4 w5 w6 w7 p12 p13 w8 w9 w10 p14 p15 w11 w12 w13 w14 w15 p16 w16 w17 w18 h1 f0) _ _ := h_92
              refine q_callSi (rest := []) (wr := (wk_253faa1b8 cy h0 p0 w0 w1 h1 w2 p1 v8_2_0 v89_89_0 p4 p5 p6 p7 p8 p9 p10 p11 w3 w4 w5 w6 w7 p12 p13 w8 w9 w10 p14 p15 w11 w12 w13 w14 w15 p16 w16 w17 w18 h1 f0)) X hK hT hA h_92 (fun sz => gX12_isSmall_57f175a l D cy r_92 (i_rng _) sz) wm_6_61 wm_6_63 wm_1_12 hd_X12_isSmall wm_6_62 ⟨Nat.le_of_ble_eq_true rfl, Nat.le_of_ble_eq_true rfl⟩ hl.1 rfl (Nat.le_of_ble_eq_true rfl) dX12_next_97 ⟨Nat.le_of_ble_eq_true rfl, Nat.le_of_ble_eq_true rfl⟩ [] [0, 1] rfl rfl (by decide) rfl rfl (fun r_93 u_93 H locs w_93 h_93 => ?_)
              clear h_92
              obtain ⟨wr_93, y93_0, _⟩ := w_93
              replace h_93 : qW D _ _ (wk_253faa1b8 cy h0 p0 w0 w1 h1 w2 p1 v8_2_0 v89_89_0 p4 p5 p6 p7 p8 p9 p10 p11 w3 w4 w5 w6 w7 p12 p13 w8 w9 w10 p14 p15 w11 w12 w13 w14 w15 p16 w16 w17 w18 h1 f0) _ _ := h_93
              refine lv_if_eq (tgt := 116) hx hb dX12_next_100 (by decide) (fun c_94 => ?_) (fun c_94 => ?_)
              · replace c_94 := i_eq (x := r_93) (y := 0) rfl (show (0 : Int32).toInt = 0 by decide) c_94
                refine lv_aload_n hx hb dX12_next_116 rfl (lv_at hl 0 rfl) ?_
                refine lv_aload_n hx hb dX12_next_117 rfl (lv_at hl 0 rfl) ?_
                refine q_callVi (rest := [.ref h0]) (wr := []) X hK hT hA h_93 (fun sz => gX12_keyAt_2274ba1 l D cy h0 h1 p0 w0 w1 w2 p1 v8_2_0 v89_89_0 p4 p5 p6 p7 p8 p9 p10 p11 w3 w4 w5 w6 w7 p12 p13 w8 w9 w10 p14 p15 w11 w12 w13 w14 w15 p16 w16 w17 w18 f0 hp0 hp1 hv8_2_0 hv89_89_0 hp4 (i_rng _) hp6 (i_rng _) (i_rng _) (i_rng _) (i_rng _) (i_rng _) (i_rng _) (i_rng _) (i_rng _) (i_rng _) (i_rng _) (by (first | (clear y5_0 y12_0 y17_0 y18_0 y82_0 y83_0 y92_0 y93_0; omega) | omega)) sz) wm_6_64 wm_6_67 wm_1_12 hd_X12_keyAt wm_6_66 wp_4_5 (ci := 12) (q0 := 0) rfl rfl ⟨Nat.le_of_ble_eq_true rfl, Nat.le_of_ble_eq_true rfl⟩ hl.1 rfl (Nat.le_of_ble_eq_true rfl) dX12_next_118 ⟨Nat.le_of_ble_eq_true rfl, Nat.le_of_ble_eq_true rfl⟩ [0, 1] [] rfl rfl (by decide) rfl rfl (fun r_95 u_95 H locs w_95 h_95 => ?_)
                clear h_93
                obtain ⟨wr_95, y95_0, _⟩ := w_95
                replace h_95 : qW D _ _ (wk_253faa1b8 cy h0 p0 w0 w1 h1 w2 p1 v8_2_0 v89_89_0 p4 p5 p6 p7 p8 p9 p10 p11 w3 w4 w5 w6 w7 p12 p13 w8 w9 w10 p14 p15 w11 w12 w13 w14 w15 p16 w16 w17 w18 h1 f0) _ _ := h_95
                refine q_put (v := .int r_95) X hK h_95 0 rfl rfl wf_12 tyX12 tyX12_ok nmX12 9 (by decide) wm_5_179 rfl rfl rfl (Nat.le_of_ble_eq_true rfl) dX12_next_121 (fun H locs h_96 => ?_)
                clear h_95
                replace h_96 : qW D _ _ (wk_253faa1b8 cy h0 p0 w0 w1 h1 w2 p1 v8_2_0 v89_89_0 p4 r_95 p6 p7 p8 p9 p10 p11 w3 w4 w5 w6 w7 p12 p13 w8 w9 w10 p14 p15 w11 w12 w13 w14 w15 p16 w16 w17 w18 h1 f0) _ _ := h_96
                refine lv_goto (tgt := 294) hx hb dX12_next_124 (by decide) ?_
                exact q_vret X hr hlk hK h_96 (fun _ => 0, (vcons (fun _ => v8_2_0) (vcons (fun _ => v89_89_0) (vcons (fun _ => r_95) (vcons (fun _ => p6) (fun _ => (fun _ => 0)))))), fun _ _ => 0) ⟨hv8_2_0, hv89_89_0, (bw wr_95 (by decide) (by decide)), hp6, (show 0 ≤ (v8_2_0 : Int32).toInt ∧ (v8_2_0 : Int32).toInt ≤ (v89_89_0 : Int32).toInt ∧ (v89_89_0 : Int32).toInt ≤ (p4 : Int32).toInt from by (first | (clear y5_0 y12_0 y17_0 y18_0 y82_0 y83_0 y92_0 y93_0; omega) | omega)), (show (r_95 : Int32).toInt = 26 ∨ (v8_2_0 : Int32).toInt < (v89_89_0 : Int32).toInt from by (first | (clear y5_0 y12_0 y17_0 y18_0 y82_0 y83_0 y92_0 y93_0; omega) | omega)), (show (p3 : Int32).toInt ≤ (v8_2_0 : Int32).toInt from by (first | (clear y5_0 y12_0 y17_0 y18_0 y82_0 y83_0 y92_0 y93_0; omega) | omega)), (show NXR f0 (p4 : Int32).toInt (p3 : Int32).toInt (v8_2_0 : Int32).toInt (v89_89_0 : Int32).toInt (r_95 : Int32).toInt (p6 : Int32).toInt from by first | (exfalso; omega) | exact nxr_w ts_14 (by (first | assumption | (clear y5_0 y12_0 y17_0 y18_0 y82_0 y83_0 y92_0 y93_0; omega) | omega)) (by (first | assumption | (clear y5_0 y12_0 y17_0 y18_0 y82_0 y83_0 y92_0 y93_0; omega) | omega)) (by (first | assumption | (clear y5_0 y12_0 y17_0 y18_0 y82_0 y83_0 y92_0 y93_0; omega) | omega)) x91_1 y92_0 y93_0 (by (first | assumption | (clear y5_0 y12_0 y17_0 y18_0 y82_0 y83_0 y92_0 y93_0; omega) | omega)) y95_0), trivial⟩ [0, 1] rfl rfl dX12_next_294 (Nat.le_of_ble_eq_true rfl) (Nat.le_of_ble_eq_true rfl)
              · replace c_94 := i_ne (x := r_93) (y := 0) rfl (show (0 : Int32).toInt = 0 by decide) c_94
                refine lv_aload_n hx hb dX12_next_103 rfl (lv_at hl 0 rfl) ?_
                refine lv_dup hx hb dX12_next_104 rfl ?_
                refine q_get X hK h_93 0 rfl rfl wf_12 7 (by decide) rfl wm_5_177 dX12_next_105 ?_
                refine lv_iconst (v := 1) hx hb dX12_next_108 (by decide) ?_
                refine lv_iadd hx hb dX12_next_109 ?_
                obtain ⟨z_97, ez_97, hz_97⟩ := e_add (x := v89_89_0) (y := 1) rfl (show (1 : Int32).toInt = 1 by decide) (by omega) (by omega)
                refine q_c z_97 ez_97 ?_
                clear ez_97
                refine q_put (v := .int z_97) X hK h_93 0 rfl rfl wf_12 tyX12 tyX12_ok nmX12 7 (by decide) wm_5_177 rfl rfl rfl (Nat.le_of_ble_eq_true rfl) dX12_next_110 (fun H locs h_98 => ?_)
                clear h_93
                replace h_98 : qW D _ _ (wk_253faa1b8 cy h0 p0 w0 w1 h1 w2 p1 v8_2_0 z_97 p4 p5 p6 p7 p8 p9 p10 p11 w3 w4 w5 w6 w7 p12 p13 w8 w9 w10 p14 p15 w11 w12 w13 w14 w15 p16 w16 w17 w18 h1 f0) _ _ := h_98
                refine lv_goto (tgt := 89) hx hb dX12_next_113 (by decide) ?_
                exact ih_89 z_97 (by show (901 - (z_97).toInt).toNat < (901 - (v89_89_0).toInt).toNat; omega) _ _ _ ⟨⟨by omega, by omega⟩, (by (first | (clear y5_0 y12_0 y17_0 y18_0 y82_0 y83_0 y92_0 y93_0; omega) | omega)), (spm_s x91_1 (by (first | assumption | (clear y5_0 y12_0 y17_0 y18_0 y82_0 y83_0 y92_0 y93_0; omega) | omega)) y92_0 y93_0 (by (first | assumption | (clear y5_0 y12_0 y17_0 y18_0 y82_0 y83_0 y92_0 y93_0; omega) | omega)) (by (first | assumption | (clear y5_0 y12_0 y17_0 y18_0 y82_0 y83_0 y92_0 y93_0; omega) | omega)) (by (first | assumption | (clear y5_0 y12_0 y17_0 y18_0 y82_0 y83_0 y92_0 y93_0; omega) | omega))), h_98, (lv_sub hl [0] rfl)⟩
        · replace c_16 := i_nlt (x := v8_2_0) (y := p4) rfl rfl c_16
          refine lv_aload_n hx hb dX12_next_66 rfl (lv_at hl 0 rfl) ?_
          refine lv_bipush (v := 26) hx hb dX12_next_67 (by decide) ?_
          refine q_put (v := .int 26) X hK h_15 0 rfl rfl wf_12 tyX12 tyX12_ok nmX12 9 (by decide) wm_5_179 rfl rfl rfl (Nat.le_of_ble_eq_true rfl) dX12_next_69 (fun H locs h_99 => ?_)
          clear h_15
          replace h_99 : qW D _ _ (wk_253faa1b8 cy h0 p0 w0 w1 h1 w2 p1 v8_2_0 v8_2_0 p4 26 p6 p7 p8 p9 p10 p11 w3 w4 w5 w6 w7 p12 p13 w8 w9 w10 p14 p15 w11 w12 w13 w14 w15 p16 w16 w17 w18 h1 f0) _ _ := h_99
          refine lv_goto (tgt := 294) hx hb dX12_next_72 (by decide) ?_
          exact q_vret X hr hlk hK h_99 (fun _ => 0, (vcons (fun _ => v8_2_0) (vcons (fun _ => v8_2_0) (vcons (fun _ => 26) (vcons (fun _ => p6) (fun _ => (fun _ => 0)))))), fun _ _ => 0) ⟨hv8_2_0, hv8_2_0, (⟨by decide +kernel, by decide +kernel⟩ : 0 ≤ (26 : Int32).toInt ∧ (26 : Int32).toInt ≤ 63), hp6, (show 0 ≤ (v8_2_0 : Int32).toInt ∧ (v8_2_0 : Int32).toInt ≤ (v8_2_0 : Int32).toInt ∧ (v8_2_0 : Int32).toInt ≤ (p4 : Int32).toInt from by (first | (clear y5_0 y12_0; omega) | omega)), (show (26 : Int32).toInt = 26 ∨ (v8_2_0 : Int32).toInt < (v8_2_0 : Int32).toInt from by have q0 : (26 : Int32).toInt = 26 := (by decide); (first | (clear y5_0 y12_0; omega) | omega)), (show (p3 : Int32).toInt ≤ (v8_2_0 : Int32).toInt from by (first | (clear y5_0 y12_0; omega) | omega)), (show NXR f0 (p4 : Int32).toInt (p3 : Int32).toInt (v8_2_0 : Int32).toInt (v8_2_0 : Int32).toInt (26 : Int32).toInt (p6 : Int32).toInt from nxr_26 ts_14 (by (first | assumption | (clear y5_0 y12_0; omega) | omega)) (by (first | assumption | (clear y5_0 y12_0; omega) | omega)) rfl (by decide)), trivial⟩ [0, 1] rfl rfl dX12_next_294 (Nat.le_of_ble_eq_true rfl) (Nat.le_of_ble_eq_true rfl)
      · replace c_13 := i_eq (x := r_12) (y := 32) rfl (show (32 : Int32).toInt = 32 by decide) c_13
        exact J_34 _ _ _ _ ⟨(by (first | (clear y5_0 y12_0; omega) | omega)), (blm_s x4_1 (by (first | assumption | (clear y5_0 y12_0; omega) | omega)) y12_0 (by (first | assumption | (clear y5_0 y12_0; omega) | omega)) rfl), rfl, h_12, (lv_sub hl [0] rfl)⟩
set_option maxHeartbeats 4000000 in
set_option maxRecDepth 100000 in
theorem gX12_is_b474f74 (l : Launch) (D : va_G) (cy : Nat → ClassId) (h0 : Nat) (p0 : Int32) (w0 : Value) (w1 : Value) (w2 : Value) (w3 : Value) (p1 : Int32) (p2 : Int32) (p3 : Int32) (p4 : Int32) (p5 : Int32) (p6 : Int32) (p7 : Int32) (p8 : Int32) (p9 : Int32) (p10 : Int32) (p11 : Int32) (w4 : Value) (w5 : Value) (w6 : Value) (w7 : Value) (w8 : Value) (p12 : Int32) (p13 : Int32) (w9 : Value) (w10 : Value) (w11 : Value) (p14 : Int32) (p15 : Int32) (w12 : Value) (w13 : Value) (w14 : Value) (w15 : Value) (w16 : Value) (p16 : Int32) (w17 : Value) (w18 : Value) (w19 : Value) (hp0 : 0 ≤ (p0).toInt ∧ (p0).toInt ≤ 0) (hp1 : 0 ≤ (p1).toInt ∧ (p1).toInt ≤ 900) (hp2 : 0 ≤ (p2).toInt ∧ (p2).toInt ≤ 900) (hp3 : 0 ≤ (p3).toInt ∧ (p3).toInt ≤ 900) (hp4 : 0 ≤ (p4).toInt ∧ (p4).toInt ≤ 900) (hp5 : (-2147483648) ≤ (p5).toInt ∧ (p5).toInt ≤ 2147483647) (hp6 : 0 ≤ (p6).toInt ∧ (p6).toInt ≤ 999) (hp7 : (-2147483648) ≤ (p7).toInt ∧ (p7).toInt ≤ 2147483647) (hp8 : (-2147483648) ≤ (p8).toInt ∧ (p8).toInt ≤ 2147483647) (hp9 : (-2147483648) ≤ (p9).toInt ∧ (p9).toInt ≤ 2147483647) (hp10 : (-2147483648) ≤ (p10).toInt ∧ (p10).toInt ≤ 2147483647) (hp11 : (-2147483648) ≤ (p11).toInt ∧ (p11).toInt ≤ 2147483647) (hp12 : (-2147483648) ≤ (p12).toInt ∧ (p12).toInt ≤ 2147483647) (hp13 : (-2147483648) ≤ (p13).toInt ∧ (p13).toInt ≤ 2147483647) (hp14 : (-2147483648) ≤ (p14).toInt ∧ (p14).toInt ≤ 2147483647) (hp15 : (-2147483648) ≤ (p15).toInt ∧ (p15).toInt ≤ 2147483647) (hp16 : (-2147483648) ≤ (p16).toInt ∧ (p16).toInt ≤ 2147483647) (sz : Nat) : MI l yX12_is cX12_is 2 .boolean { frames := 0, cells := 0, slots := 0, locals := 0 } [.ref h0, .int 0] D cy [(h0, .inr (12, [.int p0, w0, w1, w2, w3, .int p1, .int p2, .int p3, .int p4, .int p5, .int p6, .int p7, .int p8, .int p9, .int p10, .int p11, w4, w5, w6, w7, w8, .int p12, .int p13, w9, w10, w11, .int p14, .int p15, w12, w13, w14, w15, w16, .int p16, w17, w18, w19]))] sz (fun r u => (0 ≤ r.toInt ∧ r.toInt ≤ 1) ∧ (((r : Int32).toInt = 1 ∧ (p7 : Int32).toInt = 0 ∧ (p5 : Int32).toInt = (0 : Int32).toInt) ∨ ((r : Int32).toInt = 0 ∧ ((p7 : Int32).toInt ≠ 0 ∨ (p5 : Int32).toInt ≠ (0 : Int32).toInt))) ∧ True) (fun u => [(h0, .inr (12, [.int p0, w0, w1, w2, w3, .int p1, .int p2, .int p3, .int p4, .int p5, .int p6, .int p7, .int p8, .int p9, .int p10, .int p11, w4, w5, w6, w7, w8, .int p12, .int p13, w9, w10, w11, .int p14, .int p15, w12, w13, w14, w15, w16, .int p16, w17, w18, w19]))]) 0 0 := by
  refine q_ent (own := RX12) (by decide) rfl (Nat.le_of_ble_eq_true rfl) (fun p e s m below meth c ls X hr hlk hnm hK hT h hA hl => ?_)
  obtain ⟨hx, hb, hml, hown, ht⟩ := id X
  replace hl : lv_has ls 2 [(0, .ref h0), (1, .int 0)] := hl
  refine lv_aload_n hx hb dX12_is_0 rfl (lv_at hl 0 rfl) ?_
  refine q_get X hK h 0 rfl rfl wf_12 11 (by decide) rfl wm_5_181 dX12_is_1 ?_
  refine lv_if_ne (tgt := 19) hx hb dX12_is_4 (by decide) (fun c_1 => ?_) (fun c_1 => ?_)
  · replace c_1 := i_ne (x := p7) (y := 0) rfl (show (0 : Int32).toInt = 0 by decide) c_1
    refine lv_iconst (v := 0) hx hb dX12_is_19 (by decide) ?_
    exact q_iret X hr hlk hK h rfl (fun _ => 0, fun _ _ => 0, fun _ _ => 0) ⟨⟨by decide +kernel, by decide +kernel⟩, (show ((0 : Int32).toInt = 1 ∧ (p7 : Int32).toInt = 0 ∧ (p5 : Int32).toInt = (0 : Int32).toInt) ∨ ((0 : Int32).toInt = 0 ∧ ((p7 : Int32).toInt ≠ 0 ∨ (p5 : Int32).toInt ≠ (0 : Int32).toInt)) from by have q0 : (0 : Int32).toInt = 0 := (by decide); omega), trivial⟩ [0] rfl rfl dX12_is_20 (Nat.le_of_ble_eq_true rfl) (Nat.le_of_ble_eq_true rfl)
  · replace c_1 := i_eq (x := p7) (y := 0) rfl (show (0 : Int32).toInt = 0 by decide) c_1
    refine lv_aload_n hx hb dX12_is_7 rfl (lv_at hl 0 rfl) ?_
    refine q_get X hK h 0 rfl rfl wf_12 9 (by decide) rfl wm_5_179 dX12_is_8 ?_
    refine lv_iload_n hx hb dX12_is_11 rfl (lv_at hl 1 rfl) ?_
    refine lv_icmp_ne (tgt := 19) hx hb dX12_is_12 (by decide) (fun c_2 => ?_) (fun c_2 => ?_)
    · replace c_2 := i_ne (x := p5) (y := 0) rfl (show (0 : Int32).toInt = 0 by decide) c_2
      refine lv_iconst (v := 0) hx hb dX12_is_19 (by decide) ?_
      exact q_iret X hr hlk hK h rfl (fun _ => 0, fun _ _ => 0, fun _ _ => 0) ⟨⟨by decide +kernel, by decide +kernel⟩, (show ((0 : Int32).toInt = 1 ∧ (p7 : Int32).toInt = 0 ∧ (p5 : Int32).toInt = (0 : Int32).toInt) ∨ ((0 : Int32).toInt = 0 ∧ ((p7 : Int32).toInt ≠ 0 ∨ (p5 : Int32).toInt ≠ (0 : Int32).toInt)) from by have q0 : (0 : Int32).toInt = 0 := (by decide); omega), trivial⟩ [0] rfl rfl dX12_is_20 (Nat.le_of_ble_eq_true rfl) (Nat.le_of_ble_eq_true rfl)
    · replace c_2 := i_eq (x := p5) (y := 0) rfl (show (0 : Int32).toInt = 0 by decide) c_2
      refine lv_iconst (v := 1) hx hb dX12_is_15 (by decide) ?_
      refine lv_goto (tgt := 20) hx hb dX12_is_16 (by decide) ?_
      exact q_iret X hr hlk hK h rfl (fun _ => 0, fun _ _ => 0, fun _ _ => 0) ⟨⟨by decide +kernel, by decide +kernel⟩, (show ((1 : Int32).toInt = 1 ∧ (p7 : Int32).toInt = 0 ∧ (p5 : Int32).toInt = (0 : Int32).toInt) ∨ ((1 : Int32).toInt = 0 ∧ ((p7 : Int32).toInt ≠ 0 ∨ (p5 : Int32).toInt ≠ (0 : Int32).toInt)) from by have q0 : (1 : Int32).toInt = 1 := (by decide); have q1 : (0 : Int32).toInt = 0 := (by decide); omega), trivial⟩ [0] rfl rfl dX12_is_20 (Nat.le_of_ble_eq_true rfl) (Nat.le_of_ble_eq_true rfl)
set_option maxHeartbeats 4000000 in
set_option maxRecDepth 100000 in
theorem gX12_eats_cc4ff34 (l : Launch) (D : va_G) (cy : Nat → ClassId) (h0 : Nat) (h1 : Nat) (p0 : Int32) (w0 : Value) (w1 : Value) (w2 : Value) (p1 : Int32) (p2 : Int32) (p3 : Int32) (p4 : Int32) (p5 : Int32) (p6 : Int32) (p7 : Int32) (p8 : Int32) (p9 : Int32) (p10 : Int32) (p11 : Int32) (w3 : Value) (w4 : Value) (w5 : Value) (w6 : Value) (w7 : Value) (p12 : Int32) (p13 : Int32) (w8 : Value) (w9 : Value) (w10 : Value) (p14 : Int32) (p15 : Int32) (w11 : Value) (w12 : Value) (w13 : Value) (w14 : Value) (w15 : Value) (p16 : Int32) (w16 : Value) (w17 : Value) (w18 : Value) (f0 : Nat → Int32) (hp0 : 0 ≤ (p0).toInt ∧ (p0).toInt ≤ 0) (hp1 : 0 ≤ (p1).toInt ∧ (p1).toInt ≤ 900) (hp2 : 0 ≤ (p2).toInt ∧ (p2).toInt ≤ 900) (hp3 : 0 ≤ (p3).toInt ∧ (p3).toInt ≤ 900) (hp4 : 0 ≤ (p4).toInt ∧ (p4).toInt ≤ 900) (hp5 : (-2147483648) ≤ (p5).toInt ∧ (p5).toInt ≤ 2147483647) (hp6 : 0 ≤ (p6).toInt ∧ (p6).toInt ≤ 999) (hp7 : (-2147483648) ≤ (p7).toInt ∧ (p7).toInt ≤ 2147483647) (hp8 : (-2147483648) ≤ (p8).toInt ∧ (p8).toInt ≤ 2147483647) (hp9 : (-2147483648) ≤ (p9).toInt ∧ (p9).toInt ≤ 2147483647) (hp10 : (-2147483648) ≤ (p10).toInt ∧ (p10).toInt ≤ 2147483647) (hp11 : (-2147483648) ≤ (p11).toInt ∧ (p11).toInt ≤ 2147483647) (hp12 : (-2147483648) ≤ (p12).toInt ∧ (p12).toInt ≤ 2147483647) (hp13 : (-2147483648) ≤ (p13).toInt ∧ (p13).toInt ≤ 2147483647) (hp14 : (-2147483648) ≤ (p14).toInt ∧ (p14).toInt ≤ 2147483647) (hp15 : (-2147483648) ≤ (p15).toInt ∧ (p15).toInt ≤ 2147483647) (hp16 : (-2147483648) ≤ (p16).toInt ∧ (p16).toInt ≤ 2147483647) (hpre0 : 0 ≤ (p2 : Int32).toInt ∧ (p2 : Int32).toInt ≤ (p3 : Int32).toInt ∧ (p3 : Int32).toInt ≤ (p4 : Int32).toInt) (hpre1 : (p5 : Int32).toInt = 26 ∨ (p2 : Int32).toInt < (p3 : Int32).toInt) (sz : Nat) : MI l yX12_eats cX12_eats 2 .boolean { frames := 6, cells := 0, slots := 0, locals := 129 } [.ref h0, .int 0] D cy (wk_253faa1b8 cy h0 p0 w0 w1 h1 w2 p1 p2 p3 p4 p5 p6 p7 p8 p9 p10 p11 w3 w4 w5 w6 w7 p12 p13 w8 w9 w10 p14 p15 w11 w12 w13 w14 w15 p16 w16 w17 w18 h1 f0) sz (fun r u => (0 ≤ r.toInt ∧ r.toInt ≤ 1) ∧ (0 ≤ (u.2.1 0 0).toInt ∧ (u.2.1 0 0).toInt ≤ 900) ∧ (0 ≤ (u.2.1 1 0).toInt ∧ (u.2.1 1 0).toInt ≤ 900) ∧ ((-2147483648) ≤ (u.2.1 2 0).toInt ∧ (u.2.1 2 0).toInt ≤ 2147483647) ∧ (0 ≤ (u.2.1 3 0).toInt ∧ (u.2.1 3 0).toInt ≤ 999) ∧ (0 ≤ ((u.2.1 0 0) : Int32).toInt ∧ ((u.2.1 0 0) : Int32).toInt ≤ ((u.2.1 1 0) : Int32).toInt ∧ ((u.2.1 1 0) : Int32).toInt ≤ (p4 : Int32).toInt) ∧ (((u.2.1 2 0) : Int32).toInt = 26 ∨ ((u.2.1 0 0) : Int32).toInt < ((u.2.1 1 0) : Int32).toInt) ∧ (((r : Int32).toInt = 0 ∧ ((u.2.1 0 0) : Int32).toInt = (p2 : Int32).toInt ∧ ((u.2.1 1 0) : Int32).toInt = (p3 : Int32).toInt ∧ ((u.2.1 2 0) : Int32).toInt = (p5 : Int32).toInt ∧ ((p7 : Int32).toInt ≠ 0 ∨ ((u.2.1 2 0) : Int32).toInt ≠ (0 : Int32).toInt)) ∨ ((r : Int32).toInt = 1 ∧ (p3 : Int32).toInt ≤ ((u.2.1 0 0) : Int32).toInt ∧ (p7 : Int32).toInt = 0 ∧ (p5 : Int32).toInt = (0 : Int32).toInt)) ∧ (ALT (r : Int32).toInt 0 1 (((u.2.1 3 0) : Int32).toInt = (p6 : Int32).toInt) (NXR f0 (p4 : Int32).toInt (p3 : Int32).toInt ((u.2.1 0 0) : Int32).toInt ((u.2.1 1 0) : Int32).toInt ((u.2.1 2 0) : Int32).toInt ((u.2.1 3 0) : Int32).toInt)) ∧ ((r : Int32).toInt = 1 ∨ ((u.2.1 3 0) : Int32).toInt = (p6 : Int32).toInt) ∧ True) (fun u => (wk_253faa1b8 cy h0 p0 w0 w1 h1 w2 p1 (u.2.1 0 0) (u.2.1 1 0) p4 (u.2.1 2 0) (u.2.1 3 0) p7 p8 p9 p10 p11 w3 w4 w5 w6 w7 p12 p13 w8 w9 w10 p14 p15 w11 w12 w13 w14 w15 p16 w16 w17 w18 h1 f0)) 0 0 := by
  refine q_ent (own := RX12) (by decide) rfl (Nat.le_of_ble_eq_true rfl) (fun p e s m below meth c ls X hr hlk hnm hK hT h hA hl => ?_)
  obtain ⟨hx, hb, hml, hown, ht⟩ := id X
  replace hl : lv_has ls 2 [(0, .ref h0), (1, .int 0)] := hl
  refine lv_aload_n hx hb dX12_eats_0 rfl (lv_at hl 0 rfl) ?_
  refine lv_iload_n hx hb dX12_eats_1 rfl (lv_at hl 1 rfl) ?_
  refine q_callVi (rest := []) (wr := [(h1, .inl (cy 1, 900, .inl f0))]) X hK hT hA h (fun sz => gX12_is_b474f74 l D cy h0 p0 w0 w1 (.ref h1) w2 p1 p2 p3 p4 p5 p6 p7 p8 p9 p10 p11 w3 w4 w5 w6 w7 p12 p13 w8 w9 w10 p14 p15 w11 w12 w13 w14 w15 p16 w16 w17 w18 hp0 hp1 hp2 hp3 hp4 (i_rng _) hp6 (i_rng _) (i_rng _) (i_rng _) (i_rng _) (i_rng _) (i_rng _) (i_rng _) (i_rng _) (i_rng _) (i_rng _) sz) wm_6_79 wm_6_82 wm_1_12 hd_X12_is wm_6_81 wp_4_7 (ci := 12) (q0 := 0) rfl rfl ⟨Nat.le_of_ble_eq_true rfl, Nat.le_of_ble_eq_true rfl⟩ hl.1 rfl (Nat.le_of_ble_eq_true rfl) dX12_eats_2 ⟨Nat.le_of_ble_eq_true rfl, Nat.le_of_ble_eq_true rfl⟩ [0] [1] rfl rfl (by decide) rfl rfl (fun r_1 u_1 H locs w_1 h_1 => ?_)
  clear h
  obtain ⟨wr_1, y1_0, _⟩ := w_1
  have lq_1_1 : (0 : Int32).toInt = 0 := (by decide)
  replace h_1 : qW D _ _ (wk_e69636a28 cy h1 f0 h0 p0 w0 w1 h1 w2 p1 p2 p3 p4 p5 p6 p7 p8 p9 p10 p11 w3 w4 w5 w6 w7 p12 p13 w8 w9 w10 p14 p15 w11 w12 w13 w14 w15 p16 w16 w17 w18) _ _ := h_1
  refine lv_if_ne (tgt := 10) hx hb dX12_eats_5 (by decide) (fun c_2 => ?_) (fun c_2 => ?_)
  · replace c_2 := i_ne (x := r_1) (y := 0) rfl (show (0 : Int32).toInt = 0 by decide) c_2
    replace y1_0 := a10_1 y1_0 c_2
    refine lv_aload_n hx hb dX12_eats_10 rfl (lv_at hl 0 rfl) ?_
    refine q_callVv (rest := []) (wr := []) X hK hT hA h_1 (fun sz => gX12_next_c515fc5 l D cy h0 h1 p0 w0 w1 w2 p1 p2 p3 p4 p5 p6 p7 p8 p9 p10 p11 w3 w4 w5 w6 w7 p12 p13 w8 w9 w10 p14 p15 w11 w12 w13 w14 w15 p16 w16 w17 w18 f0 hp0 hp1 hp2 hp3 hp4 (i_rng _) hp6 (i_rng _) (i_rng _) (i_rng _) (i_rng _) (i_rng _) (i_rng _) (i_rng _) (i_rng _) (i_rng _) (i_rng _) (by (first | (clear hpre1; omega) | omega)) sz) wm_6_53 wm_6_56 wm_1_12 hd_X12_next wm_6_55 wp_4_3 (ci := 12) (q0 := 0) rfl rfl ⟨Nat.le_of_ble_eq_true rfl, Nat.le_of_ble_eq_true rfl⟩ hl.1 rfl (Nat.le_of_ble_eq_true rfl) dX12_eats_11 ⟨Nat.le_of_ble_eq_true rfl, Nat.le_of_ble_eq_true rfl⟩ [1, 0] [] rfl rfl (by decide) rfl rfl (fun u_3 H locs w_3 h_3 => ?_)
    clear h_1
    obtain ⟨w3_0, w3_1, w3_2, w3_3, y3_0, y3_1, y3_2, y3_3, _⟩ := w_3
    replace h_3 : qW D _ _ (wk_253faa1b8 cy h0 p0 w0 w1 h1 w2 p1 (u_3.2.1 0 0) (u_3.2.1 1 0) p4 (u_3.2.1 2 0) (u_3.2.1 3 0) p7 p8 p9 p10 p11 w3 w4 w5 w6 w7 p12 p13 w8 w9 w10 p14 p15 w11 w12 w13 w14 w15 p16 w16 w17 w18 h1 f0) _ _ := h_3
    refine lv_iconst (v := 1) hx hb dX12_eats_14 (by decide) ?_
    exact q_iret X hr hlk hK h_3 rfl (fun _ => 0, (vcons (fun _ => (u_3.2.1 0 0)) (vcons (fun _ => (u_3.2.1 1 0)) (vcons (fun _ => (u_3.2.1 2 0)) (vcons (fun _ => (u_3.2.1 3 0)) (fun _ => (fun _ => 0)))))), fun _ _ => 0) ⟨⟨by decide +kernel, by decide +kernel⟩, w3_0, w3_1, (bw w3_2 (by decide) (by decide)), w3_3, y3_0, y3_1, (show ((1 : Int32).toInt = 0 ∧ ((u_3.2.1 0 0) : Int32).toInt = (p2 : Int32).toInt ∧ ((u_3.2.1 1 0) : Int32).toInt = (p3 : Int32).toInt ∧ ((u_3.2.1 2 0) : Int32).toInt = (p5 : Int32).toInt ∧ ((p7 : Int32).toInt ≠ 0 ∨ ((u_3.2.1 2 0) : Int32).toInt ≠ (0 : Int32).toInt)) ∨ ((1 : Int32).toInt = 1 ∧ (p3 : Int32).toInt ≤ ((u_3.2.1 0 0) : Int32).toInt ∧ (p7 : Int32).toInt = 0 ∧ (p5 : Int32).toInt = (0 : Int32).toInt) from by have q0 : (1 : Int32).toInt = 1 := (by decide); have q1 : (0 : Int32).toInt = 0 := (by decide); (first | (clear hpre1 y3_1; omega) | omega)), (show ALT (1 : Int32).toInt 0 1 (((u_3.2.1 3 0) : Int32).toInt = (p6 : Int32).toInt) (NXR f0 (p4 : Int32).toInt (p3 : Int32).toInt ((u_3.2.1 0 0) : Int32).toInt ((u_3.2.1 1 0) : Int32).toInt ((u_3.2.1 2 0) : Int32).toInt ((u_3.2.1 3 0) : Int32).toInt) from alt_2 (by decide) y3_3), (show (1 : Int32).toInt = 1 ∨ ((u_3.2.1 3 0) : Int32).toInt = (p6 : Int32).toInt from by have q0 : (1 : Int32).toInt = 1 := (by decide); (first | (clear hpre1 y3_1; omega) | omega)), trivial⟩ [0, 1] rfl rfl dX12_eats_15 (Nat.le_of_ble_eq_true rfl) (Nat.le_of_ble_eq_true rfl)
  · replace c_2 := i_eq (x := r_1) (y := 0) rfl (show (0 : Int32).toInt = 0 by decide) c_2
    replace y1_0 := a10_0 y1_0 c_2
    refine lv_iconst (v := 0) hx hb dX12_eats_8 (by decide) ?_
    exact q_iret X hr hlk hK h_1 rfl (fun _ => 0, (vcons (fun _ => p2) (vcons (fun _ => p3) (vcons (fun _ => p5) (vcons (fun _ => p6) (fun _ => (fun _ => 0)))))), fun _ _ => 0) ⟨⟨by decide +kernel, by decide +kernel⟩, hp2, hp3, hp5, hp6, hpre0, hpre1, (show ((0 : Int32).toInt = 0 ∧ (p2 : Int32).toInt = (p2 : Int32).toInt ∧ (p3 : Int32).toInt = (p3 : Int32).toInt ∧ (p5 : Int32).toInt = (p5 : Int32).toInt ∧ ((p7 : Int32).toInt ≠ 0 ∨ (p5 : Int32).toInt ≠ (0 : Int32).toInt)) ∨ ((0 : Int32).toInt = 1 ∧ (p3 : Int32).toInt ≤ (p2 : Int32).toInt ∧ (p7 : Int32).toInt = 0 ∧ (p5 : Int32).toInt = (0 : Int32).toInt) from by have q0 : (0 : Int32).toInt = 0 := (by decide); (first | (clear hpre1 y1_0; omega) | omega)), (show ALT (0 : Int32).toInt 0 1 ((p6 : Int32).toInt = (p6 : Int32).toInt) (NXR f0 (p4 : Int32).toInt (p3 : Int32).toInt (p2 : Int32).toInt (p3 : Int32).toInt (p5 : Int32).toInt (p6 : Int32).toInt) from alt_1 (by decide) rfl), (show (0 : Int32).toInt = 1 ∨ (p6 : Int32).toInt = (p6 : Int32).toInt from by have q0 : (0 : Int32).toInt = 0 := (by decide); (first | (clear hpre1 y1_0; omega) | omega)), trivial⟩ [1, 0] rfl rfl dX12_eats_9 (Nat.le_of_ble_eq_true rfl) (Nat.le_of_ble_eq_true rfl)
set_option maxHeartbeats 4000000 in
set_option maxRecDepth 100000 in
theorem gX12_fails_1e02d40 (l : Launch) (D : va_G) (cy : Nat → ClassId) (h0 : Nat) (p0 : Int32) (w0 : Value) (w1 : Value) (w2 : Value) (w3 : Value) (p1 : Int32) (p2 : Int32) (p3 : Int32) (p4 : Int32) (p5 : Int32) (p6 : Int32) (p7 : Int32) (p8 : Int32) (p9 : Int32) (p10 : Int32) (p11 : Int32) (w4 : Value) (w5 : Value) (w6 : Value) (w7 : Value) (w8 : Value) (p12 : Int32) (p13 : Int32) (w9 : Value) (w10 : Value) (w11 : Value) (p14 : Int32) (p15 : Int32) (w12 : Value) (w13 : Value) (w14 : Value) (w15 : Value) (w16 : Value) (p16 : Int32) (w17 : Value) (w18 : Value) (w19 : Value) (hp0 : 0 ≤ (p0).toInt ∧ (p0).toInt ≤ 0) (hp1 : 0 ≤ (p1).toInt ∧ (p1).toInt ≤ 900) (hp2 : 0 ≤ (p2).toInt ∧ (p2).toInt ≤ 900) (hp3 : 0 ≤ (p3).toInt ∧ (p3).toInt ≤ 900) (hp4 : 0 ≤ (p4).toInt ∧ (p4).toInt ≤ 900) (hp5 : (-2147483648) ≤ (p5).toInt ∧ (p5).toInt ≤ 2147483647) (hp6 : 0 ≤ (p6).toInt ∧ (p6).toInt ≤ 999) (hp7 : (-2147483648) ≤ (p7).toInt ∧ (p7).toInt ≤ 2147483647) (hp8 : (-2147483648) ≤ (p8).toInt ∧ (p8).toInt ≤ 2147483647) (hp9 : (-2147483648) ≤ (p9).toInt ∧ (p9).toInt ≤ 2147483647) (hp10 : (-2147483648) ≤ (p10).toInt ∧ (p10).toInt ≤ 2147483647) (hp11 : (-2147483648) ≤ (p11).toInt ∧ (p11).toInt ≤ 2147483647) (hp12 : (-2147483648) ≤ (p12).toInt ∧ (p12).toInt ≤ 2147483647) (hp13 : (-2147483648) ≤ (p13).toInt ∧ (p13).toInt ≤ 2147483647) (hp14 : (-2147483648) ≤ (p14).toInt ∧ (p14).toInt ≤ 2147483647) (hp15 : (-2147483648) ≤ (p15).toInt ∧ (p15).toInt ≤ 2147483647) (hp16 : (-2147483648) ≤ (p16).toInt ∧ (p16).toInt ≤ 2147483647) (sz : Nat) : MV l yX12_fails cX12_fails 2 { frames := 0, cells := 0, slots := 0, locals := 0 } [.ref h0, .int 2] D cy [(h0, .inr (12, [.int p0, w0, w1, w2, w3, .int p1, .int p2, .int p3, .int p4, .int p5, .int p6, .int p7, .int p8, .int p9, .int p10, .int p11, w4, w5, w6, w7, w8, .int p12, .int p13, w9, w10, w11, .int p14, .int p15, w12, w13, w14, w15, w16, .int p16, w17, w18, w19]))] sz (fun u => ((-2147483648) ≤ (u.2.1 0 0).toInt ∧ (u.2.1 0 0).toInt ≤ 2147483647) ∧ ((-2147483648) ≤ (u.2.1 1 0).toInt ∧ (u.2.1 1 0).toInt ≤ 2147483647) ∧ (((u.2.1 0 0) : Int32).toInt ≠ 0) ∧ (FLR 2 (p2 : Int32).toInt (p5 : Int32).toInt (p7 : Int32).toInt (p8 : Int32).toInt ((u.2.1 0 0) : Int32).toInt ((u.2.1 1 0) : Int32).toInt) ∧ True) (fun u => [(h0, .inr (12, [.int p0, w0, w1, w2, w3, .int p1, .int p2, .int p3, .int p4, .int p5, .int p6, .int (u.2.1 0 0), .int (u.2.1 1 0), .int p9, .int p10, .int p11, w4, w5, w6, w7, w8, .int p12, .int p13, w9, w10, w11, .int p14, .int p15, w12, w13, w14, w15, w16, .int p16, w17, w18, w19]))]) 0 0 := by
  refine q_ent (own := RX12) (by decide) rfl (Nat.le_of_ble_eq_true rfl) (fun p e s m below meth c ls X hr hlk hnm hK hT h hA hl => ?_)
  obtain ⟨hx, hb, hml, hown, ht⟩ := id X
  replace hl : lv_has ls 2 [(0, .ref h0), (1, .int 2)] := hl
  refine lv_aload_n hx hb dX12_fails_0 rfl (lv_at hl 0 rfl) ?_
  refine q_get X hK h 0 rfl rfl wf_12 11 (by decide) rfl wm_5_181 dX12_fails_1 ?_
  refine lv_if_eq (tgt := 8) hx hb dX12_fails_4 (by decide) (fun c_1 => ?_) (fun c_1 => ?_)
  · replace c_1 := i_eq (x := p7) (y := 0) rfl (show (0 : Int32).toInt = 0 by decide) c_1
    refine lv_aload_n hx hb dX12_fails_8 rfl (lv_at hl 0 rfl) ?_
    refine lv_aload_n hx hb dX12_fails_9 rfl (lv_at hl 0 rfl) ?_
    refine q_get X hK h 0 rfl rfl wf_12 9 (by decide) rfl wm_5_179 dX12_fails_10 ?_
    refine lv_bipush (v := 27) hx hb dX12_fails_13 (by decide) ?_
    refine lv_icmp_ne (tgt := 22) hx hb dX12_fails_15 (by decide) (fun c_2 => ?_) (fun c_2 => ?_)
    · replace c_2 := i_ne (x := p5) (y := 27) rfl (show (27 : Int32).toInt = 27 by decide) c_2
      refine lv_iload_n hx hb dX12_fails_22 rfl (lv_at hl 1 rfl) ?_
      refine q_put (v := .int 2) X hK h 0 rfl rfl wf_12 tyX12 tyX12_ok nmX12 11 (by decide) wm_5_181 rfl rfl rfl (Nat.le_of_ble_eq_true rfl) dX12_fails_23 (fun H locs h_3 => ?_)
      clear h
      replace h_3 : qW D _ _ [(h0, .inr (12, [.int p0, w0, w1, w2, w3, .int p1, .int p2, .int p3, .int p4, .int p5, .int p6, .int 2, .int p8, .int p9, .int p10, .int p11, w4, w5, w6, w7, w8, .int p12, .int p13, w9, w10, w11, .int p14, .int p15, w12, w13, w14, w15, w16, .int p16, w17, w18, w19]))] _ _ := h_3
      refine lv_aload_n hx hb dX12_fails_26 rfl (lv_at hl 0 rfl) ?_
      refine lv_aload_n hx hb dX12_fails_27 rfl (lv_at hl 0 rfl) ?_
      refine q_get X hK h_3 0 rfl rfl wf_12 6 (by decide) rfl wm_5_176 dX12_fails_28 ?_
      refine q_put (v := .int p2) X hK h_3 0 rfl rfl wf_12 tyX12 tyX12_ok nmX12 12 (by decide) wm_5_182 rfl rfl rfl (Nat.le_of_ble_eq_true rfl) dX12_fails_31 (fun H locs h_4 => ?_)
      clear h_3
      replace h_4 : qW D _ _ [(h0, .inr (12, [.int p0, w0, w1, w2, w3, .int p1, .int p2, .int p3, .int p4, .int p5, .int p6, .int 2, .int p2, .int p9, .int p10, .int p11, w4, w5, w6, w7, w8, .int p12, .int p13, w9, w10, w11, .int p14, .int p15, w12, w13, w14, w15, w16, .int p16, w17, w18, w19]))] _ _ := h_4
      exact q_vret X hr hlk hK h_4 (fun _ => 0, (vcons (fun _ => 2) (vcons (fun _ => p2) (fun _ => (fun _ => 0)))), fun _ _ => 0) ⟨(⟨by decide +kernel, by decide +kernel⟩ : (-2147483648) ≤ (2 : Int32).toInt ∧ (2 : Int32).toInt ≤ 2147483647), (bw hp2 (by decide) (by decide)), (show (2 : Int32).toInt ≠ 0 from by have q0 : (2 : Int32).toInt = 2 := (by decide); omega), (show FLR 2 (p2 : Int32).toInt (p5 : Int32).toInt (p7 : Int32).toInt (p8 : Int32).toInt (2 : Int32).toInt (p2 : Int32).toInt from by first | exact Or.inl ⟨(by (first | assumption | omega)), rfl, rfl⟩ | exact Or.inr ⟨(by (first | assumption | omega)), Or.inl ⟨(by (first | assumption | omega)), by decide⟩, rfl⟩ | exact Or.inr ⟨(by (first | assumption | omega)), Or.inr ⟨(by (first | assumption | omega)), by decide⟩, rfl⟩), trivial⟩ [0] rfl rfl dX12_fails_34 (Nat.le_of_ble_eq_true rfl) (Nat.le_of_ble_eq_true rfl)
    · replace c_2 := i_eq (x := p5) (y := 27) rfl (show (27 : Int32).toInt = 27 by decide) c_2
      refine lv_iconst (v := 1) hx hb dX12_fails_18 (by decide) ?_
      refine lv_goto (tgt := 23) hx hb dX12_fails_19 (by decide) ?_
      refine q_put (v := .int 1) X hK h 0 rfl rfl wf_12 tyX12 tyX12_ok nmX12 11 (by decide) wm_5_181 rfl rfl rfl (Nat.le_of_ble_eq_true rfl) dX12_fails_23 (fun H locs h_5 => ?_)
      clear h
      replace h_5 : qW D _ _ [(h0, .inr (12, [.int p0, w0, w1, w2, w3, .int p1, .int p2, .int p3, .int p4, .int p5, .int p6, .int 1, .int p8, .int p9, .int p10, .int p11, w4, w5, w6, w7, w8, .int p12, .int p13, w9, w10, w11, .int p14, .int p15, w12, w13, w14, w15, w16, .int p16, w17, w18, w19]))] _ _ := h_5
      refine lv_aload_n hx hb dX12_fails_26 rfl (lv_at hl 0 rfl) ?_
      refine lv_aload_n hx hb dX12_fails_27 rfl (lv_at hl 0 rfl) ?_
      refine q_get X hK h_5 0 rfl rfl wf_12 6 (by decide) rfl wm_5_176 dX12_fails_28 ?_
      refine q_put (v := .int p2) X hK h_5 0 rfl rfl wf_12 tyX12 tyX12_ok nmX12 12 (by decide) wm_5_182 rfl rfl rfl (Nat.le_of_ble_eq_true rfl) dX12_fails_31 (fun H locs h_6 => ?_)
      clear h_5
      replace h_6 : qW D _ _ [(h0, .inr (12, [.int p0, w0, w1, w2, w3, .int p1, .int p2, .int p3, .int p4, .int p5, .int p6, .int 1, .int p2, .int p9, .int p10, .int p11, w4, w5, w6, w7, w8, .int p12, .int p13, w9, w10, w11, .int p14, .int p15, w12, w13, w14, w15, w16, .int p16, w17, w18, w19]))] _ _ := h_6
      exact q_vret X hr hlk hK h_6 (fun _ => 0, (vcons (fun _ => 1) (vcons (fun _ => p2) (fun _ => (fun _ => 0)))), fun _ _ => 0) ⟨(⟨by decide +kernel, by decide +kernel⟩ : (-2147483648) ≤ (1 : Int32).toInt ∧ (1 : Int32).toInt ≤ 2147483647), (bw hp2 (by decide) (by decide)), (show (1 : Int32).toInt ≠ 0 from by have q0 : (1 : Int32).toInt = 1 := (by decide); omega), (show FLR 2 (p2 : Int32).toInt (p5 : Int32).toInt (p7 : Int32).toInt (p8 : Int32).toInt (1 : Int32).toInt (p2 : Int32).toInt from by first | exact Or.inl ⟨(by (first | assumption | omega)), rfl, rfl⟩ | exact Or.inr ⟨(by (first | assumption | omega)), Or.inl ⟨(by (first | assumption | omega)), by decide⟩, rfl⟩ | exact Or.inr ⟨(by (first | assumption | omega)), Or.inr ⟨(by (first | assumption | omega)), by decide⟩, rfl⟩), trivial⟩ [0] rfl rfl dX12_fails_34 (Nat.le_of_ble_eq_true rfl) (Nat.le_of_ble_eq_true rfl)
  · replace c_1 := i_ne (x := p7) (y := 0) rfl (show (0 : Int32).toInt = 0 by decide) c_1
    exact q_vret X hr hlk hK h (fun _ => 0, (vcons (fun _ => p7) (vcons (fun _ => p8) (fun _ => (fun _ => 0)))), fun _ _ => 0) ⟨hp7, hp8, (show (p7 : Int32).toInt ≠ 0 from by omega), (show FLR 2 (p2 : Int32).toInt (p5 : Int32).toInt (p7 : Int32).toInt (p8 : Int32).toInt (p7 : Int32).toInt (p8 : Int32).toInt from by first | exact Or.inl ⟨(by (first | assumption | omega)), rfl, rfl⟩ | exact Or.inr ⟨(by (first | assumption | omega)), Or.inl ⟨(by (first | assumption | omega)), by decide⟩, rfl⟩ | exact Or.inr ⟨(by (first | assumption | omega)), Or.inr ⟨(by (first | assumption | omega)), by decide⟩, rfl⟩), trivial⟩ [0] rfl rfl dX12_fails_7 (Nat.le_of_ble_eq_true rfl) (Nat.le_of_ble_eq_true rfl)
set_option maxHeartbeats 4000000 in
set_option maxRecDepth 100000 in
theorem gX12_is_9c14fab (l : Launch) (D : va_G) (cy : Nat → ClassId) (h0 : Nat) (p0 : Int32) (w0 : Value) (w1 : Value) (w2 : Value) (w3 : Value) (p1 : Int32) (p2 : Int32) (p3 : Int32) (p4 : Int32) (p5 : Int32) (p6 : Int32) (p7 : Int32) (p8 : Int32) (p9 : Int32) (p10 : Int32) (p11 : Int32) (w4 : Value) (w5 : Value) (w6 : Value) (w7 : Value) (w8 : Value) (p12 : Int32) (p13 : Int32) (w9 : Value) (w10 : Value) (w11 : Value) (p14 : Int32) (p15 : Int32) (w12 : Value) (w13 : Value) (w14 : Value) (w15 : Value) (w16 : Value) (p16 : Int32) (w17 : Value) (w18 : Value) (w19 : Value) (hp0 : 0 ≤ (p0).toInt ∧ (p0).toInt ≤ 0) (hp1 : 0 ≤ (p1).toInt ∧ (p1).toInt ≤ 900) (hp2 : 0 ≤ (p2).toInt ∧ (p2).toInt ≤ 900) (hp3 : 0 ≤ (p3).toInt ∧ (p3).toInt ≤ 900) (hp4 : 0 ≤ (p4).toInt ∧ (p4).toInt ≤ 900) (hp5 : (-2147483648) ≤ (p5).toInt ∧ (p5).toInt ≤ 2147483647) (hp6 : 0 ≤ (p6).toInt ∧ (p6).toInt ≤ 999) (hp7 : (-2147483648) ≤ (p7).toInt ∧ (p7).toInt ≤ 2147483647) (hp8 : (-2147483648) ≤ (p8).toInt ∧ (p8).toInt ≤ 2147483647) (hp9 : (-2147483648) ≤ (p9).toInt ∧ (p9).toInt ≤ 2147483647) (hp10 : (-2147483648) ≤ (p10).toInt ∧ (p10).toInt ≤ 2147483647) (hp11 : (-2147483648) ≤ (p11).toInt ∧ (p11).toInt ≤ 2147483647) (hp12 : (-2147483648) ≤ (p12).toInt ∧ (p12).toInt ≤ 2147483647) (hp13 : (-2147483648) ≤ (p13).toInt ∧ (p13).toInt ≤ 2147483647) (hp14 : (-2147483648) ≤ (p14).toInt ∧ (p14).toInt ≤ 2147483647) (hp15 : (-2147483648) ≤ (p15).toInt ∧ (p15).toInt ≤ 2147483647) (hp16 : (-2147483648) ≤ (p16).toInt ∧ (p16).toInt ≤ 2147483647) (sz : Nat) : MI l yX12_is cX12_is 2 .boolean { frames := 0, cells := 0, slots := 0, locals := 0 } [.ref h0, .int 1] D cy [(h0, .inr (12, [.int p0, w0, w1, w2, w3, .int p1, .int p2, .int p3, .int p4, .int p5, .int p6, .int p7, .int p8, .int p9, .int p10, .int p11, w4, w5, w6, w7, w8, .int p12, .int p13, w9, w10, w11, .int p14, .int p15, w12, w13, w14, w15, w16, .int p16, w17, w18, w19]))] sz (fun r u => (0 ≤ r.toInt ∧ r.toInt ≤ 1) ∧ (((r : Int32).toInt = 1 ∧ (p7 : Int32).toInt = 0 ∧ (p5 : Int32).toInt = (1 : Int32).toInt) ∨ ((r : Int32).toInt = 0 ∧ ((p7 : Int32).toInt ≠ 0 ∨ (p5 : Int32).toInt ≠ (1 : Int32).toInt))) ∧ True) (fun u => [(h0, .inr (12, [.int p0, w0, w1, w2, w3, .int p1, .int p2, .int p3, .int p4, .int p5, .int p6, .int p7, .int p8, .int p9, .int p10, .int p11, w4, w5, w6, w7, w8, .int p12, .int p13, w9, w10, w11, .int p14, .int p15, w12, w13, w14, w15, w16, .int p16, w17, w18, w19]))]) 0 0 := by
  refine q_ent (own := RX12) (by decide) rfl (Nat.le_of_ble_eq_true rfl) (fun p e s m below meth c ls X hr hlk hnm hK hT h hA hl => ?_)
  obtain ⟨hx, hb, hml, hown, ht⟩ := id X
  replace hl : lv_has ls 2 [(0, .ref h0), (1, .int 1)] := hl
  refine lv_aload_n hx hb dX12_is_0 rfl (lv_at hl 0 rfl) ?_
  refine q_get X hK h 0 rfl rfl wf_12 11 (by decide) rfl wm_5_181 dX12_is_1 ?_
  refine lv_if_ne (tgt := 19) hx hb dX12_is_4 (by decide) (fun c_1 => ?_) (fun c_1 => ?_)
  · replace c_1 := i_ne (x := p7) (y := 0) rfl (show (0 : Int32).toInt = 0 by decide) c_1
    refine lv_iconst (v := 0) hx hb dX12_is_19 (by decide) ?_
    exact q_iret X hr hlk hK h rfl (fun _ => 0, fun _ _ => 0, fun _ _ => 0) ⟨⟨by decide +kernel, by decide +kernel⟩, (show ((0 : Int32).toInt = 1 ∧ (p7 : Int32).toInt = 0 ∧ (p5 : Int32).toInt = (1 : Int32).toInt) ∨ ((0 : Int32).toInt = 0 ∧ ((p7 : Int32).toInt ≠ 0 ∨ (p5 : Int32).toInt ≠ (1 : Int32).toInt)) from by have q0 : (0 : Int32).toInt = 0 := (by decide); have q1 : (1 : Int32).toInt = 1 := (by decide); omega), trivial⟩ [0] rfl rfl dX12_is_20 (Nat.le_of_ble_eq_true rfl) (Nat.le_of_ble_eq_true rfl)
  · replace c_1 := i_eq (x := p7) (y := 0) rfl (show (0 : Int32).toInt = 0 by decide) c_1
    refine lv_aload_n hx hb dX12_is_7 rfl (lv_at hl 0 rfl) ?_
    refine q_get X hK h 0 rfl rfl wf_12 9 (by decide) rfl wm_5_179 dX12_is_8 ?_
    refine lv_iload_n hx hb dX12_is_11 rfl (lv_at hl 1 rfl) ?_
    refine lv_icmp_ne (tgt := 19) hx hb dX12_is_12 (by decide) (fun c_2 => ?_) (fun c_2 => ?_)
    · replace c_2 := i_ne (x := p5) (y := 1) rfl (show (1 : Int32).toInt = 1 by decide) c_2
      refine lv_iconst (v := 0) hx hb dX12_is_19 (by decide) ?_
      exact q_iret X hr hlk hK h rfl (fun _ => 0, fun _ _ => 0, fun _ _ => 0) ⟨⟨by decide +kernel, by decide +kernel⟩, (show ((0 : Int32).toInt = 1 ∧ (p7 : Int32).toInt = 0 ∧ (p5 : Int32).toInt = (1 : Int32).toInt) ∨ ((0 : Int32).toInt = 0 ∧ ((p7 : Int32).toInt ≠ 0 ∨ (p5 : Int32).toInt ≠ (1 : Int32).toInt)) from by have q0 : (0 : Int32).toInt = 0 := (by decide); have q1 : (1 : Int32).toInt = 1 := (by decide); omega), trivial⟩ [0] rfl rfl dX12_is_20 (Nat.le_of_ble_eq_true rfl) (Nat.le_of_ble_eq_true rfl)
    · replace c_2 := i_eq (x := p5) (y := 1) rfl (show (1 : Int32).toInt = 1 by decide) c_2
      refine lv_iconst (v := 1) hx hb dX12_is_15 (by decide) ?_
      refine lv_goto (tgt := 20) hx hb dX12_is_16 (by decide) ?_
      exact q_iret X hr hlk hK h rfl (fun _ => 0, fun _ _ => 0, fun _ _ => 0) ⟨⟨by decide +kernel, by decide +kernel⟩, (show ((1 : Int32).toInt = 1 ∧ (p7 : Int32).toInt = 0 ∧ (p5 : Int32).toInt = (1 : Int32).toInt) ∨ ((1 : Int32).toInt = 0 ∧ ((p7 : Int32).toInt ≠ 0 ∨ (p5 : Int32).toInt ≠ (1 : Int32).toInt)) from by have q0 : (1 : Int32).toInt = 1 := (by decide); omega), trivial⟩ [0] rfl rfl dX12_is_20 (Nat.le_of_ble_eq_true rfl) (Nat.le_of_ble_eq_true rfl)
set_option maxHeartbeats 4000000 in
set_option maxRecDepth 100000 in
theorem gX12_eats_b39a967 (l : Launch) (D : va_G) (cy : Nat → ClassId) (h0 : Nat) (h1 : Nat) (p0 : Int32) (w0 : Value) (w1 : Value) (w2 : Value) (p1 : Int32) (p2 : Int32) (p3 : Int32) (p4 : Int32) (p5 : Int32) (p6 : Int32) (p7 : Int32) (p8 : Int32) (p9 : Int32) (p10 : Int32) (p11 : Int32) (w3 : Value) (w4 : Value) (w5 : Value) (w6 : Value) (w7 : Value) (p12 : Int32) (p13 : Int32) (w8 : Value) (w9 : Value) (w10 : Value) (p14 : Int32) (p15 : Int32) (w11 : Value) (w12 : Value) (w13 : Value) (w14 : Value) (w15 : Value) (p16 : Int32) (w16 : Value) (w17 : Value) (w18 : Value) (f0 : Nat → Int32) (hp0 : 0 ≤ (p0).toInt ∧ (p0).toInt ≤ 0) (hp1 : 0 ≤ (p1).toInt ∧ (p1).toInt ≤ 900) (hp2 : 0 ≤ (p2).toInt ∧ (p2).toInt ≤ 900) (hp3 : 0 ≤ (p3).toInt ∧ (p3).toInt ≤ 900) (hp4 : 0 ≤ (p4).toInt ∧ (p4).toInt ≤ 900) (hp5 : (-2147483648) ≤ (p5).toInt ∧ (p5).toInt ≤ 2147483647) (hp6 : 0 ≤ (p6).toInt ∧ (p6).toInt ≤ 999) (hp7 : (-2147483648) ≤ (p7).toInt ∧ (p7).toInt ≤ 2147483647) (hp8 : (-2147483648) ≤ (p8).toInt ∧ (p8).toInt ≤ 2147483647) (hp9 : (-2147483648) ≤ (p9).toInt ∧ (p9).toInt ≤ 2147483647) (hp10 : (-2147483648) ≤ (p10).toInt ∧ (p10).toInt ≤ 2147483647) (hp11 : (-2147483648) ≤ (p11).toInt ∧ (p11).toInt ≤ 2147483647) (hp12 : (-2147483648) ≤ (p12).toInt ∧ (p12).toInt ≤ 2147483647) (hp13 : (-2147483648) ≤ (p13).toInt ∧ (p13).toInt ≤ 2147483647) (hp14 : (-2147483648) ≤ (p14).toInt ∧ (p14).toInt ≤ 2147483647) (hp15 : (-2147483648) ≤ (p15).toInt ∧ (p15).toInt ≤ 2147483647) (hp16 : (-2147483648) ≤ (p16).toInt ∧ (p16).toInt ≤ 2147483647) (hpre0 : 0 ≤ (p2 : Int32).toInt ∧ (p2 : Int32).toInt ≤ (p3 : Int32).toInt ∧ (p3 : Int32).toInt ≤ (p4 : Int32).toInt) (hpre1 : (p5 : Int32).toInt = 26 ∨ (p2 : Int32).toInt < (p3 : Int32).toInt) (sz : Nat) : MI l yX12_eats cX12_eats 2 .boolean { frames := 6, cells := 0, slots := 0, locals := 129 } [.ref h0, .int 1] D cy (wk_253faa1b8 cy h0 p0 w0 w1 h1 w2 p1 p2 p3 p4 p5 p6 p7 p8 p9 p10 p11 w3 w4 w5 w6 w7 p12 p13 w8 w9 w10 p14 p15 w11 w12 w13 w14 w15 p16 w16 w17 w18 h1 f0) sz (fun r u => (0 ≤ r.toInt ∧ r.toInt ≤ 1) ∧ (0 ≤ (u.2.1 0 0).toInt ∧ (u.2.1 0 0).toInt ≤ 900) ∧ (0 ≤ (u.2.1 1 0).toInt ∧ (u.2.1 1 0).toInt ≤ 900) ∧ ((-2147483648) ≤ (u.2.1 2 0).toInt ∧ (u.2.1 2 0).toInt ≤ 2147483647) ∧ (0 ≤ (u.2.1 3 0).toInt ∧ (u.2.1 3 0).toInt ≤ 999) ∧ (0 ≤ ((u.2.1 0 0) : Int32).toInt ∧ ((u.2.1 0 0) : Int32).toInt ≤ ((u.2.1 1 0) : Int32).toInt ∧ ((u.2.1 1 0) : Int32).toInt ≤ (p4 : Int32).toInt) ∧ (((u.2.1 2 0) : Int32).toInt = 26 ∨ ((u.2.1 0 0) : Int32).toInt < ((u.2.1 1 0) : Int32).toInt) ∧ (((r : Int32).toInt = 0 ∧ ((u.2.1 0 0) : Int32).toInt = (p2 : Int32).toInt ∧ ((u.2.1 1 0) : Int32).toInt = (p3 : Int32).toInt ∧ ((u.2.1 2 0) : Int32).toInt = (p5 : Int32).toInt ∧ ((p7 : Int32).toInt ≠ 0 ∨ ((u.2.1 2 0) : Int32).toInt ≠ (1 : Int32).toInt)) ∨ ((r : Int32).toInt = 1 ∧ (p3 : Int32).toInt ≤ ((u.2.1 0 0) : Int32).toInt ∧ (p7 : Int32).toInt = 0 ∧ (p5 : Int32).toInt = (1 : Int32).toInt)) ∧ (ALT (r : Int32).toInt 0 1 (((u.2.1 3 0) : Int32).toInt = (p6 : Int32).toInt) (NXR f0 (p4 : Int32).toInt (p3 : Int32).toInt ((u.2.1 0 0) : Int32).toInt ((u.2.1 1 0) : Int32).toInt ((u.2.1 2 0) : Int32).toInt ((u.2.1 3 0) : Int32).toInt)) ∧ ((r : Int32).toInt = 1 ∨ ((u.2.1 3 0) : Int32).toInt = (p6 : Int32).toInt) ∧ True) (fun u => (wk_253faa1b8 cy h0 p0 w0 w1 h1 w2 p1 (u.2.1 0 0) (u.2.1 1 0) p4 (u.2.1 2 0) (u.2.1 3 0) p7 p8 p9 p10 p11 w3 w4 w5 w6 w7 p12 p13 w8 w9 w10 p14 p15 w11 w12 w13 w14 w15 p16 w16 w17 w18 h1 f0)) 0 0 := by
  refine q_ent (own := RX12) (by decide) rfl (Nat.le_of_ble_eq_true rfl) (fun p e s m below meth c ls X hr hlk hnm hK hT h hA hl => ?_)
  obtain ⟨hx, hb, hml, hown, ht⟩ := id X
  replace hl : lv_has ls 2 [(0, .ref h0), (1, .int 1)] := hl
  refine lv_aload_n hx hb dX12_eats_0 rfl (lv_at hl 0 rfl) ?_
  refine lv_iload_n hx hb dX12_eats_1 rfl (lv_at hl 1 rfl) ?_
  refine q_callVi (rest := []) (wr := [(h1, .inl (cy 1, 900, .inl f0))]) X hK hT hA h (fun sz => gX12_is_9c14fab l D cy h0 p0 w0 w1 (.ref h1) w2 p1 p2 p3 p4 p5 p6 p7 p8 p9 p10 p11 w3 w4 w5 w6 w7 p12 p13 w8 w9 w10 p14 p15 w11 w12 w13 w14 w15 p16 w16 w17 w18 hp0 hp1 hp2 hp3 hp4 (i_rng _) hp6 (i_rng _) (i_rng _) (i_rng _) (i_rng _) (i_rng _) (i_rng _) (i_rng _) (i_rng _) (i_rng _) (i_rng _) sz) wm_6_79 wm_6_82 wm_1_12 hd_X12_is wm_6_81 wp_4_7 (ci := 12) (q0 := 0) rfl rfl ⟨Nat.le_of_ble_eq_true rfl, Nat.le_of_ble_eq_true rfl⟩ hl.1 rfl (Nat.le_of_ble_eq_true rfl) dX12_eats_2 ⟨Nat.le_of_ble_eq_true rfl, Nat.le_of_ble_eq_true rfl⟩ [0] [1] rfl rfl (by decide) rfl rfl (fun r_1 u_1 H locs w_1 h_1 => ?_)
  clear h
  obtain ⟨wr_1, y1_0, _⟩ := w_1
  have lq_1_1 : (1 : Int32).toInt = 1 := (by decide)
  replace h_1 : qW D _ _ (wk_e69636a28 cy h1 f0 h0 p0 w0 w1 h1 w2 p1 p2 p3 p4 p5 p6 p7 p8 p9 p10 p11 w3 w4 w5 w6 w7 p12 p13 w8 w9 w10 p14 p15 w11 w12 w13 w14 w15 p16 w16 w17 w18) _ _ := h_1
  refine lv_if_ne (tgt := 10) hx hb dX12_eats_5 (by decide) (fun c_2 => ?_) (fun c_2 => ?_)
  · replace c_2 := i_ne (x := r_1) (y := 0) rfl (show (0 : Int32).toInt = 0 by decide) c_2
    replace y1_0 := a10_1 y1_0 c_2
    refine lv_aload_n hx hb dX12_eats_10 rfl (lv_at hl 0 rfl) ?_
    refine q_callVv (rest := []) (wr := []) X hK hT hA h_1 (fun sz => gX12_next_c515fc5 l D cy h0 h1 p0 w0 w1 w2 p1 p2 p3 p4 p5 p6 p7 p8 p9 p10 p11 w3 w4 w5 w6 w7 p12 p13 w8 w9 w10 p14 p15 w11 w12 w13 w14 w15 p16 w16 w17 w18 f0 hp0 hp1 hp2 hp3 hp4 (i_rng _) hp6 (i_rng _) (i_rng _) (i_rng _) (i_rng _) (i_rng _) (i_rng _) (i_rng _) (i_rng _) (i_rng _) (i_rng _) (by (first | (clear hpre1; omega) | omega)) sz) wm_6_53 wm_6_56 wm_1_12 hd_X12_next wm_6_55 wp_4_3 (ci := 12) (q0 := 0) rfl rfl ⟨Nat.le_of_ble_eq_true rfl, Nat.le_of_ble_eq_true rfl⟩ hl.1 rfl (Nat.le_of_ble_eq_true rfl) dX12_eats_11 ⟨Nat.le_of_ble_eq_true rfl, Nat.le_of_ble_eq_true rfl⟩ [1, 0] [] rfl rfl (by decide) rfl rfl (fun u_3 H locs w_3 h_3 => ?_)
    clear h_1
    obtain ⟨w3_0, w3_1, w3_2, w3_3, y3_0, y3_1, y3_2, y3_3, _⟩ := w_3
    replace h_3 : qW D _ _ (wk_253faa1b8 cy h0 p0 w0 w1 h1 w2 p1 (u_3.2.1 0 0) (u_3.2.1 1 0) p4 (u_3.2.1 2 0) (u_3.2.1 3 0) p7 p8 p9 p10 p11 w3 w4 w5 w6 w7 p12 p13 w8 w9 w10 p14 p15 w11 w12 w13 w14 w15 p16 w16 w17 w18 h1 f0) _ _ := h_3
    refine lv_iconst (v := 1) hx hb dX12_eats_14 (by decide) ?_
    exact q_iret X hr hlk hK h_3 rfl (fun _ => 0, (vcons (fun _ => (u_3.2.1 0 0)) (vcons (fun _ => (u_3.2.1 1 0)) (vcons (fun _ => (u_3.2.1 2 0)) (vcons (fun _ => (u_3.2.1 3 0)) (fun _ => (fun _ => 0)))))), fun _ _ => 0) ⟨⟨by decide +kernel, by decide +kernel⟩, w3_0, w3_1, (bw w3_2 (by decide) (by decide)), w3_3, y3_0, y3_1, (show ((1 : Int32).toInt = 0 ∧ ((u_3.2.1 0 0) : Int32).toInt = (p2 : Int32).toInt ∧ ((u_3.2.1 1 0) : Int32).toInt = (p3 : Int32).toInt ∧ ((u_3.2.1 2 0) : Int32).toInt = (p5 : Int32).toInt ∧ ((p7 : Int32).toInt ≠ 0 ∨ ((u_3.2.1 2 0) : Int32).toInt ≠ (1 : Int32).toInt)) ∨ ((1 : Int32).toInt = 1 ∧ (p3 : Int32).toInt ≤ ((u_3.2.1 0 0) : Int32).toInt ∧ (p7 : Int32).toInt = 0 ∧ (p5 : Int32).toInt = (1 : Int32).toInt) from by have q0 : (1 : Int32).toInt = 1 := (by decide); (first | (clear hpre1 y3_1; omega) | omega)), (show ALT (1 : Int32).toInt 0 1 (((u_3.2.1 3 0) : Int32).toInt = (p6 : Int32).toInt) (NXR f0 (p4 : Int32).toInt (p3 : Int32).toInt ((u_3.2.1 0 0) : Int32).toInt ((u_3.2.1 1 0) : Int32).toInt ((u_3.2.1 2 0) : Int32).toInt ((u_3.2.1 3 0) : Int32).toInt) from alt_2 (by decide) y3_3), (show (1 : Int32).toInt = 1 ∨ ((u_3.2.1 3 0) : Int32).toInt = (p6 : Int32).toInt from by have q0 : (1 : Int32).toInt = 1 := (by decide); (first | (clear hpre1 y3_1; omega) | omega)), trivial⟩ [0, 1] rfl rfl dX12_eats_15 (Nat.le_of_ble_eq_true rfl) (Nat.le_of_ble_eq_true rfl)
  · replace c_2 := i_eq (x := r_1) (y := 0) rfl (show (0 : Int32).toInt = 0 by decide) c_2
    replace y1_0 := a10_0 y1_0 c_2
    refine lv_iconst (v := 0) hx hb dX12_eats_8 (by decide) ?_
    exact q_iret X hr hlk hK h_1 rfl (fun _ => 0, (vcons (fun _ => p2) (vcons (fun _ => p3) (vcons (fun _ => p5) (vcons (fun _ => p6) (fun _ => (fun _ => 0)))))), fun _ _ => 0) ⟨⟨by decide +kernel, by decide +kernel⟩, hp2, hp3, hp5, hp6, hpre0, hpre1, (show ((0 : Int32).toInt = 0 ∧ (p2 : Int32).toInt = (p2 : Int32).toInt ∧ (p3 : Int32).toInt = (p3 : Int32).toInt ∧ (p5 : Int32).toInt = (p5 : Int32).toInt ∧ ((p7 : Int32).toInt ≠ 0 ∨ (p5 : Int32).toInt ≠ (1 : Int32).toInt)) ∨ ((0 : Int32).toInt = 1 ∧ (p3 : Int32).toInt ≤ (p2 : Int32).toInt ∧ (p7 : Int32).toInt = 0 ∧ (p5 : Int32).toInt = (1 : Int32).toInt) from by have q0 : (0 : Int32).toInt = 0 := (by decide); have q1 : (1 : Int32).toInt = 1 := (by decide); (first | (clear hpre1 y1_0; omega) | omega)), (show ALT (0 : Int32).toInt 0 1 ((p6 : Int32).toInt = (p6 : Int32).toInt) (NXR f0 (p4 : Int32).toInt (p3 : Int32).toInt (p2 : Int32).toInt (p3 : Int32).toInt (p5 : Int32).toInt (p6 : Int32).toInt) from alt_1 (by decide) rfl), (show (0 : Int32).toInt = 1 ∨ (p6 : Int32).toInt = (p6 : Int32).toInt from by have q0 : (0 : Int32).toInt = 0 := (by decide); (first | (clear hpre1 y1_0; omega) | omega)), trivial⟩ [1, 0] rfl rfl dX12_eats_9 (Nat.le_of_ble_eq_true rfl) (Nat.le_of_ble_eq_true rfl)
set_option maxHeartbeats 4000000 in
set_option maxRecDepth 100000 in
theorem gX12_is_dcf60e0 (l : Launch) (D : va_G) (cy : Nat → ClassId) (h0 : Nat) (p0 : Int32) (w0 : Value) (w1 : Value) (w2 : Value) (w3 : Value) (p1 : Int32) (p2 : Int32) (p3 : Int32) (p4 : Int32) (p5 : Int32) (p6 : Int32) (p7 : Int32) (p8 : Int32) (p9 : Int32) (p10 : Int32) (p11 : Int32) (w4 : Value) (w5 : Value) (w6 : Value) (w7 : Value) (w8 : Value) (p12 : Int32) (p13 : Int32) (w9 : Value) (w10 : Value) (w11 : Value) (p14 : Int32) (p15 : Int32) (w12 : Value) (w13 : Value) (w14 : Value) (w15 : Value) (w16 : Value) (p16 : Int32) (w17 : Value) (w18 : Value) (w19 : Value) (hp0 : 0 ≤ (p0).toInt ∧ (p0).toInt ≤ 0) (hp1 : 0 ≤ (p1).toInt ∧ (p1).toInt ≤ 900) (hp2 : 0 ≤ (p2).toInt ∧ (p2).toInt ≤ 900) (hp3 : 0 ≤ (p3).toInt ∧ (p3).toInt ≤ 900) (hp4 : 0 ≤ (p4).toInt ∧ (p4).toInt ≤ 900) (hp5 : (-2147483648) ≤ (p5).toInt ∧ (p5).toInt ≤ 2147483647) (hp6 : 0 ≤ (p6).toInt ∧ (p6).toInt ≤ 999) (hp7 : (-2147483648) ≤ (p7).toInt ∧ (p7).toInt ≤ 2147483647) (hp8 : (-2147483648) ≤ (p8).toInt ∧ (p8).toInt ≤ 2147483647) (hp9 : (-2147483648) ≤ (p9).toInt ∧ (p9).toInt ≤ 2147483647) (hp10 : (-2147483648) ≤ (p10).toInt ∧ (p10).toInt ≤ 2147483647) (hp11 : (-2147483648) ≤ (p11).toInt ∧ (p11).toInt ≤ 2147483647) (hp12 : (-2147483648) ≤ (p12).toInt ∧ (p12).toInt ≤ 2147483647) (hp13 : (-2147483648) ≤ (p13).toInt ∧ (p13).toInt ≤ 2147483647) (hp14 : (-2147483648) ≤ (p14).toInt ∧ (p14).toInt ≤ 2147483647) (hp15 : (-2147483648) ≤ (p15).toInt ∧ (p15).toInt ≤ 2147483647) (hp16 : (-2147483648) ≤ (p16).toInt ∧ (p16).toInt ≤ 2147483647) (sz : Nat) : MI l yX12_is cX12_is 2 .boolean { frames := 0, cells := 0, slots := 0, locals := 0 } [.ref h0, .int 25] D cy [(h0, .inr (12, [.int p0, w0, w1, w2, w3, .int p1, .int p2, .int p3, .int p4, .int p5, .int p6, .int p7, .int p8, .int p9, .int p10, .int p11, w4, w5, w6, w7, w8, .int p12, .int p13, w9, w10, w11, .int p14, .int p15, w12, w13, w14, w15, w16, .int p16, w17, w18, w19]))] sz (fun r u => (0 ≤ r.toInt ∧ r.toInt ≤ 1) ∧ (((r : Int32).toInt = 1 ∧ (p7 : Int32).toInt = 0 ∧ (p5 : Int32).toInt = (25 : Int32).toInt) ∨ ((r : Int32).toInt = 0 ∧ ((p7 : Int32).toInt ≠ 0 ∨ (p5 : Int32).toInt ≠ (25 : Int32).toInt))) ∧ True) (fun u => [(h0, .inr (12, [.int p0, w0, w1, w2, w3, .int p1, .int p2, .int p3, .int p4, .int p5, .int p6, .int p7, .int p8, .int p9, .int p10, .int p11, w4, w5, w6, w7, w8, .int p12, .int p13, w9, w10, w11, .int p14, .int p15, w12, w13, w14, w15, w16, .int p16, w17, w18, w19]))]) 0 0 := by
  refine q_ent (own := RX12) (by decide) rfl (Nat.le_of_ble_eq_true rfl) (fun p e s m below meth c ls X hr hlk hnm hK hT h hA hl => ?_)
  obtain ⟨hx, hb, hml, hown, ht⟩ := id X
  replace hl : lv_has ls 2 [(0, .ref h0), (1, .int 25)] := hl
  refine lv_aload_n hx hb dX12_is_0 rfl (lv_at hl 0 rfl) ?_
  refine q_get X hK h 0 rfl rfl wf_12 11 (by decide) rfl wm_5_181 dX12_is_1 ?_
  refine lv_if_ne (tgt := 19) hx hb dX12_is_4 (by decide) (fun c_1 => ?_) (fun c_1 => ?_)
  · replace c_1 := i_ne (x := p7) (y := 0) rfl (show (0 : Int32).toInt = 0 by decide) c_1
    refine lv_iconst (v := 0) hx hb dX12_is_19 (by decide) ?_
    exact q_iret X hr hlk hK h rfl (fun _ => 0, fun _ _ => 0, fun _ _ => 0) ⟨⟨by decide +kernel, by decide +kernel⟩, (show ((0 : Int32).toInt = 1 ∧ (p7 : Int32).toInt = 0 ∧ (p5 : Int32).toInt = (25 : Int32).toInt) ∨ ((0 : Int32).toInt = 0 ∧ ((p7 : Int32).toInt ≠ 0 ∨ (p5 : Int32).toInt ≠ (25 : Int32).toInt)) from by have q0 : (0 : Int32).toInt = 0 := (by decide); have q1 : (25 : Int32).toInt = 25 := (by decide); omega), trivial⟩ [0] rfl rfl dX12_is_20 (Nat.le_of_ble_eq_true rfl) (Nat.le_of_ble_eq_true rfl)
  · replace c_1 := i_eq (x := p7) (y := 0) rfl (show (0 : Int32).toInt = 0 by decide) c_1
    refine lv_aload_n hx hb dX12_is_7 rfl (lv_at hl 0 rfl) ?_
    refine q_get X hK h 0 rfl rfl wf_12 9 (by decide) rfl wm_5_179 dX12_is_8 ?_
    refine lv_iload_n hx hb dX12_is_11 rfl (lv_at hl 1 rfl) ?_
    refine lv_icmp_ne (tgt := 19) hx hb dX12_is_12 (by decide) (fun c_2 => ?_) (fun c_2 => ?_)
    · replace c_2 := i_ne (x := p5) (y := 25) rfl (show (25 : Int32).toInt = 25 by decide) c_2
      refine lv_iconst (v := 0) hx hb dX12_is_19 (by decide) ?_
      exact q_iret X hr hlk hK h rfl (fun _ => 0, fun _ _ => 0, fun _ _ => 0) ⟨⟨by decide +kernel, by decide +kernel⟩, (show ((0 : Int32).toInt = 1 ∧ (p7 : Int32).toInt = 0 ∧ (p5 : Int32).toInt = (25 : Int32).toInt) ∨ ((0 : Int32).toInt = 0 ∧ ((p7 : Int32).toInt ≠ 0 ∨ (p5 : Int32).toInt ≠ (25 : Int32).toInt)) from by have q0 : (0 : Int32).toInt = 0 := (by decide); have q1 : (25 : Int32).toInt = 25 := (by decide); omega), trivial⟩ [0] rfl rfl dX12_is_20 (Nat.le_of_ble_eq_true rfl) (Nat.le_of_ble_eq_true rfl)
    · replace c_2 := i_eq (x := p5) (y := 25) rfl (show (25 : Int32).toInt = 25 by decide) c_2
      refine lv_iconst (v := 1) hx hb dX12_is_15 (by decide) ?_
      refine lv_goto (tgt := 20) hx hb dX12_is_16 (by decide) ?_
      exact q_iret X hr hlk hK h rfl (fun _ => 0, fun _ _ => 0, fun _ _ => 0) ⟨⟨by decide +kernel, by decide +kernel⟩, (show ((1 : Int32).toInt = 1 ∧ (p7 : Int32).toInt = 0 ∧ (p5 : Int32).toInt = (25 : Int32).toInt) ∨ ((1 : Int32).toInt = 0 ∧ ((p7 : Int32).toInt ≠ 0 ∨ (p5 : Int32).toInt ≠ (25 : Int32).toInt)) from by have q0 : (1 : Int32).toInt = 1 := (by decide); have q1 : (25 : Int32).toInt = 25 := (by decide); omega), trivial⟩ [0] rfl rfl dX12_is_20 (Nat.le_of_ble_eq_true rfl) (Nat.le_of_ble_eq_true rfl)
set_option maxHeartbeats 4000000 in
set_option maxRecDepth 100000 in
theorem gX12_fails_d7a7952 (l : Launch) (D : va_G) (cy : Nat → ClassId) (h0 : Nat) (p0 : Int32) (w0 : Value) (w1 : Value) (w2 : Value) (w3 : Value) (p1 : Int32) (p2 : Int32) (p3 : Int32) (p4 : Int32) (p5 : Int32) (p6 : Int32) (p7 : Int32) (p8 : Int32) (p9 : Int32) (p10 : Int32) (p11 : Int32) (w4 : Value) (w5 : Value) (w6 : Value) (w7 : Value) (w8 : Value) (p12 : Int32) (p13 : Int32) (w9 : Value) (w10 : Value) (w11 : Value) (p14 : Int32) (p15 : Int32) (w12 : Value) (w13 : Value) (w14 : Value) (w15 : Value) (w16 : Value) (p16 : Int32) (w17 : Value) (w18 : Value) (w19 : Value) (hp0 : 0 ≤ (p0).toInt ∧ (p0).toInt ≤ 0) (hp1 : 0 ≤ (p1).toInt ∧ (p1).toInt ≤ 900) (hp2 : 0 ≤ (p2).toInt ∧ (p2).toInt ≤ 900) (hp3 : 0 ≤ (p3).toInt ∧ (p3).toInt ≤ 900) (hp4 : 0 ≤ (p4).toInt ∧ (p4).toInt ≤ 900) (hp5 : (-2147483648) ≤ (p5).toInt ∧ (p5).toInt ≤ 2147483647) (hp6 : 0 ≤ (p6).toInt ∧ (p6).toInt ≤ 999) (hp7 : (-2147483648) ≤ (p7).toInt ∧ (p7).toInt ≤ 2147483647) (hp8 : (-2147483648) ≤ (p8).toInt ∧ (p8).toInt ≤ 2147483647) (hp9 : (-2147483648) ≤ (p9).toInt ∧ (p9).toInt ≤ 2147483647) (hp10 : (-2147483648) ≤ (p10).toInt ∧ (p10).toInt ≤ 2147483647) (hp11 : (-2147483648) ≤ (p11).toInt ∧ (p11).toInt ≤ 2147483647) (hp12 : (-2147483648) ≤ (p12).toInt ∧ (p12).toInt ≤ 2147483647) (hp13 : (-2147483648) ≤ (p13).toInt ∧ (p13).toInt ≤ 2147483647) (hp14 : (-2147483648) ≤ (p14).toInt ∧ (p14).toInt ≤ 2147483647) (hp15 : (-2147483648) ≤ (p15).toInt ∧ (p15).toInt ≤ 2147483647) (hp16 : (-2147483648) ≤ (p16).toInt ∧ (p16).toInt ≤ 2147483647) (sz : Nat) : MV l yX12_fails cX12_fails 2 { frames := 0, cells := 0, slots := 0, locals := 0 } [.ref h0, .int 3] D cy [(h0, .inr (12, [.int p0, w0, w1, w2, w3, .int p1, .int p2, .int p3, .int p4, .int p5, .int p6, .int p7, .int p8, .int p9, .int p10, .int p11, w4, w5, w6, w7, w8, .int p12, .int p13, w9, w10, w11, .int p14, .int p15, w12, w13, w14, w15, w16, .int p16, w17, w18, w19]))] sz (fun u => ((-2147483648) ≤ (u.2.1 0 0).toInt ∧ (u.2.1 0 0).toInt ≤ 2147483647) ∧ ((-2147483648) ≤ (u.2.1 1 0).toInt ∧ (u.2.1 1 0).toInt ≤ 2147483647) ∧ (((u.2.1 0 0) : Int32).toInt ≠ 0) ∧ (FLR 3 (p2 : Int32).toInt (p5 : Int32).toInt (p7 : Int32).toInt (p8 : Int32).toInt ((u.2.1 0 0) : Int32).toInt ((u.2.1 1 0) : Int32).toInt) ∧ True) (fun u => [(h0, .inr (12, [.int p0, w0, w1, w2, w3, .int p1, .int p2, .int p3, .int p4, .int p5, .int p6, .int (u.2.1 0 0), .int (u.2.1 1 0), .int p9, .int p10, .int p11, w4, w5, w6, w7, w8, .int p12, .int p13, w9, w10, w11, .int p14, .int p15, w12, w13, w14, w15, w16, .int p16, w17, w18, w19]))]) 0 0 := by
  refine q_ent (own := RX12) (by decide) rfl (Nat.le_of_ble_eq_true rfl) (fun p e s m below meth c ls X hr hlk hnm hK hT h hA hl => ?_)
  obtain ⟨hx, hb, hml, hown, ht⟩ := id X
  replace hl : lv_has ls 2 [(0, .ref h0), (1, .int 3)] := hl
  refine lv_aload_n hx hb dX12_fails_0 rfl (lv_at hl 0 rfl) ?_
  refine q_get X hK h 0 rfl rfl wf_12 11 (by decide) rfl wm_5_181 dX12_fails_1 ?_
  refine lv_if_eq (tgt := 8) hx hb dX12_fails_4 (by decide) (fun c_1 => ?_) (fun c_1 => ?_)
  · replace c_1 := i_eq (x := p7) (y := 0) rfl (show (0 : Int32).toInt = 0 by decide) c_1
    refine lv_aload_n hx hb dX12_fails_8 rfl (lv_at hl 0 rfl) ?_
    refine lv_aload_n hx hb dX12_fails_9 rfl (lv_at hl 0 rfl) ?_
    refine q_get X hK h 0 rfl rfl wf_12 9 (by decide) rfl wm_5_179 dX12_fails_10 ?_
    refine lv_bipush (v := 27) hx hb dX12_fails_13 (by decide) ?_
    refine lv_icmp_ne (tgt := 22) hx hb dX12_fails_15 (by decide) (fun c_2 => ?_) (fun c_2 => ?_)
    · replace c_2 := i_ne (x := p5) (y := 27) rfl (show (27 : Int32).toInt = 27 by decide) c_2
      refine lv_iload_n hx hb dX12_fails_22 rfl (lv_at hl 1 rfl) ?_
      refine q_put (v := .int 3) X hK h 0 rfl rfl wf_12 tyX12 tyX12_ok nmX12 11 (by decide) wm_5_181 rfl rfl rfl (Nat.le_of_ble_eq_true rfl) dX12_fails_23 (fun H locs h_3 => ?_)
      clear h
      replace h_3 : qW D _ _ [(h0, .inr (12, [.int p0, w0, w1, w2, w3, .int p1, .int p2, .int p3, .int p4, .int p5, .int p6, .int 3, .int p8, .int p9, .int p10, .int p11, w4, w5, w6, w7, w8, .int p12, .int p13, w9, w10, w11, .int p14, .int p15, w12, w13, w14, w15, w16, .int p16, w17, w18, w19]))] _ _ := h_3
      refine lv_aload_n hx hb dX12_fails_26 rfl (lv_at hl 0 rfl) ?_
      refine lv_aload_n hx hb dX12_fails_27 rfl (lv_at hl 0 rfl) ?_
      refine q_get X hK h_3 0 rfl rfl wf_12 6 (by decide) rfl wm_5_176 dX12_fails_28 ?_
      refine q_put (v := .int p2) X hK h_3 0 rfl rfl wf_12 tyX12 tyX12_ok nmX12 12 (by decide) wm_5_182 rfl rfl rfl (Nat.le_of_ble_eq_true rfl) dX12_fails_31 (fun H locs h_4 => ?_)
      clear h_3
      replace h_4 : qW D _ _ [(h0, .inr (12, [.int p0, w0, w1, w2, w3, .int p1, .int p2, .int p3, .int p4, .int p5, .int p6, .int 3, .int p2, .int p9, .int p10, .int p11, w4, w5, w6, w7, w8, .int p12, .int p13, w9, w10, w11, .int p14, .int p15, w12, w13, w14, w15, w16, .int p16, w17, w18, w19]))] _ _ := h_4
      exact q_vret X hr hlk hK h_4 (fun _ => 0, (vcons (fun _ => 3) (vcons (fun _ => p2) (fun _ => (fun _ => 0)))), fun _ _ => 0) ⟨(⟨by decide +kernel, by decide +kernel⟩ : (-2147483648) ≤ (3 : Int32).toInt ∧ (3 : Int32).toInt ≤ 2147483647), (bw hp2 (by decide) (by decide)), (show (3 : Int32).toInt ≠ 0 from by have q0 : (3 : Int32).toInt = 3 := (by decide); omega), (show FLR 3 (p2 : Int32).toInt (p5 : Int32).toInt (p7 : Int32).toInt (p8 : Int32).toInt (3 : Int32).toInt (p2 : Int32).toInt from by first | exact Or.inl ⟨(by (first | assumption | omega)), rfl, rfl⟩ | exact Or.inr ⟨(by (first | assumption | omega)), Or.inl ⟨(by (first | assumption | omega)), by decide⟩, rfl⟩ | exact Or.inr ⟨(by (first | assumption | omega)), Or.inr ⟨(by (first | assumption | omega)), by decide⟩, rfl⟩), trivial⟩ [0] rfl rfl dX12_fails_34 (Nat.le_of_ble_eq_true rfl) (Nat.le_of_ble_eq_true rfl)
    · replace c_2 := i_eq (x := p5) (y := 27) rfl (show (27 : Int32).toInt = 27 by decide) c_2
      refine lv_iconst (v := 1) hx hb dX12_fails_18 (by decide) ?_
      refine lv_goto (tgt := 23) hx hb dX12_fails_19 (by decide) ?_
      refine q_put (v := .int 1) X hK h 0 rfl rfl wf_12 tyX12 tyX12_ok nmX12 11 (by decide) wm_5_181 rfl rfl rfl (Nat.le_of_ble_eq_true rfl) dX12_fails_23 (fun H locs h_5 => ?_)
      clear h
      replace h_5 : qW D _ _ [(h0, .inr (12, [.int p0, w0, w1, w2, w3, .int p1, .int p2, .int p3, .int p4, .int p5, .int p6, .int 1, .int p8, .int p9, .int p10, .int p11, w4, w5, w6, w7, w8, .int p12, .int p13, w9, w10, w11, .int p14, .int p15, w12, w13, w14, w15, w16, .int p16, w17, w18, w19]))] _ _ := h_5
      refine lv_aload_n hx hb dX12_fails_26 rfl (lv_at hl 0 rfl) ?_
      refine lv_aload_n hx hb dX12_fails_27 rfl (lv_at hl 0 rfl) ?_
      refine q_get X hK h_5 0 rfl rfl wf_12 6 (by decide) rfl wm_5_176 dX12_fails_28 ?_
      refine q_put (v := .int p2) X hK h_5 0 rfl rfl wf_12 tyX12 tyX12_ok nmX12 12 (by decide) wm_5_182 rfl rfl rfl (Nat.le_of_ble_eq_true rfl) dX12_fails_31 (fun H locs h_6 => ?_)
      clear h_5
      replace h_6 : qW D _ _ [(h0, .inr (12, [.int p0, w0, w1, w2, w3, .int p1, .int p2, .int p3, .int p4, .int p5, .int p6, .int 1, .int p2, .int p9, .int p10, .int p11, w4, w5, w6, w7, w8, .int p12, .int p13, w9, w10, w11, .int p14, .int p15, w12, w13, w14, w15, w16, .int p16, w17, w18, w19]))] _ _ := h_6
      exact q_vret X hr hlk hK h_6 (fun _ => 0, (vcons (fun _ => 1) (vcons (fun _ => p2) (fun _ => (fun _ => 0)))), fun _ _ => 0) ⟨(⟨by decide +kernel, by decide +kernel⟩ : (-2147483648) ≤ (1 : Int32).toInt ∧ (1 : Int32).toInt ≤ 2147483647), (bw hp2 (by decide) (by decide)), (show (1 : Int32).toInt ≠ 0 from by have q0 : (1 : Int32).toInt = 1 := (by decide); omega), (show FLR 3 (p2 : Int32).toInt (p5 : Int32).toInt (p7 : Int32).toInt (p8 : Int32).toInt (1 : Int32).toInt (p2 : Int32).toInt from by first | exact Or.inl ⟨(by (first | assumption | omega)), rfl, rfl⟩ | exact Or.inr ⟨(by (first | assumption | omega)), Or.inl ⟨(by (first | assumption | omega)), by decide⟩, rfl⟩ | exact Or.inr ⟨(by (first | assumption | omega)), Or.inr ⟨(by (first | assumption | omega)), by decide⟩, rfl⟩), trivial⟩ [0] rfl rfl dX12_fails_34 (Nat.le_of_ble_eq_true rfl) (Nat.le_of_ble_eq_true rfl)
  · replace c_1 := i_ne (x := p7) (y := 0) rfl (show (0 : Int32).toInt = 0 by decide) c_1
    exact q_vret X hr hlk hK h (fun _ => 0, (vcons (fun _ => p7) (vcons (fun _ => p8) (fun _ => (fun _ => 0)))), fun _ _ => 0) ⟨hp7, hp8, (show (p7 : Int32).toInt ≠ 0 from by omega), (show FLR 3 (p2 : Int32).toInt (p5 : Int32).toInt (p7 : Int32).toInt (p8 : Int32).toInt (p7 : Int32).toInt (p8 : Int32).toInt from by first | exact Or.inl ⟨(by (first | assumption | omega)), rfl, rfl⟩ | exact Or.inr ⟨(by (first | assumption | omega)), Or.inl ⟨(by (first | assumption | omega)), by decide⟩, rfl⟩ | exact Or.inr ⟨(by (first | assumption | omega)), Or.inr ⟨(by (first | assumption | omega)), by decide⟩, rfl⟩), trivial⟩ [0] rfl rfl dX12_fails_7 (Nat.le_of_ble_eq_true rfl) (Nat.le_of_ble_eq_true rfl)
set_option maxHeartbeats 4000000 in
set_option maxRecDepth 100000 in
theorem gX12_takes_bfb9e22 (l : Launch) (D : va_G) (cy : Nat → ClassId) (h0 : Nat) (h1 : Nat) (p0 : Int32) (p1 : Int32) (p2 : Int32) (w0 : Value) (w1 : Value) (w2 : Value) (p3 : Int32) (p4 : Int32) (p5 : Int32) (p6 : Int32) (p7 : Int32) (p8 : Int32) (p9 : Int32) (p10 : Int32) (p11 : Int32) (p12 : Int32) (p13 : Int32) (w3 : Value) (w4 : Value) (w5 : Value) (w6 : Value) (w7 : Value) (p14 : Int32) (p15 : Int32) (w8 : Value) (w9 : Value) (w10 : Value) (p16 : Int32) (p17 : Int32) (w11 : Value) (w12 : Value) (w13 : Value) (w14 : Value) (w15 : Value) (p18 : Int32) (w16 : Value) (w17 : Value) (w18 : Value) (f0 : Nat → Int32) (hp0 : 0 ≤ (p0).toInt ∧ (p0).toInt ≤ 999) (hp1 : 3 ≤ (p1).toInt ∧ (p1).toInt ≤ 999) (hp2 : 0 ≤ (p2).toInt ∧ (p2).toInt ≤ 0) (hp3 : 0 ≤ (p3).toInt ∧ (p3).toInt ≤ 900) (hp4 : 0 ≤ (p4).toInt ∧ (p4).toInt ≤ 900) (hp5 : 0 ≤ (p5).toInt ∧ (p5).toInt ≤ 900) (hp6 : 0 ≤ (p6).toInt ∧ (p6).toInt ≤ 900) (hp7 : (-2147483648) ≤ (p7).toInt ∧ (p7).toInt ≤ 2147483647) (hp8 : 0 ≤ (p8).toInt ∧ (p8).toInt ≤ 999) (hp9 : (-2147483648) ≤ (p9).toInt ∧ (p9).toInt ≤ 2147483647) (hp10 : (-2147483648) ≤ (p10).toInt ∧ (p10).toInt ≤ 2147483647) (hp11 : (-2147483648) ≤ (p11).toInt ∧ (p11).toInt ≤ 2147483647) (hp12 : (-2147483648) ≤ (p12).toInt ∧ (p12).toInt ≤ 2147483647) (hp13 : (-2147483648) ≤ (p13).toInt ∧ (p13).toInt ≤ 2147483647) (hp14 : (-2147483648) ≤ (p14).toInt ∧ (p14).toInt ≤ 2147483647) (hp15 : (-2147483648) ≤ (p15).toInt ∧ (p15).toInt ≤ 2147483647) (hp16 : (-2147483648) ≤ (p16).toInt ∧ (p16).toInt ≤ 2147483647) (hp17 : (-2147483648) ≤ (p17).toInt ∧ (p17).toInt ≤ 2147483647) (hp18 : (-2147483648) ≤ (p18).toInt ∧ (p18).toInt ≤ 2147483647) (hpre0 : 0 ≤ (p4 : Int32).toInt ∧ (p4 : Int32).toInt ≤ (p5 : Int32).toInt ∧ (p5 : Int32).toInt ≤ (p6 : Int32).toInt) (hpre1 : (p7 : Int32).toInt = 26 ∨ (p4 : Int32).toInt < (p5 : Int32).toInt) (sz : Nat) : MI l yX12_takes cX12_takes 4 .int { frames := 6, cells := 0, slots := 0, locals := 129 } [.ref h0, .int p0, .int p1] D cy (wk_253faa1b8 cy h0 p2 w0 w1 h1 w2 p3 p4 p5 p6 p7 p8 p9 p10 p11 p12 p13 w3 w4 w5 w6 w7 p14 p15 w8 w9 w10 p16 p17 w11 w12 w13 w14 w15 p18 w16 w17 w18 h1 f0) sz (fun r u => (0 ≤ r.toInt ∧ r.toInt ≤ 999) ∧ (0 ≤ (u.2.1 0 0).toInt ∧ (u.2.1 0 0).toInt ≤ 900) ∧ (0 ≤ (u.2.1 1 0).toInt ∧ (u.2.1 1 0).toInt ≤ 900) ∧ ((-2147483648) ≤ (u.2.1 2 0).toInt ∧ (u.2.1 2 0).toInt ≤ 2147483647) ∧ (0 ≤ (u.2.1 3 0).toInt ∧ (u.2.1 3 0).toInt ≤ 999) ∧ ((-2147483648) ≤ (u.2.1 4 0).toInt ∧ (u.2.1 4 0).toInt ≤ 2147483647) ∧ ((-2147483648) ≤ (u.2.1 5 0).toInt ∧ (u.2.1 5 0).toInt ≤ 2147483647) ∧ (0 ≤ ((u.2.1 0 0) : Int32).toInt ∧ ((u.2.1 0 0) : Int32).toInt ≤ ((u.2.1 1 0) : Int32).toInt ∧ ((u.2.1 1 0) : Int32).toInt ≤ (p6 : Int32).toInt) ∧ (((u.2.1 2 0) : Int32).toInt = 26 ∨ ((u.2.1 0 0) : Int32).toInt < ((u.2.1 1 0) : Int32).toInt) ∧ ((p4 : Int32).toInt ≤ ((u.2.1 0 0) : Int32).toInt) ∧ (((u.2.1 4 0) : Int32).toInt ≠ 0 ∨ (p9 : Int32).toInt = 0) ∧ (((u.2.1 4 0) : Int32).toInt ≠ 0 ∨ ((p4 : Int32).toInt + 1 ≤ ((u.2.1 0 0) : Int32).toInt ∧ (p0 : Int32).toInt ≤ (r : Int32).toInt ∧ (r : Int32).toInt ≤ (p1 : Int32).toInt)) ∧ (SIMR f0 (p6 : Int32).toInt (num (p0 : Int32).toInt (p1 : Int32).toInt) (p4 : Int32).toInt (p5 : Int32).toInt (p7 : Int32).toInt (p8 : Int32).toInt (p9 : Int32).toInt (p10 : Int32).toInt ((u.2.1 0 0) : Int32).toInt ((u.2.1 1 0) : Int32).toInt ((u.2.1 2 0) : Int32).toInt ((u.2.1 3 0) : Int32).toInt ((u.2.1 4 0) : Int32).toInt ((u.2.1 5 0) : Int32).toInt) ∧ (NMP ((u.2.1 4 0) : Int32).toInt (p7 : Int32).toInt (r : Int32).toInt (p8 : Int32).toInt) ∧ True) (fun u => (wk_253faa1b8 cy h0 p2 w0 w1 h1 w2 p3 (u.2.1 0 0) (u.2.1 1 0) p6 (u.2.1 2 0) (u.2.1 3 0) (u.2.1 4 0) (u.2.1 5 0) p11 p12 p13 w3 w4 w5 w6 w7 p14 p15 w8 w9 w10 p16 p17 w11 w12 w13 w14 w15 p18 w16 w17 w18 h1 f0)) 0 0 := by
  refine q_ent (own := RX12) (by decide) rfl (Nat.le_of_ble_eq_true rfl) (fun p e s m below meth c ls X hr hlk hnm hK hT h hA hl => ?_)
  obtain ⟨hx, hb, hml, hown, ht⟩ := id X
  replace hl : lv_has ls 4 [(0, .ref h0), (1, .int p0), (2, .int p1)] := hl
  refine lv_aload_n hx hb dX12_takes_0 rfl (lv_at hl 0 rfl) ?_
  refine lv_bipush (v := 25) hx hb dX12_takes_1 (by decide) ?_
  refine q_callVi (rest := []) (wr := [(h1, .inl (cy 1, 900, .inl f0))]) X hK hT hA h (fun sz => gX12_is_dcf60e0 l D cy h0 p2 w0 w1 (.ref h1) w2 p3 p4 p5 p6 p7 p8 p9 p10 p11 p12 p13 w3 w4 w5 w6 w7 p14 p15 w8 w9 w10 p16 p17 w11 w12 w13 w14 w15 p18 w16 w17 w18 hp2 hp3 hp4 hp5 hp6 (i_rng _) hp8 (i_rng _) (i_rng _) (i_rng _) (i_rng _) (i_rng _) (i_rng _) (i_rng _) (i_rng _) (i_rng _) (i_rng _) sz) wm_6_79 wm_6_82 wm_1_12 hd_X12_is wm_6_81 wp_4_7 (ci := 12) (q0 := 0) rfl rfl ⟨Nat.le_of_ble_eq_true rfl, Nat.le_of_ble_eq_true rfl⟩ hl.1 rfl (Nat.le_of_ble_eq_true rfl) dX12_takes_3 ⟨Nat.le_of_ble_eq_true rfl, Nat.le_of_ble_eq_true rfl⟩ [0] [1] rfl rfl (by decide) rfl rfl (fun r_1 u_1 H locs w_1 h_1 => ?_)
  clear h
  obtain ⟨wr_1, y1_0, _⟩ := w_1
  have lq_1_1 : (25 : Int32).toInt = 25 := (by decide)
  replace h_1 : qW D _ _ (wk_e69636a28 cy h1 f0 h0 p2 w0 w1 h1 w2 p3 p4 p5 p6 p7 p8 p9 p10 p11 p12 p13 w3 w4 w5 w6 w7 p14 p15 w8 w9 w10 p16 p17 w11 w12 w13 w14 w15 p18 w16 w17 w18) _ _ := h_1
  refine lv_if_ne (tgt := 17) hx hb dX12_takes_6 (by decide) (fun c_2 => ?_) (fun c_2 => ?_)
  · replace c_2 := i_ne (x := r_1) (y := 0) rfl (show (0 : Int32).toInt = 0 by decide) c_2
    replace y1_0 := a10_1 y1_0 c_2
    refine lv_aload_n hx hb dX12_takes_17 rfl (lv_at hl 0 rfl) ?_
    refine q_get X hK h_1 1 rfl rfl wf_12 10 (by decide) rfl wm_5_180 dX12_takes_18 ?_
    refine lv_i2l hx hb dX12_takes_21 rfl ?_
    obtain ⟨z_3, ez_3, hz_3⟩ := e_i2l (x := p8) rfl
    refine q_cl z_3 ez_3 ?_
    clear ez_3
    refine lv_iload_n hx hb dX12_takes_22 rfl (lv_at hl 1 rfl) ?_
    refine lv_i2l hx hb dX12_takes_23 rfl ?_
    obtain ⟨z_4, ez_4, hz_4⟩ := e_i2l (x := p0) rfl
    refine q_cl z_4 ez_4 ?_
    clear ez_4
    refine lv_iload_n hx hb dX12_takes_24 rfl (lv_at hl 2 rfl) ?_
    refine lv_i2l hx hb dX12_takes_25 rfl ?_
    obtain ⟨z_5, ez_5, hz_5⟩ := e_i2l (x := p1) rfl
    refine q_cl z_5 ez_5 ?_
    clear ez_5
    refine q_callSi (rest := []) (wr := (wk_e69636a28 cy h1 f0 h0 p2 w0 w1 h1 w2 p3 p4 p5 p6 p7 p8 p9 p10 p11 p12 p13 w3 w4 w5 w6 w7 p14 p15 w8 w9 w10 p16 p17 w11 w12 w13 w14 w15 p18 w16 w17 w18)) X hK hT hA h_1 (fun sz => gX12_within_00c7897 l D cy z_3 z_4 z_5 (j_rng _) ⟨by omega, by omega⟩ ⟨by omega, by omega⟩ sz) wm_6_50 wm_6_52 wm_1_12 hd_X12_within wm_6_51 ⟨Nat.le_of_ble_eq_true rfl, Nat.le_of_ble_eq_true rfl⟩ hl.1 rfl (Nat.le_of_ble_eq_true rfl) dX12_takes_26 ⟨Nat.le_of_ble_eq_true rfl, Nat.le_of_ble_eq_true rfl⟩ [] [0, 1] rfl rfl (by decide) rfl rfl (fun r_6 u_6 H locs w_6 h_6 => ?_)
    clear h_1
    obtain ⟨wr_6, y6_0, _⟩ := w_6
    replace h_6 : qW D _ _ (wk_e69636a28 cy h1 f0 h0 p2 w0 w1 h1 w2 p3 p4 p5 p6 p7 p8 p9 p10 p11 p12 p13 w3 w4 w5 w6 w7 p14 p15 w8 w9 w10 p16 p17 w11 w12 w13 w14 w15 p18 w16 w17 w18) _ _ := h_6
    refine lv_if_ne (tgt := 37) hx hb dX12_takes_29 (by decide) (fun c_7 => ?_) (fun c_7 => ?_)
    · replace c_7 := i_ne (x := r_6) (y := 0) rfl (show (0 : Int32).toInt = 0 by decide) c_7
      replace y6_0 := a10_1 y6_0 c_7
      refine lv_aload_n hx hb dX12_takes_37 rfl (lv_at hl 0 rfl) ?_
      refine q_get X hK h_6 1 rfl rfl wf_12 10 (by decide) rfl wm_5_180 dX12_takes_38 ?_
      refine lv_istore_n (lv' := [(3, .int p8), (0, .ref h0), (1, .int p0), (2, .int p1)]) hx hb dX12_takes_41 rfl hl (by decide) rfl (fun ls_8 hl_8 => ?_)
      clear hl
      refine lv_aload_n hx hb dX12_takes_42 rfl (lv_at hl_8 1 rfl) ?_
      refine q_get X hK h_6 1 rfl rfl wf_12 11 (by decide) rfl wm_5_181 dX12_takes_43 ?_
      refine lv_if_ne (tgt := 53) hx hb dX12_takes_46 (by decide) (fun c_9 => ?_) (fun c_9 => ?_)
      · replace c_9 := i_ne (x := p9) (y := 0) rfl (show (0 : Int32).toInt = 0 by decide) c_9
        refine lv_iload_n hx hb dX12_takes_53 rfl (lv_at hl_8 0 rfl) ?_
        exact q_iret X hr hlk hK h_6 rfl (fun _ => 0, (vcons (fun _ => p4) (vcons (fun _ => p5) (vcons (fun _ => p7) (vcons (fun _ => p8) (vcons (fun _ => p9) (vcons (fun _ => p10) (fun _ => (fun _ => 0)))))))), fun _ _ => 0) ⟨hp8, hp4, hp5, hp7, hp8, hp9, hp10, hpre0, hpre1, (show (p4 : Int32).toInt ≤ (p4 : Int32).toInt from (Int.le_refl _)), (show (p9 : Int32).toInt ≠ 0 ∨ (p9 : Int32).toInt = 0 from (ne_or _)), (show (p9 : Int32).toInt ≠ 0 ∨ ((p4 : Int32).toInt + 1 ≤ (p4 : Int32).toInt ∧ (p0 : Int32).toInt ≤ (p8 : Int32).toInt ∧ (p8 : Int32).toInt ≤ (p1 : Int32).toInt) from by (first | (clear hpre1; omega) | omega)), (show SIMR f0 (p6 : Int32).toInt (num (p0 : Int32).toInt (p1 : Int32).toInt) (p4 : Int32).toInt (p5 : Int32).toInt (p7 : Int32).toInt (p8 : Int32).toInt (p9 : Int32).toInt (p10 : Int32).toInt (p4 : Int32).toInt (p5 : Int32).toInt (p7 : Int32).toInt (p8 : Int32).toInt (p9 : Int32).toInt (p10 : Int32).toInt from by first | (exfalso; omega) | exact smr_nm3 (by (first | assumption | (clear hpre1; omega) | omega)) (by (first | assumption | (clear hpre1; omega) | omega)) (by (first | assumption | (clear hpre1; omega) | omega)) _ (by (first | assumption | (clear hpre1; omega) | omega))), (show NMP (p9 : Int32).toInt (p7 : Int32).toInt (p8 : Int32).toInt (p8 : Int32).toInt from by unfold NMP; omega), trivial⟩ [1, 0] rfl rfl dX12_takes_54 (Nat.le_of_ble_eq_true rfl) (Nat.le_of_ble_eq_true rfl)
      · replace c_9 := i_eq (x := p9) (y := 0) rfl (show (0 : Int32).toInt = 0 by decide) c_9
        refine lv_aload_n hx hb dX12_takes_49 rfl (lv_at hl_8 1 rfl) ?_
        refine q_callVv (rest := []) (wr := []) X hK hT hA h_6 (fun sz => gX12_next_c515fc5 l D cy h0 h1 p2 w0 w1 w2 p3 p4 p5 p6 p7 p8 p9 p10 p11 p12 p13 w3 w4 w5 w6 w7 p14 p15 w8 w9 w10 p16 p17 w11 w12 w13 w14 w15 p18 w16 w17 w18 f0 hp2 hp3 hp4 hp5 hp6 (i_rng _) hp8 (i_rng _) (i_rng _) (i_rng _) (i_rng _) (i_rng _) (i_rng _) (i_rng _) (i_rng _) (i_rng _) (i_rng _) (by (first | (clear hpre1; omega) | omega)) sz) wm_6_53 wm_6_56 wm_1_12 hd_X12_next wm_6_55 wp_4_3 (ci := 12) (q0 := 0) rfl rfl ⟨Nat.le_of_ble_eq_true rfl, Nat.le_of_ble_eq_true rfl⟩ hl_8.1 rfl (Nat.le_of_ble_eq_true rfl) dX12_takes_50 ⟨Nat.le_of_ble_eq_true rfl, Nat.le_of_ble_eq_true rfl⟩ [1, 0] [] rfl rfl (by decide) rfl rfl (fun u_10 H locs w_10 h_10 => ?_)
        clear h_6
        obtain ⟨w10_0, w10_1, w10_2, w10_3, y10_0, y10_1, y10_2, y10_3, _⟩ := w_10
        replace h_10 : qW D _ _ (wk_253faa1b8 cy h0 p2 w0 w1 h1 w2 p3 (u_10.2.1 0 0) (u_10.2.1 1 0) p6 (u_10.2.1 2 0) (u_10.2.1 3 0) p9 p10 p11 p12 p13 w3 w4 w5 w6 w7 p14 p15 w8 w9 w10 p16 p17 w11 w12 w13 w14 w15 p18 w16 w17 w18 h1 f0) _ _ := h_10
        refine lv_iload_n hx hb dX12_takes_53 rfl (lv_at hl_8 0 rfl) ?_
        exact q_iret X hr hlk hK h_10 rfl (fun _ => 0, (vcons (fun _ => (u_10.2.1 0 0)) (vcons (fun _ => (u_10.2.1 1 0)) (vcons (fun _ => (u_10.2.1 2 0)) (vcons (fun _ => (u_10.2.1 3 0)) (vcons (fun _ => p9) (vcons (fun _ => p10) (fun _ => (fun _ => 0)))))))), fun _ _ => 0) ⟨hp8, w10_0, w10_1, (bw w10_2 (by decide) (by decide)), w10_3, hp9, hp10, y10_0, y10_1, (show (p4 : Int32).toInt ≤ ((u_10.2.1 0 0) : Int32).toInt from by (first | (clear hpre1 y10_1; omega) | omega)), (show (p9 : Int32).toInt ≠ 0 ∨ (p9 : Int32).toInt = 0 from (ne_or _)), (show (p9 : Int32).toInt ≠ 0 ∨ ((p4 : Int32).toInt + 1 ≤ ((u_10.2.1 0 0) : Int32).toInt ∧ (p0 : Int32).toInt ≤ (p8 : Int32).toInt ∧ (p8 : Int32).toInt ≤ (p1 : Int32).toInt) from by (first | (clear hpre1 y10_1; omega) | omega)), (show SIMR f0 (p6 : Int32).toInt (num (p0 : Int32).toInt (p1 : Int32).toInt) (p4 : Int32).toInt (p5 : Int32).toInt (p7 : Int32).toInt (p8 : Int32).toInt (p9 : Int32).toInt (p10 : Int32).toInt ((u_10.2.1 0 0) : Int32).toInt ((u_10.2.1 1 0) : Int32).toInt ((u_10.2.1 2 0) : Int32).toInt ((u_10.2.1 3 0) : Int32).toInt (p9 : Int32).toInt (p10 : Int32).toInt from by first | (exfalso; omega) | exact smr_nm3 (by (first | assumption | (clear hpre1 y10_1; omega) | omega)) (by (first | assumption | (clear hpre1 y10_1; omega) | omega)) (by (first | assumption | (clear hpre1 y10_1; omega) | omega)) y10_3 (by (first | assumption | (clear hpre1 y10_1; omega) | omega))), (show NMP (p9 : Int32).toInt (p7 : Int32).toInt (p8 : Int32).toInt (p8 : Int32).toInt from by unfold NMP; omega), trivial⟩ [0, 1] rfl rfl dX12_takes_54 (Nat.le_of_ble_eq_true rfl) (Nat.le_of_ble_eq_true rfl)
    · replace c_7 := i_eq (x := r_6) (y := 0) rfl (show (0 : Int32).toInt = 0 by decide) c_7
      replace y6_0 := a10_0 y6_0 c_7
      refine lv_aload_n hx hb dX12_takes_32 rfl (lv_at hl 0 rfl) ?_
      refine lv_iconst (v := 3) hx hb dX12_takes_33 (by decide) ?_
      refine q_callVv (rest := []) (wr := [(h1, .inl (cy 1, 900, .inl f0))]) X hK hT hA h_6 (fun sz => gX12_fails_d7a7952 l D cy h0 p2 w0 w1 (.ref h1) w2 p3 p4 p5 p6 p7 p8 p9 p10 p11 p12 p13 w3 w4 w5 w6 w7 p14 p15 w8 w9 w10 p16 p17 w11 w12 w13 w14 w15 p18 w16 w17 w18 hp2 hp3 hp4 hp5 hp6 (i_rng _) hp8 (i_rng _) (i_rng _) (i_rng _) (i_rng _) (i_rng _) (i_rng _) (i_rng _) (i_rng _) (i_rng _) (i_rng _) sz) wm_6_83 wm_6_86 wm_1_12 hd_X12_fails wm_6_85 wp_4_8 (ci := 12) (q0 := 0) rfl rfl ⟨Nat.le_of_ble_eq_true rfl, Nat.le_of_ble_eq_true rfl⟩ hl.1 rfl (Nat.le_of_ble_eq_true rfl) dX12_takes_34 ⟨Nat.le_of_ble_eq_true rfl, Nat.le_of_ble_eq_true rfl⟩ [1] [0] rfl rfl (by decide) rfl rfl (fun u_11 H locs w_11 h_11 => ?_)
      clear h_6
      obtain ⟨w11_0, w11_1, y11_0, y11_1, _⟩ := w_11
      have lq_11_1 : (3 : Int32).toInt = 3 := (by decide)
      replace h_11 : qW D _ _ (wk_e69636a28 cy h1 f0 h0 p2 w0 w1 h1 w2 p3 p4 p5 p6 p7 p8 (u_11.2.1 0 0) (u_11.2.1 1 0) p11 p12 p13 w3 w4 w5 w6 w7 p14 p15 w8 w9 w10 p16 p17 w11 w12 w13 w14 w15 p18 w16 w17 w18) _ _ := h_11
      refine lv_aload_n hx hb dX12_takes_37 rfl (lv_at hl 0 rfl) ?_
      refine q_get X hK h_11 1 rfl rfl wf_12 10 (by decide) rfl wm_5_180 dX12_takes_38 ?_
      refine lv_istore_n (lv' := [(3, .int p8), (0, .ref h0), (1, .int p0), (2, .int p1)]) hx hb dX12_takes_41 rfl hl (by decide) rfl (fun ls_12 hl_12 => ?_)
      clear hl
      refine lv_aload_n hx hb dX12_takes_42 rfl (lv_at hl_12 1 rfl) ?_
      refine q_get X hK h_11 1 rfl rfl wf_12 11 (by decide) rfl wm_5_181 dX12_takes_43 ?_
      refine lv_if_ne (tgt := 53) hx hb dX12_takes_46 (by decide) (fun c_13 => ?_) (fun c_13 => ?_)
      · replace c_13 := i_ne (x := (u_11.2.1 0 0)) (y := 0) rfl (show (0 : Int32).toInt = 0 by decide) c_13
        refine lv_iload_n hx hb dX12_takes_53 rfl (lv_at hl_12 0 rfl) ?_
        exact q_iret X hr hlk hK h_11 rfl (fun _ => 0, (vcons (fun _ => p4) (vcons (fun _ => p5) (vcons (fun _ => p7) (vcons (fun _ => p8) (vcons (fun _ => (u_11.2.1 0 0)) (vcons (fun _ => (u_11.2.1 1 0)) (fun _ => (fun _ => 0)))))))), fun _ _ => 0) ⟨hp8, hp4, hp5, hp7, hp8, w11_0, w11_1, hpre0, hpre1, (show (p4 : Int32).toInt ≤ (p4 : Int32).toInt from (Int.le_refl _)), (show ((u_11.2.1 0 0) : Int32).toInt ≠ 0 ∨ (p9 : Int32).toInt = 0 from by (first | (clear hpre1 y6_0; omega) | omega)), (show ((u_11.2.1 0 0) : Int32).toInt ≠ 0 ∨ ((p4 : Int32).toInt + 1 ≤ (p4 : Int32).toInt ∧ (p0 : Int32).toInt ≤ (p8 : Int32).toInt ∧ (p8 : Int32).toInt ≤ (p1 : Int32).toInt) from by (first | (clear hpre1 y6_0; omega) | omega)), (show SIMR f0 (p6 : Int32).toInt (num (p0 : Int32).toInt (p1 : Int32).toInt) (p4 : Int32).toInt (p5 : Int32).toInt (p7 : Int32).toInt (p8 : Int32).toInt (p9 : Int32).toInt (p10 : Int32).toInt (p4 : Int32).toInt (p5 : Int32).toInt (p7 : Int32).toInt (p8 : Int32).toInt ((u_11.2.1 0 0) : Int32).toInt ((u_11.2.1 1 0) : Int32).toInt from smr_nm2 (by (first | assumption | (clear hpre1 y6_0; omega) | omega)) (by (first | assumption | (clear hpre1 y6_0; omega) | omega)) (smr_er (by (first | assumption | (clear hpre1 y6_0; omega) | omega)) y11_1)), (show NMP ((u_11.2.1 0 0) : Int32).toInt (p7 : Int32).toInt (p8 : Int32).toInt (p8 : Int32).toInt from by unfold NMP; omega), trivial⟩ [1, 0] rfl rfl dX12_takes_54 (Nat.le_of_ble_eq_true rfl) (Nat.le_of_ble_eq_true rfl)
      · replace c_13 := i_eq (x := (u_11.2.1 0 0)) (y := 0) rfl (show (0 : Int32).toInt = 0 by decide) c_13
        exfalso
        omega
  · replace c_2 := i_eq (x := r_1) (y := 0) rfl (show (0 : Int32).toInt = 0 by decide) c_2
    replace y1_0 := a10_0 y1_0 c_2
    refine lv_aload_n hx hb dX12_takes_9 rfl (lv_at hl 0 rfl) ?_
    refine lv_iconst (v := 2) hx hb dX12_takes_10 (by decide) ?_
    refine q_callVv (rest := []) (wr := [(h1, .inl (cy 1, 900, .inl f0))]) X hK hT hA h_1 (fun sz => gX12_fails_1e02d40 l D cy h0 p2 w0 w1 (.ref h1) w2 p3 p4 p5 p6 p7 p8 p9 p10 p11 p12 p13 w3 w4 w5 w6 w7 p14 p15 w8 w9 w10 p16 p17 w11 w12 w13 w14 w15 p18 w16 w17 w18 hp2 hp3 hp4 hp5 hp6 (i_rng _) hp8 (i_rng _) (i_rng _) (i_rng _) (i_rng _) (i_rng _) (i_rng _) (i_rng _) (i_rng _) (i_rng _) (i_rng _) sz) wm_6_83 wm_6_86 wm_1_12 hd_X12_fails wm_6_85 wp_4_8 (ci := 12) (q0 := 0) rfl rfl ⟨Nat.le_of_ble_eq_true rfl, Nat.le_of_ble_eq_true rfl⟩ hl.1 rfl (Nat.le_of_ble_eq_true rfl) dX12_takes_11 ⟨Nat.le_of_ble_eq_true rfl, Nat.le_of_ble_eq_true rfl⟩ [1] [0] rfl rfl (by decide) rfl rfl (fun u_14 H locs w_14 h_14 => ?_)
    clear h_1
    obtain ⟨w14_0, w14_1, y14_0, y14_1, _⟩ := w_14
    have lq_14_1 : (2 : Int32).toInt = 2 := (by decide)
    replace h_14 : qW D _ _ (wk_e69636a28 cy h1 f0 h0 p2 w0 w1 h1 w2 p3 p4 p5 p6 p7 p8 (u_14.2.1 0 0) (u_14.2.1 1 0) p11 p12 p13 w3 w4 w5 w6 w7 p14 p15 w8 w9 w10 p16 p17 w11 w12 w13 w14 w15 p18 w16 w17 w18) _ _ := h_14
    refine lv_goto (tgt := 37) hx hb dX12_takes_14 (by decide) ?_
    refine lv_aload_n hx hb dX12_takes_37 rfl (lv_at hl 0 rfl) ?_
    refine q_get X hK h_14 1 rfl rfl wf_12 10 (by decide) rfl wm_5_180 dX12_takes_38 ?_
    refine lv_istore_n (lv' := [(3, .int p8), (0, .ref h0), (1, .int p0), (2, .int p1)]) hx hb dX12_takes_41 rfl hl (by decide) rfl (fun ls_15 hl_15 => ?_)
    clear hl
    refine lv_aload_n hx hb dX12_takes_42 rfl (lv_at hl_15 1 rfl) ?_
    refine q_get X hK h_14 1 rfl rfl wf_12 11 (by decide) rfl wm_5_181 dX12_takes_43 ?_
    refine lv_if_ne (tgt := 53) hx hb dX12_takes_46 (by decide) (fun c_16 => ?_) (fun c_16 => ?_)
    · replace c_16 := i_ne (x := (u_14.2.1 0 0)) (y := 0) rfl (show (0 : Int32).toInt = 0 by decide) c_16
      refine lv_iload_n hx hb dX12_takes_53 rfl (lv_at hl_15 0 rfl) ?_
      exact q_iret X hr hlk hK h_14 rfl (fun _ => 0, (vcons (fun _ => p4) (vcons (fun _ => p5) (vcons (fun _ => p7) (vcons (fun _ => p8) (vcons (fun _ => (u_14.2.1 0 0)) (vcons (fun _ => (u_14.2.1 1 0)) (fun _ => (fun _ => 0)))))))), fun _ _ => 0) ⟨hp8, hp4, hp5, hp7, hp8, w14_0, w14_1, hpre0, hpre1, (show (p4 : Int32).toInt ≤ (p4 : Int32).toInt from (Int.le_refl _)), (show ((u_14.2.1 0 0) : Int32).toInt ≠ 0 ∨ (p9 : Int32).toInt = 0 from by (first | (clear hpre1 y1_0; omega) | omega)), (show ((u_14.2.1 0 0) : Int32).toInt ≠ 0 ∨ ((p4 : Int32).toInt + 1 ≤ (p4 : Int32).toInt ∧ (p0 : Int32).toInt ≤ (p8 : Int32).toInt ∧ (p8 : Int32).toInt ≤ (p1 : Int32).toInt) from by (first | (clear hpre1 y1_0; omega) | omega)), (show SIMR f0 (p6 : Int32).toInt (num (p0 : Int32).toInt (p1 : Int32).toInt) (p4 : Int32).toInt (p5 : Int32).toInt (p7 : Int32).toInt (p8 : Int32).toInt (p9 : Int32).toInt (p10 : Int32).toInt (p4 : Int32).toInt (p5 : Int32).toInt (p7 : Int32).toInt (p8 : Int32).toInt ((u_14.2.1 0 0) : Int32).toInt ((u_14.2.1 1 0) : Int32).toInt from smr_nm1 (by (first | assumption | (clear hpre1 y1_0; omega) | omega)) (smr_er (by (first | assumption | (clear hpre1 y1_0; omega) | omega)) y14_1)), (show NMP ((u_14.2.1 0 0) : Int32).toInt (p7 : Int32).toInt (p8 : Int32).toInt (p8 : Int32).toInt from by unfold NMP; omega), trivial⟩ [1, 0] rfl rfl dX12_takes_54 (Nat.le_of_ble_eq_true rfl) (Nat.le_of_ble_eq_true rfl)
    · replace c_16 := i_eq (x := (u_14.2.1 0 0)) (y := 0) rfl (show (0 : Int32).toInt = 0 by decide) c_16
      exfalso
      omega
set_option maxHeartbeats 4000000 in
set_option maxRecDepth 100000 in
theorem gX12_is_b2f0ec9 (l : Launch) (D : va_G) (cy : Nat → ClassId) (h0 : Nat) (p0 : Int32) (w0 : Value) (w1 : Value) (w2 : Value) (w3 : Value) (p1 : Int32) (p2 : Int32) (p3 : Int32) (p4 : Int32) (p5 : Int32) (p6 : Int32) (p7 : Int32) (p8 : Int32) (p9 : Int32) (p10 : Int32) (p11 : Int32) (w4 : Value) (w5 : Value) (w6 : Value) (w7 : Value) (w8 : Value) (p12 : Int32) (p13 : Int32) (w9 : Value) (w10 : Value) (w11 : Value) (p14 : Int32) (p15 : Int32) (w12 : Value) (w13 : Value) (w14 : Value) (w15 : Value) (w16 : Value) (p16 : Int32) (w17 : Value) (w18 : Value) (w19 : Value) (hp0 : 0 ≤ (p0).toInt ∧ (p0).toInt ≤ 0) (hp1 : 0 ≤ (p1).toInt ∧ (p1).toInt ≤ 900) (hp2 : 0 ≤ (p2).toInt ∧ (p2).toInt ≤ 900) (hp3 : 0 ≤ (p3).toInt ∧ (p3).toInt ≤ 900) (hp4 : 0 ≤ (p4).toInt ∧ (p4).toInt ≤ 900) (hp5 : (-2147483648) ≤ (p5).toInt ∧ (p5).toInt ≤ 2147483647) (hp6 : 0 ≤ (p6).toInt ∧ (p6).toInt ≤ 999) (hp7 : (-2147483648) ≤ (p7).toInt ∧ (p7).toInt ≤ 2147483647) (hp8 : (-2147483648) ≤ (p8).toInt ∧ (p8).toInt ≤ 2147483647) (hp9 : (-2147483648) ≤ (p9).toInt ∧ (p9).toInt ≤ 2147483647) (hp10 : (-2147483648) ≤ (p10).toInt ∧ (p10).toInt ≤ 2147483647) (hp11 : (-2147483648) ≤ (p11).toInt ∧ (p11).toInt ≤ 2147483647) (hp12 : (-2147483648) ≤ (p12).toInt ∧ (p12).toInt ≤ 2147483647) (hp13 : (-2147483648) ≤ (p13).toInt ∧ (p13).toInt ≤ 2147483647) (hp14 : (-2147483648) ≤ (p14).toInt ∧ (p14).toInt ≤ 2147483647) (hp15 : (-2147483648) ≤ (p15).toInt ∧ (p15).toInt ≤ 2147483647) (hp16 : (-2147483648) ≤ (p16).toInt ∧ (p16).toInt ≤ 2147483647) (sz : Nat) : MI l yX12_is cX12_is 2 .boolean { frames := 0, cells := 0, slots := 0, locals := 0 } [.ref h0, .int 30] D cy [(h0, .inr (12, [.int p0, w0, w1, w2, w3, .int p1, .int p2, .int p3, .int p4, .int p5, .int p6, .int p7, .int p8, .int p9, .int p10, .int p11, w4, w5, w6, w7, w8, .int p12, .int p13, w9, w10, w11, .int p14, .int p15, w12, w13, w14, w15, w16, .int p16, w17, w18, w19]))] sz (fun r u => (0 ≤ r.toInt ∧ r.toInt ≤ 1) ∧ (((r : Int32).toInt = 1 ∧ (p7 : Int32).toInt = 0 ∧ (p5 : Int32).toInt = (30 : Int32).toInt) ∨ ((r : Int32).toInt = 0 ∧ ((p7 : Int32).toInt ≠ 0 ∨ (p5 : Int32).toInt ≠ (30 : Int32).toInt))) ∧ True) (fun u => [(h0, .inr (12, [.int p0, w0, w1, w2, w3, .int p1, .int p2, .int p3, .int p4, .int p5, .int p6, .int p7, .int p8, .int p9, .int p10, .int p11, w4, w5, w6, w7, w8, .int p12, .int p13, w9, w10, w11, .int p14, .int p15, w12, w13, w14, w15, w16, .int p16, w17, w18, w19]))]) 0 0 := by
  refine q_ent (own := RX12) (by decide) rfl (Nat.le_of_ble_eq_true rfl) (fun p e s m below meth c ls X hr hlk hnm hK hT h hA hl => ?_)
  obtain ⟨hx, hb, hml, hown, ht⟩ := id X
  replace hl : lv_has ls 2 [(0, .ref h0), (1, .int 30)] := hl
  refine lv_aload_n hx hb dX12_is_0 rfl (lv_at hl 0 rfl) ?_
  refine q_get X hK h 0 rfl rfl wf_12 11 (by decide) rfl wm_5_181 dX12_is_1 ?_
  refine lv_if_ne (tgt := 19) hx hb dX12_is_4 (by decide) (fun c_1 => ?_) (fun c_1 => ?_)
  · replace c_1 := i_ne (x := p7) (y := 0) rfl (show (0 : Int32).toInt = 0 by decide) c_1
    refine lv_iconst (v := 0) hx hb dX12_is_19 (by decide) ?_
    exact q_iret X hr hlk hK h rfl (fun _ => 0, fun _ _ => 0, fun _ _ => 0) ⟨⟨by decide +kernel, by decide +kernel⟩, (show ((0 : Int32).toInt = 1 ∧ (p7 : Int32).toInt = 0 ∧ (p5 : Int32).toInt = (30 : Int32).toInt) ∨ ((0 : Int32).toInt = 0 ∧ ((p7 : Int32).toInt ≠ 0 ∨ (p5 : Int32).toInt ≠ (30 : Int32).toInt)) from by have q0 : (0 : Int32).toInt = 0 := (by decide); have q1 : (30 : Int32).toInt = 30 := (by decide); omega), trivial⟩ [0] rfl rfl dX12_is_20 (Nat.le_of_ble_eq_true rfl) (Nat.le_of_ble_eq_true rfl)
  · replace c_1 := i_eq (x := p7) (y := 0) rfl (show (0 : Int32).toInt = 0 by decide) c_1
    refine lv_aload_n hx hb dX12_is_7 rfl (lv_at hl 0 rfl) ?_
    refine q_get X hK h 0 rfl rfl wf_12 9 (by decide) rfl wm_5_179 dX12_is_8 ?_
    refine lv_iload_n hx hb dX12_is_11 rfl (lv_at hl 1 rfl) ?_
    refine lv_icmp_ne (tgt := 19) hx hb dX12_is_12 (by decide) (fun c_2 => ?_) (fun c_2 => ?_)
    · replace c_2 := i_ne (x := p5) (y := 30) rfl (show (30 : Int32).toInt = 30 by decide) c_2
      refine lv_iconst (v := 0) hx hb dX12_is_19 (by decide) ?_
      exact q_iret X hr hlk hK h rfl (fun _ => 0, fun _ _ => 0, fun _ _ => 0) ⟨⟨by decide +kernel, by decide +kernel⟩, (show ((0 : Int32).toInt = 1 ∧ (p7 : Int32).toInt = 0 ∧ (p5 : Int32).toInt = (30 : Int32).toInt) ∨ ((0 : Int32).toInt = 0 ∧ ((p7 : Int32).toInt ≠ 0 ∨ (p5 : Int32).toInt ≠ (30 : Int32).toInt)) from by have q0 : (0 : Int32).toInt = 0 := (by decide); have q1 : (30 : Int32).toInt = 30 := (by decide); omega), trivial⟩ [0] rfl rfl dX12_is_20 (Nat.le_of_ble_eq_true rfl) (Nat.le_of_ble_eq_true rfl)
    · replace c_2 := i_eq (x := p5) (y := 30) rfl (show (30 : Int32).toInt = 30 by decide) c_2
      refine lv_iconst (v := 1) hx hb dX12_is_15 (by decide) ?_
      refine lv_goto (tgt := 20) hx hb dX12_is_16 (by decide) ?_
      exact q_iret X hr hlk hK h rfl (fun _ => 0, fun _ _ => 0, fun _ _ => 0) ⟨⟨by decide +kernel, by decide +kernel⟩, (show ((1 : Int32).toInt = 1 ∧ (p7 : Int32).toInt = 0 ∧ (p5 : Int32).toInt = (30 : Int32).toInt) ∨ ((1 : Int32).toInt = 0 ∧ ((p7 : Int32).toInt ≠ 0 ∨ (p5 : Int32).toInt ≠ (30 : Int32).toInt)) from by have q0 : (1 : Int32).toInt = 1 := (by decide); have q1 : (30 : Int32).toInt = 30 := (by decide); omega), trivial⟩ [0] rfl rfl dX12_is_20 (Nat.le_of_ble_eq_true rfl) (Nat.le_of_ble_eq_true rfl)
set_option maxHeartbeats 4000000 in
set_option maxRecDepth 100000 in
theorem gX12_eats_4997725 (l : Launch) (D : va_G) (cy : Nat → ClassId) (h0 : Nat) (h1 : Nat) (p0 : Int32) (w0 : Value) (w1 : Value) (w2 : Value) (p1 : Int32) (p2 : Int32) (p3 : Int32) (p4 : Int32) (p5 : Int32) (p6 : Int32) (p7 : Int32) (p8 : Int32) (p9 : Int32) (p10 : Int32) (p11 : Int32) (w3 : Value) (w4 : Value) (w5 : Value) (w6 : Value) (w7 : Value) (p12 : Int32) (p13 : Int32) (w8 : Value) (w9 : Value) (w10 : Value) (p14 : Int32) (p15 : Int32) (w11 : Value) (w12 : Value) (w13 : Value) (w14 : Value) (w15 : Value) (p16 : Int32) (w16 : Value) (w17 : Value) (w18 : Value) (f0 : Nat → Int32) (hp0 : 0 ≤ (p0).toInt ∧ (p0).toInt ≤ 0) (hp1 : 0 ≤ (p1).toInt ∧ (p1).toInt ≤ 900) (hp2 : 0 ≤ (p2).toInt ∧ (p2).toInt ≤ 900) (hp3 : 0 ≤ (p3).toInt ∧ (p3).toInt ≤ 900) (hp4 : 0 ≤ (p4).toInt ∧ (p4).toInt ≤ 900) (hp5 : (-2147483648) ≤ (p5).toInt ∧ (p5).toInt ≤ 2147483647) (hp6 : 0 ≤ (p6).toInt ∧ (p6).toInt ≤ 999) (hp7 : (-2147483648) ≤ (p7).toInt ∧ (p7).toInt ≤ 2147483647) (hp8 : (-2147483648) ≤ (p8).toInt ∧ (p8).toInt ≤ 2147483647) (hp9 : (-2147483648) ≤ (p9).toInt ∧ (p9).toInt ≤ 2147483647) (hp10 : (-2147483648) ≤ (p10).toInt ∧ (p10).toInt ≤ 2147483647) (hp11 : (-2147483648) ≤ (p11).toInt ∧ (p11).toInt ≤ 2147483647) (hp12 : (-2147483648) ≤ (p12).toInt ∧ (p12).toInt ≤ 2147483647) (hp13 : (-2147483648) ≤ (p13).toInt ∧ (p13).toInt ≤ 2147483647) (hp14 : (-2147483648) ≤ (p14).toInt ∧ (p14).toInt ≤ 2147483647) (hp15 : (-2147483648) ≤ (p15).toInt ∧ (p15).toInt ≤ 2147483647) (hp16 : (-2147483648) ≤ (p16).toInt ∧ (p16).toInt ≤ 2147483647) (hpre0 : 0 ≤ (p2 : Int32).toInt ∧ (p2 : Int32).toInt ≤ (p3 : Int32).toInt ∧ (p3 : Int32).toInt ≤ (p4 : Int32).toInt) (hpre1 : (p5 : Int32).toInt = 26 ∨ (p2 : Int32).toInt < (p3 : Int32).toInt) (sz : Nat) : MI l yX12_eats cX12_eats 2 .boolean { frames := 6, cells := 0, slots := 0, locals := 129 } [.ref h0, .int 30] D cy (wk_253faa1b8 cy h0 p0 w0 w1 h1 w2 p1 p2 p3 p4 p5 p6 p7 p8 p9 p10 p11 w3 w4 w5 w6 w7 p12 p13 w8 w9 w10 p14 p15 w11 w12 w13 w14 w15 p16 w16 w17 w18 h1 f0) sz (fun r u => (0 ≤ r.toInt ∧ r.toInt ≤ 1) ∧ (0 ≤ (u.2.1 0 0).toInt ∧ (u.2.1 0 0).toInt ≤ 900) ∧ (0 ≤ (u.2.1 1 0).toInt ∧ (u.2.1 1 0).toInt ≤ 900) ∧ ((-2147483648) ≤ (u.2.1 2 0).toInt ∧ (u.2.1 2 0).toInt ≤ 2147483647) ∧ (0 ≤ (u.2.1 3 0).toInt ∧ (u.2.1 3 0).toInt ≤ 999) ∧ (0 ≤ ((u.2.1 0 0) : Int32).toInt ∧ ((u.2.1 0 0) : Int32).toInt ≤ ((u.2.1 1 0) : Int32).toInt ∧ ((u.2.1 1 0) : Int32).toInt ≤ (p4 : Int32).toInt) ∧ (((u.2.1 2 0) : Int32).toInt = 26 ∨ ((u.2.1 0 0) : Int32).toInt < ((u.2.1 1 0) : Int32).toInt) ∧ (((r : Int32).toInt = 0 ∧ ((u.2.1 0 0) : Int32).toInt = (p2 : Int32).toInt ∧ ((u.2.1 1 0) : Int32).toInt = (p3 : Int32).toInt ∧ ((u.2.1 2 0) : Int32).toInt = (p5 : Int32).toInt ∧ ((p7 : Int32).toInt ≠ 0 ∨ ((u.2.1 2 0) : Int32).toInt ≠ (30 : Int32).toInt)) ∨ ((r : Int32).toInt = 1 ∧ (p3 : Int32).toInt ≤ ((u.2.1 0 0) : Int32).toInt ∧ (p7 : Int32).toInt = 0 ∧ (p5 : Int32).toInt = (30 : Int32).toInt)) ∧ (ALT (r : Int32).toInt 0 1 (((u.2.1 3 0) : Int32).toInt = (p6 : Int32).toInt) (NXR f0 (p4 : Int32).toInt (p3 : Int32).toInt ((u.2.1 0 0) : Int32).toInt ((u.2.1 1 0) : Int32).toInt ((u.2.1 2 0) : Int32).toInt ((u.2.1 3 0) : Int32).toInt)) ∧ ((r : Int32).toInt = 1 ∨ ((u.2.1 3 0) : Int32).toInt = (p6 : Int32).toInt) ∧ True) (fun u => (wk_253faa1b8 cy h0 p0 w0 w1 h1 w2 p1 (u.2.1 0 0) (u.2.1 1 0) p4 (u.2.1 2 0) (u.2.1 3 0) p7 p8 p9 p10 p11 w3 w4 w5 w6 w7 p12 p13 w8 w9 w10 p14 p15 w11 w12 w13 w14 w15 p16 w16 w17 w18 h1 f0)) 0 0 := by
  refine q_ent (own := RX12) (by decide) rfl (Nat.le_of_ble_eq_true rfl) (fun p e s m below meth c ls X hr hlk hnm hK hT h hA hl => ?_)
  obtain ⟨hx, hb, hml, hown, ht⟩ := id X
  replace hl : lv_has ls 2 [(0, .ref h0), (1, .int 30)] := hl
  refine lv_aload_n hx hb dX12_eats_0 rfl (lv_at hl 0 rfl) ?_
  refine lv_iload_n hx hb dX12_eats_1 rfl (lv_at hl 1 rfl) ?_
  refine q_callVi (rest := []) (wr := [(h1, .inl (cy 1, 900, .inl f0))]) X hK hT hA h (fun sz => gX12_is_b2f0ec9 l D cy h0 p0 w0 w1 (.ref h1) w2 p1 p2 p3 p4 p5 p6 p7 p8 p9 p10 p11 w3 w4 w5 w6 w7 p12 p13 w8 w9 w10 p14 p15 w11 w12 w13 w14 w15 p16 w16 w17 w18 hp0 hp1 hp2 hp3 hp4 (i_rng _) hp6 (i_rng _) (i_rng _) (i_rng _) (i_rng _) (i_rng _) (i_rng _) (i_rng _) (i_rng _) (i_rng _) (i_rng _) sz) wm_6_79 wm_6_82 wm_1_12 hd_X12_is wm_6_81 wp_4_7 (ci := 12) (q0 := 0) rfl rfl ⟨Nat.le_of_ble_eq_true rfl, Nat.le_of_ble_eq_true rfl⟩ hl.1 rfl (Nat.le_of_ble_eq_true rfl) dX12_eats_2 ⟨Nat.le_of_ble_eq_true rfl, Nat.le_of_ble_eq_true rfl⟩ [0] [1] rfl rfl (by decide) rfl rfl (fun r_1 u_1 H locs w_1 h_1 => ?_)
  clear h
  obtain ⟨wr_1, y1_0, _⟩ := w_1
  have lq_1_1 : (30 : Int32).toInt = 30 := (by decide)
  replace h_1 : qW D _ _ (wk_e69636a28 cy h1 f0 h0 p0 w0 w1 h1 w2 p1 p2 p3 p4 p5 p6 p7 p8 p9 p10 p11 w3 w4 w5 w6 w7 p12 p13 w8 w9 w10 p14 p15 w11 w12 w13 w14 w15 p16 w16 w17 w18) _ _ := h_1
  refine lv_if_ne (tgt := 10) hx hb dX12_eats_5 (by decide) (fun c_2 => ?_) (fun c_2 => ?_)
  · replace c_2 := i_ne (x := r_1) (y := 0) rfl (show (0 : Int32).toInt = 0 by decide) c_2
    replace y1_0 := a10_1 y1_0 c_2
    refine lv_aload_n hx hb dX12_eats_10 rfl (lv_at hl 0 rfl) ?_
    refine q_callVv (rest := []) (wr := []) X hK hT hA h_1 (fun sz => gX12_next_c515fc5 l D cy h0 h1 p0 w0 w1 w2 p1 p2 p3 p4 p5 p6 p7 p8 p9 p10 p11 w3 w4 w5 w6 w7 p12 p13 w8 w9 w10 p14 p15 w11 w12 w13 w14 w15 p16 w16 w17 w18 f0 hp0 hp1 hp2 hp3 hp4 (i_rng _) hp6 (i_rng _) (i_rng _) (i_rng _) (i_rng _) (i_rng _) (i_rng _) (i_rng _) (i_rng _) (i_rng _) (i_rng _) (by (first | (clear hpre1; omega) | omega)) sz) wm_6_53 wm_6_56 wm_1_12 hd_X12_next wm_6_55 wp_4_3 (ci := 12) (q0 := 0) rfl rfl ⟨Nat.le_of_ble_eq_true rfl, Nat.le_of_ble_eq_true rfl⟩ hl.1 rfl (Nat.le_of_ble_eq_true rfl) dX12_eats_11 ⟨Nat.le_of_ble_eq_true rfl, Nat.le_of_ble_eq_true rfl⟩ [1, 0] [] rfl rfl (by decide) rfl rfl (fun u_3 H locs w_3 h_3 => ?_)
    clear h_1
    obtain ⟨w3_0, w3_1, w3_2, w3_3, y3_0, y3_1, y3_2, y3_3, _⟩ := w_3
    replace h_3 : qW D _ _ (wk_253faa1b8 cy h0 p0 w0 w1 h1 w2 p1 (u_3.2.1 0 0) (u_3.2.1 1 0) p4 (u_3.2.1 2 0) (u_3.2.1 3 0) p7 p8 p9 p10 p11 w3 w4 w5 w6 w7 p12 p13 w8 w9 w10 p14 p15 w11 w12 w13 w14 w15 p16 w16 w17 w18 h1 f0) _ _ := h_3
    refine lv_iconst (v := 1) hx hb dX12_eats_14 (by decide) ?_
    exact q_iret X hr hlk hK h_3 rfl (fun _ => 0, (vcons (fun _ => (u_3.2.1 0 0)) (vcons (fun _ => (u_3.2.1 1 0)) (vcons (fun _ => (u_3.2.1 2 0)) (vcons (fun _ => (u_3.2.1 3 0)) (fun _ => (fun _ => 0)))))), fun _ _ => 0) ⟨⟨by decide +kernel, by decide +kernel⟩, w3_0, w3_1, (bw w3_2 (by decide) (by decide)), w3_3, y3_0, y3_1, (show ((1 : Int32).toInt = 0 ∧ ((u_3.2.1 0 0) : Int32).toInt = (p2 : Int32).toInt ∧ ((u_3.2.1 1 0) : Int32).toInt = (p3 : Int32).toInt ∧ ((u_3.2.1 2 0) : Int32).toInt = (p5 : Int32).toInt ∧ ((p7 : Int32).toInt ≠ 0 ∨ ((u_3.2.1 2 0) : Int32).toInt ≠ (30 : Int32).toInt)) ∨ ((1 : Int32).toInt = 1 ∧ (p3 : Int32).toInt ≤ ((u_3.2.1 0 0) : Int32).toInt ∧ (p7 : Int32).toInt = 0 ∧ (p5 : Int32).toInt = (30 : Int32).toInt) from by have q0 : (1 : Int32).toInt = 1 := (by decide); have q1 : (30 : Int32).toInt = 30 := (by decide); (first | (clear hpre1 y3_1; omega) | omega)), (show ALT (1 : Int32).toInt 0 1 (((u_3.2.1 3 0) : Int32).toInt = (p6 : Int32).toInt) (NXR f0 (p4 : Int32).toInt (p3 : Int32).toInt ((u_3.2.1 0 0) : Int32).toInt ((u_3.2.1 1 0) : Int32).toInt ((u_3.2.1 2 0) : Int32).toInt ((u_3.2.1 3 0) : Int32).toInt) from alt_2 (by decide) y3_3), (show (1 : Int32).toInt = 1 ∨ ((u_3.2.1 3 0) : Int32).toInt = (p6 : Int32).toInt from by have q0 : (1 : Int32).toInt = 1 := (by decide); (first | (clear hpre1 y3_1; omega) | omega)), trivial⟩ [0, 1] rfl rfl dX12_eats_15 (Nat.le_of_ble_eq_true rfl) (Nat.le_of_ble_eq_true rfl)
  · replace c_2 := i_eq (x := r_1) (y := 0) rfl (show (0 : Int32).toInt = 0 by decide) c_2
    replace y1_0 := a10_0 y1_0 c_2
    refine lv_iconst (v := 0) hx hb dX12_eats_8 (by decide) ?_
    exact q_iret X hr hlk hK h_1 rfl (fun _ => 0, (vcons (fun _ => p2) (vcons (fun _ => p3) (vcons (fun _ => p5) (vcons (fun _ => p6) (fun _ => (fun _ => 0)))))), fun _ _ => 0) ⟨⟨by decide +kernel, by decide +kernel⟩, hp2, hp3, hp5, hp6, hpre0, hpre1, (show ((0 : Int32).toInt = 0 ∧ (p2 : Int32).toInt = (p2 : Int32).toInt ∧ (p3 : Int32).toInt = (p3 : Int32).toInt ∧ (p5 : Int32).toInt = (p5 : Int32).toInt ∧ ((p7 : Int32).toInt ≠ 0 ∨ (p5 : Int32).toInt ≠ (30 : Int32).toInt)) ∨ ((0 : Int32).toInt = 1 ∧ (p3 : Int32).toInt ≤ (p2 : Int32).toInt ∧ (p7 : Int32).toInt = 0 ∧ (p5 : Int32).toInt = (30 : Int32).toInt) from by have q0 : (0 : Int32).toInt = 0 := (by decide); have q1 : (30 : Int32).toInt = 30 := (by decide); (first | (clear hpre1 y1_0; omega) | omega)), (show ALT (0 : Int32).toInt 0 1 ((p6 : Int32).toInt = (p6 : Int32).toInt) (NXR f0 (p4 : Int32).toInt (p3 : Int32).toInt (p2 : Int32).toInt (p3 : Int32).toInt (p5 : Int32).toInt (p6 : Int32).toInt) from alt_1 (by decide) rfl), (show (0 : Int32).toInt = 1 ∨ (p6 : Int32).toInt = (p6 : Int32).toInt from by have q0 : (0 : Int32).toInt = 0 := (by decide); (first | (clear hpre1 y1_0; omega) | omega)), trivial⟩ [1, 0] rfl rfl dX12_eats_9 (Nat.le_of_ble_eq_true rfl) (Nat.le_of_ble_eq_true rfl)
set_option maxHeartbeats 4000000 in
set_option maxRecDepth 100000 in
theorem gX12_ends_3a5e2d0 (l : Launch) (D : va_G) (cy : Nat → ClassId) (h0 : Nat) (h1 : Nat) (h2 : Nat) (p0 : Int32) (w0 : Value) (w1 : Value) (p1 : Int32) (p2 : Int32) (p3 : Int32) (p4 : Int32) (p5 : Int32) (p6 : Int32) (p7 : Int32) (p8 : Int32) (p9 : Int32) (p10 : Int32) (p11 : Int32) (w2 : Value) (w3 : Value) (w4 : Value) (w5 : Value) (w6 : Value) (p12 : Int32) (p13 : Int32) (w7 : Value) (w8 : Value) (w9 : Value) (p14 : Int32) (p15 : Int32) (w10 : Value) (w11 : Value) (w12 : Value) (w13 : Value) (w14 : Value) (p16 : Int32) (w15 : Value) (w16 : Value) (w17 : Value) (f0 : Nat → Int32) (f1 : Nat → Int32) (p17 : Int32) (p18 : Int32) (p19 : Int32) (p20 : Int32) (hp0 : 0 ≤ (p0).toInt ∧ (p0).toInt ≤ 0) (hp1 : 0 ≤ (p1).toInt ∧ (p1).toInt ≤ 900) (hp2 : 0 ≤ (p2).toInt ∧ (p2).toInt ≤ 900) (hp3 : 0 ≤ (p3).toInt ∧ (p3).toInt ≤ 900) (hp4 : 0 ≤ (p4).toInt ∧ (p4).toInt ≤ 900) (hp5 : (-2147483648) ≤ (p5).toInt ∧ (p5).toInt ≤ 2147483647) (hp6 : 0 ≤ (p6).toInt ∧ (p6).toInt ≤ 999) (hp7 : (-2147483648) ≤ (p7).toInt ∧ (p7).toInt ≤ 2147483647) (hp8 : (-2147483648) ≤ (p8).toInt ∧ (p8).toInt ≤ 2147483647) (hp9 : (-2147483648) ≤ (p9).toInt ∧ (p9).toInt ≤ 2147483647) (hp10 : (-2147483648) ≤ (p10).toInt ∧ (p10).toInt ≤ 2147483647) (hp11 : (-2147483648) ≤ (p11).toInt ∧ (p11).toInt ≤ 2147483647) (hp12 : (-2147483648) ≤ (p12).toInt ∧ (p12).toInt ≤ 2147483647) (hp13 : (-2147483648) ≤ (p13).toInt ∧ (p13).toInt ≤ 2147483647) (hp14 : (-2147483648) ≤ (p14).toInt ∧ (p14).toInt ≤ 2147483647) (hp15 : (-2147483648) ≤ (p15).toInt ∧ (p15).toInt ≤ 2147483647) (hp16 : (-2147483648) ≤ (p16).toInt ∧ (p16).toInt ≤ 2147483647) (hp17 : 0 ≤ (p17).toInt ∧ (p17).toInt ≤ 901) (hp18 : (-2147483648) ≤ (p18).toInt ∧ (p18).toInt ≤ 2147483647) (hp19 : 0 ≤ (p19).toInt ∧ (p19).toInt ≤ 10) (hp20 : 0 ≤ (p20).toInt ∧ (p20).toInt ≤ 900) (htf1_0 : f1 0 = p17) (htf1_1 : f1 1 = p18) (htf1_2 : f1 2 = p19) (htf1_405 : f1 405 = p20) (hpre0 : 0 ≤ (p2 : Int32).toInt ∧ (p2 : Int32).toInt ≤ (p3 : Int32).toInt ∧ (p3 : Int32).toInt ≤ (p4 : Int32).toInt) (hpre1 : (p5 : Int32).toInt = 26 ∨ (p2 : Int32).toInt < (p3 : Int32).toInt) (hpre2 : (p7 : Int32).toInt ≠ 0 ∨ (p20 : Int32).toInt ≤ (p2 : Int32).toInt) (hpre3 : HF (p7 : Int32).toInt f1 ((p20 : Int32).toInt).toNat) (hpre4 : 0 ≤ (p17 : Int32).toInt ∧ (p17 : Int32).toInt ≤ 901) (sz : Nat) : MV l yX12_ends cX12_ends 1 { frames := 7, cells := 0, slots := 0, locals := 150 } [.ref h0] D cy (wk_8d528f753 cy h0 p0 w0 w1 h1 h2 p1 p2 p3 p4 p5 p6 p7 p8 p9 p10 p11 w2 w3 w4 w5 w6 p12 p13 w7 w8 w9 p14 p15 w10 w11 w12 w13 w14 p16 w15 w16 w17 h1 f0 h2 f1) sz (fun u => (1 ≤ (u.2.1 1 0).toInt ∧ (u.2.1 1 0).toInt ≤ 902) ∧ (0 ≤ (u.2.1 2 0).toInt ∧ (u.2.1 2 0).toInt ≤ 900) ∧ (0 ≤ (u.2.1 3 0).toInt ∧ (u.2.1 3 0).toInt ≤ 900) ∧ ((-2147483648) ≤ (u.2.1 4 0).toInt ∧ (u.2.1 4 0).toInt ≤ 2147483647) ∧ (0 ≤ (u.2.1 5 0).toInt ∧ (u.2.1 5 0).toInt ≤ 999) ∧ ((-2147483648) ≤ (u.2.1 6 0).toInt ∧ (u.2.1 6 0).toInt ≤ 2147483647) ∧ ((-2147483648) ≤ (u.2.1 7 0).toInt ∧ (u.2.1 7 0).toInt ≤ 2147483647) ∧ (u.2.1 0) 0 = (u.2.1 1 0) ∧ (u.2.1 0) 1 = p18 ∧ (u.2.1 0) 2 = p19 ∧ (u.2.1 0) 405 = p20 ∧ (0 ≤ ((u.2.1 2 0) : Int32).toInt ∧ ((u.2.1 2 0) : Int32).toInt ≤ ((u.2.1 3 0) : Int32).toInt ∧ ((u.2.1 3 0) : Int32).toInt ≤ (p4 : Int32).toInt) ∧ (((u.2.1 4 0) : Int32).toInt = 26 ∨ ((u.2.1 2 0) : Int32).toInt < ((u.2.1 3 0) : Int32).toInt) ∧ ((p2 : Int32).toInt ≤ ((u.2.1 2 0) : Int32).toInt) ∧ (((u.2.1 6 0) : Int32).toInt ≠ 0 ∨ (p7 : Int32).toInt = 0) ∧ (((u.2.1 6 0) : Int32).toInt ≠ 0 ∨ (p20 : Int32).toInt ≤ ((u.2.1 2 0) : Int32).toInt) ∧ (HF ((u.2.1 6 0) : Int32).toInt (u.2.1 0) ((p20 : Int32).toInt).toNat) ∧ (((u.2.1 6 0) : Int32).toInt ≠ 0 ∨ (p2 : Int32).toInt + 1 ≤ ((u.2.1 2 0) : Int32).toInt) ∧ (SIMR f0 (p4 : Int32).toInt (tak 59) (p2 : Int32).toInt (p3 : Int32).toInt (p5 : Int32).toInt (p6 : Int32).toInt (p7 : Int32).toInt (p8 : Int32).toInt ((u.2.1 2 0) : Int32).toInt ((u.2.1 3 0) : Int32).toInt ((u.2.1 4 0) : Int32).toInt ((u.2.1 5 0) : Int32).toInt ((u.2.1 6 0) : Int32).toInt ((u.2.1 7 0) : Int32).toInt) ∧ (((u.2.1 1 0) : Int32).toInt = (p17 : Int32).toInt + 1) ∧ True) (fun u => (wk_8d528f753 cy h0 p0 w0 w1 h1 h2 p1 (u.2.1 2 0) (u.2.1 3 0) p4 (u.2.1 4 0) (u.2.1 5 0) (u.2.1 6 0) (u.2.1 7 0) p9 p10 p11 w2 w3 w4 w5 w6 p12 p13 w7 w8 w9 p14 p15 w10 w11 w12 w13 w14 p16 w15 w16 w17 h1 f0 h2 (u.2.1 0))) 0 0 := by
  refine q_ent (own := RX12) (by decide) rfl (Nat.le_of_ble_eq_true rfl) (fun p e s m below meth c ls X hr hlk hnm hK hT h hA hl => ?_)
  obtain ⟨hx, hb, hml, hown, ht⟩ := id X
  replace hl : lv_has ls 1 [(0, .ref h0)] := hl
  refine lv_aload_n hx hb dX12_ends_0 rfl (lv_at hl 0 rfl) ?_
  refine lv_bipush (v := 30) hx hb dX12_ends_1 (by decide) ?_
  refine q_callVi (rest := []) (wr := [(h2, .inl (cy 1, 1306, .inl f1))]) X hK hT hA h (fun sz => gX12_eats_4997725 l D cy h0 h1 p0 w0 w1 (.ref h2) p1 p2 p3 p4 p5 p6 p7 p8 p9 p10 p11 w2 w3 w4 w5 w6 p12 p13 w7 w8 w9 p14 p15 w10 w11 w12 w13 w14 p16 w15 w16 w17 f0 hp0 hp1 hp2 hp3 hp4 (i_rng _) hp6 (i_rng _) (i_rng _) (i_rng _) (i_rng _) (i_rng _) (i_rng _) (i_rng _) (i_rng _) (i_rng _) (i_rng _) (hpre0) (hpre1) sz) wm_6_75 wm_6_78 wm_1_12 hd_X12_eats wm_6_77 wp_4_6 (ci := 12) (q0 := 0) rfl rfl ⟨Nat.le_of_ble_eq_true rfl, Nat.le_of_ble_eq_true rfl⟩ hl.1 rfl (Nat.le_of_ble_eq_true rfl) dX12_ends_3 ⟨Nat.le_of_ble_eq_true rfl, Nat.le_of_ble_eq_true rfl⟩ [0, 1] [2] rfl rfl (by decide) rfl rfl (fun r_1 u_1 H locs w_1 h_1 => ?_)
  clear h
  obtain ⟨wr_1, w1_0, w1_1, w1_2, w1_3, y1_0, y1_1, y1_2, y1_3, y1_4, _⟩ := w_1
  have lq_1_1 : (30 : Int32).toInt = 30 := (by decide)
  replace h_1 : qW D _ _ (wk_1d090495b cy h2 f1 h0 p0 w0 w1 h1 h2 p1 (u_1.2.1 0 0) (u_1.2.1 1 0) p4 (u_1.2.1 2 0) (u_1.2.1 3 0) p7 p8 p9 p10 p11 w2 w3 w4 w5 w6 p12 p13 w7 w8 w9 p14 p15 w10 w11 w12 w13 w14 p16 w15 w16 w17 h1 f0) _ _ := h_1
  refine lv_if_ne (tgt := 14) hx hb dX12_ends_6 (by decide) (fun c_2 => ?_) (fun c_2 => ?_)
  · replace c_2 := i_ne (x := r_1) (y := 0) rfl (show (0 : Int32).toInt = 0 by decide) c_2
    replace y1_2 := a01_1 y1_2 c_2
    refine lv_aload_n hx hb dX12_ends_14 rfl (lv_at hl 0 rfl) ?_
    refine q_get X hK h_1 1 rfl rfl wf_12 4 (by decide) rfl wm_5_174 dX12_ends_15 ?_
    refine lv_iconst (v := 0) hx hb dX12_ends_18 (by decide) ?_
    refine lv_dup2_11 hx hb dX12_ends_19 rfl rfl ?_
    refine q_iald X hK h_1 0 rfl (q_in (by decide +kernel)) dX12_ends_20 ?_
    refine q_c p17 htf1_0 ?_
    refine lv_iconst (v := 1) hx hb dX12_ends_21 (by decide) ?_
    refine lv_iadd hx hb dX12_ends_22 ?_
    obtain ⟨z_3, ez_3, hz_3⟩ := e_add (x := p17) (y := 1) rfl (show (1 : Int32).toInt = 1 by decide) (by omega) (by omega)
    refine q_c z_3 ez_3 ?_
    clear ez_3
    refine q_iast X hK h_1 0 rfl (q_in (by decide +kernel)) dX12_ends_23 (fun H locs h_5 => ?_)
    clear h_1
    replace h_5 : qW D _ _ (wk_1d090495b cy h2 (upd f1 (Int32.toNatClampNeg 0) z_3) h0 p0 w0 w1 h1 h2 p1 (u_1.2.1 0 0) (u_1.2.1 1 0) p4 (u_1.2.1 2 0) (u_1.2.1 3 0) p7 p8 p9 p10 p11 w2 w3 w4 w5 w6 p12 p13 w7 w8 w9 p14 p15 w10 w11 w12 w13 w14 p16 w15 w16 w17 h1 f0) _ _ := h_5
    obtain ⟨F_4, eF_4⟩ : ∃ z, (upd f1 (Int32.toNatClampNeg 0) z_3) = z := ⟨_, rfl⟩
    have trF_4_0 := (tr_eq eF_4 (k := 0) (x := 0) (by decide))
    have trF_4_1 := (tr_ne eF_4 htf1_1 (show (0 : Int32).toInt = 0 by decide) (by omega))
    have trF_4_2 := (tr_ne eF_4 htf1_2 (show (0 : Int32).toInt = 0 by decide) (by omega))
    have trF_4_405 := (tr_ne eF_4 htf1_405 (show (0 : Int32).toInt = 0 by decide) (by omega))
    rw [eF_4] at h_5
    have hf_6 := hf_upd hpre3 eF_4 (by first | omega | decide)
    exact q_vret X hr hlk hK h_5 (fun _ => 0, (vcons F_4 (vcons (fun _ => z_3) (vcons (fun _ => (u_1.2.1 0 0)) (vcons (fun _ => (u_1.2.1 1 0)) (vcons (fun _ => (u_1.2.1 2 0)) (vcons (fun _ => (u_1.2.1 3 0)) (vcons (fun _ => p7) (vcons (fun _ => p8) (fun _ => (fun _ => 0)))))))))), fun _ _ => 0) ⟨(⟨by omega, by omega⟩ : 1 ≤ (z_3 : Int32).toInt ∧ (z_3 : Int32).toInt ≤ 902), w1_0, w1_1, w1_2, w1_3, hp7, hp8, trF_4_0, trF_4_1, trF_4_2, trF_4_405, y1_0, y1_1, (show (p2 : Int32).toInt ≤ ((u_1.2.1 0 0) : Int32).toInt from by (first | (clear hpre1 hpre2 y1_1 y1_4; omega) | omega)), (show (p7 : Int32).toInt ≠ 0 ∨ (p7 : Int32).toInt = 0 from (ne_or _)), (show (p7 : Int32).toInt ≠ 0 ∨ (p20 : Int32).toInt ≤ ((u_1.2.1 0 0) : Int32).toInt from by (first | (clear hpre1 hpre2 y1_1 y1_4; omega) | omega)), (show HF (p7 : Int32).toInt F_4 ((p20 : Int32).toInt).toNat from hf_w hf_6 (by (first | assumption | (clear hpre1 hpre2 y1_1 y1_4; omega) | omega))), (show (p7 : Int32).toInt ≠ 0 ∨ (p2 : Int32).toInt + 1 ≤ ((u_1.2.1 0 0) : Int32).toInt from by (first | (clear hpre1 hpre2 y1_1 y1_4; omega) | omega)), (show SIMR f0 (p4 : Int32).toInt (tak 59) (p2 : Int32).toInt (p3 : Int32).toInt (p5 : Int32).toInt (p6 : Int32).toInt (p7 : Int32).toInt (p8 : Int32).toInt ((u_1.2.1 0 0) : Int32).toInt ((u_1.2.1 1 0) : Int32).toInt ((u_1.2.1 2 0) : Int32).toInt ((u_1.2.1 3 0) : Int32).toInt (p7 : Int32).toInt (p8 : Int32).toInt from smr_tk1 (by (first | assumption | (clear hpre1 hpre2 y1_1 y1_4; omega) | omega)) vk59 mk59 (by (first | assumption | (clear hpre1 hpre2 y1_1 y1_4; omega) | omega)) (by (first | assumption | (clear hpre1 hpre2 y1_1 y1_4; omega) | omega)) (by (first | assumption | (clear hpre1 hpre2 y1_1 y1_4; omega) | omega)) (alt_r y1_3 (by (first | assumption | (clear hpre1 hpre2 y1_1 y1_4; omega) | omega))) (by (first | assumption | (clear hpre1 hpre2 y1_1 y1_4; omega) | omega))), (show (z_3 : Int32).toInt = (p17 : Int32).toInt + 1 from by (first | (clear hpre1 hpre2 y1_1 y1_4; omega) | omega)), trivial⟩ [1, 2, 0] rfl rfl dX12_ends_24 (Nat.le_of_ble_eq_true rfl) (Nat.le_of_ble_eq_true rfl)
  · replace c_2 := i_eq (x := r_1) (y := 0) rfl (show (0 : Int32).toInt = 0 by decide) c_2
    replace y1_2 := a01_0 y1_2 c_2
    obtain ⟨y1_2a, y1_2b, y1_2c, y1_2d⟩ := y1_2
    refine lv_aload_n hx hb dX12_ends_9 rfl (lv_at hl 0 rfl) ?_
    refine lv_iconst (v := 2) hx hb dX12_ends_10 (by decide) ?_
    refine q_callVv (rest := []) (wr := (wk_8c87e24ed cy h2 f1 h1 f0)) X hK hT hA h_1 (fun sz => gX12_fails_1e02d40 l D cy h0 p0 w0 w1 (.ref h1) (.ref h2) p1 (u_1.2.1 0 0) (u_1.2.1 1 0) p4 (u_1.2.1 2 0) (u_1.2.1 3 0) p7 p8 p9 p10 p11 w2 w3 w4 w5 w6 p12 p13 w7 w8 w9 p14 p15 w10 w11 w12 w13 w14 p16 w15 w16 w17 hp0 hp1 w1_0 w1_1 hp4 (i_rng _) w1_3 (i_rng _) (i_rng _) (i_rng _) (i_rng _) (i_rng _) (i_rng _) (i_rng _) (i_rng _) (i_rng _) (i_rng _) sz) wm_6_83 wm_6_86 wm_1_12 hd_X12_fails wm_6_85 wp_4_8 (ci := 12) (q0 := 0) rfl rfl ⟨Nat.le_of_ble_eq_true rfl, Nat.le_of_ble_eq_true rfl⟩ hl.1 rfl (Nat.le_of_ble_eq_true rfl) dX12_ends_11 ⟨Nat.le_of_ble_eq_true rfl, Nat.le_of_ble_eq_true rfl⟩ [1] [0, 2] rfl rfl (by decide) rfl rfl (fun u_7 H locs w_7 h_7 => ?_)
    clear h_1
    obtain ⟨w7_0, w7_1, y7_0, y7_1, _⟩ := w_7
    have lq_7_1 : (2 : Int32).toInt = 2 := (by decide)
    replace h_7 : qW D _ _ (wk_a24e8cc19 cy h2 f1 h1 f0 h0 p0 w0 w1 h1 h2 p1 (u_1.2.1 0 0) (u_1.2.1 1 0) p4 (u_1.2.1 2 0) (u_1.2.1 3 0) (u_7.2.1 0 0) (u_7.2.1 1 0) p9 p10 p11 w2 w3 w4 w5 w6 p12 p13 w7 w8 w9 p14 p15 w10 w11 w12 w13 w14 p16 w15 w16 w17) _ _ := h_7
    refine lv_aload_n hx hb dX12_ends_14 rfl (lv_at hl 0 rfl) ?_
    refine q_get X hK h_7 2 rfl rfl wf_12 4 (by decide) rfl wm_5_174 dX12_ends_15 ?_
    refine lv_iconst (v := 0) hx hb dX12_ends_18 (by decide) ?_
    refine lv_dup2_11 hx hb dX12_ends_19 rfl rfl ?_
    refine q_iald X hK h_7 0 rfl (q_in (by decide +kernel)) dX12_ends_20 ?_
    refine q_c p17 htf1_0 ?_
    refine lv_iconst (v := 1) hx hb dX12_ends_21 (by decide) ?_
    refine lv_iadd hx hb dX12_ends_22 ?_
    obtain ⟨z_8, ez_8, hz_8⟩ := e_add (x := p17) (y := 1) rfl (show (1 : Int32).toInt = 1 by decide) (by omega) (by omega)
    refine q_c z_8 ez_8 ?_
    clear ez_8
    refine q_iast X hK h_7 0 rfl (q_in (by decide +kernel)) dX12_ends_23 (fun H locs h_10 => ?_)
    clear h_7
    replace h_10 : qW D _ _ (wk_a24e8cc19 cy h2 (upd f1 (Int32.toNatClampNeg 0) z_8) h1 f0 h0 p0 w0 w1 h1 h2 p1 (u_1.2.1 0 0) (u_1.2.1 1 0) p4 (u_1.2.1 2 0) (u_1.2.1 3 0) (u_7.2.1 0 0) (u_7.2.1 1 0) p9 p10 p11 w2 w3 w4 w5 w6 p12 p13 w7 w8 w9 p14 p15 w10 w11 w12 w13 w14 p16 w15 w16 w17) _ _ := h_10
    obtain ⟨F_9, eF_9⟩ : ∃ z, (upd f1 (Int32.toNatClampNeg 0) z_8) = z := ⟨_, rfl⟩
    have trF_9_0 := (tr_eq eF_9 (k := 0) (x := 0) (by decide))
    have trF_9_1 := (tr_ne eF_9 htf1_1 (show (0 : Int32).toInt = 0 by decide) (by omega))
    have trF_9_2 := (tr_ne eF_9 htf1_2 (show (0 : Int32).toInt = 0 by decide) (by omega))
    have trF_9_405 := (tr_ne eF_9 htf1_405 (show (0 : Int32).toInt = 0 by decide) (by omega))
    rw [eF_9] at h_10
    have hf_11 := hf_upd hpre3 eF_9 (by first | omega | decide)
    exact q_vret X hr hlk hK h_10 (fun _ => 0, (vcons F_9 (vcons (fun _ => z_8) (vcons (fun _ => (u_1.2.1 0 0)) (vcons (fun _ => (u_1.2.1 1 0)) (vcons (fun _ => (u_1.2.1 2 0)) (vcons (fun _ => (u_1.2.1 3 0)) (vcons (fun _ => (u_7.2.1 0 0)) (vcons (fun _ => (u_7.2.1 1 0)) (fun _ => (fun _ => 0)))))))))), fun _ _ => 0) ⟨(⟨by omega, by omega⟩ : 1 ≤ (z_8 : Int32).toInt ∧ (z_8 : Int32).toInt ≤ 902), w1_0, w1_1, w1_2, w1_3, w7_0, w7_1, trF_9_0, trF_9_1, trF_9_2, trF_9_405, y1_0, y1_1, (show (p2 : Int32).toInt ≤ ((u_1.2.1 0 0) : Int32).toInt from by (first | (clear hpre1 hpre2 y1_1 y1_4 y1_2d; omega) | omega)), (show ((u_7.2.1 0 0) : Int32).toInt ≠ 0 ∨ (p7 : Int32).toInt = 0 from by (first | (clear hpre1 hpre2 y1_1 y1_4 y1_2d; omega) | omega)), (show ((u_7.2.1 0 0) : Int32).toInt ≠ 0 ∨ (p20 : Int32).toInt ≤ ((u_1.2.1 0 0) : Int32).toInt from by (first | (clear hpre1 hpre2 y1_1 y1_4 y1_2d; omega) | omega)), (show HF ((u_7.2.1 0 0) : Int32).toInt F_9 ((p20 : Int32).toInt).toNat from hf_w hf_11 (by (first | assumption | (clear hpre1 hpre2 y1_1 y1_4 y1_2d; omega) | omega))), (show ((u_7.2.1 0 0) : Int32).toInt ≠ 0 ∨ (p2 : Int32).toInt + 1 ≤ ((u_1.2.1 0 0) : Int32).toInt from by (first | (clear hpre1 hpre2 y1_1 y1_4 y1_2d; omega) | omega)), (show SIMR f0 (p4 : Int32).toInt (tak 59) (p2 : Int32).toInt (p3 : Int32).toInt (p5 : Int32).toInt (p6 : Int32).toInt (p7 : Int32).toInt (p8 : Int32).toInt ((u_1.2.1 0 0) : Int32).toInt ((u_1.2.1 1 0) : Int32).toInt ((u_1.2.1 2 0) : Int32).toInt ((u_1.2.1 3 0) : Int32).toInt ((u_7.2.1 0 0) : Int32).toInt ((u_7.2.1 1 0) : Int32).toInt from smr_tkn (by (first | assumption | (clear hpre1 hpre2 y1_1 y1_4 y1_2d; omega) | omega)) (by (first | assumption | (clear hpre1 hpre2 y1_1 y1_4 y1_2d; omega) | omega)) (by (first | assumption | (clear hpre1 hpre2 y1_1 y1_4 y1_2d; omega) | omega)) (by (first | assumption | (clear hpre1 hpre2 y1_1 y1_4 y1_2d; omega) | omega)) (by (first | assumption | (clear hpre1 hpre2 y1_1 y1_4 y1_2d; omega) | omega)) mk59 y7_1), (show (z_8 : Int32).toInt = (p17 : Int32).toInt + 1 from by (first | (clear hpre1 hpre2 y1_1 y1_4 y1_2d; omega) | omega)), trivial⟩ [2, 1, 0] rfl rfl dX12_ends_24 (Nat.le_of_ble_eq_true rfl) (Nat.le_of_ble_eq_true rfl)
set_option maxHeartbeats 4000000 in
set_option maxRecDepth 100000 in
theorem gX12_is_fe57bf5 (l : Launch) (D : va_G) (cy : Nat → ClassId) (h0 : Nat) (p0 : Int32) (w0 : Value) (w1 : Value) (w2 : Value) (w3 : Value) (p1 : Int32) (p2 : Int32) (p3 : Int32) (p4 : Int32) (p5 : Int32) (p6 : Int32) (p7 : Int32) (p8 : Int32) (p9 : Int32) (p10 : Int32) (p11 : Int32) (w4 : Value) (w5 : Value) (w6 : Value) (w7 : Value) (w8 : Value) (p12 : Int32) (p13 : Int32) (w9 : Value) (w10 : Value) (w11 : Value) (p14 : Int32) (p15 : Int32) (w12 : Value) (w13 : Value) (w14 : Value) (w15 : Value) (w16 : Value) (p16 : Int32) (w17 : Value) (w18 : Value) (w19 : Value) (hp0 : 0 ≤ (p0).toInt ∧ (p0).toInt ≤ 0) (hp1 : 0 ≤ (p1).toInt ∧ (p1).toInt ≤ 900) (hp2 : 0 ≤ (p2).toInt ∧ (p2).toInt ≤ 900) (hp3 : 0 ≤ (p3).toInt ∧ (p3).toInt ≤ 900) (hp4 : 0 ≤ (p4).toInt ∧ (p4).toInt ≤ 900) (hp5 : (-2147483648) ≤ (p5).toInt ∧ (p5).toInt ≤ 2147483647) (hp6 : 0 ≤ (p6).toInt ∧ (p6).toInt ≤ 999) (hp7 : (-2147483648) ≤ (p7).toInt ∧ (p7).toInt ≤ 2147483647) (hp8 : (-2147483648) ≤ (p8).toInt ∧ (p8).toInt ≤ 2147483647) (hp9 : (-2147483648) ≤ (p9).toInt ∧ (p9).toInt ≤ 2147483647) (hp10 : (-2147483648) ≤ (p10).toInt ∧ (p10).toInt ≤ 2147483647) (hp11 : (-2147483648) ≤ (p11).toInt ∧ (p11).toInt ≤ 2147483647) (hp12 : (-2147483648) ≤ (p12).toInt ∧ (p12).toInt ≤ 2147483647) (hp13 : (-2147483648) ≤ (p13).toInt ∧ (p13).toInt ≤ 2147483647) (hp14 : (-2147483648) ≤ (p14).toInt ∧ (p14).toInt ≤ 2147483647) (hp15 : (-2147483648) ≤ (p15).toInt ∧ (p15).toInt ≤ 2147483647) (hp16 : (-2147483648) ≤ (p16).toInt ∧ (p16).toInt ≤ 2147483647) (sz : Nat) : MI l yX12_is cX12_is 2 .boolean { frames := 0, cells := 0, slots := 0, locals := 0 } [.ref h0, .int 2] D cy [(h0, .inr (12, [.int p0, w0, w1, w2, w3, .int p1, .int p2, .int p3, .int p4, .int p5, .int p6, .int p7, .int p8, .int p9, .int p10, .int p11, w4, w5, w6, w7, w8, .int p12, .int p13, w9, w10, w11, .int p14, .int p15, w12, w13, w14, w15, w16, .int p16, w17, w18, w19]))] sz (fun r u => (0 ≤ r.toInt ∧ r.toInt ≤ 1) ∧ (((r : Int32).toInt = 1 ∧ (p7 : Int32).toInt = 0 ∧ (p5 : Int32).toInt = (2 : Int32).toInt) ∨ ((r : Int32).toInt = 0 ∧ ((p7 : Int32).toInt ≠ 0 ∨ (p5 : Int32).toInt ≠ (2 : Int32).toInt))) ∧ True) (fun u => [(h0, .inr (12, [.int p0, w0, w1, w2, w3, .int p1, .int p2, .int p3, .int p4, .int p5, .int p6, .int p7, .int p8, .int p9, .int p10, .int p11, w4, w5, w6, w7, w8, .int p12, .int p13, w9, w10, w11, .int p14, .int p15, w12, w13, w14, w15, w16, .int p16, w17, w18, w19]))]) 0 0 := by
  refine q_ent (own := RX12) (by decide) rfl (Nat.le_of_ble_eq_true rfl) (fun p e s m below meth c ls X hr hlk hnm hK hT h hA hl => ?_)
  obtain ⟨hx, hb, hml, hown, ht⟩ := id X
  replace hl : lv_has ls 2 [(0, .ref h0), (1, .int 2)] := hl
  refine lv_aload_n hx hb dX12_is_0 rfl (lv_at hl 0 rfl) ?_
  refine q_get X hK h 0 rfl rfl wf_12 11 (by decide) rfl wm_5_181 dX12_is_1 ?_
  refine lv_if_ne (tgt := 19) hx hb dX12_is_4 (by decide) (fun c_1 => ?_) (fun c_1 => ?_)
  · replace c_1 := i_ne (x := p7) (y := 0) rfl (show (0 : Int32).toInt = 0 by decide) c_1
    refine lv_iconst (v := 0) hx hb dX12_is_19 (by decide) ?_
    exact q_iret X hr hlk hK h rfl (fun _ => 0, fun _ _ => 0, fun _ _ => 0) ⟨⟨by decide +kernel, by decide +kernel⟩, (show ((0 : Int32).toInt = 1 ∧ (p7 : Int32).toInt = 0 ∧ (p5 : Int32).toInt = (2 : Int32).toInt) ∨ ((0 : Int32).toInt = 0 ∧ ((p7 : Int32).toInt ≠ 0 ∨ (p5 : Int32).toInt ≠ (2 : Int32).toInt)) from by have q0 : (0 : Int32).toInt = 0 := (by decide); have q1 : (2 : Int32).toInt = 2 := (by decide); omega), trivial⟩ [0] rfl rfl dX12_is_20 (Nat.le_of_ble_eq_true rfl) (Nat.le_of_ble_eq_true rfl)
  · replace c_1 := i_eq (x := p7) (y := 0) rfl (show (0 : Int32).toInt = 0 by decide) c_1
    refine lv_aload_n hx hb dX12_is_7 rfl (lv_at hl 0 rfl) ?_
    refine q_get X hK h 0 rfl rfl wf_12 9 (by decide) rfl wm_5_179 dX12_is_8 ?_
    refine lv_iload_n hx hb dX12_is_11 rfl (lv_at hl 1 rfl) ?_
    refine lv_icmp_ne (tgt := 19) hx hb dX12_is_12 (by decide) (fun c_2 => ?_) (fun c_2 => ?_)
    · replace c_2 := i_ne (x := p5) (y := 2) rfl (show (2 : Int32).toInt = 2 by decide) c_2
      refine lv_iconst (v := 0) hx hb dX12_is_19 (by decide) ?_
      exact q_iret X hr hlk hK h rfl (fun _ => 0, fun _ _ => 0, fun _ _ => 0) ⟨⟨by decide +kernel, by decide +kernel⟩, (show ((0 : Int32).toInt = 1 ∧ (p7 : Int32).toInt = 0 ∧ (p5 : Int32).toInt = (2 : Int32).toInt) ∨ ((0 : Int32).toInt = 0 ∧ ((p7 : Int32).toInt ≠ 0 ∨ (p5 : Int32).toInt ≠ (2 : Int32).toInt)) from by have q0 : (0 : Int32).toInt = 0 := (by decide); have q1 : (2 : Int32).toInt = 2 := (by decide); omega), trivial⟩ [0] rfl rfl dX12_is_20 (Nat.le_of_ble_eq_true rfl) (Nat.le_of_ble_eq_true rfl)
    · replace c_2 := i_eq (x := p5) (y := 2) rfl (show (2 : Int32).toInt = 2 by decide) c_2
      refine lv_iconst (v := 1) hx hb dX12_is_15 (by decide) ?_
      refine lv_goto (tgt := 20) hx hb dX12_is_16 (by decide) ?_
      exact q_iret X hr hlk hK h rfl (fun _ => 0, fun _ _ => 0, fun _ _ => 0) ⟨⟨by decide +kernel, by decide +kernel⟩, (show ((1 : Int32).toInt = 1 ∧ (p7 : Int32).toInt = 0 ∧ (p5 : Int32).toInt = (2 : Int32).toInt) ∨ ((1 : Int32).toInt = 0 ∧ ((p7 : Int32).toInt ≠ 0 ∨ (p5 : Int32).toInt ≠ (2 : Int32).toInt)) from by have q0 : (1 : Int32).toInt = 1 := (by decide); have q1 : (2 : Int32).toInt = 2 := (by decide); omega), trivial⟩ [0] rfl rfl dX12_is_20 (Nat.le_of_ble_eq_true rfl) (Nat.le_of_ble_eq_true rfl)
set_option maxHeartbeats 4000000 in
set_option maxRecDepth 100000 in
theorem gX12_is_6e93195 (l : Launch) (D : va_G) (cy : Nat → ClassId) (h0 : Nat) (p0 : Int32) (w0 : Value) (w1 : Value) (w2 : Value) (w3 : Value) (p1 : Int32) (p2 : Int32) (p3 : Int32) (p4 : Int32) (p5 : Int32) (p6 : Int32) (p7 : Int32) (p8 : Int32) (p9 : Int32) (p10 : Int32) (p11 : Int32) (w4 : Value) (w5 : Value) (w6 : Value) (w7 : Value) (w8 : Value) (p12 : Int32) (p13 : Int32) (w9 : Value) (w10 : Value) (w11 : Value) (p14 : Int32) (p15 : Int32) (w12 : Value) (w13 : Value) (w14 : Value) (w15 : Value) (w16 : Value) (p16 : Int32) (w17 : Value) (w18 : Value) (w19 : Value) (hp0 : 0 ≤ (p0).toInt ∧ (p0).toInt ≤ 0) (hp1 : 0 ≤ (p1).toInt ∧ (p1).toInt ≤ 900) (hp2 : 0 ≤ (p2).toInt ∧ (p2).toInt ≤ 900) (hp3 : 0 ≤ (p3).toInt ∧ (p3).toInt ≤ 900) (hp4 : 0 ≤ (p4).toInt ∧ (p4).toInt ≤ 900) (hp5 : (-2147483648) ≤ (p5).toInt ∧ (p5).toInt ≤ 2147483647) (hp6 : 0 ≤ (p6).toInt ∧ (p6).toInt ≤ 999) (hp7 : (-2147483648) ≤ (p7).toInt ∧ (p7).toInt ≤ 2147483647) (hp8 : (-2147483648) ≤ (p8).toInt ∧ (p8).toInt ≤ 2147483647) (hp9 : (-2147483648) ≤ (p9).toInt ∧ (p9).toInt ≤ 2147483647) (hp10 : (-2147483648) ≤ (p10).toInt ∧ (p10).toInt ≤ 2147483647) (hp11 : (-2147483648) ≤ (p11).toInt ∧ (p11).toInt ≤ 2147483647) (hp12 : (-2147483648) ≤ (p12).toInt ∧ (p12).toInt ≤ 2147483647) (hp13 : (-2147483648) ≤ (p13).toInt ∧ (p13).toInt ≤ 2147483647) (hp14 : (-2147483648) ≤ (p14).toInt ∧ (p14).toInt ≤ 2147483647) (hp15 : (-2147483648) ≤ (p15).toInt ∧ (p15).toInt ≤ 2147483647) (hp16 : (-2147483648) ≤ (p16).toInt ∧ (p16).toInt ≤ 2147483647) (sz : Nat) : MI l yX12_is cX12_is 2 .boolean { frames := 0, cells := 0, slots := 0, locals := 0 } [.ref h0, .int 10] D cy [(h0, .inr (12, [.int p0, w0, w1, w2, w3, .int p1, .int p2, .int p3, .int p4, .int p5, .int p6, .int p7, .int p8, .int p9, .int p10, .int p11, w4, w5, w6, w7, w8, .int p12, .int p13, w9, w10, w11, .int p14, .int p15, w12, w13, w14, w15, w16, .int p16, w17, w18, w19]))] sz (fun r u => (0 ≤ r.toInt ∧ r.toInt ≤ 1) ∧ (((r : Int32).toInt = 1 ∧ (p7 : Int32).toInt = 0 ∧ (p5 : Int32).toInt = (10 : Int32).toInt) ∨ ((r : Int32).toInt = 0 ∧ ((p7 : Int32).toInt ≠ 0 ∨ (p5 : Int32).toInt ≠ (10 : Int32).toInt))) ∧ True) (fun u => [(h0, .inr (12, [.int p0, w0, w1, w2, w3, .int p1, .int p2, .int p3, .int p4, .int p5, .int p6, .int p7, .int p8, .int p9, .int p10, .int p11, w4, w5, w6, w7, w8, .int p12, .int p13, w9, w10, w11, .int p14, .int p15, w12, w13, w14, w15, w16, .int p16, w17, w18, w19]))]) 0 0 := by
  refine q_ent (own := RX12) (by decide) rfl (Nat.le_of_ble_eq_true rfl) (fun p e s m below meth c ls X hr hlk hnm hK hT h hA hl => ?_)
  obtain ⟨hx, hb, hml, hown, ht⟩ := id X
  replace hl : lv_has ls 2 [(0, .ref h0), (1, .int 10)] := hl
  refine lv_aload_n hx hb dX12_is_0 rfl (lv_at hl 0 rfl) ?_
  refine q_get X hK h 0 rfl rfl wf_12 11 (by decide) rfl wm_5_181 dX12_is_1 ?_
  refine lv_if_ne (tgt := 19) hx hb dX12_is_4 (by decide) (fun c_1 => ?_) (fun c_1 => ?_)
  · replace c_1 := i_ne (x := p7) (y := 0) rfl (show (0 : Int32).toInt = 0 by decide) c_1
    refine lv_iconst (v := 0) hx hb dX12_is_19 (by decide) ?_
    exact q_iret X hr hlk hK h rfl (fun _ => 0, fun _ _ => 0, fun _ _ => 0) ⟨⟨by decide +kernel, by decide +kernel⟩, (show ((0 : Int32).toInt = 1 ∧ (p7 : Int32).toInt = 0 ∧ (p5 : Int32).toInt = (10 : Int32).toInt) ∨ ((0 : Int32).toInt = 0 ∧ ((p7 : Int32).toInt ≠ 0 ∨ (p5 : Int32).toInt ≠ (10 : Int32).toInt)) from by have q0 : (0 : Int32).toInt = 0 := (by decide); have q1 : (10 : Int32).toInt = 10 := (by decide); omega), trivial⟩ [0] rfl rfl dX12_is_20 (Nat.le_of_ble_eq_true rfl) (Nat.le_of_ble_eq_true rfl)
  · replace c_1 := i_eq (x := p7) (y := 0) rfl (show (0 : Int32).toInt = 0 by decide) c_1
    refine lv_aload_n hx hb dX12_is_7 rfl (lv_at hl 0 rfl) ?_
    refine q_get X hK h 0 rfl rfl wf_12 9 (by decide) rfl wm_5_179 dX12_is_8 ?_
    refine lv_iload_n hx hb dX12_is_11 rfl (lv_at hl 1 rfl) ?_
    refine lv_icmp_ne (tgt := 19) hx hb dX12_is_12 (by decide) (fun c_2 => ?_) (fun c_2 => ?_)
    · replace c_2 := i_ne (x := p5) (y := 10) rfl (show (10 : Int32).toInt = 10 by decide) c_2
      refine lv_iconst (v := 0) hx hb dX12_is_19 (by decide) ?_
      exact q_iret X hr hlk hK h rfl (fun _ => 0, fun _ _ => 0, fun _ _ => 0) ⟨⟨by decide +kernel, by decide +kernel⟩, (show ((0 : Int32).toInt = 1 ∧ (p7 : Int32).toInt = 0 ∧ (p5 : Int32).toInt = (10 : Int32).toInt) ∨ ((0 : Int32).toInt = 0 ∧ ((p7 : Int32).toInt ≠ 0 ∨ (p5 : Int32).toInt ≠ (10 : Int32).toInt)) from by have q0 : (0 : Int32).toInt = 0 := (by decide); have q1 : (10 : Int32).toInt = 10 := (by decide); omega), trivial⟩ [0] rfl rfl dX12_is_20 (Nat.le_of_ble_eq_true rfl) (Nat.le_of_ble_eq_true rfl)
    · replace c_2 := i_eq (x := p5) (y := 10) rfl (show (10 : Int32).toInt = 10 by decide) c_2
      refine lv_iconst (v := 1) hx hb dX12_is_15 (by decide) ?_
      refine lv_goto (tgt := 20) hx hb dX12_is_16 (by decide) ?_
      exact q_iret X hr hlk hK h rfl (fun _ => 0, fun _ _ => 0, fun _ _ => 0) ⟨⟨by decide +kernel, by decide +kernel⟩, (show ((1 : Int32).toInt = 1 ∧ (p7 : Int32).toInt = 0 ∧ (p5 : Int32).toInt = (10 : Int32).toInt) ∨ ((1 : Int32).toInt = 0 ∧ ((p7 : Int32).toInt ≠ 0 ∨ (p5 : Int32).toInt ≠ (10 : Int32).toInt)) from by have q0 : (1 : Int32).toInt = 1 := (by decide); have q1 : (10 : Int32).toInt = 10 := (by decide); omega), trivial⟩ [0] rfl rfl dX12_is_20 (Nat.le_of_ble_eq_true rfl) (Nat.le_of_ble_eq_true rfl)
set_option maxHeartbeats 4000000 in
set_option maxRecDepth 100000 in
theorem gX12_eats_dbe8d69 (l : Launch) (D : va_G) (cy : Nat → ClassId) (h0 : Nat) (h1 : Nat) (p0 : Int32) (w0 : Value) (w1 : Value) (w2 : Value) (p1 : Int32) (p2 : Int32) (p3 : Int32) (p4 : Int32) (p5 : Int32) (p6 : Int32) (p7 : Int32) (p8 : Int32) (p9 : Int32) (p10 : Int32) (p11 : Int32) (w3 : Value) (w4 : Value) (w5 : Value) (w6 : Value) (w7 : Value) (p12 : Int32) (p13 : Int32) (w8 : Value) (w9 : Value) (w10 : Value) (p14 : Int32) (p15 : Int32) (w11 : Value) (w12 : Value) (w13 : Value) (w14 : Value) (w15 : Value) (p16 : Int32) (w16 : Value) (w17 : Value) (w18 : Value) (f0 : Nat → Int32) (hp0 : 0 ≤ (p0).toInt ∧ (p0).toInt ≤ 0) (hp1 : 0 ≤ (p1).toInt ∧ (p1).toInt ≤ 900) (hp2 : 0 ≤ (p2).toInt ∧ (p2).toInt ≤ 900) (hp3 : 0 ≤ (p3).toInt ∧ (p3).toInt ≤ 900) (hp4 : 0 ≤ (p4).toInt ∧ (p4).toInt ≤ 900) (hp5 : (-2147483648) ≤ (p5).toInt ∧ (p5).toInt ≤ 2147483647) (hp6 : 0 ≤ (p6).toInt ∧ (p6).toInt ≤ 999) (hp7 : (-2147483648) ≤ (p7).toInt ∧ (p7).toInt ≤ 2147483647) (hp8 : (-2147483648) ≤ (p8).toInt ∧ (p8).toInt ≤ 2147483647) (hp9 : (-2147483648) ≤ (p9).toInt ∧ (p9).toInt ≤ 2147483647) (hp10 : (-2147483648) ≤ (p10).toInt ∧ (p10).toInt ≤ 2147483647) (hp11 : (-2147483648) ≤ (p11).toInt ∧ (p11).toInt ≤ 2147483647) (hp12 : (-2147483648) ≤ (p12).toInt ∧ (p12).toInt ≤ 2147483647) (hp13 : (-2147483648) ≤ (p13).toInt ∧ (p13).toInt ≤ 2147483647) (hp14 : (-2147483648) ≤ (p14).toInt ∧ (p14).toInt ≤ 2147483647) (hp15 : (-2147483648) ≤ (p15).toInt ∧ (p15).toInt ≤ 2147483647) (hp16 : (-2147483648) ≤ (p16).toInt ∧ (p16).toInt ≤ 2147483647) (hpre0 : 0 ≤ (p2 : Int32).toInt ∧ (p2 : Int32).toInt ≤ (p3 : Int32).toInt ∧ (p3 : Int32).toInt ≤ (p4 : Int32).toInt) (hpre1 : (p5 : Int32).toInt = 26 ∨ (p2 : Int32).toInt < (p3 : Int32).toInt) (sz : Nat) : MI l yX12_eats cX12_eats 2 .boolean { frames := 6, cells := 0, slots := 0, locals := 129 } [.ref h0, .int 10] D cy (wk_253faa1b8 cy h0 p0 w0 w1 h1 w2 p1 p2 p3 p4 p5 p6 p7 p8 p9 p10 p11 w3 w4 w5 w6 w7 p12 p13 w8 w9 w10 p14 p15 w11 w12 w13 w14 w15 p16 w16 w17 w18 h1 f0) sz (fun r u => (0 ≤ r.toInt ∧ r.toInt ≤ 1) ∧ (0 ≤ (u.2.1 0 0).toInt ∧ (u.2.1 0 0).toInt ≤ 900) ∧ (0 ≤ (u.2.1 1 0).toInt ∧ (u.2.1 1 0).toInt ≤ 900) ∧ ((-2147483648) ≤ (u.2.1 2 0).toInt ∧ (u.2.1 2 0).toInt ≤ 2147483647) ∧ (0 ≤ (u.2.1 3 0).toInt ∧ (u.2.1 3 0).toInt ≤ 999) ∧ (0 ≤ ((u.2.1 0 0) : Int32).toInt ∧ ((u.2.1 0 0) : Int32).toInt ≤ ((u.2.1 1 0) : Int32).toInt ∧ ((u.2.1 1 0) : Int32).toInt ≤ (p4 : Int32).toInt) ∧ (((u.2.1 2 0) : Int32).toInt = 26 ∨ ((u.2.1 0 0) : Int32).toInt < ((u.2.1 1 0) : Int32).toInt) ∧ (((r : Int32).toInt = 0 ∧ ((u.2.1 0 0) : Int32).toInt = (p2 : Int32).toInt ∧ ((u.2.1 1 0) : Int32).toInt = (p3 : Int32).toInt ∧ ((u.2.1 2 0) : Int32).toInt = (p5 : Int32).toInt ∧ ((p7 : Int32).toInt ≠ 0 ∨ ((u.2.1 2 0) : Int32).toInt ≠ (10 : Int32).toInt)) ∨ ((r : Int32).toInt = 1 ∧ (p3 : Int32).toInt ≤ ((u.2.1 0 0) : Int32).toInt ∧ (p7 : Int32).toInt = 0 ∧ (p5 : Int32).toInt = (10 : Int32).toInt)) ∧ (ALT (r : Int32).toInt 0 1 (((u.2.1 3 0) : Int32).toInt = (p6 : Int32).toInt) (NXR f0 (p4 : Int32).toInt (p3 : Int32).toInt ((u.2.1 0 0) : Int32).toInt ((u.2.1 1 0) : Int32).toInt ((u.2.1 2 0) : Int32).toInt ((u.2.1 3 0) : Int32).toInt)) ∧ ((r : Int32).toInt = 1 ∨ ((u.2.1 3 0) : Int32).toInt = (p6 : Int32).toInt) ∧ True) (fun u => (wk_253faa1b8 cy h0 p0 w0 w1 h1 w2 p1 (u.2.1 0 0) (u.2.1 1 0) p4 (u.2.1 2 0) (u.2.1 3 0) p7 p8 p9 p10 p11 w3 w4 w5 w6 w7 p12 p13 w8 w9 w10 p14 p15 w11 w12 w13 w14 w15 p16 w16 w17 w18 h1 f0)) 0 0 := by
  refine q_ent (own := RX12) (by decide) rfl (Nat.le_of_ble_eq_true rfl) (fun p e s m below meth c ls X hr hlk hnm hK hT h hA hl => ?_)
  obtain ⟨hx, hb, hml, hown, ht⟩ := id X
  replace hl : lv_has ls 2 [(0, .ref h0), (1, .int 10)] := hl
  refine lv_aload_n hx hb dX12_eats_0 rfl (lv_at hl 0 rfl) ?_
  refine lv_iload_n hx hb dX12_eats_1 rfl (lv_at hl 1 rfl) ?_
  refine q_callVi (rest := []) (wr := [(h1, .inl (cy 1, 900, .inl f0))]) X hK hT hA h (fun sz => gX12_is_6e93195 l D cy h0 p0 w0 w1 (.ref h1) w2 p1 p2 p3 p4 p5 p6 p7 p8 p9 p10 p11 w3 w4 w5 w6 w7 p12 p13 w8 w9 w10 p14 p15 w11 w12 w13 w14 w15 p16 w16 w17 w18 hp0 hp1 hp2 hp3 hp4 (i_rng _) hp6 (i_rng _) (i_rng _) (i_rng _) (i_rng _) (i_rng _) (i_rng _) (i_rng _) (i_rng _) (i_rng _) (i_rng _) sz) wm_6_79 wm_6_82 wm_1_12 hd_X12_is wm_6_81 wp_4_7 (ci := 12) (q0 := 0) rfl rfl ⟨Nat.le_of_ble_eq_true rfl, Nat.le_of_ble_eq_true rfl⟩ hl.1 rfl (Nat.le_of_ble_eq_true rfl) dX12_eats_2 ⟨Nat.le_of_ble_eq_true rfl, Nat.le_of_ble_eq_true rfl⟩ [0] [1] rfl rfl (by decide) rfl rfl (fun r_1 u_1 H locs w_1 h_1 => ?_)
  clear h
  obtain ⟨wr_1, y1_0, _⟩ := w_1
  have lq_1_1 : (10 : Int32).toInt = 10 := (by decide)
  replace h_1 : qW D _ _ (wk_e69636a28 cy h1 f0 h0 p0 w0 w1 h1 w2 p1 p2 p3 p4 p5 p6 p7 p8 p9 p10 p11 w3 w4 w5 w6 w7 p12 p13 w8 w9 w10 p14 p15 w11 w12 w13 w14 w15 p16 w16 w17 w18) _ _ := h_1
  refine lv_if_ne (tgt := 10) hx hb dX12_eats_5 (by decide) (fun c_2 => ?_) (fun c_2 => ?_)
  · replace c_2 := i_ne (x := r_1) (y := 0) rfl (show (0 : Int32).toInt = 0 by decide) c_2
    replace y1_0 := a10_1 y1_0 c_2
    refine lv_aload_n hx hb dX12_eats_10 rfl (lv_at hl 0 rfl) ?_
    refine q_callVv (rest := []) (wr := []) X hK hT hA h_1 (fun sz => gX12_next_c515fc5 l D cy h0 h1 p0 w0 w1 w2 p1 p2 p3 p4 p5 p6 p7 p8 p9 p10 p11 w3 w4 w5 w6 w7 p12 p13 w8 w9 w10 p14 p15 w11 w12 w13 w14 w15 p16 w16 w17 w18 f0 hp0 hp1 hp2 hp3 hp4 (i_rng _) hp6 (i_rng _) (i_rng _) (i_rng _) (i_rng _) (i_rng _) (i_rng _) (i_rng _) (i_rng _) (i_rng _) (i_rng _) (by (first | (clear hpre1; omega) | omega)) sz) wm_6_53 wm_6_56 wm_1_12 hd_X12_next wm_6_55 wp_4_3 (ci := 12) (q0 := 0) rfl rfl ⟨Nat.le_of_ble_eq_true rfl, Nat.le_of_ble_eq_true rfl⟩ hl.1 rfl (Nat.le_of_ble_eq_true rfl) dX12_eats_11 ⟨Nat.le_of_ble_eq_true rfl, Nat.le_of_ble_eq_true rfl⟩ [1, 0] [] rfl rfl (by decide) rfl rfl (fun u_3 H locs w_3 h_3 => ?_)
    clear h_1
    obtain ⟨w3_0, w3_1, w3_2, w3_3, y3_0, y3_1, y3_2, y3_3, _⟩ := w_3
    replace h_3 : qW D _ _ (wk_253faa1b8 cy h0 p0 w0 w1 h1 w2 p1 (u_3.2.1 0 0) (u_3.2.1 1 0) p4 (u_3.2.1 2 0) (u_3.2.1 3 0) p7 p8 p9 p10 p11 w3 w4 w5 w6 w7 p12 p13 w8 w9 w10 p14 p15 w11 w12 w13 w14 w15 p16 w16 w17 w18 h1 f0) _ _ := h_3
    refine lv_iconst (v := 1) hx hb dX12_eats_14 (by decide) ?_
    exact q_iret X hr hlk hK h_3 rfl (fun _ => 0, (vcons (fun _ => (u_3.2.1 0 0)) (vcons (fun _ => (u_3.2.1 1 0)) (vcons (fun _ => (u_3.2.1 2 0)) (vcons (fun _ => (u_3.2.1 3 0)) (fun _ => (fun _ => 0)))))), fun _ _ => 0) ⟨⟨by decide +kernel, by decide +kernel⟩, w3_0, w3_1, (bw w3_2 (by decide) (by decide)), w3_3, y3_0, y3_1, (show ((1 : Int32).toInt = 0 ∧ ((u_3.2.1 0 0) : Int32).toInt = (p2 : Int32).toInt ∧ ((u_3.2.1 1 0) : Int32).toInt = (p3 : Int32).toInt ∧ ((u_3.2.1 2 0) : Int32).toInt = (p5 : Int32).toInt ∧ ((p7 : Int32).toInt ≠ 0 ∨ ((u_3.2.1 2 0) : Int32).toInt ≠ (10 : Int32).toInt)) ∨ ((1 : Int32).toInt = 1 ∧ (p3 : Int32).toInt ≤ ((u_3.2.1 0 0) : Int32).toInt ∧ (p7 : Int32).toInt = 0 ∧ (p5 : Int32).toInt = (10 : Int32).toInt) from by have q0 : (1 : Int32).toInt = 1 := (by decide); have q1 : (10 : Int32).toInt = 10 := (by decide); (first | (clear hpre1 y3_1; omega) | omega)), (show ALT (1 : Int32).toInt 0 1 (((u_3.2.1 3 0) : Int32).toInt = (p6 : Int32).toInt) (NXR f0 (p4 : Int32).toInt (p3 : Int32).toInt ((u_3.2.1 0 0) : Int32).toInt ((u_3.2.1 1 0) : Int32).toInt ((u_3.2.1 2 0) : Int32).toInt ((u_3.2.1 3 0) : Int32).toInt) from alt_2 (by decide) y3_3), (show (1 : Int32).toInt = 1 ∨ ((u_3.2.1 3 0) : Int32).toInt = (p6 : Int32).toInt from by have q0 : (1 : Int32).toInt = 1 := (by decide); (first | (clear hpre1 y3_1; omega) | omega)), trivial⟩ [0, 1] rfl rfl dX12_eats_15 (Nat.le_of_ble_eq_true rfl) (Nat.le_of_ble_eq_true rfl)
  · replace c_2 := i_eq (x := r_1) (y := 0) rfl (show (0 : Int32).toInt = 0 by decide) c_2
    replace y1_0 := a10_0 y1_0 c_2
    refine lv_iconst (v := 0) hx hb dX12_eats_8 (by decide) ?_
    exact q_iret X hr hlk hK h_1 rfl (fun _ => 0, (vcons (fun _ => p2) (vcons (fun _ => p3) (vcons (fun _ => p5) (vcons (fun _ => p6) (fun _ => (fun _ => 0)))))), fun _ _ => 0) ⟨⟨by decide +kernel, by decide +kernel⟩, hp2, hp3, hp5, hp6, hpre0, hpre1, (show ((0 : Int32).toInt = 0 ∧ (p2 : Int32).toInt = (p2 : Int32).toInt ∧ (p3 : Int32).toInt = (p3 : Int32).toInt ∧ (p5 : Int32).toInt = (p5 : Int32).toInt ∧ ((p7 : Int32).toInt ≠ 0 ∨ (p5 : Int32).toInt ≠ (10 : Int32).toInt)) ∨ ((0 : Int32).toInt = 1 ∧ (p3 : Int32).toInt ≤ (p2 : Int32).toInt ∧ (p7 : Int32).toInt = 0 ∧ (p5 : Int32).toInt = (10 : Int32).toInt) from by have q0 : (0 : Int32).toInt = 0 := (by decide); have q1 : (10 : Int32).toInt = 10 := (by decide); (first | (clear hpre1 y1_0; omega) | omega)), (show ALT (0 : Int32).toInt 0 1 ((p6 : Int32).toInt = (p6 : Int32).toInt) (NXR f0 (p4 : Int32).toInt (p3 : Int32).toInt (p2 : Int32).toInt (p3 : Int32).toInt (p5 : Int32).toInt (p6 : Int32).toInt) from alt_1 (by decide) rfl), (show (0 : Int32).toInt = 1 ∨ (p6 : Int32).toInt = (p6 : Int32).toInt from by have q0 : (0 : Int32).toInt = 0 := (by decide); (first | (clear hpre1 y1_0; omega) | omega)), trivial⟩ [1, 0] rfl rfl dX12_eats_9 (Nat.le_of_ble_eq_true rfl) (Nat.le_of_ble_eq_true rfl)
set_option maxHeartbeats 4000000 in
set_option maxRecDepth 100000 in
theorem gX12_is_48e0abe (l : Launch) (D : va_G) (cy : Nat → ClassId) (h0 : Nat) (p0 : Int32) (w0 : Value) (w1 : Value) (w2 : Value) (w3 : Value) (p1 : Int32) (p2 : Int32) (p3 : Int32) (p4 : Int32) (p5 : Int32) (p6 : Int32) (p7 : Int32) (p8 : Int32) (p9 : Int32) (p10 : Int32) (p11 : Int32) (w4 : Value) (w5 : Value) (w6 : Value) (w7 : Value) (w8 : Value) (p12 : Int32) (p13 : Int32) (w9 : Value) (w10 : Value) (w11 : Value) (p14 : Int32) (p15 : Int32) (w12 : Value) (w13 : Value) (w14 : Value) (w15 : Value) (w16 : Value) (p16 : Int32) (w17 : Value) (w18 : Value) (w19 : Value) (hp0 : 0 ≤ (p0).toInt ∧ (p0).toInt ≤ 0) (hp1 : 0 ≤ (p1).toInt ∧ (p1).toInt ≤ 900) (hp2 : 0 ≤ (p2).toInt ∧ (p2).toInt ≤ 900) (hp3 : 0 ≤ (p3).toInt ∧ (p3).toInt ≤ 900) (hp4 : 0 ≤ (p4).toInt ∧ (p4).toInt ≤ 900) (hp5 : (-2147483648) ≤ (p5).toInt ∧ (p5).toInt ≤ 2147483647) (hp6 : 0 ≤ (p6).toInt ∧ (p6).toInt ≤ 999) (hp7 : (-2147483648) ≤ (p7).toInt ∧ (p7).toInt ≤ 2147483647) (hp8 : (-2147483648) ≤ (p8).toInt ∧ (p8).toInt ≤ 2147483647) (hp9 : (-2147483648) ≤ (p9).toInt ∧ (p9).toInt ≤ 2147483647) (hp10 : (-2147483648) ≤ (p10).toInt ∧ (p10).toInt ≤ 2147483647) (hp11 : (-2147483648) ≤ (p11).toInt ∧ (p11).toInt ≤ 2147483647) (hp12 : (-2147483648) ≤ (p12).toInt ∧ (p12).toInt ≤ 2147483647) (hp13 : (-2147483648) ≤ (p13).toInt ∧ (p13).toInt ≤ 2147483647) (hp14 : (-2147483648) ≤ (p14).toInt ∧ (p14).toInt ≤ 2147483647) (hp15 : (-2147483648) ≤ (p15).toInt ∧ (p15).toInt ≤ 2147483647) (hp16 : (-2147483648) ≤ (p16).toInt ∧ (p16).toInt ≤ 2147483647) (sz : Nat) : MI l yX12_is cX12_is 2 .boolean { frames := 0, cells := 0, slots := 0, locals := 0 } [.ref h0, .int 31] D cy [(h0, .inr (12, [.int p0, w0, w1, w2, w3, .int p1, .int p2, .int p3, .int p4, .int p5, .int p6, .int p7, .int p8, .int p9, .int p10, .int p11, w4, w5, w6, w7, w8, .int p12, .int p13, w9, w10, w11, .int p14, .int p15, w12, w13, w14, w15, w16, .int p16, w17, w18, w19]))] sz (fun r u => (0 ≤ r.toInt ∧ r.toInt ≤ 1) ∧ (((r : Int32).toInt = 1 ∧ (p7 : Int32).toInt = 0 ∧ (p5 : Int32).toInt = (31 : Int32).toInt) ∨ ((r : Int32).toInt = 0 ∧ ((p7 : Int32).toInt ≠ 0 ∨ (p5 : Int32).toInt ≠ (31 : Int32).toInt))) ∧ True) (fun u => [(h0, .inr (12, [.int p0, w0, w1, w2, w3, .int p1, .int p2, .int p3, .int p4, .int p5, .int p6, .int p7, .int p8, .int p9, .int p10, .int p11, w4, w5, w6, w7, w8, .int p12, .int p13, w9, w10, w11, .int p14, .int p15, w12, w13, w14, w15, w16, .int p16, w17, w18, w19]))]) 0 0 := by
  refine q_ent (own := RX12) (by decide) rfl (Nat.le_of_ble_eq_true rfl) (fun p e s m below meth c ls X hr hlk hnm hK hT h hA hl => ?_)
  obtain ⟨hx, hb, hml, hown, ht⟩ := id X
  replace hl : lv_has ls 2 [(0, .ref h0), (1, .int 31)] := hl
  refine lv_aload_n hx hb dX12_is_0 rfl (lv_at hl 0 rfl) ?_
  refine q_get X hK h 0 rfl rfl wf_12 11 (by decide) rfl wm_5_181 dX12_is_1 ?_
  refine lv_if_ne (tgt := 19) hx hb dX12_is_4 (by decide) (fun c_1 => ?_) (fun c_1 => ?_)
  · replace c_1 := i_ne (x := p7) (y := 0) rfl (show (0 : Int32).toInt = 0 by decide) c_1
    refine lv_iconst (v := 0) hx hb dX12_is_19 (by decide) ?_
    exact q_iret X hr hlk hK h rfl (fun _ => 0, fun _ _ => 0, fun _ _ => 0) ⟨⟨by decide +kernel, by decide +kernel⟩, (show ((0 : Int32).toInt = 1 ∧ (p7 : Int32).toInt = 0 ∧ (p5 : Int32).toInt = (31 : Int32).toInt) ∨ ((0 : Int32).toInt = 0 ∧ ((p7 : Int32).toInt ≠ 0 ∨ (p5 : Int32).toInt ≠ (31 : Int32).toInt)) from by have q0 : (0 : Int32).toInt = 0 := (by decide); have q1 : (31 : Int32).toInt = 31 := (by decide); omega), trivial⟩ [0] rfl rfl dX12_is_20 (Nat.le_of_ble_eq_true rfl) (Nat.le_of_ble_eq_true rfl)
  · replace c_1 := i_eq (x := p7) (y := 0) rfl (show (0 : Int32).toInt = 0 by decide) c_1
    refine lv_aload_n hx hb dX12_is_7 rfl (lv_at hl 0 rfl) ?_
    refine q_get X hK h 0 rfl rfl wf_12 9 (by decide) rfl wm_5_179 dX12_is_8 ?_
    refine lv_iload_n hx hb dX12_is_11 rfl (lv_at hl 1 rfl) ?_
    refine lv_icmp_ne (tgt := 19) hx hb dX12_is_12 (by decide) (fun c_2 => ?_) (fun c_2 => ?_)
    · replace c_2 := i_ne (x := p5) (y := 31) rfl (show (31 : Int32).toInt = 31 by decide) c_2
      refine lv_iconst (v := 0) hx hb dX12_is_19 (by decide) ?_
      exact q_iret X hr hlk hK h rfl (fun _ => 0, fun _ _ => 0, fun _ _ => 0) ⟨⟨by decide +kernel, by decide +kernel⟩, (show ((0 : Int32).toInt = 1 ∧ (p7 : Int32).toInt = 0 ∧ (p5 : Int32).toInt = (31 : Int32).toInt) ∨ ((0 : Int32).toInt = 0 ∧ ((p7 : Int32).toInt ≠ 0 ∨ (p5 : Int32).toInt ≠ (31 : Int32).toInt)) from by have q0 : (0 : Int32).toInt = 0 := (by decide); have q1 : (31 : Int32).toInt = 31 := (by decide); omega), trivial⟩ [0] rfl rfl dX12_is_20 (Nat.le_of_ble_eq_true rfl) (Nat.le_of_ble_eq_true rfl)
    · replace c_2 := i_eq (x := p5) (y := 31) rfl (show (31 : Int32).toInt = 31 by decide) c_2
      refine lv_iconst (v := 1) hx hb dX12_is_15 (by decide) ?_
      refine lv_goto (tgt := 20) hx hb dX12_is_16 (by decide) ?_
      exact q_iret X hr hlk hK h rfl (fun _ => 0, fun _ _ => 0, fun _ _ => 0) ⟨⟨by decide +kernel, by decide +kernel⟩, (show ((1 : Int32).toInt = 1 ∧ (p7 : Int32).toInt = 0 ∧ (p5 : Int32).toInt = (31 : Int32).toInt) ∨ ((1 : Int32).toInt = 0 ∧ ((p7 : Int32).toInt ≠ 0 ∨ (p5 : Int32).toInt ≠ (31 : Int32).toInt)) from by have q0 : (1 : Int32).toInt = 1 := (by decide); have q1 : (31 : Int32).toInt = 31 := (by decide); omega), trivial⟩ [0] rfl rfl dX12_is_20 (Nat.le_of_ble_eq_true rfl) (Nat.le_of_ble_eq_true rfl)
set_option maxHeartbeats 4000000 in
set_option maxRecDepth 100000 in
theorem gX12_eats_b7d3d7f (l : Launch) (D : va_G) (cy : Nat → ClassId) (h0 : Nat) (h1 : Nat) (p0 : Int32) (w0 : Value) (w1 : Value) (w2 : Value) (p1 : Int32) (p2 : Int32) (p3 : Int32) (p4 : Int32) (p5 : Int32) (p6 : Int32) (p7 : Int32) (p8 : Int32) (p9 : Int32) (p10 : Int32) (p11 : Int32) (w3 : Value) (w4 : Value) (w5 : Value) (w6 : Value) (w7 : Value) (p12 : Int32) (p13 : Int32) (w8 : Value) (w9 : Value) (w10 : Value) (p14 : Int32) (p15 : Int32) (w11 : Value) (w12 : Value) (w13 : Value) (w14 : Value) (w15 : Value) (p16 : Int32) (w16 : Value) (w17 : Value) (w18 : Value) (f0 : Nat → Int32) (hp0 : 0 ≤ (p0).toInt ∧ (p0).toInt ≤ 0) (hp1 : 0 ≤ (p1).toInt ∧ (p1).toInt ≤ 900) (hp2 : 0 ≤ (p2).toInt ∧ (p2).toInt ≤ 900) (hp3 : 0 ≤ (p3).toInt ∧ (p3).toInt ≤ 900) (hp4 : 0 ≤ (p4).toInt ∧ (p4).toInt ≤ 900) (hp5 : (-2147483648) ≤ (p5).toInt ∧ (p5).toInt ≤ 2147483647) (hp6 : 0 ≤ (p6).toInt ∧ (p6).toInt ≤ 999) (hp7 : (-2147483648) ≤ (p7).toInt ∧ (p7).toInt ≤ 2147483647) (hp8 : (-2147483648) ≤ (p8).toInt ∧ (p8).toInt ≤ 2147483647) (hp9 : (-2147483648) ≤ (p9).toInt ∧ (p9).toInt ≤ 2147483647) (hp10 : (-2147483648) ≤ (p10).toInt ∧ (p10).toInt ≤ 2147483647) (hp11 : (-2147483648) ≤ (p11).toInt ∧ (p11).toInt ≤ 2147483647) (hp12 : (-2147483648) ≤ (p12).toInt ∧ (p12).toInt ≤ 2147483647) (hp13 : (-2147483648) ≤ (p13).toInt ∧ (p13).toInt ≤ 2147483647) (hp14 : (-2147483648) ≤ (p14).toInt ∧ (p14).toInt ≤ 2147483647) (hp15 : (-2147483648) ≤ (p15).toInt ∧ (p15).toInt ≤ 2147483647) (hp16 : (-2147483648) ≤ (p16).toInt ∧ (p16).toInt ≤ 2147483647) (hpre0 : 0 ≤ (p2 : Int32).toInt ∧ (p2 : Int32).toInt ≤ (p3 : Int32).toInt ∧ (p3 : Int32).toInt ≤ (p4 : Int32).toInt) (hpre1 : (p5 : Int32).toInt = 26 ∨ (p2 : Int32).toInt < (p3 : Int32).toInt) (sz : Nat) : MI l yX12_eats cX12_eats 2 .boolean { frames := 6, cells := 0, slots := 0, locals := 129 } [.ref h0, .int 31] D cy (wk_253faa1b8 cy h0 p0 w0 w1 h1 w2 p1 p2 p3 p4 p5 p6 p7 p8 p9 p10 p11 w3 w4 w5 w6 w7 p12 p13 w8 w9 w10 p14 p15 w11 w12 w13 w14 w15 p16 w16 w17 w18 h1 f0) sz (fun r u => (0 ≤ r.toInt ∧ r.toInt ≤ 1) ∧ (0 ≤ (u.2.1 0 0).toInt ∧ (u.2.1 0 0).toInt ≤ 900) ∧ (0 ≤ (u.2.1 1 0).toInt ∧ (u.2.1 1 0).toInt ≤ 900) ∧ ((-2147483648) ≤ (u.2.1 2 0).toInt ∧ (u.2.1 2 0).toInt ≤ 2147483647) ∧ (0 ≤ (u.2.1 3 0).toInt ∧ (u.2.1 3 0).toInt ≤ 999) ∧ (0 ≤ ((u.2.1 0 0) : Int32).toInt ∧ ((u.2.1 0 0) : Int32).toInt ≤ ((u.2.1 1 0) : Int32).toInt ∧ ((u.2.1 1 0) : Int32).toInt ≤ (p4 : Int32).toInt) ∧ (((u.2.1 2 0) : Int32).toInt = 26 ∨ ((u.2.1 0 0) : Int32).toInt < ((u.2.1 1 0) : Int32).toInt) ∧ (((r : Int32).toInt = 0 ∧ ((u.2.1 0 0) : Int32).toInt = (p2 : Int32).toInt ∧ ((u.2.1 1 0) : Int32).toInt = (p3 : Int32).toInt ∧ ((u.2.1 2 0) : Int32).toInt = (p5 : Int32).toInt ∧ ((p7 : Int32).toInt ≠ 0 ∨ ((u.2.1 2 0) : Int32).toInt ≠ (31 : Int32).toInt)) ∨ ((r : Int32).toInt = 1 ∧ (p3 : Int32).toInt ≤ ((u.2.1 0 0) : Int32).toInt ∧ (p7 : Int32).toInt = 0 ∧ (p5 : Int32).toInt = (31 : Int32).toInt)) ∧ (ALT (r : Int32).toInt 0 1 (((u.2.1 3 0) : Int32).toInt = (p6 : Int32).toInt) (NXR f0 (p4 : Int32).toInt (p3 : Int32).toInt ((u.2.1 0 0) : Int32).toInt ((u.2.1 1 0) : Int32).toInt ((u.2.1 2 0) : Int32).toInt ((u.2.1 3 0) : Int32).toInt)) ∧ ((r : Int32).toInt = 1 ∨ ((u.2.1 3 0) : Int32).toInt = (p6 : Int32).toInt) ∧ True) (fun u => (wk_253faa1b8 cy h0 p0 w0 w1 h1 w2 p1 (u.2.1 0 0) (u.2.1 1 0) p4 (u.2.1 2 0) (u.2.1 3 0) p7 p8 p9 p10 p11 w3 w4 w5 w6 w7 p12 p13 w8 w9 w10 p14 p15 w11 w12 w13 w14 w15 p16 w16 w17 w18 h1 f0)) 0 0 := by
  refine q_ent (own := RX12) (by decide) rfl (Nat.le_of_ble_eq_true rfl) (fun p e s m below meth c ls X hr hlk hnm hK hT h hA hl => ?_)
  obtain ⟨hx, hb, hml, hown, ht⟩ := id X
  replace hl : lv_has ls 2 [(0, .ref h0), (1, .int 31)] := hl
  refine lv_aload_n hx hb dX12_eats_0 rfl (lv_at hl 0 rfl) ?_
  refine lv_iload_n hx hb dX12_eats_1 rfl (lv_at hl 1 rfl) ?_
  refine q_callVi (rest := []) (wr := [(h1, .inl (cy 1, 900, .inl f0))]) X hK hT hA h (fun sz => gX12_is_48e0abe l D cy h0 p0 w0 w1 (.ref h1) w2 p1 p2 p3 p4 p5 p6 p7 p8 p9 p10 p11 w3 w4 w5 w6 w7 p12 p13 w8 w9 w10 p14 p15 w11 w12 w13 w14 w15 p16 w16 w17 w18 hp0 hp1 hp2 hp3 hp4 (i_rng _) hp6 (i_rng _) (i_rng _) (i_rng _) (i_rng _) (i_rng _) (i_rng _) (i_rng _) (i_rng _) (i_rng _) (i_rng _) sz) wm_6_79 wm_6_82 wm_1_12 hd_X12_is wm_6_81 wp_4_7 (ci := 12) (q0 := 0) rfl rfl ⟨Nat.le_of_ble_eq_true rfl, Nat.le_of_ble_eq_true rfl⟩ hl.1 rfl (Nat.le_of_ble_eq_true rfl) dX12_eats_2 ⟨Nat.le_of_ble_eq_true rfl, Nat.le_of_ble_eq_true rfl⟩ [0] [1] rfl rfl (by decide) rfl rfl (fun r_1 u_1 H locs w_1 h_1 => ?_)
  clear h
  obtain ⟨wr_1, y1_0, _⟩ := w_1
  have lq_1_1 : (31 : Int32).toInt = 31 := (by decide)
  replace h_1 : qW D _ _ (wk_e69636a28 cy h1 f0 h0 p0 w0 w1 h1 w2 p1 p2 p3 p4 p5 p6 p7 p8 p9 p10 p11 w3 w4 w5 w6 w7 p12 p13 w8 w9 w10 p14 p15 w11 w12 w13 w14 w15 p16 w16 w17 w18) _ _ := h_1
  refine lv_if_ne (tgt := 10) hx hb dX12_eats_5 (by decide) (fun c_2 => ?_) (fun c_2 => ?_)
  · replace c_2 := i_ne (x := r_1) (y := 0) rfl (show (0 : Int32).toInt = 0 by decide) c_2
    replace y1_0 := a10_1 y1_0 c_2
    refine lv_aload_n hx hb dX12_eats_10 rfl (lv_at hl 0 rfl) ?_
    refine q_callVv (rest := []) (wr := []) X hK hT hA h_1 (fun sz => gX12_next_c515fc5 l D cy h0 h1 p0 w0 w1 w2 p1 p2 p3 p4 p5 p6 p7 p8 p9 p10 p11 w3 w4 w5 w6 w7 p12 p13 w8 w9 w10 p14 p15 w11 w12 w13 w14 w15 p16 w16 w17 w18 f0 hp0 hp1 hp2 hp3 hp4 (i_rng _) hp6 (i_rng _) (i_rng _) (i_rng _) (i_rng _) (i_rng _) (i_rng _) (i_rng _) (i_rng _) (i_rng _) (i_rng _) (by (first | (clear hpre1; omega) | omega)) sz) wm_6_53 wm_6_56 wm_1_12 hd_X12_next wm_6_55 wp_4_3 (ci := 12) (q0 := 0) rfl rfl ⟨Nat.le_of_ble_eq_true rfl, Nat.le_of_ble_eq_true rfl⟩ hl.1 rfl (Nat.le_of_ble_eq_true rfl) dX12_eats_11 ⟨Nat.le_of_ble_eq_true rfl, Nat.le_of_ble_eq_true rfl⟩ [1, 0] [] rfl rfl (by decide) rfl rfl (fun u_3 H locs w_3 h_3 => ?_)
    clear h_1
    obtain ⟨w3_0, w3_1, w3_2, w3_3, y3_0, y3_1, y3_2, y3_3, _⟩ := w_3
    replace h_3 : qW D _ _ (wk_253faa1b8 cy h0 p0 w0 w1 h1 w2 p1 (u_3.2.1 0 0) (u_3.2.1 1 0) p4 (u_3.2.1 2 0) (u_3.2.1 3 0) p7 p8 p9 p10 p11 w3 w4 w5 w6 w7 p12 p13 w8 w9 w10 p14 p15 w11 w12 w13 w14 w15 p16 w16 w17 w18 h1 f0) _ _ := h_3
    refine lv_iconst (v := 1) hx hb dX12_eats_14 (by decide) ?_
    exact q_iret X hr hlk hK h_3 rfl (fun _ => 0, (vcons (fun _ => (u_3.2.1 0 0)) (vcons (fun _ => (u_3.2.1 1 0)) (vcons (fun _ => (u_3.2.1 2 0)) (vcons (fun _ => (u_3.2.1 3 0)) (fun _ => (fun _ => 0)))))), fun _ _ => 0) ⟨⟨by decide +kernel, by decide +kernel⟩, w3_0, w3_1, (bw w3_2 (by decide) (by decide)), w3_3, y3_0, y3_1, (show ((1 : Int32).toInt = 0 ∧ ((u_3.2.1 0 0) : Int32).toInt = (p2 : Int32).toInt ∧ ((u_3.2.1 1 0) : Int32).toInt = (p3 : Int32).toInt ∧ ((u_3.2.1 2 0) : Int32).toInt = (p5 : Int32).toInt ∧ ((p7 : Int32).toInt ≠ 0 ∨ ((u_3.2.1 2 0) : Int32).toInt ≠ (31 : Int32).toInt)) ∨ ((1 : Int32).toInt = 1 ∧ (p3 : Int32).toInt ≤ ((u_3.2.1 0 0) : Int32).toInt ∧ (p7 : Int32).toInt = 0 ∧ (p5 : Int32).toInt = (31 : Int32).toInt) from by have q0 : (1 : Int32).toInt = 1 := (by decide); have q1 : (31 : Int32).toInt = 31 := (by decide); (first | (clear hpre1 y3_1; omega) | omega)), (show ALT (1 : Int32).toInt 0 1 (((u_3.2.1 3 0) : Int32).toInt = (p6 : Int32).toInt) (NXR f0 (p4 : Int32).toInt (p3 : Int32).toInt ((u_3.2.1 0 0) : Int32).toInt ((u_3.2.1 1 0) : Int32).toInt ((u_3.2.1 2 0) : Int32).toInt ((u_3.2.1 3 0) : Int32).toInt) from alt_2 (by decide) y3_3), (show (1 : Int32).toInt = 1 ∨ ((u_3.2.1 3 0) : Int32).toInt = (p6 : Int32).toInt from by have q0 : (1 : Int32).toInt = 1 := (by decide); (first | (clear hpre1 y3_1; omega) | omega)), trivial⟩ [0, 1] rfl rfl dX12_eats_15 (Nat.le_of_ble_eq_true rfl) (Nat.le_of_ble_eq_true rfl)
  · replace c_2 := i_eq (x := r_1) (y := 0) rfl (show (0 : Int32).toInt = 0 by decide) c_2
    replace y1_0 := a10_0 y1_0 c_2
    refine lv_iconst (v := 0) hx hb dX12_eats_8 (by decide) ?_
    exact q_iret X hr hlk hK h_1 rfl (fun _ => 0, (vcons (fun _ => p2) (vcons (fun _ => p3) (vcons (fun _ => p5) (vcons (fun _ => p6) (fun _ => (fun _ => 0)))))), fun _ _ => 0) ⟨⟨by decide +kernel, by decide +kernel⟩, hp2, hp3, hp5, hp6, hpre0, hpre1, (show ((0 : Int32).toInt = 0 ∧ (p2 : Int32).toInt = (p2 : Int32).toInt ∧ (p3 : Int32).toInt = (p3 : Int32).toInt ∧ (p5 : Int32).toInt = (p5 : Int32).toInt ∧ ((p7 : Int32).toInt ≠ 0 ∨ (p5 : Int32).toInt ≠ (31 : Int32).toInt)) ∨ ((0 : Int32).toInt = 1 ∧ (p3 : Int32).toInt ≤ (p2 : Int32).toInt ∧ (p7 : Int32).toInt = 0 ∧ (p5 : Int32).toInt = (31 : Int32).toInt) from by have q0 : (0 : Int32).toInt = 0 := (by decide); have q1 : (31 : Int32).toInt = 31 := (by decide); (first | (clear hpre1 y1_0; omega) | omega)), (show ALT (0 : Int32).toInt 0 1 ((p6 : Int32).toInt = (p6 : Int32).toInt) (NXR f0 (p4 : Int32).toInt (p3 : Int32).toInt (p2 : Int32).toInt (p3 : Int32).toInt (p5 : Int32).toInt (p6 : Int32).toInt) from alt_1 (by decide) rfl), (show (0 : Int32).toInt = 1 ∨ (p6 : Int32).toInt = (p6 : Int32).toInt from by have q0 : (0 : Int32).toInt = 0 := (by decide); (first | (clear hpre1 y1_0; omega) | omega)), trivial⟩ [1, 0] rfl rfl dX12_eats_9 (Nat.le_of_ble_eq_true rfl) (Nat.le_of_ble_eq_true rfl)
set_option maxHeartbeats 4000000 in
set_option maxRecDepth 100000 in
theorem gX12_is_201cd9e (l : Launch) (D : va_G) (cy : Nat → ClassId) (h0 : Nat) (p0 : Int32) (w0 : Value) (w1 : Value) (w2 : Value) (w3 : Value) (p1 : Int32) (p2 : Int32) (p3 : Int32) (p4 : Int32) (p5 : Int32) (p6 : Int32) (p7 : Int32) (p8 : Int32) (p9 : Int32) (p10 : Int32) (p11 : Int32) (w4 : Value) (w5 : Value) (w6 : Value) (w7 : Value) (w8 : Value) (p12 : Int32) (p13 : Int32) (w9 : Value) (w10 : Value) (w11 : Value) (p14 : Int32) (p15 : Int32) (w12 : Value) (w13 : Value) (w14 : Value) (w15 : Value) (w16 : Value) (p16 : Int32) (w17 : Value) (w18 : Value) (w19 : Value) (hp0 : 0 ≤ (p0).toInt ∧ (p0).toInt ≤ 0) (hp1 : 0 ≤ (p1).toInt ∧ (p1).toInt ≤ 900) (hp2 : 0 ≤ (p2).toInt ∧ (p2).toInt ≤ 900) (hp3 : 0 ≤ (p3).toInt ∧ (p3).toInt ≤ 900) (hp4 : 0 ≤ (p4).toInt ∧ (p4).toInt ≤ 900) (hp5 : (-2147483648) ≤ (p5).toInt ∧ (p5).toInt ≤ 2147483647) (hp6 : 0 ≤ (p6).toInt ∧ (p6).toInt ≤ 999) (hp7 : (-2147483648) ≤ (p7).toInt ∧ (p7).toInt ≤ 2147483647) (hp8 : (-2147483648) ≤ (p8).toInt ∧ (p8).toInt ≤ 2147483647) (hp9 : (-2147483648) ≤ (p9).toInt ∧ (p9).toInt ≤ 2147483647) (hp10 : (-2147483648) ≤ (p10).toInt ∧ (p10).toInt ≤ 2147483647) (hp11 : (-2147483648) ≤ (p11).toInt ∧ (p11).toInt ≤ 2147483647) (hp12 : (-2147483648) ≤ (p12).toInt ∧ (p12).toInt ≤ 2147483647) (hp13 : (-2147483648) ≤ (p13).toInt ∧ (p13).toInt ≤ 2147483647) (hp14 : (-2147483648) ≤ (p14).toInt ∧ (p14).toInt ≤ 2147483647) (hp15 : (-2147483648) ≤ (p15).toInt ∧ (p15).toInt ≤ 2147483647) (hp16 : (-2147483648) ≤ (p16).toInt ∧ (p16).toInt ≤ 2147483647) (sz : Nat) : MI l yX12_is cX12_is 2 .boolean { frames := 0, cells := 0, slots := 0, locals := 0 } [.ref h0, .int 23] D cy [(h0, .inr (12, [.int p0, w0, w1, w2, w3, .int p1, .int p2, .int p3, .int p4, .int p5, .int p6, .int p7, .int p8, .int p9, .int p10, .int p11, w4, w5, w6, w7, w8, .int p12, .int p13, w9, w10, w11, .int p14, .int p15, w12, w13, w14, w15, w16, .int p16, w17, w18, w19]))] sz (fun r u => (0 ≤ r.toInt ∧ r.toInt ≤ 1) ∧ (((r : Int32).toInt = 1 ∧ (p7 : Int32).toInt = 0 ∧ (p5 : Int32).toInt = (23 : Int32).toInt) ∨ ((r : Int32).toInt = 0 ∧ ((p7 : Int32).toInt ≠ 0 ∨ (p5 : Int32).toInt ≠ (23 : Int32).toInt))) ∧ True) (fun u => [(h0, .inr (12, [.int p0, w0, w1, w2, w3, .int p1, .int p2, .int p3, .int p4, .int p5, .int p6, .int p7, .int p8, .int p9, .int p10, .int p11, w4, w5, w6, w7, w8, .int p12, .int p13, w9, w10, w11, .int p14, .int p15, w12, w13, w14, w15, w16, .int p16, w17, w18, w19]))]) 0 0 := by
  refine q_ent (own := RX12) (by decide) rfl (Nat.le_of_ble_eq_true rfl) (fun p e s m below meth c ls X hr hlk hnm hK hT h hA hl => ?_)
  obtain ⟨hx, hb, hml, hown, ht⟩ := id X
  replace hl : lv_has ls 2 [(0, .ref h0), (1, .int 23)] := hl
  refine lv_aload_n hx hb dX12_is_0 rfl (lv_at hl 0 rfl) ?_
  refine q_get X hK h 0 rfl rfl wf_12 11 (by decide) rfl wm_5_181 dX12_is_1 ?_
  refine lv_if_ne (tgt := 19) hx hb dX12_is_4 (by decide) (fun c_1 => ?_) (fun c_1 => ?_)
  · replace c_1 := i_ne (x := p7) (y := 0) rfl (show (0 : Int32).toInt = 0 by decide) c_1
    refine lv_iconst (v := 0) hx hb dX12_is_19 (by decide) ?_
    exact q_iret X hr hlk hK h rfl (fun _ => 0, fun _ _ => 0, fun _ _ => 0) ⟨⟨by decide +kernel, by decide +kernel⟩, (show ((0 : Int32).toInt = 1 ∧ (p7 : Int32).toInt = 0 ∧ (p5 : Int32).toInt = (23 : Int32).toInt) ∨ ((0 : Int32).toInt = 0 ∧ ((p7 : Int32).toInt ≠ 0 ∨ (p5 : Int32).toInt ≠ (23 : Int32).toInt)) from by have q0 : (0 : Int32).toInt = 0 := (by decide); have q1 : (23 : Int32).toInt = 23 := (by decide); omega), trivial⟩ [0] rfl rfl dX12_is_20 (Nat.le_of_ble_eq_true rfl) (Nat.le_of_ble_eq_true rfl)
  · replace c_1 := i_eq (x := p7) (y := 0) rfl (show (0 : Int32).toInt = 0 by decide) c_1
    refine lv_aload_n hx hb dX12_is_7 rfl (lv_at hl 0 rfl) ?_
    refine q_get X hK h 0 rfl rfl wf_12 9 (by decide) rfl wm_5_179 dX12_is_8 ?_
    refine lv_iload_n hx hb dX12_is_11 rfl (lv_at hl 1 rfl) ?_
    refine lv_icmp_ne (tgt := 19) hx hb dX12_is_12 (by decide) (fun c_2 => ?_) (fun c_2 => ?_)
    · replace c_2 := i_ne (x := p5) (y := 23) rfl (show (23 : Int32).toInt = 23 by decide) c_2
      refine lv_iconst (v := 0) hx hb dX12_is_19 (by decide) ?_
      exact q_iret X hr hlk hK h rfl (fun _ => 0, fun _ _ => 0, fun _ _ => 0) ⟨⟨by decide +kernel, by decide +kernel⟩, (show ((0 : Int32).toInt = 1 ∧ (p7 : Int32).toInt = 0 ∧ (p5 : Int32).toInt = (23 : Int32).toInt) ∨ ((0 : Int32).toInt = 0 ∧ ((p7 : Int32).toInt ≠ 0 ∨ (p5 : Int32).toInt ≠ (23 : Int32).toInt)) from by have q0 : (0 : Int32).toInt = 0 := (by decide); have q1 : (23 : Int32).toInt = 23 := (by decide); omega), trivial⟩ [0] rfl rfl dX12_is_20 (Nat.le_of_ble_eq_true rfl) (Nat.le_of_ble_eq_true rfl)
    · replace c_2 := i_eq (x := p5) (y := 23) rfl (show (23 : Int32).toInt = 23 by decide) c_2
      refine lv_iconst (v := 1) hx hb dX12_is_15 (by decide) ?_
      refine lv_goto (tgt := 20) hx hb dX12_is_16 (by decide) ?_
      exact q_iret X hr hlk hK h rfl (fun _ => 0, fun _ _ => 0, fun _ _ => 0) ⟨⟨by decide +kernel, by decide +kernel⟩, (show ((1 : Int32).toInt = 1 ∧ (p7 : Int32).toInt = 0 ∧ (p5 : Int32).toInt = (23 : Int32).toInt) ∨ ((1 : Int32).toInt = 0 ∧ ((p7 : Int32).toInt ≠ 0 ∨ (p5 : Int32).toInt ≠ (23 : Int32).toInt)) from by have q0 : (1 : Int32).toInt = 1 := (by decide); have q1 : (23 : Int32).toInt = 23 := (by decide); omega), trivial⟩ [0] rfl rfl dX12_is_20 (Nat.le_of_ble_eq_true rfl) (Nat.le_of_ble_eq_true rfl)
set_option maxHeartbeats 4000000 in
set_option maxRecDepth 100000 in
theorem gX12_is_2c15f42 (l : Launch) (D : va_G) (cy : Nat → ClassId) (h0 : Nat) (p0 : Int32) (w0 : Value) (w1 : Value) (w2 : Value) (w3 : Value) (p1 : Int32) (p2 : Int32) (p3 : Int32) (p4 : Int32) (p5 : Int32) (p6 : Int32) (p7 : Int32) (p8 : Int32) (p9 : Int32) (p10 : Int32) (p11 : Int32) (w4 : Value) (w5 : Value) (w6 : Value) (w7 : Value) (w8 : Value) (p12 : Int32) (p13 : Int32) (w9 : Value) (w10 : Value) (w11 : Value) (p14 : Int32) (p15 : Int32) (w12 : Value) (w13 : Value) (w14 : Value) (w15 : Value) (w16 : Value) (p16 : Int32) (w17 : Value) (w18 : Value) (w19 : Value) (hp0 : 0 ≤ (p0).toInt ∧ (p0).toInt ≤ 0) (hp1 : 0 ≤ (p1).toInt ∧ (p1).toInt ≤ 900) (hp2 : 0 ≤ (p2).toInt ∧ (p2).toInt ≤ 900) (hp3 : 0 ≤ (p3).toInt ∧ (p3).toInt ≤ 900) (hp4 : 0 ≤ (p4).toInt ∧ (p4).toInt ≤ 900) (hp5 : (-2147483648) ≤ (p5).toInt ∧ (p5).toInt ≤ 2147483647) (hp6 : 0 ≤ (p6).toInt ∧ (p6).toInt ≤ 999) (hp7 : (-2147483648) ≤ (p7).toInt ∧ (p7).toInt ≤ 2147483647) (hp8 : (-2147483648) ≤ (p8).toInt ∧ (p8).toInt ≤ 2147483647) (hp9 : (-2147483648) ≤ (p9).toInt ∧ (p9).toInt ≤ 2147483647) (hp10 : (-2147483648) ≤ (p10).toInt ∧ (p10).toInt ≤ 2147483647) (hp11 : (-2147483648) ≤ (p11).toInt ∧ (p11).toInt ≤ 2147483647) (hp12 : (-2147483648) ≤ (p12).toInt ∧ (p12).toInt ≤ 2147483647) (hp13 : (-2147483648) ≤ (p13).toInt ∧ (p13).toInt ≤ 2147483647) (hp14 : (-2147483648) ≤ (p14).toInt ∧ (p14).toInt ≤ 2147483647) (hp15 : (-2147483648) ≤ (p15).toInt ∧ (p15).toInt ≤ 2147483647) (hp16 : (-2147483648) ≤ (p16).toInt ∧ (p16).toInt ≤ 2147483647) (sz : Nat) : MI l yX12_is cX12_is 2 .boolean { frames := 0, cells := 0, slots := 0, locals := 0 } [.ref h0, .int 37] D cy [(h0, .inr (12, [.int p0, w0, w1, w2, w3, .int p1, .int p2, .int p3, .int p4, .int p5, .int p6, .int p7, .int p8, .int p9, .int p10, .int p11, w4, w5, w6, w7, w8, .int p12, .int p13, w9, w10, w11, .int p14, .int p15, w12, w13, w14, w15, w16, .int p16, w17, w18, w19]))] sz (fun r u => (0 ≤ r.toInt ∧ r.toInt ≤ 1) ∧ (((r : Int32).toInt = 1 ∧ (p7 : Int32).toInt = 0 ∧ (p5 : Int32).toInt = (37 : Int32).toInt) ∨ ((r : Int32).toInt = 0 ∧ ((p7 : Int32).toInt ≠ 0 ∨ (p5 : Int32).toInt ≠ (37 : Int32).toInt))) ∧ True) (fun u => [(h0, .inr (12, [.int p0, w0, w1, w2, w3, .int p1, .int p2, .int p3, .int p4, .int p5, .int p6, .int p7, .int p8, .int p9, .int p10, .int p11, w4, w5, w6, w7, w8, .int p12, .int p13, w9, w10, w11, .int p14, .int p15, w12, w13, w14, w15, w16, .int p16, w17, w18, w19]))]) 0 0 := by
  refine q_ent (own := RX12) (by decide) rfl (Nat.le_of_ble_eq_true rfl) (fun p e s m below meth c ls X hr hlk hnm hK hT h hA hl => ?_)
  obtain ⟨hx, hb, hml, hown, ht⟩ := id X
  replace hl : lv_has ls 2 [(0, .ref h0), (1, .int 37)] := hl
  refine lv_aload_n hx hb dX12_is_0 rfl (lv_at hl 0 rfl) ?_
  refine q_get X hK h 0 rfl rfl wf_12 11 (by decide) rfl wm_5_181 dX12_is_1 ?_
  refine lv_if_ne (tgt := 19) hx hb dX12_is_4 (by decide) (fun c_1 => ?_) (fun c_1 => ?_)
  · replace c_1 := i_ne (x := p7) (y := 0) rfl (show (0 : Int32).toInt = 0 by decide) c_1
    refine lv_iconst (v := 0) hx hb dX12_is_19 (by decide) ?_
    exact q_iret X hr hlk hK h rfl (fun _ => 0, fun _ _ => 0, fun _ _ => 0) ⟨⟨by decide +kernel, by decide +kernel⟩, (show ((0 : Int32).toInt = 1 ∧ (p7 : Int32).toInt = 0 ∧ (p5 : Int32).toInt = (37 : Int32).toInt) ∨ ((0 : Int32).toInt = 0 ∧ ((p7 : Int32).toInt ≠ 0 ∨ (p5 : Int32).toInt ≠ (37 : Int32).toInt)) from by have q0 : (0 : Int32).toInt = 0 := (by decide); have q1 : (37 : Int32).toInt = 37 := (by decide); omega), trivial⟩ [0] rfl rfl dX12_is_20 (Nat.le_of_ble_eq_true rfl) (Nat.le_of_ble_eq_true rfl)
  · replace c_1 := i_eq (x := p7) (y := 0) rfl (show (0 : Int32).toInt = 0 by decide) c_1
    refine lv_aload_n hx hb dX12_is_7 rfl (lv_at hl 0 rfl) ?_
    refine q_get X hK h 0 rfl rfl wf_12 9 (by decide) rfl wm_5_179 dX12_is_8 ?_
    refine lv_iload_n hx hb dX12_is_11 rfl (lv_at hl 1 rfl) ?_
    refine lv_icmp_ne (tgt := 19) hx hb dX12_is_12 (by decide) (fun c_2 => ?_) (fun c_2 => ?_)
    · replace c_2 := i_ne (x := p5) (y := 37) rfl (show (37 : Int32).toInt = 37 by decide) c_2
      refine lv_iconst (v := 0) hx hb dX12_is_19 (by decide) ?_
      exact q_iret X hr hlk hK h rfl (fun _ => 0, fun _ _ => 0, fun _ _ => 0) ⟨⟨by decide +kernel, by decide +kernel⟩, (show ((0 : Int32).toInt = 1 ∧ (p7 : Int32).toInt = 0 ∧ (p5 : Int32).toInt = (37 : Int32).toInt) ∨ ((0 : Int32).toInt = 0 ∧ ((p7 : Int32).toInt ≠ 0 ∨ (p5 : Int32).toInt ≠ (37 : Int32).toInt)) from by have q0 : (0 : Int32).toInt = 0 := (by decide); have q1 : (37 : Int32).toInt = 37 := (by decide); omega), trivial⟩ [0] rfl rfl dX12_is_20 (Nat.le_of_ble_eq_true rfl) (Nat.le_of_ble_eq_true rfl)
    · replace c_2 := i_eq (x := p5) (y := 37) rfl (show (37 : Int32).toInt = 37 by decide) c_2
      refine lv_iconst (v := 1) hx hb dX12_is_15 (by decide) ?_
      refine lv_goto (tgt := 20) hx hb dX12_is_16 (by decide) ?_
      exact q_iret X hr hlk hK h rfl (fun _ => 0, fun _ _ => 0, fun _ _ => 0) ⟨⟨by decide +kernel, by decide +kernel⟩, (show ((1 : Int32).toInt = 1 ∧ (p7 : Int32).toInt = 0 ∧ (p5 : Int32).toInt = (37 : Int32).toInt) ∨ ((1 : Int32).toInt = 0 ∧ ((p7 : Int32).toInt ≠ 0 ∨ (p5 : Int32).toInt ≠ (37 : Int32).toInt)) from by have q0 : (1 : Int32).toInt = 1 := (by decide); have q1 : (37 : Int32).toInt = 37 := (by decide); omega), trivial⟩ [0] rfl rfl dX12_is_20 (Nat.le_of_ble_eq_true rfl) (Nat.le_of_ble_eq_true rfl)
set_option maxHeartbeats 4000000 in
set_option maxRecDepth 100000 in
theorem gX12_is_0ffb60c (l : Launch) (D : va_G) (cy : Nat → ClassId) (h0 : Nat) (p0 : Int32) (w0 : Value) (w1 : Value) (w2 : Value) (w3 : Value) (p1 : Int32) (p2 : Int32) (p3 : Int32) (p4 : Int32) (p5 : Int32) (p6 : Int32) (p7 : Int32) (p8 : Int32) (p9 : Int32) (p10 : Int32) (p11 : Int32) (w4 : Value) (w5 : Value) (w6 : Value) (w7 : Value) (w8 : Value) (p12 : Int32) (p13 : Int32) (w9 : Value) (w10 : Value) (w11 : Value) (p14 : Int32) (p15 : Int32) (w12 : Value) (w13 : Value) (w14 : Value) (w15 : Value) (w16 : Value) (p16 : Int32) (w17 : Value) (w18 : Value) (w19 : Value) (hp0 : 0 ≤ (p0).toInt ∧ (p0).toInt ≤ 0) (hp1 : 0 ≤ (p1).toInt ∧ (p1).toInt ≤ 900) (hp2 : 0 ≤ (p2).toInt ∧ (p2).toInt ≤ 900) (hp3 : 0 ≤ (p3).toInt ∧ (p3).toInt ≤ 900) (hp4 : 0 ≤ (p4).toInt ∧ (p4).toInt ≤ 900) (hp5 : (-2147483648) ≤ (p5).toInt ∧ (p5).toInt ≤ 2147483647) (hp6 : 0 ≤ (p6).toInt ∧ (p6).toInt ≤ 999) (hp7 : (-2147483648) ≤ (p7).toInt ∧ (p7).toInt ≤ 2147483647) (hp8 : (-2147483648) ≤ (p8).toInt ∧ (p8).toInt ≤ 2147483647) (hp9 : (-2147483648) ≤ (p9).toInt ∧ (p9).toInt ≤ 2147483647) (hp10 : (-2147483648) ≤ (p10).toInt ∧ (p10).toInt ≤ 2147483647) (hp11 : (-2147483648) ≤ (p11).toInt ∧ (p11).toInt ≤ 2147483647) (hp12 : (-2147483648) ≤ (p12).toInt ∧ (p12).toInt ≤ 2147483647) (hp13 : (-2147483648) ≤ (p13).toInt ∧ (p13).toInt ≤ 2147483647) (hp14 : (-2147483648) ≤ (p14).toInt ∧ (p14).toInt ≤ 2147483647) (hp15 : (-2147483648) ≤ (p15).toInt ∧ (p15).toInt ≤ 2147483647) (hp16 : (-2147483648) ≤ (p16).toInt ∧ (p16).toInt ≤ 2147483647) (sz : Nat) : MI l yX12_is cX12_is 2 .boolean { frames := 0, cells := 0, slots := 0, locals := 0 } [.ref h0, .int 35] D cy [(h0, .inr (12, [.int p0, w0, w1, w2, w3, .int p1, .int p2, .int p3, .int p4, .int p5, .int p6, .int p7, .int p8, .int p9, .int p10, .int p11, w4, w5, w6, w7, w8, .int p12, .int p13, w9, w10, w11, .int p14, .int p15, w12, w13, w14, w15, w16, .int p16, w17, w18, w19]))] sz (fun r u => (0 ≤ r.toInt ∧ r.toInt ≤ 1) ∧ (((r : Int32).toInt = 1 ∧ (p7 : Int32).toInt = 0 ∧ (p5 : Int32).toInt = (35 : Int32).toInt) ∨ ((r : Int32).toInt = 0 ∧ ((p7 : Int32).toInt ≠ 0 ∨ (p5 : Int32).toInt ≠ (35 : Int32).toInt))) ∧ True) (fun u => [(h0, .inr (12, [.int p0, w0, w1, w2, w3, .int p1, .int p2, .int p3, .int p4, .int p5, .int p6, .int p7, .int p8, .int p9, .int p10, .int p11, w4, w5, w6, w7, w8, .int p12, .int p13, w9, w10, w11, .int p14, .int p15, w12, w13, w14, w15, w16, .int p16, w17, w18, w19]))]) 0 0 := by
  refine q_ent (own := RX12) (by decide) rfl (Nat.le_of_ble_eq_true rfl) (fun p e s m below meth c ls X hr hlk hnm hK hT h hA hl => ?_)
  obtain ⟨hx, hb, hml, hown, ht⟩ := id X
  replace hl : lv_has ls 2 [(0, .ref h0), (1, .int 35)] := hl
  refine lv_aload_n hx hb dX12_is_0 rfl (lv_at hl 0 rfl) ?_
  refine q_get X hK h 0 rfl rfl wf_12 11 (by decide) rfl wm_5_181 dX12_is_1 ?_
  refine lv_if_ne (tgt := 19) hx hb dX12_is_4 (by decide) (fun c_1 => ?_) (fun c_1 => ?_)
  · replace c_1 := i_ne (x := p7) (y := 0) rfl (show (0 : Int32).toInt = 0 by decide) c_1
    refine lv_iconst (v := 0) hx hb dX12_is_19 (by decide) ?_
    exact q_iret X hr hlk hK h rfl (fun _ => 0, fun _ _ => 0, fun _ _ => 0) ⟨⟨by decide +kernel, by decide +kernel⟩, (show ((0 : Int32).toInt = 1 ∧ (p7 : Int32).toInt = 0 ∧ (p5 : Int32).toInt = (35 : Int32).toInt) ∨ ((0 : Int32).toInt = 0 ∧ ((p7 : Int32).toInt ≠ 0 ∨ (p5 : Int32).toInt ≠ (35 : Int32).toInt)) from by have q0 : (0 : Int32).toInt = 0 := (by decide); have q1 : (35 : Int32).toInt = 35 := (by decide); omega), trivial⟩ [0] rfl rfl dX12_is_20 (Nat.le_of_ble_eq_true rfl) (Nat.le_of_ble_eq_true rfl)
  · replace c_1 := i_eq (x := p7) (y := 0) rfl (show (0 : Int32).toInt = 0 by decide) c_1
    refine lv_aload_n hx hb dX12_is_7 rfl (lv_at hl 0 rfl) ?_
    refine q_get X hK h 0 rfl rfl wf_12 9 (by decide) rfl wm_5_179 dX12_is_8 ?_
    refine lv_iload_n hx hb dX12_is_11 rfl (lv_at hl 1 rfl) ?_
    refine lv_icmp_ne (tgt := 19) hx hb dX12_is_12 (by decide) (fun c_2 => ?_) (fun c_2 => ?_)
    · replace c_2 := i_ne (x := p5) (y := 35) rfl (show (35 : Int32).toInt = 35 by decide) c_2
      refine lv_iconst (v := 0) hx hb dX12_is_19 (by decide) ?_
      exact q_iret X hr hlk hK h rfl (fun _ => 0, fun _ _ => 0, fun _ _ => 0) ⟨⟨by decide +kernel, by decide +kernel⟩, (show ((0 : Int32).toInt = 1 ∧ (p7 : Int32).toInt = 0 ∧ (p5 : Int32).toInt = (35 : Int32).toInt) ∨ ((0 : Int32).toInt = 0 ∧ ((p7 : Int32).toInt ≠ 0 ∨ (p5 : Int32).toInt ≠ (35 : Int32).toInt)) from by have q0 : (0 : Int32).toInt = 0 := (by decide); have q1 : (35 : Int32).toInt = 35 := (by decide); omega), trivial⟩ [0] rfl rfl dX12_is_20 (Nat.le_of_ble_eq_true rfl) (Nat.le_of_ble_eq_true rfl)
    · replace c_2 := i_eq (x := p5) (y := 35) rfl (show (35 : Int32).toInt = 35 by decide) c_2
      refine lv_iconst (v := 1) hx hb dX12_is_15 (by decide) ?_
      refine lv_goto (tgt := 20) hx hb dX12_is_16 (by decide) ?_
      exact q_iret X hr hlk hK h rfl (fun _ => 0, fun _ _ => 0, fun _ _ => 0) ⟨⟨by decide +kernel, by decide +kernel⟩, (show ((1 : Int32).toInt = 1 ∧ (p7 : Int32).toInt = 0 ∧ (p5 : Int32).toInt = (35 : Int32).toInt) ∨ ((1 : Int32).toInt = 0 ∧ ((p7 : Int32).toInt ≠ 0 ∨ (p5 : Int32).toInt ≠ (35 : Int32).toInt)) from by have q0 : (1 : Int32).toInt = 1 := (by decide); have q1 : (35 : Int32).toInt = 35 := (by decide); omega), trivial⟩ [0] rfl rfl dX12_is_20 (Nat.le_of_ble_eq_true rfl) (Nat.le_of_ble_eq_true rfl)
set_option maxHeartbeats 4000000 in
set_option maxRecDepth 100000 in
theorem gX12_fails_efc7c96 (l : Launch) (D : va_G) (cy : Nat → ClassId) (h0 : Nat) (p0 : Int32) (w0 : Value) (w1 : Value) (w2 : Value) (w3 : Value) (p1 : Int32) (p2 : Int32) (p3 : Int32) (p4 : Int32) (p5 : Int32) (p6 : Int32) (p7 : Int32) (p8 : Int32) (p9 : Int32) (p10 : Int32) (p11 : Int32) (w4 : Value) (w5 : Value) (w6 : Value) (w7 : Value) (w8 : Value) (p12 : Int32) (p13 : Int32) (w9 : Value) (w10 : Value) (w11 : Value) (p14 : Int32) (p15 : Int32) (w12 : Value) (w13 : Value) (w14 : Value) (w15 : Value) (w16 : Value) (p16 : Int32) (w17 : Value) (w18 : Value) (w19 : Value) (hp0 : 0 ≤ (p0).toInt ∧ (p0).toInt ≤ 0) (hp1 : 0 ≤ (p1).toInt ∧ (p1).toInt ≤ 900) (hp2 : 0 ≤ (p2).toInt ∧ (p2).toInt ≤ 900) (hp3 : 0 ≤ (p3).toInt ∧ (p3).toInt ≤ 900) (hp4 : 0 ≤ (p4).toInt ∧ (p4).toInt ≤ 900) (hp5 : (-2147483648) ≤ (p5).toInt ∧ (p5).toInt ≤ 2147483647) (hp6 : 0 ≤ (p6).toInt ∧ (p6).toInt ≤ 999) (hp7 : (-2147483648) ≤ (p7).toInt ∧ (p7).toInt ≤ 2147483647) (hp8 : (-2147483648) ≤ (p8).toInt ∧ (p8).toInt ≤ 2147483647) (hp9 : (-2147483648) ≤ (p9).toInt ∧ (p9).toInt ≤ 2147483647) (hp10 : (-2147483648) ≤ (p10).toInt ∧ (p10).toInt ≤ 2147483647) (hp11 : (-2147483648) ≤ (p11).toInt ∧ (p11).toInt ≤ 2147483647) (hp12 : (-2147483648) ≤ (p12).toInt ∧ (p12).toInt ≤ 2147483647) (hp13 : (-2147483648) ≤ (p13).toInt ∧ (p13).toInt ≤ 2147483647) (hp14 : (-2147483648) ≤ (p14).toInt ∧ (p14).toInt ≤ 2147483647) (hp15 : (-2147483648) ≤ (p15).toInt ∧ (p15).toInt ≤ 2147483647) (hp16 : (-2147483648) ≤ (p16).toInt ∧ (p16).toInt ≤ 2147483647) (sz : Nat) : MV l yX12_fails cX12_fails 2 { frames := 0, cells := 0, slots := 0, locals := 0 } [.ref h0, .int 4] D cy [(h0, .inr (12, [.int p0, w0, w1, w2, w3, .int p1, .int p2, .int p3, .int p4, .int p5, .int p6, .int p7, .int p8, .int p9, .int p10, .int p11, w4, w5, w6, w7, w8, .int p12, .int p13, w9, w10, w11, .int p14, .int p15, w12, w13, w14, w15, w16, .int p16, w17, w18, w19]))] sz (fun u => ((-2147483648) ≤ (u.2.1 0 0).toInt ∧ (u.2.1 0 0).toInt ≤ 2147483647) ∧ ((-2147483648) ≤ (u.2.1 1 0).toInt ∧ (u.2.1 1 0).toInt ≤ 2147483647) ∧ (((u.2.1 0 0) : Int32).toInt ≠ 0) ∧ (FLR 4 (p2 : Int32).toInt (p5 : Int32).toInt (p7 : Int32).toInt (p8 : Int32).toInt ((u.2.1 0 0) : Int32).toInt ((u.2.1 1 0) : Int32).toInt) ∧ True) (fun u => [(h0, .inr (12, [.int p0, w0, w1, w2, w3, .int p1, .int p2, .int p3, .int p4, .int p5, .int p6, .int (u.2.1 0 0), .int (u.2.1 1 0), .int p9, .int p10, .int p11, w4, w5, w6, w7, w8, .int p12, .int p13, w9, w10, w11, .int p14, .int p15, w12, w13, w14, w15, w16, .int p16, w17, w18, w19]))]) 0 0 := by
  refine q_ent (own := RX12) (by decide) rfl (Nat.le_of_ble_eq_true rfl) (fun p e s m below meth c ls X hr hlk hnm hK hT h hA hl => ?_)
  obtain ⟨hx, hb, hml, hown, ht⟩ := id X
  replace hl : lv_has ls 2 [(0, .ref h0), (1, .int 4)] := hl
  refine lv_aload_n hx hb dX12_fails_0 rfl (lv_at hl 0 rfl) ?_
  refine q_get X hK h 0 rfl rfl wf_12 11 (by decide) rfl wm_5_181 dX12_fails_1 ?_
  refine lv_if_eq (tgt := 8) hx hb dX12_fails_4 (by decide) (fun c_1 => ?_) (fun c_1 => ?_)
  · replace c_1 := i_eq (x := p7) (y := 0) rfl (show (0 : Int32).toInt = 0 by decide) c_1
    refine lv_aload_n hx hb dX12_fails_8 rfl (lv_at hl 0 rfl) ?_
    refine lv_aload_n hx hb dX12_fails_9 rfl (lv_at hl 0 rfl) ?_
    refine q_get X hK h 0 rfl rfl wf_12 9 (by decide) rfl wm_5_179 dX12_fails_10 ?_
    refine lv_bipush (v := 27) hx hb dX12_fails_13 (by decide) ?_
    refine lv_icmp_ne (tgt := 22) hx hb dX12_fails_15 (by decide) (fun c_2 => ?_) (fun c_2 => ?_)
    · replace c_2 := i_ne (x := p5) (y := 27) rfl (show (27 : Int32).toInt = 27 by decide) c_2
      refine lv_iload_n hx hb dX12_fails_22 rfl (lv_at hl 1 rfl) ?_
      refine q_put (v := .int 4) X hK h 0 rfl rfl wf_12 tyX12 tyX12_ok nmX12 11 (by decide) wm_5_181 rfl rfl rfl (Nat.le_of_ble_eq_true rfl) dX12_fails_23 (fun H locs h_3 => ?_)
      clear h
      replace h_3 : qW D _ _ [(h0, .inr (12, [.int p0, w0, w1, w2, w3, .int p1, .int p2, .int p3, .int p4, .int p5, .int p6, .int 4, .int p8, .int p9, .int p10, .int p11, w4, w5, w6, w7, w8, .int p12, .int p13, w9, w10, w11, .int p14, .int p15, w12, w13, w14, w15, w16, .int p16, w17, w18, w19]))] _ _ := h_3
      refine lv_aload_n hx hb dX12_fails_26 rfl (lv_at hl 0 rfl) ?_
      refine lv_aload_n hx hb dX12_fails_27 rfl (lv_at hl 0 rfl) ?_
      refine q_get X hK h_3 0 rfl rfl wf_12 6 (by decide) rfl wm_5_176 dX12_fails_28 ?_
      refine q_put (v := .int p2) X hK h_3 0 rfl rfl wf_12 tyX12 tyX12_ok nmX12 12 (by decide) wm_5_182 rfl rfl rfl (Nat.le_of_ble_eq_true rfl) dX12_fails_31 (fun H locs h_4 => ?_)
      clear h_3
      replace h_4 : qW D _ _ [(h0, .inr (12, [.int p0, w0, w1, w2, w3, .int p1, .int p2, .int p3, .int p4, .int p5, .int p6, .int 4, .int p2, .int p9, .int p10, .int p11, w4, w5, w6, w7, w8, .int p12, .int p13, w9, w10, w11, .int p14, .int p15, w12, w13, w14, w15, w16, .int p16, w17, w18, w19]))] _ _ := h_4
      exact q_vret X hr hlk hK h_4 (fun _ => 0, (vcons (fun _ => 4) (vcons (fun _ => p2) (fun _ => (fun _ => 0)))), fun _ _ => 0) ⟨(⟨by decide +kernel, by decide +kernel⟩ : (-2147483648) ≤ (4 : Int32).toInt ∧ (4 : Int32).toInt ≤ 2147483647), (bw hp2 (by decide) (by decide)), (show (4 : Int32).toInt ≠ 0 from by have q0 : (4 : Int32).toInt = 4 := (by decide); omega), (show FLR 4 (p2 : Int32).toInt (p5 : Int32).toInt (p7 : Int32).toInt (p8 : Int32).toInt (4 : Int32).toInt (p2 : Int32).toInt from by first | exact Or.inl ⟨(by (first | assumption | omega)), rfl, rfl⟩ | exact Or.inr ⟨(by (first | assumption | omega)), Or.inl ⟨(by (first | assumption | omega)), by decide⟩, rfl⟩ | exact Or.inr ⟨(by (first | assumption | omega)), Or.inr ⟨(by (first | assumption | omega)), by decide⟩, rfl⟩), trivial⟩ [0] rfl rfl dX12_fails_34 (Nat.le_of_ble_eq_true rfl) (Nat.le_of_ble_eq_true rfl)
    · replace c_2 := i_eq (x := p5) (y := 27) rfl (show (27 : Int32).toInt = 27 by decide) c_2
      refine lv_iconst (v := 1) hx hb dX12_fails_18 (by decide) ?_
      refine lv_goto (tgt := 23) hx hb dX12_fails_19 (by decide) ?_
      refine q_put (v := .int 1) X hK h 0 rfl rfl wf_12 tyX12 tyX12_ok nmX12 11 (by decide) wm_5_181 rfl rfl rfl (Nat.le_of_ble_eq_true rfl) dX12_fails_23 (fun H locs h_5 => ?_)
      clear h
      replace h_5 : qW D _ _ [(h0, .inr (12, [.int p0, w0, w1, w2, w3, .int p1, .int p2, .int p3, .int p4, .int p5, .int p6, .int 1, .int p8, .int p9, .int p10, .int p11, w4, w5, w6, w7, w8, .int p12, .int p13, w9, w10, w11, .int p14, .int p15, w12, w13, w14, w15, w16, .int p16, w17, w18, w19]))] _ _ := h_5
      refine lv_aload_n hx hb dX12_fails_26 rfl (lv_at hl 0 rfl) ?_
      refine lv_aload_n hx hb dX12_fails_27 rfl (lv_at hl 0 rfl) ?_
      refine q_get X hK h_5 0 rfl rfl wf_12 6 (by decide) rfl wm_5_176 dX12_fails_28 ?_
      refine q_put (v := .int p2) X hK h_5 0 rfl rfl wf_12 tyX12 tyX12_ok nmX12 12 (by decide) wm_5_182 rfl rfl rfl (Nat.le_of_ble_eq_true rfl) dX12_fails_31 (fun H locs h_6 => ?_)
      clear h_5
      replace h_6 : qW D _ _ [(h0, .inr (12, [.int p0, w0, w1, w2, w3, .int p1, .int p2, .int p3, .int p4, .int p5, .int p6, .int 1, .int p2, .int p9, .int p10, .int p11, w4, w5, w6, w7, w8, .int p12, .int p13, w9, w10, w11, .int p14, .int p15, w12, w13, w14, w15, w16, .int p16, w17, w18, w19]))] _ _ := h_6
      exact q_vret X hr hlk hK h_6 (fun _ => 0, (vcons (fun _ => 1) (vcons (fun _ => p2) (fun _ => (fun _ => 0)))), fun _ _ => 0) ⟨(⟨by decide +kernel, by decide +kernel⟩ : (-2147483648) ≤ (1 : Int32).toInt ∧ (1 : Int32).toInt ≤ 2147483647), (bw hp2 (by decide) (by decide)), (show (1 : Int32).toInt ≠ 0 from by have q0 : (1 : Int32).toInt = 1 := (by decide); omega), (show FLR 4 (p2 : Int32).toInt (p5 : Int32).toInt (p7 : Int32).toInt (p8 : Int32).toInt (1 : Int32).toInt (p2 : Int32).toInt from by first | exact Or.inl ⟨(by (first | assumption | omega)), rfl, rfl⟩ | exact Or.inr ⟨(by (first | assumption | omega)), Or.inl ⟨(by (first | assumption | omega)), by decide⟩, rfl⟩ | exact Or.inr ⟨(by (first | assumption | omega)), Or.inr ⟨(by (first | assumption | omega)), by decide⟩, rfl⟩), trivial⟩ [0] rfl rfl dX12_fails_34 (Nat.le_of_ble_eq_true rfl) (Nat.le_of_ble_eq_true rfl)
  · replace c_1 := i_ne (x := p7) (y := 0) rfl (show (0 : Int32).toInt = 0 by decide) c_1
    exact q_vret X hr hlk hK h (fun _ => 0, (vcons (fun _ => p7) (vcons (fun _ => p8) (fun _ => (fun _ => 0)))), fun _ _ => 0) ⟨hp7, hp8, (show (p7 : Int32).toInt ≠ 0 from by omega), (show FLR 4 (p2 : Int32).toInt (p5 : Int32).toInt (p7 : Int32).toInt (p8 : Int32).toInt (p7 : Int32).toInt (p8 : Int32).toInt from by first | exact Or.inl ⟨(by (first | assumption | omega)), rfl, rfl⟩ | exact Or.inr ⟨(by (first | assumption | omega)), Or.inl ⟨(by (first | assumption | omega)), by decide⟩, rfl⟩ | exact Or.inr ⟨(by (first | assumption | omega)), Or.inr ⟨(by (first | assumption | omega)), by decide⟩, rfl⟩), trivial⟩ [0] rfl rfl dX12_fails_7 (Nat.le_of_ble_eq_true rfl) (Nat.le_of_ble_eq_true rfl)
set_option maxHeartbeats 4000000 in
set_option maxRecDepth 100000 in
theorem gX12_goesIn_04df839 (l : Launch) (D : va_G) (cy : Nat → ClassId) (h0 : Nat) (h1 : Nat) (p0 : Int32) (p1 : Int32) (w0 : Value) (w1 : Value) (w2 : Value) (p2 : Int32) (p3 : Int32) (p4 : Int32) (p5 : Int32) (p6 : Int32) (p7 : Int32) (p8 : Int32) (p9 : Int32) (p10 : Int32) (p11 : Int32) (p12 : Int32) (w3 : Value) (w4 : Value) (w5 : Value) (w6 : Value) (w7 : Value) (p13 : Int32) (p14 : Int32) (w8 : Value) (w9 : Value) (w10 : Value) (p15 : Int32) (p16 : Int32) (w11 : Value) (w12 : Value) (w13 : Value) (w14 : Value) (w15 : Value) (p17 : Int32) (w16 : Value) (w17 : Value) (w18 : Value) (f0 : Nat → Int32) (hp0 : 0 ≤ (p0).toInt ∧ (p0).toInt ≤ 6) (hp1 : 0 ≤ (p1).toInt ∧ (p1).toInt ≤ 0) (hp2 : 0 ≤ (p2).toInt ∧ (p2).toInt ≤ 900) (hp3 : 0 ≤ (p3).toInt ∧ (p3).toInt ≤ 900) (hp4 : 0 ≤ (p4).toInt ∧ (p4).toInt ≤ 900) (hp5 : 0 ≤ (p5).toInt ∧ (p5).toInt ≤ 900) (hp6 : (-2147483648) ≤ (p6).toInt ∧ (p6).toInt ≤ 2147483647) (hp7 : 0 ≤ (p7).toInt ∧ (p7).toInt ≤ 999) (hp8 : (-2147483648) ≤ (p8).toInt ∧ (p8).toInt ≤ 2147483647) (hp9 : (-2147483648) ≤ (p9).toInt ∧ (p9).toInt ≤ 2147483647) (hp10 : (-2147483648) ≤ (p10).toInt ∧ (p10).toInt ≤ 2147483647) (hp11 : (-2147483648) ≤ (p11).toInt ∧ (p11).toInt ≤ 2147483647) (hp12 : (-2147483648) ≤ (p12).toInt ∧ (p12).toInt ≤ 2147483647) (hp13 : (-2147483648) ≤ (p13).toInt ∧ (p13).toInt ≤ 2147483647) (hp14 : (-2147483648) ≤ (p14).toInt ∧ (p14).toInt ≤ 2147483647) (hp15 : (-2147483648) ≤ (p15).toInt ∧ (p15).toInt ≤ 2147483647) (hp16 : (-2147483648) ≤ (p16).toInt ∧ (p16).toInt ≤ 2147483647) (hp17 : (-2147483648) ≤ (p17).toInt ∧ (p17).toInt ≤ 2147483647) (hpre0 : 0 ≤ (p3 : Int32).toInt ∧ (p3 : Int32).toInt ≤ (p4 : Int32).toInt ∧ (p4 : Int32).toInt ≤ (p5 : Int32).toInt) (hpre1 : (p6 : Int32).toInt = 26 ∨ (p3 : Int32).toInt < (p4 : Int32).toInt) (hpre2 : (p6 : Int32).toInt ≠ 26) (sz : Nat) : MI l yX12_goesIn cX12_goesIn 2 .boolean { frames := 6, cells := 0, slots := 0, locals := 129 } [.ref h0, .int p0] D cy (wk_253faa1b8 cy h0 p1 w0 w1 h1 w2 p2 p3 p4 p5 p6 p7 p8 p9 p10 p11 p12 w3 w4 w5 w6 w7 p13 p14 w8 w9 w10 p15 p16 w11 w12 w13 w14 w15 p17 w16 w17 w18 h1 f0) sz (fun r u => (0 ≤ r.toInt ∧ r.toInt ≤ 1) ∧ (0 ≤ (u.2.1 0 0).toInt ∧ (u.2.1 0 0).toInt ≤ 900) ∧ (0 ≤ (u.2.1 1 0).toInt ∧ (u.2.1 1 0).toInt ≤ 900) ∧ ((-2147483648) ≤ (u.2.1 2 0).toInt ∧ (u.2.1 2 0).toInt ≤ 2147483647) ∧ (0 ≤ (u.2.1 3 0).toInt ∧ (u.2.1 3 0).toInt ≤ 999) ∧ ((-2147483648) ≤ (u.2.1 4 0).toInt ∧ (u.2.1 4 0).toInt ≤ 2147483647) ∧ ((-2147483648) ≤ (u.2.1 5 0).toInt ∧ (u.2.1 5 0).toInt ≤ 2147483647) ∧ (0 ≤ ((u.2.1 0 0) : Int32).toInt ∧ ((u.2.1 0 0) : Int32).toInt ≤ ((u.2.1 1 0) : Int32).toInt ∧ ((u.2.1 1 0) : Int32).toInt ≤ (p5 : Int32).toInt) ∧ (((u.2.1 2 0) : Int32).toInt = 26 ∨ ((u.2.1 0 0) : Int32).toInt < ((u.2.1 1 0) : Int32).toInt) ∧ ((p3 : Int32).toInt ≤ ((u.2.1 0 0) : Int32).toInt) ∧ (((u.2.1 4 0) : Int32).toInt ≠ 0 ∨ (p8 : Int32).toInt = 0) ∧ (((r : Int32).toInt = 0 ∧ ((u.2.1 4 0) : Int32).toInt ≠ 0) ∨ ((r : Int32).toInt = 1 ∧ ((u.2.1 4 0) : Int32).toInt = 0 ∧ (p3 : Int32).toInt + 1 ≤ ((u.2.1 0 0) : Int32).toInt)) ∧ ((r : Int32).toInt = 0 ∨ (p0 : Int32).toInt ≠ 6) ∧ (ALT (r : Int32).toInt 0 1 ((p8 : Int32).toInt ≠ 0 ∨ ((p0 : Int32).toInt = 6 ∧ SIMR f0 (p5 : Int32).toInt (fun b n i => er b n 4 i) (p3 : Int32).toInt (p4 : Int32).toInt (p6 : Int32).toInt (p7 : Int32).toInt (p8 : Int32).toInt (p9 : Int32).toInt ((u.2.1 0 0) : Int32).toInt ((u.2.1 1 0) : Int32).toInt ((u.2.1 2 0) : Int32).toInt ((u.2.1 3 0) : Int32).toInt ((u.2.1 4 0) : Int32).toInt ((u.2.1 5 0) : Int32).toInt)) ((p0 : Int32).toInt ≠ 6 ∧ ((u.2.1 4 0) : Int32).toInt = 0 ∧ NXR f0 (p5 : Int32).toInt (p4 : Int32).toInt ((u.2.1 0 0) : Int32).toInt ((u.2.1 1 0) : Int32).toInt ((u.2.1 2 0) : Int32).toInt ((u.2.1 3 0) : Int32).toInt)) ∧ ((r : Int32).toInt = 1 ∨ (p8 : Int32).toInt ≠ 0 ∨ (p0 : Int32).toInt = 6) ∧ True) (fun u => (wk_253faa1b8 cy h0 p1 w0 w1 h1 w2 p2 (u.2.1 0 0) (u.2.1 1 0) p5 (u.2.1 2 0) (u.2.1 3 0) (u.2.1 4 0) (u.2.1 5 0) p10 p11 p12 w3 w4 w5 w6 w7 p13 p14 w8 w9 w10 p15 p16 w11 w12 w13 w14 w15 p17 w16 w17 w18 h1 f0)) 0 0 := by
  refine q_ent (own := RX12) (by decide) rfl (Nat.le_of_ble_eq_true rfl) (fun p e s m below meth c ls X hr hlk hnm hK hT h hA hl => ?_)
  obtain ⟨hx, hb, hml, hown, ht⟩ := id X
  replace hl : lv_has ls 2 [(0, .ref h0), (1, .int p0)] := hl
  refine lv_iload_n hx hb dX12_goesIn_0 rfl (lv_at hl 1 rfl) ?_
  refine lv_bipush (v := 6) hx hb dX12_goesIn_1 (by decide) ?_
  refine lv_icmp_ne (tgt := 11) hx hb dX12_goesIn_3 (by decide) (fun c_1 => ?_) (fun c_1 => ?_)
  · replace c_1 := i_ne (x := p0) (y := 6) rfl (show (6 : Int32).toInt = 6 by decide) c_1
    refine lv_aload_n hx hb dX12_goesIn_11 rfl (lv_at hl 0 rfl) ?_
    refine q_get X hK h 0 rfl rfl wf_12 11 (by decide) rfl wm_5_181 dX12_goesIn_12 ?_
    refine lv_if_ne (tgt := 22) hx hb dX12_goesIn_15 (by decide) (fun c_2 => ?_) (fun c_2 => ?_)
    · replace c_2 := i_ne (x := p8) (y := 0) rfl (show (0 : Int32).toInt = 0 by decide) c_2
      refine lv_aload_n hx hb dX12_goesIn_22 rfl (lv_at hl 0 rfl) ?_
      refine q_get X hK h 0 rfl rfl wf_12 11 (by decide) rfl wm_5_181 dX12_goesIn_23 ?_
      refine lv_if_ne (tgt := 33) hx hb dX12_goesIn_26 (by decide) (fun c_3 => ?_) (fun c_3 => ?_)
      · replace c_3 := i_ne (x := p8) (y := 0) rfl (show (0 : Int32).toInt = 0 by decide) c_3
        refine lv_iconst (v := 0) hx hb dX12_goesIn_33 (by decide) ?_
        exact q_iret X hr hlk hK h rfl (fun _ => 0, (vcons (fun _ => p3) (vcons (fun _ => p4) (vcons (fun _ => p6) (vcons (fun _ => p7) (vcons (fun _ => p8) (vcons (fun _ => p9) (fun _ => (fun _ => 0)))))))), fun _ _ => 0) ⟨⟨by decide +kernel, by decide +kernel⟩, hp3, hp4, hp6, hp7, hp8, hp9, hpre0, hpre1, (show (p3 : Int32).toInt ≤ (p3 : Int32).toInt from (Int.le_refl _)), (show (p8 : Int32).toInt ≠ 0 ∨ (p8 : Int32).toInt = 0 from (ne_or _)), (show ((0 : Int32).toInt = 0 ∧ (p8 : Int32).toInt ≠ 0) ∨ ((0 : Int32).toInt = 1 ∧ (p8 : Int32).toInt = 0 ∧ (p3 : Int32).toInt + 1 ≤ (p3 : Int32).toInt) from by have q0 : (0 : Int32).toInt = 0 := (by decide); (first | (clear hpre1; omega) | omega)), (show (0 : Int32).toInt = 0 ∨ (p0 : Int32).toInt ≠ 6 from by have q0 : (0 : Int32).toInt = 0 := (by decide); (first | (clear hpre1; omega) | omega)), (show ALT (0 : Int32).toInt 0 1 ((p8 : Int32).toInt ≠ 0 ∨ ((p0 : Int32).toInt = 6 ∧ SIMR f0 (p5 : Int32).toInt (fun b n i => er b n 4 i) (p3 : Int32).toInt (p4 : Int32).toInt (p6 : Int32).toInt (p7 : Int32).toInt (p8 : Int32).toInt (p9 : Int32).toInt (p3 : Int32).toInt (p4 : Int32).toInt (p6 : Int32).toInt (p7 : Int32).toInt (p8 : Int32).toInt (p9 : Int32).toInt)) ((p0 : Int32).toInt ≠ 6 ∧ (p8 : Int32).toInt = 0 ∧ NXR f0 (p5 : Int32).toInt (p4 : Int32).toInt (p3 : Int32).toInt (p4 : Int32).toInt (p6 : Int32).toInt (p7 : Int32).toInt) from by first | (exfalso; omega) | exact alt_1 (by decide) (Or.inl (by (first | assumption | (clear hpre1; omega) | omega)))), (show (0 : Int32).toInt = 1 ∨ (p8 : Int32).toInt ≠ 0 ∨ (p0 : Int32).toInt = 6 from by have q0 : (0 : Int32).toInt = 0 := (by decide); (first | (clear hpre1; omega) | omega)), trivial⟩ [0, 1] rfl rfl dX12_goesIn_34 (Nat.le_of_ble_eq_true rfl) (Nat.le_of_ble_eq_true rfl)
      · replace c_3 := i_eq (x := p8) (y := 0) rfl (show (0 : Int32).toInt = 0 by decide) c_3
        refine lv_iconst (v := 1) hx hb dX12_goesIn_29 (by decide) ?_
        refine lv_goto (tgt := 34) hx hb dX12_goesIn_30 (by decide) ?_
        exact q_iret X hr hlk hK h rfl (fun _ => 0, (vcons (fun _ => p3) (vcons (fun _ => p4) (vcons (fun _ => p6) (vcons (fun _ => p7) (vcons (fun _ => p8) (vcons (fun _ => p9) (fun _ => (fun _ => 0)))))))), fun _ _ => 0) ⟨⟨by decide +kernel, by decide +kernel⟩, hp3, hp4, hp6, hp7, hp8, hp9, hpre0, hpre1, (show (p3 : Int32).toInt ≤ (p3 : Int32).toInt from (Int.le_refl _)), (show (p8 : Int32).toInt ≠ 0 ∨ (p8 : Int32).toInt = 0 from (ne_or _)), (show ((1 : Int32).toInt = 0 ∧ (p8 : Int32).toInt ≠ 0) ∨ ((1 : Int32).toInt = 1 ∧ (p8 : Int32).toInt = 0 ∧ (p3 : Int32).toInt + 1 ≤ (p3 : Int32).toInt) from by have q0 : (1 : Int32).toInt = 1 := (by decide); (first | (clear hpre1; omega) | omega)), (show (1 : Int32).toInt = 0 ∨ (p0 : Int32).toInt ≠ 6 from by have q0 : (1 : Int32).toInt = 1 := (by decide); (first | (clear hpre1; omega) | omega)), (show ALT (1 : Int32).toInt 0 1 ((p8 : Int32).toInt ≠ 0 ∨ ((p0 : Int32).toInt = 6 ∧ SIMR f0 (p5 : Int32).toInt (fun b n i => er b n 4 i) (p3 : Int32).toInt (p4 : Int32).toInt (p6 : Int32).toInt (p7 : Int32).toInt (p8 : Int32).toInt (p9 : Int32).toInt (p3 : Int32).toInt (p4 : Int32).toInt (p6 : Int32).toInt (p7 : Int32).toInt (p8 : Int32).toInt (p9 : Int32).toInt)) ((p0 : Int32).toInt ≠ 6 ∧ (p8 : Int32).toInt = 0 ∧ NXR f0 (p5 : Int32).toInt (p4 : Int32).toInt (p3 : Int32).toInt (p4 : Int32).toInt (p6 : Int32).toInt (p7 : Int32).toInt) from by first | (exfalso; omega) | exact alt_1 (by decide) (Or.inl (by (first | assumption | (clear hpre1; omega) | omega)))), (show (1 : Int32).toInt = 1 ∨ (p8 : Int32).toInt ≠ 0 ∨ (p0 : Int32).toInt = 6 from by have q0 : (1 : Int32).toInt = 1 := (by decide); (first | (clear hpre1; omega) | omega)), trivial⟩ [0, 1] rfl rfl dX12_goesIn_34 (Nat.le_of_ble_eq_true rfl) (Nat.le_of_ble_eq_true rfl)
    · replace c_2 := i_eq (x := p8) (y := 0) rfl (show (0 : Int32).toInt = 0 by decide) c_2
      refine lv_aload_n hx hb dX12_goesIn_18 rfl (lv_at hl 0 rfl) ?_
      refine q_callVv (rest := []) (wr := []) X hK hT hA h (fun sz => gX12_next_c515fc5 l D cy h0 h1 p1 w0 w1 w2 p2 p3 p4 p5 p6 p7 p8 p9 p10 p11 p12 w3 w4 w5 w6 w7 p13 p14 w8 w9 w10 p15 p16 w11 w12 w13 w14 w15 p17 w16 w17 w18 f0 hp1 hp2 hp3 hp4 hp5 (i_rng _) hp7 (i_rng _) (i_rng _) (i_rng _) (i_rng _) (i_rng _) (i_rng _) (i_rng _) (i_rng _) (i_rng _) (i_rng _) (by (first | (clear hpre1; omega) | omega)) sz) wm_6_53 wm_6_56 wm_1_12 hd_X12_next wm_6_55 wp_4_3 (ci := 12) (q0 := 0) rfl rfl ⟨Nat.le_of_ble_eq_true rfl, Nat.le_of_ble_eq_true rfl⟩ hl.1 rfl (Nat.le_of_ble_eq_true rfl) dX12_goesIn_19 ⟨Nat.le_of_ble_eq_true rfl, Nat.le_of_ble_eq_true rfl⟩ [0, 1] [] rfl rfl (by decide) rfl rfl (fun u_4 H locs w_4 h_4 => ?_)
      clear h
      obtain ⟨w4_0, w4_1, w4_2, w4_3, y4_0, y4_1, y4_2, y4_3, _⟩ := w_4
      replace h_4 : qW D _ _ (wk_253faa1b8 cy h0 p1 w0 w1 h1 w2 p2 (u_4.2.1 0 0) (u_4.2.1 1 0) p5 (u_4.2.1 2 0) (u_4.2.1 3 0) p8 p9 p10 p11 p12 w3 w4 w5 w6 w7 p13 p14 w8 w9 w10 p15 p16 w11 w12 w13 w14 w15 p17 w16 w17 w18 h1 f0) _ _ := h_4
      refine lv_aload_n hx hb dX12_goesIn_22 rfl (lv_at hl 0 rfl) ?_
      refine q_get X hK h_4 0 rfl rfl wf_12 11 (by decide) rfl wm_5_181 dX12_goesIn_23 ?_
      refine lv_if_ne (tgt := 33) hx hb dX12_goesIn_26 (by decide) (fun c_5 => ?_) (fun c_5 => ?_)
      · replace c_5 := i_ne (x := p8) (y := 0) rfl (show (0 : Int32).toInt = 0 by decide) c_5
        exfalso
        omega
      · replace c_5 := i_eq (x := p8) (y := 0) rfl (show (0 : Int32).toInt = 0 by decide) c_5
        refine lv_iconst (v := 1) hx hb dX12_goesIn_29 (by decide) ?_
        refine lv_goto (tgt := 34) hx hb dX12_goesIn_30 (by decide) ?_
        exact q_iret X hr hlk hK h_4 rfl (fun _ => 0, (vcons (fun _ => (u_4.2.1 0 0)) (vcons (fun _ => (u_4.2.1 1 0)) (vcons (fun _ => (u_4.2.1 2 0)) (vcons (fun _ => (u_4.2.1 3 0)) (vcons (fun _ => p8) (vcons (fun _ => p9) (fun _ => (fun _ => 0)))))))), fun _ _ => 0) ⟨⟨by decide +kernel, by decide +kernel⟩, w4_0, w4_1, (bw w4_2 (by decide) (by decide)), w4_3, hp8, hp9, y4_0, y4_1, (show (p3 : Int32).toInt ≤ ((u_4.2.1 0 0) : Int32).toInt from by (first | (clear hpre1 y4_1; omega) | omega)), (show (p8 : Int32).toInt ≠ 0 ∨ (p8 : Int32).toInt = 0 from (ne_or _)), (show ((1 : Int32).toInt = 0 ∧ (p8 : Int32).toInt ≠ 0) ∨ ((1 : Int32).toInt = 1 ∧ (p8 : Int32).toInt = 0 ∧ (p3 : Int32).toInt + 1 ≤ ((u_4.2.1 0 0) : Int32).toInt) from by have q0 : (1 : Int32).toInt = 1 := (by decide); (first | (clear hpre1 y4_1; omega) | omega)), (show (1 : Int32).toInt = 0 ∨ (p0 : Int32).toInt ≠ 6 from by have q0 : (1 : Int32).toInt = 1 := (by decide); (first | (clear hpre1 y4_1; omega) | omega)), (show ALT (1 : Int32).toInt 0 1 ((p8 : Int32).toInt ≠ 0 ∨ ((p0 : Int32).toInt = 6 ∧ SIMR f0 (p5 : Int32).toInt (fun b n i => er b n 4 i) (p3 : Int32).toInt (p4 : Int32).toInt (p6 : Int32).toInt (p7 : Int32).toInt (p8 : Int32).toInt (p9 : Int32).toInt ((u_4.2.1 0 0) : Int32).toInt ((u_4.2.1 1 0) : Int32).toInt ((u_4.2.1 2 0) : Int32).toInt ((u_4.2.1 3 0) : Int32).toInt (p8 : Int32).toInt (p9 : Int32).toInt)) ((p0 : Int32).toInt ≠ 6 ∧ (p8 : Int32).toInt = 0 ∧ NXR f0 (p5 : Int32).toInt (p4 : Int32).toInt ((u_4.2.1 0 0) : Int32).toInt ((u_4.2.1 1 0) : Int32).toInt ((u_4.2.1 2 0) : Int32).toInt ((u_4.2.1 3 0) : Int32).toInt) from by first | (exfalso; omega) | exact alt_1 (by decide) (Or.inl (by (first | assumption | (clear hpre1 y4_1; omega) | omega))) | exact alt_2 (by decide) ⟨(by (first | assumption | (clear hpre1 y4_1; omega) | omega)), (by (first | assumption | (clear hpre1 y4_1; omega) | omega)), y4_3⟩), (show (1 : Int32).toInt = 1 ∨ (p8 : Int32).toInt ≠ 0 ∨ (p0 : Int32).toInt = 6 from by have q0 : (1 : Int32).toInt = 1 := (by decide); (first | (clear hpre1 y4_1; omega) | omega)), trivial⟩ [0, 1] rfl rfl dX12_goesIn_34 (Nat.le_of_ble_eq_true rfl) (Nat.le_of_ble_eq_true rfl)
  · replace c_1 := i_eq (x := p0) (y := 6) rfl (show (6 : Int32).toInt = 6 by decide) c_1
    refine lv_aload_n hx hb dX12_goesIn_6 rfl (lv_at hl 0 rfl) ?_
    refine lv_iconst (v := 4) hx hb dX12_goesIn_7 (by decide) ?_
    refine q_callVv (rest := []) (wr := [(h1, .inl (cy 1, 900, .inl f0))]) X hK hT hA h (fun sz => gX12_fails_efc7c96 l D cy h0 p1 w0 w1 (.ref h1) w2 p2 p3 p4 p5 p6 p7 p8 p9 p10 p11 p12 w3 w4 w5 w6 w7 p13 p14 w8 w9 w10 p15 p16 w11 w12 w13 w14 w15 p17 w16 w17 w18 hp1 hp2 hp3 hp4 hp5 (i_rng _) hp7 (i_rng _) (i_rng _) (i_rng _) (i_rng _) (i_rng _) (i_rng _) (i_rng _) (i_rng _) (i_rng _) (i_rng _) sz) wm_6_83 wm_6_86 wm_1_12 hd_X12_fails wm_6_85 wp_4_8 (ci := 12) (q0 := 0) rfl rfl ⟨Nat.le_of_ble_eq_true rfl, Nat.le_of_ble_eq_true rfl⟩ hl.1 rfl (Nat.le_of_ble_eq_true rfl) dX12_goesIn_8 ⟨Nat.le_of_ble_eq_true rfl, Nat.le_of_ble_eq_true rfl⟩ [0] [1] rfl rfl (by decide) rfl rfl (fun u_6 H locs w_6 h_6 => ?_)
    clear h
    obtain ⟨w6_0, w6_1, y6_0, y6_1, _⟩ := w_6
    have lq_6_1 : (4 : Int32).toInt = 4 := (by decide)
    replace h_6 : qW D _ _ (wk_e69636a28 cy h1 f0 h0 p1 w0 w1 h1 w2 p2 p3 p4 p5 p6 p7 (u_6.2.1 0 0) (u_6.2.1 1 0) p10 p11 p12 w3 w4 w5 w6 w7 p13 p14 w8 w9 w10 p15 p16 w11 w12 w13 w14 w15 p17 w16 w17 w18) _ _ := h_6
    refine lv_aload_n hx hb dX12_goesIn_11 rfl (lv_at hl 0 rfl) ?_
    refine q_get X hK h_6 1 rfl rfl wf_12 11 (by decide) rfl wm_5_181 dX12_goesIn_12 ?_
    refine lv_if_ne (tgt := 22) hx hb dX12_goesIn_15 (by decide) (fun c_7 => ?_) (fun c_7 => ?_)
    · replace c_7 := i_ne (x := (u_6.2.1 0 0)) (y := 0) rfl (show (0 : Int32).toInt = 0 by decide) c_7
      refine lv_aload_n hx hb dX12_goesIn_22 rfl (lv_at hl 0 rfl) ?_
      refine q_get X hK h_6 1 rfl rfl wf_12 11 (by decide) rfl wm_5_181 dX12_goesIn_23 ?_
      refine lv_if_ne (tgt := 33) hx hb dX12_goesIn_26 (by decide) (fun c_8 => ?_) (fun c_8 => ?_)
      · replace c_8 := i_ne (x := (u_6.2.1 0 0)) (y := 0) rfl (show (0 : Int32).toInt = 0 by decide) c_8
        refine lv_iconst (v := 0) hx hb dX12_goesIn_33 (by decide) ?_
        exact q_iret X hr hlk hK h_6 rfl (fun _ => 0, (vcons (fun _ => p3) (vcons (fun _ => p4) (vcons (fun _ => p6) (vcons (fun _ => p7) (vcons (fun _ => (u_6.2.1 0 0)) (vcons (fun _ => (u_6.2.1 1 0)) (fun _ => (fun _ => 0)))))))), fun _ _ => 0) ⟨⟨by decide +kernel, by decide +kernel⟩, hp3, hp4, hp6, hp7, w6_0, w6_1, hpre0, hpre1, (show (p3 : Int32).toInt ≤ (p3 : Int32).toInt from (Int.le_refl _)), (show ((u_6.2.1 0 0) : Int32).toInt ≠ 0 ∨ (p8 : Int32).toInt = 0 from by (first | (clear hpre1; omega) | omega)), (show ((0 : Int32).toInt = 0 ∧ ((u_6.2.1 0 0) : Int32).toInt ≠ 0) ∨ ((0 : Int32).toInt = 1 ∧ ((u_6.2.1 0 0) : Int32).toInt = 0 ∧ (p3 : Int32).toInt + 1 ≤ (p3 : Int32).toInt) from by have q0 : (0 : Int32).toInt = 0 := (by decide); (first | (clear hpre1; omega) | omega)), (show (0 : Int32).toInt = 0 ∨ (p0 : Int32).toInt ≠ 6 from by have q0 : (0 : Int32).toInt = 0 := (by decide); (first | (clear hpre1; omega) | omega)), (show ALT (0 : Int32).toInt 0 1 ((p8 : Int32).toInt ≠ 0 ∨ ((p0 : Int32).toInt = 6 ∧ SIMR f0 (p5 : Int32).toInt (fun b n i => er b n 4 i) (p3 : Int32).toInt (p4 : Int32).toInt (p6 : Int32).toInt (p7 : Int32).toInt (p8 : Int32).toInt (p9 : Int32).toInt (p3 : Int32).toInt (p4 : Int32).toInt (p6 : Int32).toInt (p7 : Int32).toInt ((u_6.2.1 0 0) : Int32).toInt ((u_6.2.1 1 0) : Int32).toInt)) ((p0 : Int32).toInt ≠ 6 ∧ ((u_6.2.1 0 0) : Int32).toInt = 0 ∧ NXR f0 (p5 : Int32).toInt (p4 : Int32).toInt (p3 : Int32).toInt (p4 : Int32).toInt (p6 : Int32).toInt (p7 : Int32).toInt) from by first | (exfalso; omega) | exact alt_1 (by decide) (Or.inl (by (first | assumption | (clear hpre1; omega) | omega))) | exact alt_1 (by decide) (Or.inr ⟨(by (first | assumption | (clear hpre1; omega) | omega)), smr_er (by (first | assumption | (clear hpre1; omega) | omega)) y6_1⟩)), (show (0 : Int32).toInt = 1 ∨ (p8 : Int32).toInt ≠ 0 ∨ (p0 : Int32).toInt = 6 from by have q0 : (0 : Int32).toInt = 0 := (by decide); (first | (clear hpre1; omega) | omega)), trivial⟩ [1, 0] rfl rfl dX12_goesIn_34 (Nat.le_of_ble_eq_true rfl) (Nat.le_of_ble_eq_true rfl)
      · replace c_8 := i_eq (x := (u_6.2.1 0 0)) (y := 0) rfl (show (0 : Int32).toInt = 0 by decide) c_8
        refine lv_iconst (v := 1) hx hb dX12_goesIn_29 (by decide) ?_
        refine lv_goto (tgt := 34) hx hb dX12_goesIn_30 (by decide) ?_
        exact q_iret X hr hlk hK h_6 rfl (fun _ => 0, (vcons (fun _ => p3) (vcons (fun _ => p4) (vcons (fun _ => p6) (vcons (fun _ => p7) (vcons (fun _ => (u_6.2.1 0 0)) (vcons (fun _ => (u_6.2.1 1 0)) (fun _ => (fun _ => 0)))))))), fun _ _ => 0) ⟨⟨by decide +kernel, by decide +kernel⟩, hp3, hp4, hp6, hp7, w6_0, w6_1, hpre0, hpre1, (show (p3 : Int32).toInt ≤ (p3 : Int32).toInt from (Int.le_refl _)), (show ((u_6.2.1 0 0) : Int32).toInt ≠ 0 ∨ (p8 : Int32).toInt = 0 from by (first | (clear hpre1; omega) | omega)), (show ((1 : Int32).toInt = 0 ∧ ((u_6.2.1 0 0) : Int32).toInt ≠ 0) ∨ ((1 : Int32).toInt = 1 ∧ ((u_6.2.1 0 0) : Int32).toInt = 0 ∧ (p3 : Int32).toInt + 1 ≤ (p3 : Int32).toInt) from by have q0 : (1 : Int32).toInt = 1 := (by decide); (first | (clear hpre1; omega) | omega)), (show (1 : Int32).toInt = 0 ∨ (p0 : Int32).toInt ≠ 6 from by have q0 : (1 : Int32).toInt = 1 := (by decide); (first | (clear hpre1; omega) | omega)), (show ALT (1 : Int32).toInt 0 1 ((p8 : Int32).toInt ≠ 0 ∨ ((p0 : Int32).toInt = 6 ∧ SIMR f0 (p5 : Int32).toInt (fun b n i => er b n 4 i) (p3 : Int32).toInt (p4 : Int32).toInt (p6 : Int32).toInt (p7 : Int32).toInt (p8 : Int32).toInt (p9 : Int32).toInt (p3 : Int32).toInt (p4 : Int32).toInt (p6 : Int32).toInt (p7 : Int32).toInt ((u_6.2.1 0 0) : Int32).toInt ((u_6.2.1 1 0) : Int32).toInt)) ((p0 : Int32).toInt ≠ 6 ∧ ((u_6.2.1 0 0) : Int32).toInt = 0 ∧ NXR f0 (p5 : Int32).toInt (p4 : Int32).toInt (p3 : Int32).toInt (p4 : Int32).toInt (p6 : Int32).toInt (p7 : Int32).toInt) from by first | (exfalso; omega) | exact alt_1 (by decide) (Or.inl (by (first | assumption | (clear hpre1; omega) | omega))) | exact alt_1 (by decide) (Or.inr ⟨(by (first | assumption | (clear hpre1; omega) | omega)), smr_er (by (first | assumption | (clear hpre1; omega) | omega)) y6_1⟩)), (show (1 : Int32).toInt = 1 ∨ (p8 : Int32).toInt ≠ 0 ∨ (p0 : Int32).toInt = 6 from by have q0 : (1 : Int32).toInt = 1 := (by decide); (first | (clear hpre1; omega) | omega)), trivial⟩ [1, 0] rfl rfl dX12_goesIn_34 (Nat.le_of_ble_eq_true rfl) (Nat.le_of_ble_eq_true rfl)
    · replace c_7 := i_eq (x := (u_6.2.1 0 0)) (y := 0) rfl (show (0 : Int32).toInt = 0 by decide) c_7
      refine lv_aload_n hx hb dX12_goesIn_18 rfl (lv_at hl 0 rfl) ?_
      refine q_callVv (rest := []) (wr := []) X hK hT hA h_6 (fun sz => gX12_next_c515fc5 l D cy h0 h1 p1 w0 w1 w2 p2 p3 p4 p5 p6 p7 (u_6.2.1 0 0) (u_6.2.1 1 0) p10 p11 p12 w3 w4 w5 w6 w7 p13 p14 w8 w9 w10 p15 p16 w11 w12 w13 w14 w15 p17 w16 w17 w18 f0 hp1 hp2 hp3 hp4 hp5 (i_rng _) hp7 (i_rng _) (i_rng _) (i_rng _) (i_rng _) (i_rng _) (i_rng _) (i_rng _) (i_rng _) (i_rng _) (i_rng _) (by (first | (clear hpre1; omega) | omega)) sz) wm_6_53 wm_6_56 wm_1_12 hd_X12_next wm_6_55 wp_4_3 (ci := 12) (q0 := 0) rfl rfl ⟨Nat.le_of_ble_eq_true rfl, Nat.le_of_ble_eq_true rfl⟩ hl.1 rfl (Nat.le_of_ble_eq_true rfl) dX12_goesIn_19 ⟨Nat.le_of_ble_eq_true rfl, Nat.le_of_ble_eq_true rfl⟩ [1, 0] [] rfl rfl (by decide) rfl rfl (fun u_9 H locs w_9 h_9 => ?_)
      clear h_6
      obtain ⟨w9_0, w9_1, w9_2, w9_3, y9_0, y9_1, y9_2, y9_3, _⟩ := w_9
      replace h_9 : qW D _ _ (wk_253faa1b8 cy h0 p1 w0 w1 h1 w2 p2 (u_9.2.1 0 0) (u_9.2.1 1 0) p5 (u_9.2.1 2 0) (u_9.2.1 3 0) (u_6.2.1 0 0) (u_6.2.1 1 0) p10 p11 p12 w3 w4 w5 w6 w7 p13 p14 w8 w9 w10 p15 p16 w11 w12 w13 w14 w15 p17 w16 w17 w18 h1 f0) _ _ := h_9
      refine lv_aload_n hx hb dX12_goesIn_22 rfl (lv_at hl 0 rfl) ?_
      refine q_get X hK h_9 0 rfl rfl wf_12 11 (by decide) rfl wm_5_181 dX12_goesIn_23 ?_
      refine lv_if_ne (tgt := 33) hx hb dX12_goesIn_26 (by decide) (fun c_10 => ?_) (fun c_10 => ?_)
      · replace c_10 := i_ne (x := (u_6.2.1 0 0)) (y := 0) rfl (show (0 : Int32).toInt = 0 by decide) c_10
        exfalso
        omega
      · replace c_10 := i_eq (x := (u_6.2.1 0 0)) (y := 0) rfl (show (0 : Int32).toInt = 0 by decide) c_10
        refine lv_iconst (v := 1) hx hb dX12_goesIn_29 (by decide) ?_
        refine lv_goto (tgt := 34) hx hb dX12_goesIn_30 (by decide) ?_
        exact q_iret X hr hlk hK h_9 rfl (fun _ => 0, (vcons (fun _ => (u_9.2.1 0 0)) (vcons (fun _ => (u_9.2.1 1 0)) (vcons (fun _ => (u_9.2.1 2 0)) (vcons (fun _ => (u_9.2.1 3 0)) (vcons (fun _ => (u_6.2.1 0 0)) (vcons (fun _ => (u_6.2.1 1 0)) (fun _ => (fun _ => 0)))))))), fun _ _ => 0) ⟨⟨by decide +kernel, by decide +kernel⟩, w9_0, w9_1, (bw w9_2 (by decide) (by decide)), w9_3, w6_0, w6_1, y9_0, y9_1, (show (p3 : Int32).toInt ≤ ((u_9.2.1 0 0) : Int32).toInt from by (first | (clear hpre1 y9_1; omega) | omega)), (show ((u_6.2.1 0 0) : Int32).toInt ≠ 0 ∨ (p8 : Int32).toInt = 0 from by (first | (clear hpre1 y9_1; omega) | omega)), (show ((1 : Int32).toInt = 0 ∧ ((u_6.2.1 0 0) : Int32).toInt ≠ 0) ∨ ((1 : Int32).toInt = 1 ∧ ((u_6.2.1 0 0) : Int32).toInt = 0 ∧ (p3 : Int32).toInt + 1 ≤ ((u_9.2.1 0 0) : Int32).toInt) from by have q0 : (1 : Int32).toInt = 1 := (by decide); (first | (clear hpre1 y9_1; omega) | omega)), (show (1 : Int32).toInt = 0 ∨ (p0 : Int32).toInt ≠ 6 from by have q0 : (1 : Int32).toInt = 1 := (by decide); (first | (clear hpre1 y9_1; omega) | omega)), (show ALT (1 : Int32).toInt 0 1 ((p8 : Int32).toInt ≠ 0 ∨ ((p0 : Int32).toInt = 6 ∧ SIMR f0 (p5 : Int32).toInt (fun b n i => er b n 4 i) (p3 : Int32).toInt (p4 : Int32).toInt (p6 : Int32).toInt (p7 : Int32).toInt (p8 : Int32).toInt (p9 : Int32).toInt ((u_9.2.1 0 0) : Int32).toInt ((u_9.2.1 1 0) : Int32).toInt ((u_9.2.1 2 0) : Int32).toInt ((u_9.2.1 3 0) : Int32).toInt ((u_6.2.1 0 0) : Int32).toInt ((u_6.2.1 1 0) : Int32).toInt)) ((p0 : Int32).toInt ≠ 6 ∧ ((u_6.2.1 0 0) : Int32).toInt = 0 ∧ NXR f0 (p5 : Int32).toInt (p4 : Int32).toInt ((u_9.2.1 0 0) : Int32).toInt ((u_9.2.1 1 0) : Int32).toInt ((u_9.2.1 2 0) : Int32).toInt ((u_9.2.1 3 0) : Int32).toInt) from by first | (exfalso; omega) | exact alt_1 (by decide) (Or.inl (by (first | assumption | (clear hpre1 y9_1; omega) | omega))) | exact alt_1 (by decide) (Or.inr ⟨(by (first | assumption | (clear hpre1 y9_1; omega) | omega)), smr_er (by (first | assumption | (clear hpre1 y9_1; omega) | omega)) y6_1⟩) | exact alt_2 (by decide) ⟨(by (first | assumption | (clear hpre1 y9_1; omega) | omega)), (by (first | assumption | (clear hpre1 y9_1; omega) | omega)), y9_3⟩), (show (1 : Int32).toInt = 1 ∨ (p8 : Int32).toInt ≠ 0 ∨ (p0 : Int32).toInt = 6 from by have q0 : (1 : Int32).toInt = 1 := (by decide); (first | (clear hpre1 y9_1; omega) | omega)), trivial⟩ [0, 1] rfl rfl dX12_goesIn_34 (Nat.le_of_ble_eq_true rfl) (Nat.le_of_ble_eq_true rfl)
set_option maxHeartbeats 4000000 in
set_option maxRecDepth 100000 in
theorem gX12_wordOf_58ec49f (l : Launch) (D : va_G) (cy : Nat → ClassId) (h0 : Nat) (p0 : Int32) (p1 : Int32) (w0 : Value) (w1 : Value) (w2 : Value) (w3 : Value) (p2 : Int32) (p3 : Int32) (p4 : Int32) (p5 : Int32) (p6 : Int32) (p7 : Int32) (p8 : Int32) (p9 : Int32) (p10 : Int32) (p11 : Int32) (w4 : Value) (w5 : Value) (w6 : Value) (w7 : Value) (w8 : Value) (p12 : Int32) (p13 : Int32) (w9 : Value) (w10 : Value) (w11 : Value) (p14 : Int32) (p15 : Int32) (w12 : Value) (w13 : Value) (w14 : Value) (w15 : Value) (w16 : Value) (p16 : Int32) (w17 : Value) (w18 : Value) (w19 : Value) (hp0 : (-2147483648) ≤ (p0).toInt ∧ (p0).toInt ≤ 2147483647) (hp1 : 0 ≤ (p1).toInt ∧ (p1).toInt ≤ 0) (hp2 : 0 ≤ (p2).toInt ∧ (p2).toInt ≤ 900) (hp3 : 0 ≤ (p3).toInt ∧ (p3).toInt ≤ 900) (hp4 : 0 ≤ (p4).toInt ∧ (p4).toInt ≤ 900) (hp5 : 0 ≤ (p5).toInt ∧ (p5).toInt ≤ 900) (hp6 : 0 ≤ (p6).toInt ∧ (p6).toInt ≤ 999) (hp7 : (-2147483648) ≤ (p7).toInt ∧ (p7).toInt ≤ 2147483647) (hp8 : (-2147483648) ≤ (p8).toInt ∧ (p8).toInt ≤ 2147483647) (hp9 : (-2147483648) ≤ (p9).toInt ∧ (p9).toInt ≤ 2147483647) (hp10 : (-2147483648) ≤ (p10).toInt ∧ (p10).toInt ≤ 2147483647) (hp11 : (-2147483648) ≤ (p11).toInt ∧ (p11).toInt ≤ 2147483647) (hp12 : (-2147483648) ≤ (p12).toInt ∧ (p12).toInt ≤ 2147483647) (hp13 : (-2147483648) ≤ (p13).toInt ∧ (p13).toInt ≤ 2147483647) (hp14 : (-2147483648) ≤ (p14).toInt ∧ (p14).toInt ≤ 2147483647) (hp15 : (-2147483648) ≤ (p15).toInt ∧ (p15).toInt ≤ 2147483647) (hp16 : (-2147483648) ≤ (p16).toInt ∧ (p16).toInt ≤ 2147483647) (sz : Nat) : MI l yX12_wordOf cX12_wordOf 2 .int { frames := 1, cells := 0, slots := 0, locals := 25 } [.ref h0, .int p0] D cy [(h0, .inr (12, [.int p1, w0, w1, w2, w3, .int p2, .int p3, .int p4, .int p5, .int p0, .int p6, .int p7, .int p8, .int p9, .int p10, .int p11, w4, w5, w6, w7, w8, .int p12, .int p13, w9, w10, w11, .int p14, .int p15, w12, w13, w14, w15, w16, .int p16, w17, w18, w19]))] sz (fun r u => ((-1) ≤ r.toInt ∧ r.toInt ≤ 10) ∧ (-1 ≤ (r : Int32).toInt ∧ (r : Int32).toInt ≤ 10) ∧ ((r : Int32).toInt = -1 ∨ (p0 : Int32).toInt ≠ 26) ∧ (WDP (r : Int32).toInt (p0 : Int32).toInt (p11 : Int32).toInt) ∧ True) (fun u => [(h0, .inr (12, [.int p1, w0, w1, w2, w3, .int p2, .int p3, .int p4, .int p5, .int p0, .int p6, .int p7, .int p8, .int p9, .int p10, .int p11, w4, w5, w6, w7, w8, .int p12, .int p13, w9, w10, w11, .int p14, .int p15, w12, w13, w14, w15, w16, .int p16, w17, w18, w19]))]) 0 0 := by
  refine q_ent (own := RX12) (by decide) rfl (Nat.le_of_ble_eq_true rfl) (fun p e s m below meth c ls X hr hlk hnm hK hT h hA hl => ?_)
  obtain ⟨hx, hb, hml, hown, ht⟩ := id X
  replace hl : lv_has ls 2 [(0, .ref h0), (1, .int p0)] := hl
  refine lv_iload_n hx hb dX12_wordOf_0 rfl (lv_at hl 1 rfl) ?_
  refine lv_i2l hx hb dX12_wordOf_1 rfl ?_
  obtain ⟨z_1, ez_1, hz_1⟩ := e_i2l (x := p0) rfl
  refine q_cl z_1 ez_1 ?_
  clear ez_1
  refine lv_ldc2 hx hb hown (ht _ wm_6_134) dX12_wordOf_2 ?_
  refine lv_ldc2 hx hb hown (ht _ wm_6_135) dX12_wordOf_5 ?_
  refine q_callSi (rest := []) (wr := [(h0, .inr (12, [.int p1, w0, w1, w2, w3, .int p2, .int p3, .int p4, .int p5, .int p0, .int p6, .int p7, .int p8, .int p9, .int p10, .int p11, w4, w5, w6, w7, w8, .int p12, .int p13, w9, w10, w11, .int p14, .int p15, w12, w13, w14, w15, w16, .int p16, w17, w18, w19]))]) X hK hT hA h (fun sz => gX12_within_00c7897 l D cy z_1 (11 : Int64) (14 : Int64) (j_rng _) ⟨by decide +kernel, by decide +kernel⟩ ⟨by decide +kernel, by decide +kernel⟩ sz) wm_6_50 wm_6_52 wm_1_12 hd_X12_within wm_6_51 ⟨Nat.le_of_ble_eq_true rfl, Nat.le_of_ble_eq_true rfl⟩ hl.1 rfl (Nat.le_of_ble_eq_true rfl) dX12_wordOf_8 ⟨Nat.le_of_ble_eq_true rfl, Nat.le_of_ble_eq_true rfl⟩ [] [0] rfl rfl (by decide) rfl rfl (fun r_2 u_2 H locs w_2 h_2 => ?_)
  clear h
  obtain ⟨wr_2, y2_0, _⟩ := w_2
  have lq_2_1 : (11 : Int64).toInt = 11 := (by decide)
  have lq_2_2 : (14 : Int64).toInt = 14 := (by decide)
  replace h_2 : qW D _ _ [(h0, .inr (12, [.int p1, w0, w1, w2, w3, .int p2, .int p3, .int p4, .int p5, .int p0, .int p6, .int p7, .int p8, .int p9, .int p10, .int p11, w4, w5, w6, w7, w8, .int p12, .int p13, w9, w10, w11, .int p14, .int p15, w12, w13, w14, w15, w16, .int p16, w17, w18, w19]))] _ _ := h_2
  refine lv_if_eq (tgt := 19) hx hb dX12_wordOf_11 (by decide) (fun c_3 => ?_) (fun c_3 => ?_)
  · replace c_3 := i_eq (x := r_2) (y := 0) rfl (show (0 : Int32).toInt = 0 by decide) c_3
    replace y2_0 := a10_0 y2_0 c_3
    refine lv_iload_n hx hb dX12_wordOf_19 rfl (lv_at hl 1 rfl) ?_
    refine lv_bipush (v := 10) hx hb dX12_wordOf_20 (by decide) ?_
    refine lv_icmp_ne (tgt := 27) hx hb dX12_wordOf_22 (by decide) (fun c_4 => ?_) (fun c_4 => ?_)
    · replace c_4 := i_ne (x := p0) (y := 10) rfl (show (10 : Int32).toInt = 10 by decide) c_4
      refine lv_iload_n hx hb dX12_wordOf_27 rfl (lv_at hl 1 rfl) ?_
      refine lv_i2l hx hb dX12_wordOf_28 rfl ?_
      obtain ⟨z_5, ez_5, hz_5⟩ := e_i2l (x := p0) rfl
      refine q_cl z_5 ez_5 ?_
      clear ez_5
      refine lv_ldc2 hx hb hown (ht _ wm_6_136) dX12_wordOf_29 ?_
      refine lv_ldc2 hx hb hown (ht _ wm_6_137) dX12_wordOf_32 ?_
      refine q_callSi (rest := []) (wr := [(h0, .inr (12, [.int p1, w0, w1, w2, w3, .int p2, .int p3, .int p4, .int p5, .int p0, .int p6, .int p7, .int p8, .int p9, .int p10, .int p11, w4, w5, w6, w7, w8, .int p12, .int p13, w9, w10, w11, .int p14, .int p15, w12, w13, w14, w15, w16, .int p16, w17, w18, w19]))]) X hK hT hA h_2 (fun sz => gX12_within_00c7897 l D cy z_5 (15 : Int64) (18 : Int64) (j_rng _) ⟨by decide +kernel, by decide +kernel⟩ ⟨by decide +kernel, by decide +kernel⟩ sz) wm_6_50 wm_6_52 wm_1_12 hd_X12_within wm_6_51 ⟨Nat.le_of_ble_eq_true rfl, Nat.le_of_ble_eq_true rfl⟩ hl.1 rfl (Nat.le_of_ble_eq_true rfl) dX12_wordOf_35 ⟨Nat.le_of_ble_eq_true rfl, Nat.le_of_ble_eq_true rfl⟩ [] [0] rfl rfl (by decide) rfl rfl (fun r_6 u_6 H locs w_6 h_6 => ?_)
      clear h_2
      obtain ⟨wr_6, y6_0, _⟩ := w_6
      have lq_6_1 : (15 : Int64).toInt = 15 := (by decide)
      have lq_6_2 : (18 : Int64).toInt = 18 := (by decide)
      replace h_6 : qW D _ _ [(h0, .inr (12, [.int p1, w0, w1, w2, w3, .int p2, .int p3, .int p4, .int p5, .int p0, .int p6, .int p7, .int p8, .int p9, .int p10, .int p11, w4, w5, w6, w7, w8, .int p12, .int p13, w9, w10, w11, .int p14, .int p15, w12, w13, w14, w15, w16, .int p16, w17, w18, w19]))] _ _ := h_6
      refine lv_if_eq (tgt := 60) hx hb dX12_wordOf_38 (by decide) (fun c_7 => ?_) (fun c_7 => ?_)
      · replace c_7 := i_eq (x := r_6) (y := 0) rfl (show (0 : Int32).toInt = 0 by decide) c_7
        replace y6_0 := a10_0 y6_0 c_7
        refine lv_iload_n hx hb dX12_wordOf_60 rfl (lv_at hl 1 rfl) ?_
        refine lv_bipush (v := 19) hx hb dX12_wordOf_61 (by decide) ?_
        refine lv_icmp_ne (tgt := 79) hx hb dX12_wordOf_63 (by decide) (fun c_8 => ?_) (fun c_8 => ?_)
        · replace c_8 := i_ne (x := p0) (y := 19) rfl (show (19 : Int32).toInt = 19 by decide) c_8
          refine lv_iload_n hx hb dX12_wordOf_79 rfl (lv_at hl 1 rfl) ?_
          refine lv_bipush (v := 20) hx hb dX12_wordOf_80 (by decide) ?_
          refine lv_icmp_ne (tgt := 98) hx hb dX12_wordOf_82 (by decide) (fun c_9 => ?_) (fun c_9 => ?_)
          · replace c_9 := i_ne (x := p0) (y := 20) rfl (show (20 : Int32).toInt = 20 by decide) c_9
            refine lv_iconst (v := (-1)) hx hb dX12_wordOf_98 (by decide) ?_
            exact q_iret X hr hlk hK h_6 rfl (fun _ => 0, fun _ _ => 0, fun _ _ => 0) ⟨⟨by decide +kernel, by decide +kernel⟩, (show -1 ≤ ((-1) : Int32).toInt ∧ ((-1) : Int32).toInt ≤ 10 from by have q0 : ((-1) : Int32).toInt = -1 := (by decide); (first | (clear y2_0 y6_0; omega) | omega)), (show ((-1) : Int32).toInt = -1 ∨ (p0 : Int32).toInt ≠ 26 from by have q0 : ((-1) : Int32).toInt = -1 := (by decide); (first | (clear y2_0 y6_0; omega) | omega)), (show WDP ((-1) : Int32).toInt (p0 : Int32).toInt (p11 : Int32).toInt from by unfold WDP CND; have q0 : ((-1) : Int32).toInt = -1 := (by decide); omega), trivial⟩ [0] rfl rfl dX12_wordOf_99 (Nat.le_of_ble_eq_true rfl) (Nat.le_of_ble_eq_true rfl)
          · replace c_9 := i_eq (x := p0) (y := 20) rfl (show (20 : Int32).toInt = 20 by decide) c_9
            refine lv_aload_n hx hb dX12_wordOf_85 rfl (lv_at hl 0 rfl) ?_
            refine q_get X hK h_6 0 rfl rfl wf_12 15 (by decide) rfl wm_5_185 dX12_wordOf_86 ?_
            refine lv_iconst (v := 2) hx hb dX12_wordOf_89 (by decide) ?_
            refine lv_icmp_ne (tgt := 98) hx hb dX12_wordOf_90 (by decide) (fun c_10 => ?_) (fun c_10 => ?_)
            · replace c_10 := i_ne (x := p11) (y := 2) rfl (show (2 : Int32).toInt = 2 by decide) c_10
              refine lv_iconst (v := (-1)) hx hb dX12_wordOf_98 (by decide) ?_
              exact q_iret X hr hlk hK h_6 rfl (fun _ => 0, fun _ _ => 0, fun _ _ => 0) ⟨⟨by decide +kernel, by decide +kernel⟩, (show -1 ≤ ((-1) : Int32).toInt ∧ ((-1) : Int32).toInt ≤ 10 from by have q0 : ((-1) : Int32).toInt = -1 := (by decide); (first | (clear y2_0 y6_0; omega) | omega)), (show ((-1) : Int32).toInt = -1 ∨ (p0 : Int32).toInt ≠ 26 from by have q0 : ((-1) : Int32).toInt = -1 := (by decide); (first | (clear y2_0 y6_0; omega) | omega)), (show WDP ((-1) : Int32).toInt (p0 : Int32).toInt (p11 : Int32).toInt from by unfold WDP CND; have q0 : ((-1) : Int32).toInt = -1 := (by decide); omega), trivial⟩ [0] rfl rfl dX12_wordOf_99 (Nat.le_of_ble_eq_true rfl) (Nat.le_of_ble_eq_true rfl)
            · replace c_10 := i_eq (x := p11) (y := 2) rfl (show (2 : Int32).toInt = 2 by decide) c_10
              refine lv_bipush (v := 10) hx hb dX12_wordOf_93 (by decide) ?_
              refine lv_goto (tgt := 99) hx hb dX12_wordOf_95 (by decide) ?_
              exact q_iret X hr hlk hK h_6 rfl (fun _ => 0, fun _ _ => 0, fun _ _ => 0) ⟨⟨by decide +kernel, by decide +kernel⟩, (show -1 ≤ (10 : Int32).toInt ∧ (10 : Int32).toInt ≤ 10 from by have q0 : (10 : Int32).toInt = 10 := (by decide); (first | (clear y2_0 y6_0; omega) | omega)), (show (10 : Int32).toInt = -1 ∨ (p0 : Int32).toInt ≠ 26 from by have q0 : (10 : Int32).toInt = 10 := (by decide); (first | (clear y2_0 y6_0; omega) | omega)), (show WDP (10 : Int32).toInt (p0 : Int32).toInt (p11 : Int32).toInt from by unfold WDP CND; have q0 : (10 : Int32).toInt = 10 := (by decide); omega), trivial⟩ [0] rfl rfl dX12_wordOf_99 (Nat.le_of_ble_eq_true rfl) (Nat.le_of_ble_eq_true rfl)
        · replace c_8 := i_eq (x := p0) (y := 19) rfl (show (19 : Int32).toInt = 19 by decide) c_8
          refine lv_aload_n hx hb dX12_wordOf_66 rfl (lv_at hl 0 rfl) ?_
          refine q_get X hK h_6 0 rfl rfl wf_12 15 (by decide) rfl wm_5_185 dX12_wordOf_67 ?_
          refine lv_iconst (v := 1) hx hb dX12_wordOf_70 (by decide) ?_
          refine lv_icmp_ne (tgt := 79) hx hb dX12_wordOf_71 (by decide) (fun c_11 => ?_) (fun c_11 => ?_)
          · replace c_11 := i_ne (x := p11) (y := 1) rfl (show (1 : Int32).toInt = 1 by decide) c_11
            refine lv_iload_n hx hb dX12_wordOf_79 rfl (lv_at hl 1 rfl) ?_
            refine lv_bipush (v := 20) hx hb dX12_wordOf_80 (by decide) ?_
            refine lv_icmp_ne (tgt := 98) hx hb dX12_wordOf_82 (by decide) (fun c_12 => ?_) (fun c_12 => ?_)
            · replace c_12 := i_ne (x := p0) (y := 20) rfl (show (20 : Int32).toInt = 20 by decide) c_12
              refine lv_iconst (v := (-1)) hx hb dX12_wordOf_98 (by decide) ?_
              exact q_iret X hr hlk hK h_6 rfl (fun _ => 0, fun _ _ => 0, fun _ _ => 0) ⟨⟨by decide +kernel, by decide +kernel⟩, (show -1 ≤ ((-1) : Int32).toInt ∧ ((-1) : Int32).toInt ≤ 10 from by have q0 : ((-1) : Int32).toInt = -1 := (by decide); (first | (clear y2_0 y6_0; omega) | omega)), (show ((-1) : Int32).toInt = -1 ∨ (p0 : Int32).toInt ≠ 26 from by have q0 : ((-1) : Int32).toInt = -1 := (by decide); (first | (clear y2_0 y6_0; omega) | omega)), (show WDP ((-1) : Int32).toInt (p0 : Int32).toInt (p11 : Int32).toInt from by unfold WDP CND; have q0 : ((-1) : Int32).toInt = -1 := (by decide); omega), trivial⟩ [0] rfl rfl dX12_wordOf_99 (Nat.le_of_ble_eq_true rfl) (Nat.le_of_ble_eq_true rfl)
            · replace c_12 := i_eq (x := p0) (y := 20) rfl (show (20 : Int32).toInt = 20 by decide) c_12
              exfalso
              omega
          · replace c_11 := i_eq (x := p11) (y := 1) rfl (show (1 : Int32).toInt = 1 by decide) c_11
            refine lv_bipush (v := 9) hx hb dX12_wordOf_74 (by decide) ?_
            refine lv_goto (tgt := 99) hx hb dX12_wordOf_76 (by decide) ?_
            exact q_iret X hr hlk hK h_6 rfl (fun _ => 0, fun _ _ => 0, fun _ _ => 0) ⟨⟨by decide +kernel, by decide +kernel⟩, (show -1 ≤ (9 : Int32).toInt ∧ (9 : Int32).toInt ≤ 10 from by have q0 : (9 : Int32).toInt = 9 := (by decide); (first | (clear y2_0 y6_0; omega) | omega)), (show (9 : Int32).toInt = -1 ∨ (p0 : Int32).toInt ≠ 26 from by have q0 : (9 : Int32).toInt = 9 := (by decide); (first | (clear y2_0 y6_0; omega) | omega)), (show WDP (9 : Int32).toInt (p0 : Int32).toInt (p11 : Int32).toInt from by unfold WDP CND; have q0 : (9 : Int32).toInt = 9 := (by decide); omega), trivial⟩ [0] rfl rfl dX12_wordOf_99 (Nat.le_of_ble_eq_true rfl) (Nat.le_of_ble_eq_true rfl)
      · replace c_7 := i_ne (x := r_6) (y := 0) rfl (show (0 : Int32).toInt = 0 by decide) c_7
        replace y6_0 := a10_1 y6_0 c_7
        refine lv_aload_n hx hb dX12_wordOf_41 rfl (lv_at hl 0 rfl) ?_
        refine q_get X hK h_6 0 rfl rfl wf_12 15 (by decide) rfl wm_5_185 dX12_wordOf_42 ?_
        refine lv_iconst (v := 1) hx hb dX12_wordOf_45 (by decide) ?_
        refine lv_icmp_ne (tgt := 53) hx hb dX12_wordOf_46 (by decide) (fun c_13 => ?_) (fun c_13 => ?_)
        · replace c_13 := i_ne (x := p11) (y := 1) rfl (show (1 : Int32).toInt = 1 by decide) c_13
          refine lv_iconst (v := 5) hx hb dX12_wordOf_53 (by decide) ?_
          refine lv_iload_n hx hb dX12_wordOf_54 rfl (lv_at hl 1 rfl) ?_
          refine lv_iadd hx hb dX12_wordOf_55 ?_
          obtain ⟨z_14, ez_14, hz_14⟩ := e_add (x := 5) (y := p0) (show (5 : Int32).toInt = 5 by decide) rfl (by omega) (by omega)
          refine q_c z_14 ez_14 ?_
          clear ez_14
          refine lv_bipush (v := 15) hx hb dX12_wordOf_56 (by decide) ?_
          refine lv_isub hx hb dX12_wordOf_58 ?_
          obtain ⟨z_15, ez_15, hz_15⟩ := e_sub (x := z_14) (y := 15) rfl (show (15 : Int32).toInt = 15 by decide) (by omega) (by omega)
          refine q_c z_15 ez_15 ?_
          clear ez_15
          exact q_iret X hr hlk hK h_6 rfl (fun _ => 0, fun _ _ => 0, fun _ _ => 0) ⟨⟨by omega, by omega⟩, (show -1 ≤ (z_15 : Int32).toInt ∧ (z_15 : Int32).toInt ≤ 10 from by (first | (clear y2_0; omega) | omega)), (show (z_15 : Int32).toInt = -1 ∨ (p0 : Int32).toInt ≠ 26 from by (first | (clear y2_0; omega) | omega)), (show WDP (z_15 : Int32).toInt (p0 : Int32).toInt (p11 : Int32).toInt from by unfold WDP CND; omega), trivial⟩ [0] rfl rfl dX12_wordOf_59 (Nat.le_of_ble_eq_true rfl) (Nat.le_of_ble_eq_true rfl)
        · replace c_13 := i_eq (x := p11) (y := 1) rfl (show (1 : Int32).toInt = 1 by decide) c_13
          refine lv_iconst (v := (-1)) hx hb dX12_wordOf_49 (by decide) ?_
          refine lv_goto (tgt := 59) hx hb dX12_wordOf_50 (by decide) ?_
          exact q_iret X hr hlk hK h_6 rfl (fun _ => 0, fun _ _ => 0, fun _ _ => 0) ⟨⟨by decide +kernel, by decide +kernel⟩, (show -1 ≤ ((-1) : Int32).toInt ∧ ((-1) : Int32).toInt ≤ 10 from by have q0 : ((-1) : Int32).toInt = -1 := (by decide); (first | (clear y2_0; omega) | omega)), (show ((-1) : Int32).toInt = -1 ∨ (p0 : Int32).toInt ≠ 26 from by have q0 : ((-1) : Int32).toInt = -1 := (by decide); (first | (clear y2_0; omega) | omega)), (show WDP ((-1) : Int32).toInt (p0 : Int32).toInt (p11 : Int32).toInt from by unfold WDP CND; have q0 : ((-1) : Int32).toInt = -1 := (by decide); omega), trivial⟩ [0] rfl rfl dX12_wordOf_59 (Nat.le_of_ble_eq_true rfl) (Nat.le_of_ble_eq_true rfl)
    · replace c_4 := i_eq (x := p0) (y := 10) rfl (show (10 : Int32).toInt = 10 by decide) c_4
      refine lv_iconst (v := 4) hx hb dX12_wordOf_25 (by decide) ?_
      exact q_iret X hr hlk hK h_2 rfl (fun _ => 0, fun _ _ => 0, fun _ _ => 0) ⟨⟨by decide +kernel, by decide +kernel⟩, (show -1 ≤ (4 : Int32).toInt ∧ (4 : Int32).toInt ≤ 10 from by have q0 : (4 : Int32).toInt = 4 := (by decide); (first | (clear y2_0; omega) | omega)), (show (4 : Int32).toInt = -1 ∨ (p0 : Int32).toInt ≠ 26 from by have q0 : (4 : Int32).toInt = 4 := (by decide); (first | (clear y2_0; omega) | omega)), (show WDP (4 : Int32).toInt (p0 : Int32).toInt (p11 : Int32).toInt from by unfold WDP CND; have q0 : (4 : Int32).toInt = 4 := (by decide); omega), trivial⟩ [0] rfl rfl dX12_wordOf_26 (Nat.le_of_ble_eq_true rfl) (Nat.le_of_ble_eq_true rfl)
  · replace c_3 := i_ne (x := r_2) (y := 0) rfl (show (0 : Int32).toInt = 0 by decide) c_3
    replace y2_0 := a10_1 y2_0 c_3
    refine lv_iload_n hx hb dX12_wordOf_14 rfl (lv_at hl 1 rfl) ?_
    refine lv_bipush (v := 11) hx hb dX12_wordOf_15 (by decide) ?_
    refine lv_isub hx hb dX12_wordOf_17 ?_
    obtain ⟨z_16, ez_16, hz_16⟩ := e_sub (x := p0) (y := 11) rfl (show (11 : Int32).toInt = 11 by decide) (by omega) (by omega)
    refine q_c z_16 ez_16 ?_
    clear ez_16
    exact q_iret X hr hlk hK h_2 rfl (fun _ => 0, fun _ _ => 0, fun _ _ => 0) ⟨⟨by omega, by omega⟩, (show -1 ≤ (z_16 : Int32).toInt ∧ (z_16 : Int32).toInt ≤ 10 from by omega), (show (z_16 : Int32).toInt = -1 ∨ (p0 : Int32).toInt ≠ 26 from by omega), (show WDP (z_16 : Int32).toInt (p0 : Int32).toInt (p11 : Int32).toInt from by unfold WDP CND; omega), trivial⟩ [0] rfl rfl dX12_wordOf_18 (Nat.le_of_ble_eq_true rfl) (Nat.le_of_ble_eq_true rfl)
set_option maxHeartbeats 4000000 in
set_option maxRecDepth 100000 in
theorem gX12_is_4bc9911 (l : Launch) (D : va_G) (cy : Nat → ClassId) (h0 : Nat) (p0 : Int32) (w0 : Value) (w1 : Value) (w2 : Value) (w3 : Value) (p1 : Int32) (p2 : Int32) (p3 : Int32) (p4 : Int32) (p5 : Int32) (p6 : Int32) (p7 : Int32) (p8 : Int32) (p9 : Int32) (p10 : Int32) (p11 : Int32) (w4 : Value) (w5 : Value) (w6 : Value) (w7 : Value) (w8 : Value) (p12 : Int32) (p13 : Int32) (w9 : Value) (w10 : Value) (w11 : Value) (p14 : Int32) (p15 : Int32) (w12 : Value) (w13 : Value) (w14 : Value) (w15 : Value) (w16 : Value) (p16 : Int32) (w17 : Value) (w18 : Value) (w19 : Value) (hp0 : 0 ≤ (p0).toInt ∧ (p0).toInt ≤ 0) (hp1 : 0 ≤ (p1).toInt ∧ (p1).toInt ≤ 900) (hp2 : 0 ≤ (p2).toInt ∧ (p2).toInt ≤ 900) (hp3 : 0 ≤ (p3).toInt ∧ (p3).toInt ≤ 900) (hp4 : 0 ≤ (p4).toInt ∧ (p4).toInt ≤ 900) (hp5 : (-2147483648) ≤ (p5).toInt ∧ (p5).toInt ≤ 2147483647) (hp6 : 0 ≤ (p6).toInt ∧ (p6).toInt ≤ 999) (hp7 : (-2147483648) ≤ (p7).toInt ∧ (p7).toInt ≤ 2147483647) (hp8 : (-2147483648) ≤ (p8).toInt ∧ (p8).toInt ≤ 2147483647) (hp9 : (-2147483648) ≤ (p9).toInt ∧ (p9).toInt ≤ 2147483647) (hp10 : (-2147483648) ≤ (p10).toInt ∧ (p10).toInt ≤ 2147483647) (hp11 : (-2147483648) ≤ (p11).toInt ∧ (p11).toInt ≤ 2147483647) (hp12 : (-2147483648) ≤ (p12).toInt ∧ (p12).toInt ≤ 2147483647) (hp13 : (-2147483648) ≤ (p13).toInt ∧ (p13).toInt ≤ 2147483647) (hp14 : (-2147483648) ≤ (p14).toInt ∧ (p14).toInt ≤ 2147483647) (hp15 : (-2147483648) ≤ (p15).toInt ∧ (p15).toInt ≤ 2147483647) (hp16 : (-2147483648) ≤ (p16).toInt ∧ (p16).toInt ≤ 2147483647) (sz : Nat) : MI l yX12_is cX12_is 2 .boolean { frames := 0, cells := 0, slots := 0, locals := 0 } [.ref h0, .int 34] D cy [(h0, .inr (12, [.int p0, w0, w1, w2, w3, .int p1, .int p2, .int p3, .int p4, .int p5, .int p6, .int p7, .int p8, .int p9, .int p10, .int p11, w4, w5, w6, w7, w8, .int p12, .int p13, w9, w10, w11, .int p14, .int p15, w12, w13, w14, w15, w16, .int p16, w17, w18, w19]))] sz (fun r u => (0 ≤ r.toInt ∧ r.toInt ≤ 1) ∧ (((r : Int32).toInt = 1 ∧ (p7 : Int32).toInt = 0 ∧ (p5 : Int32).toInt = (34 : Int32).toInt) ∨ ((r : Int32).toInt = 0 ∧ ((p7 : Int32).toInt ≠ 0 ∨ (p5 : Int32).toInt ≠ (34 : Int32).toInt))) ∧ True) (fun u => [(h0, .inr (12, [.int p0, w0, w1, w2, w3, .int p1, .int p2, .int p3, .int p4, .int p5, .int p6, .int p7, .int p8, .int p9, .int p10, .int p11, w4, w5, w6, w7, w8, .int p12, .int p13, w9, w10, w11, .int p14, .int p15, w12, w13, w14, w15, w16, .int p16, w17, w18, w19]))]) 0 0 := by
  refine q_ent (own := RX12) (by decide) rfl (Nat.le_of_ble_eq_true rfl) (fun p e s m below meth c ls X hr hlk hnm hK hT h hA hl => ?_)
  obtain ⟨hx, hb, hml, hown, ht⟩ := id X
  replace hl : lv_has ls 2 [(0, .ref h0), (1, .int 34)] := hl
  refine lv_aload_n hx hb dX12_is_0 rfl (lv_at hl 0 rfl) ?_
  refine q_get X hK h 0 rfl rfl wf_12 11 (by decide) rfl wm_5_181 dX12_is_1 ?_
  refine lv_if_ne (tgt := 19) hx hb dX12_is_4 (by decide) (fun c_1 => ?_) (fun c_1 => ?_)
  · replace c_1 := i_ne (x := p7) (y := 0) rfl (show (0 : Int32).toInt = 0 by decide) c_1
    refine lv_iconst (v := 0) hx hb dX12_is_19 (by decide) ?_
    exact q_iret X hr hlk hK h rfl (fun _ => 0, fun _ _ => 0, fun _ _ => 0) ⟨⟨by decide +kernel, by decide +kernel⟩, (show ((0 : Int32).toInt = 1 ∧ (p7 : Int32).toInt = 0 ∧ (p5 : Int32).toInt = (34 : Int32).toInt) ∨ ((0 : Int32).toInt = 0 ∧ ((p7 : Int32).toInt ≠ 0 ∨ (p5 : Int32).toInt ≠ (34 : Int32).toInt)) from by have q0 : (0 : Int32).toInt = 0 := (by decide); have q1 : (34 : Int32).toInt = 34 := (by decide); omega), trivial⟩ [0] rfl rfl dX12_is_20 (Nat.le_of_ble_eq_true rfl) (Nat.le_of_ble_eq_true rfl)
  · replace c_1 := i_eq (x := p7) (y := 0) rfl (show (0 : Int32).toInt = 0 by decide) c_1
    refine lv_aload_n hx hb dX12_is_7 rfl (lv_at hl 0 rfl) ?_
    refine q_get X hK h 0 rfl rfl wf_12 9 (by decide) rfl wm_5_179 dX12_is_8 ?_
    refine lv_iload_n hx hb dX12_is_11 rfl (lv_at hl 1 rfl) ?_
    refine lv_icmp_ne (tgt := 19) hx hb dX12_is_12 (by decide) (fun c_2 => ?_) (fun c_2 => ?_)
    · replace c_2 := i_ne (x := p5) (y := 34) rfl (show (34 : Int32).toInt = 34 by decide) c_2
      refine lv_iconst (v := 0) hx hb dX12_is_19 (by decide) ?_
      exact q_iret X hr hlk hK h rfl (fun _ => 0, fun _ _ => 0, fun _ _ => 0) ⟨⟨by decide +kernel, by decide +kernel⟩, (show ((0 : Int32).toInt = 1 ∧ (p7 : Int32).toInt = 0 ∧ (p5 : Int32).toInt = (34 : Int32).toInt) ∨ ((0 : Int32).toInt = 0 ∧ ((p7 : Int32).toInt ≠ 0 ∨ (p5 : Int32).toInt ≠ (34 : Int32).toInt)) from by have q0 : (0 : Int32).toInt = 0 := (by decide); have q1 : (34 : Int32).toInt = 34 := (by decide); omega), trivial⟩ [0] rfl rfl dX12_is_20 (Nat.le_of_ble_eq_true rfl) (Nat.le_of_ble_eq_true rfl)
    · replace c_2 := i_eq (x := p5) (y := 34) rfl (show (34 : Int32).toInt = 34 by decide) c_2
      refine lv_iconst (v := 1) hx hb dX12_is_15 (by decide) ?_
      refine lv_goto (tgt := 20) hx hb dX12_is_16 (by decide) ?_
      exact q_iret X hr hlk hK h rfl (fun _ => 0, fun _ _ => 0, fun _ _ => 0) ⟨⟨by decide +kernel, by decide +kernel⟩, (show ((1 : Int32).toInt = 1 ∧ (p7 : Int32).toInt = 0 ∧ (p5 : Int32).toInt = (34 : Int32).toInt) ∨ ((1 : Int32).toInt = 0 ∧ ((p7 : Int32).toInt ≠ 0 ∨ (p5 : Int32).toInt ≠ (34 : Int32).toInt)) from by have q0 : (1 : Int32).toInt = 1 := (by decide); have q1 : (34 : Int32).toInt = 34 := (by decide); omega), trivial⟩ [0] rfl rfl dX12_is_20 (Nat.le_of_ble_eq_true rfl) (Nat.le_of_ble_eq_true rfl)
