set_option maxHeartbeats 4000000 in
set_option maxRecDepth 100000 in
theorem kX12_numbers_443 (l : Launch) (D : va_G) (cy : Nat → ClassId) (h0 : Nat) (p0 : Int32) (p1 : Int32) (h1 : Nat) (h2 : Nat) (h3 : Nat) (h4 : Nat) (h5 : Nat) (h6 : Nat) (h7 : Nat) (h8 : Nat) (h9 : Nat) (h10 : Nat) (h11 : Nat) (h12 : Nat) (h13 : Nat) (h14 : Nat) (h15 : Nat) (h16 : Nat) (h17 : Nat) (h18 : Nat) (h19 : Nat) (h20 : Nat) (hlo_p0 : (4 : Int32) ≤ p0) (sz : Nat) : MI l yX12_numbers cX12_numbers 5 .int { frames := 1, cells := 0, slots := 0, locals := 25 } [.ref h0, .int 0, .int p0, .int p1] D cy [(h0, .inr (12, [.int 0, .ref h1, .ref h2, .ref h3, .ref h4, .int 0, .int 0, .int 0, .int 0, .int 0, .int 0, .int 0, .int 0, .int 0, .int (-1), .int 0, .ref h5, .ref h6, .ref h7, .ref h8, .ref h9, .int 0, .int 0, .ref h10, .ref h11, .ref h12, .int 0, .int 0, .ref h13, .ref h14, .ref h15, .ref h16, .ref h17, .int 0, .ref h18, .ref h19, .ref h20]))] sz (fun r u => r = (-2)) (fun u => []) 0 0 := by
  refine q_ent (own := RX12) (by decide) rfl (Nat.le_of_ble_eq_true rfl) (fun p e s m below meth c ls X hr hlk hnm hK h hA hl => ?_)
  obtain ⟨hx, hb, hml, hown, ht⟩ := id X
  replace hl : lv_has ls 5 [(0, .ref h0), (1, .int 0), (2, .int p0), (3, .int p1)] := hl
  refine lv_aload_n hx hb dX12_numbers_0 rfl (lv_at hl 0 rfl) ?_
  refine lv_iconst (v := 0) hx hb dX12_numbers_1 (by decide) ?_
  refine q_put (v := .int 0) X hK h 0 rfl rfl wf_12 tyX12 tyX12_ok nmX12 0 (by decide) wm_5_170 rfl rfl rfl (Nat.le_of_ble_eq_true rfl) dX12_numbers_2 (fun Hp1 lc1 hw1 => ?_)
  clear h
  replace hw1 : qW D _ _ [(h0, .inr (12, [.int 0, .ref h1, .ref h2, .ref h3, .ref h4, .int 0, .int 0, .int 0, .int 0, .int 0, .int 0, .int 0, .int 0, .int 0, .int (-1), .int 0, .ref h5, .ref h6, .ref h7, .ref h8, .ref h9, .int 0, .int 0, .ref h10, .ref h11, .ref h12, .int 0, .int 0, .ref h13, .ref h14, .ref h15, .ref h16, .ref h17, .int 0, .ref h18, .ref h19, .ref h20]))] _ _ := hw1
  refine lv_iload_n hx hb dX12_numbers_5 rfl (lv_at hl 1 rfl) ?_
  refine lv_i2l (v := 0) hx hb dX12_numbers_6 (by decide +kernel) ?_
  refine lv_lconst (v := 0) hx hb dX12_numbers_7 (by decide) ?_
  refine lv_ldc2 hx hb hown (ht _ wm_7_29) dX12_numbers_8 ?_
  refine q_callSi (rest := []) (wr := [(h0, .inr (12, [.int 0, .ref h1, .ref h2, .ref h3, .ref h4, .int 0, .int 0, .int 0, .int 0, .int 0, .int 0, .int 0, .int 0, .int 0, .int (-1), .int 0, .ref h5, .ref h6, .ref h7, .ref h8, .ref h9, .int 0, .int 0, .ref h10, .ref h11, .ref h12, .int 0, .int 0, .ref h13, .ref h14, .ref h15, .ref h16, .ref h17, .int 0, .ref h18, .ref h19, .ref h20]))]) X hK hA hw1 (fun sz => kX12_within_154 l D cy   sz) wm_6_50 wm_6_52 wm_1_12 hd_X12_within wm_6_51 ⟨Nat.le_of_ble_eq_true rfl, Nat.le_of_ble_eq_true rfl⟩ hl.1 rfl (Nat.le_of_ble_eq_true rfl) dX12_numbers_11 ⟨Nat.le_of_ble_eq_true rfl, Nat.le_of_ble_eq_true rfl⟩ [] [0] rfl rfl (by decide) rfl rfl (fun r_11195 u_11195 Hp2 lc2 w_11195 hw2 => ?_)
  clear Hp1 lc1 hw1
  obtain rfl : r_11195 = 1 := w_11195
  replace hw2 : qW D _ _ [(h0, .inr (12, [.int 0, .ref h1, .ref h2, .ref h3, .ref h4, .int 0, .int 0, .int 0, .int 0, .int 0, .int 0, .int 0, .int 0, .int 0, .int (-1), .int 0, .ref h5, .ref h6, .ref h7, .ref h8, .ref h9, .int 0, .int 0, .ref h10, .ref h11, .ref h12, .int 0, .int 0, .ref h13, .ref h14, .ref h15, .ref h16, .ref h17, .int 0, .ref h18, .ref h19, .ref h20]))] _ _ := hw2
  refine lv_if_eq (tgt := 29) hx hb dX12_numbers_14 (by decide) (fun c => absurd c (by decide +kernel)) (fun _ => ?_)
  refine lv_iload_n hx hb dX12_numbers_17 rfl (lv_at hl 2 rfl) ?_
  refine lv_i2l hx hb dX12_numbers_18 rfl ?_
  refine lv_lconst (v := 0) hx hb dX12_numbers_19 (by decide) ?_
  refine lv_ldc2 hx hb hown (ht _ wm_7_29) dX12_numbers_20 ?_
  have g_11198 : (4 : Int64) ≤ ((p0).toInt64) := by
    simp only [Int32.toInt_toInt64, Int64.lt_iff_toInt_lt, Int64.le_iff_toInt_le, ← Int64.toInt_inj, Int32.lt_iff_toInt_lt, Int32.le_iff_toInt_le, ← Int32.toInt_inj] at hlo_p0 ⊢
    have k_0 : (4 : Int32).toInt = 4 := by decide
    have k_g : (4 : Int64).toInt = 4 := by decide
    omega
  refine q_callSi (rest := []) (wr := [(h0, .inr (12, [.int 0, .ref h1, .ref h2, .ref h3, .ref h4, .int 0, .int 0, .int 0, .int 0, .int 0, .int 0, .int 0, .int 0, .int 0, .int (-1), .int 0, .ref h5, .ref h6, .ref h7, .ref h8, .ref h9, .int 0, .int 0, .ref h10, .ref h11, .ref h12, .int 0, .int 0, .ref h13, .ref h14, .ref h15, .ref h16, .ref h17, .int 0, .ref h18, .ref h19, .ref h20]))]) X hK hA hw2 (fun sz => kX12_within_147 l D cy ((p0).toInt64) g_11198 sz) wm_6_50 wm_6_52 wm_1_12 hd_X12_within wm_6_51 ⟨Nat.le_of_ble_eq_true rfl, Nat.le_of_ble_eq_true rfl⟩ hl.1 rfl (Nat.le_of_ble_eq_true rfl) dX12_numbers_23 ⟨Nat.le_of_ble_eq_true rfl, Nat.le_of_ble_eq_true rfl⟩ [] [0] rfl rfl (by decide) rfl rfl (fun r_11199 u_11199 Hp3 lc3 w_11199 hw3 => ?_)
  clear Hp2 lc2 hw2
  obtain rfl : r_11199 = 0 := w_11199
  replace hw3 : qW D _ _ [(h0, .inr (12, [.int 0, .ref h1, .ref h2, .ref h3, .ref h4, .int 0, .int 0, .int 0, .int 0, .int 0, .int 0, .int 0, .int 0, .int 0, .int (-1), .int 0, .ref h5, .ref h6, .ref h7, .ref h8, .ref h9, .int 0, .int 0, .ref h10, .ref h11, .ref h12, .int 0, .int 0, .ref h13, .ref h14, .ref h15, .ref h16, .ref h17, .int 0, .ref h18, .ref h19, .ref h20]))] _ _ := hw3
  refine lv_if_ne (tgt := 32) hx hb dX12_numbers_26 (by decide) (fun c => absurd c (by decide +kernel)) (fun _ => ?_)
  refine lv_bipush (v := (-2)) hx hb dX12_numbers_29 (by decide) ?_
  exact q_iret X hr hlk hK hw3 rfl qu0 rfl [] rfl rfl dX12_numbers_31 (Nat.le_of_ble_eq_true rfl) (Nat.le_of_ble_eq_true rfl)
set_option maxHeartbeats 4000000 in
set_option maxRecDepth 100000 in
theorem kX11_numbers_444 (l : Launch) (D : va_G) (cy : Nat → ClassId) (h0 : Nat) (p0 : Int32) (p1 : Int32) (h1 : Nat) (h2 : Nat) (h3 : Nat) (h4 : Nat) (h5 : Nat) (h6 : Nat) (h7 : Nat) (h8 : Nat) (h9 : Nat) (h10 : Nat) (h11 : Nat) (h12 : Nat) (h13 : Nat) (hhi_p0 : p0 ≤ ((-1) : Int32)) (sz : Nat) : MI l yX11_numbers cX11_numbers 4 .int { frames := 1, cells := 0, slots := 0, locals := 21 } [.ref h0, .int 1, .int p0, .int p1] D cy [(h0, .inr (11, [.ref h1, .int 0, .int 0, .int (-1), .ref h2, .ref h3, .ref h4, .ref h5, .ref h6, .ref h7, .ref h8, .ref h9, .ref h10, .ref h11, .ref h12, .ref h13, .int 0]))] sz (fun r u => r = (-2)) (fun u => []) 0 0 := by
  refine q_ent (own := RX11) (by decide) rfl (Nat.le_of_ble_eq_true rfl) (fun p e s m below meth c ls X hr hlk hnm hK h hA hl => ?_)
  obtain ⟨hx, hb, hml, hown, ht⟩ := id X
  replace hl : lv_has ls 4 [(0, .ref h0), (1, .int 1), (2, .int p0), (3, .int p1)] := hl
  refine lv_aload_n hx hb dX11_numbers_0 rfl (lv_at hl 0 rfl) ?_
  refine lv_iload_n hx hb dX11_numbers_1 rfl (lv_at hl 1 rfl) ?_
  refine q_callVi (rest := []) (wr := []) X hK hA h (fun sz => kX11_isTray_160 l D cy h0 h1 h2 h3 h4 h5 h6 h7 h8 h9 h10 h11 h12 h13  sz) wm_4_83 wm_4_86 wm_1_1 hd_X11_isTray wm_4_85 wp_3_1 (ci := 11) (q0 := 0) rfl rfl ⟨Nat.le_of_ble_eq_true rfl, Nat.le_of_ble_eq_true rfl⟩ hl.1 rfl (Nat.le_of_ble_eq_true rfl) dX11_numbers_2 ⟨Nat.le_of_ble_eq_true rfl, Nat.le_of_ble_eq_true rfl⟩ [0] [] rfl rfl (by decide) rfl rfl (fun r_11240 u_11240 Hp1 lc1 w_11240 hw1 => ?_)
  clear h
  obtain rfl : r_11240 = 1 := w_11240
  replace hw1 : qW D _ _ [(h0, .inr (11, [.ref h1, .int 0, .int 0, .int (-1), .ref h2, .ref h3, .ref h4, .ref h5, .ref h6, .ref h7, .ref h8, .ref h9, .ref h10, .ref h11, .ref h12, .ref h13, .int 0]))] _ _ := hw1
  refine lv_if_eq (tgt := 17) hx hb dX11_numbers_5 (by decide) (fun c => absurd c (by decide +kernel)) (fun _ => ?_)
  refine lv_iload_n hx hb dX11_numbers_8 rfl (lv_at hl 2 rfl) ?_
  refine lv_if_lt (tgt := 17) hx hb dX11_numbers_9 (by decide) (fun c_11241 => ?_) (fun c_11241 => ?_)
  · refine lv_bipush (v := (-2)) hx hb dX11_numbers_17 (by decide) ?_
    exact q_iret X hr hlk hK hw1 rfl qu0 rfl [] rfl rfl dX11_numbers_19 (Nat.le_of_ble_eq_true rfl) (Nat.le_of_ble_eq_true rfl)
  · exfalso
    simp only [Int32.lt_iff_toInt_lt, Int32.le_iff_toInt_le, ← Int32.toInt_inj] at hhi_p0 c_11241
    have k_0 : ((-1) : Int32).toInt = -1 := by decide
    have k_1 : (0 : Int32).toInt = 0 := by decide
    omega
set_option maxHeartbeats 4000000 in
set_option maxRecDepth 100000 in
theorem kX12_numbers_445 (l : Launch) (D : va_G) (cy : Nat → ClassId) (h0 : Nat) (p0 : Int32) (p1 : Int32) (h1 : Nat) (h2 : Nat) (h3 : Nat) (h4 : Nat) (h5 : Nat) (h6 : Nat) (h7 : Nat) (h8 : Nat) (h9 : Nat) (h10 : Nat) (h11 : Nat) (h12 : Nat) (h13 : Nat) (h14 : Nat) (h15 : Nat) (h16 : Nat) (h17 : Nat) (h18 : Nat) (h19 : Nat) (h20 : Nat) (hhi_p0 : p0 ≤ ((-1) : Int32)) (sz : Nat) : MI l yX12_numbers cX12_numbers 5 .int { frames := 1, cells := 0, slots := 0, locals := 25 } [.ref h0, .int 1, .int p0, .int p1] D cy [(h0, .inr (12, [.int 0, .ref h1, .ref h2, .ref h3, .ref h4, .int 0, .int 0, .int 0, .int 0, .int 0, .int 0, .int 0, .int 0, .int 0, .int (-1), .int 0, .ref h5, .ref h6, .ref h7, .ref h8, .ref h9, .int 0, .int 0, .ref h10, .ref h11, .ref h12, .int 0, .int 0, .ref h13, .ref h14, .ref h15, .ref h16, .ref h17, .int 0, .ref h18, .ref h19, .ref h20]))] sz (fun r u => r = (-2)) (fun u => []) 0 0 := by
  refine q_ent (own := RX12) (by decide) rfl (Nat.le_of_ble_eq_true rfl) (fun p e s m below meth c ls X hr hlk hnm hK h hA hl => ?_)
  obtain ⟨hx, hb, hml, hown, ht⟩ := id X
  replace hl : lv_has ls 5 [(0, .ref h0), (1, .int 1), (2, .int p0), (3, .int p1)] := hl
  refine lv_aload_n hx hb dX12_numbers_0 rfl (lv_at hl 0 rfl) ?_
  refine lv_iconst (v := 0) hx hb dX12_numbers_1 (by decide) ?_
  refine q_put (v := .int 0) X hK h 0 rfl rfl wf_12 tyX12 tyX12_ok nmX12 0 (by decide) wm_5_170 rfl rfl rfl (Nat.le_of_ble_eq_true rfl) dX12_numbers_2 (fun Hp1 lc1 hw1 => ?_)
  clear h
  replace hw1 : qW D _ _ [(h0, .inr (12, [.int 0, .ref h1, .ref h2, .ref h3, .ref h4, .int 0, .int 0, .int 0, .int 0, .int 0, .int 0, .int 0, .int 0, .int 0, .int (-1), .int 0, .ref h5, .ref h6, .ref h7, .ref h8, .ref h9, .int 0, .int 0, .ref h10, .ref h11, .ref h12, .int 0, .int 0, .ref h13, .ref h14, .ref h15, .ref h16, .ref h17, .int 0, .ref h18, .ref h19, .ref h20]))] _ _ := hw1
  refine lv_iload_n hx hb dX12_numbers_5 rfl (lv_at hl 1 rfl) ?_
  refine lv_i2l (v := 1) hx hb dX12_numbers_6 (by decide +kernel) ?_
  refine lv_lconst (v := 0) hx hb dX12_numbers_7 (by decide) ?_
  refine lv_ldc2 hx hb hown (ht _ wm_7_29) dX12_numbers_8 ?_
  refine q_callSi (rest := []) (wr := [(h0, .inr (12, [.int 0, .ref h1, .ref h2, .ref h3, .ref h4, .int 0, .int 0, .int 0, .int 0, .int 0, .int 0, .int 0, .int 0, .int 0, .int (-1), .int 0, .ref h5, .ref h6, .ref h7, .ref h8, .ref h9, .int 0, .int 0, .ref h10, .ref h11, .ref h12, .int 0, .int 0, .ref h13, .ref h14, .ref h15, .ref h16, .ref h17, .int 0, .ref h18, .ref h19, .ref h20]))]) X hK hA hw1 (fun sz => kX12_within_164 l D cy   sz) wm_6_50 wm_6_52 wm_1_12 hd_X12_within wm_6_51 ⟨Nat.le_of_ble_eq_true rfl, Nat.le_of_ble_eq_true rfl⟩ hl.1 rfl (Nat.le_of_ble_eq_true rfl) dX12_numbers_11 ⟨Nat.le_of_ble_eq_true rfl, Nat.le_of_ble_eq_true rfl⟩ [] [0] rfl rfl (by decide) rfl rfl (fun r_11250 u_11250 Hp2 lc2 w_11250 hw2 => ?_)
  clear Hp1 lc1 hw1
  obtain rfl : r_11250 = 1 := w_11250
  replace hw2 : qW D _ _ [(h0, .inr (12, [.int 0, .ref h1, .ref h2, .ref h3, .ref h4, .int 0, .int 0, .int 0, .int 0, .int 0, .int 0, .int 0, .int 0, .int 0, .int (-1), .int 0, .ref h5, .ref h6, .ref h7, .ref h8, .ref h9, .int 0, .int 0, .ref h10, .ref h11, .ref h12, .int 0, .int 0, .ref h13, .ref h14, .ref h15, .ref h16, .ref h17, .int 0, .ref h18, .ref h19, .ref h20]))] _ _ := hw2
  refine lv_if_eq (tgt := 29) hx hb dX12_numbers_14 (by decide) (fun c => absurd c (by decide +kernel)) (fun _ => ?_)
  refine lv_iload_n hx hb dX12_numbers_17 rfl (lv_at hl 2 rfl) ?_
  refine lv_i2l hx hb dX12_numbers_18 rfl ?_
  refine lv_lconst (v := 0) hx hb dX12_numbers_19 (by decide) ?_
  refine lv_ldc2 hx hb hown (ht _ wm_7_29) dX12_numbers_20 ?_
  have g_11252 : ((p0).toInt64) ≤ ((-1) : Int64) := by
    simp only [Int32.toInt_toInt64, Int64.lt_iff_toInt_lt, Int64.le_iff_toInt_le, ← Int64.toInt_inj, Int32.lt_iff_toInt_lt, Int32.le_iff_toInt_le, ← Int32.toInt_inj] at hhi_p0 ⊢
    have k_0 : ((-1) : Int32).toInt = -1 := by decide
    have k_g : ((-1) : Int64).toInt = -1 := by decide
    omega
  refine q_callSi (rest := []) (wr := [(h0, .inr (12, [.int 0, .ref h1, .ref h2, .ref h3, .ref h4, .int 0, .int 0, .int 0, .int 0, .int 0, .int 0, .int 0, .int 0, .int 0, .int (-1), .int 0, .ref h5, .ref h6, .ref h7, .ref h8, .ref h9, .int 0, .int 0, .ref h10, .ref h11, .ref h12, .int 0, .int 0, .ref h13, .ref h14, .ref h15, .ref h16, .ref h17, .int 0, .ref h18, .ref h19, .ref h20]))]) X hK hA hw2 (fun sz => kX12_within_140 l D cy ((p0).toInt64) g_11252 sz) wm_6_50 wm_6_52 wm_1_12 hd_X12_within wm_6_51 ⟨Nat.le_of_ble_eq_true rfl, Nat.le_of_ble_eq_true rfl⟩ hl.1 rfl (Nat.le_of_ble_eq_true rfl) dX12_numbers_23 ⟨Nat.le_of_ble_eq_true rfl, Nat.le_of_ble_eq_true rfl⟩ [] [0] rfl rfl (by decide) rfl rfl (fun r_11253 u_11253 Hp3 lc3 w_11253 hw3 => ?_)
  clear Hp2 lc2 hw2
  obtain rfl : r_11253 = 0 := w_11253
  replace hw3 : qW D _ _ [(h0, .inr (12, [.int 0, .ref h1, .ref h2, .ref h3, .ref h4, .int 0, .int 0, .int 0, .int 0, .int 0, .int 0, .int 0, .int 0, .int 0, .int (-1), .int 0, .ref h5, .ref h6, .ref h7, .ref h8, .ref h9, .int 0, .int 0, .ref h10, .ref h11, .ref h12, .int 0, .int 0, .ref h13, .ref h14, .ref h15, .ref h16, .ref h17, .int 0, .ref h18, .ref h19, .ref h20]))] _ _ := hw3
  refine lv_if_ne (tgt := 32) hx hb dX12_numbers_26 (by decide) (fun c => absurd c (by decide +kernel)) (fun _ => ?_)
  refine lv_bipush (v := (-2)) hx hb dX12_numbers_29 (by decide) ?_
  exact q_iret X hr hlk hK hw3 rfl qu0 rfl [] rfl rfl dX12_numbers_31 (Nat.le_of_ble_eq_true rfl) (Nat.le_of_ble_eq_true rfl)
set_option maxHeartbeats 4000000 in
set_option maxRecDepth 100000 in
theorem kX11_numbers_446 (l : Launch) (D : va_G) (cy : Nat → ClassId) (h0 : Nat) (p0 : Int32) (p1 : Int32) (h1 : Nat) (h2 : Nat) (h3 : Nat) (h4 : Nat) (h5 : Nat) (h6 : Nat) (h7 : Nat) (h8 : Nat) (h9 : Nat) (h10 : Nat) (h11 : Nat) (h12 : Nat) (h13 : Nat) (hlo_p0 : (0 : Int32) ≤ p0) (hhi_p0 : p0 ≤ (3 : Int32)) (hhi_p1 : p1 ≤ ((-1) : Int32)) (sz : Nat) : MI l yX11_numbers cX11_numbers 4 .int { frames := 1, cells := 0, slots := 0, locals := 21 } [.ref h0, .int 1, .int p0, .int p1] D cy [(h0, .inr (11, [.ref h1, .int 0, .int 0, .int (-1), .ref h2, .ref h3, .ref h4, .ref h5, .ref h6, .ref h7, .ref h8, .ref h9, .ref h10, .ref h11, .ref h12, .ref h13, .int 0]))] sz (fun r u => r = (-3)) (fun u => []) 0 0 := by
  refine q_ent (own := RX11) (by decide) rfl (Nat.le_of_ble_eq_true rfl) (fun p e s m below meth c ls X hr hlk hnm hK h hA hl => ?_)
  obtain ⟨hx, hb, hml, hown, ht⟩ := id X
  replace hl : lv_has ls 4 [(0, .ref h0), (1, .int 1), (2, .int p0), (3, .int p1)] := hl
  refine lv_aload_n hx hb dX11_numbers_0 rfl (lv_at hl 0 rfl) ?_
  refine lv_iload_n hx hb dX11_numbers_1 rfl (lv_at hl 1 rfl) ?_
  refine q_callVi (rest := []) (wr := []) X hK hA h (fun sz => kX11_isTray_160 l D cy h0 h1 h2 h3 h4 h5 h6 h7 h8 h9 h10 h11 h12 h13  sz) wm_4_83 wm_4_86 wm_1_1 hd_X11_isTray wm_4_85 wp_3_1 (ci := 11) (q0 := 0) rfl rfl ⟨Nat.le_of_ble_eq_true rfl, Nat.le_of_ble_eq_true rfl⟩ hl.1 rfl (Nat.le_of_ble_eq_true rfl) dX11_numbers_2 ⟨Nat.le_of_ble_eq_true rfl, Nat.le_of_ble_eq_true rfl⟩ [0] [] rfl rfl (by decide) rfl rfl (fun r_11296 u_11296 Hp1 lc1 w_11296 hw1 => ?_)
  clear h
  obtain rfl : r_11296 = 1 := w_11296
  replace hw1 : qW D _ _ [(h0, .inr (11, [.ref h1, .int 0, .int 0, .int (-1), .ref h2, .ref h3, .ref h4, .ref h5, .ref h6, .ref h7, .ref h8, .ref h9, .ref h10, .ref h11, .ref h12, .ref h13, .int 0]))] _ _ := hw1
  refine lv_if_eq (tgt := 17) hx hb dX11_numbers_5 (by decide) (fun c => absurd c (by decide +kernel)) (fun _ => ?_)
  refine lv_iload_n hx hb dX11_numbers_8 rfl (lv_at hl 2 rfl) ?_
  refine lv_if_lt (tgt := 17) hx hb dX11_numbers_9 (by decide) (fun c_11297 => ?_) (fun c_11297 => ?_)
  · exfalso
    simp only [Int32.lt_iff_toInt_lt, Int32.le_iff_toInt_le, ← Int32.toInt_inj] at hlo_p0 hhi_p0 c_11297
    have k_0 : (0 : Int32).toInt = 0 := by decide
    have k_1 : (3 : Int32).toInt = 3 := by decide
    omega
  · refine lv_iload_n hx hb dX11_numbers_12 rfl (lv_at hl 2 rfl) ?_
    refine lv_iconst (v := 4) hx hb dX11_numbers_13 (by decide) ?_
    refine lv_icmp_lt (tgt := 20) hx hb dX11_numbers_14 (by decide) (fun c_11298 => ?_) (fun c_11298 => ?_)
    · refine lv_iload_n hx hb dX11_numbers_20 rfl (lv_at hl 3 rfl) ?_
      refine lv_if_lt (tgt := 30) hx hb dX11_numbers_21 (by decide) (fun c_11299 => ?_) (fun c_11299 => ?_)
      · refine lv_bipush (v := (-3)) hx hb dX11_numbers_30 (by decide) ?_
        exact q_iret X hr hlk hK hw1 rfl qu0 rfl [] rfl rfl dX11_numbers_32 (Nat.le_of_ble_eq_true rfl) (Nat.le_of_ble_eq_true rfl)
      · exfalso
        simp only [Int32.lt_iff_toInt_lt, Int32.le_iff_toInt_le, ← Int32.toInt_inj] at hhi_p1 c_11299
        have k_0 : ((-1) : Int32).toInt = -1 := by decide
        have k_1 : (0 : Int32).toInt = 0 := by decide
        omega
    · exfalso
      simp only [Int32.lt_iff_toInt_lt, Int32.le_iff_toInt_le, ← Int32.toInt_inj] at hlo_p0 hhi_p0 c_11297 c_11298
      have k_0 : (0 : Int32).toInt = 0 := by decide
      have k_1 : (3 : Int32).toInt = 3 := by decide
      have k_2 : (4 : Int32).toInt = 4 := by decide
      omega
set_option maxHeartbeats 4000000 in
set_option maxRecDepth 100000 in
theorem kX12_numbers_447 (l : Launch) (D : va_G) (cy : Nat → ClassId) (h0 : Nat) (p0 : Int32) (p1 : Int32) (h1 : Nat) (h2 : Nat) (h3 : Nat) (h4 : Nat) (h5 : Nat) (h6 : Nat) (h7 : Nat) (h8 : Nat) (h9 : Nat) (h10 : Nat) (h11 : Nat) (h12 : Nat) (h13 : Nat) (h14 : Nat) (h15 : Nat) (h16 : Nat) (h17 : Nat) (h18 : Nat) (h19 : Nat) (h20 : Nat) (hlo_p0 : (0 : Int32) ≤ p0) (hhi_p0 : p0 ≤ (3 : Int32)) (hhi_p1 : p1 ≤ ((-1) : Int32)) (sz : Nat) : MI l yX12_numbers cX12_numbers 5 .int { frames := 1, cells := 0, slots := 0, locals := 25 } [.ref h0, .int 1, .int p0, .int p1] D cy [(h0, .inr (12, [.int 0, .ref h1, .ref h2, .ref h3, .ref h4, .int 0, .int 0, .int 0, .int 0, .int 0, .int 0, .int 0, .int 0, .int 0, .int (-1), .int 0, .ref h5, .ref h6, .ref h7, .ref h8, .ref h9, .int 0, .int 0, .ref h10, .ref h11, .ref h12, .int 0, .int 0, .ref h13, .ref h14, .ref h15, .ref h16, .ref h17, .int 0, .ref h18, .ref h19, .ref h20]))] sz (fun r u => r = (-3)) (fun u => []) 0 0 := by
  refine q_ent (own := RX12) (by decide) rfl (Nat.le_of_ble_eq_true rfl) (fun p e s m below meth c ls X hr hlk hnm hK h hA hl => ?_)
  obtain ⟨hx, hb, hml, hown, ht⟩ := id X
  replace hl : lv_has ls 5 [(0, .ref h0), (1, .int 1), (2, .int p0), (3, .int p1)] := hl
  refine lv_aload_n hx hb dX12_numbers_0 rfl (lv_at hl 0 rfl) ?_
  refine lv_iconst (v := 0) hx hb dX12_numbers_1 (by decide) ?_
  refine q_put (v := .int 0) X hK h 0 rfl rfl wf_12 tyX12 tyX12_ok nmX12 0 (by decide) wm_5_170 rfl rfl rfl (Nat.le_of_ble_eq_true rfl) dX12_numbers_2 (fun Hp1 lc1 hw1 => ?_)
  clear h
  replace hw1 : qW D _ _ [(h0, .inr (12, [.int 0, .ref h1, .ref h2, .ref h3, .ref h4, .int 0, .int 0, .int 0, .int 0, .int 0, .int 0, .int 0, .int 0, .int 0, .int (-1), .int 0, .ref h5, .ref h6, .ref h7, .ref h8, .ref h9, .int 0, .int 0, .ref h10, .ref h11, .ref h12, .int 0, .int 0, .ref h13, .ref h14, .ref h15, .ref h16, .ref h17, .int 0, .ref h18, .ref h19, .ref h20]))] _ _ := hw1
  refine lv_iload_n hx hb dX12_numbers_5 rfl (lv_at hl 1 rfl) ?_
  refine lv_i2l (v := 1) hx hb dX12_numbers_6 (by decide +kernel) ?_
  refine lv_lconst (v := 0) hx hb dX12_numbers_7 (by decide) ?_
  refine lv_ldc2 hx hb hown (ht _ wm_7_29) dX12_numbers_8 ?_
  refine q_callSi (rest := []) (wr := [(h0, .inr (12, [.int 0, .ref h1, .ref h2, .ref h3, .ref h4, .int 0, .int 0, .int 0, .int 0, .int 0, .int 0, .int 0, .int 0, .int 0, .int (-1), .int 0, .ref h5, .ref h6, .ref h7, .ref h8, .ref h9, .int 0, .int 0, .ref h10, .ref h11, .ref h12, .int 0, .int 0, .ref h13, .ref h14, .ref h15, .ref h16, .ref h17, .int 0, .ref h18, .ref h19, .ref h20]))]) X hK hA hw1 (fun sz => kX12_within_164 l D cy   sz) wm_6_50 wm_6_52 wm_1_12 hd_X12_within wm_6_51 ⟨Nat.le_of_ble_eq_true rfl, Nat.le_of_ble_eq_true rfl⟩ hl.1 rfl (Nat.le_of_ble_eq_true rfl) dX12_numbers_11 ⟨Nat.le_of_ble_eq_true rfl, Nat.le_of_ble_eq_true rfl⟩ [] [0] rfl rfl (by decide) rfl rfl (fun r_11318 u_11318 Hp2 lc2 w_11318 hw2 => ?_)
  clear Hp1 lc1 hw1
  obtain rfl : r_11318 = 1 := w_11318
  replace hw2 : qW D _ _ [(h0, .inr (12, [.int 0, .ref h1, .ref h2, .ref h3, .ref h4, .int 0, .int 0, .int 0, .int 0, .int 0, .int 0, .int 0, .int 0, .int 0, .int (-1), .int 0, .ref h5, .ref h6, .ref h7, .ref h8, .ref h9, .int 0, .int 0, .ref h10, .ref h11, .ref h12, .int 0, .int 0, .ref h13, .ref h14, .ref h15, .ref h16, .ref h17, .int 0, .ref h18, .ref h19, .ref h20]))] _ _ := hw2
  refine lv_if_eq (tgt := 29) hx hb dX12_numbers_14 (by decide) (fun c => absurd c (by decide +kernel)) (fun _ => ?_)
  refine lv_iload_n hx hb dX12_numbers_17 rfl (lv_at hl 2 rfl) ?_
  refine lv_i2l hx hb dX12_numbers_18 rfl ?_
  refine lv_lconst (v := 0) hx hb dX12_numbers_19 (by decide) ?_
  refine lv_ldc2 hx hb hown (ht _ wm_7_29) dX12_numbers_20 ?_
  have g_11321 : (0 : Int64) ≤ ((p0).toInt64) := by
    simp only [Int32.toInt_toInt64, Int64.lt_iff_toInt_lt, Int64.le_iff_toInt_le, ← Int64.toInt_inj, Int32.lt_iff_toInt_lt, Int32.le_iff_toInt_le, ← Int32.toInt_inj] at hlo_p0 hhi_p0 ⊢
    have k_0 : (0 : Int32).toInt = 0 := by decide
    have k_1 : (3 : Int32).toInt = 3 := by decide
    have k_g : (0 : Int64).toInt = 0 := by decide
    omega
  have g_11322 : ((p0).toInt64) ≤ (3 : Int64) := by
    simp only [Int32.toInt_toInt64, Int64.lt_iff_toInt_lt, Int64.le_iff_toInt_le, ← Int64.toInt_inj, Int32.lt_iff_toInt_lt, Int32.le_iff_toInt_le, ← Int32.toInt_inj] at hlo_p0 hhi_p0 ⊢
    have k_0 : (0 : Int32).toInt = 0 := by decide
    have k_1 : (3 : Int32).toInt = 3 := by decide
    have k_g : (3 : Int64).toInt = 3 := by decide
    omega
  refine q_callSi (rest := []) (wr := [(h0, .inr (12, [.int 0, .ref h1, .ref h2, .ref h3, .ref h4, .int 0, .int 0, .int 0, .int 0, .int 0, .int 0, .int 0, .int 0, .int 0, .int (-1), .int 0, .ref h5, .ref h6, .ref h7, .ref h8, .ref h9, .int 0, .int 0, .ref h10, .ref h11, .ref h12, .int 0, .int 0, .ref h13, .ref h14, .ref h15, .ref h16, .ref h17, .int 0, .ref h18, .ref h19, .ref h20]))]) X hK hA hw2 (fun sz => kX12_within_143 l D cy ((p0).toInt64) g_11321 g_11322 sz) wm_6_50 wm_6_52 wm_1_12 hd_X12_within wm_6_51 ⟨Nat.le_of_ble_eq_true rfl, Nat.le_of_ble_eq_true rfl⟩ hl.1 rfl (Nat.le_of_ble_eq_true rfl) dX12_numbers_23 ⟨Nat.le_of_ble_eq_true rfl, Nat.le_of_ble_eq_true rfl⟩ [] [0] rfl rfl (by decide) rfl rfl (fun r_11323 u_11323 Hp3 lc3 w_11323 hw3 => ?_)
  clear Hp2 lc2 hw2
  obtain rfl : r_11323 = 1 := w_11323
  replace hw3 : qW D _ _ [(h0, .inr (12, [.int 0, .ref h1, .ref h2, .ref h3, .ref h4, .int 0, .int 0, .int 0, .int 0, .int 0, .int 0, .int 0, .int 0, .int 0, .int (-1), .int 0, .ref h5, .ref h6, .ref h7, .ref h8, .ref h9, .int 0, .int 0, .ref h10, .ref h11, .ref h12, .int 0, .int 0, .ref h13, .ref h14, .ref h15, .ref h16, .ref h17, .int 0, .ref h18, .ref h19, .ref h20]))] _ _ := hw3
  refine lv_if_ne (tgt := 32) hx hb dX12_numbers_26 (by decide) (fun _ => ?_) (fun c => absurd c (by decide +kernel))
  refine lv_iload_n hx hb dX12_numbers_32 rfl (lv_at hl 3 rfl) ?_
  refine lv_i2l hx hb dX12_numbers_33 rfl ?_
  refine lv_lconst (v := 0) hx hb dX12_numbers_34 (by decide) ?_
  refine lv_ldc2 hx hb hown (ht _ wm_7_82) dX12_numbers_35 ?_
  have g_11325 : ((p1).toInt64) ≤ ((-1) : Int64) := by
    simp only [Int32.toInt_toInt64, Int64.lt_iff_toInt_lt, Int64.le_iff_toInt_le, ← Int64.toInt_inj, Int32.lt_iff_toInt_lt, Int32.le_iff_toInt_le, ← Int32.toInt_inj] at hhi_p1 ⊢
    have k_0 : ((-1) : Int32).toInt = -1 := by decide
    have k_g : ((-1) : Int64).toInt = -1 := by decide
    omega
  refine q_callSi (rest := []) (wr := [(h0, .inr (12, [.int 0, .ref h1, .ref h2, .ref h3, .ref h4, .int 0, .int 0, .int 0, .int 0, .int 0, .int 0, .int 0, .int 0, .int 0, .int (-1), .int 0, .ref h5, .ref h6, .ref h7, .ref h8, .ref h9, .int 0, .int 0, .ref h10, .ref h11, .ref h12, .int 0, .int 0, .ref h13, .ref h14, .ref h15, .ref h16, .ref h17, .int 0, .ref h18, .ref h19, .ref h20]))]) X hK hA hw3 (fun sz => kX12_within_434 l D cy ((p1).toInt64) g_11325 sz) wm_6_50 wm_6_52 wm_1_12 hd_X12_within wm_6_51 ⟨Nat.le_of_ble_eq_true rfl, Nat.le_of_ble_eq_true rfl⟩ hl.1 rfl (Nat.le_of_ble_eq_true rfl) dX12_numbers_38 ⟨Nat.le_of_ble_eq_true rfl, Nat.le_of_ble_eq_true rfl⟩ [] [0] rfl rfl (by decide) rfl rfl (fun r_11326 u_11326 Hp4 lc4 w_11326 hw4 => ?_)
  clear Hp3 lc3 hw3
  obtain rfl : r_11326 = 0 := w_11326
  replace hw4 : qW D _ _ [(h0, .inr (12, [.int 0, .ref h1, .ref h2, .ref h3, .ref h4, .int 0, .int 0, .int 0, .int 0, .int 0, .int 0, .int 0, .int 0, .int 0, .int (-1), .int 0, .ref h5, .ref h6, .ref h7, .ref h8, .ref h9, .int 0, .int 0, .ref h10, .ref h11, .ref h12, .int 0, .int 0, .ref h13, .ref h14, .ref h15, .ref h16, .ref h17, .int 0, .ref h18, .ref h19, .ref h20]))] _ _ := hw4
  refine lv_if_ne (tgt := 47) hx hb dX12_numbers_41 (by decide) (fun c => absurd c (by decide +kernel)) (fun _ => ?_)
  refine lv_bipush (v := (-3)) hx hb dX12_numbers_44 (by decide) ?_
  exact q_iret X hr hlk hK hw4 rfl qu0 rfl [] rfl rfl dX12_numbers_46 (Nat.le_of_ble_eq_true rfl) (Nat.le_of_ble_eq_true rfl)
set_option maxHeartbeats 4000000 in
set_option maxRecDepth 100000 in
theorem kX11_numbers_448 (l : Launch) (D : va_G) (cy : Nat → ClassId) (h0 : Nat) (h1 : Nat) (h2 : Nat) (h3 : Nat) (p0 : Int32) (p1 : Int32) (h4 : Nat) (h5 : Nat) (h6 : Nat) (h7 : Nat) (h8 : Nat) (h9 : Nat) (h10 : Nat) (h11 : Nat) (h12 : Nat) (h13 : Nat) (h14 : Nat) (h15 : Nat) (h16 : Nat) (h17 : Nat) (h18 : Nat) (hlo_p0 : (0 : Int32) ≤ p0) (hhi_p0 : p0 ≤ (3 : Int32)) (hlo_p1 : (0 : Int32) ≤ p1) (hhi_p1 : p1 ≤ (40 : Int32)) (sz : Nat) : MI l yX11_numbers cX11_numbers 4 .int { frames := 2, cells := 0, slots := 0, locals := 46 } [.ref h0, .int 1, .int p0, .int p1] D cy [(h0, .inr (11, [.ref h4, .int 0, .int 0, .int (-1), .ref h5, .ref h6, .ref h7, .ref h8, .ref h9, .ref h1, .ref h10, .ref h11, .ref h12, .ref h13, .ref h14, .ref h15, .int 0])), (h1, .inl (cy 5, 4, .inr (.inr (.inr (.inr (va_up (va_up (va_up (va_up (fun _ => none) (Int32.toNatClampNeg 0) (some h18)) (Int32.toNatClampNeg 1) (some h2)) (Int32.toNatClampNeg 2) (some h17)) (Int32.toNatClampNeg 3) (some h16))))))), (h2, .inr (9, [.int (-1), .int 0, .ref h3])), (h3, .inl (cy 2, 40, .inr (.inl (fun _ => 0))))] sz (fun r u => r = 0) (fun u => []) 0 0 := by
  refine q_ent (own := RX11) (by decide) rfl (Nat.le_of_ble_eq_true rfl) (fun p e s m below meth c ls X hr hlk hnm hK h hA hl => ?_)
  obtain ⟨hx, hb, hml, hown, ht⟩ := id X
  replace hl : lv_has ls 4 [(0, .ref h0), (1, .int 1), (2, .int p0), (3, .int p1)] := hl
  refine lv_aload_n hx hb dX11_numbers_0 rfl (lv_at hl 0 rfl) ?_
  refine lv_iload_n hx hb dX11_numbers_1 rfl (lv_at hl 1 rfl) ?_
  refine q_callVi (rest := []) (wr := [(h1, .inl (cy 5, 4, .inr (.inr (.inr (.inr (va_up (va_up (va_up (va_up (fun _ => none) (Int32.toNatClampNeg 0) (some h18)) (Int32.toNatClampNeg 1) (some h2)) (Int32.toNatClampNeg 2) (some h17)) (Int32.toNatClampNeg 3) (some h16))))))), (h2, .inr (9, [.int (-1), .int 0, .ref h3])), (h3, .inl (cy 2, 40, .inr (.inl (fun _ => 0))))]) X hK hA h (fun sz => kX11_isTray_160 l D cy h0 h4 h5 h6 h7 h8 h9 h1 h10 h11 h12 h13 h14 h15  sz) wm_4_83 wm_4_86 wm_1_1 hd_X11_isTray wm_4_85 wp_3_1 (ci := 11) (q0 := 0) rfl rfl ⟨Nat.le_of_ble_eq_true rfl, Nat.le_of_ble_eq_true rfl⟩ hl.1 rfl (Nat.le_of_ble_eq_true rfl) dX11_numbers_2 ⟨Nat.le_of_ble_eq_true rfl, Nat.le_of_ble_eq_true rfl⟩ [0] [1, 2, 3] rfl rfl (by decide) rfl rfl (fun r_11371 u_11371 Hp1 lc1 w_11371 hw1 => ?_)
  clear h
  obtain rfl : r_11371 = 1 := w_11371
  replace hw1 : qW D _ _ [(h1, .inl (cy 5, 4, .inr (.inr (.inr (.inr (va_up (va_up (va_up (va_up (fun _ => none) (Int32.toNatClampNeg 0) (some h18)) (Int32.toNatClampNeg 1) (some h2)) (Int32.toNatClampNeg 2) (some h17)) (Int32.toNatClampNeg 3) (some h16))))))), (h2, .inr (9, [.int (-1), .int 0, .ref h3])), (h3, .inl (cy 2, 40, .inr (.inl (fun _ => 0)))), (h0, .inr (11, [.ref h4, .int 0, .int 0, .int (-1), .ref h5, .ref h6, .ref h7, .ref h8, .ref h9, .ref h1, .ref h10, .ref h11, .ref h12, .ref h13, .ref h14, .ref h15, .int 0]))] _ _ := hw1
  refine lv_if_eq (tgt := 17) hx hb dX11_numbers_5 (by decide) (fun c => absurd c (by decide +kernel)) (fun _ => ?_)
  refine lv_iload_n hx hb dX11_numbers_8 rfl (lv_at hl 2 rfl) ?_
  refine lv_if_lt (tgt := 17) hx hb dX11_numbers_9 (by decide) (fun c_11372 => ?_) (fun c_11372 => ?_)
  · exfalso
    simp only [Int32.lt_iff_toInt_lt, Int32.le_iff_toInt_le, ← Int32.toInt_inj] at hlo_p0 hhi_p0 c_11372
    have k_0 : (0 : Int32).toInt = 0 := by decide
    have k_1 : (3 : Int32).toInt = 3 := by decide
    omega
  · refine lv_iload_n hx hb dX11_numbers_12 rfl (lv_at hl 2 rfl) ?_
    refine lv_iconst (v := 4) hx hb dX11_numbers_13 (by decide) ?_
    refine lv_icmp_lt (tgt := 20) hx hb dX11_numbers_14 (by decide) (fun c_11373 => ?_) (fun c_11373 => ?_)
    · refine lv_iload_n hx hb dX11_numbers_20 rfl (lv_at hl 3 rfl) ?_
      refine lv_if_lt (tgt := 30) hx hb dX11_numbers_21 (by decide) (fun c_11374 => ?_) (fun c_11374 => ?_)
      · exfalso
        simp only [Int32.lt_iff_toInt_lt, Int32.le_iff_toInt_le, ← Int32.toInt_inj] at hlo_p1 hhi_p1 c_11374
        have k_0 : (0 : Int32).toInt = 0 := by decide
        have k_1 : (40 : Int32).toInt = 40 := by decide
        omega
      · refine lv_iload_n hx hb dX11_numbers_24 rfl (lv_at hl 3 rfl) ?_
        refine lv_bipush (v := 40) hx hb dX11_numbers_25 (by decide) ?_
        refine lv_icmp_le (tgt := 33) hx hb dX11_numbers_27 (by decide) (fun c_11375 => ?_) (fun c_11375 => ?_)
        · refine lv_aload_n hx hb dX11_numbers_33 rfl (lv_at hl 0 rfl) ?_
          refine q_get X hK hw1 3 rfl rfl wf_11 9 (by decide) rfl wm_2_107 dX11_numbers_34 ?_
          refine lv_iload_n hx hb dX11_numbers_37 rfl (lv_at hl 1 rfl) ?_
          refine q_aldT X hK hw1 0 rfl (q_in (by decide +kernel)) h2 (by first | rfl | simp [va_up]) dX11_numbers_38 ?_
          refine lv_iload_n hx hb dX11_numbers_39 rfl (lv_at hl 2 rfl) ?_
          refine lv_iload_n hx hb dX11_numbers_40 rfl (lv_at hl 3 rfl) ?_
          have g_11377 : (0 : Int32) ≤ p0 := by
            simp only [Int32.lt_iff_toInt_lt, Int32.le_iff_toInt_le, ← Int32.toInt_inj] at hlo_p0 hhi_p0 c_11372 c_11373 ⊢
            have k_0 : (0 : Int32).toInt = 0 := by decide
            have k_1 : (3 : Int32).toInt = 3 := by decide
            have k_2 : (4 : Int32).toInt = 4 := by decide
            omega
          have g_11378 : p0 ≤ (3 : Int32) := by
            simp only [Int32.lt_iff_toInt_lt, Int32.le_iff_toInt_le, ← Int32.toInt_inj] at hlo_p0 hhi_p0 c_11372 c_11373 ⊢
            have k_0 : (0 : Int32).toInt = 0 := by decide
            have k_1 : (3 : Int32).toInt = 3 := by decide
            have k_2 : (4 : Int32).toInt = 4 := by decide
            omega
          have g_11379 : (0 : Int32) ≤ p1 := by
            simp only [Int32.lt_iff_toInt_lt, Int32.le_iff_toInt_le, ← Int32.toInt_inj] at hlo_p1 hhi_p1 c_11374 c_11375 ⊢
            have k_0 : (0 : Int32).toInt = 0 := by decide
            have k_1 : (40 : Int32).toInt = 40 := by decide
            omega
          have g_11380 : p1 ≤ (40 : Int32) := by
            simp only [Int32.lt_iff_toInt_lt, Int32.le_iff_toInt_le, ← Int32.toInt_inj] at hlo_p1 hhi_p1 c_11374 c_11375 ⊢
            have k_0 : (0 : Int32).toInt = 0 := by decide
            have k_1 : (40 : Int32).toInt = 40 := by decide
            omega
          refine q_callVv (rest := []) (wr := [(h1, .inl (cy 5, 4, .inr (.inr (.inr (.inr (va_up (va_up (va_up (va_up (fun _ => none) (Int32.toNatClampNeg 0) (some h18)) (Int32.toNatClampNeg 1) (some h2)) (Int32.toNatClampNeg 2) (some h17)) (Int32.toNatClampNeg 3) (some h16))))))), (h0, .inr (11, [.ref h4, .int 0, .int 0, .int (-1), .ref h5, .ref h6, .ref h7, .ref h8, .ref h9, .ref h1, .ref h10, .ref h11, .ref h12, .ref h13, .ref h14, .ref h15, .int 0]))]) X hK hA hw1 (fun sz => kX9_lay_430 l D cy h2 h3 p0 p1 g_11377 g_11378 g_11379 g_11380 sz) wm_5_124 wm_5_127 wm_1_11 hd_X9_lay wm_5_125 wm_5_126 (ci := 9) (q0 := 0) rfl rfl ⟨Nat.le_of_ble_eq_true rfl, Nat.le_of_ble_eq_true rfl⟩ hl.1 rfl (Nat.le_of_ble_eq_true rfl) dX11_numbers_41 ⟨Nat.le_of_ble_eq_true rfl, Nat.le_of_ble_eq_true rfl⟩ [1, 2] [0, 3] rfl rfl (by decide) rfl rfl (fun u_11381 Hp2 lc2 w_11381 hw2 => ?_)
          clear Hp1 lc1 hw1
          replace hw2 : qW D _ _ [(h1, .inl (cy 5, 4, .inr (.inr (.inr (.inr (va_up (va_up (va_up (va_up (fun _ => none) (Int32.toNatClampNeg 0) (some h18)) (Int32.toNatClampNeg 1) (some h2)) (Int32.toNatClampNeg 2) (some h17)) (Int32.toNatClampNeg 3) (some h16))))))), (h0, .inr (11, [.ref h4, .int 0, .int 0, .int (-1), .ref h5, .ref h6, .ref h7, .ref h8, .ref h9, .ref h1, .ref h10, .ref h11, .ref h12, .ref h13, .ref h14, .ref h15, .int 0])), (h2, .inr (9, [.int p0, .int p1, .ref h3])), (h3, .inl (cy 2, 40, .inr (.inl (fun _ => 0))))] _ _ := hw2
          refine lv_iconst (v := 0) hx hb dX11_numbers_44 (by decide) ?_
          exact q_iret X hr hlk hK hw2 rfl qu0 rfl [] rfl rfl dX11_numbers_45 (Nat.le_of_ble_eq_true rfl) (Nat.le_of_ble_eq_true rfl)
        · exfalso
          simp only [Int32.lt_iff_toInt_lt, Int32.le_iff_toInt_le, ← Int32.toInt_inj] at hlo_p1 hhi_p1 c_11374 c_11375
          have k_0 : (0 : Int32).toInt = 0 := by decide
          have k_1 : (40 : Int32).toInt = 40 := by decide
          omega
    · exfalso
      simp only [Int32.lt_iff_toInt_lt, Int32.le_iff_toInt_le, ← Int32.toInt_inj] at hlo_p0 hhi_p0 c_11372 c_11373
      have k_0 : (0 : Int32).toInt = 0 := by decide
      have k_1 : (3 : Int32).toInt = 3 := by decide
      have k_2 : (4 : Int32).toInt = 4 := by decide
      omega
set_option maxHeartbeats 4000000 in
set_option maxRecDepth 100000 in
theorem kX12_numbers_449 (l : Launch) (D : va_G) (cy : Nat → ClassId) (h0 : Nat) (h1 : Nat) (h2 : Nat) (h3 : Nat) (f0 : Nat → Int32) (p0 : Int32) (p1 : Int32) (h4 : Nat) (h5 : Nat) (h6 : Nat) (h7 : Nat) (h8 : Nat) (h9 : Nat) (h10 : Nat) (h11 : Nat) (h12 : Nat) (h13 : Nat) (h14 : Nat) (h15 : Nat) (h16 : Nat) (h17 : Nat) (h18 : Nat) (h19 : Nat) (h20 : Nat) (hlo_p0 : (0 : Int32) ≤ p0) (hhi_p0 : p0 ≤ (3 : Int32)) (hlo_p1 : (0 : Int32) ≤ p1) (hhi_p1 : p1 ≤ (40 : Int32)) (sz : Nat) : MI l yX12_numbers cX12_numbers 5 .int { frames := 1, cells := 0, slots := 0, locals := 25 } [.ref h0, .int 1, .int p0, .int p1] D cy [(h0, .inr (12, [.int 0, .ref h4, .ref h5, .ref h6, .ref h7, .int 0, .int 0, .int 0, .int 0, .int 0, .int 0, .int 0, .int 0, .int 0, .int (-1), .int 0, .ref h8, .ref h9, .ref h10, .ref h11, .ref h12, .int 0, .int 0, .ref h13, .ref h14, .ref h15, .int 0, .int 0, .ref h16, .ref h17, .ref h18, .ref h19, .ref h20, .int 0, .ref h1, .ref h2, .ref h3])), (h1, .inl (cy 1, 4, .inl f0)), (h2, .inl (cy 1, 4, .inl (fun _ => 0))), (h3, .inl (cy 2, 160, .inr (.inl (fun _ => 0))))] sz (fun r u => r = 0) (fun u => []) 0 0 := by
  refine q_ent (own := RX12) (by decide) rfl (Nat.le_of_ble_eq_true rfl) (fun p e s m below meth c ls X hr hlk hnm hK h hA hl => ?_)
  obtain ⟨hx, hb, hml, hown, ht⟩ := id X
  replace hl : lv_has ls 5 [(0, .ref h0), (1, .int 1), (2, .int p0), (3, .int p1)] := hl
  refine lv_aload_n hx hb dX12_numbers_0 rfl (lv_at hl 0 rfl) ?_
  refine lv_iconst (v := 0) hx hb dX12_numbers_1 (by decide) ?_
  refine q_put (v := .int 0) X hK h 0 rfl rfl wf_12 tyX12 tyX12_ok nmX12 0 (by decide) wm_5_170 rfl rfl rfl (Nat.le_of_ble_eq_true rfl) dX12_numbers_2 (fun Hp1 lc1 hw1 => ?_)
  clear h
  replace hw1 : qW D _ _ [(h0, .inr (12, [.int 0, .ref h4, .ref h5, .ref h6, .ref h7, .int 0, .int 0, .int 0, .int 0, .int 0, .int 0, .int 0, .int 0, .int 0, .int (-1), .int 0, .ref h8, .ref h9, .ref h10, .ref h11, .ref h12, .int 0, .int 0, .ref h13, .ref h14, .ref h15, .int 0, .int 0, .ref h16, .ref h17, .ref h18, .ref h19, .ref h20, .int 0, .ref h1, .ref h2, .ref h3])), (h1, .inl (cy 1, 4, .inl f0)), (h2, .inl (cy 1, 4, .inl (fun _ => 0))), (h3, .inl (cy 2, 160, .inr (.inl (fun _ => 0))))] _ _ := hw1
  refine lv_iload_n hx hb dX12_numbers_5 rfl (lv_at hl 1 rfl) ?_
  refine lv_i2l (v := 1) hx hb dX12_numbers_6 (by decide +kernel) ?_
  refine lv_lconst (v := 0) hx hb dX12_numbers_7 (by decide) ?_
  refine lv_ldc2 hx hb hown (ht _ wm_7_29) dX12_numbers_8 ?_
  refine q_callSi (rest := []) (wr := [(h0, .inr (12, [.int 0, .ref h4, .ref h5, .ref h6, .ref h7, .int 0, .int 0, .int 0, .int 0, .int 0, .int 0, .int 0, .int 0, .int 0, .int (-1), .int 0, .ref h8, .ref h9, .ref h10, .ref h11, .ref h12, .int 0, .int 0, .ref h13, .ref h14, .ref h15, .int 0, .int 0, .ref h16, .ref h17, .ref h18, .ref h19, .ref h20, .int 0, .ref h1, .ref h2, .ref h3])), (h1, .inl (cy 1, 4, .inl f0)), (h2, .inl (cy 1, 4, .inl (fun _ => 0))), (h3, .inl (cy 2, 160, .inr (.inl (fun _ => 0))))]) X hK hA hw1 (fun sz => kX12_within_164 l D cy   sz) wm_6_50 wm_6_52 wm_1_12 hd_X12_within wm_6_51 ⟨Nat.le_of_ble_eq_true rfl, Nat.le_of_ble_eq_true rfl⟩ hl.1 rfl (Nat.le_of_ble_eq_true rfl) dX12_numbers_11 ⟨Nat.le_of_ble_eq_true rfl, Nat.le_of_ble_eq_true rfl⟩ [] [0, 1, 2, 3] rfl rfl (by decide) rfl rfl (fun r_11408 u_11408 Hp2 lc2 w_11408 hw2 => ?_)
  clear Hp1 lc1 hw1
  obtain rfl : r_11408 = 1 := w_11408
  replace hw2 : qW D _ _ [(h0, .inr (12, [.int 0, .ref h4, .ref h5, .ref h6, .ref h7, .int 0, .int 0, .int 0, .int 0, .int 0, .int 0, .int 0, .int 0, .int 0, .int (-1), .int 0, .ref h8, .ref h9, .ref h10, .ref h11, .ref h12, .int 0, .int 0, .ref h13, .ref h14, .ref h15, .int 0, .int 0, .ref h16, .ref h17, .ref h18, .ref h19, .ref h20, .int 0, .ref h1, .ref h2, .ref h3])), (h1, .inl (cy 1, 4, .inl f0)), (h2, .inl (cy 1, 4, .inl (fun _ => 0))), (h3, .inl (cy 2, 160, .inr (.inl (fun _ => 0))))] _ _ := hw2
  refine lv_if_eq (tgt := 29) hx hb dX12_numbers_14 (by decide) (fun c => absurd c (by decide +kernel)) (fun _ => ?_)
  refine lv_iload_n hx hb dX12_numbers_17 rfl (lv_at hl 2 rfl) ?_
  refine lv_i2l hx hb dX12_numbers_18 rfl ?_
  refine lv_lconst (v := 0) hx hb dX12_numbers_19 (by decide) ?_
  refine lv_ldc2 hx hb hown (ht _ wm_7_29) dX12_numbers_20 ?_
  have g_11411 : (0 : Int64) ≤ ((p0).toInt64) := by
    simp only [Int32.toInt_toInt64, Int64.lt_iff_toInt_lt, Int64.le_iff_toInt_le, ← Int64.toInt_inj, Int32.lt_iff_toInt_lt, Int32.le_iff_toInt_le, ← Int32.toInt_inj] at hlo_p0 hhi_p0 ⊢
    have k_0 : (0 : Int32).toInt = 0 := by decide
    have k_1 : (3 : Int32).toInt = 3 := by decide
    have k_g : (0 : Int64).toInt = 0 := by decide
    omega
  have g_11412 : ((p0).toInt64) ≤ (3 : Int64) := by
    simp only [Int32.toInt_toInt64, Int64.lt_iff_toInt_lt, Int64.le_iff_toInt_le, ← Int64.toInt_inj, Int32.lt_iff_toInt_lt, Int32.le_iff_toInt_le, ← Int32.toInt_inj] at hlo_p0 hhi_p0 ⊢
    have k_0 : (0 : Int32).toInt = 0 := by decide
    have k_1 : (3 : Int32).toInt = 3 := by decide
    have k_g : (3 : Int64).toInt = 3 := by decide
    omega
  refine q_callSi (rest := []) (wr := [(h0, .inr (12, [.int 0, .ref h4, .ref h5, .ref h6, .ref h7, .int 0, .int 0, .int 0, .int 0, .int 0, .int 0, .int 0, .int 0, .int 0, .int (-1), .int 0, .ref h8, .ref h9, .ref h10, .ref h11, .ref h12, .int 0, .int 0, .ref h13, .ref h14, .ref h15, .int 0, .int 0, .ref h16, .ref h17, .ref h18, .ref h19, .ref h20, .int 0, .ref h1, .ref h2, .ref h3])), (h1, .inl (cy 1, 4, .inl f0)), (h2, .inl (cy 1, 4, .inl (fun _ => 0))), (h3, .inl (cy 2, 160, .inr (.inl (fun _ => 0))))]) X hK hA hw2 (fun sz => kX12_within_143 l D cy ((p0).toInt64) g_11411 g_11412 sz) wm_6_50 wm_6_52 wm_1_12 hd_X12_within wm_6_51 ⟨Nat.le_of_ble_eq_true rfl, Nat.le_of_ble_eq_true rfl⟩ hl.1 rfl (Nat.le_of_ble_eq_true rfl) dX12_numbers_23 ⟨Nat.le_of_ble_eq_true rfl, Nat.le_of_ble_eq_true rfl⟩ [] [0, 1, 2, 3] rfl rfl (by decide) rfl rfl (fun r_11413 u_11413 Hp3 lc3 w_11413 hw3 => ?_)
  clear Hp2 lc2 hw2
  obtain rfl : r_11413 = 1 := w_11413
  replace hw3 : qW D _ _ [(h0, .inr (12, [.int 0, .ref h4, .ref h5, .ref h6, .ref h7, .int 0, .int 0, .int 0, .int 0, .int 0, .int 0, .int 0, .int 0, .int 0, .int (-1), .int 0, .ref h8, .ref h9, .ref h10, .ref h11, .ref h12, .int 0, .int 0, .ref h13, .ref h14, .ref h15, .int 0, .int 0, .ref h16, .ref h17, .ref h18, .ref h19, .ref h20, .int 0, .ref h1, .ref h2, .ref h3])), (h1, .inl (cy 1, 4, .inl f0)), (h2, .inl (cy 1, 4, .inl (fun _ => 0))), (h3, .inl (cy 2, 160, .inr (.inl (fun _ => 0))))] _ _ := hw3
  refine lv_if_ne (tgt := 32) hx hb dX12_numbers_26 (by decide) (fun _ => ?_) (fun c => absurd c (by decide +kernel))
  refine lv_iload_n hx hb dX12_numbers_32 rfl (lv_at hl 3 rfl) ?_
  refine lv_i2l hx hb dX12_numbers_33 rfl ?_
  refine lv_lconst (v := 0) hx hb dX12_numbers_34 (by decide) ?_
  refine lv_ldc2 hx hb hown (ht _ wm_7_82) dX12_numbers_35 ?_
  have g_11416 : (0 : Int64) ≤ ((p1).toInt64) := by
    simp only [Int32.toInt_toInt64, Int64.lt_iff_toInt_lt, Int64.le_iff_toInt_le, ← Int64.toInt_inj, Int32.lt_iff_toInt_lt, Int32.le_iff_toInt_le, ← Int32.toInt_inj] at hlo_p1 hhi_p1 ⊢
    have k_0 : (0 : Int32).toInt = 0 := by decide
    have k_1 : (40 : Int32).toInt = 40 := by decide
    have k_g : (0 : Int64).toInt = 0 := by decide
    omega
  have g_11417 : ((p1).toInt64) ≤ (40 : Int64) := by
    simp only [Int32.toInt_toInt64, Int64.lt_iff_toInt_lt, Int64.le_iff_toInt_le, ← Int64.toInt_inj, Int32.lt_iff_toInt_lt, Int32.le_iff_toInt_le, ← Int32.toInt_inj] at hlo_p1 hhi_p1 ⊢
    have k_0 : (0 : Int32).toInt = 0 := by decide
    have k_1 : (40 : Int32).toInt = 40 := by decide
    have k_g : (40 : Int64).toInt = 40 := by decide
    omega
  refine q_callSi (rest := []) (wr := [(h0, .inr (12, [.int 0, .ref h4, .ref h5, .ref h6, .ref h7, .int 0, .int 0, .int 0, .int 0, .int 0, .int 0, .int 0, .int 0, .int 0, .int (-1), .int 0, .ref h8, .ref h9, .ref h10, .ref h11, .ref h12, .int 0, .int 0, .ref h13, .ref h14, .ref h15, .int 0, .int 0, .ref h16, .ref h17, .ref h18, .ref h19, .ref h20, .int 0, .ref h1, .ref h2, .ref h3])), (h1, .inl (cy 1, 4, .inl f0)), (h2, .inl (cy 1, 4, .inl (fun _ => 0))), (h3, .inl (cy 2, 160, .inr (.inl (fun _ => 0))))]) X hK hA hw3 (fun sz => kX12_within_437 l D cy ((p1).toInt64) g_11416 g_11417 sz) wm_6_50 wm_6_52 wm_1_12 hd_X12_within wm_6_51 ⟨Nat.le_of_ble_eq_true rfl, Nat.le_of_ble_eq_true rfl⟩ hl.1 rfl (Nat.le_of_ble_eq_true rfl) dX12_numbers_38 ⟨Nat.le_of_ble_eq_true rfl, Nat.le_of_ble_eq_true rfl⟩ [] [0, 1, 2, 3] rfl rfl (by decide) rfl rfl (fun r_11418 u_11418 Hp4 lc4 w_11418 hw4 => ?_)
  clear Hp3 lc3 hw3
  obtain rfl : r_11418 = 1 := w_11418
  replace hw4 : qW D _ _ [(h0, .inr (12, [.int 0, .ref h4, .ref h5, .ref h6, .ref h7, .int 0, .int 0, .int 0, .int 0, .int 0, .int 0, .int 0, .int 0, .int 0, .int (-1), .int 0, .ref h8, .ref h9, .ref h10, .ref h11, .ref h12, .int 0, .int 0, .ref h13, .ref h14, .ref h15, .int 0, .int 0, .ref h16, .ref h17, .ref h18, .ref h19, .ref h20, .int 0, .ref h1, .ref h2, .ref h3])), (h1, .inl (cy 1, 4, .inl f0)), (h2, .inl (cy 1, 4, .inl (fun _ => 0))), (h3, .inl (cy 2, 160, .inr (.inl (fun _ => 0))))] _ _ := hw4
  refine lv_if_ne (tgt := 47) hx hb dX12_numbers_41 (by decide) (fun _ => ?_) (fun c => absurd c (by decide +kernel))
  refine lv_aload_n hx hb dX12_numbers_47 rfl (lv_at hl 0 rfl) ?_
  refine q_get X hK hw4 0 rfl rfl wf_12 34 (by decide) rfl wm_5_204 dX12_numbers_48 ?_
  refine lv_iload_n hx hb dX12_numbers_51 rfl (lv_at hl 1 rfl) ?_
  refine lv_iload_n hx hb dX12_numbers_52 rfl (lv_at hl 2 rfl) ?_
  refine q_iast X hK hw4 1 rfl (q_in (by decide +kernel)) dX12_numbers_53 (fun Hp5 lc5 hw5 => ?_)
  clear Hp4 lc4 hw4
  replace hw5 : qW D _ _ [(h0, .inr (12, [.int 0, .ref h4, .ref h5, .ref h6, .ref h7, .int 0, .int 0, .int 0, .int 0, .int 0, .int 0, .int 0, .int 0, .int 0, .int (-1), .int 0, .ref h8, .ref h9, .ref h10, .ref h11, .ref h12, .int 0, .int 0, .ref h13, .ref h14, .ref h15, .int 0, .int 0, .ref h16, .ref h17, .ref h18, .ref h19, .ref h20, .int 0, .ref h1, .ref h2, .ref h3])), (h1, .inl (cy 1, 4, .inl (upd f0 (Int32.toNatClampNeg 1) p0))), (h2, .inl (cy 1, 4, .inl (fun _ => 0))), (h3, .inl (cy 2, 160, .inr (.inl (fun _ => 0))))] _ _ := hw5
  refine lv_aload_n hx hb dX12_numbers_54 rfl (lv_at hl 0 rfl) ?_
  refine q_get X hK hw5 0 rfl rfl wf_12 35 (by decide) rfl wm_5_205 dX12_numbers_55 ?_
  refine lv_iload_n hx hb dX12_numbers_58 rfl (lv_at hl 1 rfl) ?_
  refine lv_iload_n hx hb dX12_numbers_59 rfl (lv_at hl 3 rfl) ?_
  refine q_iast X hK hw5 2 rfl (q_in (by decide +kernel)) dX12_numbers_60 (fun Hp6 lc6 hw6 => ?_)
  clear Hp5 lc5 hw5
  replace hw6 : qW D _ _ [(h0, .inr (12, [.int 0, .ref h4, .ref h5, .ref h6, .ref h7, .int 0, .int 0, .int 0, .int 0, .int 0, .int 0, .int 0, .int 0, .int 0, .int (-1), .int 0, .ref h8, .ref h9, .ref h10, .ref h11, .ref h12, .int 0, .int 0, .ref h13, .ref h14, .ref h15, .int 0, .int 0, .ref h16, .ref h17, .ref h18, .ref h19, .ref h20, .int 0, .ref h1, .ref h2, .ref h3])), (h1, .inl (cy 1, 4, .inl (upd f0 (Int32.toNatClampNeg 1) p0))), (h2, .inl (cy 1, 4, .inl (upd (fun _ => 0) (Int32.toNatClampNeg 1) p1))), (h3, .inl (cy 2, 160, .inr (.inl (fun _ => 0))))] _ _ := hw6
  refine lv_iconst (v := 0) hx hb dX12_numbers_61 (by decide) ?_
  refine lv_istore (lv' := [(4, .int 0), (0, .ref h0), (1, .int 1), (2, .int p0), (3, .int p1)]) hx hb dX12_numbers_62 hl (by decide) rfl (fun lz7 hv7 => ?_)
  clear ls hl
  obtain ⟨N, hN, hNe⟩ : ∃ N : Nat, N ≤ 40 ∧ p1 = nI N := q_num hlo_p1 hhi_p1
  subst hNe
  refine q_loop (P := fun k H locs ls => qW D (va_A [(h0, .inr (12, [.int 0, .ref h4, .ref h5, .ref h6, .ref h7, .int 0, .int 0, .int 0, .int 0, .int 0, .int 0, .int 0, .int 0, .int 0, .int (-1), .int 0, .ref h8, .ref h9, .ref h10, .ref h11, .ref h12, .int 0, .int 0, .ref h13, .ref h14, .ref h15, .int 0, .int 0, .ref h16, .ref h17, .ref h18, .ref h19, .ref h20, .int 0, .ref h1, .ref h2, .ref h3])), (h1, .inl (cy 1, 4, .inl f0)), (h2, .inl (cy 1, 4, .inl (fun _ => 0))), (h3, .inl (cy 2, 160, .inr (.inl (fun _ => 0))))] sz) s.heap [(h0, .inr (12, [.int 0, .ref h4, .ref h5, .ref h6, .ref h7, .int 0, .int 0, .int 0, .int 0, .int 0, .int 0, .int 0, .int 0, .int 0, .int (-1), .int 0, .ref h8, .ref h9, .ref h10, .ref h11, .ref h12, .int 0, .int 0, .ref h13, .ref h14, .ref h15, .int 0, .int 0, .ref h16, .ref h17, .ref h18, .ref h19, .ref h20, .int 0, .ref h1, .ref h2, .ref h3])), (h1, .inl (cy 1, 4, .inl (upd f0 (Int32.toNatClampNeg 1) p0))), (h2, .inl (cy 1, 4, .inl (upd (fun _ => 0) (Int32.toNatClampNeg 1) (nI N)))), (h3, .inl (cy 2, 160, .inr (.inl (fun _ => 0))))] H locs ∧ lv_has ls 5 [(4, .int (nI k)), (0, .ref h0), (1, .int 1), (2, .int p0), (3, .int (nI N))]) N 0 (Nat.zero_le _) ⟨hw6, by rw [nI_0]; exact hv7⟩ (fun k hk ih H locs ls hP => ?_) (fun H locs ls hP => ?_)
  · obtain ⟨h, hl⟩ := hP
    have hki : (nI k).toInt = (k : Int) := nI_toInt (by omega)
    have hin_11420 : vp_in (40 + (nI k)) 160 := by rw [show (40 : Int32) + nI k = nI (40 + k) from nI_add 40 k]; exact vp_in_nI (by omega) (by omega)
    refine lv_iload hx hb dX12_numbers_64 (lv_at hl 0 rfl) ?_
    refine lv_iload_n hx hb dX12_numbers_66 rfl (lv_at hl 4 rfl) ?_
    refine lv_icmp_ge (tgt := 89) hx hb dX12_numbers_67 (by decide) (fun c => absurd c (nI_ge hk (by omega))) (fun _ => ?_)
    refine lv_aload_n hx hb dX12_numbers_70 rfl (lv_at hl 1 rfl) ?_
    refine q_get X hK h 0 rfl rfl wf_12 36 (by decide) rfl wm_5_206 dX12_numbers_71 ?_
    refine lv_bipush (v := 40) hx hb dX12_numbers_74 (by decide) ?_
    refine lv_iload_n hx hb dX12_numbers_76 rfl (lv_at hl 2 rfl) ?_
    refine lv_imul hx hb dX12_numbers_77 ?_
    refine q_c 40 (by decide +kernel) ?_
    refine lv_iload hx hb dX12_numbers_78 (lv_at hl 0 rfl) ?_
    refine lv_iadd hx hb dX12_numbers_80 ?_
    refine lv_lconst (v := 0) hx hb dX12_numbers_81 (by decide) ?_
    refine q_last X hK h 3 rfl hin_11420 dX12_numbers_82 (fun Hp8 lc8 hw8 => ?_)
    clear h
    replace hw8 : qW D _ _ [(h0, .inr (12, [.int 0, .ref h4, .ref h5, .ref h6, .ref h7, .int 0, .int 0, .int 0, .int 0, .int 0, .int 0, .int 0, .int 0, .int 0, .int (-1), .int 0, .ref h8, .ref h9, .ref h10, .ref h11, .ref h12, .int 0, .int 0, .ref h13, .ref h14, .ref h15, .int 0, .int 0, .ref h16, .ref h17, .ref h18, .ref h19, .ref h20, .int 0, .ref h1, .ref h2, .ref h3])), (h1, .inl (cy 1, 4, .inl (upd f0 (Int32.toNatClampNeg 1) p0))), (h2, .inl (cy 1, 4, .inl (upd (fun _ => 0) (Int32.toNatClampNeg 1) (nI N)))), (h3, .inl (cy 2, 160, .inr (.inl (vp_updL (fun _ => 0) (Int32.toNatClampNeg (40 + (nI k))) 0))))] _ _ := hw8
    rw [q_usL rfl] at hw8
    refine lv_iinc (v := (nI (k + 1))) (lv' := [(4, .int (nI (k + 1))), (0, .ref h0), (1, .int 1), (2, .int p0), (3, .int (nI N))]) hx hb dX12_numbers_83 hl (k := 0) rfl (nI_1 _) (by decide) rfl (fun lz9 hv9 => ?_)
    clear ls hl
    refine lv_goto (tgt := 64) hx hb dX12_numbers_86 (by decide) ?_
    exact ih _ _ _ ⟨hw8, hv9⟩
  · obtain ⟨h, hl⟩ := hP
    refine lv_iload hx hb dX12_numbers_64 (lv_at hl 0 rfl) ?_
    refine lv_iload_n hx hb dX12_numbers_66 rfl (lv_at hl 4 rfl) ?_
    refine lv_icmp_ge (tgt := 89) hx hb dX12_numbers_67 (by decide) (fun _ => ?_) (fun c => absurd (Int32.le_refl _) c)
    refine lv_iconst (v := 0) hx hb dX12_numbers_89 (by decide) ?_
    exact q_iret X hr hlk hK h rfl qu0 rfl [] rfl rfl dX12_numbers_90 (Nat.le_of_ble_eq_true rfl) (Nat.le_of_ble_eq_true rfl)
set_option maxHeartbeats 4000000 in
set_option maxRecDepth 100000 in
theorem kX11_numbers_450 (l : Launch) (D : va_G) (cy : Nat → ClassId) (h0 : Nat) (p0 : Int32) (p1 : Int32) (h1 : Nat) (h2 : Nat) (h3 : Nat) (h4 : Nat) (h5 : Nat) (h6 : Nat) (h7 : Nat) (h8 : Nat) (h9 : Nat) (h10 : Nat) (h11 : Nat) (h12 : Nat) (h13 : Nat) (hlo_p0 : (0 : Int32) ≤ p0) (hhi_p0 : p0 ≤ (3 : Int32)) (hlo_p1 : (41 : Int32) ≤ p1) (sz : Nat) : MI l yX11_numbers cX11_numbers 4 .int { frames := 1, cells := 0, slots := 0, locals := 21 } [.ref h0, .int 1, .int p0, .int p1] D cy [(h0, .inr (11, [.ref h1, .int 0, .int 0, .int (-1), .ref h2, .ref h3, .ref h4, .ref h5, .ref h6, .ref h7, .ref h8, .ref h9, .ref h10, .ref h11, .ref h12, .ref h13, .int 0]))] sz (fun r u => r = (-3)) (fun u => []) 0 0 := by
  refine q_ent (own := RX11) (by decide) rfl (Nat.le_of_ble_eq_true rfl) (fun p e s m below meth c ls X hr hlk hnm hK h hA hl => ?_)
  obtain ⟨hx, hb, hml, hown, ht⟩ := id X
  replace hl : lv_has ls 4 [(0, .ref h0), (1, .int 1), (2, .int p0), (3, .int p1)] := hl
  refine lv_aload_n hx hb dX11_numbers_0 rfl (lv_at hl 0 rfl) ?_
  refine lv_iload_n hx hb dX11_numbers_1 rfl (lv_at hl 1 rfl) ?_
  refine q_callVi (rest := []) (wr := []) X hK hA h (fun sz => kX11_isTray_160 l D cy h0 h1 h2 h3 h4 h5 h6 h7 h8 h9 h10 h11 h12 h13  sz) wm_4_83 wm_4_86 wm_1_1 hd_X11_isTray wm_4_85 wp_3_1 (ci := 11) (q0 := 0) rfl rfl ⟨Nat.le_of_ble_eq_true rfl, Nat.le_of_ble_eq_true rfl⟩ hl.1 rfl (Nat.le_of_ble_eq_true rfl) dX11_numbers_2 ⟨Nat.le_of_ble_eq_true rfl, Nat.le_of_ble_eq_true rfl⟩ [0] [] rfl rfl (by decide) rfl rfl (fun r_11466 u_11466 Hp1 lc1 w_11466 hw1 => ?_)
  clear h
  obtain rfl : r_11466 = 1 := w_11466
  replace hw1 : qW D _ _ [(h0, .inr (11, [.ref h1, .int 0, .int 0, .int (-1), .ref h2, .ref h3, .ref h4, .ref h5, .ref h6, .ref h7, .ref h8, .ref h9, .ref h10, .ref h11, .ref h12, .ref h13, .int 0]))] _ _ := hw1
  refine lv_if_eq (tgt := 17) hx hb dX11_numbers_5 (by decide) (fun c => absurd c (by decide +kernel)) (fun _ => ?_)
  refine lv_iload_n hx hb dX11_numbers_8 rfl (lv_at hl 2 rfl) ?_
  refine lv_if_lt (tgt := 17) hx hb dX11_numbers_9 (by decide) (fun c_11467 => ?_) (fun c_11467 => ?_)
  · exfalso
    simp only [Int32.lt_iff_toInt_lt, Int32.le_iff_toInt_le, ← Int32.toInt_inj] at hlo_p0 hhi_p0 c_11467
    have k_0 : (0 : Int32).toInt = 0 := by decide
    have k_1 : (3 : Int32).toInt = 3 := by decide
    omega
  · refine lv_iload_n hx hb dX11_numbers_12 rfl (lv_at hl 2 rfl) ?_
    refine lv_iconst (v := 4) hx hb dX11_numbers_13 (by decide) ?_
    refine lv_icmp_lt (tgt := 20) hx hb dX11_numbers_14 (by decide) (fun c_11468 => ?_) (fun c_11468 => ?_)
    · refine lv_iload_n hx hb dX11_numbers_20 rfl (lv_at hl 3 rfl) ?_
      refine lv_if_lt (tgt := 30) hx hb dX11_numbers_21 (by decide) (fun c_11469 => ?_) (fun c_11469 => ?_)
      · exfalso
        simp only [Int32.lt_iff_toInt_lt, Int32.le_iff_toInt_le, ← Int32.toInt_inj] at hlo_p1 c_11469
        have k_0 : (41 : Int32).toInt = 41 := by decide
        have k_1 : (0 : Int32).toInt = 0 := by decide
        omega
      · refine lv_iload_n hx hb dX11_numbers_24 rfl (lv_at hl 3 rfl) ?_
        refine lv_bipush (v := 40) hx hb dX11_numbers_25 (by decide) ?_
        refine lv_icmp_le (tgt := 33) hx hb dX11_numbers_27 (by decide) (fun c_11470 => ?_) (fun c_11470 => ?_)
        · exfalso
          simp only [Int32.lt_iff_toInt_lt, Int32.le_iff_toInt_le, ← Int32.toInt_inj] at hlo_p1 c_11469 c_11470
          have k_0 : (41 : Int32).toInt = 41 := by decide
          have k_1 : (0 : Int32).toInt = 0 := by decide
          have k_2 : (40 : Int32).toInt = 40 := by decide
          omega
        · refine lv_bipush (v := (-3)) hx hb dX11_numbers_30 (by decide) ?_
          exact q_iret X hr hlk hK hw1 rfl qu0 rfl [] rfl rfl dX11_numbers_32 (Nat.le_of_ble_eq_true rfl) (Nat.le_of_ble_eq_true rfl)
    · exfalso
      simp only [Int32.lt_iff_toInt_lt, Int32.le_iff_toInt_le, ← Int32.toInt_inj] at hlo_p0 hhi_p0 c_11467 c_11468
      have k_0 : (0 : Int32).toInt = 0 := by decide
      have k_1 : (3 : Int32).toInt = 3 := by decide
      have k_2 : (4 : Int32).toInt = 4 := by decide
      omega
set_option maxHeartbeats 4000000 in
set_option maxRecDepth 100000 in
theorem kX12_numbers_451 (l : Launch) (D : va_G) (cy : Nat → ClassId) (h0 : Nat) (p0 : Int32) (p1 : Int32) (h1 : Nat) (h2 : Nat) (h3 : Nat) (h4 : Nat) (h5 : Nat) (h6 : Nat) (h7 : Nat) (h8 : Nat) (h9 : Nat) (h10 : Nat) (h11 : Nat) (h12 : Nat) (h13 : Nat) (h14 : Nat) (h15 : Nat) (h16 : Nat) (h17 : Nat) (h18 : Nat) (h19 : Nat) (h20 : Nat) (hlo_p0 : (0 : Int32) ≤ p0) (hhi_p0 : p0 ≤ (3 : Int32)) (hlo_p1 : (41 : Int32) ≤ p1) (sz : Nat) : MI l yX12_numbers cX12_numbers 5 .int { frames := 1, cells := 0, slots := 0, locals := 25 } [.ref h0, .int 1, .int p0, .int p1] D cy [(h0, .inr (12, [.int 0, .ref h1, .ref h2, .ref h3, .ref h4, .int 0, .int 0, .int 0, .int 0, .int 0, .int 0, .int 0, .int 0, .int 0, .int (-1), .int 0, .ref h5, .ref h6, .ref h7, .ref h8, .ref h9, .int 0, .int 0, .ref h10, .ref h11, .ref h12, .int 0, .int 0, .ref h13, .ref h14, .ref h15, .ref h16, .ref h17, .int 0, .ref h18, .ref h19, .ref h20]))] sz (fun r u => r = (-3)) (fun u => []) 0 0 := by
  refine q_ent (own := RX12) (by decide) rfl (Nat.le_of_ble_eq_true rfl) (fun p e s m below meth c ls X hr hlk hnm hK h hA hl => ?_)
  obtain ⟨hx, hb, hml, hown, ht⟩ := id X
  replace hl : lv_has ls 5 [(0, .ref h0), (1, .int 1), (2, .int p0), (3, .int p1)] := hl
  refine lv_aload_n hx hb dX12_numbers_0 rfl (lv_at hl 0 rfl) ?_
  refine lv_iconst (v := 0) hx hb dX12_numbers_1 (by decide) ?_
  refine q_put (v := .int 0) X hK h 0 rfl rfl wf_12 tyX12 tyX12_ok nmX12 0 (by decide) wm_5_170 rfl rfl rfl (Nat.le_of_ble_eq_true rfl) dX12_numbers_2 (fun Hp1 lc1 hw1 => ?_)
  clear h
  replace hw1 : qW D _ _ [(h0, .inr (12, [.int 0, .ref h1, .ref h2, .ref h3, .ref h4, .int 0, .int 0, .int 0, .int 0, .int 0, .int 0, .int 0, .int 0, .int 0, .int (-1), .int 0, .ref h5, .ref h6, .ref h7, .ref h8, .ref h9, .int 0, .int 0, .ref h10, .ref h11, .ref h12, .int 0, .int 0, .ref h13, .ref h14, .ref h15, .ref h16, .ref h17, .int 0, .ref h18, .ref h19, .ref h20]))] _ _ := hw1
  refine lv_iload_n hx hb dX12_numbers_5 rfl (lv_at hl 1 rfl) ?_
  refine lv_i2l (v := 1) hx hb dX12_numbers_6 (by decide +kernel) ?_
  refine lv_lconst (v := 0) hx hb dX12_numbers_7 (by decide) ?_
  refine lv_ldc2 hx hb hown (ht _ wm_7_29) dX12_numbers_8 ?_
  refine q_callSi (rest := []) (wr := [(h0, .inr (12, [.int 0, .ref h1, .ref h2, .ref h3, .ref h4, .int 0, .int 0, .int 0, .int 0, .int 0, .int 0, .int 0, .int 0, .int 0, .int (-1), .int 0, .ref h5, .ref h6, .ref h7, .ref h8, .ref h9, .int 0, .int 0, .ref h10, .ref h11, .ref h12, .int 0, .int 0, .ref h13, .ref h14, .ref h15, .ref h16, .ref h17, .int 0, .ref h18, .ref h19, .ref h20]))]) X hK hA hw1 (fun sz => kX12_within_164 l D cy   sz) wm_6_50 wm_6_52 wm_1_12 hd_X12_within wm_6_51 ⟨Nat.le_of_ble_eq_true rfl, Nat.le_of_ble_eq_true rfl⟩ hl.1 rfl (Nat.le_of_ble_eq_true rfl) dX12_numbers_11 ⟨Nat.le_of_ble_eq_true rfl, Nat.le_of_ble_eq_true rfl⟩ [] [0] rfl rfl (by decide) rfl rfl (fun r_11491 u_11491 Hp2 lc2 w_11491 hw2 => ?_)
  clear Hp1 lc1 hw1
  obtain rfl : r_11491 = 1 := w_11491
  replace hw2 : qW D _ _ [(h0, .inr (12, [.int 0, .ref h1, .ref h2, .ref h3, .ref h4, .int 0, .int 0, .int 0, .int 0, .int 0, .int 0, .int 0, .int 0, .int 0, .int (-1), .int 0, .ref h5, .ref h6, .ref h7, .ref h8, .ref h9, .int 0, .int 0, .ref h10, .ref h11, .ref h12, .int 0, .int 0, .ref h13, .ref h14, .ref h15, .ref h16, .ref h17, .int 0, .ref h18, .ref h19, .ref h20]))] _ _ := hw2
  refine lv_if_eq (tgt := 29) hx hb dX12_numbers_14 (by decide) (fun c => absurd c (by decide +kernel)) (fun _ => ?_)
  refine lv_iload_n hx hb dX12_numbers_17 rfl (lv_at hl 2 rfl) ?_
  refine lv_i2l hx hb dX12_numbers_18 rfl ?_
  refine lv_lconst (v := 0) hx hb dX12_numbers_19 (by decide) ?_
  refine lv_ldc2 hx hb hown (ht _ wm_7_29) dX12_numbers_20 ?_
  have g_11494 : (0 : Int64) ≤ ((p0).toInt64) := by
    simp only [Int32.toInt_toInt64, Int64.lt_iff_toInt_lt, Int64.le_iff_toInt_le, ← Int64.toInt_inj, Int32.lt_iff_toInt_lt, Int32.le_iff_toInt_le, ← Int32.toInt_inj] at hlo_p0 hhi_p0 ⊢
    have k_0 : (0 : Int32).toInt = 0 := by decide
    have k_1 : (3 : Int32).toInt = 3 := by decide
    have k_g : (0 : Int64).toInt = 0 := by decide
    omega
  have g_11495 : ((p0).toInt64) ≤ (3 : Int64) := by
    simp only [Int32.toInt_toInt64, Int64.lt_iff_toInt_lt, Int64.le_iff_toInt_le, ← Int64.toInt_inj, Int32.lt_iff_toInt_lt, Int32.le_iff_toInt_le, ← Int32.toInt_inj] at hlo_p0 hhi_p0 ⊢
    have k_0 : (0 : Int32).toInt = 0 := by decide
    have k_1 : (3 : Int32).toInt = 3 := by decide
    have k_g : (3 : Int64).toInt = 3 := by decide
    omega
  refine q_callSi (rest := []) (wr := [(h0, .inr (12, [.int 0, .ref h1, .ref h2, .ref h3, .ref h4, .int 0, .int 0, .int 0, .int 0, .int 0, .int 0, .int 0, .int 0, .int 0, .int (-1), .int 0, .ref h5, .ref h6, .ref h7, .ref h8, .ref h9, .int 0, .int 0, .ref h10, .ref h11, .ref h12, .int 0, .int 0, .ref h13, .ref h14, .ref h15, .ref h16, .ref h17, .int 0, .ref h18, .ref h19, .ref h20]))]) X hK hA hw2 (fun sz => kX12_within_143 l D cy ((p0).toInt64) g_11494 g_11495 sz) wm_6_50 wm_6_52 wm_1_12 hd_X12_within wm_6_51 ⟨Nat.le_of_ble_eq_true rfl, Nat.le_of_ble_eq_true rfl⟩ hl.1 rfl (Nat.le_of_ble_eq_true rfl) dX12_numbers_23 ⟨Nat.le_of_ble_eq_true rfl, Nat.le_of_ble_eq_true rfl⟩ [] [0] rfl rfl (by decide) rfl rfl (fun r_11496 u_11496 Hp3 lc3 w_11496 hw3 => ?_)
  clear Hp2 lc2 hw2
  obtain rfl : r_11496 = 1 := w_11496
  replace hw3 : qW D _ _ [(h0, .inr (12, [.int 0, .ref h1, .ref h2, .ref h3, .ref h4, .int 0, .int 0, .int 0, .int 0, .int 0, .int 0, .int 0, .int 0, .int 0, .int (-1), .int 0, .ref h5, .ref h6, .ref h7, .ref h8, .ref h9, .int 0, .int 0, .ref h10, .ref h11, .ref h12, .int 0, .int 0, .ref h13, .ref h14, .ref h15, .ref h16, .ref h17, .int 0, .ref h18, .ref h19, .ref h20]))] _ _ := hw3
  refine lv_if_ne (tgt := 32) hx hb dX12_numbers_26 (by decide) (fun _ => ?_) (fun c => absurd c (by decide +kernel))
  refine lv_iload_n hx hb dX12_numbers_32 rfl (lv_at hl 3 rfl) ?_
  refine lv_i2l hx hb dX12_numbers_33 rfl ?_
  refine lv_lconst (v := 0) hx hb dX12_numbers_34 (by decide) ?_
  refine lv_ldc2 hx hb hown (ht _ wm_7_82) dX12_numbers_35 ?_
  have g_11499 : (41 : Int64) ≤ ((p1).toInt64) := by
    simp only [Int32.toInt_toInt64, Int64.lt_iff_toInt_lt, Int64.le_iff_toInt_le, ← Int64.toInt_inj, Int32.lt_iff_toInt_lt, Int32.le_iff_toInt_le, ← Int32.toInt_inj] at hlo_p1 ⊢
    have k_0 : (41 : Int32).toInt = 41 := by decide
    have k_g : (41 : Int64).toInt = 41 := by decide
    omega
  refine q_callSi (rest := []) (wr := [(h0, .inr (12, [.int 0, .ref h1, .ref h2, .ref h3, .ref h4, .int 0, .int 0, .int 0, .int 0, .int 0, .int 0, .int 0, .int 0, .int 0, .int (-1), .int 0, .ref h5, .ref h6, .ref h7, .ref h8, .ref h9, .int 0, .int 0, .ref h10, .ref h11, .ref h12, .int 0, .int 0, .ref h13, .ref h14, .ref h15, .ref h16, .ref h17, .int 0, .ref h18, .ref h19, .ref h20]))]) X hK hA hw3 (fun sz => kX12_within_440 l D cy ((p1).toInt64) g_11499 sz) wm_6_50 wm_6_52 wm_1_12 hd_X12_within wm_6_51 ⟨Nat.le_of_ble_eq_true rfl, Nat.le_of_ble_eq_true rfl⟩ hl.1 rfl (Nat.le_of_ble_eq_true rfl) dX12_numbers_38 ⟨Nat.le_of_ble_eq_true rfl, Nat.le_of_ble_eq_true rfl⟩ [] [0] rfl rfl (by decide) rfl rfl (fun r_11500 u_11500 Hp4 lc4 w_11500 hw4 => ?_)
  clear Hp3 lc3 hw3
  obtain rfl : r_11500 = 0 := w_11500
  replace hw4 : qW D _ _ [(h0, .inr (12, [.int 0, .ref h1, .ref h2, .ref h3, .ref h4, .int 0, .int 0, .int 0, .int 0, .int 0, .int 0, .int 0, .int 0, .int 0, .int (-1), .int 0, .ref h5, .ref h6, .ref h7, .ref h8, .ref h9, .int 0, .int 0, .ref h10, .ref h11, .ref h12, .int 0, .int 0, .ref h13, .ref h14, .ref h15, .ref h16, .ref h17, .int 0, .ref h18, .ref h19, .ref h20]))] _ _ := hw4
  refine lv_if_ne (tgt := 47) hx hb dX12_numbers_41 (by decide) (fun c => absurd c (by decide +kernel)) (fun _ => ?_)
  refine lv_bipush (v := (-3)) hx hb dX12_numbers_44 (by decide) ?_
  exact q_iret X hr hlk hK hw4 rfl qu0 rfl [] rfl rfl dX12_numbers_46 (Nat.le_of_ble_eq_true rfl) (Nat.le_of_ble_eq_true rfl)
set_option maxHeartbeats 4000000 in
set_option maxRecDepth 100000 in
theorem kX11_numbers_452 (l : Launch) (D : va_G) (cy : Nat → ClassId) (h0 : Nat) (p0 : Int32) (p1 : Int32) (h1 : Nat) (h2 : Nat) (h3 : Nat) (h4 : Nat) (h5 : Nat) (h6 : Nat) (h7 : Nat) (h8 : Nat) (h9 : Nat) (h10 : Nat) (h11 : Nat) (h12 : Nat) (h13 : Nat) (hlo_p0 : (4 : Int32) ≤ p0) (sz : Nat) : MI l yX11_numbers cX11_numbers 4 .int { frames := 1, cells := 0, slots := 0, locals := 21 } [.ref h0, .int 1, .int p0, .int p1] D cy [(h0, .inr (11, [.ref h1, .int 0, .int 0, .int (-1), .ref h2, .ref h3, .ref h4, .ref h5, .ref h6, .ref h7, .ref h8, .ref h9, .ref h10, .ref h11, .ref h12, .ref h13, .int 0]))] sz (fun r u => r = (-2)) (fun u => []) 0 0 := by
  refine q_ent (own := RX11) (by decide) rfl (Nat.le_of_ble_eq_true rfl) (fun p e s m below meth c ls X hr hlk hnm hK h hA hl => ?_)
  obtain ⟨hx, hb, hml, hown, ht⟩ := id X
  replace hl : lv_has ls 4 [(0, .ref h0), (1, .int 1), (2, .int p0), (3, .int p1)] := hl
  refine lv_aload_n hx hb dX11_numbers_0 rfl (lv_at hl 0 rfl) ?_
  refine lv_iload_n hx hb dX11_numbers_1 rfl (lv_at hl 1 rfl) ?_
  refine q_callVi (rest := []) (wr := []) X hK hA h (fun sz => kX11_isTray_160 l D cy h0 h1 h2 h3 h4 h5 h6 h7 h8 h9 h10 h11 h12 h13  sz) wm_4_83 wm_4_86 wm_1_1 hd_X11_isTray wm_4_85 wp_3_1 (ci := 11) (q0 := 0) rfl rfl ⟨Nat.le_of_ble_eq_true rfl, Nat.le_of_ble_eq_true rfl⟩ hl.1 rfl (Nat.le_of_ble_eq_true rfl) dX11_numbers_2 ⟨Nat.le_of_ble_eq_true rfl, Nat.le_of_ble_eq_true rfl⟩ [0] [] rfl rfl (by decide) rfl rfl (fun r_11531 u_11531 Hp1 lc1 w_11531 hw1 => ?_)
  clear h
  obtain rfl : r_11531 = 1 := w_11531
  replace hw1 : qW D _ _ [(h0, .inr (11, [.ref h1, .int 0, .int 0, .int (-1), .ref h2, .ref h3, .ref h4, .ref h5, .ref h6, .ref h7, .ref h8, .ref h9, .ref h10, .ref h11, .ref h12, .ref h13, .int 0]))] _ _ := hw1
  refine lv_if_eq (tgt := 17) hx hb dX11_numbers_5 (by decide) (fun c => absurd c (by decide +kernel)) (fun _ => ?_)
  refine lv_iload_n hx hb dX11_numbers_8 rfl (lv_at hl 2 rfl) ?_
  refine lv_if_lt (tgt := 17) hx hb dX11_numbers_9 (by decide) (fun c_11532 => ?_) (fun c_11532 => ?_)
  · exfalso
    simp only [Int32.lt_iff_toInt_lt, Int32.le_iff_toInt_le, ← Int32.toInt_inj] at hlo_p0 c_11532
    have k_0 : (4 : Int32).toInt = 4 := by decide
    have k_1 : (0 : Int32).toInt = 0 := by decide
    omega
  · refine lv_iload_n hx hb dX11_numbers_12 rfl (lv_at hl 2 rfl) ?_
    refine lv_iconst (v := 4) hx hb dX11_numbers_13 (by decide) ?_
    refine lv_icmp_lt (tgt := 20) hx hb dX11_numbers_14 (by decide) (fun c_11533 => ?_) (fun c_11533 => ?_)
    · exfalso
      simp only [Int32.lt_iff_toInt_lt, Int32.le_iff_toInt_le, ← Int32.toInt_inj] at hlo_p0 c_11532 c_11533
      have k_0 : (4 : Int32).toInt = 4 := by decide
      have k_1 : (0 : Int32).toInt = 0 := by decide
      omega
    · refine lv_bipush (v := (-2)) hx hb dX11_numbers_17 (by decide) ?_
      exact q_iret X hr hlk hK hw1 rfl qu0 rfl [] rfl rfl dX11_numbers_19 (Nat.le_of_ble_eq_true rfl) (Nat.le_of_ble_eq_true rfl)
set_option maxHeartbeats 4000000 in
set_option maxRecDepth 100000 in
theorem kX12_numbers_453 (l : Launch) (D : va_G) (cy : Nat → ClassId) (h0 : Nat) (p0 : Int32) (p1 : Int32) (h1 : Nat) (h2 : Nat) (h3 : Nat) (h4 : Nat) (h5 : Nat) (h6 : Nat) (h7 : Nat) (h8 : Nat) (h9 : Nat) (h10 : Nat) (h11 : Nat) (h12 : Nat) (h13 : Nat) (h14 : Nat) (h15 : Nat) (h16 : Nat) (h17 : Nat) (h18 : Nat) (h19 : Nat) (h20 : Nat) (hlo_p0 : (4 : Int32) ≤ p0) (sz : Nat) : MI l yX12_numbers cX12_numbers 5 .int { frames := 1, cells := 0, slots := 0, locals := 25 } [.ref h0, .int 1, .int p0, .int p1] D cy [(h0, .inr (12, [.int 0, .ref h1, .ref h2, .ref h3, .ref h4, .int 0, .int 0, .int 0, .int 0, .int 0, .int 0, .int 0, .int 0, .int 0, .int (-1), .int 0, .ref h5, .ref h6, .ref h7, .ref h8, .ref h9, .int 0, .int 0, .ref h10, .ref h11, .ref h12, .int 0, .int 0, .ref h13, .ref h14, .ref h15, .ref h16, .ref h17, .int 0, .ref h18, .ref h19, .ref h20]))] sz (fun r u => r = (-2)) (fun u => []) 0 0 := by
  refine q_ent (own := RX12) (by decide) rfl (Nat.le_of_ble_eq_true rfl) (fun p e s m below meth c ls X hr hlk hnm hK h hA hl => ?_)
  obtain ⟨hx, hb, hml, hown, ht⟩ := id X
  replace hl : lv_has ls 5 [(0, .ref h0), (1, .int 1), (2, .int p0), (3, .int p1)] := hl
  refine lv_aload_n hx hb dX12_numbers_0 rfl (lv_at hl 0 rfl) ?_
  refine lv_iconst (v := 0) hx hb dX12_numbers_1 (by decide) ?_
  refine q_put (v := .int 0) X hK h 0 rfl rfl wf_12 tyX12 tyX12_ok nmX12 0 (by decide) wm_5_170 rfl rfl rfl (Nat.le_of_ble_eq_true rfl) dX12_numbers_2 (fun Hp1 lc1 hw1 => ?_)
  clear h
  replace hw1 : qW D _ _ [(h0, .inr (12, [.int 0, .ref h1, .ref h2, .ref h3, .ref h4, .int 0, .int 0, .int 0, .int 0, .int 0, .int 0, .int 0, .int 0, .int 0, .int (-1), .int 0, .ref h5, .ref h6, .ref h7, .ref h8, .ref h9, .int 0, .int 0, .ref h10, .ref h11, .ref h12, .int 0, .int 0, .ref h13, .ref h14, .ref h15, .ref h16, .ref h17, .int 0, .ref h18, .ref h19, .ref h20]))] _ _ := hw1
  refine lv_iload_n hx hb dX12_numbers_5 rfl (lv_at hl 1 rfl) ?_
  refine lv_i2l (v := 1) hx hb dX12_numbers_6 (by decide +kernel) ?_
  refine lv_lconst (v := 0) hx hb dX12_numbers_7 (by decide) ?_
  refine lv_ldc2 hx hb hown (ht _ wm_7_29) dX12_numbers_8 ?_
  refine q_callSi (rest := []) (wr := [(h0, .inr (12, [.int 0, .ref h1, .ref h2, .ref h3, .ref h4, .int 0, .int 0, .int 0, .int 0, .int 0, .int 0, .int 0, .int 0, .int 0, .int (-1), .int 0, .ref h5, .ref h6, .ref h7, .ref h8, .ref h9, .int 0, .int 0, .ref h10, .ref h11, .ref h12, .int 0, .int 0, .ref h13, .ref h14, .ref h15, .ref h16, .ref h17, .int 0, .ref h18, .ref h19, .ref h20]))]) X hK hA hw1 (fun sz => kX12_within_164 l D cy   sz) wm_6_50 wm_6_52 wm_1_12 hd_X12_within wm_6_51 ⟨Nat.le_of_ble_eq_true rfl, Nat.le_of_ble_eq_true rfl⟩ hl.1 rfl (Nat.le_of_ble_eq_true rfl) dX12_numbers_11 ⟨Nat.le_of_ble_eq_true rfl, Nat.le_of_ble_eq_true rfl⟩ [] [0] rfl rfl (by decide) rfl rfl (fun r_11544 u_11544 Hp2 lc2 w_11544 hw2 => ?_)
  clear Hp1 lc1 hw1
  obtain rfl : r_11544 = 1 := w_11544
  replace hw2 : qW D _ _ [(h0, .inr (12, [.int 0, .ref h1, .ref h2, .ref h3, .ref h4, .int 0, .int 0, .int 0, .int 0, .int 0, .int 0, .int 0, .int 0, .int 0, .int (-1), .int 0, .ref h5, .ref h6, .ref h7, .ref h8, .ref h9, .int 0, .int 0, .ref h10, .ref h11, .ref h12, .int 0, .int 0, .ref h13, .ref h14, .ref h15, .ref h16, .ref h17, .int 0, .ref h18, .ref h19, .ref h20]))] _ _ := hw2
  refine lv_if_eq (tgt := 29) hx hb dX12_numbers_14 (by decide) (fun c => absurd c (by decide +kernel)) (fun _ => ?_)
  refine lv_iload_n hx hb dX12_numbers_17 rfl (lv_at hl 2 rfl) ?_
  refine lv_i2l hx hb dX12_numbers_18 rfl ?_
  refine lv_lconst (v := 0) hx hb dX12_numbers_19 (by decide) ?_
  refine lv_ldc2 hx hb hown (ht _ wm_7_29) dX12_numbers_20 ?_
  have g_11547 : (4 : Int64) ≤ ((p0).toInt64) := by
    simp only [Int32.toInt_toInt64, Int64.lt_iff_toInt_lt, Int64.le_iff_toInt_le, ← Int64.toInt_inj, Int32.lt_iff_toInt_lt, Int32.le_iff_toInt_le, ← Int32.toInt_inj] at hlo_p0 ⊢
    have k_0 : (4 : Int32).toInt = 4 := by decide
    have k_g : (4 : Int64).toInt = 4 := by decide
    omega
  refine q_callSi (rest := []) (wr := [(h0, .inr (12, [.int 0, .ref h1, .ref h2, .ref h3, .ref h4, .int 0, .int 0, .int 0, .int 0, .int 0, .int 0, .int 0, .int 0, .int 0, .int (-1), .int 0, .ref h5, .ref h6, .ref h7, .ref h8, .ref h9, .int 0, .int 0, .ref h10, .ref h11, .ref h12, .int 0, .int 0, .ref h13, .ref h14, .ref h15, .ref h16, .ref h17, .int 0, .ref h18, .ref h19, .ref h20]))]) X hK hA hw2 (fun sz => kX12_within_147 l D cy ((p0).toInt64) g_11547 sz) wm_6_50 wm_6_52 wm_1_12 hd_X12_within wm_6_51 ⟨Nat.le_of_ble_eq_true rfl, Nat.le_of_ble_eq_true rfl⟩ hl.1 rfl (Nat.le_of_ble_eq_true rfl) dX12_numbers_23 ⟨Nat.le_of_ble_eq_true rfl, Nat.le_of_ble_eq_true rfl⟩ [] [0] rfl rfl (by decide) rfl rfl (fun r_11548 u_11548 Hp3 lc3 w_11548 hw3 => ?_)
  clear Hp2 lc2 hw2
  obtain rfl : r_11548 = 0 := w_11548
  replace hw3 : qW D _ _ [(h0, .inr (12, [.int 0, .ref h1, .ref h2, .ref h3, .ref h4, .int 0, .int 0, .int 0, .int 0, .int 0, .int 0, .int 0, .int 0, .int 0, .int (-1), .int 0, .ref h5, .ref h6, .ref h7, .ref h8, .ref h9, .int 0, .int 0, .ref h10, .ref h11, .ref h12, .int 0, .int 0, .ref h13, .ref h14, .ref h15, .ref h16, .ref h17, .int 0, .ref h18, .ref h19, .ref h20]))] _ _ := hw3
  refine lv_if_ne (tgt := 32) hx hb dX12_numbers_26 (by decide) (fun c => absurd c (by decide +kernel)) (fun _ => ?_)
  refine lv_bipush (v := (-2)) hx hb dX12_numbers_29 (by decide) ?_
  exact q_iret X hr hlk hK hw3 rfl qu0 rfl [] rfl rfl dX12_numbers_31 (Nat.le_of_ble_eq_true rfl) (Nat.le_of_ble_eq_true rfl)
set_option maxHeartbeats 4000000 in
set_option maxRecDepth 100000 in
theorem kX11_numbers_454 (l : Launch) (D : va_G) (cy : Nat → ClassId) (h0 : Nat) (p0 : Int32) (p1 : Int32) (h1 : Nat) (h2 : Nat) (h3 : Nat) (h4 : Nat) (h5 : Nat) (h6 : Nat) (h7 : Nat) (h8 : Nat) (h9 : Nat) (h10 : Nat) (h11 : Nat) (h12 : Nat) (h13 : Nat) (hhi_p0 : p0 ≤ ((-1) : Int32)) (sz : Nat) : MI l yX11_numbers cX11_numbers 4 .int { frames := 1, cells := 0, slots := 0, locals := 21 } [.ref h0, .int 2, .int p0, .int p1] D cy [(h0, .inr (11, [.ref h1, .int 0, .int 0, .int (-1), .ref h2, .ref h3, .ref h4, .ref h5, .ref h6, .ref h7, .ref h8, .ref h9, .ref h10, .ref h11, .ref h12, .ref h13, .int 0]))] sz (fun r u => r = (-2)) (fun u => []) 0 0 := by
  refine q_ent (own := RX11) (by decide) rfl (Nat.le_of_ble_eq_true rfl) (fun p e s m below meth c ls X hr hlk hnm hK h hA hl => ?_)
  obtain ⟨hx, hb, hml, hown, ht⟩ := id X
  replace hl : lv_has ls 4 [(0, .ref h0), (1, .int 2), (2, .int p0), (3, .int p1)] := hl
  refine lv_aload_n hx hb dX11_numbers_0 rfl (lv_at hl 0 rfl) ?_
  refine lv_iload_n hx hb dX11_numbers_1 rfl (lv_at hl 1 rfl) ?_
  refine q_callVi (rest := []) (wr := []) X hK hA h (fun sz => kX11_isTray_170 l D cy h0 h1 h2 h3 h4 h5 h6 h7 h8 h9 h10 h11 h12 h13  sz) wm_4_83 wm_4_86 wm_1_1 hd_X11_isTray wm_4_85 wp_3_1 (ci := 11) (q0 := 0) rfl rfl ⟨Nat.le_of_ble_eq_true rfl, Nat.le_of_ble_eq_true rfl⟩ hl.1 rfl (Nat.le_of_ble_eq_true rfl) dX11_numbers_2 ⟨Nat.le_of_ble_eq_true rfl, Nat.le_of_ble_eq_true rfl⟩ [0] [] rfl rfl (by decide) rfl rfl (fun r_11589 u_11589 Hp1 lc1 w_11589 hw1 => ?_)
  clear h
  obtain rfl : r_11589 = 1 := w_11589
  replace hw1 : qW D _ _ [(h0, .inr (11, [.ref h1, .int 0, .int 0, .int (-1), .ref h2, .ref h3, .ref h4, .ref h5, .ref h6, .ref h7, .ref h8, .ref h9, .ref h10, .ref h11, .ref h12, .ref h13, .int 0]))] _ _ := hw1
  refine lv_if_eq (tgt := 17) hx hb dX11_numbers_5 (by decide) (fun c => absurd c (by decide +kernel)) (fun _ => ?_)
  refine lv_iload_n hx hb dX11_numbers_8 rfl (lv_at hl 2 rfl) ?_
  refine lv_if_lt (tgt := 17) hx hb dX11_numbers_9 (by decide) (fun c_11590 => ?_) (fun c_11590 => ?_)
  · refine lv_bipush (v := (-2)) hx hb dX11_numbers_17 (by decide) ?_
    exact q_iret X hr hlk hK hw1 rfl qu0 rfl [] rfl rfl dX11_numbers_19 (Nat.le_of_ble_eq_true rfl) (Nat.le_of_ble_eq_true rfl)
  · exfalso
    simp only [Int32.lt_iff_toInt_lt, Int32.le_iff_toInt_le, ← Int32.toInt_inj] at hhi_p0 c_11590
    have k_0 : ((-1) : Int32).toInt = -1 := by decide
    have k_1 : (0 : Int32).toInt = 0 := by decide
    omega
set_option maxHeartbeats 4000000 in
set_option maxRecDepth 100000 in
theorem kX12_numbers_455 (l : Launch) (D : va_G) (cy : Nat → ClassId) (h0 : Nat) (p0 : Int32) (p1 : Int32) (h1 : Nat) (h2 : Nat) (h3 : Nat) (h4 : Nat) (h5 : Nat) (h6 : Nat) (h7 : Nat) (h8 : Nat) (h9 : Nat) (h10 : Nat) (h11 : Nat) (h12 : Nat) (h13 : Nat) (h14 : Nat) (h15 : Nat) (h16 : Nat) (h17 : Nat) (h18 : Nat) (h19 : Nat) (h20 : Nat) (hhi_p0 : p0 ≤ ((-1) : Int32)) (sz : Nat) : MI l yX12_numbers cX12_numbers 5 .int { frames := 1, cells := 0, slots := 0, locals := 25 } [.ref h0, .int 2, .int p0, .int p1] D cy [(h0, .inr (12, [.int 0, .ref h1, .ref h2, .ref h3, .ref h4, .int 0, .int 0, .int 0, .int 0, .int 0, .int 0, .int 0, .int 0, .int 0, .int (-1), .int 0, .ref h5, .ref h6, .ref h7, .ref h8, .ref h9, .int 0, .int 0, .ref h10, .ref h11, .ref h12, .int 0, .int 0, .ref h13, .ref h14, .ref h15, .ref h16, .ref h17, .int 0, .ref h18, .ref h19, .ref h20]))] sz (fun r u => r = (-2)) (fun u => []) 0 0 := by
  refine q_ent (own := RX12) (by decide) rfl (Nat.le_of_ble_eq_true rfl) (fun p e s m below meth c ls X hr hlk hnm hK h hA hl => ?_)
  obtain ⟨hx, hb, hml, hown, ht⟩ := id X
  replace hl : lv_has ls 5 [(0, .ref h0), (1, .int 2), (2, .int p0), (3, .int p1)] := hl
  refine lv_aload_n hx hb dX12_numbers_0 rfl (lv_at hl 0 rfl) ?_
  refine lv_iconst (v := 0) hx hb dX12_numbers_1 (by decide) ?_
  refine q_put (v := .int 0) X hK h 0 rfl rfl wf_12 tyX12 tyX12_ok nmX12 0 (by decide) wm_5_170 rfl rfl rfl (Nat.le_of_ble_eq_true rfl) dX12_numbers_2 (fun Hp1 lc1 hw1 => ?_)
  clear h
  replace hw1 : qW D _ _ [(h0, .inr (12, [.int 0, .ref h1, .ref h2, .ref h3, .ref h4, .int 0, .int 0, .int 0, .int 0, .int 0, .int 0, .int 0, .int 0, .int 0, .int (-1), .int 0, .ref h5, .ref h6, .ref h7, .ref h8, .ref h9, .int 0, .int 0, .ref h10, .ref h11, .ref h12, .int 0, .int 0, .ref h13, .ref h14, .ref h15, .ref h16, .ref h17, .int 0, .ref h18, .ref h19, .ref h20]))] _ _ := hw1
  refine lv_iload_n hx hb dX12_numbers_5 rfl (lv_at hl 1 rfl) ?_
  refine lv_i2l (v := 2) hx hb dX12_numbers_6 (by decide +kernel) ?_
  refine lv_lconst (v := 0) hx hb dX12_numbers_7 (by decide) ?_
  refine lv_ldc2 hx hb hown (ht _ wm_7_29) dX12_numbers_8 ?_
  refine q_callSi (rest := []) (wr := [(h0, .inr (12, [.int 0, .ref h1, .ref h2, .ref h3, .ref h4, .int 0, .int 0, .int 0, .int 0, .int 0, .int 0, .int 0, .int 0, .int 0, .int (-1), .int 0, .ref h5, .ref h6, .ref h7, .ref h8, .ref h9, .int 0, .int 0, .ref h10, .ref h11, .ref h12, .int 0, .int 0, .ref h13, .ref h14, .ref h15, .ref h16, .ref h17, .int 0, .ref h18, .ref h19, .ref h20]))]) X hK hA hw1 (fun sz => kX12_within_174 l D cy   sz) wm_6_50 wm_6_52 wm_1_12 hd_X12_within wm_6_51 ⟨Nat.le_of_ble_eq_true rfl, Nat.le_of_ble_eq_true rfl⟩ hl.1 rfl (Nat.le_of_ble_eq_true rfl) dX12_numbers_11 ⟨Nat.le_of_ble_eq_true rfl, Nat.le_of_ble_eq_true rfl⟩ [] [0] rfl rfl (by decide) rfl rfl (fun r_11599 u_11599 Hp2 lc2 w_11599 hw2 => ?_)
  clear Hp1 lc1 hw1
  obtain rfl : r_11599 = 1 := w_11599
  replace hw2 : qW D _ _ [(h0, .inr (12, [.int 0, .ref h1, .ref h2, .ref h3, .ref h4, .int 0, .int 0, .int 0, .int 0, .int 0, .int 0, .int 0, .int 0, .int 0, .int (-1), .int 0, .ref h5, .ref h6, .ref h7, .ref h8, .ref h9, .int 0, .int 0, .ref h10, .ref h11, .ref h12, .int 0, .int 0, .ref h13, .ref h14, .ref h15, .ref h16, .ref h17, .int 0, .ref h18, .ref h19, .ref h20]))] _ _ := hw2
  refine lv_if_eq (tgt := 29) hx hb dX12_numbers_14 (by decide) (fun c => absurd c (by decide +kernel)) (fun _ => ?_)
  refine lv_iload_n hx hb dX12_numbers_17 rfl (lv_at hl 2 rfl) ?_
  refine lv_i2l hx hb dX12_numbers_18 rfl ?_
  refine lv_lconst (v := 0) hx hb dX12_numbers_19 (by decide) ?_
  refine lv_ldc2 hx hb hown (ht _ wm_7_29) dX12_numbers_20 ?_
  have g_11601 : ((p0).toInt64) ≤ ((-1) : Int64) := by
    simp only [Int32.toInt_toInt64, Int64.lt_iff_toInt_lt, Int64.le_iff_toInt_le, ← Int64.toInt_inj, Int32.lt_iff_toInt_lt, Int32.le_iff_toInt_le, ← Int32.toInt_inj] at hhi_p0 ⊢
    have k_0 : ((-1) : Int32).toInt = -1 := by decide
    have k_g : ((-1) : Int64).toInt = -1 := by decide
    omega
  refine q_callSi (rest := []) (wr := [(h0, .inr (12, [.int 0, .ref h1, .ref h2, .ref h3, .ref h4, .int 0, .int 0, .int 0, .int 0, .int 0, .int 0, .int 0, .int 0, .int 0, .int (-1), .int 0, .ref h5, .ref h6, .ref h7, .ref h8, .ref h9, .int 0, .int 0, .ref h10, .ref h11, .ref h12, .int 0, .int 0, .ref h13, .ref h14, .ref h15, .ref h16, .ref h17, .int 0, .ref h18, .ref h19, .ref h20]))]) X hK hA hw2 (fun sz => kX12_within_140 l D cy ((p0).toInt64) g_11601 sz) wm_6_50 wm_6_52 wm_1_12 hd_X12_within wm_6_51 ⟨Nat.le_of_ble_eq_true rfl, Nat.le_of_ble_eq_true rfl⟩ hl.1 rfl (Nat.le_of_ble_eq_true rfl) dX12_numbers_23 ⟨Nat.le_of_ble_eq_true rfl, Nat.le_of_ble_eq_true rfl⟩ [] [0] rfl rfl (by decide) rfl rfl (fun r_11602 u_11602 Hp3 lc3 w_11602 hw3 => ?_)
  clear Hp2 lc2 hw2
  obtain rfl : r_11602 = 0 := w_11602
  replace hw3 : qW D _ _ [(h0, .inr (12, [.int 0, .ref h1, .ref h2, .ref h3, .ref h4, .int 0, .int 0, .int 0, .int 0, .int 0, .int 0, .int 0, .int 0, .int 0, .int (-1), .int 0, .ref h5, .ref h6, .ref h7, .ref h8, .ref h9, .int 0, .int 0, .ref h10, .ref h11, .ref h12, .int 0, .int 0, .ref h13, .ref h14, .ref h15, .ref h16, .ref h17, .int 0, .ref h18, .ref h19, .ref h20]))] _ _ := hw3
  refine lv_if_ne (tgt := 32) hx hb dX12_numbers_26 (by decide) (fun c => absurd c (by decide +kernel)) (fun _ => ?_)
  refine lv_bipush (v := (-2)) hx hb dX12_numbers_29 (by decide) ?_
  exact q_iret X hr hlk hK hw3 rfl qu0 rfl [] rfl rfl dX12_numbers_31 (Nat.le_of_ble_eq_true rfl) (Nat.le_of_ble_eq_true rfl)
set_option maxHeartbeats 4000000 in
set_option maxRecDepth 100000 in
theorem kX11_numbers_456 (l : Launch) (D : va_G) (cy : Nat → ClassId) (h0 : Nat) (p0 : Int32) (p1 : Int32) (h1 : Nat) (h2 : Nat) (h3 : Nat) (h4 : Nat) (h5 : Nat) (h6 : Nat) (h7 : Nat) (h8 : Nat) (h9 : Nat) (h10 : Nat) (h11 : Nat) (h12 : Nat) (h13 : Nat) (hlo_p0 : (0 : Int32) ≤ p0) (hhi_p0 : p0 ≤ (3 : Int32)) (hhi_p1 : p1 ≤ ((-1) : Int32)) (sz : Nat) : MI l yX11_numbers cX11_numbers 4 .int { frames := 1, cells := 0, slots := 0, locals := 21 } [.ref h0, .int 2, .int p0, .int p1] D cy [(h0, .inr (11, [.ref h1, .int 0, .int 0, .int (-1), .ref h2, .ref h3, .ref h4, .ref h5, .ref h6, .ref h7, .ref h8, .ref h9, .ref h10, .ref h11, .ref h12, .ref h13, .int 0]))] sz (fun r u => r = (-3)) (fun u => []) 0 0 := by
  refine q_ent (own := RX11) (by decide) rfl (Nat.le_of_ble_eq_true rfl) (fun p e s m below meth c ls X hr hlk hnm hK h hA hl => ?_)
  obtain ⟨hx, hb, hml, hown, ht⟩ := id X
  replace hl : lv_has ls 4 [(0, .ref h0), (1, .int 2), (2, .int p0), (3, .int p1)] := hl
  refine lv_aload_n hx hb dX11_numbers_0 rfl (lv_at hl 0 rfl) ?_
  refine lv_iload_n hx hb dX11_numbers_1 rfl (lv_at hl 1 rfl) ?_
  refine q_callVi (rest := []) (wr := []) X hK hA h (fun sz => kX11_isTray_170 l D cy h0 h1 h2 h3 h4 h5 h6 h7 h8 h9 h10 h11 h12 h13  sz) wm_4_83 wm_4_86 wm_1_1 hd_X11_isTray wm_4_85 wp_3_1 (ci := 11) (q0 := 0) rfl rfl ⟨Nat.le_of_ble_eq_true rfl, Nat.le_of_ble_eq_true rfl⟩ hl.1 rfl (Nat.le_of_ble_eq_true rfl) dX11_numbers_2 ⟨Nat.le_of_ble_eq_true rfl, Nat.le_of_ble_eq_true rfl⟩ [0] [] rfl rfl (by decide) rfl rfl (fun r_11645 u_11645 Hp1 lc1 w_11645 hw1 => ?_)
  clear h
  obtain rfl : r_11645 = 1 := w_11645
  replace hw1 : qW D _ _ [(h0, .inr (11, [.ref h1, .int 0, .int 0, .int (-1), .ref h2, .ref h3, .ref h4, .ref h5, .ref h6, .ref h7, .ref h8, .ref h9, .ref h10, .ref h11, .ref h12, .ref h13, .int 0]))] _ _ := hw1
  refine lv_if_eq (tgt := 17) hx hb dX11_numbers_5 (by decide) (fun c => absurd c (by decide +kernel)) (fun _ => ?_)
  refine lv_iload_n hx hb dX11_numbers_8 rfl (lv_at hl 2 rfl) ?_
  refine lv_if_lt (tgt := 17) hx hb dX11_numbers_9 (by decide) (fun c_11646 => ?_) (fun c_11646 => ?_)
  · exfalso
    simp only [Int32.lt_iff_toInt_lt, Int32.le_iff_toInt_le, ← Int32.toInt_inj] at hlo_p0 hhi_p0 c_11646
    have k_0 : (0 : Int32).toInt = 0 := by decide
    have k_1 : (3 : Int32).toInt = 3 := by decide
    omega
  · refine lv_iload_n hx hb dX11_numbers_12 rfl (lv_at hl 2 rfl) ?_
    refine lv_iconst (v := 4) hx hb dX11_numbers_13 (by decide) ?_
    refine lv_icmp_lt (tgt := 20) hx hb dX11_numbers_14 (by decide) (fun c_11647 => ?_) (fun c_11647 => ?_)
    · refine lv_iload_n hx hb dX11_numbers_20 rfl (lv_at hl 3 rfl) ?_
      refine lv_if_lt (tgt := 30) hx hb dX11_numbers_21 (by decide) (fun c_11648 => ?_) (fun c_11648 => ?_)
      · refine lv_bipush (v := (-3)) hx hb dX11_numbers_30 (by decide) ?_
        exact q_iret X hr hlk hK hw1 rfl qu0 rfl [] rfl rfl dX11_numbers_32 (Nat.le_of_ble_eq_true rfl) (Nat.le_of_ble_eq_true rfl)
      · exfalso
        simp only [Int32.lt_iff_toInt_lt, Int32.le_iff_toInt_le, ← Int32.toInt_inj] at hhi_p1 c_11648
        have k_0 : ((-1) : Int32).toInt = -1 := by decide
        have k_1 : (0 : Int32).toInt = 0 := by decide
        omega
    · exfalso
      simp only [Int32.lt_iff_toInt_lt, Int32.le_iff_toInt_le, ← Int32.toInt_inj] at hlo_p0 hhi_p0 c_11646 c_11647
      have k_0 : (0 : Int32).toInt = 0 := by decide
      have k_1 : (3 : Int32).toInt = 3 := by decide
      have k_2 : (4 : Int32).toInt = 4 := by decide
      omega
set_option maxHeartbeats 4000000 in
set_option maxRecDepth 100000 in
theorem kX12_numbers_457 (l : Launch) (D : va_G) (cy : Nat → ClassId) (h0 : Nat) (p0 : Int32) (p1 : Int32) (h1 : Nat) (h2 : Nat) (h3 : Nat) (h4 : Nat) (h5 : Nat) (h6 : Nat) (h7 : Nat) (h8 : Nat) (h9 : Nat) (h10 : Nat) (h11 : Nat) (h12 : Nat) (h13 : Nat) (h14 : Nat) (h15 : Nat) (h16 : Nat) (h17 : Nat) (h18 : Nat) (h19 : Nat) (h20 : Nat) (hlo_p0 : (0 : Int32) ≤ p0) (hhi_p0 : p0 ≤ (3 : Int32)) (hhi_p1 : p1 ≤ ((-1) : Int32)) (sz : Nat) : MI l yX12_numbers cX12_numbers 5 .int { frames := 1, cells := 0, slots := 0, locals := 25 } [.ref h0, .int 2, .int p0, .int p1] D cy [(h0, .inr (12, [.int 0, .ref h1, .ref h2, .ref h3, .ref h4, .int 0, .int 0, .int 0, .int 0, .int 0, .int 0, .int 0, .int 0, .int 0, .int (-1), .int 0, .ref h5, .ref h6, .ref h7, .ref h8, .ref h9, .int 0, .int 0, .ref h10, .ref h11, .ref h12, .int 0, .int 0, .ref h13, .ref h14, .ref h15, .ref h16, .ref h17, .int 0, .ref h18, .ref h19, .ref h20]))] sz (fun r u => r = (-3)) (fun u => []) 0 0 := by
  refine q_ent (own := RX12) (by decide) rfl (Nat.le_of_ble_eq_true rfl) (fun p e s m below meth c ls X hr hlk hnm hK h hA hl => ?_)
  obtain ⟨hx, hb, hml, hown, ht⟩ := id X
  replace hl : lv_has ls 5 [(0, .ref h0), (1, .int 2), (2, .int p0), (3, .int p1)] := hl
  refine lv_aload_n hx hb dX12_numbers_0 rfl (lv_at hl 0 rfl) ?_
  refine lv_iconst (v := 0) hx hb dX12_numbers_1 (by decide) ?_
  refine q_put (v := .int 0) X hK h 0 rfl rfl wf_12 tyX12 tyX12_ok nmX12 0 (by decide) wm_5_170 rfl rfl rfl (Nat.le_of_ble_eq_true rfl) dX12_numbers_2 (fun Hp1 lc1 hw1 => ?_)
  clear h
  replace hw1 : qW D _ _ [(h0, .inr (12, [.int 0, .ref h1, .ref h2, .ref h3, .ref h4, .int 0, .int 0, .int 0, .int 0, .int 0, .int 0, .int 0, .int 0, .int 0, .int (-1), .int 0, .ref h5, .ref h6, .ref h7, .ref h8, .ref h9, .int 0, .int 0, .ref h10, .ref h11, .ref h12, .int 0, .int 0, .ref h13, .ref h14, .ref h15, .ref h16, .ref h17, .int 0, .ref h18, .ref h19, .ref h20]))] _ _ := hw1
  refine lv_iload_n hx hb dX12_numbers_5 rfl (lv_at hl 1 rfl) ?_
  refine lv_i2l (v := 2) hx hb dX12_numbers_6 (by decide +kernel) ?_
  refine lv_lconst (v := 0) hx hb dX12_numbers_7 (by decide) ?_
  refine lv_ldc2 hx hb hown (ht _ wm_7_29) dX12_numbers_8 ?_
  refine q_callSi (rest := []) (wr := [(h0, .inr (12, [.int 0, .ref h1, .ref h2, .ref h3, .ref h4, .int 0, .int 0, .int 0, .int 0, .int 0, .int 0, .int 0, .int 0, .int 0, .int (-1), .int 0, .ref h5, .ref h6, .ref h7, .ref h8, .ref h9, .int 0, .int 0, .ref h10, .ref h11, .ref h12, .int 0, .int 0, .ref h13, .ref h14, .ref h15, .ref h16, .ref h17, .int 0, .ref h18, .ref h19, .ref h20]))]) X hK hA hw1 (fun sz => kX12_within_174 l D cy   sz) wm_6_50 wm_6_52 wm_1_12 hd_X12_within wm_6_51 ⟨Nat.le_of_ble_eq_true rfl, Nat.le_of_ble_eq_true rfl⟩ hl.1 rfl (Nat.le_of_ble_eq_true rfl) dX12_numbers_11 ⟨Nat.le_of_ble_eq_true rfl, Nat.le_of_ble_eq_true rfl⟩ [] [0] rfl rfl (by decide) rfl rfl (fun r_11667 u_11667 Hp2 lc2 w_11667 hw2 => ?_)
  clear Hp1 lc1 hw1
  obtain rfl : r_11667 = 1 := w_11667
  replace hw2 : qW D _ _ [(h0, .inr (12, [.int 0, .ref h1, .ref h2, .ref h3, .ref h4, .int 0, .int 0, .int 0, .int 0, .int 0, .int 0, .int 0, .int 0, .int 0, .int (-1), .int 0, .ref h5, .ref h6, .ref h7, .ref h8, .ref h9, .int 0, .int 0, .ref h10, .ref h11, .ref h12, .int 0, .int 0, .ref h13, .ref h14, .ref h15, .ref h16, .ref h17, .int 0, .ref h18, .ref h19, .ref h20]))] _ _ := hw2
  refine lv_if_eq (tgt := 29) hx hb dX12_numbers_14 (by decide) (fun c => absurd c (by decide +kernel)) (fun _ => ?_)
  refine lv_iload_n hx hb dX12_numbers_17 rfl (lv_at hl 2 rfl) ?_
  refine lv_i2l hx hb dX12_numbers_18 rfl ?_
  refine lv_lconst (v := 0) hx hb dX12_numbers_19 (by decide) ?_
  refine lv_ldc2 hx hb hown (ht _ wm_7_29) dX12_numbers_20 ?_
  have g_11670 : (0 : Int64) ≤ ((p0).toInt64) := by
    simp only [Int32.toInt_toInt64, Int64.lt_iff_toInt_lt, Int64.le_iff_toInt_le, ← Int64.toInt_inj, Int32.lt_iff_toInt_lt, Int32.le_iff_toInt_le, ← Int32.toInt_inj] at hlo_p0 hhi_p0 ⊢
    have k_0 : (0 : Int32).toInt = 0 := by decide
    have k_1 : (3 : Int32).toInt = 3 := by decide
    have k_g : (0 : Int64).toInt = 0 := by decide
    omega
  have g_11671 : ((p0).toInt64) ≤ (3 : Int64) := by
    simp only [Int32.toInt_toInt64, Int64.lt_iff_toInt_lt, Int64.le_iff_toInt_le, ← Int64.toInt_inj, Int32.lt_iff_toInt_lt, Int32.le_iff_toInt_le, ← Int32.toInt_inj] at hlo_p0 hhi_p0 ⊢
    have k_0 : (0 : Int32).toInt = 0 := by decide
    have k_1 : (3 : Int32).toInt = 3 := by decide
    have k_g : (3 : Int64).toInt = 3 := by decide
    omega
  refine q_callSi (rest := []) (wr := [(h0, .inr (12, [.int 0, .ref h1, .ref h2, .ref h3, .ref h4, .int 0, .int 0, .int 0, .int 0, .int 0, .int 0, .int 0, .int 0, .int 0, .int (-1), .int 0, .ref h5, .ref h6, .ref h7, .ref h8, .ref h9, .int 0, .int 0, .ref h10, .ref h11, .ref h12, .int 0, .int 0, .ref h13, .ref h14, .ref h15, .ref h16, .ref h17, .int 0, .ref h18, .ref h19, .ref h20]))]) X hK hA hw2 (fun sz => kX12_within_143 l D cy ((p0).toInt64) g_11670 g_11671 sz) wm_6_50 wm_6_52 wm_1_12 hd_X12_within wm_6_51 ⟨Nat.le_of_ble_eq_true rfl, Nat.le_of_ble_eq_true rfl⟩ hl.1 rfl (Nat.le_of_ble_eq_true rfl) dX12_numbers_23 ⟨Nat.le_of_ble_eq_true rfl, Nat.le_of_ble_eq_true rfl⟩ [] [0] rfl rfl (by decide) rfl rfl (fun r_11672 u_11672 Hp3 lc3 w_11672 hw3 => ?_)
  clear Hp2 lc2 hw2
  obtain rfl : r_11672 = 1 := w_11672
  replace hw3 : qW D _ _ [(h0, .inr (12, [.int 0, .ref h1, .ref h2, .ref h3, .ref h4, .int 0, .int 0, .int 0, .int 0, .int 0, .int 0, .int 0, .int 0, .int 0, .int (-1), .int 0, .ref h5, .ref h6, .ref h7, .ref h8, .ref h9, .int 0, .int 0, .ref h10, .ref h11, .ref h12, .int 0, .int 0, .ref h13, .ref h14, .ref h15, .ref h16, .ref h17, .int 0, .ref h18, .ref h19, .ref h20]))] _ _ := hw3
  refine lv_if_ne (tgt := 32) hx hb dX12_numbers_26 (by decide) (fun _ => ?_) (fun c => absurd c (by decide +kernel))
  refine lv_iload_n hx hb dX12_numbers_32 rfl (lv_at hl 3 rfl) ?_
  refine lv_i2l hx hb dX12_numbers_33 rfl ?_
  refine lv_lconst (v := 0) hx hb dX12_numbers_34 (by decide) ?_
  refine lv_ldc2 hx hb hown (ht _ wm_7_82) dX12_numbers_35 ?_
  have g_11674 : ((p1).toInt64) ≤ ((-1) : Int64) := by
    simp only [Int32.toInt_toInt64, Int64.lt_iff_toInt_lt, Int64.le_iff_toInt_le, ← Int64.toInt_inj, Int32.lt_iff_toInt_lt, Int32.le_iff_toInt_le, ← Int32.toInt_inj] at hhi_p1 ⊢
    have k_0 : ((-1) : Int32).toInt = -1 := by decide
    have k_g : ((-1) : Int64).toInt = -1 := by decide
    omega
  refine q_callSi (rest := []) (wr := [(h0, .inr (12, [.int 0, .ref h1, .ref h2, .ref h3, .ref h4, .int 0, .int 0, .int 0, .int 0, .int 0, .int 0, .int 0, .int 0, .int 0, .int (-1), .int 0, .ref h5, .ref h6, .ref h7, .ref h8, .ref h9, .int 0, .int 0, .ref h10, .ref h11, .ref h12, .int 0, .int 0, .ref h13, .ref h14, .ref h15, .ref h16, .ref h17, .int 0, .ref h18, .ref h19, .ref h20]))]) X hK hA hw3 (fun sz => kX12_within_434 l D cy ((p1).toInt64) g_11674 sz) wm_6_50 wm_6_52 wm_1_12 hd_X12_within wm_6_51 ⟨Nat.le_of_ble_eq_true rfl, Nat.le_of_ble_eq_true rfl⟩ hl.1 rfl (Nat.le_of_ble_eq_true rfl) dX12_numbers_38 ⟨Nat.le_of_ble_eq_true rfl, Nat.le_of_ble_eq_true rfl⟩ [] [0] rfl rfl (by decide) rfl rfl (fun r_11675 u_11675 Hp4 lc4 w_11675 hw4 => ?_)
  clear Hp3 lc3 hw3
  obtain rfl : r_11675 = 0 := w_11675
  replace hw4 : qW D _ _ [(h0, .inr (12, [.int 0, .ref h1, .ref h2, .ref h3, .ref h4, .int 0, .int 0, .int 0, .int 0, .int 0, .int 0, .int 0, .int 0, .int 0, .int (-1), .int 0, .ref h5, .ref h6, .ref h7, .ref h8, .ref h9, .int 0, .int 0, .ref h10, .ref h11, .ref h12, .int 0, .int 0, .ref h13, .ref h14, .ref h15, .ref h16, .ref h17, .int 0, .ref h18, .ref h19, .ref h20]))] _ _ := hw4
  refine lv_if_ne (tgt := 47) hx hb dX12_numbers_41 (by decide) (fun c => absurd c (by decide +kernel)) (fun _ => ?_)
  refine lv_bipush (v := (-3)) hx hb dX12_numbers_44 (by decide) ?_
  exact q_iret X hr hlk hK hw4 rfl qu0 rfl [] rfl rfl dX12_numbers_46 (Nat.le_of_ble_eq_true rfl) (Nat.le_of_ble_eq_true rfl)
set_option maxHeartbeats 4000000 in
set_option maxRecDepth 100000 in
theorem kX11_numbers_458 (l : Launch) (D : va_G) (cy : Nat → ClassId) (h0 : Nat) (h1 : Nat) (h2 : Nat) (h3 : Nat) (p0 : Int32) (p1 : Int32) (h4 : Nat) (h5 : Nat) (h6 : Nat) (h7 : Nat) (h8 : Nat) (h9 : Nat) (h10 : Nat) (h11 : Nat) (h12 : Nat) (h13 : Nat) (h14 : Nat) (h15 : Nat) (h16 : Nat) (h17 : Nat) (h18 : Nat) (hlo_p0 : (0 : Int32) ≤ p0) (hhi_p0 : p0 ≤ (3 : Int32)) (hlo_p1 : (0 : Int32) ≤ p1) (hhi_p1 : p1 ≤ (40 : Int32)) (sz : Nat) : MI l yX11_numbers cX11_numbers 4 .int { frames := 2, cells := 0, slots := 0, locals := 46 } [.ref h0, .int 2, .int p0, .int p1] D cy [(h0, .inr (11, [.ref h4, .int 0, .int 0, .int (-1), .ref h5, .ref h6, .ref h7, .ref h8, .ref h9, .ref h1, .ref h10, .ref h11, .ref h12, .ref h13, .ref h14, .ref h15, .int 0])), (h1, .inl (cy 5, 4, .inr (.inr (.inr (.inr (va_up (va_up (va_up (va_up (fun _ => none) (Int32.toNatClampNeg 0) (some h18)) (Int32.toNatClampNeg 1) (some h17)) (Int32.toNatClampNeg 2) (some h2)) (Int32.toNatClampNeg 3) (some h16))))))), (h2, .inr (9, [.int (-1), .int 0, .ref h3])), (h3, .inl (cy 2, 40, .inr (.inl (fun _ => 0))))] sz (fun r u => r = 0) (fun u => []) 0 0 := by
  refine q_ent (own := RX11) (by decide) rfl (Nat.le_of_ble_eq_true rfl) (fun p e s m below meth c ls X hr hlk hnm hK h hA hl => ?_)
  obtain ⟨hx, hb, hml, hown, ht⟩ := id X
  replace hl : lv_has ls 4 [(0, .ref h0), (1, .int 2), (2, .int p0), (3, .int p1)] := hl
  refine lv_aload_n hx hb dX11_numbers_0 rfl (lv_at hl 0 rfl) ?_
  refine lv_iload_n hx hb dX11_numbers_1 rfl (lv_at hl 1 rfl) ?_
  refine q_callVi (rest := []) (wr := [(h1, .inl (cy 5, 4, .inr (.inr (.inr (.inr (va_up (va_up (va_up (va_up (fun _ => none) (Int32.toNatClampNeg 0) (some h18)) (Int32.toNatClampNeg 1) (some h17)) (Int32.toNatClampNeg 2) (some h2)) (Int32.toNatClampNeg 3) (some h16))))))), (h2, .inr (9, [.int (-1), .int 0, .ref h3])), (h3, .inl (cy 2, 40, .inr (.inl (fun _ => 0))))]) X hK hA h (fun sz => kX11_isTray_170 l D cy h0 h4 h5 h6 h7 h8 h9 h1 h10 h11 h12 h13 h14 h15  sz) wm_4_83 wm_4_86 wm_1_1 hd_X11_isTray wm_4_85 wp_3_1 (ci := 11) (q0 := 0) rfl rfl ⟨Nat.le_of_ble_eq_true rfl, Nat.le_of_ble_eq_true rfl⟩ hl.1 rfl (Nat.le_of_ble_eq_true rfl) dX11_numbers_2 ⟨Nat.le_of_ble_eq_true rfl, Nat.le_of_ble_eq_true rfl⟩ [0] [1, 2, 3] rfl rfl (by decide) rfl rfl (fun r_11720 u_11720 Hp1 lc1 w_11720 hw1 => ?_)
  clear h
  obtain rfl : r_11720 = 1 := w_11720
  replace hw1 : qW D _ _ [(h1, .inl (cy 5, 4, .inr (.inr (.inr (.inr (va_up (va_up (va_up (va_up (fun _ => none) (Int32.toNatClampNeg 0) (some h18)) (Int32.toNatClampNeg 1) (some h17)) (Int32.toNatClampNeg 2) (some h2)) (Int32.toNatClampNeg 3) (some h16))))))), (h2, .inr (9, [.int (-1), .int 0, .ref h3])), (h3, .inl (cy 2, 40, .inr (.inl (fun _ => 0)))), (h0, .inr (11, [.ref h4, .int 0, .int 0, .int (-1), .ref h5, .ref h6, .ref h7, .ref h8, .ref h9, .ref h1, .ref h10, .ref h11, .ref h12, .ref h13, .ref h14, .ref h15, .int 0]))] _ _ := hw1
  refine lv_if_eq (tgt := 17) hx hb dX11_numbers_5 (by decide) (fun c => absurd c (by decide +kernel)) (fun _ => ?_)
  refine lv_iload_n hx hb dX11_numbers_8 rfl (lv_at hl 2 rfl) ?_
  refine lv_if_lt (tgt := 17) hx hb dX11_numbers_9 (by decide) (fun c_11721 => ?_) (fun c_11721 => ?_)
  · exfalso
    simp only [Int32.lt_iff_toInt_lt, Int32.le_iff_toInt_le, ← Int32.toInt_inj] at hlo_p0 hhi_p0 c_11721
    have k_0 : (0 : Int32).toInt = 0 := by decide
    have k_1 : (3 : Int32).toInt = 3 := by decide
    omega
  · refine lv_iload_n hx hb dX11_numbers_12 rfl (lv_at hl 2 rfl) ?_
    refine lv_iconst (v := 4) hx hb dX11_numbers_13 (by decide) ?_
    refine lv_icmp_lt (tgt := 20) hx hb dX11_numbers_14 (by decide) (fun c_11722 => ?_) (fun c_11722 => ?_)
    · refine lv_iload_n hx hb dX11_numbers_20 rfl (lv_at hl 3 rfl) ?_
      refine lv_if_lt (tgt := 30) hx hb dX11_numbers_21 (by decide) (fun c_11723 => ?_) (fun c_11723 => ?_)
      · exfalso
        simp only [Int32.lt_iff_toInt_lt, Int32.le_iff_toInt_le, ← Int32.toInt_inj] at hlo_p1 hhi_p1 c_11723
        have k_0 : (0 : Int32).toInt = 0 := by decide
        have k_1 : (40 : Int32).toInt = 40 := by decide
        omega
      · refine lv_iload_n hx hb dX11_numbers_24 rfl (lv_at hl 3 rfl) ?_
        refine lv_bipush (v := 40) hx hb dX11_numbers_25 (by decide) ?_
        refine lv_icmp_le (tgt := 33) hx hb dX11_numbers_27 (by decide) (fun c_11724 => ?_) (fun c_11724 => ?_)
        · refine lv_aload_n hx hb dX11_numbers_33 rfl (lv_at hl 0 rfl) ?_
          refine q_get X hK hw1 3 rfl rfl wf_11 9 (by decide) rfl wm_2_107 dX11_numbers_34 ?_
          refine lv_iload_n hx hb dX11_numbers_37 rfl (lv_at hl 1 rfl) ?_
          refine q_aldT X hK hw1 0 rfl (q_in (by decide +kernel)) h2 (by first | rfl | simp [va_up]) dX11_numbers_38 ?_
          refine lv_iload_n hx hb dX11_numbers_39 rfl (lv_at hl 2 rfl) ?_
          refine lv_iload_n hx hb dX11_numbers_40 rfl (lv_at hl 3 rfl) ?_
          have g_11726 : (0 : Int32) ≤ p0 := by
            simp only [Int32.lt_iff_toInt_lt, Int32.le_iff_toInt_le, ← Int32.toInt_inj] at hlo_p0 hhi_p0 c_11721 c_11722 ⊢
            have k_0 : (0 : Int32).toInt = 0 := by decide
            have k_1 : (3 : Int32).toInt = 3 := by decide
            have k_2 : (4 : Int32).toInt = 4 := by decide
            omega
          have g_11727 : p0 ≤ (3 : Int32) := by
            simp only [Int32.lt_iff_toInt_lt, Int32.le_iff_toInt_le, ← Int32.toInt_inj] at hlo_p0 hhi_p0 c_11721 c_11722 ⊢
            have k_0 : (0 : Int32).toInt = 0 := by decide
            have k_1 : (3 : Int32).toInt = 3 := by decide
            have k_2 : (4 : Int32).toInt = 4 := by decide
            omega
          have g_11728 : (0 : Int32) ≤ p1 := by
            simp only [Int32.lt_iff_toInt_lt, Int32.le_iff_toInt_le, ← Int32.toInt_inj] at hlo_p1 hhi_p1 c_11723 c_11724 ⊢
            have k_0 : (0 : Int32).toInt = 0 := by decide
            have k_1 : (40 : Int32).toInt = 40 := by decide
            omega
          have g_11729 : p1 ≤ (40 : Int32) := by
            simp only [Int32.lt_iff_toInt_lt, Int32.le_iff_toInt_le, ← Int32.toInt_inj] at hlo_p1 hhi_p1 c_11723 c_11724 ⊢
            have k_0 : (0 : Int32).toInt = 0 := by decide
            have k_1 : (40 : Int32).toInt = 40 := by decide
            omega
          refine q_callVv (rest := []) (wr := [(h1, .inl (cy 5, 4, .inr (.inr (.inr (.inr (va_up (va_up (va_up (va_up (fun _ => none) (Int32.toNatClampNeg 0) (some h18)) (Int32.toNatClampNeg 1) (some h17)) (Int32.toNatClampNeg 2) (some h2)) (Int32.toNatClampNeg 3) (some h16))))))), (h0, .inr (11, [.ref h4, .int 0, .int 0, .int (-1), .ref h5, .ref h6, .ref h7, .ref h8, .ref h9, .ref h1, .ref h10, .ref h11, .ref h12, .ref h13, .ref h14, .ref h15, .int 0]))]) X hK hA hw1 (fun sz => kX9_lay_430 l D cy h2 h3 p0 p1 g_11726 g_11727 g_11728 g_11729 sz) wm_5_124 wm_5_127 wm_1_11 hd_X9_lay wm_5_125 wm_5_126 (ci := 9) (q0 := 0) rfl rfl ⟨Nat.le_of_ble_eq_true rfl, Nat.le_of_ble_eq_true rfl⟩ hl.1 rfl (Nat.le_of_ble_eq_true rfl) dX11_numbers_41 ⟨Nat.le_of_ble_eq_true rfl, Nat.le_of_ble_eq_true rfl⟩ [1, 2] [0, 3] rfl rfl (by decide) rfl rfl (fun u_11730 Hp2 lc2 w_11730 hw2 => ?_)
          clear Hp1 lc1 hw1
          replace hw2 : qW D _ _ [(h1, .inl (cy 5, 4, .inr (.inr (.inr (.inr (va_up (va_up (va_up (va_up (fun _ => none) (Int32.toNatClampNeg 0) (some h18)) (Int32.toNatClampNeg 1) (some h17)) (Int32.toNatClampNeg 2) (some h2)) (Int32.toNatClampNeg 3) (some h16))))))), (h0, .inr (11, [.ref h4, .int 0, .int 0, .int (-1), .ref h5, .ref h6, .ref h7, .ref h8, .ref h9, .ref h1, .ref h10, .ref h11, .ref h12, .ref h13, .ref h14, .ref h15, .int 0])), (h2, .inr (9, [.int p0, .int p1, .ref h3])), (h3, .inl (cy 2, 40, .inr (.inl (fun _ => 0))))] _ _ := hw2
          refine lv_iconst (v := 0) hx hb dX11_numbers_44 (by decide) ?_
          exact q_iret X hr hlk hK hw2 rfl qu0 rfl [] rfl rfl dX11_numbers_45 (Nat.le_of_ble_eq_true rfl) (Nat.le_of_ble_eq_true rfl)
        · exfalso
          simp only [Int32.lt_iff_toInt_lt, Int32.le_iff_toInt_le, ← Int32.toInt_inj] at hlo_p1 hhi_p1 c_11723 c_11724
          have k_0 : (0 : Int32).toInt = 0 := by decide
          have k_1 : (40 : Int32).toInt = 40 := by decide
          omega
    · exfalso
      simp only [Int32.lt_iff_toInt_lt, Int32.le_iff_toInt_le, ← Int32.toInt_inj] at hlo_p0 hhi_p0 c_11721 c_11722
      have k_0 : (0 : Int32).toInt = 0 := by decide
      have k_1 : (3 : Int32).toInt = 3 := by decide
      have k_2 : (4 : Int32).toInt = 4 := by decide
      omega
set_option maxHeartbeats 4000000 in
set_option maxRecDepth 100000 in
theorem kX12_numbers_459 (l : Launch) (D : va_G) (cy : Nat → ClassId) (h0 : Nat) (h1 : Nat) (h2 : Nat) (h3 : Nat) (f0 : Nat → Int32) (p0 : Int32) (p1 : Int32) (h4 : Nat) (h5 : Nat) (h6 : Nat) (h7 : Nat) (h8 : Nat) (h9 : Nat) (h10 : Nat) (h11 : Nat) (h12 : Nat) (h13 : Nat) (h14 : Nat) (h15 : Nat) (h16 : Nat) (h17 : Nat) (h18 : Nat) (h19 : Nat) (h20 : Nat) (hlo_p0 : (0 : Int32) ≤ p0) (hhi_p0 : p0 ≤ (3 : Int32)) (hlo_p1 : (0 : Int32) ≤ p1) (hhi_p1 : p1 ≤ (40 : Int32)) (sz : Nat) : MI l yX12_numbers cX12_numbers 5 .int { frames := 1, cells := 0, slots := 0, locals := 25 } [.ref h0, .int 2, .int p0, .int p1] D cy [(h0, .inr (12, [.int 0, .ref h4, .ref h5, .ref h6, .ref h7, .int 0, .int 0, .int 0, .int 0, .int 0, .int 0, .int 0, .int 0, .int 0, .int (-1), .int 0, .ref h8, .ref h9, .ref h10, .ref h11, .ref h12, .int 0, .int 0, .ref h13, .ref h14, .ref h15, .int 0, .int 0, .ref h16, .ref h17, .ref h18, .ref h19, .ref h20, .int 0, .ref h1, .ref h2, .ref h3])), (h1, .inl (cy 1, 4, .inl f0)), (h2, .inl (cy 1, 4, .inl (fun _ => 0))), (h3, .inl (cy 2, 160, .inr (.inl (fun _ => 0))))] sz (fun r u => r = 0) (fun u => []) 0 0 := by
  refine q_ent (own := RX12) (by decide) rfl (Nat.le_of_ble_eq_true rfl) (fun p e s m below meth c ls X hr hlk hnm hK h hA hl => ?_)
  obtain ⟨hx, hb, hml, hown, ht⟩ := id X
  replace hl : lv_has ls 5 [(0, .ref h0), (1, .int 2), (2, .int p0), (3, .int p1)] := hl
  refine lv_aload_n hx hb dX12_numbers_0 rfl (lv_at hl 0 rfl) ?_
  refine lv_iconst (v := 0) hx hb dX12_numbers_1 (by decide) ?_
  refine q_put (v := .int 0) X hK h 0 rfl rfl wf_12 tyX12 tyX12_ok nmX12 0 (by decide) wm_5_170 rfl rfl rfl (Nat.le_of_ble_eq_true rfl) dX12_numbers_2 (fun Hp1 lc1 hw1 => ?_)
  clear h
  replace hw1 : qW D _ _ [(h0, .inr (12, [.int 0, .ref h4, .ref h5, .ref h6, .ref h7, .int 0, .int 0, .int 0, .int 0, .int 0, .int 0, .int 0, .int 0, .int 0, .int (-1), .int 0, .ref h8, .ref h9, .ref h10, .ref h11, .ref h12, .int 0, .int 0, .ref h13, .ref h14, .ref h15, .int 0, .int 0, .ref h16, .ref h17, .ref h18, .ref h19, .ref h20, .int 0, .ref h1, .ref h2, .ref h3])), (h1, .inl (cy 1, 4, .inl f0)), (h2, .inl (cy 1, 4, .inl (fun _ => 0))), (h3, .inl (cy 2, 160, .inr (.inl (fun _ => 0))))] _ _ := hw1
  refine lv_iload_n hx hb dX12_numbers_5 rfl (lv_at hl 1 rfl) ?_
  refine lv_i2l (v := 2) hx hb dX12_numbers_6 (by decide +kernel) ?_
  refine lv_lconst (v := 0) hx hb dX12_numbers_7 (by decide) ?_
  refine lv_ldc2 hx hb hown (ht _ wm_7_29) dX12_numbers_8 ?_
  refine q_callSi (rest := []) (wr := [(h0, .inr (12, [.int 0, .ref h4, .ref h5, .ref h6, .ref h7, .int 0, .int 0, .int 0, .int 0, .int 0, .int 0, .int 0, .int 0, .int 0, .int (-1), .int 0, .ref h8, .ref h9, .ref h10, .ref h11, .ref h12, .int 0, .int 0, .ref h13, .ref h14, .ref h15, .int 0, .int 0, .ref h16, .ref h17, .ref h18, .ref h19, .ref h20, .int 0, .ref h1, .ref h2, .ref h3])), (h1, .inl (cy 1, 4, .inl f0)), (h2, .inl (cy 1, 4, .inl (fun _ => 0))), (h3, .inl (cy 2, 160, .inr (.inl (fun _ => 0))))]) X hK hA hw1 (fun sz => kX12_within_174 l D cy   sz) wm_6_50 wm_6_52 wm_1_12 hd_X12_within wm_6_51 ⟨Nat.le_of_ble_eq_true rfl, Nat.le_of_ble_eq_true rfl⟩ hl.1 rfl (Nat.le_of_ble_eq_true rfl) dX12_numbers_11 ⟨Nat.le_of_ble_eq_true rfl, Nat.le_of_ble_eq_true rfl⟩ [] [0, 1, 2, 3] rfl rfl (by decide) rfl rfl (fun r_11757 u_11757 Hp2 lc2 w_11757 hw2 => ?_)
  clear Hp1 lc1 hw1
  obtain rfl : r_11757 = 1 := w_11757
  replace hw2 : qW D _ _ [(h0, .inr (12, [.int 0, .ref h4, .ref h5, .ref h6, .ref h7, .int 0, .int 0, .int 0, .int 0, .int 0, .int 0, .int 0, .int 0, .int 0, .int (-1), .int 0, .ref h8, .ref h9, .ref h10, .ref h11, .ref h12, .int 0, .int 0, .ref h13, .ref h14, .ref h15, .int 0, .int 0, .ref h16, .ref h17, .ref h18, .ref h19, .ref h20, .int 0, .ref h1, .ref h2, .ref h3])), (h1, .inl (cy 1, 4, .inl f0)), (h2, .inl (cy 1, 4, .inl (fun _ => 0))), (h3, .inl (cy 2, 160, .inr (.inl (fun _ => 0))))] _ _ := hw2
  refine lv_if_eq (tgt := 29) hx hb dX12_numbers_14 (by decide) (fun c => absurd c (by decide +kernel)) (fun _ => ?_)
  refine lv_iload_n hx hb dX12_numbers_17 rfl (lv_at hl 2 rfl) ?_
  refine lv_i2l hx hb dX12_numbers_18 rfl ?_
  refine lv_lconst (v := 0) hx hb dX12_numbers_19 (by decide) ?_
  refine lv_ldc2 hx hb hown (ht _ wm_7_29) dX12_numbers_20 ?_
  have g_11760 : (0 : Int64) ≤ ((p0).toInt64) := by
    simp only [Int32.toInt_toInt64, Int64.lt_iff_toInt_lt, Int64.le_iff_toInt_le, ← Int64.toInt_inj, Int32.lt_iff_toInt_lt, Int32.le_iff_toInt_le, ← Int32.toInt_inj] at hlo_p0 hhi_p0 ⊢
    have k_0 : (0 : Int32).toInt = 0 := by decide
    have k_1 : (3 : Int32).toInt = 3 := by decide
    have k_g : (0 : Int64).toInt = 0 := by decide
    omega
  have g_11761 : ((p0).toInt64) ≤ (3 : Int64) := by
    simp only [Int32.toInt_toInt64, Int64.lt_iff_toInt_lt, Int64.le_iff_toInt_le, ← Int64.toInt_inj, Int32.lt_iff_toInt_lt, Int32.le_iff_toInt_le, ← Int32.toInt_inj] at hlo_p0 hhi_p0 ⊢
    have k_0 : (0 : Int32).toInt = 0 := by decide
    have k_1 : (3 : Int32).toInt = 3 := by decide
    have k_g : (3 : Int64).toInt = 3 := by decide
    omega
  refine q_callSi (rest := []) (wr := [(h0, .inr (12, [.int 0, .ref h4, .ref h5, .ref h6, .ref h7, .int 0, .int 0, .int 0, .int 0, .int 0, .int 0, .int 0, .int 0, .int 0, .int (-1), .int 0, .ref h8, .ref h9, .ref h10, .ref h11, .ref h12, .int 0, .int 0, .ref h13, .ref h14, .ref h15, .int 0, .int 0, .ref h16, .ref h17, .ref h18, .ref h19, .ref h20, .int 0, .ref h1, .ref h2, .ref h3])), (h1, .inl (cy 1, 4, .inl f0)), (h2, .inl (cy 1, 4, .inl (fun _ => 0))), (h3, .inl (cy 2, 160, .inr (.inl (fun _ => 0))))]) X hK hA hw2 (fun sz => kX12_within_143 l D cy ((p0).toInt64) g_11760 g_11761 sz) wm_6_50 wm_6_52 wm_1_12 hd_X12_within wm_6_51 ⟨Nat.le_of_ble_eq_true rfl, Nat.le_of_ble_eq_true rfl⟩ hl.1 rfl (Nat.le_of_ble_eq_true rfl) dX12_numbers_23 ⟨Nat.le_of_ble_eq_true rfl, Nat.le_of_ble_eq_true rfl⟩ [] [0, 1, 2, 3] rfl rfl (by decide) rfl rfl (fun r_11762 u_11762 Hp3 lc3 w_11762 hw3 => ?_)
  clear Hp2 lc2 hw2
  obtain rfl : r_11762 = 1 := w_11762
  replace hw3 : qW D _ _ [(h0, .inr (12, [.int 0, .ref h4, .ref h5, .ref h6, .ref h7, .int 0, .int 0, .int 0, .int 0, .int 0, .int 0, .int 0, .int 0, .int 0, .int (-1), .int 0, .ref h8, .ref h9, .ref h10, .ref h11, .ref h12, .int 0, .int 0, .ref h13, .ref h14, .ref h15, .int 0, .int 0, .ref h16, .ref h17, .ref h18, .ref h19, .ref h20, .int 0, .ref h1, .ref h2, .ref h3])), (h1, .inl (cy 1, 4, .inl f0)), (h2, .inl (cy 1, 4, .inl (fun _ => 0))), (h3, .inl (cy 2, 160, .inr (.inl (fun _ => 0))))] _ _ := hw3
  refine lv_if_ne (tgt := 32) hx hb dX12_numbers_26 (by decide) (fun _ => ?_) (fun c => absurd c (by decide +kernel))
  refine lv_iload_n hx hb dX12_numbers_32 rfl (lv_at hl 3 rfl) ?_
  refine lv_i2l hx hb dX12_numbers_33 rfl ?_
  refine lv_lconst (v := 0) hx hb dX12_numbers_34 (by decide) ?_
  refine lv_ldc2 hx hb hown (ht _ wm_7_82) dX12_numbers_35 ?_
  have g_11765 : (0 : Int64) ≤ ((p1).toInt64) := by
    simp only [Int32.toInt_toInt64, Int64.lt_iff_toInt_lt, Int64.le_iff_toInt_le, ← Int64.toInt_inj, Int32.lt_iff_toInt_lt, Int32.le_iff_toInt_le, ← Int32.toInt_inj] at hlo_p1 hhi_p1 ⊢
    have k_0 : (0 : Int32).toInt = 0 := by decide
    have k_1 : (40 : Int32).toInt = 40 := by decide
    have k_g : (0 : Int64).toInt = 0 := by decide
    omega
  have g_11766 : ((p1).toInt64) ≤ (40 : Int64) := by
    simp only [Int32.toInt_toInt64, Int64.lt_iff_toInt_lt, Int64.le_iff_toInt_le, ← Int64.toInt_inj, Int32.lt_iff_toInt_lt, Int32.le_iff_toInt_le, ← Int32.toInt_inj] at hlo_p1 hhi_p1 ⊢
    have k_0 : (0 : Int32).toInt = 0 := by decide
    have k_1 : (40 : Int32).toInt = 40 := by decide
    have k_g : (40 : Int64).toInt = 40 := by decide
    omega
  refine q_callSi (rest := []) (wr := [(h0, .inr (12, [.int 0, .ref h4, .ref h5, .ref h6, .ref h7, .int 0, .int 0, .int 0, .int 0, .int 0, .int 0, .int 0, .int 0, .int 0, .int (-1), .int 0, .ref h8, .ref h9, .ref h10, .ref h11, .ref h12, .int 0, .int 0, .ref h13, .ref h14, .ref h15, .int 0, .int 0, .ref h16, .ref h17, .ref h18, .ref h19, .ref h20, .int 0, .ref h1, .ref h2, .ref h3])), (h1, .inl (cy 1, 4, .inl f0)), (h2, .inl (cy 1, 4, .inl (fun _ => 0))), (h3, .inl (cy 2, 160, .inr (.inl (fun _ => 0))))]) X hK hA hw3 (fun sz => kX12_within_437 l D cy ((p1).toInt64) g_11765 g_11766 sz) wm_6_50 wm_6_52 wm_1_12 hd_X12_within wm_6_51 ⟨Nat.le_of_ble_eq_true rfl, Nat.le_of_ble_eq_true rfl⟩ hl.1 rfl (Nat.le_of_ble_eq_true rfl) dX12_numbers_38 ⟨Nat.le_of_ble_eq_true rfl, Nat.le_of_ble_eq_true rfl⟩ [] [0, 1, 2, 3] rfl rfl (by decide) rfl rfl (fun r_11767 u_11767 Hp4 lc4 w_11767 hw4 => ?_)
  clear Hp3 lc3 hw3
  obtain rfl : r_11767 = 1 := w_11767
  replace hw4 : qW D _ _ [(h0, .inr (12, [.int 0, .ref h4, .ref h5, .ref h6, .ref h7, .int 0, .int 0, .int 0, .int 0, .int 0, .int 0, .int 0, .int 0, .int 0, .int (-1), .int 0, .ref h8, .ref h9, .ref h10, .ref h11, .ref h12, .int 0, .int 0, .ref h13, .ref h14, .ref h15, .int 0, .int 0, .ref h16, .ref h17, .ref h18, .ref h19, .ref h20, .int 0, .ref h1, .ref h2, .ref h3])), (h1, .inl (cy 1, 4, .inl f0)), (h2, .inl (cy 1, 4, .inl (fun _ => 0))), (h3, .inl (cy 2, 160, .inr (.inl (fun _ => 0))))] _ _ := hw4
  refine lv_if_ne (tgt := 47) hx hb dX12_numbers_41 (by decide) (fun _ => ?_) (fun c => absurd c (by decide +kernel))
  refine lv_aload_n hx hb dX12_numbers_47 rfl (lv_at hl 0 rfl) ?_
  refine q_get X hK hw4 0 rfl rfl wf_12 34 (by decide) rfl wm_5_204 dX12_numbers_48 ?_
  refine lv_iload_n hx hb dX12_numbers_51 rfl (lv_at hl 1 rfl) ?_
  refine lv_iload_n hx hb dX12_numbers_52 rfl (lv_at hl 2 rfl) ?_
  refine q_iast X hK hw4 1 rfl (q_in (by decide +kernel)) dX12_numbers_53 (fun Hp5 lc5 hw5 => ?_)
  clear Hp4 lc4 hw4
  replace hw5 : qW D _ _ [(h0, .inr (12, [.int 0, .ref h4, .ref h5, .ref h6, .ref h7, .int 0, .int 0, .int 0, .int 0, .int 0, .int 0, .int 0, .int 0, .int 0, .int (-1), .int 0, .ref h8, .ref h9, .ref h10, .ref h11, .ref h12, .int 0, .int 0, .ref h13, .ref h14, .ref h15, .int 0, .int 0, .ref h16, .ref h17, .ref h18, .ref h19, .ref h20, .int 0, .ref h1, .ref h2, .ref h3])), (h1, .inl (cy 1, 4, .inl (upd f0 (Int32.toNatClampNeg 2) p0))), (h2, .inl (cy 1, 4, .inl (fun _ => 0))), (h3, .inl (cy 2, 160, .inr (.inl (fun _ => 0))))] _ _ := hw5
  refine lv_aload_n hx hb dX12_numbers_54 rfl (lv_at hl 0 rfl) ?_
  refine q_get X hK hw5 0 rfl rfl wf_12 35 (by decide) rfl wm_5_205 dX12_numbers_55 ?_
  refine lv_iload_n hx hb dX12_numbers_58 rfl (lv_at hl 1 rfl) ?_
  refine lv_iload_n hx hb dX12_numbers_59 rfl (lv_at hl 3 rfl) ?_
  refine q_iast X hK hw5 2 rfl (q_in (by decide +kernel)) dX12_numbers_60 (fun Hp6 lc6 hw6 => ?_)
  clear Hp5 lc5 hw5
  replace hw6 : qW D _ _ [(h0, .inr (12, [.int 0, .ref h4, .ref h5, .ref h6, .ref h7, .int 0, .int 0, .int 0, .int 0, .int 0, .int 0, .int 0, .int 0, .int 0, .int (-1), .int 0, .ref h8, .ref h9, .ref h10, .ref h11, .ref h12, .int 0, .int 0, .ref h13, .ref h14, .ref h15, .int 0, .int 0, .ref h16, .ref h17, .ref h18, .ref h19, .ref h20, .int 0, .ref h1, .ref h2, .ref h3])), (h1, .inl (cy 1, 4, .inl (upd f0 (Int32.toNatClampNeg 2) p0))), (h2, .inl (cy 1, 4, .inl (upd (fun _ => 0) (Int32.toNatClampNeg 2) p1))), (h3, .inl (cy 2, 160, .inr (.inl (fun _ => 0))))] _ _ := hw6
  refine lv_iconst (v := 0) hx hb dX12_numbers_61 (by decide) ?_
  refine lv_istore (lv' := [(4, .int 0), (0, .ref h0), (1, .int 2), (2, .int p0), (3, .int p1)]) hx hb dX12_numbers_62 hl (by decide) rfl (fun lz7 hv7 => ?_)
  clear ls hl
  obtain ⟨N, hN, hNe⟩ : ∃ N : Nat, N ≤ 40 ∧ p1 = nI N := q_num hlo_p1 hhi_p1
  subst hNe
  refine q_loop (P := fun k H locs ls => qW D (va_A [(h0, .inr (12, [.int 0, .ref h4, .ref h5, .ref h6, .ref h7, .int 0, .int 0, .int 0, .int 0, .int 0, .int 0, .int 0, .int 0, .int 0, .int (-1), .int 0, .ref h8, .ref h9, .ref h10, .ref h11, .ref h12, .int 0, .int 0, .ref h13, .ref h14, .ref h15, .int 0, .int 0, .ref h16, .ref h17, .ref h18, .ref h19, .ref h20, .int 0, .ref h1, .ref h2, .ref h3])), (h1, .inl (cy 1, 4, .inl f0)), (h2, .inl (cy 1, 4, .inl (fun _ => 0))), (h3, .inl (cy 2, 160, .inr (.inl (fun _ => 0))))] sz) s.heap [(h0, .inr (12, [.int 0, .ref h4, .ref h5, .ref h6, .ref h7, .int 0, .int 0, .int 0, .int 0, .int 0, .int 0, .int 0, .int 0, .int 0, .int (-1), .int 0, .ref h8, .ref h9, .ref h10, .ref h11, .ref h12, .int 0, .int 0, .ref h13, .ref h14, .ref h15, .int 0, .int 0, .ref h16, .ref h17, .ref h18, .ref h19, .ref h20, .int 0, .ref h1, .ref h2, .ref h3])), (h1, .inl (cy 1, 4, .inl (upd f0 (Int32.toNatClampNeg 2) p0))), (h2, .inl (cy 1, 4, .inl (upd (fun _ => 0) (Int32.toNatClampNeg 2) (nI N)))), (h3, .inl (cy 2, 160, .inr (.inl (fun _ => 0))))] H locs ∧ lv_has ls 5 [(4, .int (nI k)), (0, .ref h0), (1, .int 2), (2, .int p0), (3, .int (nI N))]) N 0 (Nat.zero_le _) ⟨hw6, by rw [nI_0]; exact hv7⟩ (fun k hk ih H locs ls hP => ?_) (fun H locs ls hP => ?_)
  · obtain ⟨h, hl⟩ := hP
    have hki : (nI k).toInt = (k : Int) := nI_toInt (by omega)
    have hin_11769 : vp_in (80 + (nI k)) 160 := by rw [show (80 : Int32) + nI k = nI (80 + k) from nI_add 80 k]; exact vp_in_nI (by omega) (by omega)
    refine lv_iload hx hb dX12_numbers_64 (lv_at hl 0 rfl) ?_
    refine lv_iload_n hx hb dX12_numbers_66 rfl (lv_at hl 4 rfl) ?_
    refine lv_icmp_ge (tgt := 89) hx hb dX12_numbers_67 (by decide) (fun c => absurd c (nI_ge hk (by omega))) (fun _ => ?_)
    refine lv_aload_n hx hb dX12_numbers_70 rfl (lv_at hl 1 rfl) ?_
    refine q_get X hK h 0 rfl rfl wf_12 36 (by decide) rfl wm_5_206 dX12_numbers_71 ?_
    refine lv_bipush (v := 40) hx hb dX12_numbers_74 (by decide) ?_
    refine lv_iload_n hx hb dX12_numbers_76 rfl (lv_at hl 2 rfl) ?_
    refine lv_imul hx hb dX12_numbers_77 ?_
    refine q_c 80 (by decide +kernel) ?_
    refine lv_iload hx hb dX12_numbers_78 (lv_at hl 0 rfl) ?_
    refine lv_iadd hx hb dX12_numbers_80 ?_
    refine lv_lconst (v := 0) hx hb dX12_numbers_81 (by decide) ?_
    refine q_last X hK h 3 rfl hin_11769 dX12_numbers_82 (fun Hp8 lc8 hw8 => ?_)
    clear h
    replace hw8 : qW D _ _ [(h0, .inr (12, [.int 0, .ref h4, .ref h5, .ref h6, .ref h7, .int 0, .int 0, .int 0, .int 0, .int 0, .int 0, .int 0, .int 0, .int 0, .int (-1), .int 0, .ref h8, .ref h9, .ref h10, .ref h11, .ref h12, .int 0, .int 0, .ref h13, .ref h14, .ref h15, .int 0, .int 0, .ref h16, .ref h17, .ref h18, .ref h19, .ref h20, .int 0, .ref h1, .ref h2, .ref h3])), (h1, .inl (cy 1, 4, .inl (upd f0 (Int32.toNatClampNeg 2) p0))), (h2, .inl (cy 1, 4, .inl (upd (fun _ => 0) (Int32.toNatClampNeg 2) (nI N)))), (h3, .inl (cy 2, 160, .inr (.inl (vp_updL (fun _ => 0) (Int32.toNatClampNeg (80 + (nI k))) 0))))] _ _ := hw8
    rw [q_usL rfl] at hw8
    refine lv_iinc (v := (nI (k + 1))) (lv' := [(4, .int (nI (k + 1))), (0, .ref h0), (1, .int 2), (2, .int p0), (3, .int (nI N))]) hx hb dX12_numbers_83 hl (k := 0) rfl (nI_1 _) (by decide) rfl (fun lz9 hv9 => ?_)
    clear ls hl
    refine lv_goto (tgt := 64) hx hb dX12_numbers_86 (by decide) ?_
    exact ih _ _ _ ⟨hw8, hv9⟩
  · obtain ⟨h, hl⟩ := hP
    refine lv_iload hx hb dX12_numbers_64 (lv_at hl 0 rfl) ?_
    refine lv_iload_n hx hb dX12_numbers_66 rfl (lv_at hl 4 rfl) ?_
    refine lv_icmp_ge (tgt := 89) hx hb dX12_numbers_67 (by decide) (fun _ => ?_) (fun c => absurd (Int32.le_refl _) c)
    refine lv_iconst (v := 0) hx hb dX12_numbers_89 (by decide) ?_
    exact q_iret X hr hlk hK h rfl qu0 rfl [] rfl rfl dX12_numbers_90 (Nat.le_of_ble_eq_true rfl) (Nat.le_of_ble_eq_true rfl)
set_option maxHeartbeats 4000000 in
set_option maxRecDepth 100000 in
theorem kX11_numbers_460 (l : Launch) (D : va_G) (cy : Nat → ClassId) (h0 : Nat) (p0 : Int32) (p1 : Int32) (h1 : Nat) (h2 : Nat) (h3 : Nat) (h4 : Nat) (h5 : Nat) (h6 : Nat) (h7 : Nat) (h8 : Nat) (h9 : Nat) (h10 : Nat) (h11 : Nat) (h12 : Nat) (h13 : Nat) (hlo_p0 : (0 : Int32) ≤ p0) (hhi_p0 : p0 ≤ (3 : Int32)) (hlo_p1 : (41 : Int32) ≤ p1) (sz : Nat) : MI l yX11_numbers cX11_numbers 4 .int { frames := 1, cells := 0, slots := 0, locals := 21 } [.ref h0, .int 2, .int p0, .int p1] D cy [(h0, .inr (11, [.ref h1, .int 0, .int 0, .int (-1), .ref h2, .ref h3, .ref h4, .ref h5, .ref h6, .ref h7, .ref h8, .ref h9, .ref h10, .ref h11, .ref h12, .ref h13, .int 0]))] sz (fun r u => r = (-3)) (fun u => []) 0 0 := by
  refine q_ent (own := RX11) (by decide) rfl (Nat.le_of_ble_eq_true rfl) (fun p e s m below meth c ls X hr hlk hnm hK h hA hl => ?_)
  obtain ⟨hx, hb, hml, hown, ht⟩ := id X
  replace hl : lv_has ls 4 [(0, .ref h0), (1, .int 2), (2, .int p0), (3, .int p1)] := hl
  refine lv_aload_n hx hb dX11_numbers_0 rfl (lv_at hl 0 rfl) ?_
  refine lv_iload_n hx hb dX11_numbers_1 rfl (lv_at hl 1 rfl) ?_
  refine q_callVi (rest := []) (wr := []) X hK hA h (fun sz => kX11_isTray_170 l D cy h0 h1 h2 h3 h4 h5 h6 h7 h8 h9 h10 h11 h12 h13  sz) wm_4_83 wm_4_86 wm_1_1 hd_X11_isTray wm_4_85 wp_3_1 (ci := 11) (q0 := 0) rfl rfl ⟨Nat.le_of_ble_eq_true rfl, Nat.le_of_ble_eq_true rfl⟩ hl.1 rfl (Nat.le_of_ble_eq_true rfl) dX11_numbers_2 ⟨Nat.le_of_ble_eq_true rfl, Nat.le_of_ble_eq_true rfl⟩ [0] [] rfl rfl (by decide) rfl rfl (fun r_11815 u_11815 Hp1 lc1 w_11815 hw1 => ?_)
  clear h
  obtain rfl : r_11815 = 1 := w_11815
  replace hw1 : qW D _ _ [(h0, .inr (11, [.ref h1, .int 0, .int 0, .int (-1), .ref h2, .ref h3, .ref h4, .ref h5, .ref h6, .ref h7, .ref h8, .ref h9, .ref h10, .ref h11, .ref h12, .ref h13, .int 0]))] _ _ := hw1
  refine lv_if_eq (tgt := 17) hx hb dX11_numbers_5 (by decide) (fun c => absurd c (by decide +kernel)) (fun _ => ?_)
  refine lv_iload_n hx hb dX11_numbers_8 rfl (lv_at hl 2 rfl) ?_
  refine lv_if_lt (tgt := 17) hx hb dX11_numbers_9 (by decide) (fun c_11816 => ?_) (fun c_11816 => ?_)
  · exfalso
    simp only [Int32.lt_iff_toInt_lt, Int32.le_iff_toInt_le, ← Int32.toInt_inj] at hlo_p0 hhi_p0 c_11816
    have k_0 : (0 : Int32).toInt = 0 := by decide
    have k_1 : (3 : Int32).toInt = 3 := by decide
    omega
  · refine lv_iload_n hx hb dX11_numbers_12 rfl (lv_at hl 2 rfl) ?_
    refine lv_iconst (v := 4) hx hb dX11_numbers_13 (by decide) ?_
    refine lv_icmp_lt (tgt := 20) hx hb dX11_numbers_14 (by decide) (fun c_11817 => ?_) (fun c_11817 => ?_)
    · refine lv_iload_n hx hb dX11_numbers_20 rfl (lv_at hl 3 rfl) ?_
      refine lv_if_lt (tgt := 30) hx hb dX11_numbers_21 (by decide) (fun c_11818 => ?_) (fun c_11818 => ?_)
      · exfalso
        simp only [Int32.lt_iff_toInt_lt, Int32.le_iff_toInt_le, ← Int32.toInt_inj] at hlo_p1 c_11818
        have k_0 : (41 : Int32).toInt = 41 := by decide
        have k_1 : (0 : Int32).toInt = 0 := by decide
        omega
      · refine lv_iload_n hx hb dX11_numbers_24 rfl (lv_at hl 3 rfl) ?_
        refine lv_bipush (v := 40) hx hb dX11_numbers_25 (by decide) ?_
        refine lv_icmp_le (tgt := 33) hx hb dX11_numbers_27 (by decide) (fun c_11819 => ?_) (fun c_11819 => ?_)
        · exfalso
          simp only [Int32.lt_iff_toInt_lt, Int32.le_iff_toInt_le, ← Int32.toInt_inj] at hlo_p1 c_11818 c_11819
          have k_0 : (41 : Int32).toInt = 41 := by decide
          have k_1 : (0 : Int32).toInt = 0 := by decide
          have k_2 : (40 : Int32).toInt = 40 := by decide
          omega
        · refine lv_bipush (v := (-3)) hx hb dX11_numbers_30 (by decide) ?_
          exact q_iret X hr hlk hK hw1 rfl qu0 rfl [] rfl rfl dX11_numbers_32 (Nat.le_of_ble_eq_true rfl) (Nat.le_of_ble_eq_true rfl)
    · exfalso
      simp only [Int32.lt_iff_toInt_lt, Int32.le_iff_toInt_le, ← Int32.toInt_inj] at hlo_p0 hhi_p0 c_11816 c_11817
      have k_0 : (0 : Int32).toInt = 0 := by decide
      have k_1 : (3 : Int32).toInt = 3 := by decide
      have k_2 : (4 : Int32).toInt = 4 := by decide
      omega
set_option maxHeartbeats 4000000 in
set_option maxRecDepth 100000 in
theorem kX12_numbers_461 (l : Launch) (D : va_G) (cy : Nat → ClassId) (h0 : Nat) (p0 : Int32) (p1 : Int32) (h1 : Nat) (h2 : Nat) (h3 : Nat) (h4 : Nat) (h5 : Nat) (h6 : Nat) (h7 : Nat) (h8 : Nat) (h9 : Nat) (h10 : Nat) (h11 : Nat) (h12 : Nat) (h13 : Nat) (h14 : Nat) (h15 : Nat) (h16 : Nat) (h17 : Nat) (h18 : Nat) (h19 : Nat) (h20 : Nat) (hlo_p0 : (0 : Int32) ≤ p0) (hhi_p0 : p0 ≤ (3 : Int32)) (hlo_p1 : (41 : Int32) ≤ p1) (sz : Nat) : MI l yX12_numbers cX12_numbers 5 .int { frames := 1, cells := 0, slots := 0, locals := 25 } [.ref h0, .int 2, .int p0, .int p1] D cy [(h0, .inr (12, [.int 0, .ref h1, .ref h2, .ref h3, .ref h4, .int 0, .int 0, .int 0, .int 0, .int 0, .int 0, .int 0, .int 0, .int 0, .int (-1), .int 0, .ref h5, .ref h6, .ref h7, .ref h8, .ref h9, .int 0, .int 0, .ref h10, .ref h11, .ref h12, .int 0, .int 0, .ref h13, .ref h14, .ref h15, .ref h16, .ref h17, .int 0, .ref h18, .ref h19, .ref h20]))] sz (fun r u => r = (-3)) (fun u => []) 0 0 := by
  refine q_ent (own := RX12) (by decide) rfl (Nat.le_of_ble_eq_true rfl) (fun p e s m below meth c ls X hr hlk hnm hK h hA hl => ?_)
  obtain ⟨hx, hb, hml, hown, ht⟩ := id X
  replace hl : lv_has ls 5 [(0, .ref h0), (1, .int 2), (2, .int p0), (3, .int p1)] := hl
  refine lv_aload_n hx hb dX12_numbers_0 rfl (lv_at hl 0 rfl) ?_
  refine lv_iconst (v := 0) hx hb dX12_numbers_1 (by decide) ?_
  refine q_put (v := .int 0) X hK h 0 rfl rfl wf_12 tyX12 tyX12_ok nmX12 0 (by decide) wm_5_170 rfl rfl rfl (Nat.le_of_ble_eq_true rfl) dX12_numbers_2 (fun Hp1 lc1 hw1 => ?_)
  clear h
  replace hw1 : qW D _ _ [(h0, .inr (12, [.int 0, .ref h1, .ref h2, .ref h3, .ref h4, .int 0, .int 0, .int 0, .int 0, .int 0, .int 0, .int 0, .int 0, .int 0, .int (-1), .int 0, .ref h5, .ref h6, .ref h7, .ref h8, .ref h9, .int 0, .int 0, .ref h10, .ref h11, .ref h12, .int 0, .int 0, .ref h13, .ref h14, .ref h15, .ref h16, .ref h17, .int 0, .ref h18, .ref h19, .ref h20]))] _ _ := hw1
  refine lv_iload_n hx hb dX12_numbers_5 rfl (lv_at hl 1 rfl) ?_
  refine lv_i2l (v := 2) hx hb dX12_numbers_6 (by decide +kernel) ?_
  refine lv_lconst (v := 0) hx hb dX12_numbers_7 (by decide) ?_
  refine lv_ldc2 hx hb hown (ht _ wm_7_29) dX12_numbers_8 ?_
  refine q_callSi (rest := []) (wr := [(h0, .inr (12, [.int 0, .ref h1, .ref h2, .ref h3, .ref h4, .int 0, .int 0, .int 0, .int 0, .int 0, .int 0, .int 0, .int 0, .int 0, .int (-1), .int 0, .ref h5, .ref h6, .ref h7, .ref h8, .ref h9, .int 0, .int 0, .ref h10, .ref h11, .ref h12, .int 0, .int 0, .ref h13, .ref h14, .ref h15, .ref h16, .ref h17, .int 0, .ref h18, .ref h19, .ref h20]))]) X hK hA hw1 (fun sz => kX12_within_174 l D cy   sz) wm_6_50 wm_6_52 wm_1_12 hd_X12_within wm_6_51 ⟨Nat.le_of_ble_eq_true rfl, Nat.le_of_ble_eq_true rfl⟩ hl.1 rfl (Nat.le_of_ble_eq_true rfl) dX12_numbers_11 ⟨Nat.le_of_ble_eq_true rfl, Nat.le_of_ble_eq_true rfl⟩ [] [0] rfl rfl (by decide) rfl rfl (fun r_11840 u_11840 Hp2 lc2 w_11840 hw2 => ?_)
  clear Hp1 lc1 hw1
  obtain rfl : r_11840 = 1 := w_11840
  replace hw2 : qW D _ _ [(h0, .inr (12, [.int 0, .ref h1, .ref h2, .ref h3, .ref h4, .int 0, .int 0, .int 0, .int 0, .int 0, .int 0, .int 0, .int 0, .int 0, .int (-1), .int 0, .ref h5, .ref h6, .ref h7, .ref h8, .ref h9, .int 0, .int 0, .ref h10, .ref h11, .ref h12, .int 0, .int 0, .ref h13, .ref h14, .ref h15, .ref h16, .ref h17, .int 0, .ref h18, .ref h19, .ref h20]))] _ _ := hw2
  refine lv_if_eq (tgt := 29) hx hb dX12_numbers_14 (by decide) (fun c => absurd c (by decide +kernel)) (fun _ => ?_)
  refine lv_iload_n hx hb dX12_numbers_17 rfl (lv_at hl 2 rfl) ?_
  refine lv_i2l hx hb dX12_numbers_18 rfl ?_
  refine lv_lconst (v := 0) hx hb dX12_numbers_19 (by decide) ?_
  refine lv_ldc2 hx hb hown (ht _ wm_7_29) dX12_numbers_20 ?_
  have g_11843 : (0 : Int64) ≤ ((p0).toInt64) := by
    simp only [Int32.toInt_toInt64, Int64.lt_iff_toInt_lt, Int64.le_iff_toInt_le, ← Int64.toInt_inj, Int32.lt_iff_toInt_lt, Int32.le_iff_toInt_le, ← Int32.toInt_inj] at hlo_p0 hhi_p0 ⊢
    have k_0 : (0 : Int32).toInt = 0 := by decide
    have k_1 : (3 : Int32).toInt = 3 := by decide
    have k_g : (0 : Int64).toInt = 0 := by decide
    omega
  have g_11844 : ((p0).toInt64) ≤ (3 : Int64) := by
    simp only [Int32.toInt_toInt64, Int64.lt_iff_toInt_lt, Int64.le_iff_toInt_le, ← Int64.toInt_inj, Int32.lt_iff_toInt_lt, Int32.le_iff_toInt_le, ← Int32.toInt_inj] at hlo_p0 hhi_p0 ⊢
    have k_0 : (0 : Int32).toInt = 0 := by decide
    have k_1 : (3 : Int32).toInt = 3 := by decide
    have k_g : (3 : Int64).toInt = 3 := by decide
    omega
  refine q_callSi (rest := []) (wr := [(h0, .inr (12, [.int 0, .ref h1, .ref h2, .ref h3, .ref h4, .int 0, .int 0, .int 0, .int 0, .int 0, .int 0, .int 0, .int 0, .int 0, .int (-1), .int 0, .ref h5, .ref h6, .ref h7, .ref h8, .ref h9, .int 0, .int 0, .ref h10, .ref h11, .ref h12, .int 0, .int 0, .ref h13, .ref h14, .ref h15, .ref h16, .ref h17, .int 0, .ref h18, .ref h19, .ref h20]))]) X hK hA hw2 (fun sz => kX12_within_143 l D cy ((p0).toInt64) g_11843 g_11844 sz) wm_6_50 wm_6_52 wm_1_12 hd_X12_within wm_6_51 ⟨Nat.le_of_ble_eq_true rfl, Nat.le_of_ble_eq_true rfl⟩ hl.1 rfl (Nat.le_of_ble_eq_true rfl) dX12_numbers_23 ⟨Nat.le_of_ble_eq_true rfl, Nat.le_of_ble_eq_true rfl⟩ [] [0] rfl rfl (by decide) rfl rfl (fun r_11845 u_11845 Hp3 lc3 w_11845 hw3 => ?_)
  clear Hp2 lc2 hw2
  obtain rfl : r_11845 = 1 := w_11845
  replace hw3 : qW D _ _ [(h0, .inr (12, [.int 0, .ref h1, .ref h2, .ref h3, .ref h4, .int 0, .int 0, .int 0, .int 0, .int 0, .int 0, .int 0, .int 0, .int 0, .int (-1), .int 0, .ref h5, .ref h6, .ref h7, .ref h8, .ref h9, .int 0, .int 0, .ref h10, .ref h11, .ref h12, .int 0, .int 0, .ref h13, .ref h14, .ref h15, .ref h16, .ref h17, .int 0, .ref h18, .ref h19, .ref h20]))] _ _ := hw3
  refine lv_if_ne (tgt := 32) hx hb dX12_numbers_26 (by decide) (fun _ => ?_) (fun c => absurd c (by decide +kernel))
  refine lv_iload_n hx hb dX12_numbers_32 rfl (lv_at hl 3 rfl) ?_
  refine lv_i2l hx hb dX12_numbers_33 rfl ?_
  refine lv_lconst (v := 0) hx hb dX12_numbers_34 (by decide) ?_
  refine lv_ldc2 hx hb hown (ht _ wm_7_82) dX12_numbers_35 ?_
  have g_11848 : (41 : Int64) ≤ ((p1).toInt64) := by
    simp only [Int32.toInt_toInt64, Int64.lt_iff_toInt_lt, Int64.le_iff_toInt_le, ← Int64.toInt_inj, Int32.lt_iff_toInt_lt, Int32.le_iff_toInt_le, ← Int32.toInt_inj] at hlo_p1 ⊢
    have k_0 : (41 : Int32).toInt = 41 := by decide
    have k_g : (41 : Int64).toInt = 41 := by decide
    omega
  refine q_callSi (rest := []) (wr := [(h0, .inr (12, [.int 0, .ref h1, .ref h2, .ref h3, .ref h4, .int 0, .int 0, .int 0, .int 0, .int 0, .int 0, .int 0, .int 0, .int 0, .int (-1), .int 0, .ref h5, .ref h6, .ref h7, .ref h8, .ref h9, .int 0, .int 0, .ref h10, .ref h11, .ref h12, .int 0, .int 0, .ref h13, .ref h14, .ref h15, .ref h16, .ref h17, .int 0, .ref h18, .ref h19, .ref h20]))]) X hK hA hw3 (fun sz => kX12_within_440 l D cy ((p1).toInt64) g_11848 sz) wm_6_50 wm_6_52 wm_1_12 hd_X12_within wm_6_51 ⟨Nat.le_of_ble_eq_true rfl, Nat.le_of_ble_eq_true rfl⟩ hl.1 rfl (Nat.le_of_ble_eq_true rfl) dX12_numbers_38 ⟨Nat.le_of_ble_eq_true rfl, Nat.le_of_ble_eq_true rfl⟩ [] [0] rfl rfl (by decide) rfl rfl (fun r_11849 u_11849 Hp4 lc4 w_11849 hw4 => ?_)
  clear Hp3 lc3 hw3
  obtain rfl : r_11849 = 0 := w_11849
  replace hw4 : qW D _ _ [(h0, .inr (12, [.int 0, .ref h1, .ref h2, .ref h3, .ref h4, .int 0, .int 0, .int 0, .int 0, .int 0, .int 0, .int 0, .int 0, .int 0, .int (-1), .int 0, .ref h5, .ref h6, .ref h7, .ref h8, .ref h9, .int 0, .int 0, .ref h10, .ref h11, .ref h12, .int 0, .int 0, .ref h13, .ref h14, .ref h15, .ref h16, .ref h17, .int 0, .ref h18, .ref h19, .ref h20]))] _ _ := hw4
  refine lv_if_ne (tgt := 47) hx hb dX12_numbers_41 (by decide) (fun c => absurd c (by decide +kernel)) (fun _ => ?_)
  refine lv_bipush (v := (-3)) hx hb dX12_numbers_44 (by decide) ?_
  exact q_iret X hr hlk hK hw4 rfl qu0 rfl [] rfl rfl dX12_numbers_46 (Nat.le_of_ble_eq_true rfl) (Nat.le_of_ble_eq_true rfl)
set_option maxHeartbeats 4000000 in
set_option maxRecDepth 100000 in
theorem kX11_numbers_462 (l : Launch) (D : va_G) (cy : Nat → ClassId) (h0 : Nat) (p0 : Int32) (p1 : Int32) (h1 : Nat) (h2 : Nat) (h3 : Nat) (h4 : Nat) (h5 : Nat) (h6 : Nat) (h7 : Nat) (h8 : Nat) (h9 : Nat) (h10 : Nat) (h11 : Nat) (h12 : Nat) (h13 : Nat) (hlo_p0 : (4 : Int32) ≤ p0) (sz : Nat) : MI l yX11_numbers cX11_numbers 4 .int { frames := 1, cells := 0, slots := 0, locals := 21 } [.ref h0, .int 2, .int p0, .int p1] D cy [(h0, .inr (11, [.ref h1, .int 0, .int 0, .int (-1), .ref h2, .ref h3, .ref h4, .ref h5, .ref h6, .ref h7, .ref h8, .ref h9, .ref h10, .ref h11, .ref h12, .ref h13, .int 0]))] sz (fun r u => r = (-2)) (fun u => []) 0 0 := by
  refine q_ent (own := RX11) (by decide) rfl (Nat.le_of_ble_eq_true rfl) (fun p e s m below meth c ls X hr hlk hnm hK h hA hl => ?_)
  obtain ⟨hx, hb, hml, hown, ht⟩ := id X
  replace hl : lv_has ls 4 [(0, .ref h0), (1, .int 2), (2, .int p0), (3, .int p1)] := hl
  refine lv_aload_n hx hb dX11_numbers_0 rfl (lv_at hl 0 rfl) ?_
  refine lv_iload_n hx hb dX11_numbers_1 rfl (lv_at hl 1 rfl) ?_
  refine q_callVi (rest := []) (wr := []) X hK hA h (fun sz => kX11_isTray_170 l D cy h0 h1 h2 h3 h4 h5 h6 h7 h8 h9 h10 h11 h12 h13  sz) wm_4_83 wm_4_86 wm_1_1 hd_X11_isTray wm_4_85 wp_3_1 (ci := 11) (q0 := 0) rfl rfl ⟨Nat.le_of_ble_eq_true rfl, Nat.le_of_ble_eq_true rfl⟩ hl.1 rfl (Nat.le_of_ble_eq_true rfl) dX11_numbers_2 ⟨Nat.le_of_ble_eq_true rfl, Nat.le_of_ble_eq_true rfl⟩ [0] [] rfl rfl (by decide) rfl rfl (fun r_11880 u_11880 Hp1 lc1 w_11880 hw1 => ?_)
  clear h
  obtain rfl : r_11880 = 1 := w_11880
  replace hw1 : qW D _ _ [(h0, .inr (11, [.ref h1, .int 0, .int 0, .int (-1), .ref h2, .ref h3, .ref h4, .ref h5, .ref h6, .ref h7, .ref h8, .ref h9, .ref h10, .ref h11, .ref h12, .ref h13, .int 0]))] _ _ := hw1
  refine lv_if_eq (tgt := 17) hx hb dX11_numbers_5 (by decide) (fun c => absurd c (by decide +kernel)) (fun _ => ?_)
  refine lv_iload_n hx hb dX11_numbers_8 rfl (lv_at hl 2 rfl) ?_
  refine lv_if_lt (tgt := 17) hx hb dX11_numbers_9 (by decide) (fun c_11881 => ?_) (fun c_11881 => ?_)
  · exfalso
    simp only [Int32.lt_iff_toInt_lt, Int32.le_iff_toInt_le, ← Int32.toInt_inj] at hlo_p0 c_11881
    have k_0 : (4 : Int32).toInt = 4 := by decide
    have k_1 : (0 : Int32).toInt = 0 := by decide
    omega
  · refine lv_iload_n hx hb dX11_numbers_12 rfl (lv_at hl 2 rfl) ?_
    refine lv_iconst (v := 4) hx hb dX11_numbers_13 (by decide) ?_
    refine lv_icmp_lt (tgt := 20) hx hb dX11_numbers_14 (by decide) (fun c_11882 => ?_) (fun c_11882 => ?_)
    · exfalso
      simp only [Int32.lt_iff_toInt_lt, Int32.le_iff_toInt_le, ← Int32.toInt_inj] at hlo_p0 c_11881 c_11882
      have k_0 : (4 : Int32).toInt = 4 := by decide
      have k_1 : (0 : Int32).toInt = 0 := by decide
      omega
    · refine lv_bipush (v := (-2)) hx hb dX11_numbers_17 (by decide) ?_
      exact q_iret X hr hlk hK hw1 rfl qu0 rfl [] rfl rfl dX11_numbers_19 (Nat.le_of_ble_eq_true rfl) (Nat.le_of_ble_eq_true rfl)
set_option maxHeartbeats 4000000 in
set_option maxRecDepth 100000 in
theorem kX12_numbers_463 (l : Launch) (D : va_G) (cy : Nat → ClassId) (h0 : Nat) (p0 : Int32) (p1 : Int32) (h1 : Nat) (h2 : Nat) (h3 : Nat) (h4 : Nat) (h5 : Nat) (h6 : Nat) (h7 : Nat) (h8 : Nat) (h9 : Nat) (h10 : Nat) (h11 : Nat) (h12 : Nat) (h13 : Nat) (h14 : Nat) (h15 : Nat) (h16 : Nat) (h17 : Nat) (h18 : Nat) (h19 : Nat) (h20 : Nat) (hlo_p0 : (4 : Int32) ≤ p0) (sz : Nat) : MI l yX12_numbers cX12_numbers 5 .int { frames := 1, cells := 0, slots := 0, locals := 25 } [.ref h0, .int 2, .int p0, .int p1] D cy [(h0, .inr (12, [.int 0, .ref h1, .ref h2, .ref h3, .ref h4, .int 0, .int 0, .int 0, .int 0, .int 0, .int 0, .int 0, .int 0, .int 0, .int (-1), .int 0, .ref h5, .ref h6, .ref h7, .ref h8, .ref h9, .int 0, .int 0, .ref h10, .ref h11, .ref h12, .int 0, .int 0, .ref h13, .ref h14, .ref h15, .ref h16, .ref h17, .int 0, .ref h18, .ref h19, .ref h20]))] sz (fun r u => r = (-2)) (fun u => []) 0 0 := by
  refine q_ent (own := RX12) (by decide) rfl (Nat.le_of_ble_eq_true rfl) (fun p e s m below meth c ls X hr hlk hnm hK h hA hl => ?_)
  obtain ⟨hx, hb, hml, hown, ht⟩ := id X
  replace hl : lv_has ls 5 [(0, .ref h0), (1, .int 2), (2, .int p0), (3, .int p1)] := hl
  refine lv_aload_n hx hb dX12_numbers_0 rfl (lv_at hl 0 rfl) ?_
  refine lv_iconst (v := 0) hx hb dX12_numbers_1 (by decide) ?_
  refine q_put (v := .int 0) X hK h 0 rfl rfl wf_12 tyX12 tyX12_ok nmX12 0 (by decide) wm_5_170 rfl rfl rfl (Nat.le_of_ble_eq_true rfl) dX12_numbers_2 (fun Hp1 lc1 hw1 => ?_)
  clear h
  replace hw1 : qW D _ _ [(h0, .inr (12, [.int 0, .ref h1, .ref h2, .ref h3, .ref h4, .int 0, .int 0, .int 0, .int 0, .int 0, .int 0, .int 0, .int 0, .int 0, .int (-1), .int 0, .ref h5, .ref h6, .ref h7, .ref h8, .ref h9, .int 0, .int 0, .ref h10, .ref h11, .ref h12, .int 0, .int 0, .ref h13, .ref h14, .ref h15, .ref h16, .ref h17, .int 0, .ref h18, .ref h19, .ref h20]))] _ _ := hw1
  refine lv_iload_n hx hb dX12_numbers_5 rfl (lv_at hl 1 rfl) ?_
  refine lv_i2l (v := 2) hx hb dX12_numbers_6 (by decide +kernel) ?_
  refine lv_lconst (v := 0) hx hb dX12_numbers_7 (by decide) ?_
  refine lv_ldc2 hx hb hown (ht _ wm_7_29) dX12_numbers_8 ?_
  refine q_callSi (rest := []) (wr := [(h0, .inr (12, [.int 0, .ref h1, .ref h2, .ref h3, .ref h4, .int 0, .int 0, .int 0, .int 0, .int 0, .int 0, .int 0, .int 0, .int 0, .int (-1), .int 0, .ref h5, .ref h6, .ref h7, .ref h8, .ref h9, .int 0, .int 0, .ref h10, .ref h11, .ref h12, .int 0, .int 0, .ref h13, .ref h14, .ref h15, .ref h16, .ref h17, .int 0, .ref h18, .ref h19, .ref h20]))]) X hK hA hw1 (fun sz => kX12_within_174 l D cy   sz) wm_6_50 wm_6_52 wm_1_12 hd_X12_within wm_6_51 ⟨Nat.le_of_ble_eq_true rfl, Nat.le_of_ble_eq_true rfl⟩ hl.1 rfl (Nat.le_of_ble_eq_true rfl) dX12_numbers_11 ⟨Nat.le_of_ble_eq_true rfl, Nat.le_of_ble_eq_true rfl⟩ [] [0] rfl rfl (by decide) rfl rfl (fun r_11893 u_11893 Hp2 lc2 w_11893 hw2 => ?_)
  clear Hp1 lc1 hw1
  obtain rfl : r_11893 = 1 := w_11893
  replace hw2 : qW D _ _ [(h0, .inr (12, [.int 0, .ref h1, .ref h2, .ref h3, .ref h4, .int 0, .int 0, .int 0, .int 0, .int 0, .int 0, .int 0, .int 0, .int 0, .int (-1), .int 0, .ref h5, .ref h6, .ref h7, .ref h8, .ref h9, .int 0, .int 0, .ref h10, .ref h11, .ref h12, .int 0, .int 0, .ref h13, .ref h14, .ref h15, .ref h16, .ref h17, .int 0, .ref h18, .ref h19, .ref h20]))] _ _ := hw2
  refine lv_if_eq (tgt := 29) hx hb dX12_numbers_14 (by decide) (fun c => absurd c (by decide +kernel)) (fun _ => ?_)
  refine lv_iload_n hx hb dX12_numbers_17 rfl (lv_at hl 2 rfl) ?_
  refine lv_i2l hx hb dX12_numbers_18 rfl ?_
  refine lv_lconst (v := 0) hx hb dX12_numbers_19 (by decide) ?_
  refine lv_ldc2 hx hb hown (ht _ wm_7_29) dX12_numbers_20 ?_
  have g_11896 : (4 : Int64) ≤ ((p0).toInt64) := by
    simp only [Int32.toInt_toInt64, Int64.lt_iff_toInt_lt, Int64.le_iff_toInt_le, ← Int64.toInt_inj, Int32.lt_iff_toInt_lt, Int32.le_iff_toInt_le, ← Int32.toInt_inj] at hlo_p0 ⊢
    have k_0 : (4 : Int32).toInt = 4 := by decide
    have k_g : (4 : Int64).toInt = 4 := by decide
    omega
  refine q_callSi (rest := []) (wr := [(h0, .inr (12, [.int 0, .ref h1, .ref h2, .ref h3, .ref h4, .int 0, .int 0, .int 0, .int 0, .int 0, .int 0, .int 0, .int 0, .int 0, .int (-1), .int 0, .ref h5, .ref h6, .ref h7, .ref h8, .ref h9, .int 0, .int 0, .ref h10, .ref h11, .ref h12, .int 0, .int 0, .ref h13, .ref h14, .ref h15, .ref h16, .ref h17, .int 0, .ref h18, .ref h19, .ref h20]))]) X hK hA hw2 (fun sz => kX12_within_147 l D cy ((p0).toInt64) g_11896 sz) wm_6_50 wm_6_52 wm_1_12 hd_X12_within wm_6_51 ⟨Nat.le_of_ble_eq_true rfl, Nat.le_of_ble_eq_true rfl⟩ hl.1 rfl (Nat.le_of_ble_eq_true rfl) dX12_numbers_23 ⟨Nat.le_of_ble_eq_true rfl, Nat.le_of_ble_eq_true rfl⟩ [] [0] rfl rfl (by decide) rfl rfl (fun r_11897 u_11897 Hp3 lc3 w_11897 hw3 => ?_)
  clear Hp2 lc2 hw2
  obtain rfl : r_11897 = 0 := w_11897
  replace hw3 : qW D _ _ [(h0, .inr (12, [.int 0, .ref h1, .ref h2, .ref h3, .ref h4, .int 0, .int 0, .int 0, .int 0, .int 0, .int 0, .int 0, .int 0, .int 0, .int (-1), .int 0, .ref h5, .ref h6, .ref h7, .ref h8, .ref h9, .int 0, .int 0, .ref h10, .ref h11, .ref h12, .int 0, .int 0, .ref h13, .ref h14, .ref h15, .ref h16, .ref h17, .int 0, .ref h18, .ref h19, .ref h20]))] _ _ := hw3
  refine lv_if_ne (tgt := 32) hx hb dX12_numbers_26 (by decide) (fun c => absurd c (by decide +kernel)) (fun _ => ?_)
  refine lv_bipush (v := (-2)) hx hb dX12_numbers_29 (by decide) ?_
  exact q_iret X hr hlk hK hw3 rfl qu0 rfl [] rfl rfl dX12_numbers_31 (Nat.le_of_ble_eq_true rfl) (Nat.le_of_ble_eq_true rfl)
set_option maxHeartbeats 4000000 in
set_option maxRecDepth 100000 in
theorem kX11_numbers_464 (l : Launch) (D : va_G) (cy : Nat → ClassId) (h0 : Nat) (p0 : Int32) (p1 : Int32) (h1 : Nat) (h2 : Nat) (h3 : Nat) (h4 : Nat) (h5 : Nat) (h6 : Nat) (h7 : Nat) (h8 : Nat) (h9 : Nat) (h10 : Nat) (h11 : Nat) (h12 : Nat) (h13 : Nat) (hhi_p0 : p0 ≤ ((-1) : Int32)) (sz : Nat) : MI l yX11_numbers cX11_numbers 4 .int { frames := 1, cells := 0, slots := 0, locals := 21 } [.ref h0, .int 3, .int p0, .int p1] D cy [(h0, .inr (11, [.ref h1, .int 0, .int 0, .int (-1), .ref h2, .ref h3, .ref h4, .ref h5, .ref h6, .ref h7, .ref h8, .ref h9, .ref h10, .ref h11, .ref h12, .ref h13, .int 0]))] sz (fun r u => r = (-2)) (fun u => []) 0 0 := by
  refine q_ent (own := RX11) (by decide) rfl (Nat.le_of_ble_eq_true rfl) (fun p e s m below meth c ls X hr hlk hnm hK h hA hl => ?_)
  obtain ⟨hx, hb, hml, hown, ht⟩ := id X
  replace hl : lv_has ls 4 [(0, .ref h0), (1, .int 3), (2, .int p0), (3, .int p1)] := hl
  refine lv_aload_n hx hb dX11_numbers_0 rfl (lv_at hl 0 rfl) ?_
  refine lv_iload_n hx hb dX11_numbers_1 rfl (lv_at hl 1 rfl) ?_
  refine q_callVi (rest := []) (wr := []) X hK hA h (fun sz => kX11_isTray_180 l D cy h0 h1 h2 h3 h4 h5 h6 h7 h8 h9 h10 h11 h12 h13  sz) wm_4_83 wm_4_86 wm_1_1 hd_X11_isTray wm_4_85 wp_3_1 (ci := 11) (q0 := 0) rfl rfl ⟨Nat.le_of_ble_eq_true rfl, Nat.le_of_ble_eq_true rfl⟩ hl.1 rfl (Nat.le_of_ble_eq_true rfl) dX11_numbers_2 ⟨Nat.le_of_ble_eq_true rfl, Nat.le_of_ble_eq_true rfl⟩ [0] [] rfl rfl (by decide) rfl rfl (fun r_11938 u_11938 Hp1 lc1 w_11938 hw1 => ?_)
  clear h
  obtain rfl : r_11938 = 1 := w_11938
  replace hw1 : qW D _ _ [(h0, .inr (11, [.ref h1, .int 0, .int 0, .int (-1), .ref h2, .ref h3, .ref h4, .ref h5, .ref h6, .ref h7, .ref h8, .ref h9, .ref h10, .ref h11, .ref h12, .ref h13, .int 0]))] _ _ := hw1
  refine lv_if_eq (tgt := 17) hx hb dX11_numbers_5 (by decide) (fun c => absurd c (by decide +kernel)) (fun _ => ?_)
  refine lv_iload_n hx hb dX11_numbers_8 rfl (lv_at hl 2 rfl) ?_
  refine lv_if_lt (tgt := 17) hx hb dX11_numbers_9 (by decide) (fun c_11939 => ?_) (fun c_11939 => ?_)
  · refine lv_bipush (v := (-2)) hx hb dX11_numbers_17 (by decide) ?_
    exact q_iret X hr hlk hK hw1 rfl qu0 rfl [] rfl rfl dX11_numbers_19 (Nat.le_of_ble_eq_true rfl) (Nat.le_of_ble_eq_true rfl)
  · exfalso
    simp only [Int32.lt_iff_toInt_lt, Int32.le_iff_toInt_le, ← Int32.toInt_inj] at hhi_p0 c_11939
    have k_0 : ((-1) : Int32).toInt = -1 := by decide
    have k_1 : (0 : Int32).toInt = 0 := by decide
    omega
set_option maxHeartbeats 4000000 in
set_option maxRecDepth 100000 in
theorem kX12_numbers_465 (l : Launch) (D : va_G) (cy : Nat → ClassId) (h0 : Nat) (p0 : Int32) (p1 : Int32) (h1 : Nat) (h2 : Nat) (h3 : Nat) (h4 : Nat) (h5 : Nat) (h6 : Nat) (h7 : Nat) (h8 : Nat) (h9 : Nat) (h10 : Nat) (h11 : Nat) (h12 : Nat) (h13 : Nat) (h14 : Nat) (h15 : Nat) (h16 : Nat) (h17 : Nat) (h18 : Nat) (h19 : Nat) (h20 : Nat) (hhi_p0 : p0 ≤ ((-1) : Int32)) (sz : Nat) : MI l yX12_numbers cX12_numbers 5 .int { frames := 1, cells := 0, slots := 0, locals := 25 } [.ref h0, .int 3, .int p0, .int p1] D cy [(h0, .inr (12, [.int 0, .ref h1, .ref h2, .ref h3, .ref h4, .int 0, .int 0, .int 0, .int 0, .int 0, .int 0, .int 0, .int 0, .int 0, .int (-1), .int 0, .ref h5, .ref h6, .ref h7, .ref h8, .ref h9, .int 0, .int 0, .ref h10, .ref h11, .ref h12, .int 0, .int 0, .ref h13, .ref h14, .ref h15, .ref h16, .ref h17, .int 0, .ref h18, .ref h19, .ref h20]))] sz (fun r u => r = (-2)) (fun u => []) 0 0 := by
  refine q_ent (own := RX12) (by decide) rfl (Nat.le_of_ble_eq_true rfl) (fun p e s m below meth c ls X hr hlk hnm hK h hA hl => ?_)
  obtain ⟨hx, hb, hml, hown, ht⟩ := id X
  replace hl : lv_has ls 5 [(0, .ref h0), (1, .int 3), (2, .int p0), (3, .int p1)] := hl
  refine lv_aload_n hx hb dX12_numbers_0 rfl (lv_at hl 0 rfl) ?_
  refine lv_iconst (v := 0) hx hb dX12_numbers_1 (by decide) ?_
  refine q_put (v := .int 0) X hK h 0 rfl rfl wf_12 tyX12 tyX12_ok nmX12 0 (by decide) wm_5_170 rfl rfl rfl (Nat.le_of_ble_eq_true rfl) dX12_numbers_2 (fun Hp1 lc1 hw1 => ?_)
  clear h
  replace hw1 : qW D _ _ [(h0, .inr (12, [.int 0, .ref h1, .ref h2, .ref h3, .ref h4, .int 0, .int 0, .int 0, .int 0, .int 0, .int 0, .int 0, .int 0, .int 0, .int (-1), .int 0, .ref h5, .ref h6, .ref h7, .ref h8, .ref h9, .int 0, .int 0, .ref h10, .ref h11, .ref h12, .int 0, .int 0, .ref h13, .ref h14, .ref h15, .ref h16, .ref h17, .int 0, .ref h18, .ref h19, .ref h20]))] _ _ := hw1
  refine lv_iload_n hx hb dX12_numbers_5 rfl (lv_at hl 1 rfl) ?_
  refine lv_i2l (v := 3) hx hb dX12_numbers_6 (by decide +kernel) ?_
  refine lv_lconst (v := 0) hx hb dX12_numbers_7 (by decide) ?_
  refine lv_ldc2 hx hb hown (ht _ wm_7_29) dX12_numbers_8 ?_
  refine q_callSi (rest := []) (wr := [(h0, .inr (12, [.int 0, .ref h1, .ref h2, .ref h3, .ref h4, .int 0, .int 0, .int 0, .int 0, .int 0, .int 0, .int 0, .int 0, .int 0, .int (-1), .int 0, .ref h5, .ref h6, .ref h7, .ref h8, .ref h9, .int 0, .int 0, .ref h10, .ref h11, .ref h12, .int 0, .int 0, .ref h13, .ref h14, .ref h15, .ref h16, .ref h17, .int 0, .ref h18, .ref h19, .ref h20]))]) X hK hA hw1 (fun sz => kX12_within_184 l D cy   sz) wm_6_50 wm_6_52 wm_1_12 hd_X12_within wm_6_51 ⟨Nat.le_of_ble_eq_true rfl, Nat.le_of_ble_eq_true rfl⟩ hl.1 rfl (Nat.le_of_ble_eq_true rfl) dX12_numbers_11 ⟨Nat.le_of_ble_eq_true rfl, Nat.le_of_ble_eq_true rfl⟩ [] [0] rfl rfl (by decide) rfl rfl (fun r_11948 u_11948 Hp2 lc2 w_11948 hw2 => ?_)
  clear Hp1 lc1 hw1
  obtain rfl : r_11948 = 1 := w_11948
  replace hw2 : qW D _ _ [(h0, .inr (12, [.int 0, .ref h1, .ref h2, .ref h3, .ref h4, .int 0, .int 0, .int 0, .int 0, .int 0, .int 0, .int 0, .int 0, .int 0, .int (-1), .int 0, .ref h5, .ref h6, .ref h7, .ref h8, .ref h9, .int 0, .int 0, .ref h10, .ref h11, .ref h12, .int 0, .int 0, .ref h13, .ref h14, .ref h15, .ref h16, .ref h17, .int 0, .ref h18, .ref h19, .ref h20]))] _ _ := hw2
  refine lv_if_eq (tgt := 29) hx hb dX12_numbers_14 (by decide) (fun c => absurd c (by decide +kernel)) (fun _ => ?_)
  refine lv_iload_n hx hb dX12_numbers_17 rfl (lv_at hl 2 rfl) ?_
  refine lv_i2l hx hb dX12_numbers_18 rfl ?_
  refine lv_lconst (v := 0) hx hb dX12_numbers_19 (by decide) ?_
  refine lv_ldc2 hx hb hown (ht _ wm_7_29) dX12_numbers_20 ?_
  have g_11950 : ((p0).toInt64) ≤ ((-1) : Int64) := by
    simp only [Int32.toInt_toInt64, Int64.lt_iff_toInt_lt, Int64.le_iff_toInt_le, ← Int64.toInt_inj, Int32.lt_iff_toInt_lt, Int32.le_iff_toInt_le, ← Int32.toInt_inj] at hhi_p0 ⊢
    have k_0 : ((-1) : Int32).toInt = -1 := by decide
    have k_g : ((-1) : Int64).toInt = -1 := by decide
    omega
  refine q_callSi (rest := []) (wr := [(h0, .inr (12, [.int 0, .ref h1, .ref h2, .ref h3, .ref h4, .int 0, .int 0, .int 0, .int 0, .int 0, .int 0, .int 0, .int 0, .int 0, .int (-1), .int 0, .ref h5, .ref h6, .ref h7, .ref h8, .ref h9, .int 0, .int 0, .ref h10, .ref h11, .ref h12, .int 0, .int 0, .ref h13, .ref h14, .ref h15, .ref h16, .ref h17, .int 0, .ref h18, .ref h19, .ref h20]))]) X hK hA hw2 (fun sz => kX12_within_140 l D cy ((p0).toInt64) g_11950 sz) wm_6_50 wm_6_52 wm_1_12 hd_X12_within wm_6_51 ⟨Nat.le_of_ble_eq_true rfl, Nat.le_of_ble_eq_true rfl⟩ hl.1 rfl (Nat.le_of_ble_eq_true rfl) dX12_numbers_23 ⟨Nat.le_of_ble_eq_true rfl, Nat.le_of_ble_eq_true rfl⟩ [] [0] rfl rfl (by decide) rfl rfl (fun r_11951 u_11951 Hp3 lc3 w_11951 hw3 => ?_)
  clear Hp2 lc2 hw2
  obtain rfl : r_11951 = 0 := w_11951
  replace hw3 : qW D _ _ [(h0, .inr (12, [.int 0, .ref h1, .ref h2, .ref h3, .ref h4, .int 0, .int 0, .int 0, .int 0, .int 0, .int 0, .int 0, .int 0, .int 0, .int (-1), .int 0, .ref h5, .ref h6, .ref h7, .ref h8, .ref h9, .int 0, .int 0, .ref h10, .ref h11, .ref h12, .int 0, .int 0, .ref h13, .ref h14, .ref h15, .ref h16, .ref h17, .int 0, .ref h18, .ref h19, .ref h20]))] _ _ := hw3
  refine lv_if_ne (tgt := 32) hx hb dX12_numbers_26 (by decide) (fun c => absurd c (by decide +kernel)) (fun _ => ?_)
  refine lv_bipush (v := (-2)) hx hb dX12_numbers_29 (by decide) ?_
  exact q_iret X hr hlk hK hw3 rfl qu0 rfl [] rfl rfl dX12_numbers_31 (Nat.le_of_ble_eq_true rfl) (Nat.le_of_ble_eq_true rfl)
set_option maxHeartbeats 4000000 in
set_option maxRecDepth 100000 in
theorem kX11_numbers_466 (l : Launch) (D : va_G) (cy : Nat → ClassId) (h0 : Nat) (p0 : Int32) (p1 : Int32) (h1 : Nat) (h2 : Nat) (h3 : Nat) (h4 : Nat) (h5 : Nat) (h6 : Nat) (h7 : Nat) (h8 : Nat) (h9 : Nat) (h10 : Nat) (h11 : Nat) (h12 : Nat) (h13 : Nat) (hlo_p0 : (0 : Int32) ≤ p0) (hhi_p0 : p0 ≤ (3 : Int32)) (hhi_p1 : p1 ≤ ((-1) : Int32)) (sz : Nat) : MI l yX11_numbers cX11_numbers 4 .int { frames := 1, cells := 0, slots := 0, locals := 21 } [.ref h0, .int 3, .int p0, .int p1] D cy [(h0, .inr (11, [.ref h1, .int 0, .int 0, .int (-1), .ref h2, .ref h3, .ref h4, .ref h5, .ref h6, .ref h7, .ref h8, .ref h9, .ref h10, .ref h11, .ref h12, .ref h13, .int 0]))] sz (fun r u => r = (-3)) (fun u => []) 0 0 := by
  refine q_ent (own := RX11) (by decide) rfl (Nat.le_of_ble_eq_true rfl) (fun p e s m below meth c ls X hr hlk hnm hK h hA hl => ?_)
  obtain ⟨hx, hb, hml, hown, ht⟩ := id X
  replace hl : lv_has ls 4 [(0, .ref h0), (1, .int 3), (2, .int p0), (3, .int p1)] := hl
  refine lv_aload_n hx hb dX11_numbers_0 rfl (lv_at hl 0 rfl) ?_
  refine lv_iload_n hx hb dX11_numbers_1 rfl (lv_at hl 1 rfl) ?_
  refine q_callVi (rest := []) (wr := []) X hK hA h (fun sz => kX11_isTray_180 l D cy h0 h1 h2 h3 h4 h5 h6 h7 h8 h9 h10 h11 h12 h13  sz) wm_4_83 wm_4_86 wm_1_1 hd_X11_isTray wm_4_85 wp_3_1 (ci := 11) (q0 := 0) rfl rfl ⟨Nat.le_of_ble_eq_true rfl, Nat.le_of_ble_eq_true rfl⟩ hl.1 rfl (Nat.le_of_ble_eq_true rfl) dX11_numbers_2 ⟨Nat.le_of_ble_eq_true rfl, Nat.le_of_ble_eq_true rfl⟩ [0] [] rfl rfl (by decide) rfl rfl (fun r_11994 u_11994 Hp1 lc1 w_11994 hw1 => ?_)
  clear h
  obtain rfl : r_11994 = 1 := w_11994
  replace hw1 : qW D _ _ [(h0, .inr (11, [.ref h1, .int 0, .int 0, .int (-1), .ref h2, .ref h3, .ref h4, .ref h5, .ref h6, .ref h7, .ref h8, .ref h9, .ref h10, .ref h11, .ref h12, .ref h13, .int 0]))] _ _ := hw1
  refine lv_if_eq (tgt := 17) hx hb dX11_numbers_5 (by decide) (fun c => absurd c (by decide +kernel)) (fun _ => ?_)
  refine lv_iload_n hx hb dX11_numbers_8 rfl (lv_at hl 2 rfl) ?_
  refine lv_if_lt (tgt := 17) hx hb dX11_numbers_9 (by decide) (fun c_11995 => ?_) (fun c_11995 => ?_)
  · exfalso
    simp only [Int32.lt_iff_toInt_lt, Int32.le_iff_toInt_le, ← Int32.toInt_inj] at hlo_p0 hhi_p0 c_11995
    have k_0 : (0 : Int32).toInt = 0 := by decide
    have k_1 : (3 : Int32).toInt = 3 := by decide
    omega
  · refine lv_iload_n hx hb dX11_numbers_12 rfl (lv_at hl 2 rfl) ?_
    refine lv_iconst (v := 4) hx hb dX11_numbers_13 (by decide) ?_
    refine lv_icmp_lt (tgt := 20) hx hb dX11_numbers_14 (by decide) (fun c_11996 => ?_) (fun c_11996 => ?_)
    · refine lv_iload_n hx hb dX11_numbers_20 rfl (lv_at hl 3 rfl) ?_
      refine lv_if_lt (tgt := 30) hx hb dX11_numbers_21 (by decide) (fun c_11997 => ?_) (fun c_11997 => ?_)
      · refine lv_bipush (v := (-3)) hx hb dX11_numbers_30 (by decide) ?_
        exact q_iret X hr hlk hK hw1 rfl qu0 rfl [] rfl rfl dX11_numbers_32 (Nat.le_of_ble_eq_true rfl) (Nat.le_of_ble_eq_true rfl)
      · exfalso
        simp only [Int32.lt_iff_toInt_lt, Int32.le_iff_toInt_le, ← Int32.toInt_inj] at hhi_p1 c_11997
        have k_0 : ((-1) : Int32).toInt = -1 := by decide
        have k_1 : (0 : Int32).toInt = 0 := by decide
        omega
    · exfalso
      simp only [Int32.lt_iff_toInt_lt, Int32.le_iff_toInt_le, ← Int32.toInt_inj] at hlo_p0 hhi_p0 c_11995 c_11996
      have k_0 : (0 : Int32).toInt = 0 := by decide
      have k_1 : (3 : Int32).toInt = 3 := by decide
      have k_2 : (4 : Int32).toInt = 4 := by decide
      omega
