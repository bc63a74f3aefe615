set_option maxHeartbeats 4000000 in
set_option maxRecDepth 100000 in
theorem kX12_numbers_530 (l : Launch) (D : va_G) (cy : Nat → ClassId) (h0 : Nat) (p0 : Int32) (p1 : Int32) (h1 : Nat) (h2 : Nat) (h3 : Nat) (h4 : Nat) (h5 : Nat) (h6 : Nat) (h7 : Nat) (h8 : Nat) (h9 : Nat) (h10 : Nat) (h11 : Nat) (h12 : Nat) (h13 : Nat) (h14 : Nat) (h15 : Nat) (h16 : Nat) (h17 : Nat) (h18 : Nat) (h19 : Nat) (h20 : Nat) (hlo_p0 : (4 : Int32) ≤ p0) (sz : Nat) : MI l yX12_numbers cX12_numbers 5 .int { frames := 1, cells := 0, slots := 0, locals := 25 } [.ref h0, .int 0, .int p0, .int p1] D cy [(h0, .inr (12, [.int 0, .ref h1, .ref h2, .ref h3, .ref h4, .int 0, .int 0, .int 0, .int 0, .int 0, .int 0, .int 0, .int 0, .int 0, .int (-1), .int 0, .ref h5, .ref h6, .ref h7, .ref h8, .ref h9, .int 0, .int 0, .ref h10, .ref h11, .ref h12, .int 0, .int 0, .ref h13, .ref h14, .ref h15, .ref h16, .ref h17, .int 0, .ref h18, .ref h19, .ref h20]))] sz (fun r u => r = (-2)) (fun u => []) 0 0 := by
  refine q_ent (own := RX12) (by decide) rfl (Nat.le_of_ble_eq_true rfl) (fun p e s m below meth c ls X hr hlk hnm hK h hA hl => ?_)
  obtain ⟨hx, hb, hml, hown, ht⟩ := id X
  replace hl : lv_has ls 5 [(0, .ref h0), (1, .int 0), (2, .int p0), (3, .int p1)] := hl
  refine lv_aload_n hx hb dX12_numbers_0 rfl (lv_at hl 0 rfl) ?_
  refine lv_iconst (v := 0) hx hb dX12_numbers_1 (by decide) ?_
  refine q_put (v := .int 0) X hK h 0 rfl rfl wf_12 tyX12 tyX12_ok nmX12 0 (by decide) wm_5_170 rfl rfl rfl (Nat.le_of_ble_eq_true rfl) dX12_numbers_2 (fun Hp1 lc1 hw1 => ?_)
  clear h
  replace hw1 : qW D _ _ [(h0, .inr (12, [.int 0, .ref h1, .ref h2, .ref h3, .ref h4, .int 0, .int 0, .int 0, .int 0, .int 0, .int 0, .int 0, .int 0, .int 0, .int (-1), .int 0, .ref h5, .ref h6, .ref h7, .ref h8, .ref h9, .int 0, .int 0, .ref h10, .ref h11, .ref h12, .int 0, .int 0, .ref h13, .ref h14, .ref h15, .ref h16, .ref h17, .int 0, .ref h18, .ref h19, .ref h20]))] _ _ := hw1
  refine lv_iload_n hx hb dX12_numbers_5 rfl (lv_at hl 1 rfl) ?_
  refine lv_i2l (v := 0) hx hb dX12_numbers_6 (by decide +kernel) ?_
  refine lv_lconst (v := 0) hx hb dX12_numbers_7 (by decide) ?_
  refine lv_ldc2 hx hb hown (ht _ wm_7_29) dX12_numbers_8 ?_
  refine q_callSi (rest := []) (wr := [(h0, .inr (12, [.int 0, .ref h1, .ref h2, .ref h3, .ref h4, .int 0, .int 0, .int 0, .int 0, .int 0, .int 0, .int 0, .int 0, .int 0, .int (-1), .int 0, .ref h5, .ref h6, .ref h7, .ref h8, .ref h9, .int 0, .int 0, .ref h10, .ref h11, .ref h12, .int 0, .int 0, .ref h13, .ref h14, .ref h15, .ref h16, .ref h17, .int 0, .ref h18, .ref h19, .ref h20]))]) X hK hA hw1 (fun sz => kX12_within_154 l D cy   sz) wm_6_50 wm_6_52 wm_1_12 hd_X12_within wm_6_51 ⟨Nat.le_of_ble_eq_true rfl, Nat.le_of_ble_eq_true rfl⟩ hl.1 rfl (Nat.le_of_ble_eq_true rfl) dX12_numbers_11 ⟨Nat.le_of_ble_eq_true rfl, Nat.le_of_ble_eq_true rfl⟩ [] [0] rfl rfl (by decide) rfl rfl (fun r_12524 u_12524 Hp2 lc2 w_12524 hw2 => ?_)
  clear Hp1 lc1 hw1
  obtain rfl : r_12524 = 1 := w_12524
  clear w_12524
  replace hw2 : qW D _ _ [(h0, .inr (12, [.int 0, .ref h1, .ref h2, .ref h3, .ref h4, .int 0, .int 0, .int 0, .int 0, .int 0, .int 0, .int 0, .int 0, .int 0, .int (-1), .int 0, .ref h5, .ref h6, .ref h7, .ref h8, .ref h9, .int 0, .int 0, .ref h10, .ref h11, .ref h12, .int 0, .int 0, .ref h13, .ref h14, .ref h15, .ref h16, .ref h17, .int 0, .ref h18, .ref h19, .ref h20]))] _ _ := hw2
  refine lv_if_eq (tgt := 29) hx hb dX12_numbers_14 (by decide) (fun c => absurd c (by decide +kernel)) (fun _ => ?_)
  refine lv_iload_n hx hb dX12_numbers_17 rfl (lv_at hl 2 rfl) ?_
  refine lv_i2l hx hb dX12_numbers_18 rfl ?_
  refine lv_lconst (v := 0) hx hb dX12_numbers_19 (by decide) ?_
  refine lv_ldc2 hx hb hown (ht _ wm_7_29) dX12_numbers_20 ?_
  have g_12527 : (4 : Int64) ≤ ((p0).toInt64) := by
    simp only [q_lc_lt, q_lc_ge, q_lc_gt, q_lc_le, q_lc_eq, Int32.toInt_toInt64, Int64.lt_iff_toInt_lt, Int64.le_iff_toInt_le, ← Int64.toInt_inj, Int32.lt_iff_toInt_lt, Int32.le_iff_toInt_le, ← Int32.toInt_inj] at hlo_p0 ⊢
    have k_0 : (4 : Int32).toInt = 4 := by decide
    have k_g : (4 : Int64).toInt = 4 := by decide
    omega
  refine q_callSi (rest := []) (wr := [(h0, .inr (12, [.int 0, .ref h1, .ref h2, .ref h3, .ref h4, .int 0, .int 0, .int 0, .int 0, .int 0, .int 0, .int 0, .int 0, .int 0, .int (-1), .int 0, .ref h5, .ref h6, .ref h7, .ref h8, .ref h9, .int 0, .int 0, .ref h10, .ref h11, .ref h12, .int 0, .int 0, .ref h13, .ref h14, .ref h15, .ref h16, .ref h17, .int 0, .ref h18, .ref h19, .ref h20]))]) X hK hA hw2 (fun sz => kX12_within_147 l D cy ((p0).toInt64) g_12527 sz) wm_6_50 wm_6_52 wm_1_12 hd_X12_within wm_6_51 ⟨Nat.le_of_ble_eq_true rfl, Nat.le_of_ble_eq_true rfl⟩ hl.1 rfl (Nat.le_of_ble_eq_true rfl) dX12_numbers_23 ⟨Nat.le_of_ble_eq_true rfl, Nat.le_of_ble_eq_true rfl⟩ [] [0] rfl rfl (by decide) rfl rfl (fun r_12528 u_12528 Hp3 lc3 w_12528 hw3 => ?_)
  clear Hp2 lc2 hw2
  obtain rfl : r_12528 = 0 := w_12528
  clear w_12528
  replace hw3 : qW D _ _ [(h0, .inr (12, [.int 0, .ref h1, .ref h2, .ref h3, .ref h4, .int 0, .int 0, .int 0, .int 0, .int 0, .int 0, .int 0, .int 0, .int 0, .int (-1), .int 0, .ref h5, .ref h6, .ref h7, .ref h8, .ref h9, .int 0, .int 0, .ref h10, .ref h11, .ref h12, .int 0, .int 0, .ref h13, .ref h14, .ref h15, .ref h16, .ref h17, .int 0, .ref h18, .ref h19, .ref h20]))] _ _ := hw3
  refine lv_if_ne (tgt := 32) hx hb dX12_numbers_26 (by decide) (fun c => absurd c (by decide +kernel)) (fun _ => ?_)
  refine lv_bipush (v := (-2)) hx hb dX12_numbers_29 (by decide) ?_
  exact q_iret X hr hlk hK hw3 rfl qu0 rfl [] rfl rfl dX12_numbers_31 (Nat.le_of_ble_eq_true rfl) (Nat.le_of_ble_eq_true rfl)
set_option maxHeartbeats 4000000 in
set_option maxRecDepth 100000 in
theorem kX11_numbers_531 (l : Launch) (D : va_G) (cy : Nat → ClassId) (h0 : Nat) (p0 : Int32) (p1 : Int32) (h1 : Nat) (h2 : Nat) (h3 : Nat) (h4 : Nat) (h5 : Nat) (h6 : Nat) (h7 : Nat) (h8 : Nat) (h9 : Nat) (h10 : Nat) (h11 : Nat) (h12 : Nat) (h13 : Nat) (hhi_p0 : p0 ≤ ((-1) : Int32)) (sz : Nat) : MI l yX11_numbers cX11_numbers 4 .int { frames := 1, cells := 0, slots := 0, locals := 21 } [.ref h0, .int 1, .int p0, .int p1] D cy [(h0, .inr (11, [.ref h1, .int 0, .int 0, .int (-1), .ref h2, .ref h3, .ref h4, .ref h5, .ref h6, .ref h7, .ref h8, .ref h9, .ref h10, .ref h11, .ref h12, .ref h13, .int 0]))] sz (fun r u => r = (-2)) (fun u => []) 0 0 := by
  refine q_ent (own := RX11) (by decide) rfl (Nat.le_of_ble_eq_true rfl) (fun p e s m below meth c ls X hr hlk hnm hK h hA hl => ?_)
  obtain ⟨hx, hb, hml, hown, ht⟩ := id X
  replace hl : lv_has ls 4 [(0, .ref h0), (1, .int 1), (2, .int p0), (3, .int p1)] := hl
  refine lv_aload_n hx hb dX11_numbers_0 rfl (lv_at hl 0 rfl) ?_
  refine lv_iload_n hx hb dX11_numbers_1 rfl (lv_at hl 1 rfl) ?_
  refine q_callVi (rest := []) (wr := []) X hK hA h (fun sz => kX11_isTray_160 l D cy h0 h1 h2 h3 h4 h5 h6 h7 h8 h9 h10 h11 h12 h13  sz) wm_4_83 wm_4_86 wm_1_1 hd_X11_isTray wm_4_85 wp_3_1 (ci := 11) (q0 := 0) rfl rfl ⟨Nat.le_of_ble_eq_true rfl, Nat.le_of_ble_eq_true rfl⟩ hl.1 rfl (Nat.le_of_ble_eq_true rfl) dX11_numbers_2 ⟨Nat.le_of_ble_eq_true rfl, Nat.le_of_ble_eq_true rfl⟩ [0] [] rfl rfl (by decide) rfl rfl (fun r_12569 u_12569 Hp1 lc1 w_12569 hw1 => ?_)
  clear h
  obtain rfl : r_12569 = 1 := w_12569
  clear w_12569
  replace hw1 : qW D _ _ [(h0, .inr (11, [.ref h1, .int 0, .int 0, .int (-1), .ref h2, .ref h3, .ref h4, .ref h5, .ref h6, .ref h7, .ref h8, .ref h9, .ref h10, .ref h11, .ref h12, .ref h13, .int 0]))] _ _ := hw1
  refine lv_if_eq (tgt := 17) hx hb dX11_numbers_5 (by decide) (fun c => absurd c (by decide +kernel)) (fun _ => ?_)
  refine lv_iload_n hx hb dX11_numbers_8 rfl (lv_at hl 2 rfl) ?_
  refine lv_if_lt (tgt := 17) hx hb dX11_numbers_9 (by decide) (fun c_12570 => ?_) (fun c_12570 => ?_)
  · refine lv_bipush (v := (-2)) hx hb dX11_numbers_17 (by decide) ?_
    exact q_iret X hr hlk hK hw1 rfl qu0 rfl [] rfl rfl dX11_numbers_19 (Nat.le_of_ble_eq_true rfl) (Nat.le_of_ble_eq_true rfl)
  · exfalso
    simp only [Int32.lt_iff_toInt_lt, Int32.le_iff_toInt_le, ← Int32.toInt_inj] at hhi_p0 c_12570
    have k_0 : ((-1) : Int32).toInt = -1 := by decide
    have k_1 : (0 : Int32).toInt = 0 := by decide
    omega
set_option maxHeartbeats 4000000 in
set_option maxRecDepth 100000 in
theorem kX12_numbers_532 (l : Launch) (D : va_G) (cy : Nat → ClassId) (h0 : Nat) (p0 : Int32) (p1 : Int32) (h1 : Nat) (h2 : Nat) (h3 : Nat) (h4 : Nat) (h5 : Nat) (h6 : Nat) (h7 : Nat) (h8 : Nat) (h9 : Nat) (h10 : Nat) (h11 : Nat) (h12 : Nat) (h13 : Nat) (h14 : Nat) (h15 : Nat) (h16 : Nat) (h17 : Nat) (h18 : Nat) (h19 : Nat) (h20 : Nat) (hhi_p0 : p0 ≤ ((-1) : Int32)) (sz : Nat) : MI l yX12_numbers cX12_numbers 5 .int { frames := 1, cells := 0, slots := 0, locals := 25 } [.ref h0, .int 1, .int p0, .int p1] D cy [(h0, .inr (12, [.int 0, .ref h1, .ref h2, .ref h3, .ref h4, .int 0, .int 0, .int 0, .int 0, .int 0, .int 0, .int 0, .int 0, .int 0, .int (-1), .int 0, .ref h5, .ref h6, .ref h7, .ref h8, .ref h9, .int 0, .int 0, .ref h10, .ref h11, .ref h12, .int 0, .int 0, .ref h13, .ref h14, .ref h15, .ref h16, .ref h17, .int 0, .ref h18, .ref h19, .ref h20]))] sz (fun r u => r = (-2)) (fun u => []) 0 0 := by
  refine q_ent (own := RX12) (by decide) rfl (Nat.le_of_ble_eq_true rfl) (fun p e s m below meth c ls X hr hlk hnm hK h hA hl => ?_)
  obtain ⟨hx, hb, hml, hown, ht⟩ := id X
  replace hl : lv_has ls 5 [(0, .ref h0), (1, .int 1), (2, .int p0), (3, .int p1)] := hl
  refine lv_aload_n hx hb dX12_numbers_0 rfl (lv_at hl 0 rfl) ?_
  refine lv_iconst (v := 0) hx hb dX12_numbers_1 (by decide) ?_
  refine q_put (v := .int 0) X hK h 0 rfl rfl wf_12 tyX12 tyX12_ok nmX12 0 (by decide) wm_5_170 rfl rfl rfl (Nat.le_of_ble_eq_true rfl) dX12_numbers_2 (fun Hp1 lc1 hw1 => ?_)
  clear h
  replace hw1 : qW D _ _ [(h0, .inr (12, [.int 0, .ref h1, .ref h2, .ref h3, .ref h4, .int 0, .int 0, .int 0, .int 0, .int 0, .int 0, .int 0, .int 0, .int 0, .int (-1), .int 0, .ref h5, .ref h6, .ref h7, .ref h8, .ref h9, .int 0, .int 0, .ref h10, .ref h11, .ref h12, .int 0, .int 0, .ref h13, .ref h14, .ref h15, .ref h16, .ref h17, .int 0, .ref h18, .ref h19, .ref h20]))] _ _ := hw1
  refine lv_iload_n hx hb dX12_numbers_5 rfl (lv_at hl 1 rfl) ?_
  refine lv_i2l (v := 1) hx hb dX12_numbers_6 (by decide +kernel) ?_
  refine lv_lconst (v := 0) hx hb dX12_numbers_7 (by decide) ?_
  refine lv_ldc2 hx hb hown (ht _ wm_7_29) dX12_numbers_8 ?_
  refine q_callSi (rest := []) (wr := [(h0, .inr (12, [.int 0, .ref h1, .ref h2, .ref h3, .ref h4, .int 0, .int 0, .int 0, .int 0, .int 0, .int 0, .int 0, .int 0, .int 0, .int (-1), .int 0, .ref h5, .ref h6, .ref h7, .ref h8, .ref h9, .int 0, .int 0, .ref h10, .ref h11, .ref h12, .int 0, .int 0, .ref h13, .ref h14, .ref h15, .ref h16, .ref h17, .int 0, .ref h18, .ref h19, .ref h20]))]) X hK hA hw1 (fun sz => kX12_within_164 l D cy   sz) wm_6_50 wm_6_52 wm_1_12 hd_X12_within wm_6_51 ⟨Nat.le_of_ble_eq_true rfl, Nat.le_of_ble_eq_true rfl⟩ hl.1 rfl (Nat.le_of_ble_eq_true rfl) dX12_numbers_11 ⟨Nat.le_of_ble_eq_true rfl, Nat.le_of_ble_eq_true rfl⟩ [] [0] rfl rfl (by decide) rfl rfl (fun r_12579 u_12579 Hp2 lc2 w_12579 hw2 => ?_)
  clear Hp1 lc1 hw1
  obtain rfl : r_12579 = 1 := w_12579
  clear w_12579
  replace hw2 : qW D _ _ [(h0, .inr (12, [.int 0, .ref h1, .ref h2, .ref h3, .ref h4, .int 0, .int 0, .int 0, .int 0, .int 0, .int 0, .int 0, .int 0, .int 0, .int (-1), .int 0, .ref h5, .ref h6, .ref h7, .ref h8, .ref h9, .int 0, .int 0, .ref h10, .ref h11, .ref h12, .int 0, .int 0, .ref h13, .ref h14, .ref h15, .ref h16, .ref h17, .int 0, .ref h18, .ref h19, .ref h20]))] _ _ := hw2
  refine lv_if_eq (tgt := 29) hx hb dX12_numbers_14 (by decide) (fun c => absurd c (by decide +kernel)) (fun _ => ?_)
  refine lv_iload_n hx hb dX12_numbers_17 rfl (lv_at hl 2 rfl) ?_
  refine lv_i2l hx hb dX12_numbers_18 rfl ?_
  refine lv_lconst (v := 0) hx hb dX12_numbers_19 (by decide) ?_
  refine lv_ldc2 hx hb hown (ht _ wm_7_29) dX12_numbers_20 ?_
  have g_12581 : ((p0).toInt64) ≤ ((-1) : Int64) := by
    simp only [q_lc_lt, q_lc_ge, q_lc_gt, q_lc_le, q_lc_eq, Int32.toInt_toInt64, Int64.lt_iff_toInt_lt, Int64.le_iff_toInt_le, ← Int64.toInt_inj, Int32.lt_iff_toInt_lt, Int32.le_iff_toInt_le, ← Int32.toInt_inj] at hhi_p0 ⊢
    have k_0 : ((-1) : Int32).toInt = -1 := by decide
    have k_g : ((-1) : Int64).toInt = -1 := by decide
    omega
  refine q_callSi (rest := []) (wr := [(h0, .inr (12, [.int 0, .ref h1, .ref h2, .ref h3, .ref h4, .int 0, .int 0, .int 0, .int 0, .int 0, .int 0, .int 0, .int 0, .int 0, .int (-1), .int 0, .ref h5, .ref h6, .ref h7, .ref h8, .ref h9, .int 0, .int 0, .ref h10, .ref h11, .ref h12, .int 0, .int 0, .ref h13, .ref h14, .ref h15, .ref h16, .ref h17, .int 0, .ref h18, .ref h19, .ref h20]))]) X hK hA hw2 (fun sz => kX12_within_140 l D cy ((p0).toInt64) g_12581 sz) wm_6_50 wm_6_52 wm_1_12 hd_X12_within wm_6_51 ⟨Nat.le_of_ble_eq_true rfl, Nat.le_of_ble_eq_true rfl⟩ hl.1 rfl (Nat.le_of_ble_eq_true rfl) dX12_numbers_23 ⟨Nat.le_of_ble_eq_true rfl, Nat.le_of_ble_eq_true rfl⟩ [] [0] rfl rfl (by decide) rfl rfl (fun r_12582 u_12582 Hp3 lc3 w_12582 hw3 => ?_)
  clear Hp2 lc2 hw2
  obtain rfl : r_12582 = 0 := w_12582
  clear w_12582
  replace hw3 : qW D _ _ [(h0, .inr (12, [.int 0, .ref h1, .ref h2, .ref h3, .ref h4, .int 0, .int 0, .int 0, .int 0, .int 0, .int 0, .int 0, .int 0, .int 0, .int (-1), .int 0, .ref h5, .ref h6, .ref h7, .ref h8, .ref h9, .int 0, .int 0, .ref h10, .ref h11, .ref h12, .int 0, .int 0, .ref h13, .ref h14, .ref h15, .ref h16, .ref h17, .int 0, .ref h18, .ref h19, .ref h20]))] _ _ := hw3
  refine lv_if_ne (tgt := 32) hx hb dX12_numbers_26 (by decide) (fun c => absurd c (by decide +kernel)) (fun _ => ?_)
  refine lv_bipush (v := (-2)) hx hb dX12_numbers_29 (by decide) ?_
  exact q_iret X hr hlk hK hw3 rfl qu0 rfl [] rfl rfl dX12_numbers_31 (Nat.le_of_ble_eq_true rfl) (Nat.le_of_ble_eq_true rfl)
set_option maxHeartbeats 4000000 in
set_option maxRecDepth 100000 in
theorem kX11_numbers_533 (l : Launch) (D : va_G) (cy : Nat → ClassId) (h0 : Nat) (p0 : Int32) (p1 : Int32) (h1 : Nat) (h2 : Nat) (h3 : Nat) (h4 : Nat) (h5 : Nat) (h6 : Nat) (h7 : Nat) (h8 : Nat) (h9 : Nat) (h10 : Nat) (h11 : Nat) (h12 : Nat) (h13 : Nat) (hlo_p0 : (0 : Int32) ≤ p0) (hhi_p0 : p0 ≤ (3 : Int32)) (hhi_p1 : p1 ≤ ((-1) : Int32)) (sz : Nat) : MI l yX11_numbers cX11_numbers 4 .int { frames := 1, cells := 0, slots := 0, locals := 21 } [.ref h0, .int 1, .int p0, .int p1] D cy [(h0, .inr (11, [.ref h1, .int 0, .int 0, .int (-1), .ref h2, .ref h3, .ref h4, .ref h5, .ref h6, .ref h7, .ref h8, .ref h9, .ref h10, .ref h11, .ref h12, .ref h13, .int 0]))] sz (fun r u => r = (-3)) (fun u => []) 0 0 := by
  refine q_ent (own := RX11) (by decide) rfl (Nat.le_of_ble_eq_true rfl) (fun p e s m below meth c ls X hr hlk hnm hK h hA hl => ?_)
  obtain ⟨hx, hb, hml, hown, ht⟩ := id X
  replace hl : lv_has ls 4 [(0, .ref h0), (1, .int 1), (2, .int p0), (3, .int p1)] := hl
  refine lv_aload_n hx hb dX11_numbers_0 rfl (lv_at hl 0 rfl) ?_
  refine lv_iload_n hx hb dX11_numbers_1 rfl (lv_at hl 1 rfl) ?_
  refine q_callVi (rest := []) (wr := []) X hK hA h (fun sz => kX11_isTray_160 l D cy h0 h1 h2 h3 h4 h5 h6 h7 h8 h9 h10 h11 h12 h13  sz) wm_4_83 wm_4_86 wm_1_1 hd_X11_isTray wm_4_85 wp_3_1 (ci := 11) (q0 := 0) rfl rfl ⟨Nat.le_of_ble_eq_true rfl, Nat.le_of_ble_eq_true rfl⟩ hl.1 rfl (Nat.le_of_ble_eq_true rfl) dX11_numbers_2 ⟨Nat.le_of_ble_eq_true rfl, Nat.le_of_ble_eq_true rfl⟩ [0] [] rfl rfl (by decide) rfl rfl (fun r_12625 u_12625 Hp1 lc1 w_12625 hw1 => ?_)
  clear h
  obtain rfl : r_12625 = 1 := w_12625
  clear w_12625
  replace hw1 : qW D _ _ [(h0, .inr (11, [.ref h1, .int 0, .int 0, .int (-1), .ref h2, .ref h3, .ref h4, .ref h5, .ref h6, .ref h7, .ref h8, .ref h9, .ref h10, .ref h11, .ref h12, .ref h13, .int 0]))] _ _ := hw1
  refine lv_if_eq (tgt := 17) hx hb dX11_numbers_5 (by decide) (fun c => absurd c (by decide +kernel)) (fun _ => ?_)
  refine lv_iload_n hx hb dX11_numbers_8 rfl (lv_at hl 2 rfl) ?_
  refine lv_if_lt (tgt := 17) hx hb dX11_numbers_9 (by decide) (fun c_12626 => ?_) (fun c_12626 => ?_)
  · exfalso
    simp only [Int32.lt_iff_toInt_lt, Int32.le_iff_toInt_le, ← Int32.toInt_inj] at hlo_p0 hhi_p0 c_12626
    have k_0 : (0 : Int32).toInt = 0 := by decide
    have k_1 : (3 : Int32).toInt = 3 := by decide
    omega
  · refine lv_iload_n hx hb dX11_numbers_12 rfl (lv_at hl 2 rfl) ?_
    refine lv_iconst (v := 4) hx hb dX11_numbers_13 (by decide) ?_
    refine lv_icmp_lt (tgt := 20) hx hb dX11_numbers_14 (by decide) (fun c_12627 => ?_) (fun c_12627 => ?_)
    · refine lv_iload_n hx hb dX11_numbers_20 rfl (lv_at hl 3 rfl) ?_
      refine lv_if_lt (tgt := 30) hx hb dX11_numbers_21 (by decide) (fun c_12628 => ?_) (fun c_12628 => ?_)
      · refine lv_bipush (v := (-3)) hx hb dX11_numbers_30 (by decide) ?_
        exact q_iret X hr hlk hK hw1 rfl qu0 rfl [] rfl rfl dX11_numbers_32 (Nat.le_of_ble_eq_true rfl) (Nat.le_of_ble_eq_true rfl)
      · exfalso
        simp only [Int32.lt_iff_toInt_lt, Int32.le_iff_toInt_le, ← Int32.toInt_inj] at hhi_p1 c_12628
        have k_0 : ((-1) : Int32).toInt = -1 := by decide
        have k_1 : (0 : Int32).toInt = 0 := by decide
        omega
    · exfalso
      simp only [Int32.lt_iff_toInt_lt, Int32.le_iff_toInt_le, ← Int32.toInt_inj] at hlo_p0 hhi_p0 c_12626 c_12627
      have k_0 : (0 : Int32).toInt = 0 := by decide
      have k_1 : (3 : Int32).toInt = 3 := by decide
      have k_2 : (4 : Int32).toInt = 4 := by decide
      omega
set_option maxHeartbeats 4000000 in
set_option maxRecDepth 100000 in
theorem kX12_numbers_534 (l : Launch) (D : va_G) (cy : Nat → ClassId) (h0 : Nat) (p0 : Int32) (p1 : Int32) (h1 : Nat) (h2 : Nat) (h3 : Nat) (h4 : Nat) (h5 : Nat) (h6 : Nat) (h7 : Nat) (h8 : Nat) (h9 : Nat) (h10 : Nat) (h11 : Nat) (h12 : Nat) (h13 : Nat) (h14 : Nat) (h15 : Nat) (h16 : Nat) (h17 : Nat) (h18 : Nat) (h19 : Nat) (h20 : Nat) (hlo_p0 : (0 : Int32) ≤ p0) (hhi_p0 : p0 ≤ (3 : Int32)) (hhi_p1 : p1 ≤ ((-1) : Int32)) (sz : Nat) : MI l yX12_numbers cX12_numbers 5 .int { frames := 1, cells := 0, slots := 0, locals := 25 } [.ref h0, .int 1, .int p0, .int p1] D cy [(h0, .inr (12, [.int 0, .ref h1, .ref h2, .ref h3, .ref h4, .int 0, .int 0, .int 0, .int 0, .int 0, .int 0, .int 0, .int 0, .int 0, .int (-1), .int 0, .ref h5, .ref h6, .ref h7, .ref h8, .ref h9, .int 0, .int 0, .ref h10, .ref h11, .ref h12, .int 0, .int 0, .ref h13, .ref h14, .ref h15, .ref h16, .ref h17, .int 0, .ref h18, .ref h19, .ref h20]))] sz (fun r u => r = (-3)) (fun u => []) 0 0 := by
  refine q_ent (own := RX12) (by decide) rfl (Nat.le_of_ble_eq_true rfl) (fun p e s m below meth c ls X hr hlk hnm hK h hA hl => ?_)
  obtain ⟨hx, hb, hml, hown, ht⟩ := id X
  replace hl : lv_has ls 5 [(0, .ref h0), (1, .int 1), (2, .int p0), (3, .int p1)] := hl
  refine lv_aload_n hx hb dX12_numbers_0 rfl (lv_at hl 0 rfl) ?_
  refine lv_iconst (v := 0) hx hb dX12_numbers_1 (by decide) ?_
  refine q_put (v := .int 0) X hK h 0 rfl rfl wf_12 tyX12 tyX12_ok nmX12 0 (by decide) wm_5_170 rfl rfl rfl (Nat.le_of_ble_eq_true rfl) dX12_numbers_2 (fun Hp1 lc1 hw1 => ?_)
  clear h
  replace hw1 : qW D _ _ [(h0, .inr (12, [.int 0, .ref h1, .ref h2, .ref h3, .ref h4, .int 0, .int 0, .int 0, .int 0, .int 0, .int 0, .int 0, .int 0, .int 0, .int (-1), .int 0, .ref h5, .ref h6, .ref h7, .ref h8, .ref h9, .int 0, .int 0, .ref h10, .ref h11, .ref h12, .int 0, .int 0, .ref h13, .ref h14, .ref h15, .ref h16, .ref h17, .int 0, .ref h18, .ref h19, .ref h20]))] _ _ := hw1
  refine lv_iload_n hx hb dX12_numbers_5 rfl (lv_at hl 1 rfl) ?_
  refine lv_i2l (v := 1) hx hb dX12_numbers_6 (by decide +kernel) ?_
  refine lv_lconst (v := 0) hx hb dX12_numbers_7 (by decide) ?_
  refine lv_ldc2 hx hb hown (ht _ wm_7_29) dX12_numbers_8 ?_
  refine q_callSi (rest := []) (wr := [(h0, .inr (12, [.int 0, .ref h1, .ref h2, .ref h3, .ref h4, .int 0, .int 0, .int 0, .int 0, .int 0, .int 0, .int 0, .int 0, .int 0, .int (-1), .int 0, .ref h5, .ref h6, .ref h7, .ref h8, .ref h9, .int 0, .int 0, .ref h10, .ref h11, .ref h12, .int 0, .int 0, .ref h13, .ref h14, .ref h15, .ref h16, .ref h17, .int 0, .ref h18, .ref h19, .ref h20]))]) X hK hA hw1 (fun sz => kX12_within_164 l D cy   sz) wm_6_50 wm_6_52 wm_1_12 hd_X12_within wm_6_51 ⟨Nat.le_of_ble_eq_true rfl, Nat.le_of_ble_eq_true rfl⟩ hl.1 rfl (Nat.le_of_ble_eq_true rfl) dX12_numbers_11 ⟨Nat.le_of_ble_eq_true rfl, Nat.le_of_ble_eq_true rfl⟩ [] [0] rfl rfl (by decide) rfl rfl (fun r_12647 u_12647 Hp2 lc2 w_12647 hw2 => ?_)
  clear Hp1 lc1 hw1
  obtain rfl : r_12647 = 1 := w_12647
  clear w_12647
  replace hw2 : qW D _ _ [(h0, .inr (12, [.int 0, .ref h1, .ref h2, .ref h3, .ref h4, .int 0, .int 0, .int 0, .int 0, .int 0, .int 0, .int 0, .int 0, .int 0, .int (-1), .int 0, .ref h5, .ref h6, .ref h7, .ref h8, .ref h9, .int 0, .int 0, .ref h10, .ref h11, .ref h12, .int 0, .int 0, .ref h13, .ref h14, .ref h15, .ref h16, .ref h17, .int 0, .ref h18, .ref h19, .ref h20]))] _ _ := hw2
  refine lv_if_eq (tgt := 29) hx hb dX12_numbers_14 (by decide) (fun c => absurd c (by decide +kernel)) (fun _ => ?_)
  refine lv_iload_n hx hb dX12_numbers_17 rfl (lv_at hl 2 rfl) ?_
  refine lv_i2l hx hb dX12_numbers_18 rfl ?_
  refine lv_lconst (v := 0) hx hb dX12_numbers_19 (by decide) ?_
  refine lv_ldc2 hx hb hown (ht _ wm_7_29) dX12_numbers_20 ?_
  have g_12650 : (0 : Int64) ≤ ((p0).toInt64) := by
    simp only [q_lc_lt, q_lc_ge, q_lc_gt, q_lc_le, q_lc_eq, Int32.toInt_toInt64, Int64.lt_iff_toInt_lt, Int64.le_iff_toInt_le, ← Int64.toInt_inj, Int32.lt_iff_toInt_lt, Int32.le_iff_toInt_le, ← Int32.toInt_inj] at hlo_p0 hhi_p0 ⊢
    have k_0 : (0 : Int32).toInt = 0 := by decide
    have k_1 : (3 : Int32).toInt = 3 := by decide
    have k_g : (0 : Int64).toInt = 0 := by decide
    omega
  have g_12651 : ((p0).toInt64) ≤ (3 : Int64) := by
    simp only [q_lc_lt, q_lc_ge, q_lc_gt, q_lc_le, q_lc_eq, Int32.toInt_toInt64, Int64.lt_iff_toInt_lt, Int64.le_iff_toInt_le, ← Int64.toInt_inj, Int32.lt_iff_toInt_lt, Int32.le_iff_toInt_le, ← Int32.toInt_inj] at hlo_p0 hhi_p0 ⊢
    have k_0 : (0 : Int32).toInt = 0 := by decide
    have k_1 : (3 : Int32).toInt = 3 := by decide
    have k_g : (3 : Int64).toInt = 3 := by decide
    omega
  refine q_callSi (rest := []) (wr := [(h0, .inr (12, [.int 0, .ref h1, .ref h2, .ref h3, .ref h4, .int 0, .int 0, .int 0, .int 0, .int 0, .int 0, .int 0, .int 0, .int 0, .int (-1), .int 0, .ref h5, .ref h6, .ref h7, .ref h8, .ref h9, .int 0, .int 0, .ref h10, .ref h11, .ref h12, .int 0, .int 0, .ref h13, .ref h14, .ref h15, .ref h16, .ref h17, .int 0, .ref h18, .ref h19, .ref h20]))]) X hK hA hw2 (fun sz => kX12_within_143 l D cy ((p0).toInt64) g_12650 g_12651 sz) wm_6_50 wm_6_52 wm_1_12 hd_X12_within wm_6_51 ⟨Nat.le_of_ble_eq_true rfl, Nat.le_of_ble_eq_true rfl⟩ hl.1 rfl (Nat.le_of_ble_eq_true rfl) dX12_numbers_23 ⟨Nat.le_of_ble_eq_true rfl, Nat.le_of_ble_eq_true rfl⟩ [] [0] rfl rfl (by decide) rfl rfl (fun r_12652 u_12652 Hp3 lc3 w_12652 hw3 => ?_)
  clear Hp2 lc2 hw2
  obtain rfl : r_12652 = 1 := w_12652
  clear w_12652
  replace hw3 : qW D _ _ [(h0, .inr (12, [.int 0, .ref h1, .ref h2, .ref h3, .ref h4, .int 0, .int 0, .int 0, .int 0, .int 0, .int 0, .int 0, .int 0, .int 0, .int (-1), .int 0, .ref h5, .ref h6, .ref h7, .ref h8, .ref h9, .int 0, .int 0, .ref h10, .ref h11, .ref h12, .int 0, .int 0, .ref h13, .ref h14, .ref h15, .ref h16, .ref h17, .int 0, .ref h18, .ref h19, .ref h20]))] _ _ := hw3
  refine lv_if_ne (tgt := 32) hx hb dX12_numbers_26 (by decide) (fun _ => ?_) (fun c => absurd c (by decide +kernel))
  refine lv_iload_n hx hb dX12_numbers_32 rfl (lv_at hl 3 rfl) ?_
  refine lv_i2l hx hb dX12_numbers_33 rfl ?_
  refine lv_lconst (v := 0) hx hb dX12_numbers_34 (by decide) ?_
  refine lv_ldc2 hx hb hown (ht _ wm_7_82) dX12_numbers_35 ?_
  have g_12654 : ((p1).toInt64) ≤ ((-1) : Int64) := by
    simp only [q_lc_lt, q_lc_ge, q_lc_gt, q_lc_le, q_lc_eq, Int32.toInt_toInt64, Int64.lt_iff_toInt_lt, Int64.le_iff_toInt_le, ← Int64.toInt_inj, Int32.lt_iff_toInt_lt, Int32.le_iff_toInt_le, ← Int32.toInt_inj] at hhi_p1 ⊢
    have k_0 : ((-1) : Int32).toInt = -1 := by decide
    have k_g : ((-1) : Int64).toInt = -1 := by decide
    omega
  refine q_callSi (rest := []) (wr := [(h0, .inr (12, [.int 0, .ref h1, .ref h2, .ref h3, .ref h4, .int 0, .int 0, .int 0, .int 0, .int 0, .int 0, .int 0, .int 0, .int 0, .int (-1), .int 0, .ref h5, .ref h6, .ref h7, .ref h8, .ref h9, .int 0, .int 0, .ref h10, .ref h11, .ref h12, .int 0, .int 0, .ref h13, .ref h14, .ref h15, .ref h16, .ref h17, .int 0, .ref h18, .ref h19, .ref h20]))]) X hK hA hw3 (fun sz => kX12_within_521 l D cy ((p1).toInt64) g_12654 sz) wm_6_50 wm_6_52 wm_1_12 hd_X12_within wm_6_51 ⟨Nat.le_of_ble_eq_true rfl, Nat.le_of_ble_eq_true rfl⟩ hl.1 rfl (Nat.le_of_ble_eq_true rfl) dX12_numbers_38 ⟨Nat.le_of_ble_eq_true rfl, Nat.le_of_ble_eq_true rfl⟩ [] [0] rfl rfl (by decide) rfl rfl (fun r_12655 u_12655 Hp4 lc4 w_12655 hw4 => ?_)
  clear Hp3 lc3 hw3
  obtain rfl : r_12655 = 0 := w_12655
  clear w_12655
  replace hw4 : qW D _ _ [(h0, .inr (12, [.int 0, .ref h1, .ref h2, .ref h3, .ref h4, .int 0, .int 0, .int 0, .int 0, .int 0, .int 0, .int 0, .int 0, .int 0, .int (-1), .int 0, .ref h5, .ref h6, .ref h7, .ref h8, .ref h9, .int 0, .int 0, .ref h10, .ref h11, .ref h12, .int 0, .int 0, .ref h13, .ref h14, .ref h15, .ref h16, .ref h17, .int 0, .ref h18, .ref h19, .ref h20]))] _ _ := hw4
  refine lv_if_ne (tgt := 47) hx hb dX12_numbers_41 (by decide) (fun c => absurd c (by decide +kernel)) (fun _ => ?_)
  refine lv_bipush (v := (-3)) hx hb dX12_numbers_44 (by decide) ?_
  exact q_iret X hr hlk hK hw4 rfl qu0 rfl [] rfl rfl dX12_numbers_46 (Nat.le_of_ble_eq_true rfl) (Nat.le_of_ble_eq_true rfl)
set_option maxHeartbeats 4000000 in
set_option maxRecDepth 100000 in
theorem kX11_numbers_535 (l : Launch) (D : va_G) (cy : Nat → ClassId) (h0 : Nat) (h1 : Nat) (h2 : Nat) (h3 : Nat) (p0 : Int32) (p1 : Int32) (h4 : Nat) (h5 : Nat) (h6 : Nat) (h7 : Nat) (h8 : Nat) (h9 : Nat) (h10 : Nat) (h11 : Nat) (h12 : Nat) (h13 : Nat) (h14 : Nat) (h15 : Nat) (h16 : Nat) (h17 : Nat) (h18 : Nat) (hlo_p0 : (0 : Int32) ≤ p0) (hhi_p0 : p0 ≤ (3 : Int32)) (hlo_p1 : (0 : Int32) ≤ p1) (hhi_p1 : p1 ≤ (40 : Int32)) (sz : Nat) : MI l yX11_numbers cX11_numbers 4 .int { frames := 2, cells := 0, slots := 0, locals := 46 } [.ref h0, .int 1, .int p0, .int p1] D cy [(h0, .inr (11, [.ref h4, .int 0, .int 0, .int (-1), .ref h5, .ref h6, .ref h7, .ref h8, .ref h9, .ref h1, .ref h10, .ref h11, .ref h12, .ref h13, .ref h14, .ref h15, .int 0])), (h1, .inl (cy 5, 4, .inr (.inr (.inr (.inr (va_up (va_up (va_up (va_up (fun _ => none) (Int32.toNatClampNeg 0) (some h18)) (Int32.toNatClampNeg 1) (some h2)) (Int32.toNatClampNeg 2) (some h17)) (Int32.toNatClampNeg 3) (some h16))))))), (h2, .inr (9, [.int (-1), .int 0, .ref h3])), (h3, .inl (cy 2, 40, .inr (.inl (fun _ => 0))))] sz (fun r u => r = 0) (fun u => []) 0 0 := by
  refine q_ent (own := RX11) (by decide) rfl (Nat.le_of_ble_eq_true rfl) (fun p e s m below meth c ls X hr hlk hnm hK h hA hl => ?_)
  obtain ⟨hx, hb, hml, hown, ht⟩ := id X
  replace hl : lv_has ls 4 [(0, .ref h0), (1, .int 1), (2, .int p0), (3, .int p1)] := hl
  refine lv_aload_n hx hb dX11_numbers_0 rfl (lv_at hl 0 rfl) ?_
  refine lv_iload_n hx hb dX11_numbers_1 rfl (lv_at hl 1 rfl) ?_
  refine q_callVi (rest := []) (wr := [(h1, .inl (cy 5, 4, .inr (.inr (.inr (.inr (va_up (va_up (va_up (va_up (fun _ => none) (Int32.toNatClampNeg 0) (some h18)) (Int32.toNatClampNeg 1) (some h2)) (Int32.toNatClampNeg 2) (some h17)) (Int32.toNatClampNeg 3) (some h16))))))), (h2, .inr (9, [.int (-1), .int 0, .ref h3])), (h3, .inl (cy 2, 40, .inr (.inl (fun _ => 0))))]) X hK hA h (fun sz => kX11_isTray_160 l D cy h0 h4 h5 h6 h7 h8 h9 h1 h10 h11 h12 h13 h14 h15  sz) wm_4_83 wm_4_86 wm_1_1 hd_X11_isTray wm_4_85 wp_3_1 (ci := 11) (q0 := 0) rfl rfl ⟨Nat.le_of_ble_eq_true rfl, Nat.le_of_ble_eq_true rfl⟩ hl.1 rfl (Nat.le_of_ble_eq_true rfl) dX11_numbers_2 ⟨Nat.le_of_ble_eq_true rfl, Nat.le_of_ble_eq_true rfl⟩ [0] [1, 2, 3] rfl rfl (by decide) rfl rfl (fun r_12700 u_12700 Hp1 lc1 w_12700 hw1 => ?_)
  clear h
  obtain rfl : r_12700 = 1 := w_12700
  clear w_12700
  replace hw1 : qW D _ _ [(h1, .inl (cy 5, 4, .inr (.inr (.inr (.inr (va_up (va_up (va_up (va_up (fun _ => none) (Int32.toNatClampNeg 0) (some h18)) (Int32.toNatClampNeg 1) (some h2)) (Int32.toNatClampNeg 2) (some h17)) (Int32.toNatClampNeg 3) (some h16))))))), (h2, .inr (9, [.int (-1), .int 0, .ref h3])), (h3, .inl (cy 2, 40, .inr (.inl (fun _ => 0)))), (h0, .inr (11, [.ref h4, .int 0, .int 0, .int (-1), .ref h5, .ref h6, .ref h7, .ref h8, .ref h9, .ref h1, .ref h10, .ref h11, .ref h12, .ref h13, .ref h14, .ref h15, .int 0]))] _ _ := hw1
  refine lv_if_eq (tgt := 17) hx hb dX11_numbers_5 (by decide) (fun c => absurd c (by decide +kernel)) (fun _ => ?_)
  refine lv_iload_n hx hb dX11_numbers_8 rfl (lv_at hl 2 rfl) ?_
  refine lv_if_lt (tgt := 17) hx hb dX11_numbers_9 (by decide) (fun c_12701 => ?_) (fun c_12701 => ?_)
  · exfalso
    simp only [Int32.lt_iff_toInt_lt, Int32.le_iff_toInt_le, ← Int32.toInt_inj] at hlo_p0 hhi_p0 c_12701
    have k_0 : (0 : Int32).toInt = 0 := by decide
    have k_1 : (3 : Int32).toInt = 3 := by decide
    omega
  · refine lv_iload_n hx hb dX11_numbers_12 rfl (lv_at hl 2 rfl) ?_
    refine lv_iconst (v := 4) hx hb dX11_numbers_13 (by decide) ?_
    refine lv_icmp_lt (tgt := 20) hx hb dX11_numbers_14 (by decide) (fun c_12702 => ?_) (fun c_12702 => ?_)
    · refine lv_iload_n hx hb dX11_numbers_20 rfl (lv_at hl 3 rfl) ?_
      refine lv_if_lt (tgt := 30) hx hb dX11_numbers_21 (by decide) (fun c_12703 => ?_) (fun c_12703 => ?_)
      · exfalso
        simp only [Int32.lt_iff_toInt_lt, Int32.le_iff_toInt_le, ← Int32.toInt_inj] at hlo_p1 hhi_p1 c_12703
        have k_0 : (0 : Int32).toInt = 0 := by decide
        have k_1 : (40 : Int32).toInt = 40 := by decide
        omega
      · refine lv_iload_n hx hb dX11_numbers_24 rfl (lv_at hl 3 rfl) ?_
        refine lv_bipush (v := 40) hx hb dX11_numbers_25 (by decide) ?_
        refine lv_icmp_le (tgt := 33) hx hb dX11_numbers_27 (by decide) (fun c_12704 => ?_) (fun c_12704 => ?_)
        · refine lv_aload_n hx hb dX11_numbers_33 rfl (lv_at hl 0 rfl) ?_
          refine q_get X hK hw1 3 rfl rfl wf_11 9 (by decide) rfl wm_2_107 dX11_numbers_34 ?_
          refine lv_iload_n hx hb dX11_numbers_37 rfl (lv_at hl 1 rfl) ?_
          refine q_aldT X hK hw1 0 rfl (q_in (by decide +kernel)) h2 (by first | rfl | simp [va_up]) dX11_numbers_38 ?_
          refine lv_iload_n hx hb dX11_numbers_39 rfl (lv_at hl 2 rfl) ?_
          refine lv_iload_n hx hb dX11_numbers_40 rfl (lv_at hl 3 rfl) ?_
          have g_12706 : (0 : Int32) ≤ p0 := by
            simp only [Int32.lt_iff_toInt_lt, Int32.le_iff_toInt_le, ← Int32.toInt_inj] at hlo_p0 hhi_p0 c_12701 c_12702 ⊢
            have k_0 : (0 : Int32).toInt = 0 := by decide
            have k_1 : (3 : Int32).toInt = 3 := by decide
            have k_2 : (4 : Int32).toInt = 4 := by decide
            omega
          have g_12707 : p0 ≤ (3 : Int32) := by
            simp only [Int32.lt_iff_toInt_lt, Int32.le_iff_toInt_le, ← Int32.toInt_inj] at hlo_p0 hhi_p0 c_12701 c_12702 ⊢
            have k_0 : (0 : Int32).toInt = 0 := by decide
            have k_1 : (3 : Int32).toInt = 3 := by decide
            have k_2 : (4 : Int32).toInt = 4 := by decide
            omega
          have g_12708 : (0 : Int32) ≤ p1 := by
            simp only [Int32.lt_iff_toInt_lt, Int32.le_iff_toInt_le, ← Int32.toInt_inj] at hlo_p1 hhi_p1 c_12703 c_12704 ⊢
            have k_0 : (0 : Int32).toInt = 0 := by decide
            have k_1 : (40 : Int32).toInt = 40 := by decide
            omega
          have g_12709 : p1 ≤ (40 : Int32) := by
            simp only [Int32.lt_iff_toInt_lt, Int32.le_iff_toInt_le, ← Int32.toInt_inj] at hlo_p1 hhi_p1 c_12703 c_12704 ⊢
            have k_0 : (0 : Int32).toInt = 0 := by decide
            have k_1 : (40 : Int32).toInt = 40 := by decide
            omega
          refine q_callVv (rest := []) (wr := [(h1, .inl (cy 5, 4, .inr (.inr (.inr (.inr (va_up (va_up (va_up (va_up (fun _ => none) (Int32.toNatClampNeg 0) (some h18)) (Int32.toNatClampNeg 1) (some h2)) (Int32.toNatClampNeg 2) (some h17)) (Int32.toNatClampNeg 3) (some h16))))))), (h0, .inr (11, [.ref h4, .int 0, .int 0, .int (-1), .ref h5, .ref h6, .ref h7, .ref h8, .ref h9, .ref h1, .ref h10, .ref h11, .ref h12, .ref h13, .ref h14, .ref h15, .int 0]))]) X hK hA hw1 (fun sz => kX9_lay_517 l D cy h2 h3 p0 p1 g_12706 g_12707 g_12708 g_12709 sz) wm_5_124 wm_5_127 wm_1_11 hd_X9_lay wm_5_125 wm_5_126 (ci := 9) (q0 := 0) rfl rfl ⟨Nat.le_of_ble_eq_true rfl, Nat.le_of_ble_eq_true rfl⟩ hl.1 rfl (Nat.le_of_ble_eq_true rfl) dX11_numbers_41 ⟨Nat.le_of_ble_eq_true rfl, Nat.le_of_ble_eq_true rfl⟩ [1, 2] [0, 3] rfl rfl (by decide) rfl rfl (fun u_12710 Hp2 lc2 w_12710 hw2 => ?_)
          clear Hp1 lc1 hw1
          replace hw2 : qW D _ _ [(h1, .inl (cy 5, 4, .inr (.inr (.inr (.inr (va_up (va_up (va_up (va_up (fun _ => none) (Int32.toNatClampNeg 0) (some h18)) (Int32.toNatClampNeg 1) (some h2)) (Int32.toNatClampNeg 2) (some h17)) (Int32.toNatClampNeg 3) (some h16))))))), (h0, .inr (11, [.ref h4, .int 0, .int 0, .int (-1), .ref h5, .ref h6, .ref h7, .ref h8, .ref h9, .ref h1, .ref h10, .ref h11, .ref h12, .ref h13, .ref h14, .ref h15, .int 0])), (h2, .inr (9, [.int p0, .int p1, .ref h3])), (h3, .inl (cy 2, 40, .inr (.inl (fun _ => 0))))] _ _ := hw2
          refine lv_iconst (v := 0) hx hb dX11_numbers_44 (by decide) ?_
          exact q_iret X hr hlk hK hw2 rfl qu0 rfl [] rfl rfl dX11_numbers_45 (Nat.le_of_ble_eq_true rfl) (Nat.le_of_ble_eq_true rfl)
        · exfalso
          simp only [Int32.lt_iff_toInt_lt, Int32.le_iff_toInt_le, ← Int32.toInt_inj] at hlo_p1 hhi_p1 c_12703 c_12704
          have k_0 : (0 : Int32).toInt = 0 := by decide
          have k_1 : (40 : Int32).toInt = 40 := by decide
          omega
    · exfalso
      simp only [Int32.lt_iff_toInt_lt, Int32.le_iff_toInt_le, ← Int32.toInt_inj] at hlo_p0 hhi_p0 c_12701 c_12702
      have k_0 : (0 : Int32).toInt = 0 := by decide
      have k_1 : (3 : Int32).toInt = 3 := by decide
      have k_2 : (4 : Int32).toInt = 4 := by decide
      omega
set_option maxHeartbeats 4000000 in
set_option maxRecDepth 100000 in
theorem kX12_numbers_536 (l : Launch) (D : va_G) (cy : Nat → ClassId) (h0 : Nat) (h1 : Nat) (h2 : Nat) (h3 : Nat) (f0 : Nat → Int32) (p0 : Int32) (p1 : Int32) (h4 : Nat) (h5 : Nat) (h6 : Nat) (h7 : Nat) (h8 : Nat) (h9 : Nat) (h10 : Nat) (h11 : Nat) (h12 : Nat) (h13 : Nat) (h14 : Nat) (h15 : Nat) (h16 : Nat) (h17 : Nat) (h18 : Nat) (h19 : Nat) (h20 : Nat) (hlo_p0 : (0 : Int32) ≤ p0) (hhi_p0 : p0 ≤ (3 : Int32)) (hlo_p1 : (0 : Int32) ≤ p1) (hhi_p1 : p1 ≤ (40 : Int32)) (sz : Nat) : MI l yX12_numbers cX12_numbers 5 .int { frames := 1, cells := 0, slots := 0, locals := 25 } [.ref h0, .int 1, .int p0, .int p1] D cy [(h0, .inr (12, [.int 0, .ref h4, .ref h5, .ref h6, .ref h7, .int 0, .int 0, .int 0, .int 0, .int 0, .int 0, .int 0, .int 0, .int 0, .int (-1), .int 0, .ref h8, .ref h9, .ref h10, .ref h11, .ref h12, .int 0, .int 0, .ref h13, .ref h14, .ref h15, .int 0, .int 0, .ref h16, .ref h17, .ref h18, .ref h19, .ref h20, .int 0, .ref h1, .ref h2, .ref h3])), (h1, .inl (cy 1, 4, .inl f0)), (h2, .inl (cy 1, 4, .inl (fun _ => 0))), (h3, .inl (cy 2, 160, .inr (.inl (fun _ => 0))))] sz (fun r u => r = 0) (fun u => []) 0 0 := by
  refine q_ent (own := RX12) (by decide) rfl (Nat.le_of_ble_eq_true rfl) (fun p e s m below meth c ls X hr hlk hnm hK h hA hl => ?_)
  obtain ⟨hx, hb, hml, hown, ht⟩ := id X
  replace hl : lv_has ls 5 [(0, .ref h0), (1, .int 1), (2, .int p0), (3, .int p1)] := hl
  refine lv_aload_n hx hb dX12_numbers_0 rfl (lv_at hl 0 rfl) ?_
  refine lv_iconst (v := 0) hx hb dX12_numbers_1 (by decide) ?_
  refine q_put (v := .int 0) X hK h 0 rfl rfl wf_12 tyX12 tyX12_ok nmX12 0 (by decide) wm_5_170 rfl rfl rfl (Nat.le_of_ble_eq_true rfl) dX12_numbers_2 (fun Hp1 lc1 hw1 => ?_)
  clear h
  replace hw1 : qW D _ _ [(h0, .inr (12, [.int 0, .ref h4, .ref h5, .ref h6, .ref h7, .int 0, .int 0, .int 0, .int 0, .int 0, .int 0, .int 0, .int 0, .int 0, .int (-1), .int 0, .ref h8, .ref h9, .ref h10, .ref h11, .ref h12, .int 0, .int 0, .ref h13, .ref h14, .ref h15, .int 0, .int 0, .ref h16, .ref h17, .ref h18, .ref h19, .ref h20, .int 0, .ref h1, .ref h2, .ref h3])), (h1, .inl (cy 1, 4, .inl f0)), (h2, .inl (cy 1, 4, .inl (fun _ => 0))), (h3, .inl (cy 2, 160, .inr (.inl (fun _ => 0))))] _ _ := hw1
  refine lv_iload_n hx hb dX12_numbers_5 rfl (lv_at hl 1 rfl) ?_
  refine lv_i2l (v := 1) hx hb dX12_numbers_6 (by decide +kernel) ?_
  refine lv_lconst (v := 0) hx hb dX12_numbers_7 (by decide) ?_
  refine lv_ldc2 hx hb hown (ht _ wm_7_29) dX12_numbers_8 ?_
  refine q_callSi (rest := []) (wr := [(h0, .inr (12, [.int 0, .ref h4, .ref h5, .ref h6, .ref h7, .int 0, .int 0, .int 0, .int 0, .int 0, .int 0, .int 0, .int 0, .int 0, .int (-1), .int 0, .ref h8, .ref h9, .ref h10, .ref h11, .ref h12, .int 0, .int 0, .ref h13, .ref h14, .ref h15, .int 0, .int 0, .ref h16, .ref h17, .ref h18, .ref h19, .ref h20, .int 0, .ref h1, .ref h2, .ref h3])), (h1, .inl (cy 1, 4, .inl f0)), (h2, .inl (cy 1, 4, .inl (fun _ => 0))), (h3, .inl (cy 2, 160, .inr (.inl (fun _ => 0))))]) X hK hA hw1 (fun sz => kX12_within_164 l D cy   sz) wm_6_50 wm_6_52 wm_1_12 hd_X12_within wm_6_51 ⟨Nat.le_of_ble_eq_true rfl, Nat.le_of_ble_eq_true rfl⟩ hl.1 rfl (Nat.le_of_ble_eq_true rfl) dX12_numbers_11 ⟨Nat.le_of_ble_eq_true rfl, Nat.le_of_ble_eq_true rfl⟩ [] [0, 1, 2, 3] rfl rfl (by decide) rfl rfl (fun r_12737 u_12737 Hp2 lc2 w_12737 hw2 => ?_)
  clear Hp1 lc1 hw1
  obtain rfl : r_12737 = 1 := w_12737
  clear w_12737
  replace hw2 : qW D _ _ [(h0, .inr (12, [.int 0, .ref h4, .ref h5, .ref h6, .ref h7, .int 0, .int 0, .int 0, .int 0, .int 0, .int 0, .int 0, .int 0, .int 0, .int (-1), .int 0, .ref h8, .ref h9, .ref h10, .ref h11, .ref h12, .int 0, .int 0, .ref h13, .ref h14, .ref h15, .int 0, .int 0, .ref h16, .ref h17, .ref h18, .ref h19, .ref h20, .int 0, .ref h1, .ref h2, .ref h3])), (h1, .inl (cy 1, 4, .inl f0)), (h2, .inl (cy 1, 4, .inl (fun _ => 0))), (h3, .inl (cy 2, 160, .inr (.inl (fun _ => 0))))] _ _ := hw2
  refine lv_if_eq (tgt := 29) hx hb dX12_numbers_14 (by decide) (fun c => absurd c (by decide +kernel)) (fun _ => ?_)
  refine lv_iload_n hx hb dX12_numbers_17 rfl (lv_at hl 2 rfl) ?_
  refine lv_i2l hx hb dX12_numbers_18 rfl ?_
  refine lv_lconst (v := 0) hx hb dX12_numbers_19 (by decide) ?_
  refine lv_ldc2 hx hb hown (ht _ wm_7_29) dX12_numbers_20 ?_
  have g_12740 : (0 : Int64) ≤ ((p0).toInt64) := by
    simp only [q_lc_lt, q_lc_ge, q_lc_gt, q_lc_le, q_lc_eq, Int32.toInt_toInt64, Int64.lt_iff_toInt_lt, Int64.le_iff_toInt_le, ← Int64.toInt_inj, Int32.lt_iff_toInt_lt, Int32.le_iff_toInt_le, ← Int32.toInt_inj] at hlo_p0 hhi_p0 ⊢
    have k_0 : (0 : Int32).toInt = 0 := by decide
    have k_1 : (3 : Int32).toInt = 3 := by decide
    have k_g : (0 : Int64).toInt = 0 := by decide
    omega
  have g_12741 : ((p0).toInt64) ≤ (3 : Int64) := by
    simp only [q_lc_lt, q_lc_ge, q_lc_gt, q_lc_le, q_lc_eq, Int32.toInt_toInt64, Int64.lt_iff_toInt_lt, Int64.le_iff_toInt_le, ← Int64.toInt_inj, Int32.lt_iff_toInt_lt, Int32.le_iff_toInt_le, ← Int32.toInt_inj] at hlo_p0 hhi_p0 ⊢
    have k_0 : (0 : Int32).toInt = 0 := by decide
    have k_1 : (3 : Int32).toInt = 3 := by decide
    have k_g : (3 : Int64).toInt = 3 := by decide
    omega
  refine q_callSi (rest := []) (wr := [(h0, .inr (12, [.int 0, .ref h4, .ref h5, .ref h6, .ref h7, .int 0, .int 0, .int 0, .int 0, .int 0, .int 0, .int 0, .int 0, .int 0, .int (-1), .int 0, .ref h8, .ref h9, .ref h10, .ref h11, .ref h12, .int 0, .int 0, .ref h13, .ref h14, .ref h15, .int 0, .int 0, .ref h16, .ref h17, .ref h18, .ref h19, .ref h20, .int 0, .ref h1, .ref h2, .ref h3])), (h1, .inl (cy 1, 4, .inl f0)), (h2, .inl (cy 1, 4, .inl (fun _ => 0))), (h3, .inl (cy 2, 160, .inr (.inl (fun _ => 0))))]) X hK hA hw2 (fun sz => kX12_within_143 l D cy ((p0).toInt64) g_12740 g_12741 sz) wm_6_50 wm_6_52 wm_1_12 hd_X12_within wm_6_51 ⟨Nat.le_of_ble_eq_true rfl, Nat.le_of_ble_eq_true rfl⟩ hl.1 rfl (Nat.le_of_ble_eq_true rfl) dX12_numbers_23 ⟨Nat.le_of_ble_eq_true rfl, Nat.le_of_ble_eq_true rfl⟩ [] [0, 1, 2, 3] rfl rfl (by decide) rfl rfl (fun r_12742 u_12742 Hp3 lc3 w_12742 hw3 => ?_)
  clear Hp2 lc2 hw2
  obtain rfl : r_12742 = 1 := w_12742
  clear w_12742
  replace hw3 : qW D _ _ [(h0, .inr (12, [.int 0, .ref h4, .ref h5, .ref h6, .ref h7, .int 0, .int 0, .int 0, .int 0, .int 0, .int 0, .int 0, .int 0, .int 0, .int (-1), .int 0, .ref h8, .ref h9, .ref h10, .ref h11, .ref h12, .int 0, .int 0, .ref h13, .ref h14, .ref h15, .int 0, .int 0, .ref h16, .ref h17, .ref h18, .ref h19, .ref h20, .int 0, .ref h1, .ref h2, .ref h3])), (h1, .inl (cy 1, 4, .inl f0)), (h2, .inl (cy 1, 4, .inl (fun _ => 0))), (h3, .inl (cy 2, 160, .inr (.inl (fun _ => 0))))] _ _ := hw3
  refine lv_if_ne (tgt := 32) hx hb dX12_numbers_26 (by decide) (fun _ => ?_) (fun c => absurd c (by decide +kernel))
  refine lv_iload_n hx hb dX12_numbers_32 rfl (lv_at hl 3 rfl) ?_
  refine lv_i2l hx hb dX12_numbers_33 rfl ?_
  refine lv_lconst (v := 0) hx hb dX12_numbers_34 (by decide) ?_
  refine lv_ldc2 hx hb hown (ht _ wm_7_82) dX12_numbers_35 ?_
  have g_12745 : (0 : Int64) ≤ ((p1).toInt64) := by
    simp only [q_lc_lt, q_lc_ge, q_lc_gt, q_lc_le, q_lc_eq, Int32.toInt_toInt64, Int64.lt_iff_toInt_lt, Int64.le_iff_toInt_le, ← Int64.toInt_inj, Int32.lt_iff_toInt_lt, Int32.le_iff_toInt_le, ← Int32.toInt_inj] at hlo_p1 hhi_p1 ⊢
    have k_0 : (0 : Int32).toInt = 0 := by decide
    have k_1 : (40 : Int32).toInt = 40 := by decide
    have k_g : (0 : Int64).toInt = 0 := by decide
    omega
  have g_12746 : ((p1).toInt64) ≤ (40 : Int64) := by
    simp only [q_lc_lt, q_lc_ge, q_lc_gt, q_lc_le, q_lc_eq, Int32.toInt_toInt64, Int64.lt_iff_toInt_lt, Int64.le_iff_toInt_le, ← Int64.toInt_inj, Int32.lt_iff_toInt_lt, Int32.le_iff_toInt_le, ← Int32.toInt_inj] at hlo_p1 hhi_p1 ⊢
    have k_0 : (0 : Int32).toInt = 0 := by decide
    have k_1 : (40 : Int32).toInt = 40 := by decide
    have k_g : (40 : Int64).toInt = 40 := by decide
    omega
  refine q_callSi (rest := []) (wr := [(h0, .inr (12, [.int 0, .ref h4, .ref h5, .ref h6, .ref h7, .int 0, .int 0, .int 0, .int 0, .int 0, .int 0, .int 0, .int 0, .int 0, .int (-1), .int 0, .ref h8, .ref h9, .ref h10, .ref h11, .ref h12, .int 0, .int 0, .ref h13, .ref h14, .ref h15, .int 0, .int 0, .ref h16, .ref h17, .ref h18, .ref h19, .ref h20, .int 0, .ref h1, .ref h2, .ref h3])), (h1, .inl (cy 1, 4, .inl f0)), (h2, .inl (cy 1, 4, .inl (fun _ => 0))), (h3, .inl (cy 2, 160, .inr (.inl (fun _ => 0))))]) X hK hA hw3 (fun sz => kX12_within_524 l D cy ((p1).toInt64) g_12745 g_12746 sz) wm_6_50 wm_6_52 wm_1_12 hd_X12_within wm_6_51 ⟨Nat.le_of_ble_eq_true rfl, Nat.le_of_ble_eq_true rfl⟩ hl.1 rfl (Nat.le_of_ble_eq_true rfl) dX12_numbers_38 ⟨Nat.le_of_ble_eq_true rfl, Nat.le_of_ble_eq_true rfl⟩ [] [0, 1, 2, 3] rfl rfl (by decide) rfl rfl (fun r_12747 u_12747 Hp4 lc4 w_12747 hw4 => ?_)
  clear Hp3 lc3 hw3
  obtain rfl : r_12747 = 1 := w_12747
  clear w_12747
  replace hw4 : qW D _ _ [(h0, .inr (12, [.int 0, .ref h4, .ref h5, .ref h6, .ref h7, .int 0, .int 0, .int 0, .int 0, .int 0, .int 0, .int 0, .int 0, .int 0, .int (-1), .int 0, .ref h8, .ref h9, .ref h10, .ref h11, .ref h12, .int 0, .int 0, .ref h13, .ref h14, .ref h15, .int 0, .int 0, .ref h16, .ref h17, .ref h18, .ref h19, .ref h20, .int 0, .ref h1, .ref h2, .ref h3])), (h1, .inl (cy 1, 4, .inl f0)), (h2, .inl (cy 1, 4, .inl (fun _ => 0))), (h3, .inl (cy 2, 160, .inr (.inl (fun _ => 0))))] _ _ := hw4
  refine lv_if_ne (tgt := 47) hx hb dX12_numbers_41 (by decide) (fun _ => ?_) (fun c => absurd c (by decide +kernel))
  refine lv_aload_n hx hb dX12_numbers_47 rfl (lv_at hl 0 rfl) ?_
  refine q_get X hK hw4 0 rfl rfl wf_12 34 (by decide) rfl wm_5_204 dX12_numbers_48 ?_
  refine lv_iload_n hx hb dX12_numbers_51 rfl (lv_at hl 1 rfl) ?_
  refine lv_iload_n hx hb dX12_numbers_52 rfl (lv_at hl 2 rfl) ?_
  refine q_iast X hK hw4 1 rfl (q_in (by decide +kernel)) dX12_numbers_53 (fun Hp5 lc5 hw5 => ?_)
  clear Hp4 lc4 hw4
  replace hw5 : qW D _ _ [(h0, .inr (12, [.int 0, .ref h4, .ref h5, .ref h6, .ref h7, .int 0, .int 0, .int 0, .int 0, .int 0, .int 0, .int 0, .int 0, .int 0, .int (-1), .int 0, .ref h8, .ref h9, .ref h10, .ref h11, .ref h12, .int 0, .int 0, .ref h13, .ref h14, .ref h15, .int 0, .int 0, .ref h16, .ref h17, .ref h18, .ref h19, .ref h20, .int 0, .ref h1, .ref h2, .ref h3])), (h1, .inl (cy 1, 4, .inl (upd f0 (Int32.toNatClampNeg 1) p0))), (h2, .inl (cy 1, 4, .inl (fun _ => 0))), (h3, .inl (cy 2, 160, .inr (.inl (fun _ => 0))))] _ _ := hw5
  refine lv_aload_n hx hb dX12_numbers_54 rfl (lv_at hl 0 rfl) ?_
  refine q_get X hK hw5 0 rfl rfl wf_12 35 (by decide) rfl wm_5_205 dX12_numbers_55 ?_
  refine lv_iload_n hx hb dX12_numbers_58 rfl (lv_at hl 1 rfl) ?_
  refine lv_iload_n hx hb dX12_numbers_59 rfl (lv_at hl 3 rfl) ?_
  refine q_iast X hK hw5 2 rfl (q_in (by decide +kernel)) dX12_numbers_60 (fun Hp6 lc6 hw6 => ?_)
  clear Hp5 lc5 hw5
  replace hw6 : qW D _ _ [(h0, .inr (12, [.int 0, .ref h4, .ref h5, .ref h6, .ref h7, .int 0, .int 0, .int 0, .int 0, .int 0, .int 0, .int 0, .int 0, .int 0, .int (-1), .int 0, .ref h8, .ref h9, .ref h10, .ref h11, .ref h12, .int 0, .int 0, .ref h13, .ref h14, .ref h15, .int 0, .int 0, .ref h16, .ref h17, .ref h18, .ref h19, .ref h20, .int 0, .ref h1, .ref h2, .ref h3])), (h1, .inl (cy 1, 4, .inl (upd f0 (Int32.toNatClampNeg 1) p0))), (h2, .inl (cy 1, 4, .inl (upd (fun _ => 0) (Int32.toNatClampNeg 1) p1))), (h3, .inl (cy 2, 160, .inr (.inl (fun _ => 0))))] _ _ := hw6
  refine lv_iconst (v := 0) hx hb dX12_numbers_61 (by decide) ?_
  refine lv_istore (lv' := [(4, .int 0), (0, .ref h0), (1, .int 1), (2, .int p0), (3, .int p1)]) hx hb dX12_numbers_62 hl (by decide) rfl (fun lz7 hv7 => ?_)
  clear ls hl
  obtain ⟨N, hN, hNe⟩ : ∃ N : Nat, N ≤ 40 ∧ p1 = nI N := q_num hlo_p1 hhi_p1
  subst hNe
  refine q_loop (P := fun k H locs ls => qW D (va_A [(h0, .inr (12, [.int 0, .ref h4, .ref h5, .ref h6, .ref h7, .int 0, .int 0, .int 0, .int 0, .int 0, .int 0, .int 0, .int 0, .int 0, .int (-1), .int 0, .ref h8, .ref h9, .ref h10, .ref h11, .ref h12, .int 0, .int 0, .ref h13, .ref h14, .ref h15, .int 0, .int 0, .ref h16, .ref h17, .ref h18, .ref h19, .ref h20, .int 0, .ref h1, .ref h2, .ref h3])), (h1, .inl (cy 1, 4, .inl f0)), (h2, .inl (cy 1, 4, .inl (fun _ => 0))), (h3, .inl (cy 2, 160, .inr (.inl (fun _ => 0))))] sz) s.heap [(h0, .inr (12, [.int 0, .ref h4, .ref h5, .ref h6, .ref h7, .int 0, .int 0, .int 0, .int 0, .int 0, .int 0, .int 0, .int 0, .int 0, .int (-1), .int 0, .ref h8, .ref h9, .ref h10, .ref h11, .ref h12, .int 0, .int 0, .ref h13, .ref h14, .ref h15, .int 0, .int 0, .ref h16, .ref h17, .ref h18, .ref h19, .ref h20, .int 0, .ref h1, .ref h2, .ref h3])), (h1, .inl (cy 1, 4, .inl (upd f0 (Int32.toNatClampNeg 1) p0))), (h2, .inl (cy 1, 4, .inl (upd (fun _ => 0) (Int32.toNatClampNeg 1) (nI N)))), (h3, .inl (cy 2, 160, .inr (.inl (fun _ => 0))))] H locs ∧ lv_has ls 5 [(4, .int (nI k)), (0, .ref h0), (1, .int 1), (2, .int p0), (3, .int (nI N))]) N 0 (Nat.zero_le _) ⟨hw6, by rw [nI_0]; exact hv7⟩ (fun k hk ih H locs ls hP => ?_) (fun H locs ls hP => ?_)
  · obtain ⟨h, hl⟩ := hP
    have hki : (nI k).toInt = (k : Int) := nI_toInt (by omega)
    have hin_12749 : vp_in (40 + (nI k)) 160 := by rw [show (40 : Int32) + nI k = nI (40 + k) from nI_add 40 k]; exact vp_in_nI (by omega) (by omega)
    refine lv_iload hx hb dX12_numbers_64 (lv_at hl 0 rfl) ?_
    refine lv_iload_n hx hb dX12_numbers_66 rfl (lv_at hl 4 rfl) ?_
    refine lv_icmp_ge (tgt := 89) hx hb dX12_numbers_67 (by decide) (fun c => absurd c (nI_ge hk (by omega))) (fun _ => ?_)
    refine lv_aload_n hx hb dX12_numbers_70 rfl (lv_at hl 1 rfl) ?_
    refine q_get X hK h 0 rfl rfl wf_12 36 (by decide) rfl wm_5_206 dX12_numbers_71 ?_
    refine lv_bipush (v := 40) hx hb dX12_numbers_74 (by decide) ?_
    refine lv_iload_n hx hb dX12_numbers_76 rfl (lv_at hl 2 rfl) ?_
    refine lv_imul hx hb dX12_numbers_77 ?_
    refine q_c 40 (by decide +kernel) ?_
    refine lv_iload hx hb dX12_numbers_78 (lv_at hl 0 rfl) ?_
    refine lv_iadd hx hb dX12_numbers_80 ?_
    refine lv_lconst (v := 0) hx hb dX12_numbers_81 (by decide) ?_
    refine q_last X hK h 3 rfl hin_12749 dX12_numbers_82 (fun Hp8 lc8 hw8 => ?_)
    clear h
    replace hw8 : qW D _ _ [(h0, .inr (12, [.int 0, .ref h4, .ref h5, .ref h6, .ref h7, .int 0, .int 0, .int 0, .int 0, .int 0, .int 0, .int 0, .int 0, .int 0, .int (-1), .int 0, .ref h8, .ref h9, .ref h10, .ref h11, .ref h12, .int 0, .int 0, .ref h13, .ref h14, .ref h15, .int 0, .int 0, .ref h16, .ref h17, .ref h18, .ref h19, .ref h20, .int 0, .ref h1, .ref h2, .ref h3])), (h1, .inl (cy 1, 4, .inl (upd f0 (Int32.toNatClampNeg 1) p0))), (h2, .inl (cy 1, 4, .inl (upd (fun _ => 0) (Int32.toNatClampNeg 1) (nI N)))), (h3, .inl (cy 2, 160, .inr (.inl (vp_updL (fun _ => 0) (Int32.toNatClampNeg (40 + (nI k))) 0))))] _ _ := hw8
    rw [q_usL rfl] at hw8
    refine lv_iinc (v := (nI (k + 1))) (lv' := [(4, .int (nI (k + 1))), (0, .ref h0), (1, .int 1), (2, .int p0), (3, .int (nI N))]) hx hb dX12_numbers_83 hl (k := 0) rfl (nI_1 _) (by decide) rfl (fun lz9 hv9 => ?_)
    clear ls hl
    refine lv_goto (tgt := 64) hx hb dX12_numbers_86 (by decide) ?_
    exact ih _ _ _ ⟨hw8, hv9⟩
  · obtain ⟨h, hl⟩ := hP
    refine lv_iload hx hb dX12_numbers_64 (lv_at hl 0 rfl) ?_
    refine lv_iload_n hx hb dX12_numbers_66 rfl (lv_at hl 4 rfl) ?_
    refine lv_icmp_ge (tgt := 89) hx hb dX12_numbers_67 (by decide) (fun _ => ?_) (fun c => absurd (Int32.le_refl _) c)
    refine lv_iconst (v := 0) hx hb dX12_numbers_89 (by decide) ?_
    exact q_iret X hr hlk hK h rfl qu0 rfl [] rfl rfl dX12_numbers_90 (Nat.le_of_ble_eq_true rfl) (Nat.le_of_ble_eq_true rfl)
set_option maxHeartbeats 4000000 in
set_option maxRecDepth 100000 in
theorem kX11_numbers_537 (l : Launch) (D : va_G) (cy : Nat → ClassId) (h0 : Nat) (p0 : Int32) (p1 : Int32) (h1 : Nat) (h2 : Nat) (h3 : Nat) (h4 : Nat) (h5 : Nat) (h6 : Nat) (h7 : Nat) (h8 : Nat) (h9 : Nat) (h10 : Nat) (h11 : Nat) (h12 : Nat) (h13 : Nat) (hlo_p0 : (0 : Int32) ≤ p0) (hhi_p0 : p0 ≤ (3 : Int32)) (hlo_p1 : (41 : Int32) ≤ p1) (sz : Nat) : MI l yX11_numbers cX11_numbers 4 .int { frames := 1, cells := 0, slots := 0, locals := 21 } [.ref h0, .int 1, .int p0, .int p1] D cy [(h0, .inr (11, [.ref h1, .int 0, .int 0, .int (-1), .ref h2, .ref h3, .ref h4, .ref h5, .ref h6, .ref h7, .ref h8, .ref h9, .ref h10, .ref h11, .ref h12, .ref h13, .int 0]))] sz (fun r u => r = (-3)) (fun u => []) 0 0 := by
  refine q_ent (own := RX11) (by decide) rfl (Nat.le_of_ble_eq_true rfl) (fun p e s m below meth c ls X hr hlk hnm hK h hA hl => ?_)
  obtain ⟨hx, hb, hml, hown, ht⟩ := id X
  replace hl : lv_has ls 4 [(0, .ref h0), (1, .int 1), (2, .int p0), (3, .int p1)] := hl
  refine lv_aload_n hx hb dX11_numbers_0 rfl (lv_at hl 0 rfl) ?_
  refine lv_iload_n hx hb dX11_numbers_1 rfl (lv_at hl 1 rfl) ?_
  refine q_callVi (rest := []) (wr := []) X hK hA h (fun sz => kX11_isTray_160 l D cy h0 h1 h2 h3 h4 h5 h6 h7 h8 h9 h10 h11 h12 h13  sz) wm_4_83 wm_4_86 wm_1_1 hd_X11_isTray wm_4_85 wp_3_1 (ci := 11) (q0 := 0) rfl rfl ⟨Nat.le_of_ble_eq_true rfl, Nat.le_of_ble_eq_true rfl⟩ hl.1 rfl (Nat.le_of_ble_eq_true rfl) dX11_numbers_2 ⟨Nat.le_of_ble_eq_true rfl, Nat.le_of_ble_eq_true rfl⟩ [0] [] rfl rfl (by decide) rfl rfl (fun r_12795 u_12795 Hp1 lc1 w_12795 hw1 => ?_)
  clear h
  obtain rfl : r_12795 = 1 := w_12795
  clear w_12795
  replace hw1 : qW D _ _ [(h0, .inr (11, [.ref h1, .int 0, .int 0, .int (-1), .ref h2, .ref h3, .ref h4, .ref h5, .ref h6, .ref h7, .ref h8, .ref h9, .ref h10, .ref h11, .ref h12, .ref h13, .int 0]))] _ _ := hw1
  refine lv_if_eq (tgt := 17) hx hb dX11_numbers_5 (by decide) (fun c => absurd c (by decide +kernel)) (fun _ => ?_)
  refine lv_iload_n hx hb dX11_numbers_8 rfl (lv_at hl 2 rfl) ?_
  refine lv_if_lt (tgt := 17) hx hb dX11_numbers_9 (by decide) (fun c_12796 => ?_) (fun c_12796 => ?_)
  · exfalso
    simp only [Int32.lt_iff_toInt_lt, Int32.le_iff_toInt_le, ← Int32.toInt_inj] at hlo_p0 hhi_p0 c_12796
    have k_0 : (0 : Int32).toInt = 0 := by decide
    have k_1 : (3 : Int32).toInt = 3 := by decide
    omega
  · refine lv_iload_n hx hb dX11_numbers_12 rfl (lv_at hl 2 rfl) ?_
    refine lv_iconst (v := 4) hx hb dX11_numbers_13 (by decide) ?_
    refine lv_icmp_lt (tgt := 20) hx hb dX11_numbers_14 (by decide) (fun c_12797 => ?_) (fun c_12797 => ?_)
    · refine lv_iload_n hx hb dX11_numbers_20 rfl (lv_at hl 3 rfl) ?_
      refine lv_if_lt (tgt := 30) hx hb dX11_numbers_21 (by decide) (fun c_12798 => ?_) (fun c_12798 => ?_)
      · exfalso
        simp only [Int32.lt_iff_toInt_lt, Int32.le_iff_toInt_le, ← Int32.toInt_inj] at hlo_p1 c_12798
        have k_0 : (41 : Int32).toInt = 41 := by decide
        have k_1 : (0 : Int32).toInt = 0 := by decide
        omega
      · refine lv_iload_n hx hb dX11_numbers_24 rfl (lv_at hl 3 rfl) ?_
        refine lv_bipush (v := 40) hx hb dX11_numbers_25 (by decide) ?_
        refine lv_icmp_le (tgt := 33) hx hb dX11_numbers_27 (by decide) (fun c_12799 => ?_) (fun c_12799 => ?_)
        · exfalso
          simp only [Int32.lt_iff_toInt_lt, Int32.le_iff_toInt_le, ← Int32.toInt_inj] at hlo_p1 c_12798 c_12799
          have k_0 : (41 : Int32).toInt = 41 := by decide
          have k_1 : (0 : Int32).toInt = 0 := by decide
          have k_2 : (40 : Int32).toInt = 40 := by decide
          omega
        · refine lv_bipush (v := (-3)) hx hb dX11_numbers_30 (by decide) ?_
          exact q_iret X hr hlk hK hw1 rfl qu0 rfl [] rfl rfl dX11_numbers_32 (Nat.le_of_ble_eq_true rfl) (Nat.le_of_ble_eq_true rfl)
    · exfalso
      simp only [Int32.lt_iff_toInt_lt, Int32.le_iff_toInt_le, ← Int32.toInt_inj] at hlo_p0 hhi_p0 c_12796 c_12797
      have k_0 : (0 : Int32).toInt = 0 := by decide
      have k_1 : (3 : Int32).toInt = 3 := by decide
      have k_2 : (4 : Int32).toInt = 4 := by decide
      omega
set_option maxHeartbeats 4000000 in
set_option maxRecDepth 100000 in
theorem kX12_numbers_538 (l : Launch) (D : va_G) (cy : Nat → ClassId) (h0 : Nat) (p0 : Int32) (p1 : Int32) (h1 : Nat) (h2 : Nat) (h3 : Nat) (h4 : Nat) (h5 : Nat) (h6 : Nat) (h7 : Nat) (h8 : Nat) (h9 : Nat) (h10 : Nat) (h11 : Nat) (h12 : Nat) (h13 : Nat) (h14 : Nat) (h15 : Nat) (h16 : Nat) (h17 : Nat) (h18 : Nat) (h19 : Nat) (h20 : Nat) (hlo_p0 : (0 : Int32) ≤ p0) (hhi_p0 : p0 ≤ (3 : Int32)) (hlo_p1 : (41 : Int32) ≤ p1) (sz : Nat) : MI l yX12_numbers cX12_numbers 5 .int { frames := 1, cells := 0, slots := 0, locals := 25 } [.ref h0, .int 1, .int p0, .int p1] D cy [(h0, .inr (12, [.int 0, .ref h1, .ref h2, .ref h3, .ref h4, .int 0, .int 0, .int 0, .int 0, .int 0, .int 0, .int 0, .int 0, .int 0, .int (-1), .int 0, .ref h5, .ref h6, .ref h7, .ref h8, .ref h9, .int 0, .int 0, .ref h10, .ref h11, .ref h12, .int 0, .int 0, .ref h13, .ref h14, .ref h15, .ref h16, .ref h17, .int 0, .ref h18, .ref h19, .ref h20]))] sz (fun r u => r = (-3)) (fun u => []) 0 0 := by
  refine q_ent (own := RX12) (by decide) rfl (Nat.le_of_ble_eq_true rfl) (fun p e s m below meth c ls X hr hlk hnm hK h hA hl => ?_)
  obtain ⟨hx, hb, hml, hown, ht⟩ := id X
  replace hl : lv_has ls 5 [(0, .ref h0), (1, .int 1), (2, .int p0), (3, .int p1)] := hl
  refine lv_aload_n hx hb dX12_numbers_0 rfl (lv_at hl 0 rfl) ?_
  refine lv_iconst (v := 0) hx hb dX12_numbers_1 (by decide) ?_
  refine q_put (v := .int 0) X hK h 0 rfl rfl wf_12 tyX12 tyX12_ok nmX12 0 (by decide) wm_5_170 rfl rfl rfl (Nat.le_of_ble_eq_true rfl) dX12_numbers_2 (fun Hp1 lc1 hw1 => ?_)
  clear h
  replace hw1 : qW D _ _ [(h0, .inr (12, [.int 0, .ref h1, .ref h2, .ref h3, .ref h4, .int 0, .int 0, .int 0, .int 0, .int 0, .int 0, .int 0, .int 0, .int 0, .int (-1), .int 0, .ref h5, .ref h6, .ref h7, .ref h8, .ref h9, .int 0, .int 0, .ref h10, .ref h11, .ref h12, .int 0, .int 0, .ref h13, .ref h14, .ref h15, .ref h16, .ref h17, .int 0, .ref h18, .ref h19, .ref h20]))] _ _ := hw1
  refine lv_iload_n hx hb dX12_numbers_5 rfl (lv_at hl 1 rfl) ?_
  refine lv_i2l (v := 1) hx hb dX12_numbers_6 (by decide +kernel) ?_
  refine lv_lconst (v := 0) hx hb dX12_numbers_7 (by decide) ?_
  refine lv_ldc2 hx hb hown (ht _ wm_7_29) dX12_numbers_8 ?_
  refine q_callSi (rest := []) (wr := [(h0, .inr (12, [.int 0, .ref h1, .ref h2, .ref h3, .ref h4, .int 0, .int 0, .int 0, .int 0, .int 0, .int 0, .int 0, .int 0, .int 0, .int (-1), .int 0, .ref h5, .ref h6, .ref h7, .ref h8, .ref h9, .int 0, .int 0, .ref h10, .ref h11, .ref h12, .int 0, .int 0, .ref h13, .ref h14, .ref h15, .ref h16, .ref h17, .int 0, .ref h18, .ref h19, .ref h20]))]) X hK hA hw1 (fun sz => kX12_within_164 l D cy   sz) wm_6_50 wm_6_52 wm_1_12 hd_X12_within wm_6_51 ⟨Nat.le_of_ble_eq_true rfl, Nat.le_of_ble_eq_true rfl⟩ hl.1 rfl (Nat.le_of_ble_eq_true rfl) dX12_numbers_11 ⟨Nat.le_of_ble_eq_true rfl, Nat.le_of_ble_eq_true rfl⟩ [] [0] rfl rfl (by decide) rfl rfl (fun r_12820 u_12820 Hp2 lc2 w_12820 hw2 => ?_)
  clear Hp1 lc1 hw1
  obtain rfl : r_12820 = 1 := w_12820
  clear w_12820
  replace hw2 : qW D _ _ [(h0, .inr (12, [.int 0, .ref h1, .ref h2, .ref h3, .ref h4, .int 0, .int 0, .int 0, .int 0, .int 0, .int 0, .int 0, .int 0, .int 0, .int (-1), .int 0, .ref h5, .ref h6, .ref h7, .ref h8, .ref h9, .int 0, .int 0, .ref h10, .ref h11, .ref h12, .int 0, .int 0, .ref h13, .ref h14, .ref h15, .ref h16, .ref h17, .int 0, .ref h18, .ref h19, .ref h20]))] _ _ := hw2
  refine lv_if_eq (tgt := 29) hx hb dX12_numbers_14 (by decide) (fun c => absurd c (by decide +kernel)) (fun _ => ?_)
  refine lv_iload_n hx hb dX12_numbers_17 rfl (lv_at hl 2 rfl) ?_
  refine lv_i2l hx hb dX12_numbers_18 rfl ?_
  refine lv_lconst (v := 0) hx hb dX12_numbers_19 (by decide) ?_
  refine lv_ldc2 hx hb hown (ht _ wm_7_29) dX12_numbers_20 ?_
  have g_12823 : (0 : Int64) ≤ ((p0).toInt64) := by
    simp only [q_lc_lt, q_lc_ge, q_lc_gt, q_lc_le, q_lc_eq, Int32.toInt_toInt64, Int64.lt_iff_toInt_lt, Int64.le_iff_toInt_le, ← Int64.toInt_inj, Int32.lt_iff_toInt_lt, Int32.le_iff_toInt_le, ← Int32.toInt_inj] at hlo_p0 hhi_p0 ⊢
    have k_0 : (0 : Int32).toInt = 0 := by decide
    have k_1 : (3 : Int32).toInt = 3 := by decide
    have k_g : (0 : Int64).toInt = 0 := by decide
    omega
  have g_12824 : ((p0).toInt64) ≤ (3 : Int64) := by
    simp only [q_lc_lt, q_lc_ge, q_lc_gt, q_lc_le, q_lc_eq, Int32.toInt_toInt64, Int64.lt_iff_toInt_lt, Int64.le_iff_toInt_le, ← Int64.toInt_inj, Int32.lt_iff_toInt_lt, Int32.le_iff_toInt_le, ← Int32.toInt_inj] at hlo_p0 hhi_p0 ⊢
    have k_0 : (0 : Int32).toInt = 0 := by decide
    have k_1 : (3 : Int32).toInt = 3 := by decide
    have k_g : (3 : Int64).toInt = 3 := by decide
    omega
  refine q_callSi (rest := []) (wr := [(h0, .inr (12, [.int 0, .ref h1, .ref h2, .ref h3, .ref h4, .int 0, .int 0, .int 0, .int 0, .int 0, .int 0, .int 0, .int 0, .int 0, .int (-1), .int 0, .ref h5, .ref h6, .ref h7, .ref h8, .ref h9, .int 0, .int 0, .ref h10, .ref h11, .ref h12, .int 0, .int 0, .ref h13, .ref h14, .ref h15, .ref h16, .ref h17, .int 0, .ref h18, .ref h19, .ref h20]))]) X hK hA hw2 (fun sz => kX12_within_143 l D cy ((p0).toInt64) g_12823 g_12824 sz) wm_6_50 wm_6_52 wm_1_12 hd_X12_within wm_6_51 ⟨Nat.le_of_ble_eq_true rfl, Nat.le_of_ble_eq_true rfl⟩ hl.1 rfl (Nat.le_of_ble_eq_true rfl) dX12_numbers_23 ⟨Nat.le_of_ble_eq_true rfl, Nat.le_of_ble_eq_true rfl⟩ [] [0] rfl rfl (by decide) rfl rfl (fun r_12825 u_12825 Hp3 lc3 w_12825 hw3 => ?_)
  clear Hp2 lc2 hw2
  obtain rfl : r_12825 = 1 := w_12825
  clear w_12825
  replace hw3 : qW D _ _ [(h0, .inr (12, [.int 0, .ref h1, .ref h2, .ref h3, .ref h4, .int 0, .int 0, .int 0, .int 0, .int 0, .int 0, .int 0, .int 0, .int 0, .int (-1), .int 0, .ref h5, .ref h6, .ref h7, .ref h8, .ref h9, .int 0, .int 0, .ref h10, .ref h11, .ref h12, .int 0, .int 0, .ref h13, .ref h14, .ref h15, .ref h16, .ref h17, .int 0, .ref h18, .ref h19, .ref h20]))] _ _ := hw3
  refine lv_if_ne (tgt := 32) hx hb dX12_numbers_26 (by decide) (fun _ => ?_) (fun c => absurd c (by decide +kernel))
  refine lv_iload_n hx hb dX12_numbers_32 rfl (lv_at hl 3 rfl) ?_
  refine lv_i2l hx hb dX12_numbers_33 rfl ?_
  refine lv_lconst (v := 0) hx hb dX12_numbers_34 (by decide) ?_
  refine lv_ldc2 hx hb hown (ht _ wm_7_82) dX12_numbers_35 ?_
  have g_12828 : (41 : Int64) ≤ ((p1).toInt64) := by
    simp only [q_lc_lt, q_lc_ge, q_lc_gt, q_lc_le, q_lc_eq, Int32.toInt_toInt64, Int64.lt_iff_toInt_lt, Int64.le_iff_toInt_le, ← Int64.toInt_inj, Int32.lt_iff_toInt_lt, Int32.le_iff_toInt_le, ← Int32.toInt_inj] at hlo_p1 ⊢
    have k_0 : (41 : Int32).toInt = 41 := by decide
    have k_g : (41 : Int64).toInt = 41 := by decide
    omega
  refine q_callSi (rest := []) (wr := [(h0, .inr (12, [.int 0, .ref h1, .ref h2, .ref h3, .ref h4, .int 0, .int 0, .int 0, .int 0, .int 0, .int 0, .int 0, .int 0, .int 0, .int (-1), .int 0, .ref h5, .ref h6, .ref h7, .ref h8, .ref h9, .int 0, .int 0, .ref h10, .ref h11, .ref h12, .int 0, .int 0, .ref h13, .ref h14, .ref h15, .ref h16, .ref h17, .int 0, .ref h18, .ref h19, .ref h20]))]) X hK hA hw3 (fun sz => kX12_within_527 l D cy ((p1).toInt64) g_12828 sz) wm_6_50 wm_6_52 wm_1_12 hd_X12_within wm_6_51 ⟨Nat.le_of_ble_eq_true rfl, Nat.le_of_ble_eq_true rfl⟩ hl.1 rfl (Nat.le_of_ble_eq_true rfl) dX12_numbers_38 ⟨Nat.le_of_ble_eq_true rfl, Nat.le_of_ble_eq_true rfl⟩ [] [0] rfl rfl (by decide) rfl rfl (fun r_12829 u_12829 Hp4 lc4 w_12829 hw4 => ?_)
  clear Hp3 lc3 hw3
  obtain rfl : r_12829 = 0 := w_12829
  clear w_12829
  replace hw4 : qW D _ _ [(h0, .inr (12, [.int 0, .ref h1, .ref h2, .ref h3, .ref h4, .int 0, .int 0, .int 0, .int 0, .int 0, .int 0, .int 0, .int 0, .int 0, .int (-1), .int 0, .ref h5, .ref h6, .ref h7, .ref h8, .ref h9, .int 0, .int 0, .ref h10, .ref h11, .ref h12, .int 0, .int 0, .ref h13, .ref h14, .ref h15, .ref h16, .ref h17, .int 0, .ref h18, .ref h19, .ref h20]))] _ _ := hw4
  refine lv_if_ne (tgt := 47) hx hb dX12_numbers_41 (by decide) (fun c => absurd c (by decide +kernel)) (fun _ => ?_)
  refine lv_bipush (v := (-3)) hx hb dX12_numbers_44 (by decide) ?_
  exact q_iret X hr hlk hK hw4 rfl qu0 rfl [] rfl rfl dX12_numbers_46 (Nat.le_of_ble_eq_true rfl) (Nat.le_of_ble_eq_true rfl)
set_option maxHeartbeats 4000000 in
set_option maxRecDepth 100000 in
theorem kX11_numbers_539 (l : Launch) (D : va_G) (cy : Nat → ClassId) (h0 : Nat) (p0 : Int32) (p1 : Int32) (h1 : Nat) (h2 : Nat) (h3 : Nat) (h4 : Nat) (h5 : Nat) (h6 : Nat) (h7 : Nat) (h8 : Nat) (h9 : Nat) (h10 : Nat) (h11 : Nat) (h12 : Nat) (h13 : Nat) (hlo_p0 : (4 : Int32) ≤ p0) (sz : Nat) : MI l yX11_numbers cX11_numbers 4 .int { frames := 1, cells := 0, slots := 0, locals := 21 } [.ref h0, .int 1, .int p0, .int p1] D cy [(h0, .inr (11, [.ref h1, .int 0, .int 0, .int (-1), .ref h2, .ref h3, .ref h4, .ref h5, .ref h6, .ref h7, .ref h8, .ref h9, .ref h10, .ref h11, .ref h12, .ref h13, .int 0]))] sz (fun r u => r = (-2)) (fun u => []) 0 0 := by
  refine q_ent (own := RX11) (by decide) rfl (Nat.le_of_ble_eq_true rfl) (fun p e s m below meth c ls X hr hlk hnm hK h hA hl => ?_)
  obtain ⟨hx, hb, hml, hown, ht⟩ := id X
  replace hl : lv_has ls 4 [(0, .ref h0), (1, .int 1), (2, .int p0), (3, .int p1)] := hl
  refine lv_aload_n hx hb dX11_numbers_0 rfl (lv_at hl 0 rfl) ?_
  refine lv_iload_n hx hb dX11_numbers_1 rfl (lv_at hl 1 rfl) ?_
  refine q_callVi (rest := []) (wr := []) X hK hA h (fun sz => kX11_isTray_160 l D cy h0 h1 h2 h3 h4 h5 h6 h7 h8 h9 h10 h11 h12 h13  sz) wm_4_83 wm_4_86 wm_1_1 hd_X11_isTray wm_4_85 wp_3_1 (ci := 11) (q0 := 0) rfl rfl ⟨Nat.le_of_ble_eq_true rfl, Nat.le_of_ble_eq_true rfl⟩ hl.1 rfl (Nat.le_of_ble_eq_true rfl) dX11_numbers_2 ⟨Nat.le_of_ble_eq_true rfl, Nat.le_of_ble_eq_true rfl⟩ [0] [] rfl rfl (by decide) rfl rfl (fun r_12860 u_12860 Hp1 lc1 w_12860 hw1 => ?_)
  clear h
  obtain rfl : r_12860 = 1 := w_12860
  clear w_12860
  replace hw1 : qW D _ _ [(h0, .inr (11, [.ref h1, .int 0, .int 0, .int (-1), .ref h2, .ref h3, .ref h4, .ref h5, .ref h6, .ref h7, .ref h8, .ref h9, .ref h10, .ref h11, .ref h12, .ref h13, .int 0]))] _ _ := hw1
  refine lv_if_eq (tgt := 17) hx hb dX11_numbers_5 (by decide) (fun c => absurd c (by decide +kernel)) (fun _ => ?_)
  refine lv_iload_n hx hb dX11_numbers_8 rfl (lv_at hl 2 rfl) ?_
  refine lv_if_lt (tgt := 17) hx hb dX11_numbers_9 (by decide) (fun c_12861 => ?_) (fun c_12861 => ?_)
  · exfalso
    simp only [Int32.lt_iff_toInt_lt, Int32.le_iff_toInt_le, ← Int32.toInt_inj] at hlo_p0 c_12861
    have k_0 : (4 : Int32).toInt = 4 := by decide
    have k_1 : (0 : Int32).toInt = 0 := by decide
    omega
  · refine lv_iload_n hx hb dX11_numbers_12 rfl (lv_at hl 2 rfl) ?_
    refine lv_iconst (v := 4) hx hb dX11_numbers_13 (by decide) ?_
    refine lv_icmp_lt (tgt := 20) hx hb dX11_numbers_14 (by decide) (fun c_12862 => ?_) (fun c_12862 => ?_)
    · exfalso
      simp only [Int32.lt_iff_toInt_lt, Int32.le_iff_toInt_le, ← Int32.toInt_inj] at hlo_p0 c_12861 c_12862
      have k_0 : (4 : Int32).toInt = 4 := by decide
      have k_1 : (0 : Int32).toInt = 0 := by decide
      omega
    · refine lv_bipush (v := (-2)) hx hb dX11_numbers_17 (by decide) ?_
      exact q_iret X hr hlk hK hw1 rfl qu0 rfl [] rfl rfl dX11_numbers_19 (Nat.le_of_ble_eq_true rfl) (Nat.le_of_ble_eq_true rfl)
set_option maxHeartbeats 4000000 in
set_option maxRecDepth 100000 in
theorem kX12_numbers_540 (l : Launch) (D : va_G) (cy : Nat → ClassId) (h0 : Nat) (p0 : Int32) (p1 : Int32) (h1 : Nat) (h2 : Nat) (h3 : Nat) (h4 : Nat) (h5 : Nat) (h6 : Nat) (h7 : Nat) (h8 : Nat) (h9 : Nat) (h10 : Nat) (h11 : Nat) (h12 : Nat) (h13 : Nat) (h14 : Nat) (h15 : Nat) (h16 : Nat) (h17 : Nat) (h18 : Nat) (h19 : Nat) (h20 : Nat) (hlo_p0 : (4 : Int32) ≤ p0) (sz : Nat) : MI l yX12_numbers cX12_numbers 5 .int { frames := 1, cells := 0, slots := 0, locals := 25 } [.ref h0, .int 1, .int p0, .int p1] D cy [(h0, .inr (12, [.int 0, .ref h1, .ref h2, .ref h3, .ref h4, .int 0, .int 0, .int 0, .int 0, .int 0, .int 0, .int 0, .int 0, .int 0, .int (-1), .int 0, .ref h5, .ref h6, .ref h7, .ref h8, .ref h9, .int 0, .int 0, .ref h10, .ref h11, .ref h12, .int 0, .int 0, .ref h13, .ref h14, .ref h15, .ref h16, .ref h17, .int 0, .ref h18, .ref h19, .ref h20]))] sz (fun r u => r = (-2)) (fun u => []) 0 0 := by
  refine q_ent (own := RX12) (by decide) rfl (Nat.le_of_ble_eq_true rfl) (fun p e s m below meth c ls X hr hlk hnm hK h hA hl => ?_)
  obtain ⟨hx, hb, hml, hown, ht⟩ := id X
  replace hl : lv_has ls 5 [(0, .ref h0), (1, .int 1), (2, .int p0), (3, .int p1)] := hl
  refine lv_aload_n hx hb dX12_numbers_0 rfl (lv_at hl 0 rfl) ?_
  refine lv_iconst (v := 0) hx hb dX12_numbers_1 (by decide) ?_
  refine q_put (v := .int 0) X hK h 0 rfl rfl wf_12 tyX12 tyX12_ok nmX12 0 (by decide) wm_5_170 rfl rfl rfl (Nat.le_of_ble_eq_true rfl) dX12_numbers_2 (fun Hp1 lc1 hw1 => ?_)
  clear h
  replace hw1 : qW D _ _ [(h0, .inr (12, [.int 0, .ref h1, .ref h2, .ref h3, .ref h4, .int 0, .int 0, .int 0, .int 0, .int 0, .int 0, .int 0, .int 0, .int 0, .int (-1), .int 0, .ref h5, .ref h6, .ref h7, .ref h8, .ref h9, .int 0, .int 0, .ref h10, .ref h11, .ref h12, .int 0, .int 0, .ref h13, .ref h14, .ref h15, .ref h16, .ref h17, .int 0, .ref h18, .ref h19, .ref h20]))] _ _ := hw1
  refine lv_iload_n hx hb dX12_numbers_5 rfl (lv_at hl 1 rfl) ?_
  refine lv_i2l (v := 1) hx hb dX12_numbers_6 (by decide +kernel) ?_
  refine lv_lconst (v := 0) hx hb dX12_numbers_7 (by decide) ?_
  refine lv_ldc2 hx hb hown (ht _ wm_7_29) dX12_numbers_8 ?_
  refine q_callSi (rest := []) (wr := [(h0, .inr (12, [.int 0, .ref h1, .ref h2, .ref h3, .ref h4, .int 0, .int 0, .int 0, .int 0, .int 0, .int 0, .int 0, .int 0, .int 0, .int (-1), .int 0, .ref h5, .ref h6, .ref h7, .ref h8, .ref h9, .int 0, .int 0, .ref h10, .ref h11, .ref h12, .int 0, .int 0, .ref h13, .ref h14, .ref h15, .ref h16, .ref h17, .int 0, .ref h18, .ref h19, .ref h20]))]) X hK hA hw1 (fun sz => kX12_within_164 l D cy   sz) wm_6_50 wm_6_52 wm_1_12 hd_X12_within wm_6_51 ⟨Nat.le_of_ble_eq_true rfl, Nat.le_of_ble_eq_true rfl⟩ hl.1 rfl (Nat.le_of_ble_eq_true rfl) dX12_numbers_11 ⟨Nat.le_of_ble_eq_true rfl, Nat.le_of_ble_eq_true rfl⟩ [] [0] rfl rfl (by decide) rfl rfl (fun r_12873 u_12873 Hp2 lc2 w_12873 hw2 => ?_)
  clear Hp1 lc1 hw1
  obtain rfl : r_12873 = 1 := w_12873
  clear w_12873
  replace hw2 : qW D _ _ [(h0, .inr (12, [.int 0, .ref h1, .ref h2, .ref h3, .ref h4, .int 0, .int 0, .int 0, .int 0, .int 0, .int 0, .int 0, .int 0, .int 0, .int (-1), .int 0, .ref h5, .ref h6, .ref h7, .ref h8, .ref h9, .int 0, .int 0, .ref h10, .ref h11, .ref h12, .int 0, .int 0, .ref h13, .ref h14, .ref h15, .ref h16, .ref h17, .int 0, .ref h18, .ref h19, .ref h20]))] _ _ := hw2
  refine lv_if_eq (tgt := 29) hx hb dX12_numbers_14 (by decide) (fun c => absurd c (by decide +kernel)) (fun _ => ?_)
  refine lv_iload_n hx hb dX12_numbers_17 rfl (lv_at hl 2 rfl) ?_
  refine lv_i2l hx hb dX12_numbers_18 rfl ?_
  refine lv_lconst (v := 0) hx hb dX12_numbers_19 (by decide) ?_
  refine lv_ldc2 hx hb hown (ht _ wm_7_29) dX12_numbers_20 ?_
  have g_12876 : (4 : Int64) ≤ ((p0).toInt64) := by
    simp only [q_lc_lt, q_lc_ge, q_lc_gt, q_lc_le, q_lc_eq, Int32.toInt_toInt64, Int64.lt_iff_toInt_lt, Int64.le_iff_toInt_le, ← Int64.toInt_inj, Int32.lt_iff_toInt_lt, Int32.le_iff_toInt_le, ← Int32.toInt_inj] at hlo_p0 ⊢
    have k_0 : (4 : Int32).toInt = 4 := by decide
    have k_g : (4 : Int64).toInt = 4 := by decide
    omega
  refine q_callSi (rest := []) (wr := [(h0, .inr (12, [.int 0, .ref h1, .ref h2, .ref h3, .ref h4, .int 0, .int 0, .int 0, .int 0, .int 0, .int 0, .int 0, .int 0, .int 0, .int (-1), .int 0, .ref h5, .ref h6, .ref h7, .ref h8, .ref h9, .int 0, .int 0, .ref h10, .ref h11, .ref h12, .int 0, .int 0, .ref h13, .ref h14, .ref h15, .ref h16, .ref h17, .int 0, .ref h18, .ref h19, .ref h20]))]) X hK hA hw2 (fun sz => kX12_within_147 l D cy ((p0).toInt64) g_12876 sz) wm_6_50 wm_6_52 wm_1_12 hd_X12_within wm_6_51 ⟨Nat.le_of_ble_eq_true rfl, Nat.le_of_ble_eq_true rfl⟩ hl.1 rfl (Nat.le_of_ble_eq_true rfl) dX12_numbers_23 ⟨Nat.le_of_ble_eq_true rfl, Nat.le_of_ble_eq_true rfl⟩ [] [0] rfl rfl (by decide) rfl rfl (fun r_12877 u_12877 Hp3 lc3 w_12877 hw3 => ?_)
  clear Hp2 lc2 hw2
  obtain rfl : r_12877 = 0 := w_12877
  clear w_12877
  replace hw3 : qW D _ _ [(h0, .inr (12, [.int 0, .ref h1, .ref h2, .ref h3, .ref h4, .int 0, .int 0, .int 0, .int 0, .int 0, .int 0, .int 0, .int 0, .int 0, .int (-1), .int 0, .ref h5, .ref h6, .ref h7, .ref h8, .ref h9, .int 0, .int 0, .ref h10, .ref h11, .ref h12, .int 0, .int 0, .ref h13, .ref h14, .ref h15, .ref h16, .ref h17, .int 0, .ref h18, .ref h19, .ref h20]))] _ _ := hw3
  refine lv_if_ne (tgt := 32) hx hb dX12_numbers_26 (by decide) (fun c => absurd c (by decide +kernel)) (fun _ => ?_)
  refine lv_bipush (v := (-2)) hx hb dX12_numbers_29 (by decide) ?_
  exact q_iret X hr hlk hK hw3 rfl qu0 rfl [] rfl rfl dX12_numbers_31 (Nat.le_of_ble_eq_true rfl) (Nat.le_of_ble_eq_true rfl)
set_option maxHeartbeats 4000000 in
set_option maxRecDepth 100000 in
theorem kX11_numbers_541 (l : Launch) (D : va_G) (cy : Nat → ClassId) (h0 : Nat) (p0 : Int32) (p1 : Int32) (h1 : Nat) (h2 : Nat) (h3 : Nat) (h4 : Nat) (h5 : Nat) (h6 : Nat) (h7 : Nat) (h8 : Nat) (h9 : Nat) (h10 : Nat) (h11 : Nat) (h12 : Nat) (h13 : Nat) (hhi_p0 : p0 ≤ ((-1) : Int32)) (sz : Nat) : MI l yX11_numbers cX11_numbers 4 .int { frames := 1, cells := 0, slots := 0, locals := 21 } [.ref h0, .int 2, .int p0, .int p1] D cy [(h0, .inr (11, [.ref h1, .int 0, .int 0, .int (-1), .ref h2, .ref h3, .ref h4, .ref h5, .ref h6, .ref h7, .ref h8, .ref h9, .ref h10, .ref h11, .ref h12, .ref h13, .int 0]))] sz (fun r u => r = (-2)) (fun u => []) 0 0 := by
  refine q_ent (own := RX11) (by decide) rfl (Nat.le_of_ble_eq_true rfl) (fun p e s m below meth c ls X hr hlk hnm hK h hA hl => ?_)
  obtain ⟨hx, hb, hml, hown, ht⟩ := id X
  replace hl : lv_has ls 4 [(0, .ref h0), (1, .int 2), (2, .int p0), (3, .int p1)] := hl
  refine lv_aload_n hx hb dX11_numbers_0 rfl (lv_at hl 0 rfl) ?_
  refine lv_iload_n hx hb dX11_numbers_1 rfl (lv_at hl 1 rfl) ?_
  refine q_callVi (rest := []) (wr := []) X hK hA h (fun sz => kX11_isTray_170 l D cy h0 h1 h2 h3 h4 h5 h6 h7 h8 h9 h10 h11 h12 h13  sz) wm_4_83 wm_4_86 wm_1_1 hd_X11_isTray wm_4_85 wp_3_1 (ci := 11) (q0 := 0) rfl rfl ⟨Nat.le_of_ble_eq_true rfl, Nat.le_of_ble_eq_true rfl⟩ hl.1 rfl (Nat.le_of_ble_eq_true rfl) dX11_numbers_2 ⟨Nat.le_of_ble_eq_true rfl, Nat.le_of_ble_eq_true rfl⟩ [0] [] rfl rfl (by decide) rfl rfl (fun r_12918 u_12918 Hp1 lc1 w_12918 hw1 => ?_)
  clear h
  obtain rfl : r_12918 = 1 := w_12918
  clear w_12918
  replace hw1 : qW D _ _ [(h0, .inr (11, [.ref h1, .int 0, .int 0, .int (-1), .ref h2, .ref h3, .ref h4, .ref h5, .ref h6, .ref h7, .ref h8, .ref h9, .ref h10, .ref h11, .ref h12, .ref h13, .int 0]))] _ _ := hw1
  refine lv_if_eq (tgt := 17) hx hb dX11_numbers_5 (by decide) (fun c => absurd c (by decide +kernel)) (fun _ => ?_)
  refine lv_iload_n hx hb dX11_numbers_8 rfl (lv_at hl 2 rfl) ?_
  refine lv_if_lt (tgt := 17) hx hb dX11_numbers_9 (by decide) (fun c_12919 => ?_) (fun c_12919 => ?_)
  · refine lv_bipush (v := (-2)) hx hb dX11_numbers_17 (by decide) ?_
    exact q_iret X hr hlk hK hw1 rfl qu0 rfl [] rfl rfl dX11_numbers_19 (Nat.le_of_ble_eq_true rfl) (Nat.le_of_ble_eq_true rfl)
  · exfalso
    simp only [Int32.lt_iff_toInt_lt, Int32.le_iff_toInt_le, ← Int32.toInt_inj] at hhi_p0 c_12919
    have k_0 : ((-1) : Int32).toInt = -1 := by decide
    have k_1 : (0 : Int32).toInt = 0 := by decide
    omega
set_option maxHeartbeats 4000000 in
set_option maxRecDepth 100000 in
theorem kX12_numbers_542 (l : Launch) (D : va_G) (cy : Nat → ClassId) (h0 : Nat) (p0 : Int32) (p1 : Int32) (h1 : Nat) (h2 : Nat) (h3 : Nat) (h4 : Nat) (h5 : Nat) (h6 : Nat) (h7 : Nat) (h8 : Nat) (h9 : Nat) (h10 : Nat) (h11 : Nat) (h12 : Nat) (h13 : Nat) (h14 : Nat) (h15 : Nat) (h16 : Nat) (h17 : Nat) (h18 : Nat) (h19 : Nat) (h20 : Nat) (hhi_p0 : p0 ≤ ((-1) : Int32)) (sz : Nat) : MI l yX12_numbers cX12_numbers 5 .int { frames := 1, cells := 0, slots := 0, locals := 25 } [.ref h0, .int 2, .int p0, .int p1] D cy [(h0, .inr (12, [.int 0, .ref h1, .ref h2, .ref h3, .ref h4, .int 0, .int 0, .int 0, .int 0, .int 0, .int 0, .int 0, .int 0, .int 0, .int (-1), .int 0, .ref h5, .ref h6, .ref h7, .ref h8, .ref h9, .int 0, .int 0, .ref h10, .ref h11, .ref h12, .int 0, .int 0, .ref h13, .ref h14, .ref h15, .ref h16, .ref h17, .int 0, .ref h18, .ref h19, .ref h20]))] sz (fun r u => r = (-2)) (fun u => []) 0 0 := by
  refine q_ent (own := RX12) (by decide) rfl (Nat.le_of_ble_eq_true rfl) (fun p e s m below meth c ls X hr hlk hnm hK h hA hl => ?_)
  obtain ⟨hx, hb, hml, hown, ht⟩ := id X
  replace hl : lv_has ls 5 [(0, .ref h0), (1, .int 2), (2, .int p0), (3, .int p1)] := hl
  refine lv_aload_n hx hb dX12_numbers_0 rfl (lv_at hl 0 rfl) ?_
  refine lv_iconst (v := 0) hx hb dX12_numbers_1 (by decide) ?_
  refine q_put (v := .int 0) X hK h 0 rfl rfl wf_12 tyX12 tyX12_ok nmX12 0 (by decide) wm_5_170 rfl rfl rfl (Nat.le_of_ble_eq_true rfl) dX12_numbers_2 (fun Hp1 lc1 hw1 => ?_)
  clear h
  replace hw1 : qW D _ _ [(h0, .inr (12, [.int 0, .ref h1, .ref h2, .ref h3, .ref h4, .int 0, .int 0, .int 0, .int 0, .int 0, .int 0, .int 0, .int 0, .int 0, .int (-1), .int 0, .ref h5, .ref h6, .ref h7, .ref h8, .ref h9, .int 0, .int 0, .ref h10, .ref h11, .ref h12, .int 0, .int 0, .ref h13, .ref h14, .ref h15, .ref h16, .ref h17, .int 0, .ref h18, .ref h19, .ref h20]))] _ _ := hw1
  refine lv_iload_n hx hb dX12_numbers_5 rfl (lv_at hl 1 rfl) ?_
  refine lv_i2l (v := 2) hx hb dX12_numbers_6 (by decide +kernel) ?_
  refine lv_lconst (v := 0) hx hb dX12_numbers_7 (by decide) ?_
  refine lv_ldc2 hx hb hown (ht _ wm_7_29) dX12_numbers_8 ?_
  refine q_callSi (rest := []) (wr := [(h0, .inr (12, [.int 0, .ref h1, .ref h2, .ref h3, .ref h4, .int 0, .int 0, .int 0, .int 0, .int 0, .int 0, .int 0, .int 0, .int 0, .int (-1), .int 0, .ref h5, .ref h6, .ref h7, .ref h8, .ref h9, .int 0, .int 0, .ref h10, .ref h11, .ref h12, .int 0, .int 0, .ref h13, .ref h14, .ref h15, .ref h16, .ref h17, .int 0, .ref h18, .ref h19, .ref h20]))]) X hK hA hw1 (fun sz => kX12_within_174 l D cy   sz) wm_6_50 wm_6_52 wm_1_12 hd_X12_within wm_6_51 ⟨Nat.le_of_ble_eq_true rfl, Nat.le_of_ble_eq_true rfl⟩ hl.1 rfl (Nat.le_of_ble_eq_true rfl) dX12_numbers_11 ⟨Nat.le_of_ble_eq_true rfl, Nat.le_of_ble_eq_true rfl⟩ [] [0] rfl rfl (by decide) rfl rfl (fun r_12928 u_12928 Hp2 lc2 w_12928 hw2 => ?_)
  clear Hp1 lc1 hw1
  obtain rfl : r_12928 = 1 := w_12928
  clear w_12928
  replace hw2 : qW D _ _ [(h0, .inr (12, [.int 0, .ref h1, .ref h2, .ref h3, .ref h4, .int 0, .int 0, .int 0, .int 0, .int 0, .int 0, .int 0, .int 0, .int 0, .int (-1), .int 0, .ref h5, .ref h6, .ref h7, .ref h8, .ref h9, .int 0, .int 0, .ref h10, .ref h11, .ref h12, .int 0, .int 0, .ref h13, .ref h14, .ref h15, .ref h16, .ref h17, .int 0, .ref h18, .ref h19, .ref h20]))] _ _ := hw2
  refine lv_if_eq (tgt := 29) hx hb dX12_numbers_14 (by decide) (fun c => absurd c (by decide +kernel)) (fun _ => ?_)
  refine lv_iload_n hx hb dX12_numbers_17 rfl (lv_at hl 2 rfl) ?_
  refine lv_i2l hx hb dX12_numbers_18 rfl ?_
  refine lv_lconst (v := 0) hx hb dX12_numbers_19 (by decide) ?_
  refine lv_ldc2 hx hb hown (ht _ wm_7_29) dX12_numbers_20 ?_
  have g_12930 : ((p0).toInt64) ≤ ((-1) : Int64) := by
    simp only [q_lc_lt, q_lc_ge, q_lc_gt, q_lc_le, q_lc_eq, Int32.toInt_toInt64, Int64.lt_iff_toInt_lt, Int64.le_iff_toInt_le, ← Int64.toInt_inj, Int32.lt_iff_toInt_lt, Int32.le_iff_toInt_le, ← Int32.toInt_inj] at hhi_p0 ⊢
    have k_0 : ((-1) : Int32).toInt = -1 := by decide
    have k_g : ((-1) : Int64).toInt = -1 := by decide
    omega
  refine q_callSi (rest := []) (wr := [(h0, .inr (12, [.int 0, .ref h1, .ref h2, .ref h3, .ref h4, .int 0, .int 0, .int 0, .int 0, .int 0, .int 0, .int 0, .int 0, .int 0, .int (-1), .int 0, .ref h5, .ref h6, .ref h7, .ref h8, .ref h9, .int 0, .int 0, .ref h10, .ref h11, .ref h12, .int 0, .int 0, .ref h13, .ref h14, .ref h15, .ref h16, .ref h17, .int 0, .ref h18, .ref h19, .ref h20]))]) X hK hA hw2 (fun sz => kX12_within_140 l D cy ((p0).toInt64) g_12930 sz) wm_6_50 wm_6_52 wm_1_12 hd_X12_within wm_6_51 ⟨Nat.le_of_ble_eq_true rfl, Nat.le_of_ble_eq_true rfl⟩ hl.1 rfl (Nat.le_of_ble_eq_true rfl) dX12_numbers_23 ⟨Nat.le_of_ble_eq_true rfl, Nat.le_of_ble_eq_true rfl⟩ [] [0] rfl rfl (by decide) rfl rfl (fun r_12931 u_12931 Hp3 lc3 w_12931 hw3 => ?_)
  clear Hp2 lc2 hw2
  obtain rfl : r_12931 = 0 := w_12931
  clear w_12931
  replace hw3 : qW D _ _ [(h0, .inr (12, [.int 0, .ref h1, .ref h2, .ref h3, .ref h4, .int 0, .int 0, .int 0, .int 0, .int 0, .int 0, .int 0, .int 0, .int 0, .int (-1), .int 0, .ref h5, .ref h6, .ref h7, .ref h8, .ref h9, .int 0, .int 0, .ref h10, .ref h11, .ref h12, .int 0, .int 0, .ref h13, .ref h14, .ref h15, .ref h16, .ref h17, .int 0, .ref h18, .ref h19, .ref h20]))] _ _ := hw3
  refine lv_if_ne (tgt := 32) hx hb dX12_numbers_26 (by decide) (fun c => absurd c (by decide +kernel)) (fun _ => ?_)
  refine lv_bipush (v := (-2)) hx hb dX12_numbers_29 (by decide) ?_
  exact q_iret X hr hlk hK hw3 rfl qu0 rfl [] rfl rfl dX12_numbers_31 (Nat.le_of_ble_eq_true rfl) (Nat.le_of_ble_eq_true rfl)
set_option maxHeartbeats 4000000 in
set_option maxRecDepth 100000 in
theorem kX11_numbers_543 (l : Launch) (D : va_G) (cy : Nat → ClassId) (h0 : Nat) (p0 : Int32) (p1 : Int32) (h1 : Nat) (h2 : Nat) (h3 : Nat) (h4 : Nat) (h5 : Nat) (h6 : Nat) (h7 : Nat) (h8 : Nat) (h9 : Nat) (h10 : Nat) (h11 : Nat) (h12 : Nat) (h13 : Nat) (hlo_p0 : (0 : Int32) ≤ p0) (hhi_p0 : p0 ≤ (3 : Int32)) (hhi_p1 : p1 ≤ ((-1) : Int32)) (sz : Nat) : MI l yX11_numbers cX11_numbers 4 .int { frames := 1, cells := 0, slots := 0, locals := 21 } [.ref h0, .int 2, .int p0, .int p1] D cy [(h0, .inr (11, [.ref h1, .int 0, .int 0, .int (-1), .ref h2, .ref h3, .ref h4, .ref h5, .ref h6, .ref h7, .ref h8, .ref h9, .ref h10, .ref h11, .ref h12, .ref h13, .int 0]))] sz (fun r u => r = (-3)) (fun u => []) 0 0 := by
  refine q_ent (own := RX11) (by decide) rfl (Nat.le_of_ble_eq_true rfl) (fun p e s m below meth c ls X hr hlk hnm hK h hA hl => ?_)
  obtain ⟨hx, hb, hml, hown, ht⟩ := id X
  replace hl : lv_has ls 4 [(0, .ref h0), (1, .int 2), (2, .int p0), (3, .int p1)] := hl
  refine lv_aload_n hx hb dX11_numbers_0 rfl (lv_at hl 0 rfl) ?_
  refine lv_iload_n hx hb dX11_numbers_1 rfl (lv_at hl 1 rfl) ?_
  refine q_callVi (rest := []) (wr := []) X hK hA h (fun sz => kX11_isTray_170 l D cy h0 h1 h2 h3 h4 h5 h6 h7 h8 h9 h10 h11 h12 h13  sz) wm_4_83 wm_4_86 wm_1_1 hd_X11_isTray wm_4_85 wp_3_1 (ci := 11) (q0 := 0) rfl rfl ⟨Nat.le_of_ble_eq_true rfl, Nat.le_of_ble_eq_true rfl⟩ hl.1 rfl (Nat.le_of_ble_eq_true rfl) dX11_numbers_2 ⟨Nat.le_of_ble_eq_true rfl, Nat.le_of_ble_eq_true rfl⟩ [0] [] rfl rfl (by decide) rfl rfl (fun r_12974 u_12974 Hp1 lc1 w_12974 hw1 => ?_)
  clear h
  obtain rfl : r_12974 = 1 := w_12974
  clear w_12974
  replace hw1 : qW D _ _ [(h0, .inr (11, [.ref h1, .int 0, .int 0, .int (-1), .ref h2, .ref h3, .ref h4, .ref h5, .ref h6, .ref h7, .ref h8, .ref h9, .ref h10, .ref h11, .ref h12, .ref h13, .int 0]))] _ _ := hw1
  refine lv_if_eq (tgt := 17) hx hb dX11_numbers_5 (by decide) (fun c => absurd c (by decide +kernel)) (fun _ => ?_)
  refine lv_iload_n hx hb dX11_numbers_8 rfl (lv_at hl 2 rfl) ?_
  refine lv_if_lt (tgt := 17) hx hb dX11_numbers_9 (by decide) (fun c_12975 => ?_) (fun c_12975 => ?_)
  · exfalso
    simp only [Int32.lt_iff_toInt_lt, Int32.le_iff_toInt_le, ← Int32.toInt_inj] at hlo_p0 hhi_p0 c_12975
    have k_0 : (0 : Int32).toInt = 0 := by decide
    have k_1 : (3 : Int32).toInt = 3 := by decide
    omega
  · refine lv_iload_n hx hb dX11_numbers_12 rfl (lv_at hl 2 rfl) ?_
    refine lv_iconst (v := 4) hx hb dX11_numbers_13 (by decide) ?_
    refine lv_icmp_lt (tgt := 20) hx hb dX11_numbers_14 (by decide) (fun c_12976 => ?_) (fun c_12976 => ?_)
    · refine lv_iload_n hx hb dX11_numbers_20 rfl (lv_at hl 3 rfl) ?_
      refine lv_if_lt (tgt := 30) hx hb dX11_numbers_21 (by decide) (fun c_12977 => ?_) (fun c_12977 => ?_)
      · refine lv_bipush (v := (-3)) hx hb dX11_numbers_30 (by decide) ?_
        exact q_iret X hr hlk hK hw1 rfl qu0 rfl [] rfl rfl dX11_numbers_32 (Nat.le_of_ble_eq_true rfl) (Nat.le_of_ble_eq_true rfl)
      · exfalso
        simp only [Int32.lt_iff_toInt_lt, Int32.le_iff_toInt_le, ← Int32.toInt_inj] at hhi_p1 c_12977
        have k_0 : ((-1) : Int32).toInt = -1 := by decide
        have k_1 : (0 : Int32).toInt = 0 := by decide
        omega
    · exfalso
      simp only [Int32.lt_iff_toInt_lt, Int32.le_iff_toInt_le, ← Int32.toInt_inj] at hlo_p0 hhi_p0 c_12975 c_12976
      have k_0 : (0 : Int32).toInt = 0 := by decide
      have k_1 : (3 : Int32).toInt = 3 := by decide
      have k_2 : (4 : Int32).toInt = 4 := by decide
      omega
set_option maxHeartbeats 4000000 in
set_option maxRecDepth 100000 in
theorem kX12_numbers_544 (l : Launch) (D : va_G) (cy : Nat → ClassId) (h0 : Nat) (p0 : Int32) (p1 : Int32) (h1 : Nat) (h2 : Nat) (h3 : Nat) (h4 : Nat) (h5 : Nat) (h6 : Nat) (h7 : Nat) (h8 : Nat) (h9 : Nat) (h10 : Nat) (h11 : Nat) (h12 : Nat) (h13 : Nat) (h14 : Nat) (h15 : Nat) (h16 : Nat) (h17 : Nat) (h18 : Nat) (h19 : Nat) (h20 : Nat) (hlo_p0 : (0 : Int32) ≤ p0) (hhi_p0 : p0 ≤ (3 : Int32)) (hhi_p1 : p1 ≤ ((-1) : Int32)) (sz : Nat) : MI l yX12_numbers cX12_numbers 5 .int { frames := 1, cells := 0, slots := 0, locals := 25 } [.ref h0, .int 2, .int p0, .int p1] D cy [(h0, .inr (12, [.int 0, .ref h1, .ref h2, .ref h3, .ref h4, .int 0, .int 0, .int 0, .int 0, .int 0, .int 0, .int 0, .int 0, .int 0, .int (-1), .int 0, .ref h5, .ref h6, .ref h7, .ref h8, .ref h9, .int 0, .int 0, .ref h10, .ref h11, .ref h12, .int 0, .int 0, .ref h13, .ref h14, .ref h15, .ref h16, .ref h17, .int 0, .ref h18, .ref h19, .ref h20]))] sz (fun r u => r = (-3)) (fun u => []) 0 0 := by
  refine q_ent (own := RX12) (by decide) rfl (Nat.le_of_ble_eq_true rfl) (fun p e s m below meth c ls X hr hlk hnm hK h hA hl => ?_)
  obtain ⟨hx, hb, hml, hown, ht⟩ := id X
  replace hl : lv_has ls 5 [(0, .ref h0), (1, .int 2), (2, .int p0), (3, .int p1)] := hl
  refine lv_aload_n hx hb dX12_numbers_0 rfl (lv_at hl 0 rfl) ?_
  refine lv_iconst (v := 0) hx hb dX12_numbers_1 (by decide) ?_
  refine q_put (v := .int 0) X hK h 0 rfl rfl wf_12 tyX12 tyX12_ok nmX12 0 (by decide) wm_5_170 rfl rfl rfl (Nat.le_of_ble_eq_true rfl) dX12_numbers_2 (fun Hp1 lc1 hw1 => ?_)
  clear h
  replace hw1 : qW D _ _ [(h0, .inr (12, [.int 0, .ref h1, .ref h2, .ref h3, .ref h4, .int 0, .int 0, .int 0, .int 0, .int 0, .int 0, .int 0, .int 0, .int 0, .int (-1), .int 0, .ref h5, .ref h6, .ref h7, .ref h8, .ref h9, .int 0, .int 0, .ref h10, .ref h11, .ref h12, .int 0, .int 0, .ref h13, .ref h14, .ref h15, .ref h16, .ref h17, .int 0, .ref h18, .ref h19, .ref h20]))] _ _ := hw1
  refine lv_iload_n hx hb dX12_numbers_5 rfl (lv_at hl 1 rfl) ?_
  refine lv_i2l (v := 2) hx hb dX12_numbers_6 (by decide +kernel) ?_
  refine lv_lconst (v := 0) hx hb dX12_numbers_7 (by decide) ?_
  refine lv_ldc2 hx hb hown (ht _ wm_7_29) dX12_numbers_8 ?_
  refine q_callSi (rest := []) (wr := [(h0, .inr (12, [.int 0, .ref h1, .ref h2, .ref h3, .ref h4, .int 0, .int 0, .int 0, .int 0, .int 0, .int 0, .int 0, .int 0, .int 0, .int (-1), .int 0, .ref h5, .ref h6, .ref h7, .ref h8, .ref h9, .int 0, .int 0, .ref h10, .ref h11, .ref h12, .int 0, .int 0, .ref h13, .ref h14, .ref h15, .ref h16, .ref h17, .int 0, .ref h18, .ref h19, .ref h20]))]) X hK hA hw1 (fun sz => kX12_within_174 l D cy   sz) wm_6_50 wm_6_52 wm_1_12 hd_X12_within wm_6_51 ⟨Nat.le_of_ble_eq_true rfl, Nat.le_of_ble_eq_true rfl⟩ hl.1 rfl (Nat.le_of_ble_eq_true rfl) dX12_numbers_11 ⟨Nat.le_of_ble_eq_true rfl, Nat.le_of_ble_eq_true rfl⟩ [] [0] rfl rfl (by decide) rfl rfl (fun r_12996 u_12996 Hp2 lc2 w_12996 hw2 => ?_)
  clear Hp1 lc1 hw1
  obtain rfl : r_12996 = 1 := w_12996
  clear w_12996
  replace hw2 : qW D _ _ [(h0, .inr (12, [.int 0, .ref h1, .ref h2, .ref h3, .ref h4, .int 0, .int 0, .int 0, .int 0, .int 0, .int 0, .int 0, .int 0, .int 0, .int (-1), .int 0, .ref h5, .ref h6, .ref h7, .ref h8, .ref h9, .int 0, .int 0, .ref h10, .ref h11, .ref h12, .int 0, .int 0, .ref h13, .ref h14, .ref h15, .ref h16, .ref h17, .int 0, .ref h18, .ref h19, .ref h20]))] _ _ := hw2
  refine lv_if_eq (tgt := 29) hx hb dX12_numbers_14 (by decide) (fun c => absurd c (by decide +kernel)) (fun _ => ?_)
  refine lv_iload_n hx hb dX12_numbers_17 rfl (lv_at hl 2 rfl) ?_
  refine lv_i2l hx hb dX12_numbers_18 rfl ?_
  refine lv_lconst (v := 0) hx hb dX12_numbers_19 (by decide) ?_
  refine lv_ldc2 hx hb hown (ht _ wm_7_29) dX12_numbers_20 ?_
  have g_12999 : (0 : Int64) ≤ ((p0).toInt64) := by
    simp only [q_lc_lt, q_lc_ge, q_lc_gt, q_lc_le, q_lc_eq, Int32.toInt_toInt64, Int64.lt_iff_toInt_lt, Int64.le_iff_toInt_le, ← Int64.toInt_inj, Int32.lt_iff_toInt_lt, Int32.le_iff_toInt_le, ← Int32.toInt_inj] at hlo_p0 hhi_p0 ⊢
    have k_0 : (0 : Int32).toInt = 0 := by decide
    have k_1 : (3 : Int32).toInt = 3 := by decide
    have k_g : (0 : Int64).toInt = 0 := by decide
    omega
  have g_13000 : ((p0).toInt64) ≤ (3 : Int64) := by
    simp only [q_lc_lt, q_lc_ge, q_lc_gt, q_lc_le, q_lc_eq, Int32.toInt_toInt64, Int64.lt_iff_toInt_lt, Int64.le_iff_toInt_le, ← Int64.toInt_inj, Int32.lt_iff_toInt_lt, Int32.le_iff_toInt_le, ← Int32.toInt_inj] at hlo_p0 hhi_p0 ⊢
    have k_0 : (0 : Int32).toInt = 0 := by decide
    have k_1 : (3 : Int32).toInt = 3 := by decide
    have k_g : (3 : Int64).toInt = 3 := by decide
    omega
  refine q_callSi (rest := []) (wr := [(h0, .inr (12, [.int 0, .ref h1, .ref h2, .ref h3, .ref h4, .int 0, .int 0, .int 0, .int 0, .int 0, .int 0, .int 0, .int 0, .int 0, .int (-1), .int 0, .ref h5, .ref h6, .ref h7, .ref h8, .ref h9, .int 0, .int 0, .ref h10, .ref h11, .ref h12, .int 0, .int 0, .ref h13, .ref h14, .ref h15, .ref h16, .ref h17, .int 0, .ref h18, .ref h19, .ref h20]))]) X hK hA hw2 (fun sz => kX12_within_143 l D cy ((p0).toInt64) g_12999 g_13000 sz) wm_6_50 wm_6_52 wm_1_12 hd_X12_within wm_6_51 ⟨Nat.le_of_ble_eq_true rfl, Nat.le_of_ble_eq_true rfl⟩ hl.1 rfl (Nat.le_of_ble_eq_true rfl) dX12_numbers_23 ⟨Nat.le_of_ble_eq_true rfl, Nat.le_of_ble_eq_true rfl⟩ [] [0] rfl rfl (by decide) rfl rfl (fun r_13001 u_13001 Hp3 lc3 w_13001 hw3 => ?_)
  clear Hp2 lc2 hw2
  obtain rfl : r_13001 = 1 := w_13001
  clear w_13001
  replace hw3 : qW D _ _ [(h0, .inr (12, [.int 0, .ref h1, .ref h2, .ref h3, .ref h4, .int 0, .int 0, .int 0, .int 0, .int 0, .int 0, .int 0, .int 0, .int 0, .int (-1), .int 0, .ref h5, .ref h6, .ref h7, .ref h8, .ref h9, .int 0, .int 0, .ref h10, .ref h11, .ref h12, .int 0, .int 0, .ref h13, .ref h14, .ref h15, .ref h16, .ref h17, .int 0, .ref h18, .ref h19, .ref h20]))] _ _ := hw3
  refine lv_if_ne (tgt := 32) hx hb dX12_numbers_26 (by decide) (fun _ => ?_) (fun c => absurd c (by decide +kernel))
  refine lv_iload_n hx hb dX12_numbers_32 rfl (lv_at hl 3 rfl) ?_
  refine lv_i2l hx hb dX12_numbers_33 rfl ?_
  refine lv_lconst (v := 0) hx hb dX12_numbers_34 (by decide) ?_
  refine lv_ldc2 hx hb hown (ht _ wm_7_82) dX12_numbers_35 ?_
  have g_13003 : ((p1).toInt64) ≤ ((-1) : Int64) := by
    simp only [q_lc_lt, q_lc_ge, q_lc_gt, q_lc_le, q_lc_eq, Int32.toInt_toInt64, Int64.lt_iff_toInt_lt, Int64.le_iff_toInt_le, ← Int64.toInt_inj, Int32.lt_iff_toInt_lt, Int32.le_iff_toInt_le, ← Int32.toInt_inj] at hhi_p1 ⊢
    have k_0 : ((-1) : Int32).toInt = -1 := by decide
    have k_g : ((-1) : Int64).toInt = -1 := by decide
    omega
  refine q_callSi (rest := []) (wr := [(h0, .inr (12, [.int 0, .ref h1, .ref h2, .ref h3, .ref h4, .int 0, .int 0, .int 0, .int 0, .int 0, .int 0, .int 0, .int 0, .int 0, .int (-1), .int 0, .ref h5, .ref h6, .ref h7, .ref h8, .ref h9, .int 0, .int 0, .ref h10, .ref h11, .ref h12, .int 0, .int 0, .ref h13, .ref h14, .ref h15, .ref h16, .ref h17, .int 0, .ref h18, .ref h19, .ref h20]))]) X hK hA hw3 (fun sz => kX12_within_521 l D cy ((p1).toInt64) g_13003 sz) wm_6_50 wm_6_52 wm_1_12 hd_X12_within wm_6_51 ⟨Nat.le_of_ble_eq_true rfl, Nat.le_of_ble_eq_true rfl⟩ hl.1 rfl (Nat.le_of_ble_eq_true rfl) dX12_numbers_38 ⟨Nat.le_of_ble_eq_true rfl, Nat.le_of_ble_eq_true rfl⟩ [] [0] rfl rfl (by decide) rfl rfl (fun r_13004 u_13004 Hp4 lc4 w_13004 hw4 => ?_)
  clear Hp3 lc3 hw3
  obtain rfl : r_13004 = 0 := w_13004
  clear w_13004
  replace hw4 : qW D _ _ [(h0, .inr (12, [.int 0, .ref h1, .ref h2, .ref h3, .ref h4, .int 0, .int 0, .int 0, .int 0, .int 0, .int 0, .int 0, .int 0, .int 0, .int (-1), .int 0, .ref h5, .ref h6, .ref h7, .ref h8, .ref h9, .int 0, .int 0, .ref h10, .ref h11, .ref h12, .int 0, .int 0, .ref h13, .ref h14, .ref h15, .ref h16, .ref h17, .int 0, .ref h18, .ref h19, .ref h20]))] _ _ := hw4
  refine lv_if_ne (tgt := 47) hx hb dX12_numbers_41 (by decide) (fun c => absurd c (by decide +kernel)) (fun _ => ?_)
  refine lv_bipush (v := (-3)) hx hb dX12_numbers_44 (by decide) ?_
  exact q_iret X hr hlk hK hw4 rfl qu0 rfl [] rfl rfl dX12_numbers_46 (Nat.le_of_ble_eq_true rfl) (Nat.le_of_ble_eq_true rfl)
set_option maxHeartbeats 4000000 in
set_option maxRecDepth 100000 in
theorem kX11_numbers_545 (l : Launch) (D : va_G) (cy : Nat → ClassId) (h0 : Nat) (h1 : Nat) (h2 : Nat) (h3 : Nat) (p0 : Int32) (p1 : Int32) (h4 : Nat) (h5 : Nat) (h6 : Nat) (h7 : Nat) (h8 : Nat) (h9 : Nat) (h10 : Nat) (h11 : Nat) (h12 : Nat) (h13 : Nat) (h14 : Nat) (h15 : Nat) (h16 : Nat) (h17 : Nat) (h18 : Nat) (hlo_p0 : (0 : Int32) ≤ p0) (hhi_p0 : p0 ≤ (3 : Int32)) (hlo_p1 : (0 : Int32) ≤ p1) (hhi_p1 : p1 ≤ (40 : Int32)) (sz : Nat) : MI l yX11_numbers cX11_numbers 4 .int { frames := 2, cells := 0, slots := 0, locals := 46 } [.ref h0, .int 2, .int p0, .int p1] D cy [(h0, .inr (11, [.ref h4, .int 0, .int 0, .int (-1), .ref h5, .ref h6, .ref h7, .ref h8, .ref h9, .ref h1, .ref h10, .ref h11, .ref h12, .ref h13, .ref h14, .ref h15, .int 0])), (h1, .inl (cy 5, 4, .inr (.inr (.inr (.inr (va_up (va_up (va_up (va_up (fun _ => none) (Int32.toNatClampNeg 0) (some h18)) (Int32.toNatClampNeg 1) (some h17)) (Int32.toNatClampNeg 2) (some h2)) (Int32.toNatClampNeg 3) (some h16))))))), (h2, .inr (9, [.int (-1), .int 0, .ref h3])), (h3, .inl (cy 2, 40, .inr (.inl (fun _ => 0))))] sz (fun r u => r = 0) (fun u => []) 0 0 := by
  refine q_ent (own := RX11) (by decide) rfl (Nat.le_of_ble_eq_true rfl) (fun p e s m below meth c ls X hr hlk hnm hK h hA hl => ?_)
  obtain ⟨hx, hb, hml, hown, ht⟩ := id X
  replace hl : lv_has ls 4 [(0, .ref h0), (1, .int 2), (2, .int p0), (3, .int p1)] := hl
  refine lv_aload_n hx hb dX11_numbers_0 rfl (lv_at hl 0 rfl) ?_
  refine lv_iload_n hx hb dX11_numbers_1 rfl (lv_at hl 1 rfl) ?_
  refine q_callVi (rest := []) (wr := [(h1, .inl (cy 5, 4, .inr (.inr (.inr (.inr (va_up (va_up (va_up (va_up (fun _ => none) (Int32.toNatClampNeg 0) (some h18)) (Int32.toNatClampNeg 1) (some h17)) (Int32.toNatClampNeg 2) (some h2)) (Int32.toNatClampNeg 3) (some h16))))))), (h2, .inr (9, [.int (-1), .int 0, .ref h3])), (h3, .inl (cy 2, 40, .inr (.inl (fun _ => 0))))]) X hK hA h (fun sz => kX11_isTray_170 l D cy h0 h4 h5 h6 h7 h8 h9 h1 h10 h11 h12 h13 h14 h15  sz) wm_4_83 wm_4_86 wm_1_1 hd_X11_isTray wm_4_85 wp_3_1 (ci := 11) (q0 := 0) rfl rfl ⟨Nat.le_of_ble_eq_true rfl, Nat.le_of_ble_eq_true rfl⟩ hl.1 rfl (Nat.le_of_ble_eq_true rfl) dX11_numbers_2 ⟨Nat.le_of_ble_eq_true rfl, Nat.le_of_ble_eq_true rfl⟩ [0] [1, 2, 3] rfl rfl (by decide) rfl rfl (fun r_13049 u_13049 Hp1 lc1 w_13049 hw1 => ?_)
  clear h
  obtain rfl : r_13049 = 1 := w_13049
  clear w_13049
  replace hw1 : qW D _ _ [(h1, .inl (cy 5, 4, .inr (.inr (.inr (.inr (va_up (va_up (va_up (va_up (fun _ => none) (Int32.toNatClampNeg 0) (some h18)) (Int32.toNatClampNeg 1) (some h17)) (Int32.toNatClampNeg 2) (some h2)) (Int32.toNatClampNeg 3) (some h16))))))), (h2, .inr (9, [.int (-1), .int 0, .ref h3])), (h3, .inl (cy 2, 40, .inr (.inl (fun _ => 0)))), (h0, .inr (11, [.ref h4, .int 0, .int 0, .int (-1), .ref h5, .ref h6, .ref h7, .ref h8, .ref h9, .ref h1, .ref h10, .ref h11, .ref h12, .ref h13, .ref h14, .ref h15, .int 0]))] _ _ := hw1
  refine lv_if_eq (tgt := 17) hx hb dX11_numbers_5 (by decide) (fun c => absurd c (by decide +kernel)) (fun _ => ?_)
  refine lv_iload_n hx hb dX11_numbers_8 rfl (lv_at hl 2 rfl) ?_
  refine lv_if_lt (tgt := 17) hx hb dX11_numbers_9 (by decide) (fun c_13050 => ?_) (fun c_13050 => ?_)
  · exfalso
    simp only [Int32.lt_iff_toInt_lt, Int32.le_iff_toInt_le, ← Int32.toInt_inj] at hlo_p0 hhi_p0 c_13050
    have k_0 : (0 : Int32).toInt = 0 := by decide
    have k_1 : (3 : Int32).toInt = 3 := by decide
    omega
  · refine lv_iload_n hx hb dX11_numbers_12 rfl (lv_at hl 2 rfl) ?_
    refine lv_iconst (v := 4) hx hb dX11_numbers_13 (by decide) ?_
    refine lv_icmp_lt (tgt := 20) hx hb dX11_numbers_14 (by decide) (fun c_13051 => ?_) (fun c_13051 => ?_)
    · refine lv_iload_n hx hb dX11_numbers_20 rfl (lv_at hl 3 rfl) ?_
      refine lv_if_lt (tgt := 30) hx hb dX11_numbers_21 (by decide) (fun c_13052 => ?_) (fun c_13052 => ?_)
      · exfalso
        simp only [Int32.lt_iff_toInt_lt, Int32.le_iff_toInt_le, ← Int32.toInt_inj] at hlo_p1 hhi_p1 c_13052
        have k_0 : (0 : Int32).toInt = 0 := by decide
        have k_1 : (40 : Int32).toInt = 40 := by decide
        omega
      · refine lv_iload_n hx hb dX11_numbers_24 rfl (lv_at hl 3 rfl) ?_
        refine lv_bipush (v := 40) hx hb dX11_numbers_25 (by decide) ?_
        refine lv_icmp_le (tgt := 33) hx hb dX11_numbers_27 (by decide) (fun c_13053 => ?_) (fun c_13053 => ?_)
        · refine lv_aload_n hx hb dX11_numbers_33 rfl (lv_at hl 0 rfl) ?_
          refine q_get X hK hw1 3 rfl rfl wf_11 9 (by decide) rfl wm_2_107 dX11_numbers_34 ?_
          refine lv_iload_n hx hb dX11_numbers_37 rfl (lv_at hl 1 rfl) ?_
          refine q_aldT X hK hw1 0 rfl (q_in (by decide +kernel)) h2 (by first | rfl | simp [va_up]) dX11_numbers_38 ?_
          refine lv_iload_n hx hb dX11_numbers_39 rfl (lv_at hl 2 rfl) ?_
          refine lv_iload_n hx hb dX11_numbers_40 rfl (lv_at hl 3 rfl) ?_
          have g_13055 : (0 : Int32) ≤ p0 := by
            simp only [Int32.lt_iff_toInt_lt, Int32.le_iff_toInt_le, ← Int32.toInt_inj] at hlo_p0 hhi_p0 c_13050 c_13051 ⊢
            have k_0 : (0 : Int32).toInt = 0 := by decide
            have k_1 : (3 : Int32).toInt = 3 := by decide
            have k_2 : (4 : Int32).toInt = 4 := by decide
            omega
          have g_13056 : p0 ≤ (3 : Int32) := by
            simp only [Int32.lt_iff_toInt_lt, Int32.le_iff_toInt_le, ← Int32.toInt_inj] at hlo_p0 hhi_p0 c_13050 c_13051 ⊢
            have k_0 : (0 : Int32).toInt = 0 := by decide
            have k_1 : (3 : Int32).toInt = 3 := by decide
            have k_2 : (4 : Int32).toInt = 4 := by decide
            omega
          have g_13057 : (0 : Int32) ≤ p1 := by
            simp only [Int32.lt_iff_toInt_lt, Int32.le_iff_toInt_le, ← Int32.toInt_inj] at hlo_p1 hhi_p1 c_13052 c_13053 ⊢
            have k_0 : (0 : Int32).toInt = 0 := by decide
            have k_1 : (40 : Int32).toInt = 40 := by decide
            omega
          have g_13058 : p1 ≤ (40 : Int32) := by
            simp only [Int32.lt_iff_toInt_lt, Int32.le_iff_toInt_le, ← Int32.toInt_inj] at hlo_p1 hhi_p1 c_13052 c_13053 ⊢
            have k_0 : (0 : Int32).toInt = 0 := by decide
            have k_1 : (40 : Int32).toInt = 40 := by decide
            omega
          refine q_callVv (rest := []) (wr := [(h1, .inl (cy 5, 4, .inr (.inr (.inr (.inr (va_up (va_up (va_up (va_up (fun _ => none) (Int32.toNatClampNeg 0) (some h18)) (Int32.toNatClampNeg 1) (some h17)) (Int32.toNatClampNeg 2) (some h2)) (Int32.toNatClampNeg 3) (some h16))))))), (h0, .inr (11, [.ref h4, .int 0, .int 0, .int (-1), .ref h5, .ref h6, .ref h7, .ref h8, .ref h9, .ref h1, .ref h10, .ref h11, .ref h12, .ref h13, .ref h14, .ref h15, .int 0]))]) X hK hA hw1 (fun sz => kX9_lay_517 l D cy h2 h3 p0 p1 g_13055 g_13056 g_13057 g_13058 sz) wm_5_124 wm_5_127 wm_1_11 hd_X9_lay wm_5_125 wm_5_126 (ci := 9) (q0 := 0) rfl rfl ⟨Nat.le_of_ble_eq_true rfl, Nat.le_of_ble_eq_true rfl⟩ hl.1 rfl (Nat.le_of_ble_eq_true rfl) dX11_numbers_41 ⟨Nat.le_of_ble_eq_true rfl, Nat.le_of_ble_eq_true rfl⟩ [1, 2] [0, 3] rfl rfl (by decide) rfl rfl (fun u_13059 Hp2 lc2 w_13059 hw2 => ?_)
          clear Hp1 lc1 hw1
          replace hw2 : qW D _ _ [(h1, .inl (cy 5, 4, .inr (.inr (.inr (.inr (va_up (va_up (va_up (va_up (fun _ => none) (Int32.toNatClampNeg 0) (some h18)) (Int32.toNatClampNeg 1) (some h17)) (Int32.toNatClampNeg 2) (some h2)) (Int32.toNatClampNeg 3) (some h16))))))), (h0, .inr (11, [.ref h4, .int 0, .int 0, .int (-1), .ref h5, .ref h6, .ref h7, .ref h8, .ref h9, .ref h1, .ref h10, .ref h11, .ref h12, .ref h13, .ref h14, .ref h15, .int 0])), (h2, .inr (9, [.int p0, .int p1, .ref h3])), (h3, .inl (cy 2, 40, .inr (.inl (fun _ => 0))))] _ _ := hw2
          refine lv_iconst (v := 0) hx hb dX11_numbers_44 (by decide) ?_
          exact q_iret X hr hlk hK hw2 rfl qu0 rfl [] rfl rfl dX11_numbers_45 (Nat.le_of_ble_eq_true rfl) (Nat.le_of_ble_eq_true rfl)
        · exfalso
          simp only [Int32.lt_iff_toInt_lt, Int32.le_iff_toInt_le, ← Int32.toInt_inj] at hlo_p1 hhi_p1 c_13052 c_13053
          have k_0 : (0 : Int32).toInt = 0 := by decide
          have k_1 : (40 : Int32).toInt = 40 := by decide
          omega
    · exfalso
      simp only [Int32.lt_iff_toInt_lt, Int32.le_iff_toInt_le, ← Int32.toInt_inj] at hlo_p0 hhi_p0 c_13050 c_13051
      have k_0 : (0 : Int32).toInt = 0 := by decide
      have k_1 : (3 : Int32).toInt = 3 := by decide
      have k_2 : (4 : Int32).toInt = 4 := by decide
      omega
set_option maxHeartbeats 4000000 in
set_option maxRecDepth 100000 in
theorem kX12_numbers_546 (l : Launch) (D : va_G) (cy : Nat → ClassId) (h0 : Nat) (h1 : Nat) (h2 : Nat) (h3 : Nat) (f0 : Nat → Int32) (p0 : Int32) (p1 : Int32) (h4 : Nat) (h5 : Nat) (h6 : Nat) (h7 : Nat) (h8 : Nat) (h9 : Nat) (h10 : Nat) (h11 : Nat) (h12 : Nat) (h13 : Nat) (h14 : Nat) (h15 : Nat) (h16 : Nat) (h17 : Nat) (h18 : Nat) (h19 : Nat) (h20 : Nat) (hlo_p0 : (0 : Int32) ≤ p0) (hhi_p0 : p0 ≤ (3 : Int32)) (hlo_p1 : (0 : Int32) ≤ p1) (hhi_p1 : p1 ≤ (40 : Int32)) (sz : Nat) : MI l yX12_numbers cX12_numbers 5 .int { frames := 1, cells := 0, slots := 0, locals := 25 } [.ref h0, .int 2, .int p0, .int p1] D cy [(h0, .inr (12, [.int 0, .ref h4, .ref h5, .ref h6, .ref h7, .int 0, .int 0, .int 0, .int 0, .int 0, .int 0, .int 0, .int 0, .int 0, .int (-1), .int 0, .ref h8, .ref h9, .ref h10, .ref h11, .ref h12, .int 0, .int 0, .ref h13, .ref h14, .ref h15, .int 0, .int 0, .ref h16, .ref h17, .ref h18, .ref h19, .ref h20, .int 0, .ref h1, .ref h2, .ref h3])), (h1, .inl (cy 1, 4, .inl f0)), (h2, .inl (cy 1, 4, .inl (fun _ => 0))), (h3, .inl (cy 2, 160, .inr (.inl (fun _ => 0))))] sz (fun r u => r = 0) (fun u => []) 0 0 := by
  refine q_ent (own := RX12) (by decide) rfl (Nat.le_of_ble_eq_true rfl) (fun p e s m below meth c ls X hr hlk hnm hK h hA hl => ?_)
  obtain ⟨hx, hb, hml, hown, ht⟩ := id X
  replace hl : lv_has ls 5 [(0, .ref h0), (1, .int 2), (2, .int p0), (3, .int p1)] := hl
  refine lv_aload_n hx hb dX12_numbers_0 rfl (lv_at hl 0 rfl) ?_
  refine lv_iconst (v := 0) hx hb dX12_numbers_1 (by decide) ?_
  refine q_put (v := .int 0) X hK h 0 rfl rfl wf_12 tyX12 tyX12_ok nmX12 0 (by decide) wm_5_170 rfl rfl rfl (Nat.le_of_ble_eq_true rfl) dX12_numbers_2 (fun Hp1 lc1 hw1 => ?_)
  clear h
  replace hw1 : qW D _ _ [(h0, .inr (12, [.int 0, .ref h4, .ref h5, .ref h6, .ref h7, .int 0, .int 0, .int 0, .int 0, .int 0, .int 0, .int 0, .int 0, .int 0, .int (-1), .int 0, .ref h8, .ref h9, .ref h10, .ref h11, .ref h12, .int 0, .int 0, .ref h13, .ref h14, .ref h15, .int 0, .int 0, .ref h16, .ref h17, .ref h18, .ref h19, .ref h20, .int 0, .ref h1, .ref h2, .ref h3])), (h1, .inl (cy 1, 4, .inl f0)), (h2, .inl (cy 1, 4, .inl (fun _ => 0))), (h3, .inl (cy 2, 160, .inr (.inl (fun _ => 0))))] _ _ := hw1
  refine lv_iload_n hx hb dX12_numbers_5 rfl (lv_at hl 1 rfl) ?_
  refine lv_i2l (v := 2) hx hb dX12_numbers_6 (by decide +kernel) ?_
  refine lv_lconst (v := 0) hx hb dX12_numbers_7 (by decide) ?_
  refine lv_ldc2 hx hb hown (ht _ wm_7_29) dX12_numbers_8 ?_
  refine q_callSi (rest := []) (wr := [(h0, .inr (12, [.int 0, .ref h4, .ref h5, .ref h6, .ref h7, .int 0, .int 0, .int 0, .int 0, .int 0, .int 0, .int 0, .int 0, .int 0, .int (-1), .int 0, .ref h8, .ref h9, .ref h10, .ref h11, .ref h12, .int 0, .int 0, .ref h13, .ref h14, .ref h15, .int 0, .int 0, .ref h16, .ref h17, .ref h18, .ref h19, .ref h20, .int 0, .ref h1, .ref h2, .ref h3])), (h1, .inl (cy 1, 4, .inl f0)), (h2, .inl (cy 1, 4, .inl (fun _ => 0))), (h3, .inl (cy 2, 160, .inr (.inl (fun _ => 0))))]) X hK hA hw1 (fun sz => kX12_within_174 l D cy   sz) wm_6_50 wm_6_52 wm_1_12 hd_X12_within wm_6_51 ⟨Nat.le_of_ble_eq_true rfl, Nat.le_of_ble_eq_true rfl⟩ hl.1 rfl (Nat.le_of_ble_eq_true rfl) dX12_numbers_11 ⟨Nat.le_of_ble_eq_true rfl, Nat.le_of_ble_eq_true rfl⟩ [] [0, 1, 2, 3] rfl rfl (by decide) rfl rfl (fun r_13086 u_13086 Hp2 lc2 w_13086 hw2 => ?_)
  clear Hp1 lc1 hw1
  obtain rfl : r_13086 = 1 := w_13086
  clear w_13086
  replace hw2 : qW D _ _ [(h0, .inr (12, [.int 0, .ref h4, .ref h5, .ref h6, .ref h7, .int 0, .int 0, .int 0, .int 0, .int 0, .int 0, .int 0, .int 0, .int 0, .int (-1), .int 0, .ref h8, .ref h9, .ref h10, .ref h11, .ref h12, .int 0, .int 0, .ref h13, .ref h14, .ref h15, .int 0, .int 0, .ref h16, .ref h17, .ref h18, .ref h19, .ref h20, .int 0, .ref h1, .ref h2, .ref h3])), (h1, .inl (cy 1, 4, .inl f0)), (h2, .inl (cy 1, 4, .inl (fun _ => 0))), (h3, .inl (cy 2, 160, .inr (.inl (fun _ => 0))))] _ _ := hw2
  refine lv_if_eq (tgt := 29) hx hb dX12_numbers_14 (by decide) (fun c => absurd c (by decide +kernel)) (fun _ => ?_)
  refine lv_iload_n hx hb dX12_numbers_17 rfl (lv_at hl 2 rfl) ?_
  refine lv_i2l hx hb dX12_numbers_18 rfl ?_
  refine lv_lconst (v := 0) hx hb dX12_numbers_19 (by decide) ?_
  refine lv_ldc2 hx hb hown (ht _ wm_7_29) dX12_numbers_20 ?_
  have g_13089 : (0 : Int64) ≤ ((p0).toInt64) := by
    simp only [q_lc_lt, q_lc_ge, q_lc_gt, q_lc_le, q_lc_eq, Int32.toInt_toInt64, Int64.lt_iff_toInt_lt, Int64.le_iff_toInt_le, ← Int64.toInt_inj, Int32.lt_iff_toInt_lt, Int32.le_iff_toInt_le, ← Int32.toInt_inj] at hlo_p0 hhi_p0 ⊢
    have k_0 : (0 : Int32).toInt = 0 := by decide
    have k_1 : (3 : Int32).toInt = 3 := by decide
    have k_g : (0 : Int64).toInt = 0 := by decide
    omega
  have g_13090 : ((p0).toInt64) ≤ (3 : Int64) := by
    simp only [q_lc_lt, q_lc_ge, q_lc_gt, q_lc_le, q_lc_eq, Int32.toInt_toInt64, Int64.lt_iff_toInt_lt, Int64.le_iff_toInt_le, ← Int64.toInt_inj, Int32.lt_iff_toInt_lt, Int32.le_iff_toInt_le, ← Int32.toInt_inj] at hlo_p0 hhi_p0 ⊢
    have k_0 : (0 : Int32).toInt = 0 := by decide
    have k_1 : (3 : Int32).toInt = 3 := by decide
    have k_g : (3 : Int64).toInt = 3 := by decide
    omega
  refine q_callSi (rest := []) (wr := [(h0, .inr (12, [.int 0, .ref h4, .ref h5, .ref h6, .ref h7, .int 0, .int 0, .int 0, .int 0, .int 0, .int 0, .int 0, .int 0, .int 0, .int (-1), .int 0, .ref h8, .ref h9, .ref h10, .ref h11, .ref h12, .int 0, .int 0, .ref h13, .ref h14, .ref h15, .int 0, .int 0, .ref h16, .ref h17, .ref h18, .ref h19, .ref h20, .int 0, .ref h1, .ref h2, .ref h3])), (h1, .inl (cy 1, 4, .inl f0)), (h2, .inl (cy 1, 4, .inl (fun _ => 0))), (h3, .inl (cy 2, 160, .inr (.inl (fun _ => 0))))]) X hK hA hw2 (fun sz => kX12_within_143 l D cy ((p0).toInt64) g_13089 g_13090 sz) wm_6_50 wm_6_52 wm_1_12 hd_X12_within wm_6_51 ⟨Nat.le_of_ble_eq_true rfl, Nat.le_of_ble_eq_true rfl⟩ hl.1 rfl (Nat.le_of_ble_eq_true rfl) dX12_numbers_23 ⟨Nat.le_of_ble_eq_true rfl, Nat.le_of_ble_eq_true rfl⟩ [] [0, 1, 2, 3] rfl rfl (by decide) rfl rfl (fun r_13091 u_13091 Hp3 lc3 w_13091 hw3 => ?_)
  clear Hp2 lc2 hw2
  obtain rfl : r_13091 = 1 := w_13091
  clear w_13091
  replace hw3 : qW D _ _ [(h0, .inr (12, [.int 0, .ref h4, .ref h5, .ref h6, .ref h7, .int 0, .int 0, .int 0, .int 0, .int 0, .int 0, .int 0, .int 0, .int 0, .int (-1), .int 0, .ref h8, .ref h9, .ref h10, .ref h11, .ref h12, .int 0, .int 0, .ref h13, .ref h14, .ref h15, .int 0, .int 0, .ref h16, .ref h17, .ref h18, .ref h19, .ref h20, .int 0, .ref h1, .ref h2, .ref h3])), (h1, .inl (cy 1, 4, .inl f0)), (h2, .inl (cy 1, 4, .inl (fun _ => 0))), (h3, .inl (cy 2, 160, .inr (.inl (fun _ => 0))))] _ _ := hw3
  refine lv_if_ne (tgt := 32) hx hb dX12_numbers_26 (by decide) (fun _ => ?_) (fun c => absurd c (by decide +kernel))
  refine lv_iload_n hx hb dX12_numbers_32 rfl (lv_at hl 3 rfl) ?_
  refine lv_i2l hx hb dX12_numbers_33 rfl ?_
  refine lv_lconst (v := 0) hx hb dX12_numbers_34 (by decide) ?_
  refine lv_ldc2 hx hb hown (ht _ wm_7_82) dX12_numbers_35 ?_
  have g_13094 : (0 : Int64) ≤ ((p1).toInt64) := by
    simp only [q_lc_lt, q_lc_ge, q_lc_gt, q_lc_le, q_lc_eq, Int32.toInt_toInt64, Int64.lt_iff_toInt_lt, Int64.le_iff_toInt_le, ← Int64.toInt_inj, Int32.lt_iff_toInt_lt, Int32.le_iff_toInt_le, ← Int32.toInt_inj] at hlo_p1 hhi_p1 ⊢
    have k_0 : (0 : Int32).toInt = 0 := by decide
    have k_1 : (40 : Int32).toInt = 40 := by decide
    have k_g : (0 : Int64).toInt = 0 := by decide
    omega
  have g_13095 : ((p1).toInt64) ≤ (40 : Int64) := by
    simp only [q_lc_lt, q_lc_ge, q_lc_gt, q_lc_le, q_lc_eq, Int32.toInt_toInt64, Int64.lt_iff_toInt_lt, Int64.le_iff_toInt_le, ← Int64.toInt_inj, Int32.lt_iff_toInt_lt, Int32.le_iff_toInt_le, ← Int32.toInt_inj] at hlo_p1 hhi_p1 ⊢
    have k_0 : (0 : Int32).toInt = 0 := by decide
    have k_1 : (40 : Int32).toInt = 40 := by decide
    have k_g : (40 : Int64).toInt = 40 := by decide
    omega
  refine q_callSi (rest := []) (wr := [(h0, .inr (12, [.int 0, .ref h4, .ref h5, .ref h6, .ref h7, .int 0, .int 0, .int 0, .int 0, .int 0, .int 0, .int 0, .int 0, .int 0, .int (-1), .int 0, .ref h8, .ref h9, .ref h10, .ref h11, .ref h12, .int 0, .int 0, .ref h13, .ref h14, .ref h15, .int 0, .int 0, .ref h16, .ref h17, .ref h18, .ref h19, .ref h20, .int 0, .ref h1, .ref h2, .ref h3])), (h1, .inl (cy 1, 4, .inl f0)), (h2, .inl (cy 1, 4, .inl (fun _ => 0))), (h3, .inl (cy 2, 160, .inr (.inl (fun _ => 0))))]) X hK hA hw3 (fun sz => kX12_within_524 l D cy ((p1).toInt64) g_13094 g_13095 sz) wm_6_50 wm_6_52 wm_1_12 hd_X12_within wm_6_51 ⟨Nat.le_of_ble_eq_true rfl, Nat.le_of_ble_eq_true rfl⟩ hl.1 rfl (Nat.le_of_ble_eq_true rfl) dX12_numbers_38 ⟨Nat.le_of_ble_eq_true rfl, Nat.le_of_ble_eq_true rfl⟩ [] [0, 1, 2, 3] rfl rfl (by decide) rfl rfl (fun r_13096 u_13096 Hp4 lc4 w_13096 hw4 => ?_)
  clear Hp3 lc3 hw3
  obtain rfl : r_13096 = 1 := w_13096
  clear w_13096
  replace hw4 : qW D _ _ [(h0, .inr (12, [.int 0, .ref h4, .ref h5, .ref h6, .ref h7, .int 0, .int 0, .int 0, .int 0, .int 0, .int 0, .int 0, .int 0, .int 0, .int (-1), .int 0, .ref h8, .ref h9, .ref h10, .ref h11, .ref h12, .int 0, .int 0, .ref h13, .ref h14, .ref h15, .int 0, .int 0, .ref h16, .ref h17, .ref h18, .ref h19, .ref h20, .int 0, .ref h1, .ref h2, .ref h3])), (h1, .inl (cy 1, 4, .inl f0)), (h2, .inl (cy 1, 4, .inl (fun _ => 0))), (h3, .inl (cy 2, 160, .inr (.inl (fun _ => 0))))] _ _ := hw4
  refine lv_if_ne (tgt := 47) hx hb dX12_numbers_41 (by decide) (fun _ => ?_) (fun c => absurd c (by decide +kernel))
  refine lv_aload_n hx hb dX12_numbers_47 rfl (lv_at hl 0 rfl) ?_
  refine q_get X hK hw4 0 rfl rfl wf_12 34 (by decide) rfl wm_5_204 dX12_numbers_48 ?_
  refine lv_iload_n hx hb dX12_numbers_51 rfl (lv_at hl 1 rfl) ?_
  refine lv_iload_n hx hb dX12_numbers_52 rfl (lv_at hl 2 rfl) ?_
  refine q_iast X hK hw4 1 rfl (q_in (by decide +kernel)) dX12_numbers_53 (fun Hp5 lc5 hw5 => ?_)
  clear Hp4 lc4 hw4
  replace hw5 : qW D _ _ [(h0, .inr (12, [.int 0, .ref h4, .ref h5, .ref h6, .ref h7, .int 0, .int 0, .int 0, .int 0, .int 0, .int 0, .int 0, .int 0, .int 0, .int (-1), .int 0, .ref h8, .ref h9, .ref h10, .ref h11, .ref h12, .int 0, .int 0, .ref h13, .ref h14, .ref h15, .int 0, .int 0, .ref h16, .ref h17, .ref h18, .ref h19, .ref h20, .int 0, .ref h1, .ref h2, .ref h3])), (h1, .inl (cy 1, 4, .inl (upd f0 (Int32.toNatClampNeg 2) p0))), (h2, .inl (cy 1, 4, .inl (fun _ => 0))), (h3, .inl (cy 2, 160, .inr (.inl (fun _ => 0))))] _ _ := hw5
  refine lv_aload_n hx hb dX12_numbers_54 rfl (lv_at hl 0 rfl) ?_
  refine q_get X hK hw5 0 rfl rfl wf_12 35 (by decide) rfl wm_5_205 dX12_numbers_55 ?_
  refine lv_iload_n hx hb dX12_numbers_58 rfl (lv_at hl 1 rfl) ?_
  refine lv_iload_n hx hb dX12_numbers_59 rfl (lv_at hl 3 rfl) ?_
  refine q_iast X hK hw5 2 rfl (q_in (by decide +kernel)) dX12_numbers_60 (fun Hp6 lc6 hw6 => ?_)
  clear Hp5 lc5 hw5
  replace hw6 : qW D _ _ [(h0, .inr (12, [.int 0, .ref h4, .ref h5, .ref h6, .ref h7, .int 0, .int 0, .int 0, .int 0, .int 0, .int 0, .int 0, .int 0, .int 0, .int (-1), .int 0, .ref h8, .ref h9, .ref h10, .ref h11, .ref h12, .int 0, .int 0, .ref h13, .ref h14, .ref h15, .int 0, .int 0, .ref h16, .ref h17, .ref h18, .ref h19, .ref h20, .int 0, .ref h1, .ref h2, .ref h3])), (h1, .inl (cy 1, 4, .inl (upd f0 (Int32.toNatClampNeg 2) p0))), (h2, .inl (cy 1, 4, .inl (upd (fun _ => 0) (Int32.toNatClampNeg 2) p1))), (h3, .inl (cy 2, 160, .inr (.inl (fun _ => 0))))] _ _ := hw6
  refine lv_iconst (v := 0) hx hb dX12_numbers_61 (by decide) ?_
  refine lv_istore (lv' := [(4, .int 0), (0, .ref h0), (1, .int 2), (2, .int p0), (3, .int p1)]) hx hb dX12_numbers_62 hl (by decide) rfl (fun lz7 hv7 => ?_)
  clear ls hl
  obtain ⟨N, hN, hNe⟩ : ∃ N : Nat, N ≤ 40 ∧ p1 = nI N := q_num hlo_p1 hhi_p1
  subst hNe
  refine q_loop (P := fun k H locs ls => qW D (va_A [(h0, .inr (12, [.int 0, .ref h4, .ref h5, .ref h6, .ref h7, .int 0, .int 0, .int 0, .int 0, .int 0, .int 0, .int 0, .int 0, .int 0, .int (-1), .int 0, .ref h8, .ref h9, .ref h10, .ref h11, .ref h12, .int 0, .int 0, .ref h13, .ref h14, .ref h15, .int 0, .int 0, .ref h16, .ref h17, .ref h18, .ref h19, .ref h20, .int 0, .ref h1, .ref h2, .ref h3])), (h1, .inl (cy 1, 4, .inl f0)), (h2, .inl (cy 1, 4, .inl (fun _ => 0))), (h3, .inl (cy 2, 160, .inr (.inl (fun _ => 0))))] sz) s.heap [(h0, .inr (12, [.int 0, .ref h4, .ref h5, .ref h6, .ref h7, .int 0, .int 0, .int 0, .int 0, .int 0, .int 0, .int 0, .int 0, .int 0, .int (-1), .int 0, .ref h8, .ref h9, .ref h10, .ref h11, .ref h12, .int 0, .int 0, .ref h13, .ref h14, .ref h15, .int 0, .int 0, .ref h16, .ref h17, .ref h18, .ref h19, .ref h20, .int 0, .ref h1, .ref h2, .ref h3])), (h1, .inl (cy 1, 4, .inl (upd f0 (Int32.toNatClampNeg 2) p0))), (h2, .inl (cy 1, 4, .inl (upd (fun _ => 0) (Int32.toNatClampNeg 2) (nI N)))), (h3, .inl (cy 2, 160, .inr (.inl (fun _ => 0))))] H locs ∧ lv_has ls 5 [(4, .int (nI k)), (0, .ref h0), (1, .int 2), (2, .int p0), (3, .int (nI N))]) N 0 (Nat.zero_le _) ⟨hw6, by rw [nI_0]; exact hv7⟩ (fun k hk ih H locs ls hP => ?_) (fun H locs ls hP => ?_)
  · obtain ⟨h, hl⟩ := hP
    have hki : (nI k).toInt = (k : Int) := nI_toInt (by omega)
    have hin_13098 : vp_in (80 + (nI k)) 160 := by rw [show (80 : Int32) + nI k = nI (80 + k) from nI_add 80 k]; exact vp_in_nI (by omega) (by omega)
    refine lv_iload hx hb dX12_numbers_64 (lv_at hl 0 rfl) ?_
    refine lv_iload_n hx hb dX12_numbers_66 rfl (lv_at hl 4 rfl) ?_
    refine lv_icmp_ge (tgt := 89) hx hb dX12_numbers_67 (by decide) (fun c => absurd c (nI_ge hk (by omega))) (fun _ => ?_)
    refine lv_aload_n hx hb dX12_numbers_70 rfl (lv_at hl 1 rfl) ?_
    refine q_get X hK h 0 rfl rfl wf_12 36 (by decide) rfl wm_5_206 dX12_numbers_71 ?_
    refine lv_bipush (v := 40) hx hb dX12_numbers_74 (by decide) ?_
    refine lv_iload_n hx hb dX12_numbers_76 rfl (lv_at hl 2 rfl) ?_
    refine lv_imul hx hb dX12_numbers_77 ?_
    refine q_c 80 (by decide +kernel) ?_
    refine lv_iload hx hb dX12_numbers_78 (lv_at hl 0 rfl) ?_
    refine lv_iadd hx hb dX12_numbers_80 ?_
    refine lv_lconst (v := 0) hx hb dX12_numbers_81 (by decide) ?_
    refine q_last X hK h 3 rfl hin_13098 dX12_numbers_82 (fun Hp8 lc8 hw8 => ?_)
    clear h
    replace hw8 : qW D _ _ [(h0, .inr (12, [.int 0, .ref h4, .ref h5, .ref h6, .ref h7, .int 0, .int 0, .int 0, .int 0, .int 0, .int 0, .int 0, .int 0, .int 0, .int (-1), .int 0, .ref h8, .ref h9, .ref h10, .ref h11, .ref h12, .int 0, .int 0, .ref h13, .ref h14, .ref h15, .int 0, .int 0, .ref h16, .ref h17, .ref h18, .ref h19, .ref h20, .int 0, .ref h1, .ref h2, .ref h3])), (h1, .inl (cy 1, 4, .inl (upd f0 (Int32.toNatClampNeg 2) p0))), (h2, .inl (cy 1, 4, .inl (upd (fun _ => 0) (Int32.toNatClampNeg 2) (nI N)))), (h3, .inl (cy 2, 160, .inr (.inl (vp_updL (fun _ => 0) (Int32.toNatClampNeg (80 + (nI k))) 0))))] _ _ := hw8
    rw [q_usL rfl] at hw8
    refine lv_iinc (v := (nI (k + 1))) (lv' := [(4, .int (nI (k + 1))), (0, .ref h0), (1, .int 2), (2, .int p0), (3, .int (nI N))]) hx hb dX12_numbers_83 hl (k := 0) rfl (nI_1 _) (by decide) rfl (fun lz9 hv9 => ?_)
    clear ls hl
    refine lv_goto (tgt := 64) hx hb dX12_numbers_86 (by decide) ?_
    exact ih _ _ _ ⟨hw8, hv9⟩
  · obtain ⟨h, hl⟩ := hP
    refine lv_iload hx hb dX12_numbers_64 (lv_at hl 0 rfl) ?_
    refine lv_iload_n hx hb dX12_numbers_66 rfl (lv_at hl 4 rfl) ?_
    refine lv_icmp_ge (tgt := 89) hx hb dX12_numbers_67 (by decide) (fun _ => ?_) (fun c => absurd (Int32.le_refl _) c)
    refine lv_iconst (v := 0) hx hb dX12_numbers_89 (by decide) ?_
    exact q_iret X hr hlk hK h rfl qu0 rfl [] rfl rfl dX12_numbers_90 (Nat.le_of_ble_eq_true rfl) (Nat.le_of_ble_eq_true rfl)
set_option maxHeartbeats 4000000 in
set_option maxRecDepth 100000 in
theorem kX11_numbers_547 (l : Launch) (D : va_G) (cy : Nat → ClassId) (h0 : Nat) (p0 : Int32) (p1 : Int32) (h1 : Nat) (h2 : Nat) (h3 : Nat) (h4 : Nat) (h5 : Nat) (h6 : Nat) (h7 : Nat) (h8 : Nat) (h9 : Nat) (h10 : Nat) (h11 : Nat) (h12 : Nat) (h13 : Nat) (hlo_p0 : (0 : Int32) ≤ p0) (hhi_p0 : p0 ≤ (3 : Int32)) (hlo_p1 : (41 : Int32) ≤ p1) (sz : Nat) : MI l yX11_numbers cX11_numbers 4 .int { frames := 1, cells := 0, slots := 0, locals := 21 } [.ref h0, .int 2, .int p0, .int p1] D cy [(h0, .inr (11, [.ref h1, .int 0, .int 0, .int (-1), .ref h2, .ref h3, .ref h4, .ref h5, .ref h6, .ref h7, .ref h8, .ref h9, .ref h10, .ref h11, .ref h12, .ref h13, .int 0]))] sz (fun r u => r = (-3)) (fun u => []) 0 0 := by
  refine q_ent (own := RX11) (by decide) rfl (Nat.le_of_ble_eq_true rfl) (fun p e s m below meth c ls X hr hlk hnm hK h hA hl => ?_)
  obtain ⟨hx, hb, hml, hown, ht⟩ := id X
  replace hl : lv_has ls 4 [(0, .ref h0), (1, .int 2), (2, .int p0), (3, .int p1)] := hl
  refine lv_aload_n hx hb dX11_numbers_0 rfl (lv_at hl 0 rfl) ?_
  refine lv_iload_n hx hb dX11_numbers_1 rfl (lv_at hl 1 rfl) ?_
  refine q_callVi (rest := []) (wr := []) X hK hA h (fun sz => kX11_isTray_170 l D cy h0 h1 h2 h3 h4 h5 h6 h7 h8 h9 h10 h11 h12 h13  sz) wm_4_83 wm_4_86 wm_1_1 hd_X11_isTray wm_4_85 wp_3_1 (ci := 11) (q0 := 0) rfl rfl ⟨Nat.le_of_ble_eq_true rfl, Nat.le_of_ble_eq_true rfl⟩ hl.1 rfl (Nat.le_of_ble_eq_true rfl) dX11_numbers_2 ⟨Nat.le_of_ble_eq_true rfl, Nat.le_of_ble_eq_true rfl⟩ [0] [] rfl rfl (by decide) rfl rfl (fun r_13144 u_13144 Hp1 lc1 w_13144 hw1 => ?_)
  clear h
  obtain rfl : r_13144 = 1 := w_13144
  clear w_13144
  replace hw1 : qW D _ _ [(h0, .inr (11, [.ref h1, .int 0, .int 0, .int (-1), .ref h2, .ref h3, .ref h4, .ref h5, .ref h6, .ref h7, .ref h8, .ref h9, .ref h10, .ref h11, .ref h12, .ref h13, .int 0]))] _ _ := hw1
  refine lv_if_eq (tgt := 17) hx hb dX11_numbers_5 (by decide) (fun c => absurd c (by decide +kernel)) (fun _ => ?_)
  refine lv_iload_n hx hb dX11_numbers_8 rfl (lv_at hl 2 rfl) ?_
  refine lv_if_lt (tgt := 17) hx hb dX11_numbers_9 (by decide) (fun c_13145 => ?_) (fun c_13145 => ?_)
  · exfalso
    simp only [Int32.lt_iff_toInt_lt, Int32.le_iff_toInt_le, ← Int32.toInt_inj] at hlo_p0 hhi_p0 c_13145
    have k_0 : (0 : Int32).toInt = 0 := by decide
    have k_1 : (3 : Int32).toInt = 3 := by decide
    omega
  · refine lv_iload_n hx hb dX11_numbers_12 rfl (lv_at hl 2 rfl) ?_
    refine lv_iconst (v := 4) hx hb dX11_numbers_13 (by decide) ?_
    refine lv_icmp_lt (tgt := 20) hx hb dX11_numbers_14 (by decide) (fun c_13146 => ?_) (fun c_13146 => ?_)
    · refine lv_iload_n hx hb dX11_numbers_20 rfl (lv_at hl 3 rfl) ?_
      refine lv_if_lt (tgt := 30) hx hb dX11_numbers_21 (by decide) (fun c_13147 => ?_) (fun c_13147 => ?_)
      · exfalso
        simp only [Int32.lt_iff_toInt_lt, Int32.le_iff_toInt_le, ← Int32.toInt_inj] at hlo_p1 c_13147
        have k_0 : (41 : Int32).toInt = 41 := by decide
        have k_1 : (0 : Int32).toInt = 0 := by decide
        omega
      · refine lv_iload_n hx hb dX11_numbers_24 rfl (lv_at hl 3 rfl) ?_
        refine lv_bipush (v := 40) hx hb dX11_numbers_25 (by decide) ?_
        refine lv_icmp_le (tgt := 33) hx hb dX11_numbers_27 (by decide) (fun c_13148 => ?_) (fun c_13148 => ?_)
        · exfalso
          simp only [Int32.lt_iff_toInt_lt, Int32.le_iff_toInt_le, ← Int32.toInt_inj] at hlo_p1 c_13147 c_13148
          have k_0 : (41 : Int32).toInt = 41 := by decide
          have k_1 : (0 : Int32).toInt = 0 := by decide
          have k_2 : (40 : Int32).toInt = 40 := by decide
          omega
        · refine lv_bipush (v := (-3)) hx hb dX11_numbers_30 (by decide) ?_
          exact q_iret X hr hlk hK hw1 rfl qu0 rfl [] rfl rfl dX11_numbers_32 (Nat.le_of_ble_eq_true rfl) (Nat.le_of_ble_eq_true rfl)
    · exfalso
      simp only [Int32.lt_iff_toInt_lt, Int32.le_iff_toInt_le, ← Int32.toInt_inj] at hlo_p0 hhi_p0 c_13145 c_13146
      have k_0 : (0 : Int32).toInt = 0 := by decide
      have k_1 : (3 : Int32).toInt = 3 := by decide
      have k_2 : (4 : Int32).toInt = 4 := by decide
      omega
set_option maxHeartbeats 4000000 in
set_option maxRecDepth 100000 in
theorem kX12_numbers_548 (l : Launch) (D : va_G) (cy : Nat → ClassId) (h0 : Nat) (p0 : Int32) (p1 : Int32) (h1 : Nat) (h2 : Nat) (h3 : Nat) (h4 : Nat) (h5 : Nat) (h6 : Nat) (h7 : Nat) (h8 : Nat) (h9 : Nat) (h10 : Nat) (h11 : Nat) (h12 : Nat) (h13 : Nat) (h14 : Nat) (h15 : Nat) (h16 : Nat) (h17 : Nat) (h18 : Nat) (h19 : Nat) (h20 : Nat) (hlo_p0 : (0 : Int32) ≤ p0) (hhi_p0 : p0 ≤ (3 : Int32)) (hlo_p1 : (41 : Int32) ≤ p1) (sz : Nat) : MI l yX12_numbers cX12_numbers 5 .int { frames := 1, cells := 0, slots := 0, locals := 25 } [.ref h0, .int 2, .int p0, .int p1] D cy [(h0, .inr (12, [.int 0, .ref h1, .ref h2, .ref h3, .ref h4, .int 0, .int 0, .int 0, .int 0, .int 0, .int 0, .int 0, .int 0, .int 0, .int (-1), .int 0, .ref h5, .ref h6, .ref h7, .ref h8, .ref h9, .int 0, .int 0, .ref h10, .ref h11, .ref h12, .int 0, .int 0, .ref h13, .ref h14, .ref h15, .ref h16, .ref h17, .int 0, .ref h18, .ref h19, .ref h20]))] sz (fun r u => r = (-3)) (fun u => []) 0 0 := by
  refine q_ent (own := RX12) (by decide) rfl (Nat.le_of_ble_eq_true rfl) (fun p e s m below meth c ls X hr hlk hnm hK h hA hl => ?_)
  obtain ⟨hx, hb, hml, hown, ht⟩ := id X
  replace hl : lv_has ls 5 [(0, .ref h0), (1, .int 2), (2, .int p0), (3, .int p1)] := hl
  refine lv_aload_n hx hb dX12_numbers_0 rfl (lv_at hl 0 rfl) ?_
  refine lv_iconst (v := 0) hx hb dX12_numbers_1 (by decide) ?_
  refine q_put (v := .int 0) X hK h 0 rfl rfl wf_12 tyX12 tyX12_ok nmX12 0 (by decide) wm_5_170 rfl rfl rfl (Nat.le_of_ble_eq_true rfl) dX12_numbers_2 (fun Hp1 lc1 hw1 => ?_)
  clear h
  replace hw1 : qW D _ _ [(h0, .inr (12, [.int 0, .ref h1, .ref h2, .ref h3, .ref h4, .int 0, .int 0, .int 0, .int 0, .int 0, .int 0, .int 0, .int 0, .int 0, .int (-1), .int 0, .ref h5, .ref h6, .ref h7, .ref h8, .ref h9, .int 0, .int 0, .ref h10, .ref h11, .ref h12, .int 0, .int 0, .ref h13, .ref h14, .ref h15, .ref h16, .ref h17, .int 0, .ref h18, .ref h19, .ref h20]))] _ _ := hw1
  refine lv_iload_n hx hb dX12_numbers_5 rfl (lv_at hl 1 rfl) ?_
  refine lv_i2l (v := 2) hx hb dX12_numbers_6 (by decide +kernel) ?_
  refine lv_lconst (v := 0) hx hb dX12_numbers_7 (by decide) ?_
  refine lv_ldc2 hx hb hown (ht _ wm_7_29) dX12_numbers_8 ?_
  refine q_callSi (rest := []) (wr := [(h0, .inr (12, [.int 0, .ref h1, .ref h2, .ref h3, .ref h4, .int 0, .int 0, .int 0, .int 0, .int 0, .int 0, .int 0, .int 0, .int 0, .int (-1), .int 0, .ref h5, .ref h6, .ref h7, .ref h8, .ref h9, .int 0, .int 0, .ref h10, .ref h11, .ref h12, .int 0, .int 0, .ref h13, .ref h14, .ref h15, .ref h16, .ref h17, .int 0, .ref h18, .ref h19, .ref h20]))]) X hK hA hw1 (fun sz => kX12_within_174 l D cy   sz) wm_6_50 wm_6_52 wm_1_12 hd_X12_within wm_6_51 ⟨Nat.le_of_ble_eq_true rfl, Nat.le_of_ble_eq_true rfl⟩ hl.1 rfl (Nat.le_of_ble_eq_true rfl) dX12_numbers_11 ⟨Nat.le_of_ble_eq_true rfl, Nat.le_of_ble_eq_true rfl⟩ [] [0] rfl rfl (by decide) rfl rfl (fun r_13169 u_13169 Hp2 lc2 w_13169 hw2 => ?_)
  clear Hp1 lc1 hw1
  obtain rfl : r_13169 = 1 := w_13169
  clear w_13169
  replace hw2 : qW D _ _ [(h0, .inr (12, [.int 0, .ref h1, .ref h2, .ref h3, .ref h4, .int 0, .int 0, .int 0, .int 0, .int 0, .int 0, .int 0, .int 0, .int 0, .int (-1), .int 0, .ref h5, .ref h6, .ref h7, .ref h8, .ref h9, .int 0, .int 0, .ref h10, .ref h11, .ref h12, .int 0, .int 0, .ref h13, .ref h14, .ref h15, .ref h16, .ref h17, .int 0, .ref h18, .ref h19, .ref h20]))] _ _ := hw2
  refine lv_if_eq (tgt := 29) hx hb dX12_numbers_14 (by decide) (fun c => absurd c (by decide +kernel)) (fun _ => ?_)
  refine lv_iload_n hx hb dX12_numbers_17 rfl (lv_at hl 2 rfl) ?_
  refine lv_i2l hx hb dX12_numbers_18 rfl ?_
  refine lv_lconst (v := 0) hx hb dX12_numbers_19 (by decide) ?_
  refine lv_ldc2 hx hb hown (ht _ wm_7_29) dX12_numbers_20 ?_
  have g_13172 : (0 : Int64) ≤ ((p0).toInt64) := by
    simp only [q_lc_lt, q_lc_ge, q_lc_gt, q_lc_le, q_lc_eq, Int32.toInt_toInt64, Int64.lt_iff_toInt_lt, Int64.le_iff_toInt_le, ← Int64.toInt_inj, Int32.lt_iff_toInt_lt, Int32.le_iff_toInt_le, ← Int32.toInt_inj] at hlo_p0 hhi_p0 ⊢
    have k_0 : (0 : Int32).toInt = 0 := by decide
    have k_1 : (3 : Int32).toInt = 3 := by decide
    have k_g : (0 : Int64).toInt = 0 := by decide
    omega
  have g_13173 : ((p0).toInt64) ≤ (3 : Int64) := by
    simp only [q_lc_lt, q_lc_ge, q_lc_gt, q_lc_le, q_lc_eq, Int32.toInt_toInt64, Int64.lt_iff_toInt_lt, Int64.le_iff_toInt_le, ← Int64.toInt_inj, Int32.lt_iff_toInt_lt, Int32.le_iff_toInt_le, ← Int32.toInt_inj] at hlo_p0 hhi_p0 ⊢
    have k_0 : (0 : Int32).toInt = 0 := by decide
    have k_1 : (3 : Int32).toInt = 3 := by decide
    have k_g : (3 : Int64).toInt = 3 := by decide
    omega
  refine q_callSi (rest := []) (wr := [(h0, .inr (12, [.int 0, .ref h1, .ref h2, .ref h3, .ref h4, .int 0, .int 0, .int 0, .int 0, .int 0, .int 0, .int 0, .int 0, .int 0, .int (-1), .int 0, .ref h5, .ref h6, .ref h7, .ref h8, .ref h9, .int 0, .int 0, .ref h10, .ref h11, .ref h12, .int 0, .int 0, .ref h13, .ref h14, .ref h15, .ref h16, .ref h17, .int 0, .ref h18, .ref h19, .ref h20]))]) X hK hA hw2 (fun sz => kX12_within_143 l D cy ((p0).toInt64) g_13172 g_13173 sz) wm_6_50 wm_6_52 wm_1_12 hd_X12_within wm_6_51 ⟨Nat.le_of_ble_eq_true rfl, Nat.le_of_ble_eq_true rfl⟩ hl.1 rfl (Nat.le_of_ble_eq_true rfl) dX12_numbers_23 ⟨Nat.le_of_ble_eq_true rfl, Nat.le_of_ble_eq_true rfl⟩ [] [0] rfl rfl (by decide) rfl rfl (fun r_13174 u_13174 Hp3 lc3 w_13174 hw3 => ?_)
  clear Hp2 lc2 hw2
  obtain rfl : r_13174 = 1 := w_13174
  clear w_13174
  replace hw3 : qW D _ _ [(h0, .inr (12, [.int 0, .ref h1, .ref h2, .ref h3, .ref h4, .int 0, .int 0, .int 0, .int 0, .int 0, .int 0, .int 0, .int 0, .int 0, .int (-1), .int 0, .ref h5, .ref h6, .ref h7, .ref h8, .ref h9, .int 0, .int 0, .ref h10, .ref h11, .ref h12, .int 0, .int 0, .ref h13, .ref h14, .ref h15, .ref h16, .ref h17, .int 0, .ref h18, .ref h19, .ref h20]))] _ _ := hw3
  refine lv_if_ne (tgt := 32) hx hb dX12_numbers_26 (by decide) (fun _ => ?_) (fun c => absurd c (by decide +kernel))
  refine lv_iload_n hx hb dX12_numbers_32 rfl (lv_at hl 3 rfl) ?_
  refine lv_i2l hx hb dX12_numbers_33 rfl ?_
  refine lv_lconst (v := 0) hx hb dX12_numbers_34 (by decide) ?_
  refine lv_ldc2 hx hb hown (ht _ wm_7_82) dX12_numbers_35 ?_
  have g_13177 : (41 : Int64) ≤ ((p1).toInt64) := by
    simp only [q_lc_lt, q_lc_ge, q_lc_gt, q_lc_le, q_lc_eq, Int32.toInt_toInt64, Int64.lt_iff_toInt_lt, Int64.le_iff_toInt_le, ← Int64.toInt_inj, Int32.lt_iff_toInt_lt, Int32.le_iff_toInt_le, ← Int32.toInt_inj] at hlo_p1 ⊢
    have k_0 : (41 : Int32).toInt = 41 := by decide
    have k_g : (41 : Int64).toInt = 41 := by decide
    omega
  refine q_callSi (rest := []) (wr := [(h0, .inr (12, [.int 0, .ref h1, .ref h2, .ref h3, .ref h4, .int 0, .int 0, .int 0, .int 0, .int 0, .int 0, .int 0, .int 0, .int 0, .int (-1), .int 0, .ref h5, .ref h6, .ref h7, .ref h8, .ref h9, .int 0, .int 0, .ref h10, .ref h11, .ref h12, .int 0, .int 0, .ref h13, .ref h14, .ref h15, .ref h16, .ref h17, .int 0, .ref h18, .ref h19, .ref h20]))]) X hK hA hw3 (fun sz => kX12_within_527 l D cy ((p1).toInt64) g_13177 sz) wm_6_50 wm_6_52 wm_1_12 hd_X12_within wm_6_51 ⟨Nat.le_of_ble_eq_true rfl, Nat.le_of_ble_eq_true rfl⟩ hl.1 rfl (Nat.le_of_ble_eq_true rfl) dX12_numbers_38 ⟨Nat.le_of_ble_eq_true rfl, Nat.le_of_ble_eq_true rfl⟩ [] [0] rfl rfl (by decide) rfl rfl (fun r_13178 u_13178 Hp4 lc4 w_13178 hw4 => ?_)
  clear Hp3 lc3 hw3
  obtain rfl : r_13178 = 0 := w_13178
  clear w_13178
  replace hw4 : qW D _ _ [(h0, .inr (12, [.int 0, .ref h1, .ref h2, .ref h3, .ref h4, .int 0, .int 0, .int 0, .int 0, .int 0, .int 0, .int 0, .int 0, .int 0, .int (-1), .int 0, .ref h5, .ref h6, .ref h7, .ref h8, .ref h9, .int 0, .int 0, .ref h10, .ref h11, .ref h12, .int 0, .int 0, .ref h13, .ref h14, .ref h15, .ref h16, .ref h17, .int 0, .ref h18, .ref h19, .ref h20]))] _ _ := hw4
  refine lv_if_ne (tgt := 47) hx hb dX12_numbers_41 (by decide) (fun c => absurd c (by decide +kernel)) (fun _ => ?_)
  refine lv_bipush (v := (-3)) hx hb dX12_numbers_44 (by decide) ?_
  exact q_iret X hr hlk hK hw4 rfl qu0 rfl [] rfl rfl dX12_numbers_46 (Nat.le_of_ble_eq_true rfl) (Nat.le_of_ble_eq_true rfl)
set_option maxHeartbeats 4000000 in
set_option maxRecDepth 100000 in
theorem kX11_numbers_549 (l : Launch) (D : va_G) (cy : Nat → ClassId) (h0 : Nat) (p0 : Int32) (p1 : Int32) (h1 : Nat) (h2 : Nat) (h3 : Nat) (h4 : Nat) (h5 : Nat) (h6 : Nat) (h7 : Nat) (h8 : Nat) (h9 : Nat) (h10 : Nat) (h11 : Nat) (h12 : Nat) (h13 : Nat) (hlo_p0 : (4 : Int32) ≤ p0) (sz : Nat) : MI l yX11_numbers cX11_numbers 4 .int { frames := 1, cells := 0, slots := 0, locals := 21 } [.ref h0, .int 2, .int p0, .int p1] D cy [(h0, .inr (11, [.ref h1, .int 0, .int 0, .int (-1), .ref h2, .ref h3, .ref h4, .ref h5, .ref h6, .ref h7, .ref h8, .ref h9, .ref h10, .ref h11, .ref h12, .ref h13, .int 0]))] sz (fun r u => r = (-2)) (fun u => []) 0 0 := by
  refine q_ent (own := RX11) (by decide) rfl (Nat.le_of_ble_eq_true rfl) (fun p e s m below meth c ls X hr hlk hnm hK h hA hl => ?_)
  obtain ⟨hx, hb, hml, hown, ht⟩ := id X
  replace hl : lv_has ls 4 [(0, .ref h0), (1, .int 2), (2, .int p0), (3, .int p1)] := hl
  refine lv_aload_n hx hb dX11_numbers_0 rfl (lv_at hl 0 rfl) ?_
  refine lv_iload_n hx hb dX11_numbers_1 rfl (lv_at hl 1 rfl) ?_
  refine q_callVi (rest := []) (wr := []) X hK hA h (fun sz => kX11_isTray_170 l D cy h0 h1 h2 h3 h4 h5 h6 h7 h8 h9 h10 h11 h12 h13  sz) wm_4_83 wm_4_86 wm_1_1 hd_X11_isTray wm_4_85 wp_3_1 (ci := 11) (q0 := 0) rfl rfl ⟨Nat.le_of_ble_eq_true rfl, Nat.le_of_ble_eq_true rfl⟩ hl.1 rfl (Nat.le_of_ble_eq_true rfl) dX11_numbers_2 ⟨Nat.le_of_ble_eq_true rfl, Nat.le_of_ble_eq_true rfl⟩ [0] [] rfl rfl (by decide) rfl rfl (fun r_13209 u_13209 Hp1 lc1 w_13209 hw1 => ?_)
  clear h
  obtain rfl : r_13209 = 1 := w_13209
  clear w_13209
  replace hw1 : qW D _ _ [(h0, .inr (11, [.ref h1, .int 0, .int 0, .int (-1), .ref h2, .ref h3, .ref h4, .ref h5, .ref h6, .ref h7, .ref h8, .ref h9, .ref h10, .ref h11, .ref h12, .ref h13, .int 0]))] _ _ := hw1
  refine lv_if_eq (tgt := 17) hx hb dX11_numbers_5 (by decide) (fun c => absurd c (by decide +kernel)) (fun _ => ?_)
  refine lv_iload_n hx hb dX11_numbers_8 rfl (lv_at hl 2 rfl) ?_
  refine lv_if_lt (tgt := 17) hx hb dX11_numbers_9 (by decide) (fun c_13210 => ?_) (fun c_13210 => ?_)
  · exfalso
    simp only [Int32.lt_iff_toInt_lt, Int32.le_iff_toInt_le, ← Int32.toInt_inj] at hlo_p0 c_13210
    have k_0 : (4 : Int32).toInt = 4 := by decide
    have k_1 : (0 : Int32).toInt = 0 := by decide
    omega
  · refine lv_iload_n hx hb dX11_numbers_12 rfl (lv_at hl 2 rfl) ?_
    refine lv_iconst (v := 4) hx hb dX11_numbers_13 (by decide) ?_
    refine lv_icmp_lt (tgt := 20) hx hb dX11_numbers_14 (by decide) (fun c_13211 => ?_) (fun c_13211 => ?_)
    · exfalso
      simp only [Int32.lt_iff_toInt_lt, Int32.le_iff_toInt_le, ← Int32.toInt_inj] at hlo_p0 c_13210 c_13211
      have k_0 : (4 : Int32).toInt = 4 := by decide
      have k_1 : (0 : Int32).toInt = 0 := by decide
      omega
    · refine lv_bipush (v := (-2)) hx hb dX11_numbers_17 (by decide) ?_
      exact q_iret X hr hlk hK hw1 rfl qu0 rfl [] rfl rfl dX11_numbers_19 (Nat.le_of_ble_eq_true rfl) (Nat.le_of_ble_eq_true rfl)
set_option maxHeartbeats 4000000 in
set_option maxRecDepth 100000 in
theorem kX12_numbers_550 (l : Launch) (D : va_G) (cy : Nat → ClassId) (h0 : Nat) (p0 : Int32) (p1 : Int32) (h1 : Nat) (h2 : Nat) (h3 : Nat) (h4 : Nat) (h5 : Nat) (h6 : Nat) (h7 : Nat) (h8 : Nat) (h9 : Nat) (h10 : Nat) (h11 : Nat) (h12 : Nat) (h13 : Nat) (h14 : Nat) (h15 : Nat) (h16 : Nat) (h17 : Nat) (h18 : Nat) (h19 : Nat) (h20 : Nat) (hlo_p0 : (4 : Int32) ≤ p0) (sz : Nat) : MI l yX12_numbers cX12_numbers 5 .int { frames := 1, cells := 0, slots := 0, locals := 25 } [.ref h0, .int 2, .int p0, .int p1] D cy [(h0, .inr (12, [.int 0, .ref h1, .ref h2, .ref h3, .ref h4, .int 0, .int 0, .int 0, .int 0, .int 0, .int 0, .int 0, .int 0, .int 0, .int (-1), .int 0, .ref h5, .ref h6, .ref h7, .ref h8, .ref h9, .int 0, .int 0, .ref h10, .ref h11, .ref h12, .int 0, .int 0, .ref h13, .ref h14, .ref h15, .ref h16, .ref h17, .int 0, .ref h18, .ref h19, .ref h20]))] sz (fun r u => r = (-2)) (fun u => []) 0 0 := by
  refine q_ent (own := RX12) (by decide) rfl (Nat.le_of_ble_eq_true rfl) (fun p e s m below meth c ls X hr hlk hnm hK h hA hl => ?_)
  obtain ⟨hx, hb, hml, hown, ht⟩ := id X
  replace hl : lv_has ls 5 [(0, .ref h0), (1, .int 2), (2, .int p0), (3, .int p1)] := hl
  refine lv_aload_n hx hb dX12_numbers_0 rfl (lv_at hl 0 rfl) ?_
  refine lv_iconst (v := 0) hx hb dX12_numbers_1 (by decide) ?_
  refine q_put (v := .int 0) X hK h 0 rfl rfl wf_12 tyX12 tyX12_ok nmX12 0 (by decide) wm_5_170 rfl rfl rfl (Nat.le_of_ble_eq_true rfl) dX12_numbers_2 (fun Hp1 lc1 hw1 => ?_)
  clear h
  replace hw1 : qW D _ _ [(h0, .inr (12, [.int 0, .ref h1, .ref h2, .ref h3, .ref h4, .int 0, .int 0, .int 0, .int 0, .int 0, .int 0, .int 0, .int 0, .int 0, .int (-1), .int 0, .ref h5, .ref h6, .ref h7, .ref h8, .ref h9, .int 0, .int 0, .ref h10, .ref h11, .ref h12, .int 0, .int 0, .ref h13, .ref h14, .ref h15, .ref h16, .ref h17, .int 0, .ref h18, .ref h19, .ref h20]))] _ _ := hw1
  refine lv_iload_n hx hb dX12_numbers_5 rfl (lv_at hl 1 rfl) ?_
  refine lv_i2l (v := 2) hx hb dX12_numbers_6 (by decide +kernel) ?_
  refine lv_lconst (v := 0) hx hb dX12_numbers_7 (by decide) ?_
  refine lv_ldc2 hx hb hown (ht _ wm_7_29) dX12_numbers_8 ?_
  refine q_callSi (rest := []) (wr := [(h0, .inr (12, [.int 0, .ref h1, .ref h2, .ref h3, .ref h4, .int 0, .int 0, .int 0, .int 0, .int 0, .int 0, .int 0, .int 0, .int 0, .int (-1), .int 0, .ref h5, .ref h6, .ref h7, .ref h8, .ref h9, .int 0, .int 0, .ref h10, .ref h11, .ref h12, .int 0, .int 0, .ref h13, .ref h14, .ref h15, .ref h16, .ref h17, .int 0, .ref h18, .ref h19, .ref h20]))]) X hK hA hw1 (fun sz => kX12_within_174 l D cy   sz) wm_6_50 wm_6_52 wm_1_12 hd_X12_within wm_6_51 ⟨Nat.le_of_ble_eq_true rfl, Nat.le_of_ble_eq_true rfl⟩ hl.1 rfl (Nat.le_of_ble_eq_true rfl) dX12_numbers_11 ⟨Nat.le_of_ble_eq_true rfl, Nat.le_of_ble_eq_true rfl⟩ [] [0] rfl rfl (by decide) rfl rfl (fun r_13222 u_13222 Hp2 lc2 w_13222 hw2 => ?_)
  clear Hp1 lc1 hw1
  obtain rfl : r_13222 = 1 := w_13222
  clear w_13222
  replace hw2 : qW D _ _ [(h0, .inr (12, [.int 0, .ref h1, .ref h2, .ref h3, .ref h4, .int 0, .int 0, .int 0, .int 0, .int 0, .int 0, .int 0, .int 0, .int 0, .int (-1), .int 0, .ref h5, .ref h6, .ref h7, .ref h8, .ref h9, .int 0, .int 0, .ref h10, .ref h11, .ref h12, .int 0, .int 0, .ref h13, .ref h14, .ref h15, .ref h16, .ref h17, .int 0, .ref h18, .ref h19, .ref h20]))] _ _ := hw2
  refine lv_if_eq (tgt := 29) hx hb dX12_numbers_14 (by decide) (fun c => absurd c (by decide +kernel)) (fun _ => ?_)
  refine lv_iload_n hx hb dX12_numbers_17 rfl (lv_at hl 2 rfl) ?_
  refine lv_i2l hx hb dX12_numbers_18 rfl ?_
  refine lv_lconst (v := 0) hx hb dX12_numbers_19 (by decide) ?_
  refine lv_ldc2 hx hb hown (ht _ wm_7_29) dX12_numbers_20 ?_
  have g_13225 : (4 : Int64) ≤ ((p0).toInt64) := by
    simp only [q_lc_lt, q_lc_ge, q_lc_gt, q_lc_le, q_lc_eq, Int32.toInt_toInt64, Int64.lt_iff_toInt_lt, Int64.le_iff_toInt_le, ← Int64.toInt_inj, Int32.lt_iff_toInt_lt, Int32.le_iff_toInt_le, ← Int32.toInt_inj] at hlo_p0 ⊢
    have k_0 : (4 : Int32).toInt = 4 := by decide
    have k_g : (4 : Int64).toInt = 4 := by decide
    omega
  refine q_callSi (rest := []) (wr := [(h0, .inr (12, [.int 0, .ref h1, .ref h2, .ref h3, .ref h4, .int 0, .int 0, .int 0, .int 0, .int 0, .int 0, .int 0, .int 0, .int 0, .int (-1), .int 0, .ref h5, .ref h6, .ref h7, .ref h8, .ref h9, .int 0, .int 0, .ref h10, .ref h11, .ref h12, .int 0, .int 0, .ref h13, .ref h14, .ref h15, .ref h16, .ref h17, .int 0, .ref h18, .ref h19, .ref h20]))]) X hK hA hw2 (fun sz => kX12_within_147 l D cy ((p0).toInt64) g_13225 sz) wm_6_50 wm_6_52 wm_1_12 hd_X12_within wm_6_51 ⟨Nat.le_of_ble_eq_true rfl, Nat.le_of_ble_eq_true rfl⟩ hl.1 rfl (Nat.le_of_ble_eq_true rfl) dX12_numbers_23 ⟨Nat.le_of_ble_eq_true rfl, Nat.le_of_ble_eq_true rfl⟩ [] [0] rfl rfl (by decide) rfl rfl (fun r_13226 u_13226 Hp3 lc3 w_13226 hw3 => ?_)
  clear Hp2 lc2 hw2
  obtain rfl : r_13226 = 0 := w_13226
  clear w_13226
  replace hw3 : qW D _ _ [(h0, .inr (12, [.int 0, .ref h1, .ref h2, .ref h3, .ref h4, .int 0, .int 0, .int 0, .int 0, .int 0, .int 0, .int 0, .int 0, .int 0, .int (-1), .int 0, .ref h5, .ref h6, .ref h7, .ref h8, .ref h9, .int 0, .int 0, .ref h10, .ref h11, .ref h12, .int 0, .int 0, .ref h13, .ref h14, .ref h15, .ref h16, .ref h17, .int 0, .ref h18, .ref h19, .ref h20]))] _ _ := hw3
  refine lv_if_ne (tgt := 32) hx hb dX12_numbers_26 (by decide) (fun c => absurd c (by decide +kernel)) (fun _ => ?_)
  refine lv_bipush (v := (-2)) hx hb dX12_numbers_29 (by decide) ?_
  exact q_iret X hr hlk hK hw3 rfl qu0 rfl [] rfl rfl dX12_numbers_31 (Nat.le_of_ble_eq_true rfl) (Nat.le_of_ble_eq_true rfl)
set_option maxHeartbeats 4000000 in
set_option maxRecDepth 100000 in
theorem kX11_numbers_551 (l : Launch) (D : va_G) (cy : Nat → ClassId) (h0 : Nat) (p0 : Int32) (p1 : Int32) (h1 : Nat) (h2 : Nat) (h3 : Nat) (h4 : Nat) (h5 : Nat) (h6 : Nat) (h7 : Nat) (h8 : Nat) (h9 : Nat) (h10 : Nat) (h11 : Nat) (h12 : Nat) (h13 : Nat) (hhi_p0 : p0 ≤ ((-1) : Int32)) (sz : Nat) : MI l yX11_numbers cX11_numbers 4 .int { frames := 1, cells := 0, slots := 0, locals := 21 } [.ref h0, .int 3, .int p0, .int p1] D cy [(h0, .inr (11, [.ref h1, .int 0, .int 0, .int (-1), .ref h2, .ref h3, .ref h4, .ref h5, .ref h6, .ref h7, .ref h8, .ref h9, .ref h10, .ref h11, .ref h12, .ref h13, .int 0]))] sz (fun r u => r = (-2)) (fun u => []) 0 0 := by
  refine q_ent (own := RX11) (by decide) rfl (Nat.le_of_ble_eq_true rfl) (fun p e s m below meth c ls X hr hlk hnm hK h hA hl => ?_)
  obtain ⟨hx, hb, hml, hown, ht⟩ := id X
  replace hl : lv_has ls 4 [(0, .ref h0), (1, .int 3), (2, .int p0), (3, .int p1)] := hl
  refine lv_aload_n hx hb dX11_numbers_0 rfl (lv_at hl 0 rfl) ?_
  refine lv_iload_n hx hb dX11_numbers_1 rfl (lv_at hl 1 rfl) ?_
  refine q_callVi (rest := []) (wr := []) X hK hA h (fun sz => kX11_isTray_180 l D cy h0 h1 h2 h3 h4 h5 h6 h7 h8 h9 h10 h11 h12 h13  sz) wm_4_83 wm_4_86 wm_1_1 hd_X11_isTray wm_4_85 wp_3_1 (ci := 11) (q0 := 0) rfl rfl ⟨Nat.le_of_ble_eq_true rfl, Nat.le_of_ble_eq_true rfl⟩ hl.1 rfl (Nat.le_of_ble_eq_true rfl) dX11_numbers_2 ⟨Nat.le_of_ble_eq_true rfl, Nat.le_of_ble_eq_true rfl⟩ [0] [] rfl rfl (by decide) rfl rfl (fun r_13267 u_13267 Hp1 lc1 w_13267 hw1 => ?_)
  clear h
  obtain rfl : r_13267 = 1 := w_13267
  clear w_13267
  replace hw1 : qW D _ _ [(h0, .inr (11, [.ref h1, .int 0, .int 0, .int (-1), .ref h2, .ref h3, .ref h4, .ref h5, .ref h6, .ref h7, .ref h8, .ref h9, .ref h10, .ref h11, .ref h12, .ref h13, .int 0]))] _ _ := hw1
  refine lv_if_eq (tgt := 17) hx hb dX11_numbers_5 (by decide) (fun c => absurd c (by decide +kernel)) (fun _ => ?_)
  refine lv_iload_n hx hb dX11_numbers_8 rfl (lv_at hl 2 rfl) ?_
  refine lv_if_lt (tgt := 17) hx hb dX11_numbers_9 (by decide) (fun c_13268 => ?_) (fun c_13268 => ?_)
  · refine lv_bipush (v := (-2)) hx hb dX11_numbers_17 (by decide) ?_
    exact q_iret X hr hlk hK hw1 rfl qu0 rfl [] rfl rfl dX11_numbers_19 (Nat.le_of_ble_eq_true rfl) (Nat.le_of_ble_eq_true rfl)
  · exfalso
    simp only [Int32.lt_iff_toInt_lt, Int32.le_iff_toInt_le, ← Int32.toInt_inj] at hhi_p0 c_13268
    have k_0 : ((-1) : Int32).toInt = -1 := by decide
    have k_1 : (0 : Int32).toInt = 0 := by decide
    omega
set_option maxHeartbeats 4000000 in
set_option maxRecDepth 100000 in
theorem kX12_numbers_552 (l : Launch) (D : va_G) (cy : Nat → ClassId) (h0 : Nat) (p0 : Int32) (p1 : Int32) (h1 : Nat) (h2 : Nat) (h3 : Nat) (h4 : Nat) (h5 : Nat) (h6 : Nat) (h7 : Nat) (h8 : Nat) (h9 : Nat) (h10 : Nat) (h11 : Nat) (h12 : Nat) (h13 : Nat) (h14 : Nat) (h15 : Nat) (h16 : Nat) (h17 : Nat) (h18 : Nat) (h19 : Nat) (h20 : Nat) (hhi_p0 : p0 ≤ ((-1) : Int32)) (sz : Nat) : MI l yX12_numbers cX12_numbers 5 .int { frames := 1, cells := 0, slots := 0, locals := 25 } [.ref h0, .int 3, .int p0, .int p1] D cy [(h0, .inr (12, [.int 0, .ref h1, .ref h2, .ref h3, .ref h4, .int 0, .int 0, .int 0, .int 0, .int 0, .int 0, .int 0, .int 0, .int 0, .int (-1), .int 0, .ref h5, .ref h6, .ref h7, .ref h8, .ref h9, .int 0, .int 0, .ref h10, .ref h11, .ref h12, .int 0, .int 0, .ref h13, .ref h14, .ref h15, .ref h16, .ref h17, .int 0, .ref h18, .ref h19, .ref h20]))] sz (fun r u => r = (-2)) (fun u => []) 0 0 := by
  refine q_ent (own := RX12) (by decide) rfl (Nat.le_of_ble_eq_true rfl) (fun p e s m below meth c ls X hr hlk hnm hK h hA hl => ?_)
  obtain ⟨hx, hb, hml, hown, ht⟩ := id X
  replace hl : lv_has ls 5 [(0, .ref h0), (1, .int 3), (2, .int p0), (3, .int p1)] := hl
  refine lv_aload_n hx hb dX12_numbers_0 rfl (lv_at hl 0 rfl) ?_
  refine lv_iconst (v := 0) hx hb dX12_numbers_1 (by decide) ?_
  refine q_put (v := .int 0) X hK h 0 rfl rfl wf_12 tyX12 tyX12_ok nmX12 0 (by decide) wm_5_170 rfl rfl rfl (Nat.le_of_ble_eq_true rfl) dX12_numbers_2 (fun Hp1 lc1 hw1 => ?_)
  clear h
  replace hw1 : qW D _ _ [(h0, .inr (12, [.int 0, .ref h1, .ref h2, .ref h3, .ref h4, .int 0, .int 0, .int 0, .int 0, .int 0, .int 0, .int 0, .int 0, .int 0, .int (-1), .int 0, .ref h5, .ref h6, .ref h7, .ref h8, .ref h9, .int 0, .int 0, .ref h10, .ref h11, .ref h12, .int 0, .int 0, .ref h13, .ref h14, .ref h15, .ref h16, .ref h17, .int 0, .ref h18, .ref h19, .ref h20]))] _ _ := hw1
  refine lv_iload_n hx hb dX12_numbers_5 rfl (lv_at hl 1 rfl) ?_
  refine lv_i2l (v := 3) hx hb dX12_numbers_6 (by decide +kernel) ?_
  refine lv_lconst (v := 0) hx hb dX12_numbers_7 (by decide) ?_
  refine lv_ldc2 hx hb hown (ht _ wm_7_29) dX12_numbers_8 ?_
  refine q_callSi (rest := []) (wr := [(h0, .inr (12, [.int 0, .ref h1, .ref h2, .ref h3, .ref h4, .int 0, .int 0, .int 0, .int 0, .int 0, .int 0, .int 0, .int 0, .int 0, .int (-1), .int 0, .ref h5, .ref h6, .ref h7, .ref h8, .ref h9, .int 0, .int 0, .ref h10, .ref h11, .ref h12, .int 0, .int 0, .ref h13, .ref h14, .ref h15, .ref h16, .ref h17, .int 0, .ref h18, .ref h19, .ref h20]))]) X hK hA hw1 (fun sz => kX12_within_184 l D cy   sz) wm_6_50 wm_6_52 wm_1_12 hd_X12_within wm_6_51 ⟨Nat.le_of_ble_eq_true rfl, Nat.le_of_ble_eq_true rfl⟩ hl.1 rfl (Nat.le_of_ble_eq_true rfl) dX12_numbers_11 ⟨Nat.le_of_ble_eq_true rfl, Nat.le_of_ble_eq_true rfl⟩ [] [0] rfl rfl (by decide) rfl rfl (fun r_13277 u_13277 Hp2 lc2 w_13277 hw2 => ?_)
  clear Hp1 lc1 hw1
  obtain rfl : r_13277 = 1 := w_13277
  clear w_13277
  replace hw2 : qW D _ _ [(h0, .inr (12, [.int 0, .ref h1, .ref h2, .ref h3, .ref h4, .int 0, .int 0, .int 0, .int 0, .int 0, .int 0, .int 0, .int 0, .int 0, .int (-1), .int 0, .ref h5, .ref h6, .ref h7, .ref h8, .ref h9, .int 0, .int 0, .ref h10, .ref h11, .ref h12, .int 0, .int 0, .ref h13, .ref h14, .ref h15, .ref h16, .ref h17, .int 0, .ref h18, .ref h19, .ref h20]))] _ _ := hw2
  refine lv_if_eq (tgt := 29) hx hb dX12_numbers_14 (by decide) (fun c => absurd c (by decide +kernel)) (fun _ => ?_)
  refine lv_iload_n hx hb dX12_numbers_17 rfl (lv_at hl 2 rfl) ?_
  refine lv_i2l hx hb dX12_numbers_18 rfl ?_
  refine lv_lconst (v := 0) hx hb dX12_numbers_19 (by decide) ?_
  refine lv_ldc2 hx hb hown (ht _ wm_7_29) dX12_numbers_20 ?_
  have g_13279 : ((p0).toInt64) ≤ ((-1) : Int64) := by
    simp only [q_lc_lt, q_lc_ge, q_lc_gt, q_lc_le, q_lc_eq, Int32.toInt_toInt64, Int64.lt_iff_toInt_lt, Int64.le_iff_toInt_le, ← Int64.toInt_inj, Int32.lt_iff_toInt_lt, Int32.le_iff_toInt_le, ← Int32.toInt_inj] at hhi_p0 ⊢
    have k_0 : ((-1) : Int32).toInt = -1 := by decide
    have k_g : ((-1) : Int64).toInt = -1 := by decide
    omega
  refine q_callSi (rest := []) (wr := [(h0, .inr (12, [.int 0, .ref h1, .ref h2, .ref h3, .ref h4, .int 0, .int 0, .int 0, .int 0, .int 0, .int 0, .int 0, .int 0, .int 0, .int (-1), .int 0, .ref h5, .ref h6, .ref h7, .ref h8, .ref h9, .int 0, .int 0, .ref h10, .ref h11, .ref h12, .int 0, .int 0, .ref h13, .ref h14, .ref h15, .ref h16, .ref h17, .int 0, .ref h18, .ref h19, .ref h20]))]) X hK hA hw2 (fun sz => kX12_within_140 l D cy ((p0).toInt64) g_13279 sz) wm_6_50 wm_6_52 wm_1_12 hd_X12_within wm_6_51 ⟨Nat.le_of_ble_eq_true rfl, Nat.le_of_ble_eq_true rfl⟩ hl.1 rfl (Nat.le_of_ble_eq_true rfl) dX12_numbers_23 ⟨Nat.le_of_ble_eq_true rfl, Nat.le_of_ble_eq_true rfl⟩ [] [0] rfl rfl (by decide) rfl rfl (fun r_13280 u_13280 Hp3 lc3 w_13280 hw3 => ?_)
  clear Hp2 lc2 hw2
  obtain rfl : r_13280 = 0 := w_13280
  clear w_13280
  replace hw3 : qW D _ _ [(h0, .inr (12, [.int 0, .ref h1, .ref h2, .ref h3, .ref h4, .int 0, .int 0, .int 0, .int 0, .int 0, .int 0, .int 0, .int 0, .int 0, .int (-1), .int 0, .ref h5, .ref h6, .ref h7, .ref h8, .ref h9, .int 0, .int 0, .ref h10, .ref h11, .ref h12, .int 0, .int 0, .ref h13, .ref h14, .ref h15, .ref h16, .ref h17, .int 0, .ref h18, .ref h19, .ref h20]))] _ _ := hw3
  refine lv_if_ne (tgt := 32) hx hb dX12_numbers_26 (by decide) (fun c => absurd c (by decide +kernel)) (fun _ => ?_)
  refine lv_bipush (v := (-2)) hx hb dX12_numbers_29 (by decide) ?_
  exact q_iret X hr hlk hK hw3 rfl qu0 rfl [] rfl rfl dX12_numbers_31 (Nat.le_of_ble_eq_true rfl) (Nat.le_of_ble_eq_true rfl)
set_option maxHeartbeats 4000000 in
set_option maxRecDepth 100000 in
theorem kX11_numbers_553 (l : Launch) (D : va_G) (cy : Nat → ClassId) (h0 : Nat) (p0 : Int32) (p1 : Int32) (h1 : Nat) (h2 : Nat) (h3 : Nat) (h4 : Nat) (h5 : Nat) (h6 : Nat) (h7 : Nat) (h8 : Nat) (h9 : Nat) (h10 : Nat) (h11 : Nat) (h12 : Nat) (h13 : Nat) (hlo_p0 : (0 : Int32) ≤ p0) (hhi_p0 : p0 ≤ (3 : Int32)) (hhi_p1 : p1 ≤ ((-1) : Int32)) (sz : Nat) : MI l yX11_numbers cX11_numbers 4 .int { frames := 1, cells := 0, slots := 0, locals := 21 } [.ref h0, .int 3, .int p0, .int p1] D cy [(h0, .inr (11, [.ref h1, .int 0, .int 0, .int (-1), .ref h2, .ref h3, .ref h4, .ref h5, .ref h6, .ref h7, .ref h8, .ref h9, .ref h10, .ref h11, .ref h12, .ref h13, .int 0]))] sz (fun r u => r = (-3)) (fun u => []) 0 0 := by
  refine q_ent (own := RX11) (by decide) rfl (Nat.le_of_ble_eq_true rfl) (fun p e s m below meth c ls X hr hlk hnm hK h hA hl => ?_)
  obtain ⟨hx, hb, hml, hown, ht⟩ := id X
  replace hl : lv_has ls 4 [(0, .ref h0), (1, .int 3), (2, .int p0), (3, .int p1)] := hl
  refine lv_aload_n hx hb dX11_numbers_0 rfl (lv_at hl 0 rfl) ?_
  refine lv_iload_n hx hb dX11_numbers_1 rfl (lv_at hl 1 rfl) ?_
  refine q_callVi (rest := []) (wr := []) X hK hA h (fun sz => kX11_isTray_180 l D cy h0 h1 h2 h3 h4 h5 h6 h7 h8 h9 h10 h11 h12 h13  sz) wm_4_83 wm_4_86 wm_1_1 hd_X11_isTray wm_4_85 wp_3_1 (ci := 11) (q0 := 0) rfl rfl ⟨Nat.le_of_ble_eq_true rfl, Nat.le_of_ble_eq_true rfl⟩ hl.1 rfl (Nat.le_of_ble_eq_true rfl) dX11_numbers_2 ⟨Nat.le_of_ble_eq_true rfl, Nat.le_of_ble_eq_true rfl⟩ [0] [] rfl rfl (by decide) rfl rfl (fun r_13323 u_13323 Hp1 lc1 w_13323 hw1 => ?_)
  clear h
  obtain rfl : r_13323 = 1 := w_13323
  clear w_13323
  replace hw1 : qW D _ _ [(h0, .inr (11, [.ref h1, .int 0, .int 0, .int (-1), .ref h2, .ref h3, .ref h4, .ref h5, .ref h6, .ref h7, .ref h8, .ref h9, .ref h10, .ref h11, .ref h12, .ref h13, .int 0]))] _ _ := hw1
  refine lv_if_eq (tgt := 17) hx hb dX11_numbers_5 (by decide) (fun c => absurd c (by decide +kernel)) (fun _ => ?_)
  refine lv_iload_n hx hb dX11_numbers_8 rfl (lv_at hl 2 rfl) ?_
  refine lv_if_lt (tgt := 17) hx hb dX11_numbers_9 (by decide) (fun c_13324 => ?_) (fun c_13324 => ?_)
  · exfalso
    simp only [Int32.lt_iff_toInt_lt, Int32.le_iff_toInt_le, ← Int32.toInt_inj] at hlo_p0 hhi_p0 c_13324
    have k_0 : (0 : Int32).toInt = 0 := by decide
    have k_1 : (3 : Int32).toInt = 3 := by decide
    omega
  · refine lv_iload_n hx hb dX11_numbers_12 rfl (lv_at hl 2 rfl) ?_
    refine lv_iconst (v := 4) hx hb dX11_numbers_13 (by decide) ?_
    refine lv_icmp_lt (tgt := 20) hx hb dX11_numbers_14 (by decide) (fun c_13325 => ?_) (fun c_13325 => ?_)
    · refine lv_iload_n hx hb dX11_numbers_20 rfl (lv_at hl 3 rfl) ?_
      refine lv_if_lt (tgt := 30) hx hb dX11_numbers_21 (by decide) (fun c_13326 => ?_) (fun c_13326 => ?_)
      · refine lv_bipush (v := (-3)) hx hb dX11_numbers_30 (by decide) ?_
        exact q_iret X hr hlk hK hw1 rfl qu0 rfl [] rfl rfl dX11_numbers_32 (Nat.le_of_ble_eq_true rfl) (Nat.le_of_ble_eq_true rfl)
      · exfalso
        simp only [Int32.lt_iff_toInt_lt, Int32.le_iff_toInt_le, ← Int32.toInt_inj] at hhi_p1 c_13326
        have k_0 : ((-1) : Int32).toInt = -1 := by decide
        have k_1 : (0 : Int32).toInt = 0 := by decide
        omega
    · exfalso
      simp only [Int32.lt_iff_toInt_lt, Int32.le_iff_toInt_le, ← Int32.toInt_inj] at hlo_p0 hhi_p0 c_13324 c_13325
      have k_0 : (0 : Int32).toInt = 0 := by decide
      have k_1 : (3 : Int32).toInt = 3 := by decide
      have k_2 : (4 : Int32).toInt = 4 := by decide
      omega
