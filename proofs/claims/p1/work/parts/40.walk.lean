set_option maxHeartbeats 4000000 in
set_option maxRecDepth 100000 in
theorem kX12_reserve_686 (l : Launch) (D : va_G) (cy : Nat → ClassId) (h0 : Nat) (h1 : Nat) (p0 : Int32) (h2 : Nat) (h3 : Nat) (h4 : Nat) (h5 : Nat) (h6 : Nat) (h7 : Nat) (h8 : Nat) (h9 : Nat) (h10 : Nat) (h11 : Nat) (h12 : Nat) (h13 : Nat) (h14 : Nat) (h15 : Nat) (h16 : Nat) (h17 : Nat) (h18 : Nat) (h19 : Nat) (h20 : Nat) (f0 : Nat → Int32) (hne_p0_0 : ¬ p0 = (0 : Int32)) (hf_f0_2 : f0 (Int32.toNatClampNeg 2) = 0) (sz : Nat) : MI l yX12_reserve cX12_reserve 9 .int { frames := 2, cells := 0, slots := 0, locals := 41 } [.ref h0, .int p0] D cy [(h0, .inr (12, [.int 0, .ref h1, .ref h2, .ref h3, .ref h4, .int 0, .int 0, .int 0, .int 0, .int 0, .int 0, .int 0, .int 0, .int 0, .int (-1), .int 0, .ref h5, .ref h6, .ref h7, .ref h8, .ref h9, .int 0, .int 0, .ref h10, .ref h11, .ref h12, .int 0, .int 0, .ref h13, .ref h14, .ref h15, .ref h16, .ref h17, .int 0, .ref h18, .ref h19, .ref h20])), (h1, .inl (cy 1, 3918, .inl f0))] sz (fun r u => r = (-3)) (fun u => [(h0, .inr (12, [.int 0, .ref h1, .ref h2, .ref h3, .ref h4, .int 0, .int 0, .int 0, .int 0, .int 0, .int 0, .int 0, .int 0, .int 0, .int (-1), .int 0, .ref h5, .ref h6, .ref h7, .ref h8, .ref h9, .int 0, .int 0, .ref h10, .ref h11, .ref h12, .int 0, .int 0, .ref h13, .ref h14, .ref h15, .ref h16, .ref h17, .int 0, .ref h18, .ref h19, .ref h20])), (h1, .inl (cy 1, 3918, .inl f0))]) 0 0 := by
  refine q_ent (own := RX12) (by decide) rfl (Nat.le_of_ble_eq_true rfl) (fun p e s m below meth c ls X hr hlk hnm hK h hA hl => ?_)
  obtain ⟨hx, hb, hml, hown, ht⟩ := id X
  have hl : lv_has ls 9 [(0, .ref h0), (1, .int p0)] := hl
  refine lv_aload_n hx hb dX12_reserve_0 rfl (lv_at hl 0 rfl) ?_
  refine lv_iconst (v := 0) hx hb dX12_reserve_1 (by decide) ?_
  refine q_put (v := .int 0) X hK h 0 rfl rfl wf_12 tyX12 tyX12_ok nmX12 0 (by decide) wm_5_170 rfl rfl rfl (Nat.le_of_ble_eq_true rfl) dX12_reserve_2 (fun H locs h => ?_)
  have h : qW D _ _ [(h0, .inr (12, [.int 0, .ref h1, .ref h2, .ref h3, .ref h4, .int 0, .int 0, .int 0, .int 0, .int 0, .int 0, .int 0, .int 0, .int 0, .int (-1), .int 0, .ref h5, .ref h6, .ref h7, .ref h8, .ref h9, .int 0, .int 0, .ref h10, .ref h11, .ref h12, .int 0, .int 0, .ref h13, .ref h14, .ref h15, .ref h16, .ref h17, .int 0, .ref h18, .ref h19, .ref h20])), (h1, .inl (cy 1, 3918, .inl f0))] _ _ := h
  refine lv_aload_n hx hb dX12_reserve_5 rfl (lv_at hl 0 rfl) ?_
  refine lv_iload_n hx hb dX12_reserve_6 rfl (lv_at hl 1 rfl) ?_
  have g_10282 : ¬ p0 = (0 : Int32) := by
    simp only [Int32.lt_iff_toInt_lt, Int32.le_iff_toInt_le, ← Int32.toInt_inj] at hne_p0_0 ⊢
    have k_0 : (0 : Int32).toInt = 0 := by decide
    omega
  refine q_callVi (rest := []) (wr := []) X hK hA h (fun sz => kX12_isSet_557 l D cy h0 h1 p0 h2 h3 h4 h5 h6 h7 h8 h9 h10 h11 h12 h13 h14 h15 h16 h17 h18 h19 h20 f0 g_10282 hf_f0_2 sz) wm_7_96 wm_7_99 wm_1_12 hd_X12_isSet wm_7_98 wp_7_1 (ci := 12) (q0 := 0) rfl rfl ⟨Nat.le_of_ble_eq_true rfl, Nat.le_of_ble_eq_true rfl⟩ hl.1 rfl (Nat.le_of_ble_eq_true rfl) dX12_reserve_7 ⟨Nat.le_of_ble_eq_true rfl, Nat.le_of_ble_eq_true rfl⟩ [0, 1] [] rfl rfl (by decide) rfl rfl (fun r_10283 u_10283 H locs w_10283 h => ?_)
  obtain rfl : r_10283 = 0 := w_10283
  have h : qW D _ _ [(h0, .inr (12, [.int 0, .ref h1, .ref h2, .ref h3, .ref h4, .int 0, .int 0, .int 0, .int 0, .int 0, .int 0, .int 0, .int 0, .int 0, .int (-1), .int 0, .ref h5, .ref h6, .ref h7, .ref h8, .ref h9, .int 0, .int 0, .ref h10, .ref h11, .ref h12, .int 0, .int 0, .ref h13, .ref h14, .ref h15, .ref h16, .ref h17, .int 0, .ref h18, .ref h19, .ref h20])), (h1, .inl (cy 1, 3918, .inl f0))] _ _ := h
  refine lv_if_ne (tgt := 16) hx hb dX12_reserve_10 (by decide) (fun c => absurd c (by decide +kernel)) (fun _ => ?_)
  refine lv_bipush (v := (-3)) hx hb dX12_reserve_13 (by decide) ?_
  exact q_iret X hr hlk hK h rfl (fun _ => 0, fun _ _ => 0, fun _ _ => 0) rfl [0, 1] rfl rfl dX12_reserve_15 (Nat.le_of_ble_eq_true rfl) (Nat.le_of_ble_eq_true rfl)
set_option maxHeartbeats 4000000 in
set_option maxRecDepth 100000 in
theorem kX12_numbers_687 (l : Launch) (D : va_G) (cy : Nat → ClassId) (h0 : Nat) (p0 : Int32) (p1 : Int32) (p2 : Int32) (h1 : Nat) (h2 : Nat) (h3 : Nat) (h4 : Nat) (h5 : Nat) (h6 : Nat) (h7 : Nat) (h8 : Nat) (h9 : Nat) (h10 : Nat) (h11 : Nat) (h12 : Nat) (h13 : Nat) (h14 : Nat) (h15 : Nat) (h16 : Nat) (h17 : Nat) (h18 : Nat) (h19 : Nat) (h20 : Nat) (hhi_p0 : p0 ≤ ((-1) : Int32)) (hhi_p1 : p1 ≤ ((-1) : Int32)) (hhi_p2 : p2 ≤ ((-1) : Int32)) (sz : Nat) : MI l yX12_numbers cX12_numbers 5 .int { frames := 1, cells := 0, slots := 0, locals := 25 } [.ref h0, .int p0, .int p1, .int p2] D cy [(h0, .inr (12, [.int 0, .ref h1, .ref h2, .ref h3, .ref h4, .int 0, .int 0, .int 0, .int 0, .int 0, .int 0, .int 0, .int 0, .int 0, .int (-1), .int 0, .ref h5, .ref h6, .ref h7, .ref h8, .ref h9, .int 0, .int 0, .ref h10, .ref h11, .ref h12, .int 0, .int 0, .ref h13, .ref h14, .ref h15, .ref h16, .ref h17, .int 0, .ref h18, .ref h19, .ref h20]))] sz (fun r u => r = (-2)) (fun u => [(h0, .inr (12, [.int 0, .ref h1, .ref h2, .ref h3, .ref h4, .int 0, .int 0, .int 0, .int 0, .int 0, .int 0, .int 0, .int 0, .int 0, .int (-1), .int 0, .ref h5, .ref h6, .ref h7, .ref h8, .ref h9, .int 0, .int 0, .ref h10, .ref h11, .ref h12, .int 0, .int 0, .ref h13, .ref h14, .ref h15, .ref h16, .ref h17, .int 0, .ref h18, .ref h19, .ref h20]))]) 0 0 := by
  refine q_ent (own := RX12) (by decide) rfl (Nat.le_of_ble_eq_true rfl) (fun p e s m below meth c ls X hr hlk hnm hK h hA hl => ?_)
  obtain ⟨hx, hb, hml, hown, ht⟩ := id X
  have hl : lv_has ls 5 [(0, .ref h0), (1, .int p0), (2, .int p1), (3, .int p2)] := hl
  refine lv_aload_n hx hb dX12_numbers_0 rfl (lv_at hl 0 rfl) ?_
  refine lv_iconst (v := 0) hx hb dX12_numbers_1 (by decide) ?_
  refine q_put (v := .int 0) X hK h 0 rfl rfl wf_12 tyX12 tyX12_ok nmX12 0 (by decide) wm_5_170 rfl rfl rfl (Nat.le_of_ble_eq_true rfl) dX12_numbers_2 (fun H locs h => ?_)
  have h : qW D _ _ [(h0, .inr (12, [.int 0, .ref h1, .ref h2, .ref h3, .ref h4, .int 0, .int 0, .int 0, .int 0, .int 0, .int 0, .int 0, .int 0, .int 0, .int (-1), .int 0, .ref h5, .ref h6, .ref h7, .ref h8, .ref h9, .int 0, .int 0, .ref h10, .ref h11, .ref h12, .int 0, .int 0, .ref h13, .ref h14, .ref h15, .ref h16, .ref h17, .int 0, .ref h18, .ref h19, .ref h20]))] _ _ := h
  refine lv_iload_n hx hb dX12_numbers_5 rfl (lv_at hl 1 rfl) ?_
  refine lv_i2l hx hb dX12_numbers_6 rfl ?_
  refine lv_lconst (v := 0) hx hb dX12_numbers_7 (by decide) ?_
  refine lv_ldc2 hx hb hown (ht _ wm_7_29) dX12_numbers_8 ?_
  have g_10291 : ((p0).toInt64) ≤ ((-1) : Int64) := by
    simp only [q_lc_lt, q_lc_ge, q_lc_gt, q_lc_le, q_lc_eq, Int32.toInt_toInt64, Int64.lt_iff_toInt_lt, Int64.le_iff_toInt_le, ← Int64.toInt_inj, Int32.lt_iff_toInt_lt, Int32.le_iff_toInt_le, ← Int32.toInt_inj] at hhi_p0 ⊢
    have k_0 : ((-1) : Int32).toInt = -1 := by decide
    have k_g : ((-1) : Int64).toInt = -1 := by decide
    omega
  refine q_callSi (rest := []) (wr := [(h0, .inr (12, [.int 0, .ref h1, .ref h2, .ref h3, .ref h4, .int 0, .int 0, .int 0, .int 0, .int 0, .int 0, .int 0, .int 0, .int 0, .int (-1), .int 0, .ref h5, .ref h6, .ref h7, .ref h8, .ref h9, .int 0, .int 0, .ref h10, .ref h11, .ref h12, .int 0, .int 0, .ref h13, .ref h14, .ref h15, .ref h16, .ref h17, .int 0, .ref h18, .ref h19, .ref h20]))]) X hK hA h (fun sz => kX12_within_495 l D cy ((p0).toInt64) g_10291 sz) wm_6_50 wm_6_52 wm_1_12 hd_X12_within wm_6_51 ⟨Nat.le_of_ble_eq_true rfl, Nat.le_of_ble_eq_true rfl⟩ hl.1 rfl (Nat.le_of_ble_eq_true rfl) dX12_numbers_11 ⟨Nat.le_of_ble_eq_true rfl, Nat.le_of_ble_eq_true rfl⟩ [] [0] rfl rfl (by decide) rfl rfl (fun r_10292 u_10292 H locs w_10292 h => ?_)
  obtain rfl : r_10292 = 0 := w_10292
  have h : qW D _ _ [(h0, .inr (12, [.int 0, .ref h1, .ref h2, .ref h3, .ref h4, .int 0, .int 0, .int 0, .int 0, .int 0, .int 0, .int 0, .int 0, .int 0, .int (-1), .int 0, .ref h5, .ref h6, .ref h7, .ref h8, .ref h9, .int 0, .int 0, .ref h10, .ref h11, .ref h12, .int 0, .int 0, .ref h13, .ref h14, .ref h15, .ref h16, .ref h17, .int 0, .ref h18, .ref h19, .ref h20]))] _ _ := h
  refine lv_if_eq (tgt := 29) hx hb dX12_numbers_14 (by decide) (fun _ => ?_) (fun c => absurd c (by decide +kernel))
  refine lv_bipush (v := (-2)) hx hb dX12_numbers_29 (by decide) ?_
  exact q_iret X hr hlk hK h rfl (fun _ => 0, fun _ _ => 0, fun _ _ => 0) rfl [0] rfl rfl dX12_numbers_31 (Nat.le_of_ble_eq_true rfl) (Nat.le_of_ble_eq_true rfl)
set_option maxHeartbeats 4000000 in
set_option maxRecDepth 100000 in
theorem kX12_numbers_688 (l : Launch) (D : va_G) (cy : Nat → ClassId) (h0 : Nat) (p0 : Int32) (p1 : Int32) (p2 : Int32) (h1 : Nat) (h2 : Nat) (h3 : Nat) (h4 : Nat) (h5 : Nat) (h6 : Nat) (h7 : Nat) (h8 : Nat) (h9 : Nat) (h10 : Nat) (h11 : Nat) (h12 : Nat) (h13 : Nat) (h14 : Nat) (h15 : Nat) (h16 : Nat) (h17 : Nat) (h18 : Nat) (h19 : Nat) (h20 : Nat) (hhi_p0 : p0 ≤ ((-1) : Int32)) (hhi_p1 : p1 ≤ ((-1) : Int32)) (hlo_p2 : (0 : Int32) ≤ p2) (hhi_p2 : p2 ≤ (40 : Int32)) (sz : Nat) : MI l yX12_numbers cX12_numbers 5 .int { frames := 1, cells := 0, slots := 0, locals := 25 } [.ref h0, .int p0, .int p1, .int p2] D cy [(h0, .inr (12, [.int 0, .ref h1, .ref h2, .ref h3, .ref h4, .int 0, .int 0, .int 0, .int 0, .int 0, .int 0, .int 0, .int 0, .int 0, .int (-1), .int 0, .ref h5, .ref h6, .ref h7, .ref h8, .ref h9, .int 0, .int 0, .ref h10, .ref h11, .ref h12, .int 0, .int 0, .ref h13, .ref h14, .ref h15, .ref h16, .ref h17, .int 0, .ref h18, .ref h19, .ref h20]))] sz (fun r u => r = (-2)) (fun u => [(h0, .inr (12, [.int 0, .ref h1, .ref h2, .ref h3, .ref h4, .int 0, .int 0, .int 0, .int 0, .int 0, .int 0, .int 0, .int 0, .int 0, .int (-1), .int 0, .ref h5, .ref h6, .ref h7, .ref h8, .ref h9, .int 0, .int 0, .ref h10, .ref h11, .ref h12, .int 0, .int 0, .ref h13, .ref h14, .ref h15, .ref h16, .ref h17, .int 0, .ref h18, .ref h19, .ref h20]))]) 0 0 := by
  refine q_ent (own := RX12) (by decide) rfl (Nat.le_of_ble_eq_true rfl) (fun p e s m below meth c ls X hr hlk hnm hK h hA hl => ?_)
  obtain ⟨hx, hb, hml, hown, ht⟩ := id X
  have hl : lv_has ls 5 [(0, .ref h0), (1, .int p0), (2, .int p1), (3, .int p2)] := hl
  refine lv_aload_n hx hb dX12_numbers_0 rfl (lv_at hl 0 rfl) ?_
  refine lv_iconst (v := 0) hx hb dX12_numbers_1 (by decide) ?_
  refine q_put (v := .int 0) X hK h 0 rfl rfl wf_12 tyX12 tyX12_ok nmX12 0 (by decide) wm_5_170 rfl rfl rfl (Nat.le_of_ble_eq_true rfl) dX12_numbers_2 (fun H locs h => ?_)
  have h : qW D _ _ [(h0, .inr (12, [.int 0, .ref h1, .ref h2, .ref h3, .ref h4, .int 0, .int 0, .int 0, .int 0, .int 0, .int 0, .int 0, .int 0, .int 0, .int (-1), .int 0, .ref h5, .ref h6, .ref h7, .ref h8, .ref h9, .int 0, .int 0, .ref h10, .ref h11, .ref h12, .int 0, .int 0, .ref h13, .ref h14, .ref h15, .ref h16, .ref h17, .int 0, .ref h18, .ref h19, .ref h20]))] _ _ := h
  refine lv_iload_n hx hb dX12_numbers_5 rfl (lv_at hl 1 rfl) ?_
  refine lv_i2l hx hb dX12_numbers_6 rfl ?_
  refine lv_lconst (v := 0) hx hb dX12_numbers_7 (by decide) ?_
  refine lv_ldc2 hx hb hown (ht _ wm_7_29) dX12_numbers_8 ?_
  have g_10300 : ((p0).toInt64) ≤ ((-1) : Int64) := by
    simp only [q_lc_lt, q_lc_ge, q_lc_gt, q_lc_le, q_lc_eq, Int32.toInt_toInt64, Int64.lt_iff_toInt_lt, Int64.le_iff_toInt_le, ← Int64.toInt_inj, Int32.lt_iff_toInt_lt, Int32.le_iff_toInt_le, ← Int32.toInt_inj] at hhi_p0 ⊢
    have k_0 : ((-1) : Int32).toInt = -1 := by decide
    have k_g : ((-1) : Int64).toInt = -1 := by decide
    omega
  refine q_callSi (rest := []) (wr := [(h0, .inr (12, [.int 0, .ref h1, .ref h2, .ref h3, .ref h4, .int 0, .int 0, .int 0, .int 0, .int 0, .int 0, .int 0, .int 0, .int 0, .int (-1), .int 0, .ref h5, .ref h6, .ref h7, .ref h8, .ref h9, .int 0, .int 0, .ref h10, .ref h11, .ref h12, .int 0, .int 0, .ref h13, .ref h14, .ref h15, .ref h16, .ref h17, .int 0, .ref h18, .ref h19, .ref h20]))]) X hK hA h (fun sz => kX12_within_495 l D cy ((p0).toInt64) g_10300 sz) wm_6_50 wm_6_52 wm_1_12 hd_X12_within wm_6_51 ⟨Nat.le_of_ble_eq_true rfl, Nat.le_of_ble_eq_true rfl⟩ hl.1 rfl (Nat.le_of_ble_eq_true rfl) dX12_numbers_11 ⟨Nat.le_of_ble_eq_true rfl, Nat.le_of_ble_eq_true rfl⟩ [] [0] rfl rfl (by decide) rfl rfl (fun r_10301 u_10301 H locs w_10301 h => ?_)
  obtain rfl : r_10301 = 0 := w_10301
  have h : qW D _ _ [(h0, .inr (12, [.int 0, .ref h1, .ref h2, .ref h3, .ref h4, .int 0, .int 0, .int 0, .int 0, .int 0, .int 0, .int 0, .int 0, .int 0, .int (-1), .int 0, .ref h5, .ref h6, .ref h7, .ref h8, .ref h9, .int 0, .int 0, .ref h10, .ref h11, .ref h12, .int 0, .int 0, .ref h13, .ref h14, .ref h15, .ref h16, .ref h17, .int 0, .ref h18, .ref h19, .ref h20]))] _ _ := h
  refine lv_if_eq (tgt := 29) hx hb dX12_numbers_14 (by decide) (fun _ => ?_) (fun c => absurd c (by decide +kernel))
  refine lv_bipush (v := (-2)) hx hb dX12_numbers_29 (by decide) ?_
  exact q_iret X hr hlk hK h rfl (fun _ => 0, fun _ _ => 0, fun _ _ => 0) rfl [0] rfl rfl dX12_numbers_31 (Nat.le_of_ble_eq_true rfl) (Nat.le_of_ble_eq_true rfl)
set_option maxHeartbeats 4000000 in
set_option maxRecDepth 100000 in
theorem kX12_numbers_689 (l : Launch) (D : va_G) (cy : Nat → ClassId) (h0 : Nat) (p0 : Int32) (p1 : Int32) (p2 : Int32) (h1 : Nat) (h2 : Nat) (h3 : Nat) (h4 : Nat) (h5 : Nat) (h6 : Nat) (h7 : Nat) (h8 : Nat) (h9 : Nat) (h10 : Nat) (h11 : Nat) (h12 : Nat) (h13 : Nat) (h14 : Nat) (h15 : Nat) (h16 : Nat) (h17 : Nat) (h18 : Nat) (h19 : Nat) (h20 : Nat) (hhi_p0 : p0 ≤ ((-1) : Int32)) (hhi_p1 : p1 ≤ ((-1) : Int32)) (hlo_p2 : (41 : Int32) ≤ p2) (sz : Nat) : MI l yX12_numbers cX12_numbers 5 .int { frames := 1, cells := 0, slots := 0, locals := 25 } [.ref h0, .int p0, .int p1, .int p2] D cy [(h0, .inr (12, [.int 0, .ref h1, .ref h2, .ref h3, .ref h4, .int 0, .int 0, .int 0, .int 0, .int 0, .int 0, .int 0, .int 0, .int 0, .int (-1), .int 0, .ref h5, .ref h6, .ref h7, .ref h8, .ref h9, .int 0, .int 0, .ref h10, .ref h11, .ref h12, .int 0, .int 0, .ref h13, .ref h14, .ref h15, .ref h16, .ref h17, .int 0, .ref h18, .ref h19, .ref h20]))] sz (fun r u => r = (-2)) (fun u => [(h0, .inr (12, [.int 0, .ref h1, .ref h2, .ref h3, .ref h4, .int 0, .int 0, .int 0, .int 0, .int 0, .int 0, .int 0, .int 0, .int 0, .int (-1), .int 0, .ref h5, .ref h6, .ref h7, .ref h8, .ref h9, .int 0, .int 0, .ref h10, .ref h11, .ref h12, .int 0, .int 0, .ref h13, .ref h14, .ref h15, .ref h16, .ref h17, .int 0, .ref h18, .ref h19, .ref h20]))]) 0 0 := by
  refine q_ent (own := RX12) (by decide) rfl (Nat.le_of_ble_eq_true rfl) (fun p e s m below meth c ls X hr hlk hnm hK h hA hl => ?_)
  obtain ⟨hx, hb, hml, hown, ht⟩ := id X
  have hl : lv_has ls 5 [(0, .ref h0), (1, .int p0), (2, .int p1), (3, .int p2)] := hl
  refine lv_aload_n hx hb dX12_numbers_0 rfl (lv_at hl 0 rfl) ?_
  refine lv_iconst (v := 0) hx hb dX12_numbers_1 (by decide) ?_
  refine q_put (v := .int 0) X hK h 0 rfl rfl wf_12 tyX12 tyX12_ok nmX12 0 (by decide) wm_5_170 rfl rfl rfl (Nat.le_of_ble_eq_true rfl) dX12_numbers_2 (fun H locs h => ?_)
  have h : qW D _ _ [(h0, .inr (12, [.int 0, .ref h1, .ref h2, .ref h3, .ref h4, .int 0, .int 0, .int 0, .int 0, .int 0, .int 0, .int 0, .int 0, .int 0, .int (-1), .int 0, .ref h5, .ref h6, .ref h7, .ref h8, .ref h9, .int 0, .int 0, .ref h10, .ref h11, .ref h12, .int 0, .int 0, .ref h13, .ref h14, .ref h15, .ref h16, .ref h17, .int 0, .ref h18, .ref h19, .ref h20]))] _ _ := h
  refine lv_iload_n hx hb dX12_numbers_5 rfl (lv_at hl 1 rfl) ?_
  refine lv_i2l hx hb dX12_numbers_6 rfl ?_
  refine lv_lconst (v := 0) hx hb dX12_numbers_7 (by decide) ?_
  refine lv_ldc2 hx hb hown (ht _ wm_7_29) dX12_numbers_8 ?_
  have g_10309 : ((p0).toInt64) ≤ ((-1) : Int64) := by
    simp only [q_lc_lt, q_lc_ge, q_lc_gt, q_lc_le, q_lc_eq, Int32.toInt_toInt64, Int64.lt_iff_toInt_lt, Int64.le_iff_toInt_le, ← Int64.toInt_inj, Int32.lt_iff_toInt_lt, Int32.le_iff_toInt_le, ← Int32.toInt_inj] at hhi_p0 ⊢
    have k_0 : ((-1) : Int32).toInt = -1 := by decide
    have k_g : ((-1) : Int64).toInt = -1 := by decide
    omega
  refine q_callSi (rest := []) (wr := [(h0, .inr (12, [.int 0, .ref h1, .ref h2, .ref h3, .ref h4, .int 0, .int 0, .int 0, .int 0, .int 0, .int 0, .int 0, .int 0, .int 0, .int (-1), .int 0, .ref h5, .ref h6, .ref h7, .ref h8, .ref h9, .int 0, .int 0, .ref h10, .ref h11, .ref h12, .int 0, .int 0, .ref h13, .ref h14, .ref h15, .ref h16, .ref h17, .int 0, .ref h18, .ref h19, .ref h20]))]) X hK hA h (fun sz => kX12_within_495 l D cy ((p0).toInt64) g_10309 sz) wm_6_50 wm_6_52 wm_1_12 hd_X12_within wm_6_51 ⟨Nat.le_of_ble_eq_true rfl, Nat.le_of_ble_eq_true rfl⟩ hl.1 rfl (Nat.le_of_ble_eq_true rfl) dX12_numbers_11 ⟨Nat.le_of_ble_eq_true rfl, Nat.le_of_ble_eq_true rfl⟩ [] [0] rfl rfl (by decide) rfl rfl (fun r_10310 u_10310 H locs w_10310 h => ?_)
  obtain rfl : r_10310 = 0 := w_10310
  have h : qW D _ _ [(h0, .inr (12, [.int 0, .ref h1, .ref h2, .ref h3, .ref h4, .int 0, .int 0, .int 0, .int 0, .int 0, .int 0, .int 0, .int 0, .int 0, .int (-1), .int 0, .ref h5, .ref h6, .ref h7, .ref h8, .ref h9, .int 0, .int 0, .ref h10, .ref h11, .ref h12, .int 0, .int 0, .ref h13, .ref h14, .ref h15, .ref h16, .ref h17, .int 0, .ref h18, .ref h19, .ref h20]))] _ _ := h
  refine lv_if_eq (tgt := 29) hx hb dX12_numbers_14 (by decide) (fun _ => ?_) (fun c => absurd c (by decide +kernel))
  refine lv_bipush (v := (-2)) hx hb dX12_numbers_29 (by decide) ?_
  exact q_iret X hr hlk hK h rfl (fun _ => 0, fun _ _ => 0, fun _ _ => 0) rfl [0] rfl rfl dX12_numbers_31 (Nat.le_of_ble_eq_true rfl) (Nat.le_of_ble_eq_true rfl)
set_option maxHeartbeats 4000000 in
set_option maxRecDepth 100000 in
theorem kX12_numbers_690 (l : Launch) (D : va_G) (cy : Nat → ClassId) (h0 : Nat) (p0 : Int32) (p1 : Int32) (p2 : Int32) (h1 : Nat) (h2 : Nat) (h3 : Nat) (h4 : Nat) (h5 : Nat) (h6 : Nat) (h7 : Nat) (h8 : Nat) (h9 : Nat) (h10 : Nat) (h11 : Nat) (h12 : Nat) (h13 : Nat) (h14 : Nat) (h15 : Nat) (h16 : Nat) (h17 : Nat) (h18 : Nat) (h19 : Nat) (h20 : Nat) (hhi_p0 : p0 ≤ ((-1) : Int32)) (hlo_p1 : (0 : Int32) ≤ p1) (hhi_p1 : p1 ≤ (3 : Int32)) (hhi_p2 : p2 ≤ ((-1) : Int32)) (sz : Nat) : MI l yX12_numbers cX12_numbers 5 .int { frames := 1, cells := 0, slots := 0, locals := 25 } [.ref h0, .int p0, .int p1, .int p2] D cy [(h0, .inr (12, [.int 0, .ref h1, .ref h2, .ref h3, .ref h4, .int 0, .int 0, .int 0, .int 0, .int 0, .int 0, .int 0, .int 0, .int 0, .int (-1), .int 0, .ref h5, .ref h6, .ref h7, .ref h8, .ref h9, .int 0, .int 0, .ref h10, .ref h11, .ref h12, .int 0, .int 0, .ref h13, .ref h14, .ref h15, .ref h16, .ref h17, .int 0, .ref h18, .ref h19, .ref h20]))] sz (fun r u => r = (-2)) (fun u => [(h0, .inr (12, [.int 0, .ref h1, .ref h2, .ref h3, .ref h4, .int 0, .int 0, .int 0, .int 0, .int 0, .int 0, .int 0, .int 0, .int 0, .int (-1), .int 0, .ref h5, .ref h6, .ref h7, .ref h8, .ref h9, .int 0, .int 0, .ref h10, .ref h11, .ref h12, .int 0, .int 0, .ref h13, .ref h14, .ref h15, .ref h16, .ref h17, .int 0, .ref h18, .ref h19, .ref h20]))]) 0 0 := by
  refine q_ent (own := RX12) (by decide) rfl (Nat.le_of_ble_eq_true rfl) (fun p e s m below meth c ls X hr hlk hnm hK h hA hl => ?_)
  obtain ⟨hx, hb, hml, hown, ht⟩ := id X
  have hl : lv_has ls 5 [(0, .ref h0), (1, .int p0), (2, .int p1), (3, .int p2)] := hl
  refine lv_aload_n hx hb dX12_numbers_0 rfl (lv_at hl 0 rfl) ?_
  refine lv_iconst (v := 0) hx hb dX12_numbers_1 (by decide) ?_
  refine q_put (v := .int 0) X hK h 0 rfl rfl wf_12 tyX12 tyX12_ok nmX12 0 (by decide) wm_5_170 rfl rfl rfl (Nat.le_of_ble_eq_true rfl) dX12_numbers_2 (fun H locs h => ?_)
  have h : qW D _ _ [(h0, .inr (12, [.int 0, .ref h1, .ref h2, .ref h3, .ref h4, .int 0, .int 0, .int 0, .int 0, .int 0, .int 0, .int 0, .int 0, .int 0, .int (-1), .int 0, .ref h5, .ref h6, .ref h7, .ref h8, .ref h9, .int 0, .int 0, .ref h10, .ref h11, .ref h12, .int 0, .int 0, .ref h13, .ref h14, .ref h15, .ref h16, .ref h17, .int 0, .ref h18, .ref h19, .ref h20]))] _ _ := h
  refine lv_iload_n hx hb dX12_numbers_5 rfl (lv_at hl 1 rfl) ?_
  refine lv_i2l hx hb dX12_numbers_6 rfl ?_
  refine lv_lconst (v := 0) hx hb dX12_numbers_7 (by decide) ?_
  refine lv_ldc2 hx hb hown (ht _ wm_7_29) dX12_numbers_8 ?_
  have g_10318 : ((p0).toInt64) ≤ ((-1) : Int64) := by
    simp only [q_lc_lt, q_lc_ge, q_lc_gt, q_lc_le, q_lc_eq, Int32.toInt_toInt64, Int64.lt_iff_toInt_lt, Int64.le_iff_toInt_le, ← Int64.toInt_inj, Int32.lt_iff_toInt_lt, Int32.le_iff_toInt_le, ← Int32.toInt_inj] at hhi_p0 ⊢
    have k_0 : ((-1) : Int32).toInt = -1 := by decide
    have k_g : ((-1) : Int64).toInt = -1 := by decide
    omega
  refine q_callSi (rest := []) (wr := [(h0, .inr (12, [.int 0, .ref h1, .ref h2, .ref h3, .ref h4, .int 0, .int 0, .int 0, .int 0, .int 0, .int 0, .int 0, .int 0, .int 0, .int (-1), .int 0, .ref h5, .ref h6, .ref h7, .ref h8, .ref h9, .int 0, .int 0, .ref h10, .ref h11, .ref h12, .int 0, .int 0, .ref h13, .ref h14, .ref h15, .ref h16, .ref h17, .int 0, .ref h18, .ref h19, .ref h20]))]) X hK hA h (fun sz => kX12_within_495 l D cy ((p0).toInt64) g_10318 sz) wm_6_50 wm_6_52 wm_1_12 hd_X12_within wm_6_51 ⟨Nat.le_of_ble_eq_true rfl, Nat.le_of_ble_eq_true rfl⟩ hl.1 rfl (Nat.le_of_ble_eq_true rfl) dX12_numbers_11 ⟨Nat.le_of_ble_eq_true rfl, Nat.le_of_ble_eq_true rfl⟩ [] [0] rfl rfl (by decide) rfl rfl (fun r_10319 u_10319 H locs w_10319 h => ?_)
  obtain rfl : r_10319 = 0 := w_10319
  have h : qW D _ _ [(h0, .inr (12, [.int 0, .ref h1, .ref h2, .ref h3, .ref h4, .int 0, .int 0, .int 0, .int 0, .int 0, .int 0, .int 0, .int 0, .int 0, .int (-1), .int 0, .ref h5, .ref h6, .ref h7, .ref h8, .ref h9, .int 0, .int 0, .ref h10, .ref h11, .ref h12, .int 0, .int 0, .ref h13, .ref h14, .ref h15, .ref h16, .ref h17, .int 0, .ref h18, .ref h19, .ref h20]))] _ _ := h
  refine lv_if_eq (tgt := 29) hx hb dX12_numbers_14 (by decide) (fun _ => ?_) (fun c => absurd c (by decide +kernel))
  refine lv_bipush (v := (-2)) hx hb dX12_numbers_29 (by decide) ?_
  exact q_iret X hr hlk hK h rfl (fun _ => 0, fun _ _ => 0, fun _ _ => 0) rfl [0] rfl rfl dX12_numbers_31 (Nat.le_of_ble_eq_true rfl) (Nat.le_of_ble_eq_true rfl)
set_option maxHeartbeats 4000000 in
set_option maxRecDepth 100000 in
theorem kX12_numbers_691 (l : Launch) (D : va_G) (cy : Nat → ClassId) (h0 : Nat) (p0 : Int32) (p1 : Int32) (p2 : Int32) (h1 : Nat) (h2 : Nat) (h3 : Nat) (h4 : Nat) (h5 : Nat) (h6 : Nat) (h7 : Nat) (h8 : Nat) (h9 : Nat) (h10 : Nat) (h11 : Nat) (h12 : Nat) (h13 : Nat) (h14 : Nat) (h15 : Nat) (h16 : Nat) (h17 : Nat) (h18 : Nat) (h19 : Nat) (h20 : Nat) (hhi_p0 : p0 ≤ ((-1) : Int32)) (hlo_p1 : (0 : Int32) ≤ p1) (hhi_p1 : p1 ≤ (3 : Int32)) (hlo_p2 : (0 : Int32) ≤ p2) (hhi_p2 : p2 ≤ (40 : Int32)) (sz : Nat) : MI l yX12_numbers cX12_numbers 5 .int { frames := 1, cells := 0, slots := 0, locals := 25 } [.ref h0, .int p0, .int p1, .int p2] D cy [(h0, .inr (12, [.int 0, .ref h1, .ref h2, .ref h3, .ref h4, .int 0, .int 0, .int 0, .int 0, .int 0, .int 0, .int 0, .int 0, .int 0, .int (-1), .int 0, .ref h5, .ref h6, .ref h7, .ref h8, .ref h9, .int 0, .int 0, .ref h10, .ref h11, .ref h12, .int 0, .int 0, .ref h13, .ref h14, .ref h15, .ref h16, .ref h17, .int 0, .ref h18, .ref h19, .ref h20]))] sz (fun r u => r = (-2)) (fun u => [(h0, .inr (12, [.int 0, .ref h1, .ref h2, .ref h3, .ref h4, .int 0, .int 0, .int 0, .int 0, .int 0, .int 0, .int 0, .int 0, .int 0, .int (-1), .int 0, .ref h5, .ref h6, .ref h7, .ref h8, .ref h9, .int 0, .int 0, .ref h10, .ref h11, .ref h12, .int 0, .int 0, .ref h13, .ref h14, .ref h15, .ref h16, .ref h17, .int 0, .ref h18, .ref h19, .ref h20]))]) 0 0 := by
  refine q_ent (own := RX12) (by decide) rfl (Nat.le_of_ble_eq_true rfl) (fun p e s m below meth c ls X hr hlk hnm hK h hA hl => ?_)
  obtain ⟨hx, hb, hml, hown, ht⟩ := id X
  have hl : lv_has ls 5 [(0, .ref h0), (1, .int p0), (2, .int p1), (3, .int p2)] := hl
  refine lv_aload_n hx hb dX12_numbers_0 rfl (lv_at hl 0 rfl) ?_
  refine lv_iconst (v := 0) hx hb dX12_numbers_1 (by decide) ?_
  refine q_put (v := .int 0) X hK h 0 rfl rfl wf_12 tyX12 tyX12_ok nmX12 0 (by decide) wm_5_170 rfl rfl rfl (Nat.le_of_ble_eq_true rfl) dX12_numbers_2 (fun H locs h => ?_)
  have h : qW D _ _ [(h0, .inr (12, [.int 0, .ref h1, .ref h2, .ref h3, .ref h4, .int 0, .int 0, .int 0, .int 0, .int 0, .int 0, .int 0, .int 0, .int 0, .int (-1), .int 0, .ref h5, .ref h6, .ref h7, .ref h8, .ref h9, .int 0, .int 0, .ref h10, .ref h11, .ref h12, .int 0, .int 0, .ref h13, .ref h14, .ref h15, .ref h16, .ref h17, .int 0, .ref h18, .ref h19, .ref h20]))] _ _ := h
  refine lv_iload_n hx hb dX12_numbers_5 rfl (lv_at hl 1 rfl) ?_
  refine lv_i2l hx hb dX12_numbers_6 rfl ?_
  refine lv_lconst (v := 0) hx hb dX12_numbers_7 (by decide) ?_
  refine lv_ldc2 hx hb hown (ht _ wm_7_29) dX12_numbers_8 ?_
  have g_10327 : ((p0).toInt64) ≤ ((-1) : Int64) := by
    simp only [q_lc_lt, q_lc_ge, q_lc_gt, q_lc_le, q_lc_eq, Int32.toInt_toInt64, Int64.lt_iff_toInt_lt, Int64.le_iff_toInt_le, ← Int64.toInt_inj, Int32.lt_iff_toInt_lt, Int32.le_iff_toInt_le, ← Int32.toInt_inj] at hhi_p0 ⊢
    have k_0 : ((-1) : Int32).toInt = -1 := by decide
    have k_g : ((-1) : Int64).toInt = -1 := by decide
    omega
  refine q_callSi (rest := []) (wr := [(h0, .inr (12, [.int 0, .ref h1, .ref h2, .ref h3, .ref h4, .int 0, .int 0, .int 0, .int 0, .int 0, .int 0, .int 0, .int 0, .int 0, .int (-1), .int 0, .ref h5, .ref h6, .ref h7, .ref h8, .ref h9, .int 0, .int 0, .ref h10, .ref h11, .ref h12, .int 0, .int 0, .ref h13, .ref h14, .ref h15, .ref h16, .ref h17, .int 0, .ref h18, .ref h19, .ref h20]))]) X hK hA h (fun sz => kX12_within_495 l D cy ((p0).toInt64) g_10327 sz) wm_6_50 wm_6_52 wm_1_12 hd_X12_within wm_6_51 ⟨Nat.le_of_ble_eq_true rfl, Nat.le_of_ble_eq_true rfl⟩ hl.1 rfl (Nat.le_of_ble_eq_true rfl) dX12_numbers_11 ⟨Nat.le_of_ble_eq_true rfl, Nat.le_of_ble_eq_true rfl⟩ [] [0] rfl rfl (by decide) rfl rfl (fun r_10328 u_10328 H locs w_10328 h => ?_)
  obtain rfl : r_10328 = 0 := w_10328
  have h : qW D _ _ [(h0, .inr (12, [.int 0, .ref h1, .ref h2, .ref h3, .ref h4, .int 0, .int 0, .int 0, .int 0, .int 0, .int 0, .int 0, .int 0, .int 0, .int (-1), .int 0, .ref h5, .ref h6, .ref h7, .ref h8, .ref h9, .int 0, .int 0, .ref h10, .ref h11, .ref h12, .int 0, .int 0, .ref h13, .ref h14, .ref h15, .ref h16, .ref h17, .int 0, .ref h18, .ref h19, .ref h20]))] _ _ := h
  refine lv_if_eq (tgt := 29) hx hb dX12_numbers_14 (by decide) (fun _ => ?_) (fun c => absurd c (by decide +kernel))
  refine lv_bipush (v := (-2)) hx hb dX12_numbers_29 (by decide) ?_
  exact q_iret X hr hlk hK h rfl (fun _ => 0, fun _ _ => 0, fun _ _ => 0) rfl [0] rfl rfl dX12_numbers_31 (Nat.le_of_ble_eq_true rfl) (Nat.le_of_ble_eq_true rfl)
set_option maxHeartbeats 4000000 in
set_option maxRecDepth 100000 in
theorem kX12_numbers_692 (l : Launch) (D : va_G) (cy : Nat → ClassId) (h0 : Nat) (p0 : Int32) (p1 : Int32) (p2 : Int32) (h1 : Nat) (h2 : Nat) (h3 : Nat) (h4 : Nat) (h5 : Nat) (h6 : Nat) (h7 : Nat) (h8 : Nat) (h9 : Nat) (h10 : Nat) (h11 : Nat) (h12 : Nat) (h13 : Nat) (h14 : Nat) (h15 : Nat) (h16 : Nat) (h17 : Nat) (h18 : Nat) (h19 : Nat) (h20 : Nat) (hhi_p0 : p0 ≤ ((-1) : Int32)) (hlo_p1 : (0 : Int32) ≤ p1) (hhi_p1 : p1 ≤ (3 : Int32)) (hlo_p2 : (41 : Int32) ≤ p2) (sz : Nat) : MI l yX12_numbers cX12_numbers 5 .int { frames := 1, cells := 0, slots := 0, locals := 25 } [.ref h0, .int p0, .int p1, .int p2] D cy [(h0, .inr (12, [.int 0, .ref h1, .ref h2, .ref h3, .ref h4, .int 0, .int 0, .int 0, .int 0, .int 0, .int 0, .int 0, .int 0, .int 0, .int (-1), .int 0, .ref h5, .ref h6, .ref h7, .ref h8, .ref h9, .int 0, .int 0, .ref h10, .ref h11, .ref h12, .int 0, .int 0, .ref h13, .ref h14, .ref h15, .ref h16, .ref h17, .int 0, .ref h18, .ref h19, .ref h20]))] sz (fun r u => r = (-2)) (fun u => [(h0, .inr (12, [.int 0, .ref h1, .ref h2, .ref h3, .ref h4, .int 0, .int 0, .int 0, .int 0, .int 0, .int 0, .int 0, .int 0, .int 0, .int (-1), .int 0, .ref h5, .ref h6, .ref h7, .ref h8, .ref h9, .int 0, .int 0, .ref h10, .ref h11, .ref h12, .int 0, .int 0, .ref h13, .ref h14, .ref h15, .ref h16, .ref h17, .int 0, .ref h18, .ref h19, .ref h20]))]) 0 0 := by
  refine q_ent (own := RX12) (by decide) rfl (Nat.le_of_ble_eq_true rfl) (fun p e s m below meth c ls X hr hlk hnm hK h hA hl => ?_)
  obtain ⟨hx, hb, hml, hown, ht⟩ := id X
  have hl : lv_has ls 5 [(0, .ref h0), (1, .int p0), (2, .int p1), (3, .int p2)] := hl
  refine lv_aload_n hx hb dX12_numbers_0 rfl (lv_at hl 0 rfl) ?_
  refine lv_iconst (v := 0) hx hb dX12_numbers_1 (by decide) ?_
  refine q_put (v := .int 0) X hK h 0 rfl rfl wf_12 tyX12 tyX12_ok nmX12 0 (by decide) wm_5_170 rfl rfl rfl (Nat.le_of_ble_eq_true rfl) dX12_numbers_2 (fun H locs h => ?_)
  have h : qW D _ _ [(h0, .inr (12, [.int 0, .ref h1, .ref h2, .ref h3, .ref h4, .int 0, .int 0, .int 0, .int 0, .int 0, .int 0, .int 0, .int 0, .int 0, .int (-1), .int 0, .ref h5, .ref h6, .ref h7, .ref h8, .ref h9, .int 0, .int 0, .ref h10, .ref h11, .ref h12, .int 0, .int 0, .ref h13, .ref h14, .ref h15, .ref h16, .ref h17, .int 0, .ref h18, .ref h19, .ref h20]))] _ _ := h
  refine lv_iload_n hx hb dX12_numbers_5 rfl (lv_at hl 1 rfl) ?_
  refine lv_i2l hx hb dX12_numbers_6 rfl ?_
  refine lv_lconst (v := 0) hx hb dX12_numbers_7 (by decide) ?_
  refine lv_ldc2 hx hb hown (ht _ wm_7_29) dX12_numbers_8 ?_
  have g_10336 : ((p0).toInt64) ≤ ((-1) : Int64) := by
    simp only [q_lc_lt, q_lc_ge, q_lc_gt, q_lc_le, q_lc_eq, Int32.toInt_toInt64, Int64.lt_iff_toInt_lt, Int64.le_iff_toInt_le, ← Int64.toInt_inj, Int32.lt_iff_toInt_lt, Int32.le_iff_toInt_le, ← Int32.toInt_inj] at hhi_p0 ⊢
    have k_0 : ((-1) : Int32).toInt = -1 := by decide
    have k_g : ((-1) : Int64).toInt = -1 := by decide
    omega
  refine q_callSi (rest := []) (wr := [(h0, .inr (12, [.int 0, .ref h1, .ref h2, .ref h3, .ref h4, .int 0, .int 0, .int 0, .int 0, .int 0, .int 0, .int 0, .int 0, .int 0, .int (-1), .int 0, .ref h5, .ref h6, .ref h7, .ref h8, .ref h9, .int 0, .int 0, .ref h10, .ref h11, .ref h12, .int 0, .int 0, .ref h13, .ref h14, .ref h15, .ref h16, .ref h17, .int 0, .ref h18, .ref h19, .ref h20]))]) X hK hA h (fun sz => kX12_within_495 l D cy ((p0).toInt64) g_10336 sz) wm_6_50 wm_6_52 wm_1_12 hd_X12_within wm_6_51 ⟨Nat.le_of_ble_eq_true rfl, Nat.le_of_ble_eq_true rfl⟩ hl.1 rfl (Nat.le_of_ble_eq_true rfl) dX12_numbers_11 ⟨Nat.le_of_ble_eq_true rfl, Nat.le_of_ble_eq_true rfl⟩ [] [0] rfl rfl (by decide) rfl rfl (fun r_10337 u_10337 H locs w_10337 h => ?_)
  obtain rfl : r_10337 = 0 := w_10337
  have h : qW D _ _ [(h0, .inr (12, [.int 0, .ref h1, .ref h2, .ref h3, .ref h4, .int 0, .int 0, .int 0, .int 0, .int 0, .int 0, .int 0, .int 0, .int 0, .int (-1), .int 0, .ref h5, .ref h6, .ref h7, .ref h8, .ref h9, .int 0, .int 0, .ref h10, .ref h11, .ref h12, .int 0, .int 0, .ref h13, .ref h14, .ref h15, .ref h16, .ref h17, .int 0, .ref h18, .ref h19, .ref h20]))] _ _ := h
  refine lv_if_eq (tgt := 29) hx hb dX12_numbers_14 (by decide) (fun _ => ?_) (fun c => absurd c (by decide +kernel))
  refine lv_bipush (v := (-2)) hx hb dX12_numbers_29 (by decide) ?_
  exact q_iret X hr hlk hK h rfl (fun _ => 0, fun _ _ => 0, fun _ _ => 0) rfl [0] rfl rfl dX12_numbers_31 (Nat.le_of_ble_eq_true rfl) (Nat.le_of_ble_eq_true rfl)
set_option maxHeartbeats 4000000 in
set_option maxRecDepth 100000 in
theorem kX12_numbers_693 (l : Launch) (D : va_G) (cy : Nat → ClassId) (h0 : Nat) (p0 : Int32) (p1 : Int32) (p2 : Int32) (h1 : Nat) (h2 : Nat) (h3 : Nat) (h4 : Nat) (h5 : Nat) (h6 : Nat) (h7 : Nat) (h8 : Nat) (h9 : Nat) (h10 : Nat) (h11 : Nat) (h12 : Nat) (h13 : Nat) (h14 : Nat) (h15 : Nat) (h16 : Nat) (h17 : Nat) (h18 : Nat) (h19 : Nat) (h20 : Nat) (hhi_p0 : p0 ≤ ((-1) : Int32)) (hlo_p1 : (4 : Int32) ≤ p1) (hhi_p2 : p2 ≤ ((-1) : Int32)) (sz : Nat) : MI l yX12_numbers cX12_numbers 5 .int { frames := 1, cells := 0, slots := 0, locals := 25 } [.ref h0, .int p0, .int p1, .int p2] D cy [(h0, .inr (12, [.int 0, .ref h1, .ref h2, .ref h3, .ref h4, .int 0, .int 0, .int 0, .int 0, .int 0, .int 0, .int 0, .int 0, .int 0, .int (-1), .int 0, .ref h5, .ref h6, .ref h7, .ref h8, .ref h9, .int 0, .int 0, .ref h10, .ref h11, .ref h12, .int 0, .int 0, .ref h13, .ref h14, .ref h15, .ref h16, .ref h17, .int 0, .ref h18, .ref h19, .ref h20]))] sz (fun r u => r = (-2)) (fun u => [(h0, .inr (12, [.int 0, .ref h1, .ref h2, .ref h3, .ref h4, .int 0, .int 0, .int 0, .int 0, .int 0, .int 0, .int 0, .int 0, .int 0, .int (-1), .int 0, .ref h5, .ref h6, .ref h7, .ref h8, .ref h9, .int 0, .int 0, .ref h10, .ref h11, .ref h12, .int 0, .int 0, .ref h13, .ref h14, .ref h15, .ref h16, .ref h17, .int 0, .ref h18, .ref h19, .ref h20]))]) 0 0 := by
  refine q_ent (own := RX12) (by decide) rfl (Nat.le_of_ble_eq_true rfl) (fun p e s m below meth c ls X hr hlk hnm hK h hA hl => ?_)
  obtain ⟨hx, hb, hml, hown, ht⟩ := id X
  have hl : lv_has ls 5 [(0, .ref h0), (1, .int p0), (2, .int p1), (3, .int p2)] := hl
  refine lv_aload_n hx hb dX12_numbers_0 rfl (lv_at hl 0 rfl) ?_
  refine lv_iconst (v := 0) hx hb dX12_numbers_1 (by decide) ?_
  refine q_put (v := .int 0) X hK h 0 rfl rfl wf_12 tyX12 tyX12_ok nmX12 0 (by decide) wm_5_170 rfl rfl rfl (Nat.le_of_ble_eq_true rfl) dX12_numbers_2 (fun H locs h => ?_)
  have h : qW D _ _ [(h0, .inr (12, [.int 0, .ref h1, .ref h2, .ref h3, .ref h4, .int 0, .int 0, .int 0, .int 0, .int 0, .int 0, .int 0, .int 0, .int 0, .int (-1), .int 0, .ref h5, .ref h6, .ref h7, .ref h8, .ref h9, .int 0, .int 0, .ref h10, .ref h11, .ref h12, .int 0, .int 0, .ref h13, .ref h14, .ref h15, .ref h16, .ref h17, .int 0, .ref h18, .ref h19, .ref h20]))] _ _ := h
  refine lv_iload_n hx hb dX12_numbers_5 rfl (lv_at hl 1 rfl) ?_
  refine lv_i2l hx hb dX12_numbers_6 rfl ?_
  refine lv_lconst (v := 0) hx hb dX12_numbers_7 (by decide) ?_
  refine lv_ldc2 hx hb hown (ht _ wm_7_29) dX12_numbers_8 ?_
  have g_10345 : ((p0).toInt64) ≤ ((-1) : Int64) := by
    simp only [q_lc_lt, q_lc_ge, q_lc_gt, q_lc_le, q_lc_eq, Int32.toInt_toInt64, Int64.lt_iff_toInt_lt, Int64.le_iff_toInt_le, ← Int64.toInt_inj, Int32.lt_iff_toInt_lt, Int32.le_iff_toInt_le, ← Int32.toInt_inj] at hhi_p0 ⊢
    have k_0 : ((-1) : Int32).toInt = -1 := by decide
    have k_g : ((-1) : Int64).toInt = -1 := by decide
    omega
  refine q_callSi (rest := []) (wr := [(h0, .inr (12, [.int 0, .ref h1, .ref h2, .ref h3, .ref h4, .int 0, .int 0, .int 0, .int 0, .int 0, .int 0, .int 0, .int 0, .int 0, .int (-1), .int 0, .ref h5, .ref h6, .ref h7, .ref h8, .ref h9, .int 0, .int 0, .ref h10, .ref h11, .ref h12, .int 0, .int 0, .ref h13, .ref h14, .ref h15, .ref h16, .ref h17, .int 0, .ref h18, .ref h19, .ref h20]))]) X hK hA h (fun sz => kX12_within_495 l D cy ((p0).toInt64) g_10345 sz) wm_6_50 wm_6_52 wm_1_12 hd_X12_within wm_6_51 ⟨Nat.le_of_ble_eq_true rfl, Nat.le_of_ble_eq_true rfl⟩ hl.1 rfl (Nat.le_of_ble_eq_true rfl) dX12_numbers_11 ⟨Nat.le_of_ble_eq_true rfl, Nat.le_of_ble_eq_true rfl⟩ [] [0] rfl rfl (by decide) rfl rfl (fun r_10346 u_10346 H locs w_10346 h => ?_)
  obtain rfl : r_10346 = 0 := w_10346
  have h : qW D _ _ [(h0, .inr (12, [.int 0, .ref h1, .ref h2, .ref h3, .ref h4, .int 0, .int 0, .int 0, .int 0, .int 0, .int 0, .int 0, .int 0, .int 0, .int (-1), .int 0, .ref h5, .ref h6, .ref h7, .ref h8, .ref h9, .int 0, .int 0, .ref h10, .ref h11, .ref h12, .int 0, .int 0, .ref h13, .ref h14, .ref h15, .ref h16, .ref h17, .int 0, .ref h18, .ref h19, .ref h20]))] _ _ := h
  refine lv_if_eq (tgt := 29) hx hb dX12_numbers_14 (by decide) (fun _ => ?_) (fun c => absurd c (by decide +kernel))
  refine lv_bipush (v := (-2)) hx hb dX12_numbers_29 (by decide) ?_
  exact q_iret X hr hlk hK h rfl (fun _ => 0, fun _ _ => 0, fun _ _ => 0) rfl [0] rfl rfl dX12_numbers_31 (Nat.le_of_ble_eq_true rfl) (Nat.le_of_ble_eq_true rfl)
set_option maxHeartbeats 4000000 in
set_option maxRecDepth 100000 in
theorem kX12_numbers_694 (l : Launch) (D : va_G) (cy : Nat → ClassId) (h0 : Nat) (p0 : Int32) (p1 : Int32) (p2 : Int32) (h1 : Nat) (h2 : Nat) (h3 : Nat) (h4 : Nat) (h5 : Nat) (h6 : Nat) (h7 : Nat) (h8 : Nat) (h9 : Nat) (h10 : Nat) (h11 : Nat) (h12 : Nat) (h13 : Nat) (h14 : Nat) (h15 : Nat) (h16 : Nat) (h17 : Nat) (h18 : Nat) (h19 : Nat) (h20 : Nat) (hhi_p0 : p0 ≤ ((-1) : Int32)) (hlo_p1 : (4 : Int32) ≤ p1) (hlo_p2 : (0 : Int32) ≤ p2) (hhi_p2 : p2 ≤ (40 : Int32)) (sz : Nat) : MI l yX12_numbers cX12_numbers 5 .int { frames := 1, cells := 0, slots := 0, locals := 25 } [.ref h0, .int p0, .int p1, .int p2] D cy [(h0, .inr (12, [.int 0, .ref h1, .ref h2, .ref h3, .ref h4, .int 0, .int 0, .int 0, .int 0, .int 0, .int 0, .int 0, .int 0, .int 0, .int (-1), .int 0, .ref h5, .ref h6, .ref h7, .ref h8, .ref h9, .int 0, .int 0, .ref h10, .ref h11, .ref h12, .int 0, .int 0, .ref h13, .ref h14, .ref h15, .ref h16, .ref h17, .int 0, .ref h18, .ref h19, .ref h20]))] sz (fun r u => r = (-2)) (fun u => [(h0, .inr (12, [.int 0, .ref h1, .ref h2, .ref h3, .ref h4, .int 0, .int 0, .int 0, .int 0, .int 0, .int 0, .int 0, .int 0, .int 0, .int (-1), .int 0, .ref h5, .ref h6, .ref h7, .ref h8, .ref h9, .int 0, .int 0, .ref h10, .ref h11, .ref h12, .int 0, .int 0, .ref h13, .ref h14, .ref h15, .ref h16, .ref h17, .int 0, .ref h18, .ref h19, .ref h20]))]) 0 0 := by
  refine q_ent (own := RX12) (by decide) rfl (Nat.le_of_ble_eq_true rfl) (fun p e s m below meth c ls X hr hlk hnm hK h hA hl => ?_)
  obtain ⟨hx, hb, hml, hown, ht⟩ := id X
  have hl : lv_has ls 5 [(0, .ref h0), (1, .int p0), (2, .int p1), (3, .int p2)] := hl
  refine lv_aload_n hx hb dX12_numbers_0 rfl (lv_at hl 0 rfl) ?_
  refine lv_iconst (v := 0) hx hb dX12_numbers_1 (by decide) ?_
  refine q_put (v := .int 0) X hK h 0 rfl rfl wf_12 tyX12 tyX12_ok nmX12 0 (by decide) wm_5_170 rfl rfl rfl (Nat.le_of_ble_eq_true rfl) dX12_numbers_2 (fun H locs h => ?_)
  have h : qW D _ _ [(h0, .inr (12, [.int 0, .ref h1, .ref h2, .ref h3, .ref h4, .int 0, .int 0, .int 0, .int 0, .int 0, .int 0, .int 0, .int 0, .int 0, .int (-1), .int 0, .ref h5, .ref h6, .ref h7, .ref h8, .ref h9, .int 0, .int 0, .ref h10, .ref h11, .ref h12, .int 0, .int 0, .ref h13, .ref h14, .ref h15, .ref h16, .ref h17, .int 0, .ref h18, .ref h19, .ref h20]))] _ _ := h
  refine lv_iload_n hx hb dX12_numbers_5 rfl (lv_at hl 1 rfl) ?_
  refine lv_i2l hx hb dX12_numbers_6 rfl ?_
  refine lv_lconst (v := 0) hx hb dX12_numbers_7 (by decide) ?_
  refine lv_ldc2 hx hb hown (ht _ wm_7_29) dX12_numbers_8 ?_
  have g_10354 : ((p0).toInt64) ≤ ((-1) : Int64) := by
    simp only [q_lc_lt, q_lc_ge, q_lc_gt, q_lc_le, q_lc_eq, Int32.toInt_toInt64, Int64.lt_iff_toInt_lt, Int64.le_iff_toInt_le, ← Int64.toInt_inj, Int32.lt_iff_toInt_lt, Int32.le_iff_toInt_le, ← Int32.toInt_inj] at hhi_p0 ⊢
    have k_0 : ((-1) : Int32).toInt = -1 := by decide
    have k_g : ((-1) : Int64).toInt = -1 := by decide
    omega
  refine q_callSi (rest := []) (wr := [(h0, .inr (12, [.int 0, .ref h1, .ref h2, .ref h3, .ref h4, .int 0, .int 0, .int 0, .int 0, .int 0, .int 0, .int 0, .int 0, .int 0, .int (-1), .int 0, .ref h5, .ref h6, .ref h7, .ref h8, .ref h9, .int 0, .int 0, .ref h10, .ref h11, .ref h12, .int 0, .int 0, .ref h13, .ref h14, .ref h15, .ref h16, .ref h17, .int 0, .ref h18, .ref h19, .ref h20]))]) X hK hA h (fun sz => kX12_within_495 l D cy ((p0).toInt64) g_10354 sz) wm_6_50 wm_6_52 wm_1_12 hd_X12_within wm_6_51 ⟨Nat.le_of_ble_eq_true rfl, Nat.le_of_ble_eq_true rfl⟩ hl.1 rfl (Nat.le_of_ble_eq_true rfl) dX12_numbers_11 ⟨Nat.le_of_ble_eq_true rfl, Nat.le_of_ble_eq_true rfl⟩ [] [0] rfl rfl (by decide) rfl rfl (fun r_10355 u_10355 H locs w_10355 h => ?_)
  obtain rfl : r_10355 = 0 := w_10355
  have h : qW D _ _ [(h0, .inr (12, [.int 0, .ref h1, .ref h2, .ref h3, .ref h4, .int 0, .int 0, .int 0, .int 0, .int 0, .int 0, .int 0, .int 0, .int 0, .int (-1), .int 0, .ref h5, .ref h6, .ref h7, .ref h8, .ref h9, .int 0, .int 0, .ref h10, .ref h11, .ref h12, .int 0, .int 0, .ref h13, .ref h14, .ref h15, .ref h16, .ref h17, .int 0, .ref h18, .ref h19, .ref h20]))] _ _ := h
  refine lv_if_eq (tgt := 29) hx hb dX12_numbers_14 (by decide) (fun _ => ?_) (fun c => absurd c (by decide +kernel))
  refine lv_bipush (v := (-2)) hx hb dX12_numbers_29 (by decide) ?_
  exact q_iret X hr hlk hK h rfl (fun _ => 0, fun _ _ => 0, fun _ _ => 0) rfl [0] rfl rfl dX12_numbers_31 (Nat.le_of_ble_eq_true rfl) (Nat.le_of_ble_eq_true rfl)
set_option maxHeartbeats 4000000 in
set_option maxRecDepth 100000 in
theorem kX12_numbers_695 (l : Launch) (D : va_G) (cy : Nat → ClassId) (h0 : Nat) (p0 : Int32) (p1 : Int32) (p2 : Int32) (h1 : Nat) (h2 : Nat) (h3 : Nat) (h4 : Nat) (h5 : Nat) (h6 : Nat) (h7 : Nat) (h8 : Nat) (h9 : Nat) (h10 : Nat) (h11 : Nat) (h12 : Nat) (h13 : Nat) (h14 : Nat) (h15 : Nat) (h16 : Nat) (h17 : Nat) (h18 : Nat) (h19 : Nat) (h20 : Nat) (hhi_p0 : p0 ≤ ((-1) : Int32)) (hlo_p1 : (4 : Int32) ≤ p1) (hlo_p2 : (41 : Int32) ≤ p2) (sz : Nat) : MI l yX12_numbers cX12_numbers 5 .int { frames := 1, cells := 0, slots := 0, locals := 25 } [.ref h0, .int p0, .int p1, .int p2] D cy [(h0, .inr (12, [.int 0, .ref h1, .ref h2, .ref h3, .ref h4, .int 0, .int 0, .int 0, .int 0, .int 0, .int 0, .int 0, .int 0, .int 0, .int (-1), .int 0, .ref h5, .ref h6, .ref h7, .ref h8, .ref h9, .int 0, .int 0, .ref h10, .ref h11, .ref h12, .int 0, .int 0, .ref h13, .ref h14, .ref h15, .ref h16, .ref h17, .int 0, .ref h18, .ref h19, .ref h20]))] sz (fun r u => r = (-2)) (fun u => [(h0, .inr (12, [.int 0, .ref h1, .ref h2, .ref h3, .ref h4, .int 0, .int 0, .int 0, .int 0, .int 0, .int 0, .int 0, .int 0, .int 0, .int (-1), .int 0, .ref h5, .ref h6, .ref h7, .ref h8, .ref h9, .int 0, .int 0, .ref h10, .ref h11, .ref h12, .int 0, .int 0, .ref h13, .ref h14, .ref h15, .ref h16, .ref h17, .int 0, .ref h18, .ref h19, .ref h20]))]) 0 0 := by
  refine q_ent (own := RX12) (by decide) rfl (Nat.le_of_ble_eq_true rfl) (fun p e s m below meth c ls X hr hlk hnm hK h hA hl => ?_)
  obtain ⟨hx, hb, hml, hown, ht⟩ := id X
  have hl : lv_has ls 5 [(0, .ref h0), (1, .int p0), (2, .int p1), (3, .int p2)] := hl
  refine lv_aload_n hx hb dX12_numbers_0 rfl (lv_at hl 0 rfl) ?_
  refine lv_iconst (v := 0) hx hb dX12_numbers_1 (by decide) ?_
  refine q_put (v := .int 0) X hK h 0 rfl rfl wf_12 tyX12 tyX12_ok nmX12 0 (by decide) wm_5_170 rfl rfl rfl (Nat.le_of_ble_eq_true rfl) dX12_numbers_2 (fun H locs h => ?_)
  have h : qW D _ _ [(h0, .inr (12, [.int 0, .ref h1, .ref h2, .ref h3, .ref h4, .int 0, .int 0, .int 0, .int 0, .int 0, .int 0, .int 0, .int 0, .int 0, .int (-1), .int 0, .ref h5, .ref h6, .ref h7, .ref h8, .ref h9, .int 0, .int 0, .ref h10, .ref h11, .ref h12, .int 0, .int 0, .ref h13, .ref h14, .ref h15, .ref h16, .ref h17, .int 0, .ref h18, .ref h19, .ref h20]))] _ _ := h
  refine lv_iload_n hx hb dX12_numbers_5 rfl (lv_at hl 1 rfl) ?_
  refine lv_i2l hx hb dX12_numbers_6 rfl ?_
  refine lv_lconst (v := 0) hx hb dX12_numbers_7 (by decide) ?_
  refine lv_ldc2 hx hb hown (ht _ wm_7_29) dX12_numbers_8 ?_
  have g_10363 : ((p0).toInt64) ≤ ((-1) : Int64) := by
    simp only [q_lc_lt, q_lc_ge, q_lc_gt, q_lc_le, q_lc_eq, Int32.toInt_toInt64, Int64.lt_iff_toInt_lt, Int64.le_iff_toInt_le, ← Int64.toInt_inj, Int32.lt_iff_toInt_lt, Int32.le_iff_toInt_le, ← Int32.toInt_inj] at hhi_p0 ⊢
    have k_0 : ((-1) : Int32).toInt = -1 := by decide
    have k_g : ((-1) : Int64).toInt = -1 := by decide
    omega
  refine q_callSi (rest := []) (wr := [(h0, .inr (12, [.int 0, .ref h1, .ref h2, .ref h3, .ref h4, .int 0, .int 0, .int 0, .int 0, .int 0, .int 0, .int 0, .int 0, .int 0, .int (-1), .int 0, .ref h5, .ref h6, .ref h7, .ref h8, .ref h9, .int 0, .int 0, .ref h10, .ref h11, .ref h12, .int 0, .int 0, .ref h13, .ref h14, .ref h15, .ref h16, .ref h17, .int 0, .ref h18, .ref h19, .ref h20]))]) X hK hA h (fun sz => kX12_within_495 l D cy ((p0).toInt64) g_10363 sz) wm_6_50 wm_6_52 wm_1_12 hd_X12_within wm_6_51 ⟨Nat.le_of_ble_eq_true rfl, Nat.le_of_ble_eq_true rfl⟩ hl.1 rfl (Nat.le_of_ble_eq_true rfl) dX12_numbers_11 ⟨Nat.le_of_ble_eq_true rfl, Nat.le_of_ble_eq_true rfl⟩ [] [0] rfl rfl (by decide) rfl rfl (fun r_10364 u_10364 H locs w_10364 h => ?_)
  obtain rfl : r_10364 = 0 := w_10364
  have h : qW D _ _ [(h0, .inr (12, [.int 0, .ref h1, .ref h2, .ref h3, .ref h4, .int 0, .int 0, .int 0, .int 0, .int 0, .int 0, .int 0, .int 0, .int 0, .int (-1), .int 0, .ref h5, .ref h6, .ref h7, .ref h8, .ref h9, .int 0, .int 0, .ref h10, .ref h11, .ref h12, .int 0, .int 0, .ref h13, .ref h14, .ref h15, .ref h16, .ref h17, .int 0, .ref h18, .ref h19, .ref h20]))] _ _ := h
  refine lv_if_eq (tgt := 29) hx hb dX12_numbers_14 (by decide) (fun _ => ?_) (fun c => absurd c (by decide +kernel))
  refine lv_bipush (v := (-2)) hx hb dX12_numbers_29 (by decide) ?_
  exact q_iret X hr hlk hK h rfl (fun _ => 0, fun _ _ => 0, fun _ _ => 0) rfl [0] rfl rfl dX12_numbers_31 (Nat.le_of_ble_eq_true rfl) (Nat.le_of_ble_eq_true rfl)
set_option maxHeartbeats 4000000 in
set_option maxRecDepth 100000 in
theorem kX12_numbers_696 (l : Launch) (D : va_G) (cy : Nat → ClassId) (h0 : Nat) (p0 : Int32) (p1 : Int32) (h1 : Nat) (h2 : Nat) (h3 : Nat) (h4 : Nat) (h5 : Nat) (h6 : Nat) (h7 : Nat) (h8 : Nat) (h9 : Nat) (h10 : Nat) (h11 : Nat) (h12 : Nat) (h13 : Nat) (h14 : Nat) (h15 : Nat) (h16 : Nat) (h17 : Nat) (h18 : Nat) (h19 : Nat) (h20 : Nat) (hhi_p0 : p0 ≤ ((-1) : Int32)) (hhi_p1 : p1 ≤ ((-1) : Int32)) (sz : Nat) : MI l yX12_numbers cX12_numbers 5 .int { frames := 1, cells := 0, slots := 0, locals := 25 } [.ref h0, .int 0, .int p0, .int p1] D cy [(h0, .inr (12, [.int 0, .ref h1, .ref h2, .ref h3, .ref h4, .int 0, .int 0, .int 0, .int 0, .int 0, .int 0, .int 0, .int 0, .int 0, .int (-1), .int 0, .ref h5, .ref h6, .ref h7, .ref h8, .ref h9, .int 0, .int 0, .ref h10, .ref h11, .ref h12, .int 0, .int 0, .ref h13, .ref h14, .ref h15, .ref h16, .ref h17, .int 0, .ref h18, .ref h19, .ref h20]))] sz (fun r u => r = (-2)) (fun u => [(h0, .inr (12, [.int 0, .ref h1, .ref h2, .ref h3, .ref h4, .int 0, .int 0, .int 0, .int 0, .int 0, .int 0, .int 0, .int 0, .int 0, .int (-1), .int 0, .ref h5, .ref h6, .ref h7, .ref h8, .ref h9, .int 0, .int 0, .ref h10, .ref h11, .ref h12, .int 0, .int 0, .ref h13, .ref h14, .ref h15, .ref h16, .ref h17, .int 0, .ref h18, .ref h19, .ref h20]))]) 0 0 := by
  refine q_ent (own := RX12) (by decide) rfl (Nat.le_of_ble_eq_true rfl) (fun p e s m below meth c ls X hr hlk hnm hK h hA hl => ?_)
  obtain ⟨hx, hb, hml, hown, ht⟩ := id X
  have hl : lv_has ls 5 [(0, .ref h0), (1, .int 0), (2, .int p0), (3, .int p1)] := hl
  refine lv_aload_n hx hb dX12_numbers_0 rfl (lv_at hl 0 rfl) ?_
  refine lv_iconst (v := 0) hx hb dX12_numbers_1 (by decide) ?_
  refine q_put (v := .int 0) X hK h 0 rfl rfl wf_12 tyX12 tyX12_ok nmX12 0 (by decide) wm_5_170 rfl rfl rfl (Nat.le_of_ble_eq_true rfl) dX12_numbers_2 (fun H locs h => ?_)
  have h : qW D _ _ [(h0, .inr (12, [.int 0, .ref h1, .ref h2, .ref h3, .ref h4, .int 0, .int 0, .int 0, .int 0, .int 0, .int 0, .int 0, .int 0, .int 0, .int (-1), .int 0, .ref h5, .ref h6, .ref h7, .ref h8, .ref h9, .int 0, .int 0, .ref h10, .ref h11, .ref h12, .int 0, .int 0, .ref h13, .ref h14, .ref h15, .ref h16, .ref h17, .int 0, .ref h18, .ref h19, .ref h20]))] _ _ := h
  refine lv_iload_n hx hb dX12_numbers_5 rfl (lv_at hl 1 rfl) ?_
  refine lv_i2l (v := 0) hx hb dX12_numbers_6 (by decide +kernel) ?_
  refine lv_lconst (v := 0) hx hb dX12_numbers_7 (by decide) ?_
  refine lv_ldc2 hx hb hown (ht _ wm_7_29) dX12_numbers_8 ?_
  refine q_callSi (rest := []) (wr := [(h0, .inr (12, [.int 0, .ref h1, .ref h2, .ref h3, .ref h4, .int 0, .int 0, .int 0, .int 0, .int 0, .int 0, .int 0, .int 0, .int 0, .int (-1), .int 0, .ref h5, .ref h6, .ref h7, .ref h8, .ref h9, .int 0, .int 0, .ref h10, .ref h11, .ref h12, .int 0, .int 0, .ref h13, .ref h14, .ref h15, .ref h16, .ref h17, .int 0, .ref h18, .ref h19, .ref h20]))]) X hK hA h (fun sz => kX12_within_503 l D cy   sz) wm_6_50 wm_6_52 wm_1_12 hd_X12_within wm_6_51 ⟨Nat.le_of_ble_eq_true rfl, Nat.le_of_ble_eq_true rfl⟩ hl.1 rfl (Nat.le_of_ble_eq_true rfl) dX12_numbers_11 ⟨Nat.le_of_ble_eq_true rfl, Nat.le_of_ble_eq_true rfl⟩ [] [0] rfl rfl (by decide) rfl rfl (fun r_10373 u_10373 H locs w_10373 h => ?_)
  obtain rfl : r_10373 = 1 := w_10373
  have h : qW D _ _ [(h0, .inr (12, [.int 0, .ref h1, .ref h2, .ref h3, .ref h4, .int 0, .int 0, .int 0, .int 0, .int 0, .int 0, .int 0, .int 0, .int 0, .int (-1), .int 0, .ref h5, .ref h6, .ref h7, .ref h8, .ref h9, .int 0, .int 0, .ref h10, .ref h11, .ref h12, .int 0, .int 0, .ref h13, .ref h14, .ref h15, .ref h16, .ref h17, .int 0, .ref h18, .ref h19, .ref h20]))] _ _ := h
  refine lv_if_eq (tgt := 29) hx hb dX12_numbers_14 (by decide) (fun c => absurd c (by decide +kernel)) (fun _ => ?_)
  refine lv_iload_n hx hb dX12_numbers_17 rfl (lv_at hl 2 rfl) ?_
  refine lv_i2l hx hb dX12_numbers_18 rfl ?_
  refine lv_lconst (v := 0) hx hb dX12_numbers_19 (by decide) ?_
  refine lv_ldc2 hx hb hown (ht _ wm_7_29) dX12_numbers_20 ?_
  have g_10375 : ((p0).toInt64) ≤ ((-1) : Int64) := by
    simp only [q_lc_lt, q_lc_ge, q_lc_gt, q_lc_le, q_lc_eq, Int32.toInt_toInt64, Int64.lt_iff_toInt_lt, Int64.le_iff_toInt_le, ← Int64.toInt_inj, Int32.lt_iff_toInt_lt, Int32.le_iff_toInt_le, ← Int32.toInt_inj] at hhi_p0 ⊢
    have k_0 : ((-1) : Int32).toInt = -1 := by decide
    have k_g : ((-1) : Int64).toInt = -1 := by decide
    omega
  refine q_callSi (rest := []) (wr := [(h0, .inr (12, [.int 0, .ref h1, .ref h2, .ref h3, .ref h4, .int 0, .int 0, .int 0, .int 0, .int 0, .int 0, .int 0, .int 0, .int 0, .int (-1), .int 0, .ref h5, .ref h6, .ref h7, .ref h8, .ref h9, .int 0, .int 0, .ref h10, .ref h11, .ref h12, .int 0, .int 0, .ref h13, .ref h14, .ref h15, .ref h16, .ref h17, .int 0, .ref h18, .ref h19, .ref h20]))]) X hK hA h (fun sz => kX12_within_495 l D cy ((p0).toInt64) g_10375 sz) wm_6_50 wm_6_52 wm_1_12 hd_X12_within wm_6_51 ⟨Nat.le_of_ble_eq_true rfl, Nat.le_of_ble_eq_true rfl⟩ hl.1 rfl (Nat.le_of_ble_eq_true rfl) dX12_numbers_23 ⟨Nat.le_of_ble_eq_true rfl, Nat.le_of_ble_eq_true rfl⟩ [] [0] rfl rfl (by decide) rfl rfl (fun r_10376 u_10376 H locs w_10376 h => ?_)
  obtain rfl : r_10376 = 0 := w_10376
  have h : qW D _ _ [(h0, .inr (12, [.int 0, .ref h1, .ref h2, .ref h3, .ref h4, .int 0, .int 0, .int 0, .int 0, .int 0, .int 0, .int 0, .int 0, .int 0, .int (-1), .int 0, .ref h5, .ref h6, .ref h7, .ref h8, .ref h9, .int 0, .int 0, .ref h10, .ref h11, .ref h12, .int 0, .int 0, .ref h13, .ref h14, .ref h15, .ref h16, .ref h17, .int 0, .ref h18, .ref h19, .ref h20]))] _ _ := h
  refine lv_if_ne (tgt := 32) hx hb dX12_numbers_26 (by decide) (fun c => absurd c (by decide +kernel)) (fun _ => ?_)
  refine lv_bipush (v := (-2)) hx hb dX12_numbers_29 (by decide) ?_
  exact q_iret X hr hlk hK h rfl (fun _ => 0, fun _ _ => 0, fun _ _ => 0) rfl [0] rfl rfl dX12_numbers_31 (Nat.le_of_ble_eq_true rfl) (Nat.le_of_ble_eq_true rfl)
set_option maxHeartbeats 4000000 in
set_option maxRecDepth 100000 in
theorem kX12_numbers_697 (l : Launch) (D : va_G) (cy : Nat → ClassId) (h0 : Nat) (p0 : Int32) (p1 : Int32) (h1 : Nat) (h2 : Nat) (h3 : Nat) (h4 : Nat) (h5 : Nat) (h6 : Nat) (h7 : Nat) (h8 : Nat) (h9 : Nat) (h10 : Nat) (h11 : Nat) (h12 : Nat) (h13 : Nat) (h14 : Nat) (h15 : Nat) (h16 : Nat) (h17 : Nat) (h18 : Nat) (h19 : Nat) (h20 : Nat) (hhi_p0 : p0 ≤ ((-1) : Int32)) (hlo_p1 : (0 : Int32) ≤ p1) (hhi_p1 : p1 ≤ (40 : Int32)) (sz : Nat) : MI l yX12_numbers cX12_numbers 5 .int { frames := 1, cells := 0, slots := 0, locals := 25 } [.ref h0, .int 0, .int p0, .int p1] D cy [(h0, .inr (12, [.int 0, .ref h1, .ref h2, .ref h3, .ref h4, .int 0, .int 0, .int 0, .int 0, .int 0, .int 0, .int 0, .int 0, .int 0, .int (-1), .int 0, .ref h5, .ref h6, .ref h7, .ref h8, .ref h9, .int 0, .int 0, .ref h10, .ref h11, .ref h12, .int 0, .int 0, .ref h13, .ref h14, .ref h15, .ref h16, .ref h17, .int 0, .ref h18, .ref h19, .ref h20]))] sz (fun r u => r = (-2)) (fun u => [(h0, .inr (12, [.int 0, .ref h1, .ref h2, .ref h3, .ref h4, .int 0, .int 0, .int 0, .int 0, .int 0, .int 0, .int 0, .int 0, .int 0, .int (-1), .int 0, .ref h5, .ref h6, .ref h7, .ref h8, .ref h9, .int 0, .int 0, .ref h10, .ref h11, .ref h12, .int 0, .int 0, .ref h13, .ref h14, .ref h15, .ref h16, .ref h17, .int 0, .ref h18, .ref h19, .ref h20]))]) 0 0 := by
  refine q_ent (own := RX12) (by decide) rfl (Nat.le_of_ble_eq_true rfl) (fun p e s m below meth c ls X hr hlk hnm hK h hA hl => ?_)
  obtain ⟨hx, hb, hml, hown, ht⟩ := id X
  have hl : lv_has ls 5 [(0, .ref h0), (1, .int 0), (2, .int p0), (3, .int p1)] := hl
  refine lv_aload_n hx hb dX12_numbers_0 rfl (lv_at hl 0 rfl) ?_
  refine lv_iconst (v := 0) hx hb dX12_numbers_1 (by decide) ?_
  refine q_put (v := .int 0) X hK h 0 rfl rfl wf_12 tyX12 tyX12_ok nmX12 0 (by decide) wm_5_170 rfl rfl rfl (Nat.le_of_ble_eq_true rfl) dX12_numbers_2 (fun H locs h => ?_)
  have h : qW D _ _ [(h0, .inr (12, [.int 0, .ref h1, .ref h2, .ref h3, .ref h4, .int 0, .int 0, .int 0, .int 0, .int 0, .int 0, .int 0, .int 0, .int 0, .int (-1), .int 0, .ref h5, .ref h6, .ref h7, .ref h8, .ref h9, .int 0, .int 0, .ref h10, .ref h11, .ref h12, .int 0, .int 0, .ref h13, .ref h14, .ref h15, .ref h16, .ref h17, .int 0, .ref h18, .ref h19, .ref h20]))] _ _ := h
  refine lv_iload_n hx hb dX12_numbers_5 rfl (lv_at hl 1 rfl) ?_
  refine lv_i2l (v := 0) hx hb dX12_numbers_6 (by decide +kernel) ?_
  refine lv_lconst (v := 0) hx hb dX12_numbers_7 (by decide) ?_
  refine lv_ldc2 hx hb hown (ht _ wm_7_29) dX12_numbers_8 ?_
  refine q_callSi (rest := []) (wr := [(h0, .inr (12, [.int 0, .ref h1, .ref h2, .ref h3, .ref h4, .int 0, .int 0, .int 0, .int 0, .int 0, .int 0, .int 0, .int 0, .int 0, .int (-1), .int 0, .ref h5, .ref h6, .ref h7, .ref h8, .ref h9, .int 0, .int 0, .ref h10, .ref h11, .ref h12, .int 0, .int 0, .ref h13, .ref h14, .ref h15, .ref h16, .ref h17, .int 0, .ref h18, .ref h19, .ref h20]))]) X hK hA h (fun sz => kX12_within_503 l D cy   sz) wm_6_50 wm_6_52 wm_1_12 hd_X12_within wm_6_51 ⟨Nat.le_of_ble_eq_true rfl, Nat.le_of_ble_eq_true rfl⟩ hl.1 rfl (Nat.le_of_ble_eq_true rfl) dX12_numbers_11 ⟨Nat.le_of_ble_eq_true rfl, Nat.le_of_ble_eq_true rfl⟩ [] [0] rfl rfl (by decide) rfl rfl (fun r_10385 u_10385 H locs w_10385 h => ?_)
  obtain rfl : r_10385 = 1 := w_10385
  have h : qW D _ _ [(h0, .inr (12, [.int 0, .ref h1, .ref h2, .ref h3, .ref h4, .int 0, .int 0, .int 0, .int 0, .int 0, .int 0, .int 0, .int 0, .int 0, .int (-1), .int 0, .ref h5, .ref h6, .ref h7, .ref h8, .ref h9, .int 0, .int 0, .ref h10, .ref h11, .ref h12, .int 0, .int 0, .ref h13, .ref h14, .ref h15, .ref h16, .ref h17, .int 0, .ref h18, .ref h19, .ref h20]))] _ _ := h
  refine lv_if_eq (tgt := 29) hx hb dX12_numbers_14 (by decide) (fun c => absurd c (by decide +kernel)) (fun _ => ?_)
  refine lv_iload_n hx hb dX12_numbers_17 rfl (lv_at hl 2 rfl) ?_
  refine lv_i2l hx hb dX12_numbers_18 rfl ?_
  refine lv_lconst (v := 0) hx hb dX12_numbers_19 (by decide) ?_
  refine lv_ldc2 hx hb hown (ht _ wm_7_29) dX12_numbers_20 ?_
  have g_10387 : ((p0).toInt64) ≤ ((-1) : Int64) := by
    simp only [q_lc_lt, q_lc_ge, q_lc_gt, q_lc_le, q_lc_eq, Int32.toInt_toInt64, Int64.lt_iff_toInt_lt, Int64.le_iff_toInt_le, ← Int64.toInt_inj, Int32.lt_iff_toInt_lt, Int32.le_iff_toInt_le, ← Int32.toInt_inj] at hhi_p0 ⊢
    have k_0 : ((-1) : Int32).toInt = -1 := by decide
    have k_g : ((-1) : Int64).toInt = -1 := by decide
    omega
  refine q_callSi (rest := []) (wr := [(h0, .inr (12, [.int 0, .ref h1, .ref h2, .ref h3, .ref h4, .int 0, .int 0, .int 0, .int 0, .int 0, .int 0, .int 0, .int 0, .int 0, .int (-1), .int 0, .ref h5, .ref h6, .ref h7, .ref h8, .ref h9, .int 0, .int 0, .ref h10, .ref h11, .ref h12, .int 0, .int 0, .ref h13, .ref h14, .ref h15, .ref h16, .ref h17, .int 0, .ref h18, .ref h19, .ref h20]))]) X hK hA h (fun sz => kX12_within_495 l D cy ((p0).toInt64) g_10387 sz) wm_6_50 wm_6_52 wm_1_12 hd_X12_within wm_6_51 ⟨Nat.le_of_ble_eq_true rfl, Nat.le_of_ble_eq_true rfl⟩ hl.1 rfl (Nat.le_of_ble_eq_true rfl) dX12_numbers_23 ⟨Nat.le_of_ble_eq_true rfl, Nat.le_of_ble_eq_true rfl⟩ [] [0] rfl rfl (by decide) rfl rfl (fun r_10388 u_10388 H locs w_10388 h => ?_)
  obtain rfl : r_10388 = 0 := w_10388
  have h : qW D _ _ [(h0, .inr (12, [.int 0, .ref h1, .ref h2, .ref h3, .ref h4, .int 0, .int 0, .int 0, .int 0, .int 0, .int 0, .int 0, .int 0, .int 0, .int (-1), .int 0, .ref h5, .ref h6, .ref h7, .ref h8, .ref h9, .int 0, .int 0, .ref h10, .ref h11, .ref h12, .int 0, .int 0, .ref h13, .ref h14, .ref h15, .ref h16, .ref h17, .int 0, .ref h18, .ref h19, .ref h20]))] _ _ := h
  refine lv_if_ne (tgt := 32) hx hb dX12_numbers_26 (by decide) (fun c => absurd c (by decide +kernel)) (fun _ => ?_)
  refine lv_bipush (v := (-2)) hx hb dX12_numbers_29 (by decide) ?_
  exact q_iret X hr hlk hK h rfl (fun _ => 0, fun _ _ => 0, fun _ _ => 0) rfl [0] rfl rfl dX12_numbers_31 (Nat.le_of_ble_eq_true rfl) (Nat.le_of_ble_eq_true rfl)
set_option maxHeartbeats 4000000 in
set_option maxRecDepth 100000 in
theorem kX12_numbers_698 (l : Launch) (D : va_G) (cy : Nat → ClassId) (h0 : Nat) (p0 : Int32) (p1 : Int32) (h1 : Nat) (h2 : Nat) (h3 : Nat) (h4 : Nat) (h5 : Nat) (h6 : Nat) (h7 : Nat) (h8 : Nat) (h9 : Nat) (h10 : Nat) (h11 : Nat) (h12 : Nat) (h13 : Nat) (h14 : Nat) (h15 : Nat) (h16 : Nat) (h17 : Nat) (h18 : Nat) (h19 : Nat) (h20 : Nat) (hhi_p0 : p0 ≤ ((-1) : Int32)) (hlo_p1 : (41 : Int32) ≤ p1) (sz : Nat) : MI l yX12_numbers cX12_numbers 5 .int { frames := 1, cells := 0, slots := 0, locals := 25 } [.ref h0, .int 0, .int p0, .int p1] D cy [(h0, .inr (12, [.int 0, .ref h1, .ref h2, .ref h3, .ref h4, .int 0, .int 0, .int 0, .int 0, .int 0, .int 0, .int 0, .int 0, .int 0, .int (-1), .int 0, .ref h5, .ref h6, .ref h7, .ref h8, .ref h9, .int 0, .int 0, .ref h10, .ref h11, .ref h12, .int 0, .int 0, .ref h13, .ref h14, .ref h15, .ref h16, .ref h17, .int 0, .ref h18, .ref h19, .ref h20]))] sz (fun r u => r = (-2)) (fun u => [(h0, .inr (12, [.int 0, .ref h1, .ref h2, .ref h3, .ref h4, .int 0, .int 0, .int 0, .int 0, .int 0, .int 0, .int 0, .int 0, .int 0, .int (-1), .int 0, .ref h5, .ref h6, .ref h7, .ref h8, .ref h9, .int 0, .int 0, .ref h10, .ref h11, .ref h12, .int 0, .int 0, .ref h13, .ref h14, .ref h15, .ref h16, .ref h17, .int 0, .ref h18, .ref h19, .ref h20]))]) 0 0 := by
  refine q_ent (own := RX12) (by decide) rfl (Nat.le_of_ble_eq_true rfl) (fun p e s m below meth c ls X hr hlk hnm hK h hA hl => ?_)
  obtain ⟨hx, hb, hml, hown, ht⟩ := id X
  have hl : lv_has ls 5 [(0, .ref h0), (1, .int 0), (2, .int p0), (3, .int p1)] := hl
  refine lv_aload_n hx hb dX12_numbers_0 rfl (lv_at hl 0 rfl) ?_
  refine lv_iconst (v := 0) hx hb dX12_numbers_1 (by decide) ?_
  refine q_put (v := .int 0) X hK h 0 rfl rfl wf_12 tyX12 tyX12_ok nmX12 0 (by decide) wm_5_170 rfl rfl rfl (Nat.le_of_ble_eq_true rfl) dX12_numbers_2 (fun H locs h => ?_)
  have h : qW D _ _ [(h0, .inr (12, [.int 0, .ref h1, .ref h2, .ref h3, .ref h4, .int 0, .int 0, .int 0, .int 0, .int 0, .int 0, .int 0, .int 0, .int 0, .int (-1), .int 0, .ref h5, .ref h6, .ref h7, .ref h8, .ref h9, .int 0, .int 0, .ref h10, .ref h11, .ref h12, .int 0, .int 0, .ref h13, .ref h14, .ref h15, .ref h16, .ref h17, .int 0, .ref h18, .ref h19, .ref h20]))] _ _ := h
  refine lv_iload_n hx hb dX12_numbers_5 rfl (lv_at hl 1 rfl) ?_
  refine lv_i2l (v := 0) hx hb dX12_numbers_6 (by decide +kernel) ?_
  refine lv_lconst (v := 0) hx hb dX12_numbers_7 (by decide) ?_
  refine lv_ldc2 hx hb hown (ht _ wm_7_29) dX12_numbers_8 ?_
  refine q_callSi (rest := []) (wr := [(h0, .inr (12, [.int 0, .ref h1, .ref h2, .ref h3, .ref h4, .int 0, .int 0, .int 0, .int 0, .int 0, .int 0, .int 0, .int 0, .int 0, .int (-1), .int 0, .ref h5, .ref h6, .ref h7, .ref h8, .ref h9, .int 0, .int 0, .ref h10, .ref h11, .ref h12, .int 0, .int 0, .ref h13, .ref h14, .ref h15, .ref h16, .ref h17, .int 0, .ref h18, .ref h19, .ref h20]))]) X hK hA h (fun sz => kX12_within_503 l D cy   sz) wm_6_50 wm_6_52 wm_1_12 hd_X12_within wm_6_51 ⟨Nat.le_of_ble_eq_true rfl, Nat.le_of_ble_eq_true rfl⟩ hl.1 rfl (Nat.le_of_ble_eq_true rfl) dX12_numbers_11 ⟨Nat.le_of_ble_eq_true rfl, Nat.le_of_ble_eq_true rfl⟩ [] [0] rfl rfl (by decide) rfl rfl (fun r_10397 u_10397 H locs w_10397 h => ?_)
  obtain rfl : r_10397 = 1 := w_10397
  have h : qW D _ _ [(h0, .inr (12, [.int 0, .ref h1, .ref h2, .ref h3, .ref h4, .int 0, .int 0, .int 0, .int 0, .int 0, .int 0, .int 0, .int 0, .int 0, .int (-1), .int 0, .ref h5, .ref h6, .ref h7, .ref h8, .ref h9, .int 0, .int 0, .ref h10, .ref h11, .ref h12, .int 0, .int 0, .ref h13, .ref h14, .ref h15, .ref h16, .ref h17, .int 0, .ref h18, .ref h19, .ref h20]))] _ _ := h
  refine lv_if_eq (tgt := 29) hx hb dX12_numbers_14 (by decide) (fun c => absurd c (by decide +kernel)) (fun _ => ?_)
  refine lv_iload_n hx hb dX12_numbers_17 rfl (lv_at hl 2 rfl) ?_
  refine lv_i2l hx hb dX12_numbers_18 rfl ?_
  refine lv_lconst (v := 0) hx hb dX12_numbers_19 (by decide) ?_
  refine lv_ldc2 hx hb hown (ht _ wm_7_29) dX12_numbers_20 ?_
  have g_10399 : ((p0).toInt64) ≤ ((-1) : Int64) := by
    simp only [q_lc_lt, q_lc_ge, q_lc_gt, q_lc_le, q_lc_eq, Int32.toInt_toInt64, Int64.lt_iff_toInt_lt, Int64.le_iff_toInt_le, ← Int64.toInt_inj, Int32.lt_iff_toInt_lt, Int32.le_iff_toInt_le, ← Int32.toInt_inj] at hhi_p0 ⊢
    have k_0 : ((-1) : Int32).toInt = -1 := by decide
    have k_g : ((-1) : Int64).toInt = -1 := by decide
    omega
  refine q_callSi (rest := []) (wr := [(h0, .inr (12, [.int 0, .ref h1, .ref h2, .ref h3, .ref h4, .int 0, .int 0, .int 0, .int 0, .int 0, .int 0, .int 0, .int 0, .int 0, .int (-1), .int 0, .ref h5, .ref h6, .ref h7, .ref h8, .ref h9, .int 0, .int 0, .ref h10, .ref h11, .ref h12, .int 0, .int 0, .ref h13, .ref h14, .ref h15, .ref h16, .ref h17, .int 0, .ref h18, .ref h19, .ref h20]))]) X hK hA h (fun sz => kX12_within_495 l D cy ((p0).toInt64) g_10399 sz) wm_6_50 wm_6_52 wm_1_12 hd_X12_within wm_6_51 ⟨Nat.le_of_ble_eq_true rfl, Nat.le_of_ble_eq_true rfl⟩ hl.1 rfl (Nat.le_of_ble_eq_true rfl) dX12_numbers_23 ⟨Nat.le_of_ble_eq_true rfl, Nat.le_of_ble_eq_true rfl⟩ [] [0] rfl rfl (by decide) rfl rfl (fun r_10400 u_10400 H locs w_10400 h => ?_)
  obtain rfl : r_10400 = 0 := w_10400
  have h : qW D _ _ [(h0, .inr (12, [.int 0, .ref h1, .ref h2, .ref h3, .ref h4, .int 0, .int 0, .int 0, .int 0, .int 0, .int 0, .int 0, .int 0, .int 0, .int (-1), .int 0, .ref h5, .ref h6, .ref h7, .ref h8, .ref h9, .int 0, .int 0, .ref h10, .ref h11, .ref h12, .int 0, .int 0, .ref h13, .ref h14, .ref h15, .ref h16, .ref h17, .int 0, .ref h18, .ref h19, .ref h20]))] _ _ := h
  refine lv_if_ne (tgt := 32) hx hb dX12_numbers_26 (by decide) (fun c => absurd c (by decide +kernel)) (fun _ => ?_)
  refine lv_bipush (v := (-2)) hx hb dX12_numbers_29 (by decide) ?_
  exact q_iret X hr hlk hK h rfl (fun _ => 0, fun _ _ => 0, fun _ _ => 0) rfl [0] rfl rfl dX12_numbers_31 (Nat.le_of_ble_eq_true rfl) (Nat.le_of_ble_eq_true rfl)
set_option maxHeartbeats 4000000 in
set_option maxRecDepth 100000 in
theorem kX12_within_699 (l : Launch) (D : va_G) (cy : Nat → ClassId) (j0 : Int64) (hhi_j0 : j0 ≤ ((-1) : Int64)) (sz : Nat) : MI l yX12_within cX12_within 6 .boolean { frames := 0, cells := 0, slots := 0, locals := 0 } [.long j0, .long 0, .long 40] D cy [] sz (fun r u => r = 0) (fun u => []) 0 0 := by
  refine q_ent (own := RX12) (by decide) rfl (Nat.le_of_ble_eq_true rfl) (fun p e s m below meth c ls X hr hlk hnm hK h hA hl => ?_)
  obtain ⟨hx, hb, hml, hown, ht⟩ := id X
  have hl : lv_has ls 6 [(0, .long j0), (2, .long 0), (4, .long 40)] := hl
  refine lv_lload_n hx hb dX12_within_0 rfl (lv_at hl 0 rfl) ?_
  refine lv_lload_n hx hb dX12_within_1 rfl (lv_at hl 1 rfl) ?_
  refine W.lcmp hx hb dX12_within_2 ?_
  refine lv_if_lt (tgt := 17) hx hb dX12_within_3 (by decide) (fun c_10409 => ?_) (fun c_10409 => ?_)
  · refine lv_iconst (v := 0) hx hb dX12_within_17 (by decide) ?_
    exact q_iret X hr hlk hK h rfl (fun _ => 0, fun _ _ => 0, fun _ _ => 0) rfl [] rfl rfl dX12_within_18 (Nat.le_of_ble_eq_true rfl) (Nat.le_of_ble_eq_true rfl)
  · exfalso
    simp only [q_lc_lt, q_lc_ge, q_lc_gt, q_lc_le, q_lc_eq, Int32.toInt_toInt64, Int64.lt_iff_toInt_lt, Int64.le_iff_toInt_le, ← Int64.toInt_inj, Int32.lt_iff_toInt_lt, Int32.le_iff_toInt_le, ← Int32.toInt_inj] at hhi_j0 c_10409
    have k_0 : ((-1) : Int64).toInt = -1 := by decide
    have k_1 : (0 : Int64).toInt = 0 := by decide
    omega
set_option maxHeartbeats 4000000 in
set_option maxRecDepth 100000 in
theorem kX12_numbers_700 (l : Launch) (D : va_G) (cy : Nat → ClassId) (h0 : Nat) (p0 : Int32) (p1 : Int32) (h1 : Nat) (h2 : Nat) (h3 : Nat) (h4 : Nat) (h5 : Nat) (h6 : Nat) (h7 : Nat) (h8 : Nat) (h9 : Nat) (h10 : Nat) (h11 : Nat) (h12 : Nat) (h13 : Nat) (h14 : Nat) (h15 : Nat) (h16 : Nat) (h17 : Nat) (h18 : Nat) (h19 : Nat) (h20 : Nat) (hlo_p0 : (0 : Int32) ≤ p0) (hhi_p0 : p0 ≤ (3 : Int32)) (hhi_p1 : p1 ≤ ((-1) : Int32)) (sz : Nat) : MI l yX12_numbers cX12_numbers 5 .int { frames := 1, cells := 0, slots := 0, locals := 25 } [.ref h0, .int 0, .int p0, .int p1] D cy [(h0, .inr (12, [.int 0, .ref h1, .ref h2, .ref h3, .ref h4, .int 0, .int 0, .int 0, .int 0, .int 0, .int 0, .int 0, .int 0, .int 0, .int (-1), .int 0, .ref h5, .ref h6, .ref h7, .ref h8, .ref h9, .int 0, .int 0, .ref h10, .ref h11, .ref h12, .int 0, .int 0, .ref h13, .ref h14, .ref h15, .ref h16, .ref h17, .int 0, .ref h18, .ref h19, .ref h20]))] sz (fun r u => r = (-3)) (fun u => [(h0, .inr (12, [.int 0, .ref h1, .ref h2, .ref h3, .ref h4, .int 0, .int 0, .int 0, .int 0, .int 0, .int 0, .int 0, .int 0, .int 0, .int (-1), .int 0, .ref h5, .ref h6, .ref h7, .ref h8, .ref h9, .int 0, .int 0, .ref h10, .ref h11, .ref h12, .int 0, .int 0, .ref h13, .ref h14, .ref h15, .ref h16, .ref h17, .int 0, .ref h18, .ref h19, .ref h20]))]) 0 0 := by
  refine q_ent (own := RX12) (by decide) rfl (Nat.le_of_ble_eq_true rfl) (fun p e s m below meth c ls X hr hlk hnm hK h hA hl => ?_)
  obtain ⟨hx, hb, hml, hown, ht⟩ := id X
  have hl : lv_has ls 5 [(0, .ref h0), (1, .int 0), (2, .int p0), (3, .int p1)] := hl
  refine lv_aload_n hx hb dX12_numbers_0 rfl (lv_at hl 0 rfl) ?_
  refine lv_iconst (v := 0) hx hb dX12_numbers_1 (by decide) ?_
  refine q_put (v := .int 0) X hK h 0 rfl rfl wf_12 tyX12 tyX12_ok nmX12 0 (by decide) wm_5_170 rfl rfl rfl (Nat.le_of_ble_eq_true rfl) dX12_numbers_2 (fun H locs h => ?_)
  have h : qW D _ _ [(h0, .inr (12, [.int 0, .ref h1, .ref h2, .ref h3, .ref h4, .int 0, .int 0, .int 0, .int 0, .int 0, .int 0, .int 0, .int 0, .int 0, .int (-1), .int 0, .ref h5, .ref h6, .ref h7, .ref h8, .ref h9, .int 0, .int 0, .ref h10, .ref h11, .ref h12, .int 0, .int 0, .ref h13, .ref h14, .ref h15, .ref h16, .ref h17, .int 0, .ref h18, .ref h19, .ref h20]))] _ _ := h
  refine lv_iload_n hx hb dX12_numbers_5 rfl (lv_at hl 1 rfl) ?_
  refine lv_i2l (v := 0) hx hb dX12_numbers_6 (by decide +kernel) ?_
  refine lv_lconst (v := 0) hx hb dX12_numbers_7 (by decide) ?_
  refine lv_ldc2 hx hb hown (ht _ wm_7_29) dX12_numbers_8 ?_
  refine q_callSi (rest := []) (wr := [(h0, .inr (12, [.int 0, .ref h1, .ref h2, .ref h3, .ref h4, .int 0, .int 0, .int 0, .int 0, .int 0, .int 0, .int 0, .int 0, .int 0, .int (-1), .int 0, .ref h5, .ref h6, .ref h7, .ref h8, .ref h9, .int 0, .int 0, .ref h10, .ref h11, .ref h12, .int 0, .int 0, .ref h13, .ref h14, .ref h15, .ref h16, .ref h17, .int 0, .ref h18, .ref h19, .ref h20]))]) X hK hA h (fun sz => kX12_within_503 l D cy   sz) wm_6_50 wm_6_52 wm_1_12 hd_X12_within wm_6_51 ⟨Nat.le_of_ble_eq_true rfl, Nat.le_of_ble_eq_true rfl⟩ hl.1 rfl (Nat.le_of_ble_eq_true rfl) dX12_numbers_11 ⟨Nat.le_of_ble_eq_true rfl, Nat.le_of_ble_eq_true rfl⟩ [] [0] rfl rfl (by decide) rfl rfl (fun r_10421 u_10421 H locs w_10421 h => ?_)
  obtain rfl : r_10421 = 1 := w_10421
  have h : qW D _ _ [(h0, .inr (12, [.int 0, .ref h1, .ref h2, .ref h3, .ref h4, .int 0, .int 0, .int 0, .int 0, .int 0, .int 0, .int 0, .int 0, .int 0, .int (-1), .int 0, .ref h5, .ref h6, .ref h7, .ref h8, .ref h9, .int 0, .int 0, .ref h10, .ref h11, .ref h12, .int 0, .int 0, .ref h13, .ref h14, .ref h15, .ref h16, .ref h17, .int 0, .ref h18, .ref h19, .ref h20]))] _ _ := h
  refine lv_if_eq (tgt := 29) hx hb dX12_numbers_14 (by decide) (fun c => absurd c (by decide +kernel)) (fun _ => ?_)
  refine lv_iload_n hx hb dX12_numbers_17 rfl (lv_at hl 2 rfl) ?_
  refine lv_i2l hx hb dX12_numbers_18 rfl ?_
  refine lv_lconst (v := 0) hx hb dX12_numbers_19 (by decide) ?_
  refine lv_ldc2 hx hb hown (ht _ wm_7_29) dX12_numbers_20 ?_
  have g_10424 : (0 : Int64) ≤ ((p0).toInt64) := by
    simp only [q_lc_lt, q_lc_ge, q_lc_gt, q_lc_le, q_lc_eq, Int32.toInt_toInt64, Int64.lt_iff_toInt_lt, Int64.le_iff_toInt_le, ← Int64.toInt_inj, Int32.lt_iff_toInt_lt, Int32.le_iff_toInt_le, ← Int32.toInt_inj] at hlo_p0 hhi_p0 ⊢
    have k_0 : (0 : Int32).toInt = 0 := by decide
    have k_1 : (3 : Int32).toInt = 3 := by decide
    have k_g : (0 : Int64).toInt = 0 := by decide
    omega
  have g_10425 : ((p0).toInt64) ≤ (3 : Int64) := by
    simp only [q_lc_lt, q_lc_ge, q_lc_gt, q_lc_le, q_lc_eq, Int32.toInt_toInt64, Int64.lt_iff_toInt_lt, Int64.le_iff_toInt_le, ← Int64.toInt_inj, Int32.lt_iff_toInt_lt, Int32.le_iff_toInt_le, ← Int32.toInt_inj] at hlo_p0 hhi_p0 ⊢
    have k_0 : (0 : Int32).toInt = 0 := by decide
    have k_1 : (3 : Int32).toInt = 3 := by decide
    have k_g : (3 : Int64).toInt = 3 := by decide
    omega
  refine q_callSi (rest := []) (wr := [(h0, .inr (12, [.int 0, .ref h1, .ref h2, .ref h3, .ref h4, .int 0, .int 0, .int 0, .int 0, .int 0, .int 0, .int 0, .int 0, .int 0, .int (-1), .int 0, .ref h5, .ref h6, .ref h7, .ref h8, .ref h9, .int 0, .int 0, .ref h10, .ref h11, .ref h12, .int 0, .int 0, .ref h13, .ref h14, .ref h15, .ref h16, .ref h17, .int 0, .ref h18, .ref h19, .ref h20]))]) X hK hA h (fun sz => kX12_within_497 l D cy ((p0).toInt64) g_10424 g_10425 sz) wm_6_50 wm_6_52 wm_1_12 hd_X12_within wm_6_51 ⟨Nat.le_of_ble_eq_true rfl, Nat.le_of_ble_eq_true rfl⟩ hl.1 rfl (Nat.le_of_ble_eq_true rfl) dX12_numbers_23 ⟨Nat.le_of_ble_eq_true rfl, Nat.le_of_ble_eq_true rfl⟩ [] [0] rfl rfl (by decide) rfl rfl (fun r_10426 u_10426 H locs w_10426 h => ?_)
  obtain rfl : r_10426 = 1 := w_10426
  have h : qW D _ _ [(h0, .inr (12, [.int 0, .ref h1, .ref h2, .ref h3, .ref h4, .int 0, .int 0, .int 0, .int 0, .int 0, .int 0, .int 0, .int 0, .int 0, .int (-1), .int 0, .ref h5, .ref h6, .ref h7, .ref h8, .ref h9, .int 0, .int 0, .ref h10, .ref h11, .ref h12, .int 0, .int 0, .ref h13, .ref h14, .ref h15, .ref h16, .ref h17, .int 0, .ref h18, .ref h19, .ref h20]))] _ _ := h
  refine lv_if_ne (tgt := 32) hx hb dX12_numbers_26 (by decide) (fun _ => ?_) (fun c => absurd c (by decide +kernel))
  refine lv_iload_n hx hb dX12_numbers_32 rfl (lv_at hl 3 rfl) ?_
  refine lv_i2l hx hb dX12_numbers_33 rfl ?_
  refine lv_lconst (v := 0) hx hb dX12_numbers_34 (by decide) ?_
  refine lv_ldc2 hx hb hown (ht _ wm_7_82) dX12_numbers_35 ?_
  have g_10428 : ((p1).toInt64) ≤ ((-1) : Int64) := by
    simp only [q_lc_lt, q_lc_ge, q_lc_gt, q_lc_le, q_lc_eq, Int32.toInt_toInt64, Int64.lt_iff_toInt_lt, Int64.le_iff_toInt_le, ← Int64.toInt_inj, Int32.lt_iff_toInt_lt, Int32.le_iff_toInt_le, ← Int32.toInt_inj] at hhi_p1 ⊢
    have k_0 : ((-1) : Int32).toInt = -1 := by decide
    have k_g : ((-1) : Int64).toInt = -1 := by decide
    omega
  refine q_callSi (rest := []) (wr := [(h0, .inr (12, [.int 0, .ref h1, .ref h2, .ref h3, .ref h4, .int 0, .int 0, .int 0, .int 0, .int 0, .int 0, .int 0, .int 0, .int 0, .int (-1), .int 0, .ref h5, .ref h6, .ref h7, .ref h8, .ref h9, .int 0, .int 0, .ref h10, .ref h11, .ref h12, .int 0, .int 0, .ref h13, .ref h14, .ref h15, .ref h16, .ref h17, .int 0, .ref h18, .ref h19, .ref h20]))]) X hK hA h (fun sz => kX12_within_699 l D cy ((p1).toInt64) g_10428 sz) wm_6_50 wm_6_52 wm_1_12 hd_X12_within wm_6_51 ⟨Nat.le_of_ble_eq_true rfl, Nat.le_of_ble_eq_true rfl⟩ hl.1 rfl (Nat.le_of_ble_eq_true rfl) dX12_numbers_38 ⟨Nat.le_of_ble_eq_true rfl, Nat.le_of_ble_eq_true rfl⟩ [] [0] rfl rfl (by decide) rfl rfl (fun r_10429 u_10429 H locs w_10429 h => ?_)
  obtain rfl : r_10429 = 0 := w_10429
  have h : qW D _ _ [(h0, .inr (12, [.int 0, .ref h1, .ref h2, .ref h3, .ref h4, .int 0, .int 0, .int 0, .int 0, .int 0, .int 0, .int 0, .int 0, .int 0, .int (-1), .int 0, .ref h5, .ref h6, .ref h7, .ref h8, .ref h9, .int 0, .int 0, .ref h10, .ref h11, .ref h12, .int 0, .int 0, .ref h13, .ref h14, .ref h15, .ref h16, .ref h17, .int 0, .ref h18, .ref h19, .ref h20]))] _ _ := h
  refine lv_if_ne (tgt := 47) hx hb dX12_numbers_41 (by decide) (fun c => absurd c (by decide +kernel)) (fun _ => ?_)
  refine lv_bipush (v := (-3)) hx hb dX12_numbers_44 (by decide) ?_
  exact q_iret X hr hlk hK h rfl (fun _ => 0, fun _ _ => 0, fun _ _ => 0) rfl [0] rfl rfl dX12_numbers_46 (Nat.le_of_ble_eq_true rfl) (Nat.le_of_ble_eq_true rfl)
set_option maxHeartbeats 4000000 in
set_option maxRecDepth 100000 in
theorem kX12_within_701 (l : Launch) (D : va_G) (cy : Nat → ClassId) (j0 : Int64) (hlo_j0 : (0 : Int64) ≤ j0) (hhi_j0 : j0 ≤ (40 : Int64)) (sz : Nat) : MI l yX12_within cX12_within 6 .boolean { frames := 0, cells := 0, slots := 0, locals := 0 } [.long j0, .long 0, .long 40] D cy [] sz (fun r u => r = 1) (fun u => []) 0 0 := by
  refine q_ent (own := RX12) (by decide) rfl (Nat.le_of_ble_eq_true rfl) (fun p e s m below meth c ls X hr hlk hnm hK h hA hl => ?_)
  obtain ⟨hx, hb, hml, hown, ht⟩ := id X
  have hl : lv_has ls 6 [(0, .long j0), (2, .long 0), (4, .long 40)] := hl
  refine lv_lload_n hx hb dX12_within_0 rfl (lv_at hl 0 rfl) ?_
  refine lv_lload_n hx hb dX12_within_1 rfl (lv_at hl 1 rfl) ?_
  refine W.lcmp hx hb dX12_within_2 ?_
  refine lv_if_lt (tgt := 17) hx hb dX12_within_3 (by decide) (fun c_10440 => ?_) (fun c_10440 => ?_)
  · exfalso
    simp only [q_lc_lt, q_lc_ge, q_lc_gt, q_lc_le, q_lc_eq, Int32.toInt_toInt64, Int64.lt_iff_toInt_lt, Int64.le_iff_toInt_le, ← Int64.toInt_inj, Int32.lt_iff_toInt_lt, Int32.le_iff_toInt_le, ← Int32.toInt_inj] at hlo_j0 hhi_j0 c_10440
    have k_0 : (0 : Int64).toInt = 0 := by decide
    have k_1 : (40 : Int64).toInt = 40 := by decide
    omega
  · refine lv_lload_n hx hb dX12_within_6 rfl (lv_at hl 0 rfl) ?_
    refine lv_lload hx hb dX12_within_7 (lv_at hl 2 rfl) ?_
    refine W.lcmp hx hb dX12_within_9 ?_
    refine lv_if_gt (tgt := 17) hx hb dX12_within_10 (by decide) (fun c_10441 => ?_) (fun c_10441 => ?_)
    · exfalso
      simp only [q_lc_lt, q_lc_ge, q_lc_gt, q_lc_le, q_lc_eq, Int32.toInt_toInt64, Int64.lt_iff_toInt_lt, Int64.le_iff_toInt_le, ← Int64.toInt_inj, Int32.lt_iff_toInt_lt, Int32.le_iff_toInt_le, ← Int32.toInt_inj] at hlo_j0 hhi_j0 c_10440 c_10441
      have k_0 : (0 : Int64).toInt = 0 := by decide
      have k_1 : (40 : Int64).toInt = 40 := by decide
      omega
    · refine lv_iconst (v := 1) hx hb dX12_within_13 (by decide) ?_
      refine lv_goto (tgt := 18) hx hb dX12_within_14 (by decide) ?_
      exact q_iret X hr hlk hK h rfl (fun _ => 0, fun _ _ => 0, fun _ _ => 0) rfl [] rfl rfl dX12_within_18 (Nat.le_of_ble_eq_true rfl) (Nat.le_of_ble_eq_true rfl)
set_option maxHeartbeats 4000000 in
set_option maxRecDepth 100000 in
theorem kX12_numbers_702 (l : Launch) (D : va_G) (cy : Nat → ClassId) (h0 : Nat) (h1 : Nat) (h2 : Nat) (h3 : Nat) (f0 : Nat → Int32) (p0 : Int32) (p1 : Int32) (h4 : Nat) (h5 : Nat) (h6 : Nat) (h7 : Nat) (h8 : Nat) (h9 : Nat) (h10 : Nat) (h11 : Nat) (h12 : Nat) (h13 : Nat) (h14 : Nat) (h15 : Nat) (h16 : Nat) (h17 : Nat) (h18 : Nat) (h19 : Nat) (h20 : Nat) (hlo_p0 : (0 : Int32) ≤ p0) (hhi_p0 : p0 ≤ (3 : Int32)) (hlo_p1 : (0 : Int32) ≤ p1) (hhi_p1 : p1 ≤ (40 : Int32)) (sz : Nat) : MI l yX12_numbers cX12_numbers 5 .int { frames := 1, cells := 0, slots := 0, locals := 25 } [.ref h0, .int 0, .int p0, .int p1] D cy [(h0, .inr (12, [.int 0, .ref h4, .ref h5, .ref h6, .ref h7, .int 0, .int 0, .int 0, .int 0, .int 0, .int 0, .int 0, .int 0, .int 0, .int (-1), .int 0, .ref h8, .ref h9, .ref h10, .ref h11, .ref h12, .int 0, .int 0, .ref h13, .ref h14, .ref h15, .int 0, .int 0, .ref h16, .ref h17, .ref h18, .ref h19, .ref h20, .int 0, .ref h1, .ref h2, .ref h3])), (h1, .inl (cy 1, 4, .inl f0)), (h2, .inl (cy 1, 4, .inl (fun _ => 0))), (h3, .inl (cy 2, 160, .inr (.inl (fun _ => 0))))] sz (fun r u => r = 0) (fun u => [(h0, .inr (12, [.int 0, .ref h4, .ref h5, .ref h6, .ref h7, .int 0, .int 0, .int 0, .int 0, .int 0, .int 0, .int 0, .int 0, .int 0, .int (-1), .int 0, .ref h8, .ref h9, .ref h10, .ref h11, .ref h12, .int 0, .int 0, .ref h13, .ref h14, .ref h15, .int 0, .int 0, .ref h16, .ref h17, .ref h18, .ref h19, .ref h20, .int 0, .ref h1, .ref h2, .ref h3])), (h1, .inl (cy 1, 4, .inl (upd f0 (Int32.toNatClampNeg 0) p0))), (h2, .inl (cy 1, 4, .inl (upd (fun _ => 0) (Int32.toNatClampNeg 0) (nI N)))), (h3, .inl (cy 2, 160, .inr (.inl (fun _ => 0))))]) 0 0 := by
  refine q_ent (own := RX12) (by decide) rfl (Nat.le_of_ble_eq_true rfl) (fun p e s m below meth c ls X hr hlk hnm hK h hA hl => ?_)
  obtain ⟨hx, hb, hml, hown, ht⟩ := id X
  have hl : lv_has ls 5 [(0, .ref h0), (1, .int 0), (2, .int p0), (3, .int p1)] := hl
  refine lv_aload_n hx hb dX12_numbers_0 rfl (lv_at hl 0 rfl) ?_
  refine lv_iconst (v := 0) hx hb dX12_numbers_1 (by decide) ?_
  refine q_put (v := .int 0) X hK h 0 rfl rfl wf_12 tyX12 tyX12_ok nmX12 0 (by decide) wm_5_170 rfl rfl rfl (Nat.le_of_ble_eq_true rfl) dX12_numbers_2 (fun H locs h => ?_)
  have h : qW D _ _ [(h0, .inr (12, [.int 0, .ref h4, .ref h5, .ref h6, .ref h7, .int 0, .int 0, .int 0, .int 0, .int 0, .int 0, .int 0, .int 0, .int 0, .int (-1), .int 0, .ref h8, .ref h9, .ref h10, .ref h11, .ref h12, .int 0, .int 0, .ref h13, .ref h14, .ref h15, .int 0, .int 0, .ref h16, .ref h17, .ref h18, .ref h19, .ref h20, .int 0, .ref h1, .ref h2, .ref h3])), (h1, .inl (cy 1, 4, .inl f0)), (h2, .inl (cy 1, 4, .inl (fun _ => 0))), (h3, .inl (cy 2, 160, .inr (.inl (fun _ => 0))))] _ _ := h
  refine lv_iload_n hx hb dX12_numbers_5 rfl (lv_at hl 1 rfl) ?_
  refine lv_i2l (v := 0) hx hb dX12_numbers_6 (by decide +kernel) ?_
  refine lv_lconst (v := 0) hx hb dX12_numbers_7 (by decide) ?_
  refine lv_ldc2 hx hb hown (ht _ wm_7_29) dX12_numbers_8 ?_
  refine q_callSi (rest := []) (wr := [(h0, .inr (12, [.int 0, .ref h4, .ref h5, .ref h6, .ref h7, .int 0, .int 0, .int 0, .int 0, .int 0, .int 0, .int 0, .int 0, .int 0, .int (-1), .int 0, .ref h8, .ref h9, .ref h10, .ref h11, .ref h12, .int 0, .int 0, .ref h13, .ref h14, .ref h15, .int 0, .int 0, .ref h16, .ref h17, .ref h18, .ref h19, .ref h20, .int 0, .ref h1, .ref h2, .ref h3])), (h1, .inl (cy 1, 4, .inl f0)), (h2, .inl (cy 1, 4, .inl (fun _ => 0))), (h3, .inl (cy 2, 160, .inr (.inl (fun _ => 0))))]) X hK hA h (fun sz => kX12_within_503 l D cy   sz) wm_6_50 wm_6_52 wm_1_12 hd_X12_within wm_6_51 ⟨Nat.le_of_ble_eq_true rfl, Nat.le_of_ble_eq_true rfl⟩ hl.1 rfl (Nat.le_of_ble_eq_true rfl) dX12_numbers_11 ⟨Nat.le_of_ble_eq_true rfl, Nat.le_of_ble_eq_true rfl⟩ [] [0, 1, 2, 3] rfl rfl (by decide) rfl rfl (fun r_10460 u_10460 H locs w_10460 h => ?_)
  obtain rfl : r_10460 = 1 := w_10460
  have h : qW D _ _ [(h0, .inr (12, [.int 0, .ref h4, .ref h5, .ref h6, .ref h7, .int 0, .int 0, .int 0, .int 0, .int 0, .int 0, .int 0, .int 0, .int 0, .int (-1), .int 0, .ref h8, .ref h9, .ref h10, .ref h11, .ref h12, .int 0, .int 0, .ref h13, .ref h14, .ref h15, .int 0, .int 0, .ref h16, .ref h17, .ref h18, .ref h19, .ref h20, .int 0, .ref h1, .ref h2, .ref h3])), (h1, .inl (cy 1, 4, .inl f0)), (h2, .inl (cy 1, 4, .inl (fun _ => 0))), (h3, .inl (cy 2, 160, .inr (.inl (fun _ => 0))))] _ _ := h
  refine lv_if_eq (tgt := 29) hx hb dX12_numbers_14 (by decide) (fun c => absurd c (by decide +kernel)) (fun _ => ?_)
  refine lv_iload_n hx hb dX12_numbers_17 rfl (lv_at hl 2 rfl) ?_
  refine lv_i2l hx hb dX12_numbers_18 rfl ?_
  refine lv_lconst (v := 0) hx hb dX12_numbers_19 (by decide) ?_
  refine lv_ldc2 hx hb hown (ht _ wm_7_29) dX12_numbers_20 ?_
  have g_10463 : (0 : Int64) ≤ ((p0).toInt64) := by
    simp only [q_lc_lt, q_lc_ge, q_lc_gt, q_lc_le, q_lc_eq, Int32.toInt_toInt64, Int64.lt_iff_toInt_lt, Int64.le_iff_toInt_le, ← Int64.toInt_inj, Int32.lt_iff_toInt_lt, Int32.le_iff_toInt_le, ← Int32.toInt_inj] at hlo_p0 hhi_p0 ⊢
    have k_0 : (0 : Int32).toInt = 0 := by decide
    have k_1 : (3 : Int32).toInt = 3 := by decide
    have k_g : (0 : Int64).toInt = 0 := by decide
    omega
  have g_10464 : ((p0).toInt64) ≤ (3 : Int64) := by
    simp only [q_lc_lt, q_lc_ge, q_lc_gt, q_lc_le, q_lc_eq, Int32.toInt_toInt64, Int64.lt_iff_toInt_lt, Int64.le_iff_toInt_le, ← Int64.toInt_inj, Int32.lt_iff_toInt_lt, Int32.le_iff_toInt_le, ← Int32.toInt_inj] at hlo_p0 hhi_p0 ⊢
    have k_0 : (0 : Int32).toInt = 0 := by decide
    have k_1 : (3 : Int32).toInt = 3 := by decide
    have k_g : (3 : Int64).toInt = 3 := by decide
    omega
  refine q_callSi (rest := []) (wr := [(h0, .inr (12, [.int 0, .ref h4, .ref h5, .ref h6, .ref h7, .int 0, .int 0, .int 0, .int 0, .int 0, .int 0, .int 0, .int 0, .int 0, .int (-1), .int 0, .ref h8, .ref h9, .ref h10, .ref h11, .ref h12, .int 0, .int 0, .ref h13, .ref h14, .ref h15, .int 0, .int 0, .ref h16, .ref h17, .ref h18, .ref h19, .ref h20, .int 0, .ref h1, .ref h2, .ref h3])), (h1, .inl (cy 1, 4, .inl f0)), (h2, .inl (cy 1, 4, .inl (fun _ => 0))), (h3, .inl (cy 2, 160, .inr (.inl (fun _ => 0))))]) X hK hA h (fun sz => kX12_within_497 l D cy ((p0).toInt64) g_10463 g_10464 sz) wm_6_50 wm_6_52 wm_1_12 hd_X12_within wm_6_51 ⟨Nat.le_of_ble_eq_true rfl, Nat.le_of_ble_eq_true rfl⟩ hl.1 rfl (Nat.le_of_ble_eq_true rfl) dX12_numbers_23 ⟨Nat.le_of_ble_eq_true rfl, Nat.le_of_ble_eq_true rfl⟩ [] [0, 1, 2, 3] rfl rfl (by decide) rfl rfl (fun r_10465 u_10465 H locs w_10465 h => ?_)
  obtain rfl : r_10465 = 1 := w_10465
  have h : qW D _ _ [(h0, .inr (12, [.int 0, .ref h4, .ref h5, .ref h6, .ref h7, .int 0, .int 0, .int 0, .int 0, .int 0, .int 0, .int 0, .int 0, .int 0, .int (-1), .int 0, .ref h8, .ref h9, .ref h10, .ref h11, .ref h12, .int 0, .int 0, .ref h13, .ref h14, .ref h15, .int 0, .int 0, .ref h16, .ref h17, .ref h18, .ref h19, .ref h20, .int 0, .ref h1, .ref h2, .ref h3])), (h1, .inl (cy 1, 4, .inl f0)), (h2, .inl (cy 1, 4, .inl (fun _ => 0))), (h3, .inl (cy 2, 160, .inr (.inl (fun _ => 0))))] _ _ := h
  refine lv_if_ne (tgt := 32) hx hb dX12_numbers_26 (by decide) (fun _ => ?_) (fun c => absurd c (by decide +kernel))
  refine lv_iload_n hx hb dX12_numbers_32 rfl (lv_at hl 3 rfl) ?_
  refine lv_i2l hx hb dX12_numbers_33 rfl ?_
  refine lv_lconst (v := 0) hx hb dX12_numbers_34 (by decide) ?_
  refine lv_ldc2 hx hb hown (ht _ wm_7_82) dX12_numbers_35 ?_
  have g_10468 : (0 : Int64) ≤ ((p1).toInt64) := by
    simp only [q_lc_lt, q_lc_ge, q_lc_gt, q_lc_le, q_lc_eq, Int32.toInt_toInt64, Int64.lt_iff_toInt_lt, Int64.le_iff_toInt_le, ← Int64.toInt_inj, Int32.lt_iff_toInt_lt, Int32.le_iff_toInt_le, ← Int32.toInt_inj] at hlo_p1 hhi_p1 ⊢
    have k_0 : (0 : Int32).toInt = 0 := by decide
    have k_1 : (40 : Int32).toInt = 40 := by decide
    have k_g : (0 : Int64).toInt = 0 := by decide
    omega
  have g_10469 : ((p1).toInt64) ≤ (40 : Int64) := by
    simp only [q_lc_lt, q_lc_ge, q_lc_gt, q_lc_le, q_lc_eq, Int32.toInt_toInt64, Int64.lt_iff_toInt_lt, Int64.le_iff_toInt_le, ← Int64.toInt_inj, Int32.lt_iff_toInt_lt, Int32.le_iff_toInt_le, ← Int32.toInt_inj] at hlo_p1 hhi_p1 ⊢
    have k_0 : (0 : Int32).toInt = 0 := by decide
    have k_1 : (40 : Int32).toInt = 40 := by decide
    have k_g : (40 : Int64).toInt = 40 := by decide
    omega
  refine q_callSi (rest := []) (wr := [(h0, .inr (12, [.int 0, .ref h4, .ref h5, .ref h6, .ref h7, .int 0, .int 0, .int 0, .int 0, .int 0, .int 0, .int 0, .int 0, .int 0, .int (-1), .int 0, .ref h8, .ref h9, .ref h10, .ref h11, .ref h12, .int 0, .int 0, .ref h13, .ref h14, .ref h15, .int 0, .int 0, .ref h16, .ref h17, .ref h18, .ref h19, .ref h20, .int 0, .ref h1, .ref h2, .ref h3])), (h1, .inl (cy 1, 4, .inl f0)), (h2, .inl (cy 1, 4, .inl (fun _ => 0))), (h3, .inl (cy 2, 160, .inr (.inl (fun _ => 0))))]) X hK hA h (fun sz => kX12_within_701 l D cy ((p1).toInt64) g_10468 g_10469 sz) wm_6_50 wm_6_52 wm_1_12 hd_X12_within wm_6_51 ⟨Nat.le_of_ble_eq_true rfl, Nat.le_of_ble_eq_true rfl⟩ hl.1 rfl (Nat.le_of_ble_eq_true rfl) dX12_numbers_38 ⟨Nat.le_of_ble_eq_true rfl, Nat.le_of_ble_eq_true rfl⟩ [] [0, 1, 2, 3] rfl rfl (by decide) rfl rfl (fun r_10470 u_10470 H locs w_10470 h => ?_)
  obtain rfl : r_10470 = 1 := w_10470
  have h : qW D _ _ [(h0, .inr (12, [.int 0, .ref h4, .ref h5, .ref h6, .ref h7, .int 0, .int 0, .int 0, .int 0, .int 0, .int 0, .int 0, .int 0, .int 0, .int (-1), .int 0, .ref h8, .ref h9, .ref h10, .ref h11, .ref h12, .int 0, .int 0, .ref h13, .ref h14, .ref h15, .int 0, .int 0, .ref h16, .ref h17, .ref h18, .ref h19, .ref h20, .int 0, .ref h1, .ref h2, .ref h3])), (h1, .inl (cy 1, 4, .inl f0)), (h2, .inl (cy 1, 4, .inl (fun _ => 0))), (h3, .inl (cy 2, 160, .inr (.inl (fun _ => 0))))] _ _ := h
  refine lv_if_ne (tgt := 47) hx hb dX12_numbers_41 (by decide) (fun _ => ?_) (fun c => absurd c (by decide +kernel))
  refine lv_aload_n hx hb dX12_numbers_47 rfl (lv_at hl 0 rfl) ?_
  refine q_get X hK h 0 rfl rfl wf_12 34 (by decide) rfl wm_5_204 dX12_numbers_48 ?_
  refine lv_iload_n hx hb dX12_numbers_51 rfl (lv_at hl 1 rfl) ?_
  refine lv_iload_n hx hb dX12_numbers_52 rfl (lv_at hl 2 rfl) ?_
  refine q_iast X hK h 1 rfl (q_in (by decide +kernel)) dX12_numbers_53 (fun H locs h => ?_)
  have h : qW D _ _ [(h0, .inr (12, [.int 0, .ref h4, .ref h5, .ref h6, .ref h7, .int 0, .int 0, .int 0, .int 0, .int 0, .int 0, .int 0, .int 0, .int 0, .int (-1), .int 0, .ref h8, .ref h9, .ref h10, .ref h11, .ref h12, .int 0, .int 0, .ref h13, .ref h14, .ref h15, .int 0, .int 0, .ref h16, .ref h17, .ref h18, .ref h19, .ref h20, .int 0, .ref h1, .ref h2, .ref h3])), (h1, .inl (cy 1, 4, .inl (upd f0 (Int32.toNatClampNeg 0) p0))), (h2, .inl (cy 1, 4, .inl (fun _ => 0))), (h3, .inl (cy 2, 160, .inr (.inl (fun _ => 0))))] _ _ := h
  refine lv_aload_n hx hb dX12_numbers_54 rfl (lv_at hl 0 rfl) ?_
  refine q_get X hK h 0 rfl rfl wf_12 35 (by decide) rfl wm_5_205 dX12_numbers_55 ?_
  refine lv_iload_n hx hb dX12_numbers_58 rfl (lv_at hl 1 rfl) ?_
  refine lv_iload_n hx hb dX12_numbers_59 rfl (lv_at hl 3 rfl) ?_
  refine q_iast X hK h 2 rfl (q_in (by decide +kernel)) dX12_numbers_60 (fun H locs h => ?_)
  have h : qW D _ _ [(h0, .inr (12, [.int 0, .ref h4, .ref h5, .ref h6, .ref h7, .int 0, .int 0, .int 0, .int 0, .int 0, .int 0, .int 0, .int 0, .int 0, .int (-1), .int 0, .ref h8, .ref h9, .ref h10, .ref h11, .ref h12, .int 0, .int 0, .ref h13, .ref h14, .ref h15, .int 0, .int 0, .ref h16, .ref h17, .ref h18, .ref h19, .ref h20, .int 0, .ref h1, .ref h2, .ref h3])), (h1, .inl (cy 1, 4, .inl (upd f0 (Int32.toNatClampNeg 0) p0))), (h2, .inl (cy 1, 4, .inl (upd (fun _ => 0) (Int32.toNatClampNeg 0) p1))), (h3, .inl (cy 2, 160, .inr (.inl (fun _ => 0))))] _ _ := h
  refine lv_iconst (v := 0) hx hb dX12_numbers_61 (by decide) ?_
  refine lv_istore (lv' := [(4, .int 0), (0, .ref h0), (1, .int 0), (2, .int p0), (3, .int p1)]) hx hb dX12_numbers_62 hl (by decide) rfl (fun ls hl => ?_)
  obtain ⟨N, hN, hNe⟩ : ∃ N : Nat, N ≤ 40 ∧ p1 = nI N := q_num hlo_p1 hhi_p1
  subst hNe
  refine q_loop (P := fun k H locs ls => qW D (va_A [(h0, .inr (12, [.int 0, .ref h4, .ref h5, .ref h6, .ref h7, .int 0, .int 0, .int 0, .int 0, .int 0, .int 0, .int 0, .int 0, .int 0, .int (-1), .int 0, .ref h8, .ref h9, .ref h10, .ref h11, .ref h12, .int 0, .int 0, .ref h13, .ref h14, .ref h15, .int 0, .int 0, .ref h16, .ref h17, .ref h18, .ref h19, .ref h20, .int 0, .ref h1, .ref h2, .ref h3])), (h1, .inl (cy 1, 4, .inl f0)), (h2, .inl (cy 1, 4, .inl (fun _ => 0))), (h3, .inl (cy 2, 160, .inr (.inl (fun _ => 0))))] sz) s.heap [(h0, .inr (12, [.int 0, .ref h4, .ref h5, .ref h6, .ref h7, .int 0, .int 0, .int 0, .int 0, .int 0, .int 0, .int 0, .int 0, .int 0, .int (-1), .int 0, .ref h8, .ref h9, .ref h10, .ref h11, .ref h12, .int 0, .int 0, .ref h13, .ref h14, .ref h15, .int 0, .int 0, .ref h16, .ref h17, .ref h18, .ref h19, .ref h20, .int 0, .ref h1, .ref h2, .ref h3])), (h1, .inl (cy 1, 4, .inl (upd f0 (Int32.toNatClampNeg 0) p0))), (h2, .inl (cy 1, 4, .inl (upd (fun _ => 0) (Int32.toNatClampNeg 0) (nI N)))), (h3, .inl (cy 2, 160, .inr (.inl (fun _ => 0))))] H locs ∧ lv_has ls 5 [(4, .int (nI k)), (0, .ref h0), (1, .int 0), (2, .int p0), (3, .int (nI N))]) N 0 (Nat.zero_le _) ⟨h, by rw [nI_0]; exact hl⟩ (fun k hk ih H locs ls hP => ?_) (fun H locs ls hP => ?_)
  · obtain ⟨h, hl⟩ := hP
    have hki : (nI k).toInt = (k : Int) := nI_toInt (by omega)
    have hin_10472 : vp_in (0 + (nI k)) 160 := by rw [show (0 : Int32) + nI k = nI (0 + k) from nI_add 0 k]; exact vp_in_nI (by omega) (by omega)
    refine lv_iload hx hb dX12_numbers_64 (lv_at hl 0 rfl) ?_
    refine lv_iload_n hx hb dX12_numbers_66 rfl (lv_at hl 4 rfl) ?_
    refine lv_icmp_ge (tgt := 89) hx hb dX12_numbers_67 (by decide) (fun c => absurd c (nI_ge hk (by omega))) (fun _ => ?_)
    refine lv_aload_n hx hb dX12_numbers_70 rfl (lv_at hl 1 rfl) ?_
    refine q_get X hK h 0 rfl rfl wf_12 36 (by decide) rfl wm_5_206 dX12_numbers_71 ?_
    refine lv_bipush (v := 40) hx hb dX12_numbers_74 (by decide) ?_
    refine lv_iload_n hx hb dX12_numbers_76 rfl (lv_at hl 2 rfl) ?_
    refine lv_imul hx hb dX12_numbers_77 ?_
    refine q_c 0 (by decide +kernel) ?_
    refine lv_iload hx hb dX12_numbers_78 (lv_at hl 0 rfl) ?_
    refine lv_iadd hx hb dX12_numbers_80 ?_
    refine lv_lconst (v := 0) hx hb dX12_numbers_81 (by decide) ?_
    refine q_last X hK h 3 rfl hin_10472 dX12_numbers_82 (fun H locs h => ?_)
    have h : qW D _ _ [(h0, .inr (12, [.int 0, .ref h4, .ref h5, .ref h6, .ref h7, .int 0, .int 0, .int 0, .int 0, .int 0, .int 0, .int 0, .int 0, .int 0, .int (-1), .int 0, .ref h8, .ref h9, .ref h10, .ref h11, .ref h12, .int 0, .int 0, .ref h13, .ref h14, .ref h15, .int 0, .int 0, .ref h16, .ref h17, .ref h18, .ref h19, .ref h20, .int 0, .ref h1, .ref h2, .ref h3])), (h1, .inl (cy 1, 4, .inl (upd f0 (Int32.toNatClampNeg 0) p0))), (h2, .inl (cy 1, 4, .inl (upd (fun _ => 0) (Int32.toNatClampNeg 0) (nI N)))), (h3, .inl (cy 2, 160, .inr (.inl (vp_updL (fun _ => 0) (Int32.toNatClampNeg (0 + (nI k))) 0))))] _ _ := h
    rw [q_usL rfl] at h
    refine lv_iinc (v := (nI (k + 1))) (lv' := [(4, .int (nI (k + 1))), (0, .ref h0), (1, .int 0), (2, .int p0), (3, .int (nI N))]) hx hb dX12_numbers_83 hl (k := 0) rfl (nI_1 _) (by decide) rfl (fun ls hl => ?_)
    refine lv_goto (tgt := 64) hx hb dX12_numbers_86 (by decide) ?_
    exact ih _ _ _ ⟨h, hl⟩
  · obtain ⟨h, hl⟩ := hP
    refine lv_iload hx hb dX12_numbers_64 (lv_at hl 0 rfl) ?_
    refine lv_iload_n hx hb dX12_numbers_66 rfl (lv_at hl 4 rfl) ?_
    refine lv_icmp_ge (tgt := 89) hx hb dX12_numbers_67 (by decide) (fun _ => ?_) (fun c => absurd (Int32.le_refl _) c)
    refine lv_iconst (v := 0) hx hb dX12_numbers_89 (by decide) ?_
    exact q_iret X hr hlk hK h rfl (fun _ => 0, fun _ _ => 0, fun _ _ => 0) rfl [0, 1, 2, 3] rfl rfl dX12_numbers_90 (Nat.le_of_ble_eq_true rfl) (Nat.le_of_ble_eq_true rfl)
set_option maxHeartbeats 4000000 in
set_option maxRecDepth 100000 in
theorem kX12_within_703 (l : Launch) (D : va_G) (cy : Nat → ClassId) (j0 : Int64) (hlo_j0 : (41 : Int64) ≤ j0) (sz : Nat) : MI l yX12_within cX12_within 6 .boolean { frames := 0, cells := 0, slots := 0, locals := 0 } [.long j0, .long 0, .long 40] D cy [] sz (fun r u => r = 0) (fun u => []) 0 0 := by
  refine q_ent (own := RX12) (by decide) rfl (Nat.le_of_ble_eq_true rfl) (fun p e s m below meth c ls X hr hlk hnm hK h hA hl => ?_)
  obtain ⟨hx, hb, hml, hown, ht⟩ := id X
  have hl : lv_has ls 6 [(0, .long j0), (2, .long 0), (4, .long 40)] := hl
  refine lv_lload_n hx hb dX12_within_0 rfl (lv_at hl 0 rfl) ?_
  refine lv_lload_n hx hb dX12_within_1 rfl (lv_at hl 1 rfl) ?_
  refine W.lcmp hx hb dX12_within_2 ?_
  refine lv_if_lt (tgt := 17) hx hb dX12_within_3 (by decide) (fun c_10483 => ?_) (fun c_10483 => ?_)
  · exfalso
    simp only [q_lc_lt, q_lc_ge, q_lc_gt, q_lc_le, q_lc_eq, Int32.toInt_toInt64, Int64.lt_iff_toInt_lt, Int64.le_iff_toInt_le, ← Int64.toInt_inj, Int32.lt_iff_toInt_lt, Int32.le_iff_toInt_le, ← Int32.toInt_inj] at hlo_j0 c_10483
    have k_0 : (41 : Int64).toInt = 41 := by decide
    have k_1 : (0 : Int64).toInt = 0 := by decide
    omega
  · refine lv_lload_n hx hb dX12_within_6 rfl (lv_at hl 0 rfl) ?_
    refine lv_lload hx hb dX12_within_7 (lv_at hl 2 rfl) ?_
    refine W.lcmp hx hb dX12_within_9 ?_
    refine lv_if_gt (tgt := 17) hx hb dX12_within_10 (by decide) (fun c_10484 => ?_) (fun c_10484 => ?_)
    · refine lv_iconst (v := 0) hx hb dX12_within_17 (by decide) ?_
      exact q_iret X hr hlk hK h rfl (fun _ => 0, fun _ _ => 0, fun _ _ => 0) rfl [] rfl rfl dX12_within_18 (Nat.le_of_ble_eq_true rfl) (Nat.le_of_ble_eq_true rfl)
    · exfalso
      simp only [q_lc_lt, q_lc_ge, q_lc_gt, q_lc_le, q_lc_eq, Int32.toInt_toInt64, Int64.lt_iff_toInt_lt, Int64.le_iff_toInt_le, ← Int64.toInt_inj, Int32.lt_iff_toInt_lt, Int32.le_iff_toInt_le, ← Int32.toInt_inj] at hlo_j0 c_10483 c_10484
      have k_0 : (41 : Int64).toInt = 41 := by decide
      have k_1 : (0 : Int64).toInt = 0 := by decide
      have k_2 : (40 : Int64).toInt = 40 := by decide
      omega
set_option maxHeartbeats 4000000 in
set_option maxRecDepth 100000 in
theorem kX12_numbers_704 (l : Launch) (D : va_G) (cy : Nat → ClassId) (h0 : Nat) (p0 : Int32) (p1 : Int32) (h1 : Nat) (h2 : Nat) (h3 : Nat) (h4 : Nat) (h5 : Nat) (h6 : Nat) (h7 : Nat) (h8 : Nat) (h9 : Nat) (h10 : Nat) (h11 : Nat) (h12 : Nat) (h13 : Nat) (h14 : Nat) (h15 : Nat) (h16 : Nat) (h17 : Nat) (h18 : Nat) (h19 : Nat) (h20 : Nat) (hlo_p0 : (0 : Int32) ≤ p0) (hhi_p0 : p0 ≤ (3 : Int32)) (hlo_p1 : (41 : Int32) ≤ p1) (sz : Nat) : MI l yX12_numbers cX12_numbers 5 .int { frames := 1, cells := 0, slots := 0, locals := 25 } [.ref h0, .int 0, .int p0, .int p1] D cy [(h0, .inr (12, [.int 0, .ref h1, .ref h2, .ref h3, .ref h4, .int 0, .int 0, .int 0, .int 0, .int 0, .int 0, .int 0, .int 0, .int 0, .int (-1), .int 0, .ref h5, .ref h6, .ref h7, .ref h8, .ref h9, .int 0, .int 0, .ref h10, .ref h11, .ref h12, .int 0, .int 0, .ref h13, .ref h14, .ref h15, .ref h16, .ref h17, .int 0, .ref h18, .ref h19, .ref h20]))] sz (fun r u => r = (-3)) (fun u => [(h0, .inr (12, [.int 0, .ref h1, .ref h2, .ref h3, .ref h4, .int 0, .int 0, .int 0, .int 0, .int 0, .int 0, .int 0, .int 0, .int 0, .int (-1), .int 0, .ref h5, .ref h6, .ref h7, .ref h8, .ref h9, .int 0, .int 0, .ref h10, .ref h11, .ref h12, .int 0, .int 0, .ref h13, .ref h14, .ref h15, .ref h16, .ref h17, .int 0, .ref h18, .ref h19, .ref h20]))]) 0 0 := by
  refine q_ent (own := RX12) (by decide) rfl (Nat.le_of_ble_eq_true rfl) (fun p e s m below meth c ls X hr hlk hnm hK h hA hl => ?_)
  obtain ⟨hx, hb, hml, hown, ht⟩ := id X
  have hl : lv_has ls 5 [(0, .ref h0), (1, .int 0), (2, .int p0), (3, .int p1)] := hl
  refine lv_aload_n hx hb dX12_numbers_0 rfl (lv_at hl 0 rfl) ?_
  refine lv_iconst (v := 0) hx hb dX12_numbers_1 (by decide) ?_
  refine q_put (v := .int 0) X hK h 0 rfl rfl wf_12 tyX12 tyX12_ok nmX12 0 (by decide) wm_5_170 rfl rfl rfl (Nat.le_of_ble_eq_true rfl) dX12_numbers_2 (fun H locs h => ?_)
  have h : qW D _ _ [(h0, .inr (12, [.int 0, .ref h1, .ref h2, .ref h3, .ref h4, .int 0, .int 0, .int 0, .int 0, .int 0, .int 0, .int 0, .int 0, .int 0, .int (-1), .int 0, .ref h5, .ref h6, .ref h7, .ref h8, .ref h9, .int 0, .int 0, .ref h10, .ref h11, .ref h12, .int 0, .int 0, .ref h13, .ref h14, .ref h15, .ref h16, .ref h17, .int 0, .ref h18, .ref h19, .ref h20]))] _ _ := h
  refine lv_iload_n hx hb dX12_numbers_5 rfl (lv_at hl 1 rfl) ?_
  refine lv_i2l (v := 0) hx hb dX12_numbers_6 (by decide +kernel) ?_
  refine lv_lconst (v := 0) hx hb dX12_numbers_7 (by decide) ?_
  refine lv_ldc2 hx hb hown (ht _ wm_7_29) dX12_numbers_8 ?_
  refine q_callSi (rest := []) (wr := [(h0, .inr (12, [.int 0, .ref h1, .ref h2, .ref h3, .ref h4, .int 0, .int 0, .int 0, .int 0, .int 0, .int 0, .int 0, .int 0, .int 0, .int (-1), .int 0, .ref h5, .ref h6, .ref h7, .ref h8, .ref h9, .int 0, .int 0, .ref h10, .ref h11, .ref h12, .int 0, .int 0, .ref h13, .ref h14, .ref h15, .ref h16, .ref h17, .int 0, .ref h18, .ref h19, .ref h20]))]) X hK hA h (fun sz => kX12_within_503 l D cy   sz) wm_6_50 wm_6_52 wm_1_12 hd_X12_within wm_6_51 ⟨Nat.le_of_ble_eq_true rfl, Nat.le_of_ble_eq_true rfl⟩ hl.1 rfl (Nat.le_of_ble_eq_true rfl) dX12_numbers_11 ⟨Nat.le_of_ble_eq_true rfl, Nat.le_of_ble_eq_true rfl⟩ [] [0] rfl rfl (by decide) rfl rfl (fun r_10497 u_10497 H locs w_10497 h => ?_)
  obtain rfl : r_10497 = 1 := w_10497
  have h : qW D _ _ [(h0, .inr (12, [.int 0, .ref h1, .ref h2, .ref h3, .ref h4, .int 0, .int 0, .int 0, .int 0, .int 0, .int 0, .int 0, .int 0, .int 0, .int (-1), .int 0, .ref h5, .ref h6, .ref h7, .ref h8, .ref h9, .int 0, .int 0, .ref h10, .ref h11, .ref h12, .int 0, .int 0, .ref h13, .ref h14, .ref h15, .ref h16, .ref h17, .int 0, .ref h18, .ref h19, .ref h20]))] _ _ := h
  refine lv_if_eq (tgt := 29) hx hb dX12_numbers_14 (by decide) (fun c => absurd c (by decide +kernel)) (fun _ => ?_)
  refine lv_iload_n hx hb dX12_numbers_17 rfl (lv_at hl 2 rfl) ?_
  refine lv_i2l hx hb dX12_numbers_18 rfl ?_
  refine lv_lconst (v := 0) hx hb dX12_numbers_19 (by decide) ?_
  refine lv_ldc2 hx hb hown (ht _ wm_7_29) dX12_numbers_20 ?_
  have g_10500 : (0 : Int64) ≤ ((p0).toInt64) := by
    simp only [q_lc_lt, q_lc_ge, q_lc_gt, q_lc_le, q_lc_eq, Int32.toInt_toInt64, Int64.lt_iff_toInt_lt, Int64.le_iff_toInt_le, ← Int64.toInt_inj, Int32.lt_iff_toInt_lt, Int32.le_iff_toInt_le, ← Int32.toInt_inj] at hlo_p0 hhi_p0 ⊢
    have k_0 : (0 : Int32).toInt = 0 := by decide
    have k_1 : (3 : Int32).toInt = 3 := by decide
    have k_g : (0 : Int64).toInt = 0 := by decide
    omega
  have g_10501 : ((p0).toInt64) ≤ (3 : Int64) := by
    simp only [q_lc_lt, q_lc_ge, q_lc_gt, q_lc_le, q_lc_eq, Int32.toInt_toInt64, Int64.lt_iff_toInt_lt, Int64.le_iff_toInt_le, ← Int64.toInt_inj, Int32.lt_iff_toInt_lt, Int32.le_iff_toInt_le, ← Int32.toInt_inj] at hlo_p0 hhi_p0 ⊢
    have k_0 : (0 : Int32).toInt = 0 := by decide
    have k_1 : (3 : Int32).toInt = 3 := by decide
    have k_g : (3 : Int64).toInt = 3 := by decide
    omega
  refine q_callSi (rest := []) (wr := [(h0, .inr (12, [.int 0, .ref h1, .ref h2, .ref h3, .ref h4, .int 0, .int 0, .int 0, .int 0, .int 0, .int 0, .int 0, .int 0, .int 0, .int (-1), .int 0, .ref h5, .ref h6, .ref h7, .ref h8, .ref h9, .int 0, .int 0, .ref h10, .ref h11, .ref h12, .int 0, .int 0, .ref h13, .ref h14, .ref h15, .ref h16, .ref h17, .int 0, .ref h18, .ref h19, .ref h20]))]) X hK hA h (fun sz => kX12_within_497 l D cy ((p0).toInt64) g_10500 g_10501 sz) wm_6_50 wm_6_52 wm_1_12 hd_X12_within wm_6_51 ⟨Nat.le_of_ble_eq_true rfl, Nat.le_of_ble_eq_true rfl⟩ hl.1 rfl (Nat.le_of_ble_eq_true rfl) dX12_numbers_23 ⟨Nat.le_of_ble_eq_true rfl, Nat.le_of_ble_eq_true rfl⟩ [] [0] rfl rfl (by decide) rfl rfl (fun r_10502 u_10502 H locs w_10502 h => ?_)
  obtain rfl : r_10502 = 1 := w_10502
  have h : qW D _ _ [(h0, .inr (12, [.int 0, .ref h1, .ref h2, .ref h3, .ref h4, .int 0, .int 0, .int 0, .int 0, .int 0, .int 0, .int 0, .int 0, .int 0, .int (-1), .int 0, .ref h5, .ref h6, .ref h7, .ref h8, .ref h9, .int 0, .int 0, .ref h10, .ref h11, .ref h12, .int 0, .int 0, .ref h13, .ref h14, .ref h15, .ref h16, .ref h17, .int 0, .ref h18, .ref h19, .ref h20]))] _ _ := h
  refine lv_if_ne (tgt := 32) hx hb dX12_numbers_26 (by decide) (fun _ => ?_) (fun c => absurd c (by decide +kernel))
  refine lv_iload_n hx hb dX12_numbers_32 rfl (lv_at hl 3 rfl) ?_
  refine lv_i2l hx hb dX12_numbers_33 rfl ?_
  refine lv_lconst (v := 0) hx hb dX12_numbers_34 (by decide) ?_
  refine lv_ldc2 hx hb hown (ht _ wm_7_82) dX12_numbers_35 ?_
  have g_10505 : (41 : Int64) ≤ ((p1).toInt64) := by
    simp only [q_lc_lt, q_lc_ge, q_lc_gt, q_lc_le, q_lc_eq, Int32.toInt_toInt64, Int64.lt_iff_toInt_lt, Int64.le_iff_toInt_le, ← Int64.toInt_inj, Int32.lt_iff_toInt_lt, Int32.le_iff_toInt_le, ← Int32.toInt_inj] at hlo_p1 ⊢
    have k_0 : (41 : Int32).toInt = 41 := by decide
    have k_g : (41 : Int64).toInt = 41 := by decide
    omega
  refine q_callSi (rest := []) (wr := [(h0, .inr (12, [.int 0, .ref h1, .ref h2, .ref h3, .ref h4, .int 0, .int 0, .int 0, .int 0, .int 0, .int 0, .int 0, .int 0, .int 0, .int (-1), .int 0, .ref h5, .ref h6, .ref h7, .ref h8, .ref h9, .int 0, .int 0, .ref h10, .ref h11, .ref h12, .int 0, .int 0, .ref h13, .ref h14, .ref h15, .ref h16, .ref h17, .int 0, .ref h18, .ref h19, .ref h20]))]) X hK hA h (fun sz => kX12_within_703 l D cy ((p1).toInt64) g_10505 sz) wm_6_50 wm_6_52 wm_1_12 hd_X12_within wm_6_51 ⟨Nat.le_of_ble_eq_true rfl, Nat.le_of_ble_eq_true rfl⟩ hl.1 rfl (Nat.le_of_ble_eq_true rfl) dX12_numbers_38 ⟨Nat.le_of_ble_eq_true rfl, Nat.le_of_ble_eq_true rfl⟩ [] [0] rfl rfl (by decide) rfl rfl (fun r_10506 u_10506 H locs w_10506 h => ?_)
  obtain rfl : r_10506 = 0 := w_10506
  have h : qW D _ _ [(h0, .inr (12, [.int 0, .ref h1, .ref h2, .ref h3, .ref h4, .int 0, .int 0, .int 0, .int 0, .int 0, .int 0, .int 0, .int 0, .int 0, .int (-1), .int 0, .ref h5, .ref h6, .ref h7, .ref h8, .ref h9, .int 0, .int 0, .ref h10, .ref h11, .ref h12, .int 0, .int 0, .ref h13, .ref h14, .ref h15, .ref h16, .ref h17, .int 0, .ref h18, .ref h19, .ref h20]))] _ _ := h
  refine lv_if_ne (tgt := 47) hx hb dX12_numbers_41 (by decide) (fun c => absurd c (by decide +kernel)) (fun _ => ?_)
  refine lv_bipush (v := (-3)) hx hb dX12_numbers_44 (by decide) ?_
  exact q_iret X hr hlk hK h rfl (fun _ => 0, fun _ _ => 0, fun _ _ => 0) rfl [0] rfl rfl dX12_numbers_46 (Nat.le_of_ble_eq_true rfl) (Nat.le_of_ble_eq_true rfl)
set_option maxHeartbeats 4000000 in
set_option maxRecDepth 100000 in
theorem kX12_numbers_705 (l : Launch) (D : va_G) (cy : Nat → ClassId) (h0 : Nat) (p0 : Int32) (p1 : Int32) (h1 : Nat) (h2 : Nat) (h3 : Nat) (h4 : Nat) (h5 : Nat) (h6 : Nat) (h7 : Nat) (h8 : Nat) (h9 : Nat) (h10 : Nat) (h11 : Nat) (h12 : Nat) (h13 : Nat) (h14 : Nat) (h15 : Nat) (h16 : Nat) (h17 : Nat) (h18 : Nat) (h19 : Nat) (h20 : Nat) (hlo_p0 : (4 : Int32) ≤ p0) (hhi_p1 : p1 ≤ ((-1) : Int32)) (sz : Nat) : MI l yX12_numbers cX12_numbers 5 .int { frames := 1, cells := 0, slots := 0, locals := 25 } [.ref h0, .int 0, .int p0, .int p1] D cy [(h0, .inr (12, [.int 0, .ref h1, .ref h2, .ref h3, .ref h4, .int 0, .int 0, .int 0, .int 0, .int 0, .int 0, .int 0, .int 0, .int 0, .int (-1), .int 0, .ref h5, .ref h6, .ref h7, .ref h8, .ref h9, .int 0, .int 0, .ref h10, .ref h11, .ref h12, .int 0, .int 0, .ref h13, .ref h14, .ref h15, .ref h16, .ref h17, .int 0, .ref h18, .ref h19, .ref h20]))] sz (fun r u => r = (-2)) (fun u => [(h0, .inr (12, [.int 0, .ref h1, .ref h2, .ref h3, .ref h4, .int 0, .int 0, .int 0, .int 0, .int 0, .int 0, .int 0, .int 0, .int 0, .int (-1), .int 0, .ref h5, .ref h6, .ref h7, .ref h8, .ref h9, .int 0, .int 0, .ref h10, .ref h11, .ref h12, .int 0, .int 0, .ref h13, .ref h14, .ref h15, .ref h16, .ref h17, .int 0, .ref h18, .ref h19, .ref h20]))]) 0 0 := by
  refine q_ent (own := RX12) (by decide) rfl (Nat.le_of_ble_eq_true rfl) (fun p e s m below meth c ls X hr hlk hnm hK h hA hl => ?_)
  obtain ⟨hx, hb, hml, hown, ht⟩ := id X
  have hl : lv_has ls 5 [(0, .ref h0), (1, .int 0), (2, .int p0), (3, .int p1)] := hl
  refine lv_aload_n hx hb dX12_numbers_0 rfl (lv_at hl 0 rfl) ?_
  refine lv_iconst (v := 0) hx hb dX12_numbers_1 (by decide) ?_
  refine q_put (v := .int 0) X hK h 0 rfl rfl wf_12 tyX12 tyX12_ok nmX12 0 (by decide) wm_5_170 rfl rfl rfl (Nat.le_of_ble_eq_true rfl) dX12_numbers_2 (fun H locs h => ?_)
  have h : qW D _ _ [(h0, .inr (12, [.int 0, .ref h1, .ref h2, .ref h3, .ref h4, .int 0, .int 0, .int 0, .int 0, .int 0, .int 0, .int 0, .int 0, .int 0, .int (-1), .int 0, .ref h5, .ref h6, .ref h7, .ref h8, .ref h9, .int 0, .int 0, .ref h10, .ref h11, .ref h12, .int 0, .int 0, .ref h13, .ref h14, .ref h15, .ref h16, .ref h17, .int 0, .ref h18, .ref h19, .ref h20]))] _ _ := h
  refine lv_iload_n hx hb dX12_numbers_5 rfl (lv_at hl 1 rfl) ?_
  refine lv_i2l (v := 0) hx hb dX12_numbers_6 (by decide +kernel) ?_
  refine lv_lconst (v := 0) hx hb dX12_numbers_7 (by decide) ?_
  refine lv_ldc2 hx hb hown (ht _ wm_7_29) dX12_numbers_8 ?_
  refine q_callSi (rest := []) (wr := [(h0, .inr (12, [.int 0, .ref h1, .ref h2, .ref h3, .ref h4, .int 0, .int 0, .int 0, .int 0, .int 0, .int 0, .int 0, .int 0, .int 0, .int (-1), .int 0, .ref h5, .ref h6, .ref h7, .ref h8, .ref h9, .int 0, .int 0, .ref h10, .ref h11, .ref h12, .int 0, .int 0, .ref h13, .ref h14, .ref h15, .ref h16, .ref h17, .int 0, .ref h18, .ref h19, .ref h20]))]) X hK hA h (fun sz => kX12_within_503 l D cy   sz) wm_6_50 wm_6_52 wm_1_12 hd_X12_within wm_6_51 ⟨Nat.le_of_ble_eq_true rfl, Nat.le_of_ble_eq_true rfl⟩ hl.1 rfl (Nat.le_of_ble_eq_true rfl) dX12_numbers_11 ⟨Nat.le_of_ble_eq_true rfl, Nat.le_of_ble_eq_true rfl⟩ [] [0] rfl rfl (by decide) rfl rfl (fun r_10517 u_10517 H locs w_10517 h => ?_)
  obtain rfl : r_10517 = 1 := w_10517
  have h : qW D _ _ [(h0, .inr (12, [.int 0, .ref h1, .ref h2, .ref h3, .ref h4, .int 0, .int 0, .int 0, .int 0, .int 0, .int 0, .int 0, .int 0, .int 0, .int (-1), .int 0, .ref h5, .ref h6, .ref h7, .ref h8, .ref h9, .int 0, .int 0, .ref h10, .ref h11, .ref h12, .int 0, .int 0, .ref h13, .ref h14, .ref h15, .ref h16, .ref h17, .int 0, .ref h18, .ref h19, .ref h20]))] _ _ := h
  refine lv_if_eq (tgt := 29) hx hb dX12_numbers_14 (by decide) (fun c => absurd c (by decide +kernel)) (fun _ => ?_)
  refine lv_iload_n hx hb dX12_numbers_17 rfl (lv_at hl 2 rfl) ?_
  refine lv_i2l hx hb dX12_numbers_18 rfl ?_
  refine lv_lconst (v := 0) hx hb dX12_numbers_19 (by decide) ?_
  refine lv_ldc2 hx hb hown (ht _ wm_7_29) dX12_numbers_20 ?_
  have g_10520 : (4 : Int64) ≤ ((p0).toInt64) := by
    simp only [q_lc_lt, q_lc_ge, q_lc_gt, q_lc_le, q_lc_eq, Int32.toInt_toInt64, Int64.lt_iff_toInt_lt, Int64.le_iff_toInt_le, ← Int64.toInt_inj, Int32.lt_iff_toInt_lt, Int32.le_iff_toInt_le, ← Int32.toInt_inj] at hlo_p0 ⊢
    have k_0 : (4 : Int32).toInt = 4 := by decide
    have k_g : (4 : Int64).toInt = 4 := by decide
    omega
  refine q_callSi (rest := []) (wr := [(h0, .inr (12, [.int 0, .ref h1, .ref h2, .ref h3, .ref h4, .int 0, .int 0, .int 0, .int 0, .int 0, .int 0, .int 0, .int 0, .int 0, .int (-1), .int 0, .ref h5, .ref h6, .ref h7, .ref h8, .ref h9, .int 0, .int 0, .ref h10, .ref h11, .ref h12, .int 0, .int 0, .ref h13, .ref h14, .ref h15, .ref h16, .ref h17, .int 0, .ref h18, .ref h19, .ref h20]))]) X hK hA h (fun sz => kX12_within_500 l D cy ((p0).toInt64) g_10520 sz) wm_6_50 wm_6_52 wm_1_12 hd_X12_within wm_6_51 ⟨Nat.le_of_ble_eq_true rfl, Nat.le_of_ble_eq_true rfl⟩ hl.1 rfl (Nat.le_of_ble_eq_true rfl) dX12_numbers_23 ⟨Nat.le_of_ble_eq_true rfl, Nat.le_of_ble_eq_true rfl⟩ [] [0] rfl rfl (by decide) rfl rfl (fun r_10521 u_10521 H locs w_10521 h => ?_)
  obtain rfl : r_10521 = 0 := w_10521
  have h : qW D _ _ [(h0, .inr (12, [.int 0, .ref h1, .ref h2, .ref h3, .ref h4, .int 0, .int 0, .int 0, .int 0, .int 0, .int 0, .int 0, .int 0, .int 0, .int (-1), .int 0, .ref h5, .ref h6, .ref h7, .ref h8, .ref h9, .int 0, .int 0, .ref h10, .ref h11, .ref h12, .int 0, .int 0, .ref h13, .ref h14, .ref h15, .ref h16, .ref h17, .int 0, .ref h18, .ref h19, .ref h20]))] _ _ := h
  refine lv_if_ne (tgt := 32) hx hb dX12_numbers_26 (by decide) (fun c => absurd c (by decide +kernel)) (fun _ => ?_)
  refine lv_bipush (v := (-2)) hx hb dX12_numbers_29 (by decide) ?_
  exact q_iret X hr hlk hK h rfl (fun _ => 0, fun _ _ => 0, fun _ _ => 0) rfl [0] rfl rfl dX12_numbers_31 (Nat.le_of_ble_eq_true rfl) (Nat.le_of_ble_eq_true rfl)
set_option maxHeartbeats 4000000 in
set_option maxRecDepth 100000 in
theorem kX12_numbers_706 (l : Launch) (D : va_G) (cy : Nat → ClassId) (h0 : Nat) (p0 : Int32) (p1 : Int32) (h1 : Nat) (h2 : Nat) (h3 : Nat) (h4 : Nat) (h5 : Nat) (h6 : Nat) (h7 : Nat) (h8 : Nat) (h9 : Nat) (h10 : Nat) (h11 : Nat) (h12 : Nat) (h13 : Nat) (h14 : Nat) (h15 : Nat) (h16 : Nat) (h17 : Nat) (h18 : Nat) (h19 : Nat) (h20 : Nat) (hlo_p0 : (4 : Int32) ≤ p0) (hlo_p1 : (0 : Int32) ≤ p1) (hhi_p1 : p1 ≤ (40 : Int32)) (sz : Nat) : MI l yX12_numbers cX12_numbers 5 .int { frames := 1, cells := 0, slots := 0, locals := 25 } [.ref h0, .int 0, .int p0, .int p1] D cy [(h0, .inr (12, [.int 0, .ref h1, .ref h2, .ref h3, .ref h4, .int 0, .int 0, .int 0, .int 0, .int 0, .int 0, .int 0, .int 0, .int 0, .int (-1), .int 0, .ref h5, .ref h6, .ref h7, .ref h8, .ref h9, .int 0, .int 0, .ref h10, .ref h11, .ref h12, .int 0, .int 0, .ref h13, .ref h14, .ref h15, .ref h16, .ref h17, .int 0, .ref h18, .ref h19, .ref h20]))] sz (fun r u => r = (-2)) (fun u => [(h0, .inr (12, [.int 0, .ref h1, .ref h2, .ref h3, .ref h4, .int 0, .int 0, .int 0, .int 0, .int 0, .int 0, .int 0, .int 0, .int 0, .int (-1), .int 0, .ref h5, .ref h6, .ref h7, .ref h8, .ref h9, .int 0, .int 0, .ref h10, .ref h11, .ref h12, .int 0, .int 0, .ref h13, .ref h14, .ref h15, .ref h16, .ref h17, .int 0, .ref h18, .ref h19, .ref h20]))]) 0 0 := by
  refine q_ent (own := RX12) (by decide) rfl (Nat.le_of_ble_eq_true rfl) (fun p e s m below meth c ls X hr hlk hnm hK h hA hl => ?_)
  obtain ⟨hx, hb, hml, hown, ht⟩ := id X
  have hl : lv_has ls 5 [(0, .ref h0), (1, .int 0), (2, .int p0), (3, .int p1)] := hl
  refine lv_aload_n hx hb dX12_numbers_0 rfl (lv_at hl 0 rfl) ?_
  refine lv_iconst (v := 0) hx hb dX12_numbers_1 (by decide) ?_
  refine q_put (v := .int 0) X hK h 0 rfl rfl wf_12 tyX12 tyX12_ok nmX12 0 (by decide) wm_5_170 rfl rfl rfl (Nat.le_of_ble_eq_true rfl) dX12_numbers_2 (fun H locs h => ?_)
  have h : qW D _ _ [(h0, .inr (12, [.int 0, .ref h1, .ref h2, .ref h3, .ref h4, .int 0, .int 0, .int 0, .int 0, .int 0, .int 0, .int 0, .int 0, .int 0, .int (-1), .int 0, .ref h5, .ref h6, .ref h7, .ref h8, .ref h9, .int 0, .int 0, .ref h10, .ref h11, .ref h12, .int 0, .int 0, .ref h13, .ref h14, .ref h15, .ref h16, .ref h17, .int 0, .ref h18, .ref h19, .ref h20]))] _ _ := h
  refine lv_iload_n hx hb dX12_numbers_5 rfl (lv_at hl 1 rfl) ?_
  refine lv_i2l (v := 0) hx hb dX12_numbers_6 (by decide +kernel) ?_
  refine lv_lconst (v := 0) hx hb dX12_numbers_7 (by decide) ?_
  refine lv_ldc2 hx hb hown (ht _ wm_7_29) dX12_numbers_8 ?_
  refine q_callSi (rest := []) (wr := [(h0, .inr (12, [.int 0, .ref h1, .ref h2, .ref h3, .ref h4, .int 0, .int 0, .int 0, .int 0, .int 0, .int 0, .int 0, .int 0, .int 0, .int (-1), .int 0, .ref h5, .ref h6, .ref h7, .ref h8, .ref h9, .int 0, .int 0, .ref h10, .ref h11, .ref h12, .int 0, .int 0, .ref h13, .ref h14, .ref h15, .ref h16, .ref h17, .int 0, .ref h18, .ref h19, .ref h20]))]) X hK hA h (fun sz => kX12_within_503 l D cy   sz) wm_6_50 wm_6_52 wm_1_12 hd_X12_within wm_6_51 ⟨Nat.le_of_ble_eq_true rfl, Nat.le_of_ble_eq_true rfl⟩ hl.1 rfl (Nat.le_of_ble_eq_true rfl) dX12_numbers_11 ⟨Nat.le_of_ble_eq_true rfl, Nat.le_of_ble_eq_true rfl⟩ [] [0] rfl rfl (by decide) rfl rfl (fun r_10532 u_10532 H locs w_10532 h => ?_)
  obtain rfl : r_10532 = 1 := w_10532
  have h : qW D _ _ [(h0, .inr (12, [.int 0, .ref h1, .ref h2, .ref h3, .ref h4, .int 0, .int 0, .int 0, .int 0, .int 0, .int 0, .int 0, .int 0, .int 0, .int (-1), .int 0, .ref h5, .ref h6, .ref h7, .ref h8, .ref h9, .int 0, .int 0, .ref h10, .ref h11, .ref h12, .int 0, .int 0, .ref h13, .ref h14, .ref h15, .ref h16, .ref h17, .int 0, .ref h18, .ref h19, .ref h20]))] _ _ := h
  refine lv_if_eq (tgt := 29) hx hb dX12_numbers_14 (by decide) (fun c => absurd c (by decide +kernel)) (fun _ => ?_)
  refine lv_iload_n hx hb dX12_numbers_17 rfl (lv_at hl 2 rfl) ?_
  refine lv_i2l hx hb dX12_numbers_18 rfl ?_
  refine lv_lconst (v := 0) hx hb dX12_numbers_19 (by decide) ?_
  refine lv_ldc2 hx hb hown (ht _ wm_7_29) dX12_numbers_20 ?_
  have g_10535 : (4 : Int64) ≤ ((p0).toInt64) := by
    simp only [q_lc_lt, q_lc_ge, q_lc_gt, q_lc_le, q_lc_eq, Int32.toInt_toInt64, Int64.lt_iff_toInt_lt, Int64.le_iff_toInt_le, ← Int64.toInt_inj, Int32.lt_iff_toInt_lt, Int32.le_iff_toInt_le, ← Int32.toInt_inj] at hlo_p0 ⊢
    have k_0 : (4 : Int32).toInt = 4 := by decide
    have k_g : (4 : Int64).toInt = 4 := by decide
    omega
  refine q_callSi (rest := []) (wr := [(h0, .inr (12, [.int 0, .ref h1, .ref h2, .ref h3, .ref h4, .int 0, .int 0, .int 0, .int 0, .int 0, .int 0, .int 0, .int 0, .int 0, .int (-1), .int 0, .ref h5, .ref h6, .ref h7, .ref h8, .ref h9, .int 0, .int 0, .ref h10, .ref h11, .ref h12, .int 0, .int 0, .ref h13, .ref h14, .ref h15, .ref h16, .ref h17, .int 0, .ref h18, .ref h19, .ref h20]))]) X hK hA h (fun sz => kX12_within_500 l D cy ((p0).toInt64) g_10535 sz) wm_6_50 wm_6_52 wm_1_12 hd_X12_within wm_6_51 ⟨Nat.le_of_ble_eq_true rfl, Nat.le_of_ble_eq_true rfl⟩ hl.1 rfl (Nat.le_of_ble_eq_true rfl) dX12_numbers_23 ⟨Nat.le_of_ble_eq_true rfl, Nat.le_of_ble_eq_true rfl⟩ [] [0] rfl rfl (by decide) rfl rfl (fun r_10536 u_10536 H locs w_10536 h => ?_)
  obtain rfl : r_10536 = 0 := w_10536
  have h : qW D _ _ [(h0, .inr (12, [.int 0, .ref h1, .ref h2, .ref h3, .ref h4, .int 0, .int 0, .int 0, .int 0, .int 0, .int 0, .int 0, .int 0, .int 0, .int (-1), .int 0, .ref h5, .ref h6, .ref h7, .ref h8, .ref h9, .int 0, .int 0, .ref h10, .ref h11, .ref h12, .int 0, .int 0, .ref h13, .ref h14, .ref h15, .ref h16, .ref h17, .int 0, .ref h18, .ref h19, .ref h20]))] _ _ := h
  refine lv_if_ne (tgt := 32) hx hb dX12_numbers_26 (by decide) (fun c => absurd c (by decide +kernel)) (fun _ => ?_)
  refine lv_bipush (v := (-2)) hx hb dX12_numbers_29 (by decide) ?_
  exact q_iret X hr hlk hK h rfl (fun _ => 0, fun _ _ => 0, fun _ _ => 0) rfl [0] rfl rfl dX12_numbers_31 (Nat.le_of_ble_eq_true rfl) (Nat.le_of_ble_eq_true rfl)
set_option maxHeartbeats 4000000 in
set_option maxRecDepth 100000 in
theorem kX12_numbers_707 (l : Launch) (D : va_G) (cy : Nat → ClassId) (h0 : Nat) (p0 : Int32) (p1 : Int32) (h1 : Nat) (h2 : Nat) (h3 : Nat) (h4 : Nat) (h5 : Nat) (h6 : Nat) (h7 : Nat) (h8 : Nat) (h9 : Nat) (h10 : Nat) (h11 : Nat) (h12 : Nat) (h13 : Nat) (h14 : Nat) (h15 : Nat) (h16 : Nat) (h17 : Nat) (h18 : Nat) (h19 : Nat) (h20 : Nat) (hlo_p0 : (4 : Int32) ≤ p0) (hlo_p1 : (41 : Int32) ≤ p1) (sz : Nat) : MI l yX12_numbers cX12_numbers 5 .int { frames := 1, cells := 0, slots := 0, locals := 25 } [.ref h0, .int 0, .int p0, .int p1] D cy [(h0, .inr (12, [.int 0, .ref h1, .ref h2, .ref h3, .ref h4, .int 0, .int 0, .int 0, .int 0, .int 0, .int 0, .int 0, .int 0, .int 0, .int (-1), .int 0, .ref h5, .ref h6, .ref h7, .ref h8, .ref h9, .int 0, .int 0, .ref h10, .ref h11, .ref h12, .int 0, .int 0, .ref h13, .ref h14, .ref h15, .ref h16, .ref h17, .int 0, .ref h18, .ref h19, .ref h20]))] sz (fun r u => r = (-2)) (fun u => [(h0, .inr (12, [.int 0, .ref h1, .ref h2, .ref h3, .ref h4, .int 0, .int 0, .int 0, .int 0, .int 0, .int 0, .int 0, .int 0, .int 0, .int (-1), .int 0, .ref h5, .ref h6, .ref h7, .ref h8, .ref h9, .int 0, .int 0, .ref h10, .ref h11, .ref h12, .int 0, .int 0, .ref h13, .ref h14, .ref h15, .ref h16, .ref h17, .int 0, .ref h18, .ref h19, .ref h20]))]) 0 0 := by
  refine q_ent (own := RX12) (by decide) rfl (Nat.le_of_ble_eq_true rfl) (fun p e s m below meth c ls X hr hlk hnm hK h hA hl => ?_)
  obtain ⟨hx, hb, hml, hown, ht⟩ := id X
  have hl : lv_has ls 5 [(0, .ref h0), (1, .int 0), (2, .int p0), (3, .int p1)] := hl
  refine lv_aload_n hx hb dX12_numbers_0 rfl (lv_at hl 0 rfl) ?_
  refine lv_iconst (v := 0) hx hb dX12_numbers_1 (by decide) ?_
  refine q_put (v := .int 0) X hK h 0 rfl rfl wf_12 tyX12 tyX12_ok nmX12 0 (by decide) wm_5_170 rfl rfl rfl (Nat.le_of_ble_eq_true rfl) dX12_numbers_2 (fun H locs h => ?_)
  have h : qW D _ _ [(h0, .inr (12, [.int 0, .ref h1, .ref h2, .ref h3, .ref h4, .int 0, .int 0, .int 0, .int 0, .int 0, .int 0, .int 0, .int 0, .int 0, .int (-1), .int 0, .ref h5, .ref h6, .ref h7, .ref h8, .ref h9, .int 0, .int 0, .ref h10, .ref h11, .ref h12, .int 0, .int 0, .ref h13, .ref h14, .ref h15, .ref h16, .ref h17, .int 0, .ref h18, .ref h19, .ref h20]))] _ _ := h
  refine lv_iload_n hx hb dX12_numbers_5 rfl (lv_at hl 1 rfl) ?_
  refine lv_i2l (v := 0) hx hb dX12_numbers_6 (by decide +kernel) ?_
  refine lv_lconst (v := 0) hx hb dX12_numbers_7 (by decide) ?_
  refine lv_ldc2 hx hb hown (ht _ wm_7_29) dX12_numbers_8 ?_
  refine q_callSi (rest := []) (wr := [(h0, .inr (12, [.int 0, .ref h1, .ref h2, .ref h3, .ref h4, .int 0, .int 0, .int 0, .int 0, .int 0, .int 0, .int 0, .int 0, .int 0, .int (-1), .int 0, .ref h5, .ref h6, .ref h7, .ref h8, .ref h9, .int 0, .int 0, .ref h10, .ref h11, .ref h12, .int 0, .int 0, .ref h13, .ref h14, .ref h15, .ref h16, .ref h17, .int 0, .ref h18, .ref h19, .ref h20]))]) X hK hA h (fun sz => kX12_within_503 l D cy   sz) wm_6_50 wm_6_52 wm_1_12 hd_X12_within wm_6_51 ⟨Nat.le_of_ble_eq_true rfl, Nat.le_of_ble_eq_true rfl⟩ hl.1 rfl (Nat.le_of_ble_eq_true rfl) dX12_numbers_11 ⟨Nat.le_of_ble_eq_true rfl, Nat.le_of_ble_eq_true rfl⟩ [] [0] rfl rfl (by decide) rfl rfl (fun r_10547 u_10547 H locs w_10547 h => ?_)
  obtain rfl : r_10547 = 1 := w_10547
  have h : qW D _ _ [(h0, .inr (12, [.int 0, .ref h1, .ref h2, .ref h3, .ref h4, .int 0, .int 0, .int 0, .int 0, .int 0, .int 0, .int 0, .int 0, .int 0, .int (-1), .int 0, .ref h5, .ref h6, .ref h7, .ref h8, .ref h9, .int 0, .int 0, .ref h10, .ref h11, .ref h12, .int 0, .int 0, .ref h13, .ref h14, .ref h15, .ref h16, .ref h17, .int 0, .ref h18, .ref h19, .ref h20]))] _ _ := h
  refine lv_if_eq (tgt := 29) hx hb dX12_numbers_14 (by decide) (fun c => absurd c (by decide +kernel)) (fun _ => ?_)
  refine lv_iload_n hx hb dX12_numbers_17 rfl (lv_at hl 2 rfl) ?_
  refine lv_i2l hx hb dX12_numbers_18 rfl ?_
  refine lv_lconst (v := 0) hx hb dX12_numbers_19 (by decide) ?_
  refine lv_ldc2 hx hb hown (ht _ wm_7_29) dX12_numbers_20 ?_
  have g_10550 : (4 : Int64) ≤ ((p0).toInt64) := by
    simp only [q_lc_lt, q_lc_ge, q_lc_gt, q_lc_le, q_lc_eq, Int32.toInt_toInt64, Int64.lt_iff_toInt_lt, Int64.le_iff_toInt_le, ← Int64.toInt_inj, Int32.lt_iff_toInt_lt, Int32.le_iff_toInt_le, ← Int32.toInt_inj] at hlo_p0 ⊢
    have k_0 : (4 : Int32).toInt = 4 := by decide
    have k_g : (4 : Int64).toInt = 4 := by decide
    omega
  refine q_callSi (rest := []) (wr := [(h0, .inr (12, [.int 0, .ref h1, .ref h2, .ref h3, .ref h4, .int 0, .int 0, .int 0, .int 0, .int 0, .int 0, .int 0, .int 0, .int 0, .int (-1), .int 0, .ref h5, .ref h6, .ref h7, .ref h8, .ref h9, .int 0, .int 0, .ref h10, .ref h11, .ref h12, .int 0, .int 0, .ref h13, .ref h14, .ref h15, .ref h16, .ref h17, .int 0, .ref h18, .ref h19, .ref h20]))]) X hK hA h (fun sz => kX12_within_500 l D cy ((p0).toInt64) g_10550 sz) wm_6_50 wm_6_52 wm_1_12 hd_X12_within wm_6_51 ⟨Nat.le_of_ble_eq_true rfl, Nat.le_of_ble_eq_true rfl⟩ hl.1 rfl (Nat.le_of_ble_eq_true rfl) dX12_numbers_23 ⟨Nat.le_of_ble_eq_true rfl, Nat.le_of_ble_eq_true rfl⟩ [] [0] rfl rfl (by decide) rfl rfl (fun r_10551 u_10551 H locs w_10551 h => ?_)
  obtain rfl : r_10551 = 0 := w_10551
  have h : qW D _ _ [(h0, .inr (12, [.int 0, .ref h1, .ref h2, .ref h3, .ref h4, .int 0, .int 0, .int 0, .int 0, .int 0, .int 0, .int 0, .int 0, .int 0, .int (-1), .int 0, .ref h5, .ref h6, .ref h7, .ref h8, .ref h9, .int 0, .int 0, .ref h10, .ref h11, .ref h12, .int 0, .int 0, .ref h13, .ref h14, .ref h15, .ref h16, .ref h17, .int 0, .ref h18, .ref h19, .ref h20]))] _ _ := h
  refine lv_if_ne (tgt := 32) hx hb dX12_numbers_26 (by decide) (fun c => absurd c (by decide +kernel)) (fun _ => ?_)
  refine lv_bipush (v := (-2)) hx hb dX12_numbers_29 (by decide) ?_
  exact q_iret X hr hlk hK h rfl (fun _ => 0, fun _ _ => 0, fun _ _ => 0) rfl [0] rfl rfl dX12_numbers_31 (Nat.le_of_ble_eq_true rfl) (Nat.le_of_ble_eq_true rfl)
set_option maxHeartbeats 4000000 in
set_option maxRecDepth 100000 in
theorem kX12_numbers_708 (l : Launch) (D : va_G) (cy : Nat → ClassId) (h0 : Nat) (p0 : Int32) (p1 : Int32) (h1 : Nat) (h2 : Nat) (h3 : Nat) (h4 : Nat) (h5 : Nat) (h6 : Nat) (h7 : Nat) (h8 : Nat) (h9 : Nat) (h10 : Nat) (h11 : Nat) (h12 : Nat) (h13 : Nat) (h14 : Nat) (h15 : Nat) (h16 : Nat) (h17 : Nat) (h18 : Nat) (h19 : Nat) (h20 : Nat) (hhi_p0 : p0 ≤ ((-1) : Int32)) (hhi_p1 : p1 ≤ ((-1) : Int32)) (sz : Nat) : MI l yX12_numbers cX12_numbers 5 .int { frames := 1, cells := 0, slots := 0, locals := 25 } [.ref h0, .int 1, .int p0, .int p1] D cy [(h0, .inr (12, [.int 0, .ref h1, .ref h2, .ref h3, .ref h4, .int 0, .int 0, .int 0, .int 0, .int 0, .int 0, .int 0, .int 0, .int 0, .int (-1), .int 0, .ref h5, .ref h6, .ref h7, .ref h8, .ref h9, .int 0, .int 0, .ref h10, .ref h11, .ref h12, .int 0, .int 0, .ref h13, .ref h14, .ref h15, .ref h16, .ref h17, .int 0, .ref h18, .ref h19, .ref h20]))] sz (fun r u => r = (-2)) (fun u => [(h0, .inr (12, [.int 0, .ref h1, .ref h2, .ref h3, .ref h4, .int 0, .int 0, .int 0, .int 0, .int 0, .int 0, .int 0, .int 0, .int 0, .int (-1), .int 0, .ref h5, .ref h6, .ref h7, .ref h8, .ref h9, .int 0, .int 0, .ref h10, .ref h11, .ref h12, .int 0, .int 0, .ref h13, .ref h14, .ref h15, .ref h16, .ref h17, .int 0, .ref h18, .ref h19, .ref h20]))]) 0 0 := by
  refine q_ent (own := RX12) (by decide) rfl (Nat.le_of_ble_eq_true rfl) (fun p e s m below meth c ls X hr hlk hnm hK h hA hl => ?_)
  obtain ⟨hx, hb, hml, hown, ht⟩ := id X
  have hl : lv_has ls 5 [(0, .ref h0), (1, .int 1), (2, .int p0), (3, .int p1)] := hl
  refine lv_aload_n hx hb dX12_numbers_0 rfl (lv_at hl 0 rfl) ?_
  refine lv_iconst (v := 0) hx hb dX12_numbers_1 (by decide) ?_
  refine q_put (v := .int 0) X hK h 0 rfl rfl wf_12 tyX12 tyX12_ok nmX12 0 (by decide) wm_5_170 rfl rfl rfl (Nat.le_of_ble_eq_true rfl) dX12_numbers_2 (fun H locs h => ?_)
  have h : qW D _ _ [(h0, .inr (12, [.int 0, .ref h1, .ref h2, .ref h3, .ref h4, .int 0, .int 0, .int 0, .int 0, .int 0, .int 0, .int 0, .int 0, .int 0, .int (-1), .int 0, .ref h5, .ref h6, .ref h7, .ref h8, .ref h9, .int 0, .int 0, .ref h10, .ref h11, .ref h12, .int 0, .int 0, .ref h13, .ref h14, .ref h15, .ref h16, .ref h17, .int 0, .ref h18, .ref h19, .ref h20]))] _ _ := h
  refine lv_iload_n hx hb dX12_numbers_5 rfl (lv_at hl 1 rfl) ?_
  refine lv_i2l (v := 1) hx hb dX12_numbers_6 (by decide +kernel) ?_
  refine lv_lconst (v := 0) hx hb dX12_numbers_7 (by decide) ?_
  refine lv_ldc2 hx hb hown (ht _ wm_7_29) dX12_numbers_8 ?_
  refine q_callSi (rest := []) (wr := [(h0, .inr (12, [.int 0, .ref h1, .ref h2, .ref h3, .ref h4, .int 0, .int 0, .int 0, .int 0, .int 0, .int 0, .int 0, .int 0, .int 0, .int (-1), .int 0, .ref h5, .ref h6, .ref h7, .ref h8, .ref h9, .int 0, .int 0, .ref h10, .ref h11, .ref h12, .int 0, .int 0, .ref h13, .ref h14, .ref h15, .ref h16, .ref h17, .int 0, .ref h18, .ref h19, .ref h20]))]) X hK hA h (fun sz => kX12_within_509 l D cy   sz) wm_6_50 wm_6_52 wm_1_12 hd_X12_within wm_6_51 ⟨Nat.le_of_ble_eq_true rfl, Nat.le_of_ble_eq_true rfl⟩ hl.1 rfl (Nat.le_of_ble_eq_true rfl) dX12_numbers_11 ⟨Nat.le_of_ble_eq_true rfl, Nat.le_of_ble_eq_true rfl⟩ [] [0] rfl rfl (by decide) rfl rfl (fun r_10560 u_10560 H locs w_10560 h => ?_)
  obtain rfl : r_10560 = 1 := w_10560
  have h : qW D _ _ [(h0, .inr (12, [.int 0, .ref h1, .ref h2, .ref h3, .ref h4, .int 0, .int 0, .int 0, .int 0, .int 0, .int 0, .int 0, .int 0, .int 0, .int (-1), .int 0, .ref h5, .ref h6, .ref h7, .ref h8, .ref h9, .int 0, .int 0, .ref h10, .ref h11, .ref h12, .int 0, .int 0, .ref h13, .ref h14, .ref h15, .ref h16, .ref h17, .int 0, .ref h18, .ref h19, .ref h20]))] _ _ := h
  refine lv_if_eq (tgt := 29) hx hb dX12_numbers_14 (by decide) (fun c => absurd c (by decide +kernel)) (fun _ => ?_)
  refine lv_iload_n hx hb dX12_numbers_17 rfl (lv_at hl 2 rfl) ?_
  refine lv_i2l hx hb dX12_numbers_18 rfl ?_
  refine lv_lconst (v := 0) hx hb dX12_numbers_19 (by decide) ?_
  refine lv_ldc2 hx hb hown (ht _ wm_7_29) dX12_numbers_20 ?_
  have g_10562 : ((p0).toInt64) ≤ ((-1) : Int64) := by
    simp only [q_lc_lt, q_lc_ge, q_lc_gt, q_lc_le, q_lc_eq, Int32.toInt_toInt64, Int64.lt_iff_toInt_lt, Int64.le_iff_toInt_le, ← Int64.toInt_inj, Int32.lt_iff_toInt_lt, Int32.le_iff_toInt_le, ← Int32.toInt_inj] at hhi_p0 ⊢
    have k_0 : ((-1) : Int32).toInt = -1 := by decide
    have k_g : ((-1) : Int64).toInt = -1 := by decide
    omega
  refine q_callSi (rest := []) (wr := [(h0, .inr (12, [.int 0, .ref h1, .ref h2, .ref h3, .ref h4, .int 0, .int 0, .int 0, .int 0, .int 0, .int 0, .int 0, .int 0, .int 0, .int (-1), .int 0, .ref h5, .ref h6, .ref h7, .ref h8, .ref h9, .int 0, .int 0, .ref h10, .ref h11, .ref h12, .int 0, .int 0, .ref h13, .ref h14, .ref h15, .ref h16, .ref h17, .int 0, .ref h18, .ref h19, .ref h20]))]) X hK hA h (fun sz => kX12_within_495 l D cy ((p0).toInt64) g_10562 sz) wm_6_50 wm_6_52 wm_1_12 hd_X12_within wm_6_51 ⟨Nat.le_of_ble_eq_true rfl, Nat.le_of_ble_eq_true rfl⟩ hl.1 rfl (Nat.le_of_ble_eq_true rfl) dX12_numbers_23 ⟨Nat.le_of_ble_eq_true rfl, Nat.le_of_ble_eq_true rfl⟩ [] [0] rfl rfl (by decide) rfl rfl (fun r_10563 u_10563 H locs w_10563 h => ?_)
  obtain rfl : r_10563 = 0 := w_10563
  have h : qW D _ _ [(h0, .inr (12, [.int 0, .ref h1, .ref h2, .ref h3, .ref h4, .int 0, .int 0, .int 0, .int 0, .int 0, .int 0, .int 0, .int 0, .int 0, .int (-1), .int 0, .ref h5, .ref h6, .ref h7, .ref h8, .ref h9, .int 0, .int 0, .ref h10, .ref h11, .ref h12, .int 0, .int 0, .ref h13, .ref h14, .ref h15, .ref h16, .ref h17, .int 0, .ref h18, .ref h19, .ref h20]))] _ _ := h
  refine lv_if_ne (tgt := 32) hx hb dX12_numbers_26 (by decide) (fun c => absurd c (by decide +kernel)) (fun _ => ?_)
  refine lv_bipush (v := (-2)) hx hb dX12_numbers_29 (by decide) ?_
  exact q_iret X hr hlk hK h rfl (fun _ => 0, fun _ _ => 0, fun _ _ => 0) rfl [0] rfl rfl dX12_numbers_31 (Nat.le_of_ble_eq_true rfl) (Nat.le_of_ble_eq_true rfl)
set_option maxHeartbeats 4000000 in
set_option maxRecDepth 100000 in
theorem kX12_numbers_709 (l : Launch) (D : va_G) (cy : Nat → ClassId) (h0 : Nat) (p0 : Int32) (p1 : Int32) (h1 : Nat) (h2 : Nat) (h3 : Nat) (h4 : Nat) (h5 : Nat) (h6 : Nat) (h7 : Nat) (h8 : Nat) (h9 : Nat) (h10 : Nat) (h11 : Nat) (h12 : Nat) (h13 : Nat) (h14 : Nat) (h15 : Nat) (h16 : Nat) (h17 : Nat) (h18 : Nat) (h19 : Nat) (h20 : Nat) (hhi_p0 : p0 ≤ ((-1) : Int32)) (hlo_p1 : (0 : Int32) ≤ p1) (hhi_p1 : p1 ≤ (40 : Int32)) (sz : Nat) : MI l yX12_numbers cX12_numbers 5 .int { frames := 1, cells := 0, slots := 0, locals := 25 } [.ref h0, .int 1, .int p0, .int p1] D cy [(h0, .inr (12, [.int 0, .ref h1, .ref h2, .ref h3, .ref h4, .int 0, .int 0, .int 0, .int 0, .int 0, .int 0, .int 0, .int 0, .int 0, .int (-1), .int 0, .ref h5, .ref h6, .ref h7, .ref h8, .ref h9, .int 0, .int 0, .ref h10, .ref h11, .ref h12, .int 0, .int 0, .ref h13, .ref h14, .ref h15, .ref h16, .ref h17, .int 0, .ref h18, .ref h19, .ref h20]))] sz (fun r u => r = (-2)) (fun u => [(h0, .inr (12, [.int 0, .ref h1, .ref h2, .ref h3, .ref h4, .int 0, .int 0, .int 0, .int 0, .int 0, .int 0, .int 0, .int 0, .int 0, .int (-1), .int 0, .ref h5, .ref h6, .ref h7, .ref h8, .ref h9, .int 0, .int 0, .ref h10, .ref h11, .ref h12, .int 0, .int 0, .ref h13, .ref h14, .ref h15, .ref h16, .ref h17, .int 0, .ref h18, .ref h19, .ref h20]))]) 0 0 := by
  refine q_ent (own := RX12) (by decide) rfl (Nat.le_of_ble_eq_true rfl) (fun p e s m below meth c ls X hr hlk hnm hK h hA hl => ?_)
  obtain ⟨hx, hb, hml, hown, ht⟩ := id X
  have hl : lv_has ls 5 [(0, .ref h0), (1, .int 1), (2, .int p0), (3, .int p1)] := hl
  refine lv_aload_n hx hb dX12_numbers_0 rfl (lv_at hl 0 rfl) ?_
  refine lv_iconst (v := 0) hx hb dX12_numbers_1 (by decide) ?_
  refine q_put (v := .int 0) X hK h 0 rfl rfl wf_12 tyX12 tyX12_ok nmX12 0 (by decide) wm_5_170 rfl rfl rfl (Nat.le_of_ble_eq_true rfl) dX12_numbers_2 (fun H locs h => ?_)
  have h : qW D _ _ [(h0, .inr (12, [.int 0, .ref h1, .ref h2, .ref h3, .ref h4, .int 0, .int 0, .int 0, .int 0, .int 0, .int 0, .int 0, .int 0, .int 0, .int (-1), .int 0, .ref h5, .ref h6, .ref h7, .ref h8, .ref h9, .int 0, .int 0, .ref h10, .ref h11, .ref h12, .int 0, .int 0, .ref h13, .ref h14, .ref h15, .ref h16, .ref h17, .int 0, .ref h18, .ref h19, .ref h20]))] _ _ := h
  refine lv_iload_n hx hb dX12_numbers_5 rfl (lv_at hl 1 rfl) ?_
  refine lv_i2l (v := 1) hx hb dX12_numbers_6 (by decide +kernel) ?_
  refine lv_lconst (v := 0) hx hb dX12_numbers_7 (by decide) ?_
  refine lv_ldc2 hx hb hown (ht _ wm_7_29) dX12_numbers_8 ?_
  refine q_callSi (rest := []) (wr := [(h0, .inr (12, [.int 0, .ref h1, .ref h2, .ref h3, .ref h4, .int 0, .int 0, .int 0, .int 0, .int 0, .int 0, .int 0, .int 0, .int 0, .int (-1), .int 0, .ref h5, .ref h6, .ref h7, .ref h8, .ref h9, .int 0, .int 0, .ref h10, .ref h11, .ref h12, .int 0, .int 0, .ref h13, .ref h14, .ref h15, .ref h16, .ref h17, .int 0, .ref h18, .ref h19, .ref h20]))]) X hK hA h (fun sz => kX12_within_509 l D cy   sz) wm_6_50 wm_6_52 wm_1_12 hd_X12_within wm_6_51 ⟨Nat.le_of_ble_eq_true rfl, Nat.le_of_ble_eq_true rfl⟩ hl.1 rfl (Nat.le_of_ble_eq_true rfl) dX12_numbers_11 ⟨Nat.le_of_ble_eq_true rfl, Nat.le_of_ble_eq_true rfl⟩ [] [0] rfl rfl (by decide) rfl rfl (fun r_10572 u_10572 H locs w_10572 h => ?_)
  obtain rfl : r_10572 = 1 := w_10572
  have h : qW D _ _ [(h0, .inr (12, [.int 0, .ref h1, .ref h2, .ref h3, .ref h4, .int 0, .int 0, .int 0, .int 0, .int 0, .int 0, .int 0, .int 0, .int 0, .int (-1), .int 0, .ref h5, .ref h6, .ref h7, .ref h8, .ref h9, .int 0, .int 0, .ref h10, .ref h11, .ref h12, .int 0, .int 0, .ref h13, .ref h14, .ref h15, .ref h16, .ref h17, .int 0, .ref h18, .ref h19, .ref h20]))] _ _ := h
  refine lv_if_eq (tgt := 29) hx hb dX12_numbers_14 (by decide) (fun c => absurd c (by decide +kernel)) (fun _ => ?_)
  refine lv_iload_n hx hb dX12_numbers_17 rfl (lv_at hl 2 rfl) ?_
  refine lv_i2l hx hb dX12_numbers_18 rfl ?_
  refine lv_lconst (v := 0) hx hb dX12_numbers_19 (by decide) ?_
  refine lv_ldc2 hx hb hown (ht _ wm_7_29) dX12_numbers_20 ?_
  have g_10574 : ((p0).toInt64) ≤ ((-1) : Int64) := by
    simp only [q_lc_lt, q_lc_ge, q_lc_gt, q_lc_le, q_lc_eq, Int32.toInt_toInt64, Int64.lt_iff_toInt_lt, Int64.le_iff_toInt_le, ← Int64.toInt_inj, Int32.lt_iff_toInt_lt, Int32.le_iff_toInt_le, ← Int32.toInt_inj] at hhi_p0 ⊢
    have k_0 : ((-1) : Int32).toInt = -1 := by decide
    have k_g : ((-1) : Int64).toInt = -1 := by decide
    omega
  refine q_callSi (rest := []) (wr := [(h0, .inr (12, [.int 0, .ref h1, .ref h2, .ref h3, .ref h4, .int 0, .int 0, .int 0, .int 0, .int 0, .int 0, .int 0, .int 0, .int 0, .int (-1), .int 0, .ref h5, .ref h6, .ref h7, .ref h8, .ref h9, .int 0, .int 0, .ref h10, .ref h11, .ref h12, .int 0, .int 0, .ref h13, .ref h14, .ref h15, .ref h16, .ref h17, .int 0, .ref h18, .ref h19, .ref h20]))]) X hK hA h (fun sz => kX12_within_495 l D cy ((p0).toInt64) g_10574 sz) wm_6_50 wm_6_52 wm_1_12 hd_X12_within wm_6_51 ⟨Nat.le_of_ble_eq_true rfl, Nat.le_of_ble_eq_true rfl⟩ hl.1 rfl (Nat.le_of_ble_eq_true rfl) dX12_numbers_23 ⟨Nat.le_of_ble_eq_true rfl, Nat.le_of_ble_eq_true rfl⟩ [] [0] rfl rfl (by decide) rfl rfl (fun r_10575 u_10575 H locs w_10575 h => ?_)
  obtain rfl : r_10575 = 0 := w_10575
  have h : qW D _ _ [(h0, .inr (12, [.int 0, .ref h1, .ref h2, .ref h3, .ref h4, .int 0, .int 0, .int 0, .int 0, .int 0, .int 0, .int 0, .int 0, .int 0, .int (-1), .int 0, .ref h5, .ref h6, .ref h7, .ref h8, .ref h9, .int 0, .int 0, .ref h10, .ref h11, .ref h12, .int 0, .int 0, .ref h13, .ref h14, .ref h15, .ref h16, .ref h17, .int 0, .ref h18, .ref h19, .ref h20]))] _ _ := h
  refine lv_if_ne (tgt := 32) hx hb dX12_numbers_26 (by decide) (fun c => absurd c (by decide +kernel)) (fun _ => ?_)
  refine lv_bipush (v := (-2)) hx hb dX12_numbers_29 (by decide) ?_
  exact q_iret X hr hlk hK h rfl (fun _ => 0, fun _ _ => 0, fun _ _ => 0) rfl [0] rfl rfl dX12_numbers_31 (Nat.le_of_ble_eq_true rfl) (Nat.le_of_ble_eq_true rfl)
set_option maxHeartbeats 4000000 in
set_option maxRecDepth 100000 in
theorem kX12_numbers_710 (l : Launch) (D : va_G) (cy : Nat → ClassId) (h0 : Nat) (p0 : Int32) (p1 : Int32) (h1 : Nat) (h2 : Nat) (h3 : Nat) (h4 : Nat) (h5 : Nat) (h6 : Nat) (h7 : Nat) (h8 : Nat) (h9 : Nat) (h10 : Nat) (h11 : Nat) (h12 : Nat) (h13 : Nat) (h14 : Nat) (h15 : Nat) (h16 : Nat) (h17 : Nat) (h18 : Nat) (h19 : Nat) (h20 : Nat) (hhi_p0 : p0 ≤ ((-1) : Int32)) (hlo_p1 : (41 : Int32) ≤ p1) (sz : Nat) : MI l yX12_numbers cX12_numbers 5 .int { frames := 1, cells := 0, slots := 0, locals := 25 } [.ref h0, .int 1, .int p0, .int p1] D cy [(h0, .inr (12, [.int 0, .ref h1, .ref h2, .ref h3, .ref h4, .int 0, .int 0, .int 0, .int 0, .int 0, .int 0, .int 0, .int 0, .int 0, .int (-1), .int 0, .ref h5, .ref h6, .ref h7, .ref h8, .ref h9, .int 0, .int 0, .ref h10, .ref h11, .ref h12, .int 0, .int 0, .ref h13, .ref h14, .ref h15, .ref h16, .ref h17, .int 0, .ref h18, .ref h19, .ref h20]))] sz (fun r u => r = (-2)) (fun u => [(h0, .inr (12, [.int 0, .ref h1, .ref h2, .ref h3, .ref h4, .int 0, .int 0, .int 0, .int 0, .int 0, .int 0, .int 0, .int 0, .int 0, .int (-1), .int 0, .ref h5, .ref h6, .ref h7, .ref h8, .ref h9, .int 0, .int 0, .ref h10, .ref h11, .ref h12, .int 0, .int 0, .ref h13, .ref h14, .ref h15, .ref h16, .ref h17, .int 0, .ref h18, .ref h19, .ref h20]))]) 0 0 := by
  refine q_ent (own := RX12) (by decide) rfl (Nat.le_of_ble_eq_true rfl) (fun p e s m below meth c ls X hr hlk hnm hK h hA hl => ?_)
  obtain ⟨hx, hb, hml, hown, ht⟩ := id X
  have hl : lv_has ls 5 [(0, .ref h0), (1, .int 1), (2, .int p0), (3, .int p1)] := hl
  refine lv_aload_n hx hb dX12_numbers_0 rfl (lv_at hl 0 rfl) ?_
  refine lv_iconst (v := 0) hx hb dX12_numbers_1 (by decide) ?_
  refine q_put (v := .int 0) X hK h 0 rfl rfl wf_12 tyX12 tyX12_ok nmX12 0 (by decide) wm_5_170 rfl rfl rfl (Nat.le_of_ble_eq_true rfl) dX12_numbers_2 (fun H locs h => ?_)
  have h : qW D _ _ [(h0, .inr (12, [.int 0, .ref h1, .ref h2, .ref h3, .ref h4, .int 0, .int 0, .int 0, .int 0, .int 0, .int 0, .int 0, .int 0, .int 0, .int (-1), .int 0, .ref h5, .ref h6, .ref h7, .ref h8, .ref h9, .int 0, .int 0, .ref h10, .ref h11, .ref h12, .int 0, .int 0, .ref h13, .ref h14, .ref h15, .ref h16, .ref h17, .int 0, .ref h18, .ref h19, .ref h20]))] _ _ := h
  refine lv_iload_n hx hb dX12_numbers_5 rfl (lv_at hl 1 rfl) ?_
  refine lv_i2l (v := 1) hx hb dX12_numbers_6 (by decide +kernel) ?_
  refine lv_lconst (v := 0) hx hb dX12_numbers_7 (by decide) ?_
  refine lv_ldc2 hx hb hown (ht _ wm_7_29) dX12_numbers_8 ?_
  refine q_callSi (rest := []) (wr := [(h0, .inr (12, [.int 0, .ref h1, .ref h2, .ref h3, .ref h4, .int 0, .int 0, .int 0, .int 0, .int 0, .int 0, .int 0, .int 0, .int 0, .int (-1), .int 0, .ref h5, .ref h6, .ref h7, .ref h8, .ref h9, .int 0, .int 0, .ref h10, .ref h11, .ref h12, .int 0, .int 0, .ref h13, .ref h14, .ref h15, .ref h16, .ref h17, .int 0, .ref h18, .ref h19, .ref h20]))]) X hK hA h (fun sz => kX12_within_509 l D cy   sz) wm_6_50 wm_6_52 wm_1_12 hd_X12_within wm_6_51 ⟨Nat.le_of_ble_eq_true rfl, Nat.le_of_ble_eq_true rfl⟩ hl.1 rfl (Nat.le_of_ble_eq_true rfl) dX12_numbers_11 ⟨Nat.le_of_ble_eq_true rfl, Nat.le_of_ble_eq_true rfl⟩ [] [0] rfl rfl (by decide) rfl rfl (fun r_10584 u_10584 H locs w_10584 h => ?_)
  obtain rfl : r_10584 = 1 := w_10584
  have h : qW D _ _ [(h0, .inr (12, [.int 0, .ref h1, .ref h2, .ref h3, .ref h4, .int 0, .int 0, .int 0, .int 0, .int 0, .int 0, .int 0, .int 0, .int 0, .int (-1), .int 0, .ref h5, .ref h6, .ref h7, .ref h8, .ref h9, .int 0, .int 0, .ref h10, .ref h11, .ref h12, .int 0, .int 0, .ref h13, .ref h14, .ref h15, .ref h16, .ref h17, .int 0, .ref h18, .ref h19, .ref h20]))] _ _ := h
  refine lv_if_eq (tgt := 29) hx hb dX12_numbers_14 (by decide) (fun c => absurd c (by decide +kernel)) (fun _ => ?_)
  refine lv_iload_n hx hb dX12_numbers_17 rfl (lv_at hl 2 rfl) ?_
  refine lv_i2l hx hb dX12_numbers_18 rfl ?_
  refine lv_lconst (v := 0) hx hb dX12_numbers_19 (by decide) ?_
  refine lv_ldc2 hx hb hown (ht _ wm_7_29) dX12_numbers_20 ?_
  have g_10586 : ((p0).toInt64) ≤ ((-1) : Int64) := by
    simp only [q_lc_lt, q_lc_ge, q_lc_gt, q_lc_le, q_lc_eq, Int32.toInt_toInt64, Int64.lt_iff_toInt_lt, Int64.le_iff_toInt_le, ← Int64.toInt_inj, Int32.lt_iff_toInt_lt, Int32.le_iff_toInt_le, ← Int32.toInt_inj] at hhi_p0 ⊢
    have k_0 : ((-1) : Int32).toInt = -1 := by decide
    have k_g : ((-1) : Int64).toInt = -1 := by decide
    omega
  refine q_callSi (rest := []) (wr := [(h0, .inr (12, [.int 0, .ref h1, .ref h2, .ref h3, .ref h4, .int 0, .int 0, .int 0, .int 0, .int 0, .int 0, .int 0, .int 0, .int 0, .int (-1), .int 0, .ref h5, .ref h6, .ref h7, .ref h8, .ref h9, .int 0, .int 0, .ref h10, .ref h11, .ref h12, .int 0, .int 0, .ref h13, .ref h14, .ref h15, .ref h16, .ref h17, .int 0, .ref h18, .ref h19, .ref h20]))]) X hK hA h (fun sz => kX12_within_495 l D cy ((p0).toInt64) g_10586 sz) wm_6_50 wm_6_52 wm_1_12 hd_X12_within wm_6_51 ⟨Nat.le_of_ble_eq_true rfl, Nat.le_of_ble_eq_true rfl⟩ hl.1 rfl (Nat.le_of_ble_eq_true rfl) dX12_numbers_23 ⟨Nat.le_of_ble_eq_true rfl, Nat.le_of_ble_eq_true rfl⟩ [] [0] rfl rfl (by decide) rfl rfl (fun r_10587 u_10587 H locs w_10587 h => ?_)
  obtain rfl : r_10587 = 0 := w_10587
  have h : qW D _ _ [(h0, .inr (12, [.int 0, .ref h1, .ref h2, .ref h3, .ref h4, .int 0, .int 0, .int 0, .int 0, .int 0, .int 0, .int 0, .int 0, .int 0, .int (-1), .int 0, .ref h5, .ref h6, .ref h7, .ref h8, .ref h9, .int 0, .int 0, .ref h10, .ref h11, .ref h12, .int 0, .int 0, .ref h13, .ref h14, .ref h15, .ref h16, .ref h17, .int 0, .ref h18, .ref h19, .ref h20]))] _ _ := h
  refine lv_if_ne (tgt := 32) hx hb dX12_numbers_26 (by decide) (fun c => absurd c (by decide +kernel)) (fun _ => ?_)
  refine lv_bipush (v := (-2)) hx hb dX12_numbers_29 (by decide) ?_
  exact q_iret X hr hlk hK h rfl (fun _ => 0, fun _ _ => 0, fun _ _ => 0) rfl [0] rfl rfl dX12_numbers_31 (Nat.le_of_ble_eq_true rfl) (Nat.le_of_ble_eq_true rfl)
set_option maxHeartbeats 4000000 in
set_option maxRecDepth 100000 in
theorem kX12_numbers_711 (l : Launch) (D : va_G) (cy : Nat → ClassId) (h0 : Nat) (p0 : Int32) (p1 : Int32) (h1 : Nat) (h2 : Nat) (h3 : Nat) (h4 : Nat) (h5 : Nat) (h6 : Nat) (h7 : Nat) (h8 : Nat) (h9 : Nat) (h10 : Nat) (h11 : Nat) (h12 : Nat) (h13 : Nat) (h14 : Nat) (h15 : Nat) (h16 : Nat) (h17 : Nat) (h18 : Nat) (h19 : Nat) (h20 : Nat) (hlo_p0 : (0 : Int32) ≤ p0) (hhi_p0 : p0 ≤ (3 : Int32)) (hhi_p1 : p1 ≤ ((-1) : Int32)) (sz : Nat) : MI l yX12_numbers cX12_numbers 5 .int { frames := 1, cells := 0, slots := 0, locals := 25 } [.ref h0, .int 1, .int p0, .int p1] D cy [(h0, .inr (12, [.int 0, .ref h1, .ref h2, .ref h3, .ref h4, .int 0, .int 0, .int 0, .int 0, .int 0, .int 0, .int 0, .int 0, .int 0, .int (-1), .int 0, .ref h5, .ref h6, .ref h7, .ref h8, .ref h9, .int 0, .int 0, .ref h10, .ref h11, .ref h12, .int 0, .int 0, .ref h13, .ref h14, .ref h15, .ref h16, .ref h17, .int 0, .ref h18, .ref h19, .ref h20]))] sz (fun r u => r = (-3)) (fun u => [(h0, .inr (12, [.int 0, .ref h1, .ref h2, .ref h3, .ref h4, .int 0, .int 0, .int 0, .int 0, .int 0, .int 0, .int 0, .int 0, .int 0, .int (-1), .int 0, .ref h5, .ref h6, .ref h7, .ref h8, .ref h9, .int 0, .int 0, .ref h10, .ref h11, .ref h12, .int 0, .int 0, .ref h13, .ref h14, .ref h15, .ref h16, .ref h17, .int 0, .ref h18, .ref h19, .ref h20]))]) 0 0 := by
  refine q_ent (own := RX12) (by decide) rfl (Nat.le_of_ble_eq_true rfl) (fun p e s m below meth c ls X hr hlk hnm hK h hA hl => ?_)
  obtain ⟨hx, hb, hml, hown, ht⟩ := id X
  have hl : lv_has ls 5 [(0, .ref h0), (1, .int 1), (2, .int p0), (3, .int p1)] := hl
  refine lv_aload_n hx hb dX12_numbers_0 rfl (lv_at hl 0 rfl) ?_
  refine lv_iconst (v := 0) hx hb dX12_numbers_1 (by decide) ?_
  refine q_put (v := .int 0) X hK h 0 rfl rfl wf_12 tyX12 tyX12_ok nmX12 0 (by decide) wm_5_170 rfl rfl rfl (Nat.le_of_ble_eq_true rfl) dX12_numbers_2 (fun H locs h => ?_)
  have h : qW D _ _ [(h0, .inr (12, [.int 0, .ref h1, .ref h2, .ref h3, .ref h4, .int 0, .int 0, .int 0, .int 0, .int 0, .int 0, .int 0, .int 0, .int 0, .int (-1), .int 0, .ref h5, .ref h6, .ref h7, .ref h8, .ref h9, .int 0, .int 0, .ref h10, .ref h11, .ref h12, .int 0, .int 0, .ref h13, .ref h14, .ref h15, .ref h16, .ref h17, .int 0, .ref h18, .ref h19, .ref h20]))] _ _ := h
  refine lv_iload_n hx hb dX12_numbers_5 rfl (lv_at hl 1 rfl) ?_
  refine lv_i2l (v := 1) hx hb dX12_numbers_6 (by decide +kernel) ?_
  refine lv_lconst (v := 0) hx hb dX12_numbers_7 (by decide) ?_
  refine lv_ldc2 hx hb hown (ht _ wm_7_29) dX12_numbers_8 ?_
  refine q_callSi (rest := []) (wr := [(h0, .inr (12, [.int 0, .ref h1, .ref h2, .ref h3, .ref h4, .int 0, .int 0, .int 0, .int 0, .int 0, .int 0, .int 0, .int 0, .int 0, .int (-1), .int 0, .ref h5, .ref h6, .ref h7, .ref h8, .ref h9, .int 0, .int 0, .ref h10, .ref h11, .ref h12, .int 0, .int 0, .ref h13, .ref h14, .ref h15, .ref h16, .ref h17, .int 0, .ref h18, .ref h19, .ref h20]))]) X hK hA h (fun sz => kX12_within_509 l D cy   sz) wm_6_50 wm_6_52 wm_1_12 hd_X12_within wm_6_51 ⟨Nat.le_of_ble_eq_true rfl, Nat.le_of_ble_eq_true rfl⟩ hl.1 rfl (Nat.le_of_ble_eq_true rfl) dX12_numbers_11 ⟨Nat.le_of_ble_eq_true rfl, Nat.le_of_ble_eq_true rfl⟩ [] [0] rfl rfl (by decide) rfl rfl (fun r_10606 u_10606 H locs w_10606 h => ?_)
  obtain rfl : r_10606 = 1 := w_10606
  have h : qW D _ _ [(h0, .inr (12, [.int 0, .ref h1, .ref h2, .ref h3, .ref h4, .int 0, .int 0, .int 0, .int 0, .int 0, .int 0, .int 0, .int 0, .int 0, .int (-1), .int 0, .ref h5, .ref h6, .ref h7, .ref h8, .ref h9, .int 0, .int 0, .ref h10, .ref h11, .ref h12, .int 0, .int 0, .ref h13, .ref h14, .ref h15, .ref h16, .ref h17, .int 0, .ref h18, .ref h19, .ref h20]))] _ _ := h
  refine lv_if_eq (tgt := 29) hx hb dX12_numbers_14 (by decide) (fun c => absurd c (by decide +kernel)) (fun _ => ?_)
  refine lv_iload_n hx hb dX12_numbers_17 rfl (lv_at hl 2 rfl) ?_
  refine lv_i2l hx hb dX12_numbers_18 rfl ?_
  refine lv_lconst (v := 0) hx hb dX12_numbers_19 (by decide) ?_
  refine lv_ldc2 hx hb hown (ht _ wm_7_29) dX12_numbers_20 ?_
  have g_10609 : (0 : Int64) ≤ ((p0).toInt64) := by
    simp only [q_lc_lt, q_lc_ge, q_lc_gt, q_lc_le, q_lc_eq, Int32.toInt_toInt64, Int64.lt_iff_toInt_lt, Int64.le_iff_toInt_le, ← Int64.toInt_inj, Int32.lt_iff_toInt_lt, Int32.le_iff_toInt_le, ← Int32.toInt_inj] at hlo_p0 hhi_p0 ⊢
    have k_0 : (0 : Int32).toInt = 0 := by decide
    have k_1 : (3 : Int32).toInt = 3 := by decide
    have k_g : (0 : Int64).toInt = 0 := by decide
    omega
  have g_10610 : ((p0).toInt64) ≤ (3 : Int64) := by
    simp only [q_lc_lt, q_lc_ge, q_lc_gt, q_lc_le, q_lc_eq, Int32.toInt_toInt64, Int64.lt_iff_toInt_lt, Int64.le_iff_toInt_le, ← Int64.toInt_inj, Int32.lt_iff_toInt_lt, Int32.le_iff_toInt_le, ← Int32.toInt_inj] at hlo_p0 hhi_p0 ⊢
    have k_0 : (0 : Int32).toInt = 0 := by decide
    have k_1 : (3 : Int32).toInt = 3 := by decide
    have k_g : (3 : Int64).toInt = 3 := by decide
    omega
  refine q_callSi (rest := []) (wr := [(h0, .inr (12, [.int 0, .ref h1, .ref h2, .ref h3, .ref h4, .int 0, .int 0, .int 0, .int 0, .int 0, .int 0, .int 0, .int 0, .int 0, .int (-1), .int 0, .ref h5, .ref h6, .ref h7, .ref h8, .ref h9, .int 0, .int 0, .ref h10, .ref h11, .ref h12, .int 0, .int 0, .ref h13, .ref h14, .ref h15, .ref h16, .ref h17, .int 0, .ref h18, .ref h19, .ref h20]))]) X hK hA h (fun sz => kX12_within_497 l D cy ((p0).toInt64) g_10609 g_10610 sz) wm_6_50 wm_6_52 wm_1_12 hd_X12_within wm_6_51 ⟨Nat.le_of_ble_eq_true rfl, Nat.le_of_ble_eq_true rfl⟩ hl.1 rfl (Nat.le_of_ble_eq_true rfl) dX12_numbers_23 ⟨Nat.le_of_ble_eq_true rfl, Nat.le_of_ble_eq_true rfl⟩ [] [0] rfl rfl (by decide) rfl rfl (fun r_10611 u_10611 H locs w_10611 h => ?_)
  obtain rfl : r_10611 = 1 := w_10611
  have h : qW D _ _ [(h0, .inr (12, [.int 0, .ref h1, .ref h2, .ref h3, .ref h4, .int 0, .int 0, .int 0, .int 0, .int 0, .int 0, .int 0, .int 0, .int 0, .int (-1), .int 0, .ref h5, .ref h6, .ref h7, .ref h8, .ref h9, .int 0, .int 0, .ref h10, .ref h11, .ref h12, .int 0, .int 0, .ref h13, .ref h14, .ref h15, .ref h16, .ref h17, .int 0, .ref h18, .ref h19, .ref h20]))] _ _ := h
  refine lv_if_ne (tgt := 32) hx hb dX12_numbers_26 (by decide) (fun _ => ?_) (fun c => absurd c (by decide +kernel))
  refine lv_iload_n hx hb dX12_numbers_32 rfl (lv_at hl 3 rfl) ?_
  refine lv_i2l hx hb dX12_numbers_33 rfl ?_
  refine lv_lconst (v := 0) hx hb dX12_numbers_34 (by decide) ?_
  refine lv_ldc2 hx hb hown (ht _ wm_7_82) dX12_numbers_35 ?_
  have g_10613 : ((p1).toInt64) ≤ ((-1) : Int64) := by
    simp only [q_lc_lt, q_lc_ge, q_lc_gt, q_lc_le, q_lc_eq, Int32.toInt_toInt64, Int64.lt_iff_toInt_lt, Int64.le_iff_toInt_le, ← Int64.toInt_inj, Int32.lt_iff_toInt_lt, Int32.le_iff_toInt_le, ← Int32.toInt_inj] at hhi_p1 ⊢
    have k_0 : ((-1) : Int32).toInt = -1 := by decide
    have k_g : ((-1) : Int64).toInt = -1 := by decide
    omega
  refine q_callSi (rest := []) (wr := [(h0, .inr (12, [.int 0, .ref h1, .ref h2, .ref h3, .ref h4, .int 0, .int 0, .int 0, .int 0, .int 0, .int 0, .int 0, .int 0, .int 0, .int (-1), .int 0, .ref h5, .ref h6, .ref h7, .ref h8, .ref h9, .int 0, .int 0, .ref h10, .ref h11, .ref h12, .int 0, .int 0, .ref h13, .ref h14, .ref h15, .ref h16, .ref h17, .int 0, .ref h18, .ref h19, .ref h20]))]) X hK hA h (fun sz => kX12_within_699 l D cy ((p1).toInt64) g_10613 sz) wm_6_50 wm_6_52 wm_1_12 hd_X12_within wm_6_51 ⟨Nat.le_of_ble_eq_true rfl, Nat.le_of_ble_eq_true rfl⟩ hl.1 rfl (Nat.le_of_ble_eq_true rfl) dX12_numbers_38 ⟨Nat.le_of_ble_eq_true rfl, Nat.le_of_ble_eq_true rfl⟩ [] [0] rfl rfl (by decide) rfl rfl (fun r_10614 u_10614 H locs w_10614 h => ?_)
  obtain rfl : r_10614 = 0 := w_10614
  have h : qW D _ _ [(h0, .inr (12, [.int 0, .ref h1, .ref h2, .ref h3, .ref h4, .int 0, .int 0, .int 0, .int 0, .int 0, .int 0, .int 0, .int 0, .int 0, .int (-1), .int 0, .ref h5, .ref h6, .ref h7, .ref h8, .ref h9, .int 0, .int 0, .ref h10, .ref h11, .ref h12, .int 0, .int 0, .ref h13, .ref h14, .ref h15, .ref h16, .ref h17, .int 0, .ref h18, .ref h19, .ref h20]))] _ _ := h
  refine lv_if_ne (tgt := 47) hx hb dX12_numbers_41 (by decide) (fun c => absurd c (by decide +kernel)) (fun _ => ?_)
  refine lv_bipush (v := (-3)) hx hb dX12_numbers_44 (by decide) ?_
  exact q_iret X hr hlk hK h rfl (fun _ => 0, fun _ _ => 0, fun _ _ => 0) rfl [0] rfl rfl dX12_numbers_46 (Nat.le_of_ble_eq_true rfl) (Nat.le_of_ble_eq_true rfl)
