set_option maxHeartbeats 4000000 in
set_option maxRecDepth 100000 in
theorem kX12_opposed_448 (l : Launch) (D : va_G) (cy : Nat → ClassId) (h0 : Nat) (h1 : Nat) (p0 : Int32) (p1 : Int32) (h2 : Nat) (h3 : Nat) (h4 : Nat) (h5 : Nat) (h6 : Nat) (h7 : Nat) (h8 : Nat) (h9 : Nat) (h10 : Nat) (h11 : Nat) (h12 : Nat) (h13 : Nat) (h14 : Nat) (h15 : Nat) (h16 : Nat) (h17 : Nat) (h18 : Nat) (h19 : Nat) (h20 : Nat) (f0 : Nat → Int32) (hlo_p0 : (0 : Int32) ≤ p0) (hf_f0_2 : f0 (Int32.toNatClampNeg 2) = 0) (sz : Nat) : MI l yX12_opposed cX12_opposed 3 .int { frames := 2, cells := 0, slots := 0, locals := 47 } [.ref h0, .int p0, .int p1] D cy [(h0, .inr (12, [.int 0, .ref h1, .ref h2, .ref h3, .ref h4, .int 0, .int 0, .int 0, .int 0, .int 0, .int 0, .int 0, .int 0, .int 0, .int (-1), .int 0, .ref h5, .ref h6, .ref h7, .ref h8, .ref h9, .int 0, .int 0, .ref h10, .ref h11, .ref h12, .int 0, .int 0, .ref h13, .ref h14, .ref h15, .ref h16, .ref h17, .int 0, .ref h18, .ref h19, .ref h20])), (h1, .inl (cy 1, 3918, .inl f0))] sz (fun r u => r = (-2)) (fun u => [(h0, .inr (12, [.int 0, .ref h1, .ref h2, .ref h3, .ref h4, .int 0, .int 0, .int 0, .int 0, .int 0, .int 0, .int 0, .int 0, .int 0, .int (-1), .int 0, .ref h5, .ref h6, .ref h7, .ref h8, .ref h9, .int 0, .int 0, .ref h10, .ref h11, .ref h12, .int 0, .int 0, .ref h13, .ref h14, .ref h15, .ref h16, .ref h17, .int 0, .ref h18, .ref h19, .ref h20])), (h1, .inl (cy 1, 3918, .inl f0))]) 0 0 := by
  refine q_ent (own := RX12) (by decide) rfl (Nat.le_of_ble_eq_true rfl) (fun p e s m below meth c ls X hr hlk hnm hK h hA hl => ?_)
  obtain ⟨hx, hb, hml, hown, ht⟩ := id X
  have hl : lv_has ls 3 [(0, .ref h0), (1, .int p0), (2, .int p1)] := hl
  refine lv_aload_n hx hb dX12_opposed_0 rfl (lv_at hl 0 rfl) ?_
  refine lv_iconst (v := 0) hx hb dX12_opposed_1 (by decide) ?_
  refine q_put (v := .int 0) X hK h 0 rfl rfl wf_12 tyX12 tyX12_ok nmX12 0 (by decide) wm_5_170 rfl rfl rfl (Nat.le_of_ble_eq_true rfl) dX12_opposed_2 (fun H locs h => ?_)
  have h : qW D _ _ [(h0, .inr (12, [.int 0, .ref h1, .ref h2, .ref h3, .ref h4, .int 0, .int 0, .int 0, .int 0, .int 0, .int 0, .int 0, .int 0, .int 0, .int (-1), .int 0, .ref h5, .ref h6, .ref h7, .ref h8, .ref h9, .int 0, .int 0, .ref h10, .ref h11, .ref h12, .int 0, .int 0, .ref h13, .ref h14, .ref h15, .ref h16, .ref h17, .int 0, .ref h18, .ref h19, .ref h20])), (h1, .inl (cy 1, 3918, .inl f0))] _ _ := h
  refine lv_aload_n hx hb dX12_opposed_5 rfl (lv_at hl 0 rfl) ?_
  refine lv_iload_n hx hb dX12_opposed_6 rfl (lv_at hl 1 rfl) ?_
  refine lv_i2l hx hb dX12_opposed_7 rfl ?_
  have g_5655 : (0 : Int64) ≤ ((p0).toInt64) := by
    simp only [q_lc_lt, q_lc_ge, q_lc_gt, q_lc_le, q_lc_eq, Int32.toInt_toInt64, Int64.lt_iff_toInt_lt, Int64.le_iff_toInt_le, ← Int64.toInt_inj, Int32.lt_iff_toInt_lt, Int32.le_iff_toInt_le, ← Int32.toInt_inj] at hlo_p0 ⊢
    have k_0 : (0 : Int32).toInt = 0 := by decide
    have k_g : (0 : Int64).toInt = 0 := by decide
    omega
  refine q_callVi (rest := []) (wr := []) X hK hA h (fun sz => kX12_isPerson_437 l D cy h0 h1 ((p0).toInt64) h2 h3 h4 h5 h6 h7 h8 h9 h10 h11 h12 h13 h14 h15 h16 h17 h18 h19 h20 f0 g_5655 hf_f0_2 sz) wm_6_162 wm_6_165 wm_1_12 hd_X12_isPerson wm_6_164 wp_5_8 (ci := 12) (q0 := 0) rfl rfl ⟨Nat.le_of_ble_eq_true rfl, Nat.le_of_ble_eq_true rfl⟩ hl.1 rfl (Nat.le_of_ble_eq_true rfl) dX12_opposed_8 ⟨Nat.le_of_ble_eq_true rfl, Nat.le_of_ble_eq_true rfl⟩ [0, 1] [] rfl rfl (by decide) rfl rfl (fun r_5656 u_5656 H locs w_5656 h => ?_)
  obtain rfl : r_5656 = 0 := w_5656
  have h : qW D _ _ [(h0, .inr (12, [.int 0, .ref h1, .ref h2, .ref h3, .ref h4, .int 0, .int 0, .int 0, .int 0, .int 0, .int 0, .int 0, .int 0, .int 0, .int (-1), .int 0, .ref h5, .ref h6, .ref h7, .ref h8, .ref h9, .int 0, .int 0, .ref h10, .ref h11, .ref h12, .int 0, .int 0, .ref h13, .ref h14, .ref h15, .ref h16, .ref h17, .int 0, .ref h18, .ref h19, .ref h20])), (h1, .inl (cy 1, 3918, .inl f0))] _ _ := h
  refine lv_if_eq (tgt := 47) hx hb dX12_opposed_11 (by decide) (fun _ => ?_) (fun c => absurd c (by decide +kernel))
  refine lv_bipush (v := (-2)) hx hb dX12_opposed_47 (by decide) ?_
  exact q_iret X hr hlk hK h rfl (fun _ => 0, fun _ _ => 0, fun _ _ => 0) rfl [0, 1] rfl rfl dX12_opposed_49 (Nat.le_of_ble_eq_true rfl) (Nat.le_of_ble_eq_true rfl)
set_option maxHeartbeats 4000000 in
set_option maxRecDepth 100000 in
theorem kX12_opposites_449 (l : Launch) (D : va_G) (cy : Nat → ClassId) (h0 : Nat) (h1 : Nat) (p0 : Int32) (h2 : Nat) (h3 : Nat) (h4 : Nat) (h5 : Nat) (h6 : Nat) (h7 : Nat) (h8 : Nat) (h9 : Nat) (h10 : Nat) (h11 : Nat) (h12 : Nat) (h13 : Nat) (h14 : Nat) (h15 : Nat) (h16 : Nat) (h17 : Nat) (h18 : Nat) (h19 : Nat) (h20 : Nat) (f0 : Nat → Int32) (hhi_p0 : p0 ≤ ((-1) : Int32)) (hf_f0_2 : f0 (Int32.toNatClampNeg 2) = 0) (sz : Nat) : MI l yX12_opposites cX12_opposites 2 .int { frames := 2, cells := 0, slots := 0, locals := 47 } [.ref h0, .int p0] D cy [(h0, .inr (12, [.int 0, .ref h1, .ref h2, .ref h3, .ref h4, .int 0, .int 0, .int 0, .int 0, .int 0, .int 0, .int 0, .int 0, .int 0, .int (-1), .int 0, .ref h5, .ref h6, .ref h7, .ref h8, .ref h9, .int 0, .int 0, .ref h10, .ref h11, .ref h12, .int 0, .int 0, .ref h13, .ref h14, .ref h15, .ref h16, .ref h17, .int 0, .ref h18, .ref h19, .ref h20])), (h1, .inl (cy 1, 3918, .inl f0))] sz (fun r u => r = (-2)) (fun u => [(h0, .inr (12, [.int 0, .ref h1, .ref h2, .ref h3, .ref h4, .int 0, .int 0, .int 0, .int 0, .int 0, .int 0, .int 0, .int 0, .int 0, .int (-1), .int 0, .ref h5, .ref h6, .ref h7, .ref h8, .ref h9, .int 0, .int 0, .ref h10, .ref h11, .ref h12, .int 0, .int 0, .ref h13, .ref h14, .ref h15, .ref h16, .ref h17, .int 0, .ref h18, .ref h19, .ref h20])), (h1, .inl (cy 1, 3918, .inl f0))]) 0 0 := by
  refine q_ent (own := RX12) (by decide) rfl (Nat.le_of_ble_eq_true rfl) (fun p e s m below meth c ls X hr hlk hnm hK h hA hl => ?_)
  obtain ⟨hx, hb, hml, hown, ht⟩ := id X
  have hl : lv_has ls 2 [(0, .ref h0), (1, .int p0)] := hl
  refine lv_aload_n hx hb dX12_opposites_0 rfl (lv_at hl 0 rfl) ?_
  refine lv_iconst (v := 0) hx hb dX12_opposites_1 (by decide) ?_
  refine q_put (v := .int 0) X hK h 0 rfl rfl wf_12 tyX12 tyX12_ok nmX12 0 (by decide) wm_5_170 rfl rfl rfl (Nat.le_of_ble_eq_true rfl) dX12_opposites_2 (fun H locs h => ?_)
  have h : qW D _ _ [(h0, .inr (12, [.int 0, .ref h1, .ref h2, .ref h3, .ref h4, .int 0, .int 0, .int 0, .int 0, .int 0, .int 0, .int 0, .int 0, .int 0, .int (-1), .int 0, .ref h5, .ref h6, .ref h7, .ref h8, .ref h9, .int 0, .int 0, .ref h10, .ref h11, .ref h12, .int 0, .int 0, .ref h13, .ref h14, .ref h15, .ref h16, .ref h17, .int 0, .ref h18, .ref h19, .ref h20])), (h1, .inl (cy 1, 3918, .inl f0))] _ _ := h
  refine lv_aload_n hx hb dX12_opposites_5 rfl (lv_at hl 0 rfl) ?_
  refine lv_iload_n hx hb dX12_opposites_6 rfl (lv_at hl 1 rfl) ?_
  refine lv_i2l hx hb dX12_opposites_7 rfl ?_
  have g_5670 : ((p0).toInt64) ≤ ((-1) : Int64) := by
    simp only [q_lc_lt, q_lc_ge, q_lc_gt, q_lc_le, q_lc_eq, Int32.toInt_toInt64, Int64.lt_iff_toInt_lt, Int64.le_iff_toInt_le, ← Int64.toInt_inj, Int32.lt_iff_toInt_lt, Int32.le_iff_toInt_le, ← Int32.toInt_inj] at hhi_p0 ⊢
    have k_0 : ((-1) : Int32).toInt = -1 := by decide
    have k_g : ((-1) : Int64).toInt = -1 := by decide
    omega
  refine q_callVi (rest := []) (wr := []) X hK hA h (fun sz => kX12_isPerson_433 l D cy h0 h1 ((p0).toInt64) h2 h3 h4 h5 h6 h7 h8 h9 h10 h11 h12 h13 h14 h15 h16 h17 h18 h19 h20 f0 g_5670 hf_f0_2 sz) wm_6_162 wm_6_165 wm_1_12 hd_X12_isPerson wm_6_164 wp_5_8 (ci := 12) (q0 := 0) rfl rfl ⟨Nat.le_of_ble_eq_true rfl, Nat.le_of_ble_eq_true rfl⟩ hl.1 rfl (Nat.le_of_ble_eq_true rfl) dX12_opposites_8 ⟨Nat.le_of_ble_eq_true rfl, Nat.le_of_ble_eq_true rfl⟩ [0, 1] [] rfl rfl (by decide) rfl rfl (fun r_5671 u_5671 H locs w_5671 h => ?_)
  obtain rfl : r_5671 = 0 := w_5671
  have h : qW D _ _ [(h0, .inr (12, [.int 0, .ref h1, .ref h2, .ref h3, .ref h4, .int 0, .int 0, .int 0, .int 0, .int 0, .int 0, .int 0, .int 0, .int 0, .int (-1), .int 0, .ref h5, .ref h6, .ref h7, .ref h8, .ref h9, .int 0, .int 0, .ref h10, .ref h11, .ref h12, .int 0, .int 0, .ref h13, .ref h14, .ref h15, .ref h16, .ref h17, .int 0, .ref h18, .ref h19, .ref h20])), (h1, .inl (cy 1, 3918, .inl f0))] _ _ := h
  refine lv_if_eq (tgt := 22) hx hb dX12_opposites_11 (by decide) (fun _ => ?_) (fun c => absurd c (by decide +kernel))
  refine lv_bipush (v := (-2)) hx hb dX12_opposites_22 (by decide) ?_
  exact q_iret X hr hlk hK h rfl (fun _ => 0, fun _ _ => 0, fun _ _ => 0) rfl [0, 1] rfl rfl dX12_opposites_24 (Nat.le_of_ble_eq_true rfl) (Nat.le_of_ble_eq_true rfl)
set_option maxHeartbeats 4000000 in
set_option maxRecDepth 100000 in
theorem kX12_opposites_450 (l : Launch) (D : va_G) (cy : Nat → ClassId) (h0 : Nat) (h1 : Nat) (p0 : Int32) (h2 : Nat) (h3 : Nat) (h4 : Nat) (h5 : Nat) (h6 : Nat) (h7 : Nat) (h8 : Nat) (h9 : Nat) (h10 : Nat) (h11 : Nat) (h12 : Nat) (h13 : Nat) (h14 : Nat) (h15 : Nat) (h16 : Nat) (h17 : Nat) (h18 : Nat) (h19 : Nat) (h20 : Nat) (f0 : Nat → Int32) (hlo_p0 : (0 : Int32) ≤ p0) (hf_f0_2 : f0 (Int32.toNatClampNeg 2) = 0) (sz : Nat) : MI l yX12_opposites cX12_opposites 2 .int { frames := 2, cells := 0, slots := 0, locals := 47 } [.ref h0, .int p0] D cy [(h0, .inr (12, [.int 0, .ref h1, .ref h2, .ref h3, .ref h4, .int 0, .int 0, .int 0, .int 0, .int 0, .int 0, .int 0, .int 0, .int 0, .int (-1), .int 0, .ref h5, .ref h6, .ref h7, .ref h8, .ref h9, .int 0, .int 0, .ref h10, .ref h11, .ref h12, .int 0, .int 0, .ref h13, .ref h14, .ref h15, .ref h16, .ref h17, .int 0, .ref h18, .ref h19, .ref h20])), (h1, .inl (cy 1, 3918, .inl f0))] sz (fun r u => r = (-2)) (fun u => [(h0, .inr (12, [.int 0, .ref h1, .ref h2, .ref h3, .ref h4, .int 0, .int 0, .int 0, .int 0, .int 0, .int 0, .int 0, .int 0, .int 0, .int (-1), .int 0, .ref h5, .ref h6, .ref h7, .ref h8, .ref h9, .int 0, .int 0, .ref h10, .ref h11, .ref h12, .int 0, .int 0, .ref h13, .ref h14, .ref h15, .ref h16, .ref h17, .int 0, .ref h18, .ref h19, .ref h20])), (h1, .inl (cy 1, 3918, .inl f0))]) 0 0 := by
  refine q_ent (own := RX12) (by decide) rfl (Nat.le_of_ble_eq_true rfl) (fun p e s m below meth c ls X hr hlk hnm hK h hA hl => ?_)
  obtain ⟨hx, hb, hml, hown, ht⟩ := id X
  have hl : lv_has ls 2 [(0, .ref h0), (1, .int p0)] := hl
  refine lv_aload_n hx hb dX12_opposites_0 rfl (lv_at hl 0 rfl) ?_
  refine lv_iconst (v := 0) hx hb dX12_opposites_1 (by decide) ?_
  refine q_put (v := .int 0) X hK h 0 rfl rfl wf_12 tyX12 tyX12_ok nmX12 0 (by decide) wm_5_170 rfl rfl rfl (Nat.le_of_ble_eq_true rfl) dX12_opposites_2 (fun H locs h => ?_)
  have h : qW D _ _ [(h0, .inr (12, [.int 0, .ref h1, .ref h2, .ref h3, .ref h4, .int 0, .int 0, .int 0, .int 0, .int 0, .int 0, .int 0, .int 0, .int 0, .int (-1), .int 0, .ref h5, .ref h6, .ref h7, .ref h8, .ref h9, .int 0, .int 0, .ref h10, .ref h11, .ref h12, .int 0, .int 0, .ref h13, .ref h14, .ref h15, .ref h16, .ref h17, .int 0, .ref h18, .ref h19, .ref h20])), (h1, .inl (cy 1, 3918, .inl f0))] _ _ := h
  refine lv_aload_n hx hb dX12_opposites_5 rfl (lv_at hl 0 rfl) ?_
  refine lv_iload_n hx hb dX12_opposites_6 rfl (lv_at hl 1 rfl) ?_
  refine lv_i2l hx hb dX12_opposites_7 rfl ?_
  have g_5688 : (0 : Int64) ≤ ((p0).toInt64) := by
    simp only [q_lc_lt, q_lc_ge, q_lc_gt, q_lc_le, q_lc_eq, Int32.toInt_toInt64, Int64.lt_iff_toInt_lt, Int64.le_iff_toInt_le, ← Int64.toInt_inj, Int32.lt_iff_toInt_lt, Int32.le_iff_toInt_le, ← Int32.toInt_inj] at hlo_p0 ⊢
    have k_0 : (0 : Int32).toInt = 0 := by decide
    have k_g : (0 : Int64).toInt = 0 := by decide
    omega
  refine q_callVi (rest := []) (wr := []) X hK hA h (fun sz => kX12_isPerson_437 l D cy h0 h1 ((p0).toInt64) h2 h3 h4 h5 h6 h7 h8 h9 h10 h11 h12 h13 h14 h15 h16 h17 h18 h19 h20 f0 g_5688 hf_f0_2 sz) wm_6_162 wm_6_165 wm_1_12 hd_X12_isPerson wm_6_164 wp_5_8 (ci := 12) (q0 := 0) rfl rfl ⟨Nat.le_of_ble_eq_true rfl, Nat.le_of_ble_eq_true rfl⟩ hl.1 rfl (Nat.le_of_ble_eq_true rfl) dX12_opposites_8 ⟨Nat.le_of_ble_eq_true rfl, Nat.le_of_ble_eq_true rfl⟩ [0, 1] [] rfl rfl (by decide) rfl rfl (fun r_5689 u_5689 H locs w_5689 h => ?_)
  obtain rfl : r_5689 = 0 := w_5689
  have h : qW D _ _ [(h0, .inr (12, [.int 0, .ref h1, .ref h2, .ref h3, .ref h4, .int 0, .int 0, .int 0, .int 0, .int 0, .int 0, .int 0, .int 0, .int 0, .int (-1), .int 0, .ref h5, .ref h6, .ref h7, .ref h8, .ref h9, .int 0, .int 0, .ref h10, .ref h11, .ref h12, .int 0, .int 0, .ref h13, .ref h14, .ref h15, .ref h16, .ref h17, .int 0, .ref h18, .ref h19, .ref h20])), (h1, .inl (cy 1, 3918, .inl f0))] _ _ := h
  refine lv_if_eq (tgt := 22) hx hb dX12_opposites_11 (by decide) (fun _ => ?_) (fun c => absurd c (by decide +kernel))
  refine lv_bipush (v := (-2)) hx hb dX12_opposites_22 (by decide) ?_
  exact q_iret X hr hlk hK h rfl (fun _ => 0, fun _ _ => 0, fun _ _ => 0) rfl [0, 1] rfl rfl dX12_opposites_24 (Nat.le_of_ble_eq_true rfl) (Nat.le_of_ble_eq_true rfl)
set_option maxHeartbeats 4000000 in
set_option maxRecDepth 100000 in
theorem kX12_whyTalk_451 (l : Launch) (D : va_G) (cy : Nat → ClassId) (h0 : Nat) (h1 : Nat) (j0 : Int64) (j1 : Int64) (h2 : Nat) (h3 : Nat) (h4 : Nat) (h5 : Nat) (h6 : Nat) (h7 : Nat) (h8 : Nat) (h9 : Nat) (h10 : Nat) (h11 : Nat) (h12 : Nat) (h13 : Nat) (h14 : Nat) (h15 : Nat) (h16 : Nat) (h17 : Nat) (h18 : Nat) (h19 : Nat) (h20 : Nat) (f0 : Nat → Int32) (hhi_j0 : j0 ≤ ((-1) : Int64)) (hf_f0_2 : f0 (Int32.toNatClampNeg 2) = 0) (sz : Nat) : MI l yX12_whyTalk cX12_whyTalk 5 .int { frames := 2, cells := 0, slots := 0, locals := 47 } [.ref h0, .long j0, .long j1] D cy [(h0, .inr (12, [.int 0, .ref h1, .ref h2, .ref h3, .ref h4, .int 0, .int 0, .int 0, .int 0, .int 0, .int 0, .int 0, .int 0, .int 0, .int (-1), .int 0, .ref h5, .ref h6, .ref h7, .ref h8, .ref h9, .int 0, .int 0, .ref h10, .ref h11, .ref h12, .int 0, .int 0, .ref h13, .ref h14, .ref h15, .ref h16, .ref h17, .int 0, .ref h18, .ref h19, .ref h20])), (h1, .inl (cy 1, 3918, .inl f0))] sz (fun r u => r = 1) (fun u => [(h0, .inr (12, [.int 0, .ref h1, .ref h2, .ref h3, .ref h4, .int 0, .int 0, .int 0, .int 0, .int 0, .int 0, .int 0, .int 0, .int 0, .int (-1), .int 0, .ref h5, .ref h6, .ref h7, .ref h8, .ref h9, .int 0, .int 0, .ref h10, .ref h11, .ref h12, .int 0, .int 0, .ref h13, .ref h14, .ref h15, .ref h16, .ref h17, .int 0, .ref h18, .ref h19, .ref h20])), (h1, .inl (cy 1, 3918, .inl f0))]) 0 0 := by
  refine q_ent (own := RX12) (by decide) rfl (Nat.le_of_ble_eq_true rfl) (fun p e s m below meth c ls X hr hlk hnm hK h hA hl => ?_)
  obtain ⟨hx, hb, hml, hown, ht⟩ := id X
  have hl : lv_has ls 5 [(0, .ref h0), (1, .long j0), (3, .long j1)] := hl
  refine lv_aload_n hx hb dX12_whyTalk_0 rfl (lv_at hl 0 rfl) ?_
  refine lv_lload_n hx hb dX12_whyTalk_1 rfl (lv_at hl 1 rfl) ?_
  have g_5703 : j0 ≤ ((-1) : Int64) := by
    simp only [q_lc_lt, q_lc_ge, q_lc_gt, q_lc_le, q_lc_eq, Int32.toInt_toInt64, Int64.lt_iff_toInt_lt, Int64.le_iff_toInt_le, ← Int64.toInt_inj, Int32.lt_iff_toInt_lt, Int32.le_iff_toInt_le, ← Int32.toInt_inj] at hhi_j0 ⊢
    have k_0 : ((-1) : Int64).toInt = -1 := by decide
    omega
  refine q_callVi (rest := []) (wr := []) X hK hA h (fun sz => kX12_isPerson_433 l D cy h0 h1 j0 h2 h3 h4 h5 h6 h7 h8 h9 h10 h11 h12 h13 h14 h15 h16 h17 h18 h19 h20 f0 g_5703 hf_f0_2 sz) wm_6_162 wm_6_165 wm_1_12 hd_X12_isPerson wm_6_164 wp_5_8 (ci := 12) (q0 := 0) rfl rfl ⟨Nat.le_of_ble_eq_true rfl, Nat.le_of_ble_eq_true rfl⟩ hl.1 rfl (Nat.le_of_ble_eq_true rfl) dX12_whyTalk_2 ⟨Nat.le_of_ble_eq_true rfl, Nat.le_of_ble_eq_true rfl⟩ [0, 1] [] rfl rfl (by decide) rfl rfl (fun r_5704 u_5704 H locs w_5704 h => ?_)
  obtain rfl : r_5704 = 0 := w_5704
  have h : qW D _ _ [(h0, .inr (12, [.int 0, .ref h1, .ref h2, .ref h3, .ref h4, .int 0, .int 0, .int 0, .int 0, .int 0, .int 0, .int 0, .int 0, .int 0, .int (-1), .int 0, .ref h5, .ref h6, .ref h7, .ref h8, .ref h9, .int 0, .int 0, .ref h10, .ref h11, .ref h12, .int 0, .int 0, .ref h13, .ref h14, .ref h15, .ref h16, .ref h17, .int 0, .ref h18, .ref h19, .ref h20])), (h1, .inl (cy 1, 3918, .inl f0))] _ _ := h
  refine lv_if_eq (tgt := 22) hx hb dX12_whyTalk_5 (by decide) (fun _ => ?_) (fun c => absurd c (by decide +kernel))
  refine lv_iconst (v := 1) hx hb dX12_whyTalk_22 (by decide) ?_
  exact q_iret X hr hlk hK h rfl (fun _ => 0, fun _ _ => 0, fun _ _ => 0) rfl [0, 1] rfl rfl dX12_whyTalk_23 (Nat.le_of_ble_eq_true rfl) (Nat.le_of_ble_eq_true rfl)
set_option maxHeartbeats 4000000 in
set_option maxRecDepth 100000 in
theorem kX12_whyTalk_452 (l : Launch) (D : va_G) (cy : Nat → ClassId) (h0 : Nat) (h1 : Nat) (j0 : Int64) (j1 : Int64) (h2 : Nat) (h3 : Nat) (h4 : Nat) (h5 : Nat) (h6 : Nat) (h7 : Nat) (h8 : Nat) (h9 : Nat) (h10 : Nat) (h11 : Nat) (h12 : Nat) (h13 : Nat) (h14 : Nat) (h15 : Nat) (h16 : Nat) (h17 : Nat) (h18 : Nat) (h19 : Nat) (h20 : Nat) (f1 : Nat → Int32) (hhi_j0 : j0 ≤ ((-1) : Int64)) (hf_f1_2 : f1 (Int32.toNatClampNeg 2) = 0) (sz : Nat) : MI l yX12_whyTalk cX12_whyTalk 5 .int { frames := 2, cells := 0, slots := 0, locals := 47 } [.ref h0, .long j0, .long j1] D cy [(h0, .inr (12, [.int 0, .ref h1, .ref h2, .ref h3, .ref h4, .int 0, .int 0, .int 0, .int 0, .int 0, .int 0, .int 0, .int 0, .int 0, .int (-1), .int 0, .ref h5, .ref h6, .ref h7, .ref h8, .ref h9, .int 0, .int 0, .ref h10, .ref h11, .ref h12, .int 0, .int 0, .ref h13, .ref h14, .ref h15, .ref h16, .ref h17, .int 0, .ref h18, .ref h19, .ref h20])), (h1, .inl (cy 1, 3918, .inl f1))] sz (fun r u => r = 1) (fun u => [(h0, .inr (12, [.int 0, .ref h1, .ref h2, .ref h3, .ref h4, .int 0, .int 0, .int 0, .int 0, .int 0, .int 0, .int 0, .int 0, .int 0, .int (-1), .int 0, .ref h5, .ref h6, .ref h7, .ref h8, .ref h9, .int 0, .int 0, .ref h10, .ref h11, .ref h12, .int 0, .int 0, .ref h13, .ref h14, .ref h15, .ref h16, .ref h17, .int 0, .ref h18, .ref h19, .ref h20])), (h1, .inl (cy 1, 3918, .inl f1))]) 0 0 := by
  refine q_ent (own := RX12) (by decide) rfl (Nat.le_of_ble_eq_true rfl) (fun p e s m below meth c ls X hr hlk hnm hK h hA hl => ?_)
  obtain ⟨hx, hb, hml, hown, ht⟩ := id X
  have hl : lv_has ls 5 [(0, .ref h0), (1, .long j0), (3, .long j1)] := hl
  refine lv_aload_n hx hb dX12_whyTalk_0 rfl (lv_at hl 0 rfl) ?_
  refine lv_lload_n hx hb dX12_whyTalk_1 rfl (lv_at hl 1 rfl) ?_
  have g_5720 : j0 ≤ ((-1) : Int64) := by
    simp only [q_lc_lt, q_lc_ge, q_lc_gt, q_lc_le, q_lc_eq, Int32.toInt_toInt64, Int64.lt_iff_toInt_lt, Int64.le_iff_toInt_le, ← Int64.toInt_inj, Int32.lt_iff_toInt_lt, Int32.le_iff_toInt_le, ← Int32.toInt_inj] at hhi_j0 ⊢
    have k_0 : ((-1) : Int64).toInt = -1 := by decide
    omega
  refine q_callVi (rest := []) (wr := []) X hK hA h (fun sz => kX12_isPerson_433 l D cy h0 h1 j0 h2 h3 h4 h5 h6 h7 h8 h9 h10 h11 h12 h13 h14 h15 h16 h17 h18 h19 h20 f1 g_5720 hf_f1_2 sz) wm_6_162 wm_6_165 wm_1_12 hd_X12_isPerson wm_6_164 wp_5_8 (ci := 12) (q0 := 0) rfl rfl ⟨Nat.le_of_ble_eq_true rfl, Nat.le_of_ble_eq_true rfl⟩ hl.1 rfl (Nat.le_of_ble_eq_true rfl) dX12_whyTalk_2 ⟨Nat.le_of_ble_eq_true rfl, Nat.le_of_ble_eq_true rfl⟩ [0, 1] [] rfl rfl (by decide) rfl rfl (fun r_5721 u_5721 H locs w_5721 h => ?_)
  obtain rfl : r_5721 = 0 := w_5721
  have h : qW D _ _ [(h0, .inr (12, [.int 0, .ref h1, .ref h2, .ref h3, .ref h4, .int 0, .int 0, .int 0, .int 0, .int 0, .int 0, .int 0, .int 0, .int 0, .int (-1), .int 0, .ref h5, .ref h6, .ref h7, .ref h8, .ref h9, .int 0, .int 0, .ref h10, .ref h11, .ref h12, .int 0, .int 0, .ref h13, .ref h14, .ref h15, .ref h16, .ref h17, .int 0, .ref h18, .ref h19, .ref h20])), (h1, .inl (cy 1, 3918, .inl f1))] _ _ := h
  refine lv_if_eq (tgt := 22) hx hb dX12_whyTalk_5 (by decide) (fun _ => ?_) (fun c => absurd c (by decide +kernel))
  refine lv_iconst (v := 1) hx hb dX12_whyTalk_22 (by decide) ?_
  exact q_iret X hr hlk hK h rfl (fun _ => 0, fun _ _ => 0, fun _ _ => 0) rfl [0, 1] rfl rfl dX12_whyTalk_23 (Nat.le_of_ble_eq_true rfl) (Nat.le_of_ble_eq_true rfl)
set_option maxHeartbeats 4000000 in
set_option maxRecDepth 100000 in
theorem kX12_talk_453 (l : Launch) (D : va_G) (cy : Nat → ClassId) (h0 : Nat) (h1 : Nat) (p0 : Int32) (p1 : Int32) (h2 : Nat) (h3 : Nat) (h4 : Nat) (h5 : Nat) (h6 : Nat) (h7 : Nat) (h8 : Nat) (h9 : Nat) (h10 : Nat) (h11 : Nat) (h12 : Nat) (h13 : Nat) (h14 : Nat) (h15 : Nat) (h16 : Nat) (h17 : Nat) (h18 : Nat) (h19 : Nat) (h20 : Nat) (f0 : Nat → Int32) (hhi_p0 : p0 ≤ ((-1) : Int32)) (hf_f0_2 : f0 (Int32.toNatClampNeg 2) = 0) (sz : Nat) : MI l yX12_talk cX12_talk 4 .int { frames := 3, cells := 0, slots := 0, locals := 71 } [.ref h0, .int p0, .int p1] D cy [(h0, .inr (12, [.int 0, .ref h1, .ref h2, .ref h3, .ref h4, .int 0, .int 0, .int 0, .int 0, .int 0, .int 0, .int 0, .int 0, .int 0, .int (-1), .int 0, .ref h5, .ref h6, .ref h7, .ref h8, .ref h9, .int 0, .int 0, .ref h10, .ref h11, .ref h12, .int 0, .int 0, .ref h13, .ref h14, .ref h15, .ref h16, .ref h17, .int 0, .ref h18, .ref h19, .ref h20])), (h1, .inl (cy 1, 3918, .inl f0))] sz (fun r u => r = (-11)) (fun u => [(h0, .inr (12, [.int 0, .ref h1, .ref h2, .ref h3, .ref h4, .int 0, .int 0, .int 0, .int 0, .int 0, .int 0, .int 0, .int 0, .int 0, .int (-1), .int 0, .ref h5, .ref h6, .ref h7, .ref h8, .ref h9, .int 0, .int 0, .ref h10, .ref h11, .ref h12, .int 0, .int 0, .ref h13, .ref h14, .ref h15, .ref h16, .ref h17, .int 0, .ref h18, .ref h19, .ref h20])), (h1, .inl (cy 1, 3918, .inl f0))]) 0 0 := by
  refine q_ent (own := RX12) (by decide) rfl (Nat.le_of_ble_eq_true rfl) (fun p e s m below meth c ls X hr hlk hnm hK h hA hl => ?_)
  obtain ⟨hx, hb, hml, hown, ht⟩ := id X
  have hl : lv_has ls 4 [(0, .ref h0), (1, .int p0), (2, .int p1)] := hl
  refine lv_aload_n hx hb dX12_talk_0 rfl (lv_at hl 0 rfl) ?_
  refine lv_iconst (v := 0) hx hb dX12_talk_1 (by decide) ?_
  refine q_put (v := .int 0) X hK h 0 rfl rfl wf_12 tyX12 tyX12_ok nmX12 0 (by decide) wm_5_170 rfl rfl rfl (Nat.le_of_ble_eq_true rfl) dX12_talk_2 (fun H locs h => ?_)
  have h : qW D _ _ [(h0, .inr (12, [.int 0, .ref h1, .ref h2, .ref h3, .ref h4, .int 0, .int 0, .int 0, .int 0, .int 0, .int 0, .int 0, .int 0, .int 0, .int (-1), .int 0, .ref h5, .ref h6, .ref h7, .ref h8, .ref h9, .int 0, .int 0, .ref h10, .ref h11, .ref h12, .int 0, .int 0, .ref h13, .ref h14, .ref h15, .ref h16, .ref h17, .int 0, .ref h18, .ref h19, .ref h20])), (h1, .inl (cy 1, 3918, .inl f0))] _ _ := h
  refine lv_aload_n hx hb dX12_talk_5 rfl (lv_at hl 0 rfl) ?_
  refine lv_iload_n hx hb dX12_talk_6 rfl (lv_at hl 1 rfl) ?_
  refine lv_i2l hx hb dX12_talk_7 rfl ?_
  refine lv_iload_n hx hb dX12_talk_8 rfl (lv_at hl 2 rfl) ?_
  refine lv_i2l hx hb dX12_talk_9 rfl ?_
  have g_5729 : ((p0).toInt64) ≤ ((-1) : Int64) := by
    simp only [q_lc_lt, q_lc_ge, q_lc_gt, q_lc_le, q_lc_eq, Int32.toInt_toInt64, Int64.lt_iff_toInt_lt, Int64.le_iff_toInt_le, ← Int64.toInt_inj, Int32.lt_iff_toInt_lt, Int32.le_iff_toInt_le, ← Int32.toInt_inj] at hhi_p0 ⊢
    have k_0 : ((-1) : Int32).toInt = -1 := by decide
    have k_g : ((-1) : Int64).toInt = -1 := by decide
    omega
  refine q_callVi (rest := []) (wr := []) X hK hA h (fun sz => kX12_whyTalk_452 l D cy h0 h1 ((p0).toInt64) ((p1).toInt64) h2 h3 h4 h5 h6 h7 h8 h9 h10 h11 h12 h13 h14 h15 h16 h17 h18 h19 h20 f0 g_5729 hf_f0_2 sz) wm_6_216 wm_6_219 wm_1_12 hd_X12_whyTalk wm_6_218 wp_5_15 (ci := 12) (q0 := 0) rfl rfl ⟨Nat.le_of_ble_eq_true rfl, Nat.le_of_ble_eq_true rfl⟩ hl.1 rfl (Nat.le_of_ble_eq_true rfl) dX12_talk_10 ⟨Nat.le_of_ble_eq_true rfl, Nat.le_of_ble_eq_true rfl⟩ [0, 1] [] rfl rfl (by decide) rfl rfl (fun r_5730 u_5730 H locs w_5730 h => ?_)
  obtain rfl : r_5730 = 1 := w_5730
  have h : qW D _ _ [(h0, .inr (12, [.int 0, .ref h1, .ref h2, .ref h3, .ref h4, .int 0, .int 0, .int 0, .int 0, .int 0, .int 0, .int 0, .int 0, .int 0, .int (-1), .int 0, .ref h5, .ref h6, .ref h7, .ref h8, .ref h9, .int 0, .int 0, .ref h10, .ref h11, .ref h12, .int 0, .int 0, .ref h13, .ref h14, .ref h15, .ref h16, .ref h17, .int 0, .ref h18, .ref h19, .ref h20])), (h1, .inl (cy 1, 3918, .inl f0))] _ _ := h
  refine lv_istore_n (lv' := [(3, .int 1), (0, .ref h0), (1, .int p0), (2, .int p1)]) hx hb dX12_talk_13 rfl hl (by decide) rfl (fun ls hl => ?_)
  refine lv_iload_n hx hb dX12_talk_14 rfl (lv_at hl 0 rfl) ?_
  refine lv_if_eq (tgt := 23) hx hb dX12_talk_15 (by decide) (fun c => absurd c (by decide +kernel)) (fun _ => ?_)
  refine lv_bipush (v := (-10)) hx hb dX12_talk_18 (by decide) ?_
  refine lv_iload_n hx hb dX12_talk_20 rfl (lv_at hl 0 rfl) ?_
  refine lv_isub hx hb dX12_talk_21 ?_
  refine q_c (-11) (by decide +kernel) ?_
  exact q_iret X hr hlk hK h rfl (fun _ => 0, fun _ _ => 0, fun _ _ => 0) rfl [0, 1] rfl rfl dX12_talk_22 (Nat.le_of_ble_eq_true rfl) (Nat.le_of_ble_eq_true rfl)
set_option maxHeartbeats 4000000 in
set_option maxRecDepth 100000 in
theorem kX12_whyTalk_454 (l : Launch) (D : va_G) (cy : Nat → ClassId) (h0 : Nat) (h1 : Nat) (j0 : Int64) (j1 : Int64) (h2 : Nat) (h3 : Nat) (h4 : Nat) (h5 : Nat) (h6 : Nat) (h7 : Nat) (h8 : Nat) (h9 : Nat) (h10 : Nat) (h11 : Nat) (h12 : Nat) (h13 : Nat) (h14 : Nat) (h15 : Nat) (h16 : Nat) (h17 : Nat) (h18 : Nat) (h19 : Nat) (h20 : Nat) (f0 : Nat → Int32) (hlo_j0 : (0 : Int64) ≤ j0) (hf_f0_2 : f0 (Int32.toNatClampNeg 2) = 0) (sz : Nat) : MI l yX12_whyTalk cX12_whyTalk 5 .int { frames := 2, cells := 0, slots := 0, locals := 47 } [.ref h0, .long j0, .long j1] D cy [(h0, .inr (12, [.int 0, .ref h1, .ref h2, .ref h3, .ref h4, .int 0, .int 0, .int 0, .int 0, .int 0, .int 0, .int 0, .int 0, .int 0, .int (-1), .int 0, .ref h5, .ref h6, .ref h7, .ref h8, .ref h9, .int 0, .int 0, .ref h10, .ref h11, .ref h12, .int 0, .int 0, .ref h13, .ref h14, .ref h15, .ref h16, .ref h17, .int 0, .ref h18, .ref h19, .ref h20])), (h1, .inl (cy 1, 3918, .inl f0))] sz (fun r u => r = 1) (fun u => [(h0, .inr (12, [.int 0, .ref h1, .ref h2, .ref h3, .ref h4, .int 0, .int 0, .int 0, .int 0, .int 0, .int 0, .int 0, .int 0, .int 0, .int (-1), .int 0, .ref h5, .ref h6, .ref h7, .ref h8, .ref h9, .int 0, .int 0, .ref h10, .ref h11, .ref h12, .int 0, .int 0, .ref h13, .ref h14, .ref h15, .ref h16, .ref h17, .int 0, .ref h18, .ref h19, .ref h20])), (h1, .inl (cy 1, 3918, .inl f0))]) 0 0 := by
  refine q_ent (own := RX12) (by decide) rfl (Nat.le_of_ble_eq_true rfl) (fun p e s m below meth c ls X hr hlk hnm hK h hA hl => ?_)
  obtain ⟨hx, hb, hml, hown, ht⟩ := id X
  have hl : lv_has ls 5 [(0, .ref h0), (1, .long j0), (3, .long j1)] := hl
  refine lv_aload_n hx hb dX12_whyTalk_0 rfl (lv_at hl 0 rfl) ?_
  refine lv_lload_n hx hb dX12_whyTalk_1 rfl (lv_at hl 1 rfl) ?_
  have g_5747 : (0 : Int64) ≤ j0 := by
    simp only [q_lc_lt, q_lc_ge, q_lc_gt, q_lc_le, q_lc_eq, Int32.toInt_toInt64, Int64.lt_iff_toInt_lt, Int64.le_iff_toInt_le, ← Int64.toInt_inj, Int32.lt_iff_toInt_lt, Int32.le_iff_toInt_le, ← Int32.toInt_inj] at hlo_j0 ⊢
    have k_0 : (0 : Int64).toInt = 0 := by decide
    omega
  refine q_callVi (rest := []) (wr := []) X hK hA h (fun sz => kX12_isPerson_437 l D cy h0 h1 j0 h2 h3 h4 h5 h6 h7 h8 h9 h10 h11 h12 h13 h14 h15 h16 h17 h18 h19 h20 f0 g_5747 hf_f0_2 sz) wm_6_162 wm_6_165 wm_1_12 hd_X12_isPerson wm_6_164 wp_5_8 (ci := 12) (q0 := 0) rfl rfl ⟨Nat.le_of_ble_eq_true rfl, Nat.le_of_ble_eq_true rfl⟩ hl.1 rfl (Nat.le_of_ble_eq_true rfl) dX12_whyTalk_2 ⟨Nat.le_of_ble_eq_true rfl, Nat.le_of_ble_eq_true rfl⟩ [0, 1] [] rfl rfl (by decide) rfl rfl (fun r_5748 u_5748 H locs w_5748 h => ?_)
  obtain rfl : r_5748 = 0 := w_5748
  have h : qW D _ _ [(h0, .inr (12, [.int 0, .ref h1, .ref h2, .ref h3, .ref h4, .int 0, .int 0, .int 0, .int 0, .int 0, .int 0, .int 0, .int 0, .int 0, .int (-1), .int 0, .ref h5, .ref h6, .ref h7, .ref h8, .ref h9, .int 0, .int 0, .ref h10, .ref h11, .ref h12, .int 0, .int 0, .ref h13, .ref h14, .ref h15, .ref h16, .ref h17, .int 0, .ref h18, .ref h19, .ref h20])), (h1, .inl (cy 1, 3918, .inl f0))] _ _ := h
  refine lv_if_eq (tgt := 22) hx hb dX12_whyTalk_5 (by decide) (fun _ => ?_) (fun c => absurd c (by decide +kernel))
  refine lv_iconst (v := 1) hx hb dX12_whyTalk_22 (by decide) ?_
  exact q_iret X hr hlk hK h rfl (fun _ => 0, fun _ _ => 0, fun _ _ => 0) rfl [0, 1] rfl rfl dX12_whyTalk_23 (Nat.le_of_ble_eq_true rfl) (Nat.le_of_ble_eq_true rfl)
set_option maxHeartbeats 4000000 in
set_option maxRecDepth 100000 in
theorem kX12_whyTalk_455 (l : Launch) (D : va_G) (cy : Nat → ClassId) (h0 : Nat) (h1 : Nat) (j0 : Int64) (j1 : Int64) (h2 : Nat) (h3 : Nat) (h4 : Nat) (h5 : Nat) (h6 : Nat) (h7 : Nat) (h8 : Nat) (h9 : Nat) (h10 : Nat) (h11 : Nat) (h12 : Nat) (h13 : Nat) (h14 : Nat) (h15 : Nat) (h16 : Nat) (h17 : Nat) (h18 : Nat) (h19 : Nat) (h20 : Nat) (f1 : Nat → Int32) (hlo_j0 : (0 : Int64) ≤ j0) (hf_f1_2 : f1 (Int32.toNatClampNeg 2) = 0) (sz : Nat) : MI l yX12_whyTalk cX12_whyTalk 5 .int { frames := 2, cells := 0, slots := 0, locals := 47 } [.ref h0, .long j0, .long j1] D cy [(h0, .inr (12, [.int 0, .ref h1, .ref h2, .ref h3, .ref h4, .int 0, .int 0, .int 0, .int 0, .int 0, .int 0, .int 0, .int 0, .int 0, .int (-1), .int 0, .ref h5, .ref h6, .ref h7, .ref h8, .ref h9, .int 0, .int 0, .ref h10, .ref h11, .ref h12, .int 0, .int 0, .ref h13, .ref h14, .ref h15, .ref h16, .ref h17, .int 0, .ref h18, .ref h19, .ref h20])), (h1, .inl (cy 1, 3918, .inl f1))] sz (fun r u => r = 1) (fun u => [(h0, .inr (12, [.int 0, .ref h1, .ref h2, .ref h3, .ref h4, .int 0, .int 0, .int 0, .int 0, .int 0, .int 0, .int 0, .int 0, .int 0, .int (-1), .int 0, .ref h5, .ref h6, .ref h7, .ref h8, .ref h9, .int 0, .int 0, .ref h10, .ref h11, .ref h12, .int 0, .int 0, .ref h13, .ref h14, .ref h15, .ref h16, .ref h17, .int 0, .ref h18, .ref h19, .ref h20])), (h1, .inl (cy 1, 3918, .inl f1))]) 0 0 := by
  refine q_ent (own := RX12) (by decide) rfl (Nat.le_of_ble_eq_true rfl) (fun p e s m below meth c ls X hr hlk hnm hK h hA hl => ?_)
  obtain ⟨hx, hb, hml, hown, ht⟩ := id X
  have hl : lv_has ls 5 [(0, .ref h0), (1, .long j0), (3, .long j1)] := hl
  refine lv_aload_n hx hb dX12_whyTalk_0 rfl (lv_at hl 0 rfl) ?_
  refine lv_lload_n hx hb dX12_whyTalk_1 rfl (lv_at hl 1 rfl) ?_
  have g_5767 : (0 : Int64) ≤ j0 := by
    simp only [q_lc_lt, q_lc_ge, q_lc_gt, q_lc_le, q_lc_eq, Int32.toInt_toInt64, Int64.lt_iff_toInt_lt, Int64.le_iff_toInt_le, ← Int64.toInt_inj, Int32.lt_iff_toInt_lt, Int32.le_iff_toInt_le, ← Int32.toInt_inj] at hlo_j0 ⊢
    have k_0 : (0 : Int64).toInt = 0 := by decide
    omega
  refine q_callVi (rest := []) (wr := []) X hK hA h (fun sz => kX12_isPerson_437 l D cy h0 h1 j0 h2 h3 h4 h5 h6 h7 h8 h9 h10 h11 h12 h13 h14 h15 h16 h17 h18 h19 h20 f1 g_5767 hf_f1_2 sz) wm_6_162 wm_6_165 wm_1_12 hd_X12_isPerson wm_6_164 wp_5_8 (ci := 12) (q0 := 0) rfl rfl ⟨Nat.le_of_ble_eq_true rfl, Nat.le_of_ble_eq_true rfl⟩ hl.1 rfl (Nat.le_of_ble_eq_true rfl) dX12_whyTalk_2 ⟨Nat.le_of_ble_eq_true rfl, Nat.le_of_ble_eq_true rfl⟩ [0, 1] [] rfl rfl (by decide) rfl rfl (fun r_5768 u_5768 H locs w_5768 h => ?_)
  obtain rfl : r_5768 = 0 := w_5768
  have h : qW D _ _ [(h0, .inr (12, [.int 0, .ref h1, .ref h2, .ref h3, .ref h4, .int 0, .int 0, .int 0, .int 0, .int 0, .int 0, .int 0, .int 0, .int 0, .int (-1), .int 0, .ref h5, .ref h6, .ref h7, .ref h8, .ref h9, .int 0, .int 0, .ref h10, .ref h11, .ref h12, .int 0, .int 0, .ref h13, .ref h14, .ref h15, .ref h16, .ref h17, .int 0, .ref h18, .ref h19, .ref h20])), (h1, .inl (cy 1, 3918, .inl f1))] _ _ := h
  refine lv_if_eq (tgt := 22) hx hb dX12_whyTalk_5 (by decide) (fun _ => ?_) (fun c => absurd c (by decide +kernel))
  refine lv_iconst (v := 1) hx hb dX12_whyTalk_22 (by decide) ?_
  exact q_iret X hr hlk hK h rfl (fun _ => 0, fun _ _ => 0, fun _ _ => 0) rfl [0, 1] rfl rfl dX12_whyTalk_23 (Nat.le_of_ble_eq_true rfl) (Nat.le_of_ble_eq_true rfl)
set_option maxHeartbeats 4000000 in
set_option maxRecDepth 100000 in
theorem kX12_talk_456 (l : Launch) (D : va_G) (cy : Nat → ClassId) (h0 : Nat) (h1 : Nat) (p0 : Int32) (p1 : Int32) (h2 : Nat) (h3 : Nat) (h4 : Nat) (h5 : Nat) (h6 : Nat) (h7 : Nat) (h8 : Nat) (h9 : Nat) (h10 : Nat) (h11 : Nat) (h12 : Nat) (h13 : Nat) (h14 : Nat) (h15 : Nat) (h16 : Nat) (h17 : Nat) (h18 : Nat) (h19 : Nat) (h20 : Nat) (f0 : Nat → Int32) (hlo_p0 : (0 : Int32) ≤ p0) (hf_f0_2 : f0 (Int32.toNatClampNeg 2) = 0) (sz : Nat) : MI l yX12_talk cX12_talk 4 .int { frames := 3, cells := 0, slots := 0, locals := 71 } [.ref h0, .int p0, .int p1] D cy [(h0, .inr (12, [.int 0, .ref h1, .ref h2, .ref h3, .ref h4, .int 0, .int 0, .int 0, .int 0, .int 0, .int 0, .int 0, .int 0, .int 0, .int (-1), .int 0, .ref h5, .ref h6, .ref h7, .ref h8, .ref h9, .int 0, .int 0, .ref h10, .ref h11, .ref h12, .int 0, .int 0, .ref h13, .ref h14, .ref h15, .ref h16, .ref h17, .int 0, .ref h18, .ref h19, .ref h20])), (h1, .inl (cy 1, 3918, .inl f0))] sz (fun r u => r = (-11)) (fun u => [(h0, .inr (12, [.int 0, .ref h1, .ref h2, .ref h3, .ref h4, .int 0, .int 0, .int 0, .int 0, .int 0, .int 0, .int 0, .int 0, .int 0, .int (-1), .int 0, .ref h5, .ref h6, .ref h7, .ref h8, .ref h9, .int 0, .int 0, .ref h10, .ref h11, .ref h12, .int 0, .int 0, .ref h13, .ref h14, .ref h15, .ref h16, .ref h17, .int 0, .ref h18, .ref h19, .ref h20])), (h1, .inl (cy 1, 3918, .inl f0))]) 0 0 := by
  refine q_ent (own := RX12) (by decide) rfl (Nat.le_of_ble_eq_true rfl) (fun p e s m below meth c ls X hr hlk hnm hK h hA hl => ?_)
  obtain ⟨hx, hb, hml, hown, ht⟩ := id X
  have hl : lv_has ls 4 [(0, .ref h0), (1, .int p0), (2, .int p1)] := hl
  refine lv_aload_n hx hb dX12_talk_0 rfl (lv_at hl 0 rfl) ?_
  refine lv_iconst (v := 0) hx hb dX12_talk_1 (by decide) ?_
  refine q_put (v := .int 0) X hK h 0 rfl rfl wf_12 tyX12 tyX12_ok nmX12 0 (by decide) wm_5_170 rfl rfl rfl (Nat.le_of_ble_eq_true rfl) dX12_talk_2 (fun H locs h => ?_)
  have h : qW D _ _ [(h0, .inr (12, [.int 0, .ref h1, .ref h2, .ref h3, .ref h4, .int 0, .int 0, .int 0, .int 0, .int 0, .int 0, .int 0, .int 0, .int 0, .int (-1), .int 0, .ref h5, .ref h6, .ref h7, .ref h8, .ref h9, .int 0, .int 0, .ref h10, .ref h11, .ref h12, .int 0, .int 0, .ref h13, .ref h14, .ref h15, .ref h16, .ref h17, .int 0, .ref h18, .ref h19, .ref h20])), (h1, .inl (cy 1, 3918, .inl f0))] _ _ := h
  refine lv_aload_n hx hb dX12_talk_5 rfl (lv_at hl 0 rfl) ?_
  refine lv_iload_n hx hb dX12_talk_6 rfl (lv_at hl 1 rfl) ?_
  refine lv_i2l hx hb dX12_talk_7 rfl ?_
  refine lv_iload_n hx hb dX12_talk_8 rfl (lv_at hl 2 rfl) ?_
  refine lv_i2l hx hb dX12_talk_9 rfl ?_
  have g_5777 : (0 : Int64) ≤ ((p0).toInt64) := by
    simp only [q_lc_lt, q_lc_ge, q_lc_gt, q_lc_le, q_lc_eq, Int32.toInt_toInt64, Int64.lt_iff_toInt_lt, Int64.le_iff_toInt_le, ← Int64.toInt_inj, Int32.lt_iff_toInt_lt, Int32.le_iff_toInt_le, ← Int32.toInt_inj] at hlo_p0 ⊢
    have k_0 : (0 : Int32).toInt = 0 := by decide
    have k_g : (0 : Int64).toInt = 0 := by decide
    omega
  refine q_callVi (rest := []) (wr := []) X hK hA h (fun sz => kX12_whyTalk_455 l D cy h0 h1 ((p0).toInt64) ((p1).toInt64) h2 h3 h4 h5 h6 h7 h8 h9 h10 h11 h12 h13 h14 h15 h16 h17 h18 h19 h20 f0 g_5777 hf_f0_2 sz) wm_6_216 wm_6_219 wm_1_12 hd_X12_whyTalk wm_6_218 wp_5_15 (ci := 12) (q0 := 0) rfl rfl ⟨Nat.le_of_ble_eq_true rfl, Nat.le_of_ble_eq_true rfl⟩ hl.1 rfl (Nat.le_of_ble_eq_true rfl) dX12_talk_10 ⟨Nat.le_of_ble_eq_true rfl, Nat.le_of_ble_eq_true rfl⟩ [0, 1] [] rfl rfl (by decide) rfl rfl (fun r_5778 u_5778 H locs w_5778 h => ?_)
  obtain rfl : r_5778 = 1 := w_5778
  have h : qW D _ _ [(h0, .inr (12, [.int 0, .ref h1, .ref h2, .ref h3, .ref h4, .int 0, .int 0, .int 0, .int 0, .int 0, .int 0, .int 0, .int 0, .int 0, .int (-1), .int 0, .ref h5, .ref h6, .ref h7, .ref h8, .ref h9, .int 0, .int 0, .ref h10, .ref h11, .ref h12, .int 0, .int 0, .ref h13, .ref h14, .ref h15, .ref h16, .ref h17, .int 0, .ref h18, .ref h19, .ref h20])), (h1, .inl (cy 1, 3918, .inl f0))] _ _ := h
  refine lv_istore_n (lv' := [(3, .int 1), (0, .ref h0), (1, .int p0), (2, .int p1)]) hx hb dX12_talk_13 rfl hl (by decide) rfl (fun ls hl => ?_)
  refine lv_iload_n hx hb dX12_talk_14 rfl (lv_at hl 0 rfl) ?_
  refine lv_if_eq (tgt := 23) hx hb dX12_talk_15 (by decide) (fun c => absurd c (by decide +kernel)) (fun _ => ?_)
  refine lv_bipush (v := (-10)) hx hb dX12_talk_18 (by decide) ?_
  refine lv_iload_n hx hb dX12_talk_20 rfl (lv_at hl 0 rfl) ?_
  refine lv_isub hx hb dX12_talk_21 ?_
  refine q_c (-11) (by decide +kernel) ?_
  exact q_iret X hr hlk hK h rfl (fun _ => 0, fun _ _ => 0, fun _ _ => 0) rfl [0, 1] rfl rfl dX12_talk_22 (Nat.le_of_ble_eq_true rfl) (Nat.le_of_ble_eq_true rfl)
set_option maxHeartbeats 4000000 in
set_option maxRecDepth 100000 in
theorem kX12_whySend_457 (l : Launch) (D : va_G) (cy : Nat → ClassId) (h0 : Nat) (h1 : Nat) (j0 : Int64) (h2 : Nat) (h3 : Nat) (h4 : Nat) (h5 : Nat) (h6 : Nat) (h7 : Nat) (h8 : Nat) (h9 : Nat) (h10 : Nat) (h11 : Nat) (h12 : Nat) (h13 : Nat) (h14 : Nat) (h15 : Nat) (h16 : Nat) (h17 : Nat) (h18 : Nat) (h19 : Nat) (h20 : Nat) (f0 : Nat → Int32) (hhi_j0 : j0 ≤ ((-1) : Int64)) (hf_f0_2 : f0 (Int32.toNatClampNeg 2) = 0) (sz : Nat) : MI l yX12_whySend cX12_whySend 4 .int { frames := 2, cells := 0, slots := 0, locals := 47 } [.ref h0, .long j0, .int 1] D cy [(h0, .inr (12, [.int 0, .ref h1, .ref h2, .ref h3, .ref h4, .int 0, .int 0, .int 0, .int 0, .int 0, .int 0, .int 0, .int 0, .int 0, .int (-1), .int 0, .ref h5, .ref h6, .ref h7, .ref h8, .ref h9, .int 0, .int 0, .ref h10, .ref h11, .ref h12, .int 0, .int 0, .ref h13, .ref h14, .ref h15, .ref h16, .ref h17, .int 0, .ref h18, .ref h19, .ref h20])), (h1, .inl (cy 1, 3918, .inl f0))] sz (fun r u => r = 1) (fun u => [(h0, .inr (12, [.int 0, .ref h1, .ref h2, .ref h3, .ref h4, .int 0, .int 0, .int 0, .int 0, .int 0, .int 0, .int 0, .int 0, .int 0, .int (-1), .int 0, .ref h5, .ref h6, .ref h7, .ref h8, .ref h9, .int 0, .int 0, .ref h10, .ref h11, .ref h12, .int 0, .int 0, .ref h13, .ref h14, .ref h15, .ref h16, .ref h17, .int 0, .ref h18, .ref h19, .ref h20])), (h1, .inl (cy 1, 3918, .inl f0))]) 0 0 := by
  refine q_ent (own := RX12) (by decide) rfl (Nat.le_of_ble_eq_true rfl) (fun p e s m below meth c ls X hr hlk hnm hK h hA hl => ?_)
  obtain ⟨hx, hb, hml, hown, ht⟩ := id X
  have hl : lv_has ls 4 [(0, .ref h0), (1, .long j0), (3, .int 1)] := hl
  refine lv_aload_n hx hb dX12_whySend_0 rfl (lv_at hl 0 rfl) ?_
  refine lv_lload_n hx hb dX12_whySend_1 rfl (lv_at hl 1 rfl) ?_
  have g_5792 : j0 ≤ ((-1) : Int64) := by
    simp only [q_lc_lt, q_lc_ge, q_lc_gt, q_lc_le, q_lc_eq, Int32.toInt_toInt64, Int64.lt_iff_toInt_lt, Int64.le_iff_toInt_le, ← Int64.toInt_inj, Int32.lt_iff_toInt_lt, Int32.le_iff_toInt_le, ← Int32.toInt_inj] at hhi_j0 ⊢
    have k_0 : ((-1) : Int64).toInt = -1 := by decide
    omega
  refine q_callVi (rest := []) (wr := []) X hK hA h (fun sz => kX12_isPerson_433 l D cy h0 h1 j0 h2 h3 h4 h5 h6 h7 h8 h9 h10 h11 h12 h13 h14 h15 h16 h17 h18 h19 h20 f0 g_5792 hf_f0_2 sz) wm_6_162 wm_6_165 wm_1_12 hd_X12_isPerson wm_6_164 wp_5_8 (ci := 12) (q0 := 0) rfl rfl ⟨Nat.le_of_ble_eq_true rfl, Nat.le_of_ble_eq_true rfl⟩ hl.1 rfl (Nat.le_of_ble_eq_true rfl) dX12_whySend_2 ⟨Nat.le_of_ble_eq_true rfl, Nat.le_of_ble_eq_true rfl⟩ [0, 1] [] rfl rfl (by decide) rfl rfl (fun r_5793 u_5793 H locs w_5793 h => ?_)
  obtain rfl : r_5793 = 0 := w_5793
  have h : qW D _ _ [(h0, .inr (12, [.int 0, .ref h1, .ref h2, .ref h3, .ref h4, .int 0, .int 0, .int 0, .int 0, .int 0, .int 0, .int 0, .int 0, .int 0, .int (-1), .int 0, .ref h5, .ref h6, .ref h7, .ref h8, .ref h9, .int 0, .int 0, .ref h10, .ref h11, .ref h12, .int 0, .int 0, .ref h13, .ref h14, .ref h15, .ref h16, .ref h17, .int 0, .ref h18, .ref h19, .ref h20])), (h1, .inl (cy 1, 3918, .inl f0))] _ _ := h
  refine lv_if_ne (tgt := 12) hx hb dX12_whySend_5 (by decide) (fun c => absurd c (by decide +kernel)) (fun _ => ?_)
  refine lv_iconst (v := 1) hx hb dX12_whySend_8 (by decide) ?_
  refine lv_goto (tgt := 33) hx hb dX12_whySend_9 (by decide) ?_
  exact q_iret X hr hlk hK h rfl (fun _ => 0, fun _ _ => 0, fun _ _ => 0) rfl [0, 1] rfl rfl dX12_whySend_33 (Nat.le_of_ble_eq_true rfl) (Nat.le_of_ble_eq_true rfl)
set_option maxHeartbeats 4000000 in
set_option maxRecDepth 100000 in
theorem kX12_whySend_458 (l : Launch) (D : va_G) (cy : Nat → ClassId) (h0 : Nat) (h1 : Nat) (j0 : Int64) (h2 : Nat) (h3 : Nat) (h4 : Nat) (h5 : Nat) (h6 : Nat) (h7 : Nat) (h8 : Nat) (h9 : Nat) (h10 : Nat) (h11 : Nat) (h12 : Nat) (h13 : Nat) (h14 : Nat) (h15 : Nat) (h16 : Nat) (h17 : Nat) (h18 : Nat) (h19 : Nat) (h20 : Nat) (f1 : Nat → Int32) (hhi_j0 : j0 ≤ ((-1) : Int64)) (hf_f1_2 : f1 (Int32.toNatClampNeg 2) = 0) (sz : Nat) : MI l yX12_whySend cX12_whySend 4 .int { frames := 2, cells := 0, slots := 0, locals := 47 } [.ref h0, .long j0, .int 1] D cy [(h0, .inr (12, [.int 0, .ref h1, .ref h2, .ref h3, .ref h4, .int 0, .int 0, .int 0, .int 0, .int 0, .int 0, .int 0, .int 0, .int 0, .int (-1), .int 0, .ref h5, .ref h6, .ref h7, .ref h8, .ref h9, .int 0, .int 0, .ref h10, .ref h11, .ref h12, .int 0, .int 0, .ref h13, .ref h14, .ref h15, .ref h16, .ref h17, .int 0, .ref h18, .ref h19, .ref h20])), (h1, .inl (cy 1, 3918, .inl f1))] sz (fun r u => r = 1) (fun u => [(h0, .inr (12, [.int 0, .ref h1, .ref h2, .ref h3, .ref h4, .int 0, .int 0, .int 0, .int 0, .int 0, .int 0, .int 0, .int 0, .int 0, .int (-1), .int 0, .ref h5, .ref h6, .ref h7, .ref h8, .ref h9, .int 0, .int 0, .ref h10, .ref h11, .ref h12, .int 0, .int 0, .ref h13, .ref h14, .ref h15, .ref h16, .ref h17, .int 0, .ref h18, .ref h19, .ref h20])), (h1, .inl (cy 1, 3918, .inl f1))]) 0 0 := by
  refine q_ent (own := RX12) (by decide) rfl (Nat.le_of_ble_eq_true rfl) (fun p e s m below meth c ls X hr hlk hnm hK h hA hl => ?_)
  obtain ⟨hx, hb, hml, hown, ht⟩ := id X
  have hl : lv_has ls 4 [(0, .ref h0), (1, .long j0), (3, .int 1)] := hl
  refine lv_aload_n hx hb dX12_whySend_0 rfl (lv_at hl 0 rfl) ?_
  refine lv_lload_n hx hb dX12_whySend_1 rfl (lv_at hl 1 rfl) ?_
  have g_5809 : j0 ≤ ((-1) : Int64) := by
    simp only [q_lc_lt, q_lc_ge, q_lc_gt, q_lc_le, q_lc_eq, Int32.toInt_toInt64, Int64.lt_iff_toInt_lt, Int64.le_iff_toInt_le, ← Int64.toInt_inj, Int32.lt_iff_toInt_lt, Int32.le_iff_toInt_le, ← Int32.toInt_inj] at hhi_j0 ⊢
    have k_0 : ((-1) : Int64).toInt = -1 := by decide
    omega
  refine q_callVi (rest := []) (wr := []) X hK hA h (fun sz => kX12_isPerson_433 l D cy h0 h1 j0 h2 h3 h4 h5 h6 h7 h8 h9 h10 h11 h12 h13 h14 h15 h16 h17 h18 h19 h20 f1 g_5809 hf_f1_2 sz) wm_6_162 wm_6_165 wm_1_12 hd_X12_isPerson wm_6_164 wp_5_8 (ci := 12) (q0 := 0) rfl rfl ⟨Nat.le_of_ble_eq_true rfl, Nat.le_of_ble_eq_true rfl⟩ hl.1 rfl (Nat.le_of_ble_eq_true rfl) dX12_whySend_2 ⟨Nat.le_of_ble_eq_true rfl, Nat.le_of_ble_eq_true rfl⟩ [0, 1] [] rfl rfl (by decide) rfl rfl (fun r_5810 u_5810 H locs w_5810 h => ?_)
  obtain rfl : r_5810 = 0 := w_5810
  have h : qW D _ _ [(h0, .inr (12, [.int 0, .ref h1, .ref h2, .ref h3, .ref h4, .int 0, .int 0, .int 0, .int 0, .int 0, .int 0, .int 0, .int 0, .int 0, .int (-1), .int 0, .ref h5, .ref h6, .ref h7, .ref h8, .ref h9, .int 0, .int 0, .ref h10, .ref h11, .ref h12, .int 0, .int 0, .ref h13, .ref h14, .ref h15, .ref h16, .ref h17, .int 0, .ref h18, .ref h19, .ref h20])), (h1, .inl (cy 1, 3918, .inl f1))] _ _ := h
  refine lv_if_ne (tgt := 12) hx hb dX12_whySend_5 (by decide) (fun c => absurd c (by decide +kernel)) (fun _ => ?_)
  refine lv_iconst (v := 1) hx hb dX12_whySend_8 (by decide) ?_
  refine lv_goto (tgt := 33) hx hb dX12_whySend_9 (by decide) ?_
  exact q_iret X hr hlk hK h rfl (fun _ => 0, fun _ _ => 0, fun _ _ => 0) rfl [0, 1] rfl rfl dX12_whySend_33 (Nat.le_of_ble_eq_true rfl) (Nat.le_of_ble_eq_true rfl)
set_option maxHeartbeats 4000000 in
set_option maxRecDepth 100000 in
theorem kX12_goes_459 (l : Launch) (D : va_G) (cy : Nat → ClassId) (h0 : Nat) (h1 : Nat) (p0 : Int32) (h2 : Nat) (h3 : Nat) (h4 : Nat) (h5 : Nat) (h6 : Nat) (h7 : Nat) (h8 : Nat) (h9 : Nat) (h10 : Nat) (h11 : Nat) (h12 : Nat) (h13 : Nat) (h14 : Nat) (h15 : Nat) (h16 : Nat) (h17 : Nat) (h18 : Nat) (h19 : Nat) (h20 : Nat) (f0 : Nat → Int32) (hhi_p0 : p0 ≤ ((-1) : Int32)) (hf_f0_2 : f0 (Int32.toNatClampNeg 2) = 0) (sz : Nat) : MI l yX12_goes cX12_goes 4 .int { frames := 3, cells := 0, slots := 0, locals := 70 } [.ref h0, .int p0, .int 1] D cy [(h0, .inr (12, [.int 0, .ref h1, .ref h2, .ref h3, .ref h4, .int 0, .int 0, .int 0, .int 0, .int 0, .int 0, .int 0, .int 0, .int 0, .int (-1), .int 0, .ref h5, .ref h6, .ref h7, .ref h8, .ref h9, .int 0, .int 0, .ref h10, .ref h11, .ref h12, .int 0, .int 0, .ref h13, .ref h14, .ref h15, .ref h16, .ref h17, .int 0, .ref h18, .ref h19, .ref h20])), (h1, .inl (cy 1, 3918, .inl f0))] sz (fun r u => r = (-11)) (fun u => [(h0, .inr (12, [.int 0, .ref h1, .ref h2, .ref h3, .ref h4, .int 0, .int 0, .int 0, .int 0, .int 0, .int 0, .int 0, .int 0, .int 0, .int (-1), .int 0, .ref h5, .ref h6, .ref h7, .ref h8, .ref h9, .int 0, .int 0, .ref h10, .ref h11, .ref h12, .int 0, .int 0, .ref h13, .ref h14, .ref h15, .ref h16, .ref h17, .int 0, .ref h18, .ref h19, .ref h20])), (h1, .inl (cy 1, 3918, .inl f0))]) 0 0 := by
  refine q_ent (own := RX12) (by decide) rfl (Nat.le_of_ble_eq_true rfl) (fun p e s m below meth c ls X hr hlk hnm hK h hA hl => ?_)
  obtain ⟨hx, hb, hml, hown, ht⟩ := id X
  have hl : lv_has ls 4 [(0, .ref h0), (1, .int p0), (2, .int 1)] := hl
  refine lv_aload_n hx hb dX12_goes_0 rfl (lv_at hl 0 rfl) ?_
  refine lv_iload_n hx hb dX12_goes_1 rfl (lv_at hl 1 rfl) ?_
  refine lv_i2l hx hb dX12_goes_2 rfl ?_
  refine lv_iload_n hx hb dX12_goes_3 rfl (lv_at hl 2 rfl) ?_
  have g_5818 : ((p0).toInt64) ≤ ((-1) : Int64) := by
    simp only [q_lc_lt, q_lc_ge, q_lc_gt, q_lc_le, q_lc_eq, Int32.toInt_toInt64, Int64.lt_iff_toInt_lt, Int64.le_iff_toInt_le, ← Int64.toInt_inj, Int32.lt_iff_toInt_lt, Int32.le_iff_toInt_le, ← Int32.toInt_inj] at hhi_p0 ⊢
    have k_0 : ((-1) : Int32).toInt = -1 := by decide
    have k_g : ((-1) : Int64).toInt = -1 := by decide
    omega
  refine q_callVi (rest := []) (wr := []) X hK hA h (fun sz => kX12_whySend_458 l D cy h0 h1 ((p0).toInt64) h2 h3 h4 h5 h6 h7 h8 h9 h10 h11 h12 h13 h14 h15 h16 h17 h18 h19 h20 f0 g_5818 hf_f0_2 sz) wm_7_4 wm_7_7 wm_1_12 hd_X12_whySend wm_7_6 wp_6_5 (ci := 12) (q0 := 0) rfl rfl ⟨Nat.le_of_ble_eq_true rfl, Nat.le_of_ble_eq_true rfl⟩ hl.1 rfl (Nat.le_of_ble_eq_true rfl) dX12_goes_4 ⟨Nat.le_of_ble_eq_true rfl, Nat.le_of_ble_eq_true rfl⟩ [0, 1] [] rfl rfl (by decide) rfl rfl (fun r_5819 u_5819 H locs w_5819 h => ?_)
  obtain rfl : r_5819 = 1 := w_5819
  have h : qW D _ _ [(h0, .inr (12, [.int 0, .ref h1, .ref h2, .ref h3, .ref h4, .int 0, .int 0, .int 0, .int 0, .int 0, .int 0, .int 0, .int 0, .int 0, .int (-1), .int 0, .ref h5, .ref h6, .ref h7, .ref h8, .ref h9, .int 0, .int 0, .ref h10, .ref h11, .ref h12, .int 0, .int 0, .ref h13, .ref h14, .ref h15, .ref h16, .ref h17, .int 0, .ref h18, .ref h19, .ref h20])), (h1, .inl (cy 1, 3918, .inl f0))] _ _ := h
  refine lv_istore_n (lv' := [(3, .int 1), (0, .ref h0), (1, .int p0), (2, .int 1)]) hx hb dX12_goes_7 rfl hl (by decide) rfl (fun ls hl => ?_)
  refine lv_iload_n hx hb dX12_goes_8 rfl (lv_at hl 0 rfl) ?_
  refine lv_if_eq (tgt := 17) hx hb dX12_goes_9 (by decide) (fun c => absurd c (by decide +kernel)) (fun _ => ?_)
  refine lv_bipush (v := (-10)) hx hb dX12_goes_12 (by decide) ?_
  refine lv_iload_n hx hb dX12_goes_14 rfl (lv_at hl 0 rfl) ?_
  refine lv_isub hx hb dX12_goes_15 ?_
  refine q_c (-11) (by decide +kernel) ?_
  exact q_iret X hr hlk hK h rfl (fun _ => 0, fun _ _ => 0, fun _ _ => 0) rfl [0, 1] rfl rfl dX12_goes_16 (Nat.le_of_ble_eq_true rfl) (Nat.le_of_ble_eq_true rfl)
set_option maxHeartbeats 4000000 in
set_option maxRecDepth 100000 in
theorem kX12_goes_460 (l : Launch) (D : va_G) (cy : Nat → ClassId) (h0 : Nat) (h1 : Nat) (p0 : Int32) (h2 : Nat) (h3 : Nat) (h4 : Nat) (h5 : Nat) (h6 : Nat) (h7 : Nat) (h8 : Nat) (h9 : Nat) (h10 : Nat) (h11 : Nat) (h12 : Nat) (h13 : Nat) (h14 : Nat) (h15 : Nat) (h16 : Nat) (h17 : Nat) (h18 : Nat) (h19 : Nat) (h20 : Nat) (f1 : Nat → Int32) (hhi_p0 : p0 ≤ ((-1) : Int32)) (hf_f1_2 : f1 (Int32.toNatClampNeg 2) = 0) (sz : Nat) : MI l yX12_goes cX12_goes 4 .int { frames := 3, cells := 0, slots := 0, locals := 70 } [.ref h0, .int p0, .int 1] D cy [(h0, .inr (12, [.int 0, .ref h1, .ref h2, .ref h3, .ref h4, .int 0, .int 0, .int 0, .int 0, .int 0, .int 0, .int 0, .int 0, .int 0, .int (-1), .int 0, .ref h5, .ref h6, .ref h7, .ref h8, .ref h9, .int 0, .int 0, .ref h10, .ref h11, .ref h12, .int 0, .int 0, .ref h13, .ref h14, .ref h15, .ref h16, .ref h17, .int 0, .ref h18, .ref h19, .ref h20])), (h1, .inl (cy 1, 3918, .inl f1))] sz (fun r u => r = (-11)) (fun u => [(h0, .inr (12, [.int 0, .ref h1, .ref h2, .ref h3, .ref h4, .int 0, .int 0, .int 0, .int 0, .int 0, .int 0, .int 0, .int 0, .int 0, .int (-1), .int 0, .ref h5, .ref h6, .ref h7, .ref h8, .ref h9, .int 0, .int 0, .ref h10, .ref h11, .ref h12, .int 0, .int 0, .ref h13, .ref h14, .ref h15, .ref h16, .ref h17, .int 0, .ref h18, .ref h19, .ref h20])), (h1, .inl (cy 1, 3918, .inl f1))]) 0 0 := by
  refine q_ent (own := RX12) (by decide) rfl (Nat.le_of_ble_eq_true rfl) (fun p e s m below meth c ls X hr hlk hnm hK h hA hl => ?_)
  obtain ⟨hx, hb, hml, hown, ht⟩ := id X
  have hl : lv_has ls 4 [(0, .ref h0), (1, .int p0), (2, .int 1)] := hl
  refine lv_aload_n hx hb dX12_goes_0 rfl (lv_at hl 0 rfl) ?_
  refine lv_iload_n hx hb dX12_goes_1 rfl (lv_at hl 1 rfl) ?_
  refine lv_i2l hx hb dX12_goes_2 rfl ?_
  refine lv_iload_n hx hb dX12_goes_3 rfl (lv_at hl 2 rfl) ?_
  have g_5841 : ((p0).toInt64) ≤ ((-1) : Int64) := by
    simp only [q_lc_lt, q_lc_ge, q_lc_gt, q_lc_le, q_lc_eq, Int32.toInt_toInt64, Int64.lt_iff_toInt_lt, Int64.le_iff_toInt_le, ← Int64.toInt_inj, Int32.lt_iff_toInt_lt, Int32.le_iff_toInt_le, ← Int32.toInt_inj] at hhi_p0 ⊢
    have k_0 : ((-1) : Int32).toInt = -1 := by decide
    have k_g : ((-1) : Int64).toInt = -1 := by decide
    omega
  refine q_callVi (rest := []) (wr := []) X hK hA h (fun sz => kX12_whySend_458 l D cy h0 h1 ((p0).toInt64) h2 h3 h4 h5 h6 h7 h8 h9 h10 h11 h12 h13 h14 h15 h16 h17 h18 h19 h20 f1 g_5841 hf_f1_2 sz) wm_7_4 wm_7_7 wm_1_12 hd_X12_whySend wm_7_6 wp_6_5 (ci := 12) (q0 := 0) rfl rfl ⟨Nat.le_of_ble_eq_true rfl, Nat.le_of_ble_eq_true rfl⟩ hl.1 rfl (Nat.le_of_ble_eq_true rfl) dX12_goes_4 ⟨Nat.le_of_ble_eq_true rfl, Nat.le_of_ble_eq_true rfl⟩ [0, 1] [] rfl rfl (by decide) rfl rfl (fun r_5842 u_5842 H locs w_5842 h => ?_)
  obtain rfl : r_5842 = 1 := w_5842
  have h : qW D _ _ [(h0, .inr (12, [.int 0, .ref h1, .ref h2, .ref h3, .ref h4, .int 0, .int 0, .int 0, .int 0, .int 0, .int 0, .int 0, .int 0, .int 0, .int (-1), .int 0, .ref h5, .ref h6, .ref h7, .ref h8, .ref h9, .int 0, .int 0, .ref h10, .ref h11, .ref h12, .int 0, .int 0, .ref h13, .ref h14, .ref h15, .ref h16, .ref h17, .int 0, .ref h18, .ref h19, .ref h20])), (h1, .inl (cy 1, 3918, .inl f1))] _ _ := h
  refine lv_istore_n (lv' := [(3, .int 1), (0, .ref h0), (1, .int p0), (2, .int 1)]) hx hb dX12_goes_7 rfl hl (by decide) rfl (fun ls hl => ?_)
  refine lv_iload_n hx hb dX12_goes_8 rfl (lv_at hl 0 rfl) ?_
  refine lv_if_eq (tgt := 17) hx hb dX12_goes_9 (by decide) (fun c => absurd c (by decide +kernel)) (fun _ => ?_)
  refine lv_bipush (v := (-10)) hx hb dX12_goes_12 (by decide) ?_
  refine lv_iload_n hx hb dX12_goes_14 rfl (lv_at hl 0 rfl) ?_
  refine lv_isub hx hb dX12_goes_15 ?_
  refine q_c (-11) (by decide +kernel) ?_
  exact q_iret X hr hlk hK h rfl (fun _ => 0, fun _ _ => 0, fun _ _ => 0) rfl [0, 1] rfl rfl dX12_goes_16 (Nat.le_of_ble_eq_true rfl) (Nat.le_of_ble_eq_true rfl)
set_option maxHeartbeats 4000000 in
set_option maxRecDepth 100000 in
theorem kX12_send_461 (l : Launch) (D : va_G) (cy : Nat → ClassId) (h0 : Nat) (h1 : Nat) (p0 : Int32) (h2 : Nat) (h3 : Nat) (h4 : Nat) (h5 : Nat) (h6 : Nat) (h7 : Nat) (h8 : Nat) (h9 : Nat) (h10 : Nat) (h11 : Nat) (h12 : Nat) (h13 : Nat) (h14 : Nat) (h15 : Nat) (h16 : Nat) (h17 : Nat) (h18 : Nat) (h19 : Nat) (h20 : Nat) (f0 : Nat → Int32) (hhi_p0 : p0 ≤ ((-1) : Int32)) (hf_f0_2 : f0 (Int32.toNatClampNeg 2) = 0) (sz : Nat) : MI l yX12_send cX12_send 2 .int { frames := 4, cells := 0, slots := 0, locals := 93 } [.ref h0, .int p0] D cy [(h0, .inr (12, [.int 0, .ref h1, .ref h2, .ref h3, .ref h4, .int 0, .int 0, .int 0, .int 0, .int 0, .int 0, .int 0, .int 0, .int 0, .int (-1), .int 0, .ref h5, .ref h6, .ref h7, .ref h8, .ref h9, .int 0, .int 0, .ref h10, .ref h11, .ref h12, .int 0, .int 0, .ref h13, .ref h14, .ref h15, .ref h16, .ref h17, .int 0, .ref h18, .ref h19, .ref h20])), (h1, .inl (cy 1, 3918, .inl f0))] sz (fun r u => r = (-11)) (fun u => [(h0, .inr (12, [.int 0, .ref h1, .ref h2, .ref h3, .ref h4, .int 0, .int 0, .int 0, .int 0, .int 0, .int 0, .int 0, .int 0, .int 0, .int (-1), .int 0, .ref h5, .ref h6, .ref h7, .ref h8, .ref h9, .int 0, .int 0, .ref h10, .ref h11, .ref h12, .int 0, .int 0, .ref h13, .ref h14, .ref h15, .ref h16, .ref h17, .int 0, .ref h18, .ref h19, .ref h20])), (h1, .inl (cy 1, 3918, .inl f0))]) 0 0 := by
  refine q_ent (own := RX12) (by decide) rfl (Nat.le_of_ble_eq_true rfl) (fun p e s m below meth c ls X hr hlk hnm hK h hA hl => ?_)
  obtain ⟨hx, hb, hml, hown, ht⟩ := id X
  have hl : lv_has ls 2 [(0, .ref h0), (1, .int p0)] := hl
  refine lv_aload_n hx hb dX12_send_0 rfl (lv_at hl 0 rfl) ?_
  refine lv_iconst (v := 0) hx hb dX12_send_1 (by decide) ?_
  refine q_put (v := .int 0) X hK h 0 rfl rfl wf_12 tyX12 tyX12_ok nmX12 0 (by decide) wm_5_170 rfl rfl rfl (Nat.le_of_ble_eq_true rfl) dX12_send_2 (fun H locs h => ?_)
  have h : qW D _ _ [(h0, .inr (12, [.int 0, .ref h1, .ref h2, .ref h3, .ref h4, .int 0, .int 0, .int 0, .int 0, .int 0, .int 0, .int 0, .int 0, .int 0, .int (-1), .int 0, .ref h5, .ref h6, .ref h7, .ref h8, .ref h9, .int 0, .int 0, .ref h10, .ref h11, .ref h12, .int 0, .int 0, .ref h13, .ref h14, .ref h15, .ref h16, .ref h17, .int 0, .ref h18, .ref h19, .ref h20])), (h1, .inl (cy 1, 3918, .inl f0))] _ _ := h
  refine lv_aload_n hx hb dX12_send_5 rfl (lv_at hl 0 rfl) ?_
  refine lv_iload_n hx hb dX12_send_6 rfl (lv_at hl 1 rfl) ?_
  refine lv_iconst (v := 1) hx hb dX12_send_7 (by decide) ?_
  have g_5852 : p0 ≤ ((-1) : Int32) := by
    simp only [Int32.lt_iff_toInt_lt, Int32.le_iff_toInt_le, ← Int32.toInt_inj] at hhi_p0 ⊢
    have k_0 : ((-1) : Int32).toInt = -1 := by decide
    omega
  refine q_callVi (rest := []) (wr := []) X hK hA h (fun sz => kX12_goes_460 l D cy h0 h1 p0 h2 h3 h4 h5 h6 h7 h8 h9 h10 h11 h12 h13 h14 h15 h16 h17 h18 h19 h20 f0 g_5852 hf_f0_2 sz) wm_7_0 wm_7_3 wm_1_12 hd_X12_goes wm_7_2 wp_6_4 (ci := 12) (q0 := 0) rfl rfl ⟨Nat.le_of_ble_eq_true rfl, Nat.le_of_ble_eq_true rfl⟩ hl.1 rfl (Nat.le_of_ble_eq_true rfl) dX12_send_8 ⟨Nat.le_of_ble_eq_true rfl, Nat.le_of_ble_eq_true rfl⟩ [0, 1] [] rfl rfl (by decide) rfl rfl (fun r_5853 u_5853 H locs w_5853 h => ?_)
  obtain rfl : r_5853 = (-11) := w_5853
  have h : qW D _ _ [(h0, .inr (12, [.int 0, .ref h1, .ref h2, .ref h3, .ref h4, .int 0, .int 0, .int 0, .int 0, .int 0, .int 0, .int 0, .int 0, .int 0, .int (-1), .int 0, .ref h5, .ref h6, .ref h7, .ref h8, .ref h9, .int 0, .int 0, .ref h10, .ref h11, .ref h12, .int 0, .int 0, .ref h13, .ref h14, .ref h15, .ref h16, .ref h17, .int 0, .ref h18, .ref h19, .ref h20])), (h1, .inl (cy 1, 3918, .inl f0))] _ _ := h
  exact q_iret X hr hlk hK h rfl (fun _ => 0, fun _ _ => 0, fun _ _ => 0) rfl [0, 1] rfl rfl dX12_send_11 (Nat.le_of_ble_eq_true rfl) (Nat.le_of_ble_eq_true rfl)
set_option maxHeartbeats 4000000 in
set_option maxRecDepth 100000 in
theorem kX12_whySend_462 (l : Launch) (D : va_G) (cy : Nat → ClassId) (h0 : Nat) (h1 : Nat) (j0 : Int64) (h2 : Nat) (h3 : Nat) (h4 : Nat) (h5 : Nat) (h6 : Nat) (h7 : Nat) (h8 : Nat) (h9 : Nat) (h10 : Nat) (h11 : Nat) (h12 : Nat) (h13 : Nat) (h14 : Nat) (h15 : Nat) (h16 : Nat) (h17 : Nat) (h18 : Nat) (h19 : Nat) (h20 : Nat) (f0 : Nat → Int32) (hlo_j0 : (0 : Int64) ≤ j0) (hf_f0_2 : f0 (Int32.toNatClampNeg 2) = 0) (sz : Nat) : MI l yX12_whySend cX12_whySend 4 .int { frames := 2, cells := 0, slots := 0, locals := 47 } [.ref h0, .long j0, .int 1] D cy [(h0, .inr (12, [.int 0, .ref h1, .ref h2, .ref h3, .ref h4, .int 0, .int 0, .int 0, .int 0, .int 0, .int 0, .int 0, .int 0, .int 0, .int (-1), .int 0, .ref h5, .ref h6, .ref h7, .ref h8, .ref h9, .int 0, .int 0, .ref h10, .ref h11, .ref h12, .int 0, .int 0, .ref h13, .ref h14, .ref h15, .ref h16, .ref h17, .int 0, .ref h18, .ref h19, .ref h20])), (h1, .inl (cy 1, 3918, .inl f0))] sz (fun r u => r = 1) (fun u => [(h0, .inr (12, [.int 0, .ref h1, .ref h2, .ref h3, .ref h4, .int 0, .int 0, .int 0, .int 0, .int 0, .int 0, .int 0, .int 0, .int 0, .int (-1), .int 0, .ref h5, .ref h6, .ref h7, .ref h8, .ref h9, .int 0, .int 0, .ref h10, .ref h11, .ref h12, .int 0, .int 0, .ref h13, .ref h14, .ref h15, .ref h16, .ref h17, .int 0, .ref h18, .ref h19, .ref h20])), (h1, .inl (cy 1, 3918, .inl f0))]) 0 0 := by
  refine q_ent (own := RX12) (by decide) rfl (Nat.le_of_ble_eq_true rfl) (fun p e s m below meth c ls X hr hlk hnm hK h hA hl => ?_)
  obtain ⟨hx, hb, hml, hown, ht⟩ := id X
  have hl : lv_has ls 4 [(0, .ref h0), (1, .long j0), (3, .int 1)] := hl
  refine lv_aload_n hx hb dX12_whySend_0 rfl (lv_at hl 0 rfl) ?_
  refine lv_lload_n hx hb dX12_whySend_1 rfl (lv_at hl 1 rfl) ?_
  have g_5870 : (0 : Int64) ≤ j0 := by
    simp only [q_lc_lt, q_lc_ge, q_lc_gt, q_lc_le, q_lc_eq, Int32.toInt_toInt64, Int64.lt_iff_toInt_lt, Int64.le_iff_toInt_le, ← Int64.toInt_inj, Int32.lt_iff_toInt_lt, Int32.le_iff_toInt_le, ← Int32.toInt_inj] at hlo_j0 ⊢
    have k_0 : (0 : Int64).toInt = 0 := by decide
    omega
  refine q_callVi (rest := []) (wr := []) X hK hA h (fun sz => kX12_isPerson_437 l D cy h0 h1 j0 h2 h3 h4 h5 h6 h7 h8 h9 h10 h11 h12 h13 h14 h15 h16 h17 h18 h19 h20 f0 g_5870 hf_f0_2 sz) wm_6_162 wm_6_165 wm_1_12 hd_X12_isPerson wm_6_164 wp_5_8 (ci := 12) (q0 := 0) rfl rfl ⟨Nat.le_of_ble_eq_true rfl, Nat.le_of_ble_eq_true rfl⟩ hl.1 rfl (Nat.le_of_ble_eq_true rfl) dX12_whySend_2 ⟨Nat.le_of_ble_eq_true rfl, Nat.le_of_ble_eq_true rfl⟩ [0, 1] [] rfl rfl (by decide) rfl rfl (fun r_5871 u_5871 H locs w_5871 h => ?_)
  obtain rfl : r_5871 = 0 := w_5871
  have h : qW D _ _ [(h0, .inr (12, [.int 0, .ref h1, .ref h2, .ref h3, .ref h4, .int 0, .int 0, .int 0, .int 0, .int 0, .int 0, .int 0, .int 0, .int 0, .int (-1), .int 0, .ref h5, .ref h6, .ref h7, .ref h8, .ref h9, .int 0, .int 0, .ref h10, .ref h11, .ref h12, .int 0, .int 0, .ref h13, .ref h14, .ref h15, .ref h16, .ref h17, .int 0, .ref h18, .ref h19, .ref h20])), (h1, .inl (cy 1, 3918, .inl f0))] _ _ := h
  refine lv_if_ne (tgt := 12) hx hb dX12_whySend_5 (by decide) (fun c => absurd c (by decide +kernel)) (fun _ => ?_)
  refine lv_iconst (v := 1) hx hb dX12_whySend_8 (by decide) ?_
  refine lv_goto (tgt := 33) hx hb dX12_whySend_9 (by decide) ?_
  exact q_iret X hr hlk hK h rfl (fun _ => 0, fun _ _ => 0, fun _ _ => 0) rfl [0, 1] rfl rfl dX12_whySend_33 (Nat.le_of_ble_eq_true rfl) (Nat.le_of_ble_eq_true rfl)
set_option maxHeartbeats 4000000 in
set_option maxRecDepth 100000 in
theorem kX12_whySend_463 (l : Launch) (D : va_G) (cy : Nat → ClassId) (h0 : Nat) (h1 : Nat) (j0 : Int64) (h2 : Nat) (h3 : Nat) (h4 : Nat) (h5 : Nat) (h6 : Nat) (h7 : Nat) (h8 : Nat) (h9 : Nat) (h10 : Nat) (h11 : Nat) (h12 : Nat) (h13 : Nat) (h14 : Nat) (h15 : Nat) (h16 : Nat) (h17 : Nat) (h18 : Nat) (h19 : Nat) (h20 : Nat) (f1 : Nat → Int32) (hlo_j0 : (0 : Int64) ≤ j0) (hf_f1_2 : f1 (Int32.toNatClampNeg 2) = 0) (sz : Nat) : MI l yX12_whySend cX12_whySend 4 .int { frames := 2, cells := 0, slots := 0, locals := 47 } [.ref h0, .long j0, .int 1] D cy [(h0, .inr (12, [.int 0, .ref h1, .ref h2, .ref h3, .ref h4, .int 0, .int 0, .int 0, .int 0, .int 0, .int 0, .int 0, .int 0, .int 0, .int (-1), .int 0, .ref h5, .ref h6, .ref h7, .ref h8, .ref h9, .int 0, .int 0, .ref h10, .ref h11, .ref h12, .int 0, .int 0, .ref h13, .ref h14, .ref h15, .ref h16, .ref h17, .int 0, .ref h18, .ref h19, .ref h20])), (h1, .inl (cy 1, 3918, .inl f1))] sz (fun r u => r = 1) (fun u => [(h0, .inr (12, [.int 0, .ref h1, .ref h2, .ref h3, .ref h4, .int 0, .int 0, .int 0, .int 0, .int 0, .int 0, .int 0, .int 0, .int 0, .int (-1), .int 0, .ref h5, .ref h6, .ref h7, .ref h8, .ref h9, .int 0, .int 0, .ref h10, .ref h11, .ref h12, .int 0, .int 0, .ref h13, .ref h14, .ref h15, .ref h16, .ref h17, .int 0, .ref h18, .ref h19, .ref h20])), (h1, .inl (cy 1, 3918, .inl f1))]) 0 0 := by
  refine q_ent (own := RX12) (by decide) rfl (Nat.le_of_ble_eq_true rfl) (fun p e s m below meth c ls X hr hlk hnm hK h hA hl => ?_)
  obtain ⟨hx, hb, hml, hown, ht⟩ := id X
  have hl : lv_has ls 4 [(0, .ref h0), (1, .long j0), (3, .int 1)] := hl
  refine lv_aload_n hx hb dX12_whySend_0 rfl (lv_at hl 0 rfl) ?_
  refine lv_lload_n hx hb dX12_whySend_1 rfl (lv_at hl 1 rfl) ?_
  have g_5890 : (0 : Int64) ≤ j0 := by
    simp only [q_lc_lt, q_lc_ge, q_lc_gt, q_lc_le, q_lc_eq, Int32.toInt_toInt64, Int64.lt_iff_toInt_lt, Int64.le_iff_toInt_le, ← Int64.toInt_inj, Int32.lt_iff_toInt_lt, Int32.le_iff_toInt_le, ← Int32.toInt_inj] at hlo_j0 ⊢
    have k_0 : (0 : Int64).toInt = 0 := by decide
    omega
  refine q_callVi (rest := []) (wr := []) X hK hA h (fun sz => kX12_isPerson_437 l D cy h0 h1 j0 h2 h3 h4 h5 h6 h7 h8 h9 h10 h11 h12 h13 h14 h15 h16 h17 h18 h19 h20 f1 g_5890 hf_f1_2 sz) wm_6_162 wm_6_165 wm_1_12 hd_X12_isPerson wm_6_164 wp_5_8 (ci := 12) (q0 := 0) rfl rfl ⟨Nat.le_of_ble_eq_true rfl, Nat.le_of_ble_eq_true rfl⟩ hl.1 rfl (Nat.le_of_ble_eq_true rfl) dX12_whySend_2 ⟨Nat.le_of_ble_eq_true rfl, Nat.le_of_ble_eq_true rfl⟩ [0, 1] [] rfl rfl (by decide) rfl rfl (fun r_5891 u_5891 H locs w_5891 h => ?_)
  obtain rfl : r_5891 = 0 := w_5891
  have h : qW D _ _ [(h0, .inr (12, [.int 0, .ref h1, .ref h2, .ref h3, .ref h4, .int 0, .int 0, .int 0, .int 0, .int 0, .int 0, .int 0, .int 0, .int 0, .int (-1), .int 0, .ref h5, .ref h6, .ref h7, .ref h8, .ref h9, .int 0, .int 0, .ref h10, .ref h11, .ref h12, .int 0, .int 0, .ref h13, .ref h14, .ref h15, .ref h16, .ref h17, .int 0, .ref h18, .ref h19, .ref h20])), (h1, .inl (cy 1, 3918, .inl f1))] _ _ := h
  refine lv_if_ne (tgt := 12) hx hb dX12_whySend_5 (by decide) (fun c => absurd c (by decide +kernel)) (fun _ => ?_)
  refine lv_iconst (v := 1) hx hb dX12_whySend_8 (by decide) ?_
  refine lv_goto (tgt := 33) hx hb dX12_whySend_9 (by decide) ?_
  exact q_iret X hr hlk hK h rfl (fun _ => 0, fun _ _ => 0, fun _ _ => 0) rfl [0, 1] rfl rfl dX12_whySend_33 (Nat.le_of_ble_eq_true rfl) (Nat.le_of_ble_eq_true rfl)
set_option maxHeartbeats 4000000 in
set_option maxRecDepth 100000 in
theorem kX12_goes_464 (l : Launch) (D : va_G) (cy : Nat → ClassId) (h0 : Nat) (h1 : Nat) (p0 : Int32) (h2 : Nat) (h3 : Nat) (h4 : Nat) (h5 : Nat) (h6 : Nat) (h7 : Nat) (h8 : Nat) (h9 : Nat) (h10 : Nat) (h11 : Nat) (h12 : Nat) (h13 : Nat) (h14 : Nat) (h15 : Nat) (h16 : Nat) (h17 : Nat) (h18 : Nat) (h19 : Nat) (h20 : Nat) (f0 : Nat → Int32) (hlo_p0 : (0 : Int32) ≤ p0) (hf_f0_2 : f0 (Int32.toNatClampNeg 2) = 0) (sz : Nat) : MI l yX12_goes cX12_goes 4 .int { frames := 3, cells := 0, slots := 0, locals := 70 } [.ref h0, .int p0, .int 1] D cy [(h0, .inr (12, [.int 0, .ref h1, .ref h2, .ref h3, .ref h4, .int 0, .int 0, .int 0, .int 0, .int 0, .int 0, .int 0, .int 0, .int 0, .int (-1), .int 0, .ref h5, .ref h6, .ref h7, .ref h8, .ref h9, .int 0, .int 0, .ref h10, .ref h11, .ref h12, .int 0, .int 0, .ref h13, .ref h14, .ref h15, .ref h16, .ref h17, .int 0, .ref h18, .ref h19, .ref h20])), (h1, .inl (cy 1, 3918, .inl f0))] sz (fun r u => r = (-11)) (fun u => [(h0, .inr (12, [.int 0, .ref h1, .ref h2, .ref h3, .ref h4, .int 0, .int 0, .int 0, .int 0, .int 0, .int 0, .int 0, .int 0, .int 0, .int (-1), .int 0, .ref h5, .ref h6, .ref h7, .ref h8, .ref h9, .int 0, .int 0, .ref h10, .ref h11, .ref h12, .int 0, .int 0, .ref h13, .ref h14, .ref h15, .ref h16, .ref h17, .int 0, .ref h18, .ref h19, .ref h20])), (h1, .inl (cy 1, 3918, .inl f0))]) 0 0 := by
  refine q_ent (own := RX12) (by decide) rfl (Nat.le_of_ble_eq_true rfl) (fun p e s m below meth c ls X hr hlk hnm hK h hA hl => ?_)
  obtain ⟨hx, hb, hml, hown, ht⟩ := id X
  have hl : lv_has ls 4 [(0, .ref h0), (1, .int p0), (2, .int 1)] := hl
  refine lv_aload_n hx hb dX12_goes_0 rfl (lv_at hl 0 rfl) ?_
  refine lv_iload_n hx hb dX12_goes_1 rfl (lv_at hl 1 rfl) ?_
  refine lv_i2l hx hb dX12_goes_2 rfl ?_
  refine lv_iload_n hx hb dX12_goes_3 rfl (lv_at hl 2 rfl) ?_
  have g_5900 : (0 : Int64) ≤ ((p0).toInt64) := by
    simp only [q_lc_lt, q_lc_ge, q_lc_gt, q_lc_le, q_lc_eq, Int32.toInt_toInt64, Int64.lt_iff_toInt_lt, Int64.le_iff_toInt_le, ← Int64.toInt_inj, Int32.lt_iff_toInt_lt, Int32.le_iff_toInt_le, ← Int32.toInt_inj] at hlo_p0 ⊢
    have k_0 : (0 : Int32).toInt = 0 := by decide
    have k_g : (0 : Int64).toInt = 0 := by decide
    omega
  refine q_callVi (rest := []) (wr := []) X hK hA h (fun sz => kX12_whySend_463 l D cy h0 h1 ((p0).toInt64) h2 h3 h4 h5 h6 h7 h8 h9 h10 h11 h12 h13 h14 h15 h16 h17 h18 h19 h20 f0 g_5900 hf_f0_2 sz) wm_7_4 wm_7_7 wm_1_12 hd_X12_whySend wm_7_6 wp_6_5 (ci := 12) (q0 := 0) rfl rfl ⟨Nat.le_of_ble_eq_true rfl, Nat.le_of_ble_eq_true rfl⟩ hl.1 rfl (Nat.le_of_ble_eq_true rfl) dX12_goes_4 ⟨Nat.le_of_ble_eq_true rfl, Nat.le_of_ble_eq_true rfl⟩ [0, 1] [] rfl rfl (by decide) rfl rfl (fun r_5901 u_5901 H locs w_5901 h => ?_)
  obtain rfl : r_5901 = 1 := w_5901
  have h : qW D _ _ [(h0, .inr (12, [.int 0, .ref h1, .ref h2, .ref h3, .ref h4, .int 0, .int 0, .int 0, .int 0, .int 0, .int 0, .int 0, .int 0, .int 0, .int (-1), .int 0, .ref h5, .ref h6, .ref h7, .ref h8, .ref h9, .int 0, .int 0, .ref h10, .ref h11, .ref h12, .int 0, .int 0, .ref h13, .ref h14, .ref h15, .ref h16, .ref h17, .int 0, .ref h18, .ref h19, .ref h20])), (h1, .inl (cy 1, 3918, .inl f0))] _ _ := h
  refine lv_istore_n (lv' := [(3, .int 1), (0, .ref h0), (1, .int p0), (2, .int 1)]) hx hb dX12_goes_7 rfl hl (by decide) rfl (fun ls hl => ?_)
  refine lv_iload_n hx hb dX12_goes_8 rfl (lv_at hl 0 rfl) ?_
  refine lv_if_eq (tgt := 17) hx hb dX12_goes_9 (by decide) (fun c => absurd c (by decide +kernel)) (fun _ => ?_)
  refine lv_bipush (v := (-10)) hx hb dX12_goes_12 (by decide) ?_
  refine lv_iload_n hx hb dX12_goes_14 rfl (lv_at hl 0 rfl) ?_
  refine lv_isub hx hb dX12_goes_15 ?_
  refine q_c (-11) (by decide +kernel) ?_
  exact q_iret X hr hlk hK h rfl (fun _ => 0, fun _ _ => 0, fun _ _ => 0) rfl [0, 1] rfl rfl dX12_goes_16 (Nat.le_of_ble_eq_true rfl) (Nat.le_of_ble_eq_true rfl)
set_option maxHeartbeats 4000000 in
set_option maxRecDepth 100000 in
theorem kX12_goes_465 (l : Launch) (D : va_G) (cy : Nat → ClassId) (h0 : Nat) (h1 : Nat) (p0 : Int32) (h2 : Nat) (h3 : Nat) (h4 : Nat) (h5 : Nat) (h6 : Nat) (h7 : Nat) (h8 : Nat) (h9 : Nat) (h10 : Nat) (h11 : Nat) (h12 : Nat) (h13 : Nat) (h14 : Nat) (h15 : Nat) (h16 : Nat) (h17 : Nat) (h18 : Nat) (h19 : Nat) (h20 : Nat) (f1 : Nat → Int32) (hlo_p0 : (0 : Int32) ≤ p0) (hf_f1_2 : f1 (Int32.toNatClampNeg 2) = 0) (sz : Nat) : MI l yX12_goes cX12_goes 4 .int { frames := 3, cells := 0, slots := 0, locals := 70 } [.ref h0, .int p0, .int 1] D cy [(h0, .inr (12, [.int 0, .ref h1, .ref h2, .ref h3, .ref h4, .int 0, .int 0, .int 0, .int 0, .int 0, .int 0, .int 0, .int 0, .int 0, .int (-1), .int 0, .ref h5, .ref h6, .ref h7, .ref h8, .ref h9, .int 0, .int 0, .ref h10, .ref h11, .ref h12, .int 0, .int 0, .ref h13, .ref h14, .ref h15, .ref h16, .ref h17, .int 0, .ref h18, .ref h19, .ref h20])), (h1, .inl (cy 1, 3918, .inl f1))] sz (fun r u => r = (-11)) (fun u => [(h0, .inr (12, [.int 0, .ref h1, .ref h2, .ref h3, .ref h4, .int 0, .int 0, .int 0, .int 0, .int 0, .int 0, .int 0, .int 0, .int 0, .int (-1), .int 0, .ref h5, .ref h6, .ref h7, .ref h8, .ref h9, .int 0, .int 0, .ref h10, .ref h11, .ref h12, .int 0, .int 0, .ref h13, .ref h14, .ref h15, .ref h16, .ref h17, .int 0, .ref h18, .ref h19, .ref h20])), (h1, .inl (cy 1, 3918, .inl f1))]) 0 0 := by
  refine q_ent (own := RX12) (by decide) rfl (Nat.le_of_ble_eq_true rfl) (fun p e s m below meth c ls X hr hlk hnm hK h hA hl => ?_)
  obtain ⟨hx, hb, hml, hown, ht⟩ := id X
  have hl : lv_has ls 4 [(0, .ref h0), (1, .int p0), (2, .int 1)] := hl
  refine lv_aload_n hx hb dX12_goes_0 rfl (lv_at hl 0 rfl) ?_
  refine lv_iload_n hx hb dX12_goes_1 rfl (lv_at hl 1 rfl) ?_
  refine lv_i2l hx hb dX12_goes_2 rfl ?_
  refine lv_iload_n hx hb dX12_goes_3 rfl (lv_at hl 2 rfl) ?_
  have g_5926 : (0 : Int64) ≤ ((p0).toInt64) := by
    simp only [q_lc_lt, q_lc_ge, q_lc_gt, q_lc_le, q_lc_eq, Int32.toInt_toInt64, Int64.lt_iff_toInt_lt, Int64.le_iff_toInt_le, ← Int64.toInt_inj, Int32.lt_iff_toInt_lt, Int32.le_iff_toInt_le, ← Int32.toInt_inj] at hlo_p0 ⊢
    have k_0 : (0 : Int32).toInt = 0 := by decide
    have k_g : (0 : Int64).toInt = 0 := by decide
    omega
  refine q_callVi (rest := []) (wr := []) X hK hA h (fun sz => kX12_whySend_463 l D cy h0 h1 ((p0).toInt64) h2 h3 h4 h5 h6 h7 h8 h9 h10 h11 h12 h13 h14 h15 h16 h17 h18 h19 h20 f1 g_5926 hf_f1_2 sz) wm_7_4 wm_7_7 wm_1_12 hd_X12_whySend wm_7_6 wp_6_5 (ci := 12) (q0 := 0) rfl rfl ⟨Nat.le_of_ble_eq_true rfl, Nat.le_of_ble_eq_true rfl⟩ hl.1 rfl (Nat.le_of_ble_eq_true rfl) dX12_goes_4 ⟨Nat.le_of_ble_eq_true rfl, Nat.le_of_ble_eq_true rfl⟩ [0, 1] [] rfl rfl (by decide) rfl rfl (fun r_5927 u_5927 H locs w_5927 h => ?_)
  obtain rfl : r_5927 = 1 := w_5927
  have h : qW D _ _ [(h0, .inr (12, [.int 0, .ref h1, .ref h2, .ref h3, .ref h4, .int 0, .int 0, .int 0, .int 0, .int 0, .int 0, .int 0, .int 0, .int 0, .int (-1), .int 0, .ref h5, .ref h6, .ref h7, .ref h8, .ref h9, .int 0, .int 0, .ref h10, .ref h11, .ref h12, .int 0, .int 0, .ref h13, .ref h14, .ref h15, .ref h16, .ref h17, .int 0, .ref h18, .ref h19, .ref h20])), (h1, .inl (cy 1, 3918, .inl f1))] _ _ := h
  refine lv_istore_n (lv' := [(3, .int 1), (0, .ref h0), (1, .int p0), (2, .int 1)]) hx hb dX12_goes_7 rfl hl (by decide) rfl (fun ls hl => ?_)
  refine lv_iload_n hx hb dX12_goes_8 rfl (lv_at hl 0 rfl) ?_
  refine lv_if_eq (tgt := 17) hx hb dX12_goes_9 (by decide) (fun c => absurd c (by decide +kernel)) (fun _ => ?_)
  refine lv_bipush (v := (-10)) hx hb dX12_goes_12 (by decide) ?_
  refine lv_iload_n hx hb dX12_goes_14 rfl (lv_at hl 0 rfl) ?_
  refine lv_isub hx hb dX12_goes_15 ?_
  refine q_c (-11) (by decide +kernel) ?_
  exact q_iret X hr hlk hK h rfl (fun _ => 0, fun _ _ => 0, fun _ _ => 0) rfl [0, 1] rfl rfl dX12_goes_16 (Nat.le_of_ble_eq_true rfl) (Nat.le_of_ble_eq_true rfl)
set_option maxHeartbeats 4000000 in
set_option maxRecDepth 100000 in
theorem kX12_send_466 (l : Launch) (D : va_G) (cy : Nat → ClassId) (h0 : Nat) (h1 : Nat) (p0 : Int32) (h2 : Nat) (h3 : Nat) (h4 : Nat) (h5 : Nat) (h6 : Nat) (h7 : Nat) (h8 : Nat) (h9 : Nat) (h10 : Nat) (h11 : Nat) (h12 : Nat) (h13 : Nat) (h14 : Nat) (h15 : Nat) (h16 : Nat) (h17 : Nat) (h18 : Nat) (h19 : Nat) (h20 : Nat) (f0 : Nat → Int32) (hlo_p0 : (0 : Int32) ≤ p0) (hf_f0_2 : f0 (Int32.toNatClampNeg 2) = 0) (sz : Nat) : MI l yX12_send cX12_send 2 .int { frames := 4, cells := 0, slots := 0, locals := 93 } [.ref h0, .int p0] D cy [(h0, .inr (12, [.int 0, .ref h1, .ref h2, .ref h3, .ref h4, .int 0, .int 0, .int 0, .int 0, .int 0, .int 0, .int 0, .int 0, .int 0, .int (-1), .int 0, .ref h5, .ref h6, .ref h7, .ref h8, .ref h9, .int 0, .int 0, .ref h10, .ref h11, .ref h12, .int 0, .int 0, .ref h13, .ref h14, .ref h15, .ref h16, .ref h17, .int 0, .ref h18, .ref h19, .ref h20])), (h1, .inl (cy 1, 3918, .inl f0))] sz (fun r u => r = (-11)) (fun u => [(h0, .inr (12, [.int 0, .ref h1, .ref h2, .ref h3, .ref h4, .int 0, .int 0, .int 0, .int 0, .int 0, .int 0, .int 0, .int 0, .int 0, .int (-1), .int 0, .ref h5, .ref h6, .ref h7, .ref h8, .ref h9, .int 0, .int 0, .ref h10, .ref h11, .ref h12, .int 0, .int 0, .ref h13, .ref h14, .ref h15, .ref h16, .ref h17, .int 0, .ref h18, .ref h19, .ref h20])), (h1, .inl (cy 1, 3918, .inl f0))]) 0 0 := by
  refine q_ent (own := RX12) (by decide) rfl (Nat.le_of_ble_eq_true rfl) (fun p e s m below meth c ls X hr hlk hnm hK h hA hl => ?_)
  obtain ⟨hx, hb, hml, hown, ht⟩ := id X
  have hl : lv_has ls 2 [(0, .ref h0), (1, .int p0)] := hl
  refine lv_aload_n hx hb dX12_send_0 rfl (lv_at hl 0 rfl) ?_
  refine lv_iconst (v := 0) hx hb dX12_send_1 (by decide) ?_
  refine q_put (v := .int 0) X hK h 0 rfl rfl wf_12 tyX12 tyX12_ok nmX12 0 (by decide) wm_5_170 rfl rfl rfl (Nat.le_of_ble_eq_true rfl) dX12_send_2 (fun H locs h => ?_)
  have h : qW D _ _ [(h0, .inr (12, [.int 0, .ref h1, .ref h2, .ref h3, .ref h4, .int 0, .int 0, .int 0, .int 0, .int 0, .int 0, .int 0, .int 0, .int 0, .int (-1), .int 0, .ref h5, .ref h6, .ref h7, .ref h8, .ref h9, .int 0, .int 0, .ref h10, .ref h11, .ref h12, .int 0, .int 0, .ref h13, .ref h14, .ref h15, .ref h16, .ref h17, .int 0, .ref h18, .ref h19, .ref h20])), (h1, .inl (cy 1, 3918, .inl f0))] _ _ := h
  refine lv_aload_n hx hb dX12_send_5 rfl (lv_at hl 0 rfl) ?_
  refine lv_iload_n hx hb dX12_send_6 rfl (lv_at hl 1 rfl) ?_
  refine lv_iconst (v := 1) hx hb dX12_send_7 (by decide) ?_
  have g_5938 : (0 : Int32) ≤ p0 := by
    simp only [Int32.lt_iff_toInt_lt, Int32.le_iff_toInt_le, ← Int32.toInt_inj] at hlo_p0 ⊢
    have k_0 : (0 : Int32).toInt = 0 := by decide
    omega
  refine q_callVi (rest := []) (wr := []) X hK hA h (fun sz => kX12_goes_465 l D cy h0 h1 p0 h2 h3 h4 h5 h6 h7 h8 h9 h10 h11 h12 h13 h14 h15 h16 h17 h18 h19 h20 f0 g_5938 hf_f0_2 sz) wm_7_0 wm_7_3 wm_1_12 hd_X12_goes wm_7_2 wp_6_4 (ci := 12) (q0 := 0) rfl rfl ⟨Nat.le_of_ble_eq_true rfl, Nat.le_of_ble_eq_true rfl⟩ hl.1 rfl (Nat.le_of_ble_eq_true rfl) dX12_send_8 ⟨Nat.le_of_ble_eq_true rfl, Nat.le_of_ble_eq_true rfl⟩ [0, 1] [] rfl rfl (by decide) rfl rfl (fun r_5939 u_5939 H locs w_5939 h => ?_)
  obtain rfl : r_5939 = (-11) := w_5939
  have h : qW D _ _ [(h0, .inr (12, [.int 0, .ref h1, .ref h2, .ref h3, .ref h4, .int 0, .int 0, .int 0, .int 0, .int 0, .int 0, .int 0, .int 0, .int 0, .int (-1), .int 0, .ref h5, .ref h6, .ref h7, .ref h8, .ref h9, .int 0, .int 0, .ref h10, .ref h11, .ref h12, .int 0, .int 0, .ref h13, .ref h14, .ref h15, .ref h16, .ref h17, .int 0, .ref h18, .ref h19, .ref h20])), (h1, .inl (cy 1, 3918, .inl f0))] _ _ := h
  exact q_iret X hr hlk hK h rfl (fun _ => 0, fun _ _ => 0, fun _ _ => 0) rfl [0, 1] rfl rfl dX12_send_11 (Nat.le_of_ble_eq_true rfl) (Nat.le_of_ble_eq_true rfl)
set_option maxHeartbeats 4000000 in
set_option maxRecDepth 100000 in
theorem kX12_whySend_467 (l : Launch) (D : va_G) (cy : Nat → ClassId) (h0 : Nat) (h1 : Nat) (j0 : Int64) (h2 : Nat) (h3 : Nat) (h4 : Nat) (h5 : Nat) (h6 : Nat) (h7 : Nat) (h8 : Nat) (h9 : Nat) (h10 : Nat) (h11 : Nat) (h12 : Nat) (h13 : Nat) (h14 : Nat) (h15 : Nat) (h16 : Nat) (h17 : Nat) (h18 : Nat) (h19 : Nat) (h20 : Nat) (f0 : Nat → Int32) (hhi_j0 : j0 ≤ ((-1) : Int64)) (hf_f0_2 : f0 (Int32.toNatClampNeg 2) = 0) (sz : Nat) : MI l yX12_whySend cX12_whySend 4 .int { frames := 2, cells := 0, slots := 0, locals := 47 } [.ref h0, .long j0, .int 0] D cy [(h0, .inr (12, [.int 0, .ref h1, .ref h2, .ref h3, .ref h4, .int 0, .int 0, .int 0, .int 0, .int 0, .int 0, .int 0, .int 0, .int 0, .int (-1), .int 0, .ref h5, .ref h6, .ref h7, .ref h8, .ref h9, .int 0, .int 0, .ref h10, .ref h11, .ref h12, .int 0, .int 0, .ref h13, .ref h14, .ref h15, .ref h16, .ref h17, .int 0, .ref h18, .ref h19, .ref h20])), (h1, .inl (cy 1, 3918, .inl f0))] sz (fun r u => r = 1) (fun u => [(h0, .inr (12, [.int 0, .ref h1, .ref h2, .ref h3, .ref h4, .int 0, .int 0, .int 0, .int 0, .int 0, .int 0, .int 0, .int 0, .int 0, .int (-1), .int 0, .ref h5, .ref h6, .ref h7, .ref h8, .ref h9, .int 0, .int 0, .ref h10, .ref h11, .ref h12, .int 0, .int 0, .ref h13, .ref h14, .ref h15, .ref h16, .ref h17, .int 0, .ref h18, .ref h19, .ref h20])), (h1, .inl (cy 1, 3918, .inl f0))]) 0 0 := by
  refine q_ent (own := RX12) (by decide) rfl (Nat.le_of_ble_eq_true rfl) (fun p e s m below meth c ls X hr hlk hnm hK h hA hl => ?_)
  obtain ⟨hx, hb, hml, hown, ht⟩ := id X
  have hl : lv_has ls 4 [(0, .ref h0), (1, .long j0), (3, .int 0)] := hl
  refine lv_aload_n hx hb dX12_whySend_0 rfl (lv_at hl 0 rfl) ?_
  refine lv_lload_n hx hb dX12_whySend_1 rfl (lv_at hl 1 rfl) ?_
  have g_5953 : j0 ≤ ((-1) : Int64) := by
    simp only [q_lc_lt, q_lc_ge, q_lc_gt, q_lc_le, q_lc_eq, Int32.toInt_toInt64, Int64.lt_iff_toInt_lt, Int64.le_iff_toInt_le, ← Int64.toInt_inj, Int32.lt_iff_toInt_lt, Int32.le_iff_toInt_le, ← Int32.toInt_inj] at hhi_j0 ⊢
    have k_0 : ((-1) : Int64).toInt = -1 := by decide
    omega
  refine q_callVi (rest := []) (wr := []) X hK hA h (fun sz => kX12_isPerson_433 l D cy h0 h1 j0 h2 h3 h4 h5 h6 h7 h8 h9 h10 h11 h12 h13 h14 h15 h16 h17 h18 h19 h20 f0 g_5953 hf_f0_2 sz) wm_6_162 wm_6_165 wm_1_12 hd_X12_isPerson wm_6_164 wp_5_8 (ci := 12) (q0 := 0) rfl rfl ⟨Nat.le_of_ble_eq_true rfl, Nat.le_of_ble_eq_true rfl⟩ hl.1 rfl (Nat.le_of_ble_eq_true rfl) dX12_whySend_2 ⟨Nat.le_of_ble_eq_true rfl, Nat.le_of_ble_eq_true rfl⟩ [0, 1] [] rfl rfl (by decide) rfl rfl (fun r_5954 u_5954 H locs w_5954 h => ?_)
  obtain rfl : r_5954 = 0 := w_5954
  have h : qW D _ _ [(h0, .inr (12, [.int 0, .ref h1, .ref h2, .ref h3, .ref h4, .int 0, .int 0, .int 0, .int 0, .int 0, .int 0, .int 0, .int 0, .int 0, .int (-1), .int 0, .ref h5, .ref h6, .ref h7, .ref h8, .ref h9, .int 0, .int 0, .ref h10, .ref h11, .ref h12, .int 0, .int 0, .ref h13, .ref h14, .ref h15, .ref h16, .ref h17, .int 0, .ref h18, .ref h19, .ref h20])), (h1, .inl (cy 1, 3918, .inl f0))] _ _ := h
  refine lv_if_ne (tgt := 12) hx hb dX12_whySend_5 (by decide) (fun c => absurd c (by decide +kernel)) (fun _ => ?_)
  refine lv_iconst (v := 1) hx hb dX12_whySend_8 (by decide) ?_
  refine lv_goto (tgt := 33) hx hb dX12_whySend_9 (by decide) ?_
  exact q_iret X hr hlk hK h rfl (fun _ => 0, fun _ _ => 0, fun _ _ => 0) rfl [0, 1] rfl rfl dX12_whySend_33 (Nat.le_of_ble_eq_true rfl) (Nat.le_of_ble_eq_true rfl)
set_option maxHeartbeats 4000000 in
set_option maxRecDepth 100000 in
theorem kX12_whySend_468 (l : Launch) (D : va_G) (cy : Nat → ClassId) (h0 : Nat) (h1 : Nat) (j0 : Int64) (h2 : Nat) (h3 : Nat) (h4 : Nat) (h5 : Nat) (h6 : Nat) (h7 : Nat) (h8 : Nat) (h9 : Nat) (h10 : Nat) (h11 : Nat) (h12 : Nat) (h13 : Nat) (h14 : Nat) (h15 : Nat) (h16 : Nat) (h17 : Nat) (h18 : Nat) (h19 : Nat) (h20 : Nat) (f1 : Nat → Int32) (hhi_j0 : j0 ≤ ((-1) : Int64)) (hf_f1_2 : f1 (Int32.toNatClampNeg 2) = 0) (sz : Nat) : MI l yX12_whySend cX12_whySend 4 .int { frames := 2, cells := 0, slots := 0, locals := 47 } [.ref h0, .long j0, .int 0] D cy [(h0, .inr (12, [.int 0, .ref h1, .ref h2, .ref h3, .ref h4, .int 0, .int 0, .int 0, .int 0, .int 0, .int 0, .int 0, .int 0, .int 0, .int (-1), .int 0, .ref h5, .ref h6, .ref h7, .ref h8, .ref h9, .int 0, .int 0, .ref h10, .ref h11, .ref h12, .int 0, .int 0, .ref h13, .ref h14, .ref h15, .ref h16, .ref h17, .int 0, .ref h18, .ref h19, .ref h20])), (h1, .inl (cy 1, 3918, .inl f1))] sz (fun r u => r = 1) (fun u => [(h0, .inr (12, [.int 0, .ref h1, .ref h2, .ref h3, .ref h4, .int 0, .int 0, .int 0, .int 0, .int 0, .int 0, .int 0, .int 0, .int 0, .int (-1), .int 0, .ref h5, .ref h6, .ref h7, .ref h8, .ref h9, .int 0, .int 0, .ref h10, .ref h11, .ref h12, .int 0, .int 0, .ref h13, .ref h14, .ref h15, .ref h16, .ref h17, .int 0, .ref h18, .ref h19, .ref h20])), (h1, .inl (cy 1, 3918, .inl f1))]) 0 0 := by
  refine q_ent (own := RX12) (by decide) rfl (Nat.le_of_ble_eq_true rfl) (fun p e s m below meth c ls X hr hlk hnm hK h hA hl => ?_)
  obtain ⟨hx, hb, hml, hown, ht⟩ := id X
  have hl : lv_has ls 4 [(0, .ref h0), (1, .long j0), (3, .int 0)] := hl
  refine lv_aload_n hx hb dX12_whySend_0 rfl (lv_at hl 0 rfl) ?_
  refine lv_lload_n hx hb dX12_whySend_1 rfl (lv_at hl 1 rfl) ?_
  have g_5970 : j0 ≤ ((-1) : Int64) := by
    simp only [q_lc_lt, q_lc_ge, q_lc_gt, q_lc_le, q_lc_eq, Int32.toInt_toInt64, Int64.lt_iff_toInt_lt, Int64.le_iff_toInt_le, ← Int64.toInt_inj, Int32.lt_iff_toInt_lt, Int32.le_iff_toInt_le, ← Int32.toInt_inj] at hhi_j0 ⊢
    have k_0 : ((-1) : Int64).toInt = -1 := by decide
    omega
  refine q_callVi (rest := []) (wr := []) X hK hA h (fun sz => kX12_isPerson_433 l D cy h0 h1 j0 h2 h3 h4 h5 h6 h7 h8 h9 h10 h11 h12 h13 h14 h15 h16 h17 h18 h19 h20 f1 g_5970 hf_f1_2 sz) wm_6_162 wm_6_165 wm_1_12 hd_X12_isPerson wm_6_164 wp_5_8 (ci := 12) (q0 := 0) rfl rfl ⟨Nat.le_of_ble_eq_true rfl, Nat.le_of_ble_eq_true rfl⟩ hl.1 rfl (Nat.le_of_ble_eq_true rfl) dX12_whySend_2 ⟨Nat.le_of_ble_eq_true rfl, Nat.le_of_ble_eq_true rfl⟩ [0, 1] [] rfl rfl (by decide) rfl rfl (fun r_5971 u_5971 H locs w_5971 h => ?_)
  obtain rfl : r_5971 = 0 := w_5971
  have h : qW D _ _ [(h0, .inr (12, [.int 0, .ref h1, .ref h2, .ref h3, .ref h4, .int 0, .int 0, .int 0, .int 0, .int 0, .int 0, .int 0, .int 0, .int 0, .int (-1), .int 0, .ref h5, .ref h6, .ref h7, .ref h8, .ref h9, .int 0, .int 0, .ref h10, .ref h11, .ref h12, .int 0, .int 0, .ref h13, .ref h14, .ref h15, .ref h16, .ref h17, .int 0, .ref h18, .ref h19, .ref h20])), (h1, .inl (cy 1, 3918, .inl f1))] _ _ := h
  refine lv_if_ne (tgt := 12) hx hb dX12_whySend_5 (by decide) (fun c => absurd c (by decide +kernel)) (fun _ => ?_)
  refine lv_iconst (v := 1) hx hb dX12_whySend_8 (by decide) ?_
  refine lv_goto (tgt := 33) hx hb dX12_whySend_9 (by decide) ?_
  exact q_iret X hr hlk hK h rfl (fun _ => 0, fun _ _ => 0, fun _ _ => 0) rfl [0, 1] rfl rfl dX12_whySend_33 (Nat.le_of_ble_eq_true rfl) (Nat.le_of_ble_eq_true rfl)
set_option maxHeartbeats 4000000 in
set_option maxRecDepth 100000 in
theorem kX12_goes_469 (l : Launch) (D : va_G) (cy : Nat → ClassId) (h0 : Nat) (h1 : Nat) (p0 : Int32) (h2 : Nat) (h3 : Nat) (h4 : Nat) (h5 : Nat) (h6 : Nat) (h7 : Nat) (h8 : Nat) (h9 : Nat) (h10 : Nat) (h11 : Nat) (h12 : Nat) (h13 : Nat) (h14 : Nat) (h15 : Nat) (h16 : Nat) (h17 : Nat) (h18 : Nat) (h19 : Nat) (h20 : Nat) (f0 : Nat → Int32) (hhi_p0 : p0 ≤ ((-1) : Int32)) (hf_f0_2 : f0 (Int32.toNatClampNeg 2) = 0) (sz : Nat) : MI l yX12_goes cX12_goes 4 .int { frames := 3, cells := 0, slots := 0, locals := 70 } [.ref h0, .int p0, .int 0] D cy [(h0, .inr (12, [.int 0, .ref h1, .ref h2, .ref h3, .ref h4, .int 0, .int 0, .int 0, .int 0, .int 0, .int 0, .int 0, .int 0, .int 0, .int (-1), .int 0, .ref h5, .ref h6, .ref h7, .ref h8, .ref h9, .int 0, .int 0, .ref h10, .ref h11, .ref h12, .int 0, .int 0, .ref h13, .ref h14, .ref h15, .ref h16, .ref h17, .int 0, .ref h18, .ref h19, .ref h20])), (h1, .inl (cy 1, 3918, .inl f0))] sz (fun r u => r = (-11)) (fun u => [(h0, .inr (12, [.int 0, .ref h1, .ref h2, .ref h3, .ref h4, .int 0, .int 0, .int 0, .int 0, .int 0, .int 0, .int 0, .int 0, .int 0, .int (-1), .int 0, .ref h5, .ref h6, .ref h7, .ref h8, .ref h9, .int 0, .int 0, .ref h10, .ref h11, .ref h12, .int 0, .int 0, .ref h13, .ref h14, .ref h15, .ref h16, .ref h17, .int 0, .ref h18, .ref h19, .ref h20])), (h1, .inl (cy 1, 3918, .inl f0))]) 0 0 := by
  refine q_ent (own := RX12) (by decide) rfl (Nat.le_of_ble_eq_true rfl) (fun p e s m below meth c ls X hr hlk hnm hK h hA hl => ?_)
  obtain ⟨hx, hb, hml, hown, ht⟩ := id X
  have hl : lv_has ls 4 [(0, .ref h0), (1, .int p0), (2, .int 0)] := hl
  refine lv_aload_n hx hb dX12_goes_0 rfl (lv_at hl 0 rfl) ?_
  refine lv_iload_n hx hb dX12_goes_1 rfl (lv_at hl 1 rfl) ?_
  refine lv_i2l hx hb dX12_goes_2 rfl ?_
  refine lv_iload_n hx hb dX12_goes_3 rfl (lv_at hl 2 rfl) ?_
  have g_5979 : ((p0).toInt64) ≤ ((-1) : Int64) := by
    simp only [q_lc_lt, q_lc_ge, q_lc_gt, q_lc_le, q_lc_eq, Int32.toInt_toInt64, Int64.lt_iff_toInt_lt, Int64.le_iff_toInt_le, ← Int64.toInt_inj, Int32.lt_iff_toInt_lt, Int32.le_iff_toInt_le, ← Int32.toInt_inj] at hhi_p0 ⊢
    have k_0 : ((-1) : Int32).toInt = -1 := by decide
    have k_g : ((-1) : Int64).toInt = -1 := by decide
    omega
  refine q_callVi (rest := []) (wr := []) X hK hA h (fun sz => kX12_whySend_468 l D cy h0 h1 ((p0).toInt64) h2 h3 h4 h5 h6 h7 h8 h9 h10 h11 h12 h13 h14 h15 h16 h17 h18 h19 h20 f0 g_5979 hf_f0_2 sz) wm_7_4 wm_7_7 wm_1_12 hd_X12_whySend wm_7_6 wp_6_5 (ci := 12) (q0 := 0) rfl rfl ⟨Nat.le_of_ble_eq_true rfl, Nat.le_of_ble_eq_true rfl⟩ hl.1 rfl (Nat.le_of_ble_eq_true rfl) dX12_goes_4 ⟨Nat.le_of_ble_eq_true rfl, Nat.le_of_ble_eq_true rfl⟩ [0, 1] [] rfl rfl (by decide) rfl rfl (fun r_5980 u_5980 H locs w_5980 h => ?_)
  obtain rfl : r_5980 = 1 := w_5980
  have h : qW D _ _ [(h0, .inr (12, [.int 0, .ref h1, .ref h2, .ref h3, .ref h4, .int 0, .int 0, .int 0, .int 0, .int 0, .int 0, .int 0, .int 0, .int 0, .int (-1), .int 0, .ref h5, .ref h6, .ref h7, .ref h8, .ref h9, .int 0, .int 0, .ref h10, .ref h11, .ref h12, .int 0, .int 0, .ref h13, .ref h14, .ref h15, .ref h16, .ref h17, .int 0, .ref h18, .ref h19, .ref h20])), (h1, .inl (cy 1, 3918, .inl f0))] _ _ := h
  refine lv_istore_n (lv' := [(3, .int 1), (0, .ref h0), (1, .int p0), (2, .int 0)]) hx hb dX12_goes_7 rfl hl (by decide) rfl (fun ls hl => ?_)
  refine lv_iload_n hx hb dX12_goes_8 rfl (lv_at hl 0 rfl) ?_
  refine lv_if_eq (tgt := 17) hx hb dX12_goes_9 (by decide) (fun c => absurd c (by decide +kernel)) (fun _ => ?_)
  refine lv_bipush (v := (-10)) hx hb dX12_goes_12 (by decide) ?_
  refine lv_iload_n hx hb dX12_goes_14 rfl (lv_at hl 0 rfl) ?_
  refine lv_isub hx hb dX12_goes_15 ?_
  refine q_c (-11) (by decide +kernel) ?_
  exact q_iret X hr hlk hK h rfl (fun _ => 0, fun _ _ => 0, fun _ _ => 0) rfl [0, 1] rfl rfl dX12_goes_16 (Nat.le_of_ble_eq_true rfl) (Nat.le_of_ble_eq_true rfl)
set_option maxHeartbeats 4000000 in
set_option maxRecDepth 100000 in
theorem kX12_goes_470 (l : Launch) (D : va_G) (cy : Nat → ClassId) (h0 : Nat) (h1 : Nat) (p0 : Int32) (h2 : Nat) (h3 : Nat) (h4 : Nat) (h5 : Nat) (h6 : Nat) (h7 : Nat) (h8 : Nat) (h9 : Nat) (h10 : Nat) (h11 : Nat) (h12 : Nat) (h13 : Nat) (h14 : Nat) (h15 : Nat) (h16 : Nat) (h17 : Nat) (h18 : Nat) (h19 : Nat) (h20 : Nat) (f1 : Nat → Int32) (hhi_p0 : p0 ≤ ((-1) : Int32)) (hf_f1_2 : f1 (Int32.toNatClampNeg 2) = 0) (sz : Nat) : MI l yX12_goes cX12_goes 4 .int { frames := 3, cells := 0, slots := 0, locals := 70 } [.ref h0, .int p0, .int 0] D cy [(h0, .inr (12, [.int 0, .ref h1, .ref h2, .ref h3, .ref h4, .int 0, .int 0, .int 0, .int 0, .int 0, .int 0, .int 0, .int 0, .int 0, .int (-1), .int 0, .ref h5, .ref h6, .ref h7, .ref h8, .ref h9, .int 0, .int 0, .ref h10, .ref h11, .ref h12, .int 0, .int 0, .ref h13, .ref h14, .ref h15, .ref h16, .ref h17, .int 0, .ref h18, .ref h19, .ref h20])), (h1, .inl (cy 1, 3918, .inl f1))] sz (fun r u => r = (-11)) (fun u => [(h0, .inr (12, [.int 0, .ref h1, .ref h2, .ref h3, .ref h4, .int 0, .int 0, .int 0, .int 0, .int 0, .int 0, .int 0, .int 0, .int 0, .int (-1), .int 0, .ref h5, .ref h6, .ref h7, .ref h8, .ref h9, .int 0, .int 0, .ref h10, .ref h11, .ref h12, .int 0, .int 0, .ref h13, .ref h14, .ref h15, .ref h16, .ref h17, .int 0, .ref h18, .ref h19, .ref h20])), (h1, .inl (cy 1, 3918, .inl f1))]) 0 0 := by
  refine q_ent (own := RX12) (by decide) rfl (Nat.le_of_ble_eq_true rfl) (fun p e s m below meth c ls X hr hlk hnm hK h hA hl => ?_)
  obtain ⟨hx, hb, hml, hown, ht⟩ := id X
  have hl : lv_has ls 4 [(0, .ref h0), (1, .int p0), (2, .int 0)] := hl
  refine lv_aload_n hx hb dX12_goes_0 rfl (lv_at hl 0 rfl) ?_
  refine lv_iload_n hx hb dX12_goes_1 rfl (lv_at hl 1 rfl) ?_
  refine lv_i2l hx hb dX12_goes_2 rfl ?_
  refine lv_iload_n hx hb dX12_goes_3 rfl (lv_at hl 2 rfl) ?_
  have g_6002 : ((p0).toInt64) ≤ ((-1) : Int64) := by
    simp only [q_lc_lt, q_lc_ge, q_lc_gt, q_lc_le, q_lc_eq, Int32.toInt_toInt64, Int64.lt_iff_toInt_lt, Int64.le_iff_toInt_le, ← Int64.toInt_inj, Int32.lt_iff_toInt_lt, Int32.le_iff_toInt_le, ← Int32.toInt_inj] at hhi_p0 ⊢
    have k_0 : ((-1) : Int32).toInt = -1 := by decide
    have k_g : ((-1) : Int64).toInt = -1 := by decide
    omega
  refine q_callVi (rest := []) (wr := []) X hK hA h (fun sz => kX12_whySend_468 l D cy h0 h1 ((p0).toInt64) h2 h3 h4 h5 h6 h7 h8 h9 h10 h11 h12 h13 h14 h15 h16 h17 h18 h19 h20 f1 g_6002 hf_f1_2 sz) wm_7_4 wm_7_7 wm_1_12 hd_X12_whySend wm_7_6 wp_6_5 (ci := 12) (q0 := 0) rfl rfl ⟨Nat.le_of_ble_eq_true rfl, Nat.le_of_ble_eq_true rfl⟩ hl.1 rfl (Nat.le_of_ble_eq_true rfl) dX12_goes_4 ⟨Nat.le_of_ble_eq_true rfl, Nat.le_of_ble_eq_true rfl⟩ [0, 1] [] rfl rfl (by decide) rfl rfl (fun r_6003 u_6003 H locs w_6003 h => ?_)
  obtain rfl : r_6003 = 1 := w_6003
  have h : qW D _ _ [(h0, .inr (12, [.int 0, .ref h1, .ref h2, .ref h3, .ref h4, .int 0, .int 0, .int 0, .int 0, .int 0, .int 0, .int 0, .int 0, .int 0, .int (-1), .int 0, .ref h5, .ref h6, .ref h7, .ref h8, .ref h9, .int 0, .int 0, .ref h10, .ref h11, .ref h12, .int 0, .int 0, .ref h13, .ref h14, .ref h15, .ref h16, .ref h17, .int 0, .ref h18, .ref h19, .ref h20])), (h1, .inl (cy 1, 3918, .inl f1))] _ _ := h
  refine lv_istore_n (lv' := [(3, .int 1), (0, .ref h0), (1, .int p0), (2, .int 0)]) hx hb dX12_goes_7 rfl hl (by decide) rfl (fun ls hl => ?_)
  refine lv_iload_n hx hb dX12_goes_8 rfl (lv_at hl 0 rfl) ?_
  refine lv_if_eq (tgt := 17) hx hb dX12_goes_9 (by decide) (fun c => absurd c (by decide +kernel)) (fun _ => ?_)
  refine lv_bipush (v := (-10)) hx hb dX12_goes_12 (by decide) ?_
  refine lv_iload_n hx hb dX12_goes_14 rfl (lv_at hl 0 rfl) ?_
  refine lv_isub hx hb dX12_goes_15 ?_
  refine q_c (-11) (by decide +kernel) ?_
  exact q_iret X hr hlk hK h rfl (fun _ => 0, fun _ _ => 0, fun _ _ => 0) rfl [0, 1] rfl rfl dX12_goes_16 (Nat.le_of_ble_eq_true rfl) (Nat.le_of_ble_eq_true rfl)
set_option maxHeartbeats 4000000 in
set_option maxRecDepth 100000 in
theorem kX12_call_471 (l : Launch) (D : va_G) (cy : Nat → ClassId) (h0 : Nat) (h1 : Nat) (p0 : Int32) (h2 : Nat) (h3 : Nat) (h4 : Nat) (h5 : Nat) (h6 : Nat) (h7 : Nat) (h8 : Nat) (h9 : Nat) (h10 : Nat) (h11 : Nat) (h12 : Nat) (h13 : Nat) (h14 : Nat) (h15 : Nat) (h16 : Nat) (h17 : Nat) (h18 : Nat) (h19 : Nat) (h20 : Nat) (f0 : Nat → Int32) (hhi_p0 : p0 ≤ ((-1) : Int32)) (hf_f0_2 : f0 (Int32.toNatClampNeg 2) = 0) (sz : Nat) : MI l yX12_call cX12_call 2 .int { frames := 4, cells := 0, slots := 0, locals := 93 } [.ref h0, .int p0] D cy [(h0, .inr (12, [.int 0, .ref h1, .ref h2, .ref h3, .ref h4, .int 0, .int 0, .int 0, .int 0, .int 0, .int 0, .int 0, .int 0, .int 0, .int (-1), .int 0, .ref h5, .ref h6, .ref h7, .ref h8, .ref h9, .int 0, .int 0, .ref h10, .ref h11, .ref h12, .int 0, .int 0, .ref h13, .ref h14, .ref h15, .ref h16, .ref h17, .int 0, .ref h18, .ref h19, .ref h20])), (h1, .inl (cy 1, 3918, .inl f0))] sz (fun r u => r = (-11)) (fun u => [(h0, .inr (12, [.int 0, .ref h1, .ref h2, .ref h3, .ref h4, .int 0, .int 0, .int 0, .int 0, .int 0, .int 0, .int 0, .int 0, .int 0, .int (-1), .int 0, .ref h5, .ref h6, .ref h7, .ref h8, .ref h9, .int 0, .int 0, .ref h10, .ref h11, .ref h12, .int 0, .int 0, .ref h13, .ref h14, .ref h15, .ref h16, .ref h17, .int 0, .ref h18, .ref h19, .ref h20])), (h1, .inl (cy 1, 3918, .inl f0))]) 0 0 := by
  refine q_ent (own := RX12) (by decide) rfl (Nat.le_of_ble_eq_true rfl) (fun p e s m below meth c ls X hr hlk hnm hK h hA hl => ?_)
  obtain ⟨hx, hb, hml, hown, ht⟩ := id X
  have hl : lv_has ls 2 [(0, .ref h0), (1, .int p0)] := hl
  refine lv_aload_n hx hb dX12_call_0 rfl (lv_at hl 0 rfl) ?_
  refine lv_iconst (v := 0) hx hb dX12_call_1 (by decide) ?_
  refine q_put (v := .int 0) X hK h 0 rfl rfl wf_12 tyX12 tyX12_ok nmX12 0 (by decide) wm_5_170 rfl rfl rfl (Nat.le_of_ble_eq_true rfl) dX12_call_2 (fun H locs h => ?_)
  have h : qW D _ _ [(h0, .inr (12, [.int 0, .ref h1, .ref h2, .ref h3, .ref h4, .int 0, .int 0, .int 0, .int 0, .int 0, .int 0, .int 0, .int 0, .int 0, .int (-1), .int 0, .ref h5, .ref h6, .ref h7, .ref h8, .ref h9, .int 0, .int 0, .ref h10, .ref h11, .ref h12, .int 0, .int 0, .ref h13, .ref h14, .ref h15, .ref h16, .ref h17, .int 0, .ref h18, .ref h19, .ref h20])), (h1, .inl (cy 1, 3918, .inl f0))] _ _ := h
  refine lv_aload_n hx hb dX12_call_5 rfl (lv_at hl 0 rfl) ?_
  refine lv_iload_n hx hb dX12_call_6 rfl (lv_at hl 1 rfl) ?_
  refine lv_iconst (v := 0) hx hb dX12_call_7 (by decide) ?_
  have g_6013 : p0 ≤ ((-1) : Int32) := by
    simp only [Int32.lt_iff_toInt_lt, Int32.le_iff_toInt_le, ← Int32.toInt_inj] at hhi_p0 ⊢
    have k_0 : ((-1) : Int32).toInt = -1 := by decide
    omega
  refine q_callVi (rest := []) (wr := []) X hK hA h (fun sz => kX12_goes_470 l D cy h0 h1 p0 h2 h3 h4 h5 h6 h7 h8 h9 h10 h11 h12 h13 h14 h15 h16 h17 h18 h19 h20 f0 g_6013 hf_f0_2 sz) wm_7_0 wm_7_3 wm_1_12 hd_X12_goes wm_7_2 wp_6_4 (ci := 12) (q0 := 0) rfl rfl ⟨Nat.le_of_ble_eq_true rfl, Nat.le_of_ble_eq_true rfl⟩ hl.1 rfl (Nat.le_of_ble_eq_true rfl) dX12_call_8 ⟨Nat.le_of_ble_eq_true rfl, Nat.le_of_ble_eq_true rfl⟩ [0, 1] [] rfl rfl (by decide) rfl rfl (fun r_6014 u_6014 H locs w_6014 h => ?_)
  obtain rfl : r_6014 = (-11) := w_6014
  have h : qW D _ _ [(h0, .inr (12, [.int 0, .ref h1, .ref h2, .ref h3, .ref h4, .int 0, .int 0, .int 0, .int 0, .int 0, .int 0, .int 0, .int 0, .int 0, .int (-1), .int 0, .ref h5, .ref h6, .ref h7, .ref h8, .ref h9, .int 0, .int 0, .ref h10, .ref h11, .ref h12, .int 0, .int 0, .ref h13, .ref h14, .ref h15, .ref h16, .ref h17, .int 0, .ref h18, .ref h19, .ref h20])), (h1, .inl (cy 1, 3918, .inl f0))] _ _ := h
  exact q_iret X hr hlk hK h rfl (fun _ => 0, fun _ _ => 0, fun _ _ => 0) rfl [0, 1] rfl rfl dX12_call_11 (Nat.le_of_ble_eq_true rfl) (Nat.le_of_ble_eq_true rfl)
set_option maxHeartbeats 4000000 in
set_option maxRecDepth 100000 in
theorem kX12_whySend_472 (l : Launch) (D : va_G) (cy : Nat → ClassId) (h0 : Nat) (h1 : Nat) (j0 : Int64) (h2 : Nat) (h3 : Nat) (h4 : Nat) (h5 : Nat) (h6 : Nat) (h7 : Nat) (h8 : Nat) (h9 : Nat) (h10 : Nat) (h11 : Nat) (h12 : Nat) (h13 : Nat) (h14 : Nat) (h15 : Nat) (h16 : Nat) (h17 : Nat) (h18 : Nat) (h19 : Nat) (h20 : Nat) (f0 : Nat → Int32) (hlo_j0 : (0 : Int64) ≤ j0) (hf_f0_2 : f0 (Int32.toNatClampNeg 2) = 0) (sz : Nat) : MI l yX12_whySend cX12_whySend 4 .int { frames := 2, cells := 0, slots := 0, locals := 47 } [.ref h0, .long j0, .int 0] D cy [(h0, .inr (12, [.int 0, .ref h1, .ref h2, .ref h3, .ref h4, .int 0, .int 0, .int 0, .int 0, .int 0, .int 0, .int 0, .int 0, .int 0, .int (-1), .int 0, .ref h5, .ref h6, .ref h7, .ref h8, .ref h9, .int 0, .int 0, .ref h10, .ref h11, .ref h12, .int 0, .int 0, .ref h13, .ref h14, .ref h15, .ref h16, .ref h17, .int 0, .ref h18, .ref h19, .ref h20])), (h1, .inl (cy 1, 3918, .inl f0))] sz (fun r u => r = 1) (fun u => [(h0, .inr (12, [.int 0, .ref h1, .ref h2, .ref h3, .ref h4, .int 0, .int 0, .int 0, .int 0, .int 0, .int 0, .int 0, .int 0, .int 0, .int (-1), .int 0, .ref h5, .ref h6, .ref h7, .ref h8, .ref h9, .int 0, .int 0, .ref h10, .ref h11, .ref h12, .int 0, .int 0, .ref h13, .ref h14, .ref h15, .ref h16, .ref h17, .int 0, .ref h18, .ref h19, .ref h20])), (h1, .inl (cy 1, 3918, .inl f0))]) 0 0 := by
  refine q_ent (own := RX12) (by decide) rfl (Nat.le_of_ble_eq_true rfl) (fun p e s m below meth c ls X hr hlk hnm hK h hA hl => ?_)
  obtain ⟨hx, hb, hml, hown, ht⟩ := id X
  have hl : lv_has ls 4 [(0, .ref h0), (1, .long j0), (3, .int 0)] := hl
  refine lv_aload_n hx hb dX12_whySend_0 rfl (lv_at hl 0 rfl) ?_
  refine lv_lload_n hx hb dX12_whySend_1 rfl (lv_at hl 1 rfl) ?_
  have g_6031 : (0 : Int64) ≤ j0 := by
    simp only [q_lc_lt, q_lc_ge, q_lc_gt, q_lc_le, q_lc_eq, Int32.toInt_toInt64, Int64.lt_iff_toInt_lt, Int64.le_iff_toInt_le, ← Int64.toInt_inj, Int32.lt_iff_toInt_lt, Int32.le_iff_toInt_le, ← Int32.toInt_inj] at hlo_j0 ⊢
    have k_0 : (0 : Int64).toInt = 0 := by decide
    omega
  refine q_callVi (rest := []) (wr := []) X hK hA h (fun sz => kX12_isPerson_437 l D cy h0 h1 j0 h2 h3 h4 h5 h6 h7 h8 h9 h10 h11 h12 h13 h14 h15 h16 h17 h18 h19 h20 f0 g_6031 hf_f0_2 sz) wm_6_162 wm_6_165 wm_1_12 hd_X12_isPerson wm_6_164 wp_5_8 (ci := 12) (q0 := 0) rfl rfl ⟨Nat.le_of_ble_eq_true rfl, Nat.le_of_ble_eq_true rfl⟩ hl.1 rfl (Nat.le_of_ble_eq_true rfl) dX12_whySend_2 ⟨Nat.le_of_ble_eq_true rfl, Nat.le_of_ble_eq_true rfl⟩ [0, 1] [] rfl rfl (by decide) rfl rfl (fun r_6032 u_6032 H locs w_6032 h => ?_)
  obtain rfl : r_6032 = 0 := w_6032
  have h : qW D _ _ [(h0, .inr (12, [.int 0, .ref h1, .ref h2, .ref h3, .ref h4, .int 0, .int 0, .int 0, .int 0, .int 0, .int 0, .int 0, .int 0, .int 0, .int (-1), .int 0, .ref h5, .ref h6, .ref h7, .ref h8, .ref h9, .int 0, .int 0, .ref h10, .ref h11, .ref h12, .int 0, .int 0, .ref h13, .ref h14, .ref h15, .ref h16, .ref h17, .int 0, .ref h18, .ref h19, .ref h20])), (h1, .inl (cy 1, 3918, .inl f0))] _ _ := h
  refine lv_if_ne (tgt := 12) hx hb dX12_whySend_5 (by decide) (fun c => absurd c (by decide +kernel)) (fun _ => ?_)
  refine lv_iconst (v := 1) hx hb dX12_whySend_8 (by decide) ?_
  refine lv_goto (tgt := 33) hx hb dX12_whySend_9 (by decide) ?_
  exact q_iret X hr hlk hK h rfl (fun _ => 0, fun _ _ => 0, fun _ _ => 0) rfl [0, 1] rfl rfl dX12_whySend_33 (Nat.le_of_ble_eq_true rfl) (Nat.le_of_ble_eq_true rfl)
set_option maxHeartbeats 4000000 in
set_option maxRecDepth 100000 in
theorem kX12_whySend_473 (l : Launch) (D : va_G) (cy : Nat → ClassId) (h0 : Nat) (h1 : Nat) (j0 : Int64) (h2 : Nat) (h3 : Nat) (h4 : Nat) (h5 : Nat) (h6 : Nat) (h7 : Nat) (h8 : Nat) (h9 : Nat) (h10 : Nat) (h11 : Nat) (h12 : Nat) (h13 : Nat) (h14 : Nat) (h15 : Nat) (h16 : Nat) (h17 : Nat) (h18 : Nat) (h19 : Nat) (h20 : Nat) (f1 : Nat → Int32) (hlo_j0 : (0 : Int64) ≤ j0) (hf_f1_2 : f1 (Int32.toNatClampNeg 2) = 0) (sz : Nat) : MI l yX12_whySend cX12_whySend 4 .int { frames := 2, cells := 0, slots := 0, locals := 47 } [.ref h0, .long j0, .int 0] D cy [(h0, .inr (12, [.int 0, .ref h1, .ref h2, .ref h3, .ref h4, .int 0, .int 0, .int 0, .int 0, .int 0, .int 0, .int 0, .int 0, .int 0, .int (-1), .int 0, .ref h5, .ref h6, .ref h7, .ref h8, .ref h9, .int 0, .int 0, .ref h10, .ref h11, .ref h12, .int 0, .int 0, .ref h13, .ref h14, .ref h15, .ref h16, .ref h17, .int 0, .ref h18, .ref h19, .ref h20])), (h1, .inl (cy 1, 3918, .inl f1))] sz (fun r u => r = 1) (fun u => [(h0, .inr (12, [.int 0, .ref h1, .ref h2, .ref h3, .ref h4, .int 0, .int 0, .int 0, .int 0, .int 0, .int 0, .int 0, .int 0, .int 0, .int (-1), .int 0, .ref h5, .ref h6, .ref h7, .ref h8, .ref h9, .int 0, .int 0, .ref h10, .ref h11, .ref h12, .int 0, .int 0, .ref h13, .ref h14, .ref h15, .ref h16, .ref h17, .int 0, .ref h18, .ref h19, .ref h20])), (h1, .inl (cy 1, 3918, .inl f1))]) 0 0 := by
  refine q_ent (own := RX12) (by decide) rfl (Nat.le_of_ble_eq_true rfl) (fun p e s m below meth c ls X hr hlk hnm hK h hA hl => ?_)
  obtain ⟨hx, hb, hml, hown, ht⟩ := id X
  have hl : lv_has ls 4 [(0, .ref h0), (1, .long j0), (3, .int 0)] := hl
  refine lv_aload_n hx hb dX12_whySend_0 rfl (lv_at hl 0 rfl) ?_
  refine lv_lload_n hx hb dX12_whySend_1 rfl (lv_at hl 1 rfl) ?_
  have g_6051 : (0 : Int64) ≤ j0 := by
    simp only [q_lc_lt, q_lc_ge, q_lc_gt, q_lc_le, q_lc_eq, Int32.toInt_toInt64, Int64.lt_iff_toInt_lt, Int64.le_iff_toInt_le, ← Int64.toInt_inj, Int32.lt_iff_toInt_lt, Int32.le_iff_toInt_le, ← Int32.toInt_inj] at hlo_j0 ⊢
    have k_0 : (0 : Int64).toInt = 0 := by decide
    omega
  refine q_callVi (rest := []) (wr := []) X hK hA h (fun sz => kX12_isPerson_437 l D cy h0 h1 j0 h2 h3 h4 h5 h6 h7 h8 h9 h10 h11 h12 h13 h14 h15 h16 h17 h18 h19 h20 f1 g_6051 hf_f1_2 sz) wm_6_162 wm_6_165 wm_1_12 hd_X12_isPerson wm_6_164 wp_5_8 (ci := 12) (q0 := 0) rfl rfl ⟨Nat.le_of_ble_eq_true rfl, Nat.le_of_ble_eq_true rfl⟩ hl.1 rfl (Nat.le_of_ble_eq_true rfl) dX12_whySend_2 ⟨Nat.le_of_ble_eq_true rfl, Nat.le_of_ble_eq_true rfl⟩ [0, 1] [] rfl rfl (by decide) rfl rfl (fun r_6052 u_6052 H locs w_6052 h => ?_)
  obtain rfl : r_6052 = 0 := w_6052
  have h : qW D _ _ [(h0, .inr (12, [.int 0, .ref h1, .ref h2, .ref h3, .ref h4, .int 0, .int 0, .int 0, .int 0, .int 0, .int 0, .int 0, .int 0, .int 0, .int (-1), .int 0, .ref h5, .ref h6, .ref h7, .ref h8, .ref h9, .int 0, .int 0, .ref h10, .ref h11, .ref h12, .int 0, .int 0, .ref h13, .ref h14, .ref h15, .ref h16, .ref h17, .int 0, .ref h18, .ref h19, .ref h20])), (h1, .inl (cy 1, 3918, .inl f1))] _ _ := h
  refine lv_if_ne (tgt := 12) hx hb dX12_whySend_5 (by decide) (fun c => absurd c (by decide +kernel)) (fun _ => ?_)
  refine lv_iconst (v := 1) hx hb dX12_whySend_8 (by decide) ?_
  refine lv_goto (tgt := 33) hx hb dX12_whySend_9 (by decide) ?_
  exact q_iret X hr hlk hK h rfl (fun _ => 0, fun _ _ => 0, fun _ _ => 0) rfl [0, 1] rfl rfl dX12_whySend_33 (Nat.le_of_ble_eq_true rfl) (Nat.le_of_ble_eq_true rfl)
set_option maxHeartbeats 4000000 in
set_option maxRecDepth 100000 in
theorem kX12_goes_474 (l : Launch) (D : va_G) (cy : Nat → ClassId) (h0 : Nat) (h1 : Nat) (p0 : Int32) (h2 : Nat) (h3 : Nat) (h4 : Nat) (h5 : Nat) (h6 : Nat) (h7 : Nat) (h8 : Nat) (h9 : Nat) (h10 : Nat) (h11 : Nat) (h12 : Nat) (h13 : Nat) (h14 : Nat) (h15 : Nat) (h16 : Nat) (h17 : Nat) (h18 : Nat) (h19 : Nat) (h20 : Nat) (f0 : Nat → Int32) (hlo_p0 : (0 : Int32) ≤ p0) (hf_f0_2 : f0 (Int32.toNatClampNeg 2) = 0) (sz : Nat) : MI l yX12_goes cX12_goes 4 .int { frames := 3, cells := 0, slots := 0, locals := 70 } [.ref h0, .int p0, .int 0] D cy [(h0, .inr (12, [.int 0, .ref h1, .ref h2, .ref h3, .ref h4, .int 0, .int 0, .int 0, .int 0, .int 0, .int 0, .int 0, .int 0, .int 0, .int (-1), .int 0, .ref h5, .ref h6, .ref h7, .ref h8, .ref h9, .int 0, .int 0, .ref h10, .ref h11, .ref h12, .int 0, .int 0, .ref h13, .ref h14, .ref h15, .ref h16, .ref h17, .int 0, .ref h18, .ref h19, .ref h20])), (h1, .inl (cy 1, 3918, .inl f0))] sz (fun r u => r = (-11)) (fun u => [(h0, .inr (12, [.int 0, .ref h1, .ref h2, .ref h3, .ref h4, .int 0, .int 0, .int 0, .int 0, .int 0, .int 0, .int 0, .int 0, .int 0, .int (-1), .int 0, .ref h5, .ref h6, .ref h7, .ref h8, .ref h9, .int 0, .int 0, .ref h10, .ref h11, .ref h12, .int 0, .int 0, .ref h13, .ref h14, .ref h15, .ref h16, .ref h17, .int 0, .ref h18, .ref h19, .ref h20])), (h1, .inl (cy 1, 3918, .inl f0))]) 0 0 := by
  refine q_ent (own := RX12) (by decide) rfl (Nat.le_of_ble_eq_true rfl) (fun p e s m below meth c ls X hr hlk hnm hK h hA hl => ?_)
  obtain ⟨hx, hb, hml, hown, ht⟩ := id X
  have hl : lv_has ls 4 [(0, .ref h0), (1, .int p0), (2, .int 0)] := hl
  refine lv_aload_n hx hb dX12_goes_0 rfl (lv_at hl 0 rfl) ?_
  refine lv_iload_n hx hb dX12_goes_1 rfl (lv_at hl 1 rfl) ?_
  refine lv_i2l hx hb dX12_goes_2 rfl ?_
  refine lv_iload_n hx hb dX12_goes_3 rfl (lv_at hl 2 rfl) ?_
  have g_6061 : (0 : Int64) ≤ ((p0).toInt64) := by
    simp only [q_lc_lt, q_lc_ge, q_lc_gt, q_lc_le, q_lc_eq, Int32.toInt_toInt64, Int64.lt_iff_toInt_lt, Int64.le_iff_toInt_le, ← Int64.toInt_inj, Int32.lt_iff_toInt_lt, Int32.le_iff_toInt_le, ← Int32.toInt_inj] at hlo_p0 ⊢
    have k_0 : (0 : Int32).toInt = 0 := by decide
    have k_g : (0 : Int64).toInt = 0 := by decide
    omega
  refine q_callVi (rest := []) (wr := []) X hK hA h (fun sz => kX12_whySend_473 l D cy h0 h1 ((p0).toInt64) h2 h3 h4 h5 h6 h7 h8 h9 h10 h11 h12 h13 h14 h15 h16 h17 h18 h19 h20 f0 g_6061 hf_f0_2 sz) wm_7_4 wm_7_7 wm_1_12 hd_X12_whySend wm_7_6 wp_6_5 (ci := 12) (q0 := 0) rfl rfl ⟨Nat.le_of_ble_eq_true rfl, Nat.le_of_ble_eq_true rfl⟩ hl.1 rfl (Nat.le_of_ble_eq_true rfl) dX12_goes_4 ⟨Nat.le_of_ble_eq_true rfl, Nat.le_of_ble_eq_true rfl⟩ [0, 1] [] rfl rfl (by decide) rfl rfl (fun r_6062 u_6062 H locs w_6062 h => ?_)
  obtain rfl : r_6062 = 1 := w_6062
  have h : qW D _ _ [(h0, .inr (12, [.int 0, .ref h1, .ref h2, .ref h3, .ref h4, .int 0, .int 0, .int 0, .int 0, .int 0, .int 0, .int 0, .int 0, .int 0, .int (-1), .int 0, .ref h5, .ref h6, .ref h7, .ref h8, .ref h9, .int 0, .int 0, .ref h10, .ref h11, .ref h12, .int 0, .int 0, .ref h13, .ref h14, .ref h15, .ref h16, .ref h17, .int 0, .ref h18, .ref h19, .ref h20])), (h1, .inl (cy 1, 3918, .inl f0))] _ _ := h
  refine lv_istore_n (lv' := [(3, .int 1), (0, .ref h0), (1, .int p0), (2, .int 0)]) hx hb dX12_goes_7 rfl hl (by decide) rfl (fun ls hl => ?_)
  refine lv_iload_n hx hb dX12_goes_8 rfl (lv_at hl 0 rfl) ?_
  refine lv_if_eq (tgt := 17) hx hb dX12_goes_9 (by decide) (fun c => absurd c (by decide +kernel)) (fun _ => ?_)
  refine lv_bipush (v := (-10)) hx hb dX12_goes_12 (by decide) ?_
  refine lv_iload_n hx hb dX12_goes_14 rfl (lv_at hl 0 rfl) ?_
  refine lv_isub hx hb dX12_goes_15 ?_
  refine q_c (-11) (by decide +kernel) ?_
  exact q_iret X hr hlk hK h rfl (fun _ => 0, fun _ _ => 0, fun _ _ => 0) rfl [0, 1] rfl rfl dX12_goes_16 (Nat.le_of_ble_eq_true rfl) (Nat.le_of_ble_eq_true rfl)
set_option maxHeartbeats 4000000 in
set_option maxRecDepth 100000 in
theorem kX12_goes_475 (l : Launch) (D : va_G) (cy : Nat → ClassId) (h0 : Nat) (h1 : Nat) (p0 : Int32) (h2 : Nat) (h3 : Nat) (h4 : Nat) (h5 : Nat) (h6 : Nat) (h7 : Nat) (h8 : Nat) (h9 : Nat) (h10 : Nat) (h11 : Nat) (h12 : Nat) (h13 : Nat) (h14 : Nat) (h15 : Nat) (h16 : Nat) (h17 : Nat) (h18 : Nat) (h19 : Nat) (h20 : Nat) (f1 : Nat → Int32) (hlo_p0 : (0 : Int32) ≤ p0) (hf_f1_2 : f1 (Int32.toNatClampNeg 2) = 0) (sz : Nat) : MI l yX12_goes cX12_goes 4 .int { frames := 3, cells := 0, slots := 0, locals := 70 } [.ref h0, .int p0, .int 0] D cy [(h0, .inr (12, [.int 0, .ref h1, .ref h2, .ref h3, .ref h4, .int 0, .int 0, .int 0, .int 0, .int 0, .int 0, .int 0, .int 0, .int 0, .int (-1), .int 0, .ref h5, .ref h6, .ref h7, .ref h8, .ref h9, .int 0, .int 0, .ref h10, .ref h11, .ref h12, .int 0, .int 0, .ref h13, .ref h14, .ref h15, .ref h16, .ref h17, .int 0, .ref h18, .ref h19, .ref h20])), (h1, .inl (cy 1, 3918, .inl f1))] sz (fun r u => r = (-11)) (fun u => [(h0, .inr (12, [.int 0, .ref h1, .ref h2, .ref h3, .ref h4, .int 0, .int 0, .int 0, .int 0, .int 0, .int 0, .int 0, .int 0, .int 0, .int (-1), .int 0, .ref h5, .ref h6, .ref h7, .ref h8, .ref h9, .int 0, .int 0, .ref h10, .ref h11, .ref h12, .int 0, .int 0, .ref h13, .ref h14, .ref h15, .ref h16, .ref h17, .int 0, .ref h18, .ref h19, .ref h20])), (h1, .inl (cy 1, 3918, .inl f1))]) 0 0 := by
  refine q_ent (own := RX12) (by decide) rfl (Nat.le_of_ble_eq_true rfl) (fun p e s m below meth c ls X hr hlk hnm hK h hA hl => ?_)
  obtain ⟨hx, hb, hml, hown, ht⟩ := id X
  have hl : lv_has ls 4 [(0, .ref h0), (1, .int p0), (2, .int 0)] := hl
  refine lv_aload_n hx hb dX12_goes_0 rfl (lv_at hl 0 rfl) ?_
  refine lv_iload_n hx hb dX12_goes_1 rfl (lv_at hl 1 rfl) ?_
  refine lv_i2l hx hb dX12_goes_2 rfl ?_
  refine lv_iload_n hx hb dX12_goes_3 rfl (lv_at hl 2 rfl) ?_
  have g_6087 : (0 : Int64) ≤ ((p0).toInt64) := by
    simp only [q_lc_lt, q_lc_ge, q_lc_gt, q_lc_le, q_lc_eq, Int32.toInt_toInt64, Int64.lt_iff_toInt_lt, Int64.le_iff_toInt_le, ← Int64.toInt_inj, Int32.lt_iff_toInt_lt, Int32.le_iff_toInt_le, ← Int32.toInt_inj] at hlo_p0 ⊢
    have k_0 : (0 : Int32).toInt = 0 := by decide
    have k_g : (0 : Int64).toInt = 0 := by decide
    omega
  refine q_callVi (rest := []) (wr := []) X hK hA h (fun sz => kX12_whySend_473 l D cy h0 h1 ((p0).toInt64) h2 h3 h4 h5 h6 h7 h8 h9 h10 h11 h12 h13 h14 h15 h16 h17 h18 h19 h20 f1 g_6087 hf_f1_2 sz) wm_7_4 wm_7_7 wm_1_12 hd_X12_whySend wm_7_6 wp_6_5 (ci := 12) (q0 := 0) rfl rfl ⟨Nat.le_of_ble_eq_true rfl, Nat.le_of_ble_eq_true rfl⟩ hl.1 rfl (Nat.le_of_ble_eq_true rfl) dX12_goes_4 ⟨Nat.le_of_ble_eq_true rfl, Nat.le_of_ble_eq_true rfl⟩ [0, 1] [] rfl rfl (by decide) rfl rfl (fun r_6088 u_6088 H locs w_6088 h => ?_)
  obtain rfl : r_6088 = 1 := w_6088
  have h : qW D _ _ [(h0, .inr (12, [.int 0, .ref h1, .ref h2, .ref h3, .ref h4, .int 0, .int 0, .int 0, .int 0, .int 0, .int 0, .int 0, .int 0, .int 0, .int (-1), .int 0, .ref h5, .ref h6, .ref h7, .ref h8, .ref h9, .int 0, .int 0, .ref h10, .ref h11, .ref h12, .int 0, .int 0, .ref h13, .ref h14, .ref h15, .ref h16, .ref h17, .int 0, .ref h18, .ref h19, .ref h20])), (h1, .inl (cy 1, 3918, .inl f1))] _ _ := h
  refine lv_istore_n (lv' := [(3, .int 1), (0, .ref h0), (1, .int p0), (2, .int 0)]) hx hb dX12_goes_7 rfl hl (by decide) rfl (fun ls hl => ?_)
  refine lv_iload_n hx hb dX12_goes_8 rfl (lv_at hl 0 rfl) ?_
  refine lv_if_eq (tgt := 17) hx hb dX12_goes_9 (by decide) (fun c => absurd c (by decide +kernel)) (fun _ => ?_)
  refine lv_bipush (v := (-10)) hx hb dX12_goes_12 (by decide) ?_
  refine lv_iload_n hx hb dX12_goes_14 rfl (lv_at hl 0 rfl) ?_
  refine lv_isub hx hb dX12_goes_15 ?_
  refine q_c (-11) (by decide +kernel) ?_
  exact q_iret X hr hlk hK h rfl (fun _ => 0, fun _ _ => 0, fun _ _ => 0) rfl [0, 1] rfl rfl dX12_goes_16 (Nat.le_of_ble_eq_true rfl) (Nat.le_of_ble_eq_true rfl)
set_option maxHeartbeats 4000000 in
set_option maxRecDepth 100000 in
theorem kX12_call_476 (l : Launch) (D : va_G) (cy : Nat → ClassId) (h0 : Nat) (h1 : Nat) (p0 : Int32) (h2 : Nat) (h3 : Nat) (h4 : Nat) (h5 : Nat) (h6 : Nat) (h7 : Nat) (h8 : Nat) (h9 : Nat) (h10 : Nat) (h11 : Nat) (h12 : Nat) (h13 : Nat) (h14 : Nat) (h15 : Nat) (h16 : Nat) (h17 : Nat) (h18 : Nat) (h19 : Nat) (h20 : Nat) (f0 : Nat → Int32) (hlo_p0 : (0 : Int32) ≤ p0) (hf_f0_2 : f0 (Int32.toNatClampNeg 2) = 0) (sz : Nat) : MI l yX12_call cX12_call 2 .int { frames := 4, cells := 0, slots := 0, locals := 93 } [.ref h0, .int p0] D cy [(h0, .inr (12, [.int 0, .ref h1, .ref h2, .ref h3, .ref h4, .int 0, .int 0, .int 0, .int 0, .int 0, .int 0, .int 0, .int 0, .int 0, .int (-1), .int 0, .ref h5, .ref h6, .ref h7, .ref h8, .ref h9, .int 0, .int 0, .ref h10, .ref h11, .ref h12, .int 0, .int 0, .ref h13, .ref h14, .ref h15, .ref h16, .ref h17, .int 0, .ref h18, .ref h19, .ref h20])), (h1, .inl (cy 1, 3918, .inl f0))] sz (fun r u => r = (-11)) (fun u => [(h0, .inr (12, [.int 0, .ref h1, .ref h2, .ref h3, .ref h4, .int 0, .int 0, .int 0, .int 0, .int 0, .int 0, .int 0, .int 0, .int 0, .int (-1), .int 0, .ref h5, .ref h6, .ref h7, .ref h8, .ref h9, .int 0, .int 0, .ref h10, .ref h11, .ref h12, .int 0, .int 0, .ref h13, .ref h14, .ref h15, .ref h16, .ref h17, .int 0, .ref h18, .ref h19, .ref h20])), (h1, .inl (cy 1, 3918, .inl f0))]) 0 0 := by
  refine q_ent (own := RX12) (by decide) rfl (Nat.le_of_ble_eq_true rfl) (fun p e s m below meth c ls X hr hlk hnm hK h hA hl => ?_)
  obtain ⟨hx, hb, hml, hown, ht⟩ := id X
  have hl : lv_has ls 2 [(0, .ref h0), (1, .int p0)] := hl
  refine lv_aload_n hx hb dX12_call_0 rfl (lv_at hl 0 rfl) ?_
  refine lv_iconst (v := 0) hx hb dX12_call_1 (by decide) ?_
  refine q_put (v := .int 0) X hK h 0 rfl rfl wf_12 tyX12 tyX12_ok nmX12 0 (by decide) wm_5_170 rfl rfl rfl (Nat.le_of_ble_eq_true rfl) dX12_call_2 (fun H locs h => ?_)
  have h : qW D _ _ [(h0, .inr (12, [.int 0, .ref h1, .ref h2, .ref h3, .ref h4, .int 0, .int 0, .int 0, .int 0, .int 0, .int 0, .int 0, .int 0, .int 0, .int (-1), .int 0, .ref h5, .ref h6, .ref h7, .ref h8, .ref h9, .int 0, .int 0, .ref h10, .ref h11, .ref h12, .int 0, .int 0, .ref h13, .ref h14, .ref h15, .ref h16, .ref h17, .int 0, .ref h18, .ref h19, .ref h20])), (h1, .inl (cy 1, 3918, .inl f0))] _ _ := h
  refine lv_aload_n hx hb dX12_call_5 rfl (lv_at hl 0 rfl) ?_
  refine lv_iload_n hx hb dX12_call_6 rfl (lv_at hl 1 rfl) ?_
  refine lv_iconst (v := 0) hx hb dX12_call_7 (by decide) ?_
  have g_6099 : (0 : Int32) ≤ p0 := by
    simp only [Int32.lt_iff_toInt_lt, Int32.le_iff_toInt_le, ← Int32.toInt_inj] at hlo_p0 ⊢
    have k_0 : (0 : Int32).toInt = 0 := by decide
    omega
  refine q_callVi (rest := []) (wr := []) X hK hA h (fun sz => kX12_goes_475 l D cy h0 h1 p0 h2 h3 h4 h5 h6 h7 h8 h9 h10 h11 h12 h13 h14 h15 h16 h17 h18 h19 h20 f0 g_6099 hf_f0_2 sz) wm_7_0 wm_7_3 wm_1_12 hd_X12_goes wm_7_2 wp_6_4 (ci := 12) (q0 := 0) rfl rfl ⟨Nat.le_of_ble_eq_true rfl, Nat.le_of_ble_eq_true rfl⟩ hl.1 rfl (Nat.le_of_ble_eq_true rfl) dX12_call_8 ⟨Nat.le_of_ble_eq_true rfl, Nat.le_of_ble_eq_true rfl⟩ [0, 1] [] rfl rfl (by decide) rfl rfl (fun r_6100 u_6100 H locs w_6100 h => ?_)
  obtain rfl : r_6100 = (-11) := w_6100
  have h : qW D _ _ [(h0, .inr (12, [.int 0, .ref h1, .ref h2, .ref h3, .ref h4, .int 0, .int 0, .int 0, .int 0, .int 0, .int 0, .int 0, .int 0, .int 0, .int (-1), .int 0, .ref h5, .ref h6, .ref h7, .ref h8, .ref h9, .int 0, .int 0, .ref h10, .ref h11, .ref h12, .int 0, .int 0, .ref h13, .ref h14, .ref h15, .ref h16, .ref h17, .int 0, .ref h18, .ref h19, .ref h20])), (h1, .inl (cy 1, 3918, .inl f0))] _ _ := h
  exact q_iret X hr hlk hK h rfl (fun _ => 0, fun _ _ => 0, fun _ _ => 0) rfl [0, 1] rfl rfl dX12_call_11 (Nat.le_of_ble_eq_true rfl) (Nat.le_of_ble_eq_true rfl)
set_option maxHeartbeats 4000000 in
set_option maxRecDepth 100000 in
theorem kX12_within_477 (l : Launch) (D : va_G) (cy : Nat → ClassId) (j0 : Int64) (hhi_j0 : j0 ≤ (0 : Int64)) (sz : Nat) : MI l yX12_within cX12_within 6 .boolean { frames := 0, cells := 0, slots := 0, locals := 0 } [.long j0, .long 1, .long 99] D cy [] sz (fun r u => r = 0) (fun u => []) 0 0 := by
  refine q_ent (own := RX12) (by decide) rfl (Nat.le_of_ble_eq_true rfl) (fun p e s m below meth c ls X hr hlk hnm hK h hA hl => ?_)
  obtain ⟨hx, hb, hml, hown, ht⟩ := id X
  have hl : lv_has ls 6 [(0, .long j0), (2, .long 1), (4, .long 99)] := hl
  refine lv_lload_n hx hb dX12_within_0 rfl (lv_at hl 0 rfl) ?_
  refine lv_lload_n hx hb dX12_within_1 rfl (lv_at hl 1 rfl) ?_
  refine W.lcmp hx hb dX12_within_2 ?_
  refine lv_if_lt (tgt := 17) hx hb dX12_within_3 (by decide) (fun c_6103 => ?_) (fun c_6103 => ?_)
  · refine lv_iconst (v := 0) hx hb dX12_within_17 (by decide) ?_
    exact q_iret X hr hlk hK h rfl (fun _ => 0, fun _ _ => 0, fun _ _ => 0) rfl [] rfl rfl dX12_within_18 (Nat.le_of_ble_eq_true rfl) (Nat.le_of_ble_eq_true rfl)
  · exfalso
    simp only [q_lc_lt, q_lc_ge, q_lc_gt, q_lc_le, q_lc_eq, Int32.toInt_toInt64, Int64.lt_iff_toInt_lt, Int64.le_iff_toInt_le, ← Int64.toInt_inj, Int32.lt_iff_toInt_lt, Int32.le_iff_toInt_le, ← Int32.toInt_inj] at hhi_j0 c_6103
    have k_0 : (0 : Int64).toInt = 0 := by decide
    have k_1 : (1 : Int64).toInt = 1 := by decide
    omega
set_option maxHeartbeats 4000000 in
set_option maxRecDepth 100000 in
theorem kX12_days_478 (l : Launch) (D : va_G) (cy : Nat → ClassId) (h0 : Nat) (p0 : Int32) (h1 : Nat) (h2 : Nat) (h3 : Nat) (h4 : Nat) (h5 : Nat) (h6 : Nat) (h7 : Nat) (h8 : Nat) (h9 : Nat) (h10 : Nat) (h11 : Nat) (h12 : Nat) (h13 : Nat) (h14 : Nat) (h15 : Nat) (h16 : Nat) (h17 : Nat) (h18 : Nat) (h19 : Nat) (h20 : Nat) (hhi_p0 : p0 ≤ (0 : Int32)) (sz : Nat) : MI l yX12_days cX12_days 2 .int { frames := 1, cells := 0, slots := 0, locals := 25 } [.ref h0, .int p0] D cy [(h0, .inr (12, [.int 0, .ref h1, .ref h2, .ref h3, .ref h4, .int 0, .int 0, .int 0, .int 0, .int 0, .int 0, .int 0, .int 0, .int 0, .int (-1), .int 0, .ref h5, .ref h6, .ref h7, .ref h8, .ref h9, .int 0, .int 0, .ref h10, .ref h11, .ref h12, .int 0, .int 0, .ref h13, .ref h14, .ref h15, .ref h16, .ref h17, .int 0, .ref h18, .ref h19, .ref h20]))] sz (fun r u => r = (-3)) (fun u => [(h0, .inr (12, [.int 0, .ref h1, .ref h2, .ref h3, .ref h4, .int 0, .int 0, .int 0, .int 0, .int 0, .int 0, .int 0, .int 0, .int 0, .int (-1), .int 0, .ref h5, .ref h6, .ref h7, .ref h8, .ref h9, .int 0, .int 0, .ref h10, .ref h11, .ref h12, .int 0, .int 0, .ref h13, .ref h14, .ref h15, .ref h16, .ref h17, .int 0, .ref h18, .ref h19, .ref h20]))]) 0 0 := by
  refine q_ent (own := RX12) (by decide) rfl (Nat.le_of_ble_eq_true rfl) (fun p e s m below meth c ls X hr hlk hnm hK h hA hl => ?_)
  obtain ⟨hx, hb, hml, hown, ht⟩ := id X
  have hl : lv_has ls 2 [(0, .ref h0), (1, .int p0)] := hl
  refine lv_aload_n hx hb dX12_days_0 rfl (lv_at hl 0 rfl) ?_
  refine lv_iconst (v := 0) hx hb dX12_days_1 (by decide) ?_
  refine q_put (v := .int 0) X hK h 0 rfl rfl wf_12 tyX12 tyX12_ok nmX12 0 (by decide) wm_5_170 rfl rfl rfl (Nat.le_of_ble_eq_true rfl) dX12_days_2 (fun H locs h => ?_)
  have h : qW D _ _ [(h0, .inr (12, [.int 0, .ref h1, .ref h2, .ref h3, .ref h4, .int 0, .int 0, .int 0, .int 0, .int 0, .int 0, .int 0, .int 0, .int 0, .int (-1), .int 0, .ref h5, .ref h6, .ref h7, .ref h8, .ref h9, .int 0, .int 0, .ref h10, .ref h11, .ref h12, .int 0, .int 0, .ref h13, .ref h14, .ref h15, .ref h16, .ref h17, .int 0, .ref h18, .ref h19, .ref h20]))] _ _ := h
  refine lv_iload_n hx hb dX12_days_5 rfl (lv_at hl 1 rfl) ?_
  refine lv_i2l hx hb dX12_days_6 rfl ?_
  refine lv_lconst (v := 1) hx hb dX12_days_7 (by decide) ?_
  refine lv_ldc2 hx hb hown (ht _ wm_7_19) dX12_days_8 ?_
  have g_6110 : ((p0).toInt64) ≤ (0 : Int64) := by
    simp only [q_lc_lt, q_lc_ge, q_lc_gt, q_lc_le, q_lc_eq, Int32.toInt_toInt64, Int64.lt_iff_toInt_lt, Int64.le_iff_toInt_le, ← Int64.toInt_inj, Int32.lt_iff_toInt_lt, Int32.le_iff_toInt_le, ← Int32.toInt_inj] at hhi_p0 ⊢
    have k_0 : (0 : Int32).toInt = 0 := by decide
    have k_g : (0 : Int64).toInt = 0 := by decide
    omega
  refine q_callSi (rest := []) (wr := [(h0, .inr (12, [.int 0, .ref h1, .ref h2, .ref h3, .ref h4, .int 0, .int 0, .int 0, .int 0, .int 0, .int 0, .int 0, .int 0, .int 0, .int (-1), .int 0, .ref h5, .ref h6, .ref h7, .ref h8, .ref h9, .int 0, .int 0, .ref h10, .ref h11, .ref h12, .int 0, .int 0, .ref h13, .ref h14, .ref h15, .ref h16, .ref h17, .int 0, .ref h18, .ref h19, .ref h20]))]) X hK hA h (fun sz => kX12_within_477 l D cy ((p0).toInt64) g_6110 sz) wm_6_50 wm_6_52 wm_1_12 hd_X12_within wm_6_51 ⟨Nat.le_of_ble_eq_true rfl, Nat.le_of_ble_eq_true rfl⟩ hl.1 rfl (Nat.le_of_ble_eq_true rfl) dX12_days_11 ⟨Nat.le_of_ble_eq_true rfl, Nat.le_of_ble_eq_true rfl⟩ [] [0] rfl rfl (by decide) rfl rfl (fun r_6111 u_6111 H locs w_6111 h => ?_)
  obtain rfl : r_6111 = 0 := w_6111
  have h : qW D _ _ [(h0, .inr (12, [.int 0, .ref h1, .ref h2, .ref h3, .ref h4, .int 0, .int 0, .int 0, .int 0, .int 0, .int 0, .int 0, .int 0, .int 0, .int (-1), .int 0, .ref h5, .ref h6, .ref h7, .ref h8, .ref h9, .int 0, .int 0, .ref h10, .ref h11, .ref h12, .int 0, .int 0, .ref h13, .ref h14, .ref h15, .ref h16, .ref h17, .int 0, .ref h18, .ref h19, .ref h20]))] _ _ := h
  refine lv_if_ne (tgt := 20) hx hb dX12_days_14 (by decide) (fun c => absurd c (by decide +kernel)) (fun _ => ?_)
  refine lv_bipush (v := (-3)) hx hb dX12_days_17 (by decide) ?_
  exact q_iret X hr hlk hK h rfl (fun _ => 0, fun _ _ => 0, fun _ _ => 0) rfl [0] rfl rfl dX12_days_19 (Nat.le_of_ble_eq_true rfl) (Nat.le_of_ble_eq_true rfl)
set_option maxHeartbeats 4000000 in
set_option maxRecDepth 100000 in
theorem kX12_within_479 (l : Launch) (D : va_G) (cy : Nat → ClassId) (j0 : Int64) (hlo_j0 : (1 : Int64) ≤ j0) (hhi_j0 : j0 ≤ (99 : Int64)) (sz : Nat) : MI l yX12_within cX12_within 6 .boolean { frames := 0, cells := 0, slots := 0, locals := 0 } [.long j0, .long 1, .long 99] D cy [] sz (fun r u => r = 1) (fun u => []) 0 0 := by
  refine q_ent (own := RX12) (by decide) rfl (Nat.le_of_ble_eq_true rfl) (fun p e s m below meth c ls X hr hlk hnm hK h hA hl => ?_)
  obtain ⟨hx, hb, hml, hown, ht⟩ := id X
  have hl : lv_has ls 6 [(0, .long j0), (2, .long 1), (4, .long 99)] := hl
  refine lv_lload_n hx hb dX12_within_0 rfl (lv_at hl 0 rfl) ?_
  refine lv_lload_n hx hb dX12_within_1 rfl (lv_at hl 1 rfl) ?_
  refine W.lcmp hx hb dX12_within_2 ?_
  refine lv_if_lt (tgt := 17) hx hb dX12_within_3 (by decide) (fun c_6116 => ?_) (fun c_6116 => ?_)
  · exfalso
    simp only [q_lc_lt, q_lc_ge, q_lc_gt, q_lc_le, q_lc_eq, Int32.toInt_toInt64, Int64.lt_iff_toInt_lt, Int64.le_iff_toInt_le, ← Int64.toInt_inj, Int32.lt_iff_toInt_lt, Int32.le_iff_toInt_le, ← Int32.toInt_inj] at hlo_j0 hhi_j0 c_6116
    have k_0 : (1 : Int64).toInt = 1 := by decide
    have k_1 : (99 : Int64).toInt = 99 := by decide
    omega
  · refine lv_lload_n hx hb dX12_within_6 rfl (lv_at hl 0 rfl) ?_
    refine lv_lload hx hb dX12_within_7 (lv_at hl 2 rfl) ?_
    refine W.lcmp hx hb dX12_within_9 ?_
    refine lv_if_gt (tgt := 17) hx hb dX12_within_10 (by decide) (fun c_6117 => ?_) (fun c_6117 => ?_)
    · exfalso
      simp only [q_lc_lt, q_lc_ge, q_lc_gt, q_lc_le, q_lc_eq, Int32.toInt_toInt64, Int64.lt_iff_toInt_lt, Int64.le_iff_toInt_le, ← Int64.toInt_inj, Int32.lt_iff_toInt_lt, Int32.le_iff_toInt_le, ← Int32.toInt_inj] at hlo_j0 hhi_j0 c_6116 c_6117
      have k_0 : (1 : Int64).toInt = 1 := by decide
      have k_1 : (99 : Int64).toInt = 99 := by decide
      omega
    · refine lv_iconst (v := 1) hx hb dX12_within_13 (by decide) ?_
      refine lv_goto (tgt := 18) hx hb dX12_within_14 (by decide) ?_
      exact q_iret X hr hlk hK h rfl (fun _ => 0, fun _ _ => 0, fun _ _ => 0) rfl [] rfl rfl dX12_within_18 (Nat.le_of_ble_eq_true rfl) (Nat.le_of_ble_eq_true rfl)
