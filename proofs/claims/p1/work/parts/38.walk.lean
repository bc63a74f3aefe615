set_option maxHeartbeats 4000000 in
set_option maxRecDepth 100000 in
theorem kX12_ayes_636 (l : Launch) (D : va_G) (cy : Nat → ClassId) (h0 : Nat) (h1 : Nat) (p0 : Int32) (h2 : Nat) (h3 : Nat) (h4 : Nat) (h5 : Nat) (h6 : Nat) (h7 : Nat) (h8 : Nat) (h9 : Nat) (h10 : Nat) (h11 : Nat) (h12 : Nat) (h13 : Nat) (h14 : Nat) (h15 : Nat) (h16 : Nat) (h17 : Nat) (h18 : Nat) (h19 : Nat) (h20 : Nat) (f0 : Nat → Int32) (hlo_p0 : (0 : Int32) ≤ p0) (hhi_p0 : p0 ≤ (9 : Int32)) (hf_f0_2 : f0 (Int32.toNatClampNeg 2) = 0) (hf_f0_52 : f0 (Int32.toNatClampNeg 52) = 0) (hf_f0_53 : f0 (Int32.toNatClampNeg 53) = 0) (sz : Nat) : MI l yX12_ayes cX12_ayes 2 .int { frames := 2, cells := 0, slots := 0, locals := 45 } [.ref h0, .int p0] D cy [(h0, .inr (12, [.int 0, .ref h1, .ref h2, .ref h3, .ref h4, .int 0, .int 0, .int 0, .int 0, .int 0, .int 0, .int 0, .int 0, .int 0, .int (-1), .int 0, .ref h5, .ref h6, .ref h7, .ref h8, .ref h9, .int 0, .int 0, .ref h10, .ref h11, .ref h12, .int 0, .int 0, .ref h13, .ref h14, .ref h15, .ref h16, .ref h17, .int 0, .ref h18, .ref h19, .ref h20])), (h1, .inl (cy 1, 3918, .inl f0))] sz (fun r u => r = 0) (fun u => [(h0, .inr (12, [.int 0, .ref h1, .ref h2, .ref h3, .ref h4, .int 0, .int 0, .int 0, .int 0, .int 0, .int 0, .int 0, .int 0, .int 0, .int (-1), .int 0, .ref h5, .ref h6, .ref h7, .ref h8, .ref h9, .int 0, .int 0, .ref h10, .ref h11, .ref h12, .int 0, .int 0, .ref h13, .ref h14, .ref h15, .ref h16, .ref h17, .int 0, .ref h18, .ref h19, .ref h20])), (h1, .inl (cy 1, 3918, .inl f0))]) 0 0 := by
  refine q_ent (own := RX12) (by decide) rfl (Nat.le_of_ble_eq_true rfl) (fun p e s m below meth c ls X hr hlk hnm hK h hA hl => ?_)
  obtain ⟨hx, hb, hml, hown, ht⟩ := id X
  have hl : lv_has ls 2 [(0, .ref h0), (1, .int p0)] := hl
  refine lv_aload_n hx hb dX12_ayes_0 rfl (lv_at hl 0 rfl) ?_
  refine lv_iconst (v := 0) hx hb dX12_ayes_1 (by decide) ?_
  refine q_put (v := .int 0) X hK h 0 rfl rfl wf_12 tyX12 tyX12_ok nmX12 0 (by decide) wm_5_170 rfl rfl rfl (Nat.le_of_ble_eq_true rfl) dX12_ayes_2 (fun H locs h => ?_)
  have h : qW D _ _ [(h0, .inr (12, [.int 0, .ref h1, .ref h2, .ref h3, .ref h4, .int 0, .int 0, .int 0, .int 0, .int 0, .int 0, .int 0, .int 0, .int 0, .int (-1), .int 0, .ref h5, .ref h6, .ref h7, .ref h8, .ref h9, .int 0, .int 0, .ref h10, .ref h11, .ref h12, .int 0, .int 0, .ref h13, .ref h14, .ref h15, .ref h16, .ref h17, .int 0, .ref h18, .ref h19, .ref h20])), (h1, .inl (cy 1, 3918, .inl f0))] _ _ := h
  refine lv_iload_n hx hb dX12_ayes_5 rfl (lv_at hl 1 rfl) ?_
  have g_9285 : (0 : Int32) ≤ p0 := by
    simp only [Int32.lt_iff_toInt_lt, Int32.le_iff_toInt_le, ← Int32.toInt_inj] at hlo_p0 hhi_p0 ⊢
    have k_0 : (0 : Int32).toInt = 0 := by decide
    have k_1 : (9 : Int32).toInt = 9 := by decide
    omega
  have g_9286 : p0 ≤ (9 : Int32) := by
    simp only [Int32.lt_iff_toInt_lt, Int32.le_iff_toInt_le, ← Int32.toInt_inj] at hlo_p0 hhi_p0 ⊢
    have k_0 : (0 : Int32).toInt = 0 := by decide
    have k_1 : (9 : Int32).toInt = 9 := by decide
    omega
  refine q_callSi (rest := []) (wr := [(h0, .inr (12, [.int 0, .ref h1, .ref h2, .ref h3, .ref h4, .int 0, .int 0, .int 0, .int 0, .int 0, .int 0, .int 0, .int 0, .int 0, .int (-1), .int 0, .ref h5, .ref h6, .ref h7, .ref h8, .ref h9, .int 0, .int 0, .ref h10, .ref h11, .ref h12, .int 0, .int 0, .ref h13, .ref h14, .ref h15, .ref h16, .ref h17, .int 0, .ref h18, .ref h19, .ref h20])), (h1, .inl (cy 1, 3918, .inl f0))]) X hK hA h (fun sz => kX12_isBill_633 l D cy p0 g_9285 g_9286 sz) wm_7_192 wm_7_194 wm_1_12 hd_X12_isBill wm_7_193 ⟨Nat.le_of_ble_eq_true rfl, Nat.le_of_ble_eq_true rfl⟩ hl.1 rfl (Nat.le_of_ble_eq_true rfl) dX12_ayes_6 ⟨Nat.le_of_ble_eq_true rfl, Nat.le_of_ble_eq_true rfl⟩ [] [0, 1] rfl rfl (by decide) rfl rfl (fun r_9287 u_9287 H locs w_9287 h => ?_)
  obtain rfl : r_9287 = 1 := w_9287
  have h : qW D _ _ [(h0, .inr (12, [.int 0, .ref h1, .ref h2, .ref h3, .ref h4, .int 0, .int 0, .int 0, .int 0, .int 0, .int 0, .int 0, .int 0, .int 0, .int (-1), .int 0, .ref h5, .ref h6, .ref h7, .ref h8, .ref h9, .int 0, .int 0, .ref h10, .ref h11, .ref h12, .int 0, .int 0, .ref h13, .ref h14, .ref h15, .ref h16, .ref h17, .int 0, .ref h18, .ref h19, .ref h20])), (h1, .inl (cy 1, 3918, .inl f0))] _ _ := h
  refine lv_if_eq (tgt := 24) hx hb dX12_ayes_9 (by decide) (fun c => absurd c (by decide +kernel)) (fun _ => ?_)
  refine lv_aload_n hx hb dX12_ayes_12 rfl (lv_at hl 0 rfl) ?_
  refine lv_aload_n hx hb dX12_ayes_13 rfl (lv_at hl 0 rfl) ?_
  refine q_callVi (rest := [.ref h0]) (wr := []) X hK hA h (fun sz => kX12_townNow_606 l D cy h0 h1 h2 h3 h4 h5 h6 h7 h8 h9 h10 h11 h12 h13 h14 h15 h16 h17 h18 h19 h20 f0 hf_f0_2 hf_f0_52 hf_f0_53 sz) wm_6_170 wm_6_173 wm_1_12 hd_X12_townNow wm_6_172 wp_5_9 (ci := 12) (q0 := 0) rfl rfl ⟨Nat.le_of_ble_eq_true rfl, Nat.le_of_ble_eq_true rfl⟩ hl.1 rfl (Nat.le_of_ble_eq_true rfl) dX12_ayes_14 ⟨Nat.le_of_ble_eq_true rfl, Nat.le_of_ble_eq_true rfl⟩ [0, 1] [] rfl rfl (by decide) rfl rfl (fun r_9289 u_9289 H locs w_9289 h => ?_)
  obtain rfl : r_9289 = 0 := w_9289
  have h : qW D _ _ [(h0, .inr (12, [.int 0, .ref h1, .ref h2, .ref h3, .ref h4, .int 0, .int 0, .int 0, .int 0, .int 0, .int 0, .int 0, .int 0, .int 0, .int (-1), .int 0, .ref h5, .ref h6, .ref h7, .ref h8, .ref h9, .int 0, .int 0, .ref h10, .ref h11, .ref h12, .int 0, .int 0, .ref h13, .ref h14, .ref h15, .ref h16, .ref h17, .int 0, .ref h18, .ref h19, .ref h20])), (h1, .inl (cy 1, 3918, .inl f0))] _ _ := h
  refine lv_iload_n hx hb dX12_ayes_17 rfl (lv_at hl 1 rfl) ?_
  have g_9290 : (0 : Int32) ≤ p0 := by
    simp only [Int32.lt_iff_toInt_lt, Int32.le_iff_toInt_le, ← Int32.toInt_inj] at hlo_p0 hhi_p0 ⊢
    have k_0 : (0 : Int32).toInt = 0 := by decide
    have k_1 : (9 : Int32).toInt = 9 := by decide
    omega
  have g_9291 : p0 ≤ (9 : Int32) := by
    simp only [Int32.lt_iff_toInt_lt, Int32.le_iff_toInt_le, ← Int32.toInt_inj] at hlo_p0 hhi_p0 ⊢
    have k_0 : (0 : Int32).toInt = 0 := by decide
    have k_1 : (9 : Int32).toInt = 9 := by decide
    omega
  refine q_callVi (rest := []) (wr := []) X hK hA h (fun sz => kX12_ayesOf_635 l D cy h0 h1 p0 h2 h3 h4 h5 h6 h7 h8 h9 h10 h11 h12 h13 h14 h15 h16 h17 h18 h19 h20 f0 g_9290 g_9291 hf_f0_2 sz) wm_7_195 wm_7_198 wm_1_12 hd_X12_ayesOf wm_7_197 wp_7_12 (ci := 12) (q0 := 0) rfl rfl ⟨Nat.le_of_ble_eq_true rfl, Nat.le_of_ble_eq_true rfl⟩ hl.1 rfl (Nat.le_of_ble_eq_true rfl) dX12_ayes_18 ⟨Nat.le_of_ble_eq_true rfl, Nat.le_of_ble_eq_true rfl⟩ [0, 1] [] rfl rfl (by decide) rfl rfl (fun r_9292 u_9292 H locs w_9292 h => ?_)
  obtain rfl : r_9292 = 0 := w_9292
  have h : qW D _ _ [(h0, .inr (12, [.int 0, .ref h1, .ref h2, .ref h3, .ref h4, .int 0, .int 0, .int 0, .int 0, .int 0, .int 0, .int 0, .int 0, .int 0, .int (-1), .int 0, .ref h5, .ref h6, .ref h7, .ref h8, .ref h9, .int 0, .int 0, .ref h10, .ref h11, .ref h12, .int 0, .int 0, .ref h13, .ref h14, .ref h15, .ref h16, .ref h17, .int 0, .ref h18, .ref h19, .ref h20])), (h1, .inl (cy 1, 3918, .inl f0))] _ _ := h
  refine lv_goto (tgt := 26) hx hb dX12_ayes_21 (by decide) ?_
  exact q_iret X hr hlk hK h rfl (fun _ => 0, fun _ _ => 0, fun _ _ => 0) rfl [0, 1] rfl rfl dX12_ayes_26 (Nat.le_of_ble_eq_true rfl) (Nat.le_of_ble_eq_true rfl)
set_option maxHeartbeats 4000000 in
set_option maxRecDepth 100000 in
theorem kX12_within_637 (l : Launch) (D : va_G) (cy : Nat → ClassId) (j0 : Int64) (hlo_j0 : (10 : Int64) ≤ j0) (sz : Nat) : MI l yX12_within cX12_within 6 .boolean { frames := 0, cells := 0, slots := 0, locals := 0 } [.long j0, .long 0, .long 9] D cy [] sz (fun r u => r = 0) (fun u => []) 0 0 := by
  refine q_ent (own := RX12) (by decide) rfl (Nat.le_of_ble_eq_true rfl) (fun p e s m below meth c ls X hr hlk hnm hK h hA hl => ?_)
  obtain ⟨hx, hb, hml, hown, ht⟩ := id X
  have hl : lv_has ls 6 [(0, .long j0), (2, .long 0), (4, .long 9)] := hl
  refine lv_lload_n hx hb dX12_within_0 rfl (lv_at hl 0 rfl) ?_
  refine lv_lload_n hx hb dX12_within_1 rfl (lv_at hl 1 rfl) ?_
  refine W.lcmp hx hb dX12_within_2 ?_
  refine lv_if_lt (tgt := 17) hx hb dX12_within_3 (by decide) (fun c_9297 => ?_) (fun c_9297 => ?_)
  · exfalso
    simp only [q_lc_lt, q_lc_ge, q_lc_gt, q_lc_le, q_lc_eq, Int32.toInt_toInt64, Int64.lt_iff_toInt_lt, Int64.le_iff_toInt_le, ← Int64.toInt_inj, Int32.lt_iff_toInt_lt, Int32.le_iff_toInt_le, ← Int32.toInt_inj] at hlo_j0 c_9297
    have k_0 : (10 : Int64).toInt = 10 := by decide
    have k_1 : (0 : Int64).toInt = 0 := by decide
    omega
  · refine lv_lload_n hx hb dX12_within_6 rfl (lv_at hl 0 rfl) ?_
    refine lv_lload hx hb dX12_within_7 (lv_at hl 2 rfl) ?_
    refine W.lcmp hx hb dX12_within_9 ?_
    refine lv_if_gt (tgt := 17) hx hb dX12_within_10 (by decide) (fun c_9298 => ?_) (fun c_9298 => ?_)
    · refine lv_iconst (v := 0) hx hb dX12_within_17 (by decide) ?_
      exact q_iret X hr hlk hK h rfl (fun _ => 0, fun _ _ => 0, fun _ _ => 0) rfl [] rfl rfl dX12_within_18 (Nat.le_of_ble_eq_true rfl) (Nat.le_of_ble_eq_true rfl)
    · exfalso
      simp only [q_lc_lt, q_lc_ge, q_lc_gt, q_lc_le, q_lc_eq, Int32.toInt_toInt64, Int64.lt_iff_toInt_lt, Int64.le_iff_toInt_le, ← Int64.toInt_inj, Int32.lt_iff_toInt_lt, Int32.le_iff_toInt_le, ← Int32.toInt_inj] at hlo_j0 c_9297 c_9298
      have k_0 : (10 : Int64).toInt = 10 := by decide
      have k_1 : (0 : Int64).toInt = 0 := by decide
      have k_2 : (9 : Int64).toInt = 9 := by decide
      omega
set_option maxHeartbeats 4000000 in
set_option maxRecDepth 100000 in
theorem kX12_isBill_638 (l : Launch) (D : va_G) (cy : Nat → ClassId) (p0 : Int32) (hlo_p0 : (10 : Int32) ≤ p0) (sz : Nat) : MI l yX12_isBill cX12_isBill 1 .boolean { frames := 1, cells := 0, slots := 0, locals := 25 } [.int p0] D cy [] sz (fun r u => r = 0) (fun u => []) 0 0 := by
  refine q_ent (own := RX12) (by decide) rfl (Nat.le_of_ble_eq_true rfl) (fun p e s m below meth c ls X hr hlk hnm hK h hA hl => ?_)
  obtain ⟨hx, hb, hml, hown, ht⟩ := id X
  have hl : lv_has ls 1 [(0, .int p0)] := hl
  refine lv_iload_n hx hb dX12_isBill_0 rfl (lv_at hl 0 rfl) ?_
  refine lv_i2l hx hb dX12_isBill_1 rfl ?_
  refine lv_lconst (v := 0) hx hb dX12_isBill_2 (by decide) ?_
  refine lv_ldc2 hx hb hown (ht _ wm_6_109) dX12_isBill_3 ?_
  have g_9307 : (10 : Int64) ≤ ((p0).toInt64) := by
    simp only [q_lc_lt, q_lc_ge, q_lc_gt, q_lc_le, q_lc_eq, Int32.toInt_toInt64, Int64.lt_iff_toInt_lt, Int64.le_iff_toInt_le, ← Int64.toInt_inj, Int32.lt_iff_toInt_lt, Int32.le_iff_toInt_le, ← Int32.toInt_inj] at hlo_p0 ⊢
    have k_0 : (10 : Int32).toInt = 10 := by decide
    have k_g : (10 : Int64).toInt = 10 := by decide
    omega
  refine q_callSi (rest := []) (wr := []) X hK hA h (fun sz => kX12_within_637 l D cy ((p0).toInt64) g_9307 sz) wm_6_50 wm_6_52 wm_1_12 hd_X12_within wm_6_51 ⟨Nat.le_of_ble_eq_true rfl, Nat.le_of_ble_eq_true rfl⟩ hl.1 rfl (Nat.le_of_ble_eq_true rfl) dX12_isBill_6 ⟨Nat.le_of_ble_eq_true rfl, Nat.le_of_ble_eq_true rfl⟩ [] [] rfl rfl (by decide) rfl rfl (fun r_9308 u_9308 H locs w_9308 h => ?_)
  obtain rfl : r_9308 = 0 := w_9308
  have h : qW D _ _ [] _ _ := h
  exact q_iret X hr hlk hK h rfl (fun _ => 0, fun _ _ => 0, fun _ _ => 0) rfl [] rfl rfl dX12_isBill_9 (Nat.le_of_ble_eq_true rfl) (Nat.le_of_ble_eq_true rfl)
set_option maxHeartbeats 4000000 in
set_option maxRecDepth 100000 in
theorem kX12_ayes_639 (l : Launch) (D : va_G) (cy : Nat → ClassId) (h0 : Nat) (p0 : Int32) (h1 : Nat) (h2 : Nat) (h3 : Nat) (h4 : Nat) (h5 : Nat) (h6 : Nat) (h7 : Nat) (h8 : Nat) (h9 : Nat) (h10 : Nat) (h11 : Nat) (h12 : Nat) (h13 : Nat) (h14 : Nat) (h15 : Nat) (h16 : Nat) (h17 : Nat) (h18 : Nat) (h19 : Nat) (h20 : Nat) (hlo_p0 : (10 : Int32) ≤ p0) (sz : Nat) : MI l yX12_ayes cX12_ayes 2 .int { frames := 2, cells := 0, slots := 0, locals := 45 } [.ref h0, .int p0] D cy [(h0, .inr (12, [.int 0, .ref h1, .ref h2, .ref h3, .ref h4, .int 0, .int 0, .int 0, .int 0, .int 0, .int 0, .int 0, .int 0, .int 0, .int (-1), .int 0, .ref h5, .ref h6, .ref h7, .ref h8, .ref h9, .int 0, .int 0, .ref h10, .ref h11, .ref h12, .int 0, .int 0, .ref h13, .ref h14, .ref h15, .ref h16, .ref h17, .int 0, .ref h18, .ref h19, .ref h20]))] sz (fun r u => r = (-3)) (fun u => [(h0, .inr (12, [.int 0, .ref h1, .ref h2, .ref h3, .ref h4, .int 0, .int 0, .int 0, .int 0, .int 0, .int 0, .int 0, .int 0, .int 0, .int (-1), .int 0, .ref h5, .ref h6, .ref h7, .ref h8, .ref h9, .int 0, .int 0, .ref h10, .ref h11, .ref h12, .int 0, .int 0, .ref h13, .ref h14, .ref h15, .ref h16, .ref h17, .int 0, .ref h18, .ref h19, .ref h20]))]) 0 0 := by
  refine q_ent (own := RX12) (by decide) rfl (Nat.le_of_ble_eq_true rfl) (fun p e s m below meth c ls X hr hlk hnm hK h hA hl => ?_)
  obtain ⟨hx, hb, hml, hown, ht⟩ := id X
  have hl : lv_has ls 2 [(0, .ref h0), (1, .int p0)] := hl
  refine lv_aload_n hx hb dX12_ayes_0 rfl (lv_at hl 0 rfl) ?_
  refine lv_iconst (v := 0) hx hb dX12_ayes_1 (by decide) ?_
  refine q_put (v := .int 0) X hK h 0 rfl rfl wf_12 tyX12 tyX12_ok nmX12 0 (by decide) wm_5_170 rfl rfl rfl (Nat.le_of_ble_eq_true rfl) dX12_ayes_2 (fun H locs h => ?_)
  have h : qW D _ _ [(h0, .inr (12, [.int 0, .ref h1, .ref h2, .ref h3, .ref h4, .int 0, .int 0, .int 0, .int 0, .int 0, .int 0, .int 0, .int 0, .int 0, .int (-1), .int 0, .ref h5, .ref h6, .ref h7, .ref h8, .ref h9, .int 0, .int 0, .ref h10, .ref h11, .ref h12, .int 0, .int 0, .ref h13, .ref h14, .ref h15, .ref h16, .ref h17, .int 0, .ref h18, .ref h19, .ref h20]))] _ _ := h
  refine lv_iload_n hx hb dX12_ayes_5 rfl (lv_at hl 1 rfl) ?_
  have g_9321 : (10 : Int32) ≤ p0 := by
    simp only [Int32.lt_iff_toInt_lt, Int32.le_iff_toInt_le, ← Int32.toInt_inj] at hlo_p0 ⊢
    have k_0 : (10 : Int32).toInt = 10 := by decide
    omega
  refine q_callSi (rest := []) (wr := [(h0, .inr (12, [.int 0, .ref h1, .ref h2, .ref h3, .ref h4, .int 0, .int 0, .int 0, .int 0, .int 0, .int 0, .int 0, .int 0, .int 0, .int (-1), .int 0, .ref h5, .ref h6, .ref h7, .ref h8, .ref h9, .int 0, .int 0, .ref h10, .ref h11, .ref h12, .int 0, .int 0, .ref h13, .ref h14, .ref h15, .ref h16, .ref h17, .int 0, .ref h18, .ref h19, .ref h20]))]) X hK hA h (fun sz => kX12_isBill_638 l D cy p0 g_9321 sz) wm_7_192 wm_7_194 wm_1_12 hd_X12_isBill wm_7_193 ⟨Nat.le_of_ble_eq_true rfl, Nat.le_of_ble_eq_true rfl⟩ hl.1 rfl (Nat.le_of_ble_eq_true rfl) dX12_ayes_6 ⟨Nat.le_of_ble_eq_true rfl, Nat.le_of_ble_eq_true rfl⟩ [] [0] rfl rfl (by decide) rfl rfl (fun r_9322 u_9322 H locs w_9322 h => ?_)
  obtain rfl : r_9322 = 0 := w_9322
  have h : qW D _ _ [(h0, .inr (12, [.int 0, .ref h1, .ref h2, .ref h3, .ref h4, .int 0, .int 0, .int 0, .int 0, .int 0, .int 0, .int 0, .int 0, .int 0, .int (-1), .int 0, .ref h5, .ref h6, .ref h7, .ref h8, .ref h9, .int 0, .int 0, .ref h10, .ref h11, .ref h12, .int 0, .int 0, .ref h13, .ref h14, .ref h15, .ref h16, .ref h17, .int 0, .ref h18, .ref h19, .ref h20]))] _ _ := h
  refine lv_if_eq (tgt := 24) hx hb dX12_ayes_9 (by decide) (fun _ => ?_) (fun c => absurd c (by decide +kernel))
  refine lv_bipush (v := (-3)) hx hb dX12_ayes_24 (by decide) ?_
  exact q_iret X hr hlk hK h rfl (fun _ => 0, fun _ _ => 0, fun _ _ => 0) rfl [0] rfl rfl dX12_ayes_26 (Nat.le_of_ble_eq_true rfl) (Nat.le_of_ble_eq_true rfl)
set_option maxHeartbeats 4000000 in
set_option maxRecDepth 100000 in
theorem kX12_passes_640 (l : Launch) (D : va_G) (cy : Nat → ClassId) (h0 : Nat) (p0 : Int32) (h1 : Nat) (h2 : Nat) (h3 : Nat) (h4 : Nat) (h5 : Nat) (h6 : Nat) (h7 : Nat) (h8 : Nat) (h9 : Nat) (h10 : Nat) (h11 : Nat) (h12 : Nat) (h13 : Nat) (h14 : Nat) (h15 : Nat) (h16 : Nat) (h17 : Nat) (h18 : Nat) (h19 : Nat) (h20 : Nat) (hhi_p0 : p0 ≤ ((-1) : Int32)) (sz : Nat) : MI l yX12_passes cX12_passes 2 .int { frames := 2, cells := 0, slots := 0, locals := 45 } [.ref h0, .int p0] D cy [(h0, .inr (12, [.int 0, .ref h1, .ref h2, .ref h3, .ref h4, .int 0, .int 0, .int 0, .int 0, .int 0, .int 0, .int 0, .int 0, .int 0, .int (-1), .int 0, .ref h5, .ref h6, .ref h7, .ref h8, .ref h9, .int 0, .int 0, .ref h10, .ref h11, .ref h12, .int 0, .int 0, .ref h13, .ref h14, .ref h15, .ref h16, .ref h17, .int 0, .ref h18, .ref h19, .ref h20]))] sz (fun r u => r = (-3)) (fun u => [(h0, .inr (12, [.int 0, .ref h1, .ref h2, .ref h3, .ref h4, .int 0, .int 0, .int 0, .int 0, .int 0, .int 0, .int 0, .int 0, .int 0, .int (-1), .int 0, .ref h5, .ref h6, .ref h7, .ref h8, .ref h9, .int 0, .int 0, .ref h10, .ref h11, .ref h12, .int 0, .int 0, .ref h13, .ref h14, .ref h15, .ref h16, .ref h17, .int 0, .ref h18, .ref h19, .ref h20]))]) 0 0 := by
  refine q_ent (own := RX12) (by decide) rfl (Nat.le_of_ble_eq_true rfl) (fun p e s m below meth c ls X hr hlk hnm hK h hA hl => ?_)
  obtain ⟨hx, hb, hml, hown, ht⟩ := id X
  have hl : lv_has ls 2 [(0, .ref h0), (1, .int p0)] := hl
  refine lv_aload_n hx hb dX12_passes_0 rfl (lv_at hl 0 rfl) ?_
  refine lv_iconst (v := 0) hx hb dX12_passes_1 (by decide) ?_
  refine q_put (v := .int 0) X hK h 0 rfl rfl wf_12 tyX12 tyX12_ok nmX12 0 (by decide) wm_5_170 rfl rfl rfl (Nat.le_of_ble_eq_true rfl) dX12_passes_2 (fun H locs h => ?_)
  have h : qW D _ _ [(h0, .inr (12, [.int 0, .ref h1, .ref h2, .ref h3, .ref h4, .int 0, .int 0, .int 0, .int 0, .int 0, .int 0, .int 0, .int 0, .int 0, .int (-1), .int 0, .ref h5, .ref h6, .ref h7, .ref h8, .ref h9, .int 0, .int 0, .ref h10, .ref h11, .ref h12, .int 0, .int 0, .ref h13, .ref h14, .ref h15, .ref h16, .ref h17, .int 0, .ref h18, .ref h19, .ref h20]))] _ _ := h
  refine lv_iload_n hx hb dX12_passes_5 rfl (lv_at hl 1 rfl) ?_
  have g_9336 : p0 ≤ ((-1) : Int32) := by
    simp only [Int32.lt_iff_toInt_lt, Int32.le_iff_toInt_le, ← Int32.toInt_inj] at hhi_p0 ⊢
    have k_0 : ((-1) : Int32).toInt = -1 := by decide
    omega
  refine q_callSi (rest := []) (wr := [(h0, .inr (12, [.int 0, .ref h1, .ref h2, .ref h3, .ref h4, .int 0, .int 0, .int 0, .int 0, .int 0, .int 0, .int 0, .int 0, .int 0, .int (-1), .int 0, .ref h5, .ref h6, .ref h7, .ref h8, .ref h9, .int 0, .int 0, .ref h10, .ref h11, .ref h12, .int 0, .int 0, .ref h13, .ref h14, .ref h15, .ref h16, .ref h17, .int 0, .ref h18, .ref h19, .ref h20]))]) X hK hA h (fun sz => kX12_isBill_630 l D cy p0 g_9336 sz) wm_7_192 wm_7_194 wm_1_12 hd_X12_isBill wm_7_193 ⟨Nat.le_of_ble_eq_true rfl, Nat.le_of_ble_eq_true rfl⟩ hl.1 rfl (Nat.le_of_ble_eq_true rfl) dX12_passes_6 ⟨Nat.le_of_ble_eq_true rfl, Nat.le_of_ble_eq_true rfl⟩ [] [0] rfl rfl (by decide) rfl rfl (fun r_9337 u_9337 H locs w_9337 h => ?_)
  obtain rfl : r_9337 = 0 := w_9337
  have h : qW D _ _ [(h0, .inr (12, [.int 0, .ref h1, .ref h2, .ref h3, .ref h4, .int 0, .int 0, .int 0, .int 0, .int 0, .int 0, .int 0, .int 0, .int 0, .int (-1), .int 0, .ref h5, .ref h6, .ref h7, .ref h8, .ref h9, .int 0, .int 0, .ref h10, .ref h11, .ref h12, .int 0, .int 0, .ref h13, .ref h14, .ref h15, .ref h16, .ref h17, .int 0, .ref h18, .ref h19, .ref h20]))] _ _ := h
  refine lv_if_ne (tgt := 15) hx hb dX12_passes_9 (by decide) (fun c => absurd c (by decide +kernel)) (fun _ => ?_)
  refine lv_bipush (v := (-3)) hx hb dX12_passes_12 (by decide) ?_
  exact q_iret X hr hlk hK h rfl (fun _ => 0, fun _ _ => 0, fun _ _ => 0) rfl [0] rfl rfl dX12_passes_14 (Nat.le_of_ble_eq_true rfl) (Nat.le_of_ble_eq_true rfl)
set_option maxHeartbeats 4000000 in
set_option maxRecDepth 100000 in
theorem kX12_passedBy_641 (l : Launch) (D : va_G) (cy : Nat → ClassId) (h0 : Nat) (h1 : Nat) (h2 : Nat) (p0 : Int32) (h3 : Nat) (h4 : Nat) (h5 : Nat) (h6 : Nat) (h7 : Nat) (h8 : Nat) (h9 : Nat) (h10 : Nat) (h11 : Nat) (h12 : Nat) (h13 : Nat) (h14 : Nat) (h15 : Nat) (h16 : Nat) (h17 : Nat) (h18 : Nat) (h19 : Nat) (h20 : Nat) (f0 : Nat → Int32) (f1 : Nat → Int32) (hlo_p0 : (0 : Int32) ≤ p0) (hhi_p0 : p0 ≤ (9 : Int32)) (hf_f0_0 : f0 (Int32.toNatClampNeg 0) = 1) (hf_f1_2 : f1 (Int32.toNatClampNeg 2) = 0) (hf_f1_52 : f1 (Int32.toNatClampNeg 52) = 0) (hf_f1_53 : f1 (Int32.toNatClampNeg 53) = 0) (sz : Nat) : MI l yX12_passedBy cX12_passedBy 7 .int { frames := 2, cells := 0, slots := 0, locals := 43 } [.ref h0, .int p0] D cy [(h0, .inr (12, [.int 0, .ref h2, .ref h3, .ref h4, .ref h5, .int 0, .int 0, .int 0, .int 0, .int 0, .int 0, .int 0, .int 0, .int 0, .int (-1), .int 0, .ref h6, .ref h7, .ref h8, .ref h9, .ref h10, .int 0, .int 0, .ref h1, .ref h11, .ref h12, .int 0, .int 0, .ref h13, .ref h14, .ref h15, .ref h16, .ref h17, .int 0, .ref h18, .ref h19, .ref h20])), (h1, .inl (cy 1, 1024, .inl f0)), (h2, .inl (cy 1, 3918, .inl f1))] sz (fun r u => r = (-1)) (fun u => [(h0, .inr (12, [.int 0, .ref h2, .ref h3, .ref h4, .ref h5, .int 0, .int 0, .int 0, .int 0, .int 0, .int 0, .int 0, .int 0, .int 0, .int (-1), .int 0, .ref h6, .ref h7, .ref h8, .ref h9, .ref h10, .int 0, .int 0, .ref h1, .ref h11, .ref h12, .int 0, .int 0, .ref h13, .ref h14, .ref h15, .ref h16, .ref h17, .int 0, .ref h18, .ref h19, .ref h20])), (h1, .inl (cy 1, 1024, .inl f0)), (h2, .inl (cy 1, 3918, .inl f1))]) 0 0 := by
  refine q_ent (own := RX12) (by decide) rfl (Nat.le_of_ble_eq_true rfl) (fun p e s m below meth c ls X hr hlk hnm hK h hA hl => ?_)
  obtain ⟨hx, hb, hml, hown, ht⟩ := id X
  have hl : lv_has ls 7 [(0, .ref h0), (1, .int p0)] := hl
  refine lv_aload_n hx hb dX12_passedBy_0 rfl (lv_at hl 0 rfl) ?_
  refine q_callVi (rest := []) (wr := [(h1, .inl (cy 1, 1024, .inl f0))]) X hK hA h (fun sz => kX12_townNow_606 l D cy h0 h2 h3 h4 h5 h6 h7 h8 h9 h10 h1 h11 h12 h13 h14 h15 h16 h17 h18 h19 h20 f1 hf_f1_2 hf_f1_52 hf_f1_53 sz) wm_6_170 wm_6_173 wm_1_12 hd_X12_townNow wm_6_172 wp_5_9 (ci := 12) (q0 := 0) rfl rfl ⟨Nat.le_of_ble_eq_true rfl, Nat.le_of_ble_eq_true rfl⟩ hl.1 rfl (Nat.le_of_ble_eq_true rfl) dX12_passedBy_1 ⟨Nat.le_of_ble_eq_true rfl, Nat.le_of_ble_eq_true rfl⟩ [0, 2] [1] rfl rfl (by decide) rfl rfl (fun r_9364 u_9364 H locs w_9364 h => ?_)
  obtain rfl : r_9364 = 0 := w_9364
  have h : qW D _ _ [(h1, .inl (cy 1, 1024, .inl f0)), (h0, .inr (12, [.int 0, .ref h2, .ref h3, .ref h4, .ref h5, .int 0, .int 0, .int 0, .int 0, .int 0, .int 0, .int 0, .int 0, .int 0, .int (-1), .int 0, .ref h6, .ref h7, .ref h8, .ref h9, .ref h10, .int 0, .int 0, .ref h1, .ref h11, .ref h12, .int 0, .int 0, .ref h13, .ref h14, .ref h15, .ref h16, .ref h17, .int 0, .ref h18, .ref h19, .ref h20])), (h2, .inl (cy 1, 3918, .inl f1))] _ _ := h
  refine lv_istore_n (lv' := [(2, .int 0), (0, .ref h0), (1, .int p0)]) hx hb dX12_passedBy_4 rfl hl (by decide) rfl (fun ls hl => ?_)
  refine lv_aload_n hx hb dX12_passedBy_5 rfl (lv_at hl 1 rfl) ?_
  refine lv_iload_n hx hb dX12_passedBy_6 rfl (lv_at hl 0 rfl) ?_
  refine lv_iload_n hx hb dX12_passedBy_7 rfl (lv_at hl 2 rfl) ?_
  have g_9365 : (0 : Int32) ≤ p0 := by
    simp only [Int32.lt_iff_toInt_lt, Int32.le_iff_toInt_le, ← Int32.toInt_inj] at hlo_p0 hhi_p0 ⊢
    have k_0 : (0 : Int32).toInt = 0 := by decide
    have k_1 : (9 : Int32).toInt = 9 := by decide
    omega
  have g_9366 : p0 ≤ (9 : Int32) := by
    simp only [Int32.lt_iff_toInt_lt, Int32.le_iff_toInt_le, ← Int32.toInt_inj] at hlo_p0 hhi_p0 ⊢
    have k_0 : (0 : Int32).toInt = 0 := by decide
    have k_1 : (9 : Int32).toInt = 9 := by decide
    omega
  refine q_callVi (rest := []) (wr := [(h1, .inl (cy 1, 1024, .inl f0))]) X hK hA h (fun sz => kX12_ayesOf_635 l D cy h0 h2 p0 h3 h4 h5 h6 h7 h8 h9 h10 h1 h11 h12 h13 h14 h15 h16 h17 h18 h19 h20 f1 g_9365 g_9366 hf_f1_2 sz) wm_7_195 wm_7_198 wm_1_12 hd_X12_ayesOf wm_7_197 wp_7_12 (ci := 12) (q0 := 0) rfl rfl ⟨Nat.le_of_ble_eq_true rfl, Nat.le_of_ble_eq_true rfl⟩ hl.1 rfl (Nat.le_of_ble_eq_true rfl) dX12_passedBy_8 ⟨Nat.le_of_ble_eq_true rfl, Nat.le_of_ble_eq_true rfl⟩ [1, 2] [0] rfl rfl (by decide) rfl rfl (fun r_9367 u_9367 H locs w_9367 h => ?_)
  obtain rfl : r_9367 = 0 := w_9367
  have h : qW D _ _ [(h1, .inl (cy 1, 1024, .inl f0)), (h0, .inr (12, [.int 0, .ref h2, .ref h3, .ref h4, .ref h5, .int 0, .int 0, .int 0, .int 0, .int 0, .int 0, .int 0, .int 0, .int 0, .int (-1), .int 0, .ref h6, .ref h7, .ref h8, .ref h9, .ref h10, .int 0, .int 0, .ref h1, .ref h11, .ref h12, .int 0, .int 0, .ref h13, .ref h14, .ref h15, .ref h16, .ref h17, .int 0, .ref h18, .ref h19, .ref h20])), (h2, .inl (cy 1, 3918, .inl f1))] _ _ := h
  refine lv_istore_n (lv' := [(3, .int 0), (2, .int 0), (0, .ref h0), (1, .int p0)]) hx hb dX12_passedBy_11 rfl hl (by decide) rfl (fun ls hl => ?_)
  refine lv_iconst (v := (-1)) hx hb dX12_passedBy_12 (by decide) ?_
  refine lv_istore (lv' := [(4, .int (-1)), (3, .int 0), (2, .int 0), (0, .ref h0), (1, .int p0)]) hx hb dX12_passedBy_13 hl (by decide) rfl (fun ls hl => ?_)
  refine lv_iconst (v := 0) hx hb dX12_passedBy_15 (by decide) ?_
  refine lv_istore (lv' := [(5, .int 0), (4, .int (-1)), (3, .int 0), (2, .int 0), (0, .ref h0), (1, .int p0)]) hx hb dX12_passedBy_16 hl (by decide) rfl (fun ls hl => ?_)
  refine lv_iload hx hb dX12_passedBy_18 (lv_at hl 0 rfl) ?_
  refine lv_iload_n hx hb dX12_passedBy_20 rfl (lv_at hl 3 rfl) ?_
  refine lv_icmp_gt (tgt := 100) hx hb dX12_passedBy_21 (by decide) (fun c => absurd c (by decide +kernel)) (fun _ => ?_)
  refine lv_iload_n hx hb dX12_passedBy_24 rfl (lv_at hl 3 rfl) ?_
  refine lv_iload hx hb dX12_passedBy_25 (lv_at hl 0 rfl) ?_
  refine lv_iconst (v := (-1)) hx hb dX12_passedBy_27 (by decide) ?_
  refine lv_ixor hx hb dX12_passedBy_28 ?_
  refine q_c (-1) (by decide +kernel) ?_
  refine lv_iand hx hb dX12_passedBy_29 ?_
  refine q_c 0 (by decide +kernel) ?_
  refine lv_istore (lv' := [(6, .int 0), (5, .int 0), (4, .int (-1)), (3, .int 0), (2, .int 0), (0, .ref h0), (1, .int p0)]) hx hb dX12_passedBy_30 hl (by decide) rfl (fun ls hl => ?_)
  refine lv_iload hx hb dX12_passedBy_32 (lv_at hl 1 rfl) ?_
  refine lv_iload_n hx hb dX12_passedBy_34 rfl (lv_at hl 4 rfl) ?_
  refine lv_iconst (v := (-1)) hx hb dX12_passedBy_35 (by decide) ?_
  refine lv_ixor hx hb dX12_passedBy_36 ?_
  refine q_c (-1) (by decide +kernel) ?_
  refine lv_iand hx hb dX12_passedBy_37 ?_
  refine q_c 0 (by decide +kernel) ?_
  refine lv_if_ne (tgt := 94) hx hb dX12_passedBy_38 (by decide) (fun c => absurd c (by decide +kernel)) (fun _ => ?_)
  refine lv_iload hx hb dX12_passedBy_41 (lv_at hl 2 rfl) ?_
  refine lv_iconst (v := (-1)) hx hb dX12_passedBy_43 (by decide) ?_
  refine lv_icmp_eq (tgt := 63) hx hb dX12_passedBy_44 (by decide) (fun _ => ?_) (fun c => absurd c (by decide +kernel))
  refine lv_aload_n hx hb dX12_passedBy_63 rfl (lv_at hl 5 rfl) ?_
  refine q_get X hK h 1 rfl rfl wf_12 23 (by decide) rfl wm_5_193 dX12_passedBy_64 ?_
  refine lv_iload hx hb dX12_passedBy_67 (lv_at hl 0 rfl) ?_
  refine q_iald X hK h 0 rfl (q_in (by decide +kernel)) dX12_passedBy_69 ?_
  refine q_c 1 (hf_f0_0) ?_
  refine lv_if_le (tgt := 94) hx hb dX12_passedBy_70 (by decide) (fun c => absurd c (by decide +kernel)) (fun _ => ?_)
  refine lv_iconst (v := 2) hx hb dX12_passedBy_73 (by decide) ?_
  refine lv_iload_n hx hb dX12_passedBy_74 rfl (lv_at hl 3 rfl) ?_
  refine lv_iload hx hb dX12_passedBy_75 (lv_at hl 0 rfl) ?_
  refine lv_iand hx hb dX12_passedBy_77 ?_
  refine q_c 0 (by decide +kernel) ?_
  refine q_callSi (rest := [.int 2]) (wr := [(h1, .inl (cy 1, 1024, .inl f0)), (h0, .inr (12, [.int 0, .ref h2, .ref h3, .ref h4, .ref h5, .int 0, .int 0, .int 0, .int 0, .int 0, .int 0, .int 0, .int 0, .int 0, .int (-1), .int 0, .ref h6, .ref h7, .ref h8, .ref h9, .ref h10, .int 0, .int 0, .ref h1, .ref h11, .ref h12, .int 0, .int 0, .ref h13, .ref h14, .ref h15, .ref h16, .ref h17, .int 0, .ref h18, .ref h19, .ref h20])), (h2, .inl (cy 1, 3918, .inl f1))]) X hK hA h (fun sz => kX12_bitsOf_582 l D cy   sz) wm_7_8 wm_7_10 wm_1_12 hd_X12_bitsOf wm_7_9 ⟨Nat.le_of_ble_eq_true rfl, Nat.le_of_ble_eq_true rfl⟩ hl.1 rfl (Nat.le_of_ble_eq_true rfl) dX12_passedBy_78 ⟨Nat.le_of_ble_eq_true rfl, Nat.le_of_ble_eq_true rfl⟩ [] [0, 1, 2] rfl rfl (by decide) rfl rfl (fun r_9368 u_9368 H locs w_9368 h => ?_)
  obtain rfl : r_9368 = 0 := w_9368
  have h : qW D _ _ [(h1, .inl (cy 1, 1024, .inl f0)), (h0, .inr (12, [.int 0, .ref h2, .ref h3, .ref h4, .ref h5, .int 0, .int 0, .int 0, .int 0, .int 0, .int 0, .int 0, .int 0, .int 0, .int (-1), .int 0, .ref h6, .ref h7, .ref h8, .ref h9, .ref h10, .int 0, .int 0, .ref h1, .ref h11, .ref h12, .int 0, .int 0, .ref h13, .ref h14, .ref h15, .ref h16, .ref h17, .int 0, .ref h18, .ref h19, .ref h20])), (h2, .inl (cy 1, 3918, .inl f1))] _ _ := h
  refine lv_imul hx hb dX12_passedBy_81 ?_
  refine q_c 0 (by decide +kernel) ?_
  refine lv_iload hx hb dX12_passedBy_82 (lv_at hl 0 rfl) ?_
  refine q_callSi (rest := [.int 0]) (wr := [(h1, .inl (cy 1, 1024, .inl f0)), (h0, .inr (12, [.int 0, .ref h2, .ref h3, .ref h4, .ref h5, .int 0, .int 0, .int 0, .int 0, .int 0, .int 0, .int 0, .int 0, .int 0, .int (-1), .int 0, .ref h6, .ref h7, .ref h8, .ref h9, .ref h10, .int 0, .int 0, .ref h1, .ref h11, .ref h12, .int 0, .int 0, .ref h13, .ref h14, .ref h15, .ref h16, .ref h17, .int 0, .ref h18, .ref h19, .ref h20])), (h2, .inl (cy 1, 3918, .inl f1))]) X hK hA h (fun sz => kX12_bitsOf_582 l D cy   sz) wm_7_8 wm_7_10 wm_1_12 hd_X12_bitsOf wm_7_9 ⟨Nat.le_of_ble_eq_true rfl, Nat.le_of_ble_eq_true rfl⟩ hl.1 rfl (Nat.le_of_ble_eq_true rfl) dX12_passedBy_84 ⟨Nat.le_of_ble_eq_true rfl, Nat.le_of_ble_eq_true rfl⟩ [] [0, 1, 2] rfl rfl (by decide) rfl rfl (fun r_9369 u_9369 H locs w_9369 h => ?_)
  obtain rfl : r_9369 = 0 := w_9369
  have h : qW D _ _ [(h1, .inl (cy 1, 1024, .inl f0)), (h0, .inr (12, [.int 0, .ref h2, .ref h3, .ref h4, .ref h5, .int 0, .int 0, .int 0, .int 0, .int 0, .int 0, .int 0, .int 0, .int 0, .int (-1), .int 0, .ref h6, .ref h7, .ref h8, .ref h9, .ref h10, .int 0, .int 0, .ref h1, .ref h11, .ref h12, .int 0, .int 0, .ref h13, .ref h14, .ref h15, .ref h16, .ref h17, .int 0, .ref h18, .ref h19, .ref h20])), (h2, .inl (cy 1, 3918, .inl f1))] _ _ := h
  refine lv_icmp_le (tgt := 94) hx hb dX12_passedBy_87 (by decide) (fun _ => ?_) (fun c => absurd c (by decide +kernel))
  refine lv_iinc (v := 1) (lv' := [(5, .int 1), (6, .int 0), (4, .int (-1)), (3, .int 0), (2, .int 0), (0, .ref h0), (1, .int p0)]) hx hb dX12_passedBy_94 hl (k := 1) rfl (by decide +kernel) (by decide) rfl (fun ls hl => ?_)
  refine lv_goto (tgt := 18) hx hb dX12_passedBy_97 (by decide) ?_
  refine lv_iload hx hb dX12_passedBy_18 (lv_at hl 0 rfl) ?_
  refine lv_iload_n hx hb dX12_passedBy_20 rfl (lv_at hl 4 rfl) ?_
  refine lv_icmp_gt (tgt := 100) hx hb dX12_passedBy_21 (by decide) (fun _ => ?_) (fun c => absurd c (by decide +kernel))
  refine lv_iload hx hb dX12_passedBy_100 (lv_at hl 2 rfl) ?_
  exact q_iret X hr hlk hK h rfl (fun _ => 0, fun _ _ => 0, fun _ _ => 0) rfl [1, 0, 2] rfl rfl dX12_passedBy_102 (Nat.le_of_ble_eq_true rfl) (Nat.le_of_ble_eq_true rfl)
set_option maxHeartbeats 4000000 in
set_option maxRecDepth 100000 in
theorem kX12_passedBy_642 (l : Launch) (D : va_G) (cy : Nat → ClassId) (h0 : Nat) (h1 : Nat) (h2 : Nat) (p0 : Int32) (h3 : Nat) (h4 : Nat) (h5 : Nat) (h6 : Nat) (h7 : Nat) (h8 : Nat) (h9 : Nat) (h10 : Nat) (h11 : Nat) (h12 : Nat) (h13 : Nat) (h14 : Nat) (h15 : Nat) (h16 : Nat) (h17 : Nat) (h18 : Nat) (h19 : Nat) (h20 : Nat) (f1 : Nat → Int32) (f2 : Nat → Int32) (hlo_p0 : (0 : Int32) ≤ p0) (hhi_p0 : p0 ≤ (9 : Int32)) (hf_f1_0 : f1 (Int32.toNatClampNeg 0) = 1) (hf_f2_2 : f2 (Int32.toNatClampNeg 2) = 0) (hf_f2_52 : f2 (Int32.toNatClampNeg 52) = 0) (hf_f2_53 : f2 (Int32.toNatClampNeg 53) = 0) (sz : Nat) : MI l yX12_passedBy cX12_passedBy 7 .int { frames := 2, cells := 0, slots := 0, locals := 43 } [.ref h0, .int p0] D cy [(h0, .inr (12, [.int 0, .ref h2, .ref h3, .ref h4, .ref h5, .int 0, .int 0, .int 0, .int 0, .int 0, .int 0, .int 0, .int 0, .int 0, .int (-1), .int 0, .ref h6, .ref h7, .ref h8, .ref h9, .ref h10, .int 0, .int 0, .ref h1, .ref h11, .ref h12, .int 0, .int 0, .ref h13, .ref h14, .ref h15, .ref h16, .ref h17, .int 0, .ref h18, .ref h19, .ref h20])), (h1, .inl (cy 1, 1024, .inl f1)), (h2, .inl (cy 1, 3918, .inl f2))] sz (fun r u => r = (-1)) (fun u => [(h0, .inr (12, [.int 0, .ref h2, .ref h3, .ref h4, .ref h5, .int 0, .int 0, .int 0, .int 0, .int 0, .int 0, .int 0, .int 0, .int 0, .int (-1), .int 0, .ref h6, .ref h7, .ref h8, .ref h9, .ref h10, .int 0, .int 0, .ref h1, .ref h11, .ref h12, .int 0, .int 0, .ref h13, .ref h14, .ref h15, .ref h16, .ref h17, .int 0, .ref h18, .ref h19, .ref h20])), (h1, .inl (cy 1, 1024, .inl f1)), (h2, .inl (cy 1, 3918, .inl f2))]) 0 0 := by
  refine q_ent (own := RX12) (by decide) rfl (Nat.le_of_ble_eq_true rfl) (fun p e s m below meth c ls X hr hlk hnm hK h hA hl => ?_)
  obtain ⟨hx, hb, hml, hown, ht⟩ := id X
  have hl : lv_has ls 7 [(0, .ref h0), (1, .int p0)] := hl
  refine lv_aload_n hx hb dX12_passedBy_0 rfl (lv_at hl 0 rfl) ?_
  refine q_callVi (rest := []) (wr := [(h1, .inl (cy 1, 1024, .inl f1))]) X hK hA h (fun sz => kX12_townNow_606 l D cy h0 h2 h3 h4 h5 h6 h7 h8 h9 h10 h1 h11 h12 h13 h14 h15 h16 h17 h18 h19 h20 f2 hf_f2_2 hf_f2_52 hf_f2_53 sz) wm_6_170 wm_6_173 wm_1_12 hd_X12_townNow wm_6_172 wp_5_9 (ci := 12) (q0 := 0) rfl rfl ⟨Nat.le_of_ble_eq_true rfl, Nat.le_of_ble_eq_true rfl⟩ hl.1 rfl (Nat.le_of_ble_eq_true rfl) dX12_passedBy_1 ⟨Nat.le_of_ble_eq_true rfl, Nat.le_of_ble_eq_true rfl⟩ [0, 2] [1] rfl rfl (by decide) rfl rfl (fun r_9399 u_9399 H locs w_9399 h => ?_)
  obtain rfl : r_9399 = 0 := w_9399
  have h : qW D _ _ [(h1, .inl (cy 1, 1024, .inl f1)), (h0, .inr (12, [.int 0, .ref h2, .ref h3, .ref h4, .ref h5, .int 0, .int 0, .int 0, .int 0, .int 0, .int 0, .int 0, .int 0, .int 0, .int (-1), .int 0, .ref h6, .ref h7, .ref h8, .ref h9, .ref h10, .int 0, .int 0, .ref h1, .ref h11, .ref h12, .int 0, .int 0, .ref h13, .ref h14, .ref h15, .ref h16, .ref h17, .int 0, .ref h18, .ref h19, .ref h20])), (h2, .inl (cy 1, 3918, .inl f2))] _ _ := h
  refine lv_istore_n (lv' := [(2, .int 0), (0, .ref h0), (1, .int p0)]) hx hb dX12_passedBy_4 rfl hl (by decide) rfl (fun ls hl => ?_)
  refine lv_aload_n hx hb dX12_passedBy_5 rfl (lv_at hl 1 rfl) ?_
  refine lv_iload_n hx hb dX12_passedBy_6 rfl (lv_at hl 0 rfl) ?_
  refine lv_iload_n hx hb dX12_passedBy_7 rfl (lv_at hl 2 rfl) ?_
  have g_9400 : (0 : Int32) ≤ p0 := by
    simp only [Int32.lt_iff_toInt_lt, Int32.le_iff_toInt_le, ← Int32.toInt_inj] at hlo_p0 hhi_p0 ⊢
    have k_0 : (0 : Int32).toInt = 0 := by decide
    have k_1 : (9 : Int32).toInt = 9 := by decide
    omega
  have g_9401 : p0 ≤ (9 : Int32) := by
    simp only [Int32.lt_iff_toInt_lt, Int32.le_iff_toInt_le, ← Int32.toInt_inj] at hlo_p0 hhi_p0 ⊢
    have k_0 : (0 : Int32).toInt = 0 := by decide
    have k_1 : (9 : Int32).toInt = 9 := by decide
    omega
  refine q_callVi (rest := []) (wr := [(h1, .inl (cy 1, 1024, .inl f1))]) X hK hA h (fun sz => kX12_ayesOf_635 l D cy h0 h2 p0 h3 h4 h5 h6 h7 h8 h9 h10 h1 h11 h12 h13 h14 h15 h16 h17 h18 h19 h20 f2 g_9400 g_9401 hf_f2_2 sz) wm_7_195 wm_7_198 wm_1_12 hd_X12_ayesOf wm_7_197 wp_7_12 (ci := 12) (q0 := 0) rfl rfl ⟨Nat.le_of_ble_eq_true rfl, Nat.le_of_ble_eq_true rfl⟩ hl.1 rfl (Nat.le_of_ble_eq_true rfl) dX12_passedBy_8 ⟨Nat.le_of_ble_eq_true rfl, Nat.le_of_ble_eq_true rfl⟩ [1, 2] [0] rfl rfl (by decide) rfl rfl (fun r_9402 u_9402 H locs w_9402 h => ?_)
  obtain rfl : r_9402 = 0 := w_9402
  have h : qW D _ _ [(h1, .inl (cy 1, 1024, .inl f1)), (h0, .inr (12, [.int 0, .ref h2, .ref h3, .ref h4, .ref h5, .int 0, .int 0, .int 0, .int 0, .int 0, .int 0, .int 0, .int 0, .int 0, .int (-1), .int 0, .ref h6, .ref h7, .ref h8, .ref h9, .ref h10, .int 0, .int 0, .ref h1, .ref h11, .ref h12, .int 0, .int 0, .ref h13, .ref h14, .ref h15, .ref h16, .ref h17, .int 0, .ref h18, .ref h19, .ref h20])), (h2, .inl (cy 1, 3918, .inl f2))] _ _ := h
  refine lv_istore_n (lv' := [(3, .int 0), (2, .int 0), (0, .ref h0), (1, .int p0)]) hx hb dX12_passedBy_11 rfl hl (by decide) rfl (fun ls hl => ?_)
  refine lv_iconst (v := (-1)) hx hb dX12_passedBy_12 (by decide) ?_
  refine lv_istore (lv' := [(4, .int (-1)), (3, .int 0), (2, .int 0), (0, .ref h0), (1, .int p0)]) hx hb dX12_passedBy_13 hl (by decide) rfl (fun ls hl => ?_)
  refine lv_iconst (v := 0) hx hb dX12_passedBy_15 (by decide) ?_
  refine lv_istore (lv' := [(5, .int 0), (4, .int (-1)), (3, .int 0), (2, .int 0), (0, .ref h0), (1, .int p0)]) hx hb dX12_passedBy_16 hl (by decide) rfl (fun ls hl => ?_)
  refine lv_iload hx hb dX12_passedBy_18 (lv_at hl 0 rfl) ?_
  refine lv_iload_n hx hb dX12_passedBy_20 rfl (lv_at hl 3 rfl) ?_
  refine lv_icmp_gt (tgt := 100) hx hb dX12_passedBy_21 (by decide) (fun c => absurd c (by decide +kernel)) (fun _ => ?_)
  refine lv_iload_n hx hb dX12_passedBy_24 rfl (lv_at hl 3 rfl) ?_
  refine lv_iload hx hb dX12_passedBy_25 (lv_at hl 0 rfl) ?_
  refine lv_iconst (v := (-1)) hx hb dX12_passedBy_27 (by decide) ?_
  refine lv_ixor hx hb dX12_passedBy_28 ?_
  refine q_c (-1) (by decide +kernel) ?_
  refine lv_iand hx hb dX12_passedBy_29 ?_
  refine q_c 0 (by decide +kernel) ?_
  refine lv_istore (lv' := [(6, .int 0), (5, .int 0), (4, .int (-1)), (3, .int 0), (2, .int 0), (0, .ref h0), (1, .int p0)]) hx hb dX12_passedBy_30 hl (by decide) rfl (fun ls hl => ?_)
  refine lv_iload hx hb dX12_passedBy_32 (lv_at hl 1 rfl) ?_
  refine lv_iload_n hx hb dX12_passedBy_34 rfl (lv_at hl 4 rfl) ?_
  refine lv_iconst (v := (-1)) hx hb dX12_passedBy_35 (by decide) ?_
  refine lv_ixor hx hb dX12_passedBy_36 ?_
  refine q_c (-1) (by decide +kernel) ?_
  refine lv_iand hx hb dX12_passedBy_37 ?_
  refine q_c 0 (by decide +kernel) ?_
  refine lv_if_ne (tgt := 94) hx hb dX12_passedBy_38 (by decide) (fun c => absurd c (by decide +kernel)) (fun _ => ?_)
  refine lv_iload hx hb dX12_passedBy_41 (lv_at hl 2 rfl) ?_
  refine lv_iconst (v := (-1)) hx hb dX12_passedBy_43 (by decide) ?_
  refine lv_icmp_eq (tgt := 63) hx hb dX12_passedBy_44 (by decide) (fun _ => ?_) (fun c => absurd c (by decide +kernel))
  refine lv_aload_n hx hb dX12_passedBy_63 rfl (lv_at hl 5 rfl) ?_
  refine q_get X hK h 1 rfl rfl wf_12 23 (by decide) rfl wm_5_193 dX12_passedBy_64 ?_
  refine lv_iload hx hb dX12_passedBy_67 (lv_at hl 0 rfl) ?_
  refine q_iald X hK h 0 rfl (q_in (by decide +kernel)) dX12_passedBy_69 ?_
  refine q_c 1 (hf_f1_0) ?_
  refine lv_if_le (tgt := 94) hx hb dX12_passedBy_70 (by decide) (fun c => absurd c (by decide +kernel)) (fun _ => ?_)
  refine lv_iconst (v := 2) hx hb dX12_passedBy_73 (by decide) ?_
  refine lv_iload_n hx hb dX12_passedBy_74 rfl (lv_at hl 3 rfl) ?_
  refine lv_iload hx hb dX12_passedBy_75 (lv_at hl 0 rfl) ?_
  refine lv_iand hx hb dX12_passedBy_77 ?_
  refine q_c 0 (by decide +kernel) ?_
  refine q_callSi (rest := [.int 2]) (wr := [(h1, .inl (cy 1, 1024, .inl f1)), (h0, .inr (12, [.int 0, .ref h2, .ref h3, .ref h4, .ref h5, .int 0, .int 0, .int 0, .int 0, .int 0, .int 0, .int 0, .int 0, .int 0, .int (-1), .int 0, .ref h6, .ref h7, .ref h8, .ref h9, .ref h10, .int 0, .int 0, .ref h1, .ref h11, .ref h12, .int 0, .int 0, .ref h13, .ref h14, .ref h15, .ref h16, .ref h17, .int 0, .ref h18, .ref h19, .ref h20])), (h2, .inl (cy 1, 3918, .inl f2))]) X hK hA h (fun sz => kX12_bitsOf_582 l D cy   sz) wm_7_8 wm_7_10 wm_1_12 hd_X12_bitsOf wm_7_9 ⟨Nat.le_of_ble_eq_true rfl, Nat.le_of_ble_eq_true rfl⟩ hl.1 rfl (Nat.le_of_ble_eq_true rfl) dX12_passedBy_78 ⟨Nat.le_of_ble_eq_true rfl, Nat.le_of_ble_eq_true rfl⟩ [] [0, 1, 2] rfl rfl (by decide) rfl rfl (fun r_9403 u_9403 H locs w_9403 h => ?_)
  obtain rfl : r_9403 = 0 := w_9403
  have h : qW D _ _ [(h1, .inl (cy 1, 1024, .inl f1)), (h0, .inr (12, [.int 0, .ref h2, .ref h3, .ref h4, .ref h5, .int 0, .int 0, .int 0, .int 0, .int 0, .int 0, .int 0, .int 0, .int 0, .int (-1), .int 0, .ref h6, .ref h7, .ref h8, .ref h9, .ref h10, .int 0, .int 0, .ref h1, .ref h11, .ref h12, .int 0, .int 0, .ref h13, .ref h14, .ref h15, .ref h16, .ref h17, .int 0, .ref h18, .ref h19, .ref h20])), (h2, .inl (cy 1, 3918, .inl f2))] _ _ := h
  refine lv_imul hx hb dX12_passedBy_81 ?_
  refine q_c 0 (by decide +kernel) ?_
  refine lv_iload hx hb dX12_passedBy_82 (lv_at hl 0 rfl) ?_
  refine q_callSi (rest := [.int 0]) (wr := [(h1, .inl (cy 1, 1024, .inl f1)), (h0, .inr (12, [.int 0, .ref h2, .ref h3, .ref h4, .ref h5, .int 0, .int 0, .int 0, .int 0, .int 0, .int 0, .int 0, .int 0, .int 0, .int (-1), .int 0, .ref h6, .ref h7, .ref h8, .ref h9, .ref h10, .int 0, .int 0, .ref h1, .ref h11, .ref h12, .int 0, .int 0, .ref h13, .ref h14, .ref h15, .ref h16, .ref h17, .int 0, .ref h18, .ref h19, .ref h20])), (h2, .inl (cy 1, 3918, .inl f2))]) X hK hA h (fun sz => kX12_bitsOf_582 l D cy   sz) wm_7_8 wm_7_10 wm_1_12 hd_X12_bitsOf wm_7_9 ⟨Nat.le_of_ble_eq_true rfl, Nat.le_of_ble_eq_true rfl⟩ hl.1 rfl (Nat.le_of_ble_eq_true rfl) dX12_passedBy_84 ⟨Nat.le_of_ble_eq_true rfl, Nat.le_of_ble_eq_true rfl⟩ [] [0, 1, 2] rfl rfl (by decide) rfl rfl (fun r_9404 u_9404 H locs w_9404 h => ?_)
  obtain rfl : r_9404 = 0 := w_9404
  have h : qW D _ _ [(h1, .inl (cy 1, 1024, .inl f1)), (h0, .inr (12, [.int 0, .ref h2, .ref h3, .ref h4, .ref h5, .int 0, .int 0, .int 0, .int 0, .int 0, .int 0, .int 0, .int 0, .int 0, .int (-1), .int 0, .ref h6, .ref h7, .ref h8, .ref h9, .ref h10, .int 0, .int 0, .ref h1, .ref h11, .ref h12, .int 0, .int 0, .ref h13, .ref h14, .ref h15, .ref h16, .ref h17, .int 0, .ref h18, .ref h19, .ref h20])), (h2, .inl (cy 1, 3918, .inl f2))] _ _ := h
  refine lv_icmp_le (tgt := 94) hx hb dX12_passedBy_87 (by decide) (fun _ => ?_) (fun c => absurd c (by decide +kernel))
  refine lv_iinc (v := 1) (lv' := [(5, .int 1), (6, .int 0), (4, .int (-1)), (3, .int 0), (2, .int 0), (0, .ref h0), (1, .int p0)]) hx hb dX12_passedBy_94 hl (k := 1) rfl (by decide +kernel) (by decide) rfl (fun ls hl => ?_)
  refine lv_goto (tgt := 18) hx hb dX12_passedBy_97 (by decide) ?_
  refine lv_iload hx hb dX12_passedBy_18 (lv_at hl 0 rfl) ?_
  refine lv_iload_n hx hb dX12_passedBy_20 rfl (lv_at hl 4 rfl) ?_
  refine lv_icmp_gt (tgt := 100) hx hb dX12_passedBy_21 (by decide) (fun _ => ?_) (fun c => absurd c (by decide +kernel))
  refine lv_iload hx hb dX12_passedBy_100 (lv_at hl 2 rfl) ?_
  exact q_iret X hr hlk hK h rfl (fun _ => 0, fun _ _ => 0, fun _ _ => 0) rfl [1, 0, 2] rfl rfl dX12_passedBy_102 (Nat.le_of_ble_eq_true rfl) (Nat.le_of_ble_eq_true rfl)
set_option maxHeartbeats 4000000 in
set_option maxRecDepth 100000 in
theorem kX12_passes_643 (l : Launch) (D : va_G) (cy : Nat → ClassId) (h0 : Nat) (h1 : Nat) (h2 : Nat) (p0 : Int32) (h3 : Nat) (h4 : Nat) (h5 : Nat) (h6 : Nat) (h7 : Nat) (h8 : Nat) (h9 : Nat) (h10 : Nat) (h11 : Nat) (h12 : Nat) (h13 : Nat) (h14 : Nat) (h15 : Nat) (h16 : Nat) (h17 : Nat) (h18 : Nat) (h19 : Nat) (h20 : Nat) (f0 : Nat → Int32) (hlo_p0 : (0 : Int32) ≤ p0) (hhi_p0 : p0 ≤ (9 : Int32)) (hf_f0_2 : f0 (Int32.toNatClampNeg 2) = 0) (hf_f0_52 : f0 (Int32.toNatClampNeg 52) = 0) (hf_f0_53 : f0 (Int32.toNatClampNeg 53) = 0) (sz : Nat) : MI l yX12_passes cX12_passes 2 .int { frames := 3, cells := 0, slots := 0, locals := 69 } [.ref h0, .int p0] D cy [(h0, .inr (12, [.int 0, .ref h2, .ref h3, .ref h4, .ref h5, .int 0, .int 0, .int 0, .int 0, .int 0, .int 0, .int 0, .int 0, .int 0, .int (-1), .int 0, .ref h6, .ref h7, .ref h8, .ref h9, .ref h10, .int 0, .int 0, .ref h1, .ref h11, .ref h12, .int 0, .int 0, .ref h13, .ref h14, .ref h15, .ref h16, .ref h17, .int 0, .ref h18, .ref h19, .ref h20])), (h1, .inl (cy 1, 1024, .inl (fun _ => 0))), (h2, .inl (cy 1, 3918, .inl f0))] sz (fun r u => r = 0) (fun u => [(h0, .inr (12, [.int 0, .ref h2, .ref h3, .ref h4, .ref h5, .int 0, .int 0, .int 0, .int 0, .int 0, .int 0, .int 0, .int 0, .int 0, .int (-1), .int 0, .ref h6, .ref h7, .ref h8, .ref h9, .ref h10, .int 0, .int 0, .ref h1, .ref h11, .ref h12, .int 0, .int 0, .ref h13, .ref h14, .ref h15, .ref h16, .ref h17, .int 0, .ref h18, .ref h19, .ref h20])), (h1, .inl (cy 1, 1024, .inl (upd (fun _ => 0) (Int32.toNatClampNeg 0) 1))), (h2, .inl (cy 1, 3918, .inl f0))]) 0 0 := by
  refine q_ent (own := RX12) (by decide) rfl (Nat.le_of_ble_eq_true rfl) (fun p e s m below meth c ls X hr hlk hnm hK h hA hl => ?_)
  obtain ⟨hx, hb, hml, hown, ht⟩ := id X
  have hl : lv_has ls 2 [(0, .ref h0), (1, .int p0)] := hl
  refine lv_aload_n hx hb dX12_passes_0 rfl (lv_at hl 0 rfl) ?_
  refine lv_iconst (v := 0) hx hb dX12_passes_1 (by decide) ?_
  refine q_put (v := .int 0) X hK h 0 rfl rfl wf_12 tyX12 tyX12_ok nmX12 0 (by decide) wm_5_170 rfl rfl rfl (Nat.le_of_ble_eq_true rfl) dX12_passes_2 (fun H locs h => ?_)
  have h : qW D _ _ [(h0, .inr (12, [.int 0, .ref h2, .ref h3, .ref h4, .ref h5, .int 0, .int 0, .int 0, .int 0, .int 0, .int 0, .int 0, .int 0, .int 0, .int (-1), .int 0, .ref h6, .ref h7, .ref h8, .ref h9, .ref h10, .int 0, .int 0, .ref h1, .ref h11, .ref h12, .int 0, .int 0, .ref h13, .ref h14, .ref h15, .ref h16, .ref h17, .int 0, .ref h18, .ref h19, .ref h20])), (h1, .inl (cy 1, 1024, .inl (fun _ => 0))), (h2, .inl (cy 1, 3918, .inl f0))] _ _ := h
  refine lv_iload_n hx hb dX12_passes_5 rfl (lv_at hl 1 rfl) ?_
  have g_9413 : (0 : Int32) ≤ p0 := by
    simp only [Int32.lt_iff_toInt_lt, Int32.le_iff_toInt_le, ← Int32.toInt_inj] at hlo_p0 hhi_p0 ⊢
    have k_0 : (0 : Int32).toInt = 0 := by decide
    have k_1 : (9 : Int32).toInt = 9 := by decide
    omega
  have g_9414 : p0 ≤ (9 : Int32) := by
    simp only [Int32.lt_iff_toInt_lt, Int32.le_iff_toInt_le, ← Int32.toInt_inj] at hlo_p0 hhi_p0 ⊢
    have k_0 : (0 : Int32).toInt = 0 := by decide
    have k_1 : (9 : Int32).toInt = 9 := by decide
    omega
  refine q_callSi (rest := []) (wr := [(h0, .inr (12, [.int 0, .ref h2, .ref h3, .ref h4, .ref h5, .int 0, .int 0, .int 0, .int 0, .int 0, .int 0, .int 0, .int 0, .int 0, .int (-1), .int 0, .ref h6, .ref h7, .ref h8, .ref h9, .ref h10, .int 0, .int 0, .ref h1, .ref h11, .ref h12, .int 0, .int 0, .ref h13, .ref h14, .ref h15, .ref h16, .ref h17, .int 0, .ref h18, .ref h19, .ref h20])), (h1, .inl (cy 1, 1024, .inl (fun _ => 0))), (h2, .inl (cy 1, 3918, .inl f0))]) X hK hA h (fun sz => kX12_isBill_633 l D cy p0 g_9413 g_9414 sz) wm_7_192 wm_7_194 wm_1_12 hd_X12_isBill wm_7_193 ⟨Nat.le_of_ble_eq_true rfl, Nat.le_of_ble_eq_true rfl⟩ hl.1 rfl (Nat.le_of_ble_eq_true rfl) dX12_passes_6 ⟨Nat.le_of_ble_eq_true rfl, Nat.le_of_ble_eq_true rfl⟩ [] [0, 1, 2] rfl rfl (by decide) rfl rfl (fun r_9415 u_9415 H locs w_9415 h => ?_)
  obtain rfl : r_9415 = 1 := w_9415
  have h : qW D _ _ [(h0, .inr (12, [.int 0, .ref h2, .ref h3, .ref h4, .ref h5, .int 0, .int 0, .int 0, .int 0, .int 0, .int 0, .int 0, .int 0, .int 0, .int (-1), .int 0, .ref h6, .ref h7, .ref h8, .ref h9, .ref h10, .int 0, .int 0, .ref h1, .ref h11, .ref h12, .int 0, .int 0, .ref h13, .ref h14, .ref h15, .ref h16, .ref h17, .int 0, .ref h18, .ref h19, .ref h20])), (h1, .inl (cy 1, 1024, .inl (fun _ => 0))), (h2, .inl (cy 1, 3918, .inl f0))] _ _ := h
  refine lv_if_ne (tgt := 15) hx hb dX12_passes_9 (by decide) (fun _ => ?_) (fun c => absurd c (by decide +kernel))
  refine lv_aload_n hx hb dX12_passes_15 rfl (lv_at hl 0 rfl) ?_
  refine q_callVv (rest := []) (wr := []) X hK hA h (fun sz => kX12_laysNow_605 l D cy h0 h1 h2 h3 h4 h5 h6 h7 h8 h9 h10 h11 h12 h13 h14 h15 h16 h17 h18 h19 h20 f0 hf_f0_2 hf_f0_52 sz) wm_7_55 wm_7_58 wm_1_12 hd_X12_laysNow wm_7_57 wp_6_11 (ci := 12) (q0 := 0) rfl rfl ⟨Nat.le_of_ble_eq_true rfl, Nat.le_of_ble_eq_true rfl⟩ hl.1 rfl (Nat.le_of_ble_eq_true rfl) dX12_passes_16 ⟨Nat.le_of_ble_eq_true rfl, Nat.le_of_ble_eq_true rfl⟩ [0, 1, 2] [] rfl rfl (by decide) rfl rfl (fun u_9418 H locs w_9418 h => ?_)
  have h : qW D _ _ [(h0, .inr (12, [.int 0, .ref h2, .ref h3, .ref h4, .ref h5, .int 0, .int 0, .int 0, .int 0, .int 0, .int 0, .int 0, .int 0, .int 0, .int (-1), .int 0, .ref h6, .ref h7, .ref h8, .ref h9, .ref h10, .int 0, .int 0, .ref h1, .ref h11, .ref h12, .int 0, .int 0, .ref h13, .ref h14, .ref h15, .ref h16, .ref h17, .int 0, .ref h18, .ref h19, .ref h20])), (h1, .inl (cy 1, 1024, .inl (upd (fun _ => 0) (Int32.toNatClampNeg 0) 1))), (h2, .inl (cy 1, 3918, .inl f0))] _ _ := h
  refine lv_aload_n hx hb dX12_passes_19 rfl (lv_at hl 0 rfl) ?_
  refine lv_iload_n hx hb dX12_passes_20 rfl (lv_at hl 1 rfl) ?_
  have g_9426 : (0 : Int32) ≤ p0 := by
    simp only [Int32.lt_iff_toInt_lt, Int32.le_iff_toInt_le, ← Int32.toInt_inj] at hlo_p0 hhi_p0 ⊢
    have k_0 : (0 : Int32).toInt = 0 := by decide
    have k_1 : (9 : Int32).toInt = 9 := by decide
    omega
  have g_9427 : p0 ≤ (9 : Int32) := by
    simp only [Int32.lt_iff_toInt_lt, Int32.le_iff_toInt_le, ← Int32.toInt_inj] at hlo_p0 hhi_p0 ⊢
    have k_0 : (0 : Int32).toInt = 0 := by decide
    have k_1 : (9 : Int32).toInt = 9 := by decide
    omega
  refine q_callVi (rest := []) (wr := []) X hK hA h (fun sz => kX12_passedBy_642 l D cy h0 h1 h2 p0 h3 h4 h5 h6 h7 h8 h9 h10 h11 h12 h13 h14 h15 h16 h17 h18 h19 h20 (upd (fun _ => 0) (Int32.toNatClampNeg 0) 1) f0 g_9426 g_9427 q_ue hf_f0_2 hf_f0_52 hf_f0_53 sz) wm_7_207 wm_7_210 wm_1_12 hd_X12_passedBy wm_7_209 wp_7_14 (ci := 12) (q0 := 0) rfl rfl ⟨Nat.le_of_ble_eq_true rfl, Nat.le_of_ble_eq_true rfl⟩ hl.1 rfl (Nat.le_of_ble_eq_true rfl) dX12_passes_21 ⟨Nat.le_of_ble_eq_true rfl, Nat.le_of_ble_eq_true rfl⟩ [0, 1, 2] [] rfl rfl (by decide) rfl rfl (fun r_9428 u_9428 H locs w_9428 h => ?_)
  obtain rfl : r_9428 = (-1) := w_9428
  have h : qW D _ _ [(h0, .inr (12, [.int 0, .ref h2, .ref h3, .ref h4, .ref h5, .int 0, .int 0, .int 0, .int 0, .int 0, .int 0, .int 0, .int 0, .int 0, .int (-1), .int 0, .ref h6, .ref h7, .ref h8, .ref h9, .ref h10, .int 0, .int 0, .ref h1, .ref h11, .ref h12, .int 0, .int 0, .ref h13, .ref h14, .ref h15, .ref h16, .ref h17, .int 0, .ref h18, .ref h19, .ref h20])), (h1, .inl (cy 1, 1024, .inl (upd (fun _ => 0) (Int32.toNatClampNeg 0) 1))), (h2, .inl (cy 1, 3918, .inl f0))] _ _ := h
  refine lv_if_ne (tgt := 31) hx hb dX12_passes_24 (by decide) (fun _ => ?_) (fun c => absurd c (by decide +kernel))
  refine lv_iconst (v := 0) hx hb dX12_passes_31 (by decide) ?_
  exact q_iret X hr hlk hK h rfl (fun _ => 0, fun _ _ => 0, fun _ _ => 0) rfl [0, 1, 2] rfl rfl dX12_passes_32 (Nat.le_of_ble_eq_true rfl) (Nat.le_of_ble_eq_true rfl)
set_option maxHeartbeats 4000000 in
set_option maxRecDepth 100000 in
theorem kX12_passes_644 (l : Launch) (D : va_G) (cy : Nat → ClassId) (h0 : Nat) (p0 : Int32) (h1 : Nat) (h2 : Nat) (h3 : Nat) (h4 : Nat) (h5 : Nat) (h6 : Nat) (h7 : Nat) (h8 : Nat) (h9 : Nat) (h10 : Nat) (h11 : Nat) (h12 : Nat) (h13 : Nat) (h14 : Nat) (h15 : Nat) (h16 : Nat) (h17 : Nat) (h18 : Nat) (h19 : Nat) (h20 : Nat) (hlo_p0 : (10 : Int32) ≤ p0) (sz : Nat) : MI l yX12_passes cX12_passes 2 .int { frames := 2, cells := 0, slots := 0, locals := 45 } [.ref h0, .int p0] D cy [(h0, .inr (12, [.int 0, .ref h1, .ref h2, .ref h3, .ref h4, .int 0, .int 0, .int 0, .int 0, .int 0, .int 0, .int 0, .int 0, .int 0, .int (-1), .int 0, .ref h5, .ref h6, .ref h7, .ref h8, .ref h9, .int 0, .int 0, .ref h10, .ref h11, .ref h12, .int 0, .int 0, .ref h13, .ref h14, .ref h15, .ref h16, .ref h17, .int 0, .ref h18, .ref h19, .ref h20]))] sz (fun r u => r = (-3)) (fun u => [(h0, .inr (12, [.int 0, .ref h1, .ref h2, .ref h3, .ref h4, .int 0, .int 0, .int 0, .int 0, .int 0, .int 0, .int 0, .int 0, .int 0, .int (-1), .int 0, .ref h5, .ref h6, .ref h7, .ref h8, .ref h9, .int 0, .int 0, .ref h10, .ref h11, .ref h12, .int 0, .int 0, .ref h13, .ref h14, .ref h15, .ref h16, .ref h17, .int 0, .ref h18, .ref h19, .ref h20]))]) 0 0 := by
  refine q_ent (own := RX12) (by decide) rfl (Nat.le_of_ble_eq_true rfl) (fun p e s m below meth c ls X hr hlk hnm hK h hA hl => ?_)
  obtain ⟨hx, hb, hml, hown, ht⟩ := id X
  have hl : lv_has ls 2 [(0, .ref h0), (1, .int p0)] := hl
  refine lv_aload_n hx hb dX12_passes_0 rfl (lv_at hl 0 rfl) ?_
  refine lv_iconst (v := 0) hx hb dX12_passes_1 (by decide) ?_
  refine q_put (v := .int 0) X hK h 0 rfl rfl wf_12 tyX12 tyX12_ok nmX12 0 (by decide) wm_5_170 rfl rfl rfl (Nat.le_of_ble_eq_true rfl) dX12_passes_2 (fun H locs h => ?_)
  have h : qW D _ _ [(h0, .inr (12, [.int 0, .ref h1, .ref h2, .ref h3, .ref h4, .int 0, .int 0, .int 0, .int 0, .int 0, .int 0, .int 0, .int 0, .int 0, .int (-1), .int 0, .ref h5, .ref h6, .ref h7, .ref h8, .ref h9, .int 0, .int 0, .ref h10, .ref h11, .ref h12, .int 0, .int 0, .ref h13, .ref h14, .ref h15, .ref h16, .ref h17, .int 0, .ref h18, .ref h19, .ref h20]))] _ _ := h
  refine lv_iload_n hx hb dX12_passes_5 rfl (lv_at hl 1 rfl) ?_
  have g_9445 : (10 : Int32) ≤ p0 := by
    simp only [Int32.lt_iff_toInt_lt, Int32.le_iff_toInt_le, ← Int32.toInt_inj] at hlo_p0 ⊢
    have k_0 : (10 : Int32).toInt = 10 := by decide
    omega
  refine q_callSi (rest := []) (wr := [(h0, .inr (12, [.int 0, .ref h1, .ref h2, .ref h3, .ref h4, .int 0, .int 0, .int 0, .int 0, .int 0, .int 0, .int 0, .int 0, .int 0, .int (-1), .int 0, .ref h5, .ref h6, .ref h7, .ref h8, .ref h9, .int 0, .int 0, .ref h10, .ref h11, .ref h12, .int 0, .int 0, .ref h13, .ref h14, .ref h15, .ref h16, .ref h17, .int 0, .ref h18, .ref h19, .ref h20]))]) X hK hA h (fun sz => kX12_isBill_638 l D cy p0 g_9445 sz) wm_7_192 wm_7_194 wm_1_12 hd_X12_isBill wm_7_193 ⟨Nat.le_of_ble_eq_true rfl, Nat.le_of_ble_eq_true rfl⟩ hl.1 rfl (Nat.le_of_ble_eq_true rfl) dX12_passes_6 ⟨Nat.le_of_ble_eq_true rfl, Nat.le_of_ble_eq_true rfl⟩ [] [0] rfl rfl (by decide) rfl rfl (fun r_9446 u_9446 H locs w_9446 h => ?_)
  obtain rfl : r_9446 = 0 := w_9446
  have h : qW D _ _ [(h0, .inr (12, [.int 0, .ref h1, .ref h2, .ref h3, .ref h4, .int 0, .int 0, .int 0, .int 0, .int 0, .int 0, .int 0, .int 0, .int 0, .int (-1), .int 0, .ref h5, .ref h6, .ref h7, .ref h8, .ref h9, .int 0, .int 0, .ref h10, .ref h11, .ref h12, .int 0, .int 0, .ref h13, .ref h14, .ref h15, .ref h16, .ref h17, .int 0, .ref h18, .ref h19, .ref h20]))] _ _ := h
  refine lv_if_ne (tgt := 15) hx hb dX12_passes_9 (by decide) (fun c => absurd c (by decide +kernel)) (fun _ => ?_)
  refine lv_bipush (v := (-3)) hx hb dX12_passes_12 (by decide) ?_
  exact q_iret X hr hlk hK h rfl (fun _ => 0, fun _ _ => 0, fun _ _ => 0) rfl [0] rfl rfl dX12_passes_14 (Nat.le_of_ble_eq_true rfl) (Nat.le_of_ble_eq_true rfl)
set_option maxHeartbeats 4000000 in
set_option maxRecDepth 100000 in
theorem kX12_passed_645 (l : Launch) (D : va_G) (cy : Nat → ClassId) (h0 : Nat) (p0 : Int32) (p1 : Int32) (h1 : Nat) (h2 : Nat) (h3 : Nat) (h4 : Nat) (h5 : Nat) (h6 : Nat) (h7 : Nat) (h8 : Nat) (h9 : Nat) (h10 : Nat) (h11 : Nat) (h12 : Nat) (h13 : Nat) (h14 : Nat) (h15 : Nat) (h16 : Nat) (h17 : Nat) (h18 : Nat) (h19 : Nat) (h20 : Nat) (hhi_p0 : p0 ≤ ((-1) : Int32)) (hhi_p1 : p1 ≤ ((-1) : Int32)) (sz : Nat) : MI l yX12_passed cX12_passed 4 .int { frames := 1, cells := 0, slots := 0, locals := 25 } [.ref h0, .int p0, .int p1] D cy [(h0, .inr (12, [.int 0, .ref h1, .ref h2, .ref h3, .ref h4, .int 0, .int 0, .int 0, .int 0, .int 0, .int 0, .int 0, .int 0, .int 0, .int (-1), .int 0, .ref h5, .ref h6, .ref h7, .ref h8, .ref h9, .int 0, .int 0, .ref h10, .ref h11, .ref h12, .int 0, .int 0, .ref h13, .ref h14, .ref h15, .ref h16, .ref h17, .int 0, .ref h18, .ref h19, .ref h20]))] sz (fun r u => r = (-2)) (fun u => [(h0, .inr (12, [.int 0, .ref h1, .ref h2, .ref h3, .ref h4, .int 0, .int 0, .int 0, .int 0, .int 0, .int 0, .int 0, .int 0, .int 0, .int (-1), .int 0, .ref h5, .ref h6, .ref h7, .ref h8, .ref h9, .int 0, .int 0, .ref h10, .ref h11, .ref h12, .int 0, .int 0, .ref h13, .ref h14, .ref h15, .ref h16, .ref h17, .int 0, .ref h18, .ref h19, .ref h20]))]) 0 0 := by
  refine q_ent (own := RX12) (by decide) rfl (Nat.le_of_ble_eq_true rfl) (fun p e s m below meth c ls X hr hlk hnm hK h hA hl => ?_)
  obtain ⟨hx, hb, hml, hown, ht⟩ := id X
  have hl : lv_has ls 4 [(0, .ref h0), (1, .int p0), (2, .int p1)] := hl
  refine lv_aload_n hx hb dX12_passed_0 rfl (lv_at hl 0 rfl) ?_
  refine lv_iconst (v := 0) hx hb dX12_passed_1 (by decide) ?_
  refine q_put (v := .int 0) X hK h 0 rfl rfl wf_12 tyX12 tyX12_ok nmX12 0 (by decide) wm_5_170 rfl rfl rfl (Nat.le_of_ble_eq_true rfl) dX12_passed_2 (fun H locs h => ?_)
  have h : qW D _ _ [(h0, .inr (12, [.int 0, .ref h1, .ref h2, .ref h3, .ref h4, .int 0, .int 0, .int 0, .int 0, .int 0, .int 0, .int 0, .int 0, .int 0, .int (-1), .int 0, .ref h5, .ref h6, .ref h7, .ref h8, .ref h9, .int 0, .int 0, .ref h10, .ref h11, .ref h12, .int 0, .int 0, .ref h13, .ref h14, .ref h15, .ref h16, .ref h17, .int 0, .ref h18, .ref h19, .ref h20]))] _ _ := h
  refine lv_iload_n hx hb dX12_passed_5 rfl (lv_at hl 2 rfl) ?_
  refine lv_i2l hx hb dX12_passed_6 rfl ?_
  refine lv_lconst (v := 0) hx hb dX12_passed_7 (by decide) ?_
  refine lv_lconst (v := 1) hx hb dX12_passed_8 (by decide) ?_
  have g_9454 : ((p1).toInt64) ≤ ((-1) : Int64) := by
    simp only [q_lc_lt, q_lc_ge, q_lc_gt, q_lc_le, q_lc_eq, Int32.toInt_toInt64, Int64.lt_iff_toInt_lt, Int64.le_iff_toInt_le, ← Int64.toInt_inj, Int32.lt_iff_toInt_lt, Int32.le_iff_toInt_le, ← Int32.toInt_inj] at hhi_p1 ⊢
    have k_0 : ((-1) : Int32).toInt = -1 := by decide
    have k_g : ((-1) : Int64).toInt = -1 := by decide
    omega
  refine q_callSi (rest := []) (wr := [(h0, .inr (12, [.int 0, .ref h1, .ref h2, .ref h3, .ref h4, .int 0, .int 0, .int 0, .int 0, .int 0, .int 0, .int 0, .int 0, .int 0, .int (-1), .int 0, .ref h5, .ref h6, .ref h7, .ref h8, .ref h9, .int 0, .int 0, .ref h10, .ref h11, .ref h12, .int 0, .int 0, .ref h13, .ref h14, .ref h15, .ref h16, .ref h17, .int 0, .ref h18, .ref h19, .ref h20]))]) X hK hA h (fun sz => kX12_within_561 l D cy ((p1).toInt64) g_9454 sz) wm_6_50 wm_6_52 wm_1_12 hd_X12_within wm_6_51 ⟨Nat.le_of_ble_eq_true rfl, Nat.le_of_ble_eq_true rfl⟩ hl.1 rfl (Nat.le_of_ble_eq_true rfl) dX12_passed_9 ⟨Nat.le_of_ble_eq_true rfl, Nat.le_of_ble_eq_true rfl⟩ [] [0] rfl rfl (by decide) rfl rfl (fun r_9455 u_9455 H locs w_9455 h => ?_)
  obtain rfl : r_9455 = 0 := w_9455
  have h : qW D _ _ [(h0, .inr (12, [.int 0, .ref h1, .ref h2, .ref h3, .ref h4, .int 0, .int 0, .int 0, .int 0, .int 0, .int 0, .int 0, .int 0, .int 0, .int (-1), .int 0, .ref h5, .ref h6, .ref h7, .ref h8, .ref h9, .int 0, .int 0, .ref h10, .ref h11, .ref h12, .int 0, .int 0, .ref h13, .ref h14, .ref h15, .ref h16, .ref h17, .int 0, .ref h18, .ref h19, .ref h20]))] _ _ := h
  refine lv_if_ne (tgt := 18) hx hb dX12_passed_12 (by decide) (fun c => absurd c (by decide +kernel)) (fun _ => ?_)
  refine lv_bipush (v := (-2)) hx hb dX12_passed_15 (by decide) ?_
  exact q_iret X hr hlk hK h rfl (fun _ => 0, fun _ _ => 0, fun _ _ => 0) rfl [0] rfl rfl dX12_passed_17 (Nat.le_of_ble_eq_true rfl) (Nat.le_of_ble_eq_true rfl)
set_option maxHeartbeats 4000000 in
set_option maxRecDepth 100000 in
theorem kX12_passed_646 (l : Launch) (D : va_G) (cy : Nat → ClassId) (h0 : Nat) (p0 : Int32) (h1 : Nat) (h2 : Nat) (h3 : Nat) (h4 : Nat) (h5 : Nat) (h6 : Nat) (h7 : Nat) (h8 : Nat) (h9 : Nat) (h10 : Nat) (h11 : Nat) (h12 : Nat) (h13 : Nat) (h14 : Nat) (h15 : Nat) (h16 : Nat) (h17 : Nat) (h18 : Nat) (h19 : Nat) (h20 : Nat) (hhi_p0 : p0 ≤ ((-1) : Int32)) (sz : Nat) : MI l yX12_passed cX12_passed 4 .int { frames := 2, cells := 0, slots := 0, locals := 45 } [.ref h0, .int p0, .int 0] D cy [(h0, .inr (12, [.int 0, .ref h1, .ref h2, .ref h3, .ref h4, .int 0, .int 0, .int 0, .int 0, .int 0, .int 0, .int 0, .int 0, .int 0, .int (-1), .int 0, .ref h5, .ref h6, .ref h7, .ref h8, .ref h9, .int 0, .int 0, .ref h10, .ref h11, .ref h12, .int 0, .int 0, .ref h13, .ref h14, .ref h15, .ref h16, .ref h17, .int 0, .ref h18, .ref h19, .ref h20]))] sz (fun r u => r = (-3)) (fun u => [(h0, .inr (12, [.int 0, .ref h1, .ref h2, .ref h3, .ref h4, .int 0, .int 0, .int 0, .int 0, .int 0, .int 0, .int 0, .int 0, .int 0, .int (-1), .int 0, .ref h5, .ref h6, .ref h7, .ref h8, .ref h9, .int 0, .int 0, .ref h10, .ref h11, .ref h12, .int 0, .int 0, .ref h13, .ref h14, .ref h15, .ref h16, .ref h17, .int 0, .ref h18, .ref h19, .ref h20]))]) 0 0 := by
  refine q_ent (own := RX12) (by decide) rfl (Nat.le_of_ble_eq_true rfl) (fun p e s m below meth c ls X hr hlk hnm hK h hA hl => ?_)
  obtain ⟨hx, hb, hml, hown, ht⟩ := id X
  have hl : lv_has ls 4 [(0, .ref h0), (1, .int p0), (2, .int 0)] := hl
  refine lv_aload_n hx hb dX12_passed_0 rfl (lv_at hl 0 rfl) ?_
  refine lv_iconst (v := 0) hx hb dX12_passed_1 (by decide) ?_
  refine q_put (v := .int 0) X hK h 0 rfl rfl wf_12 tyX12 tyX12_ok nmX12 0 (by decide) wm_5_170 rfl rfl rfl (Nat.le_of_ble_eq_true rfl) dX12_passed_2 (fun H locs h => ?_)
  have h : qW D _ _ [(h0, .inr (12, [.int 0, .ref h1, .ref h2, .ref h3, .ref h4, .int 0, .int 0, .int 0, .int 0, .int 0, .int 0, .int 0, .int 0, .int 0, .int (-1), .int 0, .ref h5, .ref h6, .ref h7, .ref h8, .ref h9, .int 0, .int 0, .ref h10, .ref h11, .ref h12, .int 0, .int 0, .ref h13, .ref h14, .ref h15, .ref h16, .ref h17, .int 0, .ref h18, .ref h19, .ref h20]))] _ _ := h
  refine lv_iload_n hx hb dX12_passed_5 rfl (lv_at hl 2 rfl) ?_
  refine lv_i2l (v := 0) hx hb dX12_passed_6 (by decide +kernel) ?_
  refine lv_lconst (v := 0) hx hb dX12_passed_7 (by decide) ?_
  refine lv_lconst (v := 1) hx hb dX12_passed_8 (by decide) ?_
  refine q_callSi (rest := []) (wr := [(h0, .inr (12, [.int 0, .ref h1, .ref h2, .ref h3, .ref h4, .int 0, .int 0, .int 0, .int 0, .int 0, .int 0, .int 0, .int 0, .int 0, .int (-1), .int 0, .ref h5, .ref h6, .ref h7, .ref h8, .ref h9, .int 0, .int 0, .ref h10, .ref h11, .ref h12, .int 0, .int 0, .ref h13, .ref h14, .ref h15, .ref h16, .ref h17, .int 0, .ref h18, .ref h19, .ref h20]))]) X hK hA h (fun sz => kX12_within_563 l D cy   sz) wm_6_50 wm_6_52 wm_1_12 hd_X12_within wm_6_51 ⟨Nat.le_of_ble_eq_true rfl, Nat.le_of_ble_eq_true rfl⟩ hl.1 rfl (Nat.le_of_ble_eq_true rfl) dX12_passed_9 ⟨Nat.le_of_ble_eq_true rfl, Nat.le_of_ble_eq_true rfl⟩ [] [0] rfl rfl (by decide) rfl rfl (fun r_9468 u_9468 H locs w_9468 h => ?_)
  obtain rfl : r_9468 = 1 := w_9468
  have h : qW D _ _ [(h0, .inr (12, [.int 0, .ref h1, .ref h2, .ref h3, .ref h4, .int 0, .int 0, .int 0, .int 0, .int 0, .int 0, .int 0, .int 0, .int 0, .int (-1), .int 0, .ref h5, .ref h6, .ref h7, .ref h8, .ref h9, .int 0, .int 0, .ref h10, .ref h11, .ref h12, .int 0, .int 0, .ref h13, .ref h14, .ref h15, .ref h16, .ref h17, .int 0, .ref h18, .ref h19, .ref h20]))] _ _ := h
  refine lv_if_ne (tgt := 18) hx hb dX12_passed_12 (by decide) (fun _ => ?_) (fun c => absurd c (by decide +kernel))
  refine lv_iload_n hx hb dX12_passed_18 rfl (lv_at hl 1 rfl) ?_
  have g_9472 : p0 ≤ ((-1) : Int32) := by
    simp only [Int32.lt_iff_toInt_lt, Int32.le_iff_toInt_le, ← Int32.toInt_inj] at hhi_p0 ⊢
    have k_0 : ((-1) : Int32).toInt = -1 := by decide
    omega
  refine q_callSi (rest := []) (wr := [(h0, .inr (12, [.int 0, .ref h1, .ref h2, .ref h3, .ref h4, .int 0, .int 0, .int 0, .int 0, .int 0, .int 0, .int 0, .int 0, .int 0, .int (-1), .int 0, .ref h5, .ref h6, .ref h7, .ref h8, .ref h9, .int 0, .int 0, .ref h10, .ref h11, .ref h12, .int 0, .int 0, .ref h13, .ref h14, .ref h15, .ref h16, .ref h17, .int 0, .ref h18, .ref h19, .ref h20]))]) X hK hA h (fun sz => kX12_isBill_630 l D cy p0 g_9472 sz) wm_7_192 wm_7_194 wm_1_12 hd_X12_isBill wm_7_193 ⟨Nat.le_of_ble_eq_true rfl, Nat.le_of_ble_eq_true rfl⟩ hl.1 rfl (Nat.le_of_ble_eq_true rfl) dX12_passed_19 ⟨Nat.le_of_ble_eq_true rfl, Nat.le_of_ble_eq_true rfl⟩ [] [0] rfl rfl (by decide) rfl rfl (fun r_9473 u_9473 H locs w_9473 h => ?_)
  obtain rfl : r_9473 = 0 := w_9473
  have h : qW D _ _ [(h0, .inr (12, [.int 0, .ref h1, .ref h2, .ref h3, .ref h4, .int 0, .int 0, .int 0, .int 0, .int 0, .int 0, .int 0, .int 0, .int 0, .int (-1), .int 0, .ref h5, .ref h6, .ref h7, .ref h8, .ref h9, .int 0, .int 0, .ref h10, .ref h11, .ref h12, .int 0, .int 0, .ref h13, .ref h14, .ref h15, .ref h16, .ref h17, .int 0, .ref h18, .ref h19, .ref h20]))] _ _ := h
  refine lv_if_ne (tgt := 28) hx hb dX12_passed_22 (by decide) (fun c => absurd c (by decide +kernel)) (fun _ => ?_)
  refine lv_bipush (v := (-3)) hx hb dX12_passed_25 (by decide) ?_
  exact q_iret X hr hlk hK h rfl (fun _ => 0, fun _ _ => 0, fun _ _ => 0) rfl [0] rfl rfl dX12_passed_27 (Nat.le_of_ble_eq_true rfl) (Nat.le_of_ble_eq_true rfl)
set_option maxHeartbeats 4000000 in
set_option maxRecDepth 100000 in
theorem kX12_passed_647 (l : Launch) (D : va_G) (cy : Nat → ClassId) (h0 : Nat) (p0 : Int32) (h1 : Nat) (h2 : Nat) (h3 : Nat) (h4 : Nat) (h5 : Nat) (h6 : Nat) (h7 : Nat) (h8 : Nat) (h9 : Nat) (h10 : Nat) (h11 : Nat) (h12 : Nat) (h13 : Nat) (h14 : Nat) (h15 : Nat) (h16 : Nat) (h17 : Nat) (h18 : Nat) (h19 : Nat) (h20 : Nat) (hhi_p0 : p0 ≤ ((-1) : Int32)) (sz : Nat) : MI l yX12_passed cX12_passed 4 .int { frames := 2, cells := 0, slots := 0, locals := 45 } [.ref h0, .int p0, .int 1] D cy [(h0, .inr (12, [.int 0, .ref h1, .ref h2, .ref h3, .ref h4, .int 0, .int 0, .int 0, .int 0, .int 0, .int 0, .int 0, .int 0, .int 0, .int (-1), .int 0, .ref h5, .ref h6, .ref h7, .ref h8, .ref h9, .int 0, .int 0, .ref h10, .ref h11, .ref h12, .int 0, .int 0, .ref h13, .ref h14, .ref h15, .ref h16, .ref h17, .int 0, .ref h18, .ref h19, .ref h20]))] sz (fun r u => r = (-3)) (fun u => [(h0, .inr (12, [.int 0, .ref h1, .ref h2, .ref h3, .ref h4, .int 0, .int 0, .int 0, .int 0, .int 0, .int 0, .int 0, .int 0, .int 0, .int (-1), .int 0, .ref h5, .ref h6, .ref h7, .ref h8, .ref h9, .int 0, .int 0, .ref h10, .ref h11, .ref h12, .int 0, .int 0, .ref h13, .ref h14, .ref h15, .ref h16, .ref h17, .int 0, .ref h18, .ref h19, .ref h20]))]) 0 0 := by
  refine q_ent (own := RX12) (by decide) rfl (Nat.le_of_ble_eq_true rfl) (fun p e s m below meth c ls X hr hlk hnm hK h hA hl => ?_)
  obtain ⟨hx, hb, hml, hown, ht⟩ := id X
  have hl : lv_has ls 4 [(0, .ref h0), (1, .int p0), (2, .int 1)] := hl
  refine lv_aload_n hx hb dX12_passed_0 rfl (lv_at hl 0 rfl) ?_
  refine lv_iconst (v := 0) hx hb dX12_passed_1 (by decide) ?_
  refine q_put (v := .int 0) X hK h 0 rfl rfl wf_12 tyX12 tyX12_ok nmX12 0 (by decide) wm_5_170 rfl rfl rfl (Nat.le_of_ble_eq_true rfl) dX12_passed_2 (fun H locs h => ?_)
  have h : qW D _ _ [(h0, .inr (12, [.int 0, .ref h1, .ref h2, .ref h3, .ref h4, .int 0, .int 0, .int 0, .int 0, .int 0, .int 0, .int 0, .int 0, .int 0, .int (-1), .int 0, .ref h5, .ref h6, .ref h7, .ref h8, .ref h9, .int 0, .int 0, .ref h10, .ref h11, .ref h12, .int 0, .int 0, .ref h13, .ref h14, .ref h15, .ref h16, .ref h17, .int 0, .ref h18, .ref h19, .ref h20]))] _ _ := h
  refine lv_iload_n hx hb dX12_passed_5 rfl (lv_at hl 2 rfl) ?_
  refine lv_i2l (v := 1) hx hb dX12_passed_6 (by decide +kernel) ?_
  refine lv_lconst (v := 0) hx hb dX12_passed_7 (by decide) ?_
  refine lv_lconst (v := 1) hx hb dX12_passed_8 (by decide) ?_
  refine q_callSi (rest := []) (wr := [(h0, .inr (12, [.int 0, .ref h1, .ref h2, .ref h3, .ref h4, .int 0, .int 0, .int 0, .int 0, .int 0, .int 0, .int 0, .int 0, .int 0, .int (-1), .int 0, .ref h5, .ref h6, .ref h7, .ref h8, .ref h9, .int 0, .int 0, .ref h10, .ref h11, .ref h12, .int 0, .int 0, .ref h13, .ref h14, .ref h15, .ref h16, .ref h17, .int 0, .ref h18, .ref h19, .ref h20]))]) X hK hA h (fun sz => kX12_within_567 l D cy   sz) wm_6_50 wm_6_52 wm_1_12 hd_X12_within wm_6_51 ⟨Nat.le_of_ble_eq_true rfl, Nat.le_of_ble_eq_true rfl⟩ hl.1 rfl (Nat.le_of_ble_eq_true rfl) dX12_passed_9 ⟨Nat.le_of_ble_eq_true rfl, Nat.le_of_ble_eq_true rfl⟩ [] [0] rfl rfl (by decide) rfl rfl (fun r_9486 u_9486 H locs w_9486 h => ?_)
  obtain rfl : r_9486 = 1 := w_9486
  have h : qW D _ _ [(h0, .inr (12, [.int 0, .ref h1, .ref h2, .ref h3, .ref h4, .int 0, .int 0, .int 0, .int 0, .int 0, .int 0, .int 0, .int 0, .int 0, .int (-1), .int 0, .ref h5, .ref h6, .ref h7, .ref h8, .ref h9, .int 0, .int 0, .ref h10, .ref h11, .ref h12, .int 0, .int 0, .ref h13, .ref h14, .ref h15, .ref h16, .ref h17, .int 0, .ref h18, .ref h19, .ref h20]))] _ _ := h
  refine lv_if_ne (tgt := 18) hx hb dX12_passed_12 (by decide) (fun _ => ?_) (fun c => absurd c (by decide +kernel))
  refine lv_iload_n hx hb dX12_passed_18 rfl (lv_at hl 1 rfl) ?_
  have g_9490 : p0 ≤ ((-1) : Int32) := by
    simp only [Int32.lt_iff_toInt_lt, Int32.le_iff_toInt_le, ← Int32.toInt_inj] at hhi_p0 ⊢
    have k_0 : ((-1) : Int32).toInt = -1 := by decide
    omega
  refine q_callSi (rest := []) (wr := [(h0, .inr (12, [.int 0, .ref h1, .ref h2, .ref h3, .ref h4, .int 0, .int 0, .int 0, .int 0, .int 0, .int 0, .int 0, .int 0, .int 0, .int (-1), .int 0, .ref h5, .ref h6, .ref h7, .ref h8, .ref h9, .int 0, .int 0, .ref h10, .ref h11, .ref h12, .int 0, .int 0, .ref h13, .ref h14, .ref h15, .ref h16, .ref h17, .int 0, .ref h18, .ref h19, .ref h20]))]) X hK hA h (fun sz => kX12_isBill_630 l D cy p0 g_9490 sz) wm_7_192 wm_7_194 wm_1_12 hd_X12_isBill wm_7_193 ⟨Nat.le_of_ble_eq_true rfl, Nat.le_of_ble_eq_true rfl⟩ hl.1 rfl (Nat.le_of_ble_eq_true rfl) dX12_passed_19 ⟨Nat.le_of_ble_eq_true rfl, Nat.le_of_ble_eq_true rfl⟩ [] [0] rfl rfl (by decide) rfl rfl (fun r_9491 u_9491 H locs w_9491 h => ?_)
  obtain rfl : r_9491 = 0 := w_9491
  have h : qW D _ _ [(h0, .inr (12, [.int 0, .ref h1, .ref h2, .ref h3, .ref h4, .int 0, .int 0, .int 0, .int 0, .int 0, .int 0, .int 0, .int 0, .int 0, .int (-1), .int 0, .ref h5, .ref h6, .ref h7, .ref h8, .ref h9, .int 0, .int 0, .ref h10, .ref h11, .ref h12, .int 0, .int 0, .ref h13, .ref h14, .ref h15, .ref h16, .ref h17, .int 0, .ref h18, .ref h19, .ref h20]))] _ _ := h
  refine lv_if_ne (tgt := 28) hx hb dX12_passed_22 (by decide) (fun c => absurd c (by decide +kernel)) (fun _ => ?_)
  refine lv_bipush (v := (-3)) hx hb dX12_passed_25 (by decide) ?_
  exact q_iret X hr hlk hK h rfl (fun _ => 0, fun _ _ => 0, fun _ _ => 0) rfl [0] rfl rfl dX12_passed_27 (Nat.le_of_ble_eq_true rfl) (Nat.le_of_ble_eq_true rfl)
set_option maxHeartbeats 4000000 in
set_option maxRecDepth 100000 in
theorem kX12_passed_648 (l : Launch) (D : va_G) (cy : Nat → ClassId) (h0 : Nat) (p0 : Int32) (p1 : Int32) (h1 : Nat) (h2 : Nat) (h3 : Nat) (h4 : Nat) (h5 : Nat) (h6 : Nat) (h7 : Nat) (h8 : Nat) (h9 : Nat) (h10 : Nat) (h11 : Nat) (h12 : Nat) (h13 : Nat) (h14 : Nat) (h15 : Nat) (h16 : Nat) (h17 : Nat) (h18 : Nat) (h19 : Nat) (h20 : Nat) (hhi_p0 : p0 ≤ ((-1) : Int32)) (hlo_p1 : (2 : Int32) ≤ p1) (sz : Nat) : MI l yX12_passed cX12_passed 4 .int { frames := 1, cells := 0, slots := 0, locals := 25 } [.ref h0, .int p0, .int p1] D cy [(h0, .inr (12, [.int 0, .ref h1, .ref h2, .ref h3, .ref h4, .int 0, .int 0, .int 0, .int 0, .int 0, .int 0, .int 0, .int 0, .int 0, .int (-1), .int 0, .ref h5, .ref h6, .ref h7, .ref h8, .ref h9, .int 0, .int 0, .ref h10, .ref h11, .ref h12, .int 0, .int 0, .ref h13, .ref h14, .ref h15, .ref h16, .ref h17, .int 0, .ref h18, .ref h19, .ref h20]))] sz (fun r u => r = (-2)) (fun u => [(h0, .inr (12, [.int 0, .ref h1, .ref h2, .ref h3, .ref h4, .int 0, .int 0, .int 0, .int 0, .int 0, .int 0, .int 0, .int 0, .int 0, .int (-1), .int 0, .ref h5, .ref h6, .ref h7, .ref h8, .ref h9, .int 0, .int 0, .ref h10, .ref h11, .ref h12, .int 0, .int 0, .ref h13, .ref h14, .ref h15, .ref h16, .ref h17, .int 0, .ref h18, .ref h19, .ref h20]))]) 0 0 := by
  refine q_ent (own := RX12) (by decide) rfl (Nat.le_of_ble_eq_true rfl) (fun p e s m below meth c ls X hr hlk hnm hK h hA hl => ?_)
  obtain ⟨hx, hb, hml, hown, ht⟩ := id X
  have hl : lv_has ls 4 [(0, .ref h0), (1, .int p0), (2, .int p1)] := hl
  refine lv_aload_n hx hb dX12_passed_0 rfl (lv_at hl 0 rfl) ?_
  refine lv_iconst (v := 0) hx hb dX12_passed_1 (by decide) ?_
  refine q_put (v := .int 0) X hK h 0 rfl rfl wf_12 tyX12 tyX12_ok nmX12 0 (by decide) wm_5_170 rfl rfl rfl (Nat.le_of_ble_eq_true rfl) dX12_passed_2 (fun H locs h => ?_)
  have h : qW D _ _ [(h0, .inr (12, [.int 0, .ref h1, .ref h2, .ref h3, .ref h4, .int 0, .int 0, .int 0, .int 0, .int 0, .int 0, .int 0, .int 0, .int 0, .int (-1), .int 0, .ref h5, .ref h6, .ref h7, .ref h8, .ref h9, .int 0, .int 0, .ref h10, .ref h11, .ref h12, .int 0, .int 0, .ref h13, .ref h14, .ref h15, .ref h16, .ref h17, .int 0, .ref h18, .ref h19, .ref h20]))] _ _ := h
  refine lv_iload_n hx hb dX12_passed_5 rfl (lv_at hl 2 rfl) ?_
  refine lv_i2l hx hb dX12_passed_6 rfl ?_
  refine lv_lconst (v := 0) hx hb dX12_passed_7 (by decide) ?_
  refine lv_lconst (v := 1) hx hb dX12_passed_8 (by decide) ?_
  have g_9502 : (2 : Int64) ≤ ((p1).toInt64) := by
    simp only [q_lc_lt, q_lc_ge, q_lc_gt, q_lc_le, q_lc_eq, Int32.toInt_toInt64, Int64.lt_iff_toInt_lt, Int64.le_iff_toInt_le, ← Int64.toInt_inj, Int32.lt_iff_toInt_lt, Int32.le_iff_toInt_le, ← Int32.toInt_inj] at hlo_p1 ⊢
    have k_0 : (2 : Int32).toInt = 2 := by decide
    have k_g : (2 : Int64).toInt = 2 := by decide
    omega
  refine q_callSi (rest := []) (wr := [(h0, .inr (12, [.int 0, .ref h1, .ref h2, .ref h3, .ref h4, .int 0, .int 0, .int 0, .int 0, .int 0, .int 0, .int 0, .int 0, .int 0, .int (-1), .int 0, .ref h5, .ref h6, .ref h7, .ref h8, .ref h9, .int 0, .int 0, .ref h10, .ref h11, .ref h12, .int 0, .int 0, .ref h13, .ref h14, .ref h15, .ref h16, .ref h17, .int 0, .ref h18, .ref h19, .ref h20]))]) X hK hA h (fun sz => kX12_within_586 l D cy ((p1).toInt64) g_9502 sz) wm_6_50 wm_6_52 wm_1_12 hd_X12_within wm_6_51 ⟨Nat.le_of_ble_eq_true rfl, Nat.le_of_ble_eq_true rfl⟩ hl.1 rfl (Nat.le_of_ble_eq_true rfl) dX12_passed_9 ⟨Nat.le_of_ble_eq_true rfl, Nat.le_of_ble_eq_true rfl⟩ [] [0] rfl rfl (by decide) rfl rfl (fun r_9503 u_9503 H locs w_9503 h => ?_)
  obtain rfl : r_9503 = 0 := w_9503
  have h : qW D _ _ [(h0, .inr (12, [.int 0, .ref h1, .ref h2, .ref h3, .ref h4, .int 0, .int 0, .int 0, .int 0, .int 0, .int 0, .int 0, .int 0, .int 0, .int (-1), .int 0, .ref h5, .ref h6, .ref h7, .ref h8, .ref h9, .int 0, .int 0, .ref h10, .ref h11, .ref h12, .int 0, .int 0, .ref h13, .ref h14, .ref h15, .ref h16, .ref h17, .int 0, .ref h18, .ref h19, .ref h20]))] _ _ := h
  refine lv_if_ne (tgt := 18) hx hb dX12_passed_12 (by decide) (fun c => absurd c (by decide +kernel)) (fun _ => ?_)
  refine lv_bipush (v := (-2)) hx hb dX12_passed_15 (by decide) ?_
  exact q_iret X hr hlk hK h rfl (fun _ => 0, fun _ _ => 0, fun _ _ => 0) rfl [0] rfl rfl dX12_passed_17 (Nat.le_of_ble_eq_true rfl) (Nat.le_of_ble_eq_true rfl)
set_option maxHeartbeats 4000000 in
set_option maxRecDepth 100000 in
theorem kX12_passed_649 (l : Launch) (D : va_G) (cy : Nat → ClassId) (h0 : Nat) (p0 : Int32) (p1 : Int32) (h1 : Nat) (h2 : Nat) (h3 : Nat) (h4 : Nat) (h5 : Nat) (h6 : Nat) (h7 : Nat) (h8 : Nat) (h9 : Nat) (h10 : Nat) (h11 : Nat) (h12 : Nat) (h13 : Nat) (h14 : Nat) (h15 : Nat) (h16 : Nat) (h17 : Nat) (h18 : Nat) (h19 : Nat) (h20 : Nat) (hlo_p0 : (0 : Int32) ≤ p0) (hhi_p0 : p0 ≤ (9 : Int32)) (hhi_p1 : p1 ≤ ((-1) : Int32)) (sz : Nat) : MI l yX12_passed cX12_passed 4 .int { frames := 1, cells := 0, slots := 0, locals := 25 } [.ref h0, .int p0, .int p1] D cy [(h0, .inr (12, [.int 0, .ref h1, .ref h2, .ref h3, .ref h4, .int 0, .int 0, .int 0, .int 0, .int 0, .int 0, .int 0, .int 0, .int 0, .int (-1), .int 0, .ref h5, .ref h6, .ref h7, .ref h8, .ref h9, .int 0, .int 0, .ref h10, .ref h11, .ref h12, .int 0, .int 0, .ref h13, .ref h14, .ref h15, .ref h16, .ref h17, .int 0, .ref h18, .ref h19, .ref h20]))] sz (fun r u => r = (-2)) (fun u => [(h0, .inr (12, [.int 0, .ref h1, .ref h2, .ref h3, .ref h4, .int 0, .int 0, .int 0, .int 0, .int 0, .int 0, .int 0, .int 0, .int 0, .int (-1), .int 0, .ref h5, .ref h6, .ref h7, .ref h8, .ref h9, .int 0, .int 0, .ref h10, .ref h11, .ref h12, .int 0, .int 0, .ref h13, .ref h14, .ref h15, .ref h16, .ref h17, .int 0, .ref h18, .ref h19, .ref h20]))]) 0 0 := by
  refine q_ent (own := RX12) (by decide) rfl (Nat.le_of_ble_eq_true rfl) (fun p e s m below meth c ls X hr hlk hnm hK h hA hl => ?_)
  obtain ⟨hx, hb, hml, hown, ht⟩ := id X
  have hl : lv_has ls 4 [(0, .ref h0), (1, .int p0), (2, .int p1)] := hl
  refine lv_aload_n hx hb dX12_passed_0 rfl (lv_at hl 0 rfl) ?_
  refine lv_iconst (v := 0) hx hb dX12_passed_1 (by decide) ?_
  refine q_put (v := .int 0) X hK h 0 rfl rfl wf_12 tyX12 tyX12_ok nmX12 0 (by decide) wm_5_170 rfl rfl rfl (Nat.le_of_ble_eq_true rfl) dX12_passed_2 (fun H locs h => ?_)
  have h : qW D _ _ [(h0, .inr (12, [.int 0, .ref h1, .ref h2, .ref h3, .ref h4, .int 0, .int 0, .int 0, .int 0, .int 0, .int 0, .int 0, .int 0, .int 0, .int (-1), .int 0, .ref h5, .ref h6, .ref h7, .ref h8, .ref h9, .int 0, .int 0, .ref h10, .ref h11, .ref h12, .int 0, .int 0, .ref h13, .ref h14, .ref h15, .ref h16, .ref h17, .int 0, .ref h18, .ref h19, .ref h20]))] _ _ := h
  refine lv_iload_n hx hb dX12_passed_5 rfl (lv_at hl 2 rfl) ?_
  refine lv_i2l hx hb dX12_passed_6 rfl ?_
  refine lv_lconst (v := 0) hx hb dX12_passed_7 (by decide) ?_
  refine lv_lconst (v := 1) hx hb dX12_passed_8 (by decide) ?_
  have g_9511 : ((p1).toInt64) ≤ ((-1) : Int64) := by
    simp only [q_lc_lt, q_lc_ge, q_lc_gt, q_lc_le, q_lc_eq, Int32.toInt_toInt64, Int64.lt_iff_toInt_lt, Int64.le_iff_toInt_le, ← Int64.toInt_inj, Int32.lt_iff_toInt_lt, Int32.le_iff_toInt_le, ← Int32.toInt_inj] at hhi_p1 ⊢
    have k_0 : ((-1) : Int32).toInt = -1 := by decide
    have k_g : ((-1) : Int64).toInt = -1 := by decide
    omega
  refine q_callSi (rest := []) (wr := [(h0, .inr (12, [.int 0, .ref h1, .ref h2, .ref h3, .ref h4, .int 0, .int 0, .int 0, .int 0, .int 0, .int 0, .int 0, .int 0, .int 0, .int (-1), .int 0, .ref h5, .ref h6, .ref h7, .ref h8, .ref h9, .int 0, .int 0, .ref h10, .ref h11, .ref h12, .int 0, .int 0, .ref h13, .ref h14, .ref h15, .ref h16, .ref h17, .int 0, .ref h18, .ref h19, .ref h20]))]) X hK hA h (fun sz => kX12_within_561 l D cy ((p1).toInt64) g_9511 sz) wm_6_50 wm_6_52 wm_1_12 hd_X12_within wm_6_51 ⟨Nat.le_of_ble_eq_true rfl, Nat.le_of_ble_eq_true rfl⟩ hl.1 rfl (Nat.le_of_ble_eq_true rfl) dX12_passed_9 ⟨Nat.le_of_ble_eq_true rfl, Nat.le_of_ble_eq_true rfl⟩ [] [0] rfl rfl (by decide) rfl rfl (fun r_9512 u_9512 H locs w_9512 h => ?_)
  obtain rfl : r_9512 = 0 := w_9512
  have h : qW D _ _ [(h0, .inr (12, [.int 0, .ref h1, .ref h2, .ref h3, .ref h4, .int 0, .int 0, .int 0, .int 0, .int 0, .int 0, .int 0, .int 0, .int 0, .int (-1), .int 0, .ref h5, .ref h6, .ref h7, .ref h8, .ref h9, .int 0, .int 0, .ref h10, .ref h11, .ref h12, .int 0, .int 0, .ref h13, .ref h14, .ref h15, .ref h16, .ref h17, .int 0, .ref h18, .ref h19, .ref h20]))] _ _ := h
  refine lv_if_ne (tgt := 18) hx hb dX12_passed_12 (by decide) (fun c => absurd c (by decide +kernel)) (fun _ => ?_)
  refine lv_bipush (v := (-2)) hx hb dX12_passed_15 (by decide) ?_
  exact q_iret X hr hlk hK h rfl (fun _ => 0, fun _ _ => 0, fun _ _ => 0) rfl [0] rfl rfl dX12_passed_17 (Nat.le_of_ble_eq_true rfl) (Nat.le_of_ble_eq_true rfl)
set_option maxHeartbeats 4000000 in
set_option maxRecDepth 100000 in
theorem kX12_passed_650 (l : Launch) (D : va_G) (cy : Nat → ClassId) (h0 : Nat) (h1 : Nat) (h2 : Nat) (p0 : Int32) (h3 : Nat) (h4 : Nat) (h5 : Nat) (h6 : Nat) (h7 : Nat) (h8 : Nat) (h9 : Nat) (h10 : Nat) (h11 : Nat) (h12 : Nat) (h13 : Nat) (h14 : Nat) (h15 : Nat) (h16 : Nat) (h17 : Nat) (h18 : Nat) (h19 : Nat) (h20 : Nat) (f0 : Nat → Int32) (hlo_p0 : (0 : Int32) ≤ p0) (hhi_p0 : p0 ≤ (9 : Int32)) (hf_f0_2 : f0 (Int32.toNatClampNeg 2) = 0) (hf_f0_52 : f0 (Int32.toNatClampNeg 52) = 0) (hf_f0_53 : f0 (Int32.toNatClampNeg 53) = 0) (sz : Nat) : MI l yX12_passed cX12_passed 4 .int { frames := 3, cells := 0, slots := 0, locals := 69 } [.ref h0, .int p0, .int 0] D cy [(h0, .inr (12, [.int 0, .ref h2, .ref h3, .ref h4, .ref h5, .int 0, .int 0, .int 0, .int 0, .int 0, .int 0, .int 0, .int 0, .int 0, .int (-1), .int 0, .ref h6, .ref h7, .ref h8, .ref h9, .ref h10, .int 0, .int 0, .ref h1, .ref h11, .ref h12, .int 0, .int 0, .ref h13, .ref h14, .ref h15, .ref h16, .ref h17, .int 0, .ref h18, .ref h19, .ref h20])), (h1, .inl (cy 1, 1024, .inl (fun _ => 0))), (h2, .inl (cy 1, 3918, .inl f0))] sz (fun r u => r = (-1)) (fun u => [(h0, .inr (12, [.int 0, .ref h2, .ref h3, .ref h4, .ref h5, .int 0, .int 0, .int 0, .int 0, .int 0, .int 0, .int 0, .int 0, .int 0, .int (-1), .int 0, .ref h6, .ref h7, .ref h8, .ref h9, .ref h10, .int 0, .int 0, .ref h1, .ref h11, .ref h12, .int 0, .int 0, .ref h13, .ref h14, .ref h15, .ref h16, .ref h17, .int 0, .ref h18, .ref h19, .ref h20])), (h1, .inl (cy 1, 1024, .inl (upd (fun _ => 0) (Int32.toNatClampNeg 0) 1))), (h2, .inl (cy 1, 3918, .inl f0))]) 0 0 := by
  refine q_ent (own := RX12) (by decide) rfl (Nat.le_of_ble_eq_true rfl) (fun p e s m below meth c ls X hr hlk hnm hK h hA hl => ?_)
  obtain ⟨hx, hb, hml, hown, ht⟩ := id X
  have hl : lv_has ls 4 [(0, .ref h0), (1, .int p0), (2, .int 0)] := hl
  refine lv_aload_n hx hb dX12_passed_0 rfl (lv_at hl 0 rfl) ?_
  refine lv_iconst (v := 0) hx hb dX12_passed_1 (by decide) ?_
  refine q_put (v := .int 0) X hK h 0 rfl rfl wf_12 tyX12 tyX12_ok nmX12 0 (by decide) wm_5_170 rfl rfl rfl (Nat.le_of_ble_eq_true rfl) dX12_passed_2 (fun H locs h => ?_)
  have h : qW D _ _ [(h0, .inr (12, [.int 0, .ref h2, .ref h3, .ref h4, .ref h5, .int 0, .int 0, .int 0, .int 0, .int 0, .int 0, .int 0, .int 0, .int 0, .int (-1), .int 0, .ref h6, .ref h7, .ref h8, .ref h9, .ref h10, .int 0, .int 0, .ref h1, .ref h11, .ref h12, .int 0, .int 0, .ref h13, .ref h14, .ref h15, .ref h16, .ref h17, .int 0, .ref h18, .ref h19, .ref h20])), (h1, .inl (cy 1, 1024, .inl (fun _ => 0))), (h2, .inl (cy 1, 3918, .inl f0))] _ _ := h
  refine lv_iload_n hx hb dX12_passed_5 rfl (lv_at hl 2 rfl) ?_
  refine lv_i2l (v := 0) hx hb dX12_passed_6 (by decide +kernel) ?_
  refine lv_lconst (v := 0) hx hb dX12_passed_7 (by decide) ?_
  refine lv_lconst (v := 1) hx hb dX12_passed_8 (by decide) ?_
  refine q_callSi (rest := []) (wr := [(h0, .inr (12, [.int 0, .ref h2, .ref h3, .ref h4, .ref h5, .int 0, .int 0, .int 0, .int 0, .int 0, .int 0, .int 0, .int 0, .int 0, .int (-1), .int 0, .ref h6, .ref h7, .ref h8, .ref h9, .ref h10, .int 0, .int 0, .ref h1, .ref h11, .ref h12, .int 0, .int 0, .ref h13, .ref h14, .ref h15, .ref h16, .ref h17, .int 0, .ref h18, .ref h19, .ref h20])), (h1, .inl (cy 1, 1024, .inl (fun _ => 0))), (h2, .inl (cy 1, 3918, .inl f0))]) X hK hA h (fun sz => kX12_within_563 l D cy   sz) wm_6_50 wm_6_52 wm_1_12 hd_X12_within wm_6_51 ⟨Nat.le_of_ble_eq_true rfl, Nat.le_of_ble_eq_true rfl⟩ hl.1 rfl (Nat.le_of_ble_eq_true rfl) dX12_passed_9 ⟨Nat.le_of_ble_eq_true rfl, Nat.le_of_ble_eq_true rfl⟩ [] [0, 1, 2] rfl rfl (by decide) rfl rfl (fun r_9557 u_9557 H locs w_9557 h => ?_)
  obtain rfl : r_9557 = 1 := w_9557
  have h : qW D _ _ [(h0, .inr (12, [.int 0, .ref h2, .ref h3, .ref h4, .ref h5, .int 0, .int 0, .int 0, .int 0, .int 0, .int 0, .int 0, .int 0, .int 0, .int (-1), .int 0, .ref h6, .ref h7, .ref h8, .ref h9, .ref h10, .int 0, .int 0, .ref h1, .ref h11, .ref h12, .int 0, .int 0, .ref h13, .ref h14, .ref h15, .ref h16, .ref h17, .int 0, .ref h18, .ref h19, .ref h20])), (h1, .inl (cy 1, 1024, .inl (fun _ => 0))), (h2, .inl (cy 1, 3918, .inl f0))] _ _ := h
  refine lv_if_ne (tgt := 18) hx hb dX12_passed_12 (by decide) (fun _ => ?_) (fun c => absurd c (by decide +kernel))
  refine lv_iload_n hx hb dX12_passed_18 rfl (lv_at hl 1 rfl) ?_
  have g_9563 : (0 : Int32) ≤ p0 := by
    simp only [Int32.lt_iff_toInt_lt, Int32.le_iff_toInt_le, ← Int32.toInt_inj] at hlo_p0 hhi_p0 ⊢
    have k_0 : (0 : Int32).toInt = 0 := by decide
    have k_1 : (9 : Int32).toInt = 9 := by decide
    omega
  have g_9564 : p0 ≤ (9 : Int32) := by
    simp only [Int32.lt_iff_toInt_lt, Int32.le_iff_toInt_le, ← Int32.toInt_inj] at hlo_p0 hhi_p0 ⊢
    have k_0 : (0 : Int32).toInt = 0 := by decide
    have k_1 : (9 : Int32).toInt = 9 := by decide
    omega
  refine q_callSi (rest := []) (wr := [(h0, .inr (12, [.int 0, .ref h2, .ref h3, .ref h4, .ref h5, .int 0, .int 0, .int 0, .int 0, .int 0, .int 0, .int 0, .int 0, .int 0, .int (-1), .int 0, .ref h6, .ref h7, .ref h8, .ref h9, .ref h10, .int 0, .int 0, .ref h1, .ref h11, .ref h12, .int 0, .int 0, .ref h13, .ref h14, .ref h15, .ref h16, .ref h17, .int 0, .ref h18, .ref h19, .ref h20])), (h1, .inl (cy 1, 1024, .inl (fun _ => 0))), (h2, .inl (cy 1, 3918, .inl f0))]) X hK hA h (fun sz => kX12_isBill_633 l D cy p0 g_9563 g_9564 sz) wm_7_192 wm_7_194 wm_1_12 hd_X12_isBill wm_7_193 ⟨Nat.le_of_ble_eq_true rfl, Nat.le_of_ble_eq_true rfl⟩ hl.1 rfl (Nat.le_of_ble_eq_true rfl) dX12_passed_19 ⟨Nat.le_of_ble_eq_true rfl, Nat.le_of_ble_eq_true rfl⟩ [] [0, 1, 2] rfl rfl (by decide) rfl rfl (fun r_9565 u_9565 H locs w_9565 h => ?_)
  obtain rfl : r_9565 = 1 := w_9565
  have h : qW D _ _ [(h0, .inr (12, [.int 0, .ref h2, .ref h3, .ref h4, .ref h5, .int 0, .int 0, .int 0, .int 0, .int 0, .int 0, .int 0, .int 0, .int 0, .int (-1), .int 0, .ref h6, .ref h7, .ref h8, .ref h9, .ref h10, .int 0, .int 0, .ref h1, .ref h11, .ref h12, .int 0, .int 0, .ref h13, .ref h14, .ref h15, .ref h16, .ref h17, .int 0, .ref h18, .ref h19, .ref h20])), (h1, .inl (cy 1, 1024, .inl (fun _ => 0))), (h2, .inl (cy 1, 3918, .inl f0))] _ _ := h
  refine lv_if_ne (tgt := 28) hx hb dX12_passed_22 (by decide) (fun _ => ?_) (fun c => absurd c (by decide +kernel))
  refine lv_aload_n hx hb dX12_passed_28 rfl (lv_at hl 0 rfl) ?_
  refine q_callVv (rest := []) (wr := []) X hK hA h (fun sz => kX12_laysNow_605 l D cy h0 h1 h2 h3 h4 h5 h6 h7 h8 h9 h10 h11 h12 h13 h14 h15 h16 h17 h18 h19 h20 f0 hf_f0_2 hf_f0_52 sz) wm_7_55 wm_7_58 wm_1_12 hd_X12_laysNow wm_7_57 wp_6_11 (ci := 12) (q0 := 0) rfl rfl ⟨Nat.le_of_ble_eq_true rfl, Nat.le_of_ble_eq_true rfl⟩ hl.1 rfl (Nat.le_of_ble_eq_true rfl) dX12_passed_29 ⟨Nat.le_of_ble_eq_true rfl, Nat.le_of_ble_eq_true rfl⟩ [0, 1, 2] [] rfl rfl (by decide) rfl rfl (fun u_9568 H locs w_9568 h => ?_)
  have h : qW D _ _ [(h0, .inr (12, [.int 0, .ref h2, .ref h3, .ref h4, .ref h5, .int 0, .int 0, .int 0, .int 0, .int 0, .int 0, .int 0, .int 0, .int 0, .int (-1), .int 0, .ref h6, .ref h7, .ref h8, .ref h9, .ref h10, .int 0, .int 0, .ref h1, .ref h11, .ref h12, .int 0, .int 0, .ref h13, .ref h14, .ref h15, .ref h16, .ref h17, .int 0, .ref h18, .ref h19, .ref h20])), (h1, .inl (cy 1, 1024, .inl (upd (fun _ => 0) (Int32.toNatClampNeg 0) 1))), (h2, .inl (cy 1, 3918, .inl f0))] _ _ := h
  refine lv_aload_n hx hb dX12_passed_32 rfl (lv_at hl 0 rfl) ?_
  refine lv_iload_n hx hb dX12_passed_33 rfl (lv_at hl 1 rfl) ?_
  have g_9576 : (0 : Int32) ≤ p0 := by
    simp only [Int32.lt_iff_toInt_lt, Int32.le_iff_toInt_le, ← Int32.toInt_inj] at hlo_p0 hhi_p0 ⊢
    have k_0 : (0 : Int32).toInt = 0 := by decide
    have k_1 : (9 : Int32).toInt = 9 := by decide
    omega
  have g_9577 : p0 ≤ (9 : Int32) := by
    simp only [Int32.lt_iff_toInt_lt, Int32.le_iff_toInt_le, ← Int32.toInt_inj] at hlo_p0 hhi_p0 ⊢
    have k_0 : (0 : Int32).toInt = 0 := by decide
    have k_1 : (9 : Int32).toInt = 9 := by decide
    omega
  refine q_callVi (rest := []) (wr := []) X hK hA h (fun sz => kX12_passedBy_642 l D cy h0 h1 h2 p0 h3 h4 h5 h6 h7 h8 h9 h10 h11 h12 h13 h14 h15 h16 h17 h18 h19 h20 (upd (fun _ => 0) (Int32.toNatClampNeg 0) 1) f0 g_9576 g_9577 q_ue hf_f0_2 hf_f0_52 hf_f0_53 sz) wm_7_207 wm_7_210 wm_1_12 hd_X12_passedBy wm_7_209 wp_7_14 (ci := 12) (q0 := 0) rfl rfl ⟨Nat.le_of_ble_eq_true rfl, Nat.le_of_ble_eq_true rfl⟩ hl.1 rfl (Nat.le_of_ble_eq_true rfl) dX12_passed_34 ⟨Nat.le_of_ble_eq_true rfl, Nat.le_of_ble_eq_true rfl⟩ [0, 1, 2] [] rfl rfl (by decide) rfl rfl (fun r_9578 u_9578 H locs w_9578 h => ?_)
  obtain rfl : r_9578 = (-1) := w_9578
  have h : qW D _ _ [(h0, .inr (12, [.int 0, .ref h2, .ref h3, .ref h4, .ref h5, .int 0, .int 0, .int 0, .int 0, .int 0, .int 0, .int 0, .int 0, .int 0, .int (-1), .int 0, .ref h6, .ref h7, .ref h8, .ref h9, .ref h10, .int 0, .int 0, .ref h1, .ref h11, .ref h12, .int 0, .int 0, .ref h13, .ref h14, .ref h15, .ref h16, .ref h17, .int 0, .ref h18, .ref h19, .ref h20])), (h1, .inl (cy 1, 1024, .inl (upd (fun _ => 0) (Int32.toNatClampNeg 0) 1))), (h2, .inl (cy 1, 3918, .inl f0))] _ _ := h
  refine lv_istore_n (lv' := [(3, .int (-1)), (0, .ref h0), (1, .int p0), (2, .int 0)]) hx hb dX12_passed_37 rfl hl (by decide) rfl (fun ls hl => ?_)
  refine lv_iload_n hx hb dX12_passed_38 rfl (lv_at hl 0 rfl) ?_
  refine lv_iconst (v := (-1)) hx hb dX12_passed_39 (by decide) ?_
  refine lv_icmp_eq (tgt := 48) hx hb dX12_passed_40 (by decide) (fun _ => ?_) (fun c => absurd c (by decide +kernel))
  refine lv_iload_n hx hb dX12_passed_48 rfl (lv_at hl 0 rfl) ?_
  refine lv_goto (tgt := 56) hx hb dX12_passed_49 (by decide) ?_
  exact q_iret X hr hlk hK h rfl (fun _ => 0, fun _ _ => 0, fun _ _ => 0) rfl [0, 1, 2] rfl rfl dX12_passed_56 (Nat.le_of_ble_eq_true rfl) (Nat.le_of_ble_eq_true rfl)
set_option maxHeartbeats 4000000 in
set_option maxRecDepth 100000 in
theorem kX12_passed_651 (l : Launch) (D : va_G) (cy : Nat → ClassId) (h0 : Nat) (h1 : Nat) (h2 : Nat) (p0 : Int32) (h3 : Nat) (h4 : Nat) (h5 : Nat) (h6 : Nat) (h7 : Nat) (h8 : Nat) (h9 : Nat) (h10 : Nat) (h11 : Nat) (h12 : Nat) (h13 : Nat) (h14 : Nat) (h15 : Nat) (h16 : Nat) (h17 : Nat) (h18 : Nat) (h19 : Nat) (h20 : Nat) (f0 : Nat → Int32) (hlo_p0 : (0 : Int32) ≤ p0) (hhi_p0 : p0 ≤ (9 : Int32)) (hf_f0_2 : f0 (Int32.toNatClampNeg 2) = 0) (hf_f0_52 : f0 (Int32.toNatClampNeg 52) = 0) (hf_f0_53 : f0 (Int32.toNatClampNeg 53) = 0) (sz : Nat) : MI l yX12_passed cX12_passed 4 .int { frames := 3, cells := 0, slots := 0, locals := 69 } [.ref h0, .int p0, .int 1] D cy [(h0, .inr (12, [.int 0, .ref h2, .ref h3, .ref h4, .ref h5, .int 0, .int 0, .int 0, .int 0, .int 0, .int 0, .int 0, .int 0, .int 0, .int (-1), .int 0, .ref h6, .ref h7, .ref h8, .ref h9, .ref h10, .int 0, .int 0, .ref h1, .ref h11, .ref h12, .int 0, .int 0, .ref h13, .ref h14, .ref h15, .ref h16, .ref h17, .int 0, .ref h18, .ref h19, .ref h20])), (h1, .inl (cy 1, 1024, .inl (fun _ => 0))), (h2, .inl (cy 1, 3918, .inl f0))] sz (fun r u => r = (-1)) (fun u => [(h0, .inr (12, [.int 0, .ref h2, .ref h3, .ref h4, .ref h5, .int 0, .int 0, .int 0, .int 0, .int 0, .int 0, .int 0, .int 0, .int 0, .int (-1), .int 0, .ref h6, .ref h7, .ref h8, .ref h9, .ref h10, .int 0, .int 0, .ref h1, .ref h11, .ref h12, .int 0, .int 0, .ref h13, .ref h14, .ref h15, .ref h16, .ref h17, .int 0, .ref h18, .ref h19, .ref h20])), (h1, .inl (cy 1, 1024, .inl (upd (fun _ => 0) (Int32.toNatClampNeg 0) 1))), (h2, .inl (cy 1, 3918, .inl f0))]) 0 0 := by
  refine q_ent (own := RX12) (by decide) rfl (Nat.le_of_ble_eq_true rfl) (fun p e s m below meth c ls X hr hlk hnm hK h hA hl => ?_)
  obtain ⟨hx, hb, hml, hown, ht⟩ := id X
  have hl : lv_has ls 4 [(0, .ref h0), (1, .int p0), (2, .int 1)] := hl
  refine lv_aload_n hx hb dX12_passed_0 rfl (lv_at hl 0 rfl) ?_
  refine lv_iconst (v := 0) hx hb dX12_passed_1 (by decide) ?_
  refine q_put (v := .int 0) X hK h 0 rfl rfl wf_12 tyX12 tyX12_ok nmX12 0 (by decide) wm_5_170 rfl rfl rfl (Nat.le_of_ble_eq_true rfl) dX12_passed_2 (fun H locs h => ?_)
  have h : qW D _ _ [(h0, .inr (12, [.int 0, .ref h2, .ref h3, .ref h4, .ref h5, .int 0, .int 0, .int 0, .int 0, .int 0, .int 0, .int 0, .int 0, .int 0, .int (-1), .int 0, .ref h6, .ref h7, .ref h8, .ref h9, .ref h10, .int 0, .int 0, .ref h1, .ref h11, .ref h12, .int 0, .int 0, .ref h13, .ref h14, .ref h15, .ref h16, .ref h17, .int 0, .ref h18, .ref h19, .ref h20])), (h1, .inl (cy 1, 1024, .inl (fun _ => 0))), (h2, .inl (cy 1, 3918, .inl f0))] _ _ := h
  refine lv_iload_n hx hb dX12_passed_5 rfl (lv_at hl 2 rfl) ?_
  refine lv_i2l (v := 1) hx hb dX12_passed_6 (by decide +kernel) ?_
  refine lv_lconst (v := 0) hx hb dX12_passed_7 (by decide) ?_
  refine lv_lconst (v := 1) hx hb dX12_passed_8 (by decide) ?_
  refine q_callSi (rest := []) (wr := [(h0, .inr (12, [.int 0, .ref h2, .ref h3, .ref h4, .ref h5, .int 0, .int 0, .int 0, .int 0, .int 0, .int 0, .int 0, .int 0, .int 0, .int (-1), .int 0, .ref h6, .ref h7, .ref h8, .ref h9, .ref h10, .int 0, .int 0, .ref h1, .ref h11, .ref h12, .int 0, .int 0, .ref h13, .ref h14, .ref h15, .ref h16, .ref h17, .int 0, .ref h18, .ref h19, .ref h20])), (h1, .inl (cy 1, 1024, .inl (fun _ => 0))), (h2, .inl (cy 1, 3918, .inl f0))]) X hK hA h (fun sz => kX12_within_567 l D cy   sz) wm_6_50 wm_6_52 wm_1_12 hd_X12_within wm_6_51 ⟨Nat.le_of_ble_eq_true rfl, Nat.le_of_ble_eq_true rfl⟩ hl.1 rfl (Nat.le_of_ble_eq_true rfl) dX12_passed_9 ⟨Nat.le_of_ble_eq_true rfl, Nat.le_of_ble_eq_true rfl⟩ [] [0, 1, 2] rfl rfl (by decide) rfl rfl (fun r_9623 u_9623 H locs w_9623 h => ?_)
  obtain rfl : r_9623 = 1 := w_9623
  have h : qW D _ _ [(h0, .inr (12, [.int 0, .ref h2, .ref h3, .ref h4, .ref h5, .int 0, .int 0, .int 0, .int 0, .int 0, .int 0, .int 0, .int 0, .int 0, .int (-1), .int 0, .ref h6, .ref h7, .ref h8, .ref h9, .ref h10, .int 0, .int 0, .ref h1, .ref h11, .ref h12, .int 0, .int 0, .ref h13, .ref h14, .ref h15, .ref h16, .ref h17, .int 0, .ref h18, .ref h19, .ref h20])), (h1, .inl (cy 1, 1024, .inl (fun _ => 0))), (h2, .inl (cy 1, 3918, .inl f0))] _ _ := h
  refine lv_if_ne (tgt := 18) hx hb dX12_passed_12 (by decide) (fun _ => ?_) (fun c => absurd c (by decide +kernel))
  refine lv_iload_n hx hb dX12_passed_18 rfl (lv_at hl 1 rfl) ?_
  have g_9629 : (0 : Int32) ≤ p0 := by
    simp only [Int32.lt_iff_toInt_lt, Int32.le_iff_toInt_le, ← Int32.toInt_inj] at hlo_p0 hhi_p0 ⊢
    have k_0 : (0 : Int32).toInt = 0 := by decide
    have k_1 : (9 : Int32).toInt = 9 := by decide
    omega
  have g_9630 : p0 ≤ (9 : Int32) := by
    simp only [Int32.lt_iff_toInt_lt, Int32.le_iff_toInt_le, ← Int32.toInt_inj] at hlo_p0 hhi_p0 ⊢
    have k_0 : (0 : Int32).toInt = 0 := by decide
    have k_1 : (9 : Int32).toInt = 9 := by decide
    omega
  refine q_callSi (rest := []) (wr := [(h0, .inr (12, [.int 0, .ref h2, .ref h3, .ref h4, .ref h5, .int 0, .int 0, .int 0, .int 0, .int 0, .int 0, .int 0, .int 0, .int 0, .int (-1), .int 0, .ref h6, .ref h7, .ref h8, .ref h9, .ref h10, .int 0, .int 0, .ref h1, .ref h11, .ref h12, .int 0, .int 0, .ref h13, .ref h14, .ref h15, .ref h16, .ref h17, .int 0, .ref h18, .ref h19, .ref h20])), (h1, .inl (cy 1, 1024, .inl (fun _ => 0))), (h2, .inl (cy 1, 3918, .inl f0))]) X hK hA h (fun sz => kX12_isBill_633 l D cy p0 g_9629 g_9630 sz) wm_7_192 wm_7_194 wm_1_12 hd_X12_isBill wm_7_193 ⟨Nat.le_of_ble_eq_true rfl, Nat.le_of_ble_eq_true rfl⟩ hl.1 rfl (Nat.le_of_ble_eq_true rfl) dX12_passed_19 ⟨Nat.le_of_ble_eq_true rfl, Nat.le_of_ble_eq_true rfl⟩ [] [0, 1, 2] rfl rfl (by decide) rfl rfl (fun r_9631 u_9631 H locs w_9631 h => ?_)
  obtain rfl : r_9631 = 1 := w_9631
  have h : qW D _ _ [(h0, .inr (12, [.int 0, .ref h2, .ref h3, .ref h4, .ref h5, .int 0, .int 0, .int 0, .int 0, .int 0, .int 0, .int 0, .int 0, .int 0, .int (-1), .int 0, .ref h6, .ref h7, .ref h8, .ref h9, .ref h10, .int 0, .int 0, .ref h1, .ref h11, .ref h12, .int 0, .int 0, .ref h13, .ref h14, .ref h15, .ref h16, .ref h17, .int 0, .ref h18, .ref h19, .ref h20])), (h1, .inl (cy 1, 1024, .inl (fun _ => 0))), (h2, .inl (cy 1, 3918, .inl f0))] _ _ := h
  refine lv_if_ne (tgt := 28) hx hb dX12_passed_22 (by decide) (fun _ => ?_) (fun c => absurd c (by decide +kernel))
  refine lv_aload_n hx hb dX12_passed_28 rfl (lv_at hl 0 rfl) ?_
  refine q_callVv (rest := []) (wr := []) X hK hA h (fun sz => kX12_laysNow_605 l D cy h0 h1 h2 h3 h4 h5 h6 h7 h8 h9 h10 h11 h12 h13 h14 h15 h16 h17 h18 h19 h20 f0 hf_f0_2 hf_f0_52 sz) wm_7_55 wm_7_58 wm_1_12 hd_X12_laysNow wm_7_57 wp_6_11 (ci := 12) (q0 := 0) rfl rfl ⟨Nat.le_of_ble_eq_true rfl, Nat.le_of_ble_eq_true rfl⟩ hl.1 rfl (Nat.le_of_ble_eq_true rfl) dX12_passed_29 ⟨Nat.le_of_ble_eq_true rfl, Nat.le_of_ble_eq_true rfl⟩ [0, 1, 2] [] rfl rfl (by decide) rfl rfl (fun u_9634 H locs w_9634 h => ?_)
  have h : qW D _ _ [(h0, .inr (12, [.int 0, .ref h2, .ref h3, .ref h4, .ref h5, .int 0, .int 0, .int 0, .int 0, .int 0, .int 0, .int 0, .int 0, .int 0, .int (-1), .int 0, .ref h6, .ref h7, .ref h8, .ref h9, .ref h10, .int 0, .int 0, .ref h1, .ref h11, .ref h12, .int 0, .int 0, .ref h13, .ref h14, .ref h15, .ref h16, .ref h17, .int 0, .ref h18, .ref h19, .ref h20])), (h1, .inl (cy 1, 1024, .inl (upd (fun _ => 0) (Int32.toNatClampNeg 0) 1))), (h2, .inl (cy 1, 3918, .inl f0))] _ _ := h
  refine lv_aload_n hx hb dX12_passed_32 rfl (lv_at hl 0 rfl) ?_
  refine lv_iload_n hx hb dX12_passed_33 rfl (lv_at hl 1 rfl) ?_
  have g_9642 : (0 : Int32) ≤ p0 := by
    simp only [Int32.lt_iff_toInt_lt, Int32.le_iff_toInt_le, ← Int32.toInt_inj] at hlo_p0 hhi_p0 ⊢
    have k_0 : (0 : Int32).toInt = 0 := by decide
    have k_1 : (9 : Int32).toInt = 9 := by decide
    omega
  have g_9643 : p0 ≤ (9 : Int32) := by
    simp only [Int32.lt_iff_toInt_lt, Int32.le_iff_toInt_le, ← Int32.toInt_inj] at hlo_p0 hhi_p0 ⊢
    have k_0 : (0 : Int32).toInt = 0 := by decide
    have k_1 : (9 : Int32).toInt = 9 := by decide
    omega
  refine q_callVi (rest := []) (wr := []) X hK hA h (fun sz => kX12_passedBy_642 l D cy h0 h1 h2 p0 h3 h4 h5 h6 h7 h8 h9 h10 h11 h12 h13 h14 h15 h16 h17 h18 h19 h20 (upd (fun _ => 0) (Int32.toNatClampNeg 0) 1) f0 g_9642 g_9643 q_ue hf_f0_2 hf_f0_52 hf_f0_53 sz) wm_7_207 wm_7_210 wm_1_12 hd_X12_passedBy wm_7_209 wp_7_14 (ci := 12) (q0 := 0) rfl rfl ⟨Nat.le_of_ble_eq_true rfl, Nat.le_of_ble_eq_true rfl⟩ hl.1 rfl (Nat.le_of_ble_eq_true rfl) dX12_passed_34 ⟨Nat.le_of_ble_eq_true rfl, Nat.le_of_ble_eq_true rfl⟩ [0, 1, 2] [] rfl rfl (by decide) rfl rfl (fun r_9644 u_9644 H locs w_9644 h => ?_)
  obtain rfl : r_9644 = (-1) := w_9644
  have h : qW D _ _ [(h0, .inr (12, [.int 0, .ref h2, .ref h3, .ref h4, .ref h5, .int 0, .int 0, .int 0, .int 0, .int 0, .int 0, .int 0, .int 0, .int 0, .int (-1), .int 0, .ref h6, .ref h7, .ref h8, .ref h9, .ref h10, .int 0, .int 0, .ref h1, .ref h11, .ref h12, .int 0, .int 0, .ref h13, .ref h14, .ref h15, .ref h16, .ref h17, .int 0, .ref h18, .ref h19, .ref h20])), (h1, .inl (cy 1, 1024, .inl (upd (fun _ => 0) (Int32.toNatClampNeg 0) 1))), (h2, .inl (cy 1, 3918, .inl f0))] _ _ := h
  refine lv_istore_n (lv' := [(3, .int (-1)), (0, .ref h0), (1, .int p0), (2, .int 1)]) hx hb dX12_passed_37 rfl hl (by decide) rfl (fun ls hl => ?_)
  refine lv_iload_n hx hb dX12_passed_38 rfl (lv_at hl 0 rfl) ?_
  refine lv_iconst (v := (-1)) hx hb dX12_passed_39 (by decide) ?_
  refine lv_icmp_eq (tgt := 48) hx hb dX12_passed_40 (by decide) (fun _ => ?_) (fun c => absurd c (by decide +kernel))
  refine lv_iload_n hx hb dX12_passed_48 rfl (lv_at hl 0 rfl) ?_
  refine lv_goto (tgt := 56) hx hb dX12_passed_49 (by decide) ?_
  exact q_iret X hr hlk hK h rfl (fun _ => 0, fun _ _ => 0, fun _ _ => 0) rfl [0, 1, 2] rfl rfl dX12_passed_56 (Nat.le_of_ble_eq_true rfl) (Nat.le_of_ble_eq_true rfl)
set_option maxHeartbeats 4000000 in
set_option maxRecDepth 100000 in
theorem kX12_passed_652 (l : Launch) (D : va_G) (cy : Nat → ClassId) (h0 : Nat) (p0 : Int32) (p1 : Int32) (h1 : Nat) (h2 : Nat) (h3 : Nat) (h4 : Nat) (h5 : Nat) (h6 : Nat) (h7 : Nat) (h8 : Nat) (h9 : Nat) (h10 : Nat) (h11 : Nat) (h12 : Nat) (h13 : Nat) (h14 : Nat) (h15 : Nat) (h16 : Nat) (h17 : Nat) (h18 : Nat) (h19 : Nat) (h20 : Nat) (hlo_p0 : (0 : Int32) ≤ p0) (hhi_p0 : p0 ≤ (9 : Int32)) (hlo_p1 : (2 : Int32) ≤ p1) (sz : Nat) : MI l yX12_passed cX12_passed 4 .int { frames := 1, cells := 0, slots := 0, locals := 25 } [.ref h0, .int p0, .int p1] D cy [(h0, .inr (12, [.int 0, .ref h1, .ref h2, .ref h3, .ref h4, .int 0, .int 0, .int 0, .int 0, .int 0, .int 0, .int 0, .int 0, .int 0, .int (-1), .int 0, .ref h5, .ref h6, .ref h7, .ref h8, .ref h9, .int 0, .int 0, .ref h10, .ref h11, .ref h12, .int 0, .int 0, .ref h13, .ref h14, .ref h15, .ref h16, .ref h17, .int 0, .ref h18, .ref h19, .ref h20]))] sz (fun r u => r = (-2)) (fun u => [(h0, .inr (12, [.int 0, .ref h1, .ref h2, .ref h3, .ref h4, .int 0, .int 0, .int 0, .int 0, .int 0, .int 0, .int 0, .int 0, .int 0, .int (-1), .int 0, .ref h5, .ref h6, .ref h7, .ref h8, .ref h9, .int 0, .int 0, .ref h10, .ref h11, .ref h12, .int 0, .int 0, .ref h13, .ref h14, .ref h15, .ref h16, .ref h17, .int 0, .ref h18, .ref h19, .ref h20]))]) 0 0 := by
  refine q_ent (own := RX12) (by decide) rfl (Nat.le_of_ble_eq_true rfl) (fun p e s m below meth c ls X hr hlk hnm hK h hA hl => ?_)
  obtain ⟨hx, hb, hml, hown, ht⟩ := id X
  have hl : lv_has ls 4 [(0, .ref h0), (1, .int p0), (2, .int p1)] := hl
  refine lv_aload_n hx hb dX12_passed_0 rfl (lv_at hl 0 rfl) ?_
  refine lv_iconst (v := 0) hx hb dX12_passed_1 (by decide) ?_
  refine q_put (v := .int 0) X hK h 0 rfl rfl wf_12 tyX12 tyX12_ok nmX12 0 (by decide) wm_5_170 rfl rfl rfl (Nat.le_of_ble_eq_true rfl) dX12_passed_2 (fun H locs h => ?_)
  have h : qW D _ _ [(h0, .inr (12, [.int 0, .ref h1, .ref h2, .ref h3, .ref h4, .int 0, .int 0, .int 0, .int 0, .int 0, .int 0, .int 0, .int 0, .int 0, .int (-1), .int 0, .ref h5, .ref h6, .ref h7, .ref h8, .ref h9, .int 0, .int 0, .ref h10, .ref h11, .ref h12, .int 0, .int 0, .ref h13, .ref h14, .ref h15, .ref h16, .ref h17, .int 0, .ref h18, .ref h19, .ref h20]))] _ _ := h
  refine lv_iload_n hx hb dX12_passed_5 rfl (lv_at hl 2 rfl) ?_
  refine lv_i2l hx hb dX12_passed_6 rfl ?_
  refine lv_lconst (v := 0) hx hb dX12_passed_7 (by decide) ?_
  refine lv_lconst (v := 1) hx hb dX12_passed_8 (by decide) ?_
  have g_9655 : (2 : Int64) ≤ ((p1).toInt64) := by
    simp only [q_lc_lt, q_lc_ge, q_lc_gt, q_lc_le, q_lc_eq, Int32.toInt_toInt64, Int64.lt_iff_toInt_lt, Int64.le_iff_toInt_le, ← Int64.toInt_inj, Int32.lt_iff_toInt_lt, Int32.le_iff_toInt_le, ← Int32.toInt_inj] at hlo_p1 ⊢
    have k_0 : (2 : Int32).toInt = 2 := by decide
    have k_g : (2 : Int64).toInt = 2 := by decide
    omega
  refine q_callSi (rest := []) (wr := [(h0, .inr (12, [.int 0, .ref h1, .ref h2, .ref h3, .ref h4, .int 0, .int 0, .int 0, .int 0, .int 0, .int 0, .int 0, .int 0, .int 0, .int (-1), .int 0, .ref h5, .ref h6, .ref h7, .ref h8, .ref h9, .int 0, .int 0, .ref h10, .ref h11, .ref h12, .int 0, .int 0, .ref h13, .ref h14, .ref h15, .ref h16, .ref h17, .int 0, .ref h18, .ref h19, .ref h20]))]) X hK hA h (fun sz => kX12_within_586 l D cy ((p1).toInt64) g_9655 sz) wm_6_50 wm_6_52 wm_1_12 hd_X12_within wm_6_51 ⟨Nat.le_of_ble_eq_true rfl, Nat.le_of_ble_eq_true rfl⟩ hl.1 rfl (Nat.le_of_ble_eq_true rfl) dX12_passed_9 ⟨Nat.le_of_ble_eq_true rfl, Nat.le_of_ble_eq_true rfl⟩ [] [0] rfl rfl (by decide) rfl rfl (fun r_9656 u_9656 H locs w_9656 h => ?_)
  obtain rfl : r_9656 = 0 := w_9656
  have h : qW D _ _ [(h0, .inr (12, [.int 0, .ref h1, .ref h2, .ref h3, .ref h4, .int 0, .int 0, .int 0, .int 0, .int 0, .int 0, .int 0, .int 0, .int 0, .int (-1), .int 0, .ref h5, .ref h6, .ref h7, .ref h8, .ref h9, .int 0, .int 0, .ref h10, .ref h11, .ref h12, .int 0, .int 0, .ref h13, .ref h14, .ref h15, .ref h16, .ref h17, .int 0, .ref h18, .ref h19, .ref h20]))] _ _ := h
  refine lv_if_ne (tgt := 18) hx hb dX12_passed_12 (by decide) (fun c => absurd c (by decide +kernel)) (fun _ => ?_)
  refine lv_bipush (v := (-2)) hx hb dX12_passed_15 (by decide) ?_
  exact q_iret X hr hlk hK h rfl (fun _ => 0, fun _ _ => 0, fun _ _ => 0) rfl [0] rfl rfl dX12_passed_17 (Nat.le_of_ble_eq_true rfl) (Nat.le_of_ble_eq_true rfl)
set_option maxHeartbeats 4000000 in
set_option maxRecDepth 100000 in
theorem kX12_passed_653 (l : Launch) (D : va_G) (cy : Nat → ClassId) (h0 : Nat) (p0 : Int32) (p1 : Int32) (h1 : Nat) (h2 : Nat) (h3 : Nat) (h4 : Nat) (h5 : Nat) (h6 : Nat) (h7 : Nat) (h8 : Nat) (h9 : Nat) (h10 : Nat) (h11 : Nat) (h12 : Nat) (h13 : Nat) (h14 : Nat) (h15 : Nat) (h16 : Nat) (h17 : Nat) (h18 : Nat) (h19 : Nat) (h20 : Nat) (hlo_p0 : (10 : Int32) ≤ p0) (hhi_p1 : p1 ≤ ((-1) : Int32)) (sz : Nat) : MI l yX12_passed cX12_passed 4 .int { frames := 1, cells := 0, slots := 0, locals := 25 } [.ref h0, .int p0, .int p1] D cy [(h0, .inr (12, [.int 0, .ref h1, .ref h2, .ref h3, .ref h4, .int 0, .int 0, .int 0, .int 0, .int 0, .int 0, .int 0, .int 0, .int 0, .int (-1), .int 0, .ref h5, .ref h6, .ref h7, .ref h8, .ref h9, .int 0, .int 0, .ref h10, .ref h11, .ref h12, .int 0, .int 0, .ref h13, .ref h14, .ref h15, .ref h16, .ref h17, .int 0, .ref h18, .ref h19, .ref h20]))] sz (fun r u => r = (-2)) (fun u => [(h0, .inr (12, [.int 0, .ref h1, .ref h2, .ref h3, .ref h4, .int 0, .int 0, .int 0, .int 0, .int 0, .int 0, .int 0, .int 0, .int 0, .int (-1), .int 0, .ref h5, .ref h6, .ref h7, .ref h8, .ref h9, .int 0, .int 0, .ref h10, .ref h11, .ref h12, .int 0, .int 0, .ref h13, .ref h14, .ref h15, .ref h16, .ref h17, .int 0, .ref h18, .ref h19, .ref h20]))]) 0 0 := by
  refine q_ent (own := RX12) (by decide) rfl (Nat.le_of_ble_eq_true rfl) (fun p e s m below meth c ls X hr hlk hnm hK h hA hl => ?_)
  obtain ⟨hx, hb, hml, hown, ht⟩ := id X
  have hl : lv_has ls 4 [(0, .ref h0), (1, .int p0), (2, .int p1)] := hl
  refine lv_aload_n hx hb dX12_passed_0 rfl (lv_at hl 0 rfl) ?_
  refine lv_iconst (v := 0) hx hb dX12_passed_1 (by decide) ?_
  refine q_put (v := .int 0) X hK h 0 rfl rfl wf_12 tyX12 tyX12_ok nmX12 0 (by decide) wm_5_170 rfl rfl rfl (Nat.le_of_ble_eq_true rfl) dX12_passed_2 (fun H locs h => ?_)
  have h : qW D _ _ [(h0, .inr (12, [.int 0, .ref h1, .ref h2, .ref h3, .ref h4, .int 0, .int 0, .int 0, .int 0, .int 0, .int 0, .int 0, .int 0, .int 0, .int (-1), .int 0, .ref h5, .ref h6, .ref h7, .ref h8, .ref h9, .int 0, .int 0, .ref h10, .ref h11, .ref h12, .int 0, .int 0, .ref h13, .ref h14, .ref h15, .ref h16, .ref h17, .int 0, .ref h18, .ref h19, .ref h20]))] _ _ := h
  refine lv_iload_n hx hb dX12_passed_5 rfl (lv_at hl 2 rfl) ?_
  refine lv_i2l hx hb dX12_passed_6 rfl ?_
  refine lv_lconst (v := 0) hx hb dX12_passed_7 (by decide) ?_
  refine lv_lconst (v := 1) hx hb dX12_passed_8 (by decide) ?_
  have g_9664 : ((p1).toInt64) ≤ ((-1) : Int64) := by
    simp only [q_lc_lt, q_lc_ge, q_lc_gt, q_lc_le, q_lc_eq, Int32.toInt_toInt64, Int64.lt_iff_toInt_lt, Int64.le_iff_toInt_le, ← Int64.toInt_inj, Int32.lt_iff_toInt_lt, Int32.le_iff_toInt_le, ← Int32.toInt_inj] at hhi_p1 ⊢
    have k_0 : ((-1) : Int32).toInt = -1 := by decide
    have k_g : ((-1) : Int64).toInt = -1 := by decide
    omega
  refine q_callSi (rest := []) (wr := [(h0, .inr (12, [.int 0, .ref h1, .ref h2, .ref h3, .ref h4, .int 0, .int 0, .int 0, .int 0, .int 0, .int 0, .int 0, .int 0, .int 0, .int (-1), .int 0, .ref h5, .ref h6, .ref h7, .ref h8, .ref h9, .int 0, .int 0, .ref h10, .ref h11, .ref h12, .int 0, .int 0, .ref h13, .ref h14, .ref h15, .ref h16, .ref h17, .int 0, .ref h18, .ref h19, .ref h20]))]) X hK hA h (fun sz => kX12_within_561 l D cy ((p1).toInt64) g_9664 sz) wm_6_50 wm_6_52 wm_1_12 hd_X12_within wm_6_51 ⟨Nat.le_of_ble_eq_true rfl, Nat.le_of_ble_eq_true rfl⟩ hl.1 rfl (Nat.le_of_ble_eq_true rfl) dX12_passed_9 ⟨Nat.le_of_ble_eq_true rfl, Nat.le_of_ble_eq_true rfl⟩ [] [0] rfl rfl (by decide) rfl rfl (fun r_9665 u_9665 H locs w_9665 h => ?_)
  obtain rfl : r_9665 = 0 := w_9665
  have h : qW D _ _ [(h0, .inr (12, [.int 0, .ref h1, .ref h2, .ref h3, .ref h4, .int 0, .int 0, .int 0, .int 0, .int 0, .int 0, .int 0, .int 0, .int 0, .int (-1), .int 0, .ref h5, .ref h6, .ref h7, .ref h8, .ref h9, .int 0, .int 0, .ref h10, .ref h11, .ref h12, .int 0, .int 0, .ref h13, .ref h14, .ref h15, .ref h16, .ref h17, .int 0, .ref h18, .ref h19, .ref h20]))] _ _ := h
  refine lv_if_ne (tgt := 18) hx hb dX12_passed_12 (by decide) (fun c => absurd c (by decide +kernel)) (fun _ => ?_)
  refine lv_bipush (v := (-2)) hx hb dX12_passed_15 (by decide) ?_
  exact q_iret X hr hlk hK h rfl (fun _ => 0, fun _ _ => 0, fun _ _ => 0) rfl [0] rfl rfl dX12_passed_17 (Nat.le_of_ble_eq_true rfl) (Nat.le_of_ble_eq_true rfl)
set_option maxHeartbeats 4000000 in
set_option maxRecDepth 100000 in
theorem kX12_passed_654 (l : Launch) (D : va_G) (cy : Nat → ClassId) (h0 : Nat) (p0 : Int32) (h1 : Nat) (h2 : Nat) (h3 : Nat) (h4 : Nat) (h5 : Nat) (h6 : Nat) (h7 : Nat) (h8 : Nat) (h9 : Nat) (h10 : Nat) (h11 : Nat) (h12 : Nat) (h13 : Nat) (h14 : Nat) (h15 : Nat) (h16 : Nat) (h17 : Nat) (h18 : Nat) (h19 : Nat) (h20 : Nat) (hlo_p0 : (10 : Int32) ≤ p0) (sz : Nat) : MI l yX12_passed cX12_passed 4 .int { frames := 2, cells := 0, slots := 0, locals := 45 } [.ref h0, .int p0, .int 0] D cy [(h0, .inr (12, [.int 0, .ref h1, .ref h2, .ref h3, .ref h4, .int 0, .int 0, .int 0, .int 0, .int 0, .int 0, .int 0, .int 0, .int 0, .int (-1), .int 0, .ref h5, .ref h6, .ref h7, .ref h8, .ref h9, .int 0, .int 0, .ref h10, .ref h11, .ref h12, .int 0, .int 0, .ref h13, .ref h14, .ref h15, .ref h16, .ref h17, .int 0, .ref h18, .ref h19, .ref h20]))] sz (fun r u => r = (-3)) (fun u => [(h0, .inr (12, [.int 0, .ref h1, .ref h2, .ref h3, .ref h4, .int 0, .int 0, .int 0, .int 0, .int 0, .int 0, .int 0, .int 0, .int 0, .int (-1), .int 0, .ref h5, .ref h6, .ref h7, .ref h8, .ref h9, .int 0, .int 0, .ref h10, .ref h11, .ref h12, .int 0, .int 0, .ref h13, .ref h14, .ref h15, .ref h16, .ref h17, .int 0, .ref h18, .ref h19, .ref h20]))]) 0 0 := by
  refine q_ent (own := RX12) (by decide) rfl (Nat.le_of_ble_eq_true rfl) (fun p e s m below meth c ls X hr hlk hnm hK h hA hl => ?_)
  obtain ⟨hx, hb, hml, hown, ht⟩ := id X
  have hl : lv_has ls 4 [(0, .ref h0), (1, .int p0), (2, .int 0)] := hl
  refine lv_aload_n hx hb dX12_passed_0 rfl (lv_at hl 0 rfl) ?_
  refine lv_iconst (v := 0) hx hb dX12_passed_1 (by decide) ?_
  refine q_put (v := .int 0) X hK h 0 rfl rfl wf_12 tyX12 tyX12_ok nmX12 0 (by decide) wm_5_170 rfl rfl rfl (Nat.le_of_ble_eq_true rfl) dX12_passed_2 (fun H locs h => ?_)
  have h : qW D _ _ [(h0, .inr (12, [.int 0, .ref h1, .ref h2, .ref h3, .ref h4, .int 0, .int 0, .int 0, .int 0, .int 0, .int 0, .int 0, .int 0, .int 0, .int (-1), .int 0, .ref h5, .ref h6, .ref h7, .ref h8, .ref h9, .int 0, .int 0, .ref h10, .ref h11, .ref h12, .int 0, .int 0, .ref h13, .ref h14, .ref h15, .ref h16, .ref h17, .int 0, .ref h18, .ref h19, .ref h20]))] _ _ := h
  refine lv_iload_n hx hb dX12_passed_5 rfl (lv_at hl 2 rfl) ?_
  refine lv_i2l (v := 0) hx hb dX12_passed_6 (by decide +kernel) ?_
  refine lv_lconst (v := 0) hx hb dX12_passed_7 (by decide) ?_
  refine lv_lconst (v := 1) hx hb dX12_passed_8 (by decide) ?_
  refine q_callSi (rest := []) (wr := [(h0, .inr (12, [.int 0, .ref h1, .ref h2, .ref h3, .ref h4, .int 0, .int 0, .int 0, .int 0, .int 0, .int 0, .int 0, .int 0, .int 0, .int (-1), .int 0, .ref h5, .ref h6, .ref h7, .ref h8, .ref h9, .int 0, .int 0, .ref h10, .ref h11, .ref h12, .int 0, .int 0, .ref h13, .ref h14, .ref h15, .ref h16, .ref h17, .int 0, .ref h18, .ref h19, .ref h20]))]) X hK hA h (fun sz => kX12_within_563 l D cy   sz) wm_6_50 wm_6_52 wm_1_12 hd_X12_within wm_6_51 ⟨Nat.le_of_ble_eq_true rfl, Nat.le_of_ble_eq_true rfl⟩ hl.1 rfl (Nat.le_of_ble_eq_true rfl) dX12_passed_9 ⟨Nat.le_of_ble_eq_true rfl, Nat.le_of_ble_eq_true rfl⟩ [] [0] rfl rfl (by decide) rfl rfl (fun r_9680 u_9680 H locs w_9680 h => ?_)
  obtain rfl : r_9680 = 1 := w_9680
  have h : qW D _ _ [(h0, .inr (12, [.int 0, .ref h1, .ref h2, .ref h3, .ref h4, .int 0, .int 0, .int 0, .int 0, .int 0, .int 0, .int 0, .int 0, .int 0, .int (-1), .int 0, .ref h5, .ref h6, .ref h7, .ref h8, .ref h9, .int 0, .int 0, .ref h10, .ref h11, .ref h12, .int 0, .int 0, .ref h13, .ref h14, .ref h15, .ref h16, .ref h17, .int 0, .ref h18, .ref h19, .ref h20]))] _ _ := h
  refine lv_if_ne (tgt := 18) hx hb dX12_passed_12 (by decide) (fun _ => ?_) (fun c => absurd c (by decide +kernel))
  refine lv_iload_n hx hb dX12_passed_18 rfl (lv_at hl 1 rfl) ?_
  have g_9685 : (10 : Int32) ≤ p0 := by
    simp only [Int32.lt_iff_toInt_lt, Int32.le_iff_toInt_le, ← Int32.toInt_inj] at hlo_p0 ⊢
    have k_0 : (10 : Int32).toInt = 10 := by decide
    omega
  refine q_callSi (rest := []) (wr := [(h0, .inr (12, [.int 0, .ref h1, .ref h2, .ref h3, .ref h4, .int 0, .int 0, .int 0, .int 0, .int 0, .int 0, .int 0, .int 0, .int 0, .int (-1), .int 0, .ref h5, .ref h6, .ref h7, .ref h8, .ref h9, .int 0, .int 0, .ref h10, .ref h11, .ref h12, .int 0, .int 0, .ref h13, .ref h14, .ref h15, .ref h16, .ref h17, .int 0, .ref h18, .ref h19, .ref h20]))]) X hK hA h (fun sz => kX12_isBill_638 l D cy p0 g_9685 sz) wm_7_192 wm_7_194 wm_1_12 hd_X12_isBill wm_7_193 ⟨Nat.le_of_ble_eq_true rfl, Nat.le_of_ble_eq_true rfl⟩ hl.1 rfl (Nat.le_of_ble_eq_true rfl) dX12_passed_19 ⟨Nat.le_of_ble_eq_true rfl, Nat.le_of_ble_eq_true rfl⟩ [] [0] rfl rfl (by decide) rfl rfl (fun r_9686 u_9686 H locs w_9686 h => ?_)
  obtain rfl : r_9686 = 0 := w_9686
  have h : qW D _ _ [(h0, .inr (12, [.int 0, .ref h1, .ref h2, .ref h3, .ref h4, .int 0, .int 0, .int 0, .int 0, .int 0, .int 0, .int 0, .int 0, .int 0, .int (-1), .int 0, .ref h5, .ref h6, .ref h7, .ref h8, .ref h9, .int 0, .int 0, .ref h10, .ref h11, .ref h12, .int 0, .int 0, .ref h13, .ref h14, .ref h15, .ref h16, .ref h17, .int 0, .ref h18, .ref h19, .ref h20]))] _ _ := h
  refine lv_if_ne (tgt := 28) hx hb dX12_passed_22 (by decide) (fun c => absurd c (by decide +kernel)) (fun _ => ?_)
  refine lv_bipush (v := (-3)) hx hb dX12_passed_25 (by decide) ?_
  exact q_iret X hr hlk hK h rfl (fun _ => 0, fun _ _ => 0, fun _ _ => 0) rfl [0] rfl rfl dX12_passed_27 (Nat.le_of_ble_eq_true rfl) (Nat.le_of_ble_eq_true rfl)
set_option maxHeartbeats 4000000 in
set_option maxRecDepth 100000 in
theorem kX12_passed_655 (l : Launch) (D : va_G) (cy : Nat → ClassId) (h0 : Nat) (p0 : Int32) (h1 : Nat) (h2 : Nat) (h3 : Nat) (h4 : Nat) (h5 : Nat) (h6 : Nat) (h7 : Nat) (h8 : Nat) (h9 : Nat) (h10 : Nat) (h11 : Nat) (h12 : Nat) (h13 : Nat) (h14 : Nat) (h15 : Nat) (h16 : Nat) (h17 : Nat) (h18 : Nat) (h19 : Nat) (h20 : Nat) (hlo_p0 : (10 : Int32) ≤ p0) (sz : Nat) : MI l yX12_passed cX12_passed 4 .int { frames := 2, cells := 0, slots := 0, locals := 45 } [.ref h0, .int p0, .int 1] D cy [(h0, .inr (12, [.int 0, .ref h1, .ref h2, .ref h3, .ref h4, .int 0, .int 0, .int 0, .int 0, .int 0, .int 0, .int 0, .int 0, .int 0, .int (-1), .int 0, .ref h5, .ref h6, .ref h7, .ref h8, .ref h9, .int 0, .int 0, .ref h10, .ref h11, .ref h12, .int 0, .int 0, .ref h13, .ref h14, .ref h15, .ref h16, .ref h17, .int 0, .ref h18, .ref h19, .ref h20]))] sz (fun r u => r = (-3)) (fun u => [(h0, .inr (12, [.int 0, .ref h1, .ref h2, .ref h3, .ref h4, .int 0, .int 0, .int 0, .int 0, .int 0, .int 0, .int 0, .int 0, .int 0, .int (-1), .int 0, .ref h5, .ref h6, .ref h7, .ref h8, .ref h9, .int 0, .int 0, .ref h10, .ref h11, .ref h12, .int 0, .int 0, .ref h13, .ref h14, .ref h15, .ref h16, .ref h17, .int 0, .ref h18, .ref h19, .ref h20]))]) 0 0 := by
  refine q_ent (own := RX12) (by decide) rfl (Nat.le_of_ble_eq_true rfl) (fun p e s m below meth c ls X hr hlk hnm hK h hA hl => ?_)
  obtain ⟨hx, hb, hml, hown, ht⟩ := id X
  have hl : lv_has ls 4 [(0, .ref h0), (1, .int p0), (2, .int 1)] := hl
  refine lv_aload_n hx hb dX12_passed_0 rfl (lv_at hl 0 rfl) ?_
  refine lv_iconst (v := 0) hx hb dX12_passed_1 (by decide) ?_
  refine q_put (v := .int 0) X hK h 0 rfl rfl wf_12 tyX12 tyX12_ok nmX12 0 (by decide) wm_5_170 rfl rfl rfl (Nat.le_of_ble_eq_true rfl) dX12_passed_2 (fun H locs h => ?_)
  have h : qW D _ _ [(h0, .inr (12, [.int 0, .ref h1, .ref h2, .ref h3, .ref h4, .int 0, .int 0, .int 0, .int 0, .int 0, .int 0, .int 0, .int 0, .int 0, .int (-1), .int 0, .ref h5, .ref h6, .ref h7, .ref h8, .ref h9, .int 0, .int 0, .ref h10, .ref h11, .ref h12, .int 0, .int 0, .ref h13, .ref h14, .ref h15, .ref h16, .ref h17, .int 0, .ref h18, .ref h19, .ref h20]))] _ _ := h
  refine lv_iload_n hx hb dX12_passed_5 rfl (lv_at hl 2 rfl) ?_
  refine lv_i2l (v := 1) hx hb dX12_passed_6 (by decide +kernel) ?_
  refine lv_lconst (v := 0) hx hb dX12_passed_7 (by decide) ?_
  refine lv_lconst (v := 1) hx hb dX12_passed_8 (by decide) ?_
  refine q_callSi (rest := []) (wr := [(h0, .inr (12, [.int 0, .ref h1, .ref h2, .ref h3, .ref h4, .int 0, .int 0, .int 0, .int 0, .int 0, .int 0, .int 0, .int 0, .int 0, .int (-1), .int 0, .ref h5, .ref h6, .ref h7, .ref h8, .ref h9, .int 0, .int 0, .ref h10, .ref h11, .ref h12, .int 0, .int 0, .ref h13, .ref h14, .ref h15, .ref h16, .ref h17, .int 0, .ref h18, .ref h19, .ref h20]))]) X hK hA h (fun sz => kX12_within_567 l D cy   sz) wm_6_50 wm_6_52 wm_1_12 hd_X12_within wm_6_51 ⟨Nat.le_of_ble_eq_true rfl, Nat.le_of_ble_eq_true rfl⟩ hl.1 rfl (Nat.le_of_ble_eq_true rfl) dX12_passed_9 ⟨Nat.le_of_ble_eq_true rfl, Nat.le_of_ble_eq_true rfl⟩ [] [0] rfl rfl (by decide) rfl rfl (fun r_9701 u_9701 H locs w_9701 h => ?_)
  obtain rfl : r_9701 = 1 := w_9701
  have h : qW D _ _ [(h0, .inr (12, [.int 0, .ref h1, .ref h2, .ref h3, .ref h4, .int 0, .int 0, .int 0, .int 0, .int 0, .int 0, .int 0, .int 0, .int 0, .int (-1), .int 0, .ref h5, .ref h6, .ref h7, .ref h8, .ref h9, .int 0, .int 0, .ref h10, .ref h11, .ref h12, .int 0, .int 0, .ref h13, .ref h14, .ref h15, .ref h16, .ref h17, .int 0, .ref h18, .ref h19, .ref h20]))] _ _ := h
  refine lv_if_ne (tgt := 18) hx hb dX12_passed_12 (by decide) (fun _ => ?_) (fun c => absurd c (by decide +kernel))
  refine lv_iload_n hx hb dX12_passed_18 rfl (lv_at hl 1 rfl) ?_
  have g_9706 : (10 : Int32) ≤ p0 := by
    simp only [Int32.lt_iff_toInt_lt, Int32.le_iff_toInt_le, ← Int32.toInt_inj] at hlo_p0 ⊢
    have k_0 : (10 : Int32).toInt = 10 := by decide
    omega
  refine q_callSi (rest := []) (wr := [(h0, .inr (12, [.int 0, .ref h1, .ref h2, .ref h3, .ref h4, .int 0, .int 0, .int 0, .int 0, .int 0, .int 0, .int 0, .int 0, .int 0, .int (-1), .int 0, .ref h5, .ref h6, .ref h7, .ref h8, .ref h9, .int 0, .int 0, .ref h10, .ref h11, .ref h12, .int 0, .int 0, .ref h13, .ref h14, .ref h15, .ref h16, .ref h17, .int 0, .ref h18, .ref h19, .ref h20]))]) X hK hA h (fun sz => kX12_isBill_638 l D cy p0 g_9706 sz) wm_7_192 wm_7_194 wm_1_12 hd_X12_isBill wm_7_193 ⟨Nat.le_of_ble_eq_true rfl, Nat.le_of_ble_eq_true rfl⟩ hl.1 rfl (Nat.le_of_ble_eq_true rfl) dX12_passed_19 ⟨Nat.le_of_ble_eq_true rfl, Nat.le_of_ble_eq_true rfl⟩ [] [0] rfl rfl (by decide) rfl rfl (fun r_9707 u_9707 H locs w_9707 h => ?_)
  obtain rfl : r_9707 = 0 := w_9707
  have h : qW D _ _ [(h0, .inr (12, [.int 0, .ref h1, .ref h2, .ref h3, .ref h4, .int 0, .int 0, .int 0, .int 0, .int 0, .int 0, .int 0, .int 0, .int 0, .int (-1), .int 0, .ref h5, .ref h6, .ref h7, .ref h8, .ref h9, .int 0, .int 0, .ref h10, .ref h11, .ref h12, .int 0, .int 0, .ref h13, .ref h14, .ref h15, .ref h16, .ref h17, .int 0, .ref h18, .ref h19, .ref h20]))] _ _ := h
  refine lv_if_ne (tgt := 28) hx hb dX12_passed_22 (by decide) (fun c => absurd c (by decide +kernel)) (fun _ => ?_)
  refine lv_bipush (v := (-3)) hx hb dX12_passed_25 (by decide) ?_
  exact q_iret X hr hlk hK h rfl (fun _ => 0, fun _ _ => 0, fun _ _ => 0) rfl [0] rfl rfl dX12_passed_27 (Nat.le_of_ble_eq_true rfl) (Nat.le_of_ble_eq_true rfl)
set_option maxHeartbeats 4000000 in
set_option maxRecDepth 100000 in
theorem kX12_passed_656 (l : Launch) (D : va_G) (cy : Nat → ClassId) (h0 : Nat) (p0 : Int32) (p1 : Int32) (h1 : Nat) (h2 : Nat) (h3 : Nat) (h4 : Nat) (h5 : Nat) (h6 : Nat) (h7 : Nat) (h8 : Nat) (h9 : Nat) (h10 : Nat) (h11 : Nat) (h12 : Nat) (h13 : Nat) (h14 : Nat) (h15 : Nat) (h16 : Nat) (h17 : Nat) (h18 : Nat) (h19 : Nat) (h20 : Nat) (hlo_p0 : (10 : Int32) ≤ p0) (hlo_p1 : (2 : Int32) ≤ p1) (sz : Nat) : MI l yX12_passed cX12_passed 4 .int { frames := 1, cells := 0, slots := 0, locals := 25 } [.ref h0, .int p0, .int p1] D cy [(h0, .inr (12, [.int 0, .ref h1, .ref h2, .ref h3, .ref h4, .int 0, .int 0, .int 0, .int 0, .int 0, .int 0, .int 0, .int 0, .int 0, .int (-1), .int 0, .ref h5, .ref h6, .ref h7, .ref h8, .ref h9, .int 0, .int 0, .ref h10, .ref h11, .ref h12, .int 0, .int 0, .ref h13, .ref h14, .ref h15, .ref h16, .ref h17, .int 0, .ref h18, .ref h19, .ref h20]))] sz (fun r u => r = (-2)) (fun u => [(h0, .inr (12, [.int 0, .ref h1, .ref h2, .ref h3, .ref h4, .int 0, .int 0, .int 0, .int 0, .int 0, .int 0, .int 0, .int 0, .int 0, .int (-1), .int 0, .ref h5, .ref h6, .ref h7, .ref h8, .ref h9, .int 0, .int 0, .ref h10, .ref h11, .ref h12, .int 0, .int 0, .ref h13, .ref h14, .ref h15, .ref h16, .ref h17, .int 0, .ref h18, .ref h19, .ref h20]))]) 0 0 := by
  refine q_ent (own := RX12) (by decide) rfl (Nat.le_of_ble_eq_true rfl) (fun p e s m below meth c ls X hr hlk hnm hK h hA hl => ?_)
  obtain ⟨hx, hb, hml, hown, ht⟩ := id X
  have hl : lv_has ls 4 [(0, .ref h0), (1, .int p0), (2, .int p1)] := hl
  refine lv_aload_n hx hb dX12_passed_0 rfl (lv_at hl 0 rfl) ?_
  refine lv_iconst (v := 0) hx hb dX12_passed_1 (by decide) ?_
  refine q_put (v := .int 0) X hK h 0 rfl rfl wf_12 tyX12 tyX12_ok nmX12 0 (by decide) wm_5_170 rfl rfl rfl (Nat.le_of_ble_eq_true rfl) dX12_passed_2 (fun H locs h => ?_)
  have h : qW D _ _ [(h0, .inr (12, [.int 0, .ref h1, .ref h2, .ref h3, .ref h4, .int 0, .int 0, .int 0, .int 0, .int 0, .int 0, .int 0, .int 0, .int 0, .int (-1), .int 0, .ref h5, .ref h6, .ref h7, .ref h8, .ref h9, .int 0, .int 0, .ref h10, .ref h11, .ref h12, .int 0, .int 0, .ref h13, .ref h14, .ref h15, .ref h16, .ref h17, .int 0, .ref h18, .ref h19, .ref h20]))] _ _ := h
  refine lv_iload_n hx hb dX12_passed_5 rfl (lv_at hl 2 rfl) ?_
  refine lv_i2l hx hb dX12_passed_6 rfl ?_
  refine lv_lconst (v := 0) hx hb dX12_passed_7 (by decide) ?_
  refine lv_lconst (v := 1) hx hb dX12_passed_8 (by decide) ?_
  have g_9718 : (2 : Int64) ≤ ((p1).toInt64) := by
    simp only [q_lc_lt, q_lc_ge, q_lc_gt, q_lc_le, q_lc_eq, Int32.toInt_toInt64, Int64.lt_iff_toInt_lt, Int64.le_iff_toInt_le, ← Int64.toInt_inj, Int32.lt_iff_toInt_lt, Int32.le_iff_toInt_le, ← Int32.toInt_inj] at hlo_p1 ⊢
    have k_0 : (2 : Int32).toInt = 2 := by decide
    have k_g : (2 : Int64).toInt = 2 := by decide
    omega
  refine q_callSi (rest := []) (wr := [(h0, .inr (12, [.int 0, .ref h1, .ref h2, .ref h3, .ref h4, .int 0, .int 0, .int 0, .int 0, .int 0, .int 0, .int 0, .int 0, .int 0, .int (-1), .int 0, .ref h5, .ref h6, .ref h7, .ref h8, .ref h9, .int 0, .int 0, .ref h10, .ref h11, .ref h12, .int 0, .int 0, .ref h13, .ref h14, .ref h15, .ref h16, .ref h17, .int 0, .ref h18, .ref h19, .ref h20]))]) X hK hA h (fun sz => kX12_within_586 l D cy ((p1).toInt64) g_9718 sz) wm_6_50 wm_6_52 wm_1_12 hd_X12_within wm_6_51 ⟨Nat.le_of_ble_eq_true rfl, Nat.le_of_ble_eq_true rfl⟩ hl.1 rfl (Nat.le_of_ble_eq_true rfl) dX12_passed_9 ⟨Nat.le_of_ble_eq_true rfl, Nat.le_of_ble_eq_true rfl⟩ [] [0] rfl rfl (by decide) rfl rfl (fun r_9719 u_9719 H locs w_9719 h => ?_)
  obtain rfl : r_9719 = 0 := w_9719
  have h : qW D _ _ [(h0, .inr (12, [.int 0, .ref h1, .ref h2, .ref h3, .ref h4, .int 0, .int 0, .int 0, .int 0, .int 0, .int 0, .int 0, .int 0, .int 0, .int (-1), .int 0, .ref h5, .ref h6, .ref h7, .ref h8, .ref h9, .int 0, .int 0, .ref h10, .ref h11, .ref h12, .int 0, .int 0, .ref h13, .ref h14, .ref h15, .ref h16, .ref h17, .int 0, .ref h18, .ref h19, .ref h20]))] _ _ := h
  refine lv_if_ne (tgt := 18) hx hb dX12_passed_12 (by decide) (fun c => absurd c (by decide +kernel)) (fun _ => ?_)
  refine lv_bipush (v := (-2)) hx hb dX12_passed_15 (by decide) ?_
  exact q_iret X hr hlk hK h rfl (fun _ => 0, fun _ _ => 0, fun _ _ => 0) rfl [0] rfl rfl dX12_passed_17 (Nat.le_of_ble_eq_true rfl) (Nat.le_of_ble_eq_true rfl)
set_option maxHeartbeats 4000000 in
set_option maxRecDepth 100000 in
theorem kX12_ayesOf_657 (l : Launch) (D : va_G) (cy : Nat → ClassId) (h0 : Nat) (h1 : Nat) (p0 : Int32) (h2 : Nat) (h3 : Nat) (h4 : Nat) (h5 : Nat) (h6 : Nat) (h7 : Nat) (h8 : Nat) (h9 : Nat) (h10 : Nat) (h11 : Nat) (h12 : Nat) (h13 : Nat) (h14 : Nat) (h15 : Nat) (h16 : Nat) (h17 : Nat) (h18 : Nat) (h19 : Nat) (h20 : Nat) (f0 : Nat → Int32) (hf_f0_2 : f0 (Int32.toNatClampNeg 2) = 0) (sz : Nat) : MI l yX12_ayesOf cX12_ayesOf 5 .int { frames := 0, cells := 0, slots := 0, locals := 0 } [.ref h0, .int 0, .int p0] D cy [(h0, .inr (12, [.int 0, .ref h1, .ref h2, .ref h3, .ref h4, .int 0, .int 0, .int 0, .int 0, .int 0, .int 0, .int 0, .int 0, .int 0, .int (-1), .int 0, .ref h5, .ref h6, .ref h7, .ref h8, .ref h9, .int 0, .int 0, .ref h10, .ref h11, .ref h12, .int 0, .int 0, .ref h13, .ref h14, .ref h15, .ref h16, .ref h17, .int 0, .ref h18, .ref h19, .ref h20])), (h1, .inl (cy 1, 3918, .inl f0))] sz (fun r u => r = 0) (fun u => [(h0, .inr (12, [.int 0, .ref h1, .ref h2, .ref h3, .ref h4, .int 0, .int 0, .int 0, .int 0, .int 0, .int 0, .int 0, .int 0, .int 0, .int (-1), .int 0, .ref h5, .ref h6, .ref h7, .ref h8, .ref h9, .int 0, .int 0, .ref h10, .ref h11, .ref h12, .int 0, .int 0, .ref h13, .ref h14, .ref h15, .ref h16, .ref h17, .int 0, .ref h18, .ref h19, .ref h20])), (h1, .inl (cy 1, 3918, .inl f0))]) 0 0 := by
  refine q_ent (own := RX12) (by decide) rfl (Nat.le_of_ble_eq_true rfl) (fun p e s m below meth c ls X hr hlk hnm hK h hA hl => ?_)
  obtain ⟨hx, hb, hml, hown, ht⟩ := id X
  have hl : lv_has ls 5 [(0, .ref h0), (1, .int 0), (2, .int p0)] := hl
  refine lv_iconst (v := 0) hx hb dX12_ayesOf_0 (by decide) ?_
  refine lv_istore_n (lv' := [(3, .int 0), (0, .ref h0), (1, .int 0), (2, .int p0)]) hx hb dX12_ayesOf_1 rfl hl (by decide) rfl (fun ls hl => ?_)
  refine lv_iconst (v := 0) hx hb dX12_ayesOf_2 (by decide) ?_
  refine lv_istore (lv' := [(4, .int 0), (3, .int 0), (0, .ref h0), (1, .int 0), (2, .int p0)]) hx hb dX12_ayesOf_3 hl (by decide) rfl (fun ls hl => ?_)
  refine lv_iload hx hb dX12_ayesOf_5 (lv_at hl 0 rfl) ?_
  refine lv_aload_n hx hb dX12_ayesOf_7 rfl (lv_at hl 2 rfl) ?_
  refine q_get X hK h 0 rfl rfl wf_12 1 (by decide) rfl wm_5_171 dX12_ayesOf_8 ?_
  refine lv_iconst (v := 2) hx hb dX12_ayesOf_11 (by decide) ?_
  refine q_iald X hK h 1 rfl (q_in (by decide +kernel)) dX12_ayesOf_12 ?_
  refine q_c 0 (hf_f0_2) ?_
  refine lv_icmp_ge (tgt := 53) hx hb dX12_ayesOf_13 (by decide) (fun _ => ?_) (fun c => absurd c (by decide +kernel))
  refine lv_iload_n hx hb dX12_ayesOf_53 rfl (lv_at hl 1 rfl) ?_
  exact q_iret X hr hlk hK h rfl (fun _ => 0, fun _ _ => 0, fun _ _ => 0) rfl [0, 1] rfl rfl dX12_ayesOf_54 (Nat.le_of_ble_eq_true rfl) (Nat.le_of_ble_eq_true rfl)
set_option maxHeartbeats 4000000 in
set_option maxRecDepth 100000 in
theorem kX12_ayesOf_658 (l : Launch) (D : va_G) (cy : Nat → ClassId) (h0 : Nat) (h1 : Nat) (p0 : Int32) (h2 : Nat) (h3 : Nat) (h4 : Nat) (h5 : Nat) (h6 : Nat) (h7 : Nat) (h8 : Nat) (h9 : Nat) (h10 : Nat) (h11 : Nat) (h12 : Nat) (h13 : Nat) (h14 : Nat) (h15 : Nat) (h16 : Nat) (h17 : Nat) (h18 : Nat) (h19 : Nat) (h20 : Nat) (f1 : Nat → Int32) (hf_f1_2 : f1 (Int32.toNatClampNeg 2) = 0) (sz : Nat) : MI l yX12_ayesOf cX12_ayesOf 5 .int { frames := 0, cells := 0, slots := 0, locals := 0 } [.ref h0, .int 0, .int p0] D cy [(h0, .inr (12, [.int 0, .ref h1, .ref h2, .ref h3, .ref h4, .int 0, .int 0, .int 0, .int 0, .int 0, .int 0, .int 0, .int 0, .int 0, .int (-1), .int 0, .ref h5, .ref h6, .ref h7, .ref h8, .ref h9, .int 0, .int 0, .ref h10, .ref h11, .ref h12, .int 0, .int 0, .ref h13, .ref h14, .ref h15, .ref h16, .ref h17, .int 0, .ref h18, .ref h19, .ref h20])), (h1, .inl (cy 1, 3918, .inl f1))] sz (fun r u => r = 0) (fun u => [(h0, .inr (12, [.int 0, .ref h1, .ref h2, .ref h3, .ref h4, .int 0, .int 0, .int 0, .int 0, .int 0, .int 0, .int 0, .int 0, .int 0, .int (-1), .int 0, .ref h5, .ref h6, .ref h7, .ref h8, .ref h9, .int 0, .int 0, .ref h10, .ref h11, .ref h12, .int 0, .int 0, .ref h13, .ref h14, .ref h15, .ref h16, .ref h17, .int 0, .ref h18, .ref h19, .ref h20])), (h1, .inl (cy 1, 3918, .inl f1))]) 0 0 := by
  refine q_ent (own := RX12) (by decide) rfl (Nat.le_of_ble_eq_true rfl) (fun p e s m below meth c ls X hr hlk hnm hK h hA hl => ?_)
  obtain ⟨hx, hb, hml, hown, ht⟩ := id X
  have hl : lv_has ls 5 [(0, .ref h0), (1, .int 0), (2, .int p0)] := hl
  refine lv_iconst (v := 0) hx hb dX12_ayesOf_0 (by decide) ?_
  refine lv_istore_n (lv' := [(3, .int 0), (0, .ref h0), (1, .int 0), (2, .int p0)]) hx hb dX12_ayesOf_1 rfl hl (by decide) rfl (fun ls hl => ?_)
  refine lv_iconst (v := 0) hx hb dX12_ayesOf_2 (by decide) ?_
  refine lv_istore (lv' := [(4, .int 0), (3, .int 0), (0, .ref h0), (1, .int 0), (2, .int p0)]) hx hb dX12_ayesOf_3 hl (by decide) rfl (fun ls hl => ?_)
  refine lv_iload hx hb dX12_ayesOf_5 (lv_at hl 0 rfl) ?_
  refine lv_aload_n hx hb dX12_ayesOf_7 rfl (lv_at hl 2 rfl) ?_
  refine q_get X hK h 0 rfl rfl wf_12 1 (by decide) rfl wm_5_171 dX12_ayesOf_8 ?_
  refine lv_iconst (v := 2) hx hb dX12_ayesOf_11 (by decide) ?_
  refine q_iald X hK h 1 rfl (q_in (by decide +kernel)) dX12_ayesOf_12 ?_
  refine q_c 0 (hf_f1_2) ?_
  refine lv_icmp_ge (tgt := 53) hx hb dX12_ayesOf_13 (by decide) (fun _ => ?_) (fun c => absurd c (by decide +kernel))
  refine lv_iload_n hx hb dX12_ayesOf_53 rfl (lv_at hl 1 rfl) ?_
  exact q_iret X hr hlk hK h rfl (fun _ => 0, fun _ _ => 0, fun _ _ => 0) rfl [0, 1] rfl rfl dX12_ayesOf_54 (Nat.le_of_ble_eq_true rfl) (Nat.le_of_ble_eq_true rfl)
set_option maxHeartbeats 4000000 in
set_option maxRecDepth 100000 in
theorem kX12_passedBy_659 (l : Launch) (D : va_G) (cy : Nat → ClassId) (h0 : Nat) (h1 : Nat) (h2 : Nat) (p0 : Int32) (h3 : Nat) (h4 : Nat) (h5 : Nat) (h6 : Nat) (h7 : Nat) (h8 : Nat) (h9 : Nat) (h10 : Nat) (h11 : Nat) (h12 : Nat) (h13 : Nat) (h14 : Nat) (h15 : Nat) (h16 : Nat) (h17 : Nat) (h18 : Nat) (h19 : Nat) (h20 : Nat) (f0 : Nat → Int32) (f1 : Nat → Int32) (hf_f0_0 : f0 (Int32.toNatClampNeg 0) = 1) (hf_f1_2 : f1 (Int32.toNatClampNeg 2) = 0) (hf_f1_52 : f1 (Int32.toNatClampNeg 52) = 0) (hf_f1_53 : f1 (Int32.toNatClampNeg 53) = 0) (sz : Nat) : MI l yX12_passedBy cX12_passedBy 7 .int { frames := 2, cells := 0, slots := 0, locals := 43 } [.ref h0, .int p0] D cy [(h0, .inr (12, [.int 0, .ref h2, .ref h3, .ref h4, .ref h5, .int 0, .int 0, .int 0, .int 0, .int 0, .int 0, .int 0, .int 0, .int 0, .int (-1), .int 0, .ref h6, .ref h7, .ref h8, .ref h9, .ref h10, .int 0, .int 0, .ref h1, .ref h11, .ref h12, .int 0, .int 0, .ref h13, .ref h14, .ref h15, .ref h16, .ref h17, .int 0, .ref h18, .ref h19, .ref h20])), (h1, .inl (cy 1, 1024, .inl f0)), (h2, .inl (cy 1, 3918, .inl f1))] sz (fun r u => r = (-1)) (fun u => [(h0, .inr (12, [.int 0, .ref h2, .ref h3, .ref h4, .ref h5, .int 0, .int 0, .int 0, .int 0, .int 0, .int 0, .int 0, .int 0, .int 0, .int (-1), .int 0, .ref h6, .ref h7, .ref h8, .ref h9, .ref h10, .int 0, .int 0, .ref h1, .ref h11, .ref h12, .int 0, .int 0, .ref h13, .ref h14, .ref h15, .ref h16, .ref h17, .int 0, .ref h18, .ref h19, .ref h20])), (h1, .inl (cy 1, 1024, .inl f0)), (h2, .inl (cy 1, 3918, .inl f1))]) 0 0 := by
  refine q_ent (own := RX12) (by decide) rfl (Nat.le_of_ble_eq_true rfl) (fun p e s m below meth c ls X hr hlk hnm hK h hA hl => ?_)
  obtain ⟨hx, hb, hml, hown, ht⟩ := id X
  have hl : lv_has ls 7 [(0, .ref h0), (1, .int p0)] := hl
  refine lv_aload_n hx hb dX12_passedBy_0 rfl (lv_at hl 0 rfl) ?_
  refine q_callVi (rest := []) (wr := [(h1, .inl (cy 1, 1024, .inl f0))]) X hK hA h (fun sz => kX12_townNow_606 l D cy h0 h2 h3 h4 h5 h6 h7 h8 h9 h10 h1 h11 h12 h13 h14 h15 h16 h17 h18 h19 h20 f1 hf_f1_2 hf_f1_52 hf_f1_53 sz) wm_6_170 wm_6_173 wm_1_12 hd_X12_townNow wm_6_172 wp_5_9 (ci := 12) (q0 := 0) rfl rfl ⟨Nat.le_of_ble_eq_true rfl, Nat.le_of_ble_eq_true rfl⟩ hl.1 rfl (Nat.le_of_ble_eq_true rfl) dX12_passedBy_1 ⟨Nat.le_of_ble_eq_true rfl, Nat.le_of_ble_eq_true rfl⟩ [0, 2] [1] rfl rfl (by decide) rfl rfl (fun r_9734 u_9734 H locs w_9734 h => ?_)
  obtain rfl : r_9734 = 0 := w_9734
  have h : qW D _ _ [(h1, .inl (cy 1, 1024, .inl f0)), (h0, .inr (12, [.int 0, .ref h2, .ref h3, .ref h4, .ref h5, .int 0, .int 0, .int 0, .int 0, .int 0, .int 0, .int 0, .int 0, .int 0, .int (-1), .int 0, .ref h6, .ref h7, .ref h8, .ref h9, .ref h10, .int 0, .int 0, .ref h1, .ref h11, .ref h12, .int 0, .int 0, .ref h13, .ref h14, .ref h15, .ref h16, .ref h17, .int 0, .ref h18, .ref h19, .ref h20])), (h2, .inl (cy 1, 3918, .inl f1))] _ _ := h
  refine lv_istore_n (lv' := [(2, .int 0), (0, .ref h0), (1, .int p0)]) hx hb dX12_passedBy_4 rfl hl (by decide) rfl (fun ls hl => ?_)
  refine lv_aload_n hx hb dX12_passedBy_5 rfl (lv_at hl 1 rfl) ?_
  refine lv_iload_n hx hb dX12_passedBy_6 rfl (lv_at hl 0 rfl) ?_
  refine lv_iload_n hx hb dX12_passedBy_7 rfl (lv_at hl 2 rfl) ?_
  refine q_callVi (rest := []) (wr := [(h1, .inl (cy 1, 1024, .inl f0))]) X hK hA h (fun sz => kX12_ayesOf_658 l D cy h0 h2 p0 h3 h4 h5 h6 h7 h8 h9 h10 h1 h11 h12 h13 h14 h15 h16 h17 h18 h19 h20 f1 hf_f1_2 sz) wm_7_195 wm_7_198 wm_1_12 hd_X12_ayesOf wm_7_197 wp_7_12 (ci := 12) (q0 := 0) rfl rfl ⟨Nat.le_of_ble_eq_true rfl, Nat.le_of_ble_eq_true rfl⟩ hl.1 rfl (Nat.le_of_ble_eq_true rfl) dX12_passedBy_8 ⟨Nat.le_of_ble_eq_true rfl, Nat.le_of_ble_eq_true rfl⟩ [1, 2] [0] rfl rfl (by decide) rfl rfl (fun r_9735 u_9735 H locs w_9735 h => ?_)
  obtain rfl : r_9735 = 0 := w_9735
  have h : qW D _ _ [(h1, .inl (cy 1, 1024, .inl f0)), (h0, .inr (12, [.int 0, .ref h2, .ref h3, .ref h4, .ref h5, .int 0, .int 0, .int 0, .int 0, .int 0, .int 0, .int 0, .int 0, .int 0, .int (-1), .int 0, .ref h6, .ref h7, .ref h8, .ref h9, .ref h10, .int 0, .int 0, .ref h1, .ref h11, .ref h12, .int 0, .int 0, .ref h13, .ref h14, .ref h15, .ref h16, .ref h17, .int 0, .ref h18, .ref h19, .ref h20])), (h2, .inl (cy 1, 3918, .inl f1))] _ _ := h
  refine lv_istore_n (lv' := [(3, .int 0), (2, .int 0), (0, .ref h0), (1, .int p0)]) hx hb dX12_passedBy_11 rfl hl (by decide) rfl (fun ls hl => ?_)
  refine lv_iconst (v := (-1)) hx hb dX12_passedBy_12 (by decide) ?_
  refine lv_istore (lv' := [(4, .int (-1)), (3, .int 0), (2, .int 0), (0, .ref h0), (1, .int p0)]) hx hb dX12_passedBy_13 hl (by decide) rfl (fun ls hl => ?_)
  refine lv_iconst (v := 0) hx hb dX12_passedBy_15 (by decide) ?_
  refine lv_istore (lv' := [(5, .int 0), (4, .int (-1)), (3, .int 0), (2, .int 0), (0, .ref h0), (1, .int p0)]) hx hb dX12_passedBy_16 hl (by decide) rfl (fun ls hl => ?_)
  refine lv_iload hx hb dX12_passedBy_18 (lv_at hl 0 rfl) ?_
  refine lv_iload_n hx hb dX12_passedBy_20 rfl (lv_at hl 3 rfl) ?_
  refine lv_icmp_gt (tgt := 100) hx hb dX12_passedBy_21 (by decide) (fun c => absurd c (by decide +kernel)) (fun _ => ?_)
  refine lv_iload_n hx hb dX12_passedBy_24 rfl (lv_at hl 3 rfl) ?_
  refine lv_iload hx hb dX12_passedBy_25 (lv_at hl 0 rfl) ?_
  refine lv_iconst (v := (-1)) hx hb dX12_passedBy_27 (by decide) ?_
  refine lv_ixor hx hb dX12_passedBy_28 ?_
  refine q_c (-1) (by decide +kernel) ?_
  refine lv_iand hx hb dX12_passedBy_29 ?_
  refine q_c 0 (by decide +kernel) ?_
  refine lv_istore (lv' := [(6, .int 0), (5, .int 0), (4, .int (-1)), (3, .int 0), (2, .int 0), (0, .ref h0), (1, .int p0)]) hx hb dX12_passedBy_30 hl (by decide) rfl (fun ls hl => ?_)
  refine lv_iload hx hb dX12_passedBy_32 (lv_at hl 1 rfl) ?_
  refine lv_iload_n hx hb dX12_passedBy_34 rfl (lv_at hl 4 rfl) ?_
  refine lv_iconst (v := (-1)) hx hb dX12_passedBy_35 (by decide) ?_
  refine lv_ixor hx hb dX12_passedBy_36 ?_
  refine q_c (-1) (by decide +kernel) ?_
  refine lv_iand hx hb dX12_passedBy_37 ?_
  refine q_c 0 (by decide +kernel) ?_
  refine lv_if_ne (tgt := 94) hx hb dX12_passedBy_38 (by decide) (fun c => absurd c (by decide +kernel)) (fun _ => ?_)
  refine lv_iload hx hb dX12_passedBy_41 (lv_at hl 2 rfl) ?_
  refine lv_iconst (v := (-1)) hx hb dX12_passedBy_43 (by decide) ?_
  refine lv_icmp_eq (tgt := 63) hx hb dX12_passedBy_44 (by decide) (fun _ => ?_) (fun c => absurd c (by decide +kernel))
  refine lv_aload_n hx hb dX12_passedBy_63 rfl (lv_at hl 5 rfl) ?_
  refine q_get X hK h 1 rfl rfl wf_12 23 (by decide) rfl wm_5_193 dX12_passedBy_64 ?_
  refine lv_iload hx hb dX12_passedBy_67 (lv_at hl 0 rfl) ?_
  refine q_iald X hK h 0 rfl (q_in (by decide +kernel)) dX12_passedBy_69 ?_
  refine q_c 1 (hf_f0_0) ?_
  refine lv_if_le (tgt := 94) hx hb dX12_passedBy_70 (by decide) (fun c => absurd c (by decide +kernel)) (fun _ => ?_)
  refine lv_iconst (v := 2) hx hb dX12_passedBy_73 (by decide) ?_
  refine lv_iload_n hx hb dX12_passedBy_74 rfl (lv_at hl 3 rfl) ?_
  refine lv_iload hx hb dX12_passedBy_75 (lv_at hl 0 rfl) ?_
  refine lv_iand hx hb dX12_passedBy_77 ?_
  refine q_c 0 (by decide +kernel) ?_
  refine q_callSi (rest := [.int 2]) (wr := [(h1, .inl (cy 1, 1024, .inl f0)), (h0, .inr (12, [.int 0, .ref h2, .ref h3, .ref h4, .ref h5, .int 0, .int 0, .int 0, .int 0, .int 0, .int 0, .int 0, .int 0, .int 0, .int (-1), .int 0, .ref h6, .ref h7, .ref h8, .ref h9, .ref h10, .int 0, .int 0, .ref h1, .ref h11, .ref h12, .int 0, .int 0, .ref h13, .ref h14, .ref h15, .ref h16, .ref h17, .int 0, .ref h18, .ref h19, .ref h20])), (h2, .inl (cy 1, 3918, .inl f1))]) X hK hA h (fun sz => kX12_bitsOf_582 l D cy   sz) wm_7_8 wm_7_10 wm_1_12 hd_X12_bitsOf wm_7_9 ⟨Nat.le_of_ble_eq_true rfl, Nat.le_of_ble_eq_true rfl⟩ hl.1 rfl (Nat.le_of_ble_eq_true rfl) dX12_passedBy_78 ⟨Nat.le_of_ble_eq_true rfl, Nat.le_of_ble_eq_true rfl⟩ [] [0, 1, 2] rfl rfl (by decide) rfl rfl (fun r_9736 u_9736 H locs w_9736 h => ?_)
  obtain rfl : r_9736 = 0 := w_9736
  have h : qW D _ _ [(h1, .inl (cy 1, 1024, .inl f0)), (h0, .inr (12, [.int 0, .ref h2, .ref h3, .ref h4, .ref h5, .int 0, .int 0, .int 0, .int 0, .int 0, .int 0, .int 0, .int 0, .int 0, .int (-1), .int 0, .ref h6, .ref h7, .ref h8, .ref h9, .ref h10, .int 0, .int 0, .ref h1, .ref h11, .ref h12, .int 0, .int 0, .ref h13, .ref h14, .ref h15, .ref h16, .ref h17, .int 0, .ref h18, .ref h19, .ref h20])), (h2, .inl (cy 1, 3918, .inl f1))] _ _ := h
  refine lv_imul hx hb dX12_passedBy_81 ?_
  refine q_c 0 (by decide +kernel) ?_
  refine lv_iload hx hb dX12_passedBy_82 (lv_at hl 0 rfl) ?_
  refine q_callSi (rest := [.int 0]) (wr := [(h1, .inl (cy 1, 1024, .inl f0)), (h0, .inr (12, [.int 0, .ref h2, .ref h3, .ref h4, .ref h5, .int 0, .int 0, .int 0, .int 0, .int 0, .int 0, .int 0, .int 0, .int 0, .int (-1), .int 0, .ref h6, .ref h7, .ref h8, .ref h9, .ref h10, .int 0, .int 0, .ref h1, .ref h11, .ref h12, .int 0, .int 0, .ref h13, .ref h14, .ref h15, .ref h16, .ref h17, .int 0, .ref h18, .ref h19, .ref h20])), (h2, .inl (cy 1, 3918, .inl f1))]) X hK hA h (fun sz => kX12_bitsOf_582 l D cy   sz) wm_7_8 wm_7_10 wm_1_12 hd_X12_bitsOf wm_7_9 ⟨Nat.le_of_ble_eq_true rfl, Nat.le_of_ble_eq_true rfl⟩ hl.1 rfl (Nat.le_of_ble_eq_true rfl) dX12_passedBy_84 ⟨Nat.le_of_ble_eq_true rfl, Nat.le_of_ble_eq_true rfl⟩ [] [0, 1, 2] rfl rfl (by decide) rfl rfl (fun r_9737 u_9737 H locs w_9737 h => ?_)
  obtain rfl : r_9737 = 0 := w_9737
  have h : qW D _ _ [(h1, .inl (cy 1, 1024, .inl f0)), (h0, .inr (12, [.int 0, .ref h2, .ref h3, .ref h4, .ref h5, .int 0, .int 0, .int 0, .int 0, .int 0, .int 0, .int 0, .int 0, .int 0, .int (-1), .int 0, .ref h6, .ref h7, .ref h8, .ref h9, .ref h10, .int 0, .int 0, .ref h1, .ref h11, .ref h12, .int 0, .int 0, .ref h13, .ref h14, .ref h15, .ref h16, .ref h17, .int 0, .ref h18, .ref h19, .ref h20])), (h2, .inl (cy 1, 3918, .inl f1))] _ _ := h
  refine lv_icmp_le (tgt := 94) hx hb dX12_passedBy_87 (by decide) (fun _ => ?_) (fun c => absurd c (by decide +kernel))
  refine lv_iinc (v := 1) (lv' := [(5, .int 1), (6, .int 0), (4, .int (-1)), (3, .int 0), (2, .int 0), (0, .ref h0), (1, .int p0)]) hx hb dX12_passedBy_94 hl (k := 1) rfl (by decide +kernel) (by decide) rfl (fun ls hl => ?_)
  refine lv_goto (tgt := 18) hx hb dX12_passedBy_97 (by decide) ?_
  refine lv_iload hx hb dX12_passedBy_18 (lv_at hl 0 rfl) ?_
  refine lv_iload_n hx hb dX12_passedBy_20 rfl (lv_at hl 4 rfl) ?_
  refine lv_icmp_gt (tgt := 100) hx hb dX12_passedBy_21 (by decide) (fun _ => ?_) (fun c => absurd c (by decide +kernel))
  refine lv_iload hx hb dX12_passedBy_100 (lv_at hl 2 rfl) ?_
  exact q_iret X hr hlk hK h rfl (fun _ => 0, fun _ _ => 0, fun _ _ => 0) rfl [1, 0, 2] rfl rfl dX12_passedBy_102 (Nat.le_of_ble_eq_true rfl) (Nat.le_of_ble_eq_true rfl)
set_option maxHeartbeats 4000000 in
set_option maxRecDepth 100000 in
theorem kX12_passedBy_660 (l : Launch) (D : va_G) (cy : Nat → ClassId) (h0 : Nat) (h1 : Nat) (h2 : Nat) (p0 : Int32) (h3 : Nat) (h4 : Nat) (h5 : Nat) (h6 : Nat) (h7 : Nat) (h8 : Nat) (h9 : Nat) (h10 : Nat) (h11 : Nat) (h12 : Nat) (h13 : Nat) (h14 : Nat) (h15 : Nat) (h16 : Nat) (h17 : Nat) (h18 : Nat) (h19 : Nat) (h20 : Nat) (f1 : Nat → Int32) (f2 : Nat → Int32) (hf_f1_0 : f1 (Int32.toNatClampNeg 0) = 1) (hf_f2_2 : f2 (Int32.toNatClampNeg 2) = 0) (hf_f2_52 : f2 (Int32.toNatClampNeg 52) = 0) (hf_f2_53 : f2 (Int32.toNatClampNeg 53) = 0) (sz : Nat) : MI l yX12_passedBy cX12_passedBy 7 .int { frames := 2, cells := 0, slots := 0, locals := 43 } [.ref h0, .int p0] D cy [(h0, .inr (12, [.int 0, .ref h2, .ref h3, .ref h4, .ref h5, .int 0, .int 0, .int 0, .int 0, .int 0, .int 0, .int 0, .int 0, .int 0, .int (-1), .int 0, .ref h6, .ref h7, .ref h8, .ref h9, .ref h10, .int 0, .int 0, .ref h1, .ref h11, .ref h12, .int 0, .int 0, .ref h13, .ref h14, .ref h15, .ref h16, .ref h17, .int 0, .ref h18, .ref h19, .ref h20])), (h1, .inl (cy 1, 1024, .inl f1)), (h2, .inl (cy 1, 3918, .inl f2))] sz (fun r u => r = (-1)) (fun u => [(h0, .inr (12, [.int 0, .ref h2, .ref h3, .ref h4, .ref h5, .int 0, .int 0, .int 0, .int 0, .int 0, .int 0, .int 0, .int 0, .int 0, .int (-1), .int 0, .ref h6, .ref h7, .ref h8, .ref h9, .ref h10, .int 0, .int 0, .ref h1, .ref h11, .ref h12, .int 0, .int 0, .ref h13, .ref h14, .ref h15, .ref h16, .ref h17, .int 0, .ref h18, .ref h19, .ref h20])), (h1, .inl (cy 1, 1024, .inl f1)), (h2, .inl (cy 1, 3918, .inl f2))]) 0 0 := by
  refine q_ent (own := RX12) (by decide) rfl (Nat.le_of_ble_eq_true rfl) (fun p e s m below meth c ls X hr hlk hnm hK h hA hl => ?_)
  obtain ⟨hx, hb, hml, hown, ht⟩ := id X
  have hl : lv_has ls 7 [(0, .ref h0), (1, .int p0)] := hl
  refine lv_aload_n hx hb dX12_passedBy_0 rfl (lv_at hl 0 rfl) ?_
  refine q_callVi (rest := []) (wr := [(h1, .inl (cy 1, 1024, .inl f1))]) X hK hA h (fun sz => kX12_townNow_606 l D cy h0 h2 h3 h4 h5 h6 h7 h8 h9 h10 h1 h11 h12 h13 h14 h15 h16 h17 h18 h19 h20 f2 hf_f2_2 hf_f2_52 hf_f2_53 sz) wm_6_170 wm_6_173 wm_1_12 hd_X12_townNow wm_6_172 wp_5_9 (ci := 12) (q0 := 0) rfl rfl ⟨Nat.le_of_ble_eq_true rfl, Nat.le_of_ble_eq_true rfl⟩ hl.1 rfl (Nat.le_of_ble_eq_true rfl) dX12_passedBy_1 ⟨Nat.le_of_ble_eq_true rfl, Nat.le_of_ble_eq_true rfl⟩ [0, 2] [1] rfl rfl (by decide) rfl rfl (fun r_9807 u_9807 H locs w_9807 h => ?_)
  obtain rfl : r_9807 = 0 := w_9807
  have h : qW D _ _ [(h1, .inl (cy 1, 1024, .inl f1)), (h0, .inr (12, [.int 0, .ref h2, .ref h3, .ref h4, .ref h5, .int 0, .int 0, .int 0, .int 0, .int 0, .int 0, .int 0, .int 0, .int 0, .int (-1), .int 0, .ref h6, .ref h7, .ref h8, .ref h9, .ref h10, .int 0, .int 0, .ref h1, .ref h11, .ref h12, .int 0, .int 0, .ref h13, .ref h14, .ref h15, .ref h16, .ref h17, .int 0, .ref h18, .ref h19, .ref h20])), (h2, .inl (cy 1, 3918, .inl f2))] _ _ := h
  refine lv_istore_n (lv' := [(2, .int 0), (0, .ref h0), (1, .int p0)]) hx hb dX12_passedBy_4 rfl hl (by decide) rfl (fun ls hl => ?_)
  refine lv_aload_n hx hb dX12_passedBy_5 rfl (lv_at hl 1 rfl) ?_
  refine lv_iload_n hx hb dX12_passedBy_6 rfl (lv_at hl 0 rfl) ?_
  refine lv_iload_n hx hb dX12_passedBy_7 rfl (lv_at hl 2 rfl) ?_
  refine q_callVi (rest := []) (wr := [(h1, .inl (cy 1, 1024, .inl f1))]) X hK hA h (fun sz => kX12_ayesOf_658 l D cy h0 h2 p0 h3 h4 h5 h6 h7 h8 h9 h10 h1 h11 h12 h13 h14 h15 h16 h17 h18 h19 h20 f2 hf_f2_2 sz) wm_7_195 wm_7_198 wm_1_12 hd_X12_ayesOf wm_7_197 wp_7_12 (ci := 12) (q0 := 0) rfl rfl ⟨Nat.le_of_ble_eq_true rfl, Nat.le_of_ble_eq_true rfl⟩ hl.1 rfl (Nat.le_of_ble_eq_true rfl) dX12_passedBy_8 ⟨Nat.le_of_ble_eq_true rfl, Nat.le_of_ble_eq_true rfl⟩ [1, 2] [0] rfl rfl (by decide) rfl rfl (fun r_9808 u_9808 H locs w_9808 h => ?_)
  obtain rfl : r_9808 = 0 := w_9808
  have h : qW D _ _ [(h1, .inl (cy 1, 1024, .inl f1)), (h0, .inr (12, [.int 0, .ref h2, .ref h3, .ref h4, .ref h5, .int 0, .int 0, .int 0, .int 0, .int 0, .int 0, .int 0, .int 0, .int 0, .int (-1), .int 0, .ref h6, .ref h7, .ref h8, .ref h9, .ref h10, .int 0, .int 0, .ref h1, .ref h11, .ref h12, .int 0, .int 0, .ref h13, .ref h14, .ref h15, .ref h16, .ref h17, .int 0, .ref h18, .ref h19, .ref h20])), (h2, .inl (cy 1, 3918, .inl f2))] _ _ := h
  refine lv_istore_n (lv' := [(3, .int 0), (2, .int 0), (0, .ref h0), (1, .int p0)]) hx hb dX12_passedBy_11 rfl hl (by decide) rfl (fun ls hl => ?_)
  refine lv_iconst (v := (-1)) hx hb dX12_passedBy_12 (by decide) ?_
  refine lv_istore (lv' := [(4, .int (-1)), (3, .int 0), (2, .int 0), (0, .ref h0), (1, .int p0)]) hx hb dX12_passedBy_13 hl (by decide) rfl (fun ls hl => ?_)
  refine lv_iconst (v := 0) hx hb dX12_passedBy_15 (by decide) ?_
  refine lv_istore (lv' := [(5, .int 0), (4, .int (-1)), (3, .int 0), (2, .int 0), (0, .ref h0), (1, .int p0)]) hx hb dX12_passedBy_16 hl (by decide) rfl (fun ls hl => ?_)
  refine lv_iload hx hb dX12_passedBy_18 (lv_at hl 0 rfl) ?_
  refine lv_iload_n hx hb dX12_passedBy_20 rfl (lv_at hl 3 rfl) ?_
  refine lv_icmp_gt (tgt := 100) hx hb dX12_passedBy_21 (by decide) (fun c => absurd c (by decide +kernel)) (fun _ => ?_)
  refine lv_iload_n hx hb dX12_passedBy_24 rfl (lv_at hl 3 rfl) ?_
  refine lv_iload hx hb dX12_passedBy_25 (lv_at hl 0 rfl) ?_
  refine lv_iconst (v := (-1)) hx hb dX12_passedBy_27 (by decide) ?_
  refine lv_ixor hx hb dX12_passedBy_28 ?_
  refine q_c (-1) (by decide +kernel) ?_
  refine lv_iand hx hb dX12_passedBy_29 ?_
  refine q_c 0 (by decide +kernel) ?_
  refine lv_istore (lv' := [(6, .int 0), (5, .int 0), (4, .int (-1)), (3, .int 0), (2, .int 0), (0, .ref h0), (1, .int p0)]) hx hb dX12_passedBy_30 hl (by decide) rfl (fun ls hl => ?_)
  refine lv_iload hx hb dX12_passedBy_32 (lv_at hl 1 rfl) ?_
  refine lv_iload_n hx hb dX12_passedBy_34 rfl (lv_at hl 4 rfl) ?_
  refine lv_iconst (v := (-1)) hx hb dX12_passedBy_35 (by decide) ?_
  refine lv_ixor hx hb dX12_passedBy_36 ?_
  refine q_c (-1) (by decide +kernel) ?_
  refine lv_iand hx hb dX12_passedBy_37 ?_
  refine q_c 0 (by decide +kernel) ?_
  refine lv_if_ne (tgt := 94) hx hb dX12_passedBy_38 (by decide) (fun c => absurd c (by decide +kernel)) (fun _ => ?_)
  refine lv_iload hx hb dX12_passedBy_41 (lv_at hl 2 rfl) ?_
  refine lv_iconst (v := (-1)) hx hb dX12_passedBy_43 (by decide) ?_
  refine lv_icmp_eq (tgt := 63) hx hb dX12_passedBy_44 (by decide) (fun _ => ?_) (fun c => absurd c (by decide +kernel))
  refine lv_aload_n hx hb dX12_passedBy_63 rfl (lv_at hl 5 rfl) ?_
  refine q_get X hK h 1 rfl rfl wf_12 23 (by decide) rfl wm_5_193 dX12_passedBy_64 ?_
  refine lv_iload hx hb dX12_passedBy_67 (lv_at hl 0 rfl) ?_
  refine q_iald X hK h 0 rfl (q_in (by decide +kernel)) dX12_passedBy_69 ?_
  refine q_c 1 (hf_f1_0) ?_
  refine lv_if_le (tgt := 94) hx hb dX12_passedBy_70 (by decide) (fun c => absurd c (by decide +kernel)) (fun _ => ?_)
  refine lv_iconst (v := 2) hx hb dX12_passedBy_73 (by decide) ?_
  refine lv_iload_n hx hb dX12_passedBy_74 rfl (lv_at hl 3 rfl) ?_
  refine lv_iload hx hb dX12_passedBy_75 (lv_at hl 0 rfl) ?_
  refine lv_iand hx hb dX12_passedBy_77 ?_
  refine q_c 0 (by decide +kernel) ?_
  refine q_callSi (rest := [.int 2]) (wr := [(h1, .inl (cy 1, 1024, .inl f1)), (h0, .inr (12, [.int 0, .ref h2, .ref h3, .ref h4, .ref h5, .int 0, .int 0, .int 0, .int 0, .int 0, .int 0, .int 0, .int 0, .int 0, .int (-1), .int 0, .ref h6, .ref h7, .ref h8, .ref h9, .ref h10, .int 0, .int 0, .ref h1, .ref h11, .ref h12, .int 0, .int 0, .ref h13, .ref h14, .ref h15, .ref h16, .ref h17, .int 0, .ref h18, .ref h19, .ref h20])), (h2, .inl (cy 1, 3918, .inl f2))]) X hK hA h (fun sz => kX12_bitsOf_582 l D cy   sz) wm_7_8 wm_7_10 wm_1_12 hd_X12_bitsOf wm_7_9 ⟨Nat.le_of_ble_eq_true rfl, Nat.le_of_ble_eq_true rfl⟩ hl.1 rfl (Nat.le_of_ble_eq_true rfl) dX12_passedBy_78 ⟨Nat.le_of_ble_eq_true rfl, Nat.le_of_ble_eq_true rfl⟩ [] [0, 1, 2] rfl rfl (by decide) rfl rfl (fun r_9809 u_9809 H locs w_9809 h => ?_)
  obtain rfl : r_9809 = 0 := w_9809
  have h : qW D _ _ [(h1, .inl (cy 1, 1024, .inl f1)), (h0, .inr (12, [.int 0, .ref h2, .ref h3, .ref h4, .ref h5, .int 0, .int 0, .int 0, .int 0, .int 0, .int 0, .int 0, .int 0, .int 0, .int (-1), .int 0, .ref h6, .ref h7, .ref h8, .ref h9, .ref h10, .int 0, .int 0, .ref h1, .ref h11, .ref h12, .int 0, .int 0, .ref h13, .ref h14, .ref h15, .ref h16, .ref h17, .int 0, .ref h18, .ref h19, .ref h20])), (h2, .inl (cy 1, 3918, .inl f2))] _ _ := h
  refine lv_imul hx hb dX12_passedBy_81 ?_
  refine q_c 0 (by decide +kernel) ?_
  refine lv_iload hx hb dX12_passedBy_82 (lv_at hl 0 rfl) ?_
  refine q_callSi (rest := [.int 0]) (wr := [(h1, .inl (cy 1, 1024, .inl f1)), (h0, .inr (12, [.int 0, .ref h2, .ref h3, .ref h4, .ref h5, .int 0, .int 0, .int 0, .int 0, .int 0, .int 0, .int 0, .int 0, .int 0, .int (-1), .int 0, .ref h6, .ref h7, .ref h8, .ref h9, .ref h10, .int 0, .int 0, .ref h1, .ref h11, .ref h12, .int 0, .int 0, .ref h13, .ref h14, .ref h15, .ref h16, .ref h17, .int 0, .ref h18, .ref h19, .ref h20])), (h2, .inl (cy 1, 3918, .inl f2))]) X hK hA h (fun sz => kX12_bitsOf_582 l D cy   sz) wm_7_8 wm_7_10 wm_1_12 hd_X12_bitsOf wm_7_9 ⟨Nat.le_of_ble_eq_true rfl, Nat.le_of_ble_eq_true rfl⟩ hl.1 rfl (Nat.le_of_ble_eq_true rfl) dX12_passedBy_84 ⟨Nat.le_of_ble_eq_true rfl, Nat.le_of_ble_eq_true rfl⟩ [] [0, 1, 2] rfl rfl (by decide) rfl rfl (fun r_9810 u_9810 H locs w_9810 h => ?_)
  obtain rfl : r_9810 = 0 := w_9810
  have h : qW D _ _ [(h1, .inl (cy 1, 1024, .inl f1)), (h0, .inr (12, [.int 0, .ref h2, .ref h3, .ref h4, .ref h5, .int 0, .int 0, .int 0, .int 0, .int 0, .int 0, .int 0, .int 0, .int 0, .int (-1), .int 0, .ref h6, .ref h7, .ref h8, .ref h9, .ref h10, .int 0, .int 0, .ref h1, .ref h11, .ref h12, .int 0, .int 0, .ref h13, .ref h14, .ref h15, .ref h16, .ref h17, .int 0, .ref h18, .ref h19, .ref h20])), (h2, .inl (cy 1, 3918, .inl f2))] _ _ := h
  refine lv_icmp_le (tgt := 94) hx hb dX12_passedBy_87 (by decide) (fun _ => ?_) (fun c => absurd c (by decide +kernel))
  refine lv_iinc (v := 1) (lv' := [(5, .int 1), (6, .int 0), (4, .int (-1)), (3, .int 0), (2, .int 0), (0, .ref h0), (1, .int p0)]) hx hb dX12_passedBy_94 hl (k := 1) rfl (by decide +kernel) (by decide) rfl (fun ls hl => ?_)
  refine lv_goto (tgt := 18) hx hb dX12_passedBy_97 (by decide) ?_
  refine lv_iload hx hb dX12_passedBy_18 (lv_at hl 0 rfl) ?_
  refine lv_iload_n hx hb dX12_passedBy_20 rfl (lv_at hl 4 rfl) ?_
  refine lv_icmp_gt (tgt := 100) hx hb dX12_passedBy_21 (by decide) (fun _ => ?_) (fun c => absurd c (by decide +kernel))
  refine lv_iload hx hb dX12_passedBy_100 (lv_at hl 2 rfl) ?_
  exact q_iret X hr hlk hK h rfl (fun _ => 0, fun _ _ => 0, fun _ _ => 0) rfl [1, 0, 2] rfl rfl dX12_passedBy_102 (Nat.le_of_ble_eq_true rfl) (Nat.le_of_ble_eq_true rfl)
