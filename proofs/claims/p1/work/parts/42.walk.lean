set_option maxHeartbeats 4000000 in
set_option maxRecDepth 100000 in
theorem kX12_numbers_730 (l : Launch) (D : va_G) (cy : Nat → ClassId) (h0 : Nat) (h1 : Nat) (h2 : Nat) (h3 : Nat) (f0 : Nat → Int32) (p0 : Int32) (p1 : Int32) (h4 : Nat) (h5 : Nat) (h6 : Nat) (h7 : Nat) (h8 : Nat) (h9 : Nat) (h10 : Nat) (h11 : Nat) (h12 : Nat) (h13 : Nat) (h14 : Nat) (h15 : Nat) (h16 : Nat) (h17 : Nat) (h18 : Nat) (h19 : Nat) (h20 : Nat) (hlo_p0 : (0 : Int32) ≤ p0) (hhi_p0 : p0 ≤ (3 : Int32)) (hlo_p1 : (0 : Int32) ≤ p1) (hhi_p1 : p1 ≤ (40 : Int32)) (sz : Nat) : MI l yX12_numbers cX12_numbers 5 .int { frames := 1, cells := 0, slots := 0, locals := 25 } [.ref h0, .int 3, .int p0, .int p1] D cy [(h0, .inr (12, [.int 0, .ref h4, .ref h5, .ref h6, .ref h7, .int 0, .int 0, .int 0, .int 0, .int 0, .int 0, .int 0, .int 0, .int 0, .int (-1), .int 0, .ref h8, .ref h9, .ref h10, .ref h11, .ref h12, .int 0, .int 0, .ref h13, .ref h14, .ref h15, .int 0, .int 0, .ref h16, .ref h17, .ref h18, .ref h19, .ref h20, .int 0, .ref h1, .ref h2, .ref h3])), (h1, .inl (cy 1, 4, .inl f0)), (h2, .inl (cy 1, 4, .inl (fun _ => 0))), (h3, .inl (cy 2, 160, .inr (.inl (fun _ => 0))))] sz (fun r u => r = 0) (fun u => [(h0, .inr (12, [.int 0, .ref h4, .ref h5, .ref h6, .ref h7, .int 0, .int 0, .int 0, .int 0, .int 0, .int 0, .int 0, .int 0, .int 0, .int (-1), .int 0, .ref h8, .ref h9, .ref h10, .ref h11, .ref h12, .int 0, .int 0, .ref h13, .ref h14, .ref h15, .int 0, .int 0, .ref h16, .ref h17, .ref h18, .ref h19, .ref h20, .int 0, .ref h1, .ref h2, .ref h3])), (h1, .inl (cy 1, 4, .inl (upd f0 (Int32.toNatClampNeg 3) p0))), (h2, .inl (cy 1, 4, .inl (upd (fun _ => 0) (Int32.toNatClampNeg 3) (nI N)))), (h3, .inl (cy 2, 160, .inr (.inl (fun _ => 0))))]) 0 0 := by
  refine q_ent (own := RX12) (by decide) rfl (Nat.le_of_ble_eq_true rfl) (fun p e s m below meth c ls X hr hlk hnm hK h hA hl => ?_)
  obtain ⟨hx, hb, hml, hown, ht⟩ := id X
  have hl : lv_has ls 5 [(0, .ref h0), (1, .int 3), (2, .int p0), (3, .int p1)] := hl
  refine lv_aload_n hx hb dX12_numbers_0 rfl (lv_at hl 0 rfl) ?_
  refine lv_iconst (v := 0) hx hb dX12_numbers_1 (by decide) ?_
  refine q_put (v := .int 0) X hK h 0 rfl rfl wf_12 tyX12 tyX12_ok nmX12 0 (by decide) wm_5_170 rfl rfl rfl (Nat.le_of_ble_eq_true rfl) dX12_numbers_2 (fun H locs h => ?_)
  have h : qW D _ _ [(h0, .inr (12, [.int 0, .ref h4, .ref h5, .ref h6, .ref h7, .int 0, .int 0, .int 0, .int 0, .int 0, .int 0, .int 0, .int 0, .int 0, .int (-1), .int 0, .ref h8, .ref h9, .ref h10, .ref h11, .ref h12, .int 0, .int 0, .ref h13, .ref h14, .ref h15, .int 0, .int 0, .ref h16, .ref h17, .ref h18, .ref h19, .ref h20, .int 0, .ref h1, .ref h2, .ref h3])), (h1, .inl (cy 1, 4, .inl f0)), (h2, .inl (cy 1, 4, .inl (fun _ => 0))), (h3, .inl (cy 2, 160, .inr (.inl (fun _ => 0))))] _ _ := h
  refine lv_iload_n hx hb dX12_numbers_5 rfl (lv_at hl 1 rfl) ?_
  refine lv_i2l (v := 3) hx hb dX12_numbers_6 (by decide +kernel) ?_
  refine lv_lconst (v := 0) hx hb dX12_numbers_7 (by decide) ?_
  refine lv_ldc2 hx hb hown (ht _ wm_7_29) dX12_numbers_8 ?_
  refine q_callSi (rest := []) (wr := [(h0, .inr (12, [.int 0, .ref h4, .ref h5, .ref h6, .ref h7, .int 0, .int 0, .int 0, .int 0, .int 0, .int 0, .int 0, .int 0, .int 0, .int (-1), .int 0, .ref h8, .ref h9, .ref h10, .ref h11, .ref h12, .int 0, .int 0, .ref h13, .ref h14, .ref h15, .int 0, .int 0, .ref h16, .ref h17, .ref h18, .ref h19, .ref h20, .int 0, .ref h1, .ref h2, .ref h3])), (h1, .inl (cy 1, 4, .inl f0)), (h2, .inl (cy 1, 4, .inl (fun _ => 0))), (h3, .inl (cy 2, 160, .inr (.inl (fun _ => 0))))]) X hK hA h (fun sz => kX12_within_521 l D cy   sz) wm_6_50 wm_6_52 wm_1_12 hd_X12_within wm_6_51 ⟨Nat.le_of_ble_eq_true rfl, Nat.le_of_ble_eq_true rfl⟩ hl.1 rfl (Nat.le_of_ble_eq_true rfl) dX12_numbers_11 ⟨Nat.le_of_ble_eq_true rfl, Nat.le_of_ble_eq_true rfl⟩ [] [0, 1, 2, 3] rfl rfl (by decide) rfl rfl (fun r_10995 u_10995 H locs w_10995 h => ?_)
  obtain rfl : r_10995 = 1 := w_10995
  have h : qW D _ _ [(h0, .inr (12, [.int 0, .ref h4, .ref h5, .ref h6, .ref h7, .int 0, .int 0, .int 0, .int 0, .int 0, .int 0, .int 0, .int 0, .int 0, .int (-1), .int 0, .ref h8, .ref h9, .ref h10, .ref h11, .ref h12, .int 0, .int 0, .ref h13, .ref h14, .ref h15, .int 0, .int 0, .ref h16, .ref h17, .ref h18, .ref h19, .ref h20, .int 0, .ref h1, .ref h2, .ref h3])), (h1, .inl (cy 1, 4, .inl f0)), (h2, .inl (cy 1, 4, .inl (fun _ => 0))), (h3, .inl (cy 2, 160, .inr (.inl (fun _ => 0))))] _ _ := h
  refine lv_if_eq (tgt := 29) hx hb dX12_numbers_14 (by decide) (fun c => absurd c (by decide +kernel)) (fun _ => ?_)
  refine lv_iload_n hx hb dX12_numbers_17 rfl (lv_at hl 2 rfl) ?_
  refine lv_i2l hx hb dX12_numbers_18 rfl ?_
  refine lv_lconst (v := 0) hx hb dX12_numbers_19 (by decide) ?_
  refine lv_ldc2 hx hb hown (ht _ wm_7_29) dX12_numbers_20 ?_
  have g_10998 : (0 : Int64) ≤ ((p0).toInt64) := by
    simp only [q_lc_lt, q_lc_ge, q_lc_gt, q_lc_le, q_lc_eq, Int32.toInt_toInt64, Int64.lt_iff_toInt_lt, Int64.le_iff_toInt_le, ← Int64.toInt_inj, Int32.lt_iff_toInt_lt, Int32.le_iff_toInt_le, ← Int32.toInt_inj] at hlo_p0 hhi_p0 ⊢
    have k_0 : (0 : Int32).toInt = 0 := by decide
    have k_1 : (3 : Int32).toInt = 3 := by decide
    have k_g : (0 : Int64).toInt = 0 := by decide
    omega
  have g_10999 : ((p0).toInt64) ≤ (3 : Int64) := by
    simp only [q_lc_lt, q_lc_ge, q_lc_gt, q_lc_le, q_lc_eq, Int32.toInt_toInt64, Int64.lt_iff_toInt_lt, Int64.le_iff_toInt_le, ← Int64.toInt_inj, Int32.lt_iff_toInt_lt, Int32.le_iff_toInt_le, ← Int32.toInt_inj] at hlo_p0 hhi_p0 ⊢
    have k_0 : (0 : Int32).toInt = 0 := by decide
    have k_1 : (3 : Int32).toInt = 3 := by decide
    have k_g : (3 : Int64).toInt = 3 := by decide
    omega
  refine q_callSi (rest := []) (wr := [(h0, .inr (12, [.int 0, .ref h4, .ref h5, .ref h6, .ref h7, .int 0, .int 0, .int 0, .int 0, .int 0, .int 0, .int 0, .int 0, .int 0, .int (-1), .int 0, .ref h8, .ref h9, .ref h10, .ref h11, .ref h12, .int 0, .int 0, .ref h13, .ref h14, .ref h15, .int 0, .int 0, .ref h16, .ref h17, .ref h18, .ref h19, .ref h20, .int 0, .ref h1, .ref h2, .ref h3])), (h1, .inl (cy 1, 4, .inl f0)), (h2, .inl (cy 1, 4, .inl (fun _ => 0))), (h3, .inl (cy 2, 160, .inr (.inl (fun _ => 0))))]) X hK hA h (fun sz => kX12_within_497 l D cy ((p0).toInt64) g_10998 g_10999 sz) wm_6_50 wm_6_52 wm_1_12 hd_X12_within wm_6_51 ⟨Nat.le_of_ble_eq_true rfl, Nat.le_of_ble_eq_true rfl⟩ hl.1 rfl (Nat.le_of_ble_eq_true rfl) dX12_numbers_23 ⟨Nat.le_of_ble_eq_true rfl, Nat.le_of_ble_eq_true rfl⟩ [] [0, 1, 2, 3] rfl rfl (by decide) rfl rfl (fun r_11000 u_11000 H locs w_11000 h => ?_)
  obtain rfl : r_11000 = 1 := w_11000
  have h : qW D _ _ [(h0, .inr (12, [.int 0, .ref h4, .ref h5, .ref h6, .ref h7, .int 0, .int 0, .int 0, .int 0, .int 0, .int 0, .int 0, .int 0, .int 0, .int (-1), .int 0, .ref h8, .ref h9, .ref h10, .ref h11, .ref h12, .int 0, .int 0, .ref h13, .ref h14, .ref h15, .int 0, .int 0, .ref h16, .ref h17, .ref h18, .ref h19, .ref h20, .int 0, .ref h1, .ref h2, .ref h3])), (h1, .inl (cy 1, 4, .inl f0)), (h2, .inl (cy 1, 4, .inl (fun _ => 0))), (h3, .inl (cy 2, 160, .inr (.inl (fun _ => 0))))] _ _ := h
  refine lv_if_ne (tgt := 32) hx hb dX12_numbers_26 (by decide) (fun _ => ?_) (fun c => absurd c (by decide +kernel))
  refine lv_iload_n hx hb dX12_numbers_32 rfl (lv_at hl 3 rfl) ?_
  refine lv_i2l hx hb dX12_numbers_33 rfl ?_
  refine lv_lconst (v := 0) hx hb dX12_numbers_34 (by decide) ?_
  refine lv_ldc2 hx hb hown (ht _ wm_7_82) dX12_numbers_35 ?_
  have g_11003 : (0 : Int64) ≤ ((p1).toInt64) := by
    simp only [q_lc_lt, q_lc_ge, q_lc_gt, q_lc_le, q_lc_eq, Int32.toInt_toInt64, Int64.lt_iff_toInt_lt, Int64.le_iff_toInt_le, ← Int64.toInt_inj, Int32.lt_iff_toInt_lt, Int32.le_iff_toInt_le, ← Int32.toInt_inj] at hlo_p1 hhi_p1 ⊢
    have k_0 : (0 : Int32).toInt = 0 := by decide
    have k_1 : (40 : Int32).toInt = 40 := by decide
    have k_g : (0 : Int64).toInt = 0 := by decide
    omega
  have g_11004 : ((p1).toInt64) ≤ (40 : Int64) := by
    simp only [q_lc_lt, q_lc_ge, q_lc_gt, q_lc_le, q_lc_eq, Int32.toInt_toInt64, Int64.lt_iff_toInt_lt, Int64.le_iff_toInt_le, ← Int64.toInt_inj, Int32.lt_iff_toInt_lt, Int32.le_iff_toInt_le, ← Int32.toInt_inj] at hlo_p1 hhi_p1 ⊢
    have k_0 : (0 : Int32).toInt = 0 := by decide
    have k_1 : (40 : Int32).toInt = 40 := by decide
    have k_g : (40 : Int64).toInt = 40 := by decide
    omega
  refine q_callSi (rest := []) (wr := [(h0, .inr (12, [.int 0, .ref h4, .ref h5, .ref h6, .ref h7, .int 0, .int 0, .int 0, .int 0, .int 0, .int 0, .int 0, .int 0, .int 0, .int (-1), .int 0, .ref h8, .ref h9, .ref h10, .ref h11, .ref h12, .int 0, .int 0, .ref h13, .ref h14, .ref h15, .int 0, .int 0, .ref h16, .ref h17, .ref h18, .ref h19, .ref h20, .int 0, .ref h1, .ref h2, .ref h3])), (h1, .inl (cy 1, 4, .inl f0)), (h2, .inl (cy 1, 4, .inl (fun _ => 0))), (h3, .inl (cy 2, 160, .inr (.inl (fun _ => 0))))]) X hK hA h (fun sz => kX12_within_701 l D cy ((p1).toInt64) g_11003 g_11004 sz) wm_6_50 wm_6_52 wm_1_12 hd_X12_within wm_6_51 ⟨Nat.le_of_ble_eq_true rfl, Nat.le_of_ble_eq_true rfl⟩ hl.1 rfl (Nat.le_of_ble_eq_true rfl) dX12_numbers_38 ⟨Nat.le_of_ble_eq_true rfl, Nat.le_of_ble_eq_true rfl⟩ [] [0, 1, 2, 3] rfl rfl (by decide) rfl rfl (fun r_11005 u_11005 H locs w_11005 h => ?_)
  obtain rfl : r_11005 = 1 := w_11005
  have h : qW D _ _ [(h0, .inr (12, [.int 0, .ref h4, .ref h5, .ref h6, .ref h7, .int 0, .int 0, .int 0, .int 0, .int 0, .int 0, .int 0, .int 0, .int 0, .int (-1), .int 0, .ref h8, .ref h9, .ref h10, .ref h11, .ref h12, .int 0, .int 0, .ref h13, .ref h14, .ref h15, .int 0, .int 0, .ref h16, .ref h17, .ref h18, .ref h19, .ref h20, .int 0, .ref h1, .ref h2, .ref h3])), (h1, .inl (cy 1, 4, .inl f0)), (h2, .inl (cy 1, 4, .inl (fun _ => 0))), (h3, .inl (cy 2, 160, .inr (.inl (fun _ => 0))))] _ _ := h
  refine lv_if_ne (tgt := 47) hx hb dX12_numbers_41 (by decide) (fun _ => ?_) (fun c => absurd c (by decide +kernel))
  refine lv_aload_n hx hb dX12_numbers_47 rfl (lv_at hl 0 rfl) ?_
  refine q_get X hK h 0 rfl rfl wf_12 34 (by decide) rfl wm_5_204 dX12_numbers_48 ?_
  refine lv_iload_n hx hb dX12_numbers_51 rfl (lv_at hl 1 rfl) ?_
  refine lv_iload_n hx hb dX12_numbers_52 rfl (lv_at hl 2 rfl) ?_
  refine q_iast X hK h 1 rfl (q_in (by decide +kernel)) dX12_numbers_53 (fun H locs h => ?_)
  have h : qW D _ _ [(h0, .inr (12, [.int 0, .ref h4, .ref h5, .ref h6, .ref h7, .int 0, .int 0, .int 0, .int 0, .int 0, .int 0, .int 0, .int 0, .int 0, .int (-1), .int 0, .ref h8, .ref h9, .ref h10, .ref h11, .ref h12, .int 0, .int 0, .ref h13, .ref h14, .ref h15, .int 0, .int 0, .ref h16, .ref h17, .ref h18, .ref h19, .ref h20, .int 0, .ref h1, .ref h2, .ref h3])), (h1, .inl (cy 1, 4, .inl (upd f0 (Int32.toNatClampNeg 3) p0))), (h2, .inl (cy 1, 4, .inl (fun _ => 0))), (h3, .inl (cy 2, 160, .inr (.inl (fun _ => 0))))] _ _ := h
  refine lv_aload_n hx hb dX12_numbers_54 rfl (lv_at hl 0 rfl) ?_
  refine q_get X hK h 0 rfl rfl wf_12 35 (by decide) rfl wm_5_205 dX12_numbers_55 ?_
  refine lv_iload_n hx hb dX12_numbers_58 rfl (lv_at hl 1 rfl) ?_
  refine lv_iload_n hx hb dX12_numbers_59 rfl (lv_at hl 3 rfl) ?_
  refine q_iast X hK h 2 rfl (q_in (by decide +kernel)) dX12_numbers_60 (fun H locs h => ?_)
  have h : qW D _ _ [(h0, .inr (12, [.int 0, .ref h4, .ref h5, .ref h6, .ref h7, .int 0, .int 0, .int 0, .int 0, .int 0, .int 0, .int 0, .int 0, .int 0, .int (-1), .int 0, .ref h8, .ref h9, .ref h10, .ref h11, .ref h12, .int 0, .int 0, .ref h13, .ref h14, .ref h15, .int 0, .int 0, .ref h16, .ref h17, .ref h18, .ref h19, .ref h20, .int 0, .ref h1, .ref h2, .ref h3])), (h1, .inl (cy 1, 4, .inl (upd f0 (Int32.toNatClampNeg 3) p0))), (h2, .inl (cy 1, 4, .inl (upd (fun _ => 0) (Int32.toNatClampNeg 3) p1))), (h3, .inl (cy 2, 160, .inr (.inl (fun _ => 0))))] _ _ := h
  refine lv_iconst (v := 0) hx hb dX12_numbers_61 (by decide) ?_
  refine lv_istore (lv' := [(4, .int 0), (0, .ref h0), (1, .int 3), (2, .int p0), (3, .int p1)]) hx hb dX12_numbers_62 hl (by decide) rfl (fun ls hl => ?_)
  obtain ⟨N, hN, hNe⟩ : ∃ N : Nat, N ≤ 40 ∧ p1 = nI N := q_num hlo_p1 hhi_p1
  subst hNe
  refine q_loop (P := fun k H locs ls => qW D (va_A [(h0, .inr (12, [.int 0, .ref h4, .ref h5, .ref h6, .ref h7, .int 0, .int 0, .int 0, .int 0, .int 0, .int 0, .int 0, .int 0, .int 0, .int (-1), .int 0, .ref h8, .ref h9, .ref h10, .ref h11, .ref h12, .int 0, .int 0, .ref h13, .ref h14, .ref h15, .int 0, .int 0, .ref h16, .ref h17, .ref h18, .ref h19, .ref h20, .int 0, .ref h1, .ref h2, .ref h3])), (h1, .inl (cy 1, 4, .inl f0)), (h2, .inl (cy 1, 4, .inl (fun _ => 0))), (h3, .inl (cy 2, 160, .inr (.inl (fun _ => 0))))] sz) s.heap [(h0, .inr (12, [.int 0, .ref h4, .ref h5, .ref h6, .ref h7, .int 0, .int 0, .int 0, .int 0, .int 0, .int 0, .int 0, .int 0, .int 0, .int (-1), .int 0, .ref h8, .ref h9, .ref h10, .ref h11, .ref h12, .int 0, .int 0, .ref h13, .ref h14, .ref h15, .int 0, .int 0, .ref h16, .ref h17, .ref h18, .ref h19, .ref h20, .int 0, .ref h1, .ref h2, .ref h3])), (h1, .inl (cy 1, 4, .inl (upd f0 (Int32.toNatClampNeg 3) p0))), (h2, .inl (cy 1, 4, .inl (upd (fun _ => 0) (Int32.toNatClampNeg 3) (nI N)))), (h3, .inl (cy 2, 160, .inr (.inl (fun _ => 0))))] H locs ∧ lv_has ls 5 [(4, .int (nI k)), (0, .ref h0), (1, .int 3), (2, .int p0), (3, .int (nI N))]) N 0 (Nat.zero_le _) ⟨h, by rw [nI_0]; exact hl⟩ (fun k hk ih H locs ls hP => ?_) (fun H locs ls hP => ?_)
  · obtain ⟨h, hl⟩ := hP
    have hki : (nI k).toInt = (k : Int) := nI_toInt (by omega)
    have hin_11007 : vp_in (120 + (nI k)) 160 := by rw [show (120 : Int32) + nI k = nI (120 + k) from nI_add 120 k]; exact vp_in_nI (by omega) (by omega)
    refine lv_iload hx hb dX12_numbers_64 (lv_at hl 0 rfl) ?_
    refine lv_iload_n hx hb dX12_numbers_66 rfl (lv_at hl 4 rfl) ?_
    refine lv_icmp_ge (tgt := 89) hx hb dX12_numbers_67 (by decide) (fun c => absurd c (nI_ge hk (by omega))) (fun _ => ?_)
    refine lv_aload_n hx hb dX12_numbers_70 rfl (lv_at hl 1 rfl) ?_
    refine q_get X hK h 0 rfl rfl wf_12 36 (by decide) rfl wm_5_206 dX12_numbers_71 ?_
    refine lv_bipush (v := 40) hx hb dX12_numbers_74 (by decide) ?_
    refine lv_iload_n hx hb dX12_numbers_76 rfl (lv_at hl 2 rfl) ?_
    refine lv_imul hx hb dX12_numbers_77 ?_
    refine q_c 120 (by decide +kernel) ?_
    refine lv_iload hx hb dX12_numbers_78 (lv_at hl 0 rfl) ?_
    refine lv_iadd hx hb dX12_numbers_80 ?_
    refine lv_lconst (v := 0) hx hb dX12_numbers_81 (by decide) ?_
    refine q_last X hK h 3 rfl hin_11007 dX12_numbers_82 (fun H locs h => ?_)
    have h : qW D _ _ [(h0, .inr (12, [.int 0, .ref h4, .ref h5, .ref h6, .ref h7, .int 0, .int 0, .int 0, .int 0, .int 0, .int 0, .int 0, .int 0, .int 0, .int (-1), .int 0, .ref h8, .ref h9, .ref h10, .ref h11, .ref h12, .int 0, .int 0, .ref h13, .ref h14, .ref h15, .int 0, .int 0, .ref h16, .ref h17, .ref h18, .ref h19, .ref h20, .int 0, .ref h1, .ref h2, .ref h3])), (h1, .inl (cy 1, 4, .inl (upd f0 (Int32.toNatClampNeg 3) p0))), (h2, .inl (cy 1, 4, .inl (upd (fun _ => 0) (Int32.toNatClampNeg 3) (nI N)))), (h3, .inl (cy 2, 160, .inr (.inl (vp_updL (fun _ => 0) (Int32.toNatClampNeg (120 + (nI k))) 0))))] _ _ := h
    rw [q_usL rfl] at h
    refine lv_iinc (v := (nI (k + 1))) (lv' := [(4, .int (nI (k + 1))), (0, .ref h0), (1, .int 3), (2, .int p0), (3, .int (nI N))]) hx hb dX12_numbers_83 hl (k := 0) rfl (nI_1 _) (by decide) rfl (fun ls hl => ?_)
    refine lv_goto (tgt := 64) hx hb dX12_numbers_86 (by decide) ?_
    exact ih _ _ _ ⟨h, hl⟩
  · obtain ⟨h, hl⟩ := hP
    refine lv_iload hx hb dX12_numbers_64 (lv_at hl 0 rfl) ?_
    refine lv_iload_n hx hb dX12_numbers_66 rfl (lv_at hl 4 rfl) ?_
    refine lv_icmp_ge (tgt := 89) hx hb dX12_numbers_67 (by decide) (fun _ => ?_) (fun c => absurd (Int32.le_refl _) c)
    refine lv_iconst (v := 0) hx hb dX12_numbers_89 (by decide) ?_
    exact q_iret X hr hlk hK h rfl (fun _ => 0, fun _ _ => 0, fun _ _ => 0) rfl [0, 1, 2, 3] rfl rfl dX12_numbers_90 (Nat.le_of_ble_eq_true rfl) (Nat.le_of_ble_eq_true rfl)
set_option maxHeartbeats 4000000 in
set_option maxRecDepth 100000 in
theorem kX12_numbers_731 (l : Launch) (D : va_G) (cy : Nat → ClassId) (h0 : Nat) (p0 : Int32) (p1 : Int32) (h1 : Nat) (h2 : Nat) (h3 : Nat) (h4 : Nat) (h5 : Nat) (h6 : Nat) (h7 : Nat) (h8 : Nat) (h9 : Nat) (h10 : Nat) (h11 : Nat) (h12 : Nat) (h13 : Nat) (h14 : Nat) (h15 : Nat) (h16 : Nat) (h17 : Nat) (h18 : Nat) (h19 : Nat) (h20 : Nat) (hlo_p0 : (0 : Int32) ≤ p0) (hhi_p0 : p0 ≤ (3 : Int32)) (hlo_p1 : (41 : Int32) ≤ p1) (sz : Nat) : MI l yX12_numbers cX12_numbers 5 .int { frames := 1, cells := 0, slots := 0, locals := 25 } [.ref h0, .int 3, .int p0, .int p1] D cy [(h0, .inr (12, [.int 0, .ref h1, .ref h2, .ref h3, .ref h4, .int 0, .int 0, .int 0, .int 0, .int 0, .int 0, .int 0, .int 0, .int 0, .int (-1), .int 0, .ref h5, .ref h6, .ref h7, .ref h8, .ref h9, .int 0, .int 0, .ref h10, .ref h11, .ref h12, .int 0, .int 0, .ref h13, .ref h14, .ref h15, .ref h16, .ref h17, .int 0, .ref h18, .ref h19, .ref h20]))] sz (fun r u => r = (-3)) (fun u => [(h0, .inr (12, [.int 0, .ref h1, .ref h2, .ref h3, .ref h4, .int 0, .int 0, .int 0, .int 0, .int 0, .int 0, .int 0, .int 0, .int 0, .int (-1), .int 0, .ref h5, .ref h6, .ref h7, .ref h8, .ref h9, .int 0, .int 0, .ref h10, .ref h11, .ref h12, .int 0, .int 0, .ref h13, .ref h14, .ref h15, .ref h16, .ref h17, .int 0, .ref h18, .ref h19, .ref h20]))]) 0 0 := by
  refine q_ent (own := RX12) (by decide) rfl (Nat.le_of_ble_eq_true rfl) (fun p e s m below meth c ls X hr hlk hnm hK h hA hl => ?_)
  obtain ⟨hx, hb, hml, hown, ht⟩ := id X
  have hl : lv_has ls 5 [(0, .ref h0), (1, .int 3), (2, .int p0), (3, .int p1)] := hl
  refine lv_aload_n hx hb dX12_numbers_0 rfl (lv_at hl 0 rfl) ?_
  refine lv_iconst (v := 0) hx hb dX12_numbers_1 (by decide) ?_
  refine q_put (v := .int 0) X hK h 0 rfl rfl wf_12 tyX12 tyX12_ok nmX12 0 (by decide) wm_5_170 rfl rfl rfl (Nat.le_of_ble_eq_true rfl) dX12_numbers_2 (fun H locs h => ?_)
  have h : qW D _ _ [(h0, .inr (12, [.int 0, .ref h1, .ref h2, .ref h3, .ref h4, .int 0, .int 0, .int 0, .int 0, .int 0, .int 0, .int 0, .int 0, .int 0, .int (-1), .int 0, .ref h5, .ref h6, .ref h7, .ref h8, .ref h9, .int 0, .int 0, .ref h10, .ref h11, .ref h12, .int 0, .int 0, .ref h13, .ref h14, .ref h15, .ref h16, .ref h17, .int 0, .ref h18, .ref h19, .ref h20]))] _ _ := h
  refine lv_iload_n hx hb dX12_numbers_5 rfl (lv_at hl 1 rfl) ?_
  refine lv_i2l (v := 3) hx hb dX12_numbers_6 (by decide +kernel) ?_
  refine lv_lconst (v := 0) hx hb dX12_numbers_7 (by decide) ?_
  refine lv_ldc2 hx hb hown (ht _ wm_7_29) dX12_numbers_8 ?_
  refine q_callSi (rest := []) (wr := [(h0, .inr (12, [.int 0, .ref h1, .ref h2, .ref h3, .ref h4, .int 0, .int 0, .int 0, .int 0, .int 0, .int 0, .int 0, .int 0, .int 0, .int (-1), .int 0, .ref h5, .ref h6, .ref h7, .ref h8, .ref h9, .int 0, .int 0, .ref h10, .ref h11, .ref h12, .int 0, .int 0, .ref h13, .ref h14, .ref h15, .ref h16, .ref h17, .int 0, .ref h18, .ref h19, .ref h20]))]) X hK hA h (fun sz => kX12_within_521 l D cy   sz) wm_6_50 wm_6_52 wm_1_12 hd_X12_within wm_6_51 ⟨Nat.le_of_ble_eq_true rfl, Nat.le_of_ble_eq_true rfl⟩ hl.1 rfl (Nat.le_of_ble_eq_true rfl) dX12_numbers_11 ⟨Nat.le_of_ble_eq_true rfl, Nat.le_of_ble_eq_true rfl⟩ [] [0] rfl rfl (by decide) rfl rfl (fun r_11028 u_11028 H locs w_11028 h => ?_)
  obtain rfl : r_11028 = 1 := w_11028
  have h : qW D _ _ [(h0, .inr (12, [.int 0, .ref h1, .ref h2, .ref h3, .ref h4, .int 0, .int 0, .int 0, .int 0, .int 0, .int 0, .int 0, .int 0, .int 0, .int (-1), .int 0, .ref h5, .ref h6, .ref h7, .ref h8, .ref h9, .int 0, .int 0, .ref h10, .ref h11, .ref h12, .int 0, .int 0, .ref h13, .ref h14, .ref h15, .ref h16, .ref h17, .int 0, .ref h18, .ref h19, .ref h20]))] _ _ := h
  refine lv_if_eq (tgt := 29) hx hb dX12_numbers_14 (by decide) (fun c => absurd c (by decide +kernel)) (fun _ => ?_)
  refine lv_iload_n hx hb dX12_numbers_17 rfl (lv_at hl 2 rfl) ?_
  refine lv_i2l hx hb dX12_numbers_18 rfl ?_
  refine lv_lconst (v := 0) hx hb dX12_numbers_19 (by decide) ?_
  refine lv_ldc2 hx hb hown (ht _ wm_7_29) dX12_numbers_20 ?_
  have g_11031 : (0 : Int64) ≤ ((p0).toInt64) := by
    simp only [q_lc_lt, q_lc_ge, q_lc_gt, q_lc_le, q_lc_eq, Int32.toInt_toInt64, Int64.lt_iff_toInt_lt, Int64.le_iff_toInt_le, ← Int64.toInt_inj, Int32.lt_iff_toInt_lt, Int32.le_iff_toInt_le, ← Int32.toInt_inj] at hlo_p0 hhi_p0 ⊢
    have k_0 : (0 : Int32).toInt = 0 := by decide
    have k_1 : (3 : Int32).toInt = 3 := by decide
    have k_g : (0 : Int64).toInt = 0 := by decide
    omega
  have g_11032 : ((p0).toInt64) ≤ (3 : Int64) := by
    simp only [q_lc_lt, q_lc_ge, q_lc_gt, q_lc_le, q_lc_eq, Int32.toInt_toInt64, Int64.lt_iff_toInt_lt, Int64.le_iff_toInt_le, ← Int64.toInt_inj, Int32.lt_iff_toInt_lt, Int32.le_iff_toInt_le, ← Int32.toInt_inj] at hlo_p0 hhi_p0 ⊢
    have k_0 : (0 : Int32).toInt = 0 := by decide
    have k_1 : (3 : Int32).toInt = 3 := by decide
    have k_g : (3 : Int64).toInt = 3 := by decide
    omega
  refine q_callSi (rest := []) (wr := [(h0, .inr (12, [.int 0, .ref h1, .ref h2, .ref h3, .ref h4, .int 0, .int 0, .int 0, .int 0, .int 0, .int 0, .int 0, .int 0, .int 0, .int (-1), .int 0, .ref h5, .ref h6, .ref h7, .ref h8, .ref h9, .int 0, .int 0, .ref h10, .ref h11, .ref h12, .int 0, .int 0, .ref h13, .ref h14, .ref h15, .ref h16, .ref h17, .int 0, .ref h18, .ref h19, .ref h20]))]) X hK hA h (fun sz => kX12_within_497 l D cy ((p0).toInt64) g_11031 g_11032 sz) wm_6_50 wm_6_52 wm_1_12 hd_X12_within wm_6_51 ⟨Nat.le_of_ble_eq_true rfl, Nat.le_of_ble_eq_true rfl⟩ hl.1 rfl (Nat.le_of_ble_eq_true rfl) dX12_numbers_23 ⟨Nat.le_of_ble_eq_true rfl, Nat.le_of_ble_eq_true rfl⟩ [] [0] rfl rfl (by decide) rfl rfl (fun r_11033 u_11033 H locs w_11033 h => ?_)
  obtain rfl : r_11033 = 1 := w_11033
  have h : qW D _ _ [(h0, .inr (12, [.int 0, .ref h1, .ref h2, .ref h3, .ref h4, .int 0, .int 0, .int 0, .int 0, .int 0, .int 0, .int 0, .int 0, .int 0, .int (-1), .int 0, .ref h5, .ref h6, .ref h7, .ref h8, .ref h9, .int 0, .int 0, .ref h10, .ref h11, .ref h12, .int 0, .int 0, .ref h13, .ref h14, .ref h15, .ref h16, .ref h17, .int 0, .ref h18, .ref h19, .ref h20]))] _ _ := h
  refine lv_if_ne (tgt := 32) hx hb dX12_numbers_26 (by decide) (fun _ => ?_) (fun c => absurd c (by decide +kernel))
  refine lv_iload_n hx hb dX12_numbers_32 rfl (lv_at hl 3 rfl) ?_
  refine lv_i2l hx hb dX12_numbers_33 rfl ?_
  refine lv_lconst (v := 0) hx hb dX12_numbers_34 (by decide) ?_
  refine lv_ldc2 hx hb hown (ht _ wm_7_82) dX12_numbers_35 ?_
  have g_11036 : (41 : Int64) ≤ ((p1).toInt64) := by
    simp only [q_lc_lt, q_lc_ge, q_lc_gt, q_lc_le, q_lc_eq, Int32.toInt_toInt64, Int64.lt_iff_toInt_lt, Int64.le_iff_toInt_le, ← Int64.toInt_inj, Int32.lt_iff_toInt_lt, Int32.le_iff_toInt_le, ← Int32.toInt_inj] at hlo_p1 ⊢
    have k_0 : (41 : Int32).toInt = 41 := by decide
    have k_g : (41 : Int64).toInt = 41 := by decide
    omega
  refine q_callSi (rest := []) (wr := [(h0, .inr (12, [.int 0, .ref h1, .ref h2, .ref h3, .ref h4, .int 0, .int 0, .int 0, .int 0, .int 0, .int 0, .int 0, .int 0, .int 0, .int (-1), .int 0, .ref h5, .ref h6, .ref h7, .ref h8, .ref h9, .int 0, .int 0, .ref h10, .ref h11, .ref h12, .int 0, .int 0, .ref h13, .ref h14, .ref h15, .ref h16, .ref h17, .int 0, .ref h18, .ref h19, .ref h20]))]) X hK hA h (fun sz => kX12_within_703 l D cy ((p1).toInt64) g_11036 sz) wm_6_50 wm_6_52 wm_1_12 hd_X12_within wm_6_51 ⟨Nat.le_of_ble_eq_true rfl, Nat.le_of_ble_eq_true rfl⟩ hl.1 rfl (Nat.le_of_ble_eq_true rfl) dX12_numbers_38 ⟨Nat.le_of_ble_eq_true rfl, Nat.le_of_ble_eq_true rfl⟩ [] [0] rfl rfl (by decide) rfl rfl (fun r_11037 u_11037 H locs w_11037 h => ?_)
  obtain rfl : r_11037 = 0 := w_11037
  have h : qW D _ _ [(h0, .inr (12, [.int 0, .ref h1, .ref h2, .ref h3, .ref h4, .int 0, .int 0, .int 0, .int 0, .int 0, .int 0, .int 0, .int 0, .int 0, .int (-1), .int 0, .ref h5, .ref h6, .ref h7, .ref h8, .ref h9, .int 0, .int 0, .ref h10, .ref h11, .ref h12, .int 0, .int 0, .ref h13, .ref h14, .ref h15, .ref h16, .ref h17, .int 0, .ref h18, .ref h19, .ref h20]))] _ _ := h
  refine lv_if_ne (tgt := 47) hx hb dX12_numbers_41 (by decide) (fun c => absurd c (by decide +kernel)) (fun _ => ?_)
  refine lv_bipush (v := (-3)) hx hb dX12_numbers_44 (by decide) ?_
  exact q_iret X hr hlk hK h rfl (fun _ => 0, fun _ _ => 0, fun _ _ => 0) rfl [0] rfl rfl dX12_numbers_46 (Nat.le_of_ble_eq_true rfl) (Nat.le_of_ble_eq_true rfl)
set_option maxHeartbeats 4000000 in
set_option maxRecDepth 100000 in
theorem kX12_numbers_732 (l : Launch) (D : va_G) (cy : Nat → ClassId) (h0 : Nat) (p0 : Int32) (p1 : Int32) (h1 : Nat) (h2 : Nat) (h3 : Nat) (h4 : Nat) (h5 : Nat) (h6 : Nat) (h7 : Nat) (h8 : Nat) (h9 : Nat) (h10 : Nat) (h11 : Nat) (h12 : Nat) (h13 : Nat) (h14 : Nat) (h15 : Nat) (h16 : Nat) (h17 : Nat) (h18 : Nat) (h19 : Nat) (h20 : Nat) (hlo_p0 : (4 : Int32) ≤ p0) (hhi_p1 : p1 ≤ ((-1) : Int32)) (sz : Nat) : MI l yX12_numbers cX12_numbers 5 .int { frames := 1, cells := 0, slots := 0, locals := 25 } [.ref h0, .int 3, .int p0, .int p1] D cy [(h0, .inr (12, [.int 0, .ref h1, .ref h2, .ref h3, .ref h4, .int 0, .int 0, .int 0, .int 0, .int 0, .int 0, .int 0, .int 0, .int 0, .int (-1), .int 0, .ref h5, .ref h6, .ref h7, .ref h8, .ref h9, .int 0, .int 0, .ref h10, .ref h11, .ref h12, .int 0, .int 0, .ref h13, .ref h14, .ref h15, .ref h16, .ref h17, .int 0, .ref h18, .ref h19, .ref h20]))] sz (fun r u => r = (-2)) (fun u => [(h0, .inr (12, [.int 0, .ref h1, .ref h2, .ref h3, .ref h4, .int 0, .int 0, .int 0, .int 0, .int 0, .int 0, .int 0, .int 0, .int 0, .int (-1), .int 0, .ref h5, .ref h6, .ref h7, .ref h8, .ref h9, .int 0, .int 0, .ref h10, .ref h11, .ref h12, .int 0, .int 0, .ref h13, .ref h14, .ref h15, .ref h16, .ref h17, .int 0, .ref h18, .ref h19, .ref h20]))]) 0 0 := by
  refine q_ent (own := RX12) (by decide) rfl (Nat.le_of_ble_eq_true rfl) (fun p e s m below meth c ls X hr hlk hnm hK h hA hl => ?_)
  obtain ⟨hx, hb, hml, hown, ht⟩ := id X
  have hl : lv_has ls 5 [(0, .ref h0), (1, .int 3), (2, .int p0), (3, .int p1)] := hl
  refine lv_aload_n hx hb dX12_numbers_0 rfl (lv_at hl 0 rfl) ?_
  refine lv_iconst (v := 0) hx hb dX12_numbers_1 (by decide) ?_
  refine q_put (v := .int 0) X hK h 0 rfl rfl wf_12 tyX12 tyX12_ok nmX12 0 (by decide) wm_5_170 rfl rfl rfl (Nat.le_of_ble_eq_true rfl) dX12_numbers_2 (fun H locs h => ?_)
  have h : qW D _ _ [(h0, .inr (12, [.int 0, .ref h1, .ref h2, .ref h3, .ref h4, .int 0, .int 0, .int 0, .int 0, .int 0, .int 0, .int 0, .int 0, .int 0, .int (-1), .int 0, .ref h5, .ref h6, .ref h7, .ref h8, .ref h9, .int 0, .int 0, .ref h10, .ref h11, .ref h12, .int 0, .int 0, .ref h13, .ref h14, .ref h15, .ref h16, .ref h17, .int 0, .ref h18, .ref h19, .ref h20]))] _ _ := h
  refine lv_iload_n hx hb dX12_numbers_5 rfl (lv_at hl 1 rfl) ?_
  refine lv_i2l (v := 3) hx hb dX12_numbers_6 (by decide +kernel) ?_
  refine lv_lconst (v := 0) hx hb dX12_numbers_7 (by decide) ?_
  refine lv_ldc2 hx hb hown (ht _ wm_7_29) dX12_numbers_8 ?_
  refine q_callSi (rest := []) (wr := [(h0, .inr (12, [.int 0, .ref h1, .ref h2, .ref h3, .ref h4, .int 0, .int 0, .int 0, .int 0, .int 0, .int 0, .int 0, .int 0, .int 0, .int (-1), .int 0, .ref h5, .ref h6, .ref h7, .ref h8, .ref h9, .int 0, .int 0, .ref h10, .ref h11, .ref h12, .int 0, .int 0, .ref h13, .ref h14, .ref h15, .ref h16, .ref h17, .int 0, .ref h18, .ref h19, .ref h20]))]) X hK hA h (fun sz => kX12_within_521 l D cy   sz) wm_6_50 wm_6_52 wm_1_12 hd_X12_within wm_6_51 ⟨Nat.le_of_ble_eq_true rfl, Nat.le_of_ble_eq_true rfl⟩ hl.1 rfl (Nat.le_of_ble_eq_true rfl) dX12_numbers_11 ⟨Nat.le_of_ble_eq_true rfl, Nat.le_of_ble_eq_true rfl⟩ [] [0] rfl rfl (by decide) rfl rfl (fun r_11048 u_11048 H locs w_11048 h => ?_)
  obtain rfl : r_11048 = 1 := w_11048
  have h : qW D _ _ [(h0, .inr (12, [.int 0, .ref h1, .ref h2, .ref h3, .ref h4, .int 0, .int 0, .int 0, .int 0, .int 0, .int 0, .int 0, .int 0, .int 0, .int (-1), .int 0, .ref h5, .ref h6, .ref h7, .ref h8, .ref h9, .int 0, .int 0, .ref h10, .ref h11, .ref h12, .int 0, .int 0, .ref h13, .ref h14, .ref h15, .ref h16, .ref h17, .int 0, .ref h18, .ref h19, .ref h20]))] _ _ := h
  refine lv_if_eq (tgt := 29) hx hb dX12_numbers_14 (by decide) (fun c => absurd c (by decide +kernel)) (fun _ => ?_)
  refine lv_iload_n hx hb dX12_numbers_17 rfl (lv_at hl 2 rfl) ?_
  refine lv_i2l hx hb dX12_numbers_18 rfl ?_
  refine lv_lconst (v := 0) hx hb dX12_numbers_19 (by decide) ?_
  refine lv_ldc2 hx hb hown (ht _ wm_7_29) dX12_numbers_20 ?_
  have g_11051 : (4 : Int64) ≤ ((p0).toInt64) := by
    simp only [q_lc_lt, q_lc_ge, q_lc_gt, q_lc_le, q_lc_eq, Int32.toInt_toInt64, Int64.lt_iff_toInt_lt, Int64.le_iff_toInt_le, ← Int64.toInt_inj, Int32.lt_iff_toInt_lt, Int32.le_iff_toInt_le, ← Int32.toInt_inj] at hlo_p0 ⊢
    have k_0 : (4 : Int32).toInt = 4 := by decide
    have k_g : (4 : Int64).toInt = 4 := by decide
    omega
  refine q_callSi (rest := []) (wr := [(h0, .inr (12, [.int 0, .ref h1, .ref h2, .ref h3, .ref h4, .int 0, .int 0, .int 0, .int 0, .int 0, .int 0, .int 0, .int 0, .int 0, .int (-1), .int 0, .ref h5, .ref h6, .ref h7, .ref h8, .ref h9, .int 0, .int 0, .ref h10, .ref h11, .ref h12, .int 0, .int 0, .ref h13, .ref h14, .ref h15, .ref h16, .ref h17, .int 0, .ref h18, .ref h19, .ref h20]))]) X hK hA h (fun sz => kX12_within_500 l D cy ((p0).toInt64) g_11051 sz) wm_6_50 wm_6_52 wm_1_12 hd_X12_within wm_6_51 ⟨Nat.le_of_ble_eq_true rfl, Nat.le_of_ble_eq_true rfl⟩ hl.1 rfl (Nat.le_of_ble_eq_true rfl) dX12_numbers_23 ⟨Nat.le_of_ble_eq_true rfl, Nat.le_of_ble_eq_true rfl⟩ [] [0] rfl rfl (by decide) rfl rfl (fun r_11052 u_11052 H locs w_11052 h => ?_)
  obtain rfl : r_11052 = 0 := w_11052
  have h : qW D _ _ [(h0, .inr (12, [.int 0, .ref h1, .ref h2, .ref h3, .ref h4, .int 0, .int 0, .int 0, .int 0, .int 0, .int 0, .int 0, .int 0, .int 0, .int (-1), .int 0, .ref h5, .ref h6, .ref h7, .ref h8, .ref h9, .int 0, .int 0, .ref h10, .ref h11, .ref h12, .int 0, .int 0, .ref h13, .ref h14, .ref h15, .ref h16, .ref h17, .int 0, .ref h18, .ref h19, .ref h20]))] _ _ := h
  refine lv_if_ne (tgt := 32) hx hb dX12_numbers_26 (by decide) (fun c => absurd c (by decide +kernel)) (fun _ => ?_)
  refine lv_bipush (v := (-2)) hx hb dX12_numbers_29 (by decide) ?_
  exact q_iret X hr hlk hK h rfl (fun _ => 0, fun _ _ => 0, fun _ _ => 0) rfl [0] rfl rfl dX12_numbers_31 (Nat.le_of_ble_eq_true rfl) (Nat.le_of_ble_eq_true rfl)
set_option maxHeartbeats 4000000 in
set_option maxRecDepth 100000 in
theorem kX12_numbers_733 (l : Launch) (D : va_G) (cy : Nat → ClassId) (h0 : Nat) (p0 : Int32) (p1 : Int32) (h1 : Nat) (h2 : Nat) (h3 : Nat) (h4 : Nat) (h5 : Nat) (h6 : Nat) (h7 : Nat) (h8 : Nat) (h9 : Nat) (h10 : Nat) (h11 : Nat) (h12 : Nat) (h13 : Nat) (h14 : Nat) (h15 : Nat) (h16 : Nat) (h17 : Nat) (h18 : Nat) (h19 : Nat) (h20 : Nat) (hlo_p0 : (4 : Int32) ≤ p0) (hlo_p1 : (0 : Int32) ≤ p1) (hhi_p1 : p1 ≤ (40 : Int32)) (sz : Nat) : MI l yX12_numbers cX12_numbers 5 .int { frames := 1, cells := 0, slots := 0, locals := 25 } [.ref h0, .int 3, .int p0, .int p1] D cy [(h0, .inr (12, [.int 0, .ref h1, .ref h2, .ref h3, .ref h4, .int 0, .int 0, .int 0, .int 0, .int 0, .int 0, .int 0, .int 0, .int 0, .int (-1), .int 0, .ref h5, .ref h6, .ref h7, .ref h8, .ref h9, .int 0, .int 0, .ref h10, .ref h11, .ref h12, .int 0, .int 0, .ref h13, .ref h14, .ref h15, .ref h16, .ref h17, .int 0, .ref h18, .ref h19, .ref h20]))] sz (fun r u => r = (-2)) (fun u => [(h0, .inr (12, [.int 0, .ref h1, .ref h2, .ref h3, .ref h4, .int 0, .int 0, .int 0, .int 0, .int 0, .int 0, .int 0, .int 0, .int 0, .int (-1), .int 0, .ref h5, .ref h6, .ref h7, .ref h8, .ref h9, .int 0, .int 0, .ref h10, .ref h11, .ref h12, .int 0, .int 0, .ref h13, .ref h14, .ref h15, .ref h16, .ref h17, .int 0, .ref h18, .ref h19, .ref h20]))]) 0 0 := by
  refine q_ent (own := RX12) (by decide) rfl (Nat.le_of_ble_eq_true rfl) (fun p e s m below meth c ls X hr hlk hnm hK h hA hl => ?_)
  obtain ⟨hx, hb, hml, hown, ht⟩ := id X
  have hl : lv_has ls 5 [(0, .ref h0), (1, .int 3), (2, .int p0), (3, .int p1)] := hl
  refine lv_aload_n hx hb dX12_numbers_0 rfl (lv_at hl 0 rfl) ?_
  refine lv_iconst (v := 0) hx hb dX12_numbers_1 (by decide) ?_
  refine q_put (v := .int 0) X hK h 0 rfl rfl wf_12 tyX12 tyX12_ok nmX12 0 (by decide) wm_5_170 rfl rfl rfl (Nat.le_of_ble_eq_true rfl) dX12_numbers_2 (fun H locs h => ?_)
  have h : qW D _ _ [(h0, .inr (12, [.int 0, .ref h1, .ref h2, .ref h3, .ref h4, .int 0, .int 0, .int 0, .int 0, .int 0, .int 0, .int 0, .int 0, .int 0, .int (-1), .int 0, .ref h5, .ref h6, .ref h7, .ref h8, .ref h9, .int 0, .int 0, .ref h10, .ref h11, .ref h12, .int 0, .int 0, .ref h13, .ref h14, .ref h15, .ref h16, .ref h17, .int 0, .ref h18, .ref h19, .ref h20]))] _ _ := h
  refine lv_iload_n hx hb dX12_numbers_5 rfl (lv_at hl 1 rfl) ?_
  refine lv_i2l (v := 3) hx hb dX12_numbers_6 (by decide +kernel) ?_
  refine lv_lconst (v := 0) hx hb dX12_numbers_7 (by decide) ?_
  refine lv_ldc2 hx hb hown (ht _ wm_7_29) dX12_numbers_8 ?_
  refine q_callSi (rest := []) (wr := [(h0, .inr (12, [.int 0, .ref h1, .ref h2, .ref h3, .ref h4, .int 0, .int 0, .int 0, .int 0, .int 0, .int 0, .int 0, .int 0, .int 0, .int (-1), .int 0, .ref h5, .ref h6, .ref h7, .ref h8, .ref h9, .int 0, .int 0, .ref h10, .ref h11, .ref h12, .int 0, .int 0, .ref h13, .ref h14, .ref h15, .ref h16, .ref h17, .int 0, .ref h18, .ref h19, .ref h20]))]) X hK hA h (fun sz => kX12_within_521 l D cy   sz) wm_6_50 wm_6_52 wm_1_12 hd_X12_within wm_6_51 ⟨Nat.le_of_ble_eq_true rfl, Nat.le_of_ble_eq_true rfl⟩ hl.1 rfl (Nat.le_of_ble_eq_true rfl) dX12_numbers_11 ⟨Nat.le_of_ble_eq_true rfl, Nat.le_of_ble_eq_true rfl⟩ [] [0] rfl rfl (by decide) rfl rfl (fun r_11063 u_11063 H locs w_11063 h => ?_)
  obtain rfl : r_11063 = 1 := w_11063
  have h : qW D _ _ [(h0, .inr (12, [.int 0, .ref h1, .ref h2, .ref h3, .ref h4, .int 0, .int 0, .int 0, .int 0, .int 0, .int 0, .int 0, .int 0, .int 0, .int (-1), .int 0, .ref h5, .ref h6, .ref h7, .ref h8, .ref h9, .int 0, .int 0, .ref h10, .ref h11, .ref h12, .int 0, .int 0, .ref h13, .ref h14, .ref h15, .ref h16, .ref h17, .int 0, .ref h18, .ref h19, .ref h20]))] _ _ := h
  refine lv_if_eq (tgt := 29) hx hb dX12_numbers_14 (by decide) (fun c => absurd c (by decide +kernel)) (fun _ => ?_)
  refine lv_iload_n hx hb dX12_numbers_17 rfl (lv_at hl 2 rfl) ?_
  refine lv_i2l hx hb dX12_numbers_18 rfl ?_
  refine lv_lconst (v := 0) hx hb dX12_numbers_19 (by decide) ?_
  refine lv_ldc2 hx hb hown (ht _ wm_7_29) dX12_numbers_20 ?_
  have g_11066 : (4 : Int64) ≤ ((p0).toInt64) := by
    simp only [q_lc_lt, q_lc_ge, q_lc_gt, q_lc_le, q_lc_eq, Int32.toInt_toInt64, Int64.lt_iff_toInt_lt, Int64.le_iff_toInt_le, ← Int64.toInt_inj, Int32.lt_iff_toInt_lt, Int32.le_iff_toInt_le, ← Int32.toInt_inj] at hlo_p0 ⊢
    have k_0 : (4 : Int32).toInt = 4 := by decide
    have k_g : (4 : Int64).toInt = 4 := by decide
    omega
  refine q_callSi (rest := []) (wr := [(h0, .inr (12, [.int 0, .ref h1, .ref h2, .ref h3, .ref h4, .int 0, .int 0, .int 0, .int 0, .int 0, .int 0, .int 0, .int 0, .int 0, .int (-1), .int 0, .ref h5, .ref h6, .ref h7, .ref h8, .ref h9, .int 0, .int 0, .ref h10, .ref h11, .ref h12, .int 0, .int 0, .ref h13, .ref h14, .ref h15, .ref h16, .ref h17, .int 0, .ref h18, .ref h19, .ref h20]))]) X hK hA h (fun sz => kX12_within_500 l D cy ((p0).toInt64) g_11066 sz) wm_6_50 wm_6_52 wm_1_12 hd_X12_within wm_6_51 ⟨Nat.le_of_ble_eq_true rfl, Nat.le_of_ble_eq_true rfl⟩ hl.1 rfl (Nat.le_of_ble_eq_true rfl) dX12_numbers_23 ⟨Nat.le_of_ble_eq_true rfl, Nat.le_of_ble_eq_true rfl⟩ [] [0] rfl rfl (by decide) rfl rfl (fun r_11067 u_11067 H locs w_11067 h => ?_)
  obtain rfl : r_11067 = 0 := w_11067
  have h : qW D _ _ [(h0, .inr (12, [.int 0, .ref h1, .ref h2, .ref h3, .ref h4, .int 0, .int 0, .int 0, .int 0, .int 0, .int 0, .int 0, .int 0, .int 0, .int (-1), .int 0, .ref h5, .ref h6, .ref h7, .ref h8, .ref h9, .int 0, .int 0, .ref h10, .ref h11, .ref h12, .int 0, .int 0, .ref h13, .ref h14, .ref h15, .ref h16, .ref h17, .int 0, .ref h18, .ref h19, .ref h20]))] _ _ := h
  refine lv_if_ne (tgt := 32) hx hb dX12_numbers_26 (by decide) (fun c => absurd c (by decide +kernel)) (fun _ => ?_)
  refine lv_bipush (v := (-2)) hx hb dX12_numbers_29 (by decide) ?_
  exact q_iret X hr hlk hK h rfl (fun _ => 0, fun _ _ => 0, fun _ _ => 0) rfl [0] rfl rfl dX12_numbers_31 (Nat.le_of_ble_eq_true rfl) (Nat.le_of_ble_eq_true rfl)
set_option maxHeartbeats 4000000 in
set_option maxRecDepth 100000 in
theorem kX12_numbers_734 (l : Launch) (D : va_G) (cy : Nat → ClassId) (h0 : Nat) (p0 : Int32) (p1 : Int32) (h1 : Nat) (h2 : Nat) (h3 : Nat) (h4 : Nat) (h5 : Nat) (h6 : Nat) (h7 : Nat) (h8 : Nat) (h9 : Nat) (h10 : Nat) (h11 : Nat) (h12 : Nat) (h13 : Nat) (h14 : Nat) (h15 : Nat) (h16 : Nat) (h17 : Nat) (h18 : Nat) (h19 : Nat) (h20 : Nat) (hlo_p0 : (4 : Int32) ≤ p0) (hlo_p1 : (41 : Int32) ≤ p1) (sz : Nat) : MI l yX12_numbers cX12_numbers 5 .int { frames := 1, cells := 0, slots := 0, locals := 25 } [.ref h0, .int 3, .int p0, .int p1] D cy [(h0, .inr (12, [.int 0, .ref h1, .ref h2, .ref h3, .ref h4, .int 0, .int 0, .int 0, .int 0, .int 0, .int 0, .int 0, .int 0, .int 0, .int (-1), .int 0, .ref h5, .ref h6, .ref h7, .ref h8, .ref h9, .int 0, .int 0, .ref h10, .ref h11, .ref h12, .int 0, .int 0, .ref h13, .ref h14, .ref h15, .ref h16, .ref h17, .int 0, .ref h18, .ref h19, .ref h20]))] sz (fun r u => r = (-2)) (fun u => [(h0, .inr (12, [.int 0, .ref h1, .ref h2, .ref h3, .ref h4, .int 0, .int 0, .int 0, .int 0, .int 0, .int 0, .int 0, .int 0, .int 0, .int (-1), .int 0, .ref h5, .ref h6, .ref h7, .ref h8, .ref h9, .int 0, .int 0, .ref h10, .ref h11, .ref h12, .int 0, .int 0, .ref h13, .ref h14, .ref h15, .ref h16, .ref h17, .int 0, .ref h18, .ref h19, .ref h20]))]) 0 0 := by
  refine q_ent (own := RX12) (by decide) rfl (Nat.le_of_ble_eq_true rfl) (fun p e s m below meth c ls X hr hlk hnm hK h hA hl => ?_)
  obtain ⟨hx, hb, hml, hown, ht⟩ := id X
  have hl : lv_has ls 5 [(0, .ref h0), (1, .int 3), (2, .int p0), (3, .int p1)] := hl
  refine lv_aload_n hx hb dX12_numbers_0 rfl (lv_at hl 0 rfl) ?_
  refine lv_iconst (v := 0) hx hb dX12_numbers_1 (by decide) ?_
  refine q_put (v := .int 0) X hK h 0 rfl rfl wf_12 tyX12 tyX12_ok nmX12 0 (by decide) wm_5_170 rfl rfl rfl (Nat.le_of_ble_eq_true rfl) dX12_numbers_2 (fun H locs h => ?_)
  have h : qW D _ _ [(h0, .inr (12, [.int 0, .ref h1, .ref h2, .ref h3, .ref h4, .int 0, .int 0, .int 0, .int 0, .int 0, .int 0, .int 0, .int 0, .int 0, .int (-1), .int 0, .ref h5, .ref h6, .ref h7, .ref h8, .ref h9, .int 0, .int 0, .ref h10, .ref h11, .ref h12, .int 0, .int 0, .ref h13, .ref h14, .ref h15, .ref h16, .ref h17, .int 0, .ref h18, .ref h19, .ref h20]))] _ _ := h
  refine lv_iload_n hx hb dX12_numbers_5 rfl (lv_at hl 1 rfl) ?_
  refine lv_i2l (v := 3) hx hb dX12_numbers_6 (by decide +kernel) ?_
  refine lv_lconst (v := 0) hx hb dX12_numbers_7 (by decide) ?_
  refine lv_ldc2 hx hb hown (ht _ wm_7_29) dX12_numbers_8 ?_
  refine q_callSi (rest := []) (wr := [(h0, .inr (12, [.int 0, .ref h1, .ref h2, .ref h3, .ref h4, .int 0, .int 0, .int 0, .int 0, .int 0, .int 0, .int 0, .int 0, .int 0, .int (-1), .int 0, .ref h5, .ref h6, .ref h7, .ref h8, .ref h9, .int 0, .int 0, .ref h10, .ref h11, .ref h12, .int 0, .int 0, .ref h13, .ref h14, .ref h15, .ref h16, .ref h17, .int 0, .ref h18, .ref h19, .ref h20]))]) X hK hA h (fun sz => kX12_within_521 l D cy   sz) wm_6_50 wm_6_52 wm_1_12 hd_X12_within wm_6_51 ⟨Nat.le_of_ble_eq_true rfl, Nat.le_of_ble_eq_true rfl⟩ hl.1 rfl (Nat.le_of_ble_eq_true rfl) dX12_numbers_11 ⟨Nat.le_of_ble_eq_true rfl, Nat.le_of_ble_eq_true rfl⟩ [] [0] rfl rfl (by decide) rfl rfl (fun r_11078 u_11078 H locs w_11078 h => ?_)
  obtain rfl : r_11078 = 1 := w_11078
  have h : qW D _ _ [(h0, .inr (12, [.int 0, .ref h1, .ref h2, .ref h3, .ref h4, .int 0, .int 0, .int 0, .int 0, .int 0, .int 0, .int 0, .int 0, .int 0, .int (-1), .int 0, .ref h5, .ref h6, .ref h7, .ref h8, .ref h9, .int 0, .int 0, .ref h10, .ref h11, .ref h12, .int 0, .int 0, .ref h13, .ref h14, .ref h15, .ref h16, .ref h17, .int 0, .ref h18, .ref h19, .ref h20]))] _ _ := h
  refine lv_if_eq (tgt := 29) hx hb dX12_numbers_14 (by decide) (fun c => absurd c (by decide +kernel)) (fun _ => ?_)
  refine lv_iload_n hx hb dX12_numbers_17 rfl (lv_at hl 2 rfl) ?_
  refine lv_i2l hx hb dX12_numbers_18 rfl ?_
  refine lv_lconst (v := 0) hx hb dX12_numbers_19 (by decide) ?_
  refine lv_ldc2 hx hb hown (ht _ wm_7_29) dX12_numbers_20 ?_
  have g_11081 : (4 : Int64) ≤ ((p0).toInt64) := by
    simp only [q_lc_lt, q_lc_ge, q_lc_gt, q_lc_le, q_lc_eq, Int32.toInt_toInt64, Int64.lt_iff_toInt_lt, Int64.le_iff_toInt_le, ← Int64.toInt_inj, Int32.lt_iff_toInt_lt, Int32.le_iff_toInt_le, ← Int32.toInt_inj] at hlo_p0 ⊢
    have k_0 : (4 : Int32).toInt = 4 := by decide
    have k_g : (4 : Int64).toInt = 4 := by decide
    omega
  refine q_callSi (rest := []) (wr := [(h0, .inr (12, [.int 0, .ref h1, .ref h2, .ref h3, .ref h4, .int 0, .int 0, .int 0, .int 0, .int 0, .int 0, .int 0, .int 0, .int 0, .int (-1), .int 0, .ref h5, .ref h6, .ref h7, .ref h8, .ref h9, .int 0, .int 0, .ref h10, .ref h11, .ref h12, .int 0, .int 0, .ref h13, .ref h14, .ref h15, .ref h16, .ref h17, .int 0, .ref h18, .ref h19, .ref h20]))]) X hK hA h (fun sz => kX12_within_500 l D cy ((p0).toInt64) g_11081 sz) wm_6_50 wm_6_52 wm_1_12 hd_X12_within wm_6_51 ⟨Nat.le_of_ble_eq_true rfl, Nat.le_of_ble_eq_true rfl⟩ hl.1 rfl (Nat.le_of_ble_eq_true rfl) dX12_numbers_23 ⟨Nat.le_of_ble_eq_true rfl, Nat.le_of_ble_eq_true rfl⟩ [] [0] rfl rfl (by decide) rfl rfl (fun r_11082 u_11082 H locs w_11082 h => ?_)
  obtain rfl : r_11082 = 0 := w_11082
  have h : qW D _ _ [(h0, .inr (12, [.int 0, .ref h1, .ref h2, .ref h3, .ref h4, .int 0, .int 0, .int 0, .int 0, .int 0, .int 0, .int 0, .int 0, .int 0, .int (-1), .int 0, .ref h5, .ref h6, .ref h7, .ref h8, .ref h9, .int 0, .int 0, .ref h10, .ref h11, .ref h12, .int 0, .int 0, .ref h13, .ref h14, .ref h15, .ref h16, .ref h17, .int 0, .ref h18, .ref h19, .ref h20]))] _ _ := h
  refine lv_if_ne (tgt := 32) hx hb dX12_numbers_26 (by decide) (fun c => absurd c (by decide +kernel)) (fun _ => ?_)
  refine lv_bipush (v := (-2)) hx hb dX12_numbers_29 (by decide) ?_
  exact q_iret X hr hlk hK h rfl (fun _ => 0, fun _ _ => 0, fun _ _ => 0) rfl [0] rfl rfl dX12_numbers_31 (Nat.le_of_ble_eq_true rfl) (Nat.le_of_ble_eq_true rfl)
set_option maxHeartbeats 4000000 in
set_option maxRecDepth 100000 in
theorem kX12_numbers_735 (l : Launch) (D : va_G) (cy : Nat → ClassId) (h0 : Nat) (p0 : Int32) (p1 : Int32) (p2 : Int32) (h1 : Nat) (h2 : Nat) (h3 : Nat) (h4 : Nat) (h5 : Nat) (h6 : Nat) (h7 : Nat) (h8 : Nat) (h9 : Nat) (h10 : Nat) (h11 : Nat) (h12 : Nat) (h13 : Nat) (h14 : Nat) (h15 : Nat) (h16 : Nat) (h17 : Nat) (h18 : Nat) (h19 : Nat) (h20 : Nat) (hlo_p0 : (4 : Int32) ≤ p0) (hhi_p1 : p1 ≤ ((-1) : Int32)) (hhi_p2 : p2 ≤ ((-1) : Int32)) (sz : Nat) : MI l yX12_numbers cX12_numbers 5 .int { frames := 1, cells := 0, slots := 0, locals := 25 } [.ref h0, .int p0, .int p1, .int p2] D cy [(h0, .inr (12, [.int 0, .ref h1, .ref h2, .ref h3, .ref h4, .int 0, .int 0, .int 0, .int 0, .int 0, .int 0, .int 0, .int 0, .int 0, .int (-1), .int 0, .ref h5, .ref h6, .ref h7, .ref h8, .ref h9, .int 0, .int 0, .ref h10, .ref h11, .ref h12, .int 0, .int 0, .ref h13, .ref h14, .ref h15, .ref h16, .ref h17, .int 0, .ref h18, .ref h19, .ref h20]))] sz (fun r u => r = (-2)) (fun u => [(h0, .inr (12, [.int 0, .ref h1, .ref h2, .ref h3, .ref h4, .int 0, .int 0, .int 0, .int 0, .int 0, .int 0, .int 0, .int 0, .int 0, .int (-1), .int 0, .ref h5, .ref h6, .ref h7, .ref h8, .ref h9, .int 0, .int 0, .ref h10, .ref h11, .ref h12, .int 0, .int 0, .ref h13, .ref h14, .ref h15, .ref h16, .ref h17, .int 0, .ref h18, .ref h19, .ref h20]))]) 0 0 := by
  refine q_ent (own := RX12) (by decide) rfl (Nat.le_of_ble_eq_true rfl) (fun p e s m below meth c ls X hr hlk hnm hK h hA hl => ?_)
  obtain ⟨hx, hb, hml, hown, ht⟩ := id X
  have hl : lv_has ls 5 [(0, .ref h0), (1, .int p0), (2, .int p1), (3, .int p2)] := hl
  refine lv_aload_n hx hb dX12_numbers_0 rfl (lv_at hl 0 rfl) ?_
  refine lv_iconst (v := 0) hx hb dX12_numbers_1 (by decide) ?_
  refine q_put (v := .int 0) X hK h 0 rfl rfl wf_12 tyX12 tyX12_ok nmX12 0 (by decide) wm_5_170 rfl rfl rfl (Nat.le_of_ble_eq_true rfl) dX12_numbers_2 (fun H locs h => ?_)
  have h : qW D _ _ [(h0, .inr (12, [.int 0, .ref h1, .ref h2, .ref h3, .ref h4, .int 0, .int 0, .int 0, .int 0, .int 0, .int 0, .int 0, .int 0, .int 0, .int (-1), .int 0, .ref h5, .ref h6, .ref h7, .ref h8, .ref h9, .int 0, .int 0, .ref h10, .ref h11, .ref h12, .int 0, .int 0, .ref h13, .ref h14, .ref h15, .ref h16, .ref h17, .int 0, .ref h18, .ref h19, .ref h20]))] _ _ := h
  refine lv_iload_n hx hb dX12_numbers_5 rfl (lv_at hl 1 rfl) ?_
  refine lv_i2l hx hb dX12_numbers_6 rfl ?_
  refine lv_lconst (v := 0) hx hb dX12_numbers_7 (by decide) ?_
  refine lv_ldc2 hx hb hown (ht _ wm_7_29) dX12_numbers_8 ?_
  have g_11093 : (4 : Int64) ≤ ((p0).toInt64) := by
    simp only [q_lc_lt, q_lc_ge, q_lc_gt, q_lc_le, q_lc_eq, Int32.toInt_toInt64, Int64.lt_iff_toInt_lt, Int64.le_iff_toInt_le, ← Int64.toInt_inj, Int32.lt_iff_toInt_lt, Int32.le_iff_toInt_le, ← Int32.toInt_inj] at hlo_p0 ⊢
    have k_0 : (4 : Int32).toInt = 4 := by decide
    have k_g : (4 : Int64).toInt = 4 := by decide
    omega
  refine q_callSi (rest := []) (wr := [(h0, .inr (12, [.int 0, .ref h1, .ref h2, .ref h3, .ref h4, .int 0, .int 0, .int 0, .int 0, .int 0, .int 0, .int 0, .int 0, .int 0, .int (-1), .int 0, .ref h5, .ref h6, .ref h7, .ref h8, .ref h9, .int 0, .int 0, .ref h10, .ref h11, .ref h12, .int 0, .int 0, .ref h13, .ref h14, .ref h15, .ref h16, .ref h17, .int 0, .ref h18, .ref h19, .ref h20]))]) X hK hA h (fun sz => kX12_within_500 l D cy ((p0).toInt64) g_11093 sz) wm_6_50 wm_6_52 wm_1_12 hd_X12_within wm_6_51 ⟨Nat.le_of_ble_eq_true rfl, Nat.le_of_ble_eq_true rfl⟩ hl.1 rfl (Nat.le_of_ble_eq_true rfl) dX12_numbers_11 ⟨Nat.le_of_ble_eq_true rfl, Nat.le_of_ble_eq_true rfl⟩ [] [0] rfl rfl (by decide) rfl rfl (fun r_11094 u_11094 H locs w_11094 h => ?_)
  obtain rfl : r_11094 = 0 := w_11094
  have h : qW D _ _ [(h0, .inr (12, [.int 0, .ref h1, .ref h2, .ref h3, .ref h4, .int 0, .int 0, .int 0, .int 0, .int 0, .int 0, .int 0, .int 0, .int 0, .int (-1), .int 0, .ref h5, .ref h6, .ref h7, .ref h8, .ref h9, .int 0, .int 0, .ref h10, .ref h11, .ref h12, .int 0, .int 0, .ref h13, .ref h14, .ref h15, .ref h16, .ref h17, .int 0, .ref h18, .ref h19, .ref h20]))] _ _ := h
  refine lv_if_eq (tgt := 29) hx hb dX12_numbers_14 (by decide) (fun _ => ?_) (fun c => absurd c (by decide +kernel))
  refine lv_bipush (v := (-2)) hx hb dX12_numbers_29 (by decide) ?_
  exact q_iret X hr hlk hK h rfl (fun _ => 0, fun _ _ => 0, fun _ _ => 0) rfl [0] rfl rfl dX12_numbers_31 (Nat.le_of_ble_eq_true rfl) (Nat.le_of_ble_eq_true rfl)
set_option maxHeartbeats 4000000 in
set_option maxRecDepth 100000 in
theorem kX12_numbers_736 (l : Launch) (D : va_G) (cy : Nat → ClassId) (h0 : Nat) (p0 : Int32) (p1 : Int32) (p2 : Int32) (h1 : Nat) (h2 : Nat) (h3 : Nat) (h4 : Nat) (h5 : Nat) (h6 : Nat) (h7 : Nat) (h8 : Nat) (h9 : Nat) (h10 : Nat) (h11 : Nat) (h12 : Nat) (h13 : Nat) (h14 : Nat) (h15 : Nat) (h16 : Nat) (h17 : Nat) (h18 : Nat) (h19 : Nat) (h20 : Nat) (hlo_p0 : (4 : Int32) ≤ p0) (hhi_p1 : p1 ≤ ((-1) : Int32)) (hlo_p2 : (0 : Int32) ≤ p2) (hhi_p2 : p2 ≤ (40 : Int32)) (sz : Nat) : MI l yX12_numbers cX12_numbers 5 .int { frames := 1, cells := 0, slots := 0, locals := 25 } [.ref h0, .int p0, .int p1, .int p2] D cy [(h0, .inr (12, [.int 0, .ref h1, .ref h2, .ref h3, .ref h4, .int 0, .int 0, .int 0, .int 0, .int 0, .int 0, .int 0, .int 0, .int 0, .int (-1), .int 0, .ref h5, .ref h6, .ref h7, .ref h8, .ref h9, .int 0, .int 0, .ref h10, .ref h11, .ref h12, .int 0, .int 0, .ref h13, .ref h14, .ref h15, .ref h16, .ref h17, .int 0, .ref h18, .ref h19, .ref h20]))] sz (fun r u => r = (-2)) (fun u => [(h0, .inr (12, [.int 0, .ref h1, .ref h2, .ref h3, .ref h4, .int 0, .int 0, .int 0, .int 0, .int 0, .int 0, .int 0, .int 0, .int 0, .int (-1), .int 0, .ref h5, .ref h6, .ref h7, .ref h8, .ref h9, .int 0, .int 0, .ref h10, .ref h11, .ref h12, .int 0, .int 0, .ref h13, .ref h14, .ref h15, .ref h16, .ref h17, .int 0, .ref h18, .ref h19, .ref h20]))]) 0 0 := by
  refine q_ent (own := RX12) (by decide) rfl (Nat.le_of_ble_eq_true rfl) (fun p e s m below meth c ls X hr hlk hnm hK h hA hl => ?_)
  obtain ⟨hx, hb, hml, hown, ht⟩ := id X
  have hl : lv_has ls 5 [(0, .ref h0), (1, .int p0), (2, .int p1), (3, .int p2)] := hl
  refine lv_aload_n hx hb dX12_numbers_0 rfl (lv_at hl 0 rfl) ?_
  refine lv_iconst (v := 0) hx hb dX12_numbers_1 (by decide) ?_
  refine q_put (v := .int 0) X hK h 0 rfl rfl wf_12 tyX12 tyX12_ok nmX12 0 (by decide) wm_5_170 rfl rfl rfl (Nat.le_of_ble_eq_true rfl) dX12_numbers_2 (fun H locs h => ?_)
  have h : qW D _ _ [(h0, .inr (12, [.int 0, .ref h1, .ref h2, .ref h3, .ref h4, .int 0, .int 0, .int 0, .int 0, .int 0, .int 0, .int 0, .int 0, .int 0, .int (-1), .int 0, .ref h5, .ref h6, .ref h7, .ref h8, .ref h9, .int 0, .int 0, .ref h10, .ref h11, .ref h12, .int 0, .int 0, .ref h13, .ref h14, .ref h15, .ref h16, .ref h17, .int 0, .ref h18, .ref h19, .ref h20]))] _ _ := h
  refine lv_iload_n hx hb dX12_numbers_5 rfl (lv_at hl 1 rfl) ?_
  refine lv_i2l hx hb dX12_numbers_6 rfl ?_
  refine lv_lconst (v := 0) hx hb dX12_numbers_7 (by decide) ?_
  refine lv_ldc2 hx hb hown (ht _ wm_7_29) dX12_numbers_8 ?_
  have g_11105 : (4 : Int64) ≤ ((p0).toInt64) := by
    simp only [q_lc_lt, q_lc_ge, q_lc_gt, q_lc_le, q_lc_eq, Int32.toInt_toInt64, Int64.lt_iff_toInt_lt, Int64.le_iff_toInt_le, ← Int64.toInt_inj, Int32.lt_iff_toInt_lt, Int32.le_iff_toInt_le, ← Int32.toInt_inj] at hlo_p0 ⊢
    have k_0 : (4 : Int32).toInt = 4 := by decide
    have k_g : (4 : Int64).toInt = 4 := by decide
    omega
  refine q_callSi (rest := []) (wr := [(h0, .inr (12, [.int 0, .ref h1, .ref h2, .ref h3, .ref h4, .int 0, .int 0, .int 0, .int 0, .int 0, .int 0, .int 0, .int 0, .int 0, .int (-1), .int 0, .ref h5, .ref h6, .ref h7, .ref h8, .ref h9, .int 0, .int 0, .ref h10, .ref h11, .ref h12, .int 0, .int 0, .ref h13, .ref h14, .ref h15, .ref h16, .ref h17, .int 0, .ref h18, .ref h19, .ref h20]))]) X hK hA h (fun sz => kX12_within_500 l D cy ((p0).toInt64) g_11105 sz) wm_6_50 wm_6_52 wm_1_12 hd_X12_within wm_6_51 ⟨Nat.le_of_ble_eq_true rfl, Nat.le_of_ble_eq_true rfl⟩ hl.1 rfl (Nat.le_of_ble_eq_true rfl) dX12_numbers_11 ⟨Nat.le_of_ble_eq_true rfl, Nat.le_of_ble_eq_true rfl⟩ [] [0] rfl rfl (by decide) rfl rfl (fun r_11106 u_11106 H locs w_11106 h => ?_)
  obtain rfl : r_11106 = 0 := w_11106
  have h : qW D _ _ [(h0, .inr (12, [.int 0, .ref h1, .ref h2, .ref h3, .ref h4, .int 0, .int 0, .int 0, .int 0, .int 0, .int 0, .int 0, .int 0, .int 0, .int (-1), .int 0, .ref h5, .ref h6, .ref h7, .ref h8, .ref h9, .int 0, .int 0, .ref h10, .ref h11, .ref h12, .int 0, .int 0, .ref h13, .ref h14, .ref h15, .ref h16, .ref h17, .int 0, .ref h18, .ref h19, .ref h20]))] _ _ := h
  refine lv_if_eq (tgt := 29) hx hb dX12_numbers_14 (by decide) (fun _ => ?_) (fun c => absurd c (by decide +kernel))
  refine lv_bipush (v := (-2)) hx hb dX12_numbers_29 (by decide) ?_
  exact q_iret X hr hlk hK h rfl (fun _ => 0, fun _ _ => 0, fun _ _ => 0) rfl [0] rfl rfl dX12_numbers_31 (Nat.le_of_ble_eq_true rfl) (Nat.le_of_ble_eq_true rfl)
set_option maxHeartbeats 4000000 in
set_option maxRecDepth 100000 in
theorem kX12_numbers_737 (l : Launch) (D : va_G) (cy : Nat → ClassId) (h0 : Nat) (p0 : Int32) (p1 : Int32) (p2 : Int32) (h1 : Nat) (h2 : Nat) (h3 : Nat) (h4 : Nat) (h5 : Nat) (h6 : Nat) (h7 : Nat) (h8 : Nat) (h9 : Nat) (h10 : Nat) (h11 : Nat) (h12 : Nat) (h13 : Nat) (h14 : Nat) (h15 : Nat) (h16 : Nat) (h17 : Nat) (h18 : Nat) (h19 : Nat) (h20 : Nat) (hlo_p0 : (4 : Int32) ≤ p0) (hhi_p1 : p1 ≤ ((-1) : Int32)) (hlo_p2 : (41 : Int32) ≤ p2) (sz : Nat) : MI l yX12_numbers cX12_numbers 5 .int { frames := 1, cells := 0, slots := 0, locals := 25 } [.ref h0, .int p0, .int p1, .int p2] D cy [(h0, .inr (12, [.int 0, .ref h1, .ref h2, .ref h3, .ref h4, .int 0, .int 0, .int 0, .int 0, .int 0, .int 0, .int 0, .int 0, .int 0, .int (-1), .int 0, .ref h5, .ref h6, .ref h7, .ref h8, .ref h9, .int 0, .int 0, .ref h10, .ref h11, .ref h12, .int 0, .int 0, .ref h13, .ref h14, .ref h15, .ref h16, .ref h17, .int 0, .ref h18, .ref h19, .ref h20]))] sz (fun r u => r = (-2)) (fun u => [(h0, .inr (12, [.int 0, .ref h1, .ref h2, .ref h3, .ref h4, .int 0, .int 0, .int 0, .int 0, .int 0, .int 0, .int 0, .int 0, .int 0, .int (-1), .int 0, .ref h5, .ref h6, .ref h7, .ref h8, .ref h9, .int 0, .int 0, .ref h10, .ref h11, .ref h12, .int 0, .int 0, .ref h13, .ref h14, .ref h15, .ref h16, .ref h17, .int 0, .ref h18, .ref h19, .ref h20]))]) 0 0 := by
  refine q_ent (own := RX12) (by decide) rfl (Nat.le_of_ble_eq_true rfl) (fun p e s m below meth c ls X hr hlk hnm hK h hA hl => ?_)
  obtain ⟨hx, hb, hml, hown, ht⟩ := id X
  have hl : lv_has ls 5 [(0, .ref h0), (1, .int p0), (2, .int p1), (3, .int p2)] := hl
  refine lv_aload_n hx hb dX12_numbers_0 rfl (lv_at hl 0 rfl) ?_
  refine lv_iconst (v := 0) hx hb dX12_numbers_1 (by decide) ?_
  refine q_put (v := .int 0) X hK h 0 rfl rfl wf_12 tyX12 tyX12_ok nmX12 0 (by decide) wm_5_170 rfl rfl rfl (Nat.le_of_ble_eq_true rfl) dX12_numbers_2 (fun H locs h => ?_)
  have h : qW D _ _ [(h0, .inr (12, [.int 0, .ref h1, .ref h2, .ref h3, .ref h4, .int 0, .int 0, .int 0, .int 0, .int 0, .int 0, .int 0, .int 0, .int 0, .int (-1), .int 0, .ref h5, .ref h6, .ref h7, .ref h8, .ref h9, .int 0, .int 0, .ref h10, .ref h11, .ref h12, .int 0, .int 0, .ref h13, .ref h14, .ref h15, .ref h16, .ref h17, .int 0, .ref h18, .ref h19, .ref h20]))] _ _ := h
  refine lv_iload_n hx hb dX12_numbers_5 rfl (lv_at hl 1 rfl) ?_
  refine lv_i2l hx hb dX12_numbers_6 rfl ?_
  refine lv_lconst (v := 0) hx hb dX12_numbers_7 (by decide) ?_
  refine lv_ldc2 hx hb hown (ht _ wm_7_29) dX12_numbers_8 ?_
  have g_11117 : (4 : Int64) ≤ ((p0).toInt64) := by
    simp only [q_lc_lt, q_lc_ge, q_lc_gt, q_lc_le, q_lc_eq, Int32.toInt_toInt64, Int64.lt_iff_toInt_lt, Int64.le_iff_toInt_le, ← Int64.toInt_inj, Int32.lt_iff_toInt_lt, Int32.le_iff_toInt_le, ← Int32.toInt_inj] at hlo_p0 ⊢
    have k_0 : (4 : Int32).toInt = 4 := by decide
    have k_g : (4 : Int64).toInt = 4 := by decide
    omega
  refine q_callSi (rest := []) (wr := [(h0, .inr (12, [.int 0, .ref h1, .ref h2, .ref h3, .ref h4, .int 0, .int 0, .int 0, .int 0, .int 0, .int 0, .int 0, .int 0, .int 0, .int (-1), .int 0, .ref h5, .ref h6, .ref h7, .ref h8, .ref h9, .int 0, .int 0, .ref h10, .ref h11, .ref h12, .int 0, .int 0, .ref h13, .ref h14, .ref h15, .ref h16, .ref h17, .int 0, .ref h18, .ref h19, .ref h20]))]) X hK hA h (fun sz => kX12_within_500 l D cy ((p0).toInt64) g_11117 sz) wm_6_50 wm_6_52 wm_1_12 hd_X12_within wm_6_51 ⟨Nat.le_of_ble_eq_true rfl, Nat.le_of_ble_eq_true rfl⟩ hl.1 rfl (Nat.le_of_ble_eq_true rfl) dX12_numbers_11 ⟨Nat.le_of_ble_eq_true rfl, Nat.le_of_ble_eq_true rfl⟩ [] [0] rfl rfl (by decide) rfl rfl (fun r_11118 u_11118 H locs w_11118 h => ?_)
  obtain rfl : r_11118 = 0 := w_11118
  have h : qW D _ _ [(h0, .inr (12, [.int 0, .ref h1, .ref h2, .ref h3, .ref h4, .int 0, .int 0, .int 0, .int 0, .int 0, .int 0, .int 0, .int 0, .int 0, .int (-1), .int 0, .ref h5, .ref h6, .ref h7, .ref h8, .ref h9, .int 0, .int 0, .ref h10, .ref h11, .ref h12, .int 0, .int 0, .ref h13, .ref h14, .ref h15, .ref h16, .ref h17, .int 0, .ref h18, .ref h19, .ref h20]))] _ _ := h
  refine lv_if_eq (tgt := 29) hx hb dX12_numbers_14 (by decide) (fun _ => ?_) (fun c => absurd c (by decide +kernel))
  refine lv_bipush (v := (-2)) hx hb dX12_numbers_29 (by decide) ?_
  exact q_iret X hr hlk hK h rfl (fun _ => 0, fun _ _ => 0, fun _ _ => 0) rfl [0] rfl rfl dX12_numbers_31 (Nat.le_of_ble_eq_true rfl) (Nat.le_of_ble_eq_true rfl)
set_option maxHeartbeats 4000000 in
set_option maxRecDepth 100000 in
theorem kX12_numbers_738 (l : Launch) (D : va_G) (cy : Nat → ClassId) (h0 : Nat) (p0 : Int32) (p1 : Int32) (p2 : Int32) (h1 : Nat) (h2 : Nat) (h3 : Nat) (h4 : Nat) (h5 : Nat) (h6 : Nat) (h7 : Nat) (h8 : Nat) (h9 : Nat) (h10 : Nat) (h11 : Nat) (h12 : Nat) (h13 : Nat) (h14 : Nat) (h15 : Nat) (h16 : Nat) (h17 : Nat) (h18 : Nat) (h19 : Nat) (h20 : Nat) (hlo_p0 : (4 : Int32) ≤ p0) (hlo_p1 : (0 : Int32) ≤ p1) (hhi_p1 : p1 ≤ (3 : Int32)) (hhi_p2 : p2 ≤ ((-1) : Int32)) (sz : Nat) : MI l yX12_numbers cX12_numbers 5 .int { frames := 1, cells := 0, slots := 0, locals := 25 } [.ref h0, .int p0, .int p1, .int p2] D cy [(h0, .inr (12, [.int 0, .ref h1, .ref h2, .ref h3, .ref h4, .int 0, .int 0, .int 0, .int 0, .int 0, .int 0, .int 0, .int 0, .int 0, .int (-1), .int 0, .ref h5, .ref h6, .ref h7, .ref h8, .ref h9, .int 0, .int 0, .ref h10, .ref h11, .ref h12, .int 0, .int 0, .ref h13, .ref h14, .ref h15, .ref h16, .ref h17, .int 0, .ref h18, .ref h19, .ref h20]))] sz (fun r u => r = (-2)) (fun u => [(h0, .inr (12, [.int 0, .ref h1, .ref h2, .ref h3, .ref h4, .int 0, .int 0, .int 0, .int 0, .int 0, .int 0, .int 0, .int 0, .int 0, .int (-1), .int 0, .ref h5, .ref h6, .ref h7, .ref h8, .ref h9, .int 0, .int 0, .ref h10, .ref h11, .ref h12, .int 0, .int 0, .ref h13, .ref h14, .ref h15, .ref h16, .ref h17, .int 0, .ref h18, .ref h19, .ref h20]))]) 0 0 := by
  refine q_ent (own := RX12) (by decide) rfl (Nat.le_of_ble_eq_true rfl) (fun p e s m below meth c ls X hr hlk hnm hK h hA hl => ?_)
  obtain ⟨hx, hb, hml, hown, ht⟩ := id X
  have hl : lv_has ls 5 [(0, .ref h0), (1, .int p0), (2, .int p1), (3, .int p2)] := hl
  refine lv_aload_n hx hb dX12_numbers_0 rfl (lv_at hl 0 rfl) ?_
  refine lv_iconst (v := 0) hx hb dX12_numbers_1 (by decide) ?_
  refine q_put (v := .int 0) X hK h 0 rfl rfl wf_12 tyX12 tyX12_ok nmX12 0 (by decide) wm_5_170 rfl rfl rfl (Nat.le_of_ble_eq_true rfl) dX12_numbers_2 (fun H locs h => ?_)
  have h : qW D _ _ [(h0, .inr (12, [.int 0, .ref h1, .ref h2, .ref h3, .ref h4, .int 0, .int 0, .int 0, .int 0, .int 0, .int 0, .int 0, .int 0, .int 0, .int (-1), .int 0, .ref h5, .ref h6, .ref h7, .ref h8, .ref h9, .int 0, .int 0, .ref h10, .ref h11, .ref h12, .int 0, .int 0, .ref h13, .ref h14, .ref h15, .ref h16, .ref h17, .int 0, .ref h18, .ref h19, .ref h20]))] _ _ := h
  refine lv_iload_n hx hb dX12_numbers_5 rfl (lv_at hl 1 rfl) ?_
  refine lv_i2l hx hb dX12_numbers_6 rfl ?_
  refine lv_lconst (v := 0) hx hb dX12_numbers_7 (by decide) ?_
  refine lv_ldc2 hx hb hown (ht _ wm_7_29) dX12_numbers_8 ?_
  have g_11129 : (4 : Int64) ≤ ((p0).toInt64) := by
    simp only [q_lc_lt, q_lc_ge, q_lc_gt, q_lc_le, q_lc_eq, Int32.toInt_toInt64, Int64.lt_iff_toInt_lt, Int64.le_iff_toInt_le, ← Int64.toInt_inj, Int32.lt_iff_toInt_lt, Int32.le_iff_toInt_le, ← Int32.toInt_inj] at hlo_p0 ⊢
    have k_0 : (4 : Int32).toInt = 4 := by decide
    have k_g : (4 : Int64).toInt = 4 := by decide
    omega
  refine q_callSi (rest := []) (wr := [(h0, .inr (12, [.int 0, .ref h1, .ref h2, .ref h3, .ref h4, .int 0, .int 0, .int 0, .int 0, .int 0, .int 0, .int 0, .int 0, .int 0, .int (-1), .int 0, .ref h5, .ref h6, .ref h7, .ref h8, .ref h9, .int 0, .int 0, .ref h10, .ref h11, .ref h12, .int 0, .int 0, .ref h13, .ref h14, .ref h15, .ref h16, .ref h17, .int 0, .ref h18, .ref h19, .ref h20]))]) X hK hA h (fun sz => kX12_within_500 l D cy ((p0).toInt64) g_11129 sz) wm_6_50 wm_6_52 wm_1_12 hd_X12_within wm_6_51 ⟨Nat.le_of_ble_eq_true rfl, Nat.le_of_ble_eq_true rfl⟩ hl.1 rfl (Nat.le_of_ble_eq_true rfl) dX12_numbers_11 ⟨Nat.le_of_ble_eq_true rfl, Nat.le_of_ble_eq_true rfl⟩ [] [0] rfl rfl (by decide) rfl rfl (fun r_11130 u_11130 H locs w_11130 h => ?_)
  obtain rfl : r_11130 = 0 := w_11130
  have h : qW D _ _ [(h0, .inr (12, [.int 0, .ref h1, .ref h2, .ref h3, .ref h4, .int 0, .int 0, .int 0, .int 0, .int 0, .int 0, .int 0, .int 0, .int 0, .int (-1), .int 0, .ref h5, .ref h6, .ref h7, .ref h8, .ref h9, .int 0, .int 0, .ref h10, .ref h11, .ref h12, .int 0, .int 0, .ref h13, .ref h14, .ref h15, .ref h16, .ref h17, .int 0, .ref h18, .ref h19, .ref h20]))] _ _ := h
  refine lv_if_eq (tgt := 29) hx hb dX12_numbers_14 (by decide) (fun _ => ?_) (fun c => absurd c (by decide +kernel))
  refine lv_bipush (v := (-2)) hx hb dX12_numbers_29 (by decide) ?_
  exact q_iret X hr hlk hK h rfl (fun _ => 0, fun _ _ => 0, fun _ _ => 0) rfl [0] rfl rfl dX12_numbers_31 (Nat.le_of_ble_eq_true rfl) (Nat.le_of_ble_eq_true rfl)
set_option maxHeartbeats 4000000 in
set_option maxRecDepth 100000 in
theorem kX12_numbers_739 (l : Launch) (D : va_G) (cy : Nat → ClassId) (h0 : Nat) (p0 : Int32) (p1 : Int32) (p2 : Int32) (h1 : Nat) (h2 : Nat) (h3 : Nat) (h4 : Nat) (h5 : Nat) (h6 : Nat) (h7 : Nat) (h8 : Nat) (h9 : Nat) (h10 : Nat) (h11 : Nat) (h12 : Nat) (h13 : Nat) (h14 : Nat) (h15 : Nat) (h16 : Nat) (h17 : Nat) (h18 : Nat) (h19 : Nat) (h20 : Nat) (hlo_p0 : (4 : Int32) ≤ p0) (hlo_p1 : (0 : Int32) ≤ p1) (hhi_p1 : p1 ≤ (3 : Int32)) (hlo_p2 : (0 : Int32) ≤ p2) (hhi_p2 : p2 ≤ (40 : Int32)) (sz : Nat) : MI l yX12_numbers cX12_numbers 5 .int { frames := 1, cells := 0, slots := 0, locals := 25 } [.ref h0, .int p0, .int p1, .int p2] D cy [(h0, .inr (12, [.int 0, .ref h1, .ref h2, .ref h3, .ref h4, .int 0, .int 0, .int 0, .int 0, .int 0, .int 0, .int 0, .int 0, .int 0, .int (-1), .int 0, .ref h5, .ref h6, .ref h7, .ref h8, .ref h9, .int 0, .int 0, .ref h10, .ref h11, .ref h12, .int 0, .int 0, .ref h13, .ref h14, .ref h15, .ref h16, .ref h17, .int 0, .ref h18, .ref h19, .ref h20]))] sz (fun r u => r = (-2)) (fun u => [(h0, .inr (12, [.int 0, .ref h1, .ref h2, .ref h3, .ref h4, .int 0, .int 0, .int 0, .int 0, .int 0, .int 0, .int 0, .int 0, .int 0, .int (-1), .int 0, .ref h5, .ref h6, .ref h7, .ref h8, .ref h9, .int 0, .int 0, .ref h10, .ref h11, .ref h12, .int 0, .int 0, .ref h13, .ref h14, .ref h15, .ref h16, .ref h17, .int 0, .ref h18, .ref h19, .ref h20]))]) 0 0 := by
  refine q_ent (own := RX12) (by decide) rfl (Nat.le_of_ble_eq_true rfl) (fun p e s m below meth c ls X hr hlk hnm hK h hA hl => ?_)
  obtain ⟨hx, hb, hml, hown, ht⟩ := id X
  have hl : lv_has ls 5 [(0, .ref h0), (1, .int p0), (2, .int p1), (3, .int p2)] := hl
  refine lv_aload_n hx hb dX12_numbers_0 rfl (lv_at hl 0 rfl) ?_
  refine lv_iconst (v := 0) hx hb dX12_numbers_1 (by decide) ?_
  refine q_put (v := .int 0) X hK h 0 rfl rfl wf_12 tyX12 tyX12_ok nmX12 0 (by decide) wm_5_170 rfl rfl rfl (Nat.le_of_ble_eq_true rfl) dX12_numbers_2 (fun H locs h => ?_)
  have h : qW D _ _ [(h0, .inr (12, [.int 0, .ref h1, .ref h2, .ref h3, .ref h4, .int 0, .int 0, .int 0, .int 0, .int 0, .int 0, .int 0, .int 0, .int 0, .int (-1), .int 0, .ref h5, .ref h6, .ref h7, .ref h8, .ref h9, .int 0, .int 0, .ref h10, .ref h11, .ref h12, .int 0, .int 0, .ref h13, .ref h14, .ref h15, .ref h16, .ref h17, .int 0, .ref h18, .ref h19, .ref h20]))] _ _ := h
  refine lv_iload_n hx hb dX12_numbers_5 rfl (lv_at hl 1 rfl) ?_
  refine lv_i2l hx hb dX12_numbers_6 rfl ?_
  refine lv_lconst (v := 0) hx hb dX12_numbers_7 (by decide) ?_
  refine lv_ldc2 hx hb hown (ht _ wm_7_29) dX12_numbers_8 ?_
  have g_11141 : (4 : Int64) ≤ ((p0).toInt64) := by
    simp only [q_lc_lt, q_lc_ge, q_lc_gt, q_lc_le, q_lc_eq, Int32.toInt_toInt64, Int64.lt_iff_toInt_lt, Int64.le_iff_toInt_le, ← Int64.toInt_inj, Int32.lt_iff_toInt_lt, Int32.le_iff_toInt_le, ← Int32.toInt_inj] at hlo_p0 ⊢
    have k_0 : (4 : Int32).toInt = 4 := by decide
    have k_g : (4 : Int64).toInt = 4 := by decide
    omega
  refine q_callSi (rest := []) (wr := [(h0, .inr (12, [.int 0, .ref h1, .ref h2, .ref h3, .ref h4, .int 0, .int 0, .int 0, .int 0, .int 0, .int 0, .int 0, .int 0, .int 0, .int (-1), .int 0, .ref h5, .ref h6, .ref h7, .ref h8, .ref h9, .int 0, .int 0, .ref h10, .ref h11, .ref h12, .int 0, .int 0, .ref h13, .ref h14, .ref h15, .ref h16, .ref h17, .int 0, .ref h18, .ref h19, .ref h20]))]) X hK hA h (fun sz => kX12_within_500 l D cy ((p0).toInt64) g_11141 sz) wm_6_50 wm_6_52 wm_1_12 hd_X12_within wm_6_51 ⟨Nat.le_of_ble_eq_true rfl, Nat.le_of_ble_eq_true rfl⟩ hl.1 rfl (Nat.le_of_ble_eq_true rfl) dX12_numbers_11 ⟨Nat.le_of_ble_eq_true rfl, Nat.le_of_ble_eq_true rfl⟩ [] [0] rfl rfl (by decide) rfl rfl (fun r_11142 u_11142 H locs w_11142 h => ?_)
  obtain rfl : r_11142 = 0 := w_11142
  have h : qW D _ _ [(h0, .inr (12, [.int 0, .ref h1, .ref h2, .ref h3, .ref h4, .int 0, .int 0, .int 0, .int 0, .int 0, .int 0, .int 0, .int 0, .int 0, .int (-1), .int 0, .ref h5, .ref h6, .ref h7, .ref h8, .ref h9, .int 0, .int 0, .ref h10, .ref h11, .ref h12, .int 0, .int 0, .ref h13, .ref h14, .ref h15, .ref h16, .ref h17, .int 0, .ref h18, .ref h19, .ref h20]))] _ _ := h
  refine lv_if_eq (tgt := 29) hx hb dX12_numbers_14 (by decide) (fun _ => ?_) (fun c => absurd c (by decide +kernel))
  refine lv_bipush (v := (-2)) hx hb dX12_numbers_29 (by decide) ?_
  exact q_iret X hr hlk hK h rfl (fun _ => 0, fun _ _ => 0, fun _ _ => 0) rfl [0] rfl rfl dX12_numbers_31 (Nat.le_of_ble_eq_true rfl) (Nat.le_of_ble_eq_true rfl)
set_option maxHeartbeats 4000000 in
set_option maxRecDepth 100000 in
theorem kX12_numbers_740 (l : Launch) (D : va_G) (cy : Nat → ClassId) (h0 : Nat) (p0 : Int32) (p1 : Int32) (p2 : Int32) (h1 : Nat) (h2 : Nat) (h3 : Nat) (h4 : Nat) (h5 : Nat) (h6 : Nat) (h7 : Nat) (h8 : Nat) (h9 : Nat) (h10 : Nat) (h11 : Nat) (h12 : Nat) (h13 : Nat) (h14 : Nat) (h15 : Nat) (h16 : Nat) (h17 : Nat) (h18 : Nat) (h19 : Nat) (h20 : Nat) (hlo_p0 : (4 : Int32) ≤ p0) (hlo_p1 : (0 : Int32) ≤ p1) (hhi_p1 : p1 ≤ (3 : Int32)) (hlo_p2 : (41 : Int32) ≤ p2) (sz : Nat) : MI l yX12_numbers cX12_numbers 5 .int { frames := 1, cells := 0, slots := 0, locals := 25 } [.ref h0, .int p0, .int p1, .int p2] D cy [(h0, .inr (12, [.int 0, .ref h1, .ref h2, .ref h3, .ref h4, .int 0, .int 0, .int 0, .int 0, .int 0, .int 0, .int 0, .int 0, .int 0, .int (-1), .int 0, .ref h5, .ref h6, .ref h7, .ref h8, .ref h9, .int 0, .int 0, .ref h10, .ref h11, .ref h12, .int 0, .int 0, .ref h13, .ref h14, .ref h15, .ref h16, .ref h17, .int 0, .ref h18, .ref h19, .ref h20]))] sz (fun r u => r = (-2)) (fun u => [(h0, .inr (12, [.int 0, .ref h1, .ref h2, .ref h3, .ref h4, .int 0, .int 0, .int 0, .int 0, .int 0, .int 0, .int 0, .int 0, .int 0, .int (-1), .int 0, .ref h5, .ref h6, .ref h7, .ref h8, .ref h9, .int 0, .int 0, .ref h10, .ref h11, .ref h12, .int 0, .int 0, .ref h13, .ref h14, .ref h15, .ref h16, .ref h17, .int 0, .ref h18, .ref h19, .ref h20]))]) 0 0 := by
  refine q_ent (own := RX12) (by decide) rfl (Nat.le_of_ble_eq_true rfl) (fun p e s m below meth c ls X hr hlk hnm hK h hA hl => ?_)
  obtain ⟨hx, hb, hml, hown, ht⟩ := id X
  have hl : lv_has ls 5 [(0, .ref h0), (1, .int p0), (2, .int p1), (3, .int p2)] := hl
  refine lv_aload_n hx hb dX12_numbers_0 rfl (lv_at hl 0 rfl) ?_
  refine lv_iconst (v := 0) hx hb dX12_numbers_1 (by decide) ?_
  refine q_put (v := .int 0) X hK h 0 rfl rfl wf_12 tyX12 tyX12_ok nmX12 0 (by decide) wm_5_170 rfl rfl rfl (Nat.le_of_ble_eq_true rfl) dX12_numbers_2 (fun H locs h => ?_)
  have h : qW D _ _ [(h0, .inr (12, [.int 0, .ref h1, .ref h2, .ref h3, .ref h4, .int 0, .int 0, .int 0, .int 0, .int 0, .int 0, .int 0, .int 0, .int 0, .int (-1), .int 0, .ref h5, .ref h6, .ref h7, .ref h8, .ref h9, .int 0, .int 0, .ref h10, .ref h11, .ref h12, .int 0, .int 0, .ref h13, .ref h14, .ref h15, .ref h16, .ref h17, .int 0, .ref h18, .ref h19, .ref h20]))] _ _ := h
  refine lv_iload_n hx hb dX12_numbers_5 rfl (lv_at hl 1 rfl) ?_
  refine lv_i2l hx hb dX12_numbers_6 rfl ?_
  refine lv_lconst (v := 0) hx hb dX12_numbers_7 (by decide) ?_
  refine lv_ldc2 hx hb hown (ht _ wm_7_29) dX12_numbers_8 ?_
  have g_11153 : (4 : Int64) ≤ ((p0).toInt64) := by
    simp only [q_lc_lt, q_lc_ge, q_lc_gt, q_lc_le, q_lc_eq, Int32.toInt_toInt64, Int64.lt_iff_toInt_lt, Int64.le_iff_toInt_le, ← Int64.toInt_inj, Int32.lt_iff_toInt_lt, Int32.le_iff_toInt_le, ← Int32.toInt_inj] at hlo_p0 ⊢
    have k_0 : (4 : Int32).toInt = 4 := by decide
    have k_g : (4 : Int64).toInt = 4 := by decide
    omega
  refine q_callSi (rest := []) (wr := [(h0, .inr (12, [.int 0, .ref h1, .ref h2, .ref h3, .ref h4, .int 0, .int 0, .int 0, .int 0, .int 0, .int 0, .int 0, .int 0, .int 0, .int (-1), .int 0, .ref h5, .ref h6, .ref h7, .ref h8, .ref h9, .int 0, .int 0, .ref h10, .ref h11, .ref h12, .int 0, .int 0, .ref h13, .ref h14, .ref h15, .ref h16, .ref h17, .int 0, .ref h18, .ref h19, .ref h20]))]) X hK hA h (fun sz => kX12_within_500 l D cy ((p0).toInt64) g_11153 sz) wm_6_50 wm_6_52 wm_1_12 hd_X12_within wm_6_51 ⟨Nat.le_of_ble_eq_true rfl, Nat.le_of_ble_eq_true rfl⟩ hl.1 rfl (Nat.le_of_ble_eq_true rfl) dX12_numbers_11 ⟨Nat.le_of_ble_eq_true rfl, Nat.le_of_ble_eq_true rfl⟩ [] [0] rfl rfl (by decide) rfl rfl (fun r_11154 u_11154 H locs w_11154 h => ?_)
  obtain rfl : r_11154 = 0 := w_11154
  have h : qW D _ _ [(h0, .inr (12, [.int 0, .ref h1, .ref h2, .ref h3, .ref h4, .int 0, .int 0, .int 0, .int 0, .int 0, .int 0, .int 0, .int 0, .int 0, .int (-1), .int 0, .ref h5, .ref h6, .ref h7, .ref h8, .ref h9, .int 0, .int 0, .ref h10, .ref h11, .ref h12, .int 0, .int 0, .ref h13, .ref h14, .ref h15, .ref h16, .ref h17, .int 0, .ref h18, .ref h19, .ref h20]))] _ _ := h
  refine lv_if_eq (tgt := 29) hx hb dX12_numbers_14 (by decide) (fun _ => ?_) (fun c => absurd c (by decide +kernel))
  refine lv_bipush (v := (-2)) hx hb dX12_numbers_29 (by decide) ?_
  exact q_iret X hr hlk hK h rfl (fun _ => 0, fun _ _ => 0, fun _ _ => 0) rfl [0] rfl rfl dX12_numbers_31 (Nat.le_of_ble_eq_true rfl) (Nat.le_of_ble_eq_true rfl)
set_option maxHeartbeats 4000000 in
set_option maxRecDepth 100000 in
theorem kX12_numbers_741 (l : Launch) (D : va_G) (cy : Nat → ClassId) (h0 : Nat) (p0 : Int32) (p1 : Int32) (p2 : Int32) (h1 : Nat) (h2 : Nat) (h3 : Nat) (h4 : Nat) (h5 : Nat) (h6 : Nat) (h7 : Nat) (h8 : Nat) (h9 : Nat) (h10 : Nat) (h11 : Nat) (h12 : Nat) (h13 : Nat) (h14 : Nat) (h15 : Nat) (h16 : Nat) (h17 : Nat) (h18 : Nat) (h19 : Nat) (h20 : Nat) (hlo_p0 : (4 : Int32) ≤ p0) (hlo_p1 : (4 : Int32) ≤ p1) (hhi_p2 : p2 ≤ ((-1) : Int32)) (sz : Nat) : MI l yX12_numbers cX12_numbers 5 .int { frames := 1, cells := 0, slots := 0, locals := 25 } [.ref h0, .int p0, .int p1, .int p2] D cy [(h0, .inr (12, [.int 0, .ref h1, .ref h2, .ref h3, .ref h4, .int 0, .int 0, .int 0, .int 0, .int 0, .int 0, .int 0, .int 0, .int 0, .int (-1), .int 0, .ref h5, .ref h6, .ref h7, .ref h8, .ref h9, .int 0, .int 0, .ref h10, .ref h11, .ref h12, .int 0, .int 0, .ref h13, .ref h14, .ref h15, .ref h16, .ref h17, .int 0, .ref h18, .ref h19, .ref h20]))] sz (fun r u => r = (-2)) (fun u => [(h0, .inr (12, [.int 0, .ref h1, .ref h2, .ref h3, .ref h4, .int 0, .int 0, .int 0, .int 0, .int 0, .int 0, .int 0, .int 0, .int 0, .int (-1), .int 0, .ref h5, .ref h6, .ref h7, .ref h8, .ref h9, .int 0, .int 0, .ref h10, .ref h11, .ref h12, .int 0, .int 0, .ref h13, .ref h14, .ref h15, .ref h16, .ref h17, .int 0, .ref h18, .ref h19, .ref h20]))]) 0 0 := by
  refine q_ent (own := RX12) (by decide) rfl (Nat.le_of_ble_eq_true rfl) (fun p e s m below meth c ls X hr hlk hnm hK h hA hl => ?_)
  obtain ⟨hx, hb, hml, hown, ht⟩ := id X
  have hl : lv_has ls 5 [(0, .ref h0), (1, .int p0), (2, .int p1), (3, .int p2)] := hl
  refine lv_aload_n hx hb dX12_numbers_0 rfl (lv_at hl 0 rfl) ?_
  refine lv_iconst (v := 0) hx hb dX12_numbers_1 (by decide) ?_
  refine q_put (v := .int 0) X hK h 0 rfl rfl wf_12 tyX12 tyX12_ok nmX12 0 (by decide) wm_5_170 rfl rfl rfl (Nat.le_of_ble_eq_true rfl) dX12_numbers_2 (fun H locs h => ?_)
  have h : qW D _ _ [(h0, .inr (12, [.int 0, .ref h1, .ref h2, .ref h3, .ref h4, .int 0, .int 0, .int 0, .int 0, .int 0, .int 0, .int 0, .int 0, .int 0, .int (-1), .int 0, .ref h5, .ref h6, .ref h7, .ref h8, .ref h9, .int 0, .int 0, .ref h10, .ref h11, .ref h12, .int 0, .int 0, .ref h13, .ref h14, .ref h15, .ref h16, .ref h17, .int 0, .ref h18, .ref h19, .ref h20]))] _ _ := h
  refine lv_iload_n hx hb dX12_numbers_5 rfl (lv_at hl 1 rfl) ?_
  refine lv_i2l hx hb dX12_numbers_6 rfl ?_
  refine lv_lconst (v := 0) hx hb dX12_numbers_7 (by decide) ?_
  refine lv_ldc2 hx hb hown (ht _ wm_7_29) dX12_numbers_8 ?_
  have g_11165 : (4 : Int64) ≤ ((p0).toInt64) := by
    simp only [q_lc_lt, q_lc_ge, q_lc_gt, q_lc_le, q_lc_eq, Int32.toInt_toInt64, Int64.lt_iff_toInt_lt, Int64.le_iff_toInt_le, ← Int64.toInt_inj, Int32.lt_iff_toInt_lt, Int32.le_iff_toInt_le, ← Int32.toInt_inj] at hlo_p0 ⊢
    have k_0 : (4 : Int32).toInt = 4 := by decide
    have k_g : (4 : Int64).toInt = 4 := by decide
    omega
  refine q_callSi (rest := []) (wr := [(h0, .inr (12, [.int 0, .ref h1, .ref h2, .ref h3, .ref h4, .int 0, .int 0, .int 0, .int 0, .int 0, .int 0, .int 0, .int 0, .int 0, .int (-1), .int 0, .ref h5, .ref h6, .ref h7, .ref h8, .ref h9, .int 0, .int 0, .ref h10, .ref h11, .ref h12, .int 0, .int 0, .ref h13, .ref h14, .ref h15, .ref h16, .ref h17, .int 0, .ref h18, .ref h19, .ref h20]))]) X hK hA h (fun sz => kX12_within_500 l D cy ((p0).toInt64) g_11165 sz) wm_6_50 wm_6_52 wm_1_12 hd_X12_within wm_6_51 ⟨Nat.le_of_ble_eq_true rfl, Nat.le_of_ble_eq_true rfl⟩ hl.1 rfl (Nat.le_of_ble_eq_true rfl) dX12_numbers_11 ⟨Nat.le_of_ble_eq_true rfl, Nat.le_of_ble_eq_true rfl⟩ [] [0] rfl rfl (by decide) rfl rfl (fun r_11166 u_11166 H locs w_11166 h => ?_)
  obtain rfl : r_11166 = 0 := w_11166
  have h : qW D _ _ [(h0, .inr (12, [.int 0, .ref h1, .ref h2, .ref h3, .ref h4, .int 0, .int 0, .int 0, .int 0, .int 0, .int 0, .int 0, .int 0, .int 0, .int (-1), .int 0, .ref h5, .ref h6, .ref h7, .ref h8, .ref h9, .int 0, .int 0, .ref h10, .ref h11, .ref h12, .int 0, .int 0, .ref h13, .ref h14, .ref h15, .ref h16, .ref h17, .int 0, .ref h18, .ref h19, .ref h20]))] _ _ := h
  refine lv_if_eq (tgt := 29) hx hb dX12_numbers_14 (by decide) (fun _ => ?_) (fun c => absurd c (by decide +kernel))
  refine lv_bipush (v := (-2)) hx hb dX12_numbers_29 (by decide) ?_
  exact q_iret X hr hlk hK h rfl (fun _ => 0, fun _ _ => 0, fun _ _ => 0) rfl [0] rfl rfl dX12_numbers_31 (Nat.le_of_ble_eq_true rfl) (Nat.le_of_ble_eq_true rfl)
set_option maxHeartbeats 4000000 in
set_option maxRecDepth 100000 in
theorem kX12_numbers_742 (l : Launch) (D : va_G) (cy : Nat → ClassId) (h0 : Nat) (p0 : Int32) (p1 : Int32) (p2 : Int32) (h1 : Nat) (h2 : Nat) (h3 : Nat) (h4 : Nat) (h5 : Nat) (h6 : Nat) (h7 : Nat) (h8 : Nat) (h9 : Nat) (h10 : Nat) (h11 : Nat) (h12 : Nat) (h13 : Nat) (h14 : Nat) (h15 : Nat) (h16 : Nat) (h17 : Nat) (h18 : Nat) (h19 : Nat) (h20 : Nat) (hlo_p0 : (4 : Int32) ≤ p0) (hlo_p1 : (4 : Int32) ≤ p1) (hlo_p2 : (0 : Int32) ≤ p2) (hhi_p2 : p2 ≤ (40 : Int32)) (sz : Nat) : MI l yX12_numbers cX12_numbers 5 .int { frames := 1, cells := 0, slots := 0, locals := 25 } [.ref h0, .int p0, .int p1, .int p2] D cy [(h0, .inr (12, [.int 0, .ref h1, .ref h2, .ref h3, .ref h4, .int 0, .int 0, .int 0, .int 0, .int 0, .int 0, .int 0, .int 0, .int 0, .int (-1), .int 0, .ref h5, .ref h6, .ref h7, .ref h8, .ref h9, .int 0, .int 0, .ref h10, .ref h11, .ref h12, .int 0, .int 0, .ref h13, .ref h14, .ref h15, .ref h16, .ref h17, .int 0, .ref h18, .ref h19, .ref h20]))] sz (fun r u => r = (-2)) (fun u => [(h0, .inr (12, [.int 0, .ref h1, .ref h2, .ref h3, .ref h4, .int 0, .int 0, .int 0, .int 0, .int 0, .int 0, .int 0, .int 0, .int 0, .int (-1), .int 0, .ref h5, .ref h6, .ref h7, .ref h8, .ref h9, .int 0, .int 0, .ref h10, .ref h11, .ref h12, .int 0, .int 0, .ref h13, .ref h14, .ref h15, .ref h16, .ref h17, .int 0, .ref h18, .ref h19, .ref h20]))]) 0 0 := by
  refine q_ent (own := RX12) (by decide) rfl (Nat.le_of_ble_eq_true rfl) (fun p e s m below meth c ls X hr hlk hnm hK h hA hl => ?_)
  obtain ⟨hx, hb, hml, hown, ht⟩ := id X
  have hl : lv_has ls 5 [(0, .ref h0), (1, .int p0), (2, .int p1), (3, .int p2)] := hl
  refine lv_aload_n hx hb dX12_numbers_0 rfl (lv_at hl 0 rfl) ?_
  refine lv_iconst (v := 0) hx hb dX12_numbers_1 (by decide) ?_
  refine q_put (v := .int 0) X hK h 0 rfl rfl wf_12 tyX12 tyX12_ok nmX12 0 (by decide) wm_5_170 rfl rfl rfl (Nat.le_of_ble_eq_true rfl) dX12_numbers_2 (fun H locs h => ?_)
  have h : qW D _ _ [(h0, .inr (12, [.int 0, .ref h1, .ref h2, .ref h3, .ref h4, .int 0, .int 0, .int 0, .int 0, .int 0, .int 0, .int 0, .int 0, .int 0, .int (-1), .int 0, .ref h5, .ref h6, .ref h7, .ref h8, .ref h9, .int 0, .int 0, .ref h10, .ref h11, .ref h12, .int 0, .int 0, .ref h13, .ref h14, .ref h15, .ref h16, .ref h17, .int 0, .ref h18, .ref h19, .ref h20]))] _ _ := h
  refine lv_iload_n hx hb dX12_numbers_5 rfl (lv_at hl 1 rfl) ?_
  refine lv_i2l hx hb dX12_numbers_6 rfl ?_
  refine lv_lconst (v := 0) hx hb dX12_numbers_7 (by decide) ?_
  refine lv_ldc2 hx hb hown (ht _ wm_7_29) dX12_numbers_8 ?_
  have g_11177 : (4 : Int64) ≤ ((p0).toInt64) := by
    simp only [q_lc_lt, q_lc_ge, q_lc_gt, q_lc_le, q_lc_eq, Int32.toInt_toInt64, Int64.lt_iff_toInt_lt, Int64.le_iff_toInt_le, ← Int64.toInt_inj, Int32.lt_iff_toInt_lt, Int32.le_iff_toInt_le, ← Int32.toInt_inj] at hlo_p0 ⊢
    have k_0 : (4 : Int32).toInt = 4 := by decide
    have k_g : (4 : Int64).toInt = 4 := by decide
    omega
  refine q_callSi (rest := []) (wr := [(h0, .inr (12, [.int 0, .ref h1, .ref h2, .ref h3, .ref h4, .int 0, .int 0, .int 0, .int 0, .int 0, .int 0, .int 0, .int 0, .int 0, .int (-1), .int 0, .ref h5, .ref h6, .ref h7, .ref h8, .ref h9, .int 0, .int 0, .ref h10, .ref h11, .ref h12, .int 0, .int 0, .ref h13, .ref h14, .ref h15, .ref h16, .ref h17, .int 0, .ref h18, .ref h19, .ref h20]))]) X hK hA h (fun sz => kX12_within_500 l D cy ((p0).toInt64) g_11177 sz) wm_6_50 wm_6_52 wm_1_12 hd_X12_within wm_6_51 ⟨Nat.le_of_ble_eq_true rfl, Nat.le_of_ble_eq_true rfl⟩ hl.1 rfl (Nat.le_of_ble_eq_true rfl) dX12_numbers_11 ⟨Nat.le_of_ble_eq_true rfl, Nat.le_of_ble_eq_true rfl⟩ [] [0] rfl rfl (by decide) rfl rfl (fun r_11178 u_11178 H locs w_11178 h => ?_)
  obtain rfl : r_11178 = 0 := w_11178
  have h : qW D _ _ [(h0, .inr (12, [.int 0, .ref h1, .ref h2, .ref h3, .ref h4, .int 0, .int 0, .int 0, .int 0, .int 0, .int 0, .int 0, .int 0, .int 0, .int (-1), .int 0, .ref h5, .ref h6, .ref h7, .ref h8, .ref h9, .int 0, .int 0, .ref h10, .ref h11, .ref h12, .int 0, .int 0, .ref h13, .ref h14, .ref h15, .ref h16, .ref h17, .int 0, .ref h18, .ref h19, .ref h20]))] _ _ := h
  refine lv_if_eq (tgt := 29) hx hb dX12_numbers_14 (by decide) (fun _ => ?_) (fun c => absurd c (by decide +kernel))
  refine lv_bipush (v := (-2)) hx hb dX12_numbers_29 (by decide) ?_
  exact q_iret X hr hlk hK h rfl (fun _ => 0, fun _ _ => 0, fun _ _ => 0) rfl [0] rfl rfl dX12_numbers_31 (Nat.le_of_ble_eq_true rfl) (Nat.le_of_ble_eq_true rfl)
set_option maxHeartbeats 4000000 in
set_option maxRecDepth 100000 in
theorem kX12_numbers_743 (l : Launch) (D : va_G) (cy : Nat → ClassId) (h0 : Nat) (p0 : Int32) (p1 : Int32) (p2 : Int32) (h1 : Nat) (h2 : Nat) (h3 : Nat) (h4 : Nat) (h5 : Nat) (h6 : Nat) (h7 : Nat) (h8 : Nat) (h9 : Nat) (h10 : Nat) (h11 : Nat) (h12 : Nat) (h13 : Nat) (h14 : Nat) (h15 : Nat) (h16 : Nat) (h17 : Nat) (h18 : Nat) (h19 : Nat) (h20 : Nat) (hlo_p0 : (4 : Int32) ≤ p0) (hlo_p1 : (4 : Int32) ≤ p1) (hlo_p2 : (41 : Int32) ≤ p2) (sz : Nat) : MI l yX12_numbers cX12_numbers 5 .int { frames := 1, cells := 0, slots := 0, locals := 25 } [.ref h0, .int p0, .int p1, .int p2] D cy [(h0, .inr (12, [.int 0, .ref h1, .ref h2, .ref h3, .ref h4, .int 0, .int 0, .int 0, .int 0, .int 0, .int 0, .int 0, .int 0, .int 0, .int (-1), .int 0, .ref h5, .ref h6, .ref h7, .ref h8, .ref h9, .int 0, .int 0, .ref h10, .ref h11, .ref h12, .int 0, .int 0, .ref h13, .ref h14, .ref h15, .ref h16, .ref h17, .int 0, .ref h18, .ref h19, .ref h20]))] sz (fun r u => r = (-2)) (fun u => [(h0, .inr (12, [.int 0, .ref h1, .ref h2, .ref h3, .ref h4, .int 0, .int 0, .int 0, .int 0, .int 0, .int 0, .int 0, .int 0, .int 0, .int (-1), .int 0, .ref h5, .ref h6, .ref h7, .ref h8, .ref h9, .int 0, .int 0, .ref h10, .ref h11, .ref h12, .int 0, .int 0, .ref h13, .ref h14, .ref h15, .ref h16, .ref h17, .int 0, .ref h18, .ref h19, .ref h20]))]) 0 0 := by
  refine q_ent (own := RX12) (by decide) rfl (Nat.le_of_ble_eq_true rfl) (fun p e s m below meth c ls X hr hlk hnm hK h hA hl => ?_)
  obtain ⟨hx, hb, hml, hown, ht⟩ := id X
  have hl : lv_has ls 5 [(0, .ref h0), (1, .int p0), (2, .int p1), (3, .int p2)] := hl
  refine lv_aload_n hx hb dX12_numbers_0 rfl (lv_at hl 0 rfl) ?_
  refine lv_iconst (v := 0) hx hb dX12_numbers_1 (by decide) ?_
  refine q_put (v := .int 0) X hK h 0 rfl rfl wf_12 tyX12 tyX12_ok nmX12 0 (by decide) wm_5_170 rfl rfl rfl (Nat.le_of_ble_eq_true rfl) dX12_numbers_2 (fun H locs h => ?_)
  have h : qW D _ _ [(h0, .inr (12, [.int 0, .ref h1, .ref h2, .ref h3, .ref h4, .int 0, .int 0, .int 0, .int 0, .int 0, .int 0, .int 0, .int 0, .int 0, .int (-1), .int 0, .ref h5, .ref h6, .ref h7, .ref h8, .ref h9, .int 0, .int 0, .ref h10, .ref h11, .ref h12, .int 0, .int 0, .ref h13, .ref h14, .ref h15, .ref h16, .ref h17, .int 0, .ref h18, .ref h19, .ref h20]))] _ _ := h
  refine lv_iload_n hx hb dX12_numbers_5 rfl (lv_at hl 1 rfl) ?_
  refine lv_i2l hx hb dX12_numbers_6 rfl ?_
  refine lv_lconst (v := 0) hx hb dX12_numbers_7 (by decide) ?_
  refine lv_ldc2 hx hb hown (ht _ wm_7_29) dX12_numbers_8 ?_
  have g_11189 : (4 : Int64) ≤ ((p0).toInt64) := by
    simp only [q_lc_lt, q_lc_ge, q_lc_gt, q_lc_le, q_lc_eq, Int32.toInt_toInt64, Int64.lt_iff_toInt_lt, Int64.le_iff_toInt_le, ← Int64.toInt_inj, Int32.lt_iff_toInt_lt, Int32.le_iff_toInt_le, ← Int32.toInt_inj] at hlo_p0 ⊢
    have k_0 : (4 : Int32).toInt = 4 := by decide
    have k_g : (4 : Int64).toInt = 4 := by decide
    omega
  refine q_callSi (rest := []) (wr := [(h0, .inr (12, [.int 0, .ref h1, .ref h2, .ref h3, .ref h4, .int 0, .int 0, .int 0, .int 0, .int 0, .int 0, .int 0, .int 0, .int 0, .int (-1), .int 0, .ref h5, .ref h6, .ref h7, .ref h8, .ref h9, .int 0, .int 0, .ref h10, .ref h11, .ref h12, .int 0, .int 0, .ref h13, .ref h14, .ref h15, .ref h16, .ref h17, .int 0, .ref h18, .ref h19, .ref h20]))]) X hK hA h (fun sz => kX12_within_500 l D cy ((p0).toInt64) g_11189 sz) wm_6_50 wm_6_52 wm_1_12 hd_X12_within wm_6_51 ⟨Nat.le_of_ble_eq_true rfl, Nat.le_of_ble_eq_true rfl⟩ hl.1 rfl (Nat.le_of_ble_eq_true rfl) dX12_numbers_11 ⟨Nat.le_of_ble_eq_true rfl, Nat.le_of_ble_eq_true rfl⟩ [] [0] rfl rfl (by decide) rfl rfl (fun r_11190 u_11190 H locs w_11190 h => ?_)
  obtain rfl : r_11190 = 0 := w_11190
  have h : qW D _ _ [(h0, .inr (12, [.int 0, .ref h1, .ref h2, .ref h3, .ref h4, .int 0, .int 0, .int 0, .int 0, .int 0, .int 0, .int 0, .int 0, .int 0, .int (-1), .int 0, .ref h5, .ref h6, .ref h7, .ref h8, .ref h9, .int 0, .int 0, .ref h10, .ref h11, .ref h12, .int 0, .int 0, .ref h13, .ref h14, .ref h15, .ref h16, .ref h17, .int 0, .ref h18, .ref h19, .ref h20]))] _ _ := h
  refine lv_if_eq (tgt := 29) hx hb dX12_numbers_14 (by decide) (fun _ => ?_) (fun c => absurd c (by decide +kernel))
  refine lv_bipush (v := (-2)) hx hb dX12_numbers_29 (by decide) ?_
  exact q_iret X hr hlk hK h rfl (fun _ => 0, fun _ _ => 0, fun _ _ => 0) rfl [0] rfl rfl dX12_numbers_31 (Nat.le_of_ble_eq_true rfl) (Nat.le_of_ble_eq_true rfl)
set_option maxHeartbeats 4000000 in
set_option maxRecDepth 100000 in
theorem kX12_write_744 (l : Launch) (D : va_G) (cy : Nat → ClassId) (h0 : Nat) (p0 : Int32) (p1 : Int32) (j0 : Int64) (h1 : Nat) (h2 : Nat) (h3 : Nat) (h4 : Nat) (h5 : Nat) (h6 : Nat) (h7 : Nat) (h8 : Nat) (h9 : Nat) (h10 : Nat) (h11 : Nat) (h12 : Nat) (h13 : Nat) (h14 : Nat) (h15 : Nat) (h16 : Nat) (h17 : Nat) (h18 : Nat) (h19 : Nat) (h20 : Nat) (hhi_p0 : p0 ≤ ((-1) : Int32)) (sz : Nat) : ML l yX12_write cX12_write 6 { frames := 2, cells := 0, slots := 0, locals := 46 } [.ref h0, .int p0, .int p1, .long j0] D cy [(h0, .inr (12, [.int 0, .ref h1, .ref h2, .ref h3, .ref h4, .int 0, .int 0, .int 0, .int 0, .int 0, .int 0, .int 0, .int 0, .int 0, .int (-1), .int 0, .ref h5, .ref h6, .ref h7, .ref h8, .ref h9, .int 0, .int 0, .ref h10, .ref h11, .ref h12, .int 0, .int 0, .ref h13, .ref h14, .ref h15, .ref h16, .ref h17, .int 0, .ref h18, .ref h19, .ref h20]))] sz (fun r u => r = (-2)) (fun u => [(h0, .inr (12, [.int 0, .ref h1, .ref h2, .ref h3, .ref h4, .int 0, .int 0, .int 0, .int 0, .int 0, .int 0, .int 0, .int 0, .int 0, .int (-1), .int 0, .ref h5, .ref h6, .ref h7, .ref h8, .ref h9, .int 0, .int 0, .ref h10, .ref h11, .ref h12, .int 0, .int 0, .ref h13, .ref h14, .ref h15, .ref h16, .ref h17, .int 0, .ref h18, .ref h19, .ref h20]))]) 0 0 := by
  refine q_ent (own := RX12) (by decide) rfl (Nat.le_of_ble_eq_true rfl) (fun p e s m below meth c ls X hr hlk hnm hK h hA hl => ?_)
  obtain ⟨hx, hb, hml, hown, ht⟩ := id X
  have hl : lv_has ls 6 [(0, .ref h0), (1, .int p0), (2, .int p1), (3, .long j0)] := hl
  refine lv_aload_n hx hb dX12_write_0 rfl (lv_at hl 0 rfl) ?_
  refine lv_iconst (v := 0) hx hb dX12_write_1 (by decide) ?_
  refine q_put (v := .int 0) X hK h 0 rfl rfl wf_12 tyX12 tyX12_ok nmX12 0 (by decide) wm_5_170 rfl rfl rfl (Nat.le_of_ble_eq_true rfl) dX12_write_2 (fun H locs h => ?_)
  have h : qW D _ _ [(h0, .inr (12, [.int 0, .ref h1, .ref h2, .ref h3, .ref h4, .int 0, .int 0, .int 0, .int 0, .int 0, .int 0, .int 0, .int 0, .int 0, .int (-1), .int 0, .ref h5, .ref h6, .ref h7, .ref h8, .ref h9, .int 0, .int 0, .ref h10, .ref h11, .ref h12, .int 0, .int 0, .ref h13, .ref h14, .ref h15, .ref h16, .ref h17, .int 0, .ref h18, .ref h19, .ref h20]))] _ _ := h
  refine lv_aload_n hx hb dX12_write_5 rfl (lv_at hl 0 rfl) ?_
  refine lv_iload_n hx hb dX12_write_6 rfl (lv_at hl 1 rfl) ?_
  have g_11204 : p0 ≤ ((-1) : Int32) := by
    simp only [Int32.lt_iff_toInt_lt, Int32.le_iff_toInt_le, ← Int32.toInt_inj] at hhi_p0 ⊢
    have k_0 : ((-1) : Int32).toInt = -1 := by decide
    omega
  refine q_callVi (rest := []) (wr := []) X hK hA h (fun sz => kX12_noTray_498 l D cy h0 p0 h1 h2 h3 h4 h5 h6 h7 h8 h9 h10 h11 h12 h13 h14 h15 h16 h17 h18 h19 h20 g_11204 sz) wm_7_30 wm_7_33 wm_1_12 hd_X12_noTray wm_7_32 wp_6_6 (ci := 12) (q0 := 0) rfl rfl ⟨Nat.le_of_ble_eq_true rfl, Nat.le_of_ble_eq_true rfl⟩ hl.1 rfl (Nat.le_of_ble_eq_true rfl) dX12_write_7 ⟨Nat.le_of_ble_eq_true rfl, Nat.le_of_ble_eq_true rfl⟩ [0] [] rfl rfl (by decide) rfl rfl (fun r_11205 u_11205 H locs w_11205 h => ?_)
  obtain rfl : r_11205 = (-2) := w_11205
  have h : qW D _ _ [(h0, .inr (12, [.int 0, .ref h1, .ref h2, .ref h3, .ref h4, .int 0, .int 0, .int 0, .int 0, .int 0, .int 0, .int 0, .int 0, .int 0, .int (-1), .int 0, .ref h5, .ref h6, .ref h7, .ref h8, .ref h9, .int 0, .int 0, .ref h10, .ref h11, .ref h12, .int 0, .int 0, .ref h13, .ref h14, .ref h15, .ref h16, .ref h17, .int 0, .ref h18, .ref h19, .ref h20]))] _ _ := h
  refine lv_istore (lv' := [(5, .int (-2)), (0, .ref h0), (1, .int p0), (2, .int p1), (3, .long j0)]) hx hb dX12_write_10 hl (by decide) rfl (fun ls hl => ?_)
  refine lv_iload hx hb dX12_write_12 (lv_at hl 0 rfl) ?_
  refine lv_if_eq (tgt := 21) hx hb dX12_write_14 (by decide) (fun c => absurd c (by decide +kernel)) (fun _ => ?_)
  refine lv_iload hx hb dX12_write_17 (lv_at hl 0 rfl) ?_
  refine lv_i2l (v := (-2)) hx hb dX12_write_19 (by decide +kernel) ?_
  exact q_lret X hr hlk hK h (fun _ => 0, fun _ _ => 0, fun _ _ => 0) rfl [0] rfl rfl dX12_write_20 (Nat.le_of_ble_eq_true rfl) (Nat.le_of_ble_eq_true rfl)
set_option maxHeartbeats 4000000 in
set_option maxRecDepth 100000 in
theorem kX12_write_745 (l : Launch) (D : va_G) (cy : Nat → ClassId) (h0 : Nat) (h1 : Nat) (p0 : Int32) (j0 : Int64) (h2 : Nat) (h3 : Nat) (h4 : Nat) (h5 : Nat) (h6 : Nat) (h7 : Nat) (h8 : Nat) (h9 : Nat) (h10 : Nat) (h11 : Nat) (h12 : Nat) (h13 : Nat) (h14 : Nat) (h15 : Nat) (h16 : Nat) (h17 : Nat) (h18 : Nat) (h19 : Nat) (h20 : Nat) (f0 : Nat → Int32) (hf_f0_0 : f0 (Int32.toNatClampNeg 0) = (-1)) (sz : Nat) : ML l yX12_write cX12_write 6 { frames := 2, cells := 0, slots := 0, locals := 46 } [.ref h0, .int 0, .int p0, .long j0] D cy [(h0, .inr (12, [.int 0, .ref h2, .ref h3, .ref h4, .ref h5, .int 0, .int 0, .int 0, .int 0, .int 0, .int 0, .int 0, .int 0, .int 0, .int (-1), .int 0, .ref h6, .ref h7, .ref h8, .ref h9, .ref h10, .int 0, .int 0, .ref h11, .ref h12, .ref h13, .int 0, .int 0, .ref h14, .ref h15, .ref h16, .ref h17, .ref h18, .int 0, .ref h1, .ref h19, .ref h20])), (h1, .inl (cy 1, 4, .inl f0))] sz (fun r u => r = (-6)) (fun u => [(h0, .inr (12, [.int 0, .ref h2, .ref h3, .ref h4, .ref h5, .int 0, .int 0, .int 0, .int 0, .int 0, .int 0, .int 0, .int 0, .int 0, .int (-1), .int 0, .ref h6, .ref h7, .ref h8, .ref h9, .ref h10, .int 0, .int 0, .ref h11, .ref h12, .ref h13, .int 0, .int 0, .ref h14, .ref h15, .ref h16, .ref h17, .ref h18, .int 0, .ref h1, .ref h19, .ref h20])), (h1, .inl (cy 1, 4, .inl f0))]) 0 0 := by
  refine q_ent (own := RX12) (by decide) rfl (Nat.le_of_ble_eq_true rfl) (fun p e s m below meth c ls X hr hlk hnm hK h hA hl => ?_)
  obtain ⟨hx, hb, hml, hown, ht⟩ := id X
  have hl : lv_has ls 6 [(0, .ref h0), (1, .int 0), (2, .int p0), (3, .long j0)] := hl
  refine lv_aload_n hx hb dX12_write_0 rfl (lv_at hl 0 rfl) ?_
  refine lv_iconst (v := 0) hx hb dX12_write_1 (by decide) ?_
  refine q_put (v := .int 0) X hK h 0 rfl rfl wf_12 tyX12 tyX12_ok nmX12 0 (by decide) wm_5_170 rfl rfl rfl (Nat.le_of_ble_eq_true rfl) dX12_write_2 (fun H locs h => ?_)
  have h : qW D _ _ [(h0, .inr (12, [.int 0, .ref h2, .ref h3, .ref h4, .ref h5, .int 0, .int 0, .int 0, .int 0, .int 0, .int 0, .int 0, .int 0, .int 0, .int (-1), .int 0, .ref h6, .ref h7, .ref h8, .ref h9, .ref h10, .int 0, .int 0, .ref h11, .ref h12, .ref h13, .int 0, .int 0, .ref h14, .ref h15, .ref h16, .ref h17, .ref h18, .int 0, .ref h1, .ref h19, .ref h20])), (h1, .inl (cy 1, 4, .inl f0))] _ _ := h
  refine lv_aload_n hx hb dX12_write_5 rfl (lv_at hl 0 rfl) ?_
  refine lv_iload_n hx hb dX12_write_6 rfl (lv_at hl 1 rfl) ?_
  refine q_callVi (rest := []) (wr := []) X hK hA h (fun sz => kX12_noTray_505 l D cy h0 h1 h2 h3 h4 h5 h6 h7 h8 h9 h10 h11 h12 h13 h14 h15 h16 h17 h18 h19 h20 f0 hf_f0_0 sz) wm_7_30 wm_7_33 wm_1_12 hd_X12_noTray wm_7_32 wp_6_6 (ci := 12) (q0 := 0) rfl rfl ⟨Nat.le_of_ble_eq_true rfl, Nat.le_of_ble_eq_true rfl⟩ hl.1 rfl (Nat.le_of_ble_eq_true rfl) dX12_write_7 ⟨Nat.le_of_ble_eq_true rfl, Nat.le_of_ble_eq_true rfl⟩ [0, 1] [] rfl rfl (by decide) rfl rfl (fun r_11211 u_11211 H locs w_11211 h => ?_)
  obtain rfl : r_11211 = (-6) := w_11211
  have h : qW D _ _ [(h0, .inr (12, [.int 0, .ref h2, .ref h3, .ref h4, .ref h5, .int 0, .int 0, .int 0, .int 0, .int 0, .int 0, .int 0, .int 0, .int 0, .int (-1), .int 0, .ref h6, .ref h7, .ref h8, .ref h9, .ref h10, .int 0, .int 0, .ref h11, .ref h12, .ref h13, .int 0, .int 0, .ref h14, .ref h15, .ref h16, .ref h17, .ref h18, .int 0, .ref h1, .ref h19, .ref h20])), (h1, .inl (cy 1, 4, .inl f0))] _ _ := h
  refine lv_istore (lv' := [(5, .int (-6)), (0, .ref h0), (1, .int 0), (2, .int p0), (3, .long j0)]) hx hb dX12_write_10 hl (by decide) rfl (fun ls hl => ?_)
  refine lv_iload hx hb dX12_write_12 (lv_at hl 0 rfl) ?_
  refine lv_if_eq (tgt := 21) hx hb dX12_write_14 (by decide) (fun c => absurd c (by decide +kernel)) (fun _ => ?_)
  refine lv_iload hx hb dX12_write_17 (lv_at hl 0 rfl) ?_
  refine lv_i2l (v := (-6)) hx hb dX12_write_19 (by decide +kernel) ?_
  exact q_lret X hr hlk hK h (fun _ => 0, fun _ _ => 0, fun _ _ => 0) rfl [0, 1] rfl rfl dX12_write_20 (Nat.le_of_ble_eq_true rfl) (Nat.le_of_ble_eq_true rfl)
set_option maxHeartbeats 4000000 in
set_option maxRecDepth 100000 in
theorem kX12_write_746 (l : Launch) (D : va_G) (cy : Nat → ClassId) (h0 : Nat) (h1 : Nat) (p0 : Int32) (j0 : Int64) (h2 : Nat) (h3 : Nat) (h4 : Nat) (h5 : Nat) (h6 : Nat) (h7 : Nat) (h8 : Nat) (h9 : Nat) (h10 : Nat) (h11 : Nat) (h12 : Nat) (h13 : Nat) (h14 : Nat) (h15 : Nat) (h16 : Nat) (h17 : Nat) (h18 : Nat) (h19 : Nat) (h20 : Nat) (f0 : Nat → Int32) (hf_f0_1 : f0 (Int32.toNatClampNeg 1) = (-1)) (sz : Nat) : ML l yX12_write cX12_write 6 { frames := 2, cells := 0, slots := 0, locals := 46 } [.ref h0, .int 1, .int p0, .long j0] D cy [(h0, .inr (12, [.int 0, .ref h2, .ref h3, .ref h4, .ref h5, .int 0, .int 0, .int 0, .int 0, .int 0, .int 0, .int 0, .int 0, .int 0, .int (-1), .int 0, .ref h6, .ref h7, .ref h8, .ref h9, .ref h10, .int 0, .int 0, .ref h11, .ref h12, .ref h13, .int 0, .int 0, .ref h14, .ref h15, .ref h16, .ref h17, .ref h18, .int 0, .ref h1, .ref h19, .ref h20])), (h1, .inl (cy 1, 4, .inl f0))] sz (fun r u => r = (-6)) (fun u => [(h0, .inr (12, [.int 0, .ref h2, .ref h3, .ref h4, .ref h5, .int 0, .int 0, .int 0, .int 0, .int 0, .int 0, .int 0, .int 0, .int 0, .int (-1), .int 0, .ref h6, .ref h7, .ref h8, .ref h9, .ref h10, .int 0, .int 0, .ref h11, .ref h12, .ref h13, .int 0, .int 0, .ref h14, .ref h15, .ref h16, .ref h17, .ref h18, .int 0, .ref h1, .ref h19, .ref h20])), (h1, .inl (cy 1, 4, .inl f0))]) 0 0 := by
  refine q_ent (own := RX12) (by decide) rfl (Nat.le_of_ble_eq_true rfl) (fun p e s m below meth c ls X hr hlk hnm hK h hA hl => ?_)
  obtain ⟨hx, hb, hml, hown, ht⟩ := id X
  have hl : lv_has ls 6 [(0, .ref h0), (1, .int 1), (2, .int p0), (3, .long j0)] := hl
  refine lv_aload_n hx hb dX12_write_0 rfl (lv_at hl 0 rfl) ?_
  refine lv_iconst (v := 0) hx hb dX12_write_1 (by decide) ?_
  refine q_put (v := .int 0) X hK h 0 rfl rfl wf_12 tyX12 tyX12_ok nmX12 0 (by decide) wm_5_170 rfl rfl rfl (Nat.le_of_ble_eq_true rfl) dX12_write_2 (fun H locs h => ?_)
  have h : qW D _ _ [(h0, .inr (12, [.int 0, .ref h2, .ref h3, .ref h4, .ref h5, .int 0, .int 0, .int 0, .int 0, .int 0, .int 0, .int 0, .int 0, .int 0, .int (-1), .int 0, .ref h6, .ref h7, .ref h8, .ref h9, .ref h10, .int 0, .int 0, .ref h11, .ref h12, .ref h13, .int 0, .int 0, .ref h14, .ref h15, .ref h16, .ref h17, .ref h18, .int 0, .ref h1, .ref h19, .ref h20])), (h1, .inl (cy 1, 4, .inl f0))] _ _ := h
  refine lv_aload_n hx hb dX12_write_5 rfl (lv_at hl 0 rfl) ?_
  refine lv_iload_n hx hb dX12_write_6 rfl (lv_at hl 1 rfl) ?_
  refine q_callVi (rest := []) (wr := []) X hK hA h (fun sz => kX12_noTray_511 l D cy h0 h1 h2 h3 h4 h5 h6 h7 h8 h9 h10 h11 h12 h13 h14 h15 h16 h17 h18 h19 h20 f0 hf_f0_1 sz) wm_7_30 wm_7_33 wm_1_12 hd_X12_noTray wm_7_32 wp_6_6 (ci := 12) (q0 := 0) rfl rfl ⟨Nat.le_of_ble_eq_true rfl, Nat.le_of_ble_eq_true rfl⟩ hl.1 rfl (Nat.le_of_ble_eq_true rfl) dX12_write_7 ⟨Nat.le_of_ble_eq_true rfl, Nat.le_of_ble_eq_true rfl⟩ [0, 1] [] rfl rfl (by decide) rfl rfl (fun r_11217 u_11217 H locs w_11217 h => ?_)
  obtain rfl : r_11217 = (-6) := w_11217
  have h : qW D _ _ [(h0, .inr (12, [.int 0, .ref h2, .ref h3, .ref h4, .ref h5, .int 0, .int 0, .int 0, .int 0, .int 0, .int 0, .int 0, .int 0, .int 0, .int (-1), .int 0, .ref h6, .ref h7, .ref h8, .ref h9, .ref h10, .int 0, .int 0, .ref h11, .ref h12, .ref h13, .int 0, .int 0, .ref h14, .ref h15, .ref h16, .ref h17, .ref h18, .int 0, .ref h1, .ref h19, .ref h20])), (h1, .inl (cy 1, 4, .inl f0))] _ _ := h
  refine lv_istore (lv' := [(5, .int (-6)), (0, .ref h0), (1, .int 1), (2, .int p0), (3, .long j0)]) hx hb dX12_write_10 hl (by decide) rfl (fun ls hl => ?_)
  refine lv_iload hx hb dX12_write_12 (lv_at hl 0 rfl) ?_
  refine lv_if_eq (tgt := 21) hx hb dX12_write_14 (by decide) (fun c => absurd c (by decide +kernel)) (fun _ => ?_)
  refine lv_iload hx hb dX12_write_17 (lv_at hl 0 rfl) ?_
  refine lv_i2l (v := (-6)) hx hb dX12_write_19 (by decide +kernel) ?_
  exact q_lret X hr hlk hK h (fun _ => 0, fun _ _ => 0, fun _ _ => 0) rfl [0, 1] rfl rfl dX12_write_20 (Nat.le_of_ble_eq_true rfl) (Nat.le_of_ble_eq_true rfl)
set_option maxHeartbeats 4000000 in
set_option maxRecDepth 100000 in
theorem kX12_write_747 (l : Launch) (D : va_G) (cy : Nat → ClassId) (h0 : Nat) (h1 : Nat) (p0 : Int32) (j0 : Int64) (h2 : Nat) (h3 : Nat) (h4 : Nat) (h5 : Nat) (h6 : Nat) (h7 : Nat) (h8 : Nat) (h9 : Nat) (h10 : Nat) (h11 : Nat) (h12 : Nat) (h13 : Nat) (h14 : Nat) (h15 : Nat) (h16 : Nat) (h17 : Nat) (h18 : Nat) (h19 : Nat) (h20 : Nat) (f0 : Nat → Int32) (hf_f0_2 : f0 (Int32.toNatClampNeg 2) = (-1)) (sz : Nat) : ML l yX12_write cX12_write 6 { frames := 2, cells := 0, slots := 0, locals := 46 } [.ref h0, .int 2, .int p0, .long j0] D cy [(h0, .inr (12, [.int 0, .ref h2, .ref h3, .ref h4, .ref h5, .int 0, .int 0, .int 0, .int 0, .int 0, .int 0, .int 0, .int 0, .int 0, .int (-1), .int 0, .ref h6, .ref h7, .ref h8, .ref h9, .ref h10, .int 0, .int 0, .ref h11, .ref h12, .ref h13, .int 0, .int 0, .ref h14, .ref h15, .ref h16, .ref h17, .ref h18, .int 0, .ref h1, .ref h19, .ref h20])), (h1, .inl (cy 1, 4, .inl f0))] sz (fun r u => r = (-6)) (fun u => [(h0, .inr (12, [.int 0, .ref h2, .ref h3, .ref h4, .ref h5, .int 0, .int 0, .int 0, .int 0, .int 0, .int 0, .int 0, .int 0, .int 0, .int (-1), .int 0, .ref h6, .ref h7, .ref h8, .ref h9, .ref h10, .int 0, .int 0, .ref h11, .ref h12, .ref h13, .int 0, .int 0, .ref h14, .ref h15, .ref h16, .ref h17, .ref h18, .int 0, .ref h1, .ref h19, .ref h20])), (h1, .inl (cy 1, 4, .inl f0))]) 0 0 := by
  refine q_ent (own := RX12) (by decide) rfl (Nat.le_of_ble_eq_true rfl) (fun p e s m below meth c ls X hr hlk hnm hK h hA hl => ?_)
  obtain ⟨hx, hb, hml, hown, ht⟩ := id X
  have hl : lv_has ls 6 [(0, .ref h0), (1, .int 2), (2, .int p0), (3, .long j0)] := hl
  refine lv_aload_n hx hb dX12_write_0 rfl (lv_at hl 0 rfl) ?_
  refine lv_iconst (v := 0) hx hb dX12_write_1 (by decide) ?_
  refine q_put (v := .int 0) X hK h 0 rfl rfl wf_12 tyX12 tyX12_ok nmX12 0 (by decide) wm_5_170 rfl rfl rfl (Nat.le_of_ble_eq_true rfl) dX12_write_2 (fun H locs h => ?_)
  have h : qW D _ _ [(h0, .inr (12, [.int 0, .ref h2, .ref h3, .ref h4, .ref h5, .int 0, .int 0, .int 0, .int 0, .int 0, .int 0, .int 0, .int 0, .int 0, .int (-1), .int 0, .ref h6, .ref h7, .ref h8, .ref h9, .ref h10, .int 0, .int 0, .ref h11, .ref h12, .ref h13, .int 0, .int 0, .ref h14, .ref h15, .ref h16, .ref h17, .ref h18, .int 0, .ref h1, .ref h19, .ref h20])), (h1, .inl (cy 1, 4, .inl f0))] _ _ := h
  refine lv_aload_n hx hb dX12_write_5 rfl (lv_at hl 0 rfl) ?_
  refine lv_iload_n hx hb dX12_write_6 rfl (lv_at hl 1 rfl) ?_
  refine q_callVi (rest := []) (wr := []) X hK hA h (fun sz => kX12_noTray_517 l D cy h0 h1 h2 h3 h4 h5 h6 h7 h8 h9 h10 h11 h12 h13 h14 h15 h16 h17 h18 h19 h20 f0 hf_f0_2 sz) wm_7_30 wm_7_33 wm_1_12 hd_X12_noTray wm_7_32 wp_6_6 (ci := 12) (q0 := 0) rfl rfl ⟨Nat.le_of_ble_eq_true rfl, Nat.le_of_ble_eq_true rfl⟩ hl.1 rfl (Nat.le_of_ble_eq_true rfl) dX12_write_7 ⟨Nat.le_of_ble_eq_true rfl, Nat.le_of_ble_eq_true rfl⟩ [0, 1] [] rfl rfl (by decide) rfl rfl (fun r_11223 u_11223 H locs w_11223 h => ?_)
  obtain rfl : r_11223 = (-6) := w_11223
  have h : qW D _ _ [(h0, .inr (12, [.int 0, .ref h2, .ref h3, .ref h4, .ref h5, .int 0, .int 0, .int 0, .int 0, .int 0, .int 0, .int 0, .int 0, .int 0, .int (-1), .int 0, .ref h6, .ref h7, .ref h8, .ref h9, .ref h10, .int 0, .int 0, .ref h11, .ref h12, .ref h13, .int 0, .int 0, .ref h14, .ref h15, .ref h16, .ref h17, .ref h18, .int 0, .ref h1, .ref h19, .ref h20])), (h1, .inl (cy 1, 4, .inl f0))] _ _ := h
  refine lv_istore (lv' := [(5, .int (-6)), (0, .ref h0), (1, .int 2), (2, .int p0), (3, .long j0)]) hx hb dX12_write_10 hl (by decide) rfl (fun ls hl => ?_)
  refine lv_iload hx hb dX12_write_12 (lv_at hl 0 rfl) ?_
  refine lv_if_eq (tgt := 21) hx hb dX12_write_14 (by decide) (fun c => absurd c (by decide +kernel)) (fun _ => ?_)
  refine lv_iload hx hb dX12_write_17 (lv_at hl 0 rfl) ?_
  refine lv_i2l (v := (-6)) hx hb dX12_write_19 (by decide +kernel) ?_
  exact q_lret X hr hlk hK h (fun _ => 0, fun _ _ => 0, fun _ _ => 0) rfl [0, 1] rfl rfl dX12_write_20 (Nat.le_of_ble_eq_true rfl) (Nat.le_of_ble_eq_true rfl)
set_option maxHeartbeats 4000000 in
set_option maxRecDepth 100000 in
theorem kX12_write_748 (l : Launch) (D : va_G) (cy : Nat → ClassId) (h0 : Nat) (h1 : Nat) (p0 : Int32) (j0 : Int64) (h2 : Nat) (h3 : Nat) (h4 : Nat) (h5 : Nat) (h6 : Nat) (h7 : Nat) (h8 : Nat) (h9 : Nat) (h10 : Nat) (h11 : Nat) (h12 : Nat) (h13 : Nat) (h14 : Nat) (h15 : Nat) (h16 : Nat) (h17 : Nat) (h18 : Nat) (h19 : Nat) (h20 : Nat) (f0 : Nat → Int32) (hf_f0_3 : f0 (Int32.toNatClampNeg 3) = (-1)) (sz : Nat) : ML l yX12_write cX12_write 6 { frames := 2, cells := 0, slots := 0, locals := 46 } [.ref h0, .int 3, .int p0, .long j0] D cy [(h0, .inr (12, [.int 0, .ref h2, .ref h3, .ref h4, .ref h5, .int 0, .int 0, .int 0, .int 0, .int 0, .int 0, .int 0, .int 0, .int 0, .int (-1), .int 0, .ref h6, .ref h7, .ref h8, .ref h9, .ref h10, .int 0, .int 0, .ref h11, .ref h12, .ref h13, .int 0, .int 0, .ref h14, .ref h15, .ref h16, .ref h17, .ref h18, .int 0, .ref h1, .ref h19, .ref h20])), (h1, .inl (cy 1, 4, .inl f0))] sz (fun r u => r = (-6)) (fun u => [(h0, .inr (12, [.int 0, .ref h2, .ref h3, .ref h4, .ref h5, .int 0, .int 0, .int 0, .int 0, .int 0, .int 0, .int 0, .int 0, .int 0, .int (-1), .int 0, .ref h6, .ref h7, .ref h8, .ref h9, .ref h10, .int 0, .int 0, .ref h11, .ref h12, .ref h13, .int 0, .int 0, .ref h14, .ref h15, .ref h16, .ref h17, .ref h18, .int 0, .ref h1, .ref h19, .ref h20])), (h1, .inl (cy 1, 4, .inl f0))]) 0 0 := by
  refine q_ent (own := RX12) (by decide) rfl (Nat.le_of_ble_eq_true rfl) (fun p e s m below meth c ls X hr hlk hnm hK h hA hl => ?_)
  obtain ⟨hx, hb, hml, hown, ht⟩ := id X
  have hl : lv_has ls 6 [(0, .ref h0), (1, .int 3), (2, .int p0), (3, .long j0)] := hl
  refine lv_aload_n hx hb dX12_write_0 rfl (lv_at hl 0 rfl) ?_
  refine lv_iconst (v := 0) hx hb dX12_write_1 (by decide) ?_
  refine q_put (v := .int 0) X hK h 0 rfl rfl wf_12 tyX12 tyX12_ok nmX12 0 (by decide) wm_5_170 rfl rfl rfl (Nat.le_of_ble_eq_true rfl) dX12_write_2 (fun H locs h => ?_)
  have h : qW D _ _ [(h0, .inr (12, [.int 0, .ref h2, .ref h3, .ref h4, .ref h5, .int 0, .int 0, .int 0, .int 0, .int 0, .int 0, .int 0, .int 0, .int 0, .int (-1), .int 0, .ref h6, .ref h7, .ref h8, .ref h9, .ref h10, .int 0, .int 0, .ref h11, .ref h12, .ref h13, .int 0, .int 0, .ref h14, .ref h15, .ref h16, .ref h17, .ref h18, .int 0, .ref h1, .ref h19, .ref h20])), (h1, .inl (cy 1, 4, .inl f0))] _ _ := h
  refine lv_aload_n hx hb dX12_write_5 rfl (lv_at hl 0 rfl) ?_
  refine lv_iload_n hx hb dX12_write_6 rfl (lv_at hl 1 rfl) ?_
  refine q_callVi (rest := []) (wr := []) X hK hA h (fun sz => kX12_noTray_523 l D cy h0 h1 h2 h3 h4 h5 h6 h7 h8 h9 h10 h11 h12 h13 h14 h15 h16 h17 h18 h19 h20 f0 hf_f0_3 sz) wm_7_30 wm_7_33 wm_1_12 hd_X12_noTray wm_7_32 wp_6_6 (ci := 12) (q0 := 0) rfl rfl ⟨Nat.le_of_ble_eq_true rfl, Nat.le_of_ble_eq_true rfl⟩ hl.1 rfl (Nat.le_of_ble_eq_true rfl) dX12_write_7 ⟨Nat.le_of_ble_eq_true rfl, Nat.le_of_ble_eq_true rfl⟩ [0, 1] [] rfl rfl (by decide) rfl rfl (fun r_11229 u_11229 H locs w_11229 h => ?_)
  obtain rfl : r_11229 = (-6) := w_11229
  have h : qW D _ _ [(h0, .inr (12, [.int 0, .ref h2, .ref h3, .ref h4, .ref h5, .int 0, .int 0, .int 0, .int 0, .int 0, .int 0, .int 0, .int 0, .int 0, .int (-1), .int 0, .ref h6, .ref h7, .ref h8, .ref h9, .ref h10, .int 0, .int 0, .ref h11, .ref h12, .ref h13, .int 0, .int 0, .ref h14, .ref h15, .ref h16, .ref h17, .ref h18, .int 0, .ref h1, .ref h19, .ref h20])), (h1, .inl (cy 1, 4, .inl f0))] _ _ := h
  refine lv_istore (lv' := [(5, .int (-6)), (0, .ref h0), (1, .int 3), (2, .int p0), (3, .long j0)]) hx hb dX12_write_10 hl (by decide) rfl (fun ls hl => ?_)
  refine lv_iload hx hb dX12_write_12 (lv_at hl 0 rfl) ?_
  refine lv_if_eq (tgt := 21) hx hb dX12_write_14 (by decide) (fun c => absurd c (by decide +kernel)) (fun _ => ?_)
  refine lv_iload hx hb dX12_write_17 (lv_at hl 0 rfl) ?_
  refine lv_i2l (v := (-6)) hx hb dX12_write_19 (by decide +kernel) ?_
  exact q_lret X hr hlk hK h (fun _ => 0, fun _ _ => 0, fun _ _ => 0) rfl [0, 1] rfl rfl dX12_write_20 (Nat.le_of_ble_eq_true rfl) (Nat.le_of_ble_eq_true rfl)
set_option maxHeartbeats 4000000 in
set_option maxRecDepth 100000 in
theorem kX12_write_749 (l : Launch) (D : va_G) (cy : Nat → ClassId) (h0 : Nat) (p0 : Int32) (p1 : Int32) (j0 : Int64) (h1 : Nat) (h2 : Nat) (h3 : Nat) (h4 : Nat) (h5 : Nat) (h6 : Nat) (h7 : Nat) (h8 : Nat) (h9 : Nat) (h10 : Nat) (h11 : Nat) (h12 : Nat) (h13 : Nat) (h14 : Nat) (h15 : Nat) (h16 : Nat) (h17 : Nat) (h18 : Nat) (h19 : Nat) (h20 : Nat) (hlo_p0 : (4 : Int32) ≤ p0) (sz : Nat) : ML l yX12_write cX12_write 6 { frames := 2, cells := 0, slots := 0, locals := 46 } [.ref h0, .int p0, .int p1, .long j0] D cy [(h0, .inr (12, [.int 0, .ref h1, .ref h2, .ref h3, .ref h4, .int 0, .int 0, .int 0, .int 0, .int 0, .int 0, .int 0, .int 0, .int 0, .int (-1), .int 0, .ref h5, .ref h6, .ref h7, .ref h8, .ref h9, .int 0, .int 0, .ref h10, .ref h11, .ref h12, .int 0, .int 0, .ref h13, .ref h14, .ref h15, .ref h16, .ref h17, .int 0, .ref h18, .ref h19, .ref h20]))] sz (fun r u => r = (-2)) (fun u => [(h0, .inr (12, [.int 0, .ref h1, .ref h2, .ref h3, .ref h4, .int 0, .int 0, .int 0, .int 0, .int 0, .int 0, .int 0, .int 0, .int 0, .int (-1), .int 0, .ref h5, .ref h6, .ref h7, .ref h8, .ref h9, .int 0, .int 0, .ref h10, .ref h11, .ref h12, .int 0, .int 0, .ref h13, .ref h14, .ref h15, .ref h16, .ref h17, .int 0, .ref h18, .ref h19, .ref h20]))]) 0 0 := by
  refine q_ent (own := RX12) (by decide) rfl (Nat.le_of_ble_eq_true rfl) (fun p e s m below meth c ls X hr hlk hnm hK h hA hl => ?_)
  obtain ⟨hx, hb, hml, hown, ht⟩ := id X
  have hl : lv_has ls 6 [(0, .ref h0), (1, .int p0), (2, .int p1), (3, .long j0)] := hl
  refine lv_aload_n hx hb dX12_write_0 rfl (lv_at hl 0 rfl) ?_
  refine lv_iconst (v := 0) hx hb dX12_write_1 (by decide) ?_
  refine q_put (v := .int 0) X hK h 0 rfl rfl wf_12 tyX12 tyX12_ok nmX12 0 (by decide) wm_5_170 rfl rfl rfl (Nat.le_of_ble_eq_true rfl) dX12_write_2 (fun H locs h => ?_)
  have h : qW D _ _ [(h0, .inr (12, [.int 0, .ref h1, .ref h2, .ref h3, .ref h4, .int 0, .int 0, .int 0, .int 0, .int 0, .int 0, .int 0, .int 0, .int 0, .int (-1), .int 0, .ref h5, .ref h6, .ref h7, .ref h8, .ref h9, .int 0, .int 0, .ref h10, .ref h11, .ref h12, .int 0, .int 0, .ref h13, .ref h14, .ref h15, .ref h16, .ref h17, .int 0, .ref h18, .ref h19, .ref h20]))] _ _ := h
  refine lv_aload_n hx hb dX12_write_5 rfl (lv_at hl 0 rfl) ?_
  refine lv_iload_n hx hb dX12_write_6 rfl (lv_at hl 1 rfl) ?_
  have g_11246 : (4 : Int32) ≤ p0 := by
    simp only [Int32.lt_iff_toInt_lt, Int32.le_iff_toInt_le, ← Int32.toInt_inj] at hlo_p0 ⊢
    have k_0 : (4 : Int32).toInt = 4 := by decide
    omega
  refine q_callVi (rest := []) (wr := []) X hK hA h (fun sz => kX12_noTray_527 l D cy h0 p0 h1 h2 h3 h4 h5 h6 h7 h8 h9 h10 h11 h12 h13 h14 h15 h16 h17 h18 h19 h20 g_11246 sz) wm_7_30 wm_7_33 wm_1_12 hd_X12_noTray wm_7_32 wp_6_6 (ci := 12) (q0 := 0) rfl rfl ⟨Nat.le_of_ble_eq_true rfl, Nat.le_of_ble_eq_true rfl⟩ hl.1 rfl (Nat.le_of_ble_eq_true rfl) dX12_write_7 ⟨Nat.le_of_ble_eq_true rfl, Nat.le_of_ble_eq_true rfl⟩ [0] [] rfl rfl (by decide) rfl rfl (fun r_11247 u_11247 H locs w_11247 h => ?_)
  obtain rfl : r_11247 = (-2) := w_11247
  have h : qW D _ _ [(h0, .inr (12, [.int 0, .ref h1, .ref h2, .ref h3, .ref h4, .int 0, .int 0, .int 0, .int 0, .int 0, .int 0, .int 0, .int 0, .int 0, .int (-1), .int 0, .ref h5, .ref h6, .ref h7, .ref h8, .ref h9, .int 0, .int 0, .ref h10, .ref h11, .ref h12, .int 0, .int 0, .ref h13, .ref h14, .ref h15, .ref h16, .ref h17, .int 0, .ref h18, .ref h19, .ref h20]))] _ _ := h
  refine lv_istore (lv' := [(5, .int (-2)), (0, .ref h0), (1, .int p0), (2, .int p1), (3, .long j0)]) hx hb dX12_write_10 hl (by decide) rfl (fun ls hl => ?_)
  refine lv_iload hx hb dX12_write_12 (lv_at hl 0 rfl) ?_
  refine lv_if_eq (tgt := 21) hx hb dX12_write_14 (by decide) (fun c => absurd c (by decide +kernel)) (fun _ => ?_)
  refine lv_iload hx hb dX12_write_17 (lv_at hl 0 rfl) ?_
  refine lv_i2l (v := (-2)) hx hb dX12_write_19 (by decide +kernel) ?_
  exact q_lret X hr hlk hK h (fun _ => 0, fun _ _ => 0, fun _ _ => 0) rfl [0] rfl rfl dX12_write_20 (Nat.le_of_ble_eq_true rfl) (Nat.le_of_ble_eq_true rfl)
set_option maxHeartbeats 4000000 in
set_option maxRecDepth 100000 in
theorem kX12_lists_750 (l : Launch) (D : va_G) (cy : Nat → ClassId) (h0 : Nat) (p0 : Int32) (p1 : Int32) (p2 : Int32) (h1 : Nat) (h2 : Nat) (h3 : Nat) (h4 : Nat) (h5 : Nat) (h6 : Nat) (h7 : Nat) (h8 : Nat) (h9 : Nat) (h10 : Nat) (h11 : Nat) (h12 : Nat) (h13 : Nat) (h14 : Nat) (h15 : Nat) (h16 : Nat) (h17 : Nat) (h18 : Nat) (h19 : Nat) (h20 : Nat) (hhi_p0 : p0 ≤ ((-1) : Int32)) (hhi_p1 : p1 ≤ ((-1) : Int32)) (sz : Nat) : MI l yX12_lists cX12_lists 8 .int { frames := 1, cells := 0, slots := 0, locals := 25 } [.ref h0, .int p0, .int p1, .int p2] D cy [(h0, .inr (12, [.int 0, .ref h1, .ref h2, .ref h3, .ref h4, .int 0, .int 0, .int 0, .int 0, .int 0, .int 0, .int 0, .int 0, .int 0, .int (-1), .int 0, .ref h5, .ref h6, .ref h7, .ref h8, .ref h9, .int 0, .int 0, .ref h10, .ref h11, .ref h12, .int 0, .int 0, .ref h13, .ref h14, .ref h15, .ref h16, .ref h17, .int 0, .ref h18, .ref h19, .ref h20]))] sz (fun r u => r = (-2)) (fun u => [(h0, .inr (12, [.int 0, .ref h1, .ref h2, .ref h3, .ref h4, .int 0, .int 0, .int 0, .int 0, .int 0, .int 0, .int 0, .int 0, .int 0, .int (-1), .int 0, .ref h5, .ref h6, .ref h7, .ref h8, .ref h9, .int 0, .int 0, .ref h10, .ref h11, .ref h12, .int 0, .int 0, .ref h13, .ref h14, .ref h15, .ref h16, .ref h17, .int 0, .ref h18, .ref h19, .ref h20]))]) 0 0 := by
  refine q_ent (own := RX12) (by decide) rfl (Nat.le_of_ble_eq_true rfl) (fun p e s m below meth c ls X hr hlk hnm hK h hA hl => ?_)
  obtain ⟨hx, hb, hml, hown, ht⟩ := id X
  have hl : lv_has ls 8 [(0, .ref h0), (1, .int p0), (2, .int p1), (3, .int p2)] := hl
  refine lv_aload_n hx hb dX12_lists_0 rfl (lv_at hl 0 rfl) ?_
  refine lv_iconst (v := 0) hx hb dX12_lists_1 (by decide) ?_
  refine q_put (v := .int 0) X hK h 0 rfl rfl wf_12 tyX12 tyX12_ok nmX12 0 (by decide) wm_5_170 rfl rfl rfl (Nat.le_of_ble_eq_true rfl) dX12_lists_2 (fun H locs h => ?_)
  have h : qW D _ _ [(h0, .inr (12, [.int 0, .ref h1, .ref h2, .ref h3, .ref h4, .int 0, .int 0, .int 0, .int 0, .int 0, .int 0, .int 0, .int 0, .int 0, .int (-1), .int 0, .ref h5, .ref h6, .ref h7, .ref h8, .ref h9, .int 0, .int 0, .ref h10, .ref h11, .ref h12, .int 0, .int 0, .ref h13, .ref h14, .ref h15, .ref h16, .ref h17, .int 0, .ref h18, .ref h19, .ref h20]))] _ _ := h
  refine lv_iload_n hx hb dX12_lists_5 rfl (lv_at hl 1 rfl) ?_
  refine lv_i2l hx hb dX12_lists_6 rfl ?_
  refine lv_lconst (v := 0) hx hb dX12_lists_7 (by decide) ?_
  refine lv_ldc2 hx hb hown (ht _ wm_7_29) dX12_lists_8 ?_
  have g_11255 : ((p0).toInt64) ≤ ((-1) : Int64) := by
    simp only [q_lc_lt, q_lc_ge, q_lc_gt, q_lc_le, q_lc_eq, Int32.toInt_toInt64, Int64.lt_iff_toInt_lt, Int64.le_iff_toInt_le, ← Int64.toInt_inj, Int32.lt_iff_toInt_lt, Int32.le_iff_toInt_le, ← Int32.toInt_inj] at hhi_p0 ⊢
    have k_0 : ((-1) : Int32).toInt = -1 := by decide
    have k_g : ((-1) : Int64).toInt = -1 := by decide
    omega
  refine q_callSi (rest := []) (wr := [(h0, .inr (12, [.int 0, .ref h1, .ref h2, .ref h3, .ref h4, .int 0, .int 0, .int 0, .int 0, .int 0, .int 0, .int 0, .int 0, .int 0, .int (-1), .int 0, .ref h5, .ref h6, .ref h7, .ref h8, .ref h9, .int 0, .int 0, .ref h10, .ref h11, .ref h12, .int 0, .int 0, .ref h13, .ref h14, .ref h15, .ref h16, .ref h17, .int 0, .ref h18, .ref h19, .ref h20]))]) X hK hA h (fun sz => kX12_within_495 l D cy ((p0).toInt64) g_11255 sz) wm_6_50 wm_6_52 wm_1_12 hd_X12_within wm_6_51 ⟨Nat.le_of_ble_eq_true rfl, Nat.le_of_ble_eq_true rfl⟩ hl.1 rfl (Nat.le_of_ble_eq_true rfl) dX12_lists_11 ⟨Nat.le_of_ble_eq_true rfl, Nat.le_of_ble_eq_true rfl⟩ [] [0] rfl rfl (by decide) rfl rfl (fun r_11256 u_11256 H locs w_11256 h => ?_)
  obtain rfl : r_11256 = 0 := w_11256
  have h : qW D _ _ [(h0, .inr (12, [.int 0, .ref h1, .ref h2, .ref h3, .ref h4, .int 0, .int 0, .int 0, .int 0, .int 0, .int 0, .int 0, .int 0, .int 0, .int (-1), .int 0, .ref h5, .ref h6, .ref h7, .ref h8, .ref h9, .int 0, .int 0, .ref h10, .ref h11, .ref h12, .int 0, .int 0, .ref h13, .ref h14, .ref h15, .ref h16, .ref h17, .int 0, .ref h18, .ref h19, .ref h20]))] _ _ := h
  refine lv_if_eq (tgt := 26) hx hb dX12_lists_14 (by decide) (fun _ => ?_) (fun c => absurd c (by decide +kernel))
  refine lv_bipush (v := (-2)) hx hb dX12_lists_26 (by decide) ?_
  exact q_iret X hr hlk hK h rfl (fun _ => 0, fun _ _ => 0, fun _ _ => 0) rfl [0] rfl rfl dX12_lists_28 (Nat.le_of_ble_eq_true rfl) (Nat.le_of_ble_eq_true rfl)
set_option maxHeartbeats 4000000 in
set_option maxRecDepth 100000 in
theorem kX12_lists_751 (l : Launch) (D : va_G) (cy : Nat → ClassId) (h0 : Nat) (p0 : Int32) (p1 : Int32) (p2 : Int32) (h1 : Nat) (h2 : Nat) (h3 : Nat) (h4 : Nat) (h5 : Nat) (h6 : Nat) (h7 : Nat) (h8 : Nat) (h9 : Nat) (h10 : Nat) (h11 : Nat) (h12 : Nat) (h13 : Nat) (h14 : Nat) (h15 : Nat) (h16 : Nat) (h17 : Nat) (h18 : Nat) (h19 : Nat) (h20 : Nat) (hhi_p0 : p0 ≤ ((-1) : Int32)) (hlo_p1 : (0 : Int32) ≤ p1) (sz : Nat) : MI l yX12_lists cX12_lists 8 .int { frames := 1, cells := 0, slots := 0, locals := 25 } [.ref h0, .int p0, .int p1, .int p2] D cy [(h0, .inr (12, [.int 0, .ref h1, .ref h2, .ref h3, .ref h4, .int 0, .int 0, .int 0, .int 0, .int 0, .int 0, .int 0, .int 0, .int 0, .int (-1), .int 0, .ref h5, .ref h6, .ref h7, .ref h8, .ref h9, .int 0, .int 0, .ref h10, .ref h11, .ref h12, .int 0, .int 0, .ref h13, .ref h14, .ref h15, .ref h16, .ref h17, .int 0, .ref h18, .ref h19, .ref h20]))] sz (fun r u => r = (-2)) (fun u => [(h0, .inr (12, [.int 0, .ref h1, .ref h2, .ref h3, .ref h4, .int 0, .int 0, .int 0, .int 0, .int 0, .int 0, .int 0, .int 0, .int 0, .int (-1), .int 0, .ref h5, .ref h6, .ref h7, .ref h8, .ref h9, .int 0, .int 0, .ref h10, .ref h11, .ref h12, .int 0, .int 0, .ref h13, .ref h14, .ref h15, .ref h16, .ref h17, .int 0, .ref h18, .ref h19, .ref h20]))]) 0 0 := by
  refine q_ent (own := RX12) (by decide) rfl (Nat.le_of_ble_eq_true rfl) (fun p e s m below meth c ls X hr hlk hnm hK h hA hl => ?_)
  obtain ⟨hx, hb, hml, hown, ht⟩ := id X
  have hl : lv_has ls 8 [(0, .ref h0), (1, .int p0), (2, .int p1), (3, .int p2)] := hl
  refine lv_aload_n hx hb dX12_lists_0 rfl (lv_at hl 0 rfl) ?_
  refine lv_iconst (v := 0) hx hb dX12_lists_1 (by decide) ?_
  refine q_put (v := .int 0) X hK h 0 rfl rfl wf_12 tyX12 tyX12_ok nmX12 0 (by decide) wm_5_170 rfl rfl rfl (Nat.le_of_ble_eq_true rfl) dX12_lists_2 (fun H locs h => ?_)
  have h : qW D _ _ [(h0, .inr (12, [.int 0, .ref h1, .ref h2, .ref h3, .ref h4, .int 0, .int 0, .int 0, .int 0, .int 0, .int 0, .int 0, .int 0, .int 0, .int (-1), .int 0, .ref h5, .ref h6, .ref h7, .ref h8, .ref h9, .int 0, .int 0, .ref h10, .ref h11, .ref h12, .int 0, .int 0, .ref h13, .ref h14, .ref h15, .ref h16, .ref h17, .int 0, .ref h18, .ref h19, .ref h20]))] _ _ := h
  refine lv_iload_n hx hb dX12_lists_5 rfl (lv_at hl 1 rfl) ?_
  refine lv_i2l hx hb dX12_lists_6 rfl ?_
  refine lv_lconst (v := 0) hx hb dX12_lists_7 (by decide) ?_
  refine lv_ldc2 hx hb hown (ht _ wm_7_29) dX12_lists_8 ?_
  have g_11264 : ((p0).toInt64) ≤ ((-1) : Int64) := by
    simp only [q_lc_lt, q_lc_ge, q_lc_gt, q_lc_le, q_lc_eq, Int32.toInt_toInt64, Int64.lt_iff_toInt_lt, Int64.le_iff_toInt_le, ← Int64.toInt_inj, Int32.lt_iff_toInt_lt, Int32.le_iff_toInt_le, ← Int32.toInt_inj] at hhi_p0 ⊢
    have k_0 : ((-1) : Int32).toInt = -1 := by decide
    have k_g : ((-1) : Int64).toInt = -1 := by decide
    omega
  refine q_callSi (rest := []) (wr := [(h0, .inr (12, [.int 0, .ref h1, .ref h2, .ref h3, .ref h4, .int 0, .int 0, .int 0, .int 0, .int 0, .int 0, .int 0, .int 0, .int 0, .int (-1), .int 0, .ref h5, .ref h6, .ref h7, .ref h8, .ref h9, .int 0, .int 0, .ref h10, .ref h11, .ref h12, .int 0, .int 0, .ref h13, .ref h14, .ref h15, .ref h16, .ref h17, .int 0, .ref h18, .ref h19, .ref h20]))]) X hK hA h (fun sz => kX12_within_495 l D cy ((p0).toInt64) g_11264 sz) wm_6_50 wm_6_52 wm_1_12 hd_X12_within wm_6_51 ⟨Nat.le_of_ble_eq_true rfl, Nat.le_of_ble_eq_true rfl⟩ hl.1 rfl (Nat.le_of_ble_eq_true rfl) dX12_lists_11 ⟨Nat.le_of_ble_eq_true rfl, Nat.le_of_ble_eq_true rfl⟩ [] [0] rfl rfl (by decide) rfl rfl (fun r_11265 u_11265 H locs w_11265 h => ?_)
  obtain rfl : r_11265 = 0 := w_11265
  have h : qW D _ _ [(h0, .inr (12, [.int 0, .ref h1, .ref h2, .ref h3, .ref h4, .int 0, .int 0, .int 0, .int 0, .int 0, .int 0, .int 0, .int 0, .int 0, .int (-1), .int 0, .ref h5, .ref h6, .ref h7, .ref h8, .ref h9, .int 0, .int 0, .ref h10, .ref h11, .ref h12, .int 0, .int 0, .ref h13, .ref h14, .ref h15, .ref h16, .ref h17, .int 0, .ref h18, .ref h19, .ref h20]))] _ _ := h
  refine lv_if_eq (tgt := 26) hx hb dX12_lists_14 (by decide) (fun _ => ?_) (fun c => absurd c (by decide +kernel))
  refine lv_bipush (v := (-2)) hx hb dX12_lists_26 (by decide) ?_
  exact q_iret X hr hlk hK h rfl (fun _ => 0, fun _ _ => 0, fun _ _ => 0) rfl [0] rfl rfl dX12_lists_28 (Nat.le_of_ble_eq_true rfl) (Nat.le_of_ble_eq_true rfl)
set_option maxHeartbeats 4000000 in
set_option maxRecDepth 100000 in
theorem kX12_lists_752 (l : Launch) (D : va_G) (cy : Nat → ClassId) (h0 : Nat) (h1 : Nat) (p0 : Int32) (p1 : Int32) (h2 : Nat) (h3 : Nat) (h4 : Nat) (h5 : Nat) (h6 : Nat) (h7 : Nat) (h8 : Nat) (h9 : Nat) (h10 : Nat) (h11 : Nat) (h12 : Nat) (h13 : Nat) (h14 : Nat) (h15 : Nat) (h16 : Nat) (h17 : Nat) (h18 : Nat) (h19 : Nat) (h20 : Nat) (f0 : Nat → Int32) (hhi_p0 : p0 ≤ ((-1) : Int32)) (hf_f0_2 : f0 (Int32.toNatClampNeg 2) = 0) (sz : Nat) : MI l yX12_lists cX12_lists 8 .int { frames := 3, cells := 0, slots := 0, locals := 69 } [.ref h0, .int 0, .int p0, .int p1] D cy [(h0, .inr (12, [.int 0, .ref h1, .ref h2, .ref h3, .ref h4, .int 0, .int 0, .int 0, .int 0, .int 0, .int 0, .int 0, .int 0, .int 0, .int (-1), .int 0, .ref h5, .ref h6, .ref h7, .ref h8, .ref h9, .int 0, .int 0, .ref h10, .ref h11, .ref h12, .int 0, .int 0, .ref h13, .ref h14, .ref h15, .ref h16, .ref h17, .int 0, .ref h18, .ref h19, .ref h20])), (h1, .inl (cy 1, 3918, .inl f0))] sz (fun r u => r = (-2)) (fun u => [(h0, .inr (12, [.int 0, .ref h1, .ref h2, .ref h3, .ref h4, .int 0, .int 0, .int 0, .int 0, .int 0, .int 0, .int 0, .int 0, .int 0, .int (-1), .int 0, .ref h5, .ref h6, .ref h7, .ref h8, .ref h9, .int 0, .int 0, .ref h10, .ref h11, .ref h12, .int 0, .int 0, .ref h13, .ref h14, .ref h15, .ref h16, .ref h17, .int 0, .ref h18, .ref h19, .ref h20])), (h1, .inl (cy 1, 3918, .inl f0))]) 0 0 := by
  refine q_ent (own := RX12) (by decide) rfl (Nat.le_of_ble_eq_true rfl) (fun p e s m below meth c ls X hr hlk hnm hK h hA hl => ?_)
  obtain ⟨hx, hb, hml, hown, ht⟩ := id X
  have hl : lv_has ls 8 [(0, .ref h0), (1, .int 0), (2, .int p0), (3, .int p1)] := hl
  refine lv_aload_n hx hb dX12_lists_0 rfl (lv_at hl 0 rfl) ?_
  refine lv_iconst (v := 0) hx hb dX12_lists_1 (by decide) ?_
  refine q_put (v := .int 0) X hK h 0 rfl rfl wf_12 tyX12 tyX12_ok nmX12 0 (by decide) wm_5_170 rfl rfl rfl (Nat.le_of_ble_eq_true rfl) dX12_lists_2 (fun H locs h => ?_)
  have h : qW D _ _ [(h0, .inr (12, [.int 0, .ref h1, .ref h2, .ref h3, .ref h4, .int 0, .int 0, .int 0, .int 0, .int 0, .int 0, .int 0, .int 0, .int 0, .int (-1), .int 0, .ref h5, .ref h6, .ref h7, .ref h8, .ref h9, .int 0, .int 0, .ref h10, .ref h11, .ref h12, .int 0, .int 0, .ref h13, .ref h14, .ref h15, .ref h16, .ref h17, .int 0, .ref h18, .ref h19, .ref h20])), (h1, .inl (cy 1, 3918, .inl f0))] _ _ := h
  refine lv_iload_n hx hb dX12_lists_5 rfl (lv_at hl 1 rfl) ?_
  refine lv_i2l (v := 0) hx hb dX12_lists_6 (by decide +kernel) ?_
  refine lv_lconst (v := 0) hx hb dX12_lists_7 (by decide) ?_
  refine lv_ldc2 hx hb hown (ht _ wm_7_29) dX12_lists_8 ?_
  refine q_callSi (rest := []) (wr := [(h0, .inr (12, [.int 0, .ref h1, .ref h2, .ref h3, .ref h4, .int 0, .int 0, .int 0, .int 0, .int 0, .int 0, .int 0, .int 0, .int 0, .int (-1), .int 0, .ref h5, .ref h6, .ref h7, .ref h8, .ref h9, .int 0, .int 0, .ref h10, .ref h11, .ref h12, .int 0, .int 0, .ref h13, .ref h14, .ref h15, .ref h16, .ref h17, .int 0, .ref h18, .ref h19, .ref h20])), (h1, .inl (cy 1, 3918, .inl f0))]) X hK hA h (fun sz => kX12_within_503 l D cy   sz) wm_6_50 wm_6_52 wm_1_12 hd_X12_within wm_6_51 ⟨Nat.le_of_ble_eq_true rfl, Nat.le_of_ble_eq_true rfl⟩ hl.1 rfl (Nat.le_of_ble_eq_true rfl) dX12_lists_11 ⟨Nat.le_of_ble_eq_true rfl, Nat.le_of_ble_eq_true rfl⟩ [] [0, 1] rfl rfl (by decide) rfl rfl (fun r_11282 u_11282 H locs w_11282 h => ?_)
  obtain rfl : r_11282 = 1 := w_11282
  have h : qW D _ _ [(h0, .inr (12, [.int 0, .ref h1, .ref h2, .ref h3, .ref h4, .int 0, .int 0, .int 0, .int 0, .int 0, .int 0, .int 0, .int 0, .int 0, .int (-1), .int 0, .ref h5, .ref h6, .ref h7, .ref h8, .ref h9, .int 0, .int 0, .ref h10, .ref h11, .ref h12, .int 0, .int 0, .ref h13, .ref h14, .ref h15, .ref h16, .ref h17, .int 0, .ref h18, .ref h19, .ref h20])), (h1, .inl (cy 1, 3918, .inl f0))] _ _ := h
  refine lv_if_eq (tgt := 26) hx hb dX12_lists_14 (by decide) (fun c => absurd c (by decide +kernel)) (fun _ => ?_)
  refine lv_aload_n hx hb dX12_lists_17 rfl (lv_at hl 0 rfl) ?_
  refine lv_iload_n hx hb dX12_lists_18 rfl (lv_at hl 2 rfl) ?_
  refine lv_iload_n hx hb dX12_lists_19 rfl (lv_at hl 3 rfl) ?_
  have g_11288 : p0 ≤ ((-1) : Int32) := by
    simp only [Int32.lt_iff_toInt_lt, Int32.le_iff_toInt_le, ← Int32.toInt_inj] at hhi_p0 ⊢
    have k_0 : ((-1) : Int32).toInt = -1 := by decide
    omega
  refine q_callVi (rest := []) (wr := []) X hK hA h (fun sz => kX12_areTwo_621 l D cy h0 h1 p0 p1 h2 h3 h4 h5 h6 h7 h8 h9 h10 h11 h12 h13 h14 h15 h16 h17 h18 h19 h20 f0 g_11288 hf_f0_2 sz) wm_7_164 wm_7_167 wm_1_12 hd_X12_areTwo wm_7_166 wp_7_8 (ci := 12) (q0 := 0) rfl rfl ⟨Nat.le_of_ble_eq_true rfl, Nat.le_of_ble_eq_true rfl⟩ hl.1 rfl (Nat.le_of_ble_eq_true rfl) dX12_lists_20 ⟨Nat.le_of_ble_eq_true rfl, Nat.le_of_ble_eq_true rfl⟩ [0, 1] [] rfl rfl (by decide) rfl rfl (fun r_11289 u_11289 H locs w_11289 h => ?_)
  obtain rfl : r_11289 = 0 := w_11289
  have h : qW D _ _ [(h0, .inr (12, [.int 0, .ref h1, .ref h2, .ref h3, .ref h4, .int 0, .int 0, .int 0, .int 0, .int 0, .int 0, .int 0, .int 0, .int 0, .int (-1), .int 0, .ref h5, .ref h6, .ref h7, .ref h8, .ref h9, .int 0, .int 0, .ref h10, .ref h11, .ref h12, .int 0, .int 0, .ref h13, .ref h14, .ref h15, .ref h16, .ref h17, .int 0, .ref h18, .ref h19, .ref h20])), (h1, .inl (cy 1, 3918, .inl f0))] _ _ := h
  refine lv_if_ne (tgt := 29) hx hb dX12_lists_23 (by decide) (fun c => absurd c (by decide +kernel)) (fun _ => ?_)
  refine lv_bipush (v := (-2)) hx hb dX12_lists_26 (by decide) ?_
  exact q_iret X hr hlk hK h rfl (fun _ => 0, fun _ _ => 0, fun _ _ => 0) rfl [0, 1] rfl rfl dX12_lists_28 (Nat.le_of_ble_eq_true rfl) (Nat.le_of_ble_eq_true rfl)
set_option maxHeartbeats 4000000 in
set_option maxRecDepth 100000 in
theorem kX12_lists_753 (l : Launch) (D : va_G) (cy : Nat → ClassId) (h0 : Nat) (h1 : Nat) (p0 : Int32) (p1 : Int32) (h2 : Nat) (h3 : Nat) (h4 : Nat) (h5 : Nat) (h6 : Nat) (h7 : Nat) (h8 : Nat) (h9 : Nat) (h10 : Nat) (h11 : Nat) (h12 : Nat) (h13 : Nat) (h14 : Nat) (h15 : Nat) (h16 : Nat) (h17 : Nat) (h18 : Nat) (h19 : Nat) (h20 : Nat) (f0 : Nat → Int32) (hlo_p0 : (0 : Int32) ≤ p0) (hf_f0_2 : f0 (Int32.toNatClampNeg 2) = 0) (sz : Nat) : MI l yX12_lists cX12_lists 8 .int { frames := 3, cells := 0, slots := 0, locals := 69 } [.ref h0, .int 0, .int p0, .int p1] D cy [(h0, .inr (12, [.int 0, .ref h1, .ref h2, .ref h3, .ref h4, .int 0, .int 0, .int 0, .int 0, .int 0, .int 0, .int 0, .int 0, .int 0, .int (-1), .int 0, .ref h5, .ref h6, .ref h7, .ref h8, .ref h9, .int 0, .int 0, .ref h10, .ref h11, .ref h12, .int 0, .int 0, .ref h13, .ref h14, .ref h15, .ref h16, .ref h17, .int 0, .ref h18, .ref h19, .ref h20])), (h1, .inl (cy 1, 3918, .inl f0))] sz (fun r u => r = (-2)) (fun u => [(h0, .inr (12, [.int 0, .ref h1, .ref h2, .ref h3, .ref h4, .int 0, .int 0, .int 0, .int 0, .int 0, .int 0, .int 0, .int 0, .int 0, .int (-1), .int 0, .ref h5, .ref h6, .ref h7, .ref h8, .ref h9, .int 0, .int 0, .ref h10, .ref h11, .ref h12, .int 0, .int 0, .ref h13, .ref h14, .ref h15, .ref h16, .ref h17, .int 0, .ref h18, .ref h19, .ref h20])), (h1, .inl (cy 1, 3918, .inl f0))]) 0 0 := by
  refine q_ent (own := RX12) (by decide) rfl (Nat.le_of_ble_eq_true rfl) (fun p e s m below meth c ls X hr hlk hnm hK h hA hl => ?_)
  obtain ⟨hx, hb, hml, hown, ht⟩ := id X
  have hl : lv_has ls 8 [(0, .ref h0), (1, .int 0), (2, .int p0), (3, .int p1)] := hl
  refine lv_aload_n hx hb dX12_lists_0 rfl (lv_at hl 0 rfl) ?_
  refine lv_iconst (v := 0) hx hb dX12_lists_1 (by decide) ?_
  refine q_put (v := .int 0) X hK h 0 rfl rfl wf_12 tyX12 tyX12_ok nmX12 0 (by decide) wm_5_170 rfl rfl rfl (Nat.le_of_ble_eq_true rfl) dX12_lists_2 (fun H locs h => ?_)
  have h : qW D _ _ [(h0, .inr (12, [.int 0, .ref h1, .ref h2, .ref h3, .ref h4, .int 0, .int 0, .int 0, .int 0, .int 0, .int 0, .int 0, .int 0, .int 0, .int (-1), .int 0, .ref h5, .ref h6, .ref h7, .ref h8, .ref h9, .int 0, .int 0, .ref h10, .ref h11, .ref h12, .int 0, .int 0, .ref h13, .ref h14, .ref h15, .ref h16, .ref h17, .int 0, .ref h18, .ref h19, .ref h20])), (h1, .inl (cy 1, 3918, .inl f0))] _ _ := h
  refine lv_iload_n hx hb dX12_lists_5 rfl (lv_at hl 1 rfl) ?_
  refine lv_i2l (v := 0) hx hb dX12_lists_6 (by decide +kernel) ?_
  refine lv_lconst (v := 0) hx hb dX12_lists_7 (by decide) ?_
  refine lv_ldc2 hx hb hown (ht _ wm_7_29) dX12_lists_8 ?_
  refine q_callSi (rest := []) (wr := [(h0, .inr (12, [.int 0, .ref h1, .ref h2, .ref h3, .ref h4, .int 0, .int 0, .int 0, .int 0, .int 0, .int 0, .int 0, .int 0, .int 0, .int (-1), .int 0, .ref h5, .ref h6, .ref h7, .ref h8, .ref h9, .int 0, .int 0, .ref h10, .ref h11, .ref h12, .int 0, .int 0, .ref h13, .ref h14, .ref h15, .ref h16, .ref h17, .int 0, .ref h18, .ref h19, .ref h20])), (h1, .inl (cy 1, 3918, .inl f0))]) X hK hA h (fun sz => kX12_within_503 l D cy   sz) wm_6_50 wm_6_52 wm_1_12 hd_X12_within wm_6_51 ⟨Nat.le_of_ble_eq_true rfl, Nat.le_of_ble_eq_true rfl⟩ hl.1 rfl (Nat.le_of_ble_eq_true rfl) dX12_lists_11 ⟨Nat.le_of_ble_eq_true rfl, Nat.le_of_ble_eq_true rfl⟩ [] [0, 1] rfl rfl (by decide) rfl rfl (fun r_11308 u_11308 H locs w_11308 h => ?_)
  obtain rfl : r_11308 = 1 := w_11308
  have h : qW D _ _ [(h0, .inr (12, [.int 0, .ref h1, .ref h2, .ref h3, .ref h4, .int 0, .int 0, .int 0, .int 0, .int 0, .int 0, .int 0, .int 0, .int 0, .int (-1), .int 0, .ref h5, .ref h6, .ref h7, .ref h8, .ref h9, .int 0, .int 0, .ref h10, .ref h11, .ref h12, .int 0, .int 0, .ref h13, .ref h14, .ref h15, .ref h16, .ref h17, .int 0, .ref h18, .ref h19, .ref h20])), (h1, .inl (cy 1, 3918, .inl f0))] _ _ := h
  refine lv_if_eq (tgt := 26) hx hb dX12_lists_14 (by decide) (fun c => absurd c (by decide +kernel)) (fun _ => ?_)
  refine lv_aload_n hx hb dX12_lists_17 rfl (lv_at hl 0 rfl) ?_
  refine lv_iload_n hx hb dX12_lists_18 rfl (lv_at hl 2 rfl) ?_
  refine lv_iload_n hx hb dX12_lists_19 rfl (lv_at hl 3 rfl) ?_
  have g_11315 : (0 : Int32) ≤ p0 := by
    simp only [Int32.lt_iff_toInt_lt, Int32.le_iff_toInt_le, ← Int32.toInt_inj] at hlo_p0 ⊢
    have k_0 : (0 : Int32).toInt = 0 := by decide
    omega
  refine q_callVi (rest := []) (wr := []) X hK hA h (fun sz => kX12_areTwo_624 l D cy h0 h1 p0 p1 h2 h3 h4 h5 h6 h7 h8 h9 h10 h11 h12 h13 h14 h15 h16 h17 h18 h19 h20 f0 g_11315 hf_f0_2 sz) wm_7_164 wm_7_167 wm_1_12 hd_X12_areTwo wm_7_166 wp_7_8 (ci := 12) (q0 := 0) rfl rfl ⟨Nat.le_of_ble_eq_true rfl, Nat.le_of_ble_eq_true rfl⟩ hl.1 rfl (Nat.le_of_ble_eq_true rfl) dX12_lists_20 ⟨Nat.le_of_ble_eq_true rfl, Nat.le_of_ble_eq_true rfl⟩ [0, 1] [] rfl rfl (by decide) rfl rfl (fun r_11316 u_11316 H locs w_11316 h => ?_)
  obtain rfl : r_11316 = 0 := w_11316
  have h : qW D _ _ [(h0, .inr (12, [.int 0, .ref h1, .ref h2, .ref h3, .ref h4, .int 0, .int 0, .int 0, .int 0, .int 0, .int 0, .int 0, .int 0, .int 0, .int (-1), .int 0, .ref h5, .ref h6, .ref h7, .ref h8, .ref h9, .int 0, .int 0, .ref h10, .ref h11, .ref h12, .int 0, .int 0, .ref h13, .ref h14, .ref h15, .ref h16, .ref h17, .int 0, .ref h18, .ref h19, .ref h20])), (h1, .inl (cy 1, 3918, .inl f0))] _ _ := h
  refine lv_if_ne (tgt := 29) hx hb dX12_lists_23 (by decide) (fun c => absurd c (by decide +kernel)) (fun _ => ?_)
  refine lv_bipush (v := (-2)) hx hb dX12_lists_26 (by decide) ?_
  exact q_iret X hr hlk hK h rfl (fun _ => 0, fun _ _ => 0, fun _ _ => 0) rfl [0, 1] rfl rfl dX12_lists_28 (Nat.le_of_ble_eq_true rfl) (Nat.le_of_ble_eq_true rfl)
set_option maxHeartbeats 4000000 in
set_option maxRecDepth 100000 in
theorem kX12_lists_754 (l : Launch) (D : va_G) (cy : Nat → ClassId) (h0 : Nat) (h1 : Nat) (p0 : Int32) (p1 : Int32) (h2 : Nat) (h3 : Nat) (h4 : Nat) (h5 : Nat) (h6 : Nat) (h7 : Nat) (h8 : Nat) (h9 : Nat) (h10 : Nat) (h11 : Nat) (h12 : Nat) (h13 : Nat) (h14 : Nat) (h15 : Nat) (h16 : Nat) (h17 : Nat) (h18 : Nat) (h19 : Nat) (h20 : Nat) (f0 : Nat → Int32) (hhi_p0 : p0 ≤ ((-1) : Int32)) (hf_f0_2 : f0 (Int32.toNatClampNeg 2) = 0) (sz : Nat) : MI l yX12_lists cX12_lists 8 .int { frames := 3, cells := 0, slots := 0, locals := 69 } [.ref h0, .int 1, .int p0, .int p1] D cy [(h0, .inr (12, [.int 0, .ref h1, .ref h2, .ref h3, .ref h4, .int 0, .int 0, .int 0, .int 0, .int 0, .int 0, .int 0, .int 0, .int 0, .int (-1), .int 0, .ref h5, .ref h6, .ref h7, .ref h8, .ref h9, .int 0, .int 0, .ref h10, .ref h11, .ref h12, .int 0, .int 0, .ref h13, .ref h14, .ref h15, .ref h16, .ref h17, .int 0, .ref h18, .ref h19, .ref h20])), (h1, .inl (cy 1, 3918, .inl f0))] sz (fun r u => r = (-2)) (fun u => [(h0, .inr (12, [.int 0, .ref h1, .ref h2, .ref h3, .ref h4, .int 0, .int 0, .int 0, .int 0, .int 0, .int 0, .int 0, .int 0, .int 0, .int (-1), .int 0, .ref h5, .ref h6, .ref h7, .ref h8, .ref h9, .int 0, .int 0, .ref h10, .ref h11, .ref h12, .int 0, .int 0, .ref h13, .ref h14, .ref h15, .ref h16, .ref h17, .int 0, .ref h18, .ref h19, .ref h20])), (h1, .inl (cy 1, 3918, .inl f0))]) 0 0 := by
  refine q_ent (own := RX12) (by decide) rfl (Nat.le_of_ble_eq_true rfl) (fun p e s m below meth c ls X hr hlk hnm hK h hA hl => ?_)
  obtain ⟨hx, hb, hml, hown, ht⟩ := id X
  have hl : lv_has ls 8 [(0, .ref h0), (1, .int 1), (2, .int p0), (3, .int p1)] := hl
  refine lv_aload_n hx hb dX12_lists_0 rfl (lv_at hl 0 rfl) ?_
  refine lv_iconst (v := 0) hx hb dX12_lists_1 (by decide) ?_
  refine q_put (v := .int 0) X hK h 0 rfl rfl wf_12 tyX12 tyX12_ok nmX12 0 (by decide) wm_5_170 rfl rfl rfl (Nat.le_of_ble_eq_true rfl) dX12_lists_2 (fun H locs h => ?_)
  have h : qW D _ _ [(h0, .inr (12, [.int 0, .ref h1, .ref h2, .ref h3, .ref h4, .int 0, .int 0, .int 0, .int 0, .int 0, .int 0, .int 0, .int 0, .int 0, .int (-1), .int 0, .ref h5, .ref h6, .ref h7, .ref h8, .ref h9, .int 0, .int 0, .ref h10, .ref h11, .ref h12, .int 0, .int 0, .ref h13, .ref h14, .ref h15, .ref h16, .ref h17, .int 0, .ref h18, .ref h19, .ref h20])), (h1, .inl (cy 1, 3918, .inl f0))] _ _ := h
  refine lv_iload_n hx hb dX12_lists_5 rfl (lv_at hl 1 rfl) ?_
  refine lv_i2l (v := 1) hx hb dX12_lists_6 (by decide +kernel) ?_
  refine lv_lconst (v := 0) hx hb dX12_lists_7 (by decide) ?_
  refine lv_ldc2 hx hb hown (ht _ wm_7_29) dX12_lists_8 ?_
  refine q_callSi (rest := []) (wr := [(h0, .inr (12, [.int 0, .ref h1, .ref h2, .ref h3, .ref h4, .int 0, .int 0, .int 0, .int 0, .int 0, .int 0, .int 0, .int 0, .int 0, .int (-1), .int 0, .ref h5, .ref h6, .ref h7, .ref h8, .ref h9, .int 0, .int 0, .ref h10, .ref h11, .ref h12, .int 0, .int 0, .ref h13, .ref h14, .ref h15, .ref h16, .ref h17, .int 0, .ref h18, .ref h19, .ref h20])), (h1, .inl (cy 1, 3918, .inl f0))]) X hK hA h (fun sz => kX12_within_509 l D cy   sz) wm_6_50 wm_6_52 wm_1_12 hd_X12_within wm_6_51 ⟨Nat.le_of_ble_eq_true rfl, Nat.le_of_ble_eq_true rfl⟩ hl.1 rfl (Nat.le_of_ble_eq_true rfl) dX12_lists_11 ⟨Nat.le_of_ble_eq_true rfl, Nat.le_of_ble_eq_true rfl⟩ [] [0, 1] rfl rfl (by decide) rfl rfl (fun r_11333 u_11333 H locs w_11333 h => ?_)
  obtain rfl : r_11333 = 1 := w_11333
  have h : qW D _ _ [(h0, .inr (12, [.int 0, .ref h1, .ref h2, .ref h3, .ref h4, .int 0, .int 0, .int 0, .int 0, .int 0, .int 0, .int 0, .int 0, .int 0, .int (-1), .int 0, .ref h5, .ref h6, .ref h7, .ref h8, .ref h9, .int 0, .int 0, .ref h10, .ref h11, .ref h12, .int 0, .int 0, .ref h13, .ref h14, .ref h15, .ref h16, .ref h17, .int 0, .ref h18, .ref h19, .ref h20])), (h1, .inl (cy 1, 3918, .inl f0))] _ _ := h
  refine lv_if_eq (tgt := 26) hx hb dX12_lists_14 (by decide) (fun c => absurd c (by decide +kernel)) (fun _ => ?_)
  refine lv_aload_n hx hb dX12_lists_17 rfl (lv_at hl 0 rfl) ?_
  refine lv_iload_n hx hb dX12_lists_18 rfl (lv_at hl 2 rfl) ?_
  refine lv_iload_n hx hb dX12_lists_19 rfl (lv_at hl 3 rfl) ?_
  have g_11339 : p0 ≤ ((-1) : Int32) := by
    simp only [Int32.lt_iff_toInt_lt, Int32.le_iff_toInt_le, ← Int32.toInt_inj] at hhi_p0 ⊢
    have k_0 : ((-1) : Int32).toInt = -1 := by decide
    omega
  refine q_callVi (rest := []) (wr := []) X hK hA h (fun sz => kX12_areTwo_621 l D cy h0 h1 p0 p1 h2 h3 h4 h5 h6 h7 h8 h9 h10 h11 h12 h13 h14 h15 h16 h17 h18 h19 h20 f0 g_11339 hf_f0_2 sz) wm_7_164 wm_7_167 wm_1_12 hd_X12_areTwo wm_7_166 wp_7_8 (ci := 12) (q0 := 0) rfl rfl ⟨Nat.le_of_ble_eq_true rfl, Nat.le_of_ble_eq_true rfl⟩ hl.1 rfl (Nat.le_of_ble_eq_true rfl) dX12_lists_20 ⟨Nat.le_of_ble_eq_true rfl, Nat.le_of_ble_eq_true rfl⟩ [0, 1] [] rfl rfl (by decide) rfl rfl (fun r_11340 u_11340 H locs w_11340 h => ?_)
  obtain rfl : r_11340 = 0 := w_11340
  have h : qW D _ _ [(h0, .inr (12, [.int 0, .ref h1, .ref h2, .ref h3, .ref h4, .int 0, .int 0, .int 0, .int 0, .int 0, .int 0, .int 0, .int 0, .int 0, .int (-1), .int 0, .ref h5, .ref h6, .ref h7, .ref h8, .ref h9, .int 0, .int 0, .ref h10, .ref h11, .ref h12, .int 0, .int 0, .ref h13, .ref h14, .ref h15, .ref h16, .ref h17, .int 0, .ref h18, .ref h19, .ref h20])), (h1, .inl (cy 1, 3918, .inl f0))] _ _ := h
  refine lv_if_ne (tgt := 29) hx hb dX12_lists_23 (by decide) (fun c => absurd c (by decide +kernel)) (fun _ => ?_)
  refine lv_bipush (v := (-2)) hx hb dX12_lists_26 (by decide) ?_
  exact q_iret X hr hlk hK h rfl (fun _ => 0, fun _ _ => 0, fun _ _ => 0) rfl [0, 1] rfl rfl dX12_lists_28 (Nat.le_of_ble_eq_true rfl) (Nat.le_of_ble_eq_true rfl)
set_option maxHeartbeats 4000000 in
set_option maxRecDepth 100000 in
theorem kX12_lists_755 (l : Launch) (D : va_G) (cy : Nat → ClassId) (h0 : Nat) (h1 : Nat) (p0 : Int32) (p1 : Int32) (h2 : Nat) (h3 : Nat) (h4 : Nat) (h5 : Nat) (h6 : Nat) (h7 : Nat) (h8 : Nat) (h9 : Nat) (h10 : Nat) (h11 : Nat) (h12 : Nat) (h13 : Nat) (h14 : Nat) (h15 : Nat) (h16 : Nat) (h17 : Nat) (h18 : Nat) (h19 : Nat) (h20 : Nat) (f0 : Nat → Int32) (hlo_p0 : (0 : Int32) ≤ p0) (hf_f0_2 : f0 (Int32.toNatClampNeg 2) = 0) (sz : Nat) : MI l yX12_lists cX12_lists 8 .int { frames := 3, cells := 0, slots := 0, locals := 69 } [.ref h0, .int 1, .int p0, .int p1] D cy [(h0, .inr (12, [.int 0, .ref h1, .ref h2, .ref h3, .ref h4, .int 0, .int 0, .int 0, .int 0, .int 0, .int 0, .int 0, .int 0, .int 0, .int (-1), .int 0, .ref h5, .ref h6, .ref h7, .ref h8, .ref h9, .int 0, .int 0, .ref h10, .ref h11, .ref h12, .int 0, .int 0, .ref h13, .ref h14, .ref h15, .ref h16, .ref h17, .int 0, .ref h18, .ref h19, .ref h20])), (h1, .inl (cy 1, 3918, .inl f0))] sz (fun r u => r = (-2)) (fun u => [(h0, .inr (12, [.int 0, .ref h1, .ref h2, .ref h3, .ref h4, .int 0, .int 0, .int 0, .int 0, .int 0, .int 0, .int 0, .int 0, .int 0, .int (-1), .int 0, .ref h5, .ref h6, .ref h7, .ref h8, .ref h9, .int 0, .int 0, .ref h10, .ref h11, .ref h12, .int 0, .int 0, .ref h13, .ref h14, .ref h15, .ref h16, .ref h17, .int 0, .ref h18, .ref h19, .ref h20])), (h1, .inl (cy 1, 3918, .inl f0))]) 0 0 := by
  refine q_ent (own := RX12) (by decide) rfl (Nat.le_of_ble_eq_true rfl) (fun p e s m below meth c ls X hr hlk hnm hK h hA hl => ?_)
  obtain ⟨hx, hb, hml, hown, ht⟩ := id X
  have hl : lv_has ls 8 [(0, .ref h0), (1, .int 1), (2, .int p0), (3, .int p1)] := hl
  refine lv_aload_n hx hb dX12_lists_0 rfl (lv_at hl 0 rfl) ?_
  refine lv_iconst (v := 0) hx hb dX12_lists_1 (by decide) ?_
  refine q_put (v := .int 0) X hK h 0 rfl rfl wf_12 tyX12 tyX12_ok nmX12 0 (by decide) wm_5_170 rfl rfl rfl (Nat.le_of_ble_eq_true rfl) dX12_lists_2 (fun H locs h => ?_)
  have h : qW D _ _ [(h0, .inr (12, [.int 0, .ref h1, .ref h2, .ref h3, .ref h4, .int 0, .int 0, .int 0, .int 0, .int 0, .int 0, .int 0, .int 0, .int 0, .int (-1), .int 0, .ref h5, .ref h6, .ref h7, .ref h8, .ref h9, .int 0, .int 0, .ref h10, .ref h11, .ref h12, .int 0, .int 0, .ref h13, .ref h14, .ref h15, .ref h16, .ref h17, .int 0, .ref h18, .ref h19, .ref h20])), (h1, .inl (cy 1, 3918, .inl f0))] _ _ := h
  refine lv_iload_n hx hb dX12_lists_5 rfl (lv_at hl 1 rfl) ?_
  refine lv_i2l (v := 1) hx hb dX12_lists_6 (by decide +kernel) ?_
  refine lv_lconst (v := 0) hx hb dX12_lists_7 (by decide) ?_
  refine lv_ldc2 hx hb hown (ht _ wm_7_29) dX12_lists_8 ?_
  refine q_callSi (rest := []) (wr := [(h0, .inr (12, [.int 0, .ref h1, .ref h2, .ref h3, .ref h4, .int 0, .int 0, .int 0, .int 0, .int 0, .int 0, .int 0, .int 0, .int 0, .int (-1), .int 0, .ref h5, .ref h6, .ref h7, .ref h8, .ref h9, .int 0, .int 0, .ref h10, .ref h11, .ref h12, .int 0, .int 0, .ref h13, .ref h14, .ref h15, .ref h16, .ref h17, .int 0, .ref h18, .ref h19, .ref h20])), (h1, .inl (cy 1, 3918, .inl f0))]) X hK hA h (fun sz => kX12_within_509 l D cy   sz) wm_6_50 wm_6_52 wm_1_12 hd_X12_within wm_6_51 ⟨Nat.le_of_ble_eq_true rfl, Nat.le_of_ble_eq_true rfl⟩ hl.1 rfl (Nat.le_of_ble_eq_true rfl) dX12_lists_11 ⟨Nat.le_of_ble_eq_true rfl, Nat.le_of_ble_eq_true rfl⟩ [] [0, 1] rfl rfl (by decide) rfl rfl (fun r_11359 u_11359 H locs w_11359 h => ?_)
  obtain rfl : r_11359 = 1 := w_11359
  have h : qW D _ _ [(h0, .inr (12, [.int 0, .ref h1, .ref h2, .ref h3, .ref h4, .int 0, .int 0, .int 0, .int 0, .int 0, .int 0, .int 0, .int 0, .int 0, .int (-1), .int 0, .ref h5, .ref h6, .ref h7, .ref h8, .ref h9, .int 0, .int 0, .ref h10, .ref h11, .ref h12, .int 0, .int 0, .ref h13, .ref h14, .ref h15, .ref h16, .ref h17, .int 0, .ref h18, .ref h19, .ref h20])), (h1, .inl (cy 1, 3918, .inl f0))] _ _ := h
  refine lv_if_eq (tgt := 26) hx hb dX12_lists_14 (by decide) (fun c => absurd c (by decide +kernel)) (fun _ => ?_)
  refine lv_aload_n hx hb dX12_lists_17 rfl (lv_at hl 0 rfl) ?_
  refine lv_iload_n hx hb dX12_lists_18 rfl (lv_at hl 2 rfl) ?_
  refine lv_iload_n hx hb dX12_lists_19 rfl (lv_at hl 3 rfl) ?_
  have g_11366 : (0 : Int32) ≤ p0 := by
    simp only [Int32.lt_iff_toInt_lt, Int32.le_iff_toInt_le, ← Int32.toInt_inj] at hlo_p0 ⊢
    have k_0 : (0 : Int32).toInt = 0 := by decide
    omega
  refine q_callVi (rest := []) (wr := []) X hK hA h (fun sz => kX12_areTwo_624 l D cy h0 h1 p0 p1 h2 h3 h4 h5 h6 h7 h8 h9 h10 h11 h12 h13 h14 h15 h16 h17 h18 h19 h20 f0 g_11366 hf_f0_2 sz) wm_7_164 wm_7_167 wm_1_12 hd_X12_areTwo wm_7_166 wp_7_8 (ci := 12) (q0 := 0) rfl rfl ⟨Nat.le_of_ble_eq_true rfl, Nat.le_of_ble_eq_true rfl⟩ hl.1 rfl (Nat.le_of_ble_eq_true rfl) dX12_lists_20 ⟨Nat.le_of_ble_eq_true rfl, Nat.le_of_ble_eq_true rfl⟩ [0, 1] [] rfl rfl (by decide) rfl rfl (fun r_11367 u_11367 H locs w_11367 h => ?_)
  obtain rfl : r_11367 = 0 := w_11367
  have h : qW D _ _ [(h0, .inr (12, [.int 0, .ref h1, .ref h2, .ref h3, .ref h4, .int 0, .int 0, .int 0, .int 0, .int 0, .int 0, .int 0, .int 0, .int 0, .int (-1), .int 0, .ref h5, .ref h6, .ref h7, .ref h8, .ref h9, .int 0, .int 0, .ref h10, .ref h11, .ref h12, .int 0, .int 0, .ref h13, .ref h14, .ref h15, .ref h16, .ref h17, .int 0, .ref h18, .ref h19, .ref h20])), (h1, .inl (cy 1, 3918, .inl f0))] _ _ := h
  refine lv_if_ne (tgt := 29) hx hb dX12_lists_23 (by decide) (fun c => absurd c (by decide +kernel)) (fun _ => ?_)
  refine lv_bipush (v := (-2)) hx hb dX12_lists_26 (by decide) ?_
  exact q_iret X hr hlk hK h rfl (fun _ => 0, fun _ _ => 0, fun _ _ => 0) rfl [0, 1] rfl rfl dX12_lists_28 (Nat.le_of_ble_eq_true rfl) (Nat.le_of_ble_eq_true rfl)
set_option maxHeartbeats 4000000 in
set_option maxRecDepth 100000 in
theorem kX12_lists_756 (l : Launch) (D : va_G) (cy : Nat → ClassId) (h0 : Nat) (h1 : Nat) (p0 : Int32) (p1 : Int32) (h2 : Nat) (h3 : Nat) (h4 : Nat) (h5 : Nat) (h6 : Nat) (h7 : Nat) (h8 : Nat) (h9 : Nat) (h10 : Nat) (h11 : Nat) (h12 : Nat) (h13 : Nat) (h14 : Nat) (h15 : Nat) (h16 : Nat) (h17 : Nat) (h18 : Nat) (h19 : Nat) (h20 : Nat) (f0 : Nat → Int32) (hhi_p0 : p0 ≤ ((-1) : Int32)) (hf_f0_2 : f0 (Int32.toNatClampNeg 2) = 0) (sz : Nat) : MI l yX12_lists cX12_lists 8 .int { frames := 3, cells := 0, slots := 0, locals := 69 } [.ref h0, .int 2, .int p0, .int p1] D cy [(h0, .inr (12, [.int 0, .ref h1, .ref h2, .ref h3, .ref h4, .int 0, .int 0, .int 0, .int 0, .int 0, .int 0, .int 0, .int 0, .int 0, .int (-1), .int 0, .ref h5, .ref h6, .ref h7, .ref h8, .ref h9, .int 0, .int 0, .ref h10, .ref h11, .ref h12, .int 0, .int 0, .ref h13, .ref h14, .ref h15, .ref h16, .ref h17, .int 0, .ref h18, .ref h19, .ref h20])), (h1, .inl (cy 1, 3918, .inl f0))] sz (fun r u => r = (-2)) (fun u => [(h0, .inr (12, [.int 0, .ref h1, .ref h2, .ref h3, .ref h4, .int 0, .int 0, .int 0, .int 0, .int 0, .int 0, .int 0, .int 0, .int 0, .int (-1), .int 0, .ref h5, .ref h6, .ref h7, .ref h8, .ref h9, .int 0, .int 0, .ref h10, .ref h11, .ref h12, .int 0, .int 0, .ref h13, .ref h14, .ref h15, .ref h16, .ref h17, .int 0, .ref h18, .ref h19, .ref h20])), (h1, .inl (cy 1, 3918, .inl f0))]) 0 0 := by
  refine q_ent (own := RX12) (by decide) rfl (Nat.le_of_ble_eq_true rfl) (fun p e s m below meth c ls X hr hlk hnm hK h hA hl => ?_)
  obtain ⟨hx, hb, hml, hown, ht⟩ := id X
  have hl : lv_has ls 8 [(0, .ref h0), (1, .int 2), (2, .int p0), (3, .int p1)] := hl
  refine lv_aload_n hx hb dX12_lists_0 rfl (lv_at hl 0 rfl) ?_
  refine lv_iconst (v := 0) hx hb dX12_lists_1 (by decide) ?_
  refine q_put (v := .int 0) X hK h 0 rfl rfl wf_12 tyX12 tyX12_ok nmX12 0 (by decide) wm_5_170 rfl rfl rfl (Nat.le_of_ble_eq_true rfl) dX12_lists_2 (fun H locs h => ?_)
  have h : qW D _ _ [(h0, .inr (12, [.int 0, .ref h1, .ref h2, .ref h3, .ref h4, .int 0, .int 0, .int 0, .int 0, .int 0, .int 0, .int 0, .int 0, .int 0, .int (-1), .int 0, .ref h5, .ref h6, .ref h7, .ref h8, .ref h9, .int 0, .int 0, .ref h10, .ref h11, .ref h12, .int 0, .int 0, .ref h13, .ref h14, .ref h15, .ref h16, .ref h17, .int 0, .ref h18, .ref h19, .ref h20])), (h1, .inl (cy 1, 3918, .inl f0))] _ _ := h
  refine lv_iload_n hx hb dX12_lists_5 rfl (lv_at hl 1 rfl) ?_
  refine lv_i2l (v := 2) hx hb dX12_lists_6 (by decide +kernel) ?_
  refine lv_lconst (v := 0) hx hb dX12_lists_7 (by decide) ?_
  refine lv_ldc2 hx hb hown (ht _ wm_7_29) dX12_lists_8 ?_
  refine q_callSi (rest := []) (wr := [(h0, .inr (12, [.int 0, .ref h1, .ref h2, .ref h3, .ref h4, .int 0, .int 0, .int 0, .int 0, .int 0, .int 0, .int 0, .int 0, .int 0, .int (-1), .int 0, .ref h5, .ref h6, .ref h7, .ref h8, .ref h9, .int 0, .int 0, .ref h10, .ref h11, .ref h12, .int 0, .int 0, .ref h13, .ref h14, .ref h15, .ref h16, .ref h17, .int 0, .ref h18, .ref h19, .ref h20])), (h1, .inl (cy 1, 3918, .inl f0))]) X hK hA h (fun sz => kX12_within_515 l D cy   sz) wm_6_50 wm_6_52 wm_1_12 hd_X12_within wm_6_51 ⟨Nat.le_of_ble_eq_true rfl, Nat.le_of_ble_eq_true rfl⟩ hl.1 rfl (Nat.le_of_ble_eq_true rfl) dX12_lists_11 ⟨Nat.le_of_ble_eq_true rfl, Nat.le_of_ble_eq_true rfl⟩ [] [0, 1] rfl rfl (by decide) rfl rfl (fun r_11384 u_11384 H locs w_11384 h => ?_)
  obtain rfl : r_11384 = 1 := w_11384
  have h : qW D _ _ [(h0, .inr (12, [.int 0, .ref h1, .ref h2, .ref h3, .ref h4, .int 0, .int 0, .int 0, .int 0, .int 0, .int 0, .int 0, .int 0, .int 0, .int (-1), .int 0, .ref h5, .ref h6, .ref h7, .ref h8, .ref h9, .int 0, .int 0, .ref h10, .ref h11, .ref h12, .int 0, .int 0, .ref h13, .ref h14, .ref h15, .ref h16, .ref h17, .int 0, .ref h18, .ref h19, .ref h20])), (h1, .inl (cy 1, 3918, .inl f0))] _ _ := h
  refine lv_if_eq (tgt := 26) hx hb dX12_lists_14 (by decide) (fun c => absurd c (by decide +kernel)) (fun _ => ?_)
  refine lv_aload_n hx hb dX12_lists_17 rfl (lv_at hl 0 rfl) ?_
  refine lv_iload_n hx hb dX12_lists_18 rfl (lv_at hl 2 rfl) ?_
  refine lv_iload_n hx hb dX12_lists_19 rfl (lv_at hl 3 rfl) ?_
  have g_11390 : p0 ≤ ((-1) : Int32) := by
    simp only [Int32.lt_iff_toInt_lt, Int32.le_iff_toInt_le, ← Int32.toInt_inj] at hhi_p0 ⊢
    have k_0 : ((-1) : Int32).toInt = -1 := by decide
    omega
  refine q_callVi (rest := []) (wr := []) X hK hA h (fun sz => kX12_areTwo_621 l D cy h0 h1 p0 p1 h2 h3 h4 h5 h6 h7 h8 h9 h10 h11 h12 h13 h14 h15 h16 h17 h18 h19 h20 f0 g_11390 hf_f0_2 sz) wm_7_164 wm_7_167 wm_1_12 hd_X12_areTwo wm_7_166 wp_7_8 (ci := 12) (q0 := 0) rfl rfl ⟨Nat.le_of_ble_eq_true rfl, Nat.le_of_ble_eq_true rfl⟩ hl.1 rfl (Nat.le_of_ble_eq_true rfl) dX12_lists_20 ⟨Nat.le_of_ble_eq_true rfl, Nat.le_of_ble_eq_true rfl⟩ [0, 1] [] rfl rfl (by decide) rfl rfl (fun r_11391 u_11391 H locs w_11391 h => ?_)
  obtain rfl : r_11391 = 0 := w_11391
  have h : qW D _ _ [(h0, .inr (12, [.int 0, .ref h1, .ref h2, .ref h3, .ref h4, .int 0, .int 0, .int 0, .int 0, .int 0, .int 0, .int 0, .int 0, .int 0, .int (-1), .int 0, .ref h5, .ref h6, .ref h7, .ref h8, .ref h9, .int 0, .int 0, .ref h10, .ref h11, .ref h12, .int 0, .int 0, .ref h13, .ref h14, .ref h15, .ref h16, .ref h17, .int 0, .ref h18, .ref h19, .ref h20])), (h1, .inl (cy 1, 3918, .inl f0))] _ _ := h
  refine lv_if_ne (tgt := 29) hx hb dX12_lists_23 (by decide) (fun c => absurd c (by decide +kernel)) (fun _ => ?_)
  refine lv_bipush (v := (-2)) hx hb dX12_lists_26 (by decide) ?_
  exact q_iret X hr hlk hK h rfl (fun _ => 0, fun _ _ => 0, fun _ _ => 0) rfl [0, 1] rfl rfl dX12_lists_28 (Nat.le_of_ble_eq_true rfl) (Nat.le_of_ble_eq_true rfl)
