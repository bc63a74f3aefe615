set_option maxHeartbeats 60000000 in
set_option maxRecDepth 100000 in
theorem gX12_house_59bfbb9 (l : Launch) (D : va_G) (cy : Nat → ClassId) (h0 : Nat) (h1 : Nat) (h2 : Nat) (h3 : Nat) (p0 : Int32) (p1 : Int32) (w0 : Value) (p2 : Int32) (p3 : Int32) (p4 : Int32) (p5 : Int32) (p6 : Int32) (p7 : Int32) (p8 : Int32) (p9 : Int32) (p10 : Int32) (p11 : Int32) (p12 : Int32) (w1 : Value) (w2 : Value) (w3 : Value) (w4 : Value) (w5 : Value) (p13 : Int32) (p14 : Int32) (w6 : Value) (w7 : Value) (w8 : Value) (p15 : Int32) (p16 : Int32) (w9 : Value) (w10 : Value) (w11 : Value) (w12 : Value) (w13 : Value) (p17 : Int32) (w14 : Value) (w15 : Value) (w16 : Value) (f0 : Nat → Int32) (p18 : Int32) (f1 : Nat → Int32) (f2 : Nat → Int32) (p19 : Int32) (p20 : Int32) (p21 : Int32) (hp0 : (-2147483648) ≤ (p0).toInt ∧ (p0).toInt ≤ 2147483647) (hp1 : (-2147483648) ≤ (p1).toInt ∧ (p1).toInt ≤ 2147483647) (hp2 : 0 ≤ (p2).toInt ∧ (p2).toInt ≤ 900) (hp3 : 0 ≤ (p3).toInt ∧ (p3).toInt ≤ 900) (hp4 : 0 ≤ (p4).toInt ∧ (p4).toInt ≤ 900) (hp5 : 0 ≤ (p5).toInt ∧ (p5).toInt ≤ 900) (hp6 : (-2147483648) ≤ (p6).toInt ∧ (p6).toInt ≤ 2147483647) (hp7 : 0 ≤ (p7).toInt ∧ (p7).toInt ≤ 999) (hp8 : (-2147483648) ≤ (p8).toInt ∧ (p8).toInt ≤ 2147483647) (hp9 : (-2147483648) ≤ (p9).toInt ∧ (p9).toInt ≤ 2147483647) (hp10 : (-2147483648) ≤ (p10).toInt ∧ (p10).toInt ≤ 2147483647) (hp11 : (-2147483648) ≤ (p11).toInt ∧ (p11).toInt ≤ 2147483647) (hp12 : (-2147483648) ≤ (p12).toInt ∧ (p12).toInt ≤ 2147483647) (hp13 : (-2147483648) ≤ (p13).toInt ∧ (p13).toInt ≤ 2147483647) (hp14 : (-2147483648) ≤ (p14).toInt ∧ (p14).toInt ≤ 2147483647) (hp15 : (-2147483648) ≤ (p15).toInt ∧ (p15).toInt ≤ 2147483647) (hp16 : (-2147483648) ≤ (p16).toInt ∧ (p16).toInt ≤ 2147483647) (hp17 : (-2147483648) ≤ (p17).toInt ∧ (p17).toInt ≤ 2147483647) (hp18 : 0 ≤ (p18).toInt ∧ (p18).toInt ≤ 10) (hp19 : (-2147483648) ≤ (p19).toInt ∧ (p19).toInt ≤ 2147483647) (hp20 : 0 ≤ (p20).toInt ∧ (p20).toInt ≤ 10) (hp21 : 0 ≤ (p21).toInt ∧ (p21).toInt ≤ 900) (htf0_84 : f0 84 = p18) (rf0 : AL f0) (htf2_1 : f2 1 = p19) (htf2_2 : f2 2 = p20) (htf2_405 : f2 405 = p21) (sz : Nat) : MI l yX12_house cX12_house 3 .int { frames := 33, cells := 0, slots := 0, locals := 800 } [.ref h0, .int p0] D cy (wk_04d6d8a2c cy h0 p1 h1 w0 h2 h3 p2 p3 p4 p5 p6 p7 p8 p9 p10 p11 p12 w1 w2 w3 w4 w5 p13 p14 w6 w7 w8 p15 p16 w9 w10 w11 w12 w13 p17 w14 w15 w16 h1 f0 h2 f1 h3 f2) sz (fun r u => ((-2147483648) ≤ r.toInt ∧ r.toInt ≤ 2147483647) ∧ AL (u.2.1 0) ∧ (0 ≤ (u.2.1 1 0).toInt ∧ (u.2.1 1 0).toInt ≤ 10) ∧ (0 ≤ (u.2.1 2 0).toInt ∧ (u.2.1 2 0).toInt ≤ 0) ∧ (0 ≤ (u.2.1 3 0).toInt ∧ (u.2.1 3 0).toInt ≤ 900) ∧ (0 ≤ (u.2.1 4 0).toInt ∧ (u.2.1 4 0).toInt ≤ 900) ∧ (0 ≤ (u.2.1 5 0).toInt ∧ (u.2.1 5 0).toInt ≤ 900) ∧ (0 ≤ (u.2.1 6 0).toInt ∧ (u.2.1 6 0).toInt ≤ 900) ∧ ((-2147483648) ≤ (u.2.1 7 0).toInt ∧ (u.2.1 7 0).toInt ≤ 2147483647) ∧ (0 ≤ (u.2.1 8 0).toInt ∧ (u.2.1 8 0).toInt ≤ 999) ∧ ((-2147483648) ≤ (u.2.1 9 0).toInt ∧ (u.2.1 9 0).toInt ≤ 2147483647) ∧ ((-2147483648) ≤ (u.2.1 10 0).toInt ∧ (u.2.1 10 0).toInt ≤ 2147483647) ∧ ((-2147483648) ≤ (u.2.1 11 0).toInt ∧ (u.2.1 11 0).toInt ≤ 2147483647) ∧ ((-2147483648) ≤ (u.2.1 12 0).toInt ∧ (u.2.1 12 0).toInt ≤ 2147483647) ∧ ((-2147483648) ≤ (u.2.1 13 0).toInt ∧ (u.2.1 13 0).toInt ≤ 2147483647) ∧ ((-2147483648) ≤ (u.2.1 15 0).toInt ∧ (u.2.1 15 0).toInt ≤ 2147483647) ∧ (0 ≤ (u.2.1 16 0).toInt ∧ (u.2.1 16 0).toInt ≤ 10) ∧ (0 ≤ (u.2.1 17 0).toInt ∧ (u.2.1 17 0).toInt ≤ 900) ∧ (u.2.1 0) 84 = (u.2.1 1 0) ∧ (u.2.1 14) 1 = (u.2.1 15 0) ∧ (u.2.1 14) 2 = (u.2.1 16 0) ∧ (u.2.1 14) 405 = (u.2.1 17 0) ∧ ((((u.2.1 3 0) : Int32).toInt = (p2 : Int32).toInt ∧ ((p0 : Int32).toInt < 0 ∨ (p2 : Int32).toInt < (p0 : Int32).toInt)) ∨ (((u.2.1 3 0) : Int32).toInt = 0 ∧ 0 ≤ (p0 : Int32).toInt ∧ (p0 : Int32).toInt ≤ (p2 : Int32).toInt)) ∧ True) (fun u => (wk_04d6d8a2c cy h0 (u.2.1 2 0) h1 w0 h2 h3 (u.2.1 3 0) (u.2.1 4 0) (u.2.1 5 0) (u.2.1 6 0) (u.2.1 7 0) (u.2.1 8 0) (u.2.1 9 0) (u.2.1 10 0) (u.2.1 11 0) (u.2.1 12 0) (u.2.1 13 0) w1 w2 w3 w4 w5 p13 p14 w6 w7 w8 p15 p16 w9 w10 w11 w12 w13 p17 w14 w15 w16 h1 (u.2.1 0) h2 f1 h3 (u.2.1 14))) 0 0 := by
  refine q_ent (own := RX12) (by decide) rfl (Nat.le_of_ble_eq_true rfl) (fun p e s m below meth c ls X hr hlk hnm hK hT h hA hl => ?_)
  obtain ⟨hx, hb, hml, hown, ht⟩ := id X
  replace hl : lv_has ls 3 [(0, .ref h0), (1, .int p0)] := hl
  refine lv_aload_n hx hb dX12_house_0 rfl (lv_at hl 0 rfl) ?_
  refine lv_iconst (v := 0) hx hb dX12_house_1 (by decide) ?_
  refine q_put (v := .int 0) X hK h 0 rfl rfl wf_12 tyX12 tyX12_ok nmX12 0 (by decide) wm_5_170 rfl rfl rfl (Nat.le_of_ble_eq_true rfl) dX12_house_2 (fun H locs h_1 => ?_)
  clear h
  replace h_1 : qW D _ _ (wk_04d6d8a2c cy h0 0 h1 w0 h2 h3 p2 p3 p4 p5 p6 p7 p8 p9 p10 p11 p12 w1 w2 w3 w4 w5 p13 p14 w6 w7 w8 p15 p16 w9 w10 w11 w12 w13 p17 w14 w15 w16 h1 f0 h2 f1 h3 f2) _ _ := h_1
  refine lv_iload_n hx hb dX12_house_5 rfl (lv_at hl 1 rfl) ?_
  refine lv_i2l hx hb dX12_house_6 rfl ?_
  obtain ⟨z_2, ez_2, hz_2⟩ := e_i2l (x := p0) rfl
  refine q_cl z_2 ez_2 ?_
  clear ez_2
  refine lv_lconst (v := 0) hx hb dX12_house_7 (by decide) ?_
  refine lv_aload_n hx hb dX12_house_8 rfl (lv_at hl 0 rfl) ?_
  refine q_get X hK h_1 0 rfl rfl wf_12 5 (by decide) rfl wm_5_175 dX12_house_9 ?_
  refine lv_i2l hx hb dX12_house_12 rfl ?_
  obtain ⟨z_3, ez_3, hz_3⟩ := e_i2l (x := p2) rfl
  refine q_cl z_3 ez_3 ?_
  clear ez_3
  refine q_callSi (rest := []) (wr := (wk_04d6d8a2c cy h0 0 h1 w0 h2 h3 p2 p3 p4 p5 p6 p7 p8 p9 p10 p11 p12 w1 w2 w3 w4 w5 p13 p14 w6 w7 w8 p15 p16 w9 w10 w11 w12 w13 p17 w14 w15 w16 h1 f0 h2 f1 h3 f2)) X hK hT hA h_1 (fun sz => gX12_within_00c7897 l D cy z_2 (0 : Int64) z_3 (j_rng _) ⟨by decide +kernel, by decide +kernel⟩ ⟨by omega, by omega⟩ sz) wm_6_50 wm_6_52 wm_1_12 hd_X12_within wm_6_51 ⟨Nat.le_of_ble_eq_true rfl, Nat.le_of_ble_eq_true rfl⟩ hl.1 rfl (Nat.le_of_ble_eq_true rfl) dX12_house_13 ⟨Nat.le_of_ble_eq_true rfl, Nat.le_of_ble_eq_true rfl⟩ [] [0, 1, 2, 3] rfl rfl (by decide) rfl rfl (fun r_4 u_4 H locs w_4 h_4 => ?_)
  clear h_1
  obtain ⟨wr_4, y4_0, _⟩ := w_4
  have lq_4_1 : (0 : Int64).toInt = 0 := (by decide)
  replace h_4 : qW D _ _ (wk_04d6d8a2c cy h0 0 h1 w0 h2 h3 p2 p3 p4 p5 p6 p7 p8 p9 p10 p11 p12 w1 w2 w3 w4 w5 p13 p14 w6 w7 w8 p15 p16 w9 w10 w11 w12 w13 p17 w14 w15 w16 h1 f0 h2 f1 h3 f2) _ _ := h_4
  refine lv_if_ne (tgt := 22) hx hb dX12_house_16 (by decide) (fun c_5 => ?_) (fun c_5 => ?_)
  · replace c_5 := i_ne (x := r_4) (y := 0) rfl (show (0 : Int32).toInt = 0 by decide) c_5
    replace y4_0 := a10_1 y4_0 c_5
    refine lv_aload_n hx hb dX12_house_22 rfl (lv_at hl 0 rfl) ?_
    refine lv_iload_n hx hb dX12_house_23 rfl (lv_at hl 1 rfl) ?_
    refine q_put (v := .int p0) X hK h_4 0 rfl rfl wf_12 tyX12 tyX12_ok nmX12 8 (by decide) wm_5_178 rfl rfl rfl (Nat.le_of_ble_eq_true rfl) dX12_house_24 (fun H locs h_6 => ?_)
    clear h_4
    replace h_6 : qW D _ _ (wk_04d6d8a2c cy h0 0 h1 w0 h2 h3 p2 p3 p4 p0 p6 p7 p8 p9 p10 p11 p12 w1 w2 w3 w4 w5 p13 p14 w6 w7 w8 p15 p16 w9 w10 w11 w12 w13 p17 w14 w15 w16 h1 f0 h2 f1 h3 f2) _ _ := h_6
    refine lv_aload_n hx hb dX12_house_27 rfl (lv_at hl 0 rfl) ?_
    refine lv_iconst (v := 0) hx hb dX12_house_28 (by decide) ?_
    refine q_put (v := .int 0) X hK h_6 0 rfl rfl wf_12 tyX12 tyX12_ok nmX12 5 (by decide) wm_5_175 rfl rfl rfl (Nat.le_of_ble_eq_true rfl) dX12_house_29 (fun H locs h_7 => ?_)
    clear h_6
    replace h_7 : qW D _ _ (wk_04d6d8a2c cy h0 0 h1 w0 h2 h3 0 p3 p4 p0 p6 p7 p8 p9 p10 p11 p12 w1 w2 w3 w4 w5 p13 p14 w6 w7 w8 p15 p16 w9 w10 w11 w12 w13 p17 w14 w15 w16 h1 f0 h2 f1 h3 f2) _ _ := h_7
    refine lv_aload_n hx hb dX12_house_32 rfl (lv_at hl 0 rfl) ?_
    refine lv_iconst (v := 0) hx hb dX12_house_33 (by decide) ?_
    refine q_put (v := .int 0) X hK h_7 0 rfl rfl wf_12 tyX12 tyX12_ok nmX12 7 (by decide) wm_5_177 rfl rfl rfl (Nat.le_of_ble_eq_true rfl) dX12_house_34 (fun H locs h_8 => ?_)
    clear h_7
    replace h_8 : qW D _ _ (wk_04d6d8a2c cy h0 0 h1 w0 h2 h3 0 p3 0 p0 p6 p7 p8 p9 p10 p11 p12 w1 w2 w3 w4 w5 p13 p14 w6 w7 w8 p15 p16 w9 w10 w11 w12 w13 p17 w14 w15 w16 h1 f0 h2 f1 h3 f2) _ _ := h_8
    refine lv_aload_n hx hb dX12_house_37 rfl (lv_at hl 0 rfl) ?_
    refine lv_iconst (v := 0) hx hb dX12_house_38 (by decide) ?_
    refine q_put (v := .int 0) X hK h_8 0 rfl rfl wf_12 tyX12 tyX12_ok nmX12 11 (by decide) wm_5_181 rfl rfl rfl (Nat.le_of_ble_eq_true rfl) dX12_house_39 (fun H locs h_9 => ?_)
    clear h_8
    replace h_9 : qW D _ _ (wk_04d6d8a2c cy h0 0 h1 w0 h2 h3 0 p3 0 p0 p6 p7 0 p9 p10 p11 p12 w1 w2 w3 w4 w5 p13 p14 w6 w7 w8 p15 p16 w9 w10 w11 w12 w13 p17 w14 w15 w16 h1 f0 h2 f1 h3 f2) _ _ := h_9
    refine lv_aload_n hx hb dX12_house_42 rfl (lv_at hl 0 rfl) ?_
    refine q_get X hK h_9 0 rfl rfl wf_12 4 (by decide) rfl wm_5_174 dX12_house_43 ?_
    refine q_callSv (rest := []) (wr := [(h0, .inr (12, [.int 0, .ref h1, w0, .ref h2, .ref h3, .int 0, .int p3, .int 0, .int p0, .int p6, .int p7, .int 0, .int p9, .int p10, .int p11, .int p12, w1, w2, w3, w4, w5, .int p13, .int p14, w6, w7, w8, .int p15, .int p16, w9, w10, w11, w12, w13, .int p17, w14, w15, w16])), (h1, .inl (cy 1, 3918, .inl f0)), (h2, .inl (cy 1, 900, .inl f1))]) X hK hT hA h_9 (fun sz => gX12_plain_11a4de8 l D cy h3 f2 p19 p20 p21 (i_rng _) hp20 hp21 htf2_1 htf2_2 htf2_405 sz) wm_5_167 wm_5_169 wm_1_12 hd_X12_plain wm_5_168 ⟨Nat.le_of_ble_eq_true rfl, Nat.le_of_ble_eq_true rfl⟩ hl.1 rfl (Nat.le_of_ble_eq_true rfl) dX12_house_46 ⟨Nat.le_of_ble_eq_true rfl, Nat.le_of_ble_eq_true rfl⟩ [3] [0, 1, 2] rfl rfl (by decide) rfl rfl (fun u_10 H locs w_10 h_10 => ?_)
    clear h_9
    obtain ⟨w10_0, w10_1, w10_2, w10_3, w10_4, w10_5, y10_0, _⟩ := w_10
    replace h_10 : qW D _ _ (wk_04d6d8a2c cy h0 0 h1 w0 h2 h3 0 p3 0 p0 p6 p7 0 p9 p10 p11 p12 w1 w2 w3 w4 w5 p13 p14 w6 w7 w8 p15 p16 w9 w10 w11 w12 w13 p17 w14 w15 w16 h1 f0 h2 f1 h3 (u_10.2.1 0)) _ _ := h_10
    have hf_11 : HF (0 : Int32).toInt (u_10.2.1 0) (((u_10.2.1 3 0) : Int32).toInt).toNat := hf_0 y10_0
    refine lv_aload_n hx hb dX12_house_49 rfl (lv_at hl 0 rfl) ?_
    refine q_callVv (rest := []) (wr := (wk_7c5ca55a5 cy h1 f0 h3 (u_10.2.1 0))) X hK hT hA h_10 (fun sz => gX12_next_c515fc5 l D cy h0 h2 (0 : Int32) (.ref h1) w0 (.ref h3) (0 : Int32) p3 (0 : Int32) p0 p6 p7 (0 : Int32) p9 p10 p11 p12 w1 w2 w3 w4 w5 p13 p14 w6 w7 w8 p15 p16 w9 w10 w11 w12 w13 p17 w14 w15 w16 f1 ⟨by decide +kernel, by decide +kernel⟩ ⟨by decide +kernel, by decide +kernel⟩ hp3 ⟨by decide +kernel, by decide +kernel⟩ ⟨by omega, by omega⟩ (i_rng _) hp7 (i_rng _) (i_rng _) (i_rng _) (i_rng _) (i_rng _) (i_rng _) (i_rng _) (i_rng _) (i_rng _) (i_rng _) (by have q0 : (0 : Int32).toInt = 0 := (by decide); omega) sz) wm_6_53 wm_6_56 wm_1_12 hd_X12_next wm_6_55 wp_4_3 (ci := 12) (q0 := 0) rfl rfl ⟨Nat.le_of_ble_eq_true rfl, Nat.le_of_ble_eq_true rfl⟩ hl.1 rfl (Nat.le_of_ble_eq_true rfl) dX12_house_50 ⟨Nat.le_of_ble_eq_true rfl, Nat.le_of_ble_eq_true rfl⟩ [0, 2] [1, 3] rfl rfl (by decide) rfl rfl (fun u_12 H locs w_12 h_12 => ?_)
    clear h_10
    obtain ⟨w12_0, w12_1, w12_2, w12_3, y12_0, y12_1, y12_2, _⟩ := w_12
    replace h_12 : qW D _ _ (wk_db69142ea cy h1 f0 h3 (u_10.2.1 0) h0 0 h1 w0 h2 h3 0 (u_12.2.1 0 0) (u_12.2.1 1 0) p0 (u_12.2.1 2 0) (u_12.2.1 3 0) 0 p9 p10 p11 p12 w1 w2 w3 w4 w5 p13 p14 w6 w7 w8 p15 p16 w9 w10 w11 w12 w13 p17 w14 w15 w16 h2 f1) _ _ := h_12
    refine lv_aload_n hx hb dX12_house_53 rfl (lv_at hl 0 rfl) ?_
    refine lv_iconst (v := 0) hx hb dX12_house_54 (by decide) ?_
    refine q_callVi (rest := []) (wr := (wk_7c5ca55a5 cy h1 f0 h3 (u_10.2.1 0))) X hK hT hA h_12 (fun sz => gX12_eats_cc4ff34 l D cy h0 h2 (0 : Int32) (.ref h1) w0 (.ref h3) (0 : Int32) (u_12.2.1 0 0) (u_12.2.1 1 0) p0 (u_12.2.1 2 0) (u_12.2.1 3 0) (0 : Int32) p9 p10 p11 p12 w1 w2 w3 w4 w5 p13 p14 w6 w7 w8 p15 p16 w9 w10 w11 w12 w13 p17 w14 w15 w16 f1 ⟨by decide +kernel, by decide +kernel⟩ ⟨by decide +kernel, by decide +kernel⟩ w12_0 w12_1 ⟨by omega, by omega⟩ (i_rng _) w12_3 (i_rng _) (i_rng _) (i_rng _) (i_rng _) (i_rng _) (i_rng _) (i_rng _) (i_rng _) (i_rng _) (i_rng _) (y12_0) (y12_1) sz) wm_6_75 wm_6_78 wm_1_12 hd_X12_eats wm_6_77 wp_4_6 (ci := 12) (q0 := 0) rfl rfl ⟨Nat.le_of_ble_eq_true rfl, Nat.le_of_ble_eq_true rfl⟩ hl.1 rfl (Nat.le_of_ble_eq_true rfl) dX12_house_55 ⟨Nat.le_of_ble_eq_true rfl, Nat.le_of_ble_eq_true rfl⟩ [2, 3] [0, 1] rfl rfl (by decide) rfl rfl (fun r_13 u_13 H locs w_13 h_13 => ?_)
    clear h_12
    obtain ⟨wr_13, w13_0, w13_1, w13_2, w13_3, y13_0, y13_1, y13_2, _⟩ := w_13
    have lq_13_1 : (0 : Int32).toInt = 0 := (by decide)
    replace h_13 : qW D _ _ (wk_db69142ea cy h1 f0 h3 (u_10.2.1 0) h0 0 h1 w0 h2 h3 0 (u_13.2.1 0 0) (u_13.2.1 1 0) p0 (u_13.2.1 2 0) (u_13.2.1 3 0) 0 p9 p10 p11 p12 w1 w2 w3 w4 w5 p13 p14 w6 w7 w8 p15 p16 w9 w10 w11 w12 w13 p17 w14 w15 w16 h2 f1) _ _ := h_13
    refine q_jn (pc2 := 66) (fun H locs ls st => ∃ v66_14_0 : Int32, ∃ v66_14_1 : Int32, ((-2147483648) ≤ (v66_14_0).toInt ∧ (v66_14_0).toInt ≤ 2147483647) ∧ ((-2147483648) ≤ (v66_14_1).toInt ∧ (v66_14_1).toInt ≤ 2147483647) ∧ (0 ≤ ((u_13.2.1 0 0) : Int32).toInt ∧ ((u_13.2.1 0 0) : Int32).toInt ≤ ((u_13.2.1 1 0) : Int32).toInt ∧ ((u_13.2.1 1 0) : Int32).toInt ≤ (p0 : Int32).toInt) ∧ (((u_13.2.1 2 0) : Int32).toInt = 26 ∨ ((u_13.2.1 0 0) : Int32).toInt < ((u_13.2.1 1 0) : Int32).toInt) ∧ ((v66_14_0 : Int32).toInt ≠ 0 ∨ ((u_10.2.1 3 0) : Int32).toInt ≤ ((u_13.2.1 0 0) : Int32).toInt) ∧ (HF (v66_14_0 : Int32).toInt (u_10.2.1 0) (((u_10.2.1 3 0) : Int32).toInt).toNat) ∧ (0 ≤ (p0 : Int32).toInt ∧ (p0 : Int32).toInt ≤ 900) ∧ (0 ≤ (p0 : Int32).toInt ∧ (p0 : Int32).toInt ≤ (p2 : Int32).toInt) ∧ st = [] ∧ qW D (va_A (wk_04d6d8a2c cy h0 p1 h1 w0 h2 h3 p2 p3 p4 p5 p6 p7 p8 p9 p10 p11 p12 w1 w2 w3 w4 w5 p13 p14 w6 w7 w8 p15 p16 w9 w10 w11 w12 w13 p17 w14 w15 w16 h1 f0 h2 f1 h3 f2) sz) s.heap (wk_db69142ea cy h1 f0 h3 (u_10.2.1 0) h0 0 h1 w0 h2 h3 0 (u_13.2.1 0 0) (u_13.2.1 1 0) p0 (u_13.2.1 2 0) (u_13.2.1 3 0) v66_14_0 v66_14_1 p10 p11 p12 w1 w2 w3 w4 w5 p13 p14 w6 w7 w8 p15 p16 w9 w10 w11 w12 w13 p17 w14 w15 w16 h2 f1) H locs ∧ lv_has ls 3 [(0, .ref h0), (1, .int p0)]) (fun H locs ls st hP => ?_) (fun J_66 => ?_)
    · obtain ⟨v66_14_0, v66_14_1, hv66_14_0, hv66_14_1, x15_0, x16_1, x17_2, x18_3, x19_4, x20_5, rfl, h, hl⟩ := hP
      refine lv_aload_n hx hb dX12_house_66 rfl (lv_at hl 0 rfl) ?_
      refine lv_iconst (v := 1) hx hb dX12_house_67 (by decide) ?_
      refine q_callVi (rest := []) (wr := (wk_7c5ca55a5 cy h1 f0 h3 (u_10.2.1 0))) X hK hT hA h (fun sz => gX12_eats_b39a967 l D cy h0 h2 (0 : Int32) (.ref h1) w0 (.ref h3) (0 : Int32) (u_13.2.1 0 0) (u_13.2.1 1 0) p0 (u_13.2.1 2 0) (u_13.2.1 3 0) v66_14_0 v66_14_1 p10 p11 p12 w1 w2 w3 w4 w5 p13 p14 w6 w7 w8 p15 p16 w9 w10 w11 w12 w13 p17 w14 w15 w16 f1 ⟨by decide +kernel, by decide +kernel⟩ ⟨by decide +kernel, by decide +kernel⟩ w13_0 w13_1 ⟨by omega, by omega⟩ (i_rng _) w13_3 (i_rng _) (i_rng _) (i_rng _) (i_rng _) (i_rng _) (i_rng _) (i_rng _) (i_rng _) (i_rng _) (i_rng _) (x15_0) (x16_1) sz) wm_6_75 wm_6_78 wm_1_12 hd_X12_eats wm_6_77 wp_4_6 (ci := 12) (q0 := 0) rfl rfl ⟨Nat.le_of_ble_eq_true rfl, Nat.le_of_ble_eq_true rfl⟩ hl.1 rfl (Nat.le_of_ble_eq_true rfl) dX12_house_68 ⟨Nat.le_of_ble_eq_true rfl, Nat.le_of_ble_eq_true rfl⟩ [2, 3] [0, 1] rfl rfl (by decide) rfl rfl (fun r_21 u_21 H locs w_21 h_21 => ?_)
      clear h
      obtain ⟨wr_21, w21_0, w21_1, w21_2, w21_3, y21_0, y21_1, y21_2, _⟩ := w_21
      have lq_21_1 : (1 : Int32).toInt = 1 := (by decide)
      replace h_21 : qW D _ _ (wk_db69142ea cy h1 f0 h3 (u_10.2.1 0) h0 0 h1 w0 h2 h3 0 (u_21.2.1 0 0) (u_21.2.1 1 0) p0 (u_21.2.1 2 0) (u_21.2.1 3 0) v66_14_0 v66_14_1 p10 p11 p12 w1 w2 w3 w4 w5 p13 p14 w6 w7 w8 p15 p16 w9 w10 w11 w12 w13 p17 w14 w15 w16 h2 f1) _ _ := h_21
      refine q_jn (pc2 := 79) (fun H locs ls st => ∃ v79_22_0 : Int32, ∃ v79_22_1 : Int32, ((-2147483648) ≤ (v79_22_0).toInt ∧ (v79_22_0).toInt ≤ 2147483647) ∧ ((-2147483648) ≤ (v79_22_1).toInt ∧ (v79_22_1).toInt ≤ 2147483647) ∧ (0 ≤ ((u_21.2.1 0 0) : Int32).toInt ∧ ((u_21.2.1 0 0) : Int32).toInt ≤ ((u_21.2.1 1 0) : Int32).toInt ∧ ((u_21.2.1 1 0) : Int32).toInt ≤ (p0 : Int32).toInt) ∧ (((u_21.2.1 2 0) : Int32).toInt = 26 ∨ ((u_21.2.1 0 0) : Int32).toInt < ((u_21.2.1 1 0) : Int32).toInt) ∧ ((v79_22_0 : Int32).toInt ≠ 0 ∨ ((u_10.2.1 3 0) : Int32).toInt ≤ ((u_21.2.1 0 0) : Int32).toInt) ∧ (HF (v79_22_0 : Int32).toInt (u_10.2.1 0) (((u_10.2.1 3 0) : Int32).toInt).toNat) ∧ (0 ≤ (p0 : Int32).toInt ∧ (p0 : Int32).toInt ≤ 900) ∧ (0 ≤ (p0 : Int32).toInt ∧ (p0 : Int32).toInt ≤ (p2 : Int32).toInt) ∧ st = [] ∧ qW D (va_A (wk_04d6d8a2c cy h0 p1 h1 w0 h2 h3 p2 p3 p4 p5 p6 p7 p8 p9 p10 p11 p12 w1 w2 w3 w4 w5 p13 p14 w6 w7 w8 p15 p16 w9 w10 w11 w12 w13 p17 w14 w15 w16 h1 f0 h2 f1 h3 f2) sz) s.heap (wk_db69142ea cy h1 f0 h3 (u_10.2.1 0) h0 0 h1 w0 h2 h3 0 (u_21.2.1 0 0) (u_21.2.1 1 0) p0 (u_21.2.1 2 0) (u_21.2.1 3 0) v79_22_0 v79_22_1 p10 p11 p12 w1 w2 w3 w4 w5 p13 p14 w6 w7 w8 p15 p16 w9 w10 w11 w12 w13 p17 w14 w15 w16 h2 f1) H locs ∧ lv_has ls 3 [(0, .ref h0), (1, .int p0)]) (fun H locs ls st hP => ?_) (fun J_79 => ?_)
      · obtain ⟨v79_22_0, v79_22_1, hv79_22_0, hv79_22_1, x23_0, x24_1, x25_2, x26_3, x27_4, x28_5, rfl, h, hl⟩ := hP
        refine lv_aload_n hx hb dX12_house_79 rfl (lv_at hl 0 rfl) ?_
        refine q_get X hK h 2 rfl rfl wf_12 4 (by decide) rfl wm_5_174 dX12_house_80 ?_
        refine lv_iconst (v := 1) hx hb dX12_house_83 (by decide) ?_
        refine lv_aload_n hx hb dX12_house_84 rfl (lv_at hl 0 rfl) ?_
        refine lv_iconst (v := 1) hx hb dX12_house_85 (by decide) ?_
        refine lv_iconst (v := 3) hx hb dX12_house_86 (by decide) ?_
        refine q_callVi (rest := [.int 1, .ref h3]) (wr := (wk_7c5ca55a5 cy h1 f0 h3 (u_10.2.1 0))) X hK hT hA h (fun sz => gX12_takes_bfb9e22 l D cy h0 h2 (1 : Int32) (3 : Int32) (0 : Int32) (.ref h1) w0 (.ref h3) (0 : Int32) (u_21.2.1 0 0) (u_21.2.1 1 0) p0 (u_21.2.1 2 0) (u_21.2.1 3 0) v79_22_0 v79_22_1 p10 p11 p12 w1 w2 w3 w4 w5 p13 p14 w6 w7 w8 p15 p16 w9 w10 w11 w12 w13 p17 w14 w15 w16 f1 ⟨by decide +kernel, by decide +kernel⟩ ⟨by decide +kernel, by decide +kernel⟩ ⟨by decide +kernel, by decide +kernel⟩ ⟨by decide +kernel, by decide +kernel⟩ w21_0 w21_1 ⟨by omega, by omega⟩ (i_rng _) w21_3 (i_rng _) (i_rng _) (i_rng _) (i_rng _) (i_rng _) (i_rng _) (i_rng _) (i_rng _) (i_rng _) (i_rng _) (x23_0) (x24_1) sz) wm_6_87 wm_6_90 wm_1_12 hd_X12_takes wm_6_89 wp_4_9 (ci := 12) (q0 := 0) rfl rfl ⟨Nat.le_of_ble_eq_true rfl, Nat.le_of_ble_eq_true rfl⟩ hl.1 rfl (Nat.le_of_ble_eq_true rfl) dX12_house_87 ⟨Nat.le_of_ble_eq_true rfl, Nat.le_of_ble_eq_true rfl⟩ [2, 3] [0, 1] rfl rfl (by decide) rfl rfl (fun r_29 u_29 H locs w_29 h_29 => ?_)
        clear h
        obtain ⟨wr_29, w29_0, w29_1, w29_2, w29_3, w29_4, w29_5, y29_0, y29_1, y29_2, y29_3, y29_4, _⟩ := w_29
        have lq_29_1 : (1 : Int32).toInt = 1 := (by decide)
        have lq_29_2 : (3 : Int32).toInt = 3 := (by decide)
        replace h_29 : qW D _ _ (wk_db69142ea cy h1 f0 h3 (u_10.2.1 0) h0 0 h1 w0 h2 h3 0 (u_29.2.1 2 0) (u_29.2.1 3 0) p0 (u_29.2.1 4 0) (u_29.2.1 5 0) (u_29.2.1 0 0) (u_29.2.1 1 0) p10 p11 p12 w1 w2 w3 w4 w5 p13 p14 w6 w7 w8 p15 p16 w9 w10 w11 w12 w13 p17 w14 w15 w16 h2 f1) _ _ := h_29
        refine q_iast X hK h_29 1 rfl (q_in (by decide +kernel)) dX12_house_90 (fun H locs h_31 => ?_)
        clear h_29
        replace h_31 : qW D _ _ (wk_db69142ea cy h1 f0 h3 (upd (u_10.2.1 0) (Int32.toNatClampNeg 1) r_29) h0 0 h1 w0 h2 h3 0 (u_29.2.1 2 0) (u_29.2.1 3 0) p0 (u_29.2.1 4 0) (u_29.2.1 5 0) (u_29.2.1 0 0) (u_29.2.1 1 0) p10 p11 p12 w1 w2 w3 w4 w5 p13 p14 w6 w7 w8 p15 p16 w9 w10 w11 w12 w13 p17 w14 w15 w16 h2 f1) _ _ := h_31
        obtain ⟨F_30, eF_30⟩ : ∃ z, (upd (u_10.2.1 0) (Int32.toNatClampNeg 1) r_29) = z := ⟨_, rfl⟩
        have trF_30_1 := (tr_eq eF_30 (k := 1) (x := 1) (by decide))
        have trF_30_2 := (tr_ne eF_30 w10_4 (show (1 : Int32).toInt = 1 by decide) (by omega))
        have trF_30_405 := (tr_ne eF_30 w10_5 (show (1 : Int32).toInt = 1 by decide) (by omega))
        rw [eF_30] at h_31
        have hf_32 : HF ((u_29.2.1 0 0) : Int32).toInt F_30 (((u_10.2.1 3 0) : Int32).toInt).toNat := hf_upd (hf_w (w2 := ((u_29.2.1 0 0) : Int32).toInt) x26_3 (by omega)) eF_30 (by decide)
        refine lv_aload_n hx hb dX12_house_91 rfl (lv_at hl 0 rfl) ?_
        refine q_callVv (rest := []) (wr := [(h1, .inl (cy 1, 3918, .inl f0))]) X hK hT hA h_31 (fun sz => gX12_ends_b46ba5b l D cy h0 h2 h3 (0 : Int32) (.ref h1) w0 (0 : Int32) (u_29.2.1 2 0) (u_29.2.1 3 0) p0 (u_29.2.1 4 0) (u_29.2.1 5 0) (u_29.2.1 0 0) (u_29.2.1 1 0) p10 p11 p12 w1 w2 w3 w4 w5 p13 p14 w6 w7 w8 p15 p16 w9 w10 w11 w12 w13 p17 w14 w15 w16 f1 F_30 r_29 (u_10.2.1 2 0) (u_10.2.1 3 0) ⟨by decide +kernel, by decide +kernel⟩ ⟨by decide +kernel, by decide +kernel⟩ w29_2 w29_3 ⟨by omega, by omega⟩ (i_rng _) w29_5 (i_rng _) (i_rng _) (i_rng _) (i_rng _) (i_rng _) (i_rng _) (i_rng _) (i_rng _) (i_rng _) (i_rng _) (i_rng _) (bw w10_1 (by decide) (by decide)) (bw w10_2 (by decide) (by decide)) trF_30_1 trF_30_2 trF_30_405 (y29_0) (y29_1) (by (first | (clear y12_1 x16_1 y13_2 x17_2 x24_1 y21_2 x25_2 y29_1 y29_3 y29_4; omega) | omega)) (hf_w hf_32 (by (first | assumption | (clear y12_1 x16_1 y13_2 x17_2 x24_1 y21_2 x25_2 y29_1 y29_3 y29_4; omega) | omega))) sz) wm_6_91 wm_6_94 wm_1_12 hd_X12_ends wm_6_93 wp_4_10 (ci := 12) (q0 := 0) rfl rfl ⟨Nat.le_of_ble_eq_true rfl, Nat.le_of_ble_eq_true rfl⟩ hl.1 rfl (Nat.le_of_ble_eq_true rfl) dX12_house_92 ⟨Nat.le_of_ble_eq_true rfl, Nat.le_of_ble_eq_true rfl⟩ [2, 3, 1] [0] rfl rfl (by decide) rfl rfl (fun u_33 H locs w_33 h_33 => ?_)
        clear h_31
        obtain ⟨w33_0, w33_1, w33_2, w33_3, w33_4, w33_5, w33_6, w33_7, w33_8, y33_0, y33_1, y33_2, y33_3, y33_4, y33_5, y33_6, _⟩ := w_33
        replace h_33 : qW D _ _ (wk_dab8c81bb cy h1 f0 h0 0 h1 w0 h2 h3 0 (u_33.2.1 1 0) (u_33.2.1 2 0) p0 (u_33.2.1 3 0) (u_33.2.1 4 0) (u_33.2.1 5 0) (u_33.2.1 6 0) p10 p11 p12 w1 w2 w3 w4 w5 p13 p14 w6 w7 w8 p15 p16 w9 w10 w11 w12 w13 p17 w14 w15 w16 h2 f1 h3 (u_33.2.1 0)) _ _ := h_33
        refine q_wl (fun (q : Int32 × Int32 × Int32 × Int32 × Int32 × Int32 × Int32 × Int32 × Int32) H locs ls => match q with | (v95_34_0, v95_34_1, v95_34_2, v95_34_3, v95_34_4, v95_34_5, v95_34_6, v95_34_8, v95_34_9) => ∃ v95_34_7 : Nat → Int32, (0 ≤ (v95_34_0).toInt ∧ (v95_34_0).toInt ≤ 900) ∧ (0 ≤ (v95_34_1).toInt ∧ (v95_34_1).toInt ≤ 900) ∧ ((-2147483648) ≤ (v95_34_2).toInt ∧ (v95_34_2).toInt ≤ 2147483647) ∧ (0 ≤ (v95_34_3).toInt ∧ (v95_34_3).toInt ≤ 999) ∧ ((-2147483648) ≤ (v95_34_4).toInt ∧ (v95_34_4).toInt ≤ 2147483647) ∧ ((-2147483648) ≤ (v95_34_5).toInt ∧ (v95_34_5).toInt ≤ 2147483647) ∧ ((-2147483648) ≤ (v95_34_6).toInt ∧ (v95_34_6).toInt ≤ 2147483647) ∧ (0 ≤ (v95_34_8).toInt ∧ (v95_34_8).toInt ≤ 10) ∧ (0 ≤ (v95_34_9).toInt ∧ (v95_34_9).toInt ≤ 900) ∧ v95_34_7 1 = r_29 ∧ v95_34_7 2 = v95_34_8 ∧ v95_34_7 405 = v95_34_9 ∧ (0 ≤ (v95_34_0 : Int32).toInt ∧ (v95_34_0 : Int32).toInt ≤ (v95_34_1 : Int32).toInt ∧ (v95_34_1 : Int32).toInt ≤ (p0 : Int32).toInt) ∧ ((v95_34_2 : Int32).toInt = 26 ∨ (v95_34_0 : Int32).toInt < (v95_34_1 : Int32).toInt) ∧ ((v95_34_4 : Int32).toInt ≠ 0 ∨ (v95_34_9 : Int32).toInt ≤ (v95_34_0 : Int32).toInt) ∧ (HF (v95_34_4 : Int32).toInt v95_34_7 ((v95_34_9 : Int32).toInt).toNat) ∧ ((v95_34_4 : Int32).toInt ≠ 0 ∨ (0 ≤ (r_29 : Int32).toInt ∧ (r_29 : Int32).toInt ≤ 3)) ∧ (0 ≤ (p0 : Int32).toInt ∧ (p0 : Int32).toInt ≤ 900) ∧ (0 ≤ (p0 : Int32).toInt ∧ (p0 : Int32).toInt ≤ (p2 : Int32).toInt) ∧ qW D (va_A (wk_04d6d8a2c cy h0 p1 h1 w0 h2 h3 p2 p3 p4 p5 p6 p7 p8 p9 p10 p11 p12 w1 w2 w3 w4 w5 p13 p14 w6 w7 w8 p15 p16 w9 w10 w11 w12 w13 p17 w14 w15 w16 h1 f0 h2 f1 h3 f2) sz) s.heap (wk_dab8c81bb cy h1 f0 h0 0 h1 w0 h2 h3 0 v95_34_0 v95_34_1 p0 v95_34_2 v95_34_3 v95_34_4 v95_34_5 p10 p11 v95_34_6 w1 w2 w3 w4 w5 p13 p14 w6 w7 w8 p15 p16 w9 w10 w11 w12 w13 p17 w14 w15 w16 h2 f1 h3 v95_34_7) H locs ∧ lv_has ls 3 [(0, .ref h0), (1, .int p0)]) (fun (q : Int32 × Int32 × Int32 × Int32 × Int32 × Int32 × Int32 × Int32 × Int32) => match q with | (v95_34_0, v95_34_1, v95_34_2, v95_34_3, v95_34_4, v95_34_5, v95_34_6, v95_34_8, v95_34_9) => hmu (v95_34_0).toInt (v95_34_4).toInt) (fun q_95 ih_95 H locs ls hP => ?_) ((u_33.2.1 1 0), (u_33.2.1 2 0), (u_33.2.1 3 0), (u_33.2.1 4 0), (u_33.2.1 5 0), (u_33.2.1 6 0), p12, (u_10.2.1 2 0), (u_10.2.1 3 0)) ⟨(u_33.2.1 0), w33_0, w33_1, w33_2, w33_3, w33_4, w33_5, hp12, (bw w10_1 (by decide) (by decide)), (bw w10_2 (by decide) (by decide)), w33_6, w33_7, w33_8, (y33_0), (y33_1), (y33_4), (hf_w y33_5 (by (first | assumption | (clear y12_1 x16_1 y13_2 x17_2 x24_1 y21_2 x25_2 y29_1 y29_3 y29_4 y33_1 y33_3 y33_4 y33_6; omega) | omega))), (by (first | (clear y12_1 x16_1 y13_2 x17_2 x24_1 y21_2 x25_2 y29_1 y29_3 y29_4 y33_1 y33_3 y33_4 y33_6; omega) | omega)), (x27_4), (x28_5), h_33, (lv_sub hl [0, 1] rfl)⟩
        obtain ⟨v95_34_0, v95_34_1, v95_34_2, v95_34_3, v95_34_4, v95_34_5, v95_34_6, v95_34_8, v95_34_9⟩ := q_95
        obtain ⟨v95_34_7, hv95_34_0, hv95_34_1, hv95_34_2, hv95_34_3, hv95_34_4, hv95_34_5, hv95_34_6, hv95_34_8, hv95_34_9, trv95_34_7_1, trv95_34_7_2, trv95_34_7_405, x35_0, x36_1, x37_2, x38_3, x39_4, x40_5, x41_6, h, hl⟩ := hP
        try clear c_5
        try clear lq_13_1
        try clear lq_21_1
        try clear lq_29_1
        try clear lq_29_2
        try clear lq_4_1
        try clear y10_0
        try clear y12_0
        try clear y12_1
        try clear y12_2
        try clear y13_0
        try clear y13_1
        try clear y13_2
        try clear y21_0
        try clear y21_1
        try clear y21_2
        try clear y29_0
        try clear y29_1
        try clear y29_2
        try clear y29_3
        try clear y29_4
        try clear y33_0
        try clear y33_1
        try clear y33_2
        try clear y33_3
        try clear y33_4
        try clear y33_5
        try clear y33_6
        try clear y4_0
        refine lv_aload_n hx hb dX12_house_95 rfl (lv_at hl 0 rfl) ?_
        refine q_get X hK h 1 rfl rfl wf_12 11 (by decide) rfl wm_5_181 dX12_house_96 ?_
        refine q_jn (pc2 := 122) (fun H locs ls st => st = [] ∧ qW D (va_A (wk_04d6d8a2c cy h0 p1 h1 w0 h2 h3 p2 p3 p4 p5 p6 p7 p8 p9 p10 p11 p12 w1 w2 w3 w4 w5 p13 p14 w6 w7 w8 p15 p16 w9 w10 w11 w12 w13 p17 w14 w15 w16 h1 f0 h2 f1 h3 f2) sz) s.heap (wk_dab8c81bb cy h1 f0 h0 0 h1 w0 h2 h3 0 v95_34_0 v95_34_1 p0 v95_34_2 v95_34_3 v95_34_4 v95_34_5 p10 p11 v95_34_6 w1 w2 w3 w4 w5 p13 p14 w6 w7 w8 p15 p16 w9 w10 w11 w12 w13 p17 w14 w15 w16 h2 f1 h3 v95_34_7) H locs ∧ lv_has ls 3 [(0, .ref h0), (1, .int p0)]) (fun H locs ls st hP => ?_) (fun J_122 => ?_)
        · obtain ⟨rfl, h, hl⟩ := hP
          refine lv_aload_n hx hb dX12_house_122 rfl (lv_at hl 0 rfl) ?_
          refine lv_aload_n hx hb dX12_house_123 rfl (lv_at hl 0 rfl) ?_
          refine q_get X hK h 1 rfl rfl wf_12 11 (by decide) rfl wm_5_181 dX12_house_124 ?_
          refine q_put (v := .int v95_34_4) X hK h 1 rfl rfl wf_12 tyX12 tyX12_ok nmX12 13 (by decide) wm_5_183 rfl rfl rfl (Nat.le_of_ble_eq_true rfl) dX12_house_127 (fun H locs h_43 => ?_)
          clear h
          replace h_43 : qW D _ _ (wk_dab8c81bb cy h1 f0 h0 0 h1 w0 h2 h3 0 v95_34_0 v95_34_1 p0 v95_34_2 v95_34_3 v95_34_4 v95_34_5 v95_34_4 p11 v95_34_6 w1 w2 w3 w4 w5 p13 p14 w6 w7 w8 p15 p16 w9 w10 w11 w12 w13 p17 w14 w15 w16 h2 f1 h3 v95_34_7) _ _ := h_43
          refine lv_aload_n hx hb dX12_house_130 rfl (lv_at hl 0 rfl) ?_
          refine lv_aload_n hx hb dX12_house_131 rfl (lv_at hl 0 rfl) ?_
          refine q_get X hK h_43 1 rfl rfl wf_12 11 (by decide) rfl wm_5_181 dX12_house_132 ?_
          refine q_jn (pc2 := 146) (fun H locs ls st => ∃ v146_44_0 : Int32, ((-2147483648) ≤ (v146_44_0).toInt ∧ (v146_44_0).toInt ≤ 2147483647) ∧ st = [.int v146_44_0, .ref h0] ∧ qW D (va_A (wk_04d6d8a2c cy h0 p1 h1 w0 h2 h3 p2 p3 p4 p5 p6 p7 p8 p9 p10 p11 p12 w1 w2 w3 w4 w5 p13 p14 w6 w7 w8 p15 p16 w9 w10 w11 w12 w13 p17 w14 w15 w16 h1 f0 h2 f1 h3 f2) sz) s.heap (wk_dab8c81bb cy h1 f0 h0 0 h1 w0 h2 h3 0 v95_34_0 v95_34_1 p0 v95_34_2 v95_34_3 v95_34_4 v95_34_5 v95_34_4 p11 v95_34_6 w1 w2 w3 w4 w5 p13 p14 w6 w7 w8 p15 p16 w9 w10 w11 w12 w13 p17 w14 w15 w16 h2 f1 h3 v95_34_7) H locs ∧ lv_has ls 3 [(0, .ref h0), (1, .int p0)]) (fun H locs ls st hP => ?_) (fun J_146 => ?_)
          · obtain ⟨v146_44_0, hv146_44_0, rfl, h, hl⟩ := hP
            refine q_put (v := .int v146_44_0) X hK h 1 rfl rfl wf_12 tyX12 tyX12_ok nmX12 14 (by decide) wm_5_184 rfl rfl rfl (Nat.le_of_ble_eq_true rfl) dX12_house_146 (fun H locs h_45 => ?_)
            clear h
            replace h_45 : qW D _ _ (wk_dab8c81bb cy h1 f0 h0 0 h1 w0 h2 h3 0 v95_34_0 v95_34_1 p0 v95_34_2 v95_34_3 v95_34_4 v95_34_5 v95_34_4 v146_44_0 v95_34_6 w1 w2 w3 w4 w5 p13 p14 w6 w7 w8 p15 p16 w9 w10 w11 w12 w13 p17 w14 w15 w16 h2 f1 h3 v95_34_7) _ _ := h_45
            refine lv_aload_n hx hb dX12_house_149 rfl (lv_at hl 0 rfl) ?_
            refine q_get X hK h_45 1 rfl rfl wf_12 11 (by decide) rfl wm_5_181 dX12_house_150 ?_
            refine lv_if_eq (tgt := 164) hx hb dX12_house_153 (by decide) (fun c_46 => ?_) (fun c_46 => ?_)
            · replace c_46 := i_eq (x := v95_34_4) (y := 0) rfl (show (0 : Int32).toInt = 0 by decide) c_46
              refine lv_iconst (v := 0) hx hb dX12_house_164 (by decide) ?_
              refine lv_istore_n (lv' := [(2, .int 0), (0, .ref h0), (1, .int p0)]) hx hb dX12_house_165 rfl hl (by decide) rfl (fun ls_47 hl_47 => ?_)
              clear hl
              refine q_wl (fun (v166_48_0 : Int32) H locs ls => ∃ v166_48_1 : Nat → Int32, (0 ≤ (v166_48_0).toInt ∧ (v166_48_0).toInt ≤ 1306) ∧ (CPY v166_48_1 f0 0 v95_34_7 0 ((v166_48_0 : Int32).toInt).toNat) ∧ (HF (v95_34_4 : Int32).toInt v95_34_7 ((v95_34_9 : Int32).toInt).toNat) ∧ ((v95_34_4 : Int32).toInt = 0) ∧ ((v95_34_4 : Int32).toInt ≠ 0 ∨ (0 ≤ (r_29 : Int32).toInt ∧ (r_29 : Int32).toInt ≤ 3)) ∧ (0 ≤ (p0 : Int32).toInt ∧ (p0 : Int32).toInt ≤ 900) ∧ (0 ≤ (p0 : Int32).toInt ∧ (p0 : Int32).toInt ≤ (p2 : Int32).toInt) ∧ qW D (va_A (wk_04d6d8a2c cy h0 p1 h1 w0 h2 h3 p2 p3 p4 p5 p6 p7 p8 p9 p10 p11 p12 w1 w2 w3 w4 w5 p13 p14 w6 w7 w8 p15 p16 w9 w10 w11 w12 w13 p17 w14 w15 w16 h1 f0 h2 f1 h3 f2) sz) s.heap (wk_dab8c81bb cy h1 v166_48_1 h0 0 h1 w0 h2 h3 0 v95_34_0 v95_34_1 p0 v95_34_2 v95_34_3 v95_34_4 v95_34_5 v95_34_4 v146_44_0 v95_34_6 w1 w2 w3 w4 w5 p13 p14 w6 w7 w8 p15 p16 w9 w10 w11 w12 w13 p17 w14 w15 w16 h2 f1 h3 v95_34_7) H locs ∧ lv_has ls 3 [(0, .ref h0), (1, .int p0), (2, .int v166_48_0)]) (fun (v166_48_0 : Int32) => (1307 - (v166_48_0).toInt).toNat) (fun q_166 ih_166 H locs ls hP => ?_) 0 ⟨f0, ⟨by decide +kernel, by decide +kernel⟩, (cp_0 (by decide)), (hf_w x38_3 (by (first | assumption | (clear x16_1 x17_2 x24_1 x25_2 x36_1 x37_2 x39_4; omega) | omega))), (by (first | (clear x16_1 x17_2 x24_1 x25_2 x36_1 x37_2 x39_4; omega) | omega)), (x39_4), (x40_5), (x41_6), h_45, (lv_sub hl_47 [1, 2, 0] rfl)⟩
              obtain ⟨v166_48_0, rfl⟩ : ∃ z, z = q_166 := ⟨_, rfl⟩
              obtain ⟨v166_48_1, hv166_48_0, x49_0, x50_1, x51_2, x52_3, x53_4, x54_5, h, hl⟩ := hP
              try clear c_46
              try clear c_5
              try clear lq_13_1
              try clear lq_21_1
              try clear lq_29_1
              try clear lq_29_2
              try clear lq_4_1
              try clear y10_0
              try clear y12_0
              try clear y12_1
              try clear y12_2
              try clear y13_0
              try clear y13_1
              try clear y13_2
              try clear y21_0
              try clear y21_1
              try clear y21_2
              try clear y29_0
              try clear y29_1
              try clear y29_2
              try clear y29_3
              try clear y29_4
              try clear y33_0
              try clear y33_1
              try clear y33_2
              try clear y33_3
              try clear y33_4
              try clear y33_5
              try clear y33_6
              try clear y4_0
              refine lv_iload_n hx hb dX12_house_166 rfl (lv_at hl 2 rfl) ?_
              refine lv_sipush (v := 1306) hx hb dX12_house_167 (by decide) ?_
              refine lv_icmp_ge (tgt := 191) hx hb dX12_house_170 (by decide) (fun c_55 => ?_) (fun c_55 => ?_)
              · replace c_55 := i_le (x := 1306) (y := v166_48_0) (show (1306 : Int32).toInt = 1306 by decide) rfl c_55
                have cx_56 := al_house x49_0 (by omega) rf0 x50_1 (by omega) trv95_34_7_1 trv95_34_7_2 (by omega) (by omega) (by omega)
                obtain ⟨z_57, ez_57, hz_57⟩ := al_N84 cx_56
                refine lv_aload_n hx hb dX12_house_191 rfl (lv_at hl 0 rfl) ?_
                refine q_get X hK h 1 rfl rfl wf_12 1 (by decide) rfl wm_5_171 dX12_house_192 ?_
                refine lv_iconst (v := 0) hx hb dX12_house_195 (by decide) ?_
                refine q_iald X hK h 0 rfl (q_in (by decide +kernel)) dX12_house_196 ?_
                refine q_any (fun z_58 hz_58 => ?_)
                exact q_iret X hr hlk hK h rfl (fun _ => 0, (vcons v166_48_1 (vcons (fun _ => z_57) (vcons (fun _ => 0) (vcons (fun _ => 0) (vcons (fun _ => v95_34_0) (vcons (fun _ => v95_34_1) (vcons (fun _ => p0) (vcons (fun _ => v95_34_2) (vcons (fun _ => v95_34_3) (vcons (fun _ => v95_34_4) (vcons (fun _ => v95_34_5) (vcons (fun _ => v95_34_4) (vcons (fun _ => v146_44_0) (vcons (fun _ => v95_34_6) (vcons v95_34_7 (vcons (fun _ => r_29) (vcons (fun _ => v95_34_8) (vcons (fun _ => v95_34_9) (fun _ => (fun _ => 0)))))))))))))))))))), fun _ _ => 0) ⟨⟨by omega, by omega⟩, cx_56, (⟨by omega, by omega⟩ : 0 ≤ (z_57 : Int32).toInt ∧ (z_57 : Int32).toInt ≤ 10), (⟨by decide +kernel, by decide +kernel⟩ : 0 ≤ (0 : Int32).toInt ∧ (0 : Int32).toInt ≤ 0), (⟨by decide +kernel, by decide +kernel⟩ : 0 ≤ (0 : Int32).toInt ∧ (0 : Int32).toInt ≤ 900), hv95_34_0, hv95_34_1, (⟨by omega, by omega⟩ : 0 ≤ (p0 : Int32).toInt ∧ (p0 : Int32).toInt ≤ 900), hv95_34_2, hv95_34_3, hv95_34_4, hv95_34_5, hv95_34_4, hv146_44_0, hv95_34_6, (bw wr_29 (by decide) (by decide)), hv95_34_8, hv95_34_9, ez_57, trv95_34_7_1, trv95_34_7_2, trv95_34_7_405, (show ((0 : Int32).toInt = (p2 : Int32).toInt ∧ ((p0 : Int32).toInt < 0 ∨ (p2 : Int32).toInt < (p0 : Int32).toInt)) ∨ ((0 : Int32).toInt = 0 ∧ 0 ≤ (p0 : Int32).toInt ∧ (p0 : Int32).toInt ≤ (p2 : Int32).toInt) from by have q0 : (0 : Int32).toInt = 0 := (by decide); (first | (clear x16_1 x17_2 x24_1 x25_2 x36_1 x37_2 x52_3; omega) | omega)), trivial⟩ [1, 0, 2, 3] rfl rfl dX12_house_197 (Nat.le_of_ble_eq_true rfl) (Nat.le_of_ble_eq_true rfl)
              · replace c_55 := i_nle (x := 1306) (y := v166_48_0) (show (1306 : Int32).toInt = 1306 by decide) rfl c_55
                refine lv_aload_n hx hb dX12_house_173 rfl (lv_at hl 0 rfl) ?_
                refine q_get X hK h 1 rfl rfl wf_12 1 (by decide) rfl wm_5_171 dX12_house_174 ?_
                refine lv_iload_n hx hb dX12_house_177 rfl (lv_at hl 2 rfl) ?_
                refine lv_aload_n hx hb dX12_house_178 rfl (lv_at hl 0 rfl) ?_
                refine q_get X hK h 1 rfl rfl wf_12 4 (by decide) rfl wm_5_174 dX12_house_179 ?_
                refine lv_iload_n hx hb dX12_house_182 rfl (lv_at hl 2 rfl) ?_
                refine q_iald X hK h 3 rfl (i_in rfl (by omega) (by omega)) dX12_house_183 ?_
                obtain ⟨z_59, ez_59, hz_59⟩ := e_any (v95_34_7 v166_48_0.toNatClampNeg)
                refine q_c z_59 ez_59 ?_
                refine q_iast X hK h 0 rfl (i_in rfl (by omega) (by omega)) dX12_house_184 (fun H locs h_61 => ?_)
                clear h
                replace h_61 : qW D _ _ (wk_dab8c81bb cy h1 (upd v166_48_1 (Int32.toNatClampNeg v166_48_0) z_59) h0 0 h1 w0 h2 h3 0 v95_34_0 v95_34_1 p0 v95_34_2 v95_34_3 v95_34_4 v95_34_5 v95_34_4 v146_44_0 v95_34_6 w1 w2 w3 w4 w5 p13 p14 w6 w7 w8 p15 p16 w9 w10 w11 w12 w13 p17 w14 w15 w16 h2 f1 h3 v95_34_7) _ _ := h_61
                obtain ⟨F_60, eF_60⟩ : ∃ z, (upd v166_48_1 (Int32.toNatClampNeg v166_48_0) z_59) = z := ⟨_, rfl⟩
                rw [eF_60] at h_61
                have cs_62 := cp_s x49_0 ez_59 eF_60 (by omega) (by omega)
                obtain ⟨z_63, ez_63, hz_63⟩ := e_add (x := v166_48_0) (y := Int32.ofInt 1) rfl (b := 1) (by decide) (by omega) (by omega)
                refine lv_iinc (v := z_63) (lv' := [(2, .int z_63), (0, .ref h0), (1, .int p0)]) hx hb dX12_house_185 hl (k := 2) rfl ez_63 (by decide) rfl (fun ls_63 hl_63 => ?_)
                clear hl
                refine lv_goto (tgt := 166) hx hb dX12_house_188 (by decide) ?_
                exact ih_166 z_63 (by show (1307 - (z_63).toInt).toNat < (1307 - (v166_48_0).toInt).toNat; omega) _ _ _ ⟨F_60, ⟨by omega, by omega⟩, (cp_n cs_62 (by (first | assumption | (clear x16_1 x17_2 x24_1 x25_2 x36_1 x37_2 x52_3; omega) | omega))), (hf_w x50_1 (by (first | assumption | (clear x16_1 x17_2 x24_1 x25_2 x36_1 x37_2 x52_3; omega) | omega))), (x51_2), (x52_3), (x53_4), (x54_5), h_61, (lv_sub hl_63 [1, 2, 0] rfl)⟩
            · replace c_46 := i_ne (x := v95_34_4) (y := 0) rfl (show (0 : Int32).toInt = 0 by decide) c_46
              refine lv_bipush (v := (-30)) hx hb dX12_house_156 (by decide) ?_
              refine lv_aload_n hx hb dX12_house_158 rfl (lv_at hl 0 rfl) ?_
              refine q_get X hK h_45 1 rfl rfl wf_12 11 (by decide) rfl wm_5_181 dX12_house_159 ?_
              refine lv_isub hx hb dX12_house_162 ?_
              refine q_any (fun z_64 hz_64 => ?_)
              exact q_iret X hr hlk hK h_45 rfl (fun _ => 0, (vcons f0 (vcons (fun _ => p18) (vcons (fun _ => 0) (vcons (fun _ => 0) (vcons (fun _ => v95_34_0) (vcons (fun _ => v95_34_1) (vcons (fun _ => p0) (vcons (fun _ => v95_34_2) (vcons (fun _ => v95_34_3) (vcons (fun _ => v95_34_4) (vcons (fun _ => v95_34_5) (vcons (fun _ => v95_34_4) (vcons (fun _ => v146_44_0) (vcons (fun _ => v95_34_6) (vcons v95_34_7 (vcons (fun _ => r_29) (vcons (fun _ => v95_34_8) (vcons (fun _ => v95_34_9) (fun _ => (fun _ => 0)))))))))))))))))))), fun _ _ => 0) ⟨⟨by omega, by omega⟩, rf0, hp18, (⟨by decide +kernel, by decide +kernel⟩ : 0 ≤ (0 : Int32).toInt ∧ (0 : Int32).toInt ≤ 0), (⟨by decide +kernel, by decide +kernel⟩ : 0 ≤ (0 : Int32).toInt ∧ (0 : Int32).toInt ≤ 900), hv95_34_0, hv95_34_1, (⟨by omega, by omega⟩ : 0 ≤ (p0 : Int32).toInt ∧ (p0 : Int32).toInt ≤ 900), hv95_34_2, hv95_34_3, hv95_34_4, hv95_34_5, hv95_34_4, hv146_44_0, hv95_34_6, (bw wr_29 (by decide) (by decide)), hv95_34_8, hv95_34_9, htf0_84, trv95_34_7_1, trv95_34_7_2, trv95_34_7_405, (show ((0 : Int32).toInt = (p2 : Int32).toInt ∧ ((p0 : Int32).toInt < 0 ∨ (p2 : Int32).toInt < (p0 : Int32).toInt)) ∨ ((0 : Int32).toInt = 0 ∧ 0 ≤ (p0 : Int32).toInt ∧ (p0 : Int32).toInt ≤ (p2 : Int32).toInt) from by have q0 : (0 : Int32).toInt = 0 := (by decide); (first | (clear x16_1 x17_2 x24_1 x25_2 x36_1 x37_2 x39_4; omega) | omega)), trivial⟩ [1, 0, 2, 3] rfl rfl dX12_house_163 (Nat.le_of_ble_eq_true rfl) (Nat.le_of_ble_eq_true rfl)
          · skip
            refine lv_if_ne (tgt := 142) hx hb dX12_house_135 (by decide) (fun c_65 => ?_) (fun c_65 => ?_)
            · replace c_65 := i_ne (x := v95_34_4) (y := 0) rfl (show (0 : Int32).toInt = 0 by decide) c_65
              refine lv_aload_n hx hb dX12_house_142 rfl (lv_at hl 0 rfl) ?_
              refine q_get X hK h_43 1 rfl rfl wf_12 12 (by decide) rfl wm_5_182 dX12_house_143 ?_
              exact J_146 _ _ _ _ ⟨v95_34_5, hv95_34_5, rfl, h_43, (lv_sub hl [0, 1] rfl)⟩
            · replace c_65 := i_eq (x := v95_34_4) (y := 0) rfl (show (0 : Int32).toInt = 0 by decide) c_65
              refine lv_iconst (v := (-1)) hx hb dX12_house_138 (by decide) ?_
              refine lv_goto (tgt := 146) hx hb dX12_house_139 (by decide) ?_
              exact J_146 _ _ _ _ ⟨(-1), ⟨by decide +kernel, by decide +kernel⟩, rfl, h_43, (lv_sub hl [0, 1] rfl)⟩
        · skip
          refine lv_if_ne (tgt := 122) hx hb dX12_house_99 (by decide) (fun c_66 => ?_) (fun c_66 => ?_)
          · replace c_66 := i_ne (x := v95_34_4) (y := 0) rfl (show (0 : Int32).toInt = 0 by decide) c_66
            exact J_122 _ _ _ _ ⟨rfl, h, (lv_sub hl [0, 1] rfl)⟩
          · replace c_66 := i_eq (x := v95_34_4) (y := 0) rfl (show (0 : Int32).toInt = 0 by decide) c_66
            refine lv_aload_n hx hb dX12_house_102 rfl (lv_at hl 0 rfl) ?_
            refine q_get X hK h 1 rfl rfl wf_12 9 (by decide) rfl wm_5_179 dX12_house_103 ?_
            refine lv_bipush (v := 26) hx hb dX12_house_106 (by decide) ?_
            refine lv_icmp_eq (tgt := 122) hx hb dX12_house_108 (by decide) (fun c_67 => ?_) (fun c_67 => ?_)
            · replace c_67 := i_eq (x := v95_34_2) (y := 26) rfl (show (26 : Int32).toInt = 26 by decide) c_67
              exact J_122 _ _ _ _ ⟨rfl, h, (lv_sub hl [0, 1] rfl)⟩
            · replace c_67 := i_ne (x := v95_34_2) (y := 26) rfl (show (26 : Int32).toInt = 26 by decide) c_67
              refine lv_aload_n hx hb dX12_house_111 rfl (lv_at hl 0 rfl) ?_
              refine q_callVv (rest := []) (wr := [(h1, .inl (cy 1, 3918, .inl f0))]) X hK hT hA h (fun sz => gX12_readLine_6d08fde l D cy h0 h2 h3 (0 : Int32) (.ref h1) w0 (0 : Int32) v95_34_0 v95_34_1 p0 v95_34_2 v95_34_3 v95_34_4 v95_34_5 p10 p11 v95_34_6 w1 w2 w3 w4 w5 p13 p14 w6 w7 w8 p15 p16 w9 w10 w11 w12 w13 p17 w14 w15 w16 f1 v95_34_7 r_29 v95_34_8 v95_34_9 ⟨by decide +kernel, by decide +kernel⟩ ⟨by decide +kernel, by decide +kernel⟩ hv95_34_0 hv95_34_1 ⟨by omega, by omega⟩ (i_rng _) hv95_34_3 (i_rng _) (i_rng _) (i_rng _) (i_rng _) (i_rng _) (i_rng _) (i_rng _) (i_rng _) (i_rng _) (i_rng _) (i_rng _) hv95_34_8 hv95_34_9 trv95_34_7_1 trv95_34_7_2 trv95_34_7_405 (x35_0) (x36_1) (x37_2) (hf_w x38_3 (by (first | assumption | (clear x16_1 x17_2 x24_1 x25_2 x36_1 x37_2 x39_4; omega) | omega))) (x39_4) sz) wm_6_95 wm_6_98 wm_1_12 hd_X12_readLine wm_6_97 wp_4_11 (ci := 12) (q0 := 0) rfl rfl ⟨Nat.le_of_ble_eq_true rfl, Nat.le_of_ble_eq_true rfl⟩ hl.1 rfl (Nat.le_of_ble_eq_true rfl) dX12_house_112 ⟨Nat.le_of_ble_eq_true rfl, Nat.le_of_ble_eq_true rfl⟩ [1, 2, 3] [0] rfl rfl (by decide) rfl rfl (fun u_68 H locs w_68 h_68 => ?_)
              clear h
              obtain ⟨w68_0, w68_1, w68_2, w68_3, w68_4, w68_5, w68_6, w68_7, w68_8, w68_9, w68_10, w68_11, y68_0, y68_1, y68_2, y68_3, y68_4, y68_5, _⟩ := w_68
              replace h_68 : qW D _ _ (wk_dab8c81bb cy h1 f0 h0 0 h1 w0 h2 h3 0 (u_68.2.1 0 0) (u_68.2.1 1 0) p0 (u_68.2.1 2 0) (u_68.2.1 3 0) (u_68.2.1 4 0) (u_68.2.1 5 0) p10 p11 (u_68.2.1 7 0) w1 w2 w3 w4 w5 p13 p14 w6 w7 w8 p15 p16 w9 w10 w11 w12 w13 p17 w14 w15 w16 h2 f1 h3 (u_68.2.1 6)) _ _ := h_68
              refine lv_aload_n hx hb dX12_house_115 rfl (lv_at hl 0 rfl) ?_
              refine q_callVv (rest := []) (wr := [(h1, .inl (cy 1, 3918, .inl f0))]) X hK hT hA h_68 (fun sz => gX12_ends_b46ba5b l D cy h0 h2 h3 (0 : Int32) (.ref h1) w0 (0 : Int32) (u_68.2.1 0 0) (u_68.2.1 1 0) p0 (u_68.2.1 2 0) (u_68.2.1 3 0) (u_68.2.1 4 0) (u_68.2.1 5 0) p10 p11 (u_68.2.1 7 0) w1 w2 w3 w4 w5 p13 p14 w6 w7 w8 p15 p16 w9 w10 w11 w12 w13 p17 w14 w15 w16 f1 (u_68.2.1 6) r_29 (u_68.2.1 9 0) (u_68.2.1 8 0) ⟨by decide +kernel, by decide +kernel⟩ ⟨by decide +kernel, by decide +kernel⟩ w68_0 w68_1 ⟨by omega, by omega⟩ (i_rng _) w68_3 (i_rng _) (i_rng _) (i_rng _) (i_rng _) (i_rng _) (i_rng _) (i_rng _) (i_rng _) (i_rng _) (i_rng _) (i_rng _) w68_8 w68_7 w68_9 w68_10 w68_11 (y68_0) (y68_1) (y68_4) (hf_w y68_5 (by (first | assumption | (clear x16_1 x17_2 x24_1 x25_2 x36_1 x37_2 x39_4 y68_1 y68_3 y68_4; omega) | omega))) sz) wm_6_91 wm_6_94 wm_1_12 hd_X12_ends wm_6_93 wp_4_10 (ci := 12) (q0 := 0) rfl rfl ⟨Nat.le_of_ble_eq_true rfl, Nat.le_of_ble_eq_true rfl⟩ hl.1 rfl (Nat.le_of_ble_eq_true rfl) dX12_house_116 ⟨Nat.le_of_ble_eq_true rfl, Nat.le_of_ble_eq_true rfl⟩ [1, 2, 3] [0] rfl rfl (by decide) rfl rfl (fun u_69 H locs w_69 h_69 => ?_)
              clear h_68
              obtain ⟨w69_0, w69_1, w69_2, w69_3, w69_4, w69_5, w69_6, w69_7, w69_8, y69_0, y69_1, y69_2, y69_3, y69_4, y69_5, y69_6, _⟩ := w_69
              replace h_69 : qW D _ _ (wk_dab8c81bb cy h1 f0 h0 0 h1 w0 h2 h3 0 (u_69.2.1 1 0) (u_69.2.1 2 0) p0 (u_69.2.1 3 0) (u_69.2.1 4 0) (u_69.2.1 5 0) (u_69.2.1 6 0) p10 p11 (u_68.2.1 7 0) w1 w2 w3 w4 w5 p13 p14 w6 w7 w8 p15 p16 w9 w10 w11 w12 w13 p17 w14 w15 w16 h2 f1 h3 (u_69.2.1 0)) _ _ := h_69
              refine lv_goto (tgt := 95) hx hb dX12_house_119 (by decide) ?_
              exact ih_95 ((u_69.2.1 1 0), (u_69.2.1 2 0), (u_69.2.1 3 0), (u_69.2.1 4 0), (u_69.2.1 5 0), (u_69.2.1 6 0), (u_68.2.1 7 0), (u_68.2.1 9 0), (u_68.2.1 8 0)) (by show hmu ((u_69.2.1 1 0)).toInt ((u_69.2.1 5 0)).toInt < hmu (v95_34_0).toInt (v95_34_4).toInt; exact hmu_lt (by omega) (by omega) (by omega) (by omega)) _ _ _ ⟨(u_69.2.1 0), w69_0, w69_1, w69_2, w69_3, w69_4, w69_5, w68_6, w68_8, w68_7, w69_6, w69_7, w69_8, (y69_0), (y69_1), (y69_4), (hf_w y69_5 (by (first | assumption | (clear x16_1 x17_2 x24_1 x25_2 x36_1 x37_2 x39_4 y68_1 y68_3 y68_4 y69_1 y69_3 y69_4 y69_6; omega) | omega))), (by (first | (clear x16_1 x17_2 x24_1 x25_2 x36_1 x37_2 x39_4 y68_1 y68_3 y68_4 y69_1 y69_3 y69_4 y69_6; omega) | omega)), (x40_5), (x41_6), h_69, (lv_sub hl [0, 1] rfl)⟩
      · skip
        refine lv_if_ne (tgt := 79) hx hb dX12_house_71 (by decide) (fun c_70 => ?_) (fun c_70 => ?_)
        · replace c_70 := i_ne (x := r_21) (y := 0) rfl (show (0 : Int32).toInt = 0 by decide) c_70
          replace y21_2 := a01_1 y21_2 c_70
          exact J_79 _ _ _ _ ⟨v66_14_0, v66_14_1, hv66_14_0, hv66_14_1, (y21_0), (y21_1), (by (first | (clear y12_1 x16_1 y13_2 x17_2 y21_1; omega) | omega)), (hf_w x18_3 (by (first | assumption | (clear y12_1 x16_1 y13_2 x17_2 y21_1; omega) | omega))), (x19_4), (x20_5), rfl, h_21, (lv_sub hl [0, 1] rfl)⟩
        · replace c_70 := i_eq (x := r_21) (y := 0) rfl (show (0 : Int32).toInt = 0 by decide) c_70
          replace y21_2 := a01_0 y21_2 c_70
          obtain ⟨y21_2a, y21_2b, y21_2c, y21_2d⟩ := y21_2
          refine lv_aload_n hx hb dX12_house_74 rfl (lv_at hl 0 rfl) ?_
          refine lv_iconst (v := 2) hx hb dX12_house_75 (by decide) ?_
          refine q_callVv (rest := []) (wr := (wk_eece9000b cy h1 f0 h3 (u_10.2.1 0) h2 f1)) X hK hT hA h_21 (fun sz => gX12_fails_1e02d40 l D cy h0 (0 : Int32) (.ref h1) w0 (.ref h2) (.ref h3) (0 : Int32) (u_21.2.1 0 0) (u_21.2.1 1 0) p0 (u_21.2.1 2 0) (u_21.2.1 3 0) v66_14_0 v66_14_1 p10 p11 p12 w1 w2 w3 w4 w5 p13 p14 w6 w7 w8 p15 p16 w9 w10 w11 w12 w13 p17 w14 w15 w16 ⟨by decide +kernel, by decide +kernel⟩ ⟨by decide +kernel, by decide +kernel⟩ w21_0 w21_1 ⟨by omega, by omega⟩ (i_rng _) w21_3 (i_rng _) (i_rng _) (i_rng _) (i_rng _) (i_rng _) (i_rng _) (i_rng _) (i_rng _) (i_rng _) (i_rng _) sz) wm_6_83 wm_6_86 wm_1_12 hd_X12_fails wm_6_85 wp_4_8 (ci := 12) (q0 := 0) rfl rfl ⟨Nat.le_of_ble_eq_true rfl, Nat.le_of_ble_eq_true rfl⟩ hl.1 rfl (Nat.le_of_ble_eq_true rfl) dX12_house_76 ⟨Nat.le_of_ble_eq_true rfl, Nat.le_of_ble_eq_true rfl⟩ [2] [0, 1, 3] rfl rfl (by decide) rfl rfl (fun u_71 H locs w_71 h_71 => ?_)
          clear h_21
          obtain ⟨w71_0, w71_1, y71_0, _⟩ := w_71
          have lq_71_1 : (2 : Int32).toInt = 2 := (by decide)
          replace h_71 : qW D _ _ (wk_735259578 cy h1 f0 h3 (u_10.2.1 0) h2 f1 h0 0 h1 w0 h2 h3 0 (u_21.2.1 0 0) (u_21.2.1 1 0) p0 (u_21.2.1 2 0) (u_21.2.1 3 0) (u_71.2.1 0 0) (u_71.2.1 1 0) p10 p11 p12 w1 w2 w3 w4 w5 p13 p14 w6 w7 w8 p15 p16 w9 w10 w11 w12 w13 p17 w14 w15 w16) _ _ := h_71
          exact J_79 _ _ _ _ ⟨(u_71.2.1 0 0), (u_71.2.1 1 0), w71_0, w71_1, (y21_0), (y21_1), (by (first | (clear y12_1 x16_1 y13_2 x17_2 y21_1 y21_2d; omega) | omega)), (hf_w x18_3 (by (first | assumption | (clear y12_1 x16_1 y13_2 x17_2 y21_1 y21_2d; omega) | omega))), (x19_4), (x20_5), rfl, (q_re h_71 [0, 1, 3, 2] rfl rfl), (lv_sub hl [0, 1] rfl)⟩
    · skip
      refine lv_if_ne (tgt := 66) hx hb dX12_house_58 (by decide) (fun c_72 => ?_) (fun c_72 => ?_)
      · replace c_72 := i_ne (x := r_13) (y := 0) rfl (show (0 : Int32).toInt = 0 by decide) c_72
        replace y13_2 := a01_1 y13_2 c_72
        exact J_66 _ _ _ _ ⟨0, p9, ⟨by decide +kernel, by decide +kernel⟩, hp9, (y13_0), (y13_1), (by have q0 : (0 : Int32).toInt = 0 := (by decide); (first | (clear y12_1 y13_1; omega) | omega)), (hf_w hf_11 (by have q0 : (0 : Int32).toInt = 0 := (by decide); omega)), (by (first | (clear y12_1 y13_1; omega) | omega)), (by (first | (clear y12_1 y13_1; omega) | omega)), rfl, h_13, (lv_sub hl [0, 1] rfl)⟩
      · replace c_72 := i_eq (x := r_13) (y := 0) rfl (show (0 : Int32).toInt = 0 by decide) c_72
        replace y13_2 := a01_0 y13_2 c_72
        obtain ⟨y13_2a, y13_2b, y13_2c, y13_2d⟩ := y13_2
        refine lv_aload_n hx hb dX12_house_61 rfl (lv_at hl 0 rfl) ?_
        refine lv_iconst (v := 2) hx hb dX12_house_62 (by decide) ?_
        refine q_callVv (rest := []) (wr := (wk_eece9000b cy h1 f0 h3 (u_10.2.1 0) h2 f1)) X hK hT hA h_13 (fun sz => gX12_fails_1e02d40 l D cy h0 (0 : Int32) (.ref h1) w0 (.ref h2) (.ref h3) (0 : Int32) (u_13.2.1 0 0) (u_13.2.1 1 0) p0 (u_13.2.1 2 0) (u_13.2.1 3 0) (0 : Int32) p9 p10 p11 p12 w1 w2 w3 w4 w5 p13 p14 w6 w7 w8 p15 p16 w9 w10 w11 w12 w13 p17 w14 w15 w16 ⟨by decide +kernel, by decide +kernel⟩ ⟨by decide +kernel, by decide +kernel⟩ w13_0 w13_1 ⟨by omega, by omega⟩ (i_rng _) w13_3 (i_rng _) (i_rng _) (i_rng _) (i_rng _) (i_rng _) (i_rng _) (i_rng _) (i_rng _) (i_rng _) (i_rng _) sz) wm_6_83 wm_6_86 wm_1_12 hd_X12_fails wm_6_85 wp_4_8 (ci := 12) (q0 := 0) rfl rfl ⟨Nat.le_of_ble_eq_true rfl, Nat.le_of_ble_eq_true rfl⟩ hl.1 rfl (Nat.le_of_ble_eq_true rfl) dX12_house_63 ⟨Nat.le_of_ble_eq_true rfl, Nat.le_of_ble_eq_true rfl⟩ [2] [0, 1, 3] rfl rfl (by decide) rfl rfl (fun u_73 H locs w_73 h_73 => ?_)
        clear h_13
        obtain ⟨w73_0, w73_1, y73_0, _⟩ := w_73
        have lq_73_1 : (2 : Int32).toInt = 2 := (by decide)
        replace h_73 : qW D _ _ (wk_735259578 cy h1 f0 h3 (u_10.2.1 0) h2 f1 h0 0 h1 w0 h2 h3 0 (u_13.2.1 0 0) (u_13.2.1 1 0) p0 (u_13.2.1 2 0) (u_13.2.1 3 0) (u_73.2.1 0 0) (u_73.2.1 1 0) p10 p11 p12 w1 w2 w3 w4 w5 p13 p14 w6 w7 w8 p15 p16 w9 w10 w11 w12 w13 p17 w14 w15 w16) _ _ := h_73
        exact J_66 _ _ _ _ ⟨(u_73.2.1 0 0), (u_73.2.1 1 0), w73_0, w73_1, (y13_0), (y13_1), (by (first | (clear y12_1 y13_1 y13_2d; omega) | omega)), (hf_w hf_11 (by (first | assumption | (clear y12_1 y13_1 y13_2d; omega) | omega))), (by (first | (clear y12_1 y13_1 y13_2d; omega) | omega)), (by (first | (clear y12_1 y13_1 y13_2d; omega) | omega)), rfl, (q_re h_73 [0, 1, 3, 2] rfl rfl), (lv_sub hl [0, 1] rfl)⟩
  · replace c_5 := i_eq (x := r_4) (y := 0) rfl (show (0 : Int32).toInt = 0 by decide) c_5
    replace y4_0 := a10_0 y4_0 c_5
    refine lv_bipush (v := (-3)) hx hb dX12_house_19 (by decide) ?_
    exact q_iret X hr hlk hK h_4 rfl (fun _ => 0, (vcons f0 (vcons (fun _ => p18) (vcons (fun _ => 0) (vcons (fun _ => p2) (vcons (fun _ => p3) (vcons (fun _ => p4) (vcons (fun _ => p5) (vcons (fun _ => p6) (vcons (fun _ => p7) (vcons (fun _ => p8) (vcons (fun _ => p9) (vcons (fun _ => p10) (vcons (fun _ => p11) (vcons (fun _ => p12) (vcons f2 (vcons (fun _ => p19) (vcons (fun _ => p20) (vcons (fun _ => p21) (fun _ => (fun _ => 0)))))))))))))))))))), fun _ _ => 0) ⟨⟨by decide +kernel, by decide +kernel⟩, rf0, hp18, (⟨by decide +kernel, by decide +kernel⟩ : 0 ≤ (0 : Int32).toInt ∧ (0 : Int32).toInt ≤ 0), hp2, hp3, hp4, hp5, hp6, hp7, hp8, hp9, hp10, hp11, hp12, hp19, hp20, hp21, htf0_84, htf2_1, htf2_2, htf2_405, (show ((p2 : Int32).toInt = (p2 : Int32).toInt ∧ ((p0 : Int32).toInt < 0 ∨ (p2 : Int32).toInt < (p0 : Int32).toInt)) ∨ ((p2 : Int32).toInt = 0 ∧ 0 ≤ (p0 : Int32).toInt ∧ (p0 : Int32).toInt ≤ (p2 : Int32).toInt) from by (first | (clear y4_0; omega) | omega)), trivial⟩ [0, 1, 2, 3] rfl rfl dX12_house_21 (Nat.le_of_ble_eq_true rfl) (Nat.le_of_ble_eq_true rfl)
