theorem wm_8_55 : Cond.methodLink RX12 435 yX12_twosNow ∈ WG := wg_t8 (List.mem_of_getElem? (i := 55) rfl) rfl
theorem wm_8_58 : Cond.code yX12_twosNow cX12_twosNow 3 (some .int) ∈ WG := wg_t8 (List.mem_of_getElem? (i := 58) rfl) rfl
theorem wm_8_57 : Cond.instanceMethod yX12_twosNow ∈ WG := wg_t8 (List.mem_of_getElem? (i := 57) rfl) rfl
theorem wp_8_4 : Cond.selects RX12 yX12_twosNow yX12_twosNow ∈ WG := wg_p (q := (yX12_twosNow, 37)) (wg_p8 (List.mem_of_getElem? (i := 4) rfl)) rfl
theorem hd_X12_twosNow : yX12_twosNow.cls ≠ "java/lang/invoke/MethodHandle" ∧ yX12_twosNow.cls ≠ "java/lang/invoke/VarHandle" ∧ (parseMethodDescriptor yX12_twosNow.desc).map (fun d => d.parameters.length) = some 0 := by decide +kernel
theorem dX12_count_0 : decode cX12_count 0 = .ok (.aload_n 0, 1) := by decide +kernel
theorem dX12_count_1 : decode cX12_count 1 = .ok (.iconst 0, 1) := by decide +kernel
theorem dX12_count_2 : decode cX12_count 2 = .ok (.putfield 1, 3) := by decide +kernel
theorem dX12_count_5 : decode cX12_count 5 = .ok (.iload_n 1, 1) := by decide +kernel
theorem dX12_count_6 : decode cX12_count 6 = .ok (.tableswitch 110 0 8 #[50, 57, 64, 69, 77, 85, 90, 98, 103], 50) := by decide +kernel
theorem dX12_count_56 : decode cX12_count 56 = .ok (.aload_n 0, 1) := by decide +kernel
theorem dX12_count_57 : decode cX12_count 57 = .ok (.getfield 13, 3) := by decide +kernel
theorem dX12_count_60 : decode cX12_count 60 = .ok (.iconst 1, 1) := by decide +kernel
theorem dX12_count_61 : decode cX12_count 61 = .ok (.iaload, 1) := by decide +kernel
theorem dX12_count_62 : decode cX12_count 62 = .ok (.ireturn, 1) := by decide +kernel
theorem dX12_count_63 : decode cX12_count 63 = .ok (.aload_n 0, 1) := by decide +kernel
theorem dX12_count_64 : decode cX12_count 64 = .ok (.getfield 13, 3) := by decide +kernel
theorem dX12_count_67 : decode cX12_count 67 = .ok (.iconst 2, 1) := by decide +kernel
theorem dX12_count_68 : decode cX12_count 68 = .ok (.iaload, 1) := by decide +kernel
theorem dX12_count_69 : decode cX12_count 69 = .ok (.ireturn, 1) := by decide +kernel
theorem dX12_count_70 : decode cX12_count 70 = .ok (.aload_n 0, 1) := by decide +kernel
theorem dX12_count_71 : decode cX12_count 71 = .ok (.invokevirtual 255, 3) := by decide +kernel
theorem dX12_count_74 : decode cX12_count 74 = .ok (.ireturn, 1) := by decide +kernel
theorem dX12_count_75 : decode cX12_count 75 = .ok (.aload_n 0, 1) := by decide +kernel
theorem dX12_count_76 : decode cX12_count 76 = .ok (.getfield 13, 3) := by decide +kernel
theorem dX12_count_79 : decode cX12_count 79 = .ok (.bipush 53, 2) := by decide +kernel
theorem dX12_count_81 : decode cX12_count 81 = .ok (.iaload, 1) := by decide +kernel
theorem dX12_count_82 : decode cX12_count 82 = .ok (.ireturn, 1) := by decide +kernel
theorem dX12_count_83 : decode cX12_count 83 = .ok (.aload_n 0, 1) := by decide +kernel
theorem dX12_count_84 : decode cX12_count 84 = .ok (.getfield 13, 3) := by decide +kernel
theorem dX12_count_87 : decode cX12_count 87 = .ok (.bipush 52, 2) := by decide +kernel
theorem dX12_count_89 : decode cX12_count 89 = .ok (.iaload, 1) := by decide +kernel
theorem dX12_count_90 : decode cX12_count 90 = .ok (.ireturn, 1) := by decide +kernel
theorem dX12_count_91 : decode cX12_count 91 = .ok (.aload_n 0, 1) := by decide +kernel
theorem dX12_count_92 : decode cX12_count 92 = .ok (.invokevirtual 435, 3) := by decide +kernel
theorem dX12_count_95 : decode cX12_count 95 = .ok (.ireturn, 1) := by decide +kernel
theorem dX12_count_96 : decode cX12_count 96 = .ok (.aload_n 0, 1) := by decide +kernel
theorem dX12_count_97 : decode cX12_count 97 = .ok (.getfield 13, 3) := by decide +kernel
theorem dX12_count_100 : decode cX12_count 100 = .ok (.bipush 84, 2) := by decide +kernel
theorem dX12_count_102 : decode cX12_count 102 = .ok (.iaload, 1) := by decide +kernel
theorem dX12_count_103 : decode cX12_count 103 = .ok (.ireturn, 1) := by decide +kernel
theorem dX12_count_104 : decode cX12_count 104 = .ok (.aload_n 0, 1) := by decide +kernel
theorem dX12_count_105 : decode cX12_count 105 = .ok (.getfield 83, 3) := by decide +kernel
theorem dX12_count_108 : decode cX12_count 108 = .ok (.ireturn, 1) := by decide +kernel
theorem dX12_count_109 : decode cX12_count 109 = .ok (.aload_n 0, 1) := by decide +kernel
theorem dX12_count_110 : decode cX12_count 110 = .ok (.getfield 13, 3) := by decide +kernel
theorem dX12_count_113 : decode cX12_count 113 = .ok (.iconst 0, 1) := by decide +kernel
theorem dX12_count_114 : decode cX12_count 114 = .ok (.iaload, 1) := by decide +kernel
theorem dX12_count_115 : decode cX12_count 115 = .ok (.ireturn, 1) := by decide +kernel
theorem dX12_count_116 : decode cX12_count 116 = .ok (.iconst (-1), 1) := by decide +kernel
theorem dX12_count_117 : decode cX12_count 117 = .ok (.ireturn, 1) := by decide +kernel
set_option maxHeartbeats 4000000 in
set_option maxRecDepth 100000 in
theorem gX12_count_ed51c5e (l : Launch) (D : va_G) (cy : Nat → ClassId) (h0 : Nat) (h1 : Nat) (h2 : Nat) (h3 : Nat) (h4 : Nat) (p0 : Int32) (p1 : Int32) (w0 : Value) (w1 : Value) (w2 : Value) (p2 : Int32) (p3 : Int32) (p4 : Int32) (p5 : Int32) (p6 : Int32) (p7 : Int32) (p8 : Int32) (p9 : Int32) (p10 : Int32) (p11 : Int32) (p12 : Int32) (w3 : Value) (w4 : Value) (p13 : Int32) (p14 : Int32) (w5 : Value) (w6 : Value) (w7 : Value) (p15 : Int32) (p16 : Int32) (w8 : Value) (w9 : Value) (w10 : Value) (w11 : Value) (w12 : Value) (p17 : Int32) (w13 : Value) (w14 : Value) (w15 : Value) (f0 : Nat → Int32) (p18 : Int32) (f1 : Nat → Int32) (f2 : Nat → Int32) (f3 : Nat → Int32) (hp0 : (-2147483648) ≤ (p0).toInt ∧ (p0).toInt ≤ 2147483647) (hp1 : (-2147483648) ≤ (p1).toInt ∧ (p1).toInt ≤ 2147483647) (hp2 : 0 ≤ (p2).toInt ∧ (p2).toInt ≤ 900) (hp3 : 0 ≤ (p3).toInt ∧ (p3).toInt ≤ 900) (hp4 : 0 ≤ (p4).toInt ∧ (p4).toInt ≤ 900) (hp5 : 0 ≤ (p5).toInt ∧ (p5).toInt ≤ 900) (hp6 : (-2147483648) ≤ (p6).toInt ∧ (p6).toInt ≤ 2147483647) (hp7 : 0 ≤ (p7).toInt ∧ (p7).toInt ≤ 999) (hp8 : (-2147483648) ≤ (p8).toInt ∧ (p8).toInt ≤ 2147483647) (hp9 : (-2147483648) ≤ (p9).toInt ∧ (p9).toInt ≤ 2147483647) (hp10 : (-2147483648) ≤ (p10).toInt ∧ (p10).toInt ≤ 2147483647) (hp11 : (-2147483648) ≤ (p11).toInt ∧ (p11).toInt ≤ 2147483647) (hp12 : (-2147483648) ≤ (p12).toInt ∧ (p12).toInt ≤ 2147483647) (hp13 : (-2147483648) ≤ (p13).toInt ∧ (p13).toInt ≤ 2147483647) (hp14 : (-2147483648) ≤ (p14).toInt ∧ (p14).toInt ≤ 2147483647) (hp15 : (-2147483648) ≤ (p15).toInt ∧ (p15).toInt ≤ 2147483647) (hp16 : (-2147483648) ≤ (p16).toInt ∧ (p16).toInt ≤ 2147483647) (hp17 : (-2147483648) ≤ (p17).toInt ∧ (p17).toInt ≤ 2147483647) (hp18 : 0 ≤ (p18).toInt ∧ (p18).toInt ≤ 10) (htf0_84 : f0 84 = p18) (rf0 : AL f0) (rf3 : RG f3 10 0 1023) (sz : Nat) : MI l yX12_count cX12_count 2 .int { frames := 5, cells := 0, slots := 0, locals := 116 } [.ref h0, .int p0] D cy (wk_8b19a8a79 cy h0 p1 h1 w0 w1 w2 p2 p3 p4 p5 p6 p7 p8 p9 p10 p11 p12 h2 h3 w3 h4 w4 p13 p14 w5 w6 w7 p15 p16 w8 w9 w10 w11 w12 p17 w13 w14 w15 h1 f0 h2 f1 h3 f2 h4 f3) sz (fun r u => ((-2147483648) ≤ r.toInt ∧ r.toInt ≤ 2147483647) ∧ (0 ≤ (u.2.1 0 0).toInt ∧ (u.2.1 0 0).toInt ≤ 0) ∧ RG (u.2.1 3) 10 0 1023 ∧ True) (fun u => (wk_8b19a8a79 cy h0 (u.2.1 0 0) h1 w0 w1 w2 p2 p3 p4 p5 p6 p7 p8 p9 p10 p11 p12 h2 h3 w3 h4 w4 p13 p14 w5 w6 w7 p15 p16 w8 w9 w10 w11 w12 p17 w13 w14 w15 h1 f0 h2 (u.2.1 1) h3 (u.2.1 2) h4 (u.2.1 3))) 0 0 := by
  refine q_ent (own := RX12) (by decide) rfl (Nat.le_of_ble_eq_true rfl) (fun p e s m below meth c ls X hr hlk hnm hK hT h hA hl => ?_)
  obtain ⟨hx, hb, hml, hown, ht⟩ := id X
  replace hl : lv_has ls 2 [(0, .ref h0), (1, .int p0)] := hl
  refine lv_aload_n hx hb dX12_count_0 rfl (lv_at hl 0 rfl) ?_
  refine lv_iconst (v := 0) hx hb dX12_count_1 (by decide) ?_
  refine q_put (v := .int 0) X hK h 0 rfl rfl wf_12 tyX12 tyX12_ok nmX12 0 (by decide) wm_5_170 rfl rfl rfl (Nat.le_of_ble_eq_true rfl) dX12_count_2 (fun H locs h_1 => ?_)
  clear h
  replace h_1 : qW D _ _ (wk_8b19a8a79 cy h0 0 h1 w0 w1 w2 p2 p3 p4 p5 p6 p7 p8 p9 p10 p11 p12 h2 h3 w3 h4 w4 p13 p14 w5 w6 w7 p15 p16 w8 w9 w10 w11 w12 p17 w13 w14 w15 h1 f0 h2 f1 h3 f2 h4 f3) _ _ := h_1
  refine lv_iload_n hx hb dX12_count_5 rfl (lv_at hl 1 rfl) ?_
  by_cases c_2 : p0 = 0
  · have ec_2 : (p0).toInt = 0 := by rw [c_2]; decide
    refine lv_tableIn (off := 50) (tgt := 56) hx hb dX12_count_6 (by rw [c_2]; decide +kernel) (by rw [c_2]; decide +kernel) (by rw [c_2]; decide +kernel) (by decide) ?_
    refine lv_aload_n hx hb dX12_count_56 rfl (lv_at hl 0 rfl) ?_
    refine q_get X hK h_1 0 rfl rfl wf_12 1 (by decide) rfl wm_5_171 dX12_count_57 ?_
    refine lv_iconst (v := 1) hx hb dX12_count_60 (by decide) ?_
    refine q_iald X hK h_1 1 rfl (q_in (by decide +kernel)) dX12_count_61 ?_
    obtain ⟨z_3, ez_3, hz_3⟩ := al_V rf0 (x := 1) (show (1 : Int32).toInt = 1 by decide) (by omega) (by omega)
    refine q_c z_3 ez_3 ?_
    clear ez_3
    exact q_iret X hr hlk hK h_1 rfl (fun _ => 0, (vcons (fun _ => 0) (vcons f1 (vcons f2 (vcons f3 (fun _ => (fun _ => 0)))))), fun _ _ => 0) ⟨⟨by omega, by omega⟩, (⟨by decide +kernel, by decide +kernel⟩ : 0 ≤ (0 : Int32).toInt ∧ (0 : Int32).toInt ≤ 0), (rg_wide rf3 (by decide) (by decide)), trivial⟩ [0, 1, 2, 3, 4] rfl rfl dX12_count_62 (Nat.le_of_ble_eq_true rfl) (Nat.le_of_ble_eq_true rfl)
  by_cases c_4 : p0 = 1
  · have ec_4 : (p0).toInt = 1 := by rw [c_4]; decide
    refine lv_tableIn (off := 57) (tgt := 63) hx hb dX12_count_6 (by rw [c_4]; decide +kernel) (by rw [c_4]; decide +kernel) (by rw [c_4]; decide +kernel) (by decide) ?_
    refine lv_aload_n hx hb dX12_count_63 rfl (lv_at hl 0 rfl) ?_
    refine q_get X hK h_1 0 rfl rfl wf_12 1 (by decide) rfl wm_5_171 dX12_count_64 ?_
    refine lv_iconst (v := 2) hx hb dX12_count_67 (by decide) ?_
    refine q_iald X hK h_1 1 rfl (q_in (by decide +kernel)) dX12_count_68 ?_
    obtain ⟨z_5, ez_5, hz_5⟩ := al_P rf0 (x := 2) (show (2 : Int32).toInt = 2 by decide) (by omega) (by omega)
    refine q_c z_5 ez_5 ?_
    clear ez_5
    exact q_iret X hr hlk hK h_1 rfl (fun _ => 0, (vcons (fun _ => 0) (vcons f1 (vcons f2 (vcons f3 (fun _ => (fun _ => 0)))))), fun _ _ => 0) ⟨⟨by omega, by omega⟩, (⟨by decide +kernel, by decide +kernel⟩ : 0 ≤ (0 : Int32).toInt ∧ (0 : Int32).toInt ≤ 0), (rg_wide rf3 (by decide) (by decide)), trivial⟩ [0, 1, 2, 3, 4] rfl rfl dX12_count_69 (Nat.le_of_ble_eq_true rfl) (Nat.le_of_ble_eq_true rfl)
  by_cases c_6 : p0 = 2
  · have ec_6 : (p0).toInt = 2 := by rw [c_6]; decide
    refine lv_tableIn (off := 64) (tgt := 70) hx hb dX12_count_6 (by rw [c_6]; decide +kernel) (by rw [c_6]; decide +kernel) (by rw [c_6]; decide +kernel) (by decide) ?_
    refine lv_aload_n hx hb dX12_count_70 rfl (lv_at hl 0 rfl) ?_
    refine q_callVi (rest := []) (wr := (wk_ce6a1f133 cy h2 f1 h3 f2 h4 f3)) X hK hT hA h_1 (fun sz => gX12_townNow_2907b4b l D cy h0 h1 (0 : Int32) w0 w1 w2 p2 p3 p4 p5 p6 p7 p8 p9 p10 p11 p12 (.ref h2) (.ref h3) w3 (.ref h4) w4 p13 p14 w5 w6 w7 p15 p16 w8 w9 w10 w11 w12 p17 w13 w14 w15 f0 p18 ⟨by decide +kernel, by decide +kernel⟩ hp2 hp3 hp4 hp5 (i_rng _) hp7 (i_rng _) (i_rng _) (i_rng _) (i_rng _) (i_rng _) (i_rng _) (i_rng _) (i_rng _) (i_rng _) (i_rng _) hp18 htf0_84 rf0 sz) wm_6_170 wm_6_173 wm_1_12 hd_X12_townNow wm_6_172 wp_5_9 (ci := 12) (q0 := 0) rfl rfl ⟨Nat.le_of_ble_eq_true rfl, Nat.le_of_ble_eq_true rfl⟩ hl.1 rfl (Nat.le_of_ble_eq_true rfl) dX12_count_71 ⟨Nat.le_of_ble_eq_true rfl, Nat.le_of_ble_eq_true rfl⟩ [0, 1] [2, 3, 4] rfl rfl (by decide) rfl rfl (fun r_7 u_7 H locs w_7 h_7 => ?_)
    clear h_1
    obtain ⟨wr_7, _⟩ := w_7
    replace h_7 : qW D _ _ (wk_6bef7693d cy h2 f1 h3 f2 h4 f3 h0 0 h1 w0 w1 w2 p2 p3 p4 p5 p6 p7 p8 p9 p10 p11 p12 h2 h3 w3 h4 w4 p13 p14 w5 w6 w7 p15 p16 w8 w9 w10 w11 w12 p17 w13 w14 w15 h1 f0) _ _ := h_7
    exact q_iret X hr hlk hK h_7 rfl (fun _ => 0, (vcons (fun _ => 0) (vcons f1 (vcons f2 (vcons f3 (fun _ => (fun _ => 0)))))), fun _ _ => 0) ⟨(bw wr_7 (by decide) (by decide)), (⟨by decide +kernel, by decide +kernel⟩ : 0 ≤ (0 : Int32).toInt ∧ (0 : Int32).toInt ≤ 0), (rg_wide rf3 (by decide) (by decide)), trivial⟩ [3, 4, 0, 1, 2] rfl rfl dX12_count_74 (Nat.le_of_ble_eq_true rfl) (Nat.le_of_ble_eq_true rfl)
  by_cases c_8 : p0 = 3
  · have ec_8 : (p0).toInt = 3 := by rw [c_8]; decide
    refine lv_tableIn (off := 69) (tgt := 75) hx hb dX12_count_6 (by rw [c_8]; decide +kernel) (by rw [c_8]; decide +kernel) (by rw [c_8]; decide +kernel) (by decide) ?_
    refine lv_aload_n hx hb dX12_count_75 rfl (lv_at hl 0 rfl) ?_
    refine q_get X hK h_1 0 rfl rfl wf_12 1 (by decide) rfl wm_5_171 dX12_count_76 ?_
    refine lv_bipush (v := 53) hx hb dX12_count_79 (by decide) ?_
    refine q_iald X hK h_1 1 rfl (q_in (by decide +kernel)) dX12_count_81 ?_
    refine q_any (fun z_9 hz_9 => ?_)
    exact q_iret X hr hlk hK h_1 rfl (fun _ => 0, (vcons (fun _ => 0) (vcons f1 (vcons f2 (vcons f3 (fun _ => (fun _ => 0)))))), fun _ _ => 0) ⟨⟨by omega, by omega⟩, (⟨by decide +kernel, by decide +kernel⟩ : 0 ≤ (0 : Int32).toInt ∧ (0 : Int32).toInt ≤ 0), (rg_wide rf3 (by decide) (by decide)), trivial⟩ [0, 1, 2, 3, 4] rfl rfl dX12_count_82 (Nat.le_of_ble_eq_true rfl) (Nat.le_of_ble_eq_true rfl)
  by_cases c_10 : p0 = 4
  · have ec_10 : (p0).toInt = 4 := by rw [c_10]; decide
    refine lv_tableIn (off := 77) (tgt := 83) hx hb dX12_count_6 (by rw [c_10]; decide +kernel) (by rw [c_10]; decide +kernel) (by rw [c_10]; decide +kernel) (by decide) ?_
    refine lv_aload_n hx hb dX12_count_83 rfl (lv_at hl 0 rfl) ?_
    refine q_get X hK h_1 0 rfl rfl wf_12 1 (by decide) rfl wm_5_171 dX12_count_84 ?_
    refine lv_bipush (v := 52) hx hb dX12_count_87 (by decide) ?_
    refine q_iald X hK h_1 1 rfl (q_in (by decide +kernel)) dX12_count_89 ?_
    refine q_any (fun z_11 hz_11 => ?_)
    exact q_iret X hr hlk hK h_1 rfl (fun _ => 0, (vcons (fun _ => 0) (vcons f1 (vcons f2 (vcons f3 (fun _ => (fun _ => 0)))))), fun _ _ => 0) ⟨⟨by omega, by omega⟩, (⟨by decide +kernel, by decide +kernel⟩ : 0 ≤ (0 : Int32).toInt ∧ (0 : Int32).toInt ≤ 0), (rg_wide rf3 (by decide) (by decide)), trivial⟩ [0, 1, 2, 3, 4] rfl rfl dX12_count_90 (Nat.le_of_ble_eq_true rfl) (Nat.le_of_ble_eq_true rfl)
  by_cases c_12 : p0 = 5
  · have ec_12 : (p0).toInt = 5 := by rw [c_12]; decide
    refine lv_tableIn (off := 85) (tgt := 91) hx hb dX12_count_6 (by rw [c_12]; decide +kernel) (by rw [c_12]; decide +kernel) (by rw [c_12]; decide +kernel) (by decide) ?_
    refine lv_aload_n hx hb dX12_count_91 rfl (lv_at hl 0 rfl) ?_
    refine q_callVi (rest := []) (wr := []) X hK hT hA h_1 (fun sz => gX12_twosNow_e3aaf67 l D cy h0 h1 h2 h3 h4 (0 : Int32) w0 w1 w2 p2 p3 p4 p5 p6 p7 p8 p9 p10 p11 p12 w3 w4 p13 p14 w5 w6 w7 p15 p16 w8 w9 w10 w11 w12 p17 w13 w14 w15 f0 p18 f1 f2 f3 ⟨by decide +kernel, by decide +kernel⟩ hp2 hp3 hp4 hp5 (i_rng _) hp7 (i_rng _) (i_rng _) (i_rng _) (i_rng _) (i_rng _) (i_rng _) (i_rng _) (i_rng _) (i_rng _) (i_rng _) hp18 htf0_84 rf0 (rg_wide rf3 (by decide) (by decide)) sz) wm_8_55 wm_8_58 wm_1_12 hd_X12_twosNow wm_8_57 wp_8_4 (ci := 12) (q0 := 0) rfl rfl ⟨Nat.le_of_ble_eq_true rfl, Nat.le_of_ble_eq_true rfl⟩ hl.1 rfl (Nat.le_of_ble_eq_true rfl) dX12_count_92 ⟨Nat.le_of_ble_eq_true rfl, Nat.le_of_ble_eq_true rfl⟩ [0, 1, 2, 3, 4] [] rfl rfl (by decide) rfl rfl (fun r_13 u_13 H locs w_13 h_13 => ?_)
    clear h_1
    obtain ⟨wr_13, w13_0, _⟩ := w_13
    replace h_13 : qW D _ _ (wk_8b19a8a79 cy h0 0 h1 w0 w1 w2 p2 p3 p4 p5 p6 p7 p8 p9 p10 p11 p12 h2 h3 w3 h4 w4 p13 p14 w5 w6 w7 p15 p16 w8 w9 w10 w11 w12 p17 w13 w14 w15 h1 f0 h2 (u_13.2.1 0) h3 (u_13.2.1 1) h4 (u_13.2.1 2)) _ _ := h_13
    exact q_iret X hr hlk hK h_13 rfl (fun _ => 0, (vcons (fun _ => 0) (vcons (u_13.2.1 0) (vcons (u_13.2.1 1) (vcons (u_13.2.1 2) (fun _ => (fun _ => 0)))))), fun _ _ => 0) ⟨wr_13, (⟨by decide +kernel, by decide +kernel⟩ : 0 ≤ (0 : Int32).toInt ∧ (0 : Int32).toInt ≤ 0), (rg_wide w13_0 (by decide) (by decide)), trivial⟩ [0, 1, 2, 3, 4] rfl rfl dX12_count_95 (Nat.le_of_ble_eq_true rfl) (Nat.le_of_ble_eq_true rfl)
  by_cases c_14 : p0 = 6
  · have ec_14 : (p0).toInt = 6 := by rw [c_14]; decide
    refine lv_tableIn (off := 90) (tgt := 96) hx hb dX12_count_6 (by rw [c_14]; decide +kernel) (by rw [c_14]; decide +kernel) (by rw [c_14]; decide +kernel) (by decide) ?_
    refine lv_aload_n hx hb dX12_count_96 rfl (lv_at hl 0 rfl) ?_
    refine q_get X hK h_1 0 rfl rfl wf_12 1 (by decide) rfl wm_5_171 dX12_count_97 ?_
    refine lv_bipush (v := 84) hx hb dX12_count_100 (by decide) ?_
    refine q_iald X hK h_1 1 rfl (q_in (by decide +kernel)) dX12_count_102 ?_
    refine q_c p18 htf0_84 ?_
    exact q_iret X hr hlk hK h_1 rfl (fun _ => 0, (vcons (fun _ => 0) (vcons f1 (vcons f2 (vcons f3 (fun _ => (fun _ => 0)))))), fun _ _ => 0) ⟨(bw hp18 (by decide) (by decide)), (⟨by decide +kernel, by decide +kernel⟩ : 0 ≤ (0 : Int32).toInt ∧ (0 : Int32).toInt ≤ 0), (rg_wide rf3 (by decide) (by decide)), trivial⟩ [0, 1, 2, 3, 4] rfl rfl dX12_count_103 (Nat.le_of_ble_eq_true rfl) (Nat.le_of_ble_eq_true rfl)
  by_cases c_15 : p0 = 7
  · have ec_15 : (p0).toInt = 7 := by rw [c_15]; decide
    refine lv_tableIn (off := 98) (tgt := 104) hx hb dX12_count_6 (by rw [c_15]; decide +kernel) (by rw [c_15]; decide +kernel) (by rw [c_15]; decide +kernel) (by decide) ?_
    refine lv_aload_n hx hb dX12_count_104 rfl (lv_at hl 0 rfl) ?_
    refine q_get X hK h_1 0 rfl rfl wf_12 5 (by decide) rfl wm_5_175 dX12_count_105 ?_
    exact q_iret X hr hlk hK h_1 rfl (fun _ => 0, (vcons (fun _ => 0) (vcons f1 (vcons f2 (vcons f3 (fun _ => (fun _ => 0)))))), fun _ _ => 0) ⟨(bw hp2 (by decide) (by decide)), (⟨by decide +kernel, by decide +kernel⟩ : 0 ≤ (0 : Int32).toInt ∧ (0 : Int32).toInt ≤ 0), (rg_wide rf3 (by decide) (by decide)), trivial⟩ [0, 1, 2, 3, 4] rfl rfl dX12_count_108 (Nat.le_of_ble_eq_true rfl) (Nat.le_of_ble_eq_true rfl)
  by_cases c_16 : p0 = 8
  · have ec_16 : (p0).toInt = 8 := by rw [c_16]; decide
    refine lv_tableIn (off := 103) (tgt := 109) hx hb dX12_count_6 (by rw [c_16]; decide +kernel) (by rw [c_16]; decide +kernel) (by rw [c_16]; decide +kernel) (by decide) ?_
    refine lv_aload_n hx hb dX12_count_109 rfl (lv_at hl 0 rfl) ?_
    refine q_get X hK h_1 0 rfl rfl wf_12 1 (by decide) rfl wm_5_171 dX12_count_110 ?_
    refine lv_iconst (v := 0) hx hb dX12_count_113 (by decide) ?_
    refine q_iald X hK h_1 1 rfl (q_in (by decide +kernel)) dX12_count_114 ?_
    refine q_any (fun z_17 hz_17 => ?_)
    exact q_iret X hr hlk hK h_1 rfl (fun _ => 0, (vcons (fun _ => 0) (vcons f1 (vcons f2 (vcons f3 (fun _ => (fun _ => 0)))))), fun _ _ => 0) ⟨⟨by omega, by omega⟩, (⟨by decide +kernel, by decide +kernel⟩ : 0 ≤ (0 : Int32).toInt ∧ (0 : Int32).toInt ≤ 0), (rg_wide rf3 (by decide) (by decide)), trivial⟩ [0, 1, 2, 3, 4] rfl rfl dX12_count_115 (Nat.le_of_ble_eq_true rfl) (Nat.le_of_ble_eq_true rfl)
  have nc_2 := lv_neT c_2 (show (0 : Int32).toInt = 0 by decide)
  have nc_4 := lv_neT c_4 (show (1 : Int32).toInt = 1 by decide)
  have nc_6 := lv_neT c_6 (show (2 : Int32).toInt = 2 by decide)
  have nc_8 := lv_neT c_8 (show (3 : Int32).toInt = 3 by decide)
  have nc_10 := lv_neT c_10 (show (4 : Int32).toInt = 4 by decide)
  have nc_12 := lv_neT c_12 (show (5 : Int32).toInt = 5 by decide)
  have nc_14 := lv_neT c_14 (show (6 : Int32).toInt = 6 by decide)
  have nc_15 := lv_neT c_15 (show (7 : Int32).toInt = 7 by decide)
  have nc_16 := lv_neT c_16 (show (8 : Int32).toInt = 8 by decide)
  refine lv_tableOut (tgt := 116) hx hb dX12_count_6 (by omega) (by decide) ?_
  refine lv_iconst (v := (-1)) hx hb dX12_count_116 (by decide) ?_
  exact q_iret X hr hlk hK h_1 rfl (fun _ => 0, (vcons (fun _ => 0) (vcons f1 (vcons f2 (vcons f3 (fun _ => (fun _ => 0)))))), fun _ _ => 0) ⟨⟨by decide +kernel, by decide +kernel⟩, (⟨by decide +kernel, by decide +kernel⟩ : 0 ≤ (0 : Int32).toInt ∧ (0 : Int32).toInt ≤ 0), (rg_wide rf3 (by decide) (by decide)), trivial⟩ [0, 1, 2, 3, 4] rfl rfl dX12_count_117 (Nat.le_of_ble_eq_true rfl) (Nat.le_of_ble_eq_true rfl)
