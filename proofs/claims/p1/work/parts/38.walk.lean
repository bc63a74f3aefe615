set_option maxHeartbeats 4000000 in
set_option maxRecDepth 100000 in
theorem kX12_year_575 (l : Launch) (D : va_G) (cy : Nat → ClassId) (h0 : Nat) (h1 : Nat) (h2 : Nat) (p0 : Int32) (p1 : Int32) (h3 : Nat) (h4 : Nat) (h5 : Nat) (h6 : Nat) (h7 : Nat) (h8 : Nat) (h9 : Nat) (h10 : Nat) (h11 : Nat) (h12 : Nat) (h13 : Nat) (h14 : Nat) (h15 : Nat) (h16 : Nat) (h17 : Nat) (h18 : Nat) (h19 : Nat) (h20 : Nat) (f0 : Nat → Int32) (hlo_p1 : (1 : Int32) ≤ p1) (hhi_p1 : p1 ≤ (40 : Int32)) (hf_f0_2 : f0 (Int32.toNatClampNeg 2) = 0) (hf_f0_52 : f0 (Int32.toNatClampNeg 52) = 0) (hf_f0_53 : f0 (Int32.toNatClampNeg 53) = 0) (hf_f0_54 : f0 (Int32.toNatClampNeg 54) = 0) (hf_f0_55 : f0 (Int32.toNatClampNeg 55) = 0) (hf_f0_56 : f0 (Int32.toNatClampNeg 56) = 0) (hf_f0_57 : f0 (Int32.toNatClampNeg 57) = 0) (hf_f0_58 : f0 (Int32.toNatClampNeg 58) = 0) (hf_f0_59 : f0 (Int32.toNatClampNeg 59) = 0) (hf_f0_60 : f0 (Int32.toNatClampNeg 60) = 0) (hf_f0_61 : f0 (Int32.toNatClampNeg 61) = 0) (hf_f0_62 : f0 (Int32.toNatClampNeg 62) = 0) (hf_f0_63 : f0 (Int32.toNatClampNeg 63) = 0) (hf_f0_64 : f0 (Int32.toNatClampNeg 64) = 0) (hf_f0_65 : f0 (Int32.toNatClampNeg 65) = 0) (hf_f0_66 : f0 (Int32.toNatClampNeg 66) = 0) (hf_f0_67 : f0 (Int32.toNatClampNeg 67) = 0) (hf_f0_68 : f0 (Int32.toNatClampNeg 68) = 0) (hf_f0_69 : f0 (Int32.toNatClampNeg 69) = 0) (hf_f0_70 : f0 (Int32.toNatClampNeg 70) = 0) (hf_f0_71 : f0 (Int32.toNatClampNeg 71) = 0) (hf_f0_72 : f0 (Int32.toNatClampNeg 72) = 0) (hf_f0_73 : f0 (Int32.toNatClampNeg 73) = 0) (hf_f0_74 : f0 (Int32.toNatClampNeg 74) = 0) (hf_f0_75 : f0 (Int32.toNatClampNeg 75) = 0) (hf_f0_76 : f0 (Int32.toNatClampNeg 76) = 0) (hf_f0_77 : f0 (Int32.toNatClampNeg 77) = 0) (hf_f0_78 : f0 (Int32.toNatClampNeg 78) = 0) (hf_f0_79 : f0 (Int32.toNatClampNeg 79) = 0) (hf_f0_80 : f0 (Int32.toNatClampNeg 80) = 0) (hf_f0_81 : f0 (Int32.toNatClampNeg 81) = 0) (hf_f0_82 : f0 (Int32.toNatClampNeg 82) = 0) (hf_f0_83 : f0 (Int32.toNatClampNeg 83) = 0) (hf_f0_84 : f0 (Int32.toNatClampNeg 84) = 0) (sz : Nat) : MI l yX12_year cX12_year 6 .int { frames := 4, cells := 0, slots := 0, locals := 93 } [.ref h0, .int p0, .int p1] D cy [(h0, .inr (12, [.int 0, .ref h2, .ref h3, .ref h4, .ref h5, .int 0, .int 0, .int 0, .int 0, .int 0, .int 0, .int 0, .int 0, .int 0, .int (-1), .int 0, .ref h6, .ref h7, .ref h8, .ref h9, .ref h1, .int 0, .int 0, .ref h10, .ref h11, .ref h12, .int 0, .int 0, .ref h13, .ref h14, .ref h15, .ref h16, .ref h17, .int 0, .ref h18, .ref h19, .ref h20])), (h1, .inl (cy 1, 32, .inl (fun _ => 0))), (h2, .inl (cy 1, 3918, .inl f0))] sz (fun r u => r = ((yit (Int32.toNatClampNeg p1) (p0, 0)).2)) (fun u => []) 0 0 := by
  refine q_ent (own := RX12) (by decide) rfl (Nat.le_of_ble_eq_true rfl) (fun p e s m below meth c ls X hr hlk hnm hK h hA hl => ?_)
  obtain ⟨hx, hb, hml, hown, ht⟩ := id X
  replace hl : lv_has ls 6 [(0, .ref h0), (1, .int p0), (2, .int p1)] := hl
  refine lv_aload_n hx hb dX12_year_0 rfl (lv_at hl 0 rfl) ?_
  refine lv_iconst (v := 0) hx hb dX12_year_1 (by decide) ?_
  refine q_put (v := .int 0) X hK h 0 rfl rfl wf_12 tyX12 tyX12_ok nmX12 0 (by decide) wm_5_170 rfl rfl rfl (Nat.le_of_ble_eq_true rfl) dX12_year_2 (fun Hp1 lc1 hw1 => ?_)
  clear h
  replace hw1 : qW D _ _ [(h0, .inr (12, [.int 0, .ref h2, .ref h3, .ref h4, .ref h5, .int 0, .int 0, .int 0, .int 0, .int 0, .int 0, .int 0, .int 0, .int 0, .int (-1), .int 0, .ref h6, .ref h7, .ref h8, .ref h9, .ref h1, .int 0, .int 0, .ref h10, .ref h11, .ref h12, .int 0, .int 0, .ref h13, .ref h14, .ref h15, .ref h16, .ref h17, .int 0, .ref h18, .ref h19, .ref h20])), (h1, .inl (cy 1, 32, .inl (fun _ => 0))), (h2, .inl (cy 1, 3918, .inl f0))] _ _ := hw1
  refine lv_iload_n hx hb dX12_year_5 rfl (lv_at hl 2 rfl) ?_
  refine lv_i2l hx hb dX12_year_6 rfl ?_
  refine lv_lconst (v := 1) hx hb dX12_year_7 (by decide) ?_
  refine lv_ldc2 hx hb hown (ht _ wm_7_82) dX12_year_8 ?_
  have g_13640 : (1 : Int64) ≤ ((p1).toInt64) := by
    simp only [Int32.toInt_toInt64, Int64.lt_iff_toInt_lt, Int64.le_iff_toInt_le, ← Int64.toInt_inj, Int32.lt_iff_toInt_lt, Int32.le_iff_toInt_le, ← Int32.toInt_inj] at hlo_p1 hhi_p1 ⊢
    have k_0 : (1 : Int32).toInt = 1 := by decide
    have k_1 : (40 : Int32).toInt = 40 := by decide
    have k_g : (1 : Int64).toInt = 1 := by decide
    omega
  have g_13641 : ((p1).toInt64) ≤ (40 : Int64) := by
    simp only [Int32.toInt_toInt64, Int64.lt_iff_toInt_lt, Int64.le_iff_toInt_le, ← Int64.toInt_inj, Int32.lt_iff_toInt_lt, Int32.le_iff_toInt_le, ← Int32.toInt_inj] at hlo_p1 hhi_p1 ⊢
    have k_0 : (1 : Int32).toInt = 1 := by decide
    have k_1 : (40 : Int32).toInt = 40 := by decide
    have k_g : (40 : Int64).toInt = 40 := by decide
    omega
  refine q_callSi (rest := []) (wr := [(h0, .inr (12, [.int 0, .ref h2, .ref h3, .ref h4, .ref h5, .int 0, .int 0, .int 0, .int 0, .int 0, .int 0, .int 0, .int 0, .int 0, .int (-1), .int 0, .ref h6, .ref h7, .ref h8, .ref h9, .ref h1, .int 0, .int 0, .ref h10, .ref h11, .ref h12, .int 0, .int 0, .ref h13, .ref h14, .ref h15, .ref h16, .ref h17, .int 0, .ref h18, .ref h19, .ref h20])), (h1, .inl (cy 1, 32, .inl (fun _ => 0))), (h2, .inl (cy 1, 3918, .inl f0))]) X hK hA hw1 (fun sz => kX12_within_555 l D cy ((p1).toInt64) g_13640 g_13641 sz) wm_6_50 wm_6_52 wm_1_12 hd_X12_within wm_6_51 ⟨Nat.le_of_ble_eq_true rfl, Nat.le_of_ble_eq_true rfl⟩ hl.1 rfl (Nat.le_of_ble_eq_true rfl) dX12_year_11 ⟨Nat.le_of_ble_eq_true rfl, Nat.le_of_ble_eq_true rfl⟩ [] [0, 1, 2] rfl rfl (by decide) rfl rfl (fun r_13642 u_13642 Hp2 lc2 w_13642 hw2 => ?_)
  clear Hp1 lc1 hw1
  obtain rfl : r_13642 = 1 := w_13642
  replace hw2 : qW D _ _ [(h0, .inr (12, [.int 0, .ref h2, .ref h3, .ref h4, .ref h5, .int 0, .int 0, .int 0, .int 0, .int 0, .int 0, .int 0, .int 0, .int 0, .int (-1), .int 0, .ref h6, .ref h7, .ref h8, .ref h9, .ref h1, .int 0, .int 0, .ref h10, .ref h11, .ref h12, .int 0, .int 0, .ref h13, .ref h14, .ref h15, .ref h16, .ref h17, .int 0, .ref h18, .ref h19, .ref h20])), (h1, .inl (cy 1, 32, .inl (fun _ => 0))), (h2, .inl (cy 1, 3918, .inl f0))] _ _ := hw2
  refine lv_if_ne (tgt := 20) hx hb dX12_year_14 (by decide) (fun _ => ?_) (fun c => absurd c (by decide +kernel))
  refine lv_aload_n hx hb dX12_year_20 rfl (lv_at hl 0 rfl) ?_
  refine q_callVv (rest := []) (wr := []) X hK hA hw2 (fun sz => kX12_keeps_120 l D cy h0 h1 h2 h3 h4 h5 h6 h7 h8 h9 h10 h11 h12 h13 h14 h15 h16 h17 h18 h19 h20 f0 hf_f0_52 hf_f0_53 hf_f0_54 hf_f0_55 hf_f0_56 hf_f0_57 hf_f0_58 hf_f0_59 hf_f0_60 hf_f0_61 hf_f0_62 hf_f0_63 hf_f0_64 hf_f0_65 hf_f0_66 hf_f0_67 hf_f0_68 hf_f0_69 hf_f0_70 hf_f0_71 hf_f0_72 hf_f0_73 hf_f0_74 hf_f0_75 hf_f0_76 hf_f0_77 hf_f0_78 hf_f0_79 hf_f0_80 hf_f0_81 hf_f0_82 hf_f0_83 sz) wm_6_220 wm_6_223 wm_1_12 hd_X12_keeps wm_6_222 wp_6_0 (ci := 12) (q0 := 0) rfl rfl ⟨Nat.le_of_ble_eq_true rfl, Nat.le_of_ble_eq_true rfl⟩ hl.1 rfl (Nat.le_of_ble_eq_true rfl) dX12_year_21 ⟨Nat.le_of_ble_eq_true rfl, Nat.le_of_ble_eq_true rfl⟩ [0, 1, 2] [] rfl rfl (by decide) rfl rfl (fun u_13643 Hp3 lc3 w_13643 hw3 => ?_)
  clear Hp2 lc2 hw2
  replace hw3 : qW D _ _ [(h0, .inr (12, [.int 0, .ref h2, .ref h3, .ref h4, .ref h5, .int 0, .int 0, .int 0, .int 0, .int 0, .int 0, .int 0, .int 0, .int 0, .int (-1), .int 0, .ref h6, .ref h7, .ref h8, .ref h9, .ref h1, .int 0, .int 0, .ref h10, .ref h11, .ref h12, .int 0, .int 0, .ref h13, .ref h14, .ref h15, .ref h16, .ref h17, .int 0, .ref h18, .ref h19, .ref h20])), (h1, .inl (cy 1, 32, .inl (fun _ => 0))), (h2, .inl (cy 1, 3918, .inl f0))] _ _ := hw3
  refine lv_aload_n hx hb dX12_year_24 rfl (lv_at hl 0 rfl) ?_
  refine lv_iload_n hx hb dX12_year_25 rfl (lv_at hl 1 rfl) ?_
  refine q_put (v := .int p0) X hK hw3 0 rfl rfl wf_12 tyX12 tyX12_ok nmX12 22 (by decide) wm_5_192 rfl rfl rfl (Nat.le_of_ble_eq_true rfl) dX12_year_26 (fun Hp4 lc4 hw4 => ?_)
  clear Hp3 lc3 hw3
  replace hw4 : qW D _ _ [(h0, .inr (12, [.int 0, .ref h2, .ref h3, .ref h4, .ref h5, .int 0, .int 0, .int 0, .int 0, .int 0, .int 0, .int 0, .int 0, .int 0, .int (-1), .int 0, .ref h6, .ref h7, .ref h8, .ref h9, .ref h1, .int 0, .int p0, .ref h10, .ref h11, .ref h12, .int 0, .int 0, .ref h13, .ref h14, .ref h15, .ref h16, .ref h17, .int 0, .ref h18, .ref h19, .ref h20])), (h1, .inl (cy 1, 32, .inl (fun _ => 0))), (h2, .inl (cy 1, 3918, .inl f0))] _ _ := hw4
  refine lv_iconst (v := 0) hx hb dX12_year_29 (by decide) ?_
  refine lv_istore_n (lv' := [(3, .int 0), (0, .ref h0), (1, .int p0), (2, .int p1)]) hx hb dX12_year_30 rfl hl (by decide) rfl (fun lz5 hv5 => ?_)
  clear ls hl
  refine lv_iconst (v := 0) hx hb dX12_year_31 (by decide) ?_
  refine lv_istore (lv' := [(4, .int 0), (3, .int 0), (0, .ref h0), (1, .int p0), (2, .int p1)]) hx hb dX12_year_32 hv5 (by decide) rfl (fun lz6 hv6 => ?_)
  clear lz5 hv5
  have hlo9 : (0 : Int32) ≤ p1 := Int32.le_trans (by decide) hlo_p1
  obtain ⟨N, hN, hNe⟩ : ∃ N : Nat, N ≤ 40 ∧ p1 = nI N := q_num hlo9 hhi_p1
  subst hNe
  refine q_loop (P := fun k H locs ls => ∃ (x d : Int32) (fk : Nat → Int32), (x, d) = yit k (p0, 0) ∧ fk (Int32.toNatClampNeg 2) = 0 ∧ fk (Int32.toNatClampNeg 84) = 0 ∧ qW D (va_A [(h0, .inr (12, [.int 0, .ref h2, .ref h3, .ref h4, .ref h5, .int 0, .int 0, .int 0, .int 0, .int 0, .int 0, .int 0, .int 0, .int 0, .int (-1), .int 0, .ref h6, .ref h7, .ref h8, .ref h9, .ref h1, .int 0, .int 0, .ref h10, .ref h11, .ref h12, .int 0, .int 0, .ref h13, .ref h14, .ref h15, .ref h16, .ref h17, .int 0, .ref h18, .ref h19, .ref h20])), (h1, .inl (cy 1, 32, .inl (fun _ => 0))), (h2, .inl (cy 1, 3918, .inl f0))] sz) s.heap [(h0, .inr (12, [.int 0, .ref h2, .ref h3, .ref h4, .ref h5, .int 0, .int 0, .int 0, .int 0, .int 0, .int 0, .int 0, .int 0, .int 0, .int (-1), .int 0, .ref h6, .ref h7, .ref h8, .ref h9, .ref h1, .int 0, .int x, .ref h10, .ref h11, .ref h12, .int 0, .int 0, .ref h13, .ref h14, .ref h15, .ref h16, .ref h17, .int 0, .ref h18, .ref h19, .ref h20])), (h1, .inl (cy 1, 32, .inl (fun _ => 0))), (h2, .inl (cy 1, 3918, .inl fk))] H locs ∧ lv_has ls 6 [(4, .int (nI k)), (3, .int d), (0, .ref h0), (1, .int p0), (2, .int (nI N))]) N 0 (Nat.zero_le _) ⟨_, _, _, rfl, hf_f0_2, hf_f0_84, hw4, by rw [nI_0]; exact lv_sub hv6 [0, 1, 2, 3, 4] rfl⟩ (fun k hk ih H locs ls hP => ?_) (fun H locs ls hP => ?_)
  · obtain ⟨x, d, fk, hxd, hf_fk_2, hf_fk_84, h, hl⟩ := hP
    refine lv_iload hx hb dX12_year_34 (lv_at hl 0 rfl) ?_
    refine lv_iload_n hx hb dX12_year_36 rfl (lv_at hl 4 rfl) ?_
    refine lv_icmp_ge (tgt := 74) hx hb dX12_year_37 (by decide) (fun c => absurd c (nI_ge hk (by omega))) (fun _ => ?_)
    refine lv_aload_n hx hb dX12_year_40 rfl (lv_at hl 2 rfl) ?_
    refine q_callVi (rest := []) (wr := [(h1, .inl (cy 1, 32, .inl (fun _ => 0))), (h2, .inl (cy 1, 3918, .inl fk))]) X hK hA h (fun sz => kX12_drawn_558 l D cy h0 h2 h3 h4 h5 h6 h7 h8 h9 h1 x h10 h11 h12 h13 h14 h15 h16 h17 h18 h19 h20  sz) wm_7_83 wm_7_86 wm_1_12 hd_X12_drawn wm_7_85 wp_6_15 (ci := 12) (q0 := 0) rfl rfl ⟨Nat.le_of_ble_eq_true rfl, Nat.le_of_ble_eq_true rfl⟩ hl.1 rfl (Nat.le_of_ble_eq_true rfl) dX12_year_41 ⟨Nat.le_of_ble_eq_true rfl, Nat.le_of_ble_eq_true rfl⟩ [0] [1, 2] rfl rfl (by decide) rfl rfl (fun r_13651 u_13651 Hp7 lc7 w_13651 hw7 => ?_)
    clear h
    obtain rfl : r_13651 = (yr x) := w_13651
    replace hw7 : qW D _ _ [(h1, .inl (cy 1, 32, .inl (fun _ => 0))), (h2, .inl (cy 1, 3918, .inl fk)), (h0, .inr (12, [.int 0, .ref h2, .ref h3, .ref h4, .ref h5, .int 0, .int 0, .int 0, .int 0, .int 0, .int 0, .int 0, .int 0, .int 0, .int (-1), .int 0, .ref h6, .ref h7, .ref h8, .ref h9, .ref h1, .int 0, .int (yx x), .ref h10, .ref h11, .ref h12, .int 0, .int 0, .ref h13, .ref h14, .ref h15, .ref h16, .ref h17, .int 0, .ref h18, .ref h19, .ref h20]))] _ _ := hw7
    by_cases hday : yk (yn x) = 0
    · have hyr : yr x = -1 := if_pos hday
      have hyx : yx x = yn x := if_pos hday
      rw [hyx] at hw7
      refine q_c (-1) hyr ?_
      refine lv_istore (lv' := [(5, .int (-1)), (4, .int (nI k)), (3, .int d), (0, .ref h0), (1, .int p0), (2, .int (nI N))]) hx hb dX12_year_44 hl (by decide) rfl (fun lz8 hv8 => ?_)
      clear ls hl
      refine lv_aload_n hx hb dX12_year_46 rfl (lv_at hv8 3 rfl) ?_
      refine lv_iload hx hb dX12_year_47 (lv_at hv8 0 rfl) ?_
      refine lv_i2l (v := (-1)) hx hb dX12_year_49 (by decide +kernel) ?_
      refine q_callVi (rest := []) (wr := [(h1, .inl (cy 1, 32, .inl (fun _ => 0))), (h2, .inl (cy 1, 3918, .inl fk))]) X hK hA hw7 (fun sz => kX12_whyNot_559 l D cy h0 h2 h3 h4 h5 h6 h7 h8 h9 h1 (yn x) h10 h11 h12 h13 h14 h15 h16 h17 h18 h19 h20  sz) wm_7_38 wm_7_41 wm_1_12 hd_X12_whyNot wm_7_40 wp_6_8 (ci := 12) (q0 := 0) rfl rfl ⟨Nat.le_of_ble_eq_true rfl, Nat.le_of_ble_eq_true rfl⟩ hv8.1 rfl (Nat.le_of_ble_eq_true rfl) dX12_year_50 ⟨Nat.le_of_ble_eq_true rfl, Nat.le_of_ble_eq_true rfl⟩ [2] [0, 1] rfl rfl (by decide) rfl rfl (fun r_13652 u_13652 Hp9 lc9 w_13652 hw9 => ?_)
      clear Hp7 lc7 hw7
      obtain rfl : r_13652 = 0 := w_13652
      replace hw9 : qW D _ _ [(h1, .inl (cy 1, 32, .inl (fun _ => 0))), (h2, .inl (cy 1, 3918, .inl fk)), (h0, .inr (12, [.int 0, .ref h2, .ref h3, .ref h4, .ref h5, .int 0, .int 0, .int 0, .int 0, .int 0, .int 0, .int 0, .int 0, .int 0, .int (-1), .int 0, .ref h6, .ref h7, .ref h8, .ref h9, .ref h1, .int 0, .int (yn x), .ref h10, .ref h11, .ref h12, .int 0, .int 0, .ref h13, .ref h14, .ref h15, .ref h16, .ref h17, .int 0, .ref h18, .ref h19, .ref h20]))] _ _ := hw9
      refine lv_if_eq (tgt := 59) hx hb dX12_year_53 (by decide) (fun _ => ?_) (fun c => absurd c (by decide +kernel))
      refine lv_aload_n hx hb dX12_year_59 rfl (lv_at hv8 3 rfl) ?_
      refine lv_iload hx hb dX12_year_60 (lv_at hv8 0 rfl) ?_
      refine q_callVv (rest := []) (wr := [(h1, .inl (cy 1, 32, .inl (fun _ => 0)))]) X hK hA hw9 (fun sz => kX12_does_560 l D cy h2 h0 h3 h4 h5 h6 h7 h8 h9 h1 (yn x) h10 h11 h12 h13 h14 h15 h16 h17 h18 h19 h20 fk  sz) wm_7_47 wm_7_50 wm_1_12 hd_X12_does wm_7_49 wp_6_9 (ci := 12) (q0 := 1) rfl rfl ⟨Nat.le_of_ble_eq_true rfl, Nat.le_of_ble_eq_true rfl⟩ hv8.1 rfl (Nat.le_of_ble_eq_true rfl) dX12_year_62 ⟨Nat.le_of_ble_eq_true rfl, Nat.le_of_ble_eq_true rfl⟩ [1, 2] [0] rfl rfl (by decide) rfl rfl (fun u_13653 Hp10 lc10 w_13653 hw10 => ?_)
      clear Hp9 lc9 hw9
      replace hw10 : qW D _ _ [(h1, .inl (cy 1, 32, .inl (fun _ => 0))), (h2, .inl (cy 1, 3918, .inl (upd fk (Int32.toNatClampNeg 52) ((fk (Int32.toNatClampNeg 52)) + 1)))), (h0, .inr (12, [.int 0, .ref h2, .ref h3, .ref h4, .ref h5, .int 0, .int 0, .int 0, .int 0, .int 0, .int 0, .int 0, .int 0, .int 0, .int (-1), .int 0, .ref h6, .ref h7, .ref h8, .ref h9, .ref h1, .int 0, .int (yn x), .ref h10, .ref h11, .ref h12, .int 0, .int 0, .ref h13, .ref h14, .ref h15, .ref h16, .ref h17, .int 0, .ref h18, .ref h19, .ref h20]))] _ _ := hw10
      refine lv_iinc (v := (d + Int32.ofInt 1)) (lv' := [(3, .int (d + Int32.ofInt 1)), (5, .int (-1)), (4, .int (nI k)), (0, .ref h0), (1, .int p0), (2, .int (nI N))]) hx hb dX12_year_65 hv8 (k := 2) rfl rfl (by decide) rfl (fun lz11 hv11 => ?_)
      clear lz8 hv8
      refine lv_iinc (v := (nI (k + 1))) (lv' := [(4, .int (nI (k + 1))), (3, .int (d + Int32.ofInt 1)), (5, .int (-1)), (0, .ref h0), (1, .int p0), (2, .int (nI N))]) hx hb dX12_year_68 hv11 (k := 2) rfl (nI_1 _) (by decide) rfl (fun lz12 hv12 => ?_)
      clear lz11 hv11
      refine lv_goto (tgt := 34) hx hb dX12_year_71 (by decide) ?_
      have h9 : qW D _ _ [(h0, .inr (12, [.int 0, .ref h2, .ref h3, .ref h4, .ref h5, .int 0, .int 0, .int 0, .int 0, .int 0, .int 0, .int 0, .int 0, .int 0, .int (-1), .int 0, .ref h6, .ref h7, .ref h8, .ref h9, .ref h1, .int 0, .int (yn x), .ref h10, .ref h11, .ref h12, .int 0, .int 0, .ref h13, .ref h14, .ref h15, .ref h16, .ref h17, .int 0, .ref h18, .ref h19, .ref h20])), (h1, .inl (cy 1, 32, .inl (fun _ => 0))), (h2, .inl (cy 1, 3918, .inl (upd fk (Int32.toNatClampNeg 52) ((fk (Int32.toNatClampNeg 52)) + 1))))] _ _ := q_re hw10 [2, 0, 1] rfl rfl
      exact ih _ _ _ ⟨_, _, _, (by show _ = ys (yit k (p0, 0)); rw [← hxd]; exact (if_pos hday).symm), (q_un (by decide +kernel) hf_fk_2), (q_un (by decide +kernel) hf_fk_84), h9, lv_sub hv12 [0, 1, 3, 4, 5] rfl⟩
    by_cases hk1 : yk (yn x) = 1
    · have yf_13654 := y_z1 hday hk1
      obtain ⟨z_13654, ez_13654⟩ : ∃ z : Int32, z = (yr x) := ⟨_, rfl⟩
      rw [← ez_13654] at yf_13654
      have c_y13654 := yf_13654.1
      have c_z13654 := yf_13654.2
      refine q_c z_13654 ez_13654.symm ?_
      refine lv_istore (lv' := [(5, .int z_13654), (4, .int (nI k)), (3, .int d), (0, .ref h0), (1, .int p0), (2, .int (nI N))]) hx hb dX12_year_44 hl (by decide) rfl (fun lz13 hv13 => ?_)
      clear ls hl
      refine lv_aload_n hx hb dX12_year_46 rfl (lv_at hv13 3 rfl) ?_
      refine lv_iload hx hb dX12_year_47 (lv_at hv13 0 rfl) ?_
      refine lv_i2l hx hb dX12_year_49 rfl ?_
      have g_13666 : (0 : Int64) ≤ ((z_13654).toInt64) := by
        simp only [Int32.toInt_toInt64, Int64.lt_iff_toInt_lt, Int64.le_iff_toInt_le, ← Int64.toInt_inj, Int32.lt_iff_toInt_lt, Int32.le_iff_toInt_le, ← Int32.toInt_inj] at c_y13654 c_z13654 ⊢
        have k_0 : (0 : Int32).toInt = 0 := by decide
        have k_1 : (99 : Int32).toInt = 99 := by decide
        have k_g : (0 : Int64).toInt = 0 := by decide
        omega
      have g_13667 : ((z_13654).toInt64) ≤ (99 : Int64) := by
        simp only [Int32.toInt_toInt64, Int64.lt_iff_toInt_lt, Int64.le_iff_toInt_le, ← Int64.toInt_inj, Int32.lt_iff_toInt_lt, Int32.le_iff_toInt_le, ← Int32.toInt_inj] at c_y13654 c_z13654 ⊢
        have k_0 : (0 : Int32).toInt = 0 := by decide
        have k_1 : (99 : Int32).toInt = 99 := by decide
        have k_g : (99 : Int64).toInt = 99 := by decide
        omega
      refine q_callVi (rest := []) (wr := [(h1, .inl (cy 1, 32, .inl (fun _ => 0)))]) X hK hA hw7 (fun sz => kX12_whyNot_564 l D cy h2 h0 ((z_13654).toInt64) h3 h4 h5 h6 h7 h8 h9 h1 (yx x) h10 h11 h12 h13 h14 h15 h16 h17 h18 h19 h20 fk g_13666 g_13667 hf_fk_2 sz) wm_7_38 wm_7_41 wm_1_12 hd_X12_whyNot wm_7_40 wp_6_8 (ci := 12) (q0 := 1) rfl rfl ⟨Nat.le_of_ble_eq_true rfl, Nat.le_of_ble_eq_true rfl⟩ hv13.1 rfl (Nat.le_of_ble_eq_true rfl) dX12_year_50 ⟨Nat.le_of_ble_eq_true rfl, Nat.le_of_ble_eq_true rfl⟩ [1, 2] [0] rfl rfl (by decide) rfl rfl (fun r_13668 u_13668 Hp14 lc14 w_13668 hw14 => ?_)
      clear Hp7 lc7 hw7
      obtain rfl : r_13668 = 1 := w_13668
      replace hw14 : qW D _ _ [(h1, .inl (cy 1, 32, .inl (fun _ => 0))), (h2, .inl (cy 1, 3918, .inl fk)), (h0, .inr (12, [.int 0, .ref h2, .ref h3, .ref h4, .ref h5, .int 0, .int 0, .int 0, .int 0, .int 0, .int 0, .int 0, .int 0, .int 0, .int (-1), .int 0, .ref h6, .ref h7, .ref h8, .ref h9, .ref h1, .int 0, .int (yx x), .ref h10, .ref h11, .ref h12, .int 0, .int 0, .ref h13, .ref h14, .ref h15, .ref h16, .ref h17, .int 0, .ref h18, .ref h19, .ref h20]))] _ _ := hw14
      refine lv_if_eq (tgt := 59) hx hb dX12_year_53 (by decide) (fun c => absurd c (by decide +kernel)) (fun _ => ?_)
      refine lv_goto (tgt := 68) hx hb dX12_year_56 (by decide) ?_
      refine lv_iinc (v := (nI (k + 1))) (lv' := [(4, .int (nI (k + 1))), (5, .int z_13654), (3, .int d), (0, .ref h0), (1, .int p0), (2, .int (nI N))]) hx hb dX12_year_68 hv13 (k := 1) rfl (nI_1 _) (by decide) rfl (fun lz15 hv15 => ?_)
      clear lz13 hv13
      refine lv_goto (tgt := 34) hx hb dX12_year_71 (by decide) ?_
      have h9 : qW D _ _ [(h0, .inr (12, [.int 0, .ref h2, .ref h3, .ref h4, .ref h5, .int 0, .int 0, .int 0, .int 0, .int 0, .int 0, .int 0, .int 0, .int 0, .int (-1), .int 0, .ref h6, .ref h7, .ref h8, .ref h9, .ref h1, .int 0, .int (yx x), .ref h10, .ref h11, .ref h12, .int 0, .int 0, .ref h13, .ref h14, .ref h15, .ref h16, .ref h17, .int 0, .ref h18, .ref h19, .ref h20])), (h1, .inl (cy 1, 32, .inl (fun _ => 0))), (h2, .inl (cy 1, 3918, .inl fk))] _ _ := q_re hw14 [2, 0, 1] rfl rfl
      exact ih _ _ _ ⟨_, _, _, (by show _ = ys (yit k (p0, 0)); rw [← hxd]; exact (y_else hday).symm), hf_fk_2, hf_fk_84, h9, lv_sub hv15 [0, 2, 3, 4, 5] rfl⟩
    by_cases hk2 : yk (yn x) = 2
    · have yf_13669 := y_z2 hday hk1 hk2
      obtain ⟨z_13669, ez_13669⟩ : ∃ z : Int32, z = (yr x) := ⟨_, rfl⟩
      rw [← ez_13669] at yf_13669
      have c_y13669 := yf_13669.1
      have c_z13669 := yf_13669.2
      refine q_c z_13669 ez_13669.symm ?_
      refine lv_istore (lv' := [(5, .int z_13669), (4, .int (nI k)), (3, .int d), (0, .ref h0), (1, .int p0), (2, .int (nI N))]) hx hb dX12_year_44 hl (by decide) rfl (fun lz16 hv16 => ?_)
      clear ls hl
      refine lv_aload_n hx hb dX12_year_46 rfl (lv_at hv16 3 rfl) ?_
      refine lv_iload hx hb dX12_year_47 (lv_at hv16 0 rfl) ?_
      refine lv_i2l hx hb dX12_year_49 rfl ?_
      have g_13686 : (100 : Int64) ≤ ((z_13669).toInt64) := by
        simp only [Int32.toInt_toInt64, Int64.lt_iff_toInt_lt, Int64.le_iff_toInt_le, ← Int64.toInt_inj, Int32.lt_iff_toInt_lt, Int32.le_iff_toInt_le, ← Int32.toInt_inj] at c_y13669 c_z13669 ⊢
        have k_0 : (100 : Int32).toInt = 100 := by decide
        have k_1 : (109 : Int32).toInt = 109 := by decide
        have k_g : (100 : Int64).toInt = 100 := by decide
        omega
      have g_13687 : ((z_13669).toInt64) ≤ (109 : Int64) := by
        simp only [Int32.toInt_toInt64, Int64.lt_iff_toInt_lt, Int64.le_iff_toInt_le, ← Int64.toInt_inj, Int32.lt_iff_toInt_lt, Int32.le_iff_toInt_le, ← Int32.toInt_inj] at c_y13669 c_z13669 ⊢
        have k_0 : (100 : Int32).toInt = 100 := by decide
        have k_1 : (109 : Int32).toInt = 109 := by decide
        have k_g : (109 : Int64).toInt = 109 := by decide
        omega
      refine q_callVi (rest := []) (wr := [(h1, .inl (cy 1, 32, .inl (fun _ => 0)))]) X hK hA hw7 (fun sz => kX12_whyNot_568 l D cy h2 h0 ((z_13669).toInt64) h3 h4 h5 h6 h7 h8 h9 h1 (yx x) h10 h11 h12 h13 h14 h15 h16 h17 h18 h19 h20 fk g_13686 g_13687 hf_fk_2 sz) wm_7_38 wm_7_41 wm_1_12 hd_X12_whyNot wm_7_40 wp_6_8 (ci := 12) (q0 := 1) rfl rfl ⟨Nat.le_of_ble_eq_true rfl, Nat.le_of_ble_eq_true rfl⟩ hv16.1 rfl (Nat.le_of_ble_eq_true rfl) dX12_year_50 ⟨Nat.le_of_ble_eq_true rfl, Nat.le_of_ble_eq_true rfl⟩ [1, 2] [0] rfl rfl (by decide) rfl rfl (fun r_13688 u_13688 Hp17 lc17 w_13688 hw17 => ?_)
      clear Hp7 lc7 hw7
      obtain rfl : r_13688 = 1 := w_13688
      replace hw17 : qW D _ _ [(h1, .inl (cy 1, 32, .inl (fun _ => 0))), (h2, .inl (cy 1, 3918, .inl fk)), (h0, .inr (12, [.int 0, .ref h2, .ref h3, .ref h4, .ref h5, .int 0, .int 0, .int 0, .int 0, .int 0, .int 0, .int 0, .int 0, .int 0, .int (-1), .int 0, .ref h6, .ref h7, .ref h8, .ref h9, .ref h1, .int 0, .int (yx x), .ref h10, .ref h11, .ref h12, .int 0, .int 0, .ref h13, .ref h14, .ref h15, .ref h16, .ref h17, .int 0, .ref h18, .ref h19, .ref h20]))] _ _ := hw17
      refine lv_if_eq (tgt := 59) hx hb dX12_year_53 (by decide) (fun c => absurd c (by decide +kernel)) (fun _ => ?_)
      refine lv_goto (tgt := 68) hx hb dX12_year_56 (by decide) ?_
      refine lv_iinc (v := (nI (k + 1))) (lv' := [(4, .int (nI (k + 1))), (5, .int z_13669), (3, .int d), (0, .ref h0), (1, .int p0), (2, .int (nI N))]) hx hb dX12_year_68 hv16 (k := 1) rfl (nI_1 _) (by decide) rfl (fun lz18 hv18 => ?_)
      clear lz16 hv16
      refine lv_goto (tgt := 34) hx hb dX12_year_71 (by decide) ?_
      have h9 : qW D _ _ [(h0, .inr (12, [.int 0, .ref h2, .ref h3, .ref h4, .ref h5, .int 0, .int 0, .int 0, .int 0, .int 0, .int 0, .int 0, .int 0, .int 0, .int (-1), .int 0, .ref h6, .ref h7, .ref h8, .ref h9, .ref h1, .int 0, .int (yx x), .ref h10, .ref h11, .ref h12, .int 0, .int 0, .ref h13, .ref h14, .ref h15, .ref h16, .ref h17, .int 0, .ref h18, .ref h19, .ref h20])), (h1, .inl (cy 1, 32, .inl (fun _ => 0))), (h2, .inl (cy 1, 3918, .inl fk))] _ _ := q_re hw17 [2, 0, 1] rfl rfl
      exact ih _ _ _ ⟨_, _, _, (by show _ = ys (yit k (p0, 0)); rw [← hxd]; exact (y_else hday).symm), hf_fk_2, hf_fk_84, h9, lv_sub hv18 [0, 2, 3, 4, 5] rfl⟩
    have yf_13689 := y_z3 hday hk1 hk2
    obtain ⟨z_13689, ez_13689⟩ : ∃ z : Int32, z = (yr x) := ⟨_, rfl⟩
    rw [← ez_13689] at yf_13689
    have c_y13689 := yf_13689.1
    have c_z13689 := yf_13689.2
    refine q_c z_13689 ez_13689.symm ?_
    refine lv_istore (lv' := [(5, .int z_13689), (4, .int (nI k)), (3, .int d), (0, .ref h0), (1, .int p0), (2, .int (nI N))]) hx hb dX12_year_44 hl (by decide) rfl (fun lz19 hv19 => ?_)
    clear ls hl
    refine lv_aload_n hx hb dX12_year_46 rfl (lv_at hv19 3 rfl) ?_
    refine lv_iload hx hb dX12_year_47 (lv_at hv19 0 rfl) ?_
    refine lv_i2l hx hb dX12_year_49 rfl ?_
    have g_13711 : (200 : Int64) ≤ ((z_13689).toInt64) := by
      simp only [Int32.toInt_toInt64, Int64.lt_iff_toInt_lt, Int64.le_iff_toInt_le, ← Int64.toInt_inj, Int32.lt_iff_toInt_lt, Int32.le_iff_toInt_le, ← Int32.toInt_inj] at c_y13689 c_z13689 ⊢
      have k_0 : (200 : Int32).toInt = 200 := by decide
      have k_1 : (209 : Int32).toInt = 209 := by decide
      have k_g : (200 : Int64).toInt = 200 := by decide
      omega
    have g_13712 : ((z_13689).toInt64) ≤ (209 : Int64) := by
      simp only [Int32.toInt_toInt64, Int64.lt_iff_toInt_lt, Int64.le_iff_toInt_le, ← Int64.toInt_inj, Int32.lt_iff_toInt_lt, Int32.le_iff_toInt_le, ← Int32.toInt_inj] at c_y13689 c_z13689 ⊢
      have k_0 : (200 : Int32).toInt = 200 := by decide
      have k_1 : (209 : Int32).toInt = 209 := by decide
      have k_g : (209 : Int64).toInt = 209 := by decide
      omega
    refine q_callVi (rest := []) (wr := [(h1, .inl (cy 1, 32, .inl (fun _ => 0)))]) X hK hA hw7 (fun sz => kX12_whyNot_573 l D cy h2 h0 ((z_13689).toInt64) h3 h4 h5 h6 h7 h8 h9 h1 (yx x) h10 h11 h12 h13 h14 h15 h16 h17 h18 h19 h20 fk g_13711 g_13712 hf_fk_2 sz) wm_7_38 wm_7_41 wm_1_12 hd_X12_whyNot wm_7_40 wp_6_8 (ci := 12) (q0 := 1) rfl rfl ⟨Nat.le_of_ble_eq_true rfl, Nat.le_of_ble_eq_true rfl⟩ hv19.1 rfl (Nat.le_of_ble_eq_true rfl) dX12_year_50 ⟨Nat.le_of_ble_eq_true rfl, Nat.le_of_ble_eq_true rfl⟩ [1, 2] [0] rfl rfl (by decide) rfl rfl (fun r_13713 u_13713 Hp20 lc20 w_13713 hw20 => ?_)
    clear Hp7 lc7 hw7
    obtain rfl : r_13713 = 1 := w_13713
    replace hw20 : qW D _ _ [(h1, .inl (cy 1, 32, .inl (fun _ => 0))), (h2, .inl (cy 1, 3918, .inl fk)), (h0, .inr (12, [.int 0, .ref h2, .ref h3, .ref h4, .ref h5, .int 0, .int 0, .int 0, .int 0, .int 0, .int 0, .int 0, .int 0, .int 0, .int (-1), .int 0, .ref h6, .ref h7, .ref h8, .ref h9, .ref h1, .int 0, .int (yx x), .ref h10, .ref h11, .ref h12, .int 0, .int 0, .ref h13, .ref h14, .ref h15, .ref h16, .ref h17, .int 0, .ref h18, .ref h19, .ref h20]))] _ _ := hw20
    refine lv_if_eq (tgt := 59) hx hb dX12_year_53 (by decide) (fun c => absurd c (by decide +kernel)) (fun _ => ?_)
    refine lv_goto (tgt := 68) hx hb dX12_year_56 (by decide) ?_
    refine lv_iinc (v := (nI (k + 1))) (lv' := [(4, .int (nI (k + 1))), (5, .int z_13689), (3, .int d), (0, .ref h0), (1, .int p0), (2, .int (nI N))]) hx hb dX12_year_68 hv19 (k := 1) rfl (nI_1 _) (by decide) rfl (fun lz21 hv21 => ?_)
    clear lz19 hv19
    refine lv_goto (tgt := 34) hx hb dX12_year_71 (by decide) ?_
    have h9 : qW D _ _ [(h0, .inr (12, [.int 0, .ref h2, .ref h3, .ref h4, .ref h5, .int 0, .int 0, .int 0, .int 0, .int 0, .int 0, .int 0, .int 0, .int 0, .int (-1), .int 0, .ref h6, .ref h7, .ref h8, .ref h9, .ref h1, .int 0, .int (yx x), .ref h10, .ref h11, .ref h12, .int 0, .int 0, .ref h13, .ref h14, .ref h15, .ref h16, .ref h17, .int 0, .ref h18, .ref h19, .ref h20])), (h1, .inl (cy 1, 32, .inl (fun _ => 0))), (h2, .inl (cy 1, 3918, .inl fk))] _ _ := q_re hw20 [2, 0, 1] rfl rfl
    exact ih _ _ _ ⟨_, _, _, (by show _ = ys (yit k (p0, 0)); rw [← hxd]; exact (y_else hday).symm), hf_fk_2, hf_fk_84, h9, lv_sub hv21 [0, 2, 3, 4, 5] rfl⟩
  · obtain ⟨x, d, fk, hxd, hf_fk_2, hf_fk_84, h, hl⟩ := hP
    have hres : d = (yit (Int32.toNatClampNeg (nI N)) (p0, 0)).2 := by rw [nI_clamp (by omega), ← hxd]
    refine lv_iload hx hb dX12_year_34 (lv_at hl 0 rfl) ?_
    refine lv_iload_n hx hb dX12_year_36 rfl (lv_at hl 4 rfl) ?_
    refine lv_icmp_ge (tgt := 74) hx hb dX12_year_37 (by decide) (fun _ => ?_) (fun c => absurd (Int32.le_refl _) c)
    refine lv_iload_n hx hb dX12_year_74 rfl (lv_at hl 1 rfl) ?_
    refine lv_if_le (tgt := 82) hx hb dX12_year_75 (by decide) (fun c_13714 => ?_) (fun c_13714 => ?_)
    · refine lv_iload_n hx hb dX12_year_82 rfl (lv_at hl 1 rfl) ?_
      exact q_iret X hr hlk hK h rfl qu0 hres [] rfl rfl dX12_year_83 (Nat.le_of_ble_eq_true rfl) (Nat.le_of_ble_eq_true rfl)
    · refine lv_aload_n hx hb dX12_year_78 rfl (lv_at hl 2 rfl) ?_
      refine q_callVv (rest := []) (wr := []) X hK hA h (fun sz => kX12_notes_574 l D cy h0 h1 h2 h3 h4 h5 h6 h7 h8 h9 x h10 h11 h12 h13 h14 h15 h16 h17 h18 h19 h20 fk hf_fk_84 sz) wm_6_232 wm_6_235 wm_1_12 hd_X12_notes wm_6_234 wp_6_3 (ci := 12) (q0 := 0) rfl rfl ⟨Nat.le_of_ble_eq_true rfl, Nat.le_of_ble_eq_true rfl⟩ hl.1 rfl (Nat.le_of_ble_eq_true rfl) dX12_year_79 ⟨Nat.le_of_ble_eq_true rfl, Nat.le_of_ble_eq_true rfl⟩ [0, 1, 2] [] rfl rfl (by decide) rfl rfl (fun u_13715 Hp22 lc22 w_13715 hw22 => ?_)
      clear h
      replace hw22 : qW D _ _ [(h0, .inr (12, [.int 0, .ref h2, .ref h3, .ref h4, .ref h5, .int 0, .int 0, .int 0, .int 0, .int 0, .int 0, .int 0, .int 0, .int 0, .int (-1), .int 0, .ref h6, .ref h7, .ref h8, .ref h9, .ref h1, .int 0, .int x, .ref h10, .ref h11, .ref h12, .int 0, .int 0, .ref h13, .ref h14, .ref h15, .ref h16, .ref h17, .int 0, .ref h18, .ref h19, .ref h20])), (h1, .inl (cy 1, 32, .inl (fun _ => 0))), (h2, .inl (cy 1, 3918, .inl (upd (upd (upd (upd (upd (upd (upd (upd (upd (upd (upd (upd (upd (upd (upd (upd (upd (upd (upd (upd (upd (upd (upd (upd (upd (upd (upd (upd (upd (upd (upd (upd (upd fk (Int32.toNatClampNeg 85) 0) (Int32.toNatClampNeg 86) 0) (Int32.toNatClampNeg 87) 0) (Int32.toNatClampNeg 88) 0) (Int32.toNatClampNeg 89) 0) (Int32.toNatClampNeg 90) 0) (Int32.toNatClampNeg 91) 0) (Int32.toNatClampNeg 92) 0) (Int32.toNatClampNeg 93) 0) (Int32.toNatClampNeg 94) 0) (Int32.toNatClampNeg 95) 0) (Int32.toNatClampNeg 96) 0) (Int32.toNatClampNeg 97) 0) (Int32.toNatClampNeg 98) 0) (Int32.toNatClampNeg 99) 0) (Int32.toNatClampNeg 100) 0) (Int32.toNatClampNeg 101) 0) (Int32.toNatClampNeg 102) 0) (Int32.toNatClampNeg 103) 0) (Int32.toNatClampNeg 104) 0) (Int32.toNatClampNeg 105) 0) (Int32.toNatClampNeg 106) 0) (Int32.toNatClampNeg 107) 0) (Int32.toNatClampNeg 108) 0) (Int32.toNatClampNeg 109) 0) (Int32.toNatClampNeg 110) 0) (Int32.toNatClampNeg 111) 0) (Int32.toNatClampNeg 112) 0) (Int32.toNatClampNeg 113) 0) (Int32.toNatClampNeg 114) 0) (Int32.toNatClampNeg 115) 0) (Int32.toNatClampNeg 116) 0) (Int32.toNatClampNeg 84) 1)))] _ _ := hw22
      refine lv_iload_n hx hb dX12_year_82 rfl (lv_at hl 1 rfl) ?_
      exact q_iret X hr hlk hK hw22 rfl qu0 hres [] rfl rfl dX12_year_83 (Nat.le_of_ble_eq_true rfl) (Nat.le_of_ble_eq_true rfl)
set_option maxHeartbeats 4000000 in
set_option maxRecDepth 100000 in
theorem kX11_year_576 (l : Launch) (D : va_G) (cy : Nat → ClassId) (h0 : Nat) (p0 : Int32) (p1 : Int32) (h1 : Nat) (h2 : Nat) (h3 : Nat) (h4 : Nat) (h5 : Nat) (h6 : Nat) (h7 : Nat) (h8 : Nat) (h9 : Nat) (h10 : Nat) (h11 : Nat) (h12 : Nat) (h13 : Nat) (hlo_p1 : (41 : Int32) ≤ p1) (sz : Nat) : MI l yX11_year cX11_year 8 .int { frames := 0, cells := 0, slots := 0, locals := 0 } [.ref h0, .int p0, .int p1] D cy [(h0, .inr (11, [.ref h1, .int 0, .int 0, .int (-1), .ref h2, .ref h3, .ref h4, .ref h5, .ref h6, .ref h7, .ref h8, .ref h9, .ref h10, .ref h11, .ref h12, .ref h13, .int 0]))] sz (fun r u => r = (-3)) (fun u => []) 0 0 := by
  refine q_ent (own := RX11) (by decide) rfl (Nat.le_of_ble_eq_true rfl) (fun p e s m below meth c ls X hr hlk hnm hK h hA hl => ?_)
  obtain ⟨hx, hb, hml, hown, ht⟩ := id X
  replace hl : lv_has ls 8 [(0, .ref h0), (1, .int p0), (2, .int p1)] := hl
  refine lv_iload_n hx hb dX11_year_0 rfl (lv_at hl 2 rfl) ?_
  refine lv_iconst (v := 1) hx hb dX11_year_1 (by decide) ?_
  refine lv_icmp_lt (tgt := 11) hx hb dX11_year_2 (by decide) (fun c_13867 => ?_) (fun c_13867 => ?_)
  · exfalso
    simp only [Int32.lt_iff_toInt_lt, Int32.le_iff_toInt_le, ← Int32.toInt_inj] at hlo_p1 c_13867
    have k_0 : (41 : Int32).toInt = 41 := by decide
    have k_1 : (1 : Int32).toInt = 1 := by decide
    omega
  · refine lv_iload_n hx hb dX11_year_5 rfl (lv_at hl 2 rfl) ?_
    refine lv_bipush (v := 40) hx hb dX11_year_6 (by decide) ?_
    refine lv_icmp_le (tgt := 14) hx hb dX11_year_8 (by decide) (fun c_13868 => ?_) (fun c_13868 => ?_)
    · exfalso
      simp only [Int32.lt_iff_toInt_lt, Int32.le_iff_toInt_le, ← Int32.toInt_inj] at hlo_p1 c_13867 c_13868
      have k_0 : (41 : Int32).toInt = 41 := by decide
      have k_1 : (1 : Int32).toInt = 1 := by decide
      have k_2 : (40 : Int32).toInt = 40 := by decide
      omega
    · refine lv_bipush (v := (-3)) hx hb dX11_year_11 (by decide) ?_
      exact q_iret X hr hlk hK h rfl qu0 rfl [] rfl rfl dX11_year_13 (Nat.le_of_ble_eq_true rfl) (Nat.le_of_ble_eq_true rfl)
set_option maxHeartbeats 4000000 in
set_option maxRecDepth 100000 in
theorem kX12_within_577 (l : Launch) (D : va_G) (cy : Nat → ClassId) (j0 : Int64) (hlo_j0 : (41 : Int64) ≤ j0) (sz : Nat) : MI l yX12_within cX12_within 6 .boolean { frames := 0, cells := 0, slots := 0, locals := 0 } [.long j0, .long 1, .long 40] D cy [] sz (fun r u => r = 0) (fun u => []) 0 0 := by
  refine q_ent (own := RX12) (by decide) rfl (Nat.le_of_ble_eq_true rfl) (fun p e s m below meth c ls X hr hlk hnm hK h hA hl => ?_)
  obtain ⟨hx, hb, hml, hown, ht⟩ := id X
  replace hl : lv_has ls 6 [(0, .long j0), (2, .long 1), (4, .long 40)] := hl
  refine lv_lload_n hx hb dX12_within_0 rfl (lv_at hl 0 rfl) ?_
  refine lv_lload_n hx hb dX12_within_1 rfl (lv_at hl 1 rfl) ?_
  refine W.lcmp hx hb dX12_within_2 ?_
  refine lv_if_lt (tgt := 17) hx hb dX12_within_3 (by decide) (fun c_13873 => ?_) (fun c_13873 => ?_)
  · exfalso
    simp only [q_lc_lt, q_lc_ge, q_lc_gt, q_lc_le, q_lc_eq] at c_13873
    try simp only [Int32.toInt_toInt64] at c_13873
    simp only [Int32.toInt_toInt64, Int64.lt_iff_toInt_lt, Int64.le_iff_toInt_le, ← Int64.toInt_inj, Int32.lt_iff_toInt_lt, Int32.le_iff_toInt_le, ← Int32.toInt_inj] at hlo_j0
    have k_0 : (41 : Int64).toInt = 41 := by decide
    have k_1 : (1 : Int64).toInt = 1 := by decide
    omega
  · refine lv_lload_n hx hb dX12_within_6 rfl (lv_at hl 0 rfl) ?_
    refine lv_lload hx hb dX12_within_7 (lv_at hl 2 rfl) ?_
    refine W.lcmp hx hb dX12_within_9 ?_
    refine lv_if_gt (tgt := 17) hx hb dX12_within_10 (by decide) (fun c_13874 => ?_) (fun c_13874 => ?_)
    · refine lv_iconst (v := 0) hx hb dX12_within_17 (by decide) ?_
      exact q_iret X hr hlk hK h rfl (fun _ => 0, fun _ _ => 0, fun _ _ => 0) rfl [] rfl rfl dX12_within_18 (Nat.le_of_ble_eq_true rfl) (Nat.le_of_ble_eq_true rfl)
    · exfalso
      simp only [q_lc_lt, q_lc_ge, q_lc_gt, q_lc_le, q_lc_eq] at c_13873 c_13874
      try simp only [Int32.toInt_toInt64] at c_13873 c_13874
      simp only [Int32.toInt_toInt64, Int64.lt_iff_toInt_lt, Int64.le_iff_toInt_le, ← Int64.toInt_inj, Int32.lt_iff_toInt_lt, Int32.le_iff_toInt_le, ← Int32.toInt_inj] at hlo_j0
      have k_0 : (41 : Int64).toInt = 41 := by decide
      have k_1 : (1 : Int64).toInt = 1 := by decide
      have k_2 : (40 : Int64).toInt = 40 := by decide
      omega
set_option maxHeartbeats 4000000 in
set_option maxRecDepth 100000 in
theorem kX12_year_578 (l : Launch) (D : va_G) (cy : Nat → ClassId) (h0 : Nat) (p0 : Int32) (p1 : Int32) (h1 : Nat) (h2 : Nat) (h3 : Nat) (h4 : Nat) (h5 : Nat) (h6 : Nat) (h7 : Nat) (h8 : Nat) (h9 : Nat) (h10 : Nat) (h11 : Nat) (h12 : Nat) (h13 : Nat) (h14 : Nat) (h15 : Nat) (h16 : Nat) (h17 : Nat) (h18 : Nat) (h19 : Nat) (h20 : Nat) (hlo_p1 : (41 : Int32) ≤ p1) (sz : Nat) : MI l yX12_year cX12_year 6 .int { frames := 1, cells := 0, slots := 0, locals := 25 } [.ref h0, .int p0, .int p1] D cy [(h0, .inr (12, [.int 0, .ref h1, .ref h2, .ref h3, .ref h4, .int 0, .int 0, .int 0, .int 0, .int 0, .int 0, .int 0, .int 0, .int 0, .int (-1), .int 0, .ref h5, .ref h6, .ref h7, .ref h8, .ref h9, .int 0, .int 0, .ref h10, .ref h11, .ref h12, .int 0, .int 0, .ref h13, .ref h14, .ref h15, .ref h16, .ref h17, .int 0, .ref h18, .ref h19, .ref h20]))] sz (fun r u => r = (-3)) (fun u => []) 0 0 := by
  refine q_ent (own := RX12) (by decide) rfl (Nat.le_of_ble_eq_true rfl) (fun p e s m below meth c ls X hr hlk hnm hK h hA hl => ?_)
  obtain ⟨hx, hb, hml, hown, ht⟩ := id X
  replace hl : lv_has ls 6 [(0, .ref h0), (1, .int p0), (2, .int p1)] := hl
  refine lv_aload_n hx hb dX12_year_0 rfl (lv_at hl 0 rfl) ?_
  refine lv_iconst (v := 0) hx hb dX12_year_1 (by decide) ?_
  refine q_put (v := .int 0) X hK h 0 rfl rfl wf_12 tyX12 tyX12_ok nmX12 0 (by decide) wm_5_170 rfl rfl rfl (Nat.le_of_ble_eq_true rfl) dX12_year_2 (fun Hp1 lc1 hw1 => ?_)
  clear h
  replace hw1 : qW D _ _ [(h0, .inr (12, [.int 0, .ref h1, .ref h2, .ref h3, .ref h4, .int 0, .int 0, .int 0, .int 0, .int 0, .int 0, .int 0, .int 0, .int 0, .int (-1), .int 0, .ref h5, .ref h6, .ref h7, .ref h8, .ref h9, .int 0, .int 0, .ref h10, .ref h11, .ref h12, .int 0, .int 0, .ref h13, .ref h14, .ref h15, .ref h16, .ref h17, .int 0, .ref h18, .ref h19, .ref h20]))] _ _ := hw1
  refine lv_iload_n hx hb dX12_year_5 rfl (lv_at hl 2 rfl) ?_
  refine lv_i2l hx hb dX12_year_6 rfl ?_
  refine lv_lconst (v := 1) hx hb dX12_year_7 (by decide) ?_
  refine lv_ldc2 hx hb hown (ht _ wm_7_82) dX12_year_8 ?_
  have g_13883 : (41 : Int64) ≤ ((p1).toInt64) := by
    simp only [Int32.toInt_toInt64, Int64.lt_iff_toInt_lt, Int64.le_iff_toInt_le, ← Int64.toInt_inj, Int32.lt_iff_toInt_lt, Int32.le_iff_toInt_le, ← Int32.toInt_inj] at hlo_p1 ⊢
    have k_0 : (41 : Int32).toInt = 41 := by decide
    have k_g : (41 : Int64).toInt = 41 := by decide
    omega
  refine q_callSi (rest := []) (wr := [(h0, .inr (12, [.int 0, .ref h1, .ref h2, .ref h3, .ref h4, .int 0, .int 0, .int 0, .int 0, .int 0, .int 0, .int 0, .int 0, .int 0, .int (-1), .int 0, .ref h5, .ref h6, .ref h7, .ref h8, .ref h9, .int 0, .int 0, .ref h10, .ref h11, .ref h12, .int 0, .int 0, .ref h13, .ref h14, .ref h15, .ref h16, .ref h17, .int 0, .ref h18, .ref h19, .ref h20]))]) X hK hA hw1 (fun sz => kX12_within_577 l D cy ((p1).toInt64) g_13883 sz) wm_6_50 wm_6_52 wm_1_12 hd_X12_within wm_6_51 ⟨Nat.le_of_ble_eq_true rfl, Nat.le_of_ble_eq_true rfl⟩ hl.1 rfl (Nat.le_of_ble_eq_true rfl) dX12_year_11 ⟨Nat.le_of_ble_eq_true rfl, Nat.le_of_ble_eq_true rfl⟩ [] [0] rfl rfl (by decide) rfl rfl (fun r_13884 u_13884 Hp2 lc2 w_13884 hw2 => ?_)
  clear Hp1 lc1 hw1
  obtain rfl : r_13884 = 0 := w_13884
  replace hw2 : qW D _ _ [(h0, .inr (12, [.int 0, .ref h1, .ref h2, .ref h3, .ref h4, .int 0, .int 0, .int 0, .int 0, .int 0, .int 0, .int 0, .int 0, .int 0, .int (-1), .int 0, .ref h5, .ref h6, .ref h7, .ref h8, .ref h9, .int 0, .int 0, .ref h10, .ref h11, .ref h12, .int 0, .int 0, .ref h13, .ref h14, .ref h15, .ref h16, .ref h17, .int 0, .ref h18, .ref h19, .ref h20]))] _ _ := hw2
  refine lv_if_ne (tgt := 20) hx hb dX12_year_14 (by decide) (fun c => absurd c (by decide +kernel)) (fun _ => ?_)
  refine lv_bipush (v := (-3)) hx hb dX12_year_17 (by decide) ?_
  exact q_iret X hr hlk hK hw2 rfl qu0 rfl [] rfl rfl dX12_year_19 (Nat.le_of_ble_eq_true rfl) (Nat.le_of_ble_eq_true rfl)
