set_option maxHeartbeats 4000000 in
set_option maxRecDepth 100000 in
theorem kX12_goesPairs_293 (l : Launch) (D : va_G) (cy : Nat → ClassId) (h0 : Nat) (h1 : Nat) (h2 : Nat) (f0 : Nat → Int32) (h3 : Nat) (h4 : Nat) (h5 : Nat) (h6 : Nat) (h7 : Nat) (h8 : Nat) (h9 : Nat) (h10 : Nat) (h11 : Nat) (h12 : Nat) (h13 : Nat) (h14 : Nat) (h15 : Nat) (h16 : Nat) (h17 : Nat) (h18 : Nat) (h19 : Nat) (h20 : Nat) (f2 : Nat → Int32) (hf_f2_0 : f2 (Int32.toNatClampNeg 0) = (-1)) (hf_f2_1 : f2 (Int32.toNatClampNeg 1) = (-1)) (hf_f2_2 : f2 (Int32.toNatClampNeg 2) = (-1)) (hf_f2_3 : f2 (Int32.toNatClampNeg 3) = (-1)) (hf_f2_4 : f2 (Int32.toNatClampNeg 4) = (-1)) (hf_f2_5 : f2 (Int32.toNatClampNeg 5) = (-1)) (hf_f2_6 : f2 (Int32.toNatClampNeg 6) = (-1)) (hf_f2_7 : f2 (Int32.toNatClampNeg 7) = (-1)) (hf_f2_8 : f2 (Int32.toNatClampNeg 8) = (-1)) (hf_f2_9 : f2 (Int32.toNatClampNeg 9) = (-1)) (sz : Nat) : MV l yX12_goesPairs cX12_goesPairs 7 { frames := 0, cells := 0, slots := 0, locals := 0 } [.ref h2, .int 0, .int 0, .int 0] D cy [(h0, .inl (cy 1, 10, .inl f2)), (h1, .inl (cy 1, 10, .inl f0)), (h2, .inr (12, [.int 0, .ref h3, .ref h4, .ref h5, .ref h6, .int 0, .int 0, .int 0, .int 0, .int 0, .int 0, .int 0, .int 0, .int 0, .int (-1), .int 0, .ref h7, .ref h8, .ref h9, .ref h10, .ref h11, .int 0, .int 0, .ref h12, .ref h0, .ref h1, .int (-1), .int (-1), .ref h13, .ref h14, .ref h15, .ref h16, .ref h17, .int 0, .ref h18, .ref h19, .ref h20]))] sz (fun _ => True) (fun u => [(h0, .inl (cy 1, 10, .inl f2)), (h1, .inl (cy 1, 10, .inl (u.2.1 0))), (h2, .inr (12, [.int 0, .ref h3, .ref h4, .ref h5, .ref h6, .int 0, .int 0, .int 0, .int 0, .int 0, .int 0, .int 0, .int 0, .int 0, .int (-1), .int 0, .ref h7, .ref h8, .ref h9, .ref h10, .ref h11, .int 0, .int 0, .ref h12, .ref h0, .ref h1, .int 0, .int 0, .ref h13, .ref h14, .ref h15, .ref h16, .ref h17, .int 0, .ref h18, .ref h19, .ref h20]))]) 0 0 := by
  refine q_ent (own := RX12) (by decide) rfl (Nat.le_of_ble_eq_true rfl) (fun p e s m below meth c ls X hr hlk hnm hK h hA hl => ?_)
  obtain ⟨hx, hb, hml, hown, ht⟩ := id X
  replace hl : lv_has ls 7 [(0, .ref h2), (1, .int 0), (2, .int 0), (3, .int 0)] := hl
  refine lv_iload_n hx hb dX12_goesPairs_0 rfl (lv_at hl 1 rfl) ?_
  refine lv_if_ne (tgt := 70) hx hb dX12_goesPairs_1 (by decide) (fun c => absurd c (by decide +kernel)) (fun _ => ?_)
  refine lv_iload_n hx hb dX12_goesPairs_4 rfl (lv_at hl 2 rfl) ?_
  refine lv_aload_n hx hb dX12_goesPairs_5 rfl (lv_at hl 0 rfl) ?_
  refine q_get X hK h 2 rfl rfl wf_12 26 (by decide) rfl wm_5_196 dX12_goesPairs_6 ?_
  refine lv_icmp_lt (tgt := 28) hx hb dX12_goesPairs_9 (by decide) (fun c => absurd c (by decide +kernel)) (fun _ => ?_)
  refine lv_iload_n hx hb dX12_goesPairs_12 rfl (lv_at hl 2 rfl) ?_
  refine lv_aload_n hx hb dX12_goesPairs_13 rfl (lv_at hl 0 rfl) ?_
  refine q_get X hK h 2 rfl rfl wf_12 26 (by decide) rfl wm_5_196 dX12_goesPairs_14 ?_
  refine lv_icmp_ne (tgt := 29) hx hb dX12_goesPairs_17 (by decide) (fun _ => ?_) (fun c => absurd c (by decide +kernel))
  refine lv_aload_n hx hb dX12_goesPairs_29 rfl (lv_at hl 0 rfl) ?_
  refine lv_iload_n hx hb dX12_goesPairs_30 rfl (lv_at hl 2 rfl) ?_
  refine q_put (v := .int 0) X hK h 2 rfl rfl wf_12 tyX12 tyX12_ok nmX12 26 (by decide) wm_5_196 rfl rfl rfl (Nat.le_of_ble_eq_true rfl) dX12_goesPairs_31 (fun Hp1 lc1 hw1 => ?_)
  clear h
  replace hw1 : qW D _ _ [(h0, .inl (cy 1, 10, .inl f2)), (h1, .inl (cy 1, 10, .inl f0)), (h2, .inr (12, [.int 0, .ref h3, .ref h4, .ref h5, .ref h6, .int 0, .int 0, .int 0, .int 0, .int 0, .int 0, .int 0, .int 0, .int 0, .int (-1), .int 0, .ref h7, .ref h8, .ref h9, .ref h10, .ref h11, .int 0, .int 0, .ref h12, .ref h0, .ref h1, .int 0, .int (-1), .ref h13, .ref h14, .ref h15, .ref h16, .ref h17, .int 0, .ref h18, .ref h19, .ref h20]))] _ _ := hw1
  refine lv_aload_n hx hb dX12_goesPairs_34 rfl (lv_at hl 0 rfl) ?_
  refine lv_iload_n hx hb dX12_goesPairs_35 rfl (lv_at hl 3 rfl) ?_
  refine q_put (v := .int 0) X hK hw1 2 rfl rfl wf_12 tyX12 tyX12_ok nmX12 27 (by decide) wm_5_197 rfl rfl rfl (Nat.le_of_ble_eq_true rfl) dX12_goesPairs_36 (fun Hp2 lc2 hw2 => ?_)
  clear Hp1 lc1 hw1
  replace hw2 : qW D _ _ [(h0, .inl (cy 1, 10, .inl f2)), (h1, .inl (cy 1, 10, .inl f0)), (h2, .inr (12, [.int 0, .ref h3, .ref h4, .ref h5, .ref h6, .int 0, .int 0, .int 0, .int 0, .int 0, .int 0, .int 0, .int 0, .int 0, .int (-1), .int 0, .ref h7, .ref h8, .ref h9, .ref h10, .ref h11, .int 0, .int 0, .ref h12, .ref h0, .ref h1, .int 0, .int 0, .ref h13, .ref h14, .ref h15, .ref h16, .ref h17, .int 0, .ref h18, .ref h19, .ref h20]))] _ _ := hw2
  refine lv_iconst (v := 0) hx hb dX12_goesPairs_39 (by decide) ?_
  refine lv_istore (lv' := [(4, .int 0), (0, .ref h2), (1, .int 0), (2, .int 0), (3, .int 0)]) hx hb dX12_goesPairs_40 hl (by decide) rfl (fun lz3 hv3 => ?_)
  clear ls hl
  refine lv_iload hx hb dX12_goesPairs_42 (lv_at hv3 0 rfl) ?_
  refine lv_bipush (v := 10) hx hb dX12_goesPairs_44 (by decide) ?_
  refine lv_icmp_ge (tgt := 69) hx hb dX12_goesPairs_46 (by decide) (fun c => absurd c (by decide +kernel)) (fun _ => ?_)
  refine lv_aload_n hx hb dX12_goesPairs_49 rfl (lv_at hv3 1 rfl) ?_
  refine q_get X hK hw2 2 rfl rfl wf_12 25 (by decide) rfl wm_5_195 dX12_goesPairs_50 ?_
  refine lv_iload hx hb dX12_goesPairs_53 (lv_at hv3 0 rfl) ?_
  refine lv_aload_n hx hb dX12_goesPairs_55 rfl (lv_at hv3 1 rfl) ?_
  refine q_get X hK hw2 2 rfl rfl wf_12 24 (by decide) rfl wm_5_194 dX12_goesPairs_56 ?_
  refine lv_iload hx hb dX12_goesPairs_59 (lv_at hv3 0 rfl) ?_
  refine q_iald X hK hw2 0 rfl (q_in (by decide +kernel)) dX12_goesPairs_61 ?_
  refine q_c (-1) (hf_f2_0) ?_
  refine q_iast X hK hw2 1 rfl (q_in (by decide +kernel)) dX12_goesPairs_62 (fun Hp4 lc4 hw4 => ?_)
  clear Hp2 lc2 hw2
  replace hw4 : qW D _ _ [(h0, .inl (cy 1, 10, .inl f2)), (h1, .inl (cy 1, 10, .inl (upd f0 (Int32.toNatClampNeg 0) (-1)))), (h2, .inr (12, [.int 0, .ref h3, .ref h4, .ref h5, .ref h6, .int 0, .int 0, .int 0, .int 0, .int 0, .int 0, .int 0, .int 0, .int 0, .int (-1), .int 0, .ref h7, .ref h8, .ref h9, .ref h10, .ref h11, .int 0, .int 0, .ref h12, .ref h0, .ref h1, .int 0, .int 0, .ref h13, .ref h14, .ref h15, .ref h16, .ref h17, .int 0, .ref h18, .ref h19, .ref h20]))] _ _ := hw4
  refine lv_iinc (v := 1) (lv' := [(4, .int 1), (0, .ref h2), (1, .int 0), (2, .int 0), (3, .int 0)]) hx hb dX12_goesPairs_63 hv3 (k := 0) rfl (by decide +kernel) (by decide) rfl (fun lz5 hv5 => ?_)
  clear lz3 hv3
  refine lv_goto (tgt := 42) hx hb dX12_goesPairs_66 (by decide) ?_
  refine lv_iload hx hb dX12_goesPairs_42 (lv_at hv5 0 rfl) ?_
  refine lv_bipush (v := 10) hx hb dX12_goesPairs_44 (by decide) ?_
  refine lv_icmp_ge (tgt := 69) hx hb dX12_goesPairs_46 (by decide) (fun c => absurd c (by decide +kernel)) (fun _ => ?_)
  refine lv_aload_n hx hb dX12_goesPairs_49 rfl (lv_at hv5 1 rfl) ?_
  refine q_get X hK hw4 2 rfl rfl wf_12 25 (by decide) rfl wm_5_195 dX12_goesPairs_50 ?_
  refine lv_iload hx hb dX12_goesPairs_53 (lv_at hv5 0 rfl) ?_
  refine lv_aload_n hx hb dX12_goesPairs_55 rfl (lv_at hv5 1 rfl) ?_
  refine q_get X hK hw4 2 rfl rfl wf_12 24 (by decide) rfl wm_5_194 dX12_goesPairs_56 ?_
  refine lv_iload hx hb dX12_goesPairs_59 (lv_at hv5 0 rfl) ?_
  refine q_iald X hK hw4 0 rfl (q_in (by decide +kernel)) dX12_goesPairs_61 ?_
  refine q_c (-1) (hf_f2_1) ?_
  refine q_iast X hK hw4 1 rfl (q_in (by decide +kernel)) dX12_goesPairs_62 (fun Hp6 lc6 hw6 => ?_)
  clear Hp4 lc4 hw4
  replace hw6 : qW D _ _ [(h0, .inl (cy 1, 10, .inl f2)), (h1, .inl (cy 1, 10, .inl (upd (upd f0 (Int32.toNatClampNeg 0) (-1)) (Int32.toNatClampNeg 1) (-1)))), (h2, .inr (12, [.int 0, .ref h3, .ref h4, .ref h5, .ref h6, .int 0, .int 0, .int 0, .int 0, .int 0, .int 0, .int 0, .int 0, .int 0, .int (-1), .int 0, .ref h7, .ref h8, .ref h9, .ref h10, .ref h11, .int 0, .int 0, .ref h12, .ref h0, .ref h1, .int 0, .int 0, .ref h13, .ref h14, .ref h15, .ref h16, .ref h17, .int 0, .ref h18, .ref h19, .ref h20]))] _ _ := hw6
  refine lv_iinc (v := 2) (lv' := [(4, .int 2), (0, .ref h2), (1, .int 0), (2, .int 0), (3, .int 0)]) hx hb dX12_goesPairs_63 hv5 (k := 0) rfl (by decide +kernel) (by decide) rfl (fun lz7 hv7 => ?_)
  clear lz5 hv5
  refine lv_goto (tgt := 42) hx hb dX12_goesPairs_66 (by decide) ?_
  refine lv_iload hx hb dX12_goesPairs_42 (lv_at hv7 0 rfl) ?_
  refine lv_bipush (v := 10) hx hb dX12_goesPairs_44 (by decide) ?_
  refine lv_icmp_ge (tgt := 69) hx hb dX12_goesPairs_46 (by decide) (fun c => absurd c (by decide +kernel)) (fun _ => ?_)
  refine lv_aload_n hx hb dX12_goesPairs_49 rfl (lv_at hv7 1 rfl) ?_
  refine q_get X hK hw6 2 rfl rfl wf_12 25 (by decide) rfl wm_5_195 dX12_goesPairs_50 ?_
  refine lv_iload hx hb dX12_goesPairs_53 (lv_at hv7 0 rfl) ?_
  refine lv_aload_n hx hb dX12_goesPairs_55 rfl (lv_at hv7 1 rfl) ?_
  refine q_get X hK hw6 2 rfl rfl wf_12 24 (by decide) rfl wm_5_194 dX12_goesPairs_56 ?_
  refine lv_iload hx hb dX12_goesPairs_59 (lv_at hv7 0 rfl) ?_
  refine q_iald X hK hw6 0 rfl (q_in (by decide +kernel)) dX12_goesPairs_61 ?_
  refine q_c (-1) (hf_f2_2) ?_
  refine q_iast X hK hw6 1 rfl (q_in (by decide +kernel)) dX12_goesPairs_62 (fun Hp8 lc8 hw8 => ?_)
  clear Hp6 lc6 hw6
  replace hw8 : qW D _ _ [(h0, .inl (cy 1, 10, .inl f2)), (h1, .inl (cy 1, 10, .inl (upd (upd (upd f0 (Int32.toNatClampNeg 0) (-1)) (Int32.toNatClampNeg 1) (-1)) (Int32.toNatClampNeg 2) (-1)))), (h2, .inr (12, [.int 0, .ref h3, .ref h4, .ref h5, .ref h6, .int 0, .int 0, .int 0, .int 0, .int 0, .int 0, .int 0, .int 0, .int 0, .int (-1), .int 0, .ref h7, .ref h8, .ref h9, .ref h10, .ref h11, .int 0, .int 0, .ref h12, .ref h0, .ref h1, .int 0, .int 0, .ref h13, .ref h14, .ref h15, .ref h16, .ref h17, .int 0, .ref h18, .ref h19, .ref h20]))] _ _ := hw8
  refine lv_iinc (v := 3) (lv' := [(4, .int 3), (0, .ref h2), (1, .int 0), (2, .int 0), (3, .int 0)]) hx hb dX12_goesPairs_63 hv7 (k := 0) rfl (by decide +kernel) (by decide) rfl (fun lz9 hv9 => ?_)
  clear lz7 hv7
  refine lv_goto (tgt := 42) hx hb dX12_goesPairs_66 (by decide) ?_
  refine lv_iload hx hb dX12_goesPairs_42 (lv_at hv9 0 rfl) ?_
  refine lv_bipush (v := 10) hx hb dX12_goesPairs_44 (by decide) ?_
  refine lv_icmp_ge (tgt := 69) hx hb dX12_goesPairs_46 (by decide) (fun c => absurd c (by decide +kernel)) (fun _ => ?_)
  refine lv_aload_n hx hb dX12_goesPairs_49 rfl (lv_at hv9 1 rfl) ?_
  refine q_get X hK hw8 2 rfl rfl wf_12 25 (by decide) rfl wm_5_195 dX12_goesPairs_50 ?_
  refine lv_iload hx hb dX12_goesPairs_53 (lv_at hv9 0 rfl) ?_
  refine lv_aload_n hx hb dX12_goesPairs_55 rfl (lv_at hv9 1 rfl) ?_
  refine q_get X hK hw8 2 rfl rfl wf_12 24 (by decide) rfl wm_5_194 dX12_goesPairs_56 ?_
  refine lv_iload hx hb dX12_goesPairs_59 (lv_at hv9 0 rfl) ?_
  refine q_iald X hK hw8 0 rfl (q_in (by decide +kernel)) dX12_goesPairs_61 ?_
  refine q_c (-1) (hf_f2_3) ?_
  refine q_iast X hK hw8 1 rfl (q_in (by decide +kernel)) dX12_goesPairs_62 (fun Hp10 lc10 hw10 => ?_)
  clear Hp8 lc8 hw8
  replace hw10 : qW D _ _ [(h0, .inl (cy 1, 10, .inl f2)), (h1, .inl (cy 1, 10, .inl (upd (upd (upd (upd f0 (Int32.toNatClampNeg 0) (-1)) (Int32.toNatClampNeg 1) (-1)) (Int32.toNatClampNeg 2) (-1)) (Int32.toNatClampNeg 3) (-1)))), (h2, .inr (12, [.int 0, .ref h3, .ref h4, .ref h5, .ref h6, .int 0, .int 0, .int 0, .int 0, .int 0, .int 0, .int 0, .int 0, .int 0, .int (-1), .int 0, .ref h7, .ref h8, .ref h9, .ref h10, .ref h11, .int 0, .int 0, .ref h12, .ref h0, .ref h1, .int 0, .int 0, .ref h13, .ref h14, .ref h15, .ref h16, .ref h17, .int 0, .ref h18, .ref h19, .ref h20]))] _ _ := hw10
  refine lv_iinc (v := 4) (lv' := [(4, .int 4), (0, .ref h2), (1, .int 0), (2, .int 0), (3, .int 0)]) hx hb dX12_goesPairs_63 hv9 (k := 0) rfl (by decide +kernel) (by decide) rfl (fun lz11 hv11 => ?_)
  clear lz9 hv9
  refine lv_goto (tgt := 42) hx hb dX12_goesPairs_66 (by decide) ?_
  refine lv_iload hx hb dX12_goesPairs_42 (lv_at hv11 0 rfl) ?_
  refine lv_bipush (v := 10) hx hb dX12_goesPairs_44 (by decide) ?_
  refine lv_icmp_ge (tgt := 69) hx hb dX12_goesPairs_46 (by decide) (fun c => absurd c (by decide +kernel)) (fun _ => ?_)
  refine lv_aload_n hx hb dX12_goesPairs_49 rfl (lv_at hv11 1 rfl) ?_
  refine q_get X hK hw10 2 rfl rfl wf_12 25 (by decide) rfl wm_5_195 dX12_goesPairs_50 ?_
  refine lv_iload hx hb dX12_goesPairs_53 (lv_at hv11 0 rfl) ?_
  refine lv_aload_n hx hb dX12_goesPairs_55 rfl (lv_at hv11 1 rfl) ?_
  refine q_get X hK hw10 2 rfl rfl wf_12 24 (by decide) rfl wm_5_194 dX12_goesPairs_56 ?_
  refine lv_iload hx hb dX12_goesPairs_59 (lv_at hv11 0 rfl) ?_
  refine q_iald X hK hw10 0 rfl (q_in (by decide +kernel)) dX12_goesPairs_61 ?_
  refine q_c (-1) (hf_f2_4) ?_
  refine q_iast X hK hw10 1 rfl (q_in (by decide +kernel)) dX12_goesPairs_62 (fun Hp12 lc12 hw12 => ?_)
  clear Hp10 lc10 hw10
  replace hw12 : qW D _ _ [(h0, .inl (cy 1, 10, .inl f2)), (h1, .inl (cy 1, 10, .inl (upd (upd (upd (upd (upd f0 (Int32.toNatClampNeg 0) (-1)) (Int32.toNatClampNeg 1) (-1)) (Int32.toNatClampNeg 2) (-1)) (Int32.toNatClampNeg 3) (-1)) (Int32.toNatClampNeg 4) (-1)))), (h2, .inr (12, [.int 0, .ref h3, .ref h4, .ref h5, .ref h6, .int 0, .int 0, .int 0, .int 0, .int 0, .int 0, .int 0, .int 0, .int 0, .int (-1), .int 0, .ref h7, .ref h8, .ref h9, .ref h10, .ref h11, .int 0, .int 0, .ref h12, .ref h0, .ref h1, .int 0, .int 0, .ref h13, .ref h14, .ref h15, .ref h16, .ref h17, .int 0, .ref h18, .ref h19, .ref h20]))] _ _ := hw12
  refine lv_iinc (v := 5) (lv' := [(4, .int 5), (0, .ref h2), (1, .int 0), (2, .int 0), (3, .int 0)]) hx hb dX12_goesPairs_63 hv11 (k := 0) rfl (by decide +kernel) (by decide) rfl (fun lz13 hv13 => ?_)
  clear lz11 hv11
  refine lv_goto (tgt := 42) hx hb dX12_goesPairs_66 (by decide) ?_
  refine lv_iload hx hb dX12_goesPairs_42 (lv_at hv13 0 rfl) ?_
  refine lv_bipush (v := 10) hx hb dX12_goesPairs_44 (by decide) ?_
  refine lv_icmp_ge (tgt := 69) hx hb dX12_goesPairs_46 (by decide) (fun c => absurd c (by decide +kernel)) (fun _ => ?_)
  refine lv_aload_n hx hb dX12_goesPairs_49 rfl (lv_at hv13 1 rfl) ?_
  refine q_get X hK hw12 2 rfl rfl wf_12 25 (by decide) rfl wm_5_195 dX12_goesPairs_50 ?_
  refine lv_iload hx hb dX12_goesPairs_53 (lv_at hv13 0 rfl) ?_
  refine lv_aload_n hx hb dX12_goesPairs_55 rfl (lv_at hv13 1 rfl) ?_
  refine q_get X hK hw12 2 rfl rfl wf_12 24 (by decide) rfl wm_5_194 dX12_goesPairs_56 ?_
  refine lv_iload hx hb dX12_goesPairs_59 (lv_at hv13 0 rfl) ?_
  refine q_iald X hK hw12 0 rfl (q_in (by decide +kernel)) dX12_goesPairs_61 ?_
  refine q_c (-1) (hf_f2_5) ?_
  refine q_iast X hK hw12 1 rfl (q_in (by decide +kernel)) dX12_goesPairs_62 (fun Hp14 lc14 hw14 => ?_)
  clear Hp12 lc12 hw12
  replace hw14 : qW D _ _ [(h0, .inl (cy 1, 10, .inl f2)), (h1, .inl (cy 1, 10, .inl (upd (upd (upd (upd (upd (upd f0 (Int32.toNatClampNeg 0) (-1)) (Int32.toNatClampNeg 1) (-1)) (Int32.toNatClampNeg 2) (-1)) (Int32.toNatClampNeg 3) (-1)) (Int32.toNatClampNeg 4) (-1)) (Int32.toNatClampNeg 5) (-1)))), (h2, .inr (12, [.int 0, .ref h3, .ref h4, .ref h5, .ref h6, .int 0, .int 0, .int 0, .int 0, .int 0, .int 0, .int 0, .int 0, .int 0, .int (-1), .int 0, .ref h7, .ref h8, .ref h9, .ref h10, .ref h11, .int 0, .int 0, .ref h12, .ref h0, .ref h1, .int 0, .int 0, .ref h13, .ref h14, .ref h15, .ref h16, .ref h17, .int 0, .ref h18, .ref h19, .ref h20]))] _ _ := hw14
  refine lv_iinc (v := 6) (lv' := [(4, .int 6), (0, .ref h2), (1, .int 0), (2, .int 0), (3, .int 0)]) hx hb dX12_goesPairs_63 hv13 (k := 0) rfl (by decide +kernel) (by decide) rfl (fun lz15 hv15 => ?_)
  clear lz13 hv13
  refine lv_goto (tgt := 42) hx hb dX12_goesPairs_66 (by decide) ?_
  refine lv_iload hx hb dX12_goesPairs_42 (lv_at hv15 0 rfl) ?_
  refine lv_bipush (v := 10) hx hb dX12_goesPairs_44 (by decide) ?_
  refine lv_icmp_ge (tgt := 69) hx hb dX12_goesPairs_46 (by decide) (fun c => absurd c (by decide +kernel)) (fun _ => ?_)
  refine lv_aload_n hx hb dX12_goesPairs_49 rfl (lv_at hv15 1 rfl) ?_
  refine q_get X hK hw14 2 rfl rfl wf_12 25 (by decide) rfl wm_5_195 dX12_goesPairs_50 ?_
  refine lv_iload hx hb dX12_goesPairs_53 (lv_at hv15 0 rfl) ?_
  refine lv_aload_n hx hb dX12_goesPairs_55 rfl (lv_at hv15 1 rfl) ?_
  refine q_get X hK hw14 2 rfl rfl wf_12 24 (by decide) rfl wm_5_194 dX12_goesPairs_56 ?_
  refine lv_iload hx hb dX12_goesPairs_59 (lv_at hv15 0 rfl) ?_
  refine q_iald X hK hw14 0 rfl (q_in (by decide +kernel)) dX12_goesPairs_61 ?_
  refine q_c (-1) (hf_f2_6) ?_
  refine q_iast X hK hw14 1 rfl (q_in (by decide +kernel)) dX12_goesPairs_62 (fun Hp16 lc16 hw16 => ?_)
  clear Hp14 lc14 hw14
  replace hw16 : qW D _ _ [(h0, .inl (cy 1, 10, .inl f2)), (h1, .inl (cy 1, 10, .inl (upd (upd (upd (upd (upd (upd (upd f0 (Int32.toNatClampNeg 0) (-1)) (Int32.toNatClampNeg 1) (-1)) (Int32.toNatClampNeg 2) (-1)) (Int32.toNatClampNeg 3) (-1)) (Int32.toNatClampNeg 4) (-1)) (Int32.toNatClampNeg 5) (-1)) (Int32.toNatClampNeg 6) (-1)))), (h2, .inr (12, [.int 0, .ref h3, .ref h4, .ref h5, .ref h6, .int 0, .int 0, .int 0, .int 0, .int 0, .int 0, .int 0, .int 0, .int 0, .int (-1), .int 0, .ref h7, .ref h8, .ref h9, .ref h10, .ref h11, .int 0, .int 0, .ref h12, .ref h0, .ref h1, .int 0, .int 0, .ref h13, .ref h14, .ref h15, .ref h16, .ref h17, .int 0, .ref h18, .ref h19, .ref h20]))] _ _ := hw16
  refine lv_iinc (v := 7) (lv' := [(4, .int 7), (0, .ref h2), (1, .int 0), (2, .int 0), (3, .int 0)]) hx hb dX12_goesPairs_63 hv15 (k := 0) rfl (by decide +kernel) (by decide) rfl (fun lz17 hv17 => ?_)
  clear lz15 hv15
  refine lv_goto (tgt := 42) hx hb dX12_goesPairs_66 (by decide) ?_
  refine lv_iload hx hb dX12_goesPairs_42 (lv_at hv17 0 rfl) ?_
  refine lv_bipush (v := 10) hx hb dX12_goesPairs_44 (by decide) ?_
  refine lv_icmp_ge (tgt := 69) hx hb dX12_goesPairs_46 (by decide) (fun c => absurd c (by decide +kernel)) (fun _ => ?_)
  refine lv_aload_n hx hb dX12_goesPairs_49 rfl (lv_at hv17 1 rfl) ?_
  refine q_get X hK hw16 2 rfl rfl wf_12 25 (by decide) rfl wm_5_195 dX12_goesPairs_50 ?_
  refine lv_iload hx hb dX12_goesPairs_53 (lv_at hv17 0 rfl) ?_
  refine lv_aload_n hx hb dX12_goesPairs_55 rfl (lv_at hv17 1 rfl) ?_
  refine q_get X hK hw16 2 rfl rfl wf_12 24 (by decide) rfl wm_5_194 dX12_goesPairs_56 ?_
  refine lv_iload hx hb dX12_goesPairs_59 (lv_at hv17 0 rfl) ?_
  refine q_iald X hK hw16 0 rfl (q_in (by decide +kernel)) dX12_goesPairs_61 ?_
  refine q_c (-1) (hf_f2_7) ?_
  refine q_iast X hK hw16 1 rfl (q_in (by decide +kernel)) dX12_goesPairs_62 (fun Hp18 lc18 hw18 => ?_)
  clear Hp16 lc16 hw16
  replace hw18 : qW D _ _ [(h0, .inl (cy 1, 10, .inl f2)), (h1, .inl (cy 1, 10, .inl (upd (upd (upd (upd (upd (upd (upd (upd f0 (Int32.toNatClampNeg 0) (-1)) (Int32.toNatClampNeg 1) (-1)) (Int32.toNatClampNeg 2) (-1)) (Int32.toNatClampNeg 3) (-1)) (Int32.toNatClampNeg 4) (-1)) (Int32.toNatClampNeg 5) (-1)) (Int32.toNatClampNeg 6) (-1)) (Int32.toNatClampNeg 7) (-1)))), (h2, .inr (12, [.int 0, .ref h3, .ref h4, .ref h5, .ref h6, .int 0, .int 0, .int 0, .int 0, .int 0, .int 0, .int 0, .int 0, .int 0, .int (-1), .int 0, .ref h7, .ref h8, .ref h9, .ref h10, .ref h11, .int 0, .int 0, .ref h12, .ref h0, .ref h1, .int 0, .int 0, .ref h13, .ref h14, .ref h15, .ref h16, .ref h17, .int 0, .ref h18, .ref h19, .ref h20]))] _ _ := hw18
  refine lv_iinc (v := 8) (lv' := [(4, .int 8), (0, .ref h2), (1, .int 0), (2, .int 0), (3, .int 0)]) hx hb dX12_goesPairs_63 hv17 (k := 0) rfl (by decide +kernel) (by decide) rfl (fun lz19 hv19 => ?_)
  clear lz17 hv17
  refine lv_goto (tgt := 42) hx hb dX12_goesPairs_66 (by decide) ?_
  refine lv_iload hx hb dX12_goesPairs_42 (lv_at hv19 0 rfl) ?_
  refine lv_bipush (v := 10) hx hb dX12_goesPairs_44 (by decide) ?_
  refine lv_icmp_ge (tgt := 69) hx hb dX12_goesPairs_46 (by decide) (fun c => absurd c (by decide +kernel)) (fun _ => ?_)
  refine lv_aload_n hx hb dX12_goesPairs_49 rfl (lv_at hv19 1 rfl) ?_
  refine q_get X hK hw18 2 rfl rfl wf_12 25 (by decide) rfl wm_5_195 dX12_goesPairs_50 ?_
  refine lv_iload hx hb dX12_goesPairs_53 (lv_at hv19 0 rfl) ?_
  refine lv_aload_n hx hb dX12_goesPairs_55 rfl (lv_at hv19 1 rfl) ?_
  refine q_get X hK hw18 2 rfl rfl wf_12 24 (by decide) rfl wm_5_194 dX12_goesPairs_56 ?_
  refine lv_iload hx hb dX12_goesPairs_59 (lv_at hv19 0 rfl) ?_
  refine q_iald X hK hw18 0 rfl (q_in (by decide +kernel)) dX12_goesPairs_61 ?_
  refine q_c (-1) (hf_f2_8) ?_
  refine q_iast X hK hw18 1 rfl (q_in (by decide +kernel)) dX12_goesPairs_62 (fun Hp20 lc20 hw20 => ?_)
  clear Hp18 lc18 hw18
  replace hw20 : qW D _ _ [(h0, .inl (cy 1, 10, .inl f2)), (h1, .inl (cy 1, 10, .inl (upd (upd (upd (upd (upd (upd (upd (upd (upd f0 (Int32.toNatClampNeg 0) (-1)) (Int32.toNatClampNeg 1) (-1)) (Int32.toNatClampNeg 2) (-1)) (Int32.toNatClampNeg 3) (-1)) (Int32.toNatClampNeg 4) (-1)) (Int32.toNatClampNeg 5) (-1)) (Int32.toNatClampNeg 6) (-1)) (Int32.toNatClampNeg 7) (-1)) (Int32.toNatClampNeg 8) (-1)))), (h2, .inr (12, [.int 0, .ref h3, .ref h4, .ref h5, .ref h6, .int 0, .int 0, .int 0, .int 0, .int 0, .int 0, .int 0, .int 0, .int 0, .int (-1), .int 0, .ref h7, .ref h8, .ref h9, .ref h10, .ref h11, .int 0, .int 0, .ref h12, .ref h0, .ref h1, .int 0, .int 0, .ref h13, .ref h14, .ref h15, .ref h16, .ref h17, .int 0, .ref h18, .ref h19, .ref h20]))] _ _ := hw20
  refine lv_iinc (v := 9) (lv' := [(4, .int 9), (0, .ref h2), (1, .int 0), (2, .int 0), (3, .int 0)]) hx hb dX12_goesPairs_63 hv19 (k := 0) rfl (by decide +kernel) (by decide) rfl (fun lz21 hv21 => ?_)
  clear lz19 hv19
  refine lv_goto (tgt := 42) hx hb dX12_goesPairs_66 (by decide) ?_
  refine lv_iload hx hb dX12_goesPairs_42 (lv_at hv21 0 rfl) ?_
  refine lv_bipush (v := 10) hx hb dX12_goesPairs_44 (by decide) ?_
  refine lv_icmp_ge (tgt := 69) hx hb dX12_goesPairs_46 (by decide) (fun c => absurd c (by decide +kernel)) (fun _ => ?_)
  refine lv_aload_n hx hb dX12_goesPairs_49 rfl (lv_at hv21 1 rfl) ?_
  refine q_get X hK hw20 2 rfl rfl wf_12 25 (by decide) rfl wm_5_195 dX12_goesPairs_50 ?_
  refine lv_iload hx hb dX12_goesPairs_53 (lv_at hv21 0 rfl) ?_
  refine lv_aload_n hx hb dX12_goesPairs_55 rfl (lv_at hv21 1 rfl) ?_
  refine q_get X hK hw20 2 rfl rfl wf_12 24 (by decide) rfl wm_5_194 dX12_goesPairs_56 ?_
  refine lv_iload hx hb dX12_goesPairs_59 (lv_at hv21 0 rfl) ?_
  refine q_iald X hK hw20 0 rfl (q_in (by decide +kernel)) dX12_goesPairs_61 ?_
  refine q_c (-1) (hf_f2_9) ?_
  refine q_iast X hK hw20 1 rfl (q_in (by decide +kernel)) dX12_goesPairs_62 (fun Hp22 lc22 hw22 => ?_)
  clear Hp20 lc20 hw20
  replace hw22 : qW D _ _ [(h0, .inl (cy 1, 10, .inl f2)), (h1, .inl (cy 1, 10, .inl (upd (upd (upd (upd (upd (upd (upd (upd (upd (upd f0 (Int32.toNatClampNeg 0) (-1)) (Int32.toNatClampNeg 1) (-1)) (Int32.toNatClampNeg 2) (-1)) (Int32.toNatClampNeg 3) (-1)) (Int32.toNatClampNeg 4) (-1)) (Int32.toNatClampNeg 5) (-1)) (Int32.toNatClampNeg 6) (-1)) (Int32.toNatClampNeg 7) (-1)) (Int32.toNatClampNeg 8) (-1)) (Int32.toNatClampNeg 9) (-1)))), (h2, .inr (12, [.int 0, .ref h3, .ref h4, .ref h5, .ref h6, .int 0, .int 0, .int 0, .int 0, .int 0, .int 0, .int 0, .int 0, .int 0, .int (-1), .int 0, .ref h7, .ref h8, .ref h9, .ref h10, .ref h11, .int 0, .int 0, .ref h12, .ref h0, .ref h1, .int 0, .int 0, .ref h13, .ref h14, .ref h15, .ref h16, .ref h17, .int 0, .ref h18, .ref h19, .ref h20]))] _ _ := hw22
  refine lv_iinc (v := 10) (lv' := [(4, .int 10), (0, .ref h2), (1, .int 0), (2, .int 0), (3, .int 0)]) hx hb dX12_goesPairs_63 hv21 (k := 0) rfl (by decide +kernel) (by decide) rfl (fun lz23 hv23 => ?_)
  clear lz21 hv21
  refine lv_goto (tgt := 42) hx hb dX12_goesPairs_66 (by decide) ?_
  refine lv_iload hx hb dX12_goesPairs_42 (lv_at hv23 0 rfl) ?_
  refine lv_bipush (v := 10) hx hb dX12_goesPairs_44 (by decide) ?_
  refine lv_icmp_ge (tgt := 69) hx hb dX12_goesPairs_46 (by decide) (fun _ => ?_) (fun c => absurd c (by decide +kernel))
  exact q_vret X hr hlk hK hw22 (fun _ => 0, fun k => List.getD [(upd (upd (upd (upd (upd (upd (upd (upd (upd (upd f0 (Int32.toNatClampNeg 0) (-1)) (Int32.toNatClampNeg 1) (-1)) (Int32.toNatClampNeg 2) (-1)) (Int32.toNatClampNeg 3) (-1)) (Int32.toNatClampNeg 4) (-1)) (Int32.toNatClampNeg 5) (-1)) (Int32.toNatClampNeg 6) (-1)) (Int32.toNatClampNeg 7) (-1)) (Int32.toNatClampNeg 8) (-1)) (Int32.toNatClampNeg 9) (-1))] k (fun _ => 0), fun _ _ => 0) trivial [0, 1, 2] rfl rfl dX12_goesPairs_69 (Nat.le_of_ble_eq_true rfl) (Nat.le_of_ble_eq_true rfl)
set_option maxHeartbeats 4000000 in
set_option maxRecDepth 100000 in
theorem kX12_laysPairs_294 (l : Launch) (D : va_G) (cy : Nat → ClassId) (h0 : Nat) (h1 : Nat) (h2 : Nat) (f0 : Nat → Int32) (h3 : Nat) (h4 : Nat) (h5 : Nat) (h6 : Nat) (h7 : Nat) (h8 : Nat) (h9 : Nat) (h10 : Nat) (h11 : Nat) (h12 : Nat) (h13 : Nat) (h14 : Nat) (h15 : Nat) (h16 : Nat) (h17 : Nat) (h18 : Nat) (h19 : Nat) (h20 : Nat) (f2 : Nat → Int32) (sz : Nat) : MV l yX12_laysPairs cX12_laysPairs 3 { frames := 1, cells := 0, slots := 0, locals := 26 } [.ref h2, .int 0] D cy [(h0, .inl (cy 1, 10, .inl f2)), (h1, .inl (cy 1, 10, .inl f0)), (h2, .inr (12, [.int 0, .ref h3, .ref h4, .ref h5, .ref h6, .int 0, .int 0, .int 0, .int 0, .int 0, .int 0, .int 0, .int 0, .int 0, .int (-1), .int 0, .ref h7, .ref h8, .ref h9, .ref h10, .ref h11, .int 0, .int 0, .ref h12, .ref h0, .ref h1, .int 0, .int 0, .ref h13, .ref h14, .ref h15, .ref h16, .ref h17, .int 0, .ref h18, .ref h19, .ref h20]))] sz (fun _ => True) (fun u => [(h0, .inl (cy 1, 10, .inl (u.2.1 0))), (h1, .inl (cy 1, 10, .inl (u.2.1 1))), (h2, .inr (12, [.int 0, .ref h3, .ref h4, .ref h5, .ref h6, .int 0, .int 0, .int 0, .int 0, .int 0, .int 0, .int 0, .int 0, .int 0, .int (-1), .int 0, .ref h7, .ref h8, .ref h9, .ref h10, .ref h11, .int 0, .int 0, .ref h12, .ref h0, .ref h1, .int 0, .int 0, .ref h13, .ref h14, .ref h15, .ref h16, .ref h17, .int 0, .ref h18, .ref h19, .ref h20]))]) 0 0 := by
  refine q_ent (own := RX12) (by decide) rfl (Nat.le_of_ble_eq_true rfl) (fun p e s m below meth c ls X hr hlk hnm hK h hA hl => ?_)
  obtain ⟨hx, hb, hml, hown, ht⟩ := id X
  replace hl : lv_has ls 3 [(0, .ref h2), (1, .int 0)] := hl
  refine lv_aload_n hx hb dX12_laysPairs_0 rfl (lv_at hl 0 rfl) ?_
  refine lv_iconst (v := (-1)) hx hb dX12_laysPairs_1 (by decide) ?_
  refine q_put (v := .int (-1)) X hK h 2 rfl rfl wf_12 tyX12 tyX12_ok nmX12 26 (by decide) wm_5_196 rfl rfl rfl (Nat.le_of_ble_eq_true rfl) dX12_laysPairs_2 (fun Hp1 lc1 hw1 => ?_)
  clear h
  replace hw1 : qW D _ _ [(h0, .inl (cy 1, 10, .inl f2)), (h1, .inl (cy 1, 10, .inl f0)), (h2, .inr (12, [.int 0, .ref h3, .ref h4, .ref h5, .ref h6, .int 0, .int 0, .int 0, .int 0, .int 0, .int 0, .int 0, .int 0, .int 0, .int (-1), .int 0, .ref h7, .ref h8, .ref h9, .ref h10, .ref h11, .int 0, .int 0, .ref h12, .ref h0, .ref h1, .int (-1), .int 0, .ref h13, .ref h14, .ref h15, .ref h16, .ref h17, .int 0, .ref h18, .ref h19, .ref h20]))] _ _ := hw1
  refine lv_aload_n hx hb dX12_laysPairs_5 rfl (lv_at hl 0 rfl) ?_
  refine lv_iconst (v := (-1)) hx hb dX12_laysPairs_6 (by decide) ?_
  refine q_put (v := .int (-1)) X hK hw1 2 rfl rfl wf_12 tyX12 tyX12_ok nmX12 27 (by decide) wm_5_197 rfl rfl rfl (Nat.le_of_ble_eq_true rfl) dX12_laysPairs_7 (fun Hp2 lc2 hw2 => ?_)
  clear Hp1 lc1 hw1
  replace hw2 : qW D _ _ [(h0, .inl (cy 1, 10, .inl f2)), (h1, .inl (cy 1, 10, .inl f0)), (h2, .inr (12, [.int 0, .ref h3, .ref h4, .ref h5, .ref h6, .int 0, .int 0, .int 0, .int 0, .int 0, .int 0, .int 0, .int 0, .int 0, .int (-1), .int 0, .ref h7, .ref h8, .ref h9, .ref h10, .ref h11, .int 0, .int 0, .ref h12, .ref h0, .ref h1, .int (-1), .int (-1), .ref h13, .ref h14, .ref h15, .ref h16, .ref h17, .int 0, .ref h18, .ref h19, .ref h20]))] _ _ := hw2
  refine lv_iconst (v := 0) hx hb dX12_laysPairs_10 (by decide) ?_
  refine lv_istore_n (lv' := [(2, .int 0), (0, .ref h2), (1, .int 0)]) hx hb dX12_laysPairs_11 rfl hl (by decide) rfl (fun lz3 hv3 => ?_)
  clear ls hl
  refine lv_iload_n hx hb dX12_laysPairs_12 rfl (lv_at hv3 0 rfl) ?_
  refine lv_bipush (v := 10) hx hb dX12_laysPairs_13 (by decide) ?_
  refine lv_icmp_ge (tgt := 31) hx hb dX12_laysPairs_15 (by decide) (fun c => absurd c (by decide +kernel)) (fun _ => ?_)
  refine lv_aload_n hx hb dX12_laysPairs_18 rfl (lv_at hv3 1 rfl) ?_
  refine q_get X hK hw2 2 rfl rfl wf_12 24 (by decide) rfl wm_5_194 dX12_laysPairs_19 ?_
  refine lv_iload_n hx hb dX12_laysPairs_22 rfl (lv_at hv3 0 rfl) ?_
  refine lv_iconst (v := (-1)) hx hb dX12_laysPairs_23 (by decide) ?_
  refine q_iast X hK hw2 0 rfl (q_in (by decide +kernel)) dX12_laysPairs_24 (fun Hp4 lc4 hw4 => ?_)
  clear Hp2 lc2 hw2
  replace hw4 : qW D _ _ [(h0, .inl (cy 1, 10, .inl (upd f2 (Int32.toNatClampNeg 0) (-1)))), (h1, .inl (cy 1, 10, .inl f0)), (h2, .inr (12, [.int 0, .ref h3, .ref h4, .ref h5, .ref h6, .int 0, .int 0, .int 0, .int 0, .int 0, .int 0, .int 0, .int 0, .int 0, .int (-1), .int 0, .ref h7, .ref h8, .ref h9, .ref h10, .ref h11, .int 0, .int 0, .ref h12, .ref h0, .ref h1, .int (-1), .int (-1), .ref h13, .ref h14, .ref h15, .ref h16, .ref h17, .int 0, .ref h18, .ref h19, .ref h20]))] _ _ := hw4
  refine lv_iinc (v := 1) (lv' := [(2, .int 1), (0, .ref h2), (1, .int 0)]) hx hb dX12_laysPairs_25 hv3 (k := 0) rfl (by decide +kernel) (by decide) rfl (fun lz5 hv5 => ?_)
  clear lz3 hv3
  refine lv_goto (tgt := 12) hx hb dX12_laysPairs_28 (by decide) ?_
  refine lv_iload_n hx hb dX12_laysPairs_12 rfl (lv_at hv5 0 rfl) ?_
  refine lv_bipush (v := 10) hx hb dX12_laysPairs_13 (by decide) ?_
  refine lv_icmp_ge (tgt := 31) hx hb dX12_laysPairs_15 (by decide) (fun c => absurd c (by decide +kernel)) (fun _ => ?_)
  refine lv_aload_n hx hb dX12_laysPairs_18 rfl (lv_at hv5 1 rfl) ?_
  refine q_get X hK hw4 2 rfl rfl wf_12 24 (by decide) rfl wm_5_194 dX12_laysPairs_19 ?_
  refine lv_iload_n hx hb dX12_laysPairs_22 rfl (lv_at hv5 0 rfl) ?_
  refine lv_iconst (v := (-1)) hx hb dX12_laysPairs_23 (by decide) ?_
  refine q_iast X hK hw4 0 rfl (q_in (by decide +kernel)) dX12_laysPairs_24 (fun Hp6 lc6 hw6 => ?_)
  clear Hp4 lc4 hw4
  replace hw6 : qW D _ _ [(h0, .inl (cy 1, 10, .inl (upd (upd f2 (Int32.toNatClampNeg 0) (-1)) (Int32.toNatClampNeg 1) (-1)))), (h1, .inl (cy 1, 10, .inl f0)), (h2, .inr (12, [.int 0, .ref h3, .ref h4, .ref h5, .ref h6, .int 0, .int 0, .int 0, .int 0, .int 0, .int 0, .int 0, .int 0, .int 0, .int (-1), .int 0, .ref h7, .ref h8, .ref h9, .ref h10, .ref h11, .int 0, .int 0, .ref h12, .ref h0, .ref h1, .int (-1), .int (-1), .ref h13, .ref h14, .ref h15, .ref h16, .ref h17, .int 0, .ref h18, .ref h19, .ref h20]))] _ _ := hw6
  refine lv_iinc (v := 2) (lv' := [(2, .int 2), (0, .ref h2), (1, .int 0)]) hx hb dX12_laysPairs_25 hv5 (k := 0) rfl (by decide +kernel) (by decide) rfl (fun lz7 hv7 => ?_)
  clear lz5 hv5
  refine lv_goto (tgt := 12) hx hb dX12_laysPairs_28 (by decide) ?_
  refine lv_iload_n hx hb dX12_laysPairs_12 rfl (lv_at hv7 0 rfl) ?_
  refine lv_bipush (v := 10) hx hb dX12_laysPairs_13 (by decide) ?_
  refine lv_icmp_ge (tgt := 31) hx hb dX12_laysPairs_15 (by decide) (fun c => absurd c (by decide +kernel)) (fun _ => ?_)
  refine lv_aload_n hx hb dX12_laysPairs_18 rfl (lv_at hv7 1 rfl) ?_
  refine q_get X hK hw6 2 rfl rfl wf_12 24 (by decide) rfl wm_5_194 dX12_laysPairs_19 ?_
  refine lv_iload_n hx hb dX12_laysPairs_22 rfl (lv_at hv7 0 rfl) ?_
  refine lv_iconst (v := (-1)) hx hb dX12_laysPairs_23 (by decide) ?_
  refine q_iast X hK hw6 0 rfl (q_in (by decide +kernel)) dX12_laysPairs_24 (fun Hp8 lc8 hw8 => ?_)
  clear Hp6 lc6 hw6
  replace hw8 : qW D _ _ [(h0, .inl (cy 1, 10, .inl (upd (upd (upd f2 (Int32.toNatClampNeg 0) (-1)) (Int32.toNatClampNeg 1) (-1)) (Int32.toNatClampNeg 2) (-1)))), (h1, .inl (cy 1, 10, .inl f0)), (h2, .inr (12, [.int 0, .ref h3, .ref h4, .ref h5, .ref h6, .int 0, .int 0, .int 0, .int 0, .int 0, .int 0, .int 0, .int 0, .int 0, .int (-1), .int 0, .ref h7, .ref h8, .ref h9, .ref h10, .ref h11, .int 0, .int 0, .ref h12, .ref h0, .ref h1, .int (-1), .int (-1), .ref h13, .ref h14, .ref h15, .ref h16, .ref h17, .int 0, .ref h18, .ref h19, .ref h20]))] _ _ := hw8
  refine lv_iinc (v := 3) (lv' := [(2, .int 3), (0, .ref h2), (1, .int 0)]) hx hb dX12_laysPairs_25 hv7 (k := 0) rfl (by decide +kernel) (by decide) rfl (fun lz9 hv9 => ?_)
  clear lz7 hv7
  refine lv_goto (tgt := 12) hx hb dX12_laysPairs_28 (by decide) ?_
  refine lv_iload_n hx hb dX12_laysPairs_12 rfl (lv_at hv9 0 rfl) ?_
  refine lv_bipush (v := 10) hx hb dX12_laysPairs_13 (by decide) ?_
  refine lv_icmp_ge (tgt := 31) hx hb dX12_laysPairs_15 (by decide) (fun c => absurd c (by decide +kernel)) (fun _ => ?_)
  refine lv_aload_n hx hb dX12_laysPairs_18 rfl (lv_at hv9 1 rfl) ?_
  refine q_get X hK hw8 2 rfl rfl wf_12 24 (by decide) rfl wm_5_194 dX12_laysPairs_19 ?_
  refine lv_iload_n hx hb dX12_laysPairs_22 rfl (lv_at hv9 0 rfl) ?_
  refine lv_iconst (v := (-1)) hx hb dX12_laysPairs_23 (by decide) ?_
  refine q_iast X hK hw8 0 rfl (q_in (by decide +kernel)) dX12_laysPairs_24 (fun Hp10 lc10 hw10 => ?_)
  clear Hp8 lc8 hw8
  replace hw10 : qW D _ _ [(h0, .inl (cy 1, 10, .inl (upd (upd (upd (upd f2 (Int32.toNatClampNeg 0) (-1)) (Int32.toNatClampNeg 1) (-1)) (Int32.toNatClampNeg 2) (-1)) (Int32.toNatClampNeg 3) (-1)))), (h1, .inl (cy 1, 10, .inl f0)), (h2, .inr (12, [.int 0, .ref h3, .ref h4, .ref h5, .ref h6, .int 0, .int 0, .int 0, .int 0, .int 0, .int 0, .int 0, .int 0, .int 0, .int (-1), .int 0, .ref h7, .ref h8, .ref h9, .ref h10, .ref h11, .int 0, .int 0, .ref h12, .ref h0, .ref h1, .int (-1), .int (-1), .ref h13, .ref h14, .ref h15, .ref h16, .ref h17, .int 0, .ref h18, .ref h19, .ref h20]))] _ _ := hw10
  refine lv_iinc (v := 4) (lv' := [(2, .int 4), (0, .ref h2), (1, .int 0)]) hx hb dX12_laysPairs_25 hv9 (k := 0) rfl (by decide +kernel) (by decide) rfl (fun lz11 hv11 => ?_)
  clear lz9 hv9
  refine lv_goto (tgt := 12) hx hb dX12_laysPairs_28 (by decide) ?_
  refine lv_iload_n hx hb dX12_laysPairs_12 rfl (lv_at hv11 0 rfl) ?_
  refine lv_bipush (v := 10) hx hb dX12_laysPairs_13 (by decide) ?_
  refine lv_icmp_ge (tgt := 31) hx hb dX12_laysPairs_15 (by decide) (fun c => absurd c (by decide +kernel)) (fun _ => ?_)
  refine lv_aload_n hx hb dX12_laysPairs_18 rfl (lv_at hv11 1 rfl) ?_
  refine q_get X hK hw10 2 rfl rfl wf_12 24 (by decide) rfl wm_5_194 dX12_laysPairs_19 ?_
  refine lv_iload_n hx hb dX12_laysPairs_22 rfl (lv_at hv11 0 rfl) ?_
  refine lv_iconst (v := (-1)) hx hb dX12_laysPairs_23 (by decide) ?_
  refine q_iast X hK hw10 0 rfl (q_in (by decide +kernel)) dX12_laysPairs_24 (fun Hp12 lc12 hw12 => ?_)
  clear Hp10 lc10 hw10
  replace hw12 : qW D _ _ [(h0, .inl (cy 1, 10, .inl (upd (upd (upd (upd (upd f2 (Int32.toNatClampNeg 0) (-1)) (Int32.toNatClampNeg 1) (-1)) (Int32.toNatClampNeg 2) (-1)) (Int32.toNatClampNeg 3) (-1)) (Int32.toNatClampNeg 4) (-1)))), (h1, .inl (cy 1, 10, .inl f0)), (h2, .inr (12, [.int 0, .ref h3, .ref h4, .ref h5, .ref h6, .int 0, .int 0, .int 0, .int 0, .int 0, .int 0, .int 0, .int 0, .int 0, .int (-1), .int 0, .ref h7, .ref h8, .ref h9, .ref h10, .ref h11, .int 0, .int 0, .ref h12, .ref h0, .ref h1, .int (-1), .int (-1), .ref h13, .ref h14, .ref h15, .ref h16, .ref h17, .int 0, .ref h18, .ref h19, .ref h20]))] _ _ := hw12
  refine lv_iinc (v := 5) (lv' := [(2, .int 5), (0, .ref h2), (1, .int 0)]) hx hb dX12_laysPairs_25 hv11 (k := 0) rfl (by decide +kernel) (by decide) rfl (fun lz13 hv13 => ?_)
  clear lz11 hv11
  refine lv_goto (tgt := 12) hx hb dX12_laysPairs_28 (by decide) ?_
  refine lv_iload_n hx hb dX12_laysPairs_12 rfl (lv_at hv13 0 rfl) ?_
  refine lv_bipush (v := 10) hx hb dX12_laysPairs_13 (by decide) ?_
  refine lv_icmp_ge (tgt := 31) hx hb dX12_laysPairs_15 (by decide) (fun c => absurd c (by decide +kernel)) (fun _ => ?_)
  refine lv_aload_n hx hb dX12_laysPairs_18 rfl (lv_at hv13 1 rfl) ?_
  refine q_get X hK hw12 2 rfl rfl wf_12 24 (by decide) rfl wm_5_194 dX12_laysPairs_19 ?_
  refine lv_iload_n hx hb dX12_laysPairs_22 rfl (lv_at hv13 0 rfl) ?_
  refine lv_iconst (v := (-1)) hx hb dX12_laysPairs_23 (by decide) ?_
  refine q_iast X hK hw12 0 rfl (q_in (by decide +kernel)) dX12_laysPairs_24 (fun Hp14 lc14 hw14 => ?_)
  clear Hp12 lc12 hw12
  replace hw14 : qW D _ _ [(h0, .inl (cy 1, 10, .inl (upd (upd (upd (upd (upd (upd f2 (Int32.toNatClampNeg 0) (-1)) (Int32.toNatClampNeg 1) (-1)) (Int32.toNatClampNeg 2) (-1)) (Int32.toNatClampNeg 3) (-1)) (Int32.toNatClampNeg 4) (-1)) (Int32.toNatClampNeg 5) (-1)))), (h1, .inl (cy 1, 10, .inl f0)), (h2, .inr (12, [.int 0, .ref h3, .ref h4, .ref h5, .ref h6, .int 0, .int 0, .int 0, .int 0, .int 0, .int 0, .int 0, .int 0, .int 0, .int (-1), .int 0, .ref h7, .ref h8, .ref h9, .ref h10, .ref h11, .int 0, .int 0, .ref h12, .ref h0, .ref h1, .int (-1), .int (-1), .ref h13, .ref h14, .ref h15, .ref h16, .ref h17, .int 0, .ref h18, .ref h19, .ref h20]))] _ _ := hw14
  refine lv_iinc (v := 6) (lv' := [(2, .int 6), (0, .ref h2), (1, .int 0)]) hx hb dX12_laysPairs_25 hv13 (k := 0) rfl (by decide +kernel) (by decide) rfl (fun lz15 hv15 => ?_)
  clear lz13 hv13
  refine lv_goto (tgt := 12) hx hb dX12_laysPairs_28 (by decide) ?_
  refine lv_iload_n hx hb dX12_laysPairs_12 rfl (lv_at hv15 0 rfl) ?_
  refine lv_bipush (v := 10) hx hb dX12_laysPairs_13 (by decide) ?_
  refine lv_icmp_ge (tgt := 31) hx hb dX12_laysPairs_15 (by decide) (fun c => absurd c (by decide +kernel)) (fun _ => ?_)
  refine lv_aload_n hx hb dX12_laysPairs_18 rfl (lv_at hv15 1 rfl) ?_
  refine q_get X hK hw14 2 rfl rfl wf_12 24 (by decide) rfl wm_5_194 dX12_laysPairs_19 ?_
  refine lv_iload_n hx hb dX12_laysPairs_22 rfl (lv_at hv15 0 rfl) ?_
  refine lv_iconst (v := (-1)) hx hb dX12_laysPairs_23 (by decide) ?_
  refine q_iast X hK hw14 0 rfl (q_in (by decide +kernel)) dX12_laysPairs_24 (fun Hp16 lc16 hw16 => ?_)
  clear Hp14 lc14 hw14
  replace hw16 : qW D _ _ [(h0, .inl (cy 1, 10, .inl (upd (upd (upd (upd (upd (upd (upd f2 (Int32.toNatClampNeg 0) (-1)) (Int32.toNatClampNeg 1) (-1)) (Int32.toNatClampNeg 2) (-1)) (Int32.toNatClampNeg 3) (-1)) (Int32.toNatClampNeg 4) (-1)) (Int32.toNatClampNeg 5) (-1)) (Int32.toNatClampNeg 6) (-1)))), (h1, .inl (cy 1, 10, .inl f0)), (h2, .inr (12, [.int 0, .ref h3, .ref h4, .ref h5, .ref h6, .int 0, .int 0, .int 0, .int 0, .int 0, .int 0, .int 0, .int 0, .int 0, .int (-1), .int 0, .ref h7, .ref h8, .ref h9, .ref h10, .ref h11, .int 0, .int 0, .ref h12, .ref h0, .ref h1, .int (-1), .int (-1), .ref h13, .ref h14, .ref h15, .ref h16, .ref h17, .int 0, .ref h18, .ref h19, .ref h20]))] _ _ := hw16
  refine lv_iinc (v := 7) (lv' := [(2, .int 7), (0, .ref h2), (1, .int 0)]) hx hb dX12_laysPairs_25 hv15 (k := 0) rfl (by decide +kernel) (by decide) rfl (fun lz17 hv17 => ?_)
  clear lz15 hv15
  refine lv_goto (tgt := 12) hx hb dX12_laysPairs_28 (by decide) ?_
  refine lv_iload_n hx hb dX12_laysPairs_12 rfl (lv_at hv17 0 rfl) ?_
  refine lv_bipush (v := 10) hx hb dX12_laysPairs_13 (by decide) ?_
  refine lv_icmp_ge (tgt := 31) hx hb dX12_laysPairs_15 (by decide) (fun c => absurd c (by decide +kernel)) (fun _ => ?_)
  refine lv_aload_n hx hb dX12_laysPairs_18 rfl (lv_at hv17 1 rfl) ?_
  refine q_get X hK hw16 2 rfl rfl wf_12 24 (by decide) rfl wm_5_194 dX12_laysPairs_19 ?_
  refine lv_iload_n hx hb dX12_laysPairs_22 rfl (lv_at hv17 0 rfl) ?_
  refine lv_iconst (v := (-1)) hx hb dX12_laysPairs_23 (by decide) ?_
  refine q_iast X hK hw16 0 rfl (q_in (by decide +kernel)) dX12_laysPairs_24 (fun Hp18 lc18 hw18 => ?_)
  clear Hp16 lc16 hw16
  replace hw18 : qW D _ _ [(h0, .inl (cy 1, 10, .inl (upd (upd (upd (upd (upd (upd (upd (upd f2 (Int32.toNatClampNeg 0) (-1)) (Int32.toNatClampNeg 1) (-1)) (Int32.toNatClampNeg 2) (-1)) (Int32.toNatClampNeg 3) (-1)) (Int32.toNatClampNeg 4) (-1)) (Int32.toNatClampNeg 5) (-1)) (Int32.toNatClampNeg 6) (-1)) (Int32.toNatClampNeg 7) (-1)))), (h1, .inl (cy 1, 10, .inl f0)), (h2, .inr (12, [.int 0, .ref h3, .ref h4, .ref h5, .ref h6, .int 0, .int 0, .int 0, .int 0, .int 0, .int 0, .int 0, .int 0, .int 0, .int (-1), .int 0, .ref h7, .ref h8, .ref h9, .ref h10, .ref h11, .int 0, .int 0, .ref h12, .ref h0, .ref h1, .int (-1), .int (-1), .ref h13, .ref h14, .ref h15, .ref h16, .ref h17, .int 0, .ref h18, .ref h19, .ref h20]))] _ _ := hw18
  refine lv_iinc (v := 8) (lv' := [(2, .int 8), (0, .ref h2), (1, .int 0)]) hx hb dX12_laysPairs_25 hv17 (k := 0) rfl (by decide +kernel) (by decide) rfl (fun lz19 hv19 => ?_)
  clear lz17 hv17
  refine lv_goto (tgt := 12) hx hb dX12_laysPairs_28 (by decide) ?_
  refine lv_iload_n hx hb dX12_laysPairs_12 rfl (lv_at hv19 0 rfl) ?_
  refine lv_bipush (v := 10) hx hb dX12_laysPairs_13 (by decide) ?_
  refine lv_icmp_ge (tgt := 31) hx hb dX12_laysPairs_15 (by decide) (fun c => absurd c (by decide +kernel)) (fun _ => ?_)
  refine lv_aload_n hx hb dX12_laysPairs_18 rfl (lv_at hv19 1 rfl) ?_
  refine q_get X hK hw18 2 rfl rfl wf_12 24 (by decide) rfl wm_5_194 dX12_laysPairs_19 ?_
  refine lv_iload_n hx hb dX12_laysPairs_22 rfl (lv_at hv19 0 rfl) ?_
  refine lv_iconst (v := (-1)) hx hb dX12_laysPairs_23 (by decide) ?_
  refine q_iast X hK hw18 0 rfl (q_in (by decide +kernel)) dX12_laysPairs_24 (fun Hp20 lc20 hw20 => ?_)
  clear Hp18 lc18 hw18
  replace hw20 : qW D _ _ [(h0, .inl (cy 1, 10, .inl (upd (upd (upd (upd (upd (upd (upd (upd (upd f2 (Int32.toNatClampNeg 0) (-1)) (Int32.toNatClampNeg 1) (-1)) (Int32.toNatClampNeg 2) (-1)) (Int32.toNatClampNeg 3) (-1)) (Int32.toNatClampNeg 4) (-1)) (Int32.toNatClampNeg 5) (-1)) (Int32.toNatClampNeg 6) (-1)) (Int32.toNatClampNeg 7) (-1)) (Int32.toNatClampNeg 8) (-1)))), (h1, .inl (cy 1, 10, .inl f0)), (h2, .inr (12, [.int 0, .ref h3, .ref h4, .ref h5, .ref h6, .int 0, .int 0, .int 0, .int 0, .int 0, .int 0, .int 0, .int 0, .int 0, .int (-1), .int 0, .ref h7, .ref h8, .ref h9, .ref h10, .ref h11, .int 0, .int 0, .ref h12, .ref h0, .ref h1, .int (-1), .int (-1), .ref h13, .ref h14, .ref h15, .ref h16, .ref h17, .int 0, .ref h18, .ref h19, .ref h20]))] _ _ := hw20
  refine lv_iinc (v := 9) (lv' := [(2, .int 9), (0, .ref h2), (1, .int 0)]) hx hb dX12_laysPairs_25 hv19 (k := 0) rfl (by decide +kernel) (by decide) rfl (fun lz21 hv21 => ?_)
  clear lz19 hv19
  refine lv_goto (tgt := 12) hx hb dX12_laysPairs_28 (by decide) ?_
  refine lv_iload_n hx hb dX12_laysPairs_12 rfl (lv_at hv21 0 rfl) ?_
  refine lv_bipush (v := 10) hx hb dX12_laysPairs_13 (by decide) ?_
  refine lv_icmp_ge (tgt := 31) hx hb dX12_laysPairs_15 (by decide) (fun c => absurd c (by decide +kernel)) (fun _ => ?_)
  refine lv_aload_n hx hb dX12_laysPairs_18 rfl (lv_at hv21 1 rfl) ?_
  refine q_get X hK hw20 2 rfl rfl wf_12 24 (by decide) rfl wm_5_194 dX12_laysPairs_19 ?_
  refine lv_iload_n hx hb dX12_laysPairs_22 rfl (lv_at hv21 0 rfl) ?_
  refine lv_iconst (v := (-1)) hx hb dX12_laysPairs_23 (by decide) ?_
  refine q_iast X hK hw20 0 rfl (q_in (by decide +kernel)) dX12_laysPairs_24 (fun Hp22 lc22 hw22 => ?_)
  clear Hp20 lc20 hw20
  replace hw22 : qW D _ _ [(h0, .inl (cy 1, 10, .inl (upd (upd (upd (upd (upd (upd (upd (upd (upd (upd f2 (Int32.toNatClampNeg 0) (-1)) (Int32.toNatClampNeg 1) (-1)) (Int32.toNatClampNeg 2) (-1)) (Int32.toNatClampNeg 3) (-1)) (Int32.toNatClampNeg 4) (-1)) (Int32.toNatClampNeg 5) (-1)) (Int32.toNatClampNeg 6) (-1)) (Int32.toNatClampNeg 7) (-1)) (Int32.toNatClampNeg 8) (-1)) (Int32.toNatClampNeg 9) (-1)))), (h1, .inl (cy 1, 10, .inl f0)), (h2, .inr (12, [.int 0, .ref h3, .ref h4, .ref h5, .ref h6, .int 0, .int 0, .int 0, .int 0, .int 0, .int 0, .int 0, .int 0, .int 0, .int (-1), .int 0, .ref h7, .ref h8, .ref h9, .ref h10, .ref h11, .int 0, .int 0, .ref h12, .ref h0, .ref h1, .int (-1), .int (-1), .ref h13, .ref h14, .ref h15, .ref h16, .ref h17, .int 0, .ref h18, .ref h19, .ref h20]))] _ _ := hw22
  refine lv_iinc (v := 10) (lv' := [(2, .int 10), (0, .ref h2), (1, .int 0)]) hx hb dX12_laysPairs_25 hv21 (k := 0) rfl (by decide +kernel) (by decide) rfl (fun lz23 hv23 => ?_)
  clear lz21 hv21
  refine lv_goto (tgt := 12) hx hb dX12_laysPairs_28 (by decide) ?_
  refine lv_iload_n hx hb dX12_laysPairs_12 rfl (lv_at hv23 0 rfl) ?_
  refine lv_bipush (v := 10) hx hb dX12_laysPairs_13 (by decide) ?_
  refine lv_icmp_ge (tgt := 31) hx hb dX12_laysPairs_15 (by decide) (fun _ => ?_) (fun c => absurd c (by decide +kernel))
  refine lv_aload_n hx hb dX12_laysPairs_31 rfl (lv_at hv23 1 rfl) ?_
  refine lv_iload_n hx hb dX12_laysPairs_32 rfl (lv_at hv23 2 rfl) ?_
  refine lv_iconst (v := 0) hx hb dX12_laysPairs_33 (by decide) ?_
  refine lv_iconst (v := 0) hx hb dX12_laysPairs_34 (by decide) ?_
  refine q_callVv (rest := []) (wr := []) X hK hA hw22 (fun sz => kX12_goesPairs_293 l D cy h0 h1 h2 f0 h3 h4 h5 h6 h7 h8 h9 h10 h11 h12 h13 h14 h15 h16 h17 h18 h19 h20 (upd (upd (upd (upd (upd (upd (upd (upd (upd (upd f2 (Int32.toNatClampNeg 0) (-1)) (Int32.toNatClampNeg 1) (-1)) (Int32.toNatClampNeg 2) (-1)) (Int32.toNatClampNeg 3) (-1)) (Int32.toNatClampNeg 4) (-1)) (Int32.toNatClampNeg 5) (-1)) (Int32.toNatClampNeg 6) (-1)) (Int32.toNatClampNeg 7) (-1)) (Int32.toNatClampNeg 8) (-1)) (Int32.toNatClampNeg 9) (-1)) (q_un (by decide +kernel) (q_un (by decide +kernel) (q_un (by decide +kernel) (q_un (by decide +kernel) (q_un (by decide +kernel) (q_un (by decide +kernel) (q_un (by decide +kernel) (q_un (by decide +kernel) (q_un (by decide +kernel) q_ue))))))))) (q_un (by decide +kernel) (q_un (by decide +kernel) (q_un (by decide +kernel) (q_un (by decide +kernel) (q_un (by decide +kernel) (q_un (by decide +kernel) (q_un (by decide +kernel) (q_un (by decide +kernel) q_ue)))))))) (q_un (by decide +kernel) (q_un (by decide +kernel) (q_un (by decide +kernel) (q_un (by decide +kernel) (q_un (by decide +kernel) (q_un (by decide +kernel) (q_un (by decide +kernel) q_ue))))))) (q_un (by decide +kernel) (q_un (by decide +kernel) (q_un (by decide +kernel) (q_un (by decide +kernel) (q_un (by decide +kernel) (q_un (by decide +kernel) q_ue)))))) (q_un (by decide +kernel) (q_un (by decide +kernel) (q_un (by decide +kernel) (q_un (by decide +kernel) (q_un (by decide +kernel) q_ue))))) (q_un (by decide +kernel) (q_un (by decide +kernel) (q_un (by decide +kernel) (q_un (by decide +kernel) q_ue)))) (q_un (by decide +kernel) (q_un (by decide +kernel) (q_un (by decide +kernel) q_ue))) (q_un (by decide +kernel) (q_un (by decide +kernel) q_ue)) (q_un (by decide +kernel) q_ue) q_ue sz) wm_7_116 wm_7_119 wm_1_12 hd_X12_goesPairs wm_7_118 wp_7_4 (ci := 12) (q0 := 2) rfl rfl ⟨Nat.le_of_ble_eq_true rfl, Nat.le_of_ble_eq_true rfl⟩ hv23.1 rfl (Nat.le_of_ble_eq_true rfl) dX12_laysPairs_35 ⟨Nat.le_of_ble_eq_true rfl, Nat.le_of_ble_eq_true rfl⟩ [0, 1, 2] [] rfl rfl (by decide) rfl rfl (fun u_4652 Hp24 lc24 w_4652 hw24 => ?_)
  clear Hp22 lc22 hw22
  replace hw24 : qW D _ _ [(h0, .inl (cy 1, 10, .inl (upd (upd (upd (upd (upd (upd (upd (upd (upd (upd f2 (Int32.toNatClampNeg 0) (-1)) (Int32.toNatClampNeg 1) (-1)) (Int32.toNatClampNeg 2) (-1)) (Int32.toNatClampNeg 3) (-1)) (Int32.toNatClampNeg 4) (-1)) (Int32.toNatClampNeg 5) (-1)) (Int32.toNatClampNeg 6) (-1)) (Int32.toNatClampNeg 7) (-1)) (Int32.toNatClampNeg 8) (-1)) (Int32.toNatClampNeg 9) (-1)))), (h1, .inl (cy 1, 10, .inl (u_4652.2.1 0))), (h2, .inr (12, [.int 0, .ref h3, .ref h4, .ref h5, .ref h6, .int 0, .int 0, .int 0, .int 0, .int 0, .int 0, .int 0, .int 0, .int 0, .int (-1), .int 0, .ref h7, .ref h8, .ref h9, .ref h10, .ref h11, .int 0, .int 0, .ref h12, .ref h0, .ref h1, .int 0, .int 0, .ref h13, .ref h14, .ref h15, .ref h16, .ref h17, .int 0, .ref h18, .ref h19, .ref h20]))] _ _ := hw24
  exact q_vret X hr hlk hK hw24 (fun _ => 0, fun k => List.getD [(upd (upd (upd (upd (upd (upd (upd (upd (upd (upd f2 (Int32.toNatClampNeg 0) (-1)) (Int32.toNatClampNeg 1) (-1)) (Int32.toNatClampNeg 2) (-1)) (Int32.toNatClampNeg 3) (-1)) (Int32.toNatClampNeg 4) (-1)) (Int32.toNatClampNeg 5) (-1)) (Int32.toNatClampNeg 6) (-1)) (Int32.toNatClampNeg 7) (-1)) (Int32.toNatClampNeg 8) (-1)) (Int32.toNatClampNeg 9) (-1)), (u_4652.2.1 0)] k (fun _ => 0), fun _ _ => 0) trivial [0, 1, 2] rfl rfl dX12_laysPairs_38 (Nat.le_of_ble_eq_true rfl) (Nat.le_of_ble_eq_true rfl)
set_option maxHeartbeats 4000000 in
set_option maxRecDepth 100000 in
theorem kX12_laysOpposed_295 (l : Launch) (D : va_G) (cy : Nat → ClassId) (h0 : Nat) (h1 : Nat) (p0 : Int32) (h2 : Nat) (h3 : Nat) (h4 : Nat) (h5 : Nat) (h6 : Nat) (h7 : Nat) (h8 : Nat) (h9 : Nat) (h10 : Nat) (h11 : Nat) (h12 : Nat) (h13 : Nat) (h14 : Nat) (h15 : Nat) (h16 : Nat) (h17 : Nat) (h18 : Nat) (h19 : Nat) (h20 : Nat) (f1 : Nat → Int32) (hf_f1_2 : f1 (Int32.toNatClampNeg 2) = 0) (sz : Nat) : MV l yX12_laysOpposed cX12_laysOpposed 4 { frames := 0, cells := 0, slots := 0, locals := 0 } [.ref h1, .int p0] D cy [(h0, .inl (cy 1, 3918, .inl f1)), (h1, .inr (12, [.int 0, .ref h0, .ref h2, .ref h3, .ref h4, .int 0, .int 0, .int 0, .int 0, .int 0, .int 0, .int 0, .int 0, .int 0, .int (-1), .int 0, .ref h5, .ref h6, .ref h7, .ref h8, .ref h9, .int 0, .int 0, .ref h10, .ref h11, .ref h12, .int 0, .int 0, .ref h13, .ref h14, .ref h15, .ref h16, .ref h17, .int 0, .ref h18, .ref h19, .ref h20]))] sz (fun _ => True) (fun u => [(h0, .inl (cy 1, 3918, .inl f1)), (h1, .inr (12, [.int 0, .ref h0, .ref h2, .ref h3, .ref h4, .int 0, .int 0, .int 0, .int 0, .int 0, .int 0, .int 0, .int 0, .int 0, .int (-1), .int 0, .ref h5, .ref h6, .ref h7, .ref h8, .ref h9, .int 0, .int 0, .ref h10, .ref h11, .ref h12, .int 0, .int 0, .ref h13, .ref h14, .ref h15, .ref h16, .ref h17, .int 0, .ref h18, .ref h19, .ref h20]))]) 0 0 := by
  refine q_ent (own := RX12) (by decide) rfl (Nat.le_of_ble_eq_true rfl) (fun p e s m below meth c ls X hr hlk hnm hK h hA hl => ?_)
  obtain ⟨hx, hb, hml, hown, ht⟩ := id X
  replace hl : lv_has ls 4 [(0, .ref h1), (1, .int p0)] := hl
  refine lv_iconst (v := 0) hx hb dX12_laysOpposed_0 (by decide) ?_
  refine lv_istore_n (lv' := [(2, .int 0), (0, .ref h1), (1, .int p0)]) hx hb dX12_laysOpposed_1 rfl hl (by decide) rfl (fun lz1 hv1 => ?_)
  clear ls hl
  refine lv_iload_n hx hb dX12_laysOpposed_2 rfl (lv_at hv1 0 rfl) ?_
  refine lv_aload_n hx hb dX12_laysOpposed_3 rfl (lv_at hv1 1 rfl) ?_
  refine q_get X hK h 1 rfl rfl wf_12 1 (by decide) rfl wm_5_171 dX12_laysOpposed_4 ?_
  refine lv_iconst (v := 2) hx hb dX12_laysOpposed_7 (by decide) ?_
  refine q_iald X hK h 0 rfl (q_in (by decide +kernel)) dX12_laysOpposed_8 ?_
  refine q_c 0 (hf_f1_2) ?_
  refine lv_icmp_ge (tgt := 25) hx hb dX12_laysOpposed_9 (by decide) (fun _ => ?_) (fun c => absurd c (by decide +kernel))
  refine lv_iconst (v := 0) hx hb dX12_laysOpposed_25 (by decide) ?_
  refine lv_istore_n (lv' := [(2, .int 0), (0, .ref h1), (1, .int p0)]) hx hb dX12_laysOpposed_26 rfl hv1 (by decide) rfl (fun lz2 hv2 => ?_)
  clear lz1 hv1
  refine lv_iload_n hx hb dX12_laysOpposed_27 rfl (lv_at hv2 0 rfl) ?_
  refine lv_aload_n hx hb dX12_laysOpposed_28 rfl (lv_at hv2 1 rfl) ?_
  refine q_get X hK h 1 rfl rfl wf_12 1 (by decide) rfl wm_5_171 dX12_laysOpposed_29 ?_
  refine lv_iconst (v := 2) hx hb dX12_laysOpposed_32 (by decide) ?_
  refine q_iald X hK h 0 rfl (q_in (by decide +kernel)) dX12_laysOpposed_33 ?_
  refine q_c 0 (hf_f1_2) ?_
  refine lv_icmp_ge (tgt := 93) hx hb dX12_laysOpposed_34 (by decide) (fun _ => ?_) (fun c => absurd c (by decide +kernel))
  exact q_vret X hr hlk hK h (fun _ => 0, fun _ _ => 0, fun _ _ => 0) trivial [0, 1] rfl rfl dX12_laysOpposed_93 (Nat.le_of_ble_eq_true rfl) (Nat.le_of_ble_eq_true rfl)
set_option maxHeartbeats 4000000 in
set_option maxRecDepth 100000 in
theorem kX12_townOn_296 (l : Launch) (D : va_G) (cy : Nat → ClassId) (h0 : Nat) (h1 : Nat) (p0 : Int32) (h2 : Nat) (h3 : Nat) (h4 : Nat) (h5 : Nat) (h6 : Nat) (h7 : Nat) (h8 : Nat) (h9 : Nat) (h10 : Nat) (h11 : Nat) (h12 : Nat) (h13 : Nat) (h14 : Nat) (h15 : Nat) (h16 : Nat) (h17 : Nat) (h18 : Nat) (h19 : Nat) (h20 : Nat) (f1 : Nat → Int32) (hf_f1_2 : f1 (Int32.toNatClampNeg 2) = 0) (hf_f1_53 : f1 (Int32.toNatClampNeg 53) = 0) (sz : Nat) : MI l yX12_townOn cX12_townOn 4 .int { frames := 0, cells := 0, slots := 0, locals := 0 } [.ref h1, .int p0] D cy [(h0, .inl (cy 1, 3918, .inl f1)), (h1, .inr (12, [.int 0, .ref h0, .ref h2, .ref h3, .ref h4, .int 0, .int 0, .int 0, .int 0, .int 0, .int 0, .int 0, .int 0, .int 0, .int (-1), .int 0, .ref h5, .ref h6, .ref h7, .ref h8, .ref h9, .int 0, .int 0, .ref h10, .ref h11, .ref h12, .int 0, .int 0, .ref h13, .ref h14, .ref h15, .ref h16, .ref h17, .int 0, .ref h18, .ref h19, .ref h20]))] sz (fun r u => r = 0) (fun u => [(h0, .inl (cy 1, 3918, .inl f1)), (h1, .inr (12, [.int 0, .ref h0, .ref h2, .ref h3, .ref h4, .int 0, .int 0, .int 0, .int 0, .int 0, .int 0, .int 0, .int 0, .int 0, .int (-1), .int 0, .ref h5, .ref h6, .ref h7, .ref h8, .ref h9, .int 0, .int 0, .ref h10, .ref h11, .ref h12, .int 0, .int 0, .ref h13, .ref h14, .ref h15, .ref h16, .ref h17, .int 0, .ref h18, .ref h19, .ref h20]))]) 0 0 := by
  refine q_ent (own := RX12) (by decide) rfl (Nat.le_of_ble_eq_true rfl) (fun p e s m below meth c ls X hr hlk hnm hK h hA hl => ?_)
  obtain ⟨hx, hb, hml, hown, ht⟩ := id X
  replace hl : lv_has ls 4 [(0, .ref h1), (1, .int p0)] := hl
  refine lv_iconst (v := 0) hx hb dX12_townOn_0 (by decide) ?_
  refine lv_istore_n (lv' := [(2, .int 0), (0, .ref h1), (1, .int p0)]) hx hb dX12_townOn_1 rfl hl (by decide) rfl (fun lz1 hv1 => ?_)
  clear ls hl
  refine lv_iconst (v := 0) hx hb dX12_townOn_2 (by decide) ?_
  refine lv_istore_n (lv' := [(3, .int 0), (2, .int 0), (0, .ref h1), (1, .int p0)]) hx hb dX12_townOn_3 rfl hv1 (by decide) rfl (fun lz2 hv2 => ?_)
  clear lz1 hv1
  refine lv_iload_n hx hb dX12_townOn_4 rfl (lv_at hv2 0 rfl) ?_
  refine lv_aload_n hx hb dX12_townOn_5 rfl (lv_at hv2 2 rfl) ?_
  refine q_get X hK h 1 rfl rfl wf_12 1 (by decide) rfl wm_5_171 dX12_townOn_6 ?_
  refine lv_iconst (v := 2) hx hb dX12_townOn_9 (by decide) ?_
  refine q_iald X hK h 0 rfl (q_in (by decide +kernel)) dX12_townOn_10 ?_
  refine q_c 0 (hf_f1_2) ?_
  refine lv_icmp_ge (tgt := 58) hx hb dX12_townOn_11 (by decide) (fun _ => ?_) (fun c => absurd c (by decide +kernel))
  refine lv_iload_n hx hb dX12_townOn_58 rfl (lv_at hv2 1 rfl) ?_
  refine lv_aload_n hx hb dX12_townOn_59 rfl (lv_at hv2 2 rfl) ?_
  refine q_get X hK h 1 rfl rfl wf_12 1 (by decide) rfl wm_5_171 dX12_townOn_60 ?_
  refine lv_bipush (v := 53) hx hb dX12_townOn_63 (by decide) ?_
  refine q_iald X hK h 0 rfl (q_in (by decide +kernel)) dX12_townOn_65 ?_
  refine q_c 0 (hf_f1_53) ?_
  refine lv_iconst (v := (-1)) hx hb dX12_townOn_66 (by decide) ?_
  refine lv_ixor hx hb dX12_townOn_67 ?_
  refine q_c (-1) (by decide +kernel) ?_
  refine lv_iand hx hb dX12_townOn_68 ?_
  refine q_c 0 (by decide +kernel) ?_
  exact q_iret X hr hlk hK h rfl (fun _ => 0, fun _ _ => 0, fun _ _ => 0) rfl [0, 1] rfl rfl dX12_townOn_69 (Nat.le_of_ble_eq_true rfl) (Nat.le_of_ble_eq_true rfl)
