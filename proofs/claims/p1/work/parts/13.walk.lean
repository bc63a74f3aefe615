set_option maxHeartbeats 4000000 in
set_option maxRecDepth 100000 in
theorem kX12_feed_20 (l : Launch) (D : va_G) (cy : Nat → ClassId) (h0 : Nat) (h1 : Nat) (p0 : Int32) (p1 : Int32) (p2 : Int32) (p3 : Int32) (p4 : Int32) (h2 : Nat) (h3 : Nat) (h4 : Nat) (h5 : Nat) (h6 : Nat) (h7 : Nat) (h8 : Nat) (h9 : Nat) (h10 : Nat) (h11 : Nat) (h12 : Nat) (h13 : Nat) (h14 : Nat) (h15 : Nat) (h16 : Nat) (h17 : Nat) (h18 : Nat) (h19 : Nat) (h20 : Nat) (sz : Nat) : MI l yX12_feed cX12_feed 8 .int { frames := 0, cells := 0, slots := 0, locals := 0 } [.ref h0, .int p0, .int p1, .int p2, .int p3, .int p4] D cy [(h0, .inr (12, [.int 0, .ref h2, .ref h3, .ref h1, .ref h4, .int 0, .int 0, .int 0, .int 0, .int 0, .int 0, .int 0, .int 0, .int 0, .int (-1), .int 0, .ref h5, .ref h6, .ref h7, .ref h8, .ref h9, .int 0, .int 0, .ref h10, .ref h11, .ref h12, .int 0, .int 0, .ref h13, .ref h14, .ref h15, .ref h16, .ref h17, .int 0, .ref h18, .ref h19, .ref h20])), (h1, .inl (cy 1, 900, .inl (fun _ => 0)))] sz (fun r u => r = 20) (fun u => []) 0 0 := by
  refine q_ent (own := RX12) (by decide) rfl (Nat.le_of_ble_eq_true rfl) (fun p e s m below meth c ls X hr hlk hnm hK h hA hl => ?_)
  obtain ⟨hx, hb, hml, hown, ht⟩ := id X
  replace hl : lv_has ls 8 [(0, .ref h0), (1, .int p0), (2, .int p1), (3, .int p2), (4, .int p3), (5, .int p4)] := hl
  refine lv_aload_n hx hb dX12_feed_0 rfl (lv_at hl 0 rfl) ?_
  refine lv_iconst (v := 0) hx hb dX12_feed_1 (by decide) ?_
  refine q_put (v := .int 0) X hK h 0 rfl rfl wf_12 tyX12 tyX12_ok nmX12 0 (by decide) wm_5_170 rfl rfl rfl (Nat.le_of_ble_eq_true rfl) dX12_feed_2 (fun Hp1 lc1 hw1 => ?_)
  clear h
  replace hw1 : qW D _ _ [(h0, .inr (12, [.int 0, .ref h2, .ref h3, .ref h1, .ref h4, .int 0, .int 0, .int 0, .int 0, .int 0, .int 0, .int 0, .int 0, .int 0, .int (-1), .int 0, .ref h5, .ref h6, .ref h7, .ref h8, .ref h9, .int 0, .int 0, .ref h10, .ref h11, .ref h12, .int 0, .int 0, .ref h13, .ref h14, .ref h15, .ref h16, .ref h17, .int 0, .ref h18, .ref h19, .ref h20])), (h1, .inl (cy 1, 900, .inl (fun _ => 0)))] _ _ := hw1
  refine lv_aload_n hx hb dX12_feed_5 rfl (lv_at hl 0 rfl) ?_
  refine q_get X hK hw1 0 rfl rfl wf_12 5 (by decide) rfl wm_5_175 dX12_feed_6 ?_
  refine lv_bipush (v := 20) hx hb dX12_feed_9 (by decide) ?_
  refine lv_iadd hx hb dX12_feed_11 ?_
  refine q_c 20 (by decide +kernel) ?_
  refine lv_sipush (v := 900) hx hb dX12_feed_12 (by decide) ?_
  refine lv_icmp_le (tgt := 21) hx hb dX12_feed_15 (by decide) (fun _ => ?_) (fun c => absurd c (by decide +kernel))
  refine lv_iconst (v := 0) hx hb dX12_feed_21 (by decide) ?_
  refine lv_istore (lv' := [(6, .int 0), (0, .ref h0), (1, .int p0), (2, .int p1), (3, .int p2), (4, .int p3), (5, .int p4)]) hx hb dX12_feed_22 hl (by decide) rfl (fun lz2 hv2 => ?_)
  clear ls hl
  refine lv_iload hx hb dX12_feed_24 (lv_at hv2 0 rfl) ?_
  refine lv_bipush (v := 20) hx hb dX12_feed_26 (by decide) ?_
  refine lv_icmp_ge (tgt := 121) hx hb dX12_feed_28 (by decide) (fun c => absurd c (by decide +kernel)) (fun _ => ?_)
  refine lv_iload hx hb dX12_feed_31 (lv_at hv2 0 rfl) ?_
  refine lv_iconst (v := 4) hx hb dX12_feed_33 (by decide) ?_
  refine lv_icmp_ge (tgt := 41) hx hb dX12_feed_34 (by decide) (fun c => absurd c (by decide +kernel)) (fun _ => ?_)
  refine lv_iload_n hx hb dX12_feed_37 rfl (lv_at hv2 2 rfl) ?_
  refine lv_goto (tgt := 77) hx hb dX12_feed_38 (by decide) ?_
  refine lv_istore (lv' := [(7, .int p0), (6, .int 0), (0, .ref h0), (1, .int p0), (2, .int p1), (3, .int p2), (4, .int p3), (5, .int p4)]) hx hb dX12_feed_77 hv2 (by decide) rfl (fun lz3 hv3 => ?_)
  clear lz2 hv2
  refine lv_aload_n hx hb dX12_feed_79 rfl (lv_at hv3 2 rfl) ?_
  refine q_get X hK hw1 0 rfl rfl wf_12 3 (by decide) rfl wm_5_173 dX12_feed_80 ?_
  refine lv_aload_n hx hb dX12_feed_83 rfl (lv_at hv3 2 rfl) ?_
  refine q_get X hK hw1 0 rfl rfl wf_12 5 (by decide) rfl wm_5_175 dX12_feed_84 ?_
  refine lv_iload hx hb dX12_feed_87 (lv_at hv3 0 rfl) ?_
  refine lv_bipush (v := 24) hx hb dX12_feed_89 (by decide) ?_
  refine lv_bipush (v := 8) hx hb dX12_feed_91 (by decide) ?_
  refine lv_iload hx hb dX12_feed_93 (lv_at hv3 1 rfl) ?_
  refine lv_iconst (v := 4) hx hb dX12_feed_95 (by decide) ?_
  refine lv_irem hx hb dX12_feed_96 (by decide) ?_
  refine q_c 0 (by decide +kernel) ?_
  refine lv_imul hx hb dX12_feed_97 ?_
  refine q_c 0 (by decide +kernel) ?_
  refine lv_isub hx hb dX12_feed_98 ?_
  refine q_c 24 (by decide +kernel) ?_
  refine lv_ishr hx hb dX12_feed_99 ?_
  refine lv_sipush (v := 255) hx hb dX12_feed_100 (by decide) ?_
  refine lv_iand hx hb dX12_feed_103 ?_
  refine q_iast X hK hw1 1 rfl (q_in (by decide +kernel)) dX12_feed_104 (fun Hp4 lc4 hw4 => ?_)
  clear Hp1 lc1 hw1
  replace hw4 : qW D _ _ [(h0, .inr (12, [.int 0, .ref h2, .ref h3, .ref h1, .ref h4, .int 0, .int 0, .int 0, .int 0, .int 0, .int 0, .int 0, .int 0, .int 0, .int (-1), .int 0, .ref h5, .ref h6, .ref h7, .ref h8, .ref h9, .int 0, .int 0, .ref h10, .ref h11, .ref h12, .int 0, .int 0, .ref h13, .ref h14, .ref h15, .ref h16, .ref h17, .int 0, .ref h18, .ref h19, .ref h20])), (h1, .inl (cy 1, 900, .inl (upd (fun _ => 0) (Int32.toNatClampNeg 0) ((p0 >>> (24 &&& 31)) &&& 255))))] _ _ := hw4
  generalize (upd (fun _ => 0) (Int32.toNatClampNeg 0) ((p0 >>> (24 &&& 31)) &&& 255)) = f_810 at hw4
  refine lv_aload_n hx hb dX12_feed_105 rfl (lv_at hv3 2 rfl) ?_
  refine lv_dup hx hb dX12_feed_106 rfl ?_
  refine q_get X hK hw4 0 rfl rfl wf_12 5 (by decide) rfl wm_5_175 dX12_feed_107 ?_
  refine lv_iconst (v := 1) hx hb dX12_feed_110 (by decide) ?_
  refine lv_iadd hx hb dX12_feed_111 ?_
  refine q_c 1 (by decide +kernel) ?_
  refine q_put (v := .int 1) X hK hw4 0 rfl rfl wf_12 tyX12 tyX12_ok nmX12 5 (by decide) wm_5_175 rfl rfl rfl (Nat.le_of_ble_eq_true rfl) dX12_feed_112 (fun Hp5 lc5 hw5 => ?_)
  clear Hp4 lc4 hw4
  replace hw5 : qW D _ _ [(h0, .inr (12, [.int 0, .ref h2, .ref h3, .ref h1, .ref h4, .int 1, .int 0, .int 0, .int 0, .int 0, .int 0, .int 0, .int 0, .int 0, .int (-1), .int 0, .ref h5, .ref h6, .ref h7, .ref h8, .ref h9, .int 0, .int 0, .ref h10, .ref h11, .ref h12, .int 0, .int 0, .ref h13, .ref h14, .ref h15, .ref h16, .ref h17, .int 0, .ref h18, .ref h19, .ref h20])), (h1, .inl (cy 1, 900, .inl f_810))] _ _ := hw5
  refine lv_iinc (v := 1) (lv' := [(6, .int 1), (7, .int p0), (0, .ref h0), (1, .int p0), (2, .int p1), (3, .int p2), (4, .int p3), (5, .int p4)]) hx hb dX12_feed_115 hv3 (k := 1) rfl (by decide +kernel) (by decide) rfl (fun lz6 hv6 => ?_)
  clear lz3 hv3
  refine lv_goto (tgt := 24) hx hb dX12_feed_118 (by decide) ?_
  refine lv_iload hx hb dX12_feed_24 (lv_at hv6 0 rfl) ?_
  refine lv_bipush (v := 20) hx hb dX12_feed_26 (by decide) ?_
  refine lv_icmp_ge (tgt := 121) hx hb dX12_feed_28 (by decide) (fun c => absurd c (by decide +kernel)) (fun _ => ?_)
  refine lv_iload hx hb dX12_feed_31 (lv_at hv6 0 rfl) ?_
  refine lv_iconst (v := 4) hx hb dX12_feed_33 (by decide) ?_
  refine lv_icmp_ge (tgt := 41) hx hb dX12_feed_34 (by decide) (fun c => absurd c (by decide +kernel)) (fun _ => ?_)
  refine lv_iload_n hx hb dX12_feed_37 rfl (lv_at hv6 3 rfl) ?_
  refine lv_goto (tgt := 77) hx hb dX12_feed_38 (by decide) ?_
  refine lv_istore (lv' := [(7, .int p0), (6, .int 1), (0, .ref h0), (1, .int p0), (2, .int p1), (3, .int p2), (4, .int p3), (5, .int p4)]) hx hb dX12_feed_77 hv6 (by decide) rfl (fun lz7 hv7 => ?_)
  clear lz6 hv6
  refine lv_aload_n hx hb dX12_feed_79 rfl (lv_at hv7 2 rfl) ?_
  refine q_get X hK hw5 0 rfl rfl wf_12 3 (by decide) rfl wm_5_173 dX12_feed_80 ?_
  refine lv_aload_n hx hb dX12_feed_83 rfl (lv_at hv7 2 rfl) ?_
  refine q_get X hK hw5 0 rfl rfl wf_12 5 (by decide) rfl wm_5_175 dX12_feed_84 ?_
  refine lv_iload hx hb dX12_feed_87 (lv_at hv7 0 rfl) ?_
  refine lv_bipush (v := 24) hx hb dX12_feed_89 (by decide) ?_
  refine lv_bipush (v := 8) hx hb dX12_feed_91 (by decide) ?_
  refine lv_iload hx hb dX12_feed_93 (lv_at hv7 1 rfl) ?_
  refine lv_iconst (v := 4) hx hb dX12_feed_95 (by decide) ?_
  refine lv_irem hx hb dX12_feed_96 (by decide) ?_
  refine q_c 1 (by decide +kernel) ?_
  refine lv_imul hx hb dX12_feed_97 ?_
  refine q_c 8 (by decide +kernel) ?_
  refine lv_isub hx hb dX12_feed_98 ?_
  refine q_c 16 (by decide +kernel) ?_
  refine lv_ishr hx hb dX12_feed_99 ?_
  refine lv_sipush (v := 255) hx hb dX12_feed_100 (by decide) ?_
  refine lv_iand hx hb dX12_feed_103 ?_
  refine q_iast X hK hw5 1 rfl (q_in (by decide +kernel)) dX12_feed_104 (fun Hp8 lc8 hw8 => ?_)
  clear Hp5 lc5 hw5
  replace hw8 : qW D _ _ [(h0, .inr (12, [.int 0, .ref h2, .ref h3, .ref h1, .ref h4, .int 1, .int 0, .int 0, .int 0, .int 0, .int 0, .int 0, .int 0, .int 0, .int (-1), .int 0, .ref h5, .ref h6, .ref h7, .ref h8, .ref h9, .int 0, .int 0, .ref h10, .ref h11, .ref h12, .int 0, .int 0, .ref h13, .ref h14, .ref h15, .ref h16, .ref h17, .int 0, .ref h18, .ref h19, .ref h20])), (h1, .inl (cy 1, 900, .inl (upd f_810 (Int32.toNatClampNeg 1) ((p0 >>> (16 &&& 31)) &&& 255))))] _ _ := hw8
  generalize (upd f_810 (Int32.toNatClampNeg 1) ((p0 >>> (16 &&& 31)) &&& 255)) = f_811 at hw8
  refine lv_aload_n hx hb dX12_feed_105 rfl (lv_at hv7 2 rfl) ?_
  refine lv_dup hx hb dX12_feed_106 rfl ?_
  refine q_get X hK hw8 0 rfl rfl wf_12 5 (by decide) rfl wm_5_175 dX12_feed_107 ?_
  refine lv_iconst (v := 1) hx hb dX12_feed_110 (by decide) ?_
  refine lv_iadd hx hb dX12_feed_111 ?_
  refine q_c 2 (by decide +kernel) ?_
  refine q_put (v := .int 2) X hK hw8 0 rfl rfl wf_12 tyX12 tyX12_ok nmX12 5 (by decide) wm_5_175 rfl rfl rfl (Nat.le_of_ble_eq_true rfl) dX12_feed_112 (fun Hp9 lc9 hw9 => ?_)
  clear Hp8 lc8 hw8
  replace hw9 : qW D _ _ [(h0, .inr (12, [.int 0, .ref h2, .ref h3, .ref h1, .ref h4, .int 2, .int 0, .int 0, .int 0, .int 0, .int 0, .int 0, .int 0, .int 0, .int (-1), .int 0, .ref h5, .ref h6, .ref h7, .ref h8, .ref h9, .int 0, .int 0, .ref h10, .ref h11, .ref h12, .int 0, .int 0, .ref h13, .ref h14, .ref h15, .ref h16, .ref h17, .int 0, .ref h18, .ref h19, .ref h20])), (h1, .inl (cy 1, 900, .inl f_811))] _ _ := hw9
  refine lv_iinc (v := 2) (lv' := [(6, .int 2), (7, .int p0), (0, .ref h0), (1, .int p0), (2, .int p1), (3, .int p2), (4, .int p3), (5, .int p4)]) hx hb dX12_feed_115 hv7 (k := 1) rfl (by decide +kernel) (by decide) rfl (fun lz10 hv10 => ?_)
  clear lz7 hv7
  refine lv_goto (tgt := 24) hx hb dX12_feed_118 (by decide) ?_
  refine lv_iload hx hb dX12_feed_24 (lv_at hv10 0 rfl) ?_
  refine lv_bipush (v := 20) hx hb dX12_feed_26 (by decide) ?_
  refine lv_icmp_ge (tgt := 121) hx hb dX12_feed_28 (by decide) (fun c => absurd c (by decide +kernel)) (fun _ => ?_)
  refine lv_iload hx hb dX12_feed_31 (lv_at hv10 0 rfl) ?_
  refine lv_iconst (v := 4) hx hb dX12_feed_33 (by decide) ?_
  refine lv_icmp_ge (tgt := 41) hx hb dX12_feed_34 (by decide) (fun c => absurd c (by decide +kernel)) (fun _ => ?_)
  refine lv_iload_n hx hb dX12_feed_37 rfl (lv_at hv10 3 rfl) ?_
  refine lv_goto (tgt := 77) hx hb dX12_feed_38 (by decide) ?_
  refine lv_istore (lv' := [(7, .int p0), (6, .int 2), (0, .ref h0), (1, .int p0), (2, .int p1), (3, .int p2), (4, .int p3), (5, .int p4)]) hx hb dX12_feed_77 hv10 (by decide) rfl (fun lz11 hv11 => ?_)
  clear lz10 hv10
  refine lv_aload_n hx hb dX12_feed_79 rfl (lv_at hv11 2 rfl) ?_
  refine q_get X hK hw9 0 rfl rfl wf_12 3 (by decide) rfl wm_5_173 dX12_feed_80 ?_
  refine lv_aload_n hx hb dX12_feed_83 rfl (lv_at hv11 2 rfl) ?_
  refine q_get X hK hw9 0 rfl rfl wf_12 5 (by decide) rfl wm_5_175 dX12_feed_84 ?_
  refine lv_iload hx hb dX12_feed_87 (lv_at hv11 0 rfl) ?_
  refine lv_bipush (v := 24) hx hb dX12_feed_89 (by decide) ?_
  refine lv_bipush (v := 8) hx hb dX12_feed_91 (by decide) ?_
  refine lv_iload hx hb dX12_feed_93 (lv_at hv11 1 rfl) ?_
  refine lv_iconst (v := 4) hx hb dX12_feed_95 (by decide) ?_
  refine lv_irem hx hb dX12_feed_96 (by decide) ?_
  refine q_c 2 (by decide +kernel) ?_
  refine lv_imul hx hb dX12_feed_97 ?_
  refine q_c 16 (by decide +kernel) ?_
  refine lv_isub hx hb dX12_feed_98 ?_
  refine q_c 8 (by decide +kernel) ?_
  refine lv_ishr hx hb dX12_feed_99 ?_
  refine lv_sipush (v := 255) hx hb dX12_feed_100 (by decide) ?_
  refine lv_iand hx hb dX12_feed_103 ?_
  refine q_iast X hK hw9 1 rfl (q_in (by decide +kernel)) dX12_feed_104 (fun Hp12 lc12 hw12 => ?_)
  clear Hp9 lc9 hw9
  replace hw12 : qW D _ _ [(h0, .inr (12, [.int 0, .ref h2, .ref h3, .ref h1, .ref h4, .int 2, .int 0, .int 0, .int 0, .int 0, .int 0, .int 0, .int 0, .int 0, .int (-1), .int 0, .ref h5, .ref h6, .ref h7, .ref h8, .ref h9, .int 0, .int 0, .ref h10, .ref h11, .ref h12, .int 0, .int 0, .ref h13, .ref h14, .ref h15, .ref h16, .ref h17, .int 0, .ref h18, .ref h19, .ref h20])), (h1, .inl (cy 1, 900, .inl (upd f_811 (Int32.toNatClampNeg 2) ((p0 >>> (8 &&& 31)) &&& 255))))] _ _ := hw12
  generalize (upd f_811 (Int32.toNatClampNeg 2) ((p0 >>> (8 &&& 31)) &&& 255)) = f_812 at hw12
  refine lv_aload_n hx hb dX12_feed_105 rfl (lv_at hv11 2 rfl) ?_
  refine lv_dup hx hb dX12_feed_106 rfl ?_
  refine q_get X hK hw12 0 rfl rfl wf_12 5 (by decide) rfl wm_5_175 dX12_feed_107 ?_
  refine lv_iconst (v := 1) hx hb dX12_feed_110 (by decide) ?_
  refine lv_iadd hx hb dX12_feed_111 ?_
  refine q_c 3 (by decide +kernel) ?_
  refine q_put (v := .int 3) X hK hw12 0 rfl rfl wf_12 tyX12 tyX12_ok nmX12 5 (by decide) wm_5_175 rfl rfl rfl (Nat.le_of_ble_eq_true rfl) dX12_feed_112 (fun Hp13 lc13 hw13 => ?_)
  clear Hp12 lc12 hw12
  replace hw13 : qW D _ _ [(h0, .inr (12, [.int 0, .ref h2, .ref h3, .ref h1, .ref h4, .int 3, .int 0, .int 0, .int 0, .int 0, .int 0, .int 0, .int 0, .int 0, .int (-1), .int 0, .ref h5, .ref h6, .ref h7, .ref h8, .ref h9, .int 0, .int 0, .ref h10, .ref h11, .ref h12, .int 0, .int 0, .ref h13, .ref h14, .ref h15, .ref h16, .ref h17, .int 0, .ref h18, .ref h19, .ref h20])), (h1, .inl (cy 1, 900, .inl f_812))] _ _ := hw13
  refine lv_iinc (v := 3) (lv' := [(6, .int 3), (7, .int p0), (0, .ref h0), (1, .int p0), (2, .int p1), (3, .int p2), (4, .int p3), (5, .int p4)]) hx hb dX12_feed_115 hv11 (k := 1) rfl (by decide +kernel) (by decide) rfl (fun lz14 hv14 => ?_)
  clear lz11 hv11
  refine lv_goto (tgt := 24) hx hb dX12_feed_118 (by decide) ?_
  refine lv_iload hx hb dX12_feed_24 (lv_at hv14 0 rfl) ?_
  refine lv_bipush (v := 20) hx hb dX12_feed_26 (by decide) ?_
  refine lv_icmp_ge (tgt := 121) hx hb dX12_feed_28 (by decide) (fun c => absurd c (by decide +kernel)) (fun _ => ?_)
  refine lv_iload hx hb dX12_feed_31 (lv_at hv14 0 rfl) ?_
  refine lv_iconst (v := 4) hx hb dX12_feed_33 (by decide) ?_
  refine lv_icmp_ge (tgt := 41) hx hb dX12_feed_34 (by decide) (fun c => absurd c (by decide +kernel)) (fun _ => ?_)
  refine lv_iload_n hx hb dX12_feed_37 rfl (lv_at hv14 3 rfl) ?_
  refine lv_goto (tgt := 77) hx hb dX12_feed_38 (by decide) ?_
  refine lv_istore (lv' := [(7, .int p0), (6, .int 3), (0, .ref h0), (1, .int p0), (2, .int p1), (3, .int p2), (4, .int p3), (5, .int p4)]) hx hb dX12_feed_77 hv14 (by decide) rfl (fun lz15 hv15 => ?_)
  clear lz14 hv14
  refine lv_aload_n hx hb dX12_feed_79 rfl (lv_at hv15 2 rfl) ?_
  refine q_get X hK hw13 0 rfl rfl wf_12 3 (by decide) rfl wm_5_173 dX12_feed_80 ?_
  refine lv_aload_n hx hb dX12_feed_83 rfl (lv_at hv15 2 rfl) ?_
  refine q_get X hK hw13 0 rfl rfl wf_12 5 (by decide) rfl wm_5_175 dX12_feed_84 ?_
  refine lv_iload hx hb dX12_feed_87 (lv_at hv15 0 rfl) ?_
  refine lv_bipush (v := 24) hx hb dX12_feed_89 (by decide) ?_
  refine lv_bipush (v := 8) hx hb dX12_feed_91 (by decide) ?_
  refine lv_iload hx hb dX12_feed_93 (lv_at hv15 1 rfl) ?_
  refine lv_iconst (v := 4) hx hb dX12_feed_95 (by decide) ?_
  refine lv_irem hx hb dX12_feed_96 (by decide) ?_
  refine q_c 3 (by decide +kernel) ?_
  refine lv_imul hx hb dX12_feed_97 ?_
  refine q_c 24 (by decide +kernel) ?_
  refine lv_isub hx hb dX12_feed_98 ?_
  refine q_c 0 (by decide +kernel) ?_
  refine lv_ishr hx hb dX12_feed_99 ?_
  refine lv_sipush (v := 255) hx hb dX12_feed_100 (by decide) ?_
  refine lv_iand hx hb dX12_feed_103 ?_
  refine q_iast X hK hw13 1 rfl (q_in (by decide +kernel)) dX12_feed_104 (fun Hp16 lc16 hw16 => ?_)
  clear Hp13 lc13 hw13
  replace hw16 : qW D _ _ [(h0, .inr (12, [.int 0, .ref h2, .ref h3, .ref h1, .ref h4, .int 3, .int 0, .int 0, .int 0, .int 0, .int 0, .int 0, .int 0, .int 0, .int (-1), .int 0, .ref h5, .ref h6, .ref h7, .ref h8, .ref h9, .int 0, .int 0, .ref h10, .ref h11, .ref h12, .int 0, .int 0, .ref h13, .ref h14, .ref h15, .ref h16, .ref h17, .int 0, .ref h18, .ref h19, .ref h20])), (h1, .inl (cy 1, 900, .inl (upd f_812 (Int32.toNatClampNeg 3) ((p0 >>> (0 &&& 31)) &&& 255))))] _ _ := hw16
  generalize (upd f_812 (Int32.toNatClampNeg 3) ((p0 >>> (0 &&& 31)) &&& 255)) = f_813 at hw16
  refine lv_aload_n hx hb dX12_feed_105 rfl (lv_at hv15 2 rfl) ?_
  refine lv_dup hx hb dX12_feed_106 rfl ?_
  refine q_get X hK hw16 0 rfl rfl wf_12 5 (by decide) rfl wm_5_175 dX12_feed_107 ?_
  refine lv_iconst (v := 1) hx hb dX12_feed_110 (by decide) ?_
  refine lv_iadd hx hb dX12_feed_111 ?_
  refine q_c 4 (by decide +kernel) ?_
  refine q_put (v := .int 4) X hK hw16 0 rfl rfl wf_12 tyX12 tyX12_ok nmX12 5 (by decide) wm_5_175 rfl rfl rfl (Nat.le_of_ble_eq_true rfl) dX12_feed_112 (fun Hp17 lc17 hw17 => ?_)
  clear Hp16 lc16 hw16
  replace hw17 : qW D _ _ [(h0, .inr (12, [.int 0, .ref h2, .ref h3, .ref h1, .ref h4, .int 4, .int 0, .int 0, .int 0, .int 0, .int 0, .int 0, .int 0, .int 0, .int (-1), .int 0, .ref h5, .ref h6, .ref h7, .ref h8, .ref h9, .int 0, .int 0, .ref h10, .ref h11, .ref h12, .int 0, .int 0, .ref h13, .ref h14, .ref h15, .ref h16, .ref h17, .int 0, .ref h18, .ref h19, .ref h20])), (h1, .inl (cy 1, 900, .inl f_813))] _ _ := hw17
  refine lv_iinc (v := 4) (lv' := [(6, .int 4), (7, .int p0), (0, .ref h0), (1, .int p0), (2, .int p1), (3, .int p2), (4, .int p3), (5, .int p4)]) hx hb dX12_feed_115 hv15 (k := 1) rfl (by decide +kernel) (by decide) rfl (fun lz18 hv18 => ?_)
  clear lz15 hv15
  refine lv_goto (tgt := 24) hx hb dX12_feed_118 (by decide) ?_
  refine lv_iload hx hb dX12_feed_24 (lv_at hv18 0 rfl) ?_
  refine lv_bipush (v := 20) hx hb dX12_feed_26 (by decide) ?_
  refine lv_icmp_ge (tgt := 121) hx hb dX12_feed_28 (by decide) (fun c => absurd c (by decide +kernel)) (fun _ => ?_)
  refine lv_iload hx hb dX12_feed_31 (lv_at hv18 0 rfl) ?_
  refine lv_iconst (v := 4) hx hb dX12_feed_33 (by decide) ?_
  refine lv_icmp_ge (tgt := 41) hx hb dX12_feed_34 (by decide) (fun _ => ?_) (fun c => absurd c (by decide +kernel))
  refine lv_iload hx hb dX12_feed_41 (lv_at hv18 0 rfl) ?_
  refine lv_bipush (v := 8) hx hb dX12_feed_43 (by decide) ?_
  refine lv_icmp_ge (tgt := 52) hx hb dX12_feed_45 (by decide) (fun c => absurd c (by decide +kernel)) (fun _ => ?_)
  refine lv_iload_n hx hb dX12_feed_48 rfl (lv_at hv18 4 rfl) ?_
  refine lv_goto (tgt := 77) hx hb dX12_feed_49 (by decide) ?_
  refine lv_istore (lv' := [(7, .int p1), (6, .int 4), (0, .ref h0), (1, .int p0), (2, .int p1), (3, .int p2), (4, .int p3), (5, .int p4)]) hx hb dX12_feed_77 hv18 (by decide) rfl (fun lz19 hv19 => ?_)
  clear lz18 hv18
  refine lv_aload_n hx hb dX12_feed_79 rfl (lv_at hv19 2 rfl) ?_
  refine q_get X hK hw17 0 rfl rfl wf_12 3 (by decide) rfl wm_5_173 dX12_feed_80 ?_
  refine lv_aload_n hx hb dX12_feed_83 rfl (lv_at hv19 2 rfl) ?_
  refine q_get X hK hw17 0 rfl rfl wf_12 5 (by decide) rfl wm_5_175 dX12_feed_84 ?_
  refine lv_iload hx hb dX12_feed_87 (lv_at hv19 0 rfl) ?_
  refine lv_bipush (v := 24) hx hb dX12_feed_89 (by decide) ?_
  refine lv_bipush (v := 8) hx hb dX12_feed_91 (by decide) ?_
  refine lv_iload hx hb dX12_feed_93 (lv_at hv19 1 rfl) ?_
  refine lv_iconst (v := 4) hx hb dX12_feed_95 (by decide) ?_
  refine lv_irem hx hb dX12_feed_96 (by decide) ?_
  refine q_c 0 (by decide +kernel) ?_
  refine lv_imul hx hb dX12_feed_97 ?_
  refine q_c 0 (by decide +kernel) ?_
  refine lv_isub hx hb dX12_feed_98 ?_
  refine q_c 24 (by decide +kernel) ?_
  refine lv_ishr hx hb dX12_feed_99 ?_
  refine lv_sipush (v := 255) hx hb dX12_feed_100 (by decide) ?_
  refine lv_iand hx hb dX12_feed_103 ?_
  refine q_iast X hK hw17 1 rfl (q_in (by decide +kernel)) dX12_feed_104 (fun Hp20 lc20 hw20 => ?_)
  clear Hp17 lc17 hw17
  replace hw20 : qW D _ _ [(h0, .inr (12, [.int 0, .ref h2, .ref h3, .ref h1, .ref h4, .int 4, .int 0, .int 0, .int 0, .int 0, .int 0, .int 0, .int 0, .int 0, .int (-1), .int 0, .ref h5, .ref h6, .ref h7, .ref h8, .ref h9, .int 0, .int 0, .ref h10, .ref h11, .ref h12, .int 0, .int 0, .ref h13, .ref h14, .ref h15, .ref h16, .ref h17, .int 0, .ref h18, .ref h19, .ref h20])), (h1, .inl (cy 1, 900, .inl (upd f_813 (Int32.toNatClampNeg 4) ((p1 >>> (24 &&& 31)) &&& 255))))] _ _ := hw20
  generalize (upd f_813 (Int32.toNatClampNeg 4) ((p1 >>> (24 &&& 31)) &&& 255)) = f_814 at hw20
  refine lv_aload_n hx hb dX12_feed_105 rfl (lv_at hv19 2 rfl) ?_
  refine lv_dup hx hb dX12_feed_106 rfl ?_
  refine q_get X hK hw20 0 rfl rfl wf_12 5 (by decide) rfl wm_5_175 dX12_feed_107 ?_
  refine lv_iconst (v := 1) hx hb dX12_feed_110 (by decide) ?_
  refine lv_iadd hx hb dX12_feed_111 ?_
  refine q_c 5 (by decide +kernel) ?_
  refine q_put (v := .int 5) X hK hw20 0 rfl rfl wf_12 tyX12 tyX12_ok nmX12 5 (by decide) wm_5_175 rfl rfl rfl (Nat.le_of_ble_eq_true rfl) dX12_feed_112 (fun Hp21 lc21 hw21 => ?_)
  clear Hp20 lc20 hw20
  replace hw21 : qW D _ _ [(h0, .inr (12, [.int 0, .ref h2, .ref h3, .ref h1, .ref h4, .int 5, .int 0, .int 0, .int 0, .int 0, .int 0, .int 0, .int 0, .int 0, .int (-1), .int 0, .ref h5, .ref h6, .ref h7, .ref h8, .ref h9, .int 0, .int 0, .ref h10, .ref h11, .ref h12, .int 0, .int 0, .ref h13, .ref h14, .ref h15, .ref h16, .ref h17, .int 0, .ref h18, .ref h19, .ref h20])), (h1, .inl (cy 1, 900, .inl f_814))] _ _ := hw21
  refine lv_iinc (v := 5) (lv' := [(6, .int 5), (7, .int p1), (0, .ref h0), (1, .int p0), (2, .int p1), (3, .int p2), (4, .int p3), (5, .int p4)]) hx hb dX12_feed_115 hv19 (k := 1) rfl (by decide +kernel) (by decide) rfl (fun lz22 hv22 => ?_)
  clear lz19 hv19
  refine lv_goto (tgt := 24) hx hb dX12_feed_118 (by decide) ?_
  refine lv_iload hx hb dX12_feed_24 (lv_at hv22 0 rfl) ?_
  refine lv_bipush (v := 20) hx hb dX12_feed_26 (by decide) ?_
  refine lv_icmp_ge (tgt := 121) hx hb dX12_feed_28 (by decide) (fun c => absurd c (by decide +kernel)) (fun _ => ?_)
  refine lv_iload hx hb dX12_feed_31 (lv_at hv22 0 rfl) ?_
  refine lv_iconst (v := 4) hx hb dX12_feed_33 (by decide) ?_
  refine lv_icmp_ge (tgt := 41) hx hb dX12_feed_34 (by decide) (fun _ => ?_) (fun c => absurd c (by decide +kernel))
  refine lv_iload hx hb dX12_feed_41 (lv_at hv22 0 rfl) ?_
  refine lv_bipush (v := 8) hx hb dX12_feed_43 (by decide) ?_
  refine lv_icmp_ge (tgt := 52) hx hb dX12_feed_45 (by decide) (fun c => absurd c (by decide +kernel)) (fun _ => ?_)
  refine lv_iload_n hx hb dX12_feed_48 rfl (lv_at hv22 4 rfl) ?_
  refine lv_goto (tgt := 77) hx hb dX12_feed_49 (by decide) ?_
  refine lv_istore (lv' := [(7, .int p1), (6, .int 5), (0, .ref h0), (1, .int p0), (2, .int p1), (3, .int p2), (4, .int p3), (5, .int p4)]) hx hb dX12_feed_77 hv22 (by decide) rfl (fun lz23 hv23 => ?_)
  clear lz22 hv22
  refine lv_aload_n hx hb dX12_feed_79 rfl (lv_at hv23 2 rfl) ?_
  refine q_get X hK hw21 0 rfl rfl wf_12 3 (by decide) rfl wm_5_173 dX12_feed_80 ?_
  refine lv_aload_n hx hb dX12_feed_83 rfl (lv_at hv23 2 rfl) ?_
  refine q_get X hK hw21 0 rfl rfl wf_12 5 (by decide) rfl wm_5_175 dX12_feed_84 ?_
  refine lv_iload hx hb dX12_feed_87 (lv_at hv23 0 rfl) ?_
  refine lv_bipush (v := 24) hx hb dX12_feed_89 (by decide) ?_
  refine lv_bipush (v := 8) hx hb dX12_feed_91 (by decide) ?_
  refine lv_iload hx hb dX12_feed_93 (lv_at hv23 1 rfl) ?_
  refine lv_iconst (v := 4) hx hb dX12_feed_95 (by decide) ?_
  refine lv_irem hx hb dX12_feed_96 (by decide) ?_
  refine q_c 1 (by decide +kernel) ?_
  refine lv_imul hx hb dX12_feed_97 ?_
  refine q_c 8 (by decide +kernel) ?_
  refine lv_isub hx hb dX12_feed_98 ?_
  refine q_c 16 (by decide +kernel) ?_
  refine lv_ishr hx hb dX12_feed_99 ?_
  refine lv_sipush (v := 255) hx hb dX12_feed_100 (by decide) ?_
  refine lv_iand hx hb dX12_feed_103 ?_
  refine q_iast X hK hw21 1 rfl (q_in (by decide +kernel)) dX12_feed_104 (fun Hp24 lc24 hw24 => ?_)
  clear Hp21 lc21 hw21
  replace hw24 : qW D _ _ [(h0, .inr (12, [.int 0, .ref h2, .ref h3, .ref h1, .ref h4, .int 5, .int 0, .int 0, .int 0, .int 0, .int 0, .int 0, .int 0, .int 0, .int (-1), .int 0, .ref h5, .ref h6, .ref h7, .ref h8, .ref h9, .int 0, .int 0, .ref h10, .ref h11, .ref h12, .int 0, .int 0, .ref h13, .ref h14, .ref h15, .ref h16, .ref h17, .int 0, .ref h18, .ref h19, .ref h20])), (h1, .inl (cy 1, 900, .inl (upd f_814 (Int32.toNatClampNeg 5) ((p1 >>> (16 &&& 31)) &&& 255))))] _ _ := hw24
  generalize (upd f_814 (Int32.toNatClampNeg 5) ((p1 >>> (16 &&& 31)) &&& 255)) = f_815 at hw24
  refine lv_aload_n hx hb dX12_feed_105 rfl (lv_at hv23 2 rfl) ?_
  refine lv_dup hx hb dX12_feed_106 rfl ?_
  refine q_get X hK hw24 0 rfl rfl wf_12 5 (by decide) rfl wm_5_175 dX12_feed_107 ?_
  refine lv_iconst (v := 1) hx hb dX12_feed_110 (by decide) ?_
  refine lv_iadd hx hb dX12_feed_111 ?_
  refine q_c 6 (by decide +kernel) ?_
  refine q_put (v := .int 6) X hK hw24 0 rfl rfl wf_12 tyX12 tyX12_ok nmX12 5 (by decide) wm_5_175 rfl rfl rfl (Nat.le_of_ble_eq_true rfl) dX12_feed_112 (fun Hp25 lc25 hw25 => ?_)
  clear Hp24 lc24 hw24
  replace hw25 : qW D _ _ [(h0, .inr (12, [.int 0, .ref h2, .ref h3, .ref h1, .ref h4, .int 6, .int 0, .int 0, .int 0, .int 0, .int 0, .int 0, .int 0, .int 0, .int (-1), .int 0, .ref h5, .ref h6, .ref h7, .ref h8, .ref h9, .int 0, .int 0, .ref h10, .ref h11, .ref h12, .int 0, .int 0, .ref h13, .ref h14, .ref h15, .ref h16, .ref h17, .int 0, .ref h18, .ref h19, .ref h20])), (h1, .inl (cy 1, 900, .inl f_815))] _ _ := hw25
  refine lv_iinc (v := 6) (lv' := [(6, .int 6), (7, .int p1), (0, .ref h0), (1, .int p0), (2, .int p1), (3, .int p2), (4, .int p3), (5, .int p4)]) hx hb dX12_feed_115 hv23 (k := 1) rfl (by decide +kernel) (by decide) rfl (fun lz26 hv26 => ?_)
  clear lz23 hv23
  refine lv_goto (tgt := 24) hx hb dX12_feed_118 (by decide) ?_
  refine lv_iload hx hb dX12_feed_24 (lv_at hv26 0 rfl) ?_
  refine lv_bipush (v := 20) hx hb dX12_feed_26 (by decide) ?_
  refine lv_icmp_ge (tgt := 121) hx hb dX12_feed_28 (by decide) (fun c => absurd c (by decide +kernel)) (fun _ => ?_)
  refine lv_iload hx hb dX12_feed_31 (lv_at hv26 0 rfl) ?_
  refine lv_iconst (v := 4) hx hb dX12_feed_33 (by decide) ?_
  refine lv_icmp_ge (tgt := 41) hx hb dX12_feed_34 (by decide) (fun _ => ?_) (fun c => absurd c (by decide +kernel))
  refine lv_iload hx hb dX12_feed_41 (lv_at hv26 0 rfl) ?_
  refine lv_bipush (v := 8) hx hb dX12_feed_43 (by decide) ?_
  refine lv_icmp_ge (tgt := 52) hx hb dX12_feed_45 (by decide) (fun c => absurd c (by decide +kernel)) (fun _ => ?_)
  refine lv_iload_n hx hb dX12_feed_48 rfl (lv_at hv26 4 rfl) ?_
  refine lv_goto (tgt := 77) hx hb dX12_feed_49 (by decide) ?_
  refine lv_istore (lv' := [(7, .int p1), (6, .int 6), (0, .ref h0), (1, .int p0), (2, .int p1), (3, .int p2), (4, .int p3), (5, .int p4)]) hx hb dX12_feed_77 hv26 (by decide) rfl (fun lz27 hv27 => ?_)
  clear lz26 hv26
  refine lv_aload_n hx hb dX12_feed_79 rfl (lv_at hv27 2 rfl) ?_
  refine q_get X hK hw25 0 rfl rfl wf_12 3 (by decide) rfl wm_5_173 dX12_feed_80 ?_
  refine lv_aload_n hx hb dX12_feed_83 rfl (lv_at hv27 2 rfl) ?_
  refine q_get X hK hw25 0 rfl rfl wf_12 5 (by decide) rfl wm_5_175 dX12_feed_84 ?_
  refine lv_iload hx hb dX12_feed_87 (lv_at hv27 0 rfl) ?_
  refine lv_bipush (v := 24) hx hb dX12_feed_89 (by decide) ?_
  refine lv_bipush (v := 8) hx hb dX12_feed_91 (by decide) ?_
  refine lv_iload hx hb dX12_feed_93 (lv_at hv27 1 rfl) ?_
  refine lv_iconst (v := 4) hx hb dX12_feed_95 (by decide) ?_
  refine lv_irem hx hb dX12_feed_96 (by decide) ?_
  refine q_c 2 (by decide +kernel) ?_
  refine lv_imul hx hb dX12_feed_97 ?_
  refine q_c 16 (by decide +kernel) ?_
  refine lv_isub hx hb dX12_feed_98 ?_
  refine q_c 8 (by decide +kernel) ?_
  refine lv_ishr hx hb dX12_feed_99 ?_
  refine lv_sipush (v := 255) hx hb dX12_feed_100 (by decide) ?_
  refine lv_iand hx hb dX12_feed_103 ?_
  refine q_iast X hK hw25 1 rfl (q_in (by decide +kernel)) dX12_feed_104 (fun Hp28 lc28 hw28 => ?_)
  clear Hp25 lc25 hw25
  replace hw28 : qW D _ _ [(h0, .inr (12, [.int 0, .ref h2, .ref h3, .ref h1, .ref h4, .int 6, .int 0, .int 0, .int 0, .int 0, .int 0, .int 0, .int 0, .int 0, .int (-1), .int 0, .ref h5, .ref h6, .ref h7, .ref h8, .ref h9, .int 0, .int 0, .ref h10, .ref h11, .ref h12, .int 0, .int 0, .ref h13, .ref h14, .ref h15, .ref h16, .ref h17, .int 0, .ref h18, .ref h19, .ref h20])), (h1, .inl (cy 1, 900, .inl (upd f_815 (Int32.toNatClampNeg 6) ((p1 >>> (8 &&& 31)) &&& 255))))] _ _ := hw28
  generalize (upd f_815 (Int32.toNatClampNeg 6) ((p1 >>> (8 &&& 31)) &&& 255)) = f_816 at hw28
  refine lv_aload_n hx hb dX12_feed_105 rfl (lv_at hv27 2 rfl) ?_
  refine lv_dup hx hb dX12_feed_106 rfl ?_
  refine q_get X hK hw28 0 rfl rfl wf_12 5 (by decide) rfl wm_5_175 dX12_feed_107 ?_
  refine lv_iconst (v := 1) hx hb dX12_feed_110 (by decide) ?_
  refine lv_iadd hx hb dX12_feed_111 ?_
  refine q_c 7 (by decide +kernel) ?_
  refine q_put (v := .int 7) X hK hw28 0 rfl rfl wf_12 tyX12 tyX12_ok nmX12 5 (by decide) wm_5_175 rfl rfl rfl (Nat.le_of_ble_eq_true rfl) dX12_feed_112 (fun Hp29 lc29 hw29 => ?_)
  clear Hp28 lc28 hw28
  replace hw29 : qW D _ _ [(h0, .inr (12, [.int 0, .ref h2, .ref h3, .ref h1, .ref h4, .int 7, .int 0, .int 0, .int 0, .int 0, .int 0, .int 0, .int 0, .int 0, .int (-1), .int 0, .ref h5, .ref h6, .ref h7, .ref h8, .ref h9, .int 0, .int 0, .ref h10, .ref h11, .ref h12, .int 0, .int 0, .ref h13, .ref h14, .ref h15, .ref h16, .ref h17, .int 0, .ref h18, .ref h19, .ref h20])), (h1, .inl (cy 1, 900, .inl f_816))] _ _ := hw29
  refine lv_iinc (v := 7) (lv' := [(6, .int 7), (7, .int p1), (0, .ref h0), (1, .int p0), (2, .int p1), (3, .int p2), (4, .int p3), (5, .int p4)]) hx hb dX12_feed_115 hv27 (k := 1) rfl (by decide +kernel) (by decide) rfl (fun lz30 hv30 => ?_)
  clear lz27 hv27
  refine lv_goto (tgt := 24) hx hb dX12_feed_118 (by decide) ?_
  refine lv_iload hx hb dX12_feed_24 (lv_at hv30 0 rfl) ?_
  refine lv_bipush (v := 20) hx hb dX12_feed_26 (by decide) ?_
  refine lv_icmp_ge (tgt := 121) hx hb dX12_feed_28 (by decide) (fun c => absurd c (by decide +kernel)) (fun _ => ?_)
  refine lv_iload hx hb dX12_feed_31 (lv_at hv30 0 rfl) ?_
  refine lv_iconst (v := 4) hx hb dX12_feed_33 (by decide) ?_
  refine lv_icmp_ge (tgt := 41) hx hb dX12_feed_34 (by decide) (fun _ => ?_) (fun c => absurd c (by decide +kernel))
  refine lv_iload hx hb dX12_feed_41 (lv_at hv30 0 rfl) ?_
  refine lv_bipush (v := 8) hx hb dX12_feed_43 (by decide) ?_
  refine lv_icmp_ge (tgt := 52) hx hb dX12_feed_45 (by decide) (fun c => absurd c (by decide +kernel)) (fun _ => ?_)
  refine lv_iload_n hx hb dX12_feed_48 rfl (lv_at hv30 4 rfl) ?_
  refine lv_goto (tgt := 77) hx hb dX12_feed_49 (by decide) ?_
  refine lv_istore (lv' := [(7, .int p1), (6, .int 7), (0, .ref h0), (1, .int p0), (2, .int p1), (3, .int p2), (4, .int p3), (5, .int p4)]) hx hb dX12_feed_77 hv30 (by decide) rfl (fun lz31 hv31 => ?_)
  clear lz30 hv30
  refine lv_aload_n hx hb dX12_feed_79 rfl (lv_at hv31 2 rfl) ?_
  refine q_get X hK hw29 0 rfl rfl wf_12 3 (by decide) rfl wm_5_173 dX12_feed_80 ?_
  refine lv_aload_n hx hb dX12_feed_83 rfl (lv_at hv31 2 rfl) ?_
  refine q_get X hK hw29 0 rfl rfl wf_12 5 (by decide) rfl wm_5_175 dX12_feed_84 ?_
  refine lv_iload hx hb dX12_feed_87 (lv_at hv31 0 rfl) ?_
  refine lv_bipush (v := 24) hx hb dX12_feed_89 (by decide) ?_
  refine lv_bipush (v := 8) hx hb dX12_feed_91 (by decide) ?_
  refine lv_iload hx hb dX12_feed_93 (lv_at hv31 1 rfl) ?_
  refine lv_iconst (v := 4) hx hb dX12_feed_95 (by decide) ?_
  refine lv_irem hx hb dX12_feed_96 (by decide) ?_
  refine q_c 3 (by decide +kernel) ?_
  refine lv_imul hx hb dX12_feed_97 ?_
  refine q_c 24 (by decide +kernel) ?_
  refine lv_isub hx hb dX12_feed_98 ?_
  refine q_c 0 (by decide +kernel) ?_
  refine lv_ishr hx hb dX12_feed_99 ?_
  refine lv_sipush (v := 255) hx hb dX12_feed_100 (by decide) ?_
  refine lv_iand hx hb dX12_feed_103 ?_
  refine q_iast X hK hw29 1 rfl (q_in (by decide +kernel)) dX12_feed_104 (fun Hp32 lc32 hw32 => ?_)
  clear Hp29 lc29 hw29
  replace hw32 : qW D _ _ [(h0, .inr (12, [.int 0, .ref h2, .ref h3, .ref h1, .ref h4, .int 7, .int 0, .int 0, .int 0, .int 0, .int 0, .int 0, .int 0, .int 0, .int (-1), .int 0, .ref h5, .ref h6, .ref h7, .ref h8, .ref h9, .int 0, .int 0, .ref h10, .ref h11, .ref h12, .int 0, .int 0, .ref h13, .ref h14, .ref h15, .ref h16, .ref h17, .int 0, .ref h18, .ref h19, .ref h20])), (h1, .inl (cy 1, 900, .inl (upd f_816 (Int32.toNatClampNeg 7) ((p1 >>> (0 &&& 31)) &&& 255))))] _ _ := hw32
  generalize (upd f_816 (Int32.toNatClampNeg 7) ((p1 >>> (0 &&& 31)) &&& 255)) = f_817 at hw32
  refine lv_aload_n hx hb dX12_feed_105 rfl (lv_at hv31 2 rfl) ?_
  refine lv_dup hx hb dX12_feed_106 rfl ?_
  refine q_get X hK hw32 0 rfl rfl wf_12 5 (by decide) rfl wm_5_175 dX12_feed_107 ?_
  refine lv_iconst (v := 1) hx hb dX12_feed_110 (by decide) ?_
  refine lv_iadd hx hb dX12_feed_111 ?_
  refine q_c 8 (by decide +kernel) ?_
  refine q_put (v := .int 8) X hK hw32 0 rfl rfl wf_12 tyX12 tyX12_ok nmX12 5 (by decide) wm_5_175 rfl rfl rfl (Nat.le_of_ble_eq_true rfl) dX12_feed_112 (fun Hp33 lc33 hw33 => ?_)
  clear Hp32 lc32 hw32
  replace hw33 : qW D _ _ [(h0, .inr (12, [.int 0, .ref h2, .ref h3, .ref h1, .ref h4, .int 8, .int 0, .int 0, .int 0, .int 0, .int 0, .int 0, .int 0, .int 0, .int (-1), .int 0, .ref h5, .ref h6, .ref h7, .ref h8, .ref h9, .int 0, .int 0, .ref h10, .ref h11, .ref h12, .int 0, .int 0, .ref h13, .ref h14, .ref h15, .ref h16, .ref h17, .int 0, .ref h18, .ref h19, .ref h20])), (h1, .inl (cy 1, 900, .inl f_817))] _ _ := hw33
  refine lv_iinc (v := 8) (lv' := [(6, .int 8), (7, .int p1), (0, .ref h0), (1, .int p0), (2, .int p1), (3, .int p2), (4, .int p3), (5, .int p4)]) hx hb dX12_feed_115 hv31 (k := 1) rfl (by decide +kernel) (by decide) rfl (fun lz34 hv34 => ?_)
  clear lz31 hv31
  refine lv_goto (tgt := 24) hx hb dX12_feed_118 (by decide) ?_
  refine lv_iload hx hb dX12_feed_24 (lv_at hv34 0 rfl) ?_
  refine lv_bipush (v := 20) hx hb dX12_feed_26 (by decide) ?_
  refine lv_icmp_ge (tgt := 121) hx hb dX12_feed_28 (by decide) (fun c => absurd c (by decide +kernel)) (fun _ => ?_)
  refine lv_iload hx hb dX12_feed_31 (lv_at hv34 0 rfl) ?_
  refine lv_iconst (v := 4) hx hb dX12_feed_33 (by decide) ?_
  refine lv_icmp_ge (tgt := 41) hx hb dX12_feed_34 (by decide) (fun _ => ?_) (fun c => absurd c (by decide +kernel))
  refine lv_iload hx hb dX12_feed_41 (lv_at hv34 0 rfl) ?_
  refine lv_bipush (v := 8) hx hb dX12_feed_43 (by decide) ?_
  refine lv_icmp_ge (tgt := 52) hx hb dX12_feed_45 (by decide) (fun _ => ?_) (fun c => absurd c (by decide +kernel))
  refine lv_iload hx hb dX12_feed_52 (lv_at hv34 0 rfl) ?_
  refine lv_bipush (v := 12) hx hb dX12_feed_54 (by decide) ?_
  refine lv_icmp_ge (tgt := 63) hx hb dX12_feed_56 (by decide) (fun c => absurd c (by decide +kernel)) (fun _ => ?_)
  refine lv_iload_n hx hb dX12_feed_59 rfl (lv_at hv34 5 rfl) ?_
  refine lv_goto (tgt := 77) hx hb dX12_feed_60 (by decide) ?_
  refine lv_istore (lv' := [(7, .int p2), (6, .int 8), (0, .ref h0), (1, .int p0), (2, .int p1), (3, .int p2), (4, .int p3), (5, .int p4)]) hx hb dX12_feed_77 hv34 (by decide) rfl (fun lz35 hv35 => ?_)
  clear lz34 hv34
  refine lv_aload_n hx hb dX12_feed_79 rfl (lv_at hv35 2 rfl) ?_
  refine q_get X hK hw33 0 rfl rfl wf_12 3 (by decide) rfl wm_5_173 dX12_feed_80 ?_
  refine lv_aload_n hx hb dX12_feed_83 rfl (lv_at hv35 2 rfl) ?_
  refine q_get X hK hw33 0 rfl rfl wf_12 5 (by decide) rfl wm_5_175 dX12_feed_84 ?_
  refine lv_iload hx hb dX12_feed_87 (lv_at hv35 0 rfl) ?_
  refine lv_bipush (v := 24) hx hb dX12_feed_89 (by decide) ?_
  refine lv_bipush (v := 8) hx hb dX12_feed_91 (by decide) ?_
  refine lv_iload hx hb dX12_feed_93 (lv_at hv35 1 rfl) ?_
  refine lv_iconst (v := 4) hx hb dX12_feed_95 (by decide) ?_
  refine lv_irem hx hb dX12_feed_96 (by decide) ?_
  refine q_c 0 (by decide +kernel) ?_
  refine lv_imul hx hb dX12_feed_97 ?_
  refine q_c 0 (by decide +kernel) ?_
  refine lv_isub hx hb dX12_feed_98 ?_
  refine q_c 24 (by decide +kernel) ?_
  refine lv_ishr hx hb dX12_feed_99 ?_
  refine lv_sipush (v := 255) hx hb dX12_feed_100 (by decide) ?_
  refine lv_iand hx hb dX12_feed_103 ?_
  refine q_iast X hK hw33 1 rfl (q_in (by decide +kernel)) dX12_feed_104 (fun Hp36 lc36 hw36 => ?_)
  clear Hp33 lc33 hw33
  replace hw36 : qW D _ _ [(h0, .inr (12, [.int 0, .ref h2, .ref h3, .ref h1, .ref h4, .int 8, .int 0, .int 0, .int 0, .int 0, .int 0, .int 0, .int 0, .int 0, .int (-1), .int 0, .ref h5, .ref h6, .ref h7, .ref h8, .ref h9, .int 0, .int 0, .ref h10, .ref h11, .ref h12, .int 0, .int 0, .ref h13, .ref h14, .ref h15, .ref h16, .ref h17, .int 0, .ref h18, .ref h19, .ref h20])), (h1, .inl (cy 1, 900, .inl (upd f_817 (Int32.toNatClampNeg 8) ((p2 >>> (24 &&& 31)) &&& 255))))] _ _ := hw36
  generalize (upd f_817 (Int32.toNatClampNeg 8) ((p2 >>> (24 &&& 31)) &&& 255)) = f_818 at hw36
  refine lv_aload_n hx hb dX12_feed_105 rfl (lv_at hv35 2 rfl) ?_
  refine lv_dup hx hb dX12_feed_106 rfl ?_
  refine q_get X hK hw36 0 rfl rfl wf_12 5 (by decide) rfl wm_5_175 dX12_feed_107 ?_
  refine lv_iconst (v := 1) hx hb dX12_feed_110 (by decide) ?_
  refine lv_iadd hx hb dX12_feed_111 ?_
  refine q_c 9 (by decide +kernel) ?_
  refine q_put (v := .int 9) X hK hw36 0 rfl rfl wf_12 tyX12 tyX12_ok nmX12 5 (by decide) wm_5_175 rfl rfl rfl (Nat.le_of_ble_eq_true rfl) dX12_feed_112 (fun Hp37 lc37 hw37 => ?_)
  clear Hp36 lc36 hw36
  replace hw37 : qW D _ _ [(h0, .inr (12, [.int 0, .ref h2, .ref h3, .ref h1, .ref h4, .int 9, .int 0, .int 0, .int 0, .int 0, .int 0, .int 0, .int 0, .int 0, .int (-1), .int 0, .ref h5, .ref h6, .ref h7, .ref h8, .ref h9, .int 0, .int 0, .ref h10, .ref h11, .ref h12, .int 0, .int 0, .ref h13, .ref h14, .ref h15, .ref h16, .ref h17, .int 0, .ref h18, .ref h19, .ref h20])), (h1, .inl (cy 1, 900, .inl f_818))] _ _ := hw37
  refine lv_iinc (v := 9) (lv' := [(6, .int 9), (7, .int p2), (0, .ref h0), (1, .int p0), (2, .int p1), (3, .int p2), (4, .int p3), (5, .int p4)]) hx hb dX12_feed_115 hv35 (k := 1) rfl (by decide +kernel) (by decide) rfl (fun lz38 hv38 => ?_)
  clear lz35 hv35
  refine lv_goto (tgt := 24) hx hb dX12_feed_118 (by decide) ?_
  refine lv_iload hx hb dX12_feed_24 (lv_at hv38 0 rfl) ?_
  refine lv_bipush (v := 20) hx hb dX12_feed_26 (by decide) ?_
  refine lv_icmp_ge (tgt := 121) hx hb dX12_feed_28 (by decide) (fun c => absurd c (by decide +kernel)) (fun _ => ?_)
  refine lv_iload hx hb dX12_feed_31 (lv_at hv38 0 rfl) ?_
  refine lv_iconst (v := 4) hx hb dX12_feed_33 (by decide) ?_
  refine lv_icmp_ge (tgt := 41) hx hb dX12_feed_34 (by decide) (fun _ => ?_) (fun c => absurd c (by decide +kernel))
  refine lv_iload hx hb dX12_feed_41 (lv_at hv38 0 rfl) ?_
  refine lv_bipush (v := 8) hx hb dX12_feed_43 (by decide) ?_
  refine lv_icmp_ge (tgt := 52) hx hb dX12_feed_45 (by decide) (fun _ => ?_) (fun c => absurd c (by decide +kernel))
  refine lv_iload hx hb dX12_feed_52 (lv_at hv38 0 rfl) ?_
  refine lv_bipush (v := 12) hx hb dX12_feed_54 (by decide) ?_
  refine lv_icmp_ge (tgt := 63) hx hb dX12_feed_56 (by decide) (fun c => absurd c (by decide +kernel)) (fun _ => ?_)
  refine lv_iload_n hx hb dX12_feed_59 rfl (lv_at hv38 5 rfl) ?_
  refine lv_goto (tgt := 77) hx hb dX12_feed_60 (by decide) ?_
  refine lv_istore (lv' := [(7, .int p2), (6, .int 9), (0, .ref h0), (1, .int p0), (2, .int p1), (3, .int p2), (4, .int p3), (5, .int p4)]) hx hb dX12_feed_77 hv38 (by decide) rfl (fun lz39 hv39 => ?_)
  clear lz38 hv38
  refine lv_aload_n hx hb dX12_feed_79 rfl (lv_at hv39 2 rfl) ?_
  refine q_get X hK hw37 0 rfl rfl wf_12 3 (by decide) rfl wm_5_173 dX12_feed_80 ?_
  refine lv_aload_n hx hb dX12_feed_83 rfl (lv_at hv39 2 rfl) ?_
  refine q_get X hK hw37 0 rfl rfl wf_12 5 (by decide) rfl wm_5_175 dX12_feed_84 ?_
  refine lv_iload hx hb dX12_feed_87 (lv_at hv39 0 rfl) ?_
  refine lv_bipush (v := 24) hx hb dX12_feed_89 (by decide) ?_
  refine lv_bipush (v := 8) hx hb dX12_feed_91 (by decide) ?_
  refine lv_iload hx hb dX12_feed_93 (lv_at hv39 1 rfl) ?_
  refine lv_iconst (v := 4) hx hb dX12_feed_95 (by decide) ?_
  refine lv_irem hx hb dX12_feed_96 (by decide) ?_
  refine q_c 1 (by decide +kernel) ?_
  refine lv_imul hx hb dX12_feed_97 ?_
  refine q_c 8 (by decide +kernel) ?_
  refine lv_isub hx hb dX12_feed_98 ?_
  refine q_c 16 (by decide +kernel) ?_
  refine lv_ishr hx hb dX12_feed_99 ?_
  refine lv_sipush (v := 255) hx hb dX12_feed_100 (by decide) ?_
  refine lv_iand hx hb dX12_feed_103 ?_
  refine q_iast X hK hw37 1 rfl (q_in (by decide +kernel)) dX12_feed_104 (fun Hp40 lc40 hw40 => ?_)
  clear Hp37 lc37 hw37
  replace hw40 : qW D _ _ [(h0, .inr (12, [.int 0, .ref h2, .ref h3, .ref h1, .ref h4, .int 9, .int 0, .int 0, .int 0, .int 0, .int 0, .int 0, .int 0, .int 0, .int (-1), .int 0, .ref h5, .ref h6, .ref h7, .ref h8, .ref h9, .int 0, .int 0, .ref h10, .ref h11, .ref h12, .int 0, .int 0, .ref h13, .ref h14, .ref h15, .ref h16, .ref h17, .int 0, .ref h18, .ref h19, .ref h20])), (h1, .inl (cy 1, 900, .inl (upd f_818 (Int32.toNatClampNeg 9) ((p2 >>> (16 &&& 31)) &&& 255))))] _ _ := hw40
  generalize (upd f_818 (Int32.toNatClampNeg 9) ((p2 >>> (16 &&& 31)) &&& 255)) = f_819 at hw40
  refine lv_aload_n hx hb dX12_feed_105 rfl (lv_at hv39 2 rfl) ?_
  refine lv_dup hx hb dX12_feed_106 rfl ?_
  refine q_get X hK hw40 0 rfl rfl wf_12 5 (by decide) rfl wm_5_175 dX12_feed_107 ?_
  refine lv_iconst (v := 1) hx hb dX12_feed_110 (by decide) ?_
  refine lv_iadd hx hb dX12_feed_111 ?_
  refine q_c 10 (by decide +kernel) ?_
  refine q_put (v := .int 10) X hK hw40 0 rfl rfl wf_12 tyX12 tyX12_ok nmX12 5 (by decide) wm_5_175 rfl rfl rfl (Nat.le_of_ble_eq_true rfl) dX12_feed_112 (fun Hp41 lc41 hw41 => ?_)
  clear Hp40 lc40 hw40
  replace hw41 : qW D _ _ [(h0, .inr (12, [.int 0, .ref h2, .ref h3, .ref h1, .ref h4, .int 10, .int 0, .int 0, .int 0, .int 0, .int 0, .int 0, .int 0, .int 0, .int (-1), .int 0, .ref h5, .ref h6, .ref h7, .ref h8, .ref h9, .int 0, .int 0, .ref h10, .ref h11, .ref h12, .int 0, .int 0, .ref h13, .ref h14, .ref h15, .ref h16, .ref h17, .int 0, .ref h18, .ref h19, .ref h20])), (h1, .inl (cy 1, 900, .inl f_819))] _ _ := hw41
  refine lv_iinc (v := 10) (lv' := [(6, .int 10), (7, .int p2), (0, .ref h0), (1, .int p0), (2, .int p1), (3, .int p2), (4, .int p3), (5, .int p4)]) hx hb dX12_feed_115 hv39 (k := 1) rfl (by decide +kernel) (by decide) rfl (fun lz42 hv42 => ?_)
  clear lz39 hv39
  refine lv_goto (tgt := 24) hx hb dX12_feed_118 (by decide) ?_
  refine lv_iload hx hb dX12_feed_24 (lv_at hv42 0 rfl) ?_
  refine lv_bipush (v := 20) hx hb dX12_feed_26 (by decide) ?_
  refine lv_icmp_ge (tgt := 121) hx hb dX12_feed_28 (by decide) (fun c => absurd c (by decide +kernel)) (fun _ => ?_)
  refine lv_iload hx hb dX12_feed_31 (lv_at hv42 0 rfl) ?_
  refine lv_iconst (v := 4) hx hb dX12_feed_33 (by decide) ?_
  refine lv_icmp_ge (tgt := 41) hx hb dX12_feed_34 (by decide) (fun _ => ?_) (fun c => absurd c (by decide +kernel))
  refine lv_iload hx hb dX12_feed_41 (lv_at hv42 0 rfl) ?_
  refine lv_bipush (v := 8) hx hb dX12_feed_43 (by decide) ?_
  refine lv_icmp_ge (tgt := 52) hx hb dX12_feed_45 (by decide) (fun _ => ?_) (fun c => absurd c (by decide +kernel))
  refine lv_iload hx hb dX12_feed_52 (lv_at hv42 0 rfl) ?_
  refine lv_bipush (v := 12) hx hb dX12_feed_54 (by decide) ?_
  refine lv_icmp_ge (tgt := 63) hx hb dX12_feed_56 (by decide) (fun c => absurd c (by decide +kernel)) (fun _ => ?_)
  refine lv_iload_n hx hb dX12_feed_59 rfl (lv_at hv42 5 rfl) ?_
  refine lv_goto (tgt := 77) hx hb dX12_feed_60 (by decide) ?_
  refine lv_istore (lv' := [(7, .int p2), (6, .int 10), (0, .ref h0), (1, .int p0), (2, .int p1), (3, .int p2), (4, .int p3), (5, .int p4)]) hx hb dX12_feed_77 hv42 (by decide) rfl (fun lz43 hv43 => ?_)
  clear lz42 hv42
  refine lv_aload_n hx hb dX12_feed_79 rfl (lv_at hv43 2 rfl) ?_
  refine q_get X hK hw41 0 rfl rfl wf_12 3 (by decide) rfl wm_5_173 dX12_feed_80 ?_
  refine lv_aload_n hx hb dX12_feed_83 rfl (lv_at hv43 2 rfl) ?_
  refine q_get X hK hw41 0 rfl rfl wf_12 5 (by decide) rfl wm_5_175 dX12_feed_84 ?_
  refine lv_iload hx hb dX12_feed_87 (lv_at hv43 0 rfl) ?_
  refine lv_bipush (v := 24) hx hb dX12_feed_89 (by decide) ?_
  refine lv_bipush (v := 8) hx hb dX12_feed_91 (by decide) ?_
  refine lv_iload hx hb dX12_feed_93 (lv_at hv43 1 rfl) ?_
  refine lv_iconst (v := 4) hx hb dX12_feed_95 (by decide) ?_
  refine lv_irem hx hb dX12_feed_96 (by decide) ?_
  refine q_c 2 (by decide +kernel) ?_
  refine lv_imul hx hb dX12_feed_97 ?_
  refine q_c 16 (by decide +kernel) ?_
  refine lv_isub hx hb dX12_feed_98 ?_
  refine q_c 8 (by decide +kernel) ?_
  refine lv_ishr hx hb dX12_feed_99 ?_
  refine lv_sipush (v := 255) hx hb dX12_feed_100 (by decide) ?_
  refine lv_iand hx hb dX12_feed_103 ?_
  refine q_iast X hK hw41 1 rfl (q_in (by decide +kernel)) dX12_feed_104 (fun Hp44 lc44 hw44 => ?_)
  clear Hp41 lc41 hw41
  replace hw44 : qW D _ _ [(h0, .inr (12, [.int 0, .ref h2, .ref h3, .ref h1, .ref h4, .int 10, .int 0, .int 0, .int 0, .int 0, .int 0, .int 0, .int 0, .int 0, .int (-1), .int 0, .ref h5, .ref h6, .ref h7, .ref h8, .ref h9, .int 0, .int 0, .ref h10, .ref h11, .ref h12, .int 0, .int 0, .ref h13, .ref h14, .ref h15, .ref h16, .ref h17, .int 0, .ref h18, .ref h19, .ref h20])), (h1, .inl (cy 1, 900, .inl (upd f_819 (Int32.toNatClampNeg 10) ((p2 >>> (8 &&& 31)) &&& 255))))] _ _ := hw44
  generalize (upd f_819 (Int32.toNatClampNeg 10) ((p2 >>> (8 &&& 31)) &&& 255)) = f_820 at hw44
  refine lv_aload_n hx hb dX12_feed_105 rfl (lv_at hv43 2 rfl) ?_
  refine lv_dup hx hb dX12_feed_106 rfl ?_
  refine q_get X hK hw44 0 rfl rfl wf_12 5 (by decide) rfl wm_5_175 dX12_feed_107 ?_
  refine lv_iconst (v := 1) hx hb dX12_feed_110 (by decide) ?_
  refine lv_iadd hx hb dX12_feed_111 ?_
  refine q_c 11 (by decide +kernel) ?_
  refine q_put (v := .int 11) X hK hw44 0 rfl rfl wf_12 tyX12 tyX12_ok nmX12 5 (by decide) wm_5_175 rfl rfl rfl (Nat.le_of_ble_eq_true rfl) dX12_feed_112 (fun Hp45 lc45 hw45 => ?_)
  clear Hp44 lc44 hw44
  replace hw45 : qW D _ _ [(h0, .inr (12, [.int 0, .ref h2, .ref h3, .ref h1, .ref h4, .int 11, .int 0, .int 0, .int 0, .int 0, .int 0, .int 0, .int 0, .int 0, .int (-1), .int 0, .ref h5, .ref h6, .ref h7, .ref h8, .ref h9, .int 0, .int 0, .ref h10, .ref h11, .ref h12, .int 0, .int 0, .ref h13, .ref h14, .ref h15, .ref h16, .ref h17, .int 0, .ref h18, .ref h19, .ref h20])), (h1, .inl (cy 1, 900, .inl f_820))] _ _ := hw45
  refine lv_iinc (v := 11) (lv' := [(6, .int 11), (7, .int p2), (0, .ref h0), (1, .int p0), (2, .int p1), (3, .int p2), (4, .int p3), (5, .int p4)]) hx hb dX12_feed_115 hv43 (k := 1) rfl (by decide +kernel) (by decide) rfl (fun lz46 hv46 => ?_)
  clear lz43 hv43
  refine lv_goto (tgt := 24) hx hb dX12_feed_118 (by decide) ?_
  refine lv_iload hx hb dX12_feed_24 (lv_at hv46 0 rfl) ?_
  refine lv_bipush (v := 20) hx hb dX12_feed_26 (by decide) ?_
  refine lv_icmp_ge (tgt := 121) hx hb dX12_feed_28 (by decide) (fun c => absurd c (by decide +kernel)) (fun _ => ?_)
  refine lv_iload hx hb dX12_feed_31 (lv_at hv46 0 rfl) ?_
  refine lv_iconst (v := 4) hx hb dX12_feed_33 (by decide) ?_
  refine lv_icmp_ge (tgt := 41) hx hb dX12_feed_34 (by decide) (fun _ => ?_) (fun c => absurd c (by decide +kernel))
  refine lv_iload hx hb dX12_feed_41 (lv_at hv46 0 rfl) ?_
  refine lv_bipush (v := 8) hx hb dX12_feed_43 (by decide) ?_
  refine lv_icmp_ge (tgt := 52) hx hb dX12_feed_45 (by decide) (fun _ => ?_) (fun c => absurd c (by decide +kernel))
  refine lv_iload hx hb dX12_feed_52 (lv_at hv46 0 rfl) ?_
  refine lv_bipush (v := 12) hx hb dX12_feed_54 (by decide) ?_
  refine lv_icmp_ge (tgt := 63) hx hb dX12_feed_56 (by decide) (fun c => absurd c (by decide +kernel)) (fun _ => ?_)
  refine lv_iload_n hx hb dX12_feed_59 rfl (lv_at hv46 5 rfl) ?_
  refine lv_goto (tgt := 77) hx hb dX12_feed_60 (by decide) ?_
  refine lv_istore (lv' := [(7, .int p2), (6, .int 11), (0, .ref h0), (1, .int p0), (2, .int p1), (3, .int p2), (4, .int p3), (5, .int p4)]) hx hb dX12_feed_77 hv46 (by decide) rfl (fun lz47 hv47 => ?_)
  clear lz46 hv46
  refine lv_aload_n hx hb dX12_feed_79 rfl (lv_at hv47 2 rfl) ?_
  refine q_get X hK hw45 0 rfl rfl wf_12 3 (by decide) rfl wm_5_173 dX12_feed_80 ?_
  refine lv_aload_n hx hb dX12_feed_83 rfl (lv_at hv47 2 rfl) ?_
  refine q_get X hK hw45 0 rfl rfl wf_12 5 (by decide) rfl wm_5_175 dX12_feed_84 ?_
  refine lv_iload hx hb dX12_feed_87 (lv_at hv47 0 rfl) ?_
  refine lv_bipush (v := 24) hx hb dX12_feed_89 (by decide) ?_
  refine lv_bipush (v := 8) hx hb dX12_feed_91 (by decide) ?_
  refine lv_iload hx hb dX12_feed_93 (lv_at hv47 1 rfl) ?_
  refine lv_iconst (v := 4) hx hb dX12_feed_95 (by decide) ?_
  refine lv_irem hx hb dX12_feed_96 (by decide) ?_
  refine q_c 3 (by decide +kernel) ?_
  refine lv_imul hx hb dX12_feed_97 ?_
  refine q_c 24 (by decide +kernel) ?_
  refine lv_isub hx hb dX12_feed_98 ?_
  refine q_c 0 (by decide +kernel) ?_
  refine lv_ishr hx hb dX12_feed_99 ?_
  refine lv_sipush (v := 255) hx hb dX12_feed_100 (by decide) ?_
  refine lv_iand hx hb dX12_feed_103 ?_
  refine q_iast X hK hw45 1 rfl (q_in (by decide +kernel)) dX12_feed_104 (fun Hp48 lc48 hw48 => ?_)
  clear Hp45 lc45 hw45
  replace hw48 : qW D _ _ [(h0, .inr (12, [.int 0, .ref h2, .ref h3, .ref h1, .ref h4, .int 11, .int 0, .int 0, .int 0, .int 0, .int 0, .int 0, .int 0, .int 0, .int (-1), .int 0, .ref h5, .ref h6, .ref h7, .ref h8, .ref h9, .int 0, .int 0, .ref h10, .ref h11, .ref h12, .int 0, .int 0, .ref h13, .ref h14, .ref h15, .ref h16, .ref h17, .int 0, .ref h18, .ref h19, .ref h20])), (h1, .inl (cy 1, 900, .inl (upd f_820 (Int32.toNatClampNeg 11) ((p2 >>> (0 &&& 31)) &&& 255))))] _ _ := hw48
  generalize (upd f_820 (Int32.toNatClampNeg 11) ((p2 >>> (0 &&& 31)) &&& 255)) = f_821 at hw48
  refine lv_aload_n hx hb dX12_feed_105 rfl (lv_at hv47 2 rfl) ?_
  refine lv_dup hx hb dX12_feed_106 rfl ?_
  refine q_get X hK hw48 0 rfl rfl wf_12 5 (by decide) rfl wm_5_175 dX12_feed_107 ?_
  refine lv_iconst (v := 1) hx hb dX12_feed_110 (by decide) ?_
  refine lv_iadd hx hb dX12_feed_111 ?_
  refine q_c 12 (by decide +kernel) ?_
  refine q_put (v := .int 12) X hK hw48 0 rfl rfl wf_12 tyX12 tyX12_ok nmX12 5 (by decide) wm_5_175 rfl rfl rfl (Nat.le_of_ble_eq_true rfl) dX12_feed_112 (fun Hp49 lc49 hw49 => ?_)
  clear Hp48 lc48 hw48
  replace hw49 : qW D _ _ [(h0, .inr (12, [.int 0, .ref h2, .ref h3, .ref h1, .ref h4, .int 12, .int 0, .int 0, .int 0, .int 0, .int 0, .int 0, .int 0, .int 0, .int (-1), .int 0, .ref h5, .ref h6, .ref h7, .ref h8, .ref h9, .int 0, .int 0, .ref h10, .ref h11, .ref h12, .int 0, .int 0, .ref h13, .ref h14, .ref h15, .ref h16, .ref h17, .int 0, .ref h18, .ref h19, .ref h20])), (h1, .inl (cy 1, 900, .inl f_821))] _ _ := hw49
  refine lv_iinc (v := 12) (lv' := [(6, .int 12), (7, .int p2), (0, .ref h0), (1, .int p0), (2, .int p1), (3, .int p2), (4, .int p3), (5, .int p4)]) hx hb dX12_feed_115 hv47 (k := 1) rfl (by decide +kernel) (by decide) rfl (fun lz50 hv50 => ?_)
  clear lz47 hv47
  refine lv_goto (tgt := 24) hx hb dX12_feed_118 (by decide) ?_
  refine lv_iload hx hb dX12_feed_24 (lv_at hv50 0 rfl) ?_
  refine lv_bipush (v := 20) hx hb dX12_feed_26 (by decide) ?_
  refine lv_icmp_ge (tgt := 121) hx hb dX12_feed_28 (by decide) (fun c => absurd c (by decide +kernel)) (fun _ => ?_)
  refine lv_iload hx hb dX12_feed_31 (lv_at hv50 0 rfl) ?_
  refine lv_iconst (v := 4) hx hb dX12_feed_33 (by decide) ?_
  refine lv_icmp_ge (tgt := 41) hx hb dX12_feed_34 (by decide) (fun _ => ?_) (fun c => absurd c (by decide +kernel))
  refine lv_iload hx hb dX12_feed_41 (lv_at hv50 0 rfl) ?_
  refine lv_bipush (v := 8) hx hb dX12_feed_43 (by decide) ?_
  refine lv_icmp_ge (tgt := 52) hx hb dX12_feed_45 (by decide) (fun _ => ?_) (fun c => absurd c (by decide +kernel))
  refine lv_iload hx hb dX12_feed_52 (lv_at hv50 0 rfl) ?_
  refine lv_bipush (v := 12) hx hb dX12_feed_54 (by decide) ?_
  refine lv_icmp_ge (tgt := 63) hx hb dX12_feed_56 (by decide) (fun _ => ?_) (fun c => absurd c (by decide +kernel))
  refine lv_iload hx hb dX12_feed_63 (lv_at hv50 0 rfl) ?_
  refine lv_bipush (v := 16) hx hb dX12_feed_65 (by decide) ?_
  refine lv_icmp_ge (tgt := 75) hx hb dX12_feed_67 (by decide) (fun c => absurd c (by decide +kernel)) (fun _ => ?_)
  refine lv_iload hx hb dX12_feed_70 (lv_at hv50 6 rfl) ?_
  refine lv_goto (tgt := 77) hx hb dX12_feed_72 (by decide) ?_
  refine lv_istore (lv' := [(7, .int p3), (6, .int 12), (0, .ref h0), (1, .int p0), (2, .int p1), (3, .int p2), (4, .int p3), (5, .int p4)]) hx hb dX12_feed_77 hv50 (by decide) rfl (fun lz51 hv51 => ?_)
  clear lz50 hv50
  refine lv_aload_n hx hb dX12_feed_79 rfl (lv_at hv51 2 rfl) ?_
  refine q_get X hK hw49 0 rfl rfl wf_12 3 (by decide) rfl wm_5_173 dX12_feed_80 ?_
  refine lv_aload_n hx hb dX12_feed_83 rfl (lv_at hv51 2 rfl) ?_
  refine q_get X hK hw49 0 rfl rfl wf_12 5 (by decide) rfl wm_5_175 dX12_feed_84 ?_
  refine lv_iload hx hb dX12_feed_87 (lv_at hv51 0 rfl) ?_
  refine lv_bipush (v := 24) hx hb dX12_feed_89 (by decide) ?_
  refine lv_bipush (v := 8) hx hb dX12_feed_91 (by decide) ?_
  refine lv_iload hx hb dX12_feed_93 (lv_at hv51 1 rfl) ?_
  refine lv_iconst (v := 4) hx hb dX12_feed_95 (by decide) ?_
  refine lv_irem hx hb dX12_feed_96 (by decide) ?_
  refine q_c 0 (by decide +kernel) ?_
  refine lv_imul hx hb dX12_feed_97 ?_
  refine q_c 0 (by decide +kernel) ?_
  refine lv_isub hx hb dX12_feed_98 ?_
  refine q_c 24 (by decide +kernel) ?_
  refine lv_ishr hx hb dX12_feed_99 ?_
  refine lv_sipush (v := 255) hx hb dX12_feed_100 (by decide) ?_
  refine lv_iand hx hb dX12_feed_103 ?_
  refine q_iast X hK hw49 1 rfl (q_in (by decide +kernel)) dX12_feed_104 (fun Hp52 lc52 hw52 => ?_)
  clear Hp49 lc49 hw49
  replace hw52 : qW D _ _ [(h0, .inr (12, [.int 0, .ref h2, .ref h3, .ref h1, .ref h4, .int 12, .int 0, .int 0, .int 0, .int 0, .int 0, .int 0, .int 0, .int 0, .int (-1), .int 0, .ref h5, .ref h6, .ref h7, .ref h8, .ref h9, .int 0, .int 0, .ref h10, .ref h11, .ref h12, .int 0, .int 0, .ref h13, .ref h14, .ref h15, .ref h16, .ref h17, .int 0, .ref h18, .ref h19, .ref h20])), (h1, .inl (cy 1, 900, .inl (upd f_821 (Int32.toNatClampNeg 12) ((p3 >>> (24 &&& 31)) &&& 255))))] _ _ := hw52
  generalize (upd f_821 (Int32.toNatClampNeg 12) ((p3 >>> (24 &&& 31)) &&& 255)) = f_822 at hw52
  refine lv_aload_n hx hb dX12_feed_105 rfl (lv_at hv51 2 rfl) ?_
  refine lv_dup hx hb dX12_feed_106 rfl ?_
  refine q_get X hK hw52 0 rfl rfl wf_12 5 (by decide) rfl wm_5_175 dX12_feed_107 ?_
  refine lv_iconst (v := 1) hx hb dX12_feed_110 (by decide) ?_
  refine lv_iadd hx hb dX12_feed_111 ?_
  refine q_c 13 (by decide +kernel) ?_
  refine q_put (v := .int 13) X hK hw52 0 rfl rfl wf_12 tyX12 tyX12_ok nmX12 5 (by decide) wm_5_175 rfl rfl rfl (Nat.le_of_ble_eq_true rfl) dX12_feed_112 (fun Hp53 lc53 hw53 => ?_)
  clear Hp52 lc52 hw52
  replace hw53 : qW D _ _ [(h0, .inr (12, [.int 0, .ref h2, .ref h3, .ref h1, .ref h4, .int 13, .int 0, .int 0, .int 0, .int 0, .int 0, .int 0, .int 0, .int 0, .int (-1), .int 0, .ref h5, .ref h6, .ref h7, .ref h8, .ref h9, .int 0, .int 0, .ref h10, .ref h11, .ref h12, .int 0, .int 0, .ref h13, .ref h14, .ref h15, .ref h16, .ref h17, .int 0, .ref h18, .ref h19, .ref h20])), (h1, .inl (cy 1, 900, .inl f_822))] _ _ := hw53
  refine lv_iinc (v := 13) (lv' := [(6, .int 13), (7, .int p3), (0, .ref h0), (1, .int p0), (2, .int p1), (3, .int p2), (4, .int p3), (5, .int p4)]) hx hb dX12_feed_115 hv51 (k := 1) rfl (by decide +kernel) (by decide) rfl (fun lz54 hv54 => ?_)
  clear lz51 hv51
  refine lv_goto (tgt := 24) hx hb dX12_feed_118 (by decide) ?_
  refine lv_iload hx hb dX12_feed_24 (lv_at hv54 0 rfl) ?_
  refine lv_bipush (v := 20) hx hb dX12_feed_26 (by decide) ?_
  refine lv_icmp_ge (tgt := 121) hx hb dX12_feed_28 (by decide) (fun c => absurd c (by decide +kernel)) (fun _ => ?_)
  refine lv_iload hx hb dX12_feed_31 (lv_at hv54 0 rfl) ?_
  refine lv_iconst (v := 4) hx hb dX12_feed_33 (by decide) ?_
  refine lv_icmp_ge (tgt := 41) hx hb dX12_feed_34 (by decide) (fun _ => ?_) (fun c => absurd c (by decide +kernel))
  refine lv_iload hx hb dX12_feed_41 (lv_at hv54 0 rfl) ?_
  refine lv_bipush (v := 8) hx hb dX12_feed_43 (by decide) ?_
  refine lv_icmp_ge (tgt := 52) hx hb dX12_feed_45 (by decide) (fun _ => ?_) (fun c => absurd c (by decide +kernel))
  refine lv_iload hx hb dX12_feed_52 (lv_at hv54 0 rfl) ?_
  refine lv_bipush (v := 12) hx hb dX12_feed_54 (by decide) ?_
  refine lv_icmp_ge (tgt := 63) hx hb dX12_feed_56 (by decide) (fun _ => ?_) (fun c => absurd c (by decide +kernel))
  refine lv_iload hx hb dX12_feed_63 (lv_at hv54 0 rfl) ?_
  refine lv_bipush (v := 16) hx hb dX12_feed_65 (by decide) ?_
  refine lv_icmp_ge (tgt := 75) hx hb dX12_feed_67 (by decide) (fun c => absurd c (by decide +kernel)) (fun _ => ?_)
  refine lv_iload hx hb dX12_feed_70 (lv_at hv54 6 rfl) ?_
  refine lv_goto (tgt := 77) hx hb dX12_feed_72 (by decide) ?_
  refine lv_istore (lv' := [(7, .int p3), (6, .int 13), (0, .ref h0), (1, .int p0), (2, .int p1), (3, .int p2), (4, .int p3), (5, .int p4)]) hx hb dX12_feed_77 hv54 (by decide) rfl (fun lz55 hv55 => ?_)
  clear lz54 hv54
  refine lv_aload_n hx hb dX12_feed_79 rfl (lv_at hv55 2 rfl) ?_
  refine q_get X hK hw53 0 rfl rfl wf_12 3 (by decide) rfl wm_5_173 dX12_feed_80 ?_
  refine lv_aload_n hx hb dX12_feed_83 rfl (lv_at hv55 2 rfl) ?_
  refine q_get X hK hw53 0 rfl rfl wf_12 5 (by decide) rfl wm_5_175 dX12_feed_84 ?_
  refine lv_iload hx hb dX12_feed_87 (lv_at hv55 0 rfl) ?_
  refine lv_bipush (v := 24) hx hb dX12_feed_89 (by decide) ?_
  refine lv_bipush (v := 8) hx hb dX12_feed_91 (by decide) ?_
  refine lv_iload hx hb dX12_feed_93 (lv_at hv55 1 rfl) ?_
  refine lv_iconst (v := 4) hx hb dX12_feed_95 (by decide) ?_
  refine lv_irem hx hb dX12_feed_96 (by decide) ?_
  refine q_c 1 (by decide +kernel) ?_
  refine lv_imul hx hb dX12_feed_97 ?_
  refine q_c 8 (by decide +kernel) ?_
  refine lv_isub hx hb dX12_feed_98 ?_
  refine q_c 16 (by decide +kernel) ?_
  refine lv_ishr hx hb dX12_feed_99 ?_
  refine lv_sipush (v := 255) hx hb dX12_feed_100 (by decide) ?_
  refine lv_iand hx hb dX12_feed_103 ?_
  refine q_iast X hK hw53 1 rfl (q_in (by decide +kernel)) dX12_feed_104 (fun Hp56 lc56 hw56 => ?_)
  clear Hp53 lc53 hw53
  replace hw56 : qW D _ _ [(h0, .inr (12, [.int 0, .ref h2, .ref h3, .ref h1, .ref h4, .int 13, .int 0, .int 0, .int 0, .int 0, .int 0, .int 0, .int 0, .int 0, .int (-1), .int 0, .ref h5, .ref h6, .ref h7, .ref h8, .ref h9, .int 0, .int 0, .ref h10, .ref h11, .ref h12, .int 0, .int 0, .ref h13, .ref h14, .ref h15, .ref h16, .ref h17, .int 0, .ref h18, .ref h19, .ref h20])), (h1, .inl (cy 1, 900, .inl (upd f_822 (Int32.toNatClampNeg 13) ((p3 >>> (16 &&& 31)) &&& 255))))] _ _ := hw56
  generalize (upd f_822 (Int32.toNatClampNeg 13) ((p3 >>> (16 &&& 31)) &&& 255)) = f_823 at hw56
  refine lv_aload_n hx hb dX12_feed_105 rfl (lv_at hv55 2 rfl) ?_
  refine lv_dup hx hb dX12_feed_106 rfl ?_
  refine q_get X hK hw56 0 rfl rfl wf_12 5 (by decide) rfl wm_5_175 dX12_feed_107 ?_
  refine lv_iconst (v := 1) hx hb dX12_feed_110 (by decide) ?_
  refine lv_iadd hx hb dX12_feed_111 ?_
  refine q_c 14 (by decide +kernel) ?_
  refine q_put (v := .int 14) X hK hw56 0 rfl rfl wf_12 tyX12 tyX12_ok nmX12 5 (by decide) wm_5_175 rfl rfl rfl (Nat.le_of_ble_eq_true rfl) dX12_feed_112 (fun Hp57 lc57 hw57 => ?_)
  clear Hp56 lc56 hw56
  replace hw57 : qW D _ _ [(h0, .inr (12, [.int 0, .ref h2, .ref h3, .ref h1, .ref h4, .int 14, .int 0, .int 0, .int 0, .int 0, .int 0, .int 0, .int 0, .int 0, .int (-1), .int 0, .ref h5, .ref h6, .ref h7, .ref h8, .ref h9, .int 0, .int 0, .ref h10, .ref h11, .ref h12, .int 0, .int 0, .ref h13, .ref h14, .ref h15, .ref h16, .ref h17, .int 0, .ref h18, .ref h19, .ref h20])), (h1, .inl (cy 1, 900, .inl f_823))] _ _ := hw57
  refine lv_iinc (v := 14) (lv' := [(6, .int 14), (7, .int p3), (0, .ref h0), (1, .int p0), (2, .int p1), (3, .int p2), (4, .int p3), (5, .int p4)]) hx hb dX12_feed_115 hv55 (k := 1) rfl (by decide +kernel) (by decide) rfl (fun lz58 hv58 => ?_)
  clear lz55 hv55
  refine lv_goto (tgt := 24) hx hb dX12_feed_118 (by decide) ?_
  refine lv_iload hx hb dX12_feed_24 (lv_at hv58 0 rfl) ?_
  refine lv_bipush (v := 20) hx hb dX12_feed_26 (by decide) ?_
  refine lv_icmp_ge (tgt := 121) hx hb dX12_feed_28 (by decide) (fun c => absurd c (by decide +kernel)) (fun _ => ?_)
  refine lv_iload hx hb dX12_feed_31 (lv_at hv58 0 rfl) ?_
  refine lv_iconst (v := 4) hx hb dX12_feed_33 (by decide) ?_
  refine lv_icmp_ge (tgt := 41) hx hb dX12_feed_34 (by decide) (fun _ => ?_) (fun c => absurd c (by decide +kernel))
  refine lv_iload hx hb dX12_feed_41 (lv_at hv58 0 rfl) ?_
  refine lv_bipush (v := 8) hx hb dX12_feed_43 (by decide) ?_
  refine lv_icmp_ge (tgt := 52) hx hb dX12_feed_45 (by decide) (fun _ => ?_) (fun c => absurd c (by decide +kernel))
  refine lv_iload hx hb dX12_feed_52 (lv_at hv58 0 rfl) ?_
  refine lv_bipush (v := 12) hx hb dX12_feed_54 (by decide) ?_
  refine lv_icmp_ge (tgt := 63) hx hb dX12_feed_56 (by decide) (fun _ => ?_) (fun c => absurd c (by decide +kernel))
  refine lv_iload hx hb dX12_feed_63 (lv_at hv58 0 rfl) ?_
  refine lv_bipush (v := 16) hx hb dX12_feed_65 (by decide) ?_
  refine lv_icmp_ge (tgt := 75) hx hb dX12_feed_67 (by decide) (fun c => absurd c (by decide +kernel)) (fun _ => ?_)
  refine lv_iload hx hb dX12_feed_70 (lv_at hv58 6 rfl) ?_
  refine lv_goto (tgt := 77) hx hb dX12_feed_72 (by decide) ?_
  refine lv_istore (lv' := [(7, .int p3), (6, .int 14), (0, .ref h0), (1, .int p0), (2, .int p1), (3, .int p2), (4, .int p3), (5, .int p4)]) hx hb dX12_feed_77 hv58 (by decide) rfl (fun lz59 hv59 => ?_)
  clear lz58 hv58
  refine lv_aload_n hx hb dX12_feed_79 rfl (lv_at hv59 2 rfl) ?_
  refine q_get X hK hw57 0 rfl rfl wf_12 3 (by decide) rfl wm_5_173 dX12_feed_80 ?_
  refine lv_aload_n hx hb dX12_feed_83 rfl (lv_at hv59 2 rfl) ?_
  refine q_get X hK hw57 0 rfl rfl wf_12 5 (by decide) rfl wm_5_175 dX12_feed_84 ?_
  refine lv_iload hx hb dX12_feed_87 (lv_at hv59 0 rfl) ?_
  refine lv_bipush (v := 24) hx hb dX12_feed_89 (by decide) ?_
  refine lv_bipush (v := 8) hx hb dX12_feed_91 (by decide) ?_
  refine lv_iload hx hb dX12_feed_93 (lv_at hv59 1 rfl) ?_
  refine lv_iconst (v := 4) hx hb dX12_feed_95 (by decide) ?_
  refine lv_irem hx hb dX12_feed_96 (by decide) ?_
  refine q_c 2 (by decide +kernel) ?_
  refine lv_imul hx hb dX12_feed_97 ?_
  refine q_c 16 (by decide +kernel) ?_
  refine lv_isub hx hb dX12_feed_98 ?_
  refine q_c 8 (by decide +kernel) ?_
  refine lv_ishr hx hb dX12_feed_99 ?_
  refine lv_sipush (v := 255) hx hb dX12_feed_100 (by decide) ?_
  refine lv_iand hx hb dX12_feed_103 ?_
  refine q_iast X hK hw57 1 rfl (q_in (by decide +kernel)) dX12_feed_104 (fun Hp60 lc60 hw60 => ?_)
  clear Hp57 lc57 hw57
  replace hw60 : qW D _ _ [(h0, .inr (12, [.int 0, .ref h2, .ref h3, .ref h1, .ref h4, .int 14, .int 0, .int 0, .int 0, .int 0, .int 0, .int 0, .int 0, .int 0, .int (-1), .int 0, .ref h5, .ref h6, .ref h7, .ref h8, .ref h9, .int 0, .int 0, .ref h10, .ref h11, .ref h12, .int 0, .int 0, .ref h13, .ref h14, .ref h15, .ref h16, .ref h17, .int 0, .ref h18, .ref h19, .ref h20])), (h1, .inl (cy 1, 900, .inl (upd f_823 (Int32.toNatClampNeg 14) ((p3 >>> (8 &&& 31)) &&& 255))))] _ _ := hw60
  generalize (upd f_823 (Int32.toNatClampNeg 14) ((p3 >>> (8 &&& 31)) &&& 255)) = f_824 at hw60
  refine lv_aload_n hx hb dX12_feed_105 rfl (lv_at hv59 2 rfl) ?_
  refine lv_dup hx hb dX12_feed_106 rfl ?_
  refine q_get X hK hw60 0 rfl rfl wf_12 5 (by decide) rfl wm_5_175 dX12_feed_107 ?_
  refine lv_iconst (v := 1) hx hb dX12_feed_110 (by decide) ?_
  refine lv_iadd hx hb dX12_feed_111 ?_
  refine q_c 15 (by decide +kernel) ?_
  refine q_put (v := .int 15) X hK hw60 0 rfl rfl wf_12 tyX12 tyX12_ok nmX12 5 (by decide) wm_5_175 rfl rfl rfl (Nat.le_of_ble_eq_true rfl) dX12_feed_112 (fun Hp61 lc61 hw61 => ?_)
  clear Hp60 lc60 hw60
  replace hw61 : qW D _ _ [(h0, .inr (12, [.int 0, .ref h2, .ref h3, .ref h1, .ref h4, .int 15, .int 0, .int 0, .int 0, .int 0, .int 0, .int 0, .int 0, .int 0, .int (-1), .int 0, .ref h5, .ref h6, .ref h7, .ref h8, .ref h9, .int 0, .int 0, .ref h10, .ref h11, .ref h12, .int 0, .int 0, .ref h13, .ref h14, .ref h15, .ref h16, .ref h17, .int 0, .ref h18, .ref h19, .ref h20])), (h1, .inl (cy 1, 900, .inl f_824))] _ _ := hw61
  refine lv_iinc (v := 15) (lv' := [(6, .int 15), (7, .int p3), (0, .ref h0), (1, .int p0), (2, .int p1), (3, .int p2), (4, .int p3), (5, .int p4)]) hx hb dX12_feed_115 hv59 (k := 1) rfl (by decide +kernel) (by decide) rfl (fun lz62 hv62 => ?_)
  clear lz59 hv59
  refine lv_goto (tgt := 24) hx hb dX12_feed_118 (by decide) ?_
  refine lv_iload hx hb dX12_feed_24 (lv_at hv62 0 rfl) ?_
  refine lv_bipush (v := 20) hx hb dX12_feed_26 (by decide) ?_
  refine lv_icmp_ge (tgt := 121) hx hb dX12_feed_28 (by decide) (fun c => absurd c (by decide +kernel)) (fun _ => ?_)
  refine lv_iload hx hb dX12_feed_31 (lv_at hv62 0 rfl) ?_
  refine lv_iconst (v := 4) hx hb dX12_feed_33 (by decide) ?_
  refine lv_icmp_ge (tgt := 41) hx hb dX12_feed_34 (by decide) (fun _ => ?_) (fun c => absurd c (by decide +kernel))
  refine lv_iload hx hb dX12_feed_41 (lv_at hv62 0 rfl) ?_
  refine lv_bipush (v := 8) hx hb dX12_feed_43 (by decide) ?_
  refine lv_icmp_ge (tgt := 52) hx hb dX12_feed_45 (by decide) (fun _ => ?_) (fun c => absurd c (by decide +kernel))
  refine lv_iload hx hb dX12_feed_52 (lv_at hv62 0 rfl) ?_
  refine lv_bipush (v := 12) hx hb dX12_feed_54 (by decide) ?_
  refine lv_icmp_ge (tgt := 63) hx hb dX12_feed_56 (by decide) (fun _ => ?_) (fun c => absurd c (by decide +kernel))
  refine lv_iload hx hb dX12_feed_63 (lv_at hv62 0 rfl) ?_
  refine lv_bipush (v := 16) hx hb dX12_feed_65 (by decide) ?_
  refine lv_icmp_ge (tgt := 75) hx hb dX12_feed_67 (by decide) (fun c => absurd c (by decide +kernel)) (fun _ => ?_)
  refine lv_iload hx hb dX12_feed_70 (lv_at hv62 6 rfl) ?_
  refine lv_goto (tgt := 77) hx hb dX12_feed_72 (by decide) ?_
  refine lv_istore (lv' := [(7, .int p3), (6, .int 15), (0, .ref h0), (1, .int p0), (2, .int p1), (3, .int p2), (4, .int p3), (5, .int p4)]) hx hb dX12_feed_77 hv62 (by decide) rfl (fun lz63 hv63 => ?_)
  clear lz62 hv62
  refine lv_aload_n hx hb dX12_feed_79 rfl (lv_at hv63 2 rfl) ?_
  refine q_get X hK hw61 0 rfl rfl wf_12 3 (by decide) rfl wm_5_173 dX12_feed_80 ?_
  refine lv_aload_n hx hb dX12_feed_83 rfl (lv_at hv63 2 rfl) ?_
  refine q_get X hK hw61 0 rfl rfl wf_12 5 (by decide) rfl wm_5_175 dX12_feed_84 ?_
  refine lv_iload hx hb dX12_feed_87 (lv_at hv63 0 rfl) ?_
  refine lv_bipush (v := 24) hx hb dX12_feed_89 (by decide) ?_
  refine lv_bipush (v := 8) hx hb dX12_feed_91 (by decide) ?_
  refine lv_iload hx hb dX12_feed_93 (lv_at hv63 1 rfl) ?_
  refine lv_iconst (v := 4) hx hb dX12_feed_95 (by decide) ?_
  refine lv_irem hx hb dX12_feed_96 (by decide) ?_
  refine q_c 3 (by decide +kernel) ?_
  refine lv_imul hx hb dX12_feed_97 ?_
  refine q_c 24 (by decide +kernel) ?_
  refine lv_isub hx hb dX12_feed_98 ?_
  refine q_c 0 (by decide +kernel) ?_
  refine lv_ishr hx hb dX12_feed_99 ?_
  refine lv_sipush (v := 255) hx hb dX12_feed_100 (by decide) ?_
  refine lv_iand hx hb dX12_feed_103 ?_
  refine q_iast X hK hw61 1 rfl (q_in (by decide +kernel)) dX12_feed_104 (fun Hp64 lc64 hw64 => ?_)
  clear Hp61 lc61 hw61
  replace hw64 : qW D _ _ [(h0, .inr (12, [.int 0, .ref h2, .ref h3, .ref h1, .ref h4, .int 15, .int 0, .int 0, .int 0, .int 0, .int 0, .int 0, .int 0, .int 0, .int (-1), .int 0, .ref h5, .ref h6, .ref h7, .ref h8, .ref h9, .int 0, .int 0, .ref h10, .ref h11, .ref h12, .int 0, .int 0, .ref h13, .ref h14, .ref h15, .ref h16, .ref h17, .int 0, .ref h18, .ref h19, .ref h20])), (h1, .inl (cy 1, 900, .inl (upd f_824 (Int32.toNatClampNeg 15) ((p3 >>> (0 &&& 31)) &&& 255))))] _ _ := hw64
  generalize (upd f_824 (Int32.toNatClampNeg 15) ((p3 >>> (0 &&& 31)) &&& 255)) = f_825 at hw64
  refine lv_aload_n hx hb dX12_feed_105 rfl (lv_at hv63 2 rfl) ?_
  refine lv_dup hx hb dX12_feed_106 rfl ?_
  refine q_get X hK hw64 0 rfl rfl wf_12 5 (by decide) rfl wm_5_175 dX12_feed_107 ?_
  refine lv_iconst (v := 1) hx hb dX12_feed_110 (by decide) ?_
  refine lv_iadd hx hb dX12_feed_111 ?_
  refine q_c 16 (by decide +kernel) ?_
  refine q_put (v := .int 16) X hK hw64 0 rfl rfl wf_12 tyX12 tyX12_ok nmX12 5 (by decide) wm_5_175 rfl rfl rfl (Nat.le_of_ble_eq_true rfl) dX12_feed_112 (fun Hp65 lc65 hw65 => ?_)
  clear Hp64 lc64 hw64
  replace hw65 : qW D _ _ [(h0, .inr (12, [.int 0, .ref h2, .ref h3, .ref h1, .ref h4, .int 16, .int 0, .int 0, .int 0, .int 0, .int 0, .int 0, .int 0, .int 0, .int (-1), .int 0, .ref h5, .ref h6, .ref h7, .ref h8, .ref h9, .int 0, .int 0, .ref h10, .ref h11, .ref h12, .int 0, .int 0, .ref h13, .ref h14, .ref h15, .ref h16, .ref h17, .int 0, .ref h18, .ref h19, .ref h20])), (h1, .inl (cy 1, 900, .inl f_825))] _ _ := hw65
  refine lv_iinc (v := 16) (lv' := [(6, .int 16), (7, .int p3), (0, .ref h0), (1, .int p0), (2, .int p1), (3, .int p2), (4, .int p3), (5, .int p4)]) hx hb dX12_feed_115 hv63 (k := 1) rfl (by decide +kernel) (by decide) rfl (fun lz66 hv66 => ?_)
  clear lz63 hv63
  refine lv_goto (tgt := 24) hx hb dX12_feed_118 (by decide) ?_
  refine lv_iload hx hb dX12_feed_24 (lv_at hv66 0 rfl) ?_
  refine lv_bipush (v := 20) hx hb dX12_feed_26 (by decide) ?_
  refine lv_icmp_ge (tgt := 121) hx hb dX12_feed_28 (by decide) (fun c => absurd c (by decide +kernel)) (fun _ => ?_)
  refine lv_iload hx hb dX12_feed_31 (lv_at hv66 0 rfl) ?_
  refine lv_iconst (v := 4) hx hb dX12_feed_33 (by decide) ?_
  refine lv_icmp_ge (tgt := 41) hx hb dX12_feed_34 (by decide) (fun _ => ?_) (fun c => absurd c (by decide +kernel))
  refine lv_iload hx hb dX12_feed_41 (lv_at hv66 0 rfl) ?_
  refine lv_bipush (v := 8) hx hb dX12_feed_43 (by decide) ?_
  refine lv_icmp_ge (tgt := 52) hx hb dX12_feed_45 (by decide) (fun _ => ?_) (fun c => absurd c (by decide +kernel))
  refine lv_iload hx hb dX12_feed_52 (lv_at hv66 0 rfl) ?_
  refine lv_bipush (v := 12) hx hb dX12_feed_54 (by decide) ?_
  refine lv_icmp_ge (tgt := 63) hx hb dX12_feed_56 (by decide) (fun _ => ?_) (fun c => absurd c (by decide +kernel))
  refine lv_iload hx hb dX12_feed_63 (lv_at hv66 0 rfl) ?_
  refine lv_bipush (v := 16) hx hb dX12_feed_65 (by decide) ?_
  refine lv_icmp_ge (tgt := 75) hx hb dX12_feed_67 (by decide) (fun _ => ?_) (fun c => absurd c (by decide +kernel))
  refine lv_iload hx hb dX12_feed_75 (lv_at hv66 7 rfl) ?_
  refine lv_istore (lv' := [(7, .int p4), (6, .int 16), (0, .ref h0), (1, .int p0), (2, .int p1), (3, .int p2), (4, .int p3), (5, .int p4)]) hx hb dX12_feed_77 hv66 (by decide) rfl (fun lz67 hv67 => ?_)
  clear lz66 hv66
  refine lv_aload_n hx hb dX12_feed_79 rfl (lv_at hv67 2 rfl) ?_
  refine q_get X hK hw65 0 rfl rfl wf_12 3 (by decide) rfl wm_5_173 dX12_feed_80 ?_
  refine lv_aload_n hx hb dX12_feed_83 rfl (lv_at hv67 2 rfl) ?_
  refine q_get X hK hw65 0 rfl rfl wf_12 5 (by decide) rfl wm_5_175 dX12_feed_84 ?_
  refine lv_iload hx hb dX12_feed_87 (lv_at hv67 0 rfl) ?_
  refine lv_bipush (v := 24) hx hb dX12_feed_89 (by decide) ?_
  refine lv_bipush (v := 8) hx hb dX12_feed_91 (by decide) ?_
  refine lv_iload hx hb dX12_feed_93 (lv_at hv67 1 rfl) ?_
  refine lv_iconst (v := 4) hx hb dX12_feed_95 (by decide) ?_
  refine lv_irem hx hb dX12_feed_96 (by decide) ?_
  refine q_c 0 (by decide +kernel) ?_
  refine lv_imul hx hb dX12_feed_97 ?_
  refine q_c 0 (by decide +kernel) ?_
  refine lv_isub hx hb dX12_feed_98 ?_
  refine q_c 24 (by decide +kernel) ?_
  refine lv_ishr hx hb dX12_feed_99 ?_
  refine lv_sipush (v := 255) hx hb dX12_feed_100 (by decide) ?_
  refine lv_iand hx hb dX12_feed_103 ?_
  refine q_iast X hK hw65 1 rfl (q_in (by decide +kernel)) dX12_feed_104 (fun Hp68 lc68 hw68 => ?_)
  clear Hp65 lc65 hw65
  replace hw68 : qW D _ _ [(h0, .inr (12, [.int 0, .ref h2, .ref h3, .ref h1, .ref h4, .int 16, .int 0, .int 0, .int 0, .int 0, .int 0, .int 0, .int 0, .int 0, .int (-1), .int 0, .ref h5, .ref h6, .ref h7, .ref h8, .ref h9, .int 0, .int 0, .ref h10, .ref h11, .ref h12, .int 0, .int 0, .ref h13, .ref h14, .ref h15, .ref h16, .ref h17, .int 0, .ref h18, .ref h19, .ref h20])), (h1, .inl (cy 1, 900, .inl (upd f_825 (Int32.toNatClampNeg 16) ((p4 >>> (24 &&& 31)) &&& 255))))] _ _ := hw68
  generalize (upd f_825 (Int32.toNatClampNeg 16) ((p4 >>> (24 &&& 31)) &&& 255)) = f_826 at hw68
  refine lv_aload_n hx hb dX12_feed_105 rfl (lv_at hv67 2 rfl) ?_
  refine lv_dup hx hb dX12_feed_106 rfl ?_
  refine q_get X hK hw68 0 rfl rfl wf_12 5 (by decide) rfl wm_5_175 dX12_feed_107 ?_
  refine lv_iconst (v := 1) hx hb dX12_feed_110 (by decide) ?_
  refine lv_iadd hx hb dX12_feed_111 ?_
  refine q_c 17 (by decide +kernel) ?_
  refine q_put (v := .int 17) X hK hw68 0 rfl rfl wf_12 tyX12 tyX12_ok nmX12 5 (by decide) wm_5_175 rfl rfl rfl (Nat.le_of_ble_eq_true rfl) dX12_feed_112 (fun Hp69 lc69 hw69 => ?_)
  clear Hp68 lc68 hw68
  replace hw69 : qW D _ _ [(h0, .inr (12, [.int 0, .ref h2, .ref h3, .ref h1, .ref h4, .int 17, .int 0, .int 0, .int 0, .int 0, .int 0, .int 0, .int 0, .int 0, .int (-1), .int 0, .ref h5, .ref h6, .ref h7, .ref h8, .ref h9, .int 0, .int 0, .ref h10, .ref h11, .ref h12, .int 0, .int 0, .ref h13, .ref h14, .ref h15, .ref h16, .ref h17, .int 0, .ref h18, .ref h19, .ref h20])), (h1, .inl (cy 1, 900, .inl f_826))] _ _ := hw69
  refine lv_iinc (v := 17) (lv' := [(6, .int 17), (7, .int p4), (0, .ref h0), (1, .int p0), (2, .int p1), (3, .int p2), (4, .int p3), (5, .int p4)]) hx hb dX12_feed_115 hv67 (k := 1) rfl (by decide +kernel) (by decide) rfl (fun lz70 hv70 => ?_)
  clear lz67 hv67
  refine lv_goto (tgt := 24) hx hb dX12_feed_118 (by decide) ?_
  refine lv_iload hx hb dX12_feed_24 (lv_at hv70 0 rfl) ?_
  refine lv_bipush (v := 20) hx hb dX12_feed_26 (by decide) ?_
  refine lv_icmp_ge (tgt := 121) hx hb dX12_feed_28 (by decide) (fun c => absurd c (by decide +kernel)) (fun _ => ?_)
  refine lv_iload hx hb dX12_feed_31 (lv_at hv70 0 rfl) ?_
  refine lv_iconst (v := 4) hx hb dX12_feed_33 (by decide) ?_
  refine lv_icmp_ge (tgt := 41) hx hb dX12_feed_34 (by decide) (fun _ => ?_) (fun c => absurd c (by decide +kernel))
  refine lv_iload hx hb dX12_feed_41 (lv_at hv70 0 rfl) ?_
  refine lv_bipush (v := 8) hx hb dX12_feed_43 (by decide) ?_
  refine lv_icmp_ge (tgt := 52) hx hb dX12_feed_45 (by decide) (fun _ => ?_) (fun c => absurd c (by decide +kernel))
  refine lv_iload hx hb dX12_feed_52 (lv_at hv70 0 rfl) ?_
  refine lv_bipush (v := 12) hx hb dX12_feed_54 (by decide) ?_
  refine lv_icmp_ge (tgt := 63) hx hb dX12_feed_56 (by decide) (fun _ => ?_) (fun c => absurd c (by decide +kernel))
  refine lv_iload hx hb dX12_feed_63 (lv_at hv70 0 rfl) ?_
  refine lv_bipush (v := 16) hx hb dX12_feed_65 (by decide) ?_
  refine lv_icmp_ge (tgt := 75) hx hb dX12_feed_67 (by decide) (fun _ => ?_) (fun c => absurd c (by decide +kernel))
  refine lv_iload hx hb dX12_feed_75 (lv_at hv70 7 rfl) ?_
  refine lv_istore (lv' := [(7, .int p4), (6, .int 17), (0, .ref h0), (1, .int p0), (2, .int p1), (3, .int p2), (4, .int p3), (5, .int p4)]) hx hb dX12_feed_77 hv70 (by decide) rfl (fun lz71 hv71 => ?_)
  clear lz70 hv70
  refine lv_aload_n hx hb dX12_feed_79 rfl (lv_at hv71 2 rfl) ?_
  refine q_get X hK hw69 0 rfl rfl wf_12 3 (by decide) rfl wm_5_173 dX12_feed_80 ?_
  refine lv_aload_n hx hb dX12_feed_83 rfl (lv_at hv71 2 rfl) ?_
  refine q_get X hK hw69 0 rfl rfl wf_12 5 (by decide) rfl wm_5_175 dX12_feed_84 ?_
  refine lv_iload hx hb dX12_feed_87 (lv_at hv71 0 rfl) ?_
  refine lv_bipush (v := 24) hx hb dX12_feed_89 (by decide) ?_
  refine lv_bipush (v := 8) hx hb dX12_feed_91 (by decide) ?_
  refine lv_iload hx hb dX12_feed_93 (lv_at hv71 1 rfl) ?_
  refine lv_iconst (v := 4) hx hb dX12_feed_95 (by decide) ?_
  refine lv_irem hx hb dX12_feed_96 (by decide) ?_
  refine q_c 1 (by decide +kernel) ?_
  refine lv_imul hx hb dX12_feed_97 ?_
  refine q_c 8 (by decide +kernel) ?_
  refine lv_isub hx hb dX12_feed_98 ?_
  refine q_c 16 (by decide +kernel) ?_
  refine lv_ishr hx hb dX12_feed_99 ?_
  refine lv_sipush (v := 255) hx hb dX12_feed_100 (by decide) ?_
  refine lv_iand hx hb dX12_feed_103 ?_
  refine q_iast X hK hw69 1 rfl (q_in (by decide +kernel)) dX12_feed_104 (fun Hp72 lc72 hw72 => ?_)
  clear Hp69 lc69 hw69
  replace hw72 : qW D _ _ [(h0, .inr (12, [.int 0, .ref h2, .ref h3, .ref h1, .ref h4, .int 17, .int 0, .int 0, .int 0, .int 0, .int 0, .int 0, .int 0, .int 0, .int (-1), .int 0, .ref h5, .ref h6, .ref h7, .ref h8, .ref h9, .int 0, .int 0, .ref h10, .ref h11, .ref h12, .int 0, .int 0, .ref h13, .ref h14, .ref h15, .ref h16, .ref h17, .int 0, .ref h18, .ref h19, .ref h20])), (h1, .inl (cy 1, 900, .inl (upd f_826 (Int32.toNatClampNeg 17) ((p4 >>> (16 &&& 31)) &&& 255))))] _ _ := hw72
  generalize (upd f_826 (Int32.toNatClampNeg 17) ((p4 >>> (16 &&& 31)) &&& 255)) = f_827 at hw72
  refine lv_aload_n hx hb dX12_feed_105 rfl (lv_at hv71 2 rfl) ?_
  refine lv_dup hx hb dX12_feed_106 rfl ?_
  refine q_get X hK hw72 0 rfl rfl wf_12 5 (by decide) rfl wm_5_175 dX12_feed_107 ?_
  refine lv_iconst (v := 1) hx hb dX12_feed_110 (by decide) ?_
  refine lv_iadd hx hb dX12_feed_111 ?_
  refine q_c 18 (by decide +kernel) ?_
  refine q_put (v := .int 18) X hK hw72 0 rfl rfl wf_12 tyX12 tyX12_ok nmX12 5 (by decide) wm_5_175 rfl rfl rfl (Nat.le_of_ble_eq_true rfl) dX12_feed_112 (fun Hp73 lc73 hw73 => ?_)
  clear Hp72 lc72 hw72
  replace hw73 : qW D _ _ [(h0, .inr (12, [.int 0, .ref h2, .ref h3, .ref h1, .ref h4, .int 18, .int 0, .int 0, .int 0, .int 0, .int 0, .int 0, .int 0, .int 0, .int (-1), .int 0, .ref h5, .ref h6, .ref h7, .ref h8, .ref h9, .int 0, .int 0, .ref h10, .ref h11, .ref h12, .int 0, .int 0, .ref h13, .ref h14, .ref h15, .ref h16, .ref h17, .int 0, .ref h18, .ref h19, .ref h20])), (h1, .inl (cy 1, 900, .inl f_827))] _ _ := hw73
  refine lv_iinc (v := 18) (lv' := [(6, .int 18), (7, .int p4), (0, .ref h0), (1, .int p0), (2, .int p1), (3, .int p2), (4, .int p3), (5, .int p4)]) hx hb dX12_feed_115 hv71 (k := 1) rfl (by decide +kernel) (by decide) rfl (fun lz74 hv74 => ?_)
  clear lz71 hv71
  refine lv_goto (tgt := 24) hx hb dX12_feed_118 (by decide) ?_
  refine lv_iload hx hb dX12_feed_24 (lv_at hv74 0 rfl) ?_
  refine lv_bipush (v := 20) hx hb dX12_feed_26 (by decide) ?_
  refine lv_icmp_ge (tgt := 121) hx hb dX12_feed_28 (by decide) (fun c => absurd c (by decide +kernel)) (fun _ => ?_)
  refine lv_iload hx hb dX12_feed_31 (lv_at hv74 0 rfl) ?_
  refine lv_iconst (v := 4) hx hb dX12_feed_33 (by decide) ?_
  refine lv_icmp_ge (tgt := 41) hx hb dX12_feed_34 (by decide) (fun _ => ?_) (fun c => absurd c (by decide +kernel))
  refine lv_iload hx hb dX12_feed_41 (lv_at hv74 0 rfl) ?_
  refine lv_bipush (v := 8) hx hb dX12_feed_43 (by decide) ?_
  refine lv_icmp_ge (tgt := 52) hx hb dX12_feed_45 (by decide) (fun _ => ?_) (fun c => absurd c (by decide +kernel))
  refine lv_iload hx hb dX12_feed_52 (lv_at hv74 0 rfl) ?_
  refine lv_bipush (v := 12) hx hb dX12_feed_54 (by decide) ?_
  refine lv_icmp_ge (tgt := 63) hx hb dX12_feed_56 (by decide) (fun _ => ?_) (fun c => absurd c (by decide +kernel))
  refine lv_iload hx hb dX12_feed_63 (lv_at hv74 0 rfl) ?_
  refine lv_bipush (v := 16) hx hb dX12_feed_65 (by decide) ?_
  refine lv_icmp_ge (tgt := 75) hx hb dX12_feed_67 (by decide) (fun _ => ?_) (fun c => absurd c (by decide +kernel))
  refine lv_iload hx hb dX12_feed_75 (lv_at hv74 7 rfl) ?_
  refine lv_istore (lv' := [(7, .int p4), (6, .int 18), (0, .ref h0), (1, .int p0), (2, .int p1), (3, .int p2), (4, .int p3), (5, .int p4)]) hx hb dX12_feed_77 hv74 (by decide) rfl (fun lz75 hv75 => ?_)
  clear lz74 hv74
  refine lv_aload_n hx hb dX12_feed_79 rfl (lv_at hv75 2 rfl) ?_
  refine q_get X hK hw73 0 rfl rfl wf_12 3 (by decide) rfl wm_5_173 dX12_feed_80 ?_
  refine lv_aload_n hx hb dX12_feed_83 rfl (lv_at hv75 2 rfl) ?_
  refine q_get X hK hw73 0 rfl rfl wf_12 5 (by decide) rfl wm_5_175 dX12_feed_84 ?_
  refine lv_iload hx hb dX12_feed_87 (lv_at hv75 0 rfl) ?_
  refine lv_bipush (v := 24) hx hb dX12_feed_89 (by decide) ?_
  refine lv_bipush (v := 8) hx hb dX12_feed_91 (by decide) ?_
  refine lv_iload hx hb dX12_feed_93 (lv_at hv75 1 rfl) ?_
  refine lv_iconst (v := 4) hx hb dX12_feed_95 (by decide) ?_
  refine lv_irem hx hb dX12_feed_96 (by decide) ?_
  refine q_c 2 (by decide +kernel) ?_
  refine lv_imul hx hb dX12_feed_97 ?_
  refine q_c 16 (by decide +kernel) ?_
  refine lv_isub hx hb dX12_feed_98 ?_
  refine q_c 8 (by decide +kernel) ?_
  refine lv_ishr hx hb dX12_feed_99 ?_
  refine lv_sipush (v := 255) hx hb dX12_feed_100 (by decide) ?_
  refine lv_iand hx hb dX12_feed_103 ?_
  refine q_iast X hK hw73 1 rfl (q_in (by decide +kernel)) dX12_feed_104 (fun Hp76 lc76 hw76 => ?_)
  clear Hp73 lc73 hw73
  replace hw76 : qW D _ _ [(h0, .inr (12, [.int 0, .ref h2, .ref h3, .ref h1, .ref h4, .int 18, .int 0, .int 0, .int 0, .int 0, .int 0, .int 0, .int 0, .int 0, .int (-1), .int 0, .ref h5, .ref h6, .ref h7, .ref h8, .ref h9, .int 0, .int 0, .ref h10, .ref h11, .ref h12, .int 0, .int 0, .ref h13, .ref h14, .ref h15, .ref h16, .ref h17, .int 0, .ref h18, .ref h19, .ref h20])), (h1, .inl (cy 1, 900, .inl (upd f_827 (Int32.toNatClampNeg 18) ((p4 >>> (8 &&& 31)) &&& 255))))] _ _ := hw76
  generalize (upd f_827 (Int32.toNatClampNeg 18) ((p4 >>> (8 &&& 31)) &&& 255)) = f_828 at hw76
  refine lv_aload_n hx hb dX12_feed_105 rfl (lv_at hv75 2 rfl) ?_
  refine lv_dup hx hb dX12_feed_106 rfl ?_
  refine q_get X hK hw76 0 rfl rfl wf_12 5 (by decide) rfl wm_5_175 dX12_feed_107 ?_
  refine lv_iconst (v := 1) hx hb dX12_feed_110 (by decide) ?_
  refine lv_iadd hx hb dX12_feed_111 ?_
  refine q_c 19 (by decide +kernel) ?_
  refine q_put (v := .int 19) X hK hw76 0 rfl rfl wf_12 tyX12 tyX12_ok nmX12 5 (by decide) wm_5_175 rfl rfl rfl (Nat.le_of_ble_eq_true rfl) dX12_feed_112 (fun Hp77 lc77 hw77 => ?_)
  clear Hp76 lc76 hw76
  replace hw77 : qW D _ _ [(h0, .inr (12, [.int 0, .ref h2, .ref h3, .ref h1, .ref h4, .int 19, .int 0, .int 0, .int 0, .int 0, .int 0, .int 0, .int 0, .int 0, .int (-1), .int 0, .ref h5, .ref h6, .ref h7, .ref h8, .ref h9, .int 0, .int 0, .ref h10, .ref h11, .ref h12, .int 0, .int 0, .ref h13, .ref h14, .ref h15, .ref h16, .ref h17, .int 0, .ref h18, .ref h19, .ref h20])), (h1, .inl (cy 1, 900, .inl f_828))] _ _ := hw77
  refine lv_iinc (v := 19) (lv' := [(6, .int 19), (7, .int p4), (0, .ref h0), (1, .int p0), (2, .int p1), (3, .int p2), (4, .int p3), (5, .int p4)]) hx hb dX12_feed_115 hv75 (k := 1) rfl (by decide +kernel) (by decide) rfl (fun lz78 hv78 => ?_)
  clear lz75 hv75
  refine lv_goto (tgt := 24) hx hb dX12_feed_118 (by decide) ?_
  refine lv_iload hx hb dX12_feed_24 (lv_at hv78 0 rfl) ?_
  refine lv_bipush (v := 20) hx hb dX12_feed_26 (by decide) ?_
  refine lv_icmp_ge (tgt := 121) hx hb dX12_feed_28 (by decide) (fun c => absurd c (by decide +kernel)) (fun _ => ?_)
  refine lv_iload hx hb dX12_feed_31 (lv_at hv78 0 rfl) ?_
  refine lv_iconst (v := 4) hx hb dX12_feed_33 (by decide) ?_
  refine lv_icmp_ge (tgt := 41) hx hb dX12_feed_34 (by decide) (fun _ => ?_) (fun c => absurd c (by decide +kernel))
  refine lv_iload hx hb dX12_feed_41 (lv_at hv78 0 rfl) ?_
  refine lv_bipush (v := 8) hx hb dX12_feed_43 (by decide) ?_
  refine lv_icmp_ge (tgt := 52) hx hb dX12_feed_45 (by decide) (fun _ => ?_) (fun c => absurd c (by decide +kernel))
  refine lv_iload hx hb dX12_feed_52 (lv_at hv78 0 rfl) ?_
  refine lv_bipush (v := 12) hx hb dX12_feed_54 (by decide) ?_
  refine lv_icmp_ge (tgt := 63) hx hb dX12_feed_56 (by decide) (fun _ => ?_) (fun c => absurd c (by decide +kernel))
  refine lv_iload hx hb dX12_feed_63 (lv_at hv78 0 rfl) ?_
  refine lv_bipush (v := 16) hx hb dX12_feed_65 (by decide) ?_
  refine lv_icmp_ge (tgt := 75) hx hb dX12_feed_67 (by decide) (fun _ => ?_) (fun c => absurd c (by decide +kernel))
  refine lv_iload hx hb dX12_feed_75 (lv_at hv78 7 rfl) ?_
  refine lv_istore (lv' := [(7, .int p4), (6, .int 19), (0, .ref h0), (1, .int p0), (2, .int p1), (3, .int p2), (4, .int p3), (5, .int p4)]) hx hb dX12_feed_77 hv78 (by decide) rfl (fun lz79 hv79 => ?_)
  clear lz78 hv78
  refine lv_aload_n hx hb dX12_feed_79 rfl (lv_at hv79 2 rfl) ?_
  refine q_get X hK hw77 0 rfl rfl wf_12 3 (by decide) rfl wm_5_173 dX12_feed_80 ?_
  refine lv_aload_n hx hb dX12_feed_83 rfl (lv_at hv79 2 rfl) ?_
  refine q_get X hK hw77 0 rfl rfl wf_12 5 (by decide) rfl wm_5_175 dX12_feed_84 ?_
  refine lv_iload hx hb dX12_feed_87 (lv_at hv79 0 rfl) ?_
  refine lv_bipush (v := 24) hx hb dX12_feed_89 (by decide) ?_
  refine lv_bipush (v := 8) hx hb dX12_feed_91 (by decide) ?_
  refine lv_iload hx hb dX12_feed_93 (lv_at hv79 1 rfl) ?_
  refine lv_iconst (v := 4) hx hb dX12_feed_95 (by decide) ?_
  refine lv_irem hx hb dX12_feed_96 (by decide) ?_
  refine q_c 3 (by decide +kernel) ?_
  refine lv_imul hx hb dX12_feed_97 ?_
  refine q_c 24 (by decide +kernel) ?_
  refine lv_isub hx hb dX12_feed_98 ?_
  refine q_c 0 (by decide +kernel) ?_
  refine lv_ishr hx hb dX12_feed_99 ?_
  refine lv_sipush (v := 255) hx hb dX12_feed_100 (by decide) ?_
  refine lv_iand hx hb dX12_feed_103 ?_
  refine q_iast X hK hw77 1 rfl (q_in (by decide +kernel)) dX12_feed_104 (fun Hp80 lc80 hw80 => ?_)
  clear Hp77 lc77 hw77
  replace hw80 : qW D _ _ [(h0, .inr (12, [.int 0, .ref h2, .ref h3, .ref h1, .ref h4, .int 19, .int 0, .int 0, .int 0, .int 0, .int 0, .int 0, .int 0, .int 0, .int (-1), .int 0, .ref h5, .ref h6, .ref h7, .ref h8, .ref h9, .int 0, .int 0, .ref h10, .ref h11, .ref h12, .int 0, .int 0, .ref h13, .ref h14, .ref h15, .ref h16, .ref h17, .int 0, .ref h18, .ref h19, .ref h20])), (h1, .inl (cy 1, 900, .inl (upd f_828 (Int32.toNatClampNeg 19) ((p4 >>> (0 &&& 31)) &&& 255))))] _ _ := hw80
  generalize (upd f_828 (Int32.toNatClampNeg 19) ((p4 >>> (0 &&& 31)) &&& 255)) = f_829 at hw80
  refine lv_aload_n hx hb dX12_feed_105 rfl (lv_at hv79 2 rfl) ?_
  refine lv_dup hx hb dX12_feed_106 rfl ?_
  refine q_get X hK hw80 0 rfl rfl wf_12 5 (by decide) rfl wm_5_175 dX12_feed_107 ?_
  refine lv_iconst (v := 1) hx hb dX12_feed_110 (by decide) ?_
  refine lv_iadd hx hb dX12_feed_111 ?_
  refine q_c 20 (by decide +kernel) ?_
  refine q_put (v := .int 20) X hK hw80 0 rfl rfl wf_12 tyX12 tyX12_ok nmX12 5 (by decide) wm_5_175 rfl rfl rfl (Nat.le_of_ble_eq_true rfl) dX12_feed_112 (fun Hp81 lc81 hw81 => ?_)
  clear Hp80 lc80 hw80
  replace hw81 : qW D _ _ [(h0, .inr (12, [.int 0, .ref h2, .ref h3, .ref h1, .ref h4, .int 20, .int 0, .int 0, .int 0, .int 0, .int 0, .int 0, .int 0, .int 0, .int (-1), .int 0, .ref h5, .ref h6, .ref h7, .ref h8, .ref h9, .int 0, .int 0, .ref h10, .ref h11, .ref h12, .int 0, .int 0, .ref h13, .ref h14, .ref h15, .ref h16, .ref h17, .int 0, .ref h18, .ref h19, .ref h20])), (h1, .inl (cy 1, 900, .inl f_829))] _ _ := hw81
  refine lv_iinc (v := 20) (lv' := [(6, .int 20), (7, .int p4), (0, .ref h0), (1, .int p0), (2, .int p1), (3, .int p2), (4, .int p3), (5, .int p4)]) hx hb dX12_feed_115 hv79 (k := 1) rfl (by decide +kernel) (by decide) rfl (fun lz82 hv82 => ?_)
  clear lz79 hv79
  refine lv_goto (tgt := 24) hx hb dX12_feed_118 (by decide) ?_
  refine lv_iload hx hb dX12_feed_24 (lv_at hv82 0 rfl) ?_
  refine lv_bipush (v := 20) hx hb dX12_feed_26 (by decide) ?_
  refine lv_icmp_ge (tgt := 121) hx hb dX12_feed_28 (by decide) (fun _ => ?_) (fun c => absurd c (by decide +kernel))
  refine lv_aload_n hx hb dX12_feed_121 rfl (lv_at hv82 2 rfl) ?_
  refine q_get X hK hw81 0 rfl rfl wf_12 5 (by decide) rfl wm_5_175 dX12_feed_122 ?_
  exact q_iret X hr hlk hK hw81 rfl qu0 rfl [] rfl rfl dX12_feed_125 (Nat.le_of_ble_eq_true rfl) (Nat.le_of_ble_eq_true rfl)
set_option maxHeartbeats 4000000 in
set_option maxRecDepth 100000 in
theorem kX11_house_21 (l : Launch) (D : va_G) (cy : Nat → ClassId) (h0 : Nat) (p0 : Int32) (h1 : Nat) (h2 : Nat) (h3 : Nat) (h4 : Nat) (h5 : Nat) (h6 : Nat) (h7 : Nat) (h8 : Nat) (h9 : Nat) (h10 : Nat) (h11 : Nat) (h12 : Nat) (h13 : Nat) (hhi_p0 : p0 ≤ ((-1) : Int32)) (sz : Nat) : MI l yX11_house cX11_house 3 .int { frames := 0, cells := 0, slots := 0, locals := 0 } [.ref h0, .int p0] D cy [(h0, .inr (11, [.ref h1, .int 0, .int 0, .int (-1), .ref h2, .ref h3, .ref h4, .ref h5, .ref h6, .ref h7, .ref h8, .ref h9, .ref h10, .ref h11, .ref h12, .ref h13, .int 0]))] sz (fun r u => r = (-3)) (fun u => []) 0 0 := by
  refine q_ent (own := RX11) (by decide) rfl (Nat.le_of_ble_eq_true rfl) (fun p e s m below meth c ls X hr hlk hnm hK h hA hl => ?_)
  obtain ⟨hx, hb, hml, hown, ht⟩ := id X
  replace hl : lv_has ls 3 [(0, .ref h0), (1, .int p0)] := hl
  refine lv_iload_n hx hb dX11_house_0 rfl (lv_at hl 1 rfl) ?_
  refine lv_if_lt (tgt := 12) hx hb dX11_house_1 (by decide) (fun c_882 => ?_) (fun c_882 => ?_)
  · refine lv_bipush (v := (-3)) hx hb dX11_house_12 (by decide) ?_
    exact q_iret X hr hlk hK h rfl qu0 rfl [] rfl rfl dX11_house_14 (Nat.le_of_ble_eq_true rfl) (Nat.le_of_ble_eq_true rfl)
  · exfalso
    simp only [Int32.lt_iff_toInt_lt, Int32.le_iff_toInt_le, ← Int32.toInt_inj] at hhi_p0 c_882
    have k_0 : ((-1) : Int32).toInt = -1 := by decide
    have k_1 : (0 : Int32).toInt = 0 := by decide
    omega
set_option maxHeartbeats 4000000 in
set_option maxRecDepth 100000 in
theorem kX12_within_22 (l : Launch) (D : va_G) (cy : Nat → ClassId) (j0 : Int64) (hhi_j0 : j0 ≤ ((-1) : Int64)) (sz : Nat) : MI l yX12_within cX12_within 6 .boolean { frames := 0, cells := 0, slots := 0, locals := 0 } [.long j0, .long 0, .long 0] D cy [] sz (fun r u => r = 0) (fun u => []) 0 0 := by
  refine q_ent (own := RX12) (by decide) rfl (Nat.le_of_ble_eq_true rfl) (fun p e s m below meth c ls X hr hlk hnm hK h hA hl => ?_)
  obtain ⟨hx, hb, hml, hown, ht⟩ := id X
  replace hl : lv_has ls 6 [(0, .long j0), (2, .long 0), (4, .long 0)] := hl
  refine lv_lload_n hx hb dX12_within_0 rfl (lv_at hl 0 rfl) ?_
  refine lv_lload_n hx hb dX12_within_1 rfl (lv_at hl 1 rfl) ?_
  refine W.lcmp hx hb dX12_within_2 ?_
  refine lv_if_lt (tgt := 17) hx hb dX12_within_3 (by decide) (fun c_885 => ?_) (fun c_885 => ?_)
  · refine lv_iconst (v := 0) hx hb dX12_within_17 (by decide) ?_
    exact q_iret X hr hlk hK h rfl (fun _ => 0, fun _ _ => 0, fun _ _ => 0) rfl [] rfl rfl dX12_within_18 (Nat.le_of_ble_eq_true rfl) (Nat.le_of_ble_eq_true rfl)
  · exfalso
    simp only [q_lc_lt, q_lc_ge, q_lc_gt, q_lc_le, q_lc_eq] at c_885
    try simp only [Int32.toInt_toInt64] at c_885
    simp only [Int32.toInt_toInt64, Int64.lt_iff_toInt_lt, Int64.le_iff_toInt_le, ← Int64.toInt_inj, Int32.lt_iff_toInt_lt, Int32.le_iff_toInt_le, ← Int32.toInt_inj] at hhi_j0
    have k_0 : ((-1) : Int64).toInt = -1 := by decide
    have k_1 : (0 : Int64).toInt = 0 := by decide
    omega
set_option maxHeartbeats 4000000 in
set_option maxRecDepth 100000 in
theorem kX12_house_23 (l : Launch) (D : va_G) (cy : Nat → ClassId) (h0 : Nat) (p0 : Int32) (h1 : Nat) (h2 : Nat) (h3 : Nat) (h4 : Nat) (h5 : Nat) (h6 : Nat) (h7 : Nat) (h8 : Nat) (h9 : Nat) (h10 : Nat) (h11 : Nat) (h12 : Nat) (h13 : Nat) (h14 : Nat) (h15 : Nat) (h16 : Nat) (h17 : Nat) (h18 : Nat) (h19 : Nat) (h20 : Nat) (hhi_p0 : p0 ≤ ((-1) : Int32)) (sz : Nat) : MI l yX12_house cX12_house 3 .int { frames := 1, cells := 0, slots := 0, locals := 25 } [.ref h0, .int p0] D cy [(h0, .inr (12, [.int 0, .ref h1, .ref h2, .ref h3, .ref h4, .int 0, .int 0, .int 0, .int 0, .int 0, .int 0, .int 0, .int 0, .int 0, .int (-1), .int 0, .ref h5, .ref h6, .ref h7, .ref h8, .ref h9, .int 0, .int 0, .ref h10, .ref h11, .ref h12, .int 0, .int 0, .ref h13, .ref h14, .ref h15, .ref h16, .ref h17, .int 0, .ref h18, .ref h19, .ref h20]))] sz (fun r u => r = (-3)) (fun u => []) 0 0 := by
  refine q_ent (own := RX12) (by decide) rfl (Nat.le_of_ble_eq_true rfl) (fun p e s m below meth c ls X hr hlk hnm hK h hA hl => ?_)
  obtain ⟨hx, hb, hml, hown, ht⟩ := id X
  replace hl : lv_has ls 3 [(0, .ref h0), (1, .int p0)] := hl
  refine lv_aload_n hx hb dX12_house_0 rfl (lv_at hl 0 rfl) ?_
  refine lv_iconst (v := 0) hx hb dX12_house_1 (by decide) ?_
  refine q_put (v := .int 0) X hK h 0 rfl rfl wf_12 tyX12 tyX12_ok nmX12 0 (by decide) wm_5_170 rfl rfl rfl (Nat.le_of_ble_eq_true rfl) dX12_house_2 (fun Hp1 lc1 hw1 => ?_)
  clear h
  replace hw1 : qW D _ _ [(h0, .inr (12, [.int 0, .ref h1, .ref h2, .ref h3, .ref h4, .int 0, .int 0, .int 0, .int 0, .int 0, .int 0, .int 0, .int 0, .int 0, .int (-1), .int 0, .ref h5, .ref h6, .ref h7, .ref h8, .ref h9, .int 0, .int 0, .ref h10, .ref h11, .ref h12, .int 0, .int 0, .ref h13, .ref h14, .ref h15, .ref h16, .ref h17, .int 0, .ref h18, .ref h19, .ref h20]))] _ _ := hw1
  refine lv_iload_n hx hb dX12_house_5 rfl (lv_at hl 1 rfl) ?_
  refine lv_i2l hx hb dX12_house_6 rfl ?_
  refine lv_lconst (v := 0) hx hb dX12_house_7 (by decide) ?_
  refine lv_aload_n hx hb dX12_house_8 rfl (lv_at hl 0 rfl) ?_
  refine q_get X hK hw1 0 rfl rfl wf_12 5 (by decide) rfl wm_5_175 dX12_house_9 ?_
  refine lv_i2l (v := 0) hx hb dX12_house_12 (by decide +kernel) ?_
  have g_892 : ((p0).toInt64) ≤ ((-1) : Int64) := by
    simp only [Int32.toInt_toInt64, Int64.lt_iff_toInt_lt, Int64.le_iff_toInt_le, ← Int64.toInt_inj, Int32.lt_iff_toInt_lt, Int32.le_iff_toInt_le, ← Int32.toInt_inj] at hhi_p0 ⊢
    have k_0 : ((-1) : Int32).toInt = -1 := by decide
    have k_g : ((-1) : Int64).toInt = -1 := by decide
    omega
  refine q_callSi (rest := []) (wr := [(h0, .inr (12, [.int 0, .ref h1, .ref h2, .ref h3, .ref h4, .int 0, .int 0, .int 0, .int 0, .int 0, .int 0, .int 0, .int 0, .int 0, .int (-1), .int 0, .ref h5, .ref h6, .ref h7, .ref h8, .ref h9, .int 0, .int 0, .ref h10, .ref h11, .ref h12, .int 0, .int 0, .ref h13, .ref h14, .ref h15, .ref h16, .ref h17, .int 0, .ref h18, .ref h19, .ref h20]))]) X hK hA hw1 (fun sz => kX12_within_22 l D cy ((p0).toInt64) g_892 sz) wm_6_50 wm_6_52 wm_1_12 hd_X12_within wm_6_51 ⟨Nat.le_of_ble_eq_true rfl, Nat.le_of_ble_eq_true rfl⟩ hl.1 rfl (Nat.le_of_ble_eq_true rfl) dX12_house_13 ⟨Nat.le_of_ble_eq_true rfl, Nat.le_of_ble_eq_true rfl⟩ [] [0] rfl rfl (by decide) rfl rfl (fun r_893 u_893 Hp2 lc2 w_893 hw2 => ?_)
  clear Hp1 lc1 hw1
  obtain rfl : r_893 = 0 := w_893
  replace hw2 : qW D _ _ [(h0, .inr (12, [.int 0, .ref h1, .ref h2, .ref h3, .ref h4, .int 0, .int 0, .int 0, .int 0, .int 0, .int 0, .int 0, .int 0, .int 0, .int (-1), .int 0, .ref h5, .ref h6, .ref h7, .ref h8, .ref h9, .int 0, .int 0, .ref h10, .ref h11, .ref h12, .int 0, .int 0, .ref h13, .ref h14, .ref h15, .ref h16, .ref h17, .int 0, .ref h18, .ref h19, .ref h20]))] _ _ := hw2
  refine lv_if_ne (tgt := 22) hx hb dX12_house_16 (by decide) (fun c => absurd c (by decide +kernel)) (fun _ => ?_)
  refine lv_bipush (v := (-3)) hx hb dX12_house_19 (by decide) ?_
  exact q_iret X hr hlk hK hw2 rfl qu0 rfl [] rfl rfl dX12_house_21 (Nat.le_of_ble_eq_true rfl) (Nat.le_of_ble_eq_true rfl)
set_option maxHeartbeats 4000000 in
set_option maxRecDepth 100000 in
theorem kX8_isLetter_24 (l : Launch) (D : va_G) (cy : Nat → ClassId) (h0 : Nat) (h1 : Nat) (h2 : Nat) (h3 : Nat) (h4 : Nat) (sz : Nat) : MI l yX8_isLetter cX8_isLetter 2 .boolean { frames := 0, cells := 0, slots := 0, locals := 0 } [.ref h0, .int 0] D cy [(h0, .inr (8, [.ref h1, .int 0, .int 0, .ref h2, .ref h3, .ref h4]))] sz (fun r u => r = 0) (fun u => [(h0, .inr (8, [.ref h1, .int 0, .int 0, .ref h2, .ref h3, .ref h4]))]) 0 0 := by
  refine q_ent (own := RX8) (by decide) rfl (Nat.le_of_ble_eq_true rfl) (fun p e s m below meth c ls X hr hlk hnm hK h hA hl => ?_)
  obtain ⟨hx, hb, hml, hown, ht⟩ := id X
  replace hl : lv_has ls 2 [(0, .ref h0), (1, .int 0)] := hl
  refine lv_iload_n hx hb dX8_isLetter_0 rfl (lv_at hl 1 rfl) ?_
  refine lv_aload_n hx hb dX8_isLetter_1 rfl (lv_at hl 0 rfl) ?_
  refine q_get X hK h 0 rfl rfl wf_8 1 (by decide) rfl wm_1_44 dX8_isLetter_2 ?_
  refine lv_icmp_ge (tgt := 34) hx hb dX8_isLetter_5 (by decide) (fun _ => ?_) (fun c => absurd c (by decide +kernel))
  refine lv_iconst (v := 0) hx hb dX8_isLetter_34 (by decide) ?_
  exact q_iret X hr hlk hK h rfl (fun _ => 0, fun _ _ => 0, fun _ _ => 0) rfl [0] rfl rfl dX8_isLetter_35 (Nat.le_of_ble_eq_true rfl) (Nat.le_of_ble_eq_true rfl)
set_option maxHeartbeats 4000000 in
set_option maxRecDepth 100000 in
theorem kX8_isDigit_25 (l : Launch) (D : va_G) (cy : Nat → ClassId) (h0 : Nat) (h1 : Nat) (h2 : Nat) (h3 : Nat) (h4 : Nat) (sz : Nat) : MI l yX8_isDigit cX8_isDigit 2 .boolean { frames := 0, cells := 0, slots := 0, locals := 0 } [.ref h0, .int 0] D cy [(h0, .inr (8, [.ref h1, .int 0, .int 0, .ref h2, .ref h3, .ref h4]))] sz (fun r u => r = 0) (fun u => [(h0, .inr (8, [.ref h1, .int 0, .int 0, .ref h2, .ref h3, .ref h4]))]) 0 0 := by
  refine q_ent (own := RX8) (by decide) rfl (Nat.le_of_ble_eq_true rfl) (fun p e s m below meth c ls X hr hlk hnm hK h hA hl => ?_)
  obtain ⟨hx, hb, hml, hown, ht⟩ := id X
  replace hl : lv_has ls 2 [(0, .ref h0), (1, .int 0)] := hl
  refine lv_iload_n hx hb dX8_isDigit_0 rfl (lv_at hl 1 rfl) ?_
  refine lv_aload_n hx hb dX8_isDigit_1 rfl (lv_at hl 0 rfl) ?_
  refine q_get X hK h 0 rfl rfl wf_8 1 (by decide) rfl wm_1_44 dX8_isDigit_2 ?_
  refine lv_icmp_ge (tgt := 34) hx hb dX8_isDigit_5 (by decide) (fun _ => ?_) (fun c => absurd c (by decide +kernel))
  refine lv_iconst (v := 0) hx hb dX8_isDigit_34 (by decide) ?_
  exact q_iret X hr hlk hK h rfl (fun _ => 0, fun _ _ => 0, fun _ _ => 0) rfl [0] rfl rfl dX8_isDigit_35 (Nat.le_of_ble_eq_true rfl) (Nat.le_of_ble_eq_true rfl)
set_option maxHeartbeats 4000000 in
set_option maxRecDepth 100000 in
theorem kX8_endOf_26 (l : Launch) (D : va_G) (cy : Nat → ClassId) (h0 : Nat) (h1 : Nat) (h2 : Nat) (h3 : Nat) (h4 : Nat) (sz : Nat) : MI l yX8_endOf cX8_endOf 3 .int { frames := 1, cells := 0, slots := 0, locals := 21 } [.ref h0, .int 0] D cy [(h0, .inr (8, [.ref h1, .int 0, .int 0, .ref h2, .ref h3, .ref h4]))] sz (fun r u => r = 0) (fun u => [(h0, .inr (8, [.ref h1, .int 0, .int 0, .ref h2, .ref h3, .ref h4]))]) 0 0 := by
  refine q_ent (own := RX8) (by decide) rfl (Nat.le_of_ble_eq_true rfl) (fun p e s m below meth c ls X hr hlk hnm hK h hA hl => ?_)
  obtain ⟨hx, hb, hml, hown, ht⟩ := id X
  replace hl : lv_has ls 3 [(0, .ref h0), (1, .int 0)] := hl
  refine lv_iload_n hx hb dX8_endOf_0 rfl (lv_at hl 1 rfl) ?_
  refine lv_istore_n (lv' := [(2, .int 0), (0, .ref h0), (1, .int 0)]) hx hb dX8_endOf_1 rfl hl (by decide) rfl (fun lz1 hv1 => ?_)
  clear ls hl
  refine lv_aload_n hx hb dX8_endOf_2 rfl (lv_at hv1 1 rfl) ?_
  refine lv_iload_n hx hb dX8_endOf_3 rfl (lv_at hv1 2 rfl) ?_
  refine q_callVi (rest := []) (wr := []) X hK hA h (fun sz => kX8_isLetter_24 l D cy h0 h1 h2 h3 h4  sz) wm_2_177 wm_2_180 wm_1_3 hd_X8_isLetter wm_2_179 wp_1_2 (ci := 8) (q0 := 0) rfl rfl ⟨Nat.le_of_ble_eq_true rfl, Nat.le_of_ble_eq_true rfl⟩ hv1.1 rfl (Nat.le_of_ble_eq_true rfl) dX8_endOf_4 ⟨Nat.le_of_ble_eq_true rfl, Nat.le_of_ble_eq_true rfl⟩ [0] [] rfl rfl (by decide) rfl rfl (fun r_907 u_907 Hp2 lc2 w_907 hw2 => ?_)
  clear h
  obtain rfl : r_907 = 0 := w_907
  replace hw2 : qW D _ _ [(h0, .inr (8, [.ref h1, .int 0, .int 0, .ref h2, .ref h3, .ref h4]))] _ _ := hw2
  refine lv_if_eq (tgt := 32) hx hb dX8_endOf_7 (by decide) (fun _ => ?_) (fun c => absurd c (by decide +kernel))
  refine lv_aload_n hx hb dX8_endOf_32 rfl (lv_at hv1 1 rfl) ?_
  refine lv_iload_n hx hb dX8_endOf_33 rfl (lv_at hv1 2 rfl) ?_
  refine q_callVi (rest := []) (wr := []) X hK hA hw2 (fun sz => kX8_isDigit_25 l D cy h0 h1 h2 h3 h4  sz) wm_2_181 wm_2_184 wm_1_3 hd_X8_isDigit wm_2_183 wp_1_3 (ci := 8) (q0 := 0) rfl rfl ⟨Nat.le_of_ble_eq_true rfl, Nat.le_of_ble_eq_true rfl⟩ hv1.1 rfl (Nat.le_of_ble_eq_true rfl) dX8_endOf_34 ⟨Nat.le_of_ble_eq_true rfl, Nat.le_of_ble_eq_true rfl⟩ [0] [] rfl rfl (by decide) rfl rfl (fun r_908 u_908 Hp3 lc3 w_908 hw3 => ?_)
  clear Hp2 lc2 hw2
  obtain rfl : r_908 = 0 := w_908
  replace hw3 : qW D _ _ [(h0, .inr (8, [.ref h1, .int 0, .int 0, .ref h2, .ref h3, .ref h4]))] _ _ := hw3
  refine lv_if_eq (tgt := 62) hx hb dX8_endOf_37 (by decide) (fun _ => ?_) (fun c => absurd c (by decide +kernel))
  refine lv_iload_n hx hb dX8_endOf_62 rfl (lv_at hv1 2 rfl) ?_
  refine lv_aload_n hx hb dX8_endOf_63 rfl (lv_at hv1 1 rfl) ?_
  refine q_get X hK hw3 0 rfl rfl wf_8 1 (by decide) rfl wm_1_44 dX8_endOf_64 ?_
  refine lv_icmp_ge (tgt := 73) hx hb dX8_endOf_67 (by decide) (fun _ => ?_) (fun c => absurd c (by decide +kernel))
  refine lv_iload_n hx hb dX8_endOf_73 rfl (lv_at hv1 0 rfl) ?_
  exact q_iret X hr hlk hK hw3 rfl (fun _ => 0, fun _ _ => 0, fun _ _ => 0) rfl [0] rfl rfl dX8_endOf_74 (Nat.le_of_ble_eq_true rfl) (Nat.le_of_ble_eq_true rfl)
set_option maxHeartbeats 4000000 in
set_option maxRecDepth 100000 in
theorem kX8_kindOf_27 (l : Launch) (D : va_G) (cy : Nat → ClassId) (h0 : Nat) (h1 : Nat) (h2 : Nat) (h3 : Nat) (h4 : Nat) (sz : Nat) : MI l yX8_kindOf cX8_kindOf 4 .int { frames := 0, cells := 0, slots := 0, locals := 0 } [.ref h0, .int 0, .int 0] D cy [(h0, .inr (8, [.ref h1, .int 0, .int 0, .ref h2, .ref h3, .ref h4]))] sz (fun r u => r = 26) (fun u => [(h0, .inr (8, [.ref h1, .int 0, .int 0, .ref h2, .ref h3, .ref h4]))]) 0 0 := by
  refine q_ent (own := RX8) (by decide) rfl (Nat.le_of_ble_eq_true rfl) (fun p e s m below meth c ls X hr hlk hnm hK h hA hl => ?_)
  obtain ⟨hx, hb, hml, hown, ht⟩ := id X
  replace hl : lv_has ls 4 [(0, .ref h0), (1, .int 0), (2, .int 0)] := hl
  refine lv_iload_n hx hb dX8_kindOf_0 rfl (lv_at hl 1 rfl) ?_
  refine lv_aload_n hx hb dX8_kindOf_1 rfl (lv_at hl 0 rfl) ?_
  refine q_get X hK h 0 rfl rfl wf_8 1 (by decide) rfl wm_1_44 dX8_kindOf_2 ?_
  refine lv_icmp_lt (tgt := 11) hx hb dX8_kindOf_5 (by decide) (fun c => absurd c (by decide +kernel)) (fun _ => ?_)
  refine lv_bipush (v := 26) hx hb dX8_kindOf_8 (by decide) ?_
  exact q_iret X hr hlk hK h rfl (fun _ => 0, fun _ _ => 0, fun _ _ => 0) rfl [0] rfl rfl dX8_kindOf_10 (Nat.le_of_ble_eq_true rfl) (Nat.le_of_ble_eq_true rfl)
set_option maxHeartbeats 4000000 in
set_option maxRecDepth 100000 in
theorem kX8_cut_28 (l : Launch) (D : va_G) (cy : Nat → ClassId) (h0 : Nat) (h1 : Nat) (h2 : Nat) (h3 : Nat) (h4 : Nat) (h5 : Nat) (sz : Nat) : MV l yX8_cut cX8_cut 7 { frames := 2, cells := 0, slots := 0, locals := 43 } [.ref h1, .ref h0, .int 0] D cy [(h0, .inl (cy 0, 900, .inl (fun _ => 0))), (h1, .inr (8, [.ref h5, .int 0, .int 0, .ref h2, .ref h3, .ref h4])), (h2, .inl (cy 1, 901, .inl (fun _ => 0))), (h3, .inl (cy 1, 901, .inl (fun _ => 0))), (h4, .inl (cy 1, 901, .inl (fun _ => 0)))] sz (fun _ => True) (fun u => [(h0, .inl (cy 0, 900, .inl (fun _ => 0))), (h1, .inr (8, [.ref h0, .int 0, .int 1, .ref h2, .ref h3, .ref h4])), (h2, .inl (cy 1, 901, .inl (upd (fun _ => 0) (Int32.toNatClampNeg 0) 26))), (h3, .inl (cy 1, 901, .inl (fun _ => 0))), (h4, .inl (cy 1, 901, .inl (fun _ => 0)))]) 0 0 := by
  refine q_ent (own := RX8) (by decide) rfl (Nat.le_of_ble_eq_true rfl) (fun p e s m below meth c ls X hr hlk hnm hK h hA hl => ?_)
  obtain ⟨hx, hb, hml, hown, ht⟩ := id X
  replace hl : lv_has ls 7 [(0, .ref h1), (1, .ref h0), (2, .int 0)] := hl
  refine lv_aload_n hx hb dX8_cut_0 rfl (lv_at hl 0 rfl) ?_
  refine lv_aload_n hx hb dX8_cut_1 rfl (lv_at hl 1 rfl) ?_
  refine q_put (v := .ref h0) X hK h 1 rfl rfl wf_8 tyX8 tyX8_ok nmX8 0 (by decide) wm_1_43 rfl rfl rfl (Nat.le_of_ble_eq_true rfl) dX8_cut_2 (fun Hp1 lc1 hw1 => ?_)
  clear h
  replace hw1 : qW D _ _ [(h0, .inl (cy 0, 900, .inl (fun _ => 0))), (h1, .inr (8, [.ref h0, .int 0, .int 0, .ref h2, .ref h3, .ref h4])), (h2, .inl (cy 1, 901, .inl (fun _ => 0))), (h3, .inl (cy 1, 901, .inl (fun _ => 0))), (h4, .inl (cy 1, 901, .inl (fun _ => 0)))] _ _ := hw1
  refine lv_aload_n hx hb dX8_cut_5 rfl (lv_at hl 0 rfl) ?_
  refine lv_iload_n hx hb dX8_cut_6 rfl (lv_at hl 2 rfl) ?_
  refine lv_aload_n hx hb dX8_cut_7 rfl (lv_at hl 1 rfl) ?_
  refine q_alen X hK hw1 0 0 rfl rfl 900 (by decide +kernel) dX8_cut_8 ?_
  refine va_mmin hx hb (hml.trans hl.1.symm) hown (ht _ wm_2_170) (ht _ wm_2_171) (ht _ wm_1_13) (ht _ wm_2_172) (Nat.le_of_ble_eq_true rfl) (Nat.le_of_ble_eq_true rfl) (Nat.le_of_ble_eq_true rfl) (Nat.le_of_ble_eq_true rfl) dX8_cut_9 ?_
  refine q_c 0 (by decide +kernel) ?_
  refine lv_sipush (v := 900) hx hb dX8_cut_12 (by decide) ?_
  refine va_mmin hx hb (hml.trans hl.1.symm) hown (ht _ wm_2_170) (ht _ wm_2_171) (ht _ wm_1_13) (ht _ wm_2_172) (Nat.le_of_ble_eq_true rfl) (Nat.le_of_ble_eq_true rfl) (Nat.le_of_ble_eq_true rfl) (Nat.le_of_ble_eq_true rfl) dX8_cut_15 ?_
  refine q_c 0 (by decide +kernel) ?_
  refine q_put (v := .int 0) X hK hw1 1 rfl rfl wf_8 tyX8 tyX8_ok nmX8 1 (by decide) wm_1_44 rfl rfl rfl (Nat.le_of_ble_eq_true rfl) dX8_cut_18 (fun Hp2 lc2 hw2 => ?_)
  clear Hp1 lc1 hw1
  replace hw2 : qW D _ _ [(h0, .inl (cy 0, 900, .inl (fun _ => 0))), (h1, .inr (8, [.ref h0, .int 0, .int 0, .ref h2, .ref h3, .ref h4])), (h2, .inl (cy 1, 901, .inl (fun _ => 0))), (h3, .inl (cy 1, 901, .inl (fun _ => 0))), (h4, .inl (cy 1, 901, .inl (fun _ => 0)))] _ _ := hw2
  refine lv_aload_n hx hb dX8_cut_21 rfl (lv_at hl 0 rfl) ?_
  refine lv_iconst (v := 0) hx hb dX8_cut_22 (by decide) ?_
  refine q_put (v := .int 0) X hK hw2 1 rfl rfl wf_8 tyX8 tyX8_ok nmX8 2 (by decide) wm_1_45 rfl rfl rfl (Nat.le_of_ble_eq_true rfl) dX8_cut_23 (fun Hp3 lc3 hw3 => ?_)
  clear Hp2 lc2 hw2
  replace hw3 : qW D _ _ [(h0, .inl (cy 0, 900, .inl (fun _ => 0))), (h1, .inr (8, [.ref h0, .int 0, .int 0, .ref h2, .ref h3, .ref h4])), (h2, .inl (cy 1, 901, .inl (fun _ => 0))), (h3, .inl (cy 1, 901, .inl (fun _ => 0))), (h4, .inl (cy 1, 901, .inl (fun _ => 0)))] _ _ := hw3
  refine lv_iconst (v := 0) hx hb dX8_cut_26 (by decide) ?_
  refine lv_istore_n (lv' := [(3, .int 0), (0, .ref h1), (1, .ref h0), (2, .int 0)]) hx hb dX8_cut_27 rfl hl (by decide) rfl (fun lz4 hv4 => ?_)
  clear ls hl
  refine lv_iconst (v := 1) hx hb dX8_cut_28 (by decide) ?_
  refine lv_istore (lv' := [(4, .int 1), (3, .int 0), (0, .ref h1), (1, .ref h0), (2, .int 0)]) hx hb dX8_cut_29 hv4 (by decide) rfl (fun lz5 hv5 => ?_)
  clear lz4 hv4
  refine lv_iconst (v := 0) hx hb dX8_cut_31 (by decide) ?_
  refine lv_istore (lv' := [(5, .int 0), (4, .int 1), (3, .int 0), (0, .ref h1), (1, .ref h0), (2, .int 0)]) hx hb dX8_cut_32 hv5 (by decide) rfl (fun lz6 hv6 => ?_)
  clear lz5 hv5
  refine lv_iload hx hb dX8_cut_34 (lv_at hv6 0 rfl) ?_
  refine lv_aload_n hx hb dX8_cut_36 rfl (lv_at hv6 3 rfl) ?_
  refine q_get X hK hw3 1 rfl rfl wf_8 1 (by decide) rfl wm_1_44 dX8_cut_37 ?_
  refine lv_icmp_gt (tgt := 191) hx hb dX8_cut_40 (by decide) (fun c => absurd c (by decide +kernel)) (fun _ => ?_)
  refine lv_iload hx hb dX8_cut_43 (lv_at hv6 1 rfl) ?_
  refine lv_if_eq (tgt := 191) hx hb dX8_cut_45 (by decide) (fun c => absurd c (by decide +kernel)) (fun _ => ?_)
  refine lv_iload_n hx hb dX8_cut_48 rfl (lv_at hv6 2 rfl) ?_
  refine lv_aload_n hx hb dX8_cut_49 rfl (lv_at hv6 3 rfl) ?_
  refine q_get X hK hw3 1 rfl rfl wf_8 1 (by decide) rfl wm_1_44 dX8_cut_50 ?_
  refine lv_icmp_ge (tgt := 84) hx hb dX8_cut_53 (by decide) (fun _ => ?_) (fun c => absurd c (by decide +kernel))
  refine lv_aload_n hx hb dX8_cut_84 rfl (lv_at hv6 3 rfl) ?_
  refine lv_iload_n hx hb dX8_cut_85 rfl (lv_at hv6 2 rfl) ?_
  refine q_callVi (rest := []) (wr := [(h0, .inl (cy 0, 900, .inl (fun _ => 0))), (h2, .inl (cy 1, 901, .inl (fun _ => 0))), (h3, .inl (cy 1, 901, .inl (fun _ => 0))), (h4, .inl (cy 1, 901, .inl (fun _ => 0)))]) X hK hA hw3 (fun sz => kX8_endOf_26 l D cy h1 h0 h2 h3 h4  sz) wm_2_173 wm_2_176 wm_1_3 hd_X8_endOf wm_2_175 wp_1_1 (ci := 8) (q0 := 0) rfl rfl ⟨Nat.le_of_ble_eq_true rfl, Nat.le_of_ble_eq_true rfl⟩ hv6.1 rfl (Nat.le_of_ble_eq_true rfl) dX8_cut_86 ⟨Nat.le_of_ble_eq_true rfl, Nat.le_of_ble_eq_true rfl⟩ [1] [0, 2, 3, 4] rfl rfl (by decide) rfl rfl (fun r_917 u_917 Hp7 lc7 w_917 hw7 => ?_)
  clear Hp3 lc3 hw3
  obtain rfl : r_917 = 0 := w_917
  replace hw7 : qW D _ _ [(h0, .inl (cy 0, 900, .inl (fun _ => 0))), (h2, .inl (cy 1, 901, .inl (fun _ => 0))), (h3, .inl (cy 1, 901, .inl (fun _ => 0))), (h4, .inl (cy 1, 901, .inl (fun _ => 0))), (h1, .inr (8, [.ref h0, .int 0, .int 0, .ref h2, .ref h3, .ref h4]))] _ _ := hw7
  refine lv_istore (lv' := [(6, .int 0), (5, .int 0), (4, .int 1), (3, .int 0), (0, .ref h1), (1, .ref h0), (2, .int 0)]) hx hb dX8_cut_89 hv6 (by decide) rfl (fun lz8 hv8 => ?_)
  clear lz6 hv6
  refine lv_aload_n hx hb dX8_cut_91 rfl (lv_at hv8 4 rfl) ?_
  refine q_get X hK hw7 4 rfl rfl wf_8 3 (by decide) rfl wm_1_47 dX8_cut_92 ?_
  refine lv_iload hx hb dX8_cut_95 (lv_at hv8 1 rfl) ?_
  refine lv_aload_n hx hb dX8_cut_97 rfl (lv_at hv8 4 rfl) ?_
  refine lv_iload_n hx hb dX8_cut_98 rfl (lv_at hv8 3 rfl) ?_
  refine lv_iload hx hb dX8_cut_99 (lv_at hv8 0 rfl) ?_
  refine q_callVi (rest := [.int 0, .ref h2]) (wr := [(h0, .inl (cy 0, 900, .inl (fun _ => 0))), (h2, .inl (cy 1, 901, .inl (fun _ => 0))), (h3, .inl (cy 1, 901, .inl (fun _ => 0))), (h4, .inl (cy 1, 901, .inl (fun _ => 0)))]) X hK hA hw7 (fun sz => kX8_kindOf_27 l D cy h1 h0 h2 h3 h4  sz) wm_2_185 wm_2_188 wm_1_3 hd_X8_kindOf wm_2_187 wp_1_4 (ci := 8) (q0 := 0) rfl rfl ⟨Nat.le_of_ble_eq_true rfl, Nat.le_of_ble_eq_true rfl⟩ hv8.1 rfl (Nat.le_of_ble_eq_true rfl) dX8_cut_101 ⟨Nat.le_of_ble_eq_true rfl, Nat.le_of_ble_eq_true rfl⟩ [4] [0, 1, 2, 3] rfl rfl (by decide) rfl rfl (fun r_918 u_918 Hp9 lc9 w_918 hw9 => ?_)
  clear Hp7 lc7 hw7
  obtain rfl : r_918 = 26 := w_918
  replace hw9 : qW D _ _ [(h0, .inl (cy 0, 900, .inl (fun _ => 0))), (h2, .inl (cy 1, 901, .inl (fun _ => 0))), (h3, .inl (cy 1, 901, .inl (fun _ => 0))), (h4, .inl (cy 1, 901, .inl (fun _ => 0))), (h1, .inr (8, [.ref h0, .int 0, .int 0, .ref h2, .ref h3, .ref h4]))] _ _ := hw9
  refine q_iast X hK hw9 1 rfl (q_in (by decide +kernel)) dX8_cut_104 (fun Hp10 lc10 hw10 => ?_)
  clear Hp9 lc9 hw9
  replace hw10 : qW D _ _ [(h0, .inl (cy 0, 900, .inl (fun _ => 0))), (h2, .inl (cy 1, 901, .inl (upd (fun _ => 0) (Int32.toNatClampNeg 0) 26))), (h3, .inl (cy 1, 901, .inl (fun _ => 0))), (h4, .inl (cy 1, 901, .inl (fun _ => 0))), (h1, .inr (8, [.ref h0, .int 0, .int 0, .ref h2, .ref h3, .ref h4]))] _ _ := hw10
  refine lv_aload_n hx hb dX8_cut_105 rfl (lv_at hv8 4 rfl) ?_
  refine q_get X hK hw10 4 rfl rfl wf_8 4 (by decide) rfl wm_1_49 dX8_cut_106 ?_
  refine lv_iload hx hb dX8_cut_109 (lv_at hv8 1 rfl) ?_
  refine lv_iload_n hx hb dX8_cut_111 rfl (lv_at hv8 3 rfl) ?_
  refine q_iast X hK hw10 2 rfl (q_in (by decide +kernel)) dX8_cut_112 (fun Hp11 lc11 hw11 => ?_)
  clear Hp10 lc10 hw10
  replace hw11 : qW D _ _ [(h0, .inl (cy 0, 900, .inl (fun _ => 0))), (h2, .inl (cy 1, 901, .inl (upd (fun _ => 0) (Int32.toNatClampNeg 0) 26))), (h3, .inl (cy 1, 901, .inl (upd (fun _ => 0) (Int32.toNatClampNeg 0) 0))), (h4, .inl (cy 1, 901, .inl (fun _ => 0))), (h1, .inr (8, [.ref h0, .int 0, .int 0, .ref h2, .ref h3, .ref h4]))] _ _ := hw11
  rw [q_us (rfl)] at hw11
  refine lv_aload_n hx hb dX8_cut_113 rfl (lv_at hv8 4 rfl) ?_
  refine q_get X hK hw11 4 rfl rfl wf_8 5 (by decide) rfl wm_1_51 dX8_cut_114 ?_
  refine lv_iload hx hb dX8_cut_117 (lv_at hv8 1 rfl) ?_
  refine lv_aload_n hx hb dX8_cut_119 rfl (lv_at hv8 4 rfl) ?_
  refine q_get X hK hw11 4 rfl rfl wf_8 3 (by decide) rfl wm_1_47 dX8_cut_120 ?_
  refine lv_iload hx hb dX8_cut_123 (lv_at hv8 1 rfl) ?_
  refine q_iald X hK hw11 1 rfl (q_in (by decide +kernel)) dX8_cut_125 ?_
  refine q_c 26 (q_ue) ?_
  refine lv_bipush (v := 25) hx hb dX8_cut_126 (by decide) ?_
  refine lv_icmp_ne (tgt := 141) hx hb dX8_cut_128 (by decide) (fun _ => ?_) (fun c => absurd c (by decide +kernel))
  refine lv_iconst (v := 0) hx hb dX8_cut_141 (by decide) ?_
  refine q_iast X hK hw11 3 rfl (q_in (by decide +kernel)) dX8_cut_142 (fun Hp12 lc12 hw12 => ?_)
  clear Hp11 lc11 hw11
  replace hw12 : qW D _ _ [(h0, .inl (cy 0, 900, .inl (fun _ => 0))), (h2, .inl (cy 1, 901, .inl (upd (fun _ => 0) (Int32.toNatClampNeg 0) 26))), (h3, .inl (cy 1, 901, .inl (fun _ => 0))), (h4, .inl (cy 1, 901, .inl (upd (fun _ => 0) (Int32.toNatClampNeg 0) 0))), (h1, .inr (8, [.ref h0, .int 0, .int 0, .ref h2, .ref h3, .ref h4]))] _ _ := hw12
  rw [q_us (rfl)] at hw12
  refine lv_aload_n hx hb dX8_cut_143 rfl (lv_at hv8 4 rfl) ?_
  refine lv_iload hx hb dX8_cut_144 (lv_at hv8 1 rfl) ?_
  refine lv_iconst (v := 1) hx hb dX8_cut_146 (by decide) ?_
  refine lv_iadd hx hb dX8_cut_147 ?_
  refine q_c 1 (by decide +kernel) ?_
  refine q_put (v := .int 1) X hK hw12 4 rfl rfl wf_8 tyX8 tyX8_ok nmX8 2 (by decide) wm_1_45 rfl rfl rfl (Nat.le_of_ble_eq_true rfl) dX8_cut_148 (fun Hp13 lc13 hw13 => ?_)
  clear Hp12 lc12 hw12
  replace hw13 : qW D _ _ [(h0, .inl (cy 0, 900, .inl (fun _ => 0))), (h2, .inl (cy 1, 901, .inl (upd (fun _ => 0) (Int32.toNatClampNeg 0) 26))), (h3, .inl (cy 1, 901, .inl (fun _ => 0))), (h4, .inl (cy 1, 901, .inl (fun _ => 0))), (h1, .inr (8, [.ref h0, .int 0, .int 1, .ref h2, .ref h3, .ref h4]))] _ _ := hw13
  refine lv_iload hx hb dX8_cut_151 (lv_at hv8 0 rfl) ?_
  refine lv_istore_n (lv' := [(3, .int 0), (6, .int 0), (5, .int 0), (4, .int 1), (0, .ref h1), (1, .ref h0), (2, .int 0)]) hx hb dX8_cut_153 rfl hv8 (by decide) rfl (fun lz14 hv14 => ?_)
  clear lz8 hv8
  refine lv_aload_n hx hb dX8_cut_154 rfl (lv_at hv14 4 rfl) ?_
  refine q_get X hK hw13 4 rfl rfl wf_8 3 (by decide) rfl wm_1_47 dX8_cut_155 ?_
  refine lv_iload hx hb dX8_cut_158 (lv_at hv14 2 rfl) ?_
  refine q_iald X hK hw13 1 rfl (q_in (by decide +kernel)) dX8_cut_160 ?_
  refine q_c 26 (q_ue) ?_
  refine lv_bipush (v := 26) hx hb dX8_cut_161 (by decide) ?_
  refine lv_icmp_eq (tgt := 182) hx hb dX8_cut_163 (by decide) (fun _ => ?_) (fun c => absurd c (by decide +kernel))
  refine lv_iconst (v := 0) hx hb dX8_cut_182 (by decide) ?_
  refine lv_istore (lv' := [(4, .int 0), (3, .int 0), (6, .int 0), (5, .int 0), (0, .ref h1), (1, .ref h0), (2, .int 0)]) hx hb dX8_cut_183 hv14 (by decide) rfl (fun lz15 hv15 => ?_)
  clear lz14 hv14
  refine lv_iinc (v := 1) (lv' := [(5, .int 1), (4, .int 0), (3, .int 0), (6, .int 0), (0, .ref h1), (1, .ref h0), (2, .int 0)]) hx hb dX8_cut_185 hv15 (k := 3) rfl (by decide +kernel) (by decide) rfl (fun lz16 hv16 => ?_)
  clear lz15 hv15
  refine lv_goto (tgt := 34) hx hb dX8_cut_188 (by decide) ?_
  refine lv_iload hx hb dX8_cut_34 (lv_at hv16 0 rfl) ?_
  refine lv_aload_n hx hb dX8_cut_36 rfl (lv_at hv16 4 rfl) ?_
  refine q_get X hK hw13 4 rfl rfl wf_8 1 (by decide) rfl wm_1_44 dX8_cut_37 ?_
  refine lv_icmp_gt (tgt := 191) hx hb dX8_cut_40 (by decide) (fun _ => ?_) (fun c => absurd c (by decide +kernel))
  exact q_vret X hr hlk hK hw13 (fun _ => 0, fun _ _ => 0, fun _ _ => 0) trivial [0, 4, 1, 2, 3] rfl rfl dX8_cut_191 (Nat.le_of_ble_eq_true rfl) (Nat.le_of_ble_eq_true rfl)
set_option maxHeartbeats 4000000 in
set_option maxRecDepth 100000 in
theorem kX5_advance_29 (l : Launch) (D : va_G) (cy : Nat → ClassId) (h0 : Nat) (h1 : Nat) (h2 : Nat) (h3 : Nat) (h4 : Nat) (h5 : Nat) (h6 : Nat) (h7 : Nat) (f0 : Nat → Int32) (hf_f0_0 : f0 (Int32.toNatClampNeg 0) = 26) (sz : Nat) : MV l yX5_advance cX5_advance 1 { frames := 0, cells := 0, slots := 0, locals := 0 } [.ref h0] D cy [(h0, .inr (5, [.ref h1, .int (-1), .int 26, .int 0, .int (-1), .ref h3, .ref h4, .int 0, .int 0])), (h1, .inr (8, [.ref h5, .int 0, .int 1, .ref h2, .ref h6, .ref h7])), (h2, .inl (cy 1, 901, .inl f0))] sz (fun _ => True) (fun u => [(h0, .inr (5, [.ref h1, .int 0, .int 26, .int 0, .int (-1), .ref h3, .ref h4, .int 0, .int 0])), (h1, .inr (8, [.ref h5, .int 0, .int 1, .ref h2, .ref h6, .ref h7])), (h2, .inl (cy 1, 901, .inl f0))]) 0 0 := by
  refine q_ent (own := RX5) (by decide) rfl (Nat.le_of_ble_eq_true rfl) (fun p e s m below meth c ls X hr hlk hnm hK h hA hl => ?_)
  obtain ⟨hx, hb, hml, hown, ht⟩ := id X
  replace hl : lv_has ls 1 [(0, .ref h0)] := hl
  refine lv_aload_n hx hb dX5_advance_0 rfl (lv_at hl 0 rfl) ?_
  refine q_get X hK h 0 rfl rfl wf_5 3 (by decide) rfl wm_1_147 dX5_advance_1 ?_
  refine lv_if_ne (tgt := 23) hx hb dX5_advance_4 (by decide) (fun c => absurd c (by decide +kernel)) (fun _ => ?_)
  refine lv_aload_n hx hb dX5_advance_7 rfl (lv_at hl 0 rfl) ?_
  refine q_get X hK h 0 rfl rfl wf_5 1 (by decide) rfl wm_1_145 dX5_advance_8 ?_
  refine lv_iconst (v := 1) hx hb dX5_advance_11 (by decide) ?_
  refine lv_iadd hx hb dX5_advance_12 ?_
  refine q_c 0 (by decide +kernel) ?_
  refine lv_aload_n hx hb dX5_advance_13 rfl (lv_at hl 0 rfl) ?_
  refine q_get X hK h 0 rfl rfl wf_5 0 (by decide) rfl wm_1_144 dX5_advance_14 ?_
  refine q_get X hK h 1 rfl rfl wf_8 2 (by decide) rfl wm_1_46 dX5_advance_17 ?_
  refine lv_icmp_lt (tgt := 24) hx hb dX5_advance_20 (by decide) (fun _ => ?_) (fun c => absurd c (by decide +kernel))
  refine lv_aload_n hx hb dX5_advance_24 rfl (lv_at hl 0 rfl) ?_
  refine lv_dup hx hb dX5_advance_25 rfl ?_
  refine q_get X hK h 0 rfl rfl wf_5 1 (by decide) rfl wm_1_145 dX5_advance_26 ?_
  refine lv_iconst (v := 1) hx hb dX5_advance_29 (by decide) ?_
  refine lv_iadd hx hb dX5_advance_30 ?_
  refine q_c 0 (by decide +kernel) ?_
  refine q_put (v := .int 0) X hK h 0 rfl rfl wf_5 tyX5 tyX5_ok nmX5 1 (by decide) wm_1_145 rfl rfl rfl (Nat.le_of_ble_eq_true rfl) dX5_advance_31 (fun Hp1 lc1 hw1 => ?_)
  clear h
  replace hw1 : qW D _ _ [(h0, .inr (5, [.ref h1, .int 0, .int 26, .int 0, .int (-1), .ref h3, .ref h4, .int 0, .int 0])), (h1, .inr (8, [.ref h5, .int 0, .int 1, .ref h2, .ref h6, .ref h7])), (h2, .inl (cy 1, 901, .inl f0))] _ _ := hw1
  refine lv_aload_n hx hb dX5_advance_34 rfl (lv_at hl 0 rfl) ?_
  refine lv_aload_n hx hb dX5_advance_35 rfl (lv_at hl 0 rfl) ?_
  refine q_get X hK hw1 0 rfl rfl wf_5 0 (by decide) rfl wm_1_144 dX5_advance_36 ?_
  refine q_get X hK hw1 1 rfl rfl wf_8 3 (by decide) rfl wm_1_48 dX5_advance_39 ?_
  refine lv_aload_n hx hb dX5_advance_42 rfl (lv_at hl 0 rfl) ?_
  refine q_get X hK hw1 0 rfl rfl wf_5 1 (by decide) rfl wm_1_145 dX5_advance_43 ?_
  refine q_iald X hK hw1 2 rfl (q_in (by decide +kernel)) dX5_advance_46 ?_
  refine q_c 26 (hf_f0_0) ?_
  refine q_put (v := .int 26) X hK hw1 0 rfl rfl wf_5 tyX5 tyX5_ok nmX5 2 (by decide) wm_1_146 rfl rfl rfl (Nat.le_of_ble_eq_true rfl) dX5_advance_47 (fun Hp2 lc2 hw2 => ?_)
  clear Hp1 lc1 hw1
  replace hw2 : qW D _ _ [(h0, .inr (5, [.ref h1, .int 0, .int 26, .int 0, .int (-1), .ref h3, .ref h4, .int 0, .int 0])), (h1, .inr (8, [.ref h5, .int 0, .int 1, .ref h2, .ref h6, .ref h7])), (h2, .inl (cy 1, 901, .inl f0))] _ _ := hw2
  refine lv_aload_n hx hb dX5_advance_50 rfl (lv_at hl 0 rfl) ?_
  refine q_get X hK hw2 0 rfl rfl wf_5 2 (by decide) rfl wm_1_146 dX5_advance_51 ?_
  refine lv_bipush (v := 27) hx hb dX5_advance_54 (by decide) ?_
  refine lv_icmp_ne (tgt := 80) hx hb dX5_advance_56 (by decide) (fun _ => ?_) (fun c => absurd c (by decide +kernel))
  exact q_vret X hr hlk hK hw2 (fun _ => 0, fun _ _ => 0, fun _ _ => 0) trivial [0, 1, 2] rfl rfl dX5_advance_80 (Nat.le_of_ble_eq_true rfl) (Nat.le_of_ble_eq_true rfl)
set_option maxHeartbeats 4000000 in
set_option maxRecDepth 100000 in
theorem kX5_refuse_30 (l : Launch) (D : va_G) (cy : Nat → ClassId) (h0 : Nat) (h1 : Nat) (h2 : Nat) (h3 : Nat) (h4 : Nat) (h5 : Nat) (h6 : Nat) (h7 : Nat) (sz : Nat) : MV l yX5_refuse cX5_refuse 2 { frames := 0, cells := 0, slots := 0, locals := 0 } [.ref h1, .int 2] D cy [(h0, .inl (cy 1, 901, .inl (fun _ => 0))), (h1, .inr (5, [.ref h2, .int 0, .int 26, .int 0, .int (-1), .ref h3, .ref h4, .int 0, .int 0])), (h2, .inr (8, [.ref h5, .int 0, .int 1, .ref h6, .ref h0, .ref h7]))] sz (fun _ => True) (fun u => [(h0, .inl (cy 1, 901, .inl (fun _ => 0))), (h1, .inr (5, [.ref h2, .int 0, .int 27, .int 2, .int 0, .ref h3, .ref h4, .int 0, .int 0])), (h2, .inr (8, [.ref h5, .int 0, .int 1, .ref h6, .ref h0, .ref h7]))]) 0 0 := by
  refine q_ent (own := RX5) (by decide) rfl (Nat.le_of_ble_eq_true rfl) (fun p e s m below meth c ls X hr hlk hnm hK h hA hl => ?_)
  obtain ⟨hx, hb, hml, hown, ht⟩ := id X
  replace hl : lv_has ls 2 [(0, .ref h1), (1, .int 2)] := hl
  refine lv_aload_n hx hb dX5_refuse_0 rfl (lv_at hl 0 rfl) ?_
  refine q_get X hK h 1 rfl rfl wf_5 3 (by decide) rfl wm_1_147 dX5_refuse_1 ?_
  refine lv_if_ne (tgt := 34) hx hb dX5_refuse_4 (by decide) (fun c => absurd c (by decide +kernel)) (fun _ => ?_)
  refine lv_aload_n hx hb dX5_refuse_7 rfl (lv_at hl 0 rfl) ?_
  refine lv_iload_n hx hb dX5_refuse_8 rfl (lv_at hl 1 rfl) ?_
  refine q_put (v := .int 2) X hK h 1 rfl rfl wf_5 tyX5 tyX5_ok nmX5 3 (by decide) wm_1_147 rfl rfl rfl (Nat.le_of_ble_eq_true rfl) dX5_refuse_9 (fun Hp1 lc1 hw1 => ?_)
  clear h
  replace hw1 : qW D _ _ [(h0, .inl (cy 1, 901, .inl (fun _ => 0))), (h1, .inr (5, [.ref h2, .int 0, .int 26, .int 2, .int (-1), .ref h3, .ref h4, .int 0, .int 0])), (h2, .inr (8, [.ref h5, .int 0, .int 1, .ref h6, .ref h0, .ref h7]))] _ _ := hw1
  refine lv_aload_n hx hb dX5_refuse_12 rfl (lv_at hl 0 rfl) ?_
  refine lv_aload_n hx hb dX5_refuse_13 rfl (lv_at hl 0 rfl) ?_
  refine q_get X hK hw1 1 rfl rfl wf_5 0 (by decide) rfl wm_1_144 dX5_refuse_14 ?_
  refine q_get X hK hw1 2 rfl rfl wf_8 4 (by decide) rfl wm_1_50 dX5_refuse_17 ?_
  refine lv_aload_n hx hb dX5_refuse_20 rfl (lv_at hl 0 rfl) ?_
  refine q_get X hK hw1 1 rfl rfl wf_5 1 (by decide) rfl wm_1_145 dX5_refuse_21 ?_
  refine q_iald X hK hw1 0 rfl (q_in (by decide +kernel)) dX5_refuse_24 ?_
  refine q_c 0 (by first | decide +kernel | rfl) ?_
  refine q_put (v := .int 0) X hK hw1 1 rfl rfl wf_5 tyX5 tyX5_ok nmX5 4 (by decide) wm_1_149 rfl rfl rfl (Nat.le_of_ble_eq_true rfl) dX5_refuse_25 (fun Hp2 lc2 hw2 => ?_)
  clear Hp1 lc1 hw1
  replace hw2 : qW D _ _ [(h0, .inl (cy 1, 901, .inl (fun _ => 0))), (h1, .inr (5, [.ref h2, .int 0, .int 26, .int 2, .int 0, .ref h3, .ref h4, .int 0, .int 0])), (h2, .inr (8, [.ref h5, .int 0, .int 1, .ref h6, .ref h0, .ref h7]))] _ _ := hw2
  refine lv_aload_n hx hb dX5_refuse_28 rfl (lv_at hl 0 rfl) ?_
  refine lv_bipush (v := 27) hx hb dX5_refuse_29 (by decide) ?_
  refine q_put (v := .int 27) X hK hw2 1 rfl rfl wf_5 tyX5 tyX5_ok nmX5 2 (by decide) wm_1_146 rfl rfl rfl (Nat.le_of_ble_eq_true rfl) dX5_refuse_31 (fun Hp3 lc3 hw3 => ?_)
  clear Hp2 lc2 hw2
  replace hw3 : qW D _ _ [(h0, .inl (cy 1, 901, .inl (fun _ => 0))), (h1, .inr (5, [.ref h2, .int 0, .int 27, .int 2, .int 0, .ref h3, .ref h4, .int 0, .int 0])), (h2, .inr (8, [.ref h5, .int 0, .int 1, .ref h6, .ref h0, .ref h7]))] _ _ := hw3
  exact q_vret X hr hlk hK hw3 (fun _ => 0, fun _ _ => 0, fun _ _ => 0) trivial [0, 1, 2] rfl rfl dX5_refuse_34 (Nat.le_of_ble_eq_true rfl) (Nat.le_of_ble_eq_true rfl)
set_option maxHeartbeats 4000000 in
set_option maxRecDepth 100000 in
theorem kX5_take_31 (l : Launch) (D : va_G) (cy : Nat → ClassId) (h0 : Nat) (h1 : Nat) (h2 : Nat) (h3 : Nat) (h4 : Nat) (h5 : Nat) (h6 : Nat) (h7 : Nat) (sz : Nat) : MV l yX5_take cX5_take 2 { frames := 1, cells := 0, slots := 0, locals := 21 } [.ref h1, .int 11] D cy [(h0, .inl (cy 1, 901, .inl (fun _ => 0))), (h1, .inr (5, [.ref h2, .int 0, .int 26, .int 0, .int (-1), .ref h3, .ref h4, .int 0, .int 0])), (h2, .inr (8, [.ref h5, .int 0, .int 1, .ref h6, .ref h0, .ref h7]))] sz (fun _ => True) (fun u => [(h0, .inl (cy 1, 901, .inl (fun _ => 0))), (h1, .inr (5, [.ref h2, .int 0, .int 27, .int 2, .int 0, .ref h3, .ref h4, .int 0, .int 0])), (h2, .inr (8, [.ref h5, .int 0, .int 1, .ref h6, .ref h0, .ref h7]))]) 0 0 := by
  refine q_ent (own := RX5) (by decide) rfl (Nat.le_of_ble_eq_true rfl) (fun p e s m below meth c ls X hr hlk hnm hK h hA hl => ?_)
  obtain ⟨hx, hb, hml, hown, ht⟩ := id X
  replace hl : lv_has ls 2 [(0, .ref h1), (1, .int 11)] := hl
  refine lv_aload_n hx hb dX5_take_0 rfl (lv_at hl 0 rfl) ?_
  refine q_get X hK h 1 rfl rfl wf_5 2 (by decide) rfl wm_1_146 dX5_take_1 ?_
  refine lv_iload_n hx hb dX5_take_4 rfl (lv_at hl 1 rfl) ?_
  refine lv_icmp_ne (tgt := 15) hx hb dX5_take_5 (by decide) (fun _ => ?_) (fun c => absurd c (by decide +kernel))
  refine lv_aload_n hx hb dX5_take_15 rfl (lv_at hl 0 rfl) ?_
  refine lv_iconst (v := 2) hx hb dX5_take_16 (by decide) ?_
  refine q_callVv (rest := []) (wr := []) X hK hA h (fun sz => kX5_refuse_30 l D cy h0 h1 h2 h3 h4 h5 h6 h7  sz) wm_3_76 wm_3_79 wm_1_2 hd_X5_refuse wm_3_78 wp_1_10 (ci := 5) (q0 := 1) rfl rfl ⟨Nat.le_of_ble_eq_true rfl, Nat.le_of_ble_eq_true rfl⟩ hl.1 rfl (Nat.le_of_ble_eq_true rfl) dX5_take_17 ⟨Nat.le_of_ble_eq_true rfl, Nat.le_of_ble_eq_true rfl⟩ [0, 1, 2] [] rfl rfl (by decide) rfl rfl (fun u_930 Hp1 lc1 w_930 hw1 => ?_)
  clear h
  replace hw1 : qW D _ _ [(h0, .inl (cy 1, 901, .inl (fun _ => 0))), (h1, .inr (5, [.ref h2, .int 0, .int 27, .int 2, .int 0, .ref h3, .ref h4, .int 0, .int 0])), (h2, .inr (8, [.ref h5, .int 0, .int 1, .ref h6, .ref h0, .ref h7]))] _ _ := hw1
  exact q_vret X hr hlk hK hw1 (fun _ => 0, fun _ _ => 0, fun _ _ => 0) trivial [0, 1, 2] rfl rfl dX5_take_20 (Nat.le_of_ble_eq_true rfl) (Nat.le_of_ble_eq_true rfl)
set_option maxHeartbeats 4000000 in
set_option maxRecDepth 100000 in
theorem kX5_refuse_32 (l : Launch) (D : va_G) (cy : Nat → ClassId) (h0 : Nat) (h1 : Nat) (h2 : Nat) (h3 : Nat) (sz : Nat) : MV l yX5_refuse cX5_refuse 2 { frames := 0, cells := 0, slots := 0, locals := 0 } [.ref h0, .int 2] D cy [(h0, .inr (5, [.ref h1, .int 0, .int 27, .int 2, .int 0, .ref h2, .ref h3, .int 0, .int 0]))] sz (fun _ => True) (fun u => [(h0, .inr (5, [.ref h1, .int 0, .int 27, .int 2, .int 0, .ref h2, .ref h3, .int 0, .int 0]))]) 0 0 := by
  refine q_ent (own := RX5) (by decide) rfl (Nat.le_of_ble_eq_true rfl) (fun p e s m below meth c ls X hr hlk hnm hK h hA hl => ?_)
  obtain ⟨hx, hb, hml, hown, ht⟩ := id X
  replace hl : lv_has ls 2 [(0, .ref h0), (1, .int 2)] := hl
  refine lv_aload_n hx hb dX5_refuse_0 rfl (lv_at hl 0 rfl) ?_
  refine q_get X hK h 0 rfl rfl wf_5 3 (by decide) rfl wm_1_147 dX5_refuse_1 ?_
  refine lv_if_ne (tgt := 34) hx hb dX5_refuse_4 (by decide) (fun _ => ?_) (fun c => absurd c (by decide +kernel))
  exact q_vret X hr hlk hK h (fun _ => 0, fun _ _ => 0, fun _ _ => 0) trivial [0] rfl rfl dX5_refuse_34 (Nat.le_of_ble_eq_true rfl) (Nat.le_of_ble_eq_true rfl)
set_option maxHeartbeats 4000000 in
set_option maxRecDepth 100000 in
theorem kX5_take_33 (l : Launch) (D : va_G) (cy : Nat → ClassId) (h0 : Nat) (h1 : Nat) (h2 : Nat) (h3 : Nat) (sz : Nat) : MV l yX5_take cX5_take 2 { frames := 1, cells := 0, slots := 0, locals := 21 } [.ref h0, .int 12] D cy [(h0, .inr (5, [.ref h1, .int 0, .int 27, .int 2, .int 0, .ref h2, .ref h3, .int 0, .int 0]))] sz (fun _ => True) (fun u => [(h0, .inr (5, [.ref h1, .int 0, .int 27, .int 2, .int 0, .ref h2, .ref h3, .int 0, .int 0]))]) 0 0 := by
  refine q_ent (own := RX5) (by decide) rfl (Nat.le_of_ble_eq_true rfl) (fun p e s m below meth c ls X hr hlk hnm hK h hA hl => ?_)
  obtain ⟨hx, hb, hml, hown, ht⟩ := id X
  replace hl : lv_has ls 2 [(0, .ref h0), (1, .int 12)] := hl
  refine lv_aload_n hx hb dX5_take_0 rfl (lv_at hl 0 rfl) ?_
  refine q_get X hK h 0 rfl rfl wf_5 2 (by decide) rfl wm_1_146 dX5_take_1 ?_
  refine lv_iload_n hx hb dX5_take_4 rfl (lv_at hl 1 rfl) ?_
  refine lv_icmp_ne (tgt := 15) hx hb dX5_take_5 (by decide) (fun _ => ?_) (fun c => absurd c (by decide +kernel))
  refine lv_aload_n hx hb dX5_take_15 rfl (lv_at hl 0 rfl) ?_
  refine lv_iconst (v := 2) hx hb dX5_take_16 (by decide) ?_
  refine q_callVv (rest := []) (wr := []) X hK hA h (fun sz => kX5_refuse_32 l D cy h0 h1 h2 h3  sz) wm_3_76 wm_3_79 wm_1_2 hd_X5_refuse wm_3_78 wp_1_10 (ci := 5) (q0 := 0) rfl rfl ⟨Nat.le_of_ble_eq_true rfl, Nat.le_of_ble_eq_true rfl⟩ hl.1 rfl (Nat.le_of_ble_eq_true rfl) dX5_take_17 ⟨Nat.le_of_ble_eq_true rfl, Nat.le_of_ble_eq_true rfl⟩ [0] [] rfl rfl (by decide) rfl rfl (fun u_934 Hp1 lc1 w_934 hw1 => ?_)
  clear h
  replace hw1 : qW D _ _ [(h0, .inr (5, [.ref h1, .int 0, .int 27, .int 2, .int 0, .ref h2, .ref h3, .int 0, .int 0]))] _ _ := hw1
  exact q_vret X hr hlk hK hw1 (fun _ => 0, fun _ _ => 0, fun _ _ => 0) trivial [0] rfl rfl dX5_take_20 (Nat.le_of_ble_eq_true rfl) (Nat.le_of_ble_eq_true rfl)
set_option maxHeartbeats 4000000 in
set_option maxRecDepth 100000 in
theorem kX5_takeNumber_34 (l : Launch) (D : va_G) (cy : Nat → ClassId) (h0 : Nat) (h1 : Nat) (h2 : Nat) (h3 : Nat) (sz : Nat) : MI l yX5_takeNumber cX5_takeNumber 4 .int { frames := 1, cells := 0, slots := 0, locals := 21 } [.ref h0, .int 1, .int 3] D cy [(h0, .inr (5, [.ref h1, .int 0, .int 27, .int 2, .int 0, .ref h2, .ref h3, .int 0, .int 0]))] sz (fun r u => r = 1) (fun u => [(h0, .inr (5, [.ref h1, .int 0, .int 27, .int 2, .int 0, .ref h2, .ref h3, .int 0, .int 0]))]) 0 0 := by
  refine q_ent (own := RX5) (by decide) rfl (Nat.le_of_ble_eq_true rfl) (fun p e s m below meth c ls X hr hlk hnm hK h hA hl => ?_)
  obtain ⟨hx, hb, hml, hown, ht⟩ := id X
  replace hl : lv_has ls 4 [(0, .ref h0), (1, .int 1), (2, .int 3)] := hl
  refine lv_aload_n hx hb dX5_takeNumber_0 rfl (lv_at hl 0 rfl) ?_
  refine q_get X hK h 0 rfl rfl wf_5 2 (by decide) rfl wm_1_146 dX5_takeNumber_1 ?_
  refine lv_bipush (v := 25) hx hb dX5_takeNumber_4 (by decide) ?_
  refine lv_icmp_eq (tgt := 16) hx hb dX5_takeNumber_6 (by decide) (fun c => absurd c (by decide +kernel)) (fun _ => ?_)
  refine lv_aload_n hx hb dX5_takeNumber_9 rfl (lv_at hl 0 rfl) ?_
  refine lv_iconst (v := 2) hx hb dX5_takeNumber_10 (by decide) ?_
  refine q_callVv (rest := []) (wr := []) X hK hA h (fun sz => kX5_refuse_32 l D cy h0 h1 h2 h3  sz) wm_3_76 wm_3_79 wm_1_2 hd_X5_refuse wm_3_78 wp_1_10 (ci := 5) (q0 := 0) rfl rfl ⟨Nat.le_of_ble_eq_true rfl, Nat.le_of_ble_eq_true rfl⟩ hl.1 rfl (Nat.le_of_ble_eq_true rfl) dX5_takeNumber_11 ⟨Nat.le_of_ble_eq_true rfl, Nat.le_of_ble_eq_true rfl⟩ [0] [] rfl rfl (by decide) rfl rfl (fun u_938 Hp1 lc1 w_938 hw1 => ?_)
  clear h
  replace hw1 : qW D _ _ [(h0, .inr (5, [.ref h1, .int 0, .int 27, .int 2, .int 0, .ref h2, .ref h3, .int 0, .int 0]))] _ _ := hw1
  refine lv_iload_n hx hb dX5_takeNumber_14 rfl (lv_at hl 1 rfl) ?_
  exact q_iret X hr hlk hK hw1 rfl (fun _ => 0, fun _ _ => 0, fun _ _ => 0) rfl [0] rfl rfl dX5_takeNumber_15 (Nat.le_of_ble_eq_true rfl) (Nat.le_of_ble_eq_true rfl)
set_option maxHeartbeats 4000000 in
set_option maxRecDepth 100000 in
theorem kX5_take_35 (l : Launch) (D : va_G) (cy : Nat → ClassId) (h0 : Nat) (h1 : Nat) (h2 : Nat) (h3 : Nat) (sz : Nat) : MV l yX5_take cX5_take 2 { frames := 1, cells := 0, slots := 0, locals := 21 } [.ref h0, .int 59] D cy [(h0, .inr (5, [.ref h1, .int 0, .int 27, .int 2, .int 0, .ref h2, .ref h3, .int 0, .int 0]))] sz (fun _ => True) (fun u => [(h0, .inr (5, [.ref h1, .int 0, .int 27, .int 2, .int 0, .ref h2, .ref h3, .int 0, .int 0]))]) 0 0 := by
  refine q_ent (own := RX5) (by decide) rfl (Nat.le_of_ble_eq_true rfl) (fun p e s m below meth c ls X hr hlk hnm hK h hA hl => ?_)
  obtain ⟨hx, hb, hml, hown, ht⟩ := id X
  replace hl : lv_has ls 2 [(0, .ref h0), (1, .int 59)] := hl
  refine lv_aload_n hx hb dX5_take_0 rfl (lv_at hl 0 rfl) ?_
  refine q_get X hK h 0 rfl rfl wf_5 2 (by decide) rfl wm_1_146 dX5_take_1 ?_
  refine lv_iload_n hx hb dX5_take_4 rfl (lv_at hl 1 rfl) ?_
  refine lv_icmp_ne (tgt := 15) hx hb dX5_take_5 (by decide) (fun _ => ?_) (fun c => absurd c (by decide +kernel))
  refine lv_aload_n hx hb dX5_take_15 rfl (lv_at hl 0 rfl) ?_
  refine lv_iconst (v := 2) hx hb dX5_take_16 (by decide) ?_
  refine q_callVv (rest := []) (wr := []) X hK hA h (fun sz => kX5_refuse_32 l D cy h0 h1 h2 h3  sz) wm_3_76 wm_3_79 wm_1_2 hd_X5_refuse wm_3_78 wp_1_10 (ci := 5) (q0 := 0) rfl rfl ⟨Nat.le_of_ble_eq_true rfl, Nat.le_of_ble_eq_true rfl⟩ hl.1 rfl (Nat.le_of_ble_eq_true rfl) dX5_take_17 ⟨Nat.le_of_ble_eq_true rfl, Nat.le_of_ble_eq_true rfl⟩ [0] [] rfl rfl (by decide) rfl rfl (fun u_942 Hp1 lc1 w_942 hw1 => ?_)
  clear h
  replace hw1 : qW D _ _ [(h0, .inr (5, [.ref h1, .int 0, .int 27, .int 2, .int 0, .ref h2, .ref h3, .int 0, .int 0]))] _ _ := hw1
  exact q_vret X hr hlk hK hw1 (fun _ => 0, fun _ _ => 0, fun _ _ => 0) trivial [0] rfl rfl dX5_take_20 (Nat.le_of_ble_eq_true rfl) (Nat.le_of_ble_eq_true rfl)
