set_option maxHeartbeats 4000000 in
set_option maxRecDepth 100000 in
theorem kX8_init_1 (l : Launch) (D : va_G) (cy : Nat → ClassId) (h0 : Nat) (sz : Nat) : MV l yX8_init cX8_init 1 { frames := 1, cells := 4, slots := 2703, locals := 12 } [.ref h0] D cy [(h0, .inr (8, [.null, .int 0, .int 0, .null, .null, .null]))] sz (fun _ => True) (fun u => [(h0, .inr (8, [.ref (u.1 0), .int 0, .int 0, .ref (u.1 1), .ref (u.1 2), .ref (u.1 3)])), ((u.1 0), .inl (cy 0, 0, .inl (fun _ => 0))), ((u.1 1), .inl (cy 1, 901, .inl (fun _ => 0))), ((u.1 2), .inl (cy 1, 901, .inl (fun _ => 0))), ((u.1 3), .inl (cy 1, 901, .inl (fun _ => 0)))]) 4 2703 := by
  refine q_ent (own := RX8) (by decide) rfl (Nat.le_of_ble_eq_true rfl) (fun p e s m below meth c ls X hr hlk hnm hK h hA hl => ?_)
  obtain ⟨hx, hb, hml, hown, ht⟩ := id X
  replace hl : lv_has ls 1 [(0, .ref h0)] := hl
  refine lv_aload_n hx hb dX8_init_0 rfl (lv_at hl 0 rfl) ?_
  refine q_obj X wm_1_42 wm_1_29 wm_1_30 hl.1 dX8_init_1 (Nat.le_of_ble_eq_true rfl) (Nat.le_of_ble_eq_true rfl) ?_
  refine lv_aload_n hx hb dX8_init_4 rfl (lv_at hl 0 rfl) ?_
  refine lv_iconst (v := 0) hx hb dX8_init_5 (by decide) ?_
  refine q_newb X hK hA h wm_1_66 0 (by decide) (by decide +kernel) (by decide) (Nat.le_of_ble_eq_true rfl) (Nat.le_of_ble_eq_true rfl) dX8_init_6 (fun q_12 Hp1 hw1 => ?_)
  clear h
  replace hw1 : qW D _ _ [(h0, .inr (8, [.null, .int 0, .int 0, .null, .null, .null])), (q_12, .inl (cy 0, 0, .inl (fun _ => 0)))] _ _ := hw1
  refine q_put (v := .ref q_12) X hK hw1 0 rfl rfl wf_8 tyX8 tyX8_ok nmX8 0 (by decide) wm_1_43 rfl rfl rfl (Nat.le_of_ble_eq_true rfl) dX8_init_8 (fun Hp2 lc2 hw2 => ?_)
  clear Hp1 hw1
  replace hw2 : qW D _ _ [(h0, .inr (8, [.ref q_12, .int 0, .int 0, .null, .null, .null])), (q_12, .inl (cy 0, 0, .inl (fun _ => 0)))] _ _ := hw2
  refine lv_aload_n hx hb dX8_init_11 rfl (lv_at hl 0 rfl) ?_
  refine lv_iconst (v := 0) hx hb dX8_init_12 (by decide) ?_
  refine q_put (v := .int 0) X hK hw2 0 rfl rfl wf_8 tyX8 tyX8_ok nmX8 1 (by decide) wm_1_44 rfl rfl rfl (Nat.le_of_ble_eq_true rfl) dX8_init_13 (fun Hp3 lc3 hw3 => ?_)
  clear Hp2 lc2 hw2
  replace hw3 : qW D _ _ [(h0, .inr (8, [.ref q_12, .int 0, .int 0, .null, .null, .null])), (q_12, .inl (cy 0, 0, .inl (fun _ => 0)))] _ _ := hw3
  refine lv_aload_n hx hb dX8_init_16 rfl (lv_at hl 0 rfl) ?_
  refine lv_iconst (v := 0) hx hb dX8_init_17 (by decide) ?_
  refine q_put (v := .int 0) X hK hw3 0 rfl rfl wf_8 tyX8 tyX8_ok nmX8 2 (by decide) wm_1_45 rfl rfl rfl (Nat.le_of_ble_eq_true rfl) dX8_init_18 (fun Hp4 lc4 hw4 => ?_)
  clear Hp3 lc3 hw3
  replace hw4 : qW D _ _ [(h0, .inr (8, [.ref q_12, .int 0, .int 0, .null, .null, .null])), (q_12, .inl (cy 0, 0, .inl (fun _ => 0)))] _ _ := hw4
  refine lv_aload_n hx hb dX8_init_21 rfl (lv_at hl 0 rfl) ?_
  refine lv_sipush (v := 901) hx hb dX8_init_22 (by decide) ?_
  refine q_newi X hK hA hw4 wm_1_67 901 (by decide) (by decide +kernel) (by decide) (Nat.le_of_ble_eq_true rfl) (Nat.le_of_ble_eq_true rfl) dX8_init_25 (fun q_13 Hp5 hw5 => ?_)
  clear Hp4 hw4
  replace hw5 : qW D _ _ [(h0, .inr (8, [.ref q_12, .int 0, .int 0, .null, .null, .null])), (q_12, .inl (cy 0, 0, .inl (fun _ => 0))), (q_13, .inl (cy 1, 901, .inl (fun _ => 0)))] _ _ := hw5
  refine q_putF (v := .ref q_13) X hK hw5 0 rfl rfl wf_8 tyX8 tyX8_ok nmX8 3 (by decide) wm_1_47 rfl hnm rfl rfl rfl (Nat.le_of_ble_eq_true rfl) dX8_init_27 (fun Hp6 lc6 hw6 => ?_)
  clear Hp5 lc4 hw5
  replace hw6 : qW D _ _ [(h0, .inr (8, [.ref q_12, .int 0, .int 0, .ref q_13, .null, .null])), (q_12, .inl (cy 0, 0, .inl (fun _ => 0))), (q_13, .inl (cy 1, 901, .inl (fun _ => 0)))] _ _ := hw6
  refine lv_aload_n hx hb dX8_init_30 rfl (lv_at hl 0 rfl) ?_
  refine lv_sipush (v := 901) hx hb dX8_init_31 (by decide) ?_
  refine q_newi X hK hA hw6 wm_1_67 901 (by decide) (by decide +kernel) (by decide) (Nat.le_of_ble_eq_true rfl) (Nat.le_of_ble_eq_true rfl) dX8_init_34 (fun q_14 Hp7 hw7 => ?_)
  clear Hp6 hw6
  replace hw7 : qW D _ _ [(h0, .inr (8, [.ref q_12, .int 0, .int 0, .ref q_13, .null, .null])), (q_12, .inl (cy 0, 0, .inl (fun _ => 0))), (q_13, .inl (cy 1, 901, .inl (fun _ => 0))), (q_14, .inl (cy 1, 901, .inl (fun _ => 0)))] _ _ := hw7
  refine q_putF (v := .ref q_14) X hK hw7 0 rfl rfl wf_8 tyX8 tyX8_ok nmX8 4 (by decide) wm_1_49 rfl hnm rfl rfl rfl (Nat.le_of_ble_eq_true rfl) dX8_init_36 (fun Hp8 lc8 hw8 => ?_)
  clear Hp7 lc6 hw7
  replace hw8 : qW D _ _ [(h0, .inr (8, [.ref q_12, .int 0, .int 0, .ref q_13, .ref q_14, .null])), (q_12, .inl (cy 0, 0, .inl (fun _ => 0))), (q_13, .inl (cy 1, 901, .inl (fun _ => 0))), (q_14, .inl (cy 1, 901, .inl (fun _ => 0)))] _ _ := hw8
  refine lv_aload_n hx hb dX8_init_39 rfl (lv_at hl 0 rfl) ?_
  refine lv_sipush (v := 901) hx hb dX8_init_40 (by decide) ?_
  refine q_newi X hK hA hw8 wm_1_67 901 (by decide) (by decide +kernel) (by decide) (Nat.le_of_ble_eq_true rfl) (Nat.le_of_ble_eq_true rfl) dX8_init_43 (fun q_15 Hp9 hw9 => ?_)
  clear Hp8 hw8
  replace hw9 : qW D _ _ [(h0, .inr (8, [.ref q_12, .int 0, .int 0, .ref q_13, .ref q_14, .null])), (q_12, .inl (cy 0, 0, .inl (fun _ => 0))), (q_13, .inl (cy 1, 901, .inl (fun _ => 0))), (q_14, .inl (cy 1, 901, .inl (fun _ => 0))), (q_15, .inl (cy 1, 901, .inl (fun _ => 0)))] _ _ := hw9
  refine q_putF (v := .ref q_15) X hK hw9 0 rfl rfl wf_8 tyX8 tyX8_ok nmX8 5 (by decide) wm_1_51 rfl hnm rfl rfl rfl (Nat.le_of_ble_eq_true rfl) dX8_init_45 (fun Hp10 lc10 hw10 => ?_)
  clear Hp9 lc8 hw9
  replace hw10 : qW D _ _ [(h0, .inr (8, [.ref q_12, .int 0, .int 0, .ref q_13, .ref q_14, .ref q_15])), (q_12, .inl (cy 0, 0, .inl (fun _ => 0))), (q_13, .inl (cy 1, 901, .inl (fun _ => 0))), (q_14, .inl (cy 1, 901, .inl (fun _ => 0))), (q_15, .inl (cy 1, 901, .inl (fun _ => 0)))] _ _ := hw10
  exact q_vret X hr hlk hK hw10 (fun k => List.getD [q_12, q_13, q_14, q_15] k 0, fun _ _ => 0, fun _ _ => 0) trivial [0, 1, 2, 3, 4] rfl rfl dX8_init_48 (Nat.le_of_ble_eq_true rfl) (Nat.le_of_ble_eq_true rfl)
set_option maxHeartbeats 4000000 in
set_option maxRecDepth 100000 in
theorem kX3_init_2 (l : Launch) (D : va_G) (cy : Nat → ClassId) (h0 : Nat) (sz : Nat) : MV l yX3_init cX3_init 1 { frames := 1, cells := 5, slots := 50, locals := 12 } [.ref h0] D cy [(h0, .inr (3, [.int 0, .int 0, .int 0, .int 0, .null, .null, .null, .null, .null, .null, .null, .null]))] sz (fun _ => True) (fun u => [(h0, .inr (3, [.int 1, .int 0, .int 0, .int 0, .null, .null, .null, .ref (u.1 0), .ref (u.1 1), .ref (u.1 2), .ref (u.1 3), .ref (u.1 4)])), ((u.1 0), .inl (cy 1, 10, .inl (fun _ => 0))), ((u.1 1), .inl (cy 1, 10, .inl (fun _ => 0))), ((u.1 2), .inl (cy 1, 10, .inl (fun _ => 0))), ((u.1 3), .inl (cy 1, 10, .inl (fun _ => 0))), ((u.1 4), .inl (cy 1, 10, .inl (fun _ => 0)))]) 5 50 := by
  refine q_ent (own := RX3) (by decide) rfl (Nat.le_of_ble_eq_true rfl) (fun p e s m below meth c ls X hr hlk hnm hK h hA hl => ?_)
  obtain ⟨hx, hb, hml, hown, ht⟩ := id X
  replace hl : lv_has ls 1 [(0, .ref h0)] := hl
  refine lv_aload_n hx hb dX3_init_0 rfl (lv_at hl 0 rfl) ?_
  refine q_obj X wm_1_73 wm_1_29 wm_1_30 hl.1 dX3_init_1 (Nat.le_of_ble_eq_true rfl) (Nat.le_of_ble_eq_true rfl) ?_
  refine lv_aload_n hx hb dX3_init_4 rfl (lv_at hl 0 rfl) ?_
  refine lv_iconst (v := 1) hx hb dX3_init_5 (by decide) ?_
  refine q_put (v := .int 1) X hK h 0 rfl rfl wf_3 tyX3 tyX3_ok nmX3 0 (by decide) wm_1_74 rfl rfl rfl (Nat.le_of_ble_eq_true rfl) dX3_init_6 (fun Hp1 lc1 hw1 => ?_)
  clear h
  replace hw1 : qW D _ _ [(h0, .inr (3, [.int 1, .int 0, .int 0, .int 0, .null, .null, .null, .null, .null, .null, .null, .null]))] _ _ := hw1
  refine lv_aload_n hx hb dX3_init_9 rfl (lv_at hl 0 rfl) ?_
  refine lv_iconst (v := 0) hx hb dX3_init_10 (by decide) ?_
  refine q_put (v := .int 0) X hK hw1 0 rfl rfl wf_3 tyX3 tyX3_ok nmX3 1 (by decide) wm_1_79 rfl rfl rfl (Nat.le_of_ble_eq_true rfl) dX3_init_11 (fun Hp2 lc2 hw2 => ?_)
  clear Hp1 lc1 hw1
  replace hw2 : qW D _ _ [(h0, .inr (3, [.int 1, .int 0, .int 0, .int 0, .null, .null, .null, .null, .null, .null, .null, .null]))] _ _ := hw2
  refine lv_aload_n hx hb dX3_init_14 rfl (lv_at hl 0 rfl) ?_
  refine lv_iconst (v := 0) hx hb dX3_init_15 (by decide) ?_
  refine q_put (v := .int 0) X hK hw2 0 rfl rfl wf_3 tyX3 tyX3_ok nmX3 2 (by decide) wm_1_87 rfl rfl rfl (Nat.le_of_ble_eq_true rfl) dX3_init_16 (fun Hp3 lc3 hw3 => ?_)
  clear Hp2 lc2 hw2
  replace hw3 : qW D _ _ [(h0, .inr (3, [.int 1, .int 0, .int 0, .int 0, .null, .null, .null, .null, .null, .null, .null, .null]))] _ _ := hw3
  refine lv_aload_n hx hb dX3_init_19 rfl (lv_at hl 0 rfl) ?_
  refine lv_iconst (v := 0) hx hb dX3_init_20 (by decide) ?_
  refine q_put (v := .int 0) X hK hw3 0 rfl rfl wf_3 tyX3 tyX3_ok nmX3 3 (by decide) wm_1_90 rfl rfl rfl (Nat.le_of_ble_eq_true rfl) dX3_init_21 (fun Hp4 lc4 hw4 => ?_)
  clear Hp3 lc3 hw3
  replace hw4 : qW D _ _ [(h0, .inr (3, [.int 1, .int 0, .int 0, .int 0, .null, .null, .null, .null, .null, .null, .null, .null]))] _ _ := hw4
  refine lv_aload_n hx hb dX3_init_24 rfl (lv_at hl 0 rfl) ?_
  refine lv_null hx hb dX3_init_25 ?_
  refine q_put (v := .null) X hK hw4 0 rfl rfl wf_3 tyX3 tyX3_ok nmX3 4 (by decide) wm_1_93 rfl rfl rfl (Nat.le_of_ble_eq_true rfl) dX3_init_26 (fun Hp5 lc5 hw5 => ?_)
  clear Hp4 lc4 hw4
  replace hw5 : qW D _ _ [(h0, .inr (3, [.int 1, .int 0, .int 0, .int 0, .null, .null, .null, .null, .null, .null, .null, .null]))] _ _ := hw5
  refine lv_aload_n hx hb dX3_init_29 rfl (lv_at hl 0 rfl) ?_
  refine lv_null hx hb dX3_init_30 ?_
  refine q_put (v := .null) X hK hw5 0 rfl rfl wf_3 tyX3 tyX3_ok nmX3 5 (by decide) wm_1_96 rfl rfl rfl (Nat.le_of_ble_eq_true rfl) dX3_init_31 (fun Hp6 lc6 hw6 => ?_)
  clear Hp5 lc5 hw5
  replace hw6 : qW D _ _ [(h0, .inr (3, [.int 1, .int 0, .int 0, .int 0, .null, .null, .null, .null, .null, .null, .null, .null]))] _ _ := hw6
  refine lv_aload_n hx hb dX3_init_34 rfl (lv_at hl 0 rfl) ?_
  refine lv_null hx hb dX3_init_35 ?_
  refine q_put (v := .null) X hK hw6 0 rfl rfl wf_3 tyX3 tyX3_ok nmX3 6 (by decide) wm_1_99 rfl rfl rfl (Nat.le_of_ble_eq_true rfl) dX3_init_36 (fun Hp7 lc7 hw7 => ?_)
  clear Hp6 lc6 hw6
  replace hw7 : qW D _ _ [(h0, .inr (3, [.int 1, .int 0, .int 0, .int 0, .null, .null, .null, .null, .null, .null, .null, .null]))] _ _ := hw7
  refine lv_aload_n hx hb dX3_init_39 rfl (lv_at hl 0 rfl) ?_
  refine lv_bipush (v := 10) hx hb dX3_init_40 (by decide) ?_
  refine q_newi X hK hA hw7 wm_1_67 10 (by decide) (by decide +kernel) (by decide) (Nat.le_of_ble_eq_true rfl) (Nat.le_of_ble_eq_true rfl) dX3_init_42 (fun q_28 Hp8 hw8 => ?_)
  clear Hp7 hw7
  replace hw8 : qW D _ _ [(h0, .inr (3, [.int 1, .int 0, .int 0, .int 0, .null, .null, .null, .null, .null, .null, .null, .null])), (q_28, .inl (cy 1, 10, .inl (fun _ => 0)))] _ _ := hw8
  refine q_putF (v := .ref q_28) X hK hw8 0 rfl rfl wf_3 tyX3 tyX3_ok nmX3 7 (by decide) wm_1_102 rfl hnm rfl rfl rfl (Nat.le_of_ble_eq_true rfl) dX3_init_44 (fun Hp9 lc9 hw9 => ?_)
  clear Hp8 lc7 hw8
  replace hw9 : qW D _ _ [(h0, .inr (3, [.int 1, .int 0, .int 0, .int 0, .null, .null, .null, .ref q_28, .null, .null, .null, .null])), (q_28, .inl (cy 1, 10, .inl (fun _ => 0)))] _ _ := hw9
  refine lv_aload_n hx hb dX3_init_47 rfl (lv_at hl 0 rfl) ?_
  refine lv_bipush (v := 10) hx hb dX3_init_48 (by decide) ?_
  refine q_newi X hK hA hw9 wm_1_67 10 (by decide) (by decide +kernel) (by decide) (Nat.le_of_ble_eq_true rfl) (Nat.le_of_ble_eq_true rfl) dX3_init_50 (fun q_29 Hp10 hw10 => ?_)
  clear Hp9 hw9
  replace hw10 : qW D _ _ [(h0, .inr (3, [.int 1, .int 0, .int 0, .int 0, .null, .null, .null, .ref q_28, .null, .null, .null, .null])), (q_28, .inl (cy 1, 10, .inl (fun _ => 0))), (q_29, .inl (cy 1, 10, .inl (fun _ => 0)))] _ _ := hw10
  refine q_putF (v := .ref q_29) X hK hw10 0 rfl rfl wf_3 tyX3 tyX3_ok nmX3 8 (by decide) wm_1_105 rfl hnm rfl rfl rfl (Nat.le_of_ble_eq_true rfl) dX3_init_52 (fun Hp11 lc11 hw11 => ?_)
  clear Hp10 lc9 hw10
  replace hw11 : qW D _ _ [(h0, .inr (3, [.int 1, .int 0, .int 0, .int 0, .null, .null, .null, .ref q_28, .ref q_29, .null, .null, .null])), (q_28, .inl (cy 1, 10, .inl (fun _ => 0))), (q_29, .inl (cy 1, 10, .inl (fun _ => 0)))] _ _ := hw11
  refine lv_aload_n hx hb dX3_init_55 rfl (lv_at hl 0 rfl) ?_
  refine lv_bipush (v := 10) hx hb dX3_init_56 (by decide) ?_
  refine q_newi X hK hA hw11 wm_1_67 10 (by decide) (by decide +kernel) (by decide) (Nat.le_of_ble_eq_true rfl) (Nat.le_of_ble_eq_true rfl) dX3_init_58 (fun q_30 Hp12 hw12 => ?_)
  clear Hp11 hw11
  replace hw12 : qW D _ _ [(h0, .inr (3, [.int 1, .int 0, .int 0, .int 0, .null, .null, .null, .ref q_28, .ref q_29, .null, .null, .null])), (q_28, .inl (cy 1, 10, .inl (fun _ => 0))), (q_29, .inl (cy 1, 10, .inl (fun _ => 0))), (q_30, .inl (cy 1, 10, .inl (fun _ => 0)))] _ _ := hw12
  refine q_putF (v := .ref q_30) X hK hw12 0 rfl rfl wf_3 tyX3 tyX3_ok nmX3 9 (by decide) wm_1_109 rfl hnm rfl rfl rfl (Nat.le_of_ble_eq_true rfl) dX3_init_60 (fun Hp13 lc13 hw13 => ?_)
  clear Hp12 lc11 hw12
  replace hw13 : qW D _ _ [(h0, .inr (3, [.int 1, .int 0, .int 0, .int 0, .null, .null, .null, .ref q_28, .ref q_29, .ref q_30, .null, .null])), (q_28, .inl (cy 1, 10, .inl (fun _ => 0))), (q_29, .inl (cy 1, 10, .inl (fun _ => 0))), (q_30, .inl (cy 1, 10, .inl (fun _ => 0)))] _ _ := hw13
  refine lv_aload_n hx hb dX3_init_63 rfl (lv_at hl 0 rfl) ?_
  refine lv_bipush (v := 10) hx hb dX3_init_64 (by decide) ?_
  refine q_newi X hK hA hw13 wm_1_67 10 (by decide) (by decide +kernel) (by decide) (Nat.le_of_ble_eq_true rfl) (Nat.le_of_ble_eq_true rfl) dX3_init_66 (fun q_31 Hp14 hw14 => ?_)
  clear Hp13 hw13
  replace hw14 : qW D _ _ [(h0, .inr (3, [.int 1, .int 0, .int 0, .int 0, .null, .null, .null, .ref q_28, .ref q_29, .ref q_30, .null, .null])), (q_28, .inl (cy 1, 10, .inl (fun _ => 0))), (q_29, .inl (cy 1, 10, .inl (fun _ => 0))), (q_30, .inl (cy 1, 10, .inl (fun _ => 0))), (q_31, .inl (cy 1, 10, .inl (fun _ => 0)))] _ _ := hw14
  refine q_putF (v := .ref q_31) X hK hw14 0 rfl rfl wf_3 tyX3 tyX3_ok nmX3 10 (by decide) wm_1_113 rfl hnm rfl rfl rfl (Nat.le_of_ble_eq_true rfl) dX3_init_68 (fun Hp15 lc15 hw15 => ?_)
  clear Hp14 lc13 hw14
  replace hw15 : qW D _ _ [(h0, .inr (3, [.int 1, .int 0, .int 0, .int 0, .null, .null, .null, .ref q_28, .ref q_29, .ref q_30, .ref q_31, .null])), (q_28, .inl (cy 1, 10, .inl (fun _ => 0))), (q_29, .inl (cy 1, 10, .inl (fun _ => 0))), (q_30, .inl (cy 1, 10, .inl (fun _ => 0))), (q_31, .inl (cy 1, 10, .inl (fun _ => 0)))] _ _ := hw15
  refine lv_aload_n hx hb dX3_init_71 rfl (lv_at hl 0 rfl) ?_
  refine lv_bipush (v := 10) hx hb dX3_init_72 (by decide) ?_
  refine q_newi X hK hA hw15 wm_1_67 10 (by decide) (by decide +kernel) (by decide) (Nat.le_of_ble_eq_true rfl) (Nat.le_of_ble_eq_true rfl) dX3_init_74 (fun q_32 Hp16 hw16 => ?_)
  clear Hp15 hw15
  replace hw16 : qW D _ _ [(h0, .inr (3, [.int 1, .int 0, .int 0, .int 0, .null, .null, .null, .ref q_28, .ref q_29, .ref q_30, .ref q_31, .null])), (q_28, .inl (cy 1, 10, .inl (fun _ => 0))), (q_29, .inl (cy 1, 10, .inl (fun _ => 0))), (q_30, .inl (cy 1, 10, .inl (fun _ => 0))), (q_31, .inl (cy 1, 10, .inl (fun _ => 0))), (q_32, .inl (cy 1, 10, .inl (fun _ => 0)))] _ _ := hw16
  refine q_putF (v := .ref q_32) X hK hw16 0 rfl rfl wf_3 tyX3 tyX3_ok nmX3 11 (by decide) wm_1_116 rfl hnm rfl rfl rfl (Nat.le_of_ble_eq_true rfl) dX3_init_76 (fun Hp17 lc17 hw17 => ?_)
  clear Hp16 lc15 hw16
  replace hw17 : qW D _ _ [(h0, .inr (3, [.int 1, .int 0, .int 0, .int 0, .null, .null, .null, .ref q_28, .ref q_29, .ref q_30, .ref q_31, .ref q_32])), (q_28, .inl (cy 1, 10, .inl (fun _ => 0))), (q_29, .inl (cy 1, 10, .inl (fun _ => 0))), (q_30, .inl (cy 1, 10, .inl (fun _ => 0))), (q_31, .inl (cy 1, 10, .inl (fun _ => 0))), (q_32, .inl (cy 1, 10, .inl (fun _ => 0)))] _ _ := hw17
  exact q_vret X hr hlk hK hw17 (fun k => List.getD [q_28, q_29, q_30, q_31, q_32] k 0, fun _ _ => 0, fun _ _ => 0) trivial [0, 1, 2, 3, 4, 5] rfl rfl dX3_init_79 (Nat.le_of_ble_eq_true rfl) (Nat.le_of_ble_eq_true rfl)
set_option maxHeartbeats 4000000 in
set_option maxRecDepth 100000 in
theorem kX5_init_3 (l : Launch) (D : va_G) (cy : Nat → ClassId) (h0 : Nat) (sz : Nat) : MV l yX5_init cX5_init 1 { frames := 2, cells := 12, slots := 3671, locals := 32 } [.ref h0] D cy [(h0, .inr (5, [.null, .int 0, .int 0, .int 0, .int 0, .null, .null, .int 0, .int 0]))] sz (fun _ => True) (fun u => [(h0, .inr (5, [.ref (u.1 0), .int 0, .int 26, .int 0, .int (-1), .ref (u.1 5), .ref (u.1 11), .int 0, .int 0])), ((u.1 0), .inr (8, [.ref (u.1 1), .int 0, .int 0, .ref (u.1 2), .ref (u.1 3), .ref (u.1 4)])), ((u.1 1), .inl (cy 0, 0, .inl (fun _ => 0))), ((u.1 2), .inl (cy 1, 901, .inl (fun _ => 0))), ((u.1 3), .inl (cy 1, 901, .inl (fun _ => 0))), ((u.1 4), .inl (cy 1, 901, .inl (fun _ => 0))), ((u.1 5), .inr (3, [.int 1, .int 0, .int 0, .int 0, .null, .null, .null, .ref (u.1 6), .ref (u.1 7), .ref (u.1 8), .ref (u.1 9), .ref (u.1 10)])), ((u.1 6), .inl (cy 1, 10, .inl (fun _ => 0))), ((u.1 7), .inl (cy 1, 10, .inl (fun _ => 0))), ((u.1 8), .inl (cy 1, 10, .inl (fun _ => 0))), ((u.1 9), .inl (cy 1, 10, .inl (fun _ => 0))), ((u.1 10), .inl (cy 1, 10, .inl (fun _ => 0))), ((u.1 11), .inl (cy 1, 900, .inl (fun _ => 0)))]) 12 3671 := by
  refine q_ent (own := RX5) (by decide) rfl (Nat.le_of_ble_eq_true rfl) (fun p e s m below meth c ls X hr hlk hnm hK h hA hl => ?_)
  obtain ⟨hx, hb, hml, hown, ht⟩ := id X
  replace hl : lv_has ls 1 [(0, .ref h0)] := hl
  refine lv_aload_n hx hb dX5_init_0 rfl (lv_at hl 0 rfl) ?_
  refine q_obj X wm_1_36 wm_1_29 wm_1_30 hl.1 dX5_init_1 (Nat.le_of_ble_eq_true rfl) (Nat.le_of_ble_eq_true rfl) ?_
  refine lv_aload_n hx hb dX5_init_4 rfl (lv_at hl 0 rfl) ?_
  refine q_new (fs := [.null, .int 0, .int 0, .null, .null, .null]) (ci := 8) X hK hA h rfl wf_8 tyX8 tyX8_ok wm_1_37 wm_1_38 wm_1_3 df_8 (Nat.le_of_ble_eq_true rfl) (Nat.le_of_ble_eq_true rfl) dX5_init_5 (fun q_49 Hp1 hw1 => ?_)
  clear h
  replace hw1 : qW D _ _ [(h0, .inr (5, [.null, .int 0, .int 0, .int 0, .int 0, .null, .null, .int 0, .int 0])), (q_49, .inr (8, [.null, .int 0, .int 0, .null, .null, .null]))] _ _ := hw1
  refine lv_dup hx hb dX5_init_8 rfl ?_
  refine q_callNv (rest := [.ref q_49, .ref h0]) (wr := [(h0, .inr (5, [.null, .int 0, .int 0, .int 0, .int 0, .null, .null, .int 0, .int 0]))]) X hK hA hw1 (fun sz => kX8_init_1 l D cy q_49  sz) (List.mem_of_getElem? (i := 7) rfl) wm_1_41 wm_1_3 hd_X8_init wm_1_40 rfl ⟨Nat.le_of_ble_eq_true rfl, Nat.le_of_ble_eq_true rfl⟩ hl.1 rfl (Nat.le_of_ble_eq_true rfl) dX5_init_9 ⟨Nat.le_of_ble_eq_true rfl, Nat.le_of_ble_eq_true rfl⟩ [1] [0] rfl rfl (by decide) rfl rfl (fun u_54 Hp2 lc2 w_54 hw2 => ?_)
  clear Hp1 hw1
  replace hw2 : qW D _ _ [(h0, .inr (5, [.null, .int 0, .int 0, .int 0, .int 0, .null, .null, .int 0, .int 0])), (q_49, .inr (8, [.ref (u_54.1 0), .int 0, .int 0, .ref (u_54.1 1), .ref (u_54.1 2), .ref (u_54.1 3)])), ((u_54.1 0), .inl (cy 0, 0, .inl (fun _ => 0))), ((u_54.1 1), .inl (cy 1, 901, .inl (fun _ => 0))), ((u_54.1 2), .inl (cy 1, 901, .inl (fun _ => 0))), ((u_54.1 3), .inl (cy 1, 901, .inl (fun _ => 0)))] _ _ := hw2
  refine q_putF (v := .ref q_49) X hK hw2 0 rfl rfl wf_5 tyX5 tyX5_ok nmX5 0 (by decide) wm_1_144 rfl hnm rfl rfl rfl (Nat.le_of_ble_eq_true rfl) dX5_init_12 (fun Hp3 lc3 hw3 => ?_)
  clear Hp2 lc2 hw2
  replace hw3 : qW D _ _ [(h0, .inr (5, [.ref q_49, .int 0, .int 0, .int 0, .int 0, .null, .null, .int 0, .int 0])), (q_49, .inr (8, [.ref (u_54.1 0), .int 0, .int 0, .ref (u_54.1 1), .ref (u_54.1 2), .ref (u_54.1 3)])), ((u_54.1 0), .inl (cy 0, 0, .inl (fun _ => 0))), ((u_54.1 1), .inl (cy 1, 901, .inl (fun _ => 0))), ((u_54.1 2), .inl (cy 1, 901, .inl (fun _ => 0))), ((u_54.1 3), .inl (cy 1, 901, .inl (fun _ => 0)))] _ _ := hw3
  refine lv_aload_n hx hb dX5_init_15 rfl (lv_at hl 0 rfl) ?_
  refine lv_iconst (v := 0) hx hb dX5_init_16 (by decide) ?_
  refine q_put (v := .int 0) X hK hw3 0 rfl rfl wf_5 tyX5 tyX5_ok nmX5 1 (by decide) wm_1_145 rfl rfl rfl (Nat.le_of_ble_eq_true rfl) dX5_init_17 (fun Hp4 lc4 hw4 => ?_)
  clear Hp3 lc3 hw3
  replace hw4 : qW D _ _ [(h0, .inr (5, [.ref q_49, .int 0, .int 0, .int 0, .int 0, .null, .null, .int 0, .int 0])), (q_49, .inr (8, [.ref (u_54.1 0), .int 0, .int 0, .ref (u_54.1 1), .ref (u_54.1 2), .ref (u_54.1 3)])), ((u_54.1 0), .inl (cy 0, 0, .inl (fun _ => 0))), ((u_54.1 1), .inl (cy 1, 901, .inl (fun _ => 0))), ((u_54.1 2), .inl (cy 1, 901, .inl (fun _ => 0))), ((u_54.1 3), .inl (cy 1, 901, .inl (fun _ => 0)))] _ _ := hw4
  refine lv_aload_n hx hb dX5_init_20 rfl (lv_at hl 0 rfl) ?_
  refine lv_bipush (v := 26) hx hb dX5_init_21 (by decide) ?_
  refine q_put (v := .int 26) X hK hw4 0 rfl rfl wf_5 tyX5 tyX5_ok nmX5 2 (by decide) wm_1_146 rfl rfl rfl (Nat.le_of_ble_eq_true rfl) dX5_init_23 (fun Hp5 lc5 hw5 => ?_)
  clear Hp4 lc4 hw4
  replace hw5 : qW D _ _ [(h0, .inr (5, [.ref q_49, .int 0, .int 26, .int 0, .int 0, .null, .null, .int 0, .int 0])), (q_49, .inr (8, [.ref (u_54.1 0), .int 0, .int 0, .ref (u_54.1 1), .ref (u_54.1 2), .ref (u_54.1 3)])), ((u_54.1 0), .inl (cy 0, 0, .inl (fun _ => 0))), ((u_54.1 1), .inl (cy 1, 901, .inl (fun _ => 0))), ((u_54.1 2), .inl (cy 1, 901, .inl (fun _ => 0))), ((u_54.1 3), .inl (cy 1, 901, .inl (fun _ => 0)))] _ _ := hw5
  refine lv_aload_n hx hb dX5_init_26 rfl (lv_at hl 0 rfl) ?_
  refine lv_iconst (v := 0) hx hb dX5_init_27 (by decide) ?_
  refine q_put (v := .int 0) X hK hw5 0 rfl rfl wf_5 tyX5 tyX5_ok nmX5 3 (by decide) wm_1_147 rfl rfl rfl (Nat.le_of_ble_eq_true rfl) dX5_init_28 (fun Hp6 lc6 hw6 => ?_)
  clear Hp5 lc5 hw5
  replace hw6 : qW D _ _ [(h0, .inr (5, [.ref q_49, .int 0, .int 26, .int 0, .int 0, .null, .null, .int 0, .int 0])), (q_49, .inr (8, [.ref (u_54.1 0), .int 0, .int 0, .ref (u_54.1 1), .ref (u_54.1 2), .ref (u_54.1 3)])), ((u_54.1 0), .inl (cy 0, 0, .inl (fun _ => 0))), ((u_54.1 1), .inl (cy 1, 901, .inl (fun _ => 0))), ((u_54.1 2), .inl (cy 1, 901, .inl (fun _ => 0))), ((u_54.1 3), .inl (cy 1, 901, .inl (fun _ => 0)))] _ _ := hw6
  refine lv_aload_n hx hb dX5_init_31 rfl (lv_at hl 0 rfl) ?_
  refine lv_iconst (v := (-1)) hx hb dX5_init_32 (by decide) ?_
  refine q_put (v := .int (-1)) X hK hw6 0 rfl rfl wf_5 tyX5 tyX5_ok nmX5 4 (by decide) wm_1_149 rfl rfl rfl (Nat.le_of_ble_eq_true rfl) dX5_init_33 (fun Hp7 lc7 hw7 => ?_)
  clear Hp6 lc6 hw6
  replace hw7 : qW D _ _ [(h0, .inr (5, [.ref q_49, .int 0, .int 26, .int 0, .int (-1), .null, .null, .int 0, .int 0])), (q_49, .inr (8, [.ref (u_54.1 0), .int 0, .int 0, .ref (u_54.1 1), .ref (u_54.1 2), .ref (u_54.1 3)])), ((u_54.1 0), .inl (cy 0, 0, .inl (fun _ => 0))), ((u_54.1 1), .inl (cy 1, 901, .inl (fun _ => 0))), ((u_54.1 2), .inl (cy 1, 901, .inl (fun _ => 0))), ((u_54.1 3), .inl (cy 1, 901, .inl (fun _ => 0)))] _ _ := hw7
  refine lv_aload_n hx hb dX5_init_36 rfl (lv_at hl 0 rfl) ?_
  refine q_new (fs := [.int 0, .int 0, .int 0, .int 0, .null, .null, .null, .null, .null, .null, .null, .null]) (ci := 3) X hK hA hw7 rfl wf_3 tyX3 tyX3_ok wm_1_68 wm_1_69 wm_1_4 df_3 (Nat.le_of_ble_eq_true rfl) (Nat.le_of_ble_eq_true rfl) dX5_init_37 (fun q_55 Hp8 hw8 => ?_)
  clear Hp7 hw7
  replace hw8 : qW D _ _ [(h0, .inr (5, [.ref q_49, .int 0, .int 26, .int 0, .int (-1), .null, .null, .int 0, .int 0])), (q_49, .inr (8, [.ref (u_54.1 0), .int 0, .int 0, .ref (u_54.1 1), .ref (u_54.1 2), .ref (u_54.1 3)])), ((u_54.1 0), .inl (cy 0, 0, .inl (fun _ => 0))), ((u_54.1 1), .inl (cy 1, 901, .inl (fun _ => 0))), ((u_54.1 2), .inl (cy 1, 901, .inl (fun _ => 0))), ((u_54.1 3), .inl (cy 1, 901, .inl (fun _ => 0))), (q_55, .inr (3, [.int 0, .int 0, .int 0, .int 0, .null, .null, .null, .null, .null, .null, .null, .null]))] _ _ := hw8
  refine lv_dup hx hb dX5_init_40 rfl ?_
  refine q_callNv (rest := [.ref q_55, .ref h0]) (wr := [(h0, .inr (5, [.ref q_49, .int 0, .int 26, .int 0, .int (-1), .null, .null, .int 0, .int 0])), (q_49, .inr (8, [.ref (u_54.1 0), .int 0, .int 0, .ref (u_54.1 1), .ref (u_54.1 2), .ref (u_54.1 3)])), ((u_54.1 0), .inl (cy 0, 0, .inl (fun _ => 0))), ((u_54.1 1), .inl (cy 1, 901, .inl (fun _ => 0))), ((u_54.1 2), .inl (cy 1, 901, .inl (fun _ => 0))), ((u_54.1 3), .inl (cy 1, 901, .inl (fun _ => 0)))]) X hK hA hw8 (fun sz => kX3_init_2 l D cy q_55  sz) (List.mem_of_getElem? (i := 8) rfl) wm_1_72 wm_1_4 hd_X3_init wm_1_71 rfl ⟨Nat.le_of_ble_eq_true rfl, Nat.le_of_ble_eq_true rfl⟩ hl.1 rfl (Nat.le_of_ble_eq_true rfl) dX5_init_41 ⟨Nat.le_of_ble_eq_true rfl, Nat.le_of_ble_eq_true rfl⟩ [6] [0, 1, 2, 3, 4, 5] rfl rfl (by decide) rfl rfl (fun u_61 Hp9 lc9 w_61 hw9 => ?_)
  clear Hp8 lc7 hw8
  replace hw9 : qW D _ _ [(h0, .inr (5, [.ref q_49, .int 0, .int 26, .int 0, .int (-1), .null, .null, .int 0, .int 0])), (q_49, .inr (8, [.ref (u_54.1 0), .int 0, .int 0, .ref (u_54.1 1), .ref (u_54.1 2), .ref (u_54.1 3)])), ((u_54.1 0), .inl (cy 0, 0, .inl (fun _ => 0))), ((u_54.1 1), .inl (cy 1, 901, .inl (fun _ => 0))), ((u_54.1 2), .inl (cy 1, 901, .inl (fun _ => 0))), ((u_54.1 3), .inl (cy 1, 901, .inl (fun _ => 0))), (q_55, .inr (3, [.int 1, .int 0, .int 0, .int 0, .null, .null, .null, .ref (u_61.1 0), .ref (u_61.1 1), .ref (u_61.1 2), .ref (u_61.1 3), .ref (u_61.1 4)])), ((u_61.1 0), .inl (cy 1, 10, .inl (fun _ => 0))), ((u_61.1 1), .inl (cy 1, 10, .inl (fun _ => 0))), ((u_61.1 2), .inl (cy 1, 10, .inl (fun _ => 0))), ((u_61.1 3), .inl (cy 1, 10, .inl (fun _ => 0))), ((u_61.1 4), .inl (cy 1, 10, .inl (fun _ => 0)))] _ _ := hw9
  refine q_put (v := .ref q_55) X hK hw9 0 rfl rfl wf_5 tyX5 tyX5_ok nmX5 5 (by decide) wm_1_151 rfl rfl rfl (Nat.le_of_ble_eq_true rfl) dX5_init_44 (fun Hp10 lc10 hw10 => ?_)
  clear Hp9 lc9 hw9
  replace hw10 : qW D _ _ [(h0, .inr (5, [.ref q_49, .int 0, .int 26, .int 0, .int (-1), .ref q_55, .null, .int 0, .int 0])), (q_49, .inr (8, [.ref (u_54.1 0), .int 0, .int 0, .ref (u_54.1 1), .ref (u_54.1 2), .ref (u_54.1 3)])), ((u_54.1 0), .inl (cy 0, 0, .inl (fun _ => 0))), ((u_54.1 1), .inl (cy 1, 901, .inl (fun _ => 0))), ((u_54.1 2), .inl (cy 1, 901, .inl (fun _ => 0))), ((u_54.1 3), .inl (cy 1, 901, .inl (fun _ => 0))), (q_55, .inr (3, [.int 1, .int 0, .int 0, .int 0, .null, .null, .null, .ref (u_61.1 0), .ref (u_61.1 1), .ref (u_61.1 2), .ref (u_61.1 3), .ref (u_61.1 4)])), ((u_61.1 0), .inl (cy 1, 10, .inl (fun _ => 0))), ((u_61.1 1), .inl (cy 1, 10, .inl (fun _ => 0))), ((u_61.1 2), .inl (cy 1, 10, .inl (fun _ => 0))), ((u_61.1 3), .inl (cy 1, 10, .inl (fun _ => 0))), ((u_61.1 4), .inl (cy 1, 10, .inl (fun _ => 0)))] _ _ := hw10
  refine lv_aload_n hx hb dX5_init_47 rfl (lv_at hl 0 rfl) ?_
  refine lv_sipush (v := 900) hx hb dX5_init_48 (by decide) ?_
  refine q_newi X hK hA hw10 wm_1_67 900 (by decide) (by decide +kernel) (by decide) (Nat.le_of_ble_eq_true rfl) (Nat.le_of_ble_eq_true rfl) dX5_init_51 (fun q_62 Hp11 hw11 => ?_)
  clear Hp10 hw10
  replace hw11 : qW D _ _ [(h0, .inr (5, [.ref q_49, .int 0, .int 26, .int 0, .int (-1), .ref q_55, .null, .int 0, .int 0])), (q_49, .inr (8, [.ref (u_54.1 0), .int 0, .int 0, .ref (u_54.1 1), .ref (u_54.1 2), .ref (u_54.1 3)])), ((u_54.1 0), .inl (cy 0, 0, .inl (fun _ => 0))), ((u_54.1 1), .inl (cy 1, 901, .inl (fun _ => 0))), ((u_54.1 2), .inl (cy 1, 901, .inl (fun _ => 0))), ((u_54.1 3), .inl (cy 1, 901, .inl (fun _ => 0))), (q_55, .inr (3, [.int 1, .int 0, .int 0, .int 0, .null, .null, .null, .ref (u_61.1 0), .ref (u_61.1 1), .ref (u_61.1 2), .ref (u_61.1 3), .ref (u_61.1 4)])), ((u_61.1 0), .inl (cy 1, 10, .inl (fun _ => 0))), ((u_61.1 1), .inl (cy 1, 10, .inl (fun _ => 0))), ((u_61.1 2), .inl (cy 1, 10, .inl (fun _ => 0))), ((u_61.1 3), .inl (cy 1, 10, .inl (fun _ => 0))), ((u_61.1 4), .inl (cy 1, 10, .inl (fun _ => 0))), (q_62, .inl (cy 1, 900, .inl (fun _ => 0)))] _ _ := hw11
  refine q_putF (v := .ref q_62) X hK hw11 0 rfl rfl wf_5 tyX5 tyX5_ok nmX5 6 (by decide) wm_1_152 rfl hnm rfl rfl rfl (Nat.le_of_ble_eq_true rfl) dX5_init_53 (fun Hp12 lc12 hw12 => ?_)
  clear Hp11 lc10 hw11
  replace hw12 : qW D _ _ [(h0, .inr (5, [.ref q_49, .int 0, .int 26, .int 0, .int (-1), .ref q_55, .ref q_62, .int 0, .int 0])), (q_49, .inr (8, [.ref (u_54.1 0), .int 0, .int 0, .ref (u_54.1 1), .ref (u_54.1 2), .ref (u_54.1 3)])), ((u_54.1 0), .inl (cy 0, 0, .inl (fun _ => 0))), ((u_54.1 1), .inl (cy 1, 901, .inl (fun _ => 0))), ((u_54.1 2), .inl (cy 1, 901, .inl (fun _ => 0))), ((u_54.1 3), .inl (cy 1, 901, .inl (fun _ => 0))), (q_55, .inr (3, [.int 1, .int 0, .int 0, .int 0, .null, .null, .null, .ref (u_61.1 0), .ref (u_61.1 1), .ref (u_61.1 2), .ref (u_61.1 3), .ref (u_61.1 4)])), ((u_61.1 0), .inl (cy 1, 10, .inl (fun _ => 0))), ((u_61.1 1), .inl (cy 1, 10, .inl (fun _ => 0))), ((u_61.1 2), .inl (cy 1, 10, .inl (fun _ => 0))), ((u_61.1 3), .inl (cy 1, 10, .inl (fun _ => 0))), ((u_61.1 4), .inl (cy 1, 10, .inl (fun _ => 0))), (q_62, .inl (cy 1, 900, .inl (fun _ => 0)))] _ _ := hw12
  refine lv_aload_n hx hb dX5_init_56 rfl (lv_at hl 0 rfl) ?_
  refine lv_iconst (v := 0) hx hb dX5_init_57 (by decide) ?_
  refine q_put (v := .int 0) X hK hw12 0 rfl rfl wf_5 tyX5 tyX5_ok nmX5 7 (by decide) wm_1_153 rfl rfl rfl (Nat.le_of_ble_eq_true rfl) dX5_init_58 (fun Hp13 lc13 hw13 => ?_)
  clear Hp12 lc12 hw12
  replace hw13 : qW D _ _ [(h0, .inr (5, [.ref q_49, .int 0, .int 26, .int 0, .int (-1), .ref q_55, .ref q_62, .int 0, .int 0])), (q_49, .inr (8, [.ref (u_54.1 0), .int 0, .int 0, .ref (u_54.1 1), .ref (u_54.1 2), .ref (u_54.1 3)])), ((u_54.1 0), .inl (cy 0, 0, .inl (fun _ => 0))), ((u_54.1 1), .inl (cy 1, 901, .inl (fun _ => 0))), ((u_54.1 2), .inl (cy 1, 901, .inl (fun _ => 0))), ((u_54.1 3), .inl (cy 1, 901, .inl (fun _ => 0))), (q_55, .inr (3, [.int 1, .int 0, .int 0, .int 0, .null, .null, .null, .ref (u_61.1 0), .ref (u_61.1 1), .ref (u_61.1 2), .ref (u_61.1 3), .ref (u_61.1 4)])), ((u_61.1 0), .inl (cy 1, 10, .inl (fun _ => 0))), ((u_61.1 1), .inl (cy 1, 10, .inl (fun _ => 0))), ((u_61.1 2), .inl (cy 1, 10, .inl (fun _ => 0))), ((u_61.1 3), .inl (cy 1, 10, .inl (fun _ => 0))), ((u_61.1 4), .inl (cy 1, 10, .inl (fun _ => 0))), (q_62, .inl (cy 1, 900, .inl (fun _ => 0)))] _ _ := hw13
  refine lv_aload_n hx hb dX5_init_61 rfl (lv_at hl 0 rfl) ?_
  refine lv_iconst (v := 0) hx hb dX5_init_62 (by decide) ?_
  refine q_put (v := .int 0) X hK hw13 0 rfl rfl wf_5 tyX5 tyX5_ok nmX5 8 (by decide) wm_1_154 rfl rfl rfl (Nat.le_of_ble_eq_true rfl) dX5_init_63 (fun Hp14 lc14 hw14 => ?_)
  clear Hp13 lc13 hw13
  replace hw14 : qW D _ _ [(h0, .inr (5, [.ref q_49, .int 0, .int 26, .int 0, .int (-1), .ref q_55, .ref q_62, .int 0, .int 0])), (q_49, .inr (8, [.ref (u_54.1 0), .int 0, .int 0, .ref (u_54.1 1), .ref (u_54.1 2), .ref (u_54.1 3)])), ((u_54.1 0), .inl (cy 0, 0, .inl (fun _ => 0))), ((u_54.1 1), .inl (cy 1, 901, .inl (fun _ => 0))), ((u_54.1 2), .inl (cy 1, 901, .inl (fun _ => 0))), ((u_54.1 3), .inl (cy 1, 901, .inl (fun _ => 0))), (q_55, .inr (3, [.int 1, .int 0, .int 0, .int 0, .null, .null, .null, .ref (u_61.1 0), .ref (u_61.1 1), .ref (u_61.1 2), .ref (u_61.1 3), .ref (u_61.1 4)])), ((u_61.1 0), .inl (cy 1, 10, .inl (fun _ => 0))), ((u_61.1 1), .inl (cy 1, 10, .inl (fun _ => 0))), ((u_61.1 2), .inl (cy 1, 10, .inl (fun _ => 0))), ((u_61.1 3), .inl (cy 1, 10, .inl (fun _ => 0))), ((u_61.1 4), .inl (cy 1, 10, .inl (fun _ => 0))), (q_62, .inl (cy 1, 900, .inl (fun _ => 0)))] _ _ := hw14
  exact q_vret X hr hlk hK hw14 (fun k => List.getD [q_49, (u_54.1 0), (u_54.1 1), (u_54.1 2), (u_54.1 3), q_55, (u_61.1 0), (u_61.1 1), (u_61.1 2), (u_61.1 3), (u_61.1 4), q_62] k 0, fun _ _ => 0, fun _ _ => 0) trivial [0, 1, 2, 3, 4, 5, 6, 7, 8, 9, 10, 11, 12] rfl rfl dX5_init_66 (Nat.le_of_ble_eq_true rfl) (Nat.le_of_ble_eq_true rfl)
set_option maxHeartbeats 4000000 in
set_option maxRecDepth 100000 in
theorem kX6_init_4 (l : Launch) (D : va_G) (cy : Nat → ClassId) (h0 : Nat) (sz : Nat) : MV l yX6_init cX6_init 1 { frames := 1, cells := 2, slots := 75, locals := 12 } [.ref h0] D cy [(h0, .inr (6, [.null, .null]))] sz (fun _ => True) (fun u => [(h0, .inr (6, [.ref (u.1 0), .ref (u.1 1)])), ((u.1 0), .inl (cy 1, 11, .inl (fun _ => 0))), ((u.1 1), .inl (cy 1, 64, .inl (fun _ => 0)))]) 2 75 := by
  refine q_ent (own := RX6) (by decide) rfl (Nat.le_of_ble_eq_true rfl) (fun p e s m below meth c ls X hr hlk hnm hK h hA hl => ?_)
  obtain ⟨hx, hb, hml, hown, ht⟩ := id X
  replace hl : lv_has ls 1 [(0, .ref h0)] := hl
  refine lv_aload_n hx hb dX6_init_0 rfl (lv_at hl 0 rfl) ?_
  refine q_obj X wm_1_183 wm_1_29 wm_1_30 hl.1 dX6_init_1 (Nat.le_of_ble_eq_true rfl) (Nat.le_of_ble_eq_true rfl) ?_
  refine lv_aload_n hx hb dX6_init_4 rfl (lv_at hl 0 rfl) ?_
  refine lv_bipush (v := 11) hx hb dX6_init_5 (by decide) ?_
  refine q_newi X hK hA h wm_1_67 11 (by decide) (by decide +kernel) (by decide) (Nat.le_of_ble_eq_true rfl) (Nat.le_of_ble_eq_true rfl) dX6_init_7 (fun q_72 Hp1 hw1 => ?_)
  clear h
  replace hw1 : qW D _ _ [(h0, .inr (6, [.null, .null])), (q_72, .inl (cy 1, 11, .inl (fun _ => 0)))] _ _ := hw1
  refine q_putF (v := .ref q_72) X hK hw1 0 rfl rfl wf_6 tyX6 tyX6_ok nmX6 0 (by decide) wm_1_184 rfl hnm rfl rfl rfl (Nat.le_of_ble_eq_true rfl) dX6_init_9 (fun Hp2 lc2 hw2 => ?_)
  clear Hp1 hw1
  replace hw2 : qW D _ _ [(h0, .inr (6, [.ref q_72, .null])), (q_72, .inl (cy 1, 11, .inl (fun _ => 0)))] _ _ := hw2
  refine lv_aload_n hx hb dX6_init_12 rfl (lv_at hl 0 rfl) ?_
  refine lv_bipush (v := 64) hx hb dX6_init_13 (by decide) ?_
  refine q_newi X hK hA hw2 wm_1_67 64 (by decide) (by decide +kernel) (by decide) (Nat.le_of_ble_eq_true rfl) (Nat.le_of_ble_eq_true rfl) dX6_init_15 (fun q_73 Hp3 hw3 => ?_)
  clear Hp2 hw2
  replace hw3 : qW D _ _ [(h0, .inr (6, [.ref q_72, .null])), (q_72, .inl (cy 1, 11, .inl (fun _ => 0))), (q_73, .inl (cy 1, 64, .inl (fun _ => 0)))] _ _ := hw3
  refine q_putF (v := .ref q_73) X hK hw3 0 rfl rfl wf_6 tyX6 tyX6_ok nmX6 1 (by decide) wm_1_185 rfl hnm rfl rfl rfl (Nat.le_of_ble_eq_true rfl) dX6_init_17 (fun Hp4 lc4 hw4 => ?_)
  clear Hp3 lc2 hw3
  replace hw4 : qW D _ _ [(h0, .inr (6, [.ref q_72, .ref q_73])), (q_72, .inl (cy 1, 11, .inl (fun _ => 0))), (q_73, .inl (cy 1, 64, .inl (fun _ => 0)))] _ _ := hw4
  exact q_vret X hr hlk hK hw4 (fun k => List.getD [q_72, q_73] k 0, fun _ _ => 0, fun _ _ => 0) trivial [0, 1, 2] rfl rfl dX6_init_20 (Nat.le_of_ble_eq_true rfl) (Nat.le_of_ble_eq_true rfl)
set_option maxHeartbeats 4000000 in
set_option maxRecDepth 100000 in
theorem kX0_init_5 (l : Launch) (D : va_G) (cy : Nat → ClassId) (h0 : Nat) (sz : Nat) : MV l yX0_init cX0_init 1 { frames := 1, cells := 3, slots := 2058, locals := 12 } [.ref h0] D cy [(h0, .inr (0, [.int 0, .null, .null, .null]))] sz (fun _ => True) (fun u => [(h0, .inr (0, [.int 0, .ref (u.1 0), .ref (u.1 1), .ref (u.1 2)])), ((u.1 0), .inl (cy 1, 10, .inl (fun _ => 0))), ((u.1 1), .inl (cy 1, 1024, .inl (fun _ => 0))), ((u.1 2), .inl (cy 1, 1024, .inl (fun _ => 0)))]) 3 2058 := by
  refine q_ent (own := RX0) (by decide) rfl (Nat.le_of_ble_eq_true rfl) (fun p e s m below meth c ls X hr hlk hnm hK h hA hl => ?_)
  obtain ⟨hx, hb, hml, hown, ht⟩ := id X
  replace hl : lv_has ls 1 [(0, .ref h0)] := hl
  refine lv_aload_n hx hb dX0_init_0 rfl (lv_at hl 0 rfl) ?_
  refine q_obj X wm_1_197 wm_1_29 wm_1_30 hl.1 dX0_init_1 (Nat.le_of_ble_eq_true rfl) (Nat.le_of_ble_eq_true rfl) ?_
  refine lv_aload_n hx hb dX0_init_4 rfl (lv_at hl 0 rfl) ?_
  refine lv_iconst (v := 0) hx hb dX0_init_5 (by decide) ?_
  refine q_put (v := .int 0) X hK h 0 rfl rfl wf_0 tyX0 tyX0_ok nmX0 0 (by decide) wm_1_198 rfl rfl rfl (Nat.le_of_ble_eq_true rfl) dX0_init_6 (fun Hp1 lc1 hw1 => ?_)
  clear h
  replace hw1 : qW D _ _ [(h0, .inr (0, [.int 0, .null, .null, .null]))] _ _ := hw1
  refine lv_aload_n hx hb dX0_init_9 rfl (lv_at hl 0 rfl) ?_
  refine lv_bipush (v := 10) hx hb dX0_init_10 (by decide) ?_
  refine q_newi X hK hA hw1 wm_1_67 10 (by decide) (by decide +kernel) (by decide) (Nat.le_of_ble_eq_true rfl) (Nat.le_of_ble_eq_true rfl) dX0_init_12 (fun q_82 Hp2 hw2 => ?_)
  clear Hp1 hw1
  replace hw2 : qW D _ _ [(h0, .inr (0, [.int 0, .null, .null, .null])), (q_82, .inl (cy 1, 10, .inl (fun _ => 0)))] _ _ := hw2
  refine q_putF (v := .ref q_82) X hK hw2 0 rfl rfl wf_0 tyX0 tyX0_ok nmX0 1 (by decide) wm_1_199 rfl hnm rfl rfl rfl (Nat.le_of_ble_eq_true rfl) dX0_init_14 (fun Hp3 lc3 hw3 => ?_)
  clear Hp2 lc1 hw2
  replace hw3 : qW D _ _ [(h0, .inr (0, [.int 0, .ref q_82, .null, .null])), (q_82, .inl (cy 1, 10, .inl (fun _ => 0)))] _ _ := hw3
  refine lv_aload_n hx hb dX0_init_17 rfl (lv_at hl 0 rfl) ?_
  refine lv_sipush (v := 1024) hx hb dX0_init_18 (by decide) ?_
  refine q_newi X hK hA hw3 wm_1_67 1024 (by decide) (by decide +kernel) (by decide) (Nat.le_of_ble_eq_true rfl) (Nat.le_of_ble_eq_true rfl) dX0_init_21 (fun q_83 Hp4 hw4 => ?_)
  clear Hp3 hw3
  replace hw4 : qW D _ _ [(h0, .inr (0, [.int 0, .ref q_82, .null, .null])), (q_82, .inl (cy 1, 10, .inl (fun _ => 0))), (q_83, .inl (cy 1, 1024, .inl (fun _ => 0)))] _ _ := hw4
  refine q_putF (v := .ref q_83) X hK hw4 0 rfl rfl wf_0 tyX0 tyX0_ok nmX0 2 (by decide) wm_1_201 rfl hnm rfl rfl rfl (Nat.le_of_ble_eq_true rfl) dX0_init_23 (fun Hp5 lc5 hw5 => ?_)
  clear Hp4 lc3 hw4
  replace hw5 : qW D _ _ [(h0, .inr (0, [.int 0, .ref q_82, .ref q_83, .null])), (q_82, .inl (cy 1, 10, .inl (fun _ => 0))), (q_83, .inl (cy 1, 1024, .inl (fun _ => 0)))] _ _ := hw5
  refine lv_aload_n hx hb dX0_init_26 rfl (lv_at hl 0 rfl) ?_
  refine lv_sipush (v := 1024) hx hb dX0_init_27 (by decide) ?_
  refine q_newi X hK hA hw5 wm_1_67 1024 (by decide) (by decide +kernel) (by decide) (Nat.le_of_ble_eq_true rfl) (Nat.le_of_ble_eq_true rfl) dX0_init_30 (fun q_84 Hp6 hw6 => ?_)
  clear Hp5 hw5
  replace hw6 : qW D _ _ [(h0, .inr (0, [.int 0, .ref q_82, .ref q_83, .null])), (q_82, .inl (cy 1, 10, .inl (fun _ => 0))), (q_83, .inl (cy 1, 1024, .inl (fun _ => 0))), (q_84, .inl (cy 1, 1024, .inl (fun _ => 0)))] _ _ := hw6
  refine q_putF (v := .ref q_84) X hK hw6 0 rfl rfl wf_0 tyX0 tyX0_ok nmX0 3 (by decide) wm_1_203 rfl hnm rfl rfl rfl (Nat.le_of_ble_eq_true rfl) dX0_init_32 (fun Hp7 lc7 hw7 => ?_)
  clear Hp6 lc5 hw6
  replace hw7 : qW D _ _ [(h0, .inr (0, [.int 0, .ref q_82, .ref q_83, .ref q_84])), (q_82, .inl (cy 1, 10, .inl (fun _ => 0))), (q_83, .inl (cy 1, 1024, .inl (fun _ => 0))), (q_84, .inl (cy 1, 1024, .inl (fun _ => 0)))] _ _ := hw7
  exact q_vret X hr hlk hK hw7 (fun k => List.getD [q_82, q_83, q_84] k 0, fun _ _ => 0, fun _ _ => 0) trivial [0, 1, 2, 3] rfl rfl dX0_init_35 (Nat.le_of_ble_eq_true rfl) (Nat.le_of_ble_eq_true rfl)
set_option maxHeartbeats 4000000 in
set_option maxRecDepth 100000 in
theorem kX10_init_6 (l : Launch) (D : va_G) (cy : Nat → ClassId) (h0 : Nat) (sz : Nat) : MV l yX10_init cX10_init 1 { frames := 1, cells := 4, slots := 4000, locals := 12 } [.ref h0] D cy [(h0, .inr (10, [.int 0, .int 0, .int 0, .int 0, .null, .null, .null, .null]))] sz (fun _ => True) (fun u => [(h0, .inr (10, [.int (-1), .int (-1), .int (-1), .int (-1), .ref (u.1 0), .ref (u.1 1), .ref (u.1 2), .ref (u.1 3)])), ((u.1 0), .inl (cy 1, 1000, .inl (fun _ => 0))), ((u.1 1), .inl (cy 1, 1000, .inl (fun _ => 0))), ((u.1 2), .inl (cy 1, 1000, .inl (fun _ => 0))), ((u.1 3), .inl (cy 1, 1000, .inl (fun _ => 0)))]) 4 4000 := by
  refine q_ent (own := RX10) (by decide) rfl (Nat.le_of_ble_eq_true rfl) (fun p e s m below meth c ls X hr hlk hnm hK h hA hl => ?_)
  obtain ⟨hx, hb, hml, hown, ht⟩ := id X
  replace hl : lv_has ls 1 [(0, .ref h0)] := hl
  refine lv_aload_n hx hb dX10_init_0 rfl (lv_at hl 0 rfl) ?_
  refine q_obj X wm_1_218 wm_1_29 wm_1_30 hl.1 dX10_init_1 (Nat.le_of_ble_eq_true rfl) (Nat.le_of_ble_eq_true rfl) ?_
  refine lv_aload_n hx hb dX10_init_4 rfl (lv_at hl 0 rfl) ?_
  refine lv_iconst (v := (-1)) hx hb dX10_init_5 (by decide) ?_
  refine q_put (v := .int (-1)) X hK h 0 rfl rfl wf_10 tyX10 tyX10_ok nmX10 0 (by decide) wm_1_219 rfl rfl rfl (Nat.le_of_ble_eq_true rfl) dX10_init_6 (fun Hp1 lc1 hw1 => ?_)
  clear h
  replace hw1 : qW D _ _ [(h0, .inr (10, [.int (-1), .int 0, .int 0, .int 0, .null, .null, .null, .null]))] _ _ := hw1
  refine lv_aload_n hx hb dX10_init_9 rfl (lv_at hl 0 rfl) ?_
  refine lv_iconst (v := (-1)) hx hb dX10_init_10 (by decide) ?_
  refine q_put (v := .int (-1)) X hK hw1 0 rfl rfl wf_10 tyX10 tyX10_ok nmX10 1 (by decide) wm_1_220 rfl rfl rfl (Nat.le_of_ble_eq_true rfl) dX10_init_11 (fun Hp2 lc2 hw2 => ?_)
  clear Hp1 lc1 hw1
  replace hw2 : qW D _ _ [(h0, .inr (10, [.int (-1), .int (-1), .int 0, .int 0, .null, .null, .null, .null]))] _ _ := hw2
  refine lv_aload_n hx hb dX10_init_14 rfl (lv_at hl 0 rfl) ?_
  refine lv_iconst (v := (-1)) hx hb dX10_init_15 (by decide) ?_
  refine q_put (v := .int (-1)) X hK hw2 0 rfl rfl wf_10 tyX10 tyX10_ok nmX10 2 (by decide) wm_1_221 rfl rfl rfl (Nat.le_of_ble_eq_true rfl) dX10_init_16 (fun Hp3 lc3 hw3 => ?_)
  clear Hp2 lc2 hw2
  replace hw3 : qW D _ _ [(h0, .inr (10, [.int (-1), .int (-1), .int (-1), .int 0, .null, .null, .null, .null]))] _ _ := hw3
  refine lv_aload_n hx hb dX10_init_19 rfl (lv_at hl 0 rfl) ?_
  refine lv_iconst (v := (-1)) hx hb dX10_init_20 (by decide) ?_
  refine q_put (v := .int (-1)) X hK hw3 0 rfl rfl wf_10 tyX10 tyX10_ok nmX10 3 (by decide) wm_1_222 rfl rfl rfl (Nat.le_of_ble_eq_true rfl) dX10_init_21 (fun Hp4 lc4 hw4 => ?_)
  clear Hp3 lc3 hw3
  replace hw4 : qW D _ _ [(h0, .inr (10, [.int (-1), .int (-1), .int (-1), .int (-1), .null, .null, .null, .null]))] _ _ := hw4
  refine lv_aload_n hx hb dX10_init_24 rfl (lv_at hl 0 rfl) ?_
  refine lv_sipush (v := 1000) hx hb dX10_init_25 (by decide) ?_
  refine q_newi X hK hA hw4 wm_1_67 1000 (by decide) (by decide +kernel) (by decide) (Nat.le_of_ble_eq_true rfl) (Nat.le_of_ble_eq_true rfl) dX10_init_28 (fun q_95 Hp5 hw5 => ?_)
  clear Hp4 hw4
  replace hw5 : qW D _ _ [(h0, .inr (10, [.int (-1), .int (-1), .int (-1), .int (-1), .null, .null, .null, .null])), (q_95, .inl (cy 1, 1000, .inl (fun _ => 0)))] _ _ := hw5
  refine q_putF (v := .ref q_95) X hK hw5 0 rfl rfl wf_10 tyX10 tyX10_ok nmX10 4 (by decide) wm_1_224 rfl hnm rfl rfl rfl (Nat.le_of_ble_eq_true rfl) dX10_init_30 (fun Hp6 lc6 hw6 => ?_)
  clear Hp5 lc4 hw5
  replace hw6 : qW D _ _ [(h0, .inr (10, [.int (-1), .int (-1), .int (-1), .int (-1), .ref q_95, .null, .null, .null])), (q_95, .inl (cy 1, 1000, .inl (fun _ => 0)))] _ _ := hw6
  refine lv_aload_n hx hb dX10_init_33 rfl (lv_at hl 0 rfl) ?_
  refine lv_sipush (v := 1000) hx hb dX10_init_34 (by decide) ?_
  refine q_newi X hK hA hw6 wm_1_67 1000 (by decide) (by decide +kernel) (by decide) (Nat.le_of_ble_eq_true rfl) (Nat.le_of_ble_eq_true rfl) dX10_init_37 (fun q_96 Hp7 hw7 => ?_)
  clear Hp6 hw6
  replace hw7 : qW D _ _ [(h0, .inr (10, [.int (-1), .int (-1), .int (-1), .int (-1), .ref q_95, .null, .null, .null])), (q_95, .inl (cy 1, 1000, .inl (fun _ => 0))), (q_96, .inl (cy 1, 1000, .inl (fun _ => 0)))] _ _ := hw7
  refine q_putF (v := .ref q_96) X hK hw7 0 rfl rfl wf_10 tyX10 tyX10_ok nmX10 5 (by decide) wm_1_226 rfl hnm rfl rfl rfl (Nat.le_of_ble_eq_true rfl) dX10_init_39 (fun Hp8 lc8 hw8 => ?_)
  clear Hp7 lc6 hw7
  replace hw8 : qW D _ _ [(h0, .inr (10, [.int (-1), .int (-1), .int (-1), .int (-1), .ref q_95, .ref q_96, .null, .null])), (q_95, .inl (cy 1, 1000, .inl (fun _ => 0))), (q_96, .inl (cy 1, 1000, .inl (fun _ => 0)))] _ _ := hw8
  refine lv_aload_n hx hb dX10_init_42 rfl (lv_at hl 0 rfl) ?_
  refine lv_sipush (v := 1000) hx hb dX10_init_43 (by decide) ?_
  refine q_newi X hK hA hw8 wm_1_67 1000 (by decide) (by decide +kernel) (by decide) (Nat.le_of_ble_eq_true rfl) (Nat.le_of_ble_eq_true rfl) dX10_init_46 (fun q_97 Hp9 hw9 => ?_)
  clear Hp8 hw8
  replace hw9 : qW D _ _ [(h0, .inr (10, [.int (-1), .int (-1), .int (-1), .int (-1), .ref q_95, .ref q_96, .null, .null])), (q_95, .inl (cy 1, 1000, .inl (fun _ => 0))), (q_96, .inl (cy 1, 1000, .inl (fun _ => 0))), (q_97, .inl (cy 1, 1000, .inl (fun _ => 0)))] _ _ := hw9
  refine q_putF (v := .ref q_97) X hK hw9 0 rfl rfl wf_10 tyX10 tyX10_ok nmX10 6 (by decide) wm_1_227 rfl hnm rfl rfl rfl (Nat.le_of_ble_eq_true rfl) dX10_init_48 (fun Hp10 lc10 hw10 => ?_)
  clear Hp9 lc8 hw9
  replace hw10 : qW D _ _ [(h0, .inr (10, [.int (-1), .int (-1), .int (-1), .int (-1), .ref q_95, .ref q_96, .ref q_97, .null])), (q_95, .inl (cy 1, 1000, .inl (fun _ => 0))), (q_96, .inl (cy 1, 1000, .inl (fun _ => 0))), (q_97, .inl (cy 1, 1000, .inl (fun _ => 0)))] _ _ := hw10
  refine lv_aload_n hx hb dX10_init_51 rfl (lv_at hl 0 rfl) ?_
  refine lv_sipush (v := 1000) hx hb dX10_init_52 (by decide) ?_
  refine q_newi X hK hA hw10 wm_1_67 1000 (by decide) (by decide +kernel) (by decide) (Nat.le_of_ble_eq_true rfl) (Nat.le_of_ble_eq_true rfl) dX10_init_55 (fun q_98 Hp11 hw11 => ?_)
  clear Hp10 hw10
  replace hw11 : qW D _ _ [(h0, .inr (10, [.int (-1), .int (-1), .int (-1), .int (-1), .ref q_95, .ref q_96, .ref q_97, .null])), (q_95, .inl (cy 1, 1000, .inl (fun _ => 0))), (q_96, .inl (cy 1, 1000, .inl (fun _ => 0))), (q_97, .inl (cy 1, 1000, .inl (fun _ => 0))), (q_98, .inl (cy 1, 1000, .inl (fun _ => 0)))] _ _ := hw11
  refine q_putF (v := .ref q_98) X hK hw11 0 rfl rfl wf_10 tyX10 tyX10_ok nmX10 7 (by decide) wm_1_228 rfl hnm rfl rfl rfl (Nat.le_of_ble_eq_true rfl) dX10_init_57 (fun Hp12 lc12 hw12 => ?_)
  clear Hp11 lc10 hw11
  replace hw12 : qW D _ _ [(h0, .inr (10, [.int (-1), .int (-1), .int (-1), .int (-1), .ref q_95, .ref q_96, .ref q_97, .ref q_98])), (q_95, .inl (cy 1, 1000, .inl (fun _ => 0))), (q_96, .inl (cy 1, 1000, .inl (fun _ => 0))), (q_97, .inl (cy 1, 1000, .inl (fun _ => 0))), (q_98, .inl (cy 1, 1000, .inl (fun _ => 0)))] _ _ := hw12
  exact q_vret X hr hlk hK hw12 (fun k => List.getD [q_95, q_96, q_97, q_98] k 0, fun _ _ => 0, fun _ _ => 0) trivial [0, 1, 2, 3, 4] rfl rfl dX10_init_60 (Nat.le_of_ble_eq_true rfl) (Nat.le_of_ble_eq_true rfl)
set_option maxHeartbeats 4000000 in
set_option maxRecDepth 100000 in
theorem kX1_init_7 (l : Launch) (D : va_G) (cy : Nat → ClassId) (h0 : Nat) (sz : Nat) : MV l yX1_init cX1_init 1 { frames := 1, cells := 1, slots := 1000, locals := 12 } [.ref h0] D cy [(h0, .inr (1, [.int 0, .int 0, .int 0, .int 0, .null]))] sz (fun _ => True) (fun u => [(h0, .inr (1, [.int (-1), .int (-1), .int (-1), .int 0, .ref (u.1 0)])), ((u.1 0), .inl (cy 1, 1000, .inl (fun _ => 0)))]) 1 1000 := by
  refine q_ent (own := RX1) (by decide) rfl (Nat.le_of_ble_eq_true rfl) (fun p e s m below meth c ls X hr hlk hnm hK h hA hl => ?_)
  obtain ⟨hx, hb, hml, hown, ht⟩ := id X
  replace hl : lv_has ls 1 [(0, .ref h0)] := hl
  refine lv_aload_n hx hb dX1_init_0 rfl (lv_at hl 0 rfl) ?_
  refine q_obj X wm_2_11 wm_1_29 wm_1_30 hl.1 dX1_init_1 (Nat.le_of_ble_eq_true rfl) (Nat.le_of_ble_eq_true rfl) ?_
  refine lv_aload_n hx hb dX1_init_4 rfl (lv_at hl 0 rfl) ?_
  refine lv_iconst (v := (-1)) hx hb dX1_init_5 (by decide) ?_
  refine q_put (v := .int (-1)) X hK h 0 rfl rfl wf_1 tyX1 tyX1_ok nmX1 0 (by decide) wm_2_12 rfl rfl rfl (Nat.le_of_ble_eq_true rfl) dX1_init_6 (fun Hp1 lc1 hw1 => ?_)
  clear h
  replace hw1 : qW D _ _ [(h0, .inr (1, [.int (-1), .int 0, .int 0, .int 0, .null]))] _ _ := hw1
  refine lv_aload_n hx hb dX1_init_9 rfl (lv_at hl 0 rfl) ?_
  refine lv_iconst (v := (-1)) hx hb dX1_init_10 (by decide) ?_
  refine q_put (v := .int (-1)) X hK hw1 0 rfl rfl wf_1 tyX1 tyX1_ok nmX1 1 (by decide) wm_2_13 rfl rfl rfl (Nat.le_of_ble_eq_true rfl) dX1_init_11 (fun Hp2 lc2 hw2 => ?_)
  clear Hp1 lc1 hw1
  replace hw2 : qW D _ _ [(h0, .inr (1, [.int (-1), .int (-1), .int 0, .int 0, .null]))] _ _ := hw2
  refine lv_aload_n hx hb dX1_init_14 rfl (lv_at hl 0 rfl) ?_
  refine lv_iconst (v := (-1)) hx hb dX1_init_15 (by decide) ?_
  refine q_put (v := .int (-1)) X hK hw2 0 rfl rfl wf_1 tyX1 tyX1_ok nmX1 2 (by decide) wm_2_14 rfl rfl rfl (Nat.le_of_ble_eq_true rfl) dX1_init_16 (fun Hp3 lc3 hw3 => ?_)
  clear Hp2 lc2 hw2
  replace hw3 : qW D _ _ [(h0, .inr (1, [.int (-1), .int (-1), .int (-1), .int 0, .null]))] _ _ := hw3
  refine lv_aload_n hx hb dX1_init_19 rfl (lv_at hl 0 rfl) ?_
  refine lv_iconst (v := 0) hx hb dX1_init_20 (by decide) ?_
  refine q_put (v := .int 0) X hK hw3 0 rfl rfl wf_1 tyX1 tyX1_ok nmX1 3 (by decide) wm_2_15 rfl rfl rfl (Nat.le_of_ble_eq_true rfl) dX1_init_21 (fun Hp4 lc4 hw4 => ?_)
  clear Hp3 lc3 hw3
  replace hw4 : qW D _ _ [(h0, .inr (1, [.int (-1), .int (-1), .int (-1), .int 0, .null]))] _ _ := hw4
  refine lv_aload_n hx hb dX1_init_24 rfl (lv_at hl 0 rfl) ?_
  refine lv_sipush (v := 1000) hx hb dX1_init_25 (by decide) ?_
  refine q_newi X hK hA hw4 wm_1_67 1000 (by decide) (by decide +kernel) (by decide) (Nat.le_of_ble_eq_true rfl) (Nat.le_of_ble_eq_true rfl) dX1_init_28 (fun q_103 Hp5 hw5 => ?_)
  clear Hp4 hw4
  replace hw5 : qW D _ _ [(h0, .inr (1, [.int (-1), .int (-1), .int (-1), .int 0, .null])), (q_103, .inl (cy 1, 1000, .inl (fun _ => 0)))] _ _ := hw5
  refine q_putF (v := .ref q_103) X hK hw5 0 rfl rfl wf_1 tyX1 tyX1_ok nmX1 4 (by decide) wm_2_17 rfl hnm rfl rfl rfl (Nat.le_of_ble_eq_true rfl) dX1_init_30 (fun Hp6 lc6 hw6 => ?_)
  clear Hp5 lc4 hw5
  replace hw6 : qW D _ _ [(h0, .inr (1, [.int (-1), .int (-1), .int (-1), .int 0, .ref q_103])), (q_103, .inl (cy 1, 1000, .inl (fun _ => 0)))] _ _ := hw6
  exact q_vret X hr hlk hK hw6 (fun k => List.getD [q_103] k 0, fun _ _ => 0, fun _ _ => 0) trivial [0, 1] rfl rfl dX1_init_33 (Nat.le_of_ble_eq_true rfl) (Nat.le_of_ble_eq_true rfl)
set_option maxHeartbeats 4000000 in
set_option maxRecDepth 100000 in
theorem kX7_init_8 (l : Launch) (D : va_G) (cy : Nat → ClassId) (h0 : Nat) (h1 : Nat) (sz : Nat) : MV l yX7_init cX7_init 2 { frames := 1, cells := 1, slots := 10, locals := 12 } [.ref h0, .ref h1] D cy [(h0, .inr (7, [.null, .int 0, .int 0, .null]))] sz (fun _ => True) (fun u => [(h0, .inr (7, [.ref h1, .int 0, .int 0, .ref (u.1 0)])), ((u.1 0), .inl (cy 1, 10, .inl (fun _ => 0)))]) 1 10 := by
  refine q_ent (own := RX7) (by decide) rfl (Nat.le_of_ble_eq_true rfl) (fun p e s m below meth c ls X hr hlk hnm hK h hA hl => ?_)
  obtain ⟨hx, hb, hml, hown, ht⟩ := id X
  replace hl : lv_has ls 2 [(0, .ref h0), (1, .ref h1)] := hl
  refine lv_aload_n hx hb dX7_init_0 rfl (lv_at hl 0 rfl) ?_
  refine q_obj X wm_2_36 wm_1_29 wm_1_30 hl.1 dX7_init_1 (Nat.le_of_ble_eq_true rfl) (Nat.le_of_ble_eq_true rfl) ?_
  refine lv_aload_n hx hb dX7_init_4 rfl (lv_at hl 0 rfl) ?_
  refine lv_iconst (v := 0) hx hb dX7_init_5 (by decide) ?_
  refine q_put (v := .int 0) X hK h 0 rfl rfl wf_7 tyX7 tyX7_ok nmX7 1 (by decide) wm_2_43 rfl rfl rfl (Nat.le_of_ble_eq_true rfl) dX7_init_6 (fun Hp1 lc1 hw1 => ?_)
  clear h
  replace hw1 : qW D _ _ [(h0, .inr (7, [.null, .int 0, .int 0, .null]))] _ _ := hw1
  refine lv_aload_n hx hb dX7_init_9 rfl (lv_at hl 0 rfl) ?_
  refine lv_iconst (v := 0) hx hb dX7_init_10 (by decide) ?_
  refine q_put (v := .int 0) X hK hw1 0 rfl rfl wf_7 tyX7 tyX7_ok nmX7 2 (by decide) wm_2_48 rfl rfl rfl (Nat.le_of_ble_eq_true rfl) dX7_init_11 (fun Hp2 lc2 hw2 => ?_)
  clear Hp1 lc1 hw1
  replace hw2 : qW D _ _ [(h0, .inr (7, [.null, .int 0, .int 0, .null]))] _ _ := hw2
  refine lv_aload_n hx hb dX7_init_14 rfl (lv_at hl 0 rfl) ?_
  refine lv_bipush (v := 10) hx hb dX7_init_15 (by decide) ?_
  refine q_newi X hK hA hw2 wm_1_67 10 (by decide) (by decide +kernel) (by decide) (Nat.le_of_ble_eq_true rfl) (Nat.le_of_ble_eq_true rfl) dX7_init_17 (fun q_115 Hp3 hw3 => ?_)
  clear Hp2 hw2
  replace hw3 : qW D _ _ [(h0, .inr (7, [.null, .int 0, .int 0, .null])), (q_115, .inl (cy 1, 10, .inl (fun _ => 0)))] _ _ := hw3
  refine q_putF (v := .ref q_115) X hK hw3 0 rfl rfl wf_7 tyX7 tyX7_ok nmX7 3 (by decide) wm_2_50 rfl hnm rfl rfl rfl (Nat.le_of_ble_eq_true rfl) dX7_init_19 (fun Hp4 lc4 hw4 => ?_)
  clear Hp3 lc2 hw3
  replace hw4 : qW D _ _ [(h0, .inr (7, [.null, .int 0, .int 0, .ref q_115])), (q_115, .inl (cy 1, 10, .inl (fun _ => 0)))] _ _ := hw4
  refine lv_aload_n hx hb dX7_init_22 rfl (lv_at hl 0 rfl) ?_
  refine lv_aload_n hx hb dX7_init_23 rfl (lv_at hl 1 rfl) ?_
  refine q_put (v := .ref h1) X hK hw4 0 rfl rfl wf_7 tyX7 tyX7_ok nmX7 0 (by decide) wm_2_37 rfl rfl rfl (Nat.le_of_ble_eq_true rfl) dX7_init_24 (fun Hp5 lc5 hw5 => ?_)
  clear Hp4 lc4 hw4
  replace hw5 : qW D _ _ [(h0, .inr (7, [.ref h1, .int 0, .int 0, .ref q_115])), (q_115, .inl (cy 1, 10, .inl (fun _ => 0)))] _ _ := hw5
  exact q_vret X hr hlk hK hw5 (fun k => List.getD [q_115] k 0, fun _ _ => 0, fun _ _ => 0) trivial [0, 1] rfl rfl dX7_init_27 (Nat.le_of_ble_eq_true rfl) (Nat.le_of_ble_eq_true rfl)
set_option maxHeartbeats 4000000 in
set_option maxRecDepth 100000 in
theorem kX2_init_9 (l : Launch) (D : va_G) (cy : Nat → ClassId) (h0 : Nat) (h1 : Nat) (sz : Nat) : MV l yX2_init cX2_init 3 { frames := 2, cells := 21, slots := 150, locals := 33 } [.ref h0, .ref h1] D cy [(h0, .inr (2, [.int 0, .null]))] sz (fun _ => True) (fun u => [(h0, .inr (2, [.int 0, .ref (u.1 0)])), ((u.1 0), .inl (cy 4, 10, .inr (.inr (.inr (.inr (va_up (va_up (va_up (va_up (va_up (va_up (va_up (va_up (va_up (va_up (fun _ => none) (Int32.toNatClampNeg 0) (some (u.1 1))) (Int32.toNatClampNeg 1) (some (u.1 3))) (Int32.toNatClampNeg 2) (some (u.1 5))) (Int32.toNatClampNeg 3) (some (u.1 7))) (Int32.toNatClampNeg 4) (some (u.1 9))) (Int32.toNatClampNeg 5) (some (u.1 11))) (Int32.toNatClampNeg 6) (some (u.1 13))) (Int32.toNatClampNeg 7) (some (u.1 15))) (Int32.toNatClampNeg 8) (some (u.1 17))) (Int32.toNatClampNeg 9) (some (u.1 19)))))))), ((u.1 1), .inr (7, [.ref h1, .int 0, .int 0, .ref (u.1 2)])), ((u.1 2), .inl (cy 1, 10, .inl (fun _ => 0))), ((u.1 3), .inr (7, [.ref h1, .int 0, .int 0, .ref (u.1 4)])), ((u.1 4), .inl (cy 1, 10, .inl (fun _ => 0))), ((u.1 5), .inr (7, [.ref h1, .int 0, .int 0, .ref (u.1 6)])), ((u.1 6), .inl (cy 1, 10, .inl (fun _ => 0))), ((u.1 7), .inr (7, [.ref h1, .int 0, .int 0, .ref (u.1 8)])), ((u.1 8), .inl (cy 1, 10, .inl (fun _ => 0))), ((u.1 9), .inr (7, [.ref h1, .int 0, .int 0, .ref (u.1 10)])), ((u.1 10), .inl (cy 1, 10, .inl (fun _ => 0))), ((u.1 11), .inr (7, [.ref h1, .int 0, .int 0, .ref (u.1 12)])), ((u.1 12), .inl (cy 1, 10, .inl (fun _ => 0))), ((u.1 13), .inr (7, [.ref h1, .int 0, .int 0, .ref (u.1 14)])), ((u.1 14), .inl (cy 1, 10, .inl (fun _ => 0))), ((u.1 15), .inr (7, [.ref h1, .int 0, .int 0, .ref (u.1 16)])), ((u.1 16), .inl (cy 1, 10, .inl (fun _ => 0))), ((u.1 17), .inr (7, [.ref h1, .int 0, .int 0, .ref (u.1 18)])), ((u.1 18), .inl (cy 1, 10, .inl (fun _ => 0))), ((u.1 19), .inr (7, [.ref h1, .int 0, .int 0, .ref (u.1 20)])), ((u.1 20), .inl (cy 1, 10, .inl (fun _ => 0)))]) 21 150 := by
  refine q_ent (own := RX2) (by decide) rfl (Nat.le_of_ble_eq_true rfl) (fun p e s m below meth c ls X hr hlk hnm hK h hA hl => ?_)
  obtain ⟨hx, hb, hml, hown, ht⟩ := id X
  replace hl : lv_has ls 3 [(0, .ref h0), (1, .ref h1)] := hl
  refine lv_aload_n hx hb dX2_init_0 rfl (lv_at hl 0 rfl) ?_
  refine q_obj X wm_2_69 wm_1_29 wm_1_30 hl.1 dX2_init_1 (Nat.le_of_ble_eq_true rfl) (Nat.le_of_ble_eq_true rfl) ?_
  refine lv_aload_n hx hb dX2_init_4 rfl (lv_at hl 0 rfl) ?_
  refine lv_iconst (v := 0) hx hb dX2_init_5 (by decide) ?_
  refine q_put (v := .int 0) X hK h 0 rfl rfl wf_2 tyX2 tyX2_ok nmX2 0 (by decide) wm_2_72 rfl rfl rfl (Nat.le_of_ble_eq_true rfl) dX2_init_6 (fun Hp1 lc1 hw1 => ?_)
  clear h
  replace hw1 : qW D _ _ [(h0, .inr (2, [.int 0, .null]))] _ _ := hw1
  refine lv_aload_n hx hb dX2_init_9 rfl (lv_at hl 0 rfl) ?_
  refine lv_bipush (v := 10) hx hb dX2_init_10 (by decide) ?_
  refine q_newS X hK hA hw1 wm_2_70 10 (by decide) (by decide +kernel) (by decide) (Nat.le_of_ble_eq_true rfl) (Nat.le_of_ble_eq_true rfl) dX2_init_12 (fun q_186 Hp2 hw2 => ?_)
  clear Hp1 hw1
  replace hw2 : qW D _ _ [(h0, .inr (2, [.int 0, .null])), (q_186, .inl (cy 4, 10, .inr (.inr (.inr (.inr (fun _ => none))))))] _ _ := hw2
  refine q_putF (v := .ref q_186) X hK hw2 0 rfl rfl wf_2 tyX2 tyX2_ok nmX2 1 (by decide) wm_2_74 rfl hnm rfl rfl rfl (Nat.le_of_ble_eq_true rfl) dX2_init_15 (fun Hp3 lc3 hw3 => ?_)
  clear Hp2 lc1 hw2
  replace hw3 : qW D _ _ [(h0, .inr (2, [.int 0, .ref q_186])), (q_186, .inl (cy 4, 10, .inr (.inr (.inr (.inr (fun _ => none))))))] _ _ := hw3
  refine lv_iconst (v := 0) hx hb dX2_init_18 (by decide) ?_
  refine lv_istore_n (lv' := [(2, .int 0), (0, .ref h0), (1, .ref h1)]) hx hb dX2_init_19 rfl hl (by decide) rfl (fun lz4 hv4 => ?_)
  clear ls hl
  refine lv_iload_n hx hb dX2_init_20 rfl (lv_at hv4 0 rfl) ?_
  refine lv_bipush (v := 10) hx hb dX2_init_21 (by decide) ?_
  refine lv_icmp_ge (tgt := 46) hx hb dX2_init_23 (by decide) (fun c => absurd c (by decide +kernel)) (fun _ => ?_)
  refine lv_aload_n hx hb dX2_init_26 rfl (lv_at hv4 1 rfl) ?_
  refine q_get X hK hw3 0 rfl rfl wf_2 1 (by decide) rfl wm_2_74 dX2_init_27 ?_
  refine lv_iload_n hx hb dX2_init_30 rfl (lv_at hv4 0 rfl) ?_
  refine q_new (fs := [.null, .int 0, .int 0, .null]) (ci := 7) X hK hA hw3 rfl wf_7 tyX7 tyX7_ok wm_2_70 wm_2_32 wm_1_9 df_7 (Nat.le_of_ble_eq_true rfl) (Nat.le_of_ble_eq_true rfl) dX2_init_31 (fun q_187 Hp5 hw5 => ?_)
  clear Hp3 hw3
  replace hw5 : qW D _ _ [(h0, .inr (2, [.int 0, .ref q_186])), (q_186, .inl (cy 4, 10, .inr (.inr (.inr (.inr (fun _ => none)))))), (q_187, .inr (7, [.null, .int 0, .int 0, .null]))] _ _ := hw5
  refine lv_dup hx hb dX2_init_34 rfl ?_
  refine lv_aload_n hx hb dX2_init_35 rfl (lv_at hv4 2 rfl) ?_
  refine q_callIv (rest := [.ref q_187, .int 0, .ref q_186]) (wr := [(h0, .inr (2, [.int 0, .ref q_186])), (q_186, .inl (cy 4, 10, .inr (.inr (.inr (.inr (fun _ => none))))))]) X hK hA hw5 (fun sz => kX7_init_8 l D cy q_187 h1  sz) wm_2_71 wm_2_35 wm_1_9 hd_X7_init wm_2_34 rfl ⟨Nat.le_of_ble_eq_true rfl, Nat.le_of_ble_eq_true rfl⟩ hv4.1 rfl (Nat.le_of_ble_eq_true rfl) dX2_init_36 ⟨Nat.le_of_ble_eq_true rfl, Nat.le_of_ble_eq_true rfl⟩ [2] [0, 1] rfl rfl (by decide) rfl rfl (fun u_189 Hp6 lc6 w_189 hw6 => ?_)
  clear Hp5 lc3 hw5
  replace hw6 : qW D _ _ [(h0, .inr (2, [.int 0, .ref q_186])), (q_186, .inl (cy 4, 10, .inr (.inr (.inr (.inr (fun _ => none)))))), (q_187, .inr (7, [.ref h1, .int 0, .int 0, .ref (u_189.1 0)])), ((u_189.1 0), .inl (cy 1, 10, .inl (fun _ => 0)))] _ _ := hw6
  refine q_astS X hK hw6 1 2 rfl rfl (q_in (by decide +kernel)) dX2_init_39 (fun Hp7 lc7 hw7 => ?_)
  clear Hp6 lc6 hw6
  replace hw7 : qW D _ _ [(h0, .inr (2, [.int 0, .ref q_186])), (q_186, .inl (cy 4, 10, .inr (.inr (.inr (.inr (va_up (fun _ => none) (Int32.toNatClampNeg 0) (some q_187))))))), (q_187, .inr (7, [.ref h1, .int 0, .int 0, .ref (u_189.1 0)])), ((u_189.1 0), .inl (cy 1, 10, .inl (fun _ => 0)))] _ _ := hw7
  refine lv_iinc (v := 1) (lv' := [(2, .int 1), (0, .ref h0), (1, .ref h1)]) hx hb dX2_init_40 hv4 (k := 0) rfl (by decide +kernel) (by decide) rfl (fun lz8 hv8 => ?_)
  clear lz4 hv4
  refine lv_goto (tgt := 20) hx hb dX2_init_43 (by decide) ?_
  refine lv_iload_n hx hb dX2_init_20 rfl (lv_at hv8 0 rfl) ?_
  refine lv_bipush (v := 10) hx hb dX2_init_21 (by decide) ?_
  refine lv_icmp_ge (tgt := 46) hx hb dX2_init_23 (by decide) (fun c => absurd c (by decide +kernel)) (fun _ => ?_)
  refine lv_aload_n hx hb dX2_init_26 rfl (lv_at hv8 1 rfl) ?_
  refine q_get X hK hw7 0 rfl rfl wf_2 1 (by decide) rfl wm_2_74 dX2_init_27 ?_
  refine lv_iload_n hx hb dX2_init_30 rfl (lv_at hv8 0 rfl) ?_
  refine q_new (fs := [.null, .int 0, .int 0, .null]) (ci := 7) X hK hA hw7 rfl wf_7 tyX7 tyX7_ok wm_2_70 wm_2_32 wm_1_9 df_7 (Nat.le_of_ble_eq_true rfl) (Nat.le_of_ble_eq_true rfl) dX2_init_31 (fun q_190 Hp9 hw9 => ?_)
  clear Hp7 hw7
  replace hw9 : qW D _ _ [(h0, .inr (2, [.int 0, .ref q_186])), (q_186, .inl (cy 4, 10, .inr (.inr (.inr (.inr (va_up (fun _ => none) (Int32.toNatClampNeg 0) (some q_187))))))), (q_187, .inr (7, [.ref h1, .int 0, .int 0, .ref (u_189.1 0)])), ((u_189.1 0), .inl (cy 1, 10, .inl (fun _ => 0))), (q_190, .inr (7, [.null, .int 0, .int 0, .null]))] _ _ := hw9
  refine lv_dup hx hb dX2_init_34 rfl ?_
  refine lv_aload_n hx hb dX2_init_35 rfl (lv_at hv8 2 rfl) ?_
  refine q_callIv (rest := [.ref q_190, .int 1, .ref q_186]) (wr := [(h0, .inr (2, [.int 0, .ref q_186])), (q_186, .inl (cy 4, 10, .inr (.inr (.inr (.inr (va_up (fun _ => none) (Int32.toNatClampNeg 0) (some q_187))))))), (q_187, .inr (7, [.ref h1, .int 0, .int 0, .ref (u_189.1 0)])), ((u_189.1 0), .inl (cy 1, 10, .inl (fun _ => 0)))]) X hK hA hw9 (fun sz => kX7_init_8 l D cy q_190 h1  sz) wm_2_71 wm_2_35 wm_1_9 hd_X7_init wm_2_34 rfl ⟨Nat.le_of_ble_eq_true rfl, Nat.le_of_ble_eq_true rfl⟩ hv8.1 rfl (Nat.le_of_ble_eq_true rfl) dX2_init_36 ⟨Nat.le_of_ble_eq_true rfl, Nat.le_of_ble_eq_true rfl⟩ [4] [0, 1, 2, 3] rfl rfl (by decide) rfl rfl (fun u_192 Hp10 lc10 w_192 hw10 => ?_)
  clear Hp9 lc7 hw9
  replace hw10 : qW D _ _ [(h0, .inr (2, [.int 0, .ref q_186])), (q_186, .inl (cy 4, 10, .inr (.inr (.inr (.inr (va_up (fun _ => none) (Int32.toNatClampNeg 0) (some q_187))))))), (q_187, .inr (7, [.ref h1, .int 0, .int 0, .ref (u_189.1 0)])), ((u_189.1 0), .inl (cy 1, 10, .inl (fun _ => 0))), (q_190, .inr (7, [.ref h1, .int 0, .int 0, .ref (u_192.1 0)])), ((u_192.1 0), .inl (cy 1, 10, .inl (fun _ => 0)))] _ _ := hw10
  refine q_astS X hK hw10 1 4 rfl rfl (q_in (by decide +kernel)) dX2_init_39 (fun Hp11 lc11 hw11 => ?_)
  clear Hp10 lc10 hw10
  replace hw11 : qW D _ _ [(h0, .inr (2, [.int 0, .ref q_186])), (q_186, .inl (cy 4, 10, .inr (.inr (.inr (.inr (va_up (va_up (fun _ => none) (Int32.toNatClampNeg 0) (some q_187)) (Int32.toNatClampNeg 1) (some q_190))))))), (q_187, .inr (7, [.ref h1, .int 0, .int 0, .ref (u_189.1 0)])), ((u_189.1 0), .inl (cy 1, 10, .inl (fun _ => 0))), (q_190, .inr (7, [.ref h1, .int 0, .int 0, .ref (u_192.1 0)])), ((u_192.1 0), .inl (cy 1, 10, .inl (fun _ => 0)))] _ _ := hw11
  refine lv_iinc (v := 2) (lv' := [(2, .int 2), (0, .ref h0), (1, .ref h1)]) hx hb dX2_init_40 hv8 (k := 0) rfl (by decide +kernel) (by decide) rfl (fun lz12 hv12 => ?_)
  clear lz8 hv8
  refine lv_goto (tgt := 20) hx hb dX2_init_43 (by decide) ?_
  refine lv_iload_n hx hb dX2_init_20 rfl (lv_at hv12 0 rfl) ?_
  refine lv_bipush (v := 10) hx hb dX2_init_21 (by decide) ?_
  refine lv_icmp_ge (tgt := 46) hx hb dX2_init_23 (by decide) (fun c => absurd c (by decide +kernel)) (fun _ => ?_)
  refine lv_aload_n hx hb dX2_init_26 rfl (lv_at hv12 1 rfl) ?_
  refine q_get X hK hw11 0 rfl rfl wf_2 1 (by decide) rfl wm_2_74 dX2_init_27 ?_
  refine lv_iload_n hx hb dX2_init_30 rfl (lv_at hv12 0 rfl) ?_
  refine q_new (fs := [.null, .int 0, .int 0, .null]) (ci := 7) X hK hA hw11 rfl wf_7 tyX7 tyX7_ok wm_2_70 wm_2_32 wm_1_9 df_7 (Nat.le_of_ble_eq_true rfl) (Nat.le_of_ble_eq_true rfl) dX2_init_31 (fun q_193 Hp13 hw13 => ?_)
  clear Hp11 hw11
  replace hw13 : qW D _ _ [(h0, .inr (2, [.int 0, .ref q_186])), (q_186, .inl (cy 4, 10, .inr (.inr (.inr (.inr (va_up (va_up (fun _ => none) (Int32.toNatClampNeg 0) (some q_187)) (Int32.toNatClampNeg 1) (some q_190))))))), (q_187, .inr (7, [.ref h1, .int 0, .int 0, .ref (u_189.1 0)])), ((u_189.1 0), .inl (cy 1, 10, .inl (fun _ => 0))), (q_190, .inr (7, [.ref h1, .int 0, .int 0, .ref (u_192.1 0)])), ((u_192.1 0), .inl (cy 1, 10, .inl (fun _ => 0))), (q_193, .inr (7, [.null, .int 0, .int 0, .null]))] _ _ := hw13
  refine lv_dup hx hb dX2_init_34 rfl ?_
  refine lv_aload_n hx hb dX2_init_35 rfl (lv_at hv12 2 rfl) ?_
  refine q_callIv (rest := [.ref q_193, .int 2, .ref q_186]) (wr := [(h0, .inr (2, [.int 0, .ref q_186])), (q_186, .inl (cy 4, 10, .inr (.inr (.inr (.inr (va_up (va_up (fun _ => none) (Int32.toNatClampNeg 0) (some q_187)) (Int32.toNatClampNeg 1) (some q_190))))))), (q_187, .inr (7, [.ref h1, .int 0, .int 0, .ref (u_189.1 0)])), ((u_189.1 0), .inl (cy 1, 10, .inl (fun _ => 0))), (q_190, .inr (7, [.ref h1, .int 0, .int 0, .ref (u_192.1 0)])), ((u_192.1 0), .inl (cy 1, 10, .inl (fun _ => 0)))]) X hK hA hw13 (fun sz => kX7_init_8 l D cy q_193 h1  sz) wm_2_71 wm_2_35 wm_1_9 hd_X7_init wm_2_34 rfl ⟨Nat.le_of_ble_eq_true rfl, Nat.le_of_ble_eq_true rfl⟩ hv12.1 rfl (Nat.le_of_ble_eq_true rfl) dX2_init_36 ⟨Nat.le_of_ble_eq_true rfl, Nat.le_of_ble_eq_true rfl⟩ [6] [0, 1, 2, 3, 4, 5] rfl rfl (by decide) rfl rfl (fun u_195 Hp14 lc14 w_195 hw14 => ?_)
  clear Hp13 lc11 hw13
  replace hw14 : qW D _ _ [(h0, .inr (2, [.int 0, .ref q_186])), (q_186, .inl (cy 4, 10, .inr (.inr (.inr (.inr (va_up (va_up (fun _ => none) (Int32.toNatClampNeg 0) (some q_187)) (Int32.toNatClampNeg 1) (some q_190))))))), (q_187, .inr (7, [.ref h1, .int 0, .int 0, .ref (u_189.1 0)])), ((u_189.1 0), .inl (cy 1, 10, .inl (fun _ => 0))), (q_190, .inr (7, [.ref h1, .int 0, .int 0, .ref (u_192.1 0)])), ((u_192.1 0), .inl (cy 1, 10, .inl (fun _ => 0))), (q_193, .inr (7, [.ref h1, .int 0, .int 0, .ref (u_195.1 0)])), ((u_195.1 0), .inl (cy 1, 10, .inl (fun _ => 0)))] _ _ := hw14
  refine q_astS X hK hw14 1 6 rfl rfl (q_in (by decide +kernel)) dX2_init_39 (fun Hp15 lc15 hw15 => ?_)
  clear Hp14 lc14 hw14
  replace hw15 : qW D _ _ [(h0, .inr (2, [.int 0, .ref q_186])), (q_186, .inl (cy 4, 10, .inr (.inr (.inr (.inr (va_up (va_up (va_up (fun _ => none) (Int32.toNatClampNeg 0) (some q_187)) (Int32.toNatClampNeg 1) (some q_190)) (Int32.toNatClampNeg 2) (some q_193))))))), (q_187, .inr (7, [.ref h1, .int 0, .int 0, .ref (u_189.1 0)])), ((u_189.1 0), .inl (cy 1, 10, .inl (fun _ => 0))), (q_190, .inr (7, [.ref h1, .int 0, .int 0, .ref (u_192.1 0)])), ((u_192.1 0), .inl (cy 1, 10, .inl (fun _ => 0))), (q_193, .inr (7, [.ref h1, .int 0, .int 0, .ref (u_195.1 0)])), ((u_195.1 0), .inl (cy 1, 10, .inl (fun _ => 0)))] _ _ := hw15
  refine lv_iinc (v := 3) (lv' := [(2, .int 3), (0, .ref h0), (1, .ref h1)]) hx hb dX2_init_40 hv12 (k := 0) rfl (by decide +kernel) (by decide) rfl (fun lz16 hv16 => ?_)
  clear lz12 hv12
  refine lv_goto (tgt := 20) hx hb dX2_init_43 (by decide) ?_
  refine lv_iload_n hx hb dX2_init_20 rfl (lv_at hv16 0 rfl) ?_
  refine lv_bipush (v := 10) hx hb dX2_init_21 (by decide) ?_
  refine lv_icmp_ge (tgt := 46) hx hb dX2_init_23 (by decide) (fun c => absurd c (by decide +kernel)) (fun _ => ?_)
  refine lv_aload_n hx hb dX2_init_26 rfl (lv_at hv16 1 rfl) ?_
  refine q_get X hK hw15 0 rfl rfl wf_2 1 (by decide) rfl wm_2_74 dX2_init_27 ?_
  refine lv_iload_n hx hb dX2_init_30 rfl (lv_at hv16 0 rfl) ?_
  refine q_new (fs := [.null, .int 0, .int 0, .null]) (ci := 7) X hK hA hw15 rfl wf_7 tyX7 tyX7_ok wm_2_70 wm_2_32 wm_1_9 df_7 (Nat.le_of_ble_eq_true rfl) (Nat.le_of_ble_eq_true rfl) dX2_init_31 (fun q_196 Hp17 hw17 => ?_)
  clear Hp15 hw15
  replace hw17 : qW D _ _ [(h0, .inr (2, [.int 0, .ref q_186])), (q_186, .inl (cy 4, 10, .inr (.inr (.inr (.inr (va_up (va_up (va_up (fun _ => none) (Int32.toNatClampNeg 0) (some q_187)) (Int32.toNatClampNeg 1) (some q_190)) (Int32.toNatClampNeg 2) (some q_193))))))), (q_187, .inr (7, [.ref h1, .int 0, .int 0, .ref (u_189.1 0)])), ((u_189.1 0), .inl (cy 1, 10, .inl (fun _ => 0))), (q_190, .inr (7, [.ref h1, .int 0, .int 0, .ref (u_192.1 0)])), ((u_192.1 0), .inl (cy 1, 10, .inl (fun _ => 0))), (q_193, .inr (7, [.ref h1, .int 0, .int 0, .ref (u_195.1 0)])), ((u_195.1 0), .inl (cy 1, 10, .inl (fun _ => 0))), (q_196, .inr (7, [.null, .int 0, .int 0, .null]))] _ _ := hw17
  refine lv_dup hx hb dX2_init_34 rfl ?_
  refine lv_aload_n hx hb dX2_init_35 rfl (lv_at hv16 2 rfl) ?_
  refine q_callIv (rest := [.ref q_196, .int 3, .ref q_186]) (wr := [(h0, .inr (2, [.int 0, .ref q_186])), (q_186, .inl (cy 4, 10, .inr (.inr (.inr (.inr (va_up (va_up (va_up (fun _ => none) (Int32.toNatClampNeg 0) (some q_187)) (Int32.toNatClampNeg 1) (some q_190)) (Int32.toNatClampNeg 2) (some q_193))))))), (q_187, .inr (7, [.ref h1, .int 0, .int 0, .ref (u_189.1 0)])), ((u_189.1 0), .inl (cy 1, 10, .inl (fun _ => 0))), (q_190, .inr (7, [.ref h1, .int 0, .int 0, .ref (u_192.1 0)])), ((u_192.1 0), .inl (cy 1, 10, .inl (fun _ => 0))), (q_193, .inr (7, [.ref h1, .int 0, .int 0, .ref (u_195.1 0)])), ((u_195.1 0), .inl (cy 1, 10, .inl (fun _ => 0)))]) X hK hA hw17 (fun sz => kX7_init_8 l D cy q_196 h1  sz) wm_2_71 wm_2_35 wm_1_9 hd_X7_init wm_2_34 rfl ⟨Nat.le_of_ble_eq_true rfl, Nat.le_of_ble_eq_true rfl⟩ hv16.1 rfl (Nat.le_of_ble_eq_true rfl) dX2_init_36 ⟨Nat.le_of_ble_eq_true rfl, Nat.le_of_ble_eq_true rfl⟩ [8] [0, 1, 2, 3, 4, 5, 6, 7] rfl rfl (by decide) rfl rfl (fun u_198 Hp18 lc18 w_198 hw18 => ?_)
  clear Hp17 lc15 hw17
  replace hw18 : qW D _ _ [(h0, .inr (2, [.int 0, .ref q_186])), (q_186, .inl (cy 4, 10, .inr (.inr (.inr (.inr (va_up (va_up (va_up (fun _ => none) (Int32.toNatClampNeg 0) (some q_187)) (Int32.toNatClampNeg 1) (some q_190)) (Int32.toNatClampNeg 2) (some q_193))))))), (q_187, .inr (7, [.ref h1, .int 0, .int 0, .ref (u_189.1 0)])), ((u_189.1 0), .inl (cy 1, 10, .inl (fun _ => 0))), (q_190, .inr (7, [.ref h1, .int 0, .int 0, .ref (u_192.1 0)])), ((u_192.1 0), .inl (cy 1, 10, .inl (fun _ => 0))), (q_193, .inr (7, [.ref h1, .int 0, .int 0, .ref (u_195.1 0)])), ((u_195.1 0), .inl (cy 1, 10, .inl (fun _ => 0))), (q_196, .inr (7, [.ref h1, .int 0, .int 0, .ref (u_198.1 0)])), ((u_198.1 0), .inl (cy 1, 10, .inl (fun _ => 0)))] _ _ := hw18
  refine q_astS X hK hw18 1 8 rfl rfl (q_in (by decide +kernel)) dX2_init_39 (fun Hp19 lc19 hw19 => ?_)
  clear Hp18 lc18 hw18
  replace hw19 : qW D _ _ [(h0, .inr (2, [.int 0, .ref q_186])), (q_186, .inl (cy 4, 10, .inr (.inr (.inr (.inr (va_up (va_up (va_up (va_up (fun _ => none) (Int32.toNatClampNeg 0) (some q_187)) (Int32.toNatClampNeg 1) (some q_190)) (Int32.toNatClampNeg 2) (some q_193)) (Int32.toNatClampNeg 3) (some q_196))))))), (q_187, .inr (7, [.ref h1, .int 0, .int 0, .ref (u_189.1 0)])), ((u_189.1 0), .inl (cy 1, 10, .inl (fun _ => 0))), (q_190, .inr (7, [.ref h1, .int 0, .int 0, .ref (u_192.1 0)])), ((u_192.1 0), .inl (cy 1, 10, .inl (fun _ => 0))), (q_193, .inr (7, [.ref h1, .int 0, .int 0, .ref (u_195.1 0)])), ((u_195.1 0), .inl (cy 1, 10, .inl (fun _ => 0))), (q_196, .inr (7, [.ref h1, .int 0, .int 0, .ref (u_198.1 0)])), ((u_198.1 0), .inl (cy 1, 10, .inl (fun _ => 0)))] _ _ := hw19
  refine lv_iinc (v := 4) (lv' := [(2, .int 4), (0, .ref h0), (1, .ref h1)]) hx hb dX2_init_40 hv16 (k := 0) rfl (by decide +kernel) (by decide) rfl (fun lz20 hv20 => ?_)
  clear lz16 hv16
  refine lv_goto (tgt := 20) hx hb dX2_init_43 (by decide) ?_
  refine lv_iload_n hx hb dX2_init_20 rfl (lv_at hv20 0 rfl) ?_
  refine lv_bipush (v := 10) hx hb dX2_init_21 (by decide) ?_
  refine lv_icmp_ge (tgt := 46) hx hb dX2_init_23 (by decide) (fun c => absurd c (by decide +kernel)) (fun _ => ?_)
  refine lv_aload_n hx hb dX2_init_26 rfl (lv_at hv20 1 rfl) ?_
  refine q_get X hK hw19 0 rfl rfl wf_2 1 (by decide) rfl wm_2_74 dX2_init_27 ?_
  refine lv_iload_n hx hb dX2_init_30 rfl (lv_at hv20 0 rfl) ?_
  refine q_new (fs := [.null, .int 0, .int 0, .null]) (ci := 7) X hK hA hw19 rfl wf_7 tyX7 tyX7_ok wm_2_70 wm_2_32 wm_1_9 df_7 (Nat.le_of_ble_eq_true rfl) (Nat.le_of_ble_eq_true rfl) dX2_init_31 (fun q_199 Hp21 hw21 => ?_)
  clear Hp19 hw19
  replace hw21 : qW D _ _ [(h0, .inr (2, [.int 0, .ref q_186])), (q_186, .inl (cy 4, 10, .inr (.inr (.inr (.inr (va_up (va_up (va_up (va_up (fun _ => none) (Int32.toNatClampNeg 0) (some q_187)) (Int32.toNatClampNeg 1) (some q_190)) (Int32.toNatClampNeg 2) (some q_193)) (Int32.toNatClampNeg 3) (some q_196))))))), (q_187, .inr (7, [.ref h1, .int 0, .int 0, .ref (u_189.1 0)])), ((u_189.1 0), .inl (cy 1, 10, .inl (fun _ => 0))), (q_190, .inr (7, [.ref h1, .int 0, .int 0, .ref (u_192.1 0)])), ((u_192.1 0), .inl (cy 1, 10, .inl (fun _ => 0))), (q_193, .inr (7, [.ref h1, .int 0, .int 0, .ref (u_195.1 0)])), ((u_195.1 0), .inl (cy 1, 10, .inl (fun _ => 0))), (q_196, .inr (7, [.ref h1, .int 0, .int 0, .ref (u_198.1 0)])), ((u_198.1 0), .inl (cy 1, 10, .inl (fun _ => 0))), (q_199, .inr (7, [.null, .int 0, .int 0, .null]))] _ _ := hw21
  refine lv_dup hx hb dX2_init_34 rfl ?_
  refine lv_aload_n hx hb dX2_init_35 rfl (lv_at hv20 2 rfl) ?_
  refine q_callIv (rest := [.ref q_199, .int 4, .ref q_186]) (wr := [(h0, .inr (2, [.int 0, .ref q_186])), (q_186, .inl (cy 4, 10, .inr (.inr (.inr (.inr (va_up (va_up (va_up (va_up (fun _ => none) (Int32.toNatClampNeg 0) (some q_187)) (Int32.toNatClampNeg 1) (some q_190)) (Int32.toNatClampNeg 2) (some q_193)) (Int32.toNatClampNeg 3) (some q_196))))))), (q_187, .inr (7, [.ref h1, .int 0, .int 0, .ref (u_189.1 0)])), ((u_189.1 0), .inl (cy 1, 10, .inl (fun _ => 0))), (q_190, .inr (7, [.ref h1, .int 0, .int 0, .ref (u_192.1 0)])), ((u_192.1 0), .inl (cy 1, 10, .inl (fun _ => 0))), (q_193, .inr (7, [.ref h1, .int 0, .int 0, .ref (u_195.1 0)])), ((u_195.1 0), .inl (cy 1, 10, .inl (fun _ => 0))), (q_196, .inr (7, [.ref h1, .int 0, .int 0, .ref (u_198.1 0)])), ((u_198.1 0), .inl (cy 1, 10, .inl (fun _ => 0)))]) X hK hA hw21 (fun sz => kX7_init_8 l D cy q_199 h1  sz) wm_2_71 wm_2_35 wm_1_9 hd_X7_init wm_2_34 rfl ⟨Nat.le_of_ble_eq_true rfl, Nat.le_of_ble_eq_true rfl⟩ hv20.1 rfl (Nat.le_of_ble_eq_true rfl) dX2_init_36 ⟨Nat.le_of_ble_eq_true rfl, Nat.le_of_ble_eq_true rfl⟩ [10] [0, 1, 2, 3, 4, 5, 6, 7, 8, 9] rfl rfl (by decide) rfl rfl (fun u_201 Hp22 lc22 w_201 hw22 => ?_)
  clear Hp21 lc19 hw21
  replace hw22 : qW D _ _ [(h0, .inr (2, [.int 0, .ref q_186])), (q_186, .inl (cy 4, 10, .inr (.inr (.inr (.inr (va_up (va_up (va_up (va_up (fun _ => none) (Int32.toNatClampNeg 0) (some q_187)) (Int32.toNatClampNeg 1) (some q_190)) (Int32.toNatClampNeg 2) (some q_193)) (Int32.toNatClampNeg 3) (some q_196))))))), (q_187, .inr (7, [.ref h1, .int 0, .int 0, .ref (u_189.1 0)])), ((u_189.1 0), .inl (cy 1, 10, .inl (fun _ => 0))), (q_190, .inr (7, [.ref h1, .int 0, .int 0, .ref (u_192.1 0)])), ((u_192.1 0), .inl (cy 1, 10, .inl (fun _ => 0))), (q_193, .inr (7, [.ref h1, .int 0, .int 0, .ref (u_195.1 0)])), ((u_195.1 0), .inl (cy 1, 10, .inl (fun _ => 0))), (q_196, .inr (7, [.ref h1, .int 0, .int 0, .ref (u_198.1 0)])), ((u_198.1 0), .inl (cy 1, 10, .inl (fun _ => 0))), (q_199, .inr (7, [.ref h1, .int 0, .int 0, .ref (u_201.1 0)])), ((u_201.1 0), .inl (cy 1, 10, .inl (fun _ => 0)))] _ _ := hw22
  refine q_astS X hK hw22 1 10 rfl rfl (q_in (by decide +kernel)) dX2_init_39 (fun Hp23 lc23 hw23 => ?_)
  clear Hp22 lc22 hw22
  replace hw23 : qW D _ _ [(h0, .inr (2, [.int 0, .ref q_186])), (q_186, .inl (cy 4, 10, .inr (.inr (.inr (.inr (va_up (va_up (va_up (va_up (va_up (fun _ => none) (Int32.toNatClampNeg 0) (some q_187)) (Int32.toNatClampNeg 1) (some q_190)) (Int32.toNatClampNeg 2) (some q_193)) (Int32.toNatClampNeg 3) (some q_196)) (Int32.toNatClampNeg 4) (some q_199))))))), (q_187, .inr (7, [.ref h1, .int 0, .int 0, .ref (u_189.1 0)])), ((u_189.1 0), .inl (cy 1, 10, .inl (fun _ => 0))), (q_190, .inr (7, [.ref h1, .int 0, .int 0, .ref (u_192.1 0)])), ((u_192.1 0), .inl (cy 1, 10, .inl (fun _ => 0))), (q_193, .inr (7, [.ref h1, .int 0, .int 0, .ref (u_195.1 0)])), ((u_195.1 0), .inl (cy 1, 10, .inl (fun _ => 0))), (q_196, .inr (7, [.ref h1, .int 0, .int 0, .ref (u_198.1 0)])), ((u_198.1 0), .inl (cy 1, 10, .inl (fun _ => 0))), (q_199, .inr (7, [.ref h1, .int 0, .int 0, .ref (u_201.1 0)])), ((u_201.1 0), .inl (cy 1, 10, .inl (fun _ => 0)))] _ _ := hw23
  refine lv_iinc (v := 5) (lv' := [(2, .int 5), (0, .ref h0), (1, .ref h1)]) hx hb dX2_init_40 hv20 (k := 0) rfl (by decide +kernel) (by decide) rfl (fun lz24 hv24 => ?_)
  clear lz20 hv20
  refine lv_goto (tgt := 20) hx hb dX2_init_43 (by decide) ?_
  refine lv_iload_n hx hb dX2_init_20 rfl (lv_at hv24 0 rfl) ?_
  refine lv_bipush (v := 10) hx hb dX2_init_21 (by decide) ?_
  refine lv_icmp_ge (tgt := 46) hx hb dX2_init_23 (by decide) (fun c => absurd c (by decide +kernel)) (fun _ => ?_)
  refine lv_aload_n hx hb dX2_init_26 rfl (lv_at hv24 1 rfl) ?_
  refine q_get X hK hw23 0 rfl rfl wf_2 1 (by decide) rfl wm_2_74 dX2_init_27 ?_
  refine lv_iload_n hx hb dX2_init_30 rfl (lv_at hv24 0 rfl) ?_
  refine q_new (fs := [.null, .int 0, .int 0, .null]) (ci := 7) X hK hA hw23 rfl wf_7 tyX7 tyX7_ok wm_2_70 wm_2_32 wm_1_9 df_7 (Nat.le_of_ble_eq_true rfl) (Nat.le_of_ble_eq_true rfl) dX2_init_31 (fun q_202 Hp25 hw25 => ?_)
  clear Hp23 hw23
  replace hw25 : qW D _ _ [(h0, .inr (2, [.int 0, .ref q_186])), (q_186, .inl (cy 4, 10, .inr (.inr (.inr (.inr (va_up (va_up (va_up (va_up (va_up (fun _ => none) (Int32.toNatClampNeg 0) (some q_187)) (Int32.toNatClampNeg 1) (some q_190)) (Int32.toNatClampNeg 2) (some q_193)) (Int32.toNatClampNeg 3) (some q_196)) (Int32.toNatClampNeg 4) (some q_199))))))), (q_187, .inr (7, [.ref h1, .int 0, .int 0, .ref (u_189.1 0)])), ((u_189.1 0), .inl (cy 1, 10, .inl (fun _ => 0))), (q_190, .inr (7, [.ref h1, .int 0, .int 0, .ref (u_192.1 0)])), ((u_192.1 0), .inl (cy 1, 10, .inl (fun _ => 0))), (q_193, .inr (7, [.ref h1, .int 0, .int 0, .ref (u_195.1 0)])), ((u_195.1 0), .inl (cy 1, 10, .inl (fun _ => 0))), (q_196, .inr (7, [.ref h1, .int 0, .int 0, .ref (u_198.1 0)])), ((u_198.1 0), .inl (cy 1, 10, .inl (fun _ => 0))), (q_199, .inr (7, [.ref h1, .int 0, .int 0, .ref (u_201.1 0)])), ((u_201.1 0), .inl (cy 1, 10, .inl (fun _ => 0))), (q_202, .inr (7, [.null, .int 0, .int 0, .null]))] _ _ := hw25
  refine lv_dup hx hb dX2_init_34 rfl ?_
  refine lv_aload_n hx hb dX2_init_35 rfl (lv_at hv24 2 rfl) ?_
  refine q_callIv (rest := [.ref q_202, .int 5, .ref q_186]) (wr := [(h0, .inr (2, [.int 0, .ref q_186])), (q_186, .inl (cy 4, 10, .inr (.inr (.inr (.inr (va_up (va_up (va_up (va_up (va_up (fun _ => none) (Int32.toNatClampNeg 0) (some q_187)) (Int32.toNatClampNeg 1) (some q_190)) (Int32.toNatClampNeg 2) (some q_193)) (Int32.toNatClampNeg 3) (some q_196)) (Int32.toNatClampNeg 4) (some q_199))))))), (q_187, .inr (7, [.ref h1, .int 0, .int 0, .ref (u_189.1 0)])), ((u_189.1 0), .inl (cy 1, 10, .inl (fun _ => 0))), (q_190, .inr (7, [.ref h1, .int 0, .int 0, .ref (u_192.1 0)])), ((u_192.1 0), .inl (cy 1, 10, .inl (fun _ => 0))), (q_193, .inr (7, [.ref h1, .int 0, .int 0, .ref (u_195.1 0)])), ((u_195.1 0), .inl (cy 1, 10, .inl (fun _ => 0))), (q_196, .inr (7, [.ref h1, .int 0, .int 0, .ref (u_198.1 0)])), ((u_198.1 0), .inl (cy 1, 10, .inl (fun _ => 0))), (q_199, .inr (7, [.ref h1, .int 0, .int 0, .ref (u_201.1 0)])), ((u_201.1 0), .inl (cy 1, 10, .inl (fun _ => 0)))]) X hK hA hw25 (fun sz => kX7_init_8 l D cy q_202 h1  sz) wm_2_71 wm_2_35 wm_1_9 hd_X7_init wm_2_34 rfl ⟨Nat.le_of_ble_eq_true rfl, Nat.le_of_ble_eq_true rfl⟩ hv24.1 rfl (Nat.le_of_ble_eq_true rfl) dX2_init_36 ⟨Nat.le_of_ble_eq_true rfl, Nat.le_of_ble_eq_true rfl⟩ [12] [0, 1, 2, 3, 4, 5, 6, 7, 8, 9, 10, 11] rfl rfl (by decide) rfl rfl (fun u_204 Hp26 lc26 w_204 hw26 => ?_)
  clear Hp25 lc23 hw25
  replace hw26 : qW D _ _ [(h0, .inr (2, [.int 0, .ref q_186])), (q_186, .inl (cy 4, 10, .inr (.inr (.inr (.inr (va_up (va_up (va_up (va_up (va_up (fun _ => none) (Int32.toNatClampNeg 0) (some q_187)) (Int32.toNatClampNeg 1) (some q_190)) (Int32.toNatClampNeg 2) (some q_193)) (Int32.toNatClampNeg 3) (some q_196)) (Int32.toNatClampNeg 4) (some q_199))))))), (q_187, .inr (7, [.ref h1, .int 0, .int 0, .ref (u_189.1 0)])), ((u_189.1 0), .inl (cy 1, 10, .inl (fun _ => 0))), (q_190, .inr (7, [.ref h1, .int 0, .int 0, .ref (u_192.1 0)])), ((u_192.1 0), .inl (cy 1, 10, .inl (fun _ => 0))), (q_193, .inr (7, [.ref h1, .int 0, .int 0, .ref (u_195.1 0)])), ((u_195.1 0), .inl (cy 1, 10, .inl (fun _ => 0))), (q_196, .inr (7, [.ref h1, .int 0, .int 0, .ref (u_198.1 0)])), ((u_198.1 0), .inl (cy 1, 10, .inl (fun _ => 0))), (q_199, .inr (7, [.ref h1, .int 0, .int 0, .ref (u_201.1 0)])), ((u_201.1 0), .inl (cy 1, 10, .inl (fun _ => 0))), (q_202, .inr (7, [.ref h1, .int 0, .int 0, .ref (u_204.1 0)])), ((u_204.1 0), .inl (cy 1, 10, .inl (fun _ => 0)))] _ _ := hw26
  refine q_astS X hK hw26 1 12 rfl rfl (q_in (by decide +kernel)) dX2_init_39 (fun Hp27 lc27 hw27 => ?_)
  clear Hp26 lc26 hw26
  replace hw27 : qW D _ _ [(h0, .inr (2, [.int 0, .ref q_186])), (q_186, .inl (cy 4, 10, .inr (.inr (.inr (.inr (va_up (va_up (va_up (va_up (va_up (va_up (fun _ => none) (Int32.toNatClampNeg 0) (some q_187)) (Int32.toNatClampNeg 1) (some q_190)) (Int32.toNatClampNeg 2) (some q_193)) (Int32.toNatClampNeg 3) (some q_196)) (Int32.toNatClampNeg 4) (some q_199)) (Int32.toNatClampNeg 5) (some q_202))))))), (q_187, .inr (7, [.ref h1, .int 0, .int 0, .ref (u_189.1 0)])), ((u_189.1 0), .inl (cy 1, 10, .inl (fun _ => 0))), (q_190, .inr (7, [.ref h1, .int 0, .int 0, .ref (u_192.1 0)])), ((u_192.1 0), .inl (cy 1, 10, .inl (fun _ => 0))), (q_193, .inr (7, [.ref h1, .int 0, .int 0, .ref (u_195.1 0)])), ((u_195.1 0), .inl (cy 1, 10, .inl (fun _ => 0))), (q_196, .inr (7, [.ref h1, .int 0, .int 0, .ref (u_198.1 0)])), ((u_198.1 0), .inl (cy 1, 10, .inl (fun _ => 0))), (q_199, .inr (7, [.ref h1, .int 0, .int 0, .ref (u_201.1 0)])), ((u_201.1 0), .inl (cy 1, 10, .inl (fun _ => 0))), (q_202, .inr (7, [.ref h1, .int 0, .int 0, .ref (u_204.1 0)])), ((u_204.1 0), .inl (cy 1, 10, .inl (fun _ => 0)))] _ _ := hw27
  refine lv_iinc (v := 6) (lv' := [(2, .int 6), (0, .ref h0), (1, .ref h1)]) hx hb dX2_init_40 hv24 (k := 0) rfl (by decide +kernel) (by decide) rfl (fun lz28 hv28 => ?_)
  clear lz24 hv24
  refine lv_goto (tgt := 20) hx hb dX2_init_43 (by decide) ?_
  refine lv_iload_n hx hb dX2_init_20 rfl (lv_at hv28 0 rfl) ?_
  refine lv_bipush (v := 10) hx hb dX2_init_21 (by decide) ?_
  refine lv_icmp_ge (tgt := 46) hx hb dX2_init_23 (by decide) (fun c => absurd c (by decide +kernel)) (fun _ => ?_)
  refine lv_aload_n hx hb dX2_init_26 rfl (lv_at hv28 1 rfl) ?_
  refine q_get X hK hw27 0 rfl rfl wf_2 1 (by decide) rfl wm_2_74 dX2_init_27 ?_
  refine lv_iload_n hx hb dX2_init_30 rfl (lv_at hv28 0 rfl) ?_
  refine q_new (fs := [.null, .int 0, .int 0, .null]) (ci := 7) X hK hA hw27 rfl wf_7 tyX7 tyX7_ok wm_2_70 wm_2_32 wm_1_9 df_7 (Nat.le_of_ble_eq_true rfl) (Nat.le_of_ble_eq_true rfl) dX2_init_31 (fun q_205 Hp29 hw29 => ?_)
  clear Hp27 hw27
  replace hw29 : qW D _ _ [(h0, .inr (2, [.int 0, .ref q_186])), (q_186, .inl (cy 4, 10, .inr (.inr (.inr (.inr (va_up (va_up (va_up (va_up (va_up (va_up (fun _ => none) (Int32.toNatClampNeg 0) (some q_187)) (Int32.toNatClampNeg 1) (some q_190)) (Int32.toNatClampNeg 2) (some q_193)) (Int32.toNatClampNeg 3) (some q_196)) (Int32.toNatClampNeg 4) (some q_199)) (Int32.toNatClampNeg 5) (some q_202))))))), (q_187, .inr (7, [.ref h1, .int 0, .int 0, .ref (u_189.1 0)])), ((u_189.1 0), .inl (cy 1, 10, .inl (fun _ => 0))), (q_190, .inr (7, [.ref h1, .int 0, .int 0, .ref (u_192.1 0)])), ((u_192.1 0), .inl (cy 1, 10, .inl (fun _ => 0))), (q_193, .inr (7, [.ref h1, .int 0, .int 0, .ref (u_195.1 0)])), ((u_195.1 0), .inl (cy 1, 10, .inl (fun _ => 0))), (q_196, .inr (7, [.ref h1, .int 0, .int 0, .ref (u_198.1 0)])), ((u_198.1 0), .inl (cy 1, 10, .inl (fun _ => 0))), (q_199, .inr (7, [.ref h1, .int 0, .int 0, .ref (u_201.1 0)])), ((u_201.1 0), .inl (cy 1, 10, .inl (fun _ => 0))), (q_202, .inr (7, [.ref h1, .int 0, .int 0, .ref (u_204.1 0)])), ((u_204.1 0), .inl (cy 1, 10, .inl (fun _ => 0))), (q_205, .inr (7, [.null, .int 0, .int 0, .null]))] _ _ := hw29
  refine lv_dup hx hb dX2_init_34 rfl ?_
  refine lv_aload_n hx hb dX2_init_35 rfl (lv_at hv28 2 rfl) ?_
  refine q_callIv (rest := [.ref q_205, .int 6, .ref q_186]) (wr := [(h0, .inr (2, [.int 0, .ref q_186])), (q_186, .inl (cy 4, 10, .inr (.inr (.inr (.inr (va_up (va_up (va_up (va_up (va_up (va_up (fun _ => none) (Int32.toNatClampNeg 0) (some q_187)) (Int32.toNatClampNeg 1) (some q_190)) (Int32.toNatClampNeg 2) (some q_193)) (Int32.toNatClampNeg 3) (some q_196)) (Int32.toNatClampNeg 4) (some q_199)) (Int32.toNatClampNeg 5) (some q_202))))))), (q_187, .inr (7, [.ref h1, .int 0, .int 0, .ref (u_189.1 0)])), ((u_189.1 0), .inl (cy 1, 10, .inl (fun _ => 0))), (q_190, .inr (7, [.ref h1, .int 0, .int 0, .ref (u_192.1 0)])), ((u_192.1 0), .inl (cy 1, 10, .inl (fun _ => 0))), (q_193, .inr (7, [.ref h1, .int 0, .int 0, .ref (u_195.1 0)])), ((u_195.1 0), .inl (cy 1, 10, .inl (fun _ => 0))), (q_196, .inr (7, [.ref h1, .int 0, .int 0, .ref (u_198.1 0)])), ((u_198.1 0), .inl (cy 1, 10, .inl (fun _ => 0))), (q_199, .inr (7, [.ref h1, .int 0, .int 0, .ref (u_201.1 0)])), ((u_201.1 0), .inl (cy 1, 10, .inl (fun _ => 0))), (q_202, .inr (7, [.ref h1, .int 0, .int 0, .ref (u_204.1 0)])), ((u_204.1 0), .inl (cy 1, 10, .inl (fun _ => 0)))]) X hK hA hw29 (fun sz => kX7_init_8 l D cy q_205 h1  sz) wm_2_71 wm_2_35 wm_1_9 hd_X7_init wm_2_34 rfl ⟨Nat.le_of_ble_eq_true rfl, Nat.le_of_ble_eq_true rfl⟩ hv28.1 rfl (Nat.le_of_ble_eq_true rfl) dX2_init_36 ⟨Nat.le_of_ble_eq_true rfl, Nat.le_of_ble_eq_true rfl⟩ [14] [0, 1, 2, 3, 4, 5, 6, 7, 8, 9, 10, 11, 12, 13] rfl rfl (by decide) rfl rfl (fun u_207 Hp30 lc30 w_207 hw30 => ?_)
  clear Hp29 lc27 hw29
  replace hw30 : qW D _ _ [(h0, .inr (2, [.int 0, .ref q_186])), (q_186, .inl (cy 4, 10, .inr (.inr (.inr (.inr (va_up (va_up (va_up (va_up (va_up (va_up (fun _ => none) (Int32.toNatClampNeg 0) (some q_187)) (Int32.toNatClampNeg 1) (some q_190)) (Int32.toNatClampNeg 2) (some q_193)) (Int32.toNatClampNeg 3) (some q_196)) (Int32.toNatClampNeg 4) (some q_199)) (Int32.toNatClampNeg 5) (some q_202))))))), (q_187, .inr (7, [.ref h1, .int 0, .int 0, .ref (u_189.1 0)])), ((u_189.1 0), .inl (cy 1, 10, .inl (fun _ => 0))), (q_190, .inr (7, [.ref h1, .int 0, .int 0, .ref (u_192.1 0)])), ((u_192.1 0), .inl (cy 1, 10, .inl (fun _ => 0))), (q_193, .inr (7, [.ref h1, .int 0, .int 0, .ref (u_195.1 0)])), ((u_195.1 0), .inl (cy 1, 10, .inl (fun _ => 0))), (q_196, .inr (7, [.ref h1, .int 0, .int 0, .ref (u_198.1 0)])), ((u_198.1 0), .inl (cy 1, 10, .inl (fun _ => 0))), (q_199, .inr (7, [.ref h1, .int 0, .int 0, .ref (u_201.1 0)])), ((u_201.1 0), .inl (cy 1, 10, .inl (fun _ => 0))), (q_202, .inr (7, [.ref h1, .int 0, .int 0, .ref (u_204.1 0)])), ((u_204.1 0), .inl (cy 1, 10, .inl (fun _ => 0))), (q_205, .inr (7, [.ref h1, .int 0, .int 0, .ref (u_207.1 0)])), ((u_207.1 0), .inl (cy 1, 10, .inl (fun _ => 0)))] _ _ := hw30
  refine q_astS X hK hw30 1 14 rfl rfl (q_in (by decide +kernel)) dX2_init_39 (fun Hp31 lc31 hw31 => ?_)
  clear Hp30 lc30 hw30
  replace hw31 : qW D _ _ [(h0, .inr (2, [.int 0, .ref q_186])), (q_186, .inl (cy 4, 10, .inr (.inr (.inr (.inr (va_up (va_up (va_up (va_up (va_up (va_up (va_up (fun _ => none) (Int32.toNatClampNeg 0) (some q_187)) (Int32.toNatClampNeg 1) (some q_190)) (Int32.toNatClampNeg 2) (some q_193)) (Int32.toNatClampNeg 3) (some q_196)) (Int32.toNatClampNeg 4) (some q_199)) (Int32.toNatClampNeg 5) (some q_202)) (Int32.toNatClampNeg 6) (some q_205))))))), (q_187, .inr (7, [.ref h1, .int 0, .int 0, .ref (u_189.1 0)])), ((u_189.1 0), .inl (cy 1, 10, .inl (fun _ => 0))), (q_190, .inr (7, [.ref h1, .int 0, .int 0, .ref (u_192.1 0)])), ((u_192.1 0), .inl (cy 1, 10, .inl (fun _ => 0))), (q_193, .inr (7, [.ref h1, .int 0, .int 0, .ref (u_195.1 0)])), ((u_195.1 0), .inl (cy 1, 10, .inl (fun _ => 0))), (q_196, .inr (7, [.ref h1, .int 0, .int 0, .ref (u_198.1 0)])), ((u_198.1 0), .inl (cy 1, 10, .inl (fun _ => 0))), (q_199, .inr (7, [.ref h1, .int 0, .int 0, .ref (u_201.1 0)])), ((u_201.1 0), .inl (cy 1, 10, .inl (fun _ => 0))), (q_202, .inr (7, [.ref h1, .int 0, .int 0, .ref (u_204.1 0)])), ((u_204.1 0), .inl (cy 1, 10, .inl (fun _ => 0))), (q_205, .inr (7, [.ref h1, .int 0, .int 0, .ref (u_207.1 0)])), ((u_207.1 0), .inl (cy 1, 10, .inl (fun _ => 0)))] _ _ := hw31
  refine lv_iinc (v := 7) (lv' := [(2, .int 7), (0, .ref h0), (1, .ref h1)]) hx hb dX2_init_40 hv28 (k := 0) rfl (by decide +kernel) (by decide) rfl (fun lz32 hv32 => ?_)
  clear lz28 hv28
  refine lv_goto (tgt := 20) hx hb dX2_init_43 (by decide) ?_
  refine lv_iload_n hx hb dX2_init_20 rfl (lv_at hv32 0 rfl) ?_
  refine lv_bipush (v := 10) hx hb dX2_init_21 (by decide) ?_
  refine lv_icmp_ge (tgt := 46) hx hb dX2_init_23 (by decide) (fun c => absurd c (by decide +kernel)) (fun _ => ?_)
  refine lv_aload_n hx hb dX2_init_26 rfl (lv_at hv32 1 rfl) ?_
  refine q_get X hK hw31 0 rfl rfl wf_2 1 (by decide) rfl wm_2_74 dX2_init_27 ?_
  refine lv_iload_n hx hb dX2_init_30 rfl (lv_at hv32 0 rfl) ?_
  refine q_new (fs := [.null, .int 0, .int 0, .null]) (ci := 7) X hK hA hw31 rfl wf_7 tyX7 tyX7_ok wm_2_70 wm_2_32 wm_1_9 df_7 (Nat.le_of_ble_eq_true rfl) (Nat.le_of_ble_eq_true rfl) dX2_init_31 (fun q_208 Hp33 hw33 => ?_)
  clear Hp31 hw31
  replace hw33 : qW D _ _ [(h0, .inr (2, [.int 0, .ref q_186])), (q_186, .inl (cy 4, 10, .inr (.inr (.inr (.inr (va_up (va_up (va_up (va_up (va_up (va_up (va_up (fun _ => none) (Int32.toNatClampNeg 0) (some q_187)) (Int32.toNatClampNeg 1) (some q_190)) (Int32.toNatClampNeg 2) (some q_193)) (Int32.toNatClampNeg 3) (some q_196)) (Int32.toNatClampNeg 4) (some q_199)) (Int32.toNatClampNeg 5) (some q_202)) (Int32.toNatClampNeg 6) (some q_205))))))), (q_187, .inr (7, [.ref h1, .int 0, .int 0, .ref (u_189.1 0)])), ((u_189.1 0), .inl (cy 1, 10, .inl (fun _ => 0))), (q_190, .inr (7, [.ref h1, .int 0, .int 0, .ref (u_192.1 0)])), ((u_192.1 0), .inl (cy 1, 10, .inl (fun _ => 0))), (q_193, .inr (7, [.ref h1, .int 0, .int 0, .ref (u_195.1 0)])), ((u_195.1 0), .inl (cy 1, 10, .inl (fun _ => 0))), (q_196, .inr (7, [.ref h1, .int 0, .int 0, .ref (u_198.1 0)])), ((u_198.1 0), .inl (cy 1, 10, .inl (fun _ => 0))), (q_199, .inr (7, [.ref h1, .int 0, .int 0, .ref (u_201.1 0)])), ((u_201.1 0), .inl (cy 1, 10, .inl (fun _ => 0))), (q_202, .inr (7, [.ref h1, .int 0, .int 0, .ref (u_204.1 0)])), ((u_204.1 0), .inl (cy 1, 10, .inl (fun _ => 0))), (q_205, .inr (7, [.ref h1, .int 0, .int 0, .ref (u_207.1 0)])), ((u_207.1 0), .inl (cy 1, 10, .inl (fun _ => 0))), (q_208, .inr (7, [.null, .int 0, .int 0, .null]))] _ _ := hw33
  refine lv_dup hx hb dX2_init_34 rfl ?_
  refine lv_aload_n hx hb dX2_init_35 rfl (lv_at hv32 2 rfl) ?_
  refine q_callIv (rest := [.ref q_208, .int 7, .ref q_186]) (wr := [(h0, .inr (2, [.int 0, .ref q_186])), (q_186, .inl (cy 4, 10, .inr (.inr (.inr (.inr (va_up (va_up (va_up (va_up (va_up (va_up (va_up (fun _ => none) (Int32.toNatClampNeg 0) (some q_187)) (Int32.toNatClampNeg 1) (some q_190)) (Int32.toNatClampNeg 2) (some q_193)) (Int32.toNatClampNeg 3) (some q_196)) (Int32.toNatClampNeg 4) (some q_199)) (Int32.toNatClampNeg 5) (some q_202)) (Int32.toNatClampNeg 6) (some q_205))))))), (q_187, .inr (7, [.ref h1, .int 0, .int 0, .ref (u_189.1 0)])), ((u_189.1 0), .inl (cy 1, 10, .inl (fun _ => 0))), (q_190, .inr (7, [.ref h1, .int 0, .int 0, .ref (u_192.1 0)])), ((u_192.1 0), .inl (cy 1, 10, .inl (fun _ => 0))), (q_193, .inr (7, [.ref h1, .int 0, .int 0, .ref (u_195.1 0)])), ((u_195.1 0), .inl (cy 1, 10, .inl (fun _ => 0))), (q_196, .inr (7, [.ref h1, .int 0, .int 0, .ref (u_198.1 0)])), ((u_198.1 0), .inl (cy 1, 10, .inl (fun _ => 0))), (q_199, .inr (7, [.ref h1, .int 0, .int 0, .ref (u_201.1 0)])), ((u_201.1 0), .inl (cy 1, 10, .inl (fun _ => 0))), (q_202, .inr (7, [.ref h1, .int 0, .int 0, .ref (u_204.1 0)])), ((u_204.1 0), .inl (cy 1, 10, .inl (fun _ => 0))), (q_205, .inr (7, [.ref h1, .int 0, .int 0, .ref (u_207.1 0)])), ((u_207.1 0), .inl (cy 1, 10, .inl (fun _ => 0)))]) X hK hA hw33 (fun sz => kX7_init_8 l D cy q_208 h1  sz) wm_2_71 wm_2_35 wm_1_9 hd_X7_init wm_2_34 rfl ⟨Nat.le_of_ble_eq_true rfl, Nat.le_of_ble_eq_true rfl⟩ hv32.1 rfl (Nat.le_of_ble_eq_true rfl) dX2_init_36 ⟨Nat.le_of_ble_eq_true rfl, Nat.le_of_ble_eq_true rfl⟩ [16] [0, 1, 2, 3, 4, 5, 6, 7, 8, 9, 10, 11, 12, 13, 14, 15] rfl rfl (by decide) rfl rfl (fun u_210 Hp34 lc34 w_210 hw34 => ?_)
  clear Hp33 lc31 hw33
  replace hw34 : qW D _ _ [(h0, .inr (2, [.int 0, .ref q_186])), (q_186, .inl (cy 4, 10, .inr (.inr (.inr (.inr (va_up (va_up (va_up (va_up (va_up (va_up (va_up (fun _ => none) (Int32.toNatClampNeg 0) (some q_187)) (Int32.toNatClampNeg 1) (some q_190)) (Int32.toNatClampNeg 2) (some q_193)) (Int32.toNatClampNeg 3) (some q_196)) (Int32.toNatClampNeg 4) (some q_199)) (Int32.toNatClampNeg 5) (some q_202)) (Int32.toNatClampNeg 6) (some q_205))))))), (q_187, .inr (7, [.ref h1, .int 0, .int 0, .ref (u_189.1 0)])), ((u_189.1 0), .inl (cy 1, 10, .inl (fun _ => 0))), (q_190, .inr (7, [.ref h1, .int 0, .int 0, .ref (u_192.1 0)])), ((u_192.1 0), .inl (cy 1, 10, .inl (fun _ => 0))), (q_193, .inr (7, [.ref h1, .int 0, .int 0, .ref (u_195.1 0)])), ((u_195.1 0), .inl (cy 1, 10, .inl (fun _ => 0))), (q_196, .inr (7, [.ref h1, .int 0, .int 0, .ref (u_198.1 0)])), ((u_198.1 0), .inl (cy 1, 10, .inl (fun _ => 0))), (q_199, .inr (7, [.ref h1, .int 0, .int 0, .ref (u_201.1 0)])), ((u_201.1 0), .inl (cy 1, 10, .inl (fun _ => 0))), (q_202, .inr (7, [.ref h1, .int 0, .int 0, .ref (u_204.1 0)])), ((u_204.1 0), .inl (cy 1, 10, .inl (fun _ => 0))), (q_205, .inr (7, [.ref h1, .int 0, .int 0, .ref (u_207.1 0)])), ((u_207.1 0), .inl (cy 1, 10, .inl (fun _ => 0))), (q_208, .inr (7, [.ref h1, .int 0, .int 0, .ref (u_210.1 0)])), ((u_210.1 0), .inl (cy 1, 10, .inl (fun _ => 0)))] _ _ := hw34
  refine q_astS X hK hw34 1 16 rfl rfl (q_in (by decide +kernel)) dX2_init_39 (fun Hp35 lc35 hw35 => ?_)
  clear Hp34 lc34 hw34
  replace hw35 : qW D _ _ [(h0, .inr (2, [.int 0, .ref q_186])), (q_186, .inl (cy 4, 10, .inr (.inr (.inr (.inr (va_up (va_up (va_up (va_up (va_up (va_up (va_up (va_up (fun _ => none) (Int32.toNatClampNeg 0) (some q_187)) (Int32.toNatClampNeg 1) (some q_190)) (Int32.toNatClampNeg 2) (some q_193)) (Int32.toNatClampNeg 3) (some q_196)) (Int32.toNatClampNeg 4) (some q_199)) (Int32.toNatClampNeg 5) (some q_202)) (Int32.toNatClampNeg 6) (some q_205)) (Int32.toNatClampNeg 7) (some q_208))))))), (q_187, .inr (7, [.ref h1, .int 0, .int 0, .ref (u_189.1 0)])), ((u_189.1 0), .inl (cy 1, 10, .inl (fun _ => 0))), (q_190, .inr (7, [.ref h1, .int 0, .int 0, .ref (u_192.1 0)])), ((u_192.1 0), .inl (cy 1, 10, .inl (fun _ => 0))), (q_193, .inr (7, [.ref h1, .int 0, .int 0, .ref (u_195.1 0)])), ((u_195.1 0), .inl (cy 1, 10, .inl (fun _ => 0))), (q_196, .inr (7, [.ref h1, .int 0, .int 0, .ref (u_198.1 0)])), ((u_198.1 0), .inl (cy 1, 10, .inl (fun _ => 0))), (q_199, .inr (7, [.ref h1, .int 0, .int 0, .ref (u_201.1 0)])), ((u_201.1 0), .inl (cy 1, 10, .inl (fun _ => 0))), (q_202, .inr (7, [.ref h1, .int 0, .int 0, .ref (u_204.1 0)])), ((u_204.1 0), .inl (cy 1, 10, .inl (fun _ => 0))), (q_205, .inr (7, [.ref h1, .int 0, .int 0, .ref (u_207.1 0)])), ((u_207.1 0), .inl (cy 1, 10, .inl (fun _ => 0))), (q_208, .inr (7, [.ref h1, .int 0, .int 0, .ref (u_210.1 0)])), ((u_210.1 0), .inl (cy 1, 10, .inl (fun _ => 0)))] _ _ := hw35
  refine lv_iinc (v := 8) (lv' := [(2, .int 8), (0, .ref h0), (1, .ref h1)]) hx hb dX2_init_40 hv32 (k := 0) rfl (by decide +kernel) (by decide) rfl (fun lz36 hv36 => ?_)
  clear lz32 hv32
  refine lv_goto (tgt := 20) hx hb dX2_init_43 (by decide) ?_
  refine lv_iload_n hx hb dX2_init_20 rfl (lv_at hv36 0 rfl) ?_
  refine lv_bipush (v := 10) hx hb dX2_init_21 (by decide) ?_
  refine lv_icmp_ge (tgt := 46) hx hb dX2_init_23 (by decide) (fun c => absurd c (by decide +kernel)) (fun _ => ?_)
  refine lv_aload_n hx hb dX2_init_26 rfl (lv_at hv36 1 rfl) ?_
  refine q_get X hK hw35 0 rfl rfl wf_2 1 (by decide) rfl wm_2_74 dX2_init_27 ?_
  refine lv_iload_n hx hb dX2_init_30 rfl (lv_at hv36 0 rfl) ?_
  refine q_new (fs := [.null, .int 0, .int 0, .null]) (ci := 7) X hK hA hw35 rfl wf_7 tyX7 tyX7_ok wm_2_70 wm_2_32 wm_1_9 df_7 (Nat.le_of_ble_eq_true rfl) (Nat.le_of_ble_eq_true rfl) dX2_init_31 (fun q_211 Hp37 hw37 => ?_)
  clear Hp35 hw35
  replace hw37 : qW D _ _ [(h0, .inr (2, [.int 0, .ref q_186])), (q_186, .inl (cy 4, 10, .inr (.inr (.inr (.inr (va_up (va_up (va_up (va_up (va_up (va_up (va_up (va_up (fun _ => none) (Int32.toNatClampNeg 0) (some q_187)) (Int32.toNatClampNeg 1) (some q_190)) (Int32.toNatClampNeg 2) (some q_193)) (Int32.toNatClampNeg 3) (some q_196)) (Int32.toNatClampNeg 4) (some q_199)) (Int32.toNatClampNeg 5) (some q_202)) (Int32.toNatClampNeg 6) (some q_205)) (Int32.toNatClampNeg 7) (some q_208))))))), (q_187, .inr (7, [.ref h1, .int 0, .int 0, .ref (u_189.1 0)])), ((u_189.1 0), .inl (cy 1, 10, .inl (fun _ => 0))), (q_190, .inr (7, [.ref h1, .int 0, .int 0, .ref (u_192.1 0)])), ((u_192.1 0), .inl (cy 1, 10, .inl (fun _ => 0))), (q_193, .inr (7, [.ref h1, .int 0, .int 0, .ref (u_195.1 0)])), ((u_195.1 0), .inl (cy 1, 10, .inl (fun _ => 0))), (q_196, .inr (7, [.ref h1, .int 0, .int 0, .ref (u_198.1 0)])), ((u_198.1 0), .inl (cy 1, 10, .inl (fun _ => 0))), (q_199, .inr (7, [.ref h1, .int 0, .int 0, .ref (u_201.1 0)])), ((u_201.1 0), .inl (cy 1, 10, .inl (fun _ => 0))), (q_202, .inr (7, [.ref h1, .int 0, .int 0, .ref (u_204.1 0)])), ((u_204.1 0), .inl (cy 1, 10, .inl (fun _ => 0))), (q_205, .inr (7, [.ref h1, .int 0, .int 0, .ref (u_207.1 0)])), ((u_207.1 0), .inl (cy 1, 10, .inl (fun _ => 0))), (q_208, .inr (7, [.ref h1, .int 0, .int 0, .ref (u_210.1 0)])), ((u_210.1 0), .inl (cy 1, 10, .inl (fun _ => 0))), (q_211, .inr (7, [.null, .int 0, .int 0, .null]))] _ _ := hw37
  refine lv_dup hx hb dX2_init_34 rfl ?_
  refine lv_aload_n hx hb dX2_init_35 rfl (lv_at hv36 2 rfl) ?_
  refine q_callIv (rest := [.ref q_211, .int 8, .ref q_186]) (wr := [(h0, .inr (2, [.int 0, .ref q_186])), (q_186, .inl (cy 4, 10, .inr (.inr (.inr (.inr (va_up (va_up (va_up (va_up (va_up (va_up (va_up (va_up (fun _ => none) (Int32.toNatClampNeg 0) (some q_187)) (Int32.toNatClampNeg 1) (some q_190)) (Int32.toNatClampNeg 2) (some q_193)) (Int32.toNatClampNeg 3) (some q_196)) (Int32.toNatClampNeg 4) (some q_199)) (Int32.toNatClampNeg 5) (some q_202)) (Int32.toNatClampNeg 6) (some q_205)) (Int32.toNatClampNeg 7) (some q_208))))))), (q_187, .inr (7, [.ref h1, .int 0, .int 0, .ref (u_189.1 0)])), ((u_189.1 0), .inl (cy 1, 10, .inl (fun _ => 0))), (q_190, .inr (7, [.ref h1, .int 0, .int 0, .ref (u_192.1 0)])), ((u_192.1 0), .inl (cy 1, 10, .inl (fun _ => 0))), (q_193, .inr (7, [.ref h1, .int 0, .int 0, .ref (u_195.1 0)])), ((u_195.1 0), .inl (cy 1, 10, .inl (fun _ => 0))), (q_196, .inr (7, [.ref h1, .int 0, .int 0, .ref (u_198.1 0)])), ((u_198.1 0), .inl (cy 1, 10, .inl (fun _ => 0))), (q_199, .inr (7, [.ref h1, .int 0, .int 0, .ref (u_201.1 0)])), ((u_201.1 0), .inl (cy 1, 10, .inl (fun _ => 0))), (q_202, .inr (7, [.ref h1, .int 0, .int 0, .ref (u_204.1 0)])), ((u_204.1 0), .inl (cy 1, 10, .inl (fun _ => 0))), (q_205, .inr (7, [.ref h1, .int 0, .int 0, .ref (u_207.1 0)])), ((u_207.1 0), .inl (cy 1, 10, .inl (fun _ => 0))), (q_208, .inr (7, [.ref h1, .int 0, .int 0, .ref (u_210.1 0)])), ((u_210.1 0), .inl (cy 1, 10, .inl (fun _ => 0)))]) X hK hA hw37 (fun sz => kX7_init_8 l D cy q_211 h1  sz) wm_2_71 wm_2_35 wm_1_9 hd_X7_init wm_2_34 rfl ⟨Nat.le_of_ble_eq_true rfl, Nat.le_of_ble_eq_true rfl⟩ hv36.1 rfl (Nat.le_of_ble_eq_true rfl) dX2_init_36 ⟨Nat.le_of_ble_eq_true rfl, Nat.le_of_ble_eq_true rfl⟩ [18] [0, 1, 2, 3, 4, 5, 6, 7, 8, 9, 10, 11, 12, 13, 14, 15, 16, 17] rfl rfl (by decide) rfl rfl (fun u_213 Hp38 lc38 w_213 hw38 => ?_)
  clear Hp37 lc35 hw37
  replace hw38 : qW D _ _ [(h0, .inr (2, [.int 0, .ref q_186])), (q_186, .inl (cy 4, 10, .inr (.inr (.inr (.inr (va_up (va_up (va_up (va_up (va_up (va_up (va_up (va_up (fun _ => none) (Int32.toNatClampNeg 0) (some q_187)) (Int32.toNatClampNeg 1) (some q_190)) (Int32.toNatClampNeg 2) (some q_193)) (Int32.toNatClampNeg 3) (some q_196)) (Int32.toNatClampNeg 4) (some q_199)) (Int32.toNatClampNeg 5) (some q_202)) (Int32.toNatClampNeg 6) (some q_205)) (Int32.toNatClampNeg 7) (some q_208))))))), (q_187, .inr (7, [.ref h1, .int 0, .int 0, .ref (u_189.1 0)])), ((u_189.1 0), .inl (cy 1, 10, .inl (fun _ => 0))), (q_190, .inr (7, [.ref h1, .int 0, .int 0, .ref (u_192.1 0)])), ((u_192.1 0), .inl (cy 1, 10, .inl (fun _ => 0))), (q_193, .inr (7, [.ref h1, .int 0, .int 0, .ref (u_195.1 0)])), ((u_195.1 0), .inl (cy 1, 10, .inl (fun _ => 0))), (q_196, .inr (7, [.ref h1, .int 0, .int 0, .ref (u_198.1 0)])), ((u_198.1 0), .inl (cy 1, 10, .inl (fun _ => 0))), (q_199, .inr (7, [.ref h1, .int 0, .int 0, .ref (u_201.1 0)])), ((u_201.1 0), .inl (cy 1, 10, .inl (fun _ => 0))), (q_202, .inr (7, [.ref h1, .int 0, .int 0, .ref (u_204.1 0)])), ((u_204.1 0), .inl (cy 1, 10, .inl (fun _ => 0))), (q_205, .inr (7, [.ref h1, .int 0, .int 0, .ref (u_207.1 0)])), ((u_207.1 0), .inl (cy 1, 10, .inl (fun _ => 0))), (q_208, .inr (7, [.ref h1, .int 0, .int 0, .ref (u_210.1 0)])), ((u_210.1 0), .inl (cy 1, 10, .inl (fun _ => 0))), (q_211, .inr (7, [.ref h1, .int 0, .int 0, .ref (u_213.1 0)])), ((u_213.1 0), .inl (cy 1, 10, .inl (fun _ => 0)))] _ _ := hw38
  refine q_astS X hK hw38 1 18 rfl rfl (q_in (by decide +kernel)) dX2_init_39 (fun Hp39 lc39 hw39 => ?_)
  clear Hp38 lc38 hw38
  replace hw39 : qW D _ _ [(h0, .inr (2, [.int 0, .ref q_186])), (q_186, .inl (cy 4, 10, .inr (.inr (.inr (.inr (va_up (va_up (va_up (va_up (va_up (va_up (va_up (va_up (va_up (fun _ => none) (Int32.toNatClampNeg 0) (some q_187)) (Int32.toNatClampNeg 1) (some q_190)) (Int32.toNatClampNeg 2) (some q_193)) (Int32.toNatClampNeg 3) (some q_196)) (Int32.toNatClampNeg 4) (some q_199)) (Int32.toNatClampNeg 5) (some q_202)) (Int32.toNatClampNeg 6) (some q_205)) (Int32.toNatClampNeg 7) (some q_208)) (Int32.toNatClampNeg 8) (some q_211))))))), (q_187, .inr (7, [.ref h1, .int 0, .int 0, .ref (u_189.1 0)])), ((u_189.1 0), .inl (cy 1, 10, .inl (fun _ => 0))), (q_190, .inr (7, [.ref h1, .int 0, .int 0, .ref (u_192.1 0)])), ((u_192.1 0), .inl (cy 1, 10, .inl (fun _ => 0))), (q_193, .inr (7, [.ref h1, .int 0, .int 0, .ref (u_195.1 0)])), ((u_195.1 0), .inl (cy 1, 10, .inl (fun _ => 0))), (q_196, .inr (7, [.ref h1, .int 0, .int 0, .ref (u_198.1 0)])), ((u_198.1 0), .inl (cy 1, 10, .inl (fun _ => 0))), (q_199, .inr (7, [.ref h1, .int 0, .int 0, .ref (u_201.1 0)])), ((u_201.1 0), .inl (cy 1, 10, .inl (fun _ => 0))), (q_202, .inr (7, [.ref h1, .int 0, .int 0, .ref (u_204.1 0)])), ((u_204.1 0), .inl (cy 1, 10, .inl (fun _ => 0))), (q_205, .inr (7, [.ref h1, .int 0, .int 0, .ref (u_207.1 0)])), ((u_207.1 0), .inl (cy 1, 10, .inl (fun _ => 0))), (q_208, .inr (7, [.ref h1, .int 0, .int 0, .ref (u_210.1 0)])), ((u_210.1 0), .inl (cy 1, 10, .inl (fun _ => 0))), (q_211, .inr (7, [.ref h1, .int 0, .int 0, .ref (u_213.1 0)])), ((u_213.1 0), .inl (cy 1, 10, .inl (fun _ => 0)))] _ _ := hw39
  refine lv_iinc (v := 9) (lv' := [(2, .int 9), (0, .ref h0), (1, .ref h1)]) hx hb dX2_init_40 hv36 (k := 0) rfl (by decide +kernel) (by decide) rfl (fun lz40 hv40 => ?_)
  clear lz36 hv36
  refine lv_goto (tgt := 20) hx hb dX2_init_43 (by decide) ?_
  refine lv_iload_n hx hb dX2_init_20 rfl (lv_at hv40 0 rfl) ?_
  refine lv_bipush (v := 10) hx hb dX2_init_21 (by decide) ?_
  refine lv_icmp_ge (tgt := 46) hx hb dX2_init_23 (by decide) (fun c => absurd c (by decide +kernel)) (fun _ => ?_)
  refine lv_aload_n hx hb dX2_init_26 rfl (lv_at hv40 1 rfl) ?_
  refine q_get X hK hw39 0 rfl rfl wf_2 1 (by decide) rfl wm_2_74 dX2_init_27 ?_
  refine lv_iload_n hx hb dX2_init_30 rfl (lv_at hv40 0 rfl) ?_
  refine q_new (fs := [.null, .int 0, .int 0, .null]) (ci := 7) X hK hA hw39 rfl wf_7 tyX7 tyX7_ok wm_2_70 wm_2_32 wm_1_9 df_7 (Nat.le_of_ble_eq_true rfl) (Nat.le_of_ble_eq_true rfl) dX2_init_31 (fun q_214 Hp41 hw41 => ?_)
  clear Hp39 hw39
  replace hw41 : qW D _ _ [(h0, .inr (2, [.int 0, .ref q_186])), (q_186, .inl (cy 4, 10, .inr (.inr (.inr (.inr (va_up (va_up (va_up (va_up (va_up (va_up (va_up (va_up (va_up (fun _ => none) (Int32.toNatClampNeg 0) (some q_187)) (Int32.toNatClampNeg 1) (some q_190)) (Int32.toNatClampNeg 2) (some q_193)) (Int32.toNatClampNeg 3) (some q_196)) (Int32.toNatClampNeg 4) (some q_199)) (Int32.toNatClampNeg 5) (some q_202)) (Int32.toNatClampNeg 6) (some q_205)) (Int32.toNatClampNeg 7) (some q_208)) (Int32.toNatClampNeg 8) (some q_211))))))), (q_187, .inr (7, [.ref h1, .int 0, .int 0, .ref (u_189.1 0)])), ((u_189.1 0), .inl (cy 1, 10, .inl (fun _ => 0))), (q_190, .inr (7, [.ref h1, .int 0, .int 0, .ref (u_192.1 0)])), ((u_192.1 0), .inl (cy 1, 10, .inl (fun _ => 0))), (q_193, .inr (7, [.ref h1, .int 0, .int 0, .ref (u_195.1 0)])), ((u_195.1 0), .inl (cy 1, 10, .inl (fun _ => 0))), (q_196, .inr (7, [.ref h1, .int 0, .int 0, .ref (u_198.1 0)])), ((u_198.1 0), .inl (cy 1, 10, .inl (fun _ => 0))), (q_199, .inr (7, [.ref h1, .int 0, .int 0, .ref (u_201.1 0)])), ((u_201.1 0), .inl (cy 1, 10, .inl (fun _ => 0))), (q_202, .inr (7, [.ref h1, .int 0, .int 0, .ref (u_204.1 0)])), ((u_204.1 0), .inl (cy 1, 10, .inl (fun _ => 0))), (q_205, .inr (7, [.ref h1, .int 0, .int 0, .ref (u_207.1 0)])), ((u_207.1 0), .inl (cy 1, 10, .inl (fun _ => 0))), (q_208, .inr (7, [.ref h1, .int 0, .int 0, .ref (u_210.1 0)])), ((u_210.1 0), .inl (cy 1, 10, .inl (fun _ => 0))), (q_211, .inr (7, [.ref h1, .int 0, .int 0, .ref (u_213.1 0)])), ((u_213.1 0), .inl (cy 1, 10, .inl (fun _ => 0))), (q_214, .inr (7, [.null, .int 0, .int 0, .null]))] _ _ := hw41
  refine lv_dup hx hb dX2_init_34 rfl ?_
  refine lv_aload_n hx hb dX2_init_35 rfl (lv_at hv40 2 rfl) ?_
  refine q_callIv (rest := [.ref q_214, .int 9, .ref q_186]) (wr := [(h0, .inr (2, [.int 0, .ref q_186])), (q_186, .inl (cy 4, 10, .inr (.inr (.inr (.inr (va_up (va_up (va_up (va_up (va_up (va_up (va_up (va_up (va_up (fun _ => none) (Int32.toNatClampNeg 0) (some q_187)) (Int32.toNatClampNeg 1) (some q_190)) (Int32.toNatClampNeg 2) (some q_193)) (Int32.toNatClampNeg 3) (some q_196)) (Int32.toNatClampNeg 4) (some q_199)) (Int32.toNatClampNeg 5) (some q_202)) (Int32.toNatClampNeg 6) (some q_205)) (Int32.toNatClampNeg 7) (some q_208)) (Int32.toNatClampNeg 8) (some q_211))))))), (q_187, .inr (7, [.ref h1, .int 0, .int 0, .ref (u_189.1 0)])), ((u_189.1 0), .inl (cy 1, 10, .inl (fun _ => 0))), (q_190, .inr (7, [.ref h1, .int 0, .int 0, .ref (u_192.1 0)])), ((u_192.1 0), .inl (cy 1, 10, .inl (fun _ => 0))), (q_193, .inr (7, [.ref h1, .int 0, .int 0, .ref (u_195.1 0)])), ((u_195.1 0), .inl (cy 1, 10, .inl (fun _ => 0))), (q_196, .inr (7, [.ref h1, .int 0, .int 0, .ref (u_198.1 0)])), ((u_198.1 0), .inl (cy 1, 10, .inl (fun _ => 0))), (q_199, .inr (7, [.ref h1, .int 0, .int 0, .ref (u_201.1 0)])), ((u_201.1 0), .inl (cy 1, 10, .inl (fun _ => 0))), (q_202, .inr (7, [.ref h1, .int 0, .int 0, .ref (u_204.1 0)])), ((u_204.1 0), .inl (cy 1, 10, .inl (fun _ => 0))), (q_205, .inr (7, [.ref h1, .int 0, .int 0, .ref (u_207.1 0)])), ((u_207.1 0), .inl (cy 1, 10, .inl (fun _ => 0))), (q_208, .inr (7, [.ref h1, .int 0, .int 0, .ref (u_210.1 0)])), ((u_210.1 0), .inl (cy 1, 10, .inl (fun _ => 0))), (q_211, .inr (7, [.ref h1, .int 0, .int 0, .ref (u_213.1 0)])), ((u_213.1 0), .inl (cy 1, 10, .inl (fun _ => 0)))]) X hK hA hw41 (fun sz => kX7_init_8 l D cy q_214 h1  sz) wm_2_71 wm_2_35 wm_1_9 hd_X7_init wm_2_34 rfl ⟨Nat.le_of_ble_eq_true rfl, Nat.le_of_ble_eq_true rfl⟩ hv40.1 rfl (Nat.le_of_ble_eq_true rfl) dX2_init_36 ⟨Nat.le_of_ble_eq_true rfl, Nat.le_of_ble_eq_true rfl⟩ [20] [0, 1, 2, 3, 4, 5, 6, 7, 8, 9, 10, 11, 12, 13, 14, 15, 16, 17, 18, 19] rfl rfl (by decide) rfl rfl (fun u_216 Hp42 lc42 w_216 hw42 => ?_)
  clear Hp41 lc39 hw41
  replace hw42 : qW D _ _ [(h0, .inr (2, [.int 0, .ref q_186])), (q_186, .inl (cy 4, 10, .inr (.inr (.inr (.inr (va_up (va_up (va_up (va_up (va_up (va_up (va_up (va_up (va_up (fun _ => none) (Int32.toNatClampNeg 0) (some q_187)) (Int32.toNatClampNeg 1) (some q_190)) (Int32.toNatClampNeg 2) (some q_193)) (Int32.toNatClampNeg 3) (some q_196)) (Int32.toNatClampNeg 4) (some q_199)) (Int32.toNatClampNeg 5) (some q_202)) (Int32.toNatClampNeg 6) (some q_205)) (Int32.toNatClampNeg 7) (some q_208)) (Int32.toNatClampNeg 8) (some q_211))))))), (q_187, .inr (7, [.ref h1, .int 0, .int 0, .ref (u_189.1 0)])), ((u_189.1 0), .inl (cy 1, 10, .inl (fun _ => 0))), (q_190, .inr (7, [.ref h1, .int 0, .int 0, .ref (u_192.1 0)])), ((u_192.1 0), .inl (cy 1, 10, .inl (fun _ => 0))), (q_193, .inr (7, [.ref h1, .int 0, .int 0, .ref (u_195.1 0)])), ((u_195.1 0), .inl (cy 1, 10, .inl (fun _ => 0))), (q_196, .inr (7, [.ref h1, .int 0, .int 0, .ref (u_198.1 0)])), ((u_198.1 0), .inl (cy 1, 10, .inl (fun _ => 0))), (q_199, .inr (7, [.ref h1, .int 0, .int 0, .ref (u_201.1 0)])), ((u_201.1 0), .inl (cy 1, 10, .inl (fun _ => 0))), (q_202, .inr (7, [.ref h1, .int 0, .int 0, .ref (u_204.1 0)])), ((u_204.1 0), .inl (cy 1, 10, .inl (fun _ => 0))), (q_205, .inr (7, [.ref h1, .int 0, .int 0, .ref (u_207.1 0)])), ((u_207.1 0), .inl (cy 1, 10, .inl (fun _ => 0))), (q_208, .inr (7, [.ref h1, .int 0, .int 0, .ref (u_210.1 0)])), ((u_210.1 0), .inl (cy 1, 10, .inl (fun _ => 0))), (q_211, .inr (7, [.ref h1, .int 0, .int 0, .ref (u_213.1 0)])), ((u_213.1 0), .inl (cy 1, 10, .inl (fun _ => 0))), (q_214, .inr (7, [.ref h1, .int 0, .int 0, .ref (u_216.1 0)])), ((u_216.1 0), .inl (cy 1, 10, .inl (fun _ => 0)))] _ _ := hw42
  refine q_astS X hK hw42 1 20 rfl rfl (q_in (by decide +kernel)) dX2_init_39 (fun Hp43 lc43 hw43 => ?_)
  clear Hp42 lc42 hw42
  replace hw43 : qW D _ _ [(h0, .inr (2, [.int 0, .ref q_186])), (q_186, .inl (cy 4, 10, .inr (.inr (.inr (.inr (va_up (va_up (va_up (va_up (va_up (va_up (va_up (va_up (va_up (va_up (fun _ => none) (Int32.toNatClampNeg 0) (some q_187)) (Int32.toNatClampNeg 1) (some q_190)) (Int32.toNatClampNeg 2) (some q_193)) (Int32.toNatClampNeg 3) (some q_196)) (Int32.toNatClampNeg 4) (some q_199)) (Int32.toNatClampNeg 5) (some q_202)) (Int32.toNatClampNeg 6) (some q_205)) (Int32.toNatClampNeg 7) (some q_208)) (Int32.toNatClampNeg 8) (some q_211)) (Int32.toNatClampNeg 9) (some q_214))))))), (q_187, .inr (7, [.ref h1, .int 0, .int 0, .ref (u_189.1 0)])), ((u_189.1 0), .inl (cy 1, 10, .inl (fun _ => 0))), (q_190, .inr (7, [.ref h1, .int 0, .int 0, .ref (u_192.1 0)])), ((u_192.1 0), .inl (cy 1, 10, .inl (fun _ => 0))), (q_193, .inr (7, [.ref h1, .int 0, .int 0, .ref (u_195.1 0)])), ((u_195.1 0), .inl (cy 1, 10, .inl (fun _ => 0))), (q_196, .inr (7, [.ref h1, .int 0, .int 0, .ref (u_198.1 0)])), ((u_198.1 0), .inl (cy 1, 10, .inl (fun _ => 0))), (q_199, .inr (7, [.ref h1, .int 0, .int 0, .ref (u_201.1 0)])), ((u_201.1 0), .inl (cy 1, 10, .inl (fun _ => 0))), (q_202, .inr (7, [.ref h1, .int 0, .int 0, .ref (u_204.1 0)])), ((u_204.1 0), .inl (cy 1, 10, .inl (fun _ => 0))), (q_205, .inr (7, [.ref h1, .int 0, .int 0, .ref (u_207.1 0)])), ((u_207.1 0), .inl (cy 1, 10, .inl (fun _ => 0))), (q_208, .inr (7, [.ref h1, .int 0, .int 0, .ref (u_210.1 0)])), ((u_210.1 0), .inl (cy 1, 10, .inl (fun _ => 0))), (q_211, .inr (7, [.ref h1, .int 0, .int 0, .ref (u_213.1 0)])), ((u_213.1 0), .inl (cy 1, 10, .inl (fun _ => 0))), (q_214, .inr (7, [.ref h1, .int 0, .int 0, .ref (u_216.1 0)])), ((u_216.1 0), .inl (cy 1, 10, .inl (fun _ => 0)))] _ _ := hw43
  refine lv_iinc (v := 10) (lv' := [(2, .int 10), (0, .ref h0), (1, .ref h1)]) hx hb dX2_init_40 hv40 (k := 0) rfl (by decide +kernel) (by decide) rfl (fun lz44 hv44 => ?_)
  clear lz40 hv40
  refine lv_goto (tgt := 20) hx hb dX2_init_43 (by decide) ?_
  refine lv_iload_n hx hb dX2_init_20 rfl (lv_at hv44 0 rfl) ?_
  refine lv_bipush (v := 10) hx hb dX2_init_21 (by decide) ?_
  refine lv_icmp_ge (tgt := 46) hx hb dX2_init_23 (by decide) (fun _ => ?_) (fun c => absurd c (by decide +kernel))
  exact q_vret X hr hlk hK hw43 (fun k => List.getD [q_186, q_187, (u_189.1 0), q_190, (u_192.1 0), q_193, (u_195.1 0), q_196, (u_198.1 0), q_199, (u_201.1 0), q_202, (u_204.1 0), q_205, (u_207.1 0), q_208, (u_210.1 0), q_211, (u_213.1 0), q_214, (u_216.1 0)] k 0, fun _ _ => 0, fun _ _ => 0) trivial [0, 1, 2, 3, 4, 5, 6, 7, 8, 9, 10, 11, 12, 13, 14, 15, 16, 17, 18, 19, 20, 21] rfl rfl dX2_init_46 (Nat.le_of_ble_eq_true rfl) (Nat.le_of_ble_eq_true rfl)
set_option maxHeartbeats 4000000 in
set_option maxRecDepth 100000 in
theorem kX9_init_10 (l : Launch) (D : va_G) (cy : Nat → ClassId) (h0 : Nat) (sz : Nat) : MV l yX9_init cX9_init 1 { frames := 1, cells := 1, slots := 40, locals := 12 } [.ref h0] D cy [(h0, .inr (9, [.int 0, .int 0, .null]))] sz (fun _ => True) (fun u => [(h0, .inr (9, [.int (-1), .int 0, .ref (u.1 0)])), ((u.1 0), .inl (cy 2, 40, .inr (.inl (fun _ => 0))))]) 1 40 := by
  refine q_ent (own := RX9) (by decide) rfl (Nat.le_of_ble_eq_true rfl) (fun p e s m below meth c ls X hr hlk hnm hK h hA hl => ?_)
  obtain ⟨hx, hb, hml, hown, ht⟩ := id X
  replace hl : lv_has ls 1 [(0, .ref h0)] := hl
  refine lv_aload_n hx hb dX9_init_0 rfl (lv_at hl 0 rfl) ?_
  refine q_obj X wm_2_84 wm_1_29 wm_1_30 hl.1 dX9_init_1 (Nat.le_of_ble_eq_true rfl) (Nat.le_of_ble_eq_true rfl) ?_
  refine lv_aload_n hx hb dX9_init_4 rfl (lv_at hl 0 rfl) ?_
  refine lv_iconst (v := (-1)) hx hb dX9_init_5 (by decide) ?_
  refine q_put (v := .int (-1)) X hK h 0 rfl rfl wf_9 tyX9 tyX9_ok nmX9 0 (by decide) wm_2_85 rfl rfl rfl (Nat.le_of_ble_eq_true rfl) dX9_init_6 (fun Hp1 lc1 hw1 => ?_)
  clear h
  replace hw1 : qW D _ _ [(h0, .inr (9, [.int (-1), .int 0, .null]))] _ _ := hw1
  refine lv_aload_n hx hb dX9_init_9 rfl (lv_at hl 0 rfl) ?_
  refine lv_iconst (v := 0) hx hb dX9_init_10 (by decide) ?_
  refine q_put (v := .int 0) X hK hw1 0 rfl rfl wf_9 tyX9 tyX9_ok nmX9 1 (by decide) wm_2_86 rfl rfl rfl (Nat.le_of_ble_eq_true rfl) dX9_init_11 (fun Hp2 lc2 hw2 => ?_)
  clear Hp1 lc1 hw1
  replace hw2 : qW D _ _ [(h0, .inr (9, [.int (-1), .int 0, .null]))] _ _ := hw2
  refine lv_aload_n hx hb dX9_init_14 rfl (lv_at hl 0 rfl) ?_
  refine lv_bipush (v := 40) hx hb dX9_init_15 (by decide) ?_
  refine q_newj X hK hA hw2 wm_2_97 40 (by decide) (by decide +kernel) (by decide) (Nat.le_of_ble_eq_true rfl) (Nat.le_of_ble_eq_true rfl) dX9_init_17 (fun q_221 Hp3 hw3 => ?_)
  clear Hp2 hw2
  replace hw3 : qW D _ _ [(h0, .inr (9, [.int (-1), .int 0, .null])), (q_221, .inl (cy 2, 40, .inr (.inl (fun _ => 0))))] _ _ := hw3
  refine q_putF (v := .ref q_221) X hK hw3 0 rfl rfl wf_9 tyX9 tyX9_ok nmX9 2 (by decide) wm_2_88 rfl hnm rfl rfl rfl (Nat.le_of_ble_eq_true rfl) dX9_init_19 (fun Hp4 lc4 hw4 => ?_)
  clear Hp3 lc2 hw3
  replace hw4 : qW D _ _ [(h0, .inr (9, [.int (-1), .int 0, .ref q_221])), (q_221, .inl (cy 2, 40, .inr (.inl (fun _ => 0))))] _ _ := hw4
  exact q_vret X hr hlk hK hw4 (fun k => List.getD [q_221] k 0, fun _ _ => 0, fun _ _ => 0) trivial [0, 1] rfl rfl dX9_init_22 (Nat.le_of_ble_eq_true rfl) (Nat.le_of_ble_eq_true rfl)
