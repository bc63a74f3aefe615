set_option maxHeartbeats 4000000 in
set_option maxRecDepth 100000 in
theorem kX12_init_405 (l : Launch) (D : va_G) (cy : Nat → ClassId) (h0 : Nat) (sz : Nat) : MV l yX12_init cX12_init 1 { frames := 1, cells := 20, slots := 13294, locals := 21 } [.ref h0] D cy [(h0, .inr (12, [.int 0, .null, .null, .null, .null, .int 0, .int 0, .int 0, .int 0, .int 0, .int 0, .int 0, .int 0, .int 0, .int 0, .int 0, .null, .null, .null, .null, .null, .int 0, .int 0, .null, .null, .null, .int 0, .int 0, .null, .null, .null, .null, .null, .int 0, .null, .null, .null]))] sz (fun _ => True) (fun u => [(h0, .inr (12, [.int 0, .ref (u.1 19), .ref (u.1 0), .ref (u.1 1), .ref (u.1 2), .int 0, .int 0, .int 0, .int 0, .int 0, .int 0, .int 0, .int 0, .int 0, .int (-1), .int 0, .ref (u.1 3), .ref (u.1 4), .ref (u.1 5), .ref (u.1 6), .ref (u.1 7), .int 0, .int 0, .ref (u.1 8), .ref (u.1 9), .ref (u.1 10), .int 0, .int 0, .ref (u.1 11), .ref (u.1 12), .ref (u.1 13), .ref (u.1 14), .ref (u.1 15), .int 0, .ref (u.1 16), .ref (u.1 17), .ref (u.1 18)])), ((u.1 0), .inl (cy 3, 2, .inl (fun _ => 0))), ((u.1 1), .inl (cy 1, 900, .inl (fun _ => 0))), ((u.1 2), .inl (cy 1, 1306, .inl (fun _ => 0))), ((u.1 3), .inl (cy 1, 900, .inl (fun _ => 0))), ((u.1 4), .inl (cy 1, 11, .inl (fun _ => 0))), ((u.1 5), .inl (cy 1, 3, .inl (fun _ => 0))), ((u.1 6), .inl (cy 1, 10, .inl (fun _ => 0))), ((u.1 7), .inl (cy 1, 32, .inl (fun _ => 0))), ((u.1 8), .inl (cy 1, 1024, .inl (fun _ => 0))), ((u.1 9), .inl (cy 1, 10, .inl (fun _ => 0))), ((u.1 10), .inl (cy 1, 10, .inl (fun _ => 0))), ((u.1 11), .inl (cy 1, 1000, .inl (fun _ => 0))), ((u.1 12), .inl (cy 1, 1000, .inl (fun _ => 0))), ((u.1 13), .inl (cy 1, 1000, .inl (fun _ => 0))), ((u.1 14), .inl (cy 1, 1000, .inl (fun _ => 0))), ((u.1 15), .inl (cy 3, 1000, .inl (fun _ => 0))), ((u.1 16), .inl (cy 1, 4, .inl (upd (upd (upd (upd (fun _ => 0) (Int32.toNatClampNeg 0) (-1)) (Int32.toNatClampNeg 1) (-1)) (Int32.toNatClampNeg 2) (-1)) (Int32.toNatClampNeg 3) (-1)))), ((u.1 17), .inl (cy 1, 4, .inl (fun _ => 0))), ((u.1 18), .inl (cy 2, 160, .inr (.inl (fun _ => 0)))), ((u.1 19), .inl (cy 1, 3918, .inl (upd (fun _ => 0) (Int32.toNatClampNeg 1) 1)))]) 20 13294 := by
  refine q_ent (own := RX12) (by decide) rfl (Nat.le_of_ble_eq_true rfl) (fun p e s m below meth c ls X hr hlk hnm hK h hA hl => ?_)
  obtain ⟨hx, hb, hml, hown, ht⟩ := id X
  have hl : lv_has ls 1 [(0, .ref h0)] := hl
  refine lv_aload_n hx hb dX12_init_0 rfl (lv_at hl 0 rfl) ?_
  refine q_obj X wm_5_166 wm_1_29 wm_1_30 hl.1 dX12_init_1 (Nat.le_of_ble_eq_true rfl) (Nat.le_of_ble_eq_true rfl) ?_
  refine lv_aload_n hx hb dX12_init_4 rfl (lv_at hl 0 rfl) ?_
  refine lv_sipush (v := 3918) hx hb dX12_init_5 (by decide) ?_
  refine q_newi X hK hA h wm_1_67 3918 (by decide) (by decide +kernel) (by decide) (Nat.le_of_ble_eq_true rfl) (Nat.le_of_ble_eq_true rfl) dX12_init_8 (fun q_5296 H h => ?_)
  have h : qW D _ _ [(h0, .inr (12, [.int 0, .null, .null, .null, .null, .int 0, .int 0, .int 0, .int 0, .int 0, .int 0, .int 0, .int 0, .int 0, .int 0, .int 0, .null, .null, .null, .null, .null, .int 0, .int 0, .null, .null, .null, .int 0, .int 0, .null, .null, .null, .null, .null, .int 0, .null, .null, .null])), (q_5296, .inl (cy 1, 3918, .inl (fun _ => 0)))] _ _ := h
  refine q_putF (v := .ref q_5296) X hK h 0 rfl rfl wf_12 tyX12 tyX12_ok nmX12 1 (by decide) wm_5_171 rfl hnm rfl rfl rfl (Nat.le_of_ble_eq_true rfl) dX12_init_10 (fun H locs h => ?_)
  have h : qW D _ _ [(h0, .inr (12, [.int 0, .ref q_5296, .null, .null, .null, .int 0, .int 0, .int 0, .int 0, .int 0, .int 0, .int 0, .int 0, .int 0, .int 0, .int 0, .null, .null, .null, .null, .null, .int 0, .int 0, .null, .null, .null, .int 0, .int 0, .null, .null, .null, .null, .null, .int 0, .null, .null, .null])), (q_5296, .inl (cy 1, 3918, .inl (fun _ => 0)))] _ _ := h
  refine lv_aload_n hx hb dX12_init_13 rfl (lv_at hl 0 rfl) ?_
  refine lv_iconst (v := 2) hx hb dX12_init_14 (by decide) ?_
  refine q_newz X hK hA h wm_1_191 2 (by decide) (by decide +kernel) (by decide) (Nat.le_of_ble_eq_true rfl) (Nat.le_of_ble_eq_true rfl) dX12_init_15 (fun q_5297 H h => ?_)
  have h : qW D _ _ [(h0, .inr (12, [.int 0, .ref q_5296, .null, .null, .null, .int 0, .int 0, .int 0, .int 0, .int 0, .int 0, .int 0, .int 0, .int 0, .int 0, .int 0, .null, .null, .null, .null, .null, .int 0, .int 0, .null, .null, .null, .int 0, .int 0, .null, .null, .null, .null, .null, .int 0, .null, .null, .null])), (q_5296, .inl (cy 1, 3918, .inl (fun _ => 0))), (q_5297, .inl (cy 3, 2, .inl (fun _ => 0)))] _ _ := h
  refine q_putF (v := .ref q_5297) X hK h 0 rfl rfl wf_12 tyX12 tyX12_ok nmX12 2 (by decide) wm_5_172 rfl hnm rfl rfl rfl (Nat.le_of_ble_eq_true rfl) dX12_init_17 (fun H locs h => ?_)
  have h : qW D _ _ [(h0, .inr (12, [.int 0, .ref q_5296, .ref q_5297, .null, .null, .int 0, .int 0, .int 0, .int 0, .int 0, .int 0, .int 0, .int 0, .int 0, .int 0, .int 0, .null, .null, .null, .null, .null, .int 0, .int 0, .null, .null, .null, .int 0, .int 0, .null, .null, .null, .null, .null, .int 0, .null, .null, .null])), (q_5296, .inl (cy 1, 3918, .inl (fun _ => 0))), (q_5297, .inl (cy 3, 2, .inl (fun _ => 0)))] _ _ := h
  refine lv_aload_n hx hb dX12_init_20 rfl (lv_at hl 0 rfl) ?_
  refine lv_sipush (v := 900) hx hb dX12_init_21 (by decide) ?_
  refine q_newi X hK hA h wm_1_67 900 (by decide) (by decide +kernel) (by decide) (Nat.le_of_ble_eq_true rfl) (Nat.le_of_ble_eq_true rfl) dX12_init_24 (fun q_5298 H h => ?_)
  have h : qW D _ _ [(h0, .inr (12, [.int 0, .ref q_5296, .ref q_5297, .null, .null, .int 0, .int 0, .int 0, .int 0, .int 0, .int 0, .int 0, .int 0, .int 0, .int 0, .int 0, .null, .null, .null, .null, .null, .int 0, .int 0, .null, .null, .null, .int 0, .int 0, .null, .null, .null, .null, .null, .int 0, .null, .null, .null])), (q_5296, .inl (cy 1, 3918, .inl (fun _ => 0))), (q_5297, .inl (cy 3, 2, .inl (fun _ => 0))), (q_5298, .inl (cy 1, 900, .inl (fun _ => 0)))] _ _ := h
  refine q_putF (v := .ref q_5298) X hK h 0 rfl rfl wf_12 tyX12 tyX12_ok nmX12 3 (by decide) wm_5_173 rfl hnm rfl rfl rfl (Nat.le_of_ble_eq_true rfl) dX12_init_26 (fun H locs h => ?_)
  have h : qW D _ _ [(h0, .inr (12, [.int 0, .ref q_5296, .ref q_5297, .ref q_5298, .null, .int 0, .int 0, .int 0, .int 0, .int 0, .int 0, .int 0, .int 0, .int 0, .int 0, .int 0, .null, .null, .null, .null, .null, .int 0, .int 0, .null, .null, .null, .int 0, .int 0, .null, .null, .null, .null, .null, .int 0, .null, .null, .null])), (q_5296, .inl (cy 1, 3918, .inl (fun _ => 0))), (q_5297, .inl (cy 3, 2, .inl (fun _ => 0))), (q_5298, .inl (cy 1, 900, .inl (fun _ => 0)))] _ _ := h
  refine lv_aload_n hx hb dX12_init_29 rfl (lv_at hl 0 rfl) ?_
  refine lv_sipush (v := 1306) hx hb dX12_init_30 (by decide) ?_
  refine q_newi X hK hA h wm_1_67 1306 (by decide) (by decide +kernel) (by decide) (Nat.le_of_ble_eq_true rfl) (Nat.le_of_ble_eq_true rfl) dX12_init_33 (fun q_5299 H h => ?_)
  have h : qW D _ _ [(h0, .inr (12, [.int 0, .ref q_5296, .ref q_5297, .ref q_5298, .null, .int 0, .int 0, .int 0, .int 0, .int 0, .int 0, .int 0, .int 0, .int 0, .int 0, .int 0, .null, .null, .null, .null, .null, .int 0, .int 0, .null, .null, .null, .int 0, .int 0, .null, .null, .null, .null, .null, .int 0, .null, .null, .null])), (q_5296, .inl (cy 1, 3918, .inl (fun _ => 0))), (q_5297, .inl (cy 3, 2, .inl (fun _ => 0))), (q_5298, .inl (cy 1, 900, .inl (fun _ => 0))), (q_5299, .inl (cy 1, 1306, .inl (fun _ => 0)))] _ _ := h
  refine q_putF (v := .ref q_5299) X hK h 0 rfl rfl wf_12 tyX12 tyX12_ok nmX12 4 (by decide) wm_5_174 rfl hnm rfl rfl rfl (Nat.le_of_ble_eq_true rfl) dX12_init_35 (fun H locs h => ?_)
  have h : qW D _ _ [(h0, .inr (12, [.int 0, .ref q_5296, .ref q_5297, .ref q_5298, .ref q_5299, .int 0, .int 0, .int 0, .int 0, .int 0, .int 0, .int 0, .int 0, .int 0, .int 0, .int 0, .null, .null, .null, .null, .null, .int 0, .int 0, .null, .null, .null, .int 0, .int 0, .null, .null, .null, .null, .null, .int 0, .null, .null, .null])), (q_5296, .inl (cy 1, 3918, .inl (fun _ => 0))), (q_5297, .inl (cy 3, 2, .inl (fun _ => 0))), (q_5298, .inl (cy 1, 900, .inl (fun _ => 0))), (q_5299, .inl (cy 1, 1306, .inl (fun _ => 0)))] _ _ := h
  refine lv_aload_n hx hb dX12_init_38 rfl (lv_at hl 0 rfl) ?_
  refine lv_iconst (v := (-1)) hx hb dX12_init_39 (by decide) ?_
  refine q_put (v := .int (-1)) X hK h 0 rfl rfl wf_12 tyX12 tyX12_ok nmX12 14 (by decide) wm_5_184 rfl rfl rfl (Nat.le_of_ble_eq_true rfl) dX12_init_40 (fun H locs h => ?_)
  have h : qW D _ _ [(h0, .inr (12, [.int 0, .ref q_5296, .ref q_5297, .ref q_5298, .ref q_5299, .int 0, .int 0, .int 0, .int 0, .int 0, .int 0, .int 0, .int 0, .int 0, .int (-1), .int 0, .null, .null, .null, .null, .null, .int 0, .int 0, .null, .null, .null, .int 0, .int 0, .null, .null, .null, .null, .null, .int 0, .null, .null, .null])), (q_5296, .inl (cy 1, 3918, .inl (fun _ => 0))), (q_5297, .inl (cy 3, 2, .inl (fun _ => 0))), (q_5298, .inl (cy 1, 900, .inl (fun _ => 0))), (q_5299, .inl (cy 1, 1306, .inl (fun _ => 0)))] _ _ := h
  refine lv_aload_n hx hb dX12_init_43 rfl (lv_at hl 0 rfl) ?_
  refine lv_sipush (v := 900) hx hb dX12_init_44 (by decide) ?_
  refine q_newi X hK hA h wm_1_67 900 (by decide) (by decide +kernel) (by decide) (Nat.le_of_ble_eq_true rfl) (Nat.le_of_ble_eq_true rfl) dX12_init_47 (fun q_5300 H h => ?_)
  have h : qW D _ _ [(h0, .inr (12, [.int 0, .ref q_5296, .ref q_5297, .ref q_5298, .ref q_5299, .int 0, .int 0, .int 0, .int 0, .int 0, .int 0, .int 0, .int 0, .int 0, .int (-1), .int 0, .null, .null, .null, .null, .null, .int 0, .int 0, .null, .null, .null, .int 0, .int 0, .null, .null, .null, .null, .null, .int 0, .null, .null, .null])), (q_5296, .inl (cy 1, 3918, .inl (fun _ => 0))), (q_5297, .inl (cy 3, 2, .inl (fun _ => 0))), (q_5298, .inl (cy 1, 900, .inl (fun _ => 0))), (q_5299, .inl (cy 1, 1306, .inl (fun _ => 0))), (q_5300, .inl (cy 1, 900, .inl (fun _ => 0)))] _ _ := h
  refine q_putF (v := .ref q_5300) X hK h 0 rfl rfl wf_12 tyX12 tyX12_ok nmX12 16 (by decide) wm_5_186 rfl hnm rfl rfl rfl (Nat.le_of_ble_eq_true rfl) dX12_init_49 (fun H locs h => ?_)
  have h : qW D _ _ [(h0, .inr (12, [.int 0, .ref q_5296, .ref q_5297, .ref q_5298, .ref q_5299, .int 0, .int 0, .int 0, .int 0, .int 0, .int 0, .int 0, .int 0, .int 0, .int (-1), .int 0, .ref q_5300, .null, .null, .null, .null, .int 0, .int 0, .null, .null, .null, .int 0, .int 0, .null, .null, .null, .null, .null, .int 0, .null, .null, .null])), (q_5296, .inl (cy 1, 3918, .inl (fun _ => 0))), (q_5297, .inl (cy 3, 2, .inl (fun _ => 0))), (q_5298, .inl (cy 1, 900, .inl (fun _ => 0))), (q_5299, .inl (cy 1, 1306, .inl (fun _ => 0))), (q_5300, .inl (cy 1, 900, .inl (fun _ => 0)))] _ _ := h
  refine lv_aload_n hx hb dX12_init_52 rfl (lv_at hl 0 rfl) ?_
  refine lv_bipush (v := 11) hx hb dX12_init_53 (by decide) ?_
  refine q_newi X hK hA h wm_1_67 11 (by decide) (by decide +kernel) (by decide) (Nat.le_of_ble_eq_true rfl) (Nat.le_of_ble_eq_true rfl) dX12_init_55 (fun q_5301 H h => ?_)
  have h : qW D _ _ [(h0, .inr (12, [.int 0, .ref q_5296, .ref q_5297, .ref q_5298, .ref q_5299, .int 0, .int 0, .int 0, .int 0, .int 0, .int 0, .int 0, .int 0, .int 0, .int (-1), .int 0, .ref q_5300, .null, .null, .null, .null, .int 0, .int 0, .null, .null, .null, .int 0, .int 0, .null, .null, .null, .null, .null, .int 0, .null, .null, .null])), (q_5296, .inl (cy 1, 3918, .inl (fun _ => 0))), (q_5297, .inl (cy 3, 2, .inl (fun _ => 0))), (q_5298, .inl (cy 1, 900, .inl (fun _ => 0))), (q_5299, .inl (cy 1, 1306, .inl (fun _ => 0))), (q_5300, .inl (cy 1, 900, .inl (fun _ => 0))), (q_5301, .inl (cy 1, 11, .inl (fun _ => 0)))] _ _ := h
  refine q_putF (v := .ref q_5301) X hK h 0 rfl rfl wf_12 tyX12 tyX12_ok nmX12 17 (by decide) wm_5_187 rfl hnm rfl rfl rfl (Nat.le_of_ble_eq_true rfl) dX12_init_57 (fun H locs h => ?_)
  have h : qW D _ _ [(h0, .inr (12, [.int 0, .ref q_5296, .ref q_5297, .ref q_5298, .ref q_5299, .int 0, .int 0, .int 0, .int 0, .int 0, .int 0, .int 0, .int 0, .int 0, .int (-1), .int 0, .ref q_5300, .ref q_5301, .null, .null, .null, .int 0, .int 0, .null, .null, .null, .int 0, .int 0, .null, .null, .null, .null, .null, .int 0, .null, .null, .null])), (q_5296, .inl (cy 1, 3918, .inl (fun _ => 0))), (q_5297, .inl (cy 3, 2, .inl (fun _ => 0))), (q_5298, .inl (cy 1, 900, .inl (fun _ => 0))), (q_5299, .inl (cy 1, 1306, .inl (fun _ => 0))), (q_5300, .inl (cy 1, 900, .inl (fun _ => 0))), (q_5301, .inl (cy 1, 11, .inl (fun _ => 0)))] _ _ := h
  refine lv_aload_n hx hb dX12_init_60 rfl (lv_at hl 0 rfl) ?_
  refine lv_iconst (v := 3) hx hb dX12_init_61 (by decide) ?_
  refine q_newi X hK hA h wm_1_67 3 (by decide) (by decide +kernel) (by decide) (Nat.le_of_ble_eq_true rfl) (Nat.le_of_ble_eq_true rfl) dX12_init_62 (fun q_5302 H h => ?_)
  have h : qW D _ _ [(h0, .inr (12, [.int 0, .ref q_5296, .ref q_5297, .ref q_5298, .ref q_5299, .int 0, .int 0, .int 0, .int 0, .int 0, .int 0, .int 0, .int 0, .int 0, .int (-1), .int 0, .ref q_5300, .ref q_5301, .null, .null, .null, .int 0, .int 0, .null, .null, .null, .int 0, .int 0, .null, .null, .null, .null, .null, .int 0, .null, .null, .null])), (q_5296, .inl (cy 1, 3918, .inl (fun _ => 0))), (q_5297, .inl (cy 3, 2, .inl (fun _ => 0))), (q_5298, .inl (cy 1, 900, .inl (fun _ => 0))), (q_5299, .inl (cy 1, 1306, .inl (fun _ => 0))), (q_5300, .inl (cy 1, 900, .inl (fun _ => 0))), (q_5301, .inl (cy 1, 11, .inl (fun _ => 0))), (q_5302, .inl (cy 1, 3, .inl (fun _ => 0)))] _ _ := h
  refine q_putF (v := .ref q_5302) X hK h 0 rfl rfl wf_12 tyX12 tyX12_ok nmX12 18 (by decide) wm_5_188 rfl hnm rfl rfl rfl (Nat.le_of_ble_eq_true rfl) dX12_init_64 (fun H locs h => ?_)
  have h : qW D _ _ [(h0, .inr (12, [.int 0, .ref q_5296, .ref q_5297, .ref q_5298, .ref q_5299, .int 0, .int 0, .int 0, .int 0, .int 0, .int 0, .int 0, .int 0, .int 0, .int (-1), .int 0, .ref q_5300, .ref q_5301, .ref q_5302, .null, .null, .int 0, .int 0, .null, .null, .null, .int 0, .int 0, .null, .null, .null, .null, .null, .int 0, .null, .null, .null])), (q_5296, .inl (cy 1, 3918, .inl (fun _ => 0))), (q_5297, .inl (cy 3, 2, .inl (fun _ => 0))), (q_5298, .inl (cy 1, 900, .inl (fun _ => 0))), (q_5299, .inl (cy 1, 1306, .inl (fun _ => 0))), (q_5300, .inl (cy 1, 900, .inl (fun _ => 0))), (q_5301, .inl (cy 1, 11, .inl (fun _ => 0))), (q_5302, .inl (cy 1, 3, .inl (fun _ => 0)))] _ _ := h
  refine lv_aload_n hx hb dX12_init_67 rfl (lv_at hl 0 rfl) ?_
  refine lv_bipush (v := 10) hx hb dX12_init_68 (by decide) ?_
  refine q_newi X hK hA h wm_1_67 10 (by decide) (by decide +kernel) (by decide) (Nat.le_of_ble_eq_true rfl) (Nat.le_of_ble_eq_true rfl) dX12_init_70 (fun q_5303 H h => ?_)
  have h : qW D _ _ [(h0, .inr (12, [.int 0, .ref q_5296, .ref q_5297, .ref q_5298, .ref q_5299, .int 0, .int 0, .int 0, .int 0, .int 0, .int 0, .int 0, .int 0, .int 0, .int (-1), .int 0, .ref q_5300, .ref q_5301, .ref q_5302, .null, .null, .int 0, .int 0, .null, .null, .null, .int 0, .int 0, .null, .null, .null, .null, .null, .int 0, .null, .null, .null])), (q_5296, .inl (cy 1, 3918, .inl (fun _ => 0))), (q_5297, .inl (cy 3, 2, .inl (fun _ => 0))), (q_5298, .inl (cy 1, 900, .inl (fun _ => 0))), (q_5299, .inl (cy 1, 1306, .inl (fun _ => 0))), (q_5300, .inl (cy 1, 900, .inl (fun _ => 0))), (q_5301, .inl (cy 1, 11, .inl (fun _ => 0))), (q_5302, .inl (cy 1, 3, .inl (fun _ => 0))), (q_5303, .inl (cy 1, 10, .inl (fun _ => 0)))] _ _ := h
  refine q_putF (v := .ref q_5303) X hK h 0 rfl rfl wf_12 tyX12 tyX12_ok nmX12 19 (by decide) wm_5_189 rfl hnm rfl rfl rfl (Nat.le_of_ble_eq_true rfl) dX12_init_72 (fun H locs h => ?_)
  have h : qW D _ _ [(h0, .inr (12, [.int 0, .ref q_5296, .ref q_5297, .ref q_5298, .ref q_5299, .int 0, .int 0, .int 0, .int 0, .int 0, .int 0, .int 0, .int 0, .int 0, .int (-1), .int 0, .ref q_5300, .ref q_5301, .ref q_5302, .ref q_5303, .null, .int 0, .int 0, .null, .null, .null, .int 0, .int 0, .null, .null, .null, .null, .null, .int 0, .null, .null, .null])), (q_5296, .inl (cy 1, 3918, .inl (fun _ => 0))), (q_5297, .inl (cy 3, 2, .inl (fun _ => 0))), (q_5298, .inl (cy 1, 900, .inl (fun _ => 0))), (q_5299, .inl (cy 1, 1306, .inl (fun _ => 0))), (q_5300, .inl (cy 1, 900, .inl (fun _ => 0))), (q_5301, .inl (cy 1, 11, .inl (fun _ => 0))), (q_5302, .inl (cy 1, 3, .inl (fun _ => 0))), (q_5303, .inl (cy 1, 10, .inl (fun _ => 0)))] _ _ := h
  refine lv_aload_n hx hb dX12_init_75 rfl (lv_at hl 0 rfl) ?_
  refine lv_bipush (v := 32) hx hb dX12_init_76 (by decide) ?_
  refine q_newi X hK hA h wm_1_67 32 (by decide) (by decide +kernel) (by decide) (Nat.le_of_ble_eq_true rfl) (Nat.le_of_ble_eq_true rfl) dX12_init_78 (fun q_5304 H h => ?_)
  have h : qW D _ _ [(h0, .inr (12, [.int 0, .ref q_5296, .ref q_5297, .ref q_5298, .ref q_5299, .int 0, .int 0, .int 0, .int 0, .int 0, .int 0, .int 0, .int 0, .int 0, .int (-1), .int 0, .ref q_5300, .ref q_5301, .ref q_5302, .ref q_5303, .null, .int 0, .int 0, .null, .null, .null, .int 0, .int 0, .null, .null, .null, .null, .null, .int 0, .null, .null, .null])), (q_5296, .inl (cy 1, 3918, .inl (fun _ => 0))), (q_5297, .inl (cy 3, 2, .inl (fun _ => 0))), (q_5298, .inl (cy 1, 900, .inl (fun _ => 0))), (q_5299, .inl (cy 1, 1306, .inl (fun _ => 0))), (q_5300, .inl (cy 1, 900, .inl (fun _ => 0))), (q_5301, .inl (cy 1, 11, .inl (fun _ => 0))), (q_5302, .inl (cy 1, 3, .inl (fun _ => 0))), (q_5303, .inl (cy 1, 10, .inl (fun _ => 0))), (q_5304, .inl (cy 1, 32, .inl (fun _ => 0)))] _ _ := h
  refine q_putF (v := .ref q_5304) X hK h 0 rfl rfl wf_12 tyX12 tyX12_ok nmX12 20 (by decide) wm_5_190 rfl hnm rfl rfl rfl (Nat.le_of_ble_eq_true rfl) dX12_init_80 (fun H locs h => ?_)
  have h : qW D _ _ [(h0, .inr (12, [.int 0, .ref q_5296, .ref q_5297, .ref q_5298, .ref q_5299, .int 0, .int 0, .int 0, .int 0, .int 0, .int 0, .int 0, .int 0, .int 0, .int (-1), .int 0, .ref q_5300, .ref q_5301, .ref q_5302, .ref q_5303, .ref q_5304, .int 0, .int 0, .null, .null, .null, .int 0, .int 0, .null, .null, .null, .null, .null, .int 0, .null, .null, .null])), (q_5296, .inl (cy 1, 3918, .inl (fun _ => 0))), (q_5297, .inl (cy 3, 2, .inl (fun _ => 0))), (q_5298, .inl (cy 1, 900, .inl (fun _ => 0))), (q_5299, .inl (cy 1, 1306, .inl (fun _ => 0))), (q_5300, .inl (cy 1, 900, .inl (fun _ => 0))), (q_5301, .inl (cy 1, 11, .inl (fun _ => 0))), (q_5302, .inl (cy 1, 3, .inl (fun _ => 0))), (q_5303, .inl (cy 1, 10, .inl (fun _ => 0))), (q_5304, .inl (cy 1, 32, .inl (fun _ => 0)))] _ _ := h
  refine lv_aload_n hx hb dX12_init_83 rfl (lv_at hl 0 rfl) ?_
  refine lv_sipush (v := 1024) hx hb dX12_init_84 (by decide) ?_
  refine q_newi X hK hA h wm_1_67 1024 (by decide) (by decide +kernel) (by decide) (Nat.le_of_ble_eq_true rfl) (Nat.le_of_ble_eq_true rfl) dX12_init_87 (fun q_5305 H h => ?_)
  have h : qW D _ _ [(h0, .inr (12, [.int 0, .ref q_5296, .ref q_5297, .ref q_5298, .ref q_5299, .int 0, .int 0, .int 0, .int 0, .int 0, .int 0, .int 0, .int 0, .int 0, .int (-1), .int 0, .ref q_5300, .ref q_5301, .ref q_5302, .ref q_5303, .ref q_5304, .int 0, .int 0, .null, .null, .null, .int 0, .int 0, .null, .null, .null, .null, .null, .int 0, .null, .null, .null])), (q_5296, .inl (cy 1, 3918, .inl (fun _ => 0))), (q_5297, .inl (cy 3, 2, .inl (fun _ => 0))), (q_5298, .inl (cy 1, 900, .inl (fun _ => 0))), (q_5299, .inl (cy 1, 1306, .inl (fun _ => 0))), (q_5300, .inl (cy 1, 900, .inl (fun _ => 0))), (q_5301, .inl (cy 1, 11, .inl (fun _ => 0))), (q_5302, .inl (cy 1, 3, .inl (fun _ => 0))), (q_5303, .inl (cy 1, 10, .inl (fun _ => 0))), (q_5304, .inl (cy 1, 32, .inl (fun _ => 0))), (q_5305, .inl (cy 1, 1024, .inl (fun _ => 0)))] _ _ := h
  refine q_putF (v := .ref q_5305) X hK h 0 rfl rfl wf_12 tyX12 tyX12_ok nmX12 23 (by decide) wm_5_193 rfl hnm rfl rfl rfl (Nat.le_of_ble_eq_true rfl) dX12_init_89 (fun H locs h => ?_)
  have h : qW D _ _ [(h0, .inr (12, [.int 0, .ref q_5296, .ref q_5297, .ref q_5298, .ref q_5299, .int 0, .int 0, .int 0, .int 0, .int 0, .int 0, .int 0, .int 0, .int 0, .int (-1), .int 0, .ref q_5300, .ref q_5301, .ref q_5302, .ref q_5303, .ref q_5304, .int 0, .int 0, .ref q_5305, .null, .null, .int 0, .int 0, .null, .null, .null, .null, .null, .int 0, .null, .null, .null])), (q_5296, .inl (cy 1, 3918, .inl (fun _ => 0))), (q_5297, .inl (cy 3, 2, .inl (fun _ => 0))), (q_5298, .inl (cy 1, 900, .inl (fun _ => 0))), (q_5299, .inl (cy 1, 1306, .inl (fun _ => 0))), (q_5300, .inl (cy 1, 900, .inl (fun _ => 0))), (q_5301, .inl (cy 1, 11, .inl (fun _ => 0))), (q_5302, .inl (cy 1, 3, .inl (fun _ => 0))), (q_5303, .inl (cy 1, 10, .inl (fun _ => 0))), (q_5304, .inl (cy 1, 32, .inl (fun _ => 0))), (q_5305, .inl (cy 1, 1024, .inl (fun _ => 0)))] _ _ := h
  refine lv_aload_n hx hb dX12_init_92 rfl (lv_at hl 0 rfl) ?_
  refine lv_bipush (v := 10) hx hb dX12_init_93 (by decide) ?_
  refine q_newi X hK hA h wm_1_67 10 (by decide) (by decide +kernel) (by decide) (Nat.le_of_ble_eq_true rfl) (Nat.le_of_ble_eq_true rfl) dX12_init_95 (fun q_5306 H h => ?_)
  have h : qW D _ _ [(h0, .inr (12, [.int 0, .ref q_5296, .ref q_5297, .ref q_5298, .ref q_5299, .int 0, .int 0, .int 0, .int 0, .int 0, .int 0, .int 0, .int 0, .int 0, .int (-1), .int 0, .ref q_5300, .ref q_5301, .ref q_5302, .ref q_5303, .ref q_5304, .int 0, .int 0, .ref q_5305, .null, .null, .int 0, .int 0, .null, .null, .null, .null, .null, .int 0, .null, .null, .null])), (q_5296, .inl (cy 1, 3918, .inl (fun _ => 0))), (q_5297, .inl (cy 3, 2, .inl (fun _ => 0))), (q_5298, .inl (cy 1, 900, .inl (fun _ => 0))), (q_5299, .inl (cy 1, 1306, .inl (fun _ => 0))), (q_5300, .inl (cy 1, 900, .inl (fun _ => 0))), (q_5301, .inl (cy 1, 11, .inl (fun _ => 0))), (q_5302, .inl (cy 1, 3, .inl (fun _ => 0))), (q_5303, .inl (cy 1, 10, .inl (fun _ => 0))), (q_5304, .inl (cy 1, 32, .inl (fun _ => 0))), (q_5305, .inl (cy 1, 1024, .inl (fun _ => 0))), (q_5306, .inl (cy 1, 10, .inl (fun _ => 0)))] _ _ := h
  refine q_putF (v := .ref q_5306) X hK h 0 rfl rfl wf_12 tyX12 tyX12_ok nmX12 24 (by decide) wm_5_194 rfl hnm rfl rfl rfl (Nat.le_of_ble_eq_true rfl) dX12_init_97 (fun H locs h => ?_)
  have h : qW D _ _ [(h0, .inr (12, [.int 0, .ref q_5296, .ref q_5297, .ref q_5298, .ref q_5299, .int 0, .int 0, .int 0, .int 0, .int 0, .int 0, .int 0, .int 0, .int 0, .int (-1), .int 0, .ref q_5300, .ref q_5301, .ref q_5302, .ref q_5303, .ref q_5304, .int 0, .int 0, .ref q_5305, .ref q_5306, .null, .int 0, .int 0, .null, .null, .null, .null, .null, .int 0, .null, .null, .null])), (q_5296, .inl (cy 1, 3918, .inl (fun _ => 0))), (q_5297, .inl (cy 3, 2, .inl (fun _ => 0))), (q_5298, .inl (cy 1, 900, .inl (fun _ => 0))), (q_5299, .inl (cy 1, 1306, .inl (fun _ => 0))), (q_5300, .inl (cy 1, 900, .inl (fun _ => 0))), (q_5301, .inl (cy 1, 11, .inl (fun _ => 0))), (q_5302, .inl (cy 1, 3, .inl (fun _ => 0))), (q_5303, .inl (cy 1, 10, .inl (fun _ => 0))), (q_5304, .inl (cy 1, 32, .inl (fun _ => 0))), (q_5305, .inl (cy 1, 1024, .inl (fun _ => 0))), (q_5306, .inl (cy 1, 10, .inl (fun _ => 0)))] _ _ := h
  refine lv_aload_n hx hb dX12_init_100 rfl (lv_at hl 0 rfl) ?_
  refine lv_bipush (v := 10) hx hb dX12_init_101 (by decide) ?_
  refine q_newi X hK hA h wm_1_67 10 (by decide) (by decide +kernel) (by decide) (Nat.le_of_ble_eq_true rfl) (Nat.le_of_ble_eq_true rfl) dX12_init_103 (fun q_5307 H h => ?_)
  have h : qW D _ _ [(h0, .inr (12, [.int 0, .ref q_5296, .ref q_5297, .ref q_5298, .ref q_5299, .int 0, .int 0, .int 0, .int 0, .int 0, .int 0, .int 0, .int 0, .int 0, .int (-1), .int 0, .ref q_5300, .ref q_5301, .ref q_5302, .ref q_5303, .ref q_5304, .int 0, .int 0, .ref q_5305, .ref q_5306, .null, .int 0, .int 0, .null, .null, .null, .null, .null, .int 0, .null, .null, .null])), (q_5296, .inl (cy 1, 3918, .inl (fun _ => 0))), (q_5297, .inl (cy 3, 2, .inl (fun _ => 0))), (q_5298, .inl (cy 1, 900, .inl (fun _ => 0))), (q_5299, .inl (cy 1, 1306, .inl (fun _ => 0))), (q_5300, .inl (cy 1, 900, .inl (fun _ => 0))), (q_5301, .inl (cy 1, 11, .inl (fun _ => 0))), (q_5302, .inl (cy 1, 3, .inl (fun _ => 0))), (q_5303, .inl (cy 1, 10, .inl (fun _ => 0))), (q_5304, .inl (cy 1, 32, .inl (fun _ => 0))), (q_5305, .inl (cy 1, 1024, .inl (fun _ => 0))), (q_5306, .inl (cy 1, 10, .inl (fun _ => 0))), (q_5307, .inl (cy 1, 10, .inl (fun _ => 0)))] _ _ := h
  refine q_putF (v := .ref q_5307) X hK h 0 rfl rfl wf_12 tyX12 tyX12_ok nmX12 25 (by decide) wm_5_195 rfl hnm rfl rfl rfl (Nat.le_of_ble_eq_true rfl) dX12_init_105 (fun H locs h => ?_)
  have h : qW D _ _ [(h0, .inr (12, [.int 0, .ref q_5296, .ref q_5297, .ref q_5298, .ref q_5299, .int 0, .int 0, .int 0, .int 0, .int 0, .int 0, .int 0, .int 0, .int 0, .int (-1), .int 0, .ref q_5300, .ref q_5301, .ref q_5302, .ref q_5303, .ref q_5304, .int 0, .int 0, .ref q_5305, .ref q_5306, .ref q_5307, .int 0, .int 0, .null, .null, .null, .null, .null, .int 0, .null, .null, .null])), (q_5296, .inl (cy 1, 3918, .inl (fun _ => 0))), (q_5297, .inl (cy 3, 2, .inl (fun _ => 0))), (q_5298, .inl (cy 1, 900, .inl (fun _ => 0))), (q_5299, .inl (cy 1, 1306, .inl (fun _ => 0))), (q_5300, .inl (cy 1, 900, .inl (fun _ => 0))), (q_5301, .inl (cy 1, 11, .inl (fun _ => 0))), (q_5302, .inl (cy 1, 3, .inl (fun _ => 0))), (q_5303, .inl (cy 1, 10, .inl (fun _ => 0))), (q_5304, .inl (cy 1, 32, .inl (fun _ => 0))), (q_5305, .inl (cy 1, 1024, .inl (fun _ => 0))), (q_5306, .inl (cy 1, 10, .inl (fun _ => 0))), (q_5307, .inl (cy 1, 10, .inl (fun _ => 0)))] _ _ := h
  refine lv_aload_n hx hb dX12_init_108 rfl (lv_at hl 0 rfl) ?_
  refine lv_sipush (v := 1000) hx hb dX12_init_109 (by decide) ?_
  refine q_newi X hK hA h wm_1_67 1000 (by decide) (by decide +kernel) (by decide) (Nat.le_of_ble_eq_true rfl) (Nat.le_of_ble_eq_true rfl) dX12_init_112 (fun q_5308 H h => ?_)
  have h : qW D _ _ [(h0, .inr (12, [.int 0, .ref q_5296, .ref q_5297, .ref q_5298, .ref q_5299, .int 0, .int 0, .int 0, .int 0, .int 0, .int 0, .int 0, .int 0, .int 0, .int (-1), .int 0, .ref q_5300, .ref q_5301, .ref q_5302, .ref q_5303, .ref q_5304, .int 0, .int 0, .ref q_5305, .ref q_5306, .ref q_5307, .int 0, .int 0, .null, .null, .null, .null, .null, .int 0, .null, .null, .null])), (q_5296, .inl (cy 1, 3918, .inl (fun _ => 0))), (q_5297, .inl (cy 3, 2, .inl (fun _ => 0))), (q_5298, .inl (cy 1, 900, .inl (fun _ => 0))), (q_5299, .inl (cy 1, 1306, .inl (fun _ => 0))), (q_5300, .inl (cy 1, 900, .inl (fun _ => 0))), (q_5301, .inl (cy 1, 11, .inl (fun _ => 0))), (q_5302, .inl (cy 1, 3, .inl (fun _ => 0))), (q_5303, .inl (cy 1, 10, .inl (fun _ => 0))), (q_5304, .inl (cy 1, 32, .inl (fun _ => 0))), (q_5305, .inl (cy 1, 1024, .inl (fun _ => 0))), (q_5306, .inl (cy 1, 10, .inl (fun _ => 0))), (q_5307, .inl (cy 1, 10, .inl (fun _ => 0))), (q_5308, .inl (cy 1, 1000, .inl (fun _ => 0)))] _ _ := h
  refine q_putF (v := .ref q_5308) X hK h 0 rfl rfl wf_12 tyX12 tyX12_ok nmX12 28 (by decide) wm_5_198 rfl hnm rfl rfl rfl (Nat.le_of_ble_eq_true rfl) dX12_init_114 (fun H locs h => ?_)
  have h : qW D _ _ [(h0, .inr (12, [.int 0, .ref q_5296, .ref q_5297, .ref q_5298, .ref q_5299, .int 0, .int 0, .int 0, .int 0, .int 0, .int 0, .int 0, .int 0, .int 0, .int (-1), .int 0, .ref q_5300, .ref q_5301, .ref q_5302, .ref q_5303, .ref q_5304, .int 0, .int 0, .ref q_5305, .ref q_5306, .ref q_5307, .int 0, .int 0, .ref q_5308, .null, .null, .null, .null, .int 0, .null, .null, .null])), (q_5296, .inl (cy 1, 3918, .inl (fun _ => 0))), (q_5297, .inl (cy 3, 2, .inl (fun _ => 0))), (q_5298, .inl (cy 1, 900, .inl (fun _ => 0))), (q_5299, .inl (cy 1, 1306, .inl (fun _ => 0))), (q_5300, .inl (cy 1, 900, .inl (fun _ => 0))), (q_5301, .inl (cy 1, 11, .inl (fun _ => 0))), (q_5302, .inl (cy 1, 3, .inl (fun _ => 0))), (q_5303, .inl (cy 1, 10, .inl (fun _ => 0))), (q_5304, .inl (cy 1, 32, .inl (fun _ => 0))), (q_5305, .inl (cy 1, 1024, .inl (fun _ => 0))), (q_5306, .inl (cy 1, 10, .inl (fun _ => 0))), (q_5307, .inl (cy 1, 10, .inl (fun _ => 0))), (q_5308, .inl (cy 1, 1000, .inl (fun _ => 0)))] _ _ := h
  refine lv_aload_n hx hb dX12_init_117 rfl (lv_at hl 0 rfl) ?_
  refine lv_sipush (v := 1000) hx hb dX12_init_118 (by decide) ?_
  refine q_newi X hK hA h wm_1_67 1000 (by decide) (by decide +kernel) (by decide) (Nat.le_of_ble_eq_true rfl) (Nat.le_of_ble_eq_true rfl) dX12_init_121 (fun q_5309 H h => ?_)
  have h : qW D _ _ [(h0, .inr (12, [.int 0, .ref q_5296, .ref q_5297, .ref q_5298, .ref q_5299, .int 0, .int 0, .int 0, .int 0, .int 0, .int 0, .int 0, .int 0, .int 0, .int (-1), .int 0, .ref q_5300, .ref q_5301, .ref q_5302, .ref q_5303, .ref q_5304, .int 0, .int 0, .ref q_5305, .ref q_5306, .ref q_5307, .int 0, .int 0, .ref q_5308, .null, .null, .null, .null, .int 0, .null, .null, .null])), (q_5296, .inl (cy 1, 3918, .inl (fun _ => 0))), (q_5297, .inl (cy 3, 2, .inl (fun _ => 0))), (q_5298, .inl (cy 1, 900, .inl (fun _ => 0))), (q_5299, .inl (cy 1, 1306, .inl (fun _ => 0))), (q_5300, .inl (cy 1, 900, .inl (fun _ => 0))), (q_5301, .inl (cy 1, 11, .inl (fun _ => 0))), (q_5302, .inl (cy 1, 3, .inl (fun _ => 0))), (q_5303, .inl (cy 1, 10, .inl (fun _ => 0))), (q_5304, .inl (cy 1, 32, .inl (fun _ => 0))), (q_5305, .inl (cy 1, 1024, .inl (fun _ => 0))), (q_5306, .inl (cy 1, 10, .inl (fun _ => 0))), (q_5307, .inl (cy 1, 10, .inl (fun _ => 0))), (q_5308, .inl (cy 1, 1000, .inl (fun _ => 0))), (q_5309, .inl (cy 1, 1000, .inl (fun _ => 0)))] _ _ := h
  refine q_putF (v := .ref q_5309) X hK h 0 rfl rfl wf_12 tyX12 tyX12_ok nmX12 29 (by decide) wm_5_199 rfl hnm rfl rfl rfl (Nat.le_of_ble_eq_true rfl) dX12_init_123 (fun H locs h => ?_)
  have h : qW D _ _ [(h0, .inr (12, [.int 0, .ref q_5296, .ref q_5297, .ref q_5298, .ref q_5299, .int 0, .int 0, .int 0, .int 0, .int 0, .int 0, .int 0, .int 0, .int 0, .int (-1), .int 0, .ref q_5300, .ref q_5301, .ref q_5302, .ref q_5303, .ref q_5304, .int 0, .int 0, .ref q_5305, .ref q_5306, .ref q_5307, .int 0, .int 0, .ref q_5308, .ref q_5309, .null, .null, .null, .int 0, .null, .null, .null])), (q_5296, .inl (cy 1, 3918, .inl (fun _ => 0))), (q_5297, .inl (cy 3, 2, .inl (fun _ => 0))), (q_5298, .inl (cy 1, 900, .inl (fun _ => 0))), (q_5299, .inl (cy 1, 1306, .inl (fun _ => 0))), (q_5300, .inl (cy 1, 900, .inl (fun _ => 0))), (q_5301, .inl (cy 1, 11, .inl (fun _ => 0))), (q_5302, .inl (cy 1, 3, .inl (fun _ => 0))), (q_5303, .inl (cy 1, 10, .inl (fun _ => 0))), (q_5304, .inl (cy 1, 32, .inl (fun _ => 0))), (q_5305, .inl (cy 1, 1024, .inl (fun _ => 0))), (q_5306, .inl (cy 1, 10, .inl (fun _ => 0))), (q_5307, .inl (cy 1, 10, .inl (fun _ => 0))), (q_5308, .inl (cy 1, 1000, .inl (fun _ => 0))), (q_5309, .inl (cy 1, 1000, .inl (fun _ => 0)))] _ _ := h
  refine lv_aload_n hx hb dX12_init_126 rfl (lv_at hl 0 rfl) ?_
  refine lv_sipush (v := 1000) hx hb dX12_init_127 (by decide) ?_
  refine q_newi X hK hA h wm_1_67 1000 (by decide) (by decide +kernel) (by decide) (Nat.le_of_ble_eq_true rfl) (Nat.le_of_ble_eq_true rfl) dX12_init_130 (fun q_5310 H h => ?_)
  have h : qW D _ _ [(h0, .inr (12, [.int 0, .ref q_5296, .ref q_5297, .ref q_5298, .ref q_5299, .int 0, .int 0, .int 0, .int 0, .int 0, .int 0, .int 0, .int 0, .int 0, .int (-1), .int 0, .ref q_5300, .ref q_5301, .ref q_5302, .ref q_5303, .ref q_5304, .int 0, .int 0, .ref q_5305, .ref q_5306, .ref q_5307, .int 0, .int 0, .ref q_5308, .ref q_5309, .null, .null, .null, .int 0, .null, .null, .null])), (q_5296, .inl (cy 1, 3918, .inl (fun _ => 0))), (q_5297, .inl (cy 3, 2, .inl (fun _ => 0))), (q_5298, .inl (cy 1, 900, .inl (fun _ => 0))), (q_5299, .inl (cy 1, 1306, .inl (fun _ => 0))), (q_5300, .inl (cy 1, 900, .inl (fun _ => 0))), (q_5301, .inl (cy 1, 11, .inl (fun _ => 0))), (q_5302, .inl (cy 1, 3, .inl (fun _ => 0))), (q_5303, .inl (cy 1, 10, .inl (fun _ => 0))), (q_5304, .inl (cy 1, 32, .inl (fun _ => 0))), (q_5305, .inl (cy 1, 1024, .inl (fun _ => 0))), (q_5306, .inl (cy 1, 10, .inl (fun _ => 0))), (q_5307, .inl (cy 1, 10, .inl (fun _ => 0))), (q_5308, .inl (cy 1, 1000, .inl (fun _ => 0))), (q_5309, .inl (cy 1, 1000, .inl (fun _ => 0))), (q_5310, .inl (cy 1, 1000, .inl (fun _ => 0)))] _ _ := h
  refine q_putF (v := .ref q_5310) X hK h 0 rfl rfl wf_12 tyX12 tyX12_ok nmX12 30 (by decide) wm_5_200 rfl hnm rfl rfl rfl (Nat.le_of_ble_eq_true rfl) dX12_init_132 (fun H locs h => ?_)
  have h : qW D _ _ [(h0, .inr (12, [.int 0, .ref q_5296, .ref q_5297, .ref q_5298, .ref q_5299, .int 0, .int 0, .int 0, .int 0, .int 0, .int 0, .int 0, .int 0, .int 0, .int (-1), .int 0, .ref q_5300, .ref q_5301, .ref q_5302, .ref q_5303, .ref q_5304, .int 0, .int 0, .ref q_5305, .ref q_5306, .ref q_5307, .int 0, .int 0, .ref q_5308, .ref q_5309, .ref q_5310, .null, .null, .int 0, .null, .null, .null])), (q_5296, .inl (cy 1, 3918, .inl (fun _ => 0))), (q_5297, .inl (cy 3, 2, .inl (fun _ => 0))), (q_5298, .inl (cy 1, 900, .inl (fun _ => 0))), (q_5299, .inl (cy 1, 1306, .inl (fun _ => 0))), (q_5300, .inl (cy 1, 900, .inl (fun _ => 0))), (q_5301, .inl (cy 1, 11, .inl (fun _ => 0))), (q_5302, .inl (cy 1, 3, .inl (fun _ => 0))), (q_5303, .inl (cy 1, 10, .inl (fun _ => 0))), (q_5304, .inl (cy 1, 32, .inl (fun _ => 0))), (q_5305, .inl (cy 1, 1024, .inl (fun _ => 0))), (q_5306, .inl (cy 1, 10, .inl (fun _ => 0))), (q_5307, .inl (cy 1, 10, .inl (fun _ => 0))), (q_5308, .inl (cy 1, 1000, .inl (fun _ => 0))), (q_5309, .inl (cy 1, 1000, .inl (fun _ => 0))), (q_5310, .inl (cy 1, 1000, .inl (fun _ => 0)))] _ _ := h
  refine lv_aload_n hx hb dX12_init_135 rfl (lv_at hl 0 rfl) ?_
  refine lv_sipush (v := 1000) hx hb dX12_init_136 (by decide) ?_
  refine q_newi X hK hA h wm_1_67 1000 (by decide) (by decide +kernel) (by decide) (Nat.le_of_ble_eq_true rfl) (Nat.le_of_ble_eq_true rfl) dX12_init_139 (fun q_5311 H h => ?_)
  have h : qW D _ _ [(h0, .inr (12, [.int 0, .ref q_5296, .ref q_5297, .ref q_5298, .ref q_5299, .int 0, .int 0, .int 0, .int 0, .int 0, .int 0, .int 0, .int 0, .int 0, .int (-1), .int 0, .ref q_5300, .ref q_5301, .ref q_5302, .ref q_5303, .ref q_5304, .int 0, .int 0, .ref q_5305, .ref q_5306, .ref q_5307, .int 0, .int 0, .ref q_5308, .ref q_5309, .ref q_5310, .null, .null, .int 0, .null, .null, .null])), (q_5296, .inl (cy 1, 3918, .inl (fun _ => 0))), (q_5297, .inl (cy 3, 2, .inl (fun _ => 0))), (q_5298, .inl (cy 1, 900, .inl (fun _ => 0))), (q_5299, .inl (cy 1, 1306, .inl (fun _ => 0))), (q_5300, .inl (cy 1, 900, .inl (fun _ => 0))), (q_5301, .inl (cy 1, 11, .inl (fun _ => 0))), (q_5302, .inl (cy 1, 3, .inl (fun _ => 0))), (q_5303, .inl (cy 1, 10, .inl (fun _ => 0))), (q_5304, .inl (cy 1, 32, .inl (fun _ => 0))), (q_5305, .inl (cy 1, 1024, .inl (fun _ => 0))), (q_5306, .inl (cy 1, 10, .inl (fun _ => 0))), (q_5307, .inl (cy 1, 10, .inl (fun _ => 0))), (q_5308, .inl (cy 1, 1000, .inl (fun _ => 0))), (q_5309, .inl (cy 1, 1000, .inl (fun _ => 0))), (q_5310, .inl (cy 1, 1000, .inl (fun _ => 0))), (q_5311, .inl (cy 1, 1000, .inl (fun _ => 0)))] _ _ := h
  refine q_putF (v := .ref q_5311) X hK h 0 rfl rfl wf_12 tyX12 tyX12_ok nmX12 31 (by decide) wm_5_201 rfl hnm rfl rfl rfl (Nat.le_of_ble_eq_true rfl) dX12_init_141 (fun H locs h => ?_)
  have h : qW D _ _ [(h0, .inr (12, [.int 0, .ref q_5296, .ref q_5297, .ref q_5298, .ref q_5299, .int 0, .int 0, .int 0, .int 0, .int 0, .int 0, .int 0, .int 0, .int 0, .int (-1), .int 0, .ref q_5300, .ref q_5301, .ref q_5302, .ref q_5303, .ref q_5304, .int 0, .int 0, .ref q_5305, .ref q_5306, .ref q_5307, .int 0, .int 0, .ref q_5308, .ref q_5309, .ref q_5310, .ref q_5311, .null, .int 0, .null, .null, .null])), (q_5296, .inl (cy 1, 3918, .inl (fun _ => 0))), (q_5297, .inl (cy 3, 2, .inl (fun _ => 0))), (q_5298, .inl (cy 1, 900, .inl (fun _ => 0))), (q_5299, .inl (cy 1, 1306, .inl (fun _ => 0))), (q_5300, .inl (cy 1, 900, .inl (fun _ => 0))), (q_5301, .inl (cy 1, 11, .inl (fun _ => 0))), (q_5302, .inl (cy 1, 3, .inl (fun _ => 0))), (q_5303, .inl (cy 1, 10, .inl (fun _ => 0))), (q_5304, .inl (cy 1, 32, .inl (fun _ => 0))), (q_5305, .inl (cy 1, 1024, .inl (fun _ => 0))), (q_5306, .inl (cy 1, 10, .inl (fun _ => 0))), (q_5307, .inl (cy 1, 10, .inl (fun _ => 0))), (q_5308, .inl (cy 1, 1000, .inl (fun _ => 0))), (q_5309, .inl (cy 1, 1000, .inl (fun _ => 0))), (q_5310, .inl (cy 1, 1000, .inl (fun _ => 0))), (q_5311, .inl (cy 1, 1000, .inl (fun _ => 0)))] _ _ := h
  refine lv_aload_n hx hb dX12_init_144 rfl (lv_at hl 0 rfl) ?_
  refine lv_sipush (v := 1000) hx hb dX12_init_145 (by decide) ?_
  refine q_newz X hK hA h wm_1_191 1000 (by decide) (by decide +kernel) (by decide) (Nat.le_of_ble_eq_true rfl) (Nat.le_of_ble_eq_true rfl) dX12_init_148 (fun q_5312 H h => ?_)
  have h : qW D _ _ [(h0, .inr (12, [.int 0, .ref q_5296, .ref q_5297, .ref q_5298, .ref q_5299, .int 0, .int 0, .int 0, .int 0, .int 0, .int 0, .int 0, .int 0, .int 0, .int (-1), .int 0, .ref q_5300, .ref q_5301, .ref q_5302, .ref q_5303, .ref q_5304, .int 0, .int 0, .ref q_5305, .ref q_5306, .ref q_5307, .int 0, .int 0, .ref q_5308, .ref q_5309, .ref q_5310, .ref q_5311, .null, .int 0, .null, .null, .null])), (q_5296, .inl (cy 1, 3918, .inl (fun _ => 0))), (q_5297, .inl (cy 3, 2, .inl (fun _ => 0))), (q_5298, .inl (cy 1, 900, .inl (fun _ => 0))), (q_5299, .inl (cy 1, 1306, .inl (fun _ => 0))), (q_5300, .inl (cy 1, 900, .inl (fun _ => 0))), (q_5301, .inl (cy 1, 11, .inl (fun _ => 0))), (q_5302, .inl (cy 1, 3, .inl (fun _ => 0))), (q_5303, .inl (cy 1, 10, .inl (fun _ => 0))), (q_5304, .inl (cy 1, 32, .inl (fun _ => 0))), (q_5305, .inl (cy 1, 1024, .inl (fun _ => 0))), (q_5306, .inl (cy 1, 10, .inl (fun _ => 0))), (q_5307, .inl (cy 1, 10, .inl (fun _ => 0))), (q_5308, .inl (cy 1, 1000, .inl (fun _ => 0))), (q_5309, .inl (cy 1, 1000, .inl (fun _ => 0))), (q_5310, .inl (cy 1, 1000, .inl (fun _ => 0))), (q_5311, .inl (cy 1, 1000, .inl (fun _ => 0))), (q_5312, .inl (cy 3, 1000, .inl (fun _ => 0)))] _ _ := h
  refine q_putF (v := .ref q_5312) X hK h 0 rfl rfl wf_12 tyX12 tyX12_ok nmX12 32 (by decide) wm_5_202 rfl hnm rfl rfl rfl (Nat.le_of_ble_eq_true rfl) dX12_init_150 (fun H locs h => ?_)
  have h : qW D _ _ [(h0, .inr (12, [.int 0, .ref q_5296, .ref q_5297, .ref q_5298, .ref q_5299, .int 0, .int 0, .int 0, .int 0, .int 0, .int 0, .int 0, .int 0, .int 0, .int (-1), .int 0, .ref q_5300, .ref q_5301, .ref q_5302, .ref q_5303, .ref q_5304, .int 0, .int 0, .ref q_5305, .ref q_5306, .ref q_5307, .int 0, .int 0, .ref q_5308, .ref q_5309, .ref q_5310, .ref q_5311, .ref q_5312, .int 0, .null, .null, .null])), (q_5296, .inl (cy 1, 3918, .inl (fun _ => 0))), (q_5297, .inl (cy 3, 2, .inl (fun _ => 0))), (q_5298, .inl (cy 1, 900, .inl (fun _ => 0))), (q_5299, .inl (cy 1, 1306, .inl (fun _ => 0))), (q_5300, .inl (cy 1, 900, .inl (fun _ => 0))), (q_5301, .inl (cy 1, 11, .inl (fun _ => 0))), (q_5302, .inl (cy 1, 3, .inl (fun _ => 0))), (q_5303, .inl (cy 1, 10, .inl (fun _ => 0))), (q_5304, .inl (cy 1, 32, .inl (fun _ => 0))), (q_5305, .inl (cy 1, 1024, .inl (fun _ => 0))), (q_5306, .inl (cy 1, 10, .inl (fun _ => 0))), (q_5307, .inl (cy 1, 10, .inl (fun _ => 0))), (q_5308, .inl (cy 1, 1000, .inl (fun _ => 0))), (q_5309, .inl (cy 1, 1000, .inl (fun _ => 0))), (q_5310, .inl (cy 1, 1000, .inl (fun _ => 0))), (q_5311, .inl (cy 1, 1000, .inl (fun _ => 0))), (q_5312, .inl (cy 3, 1000, .inl (fun _ => 0)))] _ _ := h
  refine lv_aload_n hx hb dX12_init_153 rfl (lv_at hl 0 rfl) ?_
  refine lv_iconst (v := 4) hx hb dX12_init_154 (by decide) ?_
  refine q_newi X hK hA h wm_1_67 4 (by decide) (by decide +kernel) (by decide) (Nat.le_of_ble_eq_true rfl) (Nat.le_of_ble_eq_true rfl) dX12_init_155 (fun q_5313 H h => ?_)
  have h : qW D _ _ [(h0, .inr (12, [.int 0, .ref q_5296, .ref q_5297, .ref q_5298, .ref q_5299, .int 0, .int 0, .int 0, .int 0, .int 0, .int 0, .int 0, .int 0, .int 0, .int (-1), .int 0, .ref q_5300, .ref q_5301, .ref q_5302, .ref q_5303, .ref q_5304, .int 0, .int 0, .ref q_5305, .ref q_5306, .ref q_5307, .int 0, .int 0, .ref q_5308, .ref q_5309, .ref q_5310, .ref q_5311, .ref q_5312, .int 0, .null, .null, .null])), (q_5296, .inl (cy 1, 3918, .inl (fun _ => 0))), (q_5297, .inl (cy 3, 2, .inl (fun _ => 0))), (q_5298, .inl (cy 1, 900, .inl (fun _ => 0))), (q_5299, .inl (cy 1, 1306, .inl (fun _ => 0))), (q_5300, .inl (cy 1, 900, .inl (fun _ => 0))), (q_5301, .inl (cy 1, 11, .inl (fun _ => 0))), (q_5302, .inl (cy 1, 3, .inl (fun _ => 0))), (q_5303, .inl (cy 1, 10, .inl (fun _ => 0))), (q_5304, .inl (cy 1, 32, .inl (fun _ => 0))), (q_5305, .inl (cy 1, 1024, .inl (fun _ => 0))), (q_5306, .inl (cy 1, 10, .inl (fun _ => 0))), (q_5307, .inl (cy 1, 10, .inl (fun _ => 0))), (q_5308, .inl (cy 1, 1000, .inl (fun _ => 0))), (q_5309, .inl (cy 1, 1000, .inl (fun _ => 0))), (q_5310, .inl (cy 1, 1000, .inl (fun _ => 0))), (q_5311, .inl (cy 1, 1000, .inl (fun _ => 0))), (q_5312, .inl (cy 3, 1000, .inl (fun _ => 0))), (q_5313, .inl (cy 1, 4, .inl (fun _ => 0)))] _ _ := h
  refine lv_dup hx hb dX12_init_157 rfl ?_
  refine lv_iconst (v := 0) hx hb dX12_init_158 (by decide) ?_
  refine lv_iconst (v := (-1)) hx hb dX12_init_159 (by decide) ?_
  refine q_iast X hK h 18 rfl (q_in (by decide +kernel)) dX12_init_160 (fun H locs h => ?_)
  have h : qW D _ _ [(h0, .inr (12, [.int 0, .ref q_5296, .ref q_5297, .ref q_5298, .ref q_5299, .int 0, .int 0, .int 0, .int 0, .int 0, .int 0, .int 0, .int 0, .int 0, .int (-1), .int 0, .ref q_5300, .ref q_5301, .ref q_5302, .ref q_5303, .ref q_5304, .int 0, .int 0, .ref q_5305, .ref q_5306, .ref q_5307, .int 0, .int 0, .ref q_5308, .ref q_5309, .ref q_5310, .ref q_5311, .ref q_5312, .int 0, .null, .null, .null])), (q_5296, .inl (cy 1, 3918, .inl (fun _ => 0))), (q_5297, .inl (cy 3, 2, .inl (fun _ => 0))), (q_5298, .inl (cy 1, 900, .inl (fun _ => 0))), (q_5299, .inl (cy 1, 1306, .inl (fun _ => 0))), (q_5300, .inl (cy 1, 900, .inl (fun _ => 0))), (q_5301, .inl (cy 1, 11, .inl (fun _ => 0))), (q_5302, .inl (cy 1, 3, .inl (fun _ => 0))), (q_5303, .inl (cy 1, 10, .inl (fun _ => 0))), (q_5304, .inl (cy 1, 32, .inl (fun _ => 0))), (q_5305, .inl (cy 1, 1024, .inl (fun _ => 0))), (q_5306, .inl (cy 1, 10, .inl (fun _ => 0))), (q_5307, .inl (cy 1, 10, .inl (fun _ => 0))), (q_5308, .inl (cy 1, 1000, .inl (fun _ => 0))), (q_5309, .inl (cy 1, 1000, .inl (fun _ => 0))), (q_5310, .inl (cy 1, 1000, .inl (fun _ => 0))), (q_5311, .inl (cy 1, 1000, .inl (fun _ => 0))), (q_5312, .inl (cy 3, 1000, .inl (fun _ => 0))), (q_5313, .inl (cy 1, 4, .inl (upd (fun _ => 0) (Int32.toNatClampNeg 0) (-1))))] _ _ := h
  refine lv_dup hx hb dX12_init_161 rfl ?_
  refine lv_iconst (v := 1) hx hb dX12_init_162 (by decide) ?_
  refine lv_iconst (v := (-1)) hx hb dX12_init_163 (by decide) ?_
  refine q_iast X hK h 18 rfl (q_in (by decide +kernel)) dX12_init_164 (fun H locs h => ?_)
  have h : qW D _ _ [(h0, .inr (12, [.int 0, .ref q_5296, .ref q_5297, .ref q_5298, .ref q_5299, .int 0, .int 0, .int 0, .int 0, .int 0, .int 0, .int 0, .int 0, .int 0, .int (-1), .int 0, .ref q_5300, .ref q_5301, .ref q_5302, .ref q_5303, .ref q_5304, .int 0, .int 0, .ref q_5305, .ref q_5306, .ref q_5307, .int 0, .int 0, .ref q_5308, .ref q_5309, .ref q_5310, .ref q_5311, .ref q_5312, .int 0, .null, .null, .null])), (q_5296, .inl (cy 1, 3918, .inl (fun _ => 0))), (q_5297, .inl (cy 3, 2, .inl (fun _ => 0))), (q_5298, .inl (cy 1, 900, .inl (fun _ => 0))), (q_5299, .inl (cy 1, 1306, .inl (fun _ => 0))), (q_5300, .inl (cy 1, 900, .inl (fun _ => 0))), (q_5301, .inl (cy 1, 11, .inl (fun _ => 0))), (q_5302, .inl (cy 1, 3, .inl (fun _ => 0))), (q_5303, .inl (cy 1, 10, .inl (fun _ => 0))), (q_5304, .inl (cy 1, 32, .inl (fun _ => 0))), (q_5305, .inl (cy 1, 1024, .inl (fun _ => 0))), (q_5306, .inl (cy 1, 10, .inl (fun _ => 0))), (q_5307, .inl (cy 1, 10, .inl (fun _ => 0))), (q_5308, .inl (cy 1, 1000, .inl (fun _ => 0))), (q_5309, .inl (cy 1, 1000, .inl (fun _ => 0))), (q_5310, .inl (cy 1, 1000, .inl (fun _ => 0))), (q_5311, .inl (cy 1, 1000, .inl (fun _ => 0))), (q_5312, .inl (cy 3, 1000, .inl (fun _ => 0))), (q_5313, .inl (cy 1, 4, .inl (upd (upd (fun _ => 0) (Int32.toNatClampNeg 0) (-1)) (Int32.toNatClampNeg 1) (-1))))] _ _ := h
  refine lv_dup hx hb dX12_init_165 rfl ?_
  refine lv_iconst (v := 2) hx hb dX12_init_166 (by decide) ?_
  refine lv_iconst (v := (-1)) hx hb dX12_init_167 (by decide) ?_
  refine q_iast X hK h 18 rfl (q_in (by decide +kernel)) dX12_init_168 (fun H locs h => ?_)
  have h : qW D _ _ [(h0, .inr (12, [.int 0, .ref q_5296, .ref q_5297, .ref q_5298, .ref q_5299, .int 0, .int 0, .int 0, .int 0, .int 0, .int 0, .int 0, .int 0, .int 0, .int (-1), .int 0, .ref q_5300, .ref q_5301, .ref q_5302, .ref q_5303, .ref q_5304, .int 0, .int 0, .ref q_5305, .ref q_5306, .ref q_5307, .int 0, .int 0, .ref q_5308, .ref q_5309, .ref q_5310, .ref q_5311, .ref q_5312, .int 0, .null, .null, .null])), (q_5296, .inl (cy 1, 3918, .inl (fun _ => 0))), (q_5297, .inl (cy 3, 2, .inl (fun _ => 0))), (q_5298, .inl (cy 1, 900, .inl (fun _ => 0))), (q_5299, .inl (cy 1, 1306, .inl (fun _ => 0))), (q_5300, .inl (cy 1, 900, .inl (fun _ => 0))), (q_5301, .inl (cy 1, 11, .inl (fun _ => 0))), (q_5302, .inl (cy 1, 3, .inl (fun _ => 0))), (q_5303, .inl (cy 1, 10, .inl (fun _ => 0))), (q_5304, .inl (cy 1, 32, .inl (fun _ => 0))), (q_5305, .inl (cy 1, 1024, .inl (fun _ => 0))), (q_5306, .inl (cy 1, 10, .inl (fun _ => 0))), (q_5307, .inl (cy 1, 10, .inl (fun _ => 0))), (q_5308, .inl (cy 1, 1000, .inl (fun _ => 0))), (q_5309, .inl (cy 1, 1000, .inl (fun _ => 0))), (q_5310, .inl (cy 1, 1000, .inl (fun _ => 0))), (q_5311, .inl (cy 1, 1000, .inl (fun _ => 0))), (q_5312, .inl (cy 3, 1000, .inl (fun _ => 0))), (q_5313, .inl (cy 1, 4, .inl (upd (upd (upd (fun _ => 0) (Int32.toNatClampNeg 0) (-1)) (Int32.toNatClampNeg 1) (-1)) (Int32.toNatClampNeg 2) (-1))))] _ _ := h
  refine lv_dup hx hb dX12_init_169 rfl ?_
  refine lv_iconst (v := 3) hx hb dX12_init_170 (by decide) ?_
  refine lv_iconst (v := (-1)) hx hb dX12_init_171 (by decide) ?_
  refine q_iast X hK h 18 rfl (q_in (by decide +kernel)) dX12_init_172 (fun H locs h => ?_)
  have h : qW D _ _ [(h0, .inr (12, [.int 0, .ref q_5296, .ref q_5297, .ref q_5298, .ref q_5299, .int 0, .int 0, .int 0, .int 0, .int 0, .int 0, .int 0, .int 0, .int 0, .int (-1), .int 0, .ref q_5300, .ref q_5301, .ref q_5302, .ref q_5303, .ref q_5304, .int 0, .int 0, .ref q_5305, .ref q_5306, .ref q_5307, .int 0, .int 0, .ref q_5308, .ref q_5309, .ref q_5310, .ref q_5311, .ref q_5312, .int 0, .null, .null, .null])), (q_5296, .inl (cy 1, 3918, .inl (fun _ => 0))), (q_5297, .inl (cy 3, 2, .inl (fun _ => 0))), (q_5298, .inl (cy 1, 900, .inl (fun _ => 0))), (q_5299, .inl (cy 1, 1306, .inl (fun _ => 0))), (q_5300, .inl (cy 1, 900, .inl (fun _ => 0))), (q_5301, .inl (cy 1, 11, .inl (fun _ => 0))), (q_5302, .inl (cy 1, 3, .inl (fun _ => 0))), (q_5303, .inl (cy 1, 10, .inl (fun _ => 0))), (q_5304, .inl (cy 1, 32, .inl (fun _ => 0))), (q_5305, .inl (cy 1, 1024, .inl (fun _ => 0))), (q_5306, .inl (cy 1, 10, .inl (fun _ => 0))), (q_5307, .inl (cy 1, 10, .inl (fun _ => 0))), (q_5308, .inl (cy 1, 1000, .inl (fun _ => 0))), (q_5309, .inl (cy 1, 1000, .inl (fun _ => 0))), (q_5310, .inl (cy 1, 1000, .inl (fun _ => 0))), (q_5311, .inl (cy 1, 1000, .inl (fun _ => 0))), (q_5312, .inl (cy 3, 1000, .inl (fun _ => 0))), (q_5313, .inl (cy 1, 4, .inl (upd (upd (upd (upd (fun _ => 0) (Int32.toNatClampNeg 0) (-1)) (Int32.toNatClampNeg 1) (-1)) (Int32.toNatClampNeg 2) (-1)) (Int32.toNatClampNeg 3) (-1))))] _ _ := h
  refine q_putF (v := .ref q_5313) X hK h 0 rfl rfl wf_12 tyX12 tyX12_ok nmX12 34 (by decide) wm_5_204 rfl hnm rfl rfl rfl (Nat.le_of_ble_eq_true rfl) dX12_init_173 (fun H locs h => ?_)
  have h : qW D _ _ [(h0, .inr (12, [.int 0, .ref q_5296, .ref q_5297, .ref q_5298, .ref q_5299, .int 0, .int 0, .int 0, .int 0, .int 0, .int 0, .int 0, .int 0, .int 0, .int (-1), .int 0, .ref q_5300, .ref q_5301, .ref q_5302, .ref q_5303, .ref q_5304, .int 0, .int 0, .ref q_5305, .ref q_5306, .ref q_5307, .int 0, .int 0, .ref q_5308, .ref q_5309, .ref q_5310, .ref q_5311, .ref q_5312, .int 0, .ref q_5313, .null, .null])), (q_5296, .inl (cy 1, 3918, .inl (fun _ => 0))), (q_5297, .inl (cy 3, 2, .inl (fun _ => 0))), (q_5298, .inl (cy 1, 900, .inl (fun _ => 0))), (q_5299, .inl (cy 1, 1306, .inl (fun _ => 0))), (q_5300, .inl (cy 1, 900, .inl (fun _ => 0))), (q_5301, .inl (cy 1, 11, .inl (fun _ => 0))), (q_5302, .inl (cy 1, 3, .inl (fun _ => 0))), (q_5303, .inl (cy 1, 10, .inl (fun _ => 0))), (q_5304, .inl (cy 1, 32, .inl (fun _ => 0))), (q_5305, .inl (cy 1, 1024, .inl (fun _ => 0))), (q_5306, .inl (cy 1, 10, .inl (fun _ => 0))), (q_5307, .inl (cy 1, 10, .inl (fun _ => 0))), (q_5308, .inl (cy 1, 1000, .inl (fun _ => 0))), (q_5309, .inl (cy 1, 1000, .inl (fun _ => 0))), (q_5310, .inl (cy 1, 1000, .inl (fun _ => 0))), (q_5311, .inl (cy 1, 1000, .inl (fun _ => 0))), (q_5312, .inl (cy 3, 1000, .inl (fun _ => 0))), (q_5313, .inl (cy 1, 4, .inl (upd (upd (upd (upd (fun _ => 0) (Int32.toNatClampNeg 0) (-1)) (Int32.toNatClampNeg 1) (-1)) (Int32.toNatClampNeg 2) (-1)) (Int32.toNatClampNeg 3) (-1))))] _ _ := h
  refine lv_aload_n hx hb dX12_init_176 rfl (lv_at hl 0 rfl) ?_
  refine lv_iconst (v := 4) hx hb dX12_init_177 (by decide) ?_
  refine q_newi X hK hA h wm_1_67 4 (by decide) (by decide +kernel) (by decide) (Nat.le_of_ble_eq_true rfl) (Nat.le_of_ble_eq_true rfl) dX12_init_178 (fun q_5314 H h => ?_)
  have h : qW D _ _ [(h0, .inr (12, [.int 0, .ref q_5296, .ref q_5297, .ref q_5298, .ref q_5299, .int 0, .int 0, .int 0, .int 0, .int 0, .int 0, .int 0, .int 0, .int 0, .int (-1), .int 0, .ref q_5300, .ref q_5301, .ref q_5302, .ref q_5303, .ref q_5304, .int 0, .int 0, .ref q_5305, .ref q_5306, .ref q_5307, .int 0, .int 0, .ref q_5308, .ref q_5309, .ref q_5310, .ref q_5311, .ref q_5312, .int 0, .ref q_5313, .null, .null])), (q_5296, .inl (cy 1, 3918, .inl (fun _ => 0))), (q_5297, .inl (cy 3, 2, .inl (fun _ => 0))), (q_5298, .inl (cy 1, 900, .inl (fun _ => 0))), (q_5299, .inl (cy 1, 1306, .inl (fun _ => 0))), (q_5300, .inl (cy 1, 900, .inl (fun _ => 0))), (q_5301, .inl (cy 1, 11, .inl (fun _ => 0))), (q_5302, .inl (cy 1, 3, .inl (fun _ => 0))), (q_5303, .inl (cy 1, 10, .inl (fun _ => 0))), (q_5304, .inl (cy 1, 32, .inl (fun _ => 0))), (q_5305, .inl (cy 1, 1024, .inl (fun _ => 0))), (q_5306, .inl (cy 1, 10, .inl (fun _ => 0))), (q_5307, .inl (cy 1, 10, .inl (fun _ => 0))), (q_5308, .inl (cy 1, 1000, .inl (fun _ => 0))), (q_5309, .inl (cy 1, 1000, .inl (fun _ => 0))), (q_5310, .inl (cy 1, 1000, .inl (fun _ => 0))), (q_5311, .inl (cy 1, 1000, .inl (fun _ => 0))), (q_5312, .inl (cy 3, 1000, .inl (fun _ => 0))), (q_5313, .inl (cy 1, 4, .inl (upd (upd (upd (upd (fun _ => 0) (Int32.toNatClampNeg 0) (-1)) (Int32.toNatClampNeg 1) (-1)) (Int32.toNatClampNeg 2) (-1)) (Int32.toNatClampNeg 3) (-1)))), (q_5314, .inl (cy 1, 4, .inl (fun _ => 0)))] _ _ := h
  refine q_putF (v := .ref q_5314) X hK h 0 rfl rfl wf_12 tyX12 tyX12_ok nmX12 35 (by decide) wm_5_205 rfl hnm rfl rfl rfl (Nat.le_of_ble_eq_true rfl) dX12_init_180 (fun H locs h => ?_)
  have h : qW D _ _ [(h0, .inr (12, [.int 0, .ref q_5296, .ref q_5297, .ref q_5298, .ref q_5299, .int 0, .int 0, .int 0, .int 0, .int 0, .int 0, .int 0, .int 0, .int 0, .int (-1), .int 0, .ref q_5300, .ref q_5301, .ref q_5302, .ref q_5303, .ref q_5304, .int 0, .int 0, .ref q_5305, .ref q_5306, .ref q_5307, .int 0, .int 0, .ref q_5308, .ref q_5309, .ref q_5310, .ref q_5311, .ref q_5312, .int 0, .ref q_5313, .ref q_5314, .null])), (q_5296, .inl (cy 1, 3918, .inl (fun _ => 0))), (q_5297, .inl (cy 3, 2, .inl (fun _ => 0))), (q_5298, .inl (cy 1, 900, .inl (fun _ => 0))), (q_5299, .inl (cy 1, 1306, .inl (fun _ => 0))), (q_5300, .inl (cy 1, 900, .inl (fun _ => 0))), (q_5301, .inl (cy 1, 11, .inl (fun _ => 0))), (q_5302, .inl (cy 1, 3, .inl (fun _ => 0))), (q_5303, .inl (cy 1, 10, .inl (fun _ => 0))), (q_5304, .inl (cy 1, 32, .inl (fun _ => 0))), (q_5305, .inl (cy 1, 1024, .inl (fun _ => 0))), (q_5306, .inl (cy 1, 10, .inl (fun _ => 0))), (q_5307, .inl (cy 1, 10, .inl (fun _ => 0))), (q_5308, .inl (cy 1, 1000, .inl (fun _ => 0))), (q_5309, .inl (cy 1, 1000, .inl (fun _ => 0))), (q_5310, .inl (cy 1, 1000, .inl (fun _ => 0))), (q_5311, .inl (cy 1, 1000, .inl (fun _ => 0))), (q_5312, .inl (cy 3, 1000, .inl (fun _ => 0))), (q_5313, .inl (cy 1, 4, .inl (upd (upd (upd (upd (fun _ => 0) (Int32.toNatClampNeg 0) (-1)) (Int32.toNatClampNeg 1) (-1)) (Int32.toNatClampNeg 2) (-1)) (Int32.toNatClampNeg 3) (-1)))), (q_5314, .inl (cy 1, 4, .inl (fun _ => 0)))] _ _ := h
  refine lv_aload_n hx hb dX12_init_183 rfl (lv_at hl 0 rfl) ?_
  refine lv_sipush (v := 160) hx hb dX12_init_184 (by decide) ?_
  refine q_newj X hK hA h wm_2_97 160 (by decide) (by decide +kernel) (by decide) (Nat.le_of_ble_eq_true rfl) (Nat.le_of_ble_eq_true rfl) dX12_init_187 (fun q_5315 H h => ?_)
  have h : qW D _ _ [(h0, .inr (12, [.int 0, .ref q_5296, .ref q_5297, .ref q_5298, .ref q_5299, .int 0, .int 0, .int 0, .int 0, .int 0, .int 0, .int 0, .int 0, .int 0, .int (-1), .int 0, .ref q_5300, .ref q_5301, .ref q_5302, .ref q_5303, .ref q_5304, .int 0, .int 0, .ref q_5305, .ref q_5306, .ref q_5307, .int 0, .int 0, .ref q_5308, .ref q_5309, .ref q_5310, .ref q_5311, .ref q_5312, .int 0, .ref q_5313, .ref q_5314, .null])), (q_5296, .inl (cy 1, 3918, .inl (fun _ => 0))), (q_5297, .inl (cy 3, 2, .inl (fun _ => 0))), (q_5298, .inl (cy 1, 900, .inl (fun _ => 0))), (q_5299, .inl (cy 1, 1306, .inl (fun _ => 0))), (q_5300, .inl (cy 1, 900, .inl (fun _ => 0))), (q_5301, .inl (cy 1, 11, .inl (fun _ => 0))), (q_5302, .inl (cy 1, 3, .inl (fun _ => 0))), (q_5303, .inl (cy 1, 10, .inl (fun _ => 0))), (q_5304, .inl (cy 1, 32, .inl (fun _ => 0))), (q_5305, .inl (cy 1, 1024, .inl (fun _ => 0))), (q_5306, .inl (cy 1, 10, .inl (fun _ => 0))), (q_5307, .inl (cy 1, 10, .inl (fun _ => 0))), (q_5308, .inl (cy 1, 1000, .inl (fun _ => 0))), (q_5309, .inl (cy 1, 1000, .inl (fun _ => 0))), (q_5310, .inl (cy 1, 1000, .inl (fun _ => 0))), (q_5311, .inl (cy 1, 1000, .inl (fun _ => 0))), (q_5312, .inl (cy 3, 1000, .inl (fun _ => 0))), (q_5313, .inl (cy 1, 4, .inl (upd (upd (upd (upd (fun _ => 0) (Int32.toNatClampNeg 0) (-1)) (Int32.toNatClampNeg 1) (-1)) (Int32.toNatClampNeg 2) (-1)) (Int32.toNatClampNeg 3) (-1)))), (q_5314, .inl (cy 1, 4, .inl (fun _ => 0))), (q_5315, .inl (cy 2, 160, .inr (.inl (fun _ => 0))))] _ _ := h
  refine q_putF (v := .ref q_5315) X hK h 0 rfl rfl wf_12 tyX12 tyX12_ok nmX12 36 (by decide) wm_5_206 rfl hnm rfl rfl rfl (Nat.le_of_ble_eq_true rfl) dX12_init_189 (fun H locs h => ?_)
  have h : qW D _ _ [(h0, .inr (12, [.int 0, .ref q_5296, .ref q_5297, .ref q_5298, .ref q_5299, .int 0, .int 0, .int 0, .int 0, .int 0, .int 0, .int 0, .int 0, .int 0, .int (-1), .int 0, .ref q_5300, .ref q_5301, .ref q_5302, .ref q_5303, .ref q_5304, .int 0, .int 0, .ref q_5305, .ref q_5306, .ref q_5307, .int 0, .int 0, .ref q_5308, .ref q_5309, .ref q_5310, .ref q_5311, .ref q_5312, .int 0, .ref q_5313, .ref q_5314, .ref q_5315])), (q_5296, .inl (cy 1, 3918, .inl (fun _ => 0))), (q_5297, .inl (cy 3, 2, .inl (fun _ => 0))), (q_5298, .inl (cy 1, 900, .inl (fun _ => 0))), (q_5299, .inl (cy 1, 1306, .inl (fun _ => 0))), (q_5300, .inl (cy 1, 900, .inl (fun _ => 0))), (q_5301, .inl (cy 1, 11, .inl (fun _ => 0))), (q_5302, .inl (cy 1, 3, .inl (fun _ => 0))), (q_5303, .inl (cy 1, 10, .inl (fun _ => 0))), (q_5304, .inl (cy 1, 32, .inl (fun _ => 0))), (q_5305, .inl (cy 1, 1024, .inl (fun _ => 0))), (q_5306, .inl (cy 1, 10, .inl (fun _ => 0))), (q_5307, .inl (cy 1, 10, .inl (fun _ => 0))), (q_5308, .inl (cy 1, 1000, .inl (fun _ => 0))), (q_5309, .inl (cy 1, 1000, .inl (fun _ => 0))), (q_5310, .inl (cy 1, 1000, .inl (fun _ => 0))), (q_5311, .inl (cy 1, 1000, .inl (fun _ => 0))), (q_5312, .inl (cy 3, 1000, .inl (fun _ => 0))), (q_5313, .inl (cy 1, 4, .inl (upd (upd (upd (upd (fun _ => 0) (Int32.toNatClampNeg 0) (-1)) (Int32.toNatClampNeg 1) (-1)) (Int32.toNatClampNeg 2) (-1)) (Int32.toNatClampNeg 3) (-1)))), (q_5314, .inl (cy 1, 4, .inl (fun _ => 0))), (q_5315, .inl (cy 2, 160, .inr (.inl (fun _ => 0))))] _ _ := h
  refine lv_aload_n hx hb dX12_init_192 rfl (lv_at hl 0 rfl) ?_
  refine q_get X hK h 0 rfl rfl wf_12 1 (by decide) rfl wm_5_171 dX12_init_193 ?_
  refine q_callSv (rest := []) (wr := [(h0, .inr (12, [.int 0, .ref q_5296, .ref q_5297, .ref q_5298, .ref q_5299, .int 0, .int 0, .int 0, .int 0, .int 0, .int 0, .int 0, .int 0, .int 0, .int (-1), .int 0, .ref q_5300, .ref q_5301, .ref q_5302, .ref q_5303, .ref q_5304, .int 0, .int 0, .ref q_5305, .ref q_5306, .ref q_5307, .int 0, .int 0, .ref q_5308, .ref q_5309, .ref q_5310, .ref q_5311, .ref q_5312, .int 0, .ref q_5313, .ref q_5314, .ref q_5315])), (q_5297, .inl (cy 3, 2, .inl (fun _ => 0))), (q_5298, .inl (cy 1, 900, .inl (fun _ => 0))), (q_5299, .inl (cy 1, 1306, .inl (fun _ => 0))), (q_5300, .inl (cy 1, 900, .inl (fun _ => 0))), (q_5301, .inl (cy 1, 11, .inl (fun _ => 0))), (q_5302, .inl (cy 1, 3, .inl (fun _ => 0))), (q_5303, .inl (cy 1, 10, .inl (fun _ => 0))), (q_5304, .inl (cy 1, 32, .inl (fun _ => 0))), (q_5305, .inl (cy 1, 1024, .inl (fun _ => 0))), (q_5306, .inl (cy 1, 10, .inl (fun _ => 0))), (q_5307, .inl (cy 1, 10, .inl (fun _ => 0))), (q_5308, .inl (cy 1, 1000, .inl (fun _ => 0))), (q_5309, .inl (cy 1, 1000, .inl (fun _ => 0))), (q_5310, .inl (cy 1, 1000, .inl (fun _ => 0))), (q_5311, .inl (cy 1, 1000, .inl (fun _ => 0))), (q_5312, .inl (cy 3, 1000, .inl (fun _ => 0))), (q_5313, .inl (cy 1, 4, .inl (upd (upd (upd (upd (fun _ => 0) (Int32.toNatClampNeg 0) (-1)) (Int32.toNatClampNeg 1) (-1)) (Int32.toNatClampNeg 2) (-1)) (Int32.toNatClampNeg 3) (-1)))), (q_5314, .inl (cy 1, 4, .inl (fun _ => 0))), (q_5315, .inl (cy 2, 160, .inr (.inl (fun _ => 0))))]) X hK hA h (fun sz => kX12_plain_404 l D cy q_5296  sz) wm_5_167 wm_5_169 wm_1_12 hd_X12_plain wm_5_168 ⟨Nat.le_of_ble_eq_true rfl, Nat.le_of_ble_eq_true rfl⟩ hl.1 rfl (Nat.le_of_ble_eq_true rfl) dX12_init_196 ⟨Nat.le_of_ble_eq_true rfl, Nat.le_of_ble_eq_true rfl⟩ [1] [0, 2, 3, 4, 5, 6, 7, 8, 9, 10, 11, 12, 13, 14, 15, 16, 17, 18, 19, 20] rfl rfl (by decide) rfl rfl (fun u_5319 H locs w_5319 h => ?_)
  have h : qW D _ _ [(h0, .inr (12, [.int 0, .ref q_5296, .ref q_5297, .ref q_5298, .ref q_5299, .int 0, .int 0, .int 0, .int 0, .int 0, .int 0, .int 0, .int 0, .int 0, .int (-1), .int 0, .ref q_5300, .ref q_5301, .ref q_5302, .ref q_5303, .ref q_5304, .int 0, .int 0, .ref q_5305, .ref q_5306, .ref q_5307, .int 0, .int 0, .ref q_5308, .ref q_5309, .ref q_5310, .ref q_5311, .ref q_5312, .int 0, .ref q_5313, .ref q_5314, .ref q_5315])), (q_5297, .inl (cy 3, 2, .inl (fun _ => 0))), (q_5298, .inl (cy 1, 900, .inl (fun _ => 0))), (q_5299, .inl (cy 1, 1306, .inl (fun _ => 0))), (q_5300, .inl (cy 1, 900, .inl (fun _ => 0))), (q_5301, .inl (cy 1, 11, .inl (fun _ => 0))), (q_5302, .inl (cy 1, 3, .inl (fun _ => 0))), (q_5303, .inl (cy 1, 10, .inl (fun _ => 0))), (q_5304, .inl (cy 1, 32, .inl (fun _ => 0))), (q_5305, .inl (cy 1, 1024, .inl (fun _ => 0))), (q_5306, .inl (cy 1, 10, .inl (fun _ => 0))), (q_5307, .inl (cy 1, 10, .inl (fun _ => 0))), (q_5308, .inl (cy 1, 1000, .inl (fun _ => 0))), (q_5309, .inl (cy 1, 1000, .inl (fun _ => 0))), (q_5310, .inl (cy 1, 1000, .inl (fun _ => 0))), (q_5311, .inl (cy 1, 1000, .inl (fun _ => 0))), (q_5312, .inl (cy 3, 1000, .inl (fun _ => 0))), (q_5313, .inl (cy 1, 4, .inl (upd (upd (upd (upd (fun _ => 0) (Int32.toNatClampNeg 0) (-1)) (Int32.toNatClampNeg 1) (-1)) (Int32.toNatClampNeg 2) (-1)) (Int32.toNatClampNeg 3) (-1)))), (q_5314, .inl (cy 1, 4, .inl (fun _ => 0))), (q_5315, .inl (cy 2, 160, .inr (.inl (fun _ => 0)))), (q_5296, .inl (cy 1, 3918, .inl (upd (fun _ => 0) (Int32.toNatClampNeg 1) 1)))] _ _ := h
  exact q_vret X hr hlk hK h (fun k => List.getD [q_5297, q_5298, q_5299, q_5300, q_5301, q_5302, q_5303, q_5304, q_5305, q_5306, q_5307, q_5308, q_5309, q_5310, q_5311, q_5312, q_5313, q_5314, q_5315, q_5296] k 0, fun _ _ => 0, fun _ _ => 0) trivial [0, 1, 2, 3, 4, 5, 6, 7, 8, 9, 10, 11, 12, 13, 14, 15, 16, 17, 18, 19, 20] rfl rfl dX12_init_199 (Nat.le_of_ble_eq_true rfl) (Nat.le_of_ble_eq_true rfl)
set_option maxHeartbeats 4000000 in
set_option maxRecDepth 100000 in
theorem kX12_feed_406 (l : Launch) (D : va_G) (cy : Nat → ClassId) (h0 : Nat) (h1 : Nat) (p0 : Int32) (p1 : Int32) (p2 : Int32) (p3 : Int32) (p4 : Int32) (h2 : Nat) (h3 : Nat) (h4 : Nat) (h5 : Nat) (h6 : Nat) (h7 : Nat) (h8 : Nat) (h9 : Nat) (h10 : Nat) (h11 : Nat) (h12 : Nat) (h13 : Nat) (h14 : Nat) (h15 : Nat) (h16 : Nat) (h17 : Nat) (h18 : Nat) (h19 : Nat) (h20 : Nat) (sz : Nat) : MI l yX12_feed cX12_feed 8 .int { frames := 0, cells := 0, slots := 0, locals := 0 } [.ref h0, .int p0, .int p1, .int p2, .int p3, .int p4] D cy [(h0, .inr (12, [.int 0, .ref h2, .ref h3, .ref h1, .ref h4, .int 0, .int 0, .int 0, .int 0, .int 0, .int 0, .int 0, .int 0, .int 0, .int (-1), .int 0, .ref h5, .ref h6, .ref h7, .ref h8, .ref h9, .int 0, .int 0, .ref h10, .ref h11, .ref h12, .int 0, .int 0, .ref h13, .ref h14, .ref h15, .ref h16, .ref h17, .int 0, .ref h18, .ref h19, .ref h20])), (h1, .inl (cy 1, 900, .inl (fun _ => 0)))] sz (fun r u => r = 20) (fun u => [(h0, .inr (12, [.int 0, .ref h2, .ref h3, .ref h1, .ref h4, .int 20, .int 0, .int 0, .int 0, .int 0, .int 0, .int 0, .int 0, .int 0, .int (-1), .int 0, .ref h5, .ref h6, .ref h7, .ref h8, .ref h9, .int 0, .int 0, .ref h10, .ref h11, .ref h12, .int 0, .int 0, .ref h13, .ref h14, .ref h15, .ref h16, .ref h17, .int 0, .ref h18, .ref h19, .ref h20])), (h1, .inl (cy 1, 900, .inl (u.2.1 0)))]) 0 0 := by
  refine q_ent (own := RX12) (by decide) rfl (Nat.le_of_ble_eq_true rfl) (fun p e s m below meth c ls X hr hlk hnm hK h hA hl => ?_)
  obtain ⟨hx, hb, hml, hown, ht⟩ := id X
  have hl : lv_has ls 8 [(0, .ref h0), (1, .int p0), (2, .int p1), (3, .int p2), (4, .int p3), (5, .int p4)] := hl
  refine lv_aload_n hx hb dX12_feed_0 rfl (lv_at hl 0 rfl) ?_
  refine lv_iconst (v := 0) hx hb dX12_feed_1 (by decide) ?_
  refine q_put (v := .int 0) X hK h 0 rfl rfl wf_12 tyX12 tyX12_ok nmX12 0 (by decide) wm_5_170 rfl rfl rfl (Nat.le_of_ble_eq_true rfl) dX12_feed_2 (fun H locs h => ?_)
  have h : qW D _ _ [(h0, .inr (12, [.int 0, .ref h2, .ref h3, .ref h1, .ref h4, .int 0, .int 0, .int 0, .int 0, .int 0, .int 0, .int 0, .int 0, .int 0, .int (-1), .int 0, .ref h5, .ref h6, .ref h7, .ref h8, .ref h9, .int 0, .int 0, .ref h10, .ref h11, .ref h12, .int 0, .int 0, .ref h13, .ref h14, .ref h15, .ref h16, .ref h17, .int 0, .ref h18, .ref h19, .ref h20])), (h1, .inl (cy 1, 900, .inl (fun _ => 0)))] _ _ := h
  refine lv_aload_n hx hb dX12_feed_5 rfl (lv_at hl 0 rfl) ?_
  refine q_get X hK h 0 rfl rfl wf_12 5 (by decide) rfl wm_5_175 dX12_feed_6 ?_
  refine lv_bipush (v := 20) hx hb dX12_feed_9 (by decide) ?_
  refine lv_iadd hx hb dX12_feed_11 ?_
  refine q_c 20 (by decide +kernel) ?_
  refine lv_sipush (v := 900) hx hb dX12_feed_12 (by decide) ?_
  refine lv_icmp_le (tgt := 21) hx hb dX12_feed_15 (by decide) (fun _ => ?_) (fun c => absurd c (by decide +kernel))
  refine lv_iconst (v := 0) hx hb dX12_feed_21 (by decide) ?_
  refine lv_istore (lv' := [(6, .int 0), (0, .ref h0), (1, .int p0), (2, .int p1), (3, .int p2), (4, .int p3), (5, .int p4)]) hx hb dX12_feed_22 hl (by decide) rfl (fun ls hl => ?_)
  refine lv_iload hx hb dX12_feed_24 (lv_at hl 0 rfl) ?_
  refine lv_bipush (v := 20) hx hb dX12_feed_26 (by decide) ?_
  refine lv_icmp_ge (tgt := 121) hx hb dX12_feed_28 (by decide) (fun c => absurd c (by decide +kernel)) (fun _ => ?_)
  refine lv_iload hx hb dX12_feed_31 (lv_at hl 0 rfl) ?_
  refine lv_iconst (v := 4) hx hb dX12_feed_33 (by decide) ?_
  refine lv_icmp_ge (tgt := 41) hx hb dX12_feed_34 (by decide) (fun c => absurd c (by decide +kernel)) (fun _ => ?_)
  refine lv_iload_n hx hb dX12_feed_37 rfl (lv_at hl 2 rfl) ?_
  refine lv_goto (tgt := 77) hx hb dX12_feed_38 (by decide) ?_
  refine lv_istore (lv' := [(7, .int p0), (6, .int 0), (0, .ref h0), (1, .int p0), (2, .int p1), (3, .int p2), (4, .int p3), (5, .int p4)]) hx hb dX12_feed_77 hl (by decide) rfl (fun ls hl => ?_)
  refine lv_aload_n hx hb dX12_feed_79 rfl (lv_at hl 2 rfl) ?_
  refine q_get X hK h 0 rfl rfl wf_12 3 (by decide) rfl wm_5_173 dX12_feed_80 ?_
  refine lv_aload_n hx hb dX12_feed_83 rfl (lv_at hl 2 rfl) ?_
  refine q_get X hK h 0 rfl rfl wf_12 5 (by decide) rfl wm_5_175 dX12_feed_84 ?_
  refine lv_iload hx hb dX12_feed_87 (lv_at hl 0 rfl) ?_
  refine lv_bipush (v := 24) hx hb dX12_feed_89 (by decide) ?_
  refine lv_bipush (v := 8) hx hb dX12_feed_91 (by decide) ?_
  refine lv_iload hx hb dX12_feed_93 (lv_at hl 1 rfl) ?_
  refine lv_iconst (v := 4) hx hb dX12_feed_95 (by decide) ?_
  refine lv_irem hx hb dX12_feed_96 (by decide) ?_
  refine q_c 0 (by decide +kernel) ?_
  refine lv_imul hx hb dX12_feed_97 ?_
  refine q_c 0 (by decide +kernel) ?_
  refine lv_isub hx hb dX12_feed_98 ?_
  refine q_c 24 (by decide +kernel) ?_
  refine lv_ishr hx hb dX12_feed_99 ?_
  refine lv_sipush (v := 255) hx hb dX12_feed_100 (by decide) ?_
  refine lv_iand hx hb dX12_feed_103 ?_
  refine q_iast X hK h 1 rfl (q_in (by decide +kernel)) dX12_feed_104 (fun H locs h => ?_)
  have h : qW D _ _ [(h0, .inr (12, [.int 0, .ref h2, .ref h3, .ref h1, .ref h4, .int 0, .int 0, .int 0, .int 0, .int 0, .int 0, .int 0, .int 0, .int 0, .int (-1), .int 0, .ref h5, .ref h6, .ref h7, .ref h8, .ref h9, .int 0, .int 0, .ref h10, .ref h11, .ref h12, .int 0, .int 0, .ref h13, .ref h14, .ref h15, .ref h16, .ref h17, .int 0, .ref h18, .ref h19, .ref h20])), (h1, .inl (cy 1, 900, .inl (upd (fun _ => 0) (Int32.toNatClampNeg 0) ((p0 >>> (24 &&& 31)) &&& 255))))] _ _ := h
  generalize (upd (fun _ => 0) (Int32.toNatClampNeg 0) ((p0 >>> (24 &&& 31)) &&& 255)) = f_5360 at h
  refine lv_aload_n hx hb dX12_feed_105 rfl (lv_at hl 2 rfl) ?_
  refine lv_dup hx hb dX12_feed_106 rfl ?_
  refine q_get X hK h 0 rfl rfl wf_12 5 (by decide) rfl wm_5_175 dX12_feed_107 ?_
  refine lv_iconst (v := 1) hx hb dX12_feed_110 (by decide) ?_
  refine lv_iadd hx hb dX12_feed_111 ?_
  refine q_c 1 (by decide +kernel) ?_
  refine q_put (v := .int 1) X hK h 0 rfl rfl wf_12 tyX12 tyX12_ok nmX12 5 (by decide) wm_5_175 rfl rfl rfl (Nat.le_of_ble_eq_true rfl) dX12_feed_112 (fun H locs h => ?_)
  have h : qW D _ _ [(h0, .inr (12, [.int 0, .ref h2, .ref h3, .ref h1, .ref h4, .int 1, .int 0, .int 0, .int 0, .int 0, .int 0, .int 0, .int 0, .int 0, .int (-1), .int 0, .ref h5, .ref h6, .ref h7, .ref h8, .ref h9, .int 0, .int 0, .ref h10, .ref h11, .ref h12, .int 0, .int 0, .ref h13, .ref h14, .ref h15, .ref h16, .ref h17, .int 0, .ref h18, .ref h19, .ref h20])), (h1, .inl (cy 1, 900, .inl f_5360))] _ _ := h
  refine lv_iinc (v := 1) (lv' := [(6, .int 1), (7, .int p0), (0, .ref h0), (1, .int p0), (2, .int p1), (3, .int p2), (4, .int p3), (5, .int p4)]) hx hb dX12_feed_115 hl (k := 1) rfl (by decide +kernel) (by decide) rfl (fun ls hl => ?_)
  refine lv_goto (tgt := 24) hx hb dX12_feed_118 (by decide) ?_
  refine lv_iload hx hb dX12_feed_24 (lv_at hl 0 rfl) ?_
  refine lv_bipush (v := 20) hx hb dX12_feed_26 (by decide) ?_
  refine lv_icmp_ge (tgt := 121) hx hb dX12_feed_28 (by decide) (fun c => absurd c (by decide +kernel)) (fun _ => ?_)
  refine lv_iload hx hb dX12_feed_31 (lv_at hl 0 rfl) ?_
  refine lv_iconst (v := 4) hx hb dX12_feed_33 (by decide) ?_
  refine lv_icmp_ge (tgt := 41) hx hb dX12_feed_34 (by decide) (fun c => absurd c (by decide +kernel)) (fun _ => ?_)
  refine lv_iload_n hx hb dX12_feed_37 rfl (lv_at hl 3 rfl) ?_
  refine lv_goto (tgt := 77) hx hb dX12_feed_38 (by decide) ?_
  refine lv_istore (lv' := [(7, .int p0), (6, .int 1), (0, .ref h0), (1, .int p0), (2, .int p1), (3, .int p2), (4, .int p3), (5, .int p4)]) hx hb dX12_feed_77 hl (by decide) rfl (fun ls hl => ?_)
  refine lv_aload_n hx hb dX12_feed_79 rfl (lv_at hl 2 rfl) ?_
  refine q_get X hK h 0 rfl rfl wf_12 3 (by decide) rfl wm_5_173 dX12_feed_80 ?_
  refine lv_aload_n hx hb dX12_feed_83 rfl (lv_at hl 2 rfl) ?_
  refine q_get X hK h 0 rfl rfl wf_12 5 (by decide) rfl wm_5_175 dX12_feed_84 ?_
  refine lv_iload hx hb dX12_feed_87 (lv_at hl 0 rfl) ?_
  refine lv_bipush (v := 24) hx hb dX12_feed_89 (by decide) ?_
  refine lv_bipush (v := 8) hx hb dX12_feed_91 (by decide) ?_
  refine lv_iload hx hb dX12_feed_93 (lv_at hl 1 rfl) ?_
  refine lv_iconst (v := 4) hx hb dX12_feed_95 (by decide) ?_
  refine lv_irem hx hb dX12_feed_96 (by decide) ?_
  refine q_c 1 (by decide +kernel) ?_
  refine lv_imul hx hb dX12_feed_97 ?_
  refine q_c 8 (by decide +kernel) ?_
  refine lv_isub hx hb dX12_feed_98 ?_
  refine q_c 16 (by decide +kernel) ?_
  refine lv_ishr hx hb dX12_feed_99 ?_
  refine lv_sipush (v := 255) hx hb dX12_feed_100 (by decide) ?_
  refine lv_iand hx hb dX12_feed_103 ?_
  refine q_iast X hK h 1 rfl (q_in (by decide +kernel)) dX12_feed_104 (fun H locs h => ?_)
  have h : qW D _ _ [(h0, .inr (12, [.int 0, .ref h2, .ref h3, .ref h1, .ref h4, .int 1, .int 0, .int 0, .int 0, .int 0, .int 0, .int 0, .int 0, .int 0, .int (-1), .int 0, .ref h5, .ref h6, .ref h7, .ref h8, .ref h9, .int 0, .int 0, .ref h10, .ref h11, .ref h12, .int 0, .int 0, .ref h13, .ref h14, .ref h15, .ref h16, .ref h17, .int 0, .ref h18, .ref h19, .ref h20])), (h1, .inl (cy 1, 900, .inl (upd f_5360 (Int32.toNatClampNeg 1) ((p0 >>> (16 &&& 31)) &&& 255))))] _ _ := h
  generalize (upd f_5360 (Int32.toNatClampNeg 1) ((p0 >>> (16 &&& 31)) &&& 255)) = f_5361 at h
  refine lv_aload_n hx hb dX12_feed_105 rfl (lv_at hl 2 rfl) ?_
  refine lv_dup hx hb dX12_feed_106 rfl ?_
  refine q_get X hK h 0 rfl rfl wf_12 5 (by decide) rfl wm_5_175 dX12_feed_107 ?_
  refine lv_iconst (v := 1) hx hb dX12_feed_110 (by decide) ?_
  refine lv_iadd hx hb dX12_feed_111 ?_
  refine q_c 2 (by decide +kernel) ?_
  refine q_put (v := .int 2) X hK h 0 rfl rfl wf_12 tyX12 tyX12_ok nmX12 5 (by decide) wm_5_175 rfl rfl rfl (Nat.le_of_ble_eq_true rfl) dX12_feed_112 (fun H locs h => ?_)
  have h : qW D _ _ [(h0, .inr (12, [.int 0, .ref h2, .ref h3, .ref h1, .ref h4, .int 2, .int 0, .int 0, .int 0, .int 0, .int 0, .int 0, .int 0, .int 0, .int (-1), .int 0, .ref h5, .ref h6, .ref h7, .ref h8, .ref h9, .int 0, .int 0, .ref h10, .ref h11, .ref h12, .int 0, .int 0, .ref h13, .ref h14, .ref h15, .ref h16, .ref h17, .int 0, .ref h18, .ref h19, .ref h20])), (h1, .inl (cy 1, 900, .inl f_5361))] _ _ := h
  refine lv_iinc (v := 2) (lv' := [(6, .int 2), (7, .int p0), (0, .ref h0), (1, .int p0), (2, .int p1), (3, .int p2), (4, .int p3), (5, .int p4)]) hx hb dX12_feed_115 hl (k := 1) rfl (by decide +kernel) (by decide) rfl (fun ls hl => ?_)
  refine lv_goto (tgt := 24) hx hb dX12_feed_118 (by decide) ?_
  refine lv_iload hx hb dX12_feed_24 (lv_at hl 0 rfl) ?_
  refine lv_bipush (v := 20) hx hb dX12_feed_26 (by decide) ?_
  refine lv_icmp_ge (tgt := 121) hx hb dX12_feed_28 (by decide) (fun c => absurd c (by decide +kernel)) (fun _ => ?_)
  refine lv_iload hx hb dX12_feed_31 (lv_at hl 0 rfl) ?_
  refine lv_iconst (v := 4) hx hb dX12_feed_33 (by decide) ?_
  refine lv_icmp_ge (tgt := 41) hx hb dX12_feed_34 (by decide) (fun c => absurd c (by decide +kernel)) (fun _ => ?_)
  refine lv_iload_n hx hb dX12_feed_37 rfl (lv_at hl 3 rfl) ?_
  refine lv_goto (tgt := 77) hx hb dX12_feed_38 (by decide) ?_
  refine lv_istore (lv' := [(7, .int p0), (6, .int 2), (0, .ref h0), (1, .int p0), (2, .int p1), (3, .int p2), (4, .int p3), (5, .int p4)]) hx hb dX12_feed_77 hl (by decide) rfl (fun ls hl => ?_)
  refine lv_aload_n hx hb dX12_feed_79 rfl (lv_at hl 2 rfl) ?_
  refine q_get X hK h 0 rfl rfl wf_12 3 (by decide) rfl wm_5_173 dX12_feed_80 ?_
  refine lv_aload_n hx hb dX12_feed_83 rfl (lv_at hl 2 rfl) ?_
  refine q_get X hK h 0 rfl rfl wf_12 5 (by decide) rfl wm_5_175 dX12_feed_84 ?_
  refine lv_iload hx hb dX12_feed_87 (lv_at hl 0 rfl) ?_
  refine lv_bipush (v := 24) hx hb dX12_feed_89 (by decide) ?_
  refine lv_bipush (v := 8) hx hb dX12_feed_91 (by decide) ?_
  refine lv_iload hx hb dX12_feed_93 (lv_at hl 1 rfl) ?_
  refine lv_iconst (v := 4) hx hb dX12_feed_95 (by decide) ?_
  refine lv_irem hx hb dX12_feed_96 (by decide) ?_
  refine q_c 2 (by decide +kernel) ?_
  refine lv_imul hx hb dX12_feed_97 ?_
  refine q_c 16 (by decide +kernel) ?_
  refine lv_isub hx hb dX12_feed_98 ?_
  refine q_c 8 (by decide +kernel) ?_
  refine lv_ishr hx hb dX12_feed_99 ?_
  refine lv_sipush (v := 255) hx hb dX12_feed_100 (by decide) ?_
  refine lv_iand hx hb dX12_feed_103 ?_
  refine q_iast X hK h 1 rfl (q_in (by decide +kernel)) dX12_feed_104 (fun H locs h => ?_)
  have h : qW D _ _ [(h0, .inr (12, [.int 0, .ref h2, .ref h3, .ref h1, .ref h4, .int 2, .int 0, .int 0, .int 0, .int 0, .int 0, .int 0, .int 0, .int 0, .int (-1), .int 0, .ref h5, .ref h6, .ref h7, .ref h8, .ref h9, .int 0, .int 0, .ref h10, .ref h11, .ref h12, .int 0, .int 0, .ref h13, .ref h14, .ref h15, .ref h16, .ref h17, .int 0, .ref h18, .ref h19, .ref h20])), (h1, .inl (cy 1, 900, .inl (upd f_5361 (Int32.toNatClampNeg 2) ((p0 >>> (8 &&& 31)) &&& 255))))] _ _ := h
  generalize (upd f_5361 (Int32.toNatClampNeg 2) ((p0 >>> (8 &&& 31)) &&& 255)) = f_5362 at h
  refine lv_aload_n hx hb dX12_feed_105 rfl (lv_at hl 2 rfl) ?_
  refine lv_dup hx hb dX12_feed_106 rfl ?_
  refine q_get X hK h 0 rfl rfl wf_12 5 (by decide) rfl wm_5_175 dX12_feed_107 ?_
  refine lv_iconst (v := 1) hx hb dX12_feed_110 (by decide) ?_
  refine lv_iadd hx hb dX12_feed_111 ?_
  refine q_c 3 (by decide +kernel) ?_
  refine q_put (v := .int 3) X hK h 0 rfl rfl wf_12 tyX12 tyX12_ok nmX12 5 (by decide) wm_5_175 rfl rfl rfl (Nat.le_of_ble_eq_true rfl) dX12_feed_112 (fun H locs h => ?_)
  have h : qW D _ _ [(h0, .inr (12, [.int 0, .ref h2, .ref h3, .ref h1, .ref h4, .int 3, .int 0, .int 0, .int 0, .int 0, .int 0, .int 0, .int 0, .int 0, .int (-1), .int 0, .ref h5, .ref h6, .ref h7, .ref h8, .ref h9, .int 0, .int 0, .ref h10, .ref h11, .ref h12, .int 0, .int 0, .ref h13, .ref h14, .ref h15, .ref h16, .ref h17, .int 0, .ref h18, .ref h19, .ref h20])), (h1, .inl (cy 1, 900, .inl f_5362))] _ _ := h
  refine lv_iinc (v := 3) (lv' := [(6, .int 3), (7, .int p0), (0, .ref h0), (1, .int p0), (2, .int p1), (3, .int p2), (4, .int p3), (5, .int p4)]) hx hb dX12_feed_115 hl (k := 1) rfl (by decide +kernel) (by decide) rfl (fun ls hl => ?_)
  refine lv_goto (tgt := 24) hx hb dX12_feed_118 (by decide) ?_
  refine lv_iload hx hb dX12_feed_24 (lv_at hl 0 rfl) ?_
  refine lv_bipush (v := 20) hx hb dX12_feed_26 (by decide) ?_
  refine lv_icmp_ge (tgt := 121) hx hb dX12_feed_28 (by decide) (fun c => absurd c (by decide +kernel)) (fun _ => ?_)
  refine lv_iload hx hb dX12_feed_31 (lv_at hl 0 rfl) ?_
  refine lv_iconst (v := 4) hx hb dX12_feed_33 (by decide) ?_
  refine lv_icmp_ge (tgt := 41) hx hb dX12_feed_34 (by decide) (fun c => absurd c (by decide +kernel)) (fun _ => ?_)
  refine lv_iload_n hx hb dX12_feed_37 rfl (lv_at hl 3 rfl) ?_
  refine lv_goto (tgt := 77) hx hb dX12_feed_38 (by decide) ?_
  refine lv_istore (lv' := [(7, .int p0), (6, .int 3), (0, .ref h0), (1, .int p0), (2, .int p1), (3, .int p2), (4, .int p3), (5, .int p4)]) hx hb dX12_feed_77 hl (by decide) rfl (fun ls hl => ?_)
  refine lv_aload_n hx hb dX12_feed_79 rfl (lv_at hl 2 rfl) ?_
  refine q_get X hK h 0 rfl rfl wf_12 3 (by decide) rfl wm_5_173 dX12_feed_80 ?_
  refine lv_aload_n hx hb dX12_feed_83 rfl (lv_at hl 2 rfl) ?_
  refine q_get X hK h 0 rfl rfl wf_12 5 (by decide) rfl wm_5_175 dX12_feed_84 ?_
  refine lv_iload hx hb dX12_feed_87 (lv_at hl 0 rfl) ?_
  refine lv_bipush (v := 24) hx hb dX12_feed_89 (by decide) ?_
  refine lv_bipush (v := 8) hx hb dX12_feed_91 (by decide) ?_
  refine lv_iload hx hb dX12_feed_93 (lv_at hl 1 rfl) ?_
  refine lv_iconst (v := 4) hx hb dX12_feed_95 (by decide) ?_
  refine lv_irem hx hb dX12_feed_96 (by decide) ?_
  refine q_c 3 (by decide +kernel) ?_
  refine lv_imul hx hb dX12_feed_97 ?_
  refine q_c 24 (by decide +kernel) ?_
  refine lv_isub hx hb dX12_feed_98 ?_
  refine q_c 0 (by decide +kernel) ?_
  refine lv_ishr hx hb dX12_feed_99 ?_
  refine lv_sipush (v := 255) hx hb dX12_feed_100 (by decide) ?_
  refine lv_iand hx hb dX12_feed_103 ?_
  refine q_iast X hK h 1 rfl (q_in (by decide +kernel)) dX12_feed_104 (fun H locs h => ?_)
  have h : qW D _ _ [(h0, .inr (12, [.int 0, .ref h2, .ref h3, .ref h1, .ref h4, .int 3, .int 0, .int 0, .int 0, .int 0, .int 0, .int 0, .int 0, .int 0, .int (-1), .int 0, .ref h5, .ref h6, .ref h7, .ref h8, .ref h9, .int 0, .int 0, .ref h10, .ref h11, .ref h12, .int 0, .int 0, .ref h13, .ref h14, .ref h15, .ref h16, .ref h17, .int 0, .ref h18, .ref h19, .ref h20])), (h1, .inl (cy 1, 900, .inl (upd f_5362 (Int32.toNatClampNeg 3) ((p0 >>> (0 &&& 31)) &&& 255))))] _ _ := h
  generalize (upd f_5362 (Int32.toNatClampNeg 3) ((p0 >>> (0 &&& 31)) &&& 255)) = f_5363 at h
  refine lv_aload_n hx hb dX12_feed_105 rfl (lv_at hl 2 rfl) ?_
  refine lv_dup hx hb dX12_feed_106 rfl ?_
  refine q_get X hK h 0 rfl rfl wf_12 5 (by decide) rfl wm_5_175 dX12_feed_107 ?_
  refine lv_iconst (v := 1) hx hb dX12_feed_110 (by decide) ?_
  refine lv_iadd hx hb dX12_feed_111 ?_
  refine q_c 4 (by decide +kernel) ?_
  refine q_put (v := .int 4) X hK h 0 rfl rfl wf_12 tyX12 tyX12_ok nmX12 5 (by decide) wm_5_175 rfl rfl rfl (Nat.le_of_ble_eq_true rfl) dX12_feed_112 (fun H locs h => ?_)
  have h : qW D _ _ [(h0, .inr (12, [.int 0, .ref h2, .ref h3, .ref h1, .ref h4, .int 4, .int 0, .int 0, .int 0, .int 0, .int 0, .int 0, .int 0, .int 0, .int (-1), .int 0, .ref h5, .ref h6, .ref h7, .ref h8, .ref h9, .int 0, .int 0, .ref h10, .ref h11, .ref h12, .int 0, .int 0, .ref h13, .ref h14, .ref h15, .ref h16, .ref h17, .int 0, .ref h18, .ref h19, .ref h20])), (h1, .inl (cy 1, 900, .inl f_5363))] _ _ := h
  refine lv_iinc (v := 4) (lv' := [(6, .int 4), (7, .int p0), (0, .ref h0), (1, .int p0), (2, .int p1), (3, .int p2), (4, .int p3), (5, .int p4)]) hx hb dX12_feed_115 hl (k := 1) rfl (by decide +kernel) (by decide) rfl (fun ls hl => ?_)
  refine lv_goto (tgt := 24) hx hb dX12_feed_118 (by decide) ?_
  refine lv_iload hx hb dX12_feed_24 (lv_at hl 0 rfl) ?_
  refine lv_bipush (v := 20) hx hb dX12_feed_26 (by decide) ?_
  refine lv_icmp_ge (tgt := 121) hx hb dX12_feed_28 (by decide) (fun c => absurd c (by decide +kernel)) (fun _ => ?_)
  refine lv_iload hx hb dX12_feed_31 (lv_at hl 0 rfl) ?_
  refine lv_iconst (v := 4) hx hb dX12_feed_33 (by decide) ?_
  refine lv_icmp_ge (tgt := 41) hx hb dX12_feed_34 (by decide) (fun _ => ?_) (fun c => absurd c (by decide +kernel))
  refine lv_iload hx hb dX12_feed_41 (lv_at hl 0 rfl) ?_
  refine lv_bipush (v := 8) hx hb dX12_feed_43 (by decide) ?_
  refine lv_icmp_ge (tgt := 52) hx hb dX12_feed_45 (by decide) (fun c => absurd c (by decide +kernel)) (fun _ => ?_)
  refine lv_iload_n hx hb dX12_feed_48 rfl (lv_at hl 4 rfl) ?_
  refine lv_goto (tgt := 77) hx hb dX12_feed_49 (by decide) ?_
  refine lv_istore (lv' := [(7, .int p1), (6, .int 4), (0, .ref h0), (1, .int p0), (2, .int p1), (3, .int p2), (4, .int p3), (5, .int p4)]) hx hb dX12_feed_77 hl (by decide) rfl (fun ls hl => ?_)
  refine lv_aload_n hx hb dX12_feed_79 rfl (lv_at hl 2 rfl) ?_
  refine q_get X hK h 0 rfl rfl wf_12 3 (by decide) rfl wm_5_173 dX12_feed_80 ?_
  refine lv_aload_n hx hb dX12_feed_83 rfl (lv_at hl 2 rfl) ?_
  refine q_get X hK h 0 rfl rfl wf_12 5 (by decide) rfl wm_5_175 dX12_feed_84 ?_
  refine lv_iload hx hb dX12_feed_87 (lv_at hl 0 rfl) ?_
  refine lv_bipush (v := 24) hx hb dX12_feed_89 (by decide) ?_
  refine lv_bipush (v := 8) hx hb dX12_feed_91 (by decide) ?_
  refine lv_iload hx hb dX12_feed_93 (lv_at hl 1 rfl) ?_
  refine lv_iconst (v := 4) hx hb dX12_feed_95 (by decide) ?_
  refine lv_irem hx hb dX12_feed_96 (by decide) ?_
  refine q_c 0 (by decide +kernel) ?_
  refine lv_imul hx hb dX12_feed_97 ?_
  refine q_c 0 (by decide +kernel) ?_
  refine lv_isub hx hb dX12_feed_98 ?_
  refine q_c 24 (by decide +kernel) ?_
  refine lv_ishr hx hb dX12_feed_99 ?_
  refine lv_sipush (v := 255) hx hb dX12_feed_100 (by decide) ?_
  refine lv_iand hx hb dX12_feed_103 ?_
  refine q_iast X hK h 1 rfl (q_in (by decide +kernel)) dX12_feed_104 (fun H locs h => ?_)
  have h : qW D _ _ [(h0, .inr (12, [.int 0, .ref h2, .ref h3, .ref h1, .ref h4, .int 4, .int 0, .int 0, .int 0, .int 0, .int 0, .int 0, .int 0, .int 0, .int (-1), .int 0, .ref h5, .ref h6, .ref h7, .ref h8, .ref h9, .int 0, .int 0, .ref h10, .ref h11, .ref h12, .int 0, .int 0, .ref h13, .ref h14, .ref h15, .ref h16, .ref h17, .int 0, .ref h18, .ref h19, .ref h20])), (h1, .inl (cy 1, 900, .inl (upd f_5363 (Int32.toNatClampNeg 4) ((p1 >>> (24 &&& 31)) &&& 255))))] _ _ := h
  generalize (upd f_5363 (Int32.toNatClampNeg 4) ((p1 >>> (24 &&& 31)) &&& 255)) = f_5364 at h
  refine lv_aload_n hx hb dX12_feed_105 rfl (lv_at hl 2 rfl) ?_
  refine lv_dup hx hb dX12_feed_106 rfl ?_
  refine q_get X hK h 0 rfl rfl wf_12 5 (by decide) rfl wm_5_175 dX12_feed_107 ?_
  refine lv_iconst (v := 1) hx hb dX12_feed_110 (by decide) ?_
  refine lv_iadd hx hb dX12_feed_111 ?_
  refine q_c 5 (by decide +kernel) ?_
  refine q_put (v := .int 5) X hK h 0 rfl rfl wf_12 tyX12 tyX12_ok nmX12 5 (by decide) wm_5_175 rfl rfl rfl (Nat.le_of_ble_eq_true rfl) dX12_feed_112 (fun H locs h => ?_)
  have h : qW D _ _ [(h0, .inr (12, [.int 0, .ref h2, .ref h3, .ref h1, .ref h4, .int 5, .int 0, .int 0, .int 0, .int 0, .int 0, .int 0, .int 0, .int 0, .int (-1), .int 0, .ref h5, .ref h6, .ref h7, .ref h8, .ref h9, .int 0, .int 0, .ref h10, .ref h11, .ref h12, .int 0, .int 0, .ref h13, .ref h14, .ref h15, .ref h16, .ref h17, .int 0, .ref h18, .ref h19, .ref h20])), (h1, .inl (cy 1, 900, .inl f_5364))] _ _ := h
  refine lv_iinc (v := 5) (lv' := [(6, .int 5), (7, .int p1), (0, .ref h0), (1, .int p0), (2, .int p1), (3, .int p2), (4, .int p3), (5, .int p4)]) hx hb dX12_feed_115 hl (k := 1) rfl (by decide +kernel) (by decide) rfl (fun ls hl => ?_)
  refine lv_goto (tgt := 24) hx hb dX12_feed_118 (by decide) ?_
  refine lv_iload hx hb dX12_feed_24 (lv_at hl 0 rfl) ?_
  refine lv_bipush (v := 20) hx hb dX12_feed_26 (by decide) ?_
  refine lv_icmp_ge (tgt := 121) hx hb dX12_feed_28 (by decide) (fun c => absurd c (by decide +kernel)) (fun _ => ?_)
  refine lv_iload hx hb dX12_feed_31 (lv_at hl 0 rfl) ?_
  refine lv_iconst (v := 4) hx hb dX12_feed_33 (by decide) ?_
  refine lv_icmp_ge (tgt := 41) hx hb dX12_feed_34 (by decide) (fun _ => ?_) (fun c => absurd c (by decide +kernel))
  refine lv_iload hx hb dX12_feed_41 (lv_at hl 0 rfl) ?_
  refine lv_bipush (v := 8) hx hb dX12_feed_43 (by decide) ?_
  refine lv_icmp_ge (tgt := 52) hx hb dX12_feed_45 (by decide) (fun c => absurd c (by decide +kernel)) (fun _ => ?_)
  refine lv_iload_n hx hb dX12_feed_48 rfl (lv_at hl 4 rfl) ?_
  refine lv_goto (tgt := 77) hx hb dX12_feed_49 (by decide) ?_
  refine lv_istore (lv' := [(7, .int p1), (6, .int 5), (0, .ref h0), (1, .int p0), (2, .int p1), (3, .int p2), (4, .int p3), (5, .int p4)]) hx hb dX12_feed_77 hl (by decide) rfl (fun ls hl => ?_)
  refine lv_aload_n hx hb dX12_feed_79 rfl (lv_at hl 2 rfl) ?_
  refine q_get X hK h 0 rfl rfl wf_12 3 (by decide) rfl wm_5_173 dX12_feed_80 ?_
  refine lv_aload_n hx hb dX12_feed_83 rfl (lv_at hl 2 rfl) ?_
  refine q_get X hK h 0 rfl rfl wf_12 5 (by decide) rfl wm_5_175 dX12_feed_84 ?_
  refine lv_iload hx hb dX12_feed_87 (lv_at hl 0 rfl) ?_
  refine lv_bipush (v := 24) hx hb dX12_feed_89 (by decide) ?_
  refine lv_bipush (v := 8) hx hb dX12_feed_91 (by decide) ?_
  refine lv_iload hx hb dX12_feed_93 (lv_at hl 1 rfl) ?_
  refine lv_iconst (v := 4) hx hb dX12_feed_95 (by decide) ?_
  refine lv_irem hx hb dX12_feed_96 (by decide) ?_
  refine q_c 1 (by decide +kernel) ?_
  refine lv_imul hx hb dX12_feed_97 ?_
  refine q_c 8 (by decide +kernel) ?_
  refine lv_isub hx hb dX12_feed_98 ?_
  refine q_c 16 (by decide +kernel) ?_
  refine lv_ishr hx hb dX12_feed_99 ?_
  refine lv_sipush (v := 255) hx hb dX12_feed_100 (by decide) ?_
  refine lv_iand hx hb dX12_feed_103 ?_
  refine q_iast X hK h 1 rfl (q_in (by decide +kernel)) dX12_feed_104 (fun H locs h => ?_)
  have h : qW D _ _ [(h0, .inr (12, [.int 0, .ref h2, .ref h3, .ref h1, .ref h4, .int 5, .int 0, .int 0, .int 0, .int 0, .int 0, .int 0, .int 0, .int 0, .int (-1), .int 0, .ref h5, .ref h6, .ref h7, .ref h8, .ref h9, .int 0, .int 0, .ref h10, .ref h11, .ref h12, .int 0, .int 0, .ref h13, .ref h14, .ref h15, .ref h16, .ref h17, .int 0, .ref h18, .ref h19, .ref h20])), (h1, .inl (cy 1, 900, .inl (upd f_5364 (Int32.toNatClampNeg 5) ((p1 >>> (16 &&& 31)) &&& 255))))] _ _ := h
  generalize (upd f_5364 (Int32.toNatClampNeg 5) ((p1 >>> (16 &&& 31)) &&& 255)) = f_5365 at h
  refine lv_aload_n hx hb dX12_feed_105 rfl (lv_at hl 2 rfl) ?_
  refine lv_dup hx hb dX12_feed_106 rfl ?_
  refine q_get X hK h 0 rfl rfl wf_12 5 (by decide) rfl wm_5_175 dX12_feed_107 ?_
  refine lv_iconst (v := 1) hx hb dX12_feed_110 (by decide) ?_
  refine lv_iadd hx hb dX12_feed_111 ?_
  refine q_c 6 (by decide +kernel) ?_
  refine q_put (v := .int 6) X hK h 0 rfl rfl wf_12 tyX12 tyX12_ok nmX12 5 (by decide) wm_5_175 rfl rfl rfl (Nat.le_of_ble_eq_true rfl) dX12_feed_112 (fun H locs h => ?_)
  have h : qW D _ _ [(h0, .inr (12, [.int 0, .ref h2, .ref h3, .ref h1, .ref h4, .int 6, .int 0, .int 0, .int 0, .int 0, .int 0, .int 0, .int 0, .int 0, .int (-1), .int 0, .ref h5, .ref h6, .ref h7, .ref h8, .ref h9, .int 0, .int 0, .ref h10, .ref h11, .ref h12, .int 0, .int 0, .ref h13, .ref h14, .ref h15, .ref h16, .ref h17, .int 0, .ref h18, .ref h19, .ref h20])), (h1, .inl (cy 1, 900, .inl f_5365))] _ _ := h
  refine lv_iinc (v := 6) (lv' := [(6, .int 6), (7, .int p1), (0, .ref h0), (1, .int p0), (2, .int p1), (3, .int p2), (4, .int p3), (5, .int p4)]) hx hb dX12_feed_115 hl (k := 1) rfl (by decide +kernel) (by decide) rfl (fun ls hl => ?_)
  refine lv_goto (tgt := 24) hx hb dX12_feed_118 (by decide) ?_
  refine lv_iload hx hb dX12_feed_24 (lv_at hl 0 rfl) ?_
  refine lv_bipush (v := 20) hx hb dX12_feed_26 (by decide) ?_
  refine lv_icmp_ge (tgt := 121) hx hb dX12_feed_28 (by decide) (fun c => absurd c (by decide +kernel)) (fun _ => ?_)
  refine lv_iload hx hb dX12_feed_31 (lv_at hl 0 rfl) ?_
  refine lv_iconst (v := 4) hx hb dX12_feed_33 (by decide) ?_
  refine lv_icmp_ge (tgt := 41) hx hb dX12_feed_34 (by decide) (fun _ => ?_) (fun c => absurd c (by decide +kernel))
  refine lv_iload hx hb dX12_feed_41 (lv_at hl 0 rfl) ?_
  refine lv_bipush (v := 8) hx hb dX12_feed_43 (by decide) ?_
  refine lv_icmp_ge (tgt := 52) hx hb dX12_feed_45 (by decide) (fun c => absurd c (by decide +kernel)) (fun _ => ?_)
  refine lv_iload_n hx hb dX12_feed_48 rfl (lv_at hl 4 rfl) ?_
  refine lv_goto (tgt := 77) hx hb dX12_feed_49 (by decide) ?_
  refine lv_istore (lv' := [(7, .int p1), (6, .int 6), (0, .ref h0), (1, .int p0), (2, .int p1), (3, .int p2), (4, .int p3), (5, .int p4)]) hx hb dX12_feed_77 hl (by decide) rfl (fun ls hl => ?_)
  refine lv_aload_n hx hb dX12_feed_79 rfl (lv_at hl 2 rfl) ?_
  refine q_get X hK h 0 rfl rfl wf_12 3 (by decide) rfl wm_5_173 dX12_feed_80 ?_
  refine lv_aload_n hx hb dX12_feed_83 rfl (lv_at hl 2 rfl) ?_
  refine q_get X hK h 0 rfl rfl wf_12 5 (by decide) rfl wm_5_175 dX12_feed_84 ?_
  refine lv_iload hx hb dX12_feed_87 (lv_at hl 0 rfl) ?_
  refine lv_bipush (v := 24) hx hb dX12_feed_89 (by decide) ?_
  refine lv_bipush (v := 8) hx hb dX12_feed_91 (by decide) ?_
  refine lv_iload hx hb dX12_feed_93 (lv_at hl 1 rfl) ?_
  refine lv_iconst (v := 4) hx hb dX12_feed_95 (by decide) ?_
  refine lv_irem hx hb dX12_feed_96 (by decide) ?_
  refine q_c 2 (by decide +kernel) ?_
  refine lv_imul hx hb dX12_feed_97 ?_
  refine q_c 16 (by decide +kernel) ?_
  refine lv_isub hx hb dX12_feed_98 ?_
  refine q_c 8 (by decide +kernel) ?_
  refine lv_ishr hx hb dX12_feed_99 ?_
  refine lv_sipush (v := 255) hx hb dX12_feed_100 (by decide) ?_
  refine lv_iand hx hb dX12_feed_103 ?_
  refine q_iast X hK h 1 rfl (q_in (by decide +kernel)) dX12_feed_104 (fun H locs h => ?_)
  have h : qW D _ _ [(h0, .inr (12, [.int 0, .ref h2, .ref h3, .ref h1, .ref h4, .int 6, .int 0, .int 0, .int 0, .int 0, .int 0, .int 0, .int 0, .int 0, .int (-1), .int 0, .ref h5, .ref h6, .ref h7, .ref h8, .ref h9, .int 0, .int 0, .ref h10, .ref h11, .ref h12, .int 0, .int 0, .ref h13, .ref h14, .ref h15, .ref h16, .ref h17, .int 0, .ref h18, .ref h19, .ref h20])), (h1, .inl (cy 1, 900, .inl (upd f_5365 (Int32.toNatClampNeg 6) ((p1 >>> (8 &&& 31)) &&& 255))))] _ _ := h
  generalize (upd f_5365 (Int32.toNatClampNeg 6) ((p1 >>> (8 &&& 31)) &&& 255)) = f_5366 at h
  refine lv_aload_n hx hb dX12_feed_105 rfl (lv_at hl 2 rfl) ?_
  refine lv_dup hx hb dX12_feed_106 rfl ?_
  refine q_get X hK h 0 rfl rfl wf_12 5 (by decide) rfl wm_5_175 dX12_feed_107 ?_
  refine lv_iconst (v := 1) hx hb dX12_feed_110 (by decide) ?_
  refine lv_iadd hx hb dX12_feed_111 ?_
  refine q_c 7 (by decide +kernel) ?_
  refine q_put (v := .int 7) X hK h 0 rfl rfl wf_12 tyX12 tyX12_ok nmX12 5 (by decide) wm_5_175 rfl rfl rfl (Nat.le_of_ble_eq_true rfl) dX12_feed_112 (fun H locs h => ?_)
  have h : qW D _ _ [(h0, .inr (12, [.int 0, .ref h2, .ref h3, .ref h1, .ref h4, .int 7, .int 0, .int 0, .int 0, .int 0, .int 0, .int 0, .int 0, .int 0, .int (-1), .int 0, .ref h5, .ref h6, .ref h7, .ref h8, .ref h9, .int 0, .int 0, .ref h10, .ref h11, .ref h12, .int 0, .int 0, .ref h13, .ref h14, .ref h15, .ref h16, .ref h17, .int 0, .ref h18, .ref h19, .ref h20])), (h1, .inl (cy 1, 900, .inl f_5366))] _ _ := h
  refine lv_iinc (v := 7) (lv' := [(6, .int 7), (7, .int p1), (0, .ref h0), (1, .int p0), (2, .int p1), (3, .int p2), (4, .int p3), (5, .int p4)]) hx hb dX12_feed_115 hl (k := 1) rfl (by decide +kernel) (by decide) rfl (fun ls hl => ?_)
  refine lv_goto (tgt := 24) hx hb dX12_feed_118 (by decide) ?_
  refine lv_iload hx hb dX12_feed_24 (lv_at hl 0 rfl) ?_
  refine lv_bipush (v := 20) hx hb dX12_feed_26 (by decide) ?_
  refine lv_icmp_ge (tgt := 121) hx hb dX12_feed_28 (by decide) (fun c => absurd c (by decide +kernel)) (fun _ => ?_)
  refine lv_iload hx hb dX12_feed_31 (lv_at hl 0 rfl) ?_
  refine lv_iconst (v := 4) hx hb dX12_feed_33 (by decide) ?_
  refine lv_icmp_ge (tgt := 41) hx hb dX12_feed_34 (by decide) (fun _ => ?_) (fun c => absurd c (by decide +kernel))
  refine lv_iload hx hb dX12_feed_41 (lv_at hl 0 rfl) ?_
  refine lv_bipush (v := 8) hx hb dX12_feed_43 (by decide) ?_
  refine lv_icmp_ge (tgt := 52) hx hb dX12_feed_45 (by decide) (fun c => absurd c (by decide +kernel)) (fun _ => ?_)
  refine lv_iload_n hx hb dX12_feed_48 rfl (lv_at hl 4 rfl) ?_
  refine lv_goto (tgt := 77) hx hb dX12_feed_49 (by decide) ?_
  refine lv_istore (lv' := [(7, .int p1), (6, .int 7), (0, .ref h0), (1, .int p0), (2, .int p1), (3, .int p2), (4, .int p3), (5, .int p4)]) hx hb dX12_feed_77 hl (by decide) rfl (fun ls hl => ?_)
  refine lv_aload_n hx hb dX12_feed_79 rfl (lv_at hl 2 rfl) ?_
  refine q_get X hK h 0 rfl rfl wf_12 3 (by decide) rfl wm_5_173 dX12_feed_80 ?_
  refine lv_aload_n hx hb dX12_feed_83 rfl (lv_at hl 2 rfl) ?_
  refine q_get X hK h 0 rfl rfl wf_12 5 (by decide) rfl wm_5_175 dX12_feed_84 ?_
  refine lv_iload hx hb dX12_feed_87 (lv_at hl 0 rfl) ?_
  refine lv_bipush (v := 24) hx hb dX12_feed_89 (by decide) ?_
  refine lv_bipush (v := 8) hx hb dX12_feed_91 (by decide) ?_
  refine lv_iload hx hb dX12_feed_93 (lv_at hl 1 rfl) ?_
  refine lv_iconst (v := 4) hx hb dX12_feed_95 (by decide) ?_
  refine lv_irem hx hb dX12_feed_96 (by decide) ?_
  refine q_c 3 (by decide +kernel) ?_
  refine lv_imul hx hb dX12_feed_97 ?_
  refine q_c 24 (by decide +kernel) ?_
  refine lv_isub hx hb dX12_feed_98 ?_
  refine q_c 0 (by decide +kernel) ?_
  refine lv_ishr hx hb dX12_feed_99 ?_
  refine lv_sipush (v := 255) hx hb dX12_feed_100 (by decide) ?_
  refine lv_iand hx hb dX12_feed_103 ?_
  refine q_iast X hK h 1 rfl (q_in (by decide +kernel)) dX12_feed_104 (fun H locs h => ?_)
  have h : qW D _ _ [(h0, .inr (12, [.int 0, .ref h2, .ref h3, .ref h1, .ref h4, .int 7, .int 0, .int 0, .int 0, .int 0, .int 0, .int 0, .int 0, .int 0, .int (-1), .int 0, .ref h5, .ref h6, .ref h7, .ref h8, .ref h9, .int 0, .int 0, .ref h10, .ref h11, .ref h12, .int 0, .int 0, .ref h13, .ref h14, .ref h15, .ref h16, .ref h17, .int 0, .ref h18, .ref h19, .ref h20])), (h1, .inl (cy 1, 900, .inl (upd f_5366 (Int32.toNatClampNeg 7) ((p1 >>> (0 &&& 31)) &&& 255))))] _ _ := h
  generalize (upd f_5366 (Int32.toNatClampNeg 7) ((p1 >>> (0 &&& 31)) &&& 255)) = f_5367 at h
  refine lv_aload_n hx hb dX12_feed_105 rfl (lv_at hl 2 rfl) ?_
  refine lv_dup hx hb dX12_feed_106 rfl ?_
  refine q_get X hK h 0 rfl rfl wf_12 5 (by decide) rfl wm_5_175 dX12_feed_107 ?_
  refine lv_iconst (v := 1) hx hb dX12_feed_110 (by decide) ?_
  refine lv_iadd hx hb dX12_feed_111 ?_
  refine q_c 8 (by decide +kernel) ?_
  refine q_put (v := .int 8) X hK h 0 rfl rfl wf_12 tyX12 tyX12_ok nmX12 5 (by decide) wm_5_175 rfl rfl rfl (Nat.le_of_ble_eq_true rfl) dX12_feed_112 (fun H locs h => ?_)
  have h : qW D _ _ [(h0, .inr (12, [.int 0, .ref h2, .ref h3, .ref h1, .ref h4, .int 8, .int 0, .int 0, .int 0, .int 0, .int 0, .int 0, .int 0, .int 0, .int (-1), .int 0, .ref h5, .ref h6, .ref h7, .ref h8, .ref h9, .int 0, .int 0, .ref h10, .ref h11, .ref h12, .int 0, .int 0, .ref h13, .ref h14, .ref h15, .ref h16, .ref h17, .int 0, .ref h18, .ref h19, .ref h20])), (h1, .inl (cy 1, 900, .inl f_5367))] _ _ := h
  refine lv_iinc (v := 8) (lv' := [(6, .int 8), (7, .int p1), (0, .ref h0), (1, .int p0), (2, .int p1), (3, .int p2), (4, .int p3), (5, .int p4)]) hx hb dX12_feed_115 hl (k := 1) rfl (by decide +kernel) (by decide) rfl (fun ls hl => ?_)
  refine lv_goto (tgt := 24) hx hb dX12_feed_118 (by decide) ?_
  refine lv_iload hx hb dX12_feed_24 (lv_at hl 0 rfl) ?_
  refine lv_bipush (v := 20) hx hb dX12_feed_26 (by decide) ?_
  refine lv_icmp_ge (tgt := 121) hx hb dX12_feed_28 (by decide) (fun c => absurd c (by decide +kernel)) (fun _ => ?_)
  refine lv_iload hx hb dX12_feed_31 (lv_at hl 0 rfl) ?_
  refine lv_iconst (v := 4) hx hb dX12_feed_33 (by decide) ?_
  refine lv_icmp_ge (tgt := 41) hx hb dX12_feed_34 (by decide) (fun _ => ?_) (fun c => absurd c (by decide +kernel))
  refine lv_iload hx hb dX12_feed_41 (lv_at hl 0 rfl) ?_
  refine lv_bipush (v := 8) hx hb dX12_feed_43 (by decide) ?_
  refine lv_icmp_ge (tgt := 52) hx hb dX12_feed_45 (by decide) (fun _ => ?_) (fun c => absurd c (by decide +kernel))
  refine lv_iload hx hb dX12_feed_52 (lv_at hl 0 rfl) ?_
  refine lv_bipush (v := 12) hx hb dX12_feed_54 (by decide) ?_
  refine lv_icmp_ge (tgt := 63) hx hb dX12_feed_56 (by decide) (fun c => absurd c (by decide +kernel)) (fun _ => ?_)
  refine lv_iload_n hx hb dX12_feed_59 rfl (lv_at hl 5 rfl) ?_
  refine lv_goto (tgt := 77) hx hb dX12_feed_60 (by decide) ?_
  refine lv_istore (lv' := [(7, .int p2), (6, .int 8), (0, .ref h0), (1, .int p0), (2, .int p1), (3, .int p2), (4, .int p3), (5, .int p4)]) hx hb dX12_feed_77 hl (by decide) rfl (fun ls hl => ?_)
  refine lv_aload_n hx hb dX12_feed_79 rfl (lv_at hl 2 rfl) ?_
  refine q_get X hK h 0 rfl rfl wf_12 3 (by decide) rfl wm_5_173 dX12_feed_80 ?_
  refine lv_aload_n hx hb dX12_feed_83 rfl (lv_at hl 2 rfl) ?_
  refine q_get X hK h 0 rfl rfl wf_12 5 (by decide) rfl wm_5_175 dX12_feed_84 ?_
  refine lv_iload hx hb dX12_feed_87 (lv_at hl 0 rfl) ?_
  refine lv_bipush (v := 24) hx hb dX12_feed_89 (by decide) ?_
  refine lv_bipush (v := 8) hx hb dX12_feed_91 (by decide) ?_
  refine lv_iload hx hb dX12_feed_93 (lv_at hl 1 rfl) ?_
  refine lv_iconst (v := 4) hx hb dX12_feed_95 (by decide) ?_
  refine lv_irem hx hb dX12_feed_96 (by decide) ?_
  refine q_c 0 (by decide +kernel) ?_
  refine lv_imul hx hb dX12_feed_97 ?_
  refine q_c 0 (by decide +kernel) ?_
  refine lv_isub hx hb dX12_feed_98 ?_
  refine q_c 24 (by decide +kernel) ?_
  refine lv_ishr hx hb dX12_feed_99 ?_
  refine lv_sipush (v := 255) hx hb dX12_feed_100 (by decide) ?_
  refine lv_iand hx hb dX12_feed_103 ?_
  refine q_iast X hK h 1 rfl (q_in (by decide +kernel)) dX12_feed_104 (fun H locs h => ?_)
  have h : qW D _ _ [(h0, .inr (12, [.int 0, .ref h2, .ref h3, .ref h1, .ref h4, .int 8, .int 0, .int 0, .int 0, .int 0, .int 0, .int 0, .int 0, .int 0, .int (-1), .int 0, .ref h5, .ref h6, .ref h7, .ref h8, .ref h9, .int 0, .int 0, .ref h10, .ref h11, .ref h12, .int 0, .int 0, .ref h13, .ref h14, .ref h15, .ref h16, .ref h17, .int 0, .ref h18, .ref h19, .ref h20])), (h1, .inl (cy 1, 900, .inl (upd f_5367 (Int32.toNatClampNeg 8) ((p2 >>> (24 &&& 31)) &&& 255))))] _ _ := h
  generalize (upd f_5367 (Int32.toNatClampNeg 8) ((p2 >>> (24 &&& 31)) &&& 255)) = f_5368 at h
  refine lv_aload_n hx hb dX12_feed_105 rfl (lv_at hl 2 rfl) ?_
  refine lv_dup hx hb dX12_feed_106 rfl ?_
  refine q_get X hK h 0 rfl rfl wf_12 5 (by decide) rfl wm_5_175 dX12_feed_107 ?_
  refine lv_iconst (v := 1) hx hb dX12_feed_110 (by decide) ?_
  refine lv_iadd hx hb dX12_feed_111 ?_
  refine q_c 9 (by decide +kernel) ?_
  refine q_put (v := .int 9) X hK h 0 rfl rfl wf_12 tyX12 tyX12_ok nmX12 5 (by decide) wm_5_175 rfl rfl rfl (Nat.le_of_ble_eq_true rfl) dX12_feed_112 (fun H locs h => ?_)
  have h : qW D _ _ [(h0, .inr (12, [.int 0, .ref h2, .ref h3, .ref h1, .ref h4, .int 9, .int 0, .int 0, .int 0, .int 0, .int 0, .int 0, .int 0, .int 0, .int (-1), .int 0, .ref h5, .ref h6, .ref h7, .ref h8, .ref h9, .int 0, .int 0, .ref h10, .ref h11, .ref h12, .int 0, .int 0, .ref h13, .ref h14, .ref h15, .ref h16, .ref h17, .int 0, .ref h18, .ref h19, .ref h20])), (h1, .inl (cy 1, 900, .inl f_5368))] _ _ := h
  refine lv_iinc (v := 9) (lv' := [(6, .int 9), (7, .int p2), (0, .ref h0), (1, .int p0), (2, .int p1), (3, .int p2), (4, .int p3), (5, .int p4)]) hx hb dX12_feed_115 hl (k := 1) rfl (by decide +kernel) (by decide) rfl (fun ls hl => ?_)
  refine lv_goto (tgt := 24) hx hb dX12_feed_118 (by decide) ?_
  refine lv_iload hx hb dX12_feed_24 (lv_at hl 0 rfl) ?_
  refine lv_bipush (v := 20) hx hb dX12_feed_26 (by decide) ?_
  refine lv_icmp_ge (tgt := 121) hx hb dX12_feed_28 (by decide) (fun c => absurd c (by decide +kernel)) (fun _ => ?_)
  refine lv_iload hx hb dX12_feed_31 (lv_at hl 0 rfl) ?_
  refine lv_iconst (v := 4) hx hb dX12_feed_33 (by decide) ?_
  refine lv_icmp_ge (tgt := 41) hx hb dX12_feed_34 (by decide) (fun _ => ?_) (fun c => absurd c (by decide +kernel))
  refine lv_iload hx hb dX12_feed_41 (lv_at hl 0 rfl) ?_
  refine lv_bipush (v := 8) hx hb dX12_feed_43 (by decide) ?_
  refine lv_icmp_ge (tgt := 52) hx hb dX12_feed_45 (by decide) (fun _ => ?_) (fun c => absurd c (by decide +kernel))
  refine lv_iload hx hb dX12_feed_52 (lv_at hl 0 rfl) ?_
  refine lv_bipush (v := 12) hx hb dX12_feed_54 (by decide) ?_
  refine lv_icmp_ge (tgt := 63) hx hb dX12_feed_56 (by decide) (fun c => absurd c (by decide +kernel)) (fun _ => ?_)
  refine lv_iload_n hx hb dX12_feed_59 rfl (lv_at hl 5 rfl) ?_
  refine lv_goto (tgt := 77) hx hb dX12_feed_60 (by decide) ?_
  refine lv_istore (lv' := [(7, .int p2), (6, .int 9), (0, .ref h0), (1, .int p0), (2, .int p1), (3, .int p2), (4, .int p3), (5, .int p4)]) hx hb dX12_feed_77 hl (by decide) rfl (fun ls hl => ?_)
  refine lv_aload_n hx hb dX12_feed_79 rfl (lv_at hl 2 rfl) ?_
  refine q_get X hK h 0 rfl rfl wf_12 3 (by decide) rfl wm_5_173 dX12_feed_80 ?_
  refine lv_aload_n hx hb dX12_feed_83 rfl (lv_at hl 2 rfl) ?_
  refine q_get X hK h 0 rfl rfl wf_12 5 (by decide) rfl wm_5_175 dX12_feed_84 ?_
  refine lv_iload hx hb dX12_feed_87 (lv_at hl 0 rfl) ?_
  refine lv_bipush (v := 24) hx hb dX12_feed_89 (by decide) ?_
  refine lv_bipush (v := 8) hx hb dX12_feed_91 (by decide) ?_
  refine lv_iload hx hb dX12_feed_93 (lv_at hl 1 rfl) ?_
  refine lv_iconst (v := 4) hx hb dX12_feed_95 (by decide) ?_
  refine lv_irem hx hb dX12_feed_96 (by decide) ?_
  refine q_c 1 (by decide +kernel) ?_
  refine lv_imul hx hb dX12_feed_97 ?_
  refine q_c 8 (by decide +kernel) ?_
  refine lv_isub hx hb dX12_feed_98 ?_
  refine q_c 16 (by decide +kernel) ?_
  refine lv_ishr hx hb dX12_feed_99 ?_
  refine lv_sipush (v := 255) hx hb dX12_feed_100 (by decide) ?_
  refine lv_iand hx hb dX12_feed_103 ?_
  refine q_iast X hK h 1 rfl (q_in (by decide +kernel)) dX12_feed_104 (fun H locs h => ?_)
  have h : qW D _ _ [(h0, .inr (12, [.int 0, .ref h2, .ref h3, .ref h1, .ref h4, .int 9, .int 0, .int 0, .int 0, .int 0, .int 0, .int 0, .int 0, .int 0, .int (-1), .int 0, .ref h5, .ref h6, .ref h7, .ref h8, .ref h9, .int 0, .int 0, .ref h10, .ref h11, .ref h12, .int 0, .int 0, .ref h13, .ref h14, .ref h15, .ref h16, .ref h17, .int 0, .ref h18, .ref h19, .ref h20])), (h1, .inl (cy 1, 900, .inl (upd f_5368 (Int32.toNatClampNeg 9) ((p2 >>> (16 &&& 31)) &&& 255))))] _ _ := h
  generalize (upd f_5368 (Int32.toNatClampNeg 9) ((p2 >>> (16 &&& 31)) &&& 255)) = f_5369 at h
  refine lv_aload_n hx hb dX12_feed_105 rfl (lv_at hl 2 rfl) ?_
  refine lv_dup hx hb dX12_feed_106 rfl ?_
  refine q_get X hK h 0 rfl rfl wf_12 5 (by decide) rfl wm_5_175 dX12_feed_107 ?_
  refine lv_iconst (v := 1) hx hb dX12_feed_110 (by decide) ?_
  refine lv_iadd hx hb dX12_feed_111 ?_
  refine q_c 10 (by decide +kernel) ?_
  refine q_put (v := .int 10) X hK h 0 rfl rfl wf_12 tyX12 tyX12_ok nmX12 5 (by decide) wm_5_175 rfl rfl rfl (Nat.le_of_ble_eq_true rfl) dX12_feed_112 (fun H locs h => ?_)
  have h : qW D _ _ [(h0, .inr (12, [.int 0, .ref h2, .ref h3, .ref h1, .ref h4, .int 10, .int 0, .int 0, .int 0, .int 0, .int 0, .int 0, .int 0, .int 0, .int (-1), .int 0, .ref h5, .ref h6, .ref h7, .ref h8, .ref h9, .int 0, .int 0, .ref h10, .ref h11, .ref h12, .int 0, .int 0, .ref h13, .ref h14, .ref h15, .ref h16, .ref h17, .int 0, .ref h18, .ref h19, .ref h20])), (h1, .inl (cy 1, 900, .inl f_5369))] _ _ := h
  refine lv_iinc (v := 10) (lv' := [(6, .int 10), (7, .int p2), (0, .ref h0), (1, .int p0), (2, .int p1), (3, .int p2), (4, .int p3), (5, .int p4)]) hx hb dX12_feed_115 hl (k := 1) rfl (by decide +kernel) (by decide) rfl (fun ls hl => ?_)
  refine lv_goto (tgt := 24) hx hb dX12_feed_118 (by decide) ?_
  refine lv_iload hx hb dX12_feed_24 (lv_at hl 0 rfl) ?_
  refine lv_bipush (v := 20) hx hb dX12_feed_26 (by decide) ?_
  refine lv_icmp_ge (tgt := 121) hx hb dX12_feed_28 (by decide) (fun c => absurd c (by decide +kernel)) (fun _ => ?_)
  refine lv_iload hx hb dX12_feed_31 (lv_at hl 0 rfl) ?_
  refine lv_iconst (v := 4) hx hb dX12_feed_33 (by decide) ?_
  refine lv_icmp_ge (tgt := 41) hx hb dX12_feed_34 (by decide) (fun _ => ?_) (fun c => absurd c (by decide +kernel))
  refine lv_iload hx hb dX12_feed_41 (lv_at hl 0 rfl) ?_
  refine lv_bipush (v := 8) hx hb dX12_feed_43 (by decide) ?_
  refine lv_icmp_ge (tgt := 52) hx hb dX12_feed_45 (by decide) (fun _ => ?_) (fun c => absurd c (by decide +kernel))
  refine lv_iload hx hb dX12_feed_52 (lv_at hl 0 rfl) ?_
  refine lv_bipush (v := 12) hx hb dX12_feed_54 (by decide) ?_
  refine lv_icmp_ge (tgt := 63) hx hb dX12_feed_56 (by decide) (fun c => absurd c (by decide +kernel)) (fun _ => ?_)
  refine lv_iload_n hx hb dX12_feed_59 rfl (lv_at hl 5 rfl) ?_
  refine lv_goto (tgt := 77) hx hb dX12_feed_60 (by decide) ?_
  refine lv_istore (lv' := [(7, .int p2), (6, .int 10), (0, .ref h0), (1, .int p0), (2, .int p1), (3, .int p2), (4, .int p3), (5, .int p4)]) hx hb dX12_feed_77 hl (by decide) rfl (fun ls hl => ?_)
  refine lv_aload_n hx hb dX12_feed_79 rfl (lv_at hl 2 rfl) ?_
  refine q_get X hK h 0 rfl rfl wf_12 3 (by decide) rfl wm_5_173 dX12_feed_80 ?_
  refine lv_aload_n hx hb dX12_feed_83 rfl (lv_at hl 2 rfl) ?_
  refine q_get X hK h 0 rfl rfl wf_12 5 (by decide) rfl wm_5_175 dX12_feed_84 ?_
  refine lv_iload hx hb dX12_feed_87 (lv_at hl 0 rfl) ?_
  refine lv_bipush (v := 24) hx hb dX12_feed_89 (by decide) ?_
  refine lv_bipush (v := 8) hx hb dX12_feed_91 (by decide) ?_
  refine lv_iload hx hb dX12_feed_93 (lv_at hl 1 rfl) ?_
  refine lv_iconst (v := 4) hx hb dX12_feed_95 (by decide) ?_
  refine lv_irem hx hb dX12_feed_96 (by decide) ?_
  refine q_c 2 (by decide +kernel) ?_
  refine lv_imul hx hb dX12_feed_97 ?_
  refine q_c 16 (by decide +kernel) ?_
  refine lv_isub hx hb dX12_feed_98 ?_
  refine q_c 8 (by decide +kernel) ?_
  refine lv_ishr hx hb dX12_feed_99 ?_
  refine lv_sipush (v := 255) hx hb dX12_feed_100 (by decide) ?_
  refine lv_iand hx hb dX12_feed_103 ?_
  refine q_iast X hK h 1 rfl (q_in (by decide +kernel)) dX12_feed_104 (fun H locs h => ?_)
  have h : qW D _ _ [(h0, .inr (12, [.int 0, .ref h2, .ref h3, .ref h1, .ref h4, .int 10, .int 0, .int 0, .int 0, .int 0, .int 0, .int 0, .int 0, .int 0, .int (-1), .int 0, .ref h5, .ref h6, .ref h7, .ref h8, .ref h9, .int 0, .int 0, .ref h10, .ref h11, .ref h12, .int 0, .int 0, .ref h13, .ref h14, .ref h15, .ref h16, .ref h17, .int 0, .ref h18, .ref h19, .ref h20])), (h1, .inl (cy 1, 900, .inl (upd f_5369 (Int32.toNatClampNeg 10) ((p2 >>> (8 &&& 31)) &&& 255))))] _ _ := h
  generalize (upd f_5369 (Int32.toNatClampNeg 10) ((p2 >>> (8 &&& 31)) &&& 255)) = f_5370 at h
  refine lv_aload_n hx hb dX12_feed_105 rfl (lv_at hl 2 rfl) ?_
  refine lv_dup hx hb dX12_feed_106 rfl ?_
  refine q_get X hK h 0 rfl rfl wf_12 5 (by decide) rfl wm_5_175 dX12_feed_107 ?_
  refine lv_iconst (v := 1) hx hb dX12_feed_110 (by decide) ?_
  refine lv_iadd hx hb dX12_feed_111 ?_
  refine q_c 11 (by decide +kernel) ?_
  refine q_put (v := .int 11) X hK h 0 rfl rfl wf_12 tyX12 tyX12_ok nmX12 5 (by decide) wm_5_175 rfl rfl rfl (Nat.le_of_ble_eq_true rfl) dX12_feed_112 (fun H locs h => ?_)
  have h : qW D _ _ [(h0, .inr (12, [.int 0, .ref h2, .ref h3, .ref h1, .ref h4, .int 11, .int 0, .int 0, .int 0, .int 0, .int 0, .int 0, .int 0, .int 0, .int (-1), .int 0, .ref h5, .ref h6, .ref h7, .ref h8, .ref h9, .int 0, .int 0, .ref h10, .ref h11, .ref h12, .int 0, .int 0, .ref h13, .ref h14, .ref h15, .ref h16, .ref h17, .int 0, .ref h18, .ref h19, .ref h20])), (h1, .inl (cy 1, 900, .inl f_5370))] _ _ := h
  refine lv_iinc (v := 11) (lv' := [(6, .int 11), (7, .int p2), (0, .ref h0), (1, .int p0), (2, .int p1), (3, .int p2), (4, .int p3), (5, .int p4)]) hx hb dX12_feed_115 hl (k := 1) rfl (by decide +kernel) (by decide) rfl (fun ls hl => ?_)
  refine lv_goto (tgt := 24) hx hb dX12_feed_118 (by decide) ?_
  refine lv_iload hx hb dX12_feed_24 (lv_at hl 0 rfl) ?_
  refine lv_bipush (v := 20) hx hb dX12_feed_26 (by decide) ?_
  refine lv_icmp_ge (tgt := 121) hx hb dX12_feed_28 (by decide) (fun c => absurd c (by decide +kernel)) (fun _ => ?_)
  refine lv_iload hx hb dX12_feed_31 (lv_at hl 0 rfl) ?_
  refine lv_iconst (v := 4) hx hb dX12_feed_33 (by decide) ?_
  refine lv_icmp_ge (tgt := 41) hx hb dX12_feed_34 (by decide) (fun _ => ?_) (fun c => absurd c (by decide +kernel))
  refine lv_iload hx hb dX12_feed_41 (lv_at hl 0 rfl) ?_
  refine lv_bipush (v := 8) hx hb dX12_feed_43 (by decide) ?_
  refine lv_icmp_ge (tgt := 52) hx hb dX12_feed_45 (by decide) (fun _ => ?_) (fun c => absurd c (by decide +kernel))
  refine lv_iload hx hb dX12_feed_52 (lv_at hl 0 rfl) ?_
  refine lv_bipush (v := 12) hx hb dX12_feed_54 (by decide) ?_
  refine lv_icmp_ge (tgt := 63) hx hb dX12_feed_56 (by decide) (fun c => absurd c (by decide +kernel)) (fun _ => ?_)
  refine lv_iload_n hx hb dX12_feed_59 rfl (lv_at hl 5 rfl) ?_
  refine lv_goto (tgt := 77) hx hb dX12_feed_60 (by decide) ?_
  refine lv_istore (lv' := [(7, .int p2), (6, .int 11), (0, .ref h0), (1, .int p0), (2, .int p1), (3, .int p2), (4, .int p3), (5, .int p4)]) hx hb dX12_feed_77 hl (by decide) rfl (fun ls hl => ?_)
  refine lv_aload_n hx hb dX12_feed_79 rfl (lv_at hl 2 rfl) ?_
  refine q_get X hK h 0 rfl rfl wf_12 3 (by decide) rfl wm_5_173 dX12_feed_80 ?_
  refine lv_aload_n hx hb dX12_feed_83 rfl (lv_at hl 2 rfl) ?_
  refine q_get X hK h 0 rfl rfl wf_12 5 (by decide) rfl wm_5_175 dX12_feed_84 ?_
  refine lv_iload hx hb dX12_feed_87 (lv_at hl 0 rfl) ?_
  refine lv_bipush (v := 24) hx hb dX12_feed_89 (by decide) ?_
  refine lv_bipush (v := 8) hx hb dX12_feed_91 (by decide) ?_
  refine lv_iload hx hb dX12_feed_93 (lv_at hl 1 rfl) ?_
  refine lv_iconst (v := 4) hx hb dX12_feed_95 (by decide) ?_
  refine lv_irem hx hb dX12_feed_96 (by decide) ?_
  refine q_c 3 (by decide +kernel) ?_
  refine lv_imul hx hb dX12_feed_97 ?_
  refine q_c 24 (by decide +kernel) ?_
  refine lv_isub hx hb dX12_feed_98 ?_
  refine q_c 0 (by decide +kernel) ?_
  refine lv_ishr hx hb dX12_feed_99 ?_
  refine lv_sipush (v := 255) hx hb dX12_feed_100 (by decide) ?_
  refine lv_iand hx hb dX12_feed_103 ?_
  refine q_iast X hK h 1 rfl (q_in (by decide +kernel)) dX12_feed_104 (fun H locs h => ?_)
  have h : qW D _ _ [(h0, .inr (12, [.int 0, .ref h2, .ref h3, .ref h1, .ref h4, .int 11, .int 0, .int 0, .int 0, .int 0, .int 0, .int 0, .int 0, .int 0, .int (-1), .int 0, .ref h5, .ref h6, .ref h7, .ref h8, .ref h9, .int 0, .int 0, .ref h10, .ref h11, .ref h12, .int 0, .int 0, .ref h13, .ref h14, .ref h15, .ref h16, .ref h17, .int 0, .ref h18, .ref h19, .ref h20])), (h1, .inl (cy 1, 900, .inl (upd f_5370 (Int32.toNatClampNeg 11) ((p2 >>> (0 &&& 31)) &&& 255))))] _ _ := h
  generalize (upd f_5370 (Int32.toNatClampNeg 11) ((p2 >>> (0 &&& 31)) &&& 255)) = f_5371 at h
  refine lv_aload_n hx hb dX12_feed_105 rfl (lv_at hl 2 rfl) ?_
  refine lv_dup hx hb dX12_feed_106 rfl ?_
  refine q_get X hK h 0 rfl rfl wf_12 5 (by decide) rfl wm_5_175 dX12_feed_107 ?_
  refine lv_iconst (v := 1) hx hb dX12_feed_110 (by decide) ?_
  refine lv_iadd hx hb dX12_feed_111 ?_
  refine q_c 12 (by decide +kernel) ?_
  refine q_put (v := .int 12) X hK h 0 rfl rfl wf_12 tyX12 tyX12_ok nmX12 5 (by decide) wm_5_175 rfl rfl rfl (Nat.le_of_ble_eq_true rfl) dX12_feed_112 (fun H locs h => ?_)
  have h : qW D _ _ [(h0, .inr (12, [.int 0, .ref h2, .ref h3, .ref h1, .ref h4, .int 12, .int 0, .int 0, .int 0, .int 0, .int 0, .int 0, .int 0, .int 0, .int (-1), .int 0, .ref h5, .ref h6, .ref h7, .ref h8, .ref h9, .int 0, .int 0, .ref h10, .ref h11, .ref h12, .int 0, .int 0, .ref h13, .ref h14, .ref h15, .ref h16, .ref h17, .int 0, .ref h18, .ref h19, .ref h20])), (h1, .inl (cy 1, 900, .inl f_5371))] _ _ := h
  refine lv_iinc (v := 12) (lv' := [(6, .int 12), (7, .int p2), (0, .ref h0), (1, .int p0), (2, .int p1), (3, .int p2), (4, .int p3), (5, .int p4)]) hx hb dX12_feed_115 hl (k := 1) rfl (by decide +kernel) (by decide) rfl (fun ls hl => ?_)
  refine lv_goto (tgt := 24) hx hb dX12_feed_118 (by decide) ?_
  refine lv_iload hx hb dX12_feed_24 (lv_at hl 0 rfl) ?_
  refine lv_bipush (v := 20) hx hb dX12_feed_26 (by decide) ?_
  refine lv_icmp_ge (tgt := 121) hx hb dX12_feed_28 (by decide) (fun c => absurd c (by decide +kernel)) (fun _ => ?_)
  refine lv_iload hx hb dX12_feed_31 (lv_at hl 0 rfl) ?_
  refine lv_iconst (v := 4) hx hb dX12_feed_33 (by decide) ?_
  refine lv_icmp_ge (tgt := 41) hx hb dX12_feed_34 (by decide) (fun _ => ?_) (fun c => absurd c (by decide +kernel))
  refine lv_iload hx hb dX12_feed_41 (lv_at hl 0 rfl) ?_
  refine lv_bipush (v := 8) hx hb dX12_feed_43 (by decide) ?_
  refine lv_icmp_ge (tgt := 52) hx hb dX12_feed_45 (by decide) (fun _ => ?_) (fun c => absurd c (by decide +kernel))
  refine lv_iload hx hb dX12_feed_52 (lv_at hl 0 rfl) ?_
  refine lv_bipush (v := 12) hx hb dX12_feed_54 (by decide) ?_
  refine lv_icmp_ge (tgt := 63) hx hb dX12_feed_56 (by decide) (fun _ => ?_) (fun c => absurd c (by decide +kernel))
  refine lv_iload hx hb dX12_feed_63 (lv_at hl 0 rfl) ?_
  refine lv_bipush (v := 16) hx hb dX12_feed_65 (by decide) ?_
  refine lv_icmp_ge (tgt := 75) hx hb dX12_feed_67 (by decide) (fun c => absurd c (by decide +kernel)) (fun _ => ?_)
  refine lv_iload hx hb dX12_feed_70 (lv_at hl 6 rfl) ?_
  refine lv_goto (tgt := 77) hx hb dX12_feed_72 (by decide) ?_
  refine lv_istore (lv' := [(7, .int p3), (6, .int 12), (0, .ref h0), (1, .int p0), (2, .int p1), (3, .int p2), (4, .int p3), (5, .int p4)]) hx hb dX12_feed_77 hl (by decide) rfl (fun ls hl => ?_)
  refine lv_aload_n hx hb dX12_feed_79 rfl (lv_at hl 2 rfl) ?_
  refine q_get X hK h 0 rfl rfl wf_12 3 (by decide) rfl wm_5_173 dX12_feed_80 ?_
  refine lv_aload_n hx hb dX12_feed_83 rfl (lv_at hl 2 rfl) ?_
  refine q_get X hK h 0 rfl rfl wf_12 5 (by decide) rfl wm_5_175 dX12_feed_84 ?_
  refine lv_iload hx hb dX12_feed_87 (lv_at hl 0 rfl) ?_
  refine lv_bipush (v := 24) hx hb dX12_feed_89 (by decide) ?_
  refine lv_bipush (v := 8) hx hb dX12_feed_91 (by decide) ?_
  refine lv_iload hx hb dX12_feed_93 (lv_at hl 1 rfl) ?_
  refine lv_iconst (v := 4) hx hb dX12_feed_95 (by decide) ?_
  refine lv_irem hx hb dX12_feed_96 (by decide) ?_
  refine q_c 0 (by decide +kernel) ?_
  refine lv_imul hx hb dX12_feed_97 ?_
  refine q_c 0 (by decide +kernel) ?_
  refine lv_isub hx hb dX12_feed_98 ?_
  refine q_c 24 (by decide +kernel) ?_
  refine lv_ishr hx hb dX12_feed_99 ?_
  refine lv_sipush (v := 255) hx hb dX12_feed_100 (by decide) ?_
  refine lv_iand hx hb dX12_feed_103 ?_
  refine q_iast X hK h 1 rfl (q_in (by decide +kernel)) dX12_feed_104 (fun H locs h => ?_)
  have h : qW D _ _ [(h0, .inr (12, [.int 0, .ref h2, .ref h3, .ref h1, .ref h4, .int 12, .int 0, .int 0, .int 0, .int 0, .int 0, .int 0, .int 0, .int 0, .int (-1), .int 0, .ref h5, .ref h6, .ref h7, .ref h8, .ref h9, .int 0, .int 0, .ref h10, .ref h11, .ref h12, .int 0, .int 0, .ref h13, .ref h14, .ref h15, .ref h16, .ref h17, .int 0, .ref h18, .ref h19, .ref h20])), (h1, .inl (cy 1, 900, .inl (upd f_5371 (Int32.toNatClampNeg 12) ((p3 >>> (24 &&& 31)) &&& 255))))] _ _ := h
  generalize (upd f_5371 (Int32.toNatClampNeg 12) ((p3 >>> (24 &&& 31)) &&& 255)) = f_5372 at h
  refine lv_aload_n hx hb dX12_feed_105 rfl (lv_at hl 2 rfl) ?_
  refine lv_dup hx hb dX12_feed_106 rfl ?_
  refine q_get X hK h 0 rfl rfl wf_12 5 (by decide) rfl wm_5_175 dX12_feed_107 ?_
  refine lv_iconst (v := 1) hx hb dX12_feed_110 (by decide) ?_
  refine lv_iadd hx hb dX12_feed_111 ?_
  refine q_c 13 (by decide +kernel) ?_
  refine q_put (v := .int 13) X hK h 0 rfl rfl wf_12 tyX12 tyX12_ok nmX12 5 (by decide) wm_5_175 rfl rfl rfl (Nat.le_of_ble_eq_true rfl) dX12_feed_112 (fun H locs h => ?_)
  have h : qW D _ _ [(h0, .inr (12, [.int 0, .ref h2, .ref h3, .ref h1, .ref h4, .int 13, .int 0, .int 0, .int 0, .int 0, .int 0, .int 0, .int 0, .int 0, .int (-1), .int 0, .ref h5, .ref h6, .ref h7, .ref h8, .ref h9, .int 0, .int 0, .ref h10, .ref h11, .ref h12, .int 0, .int 0, .ref h13, .ref h14, .ref h15, .ref h16, .ref h17, .int 0, .ref h18, .ref h19, .ref h20])), (h1, .inl (cy 1, 900, .inl f_5372))] _ _ := h
  refine lv_iinc (v := 13) (lv' := [(6, .int 13), (7, .int p3), (0, .ref h0), (1, .int p0), (2, .int p1), (3, .int p2), (4, .int p3), (5, .int p4)]) hx hb dX12_feed_115 hl (k := 1) rfl (by decide +kernel) (by decide) rfl (fun ls hl => ?_)
  refine lv_goto (tgt := 24) hx hb dX12_feed_118 (by decide) ?_
  refine lv_iload hx hb dX12_feed_24 (lv_at hl 0 rfl) ?_
  refine lv_bipush (v := 20) hx hb dX12_feed_26 (by decide) ?_
  refine lv_icmp_ge (tgt := 121) hx hb dX12_feed_28 (by decide) (fun c => absurd c (by decide +kernel)) (fun _ => ?_)
  refine lv_iload hx hb dX12_feed_31 (lv_at hl 0 rfl) ?_
  refine lv_iconst (v := 4) hx hb dX12_feed_33 (by decide) ?_
  refine lv_icmp_ge (tgt := 41) hx hb dX12_feed_34 (by decide) (fun _ => ?_) (fun c => absurd c (by decide +kernel))
  refine lv_iload hx hb dX12_feed_41 (lv_at hl 0 rfl) ?_
  refine lv_bipush (v := 8) hx hb dX12_feed_43 (by decide) ?_
  refine lv_icmp_ge (tgt := 52) hx hb dX12_feed_45 (by decide) (fun _ => ?_) (fun c => absurd c (by decide +kernel))
  refine lv_iload hx hb dX12_feed_52 (lv_at hl 0 rfl) ?_
  refine lv_bipush (v := 12) hx hb dX12_feed_54 (by decide) ?_
  refine lv_icmp_ge (tgt := 63) hx hb dX12_feed_56 (by decide) (fun _ => ?_) (fun c => absurd c (by decide +kernel))
  refine lv_iload hx hb dX12_feed_63 (lv_at hl 0 rfl) ?_
  refine lv_bipush (v := 16) hx hb dX12_feed_65 (by decide) ?_
  refine lv_icmp_ge (tgt := 75) hx hb dX12_feed_67 (by decide) (fun c => absurd c (by decide +kernel)) (fun _ => ?_)
  refine lv_iload hx hb dX12_feed_70 (lv_at hl 6 rfl) ?_
  refine lv_goto (tgt := 77) hx hb dX12_feed_72 (by decide) ?_
  refine lv_istore (lv' := [(7, .int p3), (6, .int 13), (0, .ref h0), (1, .int p0), (2, .int p1), (3, .int p2), (4, .int p3), (5, .int p4)]) hx hb dX12_feed_77 hl (by decide) rfl (fun ls hl => ?_)
  refine lv_aload_n hx hb dX12_feed_79 rfl (lv_at hl 2 rfl) ?_
  refine q_get X hK h 0 rfl rfl wf_12 3 (by decide) rfl wm_5_173 dX12_feed_80 ?_
  refine lv_aload_n hx hb dX12_feed_83 rfl (lv_at hl 2 rfl) ?_
  refine q_get X hK h 0 rfl rfl wf_12 5 (by decide) rfl wm_5_175 dX12_feed_84 ?_
  refine lv_iload hx hb dX12_feed_87 (lv_at hl 0 rfl) ?_
  refine lv_bipush (v := 24) hx hb dX12_feed_89 (by decide) ?_
  refine lv_bipush (v := 8) hx hb dX12_feed_91 (by decide) ?_
  refine lv_iload hx hb dX12_feed_93 (lv_at hl 1 rfl) ?_
  refine lv_iconst (v := 4) hx hb dX12_feed_95 (by decide) ?_
  refine lv_irem hx hb dX12_feed_96 (by decide) ?_
  refine q_c 1 (by decide +kernel) ?_
  refine lv_imul hx hb dX12_feed_97 ?_
  refine q_c 8 (by decide +kernel) ?_
  refine lv_isub hx hb dX12_feed_98 ?_
  refine q_c 16 (by decide +kernel) ?_
  refine lv_ishr hx hb dX12_feed_99 ?_
  refine lv_sipush (v := 255) hx hb dX12_feed_100 (by decide) ?_
  refine lv_iand hx hb dX12_feed_103 ?_
  refine q_iast X hK h 1 rfl (q_in (by decide +kernel)) dX12_feed_104 (fun H locs h => ?_)
  have h : qW D _ _ [(h0, .inr (12, [.int 0, .ref h2, .ref h3, .ref h1, .ref h4, .int 13, .int 0, .int 0, .int 0, .int 0, .int 0, .int 0, .int 0, .int 0, .int (-1), .int 0, .ref h5, .ref h6, .ref h7, .ref h8, .ref h9, .int 0, .int 0, .ref h10, .ref h11, .ref h12, .int 0, .int 0, .ref h13, .ref h14, .ref h15, .ref h16, .ref h17, .int 0, .ref h18, .ref h19, .ref h20])), (h1, .inl (cy 1, 900, .inl (upd f_5372 (Int32.toNatClampNeg 13) ((p3 >>> (16 &&& 31)) &&& 255))))] _ _ := h
  generalize (upd f_5372 (Int32.toNatClampNeg 13) ((p3 >>> (16 &&& 31)) &&& 255)) = f_5373 at h
  refine lv_aload_n hx hb dX12_feed_105 rfl (lv_at hl 2 rfl) ?_
  refine lv_dup hx hb dX12_feed_106 rfl ?_
  refine q_get X hK h 0 rfl rfl wf_12 5 (by decide) rfl wm_5_175 dX12_feed_107 ?_
  refine lv_iconst (v := 1) hx hb dX12_feed_110 (by decide) ?_
  refine lv_iadd hx hb dX12_feed_111 ?_
  refine q_c 14 (by decide +kernel) ?_
  refine q_put (v := .int 14) X hK h 0 rfl rfl wf_12 tyX12 tyX12_ok nmX12 5 (by decide) wm_5_175 rfl rfl rfl (Nat.le_of_ble_eq_true rfl) dX12_feed_112 (fun H locs h => ?_)
  have h : qW D _ _ [(h0, .inr (12, [.int 0, .ref h2, .ref h3, .ref h1, .ref h4, .int 14, .int 0, .int 0, .int 0, .int 0, .int 0, .int 0, .int 0, .int 0, .int (-1), .int 0, .ref h5, .ref h6, .ref h7, .ref h8, .ref h9, .int 0, .int 0, .ref h10, .ref h11, .ref h12, .int 0, .int 0, .ref h13, .ref h14, .ref h15, .ref h16, .ref h17, .int 0, .ref h18, .ref h19, .ref h20])), (h1, .inl (cy 1, 900, .inl f_5373))] _ _ := h
  refine lv_iinc (v := 14) (lv' := [(6, .int 14), (7, .int p3), (0, .ref h0), (1, .int p0), (2, .int p1), (3, .int p2), (4, .int p3), (5, .int p4)]) hx hb dX12_feed_115 hl (k := 1) rfl (by decide +kernel) (by decide) rfl (fun ls hl => ?_)
  refine lv_goto (tgt := 24) hx hb dX12_feed_118 (by decide) ?_
  refine lv_iload hx hb dX12_feed_24 (lv_at hl 0 rfl) ?_
  refine lv_bipush (v := 20) hx hb dX12_feed_26 (by decide) ?_
  refine lv_icmp_ge (tgt := 121) hx hb dX12_feed_28 (by decide) (fun c => absurd c (by decide +kernel)) (fun _ => ?_)
  refine lv_iload hx hb dX12_feed_31 (lv_at hl 0 rfl) ?_
  refine lv_iconst (v := 4) hx hb dX12_feed_33 (by decide) ?_
  refine lv_icmp_ge (tgt := 41) hx hb dX12_feed_34 (by decide) (fun _ => ?_) (fun c => absurd c (by decide +kernel))
  refine lv_iload hx hb dX12_feed_41 (lv_at hl 0 rfl) ?_
  refine lv_bipush (v := 8) hx hb dX12_feed_43 (by decide) ?_
  refine lv_icmp_ge (tgt := 52) hx hb dX12_feed_45 (by decide) (fun _ => ?_) (fun c => absurd c (by decide +kernel))
  refine lv_iload hx hb dX12_feed_52 (lv_at hl 0 rfl) ?_
  refine lv_bipush (v := 12) hx hb dX12_feed_54 (by decide) ?_
  refine lv_icmp_ge (tgt := 63) hx hb dX12_feed_56 (by decide) (fun _ => ?_) (fun c => absurd c (by decide +kernel))
  refine lv_iload hx hb dX12_feed_63 (lv_at hl 0 rfl) ?_
  refine lv_bipush (v := 16) hx hb dX12_feed_65 (by decide) ?_
  refine lv_icmp_ge (tgt := 75) hx hb dX12_feed_67 (by decide) (fun c => absurd c (by decide +kernel)) (fun _ => ?_)
  refine lv_iload hx hb dX12_feed_70 (lv_at hl 6 rfl) ?_
  refine lv_goto (tgt := 77) hx hb dX12_feed_72 (by decide) ?_
  refine lv_istore (lv' := [(7, .int p3), (6, .int 14), (0, .ref h0), (1, .int p0), (2, .int p1), (3, .int p2), (4, .int p3), (5, .int p4)]) hx hb dX12_feed_77 hl (by decide) rfl (fun ls hl => ?_)
  refine lv_aload_n hx hb dX12_feed_79 rfl (lv_at hl 2 rfl) ?_
  refine q_get X hK h 0 rfl rfl wf_12 3 (by decide) rfl wm_5_173 dX12_feed_80 ?_
  refine lv_aload_n hx hb dX12_feed_83 rfl (lv_at hl 2 rfl) ?_
  refine q_get X hK h 0 rfl rfl wf_12 5 (by decide) rfl wm_5_175 dX12_feed_84 ?_
  refine lv_iload hx hb dX12_feed_87 (lv_at hl 0 rfl) ?_
  refine lv_bipush (v := 24) hx hb dX12_feed_89 (by decide) ?_
  refine lv_bipush (v := 8) hx hb dX12_feed_91 (by decide) ?_
  refine lv_iload hx hb dX12_feed_93 (lv_at hl 1 rfl) ?_
  refine lv_iconst (v := 4) hx hb dX12_feed_95 (by decide) ?_
  refine lv_irem hx hb dX12_feed_96 (by decide) ?_
  refine q_c 2 (by decide +kernel) ?_
  refine lv_imul hx hb dX12_feed_97 ?_
  refine q_c 16 (by decide +kernel) ?_
  refine lv_isub hx hb dX12_feed_98 ?_
  refine q_c 8 (by decide +kernel) ?_
  refine lv_ishr hx hb dX12_feed_99 ?_
  refine lv_sipush (v := 255) hx hb dX12_feed_100 (by decide) ?_
  refine lv_iand hx hb dX12_feed_103 ?_
  refine q_iast X hK h 1 rfl (q_in (by decide +kernel)) dX12_feed_104 (fun H locs h => ?_)
  have h : qW D _ _ [(h0, .inr (12, [.int 0, .ref h2, .ref h3, .ref h1, .ref h4, .int 14, .int 0, .int 0, .int 0, .int 0, .int 0, .int 0, .int 0, .int 0, .int (-1), .int 0, .ref h5, .ref h6, .ref h7, .ref h8, .ref h9, .int 0, .int 0, .ref h10, .ref h11, .ref h12, .int 0, .int 0, .ref h13, .ref h14, .ref h15, .ref h16, .ref h17, .int 0, .ref h18, .ref h19, .ref h20])), (h1, .inl (cy 1, 900, .inl (upd f_5373 (Int32.toNatClampNeg 14) ((p3 >>> (8 &&& 31)) &&& 255))))] _ _ := h
  generalize (upd f_5373 (Int32.toNatClampNeg 14) ((p3 >>> (8 &&& 31)) &&& 255)) = f_5374 at h
  refine lv_aload_n hx hb dX12_feed_105 rfl (lv_at hl 2 rfl) ?_
  refine lv_dup hx hb dX12_feed_106 rfl ?_
  refine q_get X hK h 0 rfl rfl wf_12 5 (by decide) rfl wm_5_175 dX12_feed_107 ?_
  refine lv_iconst (v := 1) hx hb dX12_feed_110 (by decide) ?_
  refine lv_iadd hx hb dX12_feed_111 ?_
  refine q_c 15 (by decide +kernel) ?_
  refine q_put (v := .int 15) X hK h 0 rfl rfl wf_12 tyX12 tyX12_ok nmX12 5 (by decide) wm_5_175 rfl rfl rfl (Nat.le_of_ble_eq_true rfl) dX12_feed_112 (fun H locs h => ?_)
  have h : qW D _ _ [(h0, .inr (12, [.int 0, .ref h2, .ref h3, .ref h1, .ref h4, .int 15, .int 0, .int 0, .int 0, .int 0, .int 0, .int 0, .int 0, .int 0, .int (-1), .int 0, .ref h5, .ref h6, .ref h7, .ref h8, .ref h9, .int 0, .int 0, .ref h10, .ref h11, .ref h12, .int 0, .int 0, .ref h13, .ref h14, .ref h15, .ref h16, .ref h17, .int 0, .ref h18, .ref h19, .ref h20])), (h1, .inl (cy 1, 900, .inl f_5374))] _ _ := h
  refine lv_iinc (v := 15) (lv' := [(6, .int 15), (7, .int p3), (0, .ref h0), (1, .int p0), (2, .int p1), (3, .int p2), (4, .int p3), (5, .int p4)]) hx hb dX12_feed_115 hl (k := 1) rfl (by decide +kernel) (by decide) rfl (fun ls hl => ?_)
  refine lv_goto (tgt := 24) hx hb dX12_feed_118 (by decide) ?_
  refine lv_iload hx hb dX12_feed_24 (lv_at hl 0 rfl) ?_
  refine lv_bipush (v := 20) hx hb dX12_feed_26 (by decide) ?_
  refine lv_icmp_ge (tgt := 121) hx hb dX12_feed_28 (by decide) (fun c => absurd c (by decide +kernel)) (fun _ => ?_)
  refine lv_iload hx hb dX12_feed_31 (lv_at hl 0 rfl) ?_
  refine lv_iconst (v := 4) hx hb dX12_feed_33 (by decide) ?_
  refine lv_icmp_ge (tgt := 41) hx hb dX12_feed_34 (by decide) (fun _ => ?_) (fun c => absurd c (by decide +kernel))
  refine lv_iload hx hb dX12_feed_41 (lv_at hl 0 rfl) ?_
  refine lv_bipush (v := 8) hx hb dX12_feed_43 (by decide) ?_
  refine lv_icmp_ge (tgt := 52) hx hb dX12_feed_45 (by decide) (fun _ => ?_) (fun c => absurd c (by decide +kernel))
  refine lv_iload hx hb dX12_feed_52 (lv_at hl 0 rfl) ?_
  refine lv_bipush (v := 12) hx hb dX12_feed_54 (by decide) ?_
  refine lv_icmp_ge (tgt := 63) hx hb dX12_feed_56 (by decide) (fun _ => ?_) (fun c => absurd c (by decide +kernel))
  refine lv_iload hx hb dX12_feed_63 (lv_at hl 0 rfl) ?_
  refine lv_bipush (v := 16) hx hb dX12_feed_65 (by decide) ?_
  refine lv_icmp_ge (tgt := 75) hx hb dX12_feed_67 (by decide) (fun c => absurd c (by decide +kernel)) (fun _ => ?_)
  refine lv_iload hx hb dX12_feed_70 (lv_at hl 6 rfl) ?_
  refine lv_goto (tgt := 77) hx hb dX12_feed_72 (by decide) ?_
  refine lv_istore (lv' := [(7, .int p3), (6, .int 15), (0, .ref h0), (1, .int p0), (2, .int p1), (3, .int p2), (4, .int p3), (5, .int p4)]) hx hb dX12_feed_77 hl (by decide) rfl (fun ls hl => ?_)
  refine lv_aload_n hx hb dX12_feed_79 rfl (lv_at hl 2 rfl) ?_
  refine q_get X hK h 0 rfl rfl wf_12 3 (by decide) rfl wm_5_173 dX12_feed_80 ?_
  refine lv_aload_n hx hb dX12_feed_83 rfl (lv_at hl 2 rfl) ?_
  refine q_get X hK h 0 rfl rfl wf_12 5 (by decide) rfl wm_5_175 dX12_feed_84 ?_
  refine lv_iload hx hb dX12_feed_87 (lv_at hl 0 rfl) ?_
  refine lv_bipush (v := 24) hx hb dX12_feed_89 (by decide) ?_
  refine lv_bipush (v := 8) hx hb dX12_feed_91 (by decide) ?_
  refine lv_iload hx hb dX12_feed_93 (lv_at hl 1 rfl) ?_
  refine lv_iconst (v := 4) hx hb dX12_feed_95 (by decide) ?_
  refine lv_irem hx hb dX12_feed_96 (by decide) ?_
  refine q_c 3 (by decide +kernel) ?_
  refine lv_imul hx hb dX12_feed_97 ?_
  refine q_c 24 (by decide +kernel) ?_
  refine lv_isub hx hb dX12_feed_98 ?_
  refine q_c 0 (by decide +kernel) ?_
  refine lv_ishr hx hb dX12_feed_99 ?_
  refine lv_sipush (v := 255) hx hb dX12_feed_100 (by decide) ?_
  refine lv_iand hx hb dX12_feed_103 ?_
  refine q_iast X hK h 1 rfl (q_in (by decide +kernel)) dX12_feed_104 (fun H locs h => ?_)
  have h : qW D _ _ [(h0, .inr (12, [.int 0, .ref h2, .ref h3, .ref h1, .ref h4, .int 15, .int 0, .int 0, .int 0, .int 0, .int 0, .int 0, .int 0, .int 0, .int (-1), .int 0, .ref h5, .ref h6, .ref h7, .ref h8, .ref h9, .int 0, .int 0, .ref h10, .ref h11, .ref h12, .int 0, .int 0, .ref h13, .ref h14, .ref h15, .ref h16, .ref h17, .int 0, .ref h18, .ref h19, .ref h20])), (h1, .inl (cy 1, 900, .inl (upd f_5374 (Int32.toNatClampNeg 15) ((p3 >>> (0 &&& 31)) &&& 255))))] _ _ := h
  generalize (upd f_5374 (Int32.toNatClampNeg 15) ((p3 >>> (0 &&& 31)) &&& 255)) = f_5375 at h
  refine lv_aload_n hx hb dX12_feed_105 rfl (lv_at hl 2 rfl) ?_
  refine lv_dup hx hb dX12_feed_106 rfl ?_
  refine q_get X hK h 0 rfl rfl wf_12 5 (by decide) rfl wm_5_175 dX12_feed_107 ?_
  refine lv_iconst (v := 1) hx hb dX12_feed_110 (by decide) ?_
  refine lv_iadd hx hb dX12_feed_111 ?_
  refine q_c 16 (by decide +kernel) ?_
  refine q_put (v := .int 16) X hK h 0 rfl rfl wf_12 tyX12 tyX12_ok nmX12 5 (by decide) wm_5_175 rfl rfl rfl (Nat.le_of_ble_eq_true rfl) dX12_feed_112 (fun H locs h => ?_)
  have h : qW D _ _ [(h0, .inr (12, [.int 0, .ref h2, .ref h3, .ref h1, .ref h4, .int 16, .int 0, .int 0, .int 0, .int 0, .int 0, .int 0, .int 0, .int 0, .int (-1), .int 0, .ref h5, .ref h6, .ref h7, .ref h8, .ref h9, .int 0, .int 0, .ref h10, .ref h11, .ref h12, .int 0, .int 0, .ref h13, .ref h14, .ref h15, .ref h16, .ref h17, .int 0, .ref h18, .ref h19, .ref h20])), (h1, .inl (cy 1, 900, .inl f_5375))] _ _ := h
  refine lv_iinc (v := 16) (lv' := [(6, .int 16), (7, .int p3), (0, .ref h0), (1, .int p0), (2, .int p1), (3, .int p2), (4, .int p3), (5, .int p4)]) hx hb dX12_feed_115 hl (k := 1) rfl (by decide +kernel) (by decide) rfl (fun ls hl => ?_)
  refine lv_goto (tgt := 24) hx hb dX12_feed_118 (by decide) ?_
  refine lv_iload hx hb dX12_feed_24 (lv_at hl 0 rfl) ?_
  refine lv_bipush (v := 20) hx hb dX12_feed_26 (by decide) ?_
  refine lv_icmp_ge (tgt := 121) hx hb dX12_feed_28 (by decide) (fun c => absurd c (by decide +kernel)) (fun _ => ?_)
  refine lv_iload hx hb dX12_feed_31 (lv_at hl 0 rfl) ?_
  refine lv_iconst (v := 4) hx hb dX12_feed_33 (by decide) ?_
  refine lv_icmp_ge (tgt := 41) hx hb dX12_feed_34 (by decide) (fun _ => ?_) (fun c => absurd c (by decide +kernel))
  refine lv_iload hx hb dX12_feed_41 (lv_at hl 0 rfl) ?_
  refine lv_bipush (v := 8) hx hb dX12_feed_43 (by decide) ?_
  refine lv_icmp_ge (tgt := 52) hx hb dX12_feed_45 (by decide) (fun _ => ?_) (fun c => absurd c (by decide +kernel))
  refine lv_iload hx hb dX12_feed_52 (lv_at hl 0 rfl) ?_
  refine lv_bipush (v := 12) hx hb dX12_feed_54 (by decide) ?_
  refine lv_icmp_ge (tgt := 63) hx hb dX12_feed_56 (by decide) (fun _ => ?_) (fun c => absurd c (by decide +kernel))
  refine lv_iload hx hb dX12_feed_63 (lv_at hl 0 rfl) ?_
  refine lv_bipush (v := 16) hx hb dX12_feed_65 (by decide) ?_
  refine lv_icmp_ge (tgt := 75) hx hb dX12_feed_67 (by decide) (fun _ => ?_) (fun c => absurd c (by decide +kernel))
  refine lv_iload hx hb dX12_feed_75 (lv_at hl 7 rfl) ?_
  refine lv_istore (lv' := [(7, .int p4), (6, .int 16), (0, .ref h0), (1, .int p0), (2, .int p1), (3, .int p2), (4, .int p3), (5, .int p4)]) hx hb dX12_feed_77 hl (by decide) rfl (fun ls hl => ?_)
  refine lv_aload_n hx hb dX12_feed_79 rfl (lv_at hl 2 rfl) ?_
  refine q_get X hK h 0 rfl rfl wf_12 3 (by decide) rfl wm_5_173 dX12_feed_80 ?_
  refine lv_aload_n hx hb dX12_feed_83 rfl (lv_at hl 2 rfl) ?_
  refine q_get X hK h 0 rfl rfl wf_12 5 (by decide) rfl wm_5_175 dX12_feed_84 ?_
  refine lv_iload hx hb dX12_feed_87 (lv_at hl 0 rfl) ?_
  refine lv_bipush (v := 24) hx hb dX12_feed_89 (by decide) ?_
  refine lv_bipush (v := 8) hx hb dX12_feed_91 (by decide) ?_
  refine lv_iload hx hb dX12_feed_93 (lv_at hl 1 rfl) ?_
  refine lv_iconst (v := 4) hx hb dX12_feed_95 (by decide) ?_
  refine lv_irem hx hb dX12_feed_96 (by decide) ?_
  refine q_c 0 (by decide +kernel) ?_
  refine lv_imul hx hb dX12_feed_97 ?_
  refine q_c 0 (by decide +kernel) ?_
  refine lv_isub hx hb dX12_feed_98 ?_
  refine q_c 24 (by decide +kernel) ?_
  refine lv_ishr hx hb dX12_feed_99 ?_
  refine lv_sipush (v := 255) hx hb dX12_feed_100 (by decide) ?_
  refine lv_iand hx hb dX12_feed_103 ?_
  refine q_iast X hK h 1 rfl (q_in (by decide +kernel)) dX12_feed_104 (fun H locs h => ?_)
  have h : qW D _ _ [(h0, .inr (12, [.int 0, .ref h2, .ref h3, .ref h1, .ref h4, .int 16, .int 0, .int 0, .int 0, .int 0, .int 0, .int 0, .int 0, .int 0, .int (-1), .int 0, .ref h5, .ref h6, .ref h7, .ref h8, .ref h9, .int 0, .int 0, .ref h10, .ref h11, .ref h12, .int 0, .int 0, .ref h13, .ref h14, .ref h15, .ref h16, .ref h17, .int 0, .ref h18, .ref h19, .ref h20])), (h1, .inl (cy 1, 900, .inl (upd f_5375 (Int32.toNatClampNeg 16) ((p4 >>> (24 &&& 31)) &&& 255))))] _ _ := h
  generalize (upd f_5375 (Int32.toNatClampNeg 16) ((p4 >>> (24 &&& 31)) &&& 255)) = f_5376 at h
  refine lv_aload_n hx hb dX12_feed_105 rfl (lv_at hl 2 rfl) ?_
  refine lv_dup hx hb dX12_feed_106 rfl ?_
  refine q_get X hK h 0 rfl rfl wf_12 5 (by decide) rfl wm_5_175 dX12_feed_107 ?_
  refine lv_iconst (v := 1) hx hb dX12_feed_110 (by decide) ?_
  refine lv_iadd hx hb dX12_feed_111 ?_
  refine q_c 17 (by decide +kernel) ?_
  refine q_put (v := .int 17) X hK h 0 rfl rfl wf_12 tyX12 tyX12_ok nmX12 5 (by decide) wm_5_175 rfl rfl rfl (Nat.le_of_ble_eq_true rfl) dX12_feed_112 (fun H locs h => ?_)
  have h : qW D _ _ [(h0, .inr (12, [.int 0, .ref h2, .ref h3, .ref h1, .ref h4, .int 17, .int 0, .int 0, .int 0, .int 0, .int 0, .int 0, .int 0, .int 0, .int (-1), .int 0, .ref h5, .ref h6, .ref h7, .ref h8, .ref h9, .int 0, .int 0, .ref h10, .ref h11, .ref h12, .int 0, .int 0, .ref h13, .ref h14, .ref h15, .ref h16, .ref h17, .int 0, .ref h18, .ref h19, .ref h20])), (h1, .inl (cy 1, 900, .inl f_5376))] _ _ := h
  refine lv_iinc (v := 17) (lv' := [(6, .int 17), (7, .int p4), (0, .ref h0), (1, .int p0), (2, .int p1), (3, .int p2), (4, .int p3), (5, .int p4)]) hx hb dX12_feed_115 hl (k := 1) rfl (by decide +kernel) (by decide) rfl (fun ls hl => ?_)
  refine lv_goto (tgt := 24) hx hb dX12_feed_118 (by decide) ?_
  refine lv_iload hx hb dX12_feed_24 (lv_at hl 0 rfl) ?_
  refine lv_bipush (v := 20) hx hb dX12_feed_26 (by decide) ?_
  refine lv_icmp_ge (tgt := 121) hx hb dX12_feed_28 (by decide) (fun c => absurd c (by decide +kernel)) (fun _ => ?_)
  refine lv_iload hx hb dX12_feed_31 (lv_at hl 0 rfl) ?_
  refine lv_iconst (v := 4) hx hb dX12_feed_33 (by decide) ?_
  refine lv_icmp_ge (tgt := 41) hx hb dX12_feed_34 (by decide) (fun _ => ?_) (fun c => absurd c (by decide +kernel))
  refine lv_iload hx hb dX12_feed_41 (lv_at hl 0 rfl) ?_
  refine lv_bipush (v := 8) hx hb dX12_feed_43 (by decide) ?_
  refine lv_icmp_ge (tgt := 52) hx hb dX12_feed_45 (by decide) (fun _ => ?_) (fun c => absurd c (by decide +kernel))
  refine lv_iload hx hb dX12_feed_52 (lv_at hl 0 rfl) ?_
  refine lv_bipush (v := 12) hx hb dX12_feed_54 (by decide) ?_
  refine lv_icmp_ge (tgt := 63) hx hb dX12_feed_56 (by decide) (fun _ => ?_) (fun c => absurd c (by decide +kernel))
  refine lv_iload hx hb dX12_feed_63 (lv_at hl 0 rfl) ?_
  refine lv_bipush (v := 16) hx hb dX12_feed_65 (by decide) ?_
  refine lv_icmp_ge (tgt := 75) hx hb dX12_feed_67 (by decide) (fun _ => ?_) (fun c => absurd c (by decide +kernel))
  refine lv_iload hx hb dX12_feed_75 (lv_at hl 7 rfl) ?_
  refine lv_istore (lv' := [(7, .int p4), (6, .int 17), (0, .ref h0), (1, .int p0), (2, .int p1), (3, .int p2), (4, .int p3), (5, .int p4)]) hx hb dX12_feed_77 hl (by decide) rfl (fun ls hl => ?_)
  refine lv_aload_n hx hb dX12_feed_79 rfl (lv_at hl 2 rfl) ?_
  refine q_get X hK h 0 rfl rfl wf_12 3 (by decide) rfl wm_5_173 dX12_feed_80 ?_
  refine lv_aload_n hx hb dX12_feed_83 rfl (lv_at hl 2 rfl) ?_
  refine q_get X hK h 0 rfl rfl wf_12 5 (by decide) rfl wm_5_175 dX12_feed_84 ?_
  refine lv_iload hx hb dX12_feed_87 (lv_at hl 0 rfl) ?_
  refine lv_bipush (v := 24) hx hb dX12_feed_89 (by decide) ?_
  refine lv_bipush (v := 8) hx hb dX12_feed_91 (by decide) ?_
  refine lv_iload hx hb dX12_feed_93 (lv_at hl 1 rfl) ?_
  refine lv_iconst (v := 4) hx hb dX12_feed_95 (by decide) ?_
  refine lv_irem hx hb dX12_feed_96 (by decide) ?_
  refine q_c 1 (by decide +kernel) ?_
  refine lv_imul hx hb dX12_feed_97 ?_
  refine q_c 8 (by decide +kernel) ?_
  refine lv_isub hx hb dX12_feed_98 ?_
  refine q_c 16 (by decide +kernel) ?_
  refine lv_ishr hx hb dX12_feed_99 ?_
  refine lv_sipush (v := 255) hx hb dX12_feed_100 (by decide) ?_
  refine lv_iand hx hb dX12_feed_103 ?_
  refine q_iast X hK h 1 rfl (q_in (by decide +kernel)) dX12_feed_104 (fun H locs h => ?_)
  have h : qW D _ _ [(h0, .inr (12, [.int 0, .ref h2, .ref h3, .ref h1, .ref h4, .int 17, .int 0, .int 0, .int 0, .int 0, .int 0, .int 0, .int 0, .int 0, .int (-1), .int 0, .ref h5, .ref h6, .ref h7, .ref h8, .ref h9, .int 0, .int 0, .ref h10, .ref h11, .ref h12, .int 0, .int 0, .ref h13, .ref h14, .ref h15, .ref h16, .ref h17, .int 0, .ref h18, .ref h19, .ref h20])), (h1, .inl (cy 1, 900, .inl (upd f_5376 (Int32.toNatClampNeg 17) ((p4 >>> (16 &&& 31)) &&& 255))))] _ _ := h
  generalize (upd f_5376 (Int32.toNatClampNeg 17) ((p4 >>> (16 &&& 31)) &&& 255)) = f_5377 at h
  refine lv_aload_n hx hb dX12_feed_105 rfl (lv_at hl 2 rfl) ?_
  refine lv_dup hx hb dX12_feed_106 rfl ?_
  refine q_get X hK h 0 rfl rfl wf_12 5 (by decide) rfl wm_5_175 dX12_feed_107 ?_
  refine lv_iconst (v := 1) hx hb dX12_feed_110 (by decide) ?_
  refine lv_iadd hx hb dX12_feed_111 ?_
  refine q_c 18 (by decide +kernel) ?_
  refine q_put (v := .int 18) X hK h 0 rfl rfl wf_12 tyX12 tyX12_ok nmX12 5 (by decide) wm_5_175 rfl rfl rfl (Nat.le_of_ble_eq_true rfl) dX12_feed_112 (fun H locs h => ?_)
  have h : qW D _ _ [(h0, .inr (12, [.int 0, .ref h2, .ref h3, .ref h1, .ref h4, .int 18, .int 0, .int 0, .int 0, .int 0, .int 0, .int 0, .int 0, .int 0, .int (-1), .int 0, .ref h5, .ref h6, .ref h7, .ref h8, .ref h9, .int 0, .int 0, .ref h10, .ref h11, .ref h12, .int 0, .int 0, .ref h13, .ref h14, .ref h15, .ref h16, .ref h17, .int 0, .ref h18, .ref h19, .ref h20])), (h1, .inl (cy 1, 900, .inl f_5377))] _ _ := h
  refine lv_iinc (v := 18) (lv' := [(6, .int 18), (7, .int p4), (0, .ref h0), (1, .int p0), (2, .int p1), (3, .int p2), (4, .int p3), (5, .int p4)]) hx hb dX12_feed_115 hl (k := 1) rfl (by decide +kernel) (by decide) rfl (fun ls hl => ?_)
  refine lv_goto (tgt := 24) hx hb dX12_feed_118 (by decide) ?_
  refine lv_iload hx hb dX12_feed_24 (lv_at hl 0 rfl) ?_
  refine lv_bipush (v := 20) hx hb dX12_feed_26 (by decide) ?_
  refine lv_icmp_ge (tgt := 121) hx hb dX12_feed_28 (by decide) (fun c => absurd c (by decide +kernel)) (fun _ => ?_)
  refine lv_iload hx hb dX12_feed_31 (lv_at hl 0 rfl) ?_
  refine lv_iconst (v := 4) hx hb dX12_feed_33 (by decide) ?_
  refine lv_icmp_ge (tgt := 41) hx hb dX12_feed_34 (by decide) (fun _ => ?_) (fun c => absurd c (by decide +kernel))
  refine lv_iload hx hb dX12_feed_41 (lv_at hl 0 rfl) ?_
  refine lv_bipush (v := 8) hx hb dX12_feed_43 (by decide) ?_
  refine lv_icmp_ge (tgt := 52) hx hb dX12_feed_45 (by decide) (fun _ => ?_) (fun c => absurd c (by decide +kernel))
  refine lv_iload hx hb dX12_feed_52 (lv_at hl 0 rfl) ?_
  refine lv_bipush (v := 12) hx hb dX12_feed_54 (by decide) ?_
  refine lv_icmp_ge (tgt := 63) hx hb dX12_feed_56 (by decide) (fun _ => ?_) (fun c => absurd c (by decide +kernel))
  refine lv_iload hx hb dX12_feed_63 (lv_at hl 0 rfl) ?_
  refine lv_bipush (v := 16) hx hb dX12_feed_65 (by decide) ?_
  refine lv_icmp_ge (tgt := 75) hx hb dX12_feed_67 (by decide) (fun _ => ?_) (fun c => absurd c (by decide +kernel))
  refine lv_iload hx hb dX12_feed_75 (lv_at hl 7 rfl) ?_
  refine lv_istore (lv' := [(7, .int p4), (6, .int 18), (0, .ref h0), (1, .int p0), (2, .int p1), (3, .int p2), (4, .int p3), (5, .int p4)]) hx hb dX12_feed_77 hl (by decide) rfl (fun ls hl => ?_)
  refine lv_aload_n hx hb dX12_feed_79 rfl (lv_at hl 2 rfl) ?_
  refine q_get X hK h 0 rfl rfl wf_12 3 (by decide) rfl wm_5_173 dX12_feed_80 ?_
  refine lv_aload_n hx hb dX12_feed_83 rfl (lv_at hl 2 rfl) ?_
  refine q_get X hK h 0 rfl rfl wf_12 5 (by decide) rfl wm_5_175 dX12_feed_84 ?_
  refine lv_iload hx hb dX12_feed_87 (lv_at hl 0 rfl) ?_
  refine lv_bipush (v := 24) hx hb dX12_feed_89 (by decide) ?_
  refine lv_bipush (v := 8) hx hb dX12_feed_91 (by decide) ?_
  refine lv_iload hx hb dX12_feed_93 (lv_at hl 1 rfl) ?_
  refine lv_iconst (v := 4) hx hb dX12_feed_95 (by decide) ?_
  refine lv_irem hx hb dX12_feed_96 (by decide) ?_
  refine q_c 2 (by decide +kernel) ?_
  refine lv_imul hx hb dX12_feed_97 ?_
  refine q_c 16 (by decide +kernel) ?_
  refine lv_isub hx hb dX12_feed_98 ?_
  refine q_c 8 (by decide +kernel) ?_
  refine lv_ishr hx hb dX12_feed_99 ?_
  refine lv_sipush (v := 255) hx hb dX12_feed_100 (by decide) ?_
  refine lv_iand hx hb dX12_feed_103 ?_
  refine q_iast X hK h 1 rfl (q_in (by decide +kernel)) dX12_feed_104 (fun H locs h => ?_)
  have h : qW D _ _ [(h0, .inr (12, [.int 0, .ref h2, .ref h3, .ref h1, .ref h4, .int 18, .int 0, .int 0, .int 0, .int 0, .int 0, .int 0, .int 0, .int 0, .int (-1), .int 0, .ref h5, .ref h6, .ref h7, .ref h8, .ref h9, .int 0, .int 0, .ref h10, .ref h11, .ref h12, .int 0, .int 0, .ref h13, .ref h14, .ref h15, .ref h16, .ref h17, .int 0, .ref h18, .ref h19, .ref h20])), (h1, .inl (cy 1, 900, .inl (upd f_5377 (Int32.toNatClampNeg 18) ((p4 >>> (8 &&& 31)) &&& 255))))] _ _ := h
  generalize (upd f_5377 (Int32.toNatClampNeg 18) ((p4 >>> (8 &&& 31)) &&& 255)) = f_5378 at h
  refine lv_aload_n hx hb dX12_feed_105 rfl (lv_at hl 2 rfl) ?_
  refine lv_dup hx hb dX12_feed_106 rfl ?_
  refine q_get X hK h 0 rfl rfl wf_12 5 (by decide) rfl wm_5_175 dX12_feed_107 ?_
  refine lv_iconst (v := 1) hx hb dX12_feed_110 (by decide) ?_
  refine lv_iadd hx hb dX12_feed_111 ?_
  refine q_c 19 (by decide +kernel) ?_
  refine q_put (v := .int 19) X hK h 0 rfl rfl wf_12 tyX12 tyX12_ok nmX12 5 (by decide) wm_5_175 rfl rfl rfl (Nat.le_of_ble_eq_true rfl) dX12_feed_112 (fun H locs h => ?_)
  have h : qW D _ _ [(h0, .inr (12, [.int 0, .ref h2, .ref h3, .ref h1, .ref h4, .int 19, .int 0, .int 0, .int 0, .int 0, .int 0, .int 0, .int 0, .int 0, .int (-1), .int 0, .ref h5, .ref h6, .ref h7, .ref h8, .ref h9, .int 0, .int 0, .ref h10, .ref h11, .ref h12, .int 0, .int 0, .ref h13, .ref h14, .ref h15, .ref h16, .ref h17, .int 0, .ref h18, .ref h19, .ref h20])), (h1, .inl (cy 1, 900, .inl f_5378))] _ _ := h
  refine lv_iinc (v := 19) (lv' := [(6, .int 19), (7, .int p4), (0, .ref h0), (1, .int p0), (2, .int p1), (3, .int p2), (4, .int p3), (5, .int p4)]) hx hb dX12_feed_115 hl (k := 1) rfl (by decide +kernel) (by decide) rfl (fun ls hl => ?_)
  refine lv_goto (tgt := 24) hx hb dX12_feed_118 (by decide) ?_
  refine lv_iload hx hb dX12_feed_24 (lv_at hl 0 rfl) ?_
  refine lv_bipush (v := 20) hx hb dX12_feed_26 (by decide) ?_
  refine lv_icmp_ge (tgt := 121) hx hb dX12_feed_28 (by decide) (fun c => absurd c (by decide +kernel)) (fun _ => ?_)
  refine lv_iload hx hb dX12_feed_31 (lv_at hl 0 rfl) ?_
  refine lv_iconst (v := 4) hx hb dX12_feed_33 (by decide) ?_
  refine lv_icmp_ge (tgt := 41) hx hb dX12_feed_34 (by decide) (fun _ => ?_) (fun c => absurd c (by decide +kernel))
  refine lv_iload hx hb dX12_feed_41 (lv_at hl 0 rfl) ?_
  refine lv_bipush (v := 8) hx hb dX12_feed_43 (by decide) ?_
  refine lv_icmp_ge (tgt := 52) hx hb dX12_feed_45 (by decide) (fun _ => ?_) (fun c => absurd c (by decide +kernel))
  refine lv_iload hx hb dX12_feed_52 (lv_at hl 0 rfl) ?_
  refine lv_bipush (v := 12) hx hb dX12_feed_54 (by decide) ?_
  refine lv_icmp_ge (tgt := 63) hx hb dX12_feed_56 (by decide) (fun _ => ?_) (fun c => absurd c (by decide +kernel))
  refine lv_iload hx hb dX12_feed_63 (lv_at hl 0 rfl) ?_
  refine lv_bipush (v := 16) hx hb dX12_feed_65 (by decide) ?_
  refine lv_icmp_ge (tgt := 75) hx hb dX12_feed_67 (by decide) (fun _ => ?_) (fun c => absurd c (by decide +kernel))
  refine lv_iload hx hb dX12_feed_75 (lv_at hl 7 rfl) ?_
  refine lv_istore (lv' := [(7, .int p4), (6, .int 19), (0, .ref h0), (1, .int p0), (2, .int p1), (3, .int p2), (4, .int p3), (5, .int p4)]) hx hb dX12_feed_77 hl (by decide) rfl (fun ls hl => ?_)
  refine lv_aload_n hx hb dX12_feed_79 rfl (lv_at hl 2 rfl) ?_
  refine q_get X hK h 0 rfl rfl wf_12 3 (by decide) rfl wm_5_173 dX12_feed_80 ?_
  refine lv_aload_n hx hb dX12_feed_83 rfl (lv_at hl 2 rfl) ?_
  refine q_get X hK h 0 rfl rfl wf_12 5 (by decide) rfl wm_5_175 dX12_feed_84 ?_
  refine lv_iload hx hb dX12_feed_87 (lv_at hl 0 rfl) ?_
  refine lv_bipush (v := 24) hx hb dX12_feed_89 (by decide) ?_
  refine lv_bipush (v := 8) hx hb dX12_feed_91 (by decide) ?_
  refine lv_iload hx hb dX12_feed_93 (lv_at hl 1 rfl) ?_
  refine lv_iconst (v := 4) hx hb dX12_feed_95 (by decide) ?_
  refine lv_irem hx hb dX12_feed_96 (by decide) ?_
  refine q_c 3 (by decide +kernel) ?_
  refine lv_imul hx hb dX12_feed_97 ?_
  refine q_c 24 (by decide +kernel) ?_
  refine lv_isub hx hb dX12_feed_98 ?_
  refine q_c 0 (by decide +kernel) ?_
  refine lv_ishr hx hb dX12_feed_99 ?_
  refine lv_sipush (v := 255) hx hb dX12_feed_100 (by decide) ?_
  refine lv_iand hx hb dX12_feed_103 ?_
  refine q_iast X hK h 1 rfl (q_in (by decide +kernel)) dX12_feed_104 (fun H locs h => ?_)
  have h : qW D _ _ [(h0, .inr (12, [.int 0, .ref h2, .ref h3, .ref h1, .ref h4, .int 19, .int 0, .int 0, .int 0, .int 0, .int 0, .int 0, .int 0, .int 0, .int (-1), .int 0, .ref h5, .ref h6, .ref h7, .ref h8, .ref h9, .int 0, .int 0, .ref h10, .ref h11, .ref h12, .int 0, .int 0, .ref h13, .ref h14, .ref h15, .ref h16, .ref h17, .int 0, .ref h18, .ref h19, .ref h20])), (h1, .inl (cy 1, 900, .inl (upd f_5378 (Int32.toNatClampNeg 19) ((p4 >>> (0 &&& 31)) &&& 255))))] _ _ := h
  generalize (upd f_5378 (Int32.toNatClampNeg 19) ((p4 >>> (0 &&& 31)) &&& 255)) = f_5379 at h
  refine lv_aload_n hx hb dX12_feed_105 rfl (lv_at hl 2 rfl) ?_
  refine lv_dup hx hb dX12_feed_106 rfl ?_
  refine q_get X hK h 0 rfl rfl wf_12 5 (by decide) rfl wm_5_175 dX12_feed_107 ?_
  refine lv_iconst (v := 1) hx hb dX12_feed_110 (by decide) ?_
  refine lv_iadd hx hb dX12_feed_111 ?_
  refine q_c 20 (by decide +kernel) ?_
  refine q_put (v := .int 20) X hK h 0 rfl rfl wf_12 tyX12 tyX12_ok nmX12 5 (by decide) wm_5_175 rfl rfl rfl (Nat.le_of_ble_eq_true rfl) dX12_feed_112 (fun H locs h => ?_)
  have h : qW D _ _ [(h0, .inr (12, [.int 0, .ref h2, .ref h3, .ref h1, .ref h4, .int 20, .int 0, .int 0, .int 0, .int 0, .int 0, .int 0, .int 0, .int 0, .int (-1), .int 0, .ref h5, .ref h6, .ref h7, .ref h8, .ref h9, .int 0, .int 0, .ref h10, .ref h11, .ref h12, .int 0, .int 0, .ref h13, .ref h14, .ref h15, .ref h16, .ref h17, .int 0, .ref h18, .ref h19, .ref h20])), (h1, .inl (cy 1, 900, .inl f_5379))] _ _ := h
  refine lv_iinc (v := 20) (lv' := [(6, .int 20), (7, .int p4), (0, .ref h0), (1, .int p0), (2, .int p1), (3, .int p2), (4, .int p3), (5, .int p4)]) hx hb dX12_feed_115 hl (k := 1) rfl (by decide +kernel) (by decide) rfl (fun ls hl => ?_)
  refine lv_goto (tgt := 24) hx hb dX12_feed_118 (by decide) ?_
  refine lv_iload hx hb dX12_feed_24 (lv_at hl 0 rfl) ?_
  refine lv_bipush (v := 20) hx hb dX12_feed_26 (by decide) ?_
  refine lv_icmp_ge (tgt := 121) hx hb dX12_feed_28 (by decide) (fun _ => ?_) (fun c => absurd c (by decide +kernel))
  refine lv_aload_n hx hb dX12_feed_121 rfl (lv_at hl 2 rfl) ?_
  refine q_get X hK h 0 rfl rfl wf_12 5 (by decide) rfl wm_5_175 dX12_feed_122 ?_
  exact q_iret X hr hlk hK h rfl (fun _ => 0, fun k => List.getD [f_5379] k (fun _ => 0), fun _ _ => 0) rfl [0, 1] rfl rfl dX12_feed_125 (Nat.le_of_ble_eq_true rfl) (Nat.le_of_ble_eq_true rfl)
set_option maxHeartbeats 4000000 in
set_option maxRecDepth 100000 in
theorem kX12_within_407 (l : Launch) (D : va_G) (cy : Nat → ClassId) (j0 : Int64) (hhi_j0 : j0 ≤ ((-1) : Int64)) (sz : Nat) : MI l yX12_within cX12_within 6 .boolean { frames := 0, cells := 0, slots := 0, locals := 0 } [.long j0, .long 0, .long 0] D cy [] sz (fun r u => r = 0) (fun u => []) 0 0 := by
  refine q_ent (own := RX12) (by decide) rfl (Nat.le_of_ble_eq_true rfl) (fun p e s m below meth c ls X hr hlk hnm hK h hA hl => ?_)
  obtain ⟨hx, hb, hml, hown, ht⟩ := id X
  have hl : lv_has ls 6 [(0, .long j0), (2, .long 0), (4, .long 0)] := hl
  refine lv_lload_n hx hb dX12_within_0 rfl (lv_at hl 0 rfl) ?_
  refine lv_lload_n hx hb dX12_within_1 rfl (lv_at hl 1 rfl) ?_
  refine W.lcmp hx hb dX12_within_2 ?_
  refine lv_if_lt (tgt := 17) hx hb dX12_within_3 (by decide) (fun c_5382 => ?_) (fun c_5382 => ?_)
  · refine lv_iconst (v := 0) hx hb dX12_within_17 (by decide) ?_
    exact q_iret X hr hlk hK h rfl (fun _ => 0, fun _ _ => 0, fun _ _ => 0) rfl [] rfl rfl dX12_within_18 (Nat.le_of_ble_eq_true rfl) (Nat.le_of_ble_eq_true rfl)
  · exfalso
    simp only [q_lc_lt, q_lc_ge, q_lc_gt, q_lc_le, q_lc_eq, Int32.toInt_toInt64, Int64.lt_iff_toInt_lt, Int64.le_iff_toInt_le, ← Int64.toInt_inj, Int32.lt_iff_toInt_lt, Int32.le_iff_toInt_le, ← Int32.toInt_inj] at hhi_j0 c_5382
    have k_0 : ((-1) : Int64).toInt = -1 := by decide
    have k_1 : (0 : Int64).toInt = 0 := by decide
    omega
