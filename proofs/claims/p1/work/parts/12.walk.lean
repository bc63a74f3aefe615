set_option maxHeartbeats 4000000 in
set_option maxRecDepth 100000 in
theorem kX12_plain_12 (l : Launch) (D : va_G) (cy : Nat → ClassId) (h0 : Nat) (sz : Nat) : MV l yX12_plain cX12_plain 2 { frames := 0, cells := 0, slots := 0, locals := 0 } [.ref h0] D cy [(h0, .inl (cy 1, 3918, .inl (fun _ => 0)))] sz (fun _ => True) (fun u => [(h0, .inl (cy 1, 3918, .inl (upd (fun _ => 0) (Int32.toNatClampNeg 1) 1)))]) 0 0 := by
  refine q_ent (own := RX12) (by decide) rfl (Nat.le_of_ble_eq_true rfl) (fun p e s m below meth c ls X hr hlk hnm hK h hA hl => ?_)
  obtain ⟨hx, hb, hml, hown, ht⟩ := id X
  replace hl : lv_has ls 2 [(0, .ref h0)] := hl
  refine lv_iconst (v := 0) hx hb dX12_plain_0 (by decide) ?_
  refine lv_istore_n (lv' := [(1, .int 0), (0, .ref h0)]) hx hb dX12_plain_1 rfl hl (by decide) rfl (fun lz1 hv1 => ?_)
  clear ls hl
  refine q_loop (P := fun k H locs ls => qW D (va_A [(h0, .inl (cy 1, 3918, .inl (fun _ => 0)))] sz) s.heap [(h0, .inl (cy 1, 3918, .inl (fun _ => 0)))] H locs ∧ lv_has ls 2 [(1, .int (nI k)), (0, .ref h0)]) 1306 0 (Nat.zero_le _) ⟨h, by rw [nI_0]; exact hv1⟩ (fun k hk ih H locs ls hP => ?_) (fun H locs ls hP => ?_)
  · obtain ⟨h, hl⟩ := hP
    have hki : (nI k).toInt = (k : Int) := nI_toInt (by omega)
    have hin_475 : vp_in (nI k) 3918 := vp_in_nI (by omega) (by omega)
    refine lv_iload_n hx hb dX12_plain_2 rfl (lv_at hl 0 rfl) ?_
    refine lv_sipush (v := 1306) hx hb dX12_plain_3 (by decide) ?_
    refine lv_icmp_ge (tgt := 19) hx hb dX12_plain_6 (by decide) (fun c_476 => ?_) (fun c_476 => ?_)
    · exfalso
      simp only [Int32.lt_iff_toInt_lt, Int32.le_iff_toInt_le, ← Int32.toInt_inj] at c_476
      have k_0 : (1306 : Int32).toInt = 1306 := by decide
      omega
    · refine lv_aload_n hx hb dX12_plain_9 rfl (lv_at hl 1 rfl) ?_
      refine lv_iload_n hx hb dX12_plain_10 rfl (lv_at hl 0 rfl) ?_
      refine lv_iconst (v := 0) hx hb dX12_plain_11 (by decide) ?_
      refine q_iast X hK h 0 rfl hin_475 dX12_plain_12 (fun Hp2 lc2 hw2 => ?_)
      clear h
      replace hw2 : qW D _ _ [(h0, .inl (cy 1, 3918, .inl (upd (fun _ => 0) (Int32.toNatClampNeg (nI k)) 0)))] _ _ := hw2
      rw [q_us rfl] at hw2
      refine lv_iinc (v := (nI (k + 1))) (lv' := [(1, .int (nI (k + 1))), (0, .ref h0)]) hx hb dX12_plain_13 hl (k := 0) rfl (nI_1 _) (by decide) rfl (fun lz3 hv3 => ?_)
      clear ls hl
      refine lv_goto (tgt := 2) hx hb dX12_plain_16 (by decide) ?_
      exact ih _ _ _ ⟨hw2, hv3⟩
  · obtain ⟨h, hl⟩ := hP
    replace hl : lv_has ls 2 [(1, .int 1306), (0, .ref h0)] := hl
    refine lv_iload_n hx hb dX12_plain_2 rfl (lv_at hl 0 rfl) ?_
    refine lv_sipush (v := 1306) hx hb dX12_plain_3 (by decide) ?_
    refine lv_icmp_ge (tgt := 19) hx hb dX12_plain_6 (by decide) (fun _ => ?_) (fun c => absurd c (by decide +kernel))
    refine lv_aload_n hx hb dX12_plain_19 rfl (lv_at hl 1 rfl) ?_
    refine lv_iconst (v := 1) hx hb dX12_plain_20 (by decide) ?_
    refine lv_iconst (v := 1) hx hb dX12_plain_21 (by decide) ?_
    refine q_iast X hK h 0 rfl (q_in (by decide +kernel)) dX12_plain_22 (fun Hp4 lc4 hw4 => ?_)
    clear h
    replace hw4 : qW D _ _ [(h0, .inl (cy 1, 3918, .inl (upd (fun _ => 0) (Int32.toNatClampNeg 1) 1)))] _ _ := hw4
    exact q_vret X hr hlk hK hw4 (fun _ => 0, fun _ _ => 0, fun _ _ => 0) trivial [0] rfl rfl dX12_plain_23 (Nat.le_of_ble_eq_true rfl) (Nat.le_of_ble_eq_true rfl)
set_option maxHeartbeats 4000000 in
set_option maxRecDepth 100000 in
theorem kX12_init_13 (l : Launch) (D : va_G) (cy : Nat → ClassId) (h0 : Nat) (sz : Nat) : MV l yX12_init cX12_init 1 { frames := 1, cells := 20, slots := 13294, locals := 21 } [.ref h0] D cy [(h0, .inr (12, [.int 0, .null, .null, .null, .null, .int 0, .int 0, .int 0, .int 0, .int 0, .int 0, .int 0, .int 0, .int 0, .int 0, .int 0, .null, .null, .null, .null, .null, .int 0, .int 0, .null, .null, .null, .int 0, .int 0, .null, .null, .null, .null, .null, .int 0, .null, .null, .null]))] sz (fun _ => True) (fun u => [(h0, .inr (12, [.int 0, .ref (u.1 19), .ref (u.1 0), .ref (u.1 1), .ref (u.1 2), .int 0, .int 0, .int 0, .int 0, .int 0, .int 0, .int 0, .int 0, .int 0, .int (-1), .int 0, .ref (u.1 3), .ref (u.1 4), .ref (u.1 5), .ref (u.1 6), .ref (u.1 7), .int 0, .int 0, .ref (u.1 8), .ref (u.1 9), .ref (u.1 10), .int 0, .int 0, .ref (u.1 11), .ref (u.1 12), .ref (u.1 13), .ref (u.1 14), .ref (u.1 15), .int 0, .ref (u.1 16), .ref (u.1 17), .ref (u.1 18)])), ((u.1 0), .inl (cy 3, 2, .inl (fun _ => 0))), ((u.1 1), .inl (cy 1, 900, .inl (fun _ => 0))), ((u.1 2), .inl (cy 1, 1306, .inl (fun _ => 0))), ((u.1 3), .inl (cy 1, 900, .inl (fun _ => 0))), ((u.1 4), .inl (cy 1, 11, .inl (fun _ => 0))), ((u.1 5), .inl (cy 1, 3, .inl (fun _ => 0))), ((u.1 6), .inl (cy 1, 10, .inl (fun _ => 0))), ((u.1 7), .inl (cy 1, 32, .inl (fun _ => 0))), ((u.1 8), .inl (cy 1, 1024, .inl (fun _ => 0))), ((u.1 9), .inl (cy 1, 10, .inl (fun _ => 0))), ((u.1 10), .inl (cy 1, 10, .inl (fun _ => 0))), ((u.1 11), .inl (cy 1, 1000, .inl (fun _ => 0))), ((u.1 12), .inl (cy 1, 1000, .inl (fun _ => 0))), ((u.1 13), .inl (cy 1, 1000, .inl (fun _ => 0))), ((u.1 14), .inl (cy 1, 1000, .inl (fun _ => 0))), ((u.1 15), .inl (cy 3, 1000, .inl (fun _ => 0))), ((u.1 16), .inl (cy 1, 4, .inl (upd (upd (upd (upd (fun _ => 0) (Int32.toNatClampNeg 0) (-1)) (Int32.toNatClampNeg 1) (-1)) (Int32.toNatClampNeg 2) (-1)) (Int32.toNatClampNeg 3) (-1)))), ((u.1 17), .inl (cy 1, 4, .inl (fun _ => 0))), ((u.1 18), .inl (cy 2, 160, .inr (.inl (fun _ => 0)))), ((u.1 19), .inl (cy 1, 3918, .inl (upd (fun _ => 0) (Int32.toNatClampNeg 1) 1)))]) 20 13294 := by
  refine q_ent (own := RX12) (by decide) rfl (Nat.le_of_ble_eq_true rfl) (fun p e s m below meth c ls X hr hlk hnm hK h hA hl => ?_)
  obtain ⟨hx, hb, hml, hown, ht⟩ := id X
  replace hl : lv_has ls 1 [(0, .ref h0)] := hl
  refine lv_aload_n hx hb dX12_init_0 rfl (lv_at hl 0 rfl) ?_
  refine q_obj X wm_5_166 wm_1_29 wm_1_30 hl.1 dX12_init_1 (Nat.le_of_ble_eq_true rfl) (Nat.le_of_ble_eq_true rfl) ?_
  refine lv_aload_n hx hb dX12_init_4 rfl (lv_at hl 0 rfl) ?_
  refine lv_sipush (v := 3918) hx hb dX12_init_5 (by decide) ?_
  refine q_newi X hK hA h wm_1_67 3918 (by decide) (by decide +kernel) (by decide) (Nat.le_of_ble_eq_true rfl) (Nat.le_of_ble_eq_true rfl) dX12_init_8 (fun q_502 Hp1 hw1 => ?_)
  clear h
  replace hw1 : qW D _ _ [(h0, .inr (12, [.int 0, .null, .null, .null, .null, .int 0, .int 0, .int 0, .int 0, .int 0, .int 0, .int 0, .int 0, .int 0, .int 0, .int 0, .null, .null, .null, .null, .null, .int 0, .int 0, .null, .null, .null, .int 0, .int 0, .null, .null, .null, .null, .null, .int 0, .null, .null, .null])), (q_502, .inl (cy 1, 3918, .inl (fun _ => 0)))] _ _ := hw1
  refine q_putF (v := .ref q_502) X hK hw1 0 rfl rfl wf_12 tyX12 tyX12_ok nmX12 1 (by decide) wm_5_171 rfl hnm rfl rfl rfl (Nat.le_of_ble_eq_true rfl) dX12_init_10 (fun Hp2 lc2 hw2 => ?_)
  clear Hp1 hw1
  replace hw2 : qW D _ _ [(h0, .inr (12, [.int 0, .ref q_502, .null, .null, .null, .int 0, .int 0, .int 0, .int 0, .int 0, .int 0, .int 0, .int 0, .int 0, .int 0, .int 0, .null, .null, .null, .null, .null, .int 0, .int 0, .null, .null, .null, .int 0, .int 0, .null, .null, .null, .null, .null, .int 0, .null, .null, .null])), (q_502, .inl (cy 1, 3918, .inl (fun _ => 0)))] _ _ := hw2
  refine lv_aload_n hx hb dX12_init_13 rfl (lv_at hl 0 rfl) ?_
  refine lv_iconst (v := 2) hx hb dX12_init_14 (by decide) ?_
  refine q_newz X hK hA hw2 wm_1_191 2 (by decide) (by decide +kernel) (by decide) (Nat.le_of_ble_eq_true rfl) (Nat.le_of_ble_eq_true rfl) dX12_init_15 (fun q_503 Hp3 hw3 => ?_)
  clear Hp2 hw2
  replace hw3 : qW D _ _ [(h0, .inr (12, [.int 0, .ref q_502, .null, .null, .null, .int 0, .int 0, .int 0, .int 0, .int 0, .int 0, .int 0, .int 0, .int 0, .int 0, .int 0, .null, .null, .null, .null, .null, .int 0, .int 0, .null, .null, .null, .int 0, .int 0, .null, .null, .null, .null, .null, .int 0, .null, .null, .null])), (q_502, .inl (cy 1, 3918, .inl (fun _ => 0))), (q_503, .inl (cy 3, 2, .inl (fun _ => 0)))] _ _ := hw3
  refine q_putF (v := .ref q_503) X hK hw3 0 rfl rfl wf_12 tyX12 tyX12_ok nmX12 2 (by decide) wm_5_172 rfl hnm rfl rfl rfl (Nat.le_of_ble_eq_true rfl) dX12_init_17 (fun Hp4 lc4 hw4 => ?_)
  clear Hp3 lc2 hw3
  replace hw4 : qW D _ _ [(h0, .inr (12, [.int 0, .ref q_502, .ref q_503, .null, .null, .int 0, .int 0, .int 0, .int 0, .int 0, .int 0, .int 0, .int 0, .int 0, .int 0, .int 0, .null, .null, .null, .null, .null, .int 0, .int 0, .null, .null, .null, .int 0, .int 0, .null, .null, .null, .null, .null, .int 0, .null, .null, .null])), (q_502, .inl (cy 1, 3918, .inl (fun _ => 0))), (q_503, .inl (cy 3, 2, .inl (fun _ => 0)))] _ _ := hw4
  refine lv_aload_n hx hb dX12_init_20 rfl (lv_at hl 0 rfl) ?_
  refine lv_sipush (v := 900) hx hb dX12_init_21 (by decide) ?_
  refine q_newi X hK hA hw4 wm_1_67 900 (by decide) (by decide +kernel) (by decide) (Nat.le_of_ble_eq_true rfl) (Nat.le_of_ble_eq_true rfl) dX12_init_24 (fun q_504 Hp5 hw5 => ?_)
  clear Hp4 hw4
  replace hw5 : qW D _ _ [(h0, .inr (12, [.int 0, .ref q_502, .ref q_503, .null, .null, .int 0, .int 0, .int 0, .int 0, .int 0, .int 0, .int 0, .int 0, .int 0, .int 0, .int 0, .null, .null, .null, .null, .null, .int 0, .int 0, .null, .null, .null, .int 0, .int 0, .null, .null, .null, .null, .null, .int 0, .null, .null, .null])), (q_502, .inl (cy 1, 3918, .inl (fun _ => 0))), (q_503, .inl (cy 3, 2, .inl (fun _ => 0))), (q_504, .inl (cy 1, 900, .inl (fun _ => 0)))] _ _ := hw5
  refine q_putF (v := .ref q_504) X hK hw5 0 rfl rfl wf_12 tyX12 tyX12_ok nmX12 3 (by decide) wm_5_173 rfl hnm rfl rfl rfl (Nat.le_of_ble_eq_true rfl) dX12_init_26 (fun Hp6 lc6 hw6 => ?_)
  clear Hp5 lc4 hw5
  replace hw6 : qW D _ _ [(h0, .inr (12, [.int 0, .ref q_502, .ref q_503, .ref q_504, .null, .int 0, .int 0, .int 0, .int 0, .int 0, .int 0, .int 0, .int 0, .int 0, .int 0, .int 0, .null, .null, .null, .null, .null, .int 0, .int 0, .null, .null, .null, .int 0, .int 0, .null, .null, .null, .null, .null, .int 0, .null, .null, .null])), (q_502, .inl (cy 1, 3918, .inl (fun _ => 0))), (q_503, .inl (cy 3, 2, .inl (fun _ => 0))), (q_504, .inl (cy 1, 900, .inl (fun _ => 0)))] _ _ := hw6
  refine lv_aload_n hx hb dX12_init_29 rfl (lv_at hl 0 rfl) ?_
  refine lv_sipush (v := 1306) hx hb dX12_init_30 (by decide) ?_
  refine q_newi X hK hA hw6 wm_1_67 1306 (by decide) (by decide +kernel) (by decide) (Nat.le_of_ble_eq_true rfl) (Nat.le_of_ble_eq_true rfl) dX12_init_33 (fun q_505 Hp7 hw7 => ?_)
  clear Hp6 hw6
  replace hw7 : qW D _ _ [(h0, .inr (12, [.int 0, .ref q_502, .ref q_503, .ref q_504, .null, .int 0, .int 0, .int 0, .int 0, .int 0, .int 0, .int 0, .int 0, .int 0, .int 0, .int 0, .null, .null, .null, .null, .null, .int 0, .int 0, .null, .null, .null, .int 0, .int 0, .null, .null, .null, .null, .null, .int 0, .null, .null, .null])), (q_502, .inl (cy 1, 3918, .inl (fun _ => 0))), (q_503, .inl (cy 3, 2, .inl (fun _ => 0))), (q_504, .inl (cy 1, 900, .inl (fun _ => 0))), (q_505, .inl (cy 1, 1306, .inl (fun _ => 0)))] _ _ := hw7
  refine q_putF (v := .ref q_505) X hK hw7 0 rfl rfl wf_12 tyX12 tyX12_ok nmX12 4 (by decide) wm_5_174 rfl hnm rfl rfl rfl (Nat.le_of_ble_eq_true rfl) dX12_init_35 (fun Hp8 lc8 hw8 => ?_)
  clear Hp7 lc6 hw7
  replace hw8 : qW D _ _ [(h0, .inr (12, [.int 0, .ref q_502, .ref q_503, .ref q_504, .ref q_505, .int 0, .int 0, .int 0, .int 0, .int 0, .int 0, .int 0, .int 0, .int 0, .int 0, .int 0, .null, .null, .null, .null, .null, .int 0, .int 0, .null, .null, .null, .int 0, .int 0, .null, .null, .null, .null, .null, .int 0, .null, .null, .null])), (q_502, .inl (cy 1, 3918, .inl (fun _ => 0))), (q_503, .inl (cy 3, 2, .inl (fun _ => 0))), (q_504, .inl (cy 1, 900, .inl (fun _ => 0))), (q_505, .inl (cy 1, 1306, .inl (fun _ => 0)))] _ _ := hw8
  refine lv_aload_n hx hb dX12_init_38 rfl (lv_at hl 0 rfl) ?_
  refine lv_iconst (v := (-1)) hx hb dX12_init_39 (by decide) ?_
  refine q_put (v := .int (-1)) X hK hw8 0 rfl rfl wf_12 tyX12 tyX12_ok nmX12 14 (by decide) wm_5_184 rfl rfl rfl (Nat.le_of_ble_eq_true rfl) dX12_init_40 (fun Hp9 lc9 hw9 => ?_)
  clear Hp8 lc8 hw8
  replace hw9 : qW D _ _ [(h0, .inr (12, [.int 0, .ref q_502, .ref q_503, .ref q_504, .ref q_505, .int 0, .int 0, .int 0, .int 0, .int 0, .int 0, .int 0, .int 0, .int 0, .int (-1), .int 0, .null, .null, .null, .null, .null, .int 0, .int 0, .null, .null, .null, .int 0, .int 0, .null, .null, .null, .null, .null, .int 0, .null, .null, .null])), (q_502, .inl (cy 1, 3918, .inl (fun _ => 0))), (q_503, .inl (cy 3, 2, .inl (fun _ => 0))), (q_504, .inl (cy 1, 900, .inl (fun _ => 0))), (q_505, .inl (cy 1, 1306, .inl (fun _ => 0)))] _ _ := hw9
  refine lv_aload_n hx hb dX12_init_43 rfl (lv_at hl 0 rfl) ?_
  refine lv_sipush (v := 900) hx hb dX12_init_44 (by decide) ?_
  refine q_newi X hK hA hw9 wm_1_67 900 (by decide) (by decide +kernel) (by decide) (Nat.le_of_ble_eq_true rfl) (Nat.le_of_ble_eq_true rfl) dX12_init_47 (fun q_506 Hp10 hw10 => ?_)
  clear Hp9 hw9
  replace hw10 : qW D _ _ [(h0, .inr (12, [.int 0, .ref q_502, .ref q_503, .ref q_504, .ref q_505, .int 0, .int 0, .int 0, .int 0, .int 0, .int 0, .int 0, .int 0, .int 0, .int (-1), .int 0, .null, .null, .null, .null, .null, .int 0, .int 0, .null, .null, .null, .int 0, .int 0, .null, .null, .null, .null, .null, .int 0, .null, .null, .null])), (q_502, .inl (cy 1, 3918, .inl (fun _ => 0))), (q_503, .inl (cy 3, 2, .inl (fun _ => 0))), (q_504, .inl (cy 1, 900, .inl (fun _ => 0))), (q_505, .inl (cy 1, 1306, .inl (fun _ => 0))), (q_506, .inl (cy 1, 900, .inl (fun _ => 0)))] _ _ := hw10
  refine q_putF (v := .ref q_506) X hK hw10 0 rfl rfl wf_12 tyX12 tyX12_ok nmX12 16 (by decide) wm_5_186 rfl hnm rfl rfl rfl (Nat.le_of_ble_eq_true rfl) dX12_init_49 (fun Hp11 lc11 hw11 => ?_)
  clear Hp10 lc9 hw10
  replace hw11 : qW D _ _ [(h0, .inr (12, [.int 0, .ref q_502, .ref q_503, .ref q_504, .ref q_505, .int 0, .int 0, .int 0, .int 0, .int 0, .int 0, .int 0, .int 0, .int 0, .int (-1), .int 0, .ref q_506, .null, .null, .null, .null, .int 0, .int 0, .null, .null, .null, .int 0, .int 0, .null, .null, .null, .null, .null, .int 0, .null, .null, .null])), (q_502, .inl (cy 1, 3918, .inl (fun _ => 0))), (q_503, .inl (cy 3, 2, .inl (fun _ => 0))), (q_504, .inl (cy 1, 900, .inl (fun _ => 0))), (q_505, .inl (cy 1, 1306, .inl (fun _ => 0))), (q_506, .inl (cy 1, 900, .inl (fun _ => 0)))] _ _ := hw11
  refine lv_aload_n hx hb dX12_init_52 rfl (lv_at hl 0 rfl) ?_
  refine lv_bipush (v := 11) hx hb dX12_init_53 (by decide) ?_
  refine q_newi X hK hA hw11 wm_1_67 11 (by decide) (by decide +kernel) (by decide) (Nat.le_of_ble_eq_true rfl) (Nat.le_of_ble_eq_true rfl) dX12_init_55 (fun q_507 Hp12 hw12 => ?_)
  clear Hp11 hw11
  replace hw12 : qW D _ _ [(h0, .inr (12, [.int 0, .ref q_502, .ref q_503, .ref q_504, .ref q_505, .int 0, .int 0, .int 0, .int 0, .int 0, .int 0, .int 0, .int 0, .int 0, .int (-1), .int 0, .ref q_506, .null, .null, .null, .null, .int 0, .int 0, .null, .null, .null, .int 0, .int 0, .null, .null, .null, .null, .null, .int 0, .null, .null, .null])), (q_502, .inl (cy 1, 3918, .inl (fun _ => 0))), (q_503, .inl (cy 3, 2, .inl (fun _ => 0))), (q_504, .inl (cy 1, 900, .inl (fun _ => 0))), (q_505, .inl (cy 1, 1306, .inl (fun _ => 0))), (q_506, .inl (cy 1, 900, .inl (fun _ => 0))), (q_507, .inl (cy 1, 11, .inl (fun _ => 0)))] _ _ := hw12
  refine q_putF (v := .ref q_507) X hK hw12 0 rfl rfl wf_12 tyX12 tyX12_ok nmX12 17 (by decide) wm_5_187 rfl hnm rfl rfl rfl (Nat.le_of_ble_eq_true rfl) dX12_init_57 (fun Hp13 lc13 hw13 => ?_)
  clear Hp12 lc11 hw12
  replace hw13 : qW D _ _ [(h0, .inr (12, [.int 0, .ref q_502, .ref q_503, .ref q_504, .ref q_505, .int 0, .int 0, .int 0, .int 0, .int 0, .int 0, .int 0, .int 0, .int 0, .int (-1), .int 0, .ref q_506, .ref q_507, .null, .null, .null, .int 0, .int 0, .null, .null, .null, .int 0, .int 0, .null, .null, .null, .null, .null, .int 0, .null, .null, .null])), (q_502, .inl (cy 1, 3918, .inl (fun _ => 0))), (q_503, .inl (cy 3, 2, .inl (fun _ => 0))), (q_504, .inl (cy 1, 900, .inl (fun _ => 0))), (q_505, .inl (cy 1, 1306, .inl (fun _ => 0))), (q_506, .inl (cy 1, 900, .inl (fun _ => 0))), (q_507, .inl (cy 1, 11, .inl (fun _ => 0)))] _ _ := hw13
  refine lv_aload_n hx hb dX12_init_60 rfl (lv_at hl 0 rfl) ?_
  refine lv_iconst (v := 3) hx hb dX12_init_61 (by decide) ?_
  refine q_newi X hK hA hw13 wm_1_67 3 (by decide) (by decide +kernel) (by decide) (Nat.le_of_ble_eq_true rfl) (Nat.le_of_ble_eq_true rfl) dX12_init_62 (fun q_508 Hp14 hw14 => ?_)
  clear Hp13 hw13
  replace hw14 : qW D _ _ [(h0, .inr (12, [.int 0, .ref q_502, .ref q_503, .ref q_504, .ref q_505, .int 0, .int 0, .int 0, .int 0, .int 0, .int 0, .int 0, .int 0, .int 0, .int (-1), .int 0, .ref q_506, .ref q_507, .null, .null, .null, .int 0, .int 0, .null, .null, .null, .int 0, .int 0, .null, .null, .null, .null, .null, .int 0, .null, .null, .null])), (q_502, .inl (cy 1, 3918, .inl (fun _ => 0))), (q_503, .inl (cy 3, 2, .inl (fun _ => 0))), (q_504, .inl (cy 1, 900, .inl (fun _ => 0))), (q_505, .inl (cy 1, 1306, .inl (fun _ => 0))), (q_506, .inl (cy 1, 900, .inl (fun _ => 0))), (q_507, .inl (cy 1, 11, .inl (fun _ => 0))), (q_508, .inl (cy 1, 3, .inl (fun _ => 0)))] _ _ := hw14
  refine q_putF (v := .ref q_508) X hK hw14 0 rfl rfl wf_12 tyX12 tyX12_ok nmX12 18 (by decide) wm_5_188 rfl hnm rfl rfl rfl (Nat.le_of_ble_eq_true rfl) dX12_init_64 (fun Hp15 lc15 hw15 => ?_)
  clear Hp14 lc13 hw14
  replace hw15 : qW D _ _ [(h0, .inr (12, [.int 0, .ref q_502, .ref q_503, .ref q_504, .ref q_505, .int 0, .int 0, .int 0, .int 0, .int 0, .int 0, .int 0, .int 0, .int 0, .int (-1), .int 0, .ref q_506, .ref q_507, .ref q_508, .null, .null, .int 0, .int 0, .null, .null, .null, .int 0, .int 0, .null, .null, .null, .null, .null, .int 0, .null, .null, .null])), (q_502, .inl (cy 1, 3918, .inl (fun _ => 0))), (q_503, .inl (cy 3, 2, .inl (fun _ => 0))), (q_504, .inl (cy 1, 900, .inl (fun _ => 0))), (q_505, .inl (cy 1, 1306, .inl (fun _ => 0))), (q_506, .inl (cy 1, 900, .inl (fun _ => 0))), (q_507, .inl (cy 1, 11, .inl (fun _ => 0))), (q_508, .inl (cy 1, 3, .inl (fun _ => 0)))] _ _ := hw15
  refine lv_aload_n hx hb dX12_init_67 rfl (lv_at hl 0 rfl) ?_
  refine lv_bipush (v := 10) hx hb dX12_init_68 (by decide) ?_
  refine q_newi X hK hA hw15 wm_1_67 10 (by decide) (by decide +kernel) (by decide) (Nat.le_of_ble_eq_true rfl) (Nat.le_of_ble_eq_true rfl) dX12_init_70 (fun q_509 Hp16 hw16 => ?_)
  clear Hp15 hw15
  replace hw16 : qW D _ _ [(h0, .inr (12, [.int 0, .ref q_502, .ref q_503, .ref q_504, .ref q_505, .int 0, .int 0, .int 0, .int 0, .int 0, .int 0, .int 0, .int 0, .int 0, .int (-1), .int 0, .ref q_506, .ref q_507, .ref q_508, .null, .null, .int 0, .int 0, .null, .null, .null, .int 0, .int 0, .null, .null, .null, .null, .null, .int 0, .null, .null, .null])), (q_502, .inl (cy 1, 3918, .inl (fun _ => 0))), (q_503, .inl (cy 3, 2, .inl (fun _ => 0))), (q_504, .inl (cy 1, 900, .inl (fun _ => 0))), (q_505, .inl (cy 1, 1306, .inl (fun _ => 0))), (q_506, .inl (cy 1, 900, .inl (fun _ => 0))), (q_507, .inl (cy 1, 11, .inl (fun _ => 0))), (q_508, .inl (cy 1, 3, .inl (fun _ => 0))), (q_509, .inl (cy 1, 10, .inl (fun _ => 0)))] _ _ := hw16
  refine q_putF (v := .ref q_509) X hK hw16 0 rfl rfl wf_12 tyX12 tyX12_ok nmX12 19 (by decide) wm_5_189 rfl hnm rfl rfl rfl (Nat.le_of_ble_eq_true rfl) dX12_init_72 (fun Hp17 lc17 hw17 => ?_)
  clear Hp16 lc15 hw16
  replace hw17 : qW D _ _ [(h0, .inr (12, [.int 0, .ref q_502, .ref q_503, .ref q_504, .ref q_505, .int 0, .int 0, .int 0, .int 0, .int 0, .int 0, .int 0, .int 0, .int 0, .int (-1), .int 0, .ref q_506, .ref q_507, .ref q_508, .ref q_509, .null, .int 0, .int 0, .null, .null, .null, .int 0, .int 0, .null, .null, .null, .null, .null, .int 0, .null, .null, .null])), (q_502, .inl (cy 1, 3918, .inl (fun _ => 0))), (q_503, .inl (cy 3, 2, .inl (fun _ => 0))), (q_504, .inl (cy 1, 900, .inl (fun _ => 0))), (q_505, .inl (cy 1, 1306, .inl (fun _ => 0))), (q_506, .inl (cy 1, 900, .inl (fun _ => 0))), (q_507, .inl (cy 1, 11, .inl (fun _ => 0))), (q_508, .inl (cy 1, 3, .inl (fun _ => 0))), (q_509, .inl (cy 1, 10, .inl (fun _ => 0)))] _ _ := hw17
  refine lv_aload_n hx hb dX12_init_75 rfl (lv_at hl 0 rfl) ?_
  refine lv_bipush (v := 32) hx hb dX12_init_76 (by decide) ?_
  refine q_newi X hK hA hw17 wm_1_67 32 (by decide) (by decide +kernel) (by decide) (Nat.le_of_ble_eq_true rfl) (Nat.le_of_ble_eq_true rfl) dX12_init_78 (fun q_510 Hp18 hw18 => ?_)
  clear Hp17 hw17
  replace hw18 : qW D _ _ [(h0, .inr (12, [.int 0, .ref q_502, .ref q_503, .ref q_504, .ref q_505, .int 0, .int 0, .int 0, .int 0, .int 0, .int 0, .int 0, .int 0, .int 0, .int (-1), .int 0, .ref q_506, .ref q_507, .ref q_508, .ref q_509, .null, .int 0, .int 0, .null, .null, .null, .int 0, .int 0, .null, .null, .null, .null, .null, .int 0, .null, .null, .null])), (q_502, .inl (cy 1, 3918, .inl (fun _ => 0))), (q_503, .inl (cy 3, 2, .inl (fun _ => 0))), (q_504, .inl (cy 1, 900, .inl (fun _ => 0))), (q_505, .inl (cy 1, 1306, .inl (fun _ => 0))), (q_506, .inl (cy 1, 900, .inl (fun _ => 0))), (q_507, .inl (cy 1, 11, .inl (fun _ => 0))), (q_508, .inl (cy 1, 3, .inl (fun _ => 0))), (q_509, .inl (cy 1, 10, .inl (fun _ => 0))), (q_510, .inl (cy 1, 32, .inl (fun _ => 0)))] _ _ := hw18
  refine q_putF (v := .ref q_510) X hK hw18 0 rfl rfl wf_12 tyX12 tyX12_ok nmX12 20 (by decide) wm_5_190 rfl hnm rfl rfl rfl (Nat.le_of_ble_eq_true rfl) dX12_init_80 (fun Hp19 lc19 hw19 => ?_)
  clear Hp18 lc17 hw18
  replace hw19 : qW D _ _ [(h0, .inr (12, [.int 0, .ref q_502, .ref q_503, .ref q_504, .ref q_505, .int 0, .int 0, .int 0, .int 0, .int 0, .int 0, .int 0, .int 0, .int 0, .int (-1), .int 0, .ref q_506, .ref q_507, .ref q_508, .ref q_509, .ref q_510, .int 0, .int 0, .null, .null, .null, .int 0, .int 0, .null, .null, .null, .null, .null, .int 0, .null, .null, .null])), (q_502, .inl (cy 1, 3918, .inl (fun _ => 0))), (q_503, .inl (cy 3, 2, .inl (fun _ => 0))), (q_504, .inl (cy 1, 900, .inl (fun _ => 0))), (q_505, .inl (cy 1, 1306, .inl (fun _ => 0))), (q_506, .inl (cy 1, 900, .inl (fun _ => 0))), (q_507, .inl (cy 1, 11, .inl (fun _ => 0))), (q_508, .inl (cy 1, 3, .inl (fun _ => 0))), (q_509, .inl (cy 1, 10, .inl (fun _ => 0))), (q_510, .inl (cy 1, 32, .inl (fun _ => 0)))] _ _ := hw19
  refine lv_aload_n hx hb dX12_init_83 rfl (lv_at hl 0 rfl) ?_
  refine lv_sipush (v := 1024) hx hb dX12_init_84 (by decide) ?_
  refine q_newi X hK hA hw19 wm_1_67 1024 (by decide) (by decide +kernel) (by decide) (Nat.le_of_ble_eq_true rfl) (Nat.le_of_ble_eq_true rfl) dX12_init_87 (fun q_511 Hp20 hw20 => ?_)
  clear Hp19 hw19
  replace hw20 : qW D _ _ [(h0, .inr (12, [.int 0, .ref q_502, .ref q_503, .ref q_504, .ref q_505, .int 0, .int 0, .int 0, .int 0, .int 0, .int 0, .int 0, .int 0, .int 0, .int (-1), .int 0, .ref q_506, .ref q_507, .ref q_508, .ref q_509, .ref q_510, .int 0, .int 0, .null, .null, .null, .int 0, .int 0, .null, .null, .null, .null, .null, .int 0, .null, .null, .null])), (q_502, .inl (cy 1, 3918, .inl (fun _ => 0))), (q_503, .inl (cy 3, 2, .inl (fun _ => 0))), (q_504, .inl (cy 1, 900, .inl (fun _ => 0))), (q_505, .inl (cy 1, 1306, .inl (fun _ => 0))), (q_506, .inl (cy 1, 900, .inl (fun _ => 0))), (q_507, .inl (cy 1, 11, .inl (fun _ => 0))), (q_508, .inl (cy 1, 3, .inl (fun _ => 0))), (q_509, .inl (cy 1, 10, .inl (fun _ => 0))), (q_510, .inl (cy 1, 32, .inl (fun _ => 0))), (q_511, .inl (cy 1, 1024, .inl (fun _ => 0)))] _ _ := hw20
  refine q_putF (v := .ref q_511) X hK hw20 0 rfl rfl wf_12 tyX12 tyX12_ok nmX12 23 (by decide) wm_5_193 rfl hnm rfl rfl rfl (Nat.le_of_ble_eq_true rfl) dX12_init_89 (fun Hp21 lc21 hw21 => ?_)
  clear Hp20 lc19 hw20
  replace hw21 : qW D _ _ [(h0, .inr (12, [.int 0, .ref q_502, .ref q_503, .ref q_504, .ref q_505, .int 0, .int 0, .int 0, .int 0, .int 0, .int 0, .int 0, .int 0, .int 0, .int (-1), .int 0, .ref q_506, .ref q_507, .ref q_508, .ref q_509, .ref q_510, .int 0, .int 0, .ref q_511, .null, .null, .int 0, .int 0, .null, .null, .null, .null, .null, .int 0, .null, .null, .null])), (q_502, .inl (cy 1, 3918, .inl (fun _ => 0))), (q_503, .inl (cy 3, 2, .inl (fun _ => 0))), (q_504, .inl (cy 1, 900, .inl (fun _ => 0))), (q_505, .inl (cy 1, 1306, .inl (fun _ => 0))), (q_506, .inl (cy 1, 900, .inl (fun _ => 0))), (q_507, .inl (cy 1, 11, .inl (fun _ => 0))), (q_508, .inl (cy 1, 3, .inl (fun _ => 0))), (q_509, .inl (cy 1, 10, .inl (fun _ => 0))), (q_510, .inl (cy 1, 32, .inl (fun _ => 0))), (q_511, .inl (cy 1, 1024, .inl (fun _ => 0)))] _ _ := hw21
  refine lv_aload_n hx hb dX12_init_92 rfl (lv_at hl 0 rfl) ?_
  refine lv_bipush (v := 10) hx hb dX12_init_93 (by decide) ?_
  refine q_newi X hK hA hw21 wm_1_67 10 (by decide) (by decide +kernel) (by decide) (Nat.le_of_ble_eq_true rfl) (Nat.le_of_ble_eq_true rfl) dX12_init_95 (fun q_512 Hp22 hw22 => ?_)
  clear Hp21 hw21
  replace hw22 : qW D _ _ [(h0, .inr (12, [.int 0, .ref q_502, .ref q_503, .ref q_504, .ref q_505, .int 0, .int 0, .int 0, .int 0, .int 0, .int 0, .int 0, .int 0, .int 0, .int (-1), .int 0, .ref q_506, .ref q_507, .ref q_508, .ref q_509, .ref q_510, .int 0, .int 0, .ref q_511, .null, .null, .int 0, .int 0, .null, .null, .null, .null, .null, .int 0, .null, .null, .null])), (q_502, .inl (cy 1, 3918, .inl (fun _ => 0))), (q_503, .inl (cy 3, 2, .inl (fun _ => 0))), (q_504, .inl (cy 1, 900, .inl (fun _ => 0))), (q_505, .inl (cy 1, 1306, .inl (fun _ => 0))), (q_506, .inl (cy 1, 900, .inl (fun _ => 0))), (q_507, .inl (cy 1, 11, .inl (fun _ => 0))), (q_508, .inl (cy 1, 3, .inl (fun _ => 0))), (q_509, .inl (cy 1, 10, .inl (fun _ => 0))), (q_510, .inl (cy 1, 32, .inl (fun _ => 0))), (q_511, .inl (cy 1, 1024, .inl (fun _ => 0))), (q_512, .inl (cy 1, 10, .inl (fun _ => 0)))] _ _ := hw22
  refine q_putF (v := .ref q_512) X hK hw22 0 rfl rfl wf_12 tyX12 tyX12_ok nmX12 24 (by decide) wm_5_194 rfl hnm rfl rfl rfl (Nat.le_of_ble_eq_true rfl) dX12_init_97 (fun Hp23 lc23 hw23 => ?_)
  clear Hp22 lc21 hw22
  replace hw23 : qW D _ _ [(h0, .inr (12, [.int 0, .ref q_502, .ref q_503, .ref q_504, .ref q_505, .int 0, .int 0, .int 0, .int 0, .int 0, .int 0, .int 0, .int 0, .int 0, .int (-1), .int 0, .ref q_506, .ref q_507, .ref q_508, .ref q_509, .ref q_510, .int 0, .int 0, .ref q_511, .ref q_512, .null, .int 0, .int 0, .null, .null, .null, .null, .null, .int 0, .null, .null, .null])), (q_502, .inl (cy 1, 3918, .inl (fun _ => 0))), (q_503, .inl (cy 3, 2, .inl (fun _ => 0))), (q_504, .inl (cy 1, 900, .inl (fun _ => 0))), (q_505, .inl (cy 1, 1306, .inl (fun _ => 0))), (q_506, .inl (cy 1, 900, .inl (fun _ => 0))), (q_507, .inl (cy 1, 11, .inl (fun _ => 0))), (q_508, .inl (cy 1, 3, .inl (fun _ => 0))), (q_509, .inl (cy 1, 10, .inl (fun _ => 0))), (q_510, .inl (cy 1, 32, .inl (fun _ => 0))), (q_511, .inl (cy 1, 1024, .inl (fun _ => 0))), (q_512, .inl (cy 1, 10, .inl (fun _ => 0)))] _ _ := hw23
  refine lv_aload_n hx hb dX12_init_100 rfl (lv_at hl 0 rfl) ?_
  refine lv_bipush (v := 10) hx hb dX12_init_101 (by decide) ?_
  refine q_newi X hK hA hw23 wm_1_67 10 (by decide) (by decide +kernel) (by decide) (Nat.le_of_ble_eq_true rfl) (Nat.le_of_ble_eq_true rfl) dX12_init_103 (fun q_513 Hp24 hw24 => ?_)
  clear Hp23 hw23
  replace hw24 : qW D _ _ [(h0, .inr (12, [.int 0, .ref q_502, .ref q_503, .ref q_504, .ref q_505, .int 0, .int 0, .int 0, .int 0, .int 0, .int 0, .int 0, .int 0, .int 0, .int (-1), .int 0, .ref q_506, .ref q_507, .ref q_508, .ref q_509, .ref q_510, .int 0, .int 0, .ref q_511, .ref q_512, .null, .int 0, .int 0, .null, .null, .null, .null, .null, .int 0, .null, .null, .null])), (q_502, .inl (cy 1, 3918, .inl (fun _ => 0))), (q_503, .inl (cy 3, 2, .inl (fun _ => 0))), (q_504, .inl (cy 1, 900, .inl (fun _ => 0))), (q_505, .inl (cy 1, 1306, .inl (fun _ => 0))), (q_506, .inl (cy 1, 900, .inl (fun _ => 0))), (q_507, .inl (cy 1, 11, .inl (fun _ => 0))), (q_508, .inl (cy 1, 3, .inl (fun _ => 0))), (q_509, .inl (cy 1, 10, .inl (fun _ => 0))), (q_510, .inl (cy 1, 32, .inl (fun _ => 0))), (q_511, .inl (cy 1, 1024, .inl (fun _ => 0))), (q_512, .inl (cy 1, 10, .inl (fun _ => 0))), (q_513, .inl (cy 1, 10, .inl (fun _ => 0)))] _ _ := hw24
  refine q_putF (v := .ref q_513) X hK hw24 0 rfl rfl wf_12 tyX12 tyX12_ok nmX12 25 (by decide) wm_5_195 rfl hnm rfl rfl rfl (Nat.le_of_ble_eq_true rfl) dX12_init_105 (fun Hp25 lc25 hw25 => ?_)
  clear Hp24 lc23 hw24
  replace hw25 : qW D _ _ [(h0, .inr (12, [.int 0, .ref q_502, .ref q_503, .ref q_504, .ref q_505, .int 0, .int 0, .int 0, .int 0, .int 0, .int 0, .int 0, .int 0, .int 0, .int (-1), .int 0, .ref q_506, .ref q_507, .ref q_508, .ref q_509, .ref q_510, .int 0, .int 0, .ref q_511, .ref q_512, .ref q_513, .int 0, .int 0, .null, .null, .null, .null, .null, .int 0, .null, .null, .null])), (q_502, .inl (cy 1, 3918, .inl (fun _ => 0))), (q_503, .inl (cy 3, 2, .inl (fun _ => 0))), (q_504, .inl (cy 1, 900, .inl (fun _ => 0))), (q_505, .inl (cy 1, 1306, .inl (fun _ => 0))), (q_506, .inl (cy 1, 900, .inl (fun _ => 0))), (q_507, .inl (cy 1, 11, .inl (fun _ => 0))), (q_508, .inl (cy 1, 3, .inl (fun _ => 0))), (q_509, .inl (cy 1, 10, .inl (fun _ => 0))), (q_510, .inl (cy 1, 32, .inl (fun _ => 0))), (q_511, .inl (cy 1, 1024, .inl (fun _ => 0))), (q_512, .inl (cy 1, 10, .inl (fun _ => 0))), (q_513, .inl (cy 1, 10, .inl (fun _ => 0)))] _ _ := hw25
  refine lv_aload_n hx hb dX12_init_108 rfl (lv_at hl 0 rfl) ?_
  refine lv_sipush (v := 1000) hx hb dX12_init_109 (by decide) ?_
  refine q_newi X hK hA hw25 wm_1_67 1000 (by decide) (by decide +kernel) (by decide) (Nat.le_of_ble_eq_true rfl) (Nat.le_of_ble_eq_true rfl) dX12_init_112 (fun q_514 Hp26 hw26 => ?_)
  clear Hp25 hw25
  replace hw26 : qW D _ _ [(h0, .inr (12, [.int 0, .ref q_502, .ref q_503, .ref q_504, .ref q_505, .int 0, .int 0, .int 0, .int 0, .int 0, .int 0, .int 0, .int 0, .int 0, .int (-1), .int 0, .ref q_506, .ref q_507, .ref q_508, .ref q_509, .ref q_510, .int 0, .int 0, .ref q_511, .ref q_512, .ref q_513, .int 0, .int 0, .null, .null, .null, .null, .null, .int 0, .null, .null, .null])), (q_502, .inl (cy 1, 3918, .inl (fun _ => 0))), (q_503, .inl (cy 3, 2, .inl (fun _ => 0))), (q_504, .inl (cy 1, 900, .inl (fun _ => 0))), (q_505, .inl (cy 1, 1306, .inl (fun _ => 0))), (q_506, .inl (cy 1, 900, .inl (fun _ => 0))), (q_507, .inl (cy 1, 11, .inl (fun _ => 0))), (q_508, .inl (cy 1, 3, .inl (fun _ => 0))), (q_509, .inl (cy 1, 10, .inl (fun _ => 0))), (q_510, .inl (cy 1, 32, .inl (fun _ => 0))), (q_511, .inl (cy 1, 1024, .inl (fun _ => 0))), (q_512, .inl (cy 1, 10, .inl (fun _ => 0))), (q_513, .inl (cy 1, 10, .inl (fun _ => 0))), (q_514, .inl (cy 1, 1000, .inl (fun _ => 0)))] _ _ := hw26
  refine q_putF (v := .ref q_514) X hK hw26 0 rfl rfl wf_12 tyX12 tyX12_ok nmX12 28 (by decide) wm_5_198 rfl hnm rfl rfl rfl (Nat.le_of_ble_eq_true rfl) dX12_init_114 (fun Hp27 lc27 hw27 => ?_)
  clear Hp26 lc25 hw26
  replace hw27 : qW D _ _ [(h0, .inr (12, [.int 0, .ref q_502, .ref q_503, .ref q_504, .ref q_505, .int 0, .int 0, .int 0, .int 0, .int 0, .int 0, .int 0, .int 0, .int 0, .int (-1), .int 0, .ref q_506, .ref q_507, .ref q_508, .ref q_509, .ref q_510, .int 0, .int 0, .ref q_511, .ref q_512, .ref q_513, .int 0, .int 0, .ref q_514, .null, .null, .null, .null, .int 0, .null, .null, .null])), (q_502, .inl (cy 1, 3918, .inl (fun _ => 0))), (q_503, .inl (cy 3, 2, .inl (fun _ => 0))), (q_504, .inl (cy 1, 900, .inl (fun _ => 0))), (q_505, .inl (cy 1, 1306, .inl (fun _ => 0))), (q_506, .inl (cy 1, 900, .inl (fun _ => 0))), (q_507, .inl (cy 1, 11, .inl (fun _ => 0))), (q_508, .inl (cy 1, 3, .inl (fun _ => 0))), (q_509, .inl (cy 1, 10, .inl (fun _ => 0))), (q_510, .inl (cy 1, 32, .inl (fun _ => 0))), (q_511, .inl (cy 1, 1024, .inl (fun _ => 0))), (q_512, .inl (cy 1, 10, .inl (fun _ => 0))), (q_513, .inl (cy 1, 10, .inl (fun _ => 0))), (q_514, .inl (cy 1, 1000, .inl (fun _ => 0)))] _ _ := hw27
  refine lv_aload_n hx hb dX12_init_117 rfl (lv_at hl 0 rfl) ?_
  refine lv_sipush (v := 1000) hx hb dX12_init_118 (by decide) ?_
  refine q_newi X hK hA hw27 wm_1_67 1000 (by decide) (by decide +kernel) (by decide) (Nat.le_of_ble_eq_true rfl) (Nat.le_of_ble_eq_true rfl) dX12_init_121 (fun q_515 Hp28 hw28 => ?_)
  clear Hp27 hw27
  replace hw28 : qW D _ _ [(h0, .inr (12, [.int 0, .ref q_502, .ref q_503, .ref q_504, .ref q_505, .int 0, .int 0, .int 0, .int 0, .int 0, .int 0, .int 0, .int 0, .int 0, .int (-1), .int 0, .ref q_506, .ref q_507, .ref q_508, .ref q_509, .ref q_510, .int 0, .int 0, .ref q_511, .ref q_512, .ref q_513, .int 0, .int 0, .ref q_514, .null, .null, .null, .null, .int 0, .null, .null, .null])), (q_502, .inl (cy 1, 3918, .inl (fun _ => 0))), (q_503, .inl (cy 3, 2, .inl (fun _ => 0))), (q_504, .inl (cy 1, 900, .inl (fun _ => 0))), (q_505, .inl (cy 1, 1306, .inl (fun _ => 0))), (q_506, .inl (cy 1, 900, .inl (fun _ => 0))), (q_507, .inl (cy 1, 11, .inl (fun _ => 0))), (q_508, .inl (cy 1, 3, .inl (fun _ => 0))), (q_509, .inl (cy 1, 10, .inl (fun _ => 0))), (q_510, .inl (cy 1, 32, .inl (fun _ => 0))), (q_511, .inl (cy 1, 1024, .inl (fun _ => 0))), (q_512, .inl (cy 1, 10, .inl (fun _ => 0))), (q_513, .inl (cy 1, 10, .inl (fun _ => 0))), (q_514, .inl (cy 1, 1000, .inl (fun _ => 0))), (q_515, .inl (cy 1, 1000, .inl (fun _ => 0)))] _ _ := hw28
  refine q_putF (v := .ref q_515) X hK hw28 0 rfl rfl wf_12 tyX12 tyX12_ok nmX12 29 (by decide) wm_5_199 rfl hnm rfl rfl rfl (Nat.le_of_ble_eq_true rfl) dX12_init_123 (fun Hp29 lc29 hw29 => ?_)
  clear Hp28 lc27 hw28
  replace hw29 : qW D _ _ [(h0, .inr (12, [.int 0, .ref q_502, .ref q_503, .ref q_504, .ref q_505, .int 0, .int 0, .int 0, .int 0, .int 0, .int 0, .int 0, .int 0, .int 0, .int (-1), .int 0, .ref q_506, .ref q_507, .ref q_508, .ref q_509, .ref q_510, .int 0, .int 0, .ref q_511, .ref q_512, .ref q_513, .int 0, .int 0, .ref q_514, .ref q_515, .null, .null, .null, .int 0, .null, .null, .null])), (q_502, .inl (cy 1, 3918, .inl (fun _ => 0))), (q_503, .inl (cy 3, 2, .inl (fun _ => 0))), (q_504, .inl (cy 1, 900, .inl (fun _ => 0))), (q_505, .inl (cy 1, 1306, .inl (fun _ => 0))), (q_506, .inl (cy 1, 900, .inl (fun _ => 0))), (q_507, .inl (cy 1, 11, .inl (fun _ => 0))), (q_508, .inl (cy 1, 3, .inl (fun _ => 0))), (q_509, .inl (cy 1, 10, .inl (fun _ => 0))), (q_510, .inl (cy 1, 32, .inl (fun _ => 0))), (q_511, .inl (cy 1, 1024, .inl (fun _ => 0))), (q_512, .inl (cy 1, 10, .inl (fun _ => 0))), (q_513, .inl (cy 1, 10, .inl (fun _ => 0))), (q_514, .inl (cy 1, 1000, .inl (fun _ => 0))), (q_515, .inl (cy 1, 1000, .inl (fun _ => 0)))] _ _ := hw29
  refine lv_aload_n hx hb dX12_init_126 rfl (lv_at hl 0 rfl) ?_
  refine lv_sipush (v := 1000) hx hb dX12_init_127 (by decide) ?_
  refine q_newi X hK hA hw29 wm_1_67 1000 (by decide) (by decide +kernel) (by decide) (Nat.le_of_ble_eq_true rfl) (Nat.le_of_ble_eq_true rfl) dX12_init_130 (fun q_516 Hp30 hw30 => ?_)
  clear Hp29 hw29
  replace hw30 : qW D _ _ [(h0, .inr (12, [.int 0, .ref q_502, .ref q_503, .ref q_504, .ref q_505, .int 0, .int 0, .int 0, .int 0, .int 0, .int 0, .int 0, .int 0, .int 0, .int (-1), .int 0, .ref q_506, .ref q_507, .ref q_508, .ref q_509, .ref q_510, .int 0, .int 0, .ref q_511, .ref q_512, .ref q_513, .int 0, .int 0, .ref q_514, .ref q_515, .null, .null, .null, .int 0, .null, .null, .null])), (q_502, .inl (cy 1, 3918, .inl (fun _ => 0))), (q_503, .inl (cy 3, 2, .inl (fun _ => 0))), (q_504, .inl (cy 1, 900, .inl (fun _ => 0))), (q_505, .inl (cy 1, 1306, .inl (fun _ => 0))), (q_506, .inl (cy 1, 900, .inl (fun _ => 0))), (q_507, .inl (cy 1, 11, .inl (fun _ => 0))), (q_508, .inl (cy 1, 3, .inl (fun _ => 0))), (q_509, .inl (cy 1, 10, .inl (fun _ => 0))), (q_510, .inl (cy 1, 32, .inl (fun _ => 0))), (q_511, .inl (cy 1, 1024, .inl (fun _ => 0))), (q_512, .inl (cy 1, 10, .inl (fun _ => 0))), (q_513, .inl (cy 1, 10, .inl (fun _ => 0))), (q_514, .inl (cy 1, 1000, .inl (fun _ => 0))), (q_515, .inl (cy 1, 1000, .inl (fun _ => 0))), (q_516, .inl (cy 1, 1000, .inl (fun _ => 0)))] _ _ := hw30
  refine q_putF (v := .ref q_516) X hK hw30 0 rfl rfl wf_12 tyX12 tyX12_ok nmX12 30 (by decide) wm_5_200 rfl hnm rfl rfl rfl (Nat.le_of_ble_eq_true rfl) dX12_init_132 (fun Hp31 lc31 hw31 => ?_)
  clear Hp30 lc29 hw30
  replace hw31 : qW D _ _ [(h0, .inr (12, [.int 0, .ref q_502, .ref q_503, .ref q_504, .ref q_505, .int 0, .int 0, .int 0, .int 0, .int 0, .int 0, .int 0, .int 0, .int 0, .int (-1), .int 0, .ref q_506, .ref q_507, .ref q_508, .ref q_509, .ref q_510, .int 0, .int 0, .ref q_511, .ref q_512, .ref q_513, .int 0, .int 0, .ref q_514, .ref q_515, .ref q_516, .null, .null, .int 0, .null, .null, .null])), (q_502, .inl (cy 1, 3918, .inl (fun _ => 0))), (q_503, .inl (cy 3, 2, .inl (fun _ => 0))), (q_504, .inl (cy 1, 900, .inl (fun _ => 0))), (q_505, .inl (cy 1, 1306, .inl (fun _ => 0))), (q_506, .inl (cy 1, 900, .inl (fun _ => 0))), (q_507, .inl (cy 1, 11, .inl (fun _ => 0))), (q_508, .inl (cy 1, 3, .inl (fun _ => 0))), (q_509, .inl (cy 1, 10, .inl (fun _ => 0))), (q_510, .inl (cy 1, 32, .inl (fun _ => 0))), (q_511, .inl (cy 1, 1024, .inl (fun _ => 0))), (q_512, .inl (cy 1, 10, .inl (fun _ => 0))), (q_513, .inl (cy 1, 10, .inl (fun _ => 0))), (q_514, .inl (cy 1, 1000, .inl (fun _ => 0))), (q_515, .inl (cy 1, 1000, .inl (fun _ => 0))), (q_516, .inl (cy 1, 1000, .inl (fun _ => 0)))] _ _ := hw31
  refine lv_aload_n hx hb dX12_init_135 rfl (lv_at hl 0 rfl) ?_
  refine lv_sipush (v := 1000) hx hb dX12_init_136 (by decide) ?_
  refine q_newi X hK hA hw31 wm_1_67 1000 (by decide) (by decide +kernel) (by decide) (Nat.le_of_ble_eq_true rfl) (Nat.le_of_ble_eq_true rfl) dX12_init_139 (fun q_517 Hp32 hw32 => ?_)
  clear Hp31 hw31
  replace hw32 : qW D _ _ [(h0, .inr (12, [.int 0, .ref q_502, .ref q_503, .ref q_504, .ref q_505, .int 0, .int 0, .int 0, .int 0, .int 0, .int 0, .int 0, .int 0, .int 0, .int (-1), .int 0, .ref q_506, .ref q_507, .ref q_508, .ref q_509, .ref q_510, .int 0, .int 0, .ref q_511, .ref q_512, .ref q_513, .int 0, .int 0, .ref q_514, .ref q_515, .ref q_516, .null, .null, .int 0, .null, .null, .null])), (q_502, .inl (cy 1, 3918, .inl (fun _ => 0))), (q_503, .inl (cy 3, 2, .inl (fun _ => 0))), (q_504, .inl (cy 1, 900, .inl (fun _ => 0))), (q_505, .inl (cy 1, 1306, .inl (fun _ => 0))), (q_506, .inl (cy 1, 900, .inl (fun _ => 0))), (q_507, .inl (cy 1, 11, .inl (fun _ => 0))), (q_508, .inl (cy 1, 3, .inl (fun _ => 0))), (q_509, .inl (cy 1, 10, .inl (fun _ => 0))), (q_510, .inl (cy 1, 32, .inl (fun _ => 0))), (q_511, .inl (cy 1, 1024, .inl (fun _ => 0))), (q_512, .inl (cy 1, 10, .inl (fun _ => 0))), (q_513, .inl (cy 1, 10, .inl (fun _ => 0))), (q_514, .inl (cy 1, 1000, .inl (fun _ => 0))), (q_515, .inl (cy 1, 1000, .inl (fun _ => 0))), (q_516, .inl (cy 1, 1000, .inl (fun _ => 0))), (q_517, .inl (cy 1, 1000, .inl (fun _ => 0)))] _ _ := hw32
  refine q_putF (v := .ref q_517) X hK hw32 0 rfl rfl wf_12 tyX12 tyX12_ok nmX12 31 (by decide) wm_5_201 rfl hnm rfl rfl rfl (Nat.le_of_ble_eq_true rfl) dX12_init_141 (fun Hp33 lc33 hw33 => ?_)
  clear Hp32 lc31 hw32
  replace hw33 : qW D _ _ [(h0, .inr (12, [.int 0, .ref q_502, .ref q_503, .ref q_504, .ref q_505, .int 0, .int 0, .int 0, .int 0, .int 0, .int 0, .int 0, .int 0, .int 0, .int (-1), .int 0, .ref q_506, .ref q_507, .ref q_508, .ref q_509, .ref q_510, .int 0, .int 0, .ref q_511, .ref q_512, .ref q_513, .int 0, .int 0, .ref q_514, .ref q_515, .ref q_516, .ref q_517, .null, .int 0, .null, .null, .null])), (q_502, .inl (cy 1, 3918, .inl (fun _ => 0))), (q_503, .inl (cy 3, 2, .inl (fun _ => 0))), (q_504, .inl (cy 1, 900, .inl (fun _ => 0))), (q_505, .inl (cy 1, 1306, .inl (fun _ => 0))), (q_506, .inl (cy 1, 900, .inl (fun _ => 0))), (q_507, .inl (cy 1, 11, .inl (fun _ => 0))), (q_508, .inl (cy 1, 3, .inl (fun _ => 0))), (q_509, .inl (cy 1, 10, .inl (fun _ => 0))), (q_510, .inl (cy 1, 32, .inl (fun _ => 0))), (q_511, .inl (cy 1, 1024, .inl (fun _ => 0))), (q_512, .inl (cy 1, 10, .inl (fun _ => 0))), (q_513, .inl (cy 1, 10, .inl (fun _ => 0))), (q_514, .inl (cy 1, 1000, .inl (fun _ => 0))), (q_515, .inl (cy 1, 1000, .inl (fun _ => 0))), (q_516, .inl (cy 1, 1000, .inl (fun _ => 0))), (q_517, .inl (cy 1, 1000, .inl (fun _ => 0)))] _ _ := hw33
  refine lv_aload_n hx hb dX12_init_144 rfl (lv_at hl 0 rfl) ?_
  refine lv_sipush (v := 1000) hx hb dX12_init_145 (by decide) ?_
  refine q_newz X hK hA hw33 wm_1_191 1000 (by decide) (by decide +kernel) (by decide) (Nat.le_of_ble_eq_true rfl) (Nat.le_of_ble_eq_true rfl) dX12_init_148 (fun q_518 Hp34 hw34 => ?_)
  clear Hp33 hw33
  replace hw34 : qW D _ _ [(h0, .inr (12, [.int 0, .ref q_502, .ref q_503, .ref q_504, .ref q_505, .int 0, .int 0, .int 0, .int 0, .int 0, .int 0, .int 0, .int 0, .int 0, .int (-1), .int 0, .ref q_506, .ref q_507, .ref q_508, .ref q_509, .ref q_510, .int 0, .int 0, .ref q_511, .ref q_512, .ref q_513, .int 0, .int 0, .ref q_514, .ref q_515, .ref q_516, .ref q_517, .null, .int 0, .null, .null, .null])), (q_502, .inl (cy 1, 3918, .inl (fun _ => 0))), (q_503, .inl (cy 3, 2, .inl (fun _ => 0))), (q_504, .inl (cy 1, 900, .inl (fun _ => 0))), (q_505, .inl (cy 1, 1306, .inl (fun _ => 0))), (q_506, .inl (cy 1, 900, .inl (fun _ => 0))), (q_507, .inl (cy 1, 11, .inl (fun _ => 0))), (q_508, .inl (cy 1, 3, .inl (fun _ => 0))), (q_509, .inl (cy 1, 10, .inl (fun _ => 0))), (q_510, .inl (cy 1, 32, .inl (fun _ => 0))), (q_511, .inl (cy 1, 1024, .inl (fun _ => 0))), (q_512, .inl (cy 1, 10, .inl (fun _ => 0))), (q_513, .inl (cy 1, 10, .inl (fun _ => 0))), (q_514, .inl (cy 1, 1000, .inl (fun _ => 0))), (q_515, .inl (cy 1, 1000, .inl (fun _ => 0))), (q_516, .inl (cy 1, 1000, .inl (fun _ => 0))), (q_517, .inl (cy 1, 1000, .inl (fun _ => 0))), (q_518, .inl (cy 3, 1000, .inl (fun _ => 0)))] _ _ := hw34
  refine q_putF (v := .ref q_518) X hK hw34 0 rfl rfl wf_12 tyX12 tyX12_ok nmX12 32 (by decide) wm_5_202 rfl hnm rfl rfl rfl (Nat.le_of_ble_eq_true rfl) dX12_init_150 (fun Hp35 lc35 hw35 => ?_)
  clear Hp34 lc33 hw34
  replace hw35 : qW D _ _ [(h0, .inr (12, [.int 0, .ref q_502, .ref q_503, .ref q_504, .ref q_505, .int 0, .int 0, .int 0, .int 0, .int 0, .int 0, .int 0, .int 0, .int 0, .int (-1), .int 0, .ref q_506, .ref q_507, .ref q_508, .ref q_509, .ref q_510, .int 0, .int 0, .ref q_511, .ref q_512, .ref q_513, .int 0, .int 0, .ref q_514, .ref q_515, .ref q_516, .ref q_517, .ref q_518, .int 0, .null, .null, .null])), (q_502, .inl (cy 1, 3918, .inl (fun _ => 0))), (q_503, .inl (cy 3, 2, .inl (fun _ => 0))), (q_504, .inl (cy 1, 900, .inl (fun _ => 0))), (q_505, .inl (cy 1, 1306, .inl (fun _ => 0))), (q_506, .inl (cy 1, 900, .inl (fun _ => 0))), (q_507, .inl (cy 1, 11, .inl (fun _ => 0))), (q_508, .inl (cy 1, 3, .inl (fun _ => 0))), (q_509, .inl (cy 1, 10, .inl (fun _ => 0))), (q_510, .inl (cy 1, 32, .inl (fun _ => 0))), (q_511, .inl (cy 1, 1024, .inl (fun _ => 0))), (q_512, .inl (cy 1, 10, .inl (fun _ => 0))), (q_513, .inl (cy 1, 10, .inl (fun _ => 0))), (q_514, .inl (cy 1, 1000, .inl (fun _ => 0))), (q_515, .inl (cy 1, 1000, .inl (fun _ => 0))), (q_516, .inl (cy 1, 1000, .inl (fun _ => 0))), (q_517, .inl (cy 1, 1000, .inl (fun _ => 0))), (q_518, .inl (cy 3, 1000, .inl (fun _ => 0)))] _ _ := hw35
  refine lv_aload_n hx hb dX12_init_153 rfl (lv_at hl 0 rfl) ?_
  refine lv_iconst (v := 4) hx hb dX12_init_154 (by decide) ?_
  refine q_newi X hK hA hw35 wm_1_67 4 (by decide) (by decide +kernel) (by decide) (Nat.le_of_ble_eq_true rfl) (Nat.le_of_ble_eq_true rfl) dX12_init_155 (fun q_519 Hp36 hw36 => ?_)
  clear Hp35 hw35
  replace hw36 : qW D _ _ [(h0, .inr (12, [.int 0, .ref q_502, .ref q_503, .ref q_504, .ref q_505, .int 0, .int 0, .int 0, .int 0, .int 0, .int 0, .int 0, .int 0, .int 0, .int (-1), .int 0, .ref q_506, .ref q_507, .ref q_508, .ref q_509, .ref q_510, .int 0, .int 0, .ref q_511, .ref q_512, .ref q_513, .int 0, .int 0, .ref q_514, .ref q_515, .ref q_516, .ref q_517, .ref q_518, .int 0, .null, .null, .null])), (q_502, .inl (cy 1, 3918, .inl (fun _ => 0))), (q_503, .inl (cy 3, 2, .inl (fun _ => 0))), (q_504, .inl (cy 1, 900, .inl (fun _ => 0))), (q_505, .inl (cy 1, 1306, .inl (fun _ => 0))), (q_506, .inl (cy 1, 900, .inl (fun _ => 0))), (q_507, .inl (cy 1, 11, .inl (fun _ => 0))), (q_508, .inl (cy 1, 3, .inl (fun _ => 0))), (q_509, .inl (cy 1, 10, .inl (fun _ => 0))), (q_510, .inl (cy 1, 32, .inl (fun _ => 0))), (q_511, .inl (cy 1, 1024, .inl (fun _ => 0))), (q_512, .inl (cy 1, 10, .inl (fun _ => 0))), (q_513, .inl (cy 1, 10, .inl (fun _ => 0))), (q_514, .inl (cy 1, 1000, .inl (fun _ => 0))), (q_515, .inl (cy 1, 1000, .inl (fun _ => 0))), (q_516, .inl (cy 1, 1000, .inl (fun _ => 0))), (q_517, .inl (cy 1, 1000, .inl (fun _ => 0))), (q_518, .inl (cy 3, 1000, .inl (fun _ => 0))), (q_519, .inl (cy 1, 4, .inl (fun _ => 0)))] _ _ := hw36
  refine lv_dup hx hb dX12_init_157 rfl ?_
  refine lv_iconst (v := 0) hx hb dX12_init_158 (by decide) ?_
  refine lv_iconst (v := (-1)) hx hb dX12_init_159 (by decide) ?_
  refine q_iast X hK hw36 18 rfl (q_in (by decide +kernel)) dX12_init_160 (fun Hp37 lc37 hw37 => ?_)
  clear Hp36 lc35 hw36
  replace hw37 : qW D _ _ [(h0, .inr (12, [.int 0, .ref q_502, .ref q_503, .ref q_504, .ref q_505, .int 0, .int 0, .int 0, .int 0, .int 0, .int 0, .int 0, .int 0, .int 0, .int (-1), .int 0, .ref q_506, .ref q_507, .ref q_508, .ref q_509, .ref q_510, .int 0, .int 0, .ref q_511, .ref q_512, .ref q_513, .int 0, .int 0, .ref q_514, .ref q_515, .ref q_516, .ref q_517, .ref q_518, .int 0, .null, .null, .null])), (q_502, .inl (cy 1, 3918, .inl (fun _ => 0))), (q_503, .inl (cy 3, 2, .inl (fun _ => 0))), (q_504, .inl (cy 1, 900, .inl (fun _ => 0))), (q_505, .inl (cy 1, 1306, .inl (fun _ => 0))), (q_506, .inl (cy 1, 900, .inl (fun _ => 0))), (q_507, .inl (cy 1, 11, .inl (fun _ => 0))), (q_508, .inl (cy 1, 3, .inl (fun _ => 0))), (q_509, .inl (cy 1, 10, .inl (fun _ => 0))), (q_510, .inl (cy 1, 32, .inl (fun _ => 0))), (q_511, .inl (cy 1, 1024, .inl (fun _ => 0))), (q_512, .inl (cy 1, 10, .inl (fun _ => 0))), (q_513, .inl (cy 1, 10, .inl (fun _ => 0))), (q_514, .inl (cy 1, 1000, .inl (fun _ => 0))), (q_515, .inl (cy 1, 1000, .inl (fun _ => 0))), (q_516, .inl (cy 1, 1000, .inl (fun _ => 0))), (q_517, .inl (cy 1, 1000, .inl (fun _ => 0))), (q_518, .inl (cy 3, 1000, .inl (fun _ => 0))), (q_519, .inl (cy 1, 4, .inl (upd (fun _ => 0) (Int32.toNatClampNeg 0) (-1))))] _ _ := hw37
  refine lv_dup hx hb dX12_init_161 rfl ?_
  refine lv_iconst (v := 1) hx hb dX12_init_162 (by decide) ?_
  refine lv_iconst (v := (-1)) hx hb dX12_init_163 (by decide) ?_
  refine q_iast X hK hw37 18 rfl (q_in (by decide +kernel)) dX12_init_164 (fun Hp38 lc38 hw38 => ?_)
  clear Hp37 lc37 hw37
  replace hw38 : qW D _ _ [(h0, .inr (12, [.int 0, .ref q_502, .ref q_503, .ref q_504, .ref q_505, .int 0, .int 0, .int 0, .int 0, .int 0, .int 0, .int 0, .int 0, .int 0, .int (-1), .int 0, .ref q_506, .ref q_507, .ref q_508, .ref q_509, .ref q_510, .int 0, .int 0, .ref q_511, .ref q_512, .ref q_513, .int 0, .int 0, .ref q_514, .ref q_515, .ref q_516, .ref q_517, .ref q_518, .int 0, .null, .null, .null])), (q_502, .inl (cy 1, 3918, .inl (fun _ => 0))), (q_503, .inl (cy 3, 2, .inl (fun _ => 0))), (q_504, .inl (cy 1, 900, .inl (fun _ => 0))), (q_505, .inl (cy 1, 1306, .inl (fun _ => 0))), (q_506, .inl (cy 1, 900, .inl (fun _ => 0))), (q_507, .inl (cy 1, 11, .inl (fun _ => 0))), (q_508, .inl (cy 1, 3, .inl (fun _ => 0))), (q_509, .inl (cy 1, 10, .inl (fun _ => 0))), (q_510, .inl (cy 1, 32, .inl (fun _ => 0))), (q_511, .inl (cy 1, 1024, .inl (fun _ => 0))), (q_512, .inl (cy 1, 10, .inl (fun _ => 0))), (q_513, .inl (cy 1, 10, .inl (fun _ => 0))), (q_514, .inl (cy 1, 1000, .inl (fun _ => 0))), (q_515, .inl (cy 1, 1000, .inl (fun _ => 0))), (q_516, .inl (cy 1, 1000, .inl (fun _ => 0))), (q_517, .inl (cy 1, 1000, .inl (fun _ => 0))), (q_518, .inl (cy 3, 1000, .inl (fun _ => 0))), (q_519, .inl (cy 1, 4, .inl (upd (upd (fun _ => 0) (Int32.toNatClampNeg 0) (-1)) (Int32.toNatClampNeg 1) (-1))))] _ _ := hw38
  refine lv_dup hx hb dX12_init_165 rfl ?_
  refine lv_iconst (v := 2) hx hb dX12_init_166 (by decide) ?_
  refine lv_iconst (v := (-1)) hx hb dX12_init_167 (by decide) ?_
  refine q_iast X hK hw38 18 rfl (q_in (by decide +kernel)) dX12_init_168 (fun Hp39 lc39 hw39 => ?_)
  clear Hp38 lc38 hw38
  replace hw39 : qW D _ _ [(h0, .inr (12, [.int 0, .ref q_502, .ref q_503, .ref q_504, .ref q_505, .int 0, .int 0, .int 0, .int 0, .int 0, .int 0, .int 0, .int 0, .int 0, .int (-1), .int 0, .ref q_506, .ref q_507, .ref q_508, .ref q_509, .ref q_510, .int 0, .int 0, .ref q_511, .ref q_512, .ref q_513, .int 0, .int 0, .ref q_514, .ref q_515, .ref q_516, .ref q_517, .ref q_518, .int 0, .null, .null, .null])), (q_502, .inl (cy 1, 3918, .inl (fun _ => 0))), (q_503, .inl (cy 3, 2, .inl (fun _ => 0))), (q_504, .inl (cy 1, 900, .inl (fun _ => 0))), (q_505, .inl (cy 1, 1306, .inl (fun _ => 0))), (q_506, .inl (cy 1, 900, .inl (fun _ => 0))), (q_507, .inl (cy 1, 11, .inl (fun _ => 0))), (q_508, .inl (cy 1, 3, .inl (fun _ => 0))), (q_509, .inl (cy 1, 10, .inl (fun _ => 0))), (q_510, .inl (cy 1, 32, .inl (fun _ => 0))), (q_511, .inl (cy 1, 1024, .inl (fun _ => 0))), (q_512, .inl (cy 1, 10, .inl (fun _ => 0))), (q_513, .inl (cy 1, 10, .inl (fun _ => 0))), (q_514, .inl (cy 1, 1000, .inl (fun _ => 0))), (q_515, .inl (cy 1, 1000, .inl (fun _ => 0))), (q_516, .inl (cy 1, 1000, .inl (fun _ => 0))), (q_517, .inl (cy 1, 1000, .inl (fun _ => 0))), (q_518, .inl (cy 3, 1000, .inl (fun _ => 0))), (q_519, .inl (cy 1, 4, .inl (upd (upd (upd (fun _ => 0) (Int32.toNatClampNeg 0) (-1)) (Int32.toNatClampNeg 1) (-1)) (Int32.toNatClampNeg 2) (-1))))] _ _ := hw39
  refine lv_dup hx hb dX12_init_169 rfl ?_
  refine lv_iconst (v := 3) hx hb dX12_init_170 (by decide) ?_
  refine lv_iconst (v := (-1)) hx hb dX12_init_171 (by decide) ?_
  refine q_iast X hK hw39 18 rfl (q_in (by decide +kernel)) dX12_init_172 (fun Hp40 lc40 hw40 => ?_)
  clear Hp39 lc39 hw39
  replace hw40 : qW D _ _ [(h0, .inr (12, [.int 0, .ref q_502, .ref q_503, .ref q_504, .ref q_505, .int 0, .int 0, .int 0, .int 0, .int 0, .int 0, .int 0, .int 0, .int 0, .int (-1), .int 0, .ref q_506, .ref q_507, .ref q_508, .ref q_509, .ref q_510, .int 0, .int 0, .ref q_511, .ref q_512, .ref q_513, .int 0, .int 0, .ref q_514, .ref q_515, .ref q_516, .ref q_517, .ref q_518, .int 0, .null, .null, .null])), (q_502, .inl (cy 1, 3918, .inl (fun _ => 0))), (q_503, .inl (cy 3, 2, .inl (fun _ => 0))), (q_504, .inl (cy 1, 900, .inl (fun _ => 0))), (q_505, .inl (cy 1, 1306, .inl (fun _ => 0))), (q_506, .inl (cy 1, 900, .inl (fun _ => 0))), (q_507, .inl (cy 1, 11, .inl (fun _ => 0))), (q_508, .inl (cy 1, 3, .inl (fun _ => 0))), (q_509, .inl (cy 1, 10, .inl (fun _ => 0))), (q_510, .inl (cy 1, 32, .inl (fun _ => 0))), (q_511, .inl (cy 1, 1024, .inl (fun _ => 0))), (q_512, .inl (cy 1, 10, .inl (fun _ => 0))), (q_513, .inl (cy 1, 10, .inl (fun _ => 0))), (q_514, .inl (cy 1, 1000, .inl (fun _ => 0))), (q_515, .inl (cy 1, 1000, .inl (fun _ => 0))), (q_516, .inl (cy 1, 1000, .inl (fun _ => 0))), (q_517, .inl (cy 1, 1000, .inl (fun _ => 0))), (q_518, .inl (cy 3, 1000, .inl (fun _ => 0))), (q_519, .inl (cy 1, 4, .inl (upd (upd (upd (upd (fun _ => 0) (Int32.toNatClampNeg 0) (-1)) (Int32.toNatClampNeg 1) (-1)) (Int32.toNatClampNeg 2) (-1)) (Int32.toNatClampNeg 3) (-1))))] _ _ := hw40
  refine q_putF (v := .ref q_519) X hK hw40 0 rfl rfl wf_12 tyX12 tyX12_ok nmX12 34 (by decide) wm_5_204 rfl hnm rfl rfl rfl (Nat.le_of_ble_eq_true rfl) dX12_init_173 (fun Hp41 lc41 hw41 => ?_)
  clear Hp40 lc40 hw40
  replace hw41 : qW D _ _ [(h0, .inr (12, [.int 0, .ref q_502, .ref q_503, .ref q_504, .ref q_505, .int 0, .int 0, .int 0, .int 0, .int 0, .int 0, .int 0, .int 0, .int 0, .int (-1), .int 0, .ref q_506, .ref q_507, .ref q_508, .ref q_509, .ref q_510, .int 0, .int 0, .ref q_511, .ref q_512, .ref q_513, .int 0, .int 0, .ref q_514, .ref q_515, .ref q_516, .ref q_517, .ref q_518, .int 0, .ref q_519, .null, .null])), (q_502, .inl (cy 1, 3918, .inl (fun _ => 0))), (q_503, .inl (cy 3, 2, .inl (fun _ => 0))), (q_504, .inl (cy 1, 900, .inl (fun _ => 0))), (q_505, .inl (cy 1, 1306, .inl (fun _ => 0))), (q_506, .inl (cy 1, 900, .inl (fun _ => 0))), (q_507, .inl (cy 1, 11, .inl (fun _ => 0))), (q_508, .inl (cy 1, 3, .inl (fun _ => 0))), (q_509, .inl (cy 1, 10, .inl (fun _ => 0))), (q_510, .inl (cy 1, 32, .inl (fun _ => 0))), (q_511, .inl (cy 1, 1024, .inl (fun _ => 0))), (q_512, .inl (cy 1, 10, .inl (fun _ => 0))), (q_513, .inl (cy 1, 10, .inl (fun _ => 0))), (q_514, .inl (cy 1, 1000, .inl (fun _ => 0))), (q_515, .inl (cy 1, 1000, .inl (fun _ => 0))), (q_516, .inl (cy 1, 1000, .inl (fun _ => 0))), (q_517, .inl (cy 1, 1000, .inl (fun _ => 0))), (q_518, .inl (cy 3, 1000, .inl (fun _ => 0))), (q_519, .inl (cy 1, 4, .inl (upd (upd (upd (upd (fun _ => 0) (Int32.toNatClampNeg 0) (-1)) (Int32.toNatClampNeg 1) (-1)) (Int32.toNatClampNeg 2) (-1)) (Int32.toNatClampNeg 3) (-1))))] _ _ := hw41
  refine lv_aload_n hx hb dX12_init_176 rfl (lv_at hl 0 rfl) ?_
  refine lv_iconst (v := 4) hx hb dX12_init_177 (by decide) ?_
  refine q_newi X hK hA hw41 wm_1_67 4 (by decide) (by decide +kernel) (by decide) (Nat.le_of_ble_eq_true rfl) (Nat.le_of_ble_eq_true rfl) dX12_init_178 (fun q_520 Hp42 hw42 => ?_)
  clear Hp41 hw41
  replace hw42 : qW D _ _ [(h0, .inr (12, [.int 0, .ref q_502, .ref q_503, .ref q_504, .ref q_505, .int 0, .int 0, .int 0, .int 0, .int 0, .int 0, .int 0, .int 0, .int 0, .int (-1), .int 0, .ref q_506, .ref q_507, .ref q_508, .ref q_509, .ref q_510, .int 0, .int 0, .ref q_511, .ref q_512, .ref q_513, .int 0, .int 0, .ref q_514, .ref q_515, .ref q_516, .ref q_517, .ref q_518, .int 0, .ref q_519, .null, .null])), (q_502, .inl (cy 1, 3918, .inl (fun _ => 0))), (q_503, .inl (cy 3, 2, .inl (fun _ => 0))), (q_504, .inl (cy 1, 900, .inl (fun _ => 0))), (q_505, .inl (cy 1, 1306, .inl (fun _ => 0))), (q_506, .inl (cy 1, 900, .inl (fun _ => 0))), (q_507, .inl (cy 1, 11, .inl (fun _ => 0))), (q_508, .inl (cy 1, 3, .inl (fun _ => 0))), (q_509, .inl (cy 1, 10, .inl (fun _ => 0))), (q_510, .inl (cy 1, 32, .inl (fun _ => 0))), (q_511, .inl (cy 1, 1024, .inl (fun _ => 0))), (q_512, .inl (cy 1, 10, .inl (fun _ => 0))), (q_513, .inl (cy 1, 10, .inl (fun _ => 0))), (q_514, .inl (cy 1, 1000, .inl (fun _ => 0))), (q_515, .inl (cy 1, 1000, .inl (fun _ => 0))), (q_516, .inl (cy 1, 1000, .inl (fun _ => 0))), (q_517, .inl (cy 1, 1000, .inl (fun _ => 0))), (q_518, .inl (cy 3, 1000, .inl (fun _ => 0))), (q_519, .inl (cy 1, 4, .inl (upd (upd (upd (upd (fun _ => 0) (Int32.toNatClampNeg 0) (-1)) (Int32.toNatClampNeg 1) (-1)) (Int32.toNatClampNeg 2) (-1)) (Int32.toNatClampNeg 3) (-1)))), (q_520, .inl (cy 1, 4, .inl (fun _ => 0)))] _ _ := hw42
  refine q_putF (v := .ref q_520) X hK hw42 0 rfl rfl wf_12 tyX12 tyX12_ok nmX12 35 (by decide) wm_5_205 rfl hnm rfl rfl rfl (Nat.le_of_ble_eq_true rfl) dX12_init_180 (fun Hp43 lc43 hw43 => ?_)
  clear Hp42 lc41 hw42
  replace hw43 : qW D _ _ [(h0, .inr (12, [.int 0, .ref q_502, .ref q_503, .ref q_504, .ref q_505, .int 0, .int 0, .int 0, .int 0, .int 0, .int 0, .int 0, .int 0, .int 0, .int (-1), .int 0, .ref q_506, .ref q_507, .ref q_508, .ref q_509, .ref q_510, .int 0, .int 0, .ref q_511, .ref q_512, .ref q_513, .int 0, .int 0, .ref q_514, .ref q_515, .ref q_516, .ref q_517, .ref q_518, .int 0, .ref q_519, .ref q_520, .null])), (q_502, .inl (cy 1, 3918, .inl (fun _ => 0))), (q_503, .inl (cy 3, 2, .inl (fun _ => 0))), (q_504, .inl (cy 1, 900, .inl (fun _ => 0))), (q_505, .inl (cy 1, 1306, .inl (fun _ => 0))), (q_506, .inl (cy 1, 900, .inl (fun _ => 0))), (q_507, .inl (cy 1, 11, .inl (fun _ => 0))), (q_508, .inl (cy 1, 3, .inl (fun _ => 0))), (q_509, .inl (cy 1, 10, .inl (fun _ => 0))), (q_510, .inl (cy 1, 32, .inl (fun _ => 0))), (q_511, .inl (cy 1, 1024, .inl (fun _ => 0))), (q_512, .inl (cy 1, 10, .inl (fun _ => 0))), (q_513, .inl (cy 1, 10, .inl (fun _ => 0))), (q_514, .inl (cy 1, 1000, .inl (fun _ => 0))), (q_515, .inl (cy 1, 1000, .inl (fun _ => 0))), (q_516, .inl (cy 1, 1000, .inl (fun _ => 0))), (q_517, .inl (cy 1, 1000, .inl (fun _ => 0))), (q_518, .inl (cy 3, 1000, .inl (fun _ => 0))), (q_519, .inl (cy 1, 4, .inl (upd (upd (upd (upd (fun _ => 0) (Int32.toNatClampNeg 0) (-1)) (Int32.toNatClampNeg 1) (-1)) (Int32.toNatClampNeg 2) (-1)) (Int32.toNatClampNeg 3) (-1)))), (q_520, .inl (cy 1, 4, .inl (fun _ => 0)))] _ _ := hw43
  refine lv_aload_n hx hb dX12_init_183 rfl (lv_at hl 0 rfl) ?_
  refine lv_sipush (v := 160) hx hb dX12_init_184 (by decide) ?_
  refine q_newj X hK hA hw43 wm_2_97 160 (by decide) (by decide +kernel) (by decide) (Nat.le_of_ble_eq_true rfl) (Nat.le_of_ble_eq_true rfl) dX12_init_187 (fun q_521 Hp44 hw44 => ?_)
  clear Hp43 hw43
  replace hw44 : qW D _ _ [(h0, .inr (12, [.int 0, .ref q_502, .ref q_503, .ref q_504, .ref q_505, .int 0, .int 0, .int 0, .int 0, .int 0, .int 0, .int 0, .int 0, .int 0, .int (-1), .int 0, .ref q_506, .ref q_507, .ref q_508, .ref q_509, .ref q_510, .int 0, .int 0, .ref q_511, .ref q_512, .ref q_513, .int 0, .int 0, .ref q_514, .ref q_515, .ref q_516, .ref q_517, .ref q_518, .int 0, .ref q_519, .ref q_520, .null])), (q_502, .inl (cy 1, 3918, .inl (fun _ => 0))), (q_503, .inl (cy 3, 2, .inl (fun _ => 0))), (q_504, .inl (cy 1, 900, .inl (fun _ => 0))), (q_505, .inl (cy 1, 1306, .inl (fun _ => 0))), (q_506, .inl (cy 1, 900, .inl (fun _ => 0))), (q_507, .inl (cy 1, 11, .inl (fun _ => 0))), (q_508, .inl (cy 1, 3, .inl (fun _ => 0))), (q_509, .inl (cy 1, 10, .inl (fun _ => 0))), (q_510, .inl (cy 1, 32, .inl (fun _ => 0))), (q_511, .inl (cy 1, 1024, .inl (fun _ => 0))), (q_512, .inl (cy 1, 10, .inl (fun _ => 0))), (q_513, .inl (cy 1, 10, .inl (fun _ => 0))), (q_514, .inl (cy 1, 1000, .inl (fun _ => 0))), (q_515, .inl (cy 1, 1000, .inl (fun _ => 0))), (q_516, .inl (cy 1, 1000, .inl (fun _ => 0))), (q_517, .inl (cy 1, 1000, .inl (fun _ => 0))), (q_518, .inl (cy 3, 1000, .inl (fun _ => 0))), (q_519, .inl (cy 1, 4, .inl (upd (upd (upd (upd (fun _ => 0) (Int32.toNatClampNeg 0) (-1)) (Int32.toNatClampNeg 1) (-1)) (Int32.toNatClampNeg 2) (-1)) (Int32.toNatClampNeg 3) (-1)))), (q_520, .inl (cy 1, 4, .inl (fun _ => 0))), (q_521, .inl (cy 2, 160, .inr (.inl (fun _ => 0))))] _ _ := hw44
  refine q_putF (v := .ref q_521) X hK hw44 0 rfl rfl wf_12 tyX12 tyX12_ok nmX12 36 (by decide) wm_5_206 rfl hnm rfl rfl rfl (Nat.le_of_ble_eq_true rfl) dX12_init_189 (fun Hp45 lc45 hw45 => ?_)
  clear Hp44 lc43 hw44
  replace hw45 : qW D _ _ [(h0, .inr (12, [.int 0, .ref q_502, .ref q_503, .ref q_504, .ref q_505, .int 0, .int 0, .int 0, .int 0, .int 0, .int 0, .int 0, .int 0, .int 0, .int (-1), .int 0, .ref q_506, .ref q_507, .ref q_508, .ref q_509, .ref q_510, .int 0, .int 0, .ref q_511, .ref q_512, .ref q_513, .int 0, .int 0, .ref q_514, .ref q_515, .ref q_516, .ref q_517, .ref q_518, .int 0, .ref q_519, .ref q_520, .ref q_521])), (q_502, .inl (cy 1, 3918, .inl (fun _ => 0))), (q_503, .inl (cy 3, 2, .inl (fun _ => 0))), (q_504, .inl (cy 1, 900, .inl (fun _ => 0))), (q_505, .inl (cy 1, 1306, .inl (fun _ => 0))), (q_506, .inl (cy 1, 900, .inl (fun _ => 0))), (q_507, .inl (cy 1, 11, .inl (fun _ => 0))), (q_508, .inl (cy 1, 3, .inl (fun _ => 0))), (q_509, .inl (cy 1, 10, .inl (fun _ => 0))), (q_510, .inl (cy 1, 32, .inl (fun _ => 0))), (q_511, .inl (cy 1, 1024, .inl (fun _ => 0))), (q_512, .inl (cy 1, 10, .inl (fun _ => 0))), (q_513, .inl (cy 1, 10, .inl (fun _ => 0))), (q_514, .inl (cy 1, 1000, .inl (fun _ => 0))), (q_515, .inl (cy 1, 1000, .inl (fun _ => 0))), (q_516, .inl (cy 1, 1000, .inl (fun _ => 0))), (q_517, .inl (cy 1, 1000, .inl (fun _ => 0))), (q_518, .inl (cy 3, 1000, .inl (fun _ => 0))), (q_519, .inl (cy 1, 4, .inl (upd (upd (upd (upd (fun _ => 0) (Int32.toNatClampNeg 0) (-1)) (Int32.toNatClampNeg 1) (-1)) (Int32.toNatClampNeg 2) (-1)) (Int32.toNatClampNeg 3) (-1)))), (q_520, .inl (cy 1, 4, .inl (fun _ => 0))), (q_521, .inl (cy 2, 160, .inr (.inl (fun _ => 0))))] _ _ := hw45
  refine lv_aload_n hx hb dX12_init_192 rfl (lv_at hl 0 rfl) ?_
  refine q_get X hK hw45 0 rfl rfl wf_12 1 (by decide) rfl wm_5_171 dX12_init_193 ?_
  refine q_callSv (rest := []) (wr := [(h0, .inr (12, [.int 0, .ref q_502, .ref q_503, .ref q_504, .ref q_505, .int 0, .int 0, .int 0, .int 0, .int 0, .int 0, .int 0, .int 0, .int 0, .int (-1), .int 0, .ref q_506, .ref q_507, .ref q_508, .ref q_509, .ref q_510, .int 0, .int 0, .ref q_511, .ref q_512, .ref q_513, .int 0, .int 0, .ref q_514, .ref q_515, .ref q_516, .ref q_517, .ref q_518, .int 0, .ref q_519, .ref q_520, .ref q_521])), (q_503, .inl (cy 3, 2, .inl (fun _ => 0))), (q_504, .inl (cy 1, 900, .inl (fun _ => 0))), (q_505, .inl (cy 1, 1306, .inl (fun _ => 0))), (q_506, .inl (cy 1, 900, .inl (fun _ => 0))), (q_507, .inl (cy 1, 11, .inl (fun _ => 0))), (q_508, .inl (cy 1, 3, .inl (fun _ => 0))), (q_509, .inl (cy 1, 10, .inl (fun _ => 0))), (q_510, .inl (cy 1, 32, .inl (fun _ => 0))), (q_511, .inl (cy 1, 1024, .inl (fun _ => 0))), (q_512, .inl (cy 1, 10, .inl (fun _ => 0))), (q_513, .inl (cy 1, 10, .inl (fun _ => 0))), (q_514, .inl (cy 1, 1000, .inl (fun _ => 0))), (q_515, .inl (cy 1, 1000, .inl (fun _ => 0))), (q_516, .inl (cy 1, 1000, .inl (fun _ => 0))), (q_517, .inl (cy 1, 1000, .inl (fun _ => 0))), (q_518, .inl (cy 3, 1000, .inl (fun _ => 0))), (q_519, .inl (cy 1, 4, .inl (upd (upd (upd (upd (fun _ => 0) (Int32.toNatClampNeg 0) (-1)) (Int32.toNatClampNeg 1) (-1)) (Int32.toNatClampNeg 2) (-1)) (Int32.toNatClampNeg 3) (-1)))), (q_520, .inl (cy 1, 4, .inl (fun _ => 0))), (q_521, .inl (cy 2, 160, .inr (.inl (fun _ => 0))))]) X hK hA hw45 (fun sz => kX12_plain_12 l D cy q_502  sz) wm_5_167 wm_5_169 wm_1_12 hd_X12_plain wm_5_168 ⟨Nat.le_of_ble_eq_true rfl, Nat.le_of_ble_eq_true rfl⟩ hl.1 rfl (Nat.le_of_ble_eq_true rfl) dX12_init_196 ⟨Nat.le_of_ble_eq_true rfl, Nat.le_of_ble_eq_true rfl⟩ [1] [0, 2, 3, 4, 5, 6, 7, 8, 9, 10, 11, 12, 13, 14, 15, 16, 17, 18, 19, 20] rfl rfl (by decide) rfl rfl (fun u_525 Hp46 lc46 w_525 hw46 => ?_)
  clear Hp45 lc45 hw45
  replace hw46 : qW D _ _ [(h0, .inr (12, [.int 0, .ref q_502, .ref q_503, .ref q_504, .ref q_505, .int 0, .int 0, .int 0, .int 0, .int 0, .int 0, .int 0, .int 0, .int 0, .int (-1), .int 0, .ref q_506, .ref q_507, .ref q_508, .ref q_509, .ref q_510, .int 0, .int 0, .ref q_511, .ref q_512, .ref q_513, .int 0, .int 0, .ref q_514, .ref q_515, .ref q_516, .ref q_517, .ref q_518, .int 0, .ref q_519, .ref q_520, .ref q_521])), (q_503, .inl (cy 3, 2, .inl (fun _ => 0))), (q_504, .inl (cy 1, 900, .inl (fun _ => 0))), (q_505, .inl (cy 1, 1306, .inl (fun _ => 0))), (q_506, .inl (cy 1, 900, .inl (fun _ => 0))), (q_507, .inl (cy 1, 11, .inl (fun _ => 0))), (q_508, .inl (cy 1, 3, .inl (fun _ => 0))), (q_509, .inl (cy 1, 10, .inl (fun _ => 0))), (q_510, .inl (cy 1, 32, .inl (fun _ => 0))), (q_511, .inl (cy 1, 1024, .inl (fun _ => 0))), (q_512, .inl (cy 1, 10, .inl (fun _ => 0))), (q_513, .inl (cy 1, 10, .inl (fun _ => 0))), (q_514, .inl (cy 1, 1000, .inl (fun _ => 0))), (q_515, .inl (cy 1, 1000, .inl (fun _ => 0))), (q_516, .inl (cy 1, 1000, .inl (fun _ => 0))), (q_517, .inl (cy 1, 1000, .inl (fun _ => 0))), (q_518, .inl (cy 3, 1000, .inl (fun _ => 0))), (q_519, .inl (cy 1, 4, .inl (upd (upd (upd (upd (fun _ => 0) (Int32.toNatClampNeg 0) (-1)) (Int32.toNatClampNeg 1) (-1)) (Int32.toNatClampNeg 2) (-1)) (Int32.toNatClampNeg 3) (-1)))), (q_520, .inl (cy 1, 4, .inl (fun _ => 0))), (q_521, .inl (cy 2, 160, .inr (.inl (fun _ => 0)))), (q_502, .inl (cy 1, 3918, .inl (upd (fun _ => 0) (Int32.toNatClampNeg 1) 1)))] _ _ := hw46
  exact q_vret X hr hlk hK hw46 (fun k => List.getD [q_503, q_504, q_505, q_506, q_507, q_508, q_509, q_510, q_511, q_512, q_513, q_514, q_515, q_516, q_517, q_518, q_519, q_520, q_521, q_502] k 0, fun _ _ => 0, fun _ _ => 0) trivial [0, 1, 2, 3, 4, 5, 6, 7, 8, 9, 10, 11, 12, 13, 14, 15, 16, 17, 18, 19, 20] rfl rfl dX12_init_199 (Nat.le_of_ble_eq_true rfl) (Nat.le_of_ble_eq_true rfl)
set_option maxHeartbeats 4000000 in
set_option maxRecDepth 100000 in
theorem kX11_putOnTape_14 (l : Launch) (D : va_G) (cy : Nat → ClassId) (h0 : Nat) (h1 : Nat) (p0 : Int32) (h2 : Nat) (h3 : Nat) (h4 : Nat) (h5 : Nat) (h6 : Nat) (h7 : Nat) (h8 : Nat) (h9 : Nat) (h10 : Nat) (h11 : Nat) (h12 : Nat) (h13 : Nat) (sz : Nat) : MV l yX11_putOnTape cX11_putOnTape 3 { frames := 0, cells := 0, slots := 0, locals := 0 } [.ref h0, .int p0] D cy [(h0, .inr (11, [.ref h1, .int 0, .int 0, .int (-1), .ref h2, .ref h3, .ref h4, .ref h5, .ref h6, .ref h7, .ref h8, .ref h9, .ref h10, .ref h11, .ref h12, .ref h13, .int 0])), (h1, .inl (cy 0, 900, .inl (fun _ => 0)))] sz (fun _ => True) (fun u => [(h0, .inr (11, [.ref h1, .int 4, .int 0, .int (-1), .ref h2, .ref h3, .ref h4, .ref h5, .ref h6, .ref h7, .ref h8, .ref h9, .ref h10, .ref h11, .ref h12, .ref h13, .int 0])), (h1, .inl (cy 0, 900, .inl (u.2.1 0)))]) 0 0 := by
  refine q_ent (own := RX11) (by decide) rfl (Nat.le_of_ble_eq_true rfl) (fun p e s m below meth c ls X hr hlk hnm hK h hA hl => ?_)
  obtain ⟨hx, hb, hml, hown, ht⟩ := id X
  replace hl : lv_has ls 3 [(0, .ref h0), (1, .int p0)] := hl
  refine lv_bipush (v := 24) hx hb dX11_putOnTape_0 (by decide) ?_
  refine lv_istore_n (lv' := [(2, .int 24), (0, .ref h0), (1, .int p0)]) hx hb dX11_putOnTape_2 rfl hl (by decide) rfl (fun lz1 hv1 => ?_)
  clear ls hl
  refine lv_iload_n hx hb dX11_putOnTape_3 rfl (lv_at hv1 0 rfl) ?_
  refine lv_if_lt (tgt := 46) hx hb dX11_putOnTape_4 (by decide) (fun c => absurd c (by decide +kernel)) (fun _ => ?_)
  refine lv_aload_n hx hb dX11_putOnTape_7 rfl (lv_at hv1 1 rfl) ?_
  refine q_get X hK h 0 rfl rfl wf_11 1 (by decide) rfl wm_2_99 dX11_putOnTape_8 ?_
  refine lv_sipush (v := 900) hx hb dX11_putOnTape_11 (by decide) ?_
  refine lv_icmp_ge (tgt := 46) hx hb dX11_putOnTape_14 (by decide) (fun c => absurd c (by decide +kernel)) (fun _ => ?_)
  refine lv_aload_n hx hb dX11_putOnTape_17 rfl (lv_at hv1 1 rfl) ?_
  refine q_get X hK h 0 rfl rfl wf_11 0 (by decide) rfl wm_2_98 dX11_putOnTape_18 ?_
  refine lv_aload_n hx hb dX11_putOnTape_21 rfl (lv_at hv1 1 rfl) ?_
  refine q_get X hK h 0 rfl rfl wf_11 1 (by decide) rfl wm_2_99 dX11_putOnTape_22 ?_
  refine lv_iload_n hx hb dX11_putOnTape_25 rfl (lv_at hv1 2 rfl) ?_
  refine lv_iload_n hx hb dX11_putOnTape_26 rfl (lv_at hv1 0 rfl) ?_
  refine lv_iushr hx hb dX11_putOnTape_27 rfl ?_
  refine lv_i2b hx hb dX11_putOnTape_28 rfl ?_
  refine q_bast X hK h 1 rfl (q_in (by decide +kernel)) dX11_putOnTape_29 (fun Hp2 lc2 hw2 => ?_)
  clear h
  replace hw2 : qW D _ _ [(h0, .inr (11, [.ref h1, .int 0, .int 0, .int (-1), .ref h2, .ref h3, .ref h4, .ref h5, .ref h6, .ref h7, .ref h8, .ref h9, .ref h10, .ref h11, .ref h12, .ref h13, .int 0])), (h1, .inl (cy 0, 900, .inl (upd (fun _ => 0) (Int32.toNatClampNeg 0) (vp_nar .byte (((((p0).toUInt32 >>> ((24 : Int32).toUInt32 &&& Int32.toUInt32 31)).toInt32)).toInt8.toInt32)))))] _ _ := hw2
  generalize (upd (fun _ => 0) (Int32.toNatClampNeg 0) (vp_nar .byte (((((p0).toUInt32 >>> ((24 : Int32).toUInt32 &&& Int32.toUInt32 31)).toInt32)).toInt8.toInt32))) = f_663 at hw2
  refine lv_aload_n hx hb dX11_putOnTape_30 rfl (lv_at hv1 1 rfl) ?_
  refine lv_dup hx hb dX11_putOnTape_31 rfl ?_
  refine q_get X hK hw2 0 rfl rfl wf_11 1 (by decide) rfl wm_2_99 dX11_putOnTape_32 ?_
  refine lv_iconst (v := 1) hx hb dX11_putOnTape_35 (by decide) ?_
  refine lv_iadd hx hb dX11_putOnTape_36 ?_
  refine q_c 1 (by decide +kernel) ?_
  refine q_put (v := .int 1) X hK hw2 0 rfl rfl wf_11 tyX11 tyX11_ok nmX11 1 (by decide) wm_2_99 rfl rfl rfl (Nat.le_of_ble_eq_true rfl) dX11_putOnTape_37 (fun Hp3 lc3 hw3 => ?_)
  clear Hp2 lc2 hw2
  replace hw3 : qW D _ _ [(h0, .inr (11, [.ref h1, .int 1, .int 0, .int (-1), .ref h2, .ref h3, .ref h4, .ref h5, .ref h6, .ref h7, .ref h8, .ref h9, .ref h10, .ref h11, .ref h12, .ref h13, .int 0])), (h1, .inl (cy 0, 900, .inl f_663))] _ _ := hw3
  refine lv_iinc (v := 16) (lv' := [(2, .int 16), (0, .ref h0), (1, .int p0)]) hx hb dX11_putOnTape_40 hv1 (k := 0) rfl (by decide +kernel) (by decide) rfl (fun lz4 hv4 => ?_)
  clear lz1 hv1
  refine lv_goto (tgt := 3) hx hb dX11_putOnTape_43 (by decide) ?_
  refine lv_iload_n hx hb dX11_putOnTape_3 rfl (lv_at hv4 0 rfl) ?_
  refine lv_if_lt (tgt := 46) hx hb dX11_putOnTape_4 (by decide) (fun c => absurd c (by decide +kernel)) (fun _ => ?_)
  refine lv_aload_n hx hb dX11_putOnTape_7 rfl (lv_at hv4 1 rfl) ?_
  refine q_get X hK hw3 0 rfl rfl wf_11 1 (by decide) rfl wm_2_99 dX11_putOnTape_8 ?_
  refine lv_sipush (v := 900) hx hb dX11_putOnTape_11 (by decide) ?_
  refine lv_icmp_ge (tgt := 46) hx hb dX11_putOnTape_14 (by decide) (fun c => absurd c (by decide +kernel)) (fun _ => ?_)
  refine lv_aload_n hx hb dX11_putOnTape_17 rfl (lv_at hv4 1 rfl) ?_
  refine q_get X hK hw3 0 rfl rfl wf_11 0 (by decide) rfl wm_2_98 dX11_putOnTape_18 ?_
  refine lv_aload_n hx hb dX11_putOnTape_21 rfl (lv_at hv4 1 rfl) ?_
  refine q_get X hK hw3 0 rfl rfl wf_11 1 (by decide) rfl wm_2_99 dX11_putOnTape_22 ?_
  refine lv_iload_n hx hb dX11_putOnTape_25 rfl (lv_at hv4 2 rfl) ?_
  refine lv_iload_n hx hb dX11_putOnTape_26 rfl (lv_at hv4 0 rfl) ?_
  refine lv_iushr hx hb dX11_putOnTape_27 rfl ?_
  refine lv_i2b hx hb dX11_putOnTape_28 rfl ?_
  refine q_bast X hK hw3 1 rfl (q_in (by decide +kernel)) dX11_putOnTape_29 (fun Hp5 lc5 hw5 => ?_)
  clear Hp3 lc3 hw3
  replace hw5 : qW D _ _ [(h0, .inr (11, [.ref h1, .int 1, .int 0, .int (-1), .ref h2, .ref h3, .ref h4, .ref h5, .ref h6, .ref h7, .ref h8, .ref h9, .ref h10, .ref h11, .ref h12, .ref h13, .int 0])), (h1, .inl (cy 0, 900, .inl (upd f_663 (Int32.toNatClampNeg 1) (vp_nar .byte (((((p0).toUInt32 >>> ((16 : Int32).toUInt32 &&& Int32.toUInt32 31)).toInt32)).toInt8.toInt32)))))] _ _ := hw5
  generalize (upd f_663 (Int32.toNatClampNeg 1) (vp_nar .byte (((((p0).toUInt32 >>> ((16 : Int32).toUInt32 &&& Int32.toUInt32 31)).toInt32)).toInt8.toInt32))) = f_664 at hw5
  refine lv_aload_n hx hb dX11_putOnTape_30 rfl (lv_at hv4 1 rfl) ?_
  refine lv_dup hx hb dX11_putOnTape_31 rfl ?_
  refine q_get X hK hw5 0 rfl rfl wf_11 1 (by decide) rfl wm_2_99 dX11_putOnTape_32 ?_
  refine lv_iconst (v := 1) hx hb dX11_putOnTape_35 (by decide) ?_
  refine lv_iadd hx hb dX11_putOnTape_36 ?_
  refine q_c 2 (by decide +kernel) ?_
  refine q_put (v := .int 2) X hK hw5 0 rfl rfl wf_11 tyX11 tyX11_ok nmX11 1 (by decide) wm_2_99 rfl rfl rfl (Nat.le_of_ble_eq_true rfl) dX11_putOnTape_37 (fun Hp6 lc6 hw6 => ?_)
  clear Hp5 lc5 hw5
  replace hw6 : qW D _ _ [(h0, .inr (11, [.ref h1, .int 2, .int 0, .int (-1), .ref h2, .ref h3, .ref h4, .ref h5, .ref h6, .ref h7, .ref h8, .ref h9, .ref h10, .ref h11, .ref h12, .ref h13, .int 0])), (h1, .inl (cy 0, 900, .inl f_664))] _ _ := hw6
  refine lv_iinc (v := 8) (lv' := [(2, .int 8), (0, .ref h0), (1, .int p0)]) hx hb dX11_putOnTape_40 hv4 (k := 0) rfl (by decide +kernel) (by decide) rfl (fun lz7 hv7 => ?_)
  clear lz4 hv4
  refine lv_goto (tgt := 3) hx hb dX11_putOnTape_43 (by decide) ?_
  refine lv_iload_n hx hb dX11_putOnTape_3 rfl (lv_at hv7 0 rfl) ?_
  refine lv_if_lt (tgt := 46) hx hb dX11_putOnTape_4 (by decide) (fun c => absurd c (by decide +kernel)) (fun _ => ?_)
  refine lv_aload_n hx hb dX11_putOnTape_7 rfl (lv_at hv7 1 rfl) ?_
  refine q_get X hK hw6 0 rfl rfl wf_11 1 (by decide) rfl wm_2_99 dX11_putOnTape_8 ?_
  refine lv_sipush (v := 900) hx hb dX11_putOnTape_11 (by decide) ?_
  refine lv_icmp_ge (tgt := 46) hx hb dX11_putOnTape_14 (by decide) (fun c => absurd c (by decide +kernel)) (fun _ => ?_)
  refine lv_aload_n hx hb dX11_putOnTape_17 rfl (lv_at hv7 1 rfl) ?_
  refine q_get X hK hw6 0 rfl rfl wf_11 0 (by decide) rfl wm_2_98 dX11_putOnTape_18 ?_
  refine lv_aload_n hx hb dX11_putOnTape_21 rfl (lv_at hv7 1 rfl) ?_
  refine q_get X hK hw6 0 rfl rfl wf_11 1 (by decide) rfl wm_2_99 dX11_putOnTape_22 ?_
  refine lv_iload_n hx hb dX11_putOnTape_25 rfl (lv_at hv7 2 rfl) ?_
  refine lv_iload_n hx hb dX11_putOnTape_26 rfl (lv_at hv7 0 rfl) ?_
  refine lv_iushr hx hb dX11_putOnTape_27 rfl ?_
  refine lv_i2b hx hb dX11_putOnTape_28 rfl ?_
  refine q_bast X hK hw6 1 rfl (q_in (by decide +kernel)) dX11_putOnTape_29 (fun Hp8 lc8 hw8 => ?_)
  clear Hp6 lc6 hw6
  replace hw8 : qW D _ _ [(h0, .inr (11, [.ref h1, .int 2, .int 0, .int (-1), .ref h2, .ref h3, .ref h4, .ref h5, .ref h6, .ref h7, .ref h8, .ref h9, .ref h10, .ref h11, .ref h12, .ref h13, .int 0])), (h1, .inl (cy 0, 900, .inl (upd f_664 (Int32.toNatClampNeg 2) (vp_nar .byte (((((p0).toUInt32 >>> ((8 : Int32).toUInt32 &&& Int32.toUInt32 31)).toInt32)).toInt8.toInt32)))))] _ _ := hw8
  generalize (upd f_664 (Int32.toNatClampNeg 2) (vp_nar .byte (((((p0).toUInt32 >>> ((8 : Int32).toUInt32 &&& Int32.toUInt32 31)).toInt32)).toInt8.toInt32))) = f_665 at hw8
  refine lv_aload_n hx hb dX11_putOnTape_30 rfl (lv_at hv7 1 rfl) ?_
  refine lv_dup hx hb dX11_putOnTape_31 rfl ?_
  refine q_get X hK hw8 0 rfl rfl wf_11 1 (by decide) rfl wm_2_99 dX11_putOnTape_32 ?_
  refine lv_iconst (v := 1) hx hb dX11_putOnTape_35 (by decide) ?_
  refine lv_iadd hx hb dX11_putOnTape_36 ?_
  refine q_c 3 (by decide +kernel) ?_
  refine q_put (v := .int 3) X hK hw8 0 rfl rfl wf_11 tyX11 tyX11_ok nmX11 1 (by decide) wm_2_99 rfl rfl rfl (Nat.le_of_ble_eq_true rfl) dX11_putOnTape_37 (fun Hp9 lc9 hw9 => ?_)
  clear Hp8 lc8 hw8
  replace hw9 : qW D _ _ [(h0, .inr (11, [.ref h1, .int 3, .int 0, .int (-1), .ref h2, .ref h3, .ref h4, .ref h5, .ref h6, .ref h7, .ref h8, .ref h9, .ref h10, .ref h11, .ref h12, .ref h13, .int 0])), (h1, .inl (cy 0, 900, .inl f_665))] _ _ := hw9
  refine lv_iinc (v := 0) (lv' := [(2, .int 0), (0, .ref h0), (1, .int p0)]) hx hb dX11_putOnTape_40 hv7 (k := 0) rfl (by decide +kernel) (by decide) rfl (fun lz10 hv10 => ?_)
  clear lz7 hv7
  refine lv_goto (tgt := 3) hx hb dX11_putOnTape_43 (by decide) ?_
  refine lv_iload_n hx hb dX11_putOnTape_3 rfl (lv_at hv10 0 rfl) ?_
  refine lv_if_lt (tgt := 46) hx hb dX11_putOnTape_4 (by decide) (fun c => absurd c (by decide +kernel)) (fun _ => ?_)
  refine lv_aload_n hx hb dX11_putOnTape_7 rfl (lv_at hv10 1 rfl) ?_
  refine q_get X hK hw9 0 rfl rfl wf_11 1 (by decide) rfl wm_2_99 dX11_putOnTape_8 ?_
  refine lv_sipush (v := 900) hx hb dX11_putOnTape_11 (by decide) ?_
  refine lv_icmp_ge (tgt := 46) hx hb dX11_putOnTape_14 (by decide) (fun c => absurd c (by decide +kernel)) (fun _ => ?_)
  refine lv_aload_n hx hb dX11_putOnTape_17 rfl (lv_at hv10 1 rfl) ?_
  refine q_get X hK hw9 0 rfl rfl wf_11 0 (by decide) rfl wm_2_98 dX11_putOnTape_18 ?_
  refine lv_aload_n hx hb dX11_putOnTape_21 rfl (lv_at hv10 1 rfl) ?_
  refine q_get X hK hw9 0 rfl rfl wf_11 1 (by decide) rfl wm_2_99 dX11_putOnTape_22 ?_
  refine lv_iload_n hx hb dX11_putOnTape_25 rfl (lv_at hv10 2 rfl) ?_
  refine lv_iload_n hx hb dX11_putOnTape_26 rfl (lv_at hv10 0 rfl) ?_
  refine lv_iushr hx hb dX11_putOnTape_27 rfl ?_
  refine lv_i2b hx hb dX11_putOnTape_28 rfl ?_
  refine q_bast X hK hw9 1 rfl (q_in (by decide +kernel)) dX11_putOnTape_29 (fun Hp11 lc11 hw11 => ?_)
  clear Hp9 lc9 hw9
  replace hw11 : qW D _ _ [(h0, .inr (11, [.ref h1, .int 3, .int 0, .int (-1), .ref h2, .ref h3, .ref h4, .ref h5, .ref h6, .ref h7, .ref h8, .ref h9, .ref h10, .ref h11, .ref h12, .ref h13, .int 0])), (h1, .inl (cy 0, 900, .inl (upd f_665 (Int32.toNatClampNeg 3) (vp_nar .byte (((((p0).toUInt32 >>> ((0 : Int32).toUInt32 &&& Int32.toUInt32 31)).toInt32)).toInt8.toInt32)))))] _ _ := hw11
  generalize (upd f_665 (Int32.toNatClampNeg 3) (vp_nar .byte (((((p0).toUInt32 >>> ((0 : Int32).toUInt32 &&& Int32.toUInt32 31)).toInt32)).toInt8.toInt32))) = f_666 at hw11
  refine lv_aload_n hx hb dX11_putOnTape_30 rfl (lv_at hv10 1 rfl) ?_
  refine lv_dup hx hb dX11_putOnTape_31 rfl ?_
  refine q_get X hK hw11 0 rfl rfl wf_11 1 (by decide) rfl wm_2_99 dX11_putOnTape_32 ?_
  refine lv_iconst (v := 1) hx hb dX11_putOnTape_35 (by decide) ?_
  refine lv_iadd hx hb dX11_putOnTape_36 ?_
  refine q_c 4 (by decide +kernel) ?_
  refine q_put (v := .int 4) X hK hw11 0 rfl rfl wf_11 tyX11 tyX11_ok nmX11 1 (by decide) wm_2_99 rfl rfl rfl (Nat.le_of_ble_eq_true rfl) dX11_putOnTape_37 (fun Hp12 lc12 hw12 => ?_)
  clear Hp11 lc11 hw11
  replace hw12 : qW D _ _ [(h0, .inr (11, [.ref h1, .int 4, .int 0, .int (-1), .ref h2, .ref h3, .ref h4, .ref h5, .ref h6, .ref h7, .ref h8, .ref h9, .ref h10, .ref h11, .ref h12, .ref h13, .int 0])), (h1, .inl (cy 0, 900, .inl f_666))] _ _ := hw12
  refine lv_iinc (v := (-8)) (lv' := [(2, .int (-8)), (0, .ref h0), (1, .int p0)]) hx hb dX11_putOnTape_40 hv10 (k := 0) rfl (by decide +kernel) (by decide) rfl (fun lz13 hv13 => ?_)
  clear lz10 hv10
  refine lv_goto (tgt := 3) hx hb dX11_putOnTape_43 (by decide) ?_
  refine lv_iload_n hx hb dX11_putOnTape_3 rfl (lv_at hv13 0 rfl) ?_
  refine lv_if_lt (tgt := 46) hx hb dX11_putOnTape_4 (by decide) (fun _ => ?_) (fun c => absurd c (by decide +kernel))
  exact q_vret X hr hlk hK hw12 (fun _ => 0, fun k => List.getD [f_666] k (fun _ => 0), fun _ _ => 0) trivial [0, 1] rfl rfl dX11_putOnTape_46 (Nat.le_of_ble_eq_true rfl) (Nat.le_of_ble_eq_true rfl)
set_option maxHeartbeats 4000000 in
set_option maxRecDepth 100000 in
theorem kX11_putOnTape_15 (l : Launch) (D : va_G) (cy : Nat → ClassId) (h0 : Nat) (h1 : Nat) (f0 : Nat → Int32) (p0 : Int32) (h2 : Nat) (h3 : Nat) (h4 : Nat) (h5 : Nat) (h6 : Nat) (h7 : Nat) (h8 : Nat) (h9 : Nat) (h10 : Nat) (h11 : Nat) (h12 : Nat) (h13 : Nat) (sz : Nat) : MV l yX11_putOnTape cX11_putOnTape 3 { frames := 0, cells := 0, slots := 0, locals := 0 } [.ref h0, .int p0] D cy [(h0, .inr (11, [.ref h1, .int 4, .int 0, .int (-1), .ref h2, .ref h3, .ref h4, .ref h5, .ref h6, .ref h7, .ref h8, .ref h9, .ref h10, .ref h11, .ref h12, .ref h13, .int 0])), (h1, .inl (cy 0, 900, .inl f0))] sz (fun _ => True) (fun u => [(h0, .inr (11, [.ref h1, .int 8, .int 0, .int (-1), .ref h2, .ref h3, .ref h4, .ref h5, .ref h6, .ref h7, .ref h8, .ref h9, .ref h10, .ref h11, .ref h12, .ref h13, .int 0])), (h1, .inl (cy 0, 900, .inl (u.2.1 0)))]) 0 0 := by
  refine q_ent (own := RX11) (by decide) rfl (Nat.le_of_ble_eq_true rfl) (fun p e s m below meth c ls X hr hlk hnm hK h hA hl => ?_)
  obtain ⟨hx, hb, hml, hown, ht⟩ := id X
  replace hl : lv_has ls 3 [(0, .ref h0), (1, .int p0)] := hl
  refine lv_bipush (v := 24) hx hb dX11_putOnTape_0 (by decide) ?_
  refine lv_istore_n (lv' := [(2, .int 24), (0, .ref h0), (1, .int p0)]) hx hb dX11_putOnTape_2 rfl hl (by decide) rfl (fun lz1 hv1 => ?_)
  clear ls hl
  refine lv_iload_n hx hb dX11_putOnTape_3 rfl (lv_at hv1 0 rfl) ?_
  refine lv_if_lt (tgt := 46) hx hb dX11_putOnTape_4 (by decide) (fun c => absurd c (by decide +kernel)) (fun _ => ?_)
  refine lv_aload_n hx hb dX11_putOnTape_7 rfl (lv_at hv1 1 rfl) ?_
  refine q_get X hK h 0 rfl rfl wf_11 1 (by decide) rfl wm_2_99 dX11_putOnTape_8 ?_
  refine lv_sipush (v := 900) hx hb dX11_putOnTape_11 (by decide) ?_
  refine lv_icmp_ge (tgt := 46) hx hb dX11_putOnTape_14 (by decide) (fun c => absurd c (by decide +kernel)) (fun _ => ?_)
  refine lv_aload_n hx hb dX11_putOnTape_17 rfl (lv_at hv1 1 rfl) ?_
  refine q_get X hK h 0 rfl rfl wf_11 0 (by decide) rfl wm_2_98 dX11_putOnTape_18 ?_
  refine lv_aload_n hx hb dX11_putOnTape_21 rfl (lv_at hv1 1 rfl) ?_
  refine q_get X hK h 0 rfl rfl wf_11 1 (by decide) rfl wm_2_99 dX11_putOnTape_22 ?_
  refine lv_iload_n hx hb dX11_putOnTape_25 rfl (lv_at hv1 2 rfl) ?_
  refine lv_iload_n hx hb dX11_putOnTape_26 rfl (lv_at hv1 0 rfl) ?_
  refine lv_iushr hx hb dX11_putOnTape_27 rfl ?_
  refine lv_i2b hx hb dX11_putOnTape_28 rfl ?_
  refine q_bast X hK h 1 rfl (q_in (by decide +kernel)) dX11_putOnTape_29 (fun Hp2 lc2 hw2 => ?_)
  clear h
  replace hw2 : qW D _ _ [(h0, .inr (11, [.ref h1, .int 4, .int 0, .int (-1), .ref h2, .ref h3, .ref h4, .ref h5, .ref h6, .ref h7, .ref h8, .ref h9, .ref h10, .ref h11, .ref h12, .ref h13, .int 0])), (h1, .inl (cy 0, 900, .inl (upd f0 (Int32.toNatClampNeg 4) (vp_nar .byte (((((p0).toUInt32 >>> ((24 : Int32).toUInt32 &&& Int32.toUInt32 31)).toInt32)).toInt8.toInt32)))))] _ _ := hw2
  generalize (upd f0 (Int32.toNatClampNeg 4) (vp_nar .byte (((((p0).toUInt32 >>> ((24 : Int32).toUInt32 &&& Int32.toUInt32 31)).toInt32)).toInt8.toInt32))) = f_676 at hw2
  refine lv_aload_n hx hb dX11_putOnTape_30 rfl (lv_at hv1 1 rfl) ?_
  refine lv_dup hx hb dX11_putOnTape_31 rfl ?_
  refine q_get X hK hw2 0 rfl rfl wf_11 1 (by decide) rfl wm_2_99 dX11_putOnTape_32 ?_
  refine lv_iconst (v := 1) hx hb dX11_putOnTape_35 (by decide) ?_
  refine lv_iadd hx hb dX11_putOnTape_36 ?_
  refine q_c 5 (by decide +kernel) ?_
  refine q_put (v := .int 5) X hK hw2 0 rfl rfl wf_11 tyX11 tyX11_ok nmX11 1 (by decide) wm_2_99 rfl rfl rfl (Nat.le_of_ble_eq_true rfl) dX11_putOnTape_37 (fun Hp3 lc3 hw3 => ?_)
  clear Hp2 lc2 hw2
  replace hw3 : qW D _ _ [(h0, .inr (11, [.ref h1, .int 5, .int 0, .int (-1), .ref h2, .ref h3, .ref h4, .ref h5, .ref h6, .ref h7, .ref h8, .ref h9, .ref h10, .ref h11, .ref h12, .ref h13, .int 0])), (h1, .inl (cy 0, 900, .inl f_676))] _ _ := hw3
  refine lv_iinc (v := 16) (lv' := [(2, .int 16), (0, .ref h0), (1, .int p0)]) hx hb dX11_putOnTape_40 hv1 (k := 0) rfl (by decide +kernel) (by decide) rfl (fun lz4 hv4 => ?_)
  clear lz1 hv1
  refine lv_goto (tgt := 3) hx hb dX11_putOnTape_43 (by decide) ?_
  refine lv_iload_n hx hb dX11_putOnTape_3 rfl (lv_at hv4 0 rfl) ?_
  refine lv_if_lt (tgt := 46) hx hb dX11_putOnTape_4 (by decide) (fun c => absurd c (by decide +kernel)) (fun _ => ?_)
  refine lv_aload_n hx hb dX11_putOnTape_7 rfl (lv_at hv4 1 rfl) ?_
  refine q_get X hK hw3 0 rfl rfl wf_11 1 (by decide) rfl wm_2_99 dX11_putOnTape_8 ?_
  refine lv_sipush (v := 900) hx hb dX11_putOnTape_11 (by decide) ?_
  refine lv_icmp_ge (tgt := 46) hx hb dX11_putOnTape_14 (by decide) (fun c => absurd c (by decide +kernel)) (fun _ => ?_)
  refine lv_aload_n hx hb dX11_putOnTape_17 rfl (lv_at hv4 1 rfl) ?_
  refine q_get X hK hw3 0 rfl rfl wf_11 0 (by decide) rfl wm_2_98 dX11_putOnTape_18 ?_
  refine lv_aload_n hx hb dX11_putOnTape_21 rfl (lv_at hv4 1 rfl) ?_
  refine q_get X hK hw3 0 rfl rfl wf_11 1 (by decide) rfl wm_2_99 dX11_putOnTape_22 ?_
  refine lv_iload_n hx hb dX11_putOnTape_25 rfl (lv_at hv4 2 rfl) ?_
  refine lv_iload_n hx hb dX11_putOnTape_26 rfl (lv_at hv4 0 rfl) ?_
  refine lv_iushr hx hb dX11_putOnTape_27 rfl ?_
  refine lv_i2b hx hb dX11_putOnTape_28 rfl ?_
  refine q_bast X hK hw3 1 rfl (q_in (by decide +kernel)) dX11_putOnTape_29 (fun Hp5 lc5 hw5 => ?_)
  clear Hp3 lc3 hw3
  replace hw5 : qW D _ _ [(h0, .inr (11, [.ref h1, .int 5, .int 0, .int (-1), .ref h2, .ref h3, .ref h4, .ref h5, .ref h6, .ref h7, .ref h8, .ref h9, .ref h10, .ref h11, .ref h12, .ref h13, .int 0])), (h1, .inl (cy 0, 900, .inl (upd f_676 (Int32.toNatClampNeg 5) (vp_nar .byte (((((p0).toUInt32 >>> ((16 : Int32).toUInt32 &&& Int32.toUInt32 31)).toInt32)).toInt8.toInt32)))))] _ _ := hw5
  generalize (upd f_676 (Int32.toNatClampNeg 5) (vp_nar .byte (((((p0).toUInt32 >>> ((16 : Int32).toUInt32 &&& Int32.toUInt32 31)).toInt32)).toInt8.toInt32))) = f_677 at hw5
  refine lv_aload_n hx hb dX11_putOnTape_30 rfl (lv_at hv4 1 rfl) ?_
  refine lv_dup hx hb dX11_putOnTape_31 rfl ?_
  refine q_get X hK hw5 0 rfl rfl wf_11 1 (by decide) rfl wm_2_99 dX11_putOnTape_32 ?_
  refine lv_iconst (v := 1) hx hb dX11_putOnTape_35 (by decide) ?_
  refine lv_iadd hx hb dX11_putOnTape_36 ?_
  refine q_c 6 (by decide +kernel) ?_
  refine q_put (v := .int 6) X hK hw5 0 rfl rfl wf_11 tyX11 tyX11_ok nmX11 1 (by decide) wm_2_99 rfl rfl rfl (Nat.le_of_ble_eq_true rfl) dX11_putOnTape_37 (fun Hp6 lc6 hw6 => ?_)
  clear Hp5 lc5 hw5
  replace hw6 : qW D _ _ [(h0, .inr (11, [.ref h1, .int 6, .int 0, .int (-1), .ref h2, .ref h3, .ref h4, .ref h5, .ref h6, .ref h7, .ref h8, .ref h9, .ref h10, .ref h11, .ref h12, .ref h13, .int 0])), (h1, .inl (cy 0, 900, .inl f_677))] _ _ := hw6
  refine lv_iinc (v := 8) (lv' := [(2, .int 8), (0, .ref h0), (1, .int p0)]) hx hb dX11_putOnTape_40 hv4 (k := 0) rfl (by decide +kernel) (by decide) rfl (fun lz7 hv7 => ?_)
  clear lz4 hv4
  refine lv_goto (tgt := 3) hx hb dX11_putOnTape_43 (by decide) ?_
  refine lv_iload_n hx hb dX11_putOnTape_3 rfl (lv_at hv7 0 rfl) ?_
  refine lv_if_lt (tgt := 46) hx hb dX11_putOnTape_4 (by decide) (fun c => absurd c (by decide +kernel)) (fun _ => ?_)
  refine lv_aload_n hx hb dX11_putOnTape_7 rfl (lv_at hv7 1 rfl) ?_
  refine q_get X hK hw6 0 rfl rfl wf_11 1 (by decide) rfl wm_2_99 dX11_putOnTape_8 ?_
  refine lv_sipush (v := 900) hx hb dX11_putOnTape_11 (by decide) ?_
  refine lv_icmp_ge (tgt := 46) hx hb dX11_putOnTape_14 (by decide) (fun c => absurd c (by decide +kernel)) (fun _ => ?_)
  refine lv_aload_n hx hb dX11_putOnTape_17 rfl (lv_at hv7 1 rfl) ?_
  refine q_get X hK hw6 0 rfl rfl wf_11 0 (by decide) rfl wm_2_98 dX11_putOnTape_18 ?_
  refine lv_aload_n hx hb dX11_putOnTape_21 rfl (lv_at hv7 1 rfl) ?_
  refine q_get X hK hw6 0 rfl rfl wf_11 1 (by decide) rfl wm_2_99 dX11_putOnTape_22 ?_
  refine lv_iload_n hx hb dX11_putOnTape_25 rfl (lv_at hv7 2 rfl) ?_
  refine lv_iload_n hx hb dX11_putOnTape_26 rfl (lv_at hv7 0 rfl) ?_
  refine lv_iushr hx hb dX11_putOnTape_27 rfl ?_
  refine lv_i2b hx hb dX11_putOnTape_28 rfl ?_
  refine q_bast X hK hw6 1 rfl (q_in (by decide +kernel)) dX11_putOnTape_29 (fun Hp8 lc8 hw8 => ?_)
  clear Hp6 lc6 hw6
  replace hw8 : qW D _ _ [(h0, .inr (11, [.ref h1, .int 6, .int 0, .int (-1), .ref h2, .ref h3, .ref h4, .ref h5, .ref h6, .ref h7, .ref h8, .ref h9, .ref h10, .ref h11, .ref h12, .ref h13, .int 0])), (h1, .inl (cy 0, 900, .inl (upd f_677 (Int32.toNatClampNeg 6) (vp_nar .byte (((((p0).toUInt32 >>> ((8 : Int32).toUInt32 &&& Int32.toUInt32 31)).toInt32)).toInt8.toInt32)))))] _ _ := hw8
  generalize (upd f_677 (Int32.toNatClampNeg 6) (vp_nar .byte (((((p0).toUInt32 >>> ((8 : Int32).toUInt32 &&& Int32.toUInt32 31)).toInt32)).toInt8.toInt32))) = f_678 at hw8
  refine lv_aload_n hx hb dX11_putOnTape_30 rfl (lv_at hv7 1 rfl) ?_
  refine lv_dup hx hb dX11_putOnTape_31 rfl ?_
  refine q_get X hK hw8 0 rfl rfl wf_11 1 (by decide) rfl wm_2_99 dX11_putOnTape_32 ?_
  refine lv_iconst (v := 1) hx hb dX11_putOnTape_35 (by decide) ?_
  refine lv_iadd hx hb dX11_putOnTape_36 ?_
  refine q_c 7 (by decide +kernel) ?_
  refine q_put (v := .int 7) X hK hw8 0 rfl rfl wf_11 tyX11 tyX11_ok nmX11 1 (by decide) wm_2_99 rfl rfl rfl (Nat.le_of_ble_eq_true rfl) dX11_putOnTape_37 (fun Hp9 lc9 hw9 => ?_)
  clear Hp8 lc8 hw8
  replace hw9 : qW D _ _ [(h0, .inr (11, [.ref h1, .int 7, .int 0, .int (-1), .ref h2, .ref h3, .ref h4, .ref h5, .ref h6, .ref h7, .ref h8, .ref h9, .ref h10, .ref h11, .ref h12, .ref h13, .int 0])), (h1, .inl (cy 0, 900, .inl f_678))] _ _ := hw9
  refine lv_iinc (v := 0) (lv' := [(2, .int 0), (0, .ref h0), (1, .int p0)]) hx hb dX11_putOnTape_40 hv7 (k := 0) rfl (by decide +kernel) (by decide) rfl (fun lz10 hv10 => ?_)
  clear lz7 hv7
  refine lv_goto (tgt := 3) hx hb dX11_putOnTape_43 (by decide) ?_
  refine lv_iload_n hx hb dX11_putOnTape_3 rfl (lv_at hv10 0 rfl) ?_
  refine lv_if_lt (tgt := 46) hx hb dX11_putOnTape_4 (by decide) (fun c => absurd c (by decide +kernel)) (fun _ => ?_)
  refine lv_aload_n hx hb dX11_putOnTape_7 rfl (lv_at hv10 1 rfl) ?_
  refine q_get X hK hw9 0 rfl rfl wf_11 1 (by decide) rfl wm_2_99 dX11_putOnTape_8 ?_
  refine lv_sipush (v := 900) hx hb dX11_putOnTape_11 (by decide) ?_
  refine lv_icmp_ge (tgt := 46) hx hb dX11_putOnTape_14 (by decide) (fun c => absurd c (by decide +kernel)) (fun _ => ?_)
  refine lv_aload_n hx hb dX11_putOnTape_17 rfl (lv_at hv10 1 rfl) ?_
  refine q_get X hK hw9 0 rfl rfl wf_11 0 (by decide) rfl wm_2_98 dX11_putOnTape_18 ?_
  refine lv_aload_n hx hb dX11_putOnTape_21 rfl (lv_at hv10 1 rfl) ?_
  refine q_get X hK hw9 0 rfl rfl wf_11 1 (by decide) rfl wm_2_99 dX11_putOnTape_22 ?_
  refine lv_iload_n hx hb dX11_putOnTape_25 rfl (lv_at hv10 2 rfl) ?_
  refine lv_iload_n hx hb dX11_putOnTape_26 rfl (lv_at hv10 0 rfl) ?_
  refine lv_iushr hx hb dX11_putOnTape_27 rfl ?_
  refine lv_i2b hx hb dX11_putOnTape_28 rfl ?_
  refine q_bast X hK hw9 1 rfl (q_in (by decide +kernel)) dX11_putOnTape_29 (fun Hp11 lc11 hw11 => ?_)
  clear Hp9 lc9 hw9
  replace hw11 : qW D _ _ [(h0, .inr (11, [.ref h1, .int 7, .int 0, .int (-1), .ref h2, .ref h3, .ref h4, .ref h5, .ref h6, .ref h7, .ref h8, .ref h9, .ref h10, .ref h11, .ref h12, .ref h13, .int 0])), (h1, .inl (cy 0, 900, .inl (upd f_678 (Int32.toNatClampNeg 7) (vp_nar .byte (((((p0).toUInt32 >>> ((0 : Int32).toUInt32 &&& Int32.toUInt32 31)).toInt32)).toInt8.toInt32)))))] _ _ := hw11
  generalize (upd f_678 (Int32.toNatClampNeg 7) (vp_nar .byte (((((p0).toUInt32 >>> ((0 : Int32).toUInt32 &&& Int32.toUInt32 31)).toInt32)).toInt8.toInt32))) = f_679 at hw11
  refine lv_aload_n hx hb dX11_putOnTape_30 rfl (lv_at hv10 1 rfl) ?_
  refine lv_dup hx hb dX11_putOnTape_31 rfl ?_
  refine q_get X hK hw11 0 rfl rfl wf_11 1 (by decide) rfl wm_2_99 dX11_putOnTape_32 ?_
  refine lv_iconst (v := 1) hx hb dX11_putOnTape_35 (by decide) ?_
  refine lv_iadd hx hb dX11_putOnTape_36 ?_
  refine q_c 8 (by decide +kernel) ?_
  refine q_put (v := .int 8) X hK hw11 0 rfl rfl wf_11 tyX11 tyX11_ok nmX11 1 (by decide) wm_2_99 rfl rfl rfl (Nat.le_of_ble_eq_true rfl) dX11_putOnTape_37 (fun Hp12 lc12 hw12 => ?_)
  clear Hp11 lc11 hw11
  replace hw12 : qW D _ _ [(h0, .inr (11, [.ref h1, .int 8, .int 0, .int (-1), .ref h2, .ref h3, .ref h4, .ref h5, .ref h6, .ref h7, .ref h8, .ref h9, .ref h10, .ref h11, .ref h12, .ref h13, .int 0])), (h1, .inl (cy 0, 900, .inl f_679))] _ _ := hw12
  refine lv_iinc (v := (-8)) (lv' := [(2, .int (-8)), (0, .ref h0), (1, .int p0)]) hx hb dX11_putOnTape_40 hv10 (k := 0) rfl (by decide +kernel) (by decide) rfl (fun lz13 hv13 => ?_)
  clear lz10 hv10
  refine lv_goto (tgt := 3) hx hb dX11_putOnTape_43 (by decide) ?_
  refine lv_iload_n hx hb dX11_putOnTape_3 rfl (lv_at hv13 0 rfl) ?_
  refine lv_if_lt (tgt := 46) hx hb dX11_putOnTape_4 (by decide) (fun _ => ?_) (fun c => absurd c (by decide +kernel))
  exact q_vret X hr hlk hK hw12 (fun _ => 0, fun k => List.getD [f_679] k (fun _ => 0), fun _ _ => 0) trivial [0, 1] rfl rfl dX11_putOnTape_46 (Nat.le_of_ble_eq_true rfl) (Nat.le_of_ble_eq_true rfl)
set_option maxHeartbeats 4000000 in
set_option maxRecDepth 100000 in
theorem kX11_putOnTape_16 (l : Launch) (D : va_G) (cy : Nat → ClassId) (h0 : Nat) (h1 : Nat) (f0 : Nat → Int32) (p0 : Int32) (h2 : Nat) (h3 : Nat) (h4 : Nat) (h5 : Nat) (h6 : Nat) (h7 : Nat) (h8 : Nat) (h9 : Nat) (h10 : Nat) (h11 : Nat) (h12 : Nat) (h13 : Nat) (sz : Nat) : MV l yX11_putOnTape cX11_putOnTape 3 { frames := 0, cells := 0, slots := 0, locals := 0 } [.ref h0, .int p0] D cy [(h0, .inr (11, [.ref h1, .int 8, .int 0, .int (-1), .ref h2, .ref h3, .ref h4, .ref h5, .ref h6, .ref h7, .ref h8, .ref h9, .ref h10, .ref h11, .ref h12, .ref h13, .int 0])), (h1, .inl (cy 0, 900, .inl f0))] sz (fun _ => True) (fun u => [(h0, .inr (11, [.ref h1, .int 12, .int 0, .int (-1), .ref h2, .ref h3, .ref h4, .ref h5, .ref h6, .ref h7, .ref h8, .ref h9, .ref h10, .ref h11, .ref h12, .ref h13, .int 0])), (h1, .inl (cy 0, 900, .inl (u.2.1 0)))]) 0 0 := by
  refine q_ent (own := RX11) (by decide) rfl (Nat.le_of_ble_eq_true rfl) (fun p e s m below meth c ls X hr hlk hnm hK h hA hl => ?_)
  obtain ⟨hx, hb, hml, hown, ht⟩ := id X
  replace hl : lv_has ls 3 [(0, .ref h0), (1, .int p0)] := hl
  refine lv_bipush (v := 24) hx hb dX11_putOnTape_0 (by decide) ?_
  refine lv_istore_n (lv' := [(2, .int 24), (0, .ref h0), (1, .int p0)]) hx hb dX11_putOnTape_2 rfl hl (by decide) rfl (fun lz1 hv1 => ?_)
  clear ls hl
  refine lv_iload_n hx hb dX11_putOnTape_3 rfl (lv_at hv1 0 rfl) ?_
  refine lv_if_lt (tgt := 46) hx hb dX11_putOnTape_4 (by decide) (fun c => absurd c (by decide +kernel)) (fun _ => ?_)
  refine lv_aload_n hx hb dX11_putOnTape_7 rfl (lv_at hv1 1 rfl) ?_
  refine q_get X hK h 0 rfl rfl wf_11 1 (by decide) rfl wm_2_99 dX11_putOnTape_8 ?_
  refine lv_sipush (v := 900) hx hb dX11_putOnTape_11 (by decide) ?_
  refine lv_icmp_ge (tgt := 46) hx hb dX11_putOnTape_14 (by decide) (fun c => absurd c (by decide +kernel)) (fun _ => ?_)
  refine lv_aload_n hx hb dX11_putOnTape_17 rfl (lv_at hv1 1 rfl) ?_
  refine q_get X hK h 0 rfl rfl wf_11 0 (by decide) rfl wm_2_98 dX11_putOnTape_18 ?_
  refine lv_aload_n hx hb dX11_putOnTape_21 rfl (lv_at hv1 1 rfl) ?_
  refine q_get X hK h 0 rfl rfl wf_11 1 (by decide) rfl wm_2_99 dX11_putOnTape_22 ?_
  refine lv_iload_n hx hb dX11_putOnTape_25 rfl (lv_at hv1 2 rfl) ?_
  refine lv_iload_n hx hb dX11_putOnTape_26 rfl (lv_at hv1 0 rfl) ?_
  refine lv_iushr hx hb dX11_putOnTape_27 rfl ?_
  refine lv_i2b hx hb dX11_putOnTape_28 rfl ?_
  refine q_bast X hK h 1 rfl (q_in (by decide +kernel)) dX11_putOnTape_29 (fun Hp2 lc2 hw2 => ?_)
  clear h
  replace hw2 : qW D _ _ [(h0, .inr (11, [.ref h1, .int 8, .int 0, .int (-1), .ref h2, .ref h3, .ref h4, .ref h5, .ref h6, .ref h7, .ref h8, .ref h9, .ref h10, .ref h11, .ref h12, .ref h13, .int 0])), (h1, .inl (cy 0, 900, .inl (upd f0 (Int32.toNatClampNeg 8) (vp_nar .byte (((((p0).toUInt32 >>> ((24 : Int32).toUInt32 &&& Int32.toUInt32 31)).toInt32)).toInt8.toInt32)))))] _ _ := hw2
  generalize (upd f0 (Int32.toNatClampNeg 8) (vp_nar .byte (((((p0).toUInt32 >>> ((24 : Int32).toUInt32 &&& Int32.toUInt32 31)).toInt32)).toInt8.toInt32))) = f_689 at hw2
  refine lv_aload_n hx hb dX11_putOnTape_30 rfl (lv_at hv1 1 rfl) ?_
  refine lv_dup hx hb dX11_putOnTape_31 rfl ?_
  refine q_get X hK hw2 0 rfl rfl wf_11 1 (by decide) rfl wm_2_99 dX11_putOnTape_32 ?_
  refine lv_iconst (v := 1) hx hb dX11_putOnTape_35 (by decide) ?_
  refine lv_iadd hx hb dX11_putOnTape_36 ?_
  refine q_c 9 (by decide +kernel) ?_
  refine q_put (v := .int 9) X hK hw2 0 rfl rfl wf_11 tyX11 tyX11_ok nmX11 1 (by decide) wm_2_99 rfl rfl rfl (Nat.le_of_ble_eq_true rfl) dX11_putOnTape_37 (fun Hp3 lc3 hw3 => ?_)
  clear Hp2 lc2 hw2
  replace hw3 : qW D _ _ [(h0, .inr (11, [.ref h1, .int 9, .int 0, .int (-1), .ref h2, .ref h3, .ref h4, .ref h5, .ref h6, .ref h7, .ref h8, .ref h9, .ref h10, .ref h11, .ref h12, .ref h13, .int 0])), (h1, .inl (cy 0, 900, .inl f_689))] _ _ := hw3
  refine lv_iinc (v := 16) (lv' := [(2, .int 16), (0, .ref h0), (1, .int p0)]) hx hb dX11_putOnTape_40 hv1 (k := 0) rfl (by decide +kernel) (by decide) rfl (fun lz4 hv4 => ?_)
  clear lz1 hv1
  refine lv_goto (tgt := 3) hx hb dX11_putOnTape_43 (by decide) ?_
  refine lv_iload_n hx hb dX11_putOnTape_3 rfl (lv_at hv4 0 rfl) ?_
  refine lv_if_lt (tgt := 46) hx hb dX11_putOnTape_4 (by decide) (fun c => absurd c (by decide +kernel)) (fun _ => ?_)
  refine lv_aload_n hx hb dX11_putOnTape_7 rfl (lv_at hv4 1 rfl) ?_
  refine q_get X hK hw3 0 rfl rfl wf_11 1 (by decide) rfl wm_2_99 dX11_putOnTape_8 ?_
  refine lv_sipush (v := 900) hx hb dX11_putOnTape_11 (by decide) ?_
  refine lv_icmp_ge (tgt := 46) hx hb dX11_putOnTape_14 (by decide) (fun c => absurd c (by decide +kernel)) (fun _ => ?_)
  refine lv_aload_n hx hb dX11_putOnTape_17 rfl (lv_at hv4 1 rfl) ?_
  refine q_get X hK hw3 0 rfl rfl wf_11 0 (by decide) rfl wm_2_98 dX11_putOnTape_18 ?_
  refine lv_aload_n hx hb dX11_putOnTape_21 rfl (lv_at hv4 1 rfl) ?_
  refine q_get X hK hw3 0 rfl rfl wf_11 1 (by decide) rfl wm_2_99 dX11_putOnTape_22 ?_
  refine lv_iload_n hx hb dX11_putOnTape_25 rfl (lv_at hv4 2 rfl) ?_
  refine lv_iload_n hx hb dX11_putOnTape_26 rfl (lv_at hv4 0 rfl) ?_
  refine lv_iushr hx hb dX11_putOnTape_27 rfl ?_
  refine lv_i2b hx hb dX11_putOnTape_28 rfl ?_
  refine q_bast X hK hw3 1 rfl (q_in (by decide +kernel)) dX11_putOnTape_29 (fun Hp5 lc5 hw5 => ?_)
  clear Hp3 lc3 hw3
  replace hw5 : qW D _ _ [(h0, .inr (11, [.ref h1, .int 9, .int 0, .int (-1), .ref h2, .ref h3, .ref h4, .ref h5, .ref h6, .ref h7, .ref h8, .ref h9, .ref h10, .ref h11, .ref h12, .ref h13, .int 0])), (h1, .inl (cy 0, 900, .inl (upd f_689 (Int32.toNatClampNeg 9) (vp_nar .byte (((((p0).toUInt32 >>> ((16 : Int32).toUInt32 &&& Int32.toUInt32 31)).toInt32)).toInt8.toInt32)))))] _ _ := hw5
  generalize (upd f_689 (Int32.toNatClampNeg 9) (vp_nar .byte (((((p0).toUInt32 >>> ((16 : Int32).toUInt32 &&& Int32.toUInt32 31)).toInt32)).toInt8.toInt32))) = f_690 at hw5
  refine lv_aload_n hx hb dX11_putOnTape_30 rfl (lv_at hv4 1 rfl) ?_
  refine lv_dup hx hb dX11_putOnTape_31 rfl ?_
  refine q_get X hK hw5 0 rfl rfl wf_11 1 (by decide) rfl wm_2_99 dX11_putOnTape_32 ?_
  refine lv_iconst (v := 1) hx hb dX11_putOnTape_35 (by decide) ?_
  refine lv_iadd hx hb dX11_putOnTape_36 ?_
  refine q_c 10 (by decide +kernel) ?_
  refine q_put (v := .int 10) X hK hw5 0 rfl rfl wf_11 tyX11 tyX11_ok nmX11 1 (by decide) wm_2_99 rfl rfl rfl (Nat.le_of_ble_eq_true rfl) dX11_putOnTape_37 (fun Hp6 lc6 hw6 => ?_)
  clear Hp5 lc5 hw5
  replace hw6 : qW D _ _ [(h0, .inr (11, [.ref h1, .int 10, .int 0, .int (-1), .ref h2, .ref h3, .ref h4, .ref h5, .ref h6, .ref h7, .ref h8, .ref h9, .ref h10, .ref h11, .ref h12, .ref h13, .int 0])), (h1, .inl (cy 0, 900, .inl f_690))] _ _ := hw6
  refine lv_iinc (v := 8) (lv' := [(2, .int 8), (0, .ref h0), (1, .int p0)]) hx hb dX11_putOnTape_40 hv4 (k := 0) rfl (by decide +kernel) (by decide) rfl (fun lz7 hv7 => ?_)
  clear lz4 hv4
  refine lv_goto (tgt := 3) hx hb dX11_putOnTape_43 (by decide) ?_
  refine lv_iload_n hx hb dX11_putOnTape_3 rfl (lv_at hv7 0 rfl) ?_
  refine lv_if_lt (tgt := 46) hx hb dX11_putOnTape_4 (by decide) (fun c => absurd c (by decide +kernel)) (fun _ => ?_)
  refine lv_aload_n hx hb dX11_putOnTape_7 rfl (lv_at hv7 1 rfl) ?_
  refine q_get X hK hw6 0 rfl rfl wf_11 1 (by decide) rfl wm_2_99 dX11_putOnTape_8 ?_
  refine lv_sipush (v := 900) hx hb dX11_putOnTape_11 (by decide) ?_
  refine lv_icmp_ge (tgt := 46) hx hb dX11_putOnTape_14 (by decide) (fun c => absurd c (by decide +kernel)) (fun _ => ?_)
  refine lv_aload_n hx hb dX11_putOnTape_17 rfl (lv_at hv7 1 rfl) ?_
  refine q_get X hK hw6 0 rfl rfl wf_11 0 (by decide) rfl wm_2_98 dX11_putOnTape_18 ?_
  refine lv_aload_n hx hb dX11_putOnTape_21 rfl (lv_at hv7 1 rfl) ?_
  refine q_get X hK hw6 0 rfl rfl wf_11 1 (by decide) rfl wm_2_99 dX11_putOnTape_22 ?_
  refine lv_iload_n hx hb dX11_putOnTape_25 rfl (lv_at hv7 2 rfl) ?_
  refine lv_iload_n hx hb dX11_putOnTape_26 rfl (lv_at hv7 0 rfl) ?_
  refine lv_iushr hx hb dX11_putOnTape_27 rfl ?_
  refine lv_i2b hx hb dX11_putOnTape_28 rfl ?_
  refine q_bast X hK hw6 1 rfl (q_in (by decide +kernel)) dX11_putOnTape_29 (fun Hp8 lc8 hw8 => ?_)
  clear Hp6 lc6 hw6
  replace hw8 : qW D _ _ [(h0, .inr (11, [.ref h1, .int 10, .int 0, .int (-1), .ref h2, .ref h3, .ref h4, .ref h5, .ref h6, .ref h7, .ref h8, .ref h9, .ref h10, .ref h11, .ref h12, .ref h13, .int 0])), (h1, .inl (cy 0, 900, .inl (upd f_690 (Int32.toNatClampNeg 10) (vp_nar .byte (((((p0).toUInt32 >>> ((8 : Int32).toUInt32 &&& Int32.toUInt32 31)).toInt32)).toInt8.toInt32)))))] _ _ := hw8
  generalize (upd f_690 (Int32.toNatClampNeg 10) (vp_nar .byte (((((p0).toUInt32 >>> ((8 : Int32).toUInt32 &&& Int32.toUInt32 31)).toInt32)).toInt8.toInt32))) = f_691 at hw8
  refine lv_aload_n hx hb dX11_putOnTape_30 rfl (lv_at hv7 1 rfl) ?_
  refine lv_dup hx hb dX11_putOnTape_31 rfl ?_
  refine q_get X hK hw8 0 rfl rfl wf_11 1 (by decide) rfl wm_2_99 dX11_putOnTape_32 ?_
  refine lv_iconst (v := 1) hx hb dX11_putOnTape_35 (by decide) ?_
  refine lv_iadd hx hb dX11_putOnTape_36 ?_
  refine q_c 11 (by decide +kernel) ?_
  refine q_put (v := .int 11) X hK hw8 0 rfl rfl wf_11 tyX11 tyX11_ok nmX11 1 (by decide) wm_2_99 rfl rfl rfl (Nat.le_of_ble_eq_true rfl) dX11_putOnTape_37 (fun Hp9 lc9 hw9 => ?_)
  clear Hp8 lc8 hw8
  replace hw9 : qW D _ _ [(h0, .inr (11, [.ref h1, .int 11, .int 0, .int (-1), .ref h2, .ref h3, .ref h4, .ref h5, .ref h6, .ref h7, .ref h8, .ref h9, .ref h10, .ref h11, .ref h12, .ref h13, .int 0])), (h1, .inl (cy 0, 900, .inl f_691))] _ _ := hw9
  refine lv_iinc (v := 0) (lv' := [(2, .int 0), (0, .ref h0), (1, .int p0)]) hx hb dX11_putOnTape_40 hv7 (k := 0) rfl (by decide +kernel) (by decide) rfl (fun lz10 hv10 => ?_)
  clear lz7 hv7
  refine lv_goto (tgt := 3) hx hb dX11_putOnTape_43 (by decide) ?_
  refine lv_iload_n hx hb dX11_putOnTape_3 rfl (lv_at hv10 0 rfl) ?_
  refine lv_if_lt (tgt := 46) hx hb dX11_putOnTape_4 (by decide) (fun c => absurd c (by decide +kernel)) (fun _ => ?_)
  refine lv_aload_n hx hb dX11_putOnTape_7 rfl (lv_at hv10 1 rfl) ?_
  refine q_get X hK hw9 0 rfl rfl wf_11 1 (by decide) rfl wm_2_99 dX11_putOnTape_8 ?_
  refine lv_sipush (v := 900) hx hb dX11_putOnTape_11 (by decide) ?_
  refine lv_icmp_ge (tgt := 46) hx hb dX11_putOnTape_14 (by decide) (fun c => absurd c (by decide +kernel)) (fun _ => ?_)
  refine lv_aload_n hx hb dX11_putOnTape_17 rfl (lv_at hv10 1 rfl) ?_
  refine q_get X hK hw9 0 rfl rfl wf_11 0 (by decide) rfl wm_2_98 dX11_putOnTape_18 ?_
  refine lv_aload_n hx hb dX11_putOnTape_21 rfl (lv_at hv10 1 rfl) ?_
  refine q_get X hK hw9 0 rfl rfl wf_11 1 (by decide) rfl wm_2_99 dX11_putOnTape_22 ?_
  refine lv_iload_n hx hb dX11_putOnTape_25 rfl (lv_at hv10 2 rfl) ?_
  refine lv_iload_n hx hb dX11_putOnTape_26 rfl (lv_at hv10 0 rfl) ?_
  refine lv_iushr hx hb dX11_putOnTape_27 rfl ?_
  refine lv_i2b hx hb dX11_putOnTape_28 rfl ?_
  refine q_bast X hK hw9 1 rfl (q_in (by decide +kernel)) dX11_putOnTape_29 (fun Hp11 lc11 hw11 => ?_)
  clear Hp9 lc9 hw9
  replace hw11 : qW D _ _ [(h0, .inr (11, [.ref h1, .int 11, .int 0, .int (-1), .ref h2, .ref h3, .ref h4, .ref h5, .ref h6, .ref h7, .ref h8, .ref h9, .ref h10, .ref h11, .ref h12, .ref h13, .int 0])), (h1, .inl (cy 0, 900, .inl (upd f_691 (Int32.toNatClampNeg 11) (vp_nar .byte (((((p0).toUInt32 >>> ((0 : Int32).toUInt32 &&& Int32.toUInt32 31)).toInt32)).toInt8.toInt32)))))] _ _ := hw11
  generalize (upd f_691 (Int32.toNatClampNeg 11) (vp_nar .byte (((((p0).toUInt32 >>> ((0 : Int32).toUInt32 &&& Int32.toUInt32 31)).toInt32)).toInt8.toInt32))) = f_692 at hw11
  refine lv_aload_n hx hb dX11_putOnTape_30 rfl (lv_at hv10 1 rfl) ?_
  refine lv_dup hx hb dX11_putOnTape_31 rfl ?_
  refine q_get X hK hw11 0 rfl rfl wf_11 1 (by decide) rfl wm_2_99 dX11_putOnTape_32 ?_
  refine lv_iconst (v := 1) hx hb dX11_putOnTape_35 (by decide) ?_
  refine lv_iadd hx hb dX11_putOnTape_36 ?_
  refine q_c 12 (by decide +kernel) ?_
  refine q_put (v := .int 12) X hK hw11 0 rfl rfl wf_11 tyX11 tyX11_ok nmX11 1 (by decide) wm_2_99 rfl rfl rfl (Nat.le_of_ble_eq_true rfl) dX11_putOnTape_37 (fun Hp12 lc12 hw12 => ?_)
  clear Hp11 lc11 hw11
  replace hw12 : qW D _ _ [(h0, .inr (11, [.ref h1, .int 12, .int 0, .int (-1), .ref h2, .ref h3, .ref h4, .ref h5, .ref h6, .ref h7, .ref h8, .ref h9, .ref h10, .ref h11, .ref h12, .ref h13, .int 0])), (h1, .inl (cy 0, 900, .inl f_692))] _ _ := hw12
  refine lv_iinc (v := (-8)) (lv' := [(2, .int (-8)), (0, .ref h0), (1, .int p0)]) hx hb dX11_putOnTape_40 hv10 (k := 0) rfl (by decide +kernel) (by decide) rfl (fun lz13 hv13 => ?_)
  clear lz10 hv10
  refine lv_goto (tgt := 3) hx hb dX11_putOnTape_43 (by decide) ?_
  refine lv_iload_n hx hb dX11_putOnTape_3 rfl (lv_at hv13 0 rfl) ?_
  refine lv_if_lt (tgt := 46) hx hb dX11_putOnTape_4 (by decide) (fun _ => ?_) (fun c => absurd c (by decide +kernel))
  exact q_vret X hr hlk hK hw12 (fun _ => 0, fun k => List.getD [f_692] k (fun _ => 0), fun _ _ => 0) trivial [0, 1] rfl rfl dX11_putOnTape_46 (Nat.le_of_ble_eq_true rfl) (Nat.le_of_ble_eq_true rfl)
set_option maxHeartbeats 4000000 in
set_option maxRecDepth 100000 in
theorem kX11_putOnTape_17 (l : Launch) (D : va_G) (cy : Nat → ClassId) (h0 : Nat) (h1 : Nat) (f0 : Nat → Int32) (p0 : Int32) (h2 : Nat) (h3 : Nat) (h4 : Nat) (h5 : Nat) (h6 : Nat) (h7 : Nat) (h8 : Nat) (h9 : Nat) (h10 : Nat) (h11 : Nat) (h12 : Nat) (h13 : Nat) (sz : Nat) : MV l yX11_putOnTape cX11_putOnTape 3 { frames := 0, cells := 0, slots := 0, locals := 0 } [.ref h0, .int p0] D cy [(h0, .inr (11, [.ref h1, .int 12, .int 0, .int (-1), .ref h2, .ref h3, .ref h4, .ref h5, .ref h6, .ref h7, .ref h8, .ref h9, .ref h10, .ref h11, .ref h12, .ref h13, .int 0])), (h1, .inl (cy 0, 900, .inl f0))] sz (fun _ => True) (fun u => [(h0, .inr (11, [.ref h1, .int 16, .int 0, .int (-1), .ref h2, .ref h3, .ref h4, .ref h5, .ref h6, .ref h7, .ref h8, .ref h9, .ref h10, .ref h11, .ref h12, .ref h13, .int 0])), (h1, .inl (cy 0, 900, .inl (u.2.1 0)))]) 0 0 := by
  refine q_ent (own := RX11) (by decide) rfl (Nat.le_of_ble_eq_true rfl) (fun p e s m below meth c ls X hr hlk hnm hK h hA hl => ?_)
  obtain ⟨hx, hb, hml, hown, ht⟩ := id X
  replace hl : lv_has ls 3 [(0, .ref h0), (1, .int p0)] := hl
  refine lv_bipush (v := 24) hx hb dX11_putOnTape_0 (by decide) ?_
  refine lv_istore_n (lv' := [(2, .int 24), (0, .ref h0), (1, .int p0)]) hx hb dX11_putOnTape_2 rfl hl (by decide) rfl (fun lz1 hv1 => ?_)
  clear ls hl
  refine lv_iload_n hx hb dX11_putOnTape_3 rfl (lv_at hv1 0 rfl) ?_
  refine lv_if_lt (tgt := 46) hx hb dX11_putOnTape_4 (by decide) (fun c => absurd c (by decide +kernel)) (fun _ => ?_)
  refine lv_aload_n hx hb dX11_putOnTape_7 rfl (lv_at hv1 1 rfl) ?_
  refine q_get X hK h 0 rfl rfl wf_11 1 (by decide) rfl wm_2_99 dX11_putOnTape_8 ?_
  refine lv_sipush (v := 900) hx hb dX11_putOnTape_11 (by decide) ?_
  refine lv_icmp_ge (tgt := 46) hx hb dX11_putOnTape_14 (by decide) (fun c => absurd c (by decide +kernel)) (fun _ => ?_)
  refine lv_aload_n hx hb dX11_putOnTape_17 rfl (lv_at hv1 1 rfl) ?_
  refine q_get X hK h 0 rfl rfl wf_11 0 (by decide) rfl wm_2_98 dX11_putOnTape_18 ?_
  refine lv_aload_n hx hb dX11_putOnTape_21 rfl (lv_at hv1 1 rfl) ?_
  refine q_get X hK h 0 rfl rfl wf_11 1 (by decide) rfl wm_2_99 dX11_putOnTape_22 ?_
  refine lv_iload_n hx hb dX11_putOnTape_25 rfl (lv_at hv1 2 rfl) ?_
  refine lv_iload_n hx hb dX11_putOnTape_26 rfl (lv_at hv1 0 rfl) ?_
  refine lv_iushr hx hb dX11_putOnTape_27 rfl ?_
  refine lv_i2b hx hb dX11_putOnTape_28 rfl ?_
  refine q_bast X hK h 1 rfl (q_in (by decide +kernel)) dX11_putOnTape_29 (fun Hp2 lc2 hw2 => ?_)
  clear h
  replace hw2 : qW D _ _ [(h0, .inr (11, [.ref h1, .int 12, .int 0, .int (-1), .ref h2, .ref h3, .ref h4, .ref h5, .ref h6, .ref h7, .ref h8, .ref h9, .ref h10, .ref h11, .ref h12, .ref h13, .int 0])), (h1, .inl (cy 0, 900, .inl (upd f0 (Int32.toNatClampNeg 12) (vp_nar .byte (((((p0).toUInt32 >>> ((24 : Int32).toUInt32 &&& Int32.toUInt32 31)).toInt32)).toInt8.toInt32)))))] _ _ := hw2
  generalize (upd f0 (Int32.toNatClampNeg 12) (vp_nar .byte (((((p0).toUInt32 >>> ((24 : Int32).toUInt32 &&& Int32.toUInt32 31)).toInt32)).toInt8.toInt32))) = f_702 at hw2
  refine lv_aload_n hx hb dX11_putOnTape_30 rfl (lv_at hv1 1 rfl) ?_
  refine lv_dup hx hb dX11_putOnTape_31 rfl ?_
  refine q_get X hK hw2 0 rfl rfl wf_11 1 (by decide) rfl wm_2_99 dX11_putOnTape_32 ?_
  refine lv_iconst (v := 1) hx hb dX11_putOnTape_35 (by decide) ?_
  refine lv_iadd hx hb dX11_putOnTape_36 ?_
  refine q_c 13 (by decide +kernel) ?_
  refine q_put (v := .int 13) X hK hw2 0 rfl rfl wf_11 tyX11 tyX11_ok nmX11 1 (by decide) wm_2_99 rfl rfl rfl (Nat.le_of_ble_eq_true rfl) dX11_putOnTape_37 (fun Hp3 lc3 hw3 => ?_)
  clear Hp2 lc2 hw2
  replace hw3 : qW D _ _ [(h0, .inr (11, [.ref h1, .int 13, .int 0, .int (-1), .ref h2, .ref h3, .ref h4, .ref h5, .ref h6, .ref h7, .ref h8, .ref h9, .ref h10, .ref h11, .ref h12, .ref h13, .int 0])), (h1, .inl (cy 0, 900, .inl f_702))] _ _ := hw3
  refine lv_iinc (v := 16) (lv' := [(2, .int 16), (0, .ref h0), (1, .int p0)]) hx hb dX11_putOnTape_40 hv1 (k := 0) rfl (by decide +kernel) (by decide) rfl (fun lz4 hv4 => ?_)
  clear lz1 hv1
  refine lv_goto (tgt := 3) hx hb dX11_putOnTape_43 (by decide) ?_
  refine lv_iload_n hx hb dX11_putOnTape_3 rfl (lv_at hv4 0 rfl) ?_
  refine lv_if_lt (tgt := 46) hx hb dX11_putOnTape_4 (by decide) (fun c => absurd c (by decide +kernel)) (fun _ => ?_)
  refine lv_aload_n hx hb dX11_putOnTape_7 rfl (lv_at hv4 1 rfl) ?_
  refine q_get X hK hw3 0 rfl rfl wf_11 1 (by decide) rfl wm_2_99 dX11_putOnTape_8 ?_
  refine lv_sipush (v := 900) hx hb dX11_putOnTape_11 (by decide) ?_
  refine lv_icmp_ge (tgt := 46) hx hb dX11_putOnTape_14 (by decide) (fun c => absurd c (by decide +kernel)) (fun _ => ?_)
  refine lv_aload_n hx hb dX11_putOnTape_17 rfl (lv_at hv4 1 rfl) ?_
  refine q_get X hK hw3 0 rfl rfl wf_11 0 (by decide) rfl wm_2_98 dX11_putOnTape_18 ?_
  refine lv_aload_n hx hb dX11_putOnTape_21 rfl (lv_at hv4 1 rfl) ?_
  refine q_get X hK hw3 0 rfl rfl wf_11 1 (by decide) rfl wm_2_99 dX11_putOnTape_22 ?_
  refine lv_iload_n hx hb dX11_putOnTape_25 rfl (lv_at hv4 2 rfl) ?_
  refine lv_iload_n hx hb dX11_putOnTape_26 rfl (lv_at hv4 0 rfl) ?_
  refine lv_iushr hx hb dX11_putOnTape_27 rfl ?_
  refine lv_i2b hx hb dX11_putOnTape_28 rfl ?_
  refine q_bast X hK hw3 1 rfl (q_in (by decide +kernel)) dX11_putOnTape_29 (fun Hp5 lc5 hw5 => ?_)
  clear Hp3 lc3 hw3
  replace hw5 : qW D _ _ [(h0, .inr (11, [.ref h1, .int 13, .int 0, .int (-1), .ref h2, .ref h3, .ref h4, .ref h5, .ref h6, .ref h7, .ref h8, .ref h9, .ref h10, .ref h11, .ref h12, .ref h13, .int 0])), (h1, .inl (cy 0, 900, .inl (upd f_702 (Int32.toNatClampNeg 13) (vp_nar .byte (((((p0).toUInt32 >>> ((16 : Int32).toUInt32 &&& Int32.toUInt32 31)).toInt32)).toInt8.toInt32)))))] _ _ := hw5
  generalize (upd f_702 (Int32.toNatClampNeg 13) (vp_nar .byte (((((p0).toUInt32 >>> ((16 : Int32).toUInt32 &&& Int32.toUInt32 31)).toInt32)).toInt8.toInt32))) = f_703 at hw5
  refine lv_aload_n hx hb dX11_putOnTape_30 rfl (lv_at hv4 1 rfl) ?_
  refine lv_dup hx hb dX11_putOnTape_31 rfl ?_
  refine q_get X hK hw5 0 rfl rfl wf_11 1 (by decide) rfl wm_2_99 dX11_putOnTape_32 ?_
  refine lv_iconst (v := 1) hx hb dX11_putOnTape_35 (by decide) ?_
  refine lv_iadd hx hb dX11_putOnTape_36 ?_
  refine q_c 14 (by decide +kernel) ?_
  refine q_put (v := .int 14) X hK hw5 0 rfl rfl wf_11 tyX11 tyX11_ok nmX11 1 (by decide) wm_2_99 rfl rfl rfl (Nat.le_of_ble_eq_true rfl) dX11_putOnTape_37 (fun Hp6 lc6 hw6 => ?_)
  clear Hp5 lc5 hw5
  replace hw6 : qW D _ _ [(h0, .inr (11, [.ref h1, .int 14, .int 0, .int (-1), .ref h2, .ref h3, .ref h4, .ref h5, .ref h6, .ref h7, .ref h8, .ref h9, .ref h10, .ref h11, .ref h12, .ref h13, .int 0])), (h1, .inl (cy 0, 900, .inl f_703))] _ _ := hw6
  refine lv_iinc (v := 8) (lv' := [(2, .int 8), (0, .ref h0), (1, .int p0)]) hx hb dX11_putOnTape_40 hv4 (k := 0) rfl (by decide +kernel) (by decide) rfl (fun lz7 hv7 => ?_)
  clear lz4 hv4
  refine lv_goto (tgt := 3) hx hb dX11_putOnTape_43 (by decide) ?_
  refine lv_iload_n hx hb dX11_putOnTape_3 rfl (lv_at hv7 0 rfl) ?_
  refine lv_if_lt (tgt := 46) hx hb dX11_putOnTape_4 (by decide) (fun c => absurd c (by decide +kernel)) (fun _ => ?_)
  refine lv_aload_n hx hb dX11_putOnTape_7 rfl (lv_at hv7 1 rfl) ?_
  refine q_get X hK hw6 0 rfl rfl wf_11 1 (by decide) rfl wm_2_99 dX11_putOnTape_8 ?_
  refine lv_sipush (v := 900) hx hb dX11_putOnTape_11 (by decide) ?_
  refine lv_icmp_ge (tgt := 46) hx hb dX11_putOnTape_14 (by decide) (fun c => absurd c (by decide +kernel)) (fun _ => ?_)
  refine lv_aload_n hx hb dX11_putOnTape_17 rfl (lv_at hv7 1 rfl) ?_
  refine q_get X hK hw6 0 rfl rfl wf_11 0 (by decide) rfl wm_2_98 dX11_putOnTape_18 ?_
  refine lv_aload_n hx hb dX11_putOnTape_21 rfl (lv_at hv7 1 rfl) ?_
  refine q_get X hK hw6 0 rfl rfl wf_11 1 (by decide) rfl wm_2_99 dX11_putOnTape_22 ?_
  refine lv_iload_n hx hb dX11_putOnTape_25 rfl (lv_at hv7 2 rfl) ?_
  refine lv_iload_n hx hb dX11_putOnTape_26 rfl (lv_at hv7 0 rfl) ?_
  refine lv_iushr hx hb dX11_putOnTape_27 rfl ?_
  refine lv_i2b hx hb dX11_putOnTape_28 rfl ?_
  refine q_bast X hK hw6 1 rfl (q_in (by decide +kernel)) dX11_putOnTape_29 (fun Hp8 lc8 hw8 => ?_)
  clear Hp6 lc6 hw6
  replace hw8 : qW D _ _ [(h0, .inr (11, [.ref h1, .int 14, .int 0, .int (-1), .ref h2, .ref h3, .ref h4, .ref h5, .ref h6, .ref h7, .ref h8, .ref h9, .ref h10, .ref h11, .ref h12, .ref h13, .int 0])), (h1, .inl (cy 0, 900, .inl (upd f_703 (Int32.toNatClampNeg 14) (vp_nar .byte (((((p0).toUInt32 >>> ((8 : Int32).toUInt32 &&& Int32.toUInt32 31)).toInt32)).toInt8.toInt32)))))] _ _ := hw8
  generalize (upd f_703 (Int32.toNatClampNeg 14) (vp_nar .byte (((((p0).toUInt32 >>> ((8 : Int32).toUInt32 &&& Int32.toUInt32 31)).toInt32)).toInt8.toInt32))) = f_704 at hw8
  refine lv_aload_n hx hb dX11_putOnTape_30 rfl (lv_at hv7 1 rfl) ?_
  refine lv_dup hx hb dX11_putOnTape_31 rfl ?_
  refine q_get X hK hw8 0 rfl rfl wf_11 1 (by decide) rfl wm_2_99 dX11_putOnTape_32 ?_
  refine lv_iconst (v := 1) hx hb dX11_putOnTape_35 (by decide) ?_
  refine lv_iadd hx hb dX11_putOnTape_36 ?_
  refine q_c 15 (by decide +kernel) ?_
  refine q_put (v := .int 15) X hK hw8 0 rfl rfl wf_11 tyX11 tyX11_ok nmX11 1 (by decide) wm_2_99 rfl rfl rfl (Nat.le_of_ble_eq_true rfl) dX11_putOnTape_37 (fun Hp9 lc9 hw9 => ?_)
  clear Hp8 lc8 hw8
  replace hw9 : qW D _ _ [(h0, .inr (11, [.ref h1, .int 15, .int 0, .int (-1), .ref h2, .ref h3, .ref h4, .ref h5, .ref h6, .ref h7, .ref h8, .ref h9, .ref h10, .ref h11, .ref h12, .ref h13, .int 0])), (h1, .inl (cy 0, 900, .inl f_704))] _ _ := hw9
  refine lv_iinc (v := 0) (lv' := [(2, .int 0), (0, .ref h0), (1, .int p0)]) hx hb dX11_putOnTape_40 hv7 (k := 0) rfl (by decide +kernel) (by decide) rfl (fun lz10 hv10 => ?_)
  clear lz7 hv7
  refine lv_goto (tgt := 3) hx hb dX11_putOnTape_43 (by decide) ?_
  refine lv_iload_n hx hb dX11_putOnTape_3 rfl (lv_at hv10 0 rfl) ?_
  refine lv_if_lt (tgt := 46) hx hb dX11_putOnTape_4 (by decide) (fun c => absurd c (by decide +kernel)) (fun _ => ?_)
  refine lv_aload_n hx hb dX11_putOnTape_7 rfl (lv_at hv10 1 rfl) ?_
  refine q_get X hK hw9 0 rfl rfl wf_11 1 (by decide) rfl wm_2_99 dX11_putOnTape_8 ?_
  refine lv_sipush (v := 900) hx hb dX11_putOnTape_11 (by decide) ?_
  refine lv_icmp_ge (tgt := 46) hx hb dX11_putOnTape_14 (by decide) (fun c => absurd c (by decide +kernel)) (fun _ => ?_)
  refine lv_aload_n hx hb dX11_putOnTape_17 rfl (lv_at hv10 1 rfl) ?_
  refine q_get X hK hw9 0 rfl rfl wf_11 0 (by decide) rfl wm_2_98 dX11_putOnTape_18 ?_
  refine lv_aload_n hx hb dX11_putOnTape_21 rfl (lv_at hv10 1 rfl) ?_
  refine q_get X hK hw9 0 rfl rfl wf_11 1 (by decide) rfl wm_2_99 dX11_putOnTape_22 ?_
  refine lv_iload_n hx hb dX11_putOnTape_25 rfl (lv_at hv10 2 rfl) ?_
  refine lv_iload_n hx hb dX11_putOnTape_26 rfl (lv_at hv10 0 rfl) ?_
  refine lv_iushr hx hb dX11_putOnTape_27 rfl ?_
  refine lv_i2b hx hb dX11_putOnTape_28 rfl ?_
  refine q_bast X hK hw9 1 rfl (q_in (by decide +kernel)) dX11_putOnTape_29 (fun Hp11 lc11 hw11 => ?_)
  clear Hp9 lc9 hw9
  replace hw11 : qW D _ _ [(h0, .inr (11, [.ref h1, .int 15, .int 0, .int (-1), .ref h2, .ref h3, .ref h4, .ref h5, .ref h6, .ref h7, .ref h8, .ref h9, .ref h10, .ref h11, .ref h12, .ref h13, .int 0])), (h1, .inl (cy 0, 900, .inl (upd f_704 (Int32.toNatClampNeg 15) (vp_nar .byte (((((p0).toUInt32 >>> ((0 : Int32).toUInt32 &&& Int32.toUInt32 31)).toInt32)).toInt8.toInt32)))))] _ _ := hw11
  generalize (upd f_704 (Int32.toNatClampNeg 15) (vp_nar .byte (((((p0).toUInt32 >>> ((0 : Int32).toUInt32 &&& Int32.toUInt32 31)).toInt32)).toInt8.toInt32))) = f_705 at hw11
  refine lv_aload_n hx hb dX11_putOnTape_30 rfl (lv_at hv10 1 rfl) ?_
  refine lv_dup hx hb dX11_putOnTape_31 rfl ?_
  refine q_get X hK hw11 0 rfl rfl wf_11 1 (by decide) rfl wm_2_99 dX11_putOnTape_32 ?_
  refine lv_iconst (v := 1) hx hb dX11_putOnTape_35 (by decide) ?_
  refine lv_iadd hx hb dX11_putOnTape_36 ?_
  refine q_c 16 (by decide +kernel) ?_
  refine q_put (v := .int 16) X hK hw11 0 rfl rfl wf_11 tyX11 tyX11_ok nmX11 1 (by decide) wm_2_99 rfl rfl rfl (Nat.le_of_ble_eq_true rfl) dX11_putOnTape_37 (fun Hp12 lc12 hw12 => ?_)
  clear Hp11 lc11 hw11
  replace hw12 : qW D _ _ [(h0, .inr (11, [.ref h1, .int 16, .int 0, .int (-1), .ref h2, .ref h3, .ref h4, .ref h5, .ref h6, .ref h7, .ref h8, .ref h9, .ref h10, .ref h11, .ref h12, .ref h13, .int 0])), (h1, .inl (cy 0, 900, .inl f_705))] _ _ := hw12
  refine lv_iinc (v := (-8)) (lv' := [(2, .int (-8)), (0, .ref h0), (1, .int p0)]) hx hb dX11_putOnTape_40 hv10 (k := 0) rfl (by decide +kernel) (by decide) rfl (fun lz13 hv13 => ?_)
  clear lz10 hv10
  refine lv_goto (tgt := 3) hx hb dX11_putOnTape_43 (by decide) ?_
  refine lv_iload_n hx hb dX11_putOnTape_3 rfl (lv_at hv13 0 rfl) ?_
  refine lv_if_lt (tgt := 46) hx hb dX11_putOnTape_4 (by decide) (fun _ => ?_) (fun c => absurd c (by decide +kernel))
  exact q_vret X hr hlk hK hw12 (fun _ => 0, fun k => List.getD [f_705] k (fun _ => 0), fun _ _ => 0) trivial [0, 1] rfl rfl dX11_putOnTape_46 (Nat.le_of_ble_eq_true rfl) (Nat.le_of_ble_eq_true rfl)
set_option maxHeartbeats 4000000 in
set_option maxRecDepth 100000 in
theorem kX11_putOnTape_18 (l : Launch) (D : va_G) (cy : Nat → ClassId) (h0 : Nat) (h1 : Nat) (f0 : Nat → Int32) (p0 : Int32) (h2 : Nat) (h3 : Nat) (h4 : Nat) (h5 : Nat) (h6 : Nat) (h7 : Nat) (h8 : Nat) (h9 : Nat) (h10 : Nat) (h11 : Nat) (h12 : Nat) (h13 : Nat) (sz : Nat) : MV l yX11_putOnTape cX11_putOnTape 3 { frames := 0, cells := 0, slots := 0, locals := 0 } [.ref h0, .int p0] D cy [(h0, .inr (11, [.ref h1, .int 16, .int 0, .int (-1), .ref h2, .ref h3, .ref h4, .ref h5, .ref h6, .ref h7, .ref h8, .ref h9, .ref h10, .ref h11, .ref h12, .ref h13, .int 0])), (h1, .inl (cy 0, 900, .inl f0))] sz (fun _ => True) (fun u => [(h0, .inr (11, [.ref h1, .int 20, .int 0, .int (-1), .ref h2, .ref h3, .ref h4, .ref h5, .ref h6, .ref h7, .ref h8, .ref h9, .ref h10, .ref h11, .ref h12, .ref h13, .int 0])), (h1, .inl (cy 0, 900, .inl (u.2.1 0)))]) 0 0 := by
  refine q_ent (own := RX11) (by decide) rfl (Nat.le_of_ble_eq_true rfl) (fun p e s m below meth c ls X hr hlk hnm hK h hA hl => ?_)
  obtain ⟨hx, hb, hml, hown, ht⟩ := id X
  replace hl : lv_has ls 3 [(0, .ref h0), (1, .int p0)] := hl
  refine lv_bipush (v := 24) hx hb dX11_putOnTape_0 (by decide) ?_
  refine lv_istore_n (lv' := [(2, .int 24), (0, .ref h0), (1, .int p0)]) hx hb dX11_putOnTape_2 rfl hl (by decide) rfl (fun lz1 hv1 => ?_)
  clear ls hl
  refine lv_iload_n hx hb dX11_putOnTape_3 rfl (lv_at hv1 0 rfl) ?_
  refine lv_if_lt (tgt := 46) hx hb dX11_putOnTape_4 (by decide) (fun c => absurd c (by decide +kernel)) (fun _ => ?_)
  refine lv_aload_n hx hb dX11_putOnTape_7 rfl (lv_at hv1 1 rfl) ?_
  refine q_get X hK h 0 rfl rfl wf_11 1 (by decide) rfl wm_2_99 dX11_putOnTape_8 ?_
  refine lv_sipush (v := 900) hx hb dX11_putOnTape_11 (by decide) ?_
  refine lv_icmp_ge (tgt := 46) hx hb dX11_putOnTape_14 (by decide) (fun c => absurd c (by decide +kernel)) (fun _ => ?_)
  refine lv_aload_n hx hb dX11_putOnTape_17 rfl (lv_at hv1 1 rfl) ?_
  refine q_get X hK h 0 rfl rfl wf_11 0 (by decide) rfl wm_2_98 dX11_putOnTape_18 ?_
  refine lv_aload_n hx hb dX11_putOnTape_21 rfl (lv_at hv1 1 rfl) ?_
  refine q_get X hK h 0 rfl rfl wf_11 1 (by decide) rfl wm_2_99 dX11_putOnTape_22 ?_
  refine lv_iload_n hx hb dX11_putOnTape_25 rfl (lv_at hv1 2 rfl) ?_
  refine lv_iload_n hx hb dX11_putOnTape_26 rfl (lv_at hv1 0 rfl) ?_
  refine lv_iushr hx hb dX11_putOnTape_27 rfl ?_
  refine lv_i2b hx hb dX11_putOnTape_28 rfl ?_
  refine q_bast X hK h 1 rfl (q_in (by decide +kernel)) dX11_putOnTape_29 (fun Hp2 lc2 hw2 => ?_)
  clear h
  replace hw2 : qW D _ _ [(h0, .inr (11, [.ref h1, .int 16, .int 0, .int (-1), .ref h2, .ref h3, .ref h4, .ref h5, .ref h6, .ref h7, .ref h8, .ref h9, .ref h10, .ref h11, .ref h12, .ref h13, .int 0])), (h1, .inl (cy 0, 900, .inl (upd f0 (Int32.toNatClampNeg 16) (vp_nar .byte (((((p0).toUInt32 >>> ((24 : Int32).toUInt32 &&& Int32.toUInt32 31)).toInt32)).toInt8.toInt32)))))] _ _ := hw2
  generalize (upd f0 (Int32.toNatClampNeg 16) (vp_nar .byte (((((p0).toUInt32 >>> ((24 : Int32).toUInt32 &&& Int32.toUInt32 31)).toInt32)).toInt8.toInt32))) = f_715 at hw2
  refine lv_aload_n hx hb dX11_putOnTape_30 rfl (lv_at hv1 1 rfl) ?_
  refine lv_dup hx hb dX11_putOnTape_31 rfl ?_
  refine q_get X hK hw2 0 rfl rfl wf_11 1 (by decide) rfl wm_2_99 dX11_putOnTape_32 ?_
  refine lv_iconst (v := 1) hx hb dX11_putOnTape_35 (by decide) ?_
  refine lv_iadd hx hb dX11_putOnTape_36 ?_
  refine q_c 17 (by decide +kernel) ?_
  refine q_put (v := .int 17) X hK hw2 0 rfl rfl wf_11 tyX11 tyX11_ok nmX11 1 (by decide) wm_2_99 rfl rfl rfl (Nat.le_of_ble_eq_true rfl) dX11_putOnTape_37 (fun Hp3 lc3 hw3 => ?_)
  clear Hp2 lc2 hw2
  replace hw3 : qW D _ _ [(h0, .inr (11, [.ref h1, .int 17, .int 0, .int (-1), .ref h2, .ref h3, .ref h4, .ref h5, .ref h6, .ref h7, .ref h8, .ref h9, .ref h10, .ref h11, .ref h12, .ref h13, .int 0])), (h1, .inl (cy 0, 900, .inl f_715))] _ _ := hw3
  refine lv_iinc (v := 16) (lv' := [(2, .int 16), (0, .ref h0), (1, .int p0)]) hx hb dX11_putOnTape_40 hv1 (k := 0) rfl (by decide +kernel) (by decide) rfl (fun lz4 hv4 => ?_)
  clear lz1 hv1
  refine lv_goto (tgt := 3) hx hb dX11_putOnTape_43 (by decide) ?_
  refine lv_iload_n hx hb dX11_putOnTape_3 rfl (lv_at hv4 0 rfl) ?_
  refine lv_if_lt (tgt := 46) hx hb dX11_putOnTape_4 (by decide) (fun c => absurd c (by decide +kernel)) (fun _ => ?_)
  refine lv_aload_n hx hb dX11_putOnTape_7 rfl (lv_at hv4 1 rfl) ?_
  refine q_get X hK hw3 0 rfl rfl wf_11 1 (by decide) rfl wm_2_99 dX11_putOnTape_8 ?_
  refine lv_sipush (v := 900) hx hb dX11_putOnTape_11 (by decide) ?_
  refine lv_icmp_ge (tgt := 46) hx hb dX11_putOnTape_14 (by decide) (fun c => absurd c (by decide +kernel)) (fun _ => ?_)
  refine lv_aload_n hx hb dX11_putOnTape_17 rfl (lv_at hv4 1 rfl) ?_
  refine q_get X hK hw3 0 rfl rfl wf_11 0 (by decide) rfl wm_2_98 dX11_putOnTape_18 ?_
  refine lv_aload_n hx hb dX11_putOnTape_21 rfl (lv_at hv4 1 rfl) ?_
  refine q_get X hK hw3 0 rfl rfl wf_11 1 (by decide) rfl wm_2_99 dX11_putOnTape_22 ?_
  refine lv_iload_n hx hb dX11_putOnTape_25 rfl (lv_at hv4 2 rfl) ?_
  refine lv_iload_n hx hb dX11_putOnTape_26 rfl (lv_at hv4 0 rfl) ?_
  refine lv_iushr hx hb dX11_putOnTape_27 rfl ?_
  refine lv_i2b hx hb dX11_putOnTape_28 rfl ?_
  refine q_bast X hK hw3 1 rfl (q_in (by decide +kernel)) dX11_putOnTape_29 (fun Hp5 lc5 hw5 => ?_)
  clear Hp3 lc3 hw3
  replace hw5 : qW D _ _ [(h0, .inr (11, [.ref h1, .int 17, .int 0, .int (-1), .ref h2, .ref h3, .ref h4, .ref h5, .ref h6, .ref h7, .ref h8, .ref h9, .ref h10, .ref h11, .ref h12, .ref h13, .int 0])), (h1, .inl (cy 0, 900, .inl (upd f_715 (Int32.toNatClampNeg 17) (vp_nar .byte (((((p0).toUInt32 >>> ((16 : Int32).toUInt32 &&& Int32.toUInt32 31)).toInt32)).toInt8.toInt32)))))] _ _ := hw5
  generalize (upd f_715 (Int32.toNatClampNeg 17) (vp_nar .byte (((((p0).toUInt32 >>> ((16 : Int32).toUInt32 &&& Int32.toUInt32 31)).toInt32)).toInt8.toInt32))) = f_716 at hw5
  refine lv_aload_n hx hb dX11_putOnTape_30 rfl (lv_at hv4 1 rfl) ?_
  refine lv_dup hx hb dX11_putOnTape_31 rfl ?_
  refine q_get X hK hw5 0 rfl rfl wf_11 1 (by decide) rfl wm_2_99 dX11_putOnTape_32 ?_
  refine lv_iconst (v := 1) hx hb dX11_putOnTape_35 (by decide) ?_
  refine lv_iadd hx hb dX11_putOnTape_36 ?_
  refine q_c 18 (by decide +kernel) ?_
  refine q_put (v := .int 18) X hK hw5 0 rfl rfl wf_11 tyX11 tyX11_ok nmX11 1 (by decide) wm_2_99 rfl rfl rfl (Nat.le_of_ble_eq_true rfl) dX11_putOnTape_37 (fun Hp6 lc6 hw6 => ?_)
  clear Hp5 lc5 hw5
  replace hw6 : qW D _ _ [(h0, .inr (11, [.ref h1, .int 18, .int 0, .int (-1), .ref h2, .ref h3, .ref h4, .ref h5, .ref h6, .ref h7, .ref h8, .ref h9, .ref h10, .ref h11, .ref h12, .ref h13, .int 0])), (h1, .inl (cy 0, 900, .inl f_716))] _ _ := hw6
  refine lv_iinc (v := 8) (lv' := [(2, .int 8), (0, .ref h0), (1, .int p0)]) hx hb dX11_putOnTape_40 hv4 (k := 0) rfl (by decide +kernel) (by decide) rfl (fun lz7 hv7 => ?_)
  clear lz4 hv4
  refine lv_goto (tgt := 3) hx hb dX11_putOnTape_43 (by decide) ?_
  refine lv_iload_n hx hb dX11_putOnTape_3 rfl (lv_at hv7 0 rfl) ?_
  refine lv_if_lt (tgt := 46) hx hb dX11_putOnTape_4 (by decide) (fun c => absurd c (by decide +kernel)) (fun _ => ?_)
  refine lv_aload_n hx hb dX11_putOnTape_7 rfl (lv_at hv7 1 rfl) ?_
  refine q_get X hK hw6 0 rfl rfl wf_11 1 (by decide) rfl wm_2_99 dX11_putOnTape_8 ?_
  refine lv_sipush (v := 900) hx hb dX11_putOnTape_11 (by decide) ?_
  refine lv_icmp_ge (tgt := 46) hx hb dX11_putOnTape_14 (by decide) (fun c => absurd c (by decide +kernel)) (fun _ => ?_)
  refine lv_aload_n hx hb dX11_putOnTape_17 rfl (lv_at hv7 1 rfl) ?_
  refine q_get X hK hw6 0 rfl rfl wf_11 0 (by decide) rfl wm_2_98 dX11_putOnTape_18 ?_
  refine lv_aload_n hx hb dX11_putOnTape_21 rfl (lv_at hv7 1 rfl) ?_
  refine q_get X hK hw6 0 rfl rfl wf_11 1 (by decide) rfl wm_2_99 dX11_putOnTape_22 ?_
  refine lv_iload_n hx hb dX11_putOnTape_25 rfl (lv_at hv7 2 rfl) ?_
  refine lv_iload_n hx hb dX11_putOnTape_26 rfl (lv_at hv7 0 rfl) ?_
  refine lv_iushr hx hb dX11_putOnTape_27 rfl ?_
  refine lv_i2b hx hb dX11_putOnTape_28 rfl ?_
  refine q_bast X hK hw6 1 rfl (q_in (by decide +kernel)) dX11_putOnTape_29 (fun Hp8 lc8 hw8 => ?_)
  clear Hp6 lc6 hw6
  replace hw8 : qW D _ _ [(h0, .inr (11, [.ref h1, .int 18, .int 0, .int (-1), .ref h2, .ref h3, .ref h4, .ref h5, .ref h6, .ref h7, .ref h8, .ref h9, .ref h10, .ref h11, .ref h12, .ref h13, .int 0])), (h1, .inl (cy 0, 900, .inl (upd f_716 (Int32.toNatClampNeg 18) (vp_nar .byte (((((p0).toUInt32 >>> ((8 : Int32).toUInt32 &&& Int32.toUInt32 31)).toInt32)).toInt8.toInt32)))))] _ _ := hw8
  generalize (upd f_716 (Int32.toNatClampNeg 18) (vp_nar .byte (((((p0).toUInt32 >>> ((8 : Int32).toUInt32 &&& Int32.toUInt32 31)).toInt32)).toInt8.toInt32))) = f_717 at hw8
  refine lv_aload_n hx hb dX11_putOnTape_30 rfl (lv_at hv7 1 rfl) ?_
  refine lv_dup hx hb dX11_putOnTape_31 rfl ?_
  refine q_get X hK hw8 0 rfl rfl wf_11 1 (by decide) rfl wm_2_99 dX11_putOnTape_32 ?_
  refine lv_iconst (v := 1) hx hb dX11_putOnTape_35 (by decide) ?_
  refine lv_iadd hx hb dX11_putOnTape_36 ?_
  refine q_c 19 (by decide +kernel) ?_
  refine q_put (v := .int 19) X hK hw8 0 rfl rfl wf_11 tyX11 tyX11_ok nmX11 1 (by decide) wm_2_99 rfl rfl rfl (Nat.le_of_ble_eq_true rfl) dX11_putOnTape_37 (fun Hp9 lc9 hw9 => ?_)
  clear Hp8 lc8 hw8
  replace hw9 : qW D _ _ [(h0, .inr (11, [.ref h1, .int 19, .int 0, .int (-1), .ref h2, .ref h3, .ref h4, .ref h5, .ref h6, .ref h7, .ref h8, .ref h9, .ref h10, .ref h11, .ref h12, .ref h13, .int 0])), (h1, .inl (cy 0, 900, .inl f_717))] _ _ := hw9
  refine lv_iinc (v := 0) (lv' := [(2, .int 0), (0, .ref h0), (1, .int p0)]) hx hb dX11_putOnTape_40 hv7 (k := 0) rfl (by decide +kernel) (by decide) rfl (fun lz10 hv10 => ?_)
  clear lz7 hv7
  refine lv_goto (tgt := 3) hx hb dX11_putOnTape_43 (by decide) ?_
  refine lv_iload_n hx hb dX11_putOnTape_3 rfl (lv_at hv10 0 rfl) ?_
  refine lv_if_lt (tgt := 46) hx hb dX11_putOnTape_4 (by decide) (fun c => absurd c (by decide +kernel)) (fun _ => ?_)
  refine lv_aload_n hx hb dX11_putOnTape_7 rfl (lv_at hv10 1 rfl) ?_
  refine q_get X hK hw9 0 rfl rfl wf_11 1 (by decide) rfl wm_2_99 dX11_putOnTape_8 ?_
  refine lv_sipush (v := 900) hx hb dX11_putOnTape_11 (by decide) ?_
  refine lv_icmp_ge (tgt := 46) hx hb dX11_putOnTape_14 (by decide) (fun c => absurd c (by decide +kernel)) (fun _ => ?_)
  refine lv_aload_n hx hb dX11_putOnTape_17 rfl (lv_at hv10 1 rfl) ?_
  refine q_get X hK hw9 0 rfl rfl wf_11 0 (by decide) rfl wm_2_98 dX11_putOnTape_18 ?_
  refine lv_aload_n hx hb dX11_putOnTape_21 rfl (lv_at hv10 1 rfl) ?_
  refine q_get X hK hw9 0 rfl rfl wf_11 1 (by decide) rfl wm_2_99 dX11_putOnTape_22 ?_
  refine lv_iload_n hx hb dX11_putOnTape_25 rfl (lv_at hv10 2 rfl) ?_
  refine lv_iload_n hx hb dX11_putOnTape_26 rfl (lv_at hv10 0 rfl) ?_
  refine lv_iushr hx hb dX11_putOnTape_27 rfl ?_
  refine lv_i2b hx hb dX11_putOnTape_28 rfl ?_
  refine q_bast X hK hw9 1 rfl (q_in (by decide +kernel)) dX11_putOnTape_29 (fun Hp11 lc11 hw11 => ?_)
  clear Hp9 lc9 hw9
  replace hw11 : qW D _ _ [(h0, .inr (11, [.ref h1, .int 19, .int 0, .int (-1), .ref h2, .ref h3, .ref h4, .ref h5, .ref h6, .ref h7, .ref h8, .ref h9, .ref h10, .ref h11, .ref h12, .ref h13, .int 0])), (h1, .inl (cy 0, 900, .inl (upd f_717 (Int32.toNatClampNeg 19) (vp_nar .byte (((((p0).toUInt32 >>> ((0 : Int32).toUInt32 &&& Int32.toUInt32 31)).toInt32)).toInt8.toInt32)))))] _ _ := hw11
  generalize (upd f_717 (Int32.toNatClampNeg 19) (vp_nar .byte (((((p0).toUInt32 >>> ((0 : Int32).toUInt32 &&& Int32.toUInt32 31)).toInt32)).toInt8.toInt32))) = f_718 at hw11
  refine lv_aload_n hx hb dX11_putOnTape_30 rfl (lv_at hv10 1 rfl) ?_
  refine lv_dup hx hb dX11_putOnTape_31 rfl ?_
  refine q_get X hK hw11 0 rfl rfl wf_11 1 (by decide) rfl wm_2_99 dX11_putOnTape_32 ?_
  refine lv_iconst (v := 1) hx hb dX11_putOnTape_35 (by decide) ?_
  refine lv_iadd hx hb dX11_putOnTape_36 ?_
  refine q_c 20 (by decide +kernel) ?_
  refine q_put (v := .int 20) X hK hw11 0 rfl rfl wf_11 tyX11 tyX11_ok nmX11 1 (by decide) wm_2_99 rfl rfl rfl (Nat.le_of_ble_eq_true rfl) dX11_putOnTape_37 (fun Hp12 lc12 hw12 => ?_)
  clear Hp11 lc11 hw11
  replace hw12 : qW D _ _ [(h0, .inr (11, [.ref h1, .int 20, .int 0, .int (-1), .ref h2, .ref h3, .ref h4, .ref h5, .ref h6, .ref h7, .ref h8, .ref h9, .ref h10, .ref h11, .ref h12, .ref h13, .int 0])), (h1, .inl (cy 0, 900, .inl f_718))] _ _ := hw12
  refine lv_iinc (v := (-8)) (lv' := [(2, .int (-8)), (0, .ref h0), (1, .int p0)]) hx hb dX11_putOnTape_40 hv10 (k := 0) rfl (by decide +kernel) (by decide) rfl (fun lz13 hv13 => ?_)
  clear lz10 hv10
  refine lv_goto (tgt := 3) hx hb dX11_putOnTape_43 (by decide) ?_
  refine lv_iload_n hx hb dX11_putOnTape_3 rfl (lv_at hv13 0 rfl) ?_
  refine lv_if_lt (tgt := 46) hx hb dX11_putOnTape_4 (by decide) (fun _ => ?_) (fun c => absurd c (by decide +kernel))
  exact q_vret X hr hlk hK hw12 (fun _ => 0, fun k => List.getD [f_718] k (fun _ => 0), fun _ _ => 0) trivial [0, 1] rfl rfl dX11_putOnTape_46 (Nat.le_of_ble_eq_true rfl) (Nat.le_of_ble_eq_true rfl)
set_option maxHeartbeats 4000000 in
set_option maxRecDepth 100000 in
theorem kX11_feed_19 (l : Launch) (D : va_G) (cy : Nat → ClassId) (h0 : Nat) (h1 : Nat) (p0 : Int32) (p1 : Int32) (p2 : Int32) (p3 : Int32) (p4 : Int32) (h2 : Nat) (h3 : Nat) (h4 : Nat) (h5 : Nat) (h6 : Nat) (h7 : Nat) (h8 : Nat) (h9 : Nat) (h10 : Nat) (h11 : Nat) (h12 : Nat) (h13 : Nat) (sz : Nat) : MI l yX11_feed cX11_feed 6 .int { frames := 1, cells := 0, slots := 0, locals := 22 } [.ref h0, .int p0, .int p1, .int p2, .int p3, .int p4] D cy [(h0, .inr (11, [.ref h1, .int 0, .int 0, .int (-1), .ref h2, .ref h3, .ref h4, .ref h5, .ref h6, .ref h7, .ref h8, .ref h9, .ref h10, .ref h11, .ref h12, .ref h13, .int 0])), (h1, .inl (cy 0, 900, .inl (fun _ => 0)))] sz (fun r u => r = 20) (fun u => []) 0 0 := by
  refine q_ent (own := RX11) (by decide) rfl (Nat.le_of_ble_eq_true rfl) (fun p e s m below meth c ls X hr hlk hnm hK h hA hl => ?_)
  obtain ⟨hx, hb, hml, hown, ht⟩ := id X
  replace hl : lv_has ls 6 [(0, .ref h0), (1, .int p0), (2, .int p1), (3, .int p2), (4, .int p3), (5, .int p4)] := hl
  refine lv_aload_n hx hb dX11_feed_0 rfl (lv_at hl 0 rfl) ?_
  refine q_get X hK h 0 rfl rfl wf_11 1 (by decide) rfl wm_2_99 dX11_feed_1 ?_
  refine lv_bipush (v := 20) hx hb dX11_feed_4 (by decide) ?_
  refine lv_iadd hx hb dX11_feed_6 ?_
  refine q_c 20 (by decide +kernel) ?_
  refine lv_sipush (v := 900) hx hb dX11_feed_7 (by decide) ?_
  refine lv_icmp_le (tgt := 16) hx hb dX11_feed_10 (by decide) (fun _ => ?_) (fun c => absurd c (by decide +kernel))
  refine lv_aload_n hx hb dX11_feed_16 rfl (lv_at hl 0 rfl) ?_
  refine lv_iload_n hx hb dX11_feed_17 rfl (lv_at hl 1 rfl) ?_
  refine q_callVv (rest := []) (wr := []) X hK hA h (fun sz => kX11_putOnTape_14 l D cy h0 h1 p0 h2 h3 h4 h5 h6 h7 h8 h9 h10 h11 h12 h13  sz) wm_2_154 wm_2_157 wm_1_1 hd_X11_putOnTape wm_2_156 wp_1_0 (ci := 11) (q0 := 0) rfl rfl ⟨Nat.le_of_ble_eq_true rfl, Nat.le_of_ble_eq_true rfl⟩ hl.1 rfl (Nat.le_of_ble_eq_true rfl) dX11_feed_18 ⟨Nat.le_of_ble_eq_true rfl, Nat.le_of_ble_eq_true rfl⟩ [0, 1] [] rfl rfl (by decide) rfl rfl (fun u_749 Hp1 lc1 w_749 hw1 => ?_)
  clear h
  replace hw1 : qW D _ _ [(h0, .inr (11, [.ref h1, .int 4, .int 0, .int (-1), .ref h2, .ref h3, .ref h4, .ref h5, .ref h6, .ref h7, .ref h8, .ref h9, .ref h10, .ref h11, .ref h12, .ref h13, .int 0])), (h1, .inl (cy 0, 900, .inl (u_749.2.1 0)))] _ _ := hw1
  refine lv_aload_n hx hb dX11_feed_21 rfl (lv_at hl 0 rfl) ?_
  refine lv_iload_n hx hb dX11_feed_22 rfl (lv_at hl 2 rfl) ?_
  refine q_callVv (rest := []) (wr := []) X hK hA hw1 (fun sz => kX11_putOnTape_15 l D cy h0 h1 (u_749.2.1 0) p1 h2 h3 h4 h5 h6 h7 h8 h9 h10 h11 h12 h13  sz) wm_2_154 wm_2_157 wm_1_1 hd_X11_putOnTape wm_2_156 wp_1_0 (ci := 11) (q0 := 0) rfl rfl ⟨Nat.le_of_ble_eq_true rfl, Nat.le_of_ble_eq_true rfl⟩ hl.1 rfl (Nat.le_of_ble_eq_true rfl) dX11_feed_23 ⟨Nat.le_of_ble_eq_true rfl, Nat.le_of_ble_eq_true rfl⟩ [0, 1] [] rfl rfl (by decide) rfl rfl (fun u_754 Hp2 lc2 w_754 hw2 => ?_)
  clear Hp1 lc1 hw1
  replace hw2 : qW D _ _ [(h0, .inr (11, [.ref h1, .int 8, .int 0, .int (-1), .ref h2, .ref h3, .ref h4, .ref h5, .ref h6, .ref h7, .ref h8, .ref h9, .ref h10, .ref h11, .ref h12, .ref h13, .int 0])), (h1, .inl (cy 0, 900, .inl (u_754.2.1 0)))] _ _ := hw2
  refine lv_aload_n hx hb dX11_feed_26 rfl (lv_at hl 0 rfl) ?_
  refine lv_iload_n hx hb dX11_feed_27 rfl (lv_at hl 3 rfl) ?_
  refine q_callVv (rest := []) (wr := []) X hK hA hw2 (fun sz => kX11_putOnTape_16 l D cy h0 h1 (u_754.2.1 0) p2 h2 h3 h4 h5 h6 h7 h8 h9 h10 h11 h12 h13  sz) wm_2_154 wm_2_157 wm_1_1 hd_X11_putOnTape wm_2_156 wp_1_0 (ci := 11) (q0 := 0) rfl rfl ⟨Nat.le_of_ble_eq_true rfl, Nat.le_of_ble_eq_true rfl⟩ hl.1 rfl (Nat.le_of_ble_eq_true rfl) dX11_feed_28 ⟨Nat.le_of_ble_eq_true rfl, Nat.le_of_ble_eq_true rfl⟩ [0, 1] [] rfl rfl (by decide) rfl rfl (fun u_759 Hp3 lc3 w_759 hw3 => ?_)
  clear Hp2 lc2 hw2
  replace hw3 : qW D _ _ [(h0, .inr (11, [.ref h1, .int 12, .int 0, .int (-1), .ref h2, .ref h3, .ref h4, .ref h5, .ref h6, .ref h7, .ref h8, .ref h9, .ref h10, .ref h11, .ref h12, .ref h13, .int 0])), (h1, .inl (cy 0, 900, .inl (u_759.2.1 0)))] _ _ := hw3
  refine lv_aload_n hx hb dX11_feed_31 rfl (lv_at hl 0 rfl) ?_
  refine lv_iload hx hb dX11_feed_32 (lv_at hl 4 rfl) ?_
  refine q_callVv (rest := []) (wr := []) X hK hA hw3 (fun sz => kX11_putOnTape_17 l D cy h0 h1 (u_759.2.1 0) p3 h2 h3 h4 h5 h6 h7 h8 h9 h10 h11 h12 h13  sz) wm_2_154 wm_2_157 wm_1_1 hd_X11_putOnTape wm_2_156 wp_1_0 (ci := 11) (q0 := 0) rfl rfl ⟨Nat.le_of_ble_eq_true rfl, Nat.le_of_ble_eq_true rfl⟩ hl.1 rfl (Nat.le_of_ble_eq_true rfl) dX11_feed_34 ⟨Nat.le_of_ble_eq_true rfl, Nat.le_of_ble_eq_true rfl⟩ [0, 1] [] rfl rfl (by decide) rfl rfl (fun u_764 Hp4 lc4 w_764 hw4 => ?_)
  clear Hp3 lc3 hw3
  replace hw4 : qW D _ _ [(h0, .inr (11, [.ref h1, .int 16, .int 0, .int (-1), .ref h2, .ref h3, .ref h4, .ref h5, .ref h6, .ref h7, .ref h8, .ref h9, .ref h10, .ref h11, .ref h12, .ref h13, .int 0])), (h1, .inl (cy 0, 900, .inl (u_764.2.1 0)))] _ _ := hw4
  refine lv_aload_n hx hb dX11_feed_37 rfl (lv_at hl 0 rfl) ?_
  refine lv_iload hx hb dX11_feed_38 (lv_at hl 5 rfl) ?_
  refine q_callVv (rest := []) (wr := []) X hK hA hw4 (fun sz => kX11_putOnTape_18 l D cy h0 h1 (u_764.2.1 0) p4 h2 h3 h4 h5 h6 h7 h8 h9 h10 h11 h12 h13  sz) wm_2_154 wm_2_157 wm_1_1 hd_X11_putOnTape wm_2_156 wp_1_0 (ci := 11) (q0 := 0) rfl rfl ⟨Nat.le_of_ble_eq_true rfl, Nat.le_of_ble_eq_true rfl⟩ hl.1 rfl (Nat.le_of_ble_eq_true rfl) dX11_feed_40 ⟨Nat.le_of_ble_eq_true rfl, Nat.le_of_ble_eq_true rfl⟩ [0, 1] [] rfl rfl (by decide) rfl rfl (fun u_769 Hp5 lc5 w_769 hw5 => ?_)
  clear Hp4 lc4 hw4
  replace hw5 : qW D _ _ [(h0, .inr (11, [.ref h1, .int 20, .int 0, .int (-1), .ref h2, .ref h3, .ref h4, .ref h5, .ref h6, .ref h7, .ref h8, .ref h9, .ref h10, .ref h11, .ref h12, .ref h13, .int 0])), (h1, .inl (cy 0, 900, .inl (u_769.2.1 0)))] _ _ := hw5
  refine lv_aload_n hx hb dX11_feed_43 rfl (lv_at hl 0 rfl) ?_
  refine q_get X hK hw5 0 rfl rfl wf_11 1 (by decide) rfl wm_2_99 dX11_feed_44 ?_
  exact q_iret X hr hlk hK hw5 rfl qu0 rfl [] rfl rfl dX11_feed_47 (Nat.le_of_ble_eq_true rfl) (Nat.le_of_ble_eq_true rfl)
