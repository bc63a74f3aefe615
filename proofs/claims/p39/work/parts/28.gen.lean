theorem wm_2_218 : Cond.fieldLink RJ0 1053 "jdk/internal/util/Preconditions" "SIOOBE_FORMATTER" "Ljava/util/function/BiFunction;" ∈ WG := wg_t2 (List.mem_of_getElem? (i := 218) rfl) rfl
theorem wm_2_220 : Cond.methodLink RJ0 1059 yJ3_checkIndex_8e157 ∈ WG := wg_t2 (List.mem_of_getElem? (i := 220) rfl) rfl
theorem wm_2_222 : Cond.code yJ3_checkIndex_8e157 cJ3_checkIndex_8e157 3 (some .int) ∈ WG := wg_t2 (List.mem_of_getElem? (i := 222) rfl) rfl
theorem wm_1_16 : Cond.initialized RJ3 ∈ WG := wg_t1 (List.mem_of_getElem? (i := 16) rfl) rfl
theorem wm_2_221 : Cond.static yJ3_checkIndex_8e157 ∈ WG := wg_t2 (List.mem_of_getElem? (i := 221) rfl) rfl
theorem hd_J3_checkIndex_8e157 : yJ3_checkIndex_8e157.cls ≠ "java/lang/invoke/MethodHandle" ∧ yJ3_checkIndex_8e157.cls ≠ "java/lang/invoke/VarHandle" ∧ (parseMethodDescriptor yJ3_checkIndex_8e157.desc).map (fun d => d.parameters.length) = some 3 := by decide +kernel
theorem dJ0_checkIndex_df160_0 : decode cJ0_checkIndex_df160 0 = .ok (.iload_n 0, 1) := by decide +kernel
theorem dJ0_checkIndex_df160_1 : decode cJ0_checkIndex_df160 1 = .ok (.iload_n 1, 1) := by decide +kernel
theorem dJ0_checkIndex_df160_2 : decode cJ0_checkIndex_df160 2 = .ok (.getstatic 1053, 3) := by decide +kernel
theorem dJ0_checkIndex_df160_5 : decode cJ0_checkIndex_df160 5 = .ok (.invokestatic 1059, 3) := by decide +kernel
theorem dJ0_checkIndex_df160_8 : decode cJ0_checkIndex_df160 8 = .ok (.pop, 1) := by decide +kernel
theorem dJ0_checkIndex_df160_9 : decode cJ0_checkIndex_df160 9 = .ok (.return_, 1) := by decide +kernel
theorem dJ3_checkIndex_8e157_0 : decode cJ3_checkIndex_8e157 0 = .ok (.iload_n 0, 1) := by decide +kernel
theorem dJ3_checkIndex_8e157_1 : decode cJ3_checkIndex_8e157 1 = .ok (.ifCond .lt 8, 3) := by decide +kernel
theorem dJ3_checkIndex_8e157_4 : decode cJ3_checkIndex_8e157 4 = .ok (.iload_n 0, 1) := by decide +kernel
theorem dJ3_checkIndex_8e157_5 : decode cJ3_checkIndex_8e157 5 = .ok (.iload_n 1, 1) := by decide +kernel
theorem dJ3_checkIndex_8e157_6 : decode cJ3_checkIndex_8e157 6 = .ok (.if_icmp .lt 10, 3) := by decide +kernel
theorem dJ3_checkIndex_8e157_9 : decode cJ3_checkIndex_8e157 9 = .ok (.aload_n 2, 1) := by decide +kernel
theorem dJ3_checkIndex_8e157_10 : decode cJ3_checkIndex_8e157 10 = .ok (.iload_n 0, 1) := by decide +kernel
theorem dJ3_checkIndex_8e157_11 : decode cJ3_checkIndex_8e157 11 = .ok (.iload_n 1, 1) := by decide +kernel
theorem dJ3_checkIndex_8e157_12 : decode cJ3_checkIndex_8e157 12 = .ok (.invokestatic 95, 3) := by decide +kernel
theorem dJ3_checkIndex_8e157_15 : decode cJ3_checkIndex_8e157 15 = .ok (.athrow, 1) := by decide +kernel
theorem dJ3_checkIndex_8e157_16 : decode cJ3_checkIndex_8e157 16 = .ok (.iload_n 0, 1) := by decide +kernel
theorem dJ3_checkIndex_8e157_17 : decode cJ3_checkIndex_8e157 17 = .ok (.ireturn, 1) := by decide +kernel
set_option maxHeartbeats 4000000 in
set_option maxRecDepth 100000 in
theorem gJ3_checkIndex_8e157_1956ee9 (l : Launch) (D : va_G) (cy : Nat → ClassId) (p0 : Int32) (p1 : Int32) (hp0 : 0 ≤ (p0).toInt ∧ (p0).toInt ≤ 129) (hp1 : 11 ≤ (p1).toInt ∧ (p1).toInt ≤ 255) (hpre0 : 0 ≤ (p0 : Int32).toInt ∧ (p0 : Int32).toInt < (p1 : Int32).toInt) (sz : Nat) : MI l yJ3_checkIndex_8e157 cJ3_checkIndex_8e157 3 .int { frames := 0, cells := 0, slots := 0, locals := 0 } [.int p0, .int p1, .null] D cy [] sz (fun r u => (0 ≤ r.toInt ∧ r.toInt ≤ 129) ∧ True) (fun u => []) 0 0 := by
  refine q_ent (own := RJ3) (by decide) rfl (Nat.le_of_ble_eq_true rfl) (fun p e s m below meth c ls X hr hlk hnm hK hT h hA hl => ?_)
  obtain ⟨hx, hb, hml, hown, ht⟩ := id X
  replace hl : lv_has ls 3 [(0, .int p0), (1, .int p1), (2, .null)] := hl
  refine lv_iload_n hx hb dJ3_checkIndex_8e157_0 rfl (lv_at hl 0 rfl) ?_
  refine lv_if_lt (tgt := 9) hx hb dJ3_checkIndex_8e157_1 (by decide) (fun c_1 => ?_) (fun c_1 => ?_)
  · replace c_1 := i_lt (x := p0) (y := 0) rfl (show (0 : Int32).toInt = 0 by decide) c_1
    exfalso
    omega
  · replace c_1 := i_nlt (x := p0) (y := 0) rfl (show (0 : Int32).toInt = 0 by decide) c_1
    refine lv_iload_n hx hb dJ3_checkIndex_8e157_4 rfl (lv_at hl 0 rfl) ?_
    refine lv_iload_n hx hb dJ3_checkIndex_8e157_5 rfl (lv_at hl 1 rfl) ?_
    refine lv_icmp_lt (tgt := 16) hx hb dJ3_checkIndex_8e157_6 (by decide) (fun c_2 => ?_) (fun c_2 => ?_)
    · replace c_2 := i_lt (x := p0) (y := p1) rfl rfl c_2
      refine lv_iload_n hx hb dJ3_checkIndex_8e157_16 rfl (lv_at hl 0 rfl) ?_
      exact q_iret X hr hlk hK h rfl (fun _ => 0, fun _ _ => 0, fun _ _ => 0) ⟨⟨by omega, by omega⟩, trivial⟩ [] rfl rfl dJ3_checkIndex_8e157_17 (Nat.le_of_ble_eq_true rfl) (Nat.le_of_ble_eq_true rfl)
    · replace c_2 := i_nlt (x := p0) (y := p1) rfl rfl c_2
      exfalso
      omega
set_option maxHeartbeats 4000000 in
set_option maxRecDepth 100000 in
theorem gJ3_checkIndex_8e157_5c1c6ab (l : Launch) (D : va_G) (cy : Nat → ClassId) (p0 : Int32) (p1 : Int32) (h0 : Nat) (hp0 : 0 ≤ (p0).toInt ∧ (p0).toInt ≤ 129) (hp1 : 11 ≤ (p1).toInt ∧ (p1).toInt ≤ 255) (hpre0 : 0 ≤ (p0 : Int32).toInt ∧ (p0 : Int32).toInt < (p1 : Int32).toInt) (sz : Nat) : MI l yJ3_checkIndex_8e157 cJ3_checkIndex_8e157 3 .int { frames := 0, cells := 0, slots := 0, locals := 0 } [.int p0, .int p1, .ref h0] D cy [] sz (fun r u => (0 ≤ r.toInt ∧ r.toInt ≤ 129) ∧ True) (fun u => []) 0 0 := by
  refine q_ent (own := RJ3) (by decide) rfl (Nat.le_of_ble_eq_true rfl) (fun p e s m below meth c ls X hr hlk hnm hK hT h hA hl => ?_)
  obtain ⟨hx, hb, hml, hown, ht⟩ := id X
  replace hl : lv_has ls 3 [(0, .int p0), (1, .int p1), (2, .ref h0)] := hl
  refine lv_iload_n hx hb dJ3_checkIndex_8e157_0 rfl (lv_at hl 0 rfl) ?_
  refine lv_if_lt (tgt := 9) hx hb dJ3_checkIndex_8e157_1 (by decide) (fun c_1 => ?_) (fun c_1 => ?_)
  · replace c_1 := i_lt (x := p0) (y := 0) rfl (show (0 : Int32).toInt = 0 by decide) c_1
    exfalso
    omega
  · replace c_1 := i_nlt (x := p0) (y := 0) rfl (show (0 : Int32).toInt = 0 by decide) c_1
    refine lv_iload_n hx hb dJ3_checkIndex_8e157_4 rfl (lv_at hl 0 rfl) ?_
    refine lv_iload_n hx hb dJ3_checkIndex_8e157_5 rfl (lv_at hl 1 rfl) ?_
    refine lv_icmp_lt (tgt := 16) hx hb dJ3_checkIndex_8e157_6 (by decide) (fun c_2 => ?_) (fun c_2 => ?_)
    · replace c_2 := i_lt (x := p0) (y := p1) rfl rfl c_2
      refine lv_iload_n hx hb dJ3_checkIndex_8e157_16 rfl (lv_at hl 0 rfl) ?_
      exact q_iret X hr hlk hK h rfl (fun _ => 0, fun _ _ => 0, fun _ _ => 0) ⟨⟨by omega, by omega⟩, trivial⟩ [] rfl rfl dJ3_checkIndex_8e157_17 (Nat.le_of_ble_eq_true rfl) (Nat.le_of_ble_eq_true rfl)
    · replace c_2 := i_nlt (x := p0) (y := p1) rfl rfl c_2
      exfalso
      omega
set_option maxHeartbeats 4000000 in
set_option maxRecDepth 100000 in
theorem gJ0_checkIndex_df160_e8cd482 (l : Launch) (D : va_G) (cy : Nat → ClassId) (p0 : Int32) (p1 : Int32) (hp0 : 0 ≤ (p0).toInt ∧ (p0).toInt ≤ 129) (hp1 : 11 ≤ (p1).toInt ∧ (p1).toInt ≤ 255) (hpre0 : 0 ≤ (p0 : Int32).toInt ∧ (p0 : Int32).toInt < (p1 : Int32).toInt) (sz : Nat) : MV l yJ0_checkIndex_df160 cJ0_checkIndex_df160 2 { frames := 1, cells := 0, slots := 0, locals := 22 } [.int p0, .int p1] D cy [] sz (fun u => True) (fun u => []) 0 0 := by
  refine q_ent (own := RJ0) (by decide) rfl (Nat.le_of_ble_eq_true rfl) (fun p e s m below meth c ls X hr hlk hnm hK hT h hA hl => ?_)
  obtain ⟨hx, hb, hml, hown, ht⟩ := id X
  replace hl : lv_has ls 2 [(0, .int p0), (1, .int p1)] := hl
  refine lv_iload_n hx hb dJ0_checkIndex_df160_0 rfl (lv_at hl 0 rfl) ?_
  refine lv_iload_n hx hb dJ0_checkIndex_df160_1 rfl (lv_at hl 1 rfl) ?_
  refine q_sgetF X hT h wm_2_218 dJ0_checkIndex_df160_2 ?_ (fun t_1 => ?_)
  · skip
    refine q_callSi (rest := []) (wr := []) X hK hT hA h (fun sz => gJ3_checkIndex_8e157_1956ee9 l D cy p0 p1 ⟨by omega, by omega⟩ ⟨by omega, by omega⟩ (by omega) sz) wm_2_220 wm_2_222 wm_1_16 hd_J3_checkIndex_8e157 wm_2_221 ⟨Nat.le_of_ble_eq_true rfl, Nat.le_of_ble_eq_true rfl⟩ hl.1 rfl (Nat.le_of_ble_eq_true rfl) dJ0_checkIndex_df160_5 ⟨Nat.le_of_ble_eq_true rfl, Nat.le_of_ble_eq_true rfl⟩ [] [] rfl rfl (by decide) rfl rfl (fun r_2 u_2 H locs w_2 h_2 => ?_)
    clear h
    obtain ⟨wr_2, _⟩ := w_2
    replace h_2 : qW D _ _ [] _ _ := h_2
    refine lv_pop hx hb dJ0_checkIndex_df160_8 rfl ?_
    exact q_vret X hr hlk hK h_2 (fun _ => 0, fun _ _ => 0, fun _ _ => 0) trivial [] rfl rfl dJ0_checkIndex_df160_9 (Nat.le_of_ble_eq_true rfl) (Nat.le_of_ble_eq_true rfl)
  · skip
    refine q_callSi (rest := []) (wr := []) X hK hT hA h (fun sz => gJ3_checkIndex_8e157_5c1c6ab l D cy p0 p1 t_1 ⟨by omega, by omega⟩ ⟨by omega, by omega⟩ (by omega) sz) wm_2_220 wm_2_222 wm_1_16 hd_J3_checkIndex_8e157 wm_2_221 ⟨Nat.le_of_ble_eq_true rfl, Nat.le_of_ble_eq_true rfl⟩ hl.1 rfl (Nat.le_of_ble_eq_true rfl) dJ0_checkIndex_df160_5 ⟨Nat.le_of_ble_eq_true rfl, Nat.le_of_ble_eq_true rfl⟩ [] [] rfl rfl (by decide) rfl rfl (fun r_3 u_3 H locs w_3 h_3 => ?_)
    clear h
    obtain ⟨wr_3, _⟩ := w_3
    replace h_3 : qW D _ _ [] _ _ := h_3
    refine lv_pop hx hb dJ0_checkIndex_df160_8 rfl ?_
    exact q_vret X hr hlk hK h_3 (fun _ => 0, fun _ _ => 0, fun _ _ => 0) trivial [] rfl rfl dJ0_checkIndex_df160_9 (Nat.le_of_ble_eq_true rfl) (Nat.le_of_ble_eq_true rfl)
