set_option maxHeartbeats 4000000 in
set_option maxRecDepth 100000 in
theorem lc_bar (l : Launch) {p : Program} {e : Env} {s : State} {m : MethodId} {below : List Frame} {meth : Method} {c : Code} {b : Nat} {xs : Nat → Int32} {D : va_G} {cy : Nat → ClassId} {H : Heap} {locs : List Loc} {ls : Array Slot} {x0 y0 : Nat} {u_0 u_1 : SS} (X : qX p s m #[Value.ref b] c cL_law 4 RL) (hr : meth.sig.returnType = ret) (hlk : meth.locks = false) (hX : va_X b 6 xs s s.heap) (hbl : b < s.heap.size) (hK : qK D cy s) (a1 a2 a3 a4 a5 : Int32) (e1 : xs (Int32.toNatClampNeg 1) = a1) (e2 : xs (Int32.toNatClampNeg 2) = a2) (e3 : xs (Int32.toNatClampNeg 3) = a3) (e4 : xs (Int32.toNatClampNeg 4) = a4) (e5 : xs (Int32.toNatClampNeg 5) = a5) (h : qW D (fun q => s.heap.size ≤ q) s.heap (wLaw cy x0 y0 u_0 u_1) H locs) (hl : lv_has ls 4 [(3, .int 0), (2, .ref y0), (1, .ref x0), (0, .ref b)]) : W p l e room_1 s m #[Value.ref b] below meth c H locs 99 25544 (lw_Z below #[Value.ref b] s) (F0 m 734 ls []) := by
  obtain ⟨hx, hb, hml, hown, ht⟩ := id X
  have hA : ∀ q : Nat, s.heap.size ≤ q → (fun q : Nat => s.heap.size ≤ q) q := fun _ h => h
  have hbA : ¬ (fun q : Nat => s.heap.size ≤ q) b := Nat.not_le.mpr hbl
  by_cases c_3563 : a2 ≤ (-1)
  · skip
    refine lv_aload_n hx hb dL_law_734 rfl (lv_at hl 2 rfl) ?_
    refine lv_aload_n hx hb dL_law_735 rfl (lv_at hl 3 rfl) ?_
    refine lv_iload_n hx hb dL_law_736 rfl (lv_at hl 0 rfl) ?_
    refine lv_iconst (v := 1) hx hb dL_law_737 (by decide) ?_
    refine lv_iadd hx hb dL_law_738 ?_
    refine q_c 1 (by decide +kernel) ?_
    refine va_sld X.1 X.2.1 hX hbl hbA h.2.2 (q_in (by decide +kernel)) dL_law_739 ?_
    refine q_c a1 e1 ?_
    refine lv_aload_n hx hb dL_law_740 rfl (lv_at hl 3 rfl) ?_
    refine lv_iload_n hx hb dL_law_741 rfl (lv_at hl 0 rfl) ?_
    refine lv_iconst (v := 2) hx hb dL_law_742 (by decide) ?_
    refine lv_iadd hx hb dL_law_743 ?_
    refine q_c 2 (by decide +kernel) ?_
    refine va_sld X.1 X.2.1 hX hbl hbA h.2.2 (q_in (by decide +kernel)) dL_law_744 ?_
    refine q_c a2 e2 ?_
    have g_3581 : a2 ≤ ((-1) : Int32) := by
      simp only [Int32.lt_iff_toInt_lt, Int32.le_iff_toInt_le, ← Int32.toInt_inj] at c_3563 ⊢
      have k_0 : ((-1) : Int32).toInt = -1 := by decide
      omega
    refine q_callVi (rest := []) (wr := [(y0, .inr (12, [.int 0, .ref (u_1.1 19), .ref (u_1.1 0), .ref (u_1.1 1), .ref (u_1.1 2), .int 0, .int 0, .int 0, .int 0, .int 0, .int 0, .int 0, .int 0, .int 0, .int (-1), .int 0, .ref (u_1.1 3), .ref (u_1.1 4), .ref (u_1.1 5), .ref (u_1.1 6), .ref (u_1.1 7), .int 0, .int 0, .ref (u_1.1 8), .ref (u_1.1 9), .ref (u_1.1 10), .int 0, .int 0, .ref (u_1.1 11), .ref (u_1.1 12), .ref (u_1.1 13), .ref (u_1.1 14), .ref (u_1.1 15), .int 0, .ref (u_1.1 16), .ref (u_1.1 17), .ref (u_1.1 18)]))]) X hK hA h (fun sz => kX11_bar_265 l D cy x0 a1 a2 (u_0.1 0) (u_0.1 1) (u_0.1 37) (u_0.1 39) (u_0.1 41) (u_0.1 43) (u_0.1 14) (u_0.1 15) (u_0.1 16) (u_0.1 17) (u_0.1 20) (u_0.1 24) (u_0.1 29) g_3581 sz) wm_4_186 wm_4_189 wm_1_1 hd_X11_bar wm_4_187 wm_4_188 (ci := 11) (q0 := 0) rfl rfl ⟨Nat.le_of_ble_eq_true rfl, Nat.le_of_ble_eq_true rfl⟩ hl.1 rfl (Nat.le_of_ble_eq_true rfl) dL_law_745 ⟨Nat.le_of_ble_eq_true rfl, Nat.le_of_ble_eq_true rfl⟩ [0] [78] rfl rfl (by decide) rfl rfl (fun r_3582 u_3582 Hp1 lc1 w_3582 hw1 => ?_)
    clear h
    obtain rfl : r_3582 = (-2) := w_3582
    replace hw1 : qW D _ _ [(y0, .inr (12, [.int 0, .ref (u_1.1 19), .ref (u_1.1 0), .ref (u_1.1 1), .ref (u_1.1 2), .int 0, .int 0, .int 0, .int 0, .int 0, .int 0, .int 0, .int 0, .int 0, .int (-1), .int 0, .ref (u_1.1 3), .ref (u_1.1 4), .ref (u_1.1 5), .ref (u_1.1 6), .ref (u_1.1 7), .int 0, .int 0, .ref (u_1.1 8), .ref (u_1.1 9), .ref (u_1.1 10), .int 0, .int 0, .ref (u_1.1 11), .ref (u_1.1 12), .ref (u_1.1 13), .ref (u_1.1 14), .ref (u_1.1 15), .int 0, .ref (u_1.1 16), .ref (u_1.1 17), .ref (u_1.1 18)]))] _ _ := hw1
    refine lv_aload_n hx hb dL_law_748 rfl (lv_at hl 1 rfl) ?_
    refine lv_aload_n hx hb dL_law_749 rfl (lv_at hl 3 rfl) ?_
    refine lv_iload_n hx hb dL_law_750 rfl (lv_at hl 0 rfl) ?_
    refine lv_iconst (v := 1) hx hb dL_law_751 (by decide) ?_
    refine lv_iadd hx hb dL_law_752 ?_
    refine q_c 1 (by decide +kernel) ?_
    refine va_sld X.1 X.2.1 hX hbl hbA hw1.2.2 (q_in (by decide +kernel)) dL_law_753 ?_
    refine q_c a1 e1 ?_
    refine lv_aload_n hx hb dL_law_754 rfl (lv_at hl 3 rfl) ?_
    refine lv_iload_n hx hb dL_law_755 rfl (lv_at hl 0 rfl) ?_
    refine lv_iconst (v := 2) hx hb dL_law_756 (by decide) ?_
    refine lv_iadd hx hb dL_law_757 ?_
    refine q_c 2 (by decide +kernel) ?_
    refine va_sld X.1 X.2.1 hX hbl hbA hw1.2.2 (q_in (by decide +kernel)) dL_law_758 ?_
    refine q_c a2 e2 ?_
    have g_3586 : a2 ≤ ((-1) : Int32) := by
      simp only [Int32.lt_iff_toInt_lt, Int32.le_iff_toInt_le, ← Int32.toInt_inj] at c_3563 ⊢
      have k_0 : ((-1) : Int32).toInt = -1 := by decide
      omega
    refine q_callVi (rest := [.int (-2)]) (wr := []) X hK hA hw1 (fun sz => kX12_bar_266 l D cy y0 a1 a2 (u_1.1 19) (u_1.1 0) (u_1.1 1) (u_1.1 2) (u_1.1 3) (u_1.1 4) (u_1.1 5) (u_1.1 6) (u_1.1 7) (u_1.1 8) (u_1.1 9) (u_1.1 10) (u_1.1 11) (u_1.1 12) (u_1.1 13) (u_1.1 14) (u_1.1 15) (u_1.1 16) (u_1.1 17) (u_1.1 18) g_3586 sz) wm_7_120 wm_7_123 wm_1_12 hd_X12_bar wm_7_121 wm_7_122 (ci := 12) (q0 := 0) rfl rfl ⟨Nat.le_of_ble_eq_true rfl, Nat.le_of_ble_eq_true rfl⟩ hl.1 rfl (Nat.le_of_ble_eq_true rfl) dL_law_759 ⟨Nat.le_of_ble_eq_true rfl, Nat.le_of_ble_eq_true rfl⟩ [0] [] rfl rfl (by decide) rfl rfl (fun r_3587 u_3587 Hp2 lc2 w_3587 hw2 => ?_)
    clear Hp1 lc1 hw1
    obtain rfl : r_3587 = (-2) := w_3587
    replace hw2 : qW D _ _ [] _ _ := hw2
    refine lv_icmp_eq (tgt := 1461) hx hb dL_law_762 (by decide) (fun _ => ?_) (fun c => absurd c (by decide +kernel))
    exact law_tail l X hr hlk hX hbl hw2.2.2 hl (Nat.le_of_ble_eq_true rfl) (Nat.le_of_ble_eq_true rfl)
  by_cases c_3588 : a2 = 0
  · subst c_3588
    by_cases c_3593 : a1 = 0
    · subst c_3593
      refine lv_aload_n hx hb dL_law_734 rfl (lv_at hl 2 rfl) ?_
      refine lv_aload_n hx hb dL_law_735 rfl (lv_at hl 3 rfl) ?_
      refine lv_iload_n hx hb dL_law_736 rfl (lv_at hl 0 rfl) ?_
      refine lv_iconst (v := 1) hx hb dL_law_737 (by decide) ?_
      refine lv_iadd hx hb dL_law_738 ?_
      refine q_c 1 (by decide +kernel) ?_
      refine va_sld X.1 X.2.1 hX hbl hbA h.2.2 (q_in (by decide +kernel)) dL_law_739 ?_
      refine q_c 0 e1 ?_
      refine lv_aload_n hx hb dL_law_740 rfl (lv_at hl 3 rfl) ?_
      refine lv_iload_n hx hb dL_law_741 rfl (lv_at hl 0 rfl) ?_
      refine lv_iconst (v := 2) hx hb dL_law_742 (by decide) ?_
      refine lv_iadd hx hb dL_law_743 ?_
      refine q_c 2 (by decide +kernel) ?_
      refine va_sld X.1 X.2.1 hX hbl hbA h.2.2 (q_in (by decide +kernel)) dL_law_744 ?_
      refine q_c 0 e2 ?_
      refine q_callVi (rest := []) (wr := [(y0, .inr (12, [.int 0, .ref (u_1.1 19), .ref (u_1.1 0), .ref (u_1.1 1), .ref (u_1.1 2), .int 0, .int 0, .int 0, .int 0, .int 0, .int 0, .int 0, .int 0, .int 0, .int (-1), .int 0, .ref (u_1.1 3), .ref (u_1.1 4), .ref (u_1.1 5), .ref (u_1.1 6), .ref (u_1.1 7), .int 0, .int 0, .ref (u_1.1 8), .ref (u_1.1 9), .ref (u_1.1 10), .int 0, .int 0, .ref (u_1.1 11), .ref (u_1.1 12), .ref (u_1.1 13), .ref (u_1.1 14), .ref (u_1.1 15), .int 0, .ref (u_1.1 16), .ref (u_1.1 17), .ref (u_1.1 18)])), ((u_1.1 9), .inl (cy 1, 10, .inl (fun _ => 0))), ((u_1.1 10), .inl (cy 1, 10, .inl (fun _ => 0))), ((u_1.1 19), .inl (cy 1, 3918, .inl (upd (fun _ => 0) (Int32.toNatClampNeg 1) 1)))]) X hK hA h (fun sz => kX11_bar_270 l D cy x0 (u_0.1 20) (u_0.1 21) (u_0.1 23) (u_0.1 31) (u_0.1 37) (u_0.1 0) (u_0.1 1) (u_0.1 39) (u_0.1 41) (u_0.1 43) (u_0.1 14) (u_0.1 15) (u_0.1 16) (u_0.1 17) (u_0.1 24) (u_0.1 29) (u_0.1 22) (u_0.1 32) (u_0.1 33) (u_0.1 34) (u_0.1 35) (u_0.1 36) (u_0.1 38)  sz) wm_4_186 wm_4_189 wm_1_1 hd_X11_bar wm_4_187 wm_4_188 (ci := 11) (q0 := 0) rfl rfl ⟨Nat.le_of_ble_eq_true rfl, Nat.le_of_ble_eq_true rfl⟩ hl.1 rfl (Nat.le_of_ble_eq_true rfl) dL_law_745 ⟨Nat.le_of_ble_eq_true rfl, Nat.le_of_ble_eq_true rfl⟩ [0, 21, 22, 24, 32, 38] [78, 88, 89, 98] rfl rfl (by decide) rfl rfl (fun r_3680 u_3680 Hp3 lc3 w_3680 hw3 => ?_)
      clear h
      obtain rfl : r_3680 = 0 := w_3680
      replace hw3 : qW D _ _ [(y0, .inr (12, [.int 0, .ref (u_1.1 19), .ref (u_1.1 0), .ref (u_1.1 1), .ref (u_1.1 2), .int 0, .int 0, .int 0, .int 0, .int 0, .int 0, .int 0, .int 0, .int 0, .int (-1), .int 0, .ref (u_1.1 3), .ref (u_1.1 4), .ref (u_1.1 5), .ref (u_1.1 6), .ref (u_1.1 7), .int 0, .int 0, .ref (u_1.1 8), .ref (u_1.1 9), .ref (u_1.1 10), .int 0, .int 0, .ref (u_1.1 11), .ref (u_1.1 12), .ref (u_1.1 13), .ref (u_1.1 14), .ref (u_1.1 15), .int 0, .ref (u_1.1 16), .ref (u_1.1 17), .ref (u_1.1 18)])), ((u_1.1 9), .inl (cy 1, 10, .inl (fun _ => 0))), ((u_1.1 10), .inl (cy 1, 10, .inl (fun _ => 0))), ((u_1.1 19), .inl (cy 1, 3918, .inl (upd (fun _ => 0) (Int32.toNatClampNeg 1) 1)))] _ _ := hw3
      refine lv_aload_n hx hb dL_law_748 rfl (lv_at hl 1 rfl) ?_
      refine lv_aload_n hx hb dL_law_749 rfl (lv_at hl 3 rfl) ?_
      refine lv_iload_n hx hb dL_law_750 rfl (lv_at hl 0 rfl) ?_
      refine lv_iconst (v := 1) hx hb dL_law_751 (by decide) ?_
      refine lv_iadd hx hb dL_law_752 ?_
      refine q_c 1 (by decide +kernel) ?_
      refine va_sld X.1 X.2.1 hX hbl hbA hw3.2.2 (q_in (by decide +kernel)) dL_law_753 ?_
      refine q_c 0 e1 ?_
      refine lv_aload_n hx hb dL_law_754 rfl (lv_at hl 3 rfl) ?_
      refine lv_iload_n hx hb dL_law_755 rfl (lv_at hl 0 rfl) ?_
      refine lv_iconst (v := 2) hx hb dL_law_756 (by decide) ?_
      refine lv_iadd hx hb dL_law_757 ?_
      refine q_c 2 (by decide +kernel) ?_
      refine va_sld X.1 X.2.1 hX hbl hbA hw3.2.2 (q_in (by decide +kernel)) dL_law_758 ?_
      refine q_c 0 e2 ?_
      refine q_callVi (rest := [.int 0]) (wr := []) X hK hA hw3 (fun sz => kX12_bar_273 l D cy y0 (u_1.1 9) (u_1.1 10) (u_1.1 19) (u_1.1 0) (u_1.1 1) (u_1.1 2) (u_1.1 3) (u_1.1 4) (u_1.1 5) (u_1.1 6) (u_1.1 7) (u_1.1 8) (u_1.1 11) (u_1.1 12) (u_1.1 13) (u_1.1 14) (u_1.1 15) (u_1.1 16) (u_1.1 17) (u_1.1 18) (upd (fun _ => 0) (Int32.toNatClampNeg 1) 1) (q_un (by decide +kernel) rfl) (q_un (by decide +kernel) rfl) sz) wm_7_120 wm_7_123 wm_1_12 hd_X12_bar wm_7_121 wm_7_122 (ci := 12) (q0 := 0) rfl rfl ⟨Nat.le_of_ble_eq_true rfl, Nat.le_of_ble_eq_true rfl⟩ hl.1 rfl (Nat.le_of_ble_eq_true rfl) dL_law_759 ⟨Nat.le_of_ble_eq_true rfl, Nat.le_of_ble_eq_true rfl⟩ [0, 1, 2, 3] [] rfl rfl (by decide) rfl rfl (fun r_3691 u_3691 Hp4 lc4 w_3691 hw4 => ?_)
      clear Hp3 lc3 hw3
      obtain rfl : r_3691 = 0 := w_3691
      replace hw4 : qW D _ _ [] _ _ := hw4
      refine lv_icmp_eq (tgt := 1461) hx hb dL_law_762 (by decide) (fun _ => ?_) (fun c => absurd c (by decide +kernel))
      exact law_tail l X hr hlk hX hbl hw4.2.2 hl (Nat.le_of_ble_eq_true rfl) (Nat.le_of_ble_eq_true rfl)
    refine lv_aload_n hx hb dL_law_734 rfl (lv_at hl 2 rfl) ?_
    refine lv_aload_n hx hb dL_law_735 rfl (lv_at hl 3 rfl) ?_
    refine lv_iload_n hx hb dL_law_736 rfl (lv_at hl 0 rfl) ?_
    refine lv_iconst (v := 1) hx hb dL_law_737 (by decide) ?_
    refine lv_iadd hx hb dL_law_738 ?_
    refine q_c 1 (by decide +kernel) ?_
    refine va_sld X.1 X.2.1 hX hbl hbA h.2.2 (q_in (by decide +kernel)) dL_law_739 ?_
    refine q_c a1 e1 ?_
    refine lv_aload_n hx hb dL_law_740 rfl (lv_at hl 3 rfl) ?_
    refine lv_iload_n hx hb dL_law_741 rfl (lv_at hl 0 rfl) ?_
    refine lv_iconst (v := 2) hx hb dL_law_742 (by decide) ?_
    refine lv_iadd hx hb dL_law_743 ?_
    refine q_c 2 (by decide +kernel) ?_
    refine va_sld X.1 X.2.1 hX hbl hbA h.2.2 (q_in (by decide +kernel)) dL_law_744 ?_
    refine q_c 0 e2 ?_
    have g_3724 : ¬ a1 = (0 : Int32) := by
      simp only [Int32.lt_iff_toInt_lt, Int32.le_iff_toInt_le, ← Int32.toInt_inj] at c_3593 ⊢
      have k_0 : (0 : Int32).toInt = 0 := by decide
      omega
    refine q_callVi (rest := []) (wr := [(y0, .inr (12, [.int 0, .ref (u_1.1 19), .ref (u_1.1 0), .ref (u_1.1 1), .ref (u_1.1 2), .int 0, .int 0, .int 0, .int 0, .int 0, .int 0, .int 0, .int 0, .int 0, .int (-1), .int 0, .ref (u_1.1 3), .ref (u_1.1 4), .ref (u_1.1 5), .ref (u_1.1 6), .ref (u_1.1 7), .int 0, .int 0, .ref (u_1.1 8), .ref (u_1.1 9), .ref (u_1.1 10), .int 0, .int 0, .ref (u_1.1 11), .ref (u_1.1 12), .ref (u_1.1 13), .ref (u_1.1 14), .ref (u_1.1 15), .int 0, .ref (u_1.1 16), .ref (u_1.1 17), .ref (u_1.1 18)])), ((u_1.1 19), .inl (cy 1, 3918, .inl (upd (fun _ => 0) (Int32.toNatClampNeg 1) 1)))]) X hK hA h (fun sz => kX11_bar_274 l D cy x0 (u_0.1 31) (u_0.1 37) a1 (u_0.1 0) (u_0.1 1) (u_0.1 39) (u_0.1 41) (u_0.1 43) (u_0.1 14) (u_0.1 15) (u_0.1 16) (u_0.1 17) (u_0.1 20) (u_0.1 24) (u_0.1 29) (u_0.1 32) (u_0.1 33) (u_0.1 34) (u_0.1 35) (u_0.1 36) (u_0.1 38) g_3724 sz) wm_4_186 wm_4_189 wm_1_1 hd_X11_bar wm_4_187 wm_4_188 (ci := 11) (q0 := 0) rfl rfl ⟨Nat.le_of_ble_eq_true rfl, Nat.le_of_ble_eq_true rfl⟩ hl.1 rfl (Nat.le_of_ble_eq_true rfl) dL_law_745 ⟨Nat.le_of_ble_eq_true rfl, Nat.le_of_ble_eq_true rfl⟩ [0, 32, 38] [78, 98] rfl rfl (by decide) rfl rfl (fun r_3725 u_3725 Hp5 lc5 w_3725 hw5 => ?_)
    clear h
    obtain rfl : r_3725 = (-3) := w_3725
    replace hw5 : qW D _ _ [(y0, .inr (12, [.int 0, .ref (u_1.1 19), .ref (u_1.1 0), .ref (u_1.1 1), .ref (u_1.1 2), .int 0, .int 0, .int 0, .int 0, .int 0, .int 0, .int 0, .int 0, .int 0, .int (-1), .int 0, .ref (u_1.1 3), .ref (u_1.1 4), .ref (u_1.1 5), .ref (u_1.1 6), .ref (u_1.1 7), .int 0, .int 0, .ref (u_1.1 8), .ref (u_1.1 9), .ref (u_1.1 10), .int 0, .int 0, .ref (u_1.1 11), .ref (u_1.1 12), .ref (u_1.1 13), .ref (u_1.1 14), .ref (u_1.1 15), .int 0, .ref (u_1.1 16), .ref (u_1.1 17), .ref (u_1.1 18)])), ((u_1.1 19), .inl (cy 1, 3918, .inl (upd (fun _ => 0) (Int32.toNatClampNeg 1) 1)))] _ _ := hw5
    refine lv_aload_n hx hb dL_law_748 rfl (lv_at hl 1 rfl) ?_
    refine lv_aload_n hx hb dL_law_749 rfl (lv_at hl 3 rfl) ?_
    refine lv_iload_n hx hb dL_law_750 rfl (lv_at hl 0 rfl) ?_
    refine lv_iconst (v := 1) hx hb dL_law_751 (by decide) ?_
    refine lv_iadd hx hb dL_law_752 ?_
    refine q_c 1 (by decide +kernel) ?_
    refine va_sld X.1 X.2.1 hX hbl hbA hw5.2.2 (q_in (by decide +kernel)) dL_law_753 ?_
    refine q_c a1 e1 ?_
    refine lv_aload_n hx hb dL_law_754 rfl (lv_at hl 3 rfl) ?_
    refine lv_iload_n hx hb dL_law_755 rfl (lv_at hl 0 rfl) ?_
    refine lv_iconst (v := 2) hx hb dL_law_756 (by decide) ?_
    refine lv_iadd hx hb dL_law_757 ?_
    refine q_c 2 (by decide +kernel) ?_
    refine va_sld X.1 X.2.1 hX hbl hbA hw5.2.2 (q_in (by decide +kernel)) dL_law_758 ?_
    refine q_c 0 e2 ?_
    have g_3731 : ¬ a1 = (0 : Int32) := by
      simp only [Int32.lt_iff_toInt_lt, Int32.le_iff_toInt_le, ← Int32.toInt_inj] at c_3593 ⊢
      have k_0 : (0 : Int32).toInt = 0 := by decide
      omega
    refine q_callVi (rest := [.int (-3)]) (wr := []) X hK hA hw5 (fun sz => kX12_bar_275 l D cy y0 (u_1.1 19) a1 (u_1.1 0) (u_1.1 1) (u_1.1 2) (u_1.1 3) (u_1.1 4) (u_1.1 5) (u_1.1 6) (u_1.1 7) (u_1.1 8) (u_1.1 9) (u_1.1 10) (u_1.1 11) (u_1.1 12) (u_1.1 13) (u_1.1 14) (u_1.1 15) (u_1.1 16) (u_1.1 17) (u_1.1 18) (upd (fun _ => 0) (Int32.toNatClampNeg 1) 1) g_3731 (q_un (by decide +kernel) rfl) sz) wm_7_120 wm_7_123 wm_1_12 hd_X12_bar wm_7_121 wm_7_122 (ci := 12) (q0 := 0) rfl rfl ⟨Nat.le_of_ble_eq_true rfl, Nat.le_of_ble_eq_true rfl⟩ hl.1 rfl (Nat.le_of_ble_eq_true rfl) dL_law_759 ⟨Nat.le_of_ble_eq_true rfl, Nat.le_of_ble_eq_true rfl⟩ [0, 1] [] rfl rfl (by decide) rfl rfl (fun r_3732 u_3732 Hp6 lc6 w_3732 hw6 => ?_)
    clear Hp5 lc5 hw5
    obtain rfl : r_3732 = (-3) := w_3732
    replace hw6 : qW D _ _ [] _ _ := hw6
    refine lv_icmp_eq (tgt := 1461) hx hb dL_law_762 (by decide) (fun _ => ?_) (fun c => absurd c (by decide +kernel))
    exact law_tail l X hr hlk hX hbl hw6.2.2 hl (Nat.le_of_ble_eq_true rfl) (Nat.le_of_ble_eq_true rfl)
  by_cases c_3733 : a2 = 1
  · subst c_3733
    by_cases c_3738 : a1 = 0
    · subst c_3738
      refine lv_aload_n hx hb dL_law_734 rfl (lv_at hl 2 rfl) ?_
      refine lv_aload_n hx hb dL_law_735 rfl (lv_at hl 3 rfl) ?_
      refine lv_iload_n hx hb dL_law_736 rfl (lv_at hl 0 rfl) ?_
      refine lv_iconst (v := 1) hx hb dL_law_737 (by decide) ?_
      refine lv_iadd hx hb dL_law_738 ?_
      refine q_c 1 (by decide +kernel) ?_
      refine va_sld X.1 X.2.1 hX hbl hbA h.2.2 (q_in (by decide +kernel)) dL_law_739 ?_
      refine q_c 0 e1 ?_
      refine lv_aload_n hx hb dL_law_740 rfl (lv_at hl 3 rfl) ?_
      refine lv_iload_n hx hb dL_law_741 rfl (lv_at hl 0 rfl) ?_
      refine lv_iconst (v := 2) hx hb dL_law_742 (by decide) ?_
      refine lv_iadd hx hb dL_law_743 ?_
      refine q_c 2 (by decide +kernel) ?_
      refine va_sld X.1 X.2.1 hX hbl hbA h.2.2 (q_in (by decide +kernel)) dL_law_744 ?_
      refine q_c 1 e2 ?_
      refine q_callVi (rest := []) (wr := [(y0, .inr (12, [.int 0, .ref (u_1.1 19), .ref (u_1.1 0), .ref (u_1.1 1), .ref (u_1.1 2), .int 0, .int 0, .int 0, .int 0, .int 0, .int 0, .int 0, .int 0, .int 0, .int (-1), .int 0, .ref (u_1.1 3), .ref (u_1.1 4), .ref (u_1.1 5), .ref (u_1.1 6), .ref (u_1.1 7), .int 0, .int 0, .ref (u_1.1 8), .ref (u_1.1 9), .ref (u_1.1 10), .int 0, .int 0, .ref (u_1.1 11), .ref (u_1.1 12), .ref (u_1.1 13), .ref (u_1.1 14), .ref (u_1.1 15), .int 0, .ref (u_1.1 16), .ref (u_1.1 17), .ref (u_1.1 18)])), ((u_1.1 9), .inl (cy 1, 10, .inl (fun _ => 0))), ((u_1.1 10), .inl (cy 1, 10, .inl (fun _ => 0))), ((u_1.1 19), .inl (cy 1, 3918, .inl (upd (fun _ => 0) (Int32.toNatClampNeg 1) 1)))]) X hK hA h (fun sz => kX11_bar_276 l D cy x0 (u_0.1 20) (u_0.1 21) (u_0.1 23) (u_0.1 31) (u_0.1 37) (u_0.1 0) (u_0.1 1) (u_0.1 39) (u_0.1 41) (u_0.1 43) (u_0.1 14) (u_0.1 15) (u_0.1 16) (u_0.1 17) (u_0.1 24) (u_0.1 29) (u_0.1 22) (u_0.1 32) (u_0.1 33) (u_0.1 34) (u_0.1 35) (u_0.1 36) (u_0.1 38)  sz) wm_4_186 wm_4_189 wm_1_1 hd_X11_bar wm_4_187 wm_4_188 (ci := 11) (q0 := 0) rfl rfl ⟨Nat.le_of_ble_eq_true rfl, Nat.le_of_ble_eq_true rfl⟩ hl.1 rfl (Nat.le_of_ble_eq_true rfl) dL_law_745 ⟨Nat.le_of_ble_eq_true rfl, Nat.le_of_ble_eq_true rfl⟩ [0, 21, 22, 24, 32, 38] [78, 88, 89, 98] rfl rfl (by decide) rfl rfl (fun r_3810 u_3810 Hp7 lc7 w_3810 hw7 => ?_)
      clear h
      obtain rfl : r_3810 = 0 := w_3810
      replace hw7 : qW D _ _ [(y0, .inr (12, [.int 0, .ref (u_1.1 19), .ref (u_1.1 0), .ref (u_1.1 1), .ref (u_1.1 2), .int 0, .int 0, .int 0, .int 0, .int 0, .int 0, .int 0, .int 0, .int 0, .int (-1), .int 0, .ref (u_1.1 3), .ref (u_1.1 4), .ref (u_1.1 5), .ref (u_1.1 6), .ref (u_1.1 7), .int 0, .int 0, .ref (u_1.1 8), .ref (u_1.1 9), .ref (u_1.1 10), .int 0, .int 0, .ref (u_1.1 11), .ref (u_1.1 12), .ref (u_1.1 13), .ref (u_1.1 14), .ref (u_1.1 15), .int 0, .ref (u_1.1 16), .ref (u_1.1 17), .ref (u_1.1 18)])), ((u_1.1 9), .inl (cy 1, 10, .inl (fun _ => 0))), ((u_1.1 10), .inl (cy 1, 10, .inl (fun _ => 0))), ((u_1.1 19), .inl (cy 1, 3918, .inl (upd (fun _ => 0) (Int32.toNatClampNeg 1) 1)))] _ _ := hw7
      refine lv_aload_n hx hb dL_law_748 rfl (lv_at hl 1 rfl) ?_
      refine lv_aload_n hx hb dL_law_749 rfl (lv_at hl 3 rfl) ?_
      refine lv_iload_n hx hb dL_law_750 rfl (lv_at hl 0 rfl) ?_
      refine lv_iconst (v := 1) hx hb dL_law_751 (by decide) ?_
      refine lv_iadd hx hb dL_law_752 ?_
      refine q_c 1 (by decide +kernel) ?_
      refine va_sld X.1 X.2.1 hX hbl hbA hw7.2.2 (q_in (by decide +kernel)) dL_law_753 ?_
      refine q_c 0 e1 ?_
      refine lv_aload_n hx hb dL_law_754 rfl (lv_at hl 3 rfl) ?_
      refine lv_iload_n hx hb dL_law_755 rfl (lv_at hl 0 rfl) ?_
      refine lv_iconst (v := 2) hx hb dL_law_756 (by decide) ?_
      refine lv_iadd hx hb dL_law_757 ?_
      refine q_c 2 (by decide +kernel) ?_
      refine va_sld X.1 X.2.1 hX hbl hbA hw7.2.2 (q_in (by decide +kernel)) dL_law_758 ?_
      refine q_c 1 e2 ?_
      refine q_callVi (rest := [.int 0]) (wr := []) X hK hA hw7 (fun sz => kX12_bar_277 l D cy y0 (u_1.1 9) (u_1.1 10) (u_1.1 19) (u_1.1 0) (u_1.1 1) (u_1.1 2) (u_1.1 3) (u_1.1 4) (u_1.1 5) (u_1.1 6) (u_1.1 7) (u_1.1 8) (u_1.1 11) (u_1.1 12) (u_1.1 13) (u_1.1 14) (u_1.1 15) (u_1.1 16) (u_1.1 17) (u_1.1 18) (upd (fun _ => 0) (Int32.toNatClampNeg 1) 1) (q_un (by decide +kernel) rfl) (q_un (by decide +kernel) rfl) sz) wm_7_120 wm_7_123 wm_1_12 hd_X12_bar wm_7_121 wm_7_122 (ci := 12) (q0 := 0) rfl rfl ⟨Nat.le_of_ble_eq_true rfl, Nat.le_of_ble_eq_true rfl⟩ hl.1 rfl (Nat.le_of_ble_eq_true rfl) dL_law_759 ⟨Nat.le_of_ble_eq_true rfl, Nat.le_of_ble_eq_true rfl⟩ [0, 1, 2, 3] [] rfl rfl (by decide) rfl rfl (fun r_3820 u_3820 Hp8 lc8 w_3820 hw8 => ?_)
      clear Hp7 lc7 hw7
      obtain rfl : r_3820 = 0 := w_3820
      replace hw8 : qW D _ _ [] _ _ := hw8
      refine lv_icmp_eq (tgt := 1461) hx hb dL_law_762 (by decide) (fun _ => ?_) (fun c => absurd c (by decide +kernel))
      exact law_tail l X hr hlk hX hbl hw8.2.2 hl (Nat.le_of_ble_eq_true rfl) (Nat.le_of_ble_eq_true rfl)
    refine lv_aload_n hx hb dL_law_734 rfl (lv_at hl 2 rfl) ?_
    refine lv_aload_n hx hb dL_law_735 rfl (lv_at hl 3 rfl) ?_
    refine lv_iload_n hx hb dL_law_736 rfl (lv_at hl 0 rfl) ?_
    refine lv_iconst (v := 1) hx hb dL_law_737 (by decide) ?_
    refine lv_iadd hx hb dL_law_738 ?_
    refine q_c 1 (by decide +kernel) ?_
    refine va_sld X.1 X.2.1 hX hbl hbA h.2.2 (q_in (by decide +kernel)) dL_law_739 ?_
    refine q_c a1 e1 ?_
    refine lv_aload_n hx hb dL_law_740 rfl (lv_at hl 3 rfl) ?_
    refine lv_iload_n hx hb dL_law_741 rfl (lv_at hl 0 rfl) ?_
    refine lv_iconst (v := 2) hx hb dL_law_742 (by decide) ?_
    refine lv_iadd hx hb dL_law_743 ?_
    refine q_c 2 (by decide +kernel) ?_
    refine va_sld X.1 X.2.1 hX hbl hbA h.2.2 (q_in (by decide +kernel)) dL_law_744 ?_
    refine q_c 1 e2 ?_
    have g_3853 : ¬ a1 = (0 : Int32) := by
      simp only [Int32.lt_iff_toInt_lt, Int32.le_iff_toInt_le, ← Int32.toInt_inj] at c_3738 ⊢
      have k_0 : (0 : Int32).toInt = 0 := by decide
      omega
    refine q_callVi (rest := []) (wr := [(y0, .inr (12, [.int 0, .ref (u_1.1 19), .ref (u_1.1 0), .ref (u_1.1 1), .ref (u_1.1 2), .int 0, .int 0, .int 0, .int 0, .int 0, .int 0, .int 0, .int 0, .int 0, .int (-1), .int 0, .ref (u_1.1 3), .ref (u_1.1 4), .ref (u_1.1 5), .ref (u_1.1 6), .ref (u_1.1 7), .int 0, .int 0, .ref (u_1.1 8), .ref (u_1.1 9), .ref (u_1.1 10), .int 0, .int 0, .ref (u_1.1 11), .ref (u_1.1 12), .ref (u_1.1 13), .ref (u_1.1 14), .ref (u_1.1 15), .int 0, .ref (u_1.1 16), .ref (u_1.1 17), .ref (u_1.1 18)])), ((u_1.1 19), .inl (cy 1, 3918, .inl (upd (fun _ => 0) (Int32.toNatClampNeg 1) 1)))]) X hK hA h (fun sz => kX11_bar_278 l D cy x0 (u_0.1 31) (u_0.1 37) a1 (u_0.1 0) (u_0.1 1) (u_0.1 39) (u_0.1 41) (u_0.1 43) (u_0.1 14) (u_0.1 15) (u_0.1 16) (u_0.1 17) (u_0.1 20) (u_0.1 24) (u_0.1 29) (u_0.1 32) (u_0.1 33) (u_0.1 34) (u_0.1 35) (u_0.1 36) (u_0.1 38) g_3853 sz) wm_4_186 wm_4_189 wm_1_1 hd_X11_bar wm_4_187 wm_4_188 (ci := 11) (q0 := 0) rfl rfl ⟨Nat.le_of_ble_eq_true rfl, Nat.le_of_ble_eq_true rfl⟩ hl.1 rfl (Nat.le_of_ble_eq_true rfl) dL_law_745 ⟨Nat.le_of_ble_eq_true rfl, Nat.le_of_ble_eq_true rfl⟩ [0, 32, 38] [78, 98] rfl rfl (by decide) rfl rfl (fun r_3854 u_3854 Hp9 lc9 w_3854 hw9 => ?_)
    clear h
    obtain rfl : r_3854 = (-3) := w_3854
    replace hw9 : qW D _ _ [(y0, .inr (12, [.int 0, .ref (u_1.1 19), .ref (u_1.1 0), .ref (u_1.1 1), .ref (u_1.1 2), .int 0, .int 0, .int 0, .int 0, .int 0, .int 0, .int 0, .int 0, .int 0, .int (-1), .int 0, .ref (u_1.1 3), .ref (u_1.1 4), .ref (u_1.1 5), .ref (u_1.1 6), .ref (u_1.1 7), .int 0, .int 0, .ref (u_1.1 8), .ref (u_1.1 9), .ref (u_1.1 10), .int 0, .int 0, .ref (u_1.1 11), .ref (u_1.1 12), .ref (u_1.1 13), .ref (u_1.1 14), .ref (u_1.1 15), .int 0, .ref (u_1.1 16), .ref (u_1.1 17), .ref (u_1.1 18)])), ((u_1.1 19), .inl (cy 1, 3918, .inl (upd (fun _ => 0) (Int32.toNatClampNeg 1) 1)))] _ _ := hw9
    refine lv_aload_n hx hb dL_law_748 rfl (lv_at hl 1 rfl) ?_
    refine lv_aload_n hx hb dL_law_749 rfl (lv_at hl 3 rfl) ?_
    refine lv_iload_n hx hb dL_law_750 rfl (lv_at hl 0 rfl) ?_
    refine lv_iconst (v := 1) hx hb dL_law_751 (by decide) ?_
    refine lv_iadd hx hb dL_law_752 ?_
    refine q_c 1 (by decide +kernel) ?_
    refine va_sld X.1 X.2.1 hX hbl hbA hw9.2.2 (q_in (by decide +kernel)) dL_law_753 ?_
    refine q_c a1 e1 ?_
    refine lv_aload_n hx hb dL_law_754 rfl (lv_at hl 3 rfl) ?_
    refine lv_iload_n hx hb dL_law_755 rfl (lv_at hl 0 rfl) ?_
    refine lv_iconst (v := 2) hx hb dL_law_756 (by decide) ?_
    refine lv_iadd hx hb dL_law_757 ?_
    refine q_c 2 (by decide +kernel) ?_
    refine va_sld X.1 X.2.1 hX hbl hbA hw9.2.2 (q_in (by decide +kernel)) dL_law_758 ?_
    refine q_c 1 e2 ?_
    have g_3860 : ¬ a1 = (0 : Int32) := by
      simp only [Int32.lt_iff_toInt_lt, Int32.le_iff_toInt_le, ← Int32.toInt_inj] at c_3738 ⊢
      have k_0 : (0 : Int32).toInt = 0 := by decide
      omega
    refine q_callVi (rest := [.int (-3)]) (wr := []) X hK hA hw9 (fun sz => kX12_bar_279 l D cy y0 (u_1.1 19) a1 (u_1.1 0) (u_1.1 1) (u_1.1 2) (u_1.1 3) (u_1.1 4) (u_1.1 5) (u_1.1 6) (u_1.1 7) (u_1.1 8) (u_1.1 9) (u_1.1 10) (u_1.1 11) (u_1.1 12) (u_1.1 13) (u_1.1 14) (u_1.1 15) (u_1.1 16) (u_1.1 17) (u_1.1 18) (upd (fun _ => 0) (Int32.toNatClampNeg 1) 1) g_3860 (q_un (by decide +kernel) rfl) sz) wm_7_120 wm_7_123 wm_1_12 hd_X12_bar wm_7_121 wm_7_122 (ci := 12) (q0 := 0) rfl rfl ⟨Nat.le_of_ble_eq_true rfl, Nat.le_of_ble_eq_true rfl⟩ hl.1 rfl (Nat.le_of_ble_eq_true rfl) dL_law_759 ⟨Nat.le_of_ble_eq_true rfl, Nat.le_of_ble_eq_true rfl⟩ [0, 1] [] rfl rfl (by decide) rfl rfl (fun r_3861 u_3861 Hp10 lc10 w_3861 hw10 => ?_)
    clear Hp9 lc9 hw9
    obtain rfl : r_3861 = (-3) := w_3861
    replace hw10 : qW D _ _ [] _ _ := hw10
    refine lv_icmp_eq (tgt := 1461) hx hb dL_law_762 (by decide) (fun _ => ?_) (fun c => absurd c (by decide +kernel))
    exact law_tail l X hr hlk hX hbl hw10.2.2 hl (Nat.le_of_ble_eq_true rfl) (Nat.le_of_ble_eq_true rfl)
  refine lv_aload_n hx hb dL_law_734 rfl (lv_at hl 2 rfl) ?_
  refine lv_aload_n hx hb dL_law_735 rfl (lv_at hl 3 rfl) ?_
  refine lv_iload_n hx hb dL_law_736 rfl (lv_at hl 0 rfl) ?_
  refine lv_iconst (v := 1) hx hb dL_law_737 (by decide) ?_
  refine lv_iadd hx hb dL_law_738 ?_
  refine q_c 1 (by decide +kernel) ?_
  refine va_sld X.1 X.2.1 hX hbl hbA h.2.2 (q_in (by decide +kernel)) dL_law_739 ?_
  refine q_c a1 e1 ?_
  refine lv_aload_n hx hb dL_law_740 rfl (lv_at hl 3 rfl) ?_
  refine lv_iload_n hx hb dL_law_741 rfl (lv_at hl 0 rfl) ?_
  refine lv_iconst (v := 2) hx hb dL_law_742 (by decide) ?_
  refine lv_iadd hx hb dL_law_743 ?_
  refine q_c 2 (by decide +kernel) ?_
  refine va_sld X.1 X.2.1 hX hbl hbA h.2.2 (q_in (by decide +kernel)) dL_law_744 ?_
  refine q_c a2 e2 ?_
  have g_3887 : (2 : Int32) ≤ a2 := by
    simp only [Int32.lt_iff_toInt_lt, Int32.le_iff_toInt_le, ← Int32.toInt_inj] at c_3563 c_3588 c_3733 ⊢
    have k_0 : ((-1) : Int32).toInt = -1 := by decide
    have k_1 : (0 : Int32).toInt = 0 := by decide
    have k_2 : (1 : Int32).toInt = 1 := by decide
    have k_g : (2 : Int32).toInt = 2 := by decide
    omega
  refine q_callVi (rest := []) (wr := [(y0, .inr (12, [.int 0, .ref (u_1.1 19), .ref (u_1.1 0), .ref (u_1.1 1), .ref (u_1.1 2), .int 0, .int 0, .int 0, .int 0, .int 0, .int 0, .int 0, .int 0, .int 0, .int (-1), .int 0, .ref (u_1.1 3), .ref (u_1.1 4), .ref (u_1.1 5), .ref (u_1.1 6), .ref (u_1.1 7), .int 0, .int 0, .ref (u_1.1 8), .ref (u_1.1 9), .ref (u_1.1 10), .int 0, .int 0, .ref (u_1.1 11), .ref (u_1.1 12), .ref (u_1.1 13), .ref (u_1.1 14), .ref (u_1.1 15), .int 0, .ref (u_1.1 16), .ref (u_1.1 17), .ref (u_1.1 18)]))]) X hK hA h (fun sz => kX11_bar_280 l D cy x0 a1 a2 (u_0.1 0) (u_0.1 1) (u_0.1 37) (u_0.1 39) (u_0.1 41) (u_0.1 43) (u_0.1 14) (u_0.1 15) (u_0.1 16) (u_0.1 17) (u_0.1 20) (u_0.1 24) (u_0.1 29) g_3887 sz) wm_4_186 wm_4_189 wm_1_1 hd_X11_bar wm_4_187 wm_4_188 (ci := 11) (q0 := 0) rfl rfl ⟨Nat.le_of_ble_eq_true rfl, Nat.le_of_ble_eq_true rfl⟩ hl.1 rfl (Nat.le_of_ble_eq_true rfl) dL_law_745 ⟨Nat.le_of_ble_eq_true rfl, Nat.le_of_ble_eq_true rfl⟩ [0] [78] rfl rfl (by decide) rfl rfl (fun r_3888 u_3888 Hp11 lc11 w_3888 hw11 => ?_)
  clear h
  obtain rfl : r_3888 = (-2) := w_3888
  replace hw11 : qW D _ _ [(y0, .inr (12, [.int 0, .ref (u_1.1 19), .ref (u_1.1 0), .ref (u_1.1 1), .ref (u_1.1 2), .int 0, .int 0, .int 0, .int 0, .int 0, .int 0, .int 0, .int 0, .int 0, .int (-1), .int 0, .ref (u_1.1 3), .ref (u_1.1 4), .ref (u_1.1 5), .ref (u_1.1 6), .ref (u_1.1 7), .int 0, .int 0, .ref (u_1.1 8), .ref (u_1.1 9), .ref (u_1.1 10), .int 0, .int 0, .ref (u_1.1 11), .ref (u_1.1 12), .ref (u_1.1 13), .ref (u_1.1 14), .ref (u_1.1 15), .int 0, .ref (u_1.1 16), .ref (u_1.1 17), .ref (u_1.1 18)]))] _ _ := hw11
  refine lv_aload_n hx hb dL_law_748 rfl (lv_at hl 1 rfl) ?_
  refine lv_aload_n hx hb dL_law_749 rfl (lv_at hl 3 rfl) ?_
  refine lv_iload_n hx hb dL_law_750 rfl (lv_at hl 0 rfl) ?_
  refine lv_iconst (v := 1) hx hb dL_law_751 (by decide) ?_
  refine lv_iadd hx hb dL_law_752 ?_
  refine q_c 1 (by decide +kernel) ?_
  refine va_sld X.1 X.2.1 hX hbl hbA hw11.2.2 (q_in (by decide +kernel)) dL_law_753 ?_
  refine q_c a1 e1 ?_
  refine lv_aload_n hx hb dL_law_754 rfl (lv_at hl 3 rfl) ?_
  refine lv_iload_n hx hb dL_law_755 rfl (lv_at hl 0 rfl) ?_
  refine lv_iconst (v := 2) hx hb dL_law_756 (by decide) ?_
  refine lv_iadd hx hb dL_law_757 ?_
  refine q_c 2 (by decide +kernel) ?_
  refine va_sld X.1 X.2.1 hX hbl hbA hw11.2.2 (q_in (by decide +kernel)) dL_law_758 ?_
  refine q_c a2 e2 ?_
  have g_3893 : (2 : Int32) ≤ a2 := by
    simp only [Int32.lt_iff_toInt_lt, Int32.le_iff_toInt_le, ← Int32.toInt_inj] at c_3563 c_3588 c_3733 ⊢
    have k_0 : ((-1) : Int32).toInt = -1 := by decide
    have k_1 : (0 : Int32).toInt = 0 := by decide
    have k_2 : (1 : Int32).toInt = 1 := by decide
    have k_g : (2 : Int32).toInt = 2 := by decide
    omega
  refine q_callVi (rest := [.int (-2)]) (wr := []) X hK hA hw11 (fun sz => kX12_bar_282 l D cy y0 a1 a2 (u_1.1 19) (u_1.1 0) (u_1.1 1) (u_1.1 2) (u_1.1 3) (u_1.1 4) (u_1.1 5) (u_1.1 6) (u_1.1 7) (u_1.1 8) (u_1.1 9) (u_1.1 10) (u_1.1 11) (u_1.1 12) (u_1.1 13) (u_1.1 14) (u_1.1 15) (u_1.1 16) (u_1.1 17) (u_1.1 18) g_3893 sz) wm_7_120 wm_7_123 wm_1_12 hd_X12_bar wm_7_121 wm_7_122 (ci := 12) (q0 := 0) rfl rfl ⟨Nat.le_of_ble_eq_true rfl, Nat.le_of_ble_eq_true rfl⟩ hl.1 rfl (Nat.le_of_ble_eq_true rfl) dL_law_759 ⟨Nat.le_of_ble_eq_true rfl, Nat.le_of_ble_eq_true rfl⟩ [0] [] rfl rfl (by decide) rfl rfl (fun r_3894 u_3894 Hp12 lc12 w_3894 hw12 => ?_)
  clear Hp11 lc11 hw11
  obtain rfl : r_3894 = (-2) := w_3894
  replace hw12 : qW D _ _ [] _ _ := hw12
  refine lv_icmp_eq (tgt := 1461) hx hb dL_law_762 (by decide) (fun _ => ?_) (fun c => absurd c (by decide +kernel))
  exact law_tail l X hr hlk hX hbl hw12.2.2 hl (Nat.le_of_ble_eq_true rfl) (Nat.le_of_ble_eq_true rfl)
set_option maxHeartbeats 4000000 in
set_option maxRecDepth 100000 in
theorem lc_pieces (l : Launch) {p : Program} {e : Env} {s : State} {m : MethodId} {below : List Frame} {meth : Method} {c : Code} {b : Nat} {xs : Nat → Int32} {D : va_G} {cy : Nat → ClassId} {H : Heap} {locs : List Loc} {ls : Array Slot} {x0 y0 : Nat} {u_0 u_1 : SS} (X : qX p s m #[Value.ref b] c cL_law 4 RL) (hr : meth.sig.returnType = ret) (hlk : meth.locks = false) (hX : va_X b 6 xs s s.heap) (hbl : b < s.heap.size) (hK : qK D cy s) (a1 a2 a3 a4 a5 : Int32) (e1 : xs (Int32.toNatClampNeg 1) = a1) (e2 : xs (Int32.toNatClampNeg 2) = a2) (e3 : xs (Int32.toNatClampNeg 3) = a3) (e4 : xs (Int32.toNatClampNeg 4) = a4) (e5 : xs (Int32.toNatClampNeg 5) = a5) (h : qW D (fun q => s.heap.size ≤ q) s.heap (wLaw cy x0 y0 u_0 u_1) H locs) (hl : lv_has ls 4 [(3, .int 0), (2, .ref y0), (1, .ref x0), (0, .ref b)]) : W p l e room_1 s m #[Value.ref b] below meth c H locs 99 25544 (lw_Z below #[Value.ref b] s) (F0 m 767 ls []) := by
  obtain ⟨hx, hb, hml, hown, ht⟩ := id X
  have hA : ∀ q : Nat, s.heap.size ≤ q → (fun q : Nat => s.heap.size ≤ q) q := fun _ h => h
  have hbA : ¬ (fun q : Nat => s.heap.size ≤ q) b := Nat.not_le.mpr hbl
  by_cases c_3899 : a1 = 0
  · subst c_3899
    refine lv_aload_n hx hb dL_law_767 rfl (lv_at hl 2 rfl) ?_
    refine lv_aload_n hx hb dL_law_768 rfl (lv_at hl 3 rfl) ?_
    refine lv_iload_n hx hb dL_law_769 rfl (lv_at hl 0 rfl) ?_
    refine lv_iconst (v := 1) hx hb dL_law_770 (by decide) ?_
    refine lv_iadd hx hb dL_law_771 ?_
    refine q_c 1 (by decide +kernel) ?_
    refine va_sld X.1 X.2.1 hX hbl hbA h.2.2 (q_in (by decide +kernel)) dL_law_772 ?_
    refine q_c 0 e1 ?_
    refine q_callVi (rest := []) (wr := [(y0, .inr (12, [.int 0, .ref (u_1.1 19), .ref (u_1.1 0), .ref (u_1.1 1), .ref (u_1.1 2), .int 0, .int 0, .int 0, .int 0, .int 0, .int 0, .int 0, .int 0, .int 0, .int (-1), .int 0, .ref (u_1.1 3), .ref (u_1.1 4), .ref (u_1.1 5), .ref (u_1.1 6), .ref (u_1.1 7), .int 0, .int 0, .ref (u_1.1 8), .ref (u_1.1 9), .ref (u_1.1 10), .int 0, .int 0, .ref (u_1.1 11), .ref (u_1.1 12), .ref (u_1.1 13), .ref (u_1.1 14), .ref (u_1.1 15), .int 0, .ref (u_1.1 16), .ref (u_1.1 17), .ref (u_1.1 18)])), ((u_1.1 19), .inl (cy 1, 3918, .inl (upd (fun _ => 0) (Int32.toNatClampNeg 1) 1)))]) X hK hA h (fun sz => kX11_pieces_284 l D cy x0 (u_0.1 20) (u_0.1 21) (u_0.1 31) (u_0.1 37) (u_0.1 0) (u_0.1 1) (u_0.1 39) (u_0.1 41) (u_0.1 43) (u_0.1 14) (u_0.1 15) (u_0.1 16) (u_0.1 17) (u_0.1 24) (u_0.1 29) (u_0.1 22) (u_0.1 23) (u_0.1 32) (u_0.1 33) (u_0.1 34) (u_0.1 35) (u_0.1 36) (u_0.1 38)  sz) wm_4_203 wm_4_206 wm_1_1 hd_X11_pieces wm_4_204 wm_4_205 (ci := 11) (q0 := 0) rfl rfl ⟨Nat.le_of_ble_eq_true rfl, Nat.le_of_ble_eq_true rfl⟩ hl.1 rfl (Nat.le_of_ble_eq_true rfl) dL_law_773 ⟨Nat.le_of_ble_eq_true rfl, Nat.le_of_ble_eq_true rfl⟩ [0, 21, 22, 32, 38] [78, 98] rfl rfl (by decide) rfl rfl (fun r_3936 u_3936 Hp1 lc1 w_3936 hw1 => ?_)
    clear h
    obtain rfl : r_3936 = 0 := w_3936
    replace hw1 : qW D _ _ [(y0, .inr (12, [.int 0, .ref (u_1.1 19), .ref (u_1.1 0), .ref (u_1.1 1), .ref (u_1.1 2), .int 0, .int 0, .int 0, .int 0, .int 0, .int 0, .int 0, .int 0, .int 0, .int (-1), .int 0, .ref (u_1.1 3), .ref (u_1.1 4), .ref (u_1.1 5), .ref (u_1.1 6), .ref (u_1.1 7), .int 0, .int 0, .ref (u_1.1 8), .ref (u_1.1 9), .ref (u_1.1 10), .int 0, .int 0, .ref (u_1.1 11), .ref (u_1.1 12), .ref (u_1.1 13), .ref (u_1.1 14), .ref (u_1.1 15), .int 0, .ref (u_1.1 16), .ref (u_1.1 17), .ref (u_1.1 18)])), ((u_1.1 19), .inl (cy 1, 3918, .inl (upd (fun _ => 0) (Int32.toNatClampNeg 1) 1)))] _ _ := hw1
    refine lv_aload_n hx hb dL_law_776 rfl (lv_at hl 1 rfl) ?_
    refine lv_aload_n hx hb dL_law_777 rfl (lv_at hl 3 rfl) ?_
    refine lv_iload_n hx hb dL_law_778 rfl (lv_at hl 0 rfl) ?_
    refine lv_iconst (v := 1) hx hb dL_law_779 (by decide) ?_
    refine lv_iadd hx hb dL_law_780 ?_
    refine q_c 1 (by decide +kernel) ?_
    refine va_sld X.1 X.2.1 hX hbl hbA hw1.2.2 (q_in (by decide +kernel)) dL_law_781 ?_
    refine q_c 0 e1 ?_
    refine q_callVi (rest := [.int 0]) (wr := []) X hK hA hw1 (fun sz => kX12_pieces_286 l D cy y0 (u_1.1 19) (u_1.1 0) (u_1.1 1) (u_1.1 2) (u_1.1 3) (u_1.1 4) (u_1.1 5) (u_1.1 6) (u_1.1 7) (u_1.1 8) (u_1.1 9) (u_1.1 10) (u_1.1 11) (u_1.1 12) (u_1.1 13) (u_1.1 14) (u_1.1 15) (u_1.1 16) (u_1.1 17) (u_1.1 18) (upd (fun _ => 0) (Int32.toNatClampNeg 1) 1) (q_un (by decide +kernel) rfl) (q_un (by decide +kernel) rfl) sz) wm_7_132 wm_7_135 wm_1_12 hd_X12_pieces wm_7_133 wm_7_134 (ci := 12) (q0 := 0) rfl rfl ⟨Nat.le_of_ble_eq_true rfl, Nat.le_of_ble_eq_true rfl⟩ hl.1 rfl (Nat.le_of_ble_eq_true rfl) dL_law_782 ⟨Nat.le_of_ble_eq_true rfl, Nat.le_of_ble_eq_true rfl⟩ [0, 1] [] rfl rfl (by decide) rfl rfl (fun r_3941 u_3941 Hp2 lc2 w_3941 hw2 => ?_)
    clear Hp1 lc1 hw1
    obtain rfl : r_3941 = 0 := w_3941
    replace hw2 : qW D _ _ [] _ _ := hw2
    refine lv_icmp_eq (tgt := 1461) hx hb dL_law_785 (by decide) (fun _ => ?_) (fun c => absurd c (by decide +kernel))
    exact law_tail l X hr hlk hX hbl hw2.2.2 hl (Nat.le_of_ble_eq_true rfl) (Nat.le_of_ble_eq_true rfl)
  refine lv_aload_n hx hb dL_law_767 rfl (lv_at hl 2 rfl) ?_
  refine lv_aload_n hx hb dL_law_768 rfl (lv_at hl 3 rfl) ?_
  refine lv_iload_n hx hb dL_law_769 rfl (lv_at hl 0 rfl) ?_
  refine lv_iconst (v := 1) hx hb dL_law_770 (by decide) ?_
  refine lv_iadd hx hb dL_law_771 ?_
  refine q_c 1 (by decide +kernel) ?_
  refine va_sld X.1 X.2.1 hX hbl hbA h.2.2 (q_in (by decide +kernel)) dL_law_772 ?_
  refine q_c a1 e1 ?_
  have g_3971 : ¬ a1 = (0 : Int32) := by
    simp only [Int32.lt_iff_toInt_lt, Int32.le_iff_toInt_le, ← Int32.toInt_inj] at c_3899 ⊢
    have k_0 : (0 : Int32).toInt = 0 := by decide
    omega
  refine q_callVi (rest := []) (wr := [(y0, .inr (12, [.int 0, .ref (u_1.1 19), .ref (u_1.1 0), .ref (u_1.1 1), .ref (u_1.1 2), .int 0, .int 0, .int 0, .int 0, .int 0, .int 0, .int 0, .int 0, .int 0, .int (-1), .int 0, .ref (u_1.1 3), .ref (u_1.1 4), .ref (u_1.1 5), .ref (u_1.1 6), .ref (u_1.1 7), .int 0, .int 0, .ref (u_1.1 8), .ref (u_1.1 9), .ref (u_1.1 10), .int 0, .int 0, .ref (u_1.1 11), .ref (u_1.1 12), .ref (u_1.1 13), .ref (u_1.1 14), .ref (u_1.1 15), .int 0, .ref (u_1.1 16), .ref (u_1.1 17), .ref (u_1.1 18)])), ((u_1.1 19), .inl (cy 1, 3918, .inl (upd (fun _ => 0) (Int32.toNatClampNeg 1) 1)))]) X hK hA h (fun sz => kX11_pieces_287 l D cy x0 (u_0.1 31) (u_0.1 37) a1 (u_0.1 0) (u_0.1 1) (u_0.1 39) (u_0.1 41) (u_0.1 43) (u_0.1 14) (u_0.1 15) (u_0.1 16) (u_0.1 17) (u_0.1 20) (u_0.1 24) (u_0.1 29) (u_0.1 32) (u_0.1 33) (u_0.1 34) (u_0.1 35) (u_0.1 36) (u_0.1 38) g_3971 sz) wm_4_203 wm_4_206 wm_1_1 hd_X11_pieces wm_4_204 wm_4_205 (ci := 11) (q0 := 0) rfl rfl ⟨Nat.le_of_ble_eq_true rfl, Nat.le_of_ble_eq_true rfl⟩ hl.1 rfl (Nat.le_of_ble_eq_true rfl) dL_law_773 ⟨Nat.le_of_ble_eq_true rfl, Nat.le_of_ble_eq_true rfl⟩ [0, 32, 38] [78, 98] rfl rfl (by decide) rfl rfl (fun r_3972 u_3972 Hp3 lc3 w_3972 hw3 => ?_)
  clear h
  obtain rfl : r_3972 = (-3) := w_3972
  replace hw3 : qW D _ _ [(y0, .inr (12, [.int 0, .ref (u_1.1 19), .ref (u_1.1 0), .ref (u_1.1 1), .ref (u_1.1 2), .int 0, .int 0, .int 0, .int 0, .int 0, .int 0, .int 0, .int 0, .int 0, .int (-1), .int 0, .ref (u_1.1 3), .ref (u_1.1 4), .ref (u_1.1 5), .ref (u_1.1 6), .ref (u_1.1 7), .int 0, .int 0, .ref (u_1.1 8), .ref (u_1.1 9), .ref (u_1.1 10), .int 0, .int 0, .ref (u_1.1 11), .ref (u_1.1 12), .ref (u_1.1 13), .ref (u_1.1 14), .ref (u_1.1 15), .int 0, .ref (u_1.1 16), .ref (u_1.1 17), .ref (u_1.1 18)])), ((u_1.1 19), .inl (cy 1, 3918, .inl (upd (fun _ => 0) (Int32.toNatClampNeg 1) 1)))] _ _ := hw3
  refine lv_aload_n hx hb dL_law_776 rfl (lv_at hl 1 rfl) ?_
  refine lv_aload_n hx hb dL_law_777 rfl (lv_at hl 3 rfl) ?_
  refine lv_iload_n hx hb dL_law_778 rfl (lv_at hl 0 rfl) ?_
  refine lv_iconst (v := 1) hx hb dL_law_779 (by decide) ?_
  refine lv_iadd hx hb dL_law_780 ?_
  refine q_c 1 (by decide +kernel) ?_
  refine va_sld X.1 X.2.1 hX hbl hbA hw3.2.2 (q_in (by decide +kernel)) dL_law_781 ?_
  refine q_c a1 e1 ?_
  have g_3977 : ¬ a1 = (0 : Int32) := by
    simp only [Int32.lt_iff_toInt_lt, Int32.le_iff_toInt_le, ← Int32.toInt_inj] at c_3899 ⊢
    have k_0 : (0 : Int32).toInt = 0 := by decide
    omega
  refine q_callVi (rest := [.int (-3)]) (wr := []) X hK hA hw3 (fun sz => kX12_pieces_288 l D cy y0 (u_1.1 19) a1 (u_1.1 0) (u_1.1 1) (u_1.1 2) (u_1.1 3) (u_1.1 4) (u_1.1 5) (u_1.1 6) (u_1.1 7) (u_1.1 8) (u_1.1 9) (u_1.1 10) (u_1.1 11) (u_1.1 12) (u_1.1 13) (u_1.1 14) (u_1.1 15) (u_1.1 16) (u_1.1 17) (u_1.1 18) (upd (fun _ => 0) (Int32.toNatClampNeg 1) 1) g_3977 (q_un (by decide +kernel) rfl) sz) wm_7_132 wm_7_135 wm_1_12 hd_X12_pieces wm_7_133 wm_7_134 (ci := 12) (q0 := 0) rfl rfl ⟨Nat.le_of_ble_eq_true rfl, Nat.le_of_ble_eq_true rfl⟩ hl.1 rfl (Nat.le_of_ble_eq_true rfl) dL_law_782 ⟨Nat.le_of_ble_eq_true rfl, Nat.le_of_ble_eq_true rfl⟩ [0, 1] [] rfl rfl (by decide) rfl rfl (fun r_3978 u_3978 Hp4 lc4 w_3978 hw4 => ?_)
  clear Hp3 lc3 hw3
  obtain rfl : r_3978 = (-3) := w_3978
  replace hw4 : qW D _ _ [] _ _ := hw4
  refine lv_icmp_eq (tgt := 1461) hx hb dL_law_785 (by decide) (fun _ => ?_) (fun c => absurd c (by decide +kernel))
  exact law_tail l X hr hlk hX hbl hw4.2.2 hl (Nat.le_of_ble_eq_true rfl) (Nat.le_of_ble_eq_true rfl)
set_option maxHeartbeats 4000000 in
set_option maxRecDepth 100000 in
theorem lc_bestDay (l : Launch) {p : Program} {e : Env} {s : State} {m : MethodId} {below : List Frame} {meth : Method} {c : Code} {b : Nat} {xs : Nat → Int32} {D : va_G} {cy : Nat → ClassId} {H : Heap} {locs : List Loc} {ls : Array Slot} {x0 y0 : Nat} {u_0 u_1 : SS} (X : qX p s m #[Value.ref b] c cL_law 4 RL) (hr : meth.sig.returnType = ret) (hlk : meth.locks = false) (hX : va_X b 6 xs s s.heap) (hbl : b < s.heap.size) (hK : qK D cy s) (a1 a2 a3 a4 a5 : Int32) (e1 : xs (Int32.toNatClampNeg 1) = a1) (e2 : xs (Int32.toNatClampNeg 2) = a2) (e3 : xs (Int32.toNatClampNeg 3) = a3) (e4 : xs (Int32.toNatClampNeg 4) = a4) (e5 : xs (Int32.toNatClampNeg 5) = a5) (h : qW D (fun q => s.heap.size ≤ q) s.heap (wLaw cy x0 y0 u_0 u_1) H locs) (hl : lv_has ls 4 [(3, .int 0), (2, .ref y0), (1, .ref x0), (0, .ref b)]) : W p l e room_1 s m #[Value.ref b] below meth c H locs 99 25544 (lw_Z below #[Value.ref b] s) (F0 m 790 ls []) := by
  obtain ⟨hx, hb, hml, hown, ht⟩ := id X
  have hA : ∀ q : Nat, s.heap.size ≤ q → (fun q : Nat => s.heap.size ≤ q) q := fun _ h => h
  have hbA : ¬ (fun q : Nat => s.heap.size ≤ q) b := Nat.not_le.mpr hbl
  refine lv_aload_n hx hb dL_law_790 rfl (lv_at hl 2 rfl) ?_
  refine q_callVi (rest := []) (wr := [(y0, .inr (12, [.int 0, .ref (u_1.1 19), .ref (u_1.1 0), .ref (u_1.1 1), .ref (u_1.1 2), .int 0, .int 0, .int 0, .int 0, .int 0, .int 0, .int 0, .int 0, .int 0, .int (-1), .int 0, .ref (u_1.1 3), .ref (u_1.1 4), .ref (u_1.1 5), .ref (u_1.1 6), .ref (u_1.1 7), .int 0, .int 0, .ref (u_1.1 8), .ref (u_1.1 9), .ref (u_1.1 10), .int 0, .int 0, .ref (u_1.1 11), .ref (u_1.1 12), .ref (u_1.1 13), .ref (u_1.1 14), .ref (u_1.1 15), .int 0, .ref (u_1.1 16), .ref (u_1.1 17), .ref (u_1.1 18)])), ((u_1.1 9), .inl (cy 1, 10, .inl (fun _ => 0))), ((u_1.1 10), .inl (cy 1, 10, .inl (fun _ => 0))), ((u_1.1 19), .inl (cy 1, 3918, .inl (upd (fun _ => 0) (Int32.toNatClampNeg 1) 1)))]) X hK hA h (fun sz => kX11_bestDay_290 l D cy x0 (u_0.1 20) (u_0.1 21) (u_0.1 23) (u_0.1 31) (u_0.1 37) (u_0.1 0) (u_0.1 1) (u_0.1 39) (u_0.1 41) (u_0.1 43) (u_0.1 14) (u_0.1 15) (u_0.1 16) (u_0.1 17) (u_0.1 24) (u_0.1 29) (u_0.1 22) (u_0.1 32) (u_0.1 33) (u_0.1 34) (u_0.1 35) (u_0.1 36) (u_0.1 38)  sz) wm_4_208 wm_4_211 wm_1_1 hd_X11_bestDay wm_4_209 wm_4_210 (ci := 11) (q0 := 0) rfl rfl ⟨Nat.le_of_ble_eq_true rfl, Nat.le_of_ble_eq_true rfl⟩ hl.1 rfl (Nat.le_of_ble_eq_true rfl) dL_law_791 ⟨Nat.le_of_ble_eq_true rfl, Nat.le_of_ble_eq_true rfl⟩ [0, 21, 22, 24, 32, 38] [78, 88, 89, 98] rfl rfl (by decide) rfl rfl (fun r_6067 u_6067 Hp1 lc1 w_6067 hw1 => ?_)
  clear h
  obtain rfl : r_6067 = 0 := w_6067
  replace hw1 : qW D _ _ [(y0, .inr (12, [.int 0, .ref (u_1.1 19), .ref (u_1.1 0), .ref (u_1.1 1), .ref (u_1.1 2), .int 0, .int 0, .int 0, .int 0, .int 0, .int 0, .int 0, .int 0, .int 0, .int (-1), .int 0, .ref (u_1.1 3), .ref (u_1.1 4), .ref (u_1.1 5), .ref (u_1.1 6), .ref (u_1.1 7), .int 0, .int 0, .ref (u_1.1 8), .ref (u_1.1 9), .ref (u_1.1 10), .int 0, .int 0, .ref (u_1.1 11), .ref (u_1.1 12), .ref (u_1.1 13), .ref (u_1.1 14), .ref (u_1.1 15), .int 0, .ref (u_1.1 16), .ref (u_1.1 17), .ref (u_1.1 18)])), ((u_1.1 9), .inl (cy 1, 10, .inl (fun _ => 0))), ((u_1.1 10), .inl (cy 1, 10, .inl (fun _ => 0))), ((u_1.1 19), .inl (cy 1, 3918, .inl (upd (fun _ => 0) (Int32.toNatClampNeg 1) 1)))] _ _ := hw1
  refine lv_aload_n hx hb dL_law_794 rfl (lv_at hl 1 rfl) ?_
  refine q_callVi (rest := [.int 0]) (wr := []) X hK hA hw1 (fun sz => kX12_bestDay_297 l D cy y0 (u_1.1 9) (u_1.1 10) (u_1.1 19) (u_1.1 0) (u_1.1 1) (u_1.1 2) (u_1.1 3) (u_1.1 4) (u_1.1 5) (u_1.1 6) (u_1.1 7) (u_1.1 8) (u_1.1 11) (u_1.1 12) (u_1.1 13) (u_1.1 14) (u_1.1 15) (u_1.1 16) (u_1.1 17) (u_1.1 18) (upd (fun _ => 0) (Int32.toNatClampNeg 1) 1) (q_un (by decide +kernel) rfl) (q_un (by decide +kernel) rfl) (q_un (by decide +kernel) rfl) sz) wm_7_136 wm_7_139 wm_1_12 hd_X12_bestDay wm_7_137 wm_7_138 (ci := 12) (q0 := 0) rfl rfl ⟨Nat.le_of_ble_eq_true rfl, Nat.le_of_ble_eq_true rfl⟩ hl.1 rfl (Nat.le_of_ble_eq_true rfl) dL_law_795 ⟨Nat.le_of_ble_eq_true rfl, Nat.le_of_ble_eq_true rfl⟩ [0, 1, 2, 3] [] rfl rfl (by decide) rfl rfl (fun r_6468 u_6468 Hp2 lc2 w_6468 hw2 => ?_)
  clear Hp1 lc1 hw1
  obtain rfl : r_6468 = 0 := w_6468
  replace hw2 : qW D _ _ [] _ _ := hw2
  refine lv_icmp_eq (tgt := 1461) hx hb dL_law_798 (by decide) (fun _ => ?_) (fun c => absurd c (by decide +kernel))
  exact law_tail l X hr hlk hX hbl hw2.2.2 hl (Nat.le_of_ble_eq_true rfl) (Nat.le_of_ble_eq_true rfl)
set_option maxHeartbeats 4000000 in
set_option maxRecDepth 100000 in
theorem lc_firstDay (l : Launch) {p : Program} {e : Env} {s : State} {m : MethodId} {below : List Frame} {meth : Method} {c : Code} {b : Nat} {xs : Nat → Int32} {D : va_G} {cy : Nat → ClassId} {H : Heap} {locs : List Loc} {ls : Array Slot} {x0 y0 : Nat} {u_0 u_1 : SS} (X : qX p s m #[Value.ref b] c cL_law 4 RL) (hr : meth.sig.returnType = ret) (hlk : meth.locks = false) (hX : va_X b 6 xs s s.heap) (hbl : b < s.heap.size) (hK : qK D cy s) (a1 a2 a3 a4 a5 : Int32) (e1 : xs (Int32.toNatClampNeg 1) = a1) (e2 : xs (Int32.toNatClampNeg 2) = a2) (e3 : xs (Int32.toNatClampNeg 3) = a3) (e4 : xs (Int32.toNatClampNeg 4) = a4) (e5 : xs (Int32.toNatClampNeg 5) = a5) (h : qW D (fun q => s.heap.size ≤ q) s.heap (wLaw cy x0 y0 u_0 u_1) H locs) (hl : lv_has ls 4 [(3, .int 0), (2, .ref y0), (1, .ref x0), (0, .ref b)]) : W p l e room_1 s m #[Value.ref b] below meth c H locs 99 25544 (lw_Z below #[Value.ref b] s) (F0 m 803 ls []) := by
  obtain ⟨hx, hb, hml, hown, ht⟩ := id X
  have hA : ∀ q : Nat, s.heap.size ≤ q → (fun q : Nat => s.heap.size ≤ q) q := fun _ h => h
  have hbA : ¬ (fun q : Nat => s.heap.size ≤ q) b := Nat.not_le.mpr hbl
  refine lv_aload_n hx hb dL_law_803 rfl (lv_at hl 2 rfl) ?_
  refine q_callVi (rest := []) (wr := [(y0, .inr (12, [.int 0, .ref (u_1.1 19), .ref (u_1.1 0), .ref (u_1.1 1), .ref (u_1.1 2), .int 0, .int 0, .int 0, .int 0, .int 0, .int 0, .int 0, .int 0, .int 0, .int (-1), .int 0, .ref (u_1.1 3), .ref (u_1.1 4), .ref (u_1.1 5), .ref (u_1.1 6), .ref (u_1.1 7), .int 0, .int 0, .ref (u_1.1 8), .ref (u_1.1 9), .ref (u_1.1 10), .int 0, .int 0, .ref (u_1.1 11), .ref (u_1.1 12), .ref (u_1.1 13), .ref (u_1.1 14), .ref (u_1.1 15), .int 0, .ref (u_1.1 16), .ref (u_1.1 17), .ref (u_1.1 18)])), ((u_1.1 19), .inl (cy 1, 3918, .inl (upd (fun _ => 0) (Int32.toNatClampNeg 1) 1)))]) X hK hA h (fun sz => kX11_firstDay_298 l D cy x0 (u_0.1 20) (u_0.1 21) (u_0.1 31) (u_0.1 37) (u_0.1 0) (u_0.1 1) (u_0.1 39) (u_0.1 41) (u_0.1 43) (u_0.1 14) (u_0.1 15) (u_0.1 16) (u_0.1 17) (u_0.1 24) (u_0.1 29) (u_0.1 22) (u_0.1 23) (u_0.1 32) (u_0.1 33) (u_0.1 34) (u_0.1 35) (u_0.1 36) (u_0.1 38)  sz) wm_4_212 wm_4_215 wm_1_1 hd_X11_firstDay wm_4_213 wm_4_214 (ci := 11) (q0 := 0) rfl rfl ⟨Nat.le_of_ble_eq_true rfl, Nat.le_of_ble_eq_true rfl⟩ hl.1 rfl (Nat.le_of_ble_eq_true rfl) dL_law_804 ⟨Nat.le_of_ble_eq_true rfl, Nat.le_of_ble_eq_true rfl⟩ [0, 21, 22, 32, 38] [78, 98] rfl rfl (by decide) rfl rfl (fun r_7525 u_7525 Hp1 lc1 w_7525 hw1 => ?_)
  clear h
  obtain rfl : r_7525 = (-1) := w_7525
  replace hw1 : qW D _ _ [(y0, .inr (12, [.int 0, .ref (u_1.1 19), .ref (u_1.1 0), .ref (u_1.1 1), .ref (u_1.1 2), .int 0, .int 0, .int 0, .int 0, .int 0, .int 0, .int 0, .int 0, .int 0, .int (-1), .int 0, .ref (u_1.1 3), .ref (u_1.1 4), .ref (u_1.1 5), .ref (u_1.1 6), .ref (u_1.1 7), .int 0, .int 0, .ref (u_1.1 8), .ref (u_1.1 9), .ref (u_1.1 10), .int 0, .int 0, .ref (u_1.1 11), .ref (u_1.1 12), .ref (u_1.1 13), .ref (u_1.1 14), .ref (u_1.1 15), .int 0, .ref (u_1.1 16), .ref (u_1.1 17), .ref (u_1.1 18)])), ((u_1.1 19), .inl (cy 1, 3918, .inl (upd (fun _ => 0) (Int32.toNatClampNeg 1) 1)))] _ _ := hw1
  refine lv_aload_n hx hb dL_law_807 rfl (lv_at hl 1 rfl) ?_
  refine q_callVi (rest := [.int (-1)]) (wr := []) X hK hA hw1 (fun sz => kX12_firstDay_299 l D cy y0 (u_1.1 19) (u_1.1 0) (u_1.1 1) (u_1.1 2) (u_1.1 3) (u_1.1 4) (u_1.1 5) (u_1.1 6) (u_1.1 7) (u_1.1 8) (u_1.1 9) (u_1.1 10) (u_1.1 11) (u_1.1 12) (u_1.1 13) (u_1.1 14) (u_1.1 15) (u_1.1 16) (u_1.1 17) (u_1.1 18) (upd (fun _ => 0) (Int32.toNatClampNeg 1) 1) (q_un (by decide +kernel) rfl) (q_un (by decide +kernel) rfl) (q_un (by decide +kernel) rfl) sz) wm_7_140 wm_7_143 wm_1_12 hd_X12_firstDay wm_7_141 wm_7_142 (ci := 12) (q0 := 0) rfl rfl ⟨Nat.le_of_ble_eq_true rfl, Nat.le_of_ble_eq_true rfl⟩ hl.1 rfl (Nat.le_of_ble_eq_true rfl) dL_law_808 ⟨Nat.le_of_ble_eq_true rfl, Nat.le_of_ble_eq_true rfl⟩ [0, 1] [] rfl rfl (by decide) rfl rfl (fun r_7726 u_7726 Hp2 lc2 w_7726 hw2 => ?_)
  clear Hp1 lc1 hw1
  obtain rfl : r_7726 = (-1) := w_7726
  replace hw2 : qW D _ _ [] _ _ := hw2
  refine lv_icmp_eq (tgt := 1461) hx hb dL_law_811 (by decide) (fun _ => ?_) (fun c => absurd c (by decide +kernel))
  exact law_tail l X hr hlk hX hbl hw2.2.2 hl (Nat.le_of_ble_eq_true rfl) (Nat.le_of_ble_eq_true rfl)
set_option maxHeartbeats 4000000 in
set_option maxRecDepth 100000 in
theorem lc_quorum (l : Launch) {p : Program} {e : Env} {s : State} {m : MethodId} {below : List Frame} {meth : Method} {c : Code} {b : Nat} {xs : Nat → Int32} {D : va_G} {cy : Nat → ClassId} {H : Heap} {locs : List Loc} {ls : Array Slot} {x0 y0 : Nat} {u_0 u_1 : SS} (X : qX p s m #[Value.ref b] c cL_law 4 RL) (hr : meth.sig.returnType = ret) (hlk : meth.locks = false) (hX : va_X b 6 xs s s.heap) (hbl : b < s.heap.size) (hK : qK D cy s) (a1 a2 a3 a4 a5 : Int32) (e1 : xs (Int32.toNatClampNeg 1) = a1) (e2 : xs (Int32.toNatClampNeg 2) = a2) (e3 : xs (Int32.toNatClampNeg 3) = a3) (e4 : xs (Int32.toNatClampNeg 4) = a4) (e5 : xs (Int32.toNatClampNeg 5) = a5) (h : qW D (fun q => s.heap.size ≤ q) s.heap (wLaw cy x0 y0 u_0 u_1) H locs) (hl : lv_has ls 4 [(3, .int 0), (2, .ref y0), (1, .ref x0), (0, .ref b)]) : W p l e room_1 s m #[Value.ref b] below meth c H locs 99 25544 (lw_Z below #[Value.ref b] s) (F0 m 816 ls []) := by
  obtain ⟨hx, hb, hml, hown, ht⟩ := id X
  have hA : ∀ q : Nat, s.heap.size ≤ q → (fun q : Nat => s.heap.size ≤ q) q := fun _ h => h
  have hbA : ¬ (fun q : Nat => s.heap.size ≤ q) b := Nat.not_le.mpr hbl
  refine lv_aload_n hx hb dL_law_816 rfl (lv_at hl 2 rfl) ?_
  refine q_callVi (rest := []) (wr := [(y0, .inr (12, [.int 0, .ref (u_1.1 19), .ref (u_1.1 0), .ref (u_1.1 1), .ref (u_1.1 2), .int 0, .int 0, .int 0, .int 0, .int 0, .int 0, .int 0, .int 0, .int 0, .int (-1), .int 0, .ref (u_1.1 3), .ref (u_1.1 4), .ref (u_1.1 5), .ref (u_1.1 6), .ref (u_1.1 7), .int 0, .int 0, .ref (u_1.1 8), .ref (u_1.1 9), .ref (u_1.1 10), .int 0, .int 0, .ref (u_1.1 11), .ref (u_1.1 12), .ref (u_1.1 13), .ref (u_1.1 14), .ref (u_1.1 15), .int 0, .ref (u_1.1 16), .ref (u_1.1 17), .ref (u_1.1 18)])), ((u_1.1 8), .inl (cy 1, 1024, .inl (fun _ => 0))), ((u_1.1 19), .inl (cy 1, 3918, .inl (upd (fun _ => 0) (Int32.toNatClampNeg 1) 1)))]) X hK hA h (fun sz => kX11_quorum_302 l D cy x0 (u_0.1 20) (u_0.1 21) (u_0.1 22) (u_0.1 31) (u_0.1 37) (u_0.1 0) (u_0.1 1) (u_0.1 39) (u_0.1 41) (u_0.1 43) (u_0.1 14) (u_0.1 15) (u_0.1 16) (u_0.1 17) (u_0.1 24) (u_0.1 29) (u_0.1 23) (u_0.1 32) (u_0.1 33) (u_0.1 34) (u_0.1 35) (u_0.1 36) (u_0.1 38)  sz) wm_4_216 wm_4_219 wm_1_1 hd_X11_quorum wm_4_217 wm_4_218 (ci := 11) (q0 := 0) rfl rfl ⟨Nat.le_of_ble_eq_true rfl, Nat.le_of_ble_eq_true rfl⟩ hl.1 rfl (Nat.le_of_ble_eq_true rfl) dL_law_817 ⟨Nat.le_of_ble_eq_true rfl, Nat.le_of_ble_eq_true rfl⟩ [0, 21, 22, 23, 32, 38] [78, 87, 98] rfl rfl (by decide) rfl rfl (fun r_7790 u_7790 Hp1 lc1 w_7790 hw1 => ?_)
  clear h
  obtain rfl : r_7790 = 0 := w_7790
  replace hw1 : qW D _ _ [(y0, .inr (12, [.int 0, .ref (u_1.1 19), .ref (u_1.1 0), .ref (u_1.1 1), .ref (u_1.1 2), .int 0, .int 0, .int 0, .int 0, .int 0, .int 0, .int 0, .int 0, .int 0, .int (-1), .int 0, .ref (u_1.1 3), .ref (u_1.1 4), .ref (u_1.1 5), .ref (u_1.1 6), .ref (u_1.1 7), .int 0, .int 0, .ref (u_1.1 8), .ref (u_1.1 9), .ref (u_1.1 10), .int 0, .int 0, .ref (u_1.1 11), .ref (u_1.1 12), .ref (u_1.1 13), .ref (u_1.1 14), .ref (u_1.1 15), .int 0, .ref (u_1.1 16), .ref (u_1.1 17), .ref (u_1.1 18)])), ((u_1.1 8), .inl (cy 1, 1024, .inl (fun _ => 0))), ((u_1.1 19), .inl (cy 1, 3918, .inl (upd (fun _ => 0) (Int32.toNatClampNeg 1) 1)))] _ _ := hw1
  refine lv_aload_n hx hb dL_law_820 rfl (lv_at hl 1 rfl) ?_
  refine q_callVi (rest := [.int 0]) (wr := []) X hK hA hw1 (fun sz => kX12_quorum_307 l D cy y0 (u_1.1 8) (u_1.1 19) (u_1.1 0) (u_1.1 1) (u_1.1 2) (u_1.1 3) (u_1.1 4) (u_1.1 5) (u_1.1 6) (u_1.1 7) (u_1.1 9) (u_1.1 10) (u_1.1 11) (u_1.1 12) (u_1.1 13) (u_1.1 14) (u_1.1 15) (u_1.1 16) (u_1.1 17) (u_1.1 18) (upd (fun _ => 0) (Int32.toNatClampNeg 1) 1) (q_un (by decide +kernel) rfl) (q_un (by decide +kernel) rfl) (q_un (by decide +kernel) rfl) sz) wm_7_144 wm_7_147 wm_1_12 hd_X12_quorum wm_7_145 wm_7_146 (ci := 12) (q0 := 0) rfl rfl ⟨Nat.le_of_ble_eq_true rfl, Nat.le_of_ble_eq_true rfl⟩ hl.1 rfl (Nat.le_of_ble_eq_true rfl) dL_law_821 ⟨Nat.le_of_ble_eq_true rfl, Nat.le_of_ble_eq_true rfl⟩ [0, 1, 2] [] rfl rfl (by decide) rfl rfl (fun r_7798 u_7798 Hp2 lc2 w_7798 hw2 => ?_)
  clear Hp1 lc1 hw1
  obtain rfl : r_7798 = 0 := w_7798
  replace hw2 : qW D _ _ [] _ _ := hw2
  refine lv_icmp_eq (tgt := 1461) hx hb dL_law_824 (by decide) (fun _ => ?_) (fun c => absurd c (by decide +kernel))
  exact law_tail l X hr hlk hX hbl hw2.2.2 hl (Nat.le_of_ble_eq_true rfl) (Nat.le_of_ble_eq_true rfl)
set_option maxHeartbeats 4000000 in
set_option maxRecDepth 100000 in
theorem lc_cover (l : Launch) {p : Program} {e : Env} {s : State} {m : MethodId} {below : List Frame} {meth : Method} {c : Code} {b : Nat} {xs : Nat → Int32} {D : va_G} {cy : Nat → ClassId} {H : Heap} {locs : List Loc} {ls : Array Slot} {x0 y0 : Nat} {u_0 u_1 : SS} (X : qX p s m #[Value.ref b] c cL_law 4 RL) (hr : meth.sig.returnType = ret) (hlk : meth.locks = false) (hX : va_X b 6 xs s s.heap) (hbl : b < s.heap.size) (hK : qK D cy s) (a1 a2 a3 a4 a5 : Int32) (e1 : xs (Int32.toNatClampNeg 1) = a1) (e2 : xs (Int32.toNatClampNeg 2) = a2) (e3 : xs (Int32.toNatClampNeg 3) = a3) (e4 : xs (Int32.toNatClampNeg 4) = a4) (e5 : xs (Int32.toNatClampNeg 5) = a5) (h : qW D (fun q => s.heap.size ≤ q) s.heap (wLaw cy x0 y0 u_0 u_1) H locs) (hl : lv_has ls 4 [(3, .int 0), (2, .ref y0), (1, .ref x0), (0, .ref b)]) : W p l e room_1 s m #[Value.ref b] below meth c H locs 99 25544 (lw_Z below #[Value.ref b] s) (F0 m 829 ls []) := by
  obtain ⟨hx, hb, hml, hown, ht⟩ := id X
  have hA : ∀ q : Nat, s.heap.size ≤ q → (fun q : Nat => s.heap.size ≤ q) q := fun _ h => h
  have hbA : ¬ (fun q : Nat => s.heap.size ≤ q) b := Nat.not_le.mpr hbl
  by_cases c_7804 : a2 ≤ (-1)
  · skip
    refine lv_aload_n hx hb dL_law_829 rfl (lv_at hl 2 rfl) ?_
    refine lv_aload_n hx hb dL_law_830 rfl (lv_at hl 3 rfl) ?_
    refine lv_iload_n hx hb dL_law_831 rfl (lv_at hl 0 rfl) ?_
    refine lv_iconst (v := 1) hx hb dL_law_832 (by decide) ?_
    refine lv_iadd hx hb dL_law_833 ?_
    refine q_c 1 (by decide +kernel) ?_
    refine va_sld X.1 X.2.1 hX hbl hbA h.2.2 (q_in (by decide +kernel)) dL_law_834 ?_
    refine q_c a1 e1 ?_
    refine lv_aload_n hx hb dL_law_835 rfl (lv_at hl 3 rfl) ?_
    refine lv_iload_n hx hb dL_law_836 rfl (lv_at hl 0 rfl) ?_
    refine lv_iconst (v := 2) hx hb dL_law_837 (by decide) ?_
    refine lv_iadd hx hb dL_law_838 ?_
    refine q_c 2 (by decide +kernel) ?_
    refine va_sld X.1 X.2.1 hX hbl hbA h.2.2 (q_in (by decide +kernel)) dL_law_839 ?_
    refine q_c a2 e2 ?_
    have g_7822 : a2 ≤ ((-1) : Int32) := by
      simp only [Int32.lt_iff_toInt_lt, Int32.le_iff_toInt_le, ← Int32.toInt_inj] at c_7804 ⊢
      have k_0 : ((-1) : Int32).toInt = -1 := by decide
      omega
    refine q_callVi (rest := []) (wr := [(y0, .inr (12, [.int 0, .ref (u_1.1 19), .ref (u_1.1 0), .ref (u_1.1 1), .ref (u_1.1 2), .int 0, .int 0, .int 0, .int 0, .int 0, .int 0, .int 0, .int 0, .int 0, .int (-1), .int 0, .ref (u_1.1 3), .ref (u_1.1 4), .ref (u_1.1 5), .ref (u_1.1 6), .ref (u_1.1 7), .int 0, .int 0, .ref (u_1.1 8), .ref (u_1.1 9), .ref (u_1.1 10), .int 0, .int 0, .ref (u_1.1 11), .ref (u_1.1 12), .ref (u_1.1 13), .ref (u_1.1 14), .ref (u_1.1 15), .int 0, .ref (u_1.1 16), .ref (u_1.1 17), .ref (u_1.1 18)]))]) X hK hA h (fun sz => kX11_cover_308 l D cy x0 a1 a2 (u_0.1 0) (u_0.1 1) (u_0.1 37) (u_0.1 39) (u_0.1 41) (u_0.1 43) (u_0.1 14) (u_0.1 15) (u_0.1 16) (u_0.1 17) (u_0.1 20) (u_0.1 24) (u_0.1 29) g_7822 sz) wm_4_220 wm_4_223 wm_1_1 hd_X11_cover wm_4_221 wm_4_222 (ci := 11) (q0 := 0) rfl rfl ⟨Nat.le_of_ble_eq_true rfl, Nat.le_of_ble_eq_true rfl⟩ hl.1 rfl (Nat.le_of_ble_eq_true rfl) dL_law_840 ⟨Nat.le_of_ble_eq_true rfl, Nat.le_of_ble_eq_true rfl⟩ [0] [78] rfl rfl (by decide) rfl rfl (fun r_7823 u_7823 Hp1 lc1 w_7823 hw1 => ?_)
    clear h
    obtain rfl : r_7823 = (-2) := w_7823
    replace hw1 : qW D _ _ [(y0, .inr (12, [.int 0, .ref (u_1.1 19), .ref (u_1.1 0), .ref (u_1.1 1), .ref (u_1.1 2), .int 0, .int 0, .int 0, .int 0, .int 0, .int 0, .int 0, .int 0, .int 0, .int (-1), .int 0, .ref (u_1.1 3), .ref (u_1.1 4), .ref (u_1.1 5), .ref (u_1.1 6), .ref (u_1.1 7), .int 0, .int 0, .ref (u_1.1 8), .ref (u_1.1 9), .ref (u_1.1 10), .int 0, .int 0, .ref (u_1.1 11), .ref (u_1.1 12), .ref (u_1.1 13), .ref (u_1.1 14), .ref (u_1.1 15), .int 0, .ref (u_1.1 16), .ref (u_1.1 17), .ref (u_1.1 18)]))] _ _ := hw1
    refine lv_aload_n hx hb dL_law_843 rfl (lv_at hl 1 rfl) ?_
    refine lv_aload_n hx hb dL_law_844 rfl (lv_at hl 3 rfl) ?_
    refine lv_iload_n hx hb dL_law_845 rfl (lv_at hl 0 rfl) ?_
    refine lv_iconst (v := 1) hx hb dL_law_846 (by decide) ?_
    refine lv_iadd hx hb dL_law_847 ?_
    refine q_c 1 (by decide +kernel) ?_
    refine va_sld X.1 X.2.1 hX hbl hbA hw1.2.2 (q_in (by decide +kernel)) dL_law_848 ?_
    refine q_c a1 e1 ?_
    refine lv_aload_n hx hb dL_law_849 rfl (lv_at hl 3 rfl) ?_
    refine lv_iload_n hx hb dL_law_850 rfl (lv_at hl 0 rfl) ?_
    refine lv_iconst (v := 2) hx hb dL_law_851 (by decide) ?_
    refine lv_iadd hx hb dL_law_852 ?_
    refine q_c 2 (by decide +kernel) ?_
    refine va_sld X.1 X.2.1 hX hbl hbA hw1.2.2 (q_in (by decide +kernel)) dL_law_853 ?_
    refine q_c a2 e2 ?_
    have g_7827 : a2 ≤ ((-1) : Int32) := by
      simp only [Int32.lt_iff_toInt_lt, Int32.le_iff_toInt_le, ← Int32.toInt_inj] at c_7804 ⊢
      have k_0 : ((-1) : Int32).toInt = -1 := by decide
      omega
    refine q_callVi (rest := [.int (-2)]) (wr := []) X hK hA hw1 (fun sz => kX12_cover_309 l D cy y0 a1 a2 (u_1.1 19) (u_1.1 0) (u_1.1 1) (u_1.1 2) (u_1.1 3) (u_1.1 4) (u_1.1 5) (u_1.1 6) (u_1.1 7) (u_1.1 8) (u_1.1 9) (u_1.1 10) (u_1.1 11) (u_1.1 12) (u_1.1 13) (u_1.1 14) (u_1.1 15) (u_1.1 16) (u_1.1 17) (u_1.1 18) g_7827 sz) wm_7_148 wm_7_151 wm_1_12 hd_X12_cover wm_7_149 wm_7_150 (ci := 12) (q0 := 0) rfl rfl ⟨Nat.le_of_ble_eq_true rfl, Nat.le_of_ble_eq_true rfl⟩ hl.1 rfl (Nat.le_of_ble_eq_true rfl) dL_law_854 ⟨Nat.le_of_ble_eq_true rfl, Nat.le_of_ble_eq_true rfl⟩ [0] [] rfl rfl (by decide) rfl rfl (fun r_7828 u_7828 Hp2 lc2 w_7828 hw2 => ?_)
    clear Hp1 lc1 hw1
    obtain rfl : r_7828 = (-2) := w_7828
    replace hw2 : qW D _ _ [] _ _ := hw2
    refine lv_icmp_eq (tgt := 1461) hx hb dL_law_857 (by decide) (fun _ => ?_) (fun c => absurd c (by decide +kernel))
    exact law_tail l X hr hlk hX hbl hw2.2.2 hl (Nat.le_of_ble_eq_true rfl) (Nat.le_of_ble_eq_true rfl)
  by_cases c_7829 : a2 = 0
  · subst c_7829
    by_cases c_7834 : a1 = 0
    · subst c_7834
      refine lv_aload_n hx hb dL_law_829 rfl (lv_at hl 2 rfl) ?_
      refine lv_aload_n hx hb dL_law_830 rfl (lv_at hl 3 rfl) ?_
      refine lv_iload_n hx hb dL_law_831 rfl (lv_at hl 0 rfl) ?_
      refine lv_iconst (v := 1) hx hb dL_law_832 (by decide) ?_
      refine lv_iadd hx hb dL_law_833 ?_
      refine q_c 1 (by decide +kernel) ?_
      refine va_sld X.1 X.2.1 hX hbl hbA h.2.2 (q_in (by decide +kernel)) dL_law_834 ?_
      refine q_c 0 e1 ?_
      refine lv_aload_n hx hb dL_law_835 rfl (lv_at hl 3 rfl) ?_
      refine lv_iload_n hx hb dL_law_836 rfl (lv_at hl 0 rfl) ?_
      refine lv_iconst (v := 2) hx hb dL_law_837 (by decide) ?_
      refine lv_iadd hx hb dL_law_838 ?_
      refine q_c 2 (by decide +kernel) ?_
      refine va_sld X.1 X.2.1 hX hbl hbA h.2.2 (q_in (by decide +kernel)) dL_law_839 ?_
      refine q_c 0 e2 ?_
      refine q_callVi (rest := []) (wr := [(y0, .inr (12, [.int 0, .ref (u_1.1 19), .ref (u_1.1 0), .ref (u_1.1 1), .ref (u_1.1 2), .int 0, .int 0, .int 0, .int 0, .int 0, .int 0, .int 0, .int 0, .int 0, .int (-1), .int 0, .ref (u_1.1 3), .ref (u_1.1 4), .ref (u_1.1 5), .ref (u_1.1 6), .ref (u_1.1 7), .int 0, .int 0, .ref (u_1.1 8), .ref (u_1.1 9), .ref (u_1.1 10), .int 0, .int 0, .ref (u_1.1 11), .ref (u_1.1 12), .ref (u_1.1 13), .ref (u_1.1 14), .ref (u_1.1 15), .int 0, .ref (u_1.1 16), .ref (u_1.1 17), .ref (u_1.1 18)])), ((u_1.1 19), .inl (cy 1, 3918, .inl (upd (fun _ => 0) (Int32.toNatClampNeg 1) 1)))]) X hK hA h (fun sz => kX11_cover_313 l D cy x0 (u_0.1 20) (u_0.1 21) (u_0.1 31) (u_0.1 37) (u_0.1 0) (u_0.1 1) (u_0.1 39) (u_0.1 41) (u_0.1 43) (u_0.1 14) (u_0.1 15) (u_0.1 16) (u_0.1 17) (u_0.1 24) (u_0.1 29) (u_0.1 22) (u_0.1 23) (u_0.1 32) (u_0.1 33) (u_0.1 34) (u_0.1 35) (u_0.1 36) (u_0.1 38)  sz) wm_4_220 wm_4_223 wm_1_1 hd_X11_cover wm_4_221 wm_4_222 (ci := 11) (q0 := 0) rfl rfl ⟨Nat.le_of_ble_eq_true rfl, Nat.le_of_ble_eq_true rfl⟩ hl.1 rfl (Nat.le_of_ble_eq_true rfl) dL_law_840 ⟨Nat.le_of_ble_eq_true rfl, Nat.le_of_ble_eq_true rfl⟩ [0, 21, 22, 32, 38] [78, 98] rfl rfl (by decide) rfl rfl (fun r_7919 u_7919 Hp3 lc3 w_7919 hw3 => ?_)
      clear h
      obtain rfl : r_7919 = 0 := w_7919
      replace hw3 : qW D _ _ [(y0, .inr (12, [.int 0, .ref (u_1.1 19), .ref (u_1.1 0), .ref (u_1.1 1), .ref (u_1.1 2), .int 0, .int 0, .int 0, .int 0, .int 0, .int 0, .int 0, .int 0, .int 0, .int (-1), .int 0, .ref (u_1.1 3), .ref (u_1.1 4), .ref (u_1.1 5), .ref (u_1.1 6), .ref (u_1.1 7), .int 0, .int 0, .ref (u_1.1 8), .ref (u_1.1 9), .ref (u_1.1 10), .int 0, .int 0, .ref (u_1.1 11), .ref (u_1.1 12), .ref (u_1.1 13), .ref (u_1.1 14), .ref (u_1.1 15), .int 0, .ref (u_1.1 16), .ref (u_1.1 17), .ref (u_1.1 18)])), ((u_1.1 19), .inl (cy 1, 3918, .inl (upd (fun _ => 0) (Int32.toNatClampNeg 1) 1)))] _ _ := hw3
      refine lv_aload_n hx hb dL_law_843 rfl (lv_at hl 1 rfl) ?_
      refine lv_aload_n hx hb dL_law_844 rfl (lv_at hl 3 rfl) ?_
      refine lv_iload_n hx hb dL_law_845 rfl (lv_at hl 0 rfl) ?_
      refine lv_iconst (v := 1) hx hb dL_law_846 (by decide) ?_
      refine lv_iadd hx hb dL_law_847 ?_
      refine q_c 1 (by decide +kernel) ?_
      refine va_sld X.1 X.2.1 hX hbl hbA hw3.2.2 (q_in (by decide +kernel)) dL_law_848 ?_
      refine q_c 0 e1 ?_
      refine lv_aload_n hx hb dL_law_849 rfl (lv_at hl 3 rfl) ?_
      refine lv_iload_n hx hb dL_law_850 rfl (lv_at hl 0 rfl) ?_
      refine lv_iconst (v := 2) hx hb dL_law_851 (by decide) ?_
      refine lv_iadd hx hb dL_law_852 ?_
      refine q_c 2 (by decide +kernel) ?_
      refine va_sld X.1 X.2.1 hX hbl hbA hw3.2.2 (q_in (by decide +kernel)) dL_law_853 ?_
      refine q_c 0 e2 ?_
      refine q_callVi (rest := [.int 0]) (wr := []) X hK hA hw3 (fun sz => kX12_cover_316 l D cy y0 (u_1.1 19) (u_1.1 0) (u_1.1 1) (u_1.1 2) (u_1.1 3) (u_1.1 4) (u_1.1 5) (u_1.1 6) (u_1.1 7) (u_1.1 8) (u_1.1 9) (u_1.1 10) (u_1.1 11) (u_1.1 12) (u_1.1 13) (u_1.1 14) (u_1.1 15) (u_1.1 16) (u_1.1 17) (u_1.1 18) (upd (fun _ => 0) (Int32.toNatClampNeg 1) 1) (q_un (by decide +kernel) rfl) (q_un (by decide +kernel) rfl) (q_un (by decide +kernel) rfl) sz) wm_7_148 wm_7_151 wm_1_12 hd_X12_cover wm_7_149 wm_7_150 (ci := 12) (q0 := 0) rfl rfl ⟨Nat.le_of_ble_eq_true rfl, Nat.le_of_ble_eq_true rfl⟩ hl.1 rfl (Nat.le_of_ble_eq_true rfl) dL_law_854 ⟨Nat.le_of_ble_eq_true rfl, Nat.le_of_ble_eq_true rfl⟩ [0, 1] [] rfl rfl (by decide) rfl rfl (fun r_7928 u_7928 Hp4 lc4 w_7928 hw4 => ?_)
      clear Hp3 lc3 hw3
      obtain rfl : r_7928 = 0 := w_7928
      replace hw4 : qW D _ _ [] _ _ := hw4
      refine lv_icmp_eq (tgt := 1461) hx hb dL_law_857 (by decide) (fun _ => ?_) (fun c => absurd c (by decide +kernel))
      exact law_tail l X hr hlk hX hbl hw4.2.2 hl (Nat.le_of_ble_eq_true rfl) (Nat.le_of_ble_eq_true rfl)
    refine lv_aload_n hx hb dL_law_829 rfl (lv_at hl 2 rfl) ?_
    refine lv_aload_n hx hb dL_law_830 rfl (lv_at hl 3 rfl) ?_
    refine lv_iload_n hx hb dL_law_831 rfl (lv_at hl 0 rfl) ?_
    refine lv_iconst (v := 1) hx hb dL_law_832 (by decide) ?_
    refine lv_iadd hx hb dL_law_833 ?_
    refine q_c 1 (by decide +kernel) ?_
    refine va_sld X.1 X.2.1 hX hbl hbA h.2.2 (q_in (by decide +kernel)) dL_law_834 ?_
    refine q_c a1 e1 ?_
    refine lv_aload_n hx hb dL_law_835 rfl (lv_at hl 3 rfl) ?_
    refine lv_iload_n hx hb dL_law_836 rfl (lv_at hl 0 rfl) ?_
    refine lv_iconst (v := 2) hx hb dL_law_837 (by decide) ?_
    refine lv_iadd hx hb dL_law_838 ?_
    refine q_c 2 (by decide +kernel) ?_
    refine va_sld X.1 X.2.1 hX hbl hbA h.2.2 (q_in (by decide +kernel)) dL_law_839 ?_
    refine q_c 0 e2 ?_
    have g_7961 : ¬ a1 = (0 : Int32) := by
      simp only [Int32.lt_iff_toInt_lt, Int32.le_iff_toInt_le, ← Int32.toInt_inj] at c_7834 ⊢
      have k_0 : (0 : Int32).toInt = 0 := by decide
      omega
    refine q_callVi (rest := []) (wr := [(y0, .inr (12, [.int 0, .ref (u_1.1 19), .ref (u_1.1 0), .ref (u_1.1 1), .ref (u_1.1 2), .int 0, .int 0, .int 0, .int 0, .int 0, .int 0, .int 0, .int 0, .int 0, .int (-1), .int 0, .ref (u_1.1 3), .ref (u_1.1 4), .ref (u_1.1 5), .ref (u_1.1 6), .ref (u_1.1 7), .int 0, .int 0, .ref (u_1.1 8), .ref (u_1.1 9), .ref (u_1.1 10), .int 0, .int 0, .ref (u_1.1 11), .ref (u_1.1 12), .ref (u_1.1 13), .ref (u_1.1 14), .ref (u_1.1 15), .int 0, .ref (u_1.1 16), .ref (u_1.1 17), .ref (u_1.1 18)])), ((u_1.1 19), .inl (cy 1, 3918, .inl (upd (fun _ => 0) (Int32.toNatClampNeg 1) 1)))]) X hK hA h (fun sz => kX11_cover_317 l D cy x0 (u_0.1 31) (u_0.1 37) a1 (u_0.1 0) (u_0.1 1) (u_0.1 39) (u_0.1 41) (u_0.1 43) (u_0.1 14) (u_0.1 15) (u_0.1 16) (u_0.1 17) (u_0.1 20) (u_0.1 24) (u_0.1 29) (u_0.1 32) (u_0.1 33) (u_0.1 34) (u_0.1 35) (u_0.1 36) (u_0.1 38) g_7961 sz) wm_4_220 wm_4_223 wm_1_1 hd_X11_cover wm_4_221 wm_4_222 (ci := 11) (q0 := 0) rfl rfl ⟨Nat.le_of_ble_eq_true rfl, Nat.le_of_ble_eq_true rfl⟩ hl.1 rfl (Nat.le_of_ble_eq_true rfl) dL_law_840 ⟨Nat.le_of_ble_eq_true rfl, Nat.le_of_ble_eq_true rfl⟩ [0, 32, 38] [78, 98] rfl rfl (by decide) rfl rfl (fun r_7962 u_7962 Hp5 lc5 w_7962 hw5 => ?_)
    clear h
    obtain rfl : r_7962 = (-3) := w_7962
    replace hw5 : qW D _ _ [(y0, .inr (12, [.int 0, .ref (u_1.1 19), .ref (u_1.1 0), .ref (u_1.1 1), .ref (u_1.1 2), .int 0, .int 0, .int 0, .int 0, .int 0, .int 0, .int 0, .int 0, .int 0, .int (-1), .int 0, .ref (u_1.1 3), .ref (u_1.1 4), .ref (u_1.1 5), .ref (u_1.1 6), .ref (u_1.1 7), .int 0, .int 0, .ref (u_1.1 8), .ref (u_1.1 9), .ref (u_1.1 10), .int 0, .int 0, .ref (u_1.1 11), .ref (u_1.1 12), .ref (u_1.1 13), .ref (u_1.1 14), .ref (u_1.1 15), .int 0, .ref (u_1.1 16), .ref (u_1.1 17), .ref (u_1.1 18)])), ((u_1.1 19), .inl (cy 1, 3918, .inl (upd (fun _ => 0) (Int32.toNatClampNeg 1) 1)))] _ _ := hw5
    refine lv_aload_n hx hb dL_law_843 rfl (lv_at hl 1 rfl) ?_
    refine lv_aload_n hx hb dL_law_844 rfl (lv_at hl 3 rfl) ?_
    refine lv_iload_n hx hb dL_law_845 rfl (lv_at hl 0 rfl) ?_
    refine lv_iconst (v := 1) hx hb dL_law_846 (by decide) ?_
    refine lv_iadd hx hb dL_law_847 ?_
    refine q_c 1 (by decide +kernel) ?_
    refine va_sld X.1 X.2.1 hX hbl hbA hw5.2.2 (q_in (by decide +kernel)) dL_law_848 ?_
    refine q_c a1 e1 ?_
    refine lv_aload_n hx hb dL_law_849 rfl (lv_at hl 3 rfl) ?_
    refine lv_iload_n hx hb dL_law_850 rfl (lv_at hl 0 rfl) ?_
    refine lv_iconst (v := 2) hx hb dL_law_851 (by decide) ?_
    refine lv_iadd hx hb dL_law_852 ?_
    refine q_c 2 (by decide +kernel) ?_
    refine va_sld X.1 X.2.1 hX hbl hbA hw5.2.2 (q_in (by decide +kernel)) dL_law_853 ?_
    refine q_c 0 e2 ?_
    have g_7968 : ¬ a1 = (0 : Int32) := by
      simp only [Int32.lt_iff_toInt_lt, Int32.le_iff_toInt_le, ← Int32.toInt_inj] at c_7834 ⊢
      have k_0 : (0 : Int32).toInt = 0 := by decide
      omega
    refine q_callVi (rest := [.int (-3)]) (wr := []) X hK hA hw5 (fun sz => kX12_cover_318 l D cy y0 (u_1.1 19) a1 (u_1.1 0) (u_1.1 1) (u_1.1 2) (u_1.1 3) (u_1.1 4) (u_1.1 5) (u_1.1 6) (u_1.1 7) (u_1.1 8) (u_1.1 9) (u_1.1 10) (u_1.1 11) (u_1.1 12) (u_1.1 13) (u_1.1 14) (u_1.1 15) (u_1.1 16) (u_1.1 17) (u_1.1 18) (upd (fun _ => 0) (Int32.toNatClampNeg 1) 1) g_7968 (q_un (by decide +kernel) rfl) sz) wm_7_148 wm_7_151 wm_1_12 hd_X12_cover wm_7_149 wm_7_150 (ci := 12) (q0 := 0) rfl rfl ⟨Nat.le_of_ble_eq_true rfl, Nat.le_of_ble_eq_true rfl⟩ hl.1 rfl (Nat.le_of_ble_eq_true rfl) dL_law_854 ⟨Nat.le_of_ble_eq_true rfl, Nat.le_of_ble_eq_true rfl⟩ [0, 1] [] rfl rfl (by decide) rfl rfl (fun r_7969 u_7969 Hp6 lc6 w_7969 hw6 => ?_)
    clear Hp5 lc5 hw5
    obtain rfl : r_7969 = (-3) := w_7969
    replace hw6 : qW D _ _ [] _ _ := hw6
    refine lv_icmp_eq (tgt := 1461) hx hb dL_law_857 (by decide) (fun _ => ?_) (fun c => absurd c (by decide +kernel))
    exact law_tail l X hr hlk hX hbl hw6.2.2 hl (Nat.le_of_ble_eq_true rfl) (Nat.le_of_ble_eq_true rfl)
  by_cases c_7970 : a2 = 1
  · subst c_7970
    by_cases c_7975 : a1 = 0
    · subst c_7975
      refine lv_aload_n hx hb dL_law_829 rfl (lv_at hl 2 rfl) ?_
      refine lv_aload_n hx hb dL_law_830 rfl (lv_at hl 3 rfl) ?_
      refine lv_iload_n hx hb dL_law_831 rfl (lv_at hl 0 rfl) ?_
      refine lv_iconst (v := 1) hx hb dL_law_832 (by decide) ?_
      refine lv_iadd hx hb dL_law_833 ?_
      refine q_c 1 (by decide +kernel) ?_
      refine va_sld X.1 X.2.1 hX hbl hbA h.2.2 (q_in (by decide +kernel)) dL_law_834 ?_
      refine q_c 0 e1 ?_
      refine lv_aload_n hx hb dL_law_835 rfl (lv_at hl 3 rfl) ?_
      refine lv_iload_n hx hb dL_law_836 rfl (lv_at hl 0 rfl) ?_
      refine lv_iconst (v := 2) hx hb dL_law_837 (by decide) ?_
      refine lv_iadd hx hb dL_law_838 ?_
      refine q_c 2 (by decide +kernel) ?_
      refine va_sld X.1 X.2.1 hX hbl hbA h.2.2 (q_in (by decide +kernel)) dL_law_839 ?_
      refine q_c 1 e2 ?_
      refine q_callVi (rest := []) (wr := [(y0, .inr (12, [.int 0, .ref (u_1.1 19), .ref (u_1.1 0), .ref (u_1.1 1), .ref (u_1.1 2), .int 0, .int 0, .int 0, .int 0, .int 0, .int 0, .int 0, .int 0, .int 0, .int (-1), .int 0, .ref (u_1.1 3), .ref (u_1.1 4), .ref (u_1.1 5), .ref (u_1.1 6), .ref (u_1.1 7), .int 0, .int 0, .ref (u_1.1 8), .ref (u_1.1 9), .ref (u_1.1 10), .int 0, .int 0, .ref (u_1.1 11), .ref (u_1.1 12), .ref (u_1.1 13), .ref (u_1.1 14), .ref (u_1.1 15), .int 0, .ref (u_1.1 16), .ref (u_1.1 17), .ref (u_1.1 18)])), ((u_1.1 19), .inl (cy 1, 3918, .inl (upd (fun _ => 0) (Int32.toNatClampNeg 1) 1)))]) X hK hA h (fun sz => kX11_cover_320 l D cy x0 (u_0.1 20) (u_0.1 21) (u_0.1 31) (u_0.1 37) (u_0.1 0) (u_0.1 1) (u_0.1 39) (u_0.1 41) (u_0.1 43) (u_0.1 14) (u_0.1 15) (u_0.1 16) (u_0.1 17) (u_0.1 24) (u_0.1 29) (u_0.1 22) (u_0.1 23) (u_0.1 32) (u_0.1 33) (u_0.1 34) (u_0.1 35) (u_0.1 36) (u_0.1 38)  sz) wm_4_220 wm_4_223 wm_1_1 hd_X11_cover wm_4_221 wm_4_222 (ci := 11) (q0 := 0) rfl rfl ⟨Nat.le_of_ble_eq_true rfl, Nat.le_of_ble_eq_true rfl⟩ hl.1 rfl (Nat.le_of_ble_eq_true rfl) dL_law_840 ⟨Nat.le_of_ble_eq_true rfl, Nat.le_of_ble_eq_true rfl⟩ [0, 21, 22, 32, 38] [78, 98] rfl rfl (by decide) rfl rfl (fun r_8045 u_8045 Hp7 lc7 w_8045 hw7 => ?_)
      clear h
      obtain rfl : r_8045 = 0 := w_8045
      replace hw7 : qW D _ _ [(y0, .inr (12, [.int 0, .ref (u_1.1 19), .ref (u_1.1 0), .ref (u_1.1 1), .ref (u_1.1 2), .int 0, .int 0, .int 0, .int 0, .int 0, .int 0, .int 0, .int 0, .int 0, .int (-1), .int 0, .ref (u_1.1 3), .ref (u_1.1 4), .ref (u_1.1 5), .ref (u_1.1 6), .ref (u_1.1 7), .int 0, .int 0, .ref (u_1.1 8), .ref (u_1.1 9), .ref (u_1.1 10), .int 0, .int 0, .ref (u_1.1 11), .ref (u_1.1 12), .ref (u_1.1 13), .ref (u_1.1 14), .ref (u_1.1 15), .int 0, .ref (u_1.1 16), .ref (u_1.1 17), .ref (u_1.1 18)])), ((u_1.1 19), .inl (cy 1, 3918, .inl (upd (fun _ => 0) (Int32.toNatClampNeg 1) 1)))] _ _ := hw7
      refine lv_aload_n hx hb dL_law_843 rfl (lv_at hl 1 rfl) ?_
      refine lv_aload_n hx hb dL_law_844 rfl (lv_at hl 3 rfl) ?_
      refine lv_iload_n hx hb dL_law_845 rfl (lv_at hl 0 rfl) ?_
      refine lv_iconst (v := 1) hx hb dL_law_846 (by decide) ?_
      refine lv_iadd hx hb dL_law_847 ?_
      refine q_c 1 (by decide +kernel) ?_
      refine va_sld X.1 X.2.1 hX hbl hbA hw7.2.2 (q_in (by decide +kernel)) dL_law_848 ?_
      refine q_c 0 e1 ?_
      refine lv_aload_n hx hb dL_law_849 rfl (lv_at hl 3 rfl) ?_
      refine lv_iload_n hx hb dL_law_850 rfl (lv_at hl 0 rfl) ?_
      refine lv_iconst (v := 2) hx hb dL_law_851 (by decide) ?_
      refine lv_iadd hx hb dL_law_852 ?_
      refine q_c 2 (by decide +kernel) ?_
      refine va_sld X.1 X.2.1 hX hbl hbA hw7.2.2 (q_in (by decide +kernel)) dL_law_853 ?_
      refine q_c 1 e2 ?_
      refine q_callVi (rest := [.int 0]) (wr := []) X hK hA hw7 (fun sz => kX12_cover_321 l D cy y0 (u_1.1 19) (u_1.1 0) (u_1.1 1) (u_1.1 2) (u_1.1 3) (u_1.1 4) (u_1.1 5) (u_1.1 6) (u_1.1 7) (u_1.1 8) (u_1.1 9) (u_1.1 10) (u_1.1 11) (u_1.1 12) (u_1.1 13) (u_1.1 14) (u_1.1 15) (u_1.1 16) (u_1.1 17) (u_1.1 18) (upd (fun _ => 0) (Int32.toNatClampNeg 1) 1) (q_un (by decide +kernel) rfl) (q_un (by decide +kernel) rfl) (q_un (by decide +kernel) rfl) sz) wm_7_148 wm_7_151 wm_1_12 hd_X12_cover wm_7_149 wm_7_150 (ci := 12) (q0 := 0) rfl rfl ⟨Nat.le_of_ble_eq_true rfl, Nat.le_of_ble_eq_true rfl⟩ hl.1 rfl (Nat.le_of_ble_eq_true rfl) dL_law_854 ⟨Nat.le_of_ble_eq_true rfl, Nat.le_of_ble_eq_true rfl⟩ [0, 1] [] rfl rfl (by decide) rfl rfl (fun r_8053 u_8053 Hp8 lc8 w_8053 hw8 => ?_)
      clear Hp7 lc7 hw7
      obtain rfl : r_8053 = 0 := w_8053
      replace hw8 : qW D _ _ [] _ _ := hw8
      refine lv_icmp_eq (tgt := 1461) hx hb dL_law_857 (by decide) (fun _ => ?_) (fun c => absurd c (by decide +kernel))
      exact law_tail l X hr hlk hX hbl hw8.2.2 hl (Nat.le_of_ble_eq_true rfl) (Nat.le_of_ble_eq_true rfl)
    refine lv_aload_n hx hb dL_law_829 rfl (lv_at hl 2 rfl) ?_
    refine lv_aload_n hx hb dL_law_830 rfl (lv_at hl 3 rfl) ?_
    refine lv_iload_n hx hb dL_law_831 rfl (lv_at hl 0 rfl) ?_
    refine lv_iconst (v := 1) hx hb dL_law_832 (by decide) ?_
    refine lv_iadd hx hb dL_law_833 ?_
    refine q_c 1 (by decide +kernel) ?_
    refine va_sld X.1 X.2.1 hX hbl hbA h.2.2 (q_in (by decide +kernel)) dL_law_834 ?_
    refine q_c a1 e1 ?_
    refine lv_aload_n hx hb dL_law_835 rfl (lv_at hl 3 rfl) ?_
    refine lv_iload_n hx hb dL_law_836 rfl (lv_at hl 0 rfl) ?_
    refine lv_iconst (v := 2) hx hb dL_law_837 (by decide) ?_
    refine lv_iadd hx hb dL_law_838 ?_
    refine q_c 2 (by decide +kernel) ?_
    refine va_sld X.1 X.2.1 hX hbl hbA h.2.2 (q_in (by decide +kernel)) dL_law_839 ?_
    refine q_c 1 e2 ?_
    have g_8086 : ¬ a1 = (0 : Int32) := by
      simp only [Int32.lt_iff_toInt_lt, Int32.le_iff_toInt_le, ← Int32.toInt_inj] at c_7975 ⊢
      have k_0 : (0 : Int32).toInt = 0 := by decide
      omega
    refine q_callVi (rest := []) (wr := [(y0, .inr (12, [.int 0, .ref (u_1.1 19), .ref (u_1.1 0), .ref (u_1.1 1), .ref (u_1.1 2), .int 0, .int 0, .int 0, .int 0, .int 0, .int 0, .int 0, .int 0, .int 0, .int (-1), .int 0, .ref (u_1.1 3), .ref (u_1.1 4), .ref (u_1.1 5), .ref (u_1.1 6), .ref (u_1.1 7), .int 0, .int 0, .ref (u_1.1 8), .ref (u_1.1 9), .ref (u_1.1 10), .int 0, .int 0, .ref (u_1.1 11), .ref (u_1.1 12), .ref (u_1.1 13), .ref (u_1.1 14), .ref (u_1.1 15), .int 0, .ref (u_1.1 16), .ref (u_1.1 17), .ref (u_1.1 18)])), ((u_1.1 19), .inl (cy 1, 3918, .inl (upd (fun _ => 0) (Int32.toNatClampNeg 1) 1)))]) X hK hA h (fun sz => kX11_cover_322 l D cy x0 (u_0.1 31) (u_0.1 37) a1 (u_0.1 0) (u_0.1 1) (u_0.1 39) (u_0.1 41) (u_0.1 43) (u_0.1 14) (u_0.1 15) (u_0.1 16) (u_0.1 17) (u_0.1 20) (u_0.1 24) (u_0.1 29) (u_0.1 32) (u_0.1 33) (u_0.1 34) (u_0.1 35) (u_0.1 36) (u_0.1 38) g_8086 sz) wm_4_220 wm_4_223 wm_1_1 hd_X11_cover wm_4_221 wm_4_222 (ci := 11) (q0 := 0) rfl rfl ⟨Nat.le_of_ble_eq_true rfl, Nat.le_of_ble_eq_true rfl⟩ hl.1 rfl (Nat.le_of_ble_eq_true rfl) dL_law_840 ⟨Nat.le_of_ble_eq_true rfl, Nat.le_of_ble_eq_true rfl⟩ [0, 32, 38] [78, 98] rfl rfl (by decide) rfl rfl (fun r_8087 u_8087 Hp9 lc9 w_8087 hw9 => ?_)
    clear h
    obtain rfl : r_8087 = (-3) := w_8087
    replace hw9 : qW D _ _ [(y0, .inr (12, [.int 0, .ref (u_1.1 19), .ref (u_1.1 0), .ref (u_1.1 1), .ref (u_1.1 2), .int 0, .int 0, .int 0, .int 0, .int 0, .int 0, .int 0, .int 0, .int 0, .int (-1), .int 0, .ref (u_1.1 3), .ref (u_1.1 4), .ref (u_1.1 5), .ref (u_1.1 6), .ref (u_1.1 7), .int 0, .int 0, .ref (u_1.1 8), .ref (u_1.1 9), .ref (u_1.1 10), .int 0, .int 0, .ref (u_1.1 11), .ref (u_1.1 12), .ref (u_1.1 13), .ref (u_1.1 14), .ref (u_1.1 15), .int 0, .ref (u_1.1 16), .ref (u_1.1 17), .ref (u_1.1 18)])), ((u_1.1 19), .inl (cy 1, 3918, .inl (upd (fun _ => 0) (Int32.toNatClampNeg 1) 1)))] _ _ := hw9
    refine lv_aload_n hx hb dL_law_843 rfl (lv_at hl 1 rfl) ?_
    refine lv_aload_n hx hb dL_law_844 rfl (lv_at hl 3 rfl) ?_
    refine lv_iload_n hx hb dL_law_845 rfl (lv_at hl 0 rfl) ?_
    refine lv_iconst (v := 1) hx hb dL_law_846 (by decide) ?_
    refine lv_iadd hx hb dL_law_847 ?_
    refine q_c 1 (by decide +kernel) ?_
    refine va_sld X.1 X.2.1 hX hbl hbA hw9.2.2 (q_in (by decide +kernel)) dL_law_848 ?_
    refine q_c a1 e1 ?_
    refine lv_aload_n hx hb dL_law_849 rfl (lv_at hl 3 rfl) ?_
    refine lv_iload_n hx hb dL_law_850 rfl (lv_at hl 0 rfl) ?_
    refine lv_iconst (v := 2) hx hb dL_law_851 (by decide) ?_
    refine lv_iadd hx hb dL_law_852 ?_
    refine q_c 2 (by decide +kernel) ?_
    refine va_sld X.1 X.2.1 hX hbl hbA hw9.2.2 (q_in (by decide +kernel)) dL_law_853 ?_
    refine q_c 1 e2 ?_
    have g_8093 : ¬ a1 = (0 : Int32) := by
      simp only [Int32.lt_iff_toInt_lt, Int32.le_iff_toInt_le, ← Int32.toInt_inj] at c_7975 ⊢
      have k_0 : (0 : Int32).toInt = 0 := by decide
      omega
    refine q_callVi (rest := [.int (-3)]) (wr := []) X hK hA hw9 (fun sz => kX12_cover_323 l D cy y0 (u_1.1 19) a1 (u_1.1 0) (u_1.1 1) (u_1.1 2) (u_1.1 3) (u_1.1 4) (u_1.1 5) (u_1.1 6) (u_1.1 7) (u_1.1 8) (u_1.1 9) (u_1.1 10) (u_1.1 11) (u_1.1 12) (u_1.1 13) (u_1.1 14) (u_1.1 15) (u_1.1 16) (u_1.1 17) (u_1.1 18) (upd (fun _ => 0) (Int32.toNatClampNeg 1) 1) g_8093 (q_un (by decide +kernel) rfl) sz) wm_7_148 wm_7_151 wm_1_12 hd_X12_cover wm_7_149 wm_7_150 (ci := 12) (q0 := 0) rfl rfl ⟨Nat.le_of_ble_eq_true rfl, Nat.le_of_ble_eq_true rfl⟩ hl.1 rfl (Nat.le_of_ble_eq_true rfl) dL_law_854 ⟨Nat.le_of_ble_eq_true rfl, Nat.le_of_ble_eq_true rfl⟩ [0, 1] [] rfl rfl (by decide) rfl rfl (fun r_8094 u_8094 Hp10 lc10 w_8094 hw10 => ?_)
    clear Hp9 lc9 hw9
    obtain rfl : r_8094 = (-3) := w_8094
    replace hw10 : qW D _ _ [] _ _ := hw10
    refine lv_icmp_eq (tgt := 1461) hx hb dL_law_857 (by decide) (fun _ => ?_) (fun c => absurd c (by decide +kernel))
    exact law_tail l X hr hlk hX hbl hw10.2.2 hl (Nat.le_of_ble_eq_true rfl) (Nat.le_of_ble_eq_true rfl)
  refine lv_aload_n hx hb dL_law_829 rfl (lv_at hl 2 rfl) ?_
  refine lv_aload_n hx hb dL_law_830 rfl (lv_at hl 3 rfl) ?_
  refine lv_iload_n hx hb dL_law_831 rfl (lv_at hl 0 rfl) ?_
  refine lv_iconst (v := 1) hx hb dL_law_832 (by decide) ?_
  refine lv_iadd hx hb dL_law_833 ?_
  refine q_c 1 (by decide +kernel) ?_
  refine va_sld X.1 X.2.1 hX hbl hbA h.2.2 (q_in (by decide +kernel)) dL_law_834 ?_
  refine q_c a1 e1 ?_
  refine lv_aload_n hx hb dL_law_835 rfl (lv_at hl 3 rfl) ?_
  refine lv_iload_n hx hb dL_law_836 rfl (lv_at hl 0 rfl) ?_
  refine lv_iconst (v := 2) hx hb dL_law_837 (by decide) ?_
  refine lv_iadd hx hb dL_law_838 ?_
  refine q_c 2 (by decide +kernel) ?_
  refine va_sld X.1 X.2.1 hX hbl hbA h.2.2 (q_in (by decide +kernel)) dL_law_839 ?_
  refine q_c a2 e2 ?_
  have g_8116 : (2 : Int32) ≤ a2 := by
    simp only [Int32.lt_iff_toInt_lt, Int32.le_iff_toInt_le, ← Int32.toInt_inj] at c_7804 c_7829 c_7970 ⊢
    have k_0 : ((-1) : Int32).toInt = -1 := by decide
    have k_1 : (0 : Int32).toInt = 0 := by decide
    have k_2 : (1 : Int32).toInt = 1 := by decide
    have k_g : (2 : Int32).toInt = 2 := by decide
    omega
  refine q_callVi (rest := []) (wr := [(y0, .inr (12, [.int 0, .ref (u_1.1 19), .ref (u_1.1 0), .ref (u_1.1 1), .ref (u_1.1 2), .int 0, .int 0, .int 0, .int 0, .int 0, .int 0, .int 0, .int 0, .int 0, .int (-1), .int 0, .ref (u_1.1 3), .ref (u_1.1 4), .ref (u_1.1 5), .ref (u_1.1 6), .ref (u_1.1 7), .int 0, .int 0, .ref (u_1.1 8), .ref (u_1.1 9), .ref (u_1.1 10), .int 0, .int 0, .ref (u_1.1 11), .ref (u_1.1 12), .ref (u_1.1 13), .ref (u_1.1 14), .ref (u_1.1 15), .int 0, .ref (u_1.1 16), .ref (u_1.1 17), .ref (u_1.1 18)]))]) X hK hA h (fun sz => kX11_cover_324 l D cy x0 a1 a2 (u_0.1 0) (u_0.1 1) (u_0.1 37) (u_0.1 39) (u_0.1 41) (u_0.1 43) (u_0.1 14) (u_0.1 15) (u_0.1 16) (u_0.1 17) (u_0.1 20) (u_0.1 24) (u_0.1 29) g_8116 sz) wm_4_220 wm_4_223 wm_1_1 hd_X11_cover wm_4_221 wm_4_222 (ci := 11) (q0 := 0) rfl rfl ⟨Nat.le_of_ble_eq_true rfl, Nat.le_of_ble_eq_true rfl⟩ hl.1 rfl (Nat.le_of_ble_eq_true rfl) dL_law_840 ⟨Nat.le_of_ble_eq_true rfl, Nat.le_of_ble_eq_true rfl⟩ [0] [78] rfl rfl (by decide) rfl rfl (fun r_8117 u_8117 Hp11 lc11 w_8117 hw11 => ?_)
  clear h
  obtain rfl : r_8117 = (-2) := w_8117
  replace hw11 : qW D _ _ [(y0, .inr (12, [.int 0, .ref (u_1.1 19), .ref (u_1.1 0), .ref (u_1.1 1), .ref (u_1.1 2), .int 0, .int 0, .int 0, .int 0, .int 0, .int 0, .int 0, .int 0, .int 0, .int (-1), .int 0, .ref (u_1.1 3), .ref (u_1.1 4), .ref (u_1.1 5), .ref (u_1.1 6), .ref (u_1.1 7), .int 0, .int 0, .ref (u_1.1 8), .ref (u_1.1 9), .ref (u_1.1 10), .int 0, .int 0, .ref (u_1.1 11), .ref (u_1.1 12), .ref (u_1.1 13), .ref (u_1.1 14), .ref (u_1.1 15), .int 0, .ref (u_1.1 16), .ref (u_1.1 17), .ref (u_1.1 18)]))] _ _ := hw11
  refine lv_aload_n hx hb dL_law_843 rfl (lv_at hl 1 rfl) ?_
  refine lv_aload_n hx hb dL_law_844 rfl (lv_at hl 3 rfl) ?_
  refine lv_iload_n hx hb dL_law_845 rfl (lv_at hl 0 rfl) ?_
  refine lv_iconst (v := 1) hx hb dL_law_846 (by decide) ?_
  refine lv_iadd hx hb dL_law_847 ?_
  refine q_c 1 (by decide +kernel) ?_
  refine va_sld X.1 X.2.1 hX hbl hbA hw11.2.2 (q_in (by decide +kernel)) dL_law_848 ?_
  refine q_c a1 e1 ?_
  refine lv_aload_n hx hb dL_law_849 rfl (lv_at hl 3 rfl) ?_
  refine lv_iload_n hx hb dL_law_850 rfl (lv_at hl 0 rfl) ?_
  refine lv_iconst (v := 2) hx hb dL_law_851 (by decide) ?_
  refine lv_iadd hx hb dL_law_852 ?_
  refine q_c 2 (by decide +kernel) ?_
  refine va_sld X.1 X.2.1 hX hbl hbA hw11.2.2 (q_in (by decide +kernel)) dL_law_853 ?_
  refine q_c a2 e2 ?_
  have g_8122 : (2 : Int32) ≤ a2 := by
    simp only [Int32.lt_iff_toInt_lt, Int32.le_iff_toInt_le, ← Int32.toInt_inj] at c_7804 c_7829 c_7970 ⊢
    have k_0 : ((-1) : Int32).toInt = -1 := by decide
    have k_1 : (0 : Int32).toInt = 0 := by decide
    have k_2 : (1 : Int32).toInt = 1 := by decide
    have k_g : (2 : Int32).toInt = 2 := by decide
    omega
  refine q_callVi (rest := [.int (-2)]) (wr := []) X hK hA hw11 (fun sz => kX12_cover_325 l D cy y0 a1 a2 (u_1.1 19) (u_1.1 0) (u_1.1 1) (u_1.1 2) (u_1.1 3) (u_1.1 4) (u_1.1 5) (u_1.1 6) (u_1.1 7) (u_1.1 8) (u_1.1 9) (u_1.1 10) (u_1.1 11) (u_1.1 12) (u_1.1 13) (u_1.1 14) (u_1.1 15) (u_1.1 16) (u_1.1 17) (u_1.1 18) g_8122 sz) wm_7_148 wm_7_151 wm_1_12 hd_X12_cover wm_7_149 wm_7_150 (ci := 12) (q0 := 0) rfl rfl ⟨Nat.le_of_ble_eq_true rfl, Nat.le_of_ble_eq_true rfl⟩ hl.1 rfl (Nat.le_of_ble_eq_true rfl) dL_law_854 ⟨Nat.le_of_ble_eq_true rfl, Nat.le_of_ble_eq_true rfl⟩ [0] [] rfl rfl (by decide) rfl rfl (fun r_8123 u_8123 Hp12 lc12 w_8123 hw12 => ?_)
  clear Hp11 lc11 hw11
  obtain rfl : r_8123 = (-2) := w_8123
  replace hw12 : qW D _ _ [] _ _ := hw12
  refine lv_icmp_eq (tgt := 1461) hx hb dL_law_857 (by decide) (fun _ => ?_) (fun c => absurd c (by decide +kernel))
  exact law_tail l X hr hlk hX hbl hw12.2.2 hl (Nat.le_of_ble_eq_true rfl) (Nat.le_of_ble_eq_true rfl)
set_option maxHeartbeats 4000000 in
set_option maxRecDepth 100000 in
theorem lc_laundress (l : Launch) {p : Program} {e : Env} {s : State} {m : MethodId} {below : List Frame} {meth : Method} {c : Code} {b : Nat} {xs : Nat → Int32} {D : va_G} {cy : Nat → ClassId} {H : Heap} {locs : List Loc} {ls : Array Slot} {x0 y0 : Nat} {u_0 u_1 : SS} (X : qX p s m #[Value.ref b] c cL_law 4 RL) (hr : meth.sig.returnType = ret) (hlk : meth.locks = false) (hX : va_X b 6 xs s s.heap) (hbl : b < s.heap.size) (hK : qK D cy s) (a1 a2 a3 a4 a5 : Int32) (e1 : xs (Int32.toNatClampNeg 1) = a1) (e2 : xs (Int32.toNatClampNeg 2) = a2) (e3 : xs (Int32.toNatClampNeg 3) = a3) (e4 : xs (Int32.toNatClampNeg 4) = a4) (e5 : xs (Int32.toNatClampNeg 5) = a5) (h : qW D (fun q => s.heap.size ≤ q) s.heap (wLaw cy x0 y0 u_0 u_1) H locs) (hl : lv_has ls 4 [(3, .int 0), (2, .ref y0), (1, .ref x0), (0, .ref b)]) : W p l e room_1 s m #[Value.ref b] below meth c H locs 99 25544 (lw_Z below #[Value.ref b] s) (F0 m 862 ls []) := by
  obtain ⟨hx, hb, hml, hown, ht⟩ := id X
  have hA : ∀ q : Nat, s.heap.size ≤ q → (fun q : Nat => s.heap.size ≤ q) q := fun _ h => h
  have hbA : ¬ (fun q : Nat => s.heap.size ≤ q) b := Nat.not_le.mpr hbl
  by_cases c_8128 : a1 = 0
  · subst c_8128
    refine lv_aload_n hx hb dL_law_862 rfl (lv_at hl 2 rfl) ?_
    refine lv_aload_n hx hb dL_law_863 rfl (lv_at hl 3 rfl) ?_
    refine lv_iload_n hx hb dL_law_864 rfl (lv_at hl 0 rfl) ?_
    refine lv_iconst (v := 1) hx hb dL_law_865 (by decide) ?_
    refine lv_iadd hx hb dL_law_866 ?_
    refine q_c 1 (by decide +kernel) ?_
    refine va_sld X.1 X.2.1 hX hbl hbA h.2.2 (q_in (by decide +kernel)) dL_law_867 ?_
    refine q_c 0 e1 ?_
    refine q_callVi (rest := []) (wr := [(y0, .inr (12, [.int 0, .ref (u_1.1 19), .ref (u_1.1 0), .ref (u_1.1 1), .ref (u_1.1 2), .int 0, .int 0, .int 0, .int 0, .int 0, .int 0, .int 0, .int 0, .int 0, .int (-1), .int 0, .ref (u_1.1 3), .ref (u_1.1 4), .ref (u_1.1 5), .ref (u_1.1 6), .ref (u_1.1 7), .int 0, .int 0, .ref (u_1.1 8), .ref (u_1.1 9), .ref (u_1.1 10), .int 0, .int 0, .ref (u_1.1 11), .ref (u_1.1 12), .ref (u_1.1 13), .ref (u_1.1 14), .ref (u_1.1 15), .int 0, .ref (u_1.1 16), .ref (u_1.1 17), .ref (u_1.1 18)])), ((u_1.1 19), .inl (cy 1, 3918, .inl (upd (fun _ => 0) (Int32.toNatClampNeg 1) 1)))]) X hK hA h (fun sz => kX11_laundress_326 l D cy x0 (u_0.1 20) (u_0.1 21) (u_0.1 31) (u_0.1 37) (u_0.1 0) (u_0.1 1) (u_0.1 39) (u_0.1 41) (u_0.1 43) (u_0.1 14) (u_0.1 15) (u_0.1 16) (u_0.1 17) (u_0.1 24) (u_0.1 29) (u_0.1 22) (u_0.1 23) (u_0.1 32) (u_0.1 33) (u_0.1 34) (u_0.1 35) (u_0.1 36) (u_0.1 38)  sz) wm_4_235 wm_4_238 wm_1_1 hd_X11_laundress wm_4_236 wm_4_237 (ci := 11) (q0 := 0) rfl rfl ⟨Nat.le_of_ble_eq_true rfl, Nat.le_of_ble_eq_true rfl⟩ hl.1 rfl (Nat.le_of_ble_eq_true rfl) dL_law_868 ⟨Nat.le_of_ble_eq_true rfl, Nat.le_of_ble_eq_true rfl⟩ [0, 21, 22, 32, 38] [78, 98] rfl rfl (by decide) rfl rfl (fun r_8172 u_8172 Hp1 lc1 w_8172 hw1 => ?_)
    clear h
    obtain rfl : r_8172 = (-1) := w_8172
    replace hw1 : qW D _ _ [(y0, .inr (12, [.int 0, .ref (u_1.1 19), .ref (u_1.1 0), .ref (u_1.1 1), .ref (u_1.1 2), .int 0, .int 0, .int 0, .int 0, .int 0, .int 0, .int 0, .int 0, .int 0, .int (-1), .int 0, .ref (u_1.1 3), .ref (u_1.1 4), .ref (u_1.1 5), .ref (u_1.1 6), .ref (u_1.1 7), .int 0, .int 0, .ref (u_1.1 8), .ref (u_1.1 9), .ref (u_1.1 10), .int 0, .int 0, .ref (u_1.1 11), .ref (u_1.1 12), .ref (u_1.1 13), .ref (u_1.1 14), .ref (u_1.1 15), .int 0, .ref (u_1.1 16), .ref (u_1.1 17), .ref (u_1.1 18)])), ((u_1.1 19), .inl (cy 1, 3918, .inl (upd (fun _ => 0) (Int32.toNatClampNeg 1) 1)))] _ _ := hw1
    refine lv_aload_n hx hb dL_law_871 rfl (lv_at hl 1 rfl) ?_
    refine lv_aload_n hx hb dL_law_872 rfl (lv_at hl 3 rfl) ?_
    refine lv_iload_n hx hb dL_law_873 rfl (lv_at hl 0 rfl) ?_
    refine lv_iconst (v := 1) hx hb dL_law_874 (by decide) ?_
    refine lv_iadd hx hb dL_law_875 ?_
    refine q_c 1 (by decide +kernel) ?_
    refine va_sld X.1 X.2.1 hX hbl hbA hw1.2.2 (q_in (by decide +kernel)) dL_law_876 ?_
    refine q_c 0 e1 ?_
    refine q_callVi (rest := [.int (-1)]) (wr := []) X hK hA hw1 (fun sz => kX12_laundress_327 l D cy y0 (u_1.1 19) (u_1.1 0) (u_1.1 1) (u_1.1 2) (u_1.1 3) (u_1.1 4) (u_1.1 5) (u_1.1 6) (u_1.1 7) (u_1.1 8) (u_1.1 9) (u_1.1 10) (u_1.1 11) (u_1.1 12) (u_1.1 13) (u_1.1 14) (u_1.1 15) (u_1.1 16) (u_1.1 17) (u_1.1 18) (upd (fun _ => 0) (Int32.toNatClampNeg 1) 1) (q_un (by decide +kernel) rfl) (q_un (by decide +kernel) rfl) (q_un (by decide +kernel) rfl) sz) wm_7_156 wm_7_159 wm_1_12 hd_X12_laundress wm_7_157 wm_7_158 (ci := 12) (q0 := 0) rfl rfl ⟨Nat.le_of_ble_eq_true rfl, Nat.le_of_ble_eq_true rfl⟩ hl.1 rfl (Nat.le_of_ble_eq_true rfl) dL_law_877 ⟨Nat.le_of_ble_eq_true rfl, Nat.le_of_ble_eq_true rfl⟩ [0, 1] [] rfl rfl (by decide) rfl rfl (fun r_8178 u_8178 Hp2 lc2 w_8178 hw2 => ?_)
    clear Hp1 lc1 hw1
    obtain rfl : r_8178 = (-1) := w_8178
    replace hw2 : qW D _ _ [] _ _ := hw2
    refine lv_icmp_eq (tgt := 1461) hx hb dL_law_880 (by decide) (fun _ => ?_) (fun c => absurd c (by decide +kernel))
    exact law_tail l X hr hlk hX hbl hw2.2.2 hl (Nat.le_of_ble_eq_true rfl) (Nat.le_of_ble_eq_true rfl)
  refine lv_aload_n hx hb dL_law_862 rfl (lv_at hl 2 rfl) ?_
  refine lv_aload_n hx hb dL_law_863 rfl (lv_at hl 3 rfl) ?_
  refine lv_iload_n hx hb dL_law_864 rfl (lv_at hl 0 rfl) ?_
  refine lv_iconst (v := 1) hx hb dL_law_865 (by decide) ?_
  refine lv_iadd hx hb dL_law_866 ?_
  refine q_c 1 (by decide +kernel) ?_
  refine va_sld X.1 X.2.1 hX hbl hbA h.2.2 (q_in (by decide +kernel)) dL_law_867 ?_
  refine q_c a1 e1 ?_
  have g_8208 : ¬ a1 = (0 : Int32) := by
    simp only [Int32.lt_iff_toInt_lt, Int32.le_iff_toInt_le, ← Int32.toInt_inj] at c_8128 ⊢
    have k_0 : (0 : Int32).toInt = 0 := by decide
    omega
  refine q_callVi (rest := []) (wr := [(y0, .inr (12, [.int 0, .ref (u_1.1 19), .ref (u_1.1 0), .ref (u_1.1 1), .ref (u_1.1 2), .int 0, .int 0, .int 0, .int 0, .int 0, .int 0, .int 0, .int 0, .int 0, .int (-1), .int 0, .ref (u_1.1 3), .ref (u_1.1 4), .ref (u_1.1 5), .ref (u_1.1 6), .ref (u_1.1 7), .int 0, .int 0, .ref (u_1.1 8), .ref (u_1.1 9), .ref (u_1.1 10), .int 0, .int 0, .ref (u_1.1 11), .ref (u_1.1 12), .ref (u_1.1 13), .ref (u_1.1 14), .ref (u_1.1 15), .int 0, .ref (u_1.1 16), .ref (u_1.1 17), .ref (u_1.1 18)])), ((u_1.1 19), .inl (cy 1, 3918, .inl (upd (fun _ => 0) (Int32.toNatClampNeg 1) 1)))]) X hK hA h (fun sz => kX11_laundress_328 l D cy x0 (u_0.1 31) (u_0.1 37) a1 (u_0.1 0) (u_0.1 1) (u_0.1 39) (u_0.1 41) (u_0.1 43) (u_0.1 14) (u_0.1 15) (u_0.1 16) (u_0.1 17) (u_0.1 20) (u_0.1 24) (u_0.1 29) (u_0.1 32) (u_0.1 33) (u_0.1 34) (u_0.1 35) (u_0.1 36) (u_0.1 38) g_8208 sz) wm_4_235 wm_4_238 wm_1_1 hd_X11_laundress wm_4_236 wm_4_237 (ci := 11) (q0 := 0) rfl rfl ⟨Nat.le_of_ble_eq_true rfl, Nat.le_of_ble_eq_true rfl⟩ hl.1 rfl (Nat.le_of_ble_eq_true rfl) dL_law_868 ⟨Nat.le_of_ble_eq_true rfl, Nat.le_of_ble_eq_true rfl⟩ [0, 32, 38] [78, 98] rfl rfl (by decide) rfl rfl (fun r_8209 u_8209 Hp3 lc3 w_8209 hw3 => ?_)
  clear h
  obtain rfl : r_8209 = (-3) := w_8209
  replace hw3 : qW D _ _ [(y0, .inr (12, [.int 0, .ref (u_1.1 19), .ref (u_1.1 0), .ref (u_1.1 1), .ref (u_1.1 2), .int 0, .int 0, .int 0, .int 0, .int 0, .int 0, .int 0, .int 0, .int 0, .int (-1), .int 0, .ref (u_1.1 3), .ref (u_1.1 4), .ref (u_1.1 5), .ref (u_1.1 6), .ref (u_1.1 7), .int 0, .int 0, .ref (u_1.1 8), .ref (u_1.1 9), .ref (u_1.1 10), .int 0, .int 0, .ref (u_1.1 11), .ref (u_1.1 12), .ref (u_1.1 13), .ref (u_1.1 14), .ref (u_1.1 15), .int 0, .ref (u_1.1 16), .ref (u_1.1 17), .ref (u_1.1 18)])), ((u_1.1 19), .inl (cy 1, 3918, .inl (upd (fun _ => 0) (Int32.toNatClampNeg 1) 1)))] _ _ := hw3
  refine lv_aload_n hx hb dL_law_871 rfl (lv_at hl 1 rfl) ?_
  refine lv_aload_n hx hb dL_law_872 rfl (lv_at hl 3 rfl) ?_
  refine lv_iload_n hx hb dL_law_873 rfl (lv_at hl 0 rfl) ?_
  refine lv_iconst (v := 1) hx hb dL_law_874 (by decide) ?_
  refine lv_iadd hx hb dL_law_875 ?_
  refine q_c 1 (by decide +kernel) ?_
  refine va_sld X.1 X.2.1 hX hbl hbA hw3.2.2 (q_in (by decide +kernel)) dL_law_876 ?_
  refine q_c a1 e1 ?_
  have g_8214 : ¬ a1 = (0 : Int32) := by
    simp only [Int32.lt_iff_toInt_lt, Int32.le_iff_toInt_le, ← Int32.toInt_inj] at c_8128 ⊢
    have k_0 : (0 : Int32).toInt = 0 := by decide
    omega
  refine q_callVi (rest := [.int (-3)]) (wr := []) X hK hA hw3 (fun sz => kX12_laundress_329 l D cy y0 (u_1.1 19) a1 (u_1.1 0) (u_1.1 1) (u_1.1 2) (u_1.1 3) (u_1.1 4) (u_1.1 5) (u_1.1 6) (u_1.1 7) (u_1.1 8) (u_1.1 9) (u_1.1 10) (u_1.1 11) (u_1.1 12) (u_1.1 13) (u_1.1 14) (u_1.1 15) (u_1.1 16) (u_1.1 17) (u_1.1 18) (upd (fun _ => 0) (Int32.toNatClampNeg 1) 1) g_8214 (q_un (by decide +kernel) rfl) sz) wm_7_156 wm_7_159 wm_1_12 hd_X12_laundress wm_7_157 wm_7_158 (ci := 12) (q0 := 0) rfl rfl ⟨Nat.le_of_ble_eq_true rfl, Nat.le_of_ble_eq_true rfl⟩ hl.1 rfl (Nat.le_of_ble_eq_true rfl) dL_law_877 ⟨Nat.le_of_ble_eq_true rfl, Nat.le_of_ble_eq_true rfl⟩ [0, 1] [] rfl rfl (by decide) rfl rfl (fun r_8215 u_8215 Hp4 lc4 w_8215 hw4 => ?_)
  clear Hp3 lc3 hw3
  obtain rfl : r_8215 = (-3) := w_8215
  replace hw4 : qW D _ _ [] _ _ := hw4
  refine lv_icmp_eq (tgt := 1461) hx hb dL_law_880 (by decide) (fun _ => ?_) (fun c => absurd c (by decide +kernel))
  exact law_tail l X hr hlk hX hbl hw4.2.2 hl (Nat.le_of_ble_eq_true rfl) (Nat.le_of_ble_eq_true rfl)
set_option maxHeartbeats 4000000 in
set_option maxRecDepth 100000 in
theorem lc_talks (l : Launch) {p : Program} {e : Env} {s : State} {m : MethodId} {below : List Frame} {meth : Method} {c : Code} {b : Nat} {xs : Nat → Int32} {D : va_G} {cy : Nat → ClassId} {H : Heap} {locs : List Loc} {ls : Array Slot} {x0 y0 : Nat} {u_0 u_1 : SS} (X : qX p s m #[Value.ref b] c cL_law 4 RL) (hr : meth.sig.returnType = ret) (hlk : meth.locks = false) (hX : va_X b 6 xs s s.heap) (hbl : b < s.heap.size) (hK : qK D cy s) (a1 a2 a3 a4 a5 : Int32) (e1 : xs (Int32.toNatClampNeg 1) = a1) (e2 : xs (Int32.toNatClampNeg 2) = a2) (e3 : xs (Int32.toNatClampNeg 3) = a3) (e4 : xs (Int32.toNatClampNeg 4) = a4) (e5 : xs (Int32.toNatClampNeg 5) = a5) (h : qW D (fun q => s.heap.size ≤ q) s.heap (wLaw cy x0 y0 u_0 u_1) H locs) (hl : lv_has ls 4 [(3, .int 0), (2, .ref y0), (1, .ref x0), (0, .ref b)]) : W p l e room_1 s m #[Value.ref b] below meth c H locs 99 25544 (lw_Z below #[Value.ref b] s) (F0 m 885 ls []) := by
  obtain ⟨hx, hb, hml, hown, ht⟩ := id X
  have hA : ∀ q : Nat, s.heap.size ≤ q → (fun q : Nat => s.heap.size ≤ q) q := fun _ h => h
  have hbA : ¬ (fun q : Nat => s.heap.size ≤ q) b := Nat.not_le.mpr hbl
  refine lv_aload_n hx hb dL_law_885 rfl (lv_at hl 2 rfl) ?_
  refine lv_aload_n hx hb dL_law_886 rfl (lv_at hl 3 rfl) ?_
  refine lv_iload_n hx hb dL_law_887 rfl (lv_at hl 0 rfl) ?_
  refine lv_iconst (v := 1) hx hb dL_law_888 (by decide) ?_
  refine lv_iadd hx hb dL_law_889 ?_
  refine q_c 1 (by decide +kernel) ?_
  refine va_sld X.1 X.2.1 hX hbl hbA h.2.2 (q_in (by decide +kernel)) dL_law_890 ?_
  refine q_c a1 e1 ?_
  refine lv_aload_n hx hb dL_law_891 rfl (lv_at hl 3 rfl) ?_
  refine lv_iload_n hx hb dL_law_892 rfl (lv_at hl 0 rfl) ?_
  refine lv_iconst (v := 2) hx hb dL_law_893 (by decide) ?_
  refine lv_iadd hx hb dL_law_894 ?_
  refine q_c 2 (by decide +kernel) ?_
  refine va_sld X.1 X.2.1 hX hbl hbA h.2.2 (q_in (by decide +kernel)) dL_law_895 ?_
  refine q_c a2 e2 ?_
  refine q_callVi (rest := []) (wr := [(y0, .inr (12, [.int 0, .ref (u_1.1 19), .ref (u_1.1 0), .ref (u_1.1 1), .ref (u_1.1 2), .int 0, .int 0, .int 0, .int 0, .int 0, .int 0, .int 0, .int 0, .int 0, .int (-1), .int 0, .ref (u_1.1 3), .ref (u_1.1 4), .ref (u_1.1 5), .ref (u_1.1 6), .ref (u_1.1 7), .int 0, .int 0, .ref (u_1.1 8), .ref (u_1.1 9), .ref (u_1.1 10), .int 0, .int 0, .ref (u_1.1 11), .ref (u_1.1 12), .ref (u_1.1 13), .ref (u_1.1 14), .ref (u_1.1 15), .int 0, .ref (u_1.1 16), .ref (u_1.1 17), .ref (u_1.1 18)])), ((u_1.1 19), .inl (cy 1, 3918, .inl (upd (fun _ => 0) (Int32.toNatClampNeg 1) 1)))]) X hK hA h (fun sz => kX11_talks_330 l D cy x0 (u_0.1 31) (u_0.1 37) a1 a2 (u_0.1 0) (u_0.1 1) (u_0.1 39) (u_0.1 41) (u_0.1 43) (u_0.1 14) (u_0.1 15) (u_0.1 16) (u_0.1 17) (u_0.1 20) (u_0.1 24) (u_0.1 29) (u_0.1 32) (u_0.1 33) (u_0.1 34) (u_0.1 35) (u_0.1 36) (u_0.1 38)  sz) wm_4_239 wm_5_2 wm_1_1 hd_X11_talks wm_5_0 wm_5_1 (ci := 11) (q0 := 0) rfl rfl ⟨Nat.le_of_ble_eq_true rfl, Nat.le_of_ble_eq_true rfl⟩ hl.1 rfl (Nat.le_of_ble_eq_true rfl) dL_law_896 ⟨Nat.le_of_ble_eq_true rfl, Nat.le_of_ble_eq_true rfl⟩ [0, 32, 38] [78, 98] rfl rfl (by decide) rfl rfl (fun r_8263 u_8263 Hp1 lc1 w_8263 hw1 => ?_)
  clear h
  obtain rfl : r_8263 = (-2) := w_8263
  replace hw1 : qW D _ _ [(y0, .inr (12, [.int 0, .ref (u_1.1 19), .ref (u_1.1 0), .ref (u_1.1 1), .ref (u_1.1 2), .int 0, .int 0, .int 0, .int 0, .int 0, .int 0, .int 0, .int 0, .int 0, .int (-1), .int 0, .ref (u_1.1 3), .ref (u_1.1 4), .ref (u_1.1 5), .ref (u_1.1 6), .ref (u_1.1 7), .int 0, .int 0, .ref (u_1.1 8), .ref (u_1.1 9), .ref (u_1.1 10), .int 0, .int 0, .ref (u_1.1 11), .ref (u_1.1 12), .ref (u_1.1 13), .ref (u_1.1 14), .ref (u_1.1 15), .int 0, .ref (u_1.1 16), .ref (u_1.1 17), .ref (u_1.1 18)])), ((u_1.1 19), .inl (cy 1, 3918, .inl (upd (fun _ => 0) (Int32.toNatClampNeg 1) 1)))] _ _ := hw1
  refine lv_aload_n hx hb dL_law_899 rfl (lv_at hl 1 rfl) ?_
  refine lv_aload_n hx hb dL_law_900 rfl (lv_at hl 3 rfl) ?_
  refine lv_iload_n hx hb dL_law_901 rfl (lv_at hl 0 rfl) ?_
  refine lv_iconst (v := 1) hx hb dL_law_902 (by decide) ?_
  refine lv_iadd hx hb dL_law_903 ?_
  refine q_c 1 (by decide +kernel) ?_
  refine va_sld X.1 X.2.1 hX hbl hbA hw1.2.2 (q_in (by decide +kernel)) dL_law_904 ?_
  refine q_c a1 e1 ?_
  refine lv_aload_n hx hb dL_law_905 rfl (lv_at hl 3 rfl) ?_
  refine lv_iload_n hx hb dL_law_906 rfl (lv_at hl 0 rfl) ?_
  refine lv_iconst (v := 2) hx hb dL_law_907 (by decide) ?_
  refine lv_iadd hx hb dL_law_908 ?_
  refine q_c 2 (by decide +kernel) ?_
  refine va_sld X.1 X.2.1 hX hbl hbA hw1.2.2 (q_in (by decide +kernel)) dL_law_909 ?_
  refine q_c a2 e2 ?_
  refine q_callVi (rest := [.int (-2)]) (wr := []) X hK hA hw1 (fun sz => kX12_talks_333 l D cy y0 (u_1.1 19) a1 a2 (u_1.1 0) (u_1.1 1) (u_1.1 2) (u_1.1 3) (u_1.1 4) (u_1.1 5) (u_1.1 6) (u_1.1 7) (u_1.1 8) (u_1.1 9) (u_1.1 10) (u_1.1 11) (u_1.1 12) (u_1.1 13) (u_1.1 14) (u_1.1 15) (u_1.1 16) (u_1.1 17) (u_1.1 18) (upd (fun _ => 0) (Int32.toNatClampNeg 1) 1) (q_un (by decide +kernel) rfl) sz) wm_7_160 wm_7_163 wm_1_12 hd_X12_talks wm_7_161 wm_7_162 (ci := 12) (q0 := 0) rfl rfl ⟨Nat.le_of_ble_eq_true rfl, Nat.le_of_ble_eq_true rfl⟩ hl.1 rfl (Nat.le_of_ble_eq_true rfl) dL_law_910 ⟨Nat.le_of_ble_eq_true rfl, Nat.le_of_ble_eq_true rfl⟩ [0, 1] [] rfl rfl (by decide) rfl rfl (fun r_8269 u_8269 Hp2 lc2 w_8269 hw2 => ?_)
  clear Hp1 lc1 hw1
  obtain rfl : r_8269 = (-2) := w_8269
  replace hw2 : qW D _ _ [] _ _ := hw2
  refine lv_icmp_eq (tgt := 1461) hx hb dL_law_913 (by decide) (fun _ => ?_) (fun c => absurd c (by decide +kernel))
  exact law_tail l X hr hlk hX hbl hw2.2.2 hl (Nat.le_of_ble_eq_true rfl) (Nat.le_of_ble_eq_true rfl)
set_option maxHeartbeats 4000000 in
set_option maxRecDepth 100000 in
theorem lc_talkBy (l : Launch) {p : Program} {e : Env} {s : State} {m : MethodId} {below : List Frame} {meth : Method} {c : Code} {b : Nat} {xs : Nat → Int32} {D : va_G} {cy : Nat → ClassId} {H : Heap} {locs : List Loc} {ls : Array Slot} {x0 y0 : Nat} {u_0 u_1 : SS} (X : qX p s m #[Value.ref b] c cL_law 4 RL) (hr : meth.sig.returnType = ret) (hlk : meth.locks = false) (hX : va_X b 6 xs s s.heap) (hbl : b < s.heap.size) (hK : qK D cy s) (a1 a2 a3 a4 a5 : Int32) (e1 : xs (Int32.toNatClampNeg 1) = a1) (e2 : xs (Int32.toNatClampNeg 2) = a2) (e3 : xs (Int32.toNatClampNeg 3) = a3) (e4 : xs (Int32.toNatClampNeg 4) = a4) (e5 : xs (Int32.toNatClampNeg 5) = a5) (h : qW D (fun q => s.heap.size ≤ q) s.heap (wLaw cy x0 y0 u_0 u_1) H locs) (hl : lv_has ls 4 [(3, .int 0), (2, .ref y0), (1, .ref x0), (0, .ref b)]) : W p l e room_1 s m #[Value.ref b] below meth c H locs 99 25544 (lw_Z below #[Value.ref b] s) (F0 m 918 ls []) := by
  obtain ⟨hx, hb, hml, hown, ht⟩ := id X
  have hA : ∀ q : Nat, s.heap.size ≤ q → (fun q : Nat => s.heap.size ≤ q) q := fun _ h => h
  have hbA : ¬ (fun q : Nat => s.heap.size ≤ q) b := Nat.not_le.mpr hbl
  refine lv_aload_n hx hb dL_law_918 rfl (lv_at hl 2 rfl) ?_
  refine lv_aload_n hx hb dL_law_919 rfl (lv_at hl 3 rfl) ?_
  refine lv_iload_n hx hb dL_law_920 rfl (lv_at hl 0 rfl) ?_
  refine lv_iconst (v := 1) hx hb dL_law_921 (by decide) ?_
  refine lv_iadd hx hb dL_law_922 ?_
  refine q_c 1 (by decide +kernel) ?_
  refine va_sld X.1 X.2.1 hX hbl hbA h.2.2 (q_in (by decide +kernel)) dL_law_923 ?_
  refine q_c a1 e1 ?_
  refine lv_aload_n hx hb dL_law_924 rfl (lv_at hl 3 rfl) ?_
  refine lv_iload_n hx hb dL_law_925 rfl (lv_at hl 0 rfl) ?_
  refine lv_iconst (v := 2) hx hb dL_law_926 (by decide) ?_
  refine lv_iadd hx hb dL_law_927 ?_
  refine q_c 2 (by decide +kernel) ?_
  refine va_sld X.1 X.2.1 hX hbl hbA h.2.2 (q_in (by decide +kernel)) dL_law_928 ?_
  refine q_c a2 e2 ?_
  refine lv_aload_n hx hb dL_law_929 rfl (lv_at hl 3 rfl) ?_
  refine lv_iload_n hx hb dL_law_930 rfl (lv_at hl 0 rfl) ?_
  refine lv_iconst (v := 3) hx hb dL_law_931 (by decide) ?_
  refine lv_iadd hx hb dL_law_932 ?_
  refine q_c 3 (by decide +kernel) ?_
  refine va_sld X.1 X.2.1 hX hbl hbA h.2.2 (q_in (by decide +kernel)) dL_law_933 ?_
  refine q_c a3 e3 ?_
  refine q_callVi (rest := []) (wr := [(y0, .inr (12, [.int 0, .ref (u_1.1 19), .ref (u_1.1 0), .ref (u_1.1 1), .ref (u_1.1 2), .int 0, .int 0, .int 0, .int 0, .int 0, .int 0, .int 0, .int 0, .int 0, .int (-1), .int 0, .ref (u_1.1 3), .ref (u_1.1 4), .ref (u_1.1 5), .ref (u_1.1 6), .ref (u_1.1 7), .int 0, .int 0, .ref (u_1.1 8), .ref (u_1.1 9), .ref (u_1.1 10), .int 0, .int 0, .ref (u_1.1 11), .ref (u_1.1 12), .ref (u_1.1 13), .ref (u_1.1 14), .ref (u_1.1 15), .int 0, .ref (u_1.1 16), .ref (u_1.1 17), .ref (u_1.1 18)])), ((u_1.1 19), .inl (cy 1, 3918, .inl (upd (fun _ => 0) (Int32.toNatClampNeg 1) 1)))]) X hK hA h (fun sz => kX11_talkBy_334 l D cy x0 (u_0.1 31) (u_0.1 37) a1 a2 a3 (u_0.1 0) (u_0.1 1) (u_0.1 39) (u_0.1 41) (u_0.1 43) (u_0.1 14) (u_0.1 15) (u_0.1 16) (u_0.1 17) (u_0.1 20) (u_0.1 24) (u_0.1 29) (u_0.1 32) (u_0.1 33) (u_0.1 34) (u_0.1 35) (u_0.1 36) (u_0.1 38)  sz) wm_5_19 wm_5_22 wm_1_1 hd_X11_talkBy wm_5_20 wm_5_21 (ci := 11) (q0 := 0) rfl rfl ⟨Nat.le_of_ble_eq_true rfl, Nat.le_of_ble_eq_true rfl⟩ hl.1 rfl (Nat.le_of_ble_eq_true rfl) dL_law_934 ⟨Nat.le_of_ble_eq_true rfl, Nat.le_of_ble_eq_true rfl⟩ [0, 32, 38] [78, 98] rfl rfl (by decide) rfl rfl (fun r_8301 u_8301 Hp1 lc1 w_8301 hw1 => ?_)
  clear h
  obtain rfl : r_8301 = (-2) := w_8301
  replace hw1 : qW D _ _ [(y0, .inr (12, [.int 0, .ref (u_1.1 19), .ref (u_1.1 0), .ref (u_1.1 1), .ref (u_1.1 2), .int 0, .int 0, .int 0, .int 0, .int 0, .int 0, .int 0, .int 0, .int 0, .int (-1), .int 0, .ref (u_1.1 3), .ref (u_1.1 4), .ref (u_1.1 5), .ref (u_1.1 6), .ref (u_1.1 7), .int 0, .int 0, .ref (u_1.1 8), .ref (u_1.1 9), .ref (u_1.1 10), .int 0, .int 0, .ref (u_1.1 11), .ref (u_1.1 12), .ref (u_1.1 13), .ref (u_1.1 14), .ref (u_1.1 15), .int 0, .ref (u_1.1 16), .ref (u_1.1 17), .ref (u_1.1 18)])), ((u_1.1 19), .inl (cy 1, 3918, .inl (upd (fun _ => 0) (Int32.toNatClampNeg 1) 1)))] _ _ := hw1
  refine lv_aload_n hx hb dL_law_937 rfl (lv_at hl 1 rfl) ?_
  refine lv_aload_n hx hb dL_law_938 rfl (lv_at hl 3 rfl) ?_
  refine lv_iload_n hx hb dL_law_939 rfl (lv_at hl 0 rfl) ?_
  refine lv_iconst (v := 1) hx hb dL_law_940 (by decide) ?_
  refine lv_iadd hx hb dL_law_941 ?_
  refine q_c 1 (by decide +kernel) ?_
  refine va_sld X.1 X.2.1 hX hbl hbA hw1.2.2 (q_in (by decide +kernel)) dL_law_942 ?_
  refine q_c a1 e1 ?_
  refine lv_aload_n hx hb dL_law_943 rfl (lv_at hl 3 rfl) ?_
  refine lv_iload_n hx hb dL_law_944 rfl (lv_at hl 0 rfl) ?_
  refine lv_iconst (v := 2) hx hb dL_law_945 (by decide) ?_
  refine lv_iadd hx hb dL_law_946 ?_
  refine q_c 2 (by decide +kernel) ?_
  refine va_sld X.1 X.2.1 hX hbl hbA hw1.2.2 (q_in (by decide +kernel)) dL_law_947 ?_
  refine q_c a2 e2 ?_
  refine lv_aload_n hx hb dL_law_948 rfl (lv_at hl 3 rfl) ?_
  refine lv_iload_n hx hb dL_law_949 rfl (lv_at hl 0 rfl) ?_
  refine lv_iconst (v := 3) hx hb dL_law_950 (by decide) ?_
  refine lv_iadd hx hb dL_law_951 ?_
  refine q_c 3 (by decide +kernel) ?_
  refine va_sld X.1 X.2.1 hX hbl hbA hw1.2.2 (q_in (by decide +kernel)) dL_law_952 ?_
  refine q_c a3 e3 ?_
  refine q_callVi (rest := [.int (-2)]) (wr := []) X hK hA hw1 (fun sz => kX12_talkBy_335 l D cy y0 (u_1.1 19) a1 a2 a3 (u_1.1 0) (u_1.1 1) (u_1.1 2) (u_1.1 3) (u_1.1 4) (u_1.1 5) (u_1.1 6) (u_1.1 7) (u_1.1 8) (u_1.1 9) (u_1.1 10) (u_1.1 11) (u_1.1 12) (u_1.1 13) (u_1.1 14) (u_1.1 15) (u_1.1 16) (u_1.1 17) (u_1.1 18) (upd (fun _ => 0) (Int32.toNatClampNeg 1) 1) (q_un (by decide +kernel) rfl) sz) wm_7_180 wm_7_183 wm_1_12 hd_X12_talkBy wm_7_181 wm_7_182 (ci := 12) (q0 := 0) rfl rfl ⟨Nat.le_of_ble_eq_true rfl, Nat.le_of_ble_eq_true rfl⟩ hl.1 rfl (Nat.le_of_ble_eq_true rfl) dL_law_953 ⟨Nat.le_of_ble_eq_true rfl, Nat.le_of_ble_eq_true rfl⟩ [0, 1] [] rfl rfl (by decide) rfl rfl (fun r_8307 u_8307 Hp2 lc2 w_8307 hw2 => ?_)
  clear Hp1 lc1 hw1
  obtain rfl : r_8307 = (-2) := w_8307
  replace hw2 : qW D _ _ [] _ _ := hw2
  refine lv_icmp_eq (tgt := 1461) hx hb dL_law_956 (by decide) (fun _ => ?_) (fun c => absurd c (by decide +kernel))
  exact law_tail l X hr hlk hX hbl hw2.2.2 hl (Nat.le_of_ble_eq_true rfl) (Nat.le_of_ble_eq_true rfl)
set_option maxHeartbeats 4000000 in
set_option maxRecDepth 100000 in
theorem lc_word (l : Launch) {p : Program} {e : Env} {s : State} {m : MethodId} {below : List Frame} {meth : Method} {c : Code} {b : Nat} {xs : Nat → Int32} {D : va_G} {cy : Nat → ClassId} {H : Heap} {locs : List Loc} {ls : Array Slot} {x0 y0 : Nat} {u_0 u_1 : SS} (X : qX p s m #[Value.ref b] c cL_law 4 RL) (hr : meth.sig.returnType = ret) (hlk : meth.locks = false) (hX : va_X b 6 xs s s.heap) (hbl : b < s.heap.size) (hK : qK D cy s) (a1 a2 a3 a4 a5 : Int32) (e1 : xs (Int32.toNatClampNeg 1) = a1) (e2 : xs (Int32.toNatClampNeg 2) = a2) (e3 : xs (Int32.toNatClampNeg 3) = a3) (e4 : xs (Int32.toNatClampNeg 4) = a4) (e5 : xs (Int32.toNatClampNeg 5) = a5) (h : qW D (fun q => s.heap.size ≤ q) s.heap (wLaw cy x0 y0 u_0 u_1) H locs) (hl : lv_has ls 4 [(3, .int 0), (2, .ref y0), (1, .ref x0), (0, .ref b)]) : W p l e room_1 s m #[Value.ref b] below meth c H locs 99 25544 (lw_Z below #[Value.ref b] s) (F0 m 961 ls []) := by
  obtain ⟨hx, hb, hml, hown, ht⟩ := id X
  have hA : ∀ q : Nat, s.heap.size ≤ q → (fun q : Nat => s.heap.size ≤ q) q := fun _ h => h
  have hbA : ¬ (fun q : Nat => s.heap.size ≤ q) b := Nat.not_le.mpr hbl
  refine lv_aload_n hx hb dL_law_961 rfl (lv_at hl 2 rfl) ?_
  refine q_callVi (rest := []) (wr := [(y0, .inr (12, [.int 0, .ref (u_1.1 19), .ref (u_1.1 0), .ref (u_1.1 1), .ref (u_1.1 2), .int 0, .int 0, .int 0, .int 0, .int 0, .int 0, .int 0, .int 0, .int 0, .int (-1), .int 0, .ref (u_1.1 3), .ref (u_1.1 4), .ref (u_1.1 5), .ref (u_1.1 6), .ref (u_1.1 7), .int 0, .int 0, .ref (u_1.1 8), .ref (u_1.1 9), .ref (u_1.1 10), .int 0, .int 0, .ref (u_1.1 11), .ref (u_1.1 12), .ref (u_1.1 13), .ref (u_1.1 14), .ref (u_1.1 15), .int 0, .ref (u_1.1 16), .ref (u_1.1 17), .ref (u_1.1 18)])), ((u_1.1 8), .inl (cy 1, 1024, .inl (fun _ => 0))), ((u_1.1 19), .inl (cy 1, 3918, .inl (upd (fun _ => 0) (Int32.toNatClampNeg 1) 1)))]) X hK hA h (fun sz => kX11_word_337 l D cy x0 (u_0.1 20) (u_0.1 21) (u_0.1 31) (u_0.1 37) (u_0.1 0) (u_0.1 1) (u_0.1 39) (u_0.1 41) (u_0.1 43) (u_0.1 14) (u_0.1 15) (u_0.1 16) (u_0.1 17) (u_0.1 24) (u_0.1 29) (u_0.1 22) (u_0.1 23) (u_0.1 32) (u_0.1 33) (u_0.1 34) (u_0.1 35) (u_0.1 36) (u_0.1 38)  sz) wm_5_23 wm_5_26 wm_1_1 hd_X11_word wm_5_24 wm_5_25 (ci := 11) (q0 := 0) rfl rfl ⟨Nat.le_of_ble_eq_true rfl, Nat.le_of_ble_eq_true rfl⟩ hl.1 rfl (Nat.le_of_ble_eq_true rfl) dL_law_962 ⟨Nat.le_of_ble_eq_true rfl, Nat.le_of_ble_eq_true rfl⟩ [0, 21, 22, 32, 38] [78, 87, 98] rfl rfl (by decide) rfl rfl (fun r_8368 u_8368 Hp1 lc1 w_8368 hw1 => ?_)
  clear h
  obtain rfl : r_8368 = (-1) := w_8368
  replace hw1 : qW D _ _ [(y0, .inr (12, [.int 0, .ref (u_1.1 19), .ref (u_1.1 0), .ref (u_1.1 1), .ref (u_1.1 2), .int 0, .int 0, .int 0, .int 0, .int 0, .int 0, .int 0, .int 0, .int 0, .int (-1), .int 0, .ref (u_1.1 3), .ref (u_1.1 4), .ref (u_1.1 5), .ref (u_1.1 6), .ref (u_1.1 7), .int 0, .int 0, .ref (u_1.1 8), .ref (u_1.1 9), .ref (u_1.1 10), .int 0, .int 0, .ref (u_1.1 11), .ref (u_1.1 12), .ref (u_1.1 13), .ref (u_1.1 14), .ref (u_1.1 15), .int 0, .ref (u_1.1 16), .ref (u_1.1 17), .ref (u_1.1 18)])), ((u_1.1 8), .inl (cy 1, 1024, .inl (fun _ => 0))), ((u_1.1 19), .inl (cy 1, 3918, .inl (upd (fun _ => 0) (Int32.toNatClampNeg 1) 1)))] _ _ := hw1
  refine lv_aload_n hx hb dL_law_965 rfl (lv_at hl 1 rfl) ?_
  refine q_callVi (rest := [.int (-1)]) (wr := []) X hK hA hw1 (fun sz => kX12_word_338 l D cy y0 (u_1.1 8) (u_1.1 19) (u_1.1 0) (u_1.1 1) (u_1.1 2) (u_1.1 3) (u_1.1 4) (u_1.1 5) (u_1.1 6) (u_1.1 7) (u_1.1 9) (u_1.1 10) (u_1.1 11) (u_1.1 12) (u_1.1 13) (u_1.1 14) (u_1.1 15) (u_1.1 16) (u_1.1 17) (u_1.1 18) (upd (fun _ => 0) (Int32.toNatClampNeg 1) 1) (q_un (by decide +kernel) rfl) (q_un (by decide +kernel) rfl) (q_un (by decide +kernel) rfl) sz) wm_7_184 wm_7_187 wm_1_12 hd_X12_word wm_7_185 wm_7_186 (ci := 12) (q0 := 0) rfl rfl ⟨Nat.le_of_ble_eq_true rfl, Nat.le_of_ble_eq_true rfl⟩ hl.1 rfl (Nat.le_of_ble_eq_true rfl) dL_law_966 ⟨Nat.le_of_ble_eq_true rfl, Nat.le_of_ble_eq_true rfl⟩ [0, 1, 2] [] rfl rfl (by decide) rfl rfl (fun r_8375 u_8375 Hp2 lc2 w_8375 hw2 => ?_)
  clear Hp1 lc1 hw1
  obtain rfl : r_8375 = (-1) := w_8375
  replace hw2 : qW D _ _ [] _ _ := hw2
  refine lv_icmp_eq (tgt := 1461) hx hb dL_law_969 (by decide) (fun _ => ?_) (fun c => absurd c (by decide +kernel))
  exact law_tail l X hr hlk hX hbl hw2.2.2 hl (Nat.le_of_ble_eq_true rfl) (Nat.le_of_ble_eq_true rfl)
set_option maxHeartbeats 4000000 in
set_option maxRecDepth 100000 in
theorem lc_ayes (l : Launch) {p : Program} {e : Env} {s : State} {m : MethodId} {below : List Frame} {meth : Method} {c : Code} {b : Nat} {xs : Nat → Int32} {D : va_G} {cy : Nat → ClassId} {H : Heap} {locs : List Loc} {ls : Array Slot} {x0 y0 : Nat} {u_0 u_1 : SS} (X : qX p s m #[Value.ref b] c cL_law 4 RL) (hr : meth.sig.returnType = ret) (hlk : meth.locks = false) (hX : va_X b 6 xs s s.heap) (hbl : b < s.heap.size) (hK : qK D cy s) (a1 a2 a3 a4 a5 : Int32) (e1 : xs (Int32.toNatClampNeg 1) = a1) (e2 : xs (Int32.toNatClampNeg 2) = a2) (e3 : xs (Int32.toNatClampNeg 3) = a3) (e4 : xs (Int32.toNatClampNeg 4) = a4) (e5 : xs (Int32.toNatClampNeg 5) = a5) (h : qW D (fun q => s.heap.size ≤ q) s.heap (wLaw cy x0 y0 u_0 u_1) H locs) (hl : lv_has ls 4 [(3, .int 0), (2, .ref y0), (1, .ref x0), (0, .ref b)]) : W p l e room_1 s m #[Value.ref b] below meth c H locs 99 25544 (lw_Z below #[Value.ref b] s) (F0 m 974 ls []) := by
  obtain ⟨hx, hb, hml, hown, ht⟩ := id X
  have hA : ∀ q : Nat, s.heap.size ≤ q → (fun q : Nat => s.heap.size ≤ q) q := fun _ h => h
  have hbA : ¬ (fun q : Nat => s.heap.size ≤ q) b := Nat.not_le.mpr hbl
  by_cases c_8380 : a1 ≤ (-1)
  · skip
    refine lv_aload_n hx hb dL_law_974 rfl (lv_at hl 2 rfl) ?_
    refine lv_aload_n hx hb dL_law_975 rfl (lv_at hl 3 rfl) ?_
    refine lv_iload_n hx hb dL_law_976 rfl (lv_at hl 0 rfl) ?_
    refine lv_iconst (v := 1) hx hb dL_law_977 (by decide) ?_
    refine lv_iadd hx hb dL_law_978 ?_
    refine q_c 1 (by decide +kernel) ?_
    refine va_sld X.1 X.2.1 hX hbl hbA h.2.2 (q_in (by decide +kernel)) dL_law_979 ?_
    refine q_c a1 e1 ?_
    have g_8418 : a1 ≤ ((-1) : Int32) := by
      simp only [Int32.lt_iff_toInt_lt, Int32.le_iff_toInt_le, ← Int32.toInt_inj] at c_8380 ⊢
      have k_0 : ((-1) : Int32).toInt = -1 := by decide
      omega
    refine q_callVi (rest := []) (wr := [(y0, .inr (12, [.int 0, .ref (u_1.1 19), .ref (u_1.1 0), .ref (u_1.1 1), .ref (u_1.1 2), .int 0, .int 0, .int 0, .int 0, .int 0, .int 0, .int 0, .int 0, .int 0, .int (-1), .int 0, .ref (u_1.1 3), .ref (u_1.1 4), .ref (u_1.1 5), .ref (u_1.1 6), .ref (u_1.1 7), .int 0, .int 0, .ref (u_1.1 8), .ref (u_1.1 9), .ref (u_1.1 10), .int 0, .int 0, .ref (u_1.1 11), .ref (u_1.1 12), .ref (u_1.1 13), .ref (u_1.1 14), .ref (u_1.1 15), .int 0, .ref (u_1.1 16), .ref (u_1.1 17), .ref (u_1.1 18)]))]) X hK hA h (fun sz => kX11_ayes_340 l D cy x0 a1 (u_0.1 0) (u_0.1 1) (u_0.1 37) (u_0.1 39) (u_0.1 41) (u_0.1 43) (u_0.1 14) (u_0.1 15) (u_0.1 16) (u_0.1 17) (u_0.1 20) (u_0.1 24) (u_0.1 29) g_8418 sz) wm_5_32 wm_5_35 wm_1_1 hd_X11_ayes wm_5_33 wm_5_34 (ci := 11) (q0 := 0) rfl rfl ⟨Nat.le_of_ble_eq_true rfl, Nat.le_of_ble_eq_true rfl⟩ hl.1 rfl (Nat.le_of_ble_eq_true rfl) dL_law_980 ⟨Nat.le_of_ble_eq_true rfl, Nat.le_of_ble_eq_true rfl⟩ [0] [78] rfl rfl (by decide) rfl rfl (fun r_8419 u_8419 Hp1 lc1 w_8419 hw1 => ?_)
    clear h
    obtain rfl : r_8419 = (-3) := w_8419
    replace hw1 : qW D _ _ [(y0, .inr (12, [.int 0, .ref (u_1.1 19), .ref (u_1.1 0), .ref (u_1.1 1), .ref (u_1.1 2), .int 0, .int 0, .int 0, .int 0, .int 0, .int 0, .int 0, .int 0, .int 0, .int (-1), .int 0, .ref (u_1.1 3), .ref (u_1.1 4), .ref (u_1.1 5), .ref (u_1.1 6), .ref (u_1.1 7), .int 0, .int 0, .ref (u_1.1 8), .ref (u_1.1 9), .ref (u_1.1 10), .int 0, .int 0, .ref (u_1.1 11), .ref (u_1.1 12), .ref (u_1.1 13), .ref (u_1.1 14), .ref (u_1.1 15), .int 0, .ref (u_1.1 16), .ref (u_1.1 17), .ref (u_1.1 18)]))] _ _ := hw1
    refine lv_aload_n hx hb dL_law_983 rfl (lv_at hl 1 rfl) ?_
    refine lv_aload_n hx hb dL_law_984 rfl (lv_at hl 3 rfl) ?_
    refine lv_iload_n hx hb dL_law_985 rfl (lv_at hl 0 rfl) ?_
    refine lv_iconst (v := 1) hx hb dL_law_986 (by decide) ?_
    refine lv_iadd hx hb dL_law_987 ?_
    refine q_c 1 (by decide +kernel) ?_
    refine va_sld X.1 X.2.1 hX hbl hbA hw1.2.2 (q_in (by decide +kernel)) dL_law_988 ?_
    refine q_c a1 e1 ?_
    have g_8425 : a1 ≤ ((-1) : Int32) := by
      simp only [Int32.lt_iff_toInt_lt, Int32.le_iff_toInt_le, ← Int32.toInt_inj] at c_8380 ⊢
      have k_0 : ((-1) : Int32).toInt = -1 := by decide
      omega
    refine q_callVi (rest := [.int (-3)]) (wr := []) X hK hA hw1 (fun sz => kX12_ayes_343 l D cy y0 a1 (u_1.1 19) (u_1.1 0) (u_1.1 1) (u_1.1 2) (u_1.1 3) (u_1.1 4) (u_1.1 5) (u_1.1 6) (u_1.1 7) (u_1.1 8) (u_1.1 9) (u_1.1 10) (u_1.1 11) (u_1.1 12) (u_1.1 13) (u_1.1 14) (u_1.1 15) (u_1.1 16) (u_1.1 17) (u_1.1 18) g_8425 sz) wm_7_188 wm_7_191 wm_1_12 hd_X12_ayes wm_7_189 wm_7_190 (ci := 12) (q0 := 0) rfl rfl ⟨Nat.le_of_ble_eq_true rfl, Nat.le_of_ble_eq_true rfl⟩ hl.1 rfl (Nat.le_of_ble_eq_true rfl) dL_law_989 ⟨Nat.le_of_ble_eq_true rfl, Nat.le_of_ble_eq_true rfl⟩ [0] [] rfl rfl (by decide) rfl rfl (fun r_8426 u_8426 Hp2 lc2 w_8426 hw2 => ?_)
    clear Hp1 lc1 hw1
    obtain rfl : r_8426 = (-3) := w_8426
    replace hw2 : qW D _ _ [] _ _ := hw2
    refine lv_icmp_eq (tgt := 1461) hx hb dL_law_992 (by decide) (fun _ => ?_) (fun c => absurd c (by decide +kernel))
    exact law_tail l X hr hlk hX hbl hw2.2.2 hl (Nat.le_of_ble_eq_true rfl) (Nat.le_of_ble_eq_true rfl)
  by_cases c_8427 : a1 ≤ 9
  · skip
    refine lv_aload_n hx hb dL_law_974 rfl (lv_at hl 2 rfl) ?_
    refine lv_aload_n hx hb dL_law_975 rfl (lv_at hl 3 rfl) ?_
    refine lv_iload_n hx hb dL_law_976 rfl (lv_at hl 0 rfl) ?_
    refine lv_iconst (v := 1) hx hb dL_law_977 (by decide) ?_
    refine lv_iadd hx hb dL_law_978 ?_
    refine q_c 1 (by decide +kernel) ?_
    refine va_sld X.1 X.2.1 hX hbl hbA h.2.2 (q_in (by decide +kernel)) dL_law_979 ?_
    refine q_c a1 e1 ?_
    have g_8529 : (0 : Int32) ≤ a1 := by
      simp only [Int32.lt_iff_toInt_lt, Int32.le_iff_toInt_le, ← Int32.toInt_inj] at c_8380 c_8427 ⊢
      have k_0 : ((-1) : Int32).toInt = -1 := by decide
      have k_1 : (9 : Int32).toInt = 9 := by decide
      have k_g : (0 : Int32).toInt = 0 := by decide
      omega
    have g_8530 : a1 ≤ (9 : Int32) := by
      simp only [Int32.lt_iff_toInt_lt, Int32.le_iff_toInt_le, ← Int32.toInt_inj] at c_8380 c_8427 ⊢
      have k_0 : ((-1) : Int32).toInt = -1 := by decide
      have k_1 : (9 : Int32).toInt = 9 := by decide
      omega
    refine q_callVi (rest := []) (wr := [(y0, .inr (12, [.int 0, .ref (u_1.1 19), .ref (u_1.1 0), .ref (u_1.1 1), .ref (u_1.1 2), .int 0, .int 0, .int 0, .int 0, .int 0, .int 0, .int 0, .int 0, .int 0, .int (-1), .int 0, .ref (u_1.1 3), .ref (u_1.1 4), .ref (u_1.1 5), .ref (u_1.1 6), .ref (u_1.1 7), .int 0, .int 0, .ref (u_1.1 8), .ref (u_1.1 9), .ref (u_1.1 10), .int 0, .int 0, .ref (u_1.1 11), .ref (u_1.1 12), .ref (u_1.1 13), .ref (u_1.1 14), .ref (u_1.1 15), .int 0, .ref (u_1.1 16), .ref (u_1.1 17), .ref (u_1.1 18)])), ((u_1.1 19), .inl (cy 1, 3918, .inl (upd (fun _ => 0) (Int32.toNatClampNeg 1) 1)))]) X hK hA h (fun sz => kX11_ayes_346 l D cy x0 (u_0.1 31) (u_0.1 37) a1 (u_0.1 0) (u_0.1 1) (u_0.1 39) (u_0.1 41) (u_0.1 43) (u_0.1 14) (u_0.1 15) (u_0.1 16) (u_0.1 17) (u_0.1 20) (u_0.1 24) (u_0.1 29) (u_0.1 32) (u_0.1 33) (u_0.1 34) (u_0.1 35) (u_0.1 36) (u_0.1 38) g_8529 g_8530 sz) wm_5_32 wm_5_35 wm_1_1 hd_X11_ayes wm_5_33 wm_5_34 (ci := 11) (q0 := 0) rfl rfl ⟨Nat.le_of_ble_eq_true rfl, Nat.le_of_ble_eq_true rfl⟩ hl.1 rfl (Nat.le_of_ble_eq_true rfl) dL_law_980 ⟨Nat.le_of_ble_eq_true rfl, Nat.le_of_ble_eq_true rfl⟩ [0, 32, 38] [78, 98] rfl rfl (by decide) rfl rfl (fun r_8531 u_8531 Hp3 lc3 w_8531 hw3 => ?_)
    clear h
    obtain rfl : r_8531 = 0 := w_8531
    replace hw3 : qW D _ _ [(y0, .inr (12, [.int 0, .ref (u_1.1 19), .ref (u_1.1 0), .ref (u_1.1 1), .ref (u_1.1 2), .int 0, .int 0, .int 0, .int 0, .int 0, .int 0, .int 0, .int 0, .int 0, .int (-1), .int 0, .ref (u_1.1 3), .ref (u_1.1 4), .ref (u_1.1 5), .ref (u_1.1 6), .ref (u_1.1 7), .int 0, .int 0, .ref (u_1.1 8), .ref (u_1.1 9), .ref (u_1.1 10), .int 0, .int 0, .ref (u_1.1 11), .ref (u_1.1 12), .ref (u_1.1 13), .ref (u_1.1 14), .ref (u_1.1 15), .int 0, .ref (u_1.1 16), .ref (u_1.1 17), .ref (u_1.1 18)])), ((u_1.1 19), .inl (cy 1, 3918, .inl (upd (fun _ => 0) (Int32.toNatClampNeg 1) 1)))] _ _ := hw3
    refine lv_aload_n hx hb dL_law_983 rfl (lv_at hl 1 rfl) ?_
    refine lv_aload_n hx hb dL_law_984 rfl (lv_at hl 3 rfl) ?_
    refine lv_iload_n hx hb dL_law_985 rfl (lv_at hl 0 rfl) ?_
    refine lv_iconst (v := 1) hx hb dL_law_986 (by decide) ?_
    refine lv_iadd hx hb dL_law_987 ?_
    refine q_c 1 (by decide +kernel) ?_
    refine va_sld X.1 X.2.1 hX hbl hbA hw3.2.2 (q_in (by decide +kernel)) dL_law_988 ?_
    refine q_c a1 e1 ?_
    have g_8545 : (0 : Int32) ≤ a1 := by
      simp only [Int32.lt_iff_toInt_lt, Int32.le_iff_toInt_le, ← Int32.toInt_inj] at c_8380 c_8427 ⊢
      have k_0 : ((-1) : Int32).toInt = -1 := by decide
      have k_1 : (9 : Int32).toInt = 9 := by decide
      have k_g : (0 : Int32).toInt = 0 := by decide
      omega
    have g_8546 : a1 ≤ (9 : Int32) := by
      simp only [Int32.lt_iff_toInt_lt, Int32.le_iff_toInt_le, ← Int32.toInt_inj] at c_8380 c_8427 ⊢
      have k_0 : ((-1) : Int32).toInt = -1 := by decide
      have k_1 : (9 : Int32).toInt = 9 := by decide
      omega
    refine q_callVi (rest := [.int 0]) (wr := []) X hK hA hw3 (fun sz => kX12_ayes_351 l D cy y0 (u_1.1 19) a1 (u_1.1 0) (u_1.1 1) (u_1.1 2) (u_1.1 3) (u_1.1 4) (u_1.1 5) (u_1.1 6) (u_1.1 7) (u_1.1 8) (u_1.1 9) (u_1.1 10) (u_1.1 11) (u_1.1 12) (u_1.1 13) (u_1.1 14) (u_1.1 15) (u_1.1 16) (u_1.1 17) (u_1.1 18) (upd (fun _ => 0) (Int32.toNatClampNeg 1) 1) g_8545 g_8546 (q_un (by decide +kernel) rfl) (q_un (by decide +kernel) rfl) (q_un (by decide +kernel) rfl) sz) wm_7_188 wm_7_191 wm_1_12 hd_X12_ayes wm_7_189 wm_7_190 (ci := 12) (q0 := 0) rfl rfl ⟨Nat.le_of_ble_eq_true rfl, Nat.le_of_ble_eq_true rfl⟩ hl.1 rfl (Nat.le_of_ble_eq_true rfl) dL_law_989 ⟨Nat.le_of_ble_eq_true rfl, Nat.le_of_ble_eq_true rfl⟩ [0, 1] [] rfl rfl (by decide) rfl rfl (fun r_8547 u_8547 Hp4 lc4 w_8547 hw4 => ?_)
    clear Hp3 lc3 hw3
    obtain rfl : r_8547 = 0 := w_8547
    replace hw4 : qW D _ _ [] _ _ := hw4
    refine lv_icmp_eq (tgt := 1461) hx hb dL_law_992 (by decide) (fun _ => ?_) (fun c => absurd c (by decide +kernel))
    exact law_tail l X hr hlk hX hbl hw4.2.2 hl (Nat.le_of_ble_eq_true rfl) (Nat.le_of_ble_eq_true rfl)
  refine lv_aload_n hx hb dL_law_974 rfl (lv_at hl 2 rfl) ?_
  refine lv_aload_n hx hb dL_law_975 rfl (lv_at hl 3 rfl) ?_
  refine lv_iload_n hx hb dL_law_976 rfl (lv_at hl 0 rfl) ?_
  refine lv_iconst (v := 1) hx hb dL_law_977 (by decide) ?_
  refine lv_iadd hx hb dL_law_978 ?_
  refine q_c 1 (by decide +kernel) ?_
  refine va_sld X.1 X.2.1 hX hbl hbA h.2.2 (q_in (by decide +kernel)) dL_law_979 ?_
  refine q_c a1 e1 ?_
  have g_8599 : (10 : Int32) ≤ a1 := by
    simp only [Int32.lt_iff_toInt_lt, Int32.le_iff_toInt_le, ← Int32.toInt_inj] at c_8380 c_8427 ⊢
    have k_0 : ((-1) : Int32).toInt = -1 := by decide
    have k_1 : (9 : Int32).toInt = 9 := by decide
    have k_g : (10 : Int32).toInt = 10 := by decide
    omega
  refine q_callVi (rest := []) (wr := [(y0, .inr (12, [.int 0, .ref (u_1.1 19), .ref (u_1.1 0), .ref (u_1.1 1), .ref (u_1.1 2), .int 0, .int 0, .int 0, .int 0, .int 0, .int 0, .int 0, .int 0, .int 0, .int (-1), .int 0, .ref (u_1.1 3), .ref (u_1.1 4), .ref (u_1.1 5), .ref (u_1.1 6), .ref (u_1.1 7), .int 0, .int 0, .ref (u_1.1 8), .ref (u_1.1 9), .ref (u_1.1 10), .int 0, .int 0, .ref (u_1.1 11), .ref (u_1.1 12), .ref (u_1.1 13), .ref (u_1.1 14), .ref (u_1.1 15), .int 0, .ref (u_1.1 16), .ref (u_1.1 17), .ref (u_1.1 18)]))]) X hK hA h (fun sz => kX11_ayes_353 l D cy x0 a1 (u_0.1 0) (u_0.1 1) (u_0.1 37) (u_0.1 39) (u_0.1 41) (u_0.1 43) (u_0.1 14) (u_0.1 15) (u_0.1 16) (u_0.1 17) (u_0.1 20) (u_0.1 24) (u_0.1 29) g_8599 sz) wm_5_32 wm_5_35 wm_1_1 hd_X11_ayes wm_5_33 wm_5_34 (ci := 11) (q0 := 0) rfl rfl ⟨Nat.le_of_ble_eq_true rfl, Nat.le_of_ble_eq_true rfl⟩ hl.1 rfl (Nat.le_of_ble_eq_true rfl) dL_law_980 ⟨Nat.le_of_ble_eq_true rfl, Nat.le_of_ble_eq_true rfl⟩ [0] [78] rfl rfl (by decide) rfl rfl (fun r_8600 u_8600 Hp5 lc5 w_8600 hw5 => ?_)
  clear h
  obtain rfl : r_8600 = (-3) := w_8600
  replace hw5 : qW D _ _ [(y0, .inr (12, [.int 0, .ref (u_1.1 19), .ref (u_1.1 0), .ref (u_1.1 1), .ref (u_1.1 2), .int 0, .int 0, .int 0, .int 0, .int 0, .int 0, .int 0, .int 0, .int 0, .int (-1), .int 0, .ref (u_1.1 3), .ref (u_1.1 4), .ref (u_1.1 5), .ref (u_1.1 6), .ref (u_1.1 7), .int 0, .int 0, .ref (u_1.1 8), .ref (u_1.1 9), .ref (u_1.1 10), .int 0, .int 0, .ref (u_1.1 11), .ref (u_1.1 12), .ref (u_1.1 13), .ref (u_1.1 14), .ref (u_1.1 15), .int 0, .ref (u_1.1 16), .ref (u_1.1 17), .ref (u_1.1 18)]))] _ _ := hw5
  refine lv_aload_n hx hb dL_law_983 rfl (lv_at hl 1 rfl) ?_
  refine lv_aload_n hx hb dL_law_984 rfl (lv_at hl 3 rfl) ?_
  refine lv_iload_n hx hb dL_law_985 rfl (lv_at hl 0 rfl) ?_
  refine lv_iconst (v := 1) hx hb dL_law_986 (by decide) ?_
  refine lv_iadd hx hb dL_law_987 ?_
  refine q_c 1 (by decide +kernel) ?_
  refine va_sld X.1 X.2.1 hX hbl hbA hw5.2.2 (q_in (by decide +kernel)) dL_law_988 ?_
  refine q_c a1 e1 ?_
  have g_8607 : (10 : Int32) ≤ a1 := by
    simp only [Int32.lt_iff_toInt_lt, Int32.le_iff_toInt_le, ← Int32.toInt_inj] at c_8380 c_8427 ⊢
    have k_0 : ((-1) : Int32).toInt = -1 := by decide
    have k_1 : (9 : Int32).toInt = 9 := by decide
    have k_g : (10 : Int32).toInt = 10 := by decide
    omega
  refine q_callVi (rest := [.int (-3)]) (wr := []) X hK hA hw5 (fun sz => kX12_ayes_356 l D cy y0 a1 (u_1.1 19) (u_1.1 0) (u_1.1 1) (u_1.1 2) (u_1.1 3) (u_1.1 4) (u_1.1 5) (u_1.1 6) (u_1.1 7) (u_1.1 8) (u_1.1 9) (u_1.1 10) (u_1.1 11) (u_1.1 12) (u_1.1 13) (u_1.1 14) (u_1.1 15) (u_1.1 16) (u_1.1 17) (u_1.1 18) g_8607 sz) wm_7_188 wm_7_191 wm_1_12 hd_X12_ayes wm_7_189 wm_7_190 (ci := 12) (q0 := 0) rfl rfl ⟨Nat.le_of_ble_eq_true rfl, Nat.le_of_ble_eq_true rfl⟩ hl.1 rfl (Nat.le_of_ble_eq_true rfl) dL_law_989 ⟨Nat.le_of_ble_eq_true rfl, Nat.le_of_ble_eq_true rfl⟩ [0] [] rfl rfl (by decide) rfl rfl (fun r_8608 u_8608 Hp6 lc6 w_8608 hw6 => ?_)
  clear Hp5 lc5 hw5
  obtain rfl : r_8608 = (-3) := w_8608
  replace hw6 : qW D _ _ [] _ _ := hw6
  refine lv_icmp_eq (tgt := 1461) hx hb dL_law_992 (by decide) (fun _ => ?_) (fun c => absurd c (by decide +kernel))
  exact law_tail l X hr hlk hX hbl hw6.2.2 hl (Nat.le_of_ble_eq_true rfl) (Nat.le_of_ble_eq_true rfl)
set_option maxHeartbeats 4000000 in
set_option maxRecDepth 100000 in
theorem lc_passes (l : Launch) {p : Program} {e : Env} {s : State} {m : MethodId} {below : List Frame} {meth : Method} {c : Code} {b : Nat} {xs : Nat → Int32} {D : va_G} {cy : Nat → ClassId} {H : Heap} {locs : List Loc} {ls : Array Slot} {x0 y0 : Nat} {u_0 u_1 : SS} (X : qX p s m #[Value.ref b] c cL_law 4 RL) (hr : meth.sig.returnType = ret) (hlk : meth.locks = false) (hX : va_X b 6 xs s s.heap) (hbl : b < s.heap.size) (hK : qK D cy s) (a1 a2 a3 a4 a5 : Int32) (e1 : xs (Int32.toNatClampNeg 1) = a1) (e2 : xs (Int32.toNatClampNeg 2) = a2) (e3 : xs (Int32.toNatClampNeg 3) = a3) (e4 : xs (Int32.toNatClampNeg 4) = a4) (e5 : xs (Int32.toNatClampNeg 5) = a5) (h : qW D (fun q => s.heap.size ≤ q) s.heap (wLaw cy x0 y0 u_0 u_1) H locs) (hl : lv_has ls 4 [(3, .int 0), (2, .ref y0), (1, .ref x0), (0, .ref b)]) : W p l e room_1 s m #[Value.ref b] below meth c H locs 99 25544 (lw_Z below #[Value.ref b] s) (F0 m 997 ls []) := by
  obtain ⟨hx, hb, hml, hown, ht⟩ := id X
  have hA : ∀ q : Nat, s.heap.size ≤ q → (fun q : Nat => s.heap.size ≤ q) q := fun _ h => h
  have hbA : ¬ (fun q : Nat => s.heap.size ≤ q) b := Nat.not_le.mpr hbl
  by_cases c_8613 : a1 ≤ (-1)
  · skip
    refine lv_aload_n hx hb dL_law_997 rfl (lv_at hl 2 rfl) ?_
    refine lv_aload_n hx hb dL_law_998 rfl (lv_at hl 3 rfl) ?_
    refine lv_iload_n hx hb dL_law_999 rfl (lv_at hl 0 rfl) ?_
    refine lv_iconst (v := 1) hx hb dL_law_1000 (by decide) ?_
    refine lv_iadd hx hb dL_law_1001 ?_
    refine q_c 1 (by decide +kernel) ?_
    refine va_sld X.1 X.2.1 hX hbl hbA h.2.2 (q_in (by decide +kernel)) dL_law_1002 ?_
    refine q_c a1 e1 ?_
    have g_8641 : a1 ≤ ((-1) : Int32) := by
      simp only [Int32.lt_iff_toInt_lt, Int32.le_iff_toInt_le, ← Int32.toInt_inj] at c_8613 ⊢
      have k_0 : ((-1) : Int32).toInt = -1 := by decide
      omega
    refine q_callVi (rest := []) (wr := [(y0, .inr (12, [.int 0, .ref (u_1.1 19), .ref (u_1.1 0), .ref (u_1.1 1), .ref (u_1.1 2), .int 0, .int 0, .int 0, .int 0, .int 0, .int 0, .int 0, .int 0, .int 0, .int (-1), .int 0, .ref (u_1.1 3), .ref (u_1.1 4), .ref (u_1.1 5), .ref (u_1.1 6), .ref (u_1.1 7), .int 0, .int 0, .ref (u_1.1 8), .ref (u_1.1 9), .ref (u_1.1 10), .int 0, .int 0, .ref (u_1.1 11), .ref (u_1.1 12), .ref (u_1.1 13), .ref (u_1.1 14), .ref (u_1.1 15), .int 0, .ref (u_1.1 16), .ref (u_1.1 17), .ref (u_1.1 18)]))]) X hK hA h (fun sz => kX11_passes_357 l D cy x0 a1 (u_0.1 0) (u_0.1 1) (u_0.1 37) (u_0.1 39) (u_0.1 41) (u_0.1 43) (u_0.1 14) (u_0.1 15) (u_0.1 16) (u_0.1 17) (u_0.1 20) (u_0.1 24) (u_0.1 29) g_8641 sz) wm_5_48 wm_5_51 wm_1_1 hd_X11_passes wm_5_49 wm_5_50 (ci := 11) (q0 := 0) rfl rfl ⟨Nat.le_of_ble_eq_true rfl, Nat.le_of_ble_eq_true rfl⟩ hl.1 rfl (Nat.le_of_ble_eq_true rfl) dL_law_1003 ⟨Nat.le_of_ble_eq_true rfl, Nat.le_of_ble_eq_true rfl⟩ [0] [78] rfl rfl (by decide) rfl rfl (fun r_8642 u_8642 Hp1 lc1 w_8642 hw1 => ?_)
    clear h
    obtain rfl : r_8642 = (-3) := w_8642
    replace hw1 : qW D _ _ [(y0, .inr (12, [.int 0, .ref (u_1.1 19), .ref (u_1.1 0), .ref (u_1.1 1), .ref (u_1.1 2), .int 0, .int 0, .int 0, .int 0, .int 0, .int 0, .int 0, .int 0, .int 0, .int (-1), .int 0, .ref (u_1.1 3), .ref (u_1.1 4), .ref (u_1.1 5), .ref (u_1.1 6), .ref (u_1.1 7), .int 0, .int 0, .ref (u_1.1 8), .ref (u_1.1 9), .ref (u_1.1 10), .int 0, .int 0, .ref (u_1.1 11), .ref (u_1.1 12), .ref (u_1.1 13), .ref (u_1.1 14), .ref (u_1.1 15), .int 0, .ref (u_1.1 16), .ref (u_1.1 17), .ref (u_1.1 18)]))] _ _ := hw1
    refine lv_aload_n hx hb dL_law_1006 rfl (lv_at hl 1 rfl) ?_
    refine lv_aload_n hx hb dL_law_1007 rfl (lv_at hl 3 rfl) ?_
    refine lv_iload_n hx hb dL_law_1008 rfl (lv_at hl 0 rfl) ?_
    refine lv_iconst (v := 1) hx hb dL_law_1009 (by decide) ?_
    refine lv_iadd hx hb dL_law_1010 ?_
    refine q_c 1 (by decide +kernel) ?_
    refine va_sld X.1 X.2.1 hX hbl hbA hw1.2.2 (q_in (by decide +kernel)) dL_law_1011 ?_
    refine q_c a1 e1 ?_
    have g_8648 : a1 ≤ ((-1) : Int32) := by
      simp only [Int32.lt_iff_toInt_lt, Int32.le_iff_toInt_le, ← Int32.toInt_inj] at c_8613 ⊢
      have k_0 : ((-1) : Int32).toInt = -1 := by decide
      omega
    refine q_callVi (rest := [.int (-3)]) (wr := []) X hK hA hw1 (fun sz => kX12_passes_358 l D cy y0 a1 (u_1.1 19) (u_1.1 0) (u_1.1 1) (u_1.1 2) (u_1.1 3) (u_1.1 4) (u_1.1 5) (u_1.1 6) (u_1.1 7) (u_1.1 8) (u_1.1 9) (u_1.1 10) (u_1.1 11) (u_1.1 12) (u_1.1 13) (u_1.1 14) (u_1.1 15) (u_1.1 16) (u_1.1 17) (u_1.1 18) g_8648 sz) wm_7_203 wm_7_206 wm_1_12 hd_X12_passes wm_7_204 wm_7_205 (ci := 12) (q0 := 0) rfl rfl ⟨Nat.le_of_ble_eq_true rfl, Nat.le_of_ble_eq_true rfl⟩ hl.1 rfl (Nat.le_of_ble_eq_true rfl) dL_law_1012 ⟨Nat.le_of_ble_eq_true rfl, Nat.le_of_ble_eq_true rfl⟩ [0] [] rfl rfl (by decide) rfl rfl (fun r_8649 u_8649 Hp2 lc2 w_8649 hw2 => ?_)
    clear Hp1 lc1 hw1
    obtain rfl : r_8649 = (-3) := w_8649
    replace hw2 : qW D _ _ [] _ _ := hw2
    refine lv_icmp_eq (tgt := 1461) hx hb dL_law_1015 (by decide) (fun _ => ?_) (fun c => absurd c (by decide +kernel))
    exact law_tail l X hr hlk hX hbl hw2.2.2 hl (Nat.le_of_ble_eq_true rfl) (Nat.le_of_ble_eq_true rfl)
  by_cases c_8650 : a1 ≤ 9
  · skip
    refine lv_aload_n hx hb dL_law_997 rfl (lv_at hl 2 rfl) ?_
    refine lv_aload_n hx hb dL_law_998 rfl (lv_at hl 3 rfl) ?_
    refine lv_iload_n hx hb dL_law_999 rfl (lv_at hl 0 rfl) ?_
    refine lv_iconst (v := 1) hx hb dL_law_1000 (by decide) ?_
    refine lv_iadd hx hb dL_law_1001 ?_
    refine q_c 1 (by decide +kernel) ?_
    refine va_sld X.1 X.2.1 hX hbl hbA h.2.2 (q_in (by decide +kernel)) dL_law_1002 ?_
    refine q_c a1 e1 ?_
    have g_8806 : (0 : Int32) ≤ a1 := by
      simp only [Int32.lt_iff_toInt_lt, Int32.le_iff_toInt_le, ← Int32.toInt_inj] at c_8613 c_8650 ⊢
      have k_0 : ((-1) : Int32).toInt = -1 := by decide
      have k_1 : (9 : Int32).toInt = 9 := by decide
      have k_g : (0 : Int32).toInt = 0 := by decide
      omega
    have g_8807 : a1 ≤ (9 : Int32) := by
      simp only [Int32.lt_iff_toInt_lt, Int32.le_iff_toInt_le, ← Int32.toInt_inj] at c_8613 c_8650 ⊢
      have k_0 : ((-1) : Int32).toInt = -1 := by decide
      have k_1 : (9 : Int32).toInt = 9 := by decide
      omega
    refine q_callVi (rest := []) (wr := [(y0, .inr (12, [.int 0, .ref (u_1.1 19), .ref (u_1.1 0), .ref (u_1.1 1), .ref (u_1.1 2), .int 0, .int 0, .int 0, .int 0, .int 0, .int 0, .int 0, .int 0, .int 0, .int (-1), .int 0, .ref (u_1.1 3), .ref (u_1.1 4), .ref (u_1.1 5), .ref (u_1.1 6), .ref (u_1.1 7), .int 0, .int 0, .ref (u_1.1 8), .ref (u_1.1 9), .ref (u_1.1 10), .int 0, .int 0, .ref (u_1.1 11), .ref (u_1.1 12), .ref (u_1.1 13), .ref (u_1.1 14), .ref (u_1.1 15), .int 0, .ref (u_1.1 16), .ref (u_1.1 17), .ref (u_1.1 18)])), ((u_1.1 8), .inl (cy 1, 1024, .inl (fun _ => 0))), ((u_1.1 19), .inl (cy 1, 3918, .inl (upd (fun _ => 0) (Int32.toNatClampNeg 1) 1)))]) X hK hA h (fun sz => kX11_passes_360 l D cy x0 (u_0.1 31) (u_0.1 37) a1 (u_0.1 0) (u_0.1 1) (u_0.1 39) (u_0.1 41) (u_0.1 43) (u_0.1 14) (u_0.1 15) (u_0.1 16) (u_0.1 17) (u_0.1 20) (u_0.1 24) (u_0.1 29) (u_0.1 32) (u_0.1 33) (u_0.1 34) (u_0.1 35) (u_0.1 36) (u_0.1 38) g_8806 g_8807 sz) wm_5_48 wm_5_51 wm_1_1 hd_X11_passes wm_5_49 wm_5_50 (ci := 11) (q0 := 0) rfl rfl ⟨Nat.le_of_ble_eq_true rfl, Nat.le_of_ble_eq_true rfl⟩ hl.1 rfl (Nat.le_of_ble_eq_true rfl) dL_law_1003 ⟨Nat.le_of_ble_eq_true rfl, Nat.le_of_ble_eq_true rfl⟩ [0, 32, 38] [78, 87, 98] rfl rfl (by decide) rfl rfl (fun r_8808 u_8808 Hp3 lc3 w_8808 hw3 => ?_)
    clear h
    obtain rfl : r_8808 = 0 := w_8808
    replace hw3 : qW D _ _ [(y0, .inr (12, [.int 0, .ref (u_1.1 19), .ref (u_1.1 0), .ref (u_1.1 1), .ref (u_1.1 2), .int 0, .int 0, .int 0, .int 0, .int 0, .int 0, .int 0, .int 0, .int 0, .int (-1), .int 0, .ref (u_1.1 3), .ref (u_1.1 4), .ref (u_1.1 5), .ref (u_1.1 6), .ref (u_1.1 7), .int 0, .int 0, .ref (u_1.1 8), .ref (u_1.1 9), .ref (u_1.1 10), .int 0, .int 0, .ref (u_1.1 11), .ref (u_1.1 12), .ref (u_1.1 13), .ref (u_1.1 14), .ref (u_1.1 15), .int 0, .ref (u_1.1 16), .ref (u_1.1 17), .ref (u_1.1 18)])), ((u_1.1 8), .inl (cy 1, 1024, .inl (fun _ => 0))), ((u_1.1 19), .inl (cy 1, 3918, .inl (upd (fun _ => 0) (Int32.toNatClampNeg 1) 1)))] _ _ := hw3
    refine lv_aload_n hx hb dL_law_1006 rfl (lv_at hl 1 rfl) ?_
    refine lv_aload_n hx hb dL_law_1007 rfl (lv_at hl 3 rfl) ?_
    refine lv_iload_n hx hb dL_law_1008 rfl (lv_at hl 0 rfl) ?_
    refine lv_iconst (v := 1) hx hb dL_law_1009 (by decide) ?_
    refine lv_iadd hx hb dL_law_1010 ?_
    refine q_c 1 (by decide +kernel) ?_
    refine va_sld X.1 X.2.1 hX hbl hbA hw3.2.2 (q_in (by decide +kernel)) dL_law_1011 ?_
    refine q_c a1 e1 ?_
    have g_8830 : (0 : Int32) ≤ a1 := by
      simp only [Int32.lt_iff_toInt_lt, Int32.le_iff_toInt_le, ← Int32.toInt_inj] at c_8613 c_8650 ⊢
      have k_0 : ((-1) : Int32).toInt = -1 := by decide
      have k_1 : (9 : Int32).toInt = 9 := by decide
      have k_g : (0 : Int32).toInt = 0 := by decide
      omega
    have g_8831 : a1 ≤ (9 : Int32) := by
      simp only [Int32.lt_iff_toInt_lt, Int32.le_iff_toInt_le, ← Int32.toInt_inj] at c_8613 c_8650 ⊢
      have k_0 : ((-1) : Int32).toInt = -1 := by decide
      have k_1 : (9 : Int32).toInt = 9 := by decide
      omega
    refine q_callVi (rest := [.int 0]) (wr := []) X hK hA hw3 (fun sz => kX12_passes_363 l D cy y0 (u_1.1 8) (u_1.1 19) a1 (u_1.1 0) (u_1.1 1) (u_1.1 2) (u_1.1 3) (u_1.1 4) (u_1.1 5) (u_1.1 6) (u_1.1 7) (u_1.1 9) (u_1.1 10) (u_1.1 11) (u_1.1 12) (u_1.1 13) (u_1.1 14) (u_1.1 15) (u_1.1 16) (u_1.1 17) (u_1.1 18) (upd (fun _ => 0) (Int32.toNatClampNeg 1) 1) g_8830 g_8831 (q_un (by decide +kernel) rfl) (q_un (by decide +kernel) rfl) (q_un (by decide +kernel) rfl) sz) wm_7_203 wm_7_206 wm_1_12 hd_X12_passes wm_7_204 wm_7_205 (ci := 12) (q0 := 0) rfl rfl ⟨Nat.le_of_ble_eq_true rfl, Nat.le_of_ble_eq_true rfl⟩ hl.1 rfl (Nat.le_of_ble_eq_true rfl) dL_law_1012 ⟨Nat.le_of_ble_eq_true rfl, Nat.le_of_ble_eq_true rfl⟩ [0, 1, 2] [] rfl rfl (by decide) rfl rfl (fun r_8832 u_8832 Hp4 lc4 w_8832 hw4 => ?_)
    clear Hp3 lc3 hw3
    obtain rfl : r_8832 = 0 := w_8832
    replace hw4 : qW D _ _ [] _ _ := hw4
    refine lv_icmp_eq (tgt := 1461) hx hb dL_law_1015 (by decide) (fun _ => ?_) (fun c => absurd c (by decide +kernel))
    exact law_tail l X hr hlk hX hbl hw4.2.2 hl (Nat.le_of_ble_eq_true rfl) (Nat.le_of_ble_eq_true rfl)
  refine lv_aload_n hx hb dL_law_997 rfl (lv_at hl 2 rfl) ?_
  refine lv_aload_n hx hb dL_law_998 rfl (lv_at hl 3 rfl) ?_
  refine lv_iload_n hx hb dL_law_999 rfl (lv_at hl 0 rfl) ?_
  refine lv_iconst (v := 1) hx hb dL_law_1000 (by decide) ?_
  refine lv_iadd hx hb dL_law_1001 ?_
  refine q_c 1 (by decide +kernel) ?_
  refine va_sld X.1 X.2.1 hX hbl hbA h.2.2 (q_in (by decide +kernel)) dL_law_1002 ?_
  refine q_c a1 e1 ?_
  have g_8868 : (10 : Int32) ≤ a1 := by
    simp only [Int32.lt_iff_toInt_lt, Int32.le_iff_toInt_le, ← Int32.toInt_inj] at c_8613 c_8650 ⊢
    have k_0 : ((-1) : Int32).toInt = -1 := by decide
    have k_1 : (9 : Int32).toInt = 9 := by decide
    have k_g : (10 : Int32).toInt = 10 := by decide
    omega
  refine q_callVi (rest := []) (wr := [(y0, .inr (12, [.int 0, .ref (u_1.1 19), .ref (u_1.1 0), .ref (u_1.1 1), .ref (u_1.1 2), .int 0, .int 0, .int 0, .int 0, .int 0, .int 0, .int 0, .int 0, .int 0, .int (-1), .int 0, .ref (u_1.1 3), .ref (u_1.1 4), .ref (u_1.1 5), .ref (u_1.1 6), .ref (u_1.1 7), .int 0, .int 0, .ref (u_1.1 8), .ref (u_1.1 9), .ref (u_1.1 10), .int 0, .int 0, .ref (u_1.1 11), .ref (u_1.1 12), .ref (u_1.1 13), .ref (u_1.1 14), .ref (u_1.1 15), .int 0, .ref (u_1.1 16), .ref (u_1.1 17), .ref (u_1.1 18)]))]) X hK hA h (fun sz => kX11_passes_364 l D cy x0 a1 (u_0.1 0) (u_0.1 1) (u_0.1 37) (u_0.1 39) (u_0.1 41) (u_0.1 43) (u_0.1 14) (u_0.1 15) (u_0.1 16) (u_0.1 17) (u_0.1 20) (u_0.1 24) (u_0.1 29) g_8868 sz) wm_5_48 wm_5_51 wm_1_1 hd_X11_passes wm_5_49 wm_5_50 (ci := 11) (q0 := 0) rfl rfl ⟨Nat.le_of_ble_eq_true rfl, Nat.le_of_ble_eq_true rfl⟩ hl.1 rfl (Nat.le_of_ble_eq_true rfl) dL_law_1003 ⟨Nat.le_of_ble_eq_true rfl, Nat.le_of_ble_eq_true rfl⟩ [0] [78] rfl rfl (by decide) rfl rfl (fun r_8869 u_8869 Hp5 lc5 w_8869 hw5 => ?_)
  clear h
  obtain rfl : r_8869 = (-3) := w_8869
  replace hw5 : qW D _ _ [(y0, .inr (12, [.int 0, .ref (u_1.1 19), .ref (u_1.1 0), .ref (u_1.1 1), .ref (u_1.1 2), .int 0, .int 0, .int 0, .int 0, .int 0, .int 0, .int 0, .int 0, .int 0, .int (-1), .int 0, .ref (u_1.1 3), .ref (u_1.1 4), .ref (u_1.1 5), .ref (u_1.1 6), .ref (u_1.1 7), .int 0, .int 0, .ref (u_1.1 8), .ref (u_1.1 9), .ref (u_1.1 10), .int 0, .int 0, .ref (u_1.1 11), .ref (u_1.1 12), .ref (u_1.1 13), .ref (u_1.1 14), .ref (u_1.1 15), .int 0, .ref (u_1.1 16), .ref (u_1.1 17), .ref (u_1.1 18)]))] _ _ := hw5
  refine lv_aload_n hx hb dL_law_1006 rfl (lv_at hl 1 rfl) ?_
  refine lv_aload_n hx hb dL_law_1007 rfl (lv_at hl 3 rfl) ?_
  refine lv_iload_n hx hb dL_law_1008 rfl (lv_at hl 0 rfl) ?_
  refine lv_iconst (v := 1) hx hb dL_law_1009 (by decide) ?_
  refine lv_iadd hx hb dL_law_1010 ?_
  refine q_c 1 (by decide +kernel) ?_
  refine va_sld X.1 X.2.1 hX hbl hbA hw5.2.2 (q_in (by decide +kernel)) dL_law_1011 ?_
  refine q_c a1 e1 ?_
  have g_8876 : (10 : Int32) ≤ a1 := by
    simp only [Int32.lt_iff_toInt_lt, Int32.le_iff_toInt_le, ← Int32.toInt_inj] at c_8613 c_8650 ⊢
    have k_0 : ((-1) : Int32).toInt = -1 := by decide
    have k_1 : (9 : Int32).toInt = 9 := by decide
    have k_g : (10 : Int32).toInt = 10 := by decide
    omega
  refine q_callVi (rest := [.int (-3)]) (wr := []) X hK hA hw5 (fun sz => kX12_passes_365 l D cy y0 a1 (u_1.1 19) (u_1.1 0) (u_1.1 1) (u_1.1 2) (u_1.1 3) (u_1.1 4) (u_1.1 5) (u_1.1 6) (u_1.1 7) (u_1.1 8) (u_1.1 9) (u_1.1 10) (u_1.1 11) (u_1.1 12) (u_1.1 13) (u_1.1 14) (u_1.1 15) (u_1.1 16) (u_1.1 17) (u_1.1 18) g_8876 sz) wm_7_203 wm_7_206 wm_1_12 hd_X12_passes wm_7_204 wm_7_205 (ci := 12) (q0 := 0) rfl rfl ⟨Nat.le_of_ble_eq_true rfl, Nat.le_of_ble_eq_true rfl⟩ hl.1 rfl (Nat.le_of_ble_eq_true rfl) dL_law_1012 ⟨Nat.le_of_ble_eq_true rfl, Nat.le_of_ble_eq_true rfl⟩ [0] [] rfl rfl (by decide) rfl rfl (fun r_8877 u_8877 Hp6 lc6 w_8877 hw6 => ?_)
  clear Hp5 lc5 hw5
  obtain rfl : r_8877 = (-3) := w_8877
  replace hw6 : qW D _ _ [] _ _ := hw6
  refine lv_icmp_eq (tgt := 1461) hx hb dL_law_1015 (by decide) (fun _ => ?_) (fun c => absurd c (by decide +kernel))
  exact law_tail l X hr hlk hX hbl hw6.2.2 hl (Nat.le_of_ble_eq_true rfl) (Nat.le_of_ble_eq_true rfl)
set_option maxHeartbeats 4000000 in
set_option maxRecDepth 100000 in
theorem lc_passed (l : Launch) {p : Program} {e : Env} {s : State} {m : MethodId} {below : List Frame} {meth : Method} {c : Code} {b : Nat} {xs : Nat → Int32} {D : va_G} {cy : Nat → ClassId} {H : Heap} {locs : List Loc} {ls : Array Slot} {x0 y0 : Nat} {u_0 u_1 : SS} (X : qX p s m #[Value.ref b] c cL_law 4 RL) (hr : meth.sig.returnType = ret) (hlk : meth.locks = false) (hX : va_X b 6 xs s s.heap) (hbl : b < s.heap.size) (hK : qK D cy s) (a1 a2 a3 a4 a5 : Int32) (e1 : xs (Int32.toNatClampNeg 1) = a1) (e2 : xs (Int32.toNatClampNeg 2) = a2) (e3 : xs (Int32.toNatClampNeg 3) = a3) (e4 : xs (Int32.toNatClampNeg 4) = a4) (e5 : xs (Int32.toNatClampNeg 5) = a5) (h : qW D (fun q => s.heap.size ≤ q) s.heap (wLaw cy x0 y0 u_0 u_1) H locs) (hl : lv_has ls 4 [(3, .int 0), (2, .ref y0), (1, .ref x0), (0, .ref b)]) : W p l e room_1 s m #[Value.ref b] below meth c H locs 99 25544 (lw_Z below #[Value.ref b] s) (F0 m 1020 ls []) := by
  obtain ⟨hx, hb, hml, hown, ht⟩ := id X
  have hA : ∀ q : Nat, s.heap.size ≤ q → (fun q : Nat => s.heap.size ≤ q) q := fun _ h => h
  have hbA : ¬ (fun q : Nat => s.heap.size ≤ q) b := Nat.not_le.mpr hbl
  by_cases c_8883 : a2 ≤ (-1)
  · skip
    refine lv_aload_n hx hb dL_law_1020 rfl (lv_at hl 2 rfl) ?_
    refine lv_aload_n hx hb dL_law_1021 rfl (lv_at hl 3 rfl) ?_
    refine lv_iload_n hx hb dL_law_1022 rfl (lv_at hl 0 rfl) ?_
    refine lv_iconst (v := 1) hx hb dL_law_1023 (by decide) ?_
    refine lv_iadd hx hb dL_law_1024 ?_
    refine q_c 1 (by decide +kernel) ?_
    refine va_sld X.1 X.2.1 hX hbl hbA h.2.2 (q_in (by decide +kernel)) dL_law_1025 ?_
    refine q_c a1 e1 ?_
    refine lv_aload_n hx hb dL_law_1026 rfl (lv_at hl 3 rfl) ?_
    refine lv_iload_n hx hb dL_law_1027 rfl (lv_at hl 0 rfl) ?_
    refine lv_iconst (v := 2) hx hb dL_law_1028 (by decide) ?_
    refine lv_iadd hx hb dL_law_1029 ?_
    refine q_c 2 (by decide +kernel) ?_
    refine va_sld X.1 X.2.1 hX hbl hbA h.2.2 (q_in (by decide +kernel)) dL_law_1030 ?_
    refine q_c a2 e2 ?_
    have g_8901 : a2 ≤ ((-1) : Int32) := by
      simp only [Int32.lt_iff_toInt_lt, Int32.le_iff_toInt_le, ← Int32.toInt_inj] at c_8883 ⊢
      have k_0 : ((-1) : Int32).toInt = -1 := by decide
      omega
    refine q_callVi (rest := []) (wr := [(y0, .inr (12, [.int 0, .ref (u_1.1 19), .ref (u_1.1 0), .ref (u_1.1 1), .ref (u_1.1 2), .int 0, .int 0, .int 0, .int 0, .int 0, .int 0, .int 0, .int 0, .int 0, .int (-1), .int 0, .ref (u_1.1 3), .ref (u_1.1 4), .ref (u_1.1 5), .ref (u_1.1 6), .ref (u_1.1 7), .int 0, .int 0, .ref (u_1.1 8), .ref (u_1.1 9), .ref (u_1.1 10), .int 0, .int 0, .ref (u_1.1 11), .ref (u_1.1 12), .ref (u_1.1 13), .ref (u_1.1 14), .ref (u_1.1 15), .int 0, .ref (u_1.1 16), .ref (u_1.1 17), .ref (u_1.1 18)]))]) X hK hA h (fun sz => kX11_passed_366 l D cy x0 a1 a2 (u_0.1 0) (u_0.1 1) (u_0.1 37) (u_0.1 39) (u_0.1 41) (u_0.1 43) (u_0.1 14) (u_0.1 15) (u_0.1 16) (u_0.1 17) (u_0.1 20) (u_0.1 24) (u_0.1 29) g_8901 sz) wm_5_55 wm_5_58 wm_1_1 hd_X11_passed wm_5_56 wm_5_57 (ci := 11) (q0 := 0) rfl rfl ⟨Nat.le_of_ble_eq_true rfl, Nat.le_of_ble_eq_true rfl⟩ hl.1 rfl (Nat.le_of_ble_eq_true rfl) dL_law_1031 ⟨Nat.le_of_ble_eq_true rfl, Nat.le_of_ble_eq_true rfl⟩ [0] [78] rfl rfl (by decide) rfl rfl (fun r_8902 u_8902 Hp1 lc1 w_8902 hw1 => ?_)
    clear h
    obtain rfl : r_8902 = (-2) := w_8902
    replace hw1 : qW D _ _ [(y0, .inr (12, [.int 0, .ref (u_1.1 19), .ref (u_1.1 0), .ref (u_1.1 1), .ref (u_1.1 2), .int 0, .int 0, .int 0, .int 0, .int 0, .int 0, .int 0, .int 0, .int 0, .int (-1), .int 0, .ref (u_1.1 3), .ref (u_1.1 4), .ref (u_1.1 5), .ref (u_1.1 6), .ref (u_1.1 7), .int 0, .int 0, .ref (u_1.1 8), .ref (u_1.1 9), .ref (u_1.1 10), .int 0, .int 0, .ref (u_1.1 11), .ref (u_1.1 12), .ref (u_1.1 13), .ref (u_1.1 14), .ref (u_1.1 15), .int 0, .ref (u_1.1 16), .ref (u_1.1 17), .ref (u_1.1 18)]))] _ _ := hw1
    refine lv_aload_n hx hb dL_law_1034 rfl (lv_at hl 1 rfl) ?_
    refine lv_aload_n hx hb dL_law_1035 rfl (lv_at hl 3 rfl) ?_
    refine lv_iload_n hx hb dL_law_1036 rfl (lv_at hl 0 rfl) ?_
    refine lv_iconst (v := 1) hx hb dL_law_1037 (by decide) ?_
    refine lv_iadd hx hb dL_law_1038 ?_
    refine q_c 1 (by decide +kernel) ?_
    refine va_sld X.1 X.2.1 hX hbl hbA hw1.2.2 (q_in (by decide +kernel)) dL_law_1039 ?_
    refine q_c a1 e1 ?_
    refine lv_aload_n hx hb dL_law_1040 rfl (lv_at hl 3 rfl) ?_
    refine lv_iload_n hx hb dL_law_1041 rfl (lv_at hl 0 rfl) ?_
    refine lv_iconst (v := 2) hx hb dL_law_1042 (by decide) ?_
    refine lv_iadd hx hb dL_law_1043 ?_
    refine q_c 2 (by decide +kernel) ?_
    refine va_sld X.1 X.2.1 hX hbl hbA hw1.2.2 (q_in (by decide +kernel)) dL_law_1044 ?_
    refine q_c a2 e2 ?_
    have g_8906 : a2 ≤ ((-1) : Int32) := by
      simp only [Int32.lt_iff_toInt_lt, Int32.le_iff_toInt_le, ← Int32.toInt_inj] at c_8883 ⊢
      have k_0 : ((-1) : Int32).toInt = -1 := by decide
      omega
    refine q_callVi (rest := [.int (-2)]) (wr := []) X hK hA hw1 (fun sz => kX12_passed_367 l D cy y0 a1 a2 (u_1.1 19) (u_1.1 0) (u_1.1 1) (u_1.1 2) (u_1.1 3) (u_1.1 4) (u_1.1 5) (u_1.1 6) (u_1.1 7) (u_1.1 8) (u_1.1 9) (u_1.1 10) (u_1.1 11) (u_1.1 12) (u_1.1 13) (u_1.1 14) (u_1.1 15) (u_1.1 16) (u_1.1 17) (u_1.1 18) g_8906 sz) wm_7_211 wm_7_214 wm_1_12 hd_X12_passed wm_7_212 wm_7_213 (ci := 12) (q0 := 0) rfl rfl ⟨Nat.le_of_ble_eq_true rfl, Nat.le_of_ble_eq_true rfl⟩ hl.1 rfl (Nat.le_of_ble_eq_true rfl) dL_law_1045 ⟨Nat.le_of_ble_eq_true rfl, Nat.le_of_ble_eq_true rfl⟩ [0] [] rfl rfl (by decide) rfl rfl (fun r_8907 u_8907 Hp2 lc2 w_8907 hw2 => ?_)
    clear Hp1 lc1 hw1
    obtain rfl : r_8907 = (-2) := w_8907
    replace hw2 : qW D _ _ [] _ _ := hw2
    refine lv_icmp_eq (tgt := 1461) hx hb dL_law_1048 (by decide) (fun _ => ?_) (fun c => absurd c (by decide +kernel))
    exact law_tail l X hr hlk hX hbl hw2.2.2 hl (Nat.le_of_ble_eq_true rfl) (Nat.le_of_ble_eq_true rfl)
  by_cases c_8908 : a2 = 0
  · subst c_8908
    by_cases c_8913 : a1 ≤ (-1)
    · skip
      refine lv_aload_n hx hb dL_law_1020 rfl (lv_at hl 2 rfl) ?_
      refine lv_aload_n hx hb dL_law_1021 rfl (lv_at hl 3 rfl) ?_
      refine lv_iload_n hx hb dL_law_1022 rfl (lv_at hl 0 rfl) ?_
      refine lv_iconst (v := 1) hx hb dL_law_1023 (by decide) ?_
      refine lv_iadd hx hb dL_law_1024 ?_
      refine q_c 1 (by decide +kernel) ?_
      refine va_sld X.1 X.2.1 hX hbl hbA h.2.2 (q_in (by decide +kernel)) dL_law_1025 ?_
      refine q_c a1 e1 ?_
      refine lv_aload_n hx hb dL_law_1026 rfl (lv_at hl 3 rfl) ?_
      refine lv_iload_n hx hb dL_law_1027 rfl (lv_at hl 0 rfl) ?_
      refine lv_iconst (v := 2) hx hb dL_law_1028 (by decide) ?_
      refine lv_iadd hx hb dL_law_1029 ?_
      refine q_c 2 (by decide +kernel) ?_
      refine va_sld X.1 X.2.1 hX hbl hbA h.2.2 (q_in (by decide +kernel)) dL_law_1030 ?_
      refine q_c 0 e2 ?_
      have g_8944 : a1 ≤ ((-1) : Int32) := by
        simp only [Int32.lt_iff_toInt_lt, Int32.le_iff_toInt_le, ← Int32.toInt_inj] at c_8913 ⊢
        have k_0 : ((-1) : Int32).toInt = -1 := by decide
        omega
      refine q_callVi (rest := []) (wr := [(y0, .inr (12, [.int 0, .ref (u_1.1 19), .ref (u_1.1 0), .ref (u_1.1 1), .ref (u_1.1 2), .int 0, .int 0, .int 0, .int 0, .int 0, .int 0, .int 0, .int 0, .int 0, .int (-1), .int 0, .ref (u_1.1 3), .ref (u_1.1 4), .ref (u_1.1 5), .ref (u_1.1 6), .ref (u_1.1 7), .int 0, .int 0, .ref (u_1.1 8), .ref (u_1.1 9), .ref (u_1.1 10), .int 0, .int 0, .ref (u_1.1 11), .ref (u_1.1 12), .ref (u_1.1 13), .ref (u_1.1 14), .ref (u_1.1 15), .int 0, .ref (u_1.1 16), .ref (u_1.1 17), .ref (u_1.1 18)]))]) X hK hA h (fun sz => kX11_passed_368 l D cy x0 a1 (u_0.1 0) (u_0.1 1) (u_0.1 37) (u_0.1 39) (u_0.1 41) (u_0.1 43) (u_0.1 14) (u_0.1 15) (u_0.1 16) (u_0.1 17) (u_0.1 20) (u_0.1 24) (u_0.1 29) g_8944 sz) wm_5_55 wm_5_58 wm_1_1 hd_X11_passed wm_5_56 wm_5_57 (ci := 11) (q0 := 0) rfl rfl ⟨Nat.le_of_ble_eq_true rfl, Nat.le_of_ble_eq_true rfl⟩ hl.1 rfl (Nat.le_of_ble_eq_true rfl) dL_law_1031 ⟨Nat.le_of_ble_eq_true rfl, Nat.le_of_ble_eq_true rfl⟩ [0] [78] rfl rfl (by decide) rfl rfl (fun r_8945 u_8945 Hp3 lc3 w_8945 hw3 => ?_)
      clear h
      obtain rfl : r_8945 = (-3) := w_8945
      replace hw3 : qW D _ _ [(y0, .inr (12, [.int 0, .ref (u_1.1 19), .ref (u_1.1 0), .ref (u_1.1 1), .ref (u_1.1 2), .int 0, .int 0, .int 0, .int 0, .int 0, .int 0, .int 0, .int 0, .int 0, .int (-1), .int 0, .ref (u_1.1 3), .ref (u_1.1 4), .ref (u_1.1 5), .ref (u_1.1 6), .ref (u_1.1 7), .int 0, .int 0, .ref (u_1.1 8), .ref (u_1.1 9), .ref (u_1.1 10), .int 0, .int 0, .ref (u_1.1 11), .ref (u_1.1 12), .ref (u_1.1 13), .ref (u_1.1 14), .ref (u_1.1 15), .int 0, .ref (u_1.1 16), .ref (u_1.1 17), .ref (u_1.1 18)]))] _ _ := hw3
      refine lv_aload_n hx hb dL_law_1034 rfl (lv_at hl 1 rfl) ?_
      refine lv_aload_n hx hb dL_law_1035 rfl (lv_at hl 3 rfl) ?_
      refine lv_iload_n hx hb dL_law_1036 rfl (lv_at hl 0 rfl) ?_
      refine lv_iconst (v := 1) hx hb dL_law_1037 (by decide) ?_
      refine lv_iadd hx hb dL_law_1038 ?_
      refine q_c 1 (by decide +kernel) ?_
      refine va_sld X.1 X.2.1 hX hbl hbA hw3.2.2 (q_in (by decide +kernel)) dL_law_1039 ?_
      refine q_c a1 e1 ?_
      refine lv_aload_n hx hb dL_law_1040 rfl (lv_at hl 3 rfl) ?_
      refine lv_iload_n hx hb dL_law_1041 rfl (lv_at hl 0 rfl) ?_
      refine lv_iconst (v := 2) hx hb dL_law_1042 (by decide) ?_
      refine lv_iadd hx hb dL_law_1043 ?_
      refine q_c 2 (by decide +kernel) ?_
      refine va_sld X.1 X.2.1 hX hbl hbA hw3.2.2 (q_in (by decide +kernel)) dL_law_1044 ?_
      refine q_c 0 e2 ?_
      have g_8952 : a1 ≤ ((-1) : Int32) := by
        simp only [Int32.lt_iff_toInt_lt, Int32.le_iff_toInt_le, ← Int32.toInt_inj] at c_8913 ⊢
        have k_0 : ((-1) : Int32).toInt = -1 := by decide
        omega
      refine q_callVi (rest := [.int (-3)]) (wr := []) X hK hA hw3 (fun sz => kX12_passed_369 l D cy y0 a1 (u_1.1 19) (u_1.1 0) (u_1.1 1) (u_1.1 2) (u_1.1 3) (u_1.1 4) (u_1.1 5) (u_1.1 6) (u_1.1 7) (u_1.1 8) (u_1.1 9) (u_1.1 10) (u_1.1 11) (u_1.1 12) (u_1.1 13) (u_1.1 14) (u_1.1 15) (u_1.1 16) (u_1.1 17) (u_1.1 18) g_8952 sz) wm_7_211 wm_7_214 wm_1_12 hd_X12_passed wm_7_212 wm_7_213 (ci := 12) (q0 := 0) rfl rfl ⟨Nat.le_of_ble_eq_true rfl, Nat.le_of_ble_eq_true rfl⟩ hl.1 rfl (Nat.le_of_ble_eq_true rfl) dL_law_1045 ⟨Nat.le_of_ble_eq_true rfl, Nat.le_of_ble_eq_true rfl⟩ [0] [] rfl rfl (by decide) rfl rfl (fun r_8953 u_8953 Hp4 lc4 w_8953 hw4 => ?_)
      clear Hp3 lc3 hw3
      obtain rfl : r_8953 = (-3) := w_8953
      replace hw4 : qW D _ _ [] _ _ := hw4
      refine lv_icmp_eq (tgt := 1461) hx hb dL_law_1048 (by decide) (fun _ => ?_) (fun c => absurd c (by decide +kernel))
      exact law_tail l X hr hlk hX hbl hw4.2.2 hl (Nat.le_of_ble_eq_true rfl) (Nat.le_of_ble_eq_true rfl)
    by_cases c_8954 : a1 ≤ 9
    · skip
      refine lv_aload_n hx hb dL_law_1020 rfl (lv_at hl 2 rfl) ?_
      refine lv_aload_n hx hb dL_law_1021 rfl (lv_at hl 3 rfl) ?_
      refine lv_iload_n hx hb dL_law_1022 rfl (lv_at hl 0 rfl) ?_
      refine lv_iconst (v := 1) hx hb dL_law_1023 (by decide) ?_
      refine lv_iadd hx hb dL_law_1024 ?_
      refine q_c 1 (by decide +kernel) ?_
      refine va_sld X.1 X.2.1 hX hbl hbA h.2.2 (q_in (by decide +kernel)) dL_law_1025 ?_
      refine q_c a1 e1 ?_
      refine lv_aload_n hx hb dL_law_1026 rfl (lv_at hl 3 rfl) ?_
      refine lv_iload_n hx hb dL_law_1027 rfl (lv_at hl 0 rfl) ?_
      refine lv_iconst (v := 2) hx hb dL_law_1028 (by decide) ?_
      refine lv_iadd hx hb dL_law_1029 ?_
      refine q_c 2 (by decide +kernel) ?_
      refine va_sld X.1 X.2.1 hX hbl hbA h.2.2 (q_in (by decide +kernel)) dL_law_1030 ?_
      refine q_c 0 e2 ?_
      have g_9147 : (0 : Int32) ≤ a1 := by
        simp only [Int32.lt_iff_toInt_lt, Int32.le_iff_toInt_le, ← Int32.toInt_inj] at c_8913 c_8954 ⊢
        have k_0 : ((-1) : Int32).toInt = -1 := by decide
        have k_1 : (9 : Int32).toInt = 9 := by decide
        have k_g : (0 : Int32).toInt = 0 := by decide
        omega
      have g_9148 : a1 ≤ (9 : Int32) := by
        simp only [Int32.lt_iff_toInt_lt, Int32.le_iff_toInt_le, ← Int32.toInt_inj] at c_8913 c_8954 ⊢
        have k_0 : ((-1) : Int32).toInt = -1 := by decide
        have k_1 : (9 : Int32).toInt = 9 := by decide
        omega
      refine q_callVi (rest := []) (wr := [(y0, .inr (12, [.int 0, .ref (u_1.1 19), .ref (u_1.1 0), .ref (u_1.1 1), .ref (u_1.1 2), .int 0, .int 0, .int 0, .int 0, .int 0, .int 0, .int 0, .int 0, .int 0, .int (-1), .int 0, .ref (u_1.1 3), .ref (u_1.1 4), .ref (u_1.1 5), .ref (u_1.1 6), .ref (u_1.1 7), .int 0, .int 0, .ref (u_1.1 8), .ref (u_1.1 9), .ref (u_1.1 10), .int 0, .int 0, .ref (u_1.1 11), .ref (u_1.1 12), .ref (u_1.1 13), .ref (u_1.1 14), .ref (u_1.1 15), .int 0, .ref (u_1.1 16), .ref (u_1.1 17), .ref (u_1.1 18)])), ((u_1.1 8), .inl (cy 1, 1024, .inl (fun _ => 0))), ((u_1.1 19), .inl (cy 1, 3918, .inl (upd (fun _ => 0) (Int32.toNatClampNeg 1) 1)))]) X hK hA h (fun sz => kX11_passed_374 l D cy x0 (u_0.1 20) (u_0.1 21) (u_0.1 22) (u_0.1 31) (u_0.1 37) a1 (u_0.1 0) (u_0.1 1) (u_0.1 39) (u_0.1 41) (u_0.1 43) (u_0.1 14) (u_0.1 15) (u_0.1 16) (u_0.1 17) (u_0.1 24) (u_0.1 29) (u_0.1 23) (u_0.1 32) (u_0.1 33) (u_0.1 34) (u_0.1 35) (u_0.1 36) (u_0.1 38) g_9147 g_9148 sz) wm_5_55 wm_5_58 wm_1_1 hd_X11_passed wm_5_56 wm_5_57 (ci := 11) (q0 := 0) rfl rfl ⟨Nat.le_of_ble_eq_true rfl, Nat.le_of_ble_eq_true rfl⟩ hl.1 rfl (Nat.le_of_ble_eq_true rfl) dL_law_1031 ⟨Nat.le_of_ble_eq_true rfl, Nat.le_of_ble_eq_true rfl⟩ [0, 21, 22, 23, 32, 38] [78, 87, 98] rfl rfl (by decide) rfl rfl (fun r_9149 u_9149 Hp5 lc5 w_9149 hw5 => ?_)
      clear h
      obtain rfl : r_9149 = (-1) := w_9149
      replace hw5 : qW D _ _ [(y0, .inr (12, [.int 0, .ref (u_1.1 19), .ref (u_1.1 0), .ref (u_1.1 1), .ref (u_1.1 2), .int 0, .int 0, .int 0, .int 0, .int 0, .int 0, .int 0, .int 0, .int 0, .int (-1), .int 0, .ref (u_1.1 3), .ref (u_1.1 4), .ref (u_1.1 5), .ref (u_1.1 6), .ref (u_1.1 7), .int 0, .int 0, .ref (u_1.1 8), .ref (u_1.1 9), .ref (u_1.1 10), .int 0, .int 0, .ref (u_1.1 11), .ref (u_1.1 12), .ref (u_1.1 13), .ref (u_1.1 14), .ref (u_1.1 15), .int 0, .ref (u_1.1 16), .ref (u_1.1 17), .ref (u_1.1 18)])), ((u_1.1 8), .inl (cy 1, 1024, .inl (fun _ => 0))), ((u_1.1 19), .inl (cy 1, 3918, .inl (upd (fun _ => 0) (Int32.toNatClampNeg 1) 1)))] _ _ := hw5
      refine lv_aload_n hx hb dL_law_1034 rfl (lv_at hl 1 rfl) ?_
      refine lv_aload_n hx hb dL_law_1035 rfl (lv_at hl 3 rfl) ?_
      refine lv_iload_n hx hb dL_law_1036 rfl (lv_at hl 0 rfl) ?_
      refine lv_iconst (v := 1) hx hb dL_law_1037 (by decide) ?_
      refine lv_iadd hx hb dL_law_1038 ?_
      refine q_c 1 (by decide +kernel) ?_
      refine va_sld X.1 X.2.1 hX hbl hbA hw5.2.2 (q_in (by decide +kernel)) dL_law_1039 ?_
      refine q_c a1 e1 ?_
      refine lv_aload_n hx hb dL_law_1040 rfl (lv_at hl 3 rfl) ?_
      refine lv_iload_n hx hb dL_law_1041 rfl (lv_at hl 0 rfl) ?_
      refine lv_iconst (v := 2) hx hb dL_law_1042 (by decide) ?_
      refine lv_iadd hx hb dL_law_1043 ?_
      refine q_c 2 (by decide +kernel) ?_
      refine va_sld X.1 X.2.1 hX hbl hbA hw5.2.2 (q_in (by decide +kernel)) dL_law_1044 ?_
      refine q_c 0 e2 ?_
      have g_9172 : (0 : Int32) ≤ a1 := by
        simp only [Int32.lt_iff_toInt_lt, Int32.le_iff_toInt_le, ← Int32.toInt_inj] at c_8913 c_8954 ⊢
        have k_0 : ((-1) : Int32).toInt = -1 := by decide
        have k_1 : (9 : Int32).toInt = 9 := by decide
        have k_g : (0 : Int32).toInt = 0 := by decide
        omega
      have g_9173 : a1 ≤ (9 : Int32) := by
        simp only [Int32.lt_iff_toInt_lt, Int32.le_iff_toInt_le, ← Int32.toInt_inj] at c_8913 c_8954 ⊢
        have k_0 : ((-1) : Int32).toInt = -1 := by decide
        have k_1 : (9 : Int32).toInt = 9 := by decide
        omega
      refine q_callVi (rest := [.int (-1)]) (wr := []) X hK hA hw5 (fun sz => kX12_passed_375 l D cy y0 (u_1.1 8) (u_1.1 19) a1 (u_1.1 0) (u_1.1 1) (u_1.1 2) (u_1.1 3) (u_1.1 4) (u_1.1 5) (u_1.1 6) (u_1.1 7) (u_1.1 9) (u_1.1 10) (u_1.1 11) (u_1.1 12) (u_1.1 13) (u_1.1 14) (u_1.1 15) (u_1.1 16) (u_1.1 17) (u_1.1 18) (upd (fun _ => 0) (Int32.toNatClampNeg 1) 1) g_9172 g_9173 (q_un (by decide +kernel) rfl) (q_un (by decide +kernel) rfl) (q_un (by decide +kernel) rfl) sz) wm_7_211 wm_7_214 wm_1_12 hd_X12_passed wm_7_212 wm_7_213 (ci := 12) (q0 := 0) rfl rfl ⟨Nat.le_of_ble_eq_true rfl, Nat.le_of_ble_eq_true rfl⟩ hl.1 rfl (Nat.le_of_ble_eq_true rfl) dL_law_1045 ⟨Nat.le_of_ble_eq_true rfl, Nat.le_of_ble_eq_true rfl⟩ [0, 1, 2] [] rfl rfl (by decide) rfl rfl (fun r_9174 u_9174 Hp6 lc6 w_9174 hw6 => ?_)
      clear Hp5 lc5 hw5
      obtain rfl : r_9174 = (-1) := w_9174
      replace hw6 : qW D _ _ [] _ _ := hw6
      refine lv_icmp_eq (tgt := 1461) hx hb dL_law_1048 (by decide) (fun _ => ?_) (fun c => absurd c (by decide +kernel))
      exact law_tail l X hr hlk hX hbl hw6.2.2 hl (Nat.le_of_ble_eq_true rfl) (Nat.le_of_ble_eq_true rfl)
    refine lv_aload_n hx hb dL_law_1020 rfl (lv_at hl 2 rfl) ?_
    refine lv_aload_n hx hb dL_law_1021 rfl (lv_at hl 3 rfl) ?_
    refine lv_iload_n hx hb dL_law_1022 rfl (lv_at hl 0 rfl) ?_
    refine lv_iconst (v := 1) hx hb dL_law_1023 (by decide) ?_
    refine lv_iadd hx hb dL_law_1024 ?_
    refine q_c 1 (by decide +kernel) ?_
    refine va_sld X.1 X.2.1 hX hbl hbA h.2.2 (q_in (by decide +kernel)) dL_law_1025 ?_
    refine q_c a1 e1 ?_
    refine lv_aload_n hx hb dL_law_1026 rfl (lv_at hl 3 rfl) ?_
    refine lv_iload_n hx hb dL_law_1027 rfl (lv_at hl 0 rfl) ?_
    refine lv_iconst (v := 2) hx hb dL_law_1028 (by decide) ?_
    refine lv_iadd hx hb dL_law_1029 ?_
    refine q_c 2 (by decide +kernel) ?_
    refine va_sld X.1 X.2.1 hX hbl hbA h.2.2 (q_in (by decide +kernel)) dL_law_1030 ?_
    refine q_c 0 e2 ?_
    have g_9213 : (10 : Int32) ≤ a1 := by
      simp only [Int32.lt_iff_toInt_lt, Int32.le_iff_toInt_le, ← Int32.toInt_inj] at c_8913 c_8954 ⊢
      have k_0 : ((-1) : Int32).toInt = -1 := by decide
      have k_1 : (9 : Int32).toInt = 9 := by decide
      have k_g : (10 : Int32).toInt = 10 := by decide
      omega
    refine q_callVi (rest := []) (wr := [(y0, .inr (12, [.int 0, .ref (u_1.1 19), .ref (u_1.1 0), .ref (u_1.1 1), .ref (u_1.1 2), .int 0, .int 0, .int 0, .int 0, .int 0, .int 0, .int 0, .int 0, .int 0, .int (-1), .int 0, .ref (u_1.1 3), .ref (u_1.1 4), .ref (u_1.1 5), .ref (u_1.1 6), .ref (u_1.1 7), .int 0, .int 0, .ref (u_1.1 8), .ref (u_1.1 9), .ref (u_1.1 10), .int 0, .int 0, .ref (u_1.1 11), .ref (u_1.1 12), .ref (u_1.1 13), .ref (u_1.1 14), .ref (u_1.1 15), .int 0, .ref (u_1.1 16), .ref (u_1.1 17), .ref (u_1.1 18)]))]) X hK hA h (fun sz => kX11_passed_376 l D cy x0 a1 (u_0.1 0) (u_0.1 1) (u_0.1 37) (u_0.1 39) (u_0.1 41) (u_0.1 43) (u_0.1 14) (u_0.1 15) (u_0.1 16) (u_0.1 17) (u_0.1 20) (u_0.1 24) (u_0.1 29) g_9213 sz) wm_5_55 wm_5_58 wm_1_1 hd_X11_passed wm_5_56 wm_5_57 (ci := 11) (q0 := 0) rfl rfl ⟨Nat.le_of_ble_eq_true rfl, Nat.le_of_ble_eq_true rfl⟩ hl.1 rfl (Nat.le_of_ble_eq_true rfl) dL_law_1031 ⟨Nat.le_of_ble_eq_true rfl, Nat.le_of_ble_eq_true rfl⟩ [0] [78] rfl rfl (by decide) rfl rfl (fun r_9214 u_9214 Hp7 lc7 w_9214 hw7 => ?_)
    clear h
    obtain rfl : r_9214 = (-3) := w_9214
    replace hw7 : qW D _ _ [(y0, .inr (12, [.int 0, .ref (u_1.1 19), .ref (u_1.1 0), .ref (u_1.1 1), .ref (u_1.1 2), .int 0, .int 0, .int 0, .int 0, .int 0, .int 0, .int 0, .int 0, .int 0, .int (-1), .int 0, .ref (u_1.1 3), .ref (u_1.1 4), .ref (u_1.1 5), .ref (u_1.1 6), .ref (u_1.1 7), .int 0, .int 0, .ref (u_1.1 8), .ref (u_1.1 9), .ref (u_1.1 10), .int 0, .int 0, .ref (u_1.1 11), .ref (u_1.1 12), .ref (u_1.1 13), .ref (u_1.1 14), .ref (u_1.1 15), .int 0, .ref (u_1.1 16), .ref (u_1.1 17), .ref (u_1.1 18)]))] _ _ := hw7
    refine lv_aload_n hx hb dL_law_1034 rfl (lv_at hl 1 rfl) ?_
    refine lv_aload_n hx hb dL_law_1035 rfl (lv_at hl 3 rfl) ?_
    refine lv_iload_n hx hb dL_law_1036 rfl (lv_at hl 0 rfl) ?_
    refine lv_iconst (v := 1) hx hb dL_law_1037 (by decide) ?_
    refine lv_iadd hx hb dL_law_1038 ?_
    refine q_c 1 (by decide +kernel) ?_
    refine va_sld X.1 X.2.1 hX hbl hbA hw7.2.2 (q_in (by decide +kernel)) dL_law_1039 ?_
    refine q_c a1 e1 ?_
    refine lv_aload_n hx hb dL_law_1040 rfl (lv_at hl 3 rfl) ?_
    refine lv_iload_n hx hb dL_law_1041 rfl (lv_at hl 0 rfl) ?_
    refine lv_iconst (v := 2) hx hb dL_law_1042 (by decide) ?_
    refine lv_iadd hx hb dL_law_1043 ?_
    refine q_c 2 (by decide +kernel) ?_
    refine va_sld X.1 X.2.1 hX hbl hbA hw7.2.2 (q_in (by decide +kernel)) dL_law_1044 ?_
    refine q_c 0 e2 ?_
    have g_9222 : (10 : Int32) ≤ a1 := by
      simp only [Int32.lt_iff_toInt_lt, Int32.le_iff_toInt_le, ← Int32.toInt_inj] at c_8913 c_8954 ⊢
      have k_0 : ((-1) : Int32).toInt = -1 := by decide
      have k_1 : (9 : Int32).toInt = 9 := by decide
      have k_g : (10 : Int32).toInt = 10 := by decide
      omega
    refine q_callVi (rest := [.int (-3)]) (wr := []) X hK hA hw7 (fun sz => kX12_passed_377 l D cy y0 a1 (u_1.1 19) (u_1.1 0) (u_1.1 1) (u_1.1 2) (u_1.1 3) (u_1.1 4) (u_1.1 5) (u_1.1 6) (u_1.1 7) (u_1.1 8) (u_1.1 9) (u_1.1 10) (u_1.1 11) (u_1.1 12) (u_1.1 13) (u_1.1 14) (u_1.1 15) (u_1.1 16) (u_1.1 17) (u_1.1 18) g_9222 sz) wm_7_211 wm_7_214 wm_1_12 hd_X12_passed wm_7_212 wm_7_213 (ci := 12) (q0 := 0) rfl rfl ⟨Nat.le_of_ble_eq_true rfl, Nat.le_of_ble_eq_true rfl⟩ hl.1 rfl (Nat.le_of_ble_eq_true rfl) dL_law_1045 ⟨Nat.le_of_ble_eq_true rfl, Nat.le_of_ble_eq_true rfl⟩ [0] [] rfl rfl (by decide) rfl rfl (fun r_9223 u_9223 Hp8 lc8 w_9223 hw8 => ?_)
    clear Hp7 lc7 hw7
    obtain rfl : r_9223 = (-3) := w_9223
    replace hw8 : qW D _ _ [] _ _ := hw8
    refine lv_icmp_eq (tgt := 1461) hx hb dL_law_1048 (by decide) (fun _ => ?_) (fun c => absurd c (by decide +kernel))
    exact law_tail l X hr hlk hX hbl hw8.2.2 hl (Nat.le_of_ble_eq_true rfl) (Nat.le_of_ble_eq_true rfl)
  by_cases c_9224 : a2 = 1
  · subst c_9224
    by_cases c_9229 : a1 ≤ (-1)
    · skip
      refine lv_aload_n hx hb dL_law_1020 rfl (lv_at hl 2 rfl) ?_
      refine lv_aload_n hx hb dL_law_1021 rfl (lv_at hl 3 rfl) ?_
      refine lv_iload_n hx hb dL_law_1022 rfl (lv_at hl 0 rfl) ?_
      refine lv_iconst (v := 1) hx hb dL_law_1023 (by decide) ?_
      refine lv_iadd hx hb dL_law_1024 ?_
      refine q_c 1 (by decide +kernel) ?_
      refine va_sld X.1 X.2.1 hX hbl hbA h.2.2 (q_in (by decide +kernel)) dL_law_1025 ?_
      refine q_c a1 e1 ?_
      refine lv_aload_n hx hb dL_law_1026 rfl (lv_at hl 3 rfl) ?_
      refine lv_iload_n hx hb dL_law_1027 rfl (lv_at hl 0 rfl) ?_
      refine lv_iconst (v := 2) hx hb dL_law_1028 (by decide) ?_
      refine lv_iadd hx hb dL_law_1029 ?_
      refine q_c 2 (by decide +kernel) ?_
      refine va_sld X.1 X.2.1 hX hbl hbA h.2.2 (q_in (by decide +kernel)) dL_law_1030 ?_
      refine q_c 1 e2 ?_
      have g_9260 : a1 ≤ ((-1) : Int32) := by
        simp only [Int32.lt_iff_toInt_lt, Int32.le_iff_toInt_le, ← Int32.toInt_inj] at c_9229 ⊢
        have k_0 : ((-1) : Int32).toInt = -1 := by decide
        omega
      refine q_callVi (rest := []) (wr := [(y0, .inr (12, [.int 0, .ref (u_1.1 19), .ref (u_1.1 0), .ref (u_1.1 1), .ref (u_1.1 2), .int 0, .int 0, .int 0, .int 0, .int 0, .int 0, .int 0, .int 0, .int 0, .int (-1), .int 0, .ref (u_1.1 3), .ref (u_1.1 4), .ref (u_1.1 5), .ref (u_1.1 6), .ref (u_1.1 7), .int 0, .int 0, .ref (u_1.1 8), .ref (u_1.1 9), .ref (u_1.1 10), .int 0, .int 0, .ref (u_1.1 11), .ref (u_1.1 12), .ref (u_1.1 13), .ref (u_1.1 14), .ref (u_1.1 15), .int 0, .ref (u_1.1 16), .ref (u_1.1 17), .ref (u_1.1 18)]))]) X hK hA h (fun sz => kX11_passed_378 l D cy x0 a1 (u_0.1 0) (u_0.1 1) (u_0.1 37) (u_0.1 39) (u_0.1 41) (u_0.1 43) (u_0.1 14) (u_0.1 15) (u_0.1 16) (u_0.1 17) (u_0.1 20) (u_0.1 24) (u_0.1 29) g_9260 sz) wm_5_55 wm_5_58 wm_1_1 hd_X11_passed wm_5_56 wm_5_57 (ci := 11) (q0 := 0) rfl rfl ⟨Nat.le_of_ble_eq_true rfl, Nat.le_of_ble_eq_true rfl⟩ hl.1 rfl (Nat.le_of_ble_eq_true rfl) dL_law_1031 ⟨Nat.le_of_ble_eq_true rfl, Nat.le_of_ble_eq_true rfl⟩ [0] [78] rfl rfl (by decide) rfl rfl (fun r_9261 u_9261 Hp9 lc9 w_9261 hw9 => ?_)
      clear h
      obtain rfl : r_9261 = (-3) := w_9261
      replace hw9 : qW D _ _ [(y0, .inr (12, [.int 0, .ref (u_1.1 19), .ref (u_1.1 0), .ref (u_1.1 1), .ref (u_1.1 2), .int 0, .int 0, .int 0, .int 0, .int 0, .int 0, .int 0, .int 0, .int 0, .int (-1), .int 0, .ref (u_1.1 3), .ref (u_1.1 4), .ref (u_1.1 5), .ref (u_1.1 6), .ref (u_1.1 7), .int 0, .int 0, .ref (u_1.1 8), .ref (u_1.1 9), .ref (u_1.1 10), .int 0, .int 0, .ref (u_1.1 11), .ref (u_1.1 12), .ref (u_1.1 13), .ref (u_1.1 14), .ref (u_1.1 15), .int 0, .ref (u_1.1 16), .ref (u_1.1 17), .ref (u_1.1 18)]))] _ _ := hw9
      refine lv_aload_n hx hb dL_law_1034 rfl (lv_at hl 1 rfl) ?_
      refine lv_aload_n hx hb dL_law_1035 rfl (lv_at hl 3 rfl) ?_
      refine lv_iload_n hx hb dL_law_1036 rfl (lv_at hl 0 rfl) ?_
      refine lv_iconst (v := 1) hx hb dL_law_1037 (by decide) ?_
      refine lv_iadd hx hb dL_law_1038 ?_
      refine q_c 1 (by decide +kernel) ?_
      refine va_sld X.1 X.2.1 hX hbl hbA hw9.2.2 (q_in (by decide +kernel)) dL_law_1039 ?_
      refine q_c a1 e1 ?_
      refine lv_aload_n hx hb dL_law_1040 rfl (lv_at hl 3 rfl) ?_
      refine lv_iload_n hx hb dL_law_1041 rfl (lv_at hl 0 rfl) ?_
      refine lv_iconst (v := 2) hx hb dL_law_1042 (by decide) ?_
      refine lv_iadd hx hb dL_law_1043 ?_
      refine q_c 2 (by decide +kernel) ?_
      refine va_sld X.1 X.2.1 hX hbl hbA hw9.2.2 (q_in (by decide +kernel)) dL_law_1044 ?_
      refine q_c 1 e2 ?_
      have g_9268 : a1 ≤ ((-1) : Int32) := by
        simp only [Int32.lt_iff_toInt_lt, Int32.le_iff_toInt_le, ← Int32.toInt_inj] at c_9229 ⊢
        have k_0 : ((-1) : Int32).toInt = -1 := by decide
        omega
      refine q_callVi (rest := [.int (-3)]) (wr := []) X hK hA hw9 (fun sz => kX12_passed_379 l D cy y0 a1 (u_1.1 19) (u_1.1 0) (u_1.1 1) (u_1.1 2) (u_1.1 3) (u_1.1 4) (u_1.1 5) (u_1.1 6) (u_1.1 7) (u_1.1 8) (u_1.1 9) (u_1.1 10) (u_1.1 11) (u_1.1 12) (u_1.1 13) (u_1.1 14) (u_1.1 15) (u_1.1 16) (u_1.1 17) (u_1.1 18) g_9268 sz) wm_7_211 wm_7_214 wm_1_12 hd_X12_passed wm_7_212 wm_7_213 (ci := 12) (q0 := 0) rfl rfl ⟨Nat.le_of_ble_eq_true rfl, Nat.le_of_ble_eq_true rfl⟩ hl.1 rfl (Nat.le_of_ble_eq_true rfl) dL_law_1045 ⟨Nat.le_of_ble_eq_true rfl, Nat.le_of_ble_eq_true rfl⟩ [0] [] rfl rfl (by decide) rfl rfl (fun r_9269 u_9269 Hp10 lc10 w_9269 hw10 => ?_)
      clear Hp9 lc9 hw9
      obtain rfl : r_9269 = (-3) := w_9269
      replace hw10 : qW D _ _ [] _ _ := hw10
      refine lv_icmp_eq (tgt := 1461) hx hb dL_law_1048 (by decide) (fun _ => ?_) (fun c => absurd c (by decide +kernel))
      exact law_tail l X hr hlk hX hbl hw10.2.2 hl (Nat.le_of_ble_eq_true rfl) (Nat.le_of_ble_eq_true rfl)
    by_cases c_9270 : a1 ≤ 9
    · skip
      refine lv_aload_n hx hb dL_law_1020 rfl (lv_at hl 2 rfl) ?_
      refine lv_aload_n hx hb dL_law_1021 rfl (lv_at hl 3 rfl) ?_
      refine lv_iload_n hx hb dL_law_1022 rfl (lv_at hl 0 rfl) ?_
      refine lv_iconst (v := 1) hx hb dL_law_1023 (by decide) ?_
      refine lv_iadd hx hb dL_law_1024 ?_
      refine q_c 1 (by decide +kernel) ?_
      refine va_sld X.1 X.2.1 hX hbl hbA h.2.2 (q_in (by decide +kernel)) dL_law_1025 ?_
      refine q_c a1 e1 ?_
      refine lv_aload_n hx hb dL_law_1026 rfl (lv_at hl 3 rfl) ?_
      refine lv_iload_n hx hb dL_law_1027 rfl (lv_at hl 0 rfl) ?_
      refine lv_iconst (v := 2) hx hb dL_law_1028 (by decide) ?_
      refine lv_iadd hx hb dL_law_1029 ?_
      refine q_c 2 (by decide +kernel) ?_
      refine va_sld X.1 X.2.1 hX hbl hbA h.2.2 (q_in (by decide +kernel)) dL_law_1030 ?_
      refine q_c 1 e2 ?_
      have g_9433 : (0 : Int32) ≤ a1 := by
        simp only [Int32.lt_iff_toInt_lt, Int32.le_iff_toInt_le, ← Int32.toInt_inj] at c_9229 c_9270 ⊢
        have k_0 : ((-1) : Int32).toInt = -1 := by decide
        have k_1 : (9 : Int32).toInt = 9 := by decide
        have k_g : (0 : Int32).toInt = 0 := by decide
        omega
      have g_9434 : a1 ≤ (9 : Int32) := by
        simp only [Int32.lt_iff_toInt_lt, Int32.le_iff_toInt_le, ← Int32.toInt_inj] at c_9229 c_9270 ⊢
        have k_0 : ((-1) : Int32).toInt = -1 := by decide
        have k_1 : (9 : Int32).toInt = 9 := by decide
        omega
      refine q_callVi (rest := []) (wr := [(y0, .inr (12, [.int 0, .ref (u_1.1 19), .ref (u_1.1 0), .ref (u_1.1 1), .ref (u_1.1 2), .int 0, .int 0, .int 0, .int 0, .int 0, .int 0, .int 0, .int 0, .int 0, .int (-1), .int 0, .ref (u_1.1 3), .ref (u_1.1 4), .ref (u_1.1 5), .ref (u_1.1 6), .ref (u_1.1 7), .int 0, .int 0, .ref (u_1.1 8), .ref (u_1.1 9), .ref (u_1.1 10), .int 0, .int 0, .ref (u_1.1 11), .ref (u_1.1 12), .ref (u_1.1 13), .ref (u_1.1 14), .ref (u_1.1 15), .int 0, .ref (u_1.1 16), .ref (u_1.1 17), .ref (u_1.1 18)])), ((u_1.1 8), .inl (cy 1, 1024, .inl (fun _ => 0))), ((u_1.1 19), .inl (cy 1, 3918, .inl (upd (fun _ => 0) (Int32.toNatClampNeg 1) 1)))]) X hK hA h (fun sz => kX11_passed_381 l D cy x0 (u_0.1 20) (u_0.1 21) (u_0.1 22) (u_0.1 31) (u_0.1 37) a1 (u_0.1 0) (u_0.1 1) (u_0.1 39) (u_0.1 41) (u_0.1 43) (u_0.1 14) (u_0.1 15) (u_0.1 16) (u_0.1 17) (u_0.1 24) (u_0.1 29) (u_0.1 23) (u_0.1 32) (u_0.1 33) (u_0.1 34) (u_0.1 35) (u_0.1 36) (u_0.1 38) g_9433 g_9434 sz) wm_5_55 wm_5_58 wm_1_1 hd_X11_passed wm_5_56 wm_5_57 (ci := 11) (q0 := 0) rfl rfl ⟨Nat.le_of_ble_eq_true rfl, Nat.le_of_ble_eq_true rfl⟩ hl.1 rfl (Nat.le_of_ble_eq_true rfl) dL_law_1031 ⟨Nat.le_of_ble_eq_true rfl, Nat.le_of_ble_eq_true rfl⟩ [0, 21, 22, 23, 32, 38] [78, 87, 98] rfl rfl (by decide) rfl rfl (fun r_9435 u_9435 Hp11 lc11 w_9435 hw11 => ?_)
      clear h
      obtain rfl : r_9435 = (-1) := w_9435
      replace hw11 : qW D _ _ [(y0, .inr (12, [.int 0, .ref (u_1.1 19), .ref (u_1.1 0), .ref (u_1.1 1), .ref (u_1.1 2), .int 0, .int 0, .int 0, .int 0, .int 0, .int 0, .int 0, .int 0, .int 0, .int (-1), .int 0, .ref (u_1.1 3), .ref (u_1.1 4), .ref (u_1.1 5), .ref (u_1.1 6), .ref (u_1.1 7), .int 0, .int 0, .ref (u_1.1 8), .ref (u_1.1 9), .ref (u_1.1 10), .int 0, .int 0, .ref (u_1.1 11), .ref (u_1.1 12), .ref (u_1.1 13), .ref (u_1.1 14), .ref (u_1.1 15), .int 0, .ref (u_1.1 16), .ref (u_1.1 17), .ref (u_1.1 18)])), ((u_1.1 8), .inl (cy 1, 1024, .inl (fun _ => 0))), ((u_1.1 19), .inl (cy 1, 3918, .inl (upd (fun _ => 0) (Int32.toNatClampNeg 1) 1)))] _ _ := hw11
      refine lv_aload_n hx hb dL_law_1034 rfl (lv_at hl 1 rfl) ?_
      refine lv_aload_n hx hb dL_law_1035 rfl (lv_at hl 3 rfl) ?_
      refine lv_iload_n hx hb dL_law_1036 rfl (lv_at hl 0 rfl) ?_
      refine lv_iconst (v := 1) hx hb dL_law_1037 (by decide) ?_
      refine lv_iadd hx hb dL_law_1038 ?_
      refine q_c 1 (by decide +kernel) ?_
      refine va_sld X.1 X.2.1 hX hbl hbA hw11.2.2 (q_in (by decide +kernel)) dL_law_1039 ?_
      refine q_c a1 e1 ?_
      refine lv_aload_n hx hb dL_law_1040 rfl (lv_at hl 3 rfl) ?_
      refine lv_iload_n hx hb dL_law_1041 rfl (lv_at hl 0 rfl) ?_
      refine lv_iconst (v := 2) hx hb dL_law_1042 (by decide) ?_
      refine lv_iadd hx hb dL_law_1043 ?_
      refine q_c 2 (by decide +kernel) ?_
      refine va_sld X.1 X.2.1 hX hbl hbA hw11.2.2 (q_in (by decide +kernel)) dL_law_1044 ?_
      refine q_c 1 e2 ?_
      have g_9458 : (0 : Int32) ≤ a1 := by
        simp only [Int32.lt_iff_toInt_lt, Int32.le_iff_toInt_le, ← Int32.toInt_inj] at c_9229 c_9270 ⊢
        have k_0 : ((-1) : Int32).toInt = -1 := by decide
        have k_1 : (9 : Int32).toInt = 9 := by decide
        have k_g : (0 : Int32).toInt = 0 := by decide
        omega
      have g_9459 : a1 ≤ (9 : Int32) := by
        simp only [Int32.lt_iff_toInt_lt, Int32.le_iff_toInt_le, ← Int32.toInt_inj] at c_9229 c_9270 ⊢
        have k_0 : ((-1) : Int32).toInt = -1 := by decide
        have k_1 : (9 : Int32).toInt = 9 := by decide
        omega
      refine q_callVi (rest := [.int (-1)]) (wr := []) X hK hA hw11 (fun sz => kX12_passed_382 l D cy y0 (u_1.1 8) (u_1.1 19) a1 (u_1.1 0) (u_1.1 1) (u_1.1 2) (u_1.1 3) (u_1.1 4) (u_1.1 5) (u_1.1 6) (u_1.1 7) (u_1.1 9) (u_1.1 10) (u_1.1 11) (u_1.1 12) (u_1.1 13) (u_1.1 14) (u_1.1 15) (u_1.1 16) (u_1.1 17) (u_1.1 18) (upd (fun _ => 0) (Int32.toNatClampNeg 1) 1) g_9458 g_9459 (q_un (by decide +kernel) rfl) (q_un (by decide +kernel) rfl) (q_un (by decide +kernel) rfl) sz) wm_7_211 wm_7_214 wm_1_12 hd_X12_passed wm_7_212 wm_7_213 (ci := 12) (q0 := 0) rfl rfl ⟨Nat.le_of_ble_eq_true rfl, Nat.le_of_ble_eq_true rfl⟩ hl.1 rfl (Nat.le_of_ble_eq_true rfl) dL_law_1045 ⟨Nat.le_of_ble_eq_true rfl, Nat.le_of_ble_eq_true rfl⟩ [0, 1, 2] [] rfl rfl (by decide) rfl rfl (fun r_9460 u_9460 Hp12 lc12 w_9460 hw12 => ?_)
      clear Hp11 lc11 hw11
      obtain rfl : r_9460 = (-1) := w_9460
      replace hw12 : qW D _ _ [] _ _ := hw12
      refine lv_icmp_eq (tgt := 1461) hx hb dL_law_1048 (by decide) (fun _ => ?_) (fun c => absurd c (by decide +kernel))
      exact law_tail l X hr hlk hX hbl hw12.2.2 hl (Nat.le_of_ble_eq_true rfl) (Nat.le_of_ble_eq_true rfl)
    refine lv_aload_n hx hb dL_law_1020 rfl (lv_at hl 2 rfl) ?_
    refine lv_aload_n hx hb dL_law_1021 rfl (lv_at hl 3 rfl) ?_
    refine lv_iload_n hx hb dL_law_1022 rfl (lv_at hl 0 rfl) ?_
    refine lv_iconst (v := 1) hx hb dL_law_1023 (by decide) ?_
    refine lv_iadd hx hb dL_law_1024 ?_
    refine q_c 1 (by decide +kernel) ?_
    refine va_sld X.1 X.2.1 hX hbl hbA h.2.2 (q_in (by decide +kernel)) dL_law_1025 ?_
    refine q_c a1 e1 ?_
    refine lv_aload_n hx hb dL_law_1026 rfl (lv_at hl 3 rfl) ?_
    refine lv_iload_n hx hb dL_law_1027 rfl (lv_at hl 0 rfl) ?_
    refine lv_iconst (v := 2) hx hb dL_law_1028 (by decide) ?_
    refine lv_iadd hx hb dL_law_1029 ?_
    refine q_c 2 (by decide +kernel) ?_
    refine va_sld X.1 X.2.1 hX hbl hbA h.2.2 (q_in (by decide +kernel)) dL_law_1030 ?_
    refine q_c 1 e2 ?_
    have g_9499 : (10 : Int32) ≤ a1 := by
      simp only [Int32.lt_iff_toInt_lt, Int32.le_iff_toInt_le, ← Int32.toInt_inj] at c_9229 c_9270 ⊢
      have k_0 : ((-1) : Int32).toInt = -1 := by decide
      have k_1 : (9 : Int32).toInt = 9 := by decide
      have k_g : (10 : Int32).toInt = 10 := by decide
      omega
    refine q_callVi (rest := []) (wr := [(y0, .inr (12, [.int 0, .ref (u_1.1 19), .ref (u_1.1 0), .ref (u_1.1 1), .ref (u_1.1 2), .int 0, .int 0, .int 0, .int 0, .int 0, .int 0, .int 0, .int 0, .int 0, .int (-1), .int 0, .ref (u_1.1 3), .ref (u_1.1 4), .ref (u_1.1 5), .ref (u_1.1 6), .ref (u_1.1 7), .int 0, .int 0, .ref (u_1.1 8), .ref (u_1.1 9), .ref (u_1.1 10), .int 0, .int 0, .ref (u_1.1 11), .ref (u_1.1 12), .ref (u_1.1 13), .ref (u_1.1 14), .ref (u_1.1 15), .int 0, .ref (u_1.1 16), .ref (u_1.1 17), .ref (u_1.1 18)]))]) X hK hA h (fun sz => kX11_passed_383 l D cy x0 a1 (u_0.1 0) (u_0.1 1) (u_0.1 37) (u_0.1 39) (u_0.1 41) (u_0.1 43) (u_0.1 14) (u_0.1 15) (u_0.1 16) (u_0.1 17) (u_0.1 20) (u_0.1 24) (u_0.1 29) g_9499 sz) wm_5_55 wm_5_58 wm_1_1 hd_X11_passed wm_5_56 wm_5_57 (ci := 11) (q0 := 0) rfl rfl ⟨Nat.le_of_ble_eq_true rfl, Nat.le_of_ble_eq_true rfl⟩ hl.1 rfl (Nat.le_of_ble_eq_true rfl) dL_law_1031 ⟨Nat.le_of_ble_eq_true rfl, Nat.le_of_ble_eq_true rfl⟩ [0] [78] rfl rfl (by decide) rfl rfl (fun r_9500 u_9500 Hp13 lc13 w_9500 hw13 => ?_)
    clear h
    obtain rfl : r_9500 = (-3) := w_9500
    replace hw13 : qW D _ _ [(y0, .inr (12, [.int 0, .ref (u_1.1 19), .ref (u_1.1 0), .ref (u_1.1 1), .ref (u_1.1 2), .int 0, .int 0, .int 0, .int 0, .int 0, .int 0, .int 0, .int 0, .int 0, .int (-1), .int 0, .ref (u_1.1 3), .ref (u_1.1 4), .ref (u_1.1 5), .ref (u_1.1 6), .ref (u_1.1 7), .int 0, .int 0, .ref (u_1.1 8), .ref (u_1.1 9), .ref (u_1.1 10), .int 0, .int 0, .ref (u_1.1 11), .ref (u_1.1 12), .ref (u_1.1 13), .ref (u_1.1 14), .ref (u_1.1 15), .int 0, .ref (u_1.1 16), .ref (u_1.1 17), .ref (u_1.1 18)]))] _ _ := hw13
    refine lv_aload_n hx hb dL_law_1034 rfl (lv_at hl 1 rfl) ?_
    refine lv_aload_n hx hb dL_law_1035 rfl (lv_at hl 3 rfl) ?_
    refine lv_iload_n hx hb dL_law_1036 rfl (lv_at hl 0 rfl) ?_
    refine lv_iconst (v := 1) hx hb dL_law_1037 (by decide) ?_
    refine lv_iadd hx hb dL_law_1038 ?_
    refine q_c 1 (by decide +kernel) ?_
    refine va_sld X.1 X.2.1 hX hbl hbA hw13.2.2 (q_in (by decide +kernel)) dL_law_1039 ?_
    refine q_c a1 e1 ?_
    refine lv_aload_n hx hb dL_law_1040 rfl (lv_at hl 3 rfl) ?_
    refine lv_iload_n hx hb dL_law_1041 rfl (lv_at hl 0 rfl) ?_
    refine lv_iconst (v := 2) hx hb dL_law_1042 (by decide) ?_
    refine lv_iadd hx hb dL_law_1043 ?_
    refine q_c 2 (by decide +kernel) ?_
    refine va_sld X.1 X.2.1 hX hbl hbA hw13.2.2 (q_in (by decide +kernel)) dL_law_1044 ?_
    refine q_c 1 e2 ?_
    have g_9508 : (10 : Int32) ≤ a1 := by
      simp only [Int32.lt_iff_toInt_lt, Int32.le_iff_toInt_le, ← Int32.toInt_inj] at c_9229 c_9270 ⊢
      have k_0 : ((-1) : Int32).toInt = -1 := by decide
      have k_1 : (9 : Int32).toInt = 9 := by decide
      have k_g : (10 : Int32).toInt = 10 := by decide
      omega
    refine q_callVi (rest := [.int (-3)]) (wr := []) X hK hA hw13 (fun sz => kX12_passed_384 l D cy y0 a1 (u_1.1 19) (u_1.1 0) (u_1.1 1) (u_1.1 2) (u_1.1 3) (u_1.1 4) (u_1.1 5) (u_1.1 6) (u_1.1 7) (u_1.1 8) (u_1.1 9) (u_1.1 10) (u_1.1 11) (u_1.1 12) (u_1.1 13) (u_1.1 14) (u_1.1 15) (u_1.1 16) (u_1.1 17) (u_1.1 18) g_9508 sz) wm_7_211 wm_7_214 wm_1_12 hd_X12_passed wm_7_212 wm_7_213 (ci := 12) (q0 := 0) rfl rfl ⟨Nat.le_of_ble_eq_true rfl, Nat.le_of_ble_eq_true rfl⟩ hl.1 rfl (Nat.le_of_ble_eq_true rfl) dL_law_1045 ⟨Nat.le_of_ble_eq_true rfl, Nat.le_of_ble_eq_true rfl⟩ [0] [] rfl rfl (by decide) rfl rfl (fun r_9509 u_9509 Hp14 lc14 w_9509 hw14 => ?_)
    clear Hp13 lc13 hw13
    obtain rfl : r_9509 = (-3) := w_9509
    replace hw14 : qW D _ _ [] _ _ := hw14
    refine lv_icmp_eq (tgt := 1461) hx hb dL_law_1048 (by decide) (fun _ => ?_) (fun c => absurd c (by decide +kernel))
    exact law_tail l X hr hlk hX hbl hw14.2.2 hl (Nat.le_of_ble_eq_true rfl) (Nat.le_of_ble_eq_true rfl)
  refine lv_aload_n hx hb dL_law_1020 rfl (lv_at hl 2 rfl) ?_
  refine lv_aload_n hx hb dL_law_1021 rfl (lv_at hl 3 rfl) ?_
  refine lv_iload_n hx hb dL_law_1022 rfl (lv_at hl 0 rfl) ?_
  refine lv_iconst (v := 1) hx hb dL_law_1023 (by decide) ?_
  refine lv_iadd hx hb dL_law_1024 ?_
  refine q_c 1 (by decide +kernel) ?_
  refine va_sld X.1 X.2.1 hX hbl hbA h.2.2 (q_in (by decide +kernel)) dL_law_1025 ?_
  refine q_c a1 e1 ?_
  refine lv_aload_n hx hb dL_law_1026 rfl (lv_at hl 3 rfl) ?_
  refine lv_iload_n hx hb dL_law_1027 rfl (lv_at hl 0 rfl) ?_
  refine lv_iconst (v := 2) hx hb dL_law_1028 (by decide) ?_
  refine lv_iadd hx hb dL_law_1029 ?_
  refine q_c 2 (by decide +kernel) ?_
  refine va_sld X.1 X.2.1 hX hbl hbA h.2.2 (q_in (by decide +kernel)) dL_law_1030 ?_
  refine q_c a2 e2 ?_
  have g_9531 : (2 : Int32) ≤ a2 := by
    simp only [Int32.lt_iff_toInt_lt, Int32.le_iff_toInt_le, ← Int32.toInt_inj] at c_8883 c_8908 c_9224 ⊢
    have k_0 : ((-1) : Int32).toInt = -1 := by decide
    have k_1 : (0 : Int32).toInt = 0 := by decide
    have k_2 : (1 : Int32).toInt = 1 := by decide
    have k_g : (2 : Int32).toInt = 2 := by decide
    omega
  refine q_callVi (rest := []) (wr := [(y0, .inr (12, [.int 0, .ref (u_1.1 19), .ref (u_1.1 0), .ref (u_1.1 1), .ref (u_1.1 2), .int 0, .int 0, .int 0, .int 0, .int 0, .int 0, .int 0, .int 0, .int 0, .int (-1), .int 0, .ref (u_1.1 3), .ref (u_1.1 4), .ref (u_1.1 5), .ref (u_1.1 6), .ref (u_1.1 7), .int 0, .int 0, .ref (u_1.1 8), .ref (u_1.1 9), .ref (u_1.1 10), .int 0, .int 0, .ref (u_1.1 11), .ref (u_1.1 12), .ref (u_1.1 13), .ref (u_1.1 14), .ref (u_1.1 15), .int 0, .ref (u_1.1 16), .ref (u_1.1 17), .ref (u_1.1 18)]))]) X hK hA h (fun sz => kX11_passed_385 l D cy x0 a1 a2 (u_0.1 0) (u_0.1 1) (u_0.1 37) (u_0.1 39) (u_0.1 41) (u_0.1 43) (u_0.1 14) (u_0.1 15) (u_0.1 16) (u_0.1 17) (u_0.1 20) (u_0.1 24) (u_0.1 29) g_9531 sz) wm_5_55 wm_5_58 wm_1_1 hd_X11_passed wm_5_56 wm_5_57 (ci := 11) (q0 := 0) rfl rfl ⟨Nat.le_of_ble_eq_true rfl, Nat.le_of_ble_eq_true rfl⟩ hl.1 rfl (Nat.le_of_ble_eq_true rfl) dL_law_1031 ⟨Nat.le_of_ble_eq_true rfl, Nat.le_of_ble_eq_true rfl⟩ [0] [78] rfl rfl (by decide) rfl rfl (fun r_9532 u_9532 Hp15 lc15 w_9532 hw15 => ?_)
  clear h
  obtain rfl : r_9532 = (-2) := w_9532
  replace hw15 : qW D _ _ [(y0, .inr (12, [.int 0, .ref (u_1.1 19), .ref (u_1.1 0), .ref (u_1.1 1), .ref (u_1.1 2), .int 0, .int 0, .int 0, .int 0, .int 0, .int 0, .int 0, .int 0, .int 0, .int (-1), .int 0, .ref (u_1.1 3), .ref (u_1.1 4), .ref (u_1.1 5), .ref (u_1.1 6), .ref (u_1.1 7), .int 0, .int 0, .ref (u_1.1 8), .ref (u_1.1 9), .ref (u_1.1 10), .int 0, .int 0, .ref (u_1.1 11), .ref (u_1.1 12), .ref (u_1.1 13), .ref (u_1.1 14), .ref (u_1.1 15), .int 0, .ref (u_1.1 16), .ref (u_1.1 17), .ref (u_1.1 18)]))] _ _ := hw15
  refine lv_aload_n hx hb dL_law_1034 rfl (lv_at hl 1 rfl) ?_
  refine lv_aload_n hx hb dL_law_1035 rfl (lv_at hl 3 rfl) ?_
  refine lv_iload_n hx hb dL_law_1036 rfl (lv_at hl 0 rfl) ?_
  refine lv_iconst (v := 1) hx hb dL_law_1037 (by decide) ?_
  refine lv_iadd hx hb dL_law_1038 ?_
  refine q_c 1 (by decide +kernel) ?_
  refine va_sld X.1 X.2.1 hX hbl hbA hw15.2.2 (q_in (by decide +kernel)) dL_law_1039 ?_
  refine q_c a1 e1 ?_
  refine lv_aload_n hx hb dL_law_1040 rfl (lv_at hl 3 rfl) ?_
  refine lv_iload_n hx hb dL_law_1041 rfl (lv_at hl 0 rfl) ?_
  refine lv_iconst (v := 2) hx hb dL_law_1042 (by decide) ?_
  refine lv_iadd hx hb dL_law_1043 ?_
  refine q_c 2 (by decide +kernel) ?_
  refine va_sld X.1 X.2.1 hX hbl hbA hw15.2.2 (q_in (by decide +kernel)) dL_law_1044 ?_
  refine q_c a2 e2 ?_
  have g_9537 : (2 : Int32) ≤ a2 := by
    simp only [Int32.lt_iff_toInt_lt, Int32.le_iff_toInt_le, ← Int32.toInt_inj] at c_8883 c_8908 c_9224 ⊢
    have k_0 : ((-1) : Int32).toInt = -1 := by decide
    have k_1 : (0 : Int32).toInt = 0 := by decide
    have k_2 : (1 : Int32).toInt = 1 := by decide
    have k_g : (2 : Int32).toInt = 2 := by decide
    omega
  refine q_callVi (rest := [.int (-2)]) (wr := []) X hK hA hw15 (fun sz => kX12_passed_386 l D cy y0 a1 a2 (u_1.1 19) (u_1.1 0) (u_1.1 1) (u_1.1 2) (u_1.1 3) (u_1.1 4) (u_1.1 5) (u_1.1 6) (u_1.1 7) (u_1.1 8) (u_1.1 9) (u_1.1 10) (u_1.1 11) (u_1.1 12) (u_1.1 13) (u_1.1 14) (u_1.1 15) (u_1.1 16) (u_1.1 17) (u_1.1 18) g_9537 sz) wm_7_211 wm_7_214 wm_1_12 hd_X12_passed wm_7_212 wm_7_213 (ci := 12) (q0 := 0) rfl rfl ⟨Nat.le_of_ble_eq_true rfl, Nat.le_of_ble_eq_true rfl⟩ hl.1 rfl (Nat.le_of_ble_eq_true rfl) dL_law_1045 ⟨Nat.le_of_ble_eq_true rfl, Nat.le_of_ble_eq_true rfl⟩ [0] [] rfl rfl (by decide) rfl rfl (fun r_9538 u_9538 Hp16 lc16 w_9538 hw16 => ?_)
  clear Hp15 lc15 hw15
  obtain rfl : r_9538 = (-2) := w_9538
  replace hw16 : qW D _ _ [] _ _ := hw16
  refine lv_icmp_eq (tgt := 1461) hx hb dL_law_1048 (by decide) (fun _ => ?_) (fun c => absurd c (by decide +kernel))
  exact law_tail l X hr hlk hX hbl hw16.2.2 hl (Nat.le_of_ble_eq_true rfl) (Nat.le_of_ble_eq_true rfl)
set_option maxHeartbeats 4000000 in
set_option maxRecDepth 100000 in
theorem lc_easiest (l : Launch) {p : Program} {e : Env} {s : State} {m : MethodId} {below : List Frame} {meth : Method} {c : Code} {b : Nat} {xs : Nat → Int32} {D : va_G} {cy : Nat → ClassId} {H : Heap} {locs : List Loc} {ls : Array Slot} {x0 y0 : Nat} {u_0 u_1 : SS} (X : qX p s m #[Value.ref b] c cL_law 4 RL) (hr : meth.sig.returnType = ret) (hlk : meth.locks = false) (hX : va_X b 6 xs s s.heap) (hbl : b < s.heap.size) (hK : qK D cy s) (a1 a2 a3 a4 a5 : Int32) (e1 : xs (Int32.toNatClampNeg 1) = a1) (e2 : xs (Int32.toNatClampNeg 2) = a2) (e3 : xs (Int32.toNatClampNeg 3) = a3) (e4 : xs (Int32.toNatClampNeg 4) = a4) (e5 : xs (Int32.toNatClampNeg 5) = a5) (h : qW D (fun q => s.heap.size ≤ q) s.heap (wLaw cy x0 y0 u_0 u_1) H locs) (hl : lv_has ls 4 [(3, .int 0), (2, .ref y0), (1, .ref x0), (0, .ref b)]) : W p l e room_1 s m #[Value.ref b] below meth c H locs 99 25544 (lw_Z below #[Value.ref b] s) (F0 m 1053 ls []) := by
  obtain ⟨hx, hb, hml, hown, ht⟩ := id X
  have hA : ∀ q : Nat, s.heap.size ≤ q → (fun q : Nat => s.heap.size ≤ q) q := fun _ h => h
  have hbA : ¬ (fun q : Nat => s.heap.size ≤ q) b := Nat.not_le.mpr hbl
  refine lv_aload_n hx hb dL_law_1053 rfl (lv_at hl 2 rfl) ?_
  refine q_callVi (rest := []) (wr := [(y0, .inr (12, [.int 0, .ref (u_1.1 19), .ref (u_1.1 0), .ref (u_1.1 1), .ref (u_1.1 2), .int 0, .int 0, .int 0, .int 0, .int 0, .int 0, .int 0, .int 0, .int 0, .int (-1), .int 0, .ref (u_1.1 3), .ref (u_1.1 4), .ref (u_1.1 5), .ref (u_1.1 6), .ref (u_1.1 7), .int 0, .int 0, .ref (u_1.1 8), .ref (u_1.1 9), .ref (u_1.1 10), .int 0, .int 0, .ref (u_1.1 11), .ref (u_1.1 12), .ref (u_1.1 13), .ref (u_1.1 14), .ref (u_1.1 15), .int 0, .ref (u_1.1 16), .ref (u_1.1 17), .ref (u_1.1 18)])), ((u_1.1 8), .inl (cy 1, 1024, .inl (fun _ => 0))), ((u_1.1 19), .inl (cy 1, 3918, .inl (upd (fun _ => 0) (Int32.toNatClampNeg 1) 1)))]) X hK hA h (fun sz => kX11_easiest_389 l D cy x0 (u_0.1 20) (u_0.1 21) (u_0.1 22) (u_0.1 31) (u_0.1 37) (u_0.1 0) (u_0.1 1) (u_0.1 39) (u_0.1 41) (u_0.1 43) (u_0.1 14) (u_0.1 15) (u_0.1 16) (u_0.1 17) (u_0.1 24) (u_0.1 29) (u_0.1 23) (u_0.1 32) (u_0.1 33) (u_0.1 34) (u_0.1 35) (u_0.1 36) (u_0.1 38)  sz) wm_5_63 wm_5_66 wm_1_1 hd_X11_easiest wm_5_64 wm_5_65 (ci := 11) (q0 := 0) rfl rfl ⟨Nat.le_of_ble_eq_true rfl, Nat.le_of_ble_eq_true rfl⟩ hl.1 rfl (Nat.le_of_ble_eq_true rfl) dL_law_1054 ⟨Nat.le_of_ble_eq_true rfl, Nat.le_of_ble_eq_true rfl⟩ [0, 21, 22, 23, 32, 38] [78, 87, 98] rfl rfl (by decide) rfl rfl (fun r_10186 u_10186 Hp1 lc1 w_10186 hw1 => ?_)
  clear h
  obtain rfl : r_10186 = (-1) := w_10186
  replace hw1 : qW D _ _ [(y0, .inr (12, [.int 0, .ref (u_1.1 19), .ref (u_1.1 0), .ref (u_1.1 1), .ref (u_1.1 2), .int 0, .int 0, .int 0, .int 0, .int 0, .int 0, .int 0, .int 0, .int 0, .int (-1), .int 0, .ref (u_1.1 3), .ref (u_1.1 4), .ref (u_1.1 5), .ref (u_1.1 6), .ref (u_1.1 7), .int 0, .int 0, .ref (u_1.1 8), .ref (u_1.1 9), .ref (u_1.1 10), .int 0, .int 0, .ref (u_1.1 11), .ref (u_1.1 12), .ref (u_1.1 13), .ref (u_1.1 14), .ref (u_1.1 15), .int 0, .ref (u_1.1 16), .ref (u_1.1 17), .ref (u_1.1 18)])), ((u_1.1 8), .inl (cy 1, 1024, .inl (fun _ => 0))), ((u_1.1 19), .inl (cy 1, 3918, .inl (upd (fun _ => 0) (Int32.toNatClampNeg 1) 1)))] _ _ := hw1
  refine lv_aload_n hx hb dL_law_1057 rfl (lv_at hl 1 rfl) ?_
  refine q_callVi (rest := [.int (-1)]) (wr := []) X hK hA hw1 (fun sz => kX12_easiest_394 l D cy y0 (u_1.1 8) (u_1.1 19) (u_1.1 0) (u_1.1 1) (u_1.1 2) (u_1.1 3) (u_1.1 4) (u_1.1 5) (u_1.1 6) (u_1.1 7) (u_1.1 9) (u_1.1 10) (u_1.1 11) (u_1.1 12) (u_1.1 13) (u_1.1 14) (u_1.1 15) (u_1.1 16) (u_1.1 17) (u_1.1 18) (upd (fun _ => 0) (Int32.toNatClampNeg 1) 1) (q_un (by decide +kernel) rfl) (q_un (by decide +kernel) rfl) (q_un (by decide +kernel) rfl) sz) wm_7_215 wm_7_218 wm_1_12 hd_X12_easiest wm_7_216 wm_7_217 (ci := 12) (q0 := 0) rfl rfl ⟨Nat.le_of_ble_eq_true rfl, Nat.le_of_ble_eq_true rfl⟩ hl.1 rfl (Nat.le_of_ble_eq_true rfl) dL_law_1058 ⟨Nat.le_of_ble_eq_true rfl, Nat.le_of_ble_eq_true rfl⟩ [0, 1, 2] [] rfl rfl (by decide) rfl rfl (fun r_10250 u_10250 Hp2 lc2 w_10250 hw2 => ?_)
  clear Hp1 lc1 hw1
  obtain rfl : r_10250 = (-1) := w_10250
  replace hw2 : qW D _ _ [] _ _ := hw2
  refine lv_icmp_eq (tgt := 1461) hx hb dL_law_1061 (by decide) (fun _ => ?_) (fun c => absurd c (by decide +kernel))
  exact law_tail l X hr hlk hX hbl hw2.2.2 hl (Nat.le_of_ble_eq_true rfl) (Nat.le_of_ble_eq_true rfl)
set_option maxHeartbeats 4000000 in
set_option maxRecDepth 100000 in
theorem lc_hidden (l : Launch) {p : Program} {e : Env} {s : State} {m : MethodId} {below : List Frame} {meth : Method} {c : Code} {b : Nat} {xs : Nat → Int32} {D : va_G} {cy : Nat → ClassId} {H : Heap} {locs : List Loc} {ls : Array Slot} {x0 y0 : Nat} {u_0 u_1 : SS} (X : qX p s m #[Value.ref b] c cL_law 4 RL) (hr : meth.sig.returnType = ret) (hlk : meth.locks = false) (hX : va_X b 6 xs s s.heap) (hbl : b < s.heap.size) (hK : qK D cy s) (a1 a2 a3 a4 a5 : Int32) (e1 : xs (Int32.toNatClampNeg 1) = a1) (e2 : xs (Int32.toNatClampNeg 2) = a2) (e3 : xs (Int32.toNatClampNeg 3) = a3) (e4 : xs (Int32.toNatClampNeg 4) = a4) (e5 : xs (Int32.toNatClampNeg 5) = a5) (h : qW D (fun q => s.heap.size ≤ q) s.heap (wLaw cy x0 y0 u_0 u_1) H locs) (hl : lv_has ls 4 [(3, .int 0), (2, .ref y0), (1, .ref x0), (0, .ref b)]) : W p l e room_1 s m #[Value.ref b] below meth c H locs 99 25544 (lw_Z below #[Value.ref b] s) (F0 m 1066 ls []) := by
  obtain ⟨hx, hb, hml, hown, ht⟩ := id X
  have hA : ∀ q : Nat, s.heap.size ≤ q → (fun q : Nat => s.heap.size ≤ q) q := fun _ h => h
  have hbA : ¬ (fun q : Nat => s.heap.size ≤ q) b := Nat.not_le.mpr hbl
  refine lv_aload_n hx hb dL_law_1066 rfl (lv_at hl 2 rfl) ?_
  refine lv_aload_n hx hb dL_law_1067 rfl (lv_at hl 3 rfl) ?_
  refine lv_iload_n hx hb dL_law_1068 rfl (lv_at hl 0 rfl) ?_
  refine lv_iconst (v := 1) hx hb dL_law_1069 (by decide) ?_
  refine lv_iadd hx hb dL_law_1070 ?_
  refine q_c 1 (by decide +kernel) ?_
  refine va_sld X.1 X.2.1 hX hbl hbA h.2.2 (q_in (by decide +kernel)) dL_law_1071 ?_
  refine q_c a1 e1 ?_
  refine lv_aload_n hx hb dL_law_1072 rfl (lv_at hl 3 rfl) ?_
  refine lv_iload_n hx hb dL_law_1073 rfl (lv_at hl 0 rfl) ?_
  refine lv_iconst (v := 2) hx hb dL_law_1074 (by decide) ?_
  refine lv_iadd hx hb dL_law_1075 ?_
  refine q_c 2 (by decide +kernel) ?_
  refine va_sld X.1 X.2.1 hX hbl hbA h.2.2 (q_in (by decide +kernel)) dL_law_1076 ?_
  refine q_c a2 e2 ?_
  refine q_callVi (rest := []) (wr := [(y0, .inr (12, [.int 0, .ref (u_1.1 19), .ref (u_1.1 0), .ref (u_1.1 1), .ref (u_1.1 2), .int 0, .int 0, .int 0, .int 0, .int 0, .int 0, .int 0, .int 0, .int 0, .int (-1), .int 0, .ref (u_1.1 3), .ref (u_1.1 4), .ref (u_1.1 5), .ref (u_1.1 6), .ref (u_1.1 7), .int 0, .int 0, .ref (u_1.1 8), .ref (u_1.1 9), .ref (u_1.1 10), .int 0, .int 0, .ref (u_1.1 11), .ref (u_1.1 12), .ref (u_1.1 13), .ref (u_1.1 14), .ref (u_1.1 15), .int 0, .ref (u_1.1 16), .ref (u_1.1 17), .ref (u_1.1 18)])), ((u_1.1 19), .inl (cy 1, 3918, .inl (upd (fun _ => 0) (Int32.toNatClampNeg 1) 1)))]) X hK hA h (fun sz => kX11_hidden_396 l D cy x0 (u_0.1 31) (u_0.1 37) a1 a2 (u_0.1 0) (u_0.1 1) (u_0.1 39) (u_0.1 41) (u_0.1 43) (u_0.1 14) (u_0.1 15) (u_0.1 16) (u_0.1 17) (u_0.1 20) (u_0.1 24) (u_0.1 29) (u_0.1 32) (u_0.1 33) (u_0.1 34) (u_0.1 35) (u_0.1 36) (u_0.1 38)  sz) wm_5_67 wm_5_70 wm_1_1 hd_X11_hidden wm_5_68 wm_5_69 (ci := 11) (q0 := 0) rfl rfl ⟨Nat.le_of_ble_eq_true rfl, Nat.le_of_ble_eq_true rfl⟩ hl.1 rfl (Nat.le_of_ble_eq_true rfl) dL_law_1077 ⟨Nat.le_of_ble_eq_true rfl, Nat.le_of_ble_eq_true rfl⟩ [0, 32, 38] [78, 98] rfl rfl (by decide) rfl rfl (fun r_10304 u_10304 Hp1 lc1 w_10304 hw1 => ?_)
  clear h
  obtain rfl : r_10304 = (-2) := w_10304
  replace hw1 : qW D _ _ [(y0, .inr (12, [.int 0, .ref (u_1.1 19), .ref (u_1.1 0), .ref (u_1.1 1), .ref (u_1.1 2), .int 0, .int 0, .int 0, .int 0, .int 0, .int 0, .int 0, .int 0, .int 0, .int (-1), .int 0, .ref (u_1.1 3), .ref (u_1.1 4), .ref (u_1.1 5), .ref (u_1.1 6), .ref (u_1.1 7), .int 0, .int 0, .ref (u_1.1 8), .ref (u_1.1 9), .ref (u_1.1 10), .int 0, .int 0, .ref (u_1.1 11), .ref (u_1.1 12), .ref (u_1.1 13), .ref (u_1.1 14), .ref (u_1.1 15), .int 0, .ref (u_1.1 16), .ref (u_1.1 17), .ref (u_1.1 18)])), ((u_1.1 19), .inl (cy 1, 3918, .inl (upd (fun _ => 0) (Int32.toNatClampNeg 1) 1)))] _ _ := hw1
  refine lv_aload_n hx hb dL_law_1080 rfl (lv_at hl 1 rfl) ?_
  refine lv_aload_n hx hb dL_law_1081 rfl (lv_at hl 3 rfl) ?_
  refine lv_iload_n hx hb dL_law_1082 rfl (lv_at hl 0 rfl) ?_
  refine lv_iconst (v := 1) hx hb dL_law_1083 (by decide) ?_
  refine lv_iadd hx hb dL_law_1084 ?_
  refine q_c 1 (by decide +kernel) ?_
  refine va_sld X.1 X.2.1 hX hbl hbA hw1.2.2 (q_in (by decide +kernel)) dL_law_1085 ?_
  refine q_c a1 e1 ?_
  refine lv_aload_n hx hb dL_law_1086 rfl (lv_at hl 3 rfl) ?_
  refine lv_iload_n hx hb dL_law_1087 rfl (lv_at hl 0 rfl) ?_
  refine lv_iconst (v := 2) hx hb dL_law_1088 (by decide) ?_
  refine lv_iadd hx hb dL_law_1089 ?_
  refine q_c 2 (by decide +kernel) ?_
  refine va_sld X.1 X.2.1 hX hbl hbA hw1.2.2 (q_in (by decide +kernel)) dL_law_1090 ?_
  refine q_c a2 e2 ?_
  refine q_callVi (rest := [.int (-2)]) (wr := []) X hK hA hw1 (fun sz => kX12_hidden_399 l D cy y0 (u_1.1 19) a1 a2 (u_1.1 0) (u_1.1 1) (u_1.1 2) (u_1.1 3) (u_1.1 4) (u_1.1 5) (u_1.1 6) (u_1.1 7) (u_1.1 8) (u_1.1 9) (u_1.1 10) (u_1.1 11) (u_1.1 12) (u_1.1 13) (u_1.1 14) (u_1.1 15) (u_1.1 16) (u_1.1 17) (u_1.1 18) (upd (fun _ => 0) (Int32.toNatClampNeg 1) 1) (q_un (by decide +kernel) rfl) sz) wm_7_219 wm_7_222 wm_1_12 hd_X12_hidden wm_7_220 wm_7_221 (ci := 12) (q0 := 0) rfl rfl ⟨Nat.le_of_ble_eq_true rfl, Nat.le_of_ble_eq_true rfl⟩ hl.1 rfl (Nat.le_of_ble_eq_true rfl) dL_law_1091 ⟨Nat.le_of_ble_eq_true rfl, Nat.le_of_ble_eq_true rfl⟩ [0, 1] [] rfl rfl (by decide) rfl rfl (fun r_10310 u_10310 Hp2 lc2 w_10310 hw2 => ?_)
  clear Hp1 lc1 hw1
  obtain rfl : r_10310 = (-2) := w_10310
  replace hw2 : qW D _ _ [] _ _ := hw2
  refine lv_icmp_eq (tgt := 1461) hx hb dL_law_1094 (by decide) (fun _ => ?_) (fun c => absurd c (by decide +kernel))
  exact law_tail l X hr hlk hX hbl hw2.2.2 hl (Nat.le_of_ble_eq_true rfl) (Nat.le_of_ble_eq_true rfl)
set_option maxHeartbeats 4000000 in
set_option maxRecDepth 100000 in
theorem lc_hiddenAt (l : Launch) {p : Program} {e : Env} {s : State} {m : MethodId} {below : List Frame} {meth : Method} {c : Code} {b : Nat} {xs : Nat → Int32} {D : va_G} {cy : Nat → ClassId} {H : Heap} {locs : List Loc} {ls : Array Slot} {x0 y0 : Nat} {u_0 u_1 : SS} (X : qX p s m #[Value.ref b] c cL_law 4 RL) (hr : meth.sig.returnType = ret) (hlk : meth.locks = false) (hX : va_X b 6 xs s s.heap) (hbl : b < s.heap.size) (hK : qK D cy s) (a1 a2 a3 a4 a5 : Int32) (e1 : xs (Int32.toNatClampNeg 1) = a1) (e2 : xs (Int32.toNatClampNeg 2) = a2) (e3 : xs (Int32.toNatClampNeg 3) = a3) (e4 : xs (Int32.toNatClampNeg 4) = a4) (e5 : xs (Int32.toNatClampNeg 5) = a5) (h : qW D (fun q => s.heap.size ≤ q) s.heap (wLaw cy x0 y0 u_0 u_1) H locs) (hl : lv_has ls 4 [(3, .int 0), (2, .ref y0), (1, .ref x0), (0, .ref b)]) : W p l e room_1 s m #[Value.ref b] below meth c H locs 99 25544 (lw_Z below #[Value.ref b] s) (F0 m 1099 ls []) := by
  obtain ⟨hx, hb, hml, hown, ht⟩ := id X
  have hA : ∀ q : Nat, s.heap.size ≤ q → (fun q : Nat => s.heap.size ≤ q) q := fun _ h => h
  have hbA : ¬ (fun q : Nat => s.heap.size ≤ q) b := Nat.not_le.mpr hbl
  refine lv_aload_n hx hb dL_law_1099 rfl (lv_at hl 2 rfl) ?_
  refine lv_aload_n hx hb dL_law_1100 rfl (lv_at hl 3 rfl) ?_
  refine lv_iload_n hx hb dL_law_1101 rfl (lv_at hl 0 rfl) ?_
  refine lv_iconst (v := 1) hx hb dL_law_1102 (by decide) ?_
  refine lv_iadd hx hb dL_law_1103 ?_
  refine q_c 1 (by decide +kernel) ?_
  refine va_sld X.1 X.2.1 hX hbl hbA h.2.2 (q_in (by decide +kernel)) dL_law_1104 ?_
  refine q_c a1 e1 ?_
  refine lv_aload_n hx hb dL_law_1105 rfl (lv_at hl 3 rfl) ?_
  refine lv_iload_n hx hb dL_law_1106 rfl (lv_at hl 0 rfl) ?_
  refine lv_iconst (v := 2) hx hb dL_law_1107 (by decide) ?_
  refine lv_iadd hx hb dL_law_1108 ?_
  refine q_c 2 (by decide +kernel) ?_
  refine va_sld X.1 X.2.1 hX hbl hbA h.2.2 (q_in (by decide +kernel)) dL_law_1109 ?_
  refine q_c a2 e2 ?_
  refine lv_aload_n hx hb dL_law_1110 rfl (lv_at hl 3 rfl) ?_
  refine lv_iload_n hx hb dL_law_1111 rfl (lv_at hl 0 rfl) ?_
  refine lv_iconst (v := 3) hx hb dL_law_1112 (by decide) ?_
  refine lv_iadd hx hb dL_law_1113 ?_
  refine q_c 3 (by decide +kernel) ?_
  refine va_sld X.1 X.2.1 hX hbl hbA h.2.2 (q_in (by decide +kernel)) dL_law_1114 ?_
  refine q_c a3 e3 ?_
  refine q_callVi (rest := []) (wr := [(y0, .inr (12, [.int 0, .ref (u_1.1 19), .ref (u_1.1 0), .ref (u_1.1 1), .ref (u_1.1 2), .int 0, .int 0, .int 0, .int 0, .int 0, .int 0, .int 0, .int 0, .int 0, .int (-1), .int 0, .ref (u_1.1 3), .ref (u_1.1 4), .ref (u_1.1 5), .ref (u_1.1 6), .ref (u_1.1 7), .int 0, .int 0, .ref (u_1.1 8), .ref (u_1.1 9), .ref (u_1.1 10), .int 0, .int 0, .ref (u_1.1 11), .ref (u_1.1 12), .ref (u_1.1 13), .ref (u_1.1 14), .ref (u_1.1 15), .int 0, .ref (u_1.1 16), .ref (u_1.1 17), .ref (u_1.1 18)])), ((u_1.1 19), .inl (cy 1, 3918, .inl (upd (fun _ => 0) (Int32.toNatClampNeg 1) 1)))]) X hK hA h (fun sz => kX11_hiddenAt_400 l D cy x0 (u_0.1 31) (u_0.1 37) a1 a2 a3 (u_0.1 0) (u_0.1 1) (u_0.1 39) (u_0.1 41) (u_0.1 43) (u_0.1 14) (u_0.1 15) (u_0.1 16) (u_0.1 17) (u_0.1 20) (u_0.1 24) (u_0.1 29) (u_0.1 32) (u_0.1 33) (u_0.1 34) (u_0.1 35) (u_0.1 36) (u_0.1 38)  sz) wm_5_85 wm_5_88 wm_1_1 hd_X11_hiddenAt wm_5_86 wm_5_87 (ci := 11) (q0 := 0) rfl rfl ⟨Nat.le_of_ble_eq_true rfl, Nat.le_of_ble_eq_true rfl⟩ hl.1 rfl (Nat.le_of_ble_eq_true rfl) dL_law_1115 ⟨Nat.le_of_ble_eq_true rfl, Nat.le_of_ble_eq_true rfl⟩ [0, 32, 38] [78, 98] rfl rfl (by decide) rfl rfl (fun r_10342 u_10342 Hp1 lc1 w_10342 hw1 => ?_)
  clear h
  obtain rfl : r_10342 = (-2) := w_10342
  replace hw1 : qW D _ _ [(y0, .inr (12, [.int 0, .ref (u_1.1 19), .ref (u_1.1 0), .ref (u_1.1 1), .ref (u_1.1 2), .int 0, .int 0, .int 0, .int 0, .int 0, .int 0, .int 0, .int 0, .int 0, .int (-1), .int 0, .ref (u_1.1 3), .ref (u_1.1 4), .ref (u_1.1 5), .ref (u_1.1 6), .ref (u_1.1 7), .int 0, .int 0, .ref (u_1.1 8), .ref (u_1.1 9), .ref (u_1.1 10), .int 0, .int 0, .ref (u_1.1 11), .ref (u_1.1 12), .ref (u_1.1 13), .ref (u_1.1 14), .ref (u_1.1 15), .int 0, .ref (u_1.1 16), .ref (u_1.1 17), .ref (u_1.1 18)])), ((u_1.1 19), .inl (cy 1, 3918, .inl (upd (fun _ => 0) (Int32.toNatClampNeg 1) 1)))] _ _ := hw1
  refine lv_aload_n hx hb dL_law_1118 rfl (lv_at hl 1 rfl) ?_
  refine lv_aload_n hx hb dL_law_1119 rfl (lv_at hl 3 rfl) ?_
  refine lv_iload_n hx hb dL_law_1120 rfl (lv_at hl 0 rfl) ?_
  refine lv_iconst (v := 1) hx hb dL_law_1121 (by decide) ?_
  refine lv_iadd hx hb dL_law_1122 ?_
  refine q_c 1 (by decide +kernel) ?_
  refine va_sld X.1 X.2.1 hX hbl hbA hw1.2.2 (q_in (by decide +kernel)) dL_law_1123 ?_
  refine q_c a1 e1 ?_
  refine lv_aload_n hx hb dL_law_1124 rfl (lv_at hl 3 rfl) ?_
  refine lv_iload_n hx hb dL_law_1125 rfl (lv_at hl 0 rfl) ?_
  refine lv_iconst (v := 2) hx hb dL_law_1126 (by decide) ?_
  refine lv_iadd hx hb dL_law_1127 ?_
  refine q_c 2 (by decide +kernel) ?_
  refine va_sld X.1 X.2.1 hX hbl hbA hw1.2.2 (q_in (by decide +kernel)) dL_law_1128 ?_
  refine q_c a2 e2 ?_
  refine lv_aload_n hx hb dL_law_1129 rfl (lv_at hl 3 rfl) ?_
  refine lv_iload_n hx hb dL_law_1130 rfl (lv_at hl 0 rfl) ?_
  refine lv_iconst (v := 3) hx hb dL_law_1131 (by decide) ?_
  refine lv_iadd hx hb dL_law_1132 ?_
  refine q_c 3 (by decide +kernel) ?_
  refine va_sld X.1 X.2.1 hX hbl hbA hw1.2.2 (q_in (by decide +kernel)) dL_law_1133 ?_
  refine q_c a3 e3 ?_
  refine q_callVi (rest := [.int (-2)]) (wr := []) X hK hA hw1 (fun sz => kX12_hiddenAt_401 l D cy y0 (u_1.1 19) a1 a2 a3 (u_1.1 0) (u_1.1 1) (u_1.1 2) (u_1.1 3) (u_1.1 4) (u_1.1 5) (u_1.1 6) (u_1.1 7) (u_1.1 8) (u_1.1 9) (u_1.1 10) (u_1.1 11) (u_1.1 12) (u_1.1 13) (u_1.1 14) (u_1.1 15) (u_1.1 16) (u_1.1 17) (u_1.1 18) (upd (fun _ => 0) (Int32.toNatClampNeg 1) 1) (q_un (by decide +kernel) rfl) sz) wm_7_239 wm_8_2 wm_1_12 hd_X12_hiddenAt wm_8_0 wm_8_1 (ci := 12) (q0 := 0) rfl rfl ⟨Nat.le_of_ble_eq_true rfl, Nat.le_of_ble_eq_true rfl⟩ hl.1 rfl (Nat.le_of_ble_eq_true rfl) dL_law_1134 ⟨Nat.le_of_ble_eq_true rfl, Nat.le_of_ble_eq_true rfl⟩ [0, 1] [] rfl rfl (by decide) rfl rfl (fun r_10348 u_10348 Hp2 lc2 w_10348 hw2 => ?_)
  clear Hp1 lc1 hw1
  obtain rfl : r_10348 = (-2) := w_10348
  replace hw2 : qW D _ _ [] _ _ := hw2
  refine lv_icmp_eq (tgt := 1461) hx hb dL_law_1137 (by decide) (fun _ => ?_) (fun c => absurd c (by decide +kernel))
  exact law_tail l X hr hlk hX hbl hw2.2.2 hl (Nat.le_of_ble_eq_true rfl) (Nat.le_of_ble_eq_true rfl)
set_option maxHeartbeats 4000000 in
set_option maxRecDepth 100000 in
theorem lc_probe (l : Launch) {p : Program} {e : Env} {s : State} {m : MethodId} {below : List Frame} {meth : Method} {c : Code} {b : Nat} {xs : Nat → Int32} {D : va_G} {cy : Nat → ClassId} {H : Heap} {locs : List Loc} {ls : Array Slot} {x0 y0 : Nat} {u_0 u_1 : SS} (X : qX p s m #[Value.ref b] c cL_law 4 RL) (hr : meth.sig.returnType = ret) (hlk : meth.locks = false) (hX : va_X b 6 xs s s.heap) (hbl : b < s.heap.size) (hK : qK D cy s) (a1 a2 a3 a4 a5 : Int32) (e1 : xs (Int32.toNatClampNeg 1) = a1) (e2 : xs (Int32.toNatClampNeg 2) = a2) (e3 : xs (Int32.toNatClampNeg 3) = a3) (e4 : xs (Int32.toNatClampNeg 4) = a4) (e5 : xs (Int32.toNatClampNeg 5) = a5) (h : qW D (fun q => s.heap.size ≤ q) s.heap (wLaw cy x0 y0 u_0 u_1) H locs) (hl : lv_has ls 4 [(3, .int 0), (2, .ref y0), (1, .ref x0), (0, .ref b)]) : W p l e room_1 s m #[Value.ref b] below meth c H locs 99 25544 (lw_Z below #[Value.ref b] s) (F0 m 1142 ls []) := by
  obtain ⟨hx, hb, hml, hown, ht⟩ := id X
  have hA : ∀ q : Nat, s.heap.size ≤ q → (fun q : Nat => s.heap.size ≤ q) q := fun _ h => h
  have hbA : ¬ (fun q : Nat => s.heap.size ≤ q) b := Nat.not_le.mpr hbl
  refine lv_aload_n hx hb dL_law_1142 rfl (lv_at hl 2 rfl) ?_
  refine lv_aload_n hx hb dL_law_1143 rfl (lv_at hl 3 rfl) ?_
  refine lv_iload_n hx hb dL_law_1144 rfl (lv_at hl 0 rfl) ?_
  refine lv_iconst (v := 1) hx hb dL_law_1145 (by decide) ?_
  refine lv_iadd hx hb dL_law_1146 ?_
  refine q_c 1 (by decide +kernel) ?_
  refine va_sld X.1 X.2.1 hX hbl hbA h.2.2 (q_in (by decide +kernel)) dL_law_1147 ?_
  refine q_c a1 e1 ?_
  refine lv_aload_n hx hb dL_law_1148 rfl (lv_at hl 3 rfl) ?_
  refine lv_iload_n hx hb dL_law_1149 rfl (lv_at hl 0 rfl) ?_
  refine lv_iconst (v := 2) hx hb dL_law_1150 (by decide) ?_
  refine lv_iadd hx hb dL_law_1151 ?_
  refine q_c 2 (by decide +kernel) ?_
  refine va_sld X.1 X.2.1 hX hbl hbA h.2.2 (q_in (by decide +kernel)) dL_law_1152 ?_
  refine q_c a2 e2 ?_
  refine q_callVi (rest := []) (wr := [(y0, .inr (12, [.int 0, .ref (u_1.1 19), .ref (u_1.1 0), .ref (u_1.1 1), .ref (u_1.1 2), .int 0, .int 0, .int 0, .int 0, .int 0, .int 0, .int 0, .int 0, .int 0, .int (-1), .int 0, .ref (u_1.1 3), .ref (u_1.1 4), .ref (u_1.1 5), .ref (u_1.1 6), .ref (u_1.1 7), .int 0, .int 0, .ref (u_1.1 8), .ref (u_1.1 9), .ref (u_1.1 10), .int 0, .int 0, .ref (u_1.1 11), .ref (u_1.1 12), .ref (u_1.1 13), .ref (u_1.1 14), .ref (u_1.1 15), .int 0, .ref (u_1.1 16), .ref (u_1.1 17), .ref (u_1.1 18)])), ((u_1.1 19), .inl (cy 1, 3918, .inl (upd (fun _ => 0) (Int32.toNatClampNeg 1) 1)))]) X hK hA h (fun sz => kX11_probe_402 l D cy x0 (u_0.1 31) (u_0.1 37) a1 a2 (u_0.1 0) (u_0.1 1) (u_0.1 39) (u_0.1 41) (u_0.1 43) (u_0.1 14) (u_0.1 15) (u_0.1 16) (u_0.1 17) (u_0.1 20) (u_0.1 24) (u_0.1 29) (u_0.1 32) (u_0.1 33) (u_0.1 34) (u_0.1 35) (u_0.1 36) (u_0.1 38)  sz) wm_5_89 wm_5_92 wm_1_1 hd_X11_probe wm_5_90 wm_5_91 (ci := 11) (q0 := 0) rfl rfl ⟨Nat.le_of_ble_eq_true rfl, Nat.le_of_ble_eq_true rfl⟩ hl.1 rfl (Nat.le_of_ble_eq_true rfl) dL_law_1153 ⟨Nat.le_of_ble_eq_true rfl, Nat.le_of_ble_eq_true rfl⟩ [0, 32, 38] [78, 98] rfl rfl (by decide) rfl rfl (fun r_10380 u_10380 Hp1 lc1 w_10380 hw1 => ?_)
  clear h
  obtain rfl : r_10380 = (-2) := w_10380
  replace hw1 : qW D _ _ [(y0, .inr (12, [.int 0, .ref (u_1.1 19), .ref (u_1.1 0), .ref (u_1.1 1), .ref (u_1.1 2), .int 0, .int 0, .int 0, .int 0, .int 0, .int 0, .int 0, .int 0, .int 0, .int (-1), .int 0, .ref (u_1.1 3), .ref (u_1.1 4), .ref (u_1.1 5), .ref (u_1.1 6), .ref (u_1.1 7), .int 0, .int 0, .ref (u_1.1 8), .ref (u_1.1 9), .ref (u_1.1 10), .int 0, .int 0, .ref (u_1.1 11), .ref (u_1.1 12), .ref (u_1.1 13), .ref (u_1.1 14), .ref (u_1.1 15), .int 0, .ref (u_1.1 16), .ref (u_1.1 17), .ref (u_1.1 18)])), ((u_1.1 19), .inl (cy 1, 3918, .inl (upd (fun _ => 0) (Int32.toNatClampNeg 1) 1)))] _ _ := hw1
  refine lv_aload_n hx hb dL_law_1156 rfl (lv_at hl 1 rfl) ?_
  refine lv_aload_n hx hb dL_law_1157 rfl (lv_at hl 3 rfl) ?_
  refine lv_iload_n hx hb dL_law_1158 rfl (lv_at hl 0 rfl) ?_
  refine lv_iconst (v := 1) hx hb dL_law_1159 (by decide) ?_
  refine lv_iadd hx hb dL_law_1160 ?_
  refine q_c 1 (by decide +kernel) ?_
  refine va_sld X.1 X.2.1 hX hbl hbA hw1.2.2 (q_in (by decide +kernel)) dL_law_1161 ?_
  refine q_c a1 e1 ?_
  refine lv_aload_n hx hb dL_law_1162 rfl (lv_at hl 3 rfl) ?_
  refine lv_iload_n hx hb dL_law_1163 rfl (lv_at hl 0 rfl) ?_
  refine lv_iconst (v := 2) hx hb dL_law_1164 (by decide) ?_
  refine lv_iadd hx hb dL_law_1165 ?_
  refine q_c 2 (by decide +kernel) ?_
  refine va_sld X.1 X.2.1 hX hbl hbA hw1.2.2 (q_in (by decide +kernel)) dL_law_1166 ?_
  refine q_c a2 e2 ?_
  refine q_callVi (rest := [.int (-2)]) (wr := []) X hK hA hw1 (fun sz => kX12_probe_403 l D cy y0 (u_1.1 19) a1 a2 (u_1.1 0) (u_1.1 1) (u_1.1 2) (u_1.1 3) (u_1.1 4) (u_1.1 5) (u_1.1 6) (u_1.1 7) (u_1.1 8) (u_1.1 9) (u_1.1 10) (u_1.1 11) (u_1.1 12) (u_1.1 13) (u_1.1 14) (u_1.1 15) (u_1.1 16) (u_1.1 17) (u_1.1 18) (upd (fun _ => 0) (Int32.toNatClampNeg 1) 1) (q_un (by decide +kernel) rfl) sz) wm_8_3 wm_8_6 wm_1_12 hd_X12_probe wm_8_4 wm_8_5 (ci := 12) (q0 := 0) rfl rfl ⟨Nat.le_of_ble_eq_true rfl, Nat.le_of_ble_eq_true rfl⟩ hl.1 rfl (Nat.le_of_ble_eq_true rfl) dL_law_1167 ⟨Nat.le_of_ble_eq_true rfl, Nat.le_of_ble_eq_true rfl⟩ [0, 1] [] rfl rfl (by decide) rfl rfl (fun r_10386 u_10386 Hp2 lc2 w_10386 hw2 => ?_)
  clear Hp1 lc1 hw1
  obtain rfl : r_10386 = (-2) := w_10386
  replace hw2 : qW D _ _ [] _ _ := hw2
  refine lv_icmp_eq (tgt := 1461) hx hb dL_law_1170 (by decide) (fun _ => ?_) (fun c => absurd c (by decide +kernel))
  exact law_tail l X hr hlk hX hbl hw2.2.2 hl (Nat.le_of_ble_eq_true rfl) (Nat.le_of_ble_eq_true rfl)
set_option maxHeartbeats 4000000 in
set_option maxRecDepth 100000 in
theorem lc_chance (l : Launch) {p : Program} {e : Env} {s : State} {m : MethodId} {below : List Frame} {meth : Method} {c : Code} {b : Nat} {xs : Nat → Int32} {D : va_G} {cy : Nat → ClassId} {H : Heap} {locs : List Loc} {ls : Array Slot} {x0 y0 : Nat} {u_0 u_1 : SS} (X : qX p s m #[Value.ref b] c cL_law 4 RL) (hr : meth.sig.returnType = ret) (hlk : meth.locks = false) (hX : va_X b 6 xs s s.heap) (hbl : b < s.heap.size) (hK : qK D cy s) (a1 a2 a3 a4 a5 : Int32) (e1 : xs (Int32.toNatClampNeg 1) = a1) (e2 : xs (Int32.toNatClampNeg 2) = a2) (e3 : xs (Int32.toNatClampNeg 3) = a3) (e4 : xs (Int32.toNatClampNeg 4) = a4) (e5 : xs (Int32.toNatClampNeg 5) = a5) (h : qW D (fun q => s.heap.size ≤ q) s.heap (wLaw cy x0 y0 u_0 u_1) H locs) (hl : lv_has ls 4 [(3, .int 0), (2, .ref y0), (1, .ref x0), (0, .ref b)]) : W p l e room_1 s m #[Value.ref b] below meth c H locs 99 25544 (lw_Z below #[Value.ref b] s) (F0 m 1175 ls []) := by
  obtain ⟨hx, hb, hml, hown, ht⟩ := id X
  have hA : ∀ q : Nat, s.heap.size ≤ q → (fun q : Nat => s.heap.size ≤ q) q := fun _ h => h
  have hbA : ¬ (fun q : Nat => s.heap.size ≤ q) b := Nat.not_le.mpr hbl
  by_cases c_10392 : a2 ≤ (-1)
  · skip
    refine lv_aload_n hx hb dL_law_1175 rfl (lv_at hl 2 rfl) ?_
    refine lv_aload_n hx hb dL_law_1176 rfl (lv_at hl 3 rfl) ?_
    refine lv_iload_n hx hb dL_law_1177 rfl (lv_at hl 0 rfl) ?_
    refine lv_iconst (v := 1) hx hb dL_law_1178 (by decide) ?_
    refine lv_iadd hx hb dL_law_1179 ?_
    refine q_c 1 (by decide +kernel) ?_
    refine va_sld X.1 X.2.1 hX hbl hbA h.2.2 (q_in (by decide +kernel)) dL_law_1180 ?_
    refine q_c a1 e1 ?_
    refine lv_aload_n hx hb dL_law_1181 rfl (lv_at hl 3 rfl) ?_
    refine lv_iload_n hx hb dL_law_1182 rfl (lv_at hl 0 rfl) ?_
    refine lv_iconst (v := 2) hx hb dL_law_1183 (by decide) ?_
    refine lv_iadd hx hb dL_law_1184 ?_
    refine q_c 2 (by decide +kernel) ?_
    refine va_sld X.1 X.2.1 hX hbl hbA h.2.2 (q_in (by decide +kernel)) dL_law_1185 ?_
    refine q_c a2 e2 ?_
    have g_10410 : a2 ≤ ((-1) : Int32) := by
      simp only [Int32.lt_iff_toInt_lt, Int32.le_iff_toInt_le, ← Int32.toInt_inj] at c_10392 ⊢
      have k_0 : ((-1) : Int32).toInt = -1 := by decide
      omega
    refine q_callVl (rest := []) (wr := [(y0, .inr (12, [.int 0, .ref (u_1.1 19), .ref (u_1.1 0), .ref (u_1.1 1), .ref (u_1.1 2), .int 0, .int 0, .int 0, .int 0, .int 0, .int 0, .int 0, .int 0, .int 0, .int (-1), .int 0, .ref (u_1.1 3), .ref (u_1.1 4), .ref (u_1.1 5), .ref (u_1.1 6), .ref (u_1.1 7), .int 0, .int 0, .ref (u_1.1 8), .ref (u_1.1 9), .ref (u_1.1 10), .int 0, .int 0, .ref (u_1.1 11), .ref (u_1.1 12), .ref (u_1.1 13), .ref (u_1.1 14), .ref (u_1.1 15), .int 0, .ref (u_1.1 16), .ref (u_1.1 17), .ref (u_1.1 18)]))]) X hK hA h (fun sz => kX11_chance_404 l D cy x0 a1 a2 (u_0.1 0) (u_0.1 1) (u_0.1 37) (u_0.1 39) (u_0.1 41) (u_0.1 43) (u_0.1 14) (u_0.1 15) (u_0.1 16) (u_0.1 17) (u_0.1 20) (u_0.1 24) (u_0.1 29) g_10410 sz) wm_5_102 wm_5_105 wm_1_1 hd_X11_chance wm_5_103 wm_5_104 (ci := 11) (q0 := 0) rfl rfl ⟨Nat.le_of_ble_eq_true rfl, Nat.le_of_ble_eq_true rfl⟩ hl.1 rfl (Nat.le_of_ble_eq_true rfl) dL_law_1186 ⟨Nat.le_of_ble_eq_true rfl, Nat.le_of_ble_eq_true rfl⟩ [0] [78] rfl rfl (by decide) rfl rfl (fun r_10411 u_10411 Hp1 lc1 w_10411 hw1 => ?_)
    clear h
    obtain rfl : r_10411 = (-2) := w_10411
    replace hw1 : qW D _ _ [(y0, .inr (12, [.int 0, .ref (u_1.1 19), .ref (u_1.1 0), .ref (u_1.1 1), .ref (u_1.1 2), .int 0, .int 0, .int 0, .int 0, .int 0, .int 0, .int 0, .int 0, .int 0, .int (-1), .int 0, .ref (u_1.1 3), .ref (u_1.1 4), .ref (u_1.1 5), .ref (u_1.1 6), .ref (u_1.1 7), .int 0, .int 0, .ref (u_1.1 8), .ref (u_1.1 9), .ref (u_1.1 10), .int 0, .int 0, .ref (u_1.1 11), .ref (u_1.1 12), .ref (u_1.1 13), .ref (u_1.1 14), .ref (u_1.1 15), .int 0, .ref (u_1.1 16), .ref (u_1.1 17), .ref (u_1.1 18)]))] _ _ := hw1
    refine lv_aload_n hx hb dL_law_1189 rfl (lv_at hl 1 rfl) ?_
    refine lv_aload_n hx hb dL_law_1190 rfl (lv_at hl 3 rfl) ?_
    refine lv_iload_n hx hb dL_law_1191 rfl (lv_at hl 0 rfl) ?_
    refine lv_iconst (v := 1) hx hb dL_law_1192 (by decide) ?_
    refine lv_iadd hx hb dL_law_1193 ?_
    refine q_c 1 (by decide +kernel) ?_
    refine va_sld X.1 X.2.1 hX hbl hbA hw1.2.2 (q_in (by decide +kernel)) dL_law_1194 ?_
    refine q_c a1 e1 ?_
    refine lv_aload_n hx hb dL_law_1195 rfl (lv_at hl 3 rfl) ?_
    refine lv_iload_n hx hb dL_law_1196 rfl (lv_at hl 0 rfl) ?_
    refine lv_iconst (v := 2) hx hb dL_law_1197 (by decide) ?_
    refine lv_iadd hx hb dL_law_1198 ?_
    refine q_c 2 (by decide +kernel) ?_
    refine va_sld X.1 X.2.1 hX hbl hbA hw1.2.2 (q_in (by decide +kernel)) dL_law_1199 ?_
    refine q_c a2 e2 ?_
    have g_10415 : a2 ≤ ((-1) : Int32) := by
      simp only [Int32.lt_iff_toInt_lt, Int32.le_iff_toInt_le, ← Int32.toInt_inj] at c_10392 ⊢
      have k_0 : ((-1) : Int32).toInt = -1 := by decide
      omega
    refine q_callVl (rest := [.long (-2)]) (wr := []) X hK hA hw1 (fun sz => kX12_chance_405 l D cy y0 a1 a2 (u_1.1 19) (u_1.1 0) (u_1.1 1) (u_1.1 2) (u_1.1 3) (u_1.1 4) (u_1.1 5) (u_1.1 6) (u_1.1 7) (u_1.1 8) (u_1.1 9) (u_1.1 10) (u_1.1 11) (u_1.1 12) (u_1.1 13) (u_1.1 14) (u_1.1 15) (u_1.1 16) (u_1.1 17) (u_1.1 18) g_10415 sz) wm_8_7 wm_8_10 wm_1_12 hd_X12_chance wm_8_8 wm_8_9 (ci := 12) (q0 := 0) rfl rfl ⟨Nat.le_of_ble_eq_true rfl, Nat.le_of_ble_eq_true rfl⟩ hl.1 rfl (Nat.le_of_ble_eq_true rfl) dL_law_1200 ⟨Nat.le_of_ble_eq_true rfl, Nat.le_of_ble_eq_true rfl⟩ [0] [] rfl rfl (by decide) rfl rfl (fun r_10416 u_10416 Hp2 lc2 w_10416 hw2 => ?_)
    clear Hp1 lc1 hw1
    obtain rfl : r_10416 = (-2) := w_10416
    replace hw2 : qW D _ _ [] _ _ := hw2
    refine W.lcmp hx hb dL_law_1203 ?_
    refine q_c 0 (by decide +kernel) ?_
    refine lv_if_eq (tgt := 1461) hx hb dL_law_1204 (by decide) (fun _ => ?_) (fun c => absurd c (by decide +kernel))
    exact law_tail l X hr hlk hX hbl hw2.2.2 hl (Nat.le_of_ble_eq_true rfl) (Nat.le_of_ble_eq_true rfl)
  by_cases c_10417 : a2 = 0
  · subst c_10417
    by_cases c_10422 : a1 = 0
    · subst c_10422
      refine lv_aload_n hx hb dL_law_1175 rfl (lv_at hl 2 rfl) ?_
      refine lv_aload_n hx hb dL_law_1176 rfl (lv_at hl 3 rfl) ?_
      refine lv_iload_n hx hb dL_law_1177 rfl (lv_at hl 0 rfl) ?_
      refine lv_iconst (v := 1) hx hb dL_law_1178 (by decide) ?_
      refine lv_iadd hx hb dL_law_1179 ?_
      refine q_c 1 (by decide +kernel) ?_
      refine va_sld X.1 X.2.1 hX hbl hbA h.2.2 (q_in (by decide +kernel)) dL_law_1180 ?_
      refine q_c 0 e1 ?_
      refine lv_aload_n hx hb dL_law_1181 rfl (lv_at hl 3 rfl) ?_
      refine lv_iload_n hx hb dL_law_1182 rfl (lv_at hl 0 rfl) ?_
      refine lv_iconst (v := 2) hx hb dL_law_1183 (by decide) ?_
      refine lv_iadd hx hb dL_law_1184 ?_
      refine q_c 2 (by decide +kernel) ?_
      refine va_sld X.1 X.2.1 hX hbl hbA h.2.2 (q_in (by decide +kernel)) dL_law_1185 ?_
      refine q_c 0 e2 ?_
      refine q_callVl (rest := []) (wr := [(y0, .inr (12, [.int 0, .ref (u_1.1 19), .ref (u_1.1 0), .ref (u_1.1 1), .ref (u_1.1 2), .int 0, .int 0, .int 0, .int 0, .int 0, .int 0, .int 0, .int 0, .int 0, .int (-1), .int 0, .ref (u_1.1 3), .ref (u_1.1 4), .ref (u_1.1 5), .ref (u_1.1 6), .ref (u_1.1 7), .int 0, .int 0, .ref (u_1.1 8), .ref (u_1.1 9), .ref (u_1.1 10), .int 0, .int 0, .ref (u_1.1 11), .ref (u_1.1 12), .ref (u_1.1 13), .ref (u_1.1 14), .ref (u_1.1 15), .int 0, .ref (u_1.1 16), .ref (u_1.1 17), .ref (u_1.1 18)])), ((u_1.1 8), .inl (cy 1, 1024, .inl (fun _ => 0))), ((u_1.1 19), .inl (cy 1, 3918, .inl (upd (fun _ => 0) (Int32.toNatClampNeg 1) 1)))]) X hK hA h (fun sz => kX11_chance_408 l D cy x0 (u_0.1 20) (u_0.1 21) (u_0.1 22) (u_0.1 31) (u_0.1 37) (u_0.1 0) (u_0.1 1) (u_0.1 39) (u_0.1 41) (u_0.1 43) (u_0.1 14) (u_0.1 15) (u_0.1 16) (u_0.1 17) (u_0.1 24) (u_0.1 29) (u_0.1 23) (u_0.1 32) (u_0.1 33) (u_0.1 34) (u_0.1 35) (u_0.1 36) (u_0.1 38)  sz) wm_5_102 wm_5_105 wm_1_1 hd_X11_chance wm_5_103 wm_5_104 (ci := 11) (q0 := 0) rfl rfl ⟨Nat.le_of_ble_eq_true rfl, Nat.le_of_ble_eq_true rfl⟩ hl.1 rfl (Nat.le_of_ble_eq_true rfl) dL_law_1186 ⟨Nat.le_of_ble_eq_true rfl, Nat.le_of_ble_eq_true rfl⟩ [0, 21, 22, 23, 32, 38] [78, 87, 98] rfl rfl (by decide) rfl rfl (fun r_10494 u_10494 Hp3 lc3 w_10494 hw3 => ?_)
      clear h
      obtain rfl : r_10494 = 1 := w_10494
      replace hw3 : qW D _ _ [(y0, .inr (12, [.int 0, .ref (u_1.1 19), .ref (u_1.1 0), .ref (u_1.1 1), .ref (u_1.1 2), .int 0, .int 0, .int 0, .int 0, .int 0, .int 0, .int 0, .int 0, .int 0, .int (-1), .int 0, .ref (u_1.1 3), .ref (u_1.1 4), .ref (u_1.1 5), .ref (u_1.1 6), .ref (u_1.1 7), .int 0, .int 0, .ref (u_1.1 8), .ref (u_1.1 9), .ref (u_1.1 10), .int 0, .int 0, .ref (u_1.1 11), .ref (u_1.1 12), .ref (u_1.1 13), .ref (u_1.1 14), .ref (u_1.1 15), .int 0, .ref (u_1.1 16), .ref (u_1.1 17), .ref (u_1.1 18)])), ((u_1.1 8), .inl (cy 1, 1024, .inl (fun _ => 0))), ((u_1.1 19), .inl (cy 1, 3918, .inl (upd (fun _ => 0) (Int32.toNatClampNeg 1) 1)))] _ _ := hw3
      refine lv_aload_n hx hb dL_law_1189 rfl (lv_at hl 1 rfl) ?_
      refine lv_aload_n hx hb dL_law_1190 rfl (lv_at hl 3 rfl) ?_
      refine lv_iload_n hx hb dL_law_1191 rfl (lv_at hl 0 rfl) ?_
      refine lv_iconst (v := 1) hx hb dL_law_1192 (by decide) ?_
      refine lv_iadd hx hb dL_law_1193 ?_
      refine q_c 1 (by decide +kernel) ?_
      refine va_sld X.1 X.2.1 hX hbl hbA hw3.2.2 (q_in (by decide +kernel)) dL_law_1194 ?_
      refine q_c 0 e1 ?_
      refine lv_aload_n hx hb dL_law_1195 rfl (lv_at hl 3 rfl) ?_
      refine lv_iload_n hx hb dL_law_1196 rfl (lv_at hl 0 rfl) ?_
      refine lv_iconst (v := 2) hx hb dL_law_1197 (by decide) ?_
      refine lv_iadd hx hb dL_law_1198 ?_
      refine q_c 2 (by decide +kernel) ?_
      refine va_sld X.1 X.2.1 hX hbl hbA hw3.2.2 (q_in (by decide +kernel)) dL_law_1199 ?_
      refine q_c 0 e2 ?_
      refine q_callVl (rest := [.long 1]) (wr := []) X hK hA hw3 (fun sz => kX12_chance_414 l D cy y0 (u_1.1 8) (u_1.1 19) (u_1.1 0) (u_1.1 1) (u_1.1 2) (u_1.1 3) (u_1.1 4) (u_1.1 5) (u_1.1 6) (u_1.1 7) (u_1.1 9) (u_1.1 10) (u_1.1 11) (u_1.1 12) (u_1.1 13) (u_1.1 14) (u_1.1 15) (u_1.1 16) (u_1.1 17) (u_1.1 18) (upd (fun _ => 0) (Int32.toNatClampNeg 1) 1) (q_un (by decide +kernel) rfl) (q_un (by decide +kernel) rfl) sz) wm_8_7 wm_8_10 wm_1_12 hd_X12_chance wm_8_8 wm_8_9 (ci := 12) (q0 := 0) rfl rfl ⟨Nat.le_of_ble_eq_true rfl, Nat.le_of_ble_eq_true rfl⟩ hl.1 rfl (Nat.le_of_ble_eq_true rfl) dL_law_1200 ⟨Nat.le_of_ble_eq_true rfl, Nat.le_of_ble_eq_true rfl⟩ [0, 1, 2] [] rfl rfl (by decide) rfl rfl (fun r_10506 u_10506 Hp4 lc4 w_10506 hw4 => ?_)
      clear Hp3 lc3 hw3
      obtain rfl : r_10506 = 1 := w_10506
      replace hw4 : qW D _ _ [] _ _ := hw4
      refine W.lcmp hx hb dL_law_1203 ?_
      refine q_c 0 (by decide +kernel) ?_
      refine lv_if_eq (tgt := 1461) hx hb dL_law_1204 (by decide) (fun _ => ?_) (fun c => absurd c (by decide +kernel))
      exact law_tail l X hr hlk hX hbl hw4.2.2 hl (Nat.le_of_ble_eq_true rfl) (Nat.le_of_ble_eq_true rfl)
    refine lv_aload_n hx hb dL_law_1175 rfl (lv_at hl 2 rfl) ?_
    refine lv_aload_n hx hb dL_law_1176 rfl (lv_at hl 3 rfl) ?_
    refine lv_iload_n hx hb dL_law_1177 rfl (lv_at hl 0 rfl) ?_
    refine lv_iconst (v := 1) hx hb dL_law_1178 (by decide) ?_
    refine lv_iadd hx hb dL_law_1179 ?_
    refine q_c 1 (by decide +kernel) ?_
    refine va_sld X.1 X.2.1 hX hbl hbA h.2.2 (q_in (by decide +kernel)) dL_law_1180 ?_
    refine q_c a1 e1 ?_
    refine lv_aload_n hx hb dL_law_1181 rfl (lv_at hl 3 rfl) ?_
    refine lv_iload_n hx hb dL_law_1182 rfl (lv_at hl 0 rfl) ?_
    refine lv_iconst (v := 2) hx hb dL_law_1183 (by decide) ?_
    refine lv_iadd hx hb dL_law_1184 ?_
    refine q_c 2 (by decide +kernel) ?_
    refine va_sld X.1 X.2.1 hX hbl hbA h.2.2 (q_in (by decide +kernel)) dL_law_1185 ?_
    refine q_c 0 e2 ?_
    have g_10539 : ¬ a1 = (0 : Int32) := by
      simp only [Int32.lt_iff_toInt_lt, Int32.le_iff_toInt_le, ← Int32.toInt_inj] at c_10422 ⊢
      have k_0 : (0 : Int32).toInt = 0 := by decide
      omega
    refine q_callVl (rest := []) (wr := [(y0, .inr (12, [.int 0, .ref (u_1.1 19), .ref (u_1.1 0), .ref (u_1.1 1), .ref (u_1.1 2), .int 0, .int 0, .int 0, .int 0, .int 0, .int 0, .int 0, .int 0, .int 0, .int (-1), .int 0, .ref (u_1.1 3), .ref (u_1.1 4), .ref (u_1.1 5), .ref (u_1.1 6), .ref (u_1.1 7), .int 0, .int 0, .ref (u_1.1 8), .ref (u_1.1 9), .ref (u_1.1 10), .int 0, .int 0, .ref (u_1.1 11), .ref (u_1.1 12), .ref (u_1.1 13), .ref (u_1.1 14), .ref (u_1.1 15), .int 0, .ref (u_1.1 16), .ref (u_1.1 17), .ref (u_1.1 18)])), ((u_1.1 19), .inl (cy 1, 3918, .inl (upd (fun _ => 0) (Int32.toNatClampNeg 1) 1)))]) X hK hA h (fun sz => kX11_chance_415 l D cy x0 (u_0.1 31) (u_0.1 37) a1 (u_0.1 0) (u_0.1 1) (u_0.1 39) (u_0.1 41) (u_0.1 43) (u_0.1 14) (u_0.1 15) (u_0.1 16) (u_0.1 17) (u_0.1 20) (u_0.1 24) (u_0.1 29) (u_0.1 32) (u_0.1 33) (u_0.1 34) (u_0.1 35) (u_0.1 36) (u_0.1 38) g_10539 sz) wm_5_102 wm_5_105 wm_1_1 hd_X11_chance wm_5_103 wm_5_104 (ci := 11) (q0 := 0) rfl rfl ⟨Nat.le_of_ble_eq_true rfl, Nat.le_of_ble_eq_true rfl⟩ hl.1 rfl (Nat.le_of_ble_eq_true rfl) dL_law_1186 ⟨Nat.le_of_ble_eq_true rfl, Nat.le_of_ble_eq_true rfl⟩ [0, 32, 38] [78, 98] rfl rfl (by decide) rfl rfl (fun r_10540 u_10540 Hp5 lc5 w_10540 hw5 => ?_)
    clear h
    obtain rfl : r_10540 = (-3) := w_10540
    replace hw5 : qW D _ _ [(y0, .inr (12, [.int 0, .ref (u_1.1 19), .ref (u_1.1 0), .ref (u_1.1 1), .ref (u_1.1 2), .int 0, .int 0, .int 0, .int 0, .int 0, .int 0, .int 0, .int 0, .int 0, .int (-1), .int 0, .ref (u_1.1 3), .ref (u_1.1 4), .ref (u_1.1 5), .ref (u_1.1 6), .ref (u_1.1 7), .int 0, .int 0, .ref (u_1.1 8), .ref (u_1.1 9), .ref (u_1.1 10), .int 0, .int 0, .ref (u_1.1 11), .ref (u_1.1 12), .ref (u_1.1 13), .ref (u_1.1 14), .ref (u_1.1 15), .int 0, .ref (u_1.1 16), .ref (u_1.1 17), .ref (u_1.1 18)])), ((u_1.1 19), .inl (cy 1, 3918, .inl (upd (fun _ => 0) (Int32.toNatClampNeg 1) 1)))] _ _ := hw5
    refine lv_aload_n hx hb dL_law_1189 rfl (lv_at hl 1 rfl) ?_
    refine lv_aload_n hx hb dL_law_1190 rfl (lv_at hl 3 rfl) ?_
    refine lv_iload_n hx hb dL_law_1191 rfl (lv_at hl 0 rfl) ?_
    refine lv_iconst (v := 1) hx hb dL_law_1192 (by decide) ?_
    refine lv_iadd hx hb dL_law_1193 ?_
    refine q_c 1 (by decide +kernel) ?_
    refine va_sld X.1 X.2.1 hX hbl hbA hw5.2.2 (q_in (by decide +kernel)) dL_law_1194 ?_
    refine q_c a1 e1 ?_
    refine lv_aload_n hx hb dL_law_1195 rfl (lv_at hl 3 rfl) ?_
    refine lv_iload_n hx hb dL_law_1196 rfl (lv_at hl 0 rfl) ?_
    refine lv_iconst (v := 2) hx hb dL_law_1197 (by decide) ?_
    refine lv_iadd hx hb dL_law_1198 ?_
    refine q_c 2 (by decide +kernel) ?_
    refine va_sld X.1 X.2.1 hX hbl hbA hw5.2.2 (q_in (by decide +kernel)) dL_law_1199 ?_
    refine q_c 0 e2 ?_
    have g_10546 : ¬ a1 = (0 : Int32) := by
      simp only [Int32.lt_iff_toInt_lt, Int32.le_iff_toInt_le, ← Int32.toInt_inj] at c_10422 ⊢
      have k_0 : (0 : Int32).toInt = 0 := by decide
      omega
    refine q_callVl (rest := [.long (-3)]) (wr := []) X hK hA hw5 (fun sz => kX12_chance_416 l D cy y0 (u_1.1 19) a1 (u_1.1 0) (u_1.1 1) (u_1.1 2) (u_1.1 3) (u_1.1 4) (u_1.1 5) (u_1.1 6) (u_1.1 7) (u_1.1 8) (u_1.1 9) (u_1.1 10) (u_1.1 11) (u_1.1 12) (u_1.1 13) (u_1.1 14) (u_1.1 15) (u_1.1 16) (u_1.1 17) (u_1.1 18) (upd (fun _ => 0) (Int32.toNatClampNeg 1) 1) g_10546 (q_un (by decide +kernel) rfl) sz) wm_8_7 wm_8_10 wm_1_12 hd_X12_chance wm_8_8 wm_8_9 (ci := 12) (q0 := 0) rfl rfl ⟨Nat.le_of_ble_eq_true rfl, Nat.le_of_ble_eq_true rfl⟩ hl.1 rfl (Nat.le_of_ble_eq_true rfl) dL_law_1200 ⟨Nat.le_of_ble_eq_true rfl, Nat.le_of_ble_eq_true rfl⟩ [0, 1] [] rfl rfl (by decide) rfl rfl (fun r_10547 u_10547 Hp6 lc6 w_10547 hw6 => ?_)
    clear Hp5 lc5 hw5
    obtain rfl : r_10547 = (-3) := w_10547
    replace hw6 : qW D _ _ [] _ _ := hw6
    refine W.lcmp hx hb dL_law_1203 ?_
    refine q_c 0 (by decide +kernel) ?_
    refine lv_if_eq (tgt := 1461) hx hb dL_law_1204 (by decide) (fun _ => ?_) (fun c => absurd c (by decide +kernel))
    exact law_tail l X hr hlk hX hbl hw6.2.2 hl (Nat.le_of_ble_eq_true rfl) (Nat.le_of_ble_eq_true rfl)
  by_cases c_10548 : a2 = 1
  · subst c_10548
    by_cases c_10553 : a1 = 0
    · subst c_10553
      refine lv_aload_n hx hb dL_law_1175 rfl (lv_at hl 2 rfl) ?_
      refine lv_aload_n hx hb dL_law_1176 rfl (lv_at hl 3 rfl) ?_
      refine lv_iload_n hx hb dL_law_1177 rfl (lv_at hl 0 rfl) ?_
      refine lv_iconst (v := 1) hx hb dL_law_1178 (by decide) ?_
      refine lv_iadd hx hb dL_law_1179 ?_
      refine q_c 1 (by decide +kernel) ?_
      refine va_sld X.1 X.2.1 hX hbl hbA h.2.2 (q_in (by decide +kernel)) dL_law_1180 ?_
      refine q_c 0 e1 ?_
      refine lv_aload_n hx hb dL_law_1181 rfl (lv_at hl 3 rfl) ?_
      refine lv_iload_n hx hb dL_law_1182 rfl (lv_at hl 0 rfl) ?_
      refine lv_iconst (v := 2) hx hb dL_law_1183 (by decide) ?_
      refine lv_iadd hx hb dL_law_1184 ?_
      refine q_c 2 (by decide +kernel) ?_
      refine va_sld X.1 X.2.1 hX hbl hbA h.2.2 (q_in (by decide +kernel)) dL_law_1185 ?_
      refine q_c 1 e2 ?_
      refine q_callVl (rest := []) (wr := [(y0, .inr (12, [.int 0, .ref (u_1.1 19), .ref (u_1.1 0), .ref (u_1.1 1), .ref (u_1.1 2), .int 0, .int 0, .int 0, .int 0, .int 0, .int 0, .int 0, .int 0, .int 0, .int (-1), .int 0, .ref (u_1.1 3), .ref (u_1.1 4), .ref (u_1.1 5), .ref (u_1.1 6), .ref (u_1.1 7), .int 0, .int 0, .ref (u_1.1 8), .ref (u_1.1 9), .ref (u_1.1 10), .int 0, .int 0, .ref (u_1.1 11), .ref (u_1.1 12), .ref (u_1.1 13), .ref (u_1.1 14), .ref (u_1.1 15), .int 0, .ref (u_1.1 16), .ref (u_1.1 17), .ref (u_1.1 18)])), ((u_1.1 8), .inl (cy 1, 1024, .inl (fun _ => 0))), ((u_1.1 19), .inl (cy 1, 3918, .inl (upd (fun _ => 0) (Int32.toNatClampNeg 1) 1)))]) X hK hA h (fun sz => kX11_chance_417 l D cy x0 (u_0.1 20) (u_0.1 21) (u_0.1 22) (u_0.1 31) (u_0.1 37) (u_0.1 0) (u_0.1 1) (u_0.1 39) (u_0.1 41) (u_0.1 43) (u_0.1 14) (u_0.1 15) (u_0.1 16) (u_0.1 17) (u_0.1 24) (u_0.1 29) (u_0.1 23) (u_0.1 32) (u_0.1 33) (u_0.1 34) (u_0.1 35) (u_0.1 36) (u_0.1 38)  sz) wm_5_102 wm_5_105 wm_1_1 hd_X11_chance wm_5_103 wm_5_104 (ci := 11) (q0 := 0) rfl rfl ⟨Nat.le_of_ble_eq_true rfl, Nat.le_of_ble_eq_true rfl⟩ hl.1 rfl (Nat.le_of_ble_eq_true rfl) dL_law_1186 ⟨Nat.le_of_ble_eq_true rfl, Nat.le_of_ble_eq_true rfl⟩ [0, 21, 22, 23, 32, 38] [78, 87, 98] rfl rfl (by decide) rfl rfl (fun r_10623 u_10623 Hp7 lc7 w_10623 hw7 => ?_)
      clear h
      obtain rfl : r_10623 = 1 := w_10623
      replace hw7 : qW D _ _ [(y0, .inr (12, [.int 0, .ref (u_1.1 19), .ref (u_1.1 0), .ref (u_1.1 1), .ref (u_1.1 2), .int 0, .int 0, .int 0, .int 0, .int 0, .int 0, .int 0, .int 0, .int 0, .int (-1), .int 0, .ref (u_1.1 3), .ref (u_1.1 4), .ref (u_1.1 5), .ref (u_1.1 6), .ref (u_1.1 7), .int 0, .int 0, .ref (u_1.1 8), .ref (u_1.1 9), .ref (u_1.1 10), .int 0, .int 0, .ref (u_1.1 11), .ref (u_1.1 12), .ref (u_1.1 13), .ref (u_1.1 14), .ref (u_1.1 15), .int 0, .ref (u_1.1 16), .ref (u_1.1 17), .ref (u_1.1 18)])), ((u_1.1 8), .inl (cy 1, 1024, .inl (fun _ => 0))), ((u_1.1 19), .inl (cy 1, 3918, .inl (upd (fun _ => 0) (Int32.toNatClampNeg 1) 1)))] _ _ := hw7
      refine lv_aload_n hx hb dL_law_1189 rfl (lv_at hl 1 rfl) ?_
      refine lv_aload_n hx hb dL_law_1190 rfl (lv_at hl 3 rfl) ?_
      refine lv_iload_n hx hb dL_law_1191 rfl (lv_at hl 0 rfl) ?_
      refine lv_iconst (v := 1) hx hb dL_law_1192 (by decide) ?_
      refine lv_iadd hx hb dL_law_1193 ?_
      refine q_c 1 (by decide +kernel) ?_
      refine va_sld X.1 X.2.1 hX hbl hbA hw7.2.2 (q_in (by decide +kernel)) dL_law_1194 ?_
      refine q_c 0 e1 ?_
      refine lv_aload_n hx hb dL_law_1195 rfl (lv_at hl 3 rfl) ?_
      refine lv_iload_n hx hb dL_law_1196 rfl (lv_at hl 0 rfl) ?_
      refine lv_iconst (v := 2) hx hb dL_law_1197 (by decide) ?_
      refine lv_iadd hx hb dL_law_1198 ?_
      refine q_c 2 (by decide +kernel) ?_
      refine va_sld X.1 X.2.1 hX hbl hbA hw7.2.2 (q_in (by decide +kernel)) dL_law_1199 ?_
      refine q_c 1 e2 ?_
      refine q_callVl (rest := [.long 1]) (wr := []) X hK hA hw7 (fun sz => kX12_chance_418 l D cy y0 (u_1.1 8) (u_1.1 19) (u_1.1 0) (u_1.1 1) (u_1.1 2) (u_1.1 3) (u_1.1 4) (u_1.1 5) (u_1.1 6) (u_1.1 7) (u_1.1 9) (u_1.1 10) (u_1.1 11) (u_1.1 12) (u_1.1 13) (u_1.1 14) (u_1.1 15) (u_1.1 16) (u_1.1 17) (u_1.1 18) (upd (fun _ => 0) (Int32.toNatClampNeg 1) 1) (q_un (by decide +kernel) rfl) (q_un (by decide +kernel) rfl) sz) wm_8_7 wm_8_10 wm_1_12 hd_X12_chance wm_8_8 wm_8_9 (ci := 12) (q0 := 0) rfl rfl ⟨Nat.le_of_ble_eq_true rfl, Nat.le_of_ble_eq_true rfl⟩ hl.1 rfl (Nat.le_of_ble_eq_true rfl) dL_law_1200 ⟨Nat.le_of_ble_eq_true rfl, Nat.le_of_ble_eq_true rfl⟩ [0, 1, 2] [] rfl rfl (by decide) rfl rfl (fun r_10635 u_10635 Hp8 lc8 w_10635 hw8 => ?_)
      clear Hp7 lc7 hw7
      obtain rfl : r_10635 = 1 := w_10635
      replace hw8 : qW D _ _ [] _ _ := hw8
      refine W.lcmp hx hb dL_law_1203 ?_
      refine q_c 0 (by decide +kernel) ?_
      refine lv_if_eq (tgt := 1461) hx hb dL_law_1204 (by decide) (fun _ => ?_) (fun c => absurd c (by decide +kernel))
      exact law_tail l X hr hlk hX hbl hw8.2.2 hl (Nat.le_of_ble_eq_true rfl) (Nat.le_of_ble_eq_true rfl)
    refine lv_aload_n hx hb dL_law_1175 rfl (lv_at hl 2 rfl) ?_
    refine lv_aload_n hx hb dL_law_1176 rfl (lv_at hl 3 rfl) ?_
    refine lv_iload_n hx hb dL_law_1177 rfl (lv_at hl 0 rfl) ?_
    refine lv_iconst (v := 1) hx hb dL_law_1178 (by decide) ?_
    refine lv_iadd hx hb dL_law_1179 ?_
    refine q_c 1 (by decide +kernel) ?_
    refine va_sld X.1 X.2.1 hX hbl hbA h.2.2 (q_in (by decide +kernel)) dL_law_1180 ?_
    refine q_c a1 e1 ?_
    refine lv_aload_n hx hb dL_law_1181 rfl (lv_at hl 3 rfl) ?_
    refine lv_iload_n hx hb dL_law_1182 rfl (lv_at hl 0 rfl) ?_
    refine lv_iconst (v := 2) hx hb dL_law_1183 (by decide) ?_
    refine lv_iadd hx hb dL_law_1184 ?_
    refine q_c 2 (by decide +kernel) ?_
    refine va_sld X.1 X.2.1 hX hbl hbA h.2.2 (q_in (by decide +kernel)) dL_law_1185 ?_
    refine q_c 1 e2 ?_
    have g_10668 : ¬ a1 = (0 : Int32) := by
      simp only [Int32.lt_iff_toInt_lt, Int32.le_iff_toInt_le, ← Int32.toInt_inj] at c_10553 ⊢
      have k_0 : (0 : Int32).toInt = 0 := by decide
      omega
    refine q_callVl (rest := []) (wr := [(y0, .inr (12, [.int 0, .ref (u_1.1 19), .ref (u_1.1 0), .ref (u_1.1 1), .ref (u_1.1 2), .int 0, .int 0, .int 0, .int 0, .int 0, .int 0, .int 0, .int 0, .int 0, .int (-1), .int 0, .ref (u_1.1 3), .ref (u_1.1 4), .ref (u_1.1 5), .ref (u_1.1 6), .ref (u_1.1 7), .int 0, .int 0, .ref (u_1.1 8), .ref (u_1.1 9), .ref (u_1.1 10), .int 0, .int 0, .ref (u_1.1 11), .ref (u_1.1 12), .ref (u_1.1 13), .ref (u_1.1 14), .ref (u_1.1 15), .int 0, .ref (u_1.1 16), .ref (u_1.1 17), .ref (u_1.1 18)])), ((u_1.1 19), .inl (cy 1, 3918, .inl (upd (fun _ => 0) (Int32.toNatClampNeg 1) 1)))]) X hK hA h (fun sz => kX11_chance_419 l D cy x0 (u_0.1 31) (u_0.1 37) a1 (u_0.1 0) (u_0.1 1) (u_0.1 39) (u_0.1 41) (u_0.1 43) (u_0.1 14) (u_0.1 15) (u_0.1 16) (u_0.1 17) (u_0.1 20) (u_0.1 24) (u_0.1 29) (u_0.1 32) (u_0.1 33) (u_0.1 34) (u_0.1 35) (u_0.1 36) (u_0.1 38) g_10668 sz) wm_5_102 wm_5_105 wm_1_1 hd_X11_chance wm_5_103 wm_5_104 (ci := 11) (q0 := 0) rfl rfl ⟨Nat.le_of_ble_eq_true rfl, Nat.le_of_ble_eq_true rfl⟩ hl.1 rfl (Nat.le_of_ble_eq_true rfl) dL_law_1186 ⟨Nat.le_of_ble_eq_true rfl, Nat.le_of_ble_eq_true rfl⟩ [0, 32, 38] [78, 98] rfl rfl (by decide) rfl rfl (fun r_10669 u_10669 Hp9 lc9 w_10669 hw9 => ?_)
    clear h
    obtain rfl : r_10669 = (-3) := w_10669
    replace hw9 : qW D _ _ [(y0, .inr (12, [.int 0, .ref (u_1.1 19), .ref (u_1.1 0), .ref (u_1.1 1), .ref (u_1.1 2), .int 0, .int 0, .int 0, .int 0, .int 0, .int 0, .int 0, .int 0, .int 0, .int (-1), .int 0, .ref (u_1.1 3), .ref (u_1.1 4), .ref (u_1.1 5), .ref (u_1.1 6), .ref (u_1.1 7), .int 0, .int 0, .ref (u_1.1 8), .ref (u_1.1 9), .ref (u_1.1 10), .int 0, .int 0, .ref (u_1.1 11), .ref (u_1.1 12), .ref (u_1.1 13), .ref (u_1.1 14), .ref (u_1.1 15), .int 0, .ref (u_1.1 16), .ref (u_1.1 17), .ref (u_1.1 18)])), ((u_1.1 19), .inl (cy 1, 3918, .inl (upd (fun _ => 0) (Int32.toNatClampNeg 1) 1)))] _ _ := hw9
    refine lv_aload_n hx hb dL_law_1189 rfl (lv_at hl 1 rfl) ?_
    refine lv_aload_n hx hb dL_law_1190 rfl (lv_at hl 3 rfl) ?_
    refine lv_iload_n hx hb dL_law_1191 rfl (lv_at hl 0 rfl) ?_
    refine lv_iconst (v := 1) hx hb dL_law_1192 (by decide) ?_
    refine lv_iadd hx hb dL_law_1193 ?_
    refine q_c 1 (by decide +kernel) ?_
    refine va_sld X.1 X.2.1 hX hbl hbA hw9.2.2 (q_in (by decide +kernel)) dL_law_1194 ?_
    refine q_c a1 e1 ?_
    refine lv_aload_n hx hb dL_law_1195 rfl (lv_at hl 3 rfl) ?_
    refine lv_iload_n hx hb dL_law_1196 rfl (lv_at hl 0 rfl) ?_
    refine lv_iconst (v := 2) hx hb dL_law_1197 (by decide) ?_
    refine lv_iadd hx hb dL_law_1198 ?_
    refine q_c 2 (by decide +kernel) ?_
    refine va_sld X.1 X.2.1 hX hbl hbA hw9.2.2 (q_in (by decide +kernel)) dL_law_1199 ?_
    refine q_c 1 e2 ?_
    have g_10675 : ¬ a1 = (0 : Int32) := by
      simp only [Int32.lt_iff_toInt_lt, Int32.le_iff_toInt_le, ← Int32.toInt_inj] at c_10553 ⊢
      have k_0 : (0 : Int32).toInt = 0 := by decide
      omega
    refine q_callVl (rest := [.long (-3)]) (wr := []) X hK hA hw9 (fun sz => kX12_chance_420 l D cy y0 (u_1.1 19) a1 (u_1.1 0) (u_1.1 1) (u_1.1 2) (u_1.1 3) (u_1.1 4) (u_1.1 5) (u_1.1 6) (u_1.1 7) (u_1.1 8) (u_1.1 9) (u_1.1 10) (u_1.1 11) (u_1.1 12) (u_1.1 13) (u_1.1 14) (u_1.1 15) (u_1.1 16) (u_1.1 17) (u_1.1 18) (upd (fun _ => 0) (Int32.toNatClampNeg 1) 1) g_10675 (q_un (by decide +kernel) rfl) sz) wm_8_7 wm_8_10 wm_1_12 hd_X12_chance wm_8_8 wm_8_9 (ci := 12) (q0 := 0) rfl rfl ⟨Nat.le_of_ble_eq_true rfl, Nat.le_of_ble_eq_true rfl⟩ hl.1 rfl (Nat.le_of_ble_eq_true rfl) dL_law_1200 ⟨Nat.le_of_ble_eq_true rfl, Nat.le_of_ble_eq_true rfl⟩ [0, 1] [] rfl rfl (by decide) rfl rfl (fun r_10676 u_10676 Hp10 lc10 w_10676 hw10 => ?_)
    clear Hp9 lc9 hw9
    obtain rfl : r_10676 = (-3) := w_10676
    replace hw10 : qW D _ _ [] _ _ := hw10
    refine W.lcmp hx hb dL_law_1203 ?_
    refine q_c 0 (by decide +kernel) ?_
    refine lv_if_eq (tgt := 1461) hx hb dL_law_1204 (by decide) (fun _ => ?_) (fun c => absurd c (by decide +kernel))
    exact law_tail l X hr hlk hX hbl hw10.2.2 hl (Nat.le_of_ble_eq_true rfl) (Nat.le_of_ble_eq_true rfl)
  refine lv_aload_n hx hb dL_law_1175 rfl (lv_at hl 2 rfl) ?_
  refine lv_aload_n hx hb dL_law_1176 rfl (lv_at hl 3 rfl) ?_
  refine lv_iload_n hx hb dL_law_1177 rfl (lv_at hl 0 rfl) ?_
  refine lv_iconst (v := 1) hx hb dL_law_1178 (by decide) ?_
  refine lv_iadd hx hb dL_law_1179 ?_
  refine q_c 1 (by decide +kernel) ?_
  refine va_sld X.1 X.2.1 hX hbl hbA h.2.2 (q_in (by decide +kernel)) dL_law_1180 ?_
  refine q_c a1 e1 ?_
  refine lv_aload_n hx hb dL_law_1181 rfl (lv_at hl 3 rfl) ?_
  refine lv_iload_n hx hb dL_law_1182 rfl (lv_at hl 0 rfl) ?_
  refine lv_iconst (v := 2) hx hb dL_law_1183 (by decide) ?_
  refine lv_iadd hx hb dL_law_1184 ?_
  refine q_c 2 (by decide +kernel) ?_
  refine va_sld X.1 X.2.1 hX hbl hbA h.2.2 (q_in (by decide +kernel)) dL_law_1185 ?_
  refine q_c a2 e2 ?_
  have g_10698 : (2 : Int32) ≤ a2 := by
    simp only [Int32.lt_iff_toInt_lt, Int32.le_iff_toInt_le, ← Int32.toInt_inj] at c_10392 c_10417 c_10548 ⊢
    have k_0 : ((-1) : Int32).toInt = -1 := by decide
    have k_1 : (0 : Int32).toInt = 0 := by decide
    have k_2 : (1 : Int32).toInt = 1 := by decide
    have k_g : (2 : Int32).toInt = 2 := by decide
    omega
  refine q_callVl (rest := []) (wr := [(y0, .inr (12, [.int 0, .ref (u_1.1 19), .ref (u_1.1 0), .ref (u_1.1 1), .ref (u_1.1 2), .int 0, .int 0, .int 0, .int 0, .int 0, .int 0, .int 0, .int 0, .int 0, .int (-1), .int 0, .ref (u_1.1 3), .ref (u_1.1 4), .ref (u_1.1 5), .ref (u_1.1 6), .ref (u_1.1 7), .int 0, .int 0, .ref (u_1.1 8), .ref (u_1.1 9), .ref (u_1.1 10), .int 0, .int 0, .ref (u_1.1 11), .ref (u_1.1 12), .ref (u_1.1 13), .ref (u_1.1 14), .ref (u_1.1 15), .int 0, .ref (u_1.1 16), .ref (u_1.1 17), .ref (u_1.1 18)]))]) X hK hA h (fun sz => kX11_chance_421 l D cy x0 a1 a2 (u_0.1 0) (u_0.1 1) (u_0.1 37) (u_0.1 39) (u_0.1 41) (u_0.1 43) (u_0.1 14) (u_0.1 15) (u_0.1 16) (u_0.1 17) (u_0.1 20) (u_0.1 24) (u_0.1 29) g_10698 sz) wm_5_102 wm_5_105 wm_1_1 hd_X11_chance wm_5_103 wm_5_104 (ci := 11) (q0 := 0) rfl rfl ⟨Nat.le_of_ble_eq_true rfl, Nat.le_of_ble_eq_true rfl⟩ hl.1 rfl (Nat.le_of_ble_eq_true rfl) dL_law_1186 ⟨Nat.le_of_ble_eq_true rfl, Nat.le_of_ble_eq_true rfl⟩ [0] [78] rfl rfl (by decide) rfl rfl (fun r_10699 u_10699 Hp11 lc11 w_10699 hw11 => ?_)
  clear h
  obtain rfl : r_10699 = (-2) := w_10699
  replace hw11 : qW D _ _ [(y0, .inr (12, [.int 0, .ref (u_1.1 19), .ref (u_1.1 0), .ref (u_1.1 1), .ref (u_1.1 2), .int 0, .int 0, .int 0, .int 0, .int 0, .int 0, .int 0, .int 0, .int 0, .int (-1), .int 0, .ref (u_1.1 3), .ref (u_1.1 4), .ref (u_1.1 5), .ref (u_1.1 6), .ref (u_1.1 7), .int 0, .int 0, .ref (u_1.1 8), .ref (u_1.1 9), .ref (u_1.1 10), .int 0, .int 0, .ref (u_1.1 11), .ref (u_1.1 12), .ref (u_1.1 13), .ref (u_1.1 14), .ref (u_1.1 15), .int 0, .ref (u_1.1 16), .ref (u_1.1 17), .ref (u_1.1 18)]))] _ _ := hw11
  refine lv_aload_n hx hb dL_law_1189 rfl (lv_at hl 1 rfl) ?_
  refine lv_aload_n hx hb dL_law_1190 rfl (lv_at hl 3 rfl) ?_
  refine lv_iload_n hx hb dL_law_1191 rfl (lv_at hl 0 rfl) ?_
  refine lv_iconst (v := 1) hx hb dL_law_1192 (by decide) ?_
  refine lv_iadd hx hb dL_law_1193 ?_
  refine q_c 1 (by decide +kernel) ?_
  refine va_sld X.1 X.2.1 hX hbl hbA hw11.2.2 (q_in (by decide +kernel)) dL_law_1194 ?_
  refine q_c a1 e1 ?_
  refine lv_aload_n hx hb dL_law_1195 rfl (lv_at hl 3 rfl) ?_
  refine lv_iload_n hx hb dL_law_1196 rfl (lv_at hl 0 rfl) ?_
  refine lv_iconst (v := 2) hx hb dL_law_1197 (by decide) ?_
  refine lv_iadd hx hb dL_law_1198 ?_
  refine q_c 2 (by decide +kernel) ?_
  refine va_sld X.1 X.2.1 hX hbl hbA hw11.2.2 (q_in (by decide +kernel)) dL_law_1199 ?_
  refine q_c a2 e2 ?_
  have g_10704 : (2 : Int32) ≤ a2 := by
    simp only [Int32.lt_iff_toInt_lt, Int32.le_iff_toInt_le, ← Int32.toInt_inj] at c_10392 c_10417 c_10548 ⊢
    have k_0 : ((-1) : Int32).toInt = -1 := by decide
    have k_1 : (0 : Int32).toInt = 0 := by decide
    have k_2 : (1 : Int32).toInt = 1 := by decide
    have k_g : (2 : Int32).toInt = 2 := by decide
    omega
  refine q_callVl (rest := [.long (-2)]) (wr := []) X hK hA hw11 (fun sz => kX12_chance_422 l D cy y0 a1 a2 (u_1.1 19) (u_1.1 0) (u_1.1 1) (u_1.1 2) (u_1.1 3) (u_1.1 4) (u_1.1 5) (u_1.1 6) (u_1.1 7) (u_1.1 8) (u_1.1 9) (u_1.1 10) (u_1.1 11) (u_1.1 12) (u_1.1 13) (u_1.1 14) (u_1.1 15) (u_1.1 16) (u_1.1 17) (u_1.1 18) g_10704 sz) wm_8_7 wm_8_10 wm_1_12 hd_X12_chance wm_8_8 wm_8_9 (ci := 12) (q0 := 0) rfl rfl ⟨Nat.le_of_ble_eq_true rfl, Nat.le_of_ble_eq_true rfl⟩ hl.1 rfl (Nat.le_of_ble_eq_true rfl) dL_law_1200 ⟨Nat.le_of_ble_eq_true rfl, Nat.le_of_ble_eq_true rfl⟩ [0] [] rfl rfl (by decide) rfl rfl (fun r_10705 u_10705 Hp12 lc12 w_10705 hw12 => ?_)
  clear Hp11 lc11 hw11
  obtain rfl : r_10705 = (-2) := w_10705
  replace hw12 : qW D _ _ [] _ _ := hw12
  refine W.lcmp hx hb dL_law_1203 ?_
  refine q_c 0 (by decide +kernel) ?_
  refine lv_if_eq (tgt := 1461) hx hb dL_law_1204 (by decide) (fun _ => ?_) (fun c => absurd c (by decide +kernel))
  exact law_tail l X hr hlk hX hbl hw12.2.2 hl (Nat.le_of_ble_eq_true rfl) (Nat.le_of_ble_eq_true rfl)
set_option maxHeartbeats 4000000 in
set_option maxRecDepth 100000 in
theorem lc_reserve (l : Launch) {p : Program} {e : Env} {s : State} {m : MethodId} {below : List Frame} {meth : Method} {c : Code} {b : Nat} {xs : Nat → Int32} {D : va_G} {cy : Nat → ClassId} {H : Heap} {locs : List Loc} {ls : Array Slot} {x0 y0 : Nat} {u_0 u_1 : SS} (X : qX p s m #[Value.ref b] c cL_law 4 RL) (hr : meth.sig.returnType = ret) (hlk : meth.locks = false) (hX : va_X b 6 xs s s.heap) (hbl : b < s.heap.size) (hK : qK D cy s) (a1 a2 a3 a4 a5 : Int32) (e1 : xs (Int32.toNatClampNeg 1) = a1) (e2 : xs (Int32.toNatClampNeg 2) = a2) (e3 : xs (Int32.toNatClampNeg 3) = a3) (e4 : xs (Int32.toNatClampNeg 4) = a4) (e5 : xs (Int32.toNatClampNeg 5) = a5) (h : qW D (fun q => s.heap.size ≤ q) s.heap (wLaw cy x0 y0 u_0 u_1) H locs) (hl : lv_has ls 4 [(3, .int 0), (2, .ref y0), (1, .ref x0), (0, .ref b)]) : W p l e room_1 s m #[Value.ref b] below meth c H locs 99 25544 (lw_Z below #[Value.ref b] s) (F0 m 1209 ls []) := by
  obtain ⟨hx, hb, hml, hown, ht⟩ := id X
  have hA : ∀ q : Nat, s.heap.size ≤ q → (fun q : Nat => s.heap.size ≤ q) q := fun _ h => h
  have hbA : ¬ (fun q : Nat => s.heap.size ≤ q) b := Nat.not_le.mpr hbl
  by_cases c_10710 : a1 = 0
  · subst c_10710
    refine lv_aload_n hx hb dL_law_1209 rfl (lv_at hl 2 rfl) ?_
    refine lv_aload_n hx hb dL_law_1210 rfl (lv_at hl 3 rfl) ?_
    refine lv_iload_n hx hb dL_law_1211 rfl (lv_at hl 0 rfl) ?_
    refine lv_iconst (v := 1) hx hb dL_law_1212 (by decide) ?_
    refine lv_iadd hx hb dL_law_1213 ?_
    refine q_c 1 (by decide +kernel) ?_
    refine va_sld X.1 X.2.1 hX hbl hbA h.2.2 (q_in (by decide +kernel)) dL_law_1214 ?_
    refine q_c 0 e1 ?_
    refine q_callVi (rest := []) (wr := [(y0, .inr (12, [.int 0, .ref (u_1.1 19), .ref (u_1.1 0), .ref (u_1.1 1), .ref (u_1.1 2), .int 0, .int 0, .int 0, .int 0, .int 0, .int 0, .int 0, .int 0, .int 0, .int (-1), .int 0, .ref (u_1.1 3), .ref (u_1.1 4), .ref (u_1.1 5), .ref (u_1.1 6), .ref (u_1.1 7), .int 0, .int 0, .ref (u_1.1 8), .ref (u_1.1 9), .ref (u_1.1 10), .int 0, .int 0, .ref (u_1.1 11), .ref (u_1.1 12), .ref (u_1.1 13), .ref (u_1.1 14), .ref (u_1.1 15), .int 0, .ref (u_1.1 16), .ref (u_1.1 17), .ref (u_1.1 18)])), ((u_1.1 8), .inl (cy 1, 1024, .inl (fun _ => 0))), ((u_1.1 19), .inl (cy 1, 3918, .inl (upd (fun _ => 0) (Int32.toNatClampNeg 1) 1)))]) X hK hA h (fun sz => kX11_reserve_423 l D cy x0 (u_0.1 20) (u_0.1 21) (u_0.1 22) (u_0.1 31) (u_0.1 37) (u_0.1 0) (u_0.1 1) (u_0.1 39) (u_0.1 41) (u_0.1 43) (u_0.1 14) (u_0.1 15) (u_0.1 16) (u_0.1 17) (u_0.1 24) (u_0.1 29) (u_0.1 23) (u_0.1 32) (u_0.1 33) (u_0.1 34) (u_0.1 35) (u_0.1 36) (u_0.1 38)  sz) wm_5_116 wm_5_119 wm_1_1 hd_X11_reserve wm_5_117 wm_5_118 (ci := 11) (q0 := 0) rfl rfl ⟨Nat.le_of_ble_eq_true rfl, Nat.le_of_ble_eq_true rfl⟩ hl.1 rfl (Nat.le_of_ble_eq_true rfl) dL_law_1215 ⟨Nat.le_of_ble_eq_true rfl, Nat.le_of_ble_eq_true rfl⟩ [0, 21, 22, 23, 32, 38] [78, 87, 98] rfl rfl (by decide) rfl rfl (fun r_10771 u_10771 Hp1 lc1 w_10771 hw1 => ?_)
    clear h
    obtain rfl : r_10771 = (-1) := w_10771
    replace hw1 : qW D _ _ [(y0, .inr (12, [.int 0, .ref (u_1.1 19), .ref (u_1.1 0), .ref (u_1.1 1), .ref (u_1.1 2), .int 0, .int 0, .int 0, .int 0, .int 0, .int 0, .int 0, .int 0, .int 0, .int (-1), .int 0, .ref (u_1.1 3), .ref (u_1.1 4), .ref (u_1.1 5), .ref (u_1.1 6), .ref (u_1.1 7), .int 0, .int 0, .ref (u_1.1 8), .ref (u_1.1 9), .ref (u_1.1 10), .int 0, .int 0, .ref (u_1.1 11), .ref (u_1.1 12), .ref (u_1.1 13), .ref (u_1.1 14), .ref (u_1.1 15), .int 0, .ref (u_1.1 16), .ref (u_1.1 17), .ref (u_1.1 18)])), ((u_1.1 8), .inl (cy 1, 1024, .inl (fun _ => 0))), ((u_1.1 19), .inl (cy 1, 3918, .inl (upd (fun _ => 0) (Int32.toNatClampNeg 1) 1)))] _ _ := hw1
    refine lv_aload_n hx hb dL_law_1218 rfl (lv_at hl 1 rfl) ?_
    refine lv_aload_n hx hb dL_law_1219 rfl (lv_at hl 3 rfl) ?_
    refine lv_iload_n hx hb dL_law_1220 rfl (lv_at hl 0 rfl) ?_
    refine lv_iconst (v := 1) hx hb dL_law_1221 (by decide) ?_
    refine lv_iadd hx hb dL_law_1222 ?_
    refine q_c 1 (by decide +kernel) ?_
    refine va_sld X.1 X.2.1 hX hbl hbA hw1.2.2 (q_in (by decide +kernel)) dL_law_1223 ?_
    refine q_c 0 e1 ?_
    refine q_callVi (rest := [.int (-1)]) (wr := []) X hK hA hw1 (fun sz => kX12_reserve_424 l D cy y0 (u_1.1 8) (u_1.1 19) (u_1.1 0) (u_1.1 1) (u_1.1 2) (u_1.1 3) (u_1.1 4) (u_1.1 5) (u_1.1 6) (u_1.1 7) (u_1.1 9) (u_1.1 10) (u_1.1 11) (u_1.1 12) (u_1.1 13) (u_1.1 14) (u_1.1 15) (u_1.1 16) (u_1.1 17) (u_1.1 18) (upd (fun _ => 0) (Int32.toNatClampNeg 1) 1) (q_un (by decide +kernel) rfl) (q_un (by decide +kernel) rfl) (q_un (by decide +kernel) rfl) sz) wm_8_23 wm_8_26 wm_1_12 hd_X12_reserve wm_8_24 wm_8_25 (ci := 12) (q0 := 0) rfl rfl ⟨Nat.le_of_ble_eq_true rfl, Nat.le_of_ble_eq_true rfl⟩ hl.1 rfl (Nat.le_of_ble_eq_true rfl) dL_law_1224 ⟨Nat.le_of_ble_eq_true rfl, Nat.le_of_ble_eq_true rfl⟩ [0, 1, 2] [] rfl rfl (by decide) rfl rfl (fun r_10780 u_10780 Hp2 lc2 w_10780 hw2 => ?_)
    clear Hp1 lc1 hw1
    obtain rfl : r_10780 = (-1) := w_10780
    replace hw2 : qW D _ _ [] _ _ := hw2
    refine lv_icmp_eq (tgt := 1461) hx hb dL_law_1227 (by decide) (fun _ => ?_) (fun c => absurd c (by decide +kernel))
    exact law_tail l X hr hlk hX hbl hw2.2.2 hl (Nat.le_of_ble_eq_true rfl) (Nat.le_of_ble_eq_true rfl)
  refine lv_aload_n hx hb dL_law_1209 rfl (lv_at hl 2 rfl) ?_
  refine lv_aload_n hx hb dL_law_1210 rfl (lv_at hl 3 rfl) ?_
  refine lv_iload_n hx hb dL_law_1211 rfl (lv_at hl 0 rfl) ?_
  refine lv_iconst (v := 1) hx hb dL_law_1212 (by decide) ?_
  refine lv_iadd hx hb dL_law_1213 ?_
  refine q_c 1 (by decide +kernel) ?_
  refine va_sld X.1 X.2.1 hX hbl hbA h.2.2 (q_in (by decide +kernel)) dL_law_1214 ?_
  refine q_c a1 e1 ?_
  have g_10810 : ¬ a1 = (0 : Int32) := by
    simp only [Int32.lt_iff_toInt_lt, Int32.le_iff_toInt_le, ← Int32.toInt_inj] at c_10710 ⊢
    have k_0 : (0 : Int32).toInt = 0 := by decide
    omega
  refine q_callVi (rest := []) (wr := [(y0, .inr (12, [.int 0, .ref (u_1.1 19), .ref (u_1.1 0), .ref (u_1.1 1), .ref (u_1.1 2), .int 0, .int 0, .int 0, .int 0, .int 0, .int 0, .int 0, .int 0, .int 0, .int (-1), .int 0, .ref (u_1.1 3), .ref (u_1.1 4), .ref (u_1.1 5), .ref (u_1.1 6), .ref (u_1.1 7), .int 0, .int 0, .ref (u_1.1 8), .ref (u_1.1 9), .ref (u_1.1 10), .int 0, .int 0, .ref (u_1.1 11), .ref (u_1.1 12), .ref (u_1.1 13), .ref (u_1.1 14), .ref (u_1.1 15), .int 0, .ref (u_1.1 16), .ref (u_1.1 17), .ref (u_1.1 18)])), ((u_1.1 19), .inl (cy 1, 3918, .inl (upd (fun _ => 0) (Int32.toNatClampNeg 1) 1)))]) X hK hA h (fun sz => kX11_reserve_425 l D cy x0 (u_0.1 31) (u_0.1 37) a1 (u_0.1 0) (u_0.1 1) (u_0.1 39) (u_0.1 41) (u_0.1 43) (u_0.1 14) (u_0.1 15) (u_0.1 16) (u_0.1 17) (u_0.1 20) (u_0.1 24) (u_0.1 29) (u_0.1 32) (u_0.1 33) (u_0.1 34) (u_0.1 35) (u_0.1 36) (u_0.1 38) g_10810 sz) wm_5_116 wm_5_119 wm_1_1 hd_X11_reserve wm_5_117 wm_5_118 (ci := 11) (q0 := 0) rfl rfl ⟨Nat.le_of_ble_eq_true rfl, Nat.le_of_ble_eq_true rfl⟩ hl.1 rfl (Nat.le_of_ble_eq_true rfl) dL_law_1215 ⟨Nat.le_of_ble_eq_true rfl, Nat.le_of_ble_eq_true rfl⟩ [0, 32, 38] [78, 98] rfl rfl (by decide) rfl rfl (fun r_10811 u_10811 Hp3 lc3 w_10811 hw3 => ?_)
  clear h
  obtain rfl : r_10811 = (-3) := w_10811
  replace hw3 : qW D _ _ [(y0, .inr (12, [.int 0, .ref (u_1.1 19), .ref (u_1.1 0), .ref (u_1.1 1), .ref (u_1.1 2), .int 0, .int 0, .int 0, .int 0, .int 0, .int 0, .int 0, .int 0, .int 0, .int (-1), .int 0, .ref (u_1.1 3), .ref (u_1.1 4), .ref (u_1.1 5), .ref (u_1.1 6), .ref (u_1.1 7), .int 0, .int 0, .ref (u_1.1 8), .ref (u_1.1 9), .ref (u_1.1 10), .int 0, .int 0, .ref (u_1.1 11), .ref (u_1.1 12), .ref (u_1.1 13), .ref (u_1.1 14), .ref (u_1.1 15), .int 0, .ref (u_1.1 16), .ref (u_1.1 17), .ref (u_1.1 18)])), ((u_1.1 19), .inl (cy 1, 3918, .inl (upd (fun _ => 0) (Int32.toNatClampNeg 1) 1)))] _ _ := hw3
  refine lv_aload_n hx hb dL_law_1218 rfl (lv_at hl 1 rfl) ?_
  refine lv_aload_n hx hb dL_law_1219 rfl (lv_at hl 3 rfl) ?_
  refine lv_iload_n hx hb dL_law_1220 rfl (lv_at hl 0 rfl) ?_
  refine lv_iconst (v := 1) hx hb dL_law_1221 (by decide) ?_
  refine lv_iadd hx hb dL_law_1222 ?_
  refine q_c 1 (by decide +kernel) ?_
  refine va_sld X.1 X.2.1 hX hbl hbA hw3.2.2 (q_in (by decide +kernel)) dL_law_1223 ?_
  refine q_c a1 e1 ?_
  have g_10816 : ¬ a1 = (0 : Int32) := by
    simp only [Int32.lt_iff_toInt_lt, Int32.le_iff_toInt_le, ← Int32.toInt_inj] at c_10710 ⊢
    have k_0 : (0 : Int32).toInt = 0 := by decide
    omega
  refine q_callVi (rest := [.int (-3)]) (wr := []) X hK hA hw3 (fun sz => kX12_reserve_426 l D cy y0 (u_1.1 19) a1 (u_1.1 0) (u_1.1 1) (u_1.1 2) (u_1.1 3) (u_1.1 4) (u_1.1 5) (u_1.1 6) (u_1.1 7) (u_1.1 8) (u_1.1 9) (u_1.1 10) (u_1.1 11) (u_1.1 12) (u_1.1 13) (u_1.1 14) (u_1.1 15) (u_1.1 16) (u_1.1 17) (u_1.1 18) (upd (fun _ => 0) (Int32.toNatClampNeg 1) 1) g_10816 (q_un (by decide +kernel) rfl) sz) wm_8_23 wm_8_26 wm_1_12 hd_X12_reserve wm_8_24 wm_8_25 (ci := 12) (q0 := 0) rfl rfl ⟨Nat.le_of_ble_eq_true rfl, Nat.le_of_ble_eq_true rfl⟩ hl.1 rfl (Nat.le_of_ble_eq_true rfl) dL_law_1224 ⟨Nat.le_of_ble_eq_true rfl, Nat.le_of_ble_eq_true rfl⟩ [0, 1] [] rfl rfl (by decide) rfl rfl (fun r_10817 u_10817 Hp4 lc4 w_10817 hw4 => ?_)
  clear Hp3 lc3 hw3
  obtain rfl : r_10817 = (-3) := w_10817
  replace hw4 : qW D _ _ [] _ _ := hw4
  refine lv_icmp_eq (tgt := 1461) hx hb dL_law_1227 (by decide) (fun _ => ?_) (fun c => absurd c (by decide +kernel))
  exact law_tail l X hr hlk hX hbl hw4.2.2 hl (Nat.le_of_ble_eq_true rfl) (Nat.le_of_ble_eq_true rfl)
