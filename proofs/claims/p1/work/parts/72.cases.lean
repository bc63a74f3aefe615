set_option maxHeartbeats 4000000 in
set_option maxRecDepth 100000 in
theorem lc_bar (l : Launch) {p : Program} {e : Env} {s : State} {m : MethodId} {below : List Frame} {meth : Method} {c : Code} {b : Nat} {xs : Nat → Int32} {D : va_G} {cy : Nat → ClassId} {H : Heap} {locs : List Loc} {ls : Array Slot} {x0 y0 : Nat} {u_0 u_1 : SS} (X : qX p s m #[Value.ref b] c cL_law 4 RL) (hr : meth.sig.returnType = ret) (hlk : meth.locks = false) (hX : va_X b 6 xs s s.heap) (hbl : b < s.heap.size) (hK : qK D cy s) (a1 a2 a3 a4 a5 : Int32) (e1 : xs (Int32.toNatClampNeg 1) = a1) (e2 : xs (Int32.toNatClampNeg 2) = a2) (e3 : xs (Int32.toNatClampNeg 3) = a3) (e4 : xs (Int32.toNatClampNeg 4) = a4) (e5 : xs (Int32.toNatClampNeg 5) = a5) (h : qW D (fun q => s.heap.size ≤ q) s.heap (wLaw cy x0 y0 u_0 u_1) H locs) (hl : lv_has ls 4 [(3, .int 0), (2, .ref y0), (1, .ref x0), (0, .ref b)]) : W p l e room_1 s m #[Value.ref b] below meth c H locs 99 25544 (lw_Z below #[Value.ref b] s) (F0 m 734 ls []) := by
  obtain ⟨hx, hb, hml, hown, ht⟩ := id X
  have hA : ∀ q : Nat, s.heap.size ≤ q → (fun q : Nat => s.heap.size ≤ q) q := fun _ h => h
  have hbA : ¬ (fun q : Nat => s.heap.size ≤ q) b := Nat.not_le.mpr hbl
  by_cases c_4892 : a2 ≤ (-1)
  · skip
    refine lv_aload_n hx hb dL_law_734 rfl (lv_at hl 2 rfl) ?_
    refine lv_aload_n hx hb dL_law_735 rfl (lv_at hl 3 rfl) ?_
    refine lv_iload_n hx hb dL_law_736 rfl (lv_at hl 0 rfl) ?_
    refine lv_iconst (v := 1) hx hb dL_law_737 (by decide) ?_
    refine lv_iadd hx hb dL_law_738 ?_
    refine q_c 1 (by decide +kernel) ?_
    refine va_sld X.1 X.2.1 hX hbl hbA h.2.2 (q_in (by decide +kernel)) dL_law_739 ?_
    refine q_c a1 e1 ?_
    refine lv_aload_n hx hb dL_law_740 rfl (lv_at hl 3 rfl) ?_
    refine lv_iload_n hx hb dL_law_741 rfl (lv_at hl 0 rfl) ?_
    refine lv_iconst (v := 2) hx hb dL_law_742 (by decide) ?_
    refine lv_iadd hx hb dL_law_743 ?_
    refine q_c 2 (by decide +kernel) ?_
    refine va_sld X.1 X.2.1 hX hbl hbA h.2.2 (q_in (by decide +kernel)) dL_law_744 ?_
    refine q_c a2 e2 ?_
    have g_4910 : a2 ≤ ((-1) : Int32) := by
      simp only [Int32.lt_iff_toInt_lt, Int32.le_iff_toInt_le, ← Int32.toInt_inj] at c_4892 ⊢
      have k_0 : ((-1) : Int32).toInt = -1 := by decide
      omega
    refine q_callVi (rest := []) (wr := [(y0, .inr (12, [.int 0, .ref (u_1.1 19), .ref (u_1.1 0), .ref (u_1.1 1), .ref (u_1.1 2), .int 0, .int 0, .int 0, .int 0, .int 0, .int 0, .int 0, .int 0, .int 0, .int (-1), .int 0, .ref (u_1.1 3), .ref (u_1.1 4), .ref (u_1.1 5), .ref (u_1.1 6), .ref (u_1.1 7), .int 0, .int 0, .ref (u_1.1 8), .ref (u_1.1 9), .ref (u_1.1 10), .int 0, .int 0, .ref (u_1.1 11), .ref (u_1.1 12), .ref (u_1.1 13), .ref (u_1.1 14), .ref (u_1.1 15), .int 0, .ref (u_1.1 16), .ref (u_1.1 17), .ref (u_1.1 18)]))]) X hK hA h (fun sz => kX11_bar_352 l D cy x0 a1 a2 (u_0.1 0) (u_0.1 1) (u_0.1 37) (u_0.1 39) (u_0.1 41) (u_0.1 43) (u_0.1 14) (u_0.1 15) (u_0.1 16) (u_0.1 17) (u_0.1 20) (u_0.1 24) (u_0.1 29) g_4910 sz) wm_4_186 wm_4_189 wm_1_1 hd_X11_bar wm_4_187 wm_4_188 (ci := 11) (q0 := 0) rfl rfl ⟨Nat.le_of_ble_eq_true rfl, Nat.le_of_ble_eq_true rfl⟩ hl.1 rfl (Nat.le_of_ble_eq_true rfl) dL_law_745 ⟨Nat.le_of_ble_eq_true rfl, Nat.le_of_ble_eq_true rfl⟩ [0] [78] rfl rfl (by decide) rfl rfl (fun r_4911 u_4911 Hp1 lc1 w_4911 hw1 => ?_)
    clear h
    obtain rfl : r_4911 = (-2) := w_4911
    clear w_4911
    replace hw1 : qW D _ _ [(y0, .inr (12, [.int 0, .ref (u_1.1 19), .ref (u_1.1 0), .ref (u_1.1 1), .ref (u_1.1 2), .int 0, .int 0, .int 0, .int 0, .int 0, .int 0, .int 0, .int 0, .int 0, .int (-1), .int 0, .ref (u_1.1 3), .ref (u_1.1 4), .ref (u_1.1 5), .ref (u_1.1 6), .ref (u_1.1 7), .int 0, .int 0, .ref (u_1.1 8), .ref (u_1.1 9), .ref (u_1.1 10), .int 0, .int 0, .ref (u_1.1 11), .ref (u_1.1 12), .ref (u_1.1 13), .ref (u_1.1 14), .ref (u_1.1 15), .int 0, .ref (u_1.1 16), .ref (u_1.1 17), .ref (u_1.1 18)]))] _ _ := hw1
    refine lv_aload_n hx hb dL_law_748 rfl (lv_at hl 1 rfl) ?_
    refine lv_aload_n hx hb dL_law_749 rfl (lv_at hl 3 rfl) ?_
    refine lv_iload_n hx hb dL_law_750 rfl (lv_at hl 0 rfl) ?_
    refine lv_iconst (v := 1) hx hb dL_law_751 (by decide) ?_
    refine lv_iadd hx hb dL_law_752 ?_
    refine q_c 1 (by decide +kernel) ?_
    refine va_sld X.1 X.2.1 hX hbl hbA hw1.2.2 (q_in (by decide +kernel)) dL_law_753 ?_
    refine q_c a1 e1 ?_
    refine lv_aload_n hx hb dL_law_754 rfl (lv_at hl 3 rfl) ?_
    refine lv_iload_n hx hb dL_law_755 rfl (lv_at hl 0 rfl) ?_
    refine lv_iconst (v := 2) hx hb dL_law_756 (by decide) ?_
    refine lv_iadd hx hb dL_law_757 ?_
    refine q_c 2 (by decide +kernel) ?_
    refine va_sld X.1 X.2.1 hX hbl hbA hw1.2.2 (q_in (by decide +kernel)) dL_law_758 ?_
    refine q_c a2 e2 ?_
    have g_4915 : a2 ≤ ((-1) : Int32) := by
      simp only [Int32.lt_iff_toInt_lt, Int32.le_iff_toInt_le, ← Int32.toInt_inj] at c_4892 ⊢
      have k_0 : ((-1) : Int32).toInt = -1 := by decide
      omega
    refine q_callVi (rest := [.int (-2)]) (wr := []) X hK hA hw1 (fun sz => kX12_bar_353 l D cy y0 a1 a2 (u_1.1 19) (u_1.1 0) (u_1.1 1) (u_1.1 2) (u_1.1 3) (u_1.1 4) (u_1.1 5) (u_1.1 6) (u_1.1 7) (u_1.1 8) (u_1.1 9) (u_1.1 10) (u_1.1 11) (u_1.1 12) (u_1.1 13) (u_1.1 14) (u_1.1 15) (u_1.1 16) (u_1.1 17) (u_1.1 18) g_4915 sz) wm_7_120 wm_7_123 wm_1_12 hd_X12_bar wm_7_121 wm_7_122 (ci := 12) (q0 := 0) rfl rfl ⟨Nat.le_of_ble_eq_true rfl, Nat.le_of_ble_eq_true rfl⟩ hl.1 rfl (Nat.le_of_ble_eq_true rfl) dL_law_759 ⟨Nat.le_of_ble_eq_true rfl, Nat.le_of_ble_eq_true rfl⟩ [0] [] rfl rfl (by decide) rfl rfl (fun r_4916 u_4916 Hp2 lc2 w_4916 hw2 => ?_)
    clear Hp1 lc1 hw1
    obtain rfl : r_4916 = (-2) := w_4916
    clear w_4916
    replace hw2 : qW D _ _ [] _ _ := hw2
    refine lv_icmp_eq (tgt := 1461) hx hb dL_law_762 (by decide) (fun _ => ?_) (fun c => absurd c (by decide +kernel))
    exact law_tail l X hr hlk hX hbl hw2.2.2 hl (Nat.le_of_ble_eq_true rfl) (Nat.le_of_ble_eq_true rfl)
  by_cases c_4917 : a2 = 0
  · subst c_4917
    by_cases c_4922 : a1 = 0
    · subst c_4922
      refine lv_aload_n hx hb dL_law_734 rfl (lv_at hl 2 rfl) ?_
      refine lv_aload_n hx hb dL_law_735 rfl (lv_at hl 3 rfl) ?_
      refine lv_iload_n hx hb dL_law_736 rfl (lv_at hl 0 rfl) ?_
      refine lv_iconst (v := 1) hx hb dL_law_737 (by decide) ?_
      refine lv_iadd hx hb dL_law_738 ?_
      refine q_c 1 (by decide +kernel) ?_
      refine va_sld X.1 X.2.1 hX hbl hbA hw2.2.2 (q_in (by decide +kernel)) dL_law_739 ?_
      refine q_c 0 e1 ?_
      refine lv_aload_n hx hb dL_law_740 rfl (lv_at hl 3 rfl) ?_
      refine lv_iload_n hx hb dL_law_741 rfl (lv_at hl 0 rfl) ?_
      refine lv_iconst (v := 2) hx hb dL_law_742 (by decide) ?_
      refine lv_iadd hx hb dL_law_743 ?_
      refine q_c 2 (by decide +kernel) ?_
      refine va_sld X.1 X.2.1 hX hbl hbA hw2.2.2 (q_in (by decide +kernel)) dL_law_744 ?_
      refine q_c 0 e2 ?_
      refine q_callVi (rest := []) (wr := [(y0, .inr (12, [.int 0, .ref (u_1.1 19), .ref (u_1.1 0), .ref (u_1.1 1), .ref (u_1.1 2), .int 0, .int 0, .int 0, .int 0, .int 0, .int 0, .int 0, .int 0, .int 0, .int (-1), .int 0, .ref (u_1.1 3), .ref (u_1.1 4), .ref (u_1.1 5), .ref (u_1.1 6), .ref (u_1.1 7), .int 0, .int 0, .ref (u_1.1 8), .ref (u_1.1 9), .ref (u_1.1 10), .int 0, .int 0, .ref (u_1.1 11), .ref (u_1.1 12), .ref (u_1.1 13), .ref (u_1.1 14), .ref (u_1.1 15), .int 0, .ref (u_1.1 16), .ref (u_1.1 17), .ref (u_1.1 18)])), ((u_1.1 9), .inl (cy 1, 10, .inl (fun _ => 0))), ((u_1.1 10), .inl (cy 1, 10, .inl (fun _ => 0))), ((u_1.1 19), .inl (cy 1, 3918, .inl (upd (fun _ => 0) (Int32.toNatClampNeg 1) 1)))]) X hK hA hw2 (fun sz => kX11_bar_357 l D cy x0 (u_0.1 20) (u_0.1 21) (u_0.1 23) (u_0.1 31) (u_0.1 37) (u_0.1 0) (u_0.1 1) (u_0.1 39) (u_0.1 41) (u_0.1 43) (u_0.1 14) (u_0.1 15) (u_0.1 16) (u_0.1 17) (u_0.1 24) (u_0.1 29) (u_0.1 22) (u_0.1 32) (u_0.1 33) (u_0.1 34) (u_0.1 35) (u_0.1 36) (u_0.1 38)  sz) wm_4_186 wm_4_189 wm_1_1 hd_X11_bar wm_4_187 wm_4_188 (ci := 11) (q0 := 0) rfl rfl ⟨Nat.le_of_ble_eq_true rfl, Nat.le_of_ble_eq_true rfl⟩ hl.1 rfl (Nat.le_of_ble_eq_true rfl) dL_law_745 ⟨Nat.le_of_ble_eq_true rfl, Nat.le_of_ble_eq_true rfl⟩ [0, 21, 22, 24, 32, 38] [78, 88, 89, 98] rfl rfl (by decide) rfl rfl (fun r_5009 u_5009 Hp3 lc3 w_5009 hw3 => ?_)
      clear Hp2 lc2 hw2
      obtain rfl : r_5009 = 0 := w_5009
      clear w_5009
      replace hw3 : qW D _ _ [(y0, .inr (12, [.int 0, .ref (u_1.1 19), .ref (u_1.1 0), .ref (u_1.1 1), .ref (u_1.1 2), .int 0, .int 0, .int 0, .int 0, .int 0, .int 0, .int 0, .int 0, .int 0, .int (-1), .int 0, .ref (u_1.1 3), .ref (u_1.1 4), .ref (u_1.1 5), .ref (u_1.1 6), .ref (u_1.1 7), .int 0, .int 0, .ref (u_1.1 8), .ref (u_1.1 9), .ref (u_1.1 10), .int 0, .int 0, .ref (u_1.1 11), .ref (u_1.1 12), .ref (u_1.1 13), .ref (u_1.1 14), .ref (u_1.1 15), .int 0, .ref (u_1.1 16), .ref (u_1.1 17), .ref (u_1.1 18)])), ((u_1.1 9), .inl (cy 1, 10, .inl (fun _ => 0))), ((u_1.1 10), .inl (cy 1, 10, .inl (fun _ => 0))), ((u_1.1 19), .inl (cy 1, 3918, .inl (upd (fun _ => 0) (Int32.toNatClampNeg 1) 1)))] _ _ := hw3
      refine lv_aload_n hx hb dL_law_748 rfl (lv_at hl 1 rfl) ?_
      refine lv_aload_n hx hb dL_law_749 rfl (lv_at hl 3 rfl) ?_
      refine lv_iload_n hx hb dL_law_750 rfl (lv_at hl 0 rfl) ?_
      refine lv_iconst (v := 1) hx hb dL_law_751 (by decide) ?_
      refine lv_iadd hx hb dL_law_752 ?_
      refine q_c 1 (by decide +kernel) ?_
      refine va_sld X.1 X.2.1 hX hbl hbA hw3.2.2 (q_in (by decide +kernel)) dL_law_753 ?_
      refine q_c 0 e1 ?_
      refine lv_aload_n hx hb dL_law_754 rfl (lv_at hl 3 rfl) ?_
      refine lv_iload_n hx hb dL_law_755 rfl (lv_at hl 0 rfl) ?_
      refine lv_iconst (v := 2) hx hb dL_law_756 (by decide) ?_
      refine lv_iadd hx hb dL_law_757 ?_
      refine q_c 2 (by decide +kernel) ?_
      refine va_sld X.1 X.2.1 hX hbl hbA hw3.2.2 (q_in (by decide +kernel)) dL_law_758 ?_
      refine q_c 0 e2 ?_
      refine q_callVi (rest := [.int 0]) (wr := []) X hK hA hw3 (fun sz => kX12_bar_360 l D cy y0 (u_1.1 9) (u_1.1 10) (u_1.1 19) (u_1.1 0) (u_1.1 1) (u_1.1 2) (u_1.1 3) (u_1.1 4) (u_1.1 5) (u_1.1 6) (u_1.1 7) (u_1.1 8) (u_1.1 11) (u_1.1 12) (u_1.1 13) (u_1.1 14) (u_1.1 15) (u_1.1 16) (u_1.1 17) (u_1.1 18) (upd (fun _ => 0) (Int32.toNatClampNeg 1) 1) (q_un (by decide +kernel) rfl) (q_un (by decide +kernel) rfl) sz) wm_7_120 wm_7_123 wm_1_12 hd_X12_bar wm_7_121 wm_7_122 (ci := 12) (q0 := 0) rfl rfl ⟨Nat.le_of_ble_eq_true rfl, Nat.le_of_ble_eq_true rfl⟩ hl.1 rfl (Nat.le_of_ble_eq_true rfl) dL_law_759 ⟨Nat.le_of_ble_eq_true rfl, Nat.le_of_ble_eq_true rfl⟩ [0, 1, 2, 3] [] rfl rfl (by decide) rfl rfl (fun r_5020 u_5020 Hp4 lc4 w_5020 hw4 => ?_)
      clear Hp3 lc3 hw3
      obtain rfl : r_5020 = 0 := w_5020
      clear w_5020
      replace hw4 : qW D _ _ [] _ _ := hw4
      refine lv_icmp_eq (tgt := 1461) hx hb dL_law_762 (by decide) (fun _ => ?_) (fun c => absurd c (by decide +kernel))
      exact law_tail l X hr hlk hX hbl hw4.2.2 hl (Nat.le_of_ble_eq_true rfl) (Nat.le_of_ble_eq_true rfl)
    refine lv_aload_n hx hb dL_law_734 rfl (lv_at hl 2 rfl) ?_
    refine lv_aload_n hx hb dL_law_735 rfl (lv_at hl 3 rfl) ?_
    refine lv_iload_n hx hb dL_law_736 rfl (lv_at hl 0 rfl) ?_
    refine lv_iconst (v := 1) hx hb dL_law_737 (by decide) ?_
    refine lv_iadd hx hb dL_law_738 ?_
    refine q_c 1 (by decide +kernel) ?_
    refine va_sld X.1 X.2.1 hX hbl hbA hw4.2.2 (q_in (by decide +kernel)) dL_law_739 ?_
    refine q_c a1 e1 ?_
    refine lv_aload_n hx hb dL_law_740 rfl (lv_at hl 3 rfl) ?_
    refine lv_iload_n hx hb dL_law_741 rfl (lv_at hl 0 rfl) ?_
    refine lv_iconst (v := 2) hx hb dL_law_742 (by decide) ?_
    refine lv_iadd hx hb dL_law_743 ?_
    refine q_c 2 (by decide +kernel) ?_
    refine va_sld X.1 X.2.1 hX hbl hbA hw4.2.2 (q_in (by decide +kernel)) dL_law_744 ?_
    refine q_c 0 e2 ?_
    have g_5053 : ¬ a1 = (0 : Int32) := by
      simp only [Int32.lt_iff_toInt_lt, Int32.le_iff_toInt_le, ← Int32.toInt_inj] at c_4922 ⊢
      have k_0 : (0 : Int32).toInt = 0 := by decide
      omega
    refine q_callVi (rest := []) (wr := [(y0, .inr (12, [.int 0, .ref (u_1.1 19), .ref (u_1.1 0), .ref (u_1.1 1), .ref (u_1.1 2), .int 0, .int 0, .int 0, .int 0, .int 0, .int 0, .int 0, .int 0, .int 0, .int (-1), .int 0, .ref (u_1.1 3), .ref (u_1.1 4), .ref (u_1.1 5), .ref (u_1.1 6), .ref (u_1.1 7), .int 0, .int 0, .ref (u_1.1 8), .ref (u_1.1 9), .ref (u_1.1 10), .int 0, .int 0, .ref (u_1.1 11), .ref (u_1.1 12), .ref (u_1.1 13), .ref (u_1.1 14), .ref (u_1.1 15), .int 0, .ref (u_1.1 16), .ref (u_1.1 17), .ref (u_1.1 18)])), ((u_1.1 19), .inl (cy 1, 3918, .inl (upd (fun _ => 0) (Int32.toNatClampNeg 1) 1)))]) X hK hA hw4 (fun sz => kX11_bar_361 l D cy x0 (u_0.1 31) (u_0.1 37) a1 (u_0.1 0) (u_0.1 1) (u_0.1 39) (u_0.1 41) (u_0.1 43) (u_0.1 14) (u_0.1 15) (u_0.1 16) (u_0.1 17) (u_0.1 20) (u_0.1 24) (u_0.1 29) (u_0.1 32) (u_0.1 33) (u_0.1 34) (u_0.1 35) (u_0.1 36) (u_0.1 38) g_5053 sz) wm_4_186 wm_4_189 wm_1_1 hd_X11_bar wm_4_187 wm_4_188 (ci := 11) (q0 := 0) rfl rfl ⟨Nat.le_of_ble_eq_true rfl, Nat.le_of_ble_eq_true rfl⟩ hl.1 rfl (Nat.le_of_ble_eq_true rfl) dL_law_745 ⟨Nat.le_of_ble_eq_true rfl, Nat.le_of_ble_eq_true rfl⟩ [0, 32, 38] [78, 98] rfl rfl (by decide) rfl rfl (fun r_5054 u_5054 Hp5 lc5 w_5054 hw5 => ?_)
    clear Hp4 lc4 hw4
    obtain rfl : r_5054 = (-3) := w_5054
    clear w_5054
    replace hw5 : qW D _ _ [(y0, .inr (12, [.int 0, .ref (u_1.1 19), .ref (u_1.1 0), .ref (u_1.1 1), .ref (u_1.1 2), .int 0, .int 0, .int 0, .int 0, .int 0, .int 0, .int 0, .int 0, .int 0, .int (-1), .int 0, .ref (u_1.1 3), .ref (u_1.1 4), .ref (u_1.1 5), .ref (u_1.1 6), .ref (u_1.1 7), .int 0, .int 0, .ref (u_1.1 8), .ref (u_1.1 9), .ref (u_1.1 10), .int 0, .int 0, .ref (u_1.1 11), .ref (u_1.1 12), .ref (u_1.1 13), .ref (u_1.1 14), .ref (u_1.1 15), .int 0, .ref (u_1.1 16), .ref (u_1.1 17), .ref (u_1.1 18)])), ((u_1.1 19), .inl (cy 1, 3918, .inl (upd (fun _ => 0) (Int32.toNatClampNeg 1) 1)))] _ _ := hw5
    refine lv_aload_n hx hb dL_law_748 rfl (lv_at hl 1 rfl) ?_
    refine lv_aload_n hx hb dL_law_749 rfl (lv_at hl 3 rfl) ?_
    refine lv_iload_n hx hb dL_law_750 rfl (lv_at hl 0 rfl) ?_
    refine lv_iconst (v := 1) hx hb dL_law_751 (by decide) ?_
    refine lv_iadd hx hb dL_law_752 ?_
    refine q_c 1 (by decide +kernel) ?_
    refine va_sld X.1 X.2.1 hX hbl hbA hw5.2.2 (q_in (by decide +kernel)) dL_law_753 ?_
    refine q_c a1 e1 ?_
    refine lv_aload_n hx hb dL_law_754 rfl (lv_at hl 3 rfl) ?_
    refine lv_iload_n hx hb dL_law_755 rfl (lv_at hl 0 rfl) ?_
    refine lv_iconst (v := 2) hx hb dL_law_756 (by decide) ?_
    refine lv_iadd hx hb dL_law_757 ?_
    refine q_c 2 (by decide +kernel) ?_
    refine va_sld X.1 X.2.1 hX hbl hbA hw5.2.2 (q_in (by decide +kernel)) dL_law_758 ?_
    refine q_c 0 e2 ?_
    have g_5060 : ¬ a1 = (0 : Int32) := by
      simp only [Int32.lt_iff_toInt_lt, Int32.le_iff_toInt_le, ← Int32.toInt_inj] at c_4922 ⊢
      have k_0 : (0 : Int32).toInt = 0 := by decide
      omega
    refine q_callVi (rest := [.int (-3)]) (wr := []) X hK hA hw5 (fun sz => kX12_bar_362 l D cy y0 (u_1.1 19) a1 (u_1.1 0) (u_1.1 1) (u_1.1 2) (u_1.1 3) (u_1.1 4) (u_1.1 5) (u_1.1 6) (u_1.1 7) (u_1.1 8) (u_1.1 9) (u_1.1 10) (u_1.1 11) (u_1.1 12) (u_1.1 13) (u_1.1 14) (u_1.1 15) (u_1.1 16) (u_1.1 17) (u_1.1 18) (upd (fun _ => 0) (Int32.toNatClampNeg 1) 1) g_5060 (q_un (by decide +kernel) rfl) sz) wm_7_120 wm_7_123 wm_1_12 hd_X12_bar wm_7_121 wm_7_122 (ci := 12) (q0 := 0) rfl rfl ⟨Nat.le_of_ble_eq_true rfl, Nat.le_of_ble_eq_true rfl⟩ hl.1 rfl (Nat.le_of_ble_eq_true rfl) dL_law_759 ⟨Nat.le_of_ble_eq_true rfl, Nat.le_of_ble_eq_true rfl⟩ [0, 1] [] rfl rfl (by decide) rfl rfl (fun r_5061 u_5061 Hp6 lc6 w_5061 hw6 => ?_)
    clear Hp5 lc5 hw5
    obtain rfl : r_5061 = (-3) := w_5061
    clear w_5061
    replace hw6 : qW D _ _ [] _ _ := hw6
    refine lv_icmp_eq (tgt := 1461) hx hb dL_law_762 (by decide) (fun _ => ?_) (fun c => absurd c (by decide +kernel))
    exact law_tail l X hr hlk hX hbl hw6.2.2 hl (Nat.le_of_ble_eq_true rfl) (Nat.le_of_ble_eq_true rfl)
  by_cases c_5062 : a2 = 1
  · subst c_5062
    by_cases c_5067 : a1 = 0
    · subst c_5067
      refine lv_aload_n hx hb dL_law_734 rfl (lv_at hl 2 rfl) ?_
      refine lv_aload_n hx hb dL_law_735 rfl (lv_at hl 3 rfl) ?_
      refine lv_iload_n hx hb dL_law_736 rfl (lv_at hl 0 rfl) ?_
      refine lv_iconst (v := 1) hx hb dL_law_737 (by decide) ?_
      refine lv_iadd hx hb dL_law_738 ?_
      refine q_c 1 (by decide +kernel) ?_
      refine va_sld X.1 X.2.1 hX hbl hbA hw6.2.2 (q_in (by decide +kernel)) dL_law_739 ?_
      refine q_c 0 e1 ?_
      refine lv_aload_n hx hb dL_law_740 rfl (lv_at hl 3 rfl) ?_
      refine lv_iload_n hx hb dL_law_741 rfl (lv_at hl 0 rfl) ?_
      refine lv_iconst (v := 2) hx hb dL_law_742 (by decide) ?_
      refine lv_iadd hx hb dL_law_743 ?_
      refine q_c 2 (by decide +kernel) ?_
      refine va_sld X.1 X.2.1 hX hbl hbA hw6.2.2 (q_in (by decide +kernel)) dL_law_744 ?_
      refine q_c 1 e2 ?_
      refine q_callVi (rest := []) (wr := [(y0, .inr (12, [.int 0, .ref (u_1.1 19), .ref (u_1.1 0), .ref (u_1.1 1), .ref (u_1.1 2), .int 0, .int 0, .int 0, .int 0, .int 0, .int 0, .int 0, .int 0, .int 0, .int (-1), .int 0, .ref (u_1.1 3), .ref (u_1.1 4), .ref (u_1.1 5), .ref (u_1.1 6), .ref (u_1.1 7), .int 0, .int 0, .ref (u_1.1 8), .ref (u_1.1 9), .ref (u_1.1 10), .int 0, .int 0, .ref (u_1.1 11), .ref (u_1.1 12), .ref (u_1.1 13), .ref (u_1.1 14), .ref (u_1.1 15), .int 0, .ref (u_1.1 16), .ref (u_1.1 17), .ref (u_1.1 18)])), ((u_1.1 9), .inl (cy 1, 10, .inl (fun _ => 0))), ((u_1.1 10), .inl (cy 1, 10, .inl (fun _ => 0))), ((u_1.1 19), .inl (cy 1, 3918, .inl (upd (fun _ => 0) (Int32.toNatClampNeg 1) 1)))]) X hK hA hw6 (fun sz => kX11_bar_363 l D cy x0 (u_0.1 20) (u_0.1 21) (u_0.1 23) (u_0.1 31) (u_0.1 37) (u_0.1 0) (u_0.1 1) (u_0.1 39) (u_0.1 41) (u_0.1 43) (u_0.1 14) (u_0.1 15) (u_0.1 16) (u_0.1 17) (u_0.1 24) (u_0.1 29) (u_0.1 22) (u_0.1 32) (u_0.1 33) (u_0.1 34) (u_0.1 35) (u_0.1 36) (u_0.1 38)  sz) wm_4_186 wm_4_189 wm_1_1 hd_X11_bar wm_4_187 wm_4_188 (ci := 11) (q0 := 0) rfl rfl ⟨Nat.le_of_ble_eq_true rfl, Nat.le_of_ble_eq_true rfl⟩ hl.1 rfl (Nat.le_of_ble_eq_true rfl) dL_law_745 ⟨Nat.le_of_ble_eq_true rfl, Nat.le_of_ble_eq_true rfl⟩ [0, 21, 22, 24, 32, 38] [78, 88, 89, 98] rfl rfl (by decide) rfl rfl (fun r_5139 u_5139 Hp7 lc7 w_5139 hw7 => ?_)
      clear Hp6 lc6 hw6
      obtain rfl : r_5139 = 0 := w_5139
      clear w_5139
      replace hw7 : qW D _ _ [(y0, .inr (12, [.int 0, .ref (u_1.1 19), .ref (u_1.1 0), .ref (u_1.1 1), .ref (u_1.1 2), .int 0, .int 0, .int 0, .int 0, .int 0, .int 0, .int 0, .int 0, .int 0, .int (-1), .int 0, .ref (u_1.1 3), .ref (u_1.1 4), .ref (u_1.1 5), .ref (u_1.1 6), .ref (u_1.1 7), .int 0, .int 0, .ref (u_1.1 8), .ref (u_1.1 9), .ref (u_1.1 10), .int 0, .int 0, .ref (u_1.1 11), .ref (u_1.1 12), .ref (u_1.1 13), .ref (u_1.1 14), .ref (u_1.1 15), .int 0, .ref (u_1.1 16), .ref (u_1.1 17), .ref (u_1.1 18)])), ((u_1.1 9), .inl (cy 1, 10, .inl (fun _ => 0))), ((u_1.1 10), .inl (cy 1, 10, .inl (fun _ => 0))), ((u_1.1 19), .inl (cy 1, 3918, .inl (upd (fun _ => 0) (Int32.toNatClampNeg 1) 1)))] _ _ := hw7
      refine lv_aload_n hx hb dL_law_748 rfl (lv_at hl 1 rfl) ?_
      refine lv_aload_n hx hb dL_law_749 rfl (lv_at hl 3 rfl) ?_
      refine lv_iload_n hx hb dL_law_750 rfl (lv_at hl 0 rfl) ?_
      refine lv_iconst (v := 1) hx hb dL_law_751 (by decide) ?_
      refine lv_iadd hx hb dL_law_752 ?_
      refine q_c 1 (by decide +kernel) ?_
      refine va_sld X.1 X.2.1 hX hbl hbA hw7.2.2 (q_in (by decide +kernel)) dL_law_753 ?_
      refine q_c 0 e1 ?_
      refine lv_aload_n hx hb dL_law_754 rfl (lv_at hl 3 rfl) ?_
      refine lv_iload_n hx hb dL_law_755 rfl (lv_at hl 0 rfl) ?_
      refine lv_iconst (v := 2) hx hb dL_law_756 (by decide) ?_
      refine lv_iadd hx hb dL_law_757 ?_
      refine q_c 2 (by decide +kernel) ?_
      refine va_sld X.1 X.2.1 hX hbl hbA hw7.2.2 (q_in (by decide +kernel)) dL_law_758 ?_
      refine q_c 1 e2 ?_
      refine q_callVi (rest := [.int 0]) (wr := []) X hK hA hw7 (fun sz => kX12_bar_364 l D cy y0 (u_1.1 9) (u_1.1 10) (u_1.1 19) (u_1.1 0) (u_1.1 1) (u_1.1 2) (u_1.1 3) (u_1.1 4) (u_1.1 5) (u_1.1 6) (u_1.1 7) (u_1.1 8) (u_1.1 11) (u_1.1 12) (u_1.1 13) (u_1.1 14) (u_1.1 15) (u_1.1 16) (u_1.1 17) (u_1.1 18) (upd (fun _ => 0) (Int32.toNatClampNeg 1) 1) (q_un (by decide +kernel) rfl) (q_un (by decide +kernel) rfl) sz) wm_7_120 wm_7_123 wm_1_12 hd_X12_bar wm_7_121 wm_7_122 (ci := 12) (q0 := 0) rfl rfl ⟨Nat.le_of_ble_eq_true rfl, Nat.le_of_ble_eq_true rfl⟩ hl.1 rfl (Nat.le_of_ble_eq_true rfl) dL_law_759 ⟨Nat.le_of_ble_eq_true rfl, Nat.le_of_ble_eq_true rfl⟩ [0, 1, 2, 3] [] rfl rfl (by decide) rfl rfl (fun r_5149 u_5149 Hp8 lc8 w_5149 hw8 => ?_)
      clear Hp7 lc7 hw7
      obtain rfl : r_5149 = 0 := w_5149
      clear w_5149
      replace hw8 : qW D _ _ [] _ _ := hw8
      refine lv_icmp_eq (tgt := 1461) hx hb dL_law_762 (by decide) (fun _ => ?_) (fun c => absurd c (by decide +kernel))
      exact law_tail l X hr hlk hX hbl hw8.2.2 hl (Nat.le_of_ble_eq_true rfl) (Nat.le_of_ble_eq_true rfl)
    refine lv_aload_n hx hb dL_law_734 rfl (lv_at hl 2 rfl) ?_
    refine lv_aload_n hx hb dL_law_735 rfl (lv_at hl 3 rfl) ?_
    refine lv_iload_n hx hb dL_law_736 rfl (lv_at hl 0 rfl) ?_
    refine lv_iconst (v := 1) hx hb dL_law_737 (by decide) ?_
    refine lv_iadd hx hb dL_law_738 ?_
    refine q_c 1 (by decide +kernel) ?_
    refine va_sld X.1 X.2.1 hX hbl hbA hw8.2.2 (q_in (by decide +kernel)) dL_law_739 ?_
    refine q_c a1 e1 ?_
    refine lv_aload_n hx hb dL_law_740 rfl (lv_at hl 3 rfl) ?_
    refine lv_iload_n hx hb dL_law_741 rfl (lv_at hl 0 rfl) ?_
    refine lv_iconst (v := 2) hx hb dL_law_742 (by decide) ?_
    refine lv_iadd hx hb dL_law_743 ?_
    refine q_c 2 (by decide +kernel) ?_
    refine va_sld X.1 X.2.1 hX hbl hbA hw8.2.2 (q_in (by decide +kernel)) dL_law_744 ?_
    refine q_c 1 e2 ?_
    have g_5182 : ¬ a1 = (0 : Int32) := by
      simp only [Int32.lt_iff_toInt_lt, Int32.le_iff_toInt_le, ← Int32.toInt_inj] at c_5067 ⊢
      have k_0 : (0 : Int32).toInt = 0 := by decide
      omega
    refine q_callVi (rest := []) (wr := [(y0, .inr (12, [.int 0, .ref (u_1.1 19), .ref (u_1.1 0), .ref (u_1.1 1), .ref (u_1.1 2), .int 0, .int 0, .int 0, .int 0, .int 0, .int 0, .int 0, .int 0, .int 0, .int (-1), .int 0, .ref (u_1.1 3), .ref (u_1.1 4), .ref (u_1.1 5), .ref (u_1.1 6), .ref (u_1.1 7), .int 0, .int 0, .ref (u_1.1 8), .ref (u_1.1 9), .ref (u_1.1 10), .int 0, .int 0, .ref (u_1.1 11), .ref (u_1.1 12), .ref (u_1.1 13), .ref (u_1.1 14), .ref (u_1.1 15), .int 0, .ref (u_1.1 16), .ref (u_1.1 17), .ref (u_1.1 18)])), ((u_1.1 19), .inl (cy 1, 3918, .inl (upd (fun _ => 0) (Int32.toNatClampNeg 1) 1)))]) X hK hA hw8 (fun sz => kX11_bar_365 l D cy x0 (u_0.1 31) (u_0.1 37) a1 (u_0.1 0) (u_0.1 1) (u_0.1 39) (u_0.1 41) (u_0.1 43) (u_0.1 14) (u_0.1 15) (u_0.1 16) (u_0.1 17) (u_0.1 20) (u_0.1 24) (u_0.1 29) (u_0.1 32) (u_0.1 33) (u_0.1 34) (u_0.1 35) (u_0.1 36) (u_0.1 38) g_5182 sz) wm_4_186 wm_4_189 wm_1_1 hd_X11_bar wm_4_187 wm_4_188 (ci := 11) (q0 := 0) rfl rfl ⟨Nat.le_of_ble_eq_true rfl, Nat.le_of_ble_eq_true rfl⟩ hl.1 rfl (Nat.le_of_ble_eq_true rfl) dL_law_745 ⟨Nat.le_of_ble_eq_true rfl, Nat.le_of_ble_eq_true rfl⟩ [0, 32, 38] [78, 98] rfl rfl (by decide) rfl rfl (fun r_5183 u_5183 Hp9 lc9 w_5183 hw9 => ?_)
    clear Hp8 lc8 hw8
    obtain rfl : r_5183 = (-3) := w_5183
    clear w_5183
    replace hw9 : qW D _ _ [(y0, .inr (12, [.int 0, .ref (u_1.1 19), .ref (u_1.1 0), .ref (u_1.1 1), .ref (u_1.1 2), .int 0, .int 0, .int 0, .int 0, .int 0, .int 0, .int 0, .int 0, .int 0, .int (-1), .int 0, .ref (u_1.1 3), .ref (u_1.1 4), .ref (u_1.1 5), .ref (u_1.1 6), .ref (u_1.1 7), .int 0, .int 0, .ref (u_1.1 8), .ref (u_1.1 9), .ref (u_1.1 10), .int 0, .int 0, .ref (u_1.1 11), .ref (u_1.1 12), .ref (u_1.1 13), .ref (u_1.1 14), .ref (u_1.1 15), .int 0, .ref (u_1.1 16), .ref (u_1.1 17), .ref (u_1.1 18)])), ((u_1.1 19), .inl (cy 1, 3918, .inl (upd (fun _ => 0) (Int32.toNatClampNeg 1) 1)))] _ _ := hw9
    refine lv_aload_n hx hb dL_law_748 rfl (lv_at hl 1 rfl) ?_
    refine lv_aload_n hx hb dL_law_749 rfl (lv_at hl 3 rfl) ?_
    refine lv_iload_n hx hb dL_law_750 rfl (lv_at hl 0 rfl) ?_
    refine lv_iconst (v := 1) hx hb dL_law_751 (by decide) ?_
    refine lv_iadd hx hb dL_law_752 ?_
    refine q_c 1 (by decide +kernel) ?_
    refine va_sld X.1 X.2.1 hX hbl hbA hw9.2.2 (q_in (by decide +kernel)) dL_law_753 ?_
    refine q_c a1 e1 ?_
    refine lv_aload_n hx hb dL_law_754 rfl (lv_at hl 3 rfl) ?_
    refine lv_iload_n hx hb dL_law_755 rfl (lv_at hl 0 rfl) ?_
    refine lv_iconst (v := 2) hx hb dL_law_756 (by decide) ?_
    refine lv_iadd hx hb dL_law_757 ?_
    refine q_c 2 (by decide +kernel) ?_
    refine va_sld X.1 X.2.1 hX hbl hbA hw9.2.2 (q_in (by decide +kernel)) dL_law_758 ?_
    refine q_c 1 e2 ?_
    have g_5189 : ¬ a1 = (0 : Int32) := by
      simp only [Int32.lt_iff_toInt_lt, Int32.le_iff_toInt_le, ← Int32.toInt_inj] at c_5067 ⊢
      have k_0 : (0 : Int32).toInt = 0 := by decide
      omega
    refine q_callVi (rest := [.int (-3)]) (wr := []) X hK hA hw9 (fun sz => kX12_bar_366 l D cy y0 (u_1.1 19) a1 (u_1.1 0) (u_1.1 1) (u_1.1 2) (u_1.1 3) (u_1.1 4) (u_1.1 5) (u_1.1 6) (u_1.1 7) (u_1.1 8) (u_1.1 9) (u_1.1 10) (u_1.1 11) (u_1.1 12) (u_1.1 13) (u_1.1 14) (u_1.1 15) (u_1.1 16) (u_1.1 17) (u_1.1 18) (upd (fun _ => 0) (Int32.toNatClampNeg 1) 1) g_5189 (q_un (by decide +kernel) rfl) sz) wm_7_120 wm_7_123 wm_1_12 hd_X12_bar wm_7_121 wm_7_122 (ci := 12) (q0 := 0) rfl rfl ⟨Nat.le_of_ble_eq_true rfl, Nat.le_of_ble_eq_true rfl⟩ hl.1 rfl (Nat.le_of_ble_eq_true rfl) dL_law_759 ⟨Nat.le_of_ble_eq_true rfl, Nat.le_of_ble_eq_true rfl⟩ [0, 1] [] rfl rfl (by decide) rfl rfl (fun r_5190 u_5190 Hp10 lc10 w_5190 hw10 => ?_)
    clear Hp9 lc9 hw9
    obtain rfl : r_5190 = (-3) := w_5190
    clear w_5190
    replace hw10 : qW D _ _ [] _ _ := hw10
    refine lv_icmp_eq (tgt := 1461) hx hb dL_law_762 (by decide) (fun _ => ?_) (fun c => absurd c (by decide +kernel))
    exact law_tail l X hr hlk hX hbl hw10.2.2 hl (Nat.le_of_ble_eq_true rfl) (Nat.le_of_ble_eq_true rfl)
  refine lv_aload_n hx hb dL_law_734 rfl (lv_at hl 2 rfl) ?_
  refine lv_aload_n hx hb dL_law_735 rfl (lv_at hl 3 rfl) ?_
  refine lv_iload_n hx hb dL_law_736 rfl (lv_at hl 0 rfl) ?_
  refine lv_iconst (v := 1) hx hb dL_law_737 (by decide) ?_
  refine lv_iadd hx hb dL_law_738 ?_
  refine q_c 1 (by decide +kernel) ?_
  refine va_sld X.1 X.2.1 hX hbl hbA hw10.2.2 (q_in (by decide +kernel)) dL_law_739 ?_
  refine q_c a1 e1 ?_
  refine lv_aload_n hx hb dL_law_740 rfl (lv_at hl 3 rfl) ?_
  refine lv_iload_n hx hb dL_law_741 rfl (lv_at hl 0 rfl) ?_
  refine lv_iconst (v := 2) hx hb dL_law_742 (by decide) ?_
  refine lv_iadd hx hb dL_law_743 ?_
  refine q_c 2 (by decide +kernel) ?_
  refine va_sld X.1 X.2.1 hX hbl hbA hw10.2.2 (q_in (by decide +kernel)) dL_law_744 ?_
  refine q_c a2 e2 ?_
  have g_5216 : (2 : Int32) ≤ a2 := by
    simp only [Int32.lt_iff_toInt_lt, Int32.le_iff_toInt_le, ← Int32.toInt_inj] at c_4892 c_4917 c_5062 ⊢
    have k_0 : ((-1) : Int32).toInt = -1 := by decide
    have k_1 : (0 : Int32).toInt = 0 := by decide
    have k_2 : (1 : Int32).toInt = 1 := by decide
    have k_g : (2 : Int32).toInt = 2 := by decide
    omega
  refine q_callVi (rest := []) (wr := [(y0, .inr (12, [.int 0, .ref (u_1.1 19), .ref (u_1.1 0), .ref (u_1.1 1), .ref (u_1.1 2), .int 0, .int 0, .int 0, .int 0, .int 0, .int 0, .int 0, .int 0, .int 0, .int (-1), .int 0, .ref (u_1.1 3), .ref (u_1.1 4), .ref (u_1.1 5), .ref (u_1.1 6), .ref (u_1.1 7), .int 0, .int 0, .ref (u_1.1 8), .ref (u_1.1 9), .ref (u_1.1 10), .int 0, .int 0, .ref (u_1.1 11), .ref (u_1.1 12), .ref (u_1.1 13), .ref (u_1.1 14), .ref (u_1.1 15), .int 0, .ref (u_1.1 16), .ref (u_1.1 17), .ref (u_1.1 18)]))]) X hK hA hw10 (fun sz => kX11_bar_367 l D cy x0 a1 a2 (u_0.1 0) (u_0.1 1) (u_0.1 37) (u_0.1 39) (u_0.1 41) (u_0.1 43) (u_0.1 14) (u_0.1 15) (u_0.1 16) (u_0.1 17) (u_0.1 20) (u_0.1 24) (u_0.1 29) g_5216 sz) wm_4_186 wm_4_189 wm_1_1 hd_X11_bar wm_4_187 wm_4_188 (ci := 11) (q0 := 0) rfl rfl ⟨Nat.le_of_ble_eq_true rfl, Nat.le_of_ble_eq_true rfl⟩ hl.1 rfl (Nat.le_of_ble_eq_true rfl) dL_law_745 ⟨Nat.le_of_ble_eq_true rfl, Nat.le_of_ble_eq_true rfl⟩ [0] [78] rfl rfl (by decide) rfl rfl (fun r_5217 u_5217 Hp11 lc11 w_5217 hw11 => ?_)
  clear Hp10 lc10 hw10
  obtain rfl : r_5217 = (-2) := w_5217
  clear w_5217
  replace hw11 : qW D _ _ [(y0, .inr (12, [.int 0, .ref (u_1.1 19), .ref (u_1.1 0), .ref (u_1.1 1), .ref (u_1.1 2), .int 0, .int 0, .int 0, .int 0, .int 0, .int 0, .int 0, .int 0, .int 0, .int (-1), .int 0, .ref (u_1.1 3), .ref (u_1.1 4), .ref (u_1.1 5), .ref (u_1.1 6), .ref (u_1.1 7), .int 0, .int 0, .ref (u_1.1 8), .ref (u_1.1 9), .ref (u_1.1 10), .int 0, .int 0, .ref (u_1.1 11), .ref (u_1.1 12), .ref (u_1.1 13), .ref (u_1.1 14), .ref (u_1.1 15), .int 0, .ref (u_1.1 16), .ref (u_1.1 17), .ref (u_1.1 18)]))] _ _ := hw11
  refine lv_aload_n hx hb dL_law_748 rfl (lv_at hl 1 rfl) ?_
  refine lv_aload_n hx hb dL_law_749 rfl (lv_at hl 3 rfl) ?_
  refine lv_iload_n hx hb dL_law_750 rfl (lv_at hl 0 rfl) ?_
  refine lv_iconst (v := 1) hx hb dL_law_751 (by decide) ?_
  refine lv_iadd hx hb dL_law_752 ?_
  refine q_c 1 (by decide +kernel) ?_
  refine va_sld X.1 X.2.1 hX hbl hbA hw11.2.2 (q_in (by decide +kernel)) dL_law_753 ?_
  refine q_c a1 e1 ?_
  refine lv_aload_n hx hb dL_law_754 rfl (lv_at hl 3 rfl) ?_
  refine lv_iload_n hx hb dL_law_755 rfl (lv_at hl 0 rfl) ?_
  refine lv_iconst (v := 2) hx hb dL_law_756 (by decide) ?_
  refine lv_iadd hx hb dL_law_757 ?_
  refine q_c 2 (by decide +kernel) ?_
  refine va_sld X.1 X.2.1 hX hbl hbA hw11.2.2 (q_in (by decide +kernel)) dL_law_758 ?_
  refine q_c a2 e2 ?_
  have g_5222 : (2 : Int32) ≤ a2 := by
    simp only [Int32.lt_iff_toInt_lt, Int32.le_iff_toInt_le, ← Int32.toInt_inj] at c_4892 c_4917 c_5062 ⊢
    have k_0 : ((-1) : Int32).toInt = -1 := by decide
    have k_1 : (0 : Int32).toInt = 0 := by decide
    have k_2 : (1 : Int32).toInt = 1 := by decide
    have k_g : (2 : Int32).toInt = 2 := by decide
    omega
  refine q_callVi (rest := [.int (-2)]) (wr := []) X hK hA hw11 (fun sz => kX12_bar_369 l D cy y0 a1 a2 (u_1.1 19) (u_1.1 0) (u_1.1 1) (u_1.1 2) (u_1.1 3) (u_1.1 4) (u_1.1 5) (u_1.1 6) (u_1.1 7) (u_1.1 8) (u_1.1 9) (u_1.1 10) (u_1.1 11) (u_1.1 12) (u_1.1 13) (u_1.1 14) (u_1.1 15) (u_1.1 16) (u_1.1 17) (u_1.1 18) g_5222 sz) wm_7_120 wm_7_123 wm_1_12 hd_X12_bar wm_7_121 wm_7_122 (ci := 12) (q0 := 0) rfl rfl ⟨Nat.le_of_ble_eq_true rfl, Nat.le_of_ble_eq_true rfl⟩ hl.1 rfl (Nat.le_of_ble_eq_true rfl) dL_law_759 ⟨Nat.le_of_ble_eq_true rfl, Nat.le_of_ble_eq_true rfl⟩ [0] [] rfl rfl (by decide) rfl rfl (fun r_5223 u_5223 Hp12 lc12 w_5223 hw12 => ?_)
  clear Hp11 lc11 hw11
  obtain rfl : r_5223 = (-2) := w_5223
  clear w_5223
  replace hw12 : qW D _ _ [] _ _ := hw12
  refine lv_icmp_eq (tgt := 1461) hx hb dL_law_762 (by decide) (fun _ => ?_) (fun c => absurd c (by decide +kernel))
  exact law_tail l X hr hlk hX hbl hw12.2.2 hl (Nat.le_of_ble_eq_true rfl) (Nat.le_of_ble_eq_true rfl)
set_option maxHeartbeats 4000000 in
set_option maxRecDepth 100000 in
theorem lc_pieces (l : Launch) {p : Program} {e : Env} {s : State} {m : MethodId} {below : List Frame} {meth : Method} {c : Code} {b : Nat} {xs : Nat → Int32} {D : va_G} {cy : Nat → ClassId} {H : Heap} {locs : List Loc} {ls : Array Slot} {x0 y0 : Nat} {u_0 u_1 : SS} (X : qX p s m #[Value.ref b] c cL_law 4 RL) (hr : meth.sig.returnType = ret) (hlk : meth.locks = false) (hX : va_X b 6 xs s s.heap) (hbl : b < s.heap.size) (hK : qK D cy s) (a1 a2 a3 a4 a5 : Int32) (e1 : xs (Int32.toNatClampNeg 1) = a1) (e2 : xs (Int32.toNatClampNeg 2) = a2) (e3 : xs (Int32.toNatClampNeg 3) = a3) (e4 : xs (Int32.toNatClampNeg 4) = a4) (e5 : xs (Int32.toNatClampNeg 5) = a5) (h : qW D (fun q => s.heap.size ≤ q) s.heap (wLaw cy x0 y0 u_0 u_1) H locs) (hl : lv_has ls 4 [(3, .int 0), (2, .ref y0), (1, .ref x0), (0, .ref b)]) : W p l e room_1 s m #[Value.ref b] below meth c H locs 99 25544 (lw_Z below #[Value.ref b] s) (F0 m 767 ls []) := by
  obtain ⟨hx, hb, hml, hown, ht⟩ := id X
  have hA : ∀ q : Nat, s.heap.size ≤ q → (fun q : Nat => s.heap.size ≤ q) q := fun _ h => h
  have hbA : ¬ (fun q : Nat => s.heap.size ≤ q) b := Nat.not_le.mpr hbl
  by_cases c_5228 : a1 = 0
  · subst c_5228
    refine lv_aload_n hx hb dL_law_767 rfl (lv_at hl 2 rfl) ?_
    refine lv_aload_n hx hb dL_law_768 rfl (lv_at hl 3 rfl) ?_
    refine lv_iload_n hx hb dL_law_769 rfl (lv_at hl 0 rfl) ?_
    refine lv_iconst (v := 1) hx hb dL_law_770 (by decide) ?_
    refine lv_iadd hx hb dL_law_771 ?_
    refine q_c 1 (by decide +kernel) ?_
    refine va_sld X.1 X.2.1 hX hbl hbA h.2.2 (q_in (by decide +kernel)) dL_law_772 ?_
    refine q_c 0 e1 ?_
    refine q_callVi (rest := []) (wr := [(y0, .inr (12, [.int 0, .ref (u_1.1 19), .ref (u_1.1 0), .ref (u_1.1 1), .ref (u_1.1 2), .int 0, .int 0, .int 0, .int 0, .int 0, .int 0, .int 0, .int 0, .int 0, .int (-1), .int 0, .ref (u_1.1 3), .ref (u_1.1 4), .ref (u_1.1 5), .ref (u_1.1 6), .ref (u_1.1 7), .int 0, .int 0, .ref (u_1.1 8), .ref (u_1.1 9), .ref (u_1.1 10), .int 0, .int 0, .ref (u_1.1 11), .ref (u_1.1 12), .ref (u_1.1 13), .ref (u_1.1 14), .ref (u_1.1 15), .int 0, .ref (u_1.1 16), .ref (u_1.1 17), .ref (u_1.1 18)])), ((u_1.1 19), .inl (cy 1, 3918, .inl (upd (fun _ => 0) (Int32.toNatClampNeg 1) 1)))]) X hK hA h (fun sz => kX11_pieces_371 l D cy x0 (u_0.1 20) (u_0.1 21) (u_0.1 31) (u_0.1 37) (u_0.1 0) (u_0.1 1) (u_0.1 39) (u_0.1 41) (u_0.1 43) (u_0.1 14) (u_0.1 15) (u_0.1 16) (u_0.1 17) (u_0.1 24) (u_0.1 29) (u_0.1 22) (u_0.1 23) (u_0.1 32) (u_0.1 33) (u_0.1 34) (u_0.1 35) (u_0.1 36) (u_0.1 38)  sz) wm_4_203 wm_4_206 wm_1_1 hd_X11_pieces wm_4_204 wm_4_205 (ci := 11) (q0 := 0) rfl rfl ⟨Nat.le_of_ble_eq_true rfl, Nat.le_of_ble_eq_true rfl⟩ hl.1 rfl (Nat.le_of_ble_eq_true rfl) dL_law_773 ⟨Nat.le_of_ble_eq_true rfl, Nat.le_of_ble_eq_true rfl⟩ [0, 21, 22, 32, 38] [78, 98] rfl rfl (by decide) rfl rfl (fun r_5265 u_5265 Hp1 lc1 w_5265 hw1 => ?_)
    clear h
    obtain rfl : r_5265 = 0 := w_5265
    clear w_5265
    replace hw1 : qW D _ _ [(y0, .inr (12, [.int 0, .ref (u_1.1 19), .ref (u_1.1 0), .ref (u_1.1 1), .ref (u_1.1 2), .int 0, .int 0, .int 0, .int 0, .int 0, .int 0, .int 0, .int 0, .int 0, .int (-1), .int 0, .ref (u_1.1 3), .ref (u_1.1 4), .ref (u_1.1 5), .ref (u_1.1 6), .ref (u_1.1 7), .int 0, .int 0, .ref (u_1.1 8), .ref (u_1.1 9), .ref (u_1.1 10), .int 0, .int 0, .ref (u_1.1 11), .ref (u_1.1 12), .ref (u_1.1 13), .ref (u_1.1 14), .ref (u_1.1 15), .int 0, .ref (u_1.1 16), .ref (u_1.1 17), .ref (u_1.1 18)])), ((u_1.1 19), .inl (cy 1, 3918, .inl (upd (fun _ => 0) (Int32.toNatClampNeg 1) 1)))] _ _ := hw1
    refine lv_aload_n hx hb dL_law_776 rfl (lv_at hl 1 rfl) ?_
    refine lv_aload_n hx hb dL_law_777 rfl (lv_at hl 3 rfl) ?_
    refine lv_iload_n hx hb dL_law_778 rfl (lv_at hl 0 rfl) ?_
    refine lv_iconst (v := 1) hx hb dL_law_779 (by decide) ?_
    refine lv_iadd hx hb dL_law_780 ?_
    refine q_c 1 (by decide +kernel) ?_
    refine va_sld X.1 X.2.1 hX hbl hbA hw1.2.2 (q_in (by decide +kernel)) dL_law_781 ?_
    refine q_c 0 e1 ?_
    refine q_callVi (rest := [.int 0]) (wr := []) X hK hA hw1 (fun sz => kX12_pieces_373 l D cy y0 (u_1.1 19) (u_1.1 0) (u_1.1 1) (u_1.1 2) (u_1.1 3) (u_1.1 4) (u_1.1 5) (u_1.1 6) (u_1.1 7) (u_1.1 8) (u_1.1 9) (u_1.1 10) (u_1.1 11) (u_1.1 12) (u_1.1 13) (u_1.1 14) (u_1.1 15) (u_1.1 16) (u_1.1 17) (u_1.1 18) (upd (fun _ => 0) (Int32.toNatClampNeg 1) 1) (q_un (by decide +kernel) rfl) (q_un (by decide +kernel) rfl) sz) wm_7_132 wm_7_135 wm_1_12 hd_X12_pieces wm_7_133 wm_7_134 (ci := 12) (q0 := 0) rfl rfl ⟨Nat.le_of_ble_eq_true rfl, Nat.le_of_ble_eq_true rfl⟩ hl.1 rfl (Nat.le_of_ble_eq_true rfl) dL_law_782 ⟨Nat.le_of_ble_eq_true rfl, Nat.le_of_ble_eq_true rfl⟩ [0, 1] [] rfl rfl (by decide) rfl rfl (fun r_5270 u_5270 Hp2 lc2 w_5270 hw2 => ?_)
    clear Hp1 lc1 hw1
    obtain rfl : r_5270 = 0 := w_5270
    clear w_5270
    replace hw2 : qW D _ _ [] _ _ := hw2
    refine lv_icmp_eq (tgt := 1461) hx hb dL_law_785 (by decide) (fun _ => ?_) (fun c => absurd c (by decide +kernel))
    exact law_tail l X hr hlk hX hbl hw2.2.2 hl (Nat.le_of_ble_eq_true rfl) (Nat.le_of_ble_eq_true rfl)
  refine lv_aload_n hx hb dL_law_767 rfl (lv_at hl 2 rfl) ?_
  refine lv_aload_n hx hb dL_law_768 rfl (lv_at hl 3 rfl) ?_
  refine lv_iload_n hx hb dL_law_769 rfl (lv_at hl 0 rfl) ?_
  refine lv_iconst (v := 1) hx hb dL_law_770 (by decide) ?_
  refine lv_iadd hx hb dL_law_771 ?_
  refine q_c 1 (by decide +kernel) ?_
  refine va_sld X.1 X.2.1 hX hbl hbA hw2.2.2 (q_in (by decide +kernel)) dL_law_772 ?_
  refine q_c a1 e1 ?_
  have g_5300 : ¬ a1 = (0 : Int32) := by
    simp only [Int32.lt_iff_toInt_lt, Int32.le_iff_toInt_le, ← Int32.toInt_inj] at c_5228 ⊢
    have k_0 : (0 : Int32).toInt = 0 := by decide
    omega
  refine q_callVi (rest := []) (wr := [(y0, .inr (12, [.int 0, .ref (u_1.1 19), .ref (u_1.1 0), .ref (u_1.1 1), .ref (u_1.1 2), .int 0, .int 0, .int 0, .int 0, .int 0, .int 0, .int 0, .int 0, .int 0, .int (-1), .int 0, .ref (u_1.1 3), .ref (u_1.1 4), .ref (u_1.1 5), .ref (u_1.1 6), .ref (u_1.1 7), .int 0, .int 0, .ref (u_1.1 8), .ref (u_1.1 9), .ref (u_1.1 10), .int 0, .int 0, .ref (u_1.1 11), .ref (u_1.1 12), .ref (u_1.1 13), .ref (u_1.1 14), .ref (u_1.1 15), .int 0, .ref (u_1.1 16), .ref (u_1.1 17), .ref (u_1.1 18)])), ((u_1.1 19), .inl (cy 1, 3918, .inl (upd (fun _ => 0) (Int32.toNatClampNeg 1) 1)))]) X hK hA hw2 (fun sz => kX11_pieces_374 l D cy x0 (u_0.1 31) (u_0.1 37) a1 (u_0.1 0) (u_0.1 1) (u_0.1 39) (u_0.1 41) (u_0.1 43) (u_0.1 14) (u_0.1 15) (u_0.1 16) (u_0.1 17) (u_0.1 20) (u_0.1 24) (u_0.1 29) (u_0.1 32) (u_0.1 33) (u_0.1 34) (u_0.1 35) (u_0.1 36) (u_0.1 38) g_5300 sz) wm_4_203 wm_4_206 wm_1_1 hd_X11_pieces wm_4_204 wm_4_205 (ci := 11) (q0 := 0) rfl rfl ⟨Nat.le_of_ble_eq_true rfl, Nat.le_of_ble_eq_true rfl⟩ hl.1 rfl (Nat.le_of_ble_eq_true rfl) dL_law_773 ⟨Nat.le_of_ble_eq_true rfl, Nat.le_of_ble_eq_true rfl⟩ [0, 32, 38] [78, 98] rfl rfl (by decide) rfl rfl (fun r_5301 u_5301 Hp3 lc3 w_5301 hw3 => ?_)
  clear Hp2 lc2 hw2
  obtain rfl : r_5301 = (-3) := w_5301
  clear w_5301
  replace hw3 : qW D _ _ [(y0, .inr (12, [.int 0, .ref (u_1.1 19), .ref (u_1.1 0), .ref (u_1.1 1), .ref (u_1.1 2), .int 0, .int 0, .int 0, .int 0, .int 0, .int 0, .int 0, .int 0, .int 0, .int (-1), .int 0, .ref (u_1.1 3), .ref (u_1.1 4), .ref (u_1.1 5), .ref (u_1.1 6), .ref (u_1.1 7), .int 0, .int 0, .ref (u_1.1 8), .ref (u_1.1 9), .ref (u_1.1 10), .int 0, .int 0, .ref (u_1.1 11), .ref (u_1.1 12), .ref (u_1.1 13), .ref (u_1.1 14), .ref (u_1.1 15), .int 0, .ref (u_1.1 16), .ref (u_1.1 17), .ref (u_1.1 18)])), ((u_1.1 19), .inl (cy 1, 3918, .inl (upd (fun _ => 0) (Int32.toNatClampNeg 1) 1)))] _ _ := hw3
  refine lv_aload_n hx hb dL_law_776 rfl (lv_at hl 1 rfl) ?_
  refine lv_aload_n hx hb dL_law_777 rfl (lv_at hl 3 rfl) ?_
  refine lv_iload_n hx hb dL_law_778 rfl (lv_at hl 0 rfl) ?_
  refine lv_iconst (v := 1) hx hb dL_law_779 (by decide) ?_
  refine lv_iadd hx hb dL_law_780 ?_
  refine q_c 1 (by decide +kernel) ?_
  refine va_sld X.1 X.2.1 hX hbl hbA hw3.2.2 (q_in (by decide +kernel)) dL_law_781 ?_
  refine q_c a1 e1 ?_
  have g_5306 : ¬ a1 = (0 : Int32) := by
    simp only [Int32.lt_iff_toInt_lt, Int32.le_iff_toInt_le, ← Int32.toInt_inj] at c_5228 ⊢
    have k_0 : (0 : Int32).toInt = 0 := by decide
    omega
  refine q_callVi (rest := [.int (-3)]) (wr := []) X hK hA hw3 (fun sz => kX12_pieces_375 l D cy y0 (u_1.1 19) a1 (u_1.1 0) (u_1.1 1) (u_1.1 2) (u_1.1 3) (u_1.1 4) (u_1.1 5) (u_1.1 6) (u_1.1 7) (u_1.1 8) (u_1.1 9) (u_1.1 10) (u_1.1 11) (u_1.1 12) (u_1.1 13) (u_1.1 14) (u_1.1 15) (u_1.1 16) (u_1.1 17) (u_1.1 18) (upd (fun _ => 0) (Int32.toNatClampNeg 1) 1) g_5306 (q_un (by decide +kernel) rfl) sz) wm_7_132 wm_7_135 wm_1_12 hd_X12_pieces wm_7_133 wm_7_134 (ci := 12) (q0 := 0) rfl rfl ⟨Nat.le_of_ble_eq_true rfl, Nat.le_of_ble_eq_true rfl⟩ hl.1 rfl (Nat.le_of_ble_eq_true rfl) dL_law_782 ⟨Nat.le_of_ble_eq_true rfl, Nat.le_of_ble_eq_true rfl⟩ [0, 1] [] rfl rfl (by decide) rfl rfl (fun r_5307 u_5307 Hp4 lc4 w_5307 hw4 => ?_)
  clear Hp3 lc3 hw3
  obtain rfl : r_5307 = (-3) := w_5307
  clear w_5307
  replace hw4 : qW D _ _ [] _ _ := hw4
  refine lv_icmp_eq (tgt := 1461) hx hb dL_law_785 (by decide) (fun _ => ?_) (fun c => absurd c (by decide +kernel))
  exact law_tail l X hr hlk hX hbl hw4.2.2 hl (Nat.le_of_ble_eq_true rfl) (Nat.le_of_ble_eq_true rfl)
set_option maxHeartbeats 4000000 in
set_option maxRecDepth 100000 in
theorem lc_bestDay (l : Launch) {p : Program} {e : Env} {s : State} {m : MethodId} {below : List Frame} {meth : Method} {c : Code} {b : Nat} {xs : Nat → Int32} {D : va_G} {cy : Nat → ClassId} {H : Heap} {locs : List Loc} {ls : Array Slot} {x0 y0 : Nat} {u_0 u_1 : SS} (X : qX p s m #[Value.ref b] c cL_law 4 RL) (hr : meth.sig.returnType = ret) (hlk : meth.locks = false) (hX : va_X b 6 xs s s.heap) (hbl : b < s.heap.size) (hK : qK D cy s) (a1 a2 a3 a4 a5 : Int32) (e1 : xs (Int32.toNatClampNeg 1) = a1) (e2 : xs (Int32.toNatClampNeg 2) = a2) (e3 : xs (Int32.toNatClampNeg 3) = a3) (e4 : xs (Int32.toNatClampNeg 4) = a4) (e5 : xs (Int32.toNatClampNeg 5) = a5) (h : qW D (fun q => s.heap.size ≤ q) s.heap (wLaw cy x0 y0 u_0 u_1) H locs) (hl : lv_has ls 4 [(3, .int 0), (2, .ref y0), (1, .ref x0), (0, .ref b)]) : W p l e room_1 s m #[Value.ref b] below meth c H locs 99 25544 (lw_Z below #[Value.ref b] s) (F0 m 790 ls []) := by
  obtain ⟨hx, hb, hml, hown, ht⟩ := id X
  have hA : ∀ q : Nat, s.heap.size ≤ q → (fun q : Nat => s.heap.size ≤ q) q := fun _ h => h
  have hbA : ¬ (fun q : Nat => s.heap.size ≤ q) b := Nat.not_le.mpr hbl
  refine lv_aload_n hx hb dL_law_790 rfl (lv_at hl 2 rfl) ?_
  refine q_callVi (rest := []) (wr := [(y0, .inr (12, [.int 0, .ref (u_1.1 19), .ref (u_1.1 0), .ref (u_1.1 1), .ref (u_1.1 2), .int 0, .int 0, .int 0, .int 0, .int 0, .int 0, .int 0, .int 0, .int 0, .int (-1), .int 0, .ref (u_1.1 3), .ref (u_1.1 4), .ref (u_1.1 5), .ref (u_1.1 6), .ref (u_1.1 7), .int 0, .int 0, .ref (u_1.1 8), .ref (u_1.1 9), .ref (u_1.1 10), .int 0, .int 0, .ref (u_1.1 11), .ref (u_1.1 12), .ref (u_1.1 13), .ref (u_1.1 14), .ref (u_1.1 15), .int 0, .ref (u_1.1 16), .ref (u_1.1 17), .ref (u_1.1 18)])), ((u_1.1 9), .inl (cy 1, 10, .inl (fun _ => 0))), ((u_1.1 10), .inl (cy 1, 10, .inl (fun _ => 0))), ((u_1.1 19), .inl (cy 1, 3918, .inl (upd (fun _ => 0) (Int32.toNatClampNeg 1) 1)))]) X hK hA h (fun sz => kX11_bestDay_377 l D cy x0 (u_0.1 20) (u_0.1 21) (u_0.1 23) (u_0.1 31) (u_0.1 37) (u_0.1 0) (u_0.1 1) (u_0.1 39) (u_0.1 41) (u_0.1 43) (u_0.1 14) (u_0.1 15) (u_0.1 16) (u_0.1 17) (u_0.1 24) (u_0.1 29) (u_0.1 22) (u_0.1 32) (u_0.1 33) (u_0.1 34) (u_0.1 35) (u_0.1 36) (u_0.1 38)  sz) wm_4_208 wm_4_211 wm_1_1 hd_X11_bestDay wm_4_209 wm_4_210 (ci := 11) (q0 := 0) rfl rfl ⟨Nat.le_of_ble_eq_true rfl, Nat.le_of_ble_eq_true rfl⟩ hl.1 rfl (Nat.le_of_ble_eq_true rfl) dL_law_791 ⟨Nat.le_of_ble_eq_true rfl, Nat.le_of_ble_eq_true rfl⟩ [0, 21, 22, 24, 32, 38] [78, 88, 89, 98] rfl rfl (by decide) rfl rfl (fun r_7396 u_7396 Hp1 lc1 w_7396 hw1 => ?_)
  clear h
  obtain rfl : r_7396 = 0 := w_7396
  clear w_7396
  replace hw1 : qW D _ _ [(y0, .inr (12, [.int 0, .ref (u_1.1 19), .ref (u_1.1 0), .ref (u_1.1 1), .ref (u_1.1 2), .int 0, .int 0, .int 0, .int 0, .int 0, .int 0, .int 0, .int 0, .int 0, .int (-1), .int 0, .ref (u_1.1 3), .ref (u_1.1 4), .ref (u_1.1 5), .ref (u_1.1 6), .ref (u_1.1 7), .int 0, .int 0, .ref (u_1.1 8), .ref (u_1.1 9), .ref (u_1.1 10), .int 0, .int 0, .ref (u_1.1 11), .ref (u_1.1 12), .ref (u_1.1 13), .ref (u_1.1 14), .ref (u_1.1 15), .int 0, .ref (u_1.1 16), .ref (u_1.1 17), .ref (u_1.1 18)])), ((u_1.1 9), .inl (cy 1, 10, .inl (fun _ => 0))), ((u_1.1 10), .inl (cy 1, 10, .inl (fun _ => 0))), ((u_1.1 19), .inl (cy 1, 3918, .inl (upd (fun _ => 0) (Int32.toNatClampNeg 1) 1)))] _ _ := hw1
  refine lv_aload_n hx hb dL_law_794 rfl (lv_at hl 1 rfl) ?_
  refine q_callVi (rest := [.int 0]) (wr := []) X hK hA hw1 (fun sz => kX12_bestDay_384 l D cy y0 (u_1.1 9) (u_1.1 10) (u_1.1 19) (u_1.1 0) (u_1.1 1) (u_1.1 2) (u_1.1 3) (u_1.1 4) (u_1.1 5) (u_1.1 6) (u_1.1 7) (u_1.1 8) (u_1.1 11) (u_1.1 12) (u_1.1 13) (u_1.1 14) (u_1.1 15) (u_1.1 16) (u_1.1 17) (u_1.1 18) (upd (fun _ => 0) (Int32.toNatClampNeg 1) 1) (q_un (by decide +kernel) rfl) (q_un (by decide +kernel) rfl) (q_un (by decide +kernel) rfl) sz) wm_7_136 wm_7_139 wm_1_12 hd_X12_bestDay wm_7_137 wm_7_138 (ci := 12) (q0 := 0) rfl rfl ⟨Nat.le_of_ble_eq_true rfl, Nat.le_of_ble_eq_true rfl⟩ hl.1 rfl (Nat.le_of_ble_eq_true rfl) dL_law_795 ⟨Nat.le_of_ble_eq_true rfl, Nat.le_of_ble_eq_true rfl⟩ [0, 1, 2, 3] [] rfl rfl (by decide) rfl rfl (fun r_7797 u_7797 Hp2 lc2 w_7797 hw2 => ?_)
  clear Hp1 lc1 hw1
  obtain rfl : r_7797 = 0 := w_7797
  clear w_7797
  replace hw2 : qW D _ _ [] _ _ := hw2
  refine lv_icmp_eq (tgt := 1461) hx hb dL_law_798 (by decide) (fun _ => ?_) (fun c => absurd c (by decide +kernel))
  exact law_tail l X hr hlk hX hbl hw2.2.2 hl (Nat.le_of_ble_eq_true rfl) (Nat.le_of_ble_eq_true rfl)
set_option maxHeartbeats 4000000 in
set_option maxRecDepth 100000 in
theorem lc_firstDay (l : Launch) {p : Program} {e : Env} {s : State} {m : MethodId} {below : List Frame} {meth : Method} {c : Code} {b : Nat} {xs : Nat → Int32} {D : va_G} {cy : Nat → ClassId} {H : Heap} {locs : List Loc} {ls : Array Slot} {x0 y0 : Nat} {u_0 u_1 : SS} (X : qX p s m #[Value.ref b] c cL_law 4 RL) (hr : meth.sig.returnType = ret) (hlk : meth.locks = false) (hX : va_X b 6 xs s s.heap) (hbl : b < s.heap.size) (hK : qK D cy s) (a1 a2 a3 a4 a5 : Int32) (e1 : xs (Int32.toNatClampNeg 1) = a1) (e2 : xs (Int32.toNatClampNeg 2) = a2) (e3 : xs (Int32.toNatClampNeg 3) = a3) (e4 : xs (Int32.toNatClampNeg 4) = a4) (e5 : xs (Int32.toNatClampNeg 5) = a5) (h : qW D (fun q => s.heap.size ≤ q) s.heap (wLaw cy x0 y0 u_0 u_1) H locs) (hl : lv_has ls 4 [(3, .int 0), (2, .ref y0), (1, .ref x0), (0, .ref b)]) : W p l e room_1 s m #[Value.ref b] below meth c H locs 99 25544 (lw_Z below #[Value.ref b] s) (F0 m 803 ls []) := by
  obtain ⟨hx, hb, hml, hown, ht⟩ := id X
  have hA : ∀ q : Nat, s.heap.size ≤ q → (fun q : Nat => s.heap.size ≤ q) q := fun _ h => h
  have hbA : ¬ (fun q : Nat => s.heap.size ≤ q) b := Nat.not_le.mpr hbl
  refine lv_aload_n hx hb dL_law_803 rfl (lv_at hl 2 rfl) ?_
  refine q_callVi (rest := []) (wr := [(y0, .inr (12, [.int 0, .ref (u_1.1 19), .ref (u_1.1 0), .ref (u_1.1 1), .ref (u_1.1 2), .int 0, .int 0, .int 0, .int 0, .int 0, .int 0, .int 0, .int 0, .int 0, .int (-1), .int 0, .ref (u_1.1 3), .ref (u_1.1 4), .ref (u_1.1 5), .ref (u_1.1 6), .ref (u_1.1 7), .int 0, .int 0, .ref (u_1.1 8), .ref (u_1.1 9), .ref (u_1.1 10), .int 0, .int 0, .ref (u_1.1 11), .ref (u_1.1 12), .ref (u_1.1 13), .ref (u_1.1 14), .ref (u_1.1 15), .int 0, .ref (u_1.1 16), .ref (u_1.1 17), .ref (u_1.1 18)])), ((u_1.1 19), .inl (cy 1, 3918, .inl (upd (fun _ => 0) (Int32.toNatClampNeg 1) 1)))]) X hK hA h (fun sz => kX11_firstDay_385 l D cy x0 (u_0.1 20) (u_0.1 21) (u_0.1 31) (u_0.1 37) (u_0.1 0) (u_0.1 1) (u_0.1 39) (u_0.1 41) (u_0.1 43) (u_0.1 14) (u_0.1 15) (u_0.1 16) (u_0.1 17) (u_0.1 24) (u_0.1 29) (u_0.1 22) (u_0.1 23) (u_0.1 32) (u_0.1 33) (u_0.1 34) (u_0.1 35) (u_0.1 36) (u_0.1 38)  sz) wm_4_212 wm_4_215 wm_1_1 hd_X11_firstDay wm_4_213 wm_4_214 (ci := 11) (q0 := 0) rfl rfl ⟨Nat.le_of_ble_eq_true rfl, Nat.le_of_ble_eq_true rfl⟩ hl.1 rfl (Nat.le_of_ble_eq_true rfl) dL_law_804 ⟨Nat.le_of_ble_eq_true rfl, Nat.le_of_ble_eq_true rfl⟩ [0, 21, 22, 32, 38] [78, 98] rfl rfl (by decide) rfl rfl (fun r_8854 u_8854 Hp1 lc1 w_8854 hw1 => ?_)
  clear h
  obtain rfl : r_8854 = (-1) := w_8854
  clear w_8854
  replace hw1 : qW D _ _ [(y0, .inr (12, [.int 0, .ref (u_1.1 19), .ref (u_1.1 0), .ref (u_1.1 1), .ref (u_1.1 2), .int 0, .int 0, .int 0, .int 0, .int 0, .int 0, .int 0, .int 0, .int 0, .int (-1), .int 0, .ref (u_1.1 3), .ref (u_1.1 4), .ref (u_1.1 5), .ref (u_1.1 6), .ref (u_1.1 7), .int 0, .int 0, .ref (u_1.1 8), .ref (u_1.1 9), .ref (u_1.1 10), .int 0, .int 0, .ref (u_1.1 11), .ref (u_1.1 12), .ref (u_1.1 13), .ref (u_1.1 14), .ref (u_1.1 15), .int 0, .ref (u_1.1 16), .ref (u_1.1 17), .ref (u_1.1 18)])), ((u_1.1 19), .inl (cy 1, 3918, .inl (upd (fun _ => 0) (Int32.toNatClampNeg 1) 1)))] _ _ := hw1
  refine lv_aload_n hx hb dL_law_807 rfl (lv_at hl 1 rfl) ?_
  refine q_callVi (rest := [.int (-1)]) (wr := []) X hK hA hw1 (fun sz => kX12_firstDay_386 l D cy y0 (u_1.1 19) (u_1.1 0) (u_1.1 1) (u_1.1 2) (u_1.1 3) (u_1.1 4) (u_1.1 5) (u_1.1 6) (u_1.1 7) (u_1.1 8) (u_1.1 9) (u_1.1 10) (u_1.1 11) (u_1.1 12) (u_1.1 13) (u_1.1 14) (u_1.1 15) (u_1.1 16) (u_1.1 17) (u_1.1 18) (upd (fun _ => 0) (Int32.toNatClampNeg 1) 1) (q_un (by decide +kernel) rfl) (q_un (by decide +kernel) rfl) (q_un (by decide +kernel) rfl) sz) wm_7_140 wm_7_143 wm_1_12 hd_X12_firstDay wm_7_141 wm_7_142 (ci := 12) (q0 := 0) rfl rfl ⟨Nat.le_of_ble_eq_true rfl, Nat.le_of_ble_eq_true rfl⟩ hl.1 rfl (Nat.le_of_ble_eq_true rfl) dL_law_808 ⟨Nat.le_of_ble_eq_true rfl, Nat.le_of_ble_eq_true rfl⟩ [0, 1] [] rfl rfl (by decide) rfl rfl (fun r_9055 u_9055 Hp2 lc2 w_9055 hw2 => ?_)
  clear Hp1 lc1 hw1
  obtain rfl : r_9055 = (-1) := w_9055
  clear w_9055
  replace hw2 : qW D _ _ [] _ _ := hw2
  refine lv_icmp_eq (tgt := 1461) hx hb dL_law_811 (by decide) (fun _ => ?_) (fun c => absurd c (by decide +kernel))
  exact law_tail l X hr hlk hX hbl hw2.2.2 hl (Nat.le_of_ble_eq_true rfl) (Nat.le_of_ble_eq_true rfl)
set_option maxHeartbeats 4000000 in
set_option maxRecDepth 100000 in
theorem lc_quorum (l : Launch) {p : Program} {e : Env} {s : State} {m : MethodId} {below : List Frame} {meth : Method} {c : Code} {b : Nat} {xs : Nat → Int32} {D : va_G} {cy : Nat → ClassId} {H : Heap} {locs : List Loc} {ls : Array Slot} {x0 y0 : Nat} {u_0 u_1 : SS} (X : qX p s m #[Value.ref b] c cL_law 4 RL) (hr : meth.sig.returnType = ret) (hlk : meth.locks = false) (hX : va_X b 6 xs s s.heap) (hbl : b < s.heap.size) (hK : qK D cy s) (a1 a2 a3 a4 a5 : Int32) (e1 : xs (Int32.toNatClampNeg 1) = a1) (e2 : xs (Int32.toNatClampNeg 2) = a2) (e3 : xs (Int32.toNatClampNeg 3) = a3) (e4 : xs (Int32.toNatClampNeg 4) = a4) (e5 : xs (Int32.toNatClampNeg 5) = a5) (h : qW D (fun q => s.heap.size ≤ q) s.heap (wLaw cy x0 y0 u_0 u_1) H locs) (hl : lv_has ls 4 [(3, .int 0), (2, .ref y0), (1, .ref x0), (0, .ref b)]) : W p l e room_1 s m #[Value.ref b] below meth c H locs 99 25544 (lw_Z below #[Value.ref b] s) (F0 m 816 ls []) := by
  obtain ⟨hx, hb, hml, hown, ht⟩ := id X
  have hA : ∀ q : Nat, s.heap.size ≤ q → (fun q : Nat => s.heap.size ≤ q) q := fun _ h => h
  have hbA : ¬ (fun q : Nat => s.heap.size ≤ q) b := Nat.not_le.mpr hbl
  refine lv_aload_n hx hb dL_law_816 rfl (lv_at hl 2 rfl) ?_
  refine q_callVi (rest := []) (wr := [(y0, .inr (12, [.int 0, .ref (u_1.1 19), .ref (u_1.1 0), .ref (u_1.1 1), .ref (u_1.1 2), .int 0, .int 0, .int 0, .int 0, .int 0, .int 0, .int 0, .int 0, .int 0, .int (-1), .int 0, .ref (u_1.1 3), .ref (u_1.1 4), .ref (u_1.1 5), .ref (u_1.1 6), .ref (u_1.1 7), .int 0, .int 0, .ref (u_1.1 8), .ref (u_1.1 9), .ref (u_1.1 10), .int 0, .int 0, .ref (u_1.1 11), .ref (u_1.1 12), .ref (u_1.1 13), .ref (u_1.1 14), .ref (u_1.1 15), .int 0, .ref (u_1.1 16), .ref (u_1.1 17), .ref (u_1.1 18)])), ((u_1.1 8), .inl (cy 1, 1024, .inl (fun _ => 0))), ((u_1.1 19), .inl (cy 1, 3918, .inl (upd (fun _ => 0) (Int32.toNatClampNeg 1) 1)))]) X hK hA h (fun sz => kX11_quorum_389 l D cy x0 (u_0.1 20) (u_0.1 21) (u_0.1 22) (u_0.1 31) (u_0.1 37) (u_0.1 0) (u_0.1 1) (u_0.1 39) (u_0.1 41) (u_0.1 43) (u_0.1 14) (u_0.1 15) (u_0.1 16) (u_0.1 17) (u_0.1 24) (u_0.1 29) (u_0.1 23) (u_0.1 32) (u_0.1 33) (u_0.1 34) (u_0.1 35) (u_0.1 36) (u_0.1 38)  sz) wm_4_216 wm_4_219 wm_1_1 hd_X11_quorum wm_4_217 wm_4_218 (ci := 11) (q0 := 0) rfl rfl ⟨Nat.le_of_ble_eq_true rfl, Nat.le_of_ble_eq_true rfl⟩ hl.1 rfl (Nat.le_of_ble_eq_true rfl) dL_law_817 ⟨Nat.le_of_ble_eq_true rfl, Nat.le_of_ble_eq_true rfl⟩ [0, 21, 22, 23, 32, 38] [78, 87, 98] rfl rfl (by decide) rfl rfl (fun r_9119 u_9119 Hp1 lc1 w_9119 hw1 => ?_)
  clear h
  obtain rfl : r_9119 = 0 := w_9119
  clear w_9119
  replace hw1 : qW D _ _ [(y0, .inr (12, [.int 0, .ref (u_1.1 19), .ref (u_1.1 0), .ref (u_1.1 1), .ref (u_1.1 2), .int 0, .int 0, .int 0, .int 0, .int 0, .int 0, .int 0, .int 0, .int 0, .int (-1), .int 0, .ref (u_1.1 3), .ref (u_1.1 4), .ref (u_1.1 5), .ref (u_1.1 6), .ref (u_1.1 7), .int 0, .int 0, .ref (u_1.1 8), .ref (u_1.1 9), .ref (u_1.1 10), .int 0, .int 0, .ref (u_1.1 11), .ref (u_1.1 12), .ref (u_1.1 13), .ref (u_1.1 14), .ref (u_1.1 15), .int 0, .ref (u_1.1 16), .ref (u_1.1 17), .ref (u_1.1 18)])), ((u_1.1 8), .inl (cy 1, 1024, .inl (fun _ => 0))), ((u_1.1 19), .inl (cy 1, 3918, .inl (upd (fun _ => 0) (Int32.toNatClampNeg 1) 1)))] _ _ := hw1
  refine lv_aload_n hx hb dL_law_820 rfl (lv_at hl 1 rfl) ?_
  refine q_callVi (rest := [.int 0]) (wr := []) X hK hA hw1 (fun sz => kX12_quorum_394 l D cy y0 (u_1.1 8) (u_1.1 19) (u_1.1 0) (u_1.1 1) (u_1.1 2) (u_1.1 3) (u_1.1 4) (u_1.1 5) (u_1.1 6) (u_1.1 7) (u_1.1 9) (u_1.1 10) (u_1.1 11) (u_1.1 12) (u_1.1 13) (u_1.1 14) (u_1.1 15) (u_1.1 16) (u_1.1 17) (u_1.1 18) (upd (fun _ => 0) (Int32.toNatClampNeg 1) 1) (q_un (by decide +kernel) rfl) (q_un (by decide +kernel) rfl) (q_un (by decide +kernel) rfl) sz) wm_7_144 wm_7_147 wm_1_12 hd_X12_quorum wm_7_145 wm_7_146 (ci := 12) (q0 := 0) rfl rfl ⟨Nat.le_of_ble_eq_true rfl, Nat.le_of_ble_eq_true rfl⟩ hl.1 rfl (Nat.le_of_ble_eq_true rfl) dL_law_821 ⟨Nat.le_of_ble_eq_true rfl, Nat.le_of_ble_eq_true rfl⟩ [0, 1, 2] [] rfl rfl (by decide) rfl rfl (fun r_9127 u_9127 Hp2 lc2 w_9127 hw2 => ?_)
  clear Hp1 lc1 hw1
  obtain rfl : r_9127 = 0 := w_9127
  clear w_9127
  replace hw2 : qW D _ _ [] _ _ := hw2
  refine lv_icmp_eq (tgt := 1461) hx hb dL_law_824 (by decide) (fun _ => ?_) (fun c => absurd c (by decide +kernel))
  exact law_tail l X hr hlk hX hbl hw2.2.2 hl (Nat.le_of_ble_eq_true rfl) (Nat.le_of_ble_eq_true rfl)
set_option maxHeartbeats 4000000 in
set_option maxRecDepth 100000 in
theorem lc_cover (l : Launch) {p : Program} {e : Env} {s : State} {m : MethodId} {below : List Frame} {meth : Method} {c : Code} {b : Nat} {xs : Nat → Int32} {D : va_G} {cy : Nat → ClassId} {H : Heap} {locs : List Loc} {ls : Array Slot} {x0 y0 : Nat} {u_0 u_1 : SS} (X : qX p s m #[Value.ref b] c cL_law 4 RL) (hr : meth.sig.returnType = ret) (hlk : meth.locks = false) (hX : va_X b 6 xs s s.heap) (hbl : b < s.heap.size) (hK : qK D cy s) (a1 a2 a3 a4 a5 : Int32) (e1 : xs (Int32.toNatClampNeg 1) = a1) (e2 : xs (Int32.toNatClampNeg 2) = a2) (e3 : xs (Int32.toNatClampNeg 3) = a3) (e4 : xs (Int32.toNatClampNeg 4) = a4) (e5 : xs (Int32.toNatClampNeg 5) = a5) (h : qW D (fun q => s.heap.size ≤ q) s.heap (wLaw cy x0 y0 u_0 u_1) H locs) (hl : lv_has ls 4 [(3, .int 0), (2, .ref y0), (1, .ref x0), (0, .ref b)]) : W p l e room_1 s m #[Value.ref b] below meth c H locs 99 25544 (lw_Z below #[Value.ref b] s) (F0 m 829 ls []) := by
  obtain ⟨hx, hb, hml, hown, ht⟩ := id X
  have hA : ∀ q : Nat, s.heap.size ≤ q → (fun q : Nat => s.heap.size ≤ q) q := fun _ h => h
  have hbA : ¬ (fun q : Nat => s.heap.size ≤ q) b := Nat.not_le.mpr hbl
  by_cases c_9133 : a2 ≤ (-1)
  · skip
    refine lv_aload_n hx hb dL_law_829 rfl (lv_at hl 2 rfl) ?_
    refine lv_aload_n hx hb dL_law_830 rfl (lv_at hl 3 rfl) ?_
    refine lv_iload_n hx hb dL_law_831 rfl (lv_at hl 0 rfl) ?_
    refine lv_iconst (v := 1) hx hb dL_law_832 (by decide) ?_
    refine lv_iadd hx hb dL_law_833 ?_
    refine q_c 1 (by decide +kernel) ?_
    refine va_sld X.1 X.2.1 hX hbl hbA h.2.2 (q_in (by decide +kernel)) dL_law_834 ?_
    refine q_c a1 e1 ?_
    refine lv_aload_n hx hb dL_law_835 rfl (lv_at hl 3 rfl) ?_
    refine lv_iload_n hx hb dL_law_836 rfl (lv_at hl 0 rfl) ?_
    refine lv_iconst (v := 2) hx hb dL_law_837 (by decide) ?_
    refine lv_iadd hx hb dL_law_838 ?_
    refine q_c 2 (by decide +kernel) ?_
    refine va_sld X.1 X.2.1 hX hbl hbA h.2.2 (q_in (by decide +kernel)) dL_law_839 ?_
    refine q_c a2 e2 ?_
    have g_9151 : a2 ≤ ((-1) : Int32) := by
      simp only [Int32.lt_iff_toInt_lt, Int32.le_iff_toInt_le, ← Int32.toInt_inj] at c_9133 ⊢
      have k_0 : ((-1) : Int32).toInt = -1 := by decide
      omega
    refine q_callVi (rest := []) (wr := [(y0, .inr (12, [.int 0, .ref (u_1.1 19), .ref (u_1.1 0), .ref (u_1.1 1), .ref (u_1.1 2), .int 0, .int 0, .int 0, .int 0, .int 0, .int 0, .int 0, .int 0, .int 0, .int (-1), .int 0, .ref (u_1.1 3), .ref (u_1.1 4), .ref (u_1.1 5), .ref (u_1.1 6), .ref (u_1.1 7), .int 0, .int 0, .ref (u_1.1 8), .ref (u_1.1 9), .ref (u_1.1 10), .int 0, .int 0, .ref (u_1.1 11), .ref (u_1.1 12), .ref (u_1.1 13), .ref (u_1.1 14), .ref (u_1.1 15), .int 0, .ref (u_1.1 16), .ref (u_1.1 17), .ref (u_1.1 18)]))]) X hK hA h (fun sz => kX11_cover_395 l D cy x0 a1 a2 (u_0.1 0) (u_0.1 1) (u_0.1 37) (u_0.1 39) (u_0.1 41) (u_0.1 43) (u_0.1 14) (u_0.1 15) (u_0.1 16) (u_0.1 17) (u_0.1 20) (u_0.1 24) (u_0.1 29) g_9151 sz) wm_4_220 wm_4_223 wm_1_1 hd_X11_cover wm_4_221 wm_4_222 (ci := 11) (q0 := 0) rfl rfl ⟨Nat.le_of_ble_eq_true rfl, Nat.le_of_ble_eq_true rfl⟩ hl.1 rfl (Nat.le_of_ble_eq_true rfl) dL_law_840 ⟨Nat.le_of_ble_eq_true rfl, Nat.le_of_ble_eq_true rfl⟩ [0] [78] rfl rfl (by decide) rfl rfl (fun r_9152 u_9152 Hp1 lc1 w_9152 hw1 => ?_)
    clear h
    obtain rfl : r_9152 = (-2) := w_9152
    clear w_9152
    replace hw1 : qW D _ _ [(y0, .inr (12, [.int 0, .ref (u_1.1 19), .ref (u_1.1 0), .ref (u_1.1 1), .ref (u_1.1 2), .int 0, .int 0, .int 0, .int 0, .int 0, .int 0, .int 0, .int 0, .int 0, .int (-1), .int 0, .ref (u_1.1 3), .ref (u_1.1 4), .ref (u_1.1 5), .ref (u_1.1 6), .ref (u_1.1 7), .int 0, .int 0, .ref (u_1.1 8), .ref (u_1.1 9), .ref (u_1.1 10), .int 0, .int 0, .ref (u_1.1 11), .ref (u_1.1 12), .ref (u_1.1 13), .ref (u_1.1 14), .ref (u_1.1 15), .int 0, .ref (u_1.1 16), .ref (u_1.1 17), .ref (u_1.1 18)]))] _ _ := hw1
    refine lv_aload_n hx hb dL_law_843 rfl (lv_at hl 1 rfl) ?_
    refine lv_aload_n hx hb dL_law_844 rfl (lv_at hl 3 rfl) ?_
    refine lv_iload_n hx hb dL_law_845 rfl (lv_at hl 0 rfl) ?_
    refine lv_iconst (v := 1) hx hb dL_law_846 (by decide) ?_
    refine lv_iadd hx hb dL_law_847 ?_
    refine q_c 1 (by decide +kernel) ?_
    refine va_sld X.1 X.2.1 hX hbl hbA hw1.2.2 (q_in (by decide +kernel)) dL_law_848 ?_
    refine q_c a1 e1 ?_
    refine lv_aload_n hx hb dL_law_849 rfl (lv_at hl 3 rfl) ?_
    refine lv_iload_n hx hb dL_law_850 rfl (lv_at hl 0 rfl) ?_
    refine lv_iconst (v := 2) hx hb dL_law_851 (by decide) ?_
    refine lv_iadd hx hb dL_law_852 ?_
    refine q_c 2 (by decide +kernel) ?_
    refine va_sld X.1 X.2.1 hX hbl hbA hw1.2.2 (q_in (by decide +kernel)) dL_law_853 ?_
    refine q_c a2 e2 ?_
    have g_9156 : a2 ≤ ((-1) : Int32) := by
      simp only [Int32.lt_iff_toInt_lt, Int32.le_iff_toInt_le, ← Int32.toInt_inj] at c_9133 ⊢
      have k_0 : ((-1) : Int32).toInt = -1 := by decide
      omega
    refine q_callVi (rest := [.int (-2)]) (wr := []) X hK hA hw1 (fun sz => kX12_cover_396 l D cy y0 a1 a2 (u_1.1 19) (u_1.1 0) (u_1.1 1) (u_1.1 2) (u_1.1 3) (u_1.1 4) (u_1.1 5) (u_1.1 6) (u_1.1 7) (u_1.1 8) (u_1.1 9) (u_1.1 10) (u_1.1 11) (u_1.1 12) (u_1.1 13) (u_1.1 14) (u_1.1 15) (u_1.1 16) (u_1.1 17) (u_1.1 18) g_9156 sz) wm_7_148 wm_7_151 wm_1_12 hd_X12_cover wm_7_149 wm_7_150 (ci := 12) (q0 := 0) rfl rfl ⟨Nat.le_of_ble_eq_true rfl, Nat.le_of_ble_eq_true rfl⟩ hl.1 rfl (Nat.le_of_ble_eq_true rfl) dL_law_854 ⟨Nat.le_of_ble_eq_true rfl, Nat.le_of_ble_eq_true rfl⟩ [0] [] rfl rfl (by decide) rfl rfl (fun r_9157 u_9157 Hp2 lc2 w_9157 hw2 => ?_)
    clear Hp1 lc1 hw1
    obtain rfl : r_9157 = (-2) := w_9157
    clear w_9157
    replace hw2 : qW D _ _ [] _ _ := hw2
    refine lv_icmp_eq (tgt := 1461) hx hb dL_law_857 (by decide) (fun _ => ?_) (fun c => absurd c (by decide +kernel))
    exact law_tail l X hr hlk hX hbl hw2.2.2 hl (Nat.le_of_ble_eq_true rfl) (Nat.le_of_ble_eq_true rfl)
  by_cases c_9158 : a2 = 0
  · subst c_9158
    by_cases c_9163 : a1 = 0
    · subst c_9163
      refine lv_aload_n hx hb dL_law_829 rfl (lv_at hl 2 rfl) ?_
      refine lv_aload_n hx hb dL_law_830 rfl (lv_at hl 3 rfl) ?_
      refine lv_iload_n hx hb dL_law_831 rfl (lv_at hl 0 rfl) ?_
      refine lv_iconst (v := 1) hx hb dL_law_832 (by decide) ?_
      refine lv_iadd hx hb dL_law_833 ?_
      refine q_c 1 (by decide +kernel) ?_
      refine va_sld X.1 X.2.1 hX hbl hbA hw2.2.2 (q_in (by decide +kernel)) dL_law_834 ?_
      refine q_c 0 e1 ?_
      refine lv_aload_n hx hb dL_law_835 rfl (lv_at hl 3 rfl) ?_
      refine lv_iload_n hx hb dL_law_836 rfl (lv_at hl 0 rfl) ?_
      refine lv_iconst (v := 2) hx hb dL_law_837 (by decide) ?_
      refine lv_iadd hx hb dL_law_838 ?_
      refine q_c 2 (by decide +kernel) ?_
      refine va_sld X.1 X.2.1 hX hbl hbA hw2.2.2 (q_in (by decide +kernel)) dL_law_839 ?_
      refine q_c 0 e2 ?_
      refine q_callVi (rest := []) (wr := [(y0, .inr (12, [.int 0, .ref (u_1.1 19), .ref (u_1.1 0), .ref (u_1.1 1), .ref (u_1.1 2), .int 0, .int 0, .int 0, .int 0, .int 0, .int 0, .int 0, .int 0, .int 0, .int (-1), .int 0, .ref (u_1.1 3), .ref (u_1.1 4), .ref (u_1.1 5), .ref (u_1.1 6), .ref (u_1.1 7), .int 0, .int 0, .ref (u_1.1 8), .ref (u_1.1 9), .ref (u_1.1 10), .int 0, .int 0, .ref (u_1.1 11), .ref (u_1.1 12), .ref (u_1.1 13), .ref (u_1.1 14), .ref (u_1.1 15), .int 0, .ref (u_1.1 16), .ref (u_1.1 17), .ref (u_1.1 18)])), ((u_1.1 19), .inl (cy 1, 3918, .inl (upd (fun _ => 0) (Int32.toNatClampNeg 1) 1)))]) X hK hA hw2 (fun sz => kX11_cover_400 l D cy x0 (u_0.1 20) (u_0.1 21) (u_0.1 31) (u_0.1 37) (u_0.1 0) (u_0.1 1) (u_0.1 39) (u_0.1 41) (u_0.1 43) (u_0.1 14) (u_0.1 15) (u_0.1 16) (u_0.1 17) (u_0.1 24) (u_0.1 29) (u_0.1 22) (u_0.1 23) (u_0.1 32) (u_0.1 33) (u_0.1 34) (u_0.1 35) (u_0.1 36) (u_0.1 38)  sz) wm_4_220 wm_4_223 wm_1_1 hd_X11_cover wm_4_221 wm_4_222 (ci := 11) (q0 := 0) rfl rfl ⟨Nat.le_of_ble_eq_true rfl, Nat.le_of_ble_eq_true rfl⟩ hl.1 rfl (Nat.le_of_ble_eq_true rfl) dL_law_840 ⟨Nat.le_of_ble_eq_true rfl, Nat.le_of_ble_eq_true rfl⟩ [0, 21, 22, 32, 38] [78, 98] rfl rfl (by decide) rfl rfl (fun r_9248 u_9248 Hp3 lc3 w_9248 hw3 => ?_)
      clear Hp2 lc2 hw2
      obtain rfl : r_9248 = 0 := w_9248
      clear w_9248
      replace hw3 : qW D _ _ [(y0, .inr (12, [.int 0, .ref (u_1.1 19), .ref (u_1.1 0), .ref (u_1.1 1), .ref (u_1.1 2), .int 0, .int 0, .int 0, .int 0, .int 0, .int 0, .int 0, .int 0, .int 0, .int (-1), .int 0, .ref (u_1.1 3), .ref (u_1.1 4), .ref (u_1.1 5), .ref (u_1.1 6), .ref (u_1.1 7), .int 0, .int 0, .ref (u_1.1 8), .ref (u_1.1 9), .ref (u_1.1 10), .int 0, .int 0, .ref (u_1.1 11), .ref (u_1.1 12), .ref (u_1.1 13), .ref (u_1.1 14), .ref (u_1.1 15), .int 0, .ref (u_1.1 16), .ref (u_1.1 17), .ref (u_1.1 18)])), ((u_1.1 19), .inl (cy 1, 3918, .inl (upd (fun _ => 0) (Int32.toNatClampNeg 1) 1)))] _ _ := hw3
      refine lv_aload_n hx hb dL_law_843 rfl (lv_at hl 1 rfl) ?_
      refine lv_aload_n hx hb dL_law_844 rfl (lv_at hl 3 rfl) ?_
      refine lv_iload_n hx hb dL_law_845 rfl (lv_at hl 0 rfl) ?_
      refine lv_iconst (v := 1) hx hb dL_law_846 (by decide) ?_
      refine lv_iadd hx hb dL_law_847 ?_
      refine q_c 1 (by decide +kernel) ?_
      refine va_sld X.1 X.2.1 hX hbl hbA hw3.2.2 (q_in (by decide +kernel)) dL_law_848 ?_
      refine q_c 0 e1 ?_
      refine lv_aload_n hx hb dL_law_849 rfl (lv_at hl 3 rfl) ?_
      refine lv_iload_n hx hb dL_law_850 rfl (lv_at hl 0 rfl) ?_
      refine lv_iconst (v := 2) hx hb dL_law_851 (by decide) ?_
      refine lv_iadd hx hb dL_law_852 ?_
      refine q_c 2 (by decide +kernel) ?_
      refine va_sld X.1 X.2.1 hX hbl hbA hw3.2.2 (q_in (by decide +kernel)) dL_law_853 ?_
      refine q_c 0 e2 ?_
      refine q_callVi (rest := [.int 0]) (wr := []) X hK hA hw3 (fun sz => kX12_cover_403 l D cy y0 (u_1.1 19) (u_1.1 0) (u_1.1 1) (u_1.1 2) (u_1.1 3) (u_1.1 4) (u_1.1 5) (u_1.1 6) (u_1.1 7) (u_1.1 8) (u_1.1 9) (u_1.1 10) (u_1.1 11) (u_1.1 12) (u_1.1 13) (u_1.1 14) (u_1.1 15) (u_1.1 16) (u_1.1 17) (u_1.1 18) (upd (fun _ => 0) (Int32.toNatClampNeg 1) 1) (q_un (by decide +kernel) rfl) (q_un (by decide +kernel) rfl) (q_un (by decide +kernel) rfl) sz) wm_7_148 wm_7_151 wm_1_12 hd_X12_cover wm_7_149 wm_7_150 (ci := 12) (q0 := 0) rfl rfl ⟨Nat.le_of_ble_eq_true rfl, Nat.le_of_ble_eq_true rfl⟩ hl.1 rfl (Nat.le_of_ble_eq_true rfl) dL_law_854 ⟨Nat.le_of_ble_eq_true rfl, Nat.le_of_ble_eq_true rfl⟩ [0, 1] [] rfl rfl (by decide) rfl rfl (fun r_9257 u_9257 Hp4 lc4 w_9257 hw4 => ?_)
      clear Hp3 lc3 hw3
      obtain rfl : r_9257 = 0 := w_9257
      clear w_9257
      replace hw4 : qW D _ _ [] _ _ := hw4
      refine lv_icmp_eq (tgt := 1461) hx hb dL_law_857 (by decide) (fun _ => ?_) (fun c => absurd c (by decide +kernel))
      exact law_tail l X hr hlk hX hbl hw4.2.2 hl (Nat.le_of_ble_eq_true rfl) (Nat.le_of_ble_eq_true rfl)
    refine lv_aload_n hx hb dL_law_829 rfl (lv_at hl 2 rfl) ?_
    refine lv_aload_n hx hb dL_law_830 rfl (lv_at hl 3 rfl) ?_
    refine lv_iload_n hx hb dL_law_831 rfl (lv_at hl 0 rfl) ?_
    refine lv_iconst (v := 1) hx hb dL_law_832 (by decide) ?_
    refine lv_iadd hx hb dL_law_833 ?_
    refine q_c 1 (by decide +kernel) ?_
    refine va_sld X.1 X.2.1 hX hbl hbA hw4.2.2 (q_in (by decide +kernel)) dL_law_834 ?_
    refine q_c a1 e1 ?_
    refine lv_aload_n hx hb dL_law_835 rfl (lv_at hl 3 rfl) ?_
    refine lv_iload_n hx hb dL_law_836 rfl (lv_at hl 0 rfl) ?_
    refine lv_iconst (v := 2) hx hb dL_law_837 (by decide) ?_
    refine lv_iadd hx hb dL_law_838 ?_
    refine q_c 2 (by decide +kernel) ?_
    refine va_sld X.1 X.2.1 hX hbl hbA hw4.2.2 (q_in (by decide +kernel)) dL_law_839 ?_
    refine q_c 0 e2 ?_
    have g_9290 : ¬ a1 = (0 : Int32) := by
      simp only [Int32.lt_iff_toInt_lt, Int32.le_iff_toInt_le, ← Int32.toInt_inj] at c_9163 ⊢
      have k_0 : (0 : Int32).toInt = 0 := by decide
      omega
    refine q_callVi (rest := []) (wr := [(y0, .inr (12, [.int 0, .ref (u_1.1 19), .ref (u_1.1 0), .ref (u_1.1 1), .ref (u_1.1 2), .int 0, .int 0, .int 0, .int 0, .int 0, .int 0, .int 0, .int 0, .int 0, .int (-1), .int 0, .ref (u_1.1 3), .ref (u_1.1 4), .ref (u_1.1 5), .ref (u_1.1 6), .ref (u_1.1 7), .int 0, .int 0, .ref (u_1.1 8), .ref (u_1.1 9), .ref (u_1.1 10), .int 0, .int 0, .ref (u_1.1 11), .ref (u_1.1 12), .ref (u_1.1 13), .ref (u_1.1 14), .ref (u_1.1 15), .int 0, .ref (u_1.1 16), .ref (u_1.1 17), .ref (u_1.1 18)])), ((u_1.1 19), .inl (cy 1, 3918, .inl (upd (fun _ => 0) (Int32.toNatClampNeg 1) 1)))]) X hK hA hw4 (fun sz => kX11_cover_404 l D cy x0 (u_0.1 31) (u_0.1 37) a1 (u_0.1 0) (u_0.1 1) (u_0.1 39) (u_0.1 41) (u_0.1 43) (u_0.1 14) (u_0.1 15) (u_0.1 16) (u_0.1 17) (u_0.1 20) (u_0.1 24) (u_0.1 29) (u_0.1 32) (u_0.1 33) (u_0.1 34) (u_0.1 35) (u_0.1 36) (u_0.1 38) g_9290 sz) wm_4_220 wm_4_223 wm_1_1 hd_X11_cover wm_4_221 wm_4_222 (ci := 11) (q0 := 0) rfl rfl ⟨Nat.le_of_ble_eq_true rfl, Nat.le_of_ble_eq_true rfl⟩ hl.1 rfl (Nat.le_of_ble_eq_true rfl) dL_law_840 ⟨Nat.le_of_ble_eq_true rfl, Nat.le_of_ble_eq_true rfl⟩ [0, 32, 38] [78, 98] rfl rfl (by decide) rfl rfl (fun r_9291 u_9291 Hp5 lc5 w_9291 hw5 => ?_)
    clear Hp4 lc4 hw4
    obtain rfl : r_9291 = (-3) := w_9291
    clear w_9291
    replace hw5 : qW D _ _ [(y0, .inr (12, [.int 0, .ref (u_1.1 19), .ref (u_1.1 0), .ref (u_1.1 1), .ref (u_1.1 2), .int 0, .int 0, .int 0, .int 0, .int 0, .int 0, .int 0, .int 0, .int 0, .int (-1), .int 0, .ref (u_1.1 3), .ref (u_1.1 4), .ref (u_1.1 5), .ref (u_1.1 6), .ref (u_1.1 7), .int 0, .int 0, .ref (u_1.1 8), .ref (u_1.1 9), .ref (u_1.1 10), .int 0, .int 0, .ref (u_1.1 11), .ref (u_1.1 12), .ref (u_1.1 13), .ref (u_1.1 14), .ref (u_1.1 15), .int 0, .ref (u_1.1 16), .ref (u_1.1 17), .ref (u_1.1 18)])), ((u_1.1 19), .inl (cy 1, 3918, .inl (upd (fun _ => 0) (Int32.toNatClampNeg 1) 1)))] _ _ := hw5
    refine lv_aload_n hx hb dL_law_843 rfl (lv_at hl 1 rfl) ?_
    refine lv_aload_n hx hb dL_law_844 rfl (lv_at hl 3 rfl) ?_
    refine lv_iload_n hx hb dL_law_845 rfl (lv_at hl 0 rfl) ?_
    refine lv_iconst (v := 1) hx hb dL_law_846 (by decide) ?_
    refine lv_iadd hx hb dL_law_847 ?_
    refine q_c 1 (by decide +kernel) ?_
    refine va_sld X.1 X.2.1 hX hbl hbA hw5.2.2 (q_in (by decide +kernel)) dL_law_848 ?_
    refine q_c a1 e1 ?_
    refine lv_aload_n hx hb dL_law_849 rfl (lv_at hl 3 rfl) ?_
    refine lv_iload_n hx hb dL_law_850 rfl (lv_at hl 0 rfl) ?_
    refine lv_iconst (v := 2) hx hb dL_law_851 (by decide) ?_
    refine lv_iadd hx hb dL_law_852 ?_
    refine q_c 2 (by decide +kernel) ?_
    refine va_sld X.1 X.2.1 hX hbl hbA hw5.2.2 (q_in (by decide +kernel)) dL_law_853 ?_
    refine q_c 0 e2 ?_
    have g_9297 : ¬ a1 = (0 : Int32) := by
      simp only [Int32.lt_iff_toInt_lt, Int32.le_iff_toInt_le, ← Int32.toInt_inj] at c_9163 ⊢
      have k_0 : (0 : Int32).toInt = 0 := by decide
      omega
    refine q_callVi (rest := [.int (-3)]) (wr := []) X hK hA hw5 (fun sz => kX12_cover_405 l D cy y0 (u_1.1 19) a1 (u_1.1 0) (u_1.1 1) (u_1.1 2) (u_1.1 3) (u_1.1 4) (u_1.1 5) (u_1.1 6) (u_1.1 7) (u_1.1 8) (u_1.1 9) (u_1.1 10) (u_1.1 11) (u_1.1 12) (u_1.1 13) (u_1.1 14) (u_1.1 15) (u_1.1 16) (u_1.1 17) (u_1.1 18) (upd (fun _ => 0) (Int32.toNatClampNeg 1) 1) g_9297 (q_un (by decide +kernel) rfl) sz) wm_7_148 wm_7_151 wm_1_12 hd_X12_cover wm_7_149 wm_7_150 (ci := 12) (q0 := 0) rfl rfl ⟨Nat.le_of_ble_eq_true rfl, Nat.le_of_ble_eq_true rfl⟩ hl.1 rfl (Nat.le_of_ble_eq_true rfl) dL_law_854 ⟨Nat.le_of_ble_eq_true rfl, Nat.le_of_ble_eq_true rfl⟩ [0, 1] [] rfl rfl (by decide) rfl rfl (fun r_9298 u_9298 Hp6 lc6 w_9298 hw6 => ?_)
    clear Hp5 lc5 hw5
    obtain rfl : r_9298 = (-3) := w_9298
    clear w_9298
    replace hw6 : qW D _ _ [] _ _ := hw6
    refine lv_icmp_eq (tgt := 1461) hx hb dL_law_857 (by decide) (fun _ => ?_) (fun c => absurd c (by decide +kernel))
    exact law_tail l X hr hlk hX hbl hw6.2.2 hl (Nat.le_of_ble_eq_true rfl) (Nat.le_of_ble_eq_true rfl)
  by_cases c_9299 : a2 = 1
  · subst c_9299
    by_cases c_9304 : a1 = 0
    · subst c_9304
      refine lv_aload_n hx hb dL_law_829 rfl (lv_at hl 2 rfl) ?_
      refine lv_aload_n hx hb dL_law_830 rfl (lv_at hl 3 rfl) ?_
      refine lv_iload_n hx hb dL_law_831 rfl (lv_at hl 0 rfl) ?_
      refine lv_iconst (v := 1) hx hb dL_law_832 (by decide) ?_
      refine lv_iadd hx hb dL_law_833 ?_
      refine q_c 1 (by decide +kernel) ?_
      refine va_sld X.1 X.2.1 hX hbl hbA hw6.2.2 (q_in (by decide +kernel)) dL_law_834 ?_
      refine q_c 0 e1 ?_
      refine lv_aload_n hx hb dL_law_835 rfl (lv_at hl 3 rfl) ?_
      refine lv_iload_n hx hb dL_law_836 rfl (lv_at hl 0 rfl) ?_
      refine lv_iconst (v := 2) hx hb dL_law_837 (by decide) ?_
      refine lv_iadd hx hb dL_law_838 ?_
      refine q_c 2 (by decide +kernel) ?_
      refine va_sld X.1 X.2.1 hX hbl hbA hw6.2.2 (q_in (by decide +kernel)) dL_law_839 ?_
      refine q_c 1 e2 ?_
      refine q_callVi (rest := []) (wr := [(y0, .inr (12, [.int 0, .ref (u_1.1 19), .ref (u_1.1 0), .ref (u_1.1 1), .ref (u_1.1 2), .int 0, .int 0, .int 0, .int 0, .int 0, .int 0, .int 0, .int 0, .int 0, .int (-1), .int 0, .ref (u_1.1 3), .ref (u_1.1 4), .ref (u_1.1 5), .ref (u_1.1 6), .ref (u_1.1 7), .int 0, .int 0, .ref (u_1.1 8), .ref (u_1.1 9), .ref (u_1.1 10), .int 0, .int 0, .ref (u_1.1 11), .ref (u_1.1 12), .ref (u_1.1 13), .ref (u_1.1 14), .ref (u_1.1 15), .int 0, .ref (u_1.1 16), .ref (u_1.1 17), .ref (u_1.1 18)])), ((u_1.1 19), .inl (cy 1, 3918, .inl (upd (fun _ => 0) (Int32.toNatClampNeg 1) 1)))]) X hK hA hw6 (fun sz => kX11_cover_407 l D cy x0 (u_0.1 20) (u_0.1 21) (u_0.1 31) (u_0.1 37) (u_0.1 0) (u_0.1 1) (u_0.1 39) (u_0.1 41) (u_0.1 43) (u_0.1 14) (u_0.1 15) (u_0.1 16) (u_0.1 17) (u_0.1 24) (u_0.1 29) (u_0.1 22) (u_0.1 23) (u_0.1 32) (u_0.1 33) (u_0.1 34) (u_0.1 35) (u_0.1 36) (u_0.1 38)  sz) wm_4_220 wm_4_223 wm_1_1 hd_X11_cover wm_4_221 wm_4_222 (ci := 11) (q0 := 0) rfl rfl ⟨Nat.le_of_ble_eq_true rfl, Nat.le_of_ble_eq_true rfl⟩ hl.1 rfl (Nat.le_of_ble_eq_true rfl) dL_law_840 ⟨Nat.le_of_ble_eq_true rfl, Nat.le_of_ble_eq_true rfl⟩ [0, 21, 22, 32, 38] [78, 98] rfl rfl (by decide) rfl rfl (fun r_9374 u_9374 Hp7 lc7 w_9374 hw7 => ?_)
      clear Hp6 lc6 hw6
      obtain rfl : r_9374 = 0 := w_9374
      clear w_9374
      replace hw7 : qW D _ _ [(y0, .inr (12, [.int 0, .ref (u_1.1 19), .ref (u_1.1 0), .ref (u_1.1 1), .ref (u_1.1 2), .int 0, .int 0, .int 0, .int 0, .int 0, .int 0, .int 0, .int 0, .int 0, .int (-1), .int 0, .ref (u_1.1 3), .ref (u_1.1 4), .ref (u_1.1 5), .ref (u_1.1 6), .ref (u_1.1 7), .int 0, .int 0, .ref (u_1.1 8), .ref (u_1.1 9), .ref (u_1.1 10), .int 0, .int 0, .ref (u_1.1 11), .ref (u_1.1 12), .ref (u_1.1 13), .ref (u_1.1 14), .ref (u_1.1 15), .int 0, .ref (u_1.1 16), .ref (u_1.1 17), .ref (u_1.1 18)])), ((u_1.1 19), .inl (cy 1, 3918, .inl (upd (fun _ => 0) (Int32.toNatClampNeg 1) 1)))] _ _ := hw7
      refine lv_aload_n hx hb dL_law_843 rfl (lv_at hl 1 rfl) ?_
      refine lv_aload_n hx hb dL_law_844 rfl (lv_at hl 3 rfl) ?_
      refine lv_iload_n hx hb dL_law_845 rfl (lv_at hl 0 rfl) ?_
      refine lv_iconst (v := 1) hx hb dL_law_846 (by decide) ?_
      refine lv_iadd hx hb dL_law_847 ?_
      refine q_c 1 (by decide +kernel) ?_
      refine va_sld X.1 X.2.1 hX hbl hbA hw7.2.2 (q_in (by decide +kernel)) dL_law_848 ?_
      refine q_c 0 e1 ?_
      refine lv_aload_n hx hb dL_law_849 rfl (lv_at hl 3 rfl) ?_
      refine lv_iload_n hx hb dL_law_850 rfl (lv_at hl 0 rfl) ?_
      refine lv_iconst (v := 2) hx hb dL_law_851 (by decide) ?_
      refine lv_iadd hx hb dL_law_852 ?_
      refine q_c 2 (by decide +kernel) ?_
      refine va_sld X.1 X.2.1 hX hbl hbA hw7.2.2 (q_in (by decide +kernel)) dL_law_853 ?_
      refine q_c 1 e2 ?_
      refine q_callVi (rest := [.int 0]) (wr := []) X hK hA hw7 (fun sz => kX12_cover_408 l D cy y0 (u_1.1 19) (u_1.1 0) (u_1.1 1) (u_1.1 2) (u_1.1 3) (u_1.1 4) (u_1.1 5) (u_1.1 6) (u_1.1 7) (u_1.1 8) (u_1.1 9) (u_1.1 10) (u_1.1 11) (u_1.1 12) (u_1.1 13) (u_1.1 14) (u_1.1 15) (u_1.1 16) (u_1.1 17) (u_1.1 18) (upd (fun _ => 0) (Int32.toNatClampNeg 1) 1) (q_un (by decide +kernel) rfl) (q_un (by decide +kernel) rfl) (q_un (by decide +kernel) rfl) sz) wm_7_148 wm_7_151 wm_1_12 hd_X12_cover wm_7_149 wm_7_150 (ci := 12) (q0 := 0) rfl rfl ⟨Nat.le_of_ble_eq_true rfl, Nat.le_of_ble_eq_true rfl⟩ hl.1 rfl (Nat.le_of_ble_eq_true rfl) dL_law_854 ⟨Nat.le_of_ble_eq_true rfl, Nat.le_of_ble_eq_true rfl⟩ [0, 1] [] rfl rfl (by decide) rfl rfl (fun r_9382 u_9382 Hp8 lc8 w_9382 hw8 => ?_)
      clear Hp7 lc7 hw7
      obtain rfl : r_9382 = 0 := w_9382
      clear w_9382
      replace hw8 : qW D _ _ [] _ _ := hw8
      refine lv_icmp_eq (tgt := 1461) hx hb dL_law_857 (by decide) (fun _ => ?_) (fun c => absurd c (by decide +kernel))
      exact law_tail l X hr hlk hX hbl hw8.2.2 hl (Nat.le_of_ble_eq_true rfl) (Nat.le_of_ble_eq_true rfl)
    refine lv_aload_n hx hb dL_law_829 rfl (lv_at hl 2 rfl) ?_
    refine lv_aload_n hx hb dL_law_830 rfl (lv_at hl 3 rfl) ?_
    refine lv_iload_n hx hb dL_law_831 rfl (lv_at hl 0 rfl) ?_
    refine lv_iconst (v := 1) hx hb dL_law_832 (by decide) ?_
    refine lv_iadd hx hb dL_law_833 ?_
    refine q_c 1 (by decide +kernel) ?_
    refine va_sld X.1 X.2.1 hX hbl hbA hw8.2.2 (q_in (by decide +kernel)) dL_law_834 ?_
    refine q_c a1 e1 ?_
    refine lv_aload_n hx hb dL_law_835 rfl (lv_at hl 3 rfl) ?_
    refine lv_iload_n hx hb dL_law_836 rfl (lv_at hl 0 rfl) ?_
    refine lv_iconst (v := 2) hx hb dL_law_837 (by decide) ?_
    refine lv_iadd hx hb dL_law_838 ?_
    refine q_c 2 (by decide +kernel) ?_
    refine va_sld X.1 X.2.1 hX hbl hbA hw8.2.2 (q_in (by decide +kernel)) dL_law_839 ?_
    refine q_c 1 e2 ?_
    have g_9415 : ¬ a1 = (0 : Int32) := by
      simp only [Int32.lt_iff_toInt_lt, Int32.le_iff_toInt_le, ← Int32.toInt_inj] at c_9304 ⊢
      have k_0 : (0 : Int32).toInt = 0 := by decide
      omega
    refine q_callVi (rest := []) (wr := [(y0, .inr (12, [.int 0, .ref (u_1.1 19), .ref (u_1.1 0), .ref (u_1.1 1), .ref (u_1.1 2), .int 0, .int 0, .int 0, .int 0, .int 0, .int 0, .int 0, .int 0, .int 0, .int (-1), .int 0, .ref (u_1.1 3), .ref (u_1.1 4), .ref (u_1.1 5), .ref (u_1.1 6), .ref (u_1.1 7), .int 0, .int 0, .ref (u_1.1 8), .ref (u_1.1 9), .ref (u_1.1 10), .int 0, .int 0, .ref (u_1.1 11), .ref (u_1.1 12), .ref (u_1.1 13), .ref (u_1.1 14), .ref (u_1.1 15), .int 0, .ref (u_1.1 16), .ref (u_1.1 17), .ref (u_1.1 18)])), ((u_1.1 19), .inl (cy 1, 3918, .inl (upd (fun _ => 0) (Int32.toNatClampNeg 1) 1)))]) X hK hA hw8 (fun sz => kX11_cover_409 l D cy x0 (u_0.1 31) (u_0.1 37) a1 (u_0.1 0) (u_0.1 1) (u_0.1 39) (u_0.1 41) (u_0.1 43) (u_0.1 14) (u_0.1 15) (u_0.1 16) (u_0.1 17) (u_0.1 20) (u_0.1 24) (u_0.1 29) (u_0.1 32) (u_0.1 33) (u_0.1 34) (u_0.1 35) (u_0.1 36) (u_0.1 38) g_9415 sz) wm_4_220 wm_4_223 wm_1_1 hd_X11_cover wm_4_221 wm_4_222 (ci := 11) (q0 := 0) rfl rfl ⟨Nat.le_of_ble_eq_true rfl, Nat.le_of_ble_eq_true rfl⟩ hl.1 rfl (Nat.le_of_ble_eq_true rfl) dL_law_840 ⟨Nat.le_of_ble_eq_true rfl, Nat.le_of_ble_eq_true rfl⟩ [0, 32, 38] [78, 98] rfl rfl (by decide) rfl rfl (fun r_9416 u_9416 Hp9 lc9 w_9416 hw9 => ?_)
    clear Hp8 lc8 hw8
    obtain rfl : r_9416 = (-3) := w_9416
    clear w_9416
    replace hw9 : qW D _ _ [(y0, .inr (12, [.int 0, .ref (u_1.1 19), .ref (u_1.1 0), .ref (u_1.1 1), .ref (u_1.1 2), .int 0, .int 0, .int 0, .int 0, .int 0, .int 0, .int 0, .int 0, .int 0, .int (-1), .int 0, .ref (u_1.1 3), .ref (u_1.1 4), .ref (u_1.1 5), .ref (u_1.1 6), .ref (u_1.1 7), .int 0, .int 0, .ref (u_1.1 8), .ref (u_1.1 9), .ref (u_1.1 10), .int 0, .int 0, .ref (u_1.1 11), .ref (u_1.1 12), .ref (u_1.1 13), .ref (u_1.1 14), .ref (u_1.1 15), .int 0, .ref (u_1.1 16), .ref (u_1.1 17), .ref (u_1.1 18)])), ((u_1.1 19), .inl (cy 1, 3918, .inl (upd (fun _ => 0) (Int32.toNatClampNeg 1) 1)))] _ _ := hw9
    refine lv_aload_n hx hb dL_law_843 rfl (lv_at hl 1 rfl) ?_
    refine lv_aload_n hx hb dL_law_844 rfl (lv_at hl 3 rfl) ?_
    refine lv_iload_n hx hb dL_law_845 rfl (lv_at hl 0 rfl) ?_
    refine lv_iconst (v := 1) hx hb dL_law_846 (by decide) ?_
    refine lv_iadd hx hb dL_law_847 ?_
    refine q_c 1 (by decide +kernel) ?_
    refine va_sld X.1 X.2.1 hX hbl hbA hw9.2.2 (q_in (by decide +kernel)) dL_law_848 ?_
    refine q_c a1 e1 ?_
    refine lv_aload_n hx hb dL_law_849 rfl (lv_at hl 3 rfl) ?_
    refine lv_iload_n hx hb dL_law_850 rfl (lv_at hl 0 rfl) ?_
    refine lv_iconst (v := 2) hx hb dL_law_851 (by decide) ?_
    refine lv_iadd hx hb dL_law_852 ?_
    refine q_c 2 (by decide +kernel) ?_
    refine va_sld X.1 X.2.1 hX hbl hbA hw9.2.2 (q_in (by decide +kernel)) dL_law_853 ?_
    refine q_c 1 e2 ?_
    have g_9422 : ¬ a1 = (0 : Int32) := by
      simp only [Int32.lt_iff_toInt_lt, Int32.le_iff_toInt_le, ← Int32.toInt_inj] at c_9304 ⊢
      have k_0 : (0 : Int32).toInt = 0 := by decide
      omega
    refine q_callVi (rest := [.int (-3)]) (wr := []) X hK hA hw9 (fun sz => kX12_cover_410 l D cy y0 (u_1.1 19) a1 (u_1.1 0) (u_1.1 1) (u_1.1 2) (u_1.1 3) (u_1.1 4) (u_1.1 5) (u_1.1 6) (u_1.1 7) (u_1.1 8) (u_1.1 9) (u_1.1 10) (u_1.1 11) (u_1.1 12) (u_1.1 13) (u_1.1 14) (u_1.1 15) (u_1.1 16) (u_1.1 17) (u_1.1 18) (upd (fun _ => 0) (Int32.toNatClampNeg 1) 1) g_9422 (q_un (by decide +kernel) rfl) sz) wm_7_148 wm_7_151 wm_1_12 hd_X12_cover wm_7_149 wm_7_150 (ci := 12) (q0 := 0) rfl rfl ⟨Nat.le_of_ble_eq_true rfl, Nat.le_of_ble_eq_true rfl⟩ hl.1 rfl (Nat.le_of_ble_eq_true rfl) dL_law_854 ⟨Nat.le_of_ble_eq_true rfl, Nat.le_of_ble_eq_true rfl⟩ [0, 1] [] rfl rfl (by decide) rfl rfl (fun r_9423 u_9423 Hp10 lc10 w_9423 hw10 => ?_)
    clear Hp9 lc9 hw9
    obtain rfl : r_9423 = (-3) := w_9423
    clear w_9423
    replace hw10 : qW D _ _ [] _ _ := hw10
    refine lv_icmp_eq (tgt := 1461) hx hb dL_law_857 (by decide) (fun _ => ?_) (fun c => absurd c (by decide +kernel))
    exact law_tail l X hr hlk hX hbl hw10.2.2 hl (Nat.le_of_ble_eq_true rfl) (Nat.le_of_ble_eq_true rfl)
  refine lv_aload_n hx hb dL_law_829 rfl (lv_at hl 2 rfl) ?_
  refine lv_aload_n hx hb dL_law_830 rfl (lv_at hl 3 rfl) ?_
  refine lv_iload_n hx hb dL_law_831 rfl (lv_at hl 0 rfl) ?_
  refine lv_iconst (v := 1) hx hb dL_law_832 (by decide) ?_
  refine lv_iadd hx hb dL_law_833 ?_
  refine q_c 1 (by decide +kernel) ?_
  refine va_sld X.1 X.2.1 hX hbl hbA hw10.2.2 (q_in (by decide +kernel)) dL_law_834 ?_
  refine q_c a1 e1 ?_
  refine lv_aload_n hx hb dL_law_835 rfl (lv_at hl 3 rfl) ?_
  refine lv_iload_n hx hb dL_law_836 rfl (lv_at hl 0 rfl) ?_
  refine lv_iconst (v := 2) hx hb dL_law_837 (by decide) ?_
  refine lv_iadd hx hb dL_law_838 ?_
  refine q_c 2 (by decide +kernel) ?_
  refine va_sld X.1 X.2.1 hX hbl hbA hw10.2.2 (q_in (by decide +kernel)) dL_law_839 ?_
  refine q_c a2 e2 ?_
  have g_9445 : (2 : Int32) ≤ a2 := by
    simp only [Int32.lt_iff_toInt_lt, Int32.le_iff_toInt_le, ← Int32.toInt_inj] at c_9133 c_9158 c_9299 ⊢
    have k_0 : ((-1) : Int32).toInt = -1 := by decide
    have k_1 : (0 : Int32).toInt = 0 := by decide
    have k_2 : (1 : Int32).toInt = 1 := by decide
    have k_g : (2 : Int32).toInt = 2 := by decide
    omega
  refine q_callVi (rest := []) (wr := [(y0, .inr (12, [.int 0, .ref (u_1.1 19), .ref (u_1.1 0), .ref (u_1.1 1), .ref (u_1.1 2), .int 0, .int 0, .int 0, .int 0, .int 0, .int 0, .int 0, .int 0, .int 0, .int (-1), .int 0, .ref (u_1.1 3), .ref (u_1.1 4), .ref (u_1.1 5), .ref (u_1.1 6), .ref (u_1.1 7), .int 0, .int 0, .ref (u_1.1 8), .ref (u_1.1 9), .ref (u_1.1 10), .int 0, .int 0, .ref (u_1.1 11), .ref (u_1.1 12), .ref (u_1.1 13), .ref (u_1.1 14), .ref (u_1.1 15), .int 0, .ref (u_1.1 16), .ref (u_1.1 17), .ref (u_1.1 18)]))]) X hK hA hw10 (fun sz => kX11_cover_411 l D cy x0 a1 a2 (u_0.1 0) (u_0.1 1) (u_0.1 37) (u_0.1 39) (u_0.1 41) (u_0.1 43) (u_0.1 14) (u_0.1 15) (u_0.1 16) (u_0.1 17) (u_0.1 20) (u_0.1 24) (u_0.1 29) g_9445 sz) wm_4_220 wm_4_223 wm_1_1 hd_X11_cover wm_4_221 wm_4_222 (ci := 11) (q0 := 0) rfl rfl ⟨Nat.le_of_ble_eq_true rfl, Nat.le_of_ble_eq_true rfl⟩ hl.1 rfl (Nat.le_of_ble_eq_true rfl) dL_law_840 ⟨Nat.le_of_ble_eq_true rfl, Nat.le_of_ble_eq_true rfl⟩ [0] [78] rfl rfl (by decide) rfl rfl (fun r_9446 u_9446 Hp11 lc11 w_9446 hw11 => ?_)
  clear Hp10 lc10 hw10
  obtain rfl : r_9446 = (-2) := w_9446
  clear w_9446
  replace hw11 : qW D _ _ [(y0, .inr (12, [.int 0, .ref (u_1.1 19), .ref (u_1.1 0), .ref (u_1.1 1), .ref (u_1.1 2), .int 0, .int 0, .int 0, .int 0, .int 0, .int 0, .int 0, .int 0, .int 0, .int (-1), .int 0, .ref (u_1.1 3), .ref (u_1.1 4), .ref (u_1.1 5), .ref (u_1.1 6), .ref (u_1.1 7), .int 0, .int 0, .ref (u_1.1 8), .ref (u_1.1 9), .ref (u_1.1 10), .int 0, .int 0, .ref (u_1.1 11), .ref (u_1.1 12), .ref (u_1.1 13), .ref (u_1.1 14), .ref (u_1.1 15), .int 0, .ref (u_1.1 16), .ref (u_1.1 17), .ref (u_1.1 18)]))] _ _ := hw11
  refine lv_aload_n hx hb dL_law_843 rfl (lv_at hl 1 rfl) ?_
  refine lv_aload_n hx hb dL_law_844 rfl (lv_at hl 3 rfl) ?_
  refine lv_iload_n hx hb dL_law_845 rfl (lv_at hl 0 rfl) ?_
  refine lv_iconst (v := 1) hx hb dL_law_846 (by decide) ?_
  refine lv_iadd hx hb dL_law_847 ?_
  refine q_c 1 (by decide +kernel) ?_
  refine va_sld X.1 X.2.1 hX hbl hbA hw11.2.2 (q_in (by decide +kernel)) dL_law_848 ?_
  refine q_c a1 e1 ?_
  refine lv_aload_n hx hb dL_law_849 rfl (lv_at hl 3 rfl) ?_
  refine lv_iload_n hx hb dL_law_850 rfl (lv_at hl 0 rfl) ?_
  refine lv_iconst (v := 2) hx hb dL_law_851 (by decide) ?_
  refine lv_iadd hx hb dL_law_852 ?_
  refine q_c 2 (by decide +kernel) ?_
  refine va_sld X.1 X.2.1 hX hbl hbA hw11.2.2 (q_in (by decide +kernel)) dL_law_853 ?_
  refine q_c a2 e2 ?_
  have g_9451 : (2 : Int32) ≤ a2 := by
    simp only [Int32.lt_iff_toInt_lt, Int32.le_iff_toInt_le, ← Int32.toInt_inj] at c_9133 c_9158 c_9299 ⊢
    have k_0 : ((-1) : Int32).toInt = -1 := by decide
    have k_1 : (0 : Int32).toInt = 0 := by decide
    have k_2 : (1 : Int32).toInt = 1 := by decide
    have k_g : (2 : Int32).toInt = 2 := by decide
    omega
  refine q_callVi (rest := [.int (-2)]) (wr := []) X hK hA hw11 (fun sz => kX12_cover_412 l D cy y0 a1 a2 (u_1.1 19) (u_1.1 0) (u_1.1 1) (u_1.1 2) (u_1.1 3) (u_1.1 4) (u_1.1 5) (u_1.1 6) (u_1.1 7) (u_1.1 8) (u_1.1 9) (u_1.1 10) (u_1.1 11) (u_1.1 12) (u_1.1 13) (u_1.1 14) (u_1.1 15) (u_1.1 16) (u_1.1 17) (u_1.1 18) g_9451 sz) wm_7_148 wm_7_151 wm_1_12 hd_X12_cover wm_7_149 wm_7_150 (ci := 12) (q0 := 0) rfl rfl ⟨Nat.le_of_ble_eq_true rfl, Nat.le_of_ble_eq_true rfl⟩ hl.1 rfl (Nat.le_of_ble_eq_true rfl) dL_law_854 ⟨Nat.le_of_ble_eq_true rfl, Nat.le_of_ble_eq_true rfl⟩ [0] [] rfl rfl (by decide) rfl rfl (fun r_9452 u_9452 Hp12 lc12 w_9452 hw12 => ?_)
  clear Hp11 lc11 hw11
  obtain rfl : r_9452 = (-2) := w_9452
  clear w_9452
  replace hw12 : qW D _ _ [] _ _ := hw12
  refine lv_icmp_eq (tgt := 1461) hx hb dL_law_857 (by decide) (fun _ => ?_) (fun c => absurd c (by decide +kernel))
  exact law_tail l X hr hlk hX hbl hw12.2.2 hl (Nat.le_of_ble_eq_true rfl) (Nat.le_of_ble_eq_true rfl)
set_option maxHeartbeats 4000000 in
set_option maxRecDepth 100000 in
theorem lc_laundress (l : Launch) {p : Program} {e : Env} {s : State} {m : MethodId} {below : List Frame} {meth : Method} {c : Code} {b : Nat} {xs : Nat → Int32} {D : va_G} {cy : Nat → ClassId} {H : Heap} {locs : List Loc} {ls : Array Slot} {x0 y0 : Nat} {u_0 u_1 : SS} (X : qX p s m #[Value.ref b] c cL_law 4 RL) (hr : meth.sig.returnType = ret) (hlk : meth.locks = false) (hX : va_X b 6 xs s s.heap) (hbl : b < s.heap.size) (hK : qK D cy s) (a1 a2 a3 a4 a5 : Int32) (e1 : xs (Int32.toNatClampNeg 1) = a1) (e2 : xs (Int32.toNatClampNeg 2) = a2) (e3 : xs (Int32.toNatClampNeg 3) = a3) (e4 : xs (Int32.toNatClampNeg 4) = a4) (e5 : xs (Int32.toNatClampNeg 5) = a5) (h : qW D (fun q => s.heap.size ≤ q) s.heap (wLaw cy x0 y0 u_0 u_1) H locs) (hl : lv_has ls 4 [(3, .int 0), (2, .ref y0), (1, .ref x0), (0, .ref b)]) : W p l e room_1 s m #[Value.ref b] below meth c H locs 99 25544 (lw_Z below #[Value.ref b] s) (F0 m 862 ls []) := by
  obtain ⟨hx, hb, hml, hown, ht⟩ := id X
  have hA : ∀ q : Nat, s.heap.size ≤ q → (fun q : Nat => s.heap.size ≤ q) q := fun _ h => h
  have hbA : ¬ (fun q : Nat => s.heap.size ≤ q) b := Nat.not_le.mpr hbl
  by_cases c_9457 : a1 = 0
  · subst c_9457
    refine lv_aload_n hx hb dL_law_862 rfl (lv_at hl 2 rfl) ?_
    refine lv_aload_n hx hb dL_law_863 rfl (lv_at hl 3 rfl) ?_
    refine lv_iload_n hx hb dL_law_864 rfl (lv_at hl 0 rfl) ?_
    refine lv_iconst (v := 1) hx hb dL_law_865 (by decide) ?_
    refine lv_iadd hx hb dL_law_866 ?_
    refine q_c 1 (by decide +kernel) ?_
    refine va_sld X.1 X.2.1 hX hbl hbA h.2.2 (q_in (by decide +kernel)) dL_law_867 ?_
    refine q_c 0 e1 ?_
    refine q_callVi (rest := []) (wr := [(y0, .inr (12, [.int 0, .ref (u_1.1 19), .ref (u_1.1 0), .ref (u_1.1 1), .ref (u_1.1 2), .int 0, .int 0, .int 0, .int 0, .int 0, .int 0, .int 0, .int 0, .int 0, .int (-1), .int 0, .ref (u_1.1 3), .ref (u_1.1 4), .ref (u_1.1 5), .ref (u_1.1 6), .ref (u_1.1 7), .int 0, .int 0, .ref (u_1.1 8), .ref (u_1.1 9), .ref (u_1.1 10), .int 0, .int 0, .ref (u_1.1 11), .ref (u_1.1 12), .ref (u_1.1 13), .ref (u_1.1 14), .ref (u_1.1 15), .int 0, .ref (u_1.1 16), .ref (u_1.1 17), .ref (u_1.1 18)])), ((u_1.1 19), .inl (cy 1, 3918, .inl (upd (fun _ => 0) (Int32.toNatClampNeg 1) 1)))]) X hK hA h (fun sz => kX11_laundress_413 l D cy x0 (u_0.1 20) (u_0.1 21) (u_0.1 31) (u_0.1 37) (u_0.1 0) (u_0.1 1) (u_0.1 39) (u_0.1 41) (u_0.1 43) (u_0.1 14) (u_0.1 15) (u_0.1 16) (u_0.1 17) (u_0.1 24) (u_0.1 29) (u_0.1 22) (u_0.1 23) (u_0.1 32) (u_0.1 33) (u_0.1 34) (u_0.1 35) (u_0.1 36) (u_0.1 38)  sz) wm_4_235 wm_4_238 wm_1_1 hd_X11_laundress wm_4_236 wm_4_237 (ci := 11) (q0 := 0) rfl rfl ⟨Nat.le_of_ble_eq_true rfl, Nat.le_of_ble_eq_true rfl⟩ hl.1 rfl (Nat.le_of_ble_eq_true rfl) dL_law_868 ⟨Nat.le_of_ble_eq_true rfl, Nat.le_of_ble_eq_true rfl⟩ [0, 21, 22, 32, 38] [78, 98] rfl rfl (by decide) rfl rfl (fun r_9501 u_9501 Hp1 lc1 w_9501 hw1 => ?_)
    clear h
    obtain rfl : r_9501 = (-1) := w_9501
    clear w_9501
    replace hw1 : qW D _ _ [(y0, .inr (12, [.int 0, .ref (u_1.1 19), .ref (u_1.1 0), .ref (u_1.1 1), .ref (u_1.1 2), .int 0, .int 0, .int 0, .int 0, .int 0, .int 0, .int 0, .int 0, .int 0, .int (-1), .int 0, .ref (u_1.1 3), .ref (u_1.1 4), .ref (u_1.1 5), .ref (u_1.1 6), .ref (u_1.1 7), .int 0, .int 0, .ref (u_1.1 8), .ref (u_1.1 9), .ref (u_1.1 10), .int 0, .int 0, .ref (u_1.1 11), .ref (u_1.1 12), .ref (u_1.1 13), .ref (u_1.1 14), .ref (u_1.1 15), .int 0, .ref (u_1.1 16), .ref (u_1.1 17), .ref (u_1.1 18)])), ((u_1.1 19), .inl (cy 1, 3918, .inl (upd (fun _ => 0) (Int32.toNatClampNeg 1) 1)))] _ _ := hw1
    refine lv_aload_n hx hb dL_law_871 rfl (lv_at hl 1 rfl) ?_
    refine lv_aload_n hx hb dL_law_872 rfl (lv_at hl 3 rfl) ?_
    refine lv_iload_n hx hb dL_law_873 rfl (lv_at hl 0 rfl) ?_
    refine lv_iconst (v := 1) hx hb dL_law_874 (by decide) ?_
    refine lv_iadd hx hb dL_law_875 ?_
    refine q_c 1 (by decide +kernel) ?_
    refine va_sld X.1 X.2.1 hX hbl hbA hw1.2.2 (q_in (by decide +kernel)) dL_law_876 ?_
    refine q_c 0 e1 ?_
    refine q_callVi (rest := [.int (-1)]) (wr := []) X hK hA hw1 (fun sz => kX12_laundress_414 l D cy y0 (u_1.1 19) (u_1.1 0) (u_1.1 1) (u_1.1 2) (u_1.1 3) (u_1.1 4) (u_1.1 5) (u_1.1 6) (u_1.1 7) (u_1.1 8) (u_1.1 9) (u_1.1 10) (u_1.1 11) (u_1.1 12) (u_1.1 13) (u_1.1 14) (u_1.1 15) (u_1.1 16) (u_1.1 17) (u_1.1 18) (upd (fun _ => 0) (Int32.toNatClampNeg 1) 1) (q_un (by decide +kernel) rfl) (q_un (by decide +kernel) rfl) (q_un (by decide +kernel) rfl) sz) wm_7_156 wm_7_159 wm_1_12 hd_X12_laundress wm_7_157 wm_7_158 (ci := 12) (q0 := 0) rfl rfl ⟨Nat.le_of_ble_eq_true rfl, Nat.le_of_ble_eq_true rfl⟩ hl.1 rfl (Nat.le_of_ble_eq_true rfl) dL_law_877 ⟨Nat.le_of_ble_eq_true rfl, Nat.le_of_ble_eq_true rfl⟩ [0, 1] [] rfl rfl (by decide) rfl rfl (fun r_9507 u_9507 Hp2 lc2 w_9507 hw2 => ?_)
    clear Hp1 lc1 hw1
    obtain rfl : r_9507 = (-1) := w_9507
    clear w_9507
    replace hw2 : qW D _ _ [] _ _ := hw2
    refine lv_icmp_eq (tgt := 1461) hx hb dL_law_880 (by decide) (fun _ => ?_) (fun c => absurd c (by decide +kernel))
    exact law_tail l X hr hlk hX hbl hw2.2.2 hl (Nat.le_of_ble_eq_true rfl) (Nat.le_of_ble_eq_true rfl)
  refine lv_aload_n hx hb dL_law_862 rfl (lv_at hl 2 rfl) ?_
  refine lv_aload_n hx hb dL_law_863 rfl (lv_at hl 3 rfl) ?_
  refine lv_iload_n hx hb dL_law_864 rfl (lv_at hl 0 rfl) ?_
  refine lv_iconst (v := 1) hx hb dL_law_865 (by decide) ?_
  refine lv_iadd hx hb dL_law_866 ?_
  refine q_c 1 (by decide +kernel) ?_
  refine va_sld X.1 X.2.1 hX hbl hbA hw2.2.2 (q_in (by decide +kernel)) dL_law_867 ?_
  refine q_c a1 e1 ?_
  have g_9537 : ¬ a1 = (0 : Int32) := by
    simp only [Int32.lt_iff_toInt_lt, Int32.le_iff_toInt_le, ← Int32.toInt_inj] at c_9457 ⊢
    have k_0 : (0 : Int32).toInt = 0 := by decide
    omega
  refine q_callVi (rest := []) (wr := [(y0, .inr (12, [.int 0, .ref (u_1.1 19), .ref (u_1.1 0), .ref (u_1.1 1), .ref (u_1.1 2), .int 0, .int 0, .int 0, .int 0, .int 0, .int 0, .int 0, .int 0, .int 0, .int (-1), .int 0, .ref (u_1.1 3), .ref (u_1.1 4), .ref (u_1.1 5), .ref (u_1.1 6), .ref (u_1.1 7), .int 0, .int 0, .ref (u_1.1 8), .ref (u_1.1 9), .ref (u_1.1 10), .int 0, .int 0, .ref (u_1.1 11), .ref (u_1.1 12), .ref (u_1.1 13), .ref (u_1.1 14), .ref (u_1.1 15), .int 0, .ref (u_1.1 16), .ref (u_1.1 17), .ref (u_1.1 18)])), ((u_1.1 19), .inl (cy 1, 3918, .inl (upd (fun _ => 0) (Int32.toNatClampNeg 1) 1)))]) X hK hA hw2 (fun sz => kX11_laundress_415 l D cy x0 (u_0.1 31) (u_0.1 37) a1 (u_0.1 0) (u_0.1 1) (u_0.1 39) (u_0.1 41) (u_0.1 43) (u_0.1 14) (u_0.1 15) (u_0.1 16) (u_0.1 17) (u_0.1 20) (u_0.1 24) (u_0.1 29) (u_0.1 32) (u_0.1 33) (u_0.1 34) (u_0.1 35) (u_0.1 36) (u_0.1 38) g_9537 sz) wm_4_235 wm_4_238 wm_1_1 hd_X11_laundress wm_4_236 wm_4_237 (ci := 11) (q0 := 0) rfl rfl ⟨Nat.le_of_ble_eq_true rfl, Nat.le_of_ble_eq_true rfl⟩ hl.1 rfl (Nat.le_of_ble_eq_true rfl) dL_law_868 ⟨Nat.le_of_ble_eq_true rfl, Nat.le_of_ble_eq_true rfl⟩ [0, 32, 38] [78, 98] rfl rfl (by decide) rfl rfl (fun r_9538 u_9538 Hp3 lc3 w_9538 hw3 => ?_)
  clear Hp2 lc2 hw2
  obtain rfl : r_9538 = (-3) := w_9538
  clear w_9538
  replace hw3 : qW D _ _ [(y0, .inr (12, [.int 0, .ref (u_1.1 19), .ref (u_1.1 0), .ref (u_1.1 1), .ref (u_1.1 2), .int 0, .int 0, .int 0, .int 0, .int 0, .int 0, .int 0, .int 0, .int 0, .int (-1), .int 0, .ref (u_1.1 3), .ref (u_1.1 4), .ref (u_1.1 5), .ref (u_1.1 6), .ref (u_1.1 7), .int 0, .int 0, .ref (u_1.1 8), .ref (u_1.1 9), .ref (u_1.1 10), .int 0, .int 0, .ref (u_1.1 11), .ref (u_1.1 12), .ref (u_1.1 13), .ref (u_1.1 14), .ref (u_1.1 15), .int 0, .ref (u_1.1 16), .ref (u_1.1 17), .ref (u_1.1 18)])), ((u_1.1 19), .inl (cy 1, 3918, .inl (upd (fun _ => 0) (Int32.toNatClampNeg 1) 1)))] _ _ := hw3
  refine lv_aload_n hx hb dL_law_871 rfl (lv_at hl 1 rfl) ?_
  refine lv_aload_n hx hb dL_law_872 rfl (lv_at hl 3 rfl) ?_
  refine lv_iload_n hx hb dL_law_873 rfl (lv_at hl 0 rfl) ?_
  refine lv_iconst (v := 1) hx hb dL_law_874 (by decide) ?_
  refine lv_iadd hx hb dL_law_875 ?_
  refine q_c 1 (by decide +kernel) ?_
  refine va_sld X.1 X.2.1 hX hbl hbA hw3.2.2 (q_in (by decide +kernel)) dL_law_876 ?_
  refine q_c a1 e1 ?_
  have g_9543 : ¬ a1 = (0 : Int32) := by
    simp only [Int32.lt_iff_toInt_lt, Int32.le_iff_toInt_le, ← Int32.toInt_inj] at c_9457 ⊢
    have k_0 : (0 : Int32).toInt = 0 := by decide
    omega
  refine q_callVi (rest := [.int (-3)]) (wr := []) X hK hA hw3 (fun sz => kX12_laundress_416 l D cy y0 (u_1.1 19) a1 (u_1.1 0) (u_1.1 1) (u_1.1 2) (u_1.1 3) (u_1.1 4) (u_1.1 5) (u_1.1 6) (u_1.1 7) (u_1.1 8) (u_1.1 9) (u_1.1 10) (u_1.1 11) (u_1.1 12) (u_1.1 13) (u_1.1 14) (u_1.1 15) (u_1.1 16) (u_1.1 17) (u_1.1 18) (upd (fun _ => 0) (Int32.toNatClampNeg 1) 1) g_9543 (q_un (by decide +kernel) rfl) sz) wm_7_156 wm_7_159 wm_1_12 hd_X12_laundress wm_7_157 wm_7_158 (ci := 12) (q0 := 0) rfl rfl ⟨Nat.le_of_ble_eq_true rfl, Nat.le_of_ble_eq_true rfl⟩ hl.1 rfl (Nat.le_of_ble_eq_true rfl) dL_law_877 ⟨Nat.le_of_ble_eq_true rfl, Nat.le_of_ble_eq_true rfl⟩ [0, 1] [] rfl rfl (by decide) rfl rfl (fun r_9544 u_9544 Hp4 lc4 w_9544 hw4 => ?_)
  clear Hp3 lc3 hw3
  obtain rfl : r_9544 = (-3) := w_9544
  clear w_9544
  replace hw4 : qW D _ _ [] _ _ := hw4
  refine lv_icmp_eq (tgt := 1461) hx hb dL_law_880 (by decide) (fun _ => ?_) (fun c => absurd c (by decide +kernel))
  exact law_tail l X hr hlk hX hbl hw4.2.2 hl (Nat.le_of_ble_eq_true rfl) (Nat.le_of_ble_eq_true rfl)
set_option maxHeartbeats 4000000 in
set_option maxRecDepth 100000 in
theorem lc_talks (l : Launch) {p : Program} {e : Env} {s : State} {m : MethodId} {below : List Frame} {meth : Method} {c : Code} {b : Nat} {xs : Nat → Int32} {D : va_G} {cy : Nat → ClassId} {H : Heap} {locs : List Loc} {ls : Array Slot} {x0 y0 : Nat} {u_0 u_1 : SS} (X : qX p s m #[Value.ref b] c cL_law 4 RL) (hr : meth.sig.returnType = ret) (hlk : meth.locks = false) (hX : va_X b 6 xs s s.heap) (hbl : b < s.heap.size) (hK : qK D cy s) (a1 a2 a3 a4 a5 : Int32) (e1 : xs (Int32.toNatClampNeg 1) = a1) (e2 : xs (Int32.toNatClampNeg 2) = a2) (e3 : xs (Int32.toNatClampNeg 3) = a3) (e4 : xs (Int32.toNatClampNeg 4) = a4) (e5 : xs (Int32.toNatClampNeg 5) = a5) (h : qW D (fun q => s.heap.size ≤ q) s.heap (wLaw cy x0 y0 u_0 u_1) H locs) (hl : lv_has ls 4 [(3, .int 0), (2, .ref y0), (1, .ref x0), (0, .ref b)]) : W p l e room_1 s m #[Value.ref b] below meth c H locs 99 25544 (lw_Z below #[Value.ref b] s) (F0 m 885 ls []) := by
  obtain ⟨hx, hb, hml, hown, ht⟩ := id X
  have hA : ∀ q : Nat, s.heap.size ≤ q → (fun q : Nat => s.heap.size ≤ q) q := fun _ h => h
  have hbA : ¬ (fun q : Nat => s.heap.size ≤ q) b := Nat.not_le.mpr hbl
  refine lv_aload_n hx hb dL_law_885 rfl (lv_at hl 2 rfl) ?_
  refine lv_aload_n hx hb dL_law_886 rfl (lv_at hl 3 rfl) ?_
  refine lv_iload_n hx hb dL_law_887 rfl (lv_at hl 0 rfl) ?_
  refine lv_iconst (v := 1) hx hb dL_law_888 (by decide) ?_
  refine lv_iadd hx hb dL_law_889 ?_
  refine q_c 1 (by decide +kernel) ?_
  refine va_sld X.1 X.2.1 hX hbl hbA h.2.2 (q_in (by decide +kernel)) dL_law_890 ?_
  refine q_c a1 e1 ?_
  refine lv_aload_n hx hb dL_law_891 rfl (lv_at hl 3 rfl) ?_
  refine lv_iload_n hx hb dL_law_892 rfl (lv_at hl 0 rfl) ?_
  refine lv_iconst (v := 2) hx hb dL_law_893 (by decide) ?_
  refine lv_iadd hx hb dL_law_894 ?_
  refine q_c 2 (by decide +kernel) ?_
  refine va_sld X.1 X.2.1 hX hbl hbA h.2.2 (q_in (by decide +kernel)) dL_law_895 ?_
  refine q_c a2 e2 ?_
  refine q_callVi (rest := []) (wr := [(y0, .inr (12, [.int 0, .ref (u_1.1 19), .ref (u_1.1 0), .ref (u_1.1 1), .ref (u_1.1 2), .int 0, .int 0, .int 0, .int 0, .int 0, .int 0, .int 0, .int 0, .int 0, .int (-1), .int 0, .ref (u_1.1 3), .ref (u_1.1 4), .ref (u_1.1 5), .ref (u_1.1 6), .ref (u_1.1 7), .int 0, .int 0, .ref (u_1.1 8), .ref (u_1.1 9), .ref (u_1.1 10), .int 0, .int 0, .ref (u_1.1 11), .ref (u_1.1 12), .ref (u_1.1 13), .ref (u_1.1 14), .ref (u_1.1 15), .int 0, .ref (u_1.1 16), .ref (u_1.1 17), .ref (u_1.1 18)])), ((u_1.1 19), .inl (cy 1, 3918, .inl (upd (fun _ => 0) (Int32.toNatClampNeg 1) 1)))]) X hK hA h (fun sz => kX11_talks_417 l D cy x0 (u_0.1 31) (u_0.1 37) a1 a2 (u_0.1 0) (u_0.1 1) (u_0.1 39) (u_0.1 41) (u_0.1 43) (u_0.1 14) (u_0.1 15) (u_0.1 16) (u_0.1 17) (u_0.1 20) (u_0.1 24) (u_0.1 29) (u_0.1 32) (u_0.1 33) (u_0.1 34) (u_0.1 35) (u_0.1 36) (u_0.1 38)  sz) wm_4_239 wm_5_2 wm_1_1 hd_X11_talks wm_5_0 wm_5_1 (ci := 11) (q0 := 0) rfl rfl ⟨Nat.le_of_ble_eq_true rfl, Nat.le_of_ble_eq_true rfl⟩ hl.1 rfl (Nat.le_of_ble_eq_true rfl) dL_law_896 ⟨Nat.le_of_ble_eq_true rfl, Nat.le_of_ble_eq_true rfl⟩ [0, 32, 38] [78, 98] rfl rfl (by decide) rfl rfl (fun r_9592 u_9592 Hp1 lc1 w_9592 hw1 => ?_)
  clear h
  obtain rfl : r_9592 = (-2) := w_9592
  clear w_9592
  replace hw1 : qW D _ _ [(y0, .inr (12, [.int 0, .ref (u_1.1 19), .ref (u_1.1 0), .ref (u_1.1 1), .ref (u_1.1 2), .int 0, .int 0, .int 0, .int 0, .int 0, .int 0, .int 0, .int 0, .int 0, .int (-1), .int 0, .ref (u_1.1 3), .ref (u_1.1 4), .ref (u_1.1 5), .ref (u_1.1 6), .ref (u_1.1 7), .int 0, .int 0, .ref (u_1.1 8), .ref (u_1.1 9), .ref (u_1.1 10), .int 0, .int 0, .ref (u_1.1 11), .ref (u_1.1 12), .ref (u_1.1 13), .ref (u_1.1 14), .ref (u_1.1 15), .int 0, .ref (u_1.1 16), .ref (u_1.1 17), .ref (u_1.1 18)])), ((u_1.1 19), .inl (cy 1, 3918, .inl (upd (fun _ => 0) (Int32.toNatClampNeg 1) 1)))] _ _ := hw1
  refine lv_aload_n hx hb dL_law_899 rfl (lv_at hl 1 rfl) ?_
  refine lv_aload_n hx hb dL_law_900 rfl (lv_at hl 3 rfl) ?_
  refine lv_iload_n hx hb dL_law_901 rfl (lv_at hl 0 rfl) ?_
  refine lv_iconst (v := 1) hx hb dL_law_902 (by decide) ?_
  refine lv_iadd hx hb dL_law_903 ?_
  refine q_c 1 (by decide +kernel) ?_
  refine va_sld X.1 X.2.1 hX hbl hbA hw1.2.2 (q_in (by decide +kernel)) dL_law_904 ?_
  refine q_c a1 e1 ?_
  refine lv_aload_n hx hb dL_law_905 rfl (lv_at hl 3 rfl) ?_
  refine lv_iload_n hx hb dL_law_906 rfl (lv_at hl 0 rfl) ?_
  refine lv_iconst (v := 2) hx hb dL_law_907 (by decide) ?_
  refine lv_iadd hx hb dL_law_908 ?_
  refine q_c 2 (by decide +kernel) ?_
  refine va_sld X.1 X.2.1 hX hbl hbA hw1.2.2 (q_in (by decide +kernel)) dL_law_909 ?_
  refine q_c a2 e2 ?_
  refine q_callVi (rest := [.int (-2)]) (wr := []) X hK hA hw1 (fun sz => kX12_talks_420 l D cy y0 (u_1.1 19) a1 a2 (u_1.1 0) (u_1.1 1) (u_1.1 2) (u_1.1 3) (u_1.1 4) (u_1.1 5) (u_1.1 6) (u_1.1 7) (u_1.1 8) (u_1.1 9) (u_1.1 10) (u_1.1 11) (u_1.1 12) (u_1.1 13) (u_1.1 14) (u_1.1 15) (u_1.1 16) (u_1.1 17) (u_1.1 18) (upd (fun _ => 0) (Int32.toNatClampNeg 1) 1) (q_un (by decide +kernel) rfl) sz) wm_7_160 wm_7_163 wm_1_12 hd_X12_talks wm_7_161 wm_7_162 (ci := 12) (q0 := 0) rfl rfl ⟨Nat.le_of_ble_eq_true rfl, Nat.le_of_ble_eq_true rfl⟩ hl.1 rfl (Nat.le_of_ble_eq_true rfl) dL_law_910 ⟨Nat.le_of_ble_eq_true rfl, Nat.le_of_ble_eq_true rfl⟩ [0, 1] [] rfl rfl (by decide) rfl rfl (fun r_9598 u_9598 Hp2 lc2 w_9598 hw2 => ?_)
  clear Hp1 lc1 hw1
  obtain rfl : r_9598 = (-2) := w_9598
  clear w_9598
  replace hw2 : qW D _ _ [] _ _ := hw2
  refine lv_icmp_eq (tgt := 1461) hx hb dL_law_913 (by decide) (fun _ => ?_) (fun c => absurd c (by decide +kernel))
  exact law_tail l X hr hlk hX hbl hw2.2.2 hl (Nat.le_of_ble_eq_true rfl) (Nat.le_of_ble_eq_true rfl)
set_option maxHeartbeats 4000000 in
set_option maxRecDepth 100000 in
theorem lc_talkBy (l : Launch) {p : Program} {e : Env} {s : State} {m : MethodId} {below : List Frame} {meth : Method} {c : Code} {b : Nat} {xs : Nat → Int32} {D : va_G} {cy : Nat → ClassId} {H : Heap} {locs : List Loc} {ls : Array Slot} {x0 y0 : Nat} {u_0 u_1 : SS} (X : qX p s m #[Value.ref b] c cL_law 4 RL) (hr : meth.sig.returnType = ret) (hlk : meth.locks = false) (hX : va_X b 6 xs s s.heap) (hbl : b < s.heap.size) (hK : qK D cy s) (a1 a2 a3 a4 a5 : Int32) (e1 : xs (Int32.toNatClampNeg 1) = a1) (e2 : xs (Int32.toNatClampNeg 2) = a2) (e3 : xs (Int32.toNatClampNeg 3) = a3) (e4 : xs (Int32.toNatClampNeg 4) = a4) (e5 : xs (Int32.toNatClampNeg 5) = a5) (h : qW D (fun q => s.heap.size ≤ q) s.heap (wLaw cy x0 y0 u_0 u_1) H locs) (hl : lv_has ls 4 [(3, .int 0), (2, .ref y0), (1, .ref x0), (0, .ref b)]) : W p l e room_1 s m #[Value.ref b] below meth c H locs 99 25544 (lw_Z below #[Value.ref b] s) (F0 m 918 ls []) := by
  obtain ⟨hx, hb, hml, hown, ht⟩ := id X
  have hA : ∀ q : Nat, s.heap.size ≤ q → (fun q : Nat => s.heap.size ≤ q) q := fun _ h => h
  have hbA : ¬ (fun q : Nat => s.heap.size ≤ q) b := Nat.not_le.mpr hbl
  refine lv_aload_n hx hb dL_law_918 rfl (lv_at hl 2 rfl) ?_
  refine lv_aload_n hx hb dL_law_919 rfl (lv_at hl 3 rfl) ?_
  refine lv_iload_n hx hb dL_law_920 rfl (lv_at hl 0 rfl) ?_
  refine lv_iconst (v := 1) hx hb dL_law_921 (by decide) ?_
  refine lv_iadd hx hb dL_law_922 ?_
  refine q_c 1 (by decide +kernel) ?_
  refine va_sld X.1 X.2.1 hX hbl hbA h.2.2 (q_in (by decide +kernel)) dL_law_923 ?_
  refine q_c a1 e1 ?_
  refine lv_aload_n hx hb dL_law_924 rfl (lv_at hl 3 rfl) ?_
  refine lv_iload_n hx hb dL_law_925 rfl (lv_at hl 0 rfl) ?_
  refine lv_iconst (v := 2) hx hb dL_law_926 (by decide) ?_
  refine lv_iadd hx hb dL_law_927 ?_
  refine q_c 2 (by decide +kernel) ?_
  refine va_sld X.1 X.2.1 hX hbl hbA h.2.2 (q_in (by decide +kernel)) dL_law_928 ?_
  refine q_c a2 e2 ?_
  refine lv_aload_n hx hb dL_law_929 rfl (lv_at hl 3 rfl) ?_
  refine lv_iload_n hx hb dL_law_930 rfl (lv_at hl 0 rfl) ?_
  refine lv_iconst (v := 3) hx hb dL_law_931 (by decide) ?_
  refine lv_iadd hx hb dL_law_932 ?_
  refine q_c 3 (by decide +kernel) ?_
  refine va_sld X.1 X.2.1 hX hbl hbA h.2.2 (q_in (by decide +kernel)) dL_law_933 ?_
  refine q_c a3 e3 ?_
  refine q_callVi (rest := []) (wr := [(y0, .inr (12, [.int 0, .ref (u_1.1 19), .ref (u_1.1 0), .ref (u_1.1 1), .ref (u_1.1 2), .int 0, .int 0, .int 0, .int 0, .int 0, .int 0, .int 0, .int 0, .int 0, .int (-1), .int 0, .ref (u_1.1 3), .ref (u_1.1 4), .ref (u_1.1 5), .ref (u_1.1 6), .ref (u_1.1 7), .int 0, .int 0, .ref (u_1.1 8), .ref (u_1.1 9), .ref (u_1.1 10), .int 0, .int 0, .ref (u_1.1 11), .ref (u_1.1 12), .ref (u_1.1 13), .ref (u_1.1 14), .ref (u_1.1 15), .int 0, .ref (u_1.1 16), .ref (u_1.1 17), .ref (u_1.1 18)])), ((u_1.1 19), .inl (cy 1, 3918, .inl (upd (fun _ => 0) (Int32.toNatClampNeg 1) 1)))]) X hK hA h (fun sz => kX11_talkBy_421 l D cy x0 (u_0.1 31) (u_0.1 37) a1 a2 a3 (u_0.1 0) (u_0.1 1) (u_0.1 39) (u_0.1 41) (u_0.1 43) (u_0.1 14) (u_0.1 15) (u_0.1 16) (u_0.1 17) (u_0.1 20) (u_0.1 24) (u_0.1 29) (u_0.1 32) (u_0.1 33) (u_0.1 34) (u_0.1 35) (u_0.1 36) (u_0.1 38)  sz) wm_5_19 wm_5_22 wm_1_1 hd_X11_talkBy wm_5_20 wm_5_21 (ci := 11) (q0 := 0) rfl rfl ⟨Nat.le_of_ble_eq_true rfl, Nat.le_of_ble_eq_true rfl⟩ hl.1 rfl (Nat.le_of_ble_eq_true rfl) dL_law_934 ⟨Nat.le_of_ble_eq_true rfl, Nat.le_of_ble_eq_true rfl⟩ [0, 32, 38] [78, 98] rfl rfl (by decide) rfl rfl (fun r_9630 u_9630 Hp1 lc1 w_9630 hw1 => ?_)
  clear h
  obtain rfl : r_9630 = (-2) := w_9630
  clear w_9630
  replace hw1 : qW D _ _ [(y0, .inr (12, [.int 0, .ref (u_1.1 19), .ref (u_1.1 0), .ref (u_1.1 1), .ref (u_1.1 2), .int 0, .int 0, .int 0, .int 0, .int 0, .int 0, .int 0, .int 0, .int 0, .int (-1), .int 0, .ref (u_1.1 3), .ref (u_1.1 4), .ref (u_1.1 5), .ref (u_1.1 6), .ref (u_1.1 7), .int 0, .int 0, .ref (u_1.1 8), .ref (u_1.1 9), .ref (u_1.1 10), .int 0, .int 0, .ref (u_1.1 11), .ref (u_1.1 12), .ref (u_1.1 13), .ref (u_1.1 14), .ref (u_1.1 15), .int 0, .ref (u_1.1 16), .ref (u_1.1 17), .ref (u_1.1 18)])), ((u_1.1 19), .inl (cy 1, 3918, .inl (upd (fun _ => 0) (Int32.toNatClampNeg 1) 1)))] _ _ := hw1
  refine lv_aload_n hx hb dL_law_937 rfl (lv_at hl 1 rfl) ?_
  refine lv_aload_n hx hb dL_law_938 rfl (lv_at hl 3 rfl) ?_
  refine lv_iload_n hx hb dL_law_939 rfl (lv_at hl 0 rfl) ?_
  refine lv_iconst (v := 1) hx hb dL_law_940 (by decide) ?_
  refine lv_iadd hx hb dL_law_941 ?_
  refine q_c 1 (by decide +kernel) ?_
  refine va_sld X.1 X.2.1 hX hbl hbA hw1.2.2 (q_in (by decide +kernel)) dL_law_942 ?_
  refine q_c a1 e1 ?_
  refine lv_aload_n hx hb dL_law_943 rfl (lv_at hl 3 rfl) ?_
  refine lv_iload_n hx hb dL_law_944 rfl (lv_at hl 0 rfl) ?_
  refine lv_iconst (v := 2) hx hb dL_law_945 (by decide) ?_
  refine lv_iadd hx hb dL_law_946 ?_
  refine q_c 2 (by decide +kernel) ?_
  refine va_sld X.1 X.2.1 hX hbl hbA hw1.2.2 (q_in (by decide +kernel)) dL_law_947 ?_
  refine q_c a2 e2 ?_
  refine lv_aload_n hx hb dL_law_948 rfl (lv_at hl 3 rfl) ?_
  refine lv_iload_n hx hb dL_law_949 rfl (lv_at hl 0 rfl) ?_
  refine lv_iconst (v := 3) hx hb dL_law_950 (by decide) ?_
  refine lv_iadd hx hb dL_law_951 ?_
  refine q_c 3 (by decide +kernel) ?_
  refine va_sld X.1 X.2.1 hX hbl hbA hw1.2.2 (q_in (by decide +kernel)) dL_law_952 ?_
  refine q_c a3 e3 ?_
  refine q_callVi (rest := [.int (-2)]) (wr := []) X hK hA hw1 (fun sz => kX12_talkBy_422 l D cy y0 (u_1.1 19) a1 a2 a3 (u_1.1 0) (u_1.1 1) (u_1.1 2) (u_1.1 3) (u_1.1 4) (u_1.1 5) (u_1.1 6) (u_1.1 7) (u_1.1 8) (u_1.1 9) (u_1.1 10) (u_1.1 11) (u_1.1 12) (u_1.1 13) (u_1.1 14) (u_1.1 15) (u_1.1 16) (u_1.1 17) (u_1.1 18) (upd (fun _ => 0) (Int32.toNatClampNeg 1) 1) (q_un (by decide +kernel) rfl) sz) wm_7_180 wm_7_183 wm_1_12 hd_X12_talkBy wm_7_181 wm_7_182 (ci := 12) (q0 := 0) rfl rfl ⟨Nat.le_of_ble_eq_true rfl, Nat.le_of_ble_eq_true rfl⟩ hl.1 rfl (Nat.le_of_ble_eq_true rfl) dL_law_953 ⟨Nat.le_of_ble_eq_true rfl, Nat.le_of_ble_eq_true rfl⟩ [0, 1] [] rfl rfl (by decide) rfl rfl (fun r_9636 u_9636 Hp2 lc2 w_9636 hw2 => ?_)
  clear Hp1 lc1 hw1
  obtain rfl : r_9636 = (-2) := w_9636
  clear w_9636
  replace hw2 : qW D _ _ [] _ _ := hw2
  refine lv_icmp_eq (tgt := 1461) hx hb dL_law_956 (by decide) (fun _ => ?_) (fun c => absurd c (by decide +kernel))
  exact law_tail l X hr hlk hX hbl hw2.2.2 hl (Nat.le_of_ble_eq_true rfl) (Nat.le_of_ble_eq_true rfl)
set_option maxHeartbeats 4000000 in
set_option maxRecDepth 100000 in
theorem lc_word (l : Launch) {p : Program} {e : Env} {s : State} {m : MethodId} {below : List Frame} {meth : Method} {c : Code} {b : Nat} {xs : Nat → Int32} {D : va_G} {cy : Nat → ClassId} {H : Heap} {locs : List Loc} {ls : Array Slot} {x0 y0 : Nat} {u_0 u_1 : SS} (X : qX p s m #[Value.ref b] c cL_law 4 RL) (hr : meth.sig.returnType = ret) (hlk : meth.locks = false) (hX : va_X b 6 xs s s.heap) (hbl : b < s.heap.size) (hK : qK D cy s) (a1 a2 a3 a4 a5 : Int32) (e1 : xs (Int32.toNatClampNeg 1) = a1) (e2 : xs (Int32.toNatClampNeg 2) = a2) (e3 : xs (Int32.toNatClampNeg 3) = a3) (e4 : xs (Int32.toNatClampNeg 4) = a4) (e5 : xs (Int32.toNatClampNeg 5) = a5) (h : qW D (fun q => s.heap.size ≤ q) s.heap (wLaw cy x0 y0 u_0 u_1) H locs) (hl : lv_has ls 4 [(3, .int 0), (2, .ref y0), (1, .ref x0), (0, .ref b)]) : W p l e room_1 s m #[Value.ref b] below meth c H locs 99 25544 (lw_Z below #[Value.ref b] s) (F0 m 961 ls []) := by
  obtain ⟨hx, hb, hml, hown, ht⟩ := id X
  have hA : ∀ q : Nat, s.heap.size ≤ q → (fun q : Nat => s.heap.size ≤ q) q := fun _ h => h
  have hbA : ¬ (fun q : Nat => s.heap.size ≤ q) b := Nat.not_le.mpr hbl
  refine lv_aload_n hx hb dL_law_961 rfl (lv_at hl 2 rfl) ?_
  refine q_callVi (rest := []) (wr := [(y0, .inr (12, [.int 0, .ref (u_1.1 19), .ref (u_1.1 0), .ref (u_1.1 1), .ref (u_1.1 2), .int 0, .int 0, .int 0, .int 0, .int 0, .int 0, .int 0, .int 0, .int 0, .int (-1), .int 0, .ref (u_1.1 3), .ref (u_1.1 4), .ref (u_1.1 5), .ref (u_1.1 6), .ref (u_1.1 7), .int 0, .int 0, .ref (u_1.1 8), .ref (u_1.1 9), .ref (u_1.1 10), .int 0, .int 0, .ref (u_1.1 11), .ref (u_1.1 12), .ref (u_1.1 13), .ref (u_1.1 14), .ref (u_1.1 15), .int 0, .ref (u_1.1 16), .ref (u_1.1 17), .ref (u_1.1 18)])), ((u_1.1 8), .inl (cy 1, 1024, .inl (fun _ => 0))), ((u_1.1 19), .inl (cy 1, 3918, .inl (upd (fun _ => 0) (Int32.toNatClampNeg 1) 1)))]) X hK hA h (fun sz => kX11_word_424 l D cy x0 (u_0.1 20) (u_0.1 21) (u_0.1 31) (u_0.1 37) (u_0.1 0) (u_0.1 1) (u_0.1 39) (u_0.1 41) (u_0.1 43) (u_0.1 14) (u_0.1 15) (u_0.1 16) (u_0.1 17) (u_0.1 24) (u_0.1 29) (u_0.1 22) (u_0.1 23) (u_0.1 32) (u_0.1 33) (u_0.1 34) (u_0.1 35) (u_0.1 36) (u_0.1 38)  sz) wm_5_23 wm_5_26 wm_1_1 hd_X11_word wm_5_24 wm_5_25 (ci := 11) (q0 := 0) rfl rfl ⟨Nat.le_of_ble_eq_true rfl, Nat.le_of_ble_eq_true rfl⟩ hl.1 rfl (Nat.le_of_ble_eq_true rfl) dL_law_962 ⟨Nat.le_of_ble_eq_true rfl, Nat.le_of_ble_eq_true rfl⟩ [0, 21, 22, 32, 38] [78, 87, 98] rfl rfl (by decide) rfl rfl (fun r_9697 u_9697 Hp1 lc1 w_9697 hw1 => ?_)
  clear h
  obtain rfl : r_9697 = (-1) := w_9697
  clear w_9697
  replace hw1 : qW D _ _ [(y0, .inr (12, [.int 0, .ref (u_1.1 19), .ref (u_1.1 0), .ref (u_1.1 1), .ref (u_1.1 2), .int 0, .int 0, .int 0, .int 0, .int 0, .int 0, .int 0, .int 0, .int 0, .int (-1), .int 0, .ref (u_1.1 3), .ref (u_1.1 4), .ref (u_1.1 5), .ref (u_1.1 6), .ref (u_1.1 7), .int 0, .int 0, .ref (u_1.1 8), .ref (u_1.1 9), .ref (u_1.1 10), .int 0, .int 0, .ref (u_1.1 11), .ref (u_1.1 12), .ref (u_1.1 13), .ref (u_1.1 14), .ref (u_1.1 15), .int 0, .ref (u_1.1 16), .ref (u_1.1 17), .ref (u_1.1 18)])), ((u_1.1 8), .inl (cy 1, 1024, .inl (fun _ => 0))), ((u_1.1 19), .inl (cy 1, 3918, .inl (upd (fun _ => 0) (Int32.toNatClampNeg 1) 1)))] _ _ := hw1
  refine lv_aload_n hx hb dL_law_965 rfl (lv_at hl 1 rfl) ?_
  refine q_callVi (rest := [.int (-1)]) (wr := []) X hK hA hw1 (fun sz => kX12_word_425 l D cy y0 (u_1.1 8) (u_1.1 19) (u_1.1 0) (u_1.1 1) (u_1.1 2) (u_1.1 3) (u_1.1 4) (u_1.1 5) (u_1.1 6) (u_1.1 7) (u_1.1 9) (u_1.1 10) (u_1.1 11) (u_1.1 12) (u_1.1 13) (u_1.1 14) (u_1.1 15) (u_1.1 16) (u_1.1 17) (u_1.1 18) (upd (fun _ => 0) (Int32.toNatClampNeg 1) 1) (q_un (by decide +kernel) rfl) (q_un (by decide +kernel) rfl) (q_un (by decide +kernel) rfl) sz) wm_7_184 wm_7_187 wm_1_12 hd_X12_word wm_7_185 wm_7_186 (ci := 12) (q0 := 0) rfl rfl ⟨Nat.le_of_ble_eq_true rfl, Nat.le_of_ble_eq_true rfl⟩ hl.1 rfl (Nat.le_of_ble_eq_true rfl) dL_law_966 ⟨Nat.le_of_ble_eq_true rfl, Nat.le_of_ble_eq_true rfl⟩ [0, 1, 2] [] rfl rfl (by decide) rfl rfl (fun r_9704 u_9704 Hp2 lc2 w_9704 hw2 => ?_)
  clear Hp1 lc1 hw1
  obtain rfl : r_9704 = (-1) := w_9704
  clear w_9704
  replace hw2 : qW D _ _ [] _ _ := hw2
  refine lv_icmp_eq (tgt := 1461) hx hb dL_law_969 (by decide) (fun _ => ?_) (fun c => absurd c (by decide +kernel))
  exact law_tail l X hr hlk hX hbl hw2.2.2 hl (Nat.le_of_ble_eq_true rfl) (Nat.le_of_ble_eq_true rfl)
set_option maxHeartbeats 4000000 in
set_option maxRecDepth 100000 in
theorem lc_ayes (l : Launch) {p : Program} {e : Env} {s : State} {m : MethodId} {below : List Frame} {meth : Method} {c : Code} {b : Nat} {xs : Nat → Int32} {D : va_G} {cy : Nat → ClassId} {H : Heap} {locs : List Loc} {ls : Array Slot} {x0 y0 : Nat} {u_0 u_1 : SS} (X : qX p s m #[Value.ref b] c cL_law 4 RL) (hr : meth.sig.returnType = ret) (hlk : meth.locks = false) (hX : va_X b 6 xs s s.heap) (hbl : b < s.heap.size) (hK : qK D cy s) (a1 a2 a3 a4 a5 : Int32) (e1 : xs (Int32.toNatClampNeg 1) = a1) (e2 : xs (Int32.toNatClampNeg 2) = a2) (e3 : xs (Int32.toNatClampNeg 3) = a3) (e4 : xs (Int32.toNatClampNeg 4) = a4) (e5 : xs (Int32.toNatClampNeg 5) = a5) (h : qW D (fun q => s.heap.size ≤ q) s.heap (wLaw cy x0 y0 u_0 u_1) H locs) (hl : lv_has ls 4 [(3, .int 0), (2, .ref y0), (1, .ref x0), (0, .ref b)]) : W p l e room_1 s m #[Value.ref b] below meth c H locs 99 25544 (lw_Z below #[Value.ref b] s) (F0 m 974 ls []) := by
  obtain ⟨hx, hb, hml, hown, ht⟩ := id X
  have hA : ∀ q : Nat, s.heap.size ≤ q → (fun q : Nat => s.heap.size ≤ q) q := fun _ h => h
  have hbA : ¬ (fun q : Nat => s.heap.size ≤ q) b := Nat.not_le.mpr hbl
  by_cases c_9709 : a1 ≤ (-1)
  · skip
    refine lv_aload_n hx hb dL_law_974 rfl (lv_at hl 2 rfl) ?_
    refine lv_aload_n hx hb dL_law_975 rfl (lv_at hl 3 rfl) ?_
    refine lv_iload_n hx hb dL_law_976 rfl (lv_at hl 0 rfl) ?_
    refine lv_iconst (v := 1) hx hb dL_law_977 (by decide) ?_
    refine lv_iadd hx hb dL_law_978 ?_
    refine q_c 1 (by decide +kernel) ?_
    refine va_sld X.1 X.2.1 hX hbl hbA h.2.2 (q_in (by decide +kernel)) dL_law_979 ?_
    refine q_c a1 e1 ?_
    have g_9747 : a1 ≤ ((-1) : Int32) := by
      simp only [Int32.lt_iff_toInt_lt, Int32.le_iff_toInt_le, ← Int32.toInt_inj] at c_9709 ⊢
      have k_0 : ((-1) : Int32).toInt = -1 := by decide
      omega
    refine q_callVi (rest := []) (wr := [(y0, .inr (12, [.int 0, .ref (u_1.1 19), .ref (u_1.1 0), .ref (u_1.1 1), .ref (u_1.1 2), .int 0, .int 0, .int 0, .int 0, .int 0, .int 0, .int 0, .int 0, .int 0, .int (-1), .int 0, .ref (u_1.1 3), .ref (u_1.1 4), .ref (u_1.1 5), .ref (u_1.1 6), .ref (u_1.1 7), .int 0, .int 0, .ref (u_1.1 8), .ref (u_1.1 9), .ref (u_1.1 10), .int 0, .int 0, .ref (u_1.1 11), .ref (u_1.1 12), .ref (u_1.1 13), .ref (u_1.1 14), .ref (u_1.1 15), .int 0, .ref (u_1.1 16), .ref (u_1.1 17), .ref (u_1.1 18)]))]) X hK hA h (fun sz => kX11_ayes_427 l D cy x0 a1 (u_0.1 0) (u_0.1 1) (u_0.1 37) (u_0.1 39) (u_0.1 41) (u_0.1 43) (u_0.1 14) (u_0.1 15) (u_0.1 16) (u_0.1 17) (u_0.1 20) (u_0.1 24) (u_0.1 29) g_9747 sz) wm_5_32 wm_5_35 wm_1_1 hd_X11_ayes wm_5_33 wm_5_34 (ci := 11) (q0 := 0) rfl rfl ⟨Nat.le_of_ble_eq_true rfl, Nat.le_of_ble_eq_true rfl⟩ hl.1 rfl (Nat.le_of_ble_eq_true rfl) dL_law_980 ⟨Nat.le_of_ble_eq_true rfl, Nat.le_of_ble_eq_true rfl⟩ [0] [78] rfl rfl (by decide) rfl rfl (fun r_9748 u_9748 Hp1 lc1 w_9748 hw1 => ?_)
    clear h
    obtain rfl : r_9748 = (-3) := w_9748
    clear w_9748
    replace hw1 : qW D _ _ [(y0, .inr (12, [.int 0, .ref (u_1.1 19), .ref (u_1.1 0), .ref (u_1.1 1), .ref (u_1.1 2), .int 0, .int 0, .int 0, .int 0, .int 0, .int 0, .int 0, .int 0, .int 0, .int (-1), .int 0, .ref (u_1.1 3), .ref (u_1.1 4), .ref (u_1.1 5), .ref (u_1.1 6), .ref (u_1.1 7), .int 0, .int 0, .ref (u_1.1 8), .ref (u_1.1 9), .ref (u_1.1 10), .int 0, .int 0, .ref (u_1.1 11), .ref (u_1.1 12), .ref (u_1.1 13), .ref (u_1.1 14), .ref (u_1.1 15), .int 0, .ref (u_1.1 16), .ref (u_1.1 17), .ref (u_1.1 18)]))] _ _ := hw1
    refine lv_aload_n hx hb dL_law_983 rfl (lv_at hl 1 rfl) ?_
    refine lv_aload_n hx hb dL_law_984 rfl (lv_at hl 3 rfl) ?_
    refine lv_iload_n hx hb dL_law_985 rfl (lv_at hl 0 rfl) ?_
    refine lv_iconst (v := 1) hx hb dL_law_986 (by decide) ?_
    refine lv_iadd hx hb dL_law_987 ?_
    refine q_c 1 (by decide +kernel) ?_
    refine va_sld X.1 X.2.1 hX hbl hbA hw1.2.2 (q_in (by decide +kernel)) dL_law_988 ?_
    refine q_c a1 e1 ?_
    have g_9754 : a1 ≤ ((-1) : Int32) := by
      simp only [Int32.lt_iff_toInt_lt, Int32.le_iff_toInt_le, ← Int32.toInt_inj] at c_9709 ⊢
      have k_0 : ((-1) : Int32).toInt = -1 := by decide
      omega
    refine q_callVi (rest := [.int (-3)]) (wr := []) X hK hA hw1 (fun sz => kX12_ayes_430 l D cy y0 a1 (u_1.1 19) (u_1.1 0) (u_1.1 1) (u_1.1 2) (u_1.1 3) (u_1.1 4) (u_1.1 5) (u_1.1 6) (u_1.1 7) (u_1.1 8) (u_1.1 9) (u_1.1 10) (u_1.1 11) (u_1.1 12) (u_1.1 13) (u_1.1 14) (u_1.1 15) (u_1.1 16) (u_1.1 17) (u_1.1 18) g_9754 sz) wm_7_188 wm_7_191 wm_1_12 hd_X12_ayes wm_7_189 wm_7_190 (ci := 12) (q0 := 0) rfl rfl ⟨Nat.le_of_ble_eq_true rfl, Nat.le_of_ble_eq_true rfl⟩ hl.1 rfl (Nat.le_of_ble_eq_true rfl) dL_law_989 ⟨Nat.le_of_ble_eq_true rfl, Nat.le_of_ble_eq_true rfl⟩ [0] [] rfl rfl (by decide) rfl rfl (fun r_9755 u_9755 Hp2 lc2 w_9755 hw2 => ?_)
    clear Hp1 lc1 hw1
    obtain rfl : r_9755 = (-3) := w_9755
    clear w_9755
    replace hw2 : qW D _ _ [] _ _ := hw2
    refine lv_icmp_eq (tgt := 1461) hx hb dL_law_992 (by decide) (fun _ => ?_) (fun c => absurd c (by decide +kernel))
    exact law_tail l X hr hlk hX hbl hw2.2.2 hl (Nat.le_of_ble_eq_true rfl) (Nat.le_of_ble_eq_true rfl)
  by_cases c_9756 : a1 ≤ 9
  · skip
    refine lv_aload_n hx hb dL_law_974 rfl (lv_at hl 2 rfl) ?_
    refine lv_aload_n hx hb dL_law_975 rfl (lv_at hl 3 rfl) ?_
    refine lv_iload_n hx hb dL_law_976 rfl (lv_at hl 0 rfl) ?_
    refine lv_iconst (v := 1) hx hb dL_law_977 (by decide) ?_
    refine lv_iadd hx hb dL_law_978 ?_
    refine q_c 1 (by decide +kernel) ?_
    refine va_sld X.1 X.2.1 hX hbl hbA hw2.2.2 (q_in (by decide +kernel)) dL_law_979 ?_
    refine q_c a1 e1 ?_
    have g_9858 : (0 : Int32) ≤ a1 := by
      simp only [Int32.lt_iff_toInt_lt, Int32.le_iff_toInt_le, ← Int32.toInt_inj] at c_9709 c_9756 ⊢
      have k_0 : ((-1) : Int32).toInt = -1 := by decide
      have k_1 : (9 : Int32).toInt = 9 := by decide
      have k_g : (0 : Int32).toInt = 0 := by decide
      omega
    have g_9859 : a1 ≤ (9 : Int32) := by
      simp only [Int32.lt_iff_toInt_lt, Int32.le_iff_toInt_le, ← Int32.toInt_inj] at c_9709 c_9756 ⊢
      have k_0 : ((-1) : Int32).toInt = -1 := by decide
      have k_1 : (9 : Int32).toInt = 9 := by decide
      omega
    refine q_callVi (rest := []) (wr := [(y0, .inr (12, [.int 0, .ref (u_1.1 19), .ref (u_1.1 0), .ref (u_1.1 1), .ref (u_1.1 2), .int 0, .int 0, .int 0, .int 0, .int 0, .int 0, .int 0, .int 0, .int 0, .int (-1), .int 0, .ref (u_1.1 3), .ref (u_1.1 4), .ref (u_1.1 5), .ref (u_1.1 6), .ref (u_1.1 7), .int 0, .int 0, .ref (u_1.1 8), .ref (u_1.1 9), .ref (u_1.1 10), .int 0, .int 0, .ref (u_1.1 11), .ref (u_1.1 12), .ref (u_1.1 13), .ref (u_1.1 14), .ref (u_1.1 15), .int 0, .ref (u_1.1 16), .ref (u_1.1 17), .ref (u_1.1 18)])), ((u_1.1 19), .inl (cy 1, 3918, .inl (upd (fun _ => 0) (Int32.toNatClampNeg 1) 1)))]) X hK hA hw2 (fun sz => kX11_ayes_433 l D cy x0 (u_0.1 31) (u_0.1 37) a1 (u_0.1 0) (u_0.1 1) (u_0.1 39) (u_0.1 41) (u_0.1 43) (u_0.1 14) (u_0.1 15) (u_0.1 16) (u_0.1 17) (u_0.1 20) (u_0.1 24) (u_0.1 29) (u_0.1 32) (u_0.1 33) (u_0.1 34) (u_0.1 35) (u_0.1 36) (u_0.1 38) g_9858 g_9859 sz) wm_5_32 wm_5_35 wm_1_1 hd_X11_ayes wm_5_33 wm_5_34 (ci := 11) (q0 := 0) rfl rfl ⟨Nat.le_of_ble_eq_true rfl, Nat.le_of_ble_eq_true rfl⟩ hl.1 rfl (Nat.le_of_ble_eq_true rfl) dL_law_980 ⟨Nat.le_of_ble_eq_true rfl, Nat.le_of_ble_eq_true rfl⟩ [0, 32, 38] [78, 98] rfl rfl (by decide) rfl rfl (fun r_9860 u_9860 Hp3 lc3 w_9860 hw3 => ?_)
    clear Hp2 lc2 hw2
    obtain rfl : r_9860 = 0 := w_9860
    clear w_9860
    replace hw3 : qW D _ _ [(y0, .inr (12, [.int 0, .ref (u_1.1 19), .ref (u_1.1 0), .ref (u_1.1 1), .ref (u_1.1 2), .int 0, .int 0, .int 0, .int 0, .int 0, .int 0, .int 0, .int 0, .int 0, .int (-1), .int 0, .ref (u_1.1 3), .ref (u_1.1 4), .ref (u_1.1 5), .ref (u_1.1 6), .ref (u_1.1 7), .int 0, .int 0, .ref (u_1.1 8), .ref (u_1.1 9), .ref (u_1.1 10), .int 0, .int 0, .ref (u_1.1 11), .ref (u_1.1 12), .ref (u_1.1 13), .ref (u_1.1 14), .ref (u_1.1 15), .int 0, .ref (u_1.1 16), .ref (u_1.1 17), .ref (u_1.1 18)])), ((u_1.1 19), .inl (cy 1, 3918, .inl (upd (fun _ => 0) (Int32.toNatClampNeg 1) 1)))] _ _ := hw3
    refine lv_aload_n hx hb dL_law_983 rfl (lv_at hl 1 rfl) ?_
    refine lv_aload_n hx hb dL_law_984 rfl (lv_at hl 3 rfl) ?_
    refine lv_iload_n hx hb dL_law_985 rfl (lv_at hl 0 rfl) ?_
    refine lv_iconst (v := 1) hx hb dL_law_986 (by decide) ?_
    refine lv_iadd hx hb dL_law_987 ?_
    refine q_c 1 (by decide +kernel) ?_
    refine va_sld X.1 X.2.1 hX hbl hbA hw3.2.2 (q_in (by decide +kernel)) dL_law_988 ?_
    refine q_c a1 e1 ?_
    have g_9874 : (0 : Int32) ≤ a1 := by
      simp only [Int32.lt_iff_toInt_lt, Int32.le_iff_toInt_le, ← Int32.toInt_inj] at c_9709 c_9756 ⊢
      have k_0 : ((-1) : Int32).toInt = -1 := by decide
      have k_1 : (9 : Int32).toInt = 9 := by decide
      have k_g : (0 : Int32).toInt = 0 := by decide
      omega
    have g_9875 : a1 ≤ (9 : Int32) := by
      simp only [Int32.lt_iff_toInt_lt, Int32.le_iff_toInt_le, ← Int32.toInt_inj] at c_9709 c_9756 ⊢
      have k_0 : ((-1) : Int32).toInt = -1 := by decide
      have k_1 : (9 : Int32).toInt = 9 := by decide
      omega
    refine q_callVi (rest := [.int 0]) (wr := []) X hK hA hw3 (fun sz => kX12_ayes_438 l D cy y0 (u_1.1 19) a1 (u_1.1 0) (u_1.1 1) (u_1.1 2) (u_1.1 3) (u_1.1 4) (u_1.1 5) (u_1.1 6) (u_1.1 7) (u_1.1 8) (u_1.1 9) (u_1.1 10) (u_1.1 11) (u_1.1 12) (u_1.1 13) (u_1.1 14) (u_1.1 15) (u_1.1 16) (u_1.1 17) (u_1.1 18) (upd (fun _ => 0) (Int32.toNatClampNeg 1) 1) g_9874 g_9875 (q_un (by decide +kernel) rfl) (q_un (by decide +kernel) rfl) (q_un (by decide +kernel) rfl) sz) wm_7_188 wm_7_191 wm_1_12 hd_X12_ayes wm_7_189 wm_7_190 (ci := 12) (q0 := 0) rfl rfl ⟨Nat.le_of_ble_eq_true rfl, Nat.le_of_ble_eq_true rfl⟩ hl.1 rfl (Nat.le_of_ble_eq_true rfl) dL_law_989 ⟨Nat.le_of_ble_eq_true rfl, Nat.le_of_ble_eq_true rfl⟩ [0, 1] [] rfl rfl (by decide) rfl rfl (fun r_9876 u_9876 Hp4 lc4 w_9876 hw4 => ?_)
    clear Hp3 lc3 hw3
    obtain rfl : r_9876 = 0 := w_9876
    clear w_9876
    replace hw4 : qW D _ _ [] _ _ := hw4
    refine lv_icmp_eq (tgt := 1461) hx hb dL_law_992 (by decide) (fun _ => ?_) (fun c => absurd c (by decide +kernel))
    exact law_tail l X hr hlk hX hbl hw4.2.2 hl (Nat.le_of_ble_eq_true rfl) (Nat.le_of_ble_eq_true rfl)
  refine lv_aload_n hx hb dL_law_974 rfl (lv_at hl 2 rfl) ?_
  refine lv_aload_n hx hb dL_law_975 rfl (lv_at hl 3 rfl) ?_
  refine lv_iload_n hx hb dL_law_976 rfl (lv_at hl 0 rfl) ?_
  refine lv_iconst (v := 1) hx hb dL_law_977 (by decide) ?_
  refine lv_iadd hx hb dL_law_978 ?_
  refine q_c 1 (by decide +kernel) ?_
  refine va_sld X.1 X.2.1 hX hbl hbA hw4.2.2 (q_in (by decide +kernel)) dL_law_979 ?_
  refine q_c a1 e1 ?_
  have g_9928 : (10 : Int32) ≤ a1 := by
    simp only [Int32.lt_iff_toInt_lt, Int32.le_iff_toInt_le, ← Int32.toInt_inj] at c_9709 c_9756 ⊢
    have k_0 : ((-1) : Int32).toInt = -1 := by decide
    have k_1 : (9 : Int32).toInt = 9 := by decide
    have k_g : (10 : Int32).toInt = 10 := by decide
    omega
  refine q_callVi (rest := []) (wr := [(y0, .inr (12, [.int 0, .ref (u_1.1 19), .ref (u_1.1 0), .ref (u_1.1 1), .ref (u_1.1 2), .int 0, .int 0, .int 0, .int 0, .int 0, .int 0, .int 0, .int 0, .int 0, .int (-1), .int 0, .ref (u_1.1 3), .ref (u_1.1 4), .ref (u_1.1 5), .ref (u_1.1 6), .ref (u_1.1 7), .int 0, .int 0, .ref (u_1.1 8), .ref (u_1.1 9), .ref (u_1.1 10), .int 0, .int 0, .ref (u_1.1 11), .ref (u_1.1 12), .ref (u_1.1 13), .ref (u_1.1 14), .ref (u_1.1 15), .int 0, .ref (u_1.1 16), .ref (u_1.1 17), .ref (u_1.1 18)]))]) X hK hA hw4 (fun sz => kX11_ayes_440 l D cy x0 a1 (u_0.1 0) (u_0.1 1) (u_0.1 37) (u_0.1 39) (u_0.1 41) (u_0.1 43) (u_0.1 14) (u_0.1 15) (u_0.1 16) (u_0.1 17) (u_0.1 20) (u_0.1 24) (u_0.1 29) g_9928 sz) wm_5_32 wm_5_35 wm_1_1 hd_X11_ayes wm_5_33 wm_5_34 (ci := 11) (q0 := 0) rfl rfl ⟨Nat.le_of_ble_eq_true rfl, Nat.le_of_ble_eq_true rfl⟩ hl.1 rfl (Nat.le_of_ble_eq_true rfl) dL_law_980 ⟨Nat.le_of_ble_eq_true rfl, Nat.le_of_ble_eq_true rfl⟩ [0] [78] rfl rfl (by decide) rfl rfl (fun r_9929 u_9929 Hp5 lc5 w_9929 hw5 => ?_)
  clear Hp4 lc4 hw4
  obtain rfl : r_9929 = (-3) := w_9929
  clear w_9929
  replace hw5 : qW D _ _ [(y0, .inr (12, [.int 0, .ref (u_1.1 19), .ref (u_1.1 0), .ref (u_1.1 1), .ref (u_1.1 2), .int 0, .int 0, .int 0, .int 0, .int 0, .int 0, .int 0, .int 0, .int 0, .int (-1), .int 0, .ref (u_1.1 3), .ref (u_1.1 4), .ref (u_1.1 5), .ref (u_1.1 6), .ref (u_1.1 7), .int 0, .int 0, .ref (u_1.1 8), .ref (u_1.1 9), .ref (u_1.1 10), .int 0, .int 0, .ref (u_1.1 11), .ref (u_1.1 12), .ref (u_1.1 13), .ref (u_1.1 14), .ref (u_1.1 15), .int 0, .ref (u_1.1 16), .ref (u_1.1 17), .ref (u_1.1 18)]))] _ _ := hw5
  refine lv_aload_n hx hb dL_law_983 rfl (lv_at hl 1 rfl) ?_
  refine lv_aload_n hx hb dL_law_984 rfl (lv_at hl 3 rfl) ?_
  refine lv_iload_n hx hb dL_law_985 rfl (lv_at hl 0 rfl) ?_
  refine lv_iconst (v := 1) hx hb dL_law_986 (by decide) ?_
  refine lv_iadd hx hb dL_law_987 ?_
  refine q_c 1 (by decide +kernel) ?_
  refine va_sld X.1 X.2.1 hX hbl hbA hw5.2.2 (q_in (by decide +kernel)) dL_law_988 ?_
  refine q_c a1 e1 ?_
  have g_9936 : (10 : Int32) ≤ a1 := by
    simp only [Int32.lt_iff_toInt_lt, Int32.le_iff_toInt_le, ← Int32.toInt_inj] at c_9709 c_9756 ⊢
    have k_0 : ((-1) : Int32).toInt = -1 := by decide
    have k_1 : (9 : Int32).toInt = 9 := by decide
    have k_g : (10 : Int32).toInt = 10 := by decide
    omega
  refine q_callVi (rest := [.int (-3)]) (wr := []) X hK hA hw5 (fun sz => kX12_ayes_443 l D cy y0 a1 (u_1.1 19) (u_1.1 0) (u_1.1 1) (u_1.1 2) (u_1.1 3) (u_1.1 4) (u_1.1 5) (u_1.1 6) (u_1.1 7) (u_1.1 8) (u_1.1 9) (u_1.1 10) (u_1.1 11) (u_1.1 12) (u_1.1 13) (u_1.1 14) (u_1.1 15) (u_1.1 16) (u_1.1 17) (u_1.1 18) g_9936 sz) wm_7_188 wm_7_191 wm_1_12 hd_X12_ayes wm_7_189 wm_7_190 (ci := 12) (q0 := 0) rfl rfl ⟨Nat.le_of_ble_eq_true rfl, Nat.le_of_ble_eq_true rfl⟩ hl.1 rfl (Nat.le_of_ble_eq_true rfl) dL_law_989 ⟨Nat.le_of_ble_eq_true rfl, Nat.le_of_ble_eq_true rfl⟩ [0] [] rfl rfl (by decide) rfl rfl (fun r_9937 u_9937 Hp6 lc6 w_9937 hw6 => ?_)
  clear Hp5 lc5 hw5
  obtain rfl : r_9937 = (-3) := w_9937
  clear w_9937
  replace hw6 : qW D _ _ [] _ _ := hw6
  refine lv_icmp_eq (tgt := 1461) hx hb dL_law_992 (by decide) (fun _ => ?_) (fun c => absurd c (by decide +kernel))
  exact law_tail l X hr hlk hX hbl hw6.2.2 hl (Nat.le_of_ble_eq_true rfl) (Nat.le_of_ble_eq_true rfl)
set_option maxHeartbeats 4000000 in
set_option maxRecDepth 100000 in
theorem lc_passes (l : Launch) {p : Program} {e : Env} {s : State} {m : MethodId} {below : List Frame} {meth : Method} {c : Code} {b : Nat} {xs : Nat → Int32} {D : va_G} {cy : Nat → ClassId} {H : Heap} {locs : List Loc} {ls : Array Slot} {x0 y0 : Nat} {u_0 u_1 : SS} (X : qX p s m #[Value.ref b] c cL_law 4 RL) (hr : meth.sig.returnType = ret) (hlk : meth.locks = false) (hX : va_X b 6 xs s s.heap) (hbl : b < s.heap.size) (hK : qK D cy s) (a1 a2 a3 a4 a5 : Int32) (e1 : xs (Int32.toNatClampNeg 1) = a1) (e2 : xs (Int32.toNatClampNeg 2) = a2) (e3 : xs (Int32.toNatClampNeg 3) = a3) (e4 : xs (Int32.toNatClampNeg 4) = a4) (e5 : xs (Int32.toNatClampNeg 5) = a5) (h : qW D (fun q => s.heap.size ≤ q) s.heap (wLaw cy x0 y0 u_0 u_1) H locs) (hl : lv_has ls 4 [(3, .int 0), (2, .ref y0), (1, .ref x0), (0, .ref b)]) : W p l e room_1 s m #[Value.ref b] below meth c H locs 99 25544 (lw_Z below #[Value.ref b] s) (F0 m 997 ls []) := by
  obtain ⟨hx, hb, hml, hown, ht⟩ := id X
  have hA : ∀ q : Nat, s.heap.size ≤ q → (fun q : Nat => s.heap.size ≤ q) q := fun _ h => h
  have hbA : ¬ (fun q : Nat => s.heap.size ≤ q) b := Nat.not_le.mpr hbl
  by_cases c_9942 : a1 ≤ (-1)
  · skip
    refine lv_aload_n hx hb dL_law_997 rfl (lv_at hl 2 rfl) ?_
    refine lv_aload_n hx hb dL_law_998 rfl (lv_at hl 3 rfl) ?_
    refine lv_iload_n hx hb dL_law_999 rfl (lv_at hl 0 rfl) ?_
    refine lv_iconst (v := 1) hx hb dL_law_1000 (by decide) ?_
    refine lv_iadd hx hb dL_law_1001 ?_
    refine q_c 1 (by decide +kernel) ?_
    refine va_sld X.1 X.2.1 hX hbl hbA h.2.2 (q_in (by decide +kernel)) dL_law_1002 ?_
    refine q_c a1 e1 ?_
    have g_9970 : a1 ≤ ((-1) : Int32) := by
      simp only [Int32.lt_iff_toInt_lt, Int32.le_iff_toInt_le, ← Int32.toInt_inj] at c_9942 ⊢
      have k_0 : ((-1) : Int32).toInt = -1 := by decide
      omega
    refine q_callVi (rest := []) (wr := [(y0, .inr (12, [.int 0, .ref (u_1.1 19), .ref (u_1.1 0), .ref (u_1.1 1), .ref (u_1.1 2), .int 0, .int 0, .int 0, .int 0, .int 0, .int 0, .int 0, .int 0, .int 0, .int (-1), .int 0, .ref (u_1.1 3), .ref (u_1.1 4), .ref (u_1.1 5), .ref (u_1.1 6), .ref (u_1.1 7), .int 0, .int 0, .ref (u_1.1 8), .ref (u_1.1 9), .ref (u_1.1 10), .int 0, .int 0, .ref (u_1.1 11), .ref (u_1.1 12), .ref (u_1.1 13), .ref (u_1.1 14), .ref (u_1.1 15), .int 0, .ref (u_1.1 16), .ref (u_1.1 17), .ref (u_1.1 18)]))]) X hK hA h (fun sz => kX11_passes_444 l D cy x0 a1 (u_0.1 0) (u_0.1 1) (u_0.1 37) (u_0.1 39) (u_0.1 41) (u_0.1 43) (u_0.1 14) (u_0.1 15) (u_0.1 16) (u_0.1 17) (u_0.1 20) (u_0.1 24) (u_0.1 29) g_9970 sz) wm_5_48 wm_5_51 wm_1_1 hd_X11_passes wm_5_49 wm_5_50 (ci := 11) (q0 := 0) rfl rfl ⟨Nat.le_of_ble_eq_true rfl, Nat.le_of_ble_eq_true rfl⟩ hl.1 rfl (Nat.le_of_ble_eq_true rfl) dL_law_1003 ⟨Nat.le_of_ble_eq_true rfl, Nat.le_of_ble_eq_true rfl⟩ [0] [78] rfl rfl (by decide) rfl rfl (fun r_9971 u_9971 Hp1 lc1 w_9971 hw1 => ?_)
    clear h
    obtain rfl : r_9971 = (-3) := w_9971
    clear w_9971
    replace hw1 : qW D _ _ [(y0, .inr (12, [.int 0, .ref (u_1.1 19), .ref (u_1.1 0), .ref (u_1.1 1), .ref (u_1.1 2), .int 0, .int 0, .int 0, .int 0, .int 0, .int 0, .int 0, .int 0, .int 0, .int (-1), .int 0, .ref (u_1.1 3), .ref (u_1.1 4), .ref (u_1.1 5), .ref (u_1.1 6), .ref (u_1.1 7), .int 0, .int 0, .ref (u_1.1 8), .ref (u_1.1 9), .ref (u_1.1 10), .int 0, .int 0, .ref (u_1.1 11), .ref (u_1.1 12), .ref (u_1.1 13), .ref (u_1.1 14), .ref (u_1.1 15), .int 0, .ref (u_1.1 16), .ref (u_1.1 17), .ref (u_1.1 18)]))] _ _ := hw1
    refine lv_aload_n hx hb dL_law_1006 rfl (lv_at hl 1 rfl) ?_
    refine lv_aload_n hx hb dL_law_1007 rfl (lv_at hl 3 rfl) ?_
    refine lv_iload_n hx hb dL_law_1008 rfl (lv_at hl 0 rfl) ?_
    refine lv_iconst (v := 1) hx hb dL_law_1009 (by decide) ?_
    refine lv_iadd hx hb dL_law_1010 ?_
    refine q_c 1 (by decide +kernel) ?_
    refine va_sld X.1 X.2.1 hX hbl hbA hw1.2.2 (q_in (by decide +kernel)) dL_law_1011 ?_
    refine q_c a1 e1 ?_
    have g_9977 : a1 ≤ ((-1) : Int32) := by
      simp only [Int32.lt_iff_toInt_lt, Int32.le_iff_toInt_le, ← Int32.toInt_inj] at c_9942 ⊢
      have k_0 : ((-1) : Int32).toInt = -1 := by decide
      omega
    refine q_callVi (rest := [.int (-3)]) (wr := []) X hK hA hw1 (fun sz => kX12_passes_445 l D cy y0 a1 (u_1.1 19) (u_1.1 0) (u_1.1 1) (u_1.1 2) (u_1.1 3) (u_1.1 4) (u_1.1 5) (u_1.1 6) (u_1.1 7) (u_1.1 8) (u_1.1 9) (u_1.1 10) (u_1.1 11) (u_1.1 12) (u_1.1 13) (u_1.1 14) (u_1.1 15) (u_1.1 16) (u_1.1 17) (u_1.1 18) g_9977 sz) wm_7_203 wm_7_206 wm_1_12 hd_X12_passes wm_7_204 wm_7_205 (ci := 12) (q0 := 0) rfl rfl ⟨Nat.le_of_ble_eq_true rfl, Nat.le_of_ble_eq_true rfl⟩ hl.1 rfl (Nat.le_of_ble_eq_true rfl) dL_law_1012 ⟨Nat.le_of_ble_eq_true rfl, Nat.le_of_ble_eq_true rfl⟩ [0] [] rfl rfl (by decide) rfl rfl (fun r_9978 u_9978 Hp2 lc2 w_9978 hw2 => ?_)
    clear Hp1 lc1 hw1
    obtain rfl : r_9978 = (-3) := w_9978
    clear w_9978
    replace hw2 : qW D _ _ [] _ _ := hw2
    refine lv_icmp_eq (tgt := 1461) hx hb dL_law_1015 (by decide) (fun _ => ?_) (fun c => absurd c (by decide +kernel))
    exact law_tail l X hr hlk hX hbl hw2.2.2 hl (Nat.le_of_ble_eq_true rfl) (Nat.le_of_ble_eq_true rfl)
  by_cases c_9979 : a1 ≤ 9
  · skip
    refine lv_aload_n hx hb dL_law_997 rfl (lv_at hl 2 rfl) ?_
    refine lv_aload_n hx hb dL_law_998 rfl (lv_at hl 3 rfl) ?_
    refine lv_iload_n hx hb dL_law_999 rfl (lv_at hl 0 rfl) ?_
    refine lv_iconst (v := 1) hx hb dL_law_1000 (by decide) ?_
    refine lv_iadd hx hb dL_law_1001 ?_
    refine q_c 1 (by decide +kernel) ?_
    refine va_sld X.1 X.2.1 hX hbl hbA hw2.2.2 (q_in (by decide +kernel)) dL_law_1002 ?_
    refine q_c a1 e1 ?_
    have g_10135 : (0 : Int32) ≤ a1 := by
      simp only [Int32.lt_iff_toInt_lt, Int32.le_iff_toInt_le, ← Int32.toInt_inj] at c_9942 c_9979 ⊢
      have k_0 : ((-1) : Int32).toInt = -1 := by decide
      have k_1 : (9 : Int32).toInt = 9 := by decide
      have k_g : (0 : Int32).toInt = 0 := by decide
      omega
    have g_10136 : a1 ≤ (9 : Int32) := by
      simp only [Int32.lt_iff_toInt_lt, Int32.le_iff_toInt_le, ← Int32.toInt_inj] at c_9942 c_9979 ⊢
      have k_0 : ((-1) : Int32).toInt = -1 := by decide
      have k_1 : (9 : Int32).toInt = 9 := by decide
      omega
    refine q_callVi (rest := []) (wr := [(y0, .inr (12, [.int 0, .ref (u_1.1 19), .ref (u_1.1 0), .ref (u_1.1 1), .ref (u_1.1 2), .int 0, .int 0, .int 0, .int 0, .int 0, .int 0, .int 0, .int 0, .int 0, .int (-1), .int 0, .ref (u_1.1 3), .ref (u_1.1 4), .ref (u_1.1 5), .ref (u_1.1 6), .ref (u_1.1 7), .int 0, .int 0, .ref (u_1.1 8), .ref (u_1.1 9), .ref (u_1.1 10), .int 0, .int 0, .ref (u_1.1 11), .ref (u_1.1 12), .ref (u_1.1 13), .ref (u_1.1 14), .ref (u_1.1 15), .int 0, .ref (u_1.1 16), .ref (u_1.1 17), .ref (u_1.1 18)])), ((u_1.1 8), .inl (cy 1, 1024, .inl (fun _ => 0))), ((u_1.1 19), .inl (cy 1, 3918, .inl (upd (fun _ => 0) (Int32.toNatClampNeg 1) 1)))]) X hK hA hw2 (fun sz => kX11_passes_447 l D cy x0 (u_0.1 31) (u_0.1 37) a1 (u_0.1 0) (u_0.1 1) (u_0.1 39) (u_0.1 41) (u_0.1 43) (u_0.1 14) (u_0.1 15) (u_0.1 16) (u_0.1 17) (u_0.1 20) (u_0.1 24) (u_0.1 29) (u_0.1 32) (u_0.1 33) (u_0.1 34) (u_0.1 35) (u_0.1 36) (u_0.1 38) g_10135 g_10136 sz) wm_5_48 wm_5_51 wm_1_1 hd_X11_passes wm_5_49 wm_5_50 (ci := 11) (q0 := 0) rfl rfl ⟨Nat.le_of_ble_eq_true rfl, Nat.le_of_ble_eq_true rfl⟩ hl.1 rfl (Nat.le_of_ble_eq_true rfl) dL_law_1003 ⟨Nat.le_of_ble_eq_true rfl, Nat.le_of_ble_eq_true rfl⟩ [0, 32, 38] [78, 87, 98] rfl rfl (by decide) rfl rfl (fun r_10137 u_10137 Hp3 lc3 w_10137 hw3 => ?_)
    clear Hp2 lc2 hw2
    obtain rfl : r_10137 = 0 := w_10137
    clear w_10137
    replace hw3 : qW D _ _ [(y0, .inr (12, [.int 0, .ref (u_1.1 19), .ref (u_1.1 0), .ref (u_1.1 1), .ref (u_1.1 2), .int 0, .int 0, .int 0, .int 0, .int 0, .int 0, .int 0, .int 0, .int 0, .int (-1), .int 0, .ref (u_1.1 3), .ref (u_1.1 4), .ref (u_1.1 5), .ref (u_1.1 6), .ref (u_1.1 7), .int 0, .int 0, .ref (u_1.1 8), .ref (u_1.1 9), .ref (u_1.1 10), .int 0, .int 0, .ref (u_1.1 11), .ref (u_1.1 12), .ref (u_1.1 13), .ref (u_1.1 14), .ref (u_1.1 15), .int 0, .ref (u_1.1 16), .ref (u_1.1 17), .ref (u_1.1 18)])), ((u_1.1 8), .inl (cy 1, 1024, .inl (fun _ => 0))), ((u_1.1 19), .inl (cy 1, 3918, .inl (upd (fun _ => 0) (Int32.toNatClampNeg 1) 1)))] _ _ := hw3
    refine lv_aload_n hx hb dL_law_1006 rfl (lv_at hl 1 rfl) ?_
    refine lv_aload_n hx hb dL_law_1007 rfl (lv_at hl 3 rfl) ?_
    refine lv_iload_n hx hb dL_law_1008 rfl (lv_at hl 0 rfl) ?_
    refine lv_iconst (v := 1) hx hb dL_law_1009 (by decide) ?_
    refine lv_iadd hx hb dL_law_1010 ?_
    refine q_c 1 (by decide +kernel) ?_
    refine va_sld X.1 X.2.1 hX hbl hbA hw3.2.2 (q_in (by decide +kernel)) dL_law_1011 ?_
    refine q_c a1 e1 ?_
    have g_10159 : (0 : Int32) ≤ a1 := by
      simp only [Int32.lt_iff_toInt_lt, Int32.le_iff_toInt_le, ← Int32.toInt_inj] at c_9942 c_9979 ⊢
      have k_0 : ((-1) : Int32).toInt = -1 := by decide
      have k_1 : (9 : Int32).toInt = 9 := by decide
      have k_g : (0 : Int32).toInt = 0 := by decide
      omega
    have g_10160 : a1 ≤ (9 : Int32) := by
      simp only [Int32.lt_iff_toInt_lt, Int32.le_iff_toInt_le, ← Int32.toInt_inj] at c_9942 c_9979 ⊢
      have k_0 : ((-1) : Int32).toInt = -1 := by decide
      have k_1 : (9 : Int32).toInt = 9 := by decide
      omega
    refine q_callVi (rest := [.int 0]) (wr := []) X hK hA hw3 (fun sz => kX12_passes_450 l D cy y0 (u_1.1 8) (u_1.1 19) a1 (u_1.1 0) (u_1.1 1) (u_1.1 2) (u_1.1 3) (u_1.1 4) (u_1.1 5) (u_1.1 6) (u_1.1 7) (u_1.1 9) (u_1.1 10) (u_1.1 11) (u_1.1 12) (u_1.1 13) (u_1.1 14) (u_1.1 15) (u_1.1 16) (u_1.1 17) (u_1.1 18) (upd (fun _ => 0) (Int32.toNatClampNeg 1) 1) g_10159 g_10160 (q_un (by decide +kernel) rfl) (q_un (by decide +kernel) rfl) (q_un (by decide +kernel) rfl) sz) wm_7_203 wm_7_206 wm_1_12 hd_X12_passes wm_7_204 wm_7_205 (ci := 12) (q0 := 0) rfl rfl ⟨Nat.le_of_ble_eq_true rfl, Nat.le_of_ble_eq_true rfl⟩ hl.1 rfl (Nat.le_of_ble_eq_true rfl) dL_law_1012 ⟨Nat.le_of_ble_eq_true rfl, Nat.le_of_ble_eq_true rfl⟩ [0, 1, 2] [] rfl rfl (by decide) rfl rfl (fun r_10161 u_10161 Hp4 lc4 w_10161 hw4 => ?_)
    clear Hp3 lc3 hw3
    obtain rfl : r_10161 = 0 := w_10161
    clear w_10161
    replace hw4 : qW D _ _ [] _ _ := hw4
    refine lv_icmp_eq (tgt := 1461) hx hb dL_law_1015 (by decide) (fun _ => ?_) (fun c => absurd c (by decide +kernel))
    exact law_tail l X hr hlk hX hbl hw4.2.2 hl (Nat.le_of_ble_eq_true rfl) (Nat.le_of_ble_eq_true rfl)
  refine lv_aload_n hx hb dL_law_997 rfl (lv_at hl 2 rfl) ?_
  refine lv_aload_n hx hb dL_law_998 rfl (lv_at hl 3 rfl) ?_
  refine lv_iload_n hx hb dL_law_999 rfl (lv_at hl 0 rfl) ?_
  refine lv_iconst (v := 1) hx hb dL_law_1000 (by decide) ?_
  refine lv_iadd hx hb dL_law_1001 ?_
  refine q_c 1 (by decide +kernel) ?_
  refine va_sld X.1 X.2.1 hX hbl hbA hw4.2.2 (q_in (by decide +kernel)) dL_law_1002 ?_
  refine q_c a1 e1 ?_
  have g_10197 : (10 : Int32) ≤ a1 := by
    simp only [Int32.lt_iff_toInt_lt, Int32.le_iff_toInt_le, ← Int32.toInt_inj] at c_9942 c_9979 ⊢
    have k_0 : ((-1) : Int32).toInt = -1 := by decide
    have k_1 : (9 : Int32).toInt = 9 := by decide
    have k_g : (10 : Int32).toInt = 10 := by decide
    omega
  refine q_callVi (rest := []) (wr := [(y0, .inr (12, [.int 0, .ref (u_1.1 19), .ref (u_1.1 0), .ref (u_1.1 1), .ref (u_1.1 2), .int 0, .int 0, .int 0, .int 0, .int 0, .int 0, .int 0, .int 0, .int 0, .int (-1), .int 0, .ref (u_1.1 3), .ref (u_1.1 4), .ref (u_1.1 5), .ref (u_1.1 6), .ref (u_1.1 7), .int 0, .int 0, .ref (u_1.1 8), .ref (u_1.1 9), .ref (u_1.1 10), .int 0, .int 0, .ref (u_1.1 11), .ref (u_1.1 12), .ref (u_1.1 13), .ref (u_1.1 14), .ref (u_1.1 15), .int 0, .ref (u_1.1 16), .ref (u_1.1 17), .ref (u_1.1 18)]))]) X hK hA hw4 (fun sz => kX11_passes_451 l D cy x0 a1 (u_0.1 0) (u_0.1 1) (u_0.1 37) (u_0.1 39) (u_0.1 41) (u_0.1 43) (u_0.1 14) (u_0.1 15) (u_0.1 16) (u_0.1 17) (u_0.1 20) (u_0.1 24) (u_0.1 29) g_10197 sz) wm_5_48 wm_5_51 wm_1_1 hd_X11_passes wm_5_49 wm_5_50 (ci := 11) (q0 := 0) rfl rfl ⟨Nat.le_of_ble_eq_true rfl, Nat.le_of_ble_eq_true rfl⟩ hl.1 rfl (Nat.le_of_ble_eq_true rfl) dL_law_1003 ⟨Nat.le_of_ble_eq_true rfl, Nat.le_of_ble_eq_true rfl⟩ [0] [78] rfl rfl (by decide) rfl rfl (fun r_10198 u_10198 Hp5 lc5 w_10198 hw5 => ?_)
  clear Hp4 lc4 hw4
  obtain rfl : r_10198 = (-3) := w_10198
  clear w_10198
  replace hw5 : qW D _ _ [(y0, .inr (12, [.int 0, .ref (u_1.1 19), .ref (u_1.1 0), .ref (u_1.1 1), .ref (u_1.1 2), .int 0, .int 0, .int 0, .int 0, .int 0, .int 0, .int 0, .int 0, .int 0, .int (-1), .int 0, .ref (u_1.1 3), .ref (u_1.1 4), .ref (u_1.1 5), .ref (u_1.1 6), .ref (u_1.1 7), .int 0, .int 0, .ref (u_1.1 8), .ref (u_1.1 9), .ref (u_1.1 10), .int 0, .int 0, .ref (u_1.1 11), .ref (u_1.1 12), .ref (u_1.1 13), .ref (u_1.1 14), .ref (u_1.1 15), .int 0, .ref (u_1.1 16), .ref (u_1.1 17), .ref (u_1.1 18)]))] _ _ := hw5
  refine lv_aload_n hx hb dL_law_1006 rfl (lv_at hl 1 rfl) ?_
  refine lv_aload_n hx hb dL_law_1007 rfl (lv_at hl 3 rfl) ?_
  refine lv_iload_n hx hb dL_law_1008 rfl (lv_at hl 0 rfl) ?_
  refine lv_iconst (v := 1) hx hb dL_law_1009 (by decide) ?_
  refine lv_iadd hx hb dL_law_1010 ?_
  refine q_c 1 (by decide +kernel) ?_
  refine va_sld X.1 X.2.1 hX hbl hbA hw5.2.2 (q_in (by decide +kernel)) dL_law_1011 ?_
  refine q_c a1 e1 ?_
  have g_10205 : (10 : Int32) ≤ a1 := by
    simp only [Int32.lt_iff_toInt_lt, Int32.le_iff_toInt_le, ← Int32.toInt_inj] at c_9942 c_9979 ⊢
    have k_0 : ((-1) : Int32).toInt = -1 := by decide
    have k_1 : (9 : Int32).toInt = 9 := by decide
    have k_g : (10 : Int32).toInt = 10 := by decide
    omega
  refine q_callVi (rest := [.int (-3)]) (wr := []) X hK hA hw5 (fun sz => kX12_passes_452 l D cy y0 a1 (u_1.1 19) (u_1.1 0) (u_1.1 1) (u_1.1 2) (u_1.1 3) (u_1.1 4) (u_1.1 5) (u_1.1 6) (u_1.1 7) (u_1.1 8) (u_1.1 9) (u_1.1 10) (u_1.1 11) (u_1.1 12) (u_1.1 13) (u_1.1 14) (u_1.1 15) (u_1.1 16) (u_1.1 17) (u_1.1 18) g_10205 sz) wm_7_203 wm_7_206 wm_1_12 hd_X12_passes wm_7_204 wm_7_205 (ci := 12) (q0 := 0) rfl rfl ⟨Nat.le_of_ble_eq_true rfl, Nat.le_of_ble_eq_true rfl⟩ hl.1 rfl (Nat.le_of_ble_eq_true rfl) dL_law_1012 ⟨Nat.le_of_ble_eq_true rfl, Nat.le_of_ble_eq_true rfl⟩ [0] [] rfl rfl (by decide) rfl rfl (fun r_10206 u_10206 Hp6 lc6 w_10206 hw6 => ?_)
  clear Hp5 lc5 hw5
  obtain rfl : r_10206 = (-3) := w_10206
  clear w_10206
  replace hw6 : qW D _ _ [] _ _ := hw6
  refine lv_icmp_eq (tgt := 1461) hx hb dL_law_1015 (by decide) (fun _ => ?_) (fun c => absurd c (by decide +kernel))
  exact law_tail l X hr hlk hX hbl hw6.2.2 hl (Nat.le_of_ble_eq_true rfl) (Nat.le_of_ble_eq_true rfl)
set_option maxHeartbeats 4000000 in
set_option maxRecDepth 100000 in
theorem lc_passed (l : Launch) {p : Program} {e : Env} {s : State} {m : MethodId} {below : List Frame} {meth : Method} {c : Code} {b : Nat} {xs : Nat → Int32} {D : va_G} {cy : Nat → ClassId} {H : Heap} {locs : List Loc} {ls : Array Slot} {x0 y0 : Nat} {u_0 u_1 : SS} (X : qX p s m #[Value.ref b] c cL_law 4 RL) (hr : meth.sig.returnType = ret) (hlk : meth.locks = false) (hX : va_X b 6 xs s s.heap) (hbl : b < s.heap.size) (hK : qK D cy s) (a1 a2 a3 a4 a5 : Int32) (e1 : xs (Int32.toNatClampNeg 1) = a1) (e2 : xs (Int32.toNatClampNeg 2) = a2) (e3 : xs (Int32.toNatClampNeg 3) = a3) (e4 : xs (Int32.toNatClampNeg 4) = a4) (e5 : xs (Int32.toNatClampNeg 5) = a5) (h : qW D (fun q => s.heap.size ≤ q) s.heap (wLaw cy x0 y0 u_0 u_1) H locs) (hl : lv_has ls 4 [(3, .int 0), (2, .ref y0), (1, .ref x0), (0, .ref b)]) : W p l e room_1 s m #[Value.ref b] below meth c H locs 99 25544 (lw_Z below #[Value.ref b] s) (F0 m 1020 ls []) := by
  obtain ⟨hx, hb, hml, hown, ht⟩ := id X
  have hA : ∀ q : Nat, s.heap.size ≤ q → (fun q : Nat => s.heap.size ≤ q) q := fun _ h => h
  have hbA : ¬ (fun q : Nat => s.heap.size ≤ q) b := Nat.not_le.mpr hbl
  by_cases c_10212 : a2 ≤ (-1)
  · skip
    refine lv_aload_n hx hb dL_law_1020 rfl (lv_at hl 2 rfl) ?_
    refine lv_aload_n hx hb dL_law_1021 rfl (lv_at hl 3 rfl) ?_
    refine lv_iload_n hx hb dL_law_1022 rfl (lv_at hl 0 rfl) ?_
    refine lv_iconst (v := 1) hx hb dL_law_1023 (by decide) ?_
    refine lv_iadd hx hb dL_law_1024 ?_
    refine q_c 1 (by decide +kernel) ?_
    refine va_sld X.1 X.2.1 hX hbl hbA h.2.2 (q_in (by decide +kernel)) dL_law_1025 ?_
    refine q_c a1 e1 ?_
    refine lv_aload_n hx hb dL_law_1026 rfl (lv_at hl 3 rfl) ?_
    refine lv_iload_n hx hb dL_law_1027 rfl (lv_at hl 0 rfl) ?_
    refine lv_iconst (v := 2) hx hb dL_law_1028 (by decide) ?_
    refine lv_iadd hx hb dL_law_1029 ?_
    refine q_c 2 (by decide +kernel) ?_
    refine va_sld X.1 X.2.1 hX hbl hbA h.2.2 (q_in (by decide +kernel)) dL_law_1030 ?_
    refine q_c a2 e2 ?_
    have g_10230 : a2 ≤ ((-1) : Int32) := by
      simp only [Int32.lt_iff_toInt_lt, Int32.le_iff_toInt_le, ← Int32.toInt_inj] at c_10212 ⊢
      have k_0 : ((-1) : Int32).toInt = -1 := by decide
      omega
    refine q_callVi (rest := []) (wr := [(y0, .inr (12, [.int 0, .ref (u_1.1 19), .ref (u_1.1 0), .ref (u_1.1 1), .ref (u_1.1 2), .int 0, .int 0, .int 0, .int 0, .int 0, .int 0, .int 0, .int 0, .int 0, .int (-1), .int 0, .ref (u_1.1 3), .ref (u_1.1 4), .ref (u_1.1 5), .ref (u_1.1 6), .ref (u_1.1 7), .int 0, .int 0, .ref (u_1.1 8), .ref (u_1.1 9), .ref (u_1.1 10), .int 0, .int 0, .ref (u_1.1 11), .ref (u_1.1 12), .ref (u_1.1 13), .ref (u_1.1 14), .ref (u_1.1 15), .int 0, .ref (u_1.1 16), .ref (u_1.1 17), .ref (u_1.1 18)]))]) X hK hA h (fun sz => kX11_passed_453 l D cy x0 a1 a2 (u_0.1 0) (u_0.1 1) (u_0.1 37) (u_0.1 39) (u_0.1 41) (u_0.1 43) (u_0.1 14) (u_0.1 15) (u_0.1 16) (u_0.1 17) (u_0.1 20) (u_0.1 24) (u_0.1 29) g_10230 sz) wm_5_55 wm_5_58 wm_1_1 hd_X11_passed wm_5_56 wm_5_57 (ci := 11) (q0 := 0) rfl rfl ⟨Nat.le_of_ble_eq_true rfl, Nat.le_of_ble_eq_true rfl⟩ hl.1 rfl (Nat.le_of_ble_eq_true rfl) dL_law_1031 ⟨Nat.le_of_ble_eq_true rfl, Nat.le_of_ble_eq_true rfl⟩ [0] [78] rfl rfl (by decide) rfl rfl (fun r_10231 u_10231 Hp1 lc1 w_10231 hw1 => ?_)
    clear h
    obtain rfl : r_10231 = (-2) := w_10231
    clear w_10231
    replace hw1 : qW D _ _ [(y0, .inr (12, [.int 0, .ref (u_1.1 19), .ref (u_1.1 0), .ref (u_1.1 1), .ref (u_1.1 2), .int 0, .int 0, .int 0, .int 0, .int 0, .int 0, .int 0, .int 0, .int 0, .int (-1), .int 0, .ref (u_1.1 3), .ref (u_1.1 4), .ref (u_1.1 5), .ref (u_1.1 6), .ref (u_1.1 7), .int 0, .int 0, .ref (u_1.1 8), .ref (u_1.1 9), .ref (u_1.1 10), .int 0, .int 0, .ref (u_1.1 11), .ref (u_1.1 12), .ref (u_1.1 13), .ref (u_1.1 14), .ref (u_1.1 15), .int 0, .ref (u_1.1 16), .ref (u_1.1 17), .ref (u_1.1 18)]))] _ _ := hw1
    refine lv_aload_n hx hb dL_law_1034 rfl (lv_at hl 1 rfl) ?_
    refine lv_aload_n hx hb dL_law_1035 rfl (lv_at hl 3 rfl) ?_
    refine lv_iload_n hx hb dL_law_1036 rfl (lv_at hl 0 rfl) ?_
    refine lv_iconst (v := 1) hx hb dL_law_1037 (by decide) ?_
    refine lv_iadd hx hb dL_law_1038 ?_
    refine q_c 1 (by decide +kernel) ?_
    refine va_sld X.1 X.2.1 hX hbl hbA hw1.2.2 (q_in (by decide +kernel)) dL_law_1039 ?_
    refine q_c a1 e1 ?_
    refine lv_aload_n hx hb dL_law_1040 rfl (lv_at hl 3 rfl) ?_
    refine lv_iload_n hx hb dL_law_1041 rfl (lv_at hl 0 rfl) ?_
    refine lv_iconst (v := 2) hx hb dL_law_1042 (by decide) ?_
    refine lv_iadd hx hb dL_law_1043 ?_
    refine q_c 2 (by decide +kernel) ?_
    refine va_sld X.1 X.2.1 hX hbl hbA hw1.2.2 (q_in (by decide +kernel)) dL_law_1044 ?_
    refine q_c a2 e2 ?_
    have g_10235 : a2 ≤ ((-1) : Int32) := by
      simp only [Int32.lt_iff_toInt_lt, Int32.le_iff_toInt_le, ← Int32.toInt_inj] at c_10212 ⊢
      have k_0 : ((-1) : Int32).toInt = -1 := by decide
      omega
    refine q_callVi (rest := [.int (-2)]) (wr := []) X hK hA hw1 (fun sz => kX12_passed_454 l D cy y0 a1 a2 (u_1.1 19) (u_1.1 0) (u_1.1 1) (u_1.1 2) (u_1.1 3) (u_1.1 4) (u_1.1 5) (u_1.1 6) (u_1.1 7) (u_1.1 8) (u_1.1 9) (u_1.1 10) (u_1.1 11) (u_1.1 12) (u_1.1 13) (u_1.1 14) (u_1.1 15) (u_1.1 16) (u_1.1 17) (u_1.1 18) g_10235 sz) wm_7_211 wm_7_214 wm_1_12 hd_X12_passed wm_7_212 wm_7_213 (ci := 12) (q0 := 0) rfl rfl ⟨Nat.le_of_ble_eq_true rfl, Nat.le_of_ble_eq_true rfl⟩ hl.1 rfl (Nat.le_of_ble_eq_true rfl) dL_law_1045 ⟨Nat.le_of_ble_eq_true rfl, Nat.le_of_ble_eq_true rfl⟩ [0] [] rfl rfl (by decide) rfl rfl (fun r_10236 u_10236 Hp2 lc2 w_10236 hw2 => ?_)
    clear Hp1 lc1 hw1
    obtain rfl : r_10236 = (-2) := w_10236
    clear w_10236
    replace hw2 : qW D _ _ [] _ _ := hw2
    refine lv_icmp_eq (tgt := 1461) hx hb dL_law_1048 (by decide) (fun _ => ?_) (fun c => absurd c (by decide +kernel))
    exact law_tail l X hr hlk hX hbl hw2.2.2 hl (Nat.le_of_ble_eq_true rfl) (Nat.le_of_ble_eq_true rfl)
  by_cases c_10237 : a2 = 0
  · subst c_10237
    by_cases c_10242 : a1 ≤ (-1)
    · skip
      refine lv_aload_n hx hb dL_law_1020 rfl (lv_at hl 2 rfl) ?_
      refine lv_aload_n hx hb dL_law_1021 rfl (lv_at hl 3 rfl) ?_
      refine lv_iload_n hx hb dL_law_1022 rfl (lv_at hl 0 rfl) ?_
      refine lv_iconst (v := 1) hx hb dL_law_1023 (by decide) ?_
      refine lv_iadd hx hb dL_law_1024 ?_
      refine q_c 1 (by decide +kernel) ?_
      refine va_sld X.1 X.2.1 hX hbl hbA hw2.2.2 (q_in (by decide +kernel)) dL_law_1025 ?_
      refine q_c a1 e1 ?_
      refine lv_aload_n hx hb dL_law_1026 rfl (lv_at hl 3 rfl) ?_
      refine lv_iload_n hx hb dL_law_1027 rfl (lv_at hl 0 rfl) ?_
      refine lv_iconst (v := 2) hx hb dL_law_1028 (by decide) ?_
      refine lv_iadd hx hb dL_law_1029 ?_
      refine q_c 2 (by decide +kernel) ?_
      refine va_sld X.1 X.2.1 hX hbl hbA hw2.2.2 (q_in (by decide +kernel)) dL_law_1030 ?_
      refine q_c 0 e2 ?_
      have g_10273 : a1 ≤ ((-1) : Int32) := by
        simp only [Int32.lt_iff_toInt_lt, Int32.le_iff_toInt_le, ← Int32.toInt_inj] at c_10242 ⊢
        have k_0 : ((-1) : Int32).toInt = -1 := by decide
        omega
      refine q_callVi (rest := []) (wr := [(y0, .inr (12, [.int 0, .ref (u_1.1 19), .ref (u_1.1 0), .ref (u_1.1 1), .ref (u_1.1 2), .int 0, .int 0, .int 0, .int 0, .int 0, .int 0, .int 0, .int 0, .int 0, .int (-1), .int 0, .ref (u_1.1 3), .ref (u_1.1 4), .ref (u_1.1 5), .ref (u_1.1 6), .ref (u_1.1 7), .int 0, .int 0, .ref (u_1.1 8), .ref (u_1.1 9), .ref (u_1.1 10), .int 0, .int 0, .ref (u_1.1 11), .ref (u_1.1 12), .ref (u_1.1 13), .ref (u_1.1 14), .ref (u_1.1 15), .int 0, .ref (u_1.1 16), .ref (u_1.1 17), .ref (u_1.1 18)]))]) X hK hA hw2 (fun sz => kX11_passed_455 l D cy x0 a1 (u_0.1 0) (u_0.1 1) (u_0.1 37) (u_0.1 39) (u_0.1 41) (u_0.1 43) (u_0.1 14) (u_0.1 15) (u_0.1 16) (u_0.1 17) (u_0.1 20) (u_0.1 24) (u_0.1 29) g_10273 sz) wm_5_55 wm_5_58 wm_1_1 hd_X11_passed wm_5_56 wm_5_57 (ci := 11) (q0 := 0) rfl rfl ⟨Nat.le_of_ble_eq_true rfl, Nat.le_of_ble_eq_true rfl⟩ hl.1 rfl (Nat.le_of_ble_eq_true rfl) dL_law_1031 ⟨Nat.le_of_ble_eq_true rfl, Nat.le_of_ble_eq_true rfl⟩ [0] [78] rfl rfl (by decide) rfl rfl (fun r_10274 u_10274 Hp3 lc3 w_10274 hw3 => ?_)
      clear Hp2 lc2 hw2
      obtain rfl : r_10274 = (-3) := w_10274
      clear w_10274
      replace hw3 : qW D _ _ [(y0, .inr (12, [.int 0, .ref (u_1.1 19), .ref (u_1.1 0), .ref (u_1.1 1), .ref (u_1.1 2), .int 0, .int 0, .int 0, .int 0, .int 0, .int 0, .int 0, .int 0, .int 0, .int (-1), .int 0, .ref (u_1.1 3), .ref (u_1.1 4), .ref (u_1.1 5), .ref (u_1.1 6), .ref (u_1.1 7), .int 0, .int 0, .ref (u_1.1 8), .ref (u_1.1 9), .ref (u_1.1 10), .int 0, .int 0, .ref (u_1.1 11), .ref (u_1.1 12), .ref (u_1.1 13), .ref (u_1.1 14), .ref (u_1.1 15), .int 0, .ref (u_1.1 16), .ref (u_1.1 17), .ref (u_1.1 18)]))] _ _ := hw3
      refine lv_aload_n hx hb dL_law_1034 rfl (lv_at hl 1 rfl) ?_
      refine lv_aload_n hx hb dL_law_1035 rfl (lv_at hl 3 rfl) ?_
      refine lv_iload_n hx hb dL_law_1036 rfl (lv_at hl 0 rfl) ?_
      refine lv_iconst (v := 1) hx hb dL_law_1037 (by decide) ?_
      refine lv_iadd hx hb dL_law_1038 ?_
      refine q_c 1 (by decide +kernel) ?_
      refine va_sld X.1 X.2.1 hX hbl hbA hw3.2.2 (q_in (by decide +kernel)) dL_law_1039 ?_
      refine q_c a1 e1 ?_
      refine lv_aload_n hx hb dL_law_1040 rfl (lv_at hl 3 rfl) ?_
      refine lv_iload_n hx hb dL_law_1041 rfl (lv_at hl 0 rfl) ?_
      refine lv_iconst (v := 2) hx hb dL_law_1042 (by decide) ?_
      refine lv_iadd hx hb dL_law_1043 ?_
      refine q_c 2 (by decide +kernel) ?_
      refine va_sld X.1 X.2.1 hX hbl hbA hw3.2.2 (q_in (by decide +kernel)) dL_law_1044 ?_
      refine q_c 0 e2 ?_
      have g_10281 : a1 ≤ ((-1) : Int32) := by
        simp only [Int32.lt_iff_toInt_lt, Int32.le_iff_toInt_le, ← Int32.toInt_inj] at c_10242 ⊢
        have k_0 : ((-1) : Int32).toInt = -1 := by decide
        omega
      refine q_callVi (rest := [.int (-3)]) (wr := []) X hK hA hw3 (fun sz => kX12_passed_456 l D cy y0 a1 (u_1.1 19) (u_1.1 0) (u_1.1 1) (u_1.1 2) (u_1.1 3) (u_1.1 4) (u_1.1 5) (u_1.1 6) (u_1.1 7) (u_1.1 8) (u_1.1 9) (u_1.1 10) (u_1.1 11) (u_1.1 12) (u_1.1 13) (u_1.1 14) (u_1.1 15) (u_1.1 16) (u_1.1 17) (u_1.1 18) g_10281 sz) wm_7_211 wm_7_214 wm_1_12 hd_X12_passed wm_7_212 wm_7_213 (ci := 12) (q0 := 0) rfl rfl ⟨Nat.le_of_ble_eq_true rfl, Nat.le_of_ble_eq_true rfl⟩ hl.1 rfl (Nat.le_of_ble_eq_true rfl) dL_law_1045 ⟨Nat.le_of_ble_eq_true rfl, Nat.le_of_ble_eq_true rfl⟩ [0] [] rfl rfl (by decide) rfl rfl (fun r_10282 u_10282 Hp4 lc4 w_10282 hw4 => ?_)
      clear Hp3 lc3 hw3
      obtain rfl : r_10282 = (-3) := w_10282
      clear w_10282
      replace hw4 : qW D _ _ [] _ _ := hw4
      refine lv_icmp_eq (tgt := 1461) hx hb dL_law_1048 (by decide) (fun _ => ?_) (fun c => absurd c (by decide +kernel))
      exact law_tail l X hr hlk hX hbl hw4.2.2 hl (Nat.le_of_ble_eq_true rfl) (Nat.le_of_ble_eq_true rfl)
    by_cases c_10283 : a1 ≤ 9
    · skip
      refine lv_aload_n hx hb dL_law_1020 rfl (lv_at hl 2 rfl) ?_
      refine lv_aload_n hx hb dL_law_1021 rfl (lv_at hl 3 rfl) ?_
      refine lv_iload_n hx hb dL_law_1022 rfl (lv_at hl 0 rfl) ?_
      refine lv_iconst (v := 1) hx hb dL_law_1023 (by decide) ?_
      refine lv_iadd hx hb dL_law_1024 ?_
      refine q_c 1 (by decide +kernel) ?_
      refine va_sld X.1 X.2.1 hX hbl hbA hw4.2.2 (q_in (by decide +kernel)) dL_law_1025 ?_
      refine q_c a1 e1 ?_
      refine lv_aload_n hx hb dL_law_1026 rfl (lv_at hl 3 rfl) ?_
      refine lv_iload_n hx hb dL_law_1027 rfl (lv_at hl 0 rfl) ?_
      refine lv_iconst (v := 2) hx hb dL_law_1028 (by decide) ?_
      refine lv_iadd hx hb dL_law_1029 ?_
      refine q_c 2 (by decide +kernel) ?_
      refine va_sld X.1 X.2.1 hX hbl hbA hw4.2.2 (q_in (by decide +kernel)) dL_law_1030 ?_
      refine q_c 0 e2 ?_
      have g_10476 : (0 : Int32) ≤ a1 := by
        simp only [Int32.lt_iff_toInt_lt, Int32.le_iff_toInt_le, ← Int32.toInt_inj] at c_10242 c_10283 ⊢
        have k_0 : ((-1) : Int32).toInt = -1 := by decide
        have k_1 : (9 : Int32).toInt = 9 := by decide
        have k_g : (0 : Int32).toInt = 0 := by decide
        omega
      have g_10477 : a1 ≤ (9 : Int32) := by
        simp only [Int32.lt_iff_toInt_lt, Int32.le_iff_toInt_le, ← Int32.toInt_inj] at c_10242 c_10283 ⊢
        have k_0 : ((-1) : Int32).toInt = -1 := by decide
        have k_1 : (9 : Int32).toInt = 9 := by decide
        omega
      refine q_callVi (rest := []) (wr := [(y0, .inr (12, [.int 0, .ref (u_1.1 19), .ref (u_1.1 0), .ref (u_1.1 1), .ref (u_1.1 2), .int 0, .int 0, .int 0, .int 0, .int 0, .int 0, .int 0, .int 0, .int 0, .int (-1), .int 0, .ref (u_1.1 3), .ref (u_1.1 4), .ref (u_1.1 5), .ref (u_1.1 6), .ref (u_1.1 7), .int 0, .int 0, .ref (u_1.1 8), .ref (u_1.1 9), .ref (u_1.1 10), .int 0, .int 0, .ref (u_1.1 11), .ref (u_1.1 12), .ref (u_1.1 13), .ref (u_1.1 14), .ref (u_1.1 15), .int 0, .ref (u_1.1 16), .ref (u_1.1 17), .ref (u_1.1 18)])), ((u_1.1 8), .inl (cy 1, 1024, .inl (fun _ => 0))), ((u_1.1 19), .inl (cy 1, 3918, .inl (upd (fun _ => 0) (Int32.toNatClampNeg 1) 1)))]) X hK hA hw4 (fun sz => kX11_passed_461 l D cy x0 (u_0.1 20) (u_0.1 21) (u_0.1 22) (u_0.1 31) (u_0.1 37) a1 (u_0.1 0) (u_0.1 1) (u_0.1 39) (u_0.1 41) (u_0.1 43) (u_0.1 14) (u_0.1 15) (u_0.1 16) (u_0.1 17) (u_0.1 24) (u_0.1 29) (u_0.1 23) (u_0.1 32) (u_0.1 33) (u_0.1 34) (u_0.1 35) (u_0.1 36) (u_0.1 38) g_10476 g_10477 sz) wm_5_55 wm_5_58 wm_1_1 hd_X11_passed wm_5_56 wm_5_57 (ci := 11) (q0 := 0) rfl rfl ⟨Nat.le_of_ble_eq_true rfl, Nat.le_of_ble_eq_true rfl⟩ hl.1 rfl (Nat.le_of_ble_eq_true rfl) dL_law_1031 ⟨Nat.le_of_ble_eq_true rfl, Nat.le_of_ble_eq_true rfl⟩ [0, 21, 22, 23, 32, 38] [78, 87, 98] rfl rfl (by decide) rfl rfl (fun r_10478 u_10478 Hp5 lc5 w_10478 hw5 => ?_)
      clear Hp4 lc4 hw4
      obtain rfl : r_10478 = (-1) := w_10478
      clear w_10478
      replace hw5 : qW D _ _ [(y0, .inr (12, [.int 0, .ref (u_1.1 19), .ref (u_1.1 0), .ref (u_1.1 1), .ref (u_1.1 2), .int 0, .int 0, .int 0, .int 0, .int 0, .int 0, .int 0, .int 0, .int 0, .int (-1), .int 0, .ref (u_1.1 3), .ref (u_1.1 4), .ref (u_1.1 5), .ref (u_1.1 6), .ref (u_1.1 7), .int 0, .int 0, .ref (u_1.1 8), .ref (u_1.1 9), .ref (u_1.1 10), .int 0, .int 0, .ref (u_1.1 11), .ref (u_1.1 12), .ref (u_1.1 13), .ref (u_1.1 14), .ref (u_1.1 15), .int 0, .ref (u_1.1 16), .ref (u_1.1 17), .ref (u_1.1 18)])), ((u_1.1 8), .inl (cy 1, 1024, .inl (fun _ => 0))), ((u_1.1 19), .inl (cy 1, 3918, .inl (upd (fun _ => 0) (Int32.toNatClampNeg 1) 1)))] _ _ := hw5
      refine lv_aload_n hx hb dL_law_1034 rfl (lv_at hl 1 rfl) ?_
      refine lv_aload_n hx hb dL_law_1035 rfl (lv_at hl 3 rfl) ?_
      refine lv_iload_n hx hb dL_law_1036 rfl (lv_at hl 0 rfl) ?_
      refine lv_iconst (v := 1) hx hb dL_law_1037 (by decide) ?_
      refine lv_iadd hx hb dL_law_1038 ?_
      refine q_c 1 (by decide +kernel) ?_
      refine va_sld X.1 X.2.1 hX hbl hbA hw5.2.2 (q_in (by decide +kernel)) dL_law_1039 ?_
      refine q_c a1 e1 ?_
      refine lv_aload_n hx hb dL_law_1040 rfl (lv_at hl 3 rfl) ?_
      refine lv_iload_n hx hb dL_law_1041 rfl (lv_at hl 0 rfl) ?_
      refine lv_iconst (v := 2) hx hb dL_law_1042 (by decide) ?_
      refine lv_iadd hx hb dL_law_1043 ?_
      refine q_c 2 (by decide +kernel) ?_
      refine va_sld X.1 X.2.1 hX hbl hbA hw5.2.2 (q_in (by decide +kernel)) dL_law_1044 ?_
      refine q_c 0 e2 ?_
      have g_10501 : (0 : Int32) ≤ a1 := by
        simp only [Int32.lt_iff_toInt_lt, Int32.le_iff_toInt_le, ← Int32.toInt_inj] at c_10242 c_10283 ⊢
        have k_0 : ((-1) : Int32).toInt = -1 := by decide
        have k_1 : (9 : Int32).toInt = 9 := by decide
        have k_g : (0 : Int32).toInt = 0 := by decide
        omega
      have g_10502 : a1 ≤ (9 : Int32) := by
        simp only [Int32.lt_iff_toInt_lt, Int32.le_iff_toInt_le, ← Int32.toInt_inj] at c_10242 c_10283 ⊢
        have k_0 : ((-1) : Int32).toInt = -1 := by decide
        have k_1 : (9 : Int32).toInt = 9 := by decide
        omega
      refine q_callVi (rest := [.int (-1)]) (wr := []) X hK hA hw5 (fun sz => kX12_passed_462 l D cy y0 (u_1.1 8) (u_1.1 19) a1 (u_1.1 0) (u_1.1 1) (u_1.1 2) (u_1.1 3) (u_1.1 4) (u_1.1 5) (u_1.1 6) (u_1.1 7) (u_1.1 9) (u_1.1 10) (u_1.1 11) (u_1.1 12) (u_1.1 13) (u_1.1 14) (u_1.1 15) (u_1.1 16) (u_1.1 17) (u_1.1 18) (upd (fun _ => 0) (Int32.toNatClampNeg 1) 1) g_10501 g_10502 (q_un (by decide +kernel) rfl) (q_un (by decide +kernel) rfl) (q_un (by decide +kernel) rfl) sz) wm_7_211 wm_7_214 wm_1_12 hd_X12_passed wm_7_212 wm_7_213 (ci := 12) (q0 := 0) rfl rfl ⟨Nat.le_of_ble_eq_true rfl, Nat.le_of_ble_eq_true rfl⟩ hl.1 rfl (Nat.le_of_ble_eq_true rfl) dL_law_1045 ⟨Nat.le_of_ble_eq_true rfl, Nat.le_of_ble_eq_true rfl⟩ [0, 1, 2] [] rfl rfl (by decide) rfl rfl (fun r_10503 u_10503 Hp6 lc6 w_10503 hw6 => ?_)
      clear Hp5 lc5 hw5
      obtain rfl : r_10503 = (-1) := w_10503
      clear w_10503
      replace hw6 : qW D _ _ [] _ _ := hw6
      refine lv_icmp_eq (tgt := 1461) hx hb dL_law_1048 (by decide) (fun _ => ?_) (fun c => absurd c (by decide +kernel))
      exact law_tail l X hr hlk hX hbl hw6.2.2 hl (Nat.le_of_ble_eq_true rfl) (Nat.le_of_ble_eq_true rfl)
    refine lv_aload_n hx hb dL_law_1020 rfl (lv_at hl 2 rfl) ?_
    refine lv_aload_n hx hb dL_law_1021 rfl (lv_at hl 3 rfl) ?_
    refine lv_iload_n hx hb dL_law_1022 rfl (lv_at hl 0 rfl) ?_
    refine lv_iconst (v := 1) hx hb dL_law_1023 (by decide) ?_
    refine lv_iadd hx hb dL_law_1024 ?_
    refine q_c 1 (by decide +kernel) ?_
    refine va_sld X.1 X.2.1 hX hbl hbA hw6.2.2 (q_in (by decide +kernel)) dL_law_1025 ?_
    refine q_c a1 e1 ?_
    refine lv_aload_n hx hb dL_law_1026 rfl (lv_at hl 3 rfl) ?_
    refine lv_iload_n hx hb dL_law_1027 rfl (lv_at hl 0 rfl) ?_
    refine lv_iconst (v := 2) hx hb dL_law_1028 (by decide) ?_
    refine lv_iadd hx hb dL_law_1029 ?_
    refine q_c 2 (by decide +kernel) ?_
    refine va_sld X.1 X.2.1 hX hbl hbA hw6.2.2 (q_in (by decide +kernel)) dL_law_1030 ?_
    refine q_c 0 e2 ?_
    have g_10542 : (10 : Int32) ≤ a1 := by
      simp only [Int32.lt_iff_toInt_lt, Int32.le_iff_toInt_le, ← Int32.toInt_inj] at c_10242 c_10283 ⊢
      have k_0 : ((-1) : Int32).toInt = -1 := by decide
      have k_1 : (9 : Int32).toInt = 9 := by decide
      have k_g : (10 : Int32).toInt = 10 := by decide
      omega
    refine q_callVi (rest := []) (wr := [(y0, .inr (12, [.int 0, .ref (u_1.1 19), .ref (u_1.1 0), .ref (u_1.1 1), .ref (u_1.1 2), .int 0, .int 0, .int 0, .int 0, .int 0, .int 0, .int 0, .int 0, .int 0, .int (-1), .int 0, .ref (u_1.1 3), .ref (u_1.1 4), .ref (u_1.1 5), .ref (u_1.1 6), .ref (u_1.1 7), .int 0, .int 0, .ref (u_1.1 8), .ref (u_1.1 9), .ref (u_1.1 10), .int 0, .int 0, .ref (u_1.1 11), .ref (u_1.1 12), .ref (u_1.1 13), .ref (u_1.1 14), .ref (u_1.1 15), .int 0, .ref (u_1.1 16), .ref (u_1.1 17), .ref (u_1.1 18)]))]) X hK hA hw6 (fun sz => kX11_passed_463 l D cy x0 a1 (u_0.1 0) (u_0.1 1) (u_0.1 37) (u_0.1 39) (u_0.1 41) (u_0.1 43) (u_0.1 14) (u_0.1 15) (u_0.1 16) (u_0.1 17) (u_0.1 20) (u_0.1 24) (u_0.1 29) g_10542 sz) wm_5_55 wm_5_58 wm_1_1 hd_X11_passed wm_5_56 wm_5_57 (ci := 11) (q0 := 0) rfl rfl ⟨Nat.le_of_ble_eq_true rfl, Nat.le_of_ble_eq_true rfl⟩ hl.1 rfl (Nat.le_of_ble_eq_true rfl) dL_law_1031 ⟨Nat.le_of_ble_eq_true rfl, Nat.le_of_ble_eq_true rfl⟩ [0] [78] rfl rfl (by decide) rfl rfl (fun r_10543 u_10543 Hp7 lc7 w_10543 hw7 => ?_)
    clear Hp6 lc6 hw6
    obtain rfl : r_10543 = (-3) := w_10543
    clear w_10543
    replace hw7 : qW D _ _ [(y0, .inr (12, [.int 0, .ref (u_1.1 19), .ref (u_1.1 0), .ref (u_1.1 1), .ref (u_1.1 2), .int 0, .int 0, .int 0, .int 0, .int 0, .int 0, .int 0, .int 0, .int 0, .int (-1), .int 0, .ref (u_1.1 3), .ref (u_1.1 4), .ref (u_1.1 5), .ref (u_1.1 6), .ref (u_1.1 7), .int 0, .int 0, .ref (u_1.1 8), .ref (u_1.1 9), .ref (u_1.1 10), .int 0, .int 0, .ref (u_1.1 11), .ref (u_1.1 12), .ref (u_1.1 13), .ref (u_1.1 14), .ref (u_1.1 15), .int 0, .ref (u_1.1 16), .ref (u_1.1 17), .ref (u_1.1 18)]))] _ _ := hw7
    refine lv_aload_n hx hb dL_law_1034 rfl (lv_at hl 1 rfl) ?_
    refine lv_aload_n hx hb dL_law_1035 rfl (lv_at hl 3 rfl) ?_
    refine lv_iload_n hx hb dL_law_1036 rfl (lv_at hl 0 rfl) ?_
    refine lv_iconst (v := 1) hx hb dL_law_1037 (by decide) ?_
    refine lv_iadd hx hb dL_law_1038 ?_
    refine q_c 1 (by decide +kernel) ?_
    refine va_sld X.1 X.2.1 hX hbl hbA hw7.2.2 (q_in (by decide +kernel)) dL_law_1039 ?_
    refine q_c a1 e1 ?_
    refine lv_aload_n hx hb dL_law_1040 rfl (lv_at hl 3 rfl) ?_
    refine lv_iload_n hx hb dL_law_1041 rfl (lv_at hl 0 rfl) ?_
    refine lv_iconst (v := 2) hx hb dL_law_1042 (by decide) ?_
    refine lv_iadd hx hb dL_law_1043 ?_
    refine q_c 2 (by decide +kernel) ?_
    refine va_sld X.1 X.2.1 hX hbl hbA hw7.2.2 (q_in (by decide +kernel)) dL_law_1044 ?_
    refine q_c 0 e2 ?_
    have g_10551 : (10 : Int32) ≤ a1 := by
      simp only [Int32.lt_iff_toInt_lt, Int32.le_iff_toInt_le, ← Int32.toInt_inj] at c_10242 c_10283 ⊢
      have k_0 : ((-1) : Int32).toInt = -1 := by decide
      have k_1 : (9 : Int32).toInt = 9 := by decide
      have k_g : (10 : Int32).toInt = 10 := by decide
      omega
    refine q_callVi (rest := [.int (-3)]) (wr := []) X hK hA hw7 (fun sz => kX12_passed_464 l D cy y0 a1 (u_1.1 19) (u_1.1 0) (u_1.1 1) (u_1.1 2) (u_1.1 3) (u_1.1 4) (u_1.1 5) (u_1.1 6) (u_1.1 7) (u_1.1 8) (u_1.1 9) (u_1.1 10) (u_1.1 11) (u_1.1 12) (u_1.1 13) (u_1.1 14) (u_1.1 15) (u_1.1 16) (u_1.1 17) (u_1.1 18) g_10551 sz) wm_7_211 wm_7_214 wm_1_12 hd_X12_passed wm_7_212 wm_7_213 (ci := 12) (q0 := 0) rfl rfl ⟨Nat.le_of_ble_eq_true rfl, Nat.le_of_ble_eq_true rfl⟩ hl.1 rfl (Nat.le_of_ble_eq_true rfl) dL_law_1045 ⟨Nat.le_of_ble_eq_true rfl, Nat.le_of_ble_eq_true rfl⟩ [0] [] rfl rfl (by decide) rfl rfl (fun r_10552 u_10552 Hp8 lc8 w_10552 hw8 => ?_)
    clear Hp7 lc7 hw7
    obtain rfl : r_10552 = (-3) := w_10552
    clear w_10552
    replace hw8 : qW D _ _ [] _ _ := hw8
    refine lv_icmp_eq (tgt := 1461) hx hb dL_law_1048 (by decide) (fun _ => ?_) (fun c => absurd c (by decide +kernel))
    exact law_tail l X hr hlk hX hbl hw8.2.2 hl (Nat.le_of_ble_eq_true rfl) (Nat.le_of_ble_eq_true rfl)
  by_cases c_10553 : a2 = 1
  · subst c_10553
    by_cases c_10558 : a1 ≤ (-1)
    · skip
      refine lv_aload_n hx hb dL_law_1020 rfl (lv_at hl 2 rfl) ?_
      refine lv_aload_n hx hb dL_law_1021 rfl (lv_at hl 3 rfl) ?_
      refine lv_iload_n hx hb dL_law_1022 rfl (lv_at hl 0 rfl) ?_
      refine lv_iconst (v := 1) hx hb dL_law_1023 (by decide) ?_
      refine lv_iadd hx hb dL_law_1024 ?_
      refine q_c 1 (by decide +kernel) ?_
      refine va_sld X.1 X.2.1 hX hbl hbA hw8.2.2 (q_in (by decide +kernel)) dL_law_1025 ?_
      refine q_c a1 e1 ?_
      refine lv_aload_n hx hb dL_law_1026 rfl (lv_at hl 3 rfl) ?_
      refine lv_iload_n hx hb dL_law_1027 rfl (lv_at hl 0 rfl) ?_
      refine lv_iconst (v := 2) hx hb dL_law_1028 (by decide) ?_
      refine lv_iadd hx hb dL_law_1029 ?_
      refine q_c 2 (by decide +kernel) ?_
      refine va_sld X.1 X.2.1 hX hbl hbA hw8.2.2 (q_in (by decide +kernel)) dL_law_1030 ?_
      refine q_c 1 e2 ?_
      have g_10589 : a1 ≤ ((-1) : Int32) := by
        simp only [Int32.lt_iff_toInt_lt, Int32.le_iff_toInt_le, ← Int32.toInt_inj] at c_10558 ⊢
        have k_0 : ((-1) : Int32).toInt = -1 := by decide
        omega
      refine q_callVi (rest := []) (wr := [(y0, .inr (12, [.int 0, .ref (u_1.1 19), .ref (u_1.1 0), .ref (u_1.1 1), .ref (u_1.1 2), .int 0, .int 0, .int 0, .int 0, .int 0, .int 0, .int 0, .int 0, .int 0, .int (-1), .int 0, .ref (u_1.1 3), .ref (u_1.1 4), .ref (u_1.1 5), .ref (u_1.1 6), .ref (u_1.1 7), .int 0, .int 0, .ref (u_1.1 8), .ref (u_1.1 9), .ref (u_1.1 10), .int 0, .int 0, .ref (u_1.1 11), .ref (u_1.1 12), .ref (u_1.1 13), .ref (u_1.1 14), .ref (u_1.1 15), .int 0, .ref (u_1.1 16), .ref (u_1.1 17), .ref (u_1.1 18)]))]) X hK hA hw8 (fun sz => kX11_passed_465 l D cy x0 a1 (u_0.1 0) (u_0.1 1) (u_0.1 37) (u_0.1 39) (u_0.1 41) (u_0.1 43) (u_0.1 14) (u_0.1 15) (u_0.1 16) (u_0.1 17) (u_0.1 20) (u_0.1 24) (u_0.1 29) g_10589 sz) wm_5_55 wm_5_58 wm_1_1 hd_X11_passed wm_5_56 wm_5_57 (ci := 11) (q0 := 0) rfl rfl ⟨Nat.le_of_ble_eq_true rfl, Nat.le_of_ble_eq_true rfl⟩ hl.1 rfl (Nat.le_of_ble_eq_true rfl) dL_law_1031 ⟨Nat.le_of_ble_eq_true rfl, Nat.le_of_ble_eq_true rfl⟩ [0] [78] rfl rfl (by decide) rfl rfl (fun r_10590 u_10590 Hp9 lc9 w_10590 hw9 => ?_)
      clear Hp8 lc8 hw8
      obtain rfl : r_10590 = (-3) := w_10590
      clear w_10590
      replace hw9 : qW D _ _ [(y0, .inr (12, [.int 0, .ref (u_1.1 19), .ref (u_1.1 0), .ref (u_1.1 1), .ref (u_1.1 2), .int 0, .int 0, .int 0, .int 0, .int 0, .int 0, .int 0, .int 0, .int 0, .int (-1), .int 0, .ref (u_1.1 3), .ref (u_1.1 4), .ref (u_1.1 5), .ref (u_1.1 6), .ref (u_1.1 7), .int 0, .int 0, .ref (u_1.1 8), .ref (u_1.1 9), .ref (u_1.1 10), .int 0, .int 0, .ref (u_1.1 11), .ref (u_1.1 12), .ref (u_1.1 13), .ref (u_1.1 14), .ref (u_1.1 15), .int 0, .ref (u_1.1 16), .ref (u_1.1 17), .ref (u_1.1 18)]))] _ _ := hw9
      refine lv_aload_n hx hb dL_law_1034 rfl (lv_at hl 1 rfl) ?_
      refine lv_aload_n hx hb dL_law_1035 rfl (lv_at hl 3 rfl) ?_
      refine lv_iload_n hx hb dL_law_1036 rfl (lv_at hl 0 rfl) ?_
      refine lv_iconst (v := 1) hx hb dL_law_1037 (by decide) ?_
      refine lv_iadd hx hb dL_law_1038 ?_
      refine q_c 1 (by decide +kernel) ?_
      refine va_sld X.1 X.2.1 hX hbl hbA hw9.2.2 (q_in (by decide +kernel)) dL_law_1039 ?_
      refine q_c a1 e1 ?_
      refine lv_aload_n hx hb dL_law_1040 rfl (lv_at hl 3 rfl) ?_
      refine lv_iload_n hx hb dL_law_1041 rfl (lv_at hl 0 rfl) ?_
      refine lv_iconst (v := 2) hx hb dL_law_1042 (by decide) ?_
      refine lv_iadd hx hb dL_law_1043 ?_
      refine q_c 2 (by decide +kernel) ?_
      refine va_sld X.1 X.2.1 hX hbl hbA hw9.2.2 (q_in (by decide +kernel)) dL_law_1044 ?_
      refine q_c 1 e2 ?_
      have g_10597 : a1 ≤ ((-1) : Int32) := by
        simp only [Int32.lt_iff_toInt_lt, Int32.le_iff_toInt_le, ← Int32.toInt_inj] at c_10558 ⊢
        have k_0 : ((-1) : Int32).toInt = -1 := by decide
        omega
      refine q_callVi (rest := [.int (-3)]) (wr := []) X hK hA hw9 (fun sz => kX12_passed_466 l D cy y0 a1 (u_1.1 19) (u_1.1 0) (u_1.1 1) (u_1.1 2) (u_1.1 3) (u_1.1 4) (u_1.1 5) (u_1.1 6) (u_1.1 7) (u_1.1 8) (u_1.1 9) (u_1.1 10) (u_1.1 11) (u_1.1 12) (u_1.1 13) (u_1.1 14) (u_1.1 15) (u_1.1 16) (u_1.1 17) (u_1.1 18) g_10597 sz) wm_7_211 wm_7_214 wm_1_12 hd_X12_passed wm_7_212 wm_7_213 (ci := 12) (q0 := 0) rfl rfl ⟨Nat.le_of_ble_eq_true rfl, Nat.le_of_ble_eq_true rfl⟩ hl.1 rfl (Nat.le_of_ble_eq_true rfl) dL_law_1045 ⟨Nat.le_of_ble_eq_true rfl, Nat.le_of_ble_eq_true rfl⟩ [0] [] rfl rfl (by decide) rfl rfl (fun r_10598 u_10598 Hp10 lc10 w_10598 hw10 => ?_)
      clear Hp9 lc9 hw9
      obtain rfl : r_10598 = (-3) := w_10598
      clear w_10598
      replace hw10 : qW D _ _ [] _ _ := hw10
      refine lv_icmp_eq (tgt := 1461) hx hb dL_law_1048 (by decide) (fun _ => ?_) (fun c => absurd c (by decide +kernel))
      exact law_tail l X hr hlk hX hbl hw10.2.2 hl (Nat.le_of_ble_eq_true rfl) (Nat.le_of_ble_eq_true rfl)
    by_cases c_10599 : a1 ≤ 9
    · skip
      refine lv_aload_n hx hb dL_law_1020 rfl (lv_at hl 2 rfl) ?_
      refine lv_aload_n hx hb dL_law_1021 rfl (lv_at hl 3 rfl) ?_
      refine lv_iload_n hx hb dL_law_1022 rfl (lv_at hl 0 rfl) ?_
      refine lv_iconst (v := 1) hx hb dL_law_1023 (by decide) ?_
      refine lv_iadd hx hb dL_law_1024 ?_
      refine q_c 1 (by decide +kernel) ?_
      refine va_sld X.1 X.2.1 hX hbl hbA hw10.2.2 (q_in (by decide +kernel)) dL_law_1025 ?_
      refine q_c a1 e1 ?_
      refine lv_aload_n hx hb dL_law_1026 rfl (lv_at hl 3 rfl) ?_
      refine lv_iload_n hx hb dL_law_1027 rfl (lv_at hl 0 rfl) ?_
      refine lv_iconst (v := 2) hx hb dL_law_1028 (by decide) ?_
      refine lv_iadd hx hb dL_law_1029 ?_
      refine q_c 2 (by decide +kernel) ?_
      refine va_sld X.1 X.2.1 hX hbl hbA hw10.2.2 (q_in (by decide +kernel)) dL_law_1030 ?_
      refine q_c 1 e2 ?_
      have g_10762 : (0 : Int32) ≤ a1 := by
        simp only [Int32.lt_iff_toInt_lt, Int32.le_iff_toInt_le, ← Int32.toInt_inj] at c_10558 c_10599 ⊢
        have k_0 : ((-1) : Int32).toInt = -1 := by decide
        have k_1 : (9 : Int32).toInt = 9 := by decide
        have k_g : (0 : Int32).toInt = 0 := by decide
        omega
      have g_10763 : a1 ≤ (9 : Int32) := by
        simp only [Int32.lt_iff_toInt_lt, Int32.le_iff_toInt_le, ← Int32.toInt_inj] at c_10558 c_10599 ⊢
        have k_0 : ((-1) : Int32).toInt = -1 := by decide
        have k_1 : (9 : Int32).toInt = 9 := by decide
        omega
      refine q_callVi (rest := []) (wr := [(y0, .inr (12, [.int 0, .ref (u_1.1 19), .ref (u_1.1 0), .ref (u_1.1 1), .ref (u_1.1 2), .int 0, .int 0, .int 0, .int 0, .int 0, .int 0, .int 0, .int 0, .int 0, .int (-1), .int 0, .ref (u_1.1 3), .ref (u_1.1 4), .ref (u_1.1 5), .ref (u_1.1 6), .ref (u_1.1 7), .int 0, .int 0, .ref (u_1.1 8), .ref (u_1.1 9), .ref (u_1.1 10), .int 0, .int 0, .ref (u_1.1 11), .ref (u_1.1 12), .ref (u_1.1 13), .ref (u_1.1 14), .ref (u_1.1 15), .int 0, .ref (u_1.1 16), .ref (u_1.1 17), .ref (u_1.1 18)])), ((u_1.1 8), .inl (cy 1, 1024, .inl (fun _ => 0))), ((u_1.1 19), .inl (cy 1, 3918, .inl (upd (fun _ => 0) (Int32.toNatClampNeg 1) 1)))]) X hK hA hw10 (fun sz => kX11_passed_468 l D cy x0 (u_0.1 20) (u_0.1 21) (u_0.1 22) (u_0.1 31) (u_0.1 37) a1 (u_0.1 0) (u_0.1 1) (u_0.1 39) (u_0.1 41) (u_0.1 43) (u_0.1 14) (u_0.1 15) (u_0.1 16) (u_0.1 17) (u_0.1 24) (u_0.1 29) (u_0.1 23) (u_0.1 32) (u_0.1 33) (u_0.1 34) (u_0.1 35) (u_0.1 36) (u_0.1 38) g_10762 g_10763 sz) wm_5_55 wm_5_58 wm_1_1 hd_X11_passed wm_5_56 wm_5_57 (ci := 11) (q0 := 0) rfl rfl ⟨Nat.le_of_ble_eq_true rfl, Nat.le_of_ble_eq_true rfl⟩ hl.1 rfl (Nat.le_of_ble_eq_true rfl) dL_law_1031 ⟨Nat.le_of_ble_eq_true rfl, Nat.le_of_ble_eq_true rfl⟩ [0, 21, 22, 23, 32, 38] [78, 87, 98] rfl rfl (by decide) rfl rfl (fun r_10764 u_10764 Hp11 lc11 w_10764 hw11 => ?_)
      clear Hp10 lc10 hw10
      obtain rfl : r_10764 = (-1) := w_10764
      clear w_10764
      replace hw11 : qW D _ _ [(y0, .inr (12, [.int 0, .ref (u_1.1 19), .ref (u_1.1 0), .ref (u_1.1 1), .ref (u_1.1 2), .int 0, .int 0, .int 0, .int 0, .int 0, .int 0, .int 0, .int 0, .int 0, .int (-1), .int 0, .ref (u_1.1 3), .ref (u_1.1 4), .ref (u_1.1 5), .ref (u_1.1 6), .ref (u_1.1 7), .int 0, .int 0, .ref (u_1.1 8), .ref (u_1.1 9), .ref (u_1.1 10), .int 0, .int 0, .ref (u_1.1 11), .ref (u_1.1 12), .ref (u_1.1 13), .ref (u_1.1 14), .ref (u_1.1 15), .int 0, .ref (u_1.1 16), .ref (u_1.1 17), .ref (u_1.1 18)])), ((u_1.1 8), .inl (cy 1, 1024, .inl (fun _ => 0))), ((u_1.1 19), .inl (cy 1, 3918, .inl (upd (fun _ => 0) (Int32.toNatClampNeg 1) 1)))] _ _ := hw11
      refine lv_aload_n hx hb dL_law_1034 rfl (lv_at hl 1 rfl) ?_
      refine lv_aload_n hx hb dL_law_1035 rfl (lv_at hl 3 rfl) ?_
      refine lv_iload_n hx hb dL_law_1036 rfl (lv_at hl 0 rfl) ?_
      refine lv_iconst (v := 1) hx hb dL_law_1037 (by decide) ?_
      refine lv_iadd hx hb dL_law_1038 ?_
      refine q_c 1 (by decide +kernel) ?_
      refine va_sld X.1 X.2.1 hX hbl hbA hw11.2.2 (q_in (by decide +kernel)) dL_law_1039 ?_
      refine q_c a1 e1 ?_
      refine lv_aload_n hx hb dL_law_1040 rfl (lv_at hl 3 rfl) ?_
      refine lv_iload_n hx hb dL_law_1041 rfl (lv_at hl 0 rfl) ?_
      refine lv_iconst (v := 2) hx hb dL_law_1042 (by decide) ?_
      refine lv_iadd hx hb dL_law_1043 ?_
      refine q_c 2 (by decide +kernel) ?_
      refine va_sld X.1 X.2.1 hX hbl hbA hw11.2.2 (q_in (by decide +kernel)) dL_law_1044 ?_
      refine q_c 1 e2 ?_
      have g_10787 : (0 : Int32) ≤ a1 := by
        simp only [Int32.lt_iff_toInt_lt, Int32.le_iff_toInt_le, ← Int32.toInt_inj] at c_10558 c_10599 ⊢
        have k_0 : ((-1) : Int32).toInt = -1 := by decide
        have k_1 : (9 : Int32).toInt = 9 := by decide
        have k_g : (0 : Int32).toInt = 0 := by decide
        omega
      have g_10788 : a1 ≤ (9 : Int32) := by
        simp only [Int32.lt_iff_toInt_lt, Int32.le_iff_toInt_le, ← Int32.toInt_inj] at c_10558 c_10599 ⊢
        have k_0 : ((-1) : Int32).toInt = -1 := by decide
        have k_1 : (9 : Int32).toInt = 9 := by decide
        omega
      refine q_callVi (rest := [.int (-1)]) (wr := []) X hK hA hw11 (fun sz => kX12_passed_469 l D cy y0 (u_1.1 8) (u_1.1 19) a1 (u_1.1 0) (u_1.1 1) (u_1.1 2) (u_1.1 3) (u_1.1 4) (u_1.1 5) (u_1.1 6) (u_1.1 7) (u_1.1 9) (u_1.1 10) (u_1.1 11) (u_1.1 12) (u_1.1 13) (u_1.1 14) (u_1.1 15) (u_1.1 16) (u_1.1 17) (u_1.1 18) (upd (fun _ => 0) (Int32.toNatClampNeg 1) 1) g_10787 g_10788 (q_un (by decide +kernel) rfl) (q_un (by decide +kernel) rfl) (q_un (by decide +kernel) rfl) sz) wm_7_211 wm_7_214 wm_1_12 hd_X12_passed wm_7_212 wm_7_213 (ci := 12) (q0 := 0) rfl rfl ⟨Nat.le_of_ble_eq_true rfl, Nat.le_of_ble_eq_true rfl⟩ hl.1 rfl (Nat.le_of_ble_eq_true rfl) dL_law_1045 ⟨Nat.le_of_ble_eq_true rfl, Nat.le_of_ble_eq_true rfl⟩ [0, 1, 2] [] rfl rfl (by decide) rfl rfl (fun r_10789 u_10789 Hp12 lc12 w_10789 hw12 => ?_)
      clear Hp11 lc11 hw11
      obtain rfl : r_10789 = (-1) := w_10789
      clear w_10789
      replace hw12 : qW D _ _ [] _ _ := hw12
      refine lv_icmp_eq (tgt := 1461) hx hb dL_law_1048 (by decide) (fun _ => ?_) (fun c => absurd c (by decide +kernel))
      exact law_tail l X hr hlk hX hbl hw12.2.2 hl (Nat.le_of_ble_eq_true rfl) (Nat.le_of_ble_eq_true rfl)
    refine lv_aload_n hx hb dL_law_1020 rfl (lv_at hl 2 rfl) ?_
    refine lv_aload_n hx hb dL_law_1021 rfl (lv_at hl 3 rfl) ?_
    refine lv_iload_n hx hb dL_law_1022 rfl (lv_at hl 0 rfl) ?_
    refine lv_iconst (v := 1) hx hb dL_law_1023 (by decide) ?_
    refine lv_iadd hx hb dL_law_1024 ?_
    refine q_c 1 (by decide +kernel) ?_
    refine va_sld X.1 X.2.1 hX hbl hbA hw12.2.2 (q_in (by decide +kernel)) dL_law_1025 ?_
    refine q_c a1 e1 ?_
    refine lv_aload_n hx hb dL_law_1026 rfl (lv_at hl 3 rfl) ?_
    refine lv_iload_n hx hb dL_law_1027 rfl (lv_at hl 0 rfl) ?_
    refine lv_iconst (v := 2) hx hb dL_law_1028 (by decide) ?_
    refine lv_iadd hx hb dL_law_1029 ?_
    refine q_c 2 (by decide +kernel) ?_
    refine va_sld X.1 X.2.1 hX hbl hbA hw12.2.2 (q_in (by decide +kernel)) dL_law_1030 ?_
    refine q_c 1 e2 ?_
    have g_10828 : (10 : Int32) ≤ a1 := by
      simp only [Int32.lt_iff_toInt_lt, Int32.le_iff_toInt_le, ← Int32.toInt_inj] at c_10558 c_10599 ⊢
      have k_0 : ((-1) : Int32).toInt = -1 := by decide
      have k_1 : (9 : Int32).toInt = 9 := by decide
      have k_g : (10 : Int32).toInt = 10 := by decide
      omega
    refine q_callVi (rest := []) (wr := [(y0, .inr (12, [.int 0, .ref (u_1.1 19), .ref (u_1.1 0), .ref (u_1.1 1), .ref (u_1.1 2), .int 0, .int 0, .int 0, .int 0, .int 0, .int 0, .int 0, .int 0, .int 0, .int (-1), .int 0, .ref (u_1.1 3), .ref (u_1.1 4), .ref (u_1.1 5), .ref (u_1.1 6), .ref (u_1.1 7), .int 0, .int 0, .ref (u_1.1 8), .ref (u_1.1 9), .ref (u_1.1 10), .int 0, .int 0, .ref (u_1.1 11), .ref (u_1.1 12), .ref (u_1.1 13), .ref (u_1.1 14), .ref (u_1.1 15), .int 0, .ref (u_1.1 16), .ref (u_1.1 17), .ref (u_1.1 18)]))]) X hK hA hw12 (fun sz => kX11_passed_470 l D cy x0 a1 (u_0.1 0) (u_0.1 1) (u_0.1 37) (u_0.1 39) (u_0.1 41) (u_0.1 43) (u_0.1 14) (u_0.1 15) (u_0.1 16) (u_0.1 17) (u_0.1 20) (u_0.1 24) (u_0.1 29) g_10828 sz) wm_5_55 wm_5_58 wm_1_1 hd_X11_passed wm_5_56 wm_5_57 (ci := 11) (q0 := 0) rfl rfl ⟨Nat.le_of_ble_eq_true rfl, Nat.le_of_ble_eq_true rfl⟩ hl.1 rfl (Nat.le_of_ble_eq_true rfl) dL_law_1031 ⟨Nat.le_of_ble_eq_true rfl, Nat.le_of_ble_eq_true rfl⟩ [0] [78] rfl rfl (by decide) rfl rfl (fun r_10829 u_10829 Hp13 lc13 w_10829 hw13 => ?_)
    clear Hp12 lc12 hw12
    obtain rfl : r_10829 = (-3) := w_10829
    clear w_10829
    replace hw13 : qW D _ _ [(y0, .inr (12, [.int 0, .ref (u_1.1 19), .ref (u_1.1 0), .ref (u_1.1 1), .ref (u_1.1 2), .int 0, .int 0, .int 0, .int 0, .int 0, .int 0, .int 0, .int 0, .int 0, .int (-1), .int 0, .ref (u_1.1 3), .ref (u_1.1 4), .ref (u_1.1 5), .ref (u_1.1 6), .ref (u_1.1 7), .int 0, .int 0, .ref (u_1.1 8), .ref (u_1.1 9), .ref (u_1.1 10), .int 0, .int 0, .ref (u_1.1 11), .ref (u_1.1 12), .ref (u_1.1 13), .ref (u_1.1 14), .ref (u_1.1 15), .int 0, .ref (u_1.1 16), .ref (u_1.1 17), .ref (u_1.1 18)]))] _ _ := hw13
    refine lv_aload_n hx hb dL_law_1034 rfl (lv_at hl 1 rfl) ?_
    refine lv_aload_n hx hb dL_law_1035 rfl (lv_at hl 3 rfl) ?_
    refine lv_iload_n hx hb dL_law_1036 rfl (lv_at hl 0 rfl) ?_
    refine lv_iconst (v := 1) hx hb dL_law_1037 (by decide) ?_
    refine lv_iadd hx hb dL_law_1038 ?_
    refine q_c 1 (by decide +kernel) ?_
    refine va_sld X.1 X.2.1 hX hbl hbA hw13.2.2 (q_in (by decide +kernel)) dL_law_1039 ?_
    refine q_c a1 e1 ?_
    refine lv_aload_n hx hb dL_law_1040 rfl (lv_at hl 3 rfl) ?_
    refine lv_iload_n hx hb dL_law_1041 rfl (lv_at hl 0 rfl) ?_
    refine lv_iconst (v := 2) hx hb dL_law_1042 (by decide) ?_
    refine lv_iadd hx hb dL_law_1043 ?_
    refine q_c 2 (by decide +kernel) ?_
    refine va_sld X.1 X.2.1 hX hbl hbA hw13.2.2 (q_in (by decide +kernel)) dL_law_1044 ?_
    refine q_c 1 e2 ?_
    have g_10837 : (10 : Int32) ≤ a1 := by
      simp only [Int32.lt_iff_toInt_lt, Int32.le_iff_toInt_le, ← Int32.toInt_inj] at c_10558 c_10599 ⊢
      have k_0 : ((-1) : Int32).toInt = -1 := by decide
      have k_1 : (9 : Int32).toInt = 9 := by decide
      have k_g : (10 : Int32).toInt = 10 := by decide
      omega
    refine q_callVi (rest := [.int (-3)]) (wr := []) X hK hA hw13 (fun sz => kX12_passed_471 l D cy y0 a1 (u_1.1 19) (u_1.1 0) (u_1.1 1) (u_1.1 2) (u_1.1 3) (u_1.1 4) (u_1.1 5) (u_1.1 6) (u_1.1 7) (u_1.1 8) (u_1.1 9) (u_1.1 10) (u_1.1 11) (u_1.1 12) (u_1.1 13) (u_1.1 14) (u_1.1 15) (u_1.1 16) (u_1.1 17) (u_1.1 18) g_10837 sz) wm_7_211 wm_7_214 wm_1_12 hd_X12_passed wm_7_212 wm_7_213 (ci := 12) (q0 := 0) rfl rfl ⟨Nat.le_of_ble_eq_true rfl, Nat.le_of_ble_eq_true rfl⟩ hl.1 rfl (Nat.le_of_ble_eq_true rfl) dL_law_1045 ⟨Nat.le_of_ble_eq_true rfl, Nat.le_of_ble_eq_true rfl⟩ [0] [] rfl rfl (by decide) rfl rfl (fun r_10838 u_10838 Hp14 lc14 w_10838 hw14 => ?_)
    clear Hp13 lc13 hw13
    obtain rfl : r_10838 = (-3) := w_10838
    clear w_10838
    replace hw14 : qW D _ _ [] _ _ := hw14
    refine lv_icmp_eq (tgt := 1461) hx hb dL_law_1048 (by decide) (fun _ => ?_) (fun c => absurd c (by decide +kernel))
    exact law_tail l X hr hlk hX hbl hw14.2.2 hl (Nat.le_of_ble_eq_true rfl) (Nat.le_of_ble_eq_true rfl)
  refine lv_aload_n hx hb dL_law_1020 rfl (lv_at hl 2 rfl) ?_
  refine lv_aload_n hx hb dL_law_1021 rfl (lv_at hl 3 rfl) ?_
  refine lv_iload_n hx hb dL_law_1022 rfl (lv_at hl 0 rfl) ?_
  refine lv_iconst (v := 1) hx hb dL_law_1023 (by decide) ?_
  refine lv_iadd hx hb dL_law_1024 ?_
  refine q_c 1 (by decide +kernel) ?_
  refine va_sld X.1 X.2.1 hX hbl hbA hw14.2.2 (q_in (by decide +kernel)) dL_law_1025 ?_
  refine q_c a1 e1 ?_
  refine lv_aload_n hx hb dL_law_1026 rfl (lv_at hl 3 rfl) ?_
  refine lv_iload_n hx hb dL_law_1027 rfl (lv_at hl 0 rfl) ?_
  refine lv_iconst (v := 2) hx hb dL_law_1028 (by decide) ?_
  refine lv_iadd hx hb dL_law_1029 ?_
  refine q_c 2 (by decide +kernel) ?_
  refine va_sld X.1 X.2.1 hX hbl hbA hw14.2.2 (q_in (by decide +kernel)) dL_law_1030 ?_
  refine q_c a2 e2 ?_
  have g_10860 : (2 : Int32) ≤ a2 := by
    simp only [Int32.lt_iff_toInt_lt, Int32.le_iff_toInt_le, ← Int32.toInt_inj] at c_10212 c_10237 c_10553 ⊢
    have k_0 : ((-1) : Int32).toInt = -1 := by decide
    have k_1 : (0 : Int32).toInt = 0 := by decide
    have k_2 : (1 : Int32).toInt = 1 := by decide
    have k_g : (2 : Int32).toInt = 2 := by decide
    omega
  refine q_callVi (rest := []) (wr := [(y0, .inr (12, [.int 0, .ref (u_1.1 19), .ref (u_1.1 0), .ref (u_1.1 1), .ref (u_1.1 2), .int 0, .int 0, .int 0, .int 0, .int 0, .int 0, .int 0, .int 0, .int 0, .int (-1), .int 0, .ref (u_1.1 3), .ref (u_1.1 4), .ref (u_1.1 5), .ref (u_1.1 6), .ref (u_1.1 7), .int 0, .int 0, .ref (u_1.1 8), .ref (u_1.1 9), .ref (u_1.1 10), .int 0, .int 0, .ref (u_1.1 11), .ref (u_1.1 12), .ref (u_1.1 13), .ref (u_1.1 14), .ref (u_1.1 15), .int 0, .ref (u_1.1 16), .ref (u_1.1 17), .ref (u_1.1 18)]))]) X hK hA hw14 (fun sz => kX11_passed_472 l D cy x0 a1 a2 (u_0.1 0) (u_0.1 1) (u_0.1 37) (u_0.1 39) (u_0.1 41) (u_0.1 43) (u_0.1 14) (u_0.1 15) (u_0.1 16) (u_0.1 17) (u_0.1 20) (u_0.1 24) (u_0.1 29) g_10860 sz) wm_5_55 wm_5_58 wm_1_1 hd_X11_passed wm_5_56 wm_5_57 (ci := 11) (q0 := 0) rfl rfl ⟨Nat.le_of_ble_eq_true rfl, Nat.le_of_ble_eq_true rfl⟩ hl.1 rfl (Nat.le_of_ble_eq_true rfl) dL_law_1031 ⟨Nat.le_of_ble_eq_true rfl, Nat.le_of_ble_eq_true rfl⟩ [0] [78] rfl rfl (by decide) rfl rfl (fun r_10861 u_10861 Hp15 lc15 w_10861 hw15 => ?_)
  clear Hp14 lc14 hw14
  obtain rfl : r_10861 = (-2) := w_10861
  clear w_10861
  replace hw15 : qW D _ _ [(y0, .inr (12, [.int 0, .ref (u_1.1 19), .ref (u_1.1 0), .ref (u_1.1 1), .ref (u_1.1 2), .int 0, .int 0, .int 0, .int 0, .int 0, .int 0, .int 0, .int 0, .int 0, .int (-1), .int 0, .ref (u_1.1 3), .ref (u_1.1 4), .ref (u_1.1 5), .ref (u_1.1 6), .ref (u_1.1 7), .int 0, .int 0, .ref (u_1.1 8), .ref (u_1.1 9), .ref (u_1.1 10), .int 0, .int 0, .ref (u_1.1 11), .ref (u_1.1 12), .ref (u_1.1 13), .ref (u_1.1 14), .ref (u_1.1 15), .int 0, .ref (u_1.1 16), .ref (u_1.1 17), .ref (u_1.1 18)]))] _ _ := hw15
  refine lv_aload_n hx hb dL_law_1034 rfl (lv_at hl 1 rfl) ?_
  refine lv_aload_n hx hb dL_law_1035 rfl (lv_at hl 3 rfl) ?_
  refine lv_iload_n hx hb dL_law_1036 rfl (lv_at hl 0 rfl) ?_
  refine lv_iconst (v := 1) hx hb dL_law_1037 (by decide) ?_
  refine lv_iadd hx hb dL_law_1038 ?_
  refine q_c 1 (by decide +kernel) ?_
  refine va_sld X.1 X.2.1 hX hbl hbA hw15.2.2 (q_in (by decide +kernel)) dL_law_1039 ?_
  refine q_c a1 e1 ?_
  refine lv_aload_n hx hb dL_law_1040 rfl (lv_at hl 3 rfl) ?_
  refine lv_iload_n hx hb dL_law_1041 rfl (lv_at hl 0 rfl) ?_
  refine lv_iconst (v := 2) hx hb dL_law_1042 (by decide) ?_
  refine lv_iadd hx hb dL_law_1043 ?_
  refine q_c 2 (by decide +kernel) ?_
  refine va_sld X.1 X.2.1 hX hbl hbA hw15.2.2 (q_in (by decide +kernel)) dL_law_1044 ?_
  refine q_c a2 e2 ?_
  have g_10866 : (2 : Int32) ≤ a2 := by
    simp only [Int32.lt_iff_toInt_lt, Int32.le_iff_toInt_le, ← Int32.toInt_inj] at c_10212 c_10237 c_10553 ⊢
    have k_0 : ((-1) : Int32).toInt = -1 := by decide
    have k_1 : (0 : Int32).toInt = 0 := by decide
    have k_2 : (1 : Int32).toInt = 1 := by decide
    have k_g : (2 : Int32).toInt = 2 := by decide
    omega
  refine q_callVi (rest := [.int (-2)]) (wr := []) X hK hA hw15 (fun sz => kX12_passed_473 l D cy y0 a1 a2 (u_1.1 19) (u_1.1 0) (u_1.1 1) (u_1.1 2) (u_1.1 3) (u_1.1 4) (u_1.1 5) (u_1.1 6) (u_1.1 7) (u_1.1 8) (u_1.1 9) (u_1.1 10) (u_1.1 11) (u_1.1 12) (u_1.1 13) (u_1.1 14) (u_1.1 15) (u_1.1 16) (u_1.1 17) (u_1.1 18) g_10866 sz) wm_7_211 wm_7_214 wm_1_12 hd_X12_passed wm_7_212 wm_7_213 (ci := 12) (q0 := 0) rfl rfl ⟨Nat.le_of_ble_eq_true rfl, Nat.le_of_ble_eq_true rfl⟩ hl.1 rfl (Nat.le_of_ble_eq_true rfl) dL_law_1045 ⟨Nat.le_of_ble_eq_true rfl, Nat.le_of_ble_eq_true rfl⟩ [0] [] rfl rfl (by decide) rfl rfl (fun r_10867 u_10867 Hp16 lc16 w_10867 hw16 => ?_)
  clear Hp15 lc15 hw15
  obtain rfl : r_10867 = (-2) := w_10867
  clear w_10867
  replace hw16 : qW D _ _ [] _ _ := hw16
  refine lv_icmp_eq (tgt := 1461) hx hb dL_law_1048 (by decide) (fun _ => ?_) (fun c => absurd c (by decide +kernel))
  exact law_tail l X hr hlk hX hbl hw16.2.2 hl (Nat.le_of_ble_eq_true rfl) (Nat.le_of_ble_eq_true rfl)
set_option maxHeartbeats 4000000 in
set_option maxRecDepth 100000 in
theorem lc_easiest (l : Launch) {p : Program} {e : Env} {s : State} {m : MethodId} {below : List Frame} {meth : Method} {c : Code} {b : Nat} {xs : Nat → Int32} {D : va_G} {cy : Nat → ClassId} {H : Heap} {locs : List Loc} {ls : Array Slot} {x0 y0 : Nat} {u_0 u_1 : SS} (X : qX p s m #[Value.ref b] c cL_law 4 RL) (hr : meth.sig.returnType = ret) (hlk : meth.locks = false) (hX : va_X b 6 xs s s.heap) (hbl : b < s.heap.size) (hK : qK D cy s) (a1 a2 a3 a4 a5 : Int32) (e1 : xs (Int32.toNatClampNeg 1) = a1) (e2 : xs (Int32.toNatClampNeg 2) = a2) (e3 : xs (Int32.toNatClampNeg 3) = a3) (e4 : xs (Int32.toNatClampNeg 4) = a4) (e5 : xs (Int32.toNatClampNeg 5) = a5) (h : qW D (fun q => s.heap.size ≤ q) s.heap (wLaw cy x0 y0 u_0 u_1) H locs) (hl : lv_has ls 4 [(3, .int 0), (2, .ref y0), (1, .ref x0), (0, .ref b)]) : W p l e room_1 s m #[Value.ref b] below meth c H locs 99 25544 (lw_Z below #[Value.ref b] s) (F0 m 1053 ls []) := by
  obtain ⟨hx, hb, hml, hown, ht⟩ := id X
  have hA : ∀ q : Nat, s.heap.size ≤ q → (fun q : Nat => s.heap.size ≤ q) q := fun _ h => h
  have hbA : ¬ (fun q : Nat => s.heap.size ≤ q) b := Nat.not_le.mpr hbl
  refine lv_aload_n hx hb dL_law_1053 rfl (lv_at hl 2 rfl) ?_
  refine q_callVi (rest := []) (wr := [(y0, .inr (12, [.int 0, .ref (u_1.1 19), .ref (u_1.1 0), .ref (u_1.1 1), .ref (u_1.1 2), .int 0, .int 0, .int 0, .int 0, .int 0, .int 0, .int 0, .int 0, .int 0, .int (-1), .int 0, .ref (u_1.1 3), .ref (u_1.1 4), .ref (u_1.1 5), .ref (u_1.1 6), .ref (u_1.1 7), .int 0, .int 0, .ref (u_1.1 8), .ref (u_1.1 9), .ref (u_1.1 10), .int 0, .int 0, .ref (u_1.1 11), .ref (u_1.1 12), .ref (u_1.1 13), .ref (u_1.1 14), .ref (u_1.1 15), .int 0, .ref (u_1.1 16), .ref (u_1.1 17), .ref (u_1.1 18)])), ((u_1.1 8), .inl (cy 1, 1024, .inl (fun _ => 0))), ((u_1.1 19), .inl (cy 1, 3918, .inl (upd (fun _ => 0) (Int32.toNatClampNeg 1) 1)))]) X hK hA h (fun sz => kX11_easiest_476 l D cy x0 (u_0.1 20) (u_0.1 21) (u_0.1 22) (u_0.1 31) (u_0.1 37) (u_0.1 0) (u_0.1 1) (u_0.1 39) (u_0.1 41) (u_0.1 43) (u_0.1 14) (u_0.1 15) (u_0.1 16) (u_0.1 17) (u_0.1 24) (u_0.1 29) (u_0.1 23) (u_0.1 32) (u_0.1 33) (u_0.1 34) (u_0.1 35) (u_0.1 36) (u_0.1 38)  sz) wm_5_63 wm_5_66 wm_1_1 hd_X11_easiest wm_5_64 wm_5_65 (ci := 11) (q0 := 0) rfl rfl ⟨Nat.le_of_ble_eq_true rfl, Nat.le_of_ble_eq_true rfl⟩ hl.1 rfl (Nat.le_of_ble_eq_true rfl) dL_law_1054 ⟨Nat.le_of_ble_eq_true rfl, Nat.le_of_ble_eq_true rfl⟩ [0, 21, 22, 23, 32, 38] [78, 87, 98] rfl rfl (by decide) rfl rfl (fun r_11515 u_11515 Hp1 lc1 w_11515 hw1 => ?_)
  clear h
  obtain rfl : r_11515 = (-1) := w_11515
  clear w_11515
  replace hw1 : qW D _ _ [(y0, .inr (12, [.int 0, .ref (u_1.1 19), .ref (u_1.1 0), .ref (u_1.1 1), .ref (u_1.1 2), .int 0, .int 0, .int 0, .int 0, .int 0, .int 0, .int 0, .int 0, .int 0, .int (-1), .int 0, .ref (u_1.1 3), .ref (u_1.1 4), .ref (u_1.1 5), .ref (u_1.1 6), .ref (u_1.1 7), .int 0, .int 0, .ref (u_1.1 8), .ref (u_1.1 9), .ref (u_1.1 10), .int 0, .int 0, .ref (u_1.1 11), .ref (u_1.1 12), .ref (u_1.1 13), .ref (u_1.1 14), .ref (u_1.1 15), .int 0, .ref (u_1.1 16), .ref (u_1.1 17), .ref (u_1.1 18)])), ((u_1.1 8), .inl (cy 1, 1024, .inl (fun _ => 0))), ((u_1.1 19), .inl (cy 1, 3918, .inl (upd (fun _ => 0) (Int32.toNatClampNeg 1) 1)))] _ _ := hw1
  refine lv_aload_n hx hb dL_law_1057 rfl (lv_at hl 1 rfl) ?_
  refine q_callVi (rest := [.int (-1)]) (wr := []) X hK hA hw1 (fun sz => kX12_easiest_481 l D cy y0 (u_1.1 8) (u_1.1 19) (u_1.1 0) (u_1.1 1) (u_1.1 2) (u_1.1 3) (u_1.1 4) (u_1.1 5) (u_1.1 6) (u_1.1 7) (u_1.1 9) (u_1.1 10) (u_1.1 11) (u_1.1 12) (u_1.1 13) (u_1.1 14) (u_1.1 15) (u_1.1 16) (u_1.1 17) (u_1.1 18) (upd (fun _ => 0) (Int32.toNatClampNeg 1) 1) (q_un (by decide +kernel) rfl) (q_un (by decide +kernel) rfl) (q_un (by decide +kernel) rfl) sz) wm_7_215 wm_7_218 wm_1_12 hd_X12_easiest wm_7_216 wm_7_217 (ci := 12) (q0 := 0) rfl rfl ⟨Nat.le_of_ble_eq_true rfl, Nat.le_of_ble_eq_true rfl⟩ hl.1 rfl (Nat.le_of_ble_eq_true rfl) dL_law_1058 ⟨Nat.le_of_ble_eq_true rfl, Nat.le_of_ble_eq_true rfl⟩ [0, 1, 2] [] rfl rfl (by decide) rfl rfl (fun r_11579 u_11579 Hp2 lc2 w_11579 hw2 => ?_)
  clear Hp1 lc1 hw1
  obtain rfl : r_11579 = (-1) := w_11579
  clear w_11579
  replace hw2 : qW D _ _ [] _ _ := hw2
  refine lv_icmp_eq (tgt := 1461) hx hb dL_law_1061 (by decide) (fun _ => ?_) (fun c => absurd c (by decide +kernel))
  exact law_tail l X hr hlk hX hbl hw2.2.2 hl (Nat.le_of_ble_eq_true rfl) (Nat.le_of_ble_eq_true rfl)
set_option maxHeartbeats 4000000 in
set_option maxRecDepth 100000 in
theorem lc_hidden (l : Launch) {p : Program} {e : Env} {s : State} {m : MethodId} {below : List Frame} {meth : Method} {c : Code} {b : Nat} {xs : Nat → Int32} {D : va_G} {cy : Nat → ClassId} {H : Heap} {locs : List Loc} {ls : Array Slot} {x0 y0 : Nat} {u_0 u_1 : SS} (X : qX p s m #[Value.ref b] c cL_law 4 RL) (hr : meth.sig.returnType = ret) (hlk : meth.locks = false) (hX : va_X b 6 xs s s.heap) (hbl : b < s.heap.size) (hK : qK D cy s) (a1 a2 a3 a4 a5 : Int32) (e1 : xs (Int32.toNatClampNeg 1) = a1) (e2 : xs (Int32.toNatClampNeg 2) = a2) (e3 : xs (Int32.toNatClampNeg 3) = a3) (e4 : xs (Int32.toNatClampNeg 4) = a4) (e5 : xs (Int32.toNatClampNeg 5) = a5) (h : qW D (fun q => s.heap.size ≤ q) s.heap (wLaw cy x0 y0 u_0 u_1) H locs) (hl : lv_has ls 4 [(3, .int 0), (2, .ref y0), (1, .ref x0), (0, .ref b)]) : W p l e room_1 s m #[Value.ref b] below meth c H locs 99 25544 (lw_Z below #[Value.ref b] s) (F0 m 1066 ls []) := by
  obtain ⟨hx, hb, hml, hown, ht⟩ := id X
  have hA : ∀ q : Nat, s.heap.size ≤ q → (fun q : Nat => s.heap.size ≤ q) q := fun _ h => h
  have hbA : ¬ (fun q : Nat => s.heap.size ≤ q) b := Nat.not_le.mpr hbl
  refine lv_aload_n hx hb dL_law_1066 rfl (lv_at hl 2 rfl) ?_
  refine lv_aload_n hx hb dL_law_1067 rfl (lv_at hl 3 rfl) ?_
  refine lv_iload_n hx hb dL_law_1068 rfl (lv_at hl 0 rfl) ?_
  refine lv_iconst (v := 1) hx hb dL_law_1069 (by decide) ?_
  refine lv_iadd hx hb dL_law_1070 ?_
  refine q_c 1 (by decide +kernel) ?_
  refine va_sld X.1 X.2.1 hX hbl hbA h.2.2 (q_in (by decide +kernel)) dL_law_1071 ?_
  refine q_c a1 e1 ?_
  refine lv_aload_n hx hb dL_law_1072 rfl (lv_at hl 3 rfl) ?_
  refine lv_iload_n hx hb dL_law_1073 rfl (lv_at hl 0 rfl) ?_
  refine lv_iconst (v := 2) hx hb dL_law_1074 (by decide) ?_
  refine lv_iadd hx hb dL_law_1075 ?_
  refine q_c 2 (by decide +kernel) ?_
  refine va_sld X.1 X.2.1 hX hbl hbA h.2.2 (q_in (by decide +kernel)) dL_law_1076 ?_
  refine q_c a2 e2 ?_
  refine q_callVi (rest := []) (wr := [(y0, .inr (12, [.int 0, .ref (u_1.1 19), .ref (u_1.1 0), .ref (u_1.1 1), .ref (u_1.1 2), .int 0, .int 0, .int 0, .int 0, .int 0, .int 0, .int 0, .int 0, .int 0, .int (-1), .int 0, .ref (u_1.1 3), .ref (u_1.1 4), .ref (u_1.1 5), .ref (u_1.1 6), .ref (u_1.1 7), .int 0, .int 0, .ref (u_1.1 8), .ref (u_1.1 9), .ref (u_1.1 10), .int 0, .int 0, .ref (u_1.1 11), .ref (u_1.1 12), .ref (u_1.1 13), .ref (u_1.1 14), .ref (u_1.1 15), .int 0, .ref (u_1.1 16), .ref (u_1.1 17), .ref (u_1.1 18)])), ((u_1.1 19), .inl (cy 1, 3918, .inl (upd (fun _ => 0) (Int32.toNatClampNeg 1) 1)))]) X hK hA h (fun sz => kX11_hidden_483 l D cy x0 (u_0.1 31) (u_0.1 37) a1 a2 (u_0.1 0) (u_0.1 1) (u_0.1 39) (u_0.1 41) (u_0.1 43) (u_0.1 14) (u_0.1 15) (u_0.1 16) (u_0.1 17) (u_0.1 20) (u_0.1 24) (u_0.1 29) (u_0.1 32) (u_0.1 33) (u_0.1 34) (u_0.1 35) (u_0.1 36) (u_0.1 38)  sz) wm_5_67 wm_5_70 wm_1_1 hd_X11_hidden wm_5_68 wm_5_69 (ci := 11) (q0 := 0) rfl rfl ⟨Nat.le_of_ble_eq_true rfl, Nat.le_of_ble_eq_true rfl⟩ hl.1 rfl (Nat.le_of_ble_eq_true rfl) dL_law_1077 ⟨Nat.le_of_ble_eq_true rfl, Nat.le_of_ble_eq_true rfl⟩ [0, 32, 38] [78, 98] rfl rfl (by decide) rfl rfl (fun r_11633 u_11633 Hp1 lc1 w_11633 hw1 => ?_)
  clear h
  obtain rfl : r_11633 = (-2) := w_11633
  clear w_11633
  replace hw1 : qW D _ _ [(y0, .inr (12, [.int 0, .ref (u_1.1 19), .ref (u_1.1 0), .ref (u_1.1 1), .ref (u_1.1 2), .int 0, .int 0, .int 0, .int 0, .int 0, .int 0, .int 0, .int 0, .int 0, .int (-1), .int 0, .ref (u_1.1 3), .ref (u_1.1 4), .ref (u_1.1 5), .ref (u_1.1 6), .ref (u_1.1 7), .int 0, .int 0, .ref (u_1.1 8), .ref (u_1.1 9), .ref (u_1.1 10), .int 0, .int 0, .ref (u_1.1 11), .ref (u_1.1 12), .ref (u_1.1 13), .ref (u_1.1 14), .ref (u_1.1 15), .int 0, .ref (u_1.1 16), .ref (u_1.1 17), .ref (u_1.1 18)])), ((u_1.1 19), .inl (cy 1, 3918, .inl (upd (fun _ => 0) (Int32.toNatClampNeg 1) 1)))] _ _ := hw1
  refine lv_aload_n hx hb dL_law_1080 rfl (lv_at hl 1 rfl) ?_
  refine lv_aload_n hx hb dL_law_1081 rfl (lv_at hl 3 rfl) ?_
  refine lv_iload_n hx hb dL_law_1082 rfl (lv_at hl 0 rfl) ?_
  refine lv_iconst (v := 1) hx hb dL_law_1083 (by decide) ?_
  refine lv_iadd hx hb dL_law_1084 ?_
  refine q_c 1 (by decide +kernel) ?_
  refine va_sld X.1 X.2.1 hX hbl hbA hw1.2.2 (q_in (by decide +kernel)) dL_law_1085 ?_
  refine q_c a1 e1 ?_
  refine lv_aload_n hx hb dL_law_1086 rfl (lv_at hl 3 rfl) ?_
  refine lv_iload_n hx hb dL_law_1087 rfl (lv_at hl 0 rfl) ?_
  refine lv_iconst (v := 2) hx hb dL_law_1088 (by decide) ?_
  refine lv_iadd hx hb dL_law_1089 ?_
  refine q_c 2 (by decide +kernel) ?_
  refine va_sld X.1 X.2.1 hX hbl hbA hw1.2.2 (q_in (by decide +kernel)) dL_law_1090 ?_
  refine q_c a2 e2 ?_
  refine q_callVi (rest := [.int (-2)]) (wr := []) X hK hA hw1 (fun sz => kX12_hidden_486 l D cy y0 (u_1.1 19) a1 a2 (u_1.1 0) (u_1.1 1) (u_1.1 2) (u_1.1 3) (u_1.1 4) (u_1.1 5) (u_1.1 6) (u_1.1 7) (u_1.1 8) (u_1.1 9) (u_1.1 10) (u_1.1 11) (u_1.1 12) (u_1.1 13) (u_1.1 14) (u_1.1 15) (u_1.1 16) (u_1.1 17) (u_1.1 18) (upd (fun _ => 0) (Int32.toNatClampNeg 1) 1) (q_un (by decide +kernel) rfl) sz) wm_7_219 wm_7_222 wm_1_12 hd_X12_hidden wm_7_220 wm_7_221 (ci := 12) (q0 := 0) rfl rfl ⟨Nat.le_of_ble_eq_true rfl, Nat.le_of_ble_eq_true rfl⟩ hl.1 rfl (Nat.le_of_ble_eq_true rfl) dL_law_1091 ⟨Nat.le_of_ble_eq_true rfl, Nat.le_of_ble_eq_true rfl⟩ [0, 1] [] rfl rfl (by decide) rfl rfl (fun r_11639 u_11639 Hp2 lc2 w_11639 hw2 => ?_)
  clear Hp1 lc1 hw1
  obtain rfl : r_11639 = (-2) := w_11639
  clear w_11639
  replace hw2 : qW D _ _ [] _ _ := hw2
  refine lv_icmp_eq (tgt := 1461) hx hb dL_law_1094 (by decide) (fun _ => ?_) (fun c => absurd c (by decide +kernel))
  exact law_tail l X hr hlk hX hbl hw2.2.2 hl (Nat.le_of_ble_eq_true rfl) (Nat.le_of_ble_eq_true rfl)
set_option maxHeartbeats 4000000 in
set_option maxRecDepth 100000 in
theorem lc_hiddenAt (l : Launch) {p : Program} {e : Env} {s : State} {m : MethodId} {below : List Frame} {meth : Method} {c : Code} {b : Nat} {xs : Nat → Int32} {D : va_G} {cy : Nat → ClassId} {H : Heap} {locs : List Loc} {ls : Array Slot} {x0 y0 : Nat} {u_0 u_1 : SS} (X : qX p s m #[Value.ref b] c cL_law 4 RL) (hr : meth.sig.returnType = ret) (hlk : meth.locks = false) (hX : va_X b 6 xs s s.heap) (hbl : b < s.heap.size) (hK : qK D cy s) (a1 a2 a3 a4 a5 : Int32) (e1 : xs (Int32.toNatClampNeg 1) = a1) (e2 : xs (Int32.toNatClampNeg 2) = a2) (e3 : xs (Int32.toNatClampNeg 3) = a3) (e4 : xs (Int32.toNatClampNeg 4) = a4) (e5 : xs (Int32.toNatClampNeg 5) = a5) (h : qW D (fun q => s.heap.size ≤ q) s.heap (wLaw cy x0 y0 u_0 u_1) H locs) (hl : lv_has ls 4 [(3, .int 0), (2, .ref y0), (1, .ref x0), (0, .ref b)]) : W p l e room_1 s m #[Value.ref b] below meth c H locs 99 25544 (lw_Z below #[Value.ref b] s) (F0 m 1099 ls []) := by
  obtain ⟨hx, hb, hml, hown, ht⟩ := id X
  have hA : ∀ q : Nat, s.heap.size ≤ q → (fun q : Nat => s.heap.size ≤ q) q := fun _ h => h
  have hbA : ¬ (fun q : Nat => s.heap.size ≤ q) b := Nat.not_le.mpr hbl
  refine lv_aload_n hx hb dL_law_1099 rfl (lv_at hl 2 rfl) ?_
  refine lv_aload_n hx hb dL_law_1100 rfl (lv_at hl 3 rfl) ?_
  refine lv_iload_n hx hb dL_law_1101 rfl (lv_at hl 0 rfl) ?_
  refine lv_iconst (v := 1) hx hb dL_law_1102 (by decide) ?_
  refine lv_iadd hx hb dL_law_1103 ?_
  refine q_c 1 (by decide +kernel) ?_
  refine va_sld X.1 X.2.1 hX hbl hbA h.2.2 (q_in (by decide +kernel)) dL_law_1104 ?_
  refine q_c a1 e1 ?_
  refine lv_aload_n hx hb dL_law_1105 rfl (lv_at hl 3 rfl) ?_
  refine lv_iload_n hx hb dL_law_1106 rfl (lv_at hl 0 rfl) ?_
  refine lv_iconst (v := 2) hx hb dL_law_1107 (by decide) ?_
  refine lv_iadd hx hb dL_law_1108 ?_
  refine q_c 2 (by decide +kernel) ?_
  refine va_sld X.1 X.2.1 hX hbl hbA h.2.2 (q_in (by decide +kernel)) dL_law_1109 ?_
  refine q_c a2 e2 ?_
  refine lv_aload_n hx hb dL_law_1110 rfl (lv_at hl 3 rfl) ?_
  refine lv_iload_n hx hb dL_law_1111 rfl (lv_at hl 0 rfl) ?_
  refine lv_iconst (v := 3) hx hb dL_law_1112 (by decide) ?_
  refine lv_iadd hx hb dL_law_1113 ?_
  refine q_c 3 (by decide +kernel) ?_
  refine va_sld X.1 X.2.1 hX hbl hbA h.2.2 (q_in (by decide +kernel)) dL_law_1114 ?_
  refine q_c a3 e3 ?_
  refine q_callVi (rest := []) (wr := [(y0, .inr (12, [.int 0, .ref (u_1.1 19), .ref (u_1.1 0), .ref (u_1.1 1), .ref (u_1.1 2), .int 0, .int 0, .int 0, .int 0, .int 0, .int 0, .int 0, .int 0, .int 0, .int (-1), .int 0, .ref (u_1.1 3), .ref (u_1.1 4), .ref (u_1.1 5), .ref (u_1.1 6), .ref (u_1.1 7), .int 0, .int 0, .ref (u_1.1 8), .ref (u_1.1 9), .ref (u_1.1 10), .int 0, .int 0, .ref (u_1.1 11), .ref (u_1.1 12), .ref (u_1.1 13), .ref (u_1.1 14), .ref (u_1.1 15), .int 0, .ref (u_1.1 16), .ref (u_1.1 17), .ref (u_1.1 18)])), ((u_1.1 19), .inl (cy 1, 3918, .inl (upd (fun _ => 0) (Int32.toNatClampNeg 1) 1)))]) X hK hA h (fun sz => kX11_hiddenAt_487 l D cy x0 (u_0.1 31) (u_0.1 37) a1 a2 a3 (u_0.1 0) (u_0.1 1) (u_0.1 39) (u_0.1 41) (u_0.1 43) (u_0.1 14) (u_0.1 15) (u_0.1 16) (u_0.1 17) (u_0.1 20) (u_0.1 24) (u_0.1 29) (u_0.1 32) (u_0.1 33) (u_0.1 34) (u_0.1 35) (u_0.1 36) (u_0.1 38)  sz) wm_5_85 wm_5_88 wm_1_1 hd_X11_hiddenAt wm_5_86 wm_5_87 (ci := 11) (q0 := 0) rfl rfl ⟨Nat.le_of_ble_eq_true rfl, Nat.le_of_ble_eq_true rfl⟩ hl.1 rfl (Nat.le_of_ble_eq_true rfl) dL_law_1115 ⟨Nat.le_of_ble_eq_true rfl, Nat.le_of_ble_eq_true rfl⟩ [0, 32, 38] [78, 98] rfl rfl (by decide) rfl rfl (fun r_11671 u_11671 Hp1 lc1 w_11671 hw1 => ?_)
  clear h
  obtain rfl : r_11671 = (-2) := w_11671
  clear w_11671
  replace hw1 : qW D _ _ [(y0, .inr (12, [.int 0, .ref (u_1.1 19), .ref (u_1.1 0), .ref (u_1.1 1), .ref (u_1.1 2), .int 0, .int 0, .int 0, .int 0, .int 0, .int 0, .int 0, .int 0, .int 0, .int (-1), .int 0, .ref (u_1.1 3), .ref (u_1.1 4), .ref (u_1.1 5), .ref (u_1.1 6), .ref (u_1.1 7), .int 0, .int 0, .ref (u_1.1 8), .ref (u_1.1 9), .ref (u_1.1 10), .int 0, .int 0, .ref (u_1.1 11), .ref (u_1.1 12), .ref (u_1.1 13), .ref (u_1.1 14), .ref (u_1.1 15), .int 0, .ref (u_1.1 16), .ref (u_1.1 17), .ref (u_1.1 18)])), ((u_1.1 19), .inl (cy 1, 3918, .inl (upd (fun _ => 0) (Int32.toNatClampNeg 1) 1)))] _ _ := hw1
  refine lv_aload_n hx hb dL_law_1118 rfl (lv_at hl 1 rfl) ?_
  refine lv_aload_n hx hb dL_law_1119 rfl (lv_at hl 3 rfl) ?_
  refine lv_iload_n hx hb dL_law_1120 rfl (lv_at hl 0 rfl) ?_
  refine lv_iconst (v := 1) hx hb dL_law_1121 (by decide) ?_
  refine lv_iadd hx hb dL_law_1122 ?_
  refine q_c 1 (by decide +kernel) ?_
  refine va_sld X.1 X.2.1 hX hbl hbA hw1.2.2 (q_in (by decide +kernel)) dL_law_1123 ?_
  refine q_c a1 e1 ?_
  refine lv_aload_n hx hb dL_law_1124 rfl (lv_at hl 3 rfl) ?_
  refine lv_iload_n hx hb dL_law_1125 rfl (lv_at hl 0 rfl) ?_
  refine lv_iconst (v := 2) hx hb dL_law_1126 (by decide) ?_
  refine lv_iadd hx hb dL_law_1127 ?_
  refine q_c 2 (by decide +kernel) ?_
  refine va_sld X.1 X.2.1 hX hbl hbA hw1.2.2 (q_in (by decide +kernel)) dL_law_1128 ?_
  refine q_c a2 e2 ?_
  refine lv_aload_n hx hb dL_law_1129 rfl (lv_at hl 3 rfl) ?_
  refine lv_iload_n hx hb dL_law_1130 rfl (lv_at hl 0 rfl) ?_
  refine lv_iconst (v := 3) hx hb dL_law_1131 (by decide) ?_
  refine lv_iadd hx hb dL_law_1132 ?_
  refine q_c 3 (by decide +kernel) ?_
  refine va_sld X.1 X.2.1 hX hbl hbA hw1.2.2 (q_in (by decide +kernel)) dL_law_1133 ?_
  refine q_c a3 e3 ?_
  refine q_callVi (rest := [.int (-2)]) (wr := []) X hK hA hw1 (fun sz => kX12_hiddenAt_488 l D cy y0 (u_1.1 19) a1 a2 a3 (u_1.1 0) (u_1.1 1) (u_1.1 2) (u_1.1 3) (u_1.1 4) (u_1.1 5) (u_1.1 6) (u_1.1 7) (u_1.1 8) (u_1.1 9) (u_1.1 10) (u_1.1 11) (u_1.1 12) (u_1.1 13) (u_1.1 14) (u_1.1 15) (u_1.1 16) (u_1.1 17) (u_1.1 18) (upd (fun _ => 0) (Int32.toNatClampNeg 1) 1) (q_un (by decide +kernel) rfl) sz) wm_7_239 wm_8_2 wm_1_12 hd_X12_hiddenAt wm_8_0 wm_8_1 (ci := 12) (q0 := 0) rfl rfl ⟨Nat.le_of_ble_eq_true rfl, Nat.le_of_ble_eq_true rfl⟩ hl.1 rfl (Nat.le_of_ble_eq_true rfl) dL_law_1134 ⟨Nat.le_of_ble_eq_true rfl, Nat.le_of_ble_eq_true rfl⟩ [0, 1] [] rfl rfl (by decide) rfl rfl (fun r_11677 u_11677 Hp2 lc2 w_11677 hw2 => ?_)
  clear Hp1 lc1 hw1
  obtain rfl : r_11677 = (-2) := w_11677
  clear w_11677
  replace hw2 : qW D _ _ [] _ _ := hw2
  refine lv_icmp_eq (tgt := 1461) hx hb dL_law_1137 (by decide) (fun _ => ?_) (fun c => absurd c (by decide +kernel))
  exact law_tail l X hr hlk hX hbl hw2.2.2 hl (Nat.le_of_ble_eq_true rfl) (Nat.le_of_ble_eq_true rfl)
set_option maxHeartbeats 4000000 in
set_option maxRecDepth 100000 in
theorem lc_probe (l : Launch) {p : Program} {e : Env} {s : State} {m : MethodId} {below : List Frame} {meth : Method} {c : Code} {b : Nat} {xs : Nat → Int32} {D : va_G} {cy : Nat → ClassId} {H : Heap} {locs : List Loc} {ls : Array Slot} {x0 y0 : Nat} {u_0 u_1 : SS} (X : qX p s m #[Value.ref b] c cL_law 4 RL) (hr : meth.sig.returnType = ret) (hlk : meth.locks = false) (hX : va_X b 6 xs s s.heap) (hbl : b < s.heap.size) (hK : qK D cy s) (a1 a2 a3 a4 a5 : Int32) (e1 : xs (Int32.toNatClampNeg 1) = a1) (e2 : xs (Int32.toNatClampNeg 2) = a2) (e3 : xs (Int32.toNatClampNeg 3) = a3) (e4 : xs (Int32.toNatClampNeg 4) = a4) (e5 : xs (Int32.toNatClampNeg 5) = a5) (h : qW D (fun q => s.heap.size ≤ q) s.heap (wLaw cy x0 y0 u_0 u_1) H locs) (hl : lv_has ls 4 [(3, .int 0), (2, .ref y0), (1, .ref x0), (0, .ref b)]) : W p l e room_1 s m #[Value.ref b] below meth c H locs 99 25544 (lw_Z below #[Value.ref b] s) (F0 m 1142 ls []) := by
  obtain ⟨hx, hb, hml, hown, ht⟩ := id X
  have hA : ∀ q : Nat, s.heap.size ≤ q → (fun q : Nat => s.heap.size ≤ q) q := fun _ h => h
  have hbA : ¬ (fun q : Nat => s.heap.size ≤ q) b := Nat.not_le.mpr hbl
  refine lv_aload_n hx hb dL_law_1142 rfl (lv_at hl 2 rfl) ?_
  refine lv_aload_n hx hb dL_law_1143 rfl (lv_at hl 3 rfl) ?_
  refine lv_iload_n hx hb dL_law_1144 rfl (lv_at hl 0 rfl) ?_
  refine lv_iconst (v := 1) hx hb dL_law_1145 (by decide) ?_
  refine lv_iadd hx hb dL_law_1146 ?_
  refine q_c 1 (by decide +kernel) ?_
  refine va_sld X.1 X.2.1 hX hbl hbA h.2.2 (q_in (by decide +kernel)) dL_law_1147 ?_
  refine q_c a1 e1 ?_
  refine lv_aload_n hx hb dL_law_1148 rfl (lv_at hl 3 rfl) ?_
  refine lv_iload_n hx hb dL_law_1149 rfl (lv_at hl 0 rfl) ?_
  refine lv_iconst (v := 2) hx hb dL_law_1150 (by decide) ?_
  refine lv_iadd hx hb dL_law_1151 ?_
  refine q_c 2 (by decide +kernel) ?_
  refine va_sld X.1 X.2.1 hX hbl hbA h.2.2 (q_in (by decide +kernel)) dL_law_1152 ?_
  refine q_c a2 e2 ?_
  refine q_callVi (rest := []) (wr := [(y0, .inr (12, [.int 0, .ref (u_1.1 19), .ref (u_1.1 0), .ref (u_1.1 1), .ref (u_1.1 2), .int 0, .int 0, .int 0, .int 0, .int 0, .int 0, .int 0, .int 0, .int 0, .int (-1), .int 0, .ref (u_1.1 3), .ref (u_1.1 4), .ref (u_1.1 5), .ref (u_1.1 6), .ref (u_1.1 7), .int 0, .int 0, .ref (u_1.1 8), .ref (u_1.1 9), .ref (u_1.1 10), .int 0, .int 0, .ref (u_1.1 11), .ref (u_1.1 12), .ref (u_1.1 13), .ref (u_1.1 14), .ref (u_1.1 15), .int 0, .ref (u_1.1 16), .ref (u_1.1 17), .ref (u_1.1 18)])), ((u_1.1 19), .inl (cy 1, 3918, .inl (upd (fun _ => 0) (Int32.toNatClampNeg 1) 1)))]) X hK hA h (fun sz => kX11_probe_489 l D cy x0 (u_0.1 31) (u_0.1 37) a1 a2 (u_0.1 0) (u_0.1 1) (u_0.1 39) (u_0.1 41) (u_0.1 43) (u_0.1 14) (u_0.1 15) (u_0.1 16) (u_0.1 17) (u_0.1 20) (u_0.1 24) (u_0.1 29) (u_0.1 32) (u_0.1 33) (u_0.1 34) (u_0.1 35) (u_0.1 36) (u_0.1 38)  sz) wm_5_89 wm_5_92 wm_1_1 hd_X11_probe wm_5_90 wm_5_91 (ci := 11) (q0 := 0) rfl rfl ⟨Nat.le_of_ble_eq_true rfl, Nat.le_of_ble_eq_true rfl⟩ hl.1 rfl (Nat.le_of_ble_eq_true rfl) dL_law_1153 ⟨Nat.le_of_ble_eq_true rfl, Nat.le_of_ble_eq_true rfl⟩ [0, 32, 38] [78, 98] rfl rfl (by decide) rfl rfl (fun r_11709 u_11709 Hp1 lc1 w_11709 hw1 => ?_)
  clear h
  obtain rfl : r_11709 = (-2) := w_11709
  clear w_11709
  replace hw1 : qW D _ _ [(y0, .inr (12, [.int 0, .ref (u_1.1 19), .ref (u_1.1 0), .ref (u_1.1 1), .ref (u_1.1 2), .int 0, .int 0, .int 0, .int 0, .int 0, .int 0, .int 0, .int 0, .int 0, .int (-1), .int 0, .ref (u_1.1 3), .ref (u_1.1 4), .ref (u_1.1 5), .ref (u_1.1 6), .ref (u_1.1 7), .int 0, .int 0, .ref (u_1.1 8), .ref (u_1.1 9), .ref (u_1.1 10), .int 0, .int 0, .ref (u_1.1 11), .ref (u_1.1 12), .ref (u_1.1 13), .ref (u_1.1 14), .ref (u_1.1 15), .int 0, .ref (u_1.1 16), .ref (u_1.1 17), .ref (u_1.1 18)])), ((u_1.1 19), .inl (cy 1, 3918, .inl (upd (fun _ => 0) (Int32.toNatClampNeg 1) 1)))] _ _ := hw1
  refine lv_aload_n hx hb dL_law_1156 rfl (lv_at hl 1 rfl) ?_
  refine lv_aload_n hx hb dL_law_1157 rfl (lv_at hl 3 rfl) ?_
  refine lv_iload_n hx hb dL_law_1158 rfl (lv_at hl 0 rfl) ?_
  refine lv_iconst (v := 1) hx hb dL_law_1159 (by decide) ?_
  refine lv_iadd hx hb dL_law_1160 ?_
  refine q_c 1 (by decide +kernel) ?_
  refine va_sld X.1 X.2.1 hX hbl hbA hw1.2.2 (q_in (by decide +kernel)) dL_law_1161 ?_
  refine q_c a1 e1 ?_
  refine lv_aload_n hx hb dL_law_1162 rfl (lv_at hl 3 rfl) ?_
  refine lv_iload_n hx hb dL_law_1163 rfl (lv_at hl 0 rfl) ?_
  refine lv_iconst (v := 2) hx hb dL_law_1164 (by decide) ?_
  refine lv_iadd hx hb dL_law_1165 ?_
  refine q_c 2 (by decide +kernel) ?_
  refine va_sld X.1 X.2.1 hX hbl hbA hw1.2.2 (q_in (by decide +kernel)) dL_law_1166 ?_
  refine q_c a2 e2 ?_
  refine q_callVi (rest := [.int (-2)]) (wr := []) X hK hA hw1 (fun sz => kX12_probe_490 l D cy y0 (u_1.1 19) a1 a2 (u_1.1 0) (u_1.1 1) (u_1.1 2) (u_1.1 3) (u_1.1 4) (u_1.1 5) (u_1.1 6) (u_1.1 7) (u_1.1 8) (u_1.1 9) (u_1.1 10) (u_1.1 11) (u_1.1 12) (u_1.1 13) (u_1.1 14) (u_1.1 15) (u_1.1 16) (u_1.1 17) (u_1.1 18) (upd (fun _ => 0) (Int32.toNatClampNeg 1) 1) (q_un (by decide +kernel) rfl) sz) wm_8_3 wm_8_6 wm_1_12 hd_X12_probe wm_8_4 wm_8_5 (ci := 12) (q0 := 0) rfl rfl ⟨Nat.le_of_ble_eq_true rfl, Nat.le_of_ble_eq_true rfl⟩ hl.1 rfl (Nat.le_of_ble_eq_true rfl) dL_law_1167 ⟨Nat.le_of_ble_eq_true rfl, Nat.le_of_ble_eq_true rfl⟩ [0, 1] [] rfl rfl (by decide) rfl rfl (fun r_11715 u_11715 Hp2 lc2 w_11715 hw2 => ?_)
  clear Hp1 lc1 hw1
  obtain rfl : r_11715 = (-2) := w_11715
  clear w_11715
  replace hw2 : qW D _ _ [] _ _ := hw2
  refine lv_icmp_eq (tgt := 1461) hx hb dL_law_1170 (by decide) (fun _ => ?_) (fun c => absurd c (by decide +kernel))
  exact law_tail l X hr hlk hX hbl hw2.2.2 hl (Nat.le_of_ble_eq_true rfl) (Nat.le_of_ble_eq_true rfl)
set_option maxHeartbeats 4000000 in
set_option maxRecDepth 100000 in
theorem lc_chance (l : Launch) {p : Program} {e : Env} {s : State} {m : MethodId} {below : List Frame} {meth : Method} {c : Code} {b : Nat} {xs : Nat → Int32} {D : va_G} {cy : Nat → ClassId} {H : Heap} {locs : List Loc} {ls : Array Slot} {x0 y0 : Nat} {u_0 u_1 : SS} (X : qX p s m #[Value.ref b] c cL_law 4 RL) (hr : meth.sig.returnType = ret) (hlk : meth.locks = false) (hX : va_X b 6 xs s s.heap) (hbl : b < s.heap.size) (hK : qK D cy s) (a1 a2 a3 a4 a5 : Int32) (e1 : xs (Int32.toNatClampNeg 1) = a1) (e2 : xs (Int32.toNatClampNeg 2) = a2) (e3 : xs (Int32.toNatClampNeg 3) = a3) (e4 : xs (Int32.toNatClampNeg 4) = a4) (e5 : xs (Int32.toNatClampNeg 5) = a5) (h : qW D (fun q => s.heap.size ≤ q) s.heap (wLaw cy x0 y0 u_0 u_1) H locs) (hl : lv_has ls 4 [(3, .int 0), (2, .ref y0), (1, .ref x0), (0, .ref b)]) : W p l e room_1 s m #[Value.ref b] below meth c H locs 99 25544 (lw_Z below #[Value.ref b] s) (F0 m 1175 ls []) := by
  obtain ⟨hx, hb, hml, hown, ht⟩ := id X
  have hA : ∀ q : Nat, s.heap.size ≤ q → (fun q : Nat => s.heap.size ≤ q) q := fun _ h => h
  have hbA : ¬ (fun q : Nat => s.heap.size ≤ q) b := Nat.not_le.mpr hbl
  by_cases c_11721 : a2 ≤ (-1)
  · skip
    refine lv_aload_n hx hb dL_law_1175 rfl (lv_at hl 2 rfl) ?_
    refine lv_aload_n hx hb dL_law_1176 rfl (lv_at hl 3 rfl) ?_
    refine lv_iload_n hx hb dL_law_1177 rfl (lv_at hl 0 rfl) ?_
    refine lv_iconst (v := 1) hx hb dL_law_1178 (by decide) ?_
    refine lv_iadd hx hb dL_law_1179 ?_
    refine q_c 1 (by decide +kernel) ?_
    refine va_sld X.1 X.2.1 hX hbl hbA h.2.2 (q_in (by decide +kernel)) dL_law_1180 ?_
    refine q_c a1 e1 ?_
    refine lv_aload_n hx hb dL_law_1181 rfl (lv_at hl 3 rfl) ?_
    refine lv_iload_n hx hb dL_law_1182 rfl (lv_at hl 0 rfl) ?_
    refine lv_iconst (v := 2) hx hb dL_law_1183 (by decide) ?_
    refine lv_iadd hx hb dL_law_1184 ?_
    refine q_c 2 (by decide +kernel) ?_
    refine va_sld X.1 X.2.1 hX hbl hbA h.2.2 (q_in (by decide +kernel)) dL_law_1185 ?_
    refine q_c a2 e2 ?_
    have g_11739 : a2 ≤ ((-1) : Int32) := by
      simp only [Int32.lt_iff_toInt_lt, Int32.le_iff_toInt_le, ← Int32.toInt_inj] at c_11721 ⊢
      have k_0 : ((-1) : Int32).toInt = -1 := by decide
      omega
    refine q_callVl (rest := []) (wr := [(y0, .inr (12, [.int 0, .ref (u_1.1 19), .ref (u_1.1 0), .ref (u_1.1 1), .ref (u_1.1 2), .int 0, .int 0, .int 0, .int 0, .int 0, .int 0, .int 0, .int 0, .int 0, .int (-1), .int 0, .ref (u_1.1 3), .ref (u_1.1 4), .ref (u_1.1 5), .ref (u_1.1 6), .ref (u_1.1 7), .int 0, .int 0, .ref (u_1.1 8), .ref (u_1.1 9), .ref (u_1.1 10), .int 0, .int 0, .ref (u_1.1 11), .ref (u_1.1 12), .ref (u_1.1 13), .ref (u_1.1 14), .ref (u_1.1 15), .int 0, .ref (u_1.1 16), .ref (u_1.1 17), .ref (u_1.1 18)]))]) X hK hA h (fun sz => kX11_chance_491 l D cy x0 a1 a2 (u_0.1 0) (u_0.1 1) (u_0.1 37) (u_0.1 39) (u_0.1 41) (u_0.1 43) (u_0.1 14) (u_0.1 15) (u_0.1 16) (u_0.1 17) (u_0.1 20) (u_0.1 24) (u_0.1 29) g_11739 sz) wm_5_102 wm_5_105 wm_1_1 hd_X11_chance wm_5_103 wm_5_104 (ci := 11) (q0 := 0) rfl rfl ⟨Nat.le_of_ble_eq_true rfl, Nat.le_of_ble_eq_true rfl⟩ hl.1 rfl (Nat.le_of_ble_eq_true rfl) dL_law_1186 ⟨Nat.le_of_ble_eq_true rfl, Nat.le_of_ble_eq_true rfl⟩ [0] [78] rfl rfl (by decide) rfl rfl (fun r_11740 u_11740 Hp1 lc1 w_11740 hw1 => ?_)
    clear h
    obtain rfl : r_11740 = (-2) := w_11740
    clear w_11740
    replace hw1 : qW D _ _ [(y0, .inr (12, [.int 0, .ref (u_1.1 19), .ref (u_1.1 0), .ref (u_1.1 1), .ref (u_1.1 2), .int 0, .int 0, .int 0, .int 0, .int 0, .int 0, .int 0, .int 0, .int 0, .int (-1), .int 0, .ref (u_1.1 3), .ref (u_1.1 4), .ref (u_1.1 5), .ref (u_1.1 6), .ref (u_1.1 7), .int 0, .int 0, .ref (u_1.1 8), .ref (u_1.1 9), .ref (u_1.1 10), .int 0, .int 0, .ref (u_1.1 11), .ref (u_1.1 12), .ref (u_1.1 13), .ref (u_1.1 14), .ref (u_1.1 15), .int 0, .ref (u_1.1 16), .ref (u_1.1 17), .ref (u_1.1 18)]))] _ _ := hw1
    refine lv_aload_n hx hb dL_law_1189 rfl (lv_at hl 1 rfl) ?_
    refine lv_aload_n hx hb dL_law_1190 rfl (lv_at hl 3 rfl) ?_
    refine lv_iload_n hx hb dL_law_1191 rfl (lv_at hl 0 rfl) ?_
    refine lv_iconst (v := 1) hx hb dL_law_1192 (by decide) ?_
    refine lv_iadd hx hb dL_law_1193 ?_
    refine q_c 1 (by decide +kernel) ?_
    refine va_sld X.1 X.2.1 hX hbl hbA hw1.2.2 (q_in (by decide +kernel)) dL_law_1194 ?_
    refine q_c a1 e1 ?_
    refine lv_aload_n hx hb dL_law_1195 rfl (lv_at hl 3 rfl) ?_
    refine lv_iload_n hx hb dL_law_1196 rfl (lv_at hl 0 rfl) ?_
    refine lv_iconst (v := 2) hx hb dL_law_1197 (by decide) ?_
    refine lv_iadd hx hb dL_law_1198 ?_
    refine q_c 2 (by decide +kernel) ?_
    refine va_sld X.1 X.2.1 hX hbl hbA hw1.2.2 (q_in (by decide +kernel)) dL_law_1199 ?_
    refine q_c a2 e2 ?_
    have g_11744 : a2 ≤ ((-1) : Int32) := by
      simp only [Int32.lt_iff_toInt_lt, Int32.le_iff_toInt_le, ← Int32.toInt_inj] at c_11721 ⊢
      have k_0 : ((-1) : Int32).toInt = -1 := by decide
      omega
    refine q_callVl (rest := [.long (-2)]) (wr := []) X hK hA hw1 (fun sz => kX12_chance_492 l D cy y0 a1 a2 (u_1.1 19) (u_1.1 0) (u_1.1 1) (u_1.1 2) (u_1.1 3) (u_1.1 4) (u_1.1 5) (u_1.1 6) (u_1.1 7) (u_1.1 8) (u_1.1 9) (u_1.1 10) (u_1.1 11) (u_1.1 12) (u_1.1 13) (u_1.1 14) (u_1.1 15) (u_1.1 16) (u_1.1 17) (u_1.1 18) g_11744 sz) wm_8_7 wm_8_10 wm_1_12 hd_X12_chance wm_8_8 wm_8_9 (ci := 12) (q0 := 0) rfl rfl ⟨Nat.le_of_ble_eq_true rfl, Nat.le_of_ble_eq_true rfl⟩ hl.1 rfl (Nat.le_of_ble_eq_true rfl) dL_law_1200 ⟨Nat.le_of_ble_eq_true rfl, Nat.le_of_ble_eq_true rfl⟩ [0] [] rfl rfl (by decide) rfl rfl (fun r_11745 u_11745 Hp2 lc2 w_11745 hw2 => ?_)
    clear Hp1 lc1 hw1
    obtain rfl : r_11745 = (-2) := w_11745
    clear w_11745
    replace hw2 : qW D _ _ [] _ _ := hw2
    refine W.lcmp hx hb dL_law_1203 ?_
    refine q_c 0 (by decide +kernel) ?_
    refine lv_if_eq (tgt := 1461) hx hb dL_law_1204 (by decide) (fun _ => ?_) (fun c => absurd c (by decide +kernel))
    exact law_tail l X hr hlk hX hbl hw2.2.2 hl (Nat.le_of_ble_eq_true rfl) (Nat.le_of_ble_eq_true rfl)
  by_cases c_11746 : a2 = 0
  · subst c_11746
    by_cases c_11751 : a1 = 0
    · subst c_11751
      refine lv_aload_n hx hb dL_law_1175 rfl (lv_at hl 2 rfl) ?_
      refine lv_aload_n hx hb dL_law_1176 rfl (lv_at hl 3 rfl) ?_
      refine lv_iload_n hx hb dL_law_1177 rfl (lv_at hl 0 rfl) ?_
      refine lv_iconst (v := 1) hx hb dL_law_1178 (by decide) ?_
      refine lv_iadd hx hb dL_law_1179 ?_
      refine q_c 1 (by decide +kernel) ?_
      refine va_sld X.1 X.2.1 hX hbl hbA hw2.2.2 (q_in (by decide +kernel)) dL_law_1180 ?_
      refine q_c 0 e1 ?_
      refine lv_aload_n hx hb dL_law_1181 rfl (lv_at hl 3 rfl) ?_
      refine lv_iload_n hx hb dL_law_1182 rfl (lv_at hl 0 rfl) ?_
      refine lv_iconst (v := 2) hx hb dL_law_1183 (by decide) ?_
      refine lv_iadd hx hb dL_law_1184 ?_
      refine q_c 2 (by decide +kernel) ?_
      refine va_sld X.1 X.2.1 hX hbl hbA hw2.2.2 (q_in (by decide +kernel)) dL_law_1185 ?_
      refine q_c 0 e2 ?_
      refine q_callVl (rest := []) (wr := [(y0, .inr (12, [.int 0, .ref (u_1.1 19), .ref (u_1.1 0), .ref (u_1.1 1), .ref (u_1.1 2), .int 0, .int 0, .int 0, .int 0, .int 0, .int 0, .int 0, .int 0, .int 0, .int (-1), .int 0, .ref (u_1.1 3), .ref (u_1.1 4), .ref (u_1.1 5), .ref (u_1.1 6), .ref (u_1.1 7), .int 0, .int 0, .ref (u_1.1 8), .ref (u_1.1 9), .ref (u_1.1 10), .int 0, .int 0, .ref (u_1.1 11), .ref (u_1.1 12), .ref (u_1.1 13), .ref (u_1.1 14), .ref (u_1.1 15), .int 0, .ref (u_1.1 16), .ref (u_1.1 17), .ref (u_1.1 18)])), ((u_1.1 8), .inl (cy 1, 1024, .inl (fun _ => 0))), ((u_1.1 19), .inl (cy 1, 3918, .inl (upd (fun _ => 0) (Int32.toNatClampNeg 1) 1)))]) X hK hA hw2 (fun sz => kX11_chance_495 l D cy x0 (u_0.1 20) (u_0.1 21) (u_0.1 22) (u_0.1 31) (u_0.1 37) (u_0.1 0) (u_0.1 1) (u_0.1 39) (u_0.1 41) (u_0.1 43) (u_0.1 14) (u_0.1 15) (u_0.1 16) (u_0.1 17) (u_0.1 24) (u_0.1 29) (u_0.1 23) (u_0.1 32) (u_0.1 33) (u_0.1 34) (u_0.1 35) (u_0.1 36) (u_0.1 38)  sz) wm_5_102 wm_5_105 wm_1_1 hd_X11_chance wm_5_103 wm_5_104 (ci := 11) (q0 := 0) rfl rfl ⟨Nat.le_of_ble_eq_true rfl, Nat.le_of_ble_eq_true rfl⟩ hl.1 rfl (Nat.le_of_ble_eq_true rfl) dL_law_1186 ⟨Nat.le_of_ble_eq_true rfl, Nat.le_of_ble_eq_true rfl⟩ [0, 21, 22, 23, 32, 38] [78, 87, 98] rfl rfl (by decide) rfl rfl (fun r_11823 u_11823 Hp3 lc3 w_11823 hw3 => ?_)
      clear Hp2 lc2 hw2
      obtain rfl : r_11823 = 1 := w_11823
      clear w_11823
      replace hw3 : qW D _ _ [(y0, .inr (12, [.int 0, .ref (u_1.1 19), .ref (u_1.1 0), .ref (u_1.1 1), .ref (u_1.1 2), .int 0, .int 0, .int 0, .int 0, .int 0, .int 0, .int 0, .int 0, .int 0, .int (-1), .int 0, .ref (u_1.1 3), .ref (u_1.1 4), .ref (u_1.1 5), .ref (u_1.1 6), .ref (u_1.1 7), .int 0, .int 0, .ref (u_1.1 8), .ref (u_1.1 9), .ref (u_1.1 10), .int 0, .int 0, .ref (u_1.1 11), .ref (u_1.1 12), .ref (u_1.1 13), .ref (u_1.1 14), .ref (u_1.1 15), .int 0, .ref (u_1.1 16), .ref (u_1.1 17), .ref (u_1.1 18)])), ((u_1.1 8), .inl (cy 1, 1024, .inl (fun _ => 0))), ((u_1.1 19), .inl (cy 1, 3918, .inl (upd (fun _ => 0) (Int32.toNatClampNeg 1) 1)))] _ _ := hw3
      refine lv_aload_n hx hb dL_law_1189 rfl (lv_at hl 1 rfl) ?_
      refine lv_aload_n hx hb dL_law_1190 rfl (lv_at hl 3 rfl) ?_
      refine lv_iload_n hx hb dL_law_1191 rfl (lv_at hl 0 rfl) ?_
      refine lv_iconst (v := 1) hx hb dL_law_1192 (by decide) ?_
      refine lv_iadd hx hb dL_law_1193 ?_
      refine q_c 1 (by decide +kernel) ?_
      refine va_sld X.1 X.2.1 hX hbl hbA hw3.2.2 (q_in (by decide +kernel)) dL_law_1194 ?_
      refine q_c 0 e1 ?_
      refine lv_aload_n hx hb dL_law_1195 rfl (lv_at hl 3 rfl) ?_
      refine lv_iload_n hx hb dL_law_1196 rfl (lv_at hl 0 rfl) ?_
      refine lv_iconst (v := 2) hx hb dL_law_1197 (by decide) ?_
      refine lv_iadd hx hb dL_law_1198 ?_
      refine q_c 2 (by decide +kernel) ?_
      refine va_sld X.1 X.2.1 hX hbl hbA hw3.2.2 (q_in (by decide +kernel)) dL_law_1199 ?_
      refine q_c 0 e2 ?_
      refine q_callVl (rest := [.long 1]) (wr := []) X hK hA hw3 (fun sz => kX12_chance_501 l D cy y0 (u_1.1 8) (u_1.1 19) (u_1.1 0) (u_1.1 1) (u_1.1 2) (u_1.1 3) (u_1.1 4) (u_1.1 5) (u_1.1 6) (u_1.1 7) (u_1.1 9) (u_1.1 10) (u_1.1 11) (u_1.1 12) (u_1.1 13) (u_1.1 14) (u_1.1 15) (u_1.1 16) (u_1.1 17) (u_1.1 18) (upd (fun _ => 0) (Int32.toNatClampNeg 1) 1) (q_un (by decide +kernel) rfl) (q_un (by decide +kernel) rfl) sz) wm_8_7 wm_8_10 wm_1_12 hd_X12_chance wm_8_8 wm_8_9 (ci := 12) (q0 := 0) rfl rfl ⟨Nat.le_of_ble_eq_true rfl, Nat.le_of_ble_eq_true rfl⟩ hl.1 rfl (Nat.le_of_ble_eq_true rfl) dL_law_1200 ⟨Nat.le_of_ble_eq_true rfl, Nat.le_of_ble_eq_true rfl⟩ [0, 1, 2] [] rfl rfl (by decide) rfl rfl (fun r_11835 u_11835 Hp4 lc4 w_11835 hw4 => ?_)
      clear Hp3 lc3 hw3
      obtain rfl : r_11835 = 1 := w_11835
      clear w_11835
      replace hw4 : qW D _ _ [] _ _ := hw4
      refine W.lcmp hx hb dL_law_1203 ?_
      refine q_c 0 (by decide +kernel) ?_
      refine lv_if_eq (tgt := 1461) hx hb dL_law_1204 (by decide) (fun _ => ?_) (fun c => absurd c (by decide +kernel))
      exact law_tail l X hr hlk hX hbl hw4.2.2 hl (Nat.le_of_ble_eq_true rfl) (Nat.le_of_ble_eq_true rfl)
    refine lv_aload_n hx hb dL_law_1175 rfl (lv_at hl 2 rfl) ?_
    refine lv_aload_n hx hb dL_law_1176 rfl (lv_at hl 3 rfl) ?_
    refine lv_iload_n hx hb dL_law_1177 rfl (lv_at hl 0 rfl) ?_
    refine lv_iconst (v := 1) hx hb dL_law_1178 (by decide) ?_
    refine lv_iadd hx hb dL_law_1179 ?_
    refine q_c 1 (by decide +kernel) ?_
    refine va_sld X.1 X.2.1 hX hbl hbA hw4.2.2 (q_in (by decide +kernel)) dL_law_1180 ?_
    refine q_c a1 e1 ?_
    refine lv_aload_n hx hb dL_law_1181 rfl (lv_at hl 3 rfl) ?_
    refine lv_iload_n hx hb dL_law_1182 rfl (lv_at hl 0 rfl) ?_
    refine lv_iconst (v := 2) hx hb dL_law_1183 (by decide) ?_
    refine lv_iadd hx hb dL_law_1184 ?_
    refine q_c 2 (by decide +kernel) ?_
    refine va_sld X.1 X.2.1 hX hbl hbA hw4.2.2 (q_in (by decide +kernel)) dL_law_1185 ?_
    refine q_c 0 e2 ?_
    have g_11868 : ¬ a1 = (0 : Int32) := by
      simp only [Int32.lt_iff_toInt_lt, Int32.le_iff_toInt_le, ← Int32.toInt_inj] at c_11751 ⊢
      have k_0 : (0 : Int32).toInt = 0 := by decide
      omega
    refine q_callVl (rest := []) (wr := [(y0, .inr (12, [.int 0, .ref (u_1.1 19), .ref (u_1.1 0), .ref (u_1.1 1), .ref (u_1.1 2), .int 0, .int 0, .int 0, .int 0, .int 0, .int 0, .int 0, .int 0, .int 0, .int (-1), .int 0, .ref (u_1.1 3), .ref (u_1.1 4), .ref (u_1.1 5), .ref (u_1.1 6), .ref (u_1.1 7), .int 0, .int 0, .ref (u_1.1 8), .ref (u_1.1 9), .ref (u_1.1 10), .int 0, .int 0, .ref (u_1.1 11), .ref (u_1.1 12), .ref (u_1.1 13), .ref (u_1.1 14), .ref (u_1.1 15), .int 0, .ref (u_1.1 16), .ref (u_1.1 17), .ref (u_1.1 18)])), ((u_1.1 19), .inl (cy 1, 3918, .inl (upd (fun _ => 0) (Int32.toNatClampNeg 1) 1)))]) X hK hA hw4 (fun sz => kX11_chance_502 l D cy x0 (u_0.1 31) (u_0.1 37) a1 (u_0.1 0) (u_0.1 1) (u_0.1 39) (u_0.1 41) (u_0.1 43) (u_0.1 14) (u_0.1 15) (u_0.1 16) (u_0.1 17) (u_0.1 20) (u_0.1 24) (u_0.1 29) (u_0.1 32) (u_0.1 33) (u_0.1 34) (u_0.1 35) (u_0.1 36) (u_0.1 38) g_11868 sz) wm_5_102 wm_5_105 wm_1_1 hd_X11_chance wm_5_103 wm_5_104 (ci := 11) (q0 := 0) rfl rfl ⟨Nat.le_of_ble_eq_true rfl, Nat.le_of_ble_eq_true rfl⟩ hl.1 rfl (Nat.le_of_ble_eq_true rfl) dL_law_1186 ⟨Nat.le_of_ble_eq_true rfl, Nat.le_of_ble_eq_true rfl⟩ [0, 32, 38] [78, 98] rfl rfl (by decide) rfl rfl (fun r_11869 u_11869 Hp5 lc5 w_11869 hw5 => ?_)
    clear Hp4 lc4 hw4
    obtain rfl : r_11869 = (-3) := w_11869
    clear w_11869
    replace hw5 : qW D _ _ [(y0, .inr (12, [.int 0, .ref (u_1.1 19), .ref (u_1.1 0), .ref (u_1.1 1), .ref (u_1.1 2), .int 0, .int 0, .int 0, .int 0, .int 0, .int 0, .int 0, .int 0, .int 0, .int (-1), .int 0, .ref (u_1.1 3), .ref (u_1.1 4), .ref (u_1.1 5), .ref (u_1.1 6), .ref (u_1.1 7), .int 0, .int 0, .ref (u_1.1 8), .ref (u_1.1 9), .ref (u_1.1 10), .int 0, .int 0, .ref (u_1.1 11), .ref (u_1.1 12), .ref (u_1.1 13), .ref (u_1.1 14), .ref (u_1.1 15), .int 0, .ref (u_1.1 16), .ref (u_1.1 17), .ref (u_1.1 18)])), ((u_1.1 19), .inl (cy 1, 3918, .inl (upd (fun _ => 0) (Int32.toNatClampNeg 1) 1)))] _ _ := hw5
    refine lv_aload_n hx hb dL_law_1189 rfl (lv_at hl 1 rfl) ?_
    refine lv_aload_n hx hb dL_law_1190 rfl (lv_at hl 3 rfl) ?_
    refine lv_iload_n hx hb dL_law_1191 rfl (lv_at hl 0 rfl) ?_
    refine lv_iconst (v := 1) hx hb dL_law_1192 (by decide) ?_
    refine lv_iadd hx hb dL_law_1193 ?_
    refine q_c 1 (by decide +kernel) ?_
    refine va_sld X.1 X.2.1 hX hbl hbA hw5.2.2 (q_in (by decide +kernel)) dL_law_1194 ?_
    refine q_c a1 e1 ?_
    refine lv_aload_n hx hb dL_law_1195 rfl (lv_at hl 3 rfl) ?_
    refine lv_iload_n hx hb dL_law_1196 rfl (lv_at hl 0 rfl) ?_
    refine lv_iconst (v := 2) hx hb dL_law_1197 (by decide) ?_
    refine lv_iadd hx hb dL_law_1198 ?_
    refine q_c 2 (by decide +kernel) ?_
    refine va_sld X.1 X.2.1 hX hbl hbA hw5.2.2 (q_in (by decide +kernel)) dL_law_1199 ?_
    refine q_c 0 e2 ?_
    have g_11875 : ¬ a1 = (0 : Int32) := by
      simp only [Int32.lt_iff_toInt_lt, Int32.le_iff_toInt_le, ← Int32.toInt_inj] at c_11751 ⊢
      have k_0 : (0 : Int32).toInt = 0 := by decide
      omega
    refine q_callVl (rest := [.long (-3)]) (wr := []) X hK hA hw5 (fun sz => kX12_chance_503 l D cy y0 (u_1.1 19) a1 (u_1.1 0) (u_1.1 1) (u_1.1 2) (u_1.1 3) (u_1.1 4) (u_1.1 5) (u_1.1 6) (u_1.1 7) (u_1.1 8) (u_1.1 9) (u_1.1 10) (u_1.1 11) (u_1.1 12) (u_1.1 13) (u_1.1 14) (u_1.1 15) (u_1.1 16) (u_1.1 17) (u_1.1 18) (upd (fun _ => 0) (Int32.toNatClampNeg 1) 1) g_11875 (q_un (by decide +kernel) rfl) sz) wm_8_7 wm_8_10 wm_1_12 hd_X12_chance wm_8_8 wm_8_9 (ci := 12) (q0 := 0) rfl rfl ⟨Nat.le_of_ble_eq_true rfl, Nat.le_of_ble_eq_true rfl⟩ hl.1 rfl (Nat.le_of_ble_eq_true rfl) dL_law_1200 ⟨Nat.le_of_ble_eq_true rfl, Nat.le_of_ble_eq_true rfl⟩ [0, 1] [] rfl rfl (by decide) rfl rfl (fun r_11876 u_11876 Hp6 lc6 w_11876 hw6 => ?_)
    clear Hp5 lc5 hw5
    obtain rfl : r_11876 = (-3) := w_11876
    clear w_11876
    replace hw6 : qW D _ _ [] _ _ := hw6
    refine W.lcmp hx hb dL_law_1203 ?_
    refine q_c 0 (by decide +kernel) ?_
    refine lv_if_eq (tgt := 1461) hx hb dL_law_1204 (by decide) (fun _ => ?_) (fun c => absurd c (by decide +kernel))
    exact law_tail l X hr hlk hX hbl hw6.2.2 hl (Nat.le_of_ble_eq_true rfl) (Nat.le_of_ble_eq_true rfl)
  by_cases c_11877 : a2 = 1
  · subst c_11877
    by_cases c_11882 : a1 = 0
    · subst c_11882
      refine lv_aload_n hx hb dL_law_1175 rfl (lv_at hl 2 rfl) ?_
      refine lv_aload_n hx hb dL_law_1176 rfl (lv_at hl 3 rfl) ?_
      refine lv_iload_n hx hb dL_law_1177 rfl (lv_at hl 0 rfl) ?_
      refine lv_iconst (v := 1) hx hb dL_law_1178 (by decide) ?_
      refine lv_iadd hx hb dL_law_1179 ?_
      refine q_c 1 (by decide +kernel) ?_
      refine va_sld X.1 X.2.1 hX hbl hbA hw6.2.2 (q_in (by decide +kernel)) dL_law_1180 ?_
      refine q_c 0 e1 ?_
      refine lv_aload_n hx hb dL_law_1181 rfl (lv_at hl 3 rfl) ?_
      refine lv_iload_n hx hb dL_law_1182 rfl (lv_at hl 0 rfl) ?_
      refine lv_iconst (v := 2) hx hb dL_law_1183 (by decide) ?_
      refine lv_iadd hx hb dL_law_1184 ?_
      refine q_c 2 (by decide +kernel) ?_
      refine va_sld X.1 X.2.1 hX hbl hbA hw6.2.2 (q_in (by decide +kernel)) dL_law_1185 ?_
      refine q_c 1 e2 ?_
      refine q_callVl (rest := []) (wr := [(y0, .inr (12, [.int 0, .ref (u_1.1 19), .ref (u_1.1 0), .ref (u_1.1 1), .ref (u_1.1 2), .int 0, .int 0, .int 0, .int 0, .int 0, .int 0, .int 0, .int 0, .int 0, .int (-1), .int 0, .ref (u_1.1 3), .ref (u_1.1 4), .ref (u_1.1 5), .ref (u_1.1 6), .ref (u_1.1 7), .int 0, .int 0, .ref (u_1.1 8), .ref (u_1.1 9), .ref (u_1.1 10), .int 0, .int 0, .ref (u_1.1 11), .ref (u_1.1 12), .ref (u_1.1 13), .ref (u_1.1 14), .ref (u_1.1 15), .int 0, .ref (u_1.1 16), .ref (u_1.1 17), .ref (u_1.1 18)])), ((u_1.1 8), .inl (cy 1, 1024, .inl (fun _ => 0))), ((u_1.1 19), .inl (cy 1, 3918, .inl (upd (fun _ => 0) (Int32.toNatClampNeg 1) 1)))]) X hK hA hw6 (fun sz => kX11_chance_504 l D cy x0 (u_0.1 20) (u_0.1 21) (u_0.1 22) (u_0.1 31) (u_0.1 37) (u_0.1 0) (u_0.1 1) (u_0.1 39) (u_0.1 41) (u_0.1 43) (u_0.1 14) (u_0.1 15) (u_0.1 16) (u_0.1 17) (u_0.1 24) (u_0.1 29) (u_0.1 23) (u_0.1 32) (u_0.1 33) (u_0.1 34) (u_0.1 35) (u_0.1 36) (u_0.1 38)  sz) wm_5_102 wm_5_105 wm_1_1 hd_X11_chance wm_5_103 wm_5_104 (ci := 11) (q0 := 0) rfl rfl ⟨Nat.le_of_ble_eq_true rfl, Nat.le_of_ble_eq_true rfl⟩ hl.1 rfl (Nat.le_of_ble_eq_true rfl) dL_law_1186 ⟨Nat.le_of_ble_eq_true rfl, Nat.le_of_ble_eq_true rfl⟩ [0, 21, 22, 23, 32, 38] [78, 87, 98] rfl rfl (by decide) rfl rfl (fun r_11952 u_11952 Hp7 lc7 w_11952 hw7 => ?_)
      clear Hp6 lc6 hw6
      obtain rfl : r_11952 = 1 := w_11952
      clear w_11952
      replace hw7 : qW D _ _ [(y0, .inr (12, [.int 0, .ref (u_1.1 19), .ref (u_1.1 0), .ref (u_1.1 1), .ref (u_1.1 2), .int 0, .int 0, .int 0, .int 0, .int 0, .int 0, .int 0, .int 0, .int 0, .int (-1), .int 0, .ref (u_1.1 3), .ref (u_1.1 4), .ref (u_1.1 5), .ref (u_1.1 6), .ref (u_1.1 7), .int 0, .int 0, .ref (u_1.1 8), .ref (u_1.1 9), .ref (u_1.1 10), .int 0, .int 0, .ref (u_1.1 11), .ref (u_1.1 12), .ref (u_1.1 13), .ref (u_1.1 14), .ref (u_1.1 15), .int 0, .ref (u_1.1 16), .ref (u_1.1 17), .ref (u_1.1 18)])), ((u_1.1 8), .inl (cy 1, 1024, .inl (fun _ => 0))), ((u_1.1 19), .inl (cy 1, 3918, .inl (upd (fun _ => 0) (Int32.toNatClampNeg 1) 1)))] _ _ := hw7
      refine lv_aload_n hx hb dL_law_1189 rfl (lv_at hl 1 rfl) ?_
      refine lv_aload_n hx hb dL_law_1190 rfl (lv_at hl 3 rfl) ?_
      refine lv_iload_n hx hb dL_law_1191 rfl (lv_at hl 0 rfl) ?_
      refine lv_iconst (v := 1) hx hb dL_law_1192 (by decide) ?_
      refine lv_iadd hx hb dL_law_1193 ?_
      refine q_c 1 (by decide +kernel) ?_
      refine va_sld X.1 X.2.1 hX hbl hbA hw7.2.2 (q_in (by decide +kernel)) dL_law_1194 ?_
      refine q_c 0 e1 ?_
      refine lv_aload_n hx hb dL_law_1195 rfl (lv_at hl 3 rfl) ?_
      refine lv_iload_n hx hb dL_law_1196 rfl (lv_at hl 0 rfl) ?_
      refine lv_iconst (v := 2) hx hb dL_law_1197 (by decide) ?_
      refine lv_iadd hx hb dL_law_1198 ?_
      refine q_c 2 (by decide +kernel) ?_
      refine va_sld X.1 X.2.1 hX hbl hbA hw7.2.2 (q_in (by decide +kernel)) dL_law_1199 ?_
      refine q_c 1 e2 ?_
      refine q_callVl (rest := [.long 1]) (wr := []) X hK hA hw7 (fun sz => kX12_chance_505 l D cy y0 (u_1.1 8) (u_1.1 19) (u_1.1 0) (u_1.1 1) (u_1.1 2) (u_1.1 3) (u_1.1 4) (u_1.1 5) (u_1.1 6) (u_1.1 7) (u_1.1 9) (u_1.1 10) (u_1.1 11) (u_1.1 12) (u_1.1 13) (u_1.1 14) (u_1.1 15) (u_1.1 16) (u_1.1 17) (u_1.1 18) (upd (fun _ => 0) (Int32.toNatClampNeg 1) 1) (q_un (by decide +kernel) rfl) (q_un (by decide +kernel) rfl) sz) wm_8_7 wm_8_10 wm_1_12 hd_X12_chance wm_8_8 wm_8_9 (ci := 12) (q0 := 0) rfl rfl ⟨Nat.le_of_ble_eq_true rfl, Nat.le_of_ble_eq_true rfl⟩ hl.1 rfl (Nat.le_of_ble_eq_true rfl) dL_law_1200 ⟨Nat.le_of_ble_eq_true rfl, Nat.le_of_ble_eq_true rfl⟩ [0, 1, 2] [] rfl rfl (by decide) rfl rfl (fun r_11964 u_11964 Hp8 lc8 w_11964 hw8 => ?_)
      clear Hp7 lc7 hw7
      obtain rfl : r_11964 = 1 := w_11964
      clear w_11964
      replace hw8 : qW D _ _ [] _ _ := hw8
      refine W.lcmp hx hb dL_law_1203 ?_
      refine q_c 0 (by decide +kernel) ?_
      refine lv_if_eq (tgt := 1461) hx hb dL_law_1204 (by decide) (fun _ => ?_) (fun c => absurd c (by decide +kernel))
      exact law_tail l X hr hlk hX hbl hw8.2.2 hl (Nat.le_of_ble_eq_true rfl) (Nat.le_of_ble_eq_true rfl)
    refine lv_aload_n hx hb dL_law_1175 rfl (lv_at hl 2 rfl) ?_
    refine lv_aload_n hx hb dL_law_1176 rfl (lv_at hl 3 rfl) ?_
    refine lv_iload_n hx hb dL_law_1177 rfl (lv_at hl 0 rfl) ?_
    refine lv_iconst (v := 1) hx hb dL_law_1178 (by decide) ?_
    refine lv_iadd hx hb dL_law_1179 ?_
    refine q_c 1 (by decide +kernel) ?_
    refine va_sld X.1 X.2.1 hX hbl hbA hw8.2.2 (q_in (by decide +kernel)) dL_law_1180 ?_
    refine q_c a1 e1 ?_
    refine lv_aload_n hx hb dL_law_1181 rfl (lv_at hl 3 rfl) ?_
    refine lv_iload_n hx hb dL_law_1182 rfl (lv_at hl 0 rfl) ?_
    refine lv_iconst (v := 2) hx hb dL_law_1183 (by decide) ?_
    refine lv_iadd hx hb dL_law_1184 ?_
    refine q_c 2 (by decide +kernel) ?_
    refine va_sld X.1 X.2.1 hX hbl hbA hw8.2.2 (q_in (by decide +kernel)) dL_law_1185 ?_
    refine q_c 1 e2 ?_
    have g_11997 : ¬ a1 = (0 : Int32) := by
      simp only [Int32.lt_iff_toInt_lt, Int32.le_iff_toInt_le, ← Int32.toInt_inj] at c_11882 ⊢
      have k_0 : (0 : Int32).toInt = 0 := by decide
      omega
    refine q_callVl (rest := []) (wr := [(y0, .inr (12, [.int 0, .ref (u_1.1 19), .ref (u_1.1 0), .ref (u_1.1 1), .ref (u_1.1 2), .int 0, .int 0, .int 0, .int 0, .int 0, .int 0, .int 0, .int 0, .int 0, .int (-1), .int 0, .ref (u_1.1 3), .ref (u_1.1 4), .ref (u_1.1 5), .ref (u_1.1 6), .ref (u_1.1 7), .int 0, .int 0, .ref (u_1.1 8), .ref (u_1.1 9), .ref (u_1.1 10), .int 0, .int 0, .ref (u_1.1 11), .ref (u_1.1 12), .ref (u_1.1 13), .ref (u_1.1 14), .ref (u_1.1 15), .int 0, .ref (u_1.1 16), .ref (u_1.1 17), .ref (u_1.1 18)])), ((u_1.1 19), .inl (cy 1, 3918, .inl (upd (fun _ => 0) (Int32.toNatClampNeg 1) 1)))]) X hK hA hw8 (fun sz => kX11_chance_506 l D cy x0 (u_0.1 31) (u_0.1 37) a1 (u_0.1 0) (u_0.1 1) (u_0.1 39) (u_0.1 41) (u_0.1 43) (u_0.1 14) (u_0.1 15) (u_0.1 16) (u_0.1 17) (u_0.1 20) (u_0.1 24) (u_0.1 29) (u_0.1 32) (u_0.1 33) (u_0.1 34) (u_0.1 35) (u_0.1 36) (u_0.1 38) g_11997 sz) wm_5_102 wm_5_105 wm_1_1 hd_X11_chance wm_5_103 wm_5_104 (ci := 11) (q0 := 0) rfl rfl ⟨Nat.le_of_ble_eq_true rfl, Nat.le_of_ble_eq_true rfl⟩ hl.1 rfl (Nat.le_of_ble_eq_true rfl) dL_law_1186 ⟨Nat.le_of_ble_eq_true rfl, Nat.le_of_ble_eq_true rfl⟩ [0, 32, 38] [78, 98] rfl rfl (by decide) rfl rfl (fun r_11998 u_11998 Hp9 lc9 w_11998 hw9 => ?_)
    clear Hp8 lc8 hw8
    obtain rfl : r_11998 = (-3) := w_11998
    clear w_11998
    replace hw9 : qW D _ _ [(y0, .inr (12, [.int 0, .ref (u_1.1 19), .ref (u_1.1 0), .ref (u_1.1 1), .ref (u_1.1 2), .int 0, .int 0, .int 0, .int 0, .int 0, .int 0, .int 0, .int 0, .int 0, .int (-1), .int 0, .ref (u_1.1 3), .ref (u_1.1 4), .ref (u_1.1 5), .ref (u_1.1 6), .ref (u_1.1 7), .int 0, .int 0, .ref (u_1.1 8), .ref (u_1.1 9), .ref (u_1.1 10), .int 0, .int 0, .ref (u_1.1 11), .ref (u_1.1 12), .ref (u_1.1 13), .ref (u_1.1 14), .ref (u_1.1 15), .int 0, .ref (u_1.1 16), .ref (u_1.1 17), .ref (u_1.1 18)])), ((u_1.1 19), .inl (cy 1, 3918, .inl (upd (fun _ => 0) (Int32.toNatClampNeg 1) 1)))] _ _ := hw9
    refine lv_aload_n hx hb dL_law_1189 rfl (lv_at hl 1 rfl) ?_
    refine lv_aload_n hx hb dL_law_1190 rfl (lv_at hl 3 rfl) ?_
    refine lv_iload_n hx hb dL_law_1191 rfl (lv_at hl 0 rfl) ?_
    refine lv_iconst (v := 1) hx hb dL_law_1192 (by decide) ?_
    refine lv_iadd hx hb dL_law_1193 ?_
    refine q_c 1 (by decide +kernel) ?_
    refine va_sld X.1 X.2.1 hX hbl hbA hw9.2.2 (q_in (by decide +kernel)) dL_law_1194 ?_
    refine q_c a1 e1 ?_
    refine lv_aload_n hx hb dL_law_1195 rfl (lv_at hl 3 rfl) ?_
    refine lv_iload_n hx hb dL_law_1196 rfl (lv_at hl 0 rfl) ?_
    refine lv_iconst (v := 2) hx hb dL_law_1197 (by decide) ?_
    refine lv_iadd hx hb dL_law_1198 ?_
    refine q_c 2 (by decide +kernel) ?_
    refine va_sld X.1 X.2.1 hX hbl hbA hw9.2.2 (q_in (by decide +kernel)) dL_law_1199 ?_
    refine q_c 1 e2 ?_
    have g_12004 : ¬ a1 = (0 : Int32) := by
      simp only [Int32.lt_iff_toInt_lt, Int32.le_iff_toInt_le, ← Int32.toInt_inj] at c_11882 ⊢
      have k_0 : (0 : Int32).toInt = 0 := by decide
      omega
    refine q_callVl (rest := [.long (-3)]) (wr := []) X hK hA hw9 (fun sz => kX12_chance_507 l D cy y0 (u_1.1 19) a1 (u_1.1 0) (u_1.1 1) (u_1.1 2) (u_1.1 3) (u_1.1 4) (u_1.1 5) (u_1.1 6) (u_1.1 7) (u_1.1 8) (u_1.1 9) (u_1.1 10) (u_1.1 11) (u_1.1 12) (u_1.1 13) (u_1.1 14) (u_1.1 15) (u_1.1 16) (u_1.1 17) (u_1.1 18) (upd (fun _ => 0) (Int32.toNatClampNeg 1) 1) g_12004 (q_un (by decide +kernel) rfl) sz) wm_8_7 wm_8_10 wm_1_12 hd_X12_chance wm_8_8 wm_8_9 (ci := 12) (q0 := 0) rfl rfl ⟨Nat.le_of_ble_eq_true rfl, Nat.le_of_ble_eq_true rfl⟩ hl.1 rfl (Nat.le_of_ble_eq_true rfl) dL_law_1200 ⟨Nat.le_of_ble_eq_true rfl, Nat.le_of_ble_eq_true rfl⟩ [0, 1] [] rfl rfl (by decide) rfl rfl (fun r_12005 u_12005 Hp10 lc10 w_12005 hw10 => ?_)
    clear Hp9 lc9 hw9
    obtain rfl : r_12005 = (-3) := w_12005
    clear w_12005
    replace hw10 : qW D _ _ [] _ _ := hw10
    refine W.lcmp hx hb dL_law_1203 ?_
    refine q_c 0 (by decide +kernel) ?_
    refine lv_if_eq (tgt := 1461) hx hb dL_law_1204 (by decide) (fun _ => ?_) (fun c => absurd c (by decide +kernel))
    exact law_tail l X hr hlk hX hbl hw10.2.2 hl (Nat.le_of_ble_eq_true rfl) (Nat.le_of_ble_eq_true rfl)
  refine lv_aload_n hx hb dL_law_1175 rfl (lv_at hl 2 rfl) ?_
  refine lv_aload_n hx hb dL_law_1176 rfl (lv_at hl 3 rfl) ?_
  refine lv_iload_n hx hb dL_law_1177 rfl (lv_at hl 0 rfl) ?_
  refine lv_iconst (v := 1) hx hb dL_law_1178 (by decide) ?_
  refine lv_iadd hx hb dL_law_1179 ?_
  refine q_c 1 (by decide +kernel) ?_
  refine va_sld X.1 X.2.1 hX hbl hbA hw10.2.2 (q_in (by decide +kernel)) dL_law_1180 ?_
  refine q_c a1 e1 ?_
  refine lv_aload_n hx hb dL_law_1181 rfl (lv_at hl 3 rfl) ?_
  refine lv_iload_n hx hb dL_law_1182 rfl (lv_at hl 0 rfl) ?_
  refine lv_iconst (v := 2) hx hb dL_law_1183 (by decide) ?_
  refine lv_iadd hx hb dL_law_1184 ?_
  refine q_c 2 (by decide +kernel) ?_
  refine va_sld X.1 X.2.1 hX hbl hbA hw10.2.2 (q_in (by decide +kernel)) dL_law_1185 ?_
  refine q_c a2 e2 ?_
  have g_12027 : (2 : Int32) ≤ a2 := by
    simp only [Int32.lt_iff_toInt_lt, Int32.le_iff_toInt_le, ← Int32.toInt_inj] at c_11721 c_11746 c_11877 ⊢
    have k_0 : ((-1) : Int32).toInt = -1 := by decide
    have k_1 : (0 : Int32).toInt = 0 := by decide
    have k_2 : (1 : Int32).toInt = 1 := by decide
    have k_g : (2 : Int32).toInt = 2 := by decide
    omega
  refine q_callVl (rest := []) (wr := [(y0, .inr (12, [.int 0, .ref (u_1.1 19), .ref (u_1.1 0), .ref (u_1.1 1), .ref (u_1.1 2), .int 0, .int 0, .int 0, .int 0, .int 0, .int 0, .int 0, .int 0, .int 0, .int (-1), .int 0, .ref (u_1.1 3), .ref (u_1.1 4), .ref (u_1.1 5), .ref (u_1.1 6), .ref (u_1.1 7), .int 0, .int 0, .ref (u_1.1 8), .ref (u_1.1 9), .ref (u_1.1 10), .int 0, .int 0, .ref (u_1.1 11), .ref (u_1.1 12), .ref (u_1.1 13), .ref (u_1.1 14), .ref (u_1.1 15), .int 0, .ref (u_1.1 16), .ref (u_1.1 17), .ref (u_1.1 18)]))]) X hK hA hw10 (fun sz => kX11_chance_508 l D cy x0 a1 a2 (u_0.1 0) (u_0.1 1) (u_0.1 37) (u_0.1 39) (u_0.1 41) (u_0.1 43) (u_0.1 14) (u_0.1 15) (u_0.1 16) (u_0.1 17) (u_0.1 20) (u_0.1 24) (u_0.1 29) g_12027 sz) wm_5_102 wm_5_105 wm_1_1 hd_X11_chance wm_5_103 wm_5_104 (ci := 11) (q0 := 0) rfl rfl ⟨Nat.le_of_ble_eq_true rfl, Nat.le_of_ble_eq_true rfl⟩ hl.1 rfl (Nat.le_of_ble_eq_true rfl) dL_law_1186 ⟨Nat.le_of_ble_eq_true rfl, Nat.le_of_ble_eq_true rfl⟩ [0] [78] rfl rfl (by decide) rfl rfl (fun r_12028 u_12028 Hp11 lc11 w_12028 hw11 => ?_)
  clear Hp10 lc10 hw10
  obtain rfl : r_12028 = (-2) := w_12028
  clear w_12028
  replace hw11 : qW D _ _ [(y0, .inr (12, [.int 0, .ref (u_1.1 19), .ref (u_1.1 0), .ref (u_1.1 1), .ref (u_1.1 2), .int 0, .int 0, .int 0, .int 0, .int 0, .int 0, .int 0, .int 0, .int 0, .int (-1), .int 0, .ref (u_1.1 3), .ref (u_1.1 4), .ref (u_1.1 5), .ref (u_1.1 6), .ref (u_1.1 7), .int 0, .int 0, .ref (u_1.1 8), .ref (u_1.1 9), .ref (u_1.1 10), .int 0, .int 0, .ref (u_1.1 11), .ref (u_1.1 12), .ref (u_1.1 13), .ref (u_1.1 14), .ref (u_1.1 15), .int 0, .ref (u_1.1 16), .ref (u_1.1 17), .ref (u_1.1 18)]))] _ _ := hw11
  refine lv_aload_n hx hb dL_law_1189 rfl (lv_at hl 1 rfl) ?_
  refine lv_aload_n hx hb dL_law_1190 rfl (lv_at hl 3 rfl) ?_
  refine lv_iload_n hx hb dL_law_1191 rfl (lv_at hl 0 rfl) ?_
  refine lv_iconst (v := 1) hx hb dL_law_1192 (by decide) ?_
  refine lv_iadd hx hb dL_law_1193 ?_
  refine q_c 1 (by decide +kernel) ?_
  refine va_sld X.1 X.2.1 hX hbl hbA hw11.2.2 (q_in (by decide +kernel)) dL_law_1194 ?_
  refine q_c a1 e1 ?_
  refine lv_aload_n hx hb dL_law_1195 rfl (lv_at hl 3 rfl) ?_
  refine lv_iload_n hx hb dL_law_1196 rfl (lv_at hl 0 rfl) ?_
  refine lv_iconst (v := 2) hx hb dL_law_1197 (by decide) ?_
  refine lv_iadd hx hb dL_law_1198 ?_
  refine q_c 2 (by decide +kernel) ?_
  refine va_sld X.1 X.2.1 hX hbl hbA hw11.2.2 (q_in (by decide +kernel)) dL_law_1199 ?_
  refine q_c a2 e2 ?_
  have g_12033 : (2 : Int32) ≤ a2 := by
    simp only [Int32.lt_iff_toInt_lt, Int32.le_iff_toInt_le, ← Int32.toInt_inj] at c_11721 c_11746 c_11877 ⊢
    have k_0 : ((-1) : Int32).toInt = -1 := by decide
    have k_1 : (0 : Int32).toInt = 0 := by decide
    have k_2 : (1 : Int32).toInt = 1 := by decide
    have k_g : (2 : Int32).toInt = 2 := by decide
    omega
  refine q_callVl (rest := [.long (-2)]) (wr := []) X hK hA hw11 (fun sz => kX12_chance_509 l D cy y0 a1 a2 (u_1.1 19) (u_1.1 0) (u_1.1 1) (u_1.1 2) (u_1.1 3) (u_1.1 4) (u_1.1 5) (u_1.1 6) (u_1.1 7) (u_1.1 8) (u_1.1 9) (u_1.1 10) (u_1.1 11) (u_1.1 12) (u_1.1 13) (u_1.1 14) (u_1.1 15) (u_1.1 16) (u_1.1 17) (u_1.1 18) g_12033 sz) wm_8_7 wm_8_10 wm_1_12 hd_X12_chance wm_8_8 wm_8_9 (ci := 12) (q0 := 0) rfl rfl ⟨Nat.le_of_ble_eq_true rfl, Nat.le_of_ble_eq_true rfl⟩ hl.1 rfl (Nat.le_of_ble_eq_true rfl) dL_law_1200 ⟨Nat.le_of_ble_eq_true rfl, Nat.le_of_ble_eq_true rfl⟩ [0] [] rfl rfl (by decide) rfl rfl (fun r_12034 u_12034 Hp12 lc12 w_12034 hw12 => ?_)
  clear Hp11 lc11 hw11
  obtain rfl : r_12034 = (-2) := w_12034
  clear w_12034
  replace hw12 : qW D _ _ [] _ _ := hw12
  refine W.lcmp hx hb dL_law_1203 ?_
  refine q_c 0 (by decide +kernel) ?_
  refine lv_if_eq (tgt := 1461) hx hb dL_law_1204 (by decide) (fun _ => ?_) (fun c => absurd c (by decide +kernel))
  exact law_tail l X hr hlk hX hbl hw12.2.2 hl (Nat.le_of_ble_eq_true rfl) (Nat.le_of_ble_eq_true rfl)
set_option maxHeartbeats 4000000 in
set_option maxRecDepth 100000 in
theorem lc_reserve (l : Launch) {p : Program} {e : Env} {s : State} {m : MethodId} {below : List Frame} {meth : Method} {c : Code} {b : Nat} {xs : Nat → Int32} {D : va_G} {cy : Nat → ClassId} {H : Heap} {locs : List Loc} {ls : Array Slot} {x0 y0 : Nat} {u_0 u_1 : SS} (X : qX p s m #[Value.ref b] c cL_law 4 RL) (hr : meth.sig.returnType = ret) (hlk : meth.locks = false) (hX : va_X b 6 xs s s.heap) (hbl : b < s.heap.size) (hK : qK D cy s) (a1 a2 a3 a4 a5 : Int32) (e1 : xs (Int32.toNatClampNeg 1) = a1) (e2 : xs (Int32.toNatClampNeg 2) = a2) (e3 : xs (Int32.toNatClampNeg 3) = a3) (e4 : xs (Int32.toNatClampNeg 4) = a4) (e5 : xs (Int32.toNatClampNeg 5) = a5) (h : qW D (fun q => s.heap.size ≤ q) s.heap (wLaw cy x0 y0 u_0 u_1) H locs) (hl : lv_has ls 4 [(3, .int 0), (2, .ref y0), (1, .ref x0), (0, .ref b)]) : W p l e room_1 s m #[Value.ref b] below meth c H locs 99 25544 (lw_Z below #[Value.ref b] s) (F0 m 1209 ls []) := by
  obtain ⟨hx, hb, hml, hown, ht⟩ := id X
  have hA : ∀ q : Nat, s.heap.size ≤ q → (fun q : Nat => s.heap.size ≤ q) q := fun _ h => h
  have hbA : ¬ (fun q : Nat => s.heap.size ≤ q) b := Nat.not_le.mpr hbl
  by_cases c_12039 : a1 = 0
  · subst c_12039
    refine lv_aload_n hx hb dL_law_1209 rfl (lv_at hl 2 rfl) ?_
    refine lv_aload_n hx hb dL_law_1210 rfl (lv_at hl 3 rfl) ?_
    refine lv_iload_n hx hb dL_law_1211 rfl (lv_at hl 0 rfl) ?_
    refine lv_iconst (v := 1) hx hb dL_law_1212 (by decide) ?_
    refine lv_iadd hx hb dL_law_1213 ?_
    refine q_c 1 (by decide +kernel) ?_
    refine va_sld X.1 X.2.1 hX hbl hbA h.2.2 (q_in (by decide +kernel)) dL_law_1214 ?_
    refine q_c 0 e1 ?_
    refine q_callVi (rest := []) (wr := [(y0, .inr (12, [.int 0, .ref (u_1.1 19), .ref (u_1.1 0), .ref (u_1.1 1), .ref (u_1.1 2), .int 0, .int 0, .int 0, .int 0, .int 0, .int 0, .int 0, .int 0, .int 0, .int (-1), .int 0, .ref (u_1.1 3), .ref (u_1.1 4), .ref (u_1.1 5), .ref (u_1.1 6), .ref (u_1.1 7), .int 0, .int 0, .ref (u_1.1 8), .ref (u_1.1 9), .ref (u_1.1 10), .int 0, .int 0, .ref (u_1.1 11), .ref (u_1.1 12), .ref (u_1.1 13), .ref (u_1.1 14), .ref (u_1.1 15), .int 0, .ref (u_1.1 16), .ref (u_1.1 17), .ref (u_1.1 18)])), ((u_1.1 8), .inl (cy 1, 1024, .inl (fun _ => 0))), ((u_1.1 19), .inl (cy 1, 3918, .inl (upd (fun _ => 0) (Int32.toNatClampNeg 1) 1)))]) X hK hA h (fun sz => kX11_reserve_510 l D cy x0 (u_0.1 20) (u_0.1 21) (u_0.1 22) (u_0.1 31) (u_0.1 37) (u_0.1 0) (u_0.1 1) (u_0.1 39) (u_0.1 41) (u_0.1 43) (u_0.1 14) (u_0.1 15) (u_0.1 16) (u_0.1 17) (u_0.1 24) (u_0.1 29) (u_0.1 23) (u_0.1 32) (u_0.1 33) (u_0.1 34) (u_0.1 35) (u_0.1 36) (u_0.1 38)  sz) wm_5_116 wm_5_119 wm_1_1 hd_X11_reserve wm_5_117 wm_5_118 (ci := 11) (q0 := 0) rfl rfl ⟨Nat.le_of_ble_eq_true rfl, Nat.le_of_ble_eq_true rfl⟩ hl.1 rfl (Nat.le_of_ble_eq_true rfl) dL_law_1215 ⟨Nat.le_of_ble_eq_true rfl, Nat.le_of_ble_eq_true rfl⟩ [0, 21, 22, 23, 32, 38] [78, 87, 98] rfl rfl (by decide) rfl rfl (fun r_12100 u_12100 Hp1 lc1 w_12100 hw1 => ?_)
    clear h
    obtain rfl : r_12100 = (-1) := w_12100
    clear w_12100
    replace hw1 : qW D _ _ [(y0, .inr (12, [.int 0, .ref (u_1.1 19), .ref (u_1.1 0), .ref (u_1.1 1), .ref (u_1.1 2), .int 0, .int 0, .int 0, .int 0, .int 0, .int 0, .int 0, .int 0, .int 0, .int (-1), .int 0, .ref (u_1.1 3), .ref (u_1.1 4), .ref (u_1.1 5), .ref (u_1.1 6), .ref (u_1.1 7), .int 0, .int 0, .ref (u_1.1 8), .ref (u_1.1 9), .ref (u_1.1 10), .int 0, .int 0, .ref (u_1.1 11), .ref (u_1.1 12), .ref (u_1.1 13), .ref (u_1.1 14), .ref (u_1.1 15), .int 0, .ref (u_1.1 16), .ref (u_1.1 17), .ref (u_1.1 18)])), ((u_1.1 8), .inl (cy 1, 1024, .inl (fun _ => 0))), ((u_1.1 19), .inl (cy 1, 3918, .inl (upd (fun _ => 0) (Int32.toNatClampNeg 1) 1)))] _ _ := hw1
    refine lv_aload_n hx hb dL_law_1218 rfl (lv_at hl 1 rfl) ?_
    refine lv_aload_n hx hb dL_law_1219 rfl (lv_at hl 3 rfl) ?_
    refine lv_iload_n hx hb dL_law_1220 rfl (lv_at hl 0 rfl) ?_
    refine lv_iconst (v := 1) hx hb dL_law_1221 (by decide) ?_
    refine lv_iadd hx hb dL_law_1222 ?_
    refine q_c 1 (by decide +kernel) ?_
    refine va_sld X.1 X.2.1 hX hbl hbA hw1.2.2 (q_in (by decide +kernel)) dL_law_1223 ?_
    refine q_c 0 e1 ?_
    refine q_callVi (rest := [.int (-1)]) (wr := []) X hK hA hw1 (fun sz => kX12_reserve_511 l D cy y0 (u_1.1 8) (u_1.1 19) (u_1.1 0) (u_1.1 1) (u_1.1 2) (u_1.1 3) (u_1.1 4) (u_1.1 5) (u_1.1 6) (u_1.1 7) (u_1.1 9) (u_1.1 10) (u_1.1 11) (u_1.1 12) (u_1.1 13) (u_1.1 14) (u_1.1 15) (u_1.1 16) (u_1.1 17) (u_1.1 18) (upd (fun _ => 0) (Int32.toNatClampNeg 1) 1) (q_un (by decide +kernel) rfl) (q_un (by decide +kernel) rfl) (q_un (by decide +kernel) rfl) sz) wm_8_23 wm_8_26 wm_1_12 hd_X12_reserve wm_8_24 wm_8_25 (ci := 12) (q0 := 0) rfl rfl ⟨Nat.le_of_ble_eq_true rfl, Nat.le_of_ble_eq_true rfl⟩ hl.1 rfl (Nat.le_of_ble_eq_true rfl) dL_law_1224 ⟨Nat.le_of_ble_eq_true rfl, Nat.le_of_ble_eq_true rfl⟩ [0, 1, 2] [] rfl rfl (by decide) rfl rfl (fun r_12109 u_12109 Hp2 lc2 w_12109 hw2 => ?_)
    clear Hp1 lc1 hw1
    obtain rfl : r_12109 = (-1) := w_12109
    clear w_12109
    replace hw2 : qW D _ _ [] _ _ := hw2
    refine lv_icmp_eq (tgt := 1461) hx hb dL_law_1227 (by decide) (fun _ => ?_) (fun c => absurd c (by decide +kernel))
    exact law_tail l X hr hlk hX hbl hw2.2.2 hl (Nat.le_of_ble_eq_true rfl) (Nat.le_of_ble_eq_true rfl)
  refine lv_aload_n hx hb dL_law_1209 rfl (lv_at hl 2 rfl) ?_
  refine lv_aload_n hx hb dL_law_1210 rfl (lv_at hl 3 rfl) ?_
  refine lv_iload_n hx hb dL_law_1211 rfl (lv_at hl 0 rfl) ?_
  refine lv_iconst (v := 1) hx hb dL_law_1212 (by decide) ?_
  refine lv_iadd hx hb dL_law_1213 ?_
  refine q_c 1 (by decide +kernel) ?_
  refine va_sld X.1 X.2.1 hX hbl hbA hw2.2.2 (q_in (by decide +kernel)) dL_law_1214 ?_
  refine q_c a1 e1 ?_
  have g_12139 : ¬ a1 = (0 : Int32) := by
    simp only [Int32.lt_iff_toInt_lt, Int32.le_iff_toInt_le, ← Int32.toInt_inj] at c_12039 ⊢
    have k_0 : (0 : Int32).toInt = 0 := by decide
    omega
  refine q_callVi (rest := []) (wr := [(y0, .inr (12, [.int 0, .ref (u_1.1 19), .ref (u_1.1 0), .ref (u_1.1 1), .ref (u_1.1 2), .int 0, .int 0, .int 0, .int 0, .int 0, .int 0, .int 0, .int 0, .int 0, .int (-1), .int 0, .ref (u_1.1 3), .ref (u_1.1 4), .ref (u_1.1 5), .ref (u_1.1 6), .ref (u_1.1 7), .int 0, .int 0, .ref (u_1.1 8), .ref (u_1.1 9), .ref (u_1.1 10), .int 0, .int 0, .ref (u_1.1 11), .ref (u_1.1 12), .ref (u_1.1 13), .ref (u_1.1 14), .ref (u_1.1 15), .int 0, .ref (u_1.1 16), .ref (u_1.1 17), .ref (u_1.1 18)])), ((u_1.1 19), .inl (cy 1, 3918, .inl (upd (fun _ => 0) (Int32.toNatClampNeg 1) 1)))]) X hK hA hw2 (fun sz => kX11_reserve_512 l D cy x0 (u_0.1 31) (u_0.1 37) a1 (u_0.1 0) (u_0.1 1) (u_0.1 39) (u_0.1 41) (u_0.1 43) (u_0.1 14) (u_0.1 15) (u_0.1 16) (u_0.1 17) (u_0.1 20) (u_0.1 24) (u_0.1 29) (u_0.1 32) (u_0.1 33) (u_0.1 34) (u_0.1 35) (u_0.1 36) (u_0.1 38) g_12139 sz) wm_5_116 wm_5_119 wm_1_1 hd_X11_reserve wm_5_117 wm_5_118 (ci := 11) (q0 := 0) rfl rfl ⟨Nat.le_of_ble_eq_true rfl, Nat.le_of_ble_eq_true rfl⟩ hl.1 rfl (Nat.le_of_ble_eq_true rfl) dL_law_1215 ⟨Nat.le_of_ble_eq_true rfl, Nat.le_of_ble_eq_true rfl⟩ [0, 32, 38] [78, 98] rfl rfl (by decide) rfl rfl (fun r_12140 u_12140 Hp3 lc3 w_12140 hw3 => ?_)
  clear Hp2 lc2 hw2
  obtain rfl : r_12140 = (-3) := w_12140
  clear w_12140
  replace hw3 : qW D _ _ [(y0, .inr (12, [.int 0, .ref (u_1.1 19), .ref (u_1.1 0), .ref (u_1.1 1), .ref (u_1.1 2), .int 0, .int 0, .int 0, .int 0, .int 0, .int 0, .int 0, .int 0, .int 0, .int (-1), .int 0, .ref (u_1.1 3), .ref (u_1.1 4), .ref (u_1.1 5), .ref (u_1.1 6), .ref (u_1.1 7), .int 0, .int 0, .ref (u_1.1 8), .ref (u_1.1 9), .ref (u_1.1 10), .int 0, .int 0, .ref (u_1.1 11), .ref (u_1.1 12), .ref (u_1.1 13), .ref (u_1.1 14), .ref (u_1.1 15), .int 0, .ref (u_1.1 16), .ref (u_1.1 17), .ref (u_1.1 18)])), ((u_1.1 19), .inl (cy 1, 3918, .inl (upd (fun _ => 0) (Int32.toNatClampNeg 1) 1)))] _ _ := hw3
  refine lv_aload_n hx hb dL_law_1218 rfl (lv_at hl 1 rfl) ?_
  refine lv_aload_n hx hb dL_law_1219 rfl (lv_at hl 3 rfl) ?_
  refine lv_iload_n hx hb dL_law_1220 rfl (lv_at hl 0 rfl) ?_
  refine lv_iconst (v := 1) hx hb dL_law_1221 (by decide) ?_
  refine lv_iadd hx hb dL_law_1222 ?_
  refine q_c 1 (by decide +kernel) ?_
  refine va_sld X.1 X.2.1 hX hbl hbA hw3.2.2 (q_in (by decide +kernel)) dL_law_1223 ?_
  refine q_c a1 e1 ?_
  have g_12145 : ¬ a1 = (0 : Int32) := by
    simp only [Int32.lt_iff_toInt_lt, Int32.le_iff_toInt_le, ← Int32.toInt_inj] at c_12039 ⊢
    have k_0 : (0 : Int32).toInt = 0 := by decide
    omega
  refine q_callVi (rest := [.int (-3)]) (wr := []) X hK hA hw3 (fun sz => kX12_reserve_513 l D cy y0 (u_1.1 19) a1 (u_1.1 0) (u_1.1 1) (u_1.1 2) (u_1.1 3) (u_1.1 4) (u_1.1 5) (u_1.1 6) (u_1.1 7) (u_1.1 8) (u_1.1 9) (u_1.1 10) (u_1.1 11) (u_1.1 12) (u_1.1 13) (u_1.1 14) (u_1.1 15) (u_1.1 16) (u_1.1 17) (u_1.1 18) (upd (fun _ => 0) (Int32.toNatClampNeg 1) 1) g_12145 (q_un (by decide +kernel) rfl) sz) wm_8_23 wm_8_26 wm_1_12 hd_X12_reserve wm_8_24 wm_8_25 (ci := 12) (q0 := 0) rfl rfl ⟨Nat.le_of_ble_eq_true rfl, Nat.le_of_ble_eq_true rfl⟩ hl.1 rfl (Nat.le_of_ble_eq_true rfl) dL_law_1224 ⟨Nat.le_of_ble_eq_true rfl, Nat.le_of_ble_eq_true rfl⟩ [0, 1] [] rfl rfl (by decide) rfl rfl (fun r_12146 u_12146 Hp4 lc4 w_12146 hw4 => ?_)
  clear Hp3 lc3 hw3
  obtain rfl : r_12146 = (-3) := w_12146
  clear w_12146
  replace hw4 : qW D _ _ [] _ _ := hw4
  refine lv_icmp_eq (tgt := 1461) hx hb dL_law_1227 (by decide) (fun _ => ?_) (fun c => absurd c (by decide +kernel))
  exact law_tail l X hr hlk hX hbl hw4.2.2 hl (Nat.le_of_ble_eq_true rfl) (Nat.le_of_ble_eq_true rfl)
