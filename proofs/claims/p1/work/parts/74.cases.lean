set_option maxHeartbeats 4000000 in
set_option maxRecDepth 100000 in
theorem lc_count (l : Launch) {p : Program} {e : Env} {s : State} {m : MethodId} {below : List Frame} {meth : Method} {c : Code} {b : Nat} {xs : Nat → Int32} {D : va_G} {cy : Nat → ClassId} {H : Heap} {locs : List Loc} {ls : Array Slot} {x0 y0 : Nat} {u_0 u_1 : SS} (X : qX p s m #[Value.ref b] c cL_law 4 RL) (hr : meth.sig.returnType = ret) (hlk : meth.locks = false) (hX : va_X b 6 xs s s.heap) (hbl : b < s.heap.size) (hK : qK D cy s) (a1 a2 a3 a4 a5 : Int32) (e1 : xs (Int32.toNatClampNeg 1) = a1) (e2 : xs (Int32.toNatClampNeg 2) = a2) (e3 : xs (Int32.toNatClampNeg 3) = a3) (e4 : xs (Int32.toNatClampNeg 4) = a4) (e5 : xs (Int32.toNatClampNeg 5) = a5) (h : qW D (fun q => s.heap.size ≤ q) s.heap (wLaw cy x0 y0 u_0 u_1) H locs) (hl : lv_has ls 4 [(3, .int 0), (2, .ref y0), (1, .ref x0), (0, .ref b)]) : W p l e room_1 s m #[Value.ref b] below meth c H locs 99 25544 (lw_Z below #[Value.ref b] s) (F0 m 1438 ls []) := by
  obtain ⟨hx, hb, hml, hown, ht⟩ := id X
  have hA : ∀ q : Nat, s.heap.size ≤ q → (fun q : Nat => s.heap.size ≤ q) q := fun _ h => h
  have hbA : ¬ (fun q : Nat => s.heap.size ≤ q) b := Nat.not_le.mpr hbl
  by_cases c_12942 : a1 ≤ (-1)
  · skip
    refine lv_aload_n hx hb dL_law_1438 rfl (lv_at hl 2 rfl) ?_
    refine lv_aload_n hx hb dL_law_1439 rfl (lv_at hl 3 rfl) ?_
    refine lv_iload_n hx hb dL_law_1440 rfl (lv_at hl 0 rfl) ?_
    refine lv_iconst (v := 1) hx hb dL_law_1441 (by decide) ?_
    refine lv_iadd hx hb dL_law_1442 ?_
    refine q_c 1 (by decide +kernel) ?_
    refine va_sld X.1 X.2.1 hX hbl hbA h.2.2 (q_in (by decide +kernel)) dL_law_1443 ?_
    refine q_c a1 e1 ?_
    have g_12950 : a1 ≤ ((-1) : Int32) := by
      simp only [Int32.lt_iff_toInt_lt, Int32.le_iff_toInt_le, ← Int32.toInt_inj] at c_12942 ⊢
      have k_0 : ((-1) : Int32).toInt = -1 := by decide
      omega
    refine q_callVi (rest := []) (wr := [(y0, .inr (12, [.int 0, .ref (u_1.1 19), .ref (u_1.1 0), .ref (u_1.1 1), .ref (u_1.1 2), .int 0, .int 0, .int 0, .int 0, .int 0, .int 0, .int 0, .int 0, .int 0, .int (-1), .int 0, .ref (u_1.1 3), .ref (u_1.1 4), .ref (u_1.1 5), .ref (u_1.1 6), .ref (u_1.1 7), .int 0, .int 0, .ref (u_1.1 8), .ref (u_1.1 9), .ref (u_1.1 10), .int 0, .int 0, .ref (u_1.1 11), .ref (u_1.1 12), .ref (u_1.1 13), .ref (u_1.1 14), .ref (u_1.1 15), .int 0, .ref (u_1.1 16), .ref (u_1.1 17), .ref (u_1.1 18)]))]) X hK hA h (fun sz => kX11_count_519 l D cy x0 a1 (u_0.1 0) (u_0.1 1) (u_0.1 37) (u_0.1 39) (u_0.1 41) (u_0.1 43) (u_0.1 14) (u_0.1 15) (u_0.1 16) (u_0.1 17) (u_0.1 20) (u_0.1 24) (u_0.1 29) g_12950 sz) wm_5_153 wm_5_156 wm_1_1 hd_X11_count wm_5_154 wm_5_155 (ci := 11) (q0 := 0) rfl rfl ⟨Nat.le_of_ble_eq_true rfl, Nat.le_of_ble_eq_true rfl⟩ hl.1 rfl (Nat.le_of_ble_eq_true rfl) dL_law_1444 ⟨Nat.le_of_ble_eq_true rfl, Nat.le_of_ble_eq_true rfl⟩ [0] [78] rfl rfl (by decide) rfl rfl (fun r_12951 u_12951 Hp1 lc1 w_12951 hw1 => ?_)
    clear h
    obtain rfl : r_12951 = (-1) := w_12951
    replace hw1 : qW D _ _ [(y0, .inr (12, [.int 0, .ref (u_1.1 19), .ref (u_1.1 0), .ref (u_1.1 1), .ref (u_1.1 2), .int 0, .int 0, .int 0, .int 0, .int 0, .int 0, .int 0, .int 0, .int 0, .int (-1), .int 0, .ref (u_1.1 3), .ref (u_1.1 4), .ref (u_1.1 5), .ref (u_1.1 6), .ref (u_1.1 7), .int 0, .int 0, .ref (u_1.1 8), .ref (u_1.1 9), .ref (u_1.1 10), .int 0, .int 0, .ref (u_1.1 11), .ref (u_1.1 12), .ref (u_1.1 13), .ref (u_1.1 14), .ref (u_1.1 15), .int 0, .ref (u_1.1 16), .ref (u_1.1 17), .ref (u_1.1 18)]))] _ _ := hw1
    refine lv_aload_n hx hb dL_law_1447 rfl (lv_at hl 1 rfl) ?_
    refine lv_aload_n hx hb dL_law_1448 rfl (lv_at hl 3 rfl) ?_
    refine lv_iload_n hx hb dL_law_1449 rfl (lv_at hl 0 rfl) ?_
    refine lv_iconst (v := 1) hx hb dL_law_1450 (by decide) ?_
    refine lv_iadd hx hb dL_law_1451 ?_
    refine q_c 1 (by decide +kernel) ?_
    refine va_sld X.1 X.2.1 hX hbl hbA hw1.2.2 (q_in (by decide +kernel)) dL_law_1452 ?_
    refine q_c a1 e1 ?_
    have g_12953 : a1 ≤ ((-1) : Int32) := by
      simp only [Int32.lt_iff_toInt_lt, Int32.le_iff_toInt_le, ← Int32.toInt_inj] at c_12942 ⊢
      have k_0 : ((-1) : Int32).toInt = -1 := by decide
      omega
    refine q_callVi (rest := [.int (-1)]) (wr := []) X hK hA hw1 (fun sz => kX12_count_520 l D cy y0 a1 (u_1.1 19) (u_1.1 0) (u_1.1 1) (u_1.1 2) (u_1.1 3) (u_1.1 4) (u_1.1 5) (u_1.1 6) (u_1.1 7) (u_1.1 8) (u_1.1 9) (u_1.1 10) (u_1.1 11) (u_1.1 12) (u_1.1 13) (u_1.1 14) (u_1.1 15) (u_1.1 16) (u_1.1 17) (u_1.1 18) g_12953 sz) wm_8_51 wm_8_54 wm_1_12 hd_X12_count wm_8_52 wm_8_53 (ci := 12) (q0 := 0) rfl rfl ⟨Nat.le_of_ble_eq_true rfl, Nat.le_of_ble_eq_true rfl⟩ hl.1 rfl (Nat.le_of_ble_eq_true rfl) dL_law_1453 ⟨Nat.le_of_ble_eq_true rfl, Nat.le_of_ble_eq_true rfl⟩ [0] [] rfl rfl (by decide) rfl rfl (fun r_12954 u_12954 Hp2 lc2 w_12954 hw2 => ?_)
    clear Hp1 lc1 hw1
    obtain rfl : r_12954 = (-1) := w_12954
    replace hw2 : qW D _ _ [] _ _ := hw2
    refine lv_icmp_eq (tgt := 1461) hx hb dL_law_1456 (by decide) (fun _ => ?_) (fun c => absurd c (by decide +kernel))
    exact law_tail l X hr hlk hX hbl hw2.2.2 hl (Nat.le_of_ble_eq_true rfl) (Nat.le_of_ble_eq_true rfl)
  by_cases c_12955 : a1 = 0
  · subst c_12955
    refine lv_aload_n hx hb dL_law_1438 rfl (lv_at hl 2 rfl) ?_
    refine lv_aload_n hx hb dL_law_1439 rfl (lv_at hl 3 rfl) ?_
    refine lv_iload_n hx hb dL_law_1440 rfl (lv_at hl 0 rfl) ?_
    refine lv_iconst (v := 1) hx hb dL_law_1441 (by decide) ?_
    refine lv_iadd hx hb dL_law_1442 ?_
    refine q_c 1 (by decide +kernel) ?_
    refine va_sld X.1 X.2.1 hX hbl hbA h.2.2 (q_in (by decide +kernel)) dL_law_1443 ?_
    refine q_c 0 e1 ?_
    refine q_callVi (rest := []) (wr := [(y0, .inr (12, [.int 0, .ref (u_1.1 19), .ref (u_1.1 0), .ref (u_1.1 1), .ref (u_1.1 2), .int 0, .int 0, .int 0, .int 0, .int 0, .int 0, .int 0, .int 0, .int 0, .int (-1), .int 0, .ref (u_1.1 3), .ref (u_1.1 4), .ref (u_1.1 5), .ref (u_1.1 6), .ref (u_1.1 7), .int 0, .int 0, .ref (u_1.1 8), .ref (u_1.1 9), .ref (u_1.1 10), .int 0, .int 0, .ref (u_1.1 11), .ref (u_1.1 12), .ref (u_1.1 13), .ref (u_1.1 14), .ref (u_1.1 15), .int 0, .ref (u_1.1 16), .ref (u_1.1 17), .ref (u_1.1 18)])), ((u_1.1 19), .inl (cy 1, 3918, .inl (upd (fun _ => 0) (Int32.toNatClampNeg 1) 1)))]) X hK hA h (fun sz => kX11_count_521 l D cy x0 (u_0.1 31) (u_0.1 37) (u_0.1 0) (u_0.1 1) (u_0.1 39) (u_0.1 41) (u_0.1 43) (u_0.1 14) (u_0.1 15) (u_0.1 16) (u_0.1 17) (u_0.1 20) (u_0.1 24) (u_0.1 29) (u_0.1 32) (u_0.1 33) (u_0.1 34) (u_0.1 35) (u_0.1 36) (u_0.1 38)  sz) wm_5_153 wm_5_156 wm_1_1 hd_X11_count wm_5_154 wm_5_155 (ci := 11) (q0 := 0) rfl rfl ⟨Nat.le_of_ble_eq_true rfl, Nat.le_of_ble_eq_true rfl⟩ hl.1 rfl (Nat.le_of_ble_eq_true rfl) dL_law_1444 ⟨Nat.le_of_ble_eq_true rfl, Nat.le_of_ble_eq_true rfl⟩ [0, 32, 38] [78, 98] rfl rfl (by decide) rfl rfl (fun r_12956 u_12956 Hp3 lc3 w_12956 hw3 => ?_)
    clear h
    obtain rfl : r_12956 = 1 := w_12956
    replace hw3 : qW D _ _ [(y0, .inr (12, [.int 0, .ref (u_1.1 19), .ref (u_1.1 0), .ref (u_1.1 1), .ref (u_1.1 2), .int 0, .int 0, .int 0, .int 0, .int 0, .int 0, .int 0, .int 0, .int 0, .int (-1), .int 0, .ref (u_1.1 3), .ref (u_1.1 4), .ref (u_1.1 5), .ref (u_1.1 6), .ref (u_1.1 7), .int 0, .int 0, .ref (u_1.1 8), .ref (u_1.1 9), .ref (u_1.1 10), .int 0, .int 0, .ref (u_1.1 11), .ref (u_1.1 12), .ref (u_1.1 13), .ref (u_1.1 14), .ref (u_1.1 15), .int 0, .ref (u_1.1 16), .ref (u_1.1 17), .ref (u_1.1 18)])), ((u_1.1 19), .inl (cy 1, 3918, .inl (upd (fun _ => 0) (Int32.toNatClampNeg 1) 1)))] _ _ := hw3
    refine lv_aload_n hx hb dL_law_1447 rfl (lv_at hl 1 rfl) ?_
    refine lv_aload_n hx hb dL_law_1448 rfl (lv_at hl 3 rfl) ?_
    refine lv_iload_n hx hb dL_law_1449 rfl (lv_at hl 0 rfl) ?_
    refine lv_iconst (v := 1) hx hb dL_law_1450 (by decide) ?_
    refine lv_iadd hx hb dL_law_1451 ?_
    refine q_c 1 (by decide +kernel) ?_
    refine va_sld X.1 X.2.1 hX hbl hbA hw3.2.2 (q_in (by decide +kernel)) dL_law_1452 ?_
    refine q_c 0 e1 ?_
    refine q_callVi (rest := [.int 1]) (wr := []) X hK hA hw3 (fun sz => kX12_count_522 l D cy y0 (u_1.1 19) (u_1.1 0) (u_1.1 1) (u_1.1 2) (u_1.1 3) (u_1.1 4) (u_1.1 5) (u_1.1 6) (u_1.1 7) (u_1.1 8) (u_1.1 9) (u_1.1 10) (u_1.1 11) (u_1.1 12) (u_1.1 13) (u_1.1 14) (u_1.1 15) (u_1.1 16) (u_1.1 17) (u_1.1 18) (upd (fun _ => 0) (Int32.toNatClampNeg 1) 1) q_ue sz) wm_8_51 wm_8_54 wm_1_12 hd_X12_count wm_8_52 wm_8_53 (ci := 12) (q0 := 0) rfl rfl ⟨Nat.le_of_ble_eq_true rfl, Nat.le_of_ble_eq_true rfl⟩ hl.1 rfl (Nat.le_of_ble_eq_true rfl) dL_law_1453 ⟨Nat.le_of_ble_eq_true rfl, Nat.le_of_ble_eq_true rfl⟩ [0, 1] [] rfl rfl (by decide) rfl rfl (fun r_12957 u_12957 Hp4 lc4 w_12957 hw4 => ?_)
    clear Hp3 lc3 hw3
    obtain rfl : r_12957 = 1 := w_12957
    replace hw4 : qW D _ _ [] _ _ := hw4
    refine lv_icmp_eq (tgt := 1461) hx hb dL_law_1456 (by decide) (fun _ => ?_) (fun c => absurd c (by decide +kernel))
    exact law_tail l X hr hlk hX hbl hw4.2.2 hl (Nat.le_of_ble_eq_true rfl) (Nat.le_of_ble_eq_true rfl)
  by_cases c_12958 : a1 = 1
  · subst c_12958
    refine lv_aload_n hx hb dL_law_1438 rfl (lv_at hl 2 rfl) ?_
    refine lv_aload_n hx hb dL_law_1439 rfl (lv_at hl 3 rfl) ?_
    refine lv_iload_n hx hb dL_law_1440 rfl (lv_at hl 0 rfl) ?_
    refine lv_iconst (v := 1) hx hb dL_law_1441 (by decide) ?_
    refine lv_iadd hx hb dL_law_1442 ?_
    refine q_c 1 (by decide +kernel) ?_
    refine va_sld X.1 X.2.1 hX hbl hbA h.2.2 (q_in (by decide +kernel)) dL_law_1443 ?_
    refine q_c 1 e1 ?_
    refine q_callVi (rest := []) (wr := [(y0, .inr (12, [.int 0, .ref (u_1.1 19), .ref (u_1.1 0), .ref (u_1.1 1), .ref (u_1.1 2), .int 0, .int 0, .int 0, .int 0, .int 0, .int 0, .int 0, .int 0, .int 0, .int (-1), .int 0, .ref (u_1.1 3), .ref (u_1.1 4), .ref (u_1.1 5), .ref (u_1.1 6), .ref (u_1.1 7), .int 0, .int 0, .ref (u_1.1 8), .ref (u_1.1 9), .ref (u_1.1 10), .int 0, .int 0, .ref (u_1.1 11), .ref (u_1.1 12), .ref (u_1.1 13), .ref (u_1.1 14), .ref (u_1.1 15), .int 0, .ref (u_1.1 16), .ref (u_1.1 17), .ref (u_1.1 18)])), ((u_1.1 19), .inl (cy 1, 3918, .inl (upd (fun _ => 0) (Int32.toNatClampNeg 1) 1)))]) X hK hA h (fun sz => kX11_count_523 l D cy x0 (u_0.1 31) (u_0.1 37) (u_0.1 0) (u_0.1 1) (u_0.1 39) (u_0.1 41) (u_0.1 43) (u_0.1 14) (u_0.1 15) (u_0.1 16) (u_0.1 17) (u_0.1 20) (u_0.1 24) (u_0.1 29) (u_0.1 32) (u_0.1 33) (u_0.1 34) (u_0.1 35) (u_0.1 36) (u_0.1 38)  sz) wm_5_153 wm_5_156 wm_1_1 hd_X11_count wm_5_154 wm_5_155 (ci := 11) (q0 := 0) rfl rfl ⟨Nat.le_of_ble_eq_true rfl, Nat.le_of_ble_eq_true rfl⟩ hl.1 rfl (Nat.le_of_ble_eq_true rfl) dL_law_1444 ⟨Nat.le_of_ble_eq_true rfl, Nat.le_of_ble_eq_true rfl⟩ [0, 32, 38] [78, 98] rfl rfl (by decide) rfl rfl (fun r_12959 u_12959 Hp5 lc5 w_12959 hw5 => ?_)
    clear h
    obtain rfl : r_12959 = 0 := w_12959
    replace hw5 : qW D _ _ [(y0, .inr (12, [.int 0, .ref (u_1.1 19), .ref (u_1.1 0), .ref (u_1.1 1), .ref (u_1.1 2), .int 0, .int 0, .int 0, .int 0, .int 0, .int 0, .int 0, .int 0, .int 0, .int (-1), .int 0, .ref (u_1.1 3), .ref (u_1.1 4), .ref (u_1.1 5), .ref (u_1.1 6), .ref (u_1.1 7), .int 0, .int 0, .ref (u_1.1 8), .ref (u_1.1 9), .ref (u_1.1 10), .int 0, .int 0, .ref (u_1.1 11), .ref (u_1.1 12), .ref (u_1.1 13), .ref (u_1.1 14), .ref (u_1.1 15), .int 0, .ref (u_1.1 16), .ref (u_1.1 17), .ref (u_1.1 18)])), ((u_1.1 19), .inl (cy 1, 3918, .inl (upd (fun _ => 0) (Int32.toNatClampNeg 1) 1)))] _ _ := hw5
    refine lv_aload_n hx hb dL_law_1447 rfl (lv_at hl 1 rfl) ?_
    refine lv_aload_n hx hb dL_law_1448 rfl (lv_at hl 3 rfl) ?_
    refine lv_iload_n hx hb dL_law_1449 rfl (lv_at hl 0 rfl) ?_
    refine lv_iconst (v := 1) hx hb dL_law_1450 (by decide) ?_
    refine lv_iadd hx hb dL_law_1451 ?_
    refine q_c 1 (by decide +kernel) ?_
    refine va_sld X.1 X.2.1 hX hbl hbA hw5.2.2 (q_in (by decide +kernel)) dL_law_1452 ?_
    refine q_c 1 e1 ?_
    refine q_callVi (rest := [.int 0]) (wr := []) X hK hA hw5 (fun sz => kX12_count_524 l D cy y0 (u_1.1 19) (u_1.1 0) (u_1.1 1) (u_1.1 2) (u_1.1 3) (u_1.1 4) (u_1.1 5) (u_1.1 6) (u_1.1 7) (u_1.1 8) (u_1.1 9) (u_1.1 10) (u_1.1 11) (u_1.1 12) (u_1.1 13) (u_1.1 14) (u_1.1 15) (u_1.1 16) (u_1.1 17) (u_1.1 18) (upd (fun _ => 0) (Int32.toNatClampNeg 1) 1) (q_un (by decide +kernel) rfl) sz) wm_8_51 wm_8_54 wm_1_12 hd_X12_count wm_8_52 wm_8_53 (ci := 12) (q0 := 0) rfl rfl ⟨Nat.le_of_ble_eq_true rfl, Nat.le_of_ble_eq_true rfl⟩ hl.1 rfl (Nat.le_of_ble_eq_true rfl) dL_law_1453 ⟨Nat.le_of_ble_eq_true rfl, Nat.le_of_ble_eq_true rfl⟩ [0, 1] [] rfl rfl (by decide) rfl rfl (fun r_12960 u_12960 Hp6 lc6 w_12960 hw6 => ?_)
    clear Hp5 lc5 hw5
    obtain rfl : r_12960 = 0 := w_12960
    replace hw6 : qW D _ _ [] _ _ := hw6
    refine lv_icmp_eq (tgt := 1461) hx hb dL_law_1456 (by decide) (fun _ => ?_) (fun c => absurd c (by decide +kernel))
    exact law_tail l X hr hlk hX hbl hw6.2.2 hl (Nat.le_of_ble_eq_true rfl) (Nat.le_of_ble_eq_true rfl)
  by_cases c_12961 : a1 = 2
  · subst c_12961
    refine lv_aload_n hx hb dL_law_1438 rfl (lv_at hl 2 rfl) ?_
    refine lv_aload_n hx hb dL_law_1439 rfl (lv_at hl 3 rfl) ?_
    refine lv_iload_n hx hb dL_law_1440 rfl (lv_at hl 0 rfl) ?_
    refine lv_iconst (v := 1) hx hb dL_law_1441 (by decide) ?_
    refine lv_iadd hx hb dL_law_1442 ?_
    refine q_c 1 (by decide +kernel) ?_
    refine va_sld X.1 X.2.1 hX hbl hbA h.2.2 (q_in (by decide +kernel)) dL_law_1443 ?_
    refine q_c 2 e1 ?_
    refine q_callVi (rest := []) (wr := [(y0, .inr (12, [.int 0, .ref (u_1.1 19), .ref (u_1.1 0), .ref (u_1.1 1), .ref (u_1.1 2), .int 0, .int 0, .int 0, .int 0, .int 0, .int 0, .int 0, .int 0, .int 0, .int (-1), .int 0, .ref (u_1.1 3), .ref (u_1.1 4), .ref (u_1.1 5), .ref (u_1.1 6), .ref (u_1.1 7), .int 0, .int 0, .ref (u_1.1 8), .ref (u_1.1 9), .ref (u_1.1 10), .int 0, .int 0, .ref (u_1.1 11), .ref (u_1.1 12), .ref (u_1.1 13), .ref (u_1.1 14), .ref (u_1.1 15), .int 0, .ref (u_1.1 16), .ref (u_1.1 17), .ref (u_1.1 18)])), ((u_1.1 19), .inl (cy 1, 3918, .inl (upd (fun _ => 0) (Int32.toNatClampNeg 1) 1)))]) X hK hA h (fun sz => kX11_count_525 l D cy x0 (u_0.1 31) (u_0.1 37) (u_0.1 0) (u_0.1 1) (u_0.1 39) (u_0.1 41) (u_0.1 43) (u_0.1 14) (u_0.1 15) (u_0.1 16) (u_0.1 17) (u_0.1 20) (u_0.1 24) (u_0.1 29) (u_0.1 32) (u_0.1 33) (u_0.1 34) (u_0.1 35) (u_0.1 36) (u_0.1 38)  sz) wm_5_153 wm_5_156 wm_1_1 hd_X11_count wm_5_154 wm_5_155 (ci := 11) (q0 := 0) rfl rfl ⟨Nat.le_of_ble_eq_true rfl, Nat.le_of_ble_eq_true rfl⟩ hl.1 rfl (Nat.le_of_ble_eq_true rfl) dL_law_1444 ⟨Nat.le_of_ble_eq_true rfl, Nat.le_of_ble_eq_true rfl⟩ [0, 32, 38] [78, 98] rfl rfl (by decide) rfl rfl (fun r_12976 u_12976 Hp7 lc7 w_12976 hw7 => ?_)
    clear h
    obtain rfl : r_12976 = 0 := w_12976
    replace hw7 : qW D _ _ [(y0, .inr (12, [.int 0, .ref (u_1.1 19), .ref (u_1.1 0), .ref (u_1.1 1), .ref (u_1.1 2), .int 0, .int 0, .int 0, .int 0, .int 0, .int 0, .int 0, .int 0, .int 0, .int (-1), .int 0, .ref (u_1.1 3), .ref (u_1.1 4), .ref (u_1.1 5), .ref (u_1.1 6), .ref (u_1.1 7), .int 0, .int 0, .ref (u_1.1 8), .ref (u_1.1 9), .ref (u_1.1 10), .int 0, .int 0, .ref (u_1.1 11), .ref (u_1.1 12), .ref (u_1.1 13), .ref (u_1.1 14), .ref (u_1.1 15), .int 0, .ref (u_1.1 16), .ref (u_1.1 17), .ref (u_1.1 18)])), ((u_1.1 19), .inl (cy 1, 3918, .inl (upd (fun _ => 0) (Int32.toNatClampNeg 1) 1)))] _ _ := hw7
    refine lv_aload_n hx hb dL_law_1447 rfl (lv_at hl 1 rfl) ?_
    refine lv_aload_n hx hb dL_law_1448 rfl (lv_at hl 3 rfl) ?_
    refine lv_iload_n hx hb dL_law_1449 rfl (lv_at hl 0 rfl) ?_
    refine lv_iconst (v := 1) hx hb dL_law_1450 (by decide) ?_
    refine lv_iadd hx hb dL_law_1451 ?_
    refine q_c 1 (by decide +kernel) ?_
    refine va_sld X.1 X.2.1 hX hbl hbA hw7.2.2 (q_in (by decide +kernel)) dL_law_1452 ?_
    refine q_c 2 e1 ?_
    refine q_callVi (rest := [.int 0]) (wr := []) X hK hA hw7 (fun sz => kX12_count_526 l D cy y0 (u_1.1 19) (u_1.1 0) (u_1.1 1) (u_1.1 2) (u_1.1 3) (u_1.1 4) (u_1.1 5) (u_1.1 6) (u_1.1 7) (u_1.1 8) (u_1.1 9) (u_1.1 10) (u_1.1 11) (u_1.1 12) (u_1.1 13) (u_1.1 14) (u_1.1 15) (u_1.1 16) (u_1.1 17) (u_1.1 18) (upd (fun _ => 0) (Int32.toNatClampNeg 1) 1) (q_un (by decide +kernel) rfl) (q_un (by decide +kernel) rfl) (q_un (by decide +kernel) rfl) sz) wm_8_51 wm_8_54 wm_1_12 hd_X12_count wm_8_52 wm_8_53 (ci := 12) (q0 := 0) rfl rfl ⟨Nat.le_of_ble_eq_true rfl, Nat.le_of_ble_eq_true rfl⟩ hl.1 rfl (Nat.le_of_ble_eq_true rfl) dL_law_1453 ⟨Nat.le_of_ble_eq_true rfl, Nat.le_of_ble_eq_true rfl⟩ [0, 1] [] rfl rfl (by decide) rfl rfl (fun r_12979 u_12979 Hp8 lc8 w_12979 hw8 => ?_)
    clear Hp7 lc7 hw7
    obtain rfl : r_12979 = 0 := w_12979
    replace hw8 : qW D _ _ [] _ _ := hw8
    refine lv_icmp_eq (tgt := 1461) hx hb dL_law_1456 (by decide) (fun _ => ?_) (fun c => absurd c (by decide +kernel))
    exact law_tail l X hr hlk hX hbl hw8.2.2 hl (Nat.le_of_ble_eq_true rfl) (Nat.le_of_ble_eq_true rfl)
  by_cases c_12980 : a1 = 3
  · subst c_12980
    refine lv_aload_n hx hb dL_law_1438 rfl (lv_at hl 2 rfl) ?_
    refine lv_aload_n hx hb dL_law_1439 rfl (lv_at hl 3 rfl) ?_
    refine lv_iload_n hx hb dL_law_1440 rfl (lv_at hl 0 rfl) ?_
    refine lv_iconst (v := 1) hx hb dL_law_1441 (by decide) ?_
    refine lv_iadd hx hb dL_law_1442 ?_
    refine q_c 1 (by decide +kernel) ?_
    refine va_sld X.1 X.2.1 hX hbl hbA h.2.2 (q_in (by decide +kernel)) dL_law_1443 ?_
    refine q_c 3 e1 ?_
    refine q_callVi (rest := []) (wr := [(y0, .inr (12, [.int 0, .ref (u_1.1 19), .ref (u_1.1 0), .ref (u_1.1 1), .ref (u_1.1 2), .int 0, .int 0, .int 0, .int 0, .int 0, .int 0, .int 0, .int 0, .int 0, .int (-1), .int 0, .ref (u_1.1 3), .ref (u_1.1 4), .ref (u_1.1 5), .ref (u_1.1 6), .ref (u_1.1 7), .int 0, .int 0, .ref (u_1.1 8), .ref (u_1.1 9), .ref (u_1.1 10), .int 0, .int 0, .ref (u_1.1 11), .ref (u_1.1 12), .ref (u_1.1 13), .ref (u_1.1 14), .ref (u_1.1 15), .int 0, .ref (u_1.1 16), .ref (u_1.1 17), .ref (u_1.1 18)])), ((u_1.1 19), .inl (cy 1, 3918, .inl (upd (fun _ => 0) (Int32.toNatClampNeg 1) 1)))]) X hK hA h (fun sz => kX11_count_527 l D cy x0 (u_0.1 37) (u_0.1 0) (u_0.1 1) (u_0.1 39) (u_0.1 41) (u_0.1 43) (u_0.1 14) (u_0.1 15) (u_0.1 16) (u_0.1 17) (u_0.1 20) (u_0.1 24) (u_0.1 29) (u_0.1 31) (u_0.1 38)  sz) wm_5_153 wm_5_156 wm_1_1 hd_X11_count wm_5_154 wm_5_155 (ci := 11) (q0 := 0) rfl rfl ⟨Nat.le_of_ble_eq_true rfl, Nat.le_of_ble_eq_true rfl⟩ hl.1 rfl (Nat.le_of_ble_eq_true rfl) dL_law_1444 ⟨Nat.le_of_ble_eq_true rfl, Nat.le_of_ble_eq_true rfl⟩ [0, 38] [78, 98] rfl rfl (by decide) rfl rfl (fun r_12981 u_12981 Hp9 lc9 w_12981 hw9 => ?_)
    clear h
    obtain rfl : r_12981 = 0 := w_12981
    replace hw9 : qW D _ _ [(y0, .inr (12, [.int 0, .ref (u_1.1 19), .ref (u_1.1 0), .ref (u_1.1 1), .ref (u_1.1 2), .int 0, .int 0, .int 0, .int 0, .int 0, .int 0, .int 0, .int 0, .int 0, .int (-1), .int 0, .ref (u_1.1 3), .ref (u_1.1 4), .ref (u_1.1 5), .ref (u_1.1 6), .ref (u_1.1 7), .int 0, .int 0, .ref (u_1.1 8), .ref (u_1.1 9), .ref (u_1.1 10), .int 0, .int 0, .ref (u_1.1 11), .ref (u_1.1 12), .ref (u_1.1 13), .ref (u_1.1 14), .ref (u_1.1 15), .int 0, .ref (u_1.1 16), .ref (u_1.1 17), .ref (u_1.1 18)])), ((u_1.1 19), .inl (cy 1, 3918, .inl (upd (fun _ => 0) (Int32.toNatClampNeg 1) 1)))] _ _ := hw9
    refine lv_aload_n hx hb dL_law_1447 rfl (lv_at hl 1 rfl) ?_
    refine lv_aload_n hx hb dL_law_1448 rfl (lv_at hl 3 rfl) ?_
    refine lv_iload_n hx hb dL_law_1449 rfl (lv_at hl 0 rfl) ?_
    refine lv_iconst (v := 1) hx hb dL_law_1450 (by decide) ?_
    refine lv_iadd hx hb dL_law_1451 ?_
    refine q_c 1 (by decide +kernel) ?_
    refine va_sld X.1 X.2.1 hX hbl hbA hw9.2.2 (q_in (by decide +kernel)) dL_law_1452 ?_
    refine q_c 3 e1 ?_
    refine q_callVi (rest := [.int 0]) (wr := []) X hK hA hw9 (fun sz => kX12_count_528 l D cy y0 (u_1.1 19) (u_1.1 0) (u_1.1 1) (u_1.1 2) (u_1.1 3) (u_1.1 4) (u_1.1 5) (u_1.1 6) (u_1.1 7) (u_1.1 8) (u_1.1 9) (u_1.1 10) (u_1.1 11) (u_1.1 12) (u_1.1 13) (u_1.1 14) (u_1.1 15) (u_1.1 16) (u_1.1 17) (u_1.1 18) (upd (fun _ => 0) (Int32.toNatClampNeg 1) 1) (q_un (by decide +kernel) rfl) sz) wm_8_51 wm_8_54 wm_1_12 hd_X12_count wm_8_52 wm_8_53 (ci := 12) (q0 := 0) rfl rfl ⟨Nat.le_of_ble_eq_true rfl, Nat.le_of_ble_eq_true rfl⟩ hl.1 rfl (Nat.le_of_ble_eq_true rfl) dL_law_1453 ⟨Nat.le_of_ble_eq_true rfl, Nat.le_of_ble_eq_true rfl⟩ [0, 1] [] rfl rfl (by decide) rfl rfl (fun r_12982 u_12982 Hp10 lc10 w_12982 hw10 => ?_)
    clear Hp9 lc9 hw9
    obtain rfl : r_12982 = 0 := w_12982
    replace hw10 : qW D _ _ [] _ _ := hw10
    refine lv_icmp_eq (tgt := 1461) hx hb dL_law_1456 (by decide) (fun _ => ?_) (fun c => absurd c (by decide +kernel))
    exact law_tail l X hr hlk hX hbl hw10.2.2 hl (Nat.le_of_ble_eq_true rfl) (Nat.le_of_ble_eq_true rfl)
  by_cases c_12983 : a1 = 4
  · subst c_12983
    refine lv_aload_n hx hb dL_law_1438 rfl (lv_at hl 2 rfl) ?_
    refine lv_aload_n hx hb dL_law_1439 rfl (lv_at hl 3 rfl) ?_
    refine lv_iload_n hx hb dL_law_1440 rfl (lv_at hl 0 rfl) ?_
    refine lv_iconst (v := 1) hx hb dL_law_1441 (by decide) ?_
    refine lv_iadd hx hb dL_law_1442 ?_
    refine q_c 1 (by decide +kernel) ?_
    refine va_sld X.1 X.2.1 hX hbl hbA h.2.2 (q_in (by decide +kernel)) dL_law_1443 ?_
    refine q_c 4 e1 ?_
    refine q_callVi (rest := []) (wr := [(y0, .inr (12, [.int 0, .ref (u_1.1 19), .ref (u_1.1 0), .ref (u_1.1 1), .ref (u_1.1 2), .int 0, .int 0, .int 0, .int 0, .int 0, .int 0, .int 0, .int 0, .int 0, .int (-1), .int 0, .ref (u_1.1 3), .ref (u_1.1 4), .ref (u_1.1 5), .ref (u_1.1 6), .ref (u_1.1 7), .int 0, .int 0, .ref (u_1.1 8), .ref (u_1.1 9), .ref (u_1.1 10), .int 0, .int 0, .ref (u_1.1 11), .ref (u_1.1 12), .ref (u_1.1 13), .ref (u_1.1 14), .ref (u_1.1 15), .int 0, .ref (u_1.1 16), .ref (u_1.1 17), .ref (u_1.1 18)])), ((u_1.1 19), .inl (cy 1, 3918, .inl (upd (fun _ => 0) (Int32.toNatClampNeg 1) 1)))]) X hK hA h (fun sz => kX11_count_529 l D cy x0 (u_0.1 37) (u_0.1 0) (u_0.1 1) (u_0.1 39) (u_0.1 41) (u_0.1 43) (u_0.1 14) (u_0.1 15) (u_0.1 16) (u_0.1 17) (u_0.1 20) (u_0.1 24) (u_0.1 29) (u_0.1 31) (u_0.1 38)  sz) wm_5_153 wm_5_156 wm_1_1 hd_X11_count wm_5_154 wm_5_155 (ci := 11) (q0 := 0) rfl rfl ⟨Nat.le_of_ble_eq_true rfl, Nat.le_of_ble_eq_true rfl⟩ hl.1 rfl (Nat.le_of_ble_eq_true rfl) dL_law_1444 ⟨Nat.le_of_ble_eq_true rfl, Nat.le_of_ble_eq_true rfl⟩ [0, 38] [78, 98] rfl rfl (by decide) rfl rfl (fun r_12984 u_12984 Hp11 lc11 w_12984 hw11 => ?_)
    clear h
    obtain rfl : r_12984 = 0 := w_12984
    replace hw11 : qW D _ _ [(y0, .inr (12, [.int 0, .ref (u_1.1 19), .ref (u_1.1 0), .ref (u_1.1 1), .ref (u_1.1 2), .int 0, .int 0, .int 0, .int 0, .int 0, .int 0, .int 0, .int 0, .int 0, .int (-1), .int 0, .ref (u_1.1 3), .ref (u_1.1 4), .ref (u_1.1 5), .ref (u_1.1 6), .ref (u_1.1 7), .int 0, .int 0, .ref (u_1.1 8), .ref (u_1.1 9), .ref (u_1.1 10), .int 0, .int 0, .ref (u_1.1 11), .ref (u_1.1 12), .ref (u_1.1 13), .ref (u_1.1 14), .ref (u_1.1 15), .int 0, .ref (u_1.1 16), .ref (u_1.1 17), .ref (u_1.1 18)])), ((u_1.1 19), .inl (cy 1, 3918, .inl (upd (fun _ => 0) (Int32.toNatClampNeg 1) 1)))] _ _ := hw11
    refine lv_aload_n hx hb dL_law_1447 rfl (lv_at hl 1 rfl) ?_
    refine lv_aload_n hx hb dL_law_1448 rfl (lv_at hl 3 rfl) ?_
    refine lv_iload_n hx hb dL_law_1449 rfl (lv_at hl 0 rfl) ?_
    refine lv_iconst (v := 1) hx hb dL_law_1450 (by decide) ?_
    refine lv_iadd hx hb dL_law_1451 ?_
    refine q_c 1 (by decide +kernel) ?_
    refine va_sld X.1 X.2.1 hX hbl hbA hw11.2.2 (q_in (by decide +kernel)) dL_law_1452 ?_
    refine q_c 4 e1 ?_
    refine q_callVi (rest := [.int 0]) (wr := []) X hK hA hw11 (fun sz => kX12_count_530 l D cy y0 (u_1.1 19) (u_1.1 0) (u_1.1 1) (u_1.1 2) (u_1.1 3) (u_1.1 4) (u_1.1 5) (u_1.1 6) (u_1.1 7) (u_1.1 8) (u_1.1 9) (u_1.1 10) (u_1.1 11) (u_1.1 12) (u_1.1 13) (u_1.1 14) (u_1.1 15) (u_1.1 16) (u_1.1 17) (u_1.1 18) (upd (fun _ => 0) (Int32.toNatClampNeg 1) 1) (q_un (by decide +kernel) rfl) sz) wm_8_51 wm_8_54 wm_1_12 hd_X12_count wm_8_52 wm_8_53 (ci := 12) (q0 := 0) rfl rfl ⟨Nat.le_of_ble_eq_true rfl, Nat.le_of_ble_eq_true rfl⟩ hl.1 rfl (Nat.le_of_ble_eq_true rfl) dL_law_1453 ⟨Nat.le_of_ble_eq_true rfl, Nat.le_of_ble_eq_true rfl⟩ [0, 1] [] rfl rfl (by decide) rfl rfl (fun r_12985 u_12985 Hp12 lc12 w_12985 hw12 => ?_)
    clear Hp11 lc11 hw11
    obtain rfl : r_12985 = 0 := w_12985
    replace hw12 : qW D _ _ [] _ _ := hw12
    refine lv_icmp_eq (tgt := 1461) hx hb dL_law_1456 (by decide) (fun _ => ?_) (fun c => absurd c (by decide +kernel))
    exact law_tail l X hr hlk hX hbl hw12.2.2 hl (Nat.le_of_ble_eq_true rfl) (Nat.le_of_ble_eq_true rfl)
  by_cases c_12986 : a1 = 5
  · subst c_12986
    refine lv_aload_n hx hb dL_law_1438 rfl (lv_at hl 2 rfl) ?_
    refine lv_aload_n hx hb dL_law_1439 rfl (lv_at hl 3 rfl) ?_
    refine lv_iload_n hx hb dL_law_1440 rfl (lv_at hl 0 rfl) ?_
    refine lv_iconst (v := 1) hx hb dL_law_1441 (by decide) ?_
    refine lv_iadd hx hb dL_law_1442 ?_
    refine q_c 1 (by decide +kernel) ?_
    refine va_sld X.1 X.2.1 hX hbl hbA h.2.2 (q_in (by decide +kernel)) dL_law_1443 ?_
    refine q_c 5 e1 ?_
    refine q_callVi (rest := []) (wr := [(y0, .inr (12, [.int 0, .ref (u_1.1 19), .ref (u_1.1 0), .ref (u_1.1 1), .ref (u_1.1 2), .int 0, .int 0, .int 0, .int 0, .int 0, .int 0, .int 0, .int 0, .int 0, .int (-1), .int 0, .ref (u_1.1 3), .ref (u_1.1 4), .ref (u_1.1 5), .ref (u_1.1 6), .ref (u_1.1 7), .int 0, .int 0, .ref (u_1.1 8), .ref (u_1.1 9), .ref (u_1.1 10), .int 0, .int 0, .ref (u_1.1 11), .ref (u_1.1 12), .ref (u_1.1 13), .ref (u_1.1 14), .ref (u_1.1 15), .int 0, .ref (u_1.1 16), .ref (u_1.1 17), .ref (u_1.1 18)])), ((u_1.1 19), .inl (cy 1, 3918, .inl (upd (fun _ => 0) (Int32.toNatClampNeg 1) 1)))]) X hK hA h (fun sz => kX11_count_531 l D cy x0 (u_0.1 20) (u_0.1 21) (u_0.1 31) (u_0.1 37) (u_0.1 0) (u_0.1 1) (u_0.1 39) (u_0.1 41) (u_0.1 43) (u_0.1 14) (u_0.1 15) (u_0.1 16) (u_0.1 17) (u_0.1 24) (u_0.1 29) (u_0.1 22) (u_0.1 23) (u_0.1 32) (u_0.1 33) (u_0.1 34) (u_0.1 35) (u_0.1 36) (u_0.1 38)  sz) wm_5_153 wm_5_156 wm_1_1 hd_X11_count wm_5_154 wm_5_155 (ci := 11) (q0 := 0) rfl rfl ⟨Nat.le_of_ble_eq_true rfl, Nat.le_of_ble_eq_true rfl⟩ hl.1 rfl (Nat.le_of_ble_eq_true rfl) dL_law_1444 ⟨Nat.le_of_ble_eq_true rfl, Nat.le_of_ble_eq_true rfl⟩ [0, 21, 22, 32, 38] [78, 98] rfl rfl (by decide) rfl rfl (fun r_13013 u_13013 Hp13 lc13 w_13013 hw13 => ?_)
    clear h
    obtain rfl : r_13013 = 0 := w_13013
    replace hw13 : qW D _ _ [(y0, .inr (12, [.int 0, .ref (u_1.1 19), .ref (u_1.1 0), .ref (u_1.1 1), .ref (u_1.1 2), .int 0, .int 0, .int 0, .int 0, .int 0, .int 0, .int 0, .int 0, .int 0, .int (-1), .int 0, .ref (u_1.1 3), .ref (u_1.1 4), .ref (u_1.1 5), .ref (u_1.1 6), .ref (u_1.1 7), .int 0, .int 0, .ref (u_1.1 8), .ref (u_1.1 9), .ref (u_1.1 10), .int 0, .int 0, .ref (u_1.1 11), .ref (u_1.1 12), .ref (u_1.1 13), .ref (u_1.1 14), .ref (u_1.1 15), .int 0, .ref (u_1.1 16), .ref (u_1.1 17), .ref (u_1.1 18)])), ((u_1.1 19), .inl (cy 1, 3918, .inl (upd (fun _ => 0) (Int32.toNatClampNeg 1) 1)))] _ _ := hw13
    refine lv_aload_n hx hb dL_law_1447 rfl (lv_at hl 1 rfl) ?_
    refine lv_aload_n hx hb dL_law_1448 rfl (lv_at hl 3 rfl) ?_
    refine lv_iload_n hx hb dL_law_1449 rfl (lv_at hl 0 rfl) ?_
    refine lv_iconst (v := 1) hx hb dL_law_1450 (by decide) ?_
    refine lv_iadd hx hb dL_law_1451 ?_
    refine q_c 1 (by decide +kernel) ?_
    refine va_sld X.1 X.2.1 hX hbl hbA hw13.2.2 (q_in (by decide +kernel)) dL_law_1452 ?_
    refine q_c 5 e1 ?_
    refine q_callVi (rest := [.int 0]) (wr := []) X hK hA hw13 (fun sz => kX12_count_534 l D cy y0 (u_1.1 19) (u_1.1 0) (u_1.1 1) (u_1.1 2) (u_1.1 3) (u_1.1 4) (u_1.1 5) (u_1.1 6) (u_1.1 7) (u_1.1 8) (u_1.1 9) (u_1.1 10) (u_1.1 11) (u_1.1 12) (u_1.1 13) (u_1.1 14) (u_1.1 15) (u_1.1 16) (u_1.1 17) (u_1.1 18) (upd (fun _ => 0) (Int32.toNatClampNeg 1) 1) (q_un (by decide +kernel) rfl) (q_un (by decide +kernel) rfl) sz) wm_8_51 wm_8_54 wm_1_12 hd_X12_count wm_8_52 wm_8_53 (ci := 12) (q0 := 0) rfl rfl ⟨Nat.le_of_ble_eq_true rfl, Nat.le_of_ble_eq_true rfl⟩ hl.1 rfl (Nat.le_of_ble_eq_true rfl) dL_law_1453 ⟨Nat.le_of_ble_eq_true rfl, Nat.le_of_ble_eq_true rfl⟩ [0, 1] [] rfl rfl (by decide) rfl rfl (fun r_13016 u_13016 Hp14 lc14 w_13016 hw14 => ?_)
    clear Hp13 lc13 hw13
    obtain rfl : r_13016 = 0 := w_13016
    replace hw14 : qW D _ _ [] _ _ := hw14
    refine lv_icmp_eq (tgt := 1461) hx hb dL_law_1456 (by decide) (fun _ => ?_) (fun c => absurd c (by decide +kernel))
    exact law_tail l X hr hlk hX hbl hw14.2.2 hl (Nat.le_of_ble_eq_true rfl) (Nat.le_of_ble_eq_true rfl)
  by_cases c_13017 : a1 = 6
  · subst c_13017
    refine lv_aload_n hx hb dL_law_1438 rfl (lv_at hl 2 rfl) ?_
    refine lv_aload_n hx hb dL_law_1439 rfl (lv_at hl 3 rfl) ?_
    refine lv_iload_n hx hb dL_law_1440 rfl (lv_at hl 0 rfl) ?_
    refine lv_iconst (v := 1) hx hb dL_law_1441 (by decide) ?_
    refine lv_iadd hx hb dL_law_1442 ?_
    refine q_c 1 (by decide +kernel) ?_
    refine va_sld X.1 X.2.1 hX hbl hbA h.2.2 (q_in (by decide +kernel)) dL_law_1443 ?_
    refine q_c 6 e1 ?_
    refine q_callVi (rest := []) (wr := [(y0, .inr (12, [.int 0, .ref (u_1.1 19), .ref (u_1.1 0), .ref (u_1.1 1), .ref (u_1.1 2), .int 0, .int 0, .int 0, .int 0, .int 0, .int 0, .int 0, .int 0, .int 0, .int (-1), .int 0, .ref (u_1.1 3), .ref (u_1.1 4), .ref (u_1.1 5), .ref (u_1.1 6), .ref (u_1.1 7), .int 0, .int 0, .ref (u_1.1 8), .ref (u_1.1 9), .ref (u_1.1 10), .int 0, .int 0, .ref (u_1.1 11), .ref (u_1.1 12), .ref (u_1.1 13), .ref (u_1.1 14), .ref (u_1.1 15), .int 0, .ref (u_1.1 16), .ref (u_1.1 17), .ref (u_1.1 18)])), ((u_1.1 19), .inl (cy 1, 3918, .inl (upd (fun _ => 0) (Int32.toNatClampNeg 1) 1)))]) X hK hA h (fun sz => kX11_count_535 l D cy x0 (u_0.1 43) (u_0.1 0) (u_0.1 1) (u_0.1 37) (u_0.1 39) (u_0.1 41) (u_0.1 14) (u_0.1 15) (u_0.1 16) (u_0.1 17) (u_0.1 20) (u_0.1 24) (u_0.1 29) (u_0.1 44)  sz) wm_5_153 wm_5_156 wm_1_1 hd_X11_count wm_5_154 wm_5_155 (ci := 11) (q0 := 0) rfl rfl ⟨Nat.le_of_ble_eq_true rfl, Nat.le_of_ble_eq_true rfl⟩ hl.1 rfl (Nat.le_of_ble_eq_true rfl) dL_law_1444 ⟨Nat.le_of_ble_eq_true rfl, Nat.le_of_ble_eq_true rfl⟩ [0, 44] [78, 98] rfl rfl (by decide) rfl rfl (fun r_13018 u_13018 Hp15 lc15 w_13018 hw15 => ?_)
    clear h
    obtain rfl : r_13018 = 0 := w_13018
    replace hw15 : qW D _ _ [(y0, .inr (12, [.int 0, .ref (u_1.1 19), .ref (u_1.1 0), .ref (u_1.1 1), .ref (u_1.1 2), .int 0, .int 0, .int 0, .int 0, .int 0, .int 0, .int 0, .int 0, .int 0, .int (-1), .int 0, .ref (u_1.1 3), .ref (u_1.1 4), .ref (u_1.1 5), .ref (u_1.1 6), .ref (u_1.1 7), .int 0, .int 0, .ref (u_1.1 8), .ref (u_1.1 9), .ref (u_1.1 10), .int 0, .int 0, .ref (u_1.1 11), .ref (u_1.1 12), .ref (u_1.1 13), .ref (u_1.1 14), .ref (u_1.1 15), .int 0, .ref (u_1.1 16), .ref (u_1.1 17), .ref (u_1.1 18)])), ((u_1.1 19), .inl (cy 1, 3918, .inl (upd (fun _ => 0) (Int32.toNatClampNeg 1) 1)))] _ _ := hw15
    refine lv_aload_n hx hb dL_law_1447 rfl (lv_at hl 1 rfl) ?_
    refine lv_aload_n hx hb dL_law_1448 rfl (lv_at hl 3 rfl) ?_
    refine lv_iload_n hx hb dL_law_1449 rfl (lv_at hl 0 rfl) ?_
    refine lv_iconst (v := 1) hx hb dL_law_1450 (by decide) ?_
    refine lv_iadd hx hb dL_law_1451 ?_
    refine q_c 1 (by decide +kernel) ?_
    refine va_sld X.1 X.2.1 hX hbl hbA hw15.2.2 (q_in (by decide +kernel)) dL_law_1452 ?_
    refine q_c 6 e1 ?_
    refine q_callVi (rest := [.int 0]) (wr := []) X hK hA hw15 (fun sz => kX12_count_536 l D cy y0 (u_1.1 19) (u_1.1 0) (u_1.1 1) (u_1.1 2) (u_1.1 3) (u_1.1 4) (u_1.1 5) (u_1.1 6) (u_1.1 7) (u_1.1 8) (u_1.1 9) (u_1.1 10) (u_1.1 11) (u_1.1 12) (u_1.1 13) (u_1.1 14) (u_1.1 15) (u_1.1 16) (u_1.1 17) (u_1.1 18) (upd (fun _ => 0) (Int32.toNatClampNeg 1) 1) (q_un (by decide +kernel) rfl) sz) wm_8_51 wm_8_54 wm_1_12 hd_X12_count wm_8_52 wm_8_53 (ci := 12) (q0 := 0) rfl rfl ⟨Nat.le_of_ble_eq_true rfl, Nat.le_of_ble_eq_true rfl⟩ hl.1 rfl (Nat.le_of_ble_eq_true rfl) dL_law_1453 ⟨Nat.le_of_ble_eq_true rfl, Nat.le_of_ble_eq_true rfl⟩ [0, 1] [] rfl rfl (by decide) rfl rfl (fun r_13019 u_13019 Hp16 lc16 w_13019 hw16 => ?_)
    clear Hp15 lc15 hw15
    obtain rfl : r_13019 = 0 := w_13019
    replace hw16 : qW D _ _ [] _ _ := hw16
    refine lv_icmp_eq (tgt := 1461) hx hb dL_law_1456 (by decide) (fun _ => ?_) (fun c => absurd c (by decide +kernel))
    exact law_tail l X hr hlk hX hbl hw16.2.2 hl (Nat.le_of_ble_eq_true rfl) (Nat.le_of_ble_eq_true rfl)
  by_cases c_13020 : a1 = 7
  · subst c_13020
    refine lv_aload_n hx hb dL_law_1438 rfl (lv_at hl 2 rfl) ?_
    refine lv_aload_n hx hb dL_law_1439 rfl (lv_at hl 3 rfl) ?_
    refine lv_iload_n hx hb dL_law_1440 rfl (lv_at hl 0 rfl) ?_
    refine lv_iconst (v := 1) hx hb dL_law_1441 (by decide) ?_
    refine lv_iadd hx hb dL_law_1442 ?_
    refine q_c 1 (by decide +kernel) ?_
    refine va_sld X.1 X.2.1 hX hbl hbA h.2.2 (q_in (by decide +kernel)) dL_law_1443 ?_
    refine q_c 7 e1 ?_
    refine q_callVi (rest := []) (wr := [(y0, .inr (12, [.int 0, .ref (u_1.1 19), .ref (u_1.1 0), .ref (u_1.1 1), .ref (u_1.1 2), .int 0, .int 0, .int 0, .int 0, .int 0, .int 0, .int 0, .int 0, .int 0, .int (-1), .int 0, .ref (u_1.1 3), .ref (u_1.1 4), .ref (u_1.1 5), .ref (u_1.1 6), .ref (u_1.1 7), .int 0, .int 0, .ref (u_1.1 8), .ref (u_1.1 9), .ref (u_1.1 10), .int 0, .int 0, .ref (u_1.1 11), .ref (u_1.1 12), .ref (u_1.1 13), .ref (u_1.1 14), .ref (u_1.1 15), .int 0, .ref (u_1.1 16), .ref (u_1.1 17), .ref (u_1.1 18)]))]) X hK hA h (fun sz => kX11_count_537 l D cy x0 (u_0.1 0) (u_0.1 1) (u_0.1 37) (u_0.1 39) (u_0.1 41) (u_0.1 43) (u_0.1 14) (u_0.1 15) (u_0.1 16) (u_0.1 17) (u_0.1 20) (u_0.1 24) (u_0.1 29)  sz) wm_5_153 wm_5_156 wm_1_1 hd_X11_count wm_5_154 wm_5_155 (ci := 11) (q0 := 0) rfl rfl ⟨Nat.le_of_ble_eq_true rfl, Nat.le_of_ble_eq_true rfl⟩ hl.1 rfl (Nat.le_of_ble_eq_true rfl) dL_law_1444 ⟨Nat.le_of_ble_eq_true rfl, Nat.le_of_ble_eq_true rfl⟩ [0] [78] rfl rfl (by decide) rfl rfl (fun r_13021 u_13021 Hp17 lc17 w_13021 hw17 => ?_)
    clear h
    obtain rfl : r_13021 = 0 := w_13021
    replace hw17 : qW D _ _ [(y0, .inr (12, [.int 0, .ref (u_1.1 19), .ref (u_1.1 0), .ref (u_1.1 1), .ref (u_1.1 2), .int 0, .int 0, .int 0, .int 0, .int 0, .int 0, .int 0, .int 0, .int 0, .int (-1), .int 0, .ref (u_1.1 3), .ref (u_1.1 4), .ref (u_1.1 5), .ref (u_1.1 6), .ref (u_1.1 7), .int 0, .int 0, .ref (u_1.1 8), .ref (u_1.1 9), .ref (u_1.1 10), .int 0, .int 0, .ref (u_1.1 11), .ref (u_1.1 12), .ref (u_1.1 13), .ref (u_1.1 14), .ref (u_1.1 15), .int 0, .ref (u_1.1 16), .ref (u_1.1 17), .ref (u_1.1 18)]))] _ _ := hw17
    refine lv_aload_n hx hb dL_law_1447 rfl (lv_at hl 1 rfl) ?_
    refine lv_aload_n hx hb dL_law_1448 rfl (lv_at hl 3 rfl) ?_
    refine lv_iload_n hx hb dL_law_1449 rfl (lv_at hl 0 rfl) ?_
    refine lv_iconst (v := 1) hx hb dL_law_1450 (by decide) ?_
    refine lv_iadd hx hb dL_law_1451 ?_
    refine q_c 1 (by decide +kernel) ?_
    refine va_sld X.1 X.2.1 hX hbl hbA hw17.2.2 (q_in (by decide +kernel)) dL_law_1452 ?_
    refine q_c 7 e1 ?_
    refine q_callVi (rest := [.int 0]) (wr := []) X hK hA hw17 (fun sz => kX12_count_538 l D cy y0 (u_1.1 19) (u_1.1 0) (u_1.1 1) (u_1.1 2) (u_1.1 3) (u_1.1 4) (u_1.1 5) (u_1.1 6) (u_1.1 7) (u_1.1 8) (u_1.1 9) (u_1.1 10) (u_1.1 11) (u_1.1 12) (u_1.1 13) (u_1.1 14) (u_1.1 15) (u_1.1 16) (u_1.1 17) (u_1.1 18)  sz) wm_8_51 wm_8_54 wm_1_12 hd_X12_count wm_8_52 wm_8_53 (ci := 12) (q0 := 0) rfl rfl ⟨Nat.le_of_ble_eq_true rfl, Nat.le_of_ble_eq_true rfl⟩ hl.1 rfl (Nat.le_of_ble_eq_true rfl) dL_law_1453 ⟨Nat.le_of_ble_eq_true rfl, Nat.le_of_ble_eq_true rfl⟩ [0] [] rfl rfl (by decide) rfl rfl (fun r_13022 u_13022 Hp18 lc18 w_13022 hw18 => ?_)
    clear Hp17 lc17 hw17
    obtain rfl : r_13022 = 0 := w_13022
    replace hw18 : qW D _ _ [] _ _ := hw18
    refine lv_icmp_eq (tgt := 1461) hx hb dL_law_1456 (by decide) (fun _ => ?_) (fun c => absurd c (by decide +kernel))
    exact law_tail l X hr hlk hX hbl hw18.2.2 hl (Nat.le_of_ble_eq_true rfl) (Nat.le_of_ble_eq_true rfl)
  by_cases c_13023 : a1 = 8
  · subst c_13023
    refine lv_aload_n hx hb dL_law_1438 rfl (lv_at hl 2 rfl) ?_
    refine lv_aload_n hx hb dL_law_1439 rfl (lv_at hl 3 rfl) ?_
    refine lv_iload_n hx hb dL_law_1440 rfl (lv_at hl 0 rfl) ?_
    refine lv_iconst (v := 1) hx hb dL_law_1441 (by decide) ?_
    refine lv_iadd hx hb dL_law_1442 ?_
    refine q_c 1 (by decide +kernel) ?_
    refine va_sld X.1 X.2.1 hX hbl hbA h.2.2 (q_in (by decide +kernel)) dL_law_1443 ?_
    refine q_c 8 e1 ?_
    refine q_callVi (rest := []) (wr := [(y0, .inr (12, [.int 0, .ref (u_1.1 19), .ref (u_1.1 0), .ref (u_1.1 1), .ref (u_1.1 2), .int 0, .int 0, .int 0, .int 0, .int 0, .int 0, .int 0, .int 0, .int 0, .int (-1), .int 0, .ref (u_1.1 3), .ref (u_1.1 4), .ref (u_1.1 5), .ref (u_1.1 6), .ref (u_1.1 7), .int 0, .int 0, .ref (u_1.1 8), .ref (u_1.1 9), .ref (u_1.1 10), .int 0, .int 0, .ref (u_1.1 11), .ref (u_1.1 12), .ref (u_1.1 13), .ref (u_1.1 14), .ref (u_1.1 15), .int 0, .ref (u_1.1 16), .ref (u_1.1 17), .ref (u_1.1 18)])), ((u_1.1 19), .inl (cy 1, 3918, .inl (upd (fun _ => 0) (Int32.toNatClampNeg 1) 1)))]) X hK hA h (fun sz => kX11_count_539 l D cy x0 (u_0.1 31) (u_0.1 37) (u_0.1 0) (u_0.1 1) (u_0.1 39) (u_0.1 41) (u_0.1 43) (u_0.1 14) (u_0.1 15) (u_0.1 16) (u_0.1 17) (u_0.1 20) (u_0.1 24) (u_0.1 29) (u_0.1 32) (u_0.1 33) (u_0.1 34) (u_0.1 35) (u_0.1 36) (u_0.1 38)  sz) wm_5_153 wm_5_156 wm_1_1 hd_X11_count wm_5_154 wm_5_155 (ci := 11) (q0 := 0) rfl rfl ⟨Nat.le_of_ble_eq_true rfl, Nat.le_of_ble_eq_true rfl⟩ hl.1 rfl (Nat.le_of_ble_eq_true rfl) dL_law_1444 ⟨Nat.le_of_ble_eq_true rfl, Nat.le_of_ble_eq_true rfl⟩ [0, 32, 38] [78, 98] rfl rfl (by decide) rfl rfl (fun r_13024 u_13024 Hp19 lc19 w_13024 hw19 => ?_)
    clear h
    obtain rfl : r_13024 = 0 := w_13024
    replace hw19 : qW D _ _ [(y0, .inr (12, [.int 0, .ref (u_1.1 19), .ref (u_1.1 0), .ref (u_1.1 1), .ref (u_1.1 2), .int 0, .int 0, .int 0, .int 0, .int 0, .int 0, .int 0, .int 0, .int 0, .int (-1), .int 0, .ref (u_1.1 3), .ref (u_1.1 4), .ref (u_1.1 5), .ref (u_1.1 6), .ref (u_1.1 7), .int 0, .int 0, .ref (u_1.1 8), .ref (u_1.1 9), .ref (u_1.1 10), .int 0, .int 0, .ref (u_1.1 11), .ref (u_1.1 12), .ref (u_1.1 13), .ref (u_1.1 14), .ref (u_1.1 15), .int 0, .ref (u_1.1 16), .ref (u_1.1 17), .ref (u_1.1 18)])), ((u_1.1 19), .inl (cy 1, 3918, .inl (upd (fun _ => 0) (Int32.toNatClampNeg 1) 1)))] _ _ := hw19
    refine lv_aload_n hx hb dL_law_1447 rfl (lv_at hl 1 rfl) ?_
    refine lv_aload_n hx hb dL_law_1448 rfl (lv_at hl 3 rfl) ?_
    refine lv_iload_n hx hb dL_law_1449 rfl (lv_at hl 0 rfl) ?_
    refine lv_iconst (v := 1) hx hb dL_law_1450 (by decide) ?_
    refine lv_iadd hx hb dL_law_1451 ?_
    refine q_c 1 (by decide +kernel) ?_
    refine va_sld X.1 X.2.1 hX hbl hbA hw19.2.2 (q_in (by decide +kernel)) dL_law_1452 ?_
    refine q_c 8 e1 ?_
    refine q_callVi (rest := [.int 0]) (wr := []) X hK hA hw19 (fun sz => kX12_count_540 l D cy y0 (u_1.1 19) (u_1.1 0) (u_1.1 1) (u_1.1 2) (u_1.1 3) (u_1.1 4) (u_1.1 5) (u_1.1 6) (u_1.1 7) (u_1.1 8) (u_1.1 9) (u_1.1 10) (u_1.1 11) (u_1.1 12) (u_1.1 13) (u_1.1 14) (u_1.1 15) (u_1.1 16) (u_1.1 17) (u_1.1 18) (upd (fun _ => 0) (Int32.toNatClampNeg 1) 1) (q_un (by decide +kernel) rfl) sz) wm_8_51 wm_8_54 wm_1_12 hd_X12_count wm_8_52 wm_8_53 (ci := 12) (q0 := 0) rfl rfl ⟨Nat.le_of_ble_eq_true rfl, Nat.le_of_ble_eq_true rfl⟩ hl.1 rfl (Nat.le_of_ble_eq_true rfl) dL_law_1453 ⟨Nat.le_of_ble_eq_true rfl, Nat.le_of_ble_eq_true rfl⟩ [0, 1] [] rfl rfl (by decide) rfl rfl (fun r_13025 u_13025 Hp20 lc20 w_13025 hw20 => ?_)
    clear Hp19 lc19 hw19
    obtain rfl : r_13025 = 0 := w_13025
    replace hw20 : qW D _ _ [] _ _ := hw20
    refine lv_icmp_eq (tgt := 1461) hx hb dL_law_1456 (by decide) (fun _ => ?_) (fun c => absurd c (by decide +kernel))
    exact law_tail l X hr hlk hX hbl hw20.2.2 hl (Nat.le_of_ble_eq_true rfl) (Nat.le_of_ble_eq_true rfl)
  refine lv_aload_n hx hb dL_law_1438 rfl (lv_at hl 2 rfl) ?_
  refine lv_aload_n hx hb dL_law_1439 rfl (lv_at hl 3 rfl) ?_
  refine lv_iload_n hx hb dL_law_1440 rfl (lv_at hl 0 rfl) ?_
  refine lv_iconst (v := 1) hx hb dL_law_1441 (by decide) ?_
  refine lv_iadd hx hb dL_law_1442 ?_
  refine q_c 1 (by decide +kernel) ?_
  refine va_sld X.1 X.2.1 hX hbl hbA h.2.2 (q_in (by decide +kernel)) dL_law_1443 ?_
  refine q_c a1 e1 ?_
  have g_13034 : (9 : Int32) ≤ a1 := by
    simp only [Int32.lt_iff_toInt_lt, Int32.le_iff_toInt_le, ← Int32.toInt_inj] at c_12942 c_12955 c_12958 c_12961 c_12980 c_12983 c_12986 c_13017 c_13020 c_13023 ⊢
    have k_0 : ((-1) : Int32).toInt = -1 := by decide
    have k_1 : (0 : Int32).toInt = 0 := by decide
    have k_2 : (1 : Int32).toInt = 1 := by decide
    have k_3 : (2 : Int32).toInt = 2 := by decide
    have k_4 : (3 : Int32).toInt = 3 := by decide
    have k_5 : (4 : Int32).toInt = 4 := by decide
    have k_6 : (5 : Int32).toInt = 5 := by decide
    have k_7 : (6 : Int32).toInt = 6 := by decide
    have k_8 : (7 : Int32).toInt = 7 := by decide
    have k_9 : (8 : Int32).toInt = 8 := by decide
    have k_g : (9 : Int32).toInt = 9 := by decide
    omega
  refine q_callVi (rest := []) (wr := [(y0, .inr (12, [.int 0, .ref (u_1.1 19), .ref (u_1.1 0), .ref (u_1.1 1), .ref (u_1.1 2), .int 0, .int 0, .int 0, .int 0, .int 0, .int 0, .int 0, .int 0, .int 0, .int (-1), .int 0, .ref (u_1.1 3), .ref (u_1.1 4), .ref (u_1.1 5), .ref (u_1.1 6), .ref (u_1.1 7), .int 0, .int 0, .ref (u_1.1 8), .ref (u_1.1 9), .ref (u_1.1 10), .int 0, .int 0, .ref (u_1.1 11), .ref (u_1.1 12), .ref (u_1.1 13), .ref (u_1.1 14), .ref (u_1.1 15), .int 0, .ref (u_1.1 16), .ref (u_1.1 17), .ref (u_1.1 18)]))]) X hK hA h (fun sz => kX11_count_541 l D cy x0 a1 (u_0.1 0) (u_0.1 1) (u_0.1 37) (u_0.1 39) (u_0.1 41) (u_0.1 43) (u_0.1 14) (u_0.1 15) (u_0.1 16) (u_0.1 17) (u_0.1 20) (u_0.1 24) (u_0.1 29) g_13034 sz) wm_5_153 wm_5_156 wm_1_1 hd_X11_count wm_5_154 wm_5_155 (ci := 11) (q0 := 0) rfl rfl ⟨Nat.le_of_ble_eq_true rfl, Nat.le_of_ble_eq_true rfl⟩ hl.1 rfl (Nat.le_of_ble_eq_true rfl) dL_law_1444 ⟨Nat.le_of_ble_eq_true rfl, Nat.le_of_ble_eq_true rfl⟩ [0] [78] rfl rfl (by decide) rfl rfl (fun r_13035 u_13035 Hp21 lc21 w_13035 hw21 => ?_)
  clear h
  obtain rfl : r_13035 = (-1) := w_13035
  replace hw21 : qW D _ _ [(y0, .inr (12, [.int 0, .ref (u_1.1 19), .ref (u_1.1 0), .ref (u_1.1 1), .ref (u_1.1 2), .int 0, .int 0, .int 0, .int 0, .int 0, .int 0, .int 0, .int 0, .int 0, .int (-1), .int 0, .ref (u_1.1 3), .ref (u_1.1 4), .ref (u_1.1 5), .ref (u_1.1 6), .ref (u_1.1 7), .int 0, .int 0, .ref (u_1.1 8), .ref (u_1.1 9), .ref (u_1.1 10), .int 0, .int 0, .ref (u_1.1 11), .ref (u_1.1 12), .ref (u_1.1 13), .ref (u_1.1 14), .ref (u_1.1 15), .int 0, .ref (u_1.1 16), .ref (u_1.1 17), .ref (u_1.1 18)]))] _ _ := hw21
  refine lv_aload_n hx hb dL_law_1447 rfl (lv_at hl 1 rfl) ?_
  refine lv_aload_n hx hb dL_law_1448 rfl (lv_at hl 3 rfl) ?_
  refine lv_iload_n hx hb dL_law_1449 rfl (lv_at hl 0 rfl) ?_
  refine lv_iconst (v := 1) hx hb dL_law_1450 (by decide) ?_
  refine lv_iadd hx hb dL_law_1451 ?_
  refine q_c 1 (by decide +kernel) ?_
  refine va_sld X.1 X.2.1 hX hbl hbA hw21.2.2 (q_in (by decide +kernel)) dL_law_1452 ?_
  refine q_c a1 e1 ?_
  have g_13037 : (9 : Int32) ≤ a1 := by
    simp only [Int32.lt_iff_toInt_lt, Int32.le_iff_toInt_le, ← Int32.toInt_inj] at c_12942 c_12955 c_12958 c_12961 c_12980 c_12983 c_12986 c_13017 c_13020 c_13023 ⊢
    have k_0 : ((-1) : Int32).toInt = -1 := by decide
    have k_1 : (0 : Int32).toInt = 0 := by decide
    have k_2 : (1 : Int32).toInt = 1 := by decide
    have k_3 : (2 : Int32).toInt = 2 := by decide
    have k_4 : (3 : Int32).toInt = 3 := by decide
    have k_5 : (4 : Int32).toInt = 4 := by decide
    have k_6 : (5 : Int32).toInt = 5 := by decide
    have k_7 : (6 : Int32).toInt = 6 := by decide
    have k_8 : (7 : Int32).toInt = 7 := by decide
    have k_9 : (8 : Int32).toInt = 8 := by decide
    have k_g : (9 : Int32).toInt = 9 := by decide
    omega
  refine q_callVi (rest := [.int (-1)]) (wr := []) X hK hA hw21 (fun sz => kX12_count_542 l D cy y0 a1 (u_1.1 19) (u_1.1 0) (u_1.1 1) (u_1.1 2) (u_1.1 3) (u_1.1 4) (u_1.1 5) (u_1.1 6) (u_1.1 7) (u_1.1 8) (u_1.1 9) (u_1.1 10) (u_1.1 11) (u_1.1 12) (u_1.1 13) (u_1.1 14) (u_1.1 15) (u_1.1 16) (u_1.1 17) (u_1.1 18) g_13037 sz) wm_8_51 wm_8_54 wm_1_12 hd_X12_count wm_8_52 wm_8_53 (ci := 12) (q0 := 0) rfl rfl ⟨Nat.le_of_ble_eq_true rfl, Nat.le_of_ble_eq_true rfl⟩ hl.1 rfl (Nat.le_of_ble_eq_true rfl) dL_law_1453 ⟨Nat.le_of_ble_eq_true rfl, Nat.le_of_ble_eq_true rfl⟩ [0] [] rfl rfl (by decide) rfl rfl (fun r_13038 u_13038 Hp22 lc22 w_13038 hw22 => ?_)
  clear Hp21 lc21 hw21
  obtain rfl : r_13038 = (-1) := w_13038
  replace hw22 : qW D _ _ [] _ _ := hw22
  refine lv_icmp_eq (tgt := 1461) hx hb dL_law_1456 (by decide) (fun _ => ?_) (fun c => absurd c (by decide +kernel))
  exact law_tail l X hr hlk hX hbl hw22.2.2 hl (Nat.le_of_ble_eq_true rfl) (Nat.le_of_ble_eq_true rfl)
set_option maxHeartbeats 4000000 in
set_option maxRecDepth 100000 in
theorem lc_year (l : Launch) {p : Program} {e : Env} {s : State} {m : MethodId} {below : List Frame} {meth : Method} {c : Code} {b : Nat} {xs : Nat → Int32} {D : va_G} {cy : Nat → ClassId} {H : Heap} {locs : List Loc} {ls : Array Slot} {x0 y0 : Nat} {u_0 u_1 : SS} (X : qX p s m #[Value.ref b] c cL_law 4 RL) (hr : meth.sig.returnType = ret) (hlk : meth.locks = false) (hX : va_X b 6 xs s s.heap) (hbl : b < s.heap.size) (hK : qK D cy s) (a1 a2 a3 a4 a5 : Int32) (e1 : xs (Int32.toNatClampNeg 1) = a1) (e2 : xs (Int32.toNatClampNeg 2) = a2) (e3 : xs (Int32.toNatClampNeg 3) = a3) (e4 : xs (Int32.toNatClampNeg 4) = a4) (e5 : xs (Int32.toNatClampNeg 5) = a5) (h : qW D (fun q => s.heap.size ≤ q) s.heap (wLaw cy x0 y0 u_0 u_1) H locs) (hl : lv_has ls 4 [(3, .int 0), (2, .ref y0), (1, .ref x0), (0, .ref b)]) : W p l e room_1 s m #[Value.ref b] below meth c H locs 99 25544 (lw_Z below #[Value.ref b] s) (F0 m 622 ls []) := by
  obtain ⟨hx, hb, hml, hown, ht⟩ := id X
  have hA : ∀ q : Nat, s.heap.size ≤ q → (fun q : Nat => s.heap.size ≤ q) q := fun _ h => h
  have hbA : ¬ (fun q : Nat => s.heap.size ≤ q) b := Nat.not_le.mpr hbl
  by_cases c_13050 : a2 ≤ 0
  · skip
    refine lv_aload_n hx hb dL_law_622 rfl (lv_at hl 2 rfl) ?_
    refine lv_aload_n hx hb dL_law_623 rfl (lv_at hl 3 rfl) ?_
    refine lv_iload_n hx hb dL_law_624 rfl (lv_at hl 0 rfl) ?_
    refine lv_iconst (v := 1) hx hb dL_law_625 (by decide) ?_
    refine lv_iadd hx hb dL_law_626 ?_
    refine q_c 1 (by decide +kernel) ?_
    refine va_sld X.1 X.2.1 hX hbl hbA h.2.2 (q_in (by decide +kernel)) dL_law_627 ?_
    refine q_c a1 e1 ?_
    refine lv_aload_n hx hb dL_law_628 rfl (lv_at hl 3 rfl) ?_
    refine lv_iload_n hx hb dL_law_629 rfl (lv_at hl 0 rfl) ?_
    refine lv_iconst (v := 2) hx hb dL_law_630 (by decide) ?_
    refine lv_iadd hx hb dL_law_631 ?_
    refine q_c 2 (by decide +kernel) ?_
    refine va_sld X.1 X.2.1 hX hbl hbA h.2.2 (q_in (by decide +kernel)) dL_law_632 ?_
    refine q_c a2 e2 ?_
    have g_13066 : a2 ≤ (0 : Int32) := by
      simp only [Int32.lt_iff_toInt_lt, Int32.le_iff_toInt_le, ← Int32.toInt_inj] at c_13050 ⊢
      have k_0 : (0 : Int32).toInt = 0 := by decide
      omega
    refine q_callVi (rest := []) (wr := [(y0, .inr (12, [.int 0, .ref (u_1.1 19), .ref (u_1.1 0), .ref (u_1.1 1), .ref (u_1.1 2), .int 0, .int 0, .int 0, .int 0, .int 0, .int 0, .int 0, .int 0, .int 0, .int (-1), .int 0, .ref (u_1.1 3), .ref (u_1.1 4), .ref (u_1.1 5), .ref (u_1.1 6), .ref (u_1.1 7), .int 0, .int 0, .ref (u_1.1 8), .ref (u_1.1 9), .ref (u_1.1 10), .int 0, .int 0, .ref (u_1.1 11), .ref (u_1.1 12), .ref (u_1.1 13), .ref (u_1.1 14), .ref (u_1.1 15), .int 0, .ref (u_1.1 16), .ref (u_1.1 17), .ref (u_1.1 18)]))]) X hK hA h (fun sz => kX11_year_543 l D cy x0 a1 a2 (u_0.1 0) (u_0.1 1) (u_0.1 37) (u_0.1 39) (u_0.1 41) (u_0.1 43) (u_0.1 14) (u_0.1 15) (u_0.1 16) (u_0.1 17) (u_0.1 20) (u_0.1 24) (u_0.1 29) g_13066 sz) wm_4_122 wm_4_125 wm_1_1 hd_X11_year wm_4_123 wm_4_124 (ci := 11) (q0 := 0) rfl rfl ⟨Nat.le_of_ble_eq_true rfl, Nat.le_of_ble_eq_true rfl⟩ hl.1 rfl (Nat.le_of_ble_eq_true rfl) dL_law_633 ⟨Nat.le_of_ble_eq_true rfl, Nat.le_of_ble_eq_true rfl⟩ [0] [78] rfl rfl (by decide) rfl rfl (fun r_13067 u_13067 Hp1 lc1 w_13067 hw1 => ?_)
    clear h
    obtain rfl : r_13067 = (-3) := w_13067
    replace hw1 : qW D _ _ [(y0, .inr (12, [.int 0, .ref (u_1.1 19), .ref (u_1.1 0), .ref (u_1.1 1), .ref (u_1.1 2), .int 0, .int 0, .int 0, .int 0, .int 0, .int 0, .int 0, .int 0, .int 0, .int (-1), .int 0, .ref (u_1.1 3), .ref (u_1.1 4), .ref (u_1.1 5), .ref (u_1.1 6), .ref (u_1.1 7), .int 0, .int 0, .ref (u_1.1 8), .ref (u_1.1 9), .ref (u_1.1 10), .int 0, .int 0, .ref (u_1.1 11), .ref (u_1.1 12), .ref (u_1.1 13), .ref (u_1.1 14), .ref (u_1.1 15), .int 0, .ref (u_1.1 16), .ref (u_1.1 17), .ref (u_1.1 18)]))] _ _ := hw1
    refine lv_aload_n hx hb dL_law_636 rfl (lv_at hl 1 rfl) ?_
    refine lv_aload_n hx hb dL_law_637 rfl (lv_at hl 3 rfl) ?_
    refine lv_iload_n hx hb dL_law_638 rfl (lv_at hl 0 rfl) ?_
    refine lv_iconst (v := 1) hx hb dL_law_639 (by decide) ?_
    refine lv_iadd hx hb dL_law_640 ?_
    refine q_c 1 (by decide +kernel) ?_
    refine va_sld X.1 X.2.1 hX hbl hbA hw1.2.2 (q_in (by decide +kernel)) dL_law_641 ?_
    refine q_c a1 e1 ?_
    refine lv_aload_n hx hb dL_law_642 rfl (lv_at hl 3 rfl) ?_
    refine lv_iload_n hx hb dL_law_643 rfl (lv_at hl 0 rfl) ?_
    refine lv_iconst (v := 2) hx hb dL_law_644 (by decide) ?_
    refine lv_iadd hx hb dL_law_645 ?_
    refine q_c 2 (by decide +kernel) ?_
    refine va_sld X.1 X.2.1 hX hbl hbA hw1.2.2 (q_in (by decide +kernel)) dL_law_646 ?_
    refine q_c a2 e2 ?_
    have g_13071 : a2 ≤ (0 : Int32) := by
      simp only [Int32.lt_iff_toInt_lt, Int32.le_iff_toInt_le, ← Int32.toInt_inj] at c_13050 ⊢
      have k_0 : (0 : Int32).toInt = 0 := by decide
      omega
    refine q_callVi (rest := [.int (-3)]) (wr := []) X hK hA hw1 (fun sz => kX12_year_545 l D cy y0 a1 a2 (u_1.1 19) (u_1.1 0) (u_1.1 1) (u_1.1 2) (u_1.1 3) (u_1.1 4) (u_1.1 5) (u_1.1 6) (u_1.1 7) (u_1.1 8) (u_1.1 9) (u_1.1 10) (u_1.1 11) (u_1.1 12) (u_1.1 13) (u_1.1 14) (u_1.1 15) (u_1.1 16) (u_1.1 17) (u_1.1 18) g_13071 sz) wm_7_78 wm_7_81 wm_1_12 hd_X12_year wm_7_79 wm_7_80 (ci := 12) (q0 := 0) rfl rfl ⟨Nat.le_of_ble_eq_true rfl, Nat.le_of_ble_eq_true rfl⟩ hl.1 rfl (Nat.le_of_ble_eq_true rfl) dL_law_647 ⟨Nat.le_of_ble_eq_true rfl, Nat.le_of_ble_eq_true rfl⟩ [0] [] rfl rfl (by decide) rfl rfl (fun r_13072 u_13072 Hp2 lc2 w_13072 hw2 => ?_)
    clear Hp1 lc1 hw1
    obtain rfl : r_13072 = (-3) := w_13072
    replace hw2 : qW D _ _ [] _ _ := hw2
    refine lv_icmp_eq (tgt := 1461) hx hb dL_law_650 (by decide) (fun _ => ?_) (fun c => absurd c (by decide +kernel))
    exact law_tail l X hr hlk hX hbl hw2.2.2 hl (Nat.le_of_ble_eq_true rfl) (Nat.le_of_ble_eq_true rfl)
  by_cases c_13073 : a2 ≤ 40
  · skip
    refine lv_aload_n hx hb dL_law_622 rfl (lv_at hl 2 rfl) ?_
    refine lv_aload_n hx hb dL_law_623 rfl (lv_at hl 3 rfl) ?_
    refine lv_iload_n hx hb dL_law_624 rfl (lv_at hl 0 rfl) ?_
    refine lv_iconst (v := 1) hx hb dL_law_625 (by decide) ?_
    refine lv_iadd hx hb dL_law_626 ?_
    refine q_c 1 (by decide +kernel) ?_
    refine va_sld X.1 X.2.1 hX hbl hbA h.2.2 (q_in (by decide +kernel)) dL_law_627 ?_
    refine q_c a1 e1 ?_
    refine lv_aload_n hx hb dL_law_628 rfl (lv_at hl 3 rfl) ?_
    refine lv_iload_n hx hb dL_law_629 rfl (lv_at hl 0 rfl) ?_
    refine lv_iconst (v := 2) hx hb dL_law_630 (by decide) ?_
    refine lv_iadd hx hb dL_law_631 ?_
    refine q_c 2 (by decide +kernel) ?_
    refine va_sld X.1 X.2.1 hX hbl hbA h.2.2 (q_in (by decide +kernel)) dL_law_632 ?_
    refine q_c a2 e2 ?_
    have g_13778 : (1 : Int32) ≤ a2 := by
      simp only [Int32.lt_iff_toInt_lt, Int32.le_iff_toInt_le, ← Int32.toInt_inj] at c_13050 c_13073 ⊢
      have k_0 : (0 : Int32).toInt = 0 := by decide
      have k_1 : (40 : Int32).toInt = 40 := by decide
      have k_g : (1 : Int32).toInt = 1 := by decide
      omega
    have g_13779 : a2 ≤ (40 : Int32) := by
      simp only [Int32.lt_iff_toInt_lt, Int32.le_iff_toInt_le, ← Int32.toInt_inj] at c_13050 c_13073 ⊢
      have k_0 : (0 : Int32).toInt = 0 := by decide
      have k_1 : (40 : Int32).toInt = 40 := by decide
      omega
    refine q_callVi (rest := []) (wr := [(y0, .inr (12, [.int 0, .ref (u_1.1 19), .ref (u_1.1 0), .ref (u_1.1 1), .ref (u_1.1 2), .int 0, .int 0, .int 0, .int 0, .int 0, .int 0, .int 0, .int 0, .int 0, .int (-1), .int 0, .ref (u_1.1 3), .ref (u_1.1 4), .ref (u_1.1 5), .ref (u_1.1 6), .ref (u_1.1 7), .int 0, .int 0, .ref (u_1.1 8), .ref (u_1.1 9), .ref (u_1.1 10), .int 0, .int 0, .ref (u_1.1 11), .ref (u_1.1 12), .ref (u_1.1 13), .ref (u_1.1 14), .ref (u_1.1 15), .int 0, .ref (u_1.1 16), .ref (u_1.1 17), .ref (u_1.1 18)])), ((u_1.1 7), .inl (cy 1, 32, .inl (fun _ => 0))), ((u_1.1 19), .inl (cy 1, 3918, .inl (upd (fun _ => 0) (Int32.toNatClampNeg 1) 1)))]) X hK hA h (fun sz => kX11_year_554 l D cy x0 (u_0.1 31) (u_0.1 37) (u_0.1 38) (u_0.1 39) (u_0.1 40) (u_0.1 43) (u_0.1 44) (u_0.1 45) (u_0.1 46) a1 a2 (u_0.1 0) (u_0.1 1) (u_0.1 41) (u_0.1 14) (u_0.1 15) (u_0.1 16) (u_0.1 17) (u_0.1 20) (u_0.1 24) (u_0.1 29) (u_0.1 32) (u_0.1 33) (u_0.1 34) (u_0.1 35) (u_0.1 36) (u_0.1 63) (u_0.1 61) (u_0.1 59) (u_0.1 57) (u_0.1 55) (u_0.1 53) (u_0.1 51) (u_0.1 49) (u_0.1 47) g_13778 g_13779 sz) wm_4_122 wm_4_125 wm_1_1 hd_X11_year wm_4_123 wm_4_124 (ci := 11) (q0 := 0) rfl rfl ⟨Nat.le_of_ble_eq_true rfl, Nat.le_of_ble_eq_true rfl⟩ hl.1 rfl (Nat.le_of_ble_eq_true rfl) dL_law_633 ⟨Nat.le_of_ble_eq_true rfl, Nat.le_of_ble_eq_true rfl⟩ [0, 32, 38, 39, 40, 41, 44, 45, 46, 47] [78, 86, 98] rfl rfl (by decide) rfl rfl (fun r_13780 u_13780 Hp3 lc3 w_13780 hw3 => ?_)
    clear h
    obtain rfl : r_13780 = ((yit (Int32.toNatClampNeg a2) (a1, 0)).2) := w_13780
    replace hw3 : qW D _ _ [(y0, .inr (12, [.int 0, .ref (u_1.1 19), .ref (u_1.1 0), .ref (u_1.1 1), .ref (u_1.1 2), .int 0, .int 0, .int 0, .int 0, .int 0, .int 0, .int 0, .int 0, .int 0, .int (-1), .int 0, .ref (u_1.1 3), .ref (u_1.1 4), .ref (u_1.1 5), .ref (u_1.1 6), .ref (u_1.1 7), .int 0, .int 0, .ref (u_1.1 8), .ref (u_1.1 9), .ref (u_1.1 10), .int 0, .int 0, .ref (u_1.1 11), .ref (u_1.1 12), .ref (u_1.1 13), .ref (u_1.1 14), .ref (u_1.1 15), .int 0, .ref (u_1.1 16), .ref (u_1.1 17), .ref (u_1.1 18)])), ((u_1.1 7), .inl (cy 1, 32, .inl (fun _ => 0))), ((u_1.1 19), .inl (cy 1, 3918, .inl (upd (fun _ => 0) (Int32.toNatClampNeg 1) 1)))] _ _ := hw3
    refine lv_aload_n hx hb dL_law_636 rfl (lv_at hl 1 rfl) ?_
    refine lv_aload_n hx hb dL_law_637 rfl (lv_at hl 3 rfl) ?_
    refine lv_iload_n hx hb dL_law_638 rfl (lv_at hl 0 rfl) ?_
    refine lv_iconst (v := 1) hx hb dL_law_639 (by decide) ?_
    refine lv_iadd hx hb dL_law_640 ?_
    refine q_c 1 (by decide +kernel) ?_
    refine va_sld X.1 X.2.1 hX hbl hbA hw3.2.2 (q_in (by decide +kernel)) dL_law_641 ?_
    refine q_c a1 e1 ?_
    refine lv_aload_n hx hb dL_law_642 rfl (lv_at hl 3 rfl) ?_
    refine lv_iload_n hx hb dL_law_643 rfl (lv_at hl 0 rfl) ?_
    refine lv_iconst (v := 2) hx hb dL_law_644 (by decide) ?_
    refine lv_iadd hx hb dL_law_645 ?_
    refine q_c 2 (by decide +kernel) ?_
    refine va_sld X.1 X.2.1 hX hbl hbA hw3.2.2 (q_in (by decide +kernel)) dL_law_646 ?_
    refine q_c a2 e2 ?_
    have g_13859 : (1 : Int32) ≤ a2 := by
      simp only [Int32.lt_iff_toInt_lt, Int32.le_iff_toInt_le, ← Int32.toInt_inj] at c_13050 c_13073 ⊢
      have k_0 : (0 : Int32).toInt = 0 := by decide
      have k_1 : (40 : Int32).toInt = 40 := by decide
      have k_g : (1 : Int32).toInt = 1 := by decide
      omega
    have g_13860 : a2 ≤ (40 : Int32) := by
      simp only [Int32.lt_iff_toInt_lt, Int32.le_iff_toInt_le, ← Int32.toInt_inj] at c_13050 c_13073 ⊢
      have k_0 : (0 : Int32).toInt = 0 := by decide
      have k_1 : (40 : Int32).toInt = 40 := by decide
      omega
    refine q_callVi (rest := [.int ((yit (Int32.toNatClampNeg a2) (a1, 0)).2)]) (wr := []) X hK hA hw3 (fun sz => kX12_year_575 l D cy y0 (u_1.1 7) (u_1.1 19) a1 a2 (u_1.1 0) (u_1.1 1) (u_1.1 2) (u_1.1 3) (u_1.1 4) (u_1.1 5) (u_1.1 6) (u_1.1 8) (u_1.1 9) (u_1.1 10) (u_1.1 11) (u_1.1 12) (u_1.1 13) (u_1.1 14) (u_1.1 15) (u_1.1 16) (u_1.1 17) (u_1.1 18) (upd (fun _ => 0) (Int32.toNatClampNeg 1) 1) g_13859 g_13860 (q_un (by decide +kernel) rfl) (q_un (by decide +kernel) rfl) (q_un (by decide +kernel) rfl) (q_un (by decide +kernel) rfl) (q_un (by decide +kernel) rfl) (q_un (by decide +kernel) rfl) (q_un (by decide +kernel) rfl) (q_un (by decide +kernel) rfl) (q_un (by decide +kernel) rfl) (q_un (by decide +kernel) rfl) (q_un (by decide +kernel) rfl) (q_un (by decide +kernel) rfl) (q_un (by decide +kernel) rfl) (q_un (by decide +kernel) rfl) (q_un (by decide +kernel) rfl) (q_un (by decide +kernel) rfl) (q_un (by decide +kernel) rfl) (q_un (by decide +kernel) rfl) (q_un (by decide +kernel) rfl) (q_un (by decide +kernel) rfl) (q_un (by decide +kernel) rfl) (q_un (by decide +kernel) rfl) (q_un (by decide +kernel) rfl) (q_un (by decide +kernel) rfl) (q_un (by decide +kernel) rfl) (q_un (by decide +kernel) rfl) (q_un (by decide +kernel) rfl) (q_un (by decide +kernel) rfl) (q_un (by decide +kernel) rfl) (q_un (by decide +kernel) rfl) (q_un (by decide +kernel) rfl) (q_un (by decide +kernel) rfl) (q_un (by decide +kernel) rfl) (q_un (by decide +kernel) rfl) sz) wm_7_78 wm_7_81 wm_1_12 hd_X12_year wm_7_79 wm_7_80 (ci := 12) (q0 := 0) rfl rfl ⟨Nat.le_of_ble_eq_true rfl, Nat.le_of_ble_eq_true rfl⟩ hl.1 rfl (Nat.le_of_ble_eq_true rfl) dL_law_647 ⟨Nat.le_of_ble_eq_true rfl, Nat.le_of_ble_eq_true rfl⟩ [0, 1, 2] [] rfl rfl (by decide) rfl rfl (fun r_13861 u_13861 Hp4 lc4 w_13861 hw4 => ?_)
    clear Hp3 lc3 hw3
    obtain rfl : r_13861 = ((yit (Int32.toNatClampNeg a2) (a1, 0)).2) := w_13861
    replace hw4 : qW D _ _ [] _ _ := hw4
    refine lv_icmp_eq (tgt := 1461) hx hb dL_law_650 (by decide) (fun _ => ?_) (fun c => absurd rfl c)
    exact law_tail l X hr hlk hX hbl hw4.2.2 hl (Nat.le_of_ble_eq_true rfl) (Nat.le_of_ble_eq_true rfl)
  refine lv_aload_n hx hb dL_law_622 rfl (lv_at hl 2 rfl) ?_
  refine lv_aload_n hx hb dL_law_623 rfl (lv_at hl 3 rfl) ?_
  refine lv_iload_n hx hb dL_law_624 rfl (lv_at hl 0 rfl) ?_
  refine lv_iconst (v := 1) hx hb dL_law_625 (by decide) ?_
  refine lv_iadd hx hb dL_law_626 ?_
  refine q_c 1 (by decide +kernel) ?_
  refine va_sld X.1 X.2.1 hX hbl hbA h.2.2 (q_in (by decide +kernel)) dL_law_627 ?_
  refine q_c a1 e1 ?_
  refine lv_aload_n hx hb dL_law_628 rfl (lv_at hl 3 rfl) ?_
  refine lv_iload_n hx hb dL_law_629 rfl (lv_at hl 0 rfl) ?_
  refine lv_iconst (v := 2) hx hb dL_law_630 (by decide) ?_
  refine lv_iadd hx hb dL_law_631 ?_
  refine q_c 2 (by decide +kernel) ?_
  refine va_sld X.1 X.2.1 hX hbl hbA h.2.2 (q_in (by decide +kernel)) dL_law_632 ?_
  refine q_c a2 e2 ?_
  have g_13887 : (41 : Int32) ≤ a2 := by
    simp only [Int32.lt_iff_toInt_lt, Int32.le_iff_toInt_le, ← Int32.toInt_inj] at c_13050 c_13073 ⊢
    have k_0 : (0 : Int32).toInt = 0 := by decide
    have k_1 : (40 : Int32).toInt = 40 := by decide
    have k_g : (41 : Int32).toInt = 41 := by decide
    omega
  refine q_callVi (rest := []) (wr := [(y0, .inr (12, [.int 0, .ref (u_1.1 19), .ref (u_1.1 0), .ref (u_1.1 1), .ref (u_1.1 2), .int 0, .int 0, .int 0, .int 0, .int 0, .int 0, .int 0, .int 0, .int 0, .int (-1), .int 0, .ref (u_1.1 3), .ref (u_1.1 4), .ref (u_1.1 5), .ref (u_1.1 6), .ref (u_1.1 7), .int 0, .int 0, .ref (u_1.1 8), .ref (u_1.1 9), .ref (u_1.1 10), .int 0, .int 0, .ref (u_1.1 11), .ref (u_1.1 12), .ref (u_1.1 13), .ref (u_1.1 14), .ref (u_1.1 15), .int 0, .ref (u_1.1 16), .ref (u_1.1 17), .ref (u_1.1 18)]))]) X hK hA h (fun sz => kX11_year_576 l D cy x0 a1 a2 (u_0.1 0) (u_0.1 1) (u_0.1 37) (u_0.1 39) (u_0.1 41) (u_0.1 43) (u_0.1 14) (u_0.1 15) (u_0.1 16) (u_0.1 17) (u_0.1 20) (u_0.1 24) (u_0.1 29) g_13887 sz) wm_4_122 wm_4_125 wm_1_1 hd_X11_year wm_4_123 wm_4_124 (ci := 11) (q0 := 0) rfl rfl ⟨Nat.le_of_ble_eq_true rfl, Nat.le_of_ble_eq_true rfl⟩ hl.1 rfl (Nat.le_of_ble_eq_true rfl) dL_law_633 ⟨Nat.le_of_ble_eq_true rfl, Nat.le_of_ble_eq_true rfl⟩ [0] [78] rfl rfl (by decide) rfl rfl (fun r_13888 u_13888 Hp5 lc5 w_13888 hw5 => ?_)
  clear h
  obtain rfl : r_13888 = (-3) := w_13888
  replace hw5 : qW D _ _ [(y0, .inr (12, [.int 0, .ref (u_1.1 19), .ref (u_1.1 0), .ref (u_1.1 1), .ref (u_1.1 2), .int 0, .int 0, .int 0, .int 0, .int 0, .int 0, .int 0, .int 0, .int 0, .int (-1), .int 0, .ref (u_1.1 3), .ref (u_1.1 4), .ref (u_1.1 5), .ref (u_1.1 6), .ref (u_1.1 7), .int 0, .int 0, .ref (u_1.1 8), .ref (u_1.1 9), .ref (u_1.1 10), .int 0, .int 0, .ref (u_1.1 11), .ref (u_1.1 12), .ref (u_1.1 13), .ref (u_1.1 14), .ref (u_1.1 15), .int 0, .ref (u_1.1 16), .ref (u_1.1 17), .ref (u_1.1 18)]))] _ _ := hw5
  refine lv_aload_n hx hb dL_law_636 rfl (lv_at hl 1 rfl) ?_
  refine lv_aload_n hx hb dL_law_637 rfl (lv_at hl 3 rfl) ?_
  refine lv_iload_n hx hb dL_law_638 rfl (lv_at hl 0 rfl) ?_
  refine lv_iconst (v := 1) hx hb dL_law_639 (by decide) ?_
  refine lv_iadd hx hb dL_law_640 ?_
  refine q_c 1 (by decide +kernel) ?_
  refine va_sld X.1 X.2.1 hX hbl hbA hw5.2.2 (q_in (by decide +kernel)) dL_law_641 ?_
  refine q_c a1 e1 ?_
  refine lv_aload_n hx hb dL_law_642 rfl (lv_at hl 3 rfl) ?_
  refine lv_iload_n hx hb dL_law_643 rfl (lv_at hl 0 rfl) ?_
  refine lv_iconst (v := 2) hx hb dL_law_644 (by decide) ?_
  refine lv_iadd hx hb dL_law_645 ?_
  refine q_c 2 (by decide +kernel) ?_
  refine va_sld X.1 X.2.1 hX hbl hbA hw5.2.2 (q_in (by decide +kernel)) dL_law_646 ?_
  refine q_c a2 e2 ?_
  have g_13893 : (41 : Int32) ≤ a2 := by
    simp only [Int32.lt_iff_toInt_lt, Int32.le_iff_toInt_le, ← Int32.toInt_inj] at c_13050 c_13073 ⊢
    have k_0 : (0 : Int32).toInt = 0 := by decide
    have k_1 : (40 : Int32).toInt = 40 := by decide
    have k_g : (41 : Int32).toInt = 41 := by decide
    omega
  refine q_callVi (rest := [.int (-3)]) (wr := []) X hK hA hw5 (fun sz => kX12_year_578 l D cy y0 a1 a2 (u_1.1 19) (u_1.1 0) (u_1.1 1) (u_1.1 2) (u_1.1 3) (u_1.1 4) (u_1.1 5) (u_1.1 6) (u_1.1 7) (u_1.1 8) (u_1.1 9) (u_1.1 10) (u_1.1 11) (u_1.1 12) (u_1.1 13) (u_1.1 14) (u_1.1 15) (u_1.1 16) (u_1.1 17) (u_1.1 18) g_13893 sz) wm_7_78 wm_7_81 wm_1_12 hd_X12_year wm_7_79 wm_7_80 (ci := 12) (q0 := 0) rfl rfl ⟨Nat.le_of_ble_eq_true rfl, Nat.le_of_ble_eq_true rfl⟩ hl.1 rfl (Nat.le_of_ble_eq_true rfl) dL_law_647 ⟨Nat.le_of_ble_eq_true rfl, Nat.le_of_ble_eq_true rfl⟩ [0] [] rfl rfl (by decide) rfl rfl (fun r_13894 u_13894 Hp6 lc6 w_13894 hw6 => ?_)
  clear Hp5 lc5 hw5
  obtain rfl : r_13894 = (-3) := w_13894
  replace hw6 : qW D _ _ [] _ _ := hw6
  refine lv_icmp_eq (tgt := 1461) hx hb dL_law_650 (by decide) (fun _ => ?_) (fun c => absurd c (by decide +kernel))
  exact law_tail l X hr hlk hX hbl hw6.2.2 hl (Nat.le_of_ble_eq_true rfl) (Nat.le_of_ble_eq_true rfl)
