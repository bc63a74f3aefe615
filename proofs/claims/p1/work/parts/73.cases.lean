set_option maxHeartbeats 4000000 in
set_option maxRecDepth 100000 in
theorem lc_numbers (l : Launch) {p : Program} {e : Env} {s : State} {m : MethodId} {below : List Frame} {meth : Method} {c : Code} {b : Nat} {xs : Nat → Int32} {D : va_G} {cy : Nat → ClassId} {H : Heap} {locs : List Loc} {ls : Array Slot} {x0 y0 : Nat} {u_0 u_1 : SS} (X : qX p s m #[Value.ref b] c cL_law 4 RL) (hr : meth.sig.returnType = ret) (hlk : meth.locks = false) (hX : va_X b 6 xs s s.heap) (hbl : b < s.heap.size) (hK : qK D cy s) (a1 a2 a3 a4 a5 : Int32) (e1 : xs (Int32.toNatClampNeg 1) = a1) (e2 : xs (Int32.toNatClampNeg 2) = a2) (e3 : xs (Int32.toNatClampNeg 3) = a3) (e4 : xs (Int32.toNatClampNeg 4) = a4) (e5 : xs (Int32.toNatClampNeg 5) = a5) (h : qW D (fun q => s.heap.size ≤ q) s.heap (wLaw cy x0 y0 u_0 u_1) H locs) (hl : lv_has ls 4 [(3, .int 0), (2, .ref y0), (1, .ref x0), (0, .ref b)]) : W p l e room_1 s m #[Value.ref b] below meth c H locs 99 25544 (lw_Z below #[Value.ref b] s) (F0 m 1232 ls []) := by
  obtain ⟨hx, hb, hml, hown, ht⟩ := id X
  have hA : ∀ q : Nat, s.heap.size ≤ q → (fun q : Nat => s.heap.size ≤ q) q := fun _ h => h
  have hbA : ¬ (fun q : Nat => s.heap.size ≤ q) b := Nat.not_le.mpr hbl
  by_cases c_10822 : a1 ≤ (-1)
  · skip
    refine lv_aload_n hx hb dL_law_1232 rfl (lv_at hl 2 rfl) ?_
    refine lv_aload_n hx hb dL_law_1233 rfl (lv_at hl 3 rfl) ?_
    refine lv_iload_n hx hb dL_law_1234 rfl (lv_at hl 0 rfl) ?_
    refine lv_iconst (v := 1) hx hb dL_law_1235 (by decide) ?_
    refine lv_iadd hx hb dL_law_1236 ?_
    refine q_c 1 (by decide +kernel) ?_
    refine va_sld X.1 X.2.1 hX hbl hbA h.2.2 (q_in (by decide +kernel)) dL_law_1237 ?_
    refine q_c a1 e1 ?_
    refine lv_aload_n hx hb dL_law_1238 rfl (lv_at hl 3 rfl) ?_
    refine lv_iload_n hx hb dL_law_1239 rfl (lv_at hl 0 rfl) ?_
    refine lv_iconst (v := 2) hx hb dL_law_1240 (by decide) ?_
    refine lv_iadd hx hb dL_law_1241 ?_
    refine q_c 2 (by decide +kernel) ?_
    refine va_sld X.1 X.2.1 hX hbl hbA h.2.2 (q_in (by decide +kernel)) dL_law_1242 ?_
    refine q_c a2 e2 ?_
    refine lv_aload_n hx hb dL_law_1243 rfl (lv_at hl 3 rfl) ?_
    refine lv_iload_n hx hb dL_law_1244 rfl (lv_at hl 0 rfl) ?_
    refine lv_iconst (v := 3) hx hb dL_law_1245 (by decide) ?_
    refine lv_iadd hx hb dL_law_1246 ?_
    refine q_c 3 (by decide +kernel) ?_
    refine va_sld X.1 X.2.1 hX hbl hbA h.2.2 (q_in (by decide +kernel)) dL_law_1247 ?_
    refine q_c a3 e3 ?_
    have g_10844 : a1 ≤ ((-1) : Int32) := by
      simp only [Int32.lt_iff_toInt_lt, Int32.le_iff_toInt_le, ← Int32.toInt_inj] at c_10822 ⊢
      have k_0 : ((-1) : Int32).toInt = -1 := by decide
      omega
    refine q_callVi (rest := []) (wr := [(y0, .inr (12, [.int 0, .ref (u_1.1 19), .ref (u_1.1 0), .ref (u_1.1 1), .ref (u_1.1 2), .int 0, .int 0, .int 0, .int 0, .int 0, .int 0, .int 0, .int 0, .int 0, .int (-1), .int 0, .ref (u_1.1 3), .ref (u_1.1 4), .ref (u_1.1 5), .ref (u_1.1 6), .ref (u_1.1 7), .int 0, .int 0, .ref (u_1.1 8), .ref (u_1.1 9), .ref (u_1.1 10), .int 0, .int 0, .ref (u_1.1 11), .ref (u_1.1 12), .ref (u_1.1 13), .ref (u_1.1 14), .ref (u_1.1 15), .int 0, .ref (u_1.1 16), .ref (u_1.1 17), .ref (u_1.1 18)]))]) X hK hA h (fun sz => kX11_numbers_427 l D cy x0 a1 a2 a3 (u_0.1 0) (u_0.1 1) (u_0.1 37) (u_0.1 39) (u_0.1 41) (u_0.1 43) (u_0.1 14) (u_0.1 15) (u_0.1 16) (u_0.1 17) (u_0.1 20) (u_0.1 24) (u_0.1 29) g_10844 sz) wm_5_120 wm_5_123 wm_1_1 hd_X11_numbers wm_5_121 wm_5_122 (ci := 11) (q0 := 0) rfl rfl ⟨Nat.le_of_ble_eq_true rfl, Nat.le_of_ble_eq_true rfl⟩ hl.1 rfl (Nat.le_of_ble_eq_true rfl) dL_law_1248 ⟨Nat.le_of_ble_eq_true rfl, Nat.le_of_ble_eq_true rfl⟩ [0] [78] rfl rfl (by decide) rfl rfl (fun r_10845 u_10845 Hp1 lc1 w_10845 hw1 => ?_)
    clear h
    obtain rfl : r_10845 = (-2) := w_10845
    replace hw1 : qW D _ _ [(y0, .inr (12, [.int 0, .ref (u_1.1 19), .ref (u_1.1 0), .ref (u_1.1 1), .ref (u_1.1 2), .int 0, .int 0, .int 0, .int 0, .int 0, .int 0, .int 0, .int 0, .int 0, .int (-1), .int 0, .ref (u_1.1 3), .ref (u_1.1 4), .ref (u_1.1 5), .ref (u_1.1 6), .ref (u_1.1 7), .int 0, .int 0, .ref (u_1.1 8), .ref (u_1.1 9), .ref (u_1.1 10), .int 0, .int 0, .ref (u_1.1 11), .ref (u_1.1 12), .ref (u_1.1 13), .ref (u_1.1 14), .ref (u_1.1 15), .int 0, .ref (u_1.1 16), .ref (u_1.1 17), .ref (u_1.1 18)]))] _ _ := hw1
    refine lv_aload_n hx hb dL_law_1251 rfl (lv_at hl 1 rfl) ?_
    refine lv_aload_n hx hb dL_law_1252 rfl (lv_at hl 3 rfl) ?_
    refine lv_iload_n hx hb dL_law_1253 rfl (lv_at hl 0 rfl) ?_
    refine lv_iconst (v := 1) hx hb dL_law_1254 (by decide) ?_
    refine lv_iadd hx hb dL_law_1255 ?_
    refine q_c 1 (by decide +kernel) ?_
    refine va_sld X.1 X.2.1 hX hbl hbA hw1.2.2 (q_in (by decide +kernel)) dL_law_1256 ?_
    refine q_c a1 e1 ?_
    refine lv_aload_n hx hb dL_law_1257 rfl (lv_at hl 3 rfl) ?_
    refine lv_iload_n hx hb dL_law_1258 rfl (lv_at hl 0 rfl) ?_
    refine lv_iconst (v := 2) hx hb dL_law_1259 (by decide) ?_
    refine lv_iadd hx hb dL_law_1260 ?_
    refine q_c 2 (by decide +kernel) ?_
    refine va_sld X.1 X.2.1 hX hbl hbA hw1.2.2 (q_in (by decide +kernel)) dL_law_1261 ?_
    refine q_c a2 e2 ?_
    refine lv_aload_n hx hb dL_law_1262 rfl (lv_at hl 3 rfl) ?_
    refine lv_iload_n hx hb dL_law_1263 rfl (lv_at hl 0 rfl) ?_
    refine lv_iconst (v := 3) hx hb dL_law_1264 (by decide) ?_
    refine lv_iadd hx hb dL_law_1265 ?_
    refine q_c 3 (by decide +kernel) ?_
    refine va_sld X.1 X.2.1 hX hbl hbA hw1.2.2 (q_in (by decide +kernel)) dL_law_1266 ?_
    refine q_c a3 e3 ?_
    have g_10849 : a1 ≤ ((-1) : Int32) := by
      simp only [Int32.lt_iff_toInt_lt, Int32.le_iff_toInt_le, ← Int32.toInt_inj] at c_10822 ⊢
      have k_0 : ((-1) : Int32).toInt = -1 := by decide
      omega
    refine q_callVi (rest := [.int (-2)]) (wr := []) X hK hA hw1 (fun sz => kX12_numbers_428 l D cy y0 a1 a2 a3 (u_1.1 19) (u_1.1 0) (u_1.1 1) (u_1.1 2) (u_1.1 3) (u_1.1 4) (u_1.1 5) (u_1.1 6) (u_1.1 7) (u_1.1 8) (u_1.1 9) (u_1.1 10) (u_1.1 11) (u_1.1 12) (u_1.1 13) (u_1.1 14) (u_1.1 15) (u_1.1 16) (u_1.1 17) (u_1.1 18) g_10849 sz) wm_8_27 wm_8_30 wm_1_12 hd_X12_numbers wm_8_28 wm_8_29 (ci := 12) (q0 := 0) rfl rfl ⟨Nat.le_of_ble_eq_true rfl, Nat.le_of_ble_eq_true rfl⟩ hl.1 rfl (Nat.le_of_ble_eq_true rfl) dL_law_1267 ⟨Nat.le_of_ble_eq_true rfl, Nat.le_of_ble_eq_true rfl⟩ [0] [] rfl rfl (by decide) rfl rfl (fun r_10850 u_10850 Hp2 lc2 w_10850 hw2 => ?_)
    clear Hp1 lc1 hw1
    obtain rfl : r_10850 = (-2) := w_10850
    replace hw2 : qW D _ _ [] _ _ := hw2
    refine lv_icmp_eq (tgt := 1461) hx hb dL_law_1270 (by decide) (fun _ => ?_) (fun c => absurd c (by decide +kernel))
    exact law_tail l X hr hlk hX hbl hw2.2.2 hl (Nat.le_of_ble_eq_true rfl) (Nat.le_of_ble_eq_true rfl)
  by_cases c_10851 : a1 = 0
  · subst c_10851
    by_cases c_10876 : a2 ≤ (-1)
    · skip
      refine lv_aload_n hx hb dL_law_1232 rfl (lv_at hl 2 rfl) ?_
      refine lv_aload_n hx hb dL_law_1233 rfl (lv_at hl 3 rfl) ?_
      refine lv_iload_n hx hb dL_law_1234 rfl (lv_at hl 0 rfl) ?_
      refine lv_iconst (v := 1) hx hb dL_law_1235 (by decide) ?_
      refine lv_iadd hx hb dL_law_1236 ?_
      refine q_c 1 (by decide +kernel) ?_
      refine va_sld X.1 X.2.1 hX hbl hbA h.2.2 (q_in (by decide +kernel)) dL_law_1237 ?_
      refine q_c 0 e1 ?_
      refine lv_aload_n hx hb dL_law_1238 rfl (lv_at hl 3 rfl) ?_
      refine lv_iload_n hx hb dL_law_1239 rfl (lv_at hl 0 rfl) ?_
      refine lv_iconst (v := 2) hx hb dL_law_1240 (by decide) ?_
      refine lv_iadd hx hb dL_law_1241 ?_
      refine q_c 2 (by decide +kernel) ?_
      refine va_sld X.1 X.2.1 hX hbl hbA h.2.2 (q_in (by decide +kernel)) dL_law_1242 ?_
      refine q_c a2 e2 ?_
      refine lv_aload_n hx hb dL_law_1243 rfl (lv_at hl 3 rfl) ?_
      refine lv_iload_n hx hb dL_law_1244 rfl (lv_at hl 0 rfl) ?_
      refine lv_iconst (v := 3) hx hb dL_law_1245 (by decide) ?_
      refine lv_iadd hx hb dL_law_1246 ?_
      refine q_c 3 (by decide +kernel) ?_
      refine va_sld X.1 X.2.1 hX hbl hbA h.2.2 (q_in (by decide +kernel)) dL_law_1247 ?_
      refine q_c a3 e3 ?_
      have g_10897 : a2 ≤ ((-1) : Int32) := by
        simp only [Int32.lt_iff_toInt_lt, Int32.le_iff_toInt_le, ← Int32.toInt_inj] at c_10876 ⊢
        have k_0 : ((-1) : Int32).toInt = -1 := by decide
        omega
      refine q_callVi (rest := []) (wr := [(y0, .inr (12, [.int 0, .ref (u_1.1 19), .ref (u_1.1 0), .ref (u_1.1 1), .ref (u_1.1 2), .int 0, .int 0, .int 0, .int 0, .int 0, .int 0, .int 0, .int 0, .int 0, .int (-1), .int 0, .ref (u_1.1 3), .ref (u_1.1 4), .ref (u_1.1 5), .ref (u_1.1 6), .ref (u_1.1 7), .int 0, .int 0, .ref (u_1.1 8), .ref (u_1.1 9), .ref (u_1.1 10), .int 0, .int 0, .ref (u_1.1 11), .ref (u_1.1 12), .ref (u_1.1 13), .ref (u_1.1 14), .ref (u_1.1 15), .int 0, .ref (u_1.1 16), .ref (u_1.1 17), .ref (u_1.1 18)]))]) X hK hA h (fun sz => kX11_numbers_431 l D cy x0 a2 a3 (u_0.1 0) (u_0.1 1) (u_0.1 37) (u_0.1 39) (u_0.1 41) (u_0.1 43) (u_0.1 14) (u_0.1 15) (u_0.1 16) (u_0.1 17) (u_0.1 20) (u_0.1 24) (u_0.1 29) g_10897 sz) wm_5_120 wm_5_123 wm_1_1 hd_X11_numbers wm_5_121 wm_5_122 (ci := 11) (q0 := 0) rfl rfl ⟨Nat.le_of_ble_eq_true rfl, Nat.le_of_ble_eq_true rfl⟩ hl.1 rfl (Nat.le_of_ble_eq_true rfl) dL_law_1248 ⟨Nat.le_of_ble_eq_true rfl, Nat.le_of_ble_eq_true rfl⟩ [0] [78] rfl rfl (by decide) rfl rfl (fun r_10898 u_10898 Hp3 lc3 w_10898 hw3 => ?_)
      clear h
      obtain rfl : r_10898 = (-2) := w_10898
      replace hw3 : qW D _ _ [(y0, .inr (12, [.int 0, .ref (u_1.1 19), .ref (u_1.1 0), .ref (u_1.1 1), .ref (u_1.1 2), .int 0, .int 0, .int 0, .int 0, .int 0, .int 0, .int 0, .int 0, .int 0, .int (-1), .int 0, .ref (u_1.1 3), .ref (u_1.1 4), .ref (u_1.1 5), .ref (u_1.1 6), .ref (u_1.1 7), .int 0, .int 0, .ref (u_1.1 8), .ref (u_1.1 9), .ref (u_1.1 10), .int 0, .int 0, .ref (u_1.1 11), .ref (u_1.1 12), .ref (u_1.1 13), .ref (u_1.1 14), .ref (u_1.1 15), .int 0, .ref (u_1.1 16), .ref (u_1.1 17), .ref (u_1.1 18)]))] _ _ := hw3
      refine lv_aload_n hx hb dL_law_1251 rfl (lv_at hl 1 rfl) ?_
      refine lv_aload_n hx hb dL_law_1252 rfl (lv_at hl 3 rfl) ?_
      refine lv_iload_n hx hb dL_law_1253 rfl (lv_at hl 0 rfl) ?_
      refine lv_iconst (v := 1) hx hb dL_law_1254 (by decide) ?_
      refine lv_iadd hx hb dL_law_1255 ?_
      refine q_c 1 (by decide +kernel) ?_
      refine va_sld X.1 X.2.1 hX hbl hbA hw3.2.2 (q_in (by decide +kernel)) dL_law_1256 ?_
      refine q_c 0 e1 ?_
      refine lv_aload_n hx hb dL_law_1257 rfl (lv_at hl 3 rfl) ?_
      refine lv_iload_n hx hb dL_law_1258 rfl (lv_at hl 0 rfl) ?_
      refine lv_iconst (v := 2) hx hb dL_law_1259 (by decide) ?_
      refine lv_iadd hx hb dL_law_1260 ?_
      refine q_c 2 (by decide +kernel) ?_
      refine va_sld X.1 X.2.1 hX hbl hbA hw3.2.2 (q_in (by decide +kernel)) dL_law_1261 ?_
      refine q_c a2 e2 ?_
      refine lv_aload_n hx hb dL_law_1262 rfl (lv_at hl 3 rfl) ?_
      refine lv_iload_n hx hb dL_law_1263 rfl (lv_at hl 0 rfl) ?_
      refine lv_iconst (v := 3) hx hb dL_law_1264 (by decide) ?_
      refine lv_iadd hx hb dL_law_1265 ?_
      refine q_c 3 (by decide +kernel) ?_
      refine va_sld X.1 X.2.1 hX hbl hbA hw3.2.2 (q_in (by decide +kernel)) dL_law_1266 ?_
      refine q_c a3 e3 ?_
      have g_10903 : a2 ≤ ((-1) : Int32) := by
        simp only [Int32.lt_iff_toInt_lt, Int32.le_iff_toInt_le, ← Int32.toInt_inj] at c_10876 ⊢
        have k_0 : ((-1) : Int32).toInt = -1 := by decide
        omega
      refine q_callVi (rest := [.int (-2)]) (wr := []) X hK hA hw3 (fun sz => kX12_numbers_432 l D cy y0 a2 a3 (u_1.1 19) (u_1.1 0) (u_1.1 1) (u_1.1 2) (u_1.1 3) (u_1.1 4) (u_1.1 5) (u_1.1 6) (u_1.1 7) (u_1.1 8) (u_1.1 9) (u_1.1 10) (u_1.1 11) (u_1.1 12) (u_1.1 13) (u_1.1 14) (u_1.1 15) (u_1.1 16) (u_1.1 17) (u_1.1 18) g_10903 sz) wm_8_27 wm_8_30 wm_1_12 hd_X12_numbers wm_8_28 wm_8_29 (ci := 12) (q0 := 0) rfl rfl ⟨Nat.le_of_ble_eq_true rfl, Nat.le_of_ble_eq_true rfl⟩ hl.1 rfl (Nat.le_of_ble_eq_true rfl) dL_law_1267 ⟨Nat.le_of_ble_eq_true rfl, Nat.le_of_ble_eq_true rfl⟩ [0] [] rfl rfl (by decide) rfl rfl (fun r_10904 u_10904 Hp4 lc4 w_10904 hw4 => ?_)
      clear Hp3 lc3 hw3
      obtain rfl : r_10904 = (-2) := w_10904
      replace hw4 : qW D _ _ [] _ _ := hw4
      refine lv_icmp_eq (tgt := 1461) hx hb dL_law_1270 (by decide) (fun _ => ?_) (fun c => absurd c (by decide +kernel))
      exact law_tail l X hr hlk hX hbl hw4.2.2 hl (Nat.le_of_ble_eq_true rfl) (Nat.le_of_ble_eq_true rfl)
    by_cases c_10905 : a2 ≤ 3
    · skip
      by_cases c_10928 : a3 ≤ (-1)
      · skip
        refine lv_aload_n hx hb dL_law_1232 rfl (lv_at hl 2 rfl) ?_
        refine lv_aload_n hx hb dL_law_1233 rfl (lv_at hl 3 rfl) ?_
        refine lv_iload_n hx hb dL_law_1234 rfl (lv_at hl 0 rfl) ?_
        refine lv_iconst (v := 1) hx hb dL_law_1235 (by decide) ?_
        refine lv_iadd hx hb dL_law_1236 ?_
        refine q_c 1 (by decide +kernel) ?_
        refine va_sld X.1 X.2.1 hX hbl hbA h.2.2 (q_in (by decide +kernel)) dL_law_1237 ?_
        refine q_c 0 e1 ?_
        refine lv_aload_n hx hb dL_law_1238 rfl (lv_at hl 3 rfl) ?_
        refine lv_iload_n hx hb dL_law_1239 rfl (lv_at hl 0 rfl) ?_
        refine lv_iconst (v := 2) hx hb dL_law_1240 (by decide) ?_
        refine lv_iadd hx hb dL_law_1241 ?_
        refine q_c 2 (by decide +kernel) ?_
        refine va_sld X.1 X.2.1 hX hbl hbA h.2.2 (q_in (by decide +kernel)) dL_law_1242 ?_
        refine q_c a2 e2 ?_
        refine lv_aload_n hx hb dL_law_1243 rfl (lv_at hl 3 rfl) ?_
        refine lv_iload_n hx hb dL_law_1244 rfl (lv_at hl 0 rfl) ?_
        refine lv_iconst (v := 3) hx hb dL_law_1245 (by decide) ?_
        refine lv_iadd hx hb dL_law_1246 ?_
        refine q_c 3 (by decide +kernel) ?_
        refine va_sld X.1 X.2.1 hX hbl hbA h.2.2 (q_in (by decide +kernel)) dL_law_1247 ?_
        refine q_c a3 e3 ?_
        have g_10974 : (0 : Int32) ≤ a2 := by
          simp only [Int32.lt_iff_toInt_lt, Int32.le_iff_toInt_le, ← Int32.toInt_inj] at c_10876 c_10905 ⊢
          have k_0 : ((-1) : Int32).toInt = -1 := by decide
          have k_1 : (3 : Int32).toInt = 3 := by decide
          have k_g : (0 : Int32).toInt = 0 := by decide
          omega
        have g_10975 : a2 ≤ (3 : Int32) := by
          simp only [Int32.lt_iff_toInt_lt, Int32.le_iff_toInt_le, ← Int32.toInt_inj] at c_10876 c_10905 ⊢
          have k_0 : ((-1) : Int32).toInt = -1 := by decide
          have k_1 : (3 : Int32).toInt = 3 := by decide
          omega
        have g_10976 : a3 ≤ ((-1) : Int32) := by
          simp only [Int32.lt_iff_toInt_lt, Int32.le_iff_toInt_le, ← Int32.toInt_inj] at c_10928 ⊢
          have k_0 : ((-1) : Int32).toInt = -1 := by decide
          omega
        refine q_callVi (rest := []) (wr := [(y0, .inr (12, [.int 0, .ref (u_1.1 19), .ref (u_1.1 0), .ref (u_1.1 1), .ref (u_1.1 2), .int 0, .int 0, .int 0, .int 0, .int 0, .int 0, .int 0, .int 0, .int 0, .int (-1), .int 0, .ref (u_1.1 3), .ref (u_1.1 4), .ref (u_1.1 5), .ref (u_1.1 6), .ref (u_1.1 7), .int 0, .int 0, .ref (u_1.1 8), .ref (u_1.1 9), .ref (u_1.1 10), .int 0, .int 0, .ref (u_1.1 11), .ref (u_1.1 12), .ref (u_1.1 13), .ref (u_1.1 14), .ref (u_1.1 15), .int 0, .ref (u_1.1 16), .ref (u_1.1 17), .ref (u_1.1 18)]))]) X hK hA h (fun sz => kX11_numbers_433 l D cy x0 a2 a3 (u_0.1 0) (u_0.1 1) (u_0.1 37) (u_0.1 39) (u_0.1 41) (u_0.1 43) (u_0.1 14) (u_0.1 15) (u_0.1 16) (u_0.1 17) (u_0.1 20) (u_0.1 24) (u_0.1 29) g_10974 g_10975 g_10976 sz) wm_5_120 wm_5_123 wm_1_1 hd_X11_numbers wm_5_121 wm_5_122 (ci := 11) (q0 := 0) rfl rfl ⟨Nat.le_of_ble_eq_true rfl, Nat.le_of_ble_eq_true rfl⟩ hl.1 rfl (Nat.le_of_ble_eq_true rfl) dL_law_1248 ⟨Nat.le_of_ble_eq_true rfl, Nat.le_of_ble_eq_true rfl⟩ [0] [78] rfl rfl (by decide) rfl rfl (fun r_10977 u_10977 Hp5 lc5 w_10977 hw5 => ?_)
        clear h
        obtain rfl : r_10977 = (-3) := w_10977
        replace hw5 : qW D _ _ [(y0, .inr (12, [.int 0, .ref (u_1.1 19), .ref (u_1.1 0), .ref (u_1.1 1), .ref (u_1.1 2), .int 0, .int 0, .int 0, .int 0, .int 0, .int 0, .int 0, .int 0, .int 0, .int (-1), .int 0, .ref (u_1.1 3), .ref (u_1.1 4), .ref (u_1.1 5), .ref (u_1.1 6), .ref (u_1.1 7), .int 0, .int 0, .ref (u_1.1 8), .ref (u_1.1 9), .ref (u_1.1 10), .int 0, .int 0, .ref (u_1.1 11), .ref (u_1.1 12), .ref (u_1.1 13), .ref (u_1.1 14), .ref (u_1.1 15), .int 0, .ref (u_1.1 16), .ref (u_1.1 17), .ref (u_1.1 18)]))] _ _ := hw5
        refine lv_aload_n hx hb dL_law_1251 rfl (lv_at hl 1 rfl) ?_
        refine lv_aload_n hx hb dL_law_1252 rfl (lv_at hl 3 rfl) ?_
        refine lv_iload_n hx hb dL_law_1253 rfl (lv_at hl 0 rfl) ?_
        refine lv_iconst (v := 1) hx hb dL_law_1254 (by decide) ?_
        refine lv_iadd hx hb dL_law_1255 ?_
        refine q_c 1 (by decide +kernel) ?_
        refine va_sld X.1 X.2.1 hX hbl hbA hw5.2.2 (q_in (by decide +kernel)) dL_law_1256 ?_
        refine q_c 0 e1 ?_
        refine lv_aload_n hx hb dL_law_1257 rfl (lv_at hl 3 rfl) ?_
        refine lv_iload_n hx hb dL_law_1258 rfl (lv_at hl 0 rfl) ?_
        refine lv_iconst (v := 2) hx hb dL_law_1259 (by decide) ?_
        refine lv_iadd hx hb dL_law_1260 ?_
        refine q_c 2 (by decide +kernel) ?_
        refine va_sld X.1 X.2.1 hX hbl hbA hw5.2.2 (q_in (by decide +kernel)) dL_law_1261 ?_
        refine q_c a2 e2 ?_
        refine lv_aload_n hx hb dL_law_1262 rfl (lv_at hl 3 rfl) ?_
        refine lv_iload_n hx hb dL_law_1263 rfl (lv_at hl 0 rfl) ?_
        refine lv_iconst (v := 3) hx hb dL_law_1264 (by decide) ?_
        refine lv_iadd hx hb dL_law_1265 ?_
        refine q_c 3 (by decide +kernel) ?_
        refine va_sld X.1 X.2.1 hX hbl hbA hw5.2.2 (q_in (by decide +kernel)) dL_law_1266 ?_
        refine q_c a3 e3 ?_
        have g_10987 : (0 : Int32) ≤ a2 := by
          simp only [Int32.lt_iff_toInt_lt, Int32.le_iff_toInt_le, ← Int32.toInt_inj] at c_10876 c_10905 ⊢
          have k_0 : ((-1) : Int32).toInt = -1 := by decide
          have k_1 : (3 : Int32).toInt = 3 := by decide
          have k_g : (0 : Int32).toInt = 0 := by decide
          omega
        have g_10988 : a2 ≤ (3 : Int32) := by
          simp only [Int32.lt_iff_toInt_lt, Int32.le_iff_toInt_le, ← Int32.toInt_inj] at c_10876 c_10905 ⊢
          have k_0 : ((-1) : Int32).toInt = -1 := by decide
          have k_1 : (3 : Int32).toInt = 3 := by decide
          omega
        have g_10989 : a3 ≤ ((-1) : Int32) := by
          simp only [Int32.lt_iff_toInt_lt, Int32.le_iff_toInt_le, ← Int32.toInt_inj] at c_10928 ⊢
          have k_0 : ((-1) : Int32).toInt = -1 := by decide
          omega
        refine q_callVi (rest := [.int (-3)]) (wr := []) X hK hA hw5 (fun sz => kX12_numbers_435 l D cy y0 a2 a3 (u_1.1 19) (u_1.1 0) (u_1.1 1) (u_1.1 2) (u_1.1 3) (u_1.1 4) (u_1.1 5) (u_1.1 6) (u_1.1 7) (u_1.1 8) (u_1.1 9) (u_1.1 10) (u_1.1 11) (u_1.1 12) (u_1.1 13) (u_1.1 14) (u_1.1 15) (u_1.1 16) (u_1.1 17) (u_1.1 18) g_10987 g_10988 g_10989 sz) wm_8_27 wm_8_30 wm_1_12 hd_X12_numbers wm_8_28 wm_8_29 (ci := 12) (q0 := 0) rfl rfl ⟨Nat.le_of_ble_eq_true rfl, Nat.le_of_ble_eq_true rfl⟩ hl.1 rfl (Nat.le_of_ble_eq_true rfl) dL_law_1267 ⟨Nat.le_of_ble_eq_true rfl, Nat.le_of_ble_eq_true rfl⟩ [0] [] rfl rfl (by decide) rfl rfl (fun r_10990 u_10990 Hp6 lc6 w_10990 hw6 => ?_)
        clear Hp5 lc5 hw5
        obtain rfl : r_10990 = (-3) := w_10990
        replace hw6 : qW D _ _ [] _ _ := hw6
        refine lv_icmp_eq (tgt := 1461) hx hb dL_law_1270 (by decide) (fun _ => ?_) (fun c => absurd c (by decide +kernel))
        exact law_tail l X hr hlk hX hbl hw6.2.2 hl (Nat.le_of_ble_eq_true rfl) (Nat.le_of_ble_eq_true rfl)
      by_cases c_10991 : a3 ≤ 40
      · skip
        refine lv_aload_n hx hb dL_law_1232 rfl (lv_at hl 2 rfl) ?_
        refine lv_aload_n hx hb dL_law_1233 rfl (lv_at hl 3 rfl) ?_
        refine lv_iload_n hx hb dL_law_1234 rfl (lv_at hl 0 rfl) ?_
        refine lv_iconst (v := 1) hx hb dL_law_1235 (by decide) ?_
        refine lv_iadd hx hb dL_law_1236 ?_
        refine q_c 1 (by decide +kernel) ?_
        refine va_sld X.1 X.2.1 hX hbl hbA h.2.2 (q_in (by decide +kernel)) dL_law_1237 ?_
        refine q_c 0 e1 ?_
        refine lv_aload_n hx hb dL_law_1238 rfl (lv_at hl 3 rfl) ?_
        refine lv_iload_n hx hb dL_law_1239 rfl (lv_at hl 0 rfl) ?_
        refine lv_iconst (v := 2) hx hb dL_law_1240 (by decide) ?_
        refine lv_iadd hx hb dL_law_1241 ?_
        refine q_c 2 (by decide +kernel) ?_
        refine va_sld X.1 X.2.1 hX hbl hbA h.2.2 (q_in (by decide +kernel)) dL_law_1242 ?_
        refine q_c a2 e2 ?_
        refine lv_aload_n hx hb dL_law_1243 rfl (lv_at hl 3 rfl) ?_
        refine lv_iload_n hx hb dL_law_1244 rfl (lv_at hl 0 rfl) ?_
        refine lv_iconst (v := 3) hx hb dL_law_1245 (by decide) ?_
        refine lv_iadd hx hb dL_law_1246 ?_
        refine q_c 3 (by decide +kernel) ?_
        refine va_sld X.1 X.2.1 hX hbl hbA h.2.2 (q_in (by decide +kernel)) dL_law_1247 ?_
        refine q_c a3 e3 ?_
        have g_11079 : (0 : Int32) ≤ a2 := by
          simp only [Int32.lt_iff_toInt_lt, Int32.le_iff_toInt_le, ← Int32.toInt_inj] at c_10876 c_10905 ⊢
          have k_0 : ((-1) : Int32).toInt = -1 := by decide
          have k_1 : (3 : Int32).toInt = 3 := by decide
          have k_g : (0 : Int32).toInt = 0 := by decide
          omega
        have g_11080 : a2 ≤ (3 : Int32) := by
          simp only [Int32.lt_iff_toInt_lt, Int32.le_iff_toInt_le, ← Int32.toInt_inj] at c_10876 c_10905 ⊢
          have k_0 : ((-1) : Int32).toInt = -1 := by decide
          have k_1 : (3 : Int32).toInt = 3 := by decide
          omega
        have g_11081 : (0 : Int32) ≤ a3 := by
          simp only [Int32.lt_iff_toInt_lt, Int32.le_iff_toInt_le, ← Int32.toInt_inj] at c_10928 c_10991 ⊢
          have k_0 : ((-1) : Int32).toInt = -1 := by decide
          have k_1 : (40 : Int32).toInt = 40 := by decide
          have k_g : (0 : Int32).toInt = 0 := by decide
          omega
        have g_11082 : a3 ≤ (40 : Int32) := by
          simp only [Int32.lt_iff_toInt_lt, Int32.le_iff_toInt_le, ← Int32.toInt_inj] at c_10928 c_10991 ⊢
          have k_0 : ((-1) : Int32).toInt = -1 := by decide
          have k_1 : (40 : Int32).toInt = 40 := by decide
          omega
        refine q_callVi (rest := []) (wr := [(y0, .inr (12, [.int 0, .ref (u_1.1 19), .ref (u_1.1 0), .ref (u_1.1 1), .ref (u_1.1 2), .int 0, .int 0, .int 0, .int 0, .int 0, .int 0, .int 0, .int 0, .int 0, .int (-1), .int 0, .ref (u_1.1 3), .ref (u_1.1 4), .ref (u_1.1 5), .ref (u_1.1 6), .ref (u_1.1 7), .int 0, .int 0, .ref (u_1.1 8), .ref (u_1.1 9), .ref (u_1.1 10), .int 0, .int 0, .ref (u_1.1 11), .ref (u_1.1 12), .ref (u_1.1 13), .ref (u_1.1 14), .ref (u_1.1 15), .int 0, .ref (u_1.1 16), .ref (u_1.1 17), .ref (u_1.1 18)])), ((u_1.1 16), .inl (cy 1, 4, .inl (upd (upd (upd (upd (fun _ => 0) (Int32.toNatClampNeg 0) (-1)) (Int32.toNatClampNeg 1) (-1)) (Int32.toNatClampNeg 2) (-1)) (Int32.toNatClampNeg 3) (-1)))), ((u_1.1 17), .inl (cy 1, 4, .inl (fun _ => 0))), ((u_1.1 18), .inl (cy 2, 160, .inr (.inl (fun _ => 0))))]) X hK hA h (fun sz => kX11_numbers_436 l D cy x0 (u_0.1 14) (u_0.1 65) (u_0.1 66) a2 a3 (u_0.1 0) (u_0.1 1) (u_0.1 37) (u_0.1 39) (u_0.1 41) (u_0.1 43) (u_0.1 15) (u_0.1 16) (u_0.1 17) (u_0.1 20) (u_0.1 24) (u_0.1 29) (u_0.1 71) (u_0.1 69) (u_0.1 67) g_11079 g_11080 g_11081 g_11082 sz) wm_5_120 wm_5_123 wm_1_1 hd_X11_numbers wm_5_121 wm_5_122 (ci := 11) (q0 := 0) rfl rfl ⟨Nat.le_of_ble_eq_true rfl, Nat.le_of_ble_eq_true rfl⟩ hl.1 rfl (Nat.le_of_ble_eq_true rfl) dL_law_1248 ⟨Nat.le_of_ble_eq_true rfl, Nat.le_of_ble_eq_true rfl⟩ [0, 15, 66, 67] [78, 95, 96, 97] rfl rfl (by decide) rfl rfl (fun r_11083 u_11083 Hp7 lc7 w_11083 hw7 => ?_)
        clear h
        obtain rfl : r_11083 = 0 := w_11083
        replace hw7 : qW D _ _ [(y0, .inr (12, [.int 0, .ref (u_1.1 19), .ref (u_1.1 0), .ref (u_1.1 1), .ref (u_1.1 2), .int 0, .int 0, .int 0, .int 0, .int 0, .int 0, .int 0, .int 0, .int 0, .int (-1), .int 0, .ref (u_1.1 3), .ref (u_1.1 4), .ref (u_1.1 5), .ref (u_1.1 6), .ref (u_1.1 7), .int 0, .int 0, .ref (u_1.1 8), .ref (u_1.1 9), .ref (u_1.1 10), .int 0, .int 0, .ref (u_1.1 11), .ref (u_1.1 12), .ref (u_1.1 13), .ref (u_1.1 14), .ref (u_1.1 15), .int 0, .ref (u_1.1 16), .ref (u_1.1 17), .ref (u_1.1 18)])), ((u_1.1 16), .inl (cy 1, 4, .inl (upd (upd (upd (upd (fun _ => 0) (Int32.toNatClampNeg 0) (-1)) (Int32.toNatClampNeg 1) (-1)) (Int32.toNatClampNeg 2) (-1)) (Int32.toNatClampNeg 3) (-1)))), ((u_1.1 17), .inl (cy 1, 4, .inl (fun _ => 0))), ((u_1.1 18), .inl (cy 2, 160, .inr (.inl (fun _ => 0))))] _ _ := hw7
        refine lv_aload_n hx hb dL_law_1251 rfl (lv_at hl 1 rfl) ?_
        refine lv_aload_n hx hb dL_law_1252 rfl (lv_at hl 3 rfl) ?_
        refine lv_iload_n hx hb dL_law_1253 rfl (lv_at hl 0 rfl) ?_
        refine lv_iconst (v := 1) hx hb dL_law_1254 (by decide) ?_
        refine lv_iadd hx hb dL_law_1255 ?_
        refine q_c 1 (by decide +kernel) ?_
        refine va_sld X.1 X.2.1 hX hbl hbA hw7.2.2 (q_in (by decide +kernel)) dL_law_1256 ?_
        refine q_c 0 e1 ?_
        refine lv_aload_n hx hb dL_law_1257 rfl (lv_at hl 3 rfl) ?_
        refine lv_iload_n hx hb dL_law_1258 rfl (lv_at hl 0 rfl) ?_
        refine lv_iconst (v := 2) hx hb dL_law_1259 (by decide) ?_
        refine lv_iadd hx hb dL_law_1260 ?_
        refine q_c 2 (by decide +kernel) ?_
        refine va_sld X.1 X.2.1 hX hbl hbA hw7.2.2 (q_in (by decide +kernel)) dL_law_1261 ?_
        refine q_c a2 e2 ?_
        refine lv_aload_n hx hb dL_law_1262 rfl (lv_at hl 3 rfl) ?_
        refine lv_iload_n hx hb dL_law_1263 rfl (lv_at hl 0 rfl) ?_
        refine lv_iconst (v := 3) hx hb dL_law_1264 (by decide) ?_
        refine lv_iadd hx hb dL_law_1265 ?_
        refine q_c 3 (by decide +kernel) ?_
        refine va_sld X.1 X.2.1 hX hbl hbA hw7.2.2 (q_in (by decide +kernel)) dL_law_1266 ?_
        refine q_c a3 e3 ?_
        have g_11097 : (0 : Int32) ≤ a2 := by
          simp only [Int32.lt_iff_toInt_lt, Int32.le_iff_toInt_le, ← Int32.toInt_inj] at c_10876 c_10905 ⊢
          have k_0 : ((-1) : Int32).toInt = -1 := by decide
          have k_1 : (3 : Int32).toInt = 3 := by decide
          have k_g : (0 : Int32).toInt = 0 := by decide
          omega
        have g_11098 : a2 ≤ (3 : Int32) := by
          simp only [Int32.lt_iff_toInt_lt, Int32.le_iff_toInt_le, ← Int32.toInt_inj] at c_10876 c_10905 ⊢
          have k_0 : ((-1) : Int32).toInt = -1 := by decide
          have k_1 : (3 : Int32).toInt = 3 := by decide
          omega
        have g_11099 : (0 : Int32) ≤ a3 := by
          simp only [Int32.lt_iff_toInt_lt, Int32.le_iff_toInt_le, ← Int32.toInt_inj] at c_10928 c_10991 ⊢
          have k_0 : ((-1) : Int32).toInt = -1 := by decide
          have k_1 : (40 : Int32).toInt = 40 := by decide
          have k_g : (0 : Int32).toInt = 0 := by decide
          omega
        have g_11100 : a3 ≤ (40 : Int32) := by
          simp only [Int32.lt_iff_toInt_lt, Int32.le_iff_toInt_le, ← Int32.toInt_inj] at c_10928 c_10991 ⊢
          have k_0 : ((-1) : Int32).toInt = -1 := by decide
          have k_1 : (40 : Int32).toInt = 40 := by decide
          omega
        refine q_callVi (rest := [.int 0]) (wr := []) X hK hA hw7 (fun sz => kX12_numbers_438 l D cy y0 (u_1.1 16) (u_1.1 17) (u_1.1 18) (upd (upd (upd (upd (fun _ => 0) (Int32.toNatClampNeg 0) (-1)) (Int32.toNatClampNeg 1) (-1)) (Int32.toNatClampNeg 2) (-1)) (Int32.toNatClampNeg 3) (-1)) a2 a3 (u_1.1 19) (u_1.1 0) (u_1.1 1) (u_1.1 2) (u_1.1 3) (u_1.1 4) (u_1.1 5) (u_1.1 6) (u_1.1 7) (u_1.1 8) (u_1.1 9) (u_1.1 10) (u_1.1 11) (u_1.1 12) (u_1.1 13) (u_1.1 14) (u_1.1 15) g_11097 g_11098 g_11099 g_11100 sz) wm_8_27 wm_8_30 wm_1_12 hd_X12_numbers wm_8_28 wm_8_29 (ci := 12) (q0 := 0) rfl rfl ⟨Nat.le_of_ble_eq_true rfl, Nat.le_of_ble_eq_true rfl⟩ hl.1 rfl (Nat.le_of_ble_eq_true rfl) dL_law_1267 ⟨Nat.le_of_ble_eq_true rfl, Nat.le_of_ble_eq_true rfl⟩ [0, 1, 2, 3] [] rfl rfl (by decide) rfl rfl (fun r_11101 u_11101 Hp8 lc8 w_11101 hw8 => ?_)
        clear Hp7 lc7 hw7
        obtain rfl : r_11101 = 0 := w_11101
        replace hw8 : qW D _ _ [] _ _ := hw8
        refine lv_icmp_eq (tgt := 1461) hx hb dL_law_1270 (by decide) (fun _ => ?_) (fun c => absurd c (by decide +kernel))
        exact law_tail l X hr hlk hX hbl hw8.2.2 hl (Nat.le_of_ble_eq_true rfl) (Nat.le_of_ble_eq_true rfl)
      refine lv_aload_n hx hb dL_law_1232 rfl (lv_at hl 2 rfl) ?_
      refine lv_aload_n hx hb dL_law_1233 rfl (lv_at hl 3 rfl) ?_
      refine lv_iload_n hx hb dL_law_1234 rfl (lv_at hl 0 rfl) ?_
      refine lv_iconst (v := 1) hx hb dL_law_1235 (by decide) ?_
      refine lv_iadd hx hb dL_law_1236 ?_
      refine q_c 1 (by decide +kernel) ?_
      refine va_sld X.1 X.2.1 hX hbl hbA h.2.2 (q_in (by decide +kernel)) dL_law_1237 ?_
      refine q_c 0 e1 ?_
      refine lv_aload_n hx hb dL_law_1238 rfl (lv_at hl 3 rfl) ?_
      refine lv_iload_n hx hb dL_law_1239 rfl (lv_at hl 0 rfl) ?_
      refine lv_iconst (v := 2) hx hb dL_law_1240 (by decide) ?_
      refine lv_iadd hx hb dL_law_1241 ?_
      refine q_c 2 (by decide +kernel) ?_
      refine va_sld X.1 X.2.1 hX hbl hbA h.2.2 (q_in (by decide +kernel)) dL_law_1242 ?_
      refine q_c a2 e2 ?_
      refine lv_aload_n hx hb dL_law_1243 rfl (lv_at hl 3 rfl) ?_
      refine lv_iload_n hx hb dL_law_1244 rfl (lv_at hl 0 rfl) ?_
      refine lv_iconst (v := 3) hx hb dL_law_1245 (by decide) ?_
      refine lv_iadd hx hb dL_law_1246 ?_
      refine q_c 3 (by decide +kernel) ?_
      refine va_sld X.1 X.2.1 hX hbl hbA h.2.2 (q_in (by decide +kernel)) dL_law_1247 ?_
      refine q_c a3 e3 ?_
      have g_11157 : (0 : Int32) ≤ a2 := by
        simp only [Int32.lt_iff_toInt_lt, Int32.le_iff_toInt_le, ← Int32.toInt_inj] at c_10876 c_10905 ⊢
        have k_0 : ((-1) : Int32).toInt = -1 := by decide
        have k_1 : (3 : Int32).toInt = 3 := by decide
        have k_g : (0 : Int32).toInt = 0 := by decide
        omega
      have g_11158 : a2 ≤ (3 : Int32) := by
        simp only [Int32.lt_iff_toInt_lt, Int32.le_iff_toInt_le, ← Int32.toInt_inj] at c_10876 c_10905 ⊢
        have k_0 : ((-1) : Int32).toInt = -1 := by decide
        have k_1 : (3 : Int32).toInt = 3 := by decide
        omega
      have g_11159 : (41 : Int32) ≤ a3 := by
        simp only [Int32.lt_iff_toInt_lt, Int32.le_iff_toInt_le, ← Int32.toInt_inj] at c_10928 c_10991 ⊢
        have k_0 : ((-1) : Int32).toInt = -1 := by decide
        have k_1 : (40 : Int32).toInt = 40 := by decide
        have k_g : (41 : Int32).toInt = 41 := by decide
        omega
      refine q_callVi (rest := []) (wr := [(y0, .inr (12, [.int 0, .ref (u_1.1 19), .ref (u_1.1 0), .ref (u_1.1 1), .ref (u_1.1 2), .int 0, .int 0, .int 0, .int 0, .int 0, .int 0, .int 0, .int 0, .int 0, .int (-1), .int 0, .ref (u_1.1 3), .ref (u_1.1 4), .ref (u_1.1 5), .ref (u_1.1 6), .ref (u_1.1 7), .int 0, .int 0, .ref (u_1.1 8), .ref (u_1.1 9), .ref (u_1.1 10), .int 0, .int 0, .ref (u_1.1 11), .ref (u_1.1 12), .ref (u_1.1 13), .ref (u_1.1 14), .ref (u_1.1 15), .int 0, .ref (u_1.1 16), .ref (u_1.1 17), .ref (u_1.1 18)]))]) X hK hA h (fun sz => kX11_numbers_439 l D cy x0 a2 a3 (u_0.1 0) (u_0.1 1) (u_0.1 37) (u_0.1 39) (u_0.1 41) (u_0.1 43) (u_0.1 14) (u_0.1 15) (u_0.1 16) (u_0.1 17) (u_0.1 20) (u_0.1 24) (u_0.1 29) g_11157 g_11158 g_11159 sz) wm_5_120 wm_5_123 wm_1_1 hd_X11_numbers wm_5_121 wm_5_122 (ci := 11) (q0 := 0) rfl rfl ⟨Nat.le_of_ble_eq_true rfl, Nat.le_of_ble_eq_true rfl⟩ hl.1 rfl (Nat.le_of_ble_eq_true rfl) dL_law_1248 ⟨Nat.le_of_ble_eq_true rfl, Nat.le_of_ble_eq_true rfl⟩ [0] [78] rfl rfl (by decide) rfl rfl (fun r_11160 u_11160 Hp9 lc9 w_11160 hw9 => ?_)
      clear h
      obtain rfl : r_11160 = (-3) := w_11160
      replace hw9 : qW D _ _ [(y0, .inr (12, [.int 0, .ref (u_1.1 19), .ref (u_1.1 0), .ref (u_1.1 1), .ref (u_1.1 2), .int 0, .int 0, .int 0, .int 0, .int 0, .int 0, .int 0, .int 0, .int 0, .int (-1), .int 0, .ref (u_1.1 3), .ref (u_1.1 4), .ref (u_1.1 5), .ref (u_1.1 6), .ref (u_1.1 7), .int 0, .int 0, .ref (u_1.1 8), .ref (u_1.1 9), .ref (u_1.1 10), .int 0, .int 0, .ref (u_1.1 11), .ref (u_1.1 12), .ref (u_1.1 13), .ref (u_1.1 14), .ref (u_1.1 15), .int 0, .ref (u_1.1 16), .ref (u_1.1 17), .ref (u_1.1 18)]))] _ _ := hw9
      refine lv_aload_n hx hb dL_law_1251 rfl (lv_at hl 1 rfl) ?_
      refine lv_aload_n hx hb dL_law_1252 rfl (lv_at hl 3 rfl) ?_
      refine lv_iload_n hx hb dL_law_1253 rfl (lv_at hl 0 rfl) ?_
      refine lv_iconst (v := 1) hx hb dL_law_1254 (by decide) ?_
      refine lv_iadd hx hb dL_law_1255 ?_
      refine q_c 1 (by decide +kernel) ?_
      refine va_sld X.1 X.2.1 hX hbl hbA hw9.2.2 (q_in (by decide +kernel)) dL_law_1256 ?_
      refine q_c 0 e1 ?_
      refine lv_aload_n hx hb dL_law_1257 rfl (lv_at hl 3 rfl) ?_
      refine lv_iload_n hx hb dL_law_1258 rfl (lv_at hl 0 rfl) ?_
      refine lv_iconst (v := 2) hx hb dL_law_1259 (by decide) ?_
      refine lv_iadd hx hb dL_law_1260 ?_
      refine q_c 2 (by decide +kernel) ?_
      refine va_sld X.1 X.2.1 hX hbl hbA hw9.2.2 (q_in (by decide +kernel)) dL_law_1261 ?_
      refine q_c a2 e2 ?_
      refine lv_aload_n hx hb dL_law_1262 rfl (lv_at hl 3 rfl) ?_
      refine lv_iload_n hx hb dL_law_1263 rfl (lv_at hl 0 rfl) ?_
      refine lv_iconst (v := 3) hx hb dL_law_1264 (by decide) ?_
      refine lv_iadd hx hb dL_law_1265 ?_
      refine q_c 3 (by decide +kernel) ?_
      refine va_sld X.1 X.2.1 hX hbl hbA hw9.2.2 (q_in (by decide +kernel)) dL_law_1266 ?_
      refine q_c a3 e3 ?_
      have g_11171 : (0 : Int32) ≤ a2 := by
        simp only [Int32.lt_iff_toInt_lt, Int32.le_iff_toInt_le, ← Int32.toInt_inj] at c_10876 c_10905 ⊢
        have k_0 : ((-1) : Int32).toInt = -1 := by decide
        have k_1 : (3 : Int32).toInt = 3 := by decide
        have k_g : (0 : Int32).toInt = 0 := by decide
        omega
      have g_11172 : a2 ≤ (3 : Int32) := by
        simp only [Int32.lt_iff_toInt_lt, Int32.le_iff_toInt_le, ← Int32.toInt_inj] at c_10876 c_10905 ⊢
        have k_0 : ((-1) : Int32).toInt = -1 := by decide
        have k_1 : (3 : Int32).toInt = 3 := by decide
        omega
      have g_11173 : (41 : Int32) ≤ a3 := by
        simp only [Int32.lt_iff_toInt_lt, Int32.le_iff_toInt_le, ← Int32.toInt_inj] at c_10928 c_10991 ⊢
        have k_0 : ((-1) : Int32).toInt = -1 := by decide
        have k_1 : (40 : Int32).toInt = 40 := by decide
        have k_g : (41 : Int32).toInt = 41 := by decide
        omega
      refine q_callVi (rest := [.int (-3)]) (wr := []) X hK hA hw9 (fun sz => kX12_numbers_441 l D cy y0 a2 a3 (u_1.1 19) (u_1.1 0) (u_1.1 1) (u_1.1 2) (u_1.1 3) (u_1.1 4) (u_1.1 5) (u_1.1 6) (u_1.1 7) (u_1.1 8) (u_1.1 9) (u_1.1 10) (u_1.1 11) (u_1.1 12) (u_1.1 13) (u_1.1 14) (u_1.1 15) (u_1.1 16) (u_1.1 17) (u_1.1 18) g_11171 g_11172 g_11173 sz) wm_8_27 wm_8_30 wm_1_12 hd_X12_numbers wm_8_28 wm_8_29 (ci := 12) (q0 := 0) rfl rfl ⟨Nat.le_of_ble_eq_true rfl, Nat.le_of_ble_eq_true rfl⟩ hl.1 rfl (Nat.le_of_ble_eq_true rfl) dL_law_1267 ⟨Nat.le_of_ble_eq_true rfl, Nat.le_of_ble_eq_true rfl⟩ [0] [] rfl rfl (by decide) rfl rfl (fun r_11174 u_11174 Hp10 lc10 w_11174 hw10 => ?_)
      clear Hp9 lc9 hw9
      obtain rfl : r_11174 = (-3) := w_11174
      replace hw10 : qW D _ _ [] _ _ := hw10
      refine lv_icmp_eq (tgt := 1461) hx hb dL_law_1270 (by decide) (fun _ => ?_) (fun c => absurd c (by decide +kernel))
      exact law_tail l X hr hlk hX hbl hw10.2.2 hl (Nat.le_of_ble_eq_true rfl) (Nat.le_of_ble_eq_true rfl)
    refine lv_aload_n hx hb dL_law_1232 rfl (lv_at hl 2 rfl) ?_
    refine lv_aload_n hx hb dL_law_1233 rfl (lv_at hl 3 rfl) ?_
    refine lv_iload_n hx hb dL_law_1234 rfl (lv_at hl 0 rfl) ?_
    refine lv_iconst (v := 1) hx hb dL_law_1235 (by decide) ?_
    refine lv_iadd hx hb dL_law_1236 ?_
    refine q_c 1 (by decide +kernel) ?_
    refine va_sld X.1 X.2.1 hX hbl hbA h.2.2 (q_in (by decide +kernel)) dL_law_1237 ?_
    refine q_c 0 e1 ?_
    refine lv_aload_n hx hb dL_law_1238 rfl (lv_at hl 3 rfl) ?_
    refine lv_iload_n hx hb dL_law_1239 rfl (lv_at hl 0 rfl) ?_
    refine lv_iconst (v := 2) hx hb dL_law_1240 (by decide) ?_
    refine lv_iadd hx hb dL_law_1241 ?_
    refine q_c 2 (by decide +kernel) ?_
    refine va_sld X.1 X.2.1 hX hbl hbA h.2.2 (q_in (by decide +kernel)) dL_law_1242 ?_
    refine q_c a2 e2 ?_
    refine lv_aload_n hx hb dL_law_1243 rfl (lv_at hl 3 rfl) ?_
    refine lv_iload_n hx hb dL_law_1244 rfl (lv_at hl 0 rfl) ?_
    refine lv_iconst (v := 3) hx hb dL_law_1245 (by decide) ?_
    refine lv_iadd hx hb dL_law_1246 ?_
    refine q_c 3 (by decide +kernel) ?_
    refine va_sld X.1 X.2.1 hX hbl hbA h.2.2 (q_in (by decide +kernel)) dL_law_1247 ?_
    refine q_c a3 e3 ?_
    have g_11203 : (4 : Int32) ≤ a2 := by
      simp only [Int32.lt_iff_toInt_lt, Int32.le_iff_toInt_le, ← Int32.toInt_inj] at c_10876 c_10905 ⊢
      have k_0 : ((-1) : Int32).toInt = -1 := by decide
      have k_1 : (3 : Int32).toInt = 3 := by decide
      have k_g : (4 : Int32).toInt = 4 := by decide
      omega
    refine q_callVi (rest := []) (wr := [(y0, .inr (12, [.int 0, .ref (u_1.1 19), .ref (u_1.1 0), .ref (u_1.1 1), .ref (u_1.1 2), .int 0, .int 0, .int 0, .int 0, .int 0, .int 0, .int 0, .int 0, .int 0, .int (-1), .int 0, .ref (u_1.1 3), .ref (u_1.1 4), .ref (u_1.1 5), .ref (u_1.1 6), .ref (u_1.1 7), .int 0, .int 0, .ref (u_1.1 8), .ref (u_1.1 9), .ref (u_1.1 10), .int 0, .int 0, .ref (u_1.1 11), .ref (u_1.1 12), .ref (u_1.1 13), .ref (u_1.1 14), .ref (u_1.1 15), .int 0, .ref (u_1.1 16), .ref (u_1.1 17), .ref (u_1.1 18)]))]) X hK hA h (fun sz => kX11_numbers_442 l D cy x0 a2 a3 (u_0.1 0) (u_0.1 1) (u_0.1 37) (u_0.1 39) (u_0.1 41) (u_0.1 43) (u_0.1 14) (u_0.1 15) (u_0.1 16) (u_0.1 17) (u_0.1 20) (u_0.1 24) (u_0.1 29) g_11203 sz) wm_5_120 wm_5_123 wm_1_1 hd_X11_numbers wm_5_121 wm_5_122 (ci := 11) (q0 := 0) rfl rfl ⟨Nat.le_of_ble_eq_true rfl, Nat.le_of_ble_eq_true rfl⟩ hl.1 rfl (Nat.le_of_ble_eq_true rfl) dL_law_1248 ⟨Nat.le_of_ble_eq_true rfl, Nat.le_of_ble_eq_true rfl⟩ [0] [78] rfl rfl (by decide) rfl rfl (fun r_11204 u_11204 Hp11 lc11 w_11204 hw11 => ?_)
    clear h
    obtain rfl : r_11204 = (-2) := w_11204
    replace hw11 : qW D _ _ [(y0, .inr (12, [.int 0, .ref (u_1.1 19), .ref (u_1.1 0), .ref (u_1.1 1), .ref (u_1.1 2), .int 0, .int 0, .int 0, .int 0, .int 0, .int 0, .int 0, .int 0, .int 0, .int (-1), .int 0, .ref (u_1.1 3), .ref (u_1.1 4), .ref (u_1.1 5), .ref (u_1.1 6), .ref (u_1.1 7), .int 0, .int 0, .ref (u_1.1 8), .ref (u_1.1 9), .ref (u_1.1 10), .int 0, .int 0, .ref (u_1.1 11), .ref (u_1.1 12), .ref (u_1.1 13), .ref (u_1.1 14), .ref (u_1.1 15), .int 0, .ref (u_1.1 16), .ref (u_1.1 17), .ref (u_1.1 18)]))] _ _ := hw11
    refine lv_aload_n hx hb dL_law_1251 rfl (lv_at hl 1 rfl) ?_
    refine lv_aload_n hx hb dL_law_1252 rfl (lv_at hl 3 rfl) ?_
    refine lv_iload_n hx hb dL_law_1253 rfl (lv_at hl 0 rfl) ?_
    refine lv_iconst (v := 1) hx hb dL_law_1254 (by decide) ?_
    refine lv_iadd hx hb dL_law_1255 ?_
    refine q_c 1 (by decide +kernel) ?_
    refine va_sld X.1 X.2.1 hX hbl hbA hw11.2.2 (q_in (by decide +kernel)) dL_law_1256 ?_
    refine q_c 0 e1 ?_
    refine lv_aload_n hx hb dL_law_1257 rfl (lv_at hl 3 rfl) ?_
    refine lv_iload_n hx hb dL_law_1258 rfl (lv_at hl 0 rfl) ?_
    refine lv_iconst (v := 2) hx hb dL_law_1259 (by decide) ?_
    refine lv_iadd hx hb dL_law_1260 ?_
    refine q_c 2 (by decide +kernel) ?_
    refine va_sld X.1 X.2.1 hX hbl hbA hw11.2.2 (q_in (by decide +kernel)) dL_law_1261 ?_
    refine q_c a2 e2 ?_
    refine lv_aload_n hx hb dL_law_1262 rfl (lv_at hl 3 rfl) ?_
    refine lv_iload_n hx hb dL_law_1263 rfl (lv_at hl 0 rfl) ?_
    refine lv_iconst (v := 3) hx hb dL_law_1264 (by decide) ?_
    refine lv_iadd hx hb dL_law_1265 ?_
    refine q_c 3 (by decide +kernel) ?_
    refine va_sld X.1 X.2.1 hX hbl hbA hw11.2.2 (q_in (by decide +kernel)) dL_law_1266 ?_
    refine q_c a3 e3 ?_
    have g_11210 : (4 : Int32) ≤ a2 := by
      simp only [Int32.lt_iff_toInt_lt, Int32.le_iff_toInt_le, ← Int32.toInt_inj] at c_10876 c_10905 ⊢
      have k_0 : ((-1) : Int32).toInt = -1 := by decide
      have k_1 : (3 : Int32).toInt = 3 := by decide
      have k_g : (4 : Int32).toInt = 4 := by decide
      omega
    refine q_callVi (rest := [.int (-2)]) (wr := []) X hK hA hw11 (fun sz => kX12_numbers_443 l D cy y0 a2 a3 (u_1.1 19) (u_1.1 0) (u_1.1 1) (u_1.1 2) (u_1.1 3) (u_1.1 4) (u_1.1 5) (u_1.1 6) (u_1.1 7) (u_1.1 8) (u_1.1 9) (u_1.1 10) (u_1.1 11) (u_1.1 12) (u_1.1 13) (u_1.1 14) (u_1.1 15) (u_1.1 16) (u_1.1 17) (u_1.1 18) g_11210 sz) wm_8_27 wm_8_30 wm_1_12 hd_X12_numbers wm_8_28 wm_8_29 (ci := 12) (q0 := 0) rfl rfl ⟨Nat.le_of_ble_eq_true rfl, Nat.le_of_ble_eq_true rfl⟩ hl.1 rfl (Nat.le_of_ble_eq_true rfl) dL_law_1267 ⟨Nat.le_of_ble_eq_true rfl, Nat.le_of_ble_eq_true rfl⟩ [0] [] rfl rfl (by decide) rfl rfl (fun r_11211 u_11211 Hp12 lc12 w_11211 hw12 => ?_)
    clear Hp11 lc11 hw11
    obtain rfl : r_11211 = (-2) := w_11211
    replace hw12 : qW D _ _ [] _ _ := hw12
    refine lv_icmp_eq (tgt := 1461) hx hb dL_law_1270 (by decide) (fun _ => ?_) (fun c => absurd c (by decide +kernel))
    exact law_tail l X hr hlk hX hbl hw12.2.2 hl (Nat.le_of_ble_eq_true rfl) (Nat.le_of_ble_eq_true rfl)
  by_cases c_11212 : a1 = 1
  · subst c_11212
    by_cases c_11235 : a2 ≤ (-1)
    · skip
      refine lv_aload_n hx hb dL_law_1232 rfl (lv_at hl 2 rfl) ?_
      refine lv_aload_n hx hb dL_law_1233 rfl (lv_at hl 3 rfl) ?_
      refine lv_iload_n hx hb dL_law_1234 rfl (lv_at hl 0 rfl) ?_
      refine lv_iconst (v := 1) hx hb dL_law_1235 (by decide) ?_
      refine lv_iadd hx hb dL_law_1236 ?_
      refine q_c 1 (by decide +kernel) ?_
      refine va_sld X.1 X.2.1 hX hbl hbA h.2.2 (q_in (by decide +kernel)) dL_law_1237 ?_
      refine q_c 1 e1 ?_
      refine lv_aload_n hx hb dL_law_1238 rfl (lv_at hl 3 rfl) ?_
      refine lv_iload_n hx hb dL_law_1239 rfl (lv_at hl 0 rfl) ?_
      refine lv_iconst (v := 2) hx hb dL_law_1240 (by decide) ?_
      refine lv_iadd hx hb dL_law_1241 ?_
      refine q_c 2 (by decide +kernel) ?_
      refine va_sld X.1 X.2.1 hX hbl hbA h.2.2 (q_in (by decide +kernel)) dL_law_1242 ?_
      refine q_c a2 e2 ?_
      refine lv_aload_n hx hb dL_law_1243 rfl (lv_at hl 3 rfl) ?_
      refine lv_iload_n hx hb dL_law_1244 rfl (lv_at hl 0 rfl) ?_
      refine lv_iconst (v := 3) hx hb dL_law_1245 (by decide) ?_
      refine lv_iadd hx hb dL_law_1246 ?_
      refine q_c 3 (by decide +kernel) ?_
      refine va_sld X.1 X.2.1 hX hbl hbA h.2.2 (q_in (by decide +kernel)) dL_law_1247 ?_
      refine q_c a3 e3 ?_
      have g_11256 : a2 ≤ ((-1) : Int32) := by
        simp only [Int32.lt_iff_toInt_lt, Int32.le_iff_toInt_le, ← Int32.toInt_inj] at c_11235 ⊢
        have k_0 : ((-1) : Int32).toInt = -1 := by decide
        omega
      refine q_callVi (rest := []) (wr := [(y0, .inr (12, [.int 0, .ref (u_1.1 19), .ref (u_1.1 0), .ref (u_1.1 1), .ref (u_1.1 2), .int 0, .int 0, .int 0, .int 0, .int 0, .int 0, .int 0, .int 0, .int 0, .int (-1), .int 0, .ref (u_1.1 3), .ref (u_1.1 4), .ref (u_1.1 5), .ref (u_1.1 6), .ref (u_1.1 7), .int 0, .int 0, .ref (u_1.1 8), .ref (u_1.1 9), .ref (u_1.1 10), .int 0, .int 0, .ref (u_1.1 11), .ref (u_1.1 12), .ref (u_1.1 13), .ref (u_1.1 14), .ref (u_1.1 15), .int 0, .ref (u_1.1 16), .ref (u_1.1 17), .ref (u_1.1 18)]))]) X hK hA h (fun sz => kX11_numbers_444 l D cy x0 a2 a3 (u_0.1 0) (u_0.1 1) (u_0.1 37) (u_0.1 39) (u_0.1 41) (u_0.1 43) (u_0.1 14) (u_0.1 15) (u_0.1 16) (u_0.1 17) (u_0.1 20) (u_0.1 24) (u_0.1 29) g_11256 sz) wm_5_120 wm_5_123 wm_1_1 hd_X11_numbers wm_5_121 wm_5_122 (ci := 11) (q0 := 0) rfl rfl ⟨Nat.le_of_ble_eq_true rfl, Nat.le_of_ble_eq_true rfl⟩ hl.1 rfl (Nat.le_of_ble_eq_true rfl) dL_law_1248 ⟨Nat.le_of_ble_eq_true rfl, Nat.le_of_ble_eq_true rfl⟩ [0] [78] rfl rfl (by decide) rfl rfl (fun r_11257 u_11257 Hp13 lc13 w_11257 hw13 => ?_)
      clear h
      obtain rfl : r_11257 = (-2) := w_11257
      replace hw13 : qW D _ _ [(y0, .inr (12, [.int 0, .ref (u_1.1 19), .ref (u_1.1 0), .ref (u_1.1 1), .ref (u_1.1 2), .int 0, .int 0, .int 0, .int 0, .int 0, .int 0, .int 0, .int 0, .int 0, .int (-1), .int 0, .ref (u_1.1 3), .ref (u_1.1 4), .ref (u_1.1 5), .ref (u_1.1 6), .ref (u_1.1 7), .int 0, .int 0, .ref (u_1.1 8), .ref (u_1.1 9), .ref (u_1.1 10), .int 0, .int 0, .ref (u_1.1 11), .ref (u_1.1 12), .ref (u_1.1 13), .ref (u_1.1 14), .ref (u_1.1 15), .int 0, .ref (u_1.1 16), .ref (u_1.1 17), .ref (u_1.1 18)]))] _ _ := hw13
      refine lv_aload_n hx hb dL_law_1251 rfl (lv_at hl 1 rfl) ?_
      refine lv_aload_n hx hb dL_law_1252 rfl (lv_at hl 3 rfl) ?_
      refine lv_iload_n hx hb dL_law_1253 rfl (lv_at hl 0 rfl) ?_
      refine lv_iconst (v := 1) hx hb dL_law_1254 (by decide) ?_
      refine lv_iadd hx hb dL_law_1255 ?_
      refine q_c 1 (by decide +kernel) ?_
      refine va_sld X.1 X.2.1 hX hbl hbA hw13.2.2 (q_in (by decide +kernel)) dL_law_1256 ?_
      refine q_c 1 e1 ?_
      refine lv_aload_n hx hb dL_law_1257 rfl (lv_at hl 3 rfl) ?_
      refine lv_iload_n hx hb dL_law_1258 rfl (lv_at hl 0 rfl) ?_
      refine lv_iconst (v := 2) hx hb dL_law_1259 (by decide) ?_
      refine lv_iadd hx hb dL_law_1260 ?_
      refine q_c 2 (by decide +kernel) ?_
      refine va_sld X.1 X.2.1 hX hbl hbA hw13.2.2 (q_in (by decide +kernel)) dL_law_1261 ?_
      refine q_c a2 e2 ?_
      refine lv_aload_n hx hb dL_law_1262 rfl (lv_at hl 3 rfl) ?_
      refine lv_iload_n hx hb dL_law_1263 rfl (lv_at hl 0 rfl) ?_
      refine lv_iconst (v := 3) hx hb dL_law_1264 (by decide) ?_
      refine lv_iadd hx hb dL_law_1265 ?_
      refine q_c 3 (by decide +kernel) ?_
      refine va_sld X.1 X.2.1 hX hbl hbA hw13.2.2 (q_in (by decide +kernel)) dL_law_1266 ?_
      refine q_c a3 e3 ?_
      have g_11262 : a2 ≤ ((-1) : Int32) := by
        simp only [Int32.lt_iff_toInt_lt, Int32.le_iff_toInt_le, ← Int32.toInt_inj] at c_11235 ⊢
        have k_0 : ((-1) : Int32).toInt = -1 := by decide
        omega
      refine q_callVi (rest := [.int (-2)]) (wr := []) X hK hA hw13 (fun sz => kX12_numbers_445 l D cy y0 a2 a3 (u_1.1 19) (u_1.1 0) (u_1.1 1) (u_1.1 2) (u_1.1 3) (u_1.1 4) (u_1.1 5) (u_1.1 6) (u_1.1 7) (u_1.1 8) (u_1.1 9) (u_1.1 10) (u_1.1 11) (u_1.1 12) (u_1.1 13) (u_1.1 14) (u_1.1 15) (u_1.1 16) (u_1.1 17) (u_1.1 18) g_11262 sz) wm_8_27 wm_8_30 wm_1_12 hd_X12_numbers wm_8_28 wm_8_29 (ci := 12) (q0 := 0) rfl rfl ⟨Nat.le_of_ble_eq_true rfl, Nat.le_of_ble_eq_true rfl⟩ hl.1 rfl (Nat.le_of_ble_eq_true rfl) dL_law_1267 ⟨Nat.le_of_ble_eq_true rfl, Nat.le_of_ble_eq_true rfl⟩ [0] [] rfl rfl (by decide) rfl rfl (fun r_11263 u_11263 Hp14 lc14 w_11263 hw14 => ?_)
      clear Hp13 lc13 hw13
      obtain rfl : r_11263 = (-2) := w_11263
      replace hw14 : qW D _ _ [] _ _ := hw14
      refine lv_icmp_eq (tgt := 1461) hx hb dL_law_1270 (by decide) (fun _ => ?_) (fun c => absurd c (by decide +kernel))
      exact law_tail l X hr hlk hX hbl hw14.2.2 hl (Nat.le_of_ble_eq_true rfl) (Nat.le_of_ble_eq_true rfl)
    by_cases c_11264 : a2 ≤ 3
    · skip
      by_cases c_11287 : a3 ≤ (-1)
      · skip
        refine lv_aload_n hx hb dL_law_1232 rfl (lv_at hl 2 rfl) ?_
        refine lv_aload_n hx hb dL_law_1233 rfl (lv_at hl 3 rfl) ?_
        refine lv_iload_n hx hb dL_law_1234 rfl (lv_at hl 0 rfl) ?_
        refine lv_iconst (v := 1) hx hb dL_law_1235 (by decide) ?_
        refine lv_iadd hx hb dL_law_1236 ?_
        refine q_c 1 (by decide +kernel) ?_
        refine va_sld X.1 X.2.1 hX hbl hbA h.2.2 (q_in (by decide +kernel)) dL_law_1237 ?_
        refine q_c 1 e1 ?_
        refine lv_aload_n hx hb dL_law_1238 rfl (lv_at hl 3 rfl) ?_
        refine lv_iload_n hx hb dL_law_1239 rfl (lv_at hl 0 rfl) ?_
        refine lv_iconst (v := 2) hx hb dL_law_1240 (by decide) ?_
        refine lv_iadd hx hb dL_law_1241 ?_
        refine q_c 2 (by decide +kernel) ?_
        refine va_sld X.1 X.2.1 hX hbl hbA h.2.2 (q_in (by decide +kernel)) dL_law_1242 ?_
        refine q_c a2 e2 ?_
        refine lv_aload_n hx hb dL_law_1243 rfl (lv_at hl 3 rfl) ?_
        refine lv_iload_n hx hb dL_law_1244 rfl (lv_at hl 0 rfl) ?_
        refine lv_iconst (v := 3) hx hb dL_law_1245 (by decide) ?_
        refine lv_iadd hx hb dL_law_1246 ?_
        refine q_c 3 (by decide +kernel) ?_
        refine va_sld X.1 X.2.1 hX hbl hbA h.2.2 (q_in (by decide +kernel)) dL_law_1247 ?_
        refine q_c a3 e3 ?_
        have g_11331 : (0 : Int32) ≤ a2 := by
          simp only [Int32.lt_iff_toInt_lt, Int32.le_iff_toInt_le, ← Int32.toInt_inj] at c_11235 c_11264 ⊢
          have k_0 : ((-1) : Int32).toInt = -1 := by decide
          have k_1 : (3 : Int32).toInt = 3 := by decide
          have k_g : (0 : Int32).toInt = 0 := by decide
          omega
        have g_11332 : a2 ≤ (3 : Int32) := by
          simp only [Int32.lt_iff_toInt_lt, Int32.le_iff_toInt_le, ← Int32.toInt_inj] at c_11235 c_11264 ⊢
          have k_0 : ((-1) : Int32).toInt = -1 := by decide
          have k_1 : (3 : Int32).toInt = 3 := by decide
          omega
        have g_11333 : a3 ≤ ((-1) : Int32) := by
          simp only [Int32.lt_iff_toInt_lt, Int32.le_iff_toInt_le, ← Int32.toInt_inj] at c_11287 ⊢
          have k_0 : ((-1) : Int32).toInt = -1 := by decide
          omega
        refine q_callVi (rest := []) (wr := [(y0, .inr (12, [.int 0, .ref (u_1.1 19), .ref (u_1.1 0), .ref (u_1.1 1), .ref (u_1.1 2), .int 0, .int 0, .int 0, .int 0, .int 0, .int 0, .int 0, .int 0, .int 0, .int (-1), .int 0, .ref (u_1.1 3), .ref (u_1.1 4), .ref (u_1.1 5), .ref (u_1.1 6), .ref (u_1.1 7), .int 0, .int 0, .ref (u_1.1 8), .ref (u_1.1 9), .ref (u_1.1 10), .int 0, .int 0, .ref (u_1.1 11), .ref (u_1.1 12), .ref (u_1.1 13), .ref (u_1.1 14), .ref (u_1.1 15), .int 0, .ref (u_1.1 16), .ref (u_1.1 17), .ref (u_1.1 18)]))]) X hK hA h (fun sz => kX11_numbers_446 l D cy x0 a2 a3 (u_0.1 0) (u_0.1 1) (u_0.1 37) (u_0.1 39) (u_0.1 41) (u_0.1 43) (u_0.1 14) (u_0.1 15) (u_0.1 16) (u_0.1 17) (u_0.1 20) (u_0.1 24) (u_0.1 29) g_11331 g_11332 g_11333 sz) wm_5_120 wm_5_123 wm_1_1 hd_X11_numbers wm_5_121 wm_5_122 (ci := 11) (q0 := 0) rfl rfl ⟨Nat.le_of_ble_eq_true rfl, Nat.le_of_ble_eq_true rfl⟩ hl.1 rfl (Nat.le_of_ble_eq_true rfl) dL_law_1248 ⟨Nat.le_of_ble_eq_true rfl, Nat.le_of_ble_eq_true rfl⟩ [0] [78] rfl rfl (by decide) rfl rfl (fun r_11334 u_11334 Hp15 lc15 w_11334 hw15 => ?_)
        clear h
        obtain rfl : r_11334 = (-3) := w_11334
        replace hw15 : qW D _ _ [(y0, .inr (12, [.int 0, .ref (u_1.1 19), .ref (u_1.1 0), .ref (u_1.1 1), .ref (u_1.1 2), .int 0, .int 0, .int 0, .int 0, .int 0, .int 0, .int 0, .int 0, .int 0, .int (-1), .int 0, .ref (u_1.1 3), .ref (u_1.1 4), .ref (u_1.1 5), .ref (u_1.1 6), .ref (u_1.1 7), .int 0, .int 0, .ref (u_1.1 8), .ref (u_1.1 9), .ref (u_1.1 10), .int 0, .int 0, .ref (u_1.1 11), .ref (u_1.1 12), .ref (u_1.1 13), .ref (u_1.1 14), .ref (u_1.1 15), .int 0, .ref (u_1.1 16), .ref (u_1.1 17), .ref (u_1.1 18)]))] _ _ := hw15
        refine lv_aload_n hx hb dL_law_1251 rfl (lv_at hl 1 rfl) ?_
        refine lv_aload_n hx hb dL_law_1252 rfl (lv_at hl 3 rfl) ?_
        refine lv_iload_n hx hb dL_law_1253 rfl (lv_at hl 0 rfl) ?_
        refine lv_iconst (v := 1) hx hb dL_law_1254 (by decide) ?_
        refine lv_iadd hx hb dL_law_1255 ?_
        refine q_c 1 (by decide +kernel) ?_
        refine va_sld X.1 X.2.1 hX hbl hbA hw15.2.2 (q_in (by decide +kernel)) dL_law_1256 ?_
        refine q_c 1 e1 ?_
        refine lv_aload_n hx hb dL_law_1257 rfl (lv_at hl 3 rfl) ?_
        refine lv_iload_n hx hb dL_law_1258 rfl (lv_at hl 0 rfl) ?_
        refine lv_iconst (v := 2) hx hb dL_law_1259 (by decide) ?_
        refine lv_iadd hx hb dL_law_1260 ?_
        refine q_c 2 (by decide +kernel) ?_
        refine va_sld X.1 X.2.1 hX hbl hbA hw15.2.2 (q_in (by decide +kernel)) dL_law_1261 ?_
        refine q_c a2 e2 ?_
        refine lv_aload_n hx hb dL_law_1262 rfl (lv_at hl 3 rfl) ?_
        refine lv_iload_n hx hb dL_law_1263 rfl (lv_at hl 0 rfl) ?_
        refine lv_iconst (v := 3) hx hb dL_law_1264 (by decide) ?_
        refine lv_iadd hx hb dL_law_1265 ?_
        refine q_c 3 (by decide +kernel) ?_
        refine va_sld X.1 X.2.1 hX hbl hbA hw15.2.2 (q_in (by decide +kernel)) dL_law_1266 ?_
        refine q_c a3 e3 ?_
        have g_11344 : (0 : Int32) ≤ a2 := by
          simp only [Int32.lt_iff_toInt_lt, Int32.le_iff_toInt_le, ← Int32.toInt_inj] at c_11235 c_11264 ⊢
          have k_0 : ((-1) : Int32).toInt = -1 := by decide
          have k_1 : (3 : Int32).toInt = 3 := by decide
          have k_g : (0 : Int32).toInt = 0 := by decide
          omega
        have g_11345 : a2 ≤ (3 : Int32) := by
          simp only [Int32.lt_iff_toInt_lt, Int32.le_iff_toInt_le, ← Int32.toInt_inj] at c_11235 c_11264 ⊢
          have k_0 : ((-1) : Int32).toInt = -1 := by decide
          have k_1 : (3 : Int32).toInt = 3 := by decide
          omega
        have g_11346 : a3 ≤ ((-1) : Int32) := by
          simp only [Int32.lt_iff_toInt_lt, Int32.le_iff_toInt_le, ← Int32.toInt_inj] at c_11287 ⊢
          have k_0 : ((-1) : Int32).toInt = -1 := by decide
          omega
        refine q_callVi (rest := [.int (-3)]) (wr := []) X hK hA hw15 (fun sz => kX12_numbers_447 l D cy y0 a2 a3 (u_1.1 19) (u_1.1 0) (u_1.1 1) (u_1.1 2) (u_1.1 3) (u_1.1 4) (u_1.1 5) (u_1.1 6) (u_1.1 7) (u_1.1 8) (u_1.1 9) (u_1.1 10) (u_1.1 11) (u_1.1 12) (u_1.1 13) (u_1.1 14) (u_1.1 15) (u_1.1 16) (u_1.1 17) (u_1.1 18) g_11344 g_11345 g_11346 sz) wm_8_27 wm_8_30 wm_1_12 hd_X12_numbers wm_8_28 wm_8_29 (ci := 12) (q0 := 0) rfl rfl ⟨Nat.le_of_ble_eq_true rfl, Nat.le_of_ble_eq_true rfl⟩ hl.1 rfl (Nat.le_of_ble_eq_true rfl) dL_law_1267 ⟨Nat.le_of_ble_eq_true rfl, Nat.le_of_ble_eq_true rfl⟩ [0] [] rfl rfl (by decide) rfl rfl (fun r_11347 u_11347 Hp16 lc16 w_11347 hw16 => ?_)
        clear Hp15 lc15 hw15
        obtain rfl : r_11347 = (-3) := w_11347
        replace hw16 : qW D _ _ [] _ _ := hw16
        refine lv_icmp_eq (tgt := 1461) hx hb dL_law_1270 (by decide) (fun _ => ?_) (fun c => absurd c (by decide +kernel))
        exact law_tail l X hr hlk hX hbl hw16.2.2 hl (Nat.le_of_ble_eq_true rfl) (Nat.le_of_ble_eq_true rfl)
      by_cases c_11348 : a3 ≤ 40
      · skip
        refine lv_aload_n hx hb dL_law_1232 rfl (lv_at hl 2 rfl) ?_
        refine lv_aload_n hx hb dL_law_1233 rfl (lv_at hl 3 rfl) ?_
        refine lv_iload_n hx hb dL_law_1234 rfl (lv_at hl 0 rfl) ?_
        refine lv_iconst (v := 1) hx hb dL_law_1235 (by decide) ?_
        refine lv_iadd hx hb dL_law_1236 ?_
        refine q_c 1 (by decide +kernel) ?_
        refine va_sld X.1 X.2.1 hX hbl hbA h.2.2 (q_in (by decide +kernel)) dL_law_1237 ?_
        refine q_c 1 e1 ?_
        refine lv_aload_n hx hb dL_law_1238 rfl (lv_at hl 3 rfl) ?_
        refine lv_iload_n hx hb dL_law_1239 rfl (lv_at hl 0 rfl) ?_
        refine lv_iconst (v := 2) hx hb dL_law_1240 (by decide) ?_
        refine lv_iadd hx hb dL_law_1241 ?_
        refine q_c 2 (by decide +kernel) ?_
        refine va_sld X.1 X.2.1 hX hbl hbA h.2.2 (q_in (by decide +kernel)) dL_law_1242 ?_
        refine q_c a2 e2 ?_
        refine lv_aload_n hx hb dL_law_1243 rfl (lv_at hl 3 rfl) ?_
        refine lv_iload_n hx hb dL_law_1244 rfl (lv_at hl 0 rfl) ?_
        refine lv_iconst (v := 3) hx hb dL_law_1245 (by decide) ?_
        refine lv_iadd hx hb dL_law_1246 ?_
        refine q_c 3 (by decide +kernel) ?_
        refine va_sld X.1 X.2.1 hX hbl hbA h.2.2 (q_in (by decide +kernel)) dL_law_1247 ?_
        refine q_c a3 e3 ?_
        have g_11432 : (0 : Int32) ≤ a2 := by
          simp only [Int32.lt_iff_toInt_lt, Int32.le_iff_toInt_le, ← Int32.toInt_inj] at c_11235 c_11264 ⊢
          have k_0 : ((-1) : Int32).toInt = -1 := by decide
          have k_1 : (3 : Int32).toInt = 3 := by decide
          have k_g : (0 : Int32).toInt = 0 := by decide
          omega
        have g_11433 : a2 ≤ (3 : Int32) := by
          simp only [Int32.lt_iff_toInt_lt, Int32.le_iff_toInt_le, ← Int32.toInt_inj] at c_11235 c_11264 ⊢
          have k_0 : ((-1) : Int32).toInt = -1 := by decide
          have k_1 : (3 : Int32).toInt = 3 := by decide
          omega
        have g_11434 : (0 : Int32) ≤ a3 := by
          simp only [Int32.lt_iff_toInt_lt, Int32.le_iff_toInt_le, ← Int32.toInt_inj] at c_11287 c_11348 ⊢
          have k_0 : ((-1) : Int32).toInt = -1 := by decide
          have k_1 : (40 : Int32).toInt = 40 := by decide
          have k_g : (0 : Int32).toInt = 0 := by decide
          omega
        have g_11435 : a3 ≤ (40 : Int32) := by
          simp only [Int32.lt_iff_toInt_lt, Int32.le_iff_toInt_le, ← Int32.toInt_inj] at c_11287 c_11348 ⊢
          have k_0 : ((-1) : Int32).toInt = -1 := by decide
          have k_1 : (40 : Int32).toInt = 40 := by decide
          omega
        refine q_callVi (rest := []) (wr := [(y0, .inr (12, [.int 0, .ref (u_1.1 19), .ref (u_1.1 0), .ref (u_1.1 1), .ref (u_1.1 2), .int 0, .int 0, .int 0, .int 0, .int 0, .int 0, .int 0, .int 0, .int 0, .int (-1), .int 0, .ref (u_1.1 3), .ref (u_1.1 4), .ref (u_1.1 5), .ref (u_1.1 6), .ref (u_1.1 7), .int 0, .int 0, .ref (u_1.1 8), .ref (u_1.1 9), .ref (u_1.1 10), .int 0, .int 0, .ref (u_1.1 11), .ref (u_1.1 12), .ref (u_1.1 13), .ref (u_1.1 14), .ref (u_1.1 15), .int 0, .ref (u_1.1 16), .ref (u_1.1 17), .ref (u_1.1 18)])), ((u_1.1 16), .inl (cy 1, 4, .inl (upd (upd (upd (upd (fun _ => 0) (Int32.toNatClampNeg 0) (-1)) (Int32.toNatClampNeg 1) (-1)) (Int32.toNatClampNeg 2) (-1)) (Int32.toNatClampNeg 3) (-1)))), ((u_1.1 17), .inl (cy 1, 4, .inl (fun _ => 0))), ((u_1.1 18), .inl (cy 2, 160, .inr (.inl (fun _ => 0))))]) X hK hA h (fun sz => kX11_numbers_448 l D cy x0 (u_0.1 14) (u_0.1 67) (u_0.1 68) a2 a3 (u_0.1 0) (u_0.1 1) (u_0.1 37) (u_0.1 39) (u_0.1 41) (u_0.1 43) (u_0.1 15) (u_0.1 16) (u_0.1 17) (u_0.1 20) (u_0.1 24) (u_0.1 29) (u_0.1 71) (u_0.1 69) (u_0.1 65) g_11432 g_11433 g_11434 g_11435 sz) wm_5_120 wm_5_123 wm_1_1 hd_X11_numbers wm_5_121 wm_5_122 (ci := 11) (q0 := 0) rfl rfl ⟨Nat.le_of_ble_eq_true rfl, Nat.le_of_ble_eq_true rfl⟩ hl.1 rfl (Nat.le_of_ble_eq_true rfl) dL_law_1248 ⟨Nat.le_of_ble_eq_true rfl, Nat.le_of_ble_eq_true rfl⟩ [0, 15, 68, 69] [78, 95, 96, 97] rfl rfl (by decide) rfl rfl (fun r_11436 u_11436 Hp17 lc17 w_11436 hw17 => ?_)
        clear h
        obtain rfl : r_11436 = 0 := w_11436
        replace hw17 : qW D _ _ [(y0, .inr (12, [.int 0, .ref (u_1.1 19), .ref (u_1.1 0), .ref (u_1.1 1), .ref (u_1.1 2), .int 0, .int 0, .int 0, .int 0, .int 0, .int 0, .int 0, .int 0, .int 0, .int (-1), .int 0, .ref (u_1.1 3), .ref (u_1.1 4), .ref (u_1.1 5), .ref (u_1.1 6), .ref (u_1.1 7), .int 0, .int 0, .ref (u_1.1 8), .ref (u_1.1 9), .ref (u_1.1 10), .int 0, .int 0, .ref (u_1.1 11), .ref (u_1.1 12), .ref (u_1.1 13), .ref (u_1.1 14), .ref (u_1.1 15), .int 0, .ref (u_1.1 16), .ref (u_1.1 17), .ref (u_1.1 18)])), ((u_1.1 16), .inl (cy 1, 4, .inl (upd (upd (upd (upd (fun _ => 0) (Int32.toNatClampNeg 0) (-1)) (Int32.toNatClampNeg 1) (-1)) (Int32.toNatClampNeg 2) (-1)) (Int32.toNatClampNeg 3) (-1)))), ((u_1.1 17), .inl (cy 1, 4, .inl (fun _ => 0))), ((u_1.1 18), .inl (cy 2, 160, .inr (.inl (fun _ => 0))))] _ _ := hw17
        refine lv_aload_n hx hb dL_law_1251 rfl (lv_at hl 1 rfl) ?_
        refine lv_aload_n hx hb dL_law_1252 rfl (lv_at hl 3 rfl) ?_
        refine lv_iload_n hx hb dL_law_1253 rfl (lv_at hl 0 rfl) ?_
        refine lv_iconst (v := 1) hx hb dL_law_1254 (by decide) ?_
        refine lv_iadd hx hb dL_law_1255 ?_
        refine q_c 1 (by decide +kernel) ?_
        refine va_sld X.1 X.2.1 hX hbl hbA hw17.2.2 (q_in (by decide +kernel)) dL_law_1256 ?_
        refine q_c 1 e1 ?_
        refine lv_aload_n hx hb dL_law_1257 rfl (lv_at hl 3 rfl) ?_
        refine lv_iload_n hx hb dL_law_1258 rfl (lv_at hl 0 rfl) ?_
        refine lv_iconst (v := 2) hx hb dL_law_1259 (by decide) ?_
        refine lv_iadd hx hb dL_law_1260 ?_
        refine q_c 2 (by decide +kernel) ?_
        refine va_sld X.1 X.2.1 hX hbl hbA hw17.2.2 (q_in (by decide +kernel)) dL_law_1261 ?_
        refine q_c a2 e2 ?_
        refine lv_aload_n hx hb dL_law_1262 rfl (lv_at hl 3 rfl) ?_
        refine lv_iload_n hx hb dL_law_1263 rfl (lv_at hl 0 rfl) ?_
        refine lv_iconst (v := 3) hx hb dL_law_1264 (by decide) ?_
        refine lv_iadd hx hb dL_law_1265 ?_
        refine q_c 3 (by decide +kernel) ?_
        refine va_sld X.1 X.2.1 hX hbl hbA hw17.2.2 (q_in (by decide +kernel)) dL_law_1266 ?_
        refine q_c a3 e3 ?_
        have g_11450 : (0 : Int32) ≤ a2 := by
          simp only [Int32.lt_iff_toInt_lt, Int32.le_iff_toInt_le, ← Int32.toInt_inj] at c_11235 c_11264 ⊢
          have k_0 : ((-1) : Int32).toInt = -1 := by decide
          have k_1 : (3 : Int32).toInt = 3 := by decide
          have k_g : (0 : Int32).toInt = 0 := by decide
          omega
        have g_11451 : a2 ≤ (3 : Int32) := by
          simp only [Int32.lt_iff_toInt_lt, Int32.le_iff_toInt_le, ← Int32.toInt_inj] at c_11235 c_11264 ⊢
          have k_0 : ((-1) : Int32).toInt = -1 := by decide
          have k_1 : (3 : Int32).toInt = 3 := by decide
          omega
        have g_11452 : (0 : Int32) ≤ a3 := by
          simp only [Int32.lt_iff_toInt_lt, Int32.le_iff_toInt_le, ← Int32.toInt_inj] at c_11287 c_11348 ⊢
          have k_0 : ((-1) : Int32).toInt = -1 := by decide
          have k_1 : (40 : Int32).toInt = 40 := by decide
          have k_g : (0 : Int32).toInt = 0 := by decide
          omega
        have g_11453 : a3 ≤ (40 : Int32) := by
          simp only [Int32.lt_iff_toInt_lt, Int32.le_iff_toInt_le, ← Int32.toInt_inj] at c_11287 c_11348 ⊢
          have k_0 : ((-1) : Int32).toInt = -1 := by decide
          have k_1 : (40 : Int32).toInt = 40 := by decide
          omega
        refine q_callVi (rest := [.int 0]) (wr := []) X hK hA hw17 (fun sz => kX12_numbers_449 l D cy y0 (u_1.1 16) (u_1.1 17) (u_1.1 18) (upd (upd (upd (upd (fun _ => 0) (Int32.toNatClampNeg 0) (-1)) (Int32.toNatClampNeg 1) (-1)) (Int32.toNatClampNeg 2) (-1)) (Int32.toNatClampNeg 3) (-1)) a2 a3 (u_1.1 19) (u_1.1 0) (u_1.1 1) (u_1.1 2) (u_1.1 3) (u_1.1 4) (u_1.1 5) (u_1.1 6) (u_1.1 7) (u_1.1 8) (u_1.1 9) (u_1.1 10) (u_1.1 11) (u_1.1 12) (u_1.1 13) (u_1.1 14) (u_1.1 15) g_11450 g_11451 g_11452 g_11453 sz) wm_8_27 wm_8_30 wm_1_12 hd_X12_numbers wm_8_28 wm_8_29 (ci := 12) (q0 := 0) rfl rfl ⟨Nat.le_of_ble_eq_true rfl, Nat.le_of_ble_eq_true rfl⟩ hl.1 rfl (Nat.le_of_ble_eq_true rfl) dL_law_1267 ⟨Nat.le_of_ble_eq_true rfl, Nat.le_of_ble_eq_true rfl⟩ [0, 1, 2, 3] [] rfl rfl (by decide) rfl rfl (fun r_11454 u_11454 Hp18 lc18 w_11454 hw18 => ?_)
        clear Hp17 lc17 hw17
        obtain rfl : r_11454 = 0 := w_11454
        replace hw18 : qW D _ _ [] _ _ := hw18
        refine lv_icmp_eq (tgt := 1461) hx hb dL_law_1270 (by decide) (fun _ => ?_) (fun c => absurd c (by decide +kernel))
        exact law_tail l X hr hlk hX hbl hw18.2.2 hl (Nat.le_of_ble_eq_true rfl) (Nat.le_of_ble_eq_true rfl)
      refine lv_aload_n hx hb dL_law_1232 rfl (lv_at hl 2 rfl) ?_
      refine lv_aload_n hx hb dL_law_1233 rfl (lv_at hl 3 rfl) ?_
      refine lv_iload_n hx hb dL_law_1234 rfl (lv_at hl 0 rfl) ?_
      refine lv_iconst (v := 1) hx hb dL_law_1235 (by decide) ?_
      refine lv_iadd hx hb dL_law_1236 ?_
      refine q_c 1 (by decide +kernel) ?_
      refine va_sld X.1 X.2.1 hX hbl hbA h.2.2 (q_in (by decide +kernel)) dL_law_1237 ?_
      refine q_c 1 e1 ?_
      refine lv_aload_n hx hb dL_law_1238 rfl (lv_at hl 3 rfl) ?_
      refine lv_iload_n hx hb dL_law_1239 rfl (lv_at hl 0 rfl) ?_
      refine lv_iconst (v := 2) hx hb dL_law_1240 (by decide) ?_
      refine lv_iadd hx hb dL_law_1241 ?_
      refine q_c 2 (by decide +kernel) ?_
      refine va_sld X.1 X.2.1 hX hbl hbA h.2.2 (q_in (by decide +kernel)) dL_law_1242 ?_
      refine q_c a2 e2 ?_
      refine lv_aload_n hx hb dL_law_1243 rfl (lv_at hl 3 rfl) ?_
      refine lv_iload_n hx hb dL_law_1244 rfl (lv_at hl 0 rfl) ?_
      refine lv_iconst (v := 3) hx hb dL_law_1245 (by decide) ?_
      refine lv_iadd hx hb dL_law_1246 ?_
      refine q_c 3 (by decide +kernel) ?_
      refine va_sld X.1 X.2.1 hX hbl hbA h.2.2 (q_in (by decide +kernel)) dL_law_1247 ?_
      refine q_c a3 e3 ?_
      have g_11506 : (0 : Int32) ≤ a2 := by
        simp only [Int32.lt_iff_toInt_lt, Int32.le_iff_toInt_le, ← Int32.toInt_inj] at c_11235 c_11264 ⊢
        have k_0 : ((-1) : Int32).toInt = -1 := by decide
        have k_1 : (3 : Int32).toInt = 3 := by decide
        have k_g : (0 : Int32).toInt = 0 := by decide
        omega
      have g_11507 : a2 ≤ (3 : Int32) := by
        simp only [Int32.lt_iff_toInt_lt, Int32.le_iff_toInt_le, ← Int32.toInt_inj] at c_11235 c_11264 ⊢
        have k_0 : ((-1) : Int32).toInt = -1 := by decide
        have k_1 : (3 : Int32).toInt = 3 := by decide
        omega
      have g_11508 : (41 : Int32) ≤ a3 := by
        simp only [Int32.lt_iff_toInt_lt, Int32.le_iff_toInt_le, ← Int32.toInt_inj] at c_11287 c_11348 ⊢
        have k_0 : ((-1) : Int32).toInt = -1 := by decide
        have k_1 : (40 : Int32).toInt = 40 := by decide
        have k_g : (41 : Int32).toInt = 41 := by decide
        omega
      refine q_callVi (rest := []) (wr := [(y0, .inr (12, [.int 0, .ref (u_1.1 19), .ref (u_1.1 0), .ref (u_1.1 1), .ref (u_1.1 2), .int 0, .int 0, .int 0, .int 0, .int 0, .int 0, .int 0, .int 0, .int 0, .int (-1), .int 0, .ref (u_1.1 3), .ref (u_1.1 4), .ref (u_1.1 5), .ref (u_1.1 6), .ref (u_1.1 7), .int 0, .int 0, .ref (u_1.1 8), .ref (u_1.1 9), .ref (u_1.1 10), .int 0, .int 0, .ref (u_1.1 11), .ref (u_1.1 12), .ref (u_1.1 13), .ref (u_1.1 14), .ref (u_1.1 15), .int 0, .ref (u_1.1 16), .ref (u_1.1 17), .ref (u_1.1 18)]))]) X hK hA h (fun sz => kX11_numbers_450 l D cy x0 a2 a3 (u_0.1 0) (u_0.1 1) (u_0.1 37) (u_0.1 39) (u_0.1 41) (u_0.1 43) (u_0.1 14) (u_0.1 15) (u_0.1 16) (u_0.1 17) (u_0.1 20) (u_0.1 24) (u_0.1 29) g_11506 g_11507 g_11508 sz) wm_5_120 wm_5_123 wm_1_1 hd_X11_numbers wm_5_121 wm_5_122 (ci := 11) (q0 := 0) rfl rfl ⟨Nat.le_of_ble_eq_true rfl, Nat.le_of_ble_eq_true rfl⟩ hl.1 rfl (Nat.le_of_ble_eq_true rfl) dL_law_1248 ⟨Nat.le_of_ble_eq_true rfl, Nat.le_of_ble_eq_true rfl⟩ [0] [78] rfl rfl (by decide) rfl rfl (fun r_11509 u_11509 Hp19 lc19 w_11509 hw19 => ?_)
      clear h
      obtain rfl : r_11509 = (-3) := w_11509
      replace hw19 : qW D _ _ [(y0, .inr (12, [.int 0, .ref (u_1.1 19), .ref (u_1.1 0), .ref (u_1.1 1), .ref (u_1.1 2), .int 0, .int 0, .int 0, .int 0, .int 0, .int 0, .int 0, .int 0, .int 0, .int (-1), .int 0, .ref (u_1.1 3), .ref (u_1.1 4), .ref (u_1.1 5), .ref (u_1.1 6), .ref (u_1.1 7), .int 0, .int 0, .ref (u_1.1 8), .ref (u_1.1 9), .ref (u_1.1 10), .int 0, .int 0, .ref (u_1.1 11), .ref (u_1.1 12), .ref (u_1.1 13), .ref (u_1.1 14), .ref (u_1.1 15), .int 0, .ref (u_1.1 16), .ref (u_1.1 17), .ref (u_1.1 18)]))] _ _ := hw19
      refine lv_aload_n hx hb dL_law_1251 rfl (lv_at hl 1 rfl) ?_
      refine lv_aload_n hx hb dL_law_1252 rfl (lv_at hl 3 rfl) ?_
      refine lv_iload_n hx hb dL_law_1253 rfl (lv_at hl 0 rfl) ?_
      refine lv_iconst (v := 1) hx hb dL_law_1254 (by decide) ?_
      refine lv_iadd hx hb dL_law_1255 ?_
      refine q_c 1 (by decide +kernel) ?_
      refine va_sld X.1 X.2.1 hX hbl hbA hw19.2.2 (q_in (by decide +kernel)) dL_law_1256 ?_
      refine q_c 1 e1 ?_
      refine lv_aload_n hx hb dL_law_1257 rfl (lv_at hl 3 rfl) ?_
      refine lv_iload_n hx hb dL_law_1258 rfl (lv_at hl 0 rfl) ?_
      refine lv_iconst (v := 2) hx hb dL_law_1259 (by decide) ?_
      refine lv_iadd hx hb dL_law_1260 ?_
      refine q_c 2 (by decide +kernel) ?_
      refine va_sld X.1 X.2.1 hX hbl hbA hw19.2.2 (q_in (by decide +kernel)) dL_law_1261 ?_
      refine q_c a2 e2 ?_
      refine lv_aload_n hx hb dL_law_1262 rfl (lv_at hl 3 rfl) ?_
      refine lv_iload_n hx hb dL_law_1263 rfl (lv_at hl 0 rfl) ?_
      refine lv_iconst (v := 3) hx hb dL_law_1264 (by decide) ?_
      refine lv_iadd hx hb dL_law_1265 ?_
      refine q_c 3 (by decide +kernel) ?_
      refine va_sld X.1 X.2.1 hX hbl hbA hw19.2.2 (q_in (by decide +kernel)) dL_law_1266 ?_
      refine q_c a3 e3 ?_
      have g_11520 : (0 : Int32) ≤ a2 := by
        simp only [Int32.lt_iff_toInt_lt, Int32.le_iff_toInt_le, ← Int32.toInt_inj] at c_11235 c_11264 ⊢
        have k_0 : ((-1) : Int32).toInt = -1 := by decide
        have k_1 : (3 : Int32).toInt = 3 := by decide
        have k_g : (0 : Int32).toInt = 0 := by decide
        omega
      have g_11521 : a2 ≤ (3 : Int32) := by
        simp only [Int32.lt_iff_toInt_lt, Int32.le_iff_toInt_le, ← Int32.toInt_inj] at c_11235 c_11264 ⊢
        have k_0 : ((-1) : Int32).toInt = -1 := by decide
        have k_1 : (3 : Int32).toInt = 3 := by decide
        omega
      have g_11522 : (41 : Int32) ≤ a3 := by
        simp only [Int32.lt_iff_toInt_lt, Int32.le_iff_toInt_le, ← Int32.toInt_inj] at c_11287 c_11348 ⊢
        have k_0 : ((-1) : Int32).toInt = -1 := by decide
        have k_1 : (40 : Int32).toInt = 40 := by decide
        have k_g : (41 : Int32).toInt = 41 := by decide
        omega
      refine q_callVi (rest := [.int (-3)]) (wr := []) X hK hA hw19 (fun sz => kX12_numbers_451 l D cy y0 a2 a3 (u_1.1 19) (u_1.1 0) (u_1.1 1) (u_1.1 2) (u_1.1 3) (u_1.1 4) (u_1.1 5) (u_1.1 6) (u_1.1 7) (u_1.1 8) (u_1.1 9) (u_1.1 10) (u_1.1 11) (u_1.1 12) (u_1.1 13) (u_1.1 14) (u_1.1 15) (u_1.1 16) (u_1.1 17) (u_1.1 18) g_11520 g_11521 g_11522 sz) wm_8_27 wm_8_30 wm_1_12 hd_X12_numbers wm_8_28 wm_8_29 (ci := 12) (q0 := 0) rfl rfl ⟨Nat.le_of_ble_eq_true rfl, Nat.le_of_ble_eq_true rfl⟩ hl.1 rfl (Nat.le_of_ble_eq_true rfl) dL_law_1267 ⟨Nat.le_of_ble_eq_true rfl, Nat.le_of_ble_eq_true rfl⟩ [0] [] rfl rfl (by decide) rfl rfl (fun r_11523 u_11523 Hp20 lc20 w_11523 hw20 => ?_)
      clear Hp19 lc19 hw19
      obtain rfl : r_11523 = (-3) := w_11523
      replace hw20 : qW D _ _ [] _ _ := hw20
      refine lv_icmp_eq (tgt := 1461) hx hb dL_law_1270 (by decide) (fun _ => ?_) (fun c => absurd c (by decide +kernel))
      exact law_tail l X hr hlk hX hbl hw20.2.2 hl (Nat.le_of_ble_eq_true rfl) (Nat.le_of_ble_eq_true rfl)
    refine lv_aload_n hx hb dL_law_1232 rfl (lv_at hl 2 rfl) ?_
    refine lv_aload_n hx hb dL_law_1233 rfl (lv_at hl 3 rfl) ?_
    refine lv_iload_n hx hb dL_law_1234 rfl (lv_at hl 0 rfl) ?_
    refine lv_iconst (v := 1) hx hb dL_law_1235 (by decide) ?_
    refine lv_iadd hx hb dL_law_1236 ?_
    refine q_c 1 (by decide +kernel) ?_
    refine va_sld X.1 X.2.1 hX hbl hbA h.2.2 (q_in (by decide +kernel)) dL_law_1237 ?_
    refine q_c 1 e1 ?_
    refine lv_aload_n hx hb dL_law_1238 rfl (lv_at hl 3 rfl) ?_
    refine lv_iload_n hx hb dL_law_1239 rfl (lv_at hl 0 rfl) ?_
    refine lv_iconst (v := 2) hx hb dL_law_1240 (by decide) ?_
    refine lv_iadd hx hb dL_law_1241 ?_
    refine q_c 2 (by decide +kernel) ?_
    refine va_sld X.1 X.2.1 hX hbl hbA h.2.2 (q_in (by decide +kernel)) dL_law_1242 ?_
    refine q_c a2 e2 ?_
    refine lv_aload_n hx hb dL_law_1243 rfl (lv_at hl 3 rfl) ?_
    refine lv_iload_n hx hb dL_law_1244 rfl (lv_at hl 0 rfl) ?_
    refine lv_iconst (v := 3) hx hb dL_law_1245 (by decide) ?_
    refine lv_iadd hx hb dL_law_1246 ?_
    refine q_c 3 (by decide +kernel) ?_
    refine va_sld X.1 X.2.1 hX hbl hbA h.2.2 (q_in (by decide +kernel)) dL_law_1247 ?_
    refine q_c a3 e3 ?_
    have g_11552 : (4 : Int32) ≤ a2 := by
      simp only [Int32.lt_iff_toInt_lt, Int32.le_iff_toInt_le, ← Int32.toInt_inj] at c_11235 c_11264 ⊢
      have k_0 : ((-1) : Int32).toInt = -1 := by decide
      have k_1 : (3 : Int32).toInt = 3 := by decide
      have k_g : (4 : Int32).toInt = 4 := by decide
      omega
    refine q_callVi (rest := []) (wr := [(y0, .inr (12, [.int 0, .ref (u_1.1 19), .ref (u_1.1 0), .ref (u_1.1 1), .ref (u_1.1 2), .int 0, .int 0, .int 0, .int 0, .int 0, .int 0, .int 0, .int 0, .int 0, .int (-1), .int 0, .ref (u_1.1 3), .ref (u_1.1 4), .ref (u_1.1 5), .ref (u_1.1 6), .ref (u_1.1 7), .int 0, .int 0, .ref (u_1.1 8), .ref (u_1.1 9), .ref (u_1.1 10), .int 0, .int 0, .ref (u_1.1 11), .ref (u_1.1 12), .ref (u_1.1 13), .ref (u_1.1 14), .ref (u_1.1 15), .int 0, .ref (u_1.1 16), .ref (u_1.1 17), .ref (u_1.1 18)]))]) X hK hA h (fun sz => kX11_numbers_452 l D cy x0 a2 a3 (u_0.1 0) (u_0.1 1) (u_0.1 37) (u_0.1 39) (u_0.1 41) (u_0.1 43) (u_0.1 14) (u_0.1 15) (u_0.1 16) (u_0.1 17) (u_0.1 20) (u_0.1 24) (u_0.1 29) g_11552 sz) wm_5_120 wm_5_123 wm_1_1 hd_X11_numbers wm_5_121 wm_5_122 (ci := 11) (q0 := 0) rfl rfl ⟨Nat.le_of_ble_eq_true rfl, Nat.le_of_ble_eq_true rfl⟩ hl.1 rfl (Nat.le_of_ble_eq_true rfl) dL_law_1248 ⟨Nat.le_of_ble_eq_true rfl, Nat.le_of_ble_eq_true rfl⟩ [0] [78] rfl rfl (by decide) rfl rfl (fun r_11553 u_11553 Hp21 lc21 w_11553 hw21 => ?_)
    clear h
    obtain rfl : r_11553 = (-2) := w_11553
    replace hw21 : qW D _ _ [(y0, .inr (12, [.int 0, .ref (u_1.1 19), .ref (u_1.1 0), .ref (u_1.1 1), .ref (u_1.1 2), .int 0, .int 0, .int 0, .int 0, .int 0, .int 0, .int 0, .int 0, .int 0, .int (-1), .int 0, .ref (u_1.1 3), .ref (u_1.1 4), .ref (u_1.1 5), .ref (u_1.1 6), .ref (u_1.1 7), .int 0, .int 0, .ref (u_1.1 8), .ref (u_1.1 9), .ref (u_1.1 10), .int 0, .int 0, .ref (u_1.1 11), .ref (u_1.1 12), .ref (u_1.1 13), .ref (u_1.1 14), .ref (u_1.1 15), .int 0, .ref (u_1.1 16), .ref (u_1.1 17), .ref (u_1.1 18)]))] _ _ := hw21
    refine lv_aload_n hx hb dL_law_1251 rfl (lv_at hl 1 rfl) ?_
    refine lv_aload_n hx hb dL_law_1252 rfl (lv_at hl 3 rfl) ?_
    refine lv_iload_n hx hb dL_law_1253 rfl (lv_at hl 0 rfl) ?_
    refine lv_iconst (v := 1) hx hb dL_law_1254 (by decide) ?_
    refine lv_iadd hx hb dL_law_1255 ?_
    refine q_c 1 (by decide +kernel) ?_
    refine va_sld X.1 X.2.1 hX hbl hbA hw21.2.2 (q_in (by decide +kernel)) dL_law_1256 ?_
    refine q_c 1 e1 ?_
    refine lv_aload_n hx hb dL_law_1257 rfl (lv_at hl 3 rfl) ?_
    refine lv_iload_n hx hb dL_law_1258 rfl (lv_at hl 0 rfl) ?_
    refine lv_iconst (v := 2) hx hb dL_law_1259 (by decide) ?_
    refine lv_iadd hx hb dL_law_1260 ?_
    refine q_c 2 (by decide +kernel) ?_
    refine va_sld X.1 X.2.1 hX hbl hbA hw21.2.2 (q_in (by decide +kernel)) dL_law_1261 ?_
    refine q_c a2 e2 ?_
    refine lv_aload_n hx hb dL_law_1262 rfl (lv_at hl 3 rfl) ?_
    refine lv_iload_n hx hb dL_law_1263 rfl (lv_at hl 0 rfl) ?_
    refine lv_iconst (v := 3) hx hb dL_law_1264 (by decide) ?_
    refine lv_iadd hx hb dL_law_1265 ?_
    refine q_c 3 (by decide +kernel) ?_
    refine va_sld X.1 X.2.1 hX hbl hbA hw21.2.2 (q_in (by decide +kernel)) dL_law_1266 ?_
    refine q_c a3 e3 ?_
    have g_11559 : (4 : Int32) ≤ a2 := by
      simp only [Int32.lt_iff_toInt_lt, Int32.le_iff_toInt_le, ← Int32.toInt_inj] at c_11235 c_11264 ⊢
      have k_0 : ((-1) : Int32).toInt = -1 := by decide
      have k_1 : (3 : Int32).toInt = 3 := by decide
      have k_g : (4 : Int32).toInt = 4 := by decide
      omega
    refine q_callVi (rest := [.int (-2)]) (wr := []) X hK hA hw21 (fun sz => kX12_numbers_453 l D cy y0 a2 a3 (u_1.1 19) (u_1.1 0) (u_1.1 1) (u_1.1 2) (u_1.1 3) (u_1.1 4) (u_1.1 5) (u_1.1 6) (u_1.1 7) (u_1.1 8) (u_1.1 9) (u_1.1 10) (u_1.1 11) (u_1.1 12) (u_1.1 13) (u_1.1 14) (u_1.1 15) (u_1.1 16) (u_1.1 17) (u_1.1 18) g_11559 sz) wm_8_27 wm_8_30 wm_1_12 hd_X12_numbers wm_8_28 wm_8_29 (ci := 12) (q0 := 0) rfl rfl ⟨Nat.le_of_ble_eq_true rfl, Nat.le_of_ble_eq_true rfl⟩ hl.1 rfl (Nat.le_of_ble_eq_true rfl) dL_law_1267 ⟨Nat.le_of_ble_eq_true rfl, Nat.le_of_ble_eq_true rfl⟩ [0] [] rfl rfl (by decide) rfl rfl (fun r_11560 u_11560 Hp22 lc22 w_11560 hw22 => ?_)
    clear Hp21 lc21 hw21
    obtain rfl : r_11560 = (-2) := w_11560
    replace hw22 : qW D _ _ [] _ _ := hw22
    refine lv_icmp_eq (tgt := 1461) hx hb dL_law_1270 (by decide) (fun _ => ?_) (fun c => absurd c (by decide +kernel))
    exact law_tail l X hr hlk hX hbl hw22.2.2 hl (Nat.le_of_ble_eq_true rfl) (Nat.le_of_ble_eq_true rfl)
  by_cases c_11561 : a1 = 2
  · subst c_11561
    by_cases c_11584 : a2 ≤ (-1)
    · skip
      refine lv_aload_n hx hb dL_law_1232 rfl (lv_at hl 2 rfl) ?_
      refine lv_aload_n hx hb dL_law_1233 rfl (lv_at hl 3 rfl) ?_
      refine lv_iload_n hx hb dL_law_1234 rfl (lv_at hl 0 rfl) ?_
      refine lv_iconst (v := 1) hx hb dL_law_1235 (by decide) ?_
      refine lv_iadd hx hb dL_law_1236 ?_
      refine q_c 1 (by decide +kernel) ?_
      refine va_sld X.1 X.2.1 hX hbl hbA h.2.2 (q_in (by decide +kernel)) dL_law_1237 ?_
      refine q_c 2 e1 ?_
      refine lv_aload_n hx hb dL_law_1238 rfl (lv_at hl 3 rfl) ?_
      refine lv_iload_n hx hb dL_law_1239 rfl (lv_at hl 0 rfl) ?_
      refine lv_iconst (v := 2) hx hb dL_law_1240 (by decide) ?_
      refine lv_iadd hx hb dL_law_1241 ?_
      refine q_c 2 (by decide +kernel) ?_
      refine va_sld X.1 X.2.1 hX hbl hbA h.2.2 (q_in (by decide +kernel)) dL_law_1242 ?_
      refine q_c a2 e2 ?_
      refine lv_aload_n hx hb dL_law_1243 rfl (lv_at hl 3 rfl) ?_
      refine lv_iload_n hx hb dL_law_1244 rfl (lv_at hl 0 rfl) ?_
      refine lv_iconst (v := 3) hx hb dL_law_1245 (by decide) ?_
      refine lv_iadd hx hb dL_law_1246 ?_
      refine q_c 3 (by decide +kernel) ?_
      refine va_sld X.1 X.2.1 hX hbl hbA h.2.2 (q_in (by decide +kernel)) dL_law_1247 ?_
      refine q_c a3 e3 ?_
      have g_11605 : a2 ≤ ((-1) : Int32) := by
        simp only [Int32.lt_iff_toInt_lt, Int32.le_iff_toInt_le, ← Int32.toInt_inj] at c_11584 ⊢
        have k_0 : ((-1) : Int32).toInt = -1 := by decide
        omega
      refine q_callVi (rest := []) (wr := [(y0, .inr (12, [.int 0, .ref (u_1.1 19), .ref (u_1.1 0), .ref (u_1.1 1), .ref (u_1.1 2), .int 0, .int 0, .int 0, .int 0, .int 0, .int 0, .int 0, .int 0, .int 0, .int (-1), .int 0, .ref (u_1.1 3), .ref (u_1.1 4), .ref (u_1.1 5), .ref (u_1.1 6), .ref (u_1.1 7), .int 0, .int 0, .ref (u_1.1 8), .ref (u_1.1 9), .ref (u_1.1 10), .int 0, .int 0, .ref (u_1.1 11), .ref (u_1.1 12), .ref (u_1.1 13), .ref (u_1.1 14), .ref (u_1.1 15), .int 0, .ref (u_1.1 16), .ref (u_1.1 17), .ref (u_1.1 18)]))]) X hK hA h (fun sz => kX11_numbers_454 l D cy x0 a2 a3 (u_0.1 0) (u_0.1 1) (u_0.1 37) (u_0.1 39) (u_0.1 41) (u_0.1 43) (u_0.1 14) (u_0.1 15) (u_0.1 16) (u_0.1 17) (u_0.1 20) (u_0.1 24) (u_0.1 29) g_11605 sz) wm_5_120 wm_5_123 wm_1_1 hd_X11_numbers wm_5_121 wm_5_122 (ci := 11) (q0 := 0) rfl rfl ⟨Nat.le_of_ble_eq_true rfl, Nat.le_of_ble_eq_true rfl⟩ hl.1 rfl (Nat.le_of_ble_eq_true rfl) dL_law_1248 ⟨Nat.le_of_ble_eq_true rfl, Nat.le_of_ble_eq_true rfl⟩ [0] [78] rfl rfl (by decide) rfl rfl (fun r_11606 u_11606 Hp23 lc23 w_11606 hw23 => ?_)
      clear h
      obtain rfl : r_11606 = (-2) := w_11606
      replace hw23 : qW D _ _ [(y0, .inr (12, [.int 0, .ref (u_1.1 19), .ref (u_1.1 0), .ref (u_1.1 1), .ref (u_1.1 2), .int 0, .int 0, .int 0, .int 0, .int 0, .int 0, .int 0, .int 0, .int 0, .int (-1), .int 0, .ref (u_1.1 3), .ref (u_1.1 4), .ref (u_1.1 5), .ref (u_1.1 6), .ref (u_1.1 7), .int 0, .int 0, .ref (u_1.1 8), .ref (u_1.1 9), .ref (u_1.1 10), .int 0, .int 0, .ref (u_1.1 11), .ref (u_1.1 12), .ref (u_1.1 13), .ref (u_1.1 14), .ref (u_1.1 15), .int 0, .ref (u_1.1 16), .ref (u_1.1 17), .ref (u_1.1 18)]))] _ _ := hw23
      refine lv_aload_n hx hb dL_law_1251 rfl (lv_at hl 1 rfl) ?_
      refine lv_aload_n hx hb dL_law_1252 rfl (lv_at hl 3 rfl) ?_
      refine lv_iload_n hx hb dL_law_1253 rfl (lv_at hl 0 rfl) ?_
      refine lv_iconst (v := 1) hx hb dL_law_1254 (by decide) ?_
      refine lv_iadd hx hb dL_law_1255 ?_
      refine q_c 1 (by decide +kernel) ?_
      refine va_sld X.1 X.2.1 hX hbl hbA hw23.2.2 (q_in (by decide +kernel)) dL_law_1256 ?_
      refine q_c 2 e1 ?_
      refine lv_aload_n hx hb dL_law_1257 rfl (lv_at hl 3 rfl) ?_
      refine lv_iload_n hx hb dL_law_1258 rfl (lv_at hl 0 rfl) ?_
      refine lv_iconst (v := 2) hx hb dL_law_1259 (by decide) ?_
      refine lv_iadd hx hb dL_law_1260 ?_
      refine q_c 2 (by decide +kernel) ?_
      refine va_sld X.1 X.2.1 hX hbl hbA hw23.2.2 (q_in (by decide +kernel)) dL_law_1261 ?_
      refine q_c a2 e2 ?_
      refine lv_aload_n hx hb dL_law_1262 rfl (lv_at hl 3 rfl) ?_
      refine lv_iload_n hx hb dL_law_1263 rfl (lv_at hl 0 rfl) ?_
      refine lv_iconst (v := 3) hx hb dL_law_1264 (by decide) ?_
      refine lv_iadd hx hb dL_law_1265 ?_
      refine q_c 3 (by decide +kernel) ?_
      refine va_sld X.1 X.2.1 hX hbl hbA hw23.2.2 (q_in (by decide +kernel)) dL_law_1266 ?_
      refine q_c a3 e3 ?_
      have g_11611 : a2 ≤ ((-1) : Int32) := by
        simp only [Int32.lt_iff_toInt_lt, Int32.le_iff_toInt_le, ← Int32.toInt_inj] at c_11584 ⊢
        have k_0 : ((-1) : Int32).toInt = -1 := by decide
        omega
      refine q_callVi (rest := [.int (-2)]) (wr := []) X hK hA hw23 (fun sz => kX12_numbers_455 l D cy y0 a2 a3 (u_1.1 19) (u_1.1 0) (u_1.1 1) (u_1.1 2) (u_1.1 3) (u_1.1 4) (u_1.1 5) (u_1.1 6) (u_1.1 7) (u_1.1 8) (u_1.1 9) (u_1.1 10) (u_1.1 11) (u_1.1 12) (u_1.1 13) (u_1.1 14) (u_1.1 15) (u_1.1 16) (u_1.1 17) (u_1.1 18) g_11611 sz) wm_8_27 wm_8_30 wm_1_12 hd_X12_numbers wm_8_28 wm_8_29 (ci := 12) (q0 := 0) rfl rfl ⟨Nat.le_of_ble_eq_true rfl, Nat.le_of_ble_eq_true rfl⟩ hl.1 rfl (Nat.le_of_ble_eq_true rfl) dL_law_1267 ⟨Nat.le_of_ble_eq_true rfl, Nat.le_of_ble_eq_true rfl⟩ [0] [] rfl rfl (by decide) rfl rfl (fun r_11612 u_11612 Hp24 lc24 w_11612 hw24 => ?_)
      clear Hp23 lc23 hw23
      obtain rfl : r_11612 = (-2) := w_11612
      replace hw24 : qW D _ _ [] _ _ := hw24
      refine lv_icmp_eq (tgt := 1461) hx hb dL_law_1270 (by decide) (fun _ => ?_) (fun c => absurd c (by decide +kernel))
      exact law_tail l X hr hlk hX hbl hw24.2.2 hl (Nat.le_of_ble_eq_true rfl) (Nat.le_of_ble_eq_true rfl)
    by_cases c_11613 : a2 ≤ 3
    · skip
      by_cases c_11636 : a3 ≤ (-1)
      · skip
        refine lv_aload_n hx hb dL_law_1232 rfl (lv_at hl 2 rfl) ?_
        refine lv_aload_n hx hb dL_law_1233 rfl (lv_at hl 3 rfl) ?_
        refine lv_iload_n hx hb dL_law_1234 rfl (lv_at hl 0 rfl) ?_
        refine lv_iconst (v := 1) hx hb dL_law_1235 (by decide) ?_
        refine lv_iadd hx hb dL_law_1236 ?_
        refine q_c 1 (by decide +kernel) ?_
        refine va_sld X.1 X.2.1 hX hbl hbA h.2.2 (q_in (by decide +kernel)) dL_law_1237 ?_
        refine q_c 2 e1 ?_
        refine lv_aload_n hx hb dL_law_1238 rfl (lv_at hl 3 rfl) ?_
        refine lv_iload_n hx hb dL_law_1239 rfl (lv_at hl 0 rfl) ?_
        refine lv_iconst (v := 2) hx hb dL_law_1240 (by decide) ?_
        refine lv_iadd hx hb dL_law_1241 ?_
        refine q_c 2 (by decide +kernel) ?_
        refine va_sld X.1 X.2.1 hX hbl hbA h.2.2 (q_in (by decide +kernel)) dL_law_1242 ?_
        refine q_c a2 e2 ?_
        refine lv_aload_n hx hb dL_law_1243 rfl (lv_at hl 3 rfl) ?_
        refine lv_iload_n hx hb dL_law_1244 rfl (lv_at hl 0 rfl) ?_
        refine lv_iconst (v := 3) hx hb dL_law_1245 (by decide) ?_
        refine lv_iadd hx hb dL_law_1246 ?_
        refine q_c 3 (by decide +kernel) ?_
        refine va_sld X.1 X.2.1 hX hbl hbA h.2.2 (q_in (by decide +kernel)) dL_law_1247 ?_
        refine q_c a3 e3 ?_
        have g_11680 : (0 : Int32) ≤ a2 := by
          simp only [Int32.lt_iff_toInt_lt, Int32.le_iff_toInt_le, ← Int32.toInt_inj] at c_11584 c_11613 ⊢
          have k_0 : ((-1) : Int32).toInt = -1 := by decide
          have k_1 : (3 : Int32).toInt = 3 := by decide
          have k_g : (0 : Int32).toInt = 0 := by decide
          omega
        have g_11681 : a2 ≤ (3 : Int32) := by
          simp only [Int32.lt_iff_toInt_lt, Int32.le_iff_toInt_le, ← Int32.toInt_inj] at c_11584 c_11613 ⊢
          have k_0 : ((-1) : Int32).toInt = -1 := by decide
          have k_1 : (3 : Int32).toInt = 3 := by decide
          omega
        have g_11682 : a3 ≤ ((-1) : Int32) := by
          simp only [Int32.lt_iff_toInt_lt, Int32.le_iff_toInt_le, ← Int32.toInt_inj] at c_11636 ⊢
          have k_0 : ((-1) : Int32).toInt = -1 := by decide
          omega
        refine q_callVi (rest := []) (wr := [(y0, .inr (12, [.int 0, .ref (u_1.1 19), .ref (u_1.1 0), .ref (u_1.1 1), .ref (u_1.1 2), .int 0, .int 0, .int 0, .int 0, .int 0, .int 0, .int 0, .int 0, .int 0, .int (-1), .int 0, .ref (u_1.1 3), .ref (u_1.1 4), .ref (u_1.1 5), .ref (u_1.1 6), .ref (u_1.1 7), .int 0, .int 0, .ref (u_1.1 8), .ref (u_1.1 9), .ref (u_1.1 10), .int 0, .int 0, .ref (u_1.1 11), .ref (u_1.1 12), .ref (u_1.1 13), .ref (u_1.1 14), .ref (u_1.1 15), .int 0, .ref (u_1.1 16), .ref (u_1.1 17), .ref (u_1.1 18)]))]) X hK hA h (fun sz => kX11_numbers_456 l D cy x0 a2 a3 (u_0.1 0) (u_0.1 1) (u_0.1 37) (u_0.1 39) (u_0.1 41) (u_0.1 43) (u_0.1 14) (u_0.1 15) (u_0.1 16) (u_0.1 17) (u_0.1 20) (u_0.1 24) (u_0.1 29) g_11680 g_11681 g_11682 sz) wm_5_120 wm_5_123 wm_1_1 hd_X11_numbers wm_5_121 wm_5_122 (ci := 11) (q0 := 0) rfl rfl ⟨Nat.le_of_ble_eq_true rfl, Nat.le_of_ble_eq_true rfl⟩ hl.1 rfl (Nat.le_of_ble_eq_true rfl) dL_law_1248 ⟨Nat.le_of_ble_eq_true rfl, Nat.le_of_ble_eq_true rfl⟩ [0] [78] rfl rfl (by decide) rfl rfl (fun r_11683 u_11683 Hp25 lc25 w_11683 hw25 => ?_)
        clear h
        obtain rfl : r_11683 = (-3) := w_11683
        replace hw25 : qW D _ _ [(y0, .inr (12, [.int 0, .ref (u_1.1 19), .ref (u_1.1 0), .ref (u_1.1 1), .ref (u_1.1 2), .int 0, .int 0, .int 0, .int 0, .int 0, .int 0, .int 0, .int 0, .int 0, .int (-1), .int 0, .ref (u_1.1 3), .ref (u_1.1 4), .ref (u_1.1 5), .ref (u_1.1 6), .ref (u_1.1 7), .int 0, .int 0, .ref (u_1.1 8), .ref (u_1.1 9), .ref (u_1.1 10), .int 0, .int 0, .ref (u_1.1 11), .ref (u_1.1 12), .ref (u_1.1 13), .ref (u_1.1 14), .ref (u_1.1 15), .int 0, .ref (u_1.1 16), .ref (u_1.1 17), .ref (u_1.1 18)]))] _ _ := hw25
        refine lv_aload_n hx hb dL_law_1251 rfl (lv_at hl 1 rfl) ?_
        refine lv_aload_n hx hb dL_law_1252 rfl (lv_at hl 3 rfl) ?_
        refine lv_iload_n hx hb dL_law_1253 rfl (lv_at hl 0 rfl) ?_
        refine lv_iconst (v := 1) hx hb dL_law_1254 (by decide) ?_
        refine lv_iadd hx hb dL_law_1255 ?_
        refine q_c 1 (by decide +kernel) ?_
        refine va_sld X.1 X.2.1 hX hbl hbA hw25.2.2 (q_in (by decide +kernel)) dL_law_1256 ?_
        refine q_c 2 e1 ?_
        refine lv_aload_n hx hb dL_law_1257 rfl (lv_at hl 3 rfl) ?_
        refine lv_iload_n hx hb dL_law_1258 rfl (lv_at hl 0 rfl) ?_
        refine lv_iconst (v := 2) hx hb dL_law_1259 (by decide) ?_
        refine lv_iadd hx hb dL_law_1260 ?_
        refine q_c 2 (by decide +kernel) ?_
        refine va_sld X.1 X.2.1 hX hbl hbA hw25.2.2 (q_in (by decide +kernel)) dL_law_1261 ?_
        refine q_c a2 e2 ?_
        refine lv_aload_n hx hb dL_law_1262 rfl (lv_at hl 3 rfl) ?_
        refine lv_iload_n hx hb dL_law_1263 rfl (lv_at hl 0 rfl) ?_
        refine lv_iconst (v := 3) hx hb dL_law_1264 (by decide) ?_
        refine lv_iadd hx hb dL_law_1265 ?_
        refine q_c 3 (by decide +kernel) ?_
        refine va_sld X.1 X.2.1 hX hbl hbA hw25.2.2 (q_in (by decide +kernel)) dL_law_1266 ?_
        refine q_c a3 e3 ?_
        have g_11693 : (0 : Int32) ≤ a2 := by
          simp only [Int32.lt_iff_toInt_lt, Int32.le_iff_toInt_le, ← Int32.toInt_inj] at c_11584 c_11613 ⊢
          have k_0 : ((-1) : Int32).toInt = -1 := by decide
          have k_1 : (3 : Int32).toInt = 3 := by decide
          have k_g : (0 : Int32).toInt = 0 := by decide
          omega
        have g_11694 : a2 ≤ (3 : Int32) := by
          simp only [Int32.lt_iff_toInt_lt, Int32.le_iff_toInt_le, ← Int32.toInt_inj] at c_11584 c_11613 ⊢
          have k_0 : ((-1) : Int32).toInt = -1 := by decide
          have k_1 : (3 : Int32).toInt = 3 := by decide
          omega
        have g_11695 : a3 ≤ ((-1) : Int32) := by
          simp only [Int32.lt_iff_toInt_lt, Int32.le_iff_toInt_le, ← Int32.toInt_inj] at c_11636 ⊢
          have k_0 : ((-1) : Int32).toInt = -1 := by decide
          omega
        refine q_callVi (rest := [.int (-3)]) (wr := []) X hK hA hw25 (fun sz => kX12_numbers_457 l D cy y0 a2 a3 (u_1.1 19) (u_1.1 0) (u_1.1 1) (u_1.1 2) (u_1.1 3) (u_1.1 4) (u_1.1 5) (u_1.1 6) (u_1.1 7) (u_1.1 8) (u_1.1 9) (u_1.1 10) (u_1.1 11) (u_1.1 12) (u_1.1 13) (u_1.1 14) (u_1.1 15) (u_1.1 16) (u_1.1 17) (u_1.1 18) g_11693 g_11694 g_11695 sz) wm_8_27 wm_8_30 wm_1_12 hd_X12_numbers wm_8_28 wm_8_29 (ci := 12) (q0 := 0) rfl rfl ⟨Nat.le_of_ble_eq_true rfl, Nat.le_of_ble_eq_true rfl⟩ hl.1 rfl (Nat.le_of_ble_eq_true rfl) dL_law_1267 ⟨Nat.le_of_ble_eq_true rfl, Nat.le_of_ble_eq_true rfl⟩ [0] [] rfl rfl (by decide) rfl rfl (fun r_11696 u_11696 Hp26 lc26 w_11696 hw26 => ?_)
        clear Hp25 lc25 hw25
        obtain rfl : r_11696 = (-3) := w_11696
        replace hw26 : qW D _ _ [] _ _ := hw26
        refine lv_icmp_eq (tgt := 1461) hx hb dL_law_1270 (by decide) (fun _ => ?_) (fun c => absurd c (by decide +kernel))
        exact law_tail l X hr hlk hX hbl hw26.2.2 hl (Nat.le_of_ble_eq_true rfl) (Nat.le_of_ble_eq_true rfl)
      by_cases c_11697 : a3 ≤ 40
      · skip
        refine lv_aload_n hx hb dL_law_1232 rfl (lv_at hl 2 rfl) ?_
        refine lv_aload_n hx hb dL_law_1233 rfl (lv_at hl 3 rfl) ?_
        refine lv_iload_n hx hb dL_law_1234 rfl (lv_at hl 0 rfl) ?_
        refine lv_iconst (v := 1) hx hb dL_law_1235 (by decide) ?_
        refine lv_iadd hx hb dL_law_1236 ?_
        refine q_c 1 (by decide +kernel) ?_
        refine va_sld X.1 X.2.1 hX hbl hbA h.2.2 (q_in (by decide +kernel)) dL_law_1237 ?_
        refine q_c 2 e1 ?_
        refine lv_aload_n hx hb dL_law_1238 rfl (lv_at hl 3 rfl) ?_
        refine lv_iload_n hx hb dL_law_1239 rfl (lv_at hl 0 rfl) ?_
        refine lv_iconst (v := 2) hx hb dL_law_1240 (by decide) ?_
        refine lv_iadd hx hb dL_law_1241 ?_
        refine q_c 2 (by decide +kernel) ?_
        refine va_sld X.1 X.2.1 hX hbl hbA h.2.2 (q_in (by decide +kernel)) dL_law_1242 ?_
        refine q_c a2 e2 ?_
        refine lv_aload_n hx hb dL_law_1243 rfl (lv_at hl 3 rfl) ?_
        refine lv_iload_n hx hb dL_law_1244 rfl (lv_at hl 0 rfl) ?_
        refine lv_iconst (v := 3) hx hb dL_law_1245 (by decide) ?_
        refine lv_iadd hx hb dL_law_1246 ?_
        refine q_c 3 (by decide +kernel) ?_
        refine va_sld X.1 X.2.1 hX hbl hbA h.2.2 (q_in (by decide +kernel)) dL_law_1247 ?_
        refine q_c a3 e3 ?_
        have g_11781 : (0 : Int32) ≤ a2 := by
          simp only [Int32.lt_iff_toInt_lt, Int32.le_iff_toInt_le, ← Int32.toInt_inj] at c_11584 c_11613 ⊢
          have k_0 : ((-1) : Int32).toInt = -1 := by decide
          have k_1 : (3 : Int32).toInt = 3 := by decide
          have k_g : (0 : Int32).toInt = 0 := by decide
          omega
        have g_11782 : a2 ≤ (3 : Int32) := by
          simp only [Int32.lt_iff_toInt_lt, Int32.le_iff_toInt_le, ← Int32.toInt_inj] at c_11584 c_11613 ⊢
          have k_0 : ((-1) : Int32).toInt = -1 := by decide
          have k_1 : (3 : Int32).toInt = 3 := by decide
          omega
        have g_11783 : (0 : Int32) ≤ a3 := by
          simp only [Int32.lt_iff_toInt_lt, Int32.le_iff_toInt_le, ← Int32.toInt_inj] at c_11636 c_11697 ⊢
          have k_0 : ((-1) : Int32).toInt = -1 := by decide
          have k_1 : (40 : Int32).toInt = 40 := by decide
          have k_g : (0 : Int32).toInt = 0 := by decide
          omega
        have g_11784 : a3 ≤ (40 : Int32) := by
          simp only [Int32.lt_iff_toInt_lt, Int32.le_iff_toInt_le, ← Int32.toInt_inj] at c_11636 c_11697 ⊢
          have k_0 : ((-1) : Int32).toInt = -1 := by decide
          have k_1 : (40 : Int32).toInt = 40 := by decide
          omega
        refine q_callVi (rest := []) (wr := [(y0, .inr (12, [.int 0, .ref (u_1.1 19), .ref (u_1.1 0), .ref (u_1.1 1), .ref (u_1.1 2), .int 0, .int 0, .int 0, .int 0, .int 0, .int 0, .int 0, .int 0, .int 0, .int (-1), .int 0, .ref (u_1.1 3), .ref (u_1.1 4), .ref (u_1.1 5), .ref (u_1.1 6), .ref (u_1.1 7), .int 0, .int 0, .ref (u_1.1 8), .ref (u_1.1 9), .ref (u_1.1 10), .int 0, .int 0, .ref (u_1.1 11), .ref (u_1.1 12), .ref (u_1.1 13), .ref (u_1.1 14), .ref (u_1.1 15), .int 0, .ref (u_1.1 16), .ref (u_1.1 17), .ref (u_1.1 18)])), ((u_1.1 16), .inl (cy 1, 4, .inl (upd (upd (upd (upd (fun _ => 0) (Int32.toNatClampNeg 0) (-1)) (Int32.toNatClampNeg 1) (-1)) (Int32.toNatClampNeg 2) (-1)) (Int32.toNatClampNeg 3) (-1)))), ((u_1.1 17), .inl (cy 1, 4, .inl (fun _ => 0))), ((u_1.1 18), .inl (cy 2, 160, .inr (.inl (fun _ => 0))))]) X hK hA h (fun sz => kX11_numbers_458 l D cy x0 (u_0.1 14) (u_0.1 69) (u_0.1 70) a2 a3 (u_0.1 0) (u_0.1 1) (u_0.1 37) (u_0.1 39) (u_0.1 41) (u_0.1 43) (u_0.1 15) (u_0.1 16) (u_0.1 17) (u_0.1 20) (u_0.1 24) (u_0.1 29) (u_0.1 71) (u_0.1 67) (u_0.1 65) g_11781 g_11782 g_11783 g_11784 sz) wm_5_120 wm_5_123 wm_1_1 hd_X11_numbers wm_5_121 wm_5_122 (ci := 11) (q0 := 0) rfl rfl ⟨Nat.le_of_ble_eq_true rfl, Nat.le_of_ble_eq_true rfl⟩ hl.1 rfl (Nat.le_of_ble_eq_true rfl) dL_law_1248 ⟨Nat.le_of_ble_eq_true rfl, Nat.le_of_ble_eq_true rfl⟩ [0, 15, 70, 71] [78, 95, 96, 97] rfl rfl (by decide) rfl rfl (fun r_11785 u_11785 Hp27 lc27 w_11785 hw27 => ?_)
        clear h
        obtain rfl : r_11785 = 0 := w_11785
        replace hw27 : qW D _ _ [(y0, .inr (12, [.int 0, .ref (u_1.1 19), .ref (u_1.1 0), .ref (u_1.1 1), .ref (u_1.1 2), .int 0, .int 0, .int 0, .int 0, .int 0, .int 0, .int 0, .int 0, .int 0, .int (-1), .int 0, .ref (u_1.1 3), .ref (u_1.1 4), .ref (u_1.1 5), .ref (u_1.1 6), .ref (u_1.1 7), .int 0, .int 0, .ref (u_1.1 8), .ref (u_1.1 9), .ref (u_1.1 10), .int 0, .int 0, .ref (u_1.1 11), .ref (u_1.1 12), .ref (u_1.1 13), .ref (u_1.1 14), .ref (u_1.1 15), .int 0, .ref (u_1.1 16), .ref (u_1.1 17), .ref (u_1.1 18)])), ((u_1.1 16), .inl (cy 1, 4, .inl (upd (upd (upd (upd (fun _ => 0) (Int32.toNatClampNeg 0) (-1)) (Int32.toNatClampNeg 1) (-1)) (Int32.toNatClampNeg 2) (-1)) (Int32.toNatClampNeg 3) (-1)))), ((u_1.1 17), .inl (cy 1, 4, .inl (fun _ => 0))), ((u_1.1 18), .inl (cy 2, 160, .inr (.inl (fun _ => 0))))] _ _ := hw27
        refine lv_aload_n hx hb dL_law_1251 rfl (lv_at hl 1 rfl) ?_
        refine lv_aload_n hx hb dL_law_1252 rfl (lv_at hl 3 rfl) ?_
        refine lv_iload_n hx hb dL_law_1253 rfl (lv_at hl 0 rfl) ?_
        refine lv_iconst (v := 1) hx hb dL_law_1254 (by decide) ?_
        refine lv_iadd hx hb dL_law_1255 ?_
        refine q_c 1 (by decide +kernel) ?_
        refine va_sld X.1 X.2.1 hX hbl hbA hw27.2.2 (q_in (by decide +kernel)) dL_law_1256 ?_
        refine q_c 2 e1 ?_
        refine lv_aload_n hx hb dL_law_1257 rfl (lv_at hl 3 rfl) ?_
        refine lv_iload_n hx hb dL_law_1258 rfl (lv_at hl 0 rfl) ?_
        refine lv_iconst (v := 2) hx hb dL_law_1259 (by decide) ?_
        refine lv_iadd hx hb dL_law_1260 ?_
        refine q_c 2 (by decide +kernel) ?_
        refine va_sld X.1 X.2.1 hX hbl hbA hw27.2.2 (q_in (by decide +kernel)) dL_law_1261 ?_
        refine q_c a2 e2 ?_
        refine lv_aload_n hx hb dL_law_1262 rfl (lv_at hl 3 rfl) ?_
        refine lv_iload_n hx hb dL_law_1263 rfl (lv_at hl 0 rfl) ?_
        refine lv_iconst (v := 3) hx hb dL_law_1264 (by decide) ?_
        refine lv_iadd hx hb dL_law_1265 ?_
        refine q_c 3 (by decide +kernel) ?_
        refine va_sld X.1 X.2.1 hX hbl hbA hw27.2.2 (q_in (by decide +kernel)) dL_law_1266 ?_
        refine q_c a3 e3 ?_
        have g_11799 : (0 : Int32) ≤ a2 := by
          simp only [Int32.lt_iff_toInt_lt, Int32.le_iff_toInt_le, ← Int32.toInt_inj] at c_11584 c_11613 ⊢
          have k_0 : ((-1) : Int32).toInt = -1 := by decide
          have k_1 : (3 : Int32).toInt = 3 := by decide
          have k_g : (0 : Int32).toInt = 0 := by decide
          omega
        have g_11800 : a2 ≤ (3 : Int32) := by
          simp only [Int32.lt_iff_toInt_lt, Int32.le_iff_toInt_le, ← Int32.toInt_inj] at c_11584 c_11613 ⊢
          have k_0 : ((-1) : Int32).toInt = -1 := by decide
          have k_1 : (3 : Int32).toInt = 3 := by decide
          omega
        have g_11801 : (0 : Int32) ≤ a3 := by
          simp only [Int32.lt_iff_toInt_lt, Int32.le_iff_toInt_le, ← Int32.toInt_inj] at c_11636 c_11697 ⊢
          have k_0 : ((-1) : Int32).toInt = -1 := by decide
          have k_1 : (40 : Int32).toInt = 40 := by decide
          have k_g : (0 : Int32).toInt = 0 := by decide
          omega
        have g_11802 : a3 ≤ (40 : Int32) := by
          simp only [Int32.lt_iff_toInt_lt, Int32.le_iff_toInt_le, ← Int32.toInt_inj] at c_11636 c_11697 ⊢
          have k_0 : ((-1) : Int32).toInt = -1 := by decide
          have k_1 : (40 : Int32).toInt = 40 := by decide
          omega
        refine q_callVi (rest := [.int 0]) (wr := []) X hK hA hw27 (fun sz => kX12_numbers_459 l D cy y0 (u_1.1 16) (u_1.1 17) (u_1.1 18) (upd (upd (upd (upd (fun _ => 0) (Int32.toNatClampNeg 0) (-1)) (Int32.toNatClampNeg 1) (-1)) (Int32.toNatClampNeg 2) (-1)) (Int32.toNatClampNeg 3) (-1)) a2 a3 (u_1.1 19) (u_1.1 0) (u_1.1 1) (u_1.1 2) (u_1.1 3) (u_1.1 4) (u_1.1 5) (u_1.1 6) (u_1.1 7) (u_1.1 8) (u_1.1 9) (u_1.1 10) (u_1.1 11) (u_1.1 12) (u_1.1 13) (u_1.1 14) (u_1.1 15) g_11799 g_11800 g_11801 g_11802 sz) wm_8_27 wm_8_30 wm_1_12 hd_X12_numbers wm_8_28 wm_8_29 (ci := 12) (q0 := 0) rfl rfl ⟨Nat.le_of_ble_eq_true rfl, Nat.le_of_ble_eq_true rfl⟩ hl.1 rfl (Nat.le_of_ble_eq_true rfl) dL_law_1267 ⟨Nat.le_of_ble_eq_true rfl, Nat.le_of_ble_eq_true rfl⟩ [0, 1, 2, 3] [] rfl rfl (by decide) rfl rfl (fun r_11803 u_11803 Hp28 lc28 w_11803 hw28 => ?_)
        clear Hp27 lc27 hw27
        obtain rfl : r_11803 = 0 := w_11803
        replace hw28 : qW D _ _ [] _ _ := hw28
        refine lv_icmp_eq (tgt := 1461) hx hb dL_law_1270 (by decide) (fun _ => ?_) (fun c => absurd c (by decide +kernel))
        exact law_tail l X hr hlk hX hbl hw28.2.2 hl (Nat.le_of_ble_eq_true rfl) (Nat.le_of_ble_eq_true rfl)
      refine lv_aload_n hx hb dL_law_1232 rfl (lv_at hl 2 rfl) ?_
      refine lv_aload_n hx hb dL_law_1233 rfl (lv_at hl 3 rfl) ?_
      refine lv_iload_n hx hb dL_law_1234 rfl (lv_at hl 0 rfl) ?_
      refine lv_iconst (v := 1) hx hb dL_law_1235 (by decide) ?_
      refine lv_iadd hx hb dL_law_1236 ?_
      refine q_c 1 (by decide +kernel) ?_
      refine va_sld X.1 X.2.1 hX hbl hbA h.2.2 (q_in (by decide +kernel)) dL_law_1237 ?_
      refine q_c 2 e1 ?_
      refine lv_aload_n hx hb dL_law_1238 rfl (lv_at hl 3 rfl) ?_
      refine lv_iload_n hx hb dL_law_1239 rfl (lv_at hl 0 rfl) ?_
      refine lv_iconst (v := 2) hx hb dL_law_1240 (by decide) ?_
      refine lv_iadd hx hb dL_law_1241 ?_
      refine q_c 2 (by decide +kernel) ?_
      refine va_sld X.1 X.2.1 hX hbl hbA h.2.2 (q_in (by decide +kernel)) dL_law_1242 ?_
      refine q_c a2 e2 ?_
      refine lv_aload_n hx hb dL_law_1243 rfl (lv_at hl 3 rfl) ?_
      refine lv_iload_n hx hb dL_law_1244 rfl (lv_at hl 0 rfl) ?_
      refine lv_iconst (v := 3) hx hb dL_law_1245 (by decide) ?_
      refine lv_iadd hx hb dL_law_1246 ?_
      refine q_c 3 (by decide +kernel) ?_
      refine va_sld X.1 X.2.1 hX hbl hbA h.2.2 (q_in (by decide +kernel)) dL_law_1247 ?_
      refine q_c a3 e3 ?_
      have g_11855 : (0 : Int32) ≤ a2 := by
        simp only [Int32.lt_iff_toInt_lt, Int32.le_iff_toInt_le, ← Int32.toInt_inj] at c_11584 c_11613 ⊢
        have k_0 : ((-1) : Int32).toInt = -1 := by decide
        have k_1 : (3 : Int32).toInt = 3 := by decide
        have k_g : (0 : Int32).toInt = 0 := by decide
        omega
      have g_11856 : a2 ≤ (3 : Int32) := by
        simp only [Int32.lt_iff_toInt_lt, Int32.le_iff_toInt_le, ← Int32.toInt_inj] at c_11584 c_11613 ⊢
        have k_0 : ((-1) : Int32).toInt = -1 := by decide
        have k_1 : (3 : Int32).toInt = 3 := by decide
        omega
      have g_11857 : (41 : Int32) ≤ a3 := by
        simp only [Int32.lt_iff_toInt_lt, Int32.le_iff_toInt_le, ← Int32.toInt_inj] at c_11636 c_11697 ⊢
        have k_0 : ((-1) : Int32).toInt = -1 := by decide
        have k_1 : (40 : Int32).toInt = 40 := by decide
        have k_g : (41 : Int32).toInt = 41 := by decide
        omega
      refine q_callVi (rest := []) (wr := [(y0, .inr (12, [.int 0, .ref (u_1.1 19), .ref (u_1.1 0), .ref (u_1.1 1), .ref (u_1.1 2), .int 0, .int 0, .int 0, .int 0, .int 0, .int 0, .int 0, .int 0, .int 0, .int (-1), .int 0, .ref (u_1.1 3), .ref (u_1.1 4), .ref (u_1.1 5), .ref (u_1.1 6), .ref (u_1.1 7), .int 0, .int 0, .ref (u_1.1 8), .ref (u_1.1 9), .ref (u_1.1 10), .int 0, .int 0, .ref (u_1.1 11), .ref (u_1.1 12), .ref (u_1.1 13), .ref (u_1.1 14), .ref (u_1.1 15), .int 0, .ref (u_1.1 16), .ref (u_1.1 17), .ref (u_1.1 18)]))]) X hK hA h (fun sz => kX11_numbers_460 l D cy x0 a2 a3 (u_0.1 0) (u_0.1 1) (u_0.1 37) (u_0.1 39) (u_0.1 41) (u_0.1 43) (u_0.1 14) (u_0.1 15) (u_0.1 16) (u_0.1 17) (u_0.1 20) (u_0.1 24) (u_0.1 29) g_11855 g_11856 g_11857 sz) wm_5_120 wm_5_123 wm_1_1 hd_X11_numbers wm_5_121 wm_5_122 (ci := 11) (q0 := 0) rfl rfl ⟨Nat.le_of_ble_eq_true rfl, Nat.le_of_ble_eq_true rfl⟩ hl.1 rfl (Nat.le_of_ble_eq_true rfl) dL_law_1248 ⟨Nat.le_of_ble_eq_true rfl, Nat.le_of_ble_eq_true rfl⟩ [0] [78] rfl rfl (by decide) rfl rfl (fun r_11858 u_11858 Hp29 lc29 w_11858 hw29 => ?_)
      clear h
      obtain rfl : r_11858 = (-3) := w_11858
      replace hw29 : qW D _ _ [(y0, .inr (12, [.int 0, .ref (u_1.1 19), .ref (u_1.1 0), .ref (u_1.1 1), .ref (u_1.1 2), .int 0, .int 0, .int 0, .int 0, .int 0, .int 0, .int 0, .int 0, .int 0, .int (-1), .int 0, .ref (u_1.1 3), .ref (u_1.1 4), .ref (u_1.1 5), .ref (u_1.1 6), .ref (u_1.1 7), .int 0, .int 0, .ref (u_1.1 8), .ref (u_1.1 9), .ref (u_1.1 10), .int 0, .int 0, .ref (u_1.1 11), .ref (u_1.1 12), .ref (u_1.1 13), .ref (u_1.1 14), .ref (u_1.1 15), .int 0, .ref (u_1.1 16), .ref (u_1.1 17), .ref (u_1.1 18)]))] _ _ := hw29
      refine lv_aload_n hx hb dL_law_1251 rfl (lv_at hl 1 rfl) ?_
      refine lv_aload_n hx hb dL_law_1252 rfl (lv_at hl 3 rfl) ?_
      refine lv_iload_n hx hb dL_law_1253 rfl (lv_at hl 0 rfl) ?_
      refine lv_iconst (v := 1) hx hb dL_law_1254 (by decide) ?_
      refine lv_iadd hx hb dL_law_1255 ?_
      refine q_c 1 (by decide +kernel) ?_
      refine va_sld X.1 X.2.1 hX hbl hbA hw29.2.2 (q_in (by decide +kernel)) dL_law_1256 ?_
      refine q_c 2 e1 ?_
      refine lv_aload_n hx hb dL_law_1257 rfl (lv_at hl 3 rfl) ?_
      refine lv_iload_n hx hb dL_law_1258 rfl (lv_at hl 0 rfl) ?_
      refine lv_iconst (v := 2) hx hb dL_law_1259 (by decide) ?_
      refine lv_iadd hx hb dL_law_1260 ?_
      refine q_c 2 (by decide +kernel) ?_
      refine va_sld X.1 X.2.1 hX hbl hbA hw29.2.2 (q_in (by decide +kernel)) dL_law_1261 ?_
      refine q_c a2 e2 ?_
      refine lv_aload_n hx hb dL_law_1262 rfl (lv_at hl 3 rfl) ?_
      refine lv_iload_n hx hb dL_law_1263 rfl (lv_at hl 0 rfl) ?_
      refine lv_iconst (v := 3) hx hb dL_law_1264 (by decide) ?_
      refine lv_iadd hx hb dL_law_1265 ?_
      refine q_c 3 (by decide +kernel) ?_
      refine va_sld X.1 X.2.1 hX hbl hbA hw29.2.2 (q_in (by decide +kernel)) dL_law_1266 ?_
      refine q_c a3 e3 ?_
      have g_11869 : (0 : Int32) ≤ a2 := by
        simp only [Int32.lt_iff_toInt_lt, Int32.le_iff_toInt_le, ← Int32.toInt_inj] at c_11584 c_11613 ⊢
        have k_0 : ((-1) : Int32).toInt = -1 := by decide
        have k_1 : (3 : Int32).toInt = 3 := by decide
        have k_g : (0 : Int32).toInt = 0 := by decide
        omega
      have g_11870 : a2 ≤ (3 : Int32) := by
        simp only [Int32.lt_iff_toInt_lt, Int32.le_iff_toInt_le, ← Int32.toInt_inj] at c_11584 c_11613 ⊢
        have k_0 : ((-1) : Int32).toInt = -1 := by decide
        have k_1 : (3 : Int32).toInt = 3 := by decide
        omega
      have g_11871 : (41 : Int32) ≤ a3 := by
        simp only [Int32.lt_iff_toInt_lt, Int32.le_iff_toInt_le, ← Int32.toInt_inj] at c_11636 c_11697 ⊢
        have k_0 : ((-1) : Int32).toInt = -1 := by decide
        have k_1 : (40 : Int32).toInt = 40 := by decide
        have k_g : (41 : Int32).toInt = 41 := by decide
        omega
      refine q_callVi (rest := [.int (-3)]) (wr := []) X hK hA hw29 (fun sz => kX12_numbers_461 l D cy y0 a2 a3 (u_1.1 19) (u_1.1 0) (u_1.1 1) (u_1.1 2) (u_1.1 3) (u_1.1 4) (u_1.1 5) (u_1.1 6) (u_1.1 7) (u_1.1 8) (u_1.1 9) (u_1.1 10) (u_1.1 11) (u_1.1 12) (u_1.1 13) (u_1.1 14) (u_1.1 15) (u_1.1 16) (u_1.1 17) (u_1.1 18) g_11869 g_11870 g_11871 sz) wm_8_27 wm_8_30 wm_1_12 hd_X12_numbers wm_8_28 wm_8_29 (ci := 12) (q0 := 0) rfl rfl ⟨Nat.le_of_ble_eq_true rfl, Nat.le_of_ble_eq_true rfl⟩ hl.1 rfl (Nat.le_of_ble_eq_true rfl) dL_law_1267 ⟨Nat.le_of_ble_eq_true rfl, Nat.le_of_ble_eq_true rfl⟩ [0] [] rfl rfl (by decide) rfl rfl (fun r_11872 u_11872 Hp30 lc30 w_11872 hw30 => ?_)
      clear Hp29 lc29 hw29
      obtain rfl : r_11872 = (-3) := w_11872
      replace hw30 : qW D _ _ [] _ _ := hw30
      refine lv_icmp_eq (tgt := 1461) hx hb dL_law_1270 (by decide) (fun _ => ?_) (fun c => absurd c (by decide +kernel))
      exact law_tail l X hr hlk hX hbl hw30.2.2 hl (Nat.le_of_ble_eq_true rfl) (Nat.le_of_ble_eq_true rfl)
    refine lv_aload_n hx hb dL_law_1232 rfl (lv_at hl 2 rfl) ?_
    refine lv_aload_n hx hb dL_law_1233 rfl (lv_at hl 3 rfl) ?_
    refine lv_iload_n hx hb dL_law_1234 rfl (lv_at hl 0 rfl) ?_
    refine lv_iconst (v := 1) hx hb dL_law_1235 (by decide) ?_
    refine lv_iadd hx hb dL_law_1236 ?_
    refine q_c 1 (by decide +kernel) ?_
    refine va_sld X.1 X.2.1 hX hbl hbA h.2.2 (q_in (by decide +kernel)) dL_law_1237 ?_
    refine q_c 2 e1 ?_
    refine lv_aload_n hx hb dL_law_1238 rfl (lv_at hl 3 rfl) ?_
    refine lv_iload_n hx hb dL_law_1239 rfl (lv_at hl 0 rfl) ?_
    refine lv_iconst (v := 2) hx hb dL_law_1240 (by decide) ?_
    refine lv_iadd hx hb dL_law_1241 ?_
    refine q_c 2 (by decide +kernel) ?_
    refine va_sld X.1 X.2.1 hX hbl hbA h.2.2 (q_in (by decide +kernel)) dL_law_1242 ?_
    refine q_c a2 e2 ?_
    refine lv_aload_n hx hb dL_law_1243 rfl (lv_at hl 3 rfl) ?_
    refine lv_iload_n hx hb dL_law_1244 rfl (lv_at hl 0 rfl) ?_
    refine lv_iconst (v := 3) hx hb dL_law_1245 (by decide) ?_
    refine lv_iadd hx hb dL_law_1246 ?_
    refine q_c 3 (by decide +kernel) ?_
    refine va_sld X.1 X.2.1 hX hbl hbA h.2.2 (q_in (by decide +kernel)) dL_law_1247 ?_
    refine q_c a3 e3 ?_
    have g_11901 : (4 : Int32) ≤ a2 := by
      simp only [Int32.lt_iff_toInt_lt, Int32.le_iff_toInt_le, ← Int32.toInt_inj] at c_11584 c_11613 ⊢
      have k_0 : ((-1) : Int32).toInt = -1 := by decide
      have k_1 : (3 : Int32).toInt = 3 := by decide
      have k_g : (4 : Int32).toInt = 4 := by decide
      omega
    refine q_callVi (rest := []) (wr := [(y0, .inr (12, [.int 0, .ref (u_1.1 19), .ref (u_1.1 0), .ref (u_1.1 1), .ref (u_1.1 2), .int 0, .int 0, .int 0, .int 0, .int 0, .int 0, .int 0, .int 0, .int 0, .int (-1), .int 0, .ref (u_1.1 3), .ref (u_1.1 4), .ref (u_1.1 5), .ref (u_1.1 6), .ref (u_1.1 7), .int 0, .int 0, .ref (u_1.1 8), .ref (u_1.1 9), .ref (u_1.1 10), .int 0, .int 0, .ref (u_1.1 11), .ref (u_1.1 12), .ref (u_1.1 13), .ref (u_1.1 14), .ref (u_1.1 15), .int 0, .ref (u_1.1 16), .ref (u_1.1 17), .ref (u_1.1 18)]))]) X hK hA h (fun sz => kX11_numbers_462 l D cy x0 a2 a3 (u_0.1 0) (u_0.1 1) (u_0.1 37) (u_0.1 39) (u_0.1 41) (u_0.1 43) (u_0.1 14) (u_0.1 15) (u_0.1 16) (u_0.1 17) (u_0.1 20) (u_0.1 24) (u_0.1 29) g_11901 sz) wm_5_120 wm_5_123 wm_1_1 hd_X11_numbers wm_5_121 wm_5_122 (ci := 11) (q0 := 0) rfl rfl ⟨Nat.le_of_ble_eq_true rfl, Nat.le_of_ble_eq_true rfl⟩ hl.1 rfl (Nat.le_of_ble_eq_true rfl) dL_law_1248 ⟨Nat.le_of_ble_eq_true rfl, Nat.le_of_ble_eq_true rfl⟩ [0] [78] rfl rfl (by decide) rfl rfl (fun r_11902 u_11902 Hp31 lc31 w_11902 hw31 => ?_)
    clear h
    obtain rfl : r_11902 = (-2) := w_11902
    replace hw31 : qW D _ _ [(y0, .inr (12, [.int 0, .ref (u_1.1 19), .ref (u_1.1 0), .ref (u_1.1 1), .ref (u_1.1 2), .int 0, .int 0, .int 0, .int 0, .int 0, .int 0, .int 0, .int 0, .int 0, .int (-1), .int 0, .ref (u_1.1 3), .ref (u_1.1 4), .ref (u_1.1 5), .ref (u_1.1 6), .ref (u_1.1 7), .int 0, .int 0, .ref (u_1.1 8), .ref (u_1.1 9), .ref (u_1.1 10), .int 0, .int 0, .ref (u_1.1 11), .ref (u_1.1 12), .ref (u_1.1 13), .ref (u_1.1 14), .ref (u_1.1 15), .int 0, .ref (u_1.1 16), .ref (u_1.1 17), .ref (u_1.1 18)]))] _ _ := hw31
    refine lv_aload_n hx hb dL_law_1251 rfl (lv_at hl 1 rfl) ?_
    refine lv_aload_n hx hb dL_law_1252 rfl (lv_at hl 3 rfl) ?_
    refine lv_iload_n hx hb dL_law_1253 rfl (lv_at hl 0 rfl) ?_
    refine lv_iconst (v := 1) hx hb dL_law_1254 (by decide) ?_
    refine lv_iadd hx hb dL_law_1255 ?_
    refine q_c 1 (by decide +kernel) ?_
    refine va_sld X.1 X.2.1 hX hbl hbA hw31.2.2 (q_in (by decide +kernel)) dL_law_1256 ?_
    refine q_c 2 e1 ?_
    refine lv_aload_n hx hb dL_law_1257 rfl (lv_at hl 3 rfl) ?_
    refine lv_iload_n hx hb dL_law_1258 rfl (lv_at hl 0 rfl) ?_
    refine lv_iconst (v := 2) hx hb dL_law_1259 (by decide) ?_
    refine lv_iadd hx hb dL_law_1260 ?_
    refine q_c 2 (by decide +kernel) ?_
    refine va_sld X.1 X.2.1 hX hbl hbA hw31.2.2 (q_in (by decide +kernel)) dL_law_1261 ?_
    refine q_c a2 e2 ?_
    refine lv_aload_n hx hb dL_law_1262 rfl (lv_at hl 3 rfl) ?_
    refine lv_iload_n hx hb dL_law_1263 rfl (lv_at hl 0 rfl) ?_
    refine lv_iconst (v := 3) hx hb dL_law_1264 (by decide) ?_
    refine lv_iadd hx hb dL_law_1265 ?_
    refine q_c 3 (by decide +kernel) ?_
    refine va_sld X.1 X.2.1 hX hbl hbA hw31.2.2 (q_in (by decide +kernel)) dL_law_1266 ?_
    refine q_c a3 e3 ?_
    have g_11908 : (4 : Int32) ≤ a2 := by
      simp only [Int32.lt_iff_toInt_lt, Int32.le_iff_toInt_le, ← Int32.toInt_inj] at c_11584 c_11613 ⊢
      have k_0 : ((-1) : Int32).toInt = -1 := by decide
      have k_1 : (3 : Int32).toInt = 3 := by decide
      have k_g : (4 : Int32).toInt = 4 := by decide
      omega
    refine q_callVi (rest := [.int (-2)]) (wr := []) X hK hA hw31 (fun sz => kX12_numbers_463 l D cy y0 a2 a3 (u_1.1 19) (u_1.1 0) (u_1.1 1) (u_1.1 2) (u_1.1 3) (u_1.1 4) (u_1.1 5) (u_1.1 6) (u_1.1 7) (u_1.1 8) (u_1.1 9) (u_1.1 10) (u_1.1 11) (u_1.1 12) (u_1.1 13) (u_1.1 14) (u_1.1 15) (u_1.1 16) (u_1.1 17) (u_1.1 18) g_11908 sz) wm_8_27 wm_8_30 wm_1_12 hd_X12_numbers wm_8_28 wm_8_29 (ci := 12) (q0 := 0) rfl rfl ⟨Nat.le_of_ble_eq_true rfl, Nat.le_of_ble_eq_true rfl⟩ hl.1 rfl (Nat.le_of_ble_eq_true rfl) dL_law_1267 ⟨Nat.le_of_ble_eq_true rfl, Nat.le_of_ble_eq_true rfl⟩ [0] [] rfl rfl (by decide) rfl rfl (fun r_11909 u_11909 Hp32 lc32 w_11909 hw32 => ?_)
    clear Hp31 lc31 hw31
    obtain rfl : r_11909 = (-2) := w_11909
    replace hw32 : qW D _ _ [] _ _ := hw32
    refine lv_icmp_eq (tgt := 1461) hx hb dL_law_1270 (by decide) (fun _ => ?_) (fun c => absurd c (by decide +kernel))
    exact law_tail l X hr hlk hX hbl hw32.2.2 hl (Nat.le_of_ble_eq_true rfl) (Nat.le_of_ble_eq_true rfl)
  by_cases c_11910 : a1 = 3
  · subst c_11910
    by_cases c_11933 : a2 ≤ (-1)
    · skip
      refine lv_aload_n hx hb dL_law_1232 rfl (lv_at hl 2 rfl) ?_
      refine lv_aload_n hx hb dL_law_1233 rfl (lv_at hl 3 rfl) ?_
      refine lv_iload_n hx hb dL_law_1234 rfl (lv_at hl 0 rfl) ?_
      refine lv_iconst (v := 1) hx hb dL_law_1235 (by decide) ?_
      refine lv_iadd hx hb dL_law_1236 ?_
      refine q_c 1 (by decide +kernel) ?_
      refine va_sld X.1 X.2.1 hX hbl hbA h.2.2 (q_in (by decide +kernel)) dL_law_1237 ?_
      refine q_c 3 e1 ?_
      refine lv_aload_n hx hb dL_law_1238 rfl (lv_at hl 3 rfl) ?_
      refine lv_iload_n hx hb dL_law_1239 rfl (lv_at hl 0 rfl) ?_
      refine lv_iconst (v := 2) hx hb dL_law_1240 (by decide) ?_
      refine lv_iadd hx hb dL_law_1241 ?_
      refine q_c 2 (by decide +kernel) ?_
      refine va_sld X.1 X.2.1 hX hbl hbA h.2.2 (q_in (by decide +kernel)) dL_law_1242 ?_
      refine q_c a2 e2 ?_
      refine lv_aload_n hx hb dL_law_1243 rfl (lv_at hl 3 rfl) ?_
      refine lv_iload_n hx hb dL_law_1244 rfl (lv_at hl 0 rfl) ?_
      refine lv_iconst (v := 3) hx hb dL_law_1245 (by decide) ?_
      refine lv_iadd hx hb dL_law_1246 ?_
      refine q_c 3 (by decide +kernel) ?_
      refine va_sld X.1 X.2.1 hX hbl hbA h.2.2 (q_in (by decide +kernel)) dL_law_1247 ?_
      refine q_c a3 e3 ?_
      have g_11954 : a2 ≤ ((-1) : Int32) := by
        simp only [Int32.lt_iff_toInt_lt, Int32.le_iff_toInt_le, ← Int32.toInt_inj] at c_11933 ⊢
        have k_0 : ((-1) : Int32).toInt = -1 := by decide
        omega
      refine q_callVi (rest := []) (wr := [(y0, .inr (12, [.int 0, .ref (u_1.1 19), .ref (u_1.1 0), .ref (u_1.1 1), .ref (u_1.1 2), .int 0, .int 0, .int 0, .int 0, .int 0, .int 0, .int 0, .int 0, .int 0, .int (-1), .int 0, .ref (u_1.1 3), .ref (u_1.1 4), .ref (u_1.1 5), .ref (u_1.1 6), .ref (u_1.1 7), .int 0, .int 0, .ref (u_1.1 8), .ref (u_1.1 9), .ref (u_1.1 10), .int 0, .int 0, .ref (u_1.1 11), .ref (u_1.1 12), .ref (u_1.1 13), .ref (u_1.1 14), .ref (u_1.1 15), .int 0, .ref (u_1.1 16), .ref (u_1.1 17), .ref (u_1.1 18)]))]) X hK hA h (fun sz => kX11_numbers_464 l D cy x0 a2 a3 (u_0.1 0) (u_0.1 1) (u_0.1 37) (u_0.1 39) (u_0.1 41) (u_0.1 43) (u_0.1 14) (u_0.1 15) (u_0.1 16) (u_0.1 17) (u_0.1 20) (u_0.1 24) (u_0.1 29) g_11954 sz) wm_5_120 wm_5_123 wm_1_1 hd_X11_numbers wm_5_121 wm_5_122 (ci := 11) (q0 := 0) rfl rfl ⟨Nat.le_of_ble_eq_true rfl, Nat.le_of_ble_eq_true rfl⟩ hl.1 rfl (Nat.le_of_ble_eq_true rfl) dL_law_1248 ⟨Nat.le_of_ble_eq_true rfl, Nat.le_of_ble_eq_true rfl⟩ [0] [78] rfl rfl (by decide) rfl rfl (fun r_11955 u_11955 Hp33 lc33 w_11955 hw33 => ?_)
      clear h
      obtain rfl : r_11955 = (-2) := w_11955
      replace hw33 : qW D _ _ [(y0, .inr (12, [.int 0, .ref (u_1.1 19), .ref (u_1.1 0), .ref (u_1.1 1), .ref (u_1.1 2), .int 0, .int 0, .int 0, .int 0, .int 0, .int 0, .int 0, .int 0, .int 0, .int (-1), .int 0, .ref (u_1.1 3), .ref (u_1.1 4), .ref (u_1.1 5), .ref (u_1.1 6), .ref (u_1.1 7), .int 0, .int 0, .ref (u_1.1 8), .ref (u_1.1 9), .ref (u_1.1 10), .int 0, .int 0, .ref (u_1.1 11), .ref (u_1.1 12), .ref (u_1.1 13), .ref (u_1.1 14), .ref (u_1.1 15), .int 0, .ref (u_1.1 16), .ref (u_1.1 17), .ref (u_1.1 18)]))] _ _ := hw33
      refine lv_aload_n hx hb dL_law_1251 rfl (lv_at hl 1 rfl) ?_
      refine lv_aload_n hx hb dL_law_1252 rfl (lv_at hl 3 rfl) ?_
      refine lv_iload_n hx hb dL_law_1253 rfl (lv_at hl 0 rfl) ?_
      refine lv_iconst (v := 1) hx hb dL_law_1254 (by decide) ?_
      refine lv_iadd hx hb dL_law_1255 ?_
      refine q_c 1 (by decide +kernel) ?_
      refine va_sld X.1 X.2.1 hX hbl hbA hw33.2.2 (q_in (by decide +kernel)) dL_law_1256 ?_
      refine q_c 3 e1 ?_
      refine lv_aload_n hx hb dL_law_1257 rfl (lv_at hl 3 rfl) ?_
      refine lv_iload_n hx hb dL_law_1258 rfl (lv_at hl 0 rfl) ?_
      refine lv_iconst (v := 2) hx hb dL_law_1259 (by decide) ?_
      refine lv_iadd hx hb dL_law_1260 ?_
      refine q_c 2 (by decide +kernel) ?_
      refine va_sld X.1 X.2.1 hX hbl hbA hw33.2.2 (q_in (by decide +kernel)) dL_law_1261 ?_
      refine q_c a2 e2 ?_
      refine lv_aload_n hx hb dL_law_1262 rfl (lv_at hl 3 rfl) ?_
      refine lv_iload_n hx hb dL_law_1263 rfl (lv_at hl 0 rfl) ?_
      refine lv_iconst (v := 3) hx hb dL_law_1264 (by decide) ?_
      refine lv_iadd hx hb dL_law_1265 ?_
      refine q_c 3 (by decide +kernel) ?_
      refine va_sld X.1 X.2.1 hX hbl hbA hw33.2.2 (q_in (by decide +kernel)) dL_law_1266 ?_
      refine q_c a3 e3 ?_
      have g_11960 : a2 ≤ ((-1) : Int32) := by
        simp only [Int32.lt_iff_toInt_lt, Int32.le_iff_toInt_le, ← Int32.toInt_inj] at c_11933 ⊢
        have k_0 : ((-1) : Int32).toInt = -1 := by decide
        omega
      refine q_callVi (rest := [.int (-2)]) (wr := []) X hK hA hw33 (fun sz => kX12_numbers_465 l D cy y0 a2 a3 (u_1.1 19) (u_1.1 0) (u_1.1 1) (u_1.1 2) (u_1.1 3) (u_1.1 4) (u_1.1 5) (u_1.1 6) (u_1.1 7) (u_1.1 8) (u_1.1 9) (u_1.1 10) (u_1.1 11) (u_1.1 12) (u_1.1 13) (u_1.1 14) (u_1.1 15) (u_1.1 16) (u_1.1 17) (u_1.1 18) g_11960 sz) wm_8_27 wm_8_30 wm_1_12 hd_X12_numbers wm_8_28 wm_8_29 (ci := 12) (q0 := 0) rfl rfl ⟨Nat.le_of_ble_eq_true rfl, Nat.le_of_ble_eq_true rfl⟩ hl.1 rfl (Nat.le_of_ble_eq_true rfl) dL_law_1267 ⟨Nat.le_of_ble_eq_true rfl, Nat.le_of_ble_eq_true rfl⟩ [0] [] rfl rfl (by decide) rfl rfl (fun r_11961 u_11961 Hp34 lc34 w_11961 hw34 => ?_)
      clear Hp33 lc33 hw33
      obtain rfl : r_11961 = (-2) := w_11961
      replace hw34 : qW D _ _ [] _ _ := hw34
      refine lv_icmp_eq (tgt := 1461) hx hb dL_law_1270 (by decide) (fun _ => ?_) (fun c => absurd c (by decide +kernel))
      exact law_tail l X hr hlk hX hbl hw34.2.2 hl (Nat.le_of_ble_eq_true rfl) (Nat.le_of_ble_eq_true rfl)
    by_cases c_11962 : a2 ≤ 3
    · skip
      by_cases c_11985 : a3 ≤ (-1)
      · skip
        refine lv_aload_n hx hb dL_law_1232 rfl (lv_at hl 2 rfl) ?_
        refine lv_aload_n hx hb dL_law_1233 rfl (lv_at hl 3 rfl) ?_
        refine lv_iload_n hx hb dL_law_1234 rfl (lv_at hl 0 rfl) ?_
        refine lv_iconst (v := 1) hx hb dL_law_1235 (by decide) ?_
        refine lv_iadd hx hb dL_law_1236 ?_
        refine q_c 1 (by decide +kernel) ?_
        refine va_sld X.1 X.2.1 hX hbl hbA h.2.2 (q_in (by decide +kernel)) dL_law_1237 ?_
        refine q_c 3 e1 ?_
        refine lv_aload_n hx hb dL_law_1238 rfl (lv_at hl 3 rfl) ?_
        refine lv_iload_n hx hb dL_law_1239 rfl (lv_at hl 0 rfl) ?_
        refine lv_iconst (v := 2) hx hb dL_law_1240 (by decide) ?_
        refine lv_iadd hx hb dL_law_1241 ?_
        refine q_c 2 (by decide +kernel) ?_
        refine va_sld X.1 X.2.1 hX hbl hbA h.2.2 (q_in (by decide +kernel)) dL_law_1242 ?_
        refine q_c a2 e2 ?_
        refine lv_aload_n hx hb dL_law_1243 rfl (lv_at hl 3 rfl) ?_
        refine lv_iload_n hx hb dL_law_1244 rfl (lv_at hl 0 rfl) ?_
        refine lv_iconst (v := 3) hx hb dL_law_1245 (by decide) ?_
        refine lv_iadd hx hb dL_law_1246 ?_
        refine q_c 3 (by decide +kernel) ?_
        refine va_sld X.1 X.2.1 hX hbl hbA h.2.2 (q_in (by decide +kernel)) dL_law_1247 ?_
        refine q_c a3 e3 ?_
        have g_12029 : (0 : Int32) ≤ a2 := by
          simp only [Int32.lt_iff_toInt_lt, Int32.le_iff_toInt_le, ← Int32.toInt_inj] at c_11933 c_11962 ⊢
          have k_0 : ((-1) : Int32).toInt = -1 := by decide
          have k_1 : (3 : Int32).toInt = 3 := by decide
          have k_g : (0 : Int32).toInt = 0 := by decide
          omega
        have g_12030 : a2 ≤ (3 : Int32) := by
          simp only [Int32.lt_iff_toInt_lt, Int32.le_iff_toInt_le, ← Int32.toInt_inj] at c_11933 c_11962 ⊢
          have k_0 : ((-1) : Int32).toInt = -1 := by decide
          have k_1 : (3 : Int32).toInt = 3 := by decide
          omega
        have g_12031 : a3 ≤ ((-1) : Int32) := by
          simp only [Int32.lt_iff_toInt_lt, Int32.le_iff_toInt_le, ← Int32.toInt_inj] at c_11985 ⊢
          have k_0 : ((-1) : Int32).toInt = -1 := by decide
          omega
        refine q_callVi (rest := []) (wr := [(y0, .inr (12, [.int 0, .ref (u_1.1 19), .ref (u_1.1 0), .ref (u_1.1 1), .ref (u_1.1 2), .int 0, .int 0, .int 0, .int 0, .int 0, .int 0, .int 0, .int 0, .int 0, .int (-1), .int 0, .ref (u_1.1 3), .ref (u_1.1 4), .ref (u_1.1 5), .ref (u_1.1 6), .ref (u_1.1 7), .int 0, .int 0, .ref (u_1.1 8), .ref (u_1.1 9), .ref (u_1.1 10), .int 0, .int 0, .ref (u_1.1 11), .ref (u_1.1 12), .ref (u_1.1 13), .ref (u_1.1 14), .ref (u_1.1 15), .int 0, .ref (u_1.1 16), .ref (u_1.1 17), .ref (u_1.1 18)]))]) X hK hA h (fun sz => kX11_numbers_466 l D cy x0 a2 a3 (u_0.1 0) (u_0.1 1) (u_0.1 37) (u_0.1 39) (u_0.1 41) (u_0.1 43) (u_0.1 14) (u_0.1 15) (u_0.1 16) (u_0.1 17) (u_0.1 20) (u_0.1 24) (u_0.1 29) g_12029 g_12030 g_12031 sz) wm_5_120 wm_5_123 wm_1_1 hd_X11_numbers wm_5_121 wm_5_122 (ci := 11) (q0 := 0) rfl rfl ⟨Nat.le_of_ble_eq_true rfl, Nat.le_of_ble_eq_true rfl⟩ hl.1 rfl (Nat.le_of_ble_eq_true rfl) dL_law_1248 ⟨Nat.le_of_ble_eq_true rfl, Nat.le_of_ble_eq_true rfl⟩ [0] [78] rfl rfl (by decide) rfl rfl (fun r_12032 u_12032 Hp35 lc35 w_12032 hw35 => ?_)
        clear h
        obtain rfl : r_12032 = (-3) := w_12032
        replace hw35 : qW D _ _ [(y0, .inr (12, [.int 0, .ref (u_1.1 19), .ref (u_1.1 0), .ref (u_1.1 1), .ref (u_1.1 2), .int 0, .int 0, .int 0, .int 0, .int 0, .int 0, .int 0, .int 0, .int 0, .int (-1), .int 0, .ref (u_1.1 3), .ref (u_1.1 4), .ref (u_1.1 5), .ref (u_1.1 6), .ref (u_1.1 7), .int 0, .int 0, .ref (u_1.1 8), .ref (u_1.1 9), .ref (u_1.1 10), .int 0, .int 0, .ref (u_1.1 11), .ref (u_1.1 12), .ref (u_1.1 13), .ref (u_1.1 14), .ref (u_1.1 15), .int 0, .ref (u_1.1 16), .ref (u_1.1 17), .ref (u_1.1 18)]))] _ _ := hw35
        refine lv_aload_n hx hb dL_law_1251 rfl (lv_at hl 1 rfl) ?_
        refine lv_aload_n hx hb dL_law_1252 rfl (lv_at hl 3 rfl) ?_
        refine lv_iload_n hx hb dL_law_1253 rfl (lv_at hl 0 rfl) ?_
        refine lv_iconst (v := 1) hx hb dL_law_1254 (by decide) ?_
        refine lv_iadd hx hb dL_law_1255 ?_
        refine q_c 1 (by decide +kernel) ?_
        refine va_sld X.1 X.2.1 hX hbl hbA hw35.2.2 (q_in (by decide +kernel)) dL_law_1256 ?_
        refine q_c 3 e1 ?_
        refine lv_aload_n hx hb dL_law_1257 rfl (lv_at hl 3 rfl) ?_
        refine lv_iload_n hx hb dL_law_1258 rfl (lv_at hl 0 rfl) ?_
        refine lv_iconst (v := 2) hx hb dL_law_1259 (by decide) ?_
        refine lv_iadd hx hb dL_law_1260 ?_
        refine q_c 2 (by decide +kernel) ?_
        refine va_sld X.1 X.2.1 hX hbl hbA hw35.2.2 (q_in (by decide +kernel)) dL_law_1261 ?_
        refine q_c a2 e2 ?_
        refine lv_aload_n hx hb dL_law_1262 rfl (lv_at hl 3 rfl) ?_
        refine lv_iload_n hx hb dL_law_1263 rfl (lv_at hl 0 rfl) ?_
        refine lv_iconst (v := 3) hx hb dL_law_1264 (by decide) ?_
        refine lv_iadd hx hb dL_law_1265 ?_
        refine q_c 3 (by decide +kernel) ?_
        refine va_sld X.1 X.2.1 hX hbl hbA hw35.2.2 (q_in (by decide +kernel)) dL_law_1266 ?_
        refine q_c a3 e3 ?_
        have g_12042 : (0 : Int32) ≤ a2 := by
          simp only [Int32.lt_iff_toInt_lt, Int32.le_iff_toInt_le, ← Int32.toInt_inj] at c_11933 c_11962 ⊢
          have k_0 : ((-1) : Int32).toInt = -1 := by decide
          have k_1 : (3 : Int32).toInt = 3 := by decide
          have k_g : (0 : Int32).toInt = 0 := by decide
          omega
        have g_12043 : a2 ≤ (3 : Int32) := by
          simp only [Int32.lt_iff_toInt_lt, Int32.le_iff_toInt_le, ← Int32.toInt_inj] at c_11933 c_11962 ⊢
          have k_0 : ((-1) : Int32).toInt = -1 := by decide
          have k_1 : (3 : Int32).toInt = 3 := by decide
          omega
        have g_12044 : a3 ≤ ((-1) : Int32) := by
          simp only [Int32.lt_iff_toInt_lt, Int32.le_iff_toInt_le, ← Int32.toInt_inj] at c_11985 ⊢
          have k_0 : ((-1) : Int32).toInt = -1 := by decide
          omega
        refine q_callVi (rest := [.int (-3)]) (wr := []) X hK hA hw35 (fun sz => kX12_numbers_467 l D cy y0 a2 a3 (u_1.1 19) (u_1.1 0) (u_1.1 1) (u_1.1 2) (u_1.1 3) (u_1.1 4) (u_1.1 5) (u_1.1 6) (u_1.1 7) (u_1.1 8) (u_1.1 9) (u_1.1 10) (u_1.1 11) (u_1.1 12) (u_1.1 13) (u_1.1 14) (u_1.1 15) (u_1.1 16) (u_1.1 17) (u_1.1 18) g_12042 g_12043 g_12044 sz) wm_8_27 wm_8_30 wm_1_12 hd_X12_numbers wm_8_28 wm_8_29 (ci := 12) (q0 := 0) rfl rfl ⟨Nat.le_of_ble_eq_true rfl, Nat.le_of_ble_eq_true rfl⟩ hl.1 rfl (Nat.le_of_ble_eq_true rfl) dL_law_1267 ⟨Nat.le_of_ble_eq_true rfl, Nat.le_of_ble_eq_true rfl⟩ [0] [] rfl rfl (by decide) rfl rfl (fun r_12045 u_12045 Hp36 lc36 w_12045 hw36 => ?_)
        clear Hp35 lc35 hw35
        obtain rfl : r_12045 = (-3) := w_12045
        replace hw36 : qW D _ _ [] _ _ := hw36
        refine lv_icmp_eq (tgt := 1461) hx hb dL_law_1270 (by decide) (fun _ => ?_) (fun c => absurd c (by decide +kernel))
        exact law_tail l X hr hlk hX hbl hw36.2.2 hl (Nat.le_of_ble_eq_true rfl) (Nat.le_of_ble_eq_true rfl)
      by_cases c_12046 : a3 ≤ 40
      · skip
        refine lv_aload_n hx hb dL_law_1232 rfl (lv_at hl 2 rfl) ?_
        refine lv_aload_n hx hb dL_law_1233 rfl (lv_at hl 3 rfl) ?_
        refine lv_iload_n hx hb dL_law_1234 rfl (lv_at hl 0 rfl) ?_
        refine lv_iconst (v := 1) hx hb dL_law_1235 (by decide) ?_
        refine lv_iadd hx hb dL_law_1236 ?_
        refine q_c 1 (by decide +kernel) ?_
        refine va_sld X.1 X.2.1 hX hbl hbA h.2.2 (q_in (by decide +kernel)) dL_law_1237 ?_
        refine q_c 3 e1 ?_
        refine lv_aload_n hx hb dL_law_1238 rfl (lv_at hl 3 rfl) ?_
        refine lv_iload_n hx hb dL_law_1239 rfl (lv_at hl 0 rfl) ?_
        refine lv_iconst (v := 2) hx hb dL_law_1240 (by decide) ?_
        refine lv_iadd hx hb dL_law_1241 ?_
        refine q_c 2 (by decide +kernel) ?_
        refine va_sld X.1 X.2.1 hX hbl hbA h.2.2 (q_in (by decide +kernel)) dL_law_1242 ?_
        refine q_c a2 e2 ?_
        refine lv_aload_n hx hb dL_law_1243 rfl (lv_at hl 3 rfl) ?_
        refine lv_iload_n hx hb dL_law_1244 rfl (lv_at hl 0 rfl) ?_
        refine lv_iconst (v := 3) hx hb dL_law_1245 (by decide) ?_
        refine lv_iadd hx hb dL_law_1246 ?_
        refine q_c 3 (by decide +kernel) ?_
        refine va_sld X.1 X.2.1 hX hbl hbA h.2.2 (q_in (by decide +kernel)) dL_law_1247 ?_
        refine q_c a3 e3 ?_
        have g_12130 : (0 : Int32) ≤ a2 := by
          simp only [Int32.lt_iff_toInt_lt, Int32.le_iff_toInt_le, ← Int32.toInt_inj] at c_11933 c_11962 ⊢
          have k_0 : ((-1) : Int32).toInt = -1 := by decide
          have k_1 : (3 : Int32).toInt = 3 := by decide
          have k_g : (0 : Int32).toInt = 0 := by decide
          omega
        have g_12131 : a2 ≤ (3 : Int32) := by
          simp only [Int32.lt_iff_toInt_lt, Int32.le_iff_toInt_le, ← Int32.toInt_inj] at c_11933 c_11962 ⊢
          have k_0 : ((-1) : Int32).toInt = -1 := by decide
          have k_1 : (3 : Int32).toInt = 3 := by decide
          omega
        have g_12132 : (0 : Int32) ≤ a3 := by
          simp only [Int32.lt_iff_toInt_lt, Int32.le_iff_toInt_le, ← Int32.toInt_inj] at c_11985 c_12046 ⊢
          have k_0 : ((-1) : Int32).toInt = -1 := by decide
          have k_1 : (40 : Int32).toInt = 40 := by decide
          have k_g : (0 : Int32).toInt = 0 := by decide
          omega
        have g_12133 : a3 ≤ (40 : Int32) := by
          simp only [Int32.lt_iff_toInt_lt, Int32.le_iff_toInt_le, ← Int32.toInt_inj] at c_11985 c_12046 ⊢
          have k_0 : ((-1) : Int32).toInt = -1 := by decide
          have k_1 : (40 : Int32).toInt = 40 := by decide
          omega
        refine q_callVi (rest := []) (wr := [(y0, .inr (12, [.int 0, .ref (u_1.1 19), .ref (u_1.1 0), .ref (u_1.1 1), .ref (u_1.1 2), .int 0, .int 0, .int 0, .int 0, .int 0, .int 0, .int 0, .int 0, .int 0, .int (-1), .int 0, .ref (u_1.1 3), .ref (u_1.1 4), .ref (u_1.1 5), .ref (u_1.1 6), .ref (u_1.1 7), .int 0, .int 0, .ref (u_1.1 8), .ref (u_1.1 9), .ref (u_1.1 10), .int 0, .int 0, .ref (u_1.1 11), .ref (u_1.1 12), .ref (u_1.1 13), .ref (u_1.1 14), .ref (u_1.1 15), .int 0, .ref (u_1.1 16), .ref (u_1.1 17), .ref (u_1.1 18)])), ((u_1.1 16), .inl (cy 1, 4, .inl (upd (upd (upd (upd (fun _ => 0) (Int32.toNatClampNeg 0) (-1)) (Int32.toNatClampNeg 1) (-1)) (Int32.toNatClampNeg 2) (-1)) (Int32.toNatClampNeg 3) (-1)))), ((u_1.1 17), .inl (cy 1, 4, .inl (fun _ => 0))), ((u_1.1 18), .inl (cy 2, 160, .inr (.inl (fun _ => 0))))]) X hK hA h (fun sz => kX11_numbers_468 l D cy x0 (u_0.1 14) (u_0.1 71) (u_0.1 72) a2 a3 (u_0.1 0) (u_0.1 1) (u_0.1 37) (u_0.1 39) (u_0.1 41) (u_0.1 43) (u_0.1 15) (u_0.1 16) (u_0.1 17) (u_0.1 20) (u_0.1 24) (u_0.1 29) (u_0.1 69) (u_0.1 67) (u_0.1 65) g_12130 g_12131 g_12132 g_12133 sz) wm_5_120 wm_5_123 wm_1_1 hd_X11_numbers wm_5_121 wm_5_122 (ci := 11) (q0 := 0) rfl rfl ⟨Nat.le_of_ble_eq_true rfl, Nat.le_of_ble_eq_true rfl⟩ hl.1 rfl (Nat.le_of_ble_eq_true rfl) dL_law_1248 ⟨Nat.le_of_ble_eq_true rfl, Nat.le_of_ble_eq_true rfl⟩ [0, 15, 72, 73] [78, 95, 96, 97] rfl rfl (by decide) rfl rfl (fun r_12134 u_12134 Hp37 lc37 w_12134 hw37 => ?_)
        clear h
        obtain rfl : r_12134 = 0 := w_12134
        replace hw37 : qW D _ _ [(y0, .inr (12, [.int 0, .ref (u_1.1 19), .ref (u_1.1 0), .ref (u_1.1 1), .ref (u_1.1 2), .int 0, .int 0, .int 0, .int 0, .int 0, .int 0, .int 0, .int 0, .int 0, .int (-1), .int 0, .ref (u_1.1 3), .ref (u_1.1 4), .ref (u_1.1 5), .ref (u_1.1 6), .ref (u_1.1 7), .int 0, .int 0, .ref (u_1.1 8), .ref (u_1.1 9), .ref (u_1.1 10), .int 0, .int 0, .ref (u_1.1 11), .ref (u_1.1 12), .ref (u_1.1 13), .ref (u_1.1 14), .ref (u_1.1 15), .int 0, .ref (u_1.1 16), .ref (u_1.1 17), .ref (u_1.1 18)])), ((u_1.1 16), .inl (cy 1, 4, .inl (upd (upd (upd (upd (fun _ => 0) (Int32.toNatClampNeg 0) (-1)) (Int32.toNatClampNeg 1) (-1)) (Int32.toNatClampNeg 2) (-1)) (Int32.toNatClampNeg 3) (-1)))), ((u_1.1 17), .inl (cy 1, 4, .inl (fun _ => 0))), ((u_1.1 18), .inl (cy 2, 160, .inr (.inl (fun _ => 0))))] _ _ := hw37
        refine lv_aload_n hx hb dL_law_1251 rfl (lv_at hl 1 rfl) ?_
        refine lv_aload_n hx hb dL_law_1252 rfl (lv_at hl 3 rfl) ?_
        refine lv_iload_n hx hb dL_law_1253 rfl (lv_at hl 0 rfl) ?_
        refine lv_iconst (v := 1) hx hb dL_law_1254 (by decide) ?_
        refine lv_iadd hx hb dL_law_1255 ?_
        refine q_c 1 (by decide +kernel) ?_
        refine va_sld X.1 X.2.1 hX hbl hbA hw37.2.2 (q_in (by decide +kernel)) dL_law_1256 ?_
        refine q_c 3 e1 ?_
        refine lv_aload_n hx hb dL_law_1257 rfl (lv_at hl 3 rfl) ?_
        refine lv_iload_n hx hb dL_law_1258 rfl (lv_at hl 0 rfl) ?_
        refine lv_iconst (v := 2) hx hb dL_law_1259 (by decide) ?_
        refine lv_iadd hx hb dL_law_1260 ?_
        refine q_c 2 (by decide +kernel) ?_
        refine va_sld X.1 X.2.1 hX hbl hbA hw37.2.2 (q_in (by decide +kernel)) dL_law_1261 ?_
        refine q_c a2 e2 ?_
        refine lv_aload_n hx hb dL_law_1262 rfl (lv_at hl 3 rfl) ?_
        refine lv_iload_n hx hb dL_law_1263 rfl (lv_at hl 0 rfl) ?_
        refine lv_iconst (v := 3) hx hb dL_law_1264 (by decide) ?_
        refine lv_iadd hx hb dL_law_1265 ?_
        refine q_c 3 (by decide +kernel) ?_
        refine va_sld X.1 X.2.1 hX hbl hbA hw37.2.2 (q_in (by decide +kernel)) dL_law_1266 ?_
        refine q_c a3 e3 ?_
        have g_12148 : (0 : Int32) ≤ a2 := by
          simp only [Int32.lt_iff_toInt_lt, Int32.le_iff_toInt_le, ← Int32.toInt_inj] at c_11933 c_11962 ⊢
          have k_0 : ((-1) : Int32).toInt = -1 := by decide
          have k_1 : (3 : Int32).toInt = 3 := by decide
          have k_g : (0 : Int32).toInt = 0 := by decide
          omega
        have g_12149 : a2 ≤ (3 : Int32) := by
          simp only [Int32.lt_iff_toInt_lt, Int32.le_iff_toInt_le, ← Int32.toInt_inj] at c_11933 c_11962 ⊢
          have k_0 : ((-1) : Int32).toInt = -1 := by decide
          have k_1 : (3 : Int32).toInt = 3 := by decide
          omega
        have g_12150 : (0 : Int32) ≤ a3 := by
          simp only [Int32.lt_iff_toInt_lt, Int32.le_iff_toInt_le, ← Int32.toInt_inj] at c_11985 c_12046 ⊢
          have k_0 : ((-1) : Int32).toInt = -1 := by decide
          have k_1 : (40 : Int32).toInt = 40 := by decide
          have k_g : (0 : Int32).toInt = 0 := by decide
          omega
        have g_12151 : a3 ≤ (40 : Int32) := by
          simp only [Int32.lt_iff_toInt_lt, Int32.le_iff_toInt_le, ← Int32.toInt_inj] at c_11985 c_12046 ⊢
          have k_0 : ((-1) : Int32).toInt = -1 := by decide
          have k_1 : (40 : Int32).toInt = 40 := by decide
          omega
        refine q_callVi (rest := [.int 0]) (wr := []) X hK hA hw37 (fun sz => kX12_numbers_469 l D cy y0 (u_1.1 16) (u_1.1 17) (u_1.1 18) (upd (upd (upd (upd (fun _ => 0) (Int32.toNatClampNeg 0) (-1)) (Int32.toNatClampNeg 1) (-1)) (Int32.toNatClampNeg 2) (-1)) (Int32.toNatClampNeg 3) (-1)) a2 a3 (u_1.1 19) (u_1.1 0) (u_1.1 1) (u_1.1 2) (u_1.1 3) (u_1.1 4) (u_1.1 5) (u_1.1 6) (u_1.1 7) (u_1.1 8) (u_1.1 9) (u_1.1 10) (u_1.1 11) (u_1.1 12) (u_1.1 13) (u_1.1 14) (u_1.1 15) g_12148 g_12149 g_12150 g_12151 sz) wm_8_27 wm_8_30 wm_1_12 hd_X12_numbers wm_8_28 wm_8_29 (ci := 12) (q0 := 0) rfl rfl ⟨Nat.le_of_ble_eq_true rfl, Nat.le_of_ble_eq_true rfl⟩ hl.1 rfl (Nat.le_of_ble_eq_true rfl) dL_law_1267 ⟨Nat.le_of_ble_eq_true rfl, Nat.le_of_ble_eq_true rfl⟩ [0, 1, 2, 3] [] rfl rfl (by decide) rfl rfl (fun r_12152 u_12152 Hp38 lc38 w_12152 hw38 => ?_)
        clear Hp37 lc37 hw37
        obtain rfl : r_12152 = 0 := w_12152
        replace hw38 : qW D _ _ [] _ _ := hw38
        refine lv_icmp_eq (tgt := 1461) hx hb dL_law_1270 (by decide) (fun _ => ?_) (fun c => absurd c (by decide +kernel))
        exact law_tail l X hr hlk hX hbl hw38.2.2 hl (Nat.le_of_ble_eq_true rfl) (Nat.le_of_ble_eq_true rfl)
      refine lv_aload_n hx hb dL_law_1232 rfl (lv_at hl 2 rfl) ?_
      refine lv_aload_n hx hb dL_law_1233 rfl (lv_at hl 3 rfl) ?_
      refine lv_iload_n hx hb dL_law_1234 rfl (lv_at hl 0 rfl) ?_
      refine lv_iconst (v := 1) hx hb dL_law_1235 (by decide) ?_
      refine lv_iadd hx hb dL_law_1236 ?_
      refine q_c 1 (by decide +kernel) ?_
      refine va_sld X.1 X.2.1 hX hbl hbA h.2.2 (q_in (by decide +kernel)) dL_law_1237 ?_
      refine q_c 3 e1 ?_
      refine lv_aload_n hx hb dL_law_1238 rfl (lv_at hl 3 rfl) ?_
      refine lv_iload_n hx hb dL_law_1239 rfl (lv_at hl 0 rfl) ?_
      refine lv_iconst (v := 2) hx hb dL_law_1240 (by decide) ?_
      refine lv_iadd hx hb dL_law_1241 ?_
      refine q_c 2 (by decide +kernel) ?_
      refine va_sld X.1 X.2.1 hX hbl hbA h.2.2 (q_in (by decide +kernel)) dL_law_1242 ?_
      refine q_c a2 e2 ?_
      refine lv_aload_n hx hb dL_law_1243 rfl (lv_at hl 3 rfl) ?_
      refine lv_iload_n hx hb dL_law_1244 rfl (lv_at hl 0 rfl) ?_
      refine lv_iconst (v := 3) hx hb dL_law_1245 (by decide) ?_
      refine lv_iadd hx hb dL_law_1246 ?_
      refine q_c 3 (by decide +kernel) ?_
      refine va_sld X.1 X.2.1 hX hbl hbA h.2.2 (q_in (by decide +kernel)) dL_law_1247 ?_
      refine q_c a3 e3 ?_
      have g_12204 : (0 : Int32) ≤ a2 := by
        simp only [Int32.lt_iff_toInt_lt, Int32.le_iff_toInt_le, ← Int32.toInt_inj] at c_11933 c_11962 ⊢
        have k_0 : ((-1) : Int32).toInt = -1 := by decide
        have k_1 : (3 : Int32).toInt = 3 := by decide
        have k_g : (0 : Int32).toInt = 0 := by decide
        omega
      have g_12205 : a2 ≤ (3 : Int32) := by
        simp only [Int32.lt_iff_toInt_lt, Int32.le_iff_toInt_le, ← Int32.toInt_inj] at c_11933 c_11962 ⊢
        have k_0 : ((-1) : Int32).toInt = -1 := by decide
        have k_1 : (3 : Int32).toInt = 3 := by decide
        omega
      have g_12206 : (41 : Int32) ≤ a3 := by
        simp only [Int32.lt_iff_toInt_lt, Int32.le_iff_toInt_le, ← Int32.toInt_inj] at c_11985 c_12046 ⊢
        have k_0 : ((-1) : Int32).toInt = -1 := by decide
        have k_1 : (40 : Int32).toInt = 40 := by decide
        have k_g : (41 : Int32).toInt = 41 := by decide
        omega
      refine q_callVi (rest := []) (wr := [(y0, .inr (12, [.int 0, .ref (u_1.1 19), .ref (u_1.1 0), .ref (u_1.1 1), .ref (u_1.1 2), .int 0, .int 0, .int 0, .int 0, .int 0, .int 0, .int 0, .int 0, .int 0, .int (-1), .int 0, .ref (u_1.1 3), .ref (u_1.1 4), .ref (u_1.1 5), .ref (u_1.1 6), .ref (u_1.1 7), .int 0, .int 0, .ref (u_1.1 8), .ref (u_1.1 9), .ref (u_1.1 10), .int 0, .int 0, .ref (u_1.1 11), .ref (u_1.1 12), .ref (u_1.1 13), .ref (u_1.1 14), .ref (u_1.1 15), .int 0, .ref (u_1.1 16), .ref (u_1.1 17), .ref (u_1.1 18)]))]) X hK hA h (fun sz => kX11_numbers_470 l D cy x0 a2 a3 (u_0.1 0) (u_0.1 1) (u_0.1 37) (u_0.1 39) (u_0.1 41) (u_0.1 43) (u_0.1 14) (u_0.1 15) (u_0.1 16) (u_0.1 17) (u_0.1 20) (u_0.1 24) (u_0.1 29) g_12204 g_12205 g_12206 sz) wm_5_120 wm_5_123 wm_1_1 hd_X11_numbers wm_5_121 wm_5_122 (ci := 11) (q0 := 0) rfl rfl ⟨Nat.le_of_ble_eq_true rfl, Nat.le_of_ble_eq_true rfl⟩ hl.1 rfl (Nat.le_of_ble_eq_true rfl) dL_law_1248 ⟨Nat.le_of_ble_eq_true rfl, Nat.le_of_ble_eq_true rfl⟩ [0] [78] rfl rfl (by decide) rfl rfl (fun r_12207 u_12207 Hp39 lc39 w_12207 hw39 => ?_)
      clear h
      obtain rfl : r_12207 = (-3) := w_12207
      replace hw39 : qW D _ _ [(y0, .inr (12, [.int 0, .ref (u_1.1 19), .ref (u_1.1 0), .ref (u_1.1 1), .ref (u_1.1 2), .int 0, .int 0, .int 0, .int 0, .int 0, .int 0, .int 0, .int 0, .int 0, .int (-1), .int 0, .ref (u_1.1 3), .ref (u_1.1 4), .ref (u_1.1 5), .ref (u_1.1 6), .ref (u_1.1 7), .int 0, .int 0, .ref (u_1.1 8), .ref (u_1.1 9), .ref (u_1.1 10), .int 0, .int 0, .ref (u_1.1 11), .ref (u_1.1 12), .ref (u_1.1 13), .ref (u_1.1 14), .ref (u_1.1 15), .int 0, .ref (u_1.1 16), .ref (u_1.1 17), .ref (u_1.1 18)]))] _ _ := hw39
      refine lv_aload_n hx hb dL_law_1251 rfl (lv_at hl 1 rfl) ?_
      refine lv_aload_n hx hb dL_law_1252 rfl (lv_at hl 3 rfl) ?_
      refine lv_iload_n hx hb dL_law_1253 rfl (lv_at hl 0 rfl) ?_
      refine lv_iconst (v := 1) hx hb dL_law_1254 (by decide) ?_
      refine lv_iadd hx hb dL_law_1255 ?_
      refine q_c 1 (by decide +kernel) ?_
      refine va_sld X.1 X.2.1 hX hbl hbA hw39.2.2 (q_in (by decide +kernel)) dL_law_1256 ?_
      refine q_c 3 e1 ?_
      refine lv_aload_n hx hb dL_law_1257 rfl (lv_at hl 3 rfl) ?_
      refine lv_iload_n hx hb dL_law_1258 rfl (lv_at hl 0 rfl) ?_
      refine lv_iconst (v := 2) hx hb dL_law_1259 (by decide) ?_
      refine lv_iadd hx hb dL_law_1260 ?_
      refine q_c 2 (by decide +kernel) ?_
      refine va_sld X.1 X.2.1 hX hbl hbA hw39.2.2 (q_in (by decide +kernel)) dL_law_1261 ?_
      refine q_c a2 e2 ?_
      refine lv_aload_n hx hb dL_law_1262 rfl (lv_at hl 3 rfl) ?_
      refine lv_iload_n hx hb dL_law_1263 rfl (lv_at hl 0 rfl) ?_
      refine lv_iconst (v := 3) hx hb dL_law_1264 (by decide) ?_
      refine lv_iadd hx hb dL_law_1265 ?_
      refine q_c 3 (by decide +kernel) ?_
      refine va_sld X.1 X.2.1 hX hbl hbA hw39.2.2 (q_in (by decide +kernel)) dL_law_1266 ?_
      refine q_c a3 e3 ?_
      have g_12218 : (0 : Int32) ≤ a2 := by
        simp only [Int32.lt_iff_toInt_lt, Int32.le_iff_toInt_le, ← Int32.toInt_inj] at c_11933 c_11962 ⊢
        have k_0 : ((-1) : Int32).toInt = -1 := by decide
        have k_1 : (3 : Int32).toInt = 3 := by decide
        have k_g : (0 : Int32).toInt = 0 := by decide
        omega
      have g_12219 : a2 ≤ (3 : Int32) := by
        simp only [Int32.lt_iff_toInt_lt, Int32.le_iff_toInt_le, ← Int32.toInt_inj] at c_11933 c_11962 ⊢
        have k_0 : ((-1) : Int32).toInt = -1 := by decide
        have k_1 : (3 : Int32).toInt = 3 := by decide
        omega
      have g_12220 : (41 : Int32) ≤ a3 := by
        simp only [Int32.lt_iff_toInt_lt, Int32.le_iff_toInt_le, ← Int32.toInt_inj] at c_11985 c_12046 ⊢
        have k_0 : ((-1) : Int32).toInt = -1 := by decide
        have k_1 : (40 : Int32).toInt = 40 := by decide
        have k_g : (41 : Int32).toInt = 41 := by decide
        omega
      refine q_callVi (rest := [.int (-3)]) (wr := []) X hK hA hw39 (fun sz => kX12_numbers_471 l D cy y0 a2 a3 (u_1.1 19) (u_1.1 0) (u_1.1 1) (u_1.1 2) (u_1.1 3) (u_1.1 4) (u_1.1 5) (u_1.1 6) (u_1.1 7) (u_1.1 8) (u_1.1 9) (u_1.1 10) (u_1.1 11) (u_1.1 12) (u_1.1 13) (u_1.1 14) (u_1.1 15) (u_1.1 16) (u_1.1 17) (u_1.1 18) g_12218 g_12219 g_12220 sz) wm_8_27 wm_8_30 wm_1_12 hd_X12_numbers wm_8_28 wm_8_29 (ci := 12) (q0 := 0) rfl rfl ⟨Nat.le_of_ble_eq_true rfl, Nat.le_of_ble_eq_true rfl⟩ hl.1 rfl (Nat.le_of_ble_eq_true rfl) dL_law_1267 ⟨Nat.le_of_ble_eq_true rfl, Nat.le_of_ble_eq_true rfl⟩ [0] [] rfl rfl (by decide) rfl rfl (fun r_12221 u_12221 Hp40 lc40 w_12221 hw40 => ?_)
      clear Hp39 lc39 hw39
      obtain rfl : r_12221 = (-3) := w_12221
      replace hw40 : qW D _ _ [] _ _ := hw40
      refine lv_icmp_eq (tgt := 1461) hx hb dL_law_1270 (by decide) (fun _ => ?_) (fun c => absurd c (by decide +kernel))
      exact law_tail l X hr hlk hX hbl hw40.2.2 hl (Nat.le_of_ble_eq_true rfl) (Nat.le_of_ble_eq_true rfl)
    refine lv_aload_n hx hb dL_law_1232 rfl (lv_at hl 2 rfl) ?_
    refine lv_aload_n hx hb dL_law_1233 rfl (lv_at hl 3 rfl) ?_
    refine lv_iload_n hx hb dL_law_1234 rfl (lv_at hl 0 rfl) ?_
    refine lv_iconst (v := 1) hx hb dL_law_1235 (by decide) ?_
    refine lv_iadd hx hb dL_law_1236 ?_
    refine q_c 1 (by decide +kernel) ?_
    refine va_sld X.1 X.2.1 hX hbl hbA h.2.2 (q_in (by decide +kernel)) dL_law_1237 ?_
    refine q_c 3 e1 ?_
    refine lv_aload_n hx hb dL_law_1238 rfl (lv_at hl 3 rfl) ?_
    refine lv_iload_n hx hb dL_law_1239 rfl (lv_at hl 0 rfl) ?_
    refine lv_iconst (v := 2) hx hb dL_law_1240 (by decide) ?_
    refine lv_iadd hx hb dL_law_1241 ?_
    refine q_c 2 (by decide +kernel) ?_
    refine va_sld X.1 X.2.1 hX hbl hbA h.2.2 (q_in (by decide +kernel)) dL_law_1242 ?_
    refine q_c a2 e2 ?_
    refine lv_aload_n hx hb dL_law_1243 rfl (lv_at hl 3 rfl) ?_
    refine lv_iload_n hx hb dL_law_1244 rfl (lv_at hl 0 rfl) ?_
    refine lv_iconst (v := 3) hx hb dL_law_1245 (by decide) ?_
    refine lv_iadd hx hb dL_law_1246 ?_
    refine q_c 3 (by decide +kernel) ?_
    refine va_sld X.1 X.2.1 hX hbl hbA h.2.2 (q_in (by decide +kernel)) dL_law_1247 ?_
    refine q_c a3 e3 ?_
    have g_12250 : (4 : Int32) ≤ a2 := by
      simp only [Int32.lt_iff_toInt_lt, Int32.le_iff_toInt_le, ← Int32.toInt_inj] at c_11933 c_11962 ⊢
      have k_0 : ((-1) : Int32).toInt = -1 := by decide
      have k_1 : (3 : Int32).toInt = 3 := by decide
      have k_g : (4 : Int32).toInt = 4 := by decide
      omega
    refine q_callVi (rest := []) (wr := [(y0, .inr (12, [.int 0, .ref (u_1.1 19), .ref (u_1.1 0), .ref (u_1.1 1), .ref (u_1.1 2), .int 0, .int 0, .int 0, .int 0, .int 0, .int 0, .int 0, .int 0, .int 0, .int (-1), .int 0, .ref (u_1.1 3), .ref (u_1.1 4), .ref (u_1.1 5), .ref (u_1.1 6), .ref (u_1.1 7), .int 0, .int 0, .ref (u_1.1 8), .ref (u_1.1 9), .ref (u_1.1 10), .int 0, .int 0, .ref (u_1.1 11), .ref (u_1.1 12), .ref (u_1.1 13), .ref (u_1.1 14), .ref (u_1.1 15), .int 0, .ref (u_1.1 16), .ref (u_1.1 17), .ref (u_1.1 18)]))]) X hK hA h (fun sz => kX11_numbers_472 l D cy x0 a2 a3 (u_0.1 0) (u_0.1 1) (u_0.1 37) (u_0.1 39) (u_0.1 41) (u_0.1 43) (u_0.1 14) (u_0.1 15) (u_0.1 16) (u_0.1 17) (u_0.1 20) (u_0.1 24) (u_0.1 29) g_12250 sz) wm_5_120 wm_5_123 wm_1_1 hd_X11_numbers wm_5_121 wm_5_122 (ci := 11) (q0 := 0) rfl rfl ⟨Nat.le_of_ble_eq_true rfl, Nat.le_of_ble_eq_true rfl⟩ hl.1 rfl (Nat.le_of_ble_eq_true rfl) dL_law_1248 ⟨Nat.le_of_ble_eq_true rfl, Nat.le_of_ble_eq_true rfl⟩ [0] [78] rfl rfl (by decide) rfl rfl (fun r_12251 u_12251 Hp41 lc41 w_12251 hw41 => ?_)
    clear h
    obtain rfl : r_12251 = (-2) := w_12251
    replace hw41 : qW D _ _ [(y0, .inr (12, [.int 0, .ref (u_1.1 19), .ref (u_1.1 0), .ref (u_1.1 1), .ref (u_1.1 2), .int 0, .int 0, .int 0, .int 0, .int 0, .int 0, .int 0, .int 0, .int 0, .int (-1), .int 0, .ref (u_1.1 3), .ref (u_1.1 4), .ref (u_1.1 5), .ref (u_1.1 6), .ref (u_1.1 7), .int 0, .int 0, .ref (u_1.1 8), .ref (u_1.1 9), .ref (u_1.1 10), .int 0, .int 0, .ref (u_1.1 11), .ref (u_1.1 12), .ref (u_1.1 13), .ref (u_1.1 14), .ref (u_1.1 15), .int 0, .ref (u_1.1 16), .ref (u_1.1 17), .ref (u_1.1 18)]))] _ _ := hw41
    refine lv_aload_n hx hb dL_law_1251 rfl (lv_at hl 1 rfl) ?_
    refine lv_aload_n hx hb dL_law_1252 rfl (lv_at hl 3 rfl) ?_
    refine lv_iload_n hx hb dL_law_1253 rfl (lv_at hl 0 rfl) ?_
    refine lv_iconst (v := 1) hx hb dL_law_1254 (by decide) ?_
    refine lv_iadd hx hb dL_law_1255 ?_
    refine q_c 1 (by decide +kernel) ?_
    refine va_sld X.1 X.2.1 hX hbl hbA hw41.2.2 (q_in (by decide +kernel)) dL_law_1256 ?_
    refine q_c 3 e1 ?_
    refine lv_aload_n hx hb dL_law_1257 rfl (lv_at hl 3 rfl) ?_
    refine lv_iload_n hx hb dL_law_1258 rfl (lv_at hl 0 rfl) ?_
    refine lv_iconst (v := 2) hx hb dL_law_1259 (by decide) ?_
    refine lv_iadd hx hb dL_law_1260 ?_
    refine q_c 2 (by decide +kernel) ?_
    refine va_sld X.1 X.2.1 hX hbl hbA hw41.2.2 (q_in (by decide +kernel)) dL_law_1261 ?_
    refine q_c a2 e2 ?_
    refine lv_aload_n hx hb dL_law_1262 rfl (lv_at hl 3 rfl) ?_
    refine lv_iload_n hx hb dL_law_1263 rfl (lv_at hl 0 rfl) ?_
    refine lv_iconst (v := 3) hx hb dL_law_1264 (by decide) ?_
    refine lv_iadd hx hb dL_law_1265 ?_
    refine q_c 3 (by decide +kernel) ?_
    refine va_sld X.1 X.2.1 hX hbl hbA hw41.2.2 (q_in (by decide +kernel)) dL_law_1266 ?_
    refine q_c a3 e3 ?_
    have g_12257 : (4 : Int32) ≤ a2 := by
      simp only [Int32.lt_iff_toInt_lt, Int32.le_iff_toInt_le, ← Int32.toInt_inj] at c_11933 c_11962 ⊢
      have k_0 : ((-1) : Int32).toInt = -1 := by decide
      have k_1 : (3 : Int32).toInt = 3 := by decide
      have k_g : (4 : Int32).toInt = 4 := by decide
      omega
    refine q_callVi (rest := [.int (-2)]) (wr := []) X hK hA hw41 (fun sz => kX12_numbers_473 l D cy y0 a2 a3 (u_1.1 19) (u_1.1 0) (u_1.1 1) (u_1.1 2) (u_1.1 3) (u_1.1 4) (u_1.1 5) (u_1.1 6) (u_1.1 7) (u_1.1 8) (u_1.1 9) (u_1.1 10) (u_1.1 11) (u_1.1 12) (u_1.1 13) (u_1.1 14) (u_1.1 15) (u_1.1 16) (u_1.1 17) (u_1.1 18) g_12257 sz) wm_8_27 wm_8_30 wm_1_12 hd_X12_numbers wm_8_28 wm_8_29 (ci := 12) (q0 := 0) rfl rfl ⟨Nat.le_of_ble_eq_true rfl, Nat.le_of_ble_eq_true rfl⟩ hl.1 rfl (Nat.le_of_ble_eq_true rfl) dL_law_1267 ⟨Nat.le_of_ble_eq_true rfl, Nat.le_of_ble_eq_true rfl⟩ [0] [] rfl rfl (by decide) rfl rfl (fun r_12258 u_12258 Hp42 lc42 w_12258 hw42 => ?_)
    clear Hp41 lc41 hw41
    obtain rfl : r_12258 = (-2) := w_12258
    replace hw42 : qW D _ _ [] _ _ := hw42
    refine lv_icmp_eq (tgt := 1461) hx hb dL_law_1270 (by decide) (fun _ => ?_) (fun c => absurd c (by decide +kernel))
    exact law_tail l X hr hlk hX hbl hw42.2.2 hl (Nat.le_of_ble_eq_true rfl) (Nat.le_of_ble_eq_true rfl)
  refine lv_aload_n hx hb dL_law_1232 rfl (lv_at hl 2 rfl) ?_
  refine lv_aload_n hx hb dL_law_1233 rfl (lv_at hl 3 rfl) ?_
  refine lv_iload_n hx hb dL_law_1234 rfl (lv_at hl 0 rfl) ?_
  refine lv_iconst (v := 1) hx hb dL_law_1235 (by decide) ?_
  refine lv_iadd hx hb dL_law_1236 ?_
  refine q_c 1 (by decide +kernel) ?_
  refine va_sld X.1 X.2.1 hX hbl hbA h.2.2 (q_in (by decide +kernel)) dL_law_1237 ?_
  refine q_c a1 e1 ?_
  refine lv_aload_n hx hb dL_law_1238 rfl (lv_at hl 3 rfl) ?_
  refine lv_iload_n hx hb dL_law_1239 rfl (lv_at hl 0 rfl) ?_
  refine lv_iconst (v := 2) hx hb dL_law_1240 (by decide) ?_
  refine lv_iadd hx hb dL_law_1241 ?_
  refine q_c 2 (by decide +kernel) ?_
  refine va_sld X.1 X.2.1 hX hbl hbA h.2.2 (q_in (by decide +kernel)) dL_law_1242 ?_
  refine q_c a2 e2 ?_
  refine lv_aload_n hx hb dL_law_1243 rfl (lv_at hl 3 rfl) ?_
  refine lv_iload_n hx hb dL_law_1244 rfl (lv_at hl 0 rfl) ?_
  refine lv_iconst (v := 3) hx hb dL_law_1245 (by decide) ?_
  refine lv_iadd hx hb dL_law_1246 ?_
  refine q_c 3 (by decide +kernel) ?_
  refine va_sld X.1 X.2.1 hX hbl hbA h.2.2 (q_in (by decide +kernel)) dL_law_1247 ?_
  refine q_c a3 e3 ?_
  have g_12288 : (4 : Int32) ≤ a1 := by
    simp only [Int32.lt_iff_toInt_lt, Int32.le_iff_toInt_le, ← Int32.toInt_inj] at c_10822 c_10851 c_11212 c_11561 c_11910 ⊢
    have k_0 : ((-1) : Int32).toInt = -1 := by decide
    have k_1 : (0 : Int32).toInt = 0 := by decide
    have k_2 : (1 : Int32).toInt = 1 := by decide
    have k_3 : (2 : Int32).toInt = 2 := by decide
    have k_4 : (3 : Int32).toInt = 3 := by decide
    have k_g : (4 : Int32).toInt = 4 := by decide
    omega
  refine q_callVi (rest := []) (wr := [(y0, .inr (12, [.int 0, .ref (u_1.1 19), .ref (u_1.1 0), .ref (u_1.1 1), .ref (u_1.1 2), .int 0, .int 0, .int 0, .int 0, .int 0, .int 0, .int 0, .int 0, .int 0, .int (-1), .int 0, .ref (u_1.1 3), .ref (u_1.1 4), .ref (u_1.1 5), .ref (u_1.1 6), .ref (u_1.1 7), .int 0, .int 0, .ref (u_1.1 8), .ref (u_1.1 9), .ref (u_1.1 10), .int 0, .int 0, .ref (u_1.1 11), .ref (u_1.1 12), .ref (u_1.1 13), .ref (u_1.1 14), .ref (u_1.1 15), .int 0, .ref (u_1.1 16), .ref (u_1.1 17), .ref (u_1.1 18)]))]) X hK hA h (fun sz => kX11_numbers_474 l D cy x0 a1 a2 a3 (u_0.1 0) (u_0.1 1) (u_0.1 37) (u_0.1 39) (u_0.1 41) (u_0.1 43) (u_0.1 14) (u_0.1 15) (u_0.1 16) (u_0.1 17) (u_0.1 20) (u_0.1 24) (u_0.1 29) g_12288 sz) wm_5_120 wm_5_123 wm_1_1 hd_X11_numbers wm_5_121 wm_5_122 (ci := 11) (q0 := 0) rfl rfl ⟨Nat.le_of_ble_eq_true rfl, Nat.le_of_ble_eq_true rfl⟩ hl.1 rfl (Nat.le_of_ble_eq_true rfl) dL_law_1248 ⟨Nat.le_of_ble_eq_true rfl, Nat.le_of_ble_eq_true rfl⟩ [0] [78] rfl rfl (by decide) rfl rfl (fun r_12289 u_12289 Hp43 lc43 w_12289 hw43 => ?_)
  clear h
  obtain rfl : r_12289 = (-2) := w_12289
  replace hw43 : qW D _ _ [(y0, .inr (12, [.int 0, .ref (u_1.1 19), .ref (u_1.1 0), .ref (u_1.1 1), .ref (u_1.1 2), .int 0, .int 0, .int 0, .int 0, .int 0, .int 0, .int 0, .int 0, .int 0, .int (-1), .int 0, .ref (u_1.1 3), .ref (u_1.1 4), .ref (u_1.1 5), .ref (u_1.1 6), .ref (u_1.1 7), .int 0, .int 0, .ref (u_1.1 8), .ref (u_1.1 9), .ref (u_1.1 10), .int 0, .int 0, .ref (u_1.1 11), .ref (u_1.1 12), .ref (u_1.1 13), .ref (u_1.1 14), .ref (u_1.1 15), .int 0, .ref (u_1.1 16), .ref (u_1.1 17), .ref (u_1.1 18)]))] _ _ := hw43
  refine lv_aload_n hx hb dL_law_1251 rfl (lv_at hl 1 rfl) ?_
  refine lv_aload_n hx hb dL_law_1252 rfl (lv_at hl 3 rfl) ?_
  refine lv_iload_n hx hb dL_law_1253 rfl (lv_at hl 0 rfl) ?_
  refine lv_iconst (v := 1) hx hb dL_law_1254 (by decide) ?_
  refine lv_iadd hx hb dL_law_1255 ?_
  refine q_c 1 (by decide +kernel) ?_
  refine va_sld X.1 X.2.1 hX hbl hbA hw43.2.2 (q_in (by decide +kernel)) dL_law_1256 ?_
  refine q_c a1 e1 ?_
  refine lv_aload_n hx hb dL_law_1257 rfl (lv_at hl 3 rfl) ?_
  refine lv_iload_n hx hb dL_law_1258 rfl (lv_at hl 0 rfl) ?_
  refine lv_iconst (v := 2) hx hb dL_law_1259 (by decide) ?_
  refine lv_iadd hx hb dL_law_1260 ?_
  refine q_c 2 (by decide +kernel) ?_
  refine va_sld X.1 X.2.1 hX hbl hbA hw43.2.2 (q_in (by decide +kernel)) dL_law_1261 ?_
  refine q_c a2 e2 ?_
  refine lv_aload_n hx hb dL_law_1262 rfl (lv_at hl 3 rfl) ?_
  refine lv_iload_n hx hb dL_law_1263 rfl (lv_at hl 0 rfl) ?_
  refine lv_iconst (v := 3) hx hb dL_law_1264 (by decide) ?_
  refine lv_iadd hx hb dL_law_1265 ?_
  refine q_c 3 (by decide +kernel) ?_
  refine va_sld X.1 X.2.1 hX hbl hbA hw43.2.2 (q_in (by decide +kernel)) dL_law_1266 ?_
  refine q_c a3 e3 ?_
  have g_12294 : (4 : Int32) ≤ a1 := by
    simp only [Int32.lt_iff_toInt_lt, Int32.le_iff_toInt_le, ← Int32.toInt_inj] at c_10822 c_10851 c_11212 c_11561 c_11910 ⊢
    have k_0 : ((-1) : Int32).toInt = -1 := by decide
    have k_1 : (0 : Int32).toInt = 0 := by decide
    have k_2 : (1 : Int32).toInt = 1 := by decide
    have k_3 : (2 : Int32).toInt = 2 := by decide
    have k_4 : (3 : Int32).toInt = 3 := by decide
    have k_g : (4 : Int32).toInt = 4 := by decide
    omega
  refine q_callVi (rest := [.int (-2)]) (wr := []) X hK hA hw43 (fun sz => kX12_numbers_475 l D cy y0 a1 a2 a3 (u_1.1 19) (u_1.1 0) (u_1.1 1) (u_1.1 2) (u_1.1 3) (u_1.1 4) (u_1.1 5) (u_1.1 6) (u_1.1 7) (u_1.1 8) (u_1.1 9) (u_1.1 10) (u_1.1 11) (u_1.1 12) (u_1.1 13) (u_1.1 14) (u_1.1 15) (u_1.1 16) (u_1.1 17) (u_1.1 18) g_12294 sz) wm_8_27 wm_8_30 wm_1_12 hd_X12_numbers wm_8_28 wm_8_29 (ci := 12) (q0 := 0) rfl rfl ⟨Nat.le_of_ble_eq_true rfl, Nat.le_of_ble_eq_true rfl⟩ hl.1 rfl (Nat.le_of_ble_eq_true rfl) dL_law_1267 ⟨Nat.le_of_ble_eq_true rfl, Nat.le_of_ble_eq_true rfl⟩ [0] [] rfl rfl (by decide) rfl rfl (fun r_12295 u_12295 Hp44 lc44 w_12295 hw44 => ?_)
  clear Hp43 lc43 hw43
  obtain rfl : r_12295 = (-2) := w_12295
  replace hw44 : qW D _ _ [] _ _ := hw44
  refine lv_icmp_eq (tgt := 1461) hx hb dL_law_1270 (by decide) (fun _ => ?_) (fun c => absurd c (by decide +kernel))
  exact law_tail l X hr hlk hX hbl hw44.2.2 hl (Nat.le_of_ble_eq_true rfl) (Nat.le_of_ble_eq_true rfl)
set_option maxHeartbeats 4000000 in
set_option maxRecDepth 100000 in
theorem lc_write (l : Launch) {p : Program} {e : Env} {s : State} {m : MethodId} {below : List Frame} {meth : Method} {c : Code} {b : Nat} {xs : Nat → Int32} {D : va_G} {cy : Nat → ClassId} {H : Heap} {locs : List Loc} {ls : Array Slot} {x0 y0 : Nat} {u_0 u_1 : SS} (X : qX p s m #[Value.ref b] c cL_law 4 RL) (hr : meth.sig.returnType = ret) (hlk : meth.locks = false) (hX : va_X b 6 xs s s.heap) (hbl : b < s.heap.size) (hK : qK D cy s) (a1 a2 a3 a4 a5 : Int32) (e1 : xs (Int32.toNatClampNeg 1) = a1) (e2 : xs (Int32.toNatClampNeg 2) = a2) (e3 : xs (Int32.toNatClampNeg 3) = a3) (e4 : xs (Int32.toNatClampNeg 4) = a4) (e5 : xs (Int32.toNatClampNeg 5) = a5) (h : qW D (fun q => s.heap.size ≤ q) s.heap (wLaw cy x0 y0 u_0 u_1) H locs) (hl : lv_has ls 4 [(3, .int 0), (2, .ref y0), (1, .ref x0), (0, .ref b)]) : W p l e room_1 s m #[Value.ref b] below meth c H locs 99 25544 (lw_Z below #[Value.ref b] s) (F0 m 1275 ls []) := by
  obtain ⟨hx, hb, hml, hown, ht⟩ := id X
  have hA : ∀ q : Nat, s.heap.size ≤ q → (fun q : Nat => s.heap.size ≤ q) q := fun _ h => h
  have hbA : ¬ (fun q : Nat => s.heap.size ≤ q) b := Nat.not_le.mpr hbl
  by_cases c_12300 : a1 ≤ (-1)
  · skip
    refine lv_aload_n hx hb dL_law_1275 rfl (lv_at hl 2 rfl) ?_
    refine lv_aload_n hx hb dL_law_1276 rfl (lv_at hl 3 rfl) ?_
    refine lv_iload_n hx hb dL_law_1277 rfl (lv_at hl 0 rfl) ?_
    refine lv_iconst (v := 1) hx hb dL_law_1278 (by decide) ?_
    refine lv_iadd hx hb dL_law_1279 ?_
    refine q_c 1 (by decide +kernel) ?_
    refine va_sld X.1 X.2.1 hX hbl hbA h.2.2 (q_in (by decide +kernel)) dL_law_1280 ?_
    refine q_c a1 e1 ?_
    refine lv_aload_n hx hb dL_law_1281 rfl (lv_at hl 3 rfl) ?_
    refine lv_iload_n hx hb dL_law_1282 rfl (lv_at hl 0 rfl) ?_
    refine lv_iconst (v := 2) hx hb dL_law_1283 (by decide) ?_
    refine lv_iadd hx hb dL_law_1284 ?_
    refine q_c 2 (by decide +kernel) ?_
    refine va_sld X.1 X.2.1 hX hbl hbA h.2.2 (q_in (by decide +kernel)) dL_law_1285 ?_
    refine q_c a2 e2 ?_
    refine lv_aload_n hx hb dL_law_1286 rfl (lv_at hl 3 rfl) ?_
    refine lv_iload_n hx hb dL_law_1287 rfl (lv_at hl 0 rfl) ?_
    refine lv_iconst (v := 3) hx hb dL_law_1288 (by decide) ?_
    refine lv_iadd hx hb dL_law_1289 ?_
    refine q_c 3 (by decide +kernel) ?_
    refine va_sld X.1 X.2.1 hX hbl hbA h.2.2 (q_in (by decide +kernel)) dL_law_1290 ?_
    refine q_c a3 e3 ?_
    refine lv_i2l hx hb dL_law_1291 rfl ?_
    refine lv_bipush (v := 32) hx hb dL_law_1292 (by decide) ?_
    refine lv_lshl hx hb dL_law_1294 rfl ?_
    refine lv_aload_n hx hb dL_law_1295 rfl (lv_at hl 3 rfl) ?_
    refine lv_iload_n hx hb dL_law_1296 rfl (lv_at hl 0 rfl) ?_
    refine lv_iconst (v := 4) hx hb dL_law_1297 (by decide) ?_
    refine lv_iadd hx hb dL_law_1298 ?_
    refine q_c 4 (by decide +kernel) ?_
    refine va_sld X.1 X.2.1 hX hbl hbA h.2.2 (q_in (by decide +kernel)) dL_law_1299 ?_
    refine q_c a4 e4 ?_
    refine lv_i2l hx hb dL_law_1300 rfl ?_
    refine lv_ldc2 hx hb hown (ht _ wm_8_59) dL_law_1301 ?_
    refine lv_land hx hb dL_law_1304 ?_
    refine lv_lor hx hb dL_law_1305 ?_
    have g_12328 : a1 ≤ ((-1) : Int32) := by
      simp only [Int32.lt_iff_toInt_lt, Int32.le_iff_toInt_le, ← Int32.toInt_inj] at c_12300 ⊢
      have k_0 : ((-1) : Int32).toInt = -1 := by decide
      omega
    refine q_callVl (rest := []) (wr := [(y0, .inr (12, [.int 0, .ref (u_1.1 19), .ref (u_1.1 0), .ref (u_1.1 1), .ref (u_1.1 2), .int 0, .int 0, .int 0, .int 0, .int 0, .int 0, .int 0, .int 0, .int 0, .int (-1), .int 0, .ref (u_1.1 3), .ref (u_1.1 4), .ref (u_1.1 5), .ref (u_1.1 6), .ref (u_1.1 7), .int 0, .int 0, .ref (u_1.1 8), .ref (u_1.1 9), .ref (u_1.1 10), .int 0, .int 0, .ref (u_1.1 11), .ref (u_1.1 12), .ref (u_1.1 13), .ref (u_1.1 14), .ref (u_1.1 15), .int 0, .ref (u_1.1 16), .ref (u_1.1 17), .ref (u_1.1 18)]))]) X hK hA h (fun sz => kX11_write_476 l D cy x0 a1 a2 ((((a3).toInt64) <<< ((32 : Int32).toInt64 &&& 63)) ||| (((a4).toInt64) &&& 4294967295)) (u_0.1 0) (u_0.1 1) (u_0.1 37) (u_0.1 39) (u_0.1 41) (u_0.1 43) (u_0.1 14) (u_0.1 15) (u_0.1 16) (u_0.1 17) (u_0.1 20) (u_0.1 24) (u_0.1 29) g_12328 sz) wm_5_131 wm_5_134 wm_1_1 hd_X11_write wm_5_132 wm_5_133 (ci := 11) (q0 := 0) rfl rfl ⟨Nat.le_of_ble_eq_true rfl, Nat.le_of_ble_eq_true rfl⟩ hl.1 rfl (Nat.le_of_ble_eq_true rfl) dL_law_1306 ⟨Nat.le_of_ble_eq_true rfl, Nat.le_of_ble_eq_true rfl⟩ [0] [78] rfl rfl (by decide) rfl rfl (fun r_12329 u_12329 Hp1 lc1 w_12329 hw1 => ?_)
    clear h
    obtain rfl : r_12329 = (-2) := w_12329
    replace hw1 : qW D _ _ [(y0, .inr (12, [.int 0, .ref (u_1.1 19), .ref (u_1.1 0), .ref (u_1.1 1), .ref (u_1.1 2), .int 0, .int 0, .int 0, .int 0, .int 0, .int 0, .int 0, .int 0, .int 0, .int (-1), .int 0, .ref (u_1.1 3), .ref (u_1.1 4), .ref (u_1.1 5), .ref (u_1.1 6), .ref (u_1.1 7), .int 0, .int 0, .ref (u_1.1 8), .ref (u_1.1 9), .ref (u_1.1 10), .int 0, .int 0, .ref (u_1.1 11), .ref (u_1.1 12), .ref (u_1.1 13), .ref (u_1.1 14), .ref (u_1.1 15), .int 0, .ref (u_1.1 16), .ref (u_1.1 17), .ref (u_1.1 18)]))] _ _ := hw1
    refine lv_aload_n hx hb dL_law_1309 rfl (lv_at hl 1 rfl) ?_
    refine lv_aload_n hx hb dL_law_1310 rfl (lv_at hl 3 rfl) ?_
    refine lv_iload_n hx hb dL_law_1311 rfl (lv_at hl 0 rfl) ?_
    refine lv_iconst (v := 1) hx hb dL_law_1312 (by decide) ?_
    refine lv_iadd hx hb dL_law_1313 ?_
    refine q_c 1 (by decide +kernel) ?_
    refine va_sld X.1 X.2.1 hX hbl hbA hw1.2.2 (q_in (by decide +kernel)) dL_law_1314 ?_
    refine q_c a1 e1 ?_
    refine lv_aload_n hx hb dL_law_1315 rfl (lv_at hl 3 rfl) ?_
    refine lv_iload_n hx hb dL_law_1316 rfl (lv_at hl 0 rfl) ?_
    refine lv_iconst (v := 2) hx hb dL_law_1317 (by decide) ?_
    refine lv_iadd hx hb dL_law_1318 ?_
    refine q_c 2 (by decide +kernel) ?_
    refine va_sld X.1 X.2.1 hX hbl hbA hw1.2.2 (q_in (by decide +kernel)) dL_law_1319 ?_
    refine q_c a2 e2 ?_
    refine lv_aload_n hx hb dL_law_1320 rfl (lv_at hl 3 rfl) ?_
    refine lv_iload_n hx hb dL_law_1321 rfl (lv_at hl 0 rfl) ?_
    refine lv_iconst (v := 3) hx hb dL_law_1322 (by decide) ?_
    refine lv_iadd hx hb dL_law_1323 ?_
    refine q_c 3 (by decide +kernel) ?_
    refine va_sld X.1 X.2.1 hX hbl hbA hw1.2.2 (q_in (by decide +kernel)) dL_law_1324 ?_
    refine q_c a3 e3 ?_
    refine lv_i2l hx hb dL_law_1325 rfl ?_
    refine lv_bipush (v := 32) hx hb dL_law_1326 (by decide) ?_
    refine lv_lshl hx hb dL_law_1328 rfl ?_
    refine lv_aload_n hx hb dL_law_1329 rfl (lv_at hl 3 rfl) ?_
    refine lv_iload_n hx hb dL_law_1330 rfl (lv_at hl 0 rfl) ?_
    refine lv_iconst (v := 4) hx hb dL_law_1331 (by decide) ?_
    refine lv_iadd hx hb dL_law_1332 ?_
    refine q_c 4 (by decide +kernel) ?_
    refine va_sld X.1 X.2.1 hX hbl hbA hw1.2.2 (q_in (by decide +kernel)) dL_law_1333 ?_
    refine q_c a4 e4 ?_
    refine lv_i2l hx hb dL_law_1334 rfl ?_
    refine lv_ldc2 hx hb hown (ht _ wm_8_59) dL_law_1335 ?_
    refine lv_land hx hb dL_law_1338 ?_
    refine lv_lor hx hb dL_law_1339 ?_
    have g_12335 : a1 ≤ ((-1) : Int32) := by
      simp only [Int32.lt_iff_toInt_lt, Int32.le_iff_toInt_le, ← Int32.toInt_inj] at c_12300 ⊢
      have k_0 : ((-1) : Int32).toInt = -1 := by decide
      omega
    refine q_callVl (rest := [.long (-2)]) (wr := []) X hK hA hw1 (fun sz => kX12_write_477 l D cy y0 a1 a2 ((((a3).toInt64) <<< ((32 : Int32).toInt64 &&& 63)) ||| (((a4).toInt64) &&& 4294967295)) (u_1.1 19) (u_1.1 0) (u_1.1 1) (u_1.1 2) (u_1.1 3) (u_1.1 4) (u_1.1 5) (u_1.1 6) (u_1.1 7) (u_1.1 8) (u_1.1 9) (u_1.1 10) (u_1.1 11) (u_1.1 12) (u_1.1 13) (u_1.1 14) (u_1.1 15) (u_1.1 16) (u_1.1 17) (u_1.1 18) g_12335 sz) wm_8_31 wm_8_34 wm_1_12 hd_X12_write wm_8_32 wm_8_33 (ci := 12) (q0 := 0) rfl rfl ⟨Nat.le_of_ble_eq_true rfl, Nat.le_of_ble_eq_true rfl⟩ hl.1 rfl (Nat.le_of_ble_eq_true rfl) dL_law_1340 ⟨Nat.le_of_ble_eq_true rfl, Nat.le_of_ble_eq_true rfl⟩ [0] [] rfl rfl (by decide) rfl rfl (fun r_12336 u_12336 Hp2 lc2 w_12336 hw2 => ?_)
    clear Hp1 lc1 hw1
    obtain rfl : r_12336 = (-2) := w_12336
    replace hw2 : qW D _ _ [] _ _ := hw2
    refine W.lcmp hx hb dL_law_1343 ?_
    refine q_c 0 (by decide +kernel) ?_
    refine lv_if_eq (tgt := 1461) hx hb dL_law_1344 (by decide) (fun _ => ?_) (fun c => absurd c (by decide +kernel))
    exact law_tail l X hr hlk hX hbl hw2.2.2 hl (Nat.le_of_ble_eq_true rfl) (Nat.le_of_ble_eq_true rfl)
  by_cases c_12337 : a1 = 0
  · subst c_12337
    refine lv_aload_n hx hb dL_law_1275 rfl (lv_at hl 2 rfl) ?_
    refine lv_aload_n hx hb dL_law_1276 rfl (lv_at hl 3 rfl) ?_
    refine lv_iload_n hx hb dL_law_1277 rfl (lv_at hl 0 rfl) ?_
    refine lv_iconst (v := 1) hx hb dL_law_1278 (by decide) ?_
    refine lv_iadd hx hb dL_law_1279 ?_
    refine q_c 1 (by decide +kernel) ?_
    refine va_sld X.1 X.2.1 hX hbl hbA h.2.2 (q_in (by decide +kernel)) dL_law_1280 ?_
    refine q_c 0 e1 ?_
    refine lv_aload_n hx hb dL_law_1281 rfl (lv_at hl 3 rfl) ?_
    refine lv_iload_n hx hb dL_law_1282 rfl (lv_at hl 0 rfl) ?_
    refine lv_iconst (v := 2) hx hb dL_law_1283 (by decide) ?_
    refine lv_iadd hx hb dL_law_1284 ?_
    refine q_c 2 (by decide +kernel) ?_
    refine va_sld X.1 X.2.1 hX hbl hbA h.2.2 (q_in (by decide +kernel)) dL_law_1285 ?_
    refine q_c a2 e2 ?_
    refine lv_aload_n hx hb dL_law_1286 rfl (lv_at hl 3 rfl) ?_
    refine lv_iload_n hx hb dL_law_1287 rfl (lv_at hl 0 rfl) ?_
    refine lv_iconst (v := 3) hx hb dL_law_1288 (by decide) ?_
    refine lv_iadd hx hb dL_law_1289 ?_
    refine q_c 3 (by decide +kernel) ?_
    refine va_sld X.1 X.2.1 hX hbl hbA h.2.2 (q_in (by decide +kernel)) dL_law_1290 ?_
    refine q_c a3 e3 ?_
    refine lv_i2l hx hb dL_law_1291 rfl ?_
    refine lv_bipush (v := 32) hx hb dL_law_1292 (by decide) ?_
    refine lv_lshl hx hb dL_law_1294 rfl ?_
    refine lv_aload_n hx hb dL_law_1295 rfl (lv_at hl 3 rfl) ?_
    refine lv_iload_n hx hb dL_law_1296 rfl (lv_at hl 0 rfl) ?_
    refine lv_iconst (v := 4) hx hb dL_law_1297 (by decide) ?_
    refine lv_iadd hx hb dL_law_1298 ?_
    refine q_c 4 (by decide +kernel) ?_
    refine va_sld X.1 X.2.1 hX hbl hbA h.2.2 (q_in (by decide +kernel)) dL_law_1299 ?_
    refine q_c a4 e4 ?_
    refine lv_i2l hx hb dL_law_1300 rfl ?_
    refine lv_ldc2 hx hb hown (ht _ wm_8_59) dL_law_1301 ?_
    refine lv_land hx hb dL_law_1304 ?_
    refine lv_lor hx hb dL_law_1305 ?_
    refine q_callVl (rest := []) (wr := [(y0, .inr (12, [.int 0, .ref (u_1.1 19), .ref (u_1.1 0), .ref (u_1.1 1), .ref (u_1.1 2), .int 0, .int 0, .int 0, .int 0, .int 0, .int 0, .int 0, .int 0, .int 0, .int (-1), .int 0, .ref (u_1.1 3), .ref (u_1.1 4), .ref (u_1.1 5), .ref (u_1.1 6), .ref (u_1.1 7), .int 0, .int 0, .ref (u_1.1 8), .ref (u_1.1 9), .ref (u_1.1 10), .int 0, .int 0, .ref (u_1.1 11), .ref (u_1.1 12), .ref (u_1.1 13), .ref (u_1.1 14), .ref (u_1.1 15), .int 0, .ref (u_1.1 16), .ref (u_1.1 17), .ref (u_1.1 18)])), ((u_1.1 16), .inl (cy 1, 4, .inl (upd (upd (upd (upd (fun _ => 0) (Int32.toNatClampNeg 0) (-1)) (Int32.toNatClampNeg 1) (-1)) (Int32.toNatClampNeg 2) (-1)) (Int32.toNatClampNeg 3) (-1))))]) X hK hA h (fun sz => kX11_write_478 l D cy x0 (u_0.1 14) (u_0.1 65) a2 ((((a3).toInt64) <<< ((32 : Int32).toInt64 &&& 63)) ||| (((a4).toInt64) &&& 4294967295)) (u_0.1 0) (u_0.1 1) (u_0.1 37) (u_0.1 39) (u_0.1 41) (u_0.1 43) (u_0.1 15) (u_0.1 16) (u_0.1 17) (u_0.1 20) (u_0.1 24) (u_0.1 29) (u_0.1 71) (u_0.1 69) (u_0.1 67) (u_0.1 66)  sz) wm_5_131 wm_5_134 wm_1_1 hd_X11_write wm_5_132 wm_5_133 (ci := 11) (q0 := 0) rfl rfl ⟨Nat.le_of_ble_eq_true rfl, Nat.le_of_ble_eq_true rfl⟩ hl.1 rfl (Nat.le_of_ble_eq_true rfl) dL_law_1306 ⟨Nat.le_of_ble_eq_true rfl, Nat.le_of_ble_eq_true rfl⟩ [0, 15, 66] [78, 95] rfl rfl (by decide) rfl rfl (fun r_12352 u_12352 Hp3 lc3 w_12352 hw3 => ?_)
    clear h
    obtain rfl : r_12352 = (-6) := w_12352
    replace hw3 : qW D _ _ [(y0, .inr (12, [.int 0, .ref (u_1.1 19), .ref (u_1.1 0), .ref (u_1.1 1), .ref (u_1.1 2), .int 0, .int 0, .int 0, .int 0, .int 0, .int 0, .int 0, .int 0, .int 0, .int (-1), .int 0, .ref (u_1.1 3), .ref (u_1.1 4), .ref (u_1.1 5), .ref (u_1.1 6), .ref (u_1.1 7), .int 0, .int 0, .ref (u_1.1 8), .ref (u_1.1 9), .ref (u_1.1 10), .int 0, .int 0, .ref (u_1.1 11), .ref (u_1.1 12), .ref (u_1.1 13), .ref (u_1.1 14), .ref (u_1.1 15), .int 0, .ref (u_1.1 16), .ref (u_1.1 17), .ref (u_1.1 18)])), ((u_1.1 16), .inl (cy 1, 4, .inl (upd (upd (upd (upd (fun _ => 0) (Int32.toNatClampNeg 0) (-1)) (Int32.toNatClampNeg 1) (-1)) (Int32.toNatClampNeg 2) (-1)) (Int32.toNatClampNeg 3) (-1))))] _ _ := hw3
    refine lv_aload_n hx hb dL_law_1309 rfl (lv_at hl 1 rfl) ?_
    refine lv_aload_n hx hb dL_law_1310 rfl (lv_at hl 3 rfl) ?_
    refine lv_iload_n hx hb dL_law_1311 rfl (lv_at hl 0 rfl) ?_
    refine lv_iconst (v := 1) hx hb dL_law_1312 (by decide) ?_
    refine lv_iadd hx hb dL_law_1313 ?_
    refine q_c 1 (by decide +kernel) ?_
    refine va_sld X.1 X.2.1 hX hbl hbA hw3.2.2 (q_in (by decide +kernel)) dL_law_1314 ?_
    refine q_c 0 e1 ?_
    refine lv_aload_n hx hb dL_law_1315 rfl (lv_at hl 3 rfl) ?_
    refine lv_iload_n hx hb dL_law_1316 rfl (lv_at hl 0 rfl) ?_
    refine lv_iconst (v := 2) hx hb dL_law_1317 (by decide) ?_
    refine lv_iadd hx hb dL_law_1318 ?_
    refine q_c 2 (by decide +kernel) ?_
    refine va_sld X.1 X.2.1 hX hbl hbA hw3.2.2 (q_in (by decide +kernel)) dL_law_1319 ?_
    refine q_c a2 e2 ?_
    refine lv_aload_n hx hb dL_law_1320 rfl (lv_at hl 3 rfl) ?_
    refine lv_iload_n hx hb dL_law_1321 rfl (lv_at hl 0 rfl) ?_
    refine lv_iconst (v := 3) hx hb dL_law_1322 (by decide) ?_
    refine lv_iadd hx hb dL_law_1323 ?_
    refine q_c 3 (by decide +kernel) ?_
    refine va_sld X.1 X.2.1 hX hbl hbA hw3.2.2 (q_in (by decide +kernel)) dL_law_1324 ?_
    refine q_c a3 e3 ?_
    refine lv_i2l hx hb dL_law_1325 rfl ?_
    refine lv_bipush (v := 32) hx hb dL_law_1326 (by decide) ?_
    refine lv_lshl hx hb dL_law_1328 rfl ?_
    refine lv_aload_n hx hb dL_law_1329 rfl (lv_at hl 3 rfl) ?_
    refine lv_iload_n hx hb dL_law_1330 rfl (lv_at hl 0 rfl) ?_
    refine lv_iconst (v := 4) hx hb dL_law_1331 (by decide) ?_
    refine lv_iadd hx hb dL_law_1332 ?_
    refine q_c 4 (by decide +kernel) ?_
    refine va_sld X.1 X.2.1 hX hbl hbA hw3.2.2 (q_in (by decide +kernel)) dL_law_1333 ?_
    refine q_c a4 e4 ?_
    refine lv_i2l hx hb dL_law_1334 rfl ?_
    refine lv_ldc2 hx hb hown (ht _ wm_8_59) dL_law_1335 ?_
    refine lv_land hx hb dL_law_1338 ?_
    refine lv_lor hx hb dL_law_1339 ?_
    refine q_callVl (rest := [.long (-6)]) (wr := []) X hK hA hw3 (fun sz => kX12_write_479 l D cy y0 (u_1.1 16) a2 ((((a3).toInt64) <<< ((32 : Int32).toInt64 &&& 63)) ||| (((a4).toInt64) &&& 4294967295)) (u_1.1 19) (u_1.1 0) (u_1.1 1) (u_1.1 2) (u_1.1 3) (u_1.1 4) (u_1.1 5) (u_1.1 6) (u_1.1 7) (u_1.1 8) (u_1.1 9) (u_1.1 10) (u_1.1 11) (u_1.1 12) (u_1.1 13) (u_1.1 14) (u_1.1 15) (u_1.1 17) (u_1.1 18) (upd (upd (upd (upd (fun _ => 0) (Int32.toNatClampNeg 0) (-1)) (Int32.toNatClampNeg 1) (-1)) (Int32.toNatClampNeg 2) (-1)) (Int32.toNatClampNeg 3) (-1)) (q_un (by decide +kernel) (q_un (by decide +kernel) (q_un (by decide +kernel) q_ue))) sz) wm_8_31 wm_8_34 wm_1_12 hd_X12_write wm_8_32 wm_8_33 (ci := 12) (q0 := 0) rfl rfl ⟨Nat.le_of_ble_eq_true rfl, Nat.le_of_ble_eq_true rfl⟩ hl.1 rfl (Nat.le_of_ble_eq_true rfl) dL_law_1340 ⟨Nat.le_of_ble_eq_true rfl, Nat.le_of_ble_eq_true rfl⟩ [0, 1] [] rfl rfl (by decide) rfl rfl (fun r_12355 u_12355 Hp4 lc4 w_12355 hw4 => ?_)
    clear Hp3 lc3 hw3
    obtain rfl : r_12355 = (-6) := w_12355
    replace hw4 : qW D _ _ [] _ _ := hw4
    refine W.lcmp hx hb dL_law_1343 ?_
    refine q_c 0 (by decide +kernel) ?_
    refine lv_if_eq (tgt := 1461) hx hb dL_law_1344 (by decide) (fun _ => ?_) (fun c => absurd c (by decide +kernel))
    exact law_tail l X hr hlk hX hbl hw4.2.2 hl (Nat.le_of_ble_eq_true rfl) (Nat.le_of_ble_eq_true rfl)
  by_cases c_12356 : a1 = 1
  · subst c_12356
    refine lv_aload_n hx hb dL_law_1275 rfl (lv_at hl 2 rfl) ?_
    refine lv_aload_n hx hb dL_law_1276 rfl (lv_at hl 3 rfl) ?_
    refine lv_iload_n hx hb dL_law_1277 rfl (lv_at hl 0 rfl) ?_
    refine lv_iconst (v := 1) hx hb dL_law_1278 (by decide) ?_
    refine lv_iadd hx hb dL_law_1279 ?_
    refine q_c 1 (by decide +kernel) ?_
    refine va_sld X.1 X.2.1 hX hbl hbA h.2.2 (q_in (by decide +kernel)) dL_law_1280 ?_
    refine q_c 1 e1 ?_
    refine lv_aload_n hx hb dL_law_1281 rfl (lv_at hl 3 rfl) ?_
    refine lv_iload_n hx hb dL_law_1282 rfl (lv_at hl 0 rfl) ?_
    refine lv_iconst (v := 2) hx hb dL_law_1283 (by decide) ?_
    refine lv_iadd hx hb dL_law_1284 ?_
    refine q_c 2 (by decide +kernel) ?_
    refine va_sld X.1 X.2.1 hX hbl hbA h.2.2 (q_in (by decide +kernel)) dL_law_1285 ?_
    refine q_c a2 e2 ?_
    refine lv_aload_n hx hb dL_law_1286 rfl (lv_at hl 3 rfl) ?_
    refine lv_iload_n hx hb dL_law_1287 rfl (lv_at hl 0 rfl) ?_
    refine lv_iconst (v := 3) hx hb dL_law_1288 (by decide) ?_
    refine lv_iadd hx hb dL_law_1289 ?_
    refine q_c 3 (by decide +kernel) ?_
    refine va_sld X.1 X.2.1 hX hbl hbA h.2.2 (q_in (by decide +kernel)) dL_law_1290 ?_
    refine q_c a3 e3 ?_
    refine lv_i2l hx hb dL_law_1291 rfl ?_
    refine lv_bipush (v := 32) hx hb dL_law_1292 (by decide) ?_
    refine lv_lshl hx hb dL_law_1294 rfl ?_
    refine lv_aload_n hx hb dL_law_1295 rfl (lv_at hl 3 rfl) ?_
    refine lv_iload_n hx hb dL_law_1296 rfl (lv_at hl 0 rfl) ?_
    refine lv_iconst (v := 4) hx hb dL_law_1297 (by decide) ?_
    refine lv_iadd hx hb dL_law_1298 ?_
    refine q_c 4 (by decide +kernel) ?_
    refine va_sld X.1 X.2.1 hX hbl hbA h.2.2 (q_in (by decide +kernel)) dL_law_1299 ?_
    refine q_c a4 e4 ?_
    refine lv_i2l hx hb dL_law_1300 rfl ?_
    refine lv_ldc2 hx hb hown (ht _ wm_8_59) dL_law_1301 ?_
    refine lv_land hx hb dL_law_1304 ?_
    refine lv_lor hx hb dL_law_1305 ?_
    refine q_callVl (rest := []) (wr := [(y0, .inr (12, [.int 0, .ref (u_1.1 19), .ref (u_1.1 0), .ref (u_1.1 1), .ref (u_1.1 2), .int 0, .int 0, .int 0, .int 0, .int 0, .int 0, .int 0, .int 0, .int 0, .int (-1), .int 0, .ref (u_1.1 3), .ref (u_1.1 4), .ref (u_1.1 5), .ref (u_1.1 6), .ref (u_1.1 7), .int 0, .int 0, .ref (u_1.1 8), .ref (u_1.1 9), .ref (u_1.1 10), .int 0, .int 0, .ref (u_1.1 11), .ref (u_1.1 12), .ref (u_1.1 13), .ref (u_1.1 14), .ref (u_1.1 15), .int 0, .ref (u_1.1 16), .ref (u_1.1 17), .ref (u_1.1 18)])), ((u_1.1 16), .inl (cy 1, 4, .inl (upd (upd (upd (upd (fun _ => 0) (Int32.toNatClampNeg 0) (-1)) (Int32.toNatClampNeg 1) (-1)) (Int32.toNatClampNeg 2) (-1)) (Int32.toNatClampNeg 3) (-1))))]) X hK hA h (fun sz => kX11_write_480 l D cy x0 (u_0.1 14) (u_0.1 67) a2 ((((a3).toInt64) <<< ((32 : Int32).toInt64 &&& 63)) ||| (((a4).toInt64) &&& 4294967295)) (u_0.1 0) (u_0.1 1) (u_0.1 37) (u_0.1 39) (u_0.1 41) (u_0.1 43) (u_0.1 15) (u_0.1 16) (u_0.1 17) (u_0.1 20) (u_0.1 24) (u_0.1 29) (u_0.1 71) (u_0.1 69) (u_0.1 65) (u_0.1 68)  sz) wm_5_131 wm_5_134 wm_1_1 hd_X11_write wm_5_132 wm_5_133 (ci := 11) (q0 := 0) rfl rfl ⟨Nat.le_of_ble_eq_true rfl, Nat.le_of_ble_eq_true rfl⟩ hl.1 rfl (Nat.le_of_ble_eq_true rfl) dL_law_1306 ⟨Nat.le_of_ble_eq_true rfl, Nat.le_of_ble_eq_true rfl⟩ [0, 15, 68] [78, 95] rfl rfl (by decide) rfl rfl (fun r_12371 u_12371 Hp5 lc5 w_12371 hw5 => ?_)
    clear h
    obtain rfl : r_12371 = (-6) := w_12371
    replace hw5 : qW D _ _ [(y0, .inr (12, [.int 0, .ref (u_1.1 19), .ref (u_1.1 0), .ref (u_1.1 1), .ref (u_1.1 2), .int 0, .int 0, .int 0, .int 0, .int 0, .int 0, .int 0, .int 0, .int 0, .int (-1), .int 0, .ref (u_1.1 3), .ref (u_1.1 4), .ref (u_1.1 5), .ref (u_1.1 6), .ref (u_1.1 7), .int 0, .int 0, .ref (u_1.1 8), .ref (u_1.1 9), .ref (u_1.1 10), .int 0, .int 0, .ref (u_1.1 11), .ref (u_1.1 12), .ref (u_1.1 13), .ref (u_1.1 14), .ref (u_1.1 15), .int 0, .ref (u_1.1 16), .ref (u_1.1 17), .ref (u_1.1 18)])), ((u_1.1 16), .inl (cy 1, 4, .inl (upd (upd (upd (upd (fun _ => 0) (Int32.toNatClampNeg 0) (-1)) (Int32.toNatClampNeg 1) (-1)) (Int32.toNatClampNeg 2) (-1)) (Int32.toNatClampNeg 3) (-1))))] _ _ := hw5
    refine lv_aload_n hx hb dL_law_1309 rfl (lv_at hl 1 rfl) ?_
    refine lv_aload_n hx hb dL_law_1310 rfl (lv_at hl 3 rfl) ?_
    refine lv_iload_n hx hb dL_law_1311 rfl (lv_at hl 0 rfl) ?_
    refine lv_iconst (v := 1) hx hb dL_law_1312 (by decide) ?_
    refine lv_iadd hx hb dL_law_1313 ?_
    refine q_c 1 (by decide +kernel) ?_
    refine va_sld X.1 X.2.1 hX hbl hbA hw5.2.2 (q_in (by decide +kernel)) dL_law_1314 ?_
    refine q_c 1 e1 ?_
    refine lv_aload_n hx hb dL_law_1315 rfl (lv_at hl 3 rfl) ?_
    refine lv_iload_n hx hb dL_law_1316 rfl (lv_at hl 0 rfl) ?_
    refine lv_iconst (v := 2) hx hb dL_law_1317 (by decide) ?_
    refine lv_iadd hx hb dL_law_1318 ?_
    refine q_c 2 (by decide +kernel) ?_
    refine va_sld X.1 X.2.1 hX hbl hbA hw5.2.2 (q_in (by decide +kernel)) dL_law_1319 ?_
    refine q_c a2 e2 ?_
    refine lv_aload_n hx hb dL_law_1320 rfl (lv_at hl 3 rfl) ?_
    refine lv_iload_n hx hb dL_law_1321 rfl (lv_at hl 0 rfl) ?_
    refine lv_iconst (v := 3) hx hb dL_law_1322 (by decide) ?_
    refine lv_iadd hx hb dL_law_1323 ?_
    refine q_c 3 (by decide +kernel) ?_
    refine va_sld X.1 X.2.1 hX hbl hbA hw5.2.2 (q_in (by decide +kernel)) dL_law_1324 ?_
    refine q_c a3 e3 ?_
    refine lv_i2l hx hb dL_law_1325 rfl ?_
    refine lv_bipush (v := 32) hx hb dL_law_1326 (by decide) ?_
    refine lv_lshl hx hb dL_law_1328 rfl ?_
    refine lv_aload_n hx hb dL_law_1329 rfl (lv_at hl 3 rfl) ?_
    refine lv_iload_n hx hb dL_law_1330 rfl (lv_at hl 0 rfl) ?_
    refine lv_iconst (v := 4) hx hb dL_law_1331 (by decide) ?_
    refine lv_iadd hx hb dL_law_1332 ?_
    refine q_c 4 (by decide +kernel) ?_
    refine va_sld X.1 X.2.1 hX hbl hbA hw5.2.2 (q_in (by decide +kernel)) dL_law_1333 ?_
    refine q_c a4 e4 ?_
    refine lv_i2l hx hb dL_law_1334 rfl ?_
    refine lv_ldc2 hx hb hown (ht _ wm_8_59) dL_law_1335 ?_
    refine lv_land hx hb dL_law_1338 ?_
    refine lv_lor hx hb dL_law_1339 ?_
    refine q_callVl (rest := [.long (-6)]) (wr := []) X hK hA hw5 (fun sz => kX12_write_481 l D cy y0 (u_1.1 16) a2 ((((a3).toInt64) <<< ((32 : Int32).toInt64 &&& 63)) ||| (((a4).toInt64) &&& 4294967295)) (u_1.1 19) (u_1.1 0) (u_1.1 1) (u_1.1 2) (u_1.1 3) (u_1.1 4) (u_1.1 5) (u_1.1 6) (u_1.1 7) (u_1.1 8) (u_1.1 9) (u_1.1 10) (u_1.1 11) (u_1.1 12) (u_1.1 13) (u_1.1 14) (u_1.1 15) (u_1.1 17) (u_1.1 18) (upd (upd (upd (upd (fun _ => 0) (Int32.toNatClampNeg 0) (-1)) (Int32.toNatClampNeg 1) (-1)) (Int32.toNatClampNeg 2) (-1)) (Int32.toNatClampNeg 3) (-1)) (q_un (by decide +kernel) (q_un (by decide +kernel) q_ue)) sz) wm_8_31 wm_8_34 wm_1_12 hd_X12_write wm_8_32 wm_8_33 (ci := 12) (q0 := 0) rfl rfl ⟨Nat.le_of_ble_eq_true rfl, Nat.le_of_ble_eq_true rfl⟩ hl.1 rfl (Nat.le_of_ble_eq_true rfl) dL_law_1340 ⟨Nat.le_of_ble_eq_true rfl, Nat.le_of_ble_eq_true rfl⟩ [0, 1] [] rfl rfl (by decide) rfl rfl (fun r_12374 u_12374 Hp6 lc6 w_12374 hw6 => ?_)
    clear Hp5 lc5 hw5
    obtain rfl : r_12374 = (-6) := w_12374
    replace hw6 : qW D _ _ [] _ _ := hw6
    refine W.lcmp hx hb dL_law_1343 ?_
    refine q_c 0 (by decide +kernel) ?_
    refine lv_if_eq (tgt := 1461) hx hb dL_law_1344 (by decide) (fun _ => ?_) (fun c => absurd c (by decide +kernel))
    exact law_tail l X hr hlk hX hbl hw6.2.2 hl (Nat.le_of_ble_eq_true rfl) (Nat.le_of_ble_eq_true rfl)
  by_cases c_12375 : a1 = 2
  · subst c_12375
    refine lv_aload_n hx hb dL_law_1275 rfl (lv_at hl 2 rfl) ?_
    refine lv_aload_n hx hb dL_law_1276 rfl (lv_at hl 3 rfl) ?_
    refine lv_iload_n hx hb dL_law_1277 rfl (lv_at hl 0 rfl) ?_
    refine lv_iconst (v := 1) hx hb dL_law_1278 (by decide) ?_
    refine lv_iadd hx hb dL_law_1279 ?_
    refine q_c 1 (by decide +kernel) ?_
    refine va_sld X.1 X.2.1 hX hbl hbA h.2.2 (q_in (by decide +kernel)) dL_law_1280 ?_
    refine q_c 2 e1 ?_
    refine lv_aload_n hx hb dL_law_1281 rfl (lv_at hl 3 rfl) ?_
    refine lv_iload_n hx hb dL_law_1282 rfl (lv_at hl 0 rfl) ?_
    refine lv_iconst (v := 2) hx hb dL_law_1283 (by decide) ?_
    refine lv_iadd hx hb dL_law_1284 ?_
    refine q_c 2 (by decide +kernel) ?_
    refine va_sld X.1 X.2.1 hX hbl hbA h.2.2 (q_in (by decide +kernel)) dL_law_1285 ?_
    refine q_c a2 e2 ?_
    refine lv_aload_n hx hb dL_law_1286 rfl (lv_at hl 3 rfl) ?_
    refine lv_iload_n hx hb dL_law_1287 rfl (lv_at hl 0 rfl) ?_
    refine lv_iconst (v := 3) hx hb dL_law_1288 (by decide) ?_
    refine lv_iadd hx hb dL_law_1289 ?_
    refine q_c 3 (by decide +kernel) ?_
    refine va_sld X.1 X.2.1 hX hbl hbA h.2.2 (q_in (by decide +kernel)) dL_law_1290 ?_
    refine q_c a3 e3 ?_
    refine lv_i2l hx hb dL_law_1291 rfl ?_
    refine lv_bipush (v := 32) hx hb dL_law_1292 (by decide) ?_
    refine lv_lshl hx hb dL_law_1294 rfl ?_
    refine lv_aload_n hx hb dL_law_1295 rfl (lv_at hl 3 rfl) ?_
    refine lv_iload_n hx hb dL_law_1296 rfl (lv_at hl 0 rfl) ?_
    refine lv_iconst (v := 4) hx hb dL_law_1297 (by decide) ?_
    refine lv_iadd hx hb dL_law_1298 ?_
    refine q_c 4 (by decide +kernel) ?_
    refine va_sld X.1 X.2.1 hX hbl hbA h.2.2 (q_in (by decide +kernel)) dL_law_1299 ?_
    refine q_c a4 e4 ?_
    refine lv_i2l hx hb dL_law_1300 rfl ?_
    refine lv_ldc2 hx hb hown (ht _ wm_8_59) dL_law_1301 ?_
    refine lv_land hx hb dL_law_1304 ?_
    refine lv_lor hx hb dL_law_1305 ?_
    refine q_callVl (rest := []) (wr := [(y0, .inr (12, [.int 0, .ref (u_1.1 19), .ref (u_1.1 0), .ref (u_1.1 1), .ref (u_1.1 2), .int 0, .int 0, .int 0, .int 0, .int 0, .int 0, .int 0, .int 0, .int 0, .int (-1), .int 0, .ref (u_1.1 3), .ref (u_1.1 4), .ref (u_1.1 5), .ref (u_1.1 6), .ref (u_1.1 7), .int 0, .int 0, .ref (u_1.1 8), .ref (u_1.1 9), .ref (u_1.1 10), .int 0, .int 0, .ref (u_1.1 11), .ref (u_1.1 12), .ref (u_1.1 13), .ref (u_1.1 14), .ref (u_1.1 15), .int 0, .ref (u_1.1 16), .ref (u_1.1 17), .ref (u_1.1 18)])), ((u_1.1 16), .inl (cy 1, 4, .inl (upd (upd (upd (upd (fun _ => 0) (Int32.toNatClampNeg 0) (-1)) (Int32.toNatClampNeg 1) (-1)) (Int32.toNatClampNeg 2) (-1)) (Int32.toNatClampNeg 3) (-1))))]) X hK hA h (fun sz => kX11_write_482 l D cy x0 (u_0.1 14) (u_0.1 69) a2 ((((a3).toInt64) <<< ((32 : Int32).toInt64 &&& 63)) ||| (((a4).toInt64) &&& 4294967295)) (u_0.1 0) (u_0.1 1) (u_0.1 37) (u_0.1 39) (u_0.1 41) (u_0.1 43) (u_0.1 15) (u_0.1 16) (u_0.1 17) (u_0.1 20) (u_0.1 24) (u_0.1 29) (u_0.1 71) (u_0.1 67) (u_0.1 65) (u_0.1 70)  sz) wm_5_131 wm_5_134 wm_1_1 hd_X11_write wm_5_132 wm_5_133 (ci := 11) (q0 := 0) rfl rfl ⟨Nat.le_of_ble_eq_true rfl, Nat.le_of_ble_eq_true rfl⟩ hl.1 rfl (Nat.le_of_ble_eq_true rfl) dL_law_1306 ⟨Nat.le_of_ble_eq_true rfl, Nat.le_of_ble_eq_true rfl⟩ [0, 15, 70] [78, 95] rfl rfl (by decide) rfl rfl (fun r_12390 u_12390 Hp7 lc7 w_12390 hw7 => ?_)
    clear h
    obtain rfl : r_12390 = (-6) := w_12390
    replace hw7 : qW D _ _ [(y0, .inr (12, [.int 0, .ref (u_1.1 19), .ref (u_1.1 0), .ref (u_1.1 1), .ref (u_1.1 2), .int 0, .int 0, .int 0, .int 0, .int 0, .int 0, .int 0, .int 0, .int 0, .int (-1), .int 0, .ref (u_1.1 3), .ref (u_1.1 4), .ref (u_1.1 5), .ref (u_1.1 6), .ref (u_1.1 7), .int 0, .int 0, .ref (u_1.1 8), .ref (u_1.1 9), .ref (u_1.1 10), .int 0, .int 0, .ref (u_1.1 11), .ref (u_1.1 12), .ref (u_1.1 13), .ref (u_1.1 14), .ref (u_1.1 15), .int 0, .ref (u_1.1 16), .ref (u_1.1 17), .ref (u_1.1 18)])), ((u_1.1 16), .inl (cy 1, 4, .inl (upd (upd (upd (upd (fun _ => 0) (Int32.toNatClampNeg 0) (-1)) (Int32.toNatClampNeg 1) (-1)) (Int32.toNatClampNeg 2) (-1)) (Int32.toNatClampNeg 3) (-1))))] _ _ := hw7
    refine lv_aload_n hx hb dL_law_1309 rfl (lv_at hl 1 rfl) ?_
    refine lv_aload_n hx hb dL_law_1310 rfl (lv_at hl 3 rfl) ?_
    refine lv_iload_n hx hb dL_law_1311 rfl (lv_at hl 0 rfl) ?_
    refine lv_iconst (v := 1) hx hb dL_law_1312 (by decide) ?_
    refine lv_iadd hx hb dL_law_1313 ?_
    refine q_c 1 (by decide +kernel) ?_
    refine va_sld X.1 X.2.1 hX hbl hbA hw7.2.2 (q_in (by decide +kernel)) dL_law_1314 ?_
    refine q_c 2 e1 ?_
    refine lv_aload_n hx hb dL_law_1315 rfl (lv_at hl 3 rfl) ?_
    refine lv_iload_n hx hb dL_law_1316 rfl (lv_at hl 0 rfl) ?_
    refine lv_iconst (v := 2) hx hb dL_law_1317 (by decide) ?_
    refine lv_iadd hx hb dL_law_1318 ?_
    refine q_c 2 (by decide +kernel) ?_
    refine va_sld X.1 X.2.1 hX hbl hbA hw7.2.2 (q_in (by decide +kernel)) dL_law_1319 ?_
    refine q_c a2 e2 ?_
    refine lv_aload_n hx hb dL_law_1320 rfl (lv_at hl 3 rfl) ?_
    refine lv_iload_n hx hb dL_law_1321 rfl (lv_at hl 0 rfl) ?_
    refine lv_iconst (v := 3) hx hb dL_law_1322 (by decide) ?_
    refine lv_iadd hx hb dL_law_1323 ?_
    refine q_c 3 (by decide +kernel) ?_
    refine va_sld X.1 X.2.1 hX hbl hbA hw7.2.2 (q_in (by decide +kernel)) dL_law_1324 ?_
    refine q_c a3 e3 ?_
    refine lv_i2l hx hb dL_law_1325 rfl ?_
    refine lv_bipush (v := 32) hx hb dL_law_1326 (by decide) ?_
    refine lv_lshl hx hb dL_law_1328 rfl ?_
    refine lv_aload_n hx hb dL_law_1329 rfl (lv_at hl 3 rfl) ?_
    refine lv_iload_n hx hb dL_law_1330 rfl (lv_at hl 0 rfl) ?_
    refine lv_iconst (v := 4) hx hb dL_law_1331 (by decide) ?_
    refine lv_iadd hx hb dL_law_1332 ?_
    refine q_c 4 (by decide +kernel) ?_
    refine va_sld X.1 X.2.1 hX hbl hbA hw7.2.2 (q_in (by decide +kernel)) dL_law_1333 ?_
    refine q_c a4 e4 ?_
    refine lv_i2l hx hb dL_law_1334 rfl ?_
    refine lv_ldc2 hx hb hown (ht _ wm_8_59) dL_law_1335 ?_
    refine lv_land hx hb dL_law_1338 ?_
    refine lv_lor hx hb dL_law_1339 ?_
    refine q_callVl (rest := [.long (-6)]) (wr := []) X hK hA hw7 (fun sz => kX12_write_483 l D cy y0 (u_1.1 16) a2 ((((a3).toInt64) <<< ((32 : Int32).toInt64 &&& 63)) ||| (((a4).toInt64) &&& 4294967295)) (u_1.1 19) (u_1.1 0) (u_1.1 1) (u_1.1 2) (u_1.1 3) (u_1.1 4) (u_1.1 5) (u_1.1 6) (u_1.1 7) (u_1.1 8) (u_1.1 9) (u_1.1 10) (u_1.1 11) (u_1.1 12) (u_1.1 13) (u_1.1 14) (u_1.1 15) (u_1.1 17) (u_1.1 18) (upd (upd (upd (upd (fun _ => 0) (Int32.toNatClampNeg 0) (-1)) (Int32.toNatClampNeg 1) (-1)) (Int32.toNatClampNeg 2) (-1)) (Int32.toNatClampNeg 3) (-1)) (q_un (by decide +kernel) q_ue) sz) wm_8_31 wm_8_34 wm_1_12 hd_X12_write wm_8_32 wm_8_33 (ci := 12) (q0 := 0) rfl rfl ⟨Nat.le_of_ble_eq_true rfl, Nat.le_of_ble_eq_true rfl⟩ hl.1 rfl (Nat.le_of_ble_eq_true rfl) dL_law_1340 ⟨Nat.le_of_ble_eq_true rfl, Nat.le_of_ble_eq_true rfl⟩ [0, 1] [] rfl rfl (by decide) rfl rfl (fun r_12393 u_12393 Hp8 lc8 w_12393 hw8 => ?_)
    clear Hp7 lc7 hw7
    obtain rfl : r_12393 = (-6) := w_12393
    replace hw8 : qW D _ _ [] _ _ := hw8
    refine W.lcmp hx hb dL_law_1343 ?_
    refine q_c 0 (by decide +kernel) ?_
    refine lv_if_eq (tgt := 1461) hx hb dL_law_1344 (by decide) (fun _ => ?_) (fun c => absurd c (by decide +kernel))
    exact law_tail l X hr hlk hX hbl hw8.2.2 hl (Nat.le_of_ble_eq_true rfl) (Nat.le_of_ble_eq_true rfl)
  by_cases c_12394 : a1 = 3
  · subst c_12394
    refine lv_aload_n hx hb dL_law_1275 rfl (lv_at hl 2 rfl) ?_
    refine lv_aload_n hx hb dL_law_1276 rfl (lv_at hl 3 rfl) ?_
    refine lv_iload_n hx hb dL_law_1277 rfl (lv_at hl 0 rfl) ?_
    refine lv_iconst (v := 1) hx hb dL_law_1278 (by decide) ?_
    refine lv_iadd hx hb dL_law_1279 ?_
    refine q_c 1 (by decide +kernel) ?_
    refine va_sld X.1 X.2.1 hX hbl hbA h.2.2 (q_in (by decide +kernel)) dL_law_1280 ?_
    refine q_c 3 e1 ?_
    refine lv_aload_n hx hb dL_law_1281 rfl (lv_at hl 3 rfl) ?_
    refine lv_iload_n hx hb dL_law_1282 rfl (lv_at hl 0 rfl) ?_
    refine lv_iconst (v := 2) hx hb dL_law_1283 (by decide) ?_
    refine lv_iadd hx hb dL_law_1284 ?_
    refine q_c 2 (by decide +kernel) ?_
    refine va_sld X.1 X.2.1 hX hbl hbA h.2.2 (q_in (by decide +kernel)) dL_law_1285 ?_
    refine q_c a2 e2 ?_
    refine lv_aload_n hx hb dL_law_1286 rfl (lv_at hl 3 rfl) ?_
    refine lv_iload_n hx hb dL_law_1287 rfl (lv_at hl 0 rfl) ?_
    refine lv_iconst (v := 3) hx hb dL_law_1288 (by decide) ?_
    refine lv_iadd hx hb dL_law_1289 ?_
    refine q_c 3 (by decide +kernel) ?_
    refine va_sld X.1 X.2.1 hX hbl hbA h.2.2 (q_in (by decide +kernel)) dL_law_1290 ?_
    refine q_c a3 e3 ?_
    refine lv_i2l hx hb dL_law_1291 rfl ?_
    refine lv_bipush (v := 32) hx hb dL_law_1292 (by decide) ?_
    refine lv_lshl hx hb dL_law_1294 rfl ?_
    refine lv_aload_n hx hb dL_law_1295 rfl (lv_at hl 3 rfl) ?_
    refine lv_iload_n hx hb dL_law_1296 rfl (lv_at hl 0 rfl) ?_
    refine lv_iconst (v := 4) hx hb dL_law_1297 (by decide) ?_
    refine lv_iadd hx hb dL_law_1298 ?_
    refine q_c 4 (by decide +kernel) ?_
    refine va_sld X.1 X.2.1 hX hbl hbA h.2.2 (q_in (by decide +kernel)) dL_law_1299 ?_
    refine q_c a4 e4 ?_
    refine lv_i2l hx hb dL_law_1300 rfl ?_
    refine lv_ldc2 hx hb hown (ht _ wm_8_59) dL_law_1301 ?_
    refine lv_land hx hb dL_law_1304 ?_
    refine lv_lor hx hb dL_law_1305 ?_
    refine q_callVl (rest := []) (wr := [(y0, .inr (12, [.int 0, .ref (u_1.1 19), .ref (u_1.1 0), .ref (u_1.1 1), .ref (u_1.1 2), .int 0, .int 0, .int 0, .int 0, .int 0, .int 0, .int 0, .int 0, .int 0, .int (-1), .int 0, .ref (u_1.1 3), .ref (u_1.1 4), .ref (u_1.1 5), .ref (u_1.1 6), .ref (u_1.1 7), .int 0, .int 0, .ref (u_1.1 8), .ref (u_1.1 9), .ref (u_1.1 10), .int 0, .int 0, .ref (u_1.1 11), .ref (u_1.1 12), .ref (u_1.1 13), .ref (u_1.1 14), .ref (u_1.1 15), .int 0, .ref (u_1.1 16), .ref (u_1.1 17), .ref (u_1.1 18)])), ((u_1.1 16), .inl (cy 1, 4, .inl (upd (upd (upd (upd (fun _ => 0) (Int32.toNatClampNeg 0) (-1)) (Int32.toNatClampNeg 1) (-1)) (Int32.toNatClampNeg 2) (-1)) (Int32.toNatClampNeg 3) (-1))))]) X hK hA h (fun sz => kX11_write_484 l D cy x0 (u_0.1 14) (u_0.1 71) a2 ((((a3).toInt64) <<< ((32 : Int32).toInt64 &&& 63)) ||| (((a4).toInt64) &&& 4294967295)) (u_0.1 0) (u_0.1 1) (u_0.1 37) (u_0.1 39) (u_0.1 41) (u_0.1 43) (u_0.1 15) (u_0.1 16) (u_0.1 17) (u_0.1 20) (u_0.1 24) (u_0.1 29) (u_0.1 69) (u_0.1 67) (u_0.1 65) (u_0.1 72)  sz) wm_5_131 wm_5_134 wm_1_1 hd_X11_write wm_5_132 wm_5_133 (ci := 11) (q0 := 0) rfl rfl ⟨Nat.le_of_ble_eq_true rfl, Nat.le_of_ble_eq_true rfl⟩ hl.1 rfl (Nat.le_of_ble_eq_true rfl) dL_law_1306 ⟨Nat.le_of_ble_eq_true rfl, Nat.le_of_ble_eq_true rfl⟩ [0, 15, 72] [78, 95] rfl rfl (by decide) rfl rfl (fun r_12409 u_12409 Hp9 lc9 w_12409 hw9 => ?_)
    clear h
    obtain rfl : r_12409 = (-6) := w_12409
    replace hw9 : qW D _ _ [(y0, .inr (12, [.int 0, .ref (u_1.1 19), .ref (u_1.1 0), .ref (u_1.1 1), .ref (u_1.1 2), .int 0, .int 0, .int 0, .int 0, .int 0, .int 0, .int 0, .int 0, .int 0, .int (-1), .int 0, .ref (u_1.1 3), .ref (u_1.1 4), .ref (u_1.1 5), .ref (u_1.1 6), .ref (u_1.1 7), .int 0, .int 0, .ref (u_1.1 8), .ref (u_1.1 9), .ref (u_1.1 10), .int 0, .int 0, .ref (u_1.1 11), .ref (u_1.1 12), .ref (u_1.1 13), .ref (u_1.1 14), .ref (u_1.1 15), .int 0, .ref (u_1.1 16), .ref (u_1.1 17), .ref (u_1.1 18)])), ((u_1.1 16), .inl (cy 1, 4, .inl (upd (upd (upd (upd (fun _ => 0) (Int32.toNatClampNeg 0) (-1)) (Int32.toNatClampNeg 1) (-1)) (Int32.toNatClampNeg 2) (-1)) (Int32.toNatClampNeg 3) (-1))))] _ _ := hw9
    refine lv_aload_n hx hb dL_law_1309 rfl (lv_at hl 1 rfl) ?_
    refine lv_aload_n hx hb dL_law_1310 rfl (lv_at hl 3 rfl) ?_
    refine lv_iload_n hx hb dL_law_1311 rfl (lv_at hl 0 rfl) ?_
    refine lv_iconst (v := 1) hx hb dL_law_1312 (by decide) ?_
    refine lv_iadd hx hb dL_law_1313 ?_
    refine q_c 1 (by decide +kernel) ?_
    refine va_sld X.1 X.2.1 hX hbl hbA hw9.2.2 (q_in (by decide +kernel)) dL_law_1314 ?_
    refine q_c 3 e1 ?_
    refine lv_aload_n hx hb dL_law_1315 rfl (lv_at hl 3 rfl) ?_
    refine lv_iload_n hx hb dL_law_1316 rfl (lv_at hl 0 rfl) ?_
    refine lv_iconst (v := 2) hx hb dL_law_1317 (by decide) ?_
    refine lv_iadd hx hb dL_law_1318 ?_
    refine q_c 2 (by decide +kernel) ?_
    refine va_sld X.1 X.2.1 hX hbl hbA hw9.2.2 (q_in (by decide +kernel)) dL_law_1319 ?_
    refine q_c a2 e2 ?_
    refine lv_aload_n hx hb dL_law_1320 rfl (lv_at hl 3 rfl) ?_
    refine lv_iload_n hx hb dL_law_1321 rfl (lv_at hl 0 rfl) ?_
    refine lv_iconst (v := 3) hx hb dL_law_1322 (by decide) ?_
    refine lv_iadd hx hb dL_law_1323 ?_
    refine q_c 3 (by decide +kernel) ?_
    refine va_sld X.1 X.2.1 hX hbl hbA hw9.2.2 (q_in (by decide +kernel)) dL_law_1324 ?_
    refine q_c a3 e3 ?_
    refine lv_i2l hx hb dL_law_1325 rfl ?_
    refine lv_bipush (v := 32) hx hb dL_law_1326 (by decide) ?_
    refine lv_lshl hx hb dL_law_1328 rfl ?_
    refine lv_aload_n hx hb dL_law_1329 rfl (lv_at hl 3 rfl) ?_
    refine lv_iload_n hx hb dL_law_1330 rfl (lv_at hl 0 rfl) ?_
    refine lv_iconst (v := 4) hx hb dL_law_1331 (by decide) ?_
    refine lv_iadd hx hb dL_law_1332 ?_
    refine q_c 4 (by decide +kernel) ?_
    refine va_sld X.1 X.2.1 hX hbl hbA hw9.2.2 (q_in (by decide +kernel)) dL_law_1333 ?_
    refine q_c a4 e4 ?_
    refine lv_i2l hx hb dL_law_1334 rfl ?_
    refine lv_ldc2 hx hb hown (ht _ wm_8_59) dL_law_1335 ?_
    refine lv_land hx hb dL_law_1338 ?_
    refine lv_lor hx hb dL_law_1339 ?_
    refine q_callVl (rest := [.long (-6)]) (wr := []) X hK hA hw9 (fun sz => kX12_write_485 l D cy y0 (u_1.1 16) a2 ((((a3).toInt64) <<< ((32 : Int32).toInt64 &&& 63)) ||| (((a4).toInt64) &&& 4294967295)) (u_1.1 19) (u_1.1 0) (u_1.1 1) (u_1.1 2) (u_1.1 3) (u_1.1 4) (u_1.1 5) (u_1.1 6) (u_1.1 7) (u_1.1 8) (u_1.1 9) (u_1.1 10) (u_1.1 11) (u_1.1 12) (u_1.1 13) (u_1.1 14) (u_1.1 15) (u_1.1 17) (u_1.1 18) (upd (upd (upd (upd (fun _ => 0) (Int32.toNatClampNeg 0) (-1)) (Int32.toNatClampNeg 1) (-1)) (Int32.toNatClampNeg 2) (-1)) (Int32.toNatClampNeg 3) (-1)) q_ue sz) wm_8_31 wm_8_34 wm_1_12 hd_X12_write wm_8_32 wm_8_33 (ci := 12) (q0 := 0) rfl rfl ⟨Nat.le_of_ble_eq_true rfl, Nat.le_of_ble_eq_true rfl⟩ hl.1 rfl (Nat.le_of_ble_eq_true rfl) dL_law_1340 ⟨Nat.le_of_ble_eq_true rfl, Nat.le_of_ble_eq_true rfl⟩ [0, 1] [] rfl rfl (by decide) rfl rfl (fun r_12412 u_12412 Hp10 lc10 w_12412 hw10 => ?_)
    clear Hp9 lc9 hw9
    obtain rfl : r_12412 = (-6) := w_12412
    replace hw10 : qW D _ _ [] _ _ := hw10
    refine W.lcmp hx hb dL_law_1343 ?_
    refine q_c 0 (by decide +kernel) ?_
    refine lv_if_eq (tgt := 1461) hx hb dL_law_1344 (by decide) (fun _ => ?_) (fun c => absurd c (by decide +kernel))
    exact law_tail l X hr hlk hX hbl hw10.2.2 hl (Nat.le_of_ble_eq_true rfl) (Nat.le_of_ble_eq_true rfl)
  refine lv_aload_n hx hb dL_law_1275 rfl (lv_at hl 2 rfl) ?_
  refine lv_aload_n hx hb dL_law_1276 rfl (lv_at hl 3 rfl) ?_
  refine lv_iload_n hx hb dL_law_1277 rfl (lv_at hl 0 rfl) ?_
  refine lv_iconst (v := 1) hx hb dL_law_1278 (by decide) ?_
  refine lv_iadd hx hb dL_law_1279 ?_
  refine q_c 1 (by decide +kernel) ?_
  refine va_sld X.1 X.2.1 hX hbl hbA h.2.2 (q_in (by decide +kernel)) dL_law_1280 ?_
  refine q_c a1 e1 ?_
  refine lv_aload_n hx hb dL_law_1281 rfl (lv_at hl 3 rfl) ?_
  refine lv_iload_n hx hb dL_law_1282 rfl (lv_at hl 0 rfl) ?_
  refine lv_iconst (v := 2) hx hb dL_law_1283 (by decide) ?_
  refine lv_iadd hx hb dL_law_1284 ?_
  refine q_c 2 (by decide +kernel) ?_
  refine va_sld X.1 X.2.1 hX hbl hbA h.2.2 (q_in (by decide +kernel)) dL_law_1285 ?_
  refine q_c a2 e2 ?_
  refine lv_aload_n hx hb dL_law_1286 rfl (lv_at hl 3 rfl) ?_
  refine lv_iload_n hx hb dL_law_1287 rfl (lv_at hl 0 rfl) ?_
  refine lv_iconst (v := 3) hx hb dL_law_1288 (by decide) ?_
  refine lv_iadd hx hb dL_law_1289 ?_
  refine q_c 3 (by decide +kernel) ?_
  refine va_sld X.1 X.2.1 hX hbl hbA h.2.2 (q_in (by decide +kernel)) dL_law_1290 ?_
  refine q_c a3 e3 ?_
  refine lv_i2l hx hb dL_law_1291 rfl ?_
  refine lv_bipush (v := 32) hx hb dL_law_1292 (by decide) ?_
  refine lv_lshl hx hb dL_law_1294 rfl ?_
  refine lv_aload_n hx hb dL_law_1295 rfl (lv_at hl 3 rfl) ?_
  refine lv_iload_n hx hb dL_law_1296 rfl (lv_at hl 0 rfl) ?_
  refine lv_iconst (v := 4) hx hb dL_law_1297 (by decide) ?_
  refine lv_iadd hx hb dL_law_1298 ?_
  refine q_c 4 (by decide +kernel) ?_
  refine va_sld X.1 X.2.1 hX hbl hbA h.2.2 (q_in (by decide +kernel)) dL_law_1299 ?_
  refine q_c a4 e4 ?_
  refine lv_i2l hx hb dL_law_1300 rfl ?_
  refine lv_ldc2 hx hb hown (ht _ wm_8_59) dL_law_1301 ?_
  refine lv_land hx hb dL_law_1304 ?_
  refine lv_lor hx hb dL_law_1305 ?_
  have g_12448 : (4 : Int32) ≤ a1 := by
    simp only [Int32.lt_iff_toInt_lt, Int32.le_iff_toInt_le, ← Int32.toInt_inj] at c_12300 c_12337 c_12356 c_12375 c_12394 ⊢
    have k_0 : ((-1) : Int32).toInt = -1 := by decide
    have k_1 : (0 : Int32).toInt = 0 := by decide
    have k_2 : (1 : Int32).toInt = 1 := by decide
    have k_3 : (2 : Int32).toInt = 2 := by decide
    have k_4 : (3 : Int32).toInt = 3 := by decide
    have k_g : (4 : Int32).toInt = 4 := by decide
    omega
  refine q_callVl (rest := []) (wr := [(y0, .inr (12, [.int 0, .ref (u_1.1 19), .ref (u_1.1 0), .ref (u_1.1 1), .ref (u_1.1 2), .int 0, .int 0, .int 0, .int 0, .int 0, .int 0, .int 0, .int 0, .int 0, .int (-1), .int 0, .ref (u_1.1 3), .ref (u_1.1 4), .ref (u_1.1 5), .ref (u_1.1 6), .ref (u_1.1 7), .int 0, .int 0, .ref (u_1.1 8), .ref (u_1.1 9), .ref (u_1.1 10), .int 0, .int 0, .ref (u_1.1 11), .ref (u_1.1 12), .ref (u_1.1 13), .ref (u_1.1 14), .ref (u_1.1 15), .int 0, .ref (u_1.1 16), .ref (u_1.1 17), .ref (u_1.1 18)]))]) X hK hA h (fun sz => kX11_write_486 l D cy x0 a1 a2 ((((a3).toInt64) <<< ((32 : Int32).toInt64 &&& 63)) ||| (((a4).toInt64) &&& 4294967295)) (u_0.1 0) (u_0.1 1) (u_0.1 37) (u_0.1 39) (u_0.1 41) (u_0.1 43) (u_0.1 14) (u_0.1 15) (u_0.1 16) (u_0.1 17) (u_0.1 20) (u_0.1 24) (u_0.1 29) g_12448 sz) wm_5_131 wm_5_134 wm_1_1 hd_X11_write wm_5_132 wm_5_133 (ci := 11) (q0 := 0) rfl rfl ⟨Nat.le_of_ble_eq_true rfl, Nat.le_of_ble_eq_true rfl⟩ hl.1 rfl (Nat.le_of_ble_eq_true rfl) dL_law_1306 ⟨Nat.le_of_ble_eq_true rfl, Nat.le_of_ble_eq_true rfl⟩ [0] [78] rfl rfl (by decide) rfl rfl (fun r_12449 u_12449 Hp11 lc11 w_12449 hw11 => ?_)
  clear h
  obtain rfl : r_12449 = (-2) := w_12449
  replace hw11 : qW D _ _ [(y0, .inr (12, [.int 0, .ref (u_1.1 19), .ref (u_1.1 0), .ref (u_1.1 1), .ref (u_1.1 2), .int 0, .int 0, .int 0, .int 0, .int 0, .int 0, .int 0, .int 0, .int 0, .int (-1), .int 0, .ref (u_1.1 3), .ref (u_1.1 4), .ref (u_1.1 5), .ref (u_1.1 6), .ref (u_1.1 7), .int 0, .int 0, .ref (u_1.1 8), .ref (u_1.1 9), .ref (u_1.1 10), .int 0, .int 0, .ref (u_1.1 11), .ref (u_1.1 12), .ref (u_1.1 13), .ref (u_1.1 14), .ref (u_1.1 15), .int 0, .ref (u_1.1 16), .ref (u_1.1 17), .ref (u_1.1 18)]))] _ _ := hw11
  refine lv_aload_n hx hb dL_law_1309 rfl (lv_at hl 1 rfl) ?_
  refine lv_aload_n hx hb dL_law_1310 rfl (lv_at hl 3 rfl) ?_
  refine lv_iload_n hx hb dL_law_1311 rfl (lv_at hl 0 rfl) ?_
  refine lv_iconst (v := 1) hx hb dL_law_1312 (by decide) ?_
  refine lv_iadd hx hb dL_law_1313 ?_
  refine q_c 1 (by decide +kernel) ?_
  refine va_sld X.1 X.2.1 hX hbl hbA hw11.2.2 (q_in (by decide +kernel)) dL_law_1314 ?_
  refine q_c a1 e1 ?_
  refine lv_aload_n hx hb dL_law_1315 rfl (lv_at hl 3 rfl) ?_
  refine lv_iload_n hx hb dL_law_1316 rfl (lv_at hl 0 rfl) ?_
  refine lv_iconst (v := 2) hx hb dL_law_1317 (by decide) ?_
  refine lv_iadd hx hb dL_law_1318 ?_
  refine q_c 2 (by decide +kernel) ?_
  refine va_sld X.1 X.2.1 hX hbl hbA hw11.2.2 (q_in (by decide +kernel)) dL_law_1319 ?_
  refine q_c a2 e2 ?_
  refine lv_aload_n hx hb dL_law_1320 rfl (lv_at hl 3 rfl) ?_
  refine lv_iload_n hx hb dL_law_1321 rfl (lv_at hl 0 rfl) ?_
  refine lv_iconst (v := 3) hx hb dL_law_1322 (by decide) ?_
  refine lv_iadd hx hb dL_law_1323 ?_
  refine q_c 3 (by decide +kernel) ?_
  refine va_sld X.1 X.2.1 hX hbl hbA hw11.2.2 (q_in (by decide +kernel)) dL_law_1324 ?_
  refine q_c a3 e3 ?_
  refine lv_i2l hx hb dL_law_1325 rfl ?_
  refine lv_bipush (v := 32) hx hb dL_law_1326 (by decide) ?_
  refine lv_lshl hx hb dL_law_1328 rfl ?_
  refine lv_aload_n hx hb dL_law_1329 rfl (lv_at hl 3 rfl) ?_
  refine lv_iload_n hx hb dL_law_1330 rfl (lv_at hl 0 rfl) ?_
  refine lv_iconst (v := 4) hx hb dL_law_1331 (by decide) ?_
  refine lv_iadd hx hb dL_law_1332 ?_
  refine q_c 4 (by decide +kernel) ?_
  refine va_sld X.1 X.2.1 hX hbl hbA hw11.2.2 (q_in (by decide +kernel)) dL_law_1333 ?_
  refine q_c a4 e4 ?_
  refine lv_i2l hx hb dL_law_1334 rfl ?_
  refine lv_ldc2 hx hb hown (ht _ wm_8_59) dL_law_1335 ?_
  refine lv_land hx hb dL_law_1338 ?_
  refine lv_lor hx hb dL_law_1339 ?_
  have g_12456 : (4 : Int32) ≤ a1 := by
    simp only [Int32.lt_iff_toInt_lt, Int32.le_iff_toInt_le, ← Int32.toInt_inj] at c_12300 c_12337 c_12356 c_12375 c_12394 ⊢
    have k_0 : ((-1) : Int32).toInt = -1 := by decide
    have k_1 : (0 : Int32).toInt = 0 := by decide
    have k_2 : (1 : Int32).toInt = 1 := by decide
    have k_3 : (2 : Int32).toInt = 2 := by decide
    have k_4 : (3 : Int32).toInt = 3 := by decide
    have k_g : (4 : Int32).toInt = 4 := by decide
    omega
  refine q_callVl (rest := [.long (-2)]) (wr := []) X hK hA hw11 (fun sz => kX12_write_487 l D cy y0 a1 a2 ((((a3).toInt64) <<< ((32 : Int32).toInt64 &&& 63)) ||| (((a4).toInt64) &&& 4294967295)) (u_1.1 19) (u_1.1 0) (u_1.1 1) (u_1.1 2) (u_1.1 3) (u_1.1 4) (u_1.1 5) (u_1.1 6) (u_1.1 7) (u_1.1 8) (u_1.1 9) (u_1.1 10) (u_1.1 11) (u_1.1 12) (u_1.1 13) (u_1.1 14) (u_1.1 15) (u_1.1 16) (u_1.1 17) (u_1.1 18) g_12456 sz) wm_8_31 wm_8_34 wm_1_12 hd_X12_write wm_8_32 wm_8_33 (ci := 12) (q0 := 0) rfl rfl ⟨Nat.le_of_ble_eq_true rfl, Nat.le_of_ble_eq_true rfl⟩ hl.1 rfl (Nat.le_of_ble_eq_true rfl) dL_law_1340 ⟨Nat.le_of_ble_eq_true rfl, Nat.le_of_ble_eq_true rfl⟩ [0] [] rfl rfl (by decide) rfl rfl (fun r_12457 u_12457 Hp12 lc12 w_12457 hw12 => ?_)
  clear Hp11 lc11 hw11
  obtain rfl : r_12457 = (-2) := w_12457
  replace hw12 : qW D _ _ [] _ _ := hw12
  refine W.lcmp hx hb dL_law_1343 ?_
  refine q_c 0 (by decide +kernel) ?_
  refine lv_if_eq (tgt := 1461) hx hb dL_law_1344 (by decide) (fun _ => ?_) (fun c => absurd c (by decide +kernel))
  exact law_tail l X hr hlk hX hbl hw12.2.2 hl (Nat.le_of_ble_eq_true rfl) (Nat.le_of_ble_eq_true rfl)
set_option maxHeartbeats 4000000 in
set_option maxRecDepth 100000 in
theorem lc_lists (l : Launch) {p : Program} {e : Env} {s : State} {m : MethodId} {below : List Frame} {meth : Method} {c : Code} {b : Nat} {xs : Nat → Int32} {D : va_G} {cy : Nat → ClassId} {H : Heap} {locs : List Loc} {ls : Array Slot} {x0 y0 : Nat} {u_0 u_1 : SS} (X : qX p s m #[Value.ref b] c cL_law 4 RL) (hr : meth.sig.returnType = ret) (hlk : meth.locks = false) (hX : va_X b 6 xs s s.heap) (hbl : b < s.heap.size) (hK : qK D cy s) (a1 a2 a3 a4 a5 : Int32) (e1 : xs (Int32.toNatClampNeg 1) = a1) (e2 : xs (Int32.toNatClampNeg 2) = a2) (e3 : xs (Int32.toNatClampNeg 3) = a3) (e4 : xs (Int32.toNatClampNeg 4) = a4) (e5 : xs (Int32.toNatClampNeg 5) = a5) (h : qW D (fun q => s.heap.size ≤ q) s.heap (wLaw cy x0 y0 u_0 u_1) H locs) (hl : lv_has ls 4 [(3, .int 0), (2, .ref y0), (1, .ref x0), (0, .ref b)]) : W p l e room_1 s m #[Value.ref b] below meth c H locs 99 25544 (lw_Z below #[Value.ref b] s) (F0 m 1349 ls []) := by
  obtain ⟨hx, hb, hml, hown, ht⟩ := id X
  have hA : ∀ q : Nat, s.heap.size ≤ q → (fun q : Nat => s.heap.size ≤ q) q := fun _ h => h
  have hbA : ¬ (fun q : Nat => s.heap.size ≤ q) b := Nat.not_le.mpr hbl
  by_cases c_12462 : a1 ≤ (-1)
  · skip
    refine lv_aload_n hx hb dL_law_1349 rfl (lv_at hl 2 rfl) ?_
    refine lv_aload_n hx hb dL_law_1350 rfl (lv_at hl 3 rfl) ?_
    refine lv_iload_n hx hb dL_law_1351 rfl (lv_at hl 0 rfl) ?_
    refine lv_iconst (v := 1) hx hb dL_law_1352 (by decide) ?_
    refine lv_iadd hx hb dL_law_1353 ?_
    refine q_c 1 (by decide +kernel) ?_
    refine va_sld X.1 X.2.1 hX hbl hbA h.2.2 (q_in (by decide +kernel)) dL_law_1354 ?_
    refine q_c a1 e1 ?_
    refine lv_aload_n hx hb dL_law_1355 rfl (lv_at hl 3 rfl) ?_
    refine lv_iload_n hx hb dL_law_1356 rfl (lv_at hl 0 rfl) ?_
    refine lv_iconst (v := 2) hx hb dL_law_1357 (by decide) ?_
    refine lv_iadd hx hb dL_law_1358 ?_
    refine q_c 2 (by decide +kernel) ?_
    refine va_sld X.1 X.2.1 hX hbl hbA h.2.2 (q_in (by decide +kernel)) dL_law_1359 ?_
    refine q_c a2 e2 ?_
    refine lv_aload_n hx hb dL_law_1360 rfl (lv_at hl 3 rfl) ?_
    refine lv_iload_n hx hb dL_law_1361 rfl (lv_at hl 0 rfl) ?_
    refine lv_iconst (v := 3) hx hb dL_law_1362 (by decide) ?_
    refine lv_iadd hx hb dL_law_1363 ?_
    refine q_c 3 (by decide +kernel) ?_
    refine va_sld X.1 X.2.1 hX hbl hbA h.2.2 (q_in (by decide +kernel)) dL_law_1364 ?_
    refine q_c a3 e3 ?_
    have g_12484 : a1 ≤ ((-1) : Int32) := by
      simp only [Int32.lt_iff_toInt_lt, Int32.le_iff_toInt_le, ← Int32.toInt_inj] at c_12462 ⊢
      have k_0 : ((-1) : Int32).toInt = -1 := by decide
      omega
    refine q_callVi (rest := []) (wr := [(y0, .inr (12, [.int 0, .ref (u_1.1 19), .ref (u_1.1 0), .ref (u_1.1 1), .ref (u_1.1 2), .int 0, .int 0, .int 0, .int 0, .int 0, .int 0, .int 0, .int 0, .int 0, .int (-1), .int 0, .ref (u_1.1 3), .ref (u_1.1 4), .ref (u_1.1 5), .ref (u_1.1 6), .ref (u_1.1 7), .int 0, .int 0, .ref (u_1.1 8), .ref (u_1.1 9), .ref (u_1.1 10), .int 0, .int 0, .ref (u_1.1 11), .ref (u_1.1 12), .ref (u_1.1 13), .ref (u_1.1 14), .ref (u_1.1 15), .int 0, .ref (u_1.1 16), .ref (u_1.1 17), .ref (u_1.1 18)]))]) X hK hA h (fun sz => kX11_lists_488 l D cy x0 a1 a2 a3 (u_0.1 0) (u_0.1 1) (u_0.1 37) (u_0.1 39) (u_0.1 41) (u_0.1 43) (u_0.1 14) (u_0.1 15) (u_0.1 16) (u_0.1 17) (u_0.1 20) (u_0.1 24) (u_0.1 29) g_12484 sz) wm_5_141 wm_5_144 wm_1_1 hd_X11_lists wm_5_142 wm_5_143 (ci := 11) (q0 := 0) rfl rfl ⟨Nat.le_of_ble_eq_true rfl, Nat.le_of_ble_eq_true rfl⟩ hl.1 rfl (Nat.le_of_ble_eq_true rfl) dL_law_1365 ⟨Nat.le_of_ble_eq_true rfl, Nat.le_of_ble_eq_true rfl⟩ [0] [78] rfl rfl (by decide) rfl rfl (fun r_12485 u_12485 Hp1 lc1 w_12485 hw1 => ?_)
    clear h
    obtain rfl : r_12485 = (-2) := w_12485
    replace hw1 : qW D _ _ [(y0, .inr (12, [.int 0, .ref (u_1.1 19), .ref (u_1.1 0), .ref (u_1.1 1), .ref (u_1.1 2), .int 0, .int 0, .int 0, .int 0, .int 0, .int 0, .int 0, .int 0, .int 0, .int (-1), .int 0, .ref (u_1.1 3), .ref (u_1.1 4), .ref (u_1.1 5), .ref (u_1.1 6), .ref (u_1.1 7), .int 0, .int 0, .ref (u_1.1 8), .ref (u_1.1 9), .ref (u_1.1 10), .int 0, .int 0, .ref (u_1.1 11), .ref (u_1.1 12), .ref (u_1.1 13), .ref (u_1.1 14), .ref (u_1.1 15), .int 0, .ref (u_1.1 16), .ref (u_1.1 17), .ref (u_1.1 18)]))] _ _ := hw1
    refine lv_aload_n hx hb dL_law_1368 rfl (lv_at hl 1 rfl) ?_
    refine lv_aload_n hx hb dL_law_1369 rfl (lv_at hl 3 rfl) ?_
    refine lv_iload_n hx hb dL_law_1370 rfl (lv_at hl 0 rfl) ?_
    refine lv_iconst (v := 1) hx hb dL_law_1371 (by decide) ?_
    refine lv_iadd hx hb dL_law_1372 ?_
    refine q_c 1 (by decide +kernel) ?_
    refine va_sld X.1 X.2.1 hX hbl hbA hw1.2.2 (q_in (by decide +kernel)) dL_law_1373 ?_
    refine q_c a1 e1 ?_
    refine lv_aload_n hx hb dL_law_1374 rfl (lv_at hl 3 rfl) ?_
    refine lv_iload_n hx hb dL_law_1375 rfl (lv_at hl 0 rfl) ?_
    refine lv_iconst (v := 2) hx hb dL_law_1376 (by decide) ?_
    refine lv_iadd hx hb dL_law_1377 ?_
    refine q_c 2 (by decide +kernel) ?_
    refine va_sld X.1 X.2.1 hX hbl hbA hw1.2.2 (q_in (by decide +kernel)) dL_law_1378 ?_
    refine q_c a2 e2 ?_
    refine lv_aload_n hx hb dL_law_1379 rfl (lv_at hl 3 rfl) ?_
    refine lv_iload_n hx hb dL_law_1380 rfl (lv_at hl 0 rfl) ?_
    refine lv_iconst (v := 3) hx hb dL_law_1381 (by decide) ?_
    refine lv_iadd hx hb dL_law_1382 ?_
    refine q_c 3 (by decide +kernel) ?_
    refine va_sld X.1 X.2.1 hX hbl hbA hw1.2.2 (q_in (by decide +kernel)) dL_law_1383 ?_
    refine q_c a3 e3 ?_
    have g_12489 : a1 ≤ ((-1) : Int32) := by
      simp only [Int32.lt_iff_toInt_lt, Int32.le_iff_toInt_le, ← Int32.toInt_inj] at c_12462 ⊢
      have k_0 : ((-1) : Int32).toInt = -1 := by decide
      omega
    refine q_callVi (rest := [.int (-2)]) (wr := []) X hK hA hw1 (fun sz => kX12_lists_489 l D cy y0 a1 a2 a3 (u_1.1 19) (u_1.1 0) (u_1.1 1) (u_1.1 2) (u_1.1 3) (u_1.1 4) (u_1.1 5) (u_1.1 6) (u_1.1 7) (u_1.1 8) (u_1.1 9) (u_1.1 10) (u_1.1 11) (u_1.1 12) (u_1.1 13) (u_1.1 14) (u_1.1 15) (u_1.1 16) (u_1.1 17) (u_1.1 18) g_12489 sz) wm_8_39 wm_8_42 wm_1_12 hd_X12_lists wm_8_40 wm_8_41 (ci := 12) (q0 := 0) rfl rfl ⟨Nat.le_of_ble_eq_true rfl, Nat.le_of_ble_eq_true rfl⟩ hl.1 rfl (Nat.le_of_ble_eq_true rfl) dL_law_1384 ⟨Nat.le_of_ble_eq_true rfl, Nat.le_of_ble_eq_true rfl⟩ [0] [] rfl rfl (by decide) rfl rfl (fun r_12490 u_12490 Hp2 lc2 w_12490 hw2 => ?_)
    clear Hp1 lc1 hw1
    obtain rfl : r_12490 = (-2) := w_12490
    replace hw2 : qW D _ _ [] _ _ := hw2
    refine lv_icmp_eq (tgt := 1461) hx hb dL_law_1387 (by decide) (fun _ => ?_) (fun c => absurd c (by decide +kernel))
    exact law_tail l X hr hlk hX hbl hw2.2.2 hl (Nat.le_of_ble_eq_true rfl) (Nat.le_of_ble_eq_true rfl)
  by_cases c_12491 : a1 = 0
  · subst c_12491
    refine lv_aload_n hx hb dL_law_1349 rfl (lv_at hl 2 rfl) ?_
    refine lv_aload_n hx hb dL_law_1350 rfl (lv_at hl 3 rfl) ?_
    refine lv_iload_n hx hb dL_law_1351 rfl (lv_at hl 0 rfl) ?_
    refine lv_iconst (v := 1) hx hb dL_law_1352 (by decide) ?_
    refine lv_iadd hx hb dL_law_1353 ?_
    refine q_c 1 (by decide +kernel) ?_
    refine va_sld X.1 X.2.1 hX hbl hbA h.2.2 (q_in (by decide +kernel)) dL_law_1354 ?_
    refine q_c 0 e1 ?_
    refine lv_aload_n hx hb dL_law_1355 rfl (lv_at hl 3 rfl) ?_
    refine lv_iload_n hx hb dL_law_1356 rfl (lv_at hl 0 rfl) ?_
    refine lv_iconst (v := 2) hx hb dL_law_1357 (by decide) ?_
    refine lv_iadd hx hb dL_law_1358 ?_
    refine q_c 2 (by decide +kernel) ?_
    refine va_sld X.1 X.2.1 hX hbl hbA h.2.2 (q_in (by decide +kernel)) dL_law_1359 ?_
    refine q_c a2 e2 ?_
    refine lv_aload_n hx hb dL_law_1360 rfl (lv_at hl 3 rfl) ?_
    refine lv_iload_n hx hb dL_law_1361 rfl (lv_at hl 0 rfl) ?_
    refine lv_iconst (v := 3) hx hb dL_law_1362 (by decide) ?_
    refine lv_iadd hx hb dL_law_1363 ?_
    refine q_c 3 (by decide +kernel) ?_
    refine va_sld X.1 X.2.1 hX hbl hbA h.2.2 (q_in (by decide +kernel)) dL_law_1364 ?_
    refine q_c a3 e3 ?_
    refine q_callVi (rest := []) (wr := [(y0, .inr (12, [.int 0, .ref (u_1.1 19), .ref (u_1.1 0), .ref (u_1.1 1), .ref (u_1.1 2), .int 0, .int 0, .int 0, .int 0, .int 0, .int 0, .int 0, .int 0, .int 0, .int (-1), .int 0, .ref (u_1.1 3), .ref (u_1.1 4), .ref (u_1.1 5), .ref (u_1.1 6), .ref (u_1.1 7), .int 0, .int 0, .ref (u_1.1 8), .ref (u_1.1 9), .ref (u_1.1 10), .int 0, .int 0, .ref (u_1.1 11), .ref (u_1.1 12), .ref (u_1.1 13), .ref (u_1.1 14), .ref (u_1.1 15), .int 0, .ref (u_1.1 16), .ref (u_1.1 17), .ref (u_1.1 18)])), ((u_1.1 19), .inl (cy 1, 3918, .inl (upd (fun _ => 0) (Int32.toNatClampNeg 1) 1)))]) X hK hA h (fun sz => kX11_lists_492 l D cy x0 (u_0.1 31) (u_0.1 37) a2 a3 (u_0.1 0) (u_0.1 1) (u_0.1 39) (u_0.1 41) (u_0.1 43) (u_0.1 14) (u_0.1 15) (u_0.1 16) (u_0.1 17) (u_0.1 20) (u_0.1 24) (u_0.1 29) (u_0.1 32) (u_0.1 33) (u_0.1 34) (u_0.1 35) (u_0.1 36) (u_0.1 38)  sz) wm_5_141 wm_5_144 wm_1_1 hd_X11_lists wm_5_142 wm_5_143 (ci := 11) (q0 := 0) rfl rfl ⟨Nat.le_of_ble_eq_true rfl, Nat.le_of_ble_eq_true rfl⟩ hl.1 rfl (Nat.le_of_ble_eq_true rfl) dL_law_1365 ⟨Nat.le_of_ble_eq_true rfl, Nat.le_of_ble_eq_true rfl⟩ [0, 32, 38] [78, 98] rfl rfl (by decide) rfl rfl (fun r_12540 u_12540 Hp3 lc3 w_12540 hw3 => ?_)
    clear h
    obtain rfl : r_12540 = (-2) := w_12540
    replace hw3 : qW D _ _ [(y0, .inr (12, [.int 0, .ref (u_1.1 19), .ref (u_1.1 0), .ref (u_1.1 1), .ref (u_1.1 2), .int 0, .int 0, .int 0, .int 0, .int 0, .int 0, .int 0, .int 0, .int 0, .int (-1), .int 0, .ref (u_1.1 3), .ref (u_1.1 4), .ref (u_1.1 5), .ref (u_1.1 6), .ref (u_1.1 7), .int 0, .int 0, .ref (u_1.1 8), .ref (u_1.1 9), .ref (u_1.1 10), .int 0, .int 0, .ref (u_1.1 11), .ref (u_1.1 12), .ref (u_1.1 13), .ref (u_1.1 14), .ref (u_1.1 15), .int 0, .ref (u_1.1 16), .ref (u_1.1 17), .ref (u_1.1 18)])), ((u_1.1 19), .inl (cy 1, 3918, .inl (upd (fun _ => 0) (Int32.toNatClampNeg 1) 1)))] _ _ := hw3
    refine lv_aload_n hx hb dL_law_1368 rfl (lv_at hl 1 rfl) ?_
    refine lv_aload_n hx hb dL_law_1369 rfl (lv_at hl 3 rfl) ?_
    refine lv_iload_n hx hb dL_law_1370 rfl (lv_at hl 0 rfl) ?_
    refine lv_iconst (v := 1) hx hb dL_law_1371 (by decide) ?_
    refine lv_iadd hx hb dL_law_1372 ?_
    refine q_c 1 (by decide +kernel) ?_
    refine va_sld X.1 X.2.1 hX hbl hbA hw3.2.2 (q_in (by decide +kernel)) dL_law_1373 ?_
    refine q_c 0 e1 ?_
    refine lv_aload_n hx hb dL_law_1374 rfl (lv_at hl 3 rfl) ?_
    refine lv_iload_n hx hb dL_law_1375 rfl (lv_at hl 0 rfl) ?_
    refine lv_iconst (v := 2) hx hb dL_law_1376 (by decide) ?_
    refine lv_iadd hx hb dL_law_1377 ?_
    refine q_c 2 (by decide +kernel) ?_
    refine va_sld X.1 X.2.1 hX hbl hbA hw3.2.2 (q_in (by decide +kernel)) dL_law_1378 ?_
    refine q_c a2 e2 ?_
    refine lv_aload_n hx hb dL_law_1379 rfl (lv_at hl 3 rfl) ?_
    refine lv_iload_n hx hb dL_law_1380 rfl (lv_at hl 0 rfl) ?_
    refine lv_iconst (v := 3) hx hb dL_law_1381 (by decide) ?_
    refine lv_iadd hx hb dL_law_1382 ?_
    refine q_c 3 (by decide +kernel) ?_
    refine va_sld X.1 X.2.1 hX hbl hbA hw3.2.2 (q_in (by decide +kernel)) dL_law_1383 ?_
    refine q_c a3 e3 ?_
    refine q_callVi (rest := [.int (-2)]) (wr := []) X hK hA hw3 (fun sz => kX12_lists_493 l D cy y0 (u_1.1 19) a2 a3 (u_1.1 0) (u_1.1 1) (u_1.1 2) (u_1.1 3) (u_1.1 4) (u_1.1 5) (u_1.1 6) (u_1.1 7) (u_1.1 8) (u_1.1 9) (u_1.1 10) (u_1.1 11) (u_1.1 12) (u_1.1 13) (u_1.1 14) (u_1.1 15) (u_1.1 16) (u_1.1 17) (u_1.1 18) (upd (fun _ => 0) (Int32.toNatClampNeg 1) 1) (q_un (by decide +kernel) rfl) sz) wm_8_39 wm_8_42 wm_1_12 hd_X12_lists wm_8_40 wm_8_41 (ci := 12) (q0 := 0) rfl rfl ⟨Nat.le_of_ble_eq_true rfl, Nat.le_of_ble_eq_true rfl⟩ hl.1 rfl (Nat.le_of_ble_eq_true rfl) dL_law_1384 ⟨Nat.le_of_ble_eq_true rfl, Nat.le_of_ble_eq_true rfl⟩ [0, 1] [] rfl rfl (by decide) rfl rfl (fun r_12547 u_12547 Hp4 lc4 w_12547 hw4 => ?_)
    clear Hp3 lc3 hw3
    obtain rfl : r_12547 = (-2) := w_12547
    replace hw4 : qW D _ _ [] _ _ := hw4
    refine lv_icmp_eq (tgt := 1461) hx hb dL_law_1387 (by decide) (fun _ => ?_) (fun c => absurd c (by decide +kernel))
    exact law_tail l X hr hlk hX hbl hw4.2.2 hl (Nat.le_of_ble_eq_true rfl) (Nat.le_of_ble_eq_true rfl)
  by_cases c_12548 : a1 = 1
  · subst c_12548
    refine lv_aload_n hx hb dL_law_1349 rfl (lv_at hl 2 rfl) ?_
    refine lv_aload_n hx hb dL_law_1350 rfl (lv_at hl 3 rfl) ?_
    refine lv_iload_n hx hb dL_law_1351 rfl (lv_at hl 0 rfl) ?_
    refine lv_iconst (v := 1) hx hb dL_law_1352 (by decide) ?_
    refine lv_iadd hx hb dL_law_1353 ?_
    refine q_c 1 (by decide +kernel) ?_
    refine va_sld X.1 X.2.1 hX hbl hbA h.2.2 (q_in (by decide +kernel)) dL_law_1354 ?_
    refine q_c 1 e1 ?_
    refine lv_aload_n hx hb dL_law_1355 rfl (lv_at hl 3 rfl) ?_
    refine lv_iload_n hx hb dL_law_1356 rfl (lv_at hl 0 rfl) ?_
    refine lv_iconst (v := 2) hx hb dL_law_1357 (by decide) ?_
    refine lv_iadd hx hb dL_law_1358 ?_
    refine q_c 2 (by decide +kernel) ?_
    refine va_sld X.1 X.2.1 hX hbl hbA h.2.2 (q_in (by decide +kernel)) dL_law_1359 ?_
    refine q_c a2 e2 ?_
    refine lv_aload_n hx hb dL_law_1360 rfl (lv_at hl 3 rfl) ?_
    refine lv_iload_n hx hb dL_law_1361 rfl (lv_at hl 0 rfl) ?_
    refine lv_iconst (v := 3) hx hb dL_law_1362 (by decide) ?_
    refine lv_iadd hx hb dL_law_1363 ?_
    refine q_c 3 (by decide +kernel) ?_
    refine va_sld X.1 X.2.1 hX hbl hbA h.2.2 (q_in (by decide +kernel)) dL_law_1364 ?_
    refine q_c a3 e3 ?_
    refine q_callVi (rest := []) (wr := [(y0, .inr (12, [.int 0, .ref (u_1.1 19), .ref (u_1.1 0), .ref (u_1.1 1), .ref (u_1.1 2), .int 0, .int 0, .int 0, .int 0, .int 0, .int 0, .int 0, .int 0, .int 0, .int (-1), .int 0, .ref (u_1.1 3), .ref (u_1.1 4), .ref (u_1.1 5), .ref (u_1.1 6), .ref (u_1.1 7), .int 0, .int 0, .ref (u_1.1 8), .ref (u_1.1 9), .ref (u_1.1 10), .int 0, .int 0, .ref (u_1.1 11), .ref (u_1.1 12), .ref (u_1.1 13), .ref (u_1.1 14), .ref (u_1.1 15), .int 0, .ref (u_1.1 16), .ref (u_1.1 17), .ref (u_1.1 18)])), ((u_1.1 19), .inl (cy 1, 3918, .inl (upd (fun _ => 0) (Int32.toNatClampNeg 1) 1)))]) X hK hA h (fun sz => kX11_lists_494 l D cy x0 (u_0.1 31) (u_0.1 37) a2 a3 (u_0.1 0) (u_0.1 1) (u_0.1 39) (u_0.1 41) (u_0.1 43) (u_0.1 14) (u_0.1 15) (u_0.1 16) (u_0.1 17) (u_0.1 20) (u_0.1 24) (u_0.1 29) (u_0.1 32) (u_0.1 33) (u_0.1 34) (u_0.1 35) (u_0.1 36) (u_0.1 38)  sz) wm_5_141 wm_5_144 wm_1_1 hd_X11_lists wm_5_142 wm_5_143 (ci := 11) (q0 := 0) rfl rfl ⟨Nat.le_of_ble_eq_true rfl, Nat.le_of_ble_eq_true rfl⟩ hl.1 rfl (Nat.le_of_ble_eq_true rfl) dL_law_1365 ⟨Nat.le_of_ble_eq_true rfl, Nat.le_of_ble_eq_true rfl⟩ [0, 32, 38] [78, 98] rfl rfl (by decide) rfl rfl (fun r_12587 u_12587 Hp5 lc5 w_12587 hw5 => ?_)
    clear h
    obtain rfl : r_12587 = (-2) := w_12587
    replace hw5 : qW D _ _ [(y0, .inr (12, [.int 0, .ref (u_1.1 19), .ref (u_1.1 0), .ref (u_1.1 1), .ref (u_1.1 2), .int 0, .int 0, .int 0, .int 0, .int 0, .int 0, .int 0, .int 0, .int 0, .int (-1), .int 0, .ref (u_1.1 3), .ref (u_1.1 4), .ref (u_1.1 5), .ref (u_1.1 6), .ref (u_1.1 7), .int 0, .int 0, .ref (u_1.1 8), .ref (u_1.1 9), .ref (u_1.1 10), .int 0, .int 0, .ref (u_1.1 11), .ref (u_1.1 12), .ref (u_1.1 13), .ref (u_1.1 14), .ref (u_1.1 15), .int 0, .ref (u_1.1 16), .ref (u_1.1 17), .ref (u_1.1 18)])), ((u_1.1 19), .inl (cy 1, 3918, .inl (upd (fun _ => 0) (Int32.toNatClampNeg 1) 1)))] _ _ := hw5
    refine lv_aload_n hx hb dL_law_1368 rfl (lv_at hl 1 rfl) ?_
    refine lv_aload_n hx hb dL_law_1369 rfl (lv_at hl 3 rfl) ?_
    refine lv_iload_n hx hb dL_law_1370 rfl (lv_at hl 0 rfl) ?_
    refine lv_iconst (v := 1) hx hb dL_law_1371 (by decide) ?_
    refine lv_iadd hx hb dL_law_1372 ?_
    refine q_c 1 (by decide +kernel) ?_
    refine va_sld X.1 X.2.1 hX hbl hbA hw5.2.2 (q_in (by decide +kernel)) dL_law_1373 ?_
    refine q_c 1 e1 ?_
    refine lv_aload_n hx hb dL_law_1374 rfl (lv_at hl 3 rfl) ?_
    refine lv_iload_n hx hb dL_law_1375 rfl (lv_at hl 0 rfl) ?_
    refine lv_iconst (v := 2) hx hb dL_law_1376 (by decide) ?_
    refine lv_iadd hx hb dL_law_1377 ?_
    refine q_c 2 (by decide +kernel) ?_
    refine va_sld X.1 X.2.1 hX hbl hbA hw5.2.2 (q_in (by decide +kernel)) dL_law_1378 ?_
    refine q_c a2 e2 ?_
    refine lv_aload_n hx hb dL_law_1379 rfl (lv_at hl 3 rfl) ?_
    refine lv_iload_n hx hb dL_law_1380 rfl (lv_at hl 0 rfl) ?_
    refine lv_iconst (v := 3) hx hb dL_law_1381 (by decide) ?_
    refine lv_iadd hx hb dL_law_1382 ?_
    refine q_c 3 (by decide +kernel) ?_
    refine va_sld X.1 X.2.1 hX hbl hbA hw5.2.2 (q_in (by decide +kernel)) dL_law_1383 ?_
    refine q_c a3 e3 ?_
    refine q_callVi (rest := [.int (-2)]) (wr := []) X hK hA hw5 (fun sz => kX12_lists_495 l D cy y0 (u_1.1 19) a2 a3 (u_1.1 0) (u_1.1 1) (u_1.1 2) (u_1.1 3) (u_1.1 4) (u_1.1 5) (u_1.1 6) (u_1.1 7) (u_1.1 8) (u_1.1 9) (u_1.1 10) (u_1.1 11) (u_1.1 12) (u_1.1 13) (u_1.1 14) (u_1.1 15) (u_1.1 16) (u_1.1 17) (u_1.1 18) (upd (fun _ => 0) (Int32.toNatClampNeg 1) 1) (q_un (by decide +kernel) rfl) sz) wm_8_39 wm_8_42 wm_1_12 hd_X12_lists wm_8_40 wm_8_41 (ci := 12) (q0 := 0) rfl rfl ⟨Nat.le_of_ble_eq_true rfl, Nat.le_of_ble_eq_true rfl⟩ hl.1 rfl (Nat.le_of_ble_eq_true rfl) dL_law_1384 ⟨Nat.le_of_ble_eq_true rfl, Nat.le_of_ble_eq_true rfl⟩ [0, 1] [] rfl rfl (by decide) rfl rfl (fun r_12594 u_12594 Hp6 lc6 w_12594 hw6 => ?_)
    clear Hp5 lc5 hw5
    obtain rfl : r_12594 = (-2) := w_12594
    replace hw6 : qW D _ _ [] _ _ := hw6
    refine lv_icmp_eq (tgt := 1461) hx hb dL_law_1387 (by decide) (fun _ => ?_) (fun c => absurd c (by decide +kernel))
    exact law_tail l X hr hlk hX hbl hw6.2.2 hl (Nat.le_of_ble_eq_true rfl) (Nat.le_of_ble_eq_true rfl)
  by_cases c_12595 : a1 = 2
  · subst c_12595
    refine lv_aload_n hx hb dL_law_1349 rfl (lv_at hl 2 rfl) ?_
    refine lv_aload_n hx hb dL_law_1350 rfl (lv_at hl 3 rfl) ?_
    refine lv_iload_n hx hb dL_law_1351 rfl (lv_at hl 0 rfl) ?_
    refine lv_iconst (v := 1) hx hb dL_law_1352 (by decide) ?_
    refine lv_iadd hx hb dL_law_1353 ?_
    refine q_c 1 (by decide +kernel) ?_
    refine va_sld X.1 X.2.1 hX hbl hbA h.2.2 (q_in (by decide +kernel)) dL_law_1354 ?_
    refine q_c 2 e1 ?_
    refine lv_aload_n hx hb dL_law_1355 rfl (lv_at hl 3 rfl) ?_
    refine lv_iload_n hx hb dL_law_1356 rfl (lv_at hl 0 rfl) ?_
    refine lv_iconst (v := 2) hx hb dL_law_1357 (by decide) ?_
    refine lv_iadd hx hb dL_law_1358 ?_
    refine q_c 2 (by decide +kernel) ?_
    refine va_sld X.1 X.2.1 hX hbl hbA h.2.2 (q_in (by decide +kernel)) dL_law_1359 ?_
    refine q_c a2 e2 ?_
    refine lv_aload_n hx hb dL_law_1360 rfl (lv_at hl 3 rfl) ?_
    refine lv_iload_n hx hb dL_law_1361 rfl (lv_at hl 0 rfl) ?_
    refine lv_iconst (v := 3) hx hb dL_law_1362 (by decide) ?_
    refine lv_iadd hx hb dL_law_1363 ?_
    refine q_c 3 (by decide +kernel) ?_
    refine va_sld X.1 X.2.1 hX hbl hbA h.2.2 (q_in (by decide +kernel)) dL_law_1364 ?_
    refine q_c a3 e3 ?_
    refine q_callVi (rest := []) (wr := [(y0, .inr (12, [.int 0, .ref (u_1.1 19), .ref (u_1.1 0), .ref (u_1.1 1), .ref (u_1.1 2), .int 0, .int 0, .int 0, .int 0, .int 0, .int 0, .int 0, .int 0, .int 0, .int (-1), .int 0, .ref (u_1.1 3), .ref (u_1.1 4), .ref (u_1.1 5), .ref (u_1.1 6), .ref (u_1.1 7), .int 0, .int 0, .ref (u_1.1 8), .ref (u_1.1 9), .ref (u_1.1 10), .int 0, .int 0, .ref (u_1.1 11), .ref (u_1.1 12), .ref (u_1.1 13), .ref (u_1.1 14), .ref (u_1.1 15), .int 0, .ref (u_1.1 16), .ref (u_1.1 17), .ref (u_1.1 18)])), ((u_1.1 19), .inl (cy 1, 3918, .inl (upd (fun _ => 0) (Int32.toNatClampNeg 1) 1)))]) X hK hA h (fun sz => kX11_lists_496 l D cy x0 (u_0.1 31) (u_0.1 37) a2 a3 (u_0.1 0) (u_0.1 1) (u_0.1 39) (u_0.1 41) (u_0.1 43) (u_0.1 14) (u_0.1 15) (u_0.1 16) (u_0.1 17) (u_0.1 20) (u_0.1 24) (u_0.1 29) (u_0.1 32) (u_0.1 33) (u_0.1 34) (u_0.1 35) (u_0.1 36) (u_0.1 38)  sz) wm_5_141 wm_5_144 wm_1_1 hd_X11_lists wm_5_142 wm_5_143 (ci := 11) (q0 := 0) rfl rfl ⟨Nat.le_of_ble_eq_true rfl, Nat.le_of_ble_eq_true rfl⟩ hl.1 rfl (Nat.le_of_ble_eq_true rfl) dL_law_1365 ⟨Nat.le_of_ble_eq_true rfl, Nat.le_of_ble_eq_true rfl⟩ [0, 32, 38] [78, 98] rfl rfl (by decide) rfl rfl (fun r_12634 u_12634 Hp7 lc7 w_12634 hw7 => ?_)
    clear h
    obtain rfl : r_12634 = (-2) := w_12634
    replace hw7 : qW D _ _ [(y0, .inr (12, [.int 0, .ref (u_1.1 19), .ref (u_1.1 0), .ref (u_1.1 1), .ref (u_1.1 2), .int 0, .int 0, .int 0, .int 0, .int 0, .int 0, .int 0, .int 0, .int 0, .int (-1), .int 0, .ref (u_1.1 3), .ref (u_1.1 4), .ref (u_1.1 5), .ref (u_1.1 6), .ref (u_1.1 7), .int 0, .int 0, .ref (u_1.1 8), .ref (u_1.1 9), .ref (u_1.1 10), .int 0, .int 0, .ref (u_1.1 11), .ref (u_1.1 12), .ref (u_1.1 13), .ref (u_1.1 14), .ref (u_1.1 15), .int 0, .ref (u_1.1 16), .ref (u_1.1 17), .ref (u_1.1 18)])), ((u_1.1 19), .inl (cy 1, 3918, .inl (upd (fun _ => 0) (Int32.toNatClampNeg 1) 1)))] _ _ := hw7
    refine lv_aload_n hx hb dL_law_1368 rfl (lv_at hl 1 rfl) ?_
    refine lv_aload_n hx hb dL_law_1369 rfl (lv_at hl 3 rfl) ?_
    refine lv_iload_n hx hb dL_law_1370 rfl (lv_at hl 0 rfl) ?_
    refine lv_iconst (v := 1) hx hb dL_law_1371 (by decide) ?_
    refine lv_iadd hx hb dL_law_1372 ?_
    refine q_c 1 (by decide +kernel) ?_
    refine va_sld X.1 X.2.1 hX hbl hbA hw7.2.2 (q_in (by decide +kernel)) dL_law_1373 ?_
    refine q_c 2 e1 ?_
    refine lv_aload_n hx hb dL_law_1374 rfl (lv_at hl 3 rfl) ?_
    refine lv_iload_n hx hb dL_law_1375 rfl (lv_at hl 0 rfl) ?_
    refine lv_iconst (v := 2) hx hb dL_law_1376 (by decide) ?_
    refine lv_iadd hx hb dL_law_1377 ?_
    refine q_c 2 (by decide +kernel) ?_
    refine va_sld X.1 X.2.1 hX hbl hbA hw7.2.2 (q_in (by decide +kernel)) dL_law_1378 ?_
    refine q_c a2 e2 ?_
    refine lv_aload_n hx hb dL_law_1379 rfl (lv_at hl 3 rfl) ?_
    refine lv_iload_n hx hb dL_law_1380 rfl (lv_at hl 0 rfl) ?_
    refine lv_iconst (v := 3) hx hb dL_law_1381 (by decide) ?_
    refine lv_iadd hx hb dL_law_1382 ?_
    refine q_c 3 (by decide +kernel) ?_
    refine va_sld X.1 X.2.1 hX hbl hbA hw7.2.2 (q_in (by decide +kernel)) dL_law_1383 ?_
    refine q_c a3 e3 ?_
    refine q_callVi (rest := [.int (-2)]) (wr := []) X hK hA hw7 (fun sz => kX12_lists_497 l D cy y0 (u_1.1 19) a2 a3 (u_1.1 0) (u_1.1 1) (u_1.1 2) (u_1.1 3) (u_1.1 4) (u_1.1 5) (u_1.1 6) (u_1.1 7) (u_1.1 8) (u_1.1 9) (u_1.1 10) (u_1.1 11) (u_1.1 12) (u_1.1 13) (u_1.1 14) (u_1.1 15) (u_1.1 16) (u_1.1 17) (u_1.1 18) (upd (fun _ => 0) (Int32.toNatClampNeg 1) 1) (q_un (by decide +kernel) rfl) sz) wm_8_39 wm_8_42 wm_1_12 hd_X12_lists wm_8_40 wm_8_41 (ci := 12) (q0 := 0) rfl rfl ⟨Nat.le_of_ble_eq_true rfl, Nat.le_of_ble_eq_true rfl⟩ hl.1 rfl (Nat.le_of_ble_eq_true rfl) dL_law_1384 ⟨Nat.le_of_ble_eq_true rfl, Nat.le_of_ble_eq_true rfl⟩ [0, 1] [] rfl rfl (by decide) rfl rfl (fun r_12641 u_12641 Hp8 lc8 w_12641 hw8 => ?_)
    clear Hp7 lc7 hw7
    obtain rfl : r_12641 = (-2) := w_12641
    replace hw8 : qW D _ _ [] _ _ := hw8
    refine lv_icmp_eq (tgt := 1461) hx hb dL_law_1387 (by decide) (fun _ => ?_) (fun c => absurd c (by decide +kernel))
    exact law_tail l X hr hlk hX hbl hw8.2.2 hl (Nat.le_of_ble_eq_true rfl) (Nat.le_of_ble_eq_true rfl)
  by_cases c_12642 : a1 = 3
  · subst c_12642
    refine lv_aload_n hx hb dL_law_1349 rfl (lv_at hl 2 rfl) ?_
    refine lv_aload_n hx hb dL_law_1350 rfl (lv_at hl 3 rfl) ?_
    refine lv_iload_n hx hb dL_law_1351 rfl (lv_at hl 0 rfl) ?_
    refine lv_iconst (v := 1) hx hb dL_law_1352 (by decide) ?_
    refine lv_iadd hx hb dL_law_1353 ?_
    refine q_c 1 (by decide +kernel) ?_
    refine va_sld X.1 X.2.1 hX hbl hbA h.2.2 (q_in (by decide +kernel)) dL_law_1354 ?_
    refine q_c 3 e1 ?_
    refine lv_aload_n hx hb dL_law_1355 rfl (lv_at hl 3 rfl) ?_
    refine lv_iload_n hx hb dL_law_1356 rfl (lv_at hl 0 rfl) ?_
    refine lv_iconst (v := 2) hx hb dL_law_1357 (by decide) ?_
    refine lv_iadd hx hb dL_law_1358 ?_
    refine q_c 2 (by decide +kernel) ?_
    refine va_sld X.1 X.2.1 hX hbl hbA h.2.2 (q_in (by decide +kernel)) dL_law_1359 ?_
    refine q_c a2 e2 ?_
    refine lv_aload_n hx hb dL_law_1360 rfl (lv_at hl 3 rfl) ?_
    refine lv_iload_n hx hb dL_law_1361 rfl (lv_at hl 0 rfl) ?_
    refine lv_iconst (v := 3) hx hb dL_law_1362 (by decide) ?_
    refine lv_iadd hx hb dL_law_1363 ?_
    refine q_c 3 (by decide +kernel) ?_
    refine va_sld X.1 X.2.1 hX hbl hbA h.2.2 (q_in (by decide +kernel)) dL_law_1364 ?_
    refine q_c a3 e3 ?_
    refine q_callVi (rest := []) (wr := [(y0, .inr (12, [.int 0, .ref (u_1.1 19), .ref (u_1.1 0), .ref (u_1.1 1), .ref (u_1.1 2), .int 0, .int 0, .int 0, .int 0, .int 0, .int 0, .int 0, .int 0, .int 0, .int (-1), .int 0, .ref (u_1.1 3), .ref (u_1.1 4), .ref (u_1.1 5), .ref (u_1.1 6), .ref (u_1.1 7), .int 0, .int 0, .ref (u_1.1 8), .ref (u_1.1 9), .ref (u_1.1 10), .int 0, .int 0, .ref (u_1.1 11), .ref (u_1.1 12), .ref (u_1.1 13), .ref (u_1.1 14), .ref (u_1.1 15), .int 0, .ref (u_1.1 16), .ref (u_1.1 17), .ref (u_1.1 18)])), ((u_1.1 19), .inl (cy 1, 3918, .inl (upd (fun _ => 0) (Int32.toNatClampNeg 1) 1)))]) X hK hA h (fun sz => kX11_lists_498 l D cy x0 (u_0.1 31) (u_0.1 37) a2 a3 (u_0.1 0) (u_0.1 1) (u_0.1 39) (u_0.1 41) (u_0.1 43) (u_0.1 14) (u_0.1 15) (u_0.1 16) (u_0.1 17) (u_0.1 20) (u_0.1 24) (u_0.1 29) (u_0.1 32) (u_0.1 33) (u_0.1 34) (u_0.1 35) (u_0.1 36) (u_0.1 38)  sz) wm_5_141 wm_5_144 wm_1_1 hd_X11_lists wm_5_142 wm_5_143 (ci := 11) (q0 := 0) rfl rfl ⟨Nat.le_of_ble_eq_true rfl, Nat.le_of_ble_eq_true rfl⟩ hl.1 rfl (Nat.le_of_ble_eq_true rfl) dL_law_1365 ⟨Nat.le_of_ble_eq_true rfl, Nat.le_of_ble_eq_true rfl⟩ [0, 32, 38] [78, 98] rfl rfl (by decide) rfl rfl (fun r_12681 u_12681 Hp9 lc9 w_12681 hw9 => ?_)
    clear h
    obtain rfl : r_12681 = (-2) := w_12681
    replace hw9 : qW D _ _ [(y0, .inr (12, [.int 0, .ref (u_1.1 19), .ref (u_1.1 0), .ref (u_1.1 1), .ref (u_1.1 2), .int 0, .int 0, .int 0, .int 0, .int 0, .int 0, .int 0, .int 0, .int 0, .int (-1), .int 0, .ref (u_1.1 3), .ref (u_1.1 4), .ref (u_1.1 5), .ref (u_1.1 6), .ref (u_1.1 7), .int 0, .int 0, .ref (u_1.1 8), .ref (u_1.1 9), .ref (u_1.1 10), .int 0, .int 0, .ref (u_1.1 11), .ref (u_1.1 12), .ref (u_1.1 13), .ref (u_1.1 14), .ref (u_1.1 15), .int 0, .ref (u_1.1 16), .ref (u_1.1 17), .ref (u_1.1 18)])), ((u_1.1 19), .inl (cy 1, 3918, .inl (upd (fun _ => 0) (Int32.toNatClampNeg 1) 1)))] _ _ := hw9
    refine lv_aload_n hx hb dL_law_1368 rfl (lv_at hl 1 rfl) ?_
    refine lv_aload_n hx hb dL_law_1369 rfl (lv_at hl 3 rfl) ?_
    refine lv_iload_n hx hb dL_law_1370 rfl (lv_at hl 0 rfl) ?_
    refine lv_iconst (v := 1) hx hb dL_law_1371 (by decide) ?_
    refine lv_iadd hx hb dL_law_1372 ?_
    refine q_c 1 (by decide +kernel) ?_
    refine va_sld X.1 X.2.1 hX hbl hbA hw9.2.2 (q_in (by decide +kernel)) dL_law_1373 ?_
    refine q_c 3 e1 ?_
    refine lv_aload_n hx hb dL_law_1374 rfl (lv_at hl 3 rfl) ?_
    refine lv_iload_n hx hb dL_law_1375 rfl (lv_at hl 0 rfl) ?_
    refine lv_iconst (v := 2) hx hb dL_law_1376 (by decide) ?_
    refine lv_iadd hx hb dL_law_1377 ?_
    refine q_c 2 (by decide +kernel) ?_
    refine va_sld X.1 X.2.1 hX hbl hbA hw9.2.2 (q_in (by decide +kernel)) dL_law_1378 ?_
    refine q_c a2 e2 ?_
    refine lv_aload_n hx hb dL_law_1379 rfl (lv_at hl 3 rfl) ?_
    refine lv_iload_n hx hb dL_law_1380 rfl (lv_at hl 0 rfl) ?_
    refine lv_iconst (v := 3) hx hb dL_law_1381 (by decide) ?_
    refine lv_iadd hx hb dL_law_1382 ?_
    refine q_c 3 (by decide +kernel) ?_
    refine va_sld X.1 X.2.1 hX hbl hbA hw9.2.2 (q_in (by decide +kernel)) dL_law_1383 ?_
    refine q_c a3 e3 ?_
    refine q_callVi (rest := [.int (-2)]) (wr := []) X hK hA hw9 (fun sz => kX12_lists_499 l D cy y0 (u_1.1 19) a2 a3 (u_1.1 0) (u_1.1 1) (u_1.1 2) (u_1.1 3) (u_1.1 4) (u_1.1 5) (u_1.1 6) (u_1.1 7) (u_1.1 8) (u_1.1 9) (u_1.1 10) (u_1.1 11) (u_1.1 12) (u_1.1 13) (u_1.1 14) (u_1.1 15) (u_1.1 16) (u_1.1 17) (u_1.1 18) (upd (fun _ => 0) (Int32.toNatClampNeg 1) 1) (q_un (by decide +kernel) rfl) sz) wm_8_39 wm_8_42 wm_1_12 hd_X12_lists wm_8_40 wm_8_41 (ci := 12) (q0 := 0) rfl rfl ⟨Nat.le_of_ble_eq_true rfl, Nat.le_of_ble_eq_true rfl⟩ hl.1 rfl (Nat.le_of_ble_eq_true rfl) dL_law_1384 ⟨Nat.le_of_ble_eq_true rfl, Nat.le_of_ble_eq_true rfl⟩ [0, 1] [] rfl rfl (by decide) rfl rfl (fun r_12688 u_12688 Hp10 lc10 w_12688 hw10 => ?_)
    clear Hp9 lc9 hw9
    obtain rfl : r_12688 = (-2) := w_12688
    replace hw10 : qW D _ _ [] _ _ := hw10
    refine lv_icmp_eq (tgt := 1461) hx hb dL_law_1387 (by decide) (fun _ => ?_) (fun c => absurd c (by decide +kernel))
    exact law_tail l X hr hlk hX hbl hw10.2.2 hl (Nat.le_of_ble_eq_true rfl) (Nat.le_of_ble_eq_true rfl)
  refine lv_aload_n hx hb dL_law_1349 rfl (lv_at hl 2 rfl) ?_
  refine lv_aload_n hx hb dL_law_1350 rfl (lv_at hl 3 rfl) ?_
  refine lv_iload_n hx hb dL_law_1351 rfl (lv_at hl 0 rfl) ?_
  refine lv_iconst (v := 1) hx hb dL_law_1352 (by decide) ?_
  refine lv_iadd hx hb dL_law_1353 ?_
  refine q_c 1 (by decide +kernel) ?_
  refine va_sld X.1 X.2.1 hX hbl hbA h.2.2 (q_in (by decide +kernel)) dL_law_1354 ?_
  refine q_c a1 e1 ?_
  refine lv_aload_n hx hb dL_law_1355 rfl (lv_at hl 3 rfl) ?_
  refine lv_iload_n hx hb dL_law_1356 rfl (lv_at hl 0 rfl) ?_
  refine lv_iconst (v := 2) hx hb dL_law_1357 (by decide) ?_
  refine lv_iadd hx hb dL_law_1358 ?_
  refine q_c 2 (by decide +kernel) ?_
  refine va_sld X.1 X.2.1 hX hbl hbA h.2.2 (q_in (by decide +kernel)) dL_law_1359 ?_
  refine q_c a2 e2 ?_
  refine lv_aload_n hx hb dL_law_1360 rfl (lv_at hl 3 rfl) ?_
  refine lv_iload_n hx hb dL_law_1361 rfl (lv_at hl 0 rfl) ?_
  refine lv_iconst (v := 3) hx hb dL_law_1362 (by decide) ?_
  refine lv_iadd hx hb dL_law_1363 ?_
  refine q_c 3 (by decide +kernel) ?_
  refine va_sld X.1 X.2.1 hX hbl hbA h.2.2 (q_in (by decide +kernel)) dL_law_1364 ?_
  refine q_c a3 e3 ?_
  have g_12718 : (4 : Int32) ≤ a1 := by
    simp only [Int32.lt_iff_toInt_lt, Int32.le_iff_toInt_le, ← Int32.toInt_inj] at c_12462 c_12491 c_12548 c_12595 c_12642 ⊢
    have k_0 : ((-1) : Int32).toInt = -1 := by decide
    have k_1 : (0 : Int32).toInt = 0 := by decide
    have k_2 : (1 : Int32).toInt = 1 := by decide
    have k_3 : (2 : Int32).toInt = 2 := by decide
    have k_4 : (3 : Int32).toInt = 3 := by decide
    have k_g : (4 : Int32).toInt = 4 := by decide
    omega
  refine q_callVi (rest := []) (wr := [(y0, .inr (12, [.int 0, .ref (u_1.1 19), .ref (u_1.1 0), .ref (u_1.1 1), .ref (u_1.1 2), .int 0, .int 0, .int 0, .int 0, .int 0, .int 0, .int 0, .int 0, .int 0, .int (-1), .int 0, .ref (u_1.1 3), .ref (u_1.1 4), .ref (u_1.1 5), .ref (u_1.1 6), .ref (u_1.1 7), .int 0, .int 0, .ref (u_1.1 8), .ref (u_1.1 9), .ref (u_1.1 10), .int 0, .int 0, .ref (u_1.1 11), .ref (u_1.1 12), .ref (u_1.1 13), .ref (u_1.1 14), .ref (u_1.1 15), .int 0, .ref (u_1.1 16), .ref (u_1.1 17), .ref (u_1.1 18)]))]) X hK hA h (fun sz => kX11_lists_500 l D cy x0 a1 a2 a3 (u_0.1 0) (u_0.1 1) (u_0.1 37) (u_0.1 39) (u_0.1 41) (u_0.1 43) (u_0.1 14) (u_0.1 15) (u_0.1 16) (u_0.1 17) (u_0.1 20) (u_0.1 24) (u_0.1 29) g_12718 sz) wm_5_141 wm_5_144 wm_1_1 hd_X11_lists wm_5_142 wm_5_143 (ci := 11) (q0 := 0) rfl rfl ⟨Nat.le_of_ble_eq_true rfl, Nat.le_of_ble_eq_true rfl⟩ hl.1 rfl (Nat.le_of_ble_eq_true rfl) dL_law_1365 ⟨Nat.le_of_ble_eq_true rfl, Nat.le_of_ble_eq_true rfl⟩ [0] [78] rfl rfl (by decide) rfl rfl (fun r_12719 u_12719 Hp11 lc11 w_12719 hw11 => ?_)
  clear h
  obtain rfl : r_12719 = (-2) := w_12719
  replace hw11 : qW D _ _ [(y0, .inr (12, [.int 0, .ref (u_1.1 19), .ref (u_1.1 0), .ref (u_1.1 1), .ref (u_1.1 2), .int 0, .int 0, .int 0, .int 0, .int 0, .int 0, .int 0, .int 0, .int 0, .int (-1), .int 0, .ref (u_1.1 3), .ref (u_1.1 4), .ref (u_1.1 5), .ref (u_1.1 6), .ref (u_1.1 7), .int 0, .int 0, .ref (u_1.1 8), .ref (u_1.1 9), .ref (u_1.1 10), .int 0, .int 0, .ref (u_1.1 11), .ref (u_1.1 12), .ref (u_1.1 13), .ref (u_1.1 14), .ref (u_1.1 15), .int 0, .ref (u_1.1 16), .ref (u_1.1 17), .ref (u_1.1 18)]))] _ _ := hw11
  refine lv_aload_n hx hb dL_law_1368 rfl (lv_at hl 1 rfl) ?_
  refine lv_aload_n hx hb dL_law_1369 rfl (lv_at hl 3 rfl) ?_
  refine lv_iload_n hx hb dL_law_1370 rfl (lv_at hl 0 rfl) ?_
  refine lv_iconst (v := 1) hx hb dL_law_1371 (by decide) ?_
  refine lv_iadd hx hb dL_law_1372 ?_
  refine q_c 1 (by decide +kernel) ?_
  refine va_sld X.1 X.2.1 hX hbl hbA hw11.2.2 (q_in (by decide +kernel)) dL_law_1373 ?_
  refine q_c a1 e1 ?_
  refine lv_aload_n hx hb dL_law_1374 rfl (lv_at hl 3 rfl) ?_
  refine lv_iload_n hx hb dL_law_1375 rfl (lv_at hl 0 rfl) ?_
  refine lv_iconst (v := 2) hx hb dL_law_1376 (by decide) ?_
  refine lv_iadd hx hb dL_law_1377 ?_
  refine q_c 2 (by decide +kernel) ?_
  refine va_sld X.1 X.2.1 hX hbl hbA hw11.2.2 (q_in (by decide +kernel)) dL_law_1378 ?_
  refine q_c a2 e2 ?_
  refine lv_aload_n hx hb dL_law_1379 rfl (lv_at hl 3 rfl) ?_
  refine lv_iload_n hx hb dL_law_1380 rfl (lv_at hl 0 rfl) ?_
  refine lv_iconst (v := 3) hx hb dL_law_1381 (by decide) ?_
  refine lv_iadd hx hb dL_law_1382 ?_
  refine q_c 3 (by decide +kernel) ?_
  refine va_sld X.1 X.2.1 hX hbl hbA hw11.2.2 (q_in (by decide +kernel)) dL_law_1383 ?_
  refine q_c a3 e3 ?_
  have g_12724 : (4 : Int32) ≤ a1 := by
    simp only [Int32.lt_iff_toInt_lt, Int32.le_iff_toInt_le, ← Int32.toInt_inj] at c_12462 c_12491 c_12548 c_12595 c_12642 ⊢
    have k_0 : ((-1) : Int32).toInt = -1 := by decide
    have k_1 : (0 : Int32).toInt = 0 := by decide
    have k_2 : (1 : Int32).toInt = 1 := by decide
    have k_3 : (2 : Int32).toInt = 2 := by decide
    have k_4 : (3 : Int32).toInt = 3 := by decide
    have k_g : (4 : Int32).toInt = 4 := by decide
    omega
  refine q_callVi (rest := [.int (-2)]) (wr := []) X hK hA hw11 (fun sz => kX12_lists_501 l D cy y0 a1 a2 a3 (u_1.1 19) (u_1.1 0) (u_1.1 1) (u_1.1 2) (u_1.1 3) (u_1.1 4) (u_1.1 5) (u_1.1 6) (u_1.1 7) (u_1.1 8) (u_1.1 9) (u_1.1 10) (u_1.1 11) (u_1.1 12) (u_1.1 13) (u_1.1 14) (u_1.1 15) (u_1.1 16) (u_1.1 17) (u_1.1 18) g_12724 sz) wm_8_39 wm_8_42 wm_1_12 hd_X12_lists wm_8_40 wm_8_41 (ci := 12) (q0 := 0) rfl rfl ⟨Nat.le_of_ble_eq_true rfl, Nat.le_of_ble_eq_true rfl⟩ hl.1 rfl (Nat.le_of_ble_eq_true rfl) dL_law_1384 ⟨Nat.le_of_ble_eq_true rfl, Nat.le_of_ble_eq_true rfl⟩ [0] [] rfl rfl (by decide) rfl rfl (fun r_12725 u_12725 Hp12 lc12 w_12725 hw12 => ?_)
  clear Hp11 lc11 hw11
  obtain rfl : r_12725 = (-2) := w_12725
  replace hw12 : qW D _ _ [] _ _ := hw12
  refine lv_icmp_eq (tgt := 1461) hx hb dL_law_1387 (by decide) (fun _ => ?_) (fun c => absurd c (by decide +kernel))
  exact law_tail l X hr hlk hX hbl hw12.2.2 hl (Nat.le_of_ble_eq_true rfl) (Nat.le_of_ble_eq_true rfl)
set_option maxHeartbeats 4000000 in
set_option maxRecDepth 100000 in
theorem lc_image (l : Launch) {p : Program} {e : Env} {s : State} {m : MethodId} {below : List Frame} {meth : Method} {c : Code} {b : Nat} {xs : Nat → Int32} {D : va_G} {cy : Nat → ClassId} {H : Heap} {locs : List Loc} {ls : Array Slot} {x0 y0 : Nat} {u_0 u_1 : SS} (X : qX p s m #[Value.ref b] c cL_law 4 RL) (hr : meth.sig.returnType = ret) (hlk : meth.locks = false) (hX : va_X b 6 xs s s.heap) (hbl : b < s.heap.size) (hK : qK D cy s) (a1 a2 a3 a4 a5 : Int32) (e1 : xs (Int32.toNatClampNeg 1) = a1) (e2 : xs (Int32.toNatClampNeg 2) = a2) (e3 : xs (Int32.toNatClampNeg 3) = a3) (e4 : xs (Int32.toNatClampNeg 4) = a4) (e5 : xs (Int32.toNatClampNeg 5) = a5) (h : qW D (fun q => s.heap.size ≤ q) s.heap (wLaw cy x0 y0 u_0 u_1) H locs) (hl : lv_has ls 4 [(3, .int 0), (2, .ref y0), (1, .ref x0), (0, .ref b)]) : W p l e room_1 s m #[Value.ref b] below meth c H locs 99 25544 (lw_Z below #[Value.ref b] s) (F0 m 1392 ls []) := by
  obtain ⟨hx, hb, hml, hown, ht⟩ := id X
  have hA : ∀ q : Nat, s.heap.size ≤ q → (fun q : Nat => s.heap.size ≤ q) q := fun _ h => h
  have hbA : ¬ (fun q : Nat => s.heap.size ≤ q) b := Nat.not_le.mpr hbl
  by_cases c_12728 : a1 ≤ (-1)
  · skip
    refine lv_aload_n hx hb dL_law_1392 rfl (lv_at hl 2 rfl) ?_
    refine lv_aload_n hx hb dL_law_1393 rfl (lv_at hl 3 rfl) ?_
    refine lv_iload_n hx hb dL_law_1394 rfl (lv_at hl 0 rfl) ?_
    refine lv_iconst (v := 1) hx hb dL_law_1395 (by decide) ?_
    refine lv_iadd hx hb dL_law_1396 ?_
    refine q_c 1 (by decide +kernel) ?_
    refine va_sld X.1 X.2.1 hX hbl hbA h.2.2 (q_in (by decide +kernel)) dL_law_1397 ?_
    refine q_c a1 e1 ?_
    have g_12742 : a1 ≤ ((-1) : Int32) := by
      simp only [Int32.lt_iff_toInt_lt, Int32.le_iff_toInt_le, ← Int32.toInt_inj] at c_12728 ⊢
      have k_0 : ((-1) : Int32).toInt = -1 := by decide
      omega
    refine q_callVi (rest := []) (wr := [(y0, .inr (12, [.int 0, .ref (u_1.1 19), .ref (u_1.1 0), .ref (u_1.1 1), .ref (u_1.1 2), .int 0, .int 0, .int 0, .int 0, .int 0, .int 0, .int 0, .int 0, .int 0, .int (-1), .int 0, .ref (u_1.1 3), .ref (u_1.1 4), .ref (u_1.1 5), .ref (u_1.1 6), .ref (u_1.1 7), .int 0, .int 0, .ref (u_1.1 8), .ref (u_1.1 9), .ref (u_1.1 10), .int 0, .int 0, .ref (u_1.1 11), .ref (u_1.1 12), .ref (u_1.1 13), .ref (u_1.1 14), .ref (u_1.1 15), .int 0, .ref (u_1.1 16), .ref (u_1.1 17), .ref (u_1.1 18)]))]) X hK hA h (fun sz => kX11_image_502 l D cy x0 a1 (u_0.1 0) (u_0.1 1) (u_0.1 37) (u_0.1 39) (u_0.1 41) (u_0.1 43) (u_0.1 14) (u_0.1 15) (u_0.1 16) (u_0.1 17) (u_0.1 20) (u_0.1 24) (u_0.1 29) g_12742 sz) wm_5_145 wm_5_148 wm_1_1 hd_X11_image wm_5_146 wm_5_147 (ci := 11) (q0 := 0) rfl rfl ⟨Nat.le_of_ble_eq_true rfl, Nat.le_of_ble_eq_true rfl⟩ hl.1 rfl (Nat.le_of_ble_eq_true rfl) dL_law_1398 ⟨Nat.le_of_ble_eq_true rfl, Nat.le_of_ble_eq_true rfl⟩ [0] [78] rfl rfl (by decide) rfl rfl (fun r_12743 u_12743 Hp1 lc1 w_12743 hw1 => ?_)
    clear h
    obtain rfl : r_12743 = (-2) := w_12743
    replace hw1 : qW D _ _ [(y0, .inr (12, [.int 0, .ref (u_1.1 19), .ref (u_1.1 0), .ref (u_1.1 1), .ref (u_1.1 2), .int 0, .int 0, .int 0, .int 0, .int 0, .int 0, .int 0, .int 0, .int 0, .int (-1), .int 0, .ref (u_1.1 3), .ref (u_1.1 4), .ref (u_1.1 5), .ref (u_1.1 6), .ref (u_1.1 7), .int 0, .int 0, .ref (u_1.1 8), .ref (u_1.1 9), .ref (u_1.1 10), .int 0, .int 0, .ref (u_1.1 11), .ref (u_1.1 12), .ref (u_1.1 13), .ref (u_1.1 14), .ref (u_1.1 15), .int 0, .ref (u_1.1 16), .ref (u_1.1 17), .ref (u_1.1 18)]))] _ _ := hw1
    refine lv_aload_n hx hb dL_law_1401 rfl (lv_at hl 1 rfl) ?_
    refine lv_aload_n hx hb dL_law_1402 rfl (lv_at hl 3 rfl) ?_
    refine lv_iload_n hx hb dL_law_1403 rfl (lv_at hl 0 rfl) ?_
    refine lv_iconst (v := 1) hx hb dL_law_1404 (by decide) ?_
    refine lv_iadd hx hb dL_law_1405 ?_
    refine q_c 1 (by decide +kernel) ?_
    refine va_sld X.1 X.2.1 hX hbl hbA hw1.2.2 (q_in (by decide +kernel)) dL_law_1406 ?_
    refine q_c a1 e1 ?_
    have g_12747 : a1 ≤ ((-1) : Int32) := by
      simp only [Int32.lt_iff_toInt_lt, Int32.le_iff_toInt_le, ← Int32.toInt_inj] at c_12728 ⊢
      have k_0 : ((-1) : Int32).toInt = -1 := by decide
      omega
    refine q_callVi (rest := [.int (-2)]) (wr := []) X hK hA hw1 (fun sz => kX12_image_503 l D cy y0 a1 (u_1.1 19) (u_1.1 0) (u_1.1 1) (u_1.1 2) (u_1.1 3) (u_1.1 4) (u_1.1 5) (u_1.1 6) (u_1.1 7) (u_1.1 8) (u_1.1 9) (u_1.1 10) (u_1.1 11) (u_1.1 12) (u_1.1 13) (u_1.1 14) (u_1.1 15) (u_1.1 16) (u_1.1 17) (u_1.1 18) g_12747 sz) wm_8_43 wm_8_46 wm_1_12 hd_X12_image wm_8_44 wm_8_45 (ci := 12) (q0 := 0) rfl rfl ⟨Nat.le_of_ble_eq_true rfl, Nat.le_of_ble_eq_true rfl⟩ hl.1 rfl (Nat.le_of_ble_eq_true rfl) dL_law_1407 ⟨Nat.le_of_ble_eq_true rfl, Nat.le_of_ble_eq_true rfl⟩ [0] [] rfl rfl (by decide) rfl rfl (fun r_12748 u_12748 Hp2 lc2 w_12748 hw2 => ?_)
    clear Hp1 lc1 hw1
    obtain rfl : r_12748 = (-2) := w_12748
    replace hw2 : qW D _ _ [] _ _ := hw2
    refine lv_icmp_eq (tgt := 1461) hx hb dL_law_1410 (by decide) (fun _ => ?_) (fun c => absurd c (by decide +kernel))
    exact law_tail l X hr hlk hX hbl hw2.2.2 hl (Nat.le_of_ble_eq_true rfl) (Nat.le_of_ble_eq_true rfl)
  by_cases c_12749 : a1 = 0
  · subst c_12749
    refine lv_aload_n hx hb dL_law_1392 rfl (lv_at hl 2 rfl) ?_
    refine lv_aload_n hx hb dL_law_1393 rfl (lv_at hl 3 rfl) ?_
    refine lv_iload_n hx hb dL_law_1394 rfl (lv_at hl 0 rfl) ?_
    refine lv_iconst (v := 1) hx hb dL_law_1395 (by decide) ?_
    refine lv_iadd hx hb dL_law_1396 ?_
    refine q_c 1 (by decide +kernel) ?_
    refine va_sld X.1 X.2.1 hX hbl hbA h.2.2 (q_in (by decide +kernel)) dL_law_1397 ?_
    refine q_c 0 e1 ?_
    refine q_callVi (rest := []) (wr := [(y0, .inr (12, [.int 0, .ref (u_1.1 19), .ref (u_1.1 0), .ref (u_1.1 1), .ref (u_1.1 2), .int 0, .int 0, .int 0, .int 0, .int 0, .int 0, .int 0, .int 0, .int 0, .int (-1), .int 0, .ref (u_1.1 3), .ref (u_1.1 4), .ref (u_1.1 5), .ref (u_1.1 6), .ref (u_1.1 7), .int 0, .int 0, .ref (u_1.1 8), .ref (u_1.1 9), .ref (u_1.1 10), .int 0, .int 0, .ref (u_1.1 11), .ref (u_1.1 12), .ref (u_1.1 13), .ref (u_1.1 14), .ref (u_1.1 15), .int 0, .ref (u_1.1 16), .ref (u_1.1 17), .ref (u_1.1 18)])), ((u_1.1 0), .inl (cy 3, 2, .inl (fun _ => 0))), ((u_1.1 19), .inl (cy 1, 3918, .inl (upd (fun _ => 0) (Int32.toNatClampNeg 1) 1)))]) X hK hA h (fun sz => kX11_image_504 l D cy x0 (u_0.1 15) (u_0.1 16) (u_0.1 37) (u_0.1 38) (u_0.1 73) (u_0.1 74) (u_0.1 0) (u_0.1 1) (u_0.1 39) (u_0.1 41) (u_0.1 43) (u_0.1 14) (u_0.1 17) (u_0.1 20) (u_0.1 24) (u_0.1 29) (u_0.1 75) (u_0.1 31)  sz) wm_5_145 wm_5_148 wm_1_1 hd_X11_image wm_5_146 wm_5_147 (ci := 11) (q0 := 0) rfl rfl ⟨Nat.le_of_ble_eq_true rfl, Nat.le_of_ble_eq_true rfl⟩ hl.1 rfl (Nat.le_of_ble_eq_true rfl) dL_law_1398 ⟨Nat.le_of_ble_eq_true rfl, Nat.le_of_ble_eq_true rfl⟩ [0, 16, 17, 38, 39, 74, 75] [78, 79, 98] rfl rfl (by decide) rfl rfl (fun r_12773 u_12773 Hp3 lc3 w_12773 hw3 => ?_)
    clear h
    obtain rfl : r_12773 = 0 := w_12773
    replace hw3 : qW D _ _ [(y0, .inr (12, [.int 0, .ref (u_1.1 19), .ref (u_1.1 0), .ref (u_1.1 1), .ref (u_1.1 2), .int 0, .int 0, .int 0, .int 0, .int 0, .int 0, .int 0, .int 0, .int 0, .int (-1), .int 0, .ref (u_1.1 3), .ref (u_1.1 4), .ref (u_1.1 5), .ref (u_1.1 6), .ref (u_1.1 7), .int 0, .int 0, .ref (u_1.1 8), .ref (u_1.1 9), .ref (u_1.1 10), .int 0, .int 0, .ref (u_1.1 11), .ref (u_1.1 12), .ref (u_1.1 13), .ref (u_1.1 14), .ref (u_1.1 15), .int 0, .ref (u_1.1 16), .ref (u_1.1 17), .ref (u_1.1 18)])), ((u_1.1 0), .inl (cy 3, 2, .inl (fun _ => 0))), ((u_1.1 19), .inl (cy 1, 3918, .inl (upd (fun _ => 0) (Int32.toNatClampNeg 1) 1)))] _ _ := hw3
    refine lv_aload_n hx hb dL_law_1401 rfl (lv_at hl 1 rfl) ?_
    refine lv_aload_n hx hb dL_law_1402 rfl (lv_at hl 3 rfl) ?_
    refine lv_iload_n hx hb dL_law_1403 rfl (lv_at hl 0 rfl) ?_
    refine lv_iconst (v := 1) hx hb dL_law_1404 (by decide) ?_
    refine lv_iadd hx hb dL_law_1405 ?_
    refine q_c 1 (by decide +kernel) ?_
    refine va_sld X.1 X.2.1 hX hbl hbA hw3.2.2 (q_in (by decide +kernel)) dL_law_1406 ?_
    refine q_c 0 e1 ?_
    refine q_callVi (rest := [.int 0]) (wr := []) X hK hA hw3 (fun sz => kX12_image_505 l D cy y0 (u_1.1 0) (u_1.1 19) (u_1.1 1) (u_1.1 2) (u_1.1 3) (u_1.1 4) (u_1.1 5) (u_1.1 6) (u_1.1 7) (u_1.1 8) (u_1.1 9) (u_1.1 10) (u_1.1 11) (u_1.1 12) (u_1.1 13) (u_1.1 14) (u_1.1 15) (u_1.1 16) (u_1.1 17) (u_1.1 18)  sz) wm_8_43 wm_8_46 wm_1_12 hd_X12_image wm_8_44 wm_8_45 (ci := 12) (q0 := 0) rfl rfl ⟨Nat.le_of_ble_eq_true rfl, Nat.le_of_ble_eq_true rfl⟩ hl.1 rfl (Nat.le_of_ble_eq_true rfl) dL_law_1407 ⟨Nat.le_of_ble_eq_true rfl, Nat.le_of_ble_eq_true rfl⟩ [0, 1, 2] [] rfl rfl (by decide) rfl rfl (fun r_12779 u_12779 Hp4 lc4 w_12779 hw4 => ?_)
    clear Hp3 lc3 hw3
    obtain rfl : r_12779 = 0 := w_12779
    replace hw4 : qW D _ _ [] _ _ := hw4
    refine lv_icmp_eq (tgt := 1461) hx hb dL_law_1410 (by decide) (fun _ => ?_) (fun c => absurd c (by decide +kernel))
    exact law_tail l X hr hlk hX hbl hw4.2.2 hl (Nat.le_of_ble_eq_true rfl) (Nat.le_of_ble_eq_true rfl)
  by_cases c_12780 : a1 = 1
  · subst c_12780
    refine lv_aload_n hx hb dL_law_1392 rfl (lv_at hl 2 rfl) ?_
    refine lv_aload_n hx hb dL_law_1393 rfl (lv_at hl 3 rfl) ?_
    refine lv_iload_n hx hb dL_law_1394 rfl (lv_at hl 0 rfl) ?_
    refine lv_iconst (v := 1) hx hb dL_law_1395 (by decide) ?_
    refine lv_iadd hx hb dL_law_1396 ?_
    refine q_c 1 (by decide +kernel) ?_
    refine va_sld X.1 X.2.1 hX hbl hbA h.2.2 (q_in (by decide +kernel)) dL_law_1397 ?_
    refine q_c 1 e1 ?_
    refine q_callVi (rest := []) (wr := [(y0, .inr (12, [.int 0, .ref (u_1.1 19), .ref (u_1.1 0), .ref (u_1.1 1), .ref (u_1.1 2), .int 0, .int 0, .int 0, .int 0, .int 0, .int 0, .int 0, .int 0, .int 0, .int (-1), .int 0, .ref (u_1.1 3), .ref (u_1.1 4), .ref (u_1.1 5), .ref (u_1.1 6), .ref (u_1.1 7), .int 0, .int 0, .ref (u_1.1 8), .ref (u_1.1 9), .ref (u_1.1 10), .int 0, .int 0, .ref (u_1.1 11), .ref (u_1.1 12), .ref (u_1.1 13), .ref (u_1.1 14), .ref (u_1.1 15), .int 0, .ref (u_1.1 16), .ref (u_1.1 17), .ref (u_1.1 18)])), ((u_1.1 0), .inl (cy 3, 2, .inl (fun _ => 0))), ((u_1.1 19), .inl (cy 1, 3918, .inl (upd (fun _ => 0) (Int32.toNatClampNeg 1) 1)))]) X hK hA h (fun sz => kX11_image_506 l D cy x0 (u_0.1 15) (u_0.1 16) (u_0.1 37) (u_0.1 38) (u_0.1 75) (u_0.1 76) (u_0.1 0) (u_0.1 1) (u_0.1 39) (u_0.1 41) (u_0.1 43) (u_0.1 14) (u_0.1 17) (u_0.1 20) (u_0.1 24) (u_0.1 29) (u_0.1 73) (u_0.1 31)  sz) wm_5_145 wm_5_148 wm_1_1 hd_X11_image wm_5_146 wm_5_147 (ci := 11) (q0 := 0) rfl rfl ⟨Nat.le_of_ble_eq_true rfl, Nat.le_of_ble_eq_true rfl⟩ hl.1 rfl (Nat.le_of_ble_eq_true rfl) dL_law_1398 ⟨Nat.le_of_ble_eq_true rfl, Nat.le_of_ble_eq_true rfl⟩ [0, 16, 17, 38, 39, 76, 77] [78, 79, 98] rfl rfl (by decide) rfl rfl (fun r_12804 u_12804 Hp5 lc5 w_12804 hw5 => ?_)
    clear h
    obtain rfl : r_12804 = 0 := w_12804
    replace hw5 : qW D _ _ [(y0, .inr (12, [.int 0, .ref (u_1.1 19), .ref (u_1.1 0), .ref (u_1.1 1), .ref (u_1.1 2), .int 0, .int 0, .int 0, .int 0, .int 0, .int 0, .int 0, .int 0, .int 0, .int (-1), .int 0, .ref (u_1.1 3), .ref (u_1.1 4), .ref (u_1.1 5), .ref (u_1.1 6), .ref (u_1.1 7), .int 0, .int 0, .ref (u_1.1 8), .ref (u_1.1 9), .ref (u_1.1 10), .int 0, .int 0, .ref (u_1.1 11), .ref (u_1.1 12), .ref (u_1.1 13), .ref (u_1.1 14), .ref (u_1.1 15), .int 0, .ref (u_1.1 16), .ref (u_1.1 17), .ref (u_1.1 18)])), ((u_1.1 0), .inl (cy 3, 2, .inl (fun _ => 0))), ((u_1.1 19), .inl (cy 1, 3918, .inl (upd (fun _ => 0) (Int32.toNatClampNeg 1) 1)))] _ _ := hw5
    refine lv_aload_n hx hb dL_law_1401 rfl (lv_at hl 1 rfl) ?_
    refine lv_aload_n hx hb dL_law_1402 rfl (lv_at hl 3 rfl) ?_
    refine lv_iload_n hx hb dL_law_1403 rfl (lv_at hl 0 rfl) ?_
    refine lv_iconst (v := 1) hx hb dL_law_1404 (by decide) ?_
    refine lv_iadd hx hb dL_law_1405 ?_
    refine q_c 1 (by decide +kernel) ?_
    refine va_sld X.1 X.2.1 hX hbl hbA hw5.2.2 (q_in (by decide +kernel)) dL_law_1406 ?_
    refine q_c 1 e1 ?_
    refine q_callVi (rest := [.int 0]) (wr := []) X hK hA hw5 (fun sz => kX12_image_507 l D cy y0 (u_1.1 0) (u_1.1 19) (u_1.1 1) (u_1.1 2) (u_1.1 3) (u_1.1 4) (u_1.1 5) (u_1.1 6) (u_1.1 7) (u_1.1 8) (u_1.1 9) (u_1.1 10) (u_1.1 11) (u_1.1 12) (u_1.1 13) (u_1.1 14) (u_1.1 15) (u_1.1 16) (u_1.1 17) (u_1.1 18)  sz) wm_8_43 wm_8_46 wm_1_12 hd_X12_image wm_8_44 wm_8_45 (ci := 12) (q0 := 0) rfl rfl ⟨Nat.le_of_ble_eq_true rfl, Nat.le_of_ble_eq_true rfl⟩ hl.1 rfl (Nat.le_of_ble_eq_true rfl) dL_law_1407 ⟨Nat.le_of_ble_eq_true rfl, Nat.le_of_ble_eq_true rfl⟩ [0, 1, 2] [] rfl rfl (by decide) rfl rfl (fun r_12810 u_12810 Hp6 lc6 w_12810 hw6 => ?_)
    clear Hp5 lc5 hw5
    obtain rfl : r_12810 = 0 := w_12810
    replace hw6 : qW D _ _ [] _ _ := hw6
    refine lv_icmp_eq (tgt := 1461) hx hb dL_law_1410 (by decide) (fun _ => ?_) (fun c => absurd c (by decide +kernel))
    exact law_tail l X hr hlk hX hbl hw6.2.2 hl (Nat.le_of_ble_eq_true rfl) (Nat.le_of_ble_eq_true rfl)
  refine lv_aload_n hx hb dL_law_1392 rfl (lv_at hl 2 rfl) ?_
  refine lv_aload_n hx hb dL_law_1393 rfl (lv_at hl 3 rfl) ?_
  refine lv_iload_n hx hb dL_law_1394 rfl (lv_at hl 0 rfl) ?_
  refine lv_iconst (v := 1) hx hb dL_law_1395 (by decide) ?_
  refine lv_iadd hx hb dL_law_1396 ?_
  refine q_c 1 (by decide +kernel) ?_
  refine va_sld X.1 X.2.1 hX hbl hbA h.2.2 (q_in (by decide +kernel)) dL_law_1397 ?_
  refine q_c a1 e1 ?_
  have g_12832 : (2 : Int32) ≤ a1 := by
    simp only [Int32.lt_iff_toInt_lt, Int32.le_iff_toInt_le, ← Int32.toInt_inj] at c_12728 c_12749 c_12780 ⊢
    have k_0 : ((-1) : Int32).toInt = -1 := by decide
    have k_1 : (0 : Int32).toInt = 0 := by decide
    have k_2 : (1 : Int32).toInt = 1 := by decide
    have k_g : (2 : Int32).toInt = 2 := by decide
    omega
  refine q_callVi (rest := []) (wr := [(y0, .inr (12, [.int 0, .ref (u_1.1 19), .ref (u_1.1 0), .ref (u_1.1 1), .ref (u_1.1 2), .int 0, .int 0, .int 0, .int 0, .int 0, .int 0, .int 0, .int 0, .int 0, .int (-1), .int 0, .ref (u_1.1 3), .ref (u_1.1 4), .ref (u_1.1 5), .ref (u_1.1 6), .ref (u_1.1 7), .int 0, .int 0, .ref (u_1.1 8), .ref (u_1.1 9), .ref (u_1.1 10), .int 0, .int 0, .ref (u_1.1 11), .ref (u_1.1 12), .ref (u_1.1 13), .ref (u_1.1 14), .ref (u_1.1 15), .int 0, .ref (u_1.1 16), .ref (u_1.1 17), .ref (u_1.1 18)]))]) X hK hA h (fun sz => kX11_image_508 l D cy x0 a1 (u_0.1 0) (u_0.1 1) (u_0.1 37) (u_0.1 39) (u_0.1 41) (u_0.1 43) (u_0.1 14) (u_0.1 15) (u_0.1 16) (u_0.1 17) (u_0.1 20) (u_0.1 24) (u_0.1 29) g_12832 sz) wm_5_145 wm_5_148 wm_1_1 hd_X11_image wm_5_146 wm_5_147 (ci := 11) (q0 := 0) rfl rfl ⟨Nat.le_of_ble_eq_true rfl, Nat.le_of_ble_eq_true rfl⟩ hl.1 rfl (Nat.le_of_ble_eq_true rfl) dL_law_1398 ⟨Nat.le_of_ble_eq_true rfl, Nat.le_of_ble_eq_true rfl⟩ [0] [78] rfl rfl (by decide) rfl rfl (fun r_12833 u_12833 Hp7 lc7 w_12833 hw7 => ?_)
  clear h
  obtain rfl : r_12833 = (-2) := w_12833
  replace hw7 : qW D _ _ [(y0, .inr (12, [.int 0, .ref (u_1.1 19), .ref (u_1.1 0), .ref (u_1.1 1), .ref (u_1.1 2), .int 0, .int 0, .int 0, .int 0, .int 0, .int 0, .int 0, .int 0, .int 0, .int (-1), .int 0, .ref (u_1.1 3), .ref (u_1.1 4), .ref (u_1.1 5), .ref (u_1.1 6), .ref (u_1.1 7), .int 0, .int 0, .ref (u_1.1 8), .ref (u_1.1 9), .ref (u_1.1 10), .int 0, .int 0, .ref (u_1.1 11), .ref (u_1.1 12), .ref (u_1.1 13), .ref (u_1.1 14), .ref (u_1.1 15), .int 0, .ref (u_1.1 16), .ref (u_1.1 17), .ref (u_1.1 18)]))] _ _ := hw7
  refine lv_aload_n hx hb dL_law_1401 rfl (lv_at hl 1 rfl) ?_
  refine lv_aload_n hx hb dL_law_1402 rfl (lv_at hl 3 rfl) ?_
  refine lv_iload_n hx hb dL_law_1403 rfl (lv_at hl 0 rfl) ?_
  refine lv_iconst (v := 1) hx hb dL_law_1404 (by decide) ?_
  refine lv_iadd hx hb dL_law_1405 ?_
  refine q_c 1 (by decide +kernel) ?_
  refine va_sld X.1 X.2.1 hX hbl hbA hw7.2.2 (q_in (by decide +kernel)) dL_law_1406 ?_
  refine q_c a1 e1 ?_
  have g_12838 : (2 : Int32) ≤ a1 := by
    simp only [Int32.lt_iff_toInt_lt, Int32.le_iff_toInt_le, ← Int32.toInt_inj] at c_12728 c_12749 c_12780 ⊢
    have k_0 : ((-1) : Int32).toInt = -1 := by decide
    have k_1 : (0 : Int32).toInt = 0 := by decide
    have k_2 : (1 : Int32).toInt = 1 := by decide
    have k_g : (2 : Int32).toInt = 2 := by decide
    omega
  refine q_callVi (rest := [.int (-2)]) (wr := []) X hK hA hw7 (fun sz => kX12_image_509 l D cy y0 a1 (u_1.1 19) (u_1.1 0) (u_1.1 1) (u_1.1 2) (u_1.1 3) (u_1.1 4) (u_1.1 5) (u_1.1 6) (u_1.1 7) (u_1.1 8) (u_1.1 9) (u_1.1 10) (u_1.1 11) (u_1.1 12) (u_1.1 13) (u_1.1 14) (u_1.1 15) (u_1.1 16) (u_1.1 17) (u_1.1 18) g_12838 sz) wm_8_43 wm_8_46 wm_1_12 hd_X12_image wm_8_44 wm_8_45 (ci := 12) (q0 := 0) rfl rfl ⟨Nat.le_of_ble_eq_true rfl, Nat.le_of_ble_eq_true rfl⟩ hl.1 rfl (Nat.le_of_ble_eq_true rfl) dL_law_1407 ⟨Nat.le_of_ble_eq_true rfl, Nat.le_of_ble_eq_true rfl⟩ [0] [] rfl rfl (by decide) rfl rfl (fun r_12839 u_12839 Hp8 lc8 w_12839 hw8 => ?_)
  clear Hp7 lc7 hw7
  obtain rfl : r_12839 = (-2) := w_12839
  replace hw8 : qW D _ _ [] _ _ := hw8
  refine lv_icmp_eq (tgt := 1461) hx hb dL_law_1410 (by decide) (fun _ => ?_) (fun c => absurd c (by decide +kernel))
  exact law_tail l X hr hlk hX hbl hw8.2.2 hl (Nat.le_of_ble_eq_true rfl) (Nat.le_of_ble_eq_true rfl)
set_option maxHeartbeats 4000000 in
set_option maxRecDepth 100000 in
theorem lc_restore (l : Launch) {p : Program} {e : Env} {s : State} {m : MethodId} {below : List Frame} {meth : Method} {c : Code} {b : Nat} {xs : Nat → Int32} {D : va_G} {cy : Nat → ClassId} {H : Heap} {locs : List Loc} {ls : Array Slot} {x0 y0 : Nat} {u_0 u_1 : SS} (X : qX p s m #[Value.ref b] c cL_law 4 RL) (hr : meth.sig.returnType = ret) (hlk : meth.locks = false) (hX : va_X b 6 xs s s.heap) (hbl : b < s.heap.size) (hK : qK D cy s) (a1 a2 a3 a4 a5 : Int32) (e1 : xs (Int32.toNatClampNeg 1) = a1) (e2 : xs (Int32.toNatClampNeg 2) = a2) (e3 : xs (Int32.toNatClampNeg 3) = a3) (e4 : xs (Int32.toNatClampNeg 4) = a4) (e5 : xs (Int32.toNatClampNeg 5) = a5) (h : qW D (fun q => s.heap.size ≤ q) s.heap (wLaw cy x0 y0 u_0 u_1) H locs) (hl : lv_has ls 4 [(3, .int 0), (2, .ref y0), (1, .ref x0), (0, .ref b)]) : W p l e room_1 s m #[Value.ref b] below meth c H locs 99 25544 (lw_Z below #[Value.ref b] s) (F0 m 1415 ls []) := by
  obtain ⟨hx, hb, hml, hown, ht⟩ := id X
  have hA : ∀ q : Nat, s.heap.size ≤ q → (fun q : Nat => s.heap.size ≤ q) q := fun _ h => h
  have hbA : ¬ (fun q : Nat => s.heap.size ≤ q) b := Nat.not_le.mpr hbl
  by_cases c_12842 : a1 ≤ (-1)
  · skip
    refine lv_aload_n hx hb dL_law_1415 rfl (lv_at hl 2 rfl) ?_
    refine lv_aload_n hx hb dL_law_1416 rfl (lv_at hl 3 rfl) ?_
    refine lv_iload_n hx hb dL_law_1417 rfl (lv_at hl 0 rfl) ?_
    refine lv_iconst (v := 1) hx hb dL_law_1418 (by decide) ?_
    refine lv_iadd hx hb dL_law_1419 ?_
    refine q_c 1 (by decide +kernel) ?_
    refine va_sld X.1 X.2.1 hX hbl hbA h.2.2 (q_in (by decide +kernel)) dL_law_1420 ?_
    refine q_c a1 e1 ?_
    have g_12856 : a1 ≤ ((-1) : Int32) := by
      simp only [Int32.lt_iff_toInt_lt, Int32.le_iff_toInt_le, ← Int32.toInt_inj] at c_12842 ⊢
      have k_0 : ((-1) : Int32).toInt = -1 := by decide
      omega
    refine q_callVi (rest := []) (wr := [(y0, .inr (12, [.int 0, .ref (u_1.1 19), .ref (u_1.1 0), .ref (u_1.1 1), .ref (u_1.1 2), .int 0, .int 0, .int 0, .int 0, .int 0, .int 0, .int 0, .int 0, .int 0, .int (-1), .int 0, .ref (u_1.1 3), .ref (u_1.1 4), .ref (u_1.1 5), .ref (u_1.1 6), .ref (u_1.1 7), .int 0, .int 0, .ref (u_1.1 8), .ref (u_1.1 9), .ref (u_1.1 10), .int 0, .int 0, .ref (u_1.1 11), .ref (u_1.1 12), .ref (u_1.1 13), .ref (u_1.1 14), .ref (u_1.1 15), .int 0, .ref (u_1.1 16), .ref (u_1.1 17), .ref (u_1.1 18)]))]) X hK hA h (fun sz => kX11_restore_510 l D cy x0 a1 (u_0.1 0) (u_0.1 1) (u_0.1 37) (u_0.1 39) (u_0.1 41) (u_0.1 43) (u_0.1 14) (u_0.1 15) (u_0.1 16) (u_0.1 17) (u_0.1 20) (u_0.1 24) (u_0.1 29) g_12856 sz) wm_5_149 wm_5_152 wm_1_1 hd_X11_restore wm_5_150 wm_5_151 (ci := 11) (q0 := 0) rfl rfl ⟨Nat.le_of_ble_eq_true rfl, Nat.le_of_ble_eq_true rfl⟩ hl.1 rfl (Nat.le_of_ble_eq_true rfl) dL_law_1421 ⟨Nat.le_of_ble_eq_true rfl, Nat.le_of_ble_eq_true rfl⟩ [0] [78] rfl rfl (by decide) rfl rfl (fun r_12857 u_12857 Hp1 lc1 w_12857 hw1 => ?_)
    clear h
    obtain rfl : r_12857 = (-2) := w_12857
    replace hw1 : qW D _ _ [(y0, .inr (12, [.int 0, .ref (u_1.1 19), .ref (u_1.1 0), .ref (u_1.1 1), .ref (u_1.1 2), .int 0, .int 0, .int 0, .int 0, .int 0, .int 0, .int 0, .int 0, .int 0, .int (-1), .int 0, .ref (u_1.1 3), .ref (u_1.1 4), .ref (u_1.1 5), .ref (u_1.1 6), .ref (u_1.1 7), .int 0, .int 0, .ref (u_1.1 8), .ref (u_1.1 9), .ref (u_1.1 10), .int 0, .int 0, .ref (u_1.1 11), .ref (u_1.1 12), .ref (u_1.1 13), .ref (u_1.1 14), .ref (u_1.1 15), .int 0, .ref (u_1.1 16), .ref (u_1.1 17), .ref (u_1.1 18)]))] _ _ := hw1
    refine lv_aload_n hx hb dL_law_1424 rfl (lv_at hl 1 rfl) ?_
    refine lv_aload_n hx hb dL_law_1425 rfl (lv_at hl 3 rfl) ?_
    refine lv_iload_n hx hb dL_law_1426 rfl (lv_at hl 0 rfl) ?_
    refine lv_iconst (v := 1) hx hb dL_law_1427 (by decide) ?_
    refine lv_iadd hx hb dL_law_1428 ?_
    refine q_c 1 (by decide +kernel) ?_
    refine va_sld X.1 X.2.1 hX hbl hbA hw1.2.2 (q_in (by decide +kernel)) dL_law_1429 ?_
    refine q_c a1 e1 ?_
    have g_12861 : a1 ≤ ((-1) : Int32) := by
      simp only [Int32.lt_iff_toInt_lt, Int32.le_iff_toInt_le, ← Int32.toInt_inj] at c_12842 ⊢
      have k_0 : ((-1) : Int32).toInt = -1 := by decide
      omega
    refine q_callVi (rest := [.int (-2)]) (wr := []) X hK hA hw1 (fun sz => kX12_restore_511 l D cy y0 a1 (u_1.1 19) (u_1.1 0) (u_1.1 1) (u_1.1 2) (u_1.1 3) (u_1.1 4) (u_1.1 5) (u_1.1 6) (u_1.1 7) (u_1.1 8) (u_1.1 9) (u_1.1 10) (u_1.1 11) (u_1.1 12) (u_1.1 13) (u_1.1 14) (u_1.1 15) (u_1.1 16) (u_1.1 17) (u_1.1 18) g_12861 sz) wm_8_47 wm_8_50 wm_1_12 hd_X12_restore wm_8_48 wm_8_49 (ci := 12) (q0 := 0) rfl rfl ⟨Nat.le_of_ble_eq_true rfl, Nat.le_of_ble_eq_true rfl⟩ hl.1 rfl (Nat.le_of_ble_eq_true rfl) dL_law_1430 ⟨Nat.le_of_ble_eq_true rfl, Nat.le_of_ble_eq_true rfl⟩ [0] [] rfl rfl (by decide) rfl rfl (fun r_12862 u_12862 Hp2 lc2 w_12862 hw2 => ?_)
    clear Hp1 lc1 hw1
    obtain rfl : r_12862 = (-2) := w_12862
    replace hw2 : qW D _ _ [] _ _ := hw2
    refine lv_icmp_eq (tgt := 1461) hx hb dL_law_1433 (by decide) (fun _ => ?_) (fun c => absurd c (by decide +kernel))
    exact law_tail l X hr hlk hX hbl hw2.2.2 hl (Nat.le_of_ble_eq_true rfl) (Nat.le_of_ble_eq_true rfl)
  by_cases c_12863 : a1 = 0
  · subst c_12863
    refine lv_aload_n hx hb dL_law_1415 rfl (lv_at hl 2 rfl) ?_
    refine lv_aload_n hx hb dL_law_1416 rfl (lv_at hl 3 rfl) ?_
    refine lv_iload_n hx hb dL_law_1417 rfl (lv_at hl 0 rfl) ?_
    refine lv_iconst (v := 1) hx hb dL_law_1418 (by decide) ?_
    refine lv_iadd hx hb dL_law_1419 ?_
    refine q_c 1 (by decide +kernel) ?_
    refine va_sld X.1 X.2.1 hX hbl hbA h.2.2 (q_in (by decide +kernel)) dL_law_1420 ?_
    refine q_c 0 e1 ?_
    refine q_callVi (rest := []) (wr := [(y0, .inr (12, [.int 0, .ref (u_1.1 19), .ref (u_1.1 0), .ref (u_1.1 1), .ref (u_1.1 2), .int 0, .int 0, .int 0, .int 0, .int 0, .int 0, .int 0, .int 0, .int 0, .int (-1), .int 0, .ref (u_1.1 3), .ref (u_1.1 4), .ref (u_1.1 5), .ref (u_1.1 6), .ref (u_1.1 7), .int 0, .int 0, .ref (u_1.1 8), .ref (u_1.1 9), .ref (u_1.1 10), .int 0, .int 0, .ref (u_1.1 11), .ref (u_1.1 12), .ref (u_1.1 13), .ref (u_1.1 14), .ref (u_1.1 15), .int 0, .ref (u_1.1 16), .ref (u_1.1 17), .ref (u_1.1 18)])), ((u_1.1 0), .inl (cy 3, 2, .inl (fun _ => 0)))]) X hK hA h (fun sz => kX11_restore_512 l D cy x0 (u_0.1 16) (u_0.1 0) (u_0.1 1) (u_0.1 37) (u_0.1 39) (u_0.1 41) (u_0.1 43) (u_0.1 14) (u_0.1 15) (u_0.1 17) (u_0.1 20) (u_0.1 24) (u_0.1 29)  sz) wm_5_149 wm_5_152 wm_1_1 hd_X11_restore wm_5_150 wm_5_151 (ci := 11) (q0 := 0) rfl rfl ⟨Nat.le_of_ble_eq_true rfl, Nat.le_of_ble_eq_true rfl⟩ hl.1 rfl (Nat.le_of_ble_eq_true rfl) dL_law_1421 ⟨Nat.le_of_ble_eq_true rfl, Nat.le_of_ble_eq_true rfl⟩ [0, 17] [78, 79] rfl rfl (by decide) rfl rfl (fun r_12867 u_12867 Hp3 lc3 w_12867 hw3 => ?_)
    clear h
    obtain rfl : r_12867 = (-5) := w_12867
    replace hw3 : qW D _ _ [(y0, .inr (12, [.int 0, .ref (u_1.1 19), .ref (u_1.1 0), .ref (u_1.1 1), .ref (u_1.1 2), .int 0, .int 0, .int 0, .int 0, .int 0, .int 0, .int 0, .int 0, .int 0, .int (-1), .int 0, .ref (u_1.1 3), .ref (u_1.1 4), .ref (u_1.1 5), .ref (u_1.1 6), .ref (u_1.1 7), .int 0, .int 0, .ref (u_1.1 8), .ref (u_1.1 9), .ref (u_1.1 10), .int 0, .int 0, .ref (u_1.1 11), .ref (u_1.1 12), .ref (u_1.1 13), .ref (u_1.1 14), .ref (u_1.1 15), .int 0, .ref (u_1.1 16), .ref (u_1.1 17), .ref (u_1.1 18)])), ((u_1.1 0), .inl (cy 3, 2, .inl (fun _ => 0)))] _ _ := hw3
    refine lv_aload_n hx hb dL_law_1424 rfl (lv_at hl 1 rfl) ?_
    refine lv_aload_n hx hb dL_law_1425 rfl (lv_at hl 3 rfl) ?_
    refine lv_iload_n hx hb dL_law_1426 rfl (lv_at hl 0 rfl) ?_
    refine lv_iconst (v := 1) hx hb dL_law_1427 (by decide) ?_
    refine lv_iadd hx hb dL_law_1428 ?_
    refine q_c 1 (by decide +kernel) ?_
    refine va_sld X.1 X.2.1 hX hbl hbA hw3.2.2 (q_in (by decide +kernel)) dL_law_1429 ?_
    refine q_c 0 e1 ?_
    refine q_callVi (rest := [.int (-5)]) (wr := []) X hK hA hw3 (fun sz => kX12_restore_513 l D cy y0 (u_1.1 0) (u_1.1 19) (u_1.1 1) (u_1.1 2) (u_1.1 3) (u_1.1 4) (u_1.1 5) (u_1.1 6) (u_1.1 7) (u_1.1 8) (u_1.1 9) (u_1.1 10) (u_1.1 11) (u_1.1 12) (u_1.1 13) (u_1.1 14) (u_1.1 15) (u_1.1 16) (u_1.1 17) (u_1.1 18)  sz) wm_8_47 wm_8_50 wm_1_12 hd_X12_restore wm_8_48 wm_8_49 (ci := 12) (q0 := 0) rfl rfl ⟨Nat.le_of_ble_eq_true rfl, Nat.le_of_ble_eq_true rfl⟩ hl.1 rfl (Nat.le_of_ble_eq_true rfl) dL_law_1430 ⟨Nat.le_of_ble_eq_true rfl, Nat.le_of_ble_eq_true rfl⟩ [0, 1] [] rfl rfl (by decide) rfl rfl (fun r_12869 u_12869 Hp4 lc4 w_12869 hw4 => ?_)
    clear Hp3 lc3 hw3
    obtain rfl : r_12869 = (-5) := w_12869
    replace hw4 : qW D _ _ [] _ _ := hw4
    refine lv_icmp_eq (tgt := 1461) hx hb dL_law_1433 (by decide) (fun _ => ?_) (fun c => absurd c (by decide +kernel))
    exact law_tail l X hr hlk hX hbl hw4.2.2 hl (Nat.le_of_ble_eq_true rfl) (Nat.le_of_ble_eq_true rfl)
  by_cases c_12870 : a1 = 1
  · subst c_12870
    refine lv_aload_n hx hb dL_law_1415 rfl (lv_at hl 2 rfl) ?_
    refine lv_aload_n hx hb dL_law_1416 rfl (lv_at hl 3 rfl) ?_
    refine lv_iload_n hx hb dL_law_1417 rfl (lv_at hl 0 rfl) ?_
    refine lv_iconst (v := 1) hx hb dL_law_1418 (by decide) ?_
    refine lv_iadd hx hb dL_law_1419 ?_
    refine q_c 1 (by decide +kernel) ?_
    refine va_sld X.1 X.2.1 hX hbl hbA h.2.2 (q_in (by decide +kernel)) dL_law_1420 ?_
    refine q_c 1 e1 ?_
    refine q_callVi (rest := []) (wr := [(y0, .inr (12, [.int 0, .ref (u_1.1 19), .ref (u_1.1 0), .ref (u_1.1 1), .ref (u_1.1 2), .int 0, .int 0, .int 0, .int 0, .int 0, .int 0, .int 0, .int 0, .int 0, .int (-1), .int 0, .ref (u_1.1 3), .ref (u_1.1 4), .ref (u_1.1 5), .ref (u_1.1 6), .ref (u_1.1 7), .int 0, .int 0, .ref (u_1.1 8), .ref (u_1.1 9), .ref (u_1.1 10), .int 0, .int 0, .ref (u_1.1 11), .ref (u_1.1 12), .ref (u_1.1 13), .ref (u_1.1 14), .ref (u_1.1 15), .int 0, .ref (u_1.1 16), .ref (u_1.1 17), .ref (u_1.1 18)])), ((u_1.1 0), .inl (cy 3, 2, .inl (fun _ => 0)))]) X hK hA h (fun sz => kX11_restore_514 l D cy x0 (u_0.1 16) (u_0.1 0) (u_0.1 1) (u_0.1 37) (u_0.1 39) (u_0.1 41) (u_0.1 43) (u_0.1 14) (u_0.1 15) (u_0.1 17) (u_0.1 20) (u_0.1 24) (u_0.1 29)  sz) wm_5_149 wm_5_152 wm_1_1 hd_X11_restore wm_5_150 wm_5_151 (ci := 11) (q0 := 0) rfl rfl ⟨Nat.le_of_ble_eq_true rfl, Nat.le_of_ble_eq_true rfl⟩ hl.1 rfl (Nat.le_of_ble_eq_true rfl) dL_law_1421 ⟨Nat.le_of_ble_eq_true rfl, Nat.le_of_ble_eq_true rfl⟩ [0, 17] [78, 79] rfl rfl (by decide) rfl rfl (fun r_12874 u_12874 Hp5 lc5 w_12874 hw5 => ?_)
    clear h
    obtain rfl : r_12874 = (-5) := w_12874
    replace hw5 : qW D _ _ [(y0, .inr (12, [.int 0, .ref (u_1.1 19), .ref (u_1.1 0), .ref (u_1.1 1), .ref (u_1.1 2), .int 0, .int 0, .int 0, .int 0, .int 0, .int 0, .int 0, .int 0, .int 0, .int (-1), .int 0, .ref (u_1.1 3), .ref (u_1.1 4), .ref (u_1.1 5), .ref (u_1.1 6), .ref (u_1.1 7), .int 0, .int 0, .ref (u_1.1 8), .ref (u_1.1 9), .ref (u_1.1 10), .int 0, .int 0, .ref (u_1.1 11), .ref (u_1.1 12), .ref (u_1.1 13), .ref (u_1.1 14), .ref (u_1.1 15), .int 0, .ref (u_1.1 16), .ref (u_1.1 17), .ref (u_1.1 18)])), ((u_1.1 0), .inl (cy 3, 2, .inl (fun _ => 0)))] _ _ := hw5
    refine lv_aload_n hx hb dL_law_1424 rfl (lv_at hl 1 rfl) ?_
    refine lv_aload_n hx hb dL_law_1425 rfl (lv_at hl 3 rfl) ?_
    refine lv_iload_n hx hb dL_law_1426 rfl (lv_at hl 0 rfl) ?_
    refine lv_iconst (v := 1) hx hb dL_law_1427 (by decide) ?_
    refine lv_iadd hx hb dL_law_1428 ?_
    refine q_c 1 (by decide +kernel) ?_
    refine va_sld X.1 X.2.1 hX hbl hbA hw5.2.2 (q_in (by decide +kernel)) dL_law_1429 ?_
    refine q_c 1 e1 ?_
    refine q_callVi (rest := [.int (-5)]) (wr := []) X hK hA hw5 (fun sz => kX12_restore_515 l D cy y0 (u_1.1 0) (u_1.1 19) (u_1.1 1) (u_1.1 2) (u_1.1 3) (u_1.1 4) (u_1.1 5) (u_1.1 6) (u_1.1 7) (u_1.1 8) (u_1.1 9) (u_1.1 10) (u_1.1 11) (u_1.1 12) (u_1.1 13) (u_1.1 14) (u_1.1 15) (u_1.1 16) (u_1.1 17) (u_1.1 18)  sz) wm_8_47 wm_8_50 wm_1_12 hd_X12_restore wm_8_48 wm_8_49 (ci := 12) (q0 := 0) rfl rfl ⟨Nat.le_of_ble_eq_true rfl, Nat.le_of_ble_eq_true rfl⟩ hl.1 rfl (Nat.le_of_ble_eq_true rfl) dL_law_1430 ⟨Nat.le_of_ble_eq_true rfl, Nat.le_of_ble_eq_true rfl⟩ [0, 1] [] rfl rfl (by decide) rfl rfl (fun r_12876 u_12876 Hp6 lc6 w_12876 hw6 => ?_)
    clear Hp5 lc5 hw5
    obtain rfl : r_12876 = (-5) := w_12876
    replace hw6 : qW D _ _ [] _ _ := hw6
    refine lv_icmp_eq (tgt := 1461) hx hb dL_law_1433 (by decide) (fun _ => ?_) (fun c => absurd c (by decide +kernel))
    exact law_tail l X hr hlk hX hbl hw6.2.2 hl (Nat.le_of_ble_eq_true rfl) (Nat.le_of_ble_eq_true rfl)
  refine lv_aload_n hx hb dL_law_1415 rfl (lv_at hl 2 rfl) ?_
  refine lv_aload_n hx hb dL_law_1416 rfl (lv_at hl 3 rfl) ?_
  refine lv_iload_n hx hb dL_law_1417 rfl (lv_at hl 0 rfl) ?_
  refine lv_iconst (v := 1) hx hb dL_law_1418 (by decide) ?_
  refine lv_iadd hx hb dL_law_1419 ?_
  refine q_c 1 (by decide +kernel) ?_
  refine va_sld X.1 X.2.1 hX hbl hbA h.2.2 (q_in (by decide +kernel)) dL_law_1420 ?_
  refine q_c a1 e1 ?_
  have g_12898 : (2 : Int32) ≤ a1 := by
    simp only [Int32.lt_iff_toInt_lt, Int32.le_iff_toInt_le, ← Int32.toInt_inj] at c_12842 c_12863 c_12870 ⊢
    have k_0 : ((-1) : Int32).toInt = -1 := by decide
    have k_1 : (0 : Int32).toInt = 0 := by decide
    have k_2 : (1 : Int32).toInt = 1 := by decide
    have k_g : (2 : Int32).toInt = 2 := by decide
    omega
  refine q_callVi (rest := []) (wr := [(y0, .inr (12, [.int 0, .ref (u_1.1 19), .ref (u_1.1 0), .ref (u_1.1 1), .ref (u_1.1 2), .int 0, .int 0, .int 0, .int 0, .int 0, .int 0, .int 0, .int 0, .int 0, .int (-1), .int 0, .ref (u_1.1 3), .ref (u_1.1 4), .ref (u_1.1 5), .ref (u_1.1 6), .ref (u_1.1 7), .int 0, .int 0, .ref (u_1.1 8), .ref (u_1.1 9), .ref (u_1.1 10), .int 0, .int 0, .ref (u_1.1 11), .ref (u_1.1 12), .ref (u_1.1 13), .ref (u_1.1 14), .ref (u_1.1 15), .int 0, .ref (u_1.1 16), .ref (u_1.1 17), .ref (u_1.1 18)]))]) X hK hA h (fun sz => kX11_restore_516 l D cy x0 a1 (u_0.1 0) (u_0.1 1) (u_0.1 37) (u_0.1 39) (u_0.1 41) (u_0.1 43) (u_0.1 14) (u_0.1 15) (u_0.1 16) (u_0.1 17) (u_0.1 20) (u_0.1 24) (u_0.1 29) g_12898 sz) wm_5_149 wm_5_152 wm_1_1 hd_X11_restore wm_5_150 wm_5_151 (ci := 11) (q0 := 0) rfl rfl ⟨Nat.le_of_ble_eq_true rfl, Nat.le_of_ble_eq_true rfl⟩ hl.1 rfl (Nat.le_of_ble_eq_true rfl) dL_law_1421 ⟨Nat.le_of_ble_eq_true rfl, Nat.le_of_ble_eq_true rfl⟩ [0] [78] rfl rfl (by decide) rfl rfl (fun r_12899 u_12899 Hp7 lc7 w_12899 hw7 => ?_)
  clear h
  obtain rfl : r_12899 = (-2) := w_12899
  replace hw7 : qW D _ _ [(y0, .inr (12, [.int 0, .ref (u_1.1 19), .ref (u_1.1 0), .ref (u_1.1 1), .ref (u_1.1 2), .int 0, .int 0, .int 0, .int 0, .int 0, .int 0, .int 0, .int 0, .int 0, .int (-1), .int 0, .ref (u_1.1 3), .ref (u_1.1 4), .ref (u_1.1 5), .ref (u_1.1 6), .ref (u_1.1 7), .int 0, .int 0, .ref (u_1.1 8), .ref (u_1.1 9), .ref (u_1.1 10), .int 0, .int 0, .ref (u_1.1 11), .ref (u_1.1 12), .ref (u_1.1 13), .ref (u_1.1 14), .ref (u_1.1 15), .int 0, .ref (u_1.1 16), .ref (u_1.1 17), .ref (u_1.1 18)]))] _ _ := hw7
  refine lv_aload_n hx hb dL_law_1424 rfl (lv_at hl 1 rfl) ?_
  refine lv_aload_n hx hb dL_law_1425 rfl (lv_at hl 3 rfl) ?_
  refine lv_iload_n hx hb dL_law_1426 rfl (lv_at hl 0 rfl) ?_
  refine lv_iconst (v := 1) hx hb dL_law_1427 (by decide) ?_
  refine lv_iadd hx hb dL_law_1428 ?_
  refine q_c 1 (by decide +kernel) ?_
  refine va_sld X.1 X.2.1 hX hbl hbA hw7.2.2 (q_in (by decide +kernel)) dL_law_1429 ?_
  refine q_c a1 e1 ?_
  have g_12904 : (2 : Int32) ≤ a1 := by
    simp only [Int32.lt_iff_toInt_lt, Int32.le_iff_toInt_le, ← Int32.toInt_inj] at c_12842 c_12863 c_12870 ⊢
    have k_0 : ((-1) : Int32).toInt = -1 := by decide
    have k_1 : (0 : Int32).toInt = 0 := by decide
    have k_2 : (1 : Int32).toInt = 1 := by decide
    have k_g : (2 : Int32).toInt = 2 := by decide
    omega
  refine q_callVi (rest := [.int (-2)]) (wr := []) X hK hA hw7 (fun sz => kX12_restore_517 l D cy y0 a1 (u_1.1 19) (u_1.1 0) (u_1.1 1) (u_1.1 2) (u_1.1 3) (u_1.1 4) (u_1.1 5) (u_1.1 6) (u_1.1 7) (u_1.1 8) (u_1.1 9) (u_1.1 10) (u_1.1 11) (u_1.1 12) (u_1.1 13) (u_1.1 14) (u_1.1 15) (u_1.1 16) (u_1.1 17) (u_1.1 18) g_12904 sz) wm_8_47 wm_8_50 wm_1_12 hd_X12_restore wm_8_48 wm_8_49 (ci := 12) (q0 := 0) rfl rfl ⟨Nat.le_of_ble_eq_true rfl, Nat.le_of_ble_eq_true rfl⟩ hl.1 rfl (Nat.le_of_ble_eq_true rfl) dL_law_1430 ⟨Nat.le_of_ble_eq_true rfl, Nat.le_of_ble_eq_true rfl⟩ [0] [] rfl rfl (by decide) rfl rfl (fun r_12905 u_12905 Hp8 lc8 w_12905 hw8 => ?_)
  clear Hp7 lc7 hw7
  obtain rfl : r_12905 = (-2) := w_12905
  replace hw8 : qW D _ _ [] _ _ := hw8
  refine lv_icmp_eq (tgt := 1461) hx hb dL_law_1433 (by decide) (fun _ => ?_) (fun c => absurd c (by decide +kernel))
  exact law_tail l X hr hlk hX hbl hw8.2.2 hl (Nat.le_of_ble_eq_true rfl) (Nat.le_of_ble_eq_true rfl)
