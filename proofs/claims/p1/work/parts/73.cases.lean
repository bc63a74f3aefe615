set_option maxHeartbeats 4000000 in
set_option maxRecDepth 100000 in
theorem lc_numbers (l : Launch) {p : Program} {e : Env} {s : State} {m : MethodId} {below : List Frame} {meth : Method} {c : Code} {b : Nat} {xs : Nat → Int32} {D : va_G} {cy : Nat → ClassId} {H : Heap} {locs : List Loc} {ls : Array Slot} {x0 y0 : Nat} {u_0 u_1 : SS} (X : qX p s m #[Value.ref b] c cL_law 4 RL) (hr : meth.sig.returnType = ret) (hlk : meth.locks = false) (hX : va_X b 6 xs s s.heap) (hbl : b < s.heap.size) (hK : qK D cy s) (a1 a2 a3 a4 a5 : Int32) (e1 : xs (Int32.toNatClampNeg 1) = a1) (e2 : xs (Int32.toNatClampNeg 2) = a2) (e3 : xs (Int32.toNatClampNeg 3) = a3) (e4 : xs (Int32.toNatClampNeg 4) = a4) (e5 : xs (Int32.toNatClampNeg 5) = a5) (h : qW D (fun q => s.heap.size ≤ q) s.heap (wLaw cy x0 y0 u_0 u_1) H locs) (hl : lv_has ls 4 [(3, .int 0), (2, .ref y0), (1, .ref x0), (0, .ref b)]) : W p l e room_1 s m #[Value.ref b] below meth c H locs 99 25544 (lw_Z below #[Value.ref b] s) (F0 m 1232 ls []) := by
  obtain ⟨hx, hb, hml, hown, ht⟩ := id X
  have hA : ∀ q : Nat, s.heap.size ≤ q → (fun q : Nat => s.heap.size ≤ q) q := fun _ h => h
  have hbA : ¬ (fun q : Nat => s.heap.size ≤ q) b := Nat.not_le.mpr hbl
  by_cases c_10867 : a1 ≤ (-1)
  · skip
    refine lv_aload_n hx hb dL_law_1232 rfl (lv_at hl 2 rfl) ?_
    refine lv_aload_n hx hb dL_law_1233 rfl (lv_at hl 3 rfl) ?_
    refine lv_iload_n hx hb dL_law_1234 rfl (lv_at hl 0 rfl) ?_
    refine lv_iconst (v := 1) hx hb dL_law_1235 (by decide) ?_
    refine lv_iadd hx hb dL_law_1236 ?_
    refine q_c 1 (by decide +kernel) ?_
    refine va_sld X.1 X.2.1 hX hbl hbA h.2.2 (q_in (by decide +kernel)) dL_law_1237 ?_
    refine q_c a1 e1 ?_
    refine lv_aload_n hx hb dL_law_1238 rfl (lv_at hl 3 rfl) ?_
    refine lv_iload_n hx hb dL_law_1239 rfl (lv_at hl 0 rfl) ?_
    refine lv_iconst (v := 2) hx hb dL_law_1240 (by decide) ?_
    refine lv_iadd hx hb dL_law_1241 ?_
    refine q_c 2 (by decide +kernel) ?_
    refine va_sld X.1 X.2.1 hX hbl hbA h.2.2 (q_in (by decide +kernel)) dL_law_1242 ?_
    refine q_c a2 e2 ?_
    refine lv_aload_n hx hb dL_law_1243 rfl (lv_at hl 3 rfl) ?_
    refine lv_iload_n hx hb dL_law_1244 rfl (lv_at hl 0 rfl) ?_
    refine lv_iconst (v := 3) hx hb dL_law_1245 (by decide) ?_
    refine lv_iadd hx hb dL_law_1246 ?_
    refine q_c 3 (by decide +kernel) ?_
    refine va_sld X.1 X.2.1 hX hbl hbA h.2.2 (q_in (by decide +kernel)) dL_law_1247 ?_
    refine q_c a3 e3 ?_
    have g_10889 : a1 ≤ ((-1) : Int32) := by
      simp only [Int32.lt_iff_toInt_lt, Int32.le_iff_toInt_le, ← Int32.toInt_inj] at c_10867 ⊢
      have k_0 : ((-1) : Int32).toInt = -1 := by decide
      omega
    refine q_callVi (rest := []) (wr := [(y0, .inr (12, [.int 0, .ref (u_1.1 19), .ref (u_1.1 0), .ref (u_1.1 1), .ref (u_1.1 2), .int 0, .int 0, .int 0, .int 0, .int 0, .int 0, .int 0, .int 0, .int 0, .int (-1), .int 0, .ref (u_1.1 3), .ref (u_1.1 4), .ref (u_1.1 5), .ref (u_1.1 6), .ref (u_1.1 7), .int 0, .int 0, .ref (u_1.1 8), .ref (u_1.1 9), .ref (u_1.1 10), .int 0, .int 0, .ref (u_1.1 11), .ref (u_1.1 12), .ref (u_1.1 13), .ref (u_1.1 14), .ref (u_1.1 15), .int 0, .ref (u_1.1 16), .ref (u_1.1 17), .ref (u_1.1 18)]))]) X hK hA h (fun sz => kX11_numbers_434 l D cy x0 a1 a2 a3 (u_0.1 0) (u_0.1 1) (u_0.1 37) (u_0.1 39) (u_0.1 41) (u_0.1 43) (u_0.1 14) (u_0.1 15) (u_0.1 16) (u_0.1 17) (u_0.1 20) (u_0.1 24) (u_0.1 29) g_10889 sz) wm_5_120 wm_5_123 wm_1_1 hd_X11_numbers wm_5_121 wm_5_122 (ci := 11) (q0 := 0) rfl rfl ⟨Nat.le_of_ble_eq_true rfl, Nat.le_of_ble_eq_true rfl⟩ hl.1 rfl (Nat.le_of_ble_eq_true rfl) dL_law_1248 ⟨Nat.le_of_ble_eq_true rfl, Nat.le_of_ble_eq_true rfl⟩ [0] [78] rfl rfl (by decide) rfl rfl (fun r_10890 u_10890 Hp1 lc1 w_10890 hw1 => ?_)
    clear h
    obtain rfl : r_10890 = (-2) := w_10890
    replace hw1 : qW D _ _ [(y0, .inr (12, [.int 0, .ref (u_1.1 19), .ref (u_1.1 0), .ref (u_1.1 1), .ref (u_1.1 2), .int 0, .int 0, .int 0, .int 0, .int 0, .int 0, .int 0, .int 0, .int 0, .int (-1), .int 0, .ref (u_1.1 3), .ref (u_1.1 4), .ref (u_1.1 5), .ref (u_1.1 6), .ref (u_1.1 7), .int 0, .int 0, .ref (u_1.1 8), .ref (u_1.1 9), .ref (u_1.1 10), .int 0, .int 0, .ref (u_1.1 11), .ref (u_1.1 12), .ref (u_1.1 13), .ref (u_1.1 14), .ref (u_1.1 15), .int 0, .ref (u_1.1 16), .ref (u_1.1 17), .ref (u_1.1 18)]))] _ _ := hw1
    refine lv_aload_n hx hb dL_law_1251 rfl (lv_at hl 1 rfl) ?_
    refine lv_aload_n hx hb dL_law_1252 rfl (lv_at hl 3 rfl) ?_
    refine lv_iload_n hx hb dL_law_1253 rfl (lv_at hl 0 rfl) ?_
    refine lv_iconst (v := 1) hx hb dL_law_1254 (by decide) ?_
    refine lv_iadd hx hb dL_law_1255 ?_
    refine q_c 1 (by decide +kernel) ?_
    refine va_sld X.1 X.2.1 hX hbl hbA hw1.2.2 (q_in (by decide +kernel)) dL_law_1256 ?_
    refine q_c a1 e1 ?_
    refine lv_aload_n hx hb dL_law_1257 rfl (lv_at hl 3 rfl) ?_
    refine lv_iload_n hx hb dL_law_1258 rfl (lv_at hl 0 rfl) ?_
    refine lv_iconst (v := 2) hx hb dL_law_1259 (by decide) ?_
    refine lv_iadd hx hb dL_law_1260 ?_
    refine q_c 2 (by decide +kernel) ?_
    refine va_sld X.1 X.2.1 hX hbl hbA hw1.2.2 (q_in (by decide +kernel)) dL_law_1261 ?_
    refine q_c a2 e2 ?_
    refine lv_aload_n hx hb dL_law_1262 rfl (lv_at hl 3 rfl) ?_
    refine lv_iload_n hx hb dL_law_1263 rfl (lv_at hl 0 rfl) ?_
    refine lv_iconst (v := 3) hx hb dL_law_1264 (by decide) ?_
    refine lv_iadd hx hb dL_law_1265 ?_
    refine q_c 3 (by decide +kernel) ?_
    refine va_sld X.1 X.2.1 hX hbl hbA hw1.2.2 (q_in (by decide +kernel)) dL_law_1266 ?_
    refine q_c a3 e3 ?_
    have g_10894 : a1 ≤ ((-1) : Int32) := by
      simp only [Int32.lt_iff_toInt_lt, Int32.le_iff_toInt_le, ← Int32.toInt_inj] at c_10867 ⊢
      have k_0 : ((-1) : Int32).toInt = -1 := by decide
      omega
    refine q_callVi (rest := [.int (-2)]) (wr := []) X hK hA hw1 (fun sz => kX12_numbers_435 l D cy y0 a1 a2 a3 (u_1.1 19) (u_1.1 0) (u_1.1 1) (u_1.1 2) (u_1.1 3) (u_1.1 4) (u_1.1 5) (u_1.1 6) (u_1.1 7) (u_1.1 8) (u_1.1 9) (u_1.1 10) (u_1.1 11) (u_1.1 12) (u_1.1 13) (u_1.1 14) (u_1.1 15) (u_1.1 16) (u_1.1 17) (u_1.1 18) g_10894 sz) wm_8_27 wm_8_30 wm_1_12 hd_X12_numbers wm_8_28 wm_8_29 (ci := 12) (q0 := 0) rfl rfl ⟨Nat.le_of_ble_eq_true rfl, Nat.le_of_ble_eq_true rfl⟩ hl.1 rfl (Nat.le_of_ble_eq_true rfl) dL_law_1267 ⟨Nat.le_of_ble_eq_true rfl, Nat.le_of_ble_eq_true rfl⟩ [0] [] rfl rfl (by decide) rfl rfl (fun r_10895 u_10895 Hp2 lc2 w_10895 hw2 => ?_)
    clear Hp1 lc1 hw1
    obtain rfl : r_10895 = (-2) := w_10895
    replace hw2 : qW D _ _ [] _ _ := hw2
    refine lv_icmp_eq (tgt := 1461) hx hb dL_law_1270 (by decide) (fun _ => ?_) (fun c => absurd c (by decide +kernel))
    exact law_tail l X hr hlk hX hbl hw2.2.2 hl (Nat.le_of_ble_eq_true rfl) (Nat.le_of_ble_eq_true rfl)
  by_cases c_10896 : a1 = 0
  · subst c_10896
    by_cases c_10921 : a2 ≤ (-1)
    · skip
      refine lv_aload_n hx hb dL_law_1232 rfl (lv_at hl 2 rfl) ?_
      refine lv_aload_n hx hb dL_law_1233 rfl (lv_at hl 3 rfl) ?_
      refine lv_iload_n hx hb dL_law_1234 rfl (lv_at hl 0 rfl) ?_
      refine lv_iconst (v := 1) hx hb dL_law_1235 (by decide) ?_
      refine lv_iadd hx hb dL_law_1236 ?_
      refine q_c 1 (by decide +kernel) ?_
      refine va_sld X.1 X.2.1 hX hbl hbA hw2.2.2 (q_in (by decide +kernel)) dL_law_1237 ?_
      refine q_c 0 e1 ?_
      refine lv_aload_n hx hb dL_law_1238 rfl (lv_at hl 3 rfl) ?_
      refine lv_iload_n hx hb dL_law_1239 rfl (lv_at hl 0 rfl) ?_
      refine lv_iconst (v := 2) hx hb dL_law_1240 (by decide) ?_
      refine lv_iadd hx hb dL_law_1241 ?_
      refine q_c 2 (by decide +kernel) ?_
      refine va_sld X.1 X.2.1 hX hbl hbA hw2.2.2 (q_in (by decide +kernel)) dL_law_1242 ?_
      refine q_c a2 e2 ?_
      refine lv_aload_n hx hb dL_law_1243 rfl (lv_at hl 3 rfl) ?_
      refine lv_iload_n hx hb dL_law_1244 rfl (lv_at hl 0 rfl) ?_
      refine lv_iconst (v := 3) hx hb dL_law_1245 (by decide) ?_
      refine lv_iadd hx hb dL_law_1246 ?_
      refine q_c 3 (by decide +kernel) ?_
      refine va_sld X.1 X.2.1 hX hbl hbA hw2.2.2 (q_in (by decide +kernel)) dL_law_1247 ?_
      refine q_c a3 e3 ?_
      have g_10942 : a2 ≤ ((-1) : Int32) := by
        simp only [Int32.lt_iff_toInt_lt, Int32.le_iff_toInt_le, ← Int32.toInt_inj] at c_10921 ⊢
        have k_0 : ((-1) : Int32).toInt = -1 := by decide
        omega
      refine q_callVi (rest := []) (wr := [(y0, .inr (12, [.int 0, .ref (u_1.1 19), .ref (u_1.1 0), .ref (u_1.1 1), .ref (u_1.1 2), .int 0, .int 0, .int 0, .int 0, .int 0, .int 0, .int 0, .int 0, .int 0, .int (-1), .int 0, .ref (u_1.1 3), .ref (u_1.1 4), .ref (u_1.1 5), .ref (u_1.1 6), .ref (u_1.1 7), .int 0, .int 0, .ref (u_1.1 8), .ref (u_1.1 9), .ref (u_1.1 10), .int 0, .int 0, .ref (u_1.1 11), .ref (u_1.1 12), .ref (u_1.1 13), .ref (u_1.1 14), .ref (u_1.1 15), .int 0, .ref (u_1.1 16), .ref (u_1.1 17), .ref (u_1.1 18)]))]) X hK hA hw2 (fun sz => kX11_numbers_438 l D cy x0 a2 a3 (u_0.1 0) (u_0.1 1) (u_0.1 37) (u_0.1 39) (u_0.1 41) (u_0.1 43) (u_0.1 14) (u_0.1 15) (u_0.1 16) (u_0.1 17) (u_0.1 20) (u_0.1 24) (u_0.1 29) g_10942 sz) wm_5_120 wm_5_123 wm_1_1 hd_X11_numbers wm_5_121 wm_5_122 (ci := 11) (q0 := 0) rfl rfl ⟨Nat.le_of_ble_eq_true rfl, Nat.le_of_ble_eq_true rfl⟩ hl.1 rfl (Nat.le_of_ble_eq_true rfl) dL_law_1248 ⟨Nat.le_of_ble_eq_true rfl, Nat.le_of_ble_eq_true rfl⟩ [0] [78] rfl rfl (by decide) rfl rfl (fun r_10943 u_10943 Hp3 lc3 w_10943 hw3 => ?_)
      clear Hp2 lc2 hw2
      obtain rfl : r_10943 = (-2) := w_10943
      replace hw3 : qW D _ _ [(y0, .inr (12, [.int 0, .ref (u_1.1 19), .ref (u_1.1 0), .ref (u_1.1 1), .ref (u_1.1 2), .int 0, .int 0, .int 0, .int 0, .int 0, .int 0, .int 0, .int 0, .int 0, .int (-1), .int 0, .ref (u_1.1 3), .ref (u_1.1 4), .ref (u_1.1 5), .ref (u_1.1 6), .ref (u_1.1 7), .int 0, .int 0, .ref (u_1.1 8), .ref (u_1.1 9), .ref (u_1.1 10), .int 0, .int 0, .ref (u_1.1 11), .ref (u_1.1 12), .ref (u_1.1 13), .ref (u_1.1 14), .ref (u_1.1 15), .int 0, .ref (u_1.1 16), .ref (u_1.1 17), .ref (u_1.1 18)]))] _ _ := hw3
      refine lv_aload_n hx hb dL_law_1251 rfl (lv_at hl 1 rfl) ?_
      refine lv_aload_n hx hb dL_law_1252 rfl (lv_at hl 3 rfl) ?_
      refine lv_iload_n hx hb dL_law_1253 rfl (lv_at hl 0 rfl) ?_
      refine lv_iconst (v := 1) hx hb dL_law_1254 (by decide) ?_
      refine lv_iadd hx hb dL_law_1255 ?_
      refine q_c 1 (by decide +kernel) ?_
      refine va_sld X.1 X.2.1 hX hbl hbA hw3.2.2 (q_in (by decide +kernel)) dL_law_1256 ?_
      refine q_c 0 e1 ?_
      refine lv_aload_n hx hb dL_law_1257 rfl (lv_at hl 3 rfl) ?_
      refine lv_iload_n hx hb dL_law_1258 rfl (lv_at hl 0 rfl) ?_
      refine lv_iconst (v := 2) hx hb dL_law_1259 (by decide) ?_
      refine lv_iadd hx hb dL_law_1260 ?_
      refine q_c 2 (by decide +kernel) ?_
      refine va_sld X.1 X.2.1 hX hbl hbA hw3.2.2 (q_in (by decide +kernel)) dL_law_1261 ?_
      refine q_c a2 e2 ?_
      refine lv_aload_n hx hb dL_law_1262 rfl (lv_at hl 3 rfl) ?_
      refine lv_iload_n hx hb dL_law_1263 rfl (lv_at hl 0 rfl) ?_
      refine lv_iconst (v := 3) hx hb dL_law_1264 (by decide) ?_
      refine lv_iadd hx hb dL_law_1265 ?_
      refine q_c 3 (by decide +kernel) ?_
      refine va_sld X.1 X.2.1 hX hbl hbA hw3.2.2 (q_in (by decide +kernel)) dL_law_1266 ?_
      refine q_c a3 e3 ?_
      have g_10948 : a2 ≤ ((-1) : Int32) := by
        simp only [Int32.lt_iff_toInt_lt, Int32.le_iff_toInt_le, ← Int32.toInt_inj] at c_10921 ⊢
        have k_0 : ((-1) : Int32).toInt = -1 := by decide
        omega
      refine q_callVi (rest := [.int (-2)]) (wr := []) X hK hA hw3 (fun sz => kX12_numbers_439 l D cy y0 a2 a3 (u_1.1 19) (u_1.1 0) (u_1.1 1) (u_1.1 2) (u_1.1 3) (u_1.1 4) (u_1.1 5) (u_1.1 6) (u_1.1 7) (u_1.1 8) (u_1.1 9) (u_1.1 10) (u_1.1 11) (u_1.1 12) (u_1.1 13) (u_1.1 14) (u_1.1 15) (u_1.1 16) (u_1.1 17) (u_1.1 18) g_10948 sz) wm_8_27 wm_8_30 wm_1_12 hd_X12_numbers wm_8_28 wm_8_29 (ci := 12) (q0 := 0) rfl rfl ⟨Nat.le_of_ble_eq_true rfl, Nat.le_of_ble_eq_true rfl⟩ hl.1 rfl (Nat.le_of_ble_eq_true rfl) dL_law_1267 ⟨Nat.le_of_ble_eq_true rfl, Nat.le_of_ble_eq_true rfl⟩ [0] [] rfl rfl (by decide) rfl rfl (fun r_10949 u_10949 Hp4 lc4 w_10949 hw4 => ?_)
      clear Hp3 lc3 hw3
      obtain rfl : r_10949 = (-2) := w_10949
      replace hw4 : qW D _ _ [] _ _ := hw4
      refine lv_icmp_eq (tgt := 1461) hx hb dL_law_1270 (by decide) (fun _ => ?_) (fun c => absurd c (by decide +kernel))
      exact law_tail l X hr hlk hX hbl hw4.2.2 hl (Nat.le_of_ble_eq_true rfl) (Nat.le_of_ble_eq_true rfl)
    by_cases c_10950 : a2 ≤ 3
    · skip
      by_cases c_10973 : a3 ≤ (-1)
      · skip
        refine lv_aload_n hx hb dL_law_1232 rfl (lv_at hl 2 rfl) ?_
        refine lv_aload_n hx hb dL_law_1233 rfl (lv_at hl 3 rfl) ?_
        refine lv_iload_n hx hb dL_law_1234 rfl (lv_at hl 0 rfl) ?_
        refine lv_iconst (v := 1) hx hb dL_law_1235 (by decide) ?_
        refine lv_iadd hx hb dL_law_1236 ?_
        refine q_c 1 (by decide +kernel) ?_
        refine va_sld X.1 X.2.1 hX hbl hbA hw4.2.2 (q_in (by decide +kernel)) dL_law_1237 ?_
        refine q_c 0 e1 ?_
        refine lv_aload_n hx hb dL_law_1238 rfl (lv_at hl 3 rfl) ?_
        refine lv_iload_n hx hb dL_law_1239 rfl (lv_at hl 0 rfl) ?_
        refine lv_iconst (v := 2) hx hb dL_law_1240 (by decide) ?_
        refine lv_iadd hx hb dL_law_1241 ?_
        refine q_c 2 (by decide +kernel) ?_
        refine va_sld X.1 X.2.1 hX hbl hbA hw4.2.2 (q_in (by decide +kernel)) dL_law_1242 ?_
        refine q_c a2 e2 ?_
        refine lv_aload_n hx hb dL_law_1243 rfl (lv_at hl 3 rfl) ?_
        refine lv_iload_n hx hb dL_law_1244 rfl (lv_at hl 0 rfl) ?_
        refine lv_iconst (v := 3) hx hb dL_law_1245 (by decide) ?_
        refine lv_iadd hx hb dL_law_1246 ?_
        refine q_c 3 (by decide +kernel) ?_
        refine va_sld X.1 X.2.1 hX hbl hbA hw4.2.2 (q_in (by decide +kernel)) dL_law_1247 ?_
        refine q_c a3 e3 ?_
        have g_11019 : (0 : Int32) ≤ a2 := by
          simp only [Int32.lt_iff_toInt_lt, Int32.le_iff_toInt_le, ← Int32.toInt_inj] at c_10921 c_10950 ⊢
          have k_0 : ((-1) : Int32).toInt = -1 := by decide
          have k_1 : (3 : Int32).toInt = 3 := by decide
          have k_g : (0 : Int32).toInt = 0 := by decide
          omega
        have g_11020 : a2 ≤ (3 : Int32) := by
          simp only [Int32.lt_iff_toInt_lt, Int32.le_iff_toInt_le, ← Int32.toInt_inj] at c_10921 c_10950 ⊢
          have k_0 : ((-1) : Int32).toInt = -1 := by decide
          have k_1 : (3 : Int32).toInt = 3 := by decide
          omega
        have g_11021 : a3 ≤ ((-1) : Int32) := by
          simp only [Int32.lt_iff_toInt_lt, Int32.le_iff_toInt_le, ← Int32.toInt_inj] at c_10973 ⊢
          have k_0 : ((-1) : Int32).toInt = -1 := by decide
          omega
        refine q_callVi (rest := []) (wr := [(y0, .inr (12, [.int 0, .ref (u_1.1 19), .ref (u_1.1 0), .ref (u_1.1 1), .ref (u_1.1 2), .int 0, .int 0, .int 0, .int 0, .int 0, .int 0, .int 0, .int 0, .int 0, .int (-1), .int 0, .ref (u_1.1 3), .ref (u_1.1 4), .ref (u_1.1 5), .ref (u_1.1 6), .ref (u_1.1 7), .int 0, .int 0, .ref (u_1.1 8), .ref (u_1.1 9), .ref (u_1.1 10), .int 0, .int 0, .ref (u_1.1 11), .ref (u_1.1 12), .ref (u_1.1 13), .ref (u_1.1 14), .ref (u_1.1 15), .int 0, .ref (u_1.1 16), .ref (u_1.1 17), .ref (u_1.1 18)]))]) X hK hA hw4 (fun sz => kX11_numbers_440 l D cy x0 a2 a3 (u_0.1 0) (u_0.1 1) (u_0.1 37) (u_0.1 39) (u_0.1 41) (u_0.1 43) (u_0.1 14) (u_0.1 15) (u_0.1 16) (u_0.1 17) (u_0.1 20) (u_0.1 24) (u_0.1 29) g_11019 g_11020 g_11021 sz) wm_5_120 wm_5_123 wm_1_1 hd_X11_numbers wm_5_121 wm_5_122 (ci := 11) (q0 := 0) rfl rfl ⟨Nat.le_of_ble_eq_true rfl, Nat.le_of_ble_eq_true rfl⟩ hl.1 rfl (Nat.le_of_ble_eq_true rfl) dL_law_1248 ⟨Nat.le_of_ble_eq_true rfl, Nat.le_of_ble_eq_true rfl⟩ [0] [78] rfl rfl (by decide) rfl rfl (fun r_11022 u_11022 Hp5 lc5 w_11022 hw5 => ?_)
        clear Hp4 lc4 hw4
        obtain rfl : r_11022 = (-3) := w_11022
        replace hw5 : qW D _ _ [(y0, .inr (12, [.int 0, .ref (u_1.1 19), .ref (u_1.1 0), .ref (u_1.1 1), .ref (u_1.1 2), .int 0, .int 0, .int 0, .int 0, .int 0, .int 0, .int 0, .int 0, .int 0, .int (-1), .int 0, .ref (u_1.1 3), .ref (u_1.1 4), .ref (u_1.1 5), .ref (u_1.1 6), .ref (u_1.1 7), .int 0, .int 0, .ref (u_1.1 8), .ref (u_1.1 9), .ref (u_1.1 10), .int 0, .int 0, .ref (u_1.1 11), .ref (u_1.1 12), .ref (u_1.1 13), .ref (u_1.1 14), .ref (u_1.1 15), .int 0, .ref (u_1.1 16), .ref (u_1.1 17), .ref (u_1.1 18)]))] _ _ := hw5
        refine lv_aload_n hx hb dL_law_1251 rfl (lv_at hl 1 rfl) ?_
        refine lv_aload_n hx hb dL_law_1252 rfl (lv_at hl 3 rfl) ?_
        refine lv_iload_n hx hb dL_law_1253 rfl (lv_at hl 0 rfl) ?_
        refine lv_iconst (v := 1) hx hb dL_law_1254 (by decide) ?_
        refine lv_iadd hx hb dL_law_1255 ?_
        refine q_c 1 (by decide +kernel) ?_
        refine va_sld X.1 X.2.1 hX hbl hbA hw5.2.2 (q_in (by decide +kernel)) dL_law_1256 ?_
        refine q_c 0 e1 ?_
        refine lv_aload_n hx hb dL_law_1257 rfl (lv_at hl 3 rfl) ?_
        refine lv_iload_n hx hb dL_law_1258 rfl (lv_at hl 0 rfl) ?_
        refine lv_iconst (v := 2) hx hb dL_law_1259 (by decide) ?_
        refine lv_iadd hx hb dL_law_1260 ?_
        refine q_c 2 (by decide +kernel) ?_
        refine va_sld X.1 X.2.1 hX hbl hbA hw5.2.2 (q_in (by decide +kernel)) dL_law_1261 ?_
        refine q_c a2 e2 ?_
        refine lv_aload_n hx hb dL_law_1262 rfl (lv_at hl 3 rfl) ?_
        refine lv_iload_n hx hb dL_law_1263 rfl (lv_at hl 0 rfl) ?_
        refine lv_iconst (v := 3) hx hb dL_law_1264 (by decide) ?_
        refine lv_iadd hx hb dL_law_1265 ?_
        refine q_c 3 (by decide +kernel) ?_
        refine va_sld X.1 X.2.1 hX hbl hbA hw5.2.2 (q_in (by decide +kernel)) dL_law_1266 ?_
        refine q_c a3 e3 ?_
        have g_11032 : (0 : Int32) ≤ a2 := by
          simp only [Int32.lt_iff_toInt_lt, Int32.le_iff_toInt_le, ← Int32.toInt_inj] at c_10921 c_10950 ⊢
          have k_0 : ((-1) : Int32).toInt = -1 := by decide
          have k_1 : (3 : Int32).toInt = 3 := by decide
          have k_g : (0 : Int32).toInt = 0 := by decide
          omega
        have g_11033 : a2 ≤ (3 : Int32) := by
          simp only [Int32.lt_iff_toInt_lt, Int32.le_iff_toInt_le, ← Int32.toInt_inj] at c_10921 c_10950 ⊢
          have k_0 : ((-1) : Int32).toInt = -1 := by decide
          have k_1 : (3 : Int32).toInt = 3 := by decide
          omega
        have g_11034 : a3 ≤ ((-1) : Int32) := by
          simp only [Int32.lt_iff_toInt_lt, Int32.le_iff_toInt_le, ← Int32.toInt_inj] at c_10973 ⊢
          have k_0 : ((-1) : Int32).toInt = -1 := by decide
          omega
        refine q_callVi (rest := [.int (-3)]) (wr := []) X hK hA hw5 (fun sz => kX12_numbers_442 l D cy y0 a2 a3 (u_1.1 19) (u_1.1 0) (u_1.1 1) (u_1.1 2) (u_1.1 3) (u_1.1 4) (u_1.1 5) (u_1.1 6) (u_1.1 7) (u_1.1 8) (u_1.1 9) (u_1.1 10) (u_1.1 11) (u_1.1 12) (u_1.1 13) (u_1.1 14) (u_1.1 15) (u_1.1 16) (u_1.1 17) (u_1.1 18) g_11032 g_11033 g_11034 sz) wm_8_27 wm_8_30 wm_1_12 hd_X12_numbers wm_8_28 wm_8_29 (ci := 12) (q0 := 0) rfl rfl ⟨Nat.le_of_ble_eq_true rfl, Nat.le_of_ble_eq_true rfl⟩ hl.1 rfl (Nat.le_of_ble_eq_true rfl) dL_law_1267 ⟨Nat.le_of_ble_eq_true rfl, Nat.le_of_ble_eq_true rfl⟩ [0] [] rfl rfl (by decide) rfl rfl (fun r_11035 u_11035 Hp6 lc6 w_11035 hw6 => ?_)
        clear Hp5 lc5 hw5
        obtain rfl : r_11035 = (-3) := w_11035
        replace hw6 : qW D _ _ [] _ _ := hw6
        refine lv_icmp_eq (tgt := 1461) hx hb dL_law_1270 (by decide) (fun _ => ?_) (fun c => absurd c (by decide +kernel))
        exact law_tail l X hr hlk hX hbl hw6.2.2 hl (Nat.le_of_ble_eq_true rfl) (Nat.le_of_ble_eq_true rfl)
      by_cases c_11036 : a3 ≤ 40
      · skip
        refine lv_aload_n hx hb dL_law_1232 rfl (lv_at hl 2 rfl) ?_
        refine lv_aload_n hx hb dL_law_1233 rfl (lv_at hl 3 rfl) ?_
        refine lv_iload_n hx hb dL_law_1234 rfl (lv_at hl 0 rfl) ?_
        refine lv_iconst (v := 1) hx hb dL_law_1235 (by decide) ?_
        refine lv_iadd hx hb dL_law_1236 ?_
        refine q_c 1 (by decide +kernel) ?_
        refine va_sld X.1 X.2.1 hX hbl hbA hw6.2.2 (q_in (by decide +kernel)) dL_law_1237 ?_
        refine q_c 0 e1 ?_
        refine lv_aload_n hx hb dL_law_1238 rfl (lv_at hl 3 rfl) ?_
        refine lv_iload_n hx hb dL_law_1239 rfl (lv_at hl 0 rfl) ?_
        refine lv_iconst (v := 2) hx hb dL_law_1240 (by decide) ?_
        refine lv_iadd hx hb dL_law_1241 ?_
        refine q_c 2 (by decide +kernel) ?_
        refine va_sld X.1 X.2.1 hX hbl hbA hw6.2.2 (q_in (by decide +kernel)) dL_law_1242 ?_
        refine q_c a2 e2 ?_
        refine lv_aload_n hx hb dL_law_1243 rfl (lv_at hl 3 rfl) ?_
        refine lv_iload_n hx hb dL_law_1244 rfl (lv_at hl 0 rfl) ?_
        refine lv_iconst (v := 3) hx hb dL_law_1245 (by decide) ?_
        refine lv_iadd hx hb dL_law_1246 ?_
        refine q_c 3 (by decide +kernel) ?_
        refine va_sld X.1 X.2.1 hX hbl hbA hw6.2.2 (q_in (by decide +kernel)) dL_law_1247 ?_
        refine q_c a3 e3 ?_
        have g_11124 : (0 : Int32) ≤ a2 := by
          simp only [Int32.lt_iff_toInt_lt, Int32.le_iff_toInt_le, ← Int32.toInt_inj] at c_10921 c_10950 ⊢
          have k_0 : ((-1) : Int32).toInt = -1 := by decide
          have k_1 : (3 : Int32).toInt = 3 := by decide
          have k_g : (0 : Int32).toInt = 0 := by decide
          omega
        have g_11125 : a2 ≤ (3 : Int32) := by
          simp only [Int32.lt_iff_toInt_lt, Int32.le_iff_toInt_le, ← Int32.toInt_inj] at c_10921 c_10950 ⊢
          have k_0 : ((-1) : Int32).toInt = -1 := by decide
          have k_1 : (3 : Int32).toInt = 3 := by decide
          omega
        have g_11126 : (0 : Int32) ≤ a3 := by
          simp only [Int32.lt_iff_toInt_lt, Int32.le_iff_toInt_le, ← Int32.toInt_inj] at c_10973 c_11036 ⊢
          have k_0 : ((-1) : Int32).toInt = -1 := by decide
          have k_1 : (40 : Int32).toInt = 40 := by decide
          have k_g : (0 : Int32).toInt = 0 := by decide
          omega
        have g_11127 : a3 ≤ (40 : Int32) := by
          simp only [Int32.lt_iff_toInt_lt, Int32.le_iff_toInt_le, ← Int32.toInt_inj] at c_10973 c_11036 ⊢
          have k_0 : ((-1) : Int32).toInt = -1 := by decide
          have k_1 : (40 : Int32).toInt = 40 := by decide
          omega
        refine q_callVi (rest := []) (wr := [(y0, .inr (12, [.int 0, .ref (u_1.1 19), .ref (u_1.1 0), .ref (u_1.1 1), .ref (u_1.1 2), .int 0, .int 0, .int 0, .int 0, .int 0, .int 0, .int 0, .int 0, .int 0, .int (-1), .int 0, .ref (u_1.1 3), .ref (u_1.1 4), .ref (u_1.1 5), .ref (u_1.1 6), .ref (u_1.1 7), .int 0, .int 0, .ref (u_1.1 8), .ref (u_1.1 9), .ref (u_1.1 10), .int 0, .int 0, .ref (u_1.1 11), .ref (u_1.1 12), .ref (u_1.1 13), .ref (u_1.1 14), .ref (u_1.1 15), .int 0, .ref (u_1.1 16), .ref (u_1.1 17), .ref (u_1.1 18)])), ((u_1.1 16), .inl (cy 1, 4, .inl (upd (upd (upd (upd (fun _ => 0) (Int32.toNatClampNeg 0) (-1)) (Int32.toNatClampNeg 1) (-1)) (Int32.toNatClampNeg 2) (-1)) (Int32.toNatClampNeg 3) (-1)))), ((u_1.1 17), .inl (cy 1, 4, .inl (fun _ => 0))), ((u_1.1 18), .inl (cy 2, 160, .inr (.inl (fun _ => 0))))]) X hK hA hw6 (fun sz => kX11_numbers_443 l D cy x0 (u_0.1 14) (u_0.1 65) (u_0.1 66) a2 a3 (u_0.1 0) (u_0.1 1) (u_0.1 37) (u_0.1 39) (u_0.1 41) (u_0.1 43) (u_0.1 15) (u_0.1 16) (u_0.1 17) (u_0.1 20) (u_0.1 24) (u_0.1 29) (u_0.1 71) (u_0.1 69) (u_0.1 67) g_11124 g_11125 g_11126 g_11127 sz) wm_5_120 wm_5_123 wm_1_1 hd_X11_numbers wm_5_121 wm_5_122 (ci := 11) (q0 := 0) rfl rfl ⟨Nat.le_of_ble_eq_true rfl, Nat.le_of_ble_eq_true rfl⟩ hl.1 rfl (Nat.le_of_ble_eq_true rfl) dL_law_1248 ⟨Nat.le_of_ble_eq_true rfl, Nat.le_of_ble_eq_true rfl⟩ [0, 15, 66, 67] [78, 95, 96, 97] rfl rfl (by decide) rfl rfl (fun r_11128 u_11128 Hp7 lc7 w_11128 hw7 => ?_)
        clear Hp6 lc6 hw6
        obtain rfl : r_11128 = 0 := w_11128
        replace hw7 : qW D _ _ [(y0, .inr (12, [.int 0, .ref (u_1.1 19), .ref (u_1.1 0), .ref (u_1.1 1), .ref (u_1.1 2), .int 0, .int 0, .int 0, .int 0, .int 0, .int 0, .int 0, .int 0, .int 0, .int (-1), .int 0, .ref (u_1.1 3), .ref (u_1.1 4), .ref (u_1.1 5), .ref (u_1.1 6), .ref (u_1.1 7), .int 0, .int 0, .ref (u_1.1 8), .ref (u_1.1 9), .ref (u_1.1 10), .int 0, .int 0, .ref (u_1.1 11), .ref (u_1.1 12), .ref (u_1.1 13), .ref (u_1.1 14), .ref (u_1.1 15), .int 0, .ref (u_1.1 16), .ref (u_1.1 17), .ref (u_1.1 18)])), ((u_1.1 16), .inl (cy 1, 4, .inl (upd (upd (upd (upd (fun _ => 0) (Int32.toNatClampNeg 0) (-1)) (Int32.toNatClampNeg 1) (-1)) (Int32.toNatClampNeg 2) (-1)) (Int32.toNatClampNeg 3) (-1)))), ((u_1.1 17), .inl (cy 1, 4, .inl (fun _ => 0))), ((u_1.1 18), .inl (cy 2, 160, .inr (.inl (fun _ => 0))))] _ _ := hw7
        refine lv_aload_n hx hb dL_law_1251 rfl (lv_at hl 1 rfl) ?_
        refine lv_aload_n hx hb dL_law_1252 rfl (lv_at hl 3 rfl) ?_
        refine lv_iload_n hx hb dL_law_1253 rfl (lv_at hl 0 rfl) ?_
        refine lv_iconst (v := 1) hx hb dL_law_1254 (by decide) ?_
        refine lv_iadd hx hb dL_law_1255 ?_
        refine q_c 1 (by decide +kernel) ?_
        refine va_sld X.1 X.2.1 hX hbl hbA hw7.2.2 (q_in (by decide +kernel)) dL_law_1256 ?_
        refine q_c 0 e1 ?_
        refine lv_aload_n hx hb dL_law_1257 rfl (lv_at hl 3 rfl) ?_
        refine lv_iload_n hx hb dL_law_1258 rfl (lv_at hl 0 rfl) ?_
        refine lv_iconst (v := 2) hx hb dL_law_1259 (by decide) ?_
        refine lv_iadd hx hb dL_law_1260 ?_
        refine q_c 2 (by decide +kernel) ?_
        refine va_sld X.1 X.2.1 hX hbl hbA hw7.2.2 (q_in (by decide +kernel)) dL_law_1261 ?_
        refine q_c a2 e2 ?_
        refine lv_aload_n hx hb dL_law_1262 rfl (lv_at hl 3 rfl) ?_
        refine lv_iload_n hx hb dL_law_1263 rfl (lv_at hl 0 rfl) ?_
        refine lv_iconst (v := 3) hx hb dL_law_1264 (by decide) ?_
        refine lv_iadd hx hb dL_law_1265 ?_
        refine q_c 3 (by decide +kernel) ?_
        refine va_sld X.1 X.2.1 hX hbl hbA hw7.2.2 (q_in (by decide +kernel)) dL_law_1266 ?_
        refine q_c a3 e3 ?_
        have g_11142 : (0 : Int32) ≤ a2 := by
          simp only [Int32.lt_iff_toInt_lt, Int32.le_iff_toInt_le, ← Int32.toInt_inj] at c_10921 c_10950 ⊢
          have k_0 : ((-1) : Int32).toInt = -1 := by decide
          have k_1 : (3 : Int32).toInt = 3 := by decide
          have k_g : (0 : Int32).toInt = 0 := by decide
          omega
        have g_11143 : a2 ≤ (3 : Int32) := by
          simp only [Int32.lt_iff_toInt_lt, Int32.le_iff_toInt_le, ← Int32.toInt_inj] at c_10921 c_10950 ⊢
          have k_0 : ((-1) : Int32).toInt = -1 := by decide
          have k_1 : (3 : Int32).toInt = 3 := by decide
          omega
        have g_11144 : (0 : Int32) ≤ a3 := by
          simp only [Int32.lt_iff_toInt_lt, Int32.le_iff_toInt_le, ← Int32.toInt_inj] at c_10973 c_11036 ⊢
          have k_0 : ((-1) : Int32).toInt = -1 := by decide
          have k_1 : (40 : Int32).toInt = 40 := by decide
          have k_g : (0 : Int32).toInt = 0 := by decide
          omega
        have g_11145 : a3 ≤ (40 : Int32) := by
          simp only [Int32.lt_iff_toInt_lt, Int32.le_iff_toInt_le, ← Int32.toInt_inj] at c_10973 c_11036 ⊢
          have k_0 : ((-1) : Int32).toInt = -1 := by decide
          have k_1 : (40 : Int32).toInt = 40 := by decide
          omega
        refine q_callVi (rest := [.int 0]) (wr := []) X hK hA hw7 (fun sz => kX12_numbers_445 l D cy y0 (u_1.1 16) (u_1.1 17) (u_1.1 18) (upd (upd (upd (upd (fun _ => 0) (Int32.toNatClampNeg 0) (-1)) (Int32.toNatClampNeg 1) (-1)) (Int32.toNatClampNeg 2) (-1)) (Int32.toNatClampNeg 3) (-1)) a2 a3 (u_1.1 19) (u_1.1 0) (u_1.1 1) (u_1.1 2) (u_1.1 3) (u_1.1 4) (u_1.1 5) (u_1.1 6) (u_1.1 7) (u_1.1 8) (u_1.1 9) (u_1.1 10) (u_1.1 11) (u_1.1 12) (u_1.1 13) (u_1.1 14) (u_1.1 15) g_11142 g_11143 g_11144 g_11145 sz) wm_8_27 wm_8_30 wm_1_12 hd_X12_numbers wm_8_28 wm_8_29 (ci := 12) (q0 := 0) rfl rfl ⟨Nat.le_of_ble_eq_true rfl, Nat.le_of_ble_eq_true rfl⟩ hl.1 rfl (Nat.le_of_ble_eq_true rfl) dL_law_1267 ⟨Nat.le_of_ble_eq_true rfl, Nat.le_of_ble_eq_true rfl⟩ [0, 1, 2, 3] [] rfl rfl (by decide) rfl rfl (fun r_11146 u_11146 Hp8 lc8 w_11146 hw8 => ?_)
        clear Hp7 lc7 hw7
        obtain rfl : r_11146 = 0 := w_11146
        replace hw8 : qW D _ _ [] _ _ := hw8
        refine lv_icmp_eq (tgt := 1461) hx hb dL_law_1270 (by decide) (fun _ => ?_) (fun c => absurd c (by decide +kernel))
        exact law_tail l X hr hlk hX hbl hw8.2.2 hl (Nat.le_of_ble_eq_true rfl) (Nat.le_of_ble_eq_true rfl)
      refine lv_aload_n hx hb dL_law_1232 rfl (lv_at hl 2 rfl) ?_
      refine lv_aload_n hx hb dL_law_1233 rfl (lv_at hl 3 rfl) ?_
      refine lv_iload_n hx hb dL_law_1234 rfl (lv_at hl 0 rfl) ?_
      refine lv_iconst (v := 1) hx hb dL_law_1235 (by decide) ?_
      refine lv_iadd hx hb dL_law_1236 ?_
      refine q_c 1 (by decide +kernel) ?_
      refine va_sld X.1 X.2.1 hX hbl hbA hw8.2.2 (q_in (by decide +kernel)) dL_law_1237 ?_
      refine q_c 0 e1 ?_
      refine lv_aload_n hx hb dL_law_1238 rfl (lv_at hl 3 rfl) ?_
      refine lv_iload_n hx hb dL_law_1239 rfl (lv_at hl 0 rfl) ?_
      refine lv_iconst (v := 2) hx hb dL_law_1240 (by decide) ?_
      refine lv_iadd hx hb dL_law_1241 ?_
      refine q_c 2 (by decide +kernel) ?_
      refine va_sld X.1 X.2.1 hX hbl hbA hw8.2.2 (q_in (by decide +kernel)) dL_law_1242 ?_
      refine q_c a2 e2 ?_
      refine lv_aload_n hx hb dL_law_1243 rfl (lv_at hl 3 rfl) ?_
      refine lv_iload_n hx hb dL_law_1244 rfl (lv_at hl 0 rfl) ?_
      refine lv_iconst (v := 3) hx hb dL_law_1245 (by decide) ?_
      refine lv_iadd hx hb dL_law_1246 ?_
      refine q_c 3 (by decide +kernel) ?_
      refine va_sld X.1 X.2.1 hX hbl hbA hw8.2.2 (q_in (by decide +kernel)) dL_law_1247 ?_
      refine q_c a3 e3 ?_
      have g_11202 : (0 : Int32) ≤ a2 := by
        simp only [Int32.lt_iff_toInt_lt, Int32.le_iff_toInt_le, ← Int32.toInt_inj] at c_10921 c_10950 ⊢
        have k_0 : ((-1) : Int32).toInt = -1 := by decide
        have k_1 : (3 : Int32).toInt = 3 := by decide
        have k_g : (0 : Int32).toInt = 0 := by decide
        omega
      have g_11203 : a2 ≤ (3 : Int32) := by
        simp only [Int32.lt_iff_toInt_lt, Int32.le_iff_toInt_le, ← Int32.toInt_inj] at c_10921 c_10950 ⊢
        have k_0 : ((-1) : Int32).toInt = -1 := by decide
        have k_1 : (3 : Int32).toInt = 3 := by decide
        omega
      have g_11204 : (41 : Int32) ≤ a3 := by
        simp only [Int32.lt_iff_toInt_lt, Int32.le_iff_toInt_le, ← Int32.toInt_inj] at c_10973 c_11036 ⊢
        have k_0 : ((-1) : Int32).toInt = -1 := by decide
        have k_1 : (40 : Int32).toInt = 40 := by decide
        have k_g : (41 : Int32).toInt = 41 := by decide
        omega
      refine q_callVi (rest := []) (wr := [(y0, .inr (12, [.int 0, .ref (u_1.1 19), .ref (u_1.1 0), .ref (u_1.1 1), .ref (u_1.1 2), .int 0, .int 0, .int 0, .int 0, .int 0, .int 0, .int 0, .int 0, .int 0, .int (-1), .int 0, .ref (u_1.1 3), .ref (u_1.1 4), .ref (u_1.1 5), .ref (u_1.1 6), .ref (u_1.1 7), .int 0, .int 0, .ref (u_1.1 8), .ref (u_1.1 9), .ref (u_1.1 10), .int 0, .int 0, .ref (u_1.1 11), .ref (u_1.1 12), .ref (u_1.1 13), .ref (u_1.1 14), .ref (u_1.1 15), .int 0, .ref (u_1.1 16), .ref (u_1.1 17), .ref (u_1.1 18)]))]) X hK hA hw8 (fun sz => kX11_numbers_446 l D cy x0 a2 a3 (u_0.1 0) (u_0.1 1) (u_0.1 37) (u_0.1 39) (u_0.1 41) (u_0.1 43) (u_0.1 14) (u_0.1 15) (u_0.1 16) (u_0.1 17) (u_0.1 20) (u_0.1 24) (u_0.1 29) g_11202 g_11203 g_11204 sz) wm_5_120 wm_5_123 wm_1_1 hd_X11_numbers wm_5_121 wm_5_122 (ci := 11) (q0 := 0) rfl rfl ⟨Nat.le_of_ble_eq_true rfl, Nat.le_of_ble_eq_true rfl⟩ hl.1 rfl (Nat.le_of_ble_eq_true rfl) dL_law_1248 ⟨Nat.le_of_ble_eq_true rfl, Nat.le_of_ble_eq_true rfl⟩ [0] [78] rfl rfl (by decide) rfl rfl (fun r_11205 u_11205 Hp9 lc9 w_11205 hw9 => ?_)
      clear Hp8 lc8 hw8
      obtain rfl : r_11205 = (-3) := w_11205
      replace hw9 : qW D _ _ [(y0, .inr (12, [.int 0, .ref (u_1.1 19), .ref (u_1.1 0), .ref (u_1.1 1), .ref (u_1.1 2), .int 0, .int 0, .int 0, .int 0, .int 0, .int 0, .int 0, .int 0, .int 0, .int (-1), .int 0, .ref (u_1.1 3), .ref (u_1.1 4), .ref (u_1.1 5), .ref (u_1.1 6), .ref (u_1.1 7), .int 0, .int 0, .ref (u_1.1 8), .ref (u_1.1 9), .ref (u_1.1 10), .int 0, .int 0, .ref (u_1.1 11), .ref (u_1.1 12), .ref (u_1.1 13), .ref (u_1.1 14), .ref (u_1.1 15), .int 0, .ref (u_1.1 16), .ref (u_1.1 17), .ref (u_1.1 18)]))] _ _ := hw9
      refine lv_aload_n hx hb dL_law_1251 rfl (lv_at hl 1 rfl) ?_
      refine lv_aload_n hx hb dL_law_1252 rfl (lv_at hl 3 rfl) ?_
      refine lv_iload_n hx hb dL_law_1253 rfl (lv_at hl 0 rfl) ?_
      refine lv_iconst (v := 1) hx hb dL_law_1254 (by decide) ?_
      refine lv_iadd hx hb dL_law_1255 ?_
      refine q_c 1 (by decide +kernel) ?_
      refine va_sld X.1 X.2.1 hX hbl hbA hw9.2.2 (q_in (by decide +kernel)) dL_law_1256 ?_
      refine q_c 0 e1 ?_
      refine lv_aload_n hx hb dL_law_1257 rfl (lv_at hl 3 rfl) ?_
      refine lv_iload_n hx hb dL_law_1258 rfl (lv_at hl 0 rfl) ?_
      refine lv_iconst (v := 2) hx hb dL_law_1259 (by decide) ?_
      refine lv_iadd hx hb dL_law_1260 ?_
      refine q_c 2 (by decide +kernel) ?_
      refine va_sld X.1 X.2.1 hX hbl hbA hw9.2.2 (q_in (by decide +kernel)) dL_law_1261 ?_
      refine q_c a2 e2 ?_
      refine lv_aload_n hx hb dL_law_1262 rfl (lv_at hl 3 rfl) ?_
      refine lv_iload_n hx hb dL_law_1263 rfl (lv_at hl 0 rfl) ?_
      refine lv_iconst (v := 3) hx hb dL_law_1264 (by decide) ?_
      refine lv_iadd hx hb dL_law_1265 ?_
      refine q_c 3 (by decide +kernel) ?_
      refine va_sld X.1 X.2.1 hX hbl hbA hw9.2.2 (q_in (by decide +kernel)) dL_law_1266 ?_
      refine q_c a3 e3 ?_
      have g_11216 : (0 : Int32) ≤ a2 := by
        simp only [Int32.lt_iff_toInt_lt, Int32.le_iff_toInt_le, ← Int32.toInt_inj] at c_10921 c_10950 ⊢
        have k_0 : ((-1) : Int32).toInt = -1 := by decide
        have k_1 : (3 : Int32).toInt = 3 := by decide
        have k_g : (0 : Int32).toInt = 0 := by decide
        omega
      have g_11217 : a2 ≤ (3 : Int32) := by
        simp only [Int32.lt_iff_toInt_lt, Int32.le_iff_toInt_le, ← Int32.toInt_inj] at c_10921 c_10950 ⊢
        have k_0 : ((-1) : Int32).toInt = -1 := by decide
        have k_1 : (3 : Int32).toInt = 3 := by decide
        omega
      have g_11218 : (41 : Int32) ≤ a3 := by
        simp only [Int32.lt_iff_toInt_lt, Int32.le_iff_toInt_le, ← Int32.toInt_inj] at c_10973 c_11036 ⊢
        have k_0 : ((-1) : Int32).toInt = -1 := by decide
        have k_1 : (40 : Int32).toInt = 40 := by decide
        have k_g : (41 : Int32).toInt = 41 := by decide
        omega
      refine q_callVi (rest := [.int (-3)]) (wr := []) X hK hA hw9 (fun sz => kX12_numbers_448 l D cy y0 a2 a3 (u_1.1 19) (u_1.1 0) (u_1.1 1) (u_1.1 2) (u_1.1 3) (u_1.1 4) (u_1.1 5) (u_1.1 6) (u_1.1 7) (u_1.1 8) (u_1.1 9) (u_1.1 10) (u_1.1 11) (u_1.1 12) (u_1.1 13) (u_1.1 14) (u_1.1 15) (u_1.1 16) (u_1.1 17) (u_1.1 18) g_11216 g_11217 g_11218 sz) wm_8_27 wm_8_30 wm_1_12 hd_X12_numbers wm_8_28 wm_8_29 (ci := 12) (q0 := 0) rfl rfl ⟨Nat.le_of_ble_eq_true rfl, Nat.le_of_ble_eq_true rfl⟩ hl.1 rfl (Nat.le_of_ble_eq_true rfl) dL_law_1267 ⟨Nat.le_of_ble_eq_true rfl, Nat.le_of_ble_eq_true rfl⟩ [0] [] rfl rfl (by decide) rfl rfl (fun r_11219 u_11219 Hp10 lc10 w_11219 hw10 => ?_)
      clear Hp9 lc9 hw9
      obtain rfl : r_11219 = (-3) := w_11219
      replace hw10 : qW D _ _ [] _ _ := hw10
      refine lv_icmp_eq (tgt := 1461) hx hb dL_law_1270 (by decide) (fun _ => ?_) (fun c => absurd c (by decide +kernel))
      exact law_tail l X hr hlk hX hbl hw10.2.2 hl (Nat.le_of_ble_eq_true rfl) (Nat.le_of_ble_eq_true rfl)
    refine lv_aload_n hx hb dL_law_1232 rfl (lv_at hl 2 rfl) ?_
    refine lv_aload_n hx hb dL_law_1233 rfl (lv_at hl 3 rfl) ?_
    refine lv_iload_n hx hb dL_law_1234 rfl (lv_at hl 0 rfl) ?_
    refine lv_iconst (v := 1) hx hb dL_law_1235 (by decide) ?_
    refine lv_iadd hx hb dL_law_1236 ?_
    refine q_c 1 (by decide +kernel) ?_
    refine va_sld X.1 X.2.1 hX hbl hbA hw10.2.2 (q_in (by decide +kernel)) dL_law_1237 ?_
    refine q_c 0 e1 ?_
    refine lv_aload_n hx hb dL_law_1238 rfl (lv_at hl 3 rfl) ?_
    refine lv_iload_n hx hb dL_law_1239 rfl (lv_at hl 0 rfl) ?_
    refine lv_iconst (v := 2) hx hb dL_law_1240 (by decide) ?_
    refine lv_iadd hx hb dL_law_1241 ?_
    refine q_c 2 (by decide +kernel) ?_
    refine va_sld X.1 X.2.1 hX hbl hbA hw10.2.2 (q_in (by decide +kernel)) dL_law_1242 ?_
    refine q_c a2 e2 ?_
    refine lv_aload_n hx hb dL_law_1243 rfl (lv_at hl 3 rfl) ?_
    refine lv_iload_n hx hb dL_law_1244 rfl (lv_at hl 0 rfl) ?_
    refine lv_iconst (v := 3) hx hb dL_law_1245 (by decide) ?_
    refine lv_iadd hx hb dL_law_1246 ?_
    refine q_c 3 (by decide +kernel) ?_
    refine va_sld X.1 X.2.1 hX hbl hbA hw10.2.2 (q_in (by decide +kernel)) dL_law_1247 ?_
    refine q_c a3 e3 ?_
    have g_11248 : (4 : Int32) ≤ a2 := by
      simp only [Int32.lt_iff_toInt_lt, Int32.le_iff_toInt_le, ← Int32.toInt_inj] at c_10921 c_10950 ⊢
      have k_0 : ((-1) : Int32).toInt = -1 := by decide
      have k_1 : (3 : Int32).toInt = 3 := by decide
      have k_g : (4 : Int32).toInt = 4 := by decide
      omega
    refine q_callVi (rest := []) (wr := [(y0, .inr (12, [.int 0, .ref (u_1.1 19), .ref (u_1.1 0), .ref (u_1.1 1), .ref (u_1.1 2), .int 0, .int 0, .int 0, .int 0, .int 0, .int 0, .int 0, .int 0, .int 0, .int (-1), .int 0, .ref (u_1.1 3), .ref (u_1.1 4), .ref (u_1.1 5), .ref (u_1.1 6), .ref (u_1.1 7), .int 0, .int 0, .ref (u_1.1 8), .ref (u_1.1 9), .ref (u_1.1 10), .int 0, .int 0, .ref (u_1.1 11), .ref (u_1.1 12), .ref (u_1.1 13), .ref (u_1.1 14), .ref (u_1.1 15), .int 0, .ref (u_1.1 16), .ref (u_1.1 17), .ref (u_1.1 18)]))]) X hK hA hw10 (fun sz => kX11_numbers_449 l D cy x0 a2 a3 (u_0.1 0) (u_0.1 1) (u_0.1 37) (u_0.1 39) (u_0.1 41) (u_0.1 43) (u_0.1 14) (u_0.1 15) (u_0.1 16) (u_0.1 17) (u_0.1 20) (u_0.1 24) (u_0.1 29) g_11248 sz) wm_5_120 wm_5_123 wm_1_1 hd_X11_numbers wm_5_121 wm_5_122 (ci := 11) (q0 := 0) rfl rfl ⟨Nat.le_of_ble_eq_true rfl, Nat.le_of_ble_eq_true rfl⟩ hl.1 rfl (Nat.le_of_ble_eq_true rfl) dL_law_1248 ⟨Nat.le_of_ble_eq_true rfl, Nat.le_of_ble_eq_true rfl⟩ [0] [78] rfl rfl (by decide) rfl rfl (fun r_11249 u_11249 Hp11 lc11 w_11249 hw11 => ?_)
    clear Hp10 lc10 hw10
    obtain rfl : r_11249 = (-2) := w_11249
    replace hw11 : qW D _ _ [(y0, .inr (12, [.int 0, .ref (u_1.1 19), .ref (u_1.1 0), .ref (u_1.1 1), .ref (u_1.1 2), .int 0, .int 0, .int 0, .int 0, .int 0, .int 0, .int 0, .int 0, .int 0, .int (-1), .int 0, .ref (u_1.1 3), .ref (u_1.1 4), .ref (u_1.1 5), .ref (u_1.1 6), .ref (u_1.1 7), .int 0, .int 0, .ref (u_1.1 8), .ref (u_1.1 9), .ref (u_1.1 10), .int 0, .int 0, .ref (u_1.1 11), .ref (u_1.1 12), .ref (u_1.1 13), .ref (u_1.1 14), .ref (u_1.1 15), .int 0, .ref (u_1.1 16), .ref (u_1.1 17), .ref (u_1.1 18)]))] _ _ := hw11
    refine lv_aload_n hx hb dL_law_1251 rfl (lv_at hl 1 rfl) ?_
    refine lv_aload_n hx hb dL_law_1252 rfl (lv_at hl 3 rfl) ?_
    refine lv_iload_n hx hb dL_law_1253 rfl (lv_at hl 0 rfl) ?_
    refine lv_iconst (v := 1) hx hb dL_law_1254 (by decide) ?_
    refine lv_iadd hx hb dL_law_1255 ?_
    refine q_c 1 (by decide +kernel) ?_
    refine va_sld X.1 X.2.1 hX hbl hbA hw11.2.2 (q_in (by decide +kernel)) dL_law_1256 ?_
    refine q_c 0 e1 ?_
    refine lv_aload_n hx hb dL_law_1257 rfl (lv_at hl 3 rfl) ?_
    refine lv_iload_n hx hb dL_law_1258 rfl (lv_at hl 0 rfl) ?_
    refine lv_iconst (v := 2) hx hb dL_law_1259 (by decide) ?_
    refine lv_iadd hx hb dL_law_1260 ?_
    refine q_c 2 (by decide +kernel) ?_
    refine va_sld X.1 X.2.1 hX hbl hbA hw11.2.2 (q_in (by decide +kernel)) dL_law_1261 ?_
    refine q_c a2 e2 ?_
    refine lv_aload_n hx hb dL_law_1262 rfl (lv_at hl 3 rfl) ?_
    refine lv_iload_n hx hb dL_law_1263 rfl (lv_at hl 0 rfl) ?_
    refine lv_iconst (v := 3) hx hb dL_law_1264 (by decide) ?_
    refine lv_iadd hx hb dL_law_1265 ?_
    refine q_c 3 (by decide +kernel) ?_
    refine va_sld X.1 X.2.1 hX hbl hbA hw11.2.2 (q_in (by decide +kernel)) dL_law_1266 ?_
    refine q_c a3 e3 ?_
    have g_11255 : (4 : Int32) ≤ a2 := by
      simp only [Int32.lt_iff_toInt_lt, Int32.le_iff_toInt_le, ← Int32.toInt_inj] at c_10921 c_10950 ⊢
      have k_0 : ((-1) : Int32).toInt = -1 := by decide
      have k_1 : (3 : Int32).toInt = 3 := by decide
      have k_g : (4 : Int32).toInt = 4 := by decide
      omega
    refine q_callVi (rest := [.int (-2)]) (wr := []) X hK hA hw11 (fun sz => kX12_numbers_450 l D cy y0 a2 a3 (u_1.1 19) (u_1.1 0) (u_1.1 1) (u_1.1 2) (u_1.1 3) (u_1.1 4) (u_1.1 5) (u_1.1 6) (u_1.1 7) (u_1.1 8) (u_1.1 9) (u_1.1 10) (u_1.1 11) (u_1.1 12) (u_1.1 13) (u_1.1 14) (u_1.1 15) (u_1.1 16) (u_1.1 17) (u_1.1 18) g_11255 sz) wm_8_27 wm_8_30 wm_1_12 hd_X12_numbers wm_8_28 wm_8_29 (ci := 12) (q0 := 0) rfl rfl ⟨Nat.le_of_ble_eq_true rfl, Nat.le_of_ble_eq_true rfl⟩ hl.1 rfl (Nat.le_of_ble_eq_true rfl) dL_law_1267 ⟨Nat.le_of_ble_eq_true rfl, Nat.le_of_ble_eq_true rfl⟩ [0] [] rfl rfl (by decide) rfl rfl (fun r_11256 u_11256 Hp12 lc12 w_11256 hw12 => ?_)
    clear Hp11 lc11 hw11
    obtain rfl : r_11256 = (-2) := w_11256
    replace hw12 : qW D _ _ [] _ _ := hw12
    refine lv_icmp_eq (tgt := 1461) hx hb dL_law_1270 (by decide) (fun _ => ?_) (fun c => absurd c (by decide +kernel))
    exact law_tail l X hr hlk hX hbl hw12.2.2 hl (Nat.le_of_ble_eq_true rfl) (Nat.le_of_ble_eq_true rfl)
  by_cases c_11257 : a1 = 1
  · subst c_11257
    by_cases c_11280 : a2 ≤ (-1)
    · skip
      refine lv_aload_n hx hb dL_law_1232 rfl (lv_at hl 2 rfl) ?_
      refine lv_aload_n hx hb dL_law_1233 rfl (lv_at hl 3 rfl) ?_
      refine lv_iload_n hx hb dL_law_1234 rfl (lv_at hl 0 rfl) ?_
      refine lv_iconst (v := 1) hx hb dL_law_1235 (by decide) ?_
      refine lv_iadd hx hb dL_law_1236 ?_
      refine q_c 1 (by decide +kernel) ?_
      refine va_sld X.1 X.2.1 hX hbl hbA hw12.2.2 (q_in (by decide +kernel)) dL_law_1237 ?_
      refine q_c 1 e1 ?_
      refine lv_aload_n hx hb dL_law_1238 rfl (lv_at hl 3 rfl) ?_
      refine lv_iload_n hx hb dL_law_1239 rfl (lv_at hl 0 rfl) ?_
      refine lv_iconst (v := 2) hx hb dL_law_1240 (by decide) ?_
      refine lv_iadd hx hb dL_law_1241 ?_
      refine q_c 2 (by decide +kernel) ?_
      refine va_sld X.1 X.2.1 hX hbl hbA hw12.2.2 (q_in (by decide +kernel)) dL_law_1242 ?_
      refine q_c a2 e2 ?_
      refine lv_aload_n hx hb dL_law_1243 rfl (lv_at hl 3 rfl) ?_
      refine lv_iload_n hx hb dL_law_1244 rfl (lv_at hl 0 rfl) ?_
      refine lv_iconst (v := 3) hx hb dL_law_1245 (by decide) ?_
      refine lv_iadd hx hb dL_law_1246 ?_
      refine q_c 3 (by decide +kernel) ?_
      refine va_sld X.1 X.2.1 hX hbl hbA hw12.2.2 (q_in (by decide +kernel)) dL_law_1247 ?_
      refine q_c a3 e3 ?_
      have g_11301 : a2 ≤ ((-1) : Int32) := by
        simp only [Int32.lt_iff_toInt_lt, Int32.le_iff_toInt_le, ← Int32.toInt_inj] at c_11280 ⊢
        have k_0 : ((-1) : Int32).toInt = -1 := by decide
        omega
      refine q_callVi (rest := []) (wr := [(y0, .inr (12, [.int 0, .ref (u_1.1 19), .ref (u_1.1 0), .ref (u_1.1 1), .ref (u_1.1 2), .int 0, .int 0, .int 0, .int 0, .int 0, .int 0, .int 0, .int 0, .int 0, .int (-1), .int 0, .ref (u_1.1 3), .ref (u_1.1 4), .ref (u_1.1 5), .ref (u_1.1 6), .ref (u_1.1 7), .int 0, .int 0, .ref (u_1.1 8), .ref (u_1.1 9), .ref (u_1.1 10), .int 0, .int 0, .ref (u_1.1 11), .ref (u_1.1 12), .ref (u_1.1 13), .ref (u_1.1 14), .ref (u_1.1 15), .int 0, .ref (u_1.1 16), .ref (u_1.1 17), .ref (u_1.1 18)]))]) X hK hA hw12 (fun sz => kX11_numbers_451 l D cy x0 a2 a3 (u_0.1 0) (u_0.1 1) (u_0.1 37) (u_0.1 39) (u_0.1 41) (u_0.1 43) (u_0.1 14) (u_0.1 15) (u_0.1 16) (u_0.1 17) (u_0.1 20) (u_0.1 24) (u_0.1 29) g_11301 sz) wm_5_120 wm_5_123 wm_1_1 hd_X11_numbers wm_5_121 wm_5_122 (ci := 11) (q0 := 0) rfl rfl ⟨Nat.le_of_ble_eq_true rfl, Nat.le_of_ble_eq_true rfl⟩ hl.1 rfl (Nat.le_of_ble_eq_true rfl) dL_law_1248 ⟨Nat.le_of_ble_eq_true rfl, Nat.le_of_ble_eq_true rfl⟩ [0] [78] rfl rfl (by decide) rfl rfl (fun r_11302 u_11302 Hp13 lc13 w_11302 hw13 => ?_)
      clear Hp12 lc12 hw12
      obtain rfl : r_11302 = (-2) := w_11302
      replace hw13 : qW D _ _ [(y0, .inr (12, [.int 0, .ref (u_1.1 19), .ref (u_1.1 0), .ref (u_1.1 1), .ref (u_1.1 2), .int 0, .int 0, .int 0, .int 0, .int 0, .int 0, .int 0, .int 0, .int 0, .int (-1), .int 0, .ref (u_1.1 3), .ref (u_1.1 4), .ref (u_1.1 5), .ref (u_1.1 6), .ref (u_1.1 7), .int 0, .int 0, .ref (u_1.1 8), .ref (u_1.1 9), .ref (u_1.1 10), .int 0, .int 0, .ref (u_1.1 11), .ref (u_1.1 12), .ref (u_1.1 13), .ref (u_1.1 14), .ref (u_1.1 15), .int 0, .ref (u_1.1 16), .ref (u_1.1 17), .ref (u_1.1 18)]))] _ _ := hw13
      refine lv_aload_n hx hb dL_law_1251 rfl (lv_at hl 1 rfl) ?_
      refine lv_aload_n hx hb dL_law_1252 rfl (lv_at hl 3 rfl) ?_
      refine lv_iload_n hx hb dL_law_1253 rfl (lv_at hl 0 rfl) ?_
      refine lv_iconst (v := 1) hx hb dL_law_1254 (by decide) ?_
      refine lv_iadd hx hb dL_law_1255 ?_
      refine q_c 1 (by decide +kernel) ?_
      refine va_sld X.1 X.2.1 hX hbl hbA hw13.2.2 (q_in (by decide +kernel)) dL_law_1256 ?_
      refine q_c 1 e1 ?_
      refine lv_aload_n hx hb dL_law_1257 rfl (lv_at hl 3 rfl) ?_
      refine lv_iload_n hx hb dL_law_1258 rfl (lv_at hl 0 rfl) ?_
      refine lv_iconst (v := 2) hx hb dL_law_1259 (by decide) ?_
      refine lv_iadd hx hb dL_law_1260 ?_
      refine q_c 2 (by decide +kernel) ?_
      refine va_sld X.1 X.2.1 hX hbl hbA hw13.2.2 (q_in (by decide +kernel)) dL_law_1261 ?_
      refine q_c a2 e2 ?_
      refine lv_aload_n hx hb dL_law_1262 rfl (lv_at hl 3 rfl) ?_
      refine lv_iload_n hx hb dL_law_1263 rfl (lv_at hl 0 rfl) ?_
      refine lv_iconst (v := 3) hx hb dL_law_1264 (by decide) ?_
      refine lv_iadd hx hb dL_law_1265 ?_
      refine q_c 3 (by decide +kernel) ?_
      refine va_sld X.1 X.2.1 hX hbl hbA hw13.2.2 (q_in (by decide +kernel)) dL_law_1266 ?_
      refine q_c a3 e3 ?_
      have g_11307 : a2 ≤ ((-1) : Int32) := by
        simp only [Int32.lt_iff_toInt_lt, Int32.le_iff_toInt_le, ← Int32.toInt_inj] at c_11280 ⊢
        have k_0 : ((-1) : Int32).toInt = -1 := by decide
        omega
      refine q_callVi (rest := [.int (-2)]) (wr := []) X hK hA hw13 (fun sz => kX12_numbers_452 l D cy y0 a2 a3 (u_1.1 19) (u_1.1 0) (u_1.1 1) (u_1.1 2) (u_1.1 3) (u_1.1 4) (u_1.1 5) (u_1.1 6) (u_1.1 7) (u_1.1 8) (u_1.1 9) (u_1.1 10) (u_1.1 11) (u_1.1 12) (u_1.1 13) (u_1.1 14) (u_1.1 15) (u_1.1 16) (u_1.1 17) (u_1.1 18) g_11307 sz) wm_8_27 wm_8_30 wm_1_12 hd_X12_numbers wm_8_28 wm_8_29 (ci := 12) (q0 := 0) rfl rfl ⟨Nat.le_of_ble_eq_true rfl, Nat.le_of_ble_eq_true rfl⟩ hl.1 rfl (Nat.le_of_ble_eq_true rfl) dL_law_1267 ⟨Nat.le_of_ble_eq_true rfl, Nat.le_of_ble_eq_true rfl⟩ [0] [] rfl rfl (by decide) rfl rfl (fun r_11308 u_11308 Hp14 lc14 w_11308 hw14 => ?_)
      clear Hp13 lc13 hw13
      obtain rfl : r_11308 = (-2) := w_11308
      replace hw14 : qW D _ _ [] _ _ := hw14
      refine lv_icmp_eq (tgt := 1461) hx hb dL_law_1270 (by decide) (fun _ => ?_) (fun c => absurd c (by decide +kernel))
      exact law_tail l X hr hlk hX hbl hw14.2.2 hl (Nat.le_of_ble_eq_true rfl) (Nat.le_of_ble_eq_true rfl)
    by_cases c_11309 : a2 ≤ 3
    · skip
      by_cases c_11332 : a3 ≤ (-1)
      · skip
        refine lv_aload_n hx hb dL_law_1232 rfl (lv_at hl 2 rfl) ?_
        refine lv_aload_n hx hb dL_law_1233 rfl (lv_at hl 3 rfl) ?_
        refine lv_iload_n hx hb dL_law_1234 rfl (lv_at hl 0 rfl) ?_
        refine lv_iconst (v := 1) hx hb dL_law_1235 (by decide) ?_
        refine lv_iadd hx hb dL_law_1236 ?_
        refine q_c 1 (by decide +kernel) ?_
        refine va_sld X.1 X.2.1 hX hbl hbA hw14.2.2 (q_in (by decide +kernel)) dL_law_1237 ?_
        refine q_c 1 e1 ?_
        refine lv_aload_n hx hb dL_law_1238 rfl (lv_at hl 3 rfl) ?_
        refine lv_iload_n hx hb dL_law_1239 rfl (lv_at hl 0 rfl) ?_
        refine lv_iconst (v := 2) hx hb dL_law_1240 (by decide) ?_
        refine lv_iadd hx hb dL_law_1241 ?_
        refine q_c 2 (by decide +kernel) ?_
        refine va_sld X.1 X.2.1 hX hbl hbA hw14.2.2 (q_in (by decide +kernel)) dL_law_1242 ?_
        refine q_c a2 e2 ?_
        refine lv_aload_n hx hb dL_law_1243 rfl (lv_at hl 3 rfl) ?_
        refine lv_iload_n hx hb dL_law_1244 rfl (lv_at hl 0 rfl) ?_
        refine lv_iconst (v := 3) hx hb dL_law_1245 (by decide) ?_
        refine lv_iadd hx hb dL_law_1246 ?_
        refine q_c 3 (by decide +kernel) ?_
        refine va_sld X.1 X.2.1 hX hbl hbA hw14.2.2 (q_in (by decide +kernel)) dL_law_1247 ?_
        refine q_c a3 e3 ?_
        have g_11376 : (0 : Int32) ≤ a2 := by
          simp only [Int32.lt_iff_toInt_lt, Int32.le_iff_toInt_le, ← Int32.toInt_inj] at c_11280 c_11309 ⊢
          have k_0 : ((-1) : Int32).toInt = -1 := by decide
          have k_1 : (3 : Int32).toInt = 3 := by decide
          have k_g : (0 : Int32).toInt = 0 := by decide
          omega
        have g_11377 : a2 ≤ (3 : Int32) := by
          simp only [Int32.lt_iff_toInt_lt, Int32.le_iff_toInt_le, ← Int32.toInt_inj] at c_11280 c_11309 ⊢
          have k_0 : ((-1) : Int32).toInt = -1 := by decide
          have k_1 : (3 : Int32).toInt = 3 := by decide
          omega
        have g_11378 : a3 ≤ ((-1) : Int32) := by
          simp only [Int32.lt_iff_toInt_lt, Int32.le_iff_toInt_le, ← Int32.toInt_inj] at c_11332 ⊢
          have k_0 : ((-1) : Int32).toInt = -1 := by decide
          omega
        refine q_callVi (rest := []) (wr := [(y0, .inr (12, [.int 0, .ref (u_1.1 19), .ref (u_1.1 0), .ref (u_1.1 1), .ref (u_1.1 2), .int 0, .int 0, .int 0, .int 0, .int 0, .int 0, .int 0, .int 0, .int 0, .int (-1), .int 0, .ref (u_1.1 3), .ref (u_1.1 4), .ref (u_1.1 5), .ref (u_1.1 6), .ref (u_1.1 7), .int 0, .int 0, .ref (u_1.1 8), .ref (u_1.1 9), .ref (u_1.1 10), .int 0, .int 0, .ref (u_1.1 11), .ref (u_1.1 12), .ref (u_1.1 13), .ref (u_1.1 14), .ref (u_1.1 15), .int 0, .ref (u_1.1 16), .ref (u_1.1 17), .ref (u_1.1 18)]))]) X hK hA hw14 (fun sz => kX11_numbers_453 l D cy x0 a2 a3 (u_0.1 0) (u_0.1 1) (u_0.1 37) (u_0.1 39) (u_0.1 41) (u_0.1 43) (u_0.1 14) (u_0.1 15) (u_0.1 16) (u_0.1 17) (u_0.1 20) (u_0.1 24) (u_0.1 29) g_11376 g_11377 g_11378 sz) wm_5_120 wm_5_123 wm_1_1 hd_X11_numbers wm_5_121 wm_5_122 (ci := 11) (q0 := 0) rfl rfl ⟨Nat.le_of_ble_eq_true rfl, Nat.le_of_ble_eq_true rfl⟩ hl.1 rfl (Nat.le_of_ble_eq_true rfl) dL_law_1248 ⟨Nat.le_of_ble_eq_true rfl, Nat.le_of_ble_eq_true rfl⟩ [0] [78] rfl rfl (by decide) rfl rfl (fun r_11379 u_11379 Hp15 lc15 w_11379 hw15 => ?_)
        clear Hp14 lc14 hw14
        obtain rfl : r_11379 = (-3) := w_11379
        replace hw15 : qW D _ _ [(y0, .inr (12, [.int 0, .ref (u_1.1 19), .ref (u_1.1 0), .ref (u_1.1 1), .ref (u_1.1 2), .int 0, .int 0, .int 0, .int 0, .int 0, .int 0, .int 0, .int 0, .int 0, .int (-1), .int 0, .ref (u_1.1 3), .ref (u_1.1 4), .ref (u_1.1 5), .ref (u_1.1 6), .ref (u_1.1 7), .int 0, .int 0, .ref (u_1.1 8), .ref (u_1.1 9), .ref (u_1.1 10), .int 0, .int 0, .ref (u_1.1 11), .ref (u_1.1 12), .ref (u_1.1 13), .ref (u_1.1 14), .ref (u_1.1 15), .int 0, .ref (u_1.1 16), .ref (u_1.1 17), .ref (u_1.1 18)]))] _ _ := hw15
        refine lv_aload_n hx hb dL_law_1251 rfl (lv_at hl 1 rfl) ?_
        refine lv_aload_n hx hb dL_law_1252 rfl (lv_at hl 3 rfl) ?_
        refine lv_iload_n hx hb dL_law_1253 rfl (lv_at hl 0 rfl) ?_
        refine lv_iconst (v := 1) hx hb dL_law_1254 (by decide) ?_
        refine lv_iadd hx hb dL_law_1255 ?_
        refine q_c 1 (by decide +kernel) ?_
        refine va_sld X.1 X.2.1 hX hbl hbA hw15.2.2 (q_in (by decide +kernel)) dL_law_1256 ?_
        refine q_c 1 e1 ?_
        refine lv_aload_n hx hb dL_law_1257 rfl (lv_at hl 3 rfl) ?_
        refine lv_iload_n hx hb dL_law_1258 rfl (lv_at hl 0 rfl) ?_
        refine lv_iconst (v := 2) hx hb dL_law_1259 (by decide) ?_
        refine lv_iadd hx hb dL_law_1260 ?_
        refine q_c 2 (by decide +kernel) ?_
        refine va_sld X.1 X.2.1 hX hbl hbA hw15.2.2 (q_in (by decide +kernel)) dL_law_1261 ?_
        refine q_c a2 e2 ?_
        refine lv_aload_n hx hb dL_law_1262 rfl (lv_at hl 3 rfl) ?_
        refine lv_iload_n hx hb dL_law_1263 rfl (lv_at hl 0 rfl) ?_
        refine lv_iconst (v := 3) hx hb dL_law_1264 (by decide) ?_
        refine lv_iadd hx hb dL_law_1265 ?_
        refine q_c 3 (by decide +kernel) ?_
        refine va_sld X.1 X.2.1 hX hbl hbA hw15.2.2 (q_in (by decide +kernel)) dL_law_1266 ?_
        refine q_c a3 e3 ?_
        have g_11389 : (0 : Int32) ≤ a2 := by
          simp only [Int32.lt_iff_toInt_lt, Int32.le_iff_toInt_le, ← Int32.toInt_inj] at c_11280 c_11309 ⊢
          have k_0 : ((-1) : Int32).toInt = -1 := by decide
          have k_1 : (3 : Int32).toInt = 3 := by decide
          have k_g : (0 : Int32).toInt = 0 := by decide
          omega
        have g_11390 : a2 ≤ (3 : Int32) := by
          simp only [Int32.lt_iff_toInt_lt, Int32.le_iff_toInt_le, ← Int32.toInt_inj] at c_11280 c_11309 ⊢
          have k_0 : ((-1) : Int32).toInt = -1 := by decide
          have k_1 : (3 : Int32).toInt = 3 := by decide
          omega
        have g_11391 : a3 ≤ ((-1) : Int32) := by
          simp only [Int32.lt_iff_toInt_lt, Int32.le_iff_toInt_le, ← Int32.toInt_inj] at c_11332 ⊢
          have k_0 : ((-1) : Int32).toInt = -1 := by decide
          omega
        refine q_callVi (rest := [.int (-3)]) (wr := []) X hK hA hw15 (fun sz => kX12_numbers_454 l D cy y0 a2 a3 (u_1.1 19) (u_1.1 0) (u_1.1 1) (u_1.1 2) (u_1.1 3) (u_1.1 4) (u_1.1 5) (u_1.1 6) (u_1.1 7) (u_1.1 8) (u_1.1 9) (u_1.1 10) (u_1.1 11) (u_1.1 12) (u_1.1 13) (u_1.1 14) (u_1.1 15) (u_1.1 16) (u_1.1 17) (u_1.1 18) g_11389 g_11390 g_11391 sz) wm_8_27 wm_8_30 wm_1_12 hd_X12_numbers wm_8_28 wm_8_29 (ci := 12) (q0 := 0) rfl rfl ⟨Nat.le_of_ble_eq_true rfl, Nat.le_of_ble_eq_true rfl⟩ hl.1 rfl (Nat.le_of_ble_eq_true rfl) dL_law_1267 ⟨Nat.le_of_ble_eq_true rfl, Nat.le_of_ble_eq_true rfl⟩ [0] [] rfl rfl (by decide) rfl rfl (fun r_11392 u_11392 Hp16 lc16 w_11392 hw16 => ?_)
        clear Hp15 lc15 hw15
        obtain rfl : r_11392 = (-3) := w_11392
        replace hw16 : qW D _ _ [] _ _ := hw16
        refine lv_icmp_eq (tgt := 1461) hx hb dL_law_1270 (by decide) (fun _ => ?_) (fun c => absurd c (by decide +kernel))
        exact law_tail l X hr hlk hX hbl hw16.2.2 hl (Nat.le_of_ble_eq_true rfl) (Nat.le_of_ble_eq_true rfl)
      by_cases c_11393 : a3 ≤ 40
      · skip
        refine lv_aload_n hx hb dL_law_1232 rfl (lv_at hl 2 rfl) ?_
        refine lv_aload_n hx hb dL_law_1233 rfl (lv_at hl 3 rfl) ?_
        refine lv_iload_n hx hb dL_law_1234 rfl (lv_at hl 0 rfl) ?_
        refine lv_iconst (v := 1) hx hb dL_law_1235 (by decide) ?_
        refine lv_iadd hx hb dL_law_1236 ?_
        refine q_c 1 (by decide +kernel) ?_
        refine va_sld X.1 X.2.1 hX hbl hbA hw16.2.2 (q_in (by decide +kernel)) dL_law_1237 ?_
        refine q_c 1 e1 ?_
        refine lv_aload_n hx hb dL_law_1238 rfl (lv_at hl 3 rfl) ?_
        refine lv_iload_n hx hb dL_law_1239 rfl (lv_at hl 0 rfl) ?_
        refine lv_iconst (v := 2) hx hb dL_law_1240 (by decide) ?_
        refine lv_iadd hx hb dL_law_1241 ?_
        refine q_c 2 (by decide +kernel) ?_
        refine va_sld X.1 X.2.1 hX hbl hbA hw16.2.2 (q_in (by decide +kernel)) dL_law_1242 ?_
        refine q_c a2 e2 ?_
        refine lv_aload_n hx hb dL_law_1243 rfl (lv_at hl 3 rfl) ?_
        refine lv_iload_n hx hb dL_law_1244 rfl (lv_at hl 0 rfl) ?_
        refine lv_iconst (v := 3) hx hb dL_law_1245 (by decide) ?_
        refine lv_iadd hx hb dL_law_1246 ?_
        refine q_c 3 (by decide +kernel) ?_
        refine va_sld X.1 X.2.1 hX hbl hbA hw16.2.2 (q_in (by decide +kernel)) dL_law_1247 ?_
        refine q_c a3 e3 ?_
        have g_11477 : (0 : Int32) ≤ a2 := by
          simp only [Int32.lt_iff_toInt_lt, Int32.le_iff_toInt_le, ← Int32.toInt_inj] at c_11280 c_11309 ⊢
          have k_0 : ((-1) : Int32).toInt = -1 := by decide
          have k_1 : (3 : Int32).toInt = 3 := by decide
          have k_g : (0 : Int32).toInt = 0 := by decide
          omega
        have g_11478 : a2 ≤ (3 : Int32) := by
          simp only [Int32.lt_iff_toInt_lt, Int32.le_iff_toInt_le, ← Int32.toInt_inj] at c_11280 c_11309 ⊢
          have k_0 : ((-1) : Int32).toInt = -1 := by decide
          have k_1 : (3 : Int32).toInt = 3 := by decide
          omega
        have g_11479 : (0 : Int32) ≤ a3 := by
          simp only [Int32.lt_iff_toInt_lt, Int32.le_iff_toInt_le, ← Int32.toInt_inj] at c_11332 c_11393 ⊢
          have k_0 : ((-1) : Int32).toInt = -1 := by decide
          have k_1 : (40 : Int32).toInt = 40 := by decide
          have k_g : (0 : Int32).toInt = 0 := by decide
          omega
        have g_11480 : a3 ≤ (40 : Int32) := by
          simp only [Int32.lt_iff_toInt_lt, Int32.le_iff_toInt_le, ← Int32.toInt_inj] at c_11332 c_11393 ⊢
          have k_0 : ((-1) : Int32).toInt = -1 := by decide
          have k_1 : (40 : Int32).toInt = 40 := by decide
          omega
        refine q_callVi (rest := []) (wr := [(y0, .inr (12, [.int 0, .ref (u_1.1 19), .ref (u_1.1 0), .ref (u_1.1 1), .ref (u_1.1 2), .int 0, .int 0, .int 0, .int 0, .int 0, .int 0, .int 0, .int 0, .int 0, .int (-1), .int 0, .ref (u_1.1 3), .ref (u_1.1 4), .ref (u_1.1 5), .ref (u_1.1 6), .ref (u_1.1 7), .int 0, .int 0, .ref (u_1.1 8), .ref (u_1.1 9), .ref (u_1.1 10), .int 0, .int 0, .ref (u_1.1 11), .ref (u_1.1 12), .ref (u_1.1 13), .ref (u_1.1 14), .ref (u_1.1 15), .int 0, .ref (u_1.1 16), .ref (u_1.1 17), .ref (u_1.1 18)])), ((u_1.1 16), .inl (cy 1, 4, .inl (upd (upd (upd (upd (fun _ => 0) (Int32.toNatClampNeg 0) (-1)) (Int32.toNatClampNeg 1) (-1)) (Int32.toNatClampNeg 2) (-1)) (Int32.toNatClampNeg 3) (-1)))), ((u_1.1 17), .inl (cy 1, 4, .inl (fun _ => 0))), ((u_1.1 18), .inl (cy 2, 160, .inr (.inl (fun _ => 0))))]) X hK hA hw16 (fun sz => kX11_numbers_455 l D cy x0 (u_0.1 14) (u_0.1 67) (u_0.1 68) a2 a3 (u_0.1 0) (u_0.1 1) (u_0.1 37) (u_0.1 39) (u_0.1 41) (u_0.1 43) (u_0.1 15) (u_0.1 16) (u_0.1 17) (u_0.1 20) (u_0.1 24) (u_0.1 29) (u_0.1 71) (u_0.1 69) (u_0.1 65) g_11477 g_11478 g_11479 g_11480 sz) wm_5_120 wm_5_123 wm_1_1 hd_X11_numbers wm_5_121 wm_5_122 (ci := 11) (q0 := 0) rfl rfl ⟨Nat.le_of_ble_eq_true rfl, Nat.le_of_ble_eq_true rfl⟩ hl.1 rfl (Nat.le_of_ble_eq_true rfl) dL_law_1248 ⟨Nat.le_of_ble_eq_true rfl, Nat.le_of_ble_eq_true rfl⟩ [0, 15, 68, 69] [78, 95, 96, 97] rfl rfl (by decide) rfl rfl (fun r_11481 u_11481 Hp17 lc17 w_11481 hw17 => ?_)
        clear Hp16 lc16 hw16
        obtain rfl : r_11481 = 0 := w_11481
        replace hw17 : qW D _ _ [(y0, .inr (12, [.int 0, .ref (u_1.1 19), .ref (u_1.1 0), .ref (u_1.1 1), .ref (u_1.1 2), .int 0, .int 0, .int 0, .int 0, .int 0, .int 0, .int 0, .int 0, .int 0, .int (-1), .int 0, .ref (u_1.1 3), .ref (u_1.1 4), .ref (u_1.1 5), .ref (u_1.1 6), .ref (u_1.1 7), .int 0, .int 0, .ref (u_1.1 8), .ref (u_1.1 9), .ref (u_1.1 10), .int 0, .int 0, .ref (u_1.1 11), .ref (u_1.1 12), .ref (u_1.1 13), .ref (u_1.1 14), .ref (u_1.1 15), .int 0, .ref (u_1.1 16), .ref (u_1.1 17), .ref (u_1.1 18)])), ((u_1.1 16), .inl (cy 1, 4, .inl (upd (upd (upd (upd (fun _ => 0) (Int32.toNatClampNeg 0) (-1)) (Int32.toNatClampNeg 1) (-1)) (Int32.toNatClampNeg 2) (-1)) (Int32.toNatClampNeg 3) (-1)))), ((u_1.1 17), .inl (cy 1, 4, .inl (fun _ => 0))), ((u_1.1 18), .inl (cy 2, 160, .inr (.inl (fun _ => 0))))] _ _ := hw17
        refine lv_aload_n hx hb dL_law_1251 rfl (lv_at hl 1 rfl) ?_
        refine lv_aload_n hx hb dL_law_1252 rfl (lv_at hl 3 rfl) ?_
        refine lv_iload_n hx hb dL_law_1253 rfl (lv_at hl 0 rfl) ?_
        refine lv_iconst (v := 1) hx hb dL_law_1254 (by decide) ?_
        refine lv_iadd hx hb dL_law_1255 ?_
        refine q_c 1 (by decide +kernel) ?_
        refine va_sld X.1 X.2.1 hX hbl hbA hw17.2.2 (q_in (by decide +kernel)) dL_law_1256 ?_
        refine q_c 1 e1 ?_
        refine lv_aload_n hx hb dL_law_1257 rfl (lv_at hl 3 rfl) ?_
        refine lv_iload_n hx hb dL_law_1258 rfl (lv_at hl 0 rfl) ?_
        refine lv_iconst (v := 2) hx hb dL_law_1259 (by decide) ?_
        refine lv_iadd hx hb dL_law_1260 ?_
        refine q_c 2 (by decide +kernel) ?_
        refine va_sld X.1 X.2.1 hX hbl hbA hw17.2.2 (q_in (by decide +kernel)) dL_law_1261 ?_
        refine q_c a2 e2 ?_
        refine lv_aload_n hx hb dL_law_1262 rfl (lv_at hl 3 rfl) ?_
        refine lv_iload_n hx hb dL_law_1263 rfl (lv_at hl 0 rfl) ?_
        refine lv_iconst (v := 3) hx hb dL_law_1264 (by decide) ?_
        refine lv_iadd hx hb dL_law_1265 ?_
        refine q_c 3 (by decide +kernel) ?_
        refine va_sld X.1 X.2.1 hX hbl hbA hw17.2.2 (q_in (by decide +kernel)) dL_law_1266 ?_
        refine q_c a3 e3 ?_
        have g_11495 : (0 : Int32) ≤ a2 := by
          simp only [Int32.lt_iff_toInt_lt, Int32.le_iff_toInt_le, ← Int32.toInt_inj] at c_11280 c_11309 ⊢
          have k_0 : ((-1) : Int32).toInt = -1 := by decide
          have k_1 : (3 : Int32).toInt = 3 := by decide
          have k_g : (0 : Int32).toInt = 0 := by decide
          omega
        have g_11496 : a2 ≤ (3 : Int32) := by
          simp only [Int32.lt_iff_toInt_lt, Int32.le_iff_toInt_le, ← Int32.toInt_inj] at c_11280 c_11309 ⊢
          have k_0 : ((-1) : Int32).toInt = -1 := by decide
          have k_1 : (3 : Int32).toInt = 3 := by decide
          omega
        have g_11497 : (0 : Int32) ≤ a3 := by
          simp only [Int32.lt_iff_toInt_lt, Int32.le_iff_toInt_le, ← Int32.toInt_inj] at c_11332 c_11393 ⊢
          have k_0 : ((-1) : Int32).toInt = -1 := by decide
          have k_1 : (40 : Int32).toInt = 40 := by decide
          have k_g : (0 : Int32).toInt = 0 := by decide
          omega
        have g_11498 : a3 ≤ (40 : Int32) := by
          simp only [Int32.lt_iff_toInt_lt, Int32.le_iff_toInt_le, ← Int32.toInt_inj] at c_11332 c_11393 ⊢
          have k_0 : ((-1) : Int32).toInt = -1 := by decide
          have k_1 : (40 : Int32).toInt = 40 := by decide
          omega
        refine q_callVi (rest := [.int 0]) (wr := []) X hK hA hw17 (fun sz => kX12_numbers_456 l D cy y0 (u_1.1 16) (u_1.1 17) (u_1.1 18) (upd (upd (upd (upd (fun _ => 0) (Int32.toNatClampNeg 0) (-1)) (Int32.toNatClampNeg 1) (-1)) (Int32.toNatClampNeg 2) (-1)) (Int32.toNatClampNeg 3) (-1)) a2 a3 (u_1.1 19) (u_1.1 0) (u_1.1 1) (u_1.1 2) (u_1.1 3) (u_1.1 4) (u_1.1 5) (u_1.1 6) (u_1.1 7) (u_1.1 8) (u_1.1 9) (u_1.1 10) (u_1.1 11) (u_1.1 12) (u_1.1 13) (u_1.1 14) (u_1.1 15) g_11495 g_11496 g_11497 g_11498 sz) wm_8_27 wm_8_30 wm_1_12 hd_X12_numbers wm_8_28 wm_8_29 (ci := 12) (q0 := 0) rfl rfl ⟨Nat.le_of_ble_eq_true rfl, Nat.le_of_ble_eq_true rfl⟩ hl.1 rfl (Nat.le_of_ble_eq_true rfl) dL_law_1267 ⟨Nat.le_of_ble_eq_true rfl, Nat.le_of_ble_eq_true rfl⟩ [0, 1, 2, 3] [] rfl rfl (by decide) rfl rfl (fun r_11499 u_11499 Hp18 lc18 w_11499 hw18 => ?_)
        clear Hp17 lc17 hw17
        obtain rfl : r_11499 = 0 := w_11499
        replace hw18 : qW D _ _ [] _ _ := hw18
        refine lv_icmp_eq (tgt := 1461) hx hb dL_law_1270 (by decide) (fun _ => ?_) (fun c => absurd c (by decide +kernel))
        exact law_tail l X hr hlk hX hbl hw18.2.2 hl (Nat.le_of_ble_eq_true rfl) (Nat.le_of_ble_eq_true rfl)
      refine lv_aload_n hx hb dL_law_1232 rfl (lv_at hl 2 rfl) ?_
      refine lv_aload_n hx hb dL_law_1233 rfl (lv_at hl 3 rfl) ?_
      refine lv_iload_n hx hb dL_law_1234 rfl (lv_at hl 0 rfl) ?_
      refine lv_iconst (v := 1) hx hb dL_law_1235 (by decide) ?_
      refine lv_iadd hx hb dL_law_1236 ?_
      refine q_c 1 (by decide +kernel) ?_
      refine va_sld X.1 X.2.1 hX hbl hbA hw18.2.2 (q_in (by decide +kernel)) dL_law_1237 ?_
      refine q_c 1 e1 ?_
      refine lv_aload_n hx hb dL_law_1238 rfl (lv_at hl 3 rfl) ?_
      refine lv_iload_n hx hb dL_law_1239 rfl (lv_at hl 0 rfl) ?_
      refine lv_iconst (v := 2) hx hb dL_law_1240 (by decide) ?_
      refine lv_iadd hx hb dL_law_1241 ?_
      refine q_c 2 (by decide +kernel) ?_
      refine va_sld X.1 X.2.1 hX hbl hbA hw18.2.2 (q_in (by decide +kernel)) dL_law_1242 ?_
      refine q_c a2 e2 ?_
      refine lv_aload_n hx hb dL_law_1243 rfl (lv_at hl 3 rfl) ?_
      refine lv_iload_n hx hb dL_law_1244 rfl (lv_at hl 0 rfl) ?_
      refine lv_iconst (v := 3) hx hb dL_law_1245 (by decide) ?_
      refine lv_iadd hx hb dL_law_1246 ?_
      refine q_c 3 (by decide +kernel) ?_
      refine va_sld X.1 X.2.1 hX hbl hbA hw18.2.2 (q_in (by decide +kernel)) dL_law_1247 ?_
      refine q_c a3 e3 ?_
      have g_11551 : (0 : Int32) ≤ a2 := by
        simp only [Int32.lt_iff_toInt_lt, Int32.le_iff_toInt_le, ← Int32.toInt_inj] at c_11280 c_11309 ⊢
        have k_0 : ((-1) : Int32).toInt = -1 := by decide
        have k_1 : (3 : Int32).toInt = 3 := by decide
        have k_g : (0 : Int32).toInt = 0 := by decide
        omega
      have g_11552 : a2 ≤ (3 : Int32) := by
        simp only [Int32.lt_iff_toInt_lt, Int32.le_iff_toInt_le, ← Int32.toInt_inj] at c_11280 c_11309 ⊢
        have k_0 : ((-1) : Int32).toInt = -1 := by decide
        have k_1 : (3 : Int32).toInt = 3 := by decide
        omega
      have g_11553 : (41 : Int32) ≤ a3 := by
        simp only [Int32.lt_iff_toInt_lt, Int32.le_iff_toInt_le, ← Int32.toInt_inj] at c_11332 c_11393 ⊢
        have k_0 : ((-1) : Int32).toInt = -1 := by decide
        have k_1 : (40 : Int32).toInt = 40 := by decide
        have k_g : (41 : Int32).toInt = 41 := by decide
        omega
      refine q_callVi (rest := []) (wr := [(y0, .inr (12, [.int 0, .ref (u_1.1 19), .ref (u_1.1 0), .ref (u_1.1 1), .ref (u_1.1 2), .int 0, .int 0, .int 0, .int 0, .int 0, .int 0, .int 0, .int 0, .int 0, .int (-1), .int 0, .ref (u_1.1 3), .ref (u_1.1 4), .ref (u_1.1 5), .ref (u_1.1 6), .ref (u_1.1 7), .int 0, .int 0, .ref (u_1.1 8), .ref (u_1.1 9), .ref (u_1.1 10), .int 0, .int 0, .ref (u_1.1 11), .ref (u_1.1 12), .ref (u_1.1 13), .ref (u_1.1 14), .ref (u_1.1 15), .int 0, .ref (u_1.1 16), .ref (u_1.1 17), .ref (u_1.1 18)]))]) X hK hA hw18 (fun sz => kX11_numbers_457 l D cy x0 a2 a3 (u_0.1 0) (u_0.1 1) (u_0.1 37) (u_0.1 39) (u_0.1 41) (u_0.1 43) (u_0.1 14) (u_0.1 15) (u_0.1 16) (u_0.1 17) (u_0.1 20) (u_0.1 24) (u_0.1 29) g_11551 g_11552 g_11553 sz) wm_5_120 wm_5_123 wm_1_1 hd_X11_numbers wm_5_121 wm_5_122 (ci := 11) (q0 := 0) rfl rfl ⟨Nat.le_of_ble_eq_true rfl, Nat.le_of_ble_eq_true rfl⟩ hl.1 rfl (Nat.le_of_ble_eq_true rfl) dL_law_1248 ⟨Nat.le_of_ble_eq_true rfl, Nat.le_of_ble_eq_true rfl⟩ [0] [78] rfl rfl (by decide) rfl rfl (fun r_11554 u_11554 Hp19 lc19 w_11554 hw19 => ?_)
      clear Hp18 lc18 hw18
      obtain rfl : r_11554 = (-3) := w_11554
      replace hw19 : qW D _ _ [(y0, .inr (12, [.int 0, .ref (u_1.1 19), .ref (u_1.1 0), .ref (u_1.1 1), .ref (u_1.1 2), .int 0, .int 0, .int 0, .int 0, .int 0, .int 0, .int 0, .int 0, .int 0, .int (-1), .int 0, .ref (u_1.1 3), .ref (u_1.1 4), .ref (u_1.1 5), .ref (u_1.1 6), .ref (u_1.1 7), .int 0, .int 0, .ref (u_1.1 8), .ref (u_1.1 9), .ref (u_1.1 10), .int 0, .int 0, .ref (u_1.1 11), .ref (u_1.1 12), .ref (u_1.1 13), .ref (u_1.1 14), .ref (u_1.1 15), .int 0, .ref (u_1.1 16), .ref (u_1.1 17), .ref (u_1.1 18)]))] _ _ := hw19
      refine lv_aload_n hx hb dL_law_1251 rfl (lv_at hl 1 rfl) ?_
      refine lv_aload_n hx hb dL_law_1252 rfl (lv_at hl 3 rfl) ?_
      refine lv_iload_n hx hb dL_law_1253 rfl (lv_at hl 0 rfl) ?_
      refine lv_iconst (v := 1) hx hb dL_law_1254 (by decide) ?_
      refine lv_iadd hx hb dL_law_1255 ?_
      refine q_c 1 (by decide +kernel) ?_
      refine va_sld X.1 X.2.1 hX hbl hbA hw19.2.2 (q_in (by decide +kernel)) dL_law_1256 ?_
      refine q_c 1 e1 ?_
      refine lv_aload_n hx hb dL_law_1257 rfl (lv_at hl 3 rfl) ?_
      refine lv_iload_n hx hb dL_law_1258 rfl (lv_at hl 0 rfl) ?_
      refine lv_iconst (v := 2) hx hb dL_law_1259 (by decide) ?_
      refine lv_iadd hx hb dL_law_1260 ?_
      refine q_c 2 (by decide +kernel) ?_
      refine va_sld X.1 X.2.1 hX hbl hbA hw19.2.2 (q_in (by decide +kernel)) dL_law_1261 ?_
      refine q_c a2 e2 ?_
      refine lv_aload_n hx hb dL_law_1262 rfl (lv_at hl 3 rfl) ?_
      refine lv_iload_n hx hb dL_law_1263 rfl (lv_at hl 0 rfl) ?_
      refine lv_iconst (v := 3) hx hb dL_law_1264 (by decide) ?_
      refine lv_iadd hx hb dL_law_1265 ?_
      refine q_c 3 (by decide +kernel) ?_
      refine va_sld X.1 X.2.1 hX hbl hbA hw19.2.2 (q_in (by decide +kernel)) dL_law_1266 ?_
      refine q_c a3 e3 ?_
      have g_11565 : (0 : Int32) ≤ a2 := by
        simp only [Int32.lt_iff_toInt_lt, Int32.le_iff_toInt_le, ← Int32.toInt_inj] at c_11280 c_11309 ⊢
        have k_0 : ((-1) : Int32).toInt = -1 := by decide
        have k_1 : (3 : Int32).toInt = 3 := by decide
        have k_g : (0 : Int32).toInt = 0 := by decide
        omega
      have g_11566 : a2 ≤ (3 : Int32) := by
        simp only [Int32.lt_iff_toInt_lt, Int32.le_iff_toInt_le, ← Int32.toInt_inj] at c_11280 c_11309 ⊢
        have k_0 : ((-1) : Int32).toInt = -1 := by decide
        have k_1 : (3 : Int32).toInt = 3 := by decide
        omega
      have g_11567 : (41 : Int32) ≤ a3 := by
        simp only [Int32.lt_iff_toInt_lt, Int32.le_iff_toInt_le, ← Int32.toInt_inj] at c_11332 c_11393 ⊢
        have k_0 : ((-1) : Int32).toInt = -1 := by decide
        have k_1 : (40 : Int32).toInt = 40 := by decide
        have k_g : (41 : Int32).toInt = 41 := by decide
        omega
      refine q_callVi (rest := [.int (-3)]) (wr := []) X hK hA hw19 (fun sz => kX12_numbers_458 l D cy y0 a2 a3 (u_1.1 19) (u_1.1 0) (u_1.1 1) (u_1.1 2) (u_1.1 3) (u_1.1 4) (u_1.1 5) (u_1.1 6) (u_1.1 7) (u_1.1 8) (u_1.1 9) (u_1.1 10) (u_1.1 11) (u_1.1 12) (u_1.1 13) (u_1.1 14) (u_1.1 15) (u_1.1 16) (u_1.1 17) (u_1.1 18) g_11565 g_11566 g_11567 sz) wm_8_27 wm_8_30 wm_1_12 hd_X12_numbers wm_8_28 wm_8_29 (ci := 12) (q0 := 0) rfl rfl ⟨Nat.le_of_ble_eq_true rfl, Nat.le_of_ble_eq_true rfl⟩ hl.1 rfl (Nat.le_of_ble_eq_true rfl) dL_law_1267 ⟨Nat.le_of_ble_eq_true rfl, Nat.le_of_ble_eq_true rfl⟩ [0] [] rfl rfl (by decide) rfl rfl (fun r_11568 u_11568 Hp20 lc20 w_11568 hw20 => ?_)
      clear Hp19 lc19 hw19
      obtain rfl : r_11568 = (-3) := w_11568
      replace hw20 : qW D _ _ [] _ _ := hw20
      refine lv_icmp_eq (tgt := 1461) hx hb dL_law_1270 (by decide) (fun _ => ?_) (fun c => absurd c (by decide +kernel))
      exact law_tail l X hr hlk hX hbl hw20.2.2 hl (Nat.le_of_ble_eq_true rfl) (Nat.le_of_ble_eq_true rfl)
    refine lv_aload_n hx hb dL_law_1232 rfl (lv_at hl 2 rfl) ?_
    refine lv_aload_n hx hb dL_law_1233 rfl (lv_at hl 3 rfl) ?_
    refine lv_iload_n hx hb dL_law_1234 rfl (lv_at hl 0 rfl) ?_
    refine lv_iconst (v := 1) hx hb dL_law_1235 (by decide) ?_
    refine lv_iadd hx hb dL_law_1236 ?_
    refine q_c 1 (by decide +kernel) ?_
    refine va_sld X.1 X.2.1 hX hbl hbA hw20.2.2 (q_in (by decide +kernel)) dL_law_1237 ?_
    refine q_c 1 e1 ?_
    refine lv_aload_n hx hb dL_law_1238 rfl (lv_at hl 3 rfl) ?_
    refine lv_iload_n hx hb dL_law_1239 rfl (lv_at hl 0 rfl) ?_
    refine lv_iconst (v := 2) hx hb dL_law_1240 (by decide) ?_
    refine lv_iadd hx hb dL_law_1241 ?_
    refine q_c 2 (by decide +kernel) ?_
    refine va_sld X.1 X.2.1 hX hbl hbA hw20.2.2 (q_in (by decide +kernel)) dL_law_1242 ?_
    refine q_c a2 e2 ?_
    refine lv_aload_n hx hb dL_law_1243 rfl (lv_at hl 3 rfl) ?_
    refine lv_iload_n hx hb dL_law_1244 rfl (lv_at hl 0 rfl) ?_
    refine lv_iconst (v := 3) hx hb dL_law_1245 (by decide) ?_
    refine lv_iadd hx hb dL_law_1246 ?_
    refine q_c 3 (by decide +kernel) ?_
    refine va_sld X.1 X.2.1 hX hbl hbA hw20.2.2 (q_in (by decide +kernel)) dL_law_1247 ?_
    refine q_c a3 e3 ?_
    have g_11597 : (4 : Int32) ≤ a2 := by
      simp only [Int32.lt_iff_toInt_lt, Int32.le_iff_toInt_le, ← Int32.toInt_inj] at c_11280 c_11309 ⊢
      have k_0 : ((-1) : Int32).toInt = -1 := by decide
      have k_1 : (3 : Int32).toInt = 3 := by decide
      have k_g : (4 : Int32).toInt = 4 := by decide
      omega
    refine q_callVi (rest := []) (wr := [(y0, .inr (12, [.int 0, .ref (u_1.1 19), .ref (u_1.1 0), .ref (u_1.1 1), .ref (u_1.1 2), .int 0, .int 0, .int 0, .int 0, .int 0, .int 0, .int 0, .int 0, .int 0, .int (-1), .int 0, .ref (u_1.1 3), .ref (u_1.1 4), .ref (u_1.1 5), .ref (u_1.1 6), .ref (u_1.1 7), .int 0, .int 0, .ref (u_1.1 8), .ref (u_1.1 9), .ref (u_1.1 10), .int 0, .int 0, .ref (u_1.1 11), .ref (u_1.1 12), .ref (u_1.1 13), .ref (u_1.1 14), .ref (u_1.1 15), .int 0, .ref (u_1.1 16), .ref (u_1.1 17), .ref (u_1.1 18)]))]) X hK hA hw20 (fun sz => kX11_numbers_459 l D cy x0 a2 a3 (u_0.1 0) (u_0.1 1) (u_0.1 37) (u_0.1 39) (u_0.1 41) (u_0.1 43) (u_0.1 14) (u_0.1 15) (u_0.1 16) (u_0.1 17) (u_0.1 20) (u_0.1 24) (u_0.1 29) g_11597 sz) wm_5_120 wm_5_123 wm_1_1 hd_X11_numbers wm_5_121 wm_5_122 (ci := 11) (q0 := 0) rfl rfl ⟨Nat.le_of_ble_eq_true rfl, Nat.le_of_ble_eq_true rfl⟩ hl.1 rfl (Nat.le_of_ble_eq_true rfl) dL_law_1248 ⟨Nat.le_of_ble_eq_true rfl, Nat.le_of_ble_eq_true rfl⟩ [0] [78] rfl rfl (by decide) rfl rfl (fun r_11598 u_11598 Hp21 lc21 w_11598 hw21 => ?_)
    clear Hp20 lc20 hw20
    obtain rfl : r_11598 = (-2) := w_11598
    replace hw21 : qW D _ _ [(y0, .inr (12, [.int 0, .ref (u_1.1 19), .ref (u_1.1 0), .ref (u_1.1 1), .ref (u_1.1 2), .int 0, .int 0, .int 0, .int 0, .int 0, .int 0, .int 0, .int 0, .int 0, .int (-1), .int 0, .ref (u_1.1 3), .ref (u_1.1 4), .ref (u_1.1 5), .ref (u_1.1 6), .ref (u_1.1 7), .int 0, .int 0, .ref (u_1.1 8), .ref (u_1.1 9), .ref (u_1.1 10), .int 0, .int 0, .ref (u_1.1 11), .ref (u_1.1 12), .ref (u_1.1 13), .ref (u_1.1 14), .ref (u_1.1 15), .int 0, .ref (u_1.1 16), .ref (u_1.1 17), .ref (u_1.1 18)]))] _ _ := hw21
    refine lv_aload_n hx hb dL_law_1251 rfl (lv_at hl 1 rfl) ?_
    refine lv_aload_n hx hb dL_law_1252 rfl (lv_at hl 3 rfl) ?_
    refine lv_iload_n hx hb dL_law_1253 rfl (lv_at hl 0 rfl) ?_
    refine lv_iconst (v := 1) hx hb dL_law_1254 (by decide) ?_
    refine lv_iadd hx hb dL_law_1255 ?_
    refine q_c 1 (by decide +kernel) ?_
    refine va_sld X.1 X.2.1 hX hbl hbA hw21.2.2 (q_in (by decide +kernel)) dL_law_1256 ?_
    refine q_c 1 e1 ?_
    refine lv_aload_n hx hb dL_law_1257 rfl (lv_at hl 3 rfl) ?_
    refine lv_iload_n hx hb dL_law_1258 rfl (lv_at hl 0 rfl) ?_
    refine lv_iconst (v := 2) hx hb dL_law_1259 (by decide) ?_
    refine lv_iadd hx hb dL_law_1260 ?_
    refine q_c 2 (by decide +kernel) ?_
    refine va_sld X.1 X.2.1 hX hbl hbA hw21.2.2 (q_in (by decide +kernel)) dL_law_1261 ?_
    refine q_c a2 e2 ?_
    refine lv_aload_n hx hb dL_law_1262 rfl (lv_at hl 3 rfl) ?_
    refine lv_iload_n hx hb dL_law_1263 rfl (lv_at hl 0 rfl) ?_
    refine lv_iconst (v := 3) hx hb dL_law_1264 (by decide) ?_
    refine lv_iadd hx hb dL_law_1265 ?_
    refine q_c 3 (by decide +kernel) ?_
    refine va_sld X.1 X.2.1 hX hbl hbA hw21.2.2 (q_in (by decide +kernel)) dL_law_1266 ?_
    refine q_c a3 e3 ?_
    have g_11604 : (4 : Int32) ≤ a2 := by
      simp only [Int32.lt_iff_toInt_lt, Int32.le_iff_toInt_le, ← Int32.toInt_inj] at c_11280 c_11309 ⊢
      have k_0 : ((-1) : Int32).toInt = -1 := by decide
      have k_1 : (3 : Int32).toInt = 3 := by decide
      have k_g : (4 : Int32).toInt = 4 := by decide
      omega
    refine q_callVi (rest := [.int (-2)]) (wr := []) X hK hA hw21 (fun sz => kX12_numbers_460 l D cy y0 a2 a3 (u_1.1 19) (u_1.1 0) (u_1.1 1) (u_1.1 2) (u_1.1 3) (u_1.1 4) (u_1.1 5) (u_1.1 6) (u_1.1 7) (u_1.1 8) (u_1.1 9) (u_1.1 10) (u_1.1 11) (u_1.1 12) (u_1.1 13) (u_1.1 14) (u_1.1 15) (u_1.1 16) (u_1.1 17) (u_1.1 18) g_11604 sz) wm_8_27 wm_8_30 wm_1_12 hd_X12_numbers wm_8_28 wm_8_29 (ci := 12) (q0 := 0) rfl rfl ⟨Nat.le_of_ble_eq_true rfl, Nat.le_of_ble_eq_true rfl⟩ hl.1 rfl (Nat.le_of_ble_eq_true rfl) dL_law_1267 ⟨Nat.le_of_ble_eq_true rfl, Nat.le_of_ble_eq_true rfl⟩ [0] [] rfl rfl (by decide) rfl rfl (fun r_11605 u_11605 Hp22 lc22 w_11605 hw22 => ?_)
    clear Hp21 lc21 hw21
    obtain rfl : r_11605 = (-2) := w_11605
    replace hw22 : qW D _ _ [] _ _ := hw22
    refine lv_icmp_eq (tgt := 1461) hx hb dL_law_1270 (by decide) (fun _ => ?_) (fun c => absurd c (by decide +kernel))
    exact law_tail l X hr hlk hX hbl hw22.2.2 hl (Nat.le_of_ble_eq_true rfl) (Nat.le_of_ble_eq_true rfl)
  by_cases c_11606 : a1 = 2
  · subst c_11606
    by_cases c_11629 : a2 ≤ (-1)
    · skip
      refine lv_aload_n hx hb dL_law_1232 rfl (lv_at hl 2 rfl) ?_
      refine lv_aload_n hx hb dL_law_1233 rfl (lv_at hl 3 rfl) ?_
      refine lv_iload_n hx hb dL_law_1234 rfl (lv_at hl 0 rfl) ?_
      refine lv_iconst (v := 1) hx hb dL_law_1235 (by decide) ?_
      refine lv_iadd hx hb dL_law_1236 ?_
      refine q_c 1 (by decide +kernel) ?_
      refine va_sld X.1 X.2.1 hX hbl hbA hw22.2.2 (q_in (by decide +kernel)) dL_law_1237 ?_
      refine q_c 2 e1 ?_
      refine lv_aload_n hx hb dL_law_1238 rfl (lv_at hl 3 rfl) ?_
      refine lv_iload_n hx hb dL_law_1239 rfl (lv_at hl 0 rfl) ?_
      refine lv_iconst (v := 2) hx hb dL_law_1240 (by decide) ?_
      refine lv_iadd hx hb dL_law_1241 ?_
      refine q_c 2 (by decide +kernel) ?_
      refine va_sld X.1 X.2.1 hX hbl hbA hw22.2.2 (q_in (by decide +kernel)) dL_law_1242 ?_
      refine q_c a2 e2 ?_
      refine lv_aload_n hx hb dL_law_1243 rfl (lv_at hl 3 rfl) ?_
      refine lv_iload_n hx hb dL_law_1244 rfl (lv_at hl 0 rfl) ?_
      refine lv_iconst (v := 3) hx hb dL_law_1245 (by decide) ?_
      refine lv_iadd hx hb dL_law_1246 ?_
      refine q_c 3 (by decide +kernel) ?_
      refine va_sld X.1 X.2.1 hX hbl hbA hw22.2.2 (q_in (by decide +kernel)) dL_law_1247 ?_
      refine q_c a3 e3 ?_
      have g_11650 : a2 ≤ ((-1) : Int32) := by
        simp only [Int32.lt_iff_toInt_lt, Int32.le_iff_toInt_le, ← Int32.toInt_inj] at c_11629 ⊢
        have k_0 : ((-1) : Int32).toInt = -1 := by decide
        omega
      refine q_callVi (rest := []) (wr := [(y0, .inr (12, [.int 0, .ref (u_1.1 19), .ref (u_1.1 0), .ref (u_1.1 1), .ref (u_1.1 2), .int 0, .int 0, .int 0, .int 0, .int 0, .int 0, .int 0, .int 0, .int 0, .int (-1), .int 0, .ref (u_1.1 3), .ref (u_1.1 4), .ref (u_1.1 5), .ref (u_1.1 6), .ref (u_1.1 7), .int 0, .int 0, .ref (u_1.1 8), .ref (u_1.1 9), .ref (u_1.1 10), .int 0, .int 0, .ref (u_1.1 11), .ref (u_1.1 12), .ref (u_1.1 13), .ref (u_1.1 14), .ref (u_1.1 15), .int 0, .ref (u_1.1 16), .ref (u_1.1 17), .ref (u_1.1 18)]))]) X hK hA hw22 (fun sz => kX11_numbers_461 l D cy x0 a2 a3 (u_0.1 0) (u_0.1 1) (u_0.1 37) (u_0.1 39) (u_0.1 41) (u_0.1 43) (u_0.1 14) (u_0.1 15) (u_0.1 16) (u_0.1 17) (u_0.1 20) (u_0.1 24) (u_0.1 29) g_11650 sz) wm_5_120 wm_5_123 wm_1_1 hd_X11_numbers wm_5_121 wm_5_122 (ci := 11) (q0 := 0) rfl rfl ⟨Nat.le_of_ble_eq_true rfl, Nat.le_of_ble_eq_true rfl⟩ hl.1 rfl (Nat.le_of_ble_eq_true rfl) dL_law_1248 ⟨Nat.le_of_ble_eq_true rfl, Nat.le_of_ble_eq_true rfl⟩ [0] [78] rfl rfl (by decide) rfl rfl (fun r_11651 u_11651 Hp23 lc23 w_11651 hw23 => ?_)
      clear Hp22 lc22 hw22
      obtain rfl : r_11651 = (-2) := w_11651
      replace hw23 : qW D _ _ [(y0, .inr (12, [.int 0, .ref (u_1.1 19), .ref (u_1.1 0), .ref (u_1.1 1), .ref (u_1.1 2), .int 0, .int 0, .int 0, .int 0, .int 0, .int 0, .int 0, .int 0, .int 0, .int (-1), .int 0, .ref (u_1.1 3), .ref (u_1.1 4), .ref (u_1.1 5), .ref (u_1.1 6), .ref (u_1.1 7), .int 0, .int 0, .ref (u_1.1 8), .ref (u_1.1 9), .ref (u_1.1 10), .int 0, .int 0, .ref (u_1.1 11), .ref (u_1.1 12), .ref (u_1.1 13), .ref (u_1.1 14), .ref (u_1.1 15), .int 0, .ref (u_1.1 16), .ref (u_1.1 17), .ref (u_1.1 18)]))] _ _ := hw23
      refine lv_aload_n hx hb dL_law_1251 rfl (lv_at hl 1 rfl) ?_
      refine lv_aload_n hx hb dL_law_1252 rfl (lv_at hl 3 rfl) ?_
      refine lv_iload_n hx hb dL_law_1253 rfl (lv_at hl 0 rfl) ?_
      refine lv_iconst (v := 1) hx hb dL_law_1254 (by decide) ?_
      refine lv_iadd hx hb dL_law_1255 ?_
      refine q_c 1 (by decide +kernel) ?_
      refine va_sld X.1 X.2.1 hX hbl hbA hw23.2.2 (q_in (by decide +kernel)) dL_law_1256 ?_
      refine q_c 2 e1 ?_
      refine lv_aload_n hx hb dL_law_1257 rfl (lv_at hl 3 rfl) ?_
      refine lv_iload_n hx hb dL_law_1258 rfl (lv_at hl 0 rfl) ?_
      refine lv_iconst (v := 2) hx hb dL_law_1259 (by decide) ?_
      refine lv_iadd hx hb dL_law_1260 ?_
      refine q_c 2 (by decide +kernel) ?_
      refine va_sld X.1 X.2.1 hX hbl hbA hw23.2.2 (q_in (by decide +kernel)) dL_law_1261 ?_
      refine q_c a2 e2 ?_
      refine lv_aload_n hx hb dL_law_1262 rfl (lv_at hl 3 rfl) ?_
      refine lv_iload_n hx hb dL_law_1263 rfl (lv_at hl 0 rfl) ?_
      refine lv_iconst (v := 3) hx hb dL_law_1264 (by decide) ?_
      refine lv_iadd hx hb dL_law_1265 ?_
      refine q_c 3 (by decide +kernel) ?_
      refine va_sld X.1 X.2.1 hX hbl hbA hw23.2.2 (q_in (by decide +kernel)) dL_law_1266 ?_
      refine q_c a3 e3 ?_
      have g_11656 : a2 ≤ ((-1) : Int32) := by
        simp only [Int32.lt_iff_toInt_lt, Int32.le_iff_toInt_le, ← Int32.toInt_inj] at c_11629 ⊢
        have k_0 : ((-1) : Int32).toInt = -1 := by decide
        omega
      refine q_callVi (rest := [.int (-2)]) (wr := []) X hK hA hw23 (fun sz => kX12_numbers_462 l D cy y0 a2 a3 (u_1.1 19) (u_1.1 0) (u_1.1 1) (u_1.1 2) (u_1.1 3) (u_1.1 4) (u_1.1 5) (u_1.1 6) (u_1.1 7) (u_1.1 8) (u_1.1 9) (u_1.1 10) (u_1.1 11) (u_1.1 12) (u_1.1 13) (u_1.1 14) (u_1.1 15) (u_1.1 16) (u_1.1 17) (u_1.1 18) g_11656 sz) wm_8_27 wm_8_30 wm_1_12 hd_X12_numbers wm_8_28 wm_8_29 (ci := 12) (q0 := 0) rfl rfl ⟨Nat.le_of_ble_eq_true rfl, Nat.le_of_ble_eq_true rfl⟩ hl.1 rfl (Nat.le_of_ble_eq_true rfl) dL_law_1267 ⟨Nat.le_of_ble_eq_true rfl, Nat.le_of_ble_eq_true rfl⟩ [0] [] rfl rfl (by decide) rfl rfl (fun r_11657 u_11657 Hp24 lc24 w_11657 hw24 => ?_)
      clear Hp23 lc23 hw23
      obtain rfl : r_11657 = (-2) := w_11657
      replace hw24 : qW D _ _ [] _ _ := hw24
      refine lv_icmp_eq (tgt := 1461) hx hb dL_law_1270 (by decide) (fun _ => ?_) (fun c => absurd c (by decide +kernel))
      exact law_tail l X hr hlk hX hbl hw24.2.2 hl (Nat.le_of_ble_eq_true rfl) (Nat.le_of_ble_eq_true rfl)
    by_cases c_11658 : a2 ≤ 3
    · skip
      by_cases c_11681 : a3 ≤ (-1)
      · skip
        refine lv_aload_n hx hb dL_law_1232 rfl (lv_at hl 2 rfl) ?_
        refine lv_aload_n hx hb dL_law_1233 rfl (lv_at hl 3 rfl) ?_
        refine lv_iload_n hx hb dL_law_1234 rfl (lv_at hl 0 rfl) ?_
        refine lv_iconst (v := 1) hx hb dL_law_1235 (by decide) ?_
        refine lv_iadd hx hb dL_law_1236 ?_
        refine q_c 1 (by decide +kernel) ?_
        refine va_sld X.1 X.2.1 hX hbl hbA hw24.2.2 (q_in (by decide +kernel)) dL_law_1237 ?_
        refine q_c 2 e1 ?_
        refine lv_aload_n hx hb dL_law_1238 rfl (lv_at hl 3 rfl) ?_
        refine lv_iload_n hx hb dL_law_1239 rfl (lv_at hl 0 rfl) ?_
        refine lv_iconst (v := 2) hx hb dL_law_1240 (by decide) ?_
        refine lv_iadd hx hb dL_law_1241 ?_
        refine q_c 2 (by decide +kernel) ?_
        refine va_sld X.1 X.2.1 hX hbl hbA hw24.2.2 (q_in (by decide +kernel)) dL_law_1242 ?_
        refine q_c a2 e2 ?_
        refine lv_aload_n hx hb dL_law_1243 rfl (lv_at hl 3 rfl) ?_
        refine lv_iload_n hx hb dL_law_1244 rfl (lv_at hl 0 rfl) ?_
        refine lv_iconst (v := 3) hx hb dL_law_1245 (by decide) ?_
        refine lv_iadd hx hb dL_law_1246 ?_
        refine q_c 3 (by decide +kernel) ?_
        refine va_sld X.1 X.2.1 hX hbl hbA hw24.2.2 (q_in (by decide +kernel)) dL_law_1247 ?_
        refine q_c a3 e3 ?_
        have g_11725 : (0 : Int32) ≤ a2 := by
          simp only [Int32.lt_iff_toInt_lt, Int32.le_iff_toInt_le, ← Int32.toInt_inj] at c_11629 c_11658 ⊢
          have k_0 : ((-1) : Int32).toInt = -1 := by decide
          have k_1 : (3 : Int32).toInt = 3 := by decide
          have k_g : (0 : Int32).toInt = 0 := by decide
          omega
        have g_11726 : a2 ≤ (3 : Int32) := by
          simp only [Int32.lt_iff_toInt_lt, Int32.le_iff_toInt_le, ← Int32.toInt_inj] at c_11629 c_11658 ⊢
          have k_0 : ((-1) : Int32).toInt = -1 := by decide
          have k_1 : (3 : Int32).toInt = 3 := by decide
          omega
        have g_11727 : a3 ≤ ((-1) : Int32) := by
          simp only [Int32.lt_iff_toInt_lt, Int32.le_iff_toInt_le, ← Int32.toInt_inj] at c_11681 ⊢
          have k_0 : ((-1) : Int32).toInt = -1 := by decide
          omega
        refine q_callVi (rest := []) (wr := [(y0, .inr (12, [.int 0, .ref (u_1.1 19), .ref (u_1.1 0), .ref (u_1.1 1), .ref (u_1.1 2), .int 0, .int 0, .int 0, .int 0, .int 0, .int 0, .int 0, .int 0, .int 0, .int (-1), .int 0, .ref (u_1.1 3), .ref (u_1.1 4), .ref (u_1.1 5), .ref (u_1.1 6), .ref (u_1.1 7), .int 0, .int 0, .ref (u_1.1 8), .ref (u_1.1 9), .ref (u_1.1 10), .int 0, .int 0, .ref (u_1.1 11), .ref (u_1.1 12), .ref (u_1.1 13), .ref (u_1.1 14), .ref (u_1.1 15), .int 0, .ref (u_1.1 16), .ref (u_1.1 17), .ref (u_1.1 18)]))]) X hK hA hw24 (fun sz => kX11_numbers_463 l D cy x0 a2 a3 (u_0.1 0) (u_0.1 1) (u_0.1 37) (u_0.1 39) (u_0.1 41) (u_0.1 43) (u_0.1 14) (u_0.1 15) (u_0.1 16) (u_0.1 17) (u_0.1 20) (u_0.1 24) (u_0.1 29) g_11725 g_11726 g_11727 sz) wm_5_120 wm_5_123 wm_1_1 hd_X11_numbers wm_5_121 wm_5_122 (ci := 11) (q0 := 0) rfl rfl ⟨Nat.le_of_ble_eq_true rfl, Nat.le_of_ble_eq_true rfl⟩ hl.1 rfl (Nat.le_of_ble_eq_true rfl) dL_law_1248 ⟨Nat.le_of_ble_eq_true rfl, Nat.le_of_ble_eq_true rfl⟩ [0] [78] rfl rfl (by decide) rfl rfl (fun r_11728 u_11728 Hp25 lc25 w_11728 hw25 => ?_)
        clear Hp24 lc24 hw24
        obtain rfl : r_11728 = (-3) := w_11728
        replace hw25 : qW D _ _ [(y0, .inr (12, [.int 0, .ref (u_1.1 19), .ref (u_1.1 0), .ref (u_1.1 1), .ref (u_1.1 2), .int 0, .int 0, .int 0, .int 0, .int 0, .int 0, .int 0, .int 0, .int 0, .int (-1), .int 0, .ref (u_1.1 3), .ref (u_1.1 4), .ref (u_1.1 5), .ref (u_1.1 6), .ref (u_1.1 7), .int 0, .int 0, .ref (u_1.1 8), .ref (u_1.1 9), .ref (u_1.1 10), .int 0, .int 0, .ref (u_1.1 11), .ref (u_1.1 12), .ref (u_1.1 13), .ref (u_1.1 14), .ref (u_1.1 15), .int 0, .ref (u_1.1 16), .ref (u_1.1 17), .ref (u_1.1 18)]))] _ _ := hw25
        refine lv_aload_n hx hb dL_law_1251 rfl (lv_at hl 1 rfl) ?_
        refine lv_aload_n hx hb dL_law_1252 rfl (lv_at hl 3 rfl) ?_
        refine lv_iload_n hx hb dL_law_1253 rfl (lv_at hl 0 rfl) ?_
        refine lv_iconst (v := 1) hx hb dL_law_1254 (by decide) ?_
        refine lv_iadd hx hb dL_law_1255 ?_
        refine q_c 1 (by decide +kernel) ?_
        refine va_sld X.1 X.2.1 hX hbl hbA hw25.2.2 (q_in (by decide +kernel)) dL_law_1256 ?_
        refine q_c 2 e1 ?_
        refine lv_aload_n hx hb dL_law_1257 rfl (lv_at hl 3 rfl) ?_
        refine lv_iload_n hx hb dL_law_1258 rfl (lv_at hl 0 rfl) ?_
        refine lv_iconst (v := 2) hx hb dL_law_1259 (by decide) ?_
        refine lv_iadd hx hb dL_law_1260 ?_
        refine q_c 2 (by decide +kernel) ?_
        refine va_sld X.1 X.2.1 hX hbl hbA hw25.2.2 (q_in (by decide +kernel)) dL_law_1261 ?_
        refine q_c a2 e2 ?_
        refine lv_aload_n hx hb dL_law_1262 rfl (lv_at hl 3 rfl) ?_
        refine lv_iload_n hx hb dL_law_1263 rfl (lv_at hl 0 rfl) ?_
        refine lv_iconst (v := 3) hx hb dL_law_1264 (by decide) ?_
        refine lv_iadd hx hb dL_law_1265 ?_
        refine q_c 3 (by decide +kernel) ?_
        refine va_sld X.1 X.2.1 hX hbl hbA hw25.2.2 (q_in (by decide +kernel)) dL_law_1266 ?_
        refine q_c a3 e3 ?_
        have g_11738 : (0 : Int32) ≤ a2 := by
          simp only [Int32.lt_iff_toInt_lt, Int32.le_iff_toInt_le, ← Int32.toInt_inj] at c_11629 c_11658 ⊢
          have k_0 : ((-1) : Int32).toInt = -1 := by decide
          have k_1 : (3 : Int32).toInt = 3 := by decide
          have k_g : (0 : Int32).toInt = 0 := by decide
          omega
        have g_11739 : a2 ≤ (3 : Int32) := by
          simp only [Int32.lt_iff_toInt_lt, Int32.le_iff_toInt_le, ← Int32.toInt_inj] at c_11629 c_11658 ⊢
          have k_0 : ((-1) : Int32).toInt = -1 := by decide
          have k_1 : (3 : Int32).toInt = 3 := by decide
          omega
        have g_11740 : a3 ≤ ((-1) : Int32) := by
          simp only [Int32.lt_iff_toInt_lt, Int32.le_iff_toInt_le, ← Int32.toInt_inj] at c_11681 ⊢
          have k_0 : ((-1) : Int32).toInt = -1 := by decide
          omega
        refine q_callVi (rest := [.int (-3)]) (wr := []) X hK hA hw25 (fun sz => kX12_numbers_464 l D cy y0 a2 a3 (u_1.1 19) (u_1.1 0) (u_1.1 1) (u_1.1 2) (u_1.1 3) (u_1.1 4) (u_1.1 5) (u_1.1 6) (u_1.1 7) (u_1.1 8) (u_1.1 9) (u_1.1 10) (u_1.1 11) (u_1.1 12) (u_1.1 13) (u_1.1 14) (u_1.1 15) (u_1.1 16) (u_1.1 17) (u_1.1 18) g_11738 g_11739 g_11740 sz) wm_8_27 wm_8_30 wm_1_12 hd_X12_numbers wm_8_28 wm_8_29 (ci := 12) (q0 := 0) rfl rfl ⟨Nat.le_of_ble_eq_true rfl, Nat.le_of_ble_eq_true rfl⟩ hl.1 rfl (Nat.le_of_ble_eq_true rfl) dL_law_1267 ⟨Nat.le_of_ble_eq_true rfl, Nat.le_of_ble_eq_true rfl⟩ [0] [] rfl rfl (by decide) rfl rfl (fun r_11741 u_11741 Hp26 lc26 w_11741 hw26 => ?_)
        clear Hp25 lc25 hw25
        obtain rfl : r_11741 = (-3) := w_11741
        replace hw26 : qW D _ _ [] _ _ := hw26
        refine lv_icmp_eq (tgt := 1461) hx hb dL_law_1270 (by decide) (fun _ => ?_) (fun c => absurd c (by decide +kernel))
        exact law_tail l X hr hlk hX hbl hw26.2.2 hl (Nat.le_of_ble_eq_true rfl) (Nat.le_of_ble_eq_true rfl)
      by_cases c_11742 : a3 ≤ 40
      · skip
        refine lv_aload_n hx hb dL_law_1232 rfl (lv_at hl 2 rfl) ?_
        refine lv_aload_n hx hb dL_law_1233 rfl (lv_at hl 3 rfl) ?_
        refine lv_iload_n hx hb dL_law_1234 rfl (lv_at hl 0 rfl) ?_
        refine lv_iconst (v := 1) hx hb dL_law_1235 (by decide) ?_
        refine lv_iadd hx hb dL_law_1236 ?_
        refine q_c 1 (by decide +kernel) ?_
        refine va_sld X.1 X.2.1 hX hbl hbA hw26.2.2 (q_in (by decide +kernel)) dL_law_1237 ?_
        refine q_c 2 e1 ?_
        refine lv_aload_n hx hb dL_law_1238 rfl (lv_at hl 3 rfl) ?_
        refine lv_iload_n hx hb dL_law_1239 rfl (lv_at hl 0 rfl) ?_
        refine lv_iconst (v := 2) hx hb dL_law_1240 (by decide) ?_
        refine lv_iadd hx hb dL_law_1241 ?_
        refine q_c 2 (by decide +kernel) ?_
        refine va_sld X.1 X.2.1 hX hbl hbA hw26.2.2 (q_in (by decide +kernel)) dL_law_1242 ?_
        refine q_c a2 e2 ?_
        refine lv_aload_n hx hb dL_law_1243 rfl (lv_at hl 3 rfl) ?_
        refine lv_iload_n hx hb dL_law_1244 rfl (lv_at hl 0 rfl) ?_
        refine lv_iconst (v := 3) hx hb dL_law_1245 (by decide) ?_
        refine lv_iadd hx hb dL_law_1246 ?_
        refine q_c 3 (by decide +kernel) ?_
        refine va_sld X.1 X.2.1 hX hbl hbA hw26.2.2 (q_in (by decide +kernel)) dL_law_1247 ?_
        refine q_c a3 e3 ?_
        have g_11826 : (0 : Int32) ≤ a2 := by
          simp only [Int32.lt_iff_toInt_lt, Int32.le_iff_toInt_le, ← Int32.toInt_inj] at c_11629 c_11658 ⊢
          have k_0 : ((-1) : Int32).toInt = -1 := by decide
          have k_1 : (3 : Int32).toInt = 3 := by decide
          have k_g : (0 : Int32).toInt = 0 := by decide
          omega
        have g_11827 : a2 ≤ (3 : Int32) := by
          simp only [Int32.lt_iff_toInt_lt, Int32.le_iff_toInt_le, ← Int32.toInt_inj] at c_11629 c_11658 ⊢
          have k_0 : ((-1) : Int32).toInt = -1 := by decide
          have k_1 : (3 : Int32).toInt = 3 := by decide
          omega
        have g_11828 : (0 : Int32) ≤ a3 := by
          simp only [Int32.lt_iff_toInt_lt, Int32.le_iff_toInt_le, ← Int32.toInt_inj] at c_11681 c_11742 ⊢
          have k_0 : ((-1) : Int32).toInt = -1 := by decide
          have k_1 : (40 : Int32).toInt = 40 := by decide
          have k_g : (0 : Int32).toInt = 0 := by decide
          omega
        have g_11829 : a3 ≤ (40 : Int32) := by
          simp only [Int32.lt_iff_toInt_lt, Int32.le_iff_toInt_le, ← Int32.toInt_inj] at c_11681 c_11742 ⊢
          have k_0 : ((-1) : Int32).toInt = -1 := by decide
          have k_1 : (40 : Int32).toInt = 40 := by decide
          omega
        refine q_callVi (rest := []) (wr := [(y0, .inr (12, [.int 0, .ref (u_1.1 19), .ref (u_1.1 0), .ref (u_1.1 1), .ref (u_1.1 2), .int 0, .int 0, .int 0, .int 0, .int 0, .int 0, .int 0, .int 0, .int 0, .int (-1), .int 0, .ref (u_1.1 3), .ref (u_1.1 4), .ref (u_1.1 5), .ref (u_1.1 6), .ref (u_1.1 7), .int 0, .int 0, .ref (u_1.1 8), .ref (u_1.1 9), .ref (u_1.1 10), .int 0, .int 0, .ref (u_1.1 11), .ref (u_1.1 12), .ref (u_1.1 13), .ref (u_1.1 14), .ref (u_1.1 15), .int 0, .ref (u_1.1 16), .ref (u_1.1 17), .ref (u_1.1 18)])), ((u_1.1 16), .inl (cy 1, 4, .inl (upd (upd (upd (upd (fun _ => 0) (Int32.toNatClampNeg 0) (-1)) (Int32.toNatClampNeg 1) (-1)) (Int32.toNatClampNeg 2) (-1)) (Int32.toNatClampNeg 3) (-1)))), ((u_1.1 17), .inl (cy 1, 4, .inl (fun _ => 0))), ((u_1.1 18), .inl (cy 2, 160, .inr (.inl (fun _ => 0))))]) X hK hA hw26 (fun sz => kX11_numbers_465 l D cy x0 (u_0.1 14) (u_0.1 69) (u_0.1 70) a2 a3 (u_0.1 0) (u_0.1 1) (u_0.1 37) (u_0.1 39) (u_0.1 41) (u_0.1 43) (u_0.1 15) (u_0.1 16) (u_0.1 17) (u_0.1 20) (u_0.1 24) (u_0.1 29) (u_0.1 71) (u_0.1 67) (u_0.1 65) g_11826 g_11827 g_11828 g_11829 sz) wm_5_120 wm_5_123 wm_1_1 hd_X11_numbers wm_5_121 wm_5_122 (ci := 11) (q0 := 0) rfl rfl ⟨Nat.le_of_ble_eq_true rfl, Nat.le_of_ble_eq_true rfl⟩ hl.1 rfl (Nat.le_of_ble_eq_true rfl) dL_law_1248 ⟨Nat.le_of_ble_eq_true rfl, Nat.le_of_ble_eq_true rfl⟩ [0, 15, 70, 71] [78, 95, 96, 97] rfl rfl (by decide) rfl rfl (fun r_11830 u_11830 Hp27 lc27 w_11830 hw27 => ?_)
        clear Hp26 lc26 hw26
        obtain rfl : r_11830 = 0 := w_11830
        replace hw27 : qW D _ _ [(y0, .inr (12, [.int 0, .ref (u_1.1 19), .ref (u_1.1 0), .ref (u_1.1 1), .ref (u_1.1 2), .int 0, .int 0, .int 0, .int 0, .int 0, .int 0, .int 0, .int 0, .int 0, .int (-1), .int 0, .ref (u_1.1 3), .ref (u_1.1 4), .ref (u_1.1 5), .ref (u_1.1 6), .ref (u_1.1 7), .int 0, .int 0, .ref (u_1.1 8), .ref (u_1.1 9), .ref (u_1.1 10), .int 0, .int 0, .ref (u_1.1 11), .ref (u_1.1 12), .ref (u_1.1 13), .ref (u_1.1 14), .ref (u_1.1 15), .int 0, .ref (u_1.1 16), .ref (u_1.1 17), .ref (u_1.1 18)])), ((u_1.1 16), .inl (cy 1, 4, .inl (upd (upd (upd (upd (fun _ => 0) (Int32.toNatClampNeg 0) (-1)) (Int32.toNatClampNeg 1) (-1)) (Int32.toNatClampNeg 2) (-1)) (Int32.toNatClampNeg 3) (-1)))), ((u_1.1 17), .inl (cy 1, 4, .inl (fun _ => 0))), ((u_1.1 18), .inl (cy 2, 160, .inr (.inl (fun _ => 0))))] _ _ := hw27
        refine lv_aload_n hx hb dL_law_1251 rfl (lv_at hl 1 rfl) ?_
        refine lv_aload_n hx hb dL_law_1252 rfl (lv_at hl 3 rfl) ?_
        refine lv_iload_n hx hb dL_law_1253 rfl (lv_at hl 0 rfl) ?_
        refine lv_iconst (v := 1) hx hb dL_law_1254 (by decide) ?_
        refine lv_iadd hx hb dL_law_1255 ?_
        refine q_c 1 (by decide +kernel) ?_
        refine va_sld X.1 X.2.1 hX hbl hbA hw27.2.2 (q_in (by decide +kernel)) dL_law_1256 ?_
        refine q_c 2 e1 ?_
        refine lv_aload_n hx hb dL_law_1257 rfl (lv_at hl 3 rfl) ?_
        refine lv_iload_n hx hb dL_law_1258 rfl (lv_at hl 0 rfl) ?_
        refine lv_iconst (v := 2) hx hb dL_law_1259 (by decide) ?_
        refine lv_iadd hx hb dL_law_1260 ?_
        refine q_c 2 (by decide +kernel) ?_
        refine va_sld X.1 X.2.1 hX hbl hbA hw27.2.2 (q_in (by decide +kernel)) dL_law_1261 ?_
        refine q_c a2 e2 ?_
        refine lv_aload_n hx hb dL_law_1262 rfl (lv_at hl 3 rfl) ?_
        refine lv_iload_n hx hb dL_law_1263 rfl (lv_at hl 0 rfl) ?_
        refine lv_iconst (v := 3) hx hb dL_law_1264 (by decide) ?_
        refine lv_iadd hx hb dL_law_1265 ?_
        refine q_c 3 (by decide +kernel) ?_
        refine va_sld X.1 X.2.1 hX hbl hbA hw27.2.2 (q_in (by decide +kernel)) dL_law_1266 ?_
        refine q_c a3 e3 ?_
        have g_11844 : (0 : Int32) ≤ a2 := by
          simp only [Int32.lt_iff_toInt_lt, Int32.le_iff_toInt_le, ← Int32.toInt_inj] at c_11629 c_11658 ⊢
          have k_0 : ((-1) : Int32).toInt = -1 := by decide
          have k_1 : (3 : Int32).toInt = 3 := by decide
          have k_g : (0 : Int32).toInt = 0 := by decide
          omega
        have g_11845 : a2 ≤ (3 : Int32) := by
          simp only [Int32.lt_iff_toInt_lt, Int32.le_iff_toInt_le, ← Int32.toInt_inj] at c_11629 c_11658 ⊢
          have k_0 : ((-1) : Int32).toInt = -1 := by decide
          have k_1 : (3 : Int32).toInt = 3 := by decide
          omega
        have g_11846 : (0 : Int32) ≤ a3 := by
          simp only [Int32.lt_iff_toInt_lt, Int32.le_iff_toInt_le, ← Int32.toInt_inj] at c_11681 c_11742 ⊢
          have k_0 : ((-1) : Int32).toInt = -1 := by decide
          have k_1 : (40 : Int32).toInt = 40 := by decide
          have k_g : (0 : Int32).toInt = 0 := by decide
          omega
        have g_11847 : a3 ≤ (40 : Int32) := by
          simp only [Int32.lt_iff_toInt_lt, Int32.le_iff_toInt_le, ← Int32.toInt_inj] at c_11681 c_11742 ⊢
          have k_0 : ((-1) : Int32).toInt = -1 := by decide
          have k_1 : (40 : Int32).toInt = 40 := by decide
          omega
        refine q_callVi (rest := [.int 0]) (wr := []) X hK hA hw27 (fun sz => kX12_numbers_466 l D cy y0 (u_1.1 16) (u_1.1 17) (u_1.1 18) (upd (upd (upd (upd (fun _ => 0) (Int32.toNatClampNeg 0) (-1)) (Int32.toNatClampNeg 1) (-1)) (Int32.toNatClampNeg 2) (-1)) (Int32.toNatClampNeg 3) (-1)) a2 a3 (u_1.1 19) (u_1.1 0) (u_1.1 1) (u_1.1 2) (u_1.1 3) (u_1.1 4) (u_1.1 5) (u_1.1 6) (u_1.1 7) (u_1.1 8) (u_1.1 9) (u_1.1 10) (u_1.1 11) (u_1.1 12) (u_1.1 13) (u_1.1 14) (u_1.1 15) g_11844 g_11845 g_11846 g_11847 sz) wm_8_27 wm_8_30 wm_1_12 hd_X12_numbers wm_8_28 wm_8_29 (ci := 12) (q0 := 0) rfl rfl ⟨Nat.le_of_ble_eq_true rfl, Nat.le_of_ble_eq_true rfl⟩ hl.1 rfl (Nat.le_of_ble_eq_true rfl) dL_law_1267 ⟨Nat.le_of_ble_eq_true rfl, Nat.le_of_ble_eq_true rfl⟩ [0, 1, 2, 3] [] rfl rfl (by decide) rfl rfl (fun r_11848 u_11848 Hp28 lc28 w_11848 hw28 => ?_)
        clear Hp27 lc27 hw27
        obtain rfl : r_11848 = 0 := w_11848
        replace hw28 : qW D _ _ [] _ _ := hw28
        refine lv_icmp_eq (tgt := 1461) hx hb dL_law_1270 (by decide) (fun _ => ?_) (fun c => absurd c (by decide +kernel))
        exact law_tail l X hr hlk hX hbl hw28.2.2 hl (Nat.le_of_ble_eq_true rfl) (Nat.le_of_ble_eq_true rfl)
      refine lv_aload_n hx hb dL_law_1232 rfl (lv_at hl 2 rfl) ?_
      refine lv_aload_n hx hb dL_law_1233 rfl (lv_at hl 3 rfl) ?_
      refine lv_iload_n hx hb dL_law_1234 rfl (lv_at hl 0 rfl) ?_
      refine lv_iconst (v := 1) hx hb dL_law_1235 (by decide) ?_
      refine lv_iadd hx hb dL_law_1236 ?_
      refine q_c 1 (by decide +kernel) ?_
      refine va_sld X.1 X.2.1 hX hbl hbA hw28.2.2 (q_in (by decide +kernel)) dL_law_1237 ?_
      refine q_c 2 e1 ?_
      refine lv_aload_n hx hb dL_law_1238 rfl (lv_at hl 3 rfl) ?_
      refine lv_iload_n hx hb dL_law_1239 rfl (lv_at hl 0 rfl) ?_
      refine lv_iconst (v := 2) hx hb dL_law_1240 (by decide) ?_
      refine lv_iadd hx hb dL_law_1241 ?_
      refine q_c 2 (by decide +kernel) ?_
      refine va_sld X.1 X.2.1 hX hbl hbA hw28.2.2 (q_in (by decide +kernel)) dL_law_1242 ?_
      refine q_c a2 e2 ?_
      refine lv_aload_n hx hb dL_law_1243 rfl (lv_at hl 3 rfl) ?_
      refine lv_iload_n hx hb dL_law_1244 rfl (lv_at hl 0 rfl) ?_
      refine lv_iconst (v := 3) hx hb dL_law_1245 (by decide) ?_
      refine lv_iadd hx hb dL_law_1246 ?_
      refine q_c 3 (by decide +kernel) ?_
      refine va_sld X.1 X.2.1 hX hbl hbA hw28.2.2 (q_in (by decide +kernel)) dL_law_1247 ?_
      refine q_c a3 e3 ?_
      have g_11900 : (0 : Int32) ≤ a2 := by
        simp only [Int32.lt_iff_toInt_lt, Int32.le_iff_toInt_le, ← Int32.toInt_inj] at c_11629 c_11658 ⊢
        have k_0 : ((-1) : Int32).toInt = -1 := by decide
        have k_1 : (3 : Int32).toInt = 3 := by decide
        have k_g : (0 : Int32).toInt = 0 := by decide
        omega
      have g_11901 : a2 ≤ (3 : Int32) := by
        simp only [Int32.lt_iff_toInt_lt, Int32.le_iff_toInt_le, ← Int32.toInt_inj] at c_11629 c_11658 ⊢
        have k_0 : ((-1) : Int32).toInt = -1 := by decide
        have k_1 : (3 : Int32).toInt = 3 := by decide
        omega
      have g_11902 : (41 : Int32) ≤ a3 := by
        simp only [Int32.lt_iff_toInt_lt, Int32.le_iff_toInt_le, ← Int32.toInt_inj] at c_11681 c_11742 ⊢
        have k_0 : ((-1) : Int32).toInt = -1 := by decide
        have k_1 : (40 : Int32).toInt = 40 := by decide
        have k_g : (41 : Int32).toInt = 41 := by decide
        omega
      refine q_callVi (rest := []) (wr := [(y0, .inr (12, [.int 0, .ref (u_1.1 19), .ref (u_1.1 0), .ref (u_1.1 1), .ref (u_1.1 2), .int 0, .int 0, .int 0, .int 0, .int 0, .int 0, .int 0, .int 0, .int 0, .int (-1), .int 0, .ref (u_1.1 3), .ref (u_1.1 4), .ref (u_1.1 5), .ref (u_1.1 6), .ref (u_1.1 7), .int 0, .int 0, .ref (u_1.1 8), .ref (u_1.1 9), .ref (u_1.1 10), .int 0, .int 0, .ref (u_1.1 11), .ref (u_1.1 12), .ref (u_1.1 13), .ref (u_1.1 14), .ref (u_1.1 15), .int 0, .ref (u_1.1 16), .ref (u_1.1 17), .ref (u_1.1 18)]))]) X hK hA hw28 (fun sz => kX11_numbers_467 l D cy x0 a2 a3 (u_0.1 0) (u_0.1 1) (u_0.1 37) (u_0.1 39) (u_0.1 41) (u_0.1 43) (u_0.1 14) (u_0.1 15) (u_0.1 16) (u_0.1 17) (u_0.1 20) (u_0.1 24) (u_0.1 29) g_11900 g_11901 g_11902 sz) wm_5_120 wm_5_123 wm_1_1 hd_X11_numbers wm_5_121 wm_5_122 (ci := 11) (q0 := 0) rfl rfl ⟨Nat.le_of_ble_eq_true rfl, Nat.le_of_ble_eq_true rfl⟩ hl.1 rfl (Nat.le_of_ble_eq_true rfl) dL_law_1248 ⟨Nat.le_of_ble_eq_true rfl, Nat.le_of_ble_eq_true rfl⟩ [0] [78] rfl rfl (by decide) rfl rfl (fun r_11903 u_11903 Hp29 lc29 w_11903 hw29 => ?_)
      clear Hp28 lc28 hw28
      obtain rfl : r_11903 = (-3) := w_11903
      replace hw29 : qW D _ _ [(y0, .inr (12, [.int 0, .ref (u_1.1 19), .ref (u_1.1 0), .ref (u_1.1 1), .ref (u_1.1 2), .int 0, .int 0, .int 0, .int 0, .int 0, .int 0, .int 0, .int 0, .int 0, .int (-1), .int 0, .ref (u_1.1 3), .ref (u_1.1 4), .ref (u_1.1 5), .ref (u_1.1 6), .ref (u_1.1 7), .int 0, .int 0, .ref (u_1.1 8), .ref (u_1.1 9), .ref (u_1.1 10), .int 0, .int 0, .ref (u_1.1 11), .ref (u_1.1 12), .ref (u_1.1 13), .ref (u_1.1 14), .ref (u_1.1 15), .int 0, .ref (u_1.1 16), .ref (u_1.1 17), .ref (u_1.1 18)]))] _ _ := hw29
      refine lv_aload_n hx hb dL_law_1251 rfl (lv_at hl 1 rfl) ?_
      refine lv_aload_n hx hb dL_law_1252 rfl (lv_at hl 3 rfl) ?_
      refine lv_iload_n hx hb dL_law_1253 rfl (lv_at hl 0 rfl) ?_
      refine lv_iconst (v := 1) hx hb dL_law_1254 (by decide) ?_
      refine lv_iadd hx hb dL_law_1255 ?_
      refine q_c 1 (by decide +kernel) ?_
      refine va_sld X.1 X.2.1 hX hbl hbA hw29.2.2 (q_in (by decide +kernel)) dL_law_1256 ?_
      refine q_c 2 e1 ?_
      refine lv_aload_n hx hb dL_law_1257 rfl (lv_at hl 3 rfl) ?_
      refine lv_iload_n hx hb dL_law_1258 rfl (lv_at hl 0 rfl) ?_
      refine lv_iconst (v := 2) hx hb dL_law_1259 (by decide) ?_
      refine lv_iadd hx hb dL_law_1260 ?_
      refine q_c 2 (by decide +kernel) ?_
      refine va_sld X.1 X.2.1 hX hbl hbA hw29.2.2 (q_in (by decide +kernel)) dL_law_1261 ?_
      refine q_c a2 e2 ?_
      refine lv_aload_n hx hb dL_law_1262 rfl (lv_at hl 3 rfl) ?_
      refine lv_iload_n hx hb dL_law_1263 rfl (lv_at hl 0 rfl) ?_
      refine lv_iconst (v := 3) hx hb dL_law_1264 (by decide) ?_
      refine lv_iadd hx hb dL_law_1265 ?_
      refine q_c 3 (by decide +kernel) ?_
      refine va_sld X.1 X.2.1 hX hbl hbA hw29.2.2 (q_in (by decide +kernel)) dL_law_1266 ?_
      refine q_c a3 e3 ?_
      have g_11914 : (0 : Int32) ≤ a2 := by
        simp only [Int32.lt_iff_toInt_lt, Int32.le_iff_toInt_le, ← Int32.toInt_inj] at c_11629 c_11658 ⊢
        have k_0 : ((-1) : Int32).toInt = -1 := by decide
        have k_1 : (3 : Int32).toInt = 3 := by decide
        have k_g : (0 : Int32).toInt = 0 := by decide
        omega
      have g_11915 : a2 ≤ (3 : Int32) := by
        simp only [Int32.lt_iff_toInt_lt, Int32.le_iff_toInt_le, ← Int32.toInt_inj] at c_11629 c_11658 ⊢
        have k_0 : ((-1) : Int32).toInt = -1 := by decide
        have k_1 : (3 : Int32).toInt = 3 := by decide
        omega
      have g_11916 : (41 : Int32) ≤ a3 := by
        simp only [Int32.lt_iff_toInt_lt, Int32.le_iff_toInt_le, ← Int32.toInt_inj] at c_11681 c_11742 ⊢
        have k_0 : ((-1) : Int32).toInt = -1 := by decide
        have k_1 : (40 : Int32).toInt = 40 := by decide
        have k_g : (41 : Int32).toInt = 41 := by decide
        omega
      refine q_callVi (rest := [.int (-3)]) (wr := []) X hK hA hw29 (fun sz => kX12_numbers_468 l D cy y0 a2 a3 (u_1.1 19) (u_1.1 0) (u_1.1 1) (u_1.1 2) (u_1.1 3) (u_1.1 4) (u_1.1 5) (u_1.1 6) (u_1.1 7) (u_1.1 8) (u_1.1 9) (u_1.1 10) (u_1.1 11) (u_1.1 12) (u_1.1 13) (u_1.1 14) (u_1.1 15) (u_1.1 16) (u_1.1 17) (u_1.1 18) g_11914 g_11915 g_11916 sz) wm_8_27 wm_8_30 wm_1_12 hd_X12_numbers wm_8_28 wm_8_29 (ci := 12) (q0 := 0) rfl rfl ⟨Nat.le_of_ble_eq_true rfl, Nat.le_of_ble_eq_true rfl⟩ hl.1 rfl (Nat.le_of_ble_eq_true rfl) dL_law_1267 ⟨Nat.le_of_ble_eq_true rfl, Nat.le_of_ble_eq_true rfl⟩ [0] [] rfl rfl (by decide) rfl rfl (fun r_11917 u_11917 Hp30 lc30 w_11917 hw30 => ?_)
      clear Hp29 lc29 hw29
      obtain rfl : r_11917 = (-3) := w_11917
      replace hw30 : qW D _ _ [] _ _ := hw30
      refine lv_icmp_eq (tgt := 1461) hx hb dL_law_1270 (by decide) (fun _ => ?_) (fun c => absurd c (by decide +kernel))
      exact law_tail l X hr hlk hX hbl hw30.2.2 hl (Nat.le_of_ble_eq_true rfl) (Nat.le_of_ble_eq_true rfl)
    refine lv_aload_n hx hb dL_law_1232 rfl (lv_at hl 2 rfl) ?_
    refine lv_aload_n hx hb dL_law_1233 rfl (lv_at hl 3 rfl) ?_
    refine lv_iload_n hx hb dL_law_1234 rfl (lv_at hl 0 rfl) ?_
    refine lv_iconst (v := 1) hx hb dL_law_1235 (by decide) ?_
    refine lv_iadd hx hb dL_law_1236 ?_
    refine q_c 1 (by decide +kernel) ?_
    refine va_sld X.1 X.2.1 hX hbl hbA hw30.2.2 (q_in (by decide +kernel)) dL_law_1237 ?_
    refine q_c 2 e1 ?_
    refine lv_aload_n hx hb dL_law_1238 rfl (lv_at hl 3 rfl) ?_
    refine lv_iload_n hx hb dL_law_1239 rfl (lv_at hl 0 rfl) ?_
    refine lv_iconst (v := 2) hx hb dL_law_1240 (by decide) ?_
    refine lv_iadd hx hb dL_law_1241 ?_
    refine q_c 2 (by decide +kernel) ?_
    refine va_sld X.1 X.2.1 hX hbl hbA hw30.2.2 (q_in (by decide +kernel)) dL_law_1242 ?_
    refine q_c a2 e2 ?_
    refine lv_aload_n hx hb dL_law_1243 rfl (lv_at hl 3 rfl) ?_
    refine lv_iload_n hx hb dL_law_1244 rfl (lv_at hl 0 rfl) ?_
    refine lv_iconst (v := 3) hx hb dL_law_1245 (by decide) ?_
    refine lv_iadd hx hb dL_law_1246 ?_
    refine q_c 3 (by decide +kernel) ?_
    refine va_sld X.1 X.2.1 hX hbl hbA hw30.2.2 (q_in (by decide +kernel)) dL_law_1247 ?_
    refine q_c a3 e3 ?_
    have g_11946 : (4 : Int32) ≤ a2 := by
      simp only [Int32.lt_iff_toInt_lt, Int32.le_iff_toInt_le, ← Int32.toInt_inj] at c_11629 c_11658 ⊢
      have k_0 : ((-1) : Int32).toInt = -1 := by decide
      have k_1 : (3 : Int32).toInt = 3 := by decide
      have k_g : (4 : Int32).toInt = 4 := by decide
      omega
    refine q_callVi (rest := []) (wr := [(y0, .inr (12, [.int 0, .ref (u_1.1 19), .ref (u_1.1 0), .ref (u_1.1 1), .ref (u_1.1 2), .int 0, .int 0, .int 0, .int 0, .int 0, .int 0, .int 0, .int 0, .int 0, .int (-1), .int 0, .ref (u_1.1 3), .ref (u_1.1 4), .ref (u_1.1 5), .ref (u_1.1 6), .ref (u_1.1 7), .int 0, .int 0, .ref (u_1.1 8), .ref (u_1.1 9), .ref (u_1.1 10), .int 0, .int 0, .ref (u_1.1 11), .ref (u_1.1 12), .ref (u_1.1 13), .ref (u_1.1 14), .ref (u_1.1 15), .int 0, .ref (u_1.1 16), .ref (u_1.1 17), .ref (u_1.1 18)]))]) X hK hA hw30 (fun sz => kX11_numbers_469 l D cy x0 a2 a3 (u_0.1 0) (u_0.1 1) (u_0.1 37) (u_0.1 39) (u_0.1 41) (u_0.1 43) (u_0.1 14) (u_0.1 15) (u_0.1 16) (u_0.1 17) (u_0.1 20) (u_0.1 24) (u_0.1 29) g_11946 sz) wm_5_120 wm_5_123 wm_1_1 hd_X11_numbers wm_5_121 wm_5_122 (ci := 11) (q0 := 0) rfl rfl ⟨Nat.le_of_ble_eq_true rfl, Nat.le_of_ble_eq_true rfl⟩ hl.1 rfl (Nat.le_of_ble_eq_true rfl) dL_law_1248 ⟨Nat.le_of_ble_eq_true rfl, Nat.le_of_ble_eq_true rfl⟩ [0] [78] rfl rfl (by decide) rfl rfl (fun r_11947 u_11947 Hp31 lc31 w_11947 hw31 => ?_)
    clear Hp30 lc30 hw30
    obtain rfl : r_11947 = (-2) := w_11947
    replace hw31 : qW D _ _ [(y0, .inr (12, [.int 0, .ref (u_1.1 19), .ref (u_1.1 0), .ref (u_1.1 1), .ref (u_1.1 2), .int 0, .int 0, .int 0, .int 0, .int 0, .int 0, .int 0, .int 0, .int 0, .int (-1), .int 0, .ref (u_1.1 3), .ref (u_1.1 4), .ref (u_1.1 5), .ref (u_1.1 6), .ref (u_1.1 7), .int 0, .int 0, .ref (u_1.1 8), .ref (u_1.1 9), .ref (u_1.1 10), .int 0, .int 0, .ref (u_1.1 11), .ref (u_1.1 12), .ref (u_1.1 13), .ref (u_1.1 14), .ref (u_1.1 15), .int 0, .ref (u_1.1 16), .ref (u_1.1 17), .ref (u_1.1 18)]))] _ _ := hw31
    refine lv_aload_n hx hb dL_law_1251 rfl (lv_at hl 1 rfl) ?_
    refine lv_aload_n hx hb dL_law_1252 rfl (lv_at hl 3 rfl) ?_
    refine lv_iload_n hx hb dL_law_1253 rfl (lv_at hl 0 rfl) ?_
    refine lv_iconst (v := 1) hx hb dL_law_1254 (by decide) ?_
    refine lv_iadd hx hb dL_law_1255 ?_
    refine q_c 1 (by decide +kernel) ?_
    refine va_sld X.1 X.2.1 hX hbl hbA hw31.2.2 (q_in (by decide +kernel)) dL_law_1256 ?_
    refine q_c 2 e1 ?_
    refine lv_aload_n hx hb dL_law_1257 rfl (lv_at hl 3 rfl) ?_
    refine lv_iload_n hx hb dL_law_1258 rfl (lv_at hl 0 rfl) ?_
    refine lv_iconst (v := 2) hx hb dL_law_1259 (by decide) ?_
    refine lv_iadd hx hb dL_law_1260 ?_
    refine q_c 2 (by decide +kernel) ?_
    refine va_sld X.1 X.2.1 hX hbl hbA hw31.2.2 (q_in (by decide +kernel)) dL_law_1261 ?_
    refine q_c a2 e2 ?_
    refine lv_aload_n hx hb dL_law_1262 rfl (lv_at hl 3 rfl) ?_
    refine lv_iload_n hx hb dL_law_1263 rfl (lv_at hl 0 rfl) ?_
    refine lv_iconst (v := 3) hx hb dL_law_1264 (by decide) ?_
    refine lv_iadd hx hb dL_law_1265 ?_
    refine q_c 3 (by decide +kernel) ?_
    refine va_sld X.1 X.2.1 hX hbl hbA hw31.2.2 (q_in (by decide +kernel)) dL_law_1266 ?_
    refine q_c a3 e3 ?_
    have g_11953 : (4 : Int32) ≤ a2 := by
      simp only [Int32.lt_iff_toInt_lt, Int32.le_iff_toInt_le, ← Int32.toInt_inj] at c_11629 c_11658 ⊢
      have k_0 : ((-1) : Int32).toInt = -1 := by decide
      have k_1 : (3 : Int32).toInt = 3 := by decide
      have k_g : (4 : Int32).toInt = 4 := by decide
      omega
    refine q_callVi (rest := [.int (-2)]) (wr := []) X hK hA hw31 (fun sz => kX12_numbers_470 l D cy y0 a2 a3 (u_1.1 19) (u_1.1 0) (u_1.1 1) (u_1.1 2) (u_1.1 3) (u_1.1 4) (u_1.1 5) (u_1.1 6) (u_1.1 7) (u_1.1 8) (u_1.1 9) (u_1.1 10) (u_1.1 11) (u_1.1 12) (u_1.1 13) (u_1.1 14) (u_1.1 15) (u_1.1 16) (u_1.1 17) (u_1.1 18) g_11953 sz) wm_8_27 wm_8_30 wm_1_12 hd_X12_numbers wm_8_28 wm_8_29 (ci := 12) (q0 := 0) rfl rfl ⟨Nat.le_of_ble_eq_true rfl, Nat.le_of_ble_eq_true rfl⟩ hl.1 rfl (Nat.le_of_ble_eq_true rfl) dL_law_1267 ⟨Nat.le_of_ble_eq_true rfl, Nat.le_of_ble_eq_true rfl⟩ [0] [] rfl rfl (by decide) rfl rfl (fun r_11954 u_11954 Hp32 lc32 w_11954 hw32 => ?_)
    clear Hp31 lc31 hw31
    obtain rfl : r_11954 = (-2) := w_11954
    replace hw32 : qW D _ _ [] _ _ := hw32
    refine lv_icmp_eq (tgt := 1461) hx hb dL_law_1270 (by decide) (fun _ => ?_) (fun c => absurd c (by decide +kernel))
    exact law_tail l X hr hlk hX hbl hw32.2.2 hl (Nat.le_of_ble_eq_true rfl) (Nat.le_of_ble_eq_true rfl)
  by_cases c_11955 : a1 = 3
  · subst c_11955
    by_cases c_11978 : a2 ≤ (-1)
    · skip
      refine lv_aload_n hx hb dL_law_1232 rfl (lv_at hl 2 rfl) ?_
      refine lv_aload_n hx hb dL_law_1233 rfl (lv_at hl 3 rfl) ?_
      refine lv_iload_n hx hb dL_law_1234 rfl (lv_at hl 0 rfl) ?_
      refine lv_iconst (v := 1) hx hb dL_law_1235 (by decide) ?_
      refine lv_iadd hx hb dL_law_1236 ?_
      refine q_c 1 (by decide +kernel) ?_
      refine va_sld X.1 X.2.1 hX hbl hbA hw32.2.2 (q_in (by decide +kernel)) dL_law_1237 ?_
      refine q_c 3 e1 ?_
      refine lv_aload_n hx hb dL_law_1238 rfl (lv_at hl 3 rfl) ?_
      refine lv_iload_n hx hb dL_law_1239 rfl (lv_at hl 0 rfl) ?_
      refine lv_iconst (v := 2) hx hb dL_law_1240 (by decide) ?_
      refine lv_iadd hx hb dL_law_1241 ?_
      refine q_c 2 (by decide +kernel) ?_
      refine va_sld X.1 X.2.1 hX hbl hbA hw32.2.2 (q_in (by decide +kernel)) dL_law_1242 ?_
      refine q_c a2 e2 ?_
      refine lv_aload_n hx hb dL_law_1243 rfl (lv_at hl 3 rfl) ?_
      refine lv_iload_n hx hb dL_law_1244 rfl (lv_at hl 0 rfl) ?_
      refine lv_iconst (v := 3) hx hb dL_law_1245 (by decide) ?_
      refine lv_iadd hx hb dL_law_1246 ?_
      refine q_c 3 (by decide +kernel) ?_
      refine va_sld X.1 X.2.1 hX hbl hbA hw32.2.2 (q_in (by decide +kernel)) dL_law_1247 ?_
      refine q_c a3 e3 ?_
      have g_11999 : a2 ≤ ((-1) : Int32) := by
        simp only [Int32.lt_iff_toInt_lt, Int32.le_iff_toInt_le, ← Int32.toInt_inj] at c_11978 ⊢
        have k_0 : ((-1) : Int32).toInt = -1 := by decide
        omega
      refine q_callVi (rest := []) (wr := [(y0, .inr (12, [.int 0, .ref (u_1.1 19), .ref (u_1.1 0), .ref (u_1.1 1), .ref (u_1.1 2), .int 0, .int 0, .int 0, .int 0, .int 0, .int 0, .int 0, .int 0, .int 0, .int (-1), .int 0, .ref (u_1.1 3), .ref (u_1.1 4), .ref (u_1.1 5), .ref (u_1.1 6), .ref (u_1.1 7), .int 0, .int 0, .ref (u_1.1 8), .ref (u_1.1 9), .ref (u_1.1 10), .int 0, .int 0, .ref (u_1.1 11), .ref (u_1.1 12), .ref (u_1.1 13), .ref (u_1.1 14), .ref (u_1.1 15), .int 0, .ref (u_1.1 16), .ref (u_1.1 17), .ref (u_1.1 18)]))]) X hK hA hw32 (fun sz => kX11_numbers_471 l D cy x0 a2 a3 (u_0.1 0) (u_0.1 1) (u_0.1 37) (u_0.1 39) (u_0.1 41) (u_0.1 43) (u_0.1 14) (u_0.1 15) (u_0.1 16) (u_0.1 17) (u_0.1 20) (u_0.1 24) (u_0.1 29) g_11999 sz) wm_5_120 wm_5_123 wm_1_1 hd_X11_numbers wm_5_121 wm_5_122 (ci := 11) (q0 := 0) rfl rfl ⟨Nat.le_of_ble_eq_true rfl, Nat.le_of_ble_eq_true rfl⟩ hl.1 rfl (Nat.le_of_ble_eq_true rfl) dL_law_1248 ⟨Nat.le_of_ble_eq_true rfl, Nat.le_of_ble_eq_true rfl⟩ [0] [78] rfl rfl (by decide) rfl rfl (fun r_12000 u_12000 Hp33 lc33 w_12000 hw33 => ?_)
      clear Hp32 lc32 hw32
      obtain rfl : r_12000 = (-2) := w_12000
      replace hw33 : qW D _ _ [(y0, .inr (12, [.int 0, .ref (u_1.1 19), .ref (u_1.1 0), .ref (u_1.1 1), .ref (u_1.1 2), .int 0, .int 0, .int 0, .int 0, .int 0, .int 0, .int 0, .int 0, .int 0, .int (-1), .int 0, .ref (u_1.1 3), .ref (u_1.1 4), .ref (u_1.1 5), .ref (u_1.1 6), .ref (u_1.1 7), .int 0, .int 0, .ref (u_1.1 8), .ref (u_1.1 9), .ref (u_1.1 10), .int 0, .int 0, .ref (u_1.1 11), .ref (u_1.1 12), .ref (u_1.1 13), .ref (u_1.1 14), .ref (u_1.1 15), .int 0, .ref (u_1.1 16), .ref (u_1.1 17), .ref (u_1.1 18)]))] _ _ := hw33
      refine lv_aload_n hx hb dL_law_1251 rfl (lv_at hl 1 rfl) ?_
      refine lv_aload_n hx hb dL_law_1252 rfl (lv_at hl 3 rfl) ?_
      refine lv_iload_n hx hb dL_law_1253 rfl (lv_at hl 0 rfl) ?_
      refine lv_iconst (v := 1) hx hb dL_law_1254 (by decide) ?_
      refine lv_iadd hx hb dL_law_1255 ?_
      refine q_c 1 (by decide +kernel) ?_
      refine va_sld X.1 X.2.1 hX hbl hbA hw33.2.2 (q_in (by decide +kernel)) dL_law_1256 ?_
      refine q_c 3 e1 ?_
      refine lv_aload_n hx hb dL_law_1257 rfl (lv_at hl 3 rfl) ?_
      refine lv_iload_n hx hb dL_law_1258 rfl (lv_at hl 0 rfl) ?_
      refine lv_iconst (v := 2) hx hb dL_law_1259 (by decide) ?_
      refine lv_iadd hx hb dL_law_1260 ?_
      refine q_c 2 (by decide +kernel) ?_
      refine va_sld X.1 X.2.1 hX hbl hbA hw33.2.2 (q_in (by decide +kernel)) dL_law_1261 ?_
      refine q_c a2 e2 ?_
      refine lv_aload_n hx hb dL_law_1262 rfl (lv_at hl 3 rfl) ?_
      refine lv_iload_n hx hb dL_law_1263 rfl (lv_at hl 0 rfl) ?_
      refine lv_iconst (v := 3) hx hb dL_law_1264 (by decide) ?_
      refine lv_iadd hx hb dL_law_1265 ?_
      refine q_c 3 (by decide +kernel) ?_
      refine va_sld X.1 X.2.1 hX hbl hbA hw33.2.2 (q_in (by decide +kernel)) dL_law_1266 ?_
      refine q_c a3 e3 ?_
      have g_12005 : a2 ≤ ((-1) : Int32) := by
        simp only [Int32.lt_iff_toInt_lt, Int32.le_iff_toInt_le, ← Int32.toInt_inj] at c_11978 ⊢
        have k_0 : ((-1) : Int32).toInt = -1 := by decide
        omega
      refine q_callVi (rest := [.int (-2)]) (wr := []) X hK hA hw33 (fun sz => kX12_numbers_472 l D cy y0 a2 a3 (u_1.1 19) (u_1.1 0) (u_1.1 1) (u_1.1 2) (u_1.1 3) (u_1.1 4) (u_1.1 5) (u_1.1 6) (u_1.1 7) (u_1.1 8) (u_1.1 9) (u_1.1 10) (u_1.1 11) (u_1.1 12) (u_1.1 13) (u_1.1 14) (u_1.1 15) (u_1.1 16) (u_1.1 17) (u_1.1 18) g_12005 sz) wm_8_27 wm_8_30 wm_1_12 hd_X12_numbers wm_8_28 wm_8_29 (ci := 12) (q0 := 0) rfl rfl ⟨Nat.le_of_ble_eq_true rfl, Nat.le_of_ble_eq_true rfl⟩ hl.1 rfl (Nat.le_of_ble_eq_true rfl) dL_law_1267 ⟨Nat.le_of_ble_eq_true rfl, Nat.le_of_ble_eq_true rfl⟩ [0] [] rfl rfl (by decide) rfl rfl (fun r_12006 u_12006 Hp34 lc34 w_12006 hw34 => ?_)
      clear Hp33 lc33 hw33
      obtain rfl : r_12006 = (-2) := w_12006
      replace hw34 : qW D _ _ [] _ _ := hw34
      refine lv_icmp_eq (tgt := 1461) hx hb dL_law_1270 (by decide) (fun _ => ?_) (fun c => absurd c (by decide +kernel))
      exact law_tail l X hr hlk hX hbl hw34.2.2 hl (Nat.le_of_ble_eq_true rfl) (Nat.le_of_ble_eq_true rfl)
    by_cases c_12007 : a2 ≤ 3
    · skip
      by_cases c_12030 : a3 ≤ (-1)
      · skip
        refine lv_aload_n hx hb dL_law_1232 rfl (lv_at hl 2 rfl) ?_
        refine lv_aload_n hx hb dL_law_1233 rfl (lv_at hl 3 rfl) ?_
        refine lv_iload_n hx hb dL_law_1234 rfl (lv_at hl 0 rfl) ?_
        refine lv_iconst (v := 1) hx hb dL_law_1235 (by decide) ?_
        refine lv_iadd hx hb dL_law_1236 ?_
        refine q_c 1 (by decide +kernel) ?_
        refine va_sld X.1 X.2.1 hX hbl hbA hw34.2.2 (q_in (by decide +kernel)) dL_law_1237 ?_
        refine q_c 3 e1 ?_
        refine lv_aload_n hx hb dL_law_1238 rfl (lv_at hl 3 rfl) ?_
        refine lv_iload_n hx hb dL_law_1239 rfl (lv_at hl 0 rfl) ?_
        refine lv_iconst (v := 2) hx hb dL_law_1240 (by decide) ?_
        refine lv_iadd hx hb dL_law_1241 ?_
        refine q_c 2 (by decide +kernel) ?_
        refine va_sld X.1 X.2.1 hX hbl hbA hw34.2.2 (q_in (by decide +kernel)) dL_law_1242 ?_
        refine q_c a2 e2 ?_
        refine lv_aload_n hx hb dL_law_1243 rfl (lv_at hl 3 rfl) ?_
        refine lv_iload_n hx hb dL_law_1244 rfl (lv_at hl 0 rfl) ?_
        refine lv_iconst (v := 3) hx hb dL_law_1245 (by decide) ?_
        refine lv_iadd hx hb dL_law_1246 ?_
        refine q_c 3 (by decide +kernel) ?_
        refine va_sld X.1 X.2.1 hX hbl hbA hw34.2.2 (q_in (by decide +kernel)) dL_law_1247 ?_
        refine q_c a3 e3 ?_
        have g_12074 : (0 : Int32) ≤ a2 := by
          simp only [Int32.lt_iff_toInt_lt, Int32.le_iff_toInt_le, ← Int32.toInt_inj] at c_11978 c_12007 ⊢
          have k_0 : ((-1) : Int32).toInt = -1 := by decide
          have k_1 : (3 : Int32).toInt = 3 := by decide
          have k_g : (0 : Int32).toInt = 0 := by decide
          omega
        have g_12075 : a2 ≤ (3 : Int32) := by
          simp only [Int32.lt_iff_toInt_lt, Int32.le_iff_toInt_le, ← Int32.toInt_inj] at c_11978 c_12007 ⊢
          have k_0 : ((-1) : Int32).toInt = -1 := by decide
          have k_1 : (3 : Int32).toInt = 3 := by decide
          omega
        have g_12076 : a3 ≤ ((-1) : Int32) := by
          simp only [Int32.lt_iff_toInt_lt, Int32.le_iff_toInt_le, ← Int32.toInt_inj] at c_12030 ⊢
          have k_0 : ((-1) : Int32).toInt = -1 := by decide
          omega
        refine q_callVi (rest := []) (wr := [(y0, .inr (12, [.int 0, .ref (u_1.1 19), .ref (u_1.1 0), .ref (u_1.1 1), .ref (u_1.1 2), .int 0, .int 0, .int 0, .int 0, .int 0, .int 0, .int 0, .int 0, .int 0, .int (-1), .int 0, .ref (u_1.1 3), .ref (u_1.1 4), .ref (u_1.1 5), .ref (u_1.1 6), .ref (u_1.1 7), .int 0, .int 0, .ref (u_1.1 8), .ref (u_1.1 9), .ref (u_1.1 10), .int 0, .int 0, .ref (u_1.1 11), .ref (u_1.1 12), .ref (u_1.1 13), .ref (u_1.1 14), .ref (u_1.1 15), .int 0, .ref (u_1.1 16), .ref (u_1.1 17), .ref (u_1.1 18)]))]) X hK hA hw34 (fun sz => kX11_numbers_473 l D cy x0 a2 a3 (u_0.1 0) (u_0.1 1) (u_0.1 37) (u_0.1 39) (u_0.1 41) (u_0.1 43) (u_0.1 14) (u_0.1 15) (u_0.1 16) (u_0.1 17) (u_0.1 20) (u_0.1 24) (u_0.1 29) g_12074 g_12075 g_12076 sz) wm_5_120 wm_5_123 wm_1_1 hd_X11_numbers wm_5_121 wm_5_122 (ci := 11) (q0 := 0) rfl rfl ⟨Nat.le_of_ble_eq_true rfl, Nat.le_of_ble_eq_true rfl⟩ hl.1 rfl (Nat.le_of_ble_eq_true rfl) dL_law_1248 ⟨Nat.le_of_ble_eq_true rfl, Nat.le_of_ble_eq_true rfl⟩ [0] [78] rfl rfl (by decide) rfl rfl (fun r_12077 u_12077 Hp35 lc35 w_12077 hw35 => ?_)
        clear Hp34 lc34 hw34
        obtain rfl : r_12077 = (-3) := w_12077
        replace hw35 : qW D _ _ [(y0, .inr (12, [.int 0, .ref (u_1.1 19), .ref (u_1.1 0), .ref (u_1.1 1), .ref (u_1.1 2), .int 0, .int 0, .int 0, .int 0, .int 0, .int 0, .int 0, .int 0, .int 0, .int (-1), .int 0, .ref (u_1.1 3), .ref (u_1.1 4), .ref (u_1.1 5), .ref (u_1.1 6), .ref (u_1.1 7), .int 0, .int 0, .ref (u_1.1 8), .ref (u_1.1 9), .ref (u_1.1 10), .int 0, .int 0, .ref (u_1.1 11), .ref (u_1.1 12), .ref (u_1.1 13), .ref (u_1.1 14), .ref (u_1.1 15), .int 0, .ref (u_1.1 16), .ref (u_1.1 17), .ref (u_1.1 18)]))] _ _ := hw35
        refine lv_aload_n hx hb dL_law_1251 rfl (lv_at hl 1 rfl) ?_
        refine lv_aload_n hx hb dL_law_1252 rfl (lv_at hl 3 rfl) ?_
        refine lv_iload_n hx hb dL_law_1253 rfl (lv_at hl 0 rfl) ?_
        refine lv_iconst (v := 1) hx hb dL_law_1254 (by decide) ?_
        refine lv_iadd hx hb dL_law_1255 ?_
        refine q_c 1 (by decide +kernel) ?_
        refine va_sld X.1 X.2.1 hX hbl hbA hw35.2.2 (q_in (by decide +kernel)) dL_law_1256 ?_
        refine q_c 3 e1 ?_
        refine lv_aload_n hx hb dL_law_1257 rfl (lv_at hl 3 rfl) ?_
        refine lv_iload_n hx hb dL_law_1258 rfl (lv_at hl 0 rfl) ?_
        refine lv_iconst (v := 2) hx hb dL_law_1259 (by decide) ?_
        refine lv_iadd hx hb dL_law_1260 ?_
        refine q_c 2 (by decide +kernel) ?_
        refine va_sld X.1 X.2.1 hX hbl hbA hw35.2.2 (q_in (by decide +kernel)) dL_law_1261 ?_
        refine q_c a2 e2 ?_
        refine lv_aload_n hx hb dL_law_1262 rfl (lv_at hl 3 rfl) ?_
        refine lv_iload_n hx hb dL_law_1263 rfl (lv_at hl 0 rfl) ?_
        refine lv_iconst (v := 3) hx hb dL_law_1264 (by decide) ?_
        refine lv_iadd hx hb dL_law_1265 ?_
        refine q_c 3 (by decide +kernel) ?_
        refine va_sld X.1 X.2.1 hX hbl hbA hw35.2.2 (q_in (by decide +kernel)) dL_law_1266 ?_
        refine q_c a3 e3 ?_
        have g_12087 : (0 : Int32) ≤ a2 := by
          simp only [Int32.lt_iff_toInt_lt, Int32.le_iff_toInt_le, ← Int32.toInt_inj] at c_11978 c_12007 ⊢
          have k_0 : ((-1) : Int32).toInt = -1 := by decide
          have k_1 : (3 : Int32).toInt = 3 := by decide
          have k_g : (0 : Int32).toInt = 0 := by decide
          omega
        have g_12088 : a2 ≤ (3 : Int32) := by
          simp only [Int32.lt_iff_toInt_lt, Int32.le_iff_toInt_le, ← Int32.toInt_inj] at c_11978 c_12007 ⊢
          have k_0 : ((-1) : Int32).toInt = -1 := by decide
          have k_1 : (3 : Int32).toInt = 3 := by decide
          omega
        have g_12089 : a3 ≤ ((-1) : Int32) := by
          simp only [Int32.lt_iff_toInt_lt, Int32.le_iff_toInt_le, ← Int32.toInt_inj] at c_12030 ⊢
          have k_0 : ((-1) : Int32).toInt = -1 := by decide
          omega
        refine q_callVi (rest := [.int (-3)]) (wr := []) X hK hA hw35 (fun sz => kX12_numbers_474 l D cy y0 a2 a3 (u_1.1 19) (u_1.1 0) (u_1.1 1) (u_1.1 2) (u_1.1 3) (u_1.1 4) (u_1.1 5) (u_1.1 6) (u_1.1 7) (u_1.1 8) (u_1.1 9) (u_1.1 10) (u_1.1 11) (u_1.1 12) (u_1.1 13) (u_1.1 14) (u_1.1 15) (u_1.1 16) (u_1.1 17) (u_1.1 18) g_12087 g_12088 g_12089 sz) wm_8_27 wm_8_30 wm_1_12 hd_X12_numbers wm_8_28 wm_8_29 (ci := 12) (q0 := 0) rfl rfl ⟨Nat.le_of_ble_eq_true rfl, Nat.le_of_ble_eq_true rfl⟩ hl.1 rfl (Nat.le_of_ble_eq_true rfl) dL_law_1267 ⟨Nat.le_of_ble_eq_true rfl, Nat.le_of_ble_eq_true rfl⟩ [0] [] rfl rfl (by decide) rfl rfl (fun r_12090 u_12090 Hp36 lc36 w_12090 hw36 => ?_)
        clear Hp35 lc35 hw35
        obtain rfl : r_12090 = (-3) := w_12090
        replace hw36 : qW D _ _ [] _ _ := hw36
        refine lv_icmp_eq (tgt := 1461) hx hb dL_law_1270 (by decide) (fun _ => ?_) (fun c => absurd c (by decide +kernel))
        exact law_tail l X hr hlk hX hbl hw36.2.2 hl (Nat.le_of_ble_eq_true rfl) (Nat.le_of_ble_eq_true rfl)
      by_cases c_12091 : a3 ≤ 40
      · skip
        refine lv_aload_n hx hb dL_law_1232 rfl (lv_at hl 2 rfl) ?_
        refine lv_aload_n hx hb dL_law_1233 rfl (lv_at hl 3 rfl) ?_
        refine lv_iload_n hx hb dL_law_1234 rfl (lv_at hl 0 rfl) ?_
        refine lv_iconst (v := 1) hx hb dL_law_1235 (by decide) ?_
        refine lv_iadd hx hb dL_law_1236 ?_
        refine q_c 1 (by decide +kernel) ?_
        refine va_sld X.1 X.2.1 hX hbl hbA hw36.2.2 (q_in (by decide +kernel)) dL_law_1237 ?_
        refine q_c 3 e1 ?_
        refine lv_aload_n hx hb dL_law_1238 rfl (lv_at hl 3 rfl) ?_
        refine lv_iload_n hx hb dL_law_1239 rfl (lv_at hl 0 rfl) ?_
        refine lv_iconst (v := 2) hx hb dL_law_1240 (by decide) ?_
        refine lv_iadd hx hb dL_law_1241 ?_
        refine q_c 2 (by decide +kernel) ?_
        refine va_sld X.1 X.2.1 hX hbl hbA hw36.2.2 (q_in (by decide +kernel)) dL_law_1242 ?_
        refine q_c a2 e2 ?_
        refine lv_aload_n hx hb dL_law_1243 rfl (lv_at hl 3 rfl) ?_
        refine lv_iload_n hx hb dL_law_1244 rfl (lv_at hl 0 rfl) ?_
        refine lv_iconst (v := 3) hx hb dL_law_1245 (by decide) ?_
        refine lv_iadd hx hb dL_law_1246 ?_
        refine q_c 3 (by decide +kernel) ?_
        refine va_sld X.1 X.2.1 hX hbl hbA hw36.2.2 (q_in (by decide +kernel)) dL_law_1247 ?_
        refine q_c a3 e3 ?_
        have g_12175 : (0 : Int32) ≤ a2 := by
          simp only [Int32.lt_iff_toInt_lt, Int32.le_iff_toInt_le, ← Int32.toInt_inj] at c_11978 c_12007 ⊢
          have k_0 : ((-1) : Int32).toInt = -1 := by decide
          have k_1 : (3 : Int32).toInt = 3 := by decide
          have k_g : (0 : Int32).toInt = 0 := by decide
          omega
        have g_12176 : a2 ≤ (3 : Int32) := by
          simp only [Int32.lt_iff_toInt_lt, Int32.le_iff_toInt_le, ← Int32.toInt_inj] at c_11978 c_12007 ⊢
          have k_0 : ((-1) : Int32).toInt = -1 := by decide
          have k_1 : (3 : Int32).toInt = 3 := by decide
          omega
        have g_12177 : (0 : Int32) ≤ a3 := by
          simp only [Int32.lt_iff_toInt_lt, Int32.le_iff_toInt_le, ← Int32.toInt_inj] at c_12030 c_12091 ⊢
          have k_0 : ((-1) : Int32).toInt = -1 := by decide
          have k_1 : (40 : Int32).toInt = 40 := by decide
          have k_g : (0 : Int32).toInt = 0 := by decide
          omega
        have g_12178 : a3 ≤ (40 : Int32) := by
          simp only [Int32.lt_iff_toInt_lt, Int32.le_iff_toInt_le, ← Int32.toInt_inj] at c_12030 c_12091 ⊢
          have k_0 : ((-1) : Int32).toInt = -1 := by decide
          have k_1 : (40 : Int32).toInt = 40 := by decide
          omega
        refine q_callVi (rest := []) (wr := [(y0, .inr (12, [.int 0, .ref (u_1.1 19), .ref (u_1.1 0), .ref (u_1.1 1), .ref (u_1.1 2), .int 0, .int 0, .int 0, .int 0, .int 0, .int 0, .int 0, .int 0, .int 0, .int (-1), .int 0, .ref (u_1.1 3), .ref (u_1.1 4), .ref (u_1.1 5), .ref (u_1.1 6), .ref (u_1.1 7), .int 0, .int 0, .ref (u_1.1 8), .ref (u_1.1 9), .ref (u_1.1 10), .int 0, .int 0, .ref (u_1.1 11), .ref (u_1.1 12), .ref (u_1.1 13), .ref (u_1.1 14), .ref (u_1.1 15), .int 0, .ref (u_1.1 16), .ref (u_1.1 17), .ref (u_1.1 18)])), ((u_1.1 16), .inl (cy 1, 4, .inl (upd (upd (upd (upd (fun _ => 0) (Int32.toNatClampNeg 0) (-1)) (Int32.toNatClampNeg 1) (-1)) (Int32.toNatClampNeg 2) (-1)) (Int32.toNatClampNeg 3) (-1)))), ((u_1.1 17), .inl (cy 1, 4, .inl (fun _ => 0))), ((u_1.1 18), .inl (cy 2, 160, .inr (.inl (fun _ => 0))))]) X hK hA hw36 (fun sz => kX11_numbers_475 l D cy x0 (u_0.1 14) (u_0.1 71) (u_0.1 72) a2 a3 (u_0.1 0) (u_0.1 1) (u_0.1 37) (u_0.1 39) (u_0.1 41) (u_0.1 43) (u_0.1 15) (u_0.1 16) (u_0.1 17) (u_0.1 20) (u_0.1 24) (u_0.1 29) (u_0.1 69) (u_0.1 67) (u_0.1 65) g_12175 g_12176 g_12177 g_12178 sz) wm_5_120 wm_5_123 wm_1_1 hd_X11_numbers wm_5_121 wm_5_122 (ci := 11) (q0 := 0) rfl rfl ⟨Nat.le_of_ble_eq_true rfl, Nat.le_of_ble_eq_true rfl⟩ hl.1 rfl (Nat.le_of_ble_eq_true rfl) dL_law_1248 ⟨Nat.le_of_ble_eq_true rfl, Nat.le_of_ble_eq_true rfl⟩ [0, 15, 72, 73] [78, 95, 96, 97] rfl rfl (by decide) rfl rfl (fun r_12179 u_12179 Hp37 lc37 w_12179 hw37 => ?_)
        clear Hp36 lc36 hw36
        obtain rfl : r_12179 = 0 := w_12179
        replace hw37 : qW D _ _ [(y0, .inr (12, [.int 0, .ref (u_1.1 19), .ref (u_1.1 0), .ref (u_1.1 1), .ref (u_1.1 2), .int 0, .int 0, .int 0, .int 0, .int 0, .int 0, .int 0, .int 0, .int 0, .int (-1), .int 0, .ref (u_1.1 3), .ref (u_1.1 4), .ref (u_1.1 5), .ref (u_1.1 6), .ref (u_1.1 7), .int 0, .int 0, .ref (u_1.1 8), .ref (u_1.1 9), .ref (u_1.1 10), .int 0, .int 0, .ref (u_1.1 11), .ref (u_1.1 12), .ref (u_1.1 13), .ref (u_1.1 14), .ref (u_1.1 15), .int 0, .ref (u_1.1 16), .ref (u_1.1 17), .ref (u_1.1 18)])), ((u_1.1 16), .inl (cy 1, 4, .inl (upd (upd (upd (upd (fun _ => 0) (Int32.toNatClampNeg 0) (-1)) (Int32.toNatClampNeg 1) (-1)) (Int32.toNatClampNeg 2) (-1)) (Int32.toNatClampNeg 3) (-1)))), ((u_1.1 17), .inl (cy 1, 4, .inl (fun _ => 0))), ((u_1.1 18), .inl (cy 2, 160, .inr (.inl (fun _ => 0))))] _ _ := hw37
        refine lv_aload_n hx hb dL_law_1251 rfl (lv_at hl 1 rfl) ?_
        refine lv_aload_n hx hb dL_law_1252 rfl (lv_at hl 3 rfl) ?_
        refine lv_iload_n hx hb dL_law_1253 rfl (lv_at hl 0 rfl) ?_
        refine lv_iconst (v := 1) hx hb dL_law_1254 (by decide) ?_
        refine lv_iadd hx hb dL_law_1255 ?_
        refine q_c 1 (by decide +kernel) ?_
        refine va_sld X.1 X.2.1 hX hbl hbA hw37.2.2 (q_in (by decide +kernel)) dL_law_1256 ?_
        refine q_c 3 e1 ?_
        refine lv_aload_n hx hb dL_law_1257 rfl (lv_at hl 3 rfl) ?_
        refine lv_iload_n hx hb dL_law_1258 rfl (lv_at hl 0 rfl) ?_
        refine lv_iconst (v := 2) hx hb dL_law_1259 (by decide) ?_
        refine lv_iadd hx hb dL_law_1260 ?_
        refine q_c 2 (by decide +kernel) ?_
        refine va_sld X.1 X.2.1 hX hbl hbA hw37.2.2 (q_in (by decide +kernel)) dL_law_1261 ?_
        refine q_c a2 e2 ?_
        refine lv_aload_n hx hb dL_law_1262 rfl (lv_at hl 3 rfl) ?_
        refine lv_iload_n hx hb dL_law_1263 rfl (lv_at hl 0 rfl) ?_
        refine lv_iconst (v := 3) hx hb dL_law_1264 (by decide) ?_
        refine lv_iadd hx hb dL_law_1265 ?_
        refine q_c 3 (by decide +kernel) ?_
        refine va_sld X.1 X.2.1 hX hbl hbA hw37.2.2 (q_in (by decide +kernel)) dL_law_1266 ?_
        refine q_c a3 e3 ?_
        have g_12193 : (0 : Int32) ≤ a2 := by
          simp only [Int32.lt_iff_toInt_lt, Int32.le_iff_toInt_le, ← Int32.toInt_inj] at c_11978 c_12007 ⊢
          have k_0 : ((-1) : Int32).toInt = -1 := by decide
          have k_1 : (3 : Int32).toInt = 3 := by decide
          have k_g : (0 : Int32).toInt = 0 := by decide
          omega
        have g_12194 : a2 ≤ (3 : Int32) := by
          simp only [Int32.lt_iff_toInt_lt, Int32.le_iff_toInt_le, ← Int32.toInt_inj] at c_11978 c_12007 ⊢
          have k_0 : ((-1) : Int32).toInt = -1 := by decide
          have k_1 : (3 : Int32).toInt = 3 := by decide
          omega
        have g_12195 : (0 : Int32) ≤ a3 := by
          simp only [Int32.lt_iff_toInt_lt, Int32.le_iff_toInt_le, ← Int32.toInt_inj] at c_12030 c_12091 ⊢
          have k_0 : ((-1) : Int32).toInt = -1 := by decide
          have k_1 : (40 : Int32).toInt = 40 := by decide
          have k_g : (0 : Int32).toInt = 0 := by decide
          omega
        have g_12196 : a3 ≤ (40 : Int32) := by
          simp only [Int32.lt_iff_toInt_lt, Int32.le_iff_toInt_le, ← Int32.toInt_inj] at c_12030 c_12091 ⊢
          have k_0 : ((-1) : Int32).toInt = -1 := by decide
          have k_1 : (40 : Int32).toInt = 40 := by decide
          omega
        refine q_callVi (rest := [.int 0]) (wr := []) X hK hA hw37 (fun sz => kX12_numbers_476 l D cy y0 (u_1.1 16) (u_1.1 17) (u_1.1 18) (upd (upd (upd (upd (fun _ => 0) (Int32.toNatClampNeg 0) (-1)) (Int32.toNatClampNeg 1) (-1)) (Int32.toNatClampNeg 2) (-1)) (Int32.toNatClampNeg 3) (-1)) a2 a3 (u_1.1 19) (u_1.1 0) (u_1.1 1) (u_1.1 2) (u_1.1 3) (u_1.1 4) (u_1.1 5) (u_1.1 6) (u_1.1 7) (u_1.1 8) (u_1.1 9) (u_1.1 10) (u_1.1 11) (u_1.1 12) (u_1.1 13) (u_1.1 14) (u_1.1 15) g_12193 g_12194 g_12195 g_12196 sz) wm_8_27 wm_8_30 wm_1_12 hd_X12_numbers wm_8_28 wm_8_29 (ci := 12) (q0 := 0) rfl rfl ⟨Nat.le_of_ble_eq_true rfl, Nat.le_of_ble_eq_true rfl⟩ hl.1 rfl (Nat.le_of_ble_eq_true rfl) dL_law_1267 ⟨Nat.le_of_ble_eq_true rfl, Nat.le_of_ble_eq_true rfl⟩ [0, 1, 2, 3] [] rfl rfl (by decide) rfl rfl (fun r_12197 u_12197 Hp38 lc38 w_12197 hw38 => ?_)
        clear Hp37 lc37 hw37
        obtain rfl : r_12197 = 0 := w_12197
        replace hw38 : qW D _ _ [] _ _ := hw38
        refine lv_icmp_eq (tgt := 1461) hx hb dL_law_1270 (by decide) (fun _ => ?_) (fun c => absurd c (by decide +kernel))
        exact law_tail l X hr hlk hX hbl hw38.2.2 hl (Nat.le_of_ble_eq_true rfl) (Nat.le_of_ble_eq_true rfl)
      refine lv_aload_n hx hb dL_law_1232 rfl (lv_at hl 2 rfl) ?_
      refine lv_aload_n hx hb dL_law_1233 rfl (lv_at hl 3 rfl) ?_
      refine lv_iload_n hx hb dL_law_1234 rfl (lv_at hl 0 rfl) ?_
      refine lv_iconst (v := 1) hx hb dL_law_1235 (by decide) ?_
      refine lv_iadd hx hb dL_law_1236 ?_
      refine q_c 1 (by decide +kernel) ?_
      refine va_sld X.1 X.2.1 hX hbl hbA hw38.2.2 (q_in (by decide +kernel)) dL_law_1237 ?_
      refine q_c 3 e1 ?_
      refine lv_aload_n hx hb dL_law_1238 rfl (lv_at hl 3 rfl) ?_
      refine lv_iload_n hx hb dL_law_1239 rfl (lv_at hl 0 rfl) ?_
      refine lv_iconst (v := 2) hx hb dL_law_1240 (by decide) ?_
      refine lv_iadd hx hb dL_law_1241 ?_
      refine q_c 2 (by decide +kernel) ?_
      refine va_sld X.1 X.2.1 hX hbl hbA hw38.2.2 (q_in (by decide +kernel)) dL_law_1242 ?_
      refine q_c a2 e2 ?_
      refine lv_aload_n hx hb dL_law_1243 rfl (lv_at hl 3 rfl) ?_
      refine lv_iload_n hx hb dL_law_1244 rfl (lv_at hl 0 rfl) ?_
      refine lv_iconst (v := 3) hx hb dL_law_1245 (by decide) ?_
      refine lv_iadd hx hb dL_law_1246 ?_
      refine q_c 3 (by decide +kernel) ?_
      refine va_sld X.1 X.2.1 hX hbl hbA hw38.2.2 (q_in (by decide +kernel)) dL_law_1247 ?_
      refine q_c a3 e3 ?_
      have g_12249 : (0 : Int32) ≤ a2 := by
        simp only [Int32.lt_iff_toInt_lt, Int32.le_iff_toInt_le, ← Int32.toInt_inj] at c_11978 c_12007 ⊢
        have k_0 : ((-1) : Int32).toInt = -1 := by decide
        have k_1 : (3 : Int32).toInt = 3 := by decide
        have k_g : (0 : Int32).toInt = 0 := by decide
        omega
      have g_12250 : a2 ≤ (3 : Int32) := by
        simp only [Int32.lt_iff_toInt_lt, Int32.le_iff_toInt_le, ← Int32.toInt_inj] at c_11978 c_12007 ⊢
        have k_0 : ((-1) : Int32).toInt = -1 := by decide
        have k_1 : (3 : Int32).toInt = 3 := by decide
        omega
      have g_12251 : (41 : Int32) ≤ a3 := by
        simp only [Int32.lt_iff_toInt_lt, Int32.le_iff_toInt_le, ← Int32.toInt_inj] at c_12030 c_12091 ⊢
        have k_0 : ((-1) : Int32).toInt = -1 := by decide
        have k_1 : (40 : Int32).toInt = 40 := by decide
        have k_g : (41 : Int32).toInt = 41 := by decide
        omega
      refine q_callVi (rest := []) (wr := [(y0, .inr (12, [.int 0, .ref (u_1.1 19), .ref (u_1.1 0), .ref (u_1.1 1), .ref (u_1.1 2), .int 0, .int 0, .int 0, .int 0, .int 0, .int 0, .int 0, .int 0, .int 0, .int (-1), .int 0, .ref (u_1.1 3), .ref (u_1.1 4), .ref (u_1.1 5), .ref (u_1.1 6), .ref (u_1.1 7), .int 0, .int 0, .ref (u_1.1 8), .ref (u_1.1 9), .ref (u_1.1 10), .int 0, .int 0, .ref (u_1.1 11), .ref (u_1.1 12), .ref (u_1.1 13), .ref (u_1.1 14), .ref (u_1.1 15), .int 0, .ref (u_1.1 16), .ref (u_1.1 17), .ref (u_1.1 18)]))]) X hK hA hw38 (fun sz => kX11_numbers_477 l D cy x0 a2 a3 (u_0.1 0) (u_0.1 1) (u_0.1 37) (u_0.1 39) (u_0.1 41) (u_0.1 43) (u_0.1 14) (u_0.1 15) (u_0.1 16) (u_0.1 17) (u_0.1 20) (u_0.1 24) (u_0.1 29) g_12249 g_12250 g_12251 sz) wm_5_120 wm_5_123 wm_1_1 hd_X11_numbers wm_5_121 wm_5_122 (ci := 11) (q0 := 0) rfl rfl ⟨Nat.le_of_ble_eq_true rfl, Nat.le_of_ble_eq_true rfl⟩ hl.1 rfl (Nat.le_of_ble_eq_true rfl) dL_law_1248 ⟨Nat.le_of_ble_eq_true rfl, Nat.le_of_ble_eq_true rfl⟩ [0] [78] rfl rfl (by decide) rfl rfl (fun r_12252 u_12252 Hp39 lc39 w_12252 hw39 => ?_)
      clear Hp38 lc38 hw38
      obtain rfl : r_12252 = (-3) := w_12252
      replace hw39 : qW D _ _ [(y0, .inr (12, [.int 0, .ref (u_1.1 19), .ref (u_1.1 0), .ref (u_1.1 1), .ref (u_1.1 2), .int 0, .int 0, .int 0, .int 0, .int 0, .int 0, .int 0, .int 0, .int 0, .int (-1), .int 0, .ref (u_1.1 3), .ref (u_1.1 4), .ref (u_1.1 5), .ref (u_1.1 6), .ref (u_1.1 7), .int 0, .int 0, .ref (u_1.1 8), .ref (u_1.1 9), .ref (u_1.1 10), .int 0, .int 0, .ref (u_1.1 11), .ref (u_1.1 12), .ref (u_1.1 13), .ref (u_1.1 14), .ref (u_1.1 15), .int 0, .ref (u_1.1 16), .ref (u_1.1 17), .ref (u_1.1 18)]))] _ _ := hw39
      refine lv_aload_n hx hb dL_law_1251 rfl (lv_at hl 1 rfl) ?_
      refine lv_aload_n hx hb dL_law_1252 rfl (lv_at hl 3 rfl) ?_
      refine lv_iload_n hx hb dL_law_1253 rfl (lv_at hl 0 rfl) ?_
      refine lv_iconst (v := 1) hx hb dL_law_1254 (by decide) ?_
      refine lv_iadd hx hb dL_law_1255 ?_
      refine q_c 1 (by decide +kernel) ?_
      refine va_sld X.1 X.2.1 hX hbl hbA hw39.2.2 (q_in (by decide +kernel)) dL_law_1256 ?_
      refine q_c 3 e1 ?_
      refine lv_aload_n hx hb dL_law_1257 rfl (lv_at hl 3 rfl) ?_
      refine lv_iload_n hx hb dL_law_1258 rfl (lv_at hl 0 rfl) ?_
      refine lv_iconst (v := 2) hx hb dL_law_1259 (by decide) ?_
      refine lv_iadd hx hb dL_law_1260 ?_
      refine q_c 2 (by decide +kernel) ?_
      refine va_sld X.1 X.2.1 hX hbl hbA hw39.2.2 (q_in (by decide +kernel)) dL_law_1261 ?_
      refine q_c a2 e2 ?_
      refine lv_aload_n hx hb dL_law_1262 rfl (lv_at hl 3 rfl) ?_
      refine lv_iload_n hx hb dL_law_1263 rfl (lv_at hl 0 rfl) ?_
      refine lv_iconst (v := 3) hx hb dL_law_1264 (by decide) ?_
      refine lv_iadd hx hb dL_law_1265 ?_
      refine q_c 3 (by decide +kernel) ?_
      refine va_sld X.1 X.2.1 hX hbl hbA hw39.2.2 (q_in (by decide +kernel)) dL_law_1266 ?_
      refine q_c a3 e3 ?_
      have g_12263 : (0 : Int32) ≤ a2 := by
        simp only [Int32.lt_iff_toInt_lt, Int32.le_iff_toInt_le, ← Int32.toInt_inj] at c_11978 c_12007 ⊢
        have k_0 : ((-1) : Int32).toInt = -1 := by decide
        have k_1 : (3 : Int32).toInt = 3 := by decide
        have k_g : (0 : Int32).toInt = 0 := by decide
        omega
      have g_12264 : a2 ≤ (3 : Int32) := by
        simp only [Int32.lt_iff_toInt_lt, Int32.le_iff_toInt_le, ← Int32.toInt_inj] at c_11978 c_12007 ⊢
        have k_0 : ((-1) : Int32).toInt = -1 := by decide
        have k_1 : (3 : Int32).toInt = 3 := by decide
        omega
      have g_12265 : (41 : Int32) ≤ a3 := by
        simp only [Int32.lt_iff_toInt_lt, Int32.le_iff_toInt_le, ← Int32.toInt_inj] at c_12030 c_12091 ⊢
        have k_0 : ((-1) : Int32).toInt = -1 := by decide
        have k_1 : (40 : Int32).toInt = 40 := by decide
        have k_g : (41 : Int32).toInt = 41 := by decide
        omega
      refine q_callVi (rest := [.int (-3)]) (wr := []) X hK hA hw39 (fun sz => kX12_numbers_478 l D cy y0 a2 a3 (u_1.1 19) (u_1.1 0) (u_1.1 1) (u_1.1 2) (u_1.1 3) (u_1.1 4) (u_1.1 5) (u_1.1 6) (u_1.1 7) (u_1.1 8) (u_1.1 9) (u_1.1 10) (u_1.1 11) (u_1.1 12) (u_1.1 13) (u_1.1 14) (u_1.1 15) (u_1.1 16) (u_1.1 17) (u_1.1 18) g_12263 g_12264 g_12265 sz) wm_8_27 wm_8_30 wm_1_12 hd_X12_numbers wm_8_28 wm_8_29 (ci := 12) (q0 := 0) rfl rfl ⟨Nat.le_of_ble_eq_true rfl, Nat.le_of_ble_eq_true rfl⟩ hl.1 rfl (Nat.le_of_ble_eq_true rfl) dL_law_1267 ⟨Nat.le_of_ble_eq_true rfl, Nat.le_of_ble_eq_true rfl⟩ [0] [] rfl rfl (by decide) rfl rfl (fun r_12266 u_12266 Hp40 lc40 w_12266 hw40 => ?_)
      clear Hp39 lc39 hw39
      obtain rfl : r_12266 = (-3) := w_12266
      replace hw40 : qW D _ _ [] _ _ := hw40
      refine lv_icmp_eq (tgt := 1461) hx hb dL_law_1270 (by decide) (fun _ => ?_) (fun c => absurd c (by decide +kernel))
      exact law_tail l X hr hlk hX hbl hw40.2.2 hl (Nat.le_of_ble_eq_true rfl) (Nat.le_of_ble_eq_true rfl)
    refine lv_aload_n hx hb dL_law_1232 rfl (lv_at hl 2 rfl) ?_
    refine lv_aload_n hx hb dL_law_1233 rfl (lv_at hl 3 rfl) ?_
    refine lv_iload_n hx hb dL_law_1234 rfl (lv_at hl 0 rfl) ?_
    refine lv_iconst (v := 1) hx hb dL_law_1235 (by decide) ?_
    refine lv_iadd hx hb dL_law_1236 ?_
    refine q_c 1 (by decide +kernel) ?_
    refine va_sld X.1 X.2.1 hX hbl hbA hw40.2.2 (q_in (by decide +kernel)) dL_law_1237 ?_
    refine q_c 3 e1 ?_
    refine lv_aload_n hx hb dL_law_1238 rfl (lv_at hl 3 rfl) ?_
    refine lv_iload_n hx hb dL_law_1239 rfl (lv_at hl 0 rfl) ?_
    refine lv_iconst (v := 2) hx hb dL_law_1240 (by decide) ?_
    refine lv_iadd hx hb dL_law_1241 ?_
    refine q_c 2 (by decide +kernel) ?_
    refine va_sld X.1 X.2.1 hX hbl hbA hw40.2.2 (q_in (by decide +kernel)) dL_law_1242 ?_
    refine q_c a2 e2 ?_
    refine lv_aload_n hx hb dL_law_1243 rfl (lv_at hl 3 rfl) ?_
    refine lv_iload_n hx hb dL_law_1244 rfl (lv_at hl 0 rfl) ?_
    refine lv_iconst (v := 3) hx hb dL_law_1245 (by decide) ?_
    refine lv_iadd hx hb dL_law_1246 ?_
    refine q_c 3 (by decide +kernel) ?_
    refine va_sld X.1 X.2.1 hX hbl hbA hw40.2.2 (q_in (by decide +kernel)) dL_law_1247 ?_
    refine q_c a3 e3 ?_
    have g_12295 : (4 : Int32) ≤ a2 := by
      simp only [Int32.lt_iff_toInt_lt, Int32.le_iff_toInt_le, ← Int32.toInt_inj] at c_11978 c_12007 ⊢
      have k_0 : ((-1) : Int32).toInt = -1 := by decide
      have k_1 : (3 : Int32).toInt = 3 := by decide
      have k_g : (4 : Int32).toInt = 4 := by decide
      omega
    refine q_callVi (rest := []) (wr := [(y0, .inr (12, [.int 0, .ref (u_1.1 19), .ref (u_1.1 0), .ref (u_1.1 1), .ref (u_1.1 2), .int 0, .int 0, .int 0, .int 0, .int 0, .int 0, .int 0, .int 0, .int 0, .int (-1), .int 0, .ref (u_1.1 3), .ref (u_1.1 4), .ref (u_1.1 5), .ref (u_1.1 6), .ref (u_1.1 7), .int 0, .int 0, .ref (u_1.1 8), .ref (u_1.1 9), .ref (u_1.1 10), .int 0, .int 0, .ref (u_1.1 11), .ref (u_1.1 12), .ref (u_1.1 13), .ref (u_1.1 14), .ref (u_1.1 15), .int 0, .ref (u_1.1 16), .ref (u_1.1 17), .ref (u_1.1 18)]))]) X hK hA hw40 (fun sz => kX11_numbers_479 l D cy x0 a2 a3 (u_0.1 0) (u_0.1 1) (u_0.1 37) (u_0.1 39) (u_0.1 41) (u_0.1 43) (u_0.1 14) (u_0.1 15) (u_0.1 16) (u_0.1 17) (u_0.1 20) (u_0.1 24) (u_0.1 29) g_12295 sz) wm_5_120 wm_5_123 wm_1_1 hd_X11_numbers wm_5_121 wm_5_122 (ci := 11) (q0 := 0) rfl rfl ⟨Nat.le_of_ble_eq_true rfl, Nat.le_of_ble_eq_true rfl⟩ hl.1 rfl (Nat.le_of_ble_eq_true rfl) dL_law_1248 ⟨Nat.le_of_ble_eq_true rfl, Nat.le_of_ble_eq_true rfl⟩ [0] [78] rfl rfl (by decide) rfl rfl (fun r_12296 u_12296 Hp41 lc41 w_12296 hw41 => ?_)
    clear Hp40 lc40 hw40
    obtain rfl : r_12296 = (-2) := w_12296
    replace hw41 : qW D _ _ [(y0, .inr (12, [.int 0, .ref (u_1.1 19), .ref (u_1.1 0), .ref (u_1.1 1), .ref (u_1.1 2), .int 0, .int 0, .int 0, .int 0, .int 0, .int 0, .int 0, .int 0, .int 0, .int (-1), .int 0, .ref (u_1.1 3), .ref (u_1.1 4), .ref (u_1.1 5), .ref (u_1.1 6), .ref (u_1.1 7), .int 0, .int 0, .ref (u_1.1 8), .ref (u_1.1 9), .ref (u_1.1 10), .int 0, .int 0, .ref (u_1.1 11), .ref (u_1.1 12), .ref (u_1.1 13), .ref (u_1.1 14), .ref (u_1.1 15), .int 0, .ref (u_1.1 16), .ref (u_1.1 17), .ref (u_1.1 18)]))] _ _ := hw41
    refine lv_aload_n hx hb dL_law_1251 rfl (lv_at hl 1 rfl) ?_
    refine lv_aload_n hx hb dL_law_1252 rfl (lv_at hl 3 rfl) ?_
    refine lv_iload_n hx hb dL_law_1253 rfl (lv_at hl 0 rfl) ?_
    refine lv_iconst (v := 1) hx hb dL_law_1254 (by decide) ?_
    refine lv_iadd hx hb dL_law_1255 ?_
    refine q_c 1 (by decide +kernel) ?_
    refine va_sld X.1 X.2.1 hX hbl hbA hw41.2.2 (q_in (by decide +kernel)) dL_law_1256 ?_
    refine q_c 3 e1 ?_
    refine lv_aload_n hx hb dL_law_1257 rfl (lv_at hl 3 rfl) ?_
    refine lv_iload_n hx hb dL_law_1258 rfl (lv_at hl 0 rfl) ?_
    refine lv_iconst (v := 2) hx hb dL_law_1259 (by decide) ?_
    refine lv_iadd hx hb dL_law_1260 ?_
    refine q_c 2 (by decide +kernel) ?_
    refine va_sld X.1 X.2.1 hX hbl hbA hw41.2.2 (q_in (by decide +kernel)) dL_law_1261 ?_
    refine q_c a2 e2 ?_
    refine lv_aload_n hx hb dL_law_1262 rfl (lv_at hl 3 rfl) ?_
    refine lv_iload_n hx hb dL_law_1263 rfl (lv_at hl 0 rfl) ?_
    refine lv_iconst (v := 3) hx hb dL_law_1264 (by decide) ?_
    refine lv_iadd hx hb dL_law_1265 ?_
    refine q_c 3 (by decide +kernel) ?_
    refine va_sld X.1 X.2.1 hX hbl hbA hw41.2.2 (q_in (by decide +kernel)) dL_law_1266 ?_
    refine q_c a3 e3 ?_
    have g_12302 : (4 : Int32) ≤ a2 := by
      simp only [Int32.lt_iff_toInt_lt, Int32.le_iff_toInt_le, ← Int32.toInt_inj] at c_11978 c_12007 ⊢
      have k_0 : ((-1) : Int32).toInt = -1 := by decide
      have k_1 : (3 : Int32).toInt = 3 := by decide
      have k_g : (4 : Int32).toInt = 4 := by decide
      omega
    refine q_callVi (rest := [.int (-2)]) (wr := []) X hK hA hw41 (fun sz => kX12_numbers_480 l D cy y0 a2 a3 (u_1.1 19) (u_1.1 0) (u_1.1 1) (u_1.1 2) (u_1.1 3) (u_1.1 4) (u_1.1 5) (u_1.1 6) (u_1.1 7) (u_1.1 8) (u_1.1 9) (u_1.1 10) (u_1.1 11) (u_1.1 12) (u_1.1 13) (u_1.1 14) (u_1.1 15) (u_1.1 16) (u_1.1 17) (u_1.1 18) g_12302 sz) wm_8_27 wm_8_30 wm_1_12 hd_X12_numbers wm_8_28 wm_8_29 (ci := 12) (q0 := 0) rfl rfl ⟨Nat.le_of_ble_eq_true rfl, Nat.le_of_ble_eq_true rfl⟩ hl.1 rfl (Nat.le_of_ble_eq_true rfl) dL_law_1267 ⟨Nat.le_of_ble_eq_true rfl, Nat.le_of_ble_eq_true rfl⟩ [0] [] rfl rfl (by decide) rfl rfl (fun r_12303 u_12303 Hp42 lc42 w_12303 hw42 => ?_)
    clear Hp41 lc41 hw41
    obtain rfl : r_12303 = (-2) := w_12303
    replace hw42 : qW D _ _ [] _ _ := hw42
    refine lv_icmp_eq (tgt := 1461) hx hb dL_law_1270 (by decide) (fun _ => ?_) (fun c => absurd c (by decide +kernel))
    exact law_tail l X hr hlk hX hbl hw42.2.2 hl (Nat.le_of_ble_eq_true rfl) (Nat.le_of_ble_eq_true rfl)
  refine lv_aload_n hx hb dL_law_1232 rfl (lv_at hl 2 rfl) ?_
  refine lv_aload_n hx hb dL_law_1233 rfl (lv_at hl 3 rfl) ?_
  refine lv_iload_n hx hb dL_law_1234 rfl (lv_at hl 0 rfl) ?_
  refine lv_iconst (v := 1) hx hb dL_law_1235 (by decide) ?_
  refine lv_iadd hx hb dL_law_1236 ?_
  refine q_c 1 (by decide +kernel) ?_
  refine va_sld X.1 X.2.1 hX hbl hbA hw42.2.2 (q_in (by decide +kernel)) dL_law_1237 ?_
  refine q_c a1 e1 ?_
  refine lv_aload_n hx hb dL_law_1238 rfl (lv_at hl 3 rfl) ?_
  refine lv_iload_n hx hb dL_law_1239 rfl (lv_at hl 0 rfl) ?_
  refine lv_iconst (v := 2) hx hb dL_law_1240 (by decide) ?_
  refine lv_iadd hx hb dL_law_1241 ?_
  refine q_c 2 (by decide +kernel) ?_
  refine va_sld X.1 X.2.1 hX hbl hbA hw42.2.2 (q_in (by decide +kernel)) dL_law_1242 ?_
  refine q_c a2 e2 ?_
  refine lv_aload_n hx hb dL_law_1243 rfl (lv_at hl 3 rfl) ?_
  refine lv_iload_n hx hb dL_law_1244 rfl (lv_at hl 0 rfl) ?_
  refine lv_iconst (v := 3) hx hb dL_law_1245 (by decide) ?_
  refine lv_iadd hx hb dL_law_1246 ?_
  refine q_c 3 (by decide +kernel) ?_
  refine va_sld X.1 X.2.1 hX hbl hbA hw42.2.2 (q_in (by decide +kernel)) dL_law_1247 ?_
  refine q_c a3 e3 ?_
  have g_12333 : (4 : Int32) ≤ a1 := by
    simp only [Int32.lt_iff_toInt_lt, Int32.le_iff_toInt_le, ← Int32.toInt_inj] at c_10867 c_10896 c_11257 c_11606 c_11955 ⊢
    have k_0 : ((-1) : Int32).toInt = -1 := by decide
    have k_1 : (0 : Int32).toInt = 0 := by decide
    have k_2 : (1 : Int32).toInt = 1 := by decide
    have k_3 : (2 : Int32).toInt = 2 := by decide
    have k_4 : (3 : Int32).toInt = 3 := by decide
    have k_g : (4 : Int32).toInt = 4 := by decide
    omega
  refine q_callVi (rest := []) (wr := [(y0, .inr (12, [.int 0, .ref (u_1.1 19), .ref (u_1.1 0), .ref (u_1.1 1), .ref (u_1.1 2), .int 0, .int 0, .int 0, .int 0, .int 0, .int 0, .int 0, .int 0, .int 0, .int (-1), .int 0, .ref (u_1.1 3), .ref (u_1.1 4), .ref (u_1.1 5), .ref (u_1.1 6), .ref (u_1.1 7), .int 0, .int 0, .ref (u_1.1 8), .ref (u_1.1 9), .ref (u_1.1 10), .int 0, .int 0, .ref (u_1.1 11), .ref (u_1.1 12), .ref (u_1.1 13), .ref (u_1.1 14), .ref (u_1.1 15), .int 0, .ref (u_1.1 16), .ref (u_1.1 17), .ref (u_1.1 18)]))]) X hK hA hw42 (fun sz => kX11_numbers_481 l D cy x0 a1 a2 a3 (u_0.1 0) (u_0.1 1) (u_0.1 37) (u_0.1 39) (u_0.1 41) (u_0.1 43) (u_0.1 14) (u_0.1 15) (u_0.1 16) (u_0.1 17) (u_0.1 20) (u_0.1 24) (u_0.1 29) g_12333 sz) wm_5_120 wm_5_123 wm_1_1 hd_X11_numbers wm_5_121 wm_5_122 (ci := 11) (q0 := 0) rfl rfl ⟨Nat.le_of_ble_eq_true rfl, Nat.le_of_ble_eq_true rfl⟩ hl.1 rfl (Nat.le_of_ble_eq_true rfl) dL_law_1248 ⟨Nat.le_of_ble_eq_true rfl, Nat.le_of_ble_eq_true rfl⟩ [0] [78] rfl rfl (by decide) rfl rfl (fun r_12334 u_12334 Hp43 lc43 w_12334 hw43 => ?_)
  clear Hp42 lc42 hw42
  obtain rfl : r_12334 = (-2) := w_12334
  replace hw43 : qW D _ _ [(y0, .inr (12, [.int 0, .ref (u_1.1 19), .ref (u_1.1 0), .ref (u_1.1 1), .ref (u_1.1 2), .int 0, .int 0, .int 0, .int 0, .int 0, .int 0, .int 0, .int 0, .int 0, .int (-1), .int 0, .ref (u_1.1 3), .ref (u_1.1 4), .ref (u_1.1 5), .ref (u_1.1 6), .ref (u_1.1 7), .int 0, .int 0, .ref (u_1.1 8), .ref (u_1.1 9), .ref (u_1.1 10), .int 0, .int 0, .ref (u_1.1 11), .ref (u_1.1 12), .ref (u_1.1 13), .ref (u_1.1 14), .ref (u_1.1 15), .int 0, .ref (u_1.1 16), .ref (u_1.1 17), .ref (u_1.1 18)]))] _ _ := hw43
  refine lv_aload_n hx hb dL_law_1251 rfl (lv_at hl 1 rfl) ?_
  refine lv_aload_n hx hb dL_law_1252 rfl (lv_at hl 3 rfl) ?_
  refine lv_iload_n hx hb dL_law_1253 rfl (lv_at hl 0 rfl) ?_
  refine lv_iconst (v := 1) hx hb dL_law_1254 (by decide) ?_
  refine lv_iadd hx hb dL_law_1255 ?_
  refine q_c 1 (by decide +kernel) ?_
  refine va_sld X.1 X.2.1 hX hbl hbA hw43.2.2 (q_in (by decide +kernel)) dL_law_1256 ?_
  refine q_c a1 e1 ?_
  refine lv_aload_n hx hb dL_law_1257 rfl (lv_at hl 3 rfl) ?_
  refine lv_iload_n hx hb dL_law_1258 rfl (lv_at hl 0 rfl) ?_
  refine lv_iconst (v := 2) hx hb dL_law_1259 (by decide) ?_
  refine lv_iadd hx hb dL_law_1260 ?_
  refine q_c 2 (by decide +kernel) ?_
  refine va_sld X.1 X.2.1 hX hbl hbA hw43.2.2 (q_in (by decide +kernel)) dL_law_1261 ?_
  refine q_c a2 e2 ?_
  refine lv_aload_n hx hb dL_law_1262 rfl (lv_at hl 3 rfl) ?_
  refine lv_iload_n hx hb dL_law_1263 rfl (lv_at hl 0 rfl) ?_
  refine lv_iconst (v := 3) hx hb dL_law_1264 (by decide) ?_
  refine lv_iadd hx hb dL_law_1265 ?_
  refine q_c 3 (by decide +kernel) ?_
  refine va_sld X.1 X.2.1 hX hbl hbA hw43.2.2 (q_in (by decide +kernel)) dL_law_1266 ?_
  refine q_c a3 e3 ?_
  have g_12339 : (4 : Int32) ≤ a1 := by
    simp only [Int32.lt_iff_toInt_lt, Int32.le_iff_toInt_le, ← Int32.toInt_inj] at c_10867 c_10896 c_11257 c_11606 c_11955 ⊢
    have k_0 : ((-1) : Int32).toInt = -1 := by decide
    have k_1 : (0 : Int32).toInt = 0 := by decide
    have k_2 : (1 : Int32).toInt = 1 := by decide
    have k_3 : (2 : Int32).toInt = 2 := by decide
    have k_4 : (3 : Int32).toInt = 3 := by decide
    have k_g : (4 : Int32).toInt = 4 := by decide
    omega
  refine q_callVi (rest := [.int (-2)]) (wr := []) X hK hA hw43 (fun sz => kX12_numbers_482 l D cy y0 a1 a2 a3 (u_1.1 19) (u_1.1 0) (u_1.1 1) (u_1.1 2) (u_1.1 3) (u_1.1 4) (u_1.1 5) (u_1.1 6) (u_1.1 7) (u_1.1 8) (u_1.1 9) (u_1.1 10) (u_1.1 11) (u_1.1 12) (u_1.1 13) (u_1.1 14) (u_1.1 15) (u_1.1 16) (u_1.1 17) (u_1.1 18) g_12339 sz) wm_8_27 wm_8_30 wm_1_12 hd_X12_numbers wm_8_28 wm_8_29 (ci := 12) (q0 := 0) rfl rfl ⟨Nat.le_of_ble_eq_true rfl, Nat.le_of_ble_eq_true rfl⟩ hl.1 rfl (Nat.le_of_ble_eq_true rfl) dL_law_1267 ⟨Nat.le_of_ble_eq_true rfl, Nat.le_of_ble_eq_true rfl⟩ [0] [] rfl rfl (by decide) rfl rfl (fun r_12340 u_12340 Hp44 lc44 w_12340 hw44 => ?_)
  clear Hp43 lc43 hw43
  obtain rfl : r_12340 = (-2) := w_12340
  replace hw44 : qW D _ _ [] _ _ := hw44
  refine lv_icmp_eq (tgt := 1461) hx hb dL_law_1270 (by decide) (fun _ => ?_) (fun c => absurd c (by decide +kernel))
  exact law_tail l X hr hlk hX hbl hw44.2.2 hl (Nat.le_of_ble_eq_true rfl) (Nat.le_of_ble_eq_true rfl)
set_option maxHeartbeats 4000000 in
set_option maxRecDepth 100000 in
theorem lc_write (l : Launch) {p : Program} {e : Env} {s : State} {m : MethodId} {below : List Frame} {meth : Method} {c : Code} {b : Nat} {xs : Nat → Int32} {D : va_G} {cy : Nat → ClassId} {H : Heap} {locs : List Loc} {ls : Array Slot} {x0 y0 : Nat} {u_0 u_1 : SS} (X : qX p s m #[Value.ref b] c cL_law 4 RL) (hr : meth.sig.returnType = ret) (hlk : meth.locks = false) (hX : va_X b 6 xs s s.heap) (hbl : b < s.heap.size) (hK : qK D cy s) (a1 a2 a3 a4 a5 : Int32) (e1 : xs (Int32.toNatClampNeg 1) = a1) (e2 : xs (Int32.toNatClampNeg 2) = a2) (e3 : xs (Int32.toNatClampNeg 3) = a3) (e4 : xs (Int32.toNatClampNeg 4) = a4) (e5 : xs (Int32.toNatClampNeg 5) = a5) (h : qW D (fun q => s.heap.size ≤ q) s.heap (wLaw cy x0 y0 u_0 u_1) H locs) (hl : lv_has ls 4 [(3, .int 0), (2, .ref y0), (1, .ref x0), (0, .ref b)]) : W p l e room_1 s m #[Value.ref b] below meth c H locs 99 25544 (lw_Z below #[Value.ref b] s) (F0 m 1275 ls []) := by
  obtain ⟨hx, hb, hml, hown, ht⟩ := id X
  have hA : ∀ q : Nat, s.heap.size ≤ q → (fun q : Nat => s.heap.size ≤ q) q := fun _ h => h
  have hbA : ¬ (fun q : Nat => s.heap.size ≤ q) b := Nat.not_le.mpr hbl
  by_cases c_12345 : a1 ≤ (-1)
  · skip
    refine lv_aload_n hx hb dL_law_1275 rfl (lv_at hl 2 rfl) ?_
    refine lv_aload_n hx hb dL_law_1276 rfl (lv_at hl 3 rfl) ?_
    refine lv_iload_n hx hb dL_law_1277 rfl (lv_at hl 0 rfl) ?_
    refine lv_iconst (v := 1) hx hb dL_law_1278 (by decide) ?_
    refine lv_iadd hx hb dL_law_1279 ?_
    refine q_c 1 (by decide +kernel) ?_
    refine va_sld X.1 X.2.1 hX hbl hbA h.2.2 (q_in (by decide +kernel)) dL_law_1280 ?_
    refine q_c a1 e1 ?_
    refine lv_aload_n hx hb dL_law_1281 rfl (lv_at hl 3 rfl) ?_
    refine lv_iload_n hx hb dL_law_1282 rfl (lv_at hl 0 rfl) ?_
    refine lv_iconst (v := 2) hx hb dL_law_1283 (by decide) ?_
    refine lv_iadd hx hb dL_law_1284 ?_
    refine q_c 2 (by decide +kernel) ?_
    refine va_sld X.1 X.2.1 hX hbl hbA h.2.2 (q_in (by decide +kernel)) dL_law_1285 ?_
    refine q_c a2 e2 ?_
    refine lv_aload_n hx hb dL_law_1286 rfl (lv_at hl 3 rfl) ?_
    refine lv_iload_n hx hb dL_law_1287 rfl (lv_at hl 0 rfl) ?_
    refine lv_iconst (v := 3) hx hb dL_law_1288 (by decide) ?_
    refine lv_iadd hx hb dL_law_1289 ?_
    refine q_c 3 (by decide +kernel) ?_
    refine va_sld X.1 X.2.1 hX hbl hbA h.2.2 (q_in (by decide +kernel)) dL_law_1290 ?_
    refine q_c a3 e3 ?_
    refine lv_i2l hx hb dL_law_1291 rfl ?_
    refine lv_bipush (v := 32) hx hb dL_law_1292 (by decide) ?_
    refine lv_lshl hx hb dL_law_1294 rfl ?_
    refine lv_aload_n hx hb dL_law_1295 rfl (lv_at hl 3 rfl) ?_
    refine lv_iload_n hx hb dL_law_1296 rfl (lv_at hl 0 rfl) ?_
    refine lv_iconst (v := 4) hx hb dL_law_1297 (by decide) ?_
    refine lv_iadd hx hb dL_law_1298 ?_
    refine q_c 4 (by decide +kernel) ?_
    refine va_sld X.1 X.2.1 hX hbl hbA h.2.2 (q_in (by decide +kernel)) dL_law_1299 ?_
    refine q_c a4 e4 ?_
    refine lv_i2l hx hb dL_law_1300 rfl ?_
    refine lv_ldc2 hx hb hown (ht _ wm_8_59) dL_law_1301 ?_
    refine lv_land hx hb dL_law_1304 ?_
    refine lv_lor hx hb dL_law_1305 ?_
    have g_12373 : a1 ≤ ((-1) : Int32) := by
      simp only [Int32.lt_iff_toInt_lt, Int32.le_iff_toInt_le, ← Int32.toInt_inj] at c_12345 ⊢
      have k_0 : ((-1) : Int32).toInt = -1 := by decide
      omega
    refine q_callVl (rest := []) (wr := [(y0, .inr (12, [.int 0, .ref (u_1.1 19), .ref (u_1.1 0), .ref (u_1.1 1), .ref (u_1.1 2), .int 0, .int 0, .int 0, .int 0, .int 0, .int 0, .int 0, .int 0, .int 0, .int (-1), .int 0, .ref (u_1.1 3), .ref (u_1.1 4), .ref (u_1.1 5), .ref (u_1.1 6), .ref (u_1.1 7), .int 0, .int 0, .ref (u_1.1 8), .ref (u_1.1 9), .ref (u_1.1 10), .int 0, .int 0, .ref (u_1.1 11), .ref (u_1.1 12), .ref (u_1.1 13), .ref (u_1.1 14), .ref (u_1.1 15), .int 0, .ref (u_1.1 16), .ref (u_1.1 17), .ref (u_1.1 18)]))]) X hK hA h (fun sz => kX11_write_483 l D cy x0 a1 a2 ((((a3).toInt64) <<< ((32 : Int32).toInt64 &&& 63)) ||| (((a4).toInt64) &&& 4294967295)) (u_0.1 0) (u_0.1 1) (u_0.1 37) (u_0.1 39) (u_0.1 41) (u_0.1 43) (u_0.1 14) (u_0.1 15) (u_0.1 16) (u_0.1 17) (u_0.1 20) (u_0.1 24) (u_0.1 29) g_12373 sz) wm_5_131 wm_5_134 wm_1_1 hd_X11_write wm_5_132 wm_5_133 (ci := 11) (q0 := 0) rfl rfl ⟨Nat.le_of_ble_eq_true rfl, Nat.le_of_ble_eq_true rfl⟩ hl.1 rfl (Nat.le_of_ble_eq_true rfl) dL_law_1306 ⟨Nat.le_of_ble_eq_true rfl, Nat.le_of_ble_eq_true rfl⟩ [0] [78] rfl rfl (by decide) rfl rfl (fun r_12374 u_12374 Hp1 lc1 w_12374 hw1 => ?_)
    clear h
    obtain rfl : r_12374 = (-2) := w_12374
    replace hw1 : qW D _ _ [(y0, .inr (12, [.int 0, .ref (u_1.1 19), .ref (u_1.1 0), .ref (u_1.1 1), .ref (u_1.1 2), .int 0, .int 0, .int 0, .int 0, .int 0, .int 0, .int 0, .int 0, .int 0, .int (-1), .int 0, .ref (u_1.1 3), .ref (u_1.1 4), .ref (u_1.1 5), .ref (u_1.1 6), .ref (u_1.1 7), .int 0, .int 0, .ref (u_1.1 8), .ref (u_1.1 9), .ref (u_1.1 10), .int 0, .int 0, .ref (u_1.1 11), .ref (u_1.1 12), .ref (u_1.1 13), .ref (u_1.1 14), .ref (u_1.1 15), .int 0, .ref (u_1.1 16), .ref (u_1.1 17), .ref (u_1.1 18)]))] _ _ := hw1
    refine lv_aload_n hx hb dL_law_1309 rfl (lv_at hl 1 rfl) ?_
    refine lv_aload_n hx hb dL_law_1310 rfl (lv_at hl 3 rfl) ?_
    refine lv_iload_n hx hb dL_law_1311 rfl (lv_at hl 0 rfl) ?_
    refine lv_iconst (v := 1) hx hb dL_law_1312 (by decide) ?_
    refine lv_iadd hx hb dL_law_1313 ?_
    refine q_c 1 (by decide +kernel) ?_
    refine va_sld X.1 X.2.1 hX hbl hbA hw1.2.2 (q_in (by decide +kernel)) dL_law_1314 ?_
    refine q_c a1 e1 ?_
    refine lv_aload_n hx hb dL_law_1315 rfl (lv_at hl 3 rfl) ?_
    refine lv_iload_n hx hb dL_law_1316 rfl (lv_at hl 0 rfl) ?_
    refine lv_iconst (v := 2) hx hb dL_law_1317 (by decide) ?_
    refine lv_iadd hx hb dL_law_1318 ?_
    refine q_c 2 (by decide +kernel) ?_
    refine va_sld X.1 X.2.1 hX hbl hbA hw1.2.2 (q_in (by decide +kernel)) dL_law_1319 ?_
    refine q_c a2 e2 ?_
    refine lv_aload_n hx hb dL_law_1320 rfl (lv_at hl 3 rfl) ?_
    refine lv_iload_n hx hb dL_law_1321 rfl (lv_at hl 0 rfl) ?_
    refine lv_iconst (v := 3) hx hb dL_law_1322 (by decide) ?_
    refine lv_iadd hx hb dL_law_1323 ?_
    refine q_c 3 (by decide +kernel) ?_
    refine va_sld X.1 X.2.1 hX hbl hbA hw1.2.2 (q_in (by decide +kernel)) dL_law_1324 ?_
    refine q_c a3 e3 ?_
    refine lv_i2l hx hb dL_law_1325 rfl ?_
    refine lv_bipush (v := 32) hx hb dL_law_1326 (by decide) ?_
    refine lv_lshl hx hb dL_law_1328 rfl ?_
    refine lv_aload_n hx hb dL_law_1329 rfl (lv_at hl 3 rfl) ?_
    refine lv_iload_n hx hb dL_law_1330 rfl (lv_at hl 0 rfl) ?_
    refine lv_iconst (v := 4) hx hb dL_law_1331 (by decide) ?_
    refine lv_iadd hx hb dL_law_1332 ?_
    refine q_c 4 (by decide +kernel) ?_
    refine va_sld X.1 X.2.1 hX hbl hbA hw1.2.2 (q_in (by decide +kernel)) dL_law_1333 ?_
    refine q_c a4 e4 ?_
    refine lv_i2l hx hb dL_law_1334 rfl ?_
    refine lv_ldc2 hx hb hown (ht _ wm_8_59) dL_law_1335 ?_
    refine lv_land hx hb dL_law_1338 ?_
    refine lv_lor hx hb dL_law_1339 ?_
    have g_12380 : a1 ≤ ((-1) : Int32) := by
      simp only [Int32.lt_iff_toInt_lt, Int32.le_iff_toInt_le, ← Int32.toInt_inj] at c_12345 ⊢
      have k_0 : ((-1) : Int32).toInt = -1 := by decide
      omega
    refine q_callVl (rest := [.long (-2)]) (wr := []) X hK hA hw1 (fun sz => kX12_write_484 l D cy y0 a1 a2 ((((a3).toInt64) <<< ((32 : Int32).toInt64 &&& 63)) ||| (((a4).toInt64) &&& 4294967295)) (u_1.1 19) (u_1.1 0) (u_1.1 1) (u_1.1 2) (u_1.1 3) (u_1.1 4) (u_1.1 5) (u_1.1 6) (u_1.1 7) (u_1.1 8) (u_1.1 9) (u_1.1 10) (u_1.1 11) (u_1.1 12) (u_1.1 13) (u_1.1 14) (u_1.1 15) (u_1.1 16) (u_1.1 17) (u_1.1 18) g_12380 sz) wm_8_31 wm_8_34 wm_1_12 hd_X12_write wm_8_32 wm_8_33 (ci := 12) (q0 := 0) rfl rfl ⟨Nat.le_of_ble_eq_true rfl, Nat.le_of_ble_eq_true rfl⟩ hl.1 rfl (Nat.le_of_ble_eq_true rfl) dL_law_1340 ⟨Nat.le_of_ble_eq_true rfl, Nat.le_of_ble_eq_true rfl⟩ [0] [] rfl rfl (by decide) rfl rfl (fun r_12381 u_12381 Hp2 lc2 w_12381 hw2 => ?_)
    clear Hp1 lc1 hw1
    obtain rfl : r_12381 = (-2) := w_12381
    replace hw2 : qW D _ _ [] _ _ := hw2
    refine W.lcmp hx hb dL_law_1343 ?_
    refine q_c 0 (by decide +kernel) ?_
    refine lv_if_eq (tgt := 1461) hx hb dL_law_1344 (by decide) (fun _ => ?_) (fun c => absurd c (by decide +kernel))
    exact law_tail l X hr hlk hX hbl hw2.2.2 hl (Nat.le_of_ble_eq_true rfl) (Nat.le_of_ble_eq_true rfl)
  by_cases c_12382 : a1 = 0
  · subst c_12382
    refine lv_aload_n hx hb dL_law_1275 rfl (lv_at hl 2 rfl) ?_
    refine lv_aload_n hx hb dL_law_1276 rfl (lv_at hl 3 rfl) ?_
    refine lv_iload_n hx hb dL_law_1277 rfl (lv_at hl 0 rfl) ?_
    refine lv_iconst (v := 1) hx hb dL_law_1278 (by decide) ?_
    refine lv_iadd hx hb dL_law_1279 ?_
    refine q_c 1 (by decide +kernel) ?_
    refine va_sld X.1 X.2.1 hX hbl hbA hw2.2.2 (q_in (by decide +kernel)) dL_law_1280 ?_
    refine q_c 0 e1 ?_
    refine lv_aload_n hx hb dL_law_1281 rfl (lv_at hl 3 rfl) ?_
    refine lv_iload_n hx hb dL_law_1282 rfl (lv_at hl 0 rfl) ?_
    refine lv_iconst (v := 2) hx hb dL_law_1283 (by decide) ?_
    refine lv_iadd hx hb dL_law_1284 ?_
    refine q_c 2 (by decide +kernel) ?_
    refine va_sld X.1 X.2.1 hX hbl hbA hw2.2.2 (q_in (by decide +kernel)) dL_law_1285 ?_
    refine q_c a2 e2 ?_
    refine lv_aload_n hx hb dL_law_1286 rfl (lv_at hl 3 rfl) ?_
    refine lv_iload_n hx hb dL_law_1287 rfl (lv_at hl 0 rfl) ?_
    refine lv_iconst (v := 3) hx hb dL_law_1288 (by decide) ?_
    refine lv_iadd hx hb dL_law_1289 ?_
    refine q_c 3 (by decide +kernel) ?_
    refine va_sld X.1 X.2.1 hX hbl hbA hw2.2.2 (q_in (by decide +kernel)) dL_law_1290 ?_
    refine q_c a3 e3 ?_
    refine lv_i2l hx hb dL_law_1291 rfl ?_
    refine lv_bipush (v := 32) hx hb dL_law_1292 (by decide) ?_
    refine lv_lshl hx hb dL_law_1294 rfl ?_
    refine lv_aload_n hx hb dL_law_1295 rfl (lv_at hl 3 rfl) ?_
    refine lv_iload_n hx hb dL_law_1296 rfl (lv_at hl 0 rfl) ?_
    refine lv_iconst (v := 4) hx hb dL_law_1297 (by decide) ?_
    refine lv_iadd hx hb dL_law_1298 ?_
    refine q_c 4 (by decide +kernel) ?_
    refine va_sld X.1 X.2.1 hX hbl hbA hw2.2.2 (q_in (by decide +kernel)) dL_law_1299 ?_
    refine q_c a4 e4 ?_
    refine lv_i2l hx hb dL_law_1300 rfl ?_
    refine lv_ldc2 hx hb hown (ht _ wm_8_59) dL_law_1301 ?_
    refine lv_land hx hb dL_law_1304 ?_
    refine lv_lor hx hb dL_law_1305 ?_
    refine q_callVl (rest := []) (wr := [(y0, .inr (12, [.int 0, .ref (u_1.1 19), .ref (u_1.1 0), .ref (u_1.1 1), .ref (u_1.1 2), .int 0, .int 0, .int 0, .int 0, .int 0, .int 0, .int 0, .int 0, .int 0, .int (-1), .int 0, .ref (u_1.1 3), .ref (u_1.1 4), .ref (u_1.1 5), .ref (u_1.1 6), .ref (u_1.1 7), .int 0, .int 0, .ref (u_1.1 8), .ref (u_1.1 9), .ref (u_1.1 10), .int 0, .int 0, .ref (u_1.1 11), .ref (u_1.1 12), .ref (u_1.1 13), .ref (u_1.1 14), .ref (u_1.1 15), .int 0, .ref (u_1.1 16), .ref (u_1.1 17), .ref (u_1.1 18)])), ((u_1.1 16), .inl (cy 1, 4, .inl (upd (upd (upd (upd (fun _ => 0) (Int32.toNatClampNeg 0) (-1)) (Int32.toNatClampNeg 1) (-1)) (Int32.toNatClampNeg 2) (-1)) (Int32.toNatClampNeg 3) (-1))))]) X hK hA hw2 (fun sz => kX11_write_485 l D cy x0 (u_0.1 14) (u_0.1 65) a2 ((((a3).toInt64) <<< ((32 : Int32).toInt64 &&& 63)) ||| (((a4).toInt64) &&& 4294967295)) (u_0.1 0) (u_0.1 1) (u_0.1 37) (u_0.1 39) (u_0.1 41) (u_0.1 43) (u_0.1 15) (u_0.1 16) (u_0.1 17) (u_0.1 20) (u_0.1 24) (u_0.1 29) (u_0.1 71) (u_0.1 69) (u_0.1 67) (u_0.1 66)  sz) wm_5_131 wm_5_134 wm_1_1 hd_X11_write wm_5_132 wm_5_133 (ci := 11) (q0 := 0) rfl rfl ⟨Nat.le_of_ble_eq_true rfl, Nat.le_of_ble_eq_true rfl⟩ hl.1 rfl (Nat.le_of_ble_eq_true rfl) dL_law_1306 ⟨Nat.le_of_ble_eq_true rfl, Nat.le_of_ble_eq_true rfl⟩ [0, 15, 66] [78, 95] rfl rfl (by decide) rfl rfl (fun r_12397 u_12397 Hp3 lc3 w_12397 hw3 => ?_)
    clear Hp2 lc2 hw2
    obtain rfl : r_12397 = (-6) := w_12397
    replace hw3 : qW D _ _ [(y0, .inr (12, [.int 0, .ref (u_1.1 19), .ref (u_1.1 0), .ref (u_1.1 1), .ref (u_1.1 2), .int 0, .int 0, .int 0, .int 0, .int 0, .int 0, .int 0, .int 0, .int 0, .int (-1), .int 0, .ref (u_1.1 3), .ref (u_1.1 4), .ref (u_1.1 5), .ref (u_1.1 6), .ref (u_1.1 7), .int 0, .int 0, .ref (u_1.1 8), .ref (u_1.1 9), .ref (u_1.1 10), .int 0, .int 0, .ref (u_1.1 11), .ref (u_1.1 12), .ref (u_1.1 13), .ref (u_1.1 14), .ref (u_1.1 15), .int 0, .ref (u_1.1 16), .ref (u_1.1 17), .ref (u_1.1 18)])), ((u_1.1 16), .inl (cy 1, 4, .inl (upd (upd (upd (upd (fun _ => 0) (Int32.toNatClampNeg 0) (-1)) (Int32.toNatClampNeg 1) (-1)) (Int32.toNatClampNeg 2) (-1)) (Int32.toNatClampNeg 3) (-1))))] _ _ := hw3
    refine lv_aload_n hx hb dL_law_1309 rfl (lv_at hl 1 rfl) ?_
    refine lv_aload_n hx hb dL_law_1310 rfl (lv_at hl 3 rfl) ?_
    refine lv_iload_n hx hb dL_law_1311 rfl (lv_at hl 0 rfl) ?_
    refine lv_iconst (v := 1) hx hb dL_law_1312 (by decide) ?_
    refine lv_iadd hx hb dL_law_1313 ?_
    refine q_c 1 (by decide +kernel) ?_
    refine va_sld X.1 X.2.1 hX hbl hbA hw3.2.2 (q_in (by decide +kernel)) dL_law_1314 ?_
    refine q_c 0 e1 ?_
    refine lv_aload_n hx hb dL_law_1315 rfl (lv_at hl 3 rfl) ?_
    refine lv_iload_n hx hb dL_law_1316 rfl (lv_at hl 0 rfl) ?_
    refine lv_iconst (v := 2) hx hb dL_law_1317 (by decide) ?_
    refine lv_iadd hx hb dL_law_1318 ?_
    refine q_c 2 (by decide +kernel) ?_
    refine va_sld X.1 X.2.1 hX hbl hbA hw3.2.2 (q_in (by decide +kernel)) dL_law_1319 ?_
    refine q_c a2 e2 ?_
    refine lv_aload_n hx hb dL_law_1320 rfl (lv_at hl 3 rfl) ?_
    refine lv_iload_n hx hb dL_law_1321 rfl (lv_at hl 0 rfl) ?_
    refine lv_iconst (v := 3) hx hb dL_law_1322 (by decide) ?_
    refine lv_iadd hx hb dL_law_1323 ?_
    refine q_c 3 (by decide +kernel) ?_
    refine va_sld X.1 X.2.1 hX hbl hbA hw3.2.2 (q_in (by decide +kernel)) dL_law_1324 ?_
    refine q_c a3 e3 ?_
    refine lv_i2l hx hb dL_law_1325 rfl ?_
    refine lv_bipush (v := 32) hx hb dL_law_1326 (by decide) ?_
    refine lv_lshl hx hb dL_law_1328 rfl ?_
    refine lv_aload_n hx hb dL_law_1329 rfl (lv_at hl 3 rfl) ?_
    refine lv_iload_n hx hb dL_law_1330 rfl (lv_at hl 0 rfl) ?_
    refine lv_iconst (v := 4) hx hb dL_law_1331 (by decide) ?_
    refine lv_iadd hx hb dL_law_1332 ?_
    refine q_c 4 (by decide +kernel) ?_
    refine va_sld X.1 X.2.1 hX hbl hbA hw3.2.2 (q_in (by decide +kernel)) dL_law_1333 ?_
    refine q_c a4 e4 ?_
    refine lv_i2l hx hb dL_law_1334 rfl ?_
    refine lv_ldc2 hx hb hown (ht _ wm_8_59) dL_law_1335 ?_
    refine lv_land hx hb dL_law_1338 ?_
    refine lv_lor hx hb dL_law_1339 ?_
    refine q_callVl (rest := [.long (-6)]) (wr := []) X hK hA hw3 (fun sz => kX12_write_486 l D cy y0 (u_1.1 16) a2 ((((a3).toInt64) <<< ((32 : Int32).toInt64 &&& 63)) ||| (((a4).toInt64) &&& 4294967295)) (u_1.1 19) (u_1.1 0) (u_1.1 1) (u_1.1 2) (u_1.1 3) (u_1.1 4) (u_1.1 5) (u_1.1 6) (u_1.1 7) (u_1.1 8) (u_1.1 9) (u_1.1 10) (u_1.1 11) (u_1.1 12) (u_1.1 13) (u_1.1 14) (u_1.1 15) (u_1.1 17) (u_1.1 18) (upd (upd (upd (upd (fun _ => 0) (Int32.toNatClampNeg 0) (-1)) (Int32.toNatClampNeg 1) (-1)) (Int32.toNatClampNeg 2) (-1)) (Int32.toNatClampNeg 3) (-1)) (q_un (by decide +kernel) (q_un (by decide +kernel) (q_un (by decide +kernel) q_ue))) sz) wm_8_31 wm_8_34 wm_1_12 hd_X12_write wm_8_32 wm_8_33 (ci := 12) (q0 := 0) rfl rfl ⟨Nat.le_of_ble_eq_true rfl, Nat.le_of_ble_eq_true rfl⟩ hl.1 rfl (Nat.le_of_ble_eq_true rfl) dL_law_1340 ⟨Nat.le_of_ble_eq_true rfl, Nat.le_of_ble_eq_true rfl⟩ [0, 1] [] rfl rfl (by decide) rfl rfl (fun r_12400 u_12400 Hp4 lc4 w_12400 hw4 => ?_)
    clear Hp3 lc3 hw3
    obtain rfl : r_12400 = (-6) := w_12400
    replace hw4 : qW D _ _ [] _ _ := hw4
    refine W.lcmp hx hb dL_law_1343 ?_
    refine q_c 0 (by decide +kernel) ?_
    refine lv_if_eq (tgt := 1461) hx hb dL_law_1344 (by decide) (fun _ => ?_) (fun c => absurd c (by decide +kernel))
    exact law_tail l X hr hlk hX hbl hw4.2.2 hl (Nat.le_of_ble_eq_true rfl) (Nat.le_of_ble_eq_true rfl)
  by_cases c_12401 : a1 = 1
  · subst c_12401
    refine lv_aload_n hx hb dL_law_1275 rfl (lv_at hl 2 rfl) ?_
    refine lv_aload_n hx hb dL_law_1276 rfl (lv_at hl 3 rfl) ?_
    refine lv_iload_n hx hb dL_law_1277 rfl (lv_at hl 0 rfl) ?_
    refine lv_iconst (v := 1) hx hb dL_law_1278 (by decide) ?_
    refine lv_iadd hx hb dL_law_1279 ?_
    refine q_c 1 (by decide +kernel) ?_
    refine va_sld X.1 X.2.1 hX hbl hbA hw4.2.2 (q_in (by decide +kernel)) dL_law_1280 ?_
    refine q_c 1 e1 ?_
    refine lv_aload_n hx hb dL_law_1281 rfl (lv_at hl 3 rfl) ?_
    refine lv_iload_n hx hb dL_law_1282 rfl (lv_at hl 0 rfl) ?_
    refine lv_iconst (v := 2) hx hb dL_law_1283 (by decide) ?_
    refine lv_iadd hx hb dL_law_1284 ?_
    refine q_c 2 (by decide +kernel) ?_
    refine va_sld X.1 X.2.1 hX hbl hbA hw4.2.2 (q_in (by decide +kernel)) dL_law_1285 ?_
    refine q_c a2 e2 ?_
    refine lv_aload_n hx hb dL_law_1286 rfl (lv_at hl 3 rfl) ?_
    refine lv_iload_n hx hb dL_law_1287 rfl (lv_at hl 0 rfl) ?_
    refine lv_iconst (v := 3) hx hb dL_law_1288 (by decide) ?_
    refine lv_iadd hx hb dL_law_1289 ?_
    refine q_c 3 (by decide +kernel) ?_
    refine va_sld X.1 X.2.1 hX hbl hbA hw4.2.2 (q_in (by decide +kernel)) dL_law_1290 ?_
    refine q_c a3 e3 ?_
    refine lv_i2l hx hb dL_law_1291 rfl ?_
    refine lv_bipush (v := 32) hx hb dL_law_1292 (by decide) ?_
    refine lv_lshl hx hb dL_law_1294 rfl ?_
    refine lv_aload_n hx hb dL_law_1295 rfl (lv_at hl 3 rfl) ?_
    refine lv_iload_n hx hb dL_law_1296 rfl (lv_at hl 0 rfl) ?_
    refine lv_iconst (v := 4) hx hb dL_law_1297 (by decide) ?_
    refine lv_iadd hx hb dL_law_1298 ?_
    refine q_c 4 (by decide +kernel) ?_
    refine va_sld X.1 X.2.1 hX hbl hbA hw4.2.2 (q_in (by decide +kernel)) dL_law_1299 ?_
    refine q_c a4 e4 ?_
    refine lv_i2l hx hb dL_law_1300 rfl ?_
    refine lv_ldc2 hx hb hown (ht _ wm_8_59) dL_law_1301 ?_
    refine lv_land hx hb dL_law_1304 ?_
    refine lv_lor hx hb dL_law_1305 ?_
    refine q_callVl (rest := []) (wr := [(y0, .inr (12, [.int 0, .ref (u_1.1 19), .ref (u_1.1 0), .ref (u_1.1 1), .ref (u_1.1 2), .int 0, .int 0, .int 0, .int 0, .int 0, .int 0, .int 0, .int 0, .int 0, .int (-1), .int 0, .ref (u_1.1 3), .ref (u_1.1 4), .ref (u_1.1 5), .ref (u_1.1 6), .ref (u_1.1 7), .int 0, .int 0, .ref (u_1.1 8), .ref (u_1.1 9), .ref (u_1.1 10), .int 0, .int 0, .ref (u_1.1 11), .ref (u_1.1 12), .ref (u_1.1 13), .ref (u_1.1 14), .ref (u_1.1 15), .int 0, .ref (u_1.1 16), .ref (u_1.1 17), .ref (u_1.1 18)])), ((u_1.1 16), .inl (cy 1, 4, .inl (upd (upd (upd (upd (fun _ => 0) (Int32.toNatClampNeg 0) (-1)) (Int32.toNatClampNeg 1) (-1)) (Int32.toNatClampNeg 2) (-1)) (Int32.toNatClampNeg 3) (-1))))]) X hK hA hw4 (fun sz => kX11_write_487 l D cy x0 (u_0.1 14) (u_0.1 67) a2 ((((a3).toInt64) <<< ((32 : Int32).toInt64 &&& 63)) ||| (((a4).toInt64) &&& 4294967295)) (u_0.1 0) (u_0.1 1) (u_0.1 37) (u_0.1 39) (u_0.1 41) (u_0.1 43) (u_0.1 15) (u_0.1 16) (u_0.1 17) (u_0.1 20) (u_0.1 24) (u_0.1 29) (u_0.1 71) (u_0.1 69) (u_0.1 65) (u_0.1 68)  sz) wm_5_131 wm_5_134 wm_1_1 hd_X11_write wm_5_132 wm_5_133 (ci := 11) (q0 := 0) rfl rfl ⟨Nat.le_of_ble_eq_true rfl, Nat.le_of_ble_eq_true rfl⟩ hl.1 rfl (Nat.le_of_ble_eq_true rfl) dL_law_1306 ⟨Nat.le_of_ble_eq_true rfl, Nat.le_of_ble_eq_true rfl⟩ [0, 15, 68] [78, 95] rfl rfl (by decide) rfl rfl (fun r_12416 u_12416 Hp5 lc5 w_12416 hw5 => ?_)
    clear Hp4 lc4 hw4
    obtain rfl : r_12416 = (-6) := w_12416
    replace hw5 : qW D _ _ [(y0, .inr (12, [.int 0, .ref (u_1.1 19), .ref (u_1.1 0), .ref (u_1.1 1), .ref (u_1.1 2), .int 0, .int 0, .int 0, .int 0, .int 0, .int 0, .int 0, .int 0, .int 0, .int (-1), .int 0, .ref (u_1.1 3), .ref (u_1.1 4), .ref (u_1.1 5), .ref (u_1.1 6), .ref (u_1.1 7), .int 0, .int 0, .ref (u_1.1 8), .ref (u_1.1 9), .ref (u_1.1 10), .int 0, .int 0, .ref (u_1.1 11), .ref (u_1.1 12), .ref (u_1.1 13), .ref (u_1.1 14), .ref (u_1.1 15), .int 0, .ref (u_1.1 16), .ref (u_1.1 17), .ref (u_1.1 18)])), ((u_1.1 16), .inl (cy 1, 4, .inl (upd (upd (upd (upd (fun _ => 0) (Int32.toNatClampNeg 0) (-1)) (Int32.toNatClampNeg 1) (-1)) (Int32.toNatClampNeg 2) (-1)) (Int32.toNatClampNeg 3) (-1))))] _ _ := hw5
    refine lv_aload_n hx hb dL_law_1309 rfl (lv_at hl 1 rfl) ?_
    refine lv_aload_n hx hb dL_law_1310 rfl (lv_at hl 3 rfl) ?_
    refine lv_iload_n hx hb dL_law_1311 rfl (lv_at hl 0 rfl) ?_
    refine lv_iconst (v := 1) hx hb dL_law_1312 (by decide) ?_
    refine lv_iadd hx hb dL_law_1313 ?_
    refine q_c 1 (by decide +kernel) ?_
    refine va_sld X.1 X.2.1 hX hbl hbA hw5.2.2 (q_in (by decide +kernel)) dL_law_1314 ?_
    refine q_c 1 e1 ?_
    refine lv_aload_n hx hb dL_law_1315 rfl (lv_at hl 3 rfl) ?_
    refine lv_iload_n hx hb dL_law_1316 rfl (lv_at hl 0 rfl) ?_
    refine lv_iconst (v := 2) hx hb dL_law_1317 (by decide) ?_
    refine lv_iadd hx hb dL_law_1318 ?_
    refine q_c 2 (by decide +kernel) ?_
    refine va_sld X.1 X.2.1 hX hbl hbA hw5.2.2 (q_in (by decide +kernel)) dL_law_1319 ?_
    refine q_c a2 e2 ?_
    refine lv_aload_n hx hb dL_law_1320 rfl (lv_at hl 3 rfl) ?_
    refine lv_iload_n hx hb dL_law_1321 rfl (lv_at hl 0 rfl) ?_
    refine lv_iconst (v := 3) hx hb dL_law_1322 (by decide) ?_
    refine lv_iadd hx hb dL_law_1323 ?_
    refine q_c 3 (by decide +kernel) ?_
    refine va_sld X.1 X.2.1 hX hbl hbA hw5.2.2 (q_in (by decide +kernel)) dL_law_1324 ?_
    refine q_c a3 e3 ?_
    refine lv_i2l hx hb dL_law_1325 rfl ?_
    refine lv_bipush (v := 32) hx hb dL_law_1326 (by decide) ?_
    refine lv_lshl hx hb dL_law_1328 rfl ?_
    refine lv_aload_n hx hb dL_law_1329 rfl (lv_at hl 3 rfl) ?_
    refine lv_iload_n hx hb dL_law_1330 rfl (lv_at hl 0 rfl) ?_
    refine lv_iconst (v := 4) hx hb dL_law_1331 (by decide) ?_
    refine lv_iadd hx hb dL_law_1332 ?_
    refine q_c 4 (by decide +kernel) ?_
    refine va_sld X.1 X.2.1 hX hbl hbA hw5.2.2 (q_in (by decide +kernel)) dL_law_1333 ?_
    refine q_c a4 e4 ?_
    refine lv_i2l hx hb dL_law_1334 rfl ?_
    refine lv_ldc2 hx hb hown (ht _ wm_8_59) dL_law_1335 ?_
    refine lv_land hx hb dL_law_1338 ?_
    refine lv_lor hx hb dL_law_1339 ?_
    refine q_callVl (rest := [.long (-6)]) (wr := []) X hK hA hw5 (fun sz => kX12_write_488 l D cy y0 (u_1.1 16) a2 ((((a3).toInt64) <<< ((32 : Int32).toInt64 &&& 63)) ||| (((a4).toInt64) &&& 4294967295)) (u_1.1 19) (u_1.1 0) (u_1.1 1) (u_1.1 2) (u_1.1 3) (u_1.1 4) (u_1.1 5) (u_1.1 6) (u_1.1 7) (u_1.1 8) (u_1.1 9) (u_1.1 10) (u_1.1 11) (u_1.1 12) (u_1.1 13) (u_1.1 14) (u_1.1 15) (u_1.1 17) (u_1.1 18) (upd (upd (upd (upd (fun _ => 0) (Int32.toNatClampNeg 0) (-1)) (Int32.toNatClampNeg 1) (-1)) (Int32.toNatClampNeg 2) (-1)) (Int32.toNatClampNeg 3) (-1)) (q_un (by decide +kernel) (q_un (by decide +kernel) q_ue)) sz) wm_8_31 wm_8_34 wm_1_12 hd_X12_write wm_8_32 wm_8_33 (ci := 12) (q0 := 0) rfl rfl ⟨Nat.le_of_ble_eq_true rfl, Nat.le_of_ble_eq_true rfl⟩ hl.1 rfl (Nat.le_of_ble_eq_true rfl) dL_law_1340 ⟨Nat.le_of_ble_eq_true rfl, Nat.le_of_ble_eq_true rfl⟩ [0, 1] [] rfl rfl (by decide) rfl rfl (fun r_12419 u_12419 Hp6 lc6 w_12419 hw6 => ?_)
    clear Hp5 lc5 hw5
    obtain rfl : r_12419 = (-6) := w_12419
    replace hw6 : qW D _ _ [] _ _ := hw6
    refine W.lcmp hx hb dL_law_1343 ?_
    refine q_c 0 (by decide +kernel) ?_
    refine lv_if_eq (tgt := 1461) hx hb dL_law_1344 (by decide) (fun _ => ?_) (fun c => absurd c (by decide +kernel))
    exact law_tail l X hr hlk hX hbl hw6.2.2 hl (Nat.le_of_ble_eq_true rfl) (Nat.le_of_ble_eq_true rfl)
  by_cases c_12420 : a1 = 2
  · subst c_12420
    refine lv_aload_n hx hb dL_law_1275 rfl (lv_at hl 2 rfl) ?_
    refine lv_aload_n hx hb dL_law_1276 rfl (lv_at hl 3 rfl) ?_
    refine lv_iload_n hx hb dL_law_1277 rfl (lv_at hl 0 rfl) ?_
    refine lv_iconst (v := 1) hx hb dL_law_1278 (by decide) ?_
    refine lv_iadd hx hb dL_law_1279 ?_
    refine q_c 1 (by decide +kernel) ?_
    refine va_sld X.1 X.2.1 hX hbl hbA hw6.2.2 (q_in (by decide +kernel)) dL_law_1280 ?_
    refine q_c 2 e1 ?_
    refine lv_aload_n hx hb dL_law_1281 rfl (lv_at hl 3 rfl) ?_
    refine lv_iload_n hx hb dL_law_1282 rfl (lv_at hl 0 rfl) ?_
    refine lv_iconst (v := 2) hx hb dL_law_1283 (by decide) ?_
    refine lv_iadd hx hb dL_law_1284 ?_
    refine q_c 2 (by decide +kernel) ?_
    refine va_sld X.1 X.2.1 hX hbl hbA hw6.2.2 (q_in (by decide +kernel)) dL_law_1285 ?_
    refine q_c a2 e2 ?_
    refine lv_aload_n hx hb dL_law_1286 rfl (lv_at hl 3 rfl) ?_
    refine lv_iload_n hx hb dL_law_1287 rfl (lv_at hl 0 rfl) ?_
    refine lv_iconst (v := 3) hx hb dL_law_1288 (by decide) ?_
    refine lv_iadd hx hb dL_law_1289 ?_
    refine q_c 3 (by decide +kernel) ?_
    refine va_sld X.1 X.2.1 hX hbl hbA hw6.2.2 (q_in (by decide +kernel)) dL_law_1290 ?_
    refine q_c a3 e3 ?_
    refine lv_i2l hx hb dL_law_1291 rfl ?_
    refine lv_bipush (v := 32) hx hb dL_law_1292 (by decide) ?_
    refine lv_lshl hx hb dL_law_1294 rfl ?_
    refine lv_aload_n hx hb dL_law_1295 rfl (lv_at hl 3 rfl) ?_
    refine lv_iload_n hx hb dL_law_1296 rfl (lv_at hl 0 rfl) ?_
    refine lv_iconst (v := 4) hx hb dL_law_1297 (by decide) ?_
    refine lv_iadd hx hb dL_law_1298 ?_
    refine q_c 4 (by decide +kernel) ?_
    refine va_sld X.1 X.2.1 hX hbl hbA hw6.2.2 (q_in (by decide +kernel)) dL_law_1299 ?_
    refine q_c a4 e4 ?_
    refine lv_i2l hx hb dL_law_1300 rfl ?_
    refine lv_ldc2 hx hb hown (ht _ wm_8_59) dL_law_1301 ?_
    refine lv_land hx hb dL_law_1304 ?_
    refine lv_lor hx hb dL_law_1305 ?_
    refine q_callVl (rest := []) (wr := [(y0, .inr (12, [.int 0, .ref (u_1.1 19), .ref (u_1.1 0), .ref (u_1.1 1), .ref (u_1.1 2), .int 0, .int 0, .int 0, .int 0, .int 0, .int 0, .int 0, .int 0, .int 0, .int (-1), .int 0, .ref (u_1.1 3), .ref (u_1.1 4), .ref (u_1.1 5), .ref (u_1.1 6), .ref (u_1.1 7), .int 0, .int 0, .ref (u_1.1 8), .ref (u_1.1 9), .ref (u_1.1 10), .int 0, .int 0, .ref (u_1.1 11), .ref (u_1.1 12), .ref (u_1.1 13), .ref (u_1.1 14), .ref (u_1.1 15), .int 0, .ref (u_1.1 16), .ref (u_1.1 17), .ref (u_1.1 18)])), ((u_1.1 16), .inl (cy 1, 4, .inl (upd (upd (upd (upd (fun _ => 0) (Int32.toNatClampNeg 0) (-1)) (Int32.toNatClampNeg 1) (-1)) (Int32.toNatClampNeg 2) (-1)) (Int32.toNatClampNeg 3) (-1))))]) X hK hA hw6 (fun sz => kX11_write_489 l D cy x0 (u_0.1 14) (u_0.1 69) a2 ((((a3).toInt64) <<< ((32 : Int32).toInt64 &&& 63)) ||| (((a4).toInt64) &&& 4294967295)) (u_0.1 0) (u_0.1 1) (u_0.1 37) (u_0.1 39) (u_0.1 41) (u_0.1 43) (u_0.1 15) (u_0.1 16) (u_0.1 17) (u_0.1 20) (u_0.1 24) (u_0.1 29) (u_0.1 71) (u_0.1 67) (u_0.1 65) (u_0.1 70)  sz) wm_5_131 wm_5_134 wm_1_1 hd_X11_write wm_5_132 wm_5_133 (ci := 11) (q0 := 0) rfl rfl ⟨Nat.le_of_ble_eq_true rfl, Nat.le_of_ble_eq_true rfl⟩ hl.1 rfl (Nat.le_of_ble_eq_true rfl) dL_law_1306 ⟨Nat.le_of_ble_eq_true rfl, Nat.le_of_ble_eq_true rfl⟩ [0, 15, 70] [78, 95] rfl rfl (by decide) rfl rfl (fun r_12435 u_12435 Hp7 lc7 w_12435 hw7 => ?_)
    clear Hp6 lc6 hw6
    obtain rfl : r_12435 = (-6) := w_12435
    replace hw7 : qW D _ _ [(y0, .inr (12, [.int 0, .ref (u_1.1 19), .ref (u_1.1 0), .ref (u_1.1 1), .ref (u_1.1 2), .int 0, .int 0, .int 0, .int 0, .int 0, .int 0, .int 0, .int 0, .int 0, .int (-1), .int 0, .ref (u_1.1 3), .ref (u_1.1 4), .ref (u_1.1 5), .ref (u_1.1 6), .ref (u_1.1 7), .int 0, .int 0, .ref (u_1.1 8), .ref (u_1.1 9), .ref (u_1.1 10), .int 0, .int 0, .ref (u_1.1 11), .ref (u_1.1 12), .ref (u_1.1 13), .ref (u_1.1 14), .ref (u_1.1 15), .int 0, .ref (u_1.1 16), .ref (u_1.1 17), .ref (u_1.1 18)])), ((u_1.1 16), .inl (cy 1, 4, .inl (upd (upd (upd (upd (fun _ => 0) (Int32.toNatClampNeg 0) (-1)) (Int32.toNatClampNeg 1) (-1)) (Int32.toNatClampNeg 2) (-1)) (Int32.toNatClampNeg 3) (-1))))] _ _ := hw7
    refine lv_aload_n hx hb dL_law_1309 rfl (lv_at hl 1 rfl) ?_
    refine lv_aload_n hx hb dL_law_1310 rfl (lv_at hl 3 rfl) ?_
    refine lv_iload_n hx hb dL_law_1311 rfl (lv_at hl 0 rfl) ?_
    refine lv_iconst (v := 1) hx hb dL_law_1312 (by decide) ?_
    refine lv_iadd hx hb dL_law_1313 ?_
    refine q_c 1 (by decide +kernel) ?_
    refine va_sld X.1 X.2.1 hX hbl hbA hw7.2.2 (q_in (by decide +kernel)) dL_law_1314 ?_
    refine q_c 2 e1 ?_
    refine lv_aload_n hx hb dL_law_1315 rfl (lv_at hl 3 rfl) ?_
    refine lv_iload_n hx hb dL_law_1316 rfl (lv_at hl 0 rfl) ?_
    refine lv_iconst (v := 2) hx hb dL_law_1317 (by decide) ?_
    refine lv_iadd hx hb dL_law_1318 ?_
    refine q_c 2 (by decide +kernel) ?_
    refine va_sld X.1 X.2.1 hX hbl hbA hw7.2.2 (q_in (by decide +kernel)) dL_law_1319 ?_
    refine q_c a2 e2 ?_
    refine lv_aload_n hx hb dL_law_1320 rfl (lv_at hl 3 rfl) ?_
    refine lv_iload_n hx hb dL_law_1321 rfl (lv_at hl 0 rfl) ?_
    refine lv_iconst (v := 3) hx hb dL_law_1322 (by decide) ?_
    refine lv_iadd hx hb dL_law_1323 ?_
    refine q_c 3 (by decide +kernel) ?_
    refine va_sld X.1 X.2.1 hX hbl hbA hw7.2.2 (q_in (by decide +kernel)) dL_law_1324 ?_
    refine q_c a3 e3 ?_
    refine lv_i2l hx hb dL_law_1325 rfl ?_
    refine lv_bipush (v := 32) hx hb dL_law_1326 (by decide) ?_
    refine lv_lshl hx hb dL_law_1328 rfl ?_
    refine lv_aload_n hx hb dL_law_1329 rfl (lv_at hl 3 rfl) ?_
    refine lv_iload_n hx hb dL_law_1330 rfl (lv_at hl 0 rfl) ?_
    refine lv_iconst (v := 4) hx hb dL_law_1331 (by decide) ?_
    refine lv_iadd hx hb dL_law_1332 ?_
    refine q_c 4 (by decide +kernel) ?_
    refine va_sld X.1 X.2.1 hX hbl hbA hw7.2.2 (q_in (by decide +kernel)) dL_law_1333 ?_
    refine q_c a4 e4 ?_
    refine lv_i2l hx hb dL_law_1334 rfl ?_
    refine lv_ldc2 hx hb hown (ht _ wm_8_59) dL_law_1335 ?_
    refine lv_land hx hb dL_law_1338 ?_
    refine lv_lor hx hb dL_law_1339 ?_
    refine q_callVl (rest := [.long (-6)]) (wr := []) X hK hA hw7 (fun sz => kX12_write_490 l D cy y0 (u_1.1 16) a2 ((((a3).toInt64) <<< ((32 : Int32).toInt64 &&& 63)) ||| (((a4).toInt64) &&& 4294967295)) (u_1.1 19) (u_1.1 0) (u_1.1 1) (u_1.1 2) (u_1.1 3) (u_1.1 4) (u_1.1 5) (u_1.1 6) (u_1.1 7) (u_1.1 8) (u_1.1 9) (u_1.1 10) (u_1.1 11) (u_1.1 12) (u_1.1 13) (u_1.1 14) (u_1.1 15) (u_1.1 17) (u_1.1 18) (upd (upd (upd (upd (fun _ => 0) (Int32.toNatClampNeg 0) (-1)) (Int32.toNatClampNeg 1) (-1)) (Int32.toNatClampNeg 2) (-1)) (Int32.toNatClampNeg 3) (-1)) (q_un (by decide +kernel) q_ue) sz) wm_8_31 wm_8_34 wm_1_12 hd_X12_write wm_8_32 wm_8_33 (ci := 12) (q0 := 0) rfl rfl ⟨Nat.le_of_ble_eq_true rfl, Nat.le_of_ble_eq_true rfl⟩ hl.1 rfl (Nat.le_of_ble_eq_true rfl) dL_law_1340 ⟨Nat.le_of_ble_eq_true rfl, Nat.le_of_ble_eq_true rfl⟩ [0, 1] [] rfl rfl (by decide) rfl rfl (fun r_12438 u_12438 Hp8 lc8 w_12438 hw8 => ?_)
    clear Hp7 lc7 hw7
    obtain rfl : r_12438 = (-6) := w_12438
    replace hw8 : qW D _ _ [] _ _ := hw8
    refine W.lcmp hx hb dL_law_1343 ?_
    refine q_c 0 (by decide +kernel) ?_
    refine lv_if_eq (tgt := 1461) hx hb dL_law_1344 (by decide) (fun _ => ?_) (fun c => absurd c (by decide +kernel))
    exact law_tail l X hr hlk hX hbl hw8.2.2 hl (Nat.le_of_ble_eq_true rfl) (Nat.le_of_ble_eq_true rfl)
  by_cases c_12439 : a1 = 3
  · subst c_12439
    refine lv_aload_n hx hb dL_law_1275 rfl (lv_at hl 2 rfl) ?_
    refine lv_aload_n hx hb dL_law_1276 rfl (lv_at hl 3 rfl) ?_
    refine lv_iload_n hx hb dL_law_1277 rfl (lv_at hl 0 rfl) ?_
    refine lv_iconst (v := 1) hx hb dL_law_1278 (by decide) ?_
    refine lv_iadd hx hb dL_law_1279 ?_
    refine q_c 1 (by decide +kernel) ?_
    refine va_sld X.1 X.2.1 hX hbl hbA hw8.2.2 (q_in (by decide +kernel)) dL_law_1280 ?_
    refine q_c 3 e1 ?_
    refine lv_aload_n hx hb dL_law_1281 rfl (lv_at hl 3 rfl) ?_
    refine lv_iload_n hx hb dL_law_1282 rfl (lv_at hl 0 rfl) ?_
    refine lv_iconst (v := 2) hx hb dL_law_1283 (by decide) ?_
    refine lv_iadd hx hb dL_law_1284 ?_
    refine q_c 2 (by decide +kernel) ?_
    refine va_sld X.1 X.2.1 hX hbl hbA hw8.2.2 (q_in (by decide +kernel)) dL_law_1285 ?_
    refine q_c a2 e2 ?_
    refine lv_aload_n hx hb dL_law_1286 rfl (lv_at hl 3 rfl) ?_
    refine lv_iload_n hx hb dL_law_1287 rfl (lv_at hl 0 rfl) ?_
    refine lv_iconst (v := 3) hx hb dL_law_1288 (by decide) ?_
    refine lv_iadd hx hb dL_law_1289 ?_
    refine q_c 3 (by decide +kernel) ?_
    refine va_sld X.1 X.2.1 hX hbl hbA hw8.2.2 (q_in (by decide +kernel)) dL_law_1290 ?_
    refine q_c a3 e3 ?_
    refine lv_i2l hx hb dL_law_1291 rfl ?_
    refine lv_bipush (v := 32) hx hb dL_law_1292 (by decide) ?_
    refine lv_lshl hx hb dL_law_1294 rfl ?_
    refine lv_aload_n hx hb dL_law_1295 rfl (lv_at hl 3 rfl) ?_
    refine lv_iload_n hx hb dL_law_1296 rfl (lv_at hl 0 rfl) ?_
    refine lv_iconst (v := 4) hx hb dL_law_1297 (by decide) ?_
    refine lv_iadd hx hb dL_law_1298 ?_
    refine q_c 4 (by decide +kernel) ?_
    refine va_sld X.1 X.2.1 hX hbl hbA hw8.2.2 (q_in (by decide +kernel)) dL_law_1299 ?_
    refine q_c a4 e4 ?_
    refine lv_i2l hx hb dL_law_1300 rfl ?_
    refine lv_ldc2 hx hb hown (ht _ wm_8_59) dL_law_1301 ?_
    refine lv_land hx hb dL_law_1304 ?_
    refine lv_lor hx hb dL_law_1305 ?_
    refine q_callVl (rest := []) (wr := [(y0, .inr (12, [.int 0, .ref (u_1.1 19), .ref (u_1.1 0), .ref (u_1.1 1), .ref (u_1.1 2), .int 0, .int 0, .int 0, .int 0, .int 0, .int 0, .int 0, .int 0, .int 0, .int (-1), .int 0, .ref (u_1.1 3), .ref (u_1.1 4), .ref (u_1.1 5), .ref (u_1.1 6), .ref (u_1.1 7), .int 0, .int 0, .ref (u_1.1 8), .ref (u_1.1 9), .ref (u_1.1 10), .int 0, .int 0, .ref (u_1.1 11), .ref (u_1.1 12), .ref (u_1.1 13), .ref (u_1.1 14), .ref (u_1.1 15), .int 0, .ref (u_1.1 16), .ref (u_1.1 17), .ref (u_1.1 18)])), ((u_1.1 16), .inl (cy 1, 4, .inl (upd (upd (upd (upd (fun _ => 0) (Int32.toNatClampNeg 0) (-1)) (Int32.toNatClampNeg 1) (-1)) (Int32.toNatClampNeg 2) (-1)) (Int32.toNatClampNeg 3) (-1))))]) X hK hA hw8 (fun sz => kX11_write_491 l D cy x0 (u_0.1 14) (u_0.1 71) a2 ((((a3).toInt64) <<< ((32 : Int32).toInt64 &&& 63)) ||| (((a4).toInt64) &&& 4294967295)) (u_0.1 0) (u_0.1 1) (u_0.1 37) (u_0.1 39) (u_0.1 41) (u_0.1 43) (u_0.1 15) (u_0.1 16) (u_0.1 17) (u_0.1 20) (u_0.1 24) (u_0.1 29) (u_0.1 69) (u_0.1 67) (u_0.1 65) (u_0.1 72)  sz) wm_5_131 wm_5_134 wm_1_1 hd_X11_write wm_5_132 wm_5_133 (ci := 11) (q0 := 0) rfl rfl ⟨Nat.le_of_ble_eq_true rfl, Nat.le_of_ble_eq_true rfl⟩ hl.1 rfl (Nat.le_of_ble_eq_true rfl) dL_law_1306 ⟨Nat.le_of_ble_eq_true rfl, Nat.le_of_ble_eq_true rfl⟩ [0, 15, 72] [78, 95] rfl rfl (by decide) rfl rfl (fun r_12454 u_12454 Hp9 lc9 w_12454 hw9 => ?_)
    clear Hp8 lc8 hw8
    obtain rfl : r_12454 = (-6) := w_12454
    replace hw9 : qW D _ _ [(y0, .inr (12, [.int 0, .ref (u_1.1 19), .ref (u_1.1 0), .ref (u_1.1 1), .ref (u_1.1 2), .int 0, .int 0, .int 0, .int 0, .int 0, .int 0, .int 0, .int 0, .int 0, .int (-1), .int 0, .ref (u_1.1 3), .ref (u_1.1 4), .ref (u_1.1 5), .ref (u_1.1 6), .ref (u_1.1 7), .int 0, .int 0, .ref (u_1.1 8), .ref (u_1.1 9), .ref (u_1.1 10), .int 0, .int 0, .ref (u_1.1 11), .ref (u_1.1 12), .ref (u_1.1 13), .ref (u_1.1 14), .ref (u_1.1 15), .int 0, .ref (u_1.1 16), .ref (u_1.1 17), .ref (u_1.1 18)])), ((u_1.1 16), .inl (cy 1, 4, .inl (upd (upd (upd (upd (fun _ => 0) (Int32.toNatClampNeg 0) (-1)) (Int32.toNatClampNeg 1) (-1)) (Int32.toNatClampNeg 2) (-1)) (Int32.toNatClampNeg 3) (-1))))] _ _ := hw9
    refine lv_aload_n hx hb dL_law_1309 rfl (lv_at hl 1 rfl) ?_
    refine lv_aload_n hx hb dL_law_1310 rfl (lv_at hl 3 rfl) ?_
    refine lv_iload_n hx hb dL_law_1311 rfl (lv_at hl 0 rfl) ?_
    refine lv_iconst (v := 1) hx hb dL_law_1312 (by decide) ?_
    refine lv_iadd hx hb dL_law_1313 ?_
    refine q_c 1 (by decide +kernel) ?_
    refine va_sld X.1 X.2.1 hX hbl hbA hw9.2.2 (q_in (by decide +kernel)) dL_law_1314 ?_
    refine q_c 3 e1 ?_
    refine lv_aload_n hx hb dL_law_1315 rfl (lv_at hl 3 rfl) ?_
    refine lv_iload_n hx hb dL_law_1316 rfl (lv_at hl 0 rfl) ?_
    refine lv_iconst (v := 2) hx hb dL_law_1317 (by decide) ?_
    refine lv_iadd hx hb dL_law_1318 ?_
    refine q_c 2 (by decide +kernel) ?_
    refine va_sld X.1 X.2.1 hX hbl hbA hw9.2.2 (q_in (by decide +kernel)) dL_law_1319 ?_
    refine q_c a2 e2 ?_
    refine lv_aload_n hx hb dL_law_1320 rfl (lv_at hl 3 rfl) ?_
    refine lv_iload_n hx hb dL_law_1321 rfl (lv_at hl 0 rfl) ?_
    refine lv_iconst (v := 3) hx hb dL_law_1322 (by decide) ?_
    refine lv_iadd hx hb dL_law_1323 ?_
    refine q_c 3 (by decide +kernel) ?_
    refine va_sld X.1 X.2.1 hX hbl hbA hw9.2.2 (q_in (by decide +kernel)) dL_law_1324 ?_
    refine q_c a3 e3 ?_
    refine lv_i2l hx hb dL_law_1325 rfl ?_
    refine lv_bipush (v := 32) hx hb dL_law_1326 (by decide) ?_
    refine lv_lshl hx hb dL_law_1328 rfl ?_
    refine lv_aload_n hx hb dL_law_1329 rfl (lv_at hl 3 rfl) ?_
    refine lv_iload_n hx hb dL_law_1330 rfl (lv_at hl 0 rfl) ?_
    refine lv_iconst (v := 4) hx hb dL_law_1331 (by decide) ?_
    refine lv_iadd hx hb dL_law_1332 ?_
    refine q_c 4 (by decide +kernel) ?_
    refine va_sld X.1 X.2.1 hX hbl hbA hw9.2.2 (q_in (by decide +kernel)) dL_law_1333 ?_
    refine q_c a4 e4 ?_
    refine lv_i2l hx hb dL_law_1334 rfl ?_
    refine lv_ldc2 hx hb hown (ht _ wm_8_59) dL_law_1335 ?_
    refine lv_land hx hb dL_law_1338 ?_
    refine lv_lor hx hb dL_law_1339 ?_
    refine q_callVl (rest := [.long (-6)]) (wr := []) X hK hA hw9 (fun sz => kX12_write_492 l D cy y0 (u_1.1 16) a2 ((((a3).toInt64) <<< ((32 : Int32).toInt64 &&& 63)) ||| (((a4).toInt64) &&& 4294967295)) (u_1.1 19) (u_1.1 0) (u_1.1 1) (u_1.1 2) (u_1.1 3) (u_1.1 4) (u_1.1 5) (u_1.1 6) (u_1.1 7) (u_1.1 8) (u_1.1 9) (u_1.1 10) (u_1.1 11) (u_1.1 12) (u_1.1 13) (u_1.1 14) (u_1.1 15) (u_1.1 17) (u_1.1 18) (upd (upd (upd (upd (fun _ => 0) (Int32.toNatClampNeg 0) (-1)) (Int32.toNatClampNeg 1) (-1)) (Int32.toNatClampNeg 2) (-1)) (Int32.toNatClampNeg 3) (-1)) q_ue sz) wm_8_31 wm_8_34 wm_1_12 hd_X12_write wm_8_32 wm_8_33 (ci := 12) (q0 := 0) rfl rfl ⟨Nat.le_of_ble_eq_true rfl, Nat.le_of_ble_eq_true rfl⟩ hl.1 rfl (Nat.le_of_ble_eq_true rfl) dL_law_1340 ⟨Nat.le_of_ble_eq_true rfl, Nat.le_of_ble_eq_true rfl⟩ [0, 1] [] rfl rfl (by decide) rfl rfl (fun r_12457 u_12457 Hp10 lc10 w_12457 hw10 => ?_)
    clear Hp9 lc9 hw9
    obtain rfl : r_12457 = (-6) := w_12457
    replace hw10 : qW D _ _ [] _ _ := hw10
    refine W.lcmp hx hb dL_law_1343 ?_
    refine q_c 0 (by decide +kernel) ?_
    refine lv_if_eq (tgt := 1461) hx hb dL_law_1344 (by decide) (fun _ => ?_) (fun c => absurd c (by decide +kernel))
    exact law_tail l X hr hlk hX hbl hw10.2.2 hl (Nat.le_of_ble_eq_true rfl) (Nat.le_of_ble_eq_true rfl)
  refine lv_aload_n hx hb dL_law_1275 rfl (lv_at hl 2 rfl) ?_
  refine lv_aload_n hx hb dL_law_1276 rfl (lv_at hl 3 rfl) ?_
  refine lv_iload_n hx hb dL_law_1277 rfl (lv_at hl 0 rfl) ?_
  refine lv_iconst (v := 1) hx hb dL_law_1278 (by decide) ?_
  refine lv_iadd hx hb dL_law_1279 ?_
  refine q_c 1 (by decide +kernel) ?_
  refine va_sld X.1 X.2.1 hX hbl hbA hw10.2.2 (q_in (by decide +kernel)) dL_law_1280 ?_
  refine q_c a1 e1 ?_
  refine lv_aload_n hx hb dL_law_1281 rfl (lv_at hl 3 rfl) ?_
  refine lv_iload_n hx hb dL_law_1282 rfl (lv_at hl 0 rfl) ?_
  refine lv_iconst (v := 2) hx hb dL_law_1283 (by decide) ?_
  refine lv_iadd hx hb dL_law_1284 ?_
  refine q_c 2 (by decide +kernel) ?_
  refine va_sld X.1 X.2.1 hX hbl hbA hw10.2.2 (q_in (by decide +kernel)) dL_law_1285 ?_
  refine q_c a2 e2 ?_
  refine lv_aload_n hx hb dL_law_1286 rfl (lv_at hl 3 rfl) ?_
  refine lv_iload_n hx hb dL_law_1287 rfl (lv_at hl 0 rfl) ?_
  refine lv_iconst (v := 3) hx hb dL_law_1288 (by decide) ?_
  refine lv_iadd hx hb dL_law_1289 ?_
  refine q_c 3 (by decide +kernel) ?_
  refine va_sld X.1 X.2.1 hX hbl hbA hw10.2.2 (q_in (by decide +kernel)) dL_law_1290 ?_
  refine q_c a3 e3 ?_
  refine lv_i2l hx hb dL_law_1291 rfl ?_
  refine lv_bipush (v := 32) hx hb dL_law_1292 (by decide) ?_
  refine lv_lshl hx hb dL_law_1294 rfl ?_
  refine lv_aload_n hx hb dL_law_1295 rfl (lv_at hl 3 rfl) ?_
  refine lv_iload_n hx hb dL_law_1296 rfl (lv_at hl 0 rfl) ?_
  refine lv_iconst (v := 4) hx hb dL_law_1297 (by decide) ?_
  refine lv_iadd hx hb dL_law_1298 ?_
  refine q_c 4 (by decide +kernel) ?_
  refine va_sld X.1 X.2.1 hX hbl hbA hw10.2.2 (q_in (by decide +kernel)) dL_law_1299 ?_
  refine q_c a4 e4 ?_
  refine lv_i2l hx hb dL_law_1300 rfl ?_
  refine lv_ldc2 hx hb hown (ht _ wm_8_59) dL_law_1301 ?_
  refine lv_land hx hb dL_law_1304 ?_
  refine lv_lor hx hb dL_law_1305 ?_
  have g_12493 : (4 : Int32) ≤ a1 := by
    simp only [Int32.lt_iff_toInt_lt, Int32.le_iff_toInt_le, ← Int32.toInt_inj] at c_12345 c_12382 c_12401 c_12420 c_12439 ⊢
    have k_0 : ((-1) : Int32).toInt = -1 := by decide
    have k_1 : (0 : Int32).toInt = 0 := by decide
    have k_2 : (1 : Int32).toInt = 1 := by decide
    have k_3 : (2 : Int32).toInt = 2 := by decide
    have k_4 : (3 : Int32).toInt = 3 := by decide
    have k_g : (4 : Int32).toInt = 4 := by decide
    omega
  refine q_callVl (rest := []) (wr := [(y0, .inr (12, [.int 0, .ref (u_1.1 19), .ref (u_1.1 0), .ref (u_1.1 1), .ref (u_1.1 2), .int 0, .int 0, .int 0, .int 0, .int 0, .int 0, .int 0, .int 0, .int 0, .int (-1), .int 0, .ref (u_1.1 3), .ref (u_1.1 4), .ref (u_1.1 5), .ref (u_1.1 6), .ref (u_1.1 7), .int 0, .int 0, .ref (u_1.1 8), .ref (u_1.1 9), .ref (u_1.1 10), .int 0, .int 0, .ref (u_1.1 11), .ref (u_1.1 12), .ref (u_1.1 13), .ref (u_1.1 14), .ref (u_1.1 15), .int 0, .ref (u_1.1 16), .ref (u_1.1 17), .ref (u_1.1 18)]))]) X hK hA hw10 (fun sz => kX11_write_493 l D cy x0 a1 a2 ((((a3).toInt64) <<< ((32 : Int32).toInt64 &&& 63)) ||| (((a4).toInt64) &&& 4294967295)) (u_0.1 0) (u_0.1 1) (u_0.1 37) (u_0.1 39) (u_0.1 41) (u_0.1 43) (u_0.1 14) (u_0.1 15) (u_0.1 16) (u_0.1 17) (u_0.1 20) (u_0.1 24) (u_0.1 29) g_12493 sz) wm_5_131 wm_5_134 wm_1_1 hd_X11_write wm_5_132 wm_5_133 (ci := 11) (q0 := 0) rfl rfl ⟨Nat.le_of_ble_eq_true rfl, Nat.le_of_ble_eq_true rfl⟩ hl.1 rfl (Nat.le_of_ble_eq_true rfl) dL_law_1306 ⟨Nat.le_of_ble_eq_true rfl, Nat.le_of_ble_eq_true rfl⟩ [0] [78] rfl rfl (by decide) rfl rfl (fun r_12494 u_12494 Hp11 lc11 w_12494 hw11 => ?_)
  clear Hp10 lc10 hw10
  obtain rfl : r_12494 = (-2) := w_12494
  replace hw11 : qW D _ _ [(y0, .inr (12, [.int 0, .ref (u_1.1 19), .ref (u_1.1 0), .ref (u_1.1 1), .ref (u_1.1 2), .int 0, .int 0, .int 0, .int 0, .int 0, .int 0, .int 0, .int 0, .int 0, .int (-1), .int 0, .ref (u_1.1 3), .ref (u_1.1 4), .ref (u_1.1 5), .ref (u_1.1 6), .ref (u_1.1 7), .int 0, .int 0, .ref (u_1.1 8), .ref (u_1.1 9), .ref (u_1.1 10), .int 0, .int 0, .ref (u_1.1 11), .ref (u_1.1 12), .ref (u_1.1 13), .ref (u_1.1 14), .ref (u_1.1 15), .int 0, .ref (u_1.1 16), .ref (u_1.1 17), .ref (u_1.1 18)]))] _ _ := hw11
  refine lv_aload_n hx hb dL_law_1309 rfl (lv_at hl 1 rfl) ?_
  refine lv_aload_n hx hb dL_law_1310 rfl (lv_at hl 3 rfl) ?_
  refine lv_iload_n hx hb dL_law_1311 rfl (lv_at hl 0 rfl) ?_
  refine lv_iconst (v := 1) hx hb dL_law_1312 (by decide) ?_
  refine lv_iadd hx hb dL_law_1313 ?_
  refine q_c 1 (by decide +kernel) ?_
  refine va_sld X.1 X.2.1 hX hbl hbA hw11.2.2 (q_in (by decide +kernel)) dL_law_1314 ?_
  refine q_c a1 e1 ?_
  refine lv_aload_n hx hb dL_law_1315 rfl (lv_at hl 3 rfl) ?_
  refine lv_iload_n hx hb dL_law_1316 rfl (lv_at hl 0 rfl) ?_
  refine lv_iconst (v := 2) hx hb dL_law_1317 (by decide) ?_
  refine lv_iadd hx hb dL_law_1318 ?_
  refine q_c 2 (by decide +kernel) ?_
  refine va_sld X.1 X.2.1 hX hbl hbA hw11.2.2 (q_in (by decide +kernel)) dL_law_1319 ?_
  refine q_c a2 e2 ?_
  refine lv_aload_n hx hb dL_law_1320 rfl (lv_at hl 3 rfl) ?_
  refine lv_iload_n hx hb dL_law_1321 rfl (lv_at hl 0 rfl) ?_
  refine lv_iconst (v := 3) hx hb dL_law_1322 (by decide) ?_
  refine lv_iadd hx hb dL_law_1323 ?_
  refine q_c 3 (by decide +kernel) ?_
  refine va_sld X.1 X.2.1 hX hbl hbA hw11.2.2 (q_in (by decide +kernel)) dL_law_1324 ?_
  refine q_c a3 e3 ?_
  refine lv_i2l hx hb dL_law_1325 rfl ?_
  refine lv_bipush (v := 32) hx hb dL_law_1326 (by decide) ?_
  refine lv_lshl hx hb dL_law_1328 rfl ?_
  refine lv_aload_n hx hb dL_law_1329 rfl (lv_at hl 3 rfl) ?_
  refine lv_iload_n hx hb dL_law_1330 rfl (lv_at hl 0 rfl) ?_
  refine lv_iconst (v := 4) hx hb dL_law_1331 (by decide) ?_
  refine lv_iadd hx hb dL_law_1332 ?_
  refine q_c 4 (by decide +kernel) ?_
  refine va_sld X.1 X.2.1 hX hbl hbA hw11.2.2 (q_in (by decide +kernel)) dL_law_1333 ?_
  refine q_c a4 e4 ?_
  refine lv_i2l hx hb dL_law_1334 rfl ?_
  refine lv_ldc2 hx hb hown (ht _ wm_8_59) dL_law_1335 ?_
  refine lv_land hx hb dL_law_1338 ?_
  refine lv_lor hx hb dL_law_1339 ?_
  have g_12501 : (4 : Int32) ≤ a1 := by
    simp only [Int32.lt_iff_toInt_lt, Int32.le_iff_toInt_le, ← Int32.toInt_inj] at c_12345 c_12382 c_12401 c_12420 c_12439 ⊢
    have k_0 : ((-1) : Int32).toInt = -1 := by decide
    have k_1 : (0 : Int32).toInt = 0 := by decide
    have k_2 : (1 : Int32).toInt = 1 := by decide
    have k_3 : (2 : Int32).toInt = 2 := by decide
    have k_4 : (3 : Int32).toInt = 3 := by decide
    have k_g : (4 : Int32).toInt = 4 := by decide
    omega
  refine q_callVl (rest := [.long (-2)]) (wr := []) X hK hA hw11 (fun sz => kX12_write_494 l D cy y0 a1 a2 ((((a3).toInt64) <<< ((32 : Int32).toInt64 &&& 63)) ||| (((a4).toInt64) &&& 4294967295)) (u_1.1 19) (u_1.1 0) (u_1.1 1) (u_1.1 2) (u_1.1 3) (u_1.1 4) (u_1.1 5) (u_1.1 6) (u_1.1 7) (u_1.1 8) (u_1.1 9) (u_1.1 10) (u_1.1 11) (u_1.1 12) (u_1.1 13) (u_1.1 14) (u_1.1 15) (u_1.1 16) (u_1.1 17) (u_1.1 18) g_12501 sz) wm_8_31 wm_8_34 wm_1_12 hd_X12_write wm_8_32 wm_8_33 (ci := 12) (q0 := 0) rfl rfl ⟨Nat.le_of_ble_eq_true rfl, Nat.le_of_ble_eq_true rfl⟩ hl.1 rfl (Nat.le_of_ble_eq_true rfl) dL_law_1340 ⟨Nat.le_of_ble_eq_true rfl, Nat.le_of_ble_eq_true rfl⟩ [0] [] rfl rfl (by decide) rfl rfl (fun r_12502 u_12502 Hp12 lc12 w_12502 hw12 => ?_)
  clear Hp11 lc11 hw11
  obtain rfl : r_12502 = (-2) := w_12502
  replace hw12 : qW D _ _ [] _ _ := hw12
  refine W.lcmp hx hb dL_law_1343 ?_
  refine q_c 0 (by decide +kernel) ?_
  refine lv_if_eq (tgt := 1461) hx hb dL_law_1344 (by decide) (fun _ => ?_) (fun c => absurd c (by decide +kernel))
  exact law_tail l X hr hlk hX hbl hw12.2.2 hl (Nat.le_of_ble_eq_true rfl) (Nat.le_of_ble_eq_true rfl)
set_option maxHeartbeats 4000000 in
set_option maxRecDepth 100000 in
theorem lc_lists (l : Launch) {p : Program} {e : Env} {s : State} {m : MethodId} {below : List Frame} {meth : Method} {c : Code} {b : Nat} {xs : Nat → Int32} {D : va_G} {cy : Nat → ClassId} {H : Heap} {locs : List Loc} {ls : Array Slot} {x0 y0 : Nat} {u_0 u_1 : SS} (X : qX p s m #[Value.ref b] c cL_law 4 RL) (hr : meth.sig.returnType = ret) (hlk : meth.locks = false) (hX : va_X b 6 xs s s.heap) (hbl : b < s.heap.size) (hK : qK D cy s) (a1 a2 a3 a4 a5 : Int32) (e1 : xs (Int32.toNatClampNeg 1) = a1) (e2 : xs (Int32.toNatClampNeg 2) = a2) (e3 : xs (Int32.toNatClampNeg 3) = a3) (e4 : xs (Int32.toNatClampNeg 4) = a4) (e5 : xs (Int32.toNatClampNeg 5) = a5) (h : qW D (fun q => s.heap.size ≤ q) s.heap (wLaw cy x0 y0 u_0 u_1) H locs) (hl : lv_has ls 4 [(3, .int 0), (2, .ref y0), (1, .ref x0), (0, .ref b)]) : W p l e room_1 s m #[Value.ref b] below meth c H locs 99 25544 (lw_Z below #[Value.ref b] s) (F0 m 1349 ls []) := by
  obtain ⟨hx, hb, hml, hown, ht⟩ := id X
  have hA : ∀ q : Nat, s.heap.size ≤ q → (fun q : Nat => s.heap.size ≤ q) q := fun _ h => h
  have hbA : ¬ (fun q : Nat => s.heap.size ≤ q) b := Nat.not_le.mpr hbl
  by_cases c_12507 : a1 ≤ (-1)
  · skip
    refine lv_aload_n hx hb dL_law_1349 rfl (lv_at hl 2 rfl) ?_
    refine lv_aload_n hx hb dL_law_1350 rfl (lv_at hl 3 rfl) ?_
    refine lv_iload_n hx hb dL_law_1351 rfl (lv_at hl 0 rfl) ?_
    refine lv_iconst (v := 1) hx hb dL_law_1352 (by decide) ?_
    refine lv_iadd hx hb dL_law_1353 ?_
    refine q_c 1 (by decide +kernel) ?_
    refine va_sld X.1 X.2.1 hX hbl hbA h.2.2 (q_in (by decide +kernel)) dL_law_1354 ?_
    refine q_c a1 e1 ?_
    refine lv_aload_n hx hb dL_law_1355 rfl (lv_at hl 3 rfl) ?_
    refine lv_iload_n hx hb dL_law_1356 rfl (lv_at hl 0 rfl) ?_
    refine lv_iconst (v := 2) hx hb dL_law_1357 (by decide) ?_
    refine lv_iadd hx hb dL_law_1358 ?_
    refine q_c 2 (by decide +kernel) ?_
    refine va_sld X.1 X.2.1 hX hbl hbA h.2.2 (q_in (by decide +kernel)) dL_law_1359 ?_
    refine q_c a2 e2 ?_
    refine lv_aload_n hx hb dL_law_1360 rfl (lv_at hl 3 rfl) ?_
    refine lv_iload_n hx hb dL_law_1361 rfl (lv_at hl 0 rfl) ?_
    refine lv_iconst (v := 3) hx hb dL_law_1362 (by decide) ?_
    refine lv_iadd hx hb dL_law_1363 ?_
    refine q_c 3 (by decide +kernel) ?_
    refine va_sld X.1 X.2.1 hX hbl hbA h.2.2 (q_in (by decide +kernel)) dL_law_1364 ?_
    refine q_c a3 e3 ?_
    have g_12529 : a1 ≤ ((-1) : Int32) := by
      simp only [Int32.lt_iff_toInt_lt, Int32.le_iff_toInt_le, ← Int32.toInt_inj] at c_12507 ⊢
      have k_0 : ((-1) : Int32).toInt = -1 := by decide
      omega
    refine q_callVi (rest := []) (wr := [(y0, .inr (12, [.int 0, .ref (u_1.1 19), .ref (u_1.1 0), .ref (u_1.1 1), .ref (u_1.1 2), .int 0, .int 0, .int 0, .int 0, .int 0, .int 0, .int 0, .int 0, .int 0, .int (-1), .int 0, .ref (u_1.1 3), .ref (u_1.1 4), .ref (u_1.1 5), .ref (u_1.1 6), .ref (u_1.1 7), .int 0, .int 0, .ref (u_1.1 8), .ref (u_1.1 9), .ref (u_1.1 10), .int 0, .int 0, .ref (u_1.1 11), .ref (u_1.1 12), .ref (u_1.1 13), .ref (u_1.1 14), .ref (u_1.1 15), .int 0, .ref (u_1.1 16), .ref (u_1.1 17), .ref (u_1.1 18)]))]) X hK hA h (fun sz => kX11_lists_495 l D cy x0 a1 a2 a3 (u_0.1 0) (u_0.1 1) (u_0.1 37) (u_0.1 39) (u_0.1 41) (u_0.1 43) (u_0.1 14) (u_0.1 15) (u_0.1 16) (u_0.1 17) (u_0.1 20) (u_0.1 24) (u_0.1 29) g_12529 sz) wm_5_141 wm_5_144 wm_1_1 hd_X11_lists wm_5_142 wm_5_143 (ci := 11) (q0 := 0) rfl rfl ⟨Nat.le_of_ble_eq_true rfl, Nat.le_of_ble_eq_true rfl⟩ hl.1 rfl (Nat.le_of_ble_eq_true rfl) dL_law_1365 ⟨Nat.le_of_ble_eq_true rfl, Nat.le_of_ble_eq_true rfl⟩ [0] [78] rfl rfl (by decide) rfl rfl (fun r_12530 u_12530 Hp1 lc1 w_12530 hw1 => ?_)
    clear h
    obtain rfl : r_12530 = (-2) := w_12530
    replace hw1 : qW D _ _ [(y0, .inr (12, [.int 0, .ref (u_1.1 19), .ref (u_1.1 0), .ref (u_1.1 1), .ref (u_1.1 2), .int 0, .int 0, .int 0, .int 0, .int 0, .int 0, .int 0, .int 0, .int 0, .int (-1), .int 0, .ref (u_1.1 3), .ref (u_1.1 4), .ref (u_1.1 5), .ref (u_1.1 6), .ref (u_1.1 7), .int 0, .int 0, .ref (u_1.1 8), .ref (u_1.1 9), .ref (u_1.1 10), .int 0, .int 0, .ref (u_1.1 11), .ref (u_1.1 12), .ref (u_1.1 13), .ref (u_1.1 14), .ref (u_1.1 15), .int 0, .ref (u_1.1 16), .ref (u_1.1 17), .ref (u_1.1 18)]))] _ _ := hw1
    refine lv_aload_n hx hb dL_law_1368 rfl (lv_at hl 1 rfl) ?_
    refine lv_aload_n hx hb dL_law_1369 rfl (lv_at hl 3 rfl) ?_
    refine lv_iload_n hx hb dL_law_1370 rfl (lv_at hl 0 rfl) ?_
    refine lv_iconst (v := 1) hx hb dL_law_1371 (by decide) ?_
    refine lv_iadd hx hb dL_law_1372 ?_
    refine q_c 1 (by decide +kernel) ?_
    refine va_sld X.1 X.2.1 hX hbl hbA hw1.2.2 (q_in (by decide +kernel)) dL_law_1373 ?_
    refine q_c a1 e1 ?_
    refine lv_aload_n hx hb dL_law_1374 rfl (lv_at hl 3 rfl) ?_
    refine lv_iload_n hx hb dL_law_1375 rfl (lv_at hl 0 rfl) ?_
    refine lv_iconst (v := 2) hx hb dL_law_1376 (by decide) ?_
    refine lv_iadd hx hb dL_law_1377 ?_
    refine q_c 2 (by decide +kernel) ?_
    refine va_sld X.1 X.2.1 hX hbl hbA hw1.2.2 (q_in (by decide +kernel)) dL_law_1378 ?_
    refine q_c a2 e2 ?_
    refine lv_aload_n hx hb dL_law_1379 rfl (lv_at hl 3 rfl) ?_
    refine lv_iload_n hx hb dL_law_1380 rfl (lv_at hl 0 rfl) ?_
    refine lv_iconst (v := 3) hx hb dL_law_1381 (by decide) ?_
    refine lv_iadd hx hb dL_law_1382 ?_
    refine q_c 3 (by decide +kernel) ?_
    refine va_sld X.1 X.2.1 hX hbl hbA hw1.2.2 (q_in (by decide +kernel)) dL_law_1383 ?_
    refine q_c a3 e3 ?_
    have g_12534 : a1 ≤ ((-1) : Int32) := by
      simp only [Int32.lt_iff_toInt_lt, Int32.le_iff_toInt_le, ← Int32.toInt_inj] at c_12507 ⊢
      have k_0 : ((-1) : Int32).toInt = -1 := by decide
      omega
    refine q_callVi (rest := [.int (-2)]) (wr := []) X hK hA hw1 (fun sz => kX12_lists_496 l D cy y0 a1 a2 a3 (u_1.1 19) (u_1.1 0) (u_1.1 1) (u_1.1 2) (u_1.1 3) (u_1.1 4) (u_1.1 5) (u_1.1 6) (u_1.1 7) (u_1.1 8) (u_1.1 9) (u_1.1 10) (u_1.1 11) (u_1.1 12) (u_1.1 13) (u_1.1 14) (u_1.1 15) (u_1.1 16) (u_1.1 17) (u_1.1 18) g_12534 sz) wm_8_39 wm_8_42 wm_1_12 hd_X12_lists wm_8_40 wm_8_41 (ci := 12) (q0 := 0) rfl rfl ⟨Nat.le_of_ble_eq_true rfl, Nat.le_of_ble_eq_true rfl⟩ hl.1 rfl (Nat.le_of_ble_eq_true rfl) dL_law_1384 ⟨Nat.le_of_ble_eq_true rfl, Nat.le_of_ble_eq_true rfl⟩ [0] [] rfl rfl (by decide) rfl rfl (fun r_12535 u_12535 Hp2 lc2 w_12535 hw2 => ?_)
    clear Hp1 lc1 hw1
    obtain rfl : r_12535 = (-2) := w_12535
    replace hw2 : qW D _ _ [] _ _ := hw2
    refine lv_icmp_eq (tgt := 1461) hx hb dL_law_1387 (by decide) (fun _ => ?_) (fun c => absurd c (by decide +kernel))
    exact law_tail l X hr hlk hX hbl hw2.2.2 hl (Nat.le_of_ble_eq_true rfl) (Nat.le_of_ble_eq_true rfl)
  by_cases c_12536 : a1 = 0
  · subst c_12536
    refine lv_aload_n hx hb dL_law_1349 rfl (lv_at hl 2 rfl) ?_
    refine lv_aload_n hx hb dL_law_1350 rfl (lv_at hl 3 rfl) ?_
    refine lv_iload_n hx hb dL_law_1351 rfl (lv_at hl 0 rfl) ?_
    refine lv_iconst (v := 1) hx hb dL_law_1352 (by decide) ?_
    refine lv_iadd hx hb dL_law_1353 ?_
    refine q_c 1 (by decide +kernel) ?_
    refine va_sld X.1 X.2.1 hX hbl hbA hw2.2.2 (q_in (by decide +kernel)) dL_law_1354 ?_
    refine q_c 0 e1 ?_
    refine lv_aload_n hx hb dL_law_1355 rfl (lv_at hl 3 rfl) ?_
    refine lv_iload_n hx hb dL_law_1356 rfl (lv_at hl 0 rfl) ?_
    refine lv_iconst (v := 2) hx hb dL_law_1357 (by decide) ?_
    refine lv_iadd hx hb dL_law_1358 ?_
    refine q_c 2 (by decide +kernel) ?_
    refine va_sld X.1 X.2.1 hX hbl hbA hw2.2.2 (q_in (by decide +kernel)) dL_law_1359 ?_
    refine q_c a2 e2 ?_
    refine lv_aload_n hx hb dL_law_1360 rfl (lv_at hl 3 rfl) ?_
    refine lv_iload_n hx hb dL_law_1361 rfl (lv_at hl 0 rfl) ?_
    refine lv_iconst (v := 3) hx hb dL_law_1362 (by decide) ?_
    refine lv_iadd hx hb dL_law_1363 ?_
    refine q_c 3 (by decide +kernel) ?_
    refine va_sld X.1 X.2.1 hX hbl hbA hw2.2.2 (q_in (by decide +kernel)) dL_law_1364 ?_
    refine q_c a3 e3 ?_
    refine q_callVi (rest := []) (wr := [(y0, .inr (12, [.int 0, .ref (u_1.1 19), .ref (u_1.1 0), .ref (u_1.1 1), .ref (u_1.1 2), .int 0, .int 0, .int 0, .int 0, .int 0, .int 0, .int 0, .int 0, .int 0, .int (-1), .int 0, .ref (u_1.1 3), .ref (u_1.1 4), .ref (u_1.1 5), .ref (u_1.1 6), .ref (u_1.1 7), .int 0, .int 0, .ref (u_1.1 8), .ref (u_1.1 9), .ref (u_1.1 10), .int 0, .int 0, .ref (u_1.1 11), .ref (u_1.1 12), .ref (u_1.1 13), .ref (u_1.1 14), .ref (u_1.1 15), .int 0, .ref (u_1.1 16), .ref (u_1.1 17), .ref (u_1.1 18)])), ((u_1.1 19), .inl (cy 1, 3918, .inl (upd (fun _ => 0) (Int32.toNatClampNeg 1) 1)))]) X hK hA hw2 (fun sz => kX11_lists_499 l D cy x0 (u_0.1 31) (u_0.1 37) a2 a3 (u_0.1 0) (u_0.1 1) (u_0.1 39) (u_0.1 41) (u_0.1 43) (u_0.1 14) (u_0.1 15) (u_0.1 16) (u_0.1 17) (u_0.1 20) (u_0.1 24) (u_0.1 29) (u_0.1 32) (u_0.1 33) (u_0.1 34) (u_0.1 35) (u_0.1 36) (u_0.1 38)  sz) wm_5_141 wm_5_144 wm_1_1 hd_X11_lists wm_5_142 wm_5_143 (ci := 11) (q0 := 0) rfl rfl ⟨Nat.le_of_ble_eq_true rfl, Nat.le_of_ble_eq_true rfl⟩ hl.1 rfl (Nat.le_of_ble_eq_true rfl) dL_law_1365 ⟨Nat.le_of_ble_eq_true rfl, Nat.le_of_ble_eq_true rfl⟩ [0, 32, 38] [78, 98] rfl rfl (by decide) rfl rfl (fun r_12585 u_12585 Hp3 lc3 w_12585 hw3 => ?_)
    clear Hp2 lc2 hw2
    obtain rfl : r_12585 = (-2) := w_12585
    replace hw3 : qW D _ _ [(y0, .inr (12, [.int 0, .ref (u_1.1 19), .ref (u_1.1 0), .ref (u_1.1 1), .ref (u_1.1 2), .int 0, .int 0, .int 0, .int 0, .int 0, .int 0, .int 0, .int 0, .int 0, .int (-1), .int 0, .ref (u_1.1 3), .ref (u_1.1 4), .ref (u_1.1 5), .ref (u_1.1 6), .ref (u_1.1 7), .int 0, .int 0, .ref (u_1.1 8), .ref (u_1.1 9), .ref (u_1.1 10), .int 0, .int 0, .ref (u_1.1 11), .ref (u_1.1 12), .ref (u_1.1 13), .ref (u_1.1 14), .ref (u_1.1 15), .int 0, .ref (u_1.1 16), .ref (u_1.1 17), .ref (u_1.1 18)])), ((u_1.1 19), .inl (cy 1, 3918, .inl (upd (fun _ => 0) (Int32.toNatClampNeg 1) 1)))] _ _ := hw3
    refine lv_aload_n hx hb dL_law_1368 rfl (lv_at hl 1 rfl) ?_
    refine lv_aload_n hx hb dL_law_1369 rfl (lv_at hl 3 rfl) ?_
    refine lv_iload_n hx hb dL_law_1370 rfl (lv_at hl 0 rfl) ?_
    refine lv_iconst (v := 1) hx hb dL_law_1371 (by decide) ?_
    refine lv_iadd hx hb dL_law_1372 ?_
    refine q_c 1 (by decide +kernel) ?_
    refine va_sld X.1 X.2.1 hX hbl hbA hw3.2.2 (q_in (by decide +kernel)) dL_law_1373 ?_
    refine q_c 0 e1 ?_
    refine lv_aload_n hx hb dL_law_1374 rfl (lv_at hl 3 rfl) ?_
    refine lv_iload_n hx hb dL_law_1375 rfl (lv_at hl 0 rfl) ?_
    refine lv_iconst (v := 2) hx hb dL_law_1376 (by decide) ?_
    refine lv_iadd hx hb dL_law_1377 ?_
    refine q_c 2 (by decide +kernel) ?_
    refine va_sld X.1 X.2.1 hX hbl hbA hw3.2.2 (q_in (by decide +kernel)) dL_law_1378 ?_
    refine q_c a2 e2 ?_
    refine lv_aload_n hx hb dL_law_1379 rfl (lv_at hl 3 rfl) ?_
    refine lv_iload_n hx hb dL_law_1380 rfl (lv_at hl 0 rfl) ?_
    refine lv_iconst (v := 3) hx hb dL_law_1381 (by decide) ?_
    refine lv_iadd hx hb dL_law_1382 ?_
    refine q_c 3 (by decide +kernel) ?_
    refine va_sld X.1 X.2.1 hX hbl hbA hw3.2.2 (q_in (by decide +kernel)) dL_law_1383 ?_
    refine q_c a3 e3 ?_
    refine q_callVi (rest := [.int (-2)]) (wr := []) X hK hA hw3 (fun sz => kX12_lists_500 l D cy y0 (u_1.1 19) a2 a3 (u_1.1 0) (u_1.1 1) (u_1.1 2) (u_1.1 3) (u_1.1 4) (u_1.1 5) (u_1.1 6) (u_1.1 7) (u_1.1 8) (u_1.1 9) (u_1.1 10) (u_1.1 11) (u_1.1 12) (u_1.1 13) (u_1.1 14) (u_1.1 15) (u_1.1 16) (u_1.1 17) (u_1.1 18) (upd (fun _ => 0) (Int32.toNatClampNeg 1) 1) (q_un (by decide +kernel) rfl) sz) wm_8_39 wm_8_42 wm_1_12 hd_X12_lists wm_8_40 wm_8_41 (ci := 12) (q0 := 0) rfl rfl ⟨Nat.le_of_ble_eq_true rfl, Nat.le_of_ble_eq_true rfl⟩ hl.1 rfl (Nat.le_of_ble_eq_true rfl) dL_law_1384 ⟨Nat.le_of_ble_eq_true rfl, Nat.le_of_ble_eq_true rfl⟩ [0, 1] [] rfl rfl (by decide) rfl rfl (fun r_12592 u_12592 Hp4 lc4 w_12592 hw4 => ?_)
    clear Hp3 lc3 hw3
    obtain rfl : r_12592 = (-2) := w_12592
    replace hw4 : qW D _ _ [] _ _ := hw4
    refine lv_icmp_eq (tgt := 1461) hx hb dL_law_1387 (by decide) (fun _ => ?_) (fun c => absurd c (by decide +kernel))
    exact law_tail l X hr hlk hX hbl hw4.2.2 hl (Nat.le_of_ble_eq_true rfl) (Nat.le_of_ble_eq_true rfl)
  by_cases c_12593 : a1 = 1
  · subst c_12593
    refine lv_aload_n hx hb dL_law_1349 rfl (lv_at hl 2 rfl) ?_
    refine lv_aload_n hx hb dL_law_1350 rfl (lv_at hl 3 rfl) ?_
    refine lv_iload_n hx hb dL_law_1351 rfl (lv_at hl 0 rfl) ?_
    refine lv_iconst (v := 1) hx hb dL_law_1352 (by decide) ?_
    refine lv_iadd hx hb dL_law_1353 ?_
    refine q_c 1 (by decide +kernel) ?_
    refine va_sld X.1 X.2.1 hX hbl hbA hw4.2.2 (q_in (by decide +kernel)) dL_law_1354 ?_
    refine q_c 1 e1 ?_
    refine lv_aload_n hx hb dL_law_1355 rfl (lv_at hl 3 rfl) ?_
    refine lv_iload_n hx hb dL_law_1356 rfl (lv_at hl 0 rfl) ?_
    refine lv_iconst (v := 2) hx hb dL_law_1357 (by decide) ?_
    refine lv_iadd hx hb dL_law_1358 ?_
    refine q_c 2 (by decide +kernel) ?_
    refine va_sld X.1 X.2.1 hX hbl hbA hw4.2.2 (q_in (by decide +kernel)) dL_law_1359 ?_
    refine q_c a2 e2 ?_
    refine lv_aload_n hx hb dL_law_1360 rfl (lv_at hl 3 rfl) ?_
    refine lv_iload_n hx hb dL_law_1361 rfl (lv_at hl 0 rfl) ?_
    refine lv_iconst (v := 3) hx hb dL_law_1362 (by decide) ?_
    refine lv_iadd hx hb dL_law_1363 ?_
    refine q_c 3 (by decide +kernel) ?_
    refine va_sld X.1 X.2.1 hX hbl hbA hw4.2.2 (q_in (by decide +kernel)) dL_law_1364 ?_
    refine q_c a3 e3 ?_
    refine q_callVi (rest := []) (wr := [(y0, .inr (12, [.int 0, .ref (u_1.1 19), .ref (u_1.1 0), .ref (u_1.1 1), .ref (u_1.1 2), .int 0, .int 0, .int 0, .int 0, .int 0, .int 0, .int 0, .int 0, .int 0, .int (-1), .int 0, .ref (u_1.1 3), .ref (u_1.1 4), .ref (u_1.1 5), .ref (u_1.1 6), .ref (u_1.1 7), .int 0, .int 0, .ref (u_1.1 8), .ref (u_1.1 9), .ref (u_1.1 10), .int 0, .int 0, .ref (u_1.1 11), .ref (u_1.1 12), .ref (u_1.1 13), .ref (u_1.1 14), .ref (u_1.1 15), .int 0, .ref (u_1.1 16), .ref (u_1.1 17), .ref (u_1.1 18)])), ((u_1.1 19), .inl (cy 1, 3918, .inl (upd (fun _ => 0) (Int32.toNatClampNeg 1) 1)))]) X hK hA hw4 (fun sz => kX11_lists_501 l D cy x0 (u_0.1 31) (u_0.1 37) a2 a3 (u_0.1 0) (u_0.1 1) (u_0.1 39) (u_0.1 41) (u_0.1 43) (u_0.1 14) (u_0.1 15) (u_0.1 16) (u_0.1 17) (u_0.1 20) (u_0.1 24) (u_0.1 29) (u_0.1 32) (u_0.1 33) (u_0.1 34) (u_0.1 35) (u_0.1 36) (u_0.1 38)  sz) wm_5_141 wm_5_144 wm_1_1 hd_X11_lists wm_5_142 wm_5_143 (ci := 11) (q0 := 0) rfl rfl ⟨Nat.le_of_ble_eq_true rfl, Nat.le_of_ble_eq_true rfl⟩ hl.1 rfl (Nat.le_of_ble_eq_true rfl) dL_law_1365 ⟨Nat.le_of_ble_eq_true rfl, Nat.le_of_ble_eq_true rfl⟩ [0, 32, 38] [78, 98] rfl rfl (by decide) rfl rfl (fun r_12632 u_12632 Hp5 lc5 w_12632 hw5 => ?_)
    clear Hp4 lc4 hw4
    obtain rfl : r_12632 = (-2) := w_12632
    replace hw5 : qW D _ _ [(y0, .inr (12, [.int 0, .ref (u_1.1 19), .ref (u_1.1 0), .ref (u_1.1 1), .ref (u_1.1 2), .int 0, .int 0, .int 0, .int 0, .int 0, .int 0, .int 0, .int 0, .int 0, .int (-1), .int 0, .ref (u_1.1 3), .ref (u_1.1 4), .ref (u_1.1 5), .ref (u_1.1 6), .ref (u_1.1 7), .int 0, .int 0, .ref (u_1.1 8), .ref (u_1.1 9), .ref (u_1.1 10), .int 0, .int 0, .ref (u_1.1 11), .ref (u_1.1 12), .ref (u_1.1 13), .ref (u_1.1 14), .ref (u_1.1 15), .int 0, .ref (u_1.1 16), .ref (u_1.1 17), .ref (u_1.1 18)])), ((u_1.1 19), .inl (cy 1, 3918, .inl (upd (fun _ => 0) (Int32.toNatClampNeg 1) 1)))] _ _ := hw5
    refine lv_aload_n hx hb dL_law_1368 rfl (lv_at hl 1 rfl) ?_
    refine lv_aload_n hx hb dL_law_1369 rfl (lv_at hl 3 rfl) ?_
    refine lv_iload_n hx hb dL_law_1370 rfl (lv_at hl 0 rfl) ?_
    refine lv_iconst (v := 1) hx hb dL_law_1371 (by decide) ?_
    refine lv_iadd hx hb dL_law_1372 ?_
    refine q_c 1 (by decide +kernel) ?_
    refine va_sld X.1 X.2.1 hX hbl hbA hw5.2.2 (q_in (by decide +kernel)) dL_law_1373 ?_
    refine q_c 1 e1 ?_
    refine lv_aload_n hx hb dL_law_1374 rfl (lv_at hl 3 rfl) ?_
    refine lv_iload_n hx hb dL_law_1375 rfl (lv_at hl 0 rfl) ?_
    refine lv_iconst (v := 2) hx hb dL_law_1376 (by decide) ?_
    refine lv_iadd hx hb dL_law_1377 ?_
    refine q_c 2 (by decide +kernel) ?_
    refine va_sld X.1 X.2.1 hX hbl hbA hw5.2.2 (q_in (by decide +kernel)) dL_law_1378 ?_
    refine q_c a2 e2 ?_
    refine lv_aload_n hx hb dL_law_1379 rfl (lv_at hl 3 rfl) ?_
    refine lv_iload_n hx hb dL_law_1380 rfl (lv_at hl 0 rfl) ?_
    refine lv_iconst (v := 3) hx hb dL_law_1381 (by decide) ?_
    refine lv_iadd hx hb dL_law_1382 ?_
    refine q_c 3 (by decide +kernel) ?_
    refine va_sld X.1 X.2.1 hX hbl hbA hw5.2.2 (q_in (by decide +kernel)) dL_law_1383 ?_
    refine q_c a3 e3 ?_
    refine q_callVi (rest := [.int (-2)]) (wr := []) X hK hA hw5 (fun sz => kX12_lists_502 l D cy y0 (u_1.1 19) a2 a3 (u_1.1 0) (u_1.1 1) (u_1.1 2) (u_1.1 3) (u_1.1 4) (u_1.1 5) (u_1.1 6) (u_1.1 7) (u_1.1 8) (u_1.1 9) (u_1.1 10) (u_1.1 11) (u_1.1 12) (u_1.1 13) (u_1.1 14) (u_1.1 15) (u_1.1 16) (u_1.1 17) (u_1.1 18) (upd (fun _ => 0) (Int32.toNatClampNeg 1) 1) (q_un (by decide +kernel) rfl) sz) wm_8_39 wm_8_42 wm_1_12 hd_X12_lists wm_8_40 wm_8_41 (ci := 12) (q0 := 0) rfl rfl ⟨Nat.le_of_ble_eq_true rfl, Nat.le_of_ble_eq_true rfl⟩ hl.1 rfl (Nat.le_of_ble_eq_true rfl) dL_law_1384 ⟨Nat.le_of_ble_eq_true rfl, Nat.le_of_ble_eq_true rfl⟩ [0, 1] [] rfl rfl (by decide) rfl rfl (fun r_12639 u_12639 Hp6 lc6 w_12639 hw6 => ?_)
    clear Hp5 lc5 hw5
    obtain rfl : r_12639 = (-2) := w_12639
    replace hw6 : qW D _ _ [] _ _ := hw6
    refine lv_icmp_eq (tgt := 1461) hx hb dL_law_1387 (by decide) (fun _ => ?_) (fun c => absurd c (by decide +kernel))
    exact law_tail l X hr hlk hX hbl hw6.2.2 hl (Nat.le_of_ble_eq_true rfl) (Nat.le_of_ble_eq_true rfl)
  by_cases c_12640 : a1 = 2
  · subst c_12640
    refine lv_aload_n hx hb dL_law_1349 rfl (lv_at hl 2 rfl) ?_
    refine lv_aload_n hx hb dL_law_1350 rfl (lv_at hl 3 rfl) ?_
    refine lv_iload_n hx hb dL_law_1351 rfl (lv_at hl 0 rfl) ?_
    refine lv_iconst (v := 1) hx hb dL_law_1352 (by decide) ?_
    refine lv_iadd hx hb dL_law_1353 ?_
    refine q_c 1 (by decide +kernel) ?_
    refine va_sld X.1 X.2.1 hX hbl hbA hw6.2.2 (q_in (by decide +kernel)) dL_law_1354 ?_
    refine q_c 2 e1 ?_
    refine lv_aload_n hx hb dL_law_1355 rfl (lv_at hl 3 rfl) ?_
    refine lv_iload_n hx hb dL_law_1356 rfl (lv_at hl 0 rfl) ?_
    refine lv_iconst (v := 2) hx hb dL_law_1357 (by decide) ?_
    refine lv_iadd hx hb dL_law_1358 ?_
    refine q_c 2 (by decide +kernel) ?_
    refine va_sld X.1 X.2.1 hX hbl hbA hw6.2.2 (q_in (by decide +kernel)) dL_law_1359 ?_
    refine q_c a2 e2 ?_
    refine lv_aload_n hx hb dL_law_1360 rfl (lv_at hl 3 rfl) ?_
    refine lv_iload_n hx hb dL_law_1361 rfl (lv_at hl 0 rfl) ?_
    refine lv_iconst (v := 3) hx hb dL_law_1362 (by decide) ?_
    refine lv_iadd hx hb dL_law_1363 ?_
    refine q_c 3 (by decide +kernel) ?_
    refine va_sld X.1 X.2.1 hX hbl hbA hw6.2.2 (q_in (by decide +kernel)) dL_law_1364 ?_
    refine q_c a3 e3 ?_
    refine q_callVi (rest := []) (wr := [(y0, .inr (12, [.int 0, .ref (u_1.1 19), .ref (u_1.1 0), .ref (u_1.1 1), .ref (u_1.1 2), .int 0, .int 0, .int 0, .int 0, .int 0, .int 0, .int 0, .int 0, .int 0, .int (-1), .int 0, .ref (u_1.1 3), .ref (u_1.1 4), .ref (u_1.1 5), .ref (u_1.1 6), .ref (u_1.1 7), .int 0, .int 0, .ref (u_1.1 8), .ref (u_1.1 9), .ref (u_1.1 10), .int 0, .int 0, .ref (u_1.1 11), .ref (u_1.1 12), .ref (u_1.1 13), .ref (u_1.1 14), .ref (u_1.1 15), .int 0, .ref (u_1.1 16), .ref (u_1.1 17), .ref (u_1.1 18)])), ((u_1.1 19), .inl (cy 1, 3918, .inl (upd (fun _ => 0) (Int32.toNatClampNeg 1) 1)))]) X hK hA hw6 (fun sz => kX11_lists_503 l D cy x0 (u_0.1 31) (u_0.1 37) a2 a3 (u_0.1 0) (u_0.1 1) (u_0.1 39) (u_0.1 41) (u_0.1 43) (u_0.1 14) (u_0.1 15) (u_0.1 16) (u_0.1 17) (u_0.1 20) (u_0.1 24) (u_0.1 29) (u_0.1 32) (u_0.1 33) (u_0.1 34) (u_0.1 35) (u_0.1 36) (u_0.1 38)  sz) wm_5_141 wm_5_144 wm_1_1 hd_X11_lists wm_5_142 wm_5_143 (ci := 11) (q0 := 0) rfl rfl ⟨Nat.le_of_ble_eq_true rfl, Nat.le_of_ble_eq_true rfl⟩ hl.1 rfl (Nat.le_of_ble_eq_true rfl) dL_law_1365 ⟨Nat.le_of_ble_eq_true rfl, Nat.le_of_ble_eq_true rfl⟩ [0, 32, 38] [78, 98] rfl rfl (by decide) rfl rfl (fun r_12679 u_12679 Hp7 lc7 w_12679 hw7 => ?_)
    clear Hp6 lc6 hw6
    obtain rfl : r_12679 = (-2) := w_12679
    replace hw7 : qW D _ _ [(y0, .inr (12, [.int 0, .ref (u_1.1 19), .ref (u_1.1 0), .ref (u_1.1 1), .ref (u_1.1 2), .int 0, .int 0, .int 0, .int 0, .int 0, .int 0, .int 0, .int 0, .int 0, .int (-1), .int 0, .ref (u_1.1 3), .ref (u_1.1 4), .ref (u_1.1 5), .ref (u_1.1 6), .ref (u_1.1 7), .int 0, .int 0, .ref (u_1.1 8), .ref (u_1.1 9), .ref (u_1.1 10), .int 0, .int 0, .ref (u_1.1 11), .ref (u_1.1 12), .ref (u_1.1 13), .ref (u_1.1 14), .ref (u_1.1 15), .int 0, .ref (u_1.1 16), .ref (u_1.1 17), .ref (u_1.1 18)])), ((u_1.1 19), .inl (cy 1, 3918, .inl (upd (fun _ => 0) (Int32.toNatClampNeg 1) 1)))] _ _ := hw7
    refine lv_aload_n hx hb dL_law_1368 rfl (lv_at hl 1 rfl) ?_
    refine lv_aload_n hx hb dL_law_1369 rfl (lv_at hl 3 rfl) ?_
    refine lv_iload_n hx hb dL_law_1370 rfl (lv_at hl 0 rfl) ?_
    refine lv_iconst (v := 1) hx hb dL_law_1371 (by decide) ?_
    refine lv_iadd hx hb dL_law_1372 ?_
    refine q_c 1 (by decide +kernel) ?_
    refine va_sld X.1 X.2.1 hX hbl hbA hw7.2.2 (q_in (by decide +kernel)) dL_law_1373 ?_
    refine q_c 2 e1 ?_
    refine lv_aload_n hx hb dL_law_1374 rfl (lv_at hl 3 rfl) ?_
    refine lv_iload_n hx hb dL_law_1375 rfl (lv_at hl 0 rfl) ?_
    refine lv_iconst (v := 2) hx hb dL_law_1376 (by decide) ?_
    refine lv_iadd hx hb dL_law_1377 ?_
    refine q_c 2 (by decide +kernel) ?_
    refine va_sld X.1 X.2.1 hX hbl hbA hw7.2.2 (q_in (by decide +kernel)) dL_law_1378 ?_
    refine q_c a2 e2 ?_
    refine lv_aload_n hx hb dL_law_1379 rfl (lv_at hl 3 rfl) ?_
    refine lv_iload_n hx hb dL_law_1380 rfl (lv_at hl 0 rfl) ?_
    refine lv_iconst (v := 3) hx hb dL_law_1381 (by decide) ?_
    refine lv_iadd hx hb dL_law_1382 ?_
    refine q_c 3 (by decide +kernel) ?_
    refine va_sld X.1 X.2.1 hX hbl hbA hw7.2.2 (q_in (by decide +kernel)) dL_law_1383 ?_
    refine q_c a3 e3 ?_
    refine q_callVi (rest := [.int (-2)]) (wr := []) X hK hA hw7 (fun sz => kX12_lists_504 l D cy y0 (u_1.1 19) a2 a3 (u_1.1 0) (u_1.1 1) (u_1.1 2) (u_1.1 3) (u_1.1 4) (u_1.1 5) (u_1.1 6) (u_1.1 7) (u_1.1 8) (u_1.1 9) (u_1.1 10) (u_1.1 11) (u_1.1 12) (u_1.1 13) (u_1.1 14) (u_1.1 15) (u_1.1 16) (u_1.1 17) (u_1.1 18) (upd (fun _ => 0) (Int32.toNatClampNeg 1) 1) (q_un (by decide +kernel) rfl) sz) wm_8_39 wm_8_42 wm_1_12 hd_X12_lists wm_8_40 wm_8_41 (ci := 12) (q0 := 0) rfl rfl ⟨Nat.le_of_ble_eq_true rfl, Nat.le_of_ble_eq_true rfl⟩ hl.1 rfl (Nat.le_of_ble_eq_true rfl) dL_law_1384 ⟨Nat.le_of_ble_eq_true rfl, Nat.le_of_ble_eq_true rfl⟩ [0, 1] [] rfl rfl (by decide) rfl rfl (fun r_12686 u_12686 Hp8 lc8 w_12686 hw8 => ?_)
    clear Hp7 lc7 hw7
    obtain rfl : r_12686 = (-2) := w_12686
    replace hw8 : qW D _ _ [] _ _ := hw8
    refine lv_icmp_eq (tgt := 1461) hx hb dL_law_1387 (by decide) (fun _ => ?_) (fun c => absurd c (by decide +kernel))
    exact law_tail l X hr hlk hX hbl hw8.2.2 hl (Nat.le_of_ble_eq_true rfl) (Nat.le_of_ble_eq_true rfl)
  by_cases c_12687 : a1 = 3
  · subst c_12687
    refine lv_aload_n hx hb dL_law_1349 rfl (lv_at hl 2 rfl) ?_
    refine lv_aload_n hx hb dL_law_1350 rfl (lv_at hl 3 rfl) ?_
    refine lv_iload_n hx hb dL_law_1351 rfl (lv_at hl 0 rfl) ?_
    refine lv_iconst (v := 1) hx hb dL_law_1352 (by decide) ?_
    refine lv_iadd hx hb dL_law_1353 ?_
    refine q_c 1 (by decide +kernel) ?_
    refine va_sld X.1 X.2.1 hX hbl hbA hw8.2.2 (q_in (by decide +kernel)) dL_law_1354 ?_
    refine q_c 3 e1 ?_
    refine lv_aload_n hx hb dL_law_1355 rfl (lv_at hl 3 rfl) ?_
    refine lv_iload_n hx hb dL_law_1356 rfl (lv_at hl 0 rfl) ?_
    refine lv_iconst (v := 2) hx hb dL_law_1357 (by decide) ?_
    refine lv_iadd hx hb dL_law_1358 ?_
    refine q_c 2 (by decide +kernel) ?_
    refine va_sld X.1 X.2.1 hX hbl hbA hw8.2.2 (q_in (by decide +kernel)) dL_law_1359 ?_
    refine q_c a2 e2 ?_
    refine lv_aload_n hx hb dL_law_1360 rfl (lv_at hl 3 rfl) ?_
    refine lv_iload_n hx hb dL_law_1361 rfl (lv_at hl 0 rfl) ?_
    refine lv_iconst (v := 3) hx hb dL_law_1362 (by decide) ?_
    refine lv_iadd hx hb dL_law_1363 ?_
    refine q_c 3 (by decide +kernel) ?_
    refine va_sld X.1 X.2.1 hX hbl hbA hw8.2.2 (q_in (by decide +kernel)) dL_law_1364 ?_
    refine q_c a3 e3 ?_
    refine q_callVi (rest := []) (wr := [(y0, .inr (12, [.int 0, .ref (u_1.1 19), .ref (u_1.1 0), .ref (u_1.1 1), .ref (u_1.1 2), .int 0, .int 0, .int 0, .int 0, .int 0, .int 0, .int 0, .int 0, .int 0, .int (-1), .int 0, .ref (u_1.1 3), .ref (u_1.1 4), .ref (u_1.1 5), .ref (u_1.1 6), .ref (u_1.1 7), .int 0, .int 0, .ref (u_1.1 8), .ref (u_1.1 9), .ref (u_1.1 10), .int 0, .int 0, .ref (u_1.1 11), .ref (u_1.1 12), .ref (u_1.1 13), .ref (u_1.1 14), .ref (u_1.1 15), .int 0, .ref (u_1.1 16), .ref (u_1.1 17), .ref (u_1.1 18)])), ((u_1.1 19), .inl (cy 1, 3918, .inl (upd (fun _ => 0) (Int32.toNatClampNeg 1) 1)))]) X hK hA hw8 (fun sz => kX11_lists_505 l D cy x0 (u_0.1 31) (u_0.1 37) a2 a3 (u_0.1 0) (u_0.1 1) (u_0.1 39) (u_0.1 41) (u_0.1 43) (u_0.1 14) (u_0.1 15) (u_0.1 16) (u_0.1 17) (u_0.1 20) (u_0.1 24) (u_0.1 29) (u_0.1 32) (u_0.1 33) (u_0.1 34) (u_0.1 35) (u_0.1 36) (u_0.1 38)  sz) wm_5_141 wm_5_144 wm_1_1 hd_X11_lists wm_5_142 wm_5_143 (ci := 11) (q0 := 0) rfl rfl ⟨Nat.le_of_ble_eq_true rfl, Nat.le_of_ble_eq_true rfl⟩ hl.1 rfl (Nat.le_of_ble_eq_true rfl) dL_law_1365 ⟨Nat.le_of_ble_eq_true rfl, Nat.le_of_ble_eq_true rfl⟩ [0, 32, 38] [78, 98] rfl rfl (by decide) rfl rfl (fun r_12726 u_12726 Hp9 lc9 w_12726 hw9 => ?_)
    clear Hp8 lc8 hw8
    obtain rfl : r_12726 = (-2) := w_12726
    replace hw9 : qW D _ _ [(y0, .inr (12, [.int 0, .ref (u_1.1 19), .ref (u_1.1 0), .ref (u_1.1 1), .ref (u_1.1 2), .int 0, .int 0, .int 0, .int 0, .int 0, .int 0, .int 0, .int 0, .int 0, .int (-1), .int 0, .ref (u_1.1 3), .ref (u_1.1 4), .ref (u_1.1 5), .ref (u_1.1 6), .ref (u_1.1 7), .int 0, .int 0, .ref (u_1.1 8), .ref (u_1.1 9), .ref (u_1.1 10), .int 0, .int 0, .ref (u_1.1 11), .ref (u_1.1 12), .ref (u_1.1 13), .ref (u_1.1 14), .ref (u_1.1 15), .int 0, .ref (u_1.1 16), .ref (u_1.1 17), .ref (u_1.1 18)])), ((u_1.1 19), .inl (cy 1, 3918, .inl (upd (fun _ => 0) (Int32.toNatClampNeg 1) 1)))] _ _ := hw9
    refine lv_aload_n hx hb dL_law_1368 rfl (lv_at hl 1 rfl) ?_
    refine lv_aload_n hx hb dL_law_1369 rfl (lv_at hl 3 rfl) ?_
    refine lv_iload_n hx hb dL_law_1370 rfl (lv_at hl 0 rfl) ?_
    refine lv_iconst (v := 1) hx hb dL_law_1371 (by decide) ?_
    refine lv_iadd hx hb dL_law_1372 ?_
    refine q_c 1 (by decide +kernel) ?_
    refine va_sld X.1 X.2.1 hX hbl hbA hw9.2.2 (q_in (by decide +kernel)) dL_law_1373 ?_
    refine q_c 3 e1 ?_
    refine lv_aload_n hx hb dL_law_1374 rfl (lv_at hl 3 rfl) ?_
    refine lv_iload_n hx hb dL_law_1375 rfl (lv_at hl 0 rfl) ?_
    refine lv_iconst (v := 2) hx hb dL_law_1376 (by decide) ?_
    refine lv_iadd hx hb dL_law_1377 ?_
    refine q_c 2 (by decide +kernel) ?_
    refine va_sld X.1 X.2.1 hX hbl hbA hw9.2.2 (q_in (by decide +kernel)) dL_law_1378 ?_
    refine q_c a2 e2 ?_
    refine lv_aload_n hx hb dL_law_1379 rfl (lv_at hl 3 rfl) ?_
    refine lv_iload_n hx hb dL_law_1380 rfl (lv_at hl 0 rfl) ?_
    refine lv_iconst (v := 3) hx hb dL_law_1381 (by decide) ?_
    refine lv_iadd hx hb dL_law_1382 ?_
    refine q_c 3 (by decide +kernel) ?_
    refine va_sld X.1 X.2.1 hX hbl hbA hw9.2.2 (q_in (by decide +kernel)) dL_law_1383 ?_
    refine q_c a3 e3 ?_
    refine q_callVi (rest := [.int (-2)]) (wr := []) X hK hA hw9 (fun sz => kX12_lists_506 l D cy y0 (u_1.1 19) a2 a3 (u_1.1 0) (u_1.1 1) (u_1.1 2) (u_1.1 3) (u_1.1 4) (u_1.1 5) (u_1.1 6) (u_1.1 7) (u_1.1 8) (u_1.1 9) (u_1.1 10) (u_1.1 11) (u_1.1 12) (u_1.1 13) (u_1.1 14) (u_1.1 15) (u_1.1 16) (u_1.1 17) (u_1.1 18) (upd (fun _ => 0) (Int32.toNatClampNeg 1) 1) (q_un (by decide +kernel) rfl) sz) wm_8_39 wm_8_42 wm_1_12 hd_X12_lists wm_8_40 wm_8_41 (ci := 12) (q0 := 0) rfl rfl ⟨Nat.le_of_ble_eq_true rfl, Nat.le_of_ble_eq_true rfl⟩ hl.1 rfl (Nat.le_of_ble_eq_true rfl) dL_law_1384 ⟨Nat.le_of_ble_eq_true rfl, Nat.le_of_ble_eq_true rfl⟩ [0, 1] [] rfl rfl (by decide) rfl rfl (fun r_12733 u_12733 Hp10 lc10 w_12733 hw10 => ?_)
    clear Hp9 lc9 hw9
    obtain rfl : r_12733 = (-2) := w_12733
    replace hw10 : qW D _ _ [] _ _ := hw10
    refine lv_icmp_eq (tgt := 1461) hx hb dL_law_1387 (by decide) (fun _ => ?_) (fun c => absurd c (by decide +kernel))
    exact law_tail l X hr hlk hX hbl hw10.2.2 hl (Nat.le_of_ble_eq_true rfl) (Nat.le_of_ble_eq_true rfl)
  refine lv_aload_n hx hb dL_law_1349 rfl (lv_at hl 2 rfl) ?_
  refine lv_aload_n hx hb dL_law_1350 rfl (lv_at hl 3 rfl) ?_
  refine lv_iload_n hx hb dL_law_1351 rfl (lv_at hl 0 rfl) ?_
  refine lv_iconst (v := 1) hx hb dL_law_1352 (by decide) ?_
  refine lv_iadd hx hb dL_law_1353 ?_
  refine q_c 1 (by decide +kernel) ?_
  refine va_sld X.1 X.2.1 hX hbl hbA hw10.2.2 (q_in (by decide +kernel)) dL_law_1354 ?_
  refine q_c a1 e1 ?_
  refine lv_aload_n hx hb dL_law_1355 rfl (lv_at hl 3 rfl) ?_
  refine lv_iload_n hx hb dL_law_1356 rfl (lv_at hl 0 rfl) ?_
  refine lv_iconst (v := 2) hx hb dL_law_1357 (by decide) ?_
  refine lv_iadd hx hb dL_law_1358 ?_
  refine q_c 2 (by decide +kernel) ?_
  refine va_sld X.1 X.2.1 hX hbl hbA hw10.2.2 (q_in (by decide +kernel)) dL_law_1359 ?_
  refine q_c a2 e2 ?_
  refine lv_aload_n hx hb dL_law_1360 rfl (lv_at hl 3 rfl) ?_
  refine lv_iload_n hx hb dL_law_1361 rfl (lv_at hl 0 rfl) ?_
  refine lv_iconst (v := 3) hx hb dL_law_1362 (by decide) ?_
  refine lv_iadd hx hb dL_law_1363 ?_
  refine q_c 3 (by decide +kernel) ?_
  refine va_sld X.1 X.2.1 hX hbl hbA hw10.2.2 (q_in (by decide +kernel)) dL_law_1364 ?_
  refine q_c a3 e3 ?_
  have g_12763 : (4 : Int32) ≤ a1 := by
    simp only [Int32.lt_iff_toInt_lt, Int32.le_iff_toInt_le, ← Int32.toInt_inj] at c_12507 c_12536 c_12593 c_12640 c_12687 ⊢
    have k_0 : ((-1) : Int32).toInt = -1 := by decide
    have k_1 : (0 : Int32).toInt = 0 := by decide
    have k_2 : (1 : Int32).toInt = 1 := by decide
    have k_3 : (2 : Int32).toInt = 2 := by decide
    have k_4 : (3 : Int32).toInt = 3 := by decide
    have k_g : (4 : Int32).toInt = 4 := by decide
    omega
  refine q_callVi (rest := []) (wr := [(y0, .inr (12, [.int 0, .ref (u_1.1 19), .ref (u_1.1 0), .ref (u_1.1 1), .ref (u_1.1 2), .int 0, .int 0, .int 0, .int 0, .int 0, .int 0, .int 0, .int 0, .int 0, .int (-1), .int 0, .ref (u_1.1 3), .ref (u_1.1 4), .ref (u_1.1 5), .ref (u_1.1 6), .ref (u_1.1 7), .int 0, .int 0, .ref (u_1.1 8), .ref (u_1.1 9), .ref (u_1.1 10), .int 0, .int 0, .ref (u_1.1 11), .ref (u_1.1 12), .ref (u_1.1 13), .ref (u_1.1 14), .ref (u_1.1 15), .int 0, .ref (u_1.1 16), .ref (u_1.1 17), .ref (u_1.1 18)]))]) X hK hA hw10 (fun sz => kX11_lists_507 l D cy x0 a1 a2 a3 (u_0.1 0) (u_0.1 1) (u_0.1 37) (u_0.1 39) (u_0.1 41) (u_0.1 43) (u_0.1 14) (u_0.1 15) (u_0.1 16) (u_0.1 17) (u_0.1 20) (u_0.1 24) (u_0.1 29) g_12763 sz) wm_5_141 wm_5_144 wm_1_1 hd_X11_lists wm_5_142 wm_5_143 (ci := 11) (q0 := 0) rfl rfl ⟨Nat.le_of_ble_eq_true rfl, Nat.le_of_ble_eq_true rfl⟩ hl.1 rfl (Nat.le_of_ble_eq_true rfl) dL_law_1365 ⟨Nat.le_of_ble_eq_true rfl, Nat.le_of_ble_eq_true rfl⟩ [0] [78] rfl rfl (by decide) rfl rfl (fun r_12764 u_12764 Hp11 lc11 w_12764 hw11 => ?_)
  clear Hp10 lc10 hw10
  obtain rfl : r_12764 = (-2) := w_12764
  replace hw11 : qW D _ _ [(y0, .inr (12, [.int 0, .ref (u_1.1 19), .ref (u_1.1 0), .ref (u_1.1 1), .ref (u_1.1 2), .int 0, .int 0, .int 0, .int 0, .int 0, .int 0, .int 0, .int 0, .int 0, .int (-1), .int 0, .ref (u_1.1 3), .ref (u_1.1 4), .ref (u_1.1 5), .ref (u_1.1 6), .ref (u_1.1 7), .int 0, .int 0, .ref (u_1.1 8), .ref (u_1.1 9), .ref (u_1.1 10), .int 0, .int 0, .ref (u_1.1 11), .ref (u_1.1 12), .ref (u_1.1 13), .ref (u_1.1 14), .ref (u_1.1 15), .int 0, .ref (u_1.1 16), .ref (u_1.1 17), .ref (u_1.1 18)]))] _ _ := hw11
  refine lv_aload_n hx hb dL_law_1368 rfl (lv_at hl 1 rfl) ?_
  refine lv_aload_n hx hb dL_law_1369 rfl (lv_at hl 3 rfl) ?_
  refine lv_iload_n hx hb dL_law_1370 rfl (lv_at hl 0 rfl) ?_
  refine lv_iconst (v := 1) hx hb dL_law_1371 (by decide) ?_
  refine lv_iadd hx hb dL_law_1372 ?_
  refine q_c 1 (by decide +kernel) ?_
  refine va_sld X.1 X.2.1 hX hbl hbA hw11.2.2 (q_in (by decide +kernel)) dL_law_1373 ?_
  refine q_c a1 e1 ?_
  refine lv_aload_n hx hb dL_law_1374 rfl (lv_at hl 3 rfl) ?_
  refine lv_iload_n hx hb dL_law_1375 rfl (lv_at hl 0 rfl) ?_
  refine lv_iconst (v := 2) hx hb dL_law_1376 (by decide) ?_
  refine lv_iadd hx hb dL_law_1377 ?_
  refine q_c 2 (by decide +kernel) ?_
  refine va_sld X.1 X.2.1 hX hbl hbA hw11.2.2 (q_in (by decide +kernel)) dL_law_1378 ?_
  refine q_c a2 e2 ?_
  refine lv_aload_n hx hb dL_law_1379 rfl (lv_at hl 3 rfl) ?_
  refine lv_iload_n hx hb dL_law_1380 rfl (lv_at hl 0 rfl) ?_
  refine lv_iconst (v := 3) hx hb dL_law_1381 (by decide) ?_
  refine lv_iadd hx hb dL_law_1382 ?_
  refine q_c 3 (by decide +kernel) ?_
  refine va_sld X.1 X.2.1 hX hbl hbA hw11.2.2 (q_in (by decide +kernel)) dL_law_1383 ?_
  refine q_c a3 e3 ?_
  have g_12769 : (4 : Int32) ≤ a1 := by
    simp only [Int32.lt_iff_toInt_lt, Int32.le_iff_toInt_le, ← Int32.toInt_inj] at c_12507 c_12536 c_12593 c_12640 c_12687 ⊢
    have k_0 : ((-1) : Int32).toInt = -1 := by decide
    have k_1 : (0 : Int32).toInt = 0 := by decide
    have k_2 : (1 : Int32).toInt = 1 := by decide
    have k_3 : (2 : Int32).toInt = 2 := by decide
    have k_4 : (3 : Int32).toInt = 3 := by decide
    have k_g : (4 : Int32).toInt = 4 := by decide
    omega
  refine q_callVi (rest := [.int (-2)]) (wr := []) X hK hA hw11 (fun sz => kX12_lists_508 l D cy y0 a1 a2 a3 (u_1.1 19) (u_1.1 0) (u_1.1 1) (u_1.1 2) (u_1.1 3) (u_1.1 4) (u_1.1 5) (u_1.1 6) (u_1.1 7) (u_1.1 8) (u_1.1 9) (u_1.1 10) (u_1.1 11) (u_1.1 12) (u_1.1 13) (u_1.1 14) (u_1.1 15) (u_1.1 16) (u_1.1 17) (u_1.1 18) g_12769 sz) wm_8_39 wm_8_42 wm_1_12 hd_X12_lists wm_8_40 wm_8_41 (ci := 12) (q0 := 0) rfl rfl ⟨Nat.le_of_ble_eq_true rfl, Nat.le_of_ble_eq_true rfl⟩ hl.1 rfl (Nat.le_of_ble_eq_true rfl) dL_law_1384 ⟨Nat.le_of_ble_eq_true rfl, Nat.le_of_ble_eq_true rfl⟩ [0] [] rfl rfl (by decide) rfl rfl (fun r_12770 u_12770 Hp12 lc12 w_12770 hw12 => ?_)
  clear Hp11 lc11 hw11
  obtain rfl : r_12770 = (-2) := w_12770
  replace hw12 : qW D _ _ [] _ _ := hw12
  refine lv_icmp_eq (tgt := 1461) hx hb dL_law_1387 (by decide) (fun _ => ?_) (fun c => absurd c (by decide +kernel))
  exact law_tail l X hr hlk hX hbl hw12.2.2 hl (Nat.le_of_ble_eq_true rfl) (Nat.le_of_ble_eq_true rfl)
set_option maxHeartbeats 4000000 in
set_option maxRecDepth 100000 in
theorem lc_image (l : Launch) {p : Program} {e : Env} {s : State} {m : MethodId} {below : List Frame} {meth : Method} {c : Code} {b : Nat} {xs : Nat → Int32} {D : va_G} {cy : Nat → ClassId} {H : Heap} {locs : List Loc} {ls : Array Slot} {x0 y0 : Nat} {u_0 u_1 : SS} (X : qX p s m #[Value.ref b] c cL_law 4 RL) (hr : meth.sig.returnType = ret) (hlk : meth.locks = false) (hX : va_X b 6 xs s s.heap) (hbl : b < s.heap.size) (hK : qK D cy s) (a1 a2 a3 a4 a5 : Int32) (e1 : xs (Int32.toNatClampNeg 1) = a1) (e2 : xs (Int32.toNatClampNeg 2) = a2) (e3 : xs (Int32.toNatClampNeg 3) = a3) (e4 : xs (Int32.toNatClampNeg 4) = a4) (e5 : xs (Int32.toNatClampNeg 5) = a5) (h : qW D (fun q => s.heap.size ≤ q) s.heap (wLaw cy x0 y0 u_0 u_1) H locs) (hl : lv_has ls 4 [(3, .int 0), (2, .ref y0), (1, .ref x0), (0, .ref b)]) : W p l e room_1 s m #[Value.ref b] below meth c H locs 99 25544 (lw_Z below #[Value.ref b] s) (F0 m 1392 ls []) := by
  obtain ⟨hx, hb, hml, hown, ht⟩ := id X
  have hA : ∀ q : Nat, s.heap.size ≤ q → (fun q : Nat => s.heap.size ≤ q) q := fun _ h => h
  have hbA : ¬ (fun q : Nat => s.heap.size ≤ q) b := Nat.not_le.mpr hbl
  by_cases c_12773 : a1 ≤ (-1)
  · skip
    refine lv_aload_n hx hb dL_law_1392 rfl (lv_at hl 2 rfl) ?_
    refine lv_aload_n hx hb dL_law_1393 rfl (lv_at hl 3 rfl) ?_
    refine lv_iload_n hx hb dL_law_1394 rfl (lv_at hl 0 rfl) ?_
    refine lv_iconst (v := 1) hx hb dL_law_1395 (by decide) ?_
    refine lv_iadd hx hb dL_law_1396 ?_
    refine q_c 1 (by decide +kernel) ?_
    refine va_sld X.1 X.2.1 hX hbl hbA h.2.2 (q_in (by decide +kernel)) dL_law_1397 ?_
    refine q_c a1 e1 ?_
    have g_12787 : a1 ≤ ((-1) : Int32) := by
      simp only [Int32.lt_iff_toInt_lt, Int32.le_iff_toInt_le, ← Int32.toInt_inj] at c_12773 ⊢
      have k_0 : ((-1) : Int32).toInt = -1 := by decide
      omega
    refine q_callVi (rest := []) (wr := [(y0, .inr (12, [.int 0, .ref (u_1.1 19), .ref (u_1.1 0), .ref (u_1.1 1), .ref (u_1.1 2), .int 0, .int 0, .int 0, .int 0, .int 0, .int 0, .int 0, .int 0, .int 0, .int (-1), .int 0, .ref (u_1.1 3), .ref (u_1.1 4), .ref (u_1.1 5), .ref (u_1.1 6), .ref (u_1.1 7), .int 0, .int 0, .ref (u_1.1 8), .ref (u_1.1 9), .ref (u_1.1 10), .int 0, .int 0, .ref (u_1.1 11), .ref (u_1.1 12), .ref (u_1.1 13), .ref (u_1.1 14), .ref (u_1.1 15), .int 0, .ref (u_1.1 16), .ref (u_1.1 17), .ref (u_1.1 18)]))]) X hK hA h (fun sz => kX11_image_509 l D cy x0 a1 (u_0.1 0) (u_0.1 1) (u_0.1 37) (u_0.1 39) (u_0.1 41) (u_0.1 43) (u_0.1 14) (u_0.1 15) (u_0.1 16) (u_0.1 17) (u_0.1 20) (u_0.1 24) (u_0.1 29) g_12787 sz) wm_5_145 wm_5_148 wm_1_1 hd_X11_image wm_5_146 wm_5_147 (ci := 11) (q0 := 0) rfl rfl ⟨Nat.le_of_ble_eq_true rfl, Nat.le_of_ble_eq_true rfl⟩ hl.1 rfl (Nat.le_of_ble_eq_true rfl) dL_law_1398 ⟨Nat.le_of_ble_eq_true rfl, Nat.le_of_ble_eq_true rfl⟩ [0] [78] rfl rfl (by decide) rfl rfl (fun r_12788 u_12788 Hp1 lc1 w_12788 hw1 => ?_)
    clear h
    obtain rfl : r_12788 = (-2) := w_12788
    replace hw1 : qW D _ _ [(y0, .inr (12, [.int 0, .ref (u_1.1 19), .ref (u_1.1 0), .ref (u_1.1 1), .ref (u_1.1 2), .int 0, .int 0, .int 0, .int 0, .int 0, .int 0, .int 0, .int 0, .int 0, .int (-1), .int 0, .ref (u_1.1 3), .ref (u_1.1 4), .ref (u_1.1 5), .ref (u_1.1 6), .ref (u_1.1 7), .int 0, .int 0, .ref (u_1.1 8), .ref (u_1.1 9), .ref (u_1.1 10), .int 0, .int 0, .ref (u_1.1 11), .ref (u_1.1 12), .ref (u_1.1 13), .ref (u_1.1 14), .ref (u_1.1 15), .int 0, .ref (u_1.1 16), .ref (u_1.1 17), .ref (u_1.1 18)]))] _ _ := hw1
    refine lv_aload_n hx hb dL_law_1401 rfl (lv_at hl 1 rfl) ?_
    refine lv_aload_n hx hb dL_law_1402 rfl (lv_at hl 3 rfl) ?_
    refine lv_iload_n hx hb dL_law_1403 rfl (lv_at hl 0 rfl) ?_
    refine lv_iconst (v := 1) hx hb dL_law_1404 (by decide) ?_
    refine lv_iadd hx hb dL_law_1405 ?_
    refine q_c 1 (by decide +kernel) ?_
    refine va_sld X.1 X.2.1 hX hbl hbA hw1.2.2 (q_in (by decide +kernel)) dL_law_1406 ?_
    refine q_c a1 e1 ?_
    have g_12792 : a1 ≤ ((-1) : Int32) := by
      simp only [Int32.lt_iff_toInt_lt, Int32.le_iff_toInt_le, ← Int32.toInt_inj] at c_12773 ⊢
      have k_0 : ((-1) : Int32).toInt = -1 := by decide
      omega
    refine q_callVi (rest := [.int (-2)]) (wr := []) X hK hA hw1 (fun sz => kX12_image_510 l D cy y0 a1 (u_1.1 19) (u_1.1 0) (u_1.1 1) (u_1.1 2) (u_1.1 3) (u_1.1 4) (u_1.1 5) (u_1.1 6) (u_1.1 7) (u_1.1 8) (u_1.1 9) (u_1.1 10) (u_1.1 11) (u_1.1 12) (u_1.1 13) (u_1.1 14) (u_1.1 15) (u_1.1 16) (u_1.1 17) (u_1.1 18) g_12792 sz) wm_8_43 wm_8_46 wm_1_12 hd_X12_image wm_8_44 wm_8_45 (ci := 12) (q0 := 0) rfl rfl ⟨Nat.le_of_ble_eq_true rfl, Nat.le_of_ble_eq_true rfl⟩ hl.1 rfl (Nat.le_of_ble_eq_true rfl) dL_law_1407 ⟨Nat.le_of_ble_eq_true rfl, Nat.le_of_ble_eq_true rfl⟩ [0] [] rfl rfl (by decide) rfl rfl (fun r_12793 u_12793 Hp2 lc2 w_12793 hw2 => ?_)
    clear Hp1 lc1 hw1
    obtain rfl : r_12793 = (-2) := w_12793
    replace hw2 : qW D _ _ [] _ _ := hw2
    refine lv_icmp_eq (tgt := 1461) hx hb dL_law_1410 (by decide) (fun _ => ?_) (fun c => absurd c (by decide +kernel))
    exact law_tail l X hr hlk hX hbl hw2.2.2 hl (Nat.le_of_ble_eq_true rfl) (Nat.le_of_ble_eq_true rfl)
  by_cases c_12794 : a1 = 0
  · subst c_12794
    refine lv_aload_n hx hb dL_law_1392 rfl (lv_at hl 2 rfl) ?_
    refine lv_aload_n hx hb dL_law_1393 rfl (lv_at hl 3 rfl) ?_
    refine lv_iload_n hx hb dL_law_1394 rfl (lv_at hl 0 rfl) ?_
    refine lv_iconst (v := 1) hx hb dL_law_1395 (by decide) ?_
    refine lv_iadd hx hb dL_law_1396 ?_
    refine q_c 1 (by decide +kernel) ?_
    refine va_sld X.1 X.2.1 hX hbl hbA hw2.2.2 (q_in (by decide +kernel)) dL_law_1397 ?_
    refine q_c 0 e1 ?_
    refine q_callVi (rest := []) (wr := [(y0, .inr (12, [.int 0, .ref (u_1.1 19), .ref (u_1.1 0), .ref (u_1.1 1), .ref (u_1.1 2), .int 0, .int 0, .int 0, .int 0, .int 0, .int 0, .int 0, .int 0, .int 0, .int (-1), .int 0, .ref (u_1.1 3), .ref (u_1.1 4), .ref (u_1.1 5), .ref (u_1.1 6), .ref (u_1.1 7), .int 0, .int 0, .ref (u_1.1 8), .ref (u_1.1 9), .ref (u_1.1 10), .int 0, .int 0, .ref (u_1.1 11), .ref (u_1.1 12), .ref (u_1.1 13), .ref (u_1.1 14), .ref (u_1.1 15), .int 0, .ref (u_1.1 16), .ref (u_1.1 17), .ref (u_1.1 18)])), ((u_1.1 0), .inl (cy 3, 2, .inl (fun _ => 0))), ((u_1.1 19), .inl (cy 1, 3918, .inl (upd (fun _ => 0) (Int32.toNatClampNeg 1) 1)))]) X hK hA hw2 (fun sz => kX11_image_511 l D cy x0 (u_0.1 15) (u_0.1 16) (u_0.1 37) (u_0.1 38) (u_0.1 73) (u_0.1 74) (u_0.1 0) (u_0.1 1) (u_0.1 39) (u_0.1 41) (u_0.1 43) (u_0.1 14) (u_0.1 17) (u_0.1 20) (u_0.1 24) (u_0.1 29) (u_0.1 75) (u_0.1 31)  sz) wm_5_145 wm_5_148 wm_1_1 hd_X11_image wm_5_146 wm_5_147 (ci := 11) (q0 := 0) rfl rfl ⟨Nat.le_of_ble_eq_true rfl, Nat.le_of_ble_eq_true rfl⟩ hl.1 rfl (Nat.le_of_ble_eq_true rfl) dL_law_1398 ⟨Nat.le_of_ble_eq_true rfl, Nat.le_of_ble_eq_true rfl⟩ [0, 16, 17, 38, 39, 74, 75] [78, 79, 98] rfl rfl (by decide) rfl rfl (fun r_12818 u_12818 Hp3 lc3 w_12818 hw3 => ?_)
    clear Hp2 lc2 hw2
    obtain rfl : r_12818 = 0 := w_12818
    replace hw3 : qW D _ _ [(y0, .inr (12, [.int 0, .ref (u_1.1 19), .ref (u_1.1 0), .ref (u_1.1 1), .ref (u_1.1 2), .int 0, .int 0, .int 0, .int 0, .int 0, .int 0, .int 0, .int 0, .int 0, .int (-1), .int 0, .ref (u_1.1 3), .ref (u_1.1 4), .ref (u_1.1 5), .ref (u_1.1 6), .ref (u_1.1 7), .int 0, .int 0, .ref (u_1.1 8), .ref (u_1.1 9), .ref (u_1.1 10), .int 0, .int 0, .ref (u_1.1 11), .ref (u_1.1 12), .ref (u_1.1 13), .ref (u_1.1 14), .ref (u_1.1 15), .int 0, .ref (u_1.1 16), .ref (u_1.1 17), .ref (u_1.1 18)])), ((u_1.1 0), .inl (cy 3, 2, .inl (fun _ => 0))), ((u_1.1 19), .inl (cy 1, 3918, .inl (upd (fun _ => 0) (Int32.toNatClampNeg 1) 1)))] _ _ := hw3
    refine lv_aload_n hx hb dL_law_1401 rfl (lv_at hl 1 rfl) ?_
    refine lv_aload_n hx hb dL_law_1402 rfl (lv_at hl 3 rfl) ?_
    refine lv_iload_n hx hb dL_law_1403 rfl (lv_at hl 0 rfl) ?_
    refine lv_iconst (v := 1) hx hb dL_law_1404 (by decide) ?_
    refine lv_iadd hx hb dL_law_1405 ?_
    refine q_c 1 (by decide +kernel) ?_
    refine va_sld X.1 X.2.1 hX hbl hbA hw3.2.2 (q_in (by decide +kernel)) dL_law_1406 ?_
    refine q_c 0 e1 ?_
    refine q_callVi (rest := [.int 0]) (wr := []) X hK hA hw3 (fun sz => kX12_image_512 l D cy y0 (u_1.1 0) (u_1.1 19) (u_1.1 1) (u_1.1 2) (u_1.1 3) (u_1.1 4) (u_1.1 5) (u_1.1 6) (u_1.1 7) (u_1.1 8) (u_1.1 9) (u_1.1 10) (u_1.1 11) (u_1.1 12) (u_1.1 13) (u_1.1 14) (u_1.1 15) (u_1.1 16) (u_1.1 17) (u_1.1 18)  sz) wm_8_43 wm_8_46 wm_1_12 hd_X12_image wm_8_44 wm_8_45 (ci := 12) (q0 := 0) rfl rfl ⟨Nat.le_of_ble_eq_true rfl, Nat.le_of_ble_eq_true rfl⟩ hl.1 rfl (Nat.le_of_ble_eq_true rfl) dL_law_1407 ⟨Nat.le_of_ble_eq_true rfl, Nat.le_of_ble_eq_true rfl⟩ [0, 1, 2] [] rfl rfl (by decide) rfl rfl (fun r_12824 u_12824 Hp4 lc4 w_12824 hw4 => ?_)
    clear Hp3 lc3 hw3
    obtain rfl : r_12824 = 0 := w_12824
    replace hw4 : qW D _ _ [] _ _ := hw4
    refine lv_icmp_eq (tgt := 1461) hx hb dL_law_1410 (by decide) (fun _ => ?_) (fun c => absurd c (by decide +kernel))
    exact law_tail l X hr hlk hX hbl hw4.2.2 hl (Nat.le_of_ble_eq_true rfl) (Nat.le_of_ble_eq_true rfl)
  by_cases c_12825 : a1 = 1
  · subst c_12825
    refine lv_aload_n hx hb dL_law_1392 rfl (lv_at hl 2 rfl) ?_
    refine lv_aload_n hx hb dL_law_1393 rfl (lv_at hl 3 rfl) ?_
    refine lv_iload_n hx hb dL_law_1394 rfl (lv_at hl 0 rfl) ?_
    refine lv_iconst (v := 1) hx hb dL_law_1395 (by decide) ?_
    refine lv_iadd hx hb dL_law_1396 ?_
    refine q_c 1 (by decide +kernel) ?_
    refine va_sld X.1 X.2.1 hX hbl hbA hw4.2.2 (q_in (by decide +kernel)) dL_law_1397 ?_
    refine q_c 1 e1 ?_
    refine q_callVi (rest := []) (wr := [(y0, .inr (12, [.int 0, .ref (u_1.1 19), .ref (u_1.1 0), .ref (u_1.1 1), .ref (u_1.1 2), .int 0, .int 0, .int 0, .int 0, .int 0, .int 0, .int 0, .int 0, .int 0, .int (-1), .int 0, .ref (u_1.1 3), .ref (u_1.1 4), .ref (u_1.1 5), .ref (u_1.1 6), .ref (u_1.1 7), .int 0, .int 0, .ref (u_1.1 8), .ref (u_1.1 9), .ref (u_1.1 10), .int 0, .int 0, .ref (u_1.1 11), .ref (u_1.1 12), .ref (u_1.1 13), .ref (u_1.1 14), .ref (u_1.1 15), .int 0, .ref (u_1.1 16), .ref (u_1.1 17), .ref (u_1.1 18)])), ((u_1.1 0), .inl (cy 3, 2, .inl (fun _ => 0))), ((u_1.1 19), .inl (cy 1, 3918, .inl (upd (fun _ => 0) (Int32.toNatClampNeg 1) 1)))]) X hK hA hw4 (fun sz => kX11_image_513 l D cy x0 (u_0.1 15) (u_0.1 16) (u_0.1 37) (u_0.1 38) (u_0.1 75) (u_0.1 76) (u_0.1 0) (u_0.1 1) (u_0.1 39) (u_0.1 41) (u_0.1 43) (u_0.1 14) (u_0.1 17) (u_0.1 20) (u_0.1 24) (u_0.1 29) (u_0.1 73) (u_0.1 31)  sz) wm_5_145 wm_5_148 wm_1_1 hd_X11_image wm_5_146 wm_5_147 (ci := 11) (q0 := 0) rfl rfl ⟨Nat.le_of_ble_eq_true rfl, Nat.le_of_ble_eq_true rfl⟩ hl.1 rfl (Nat.le_of_ble_eq_true rfl) dL_law_1398 ⟨Nat.le_of_ble_eq_true rfl, Nat.le_of_ble_eq_true rfl⟩ [0, 16, 17, 38, 39, 76, 77] [78, 79, 98] rfl rfl (by decide) rfl rfl (fun r_12849 u_12849 Hp5 lc5 w_12849 hw5 => ?_)
    clear Hp4 lc4 hw4
    obtain rfl : r_12849 = 0 := w_12849
    replace hw5 : qW D _ _ [(y0, .inr (12, [.int 0, .ref (u_1.1 19), .ref (u_1.1 0), .ref (u_1.1 1), .ref (u_1.1 2), .int 0, .int 0, .int 0, .int 0, .int 0, .int 0, .int 0, .int 0, .int 0, .int (-1), .int 0, .ref (u_1.1 3), .ref (u_1.1 4), .ref (u_1.1 5), .ref (u_1.1 6), .ref (u_1.1 7), .int 0, .int 0, .ref (u_1.1 8), .ref (u_1.1 9), .ref (u_1.1 10), .int 0, .int 0, .ref (u_1.1 11), .ref (u_1.1 12), .ref (u_1.1 13), .ref (u_1.1 14), .ref (u_1.1 15), .int 0, .ref (u_1.1 16), .ref (u_1.1 17), .ref (u_1.1 18)])), ((u_1.1 0), .inl (cy 3, 2, .inl (fun _ => 0))), ((u_1.1 19), .inl (cy 1, 3918, .inl (upd (fun _ => 0) (Int32.toNatClampNeg 1) 1)))] _ _ := hw5
    refine lv_aload_n hx hb dL_law_1401 rfl (lv_at hl 1 rfl) ?_
    refine lv_aload_n hx hb dL_law_1402 rfl (lv_at hl 3 rfl) ?_
    refine lv_iload_n hx hb dL_law_1403 rfl (lv_at hl 0 rfl) ?_
    refine lv_iconst (v := 1) hx hb dL_law_1404 (by decide) ?_
    refine lv_iadd hx hb dL_law_1405 ?_
    refine q_c 1 (by decide +kernel) ?_
    refine va_sld X.1 X.2.1 hX hbl hbA hw5.2.2 (q_in (by decide +kernel)) dL_law_1406 ?_
    refine q_c 1 e1 ?_
    refine q_callVi (rest := [.int 0]) (wr := []) X hK hA hw5 (fun sz => kX12_image_514 l D cy y0 (u_1.1 0) (u_1.1 19) (u_1.1 1) (u_1.1 2) (u_1.1 3) (u_1.1 4) (u_1.1 5) (u_1.1 6) (u_1.1 7) (u_1.1 8) (u_1.1 9) (u_1.1 10) (u_1.1 11) (u_1.1 12) (u_1.1 13) (u_1.1 14) (u_1.1 15) (u_1.1 16) (u_1.1 17) (u_1.1 18)  sz) wm_8_43 wm_8_46 wm_1_12 hd_X12_image wm_8_44 wm_8_45 (ci := 12) (q0 := 0) rfl rfl ⟨Nat.le_of_ble_eq_true rfl, Nat.le_of_ble_eq_true rfl⟩ hl.1 rfl (Nat.le_of_ble_eq_true rfl) dL_law_1407 ⟨Nat.le_of_ble_eq_true rfl, Nat.le_of_ble_eq_true rfl⟩ [0, 1, 2] [] rfl rfl (by decide) rfl rfl (fun r_12855 u_12855 Hp6 lc6 w_12855 hw6 => ?_)
    clear Hp5 lc5 hw5
    obtain rfl : r_12855 = 0 := w_12855
    replace hw6 : qW D _ _ [] _ _ := hw6
    refine lv_icmp_eq (tgt := 1461) hx hb dL_law_1410 (by decide) (fun _ => ?_) (fun c => absurd c (by decide +kernel))
    exact law_tail l X hr hlk hX hbl hw6.2.2 hl (Nat.le_of_ble_eq_true rfl) (Nat.le_of_ble_eq_true rfl)
  refine lv_aload_n hx hb dL_law_1392 rfl (lv_at hl 2 rfl) ?_
  refine lv_aload_n hx hb dL_law_1393 rfl (lv_at hl 3 rfl) ?_
  refine lv_iload_n hx hb dL_law_1394 rfl (lv_at hl 0 rfl) ?_
  refine lv_iconst (v := 1) hx hb dL_law_1395 (by decide) ?_
  refine lv_iadd hx hb dL_law_1396 ?_
  refine q_c 1 (by decide +kernel) ?_
  refine va_sld X.1 X.2.1 hX hbl hbA hw6.2.2 (q_in (by decide +kernel)) dL_law_1397 ?_
  refine q_c a1 e1 ?_
  have g_12877 : (2 : Int32) ≤ a1 := by
    simp only [Int32.lt_iff_toInt_lt, Int32.le_iff_toInt_le, ← Int32.toInt_inj] at c_12773 c_12794 c_12825 ⊢
    have k_0 : ((-1) : Int32).toInt = -1 := by decide
    have k_1 : (0 : Int32).toInt = 0 := by decide
    have k_2 : (1 : Int32).toInt = 1 := by decide
    have k_g : (2 : Int32).toInt = 2 := by decide
    omega
  refine q_callVi (rest := []) (wr := [(y0, .inr (12, [.int 0, .ref (u_1.1 19), .ref (u_1.1 0), .ref (u_1.1 1), .ref (u_1.1 2), .int 0, .int 0, .int 0, .int 0, .int 0, .int 0, .int 0, .int 0, .int 0, .int (-1), .int 0, .ref (u_1.1 3), .ref (u_1.1 4), .ref (u_1.1 5), .ref (u_1.1 6), .ref (u_1.1 7), .int 0, .int 0, .ref (u_1.1 8), .ref (u_1.1 9), .ref (u_1.1 10), .int 0, .int 0, .ref (u_1.1 11), .ref (u_1.1 12), .ref (u_1.1 13), .ref (u_1.1 14), .ref (u_1.1 15), .int 0, .ref (u_1.1 16), .ref (u_1.1 17), .ref (u_1.1 18)]))]) X hK hA hw6 (fun sz => kX11_image_515 l D cy x0 a1 (u_0.1 0) (u_0.1 1) (u_0.1 37) (u_0.1 39) (u_0.1 41) (u_0.1 43) (u_0.1 14) (u_0.1 15) (u_0.1 16) (u_0.1 17) (u_0.1 20) (u_0.1 24) (u_0.1 29) g_12877 sz) wm_5_145 wm_5_148 wm_1_1 hd_X11_image wm_5_146 wm_5_147 (ci := 11) (q0 := 0) rfl rfl ⟨Nat.le_of_ble_eq_true rfl, Nat.le_of_ble_eq_true rfl⟩ hl.1 rfl (Nat.le_of_ble_eq_true rfl) dL_law_1398 ⟨Nat.le_of_ble_eq_true rfl, Nat.le_of_ble_eq_true rfl⟩ [0] [78] rfl rfl (by decide) rfl rfl (fun r_12878 u_12878 Hp7 lc7 w_12878 hw7 => ?_)
  clear Hp6 lc6 hw6
  obtain rfl : r_12878 = (-2) := w_12878
  replace hw7 : qW D _ _ [(y0, .inr (12, [.int 0, .ref (u_1.1 19), .ref (u_1.1 0), .ref (u_1.1 1), .ref (u_1.1 2), .int 0, .int 0, .int 0, .int 0, .int 0, .int 0, .int 0, .int 0, .int 0, .int (-1), .int 0, .ref (u_1.1 3), .ref (u_1.1 4), .ref (u_1.1 5), .ref (u_1.1 6), .ref (u_1.1 7), .int 0, .int 0, .ref (u_1.1 8), .ref (u_1.1 9), .ref (u_1.1 10), .int 0, .int 0, .ref (u_1.1 11), .ref (u_1.1 12), .ref (u_1.1 13), .ref (u_1.1 14), .ref (u_1.1 15), .int 0, .ref (u_1.1 16), .ref (u_1.1 17), .ref (u_1.1 18)]))] _ _ := hw7
  refine lv_aload_n hx hb dL_law_1401 rfl (lv_at hl 1 rfl) ?_
  refine lv_aload_n hx hb dL_law_1402 rfl (lv_at hl 3 rfl) ?_
  refine lv_iload_n hx hb dL_law_1403 rfl (lv_at hl 0 rfl) ?_
  refine lv_iconst (v := 1) hx hb dL_law_1404 (by decide) ?_
  refine lv_iadd hx hb dL_law_1405 ?_
  refine q_c 1 (by decide +kernel) ?_
  refine va_sld X.1 X.2.1 hX hbl hbA hw7.2.2 (q_in (by decide +kernel)) dL_law_1406 ?_
  refine q_c a1 e1 ?_
  have g_12883 : (2 : Int32) ≤ a1 := by
    simp only [Int32.lt_iff_toInt_lt, Int32.le_iff_toInt_le, ← Int32.toInt_inj] at c_12773 c_12794 c_12825 ⊢
    have k_0 : ((-1) : Int32).toInt = -1 := by decide
    have k_1 : (0 : Int32).toInt = 0 := by decide
    have k_2 : (1 : Int32).toInt = 1 := by decide
    have k_g : (2 : Int32).toInt = 2 := by decide
    omega
  refine q_callVi (rest := [.int (-2)]) (wr := []) X hK hA hw7 (fun sz => kX12_image_516 l D cy y0 a1 (u_1.1 19) (u_1.1 0) (u_1.1 1) (u_1.1 2) (u_1.1 3) (u_1.1 4) (u_1.1 5) (u_1.1 6) (u_1.1 7) (u_1.1 8) (u_1.1 9) (u_1.1 10) (u_1.1 11) (u_1.1 12) (u_1.1 13) (u_1.1 14) (u_1.1 15) (u_1.1 16) (u_1.1 17) (u_1.1 18) g_12883 sz) wm_8_43 wm_8_46 wm_1_12 hd_X12_image wm_8_44 wm_8_45 (ci := 12) (q0 := 0) rfl rfl ⟨Nat.le_of_ble_eq_true rfl, Nat.le_of_ble_eq_true rfl⟩ hl.1 rfl (Nat.le_of_ble_eq_true rfl) dL_law_1407 ⟨Nat.le_of_ble_eq_true rfl, Nat.le_of_ble_eq_true rfl⟩ [0] [] rfl rfl (by decide) rfl rfl (fun r_12884 u_12884 Hp8 lc8 w_12884 hw8 => ?_)
  clear Hp7 lc7 hw7
  obtain rfl : r_12884 = (-2) := w_12884
  replace hw8 : qW D _ _ [] _ _ := hw8
  refine lv_icmp_eq (tgt := 1461) hx hb dL_law_1410 (by decide) (fun _ => ?_) (fun c => absurd c (by decide +kernel))
  exact law_tail l X hr hlk hX hbl hw8.2.2 hl (Nat.le_of_ble_eq_true rfl) (Nat.le_of_ble_eq_true rfl)
set_option maxHeartbeats 4000000 in
set_option maxRecDepth 100000 in
theorem lc_restore (l : Launch) {p : Program} {e : Env} {s : State} {m : MethodId} {below : List Frame} {meth : Method} {c : Code} {b : Nat} {xs : Nat → Int32} {D : va_G} {cy : Nat → ClassId} {H : Heap} {locs : List Loc} {ls : Array Slot} {x0 y0 : Nat} {u_0 u_1 : SS} (X : qX p s m #[Value.ref b] c cL_law 4 RL) (hr : meth.sig.returnType = ret) (hlk : meth.locks = false) (hX : va_X b 6 xs s s.heap) (hbl : b < s.heap.size) (hK : qK D cy s) (a1 a2 a3 a4 a5 : Int32) (e1 : xs (Int32.toNatClampNeg 1) = a1) (e2 : xs (Int32.toNatClampNeg 2) = a2) (e3 : xs (Int32.toNatClampNeg 3) = a3) (e4 : xs (Int32.toNatClampNeg 4) = a4) (e5 : xs (Int32.toNatClampNeg 5) = a5) (h : qW D (fun q => s.heap.size ≤ q) s.heap (wLaw cy x0 y0 u_0 u_1) H locs) (hl : lv_has ls 4 [(3, .int 0), (2, .ref y0), (1, .ref x0), (0, .ref b)]) : W p l e room_1 s m #[Value.ref b] below meth c H locs 99 25544 (lw_Z below #[Value.ref b] s) (F0 m 1415 ls []) := by
  obtain ⟨hx, hb, hml, hown, ht⟩ := id X
  have hA : ∀ q : Nat, s.heap.size ≤ q → (fun q : Nat => s.heap.size ≤ q) q := fun _ h => h
  have hbA : ¬ (fun q : Nat => s.heap.size ≤ q) b := Nat.not_le.mpr hbl
  by_cases c_12887 : a1 ≤ (-1)
  · skip
    refine lv_aload_n hx hb dL_law_1415 rfl (lv_at hl 2 rfl) ?_
    refine lv_aload_n hx hb dL_law_1416 rfl (lv_at hl 3 rfl) ?_
    refine lv_iload_n hx hb dL_law_1417 rfl (lv_at hl 0 rfl) ?_
    refine lv_iconst (v := 1) hx hb dL_law_1418 (by decide) ?_
    refine lv_iadd hx hb dL_law_1419 ?_
    refine q_c 1 (by decide +kernel) ?_
    refine va_sld X.1 X.2.1 hX hbl hbA h.2.2 (q_in (by decide +kernel)) dL_law_1420 ?_
    refine q_c a1 e1 ?_
    have g_12901 : a1 ≤ ((-1) : Int32) := by
      simp only [Int32.lt_iff_toInt_lt, Int32.le_iff_toInt_le, ← Int32.toInt_inj] at c_12887 ⊢
      have k_0 : ((-1) : Int32).toInt = -1 := by decide
      omega
    refine q_callVi (rest := []) (wr := [(y0, .inr (12, [.int 0, .ref (u_1.1 19), .ref (u_1.1 0), .ref (u_1.1 1), .ref (u_1.1 2), .int 0, .int 0, .int 0, .int 0, .int 0, .int 0, .int 0, .int 0, .int 0, .int (-1), .int 0, .ref (u_1.1 3), .ref (u_1.1 4), .ref (u_1.1 5), .ref (u_1.1 6), .ref (u_1.1 7), .int 0, .int 0, .ref (u_1.1 8), .ref (u_1.1 9), .ref (u_1.1 10), .int 0, .int 0, .ref (u_1.1 11), .ref (u_1.1 12), .ref (u_1.1 13), .ref (u_1.1 14), .ref (u_1.1 15), .int 0, .ref (u_1.1 16), .ref (u_1.1 17), .ref (u_1.1 18)]))]) X hK hA h (fun sz => kX11_restore_517 l D cy x0 a1 (u_0.1 0) (u_0.1 1) (u_0.1 37) (u_0.1 39) (u_0.1 41) (u_0.1 43) (u_0.1 14) (u_0.1 15) (u_0.1 16) (u_0.1 17) (u_0.1 20) (u_0.1 24) (u_0.1 29) g_12901 sz) wm_5_149 wm_5_152 wm_1_1 hd_X11_restore wm_5_150 wm_5_151 (ci := 11) (q0 := 0) rfl rfl ⟨Nat.le_of_ble_eq_true rfl, Nat.le_of_ble_eq_true rfl⟩ hl.1 rfl (Nat.le_of_ble_eq_true rfl) dL_law_1421 ⟨Nat.le_of_ble_eq_true rfl, Nat.le_of_ble_eq_true rfl⟩ [0] [78] rfl rfl (by decide) rfl rfl (fun r_12902 u_12902 Hp1 lc1 w_12902 hw1 => ?_)
    clear h
    obtain rfl : r_12902 = (-2) := w_12902
    replace hw1 : qW D _ _ [(y0, .inr (12, [.int 0, .ref (u_1.1 19), .ref (u_1.1 0), .ref (u_1.1 1), .ref (u_1.1 2), .int 0, .int 0, .int 0, .int 0, .int 0, .int 0, .int 0, .int 0, .int 0, .int (-1), .int 0, .ref (u_1.1 3), .ref (u_1.1 4), .ref (u_1.1 5), .ref (u_1.1 6), .ref (u_1.1 7), .int 0, .int 0, .ref (u_1.1 8), .ref (u_1.1 9), .ref (u_1.1 10), .int 0, .int 0, .ref (u_1.1 11), .ref (u_1.1 12), .ref (u_1.1 13), .ref (u_1.1 14), .ref (u_1.1 15), .int 0, .ref (u_1.1 16), .ref (u_1.1 17), .ref (u_1.1 18)]))] _ _ := hw1
    refine lv_aload_n hx hb dL_law_1424 rfl (lv_at hl 1 rfl) ?_
    refine lv_aload_n hx hb dL_law_1425 rfl (lv_at hl 3 rfl) ?_
    refine lv_iload_n hx hb dL_law_1426 rfl (lv_at hl 0 rfl) ?_
    refine lv_iconst (v := 1) hx hb dL_law_1427 (by decide) ?_
    refine lv_iadd hx hb dL_law_1428 ?_
    refine q_c 1 (by decide +kernel) ?_
    refine va_sld X.1 X.2.1 hX hbl hbA hw1.2.2 (q_in (by decide +kernel)) dL_law_1429 ?_
    refine q_c a1 e1 ?_
    have g_12906 : a1 ≤ ((-1) : Int32) := by
      simp only [Int32.lt_iff_toInt_lt, Int32.le_iff_toInt_le, ← Int32.toInt_inj] at c_12887 ⊢
      have k_0 : ((-1) : Int32).toInt = -1 := by decide
      omega
    refine q_callVi (rest := [.int (-2)]) (wr := []) X hK hA hw1 (fun sz => kX12_restore_518 l D cy y0 a1 (u_1.1 19) (u_1.1 0) (u_1.1 1) (u_1.1 2) (u_1.1 3) (u_1.1 4) (u_1.1 5) (u_1.1 6) (u_1.1 7) (u_1.1 8) (u_1.1 9) (u_1.1 10) (u_1.1 11) (u_1.1 12) (u_1.1 13) (u_1.1 14) (u_1.1 15) (u_1.1 16) (u_1.1 17) (u_1.1 18) g_12906 sz) wm_8_47 wm_8_50 wm_1_12 hd_X12_restore wm_8_48 wm_8_49 (ci := 12) (q0 := 0) rfl rfl ⟨Nat.le_of_ble_eq_true rfl, Nat.le_of_ble_eq_true rfl⟩ hl.1 rfl (Nat.le_of_ble_eq_true rfl) dL_law_1430 ⟨Nat.le_of_ble_eq_true rfl, Nat.le_of_ble_eq_true rfl⟩ [0] [] rfl rfl (by decide) rfl rfl (fun r_12907 u_12907 Hp2 lc2 w_12907 hw2 => ?_)
    clear Hp1 lc1 hw1
    obtain rfl : r_12907 = (-2) := w_12907
    replace hw2 : qW D _ _ [] _ _ := hw2
    refine lv_icmp_eq (tgt := 1461) hx hb dL_law_1433 (by decide) (fun _ => ?_) (fun c => absurd c (by decide +kernel))
    exact law_tail l X hr hlk hX hbl hw2.2.2 hl (Nat.le_of_ble_eq_true rfl) (Nat.le_of_ble_eq_true rfl)
  by_cases c_12908 : a1 = 0
  · subst c_12908
    refine lv_aload_n hx hb dL_law_1415 rfl (lv_at hl 2 rfl) ?_
    refine lv_aload_n hx hb dL_law_1416 rfl (lv_at hl 3 rfl) ?_
    refine lv_iload_n hx hb dL_law_1417 rfl (lv_at hl 0 rfl) ?_
    refine lv_iconst (v := 1) hx hb dL_law_1418 (by decide) ?_
    refine lv_iadd hx hb dL_law_1419 ?_
    refine q_c 1 (by decide +kernel) ?_
    refine va_sld X.1 X.2.1 hX hbl hbA hw2.2.2 (q_in (by decide +kernel)) dL_law_1420 ?_
    refine q_c 0 e1 ?_
    refine q_callVi (rest := []) (wr := [(y0, .inr (12, [.int 0, .ref (u_1.1 19), .ref (u_1.1 0), .ref (u_1.1 1), .ref (u_1.1 2), .int 0, .int 0, .int 0, .int 0, .int 0, .int 0, .int 0, .int 0, .int 0, .int (-1), .int 0, .ref (u_1.1 3), .ref (u_1.1 4), .ref (u_1.1 5), .ref (u_1.1 6), .ref (u_1.1 7), .int 0, .int 0, .ref (u_1.1 8), .ref (u_1.1 9), .ref (u_1.1 10), .int 0, .int 0, .ref (u_1.1 11), .ref (u_1.1 12), .ref (u_1.1 13), .ref (u_1.1 14), .ref (u_1.1 15), .int 0, .ref (u_1.1 16), .ref (u_1.1 17), .ref (u_1.1 18)])), ((u_1.1 0), .inl (cy 3, 2, .inl (fun _ => 0)))]) X hK hA hw2 (fun sz => kX11_restore_519 l D cy x0 (u_0.1 16) (u_0.1 0) (u_0.1 1) (u_0.1 37) (u_0.1 39) (u_0.1 41) (u_0.1 43) (u_0.1 14) (u_0.1 15) (u_0.1 17) (u_0.1 20) (u_0.1 24) (u_0.1 29)  sz) wm_5_149 wm_5_152 wm_1_1 hd_X11_restore wm_5_150 wm_5_151 (ci := 11) (q0 := 0) rfl rfl ⟨Nat.le_of_ble_eq_true rfl, Nat.le_of_ble_eq_true rfl⟩ hl.1 rfl (Nat.le_of_ble_eq_true rfl) dL_law_1421 ⟨Nat.le_of_ble_eq_true rfl, Nat.le_of_ble_eq_true rfl⟩ [0, 17] [78, 79] rfl rfl (by decide) rfl rfl (fun r_12912 u_12912 Hp3 lc3 w_12912 hw3 => ?_)
    clear Hp2 lc2 hw2
    obtain rfl : r_12912 = (-5) := w_12912
    replace hw3 : qW D _ _ [(y0, .inr (12, [.int 0, .ref (u_1.1 19), .ref (u_1.1 0), .ref (u_1.1 1), .ref (u_1.1 2), .int 0, .int 0, .int 0, .int 0, .int 0, .int 0, .int 0, .int 0, .int 0, .int (-1), .int 0, .ref (u_1.1 3), .ref (u_1.1 4), .ref (u_1.1 5), .ref (u_1.1 6), .ref (u_1.1 7), .int 0, .int 0, .ref (u_1.1 8), .ref (u_1.1 9), .ref (u_1.1 10), .int 0, .int 0, .ref (u_1.1 11), .ref (u_1.1 12), .ref (u_1.1 13), .ref (u_1.1 14), .ref (u_1.1 15), .int 0, .ref (u_1.1 16), .ref (u_1.1 17), .ref (u_1.1 18)])), ((u_1.1 0), .inl (cy 3, 2, .inl (fun _ => 0)))] _ _ := hw3
    refine lv_aload_n hx hb dL_law_1424 rfl (lv_at hl 1 rfl) ?_
    refine lv_aload_n hx hb dL_law_1425 rfl (lv_at hl 3 rfl) ?_
    refine lv_iload_n hx hb dL_law_1426 rfl (lv_at hl 0 rfl) ?_
    refine lv_iconst (v := 1) hx hb dL_law_1427 (by decide) ?_
    refine lv_iadd hx hb dL_law_1428 ?_
    refine q_c 1 (by decide +kernel) ?_
    refine va_sld X.1 X.2.1 hX hbl hbA hw3.2.2 (q_in (by decide +kernel)) dL_law_1429 ?_
    refine q_c 0 e1 ?_
    refine q_callVi (rest := [.int (-5)]) (wr := []) X hK hA hw3 (fun sz => kX12_restore_520 l D cy y0 (u_1.1 0) (u_1.1 19) (u_1.1 1) (u_1.1 2) (u_1.1 3) (u_1.1 4) (u_1.1 5) (u_1.1 6) (u_1.1 7) (u_1.1 8) (u_1.1 9) (u_1.1 10) (u_1.1 11) (u_1.1 12) (u_1.1 13) (u_1.1 14) (u_1.1 15) (u_1.1 16) (u_1.1 17) (u_1.1 18)  sz) wm_8_47 wm_8_50 wm_1_12 hd_X12_restore wm_8_48 wm_8_49 (ci := 12) (q0 := 0) rfl rfl ⟨Nat.le_of_ble_eq_true rfl, Nat.le_of_ble_eq_true rfl⟩ hl.1 rfl (Nat.le_of_ble_eq_true rfl) dL_law_1430 ⟨Nat.le_of_ble_eq_true rfl, Nat.le_of_ble_eq_true rfl⟩ [0, 1] [] rfl rfl (by decide) rfl rfl (fun r_12914 u_12914 Hp4 lc4 w_12914 hw4 => ?_)
    clear Hp3 lc3 hw3
    obtain rfl : r_12914 = (-5) := w_12914
    replace hw4 : qW D _ _ [] _ _ := hw4
    refine lv_icmp_eq (tgt := 1461) hx hb dL_law_1433 (by decide) (fun _ => ?_) (fun c => absurd c (by decide +kernel))
    exact law_tail l X hr hlk hX hbl hw4.2.2 hl (Nat.le_of_ble_eq_true rfl) (Nat.le_of_ble_eq_true rfl)
  by_cases c_12915 : a1 = 1
  · subst c_12915
    refine lv_aload_n hx hb dL_law_1415 rfl (lv_at hl 2 rfl) ?_
    refine lv_aload_n hx hb dL_law_1416 rfl (lv_at hl 3 rfl) ?_
    refine lv_iload_n hx hb dL_law_1417 rfl (lv_at hl 0 rfl) ?_
    refine lv_iconst (v := 1) hx hb dL_law_1418 (by decide) ?_
    refine lv_iadd hx hb dL_law_1419 ?_
    refine q_c 1 (by decide +kernel) ?_
    refine va_sld X.1 X.2.1 hX hbl hbA hw4.2.2 (q_in (by decide +kernel)) dL_law_1420 ?_
    refine q_c 1 e1 ?_
    refine q_callVi (rest := []) (wr := [(y0, .inr (12, [.int 0, .ref (u_1.1 19), .ref (u_1.1 0), .ref (u_1.1 1), .ref (u_1.1 2), .int 0, .int 0, .int 0, .int 0, .int 0, .int 0, .int 0, .int 0, .int 0, .int (-1), .int 0, .ref (u_1.1 3), .ref (u_1.1 4), .ref (u_1.1 5), .ref (u_1.1 6), .ref (u_1.1 7), .int 0, .int 0, .ref (u_1.1 8), .ref (u_1.1 9), .ref (u_1.1 10), .int 0, .int 0, .ref (u_1.1 11), .ref (u_1.1 12), .ref (u_1.1 13), .ref (u_1.1 14), .ref (u_1.1 15), .int 0, .ref (u_1.1 16), .ref (u_1.1 17), .ref (u_1.1 18)])), ((u_1.1 0), .inl (cy 3, 2, .inl (fun _ => 0)))]) X hK hA hw4 (fun sz => kX11_restore_521 l D cy x0 (u_0.1 16) (u_0.1 0) (u_0.1 1) (u_0.1 37) (u_0.1 39) (u_0.1 41) (u_0.1 43) (u_0.1 14) (u_0.1 15) (u_0.1 17) (u_0.1 20) (u_0.1 24) (u_0.1 29)  sz) wm_5_149 wm_5_152 wm_1_1 hd_X11_restore wm_5_150 wm_5_151 (ci := 11) (q0 := 0) rfl rfl ⟨Nat.le_of_ble_eq_true rfl, Nat.le_of_ble_eq_true rfl⟩ hl.1 rfl (Nat.le_of_ble_eq_true rfl) dL_law_1421 ⟨Nat.le_of_ble_eq_true rfl, Nat.le_of_ble_eq_true rfl⟩ [0, 17] [78, 79] rfl rfl (by decide) rfl rfl (fun r_12919 u_12919 Hp5 lc5 w_12919 hw5 => ?_)
    clear Hp4 lc4 hw4
    obtain rfl : r_12919 = (-5) := w_12919
    replace hw5 : qW D _ _ [(y0, .inr (12, [.int 0, .ref (u_1.1 19), .ref (u_1.1 0), .ref (u_1.1 1), .ref (u_1.1 2), .int 0, .int 0, .int 0, .int 0, .int 0, .int 0, .int 0, .int 0, .int 0, .int (-1), .int 0, .ref (u_1.1 3), .ref (u_1.1 4), .ref (u_1.1 5), .ref (u_1.1 6), .ref (u_1.1 7), .int 0, .int 0, .ref (u_1.1 8), .ref (u_1.1 9), .ref (u_1.1 10), .int 0, .int 0, .ref (u_1.1 11), .ref (u_1.1 12), .ref (u_1.1 13), .ref (u_1.1 14), .ref (u_1.1 15), .int 0, .ref (u_1.1 16), .ref (u_1.1 17), .ref (u_1.1 18)])), ((u_1.1 0), .inl (cy 3, 2, .inl (fun _ => 0)))] _ _ := hw5
    refine lv_aload_n hx hb dL_law_1424 rfl (lv_at hl 1 rfl) ?_
    refine lv_aload_n hx hb dL_law_1425 rfl (lv_at hl 3 rfl) ?_
    refine lv_iload_n hx hb dL_law_1426 rfl (lv_at hl 0 rfl) ?_
    refine lv_iconst (v := 1) hx hb dL_law_1427 (by decide) ?_
    refine lv_iadd hx hb dL_law_1428 ?_
    refine q_c 1 (by decide +kernel) ?_
    refine va_sld X.1 X.2.1 hX hbl hbA hw5.2.2 (q_in (by decide +kernel)) dL_law_1429 ?_
    refine q_c 1 e1 ?_
    refine q_callVi (rest := [.int (-5)]) (wr := []) X hK hA hw5 (fun sz => kX12_restore_522 l D cy y0 (u_1.1 0) (u_1.1 19) (u_1.1 1) (u_1.1 2) (u_1.1 3) (u_1.1 4) (u_1.1 5) (u_1.1 6) (u_1.1 7) (u_1.1 8) (u_1.1 9) (u_1.1 10) (u_1.1 11) (u_1.1 12) (u_1.1 13) (u_1.1 14) (u_1.1 15) (u_1.1 16) (u_1.1 17) (u_1.1 18)  sz) wm_8_47 wm_8_50 wm_1_12 hd_X12_restore wm_8_48 wm_8_49 (ci := 12) (q0 := 0) rfl rfl ⟨Nat.le_of_ble_eq_true rfl, Nat.le_of_ble_eq_true rfl⟩ hl.1 rfl (Nat.le_of_ble_eq_true rfl) dL_law_1430 ⟨Nat.le_of_ble_eq_true rfl, Nat.le_of_ble_eq_true rfl⟩ [0, 1] [] rfl rfl (by decide) rfl rfl (fun r_12921 u_12921 Hp6 lc6 w_12921 hw6 => ?_)
    clear Hp5 lc5 hw5
    obtain rfl : r_12921 = (-5) := w_12921
    replace hw6 : qW D _ _ [] _ _ := hw6
    refine lv_icmp_eq (tgt := 1461) hx hb dL_law_1433 (by decide) (fun _ => ?_) (fun c => absurd c (by decide +kernel))
    exact law_tail l X hr hlk hX hbl hw6.2.2 hl (Nat.le_of_ble_eq_true rfl) (Nat.le_of_ble_eq_true rfl)
  refine lv_aload_n hx hb dL_law_1415 rfl (lv_at hl 2 rfl) ?_
  refine lv_aload_n hx hb dL_law_1416 rfl (lv_at hl 3 rfl) ?_
  refine lv_iload_n hx hb dL_law_1417 rfl (lv_at hl 0 rfl) ?_
  refine lv_iconst (v := 1) hx hb dL_law_1418 (by decide) ?_
  refine lv_iadd hx hb dL_law_1419 ?_
  refine q_c 1 (by decide +kernel) ?_
  refine va_sld X.1 X.2.1 hX hbl hbA hw6.2.2 (q_in (by decide +kernel)) dL_law_1420 ?_
  refine q_c a1 e1 ?_
  have g_12943 : (2 : Int32) ≤ a1 := by
    simp only [Int32.lt_iff_toInt_lt, Int32.le_iff_toInt_le, ← Int32.toInt_inj] at c_12887 c_12908 c_12915 ⊢
    have k_0 : ((-1) : Int32).toInt = -1 := by decide
    have k_1 : (0 : Int32).toInt = 0 := by decide
    have k_2 : (1 : Int32).toInt = 1 := by decide
    have k_g : (2 : Int32).toInt = 2 := by decide
    omega
  refine q_callVi (rest := []) (wr := [(y0, .inr (12, [.int 0, .ref (u_1.1 19), .ref (u_1.1 0), .ref (u_1.1 1), .ref (u_1.1 2), .int 0, .int 0, .int 0, .int 0, .int 0, .int 0, .int 0, .int 0, .int 0, .int (-1), .int 0, .ref (u_1.1 3), .ref (u_1.1 4), .ref (u_1.1 5), .ref (u_1.1 6), .ref (u_1.1 7), .int 0, .int 0, .ref (u_1.1 8), .ref (u_1.1 9), .ref (u_1.1 10), .int 0, .int 0, .ref (u_1.1 11), .ref (u_1.1 12), .ref (u_1.1 13), .ref (u_1.1 14), .ref (u_1.1 15), .int 0, .ref (u_1.1 16), .ref (u_1.1 17), .ref (u_1.1 18)]))]) X hK hA hw6 (fun sz => kX11_restore_523 l D cy x0 a1 (u_0.1 0) (u_0.1 1) (u_0.1 37) (u_0.1 39) (u_0.1 41) (u_0.1 43) (u_0.1 14) (u_0.1 15) (u_0.1 16) (u_0.1 17) (u_0.1 20) (u_0.1 24) (u_0.1 29) g_12943 sz) wm_5_149 wm_5_152 wm_1_1 hd_X11_restore wm_5_150 wm_5_151 (ci := 11) (q0 := 0) rfl rfl ⟨Nat.le_of_ble_eq_true rfl, Nat.le_of_ble_eq_true rfl⟩ hl.1 rfl (Nat.le_of_ble_eq_true rfl) dL_law_1421 ⟨Nat.le_of_ble_eq_true rfl, Nat.le_of_ble_eq_true rfl⟩ [0] [78] rfl rfl (by decide) rfl rfl (fun r_12944 u_12944 Hp7 lc7 w_12944 hw7 => ?_)
  clear Hp6 lc6 hw6
  obtain rfl : r_12944 = (-2) := w_12944
  replace hw7 : qW D _ _ [(y0, .inr (12, [.int 0, .ref (u_1.1 19), .ref (u_1.1 0), .ref (u_1.1 1), .ref (u_1.1 2), .int 0, .int 0, .int 0, .int 0, .int 0, .int 0, .int 0, .int 0, .int 0, .int (-1), .int 0, .ref (u_1.1 3), .ref (u_1.1 4), .ref (u_1.1 5), .ref (u_1.1 6), .ref (u_1.1 7), .int 0, .int 0, .ref (u_1.1 8), .ref (u_1.1 9), .ref (u_1.1 10), .int 0, .int 0, .ref (u_1.1 11), .ref (u_1.1 12), .ref (u_1.1 13), .ref (u_1.1 14), .ref (u_1.1 15), .int 0, .ref (u_1.1 16), .ref (u_1.1 17), .ref (u_1.1 18)]))] _ _ := hw7
  refine lv_aload_n hx hb dL_law_1424 rfl (lv_at hl 1 rfl) ?_
  refine lv_aload_n hx hb dL_law_1425 rfl (lv_at hl 3 rfl) ?_
  refine lv_iload_n hx hb dL_law_1426 rfl (lv_at hl 0 rfl) ?_
  refine lv_iconst (v := 1) hx hb dL_law_1427 (by decide) ?_
  refine lv_iadd hx hb dL_law_1428 ?_
  refine q_c 1 (by decide +kernel) ?_
  refine va_sld X.1 X.2.1 hX hbl hbA hw7.2.2 (q_in (by decide +kernel)) dL_law_1429 ?_
  refine q_c a1 e1 ?_
  have g_12949 : (2 : Int32) ≤ a1 := by
    simp only [Int32.lt_iff_toInt_lt, Int32.le_iff_toInt_le, ← Int32.toInt_inj] at c_12887 c_12908 c_12915 ⊢
    have k_0 : ((-1) : Int32).toInt = -1 := by decide
    have k_1 : (0 : Int32).toInt = 0 := by decide
    have k_2 : (1 : Int32).toInt = 1 := by decide
    have k_g : (2 : Int32).toInt = 2 := by decide
    omega
  refine q_callVi (rest := [.int (-2)]) (wr := []) X hK hA hw7 (fun sz => kX12_restore_524 l D cy y0 a1 (u_1.1 19) (u_1.1 0) (u_1.1 1) (u_1.1 2) (u_1.1 3) (u_1.1 4) (u_1.1 5) (u_1.1 6) (u_1.1 7) (u_1.1 8) (u_1.1 9) (u_1.1 10) (u_1.1 11) (u_1.1 12) (u_1.1 13) (u_1.1 14) (u_1.1 15) (u_1.1 16) (u_1.1 17) (u_1.1 18) g_12949 sz) wm_8_47 wm_8_50 wm_1_12 hd_X12_restore wm_8_48 wm_8_49 (ci := 12) (q0 := 0) rfl rfl ⟨Nat.le_of_ble_eq_true rfl, Nat.le_of_ble_eq_true rfl⟩ hl.1 rfl (Nat.le_of_ble_eq_true rfl) dL_law_1430 ⟨Nat.le_of_ble_eq_true rfl, Nat.le_of_ble_eq_true rfl⟩ [0] [] rfl rfl (by decide) rfl rfl (fun r_12950 u_12950 Hp8 lc8 w_12950 hw8 => ?_)
  clear Hp7 lc7 hw7
  obtain rfl : r_12950 = (-2) := w_12950
  replace hw8 : qW D _ _ [] _ _ := hw8
  refine lv_icmp_eq (tgt := 1461) hx hb dL_law_1433 (by decide) (fun _ => ?_) (fun c => absurd c (by decide +kernel))
  exact law_tail l X hr hlk hX hbl hw8.2.2 hl (Nat.le_of_ble_eq_true rfl) (Nat.le_of_ble_eq_true rfl)
