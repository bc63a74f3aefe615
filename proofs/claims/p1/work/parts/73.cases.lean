set_option maxHeartbeats 4000000 in
set_option maxRecDepth 100000 in
theorem lc_numbers (l : Launch) {p : Program} {e : Env} {s : State} {m : MethodId} {below : List Frame} {meth : Method} {c : Code} {b : Nat} {xs : Nat → Int32} {D : va_G} {cy : Nat → ClassId} {H : Heap} {locs : List Loc} {ls : Array Slot} {x0 y0 : Nat} {u_0 u_1 : SS} (X : qX p s m #[Value.ref b] c cL_law 4 RL) (hr : meth.sig.returnType = ret) (hlk : meth.locks = false) (hX : va_X b 6 xs s s.heap) (hbl : b < s.heap.size) (hK : qK D cy s) (a1 a2 a3 a4 a5 : Int32) (e1 : xs (Int32.toNatClampNeg 1) = a1) (e2 : xs (Int32.toNatClampNeg 2) = a2) (e3 : xs (Int32.toNatClampNeg 3) = a3) (e4 : xs (Int32.toNatClampNeg 4) = a4) (e5 : xs (Int32.toNatClampNeg 5) = a5) (h : qW D (fun q => s.heap.size ≤ q) s.heap (wLaw cy x0 y0 u_0 u_1) H locs) (hl : lv_has ls 4 [(3, .int 0), (2, .ref y0), (1, .ref x0), (0, .ref b)]) : W p l e room_1 s m #[Value.ref b] below meth c H locs 99 25544 (lw_Z below #[Value.ref b] s) (F0 m 1232 ls []) := by
  obtain ⟨hx, hb, hml, hown, ht⟩ := id X
  have hA : ∀ q : Nat, s.heap.size ≤ q → (fun q : Nat => s.heap.size ≤ q) q := fun _ h => h
  have hbA : ¬ (fun q : Nat => s.heap.size ≤ q) b := Nat.not_le.mpr hbl
  by_cases c_12151 : a1 ≤ (-1)
  · skip
    refine lv_aload_n hx hb dL_law_1232 rfl (lv_at hl 2 rfl) ?_
    refine lv_aload_n hx hb dL_law_1233 rfl (lv_at hl 3 rfl) ?_
    refine lv_iload_n hx hb dL_law_1234 rfl (lv_at hl 0 rfl) ?_
    refine lv_iconst (v := 1) hx hb dL_law_1235 (by decide) ?_
    refine lv_iadd hx hb dL_law_1236 ?_
    refine q_c 1 (by decide +kernel) ?_
    refine va_sld X.1 X.2.1 hX hbl hbA h.2.2 (q_in (by decide +kernel)) dL_law_1237 ?_
    refine q_c a1 e1 ?_
    refine lv_aload_n hx hb dL_law_1238 rfl (lv_at hl 3 rfl) ?_
    refine lv_iload_n hx hb dL_law_1239 rfl (lv_at hl 0 rfl) ?_
    refine lv_iconst (v := 2) hx hb dL_law_1240 (by decide) ?_
    refine lv_iadd hx hb dL_law_1241 ?_
    refine q_c 2 (by decide +kernel) ?_
    refine va_sld X.1 X.2.1 hX hbl hbA h.2.2 (q_in (by decide +kernel)) dL_law_1242 ?_
    refine q_c a2 e2 ?_
    refine lv_aload_n hx hb dL_law_1243 rfl (lv_at hl 3 rfl) ?_
    refine lv_iload_n hx hb dL_law_1244 rfl (lv_at hl 0 rfl) ?_
    refine lv_iconst (v := 3) hx hb dL_law_1245 (by decide) ?_
    refine lv_iadd hx hb dL_law_1246 ?_
    refine q_c 3 (by decide +kernel) ?_
    refine va_sld X.1 X.2.1 hX hbl hbA h.2.2 (q_in (by decide +kernel)) dL_law_1247 ?_
    refine q_c a3 e3 ?_
    have g_12173 : a1 ≤ ((-1) : Int32) := by
      simp only [Int32.lt_iff_toInt_lt, Int32.le_iff_toInt_le, ← Int32.toInt_inj] at c_12151 ⊢
      have k_0 : ((-1) : Int32).toInt = -1 := by decide
      omega
    refine q_callVi (rest := []) (wr := [(y0, .inr (12, [.int 0, .ref (u_1.1 19), .ref (u_1.1 0), .ref (u_1.1 1), .ref (u_1.1 2), .int 0, .int 0, .int 0, .int 0, .int 0, .int 0, .int 0, .int 0, .int 0, .int (-1), .int 0, .ref (u_1.1 3), .ref (u_1.1 4), .ref (u_1.1 5), .ref (u_1.1 6), .ref (u_1.1 7), .int 0, .int 0, .ref (u_1.1 8), .ref (u_1.1 9), .ref (u_1.1 10), .int 0, .int 0, .ref (u_1.1 11), .ref (u_1.1 12), .ref (u_1.1 13), .ref (u_1.1 14), .ref (u_1.1 15), .int 0, .ref (u_1.1 16), .ref (u_1.1 17), .ref (u_1.1 18)]))]) X hK hA h (fun sz => kX11_numbers_514 l D cy x0 a1 a2 a3 (u_0.1 0) (u_0.1 1) (u_0.1 37) (u_0.1 39) (u_0.1 41) (u_0.1 43) (u_0.1 14) (u_0.1 15) (u_0.1 16) (u_0.1 17) (u_0.1 20) (u_0.1 24) (u_0.1 29) g_12173 sz) wm_5_120 wm_5_123 wm_1_1 hd_X11_numbers wm_5_121 wm_5_122 (ci := 11) (q0 := 0) rfl rfl ⟨Nat.le_of_ble_eq_true rfl, Nat.le_of_ble_eq_true rfl⟩ hl.1 rfl (Nat.le_of_ble_eq_true rfl) dL_law_1248 ⟨Nat.le_of_ble_eq_true rfl, Nat.le_of_ble_eq_true rfl⟩ [0] [78] rfl rfl (by decide) rfl rfl (fun r_12174 u_12174 Hp1 lc1 w_12174 hw1 => ?_)
    clear h
    obtain rfl : r_12174 = (-2) := w_12174
    clear w_12174
    replace hw1 : qW D _ _ [(y0, .inr (12, [.int 0, .ref (u_1.1 19), .ref (u_1.1 0), .ref (u_1.1 1), .ref (u_1.1 2), .int 0, .int 0, .int 0, .int 0, .int 0, .int 0, .int 0, .int 0, .int 0, .int (-1), .int 0, .ref (u_1.1 3), .ref (u_1.1 4), .ref (u_1.1 5), .ref (u_1.1 6), .ref (u_1.1 7), .int 0, .int 0, .ref (u_1.1 8), .ref (u_1.1 9), .ref (u_1.1 10), .int 0, .int 0, .ref (u_1.1 11), .ref (u_1.1 12), .ref (u_1.1 13), .ref (u_1.1 14), .ref (u_1.1 15), .int 0, .ref (u_1.1 16), .ref (u_1.1 17), .ref (u_1.1 18)]))] _ _ := hw1
    refine lv_aload_n hx hb dL_law_1251 rfl (lv_at hl 1 rfl) ?_
    refine lv_aload_n hx hb dL_law_1252 rfl (lv_at hl 3 rfl) ?_
    refine lv_iload_n hx hb dL_law_1253 rfl (lv_at hl 0 rfl) ?_
    refine lv_iconst (v := 1) hx hb dL_law_1254 (by decide) ?_
    refine lv_iadd hx hb dL_law_1255 ?_
    refine q_c 1 (by decide +kernel) ?_
    refine va_sld X.1 X.2.1 hX hbl hbA hw1.2.2 (q_in (by decide +kernel)) dL_law_1256 ?_
    refine q_c a1 e1 ?_
    refine lv_aload_n hx hb dL_law_1257 rfl (lv_at hl 3 rfl) ?_
    refine lv_iload_n hx hb dL_law_1258 rfl (lv_at hl 0 rfl) ?_
    refine lv_iconst (v := 2) hx hb dL_law_1259 (by decide) ?_
    refine lv_iadd hx hb dL_law_1260 ?_
    refine q_c 2 (by decide +kernel) ?_
    refine va_sld X.1 X.2.1 hX hbl hbA hw1.2.2 (q_in (by decide +kernel)) dL_law_1261 ?_
    refine q_c a2 e2 ?_
    refine lv_aload_n hx hb dL_law_1262 rfl (lv_at hl 3 rfl) ?_
    refine lv_iload_n hx hb dL_law_1263 rfl (lv_at hl 0 rfl) ?_
    refine lv_iconst (v := 3) hx hb dL_law_1264 (by decide) ?_
    refine lv_iadd hx hb dL_law_1265 ?_
    refine q_c 3 (by decide +kernel) ?_
    refine va_sld X.1 X.2.1 hX hbl hbA hw1.2.2 (q_in (by decide +kernel)) dL_law_1266 ?_
    refine q_c a3 e3 ?_
    have g_12178 : a1 ≤ ((-1) : Int32) := by
      simp only [Int32.lt_iff_toInt_lt, Int32.le_iff_toInt_le, ← Int32.toInt_inj] at c_12151 ⊢
      have k_0 : ((-1) : Int32).toInt = -1 := by decide
      omega
    refine q_callVi (rest := [.int (-2)]) (wr := []) X hK hA hw1 (fun sz => kX12_numbers_515 l D cy y0 a1 a2 a3 (u_1.1 19) (u_1.1 0) (u_1.1 1) (u_1.1 2) (u_1.1 3) (u_1.1 4) (u_1.1 5) (u_1.1 6) (u_1.1 7) (u_1.1 8) (u_1.1 9) (u_1.1 10) (u_1.1 11) (u_1.1 12) (u_1.1 13) (u_1.1 14) (u_1.1 15) (u_1.1 16) (u_1.1 17) (u_1.1 18) g_12178 sz) wm_8_27 wm_8_30 wm_1_12 hd_X12_numbers wm_8_28 wm_8_29 (ci := 12) (q0 := 0) rfl rfl ⟨Nat.le_of_ble_eq_true rfl, Nat.le_of_ble_eq_true rfl⟩ hl.1 rfl (Nat.le_of_ble_eq_true rfl) dL_law_1267 ⟨Nat.le_of_ble_eq_true rfl, Nat.le_of_ble_eq_true rfl⟩ [0] [] rfl rfl (by decide) rfl rfl (fun r_12179 u_12179 Hp2 lc2 w_12179 hw2 => ?_)
    clear Hp1 lc1 hw1
    obtain rfl : r_12179 = (-2) := w_12179
    clear w_12179
    replace hw2 : qW D _ _ [] _ _ := hw2
    refine lv_icmp_eq (tgt := 1461) hx hb dL_law_1270 (by decide) (fun _ => ?_) (fun c => absurd c (by decide +kernel))
    exact law_tail l X hr hlk hX hbl hw2.2.2 hl (Nat.le_of_ble_eq_true rfl) (Nat.le_of_ble_eq_true rfl)
  by_cases c_12180 : a1 = 0
  · subst c_12180
    by_cases c_12205 : a2 ≤ (-1)
    · skip
      refine lv_aload_n hx hb dL_law_1232 rfl (lv_at hl 2 rfl) ?_
      refine lv_aload_n hx hb dL_law_1233 rfl (lv_at hl 3 rfl) ?_
      refine lv_iload_n hx hb dL_law_1234 rfl (lv_at hl 0 rfl) ?_
      refine lv_iconst (v := 1) hx hb dL_law_1235 (by decide) ?_
      refine lv_iadd hx hb dL_law_1236 ?_
      refine q_c 1 (by decide +kernel) ?_
      refine va_sld X.1 X.2.1 hX hbl hbA hw2.2.2 (q_in (by decide +kernel)) dL_law_1237 ?_
      refine q_c 0 e1 ?_
      refine lv_aload_n hx hb dL_law_1238 rfl (lv_at hl 3 rfl) ?_
      refine lv_iload_n hx hb dL_law_1239 rfl (lv_at hl 0 rfl) ?_
      refine lv_iconst (v := 2) hx hb dL_law_1240 (by decide) ?_
      refine lv_iadd hx hb dL_law_1241 ?_
      refine q_c 2 (by decide +kernel) ?_
      refine va_sld X.1 X.2.1 hX hbl hbA hw2.2.2 (q_in (by decide +kernel)) dL_law_1242 ?_
      refine q_c a2 e2 ?_
      refine lv_aload_n hx hb dL_law_1243 rfl (lv_at hl 3 rfl) ?_
      refine lv_iload_n hx hb dL_law_1244 rfl (lv_at hl 0 rfl) ?_
      refine lv_iconst (v := 3) hx hb dL_law_1245 (by decide) ?_
      refine lv_iadd hx hb dL_law_1246 ?_
      refine q_c 3 (by decide +kernel) ?_
      refine va_sld X.1 X.2.1 hX hbl hbA hw2.2.2 (q_in (by decide +kernel)) dL_law_1247 ?_
      refine q_c a3 e3 ?_
      have g_12226 : a2 ≤ ((-1) : Int32) := by
        simp only [Int32.lt_iff_toInt_lt, Int32.le_iff_toInt_le, ← Int32.toInt_inj] at c_12205 ⊢
        have k_0 : ((-1) : Int32).toInt = -1 := by decide
        omega
      refine q_callVi (rest := []) (wr := [(y0, .inr (12, [.int 0, .ref (u_1.1 19), .ref (u_1.1 0), .ref (u_1.1 1), .ref (u_1.1 2), .int 0, .int 0, .int 0, .int 0, .int 0, .int 0, .int 0, .int 0, .int 0, .int (-1), .int 0, .ref (u_1.1 3), .ref (u_1.1 4), .ref (u_1.1 5), .ref (u_1.1 6), .ref (u_1.1 7), .int 0, .int 0, .ref (u_1.1 8), .ref (u_1.1 9), .ref (u_1.1 10), .int 0, .int 0, .ref (u_1.1 11), .ref (u_1.1 12), .ref (u_1.1 13), .ref (u_1.1 14), .ref (u_1.1 15), .int 0, .ref (u_1.1 16), .ref (u_1.1 17), .ref (u_1.1 18)]))]) X hK hA hw2 (fun sz => kX11_numbers_518 l D cy x0 a2 a3 (u_0.1 0) (u_0.1 1) (u_0.1 37) (u_0.1 39) (u_0.1 41) (u_0.1 43) (u_0.1 14) (u_0.1 15) (u_0.1 16) (u_0.1 17) (u_0.1 20) (u_0.1 24) (u_0.1 29) g_12226 sz) wm_5_120 wm_5_123 wm_1_1 hd_X11_numbers wm_5_121 wm_5_122 (ci := 11) (q0 := 0) rfl rfl ⟨Nat.le_of_ble_eq_true rfl, Nat.le_of_ble_eq_true rfl⟩ hl.1 rfl (Nat.le_of_ble_eq_true rfl) dL_law_1248 ⟨Nat.le_of_ble_eq_true rfl, Nat.le_of_ble_eq_true rfl⟩ [0] [78] rfl rfl (by decide) rfl rfl (fun r_12227 u_12227 Hp3 lc3 w_12227 hw3 => ?_)
      clear Hp2 lc2 hw2
      obtain rfl : r_12227 = (-2) := w_12227
      clear w_12227
      replace hw3 : qW D _ _ [(y0, .inr (12, [.int 0, .ref (u_1.1 19), .ref (u_1.1 0), .ref (u_1.1 1), .ref (u_1.1 2), .int 0, .int 0, .int 0, .int 0, .int 0, .int 0, .int 0, .int 0, .int 0, .int (-1), .int 0, .ref (u_1.1 3), .ref (u_1.1 4), .ref (u_1.1 5), .ref (u_1.1 6), .ref (u_1.1 7), .int 0, .int 0, .ref (u_1.1 8), .ref (u_1.1 9), .ref (u_1.1 10), .int 0, .int 0, .ref (u_1.1 11), .ref (u_1.1 12), .ref (u_1.1 13), .ref (u_1.1 14), .ref (u_1.1 15), .int 0, .ref (u_1.1 16), .ref (u_1.1 17), .ref (u_1.1 18)]))] _ _ := hw3
      refine lv_aload_n hx hb dL_law_1251 rfl (lv_at hl 1 rfl) ?_
      refine lv_aload_n hx hb dL_law_1252 rfl (lv_at hl 3 rfl) ?_
      refine lv_iload_n hx hb dL_law_1253 rfl (lv_at hl 0 rfl) ?_
      refine lv_iconst (v := 1) hx hb dL_law_1254 (by decide) ?_
      refine lv_iadd hx hb dL_law_1255 ?_
      refine q_c 1 (by decide +kernel) ?_
      refine va_sld X.1 X.2.1 hX hbl hbA hw3.2.2 (q_in (by decide +kernel)) dL_law_1256 ?_
      refine q_c 0 e1 ?_
      refine lv_aload_n hx hb dL_law_1257 rfl (lv_at hl 3 rfl) ?_
      refine lv_iload_n hx hb dL_law_1258 rfl (lv_at hl 0 rfl) ?_
      refine lv_iconst (v := 2) hx hb dL_law_1259 (by decide) ?_
      refine lv_iadd hx hb dL_law_1260 ?_
      refine q_c 2 (by decide +kernel) ?_
      refine va_sld X.1 X.2.1 hX hbl hbA hw3.2.2 (q_in (by decide +kernel)) dL_law_1261 ?_
      refine q_c a2 e2 ?_
      refine lv_aload_n hx hb dL_law_1262 rfl (lv_at hl 3 rfl) ?_
      refine lv_iload_n hx hb dL_law_1263 rfl (lv_at hl 0 rfl) ?_
      refine lv_iconst (v := 3) hx hb dL_law_1264 (by decide) ?_
      refine lv_iadd hx hb dL_law_1265 ?_
      refine q_c 3 (by decide +kernel) ?_
      refine va_sld X.1 X.2.1 hX hbl hbA hw3.2.2 (q_in (by decide +kernel)) dL_law_1266 ?_
      refine q_c a3 e3 ?_
      have g_12232 : a2 ≤ ((-1) : Int32) := by
        simp only [Int32.lt_iff_toInt_lt, Int32.le_iff_toInt_le, ← Int32.toInt_inj] at c_12205 ⊢
        have k_0 : ((-1) : Int32).toInt = -1 := by decide
        omega
      refine q_callVi (rest := [.int (-2)]) (wr := []) X hK hA hw3 (fun sz => kX12_numbers_519 l D cy y0 a2 a3 (u_1.1 19) (u_1.1 0) (u_1.1 1) (u_1.1 2) (u_1.1 3) (u_1.1 4) (u_1.1 5) (u_1.1 6) (u_1.1 7) (u_1.1 8) (u_1.1 9) (u_1.1 10) (u_1.1 11) (u_1.1 12) (u_1.1 13) (u_1.1 14) (u_1.1 15) (u_1.1 16) (u_1.1 17) (u_1.1 18) g_12232 sz) wm_8_27 wm_8_30 wm_1_12 hd_X12_numbers wm_8_28 wm_8_29 (ci := 12) (q0 := 0) rfl rfl ⟨Nat.le_of_ble_eq_true rfl, Nat.le_of_ble_eq_true rfl⟩ hl.1 rfl (Nat.le_of_ble_eq_true rfl) dL_law_1267 ⟨Nat.le_of_ble_eq_true rfl, Nat.le_of_ble_eq_true rfl⟩ [0] [] rfl rfl (by decide) rfl rfl (fun r_12233 u_12233 Hp4 lc4 w_12233 hw4 => ?_)
      clear Hp3 lc3 hw3
      obtain rfl : r_12233 = (-2) := w_12233
      clear w_12233
      replace hw4 : qW D _ _ [] _ _ := hw4
      refine lv_icmp_eq (tgt := 1461) hx hb dL_law_1270 (by decide) (fun _ => ?_) (fun c => absurd c (by decide +kernel))
      exact law_tail l X hr hlk hX hbl hw4.2.2 hl (Nat.le_of_ble_eq_true rfl) (Nat.le_of_ble_eq_true rfl)
    by_cases c_12234 : a2 ≤ 3
    · skip
      by_cases c_12257 : a3 ≤ (-1)
      · skip
        refine lv_aload_n hx hb dL_law_1232 rfl (lv_at hl 2 rfl) ?_
        refine lv_aload_n hx hb dL_law_1233 rfl (lv_at hl 3 rfl) ?_
        refine lv_iload_n hx hb dL_law_1234 rfl (lv_at hl 0 rfl) ?_
        refine lv_iconst (v := 1) hx hb dL_law_1235 (by decide) ?_
        refine lv_iadd hx hb dL_law_1236 ?_
        refine q_c 1 (by decide +kernel) ?_
        refine va_sld X.1 X.2.1 hX hbl hbA hw4.2.2 (q_in (by decide +kernel)) dL_law_1237 ?_
        refine q_c 0 e1 ?_
        refine lv_aload_n hx hb dL_law_1238 rfl (lv_at hl 3 rfl) ?_
        refine lv_iload_n hx hb dL_law_1239 rfl (lv_at hl 0 rfl) ?_
        refine lv_iconst (v := 2) hx hb dL_law_1240 (by decide) ?_
        refine lv_iadd hx hb dL_law_1241 ?_
        refine q_c 2 (by decide +kernel) ?_
        refine va_sld X.1 X.2.1 hX hbl hbA hw4.2.2 (q_in (by decide +kernel)) dL_law_1242 ?_
        refine q_c a2 e2 ?_
        refine lv_aload_n hx hb dL_law_1243 rfl (lv_at hl 3 rfl) ?_
        refine lv_iload_n hx hb dL_law_1244 rfl (lv_at hl 0 rfl) ?_
        refine lv_iconst (v := 3) hx hb dL_law_1245 (by decide) ?_
        refine lv_iadd hx hb dL_law_1246 ?_
        refine q_c 3 (by decide +kernel) ?_
        refine va_sld X.1 X.2.1 hX hbl hbA hw4.2.2 (q_in (by decide +kernel)) dL_law_1247 ?_
        refine q_c a3 e3 ?_
        have g_12303 : (0 : Int32) ≤ a2 := by
          simp only [Int32.lt_iff_toInt_lt, Int32.le_iff_toInt_le, ← Int32.toInt_inj] at c_12205 c_12234 ⊢
          have k_0 : ((-1) : Int32).toInt = -1 := by decide
          have k_1 : (3 : Int32).toInt = 3 := by decide
          have k_g : (0 : Int32).toInt = 0 := by decide
          omega
        have g_12304 : a2 ≤ (3 : Int32) := by
          simp only [Int32.lt_iff_toInt_lt, Int32.le_iff_toInt_le, ← Int32.toInt_inj] at c_12205 c_12234 ⊢
          have k_0 : ((-1) : Int32).toInt = -1 := by decide
          have k_1 : (3 : Int32).toInt = 3 := by decide
          omega
        have g_12305 : a3 ≤ ((-1) : Int32) := by
          simp only [Int32.lt_iff_toInt_lt, Int32.le_iff_toInt_le, ← Int32.toInt_inj] at c_12257 ⊢
          have k_0 : ((-1) : Int32).toInt = -1 := by decide
          omega
        refine q_callVi (rest := []) (wr := [(y0, .inr (12, [.int 0, .ref (u_1.1 19), .ref (u_1.1 0), .ref (u_1.1 1), .ref (u_1.1 2), .int 0, .int 0, .int 0, .int 0, .int 0, .int 0, .int 0, .int 0, .int 0, .int (-1), .int 0, .ref (u_1.1 3), .ref (u_1.1 4), .ref (u_1.1 5), .ref (u_1.1 6), .ref (u_1.1 7), .int 0, .int 0, .ref (u_1.1 8), .ref (u_1.1 9), .ref (u_1.1 10), .int 0, .int 0, .ref (u_1.1 11), .ref (u_1.1 12), .ref (u_1.1 13), .ref (u_1.1 14), .ref (u_1.1 15), .int 0, .ref (u_1.1 16), .ref (u_1.1 17), .ref (u_1.1 18)]))]) X hK hA hw4 (fun sz => kX11_numbers_520 l D cy x0 a2 a3 (u_0.1 0) (u_0.1 1) (u_0.1 37) (u_0.1 39) (u_0.1 41) (u_0.1 43) (u_0.1 14) (u_0.1 15) (u_0.1 16) (u_0.1 17) (u_0.1 20) (u_0.1 24) (u_0.1 29) g_12303 g_12304 g_12305 sz) wm_5_120 wm_5_123 wm_1_1 hd_X11_numbers wm_5_121 wm_5_122 (ci := 11) (q0 := 0) rfl rfl ⟨Nat.le_of_ble_eq_true rfl, Nat.le_of_ble_eq_true rfl⟩ hl.1 rfl (Nat.le_of_ble_eq_true rfl) dL_law_1248 ⟨Nat.le_of_ble_eq_true rfl, Nat.le_of_ble_eq_true rfl⟩ [0] [78] rfl rfl (by decide) rfl rfl (fun r_12306 u_12306 Hp5 lc5 w_12306 hw5 => ?_)
        clear Hp4 lc4 hw4
        obtain rfl : r_12306 = (-3) := w_12306
        clear w_12306
        replace hw5 : qW D _ _ [(y0, .inr (12, [.int 0, .ref (u_1.1 19), .ref (u_1.1 0), .ref (u_1.1 1), .ref (u_1.1 2), .int 0, .int 0, .int 0, .int 0, .int 0, .int 0, .int 0, .int 0, .int 0, .int (-1), .int 0, .ref (u_1.1 3), .ref (u_1.1 4), .ref (u_1.1 5), .ref (u_1.1 6), .ref (u_1.1 7), .int 0, .int 0, .ref (u_1.1 8), .ref (u_1.1 9), .ref (u_1.1 10), .int 0, .int 0, .ref (u_1.1 11), .ref (u_1.1 12), .ref (u_1.1 13), .ref (u_1.1 14), .ref (u_1.1 15), .int 0, .ref (u_1.1 16), .ref (u_1.1 17), .ref (u_1.1 18)]))] _ _ := hw5
        refine lv_aload_n hx hb dL_law_1251 rfl (lv_at hl 1 rfl) ?_
        refine lv_aload_n hx hb dL_law_1252 rfl (lv_at hl 3 rfl) ?_
        refine lv_iload_n hx hb dL_law_1253 rfl (lv_at hl 0 rfl) ?_
        refine lv_iconst (v := 1) hx hb dL_law_1254 (by decide) ?_
        refine lv_iadd hx hb dL_law_1255 ?_
        refine q_c 1 (by decide +kernel) ?_
        refine va_sld X.1 X.2.1 hX hbl hbA hw5.2.2 (q_in (by decide +kernel)) dL_law_1256 ?_
        refine q_c 0 e1 ?_
        refine lv_aload_n hx hb dL_law_1257 rfl (lv_at hl 3 rfl) ?_
        refine lv_iload_n hx hb dL_law_1258 rfl (lv_at hl 0 rfl) ?_
        refine lv_iconst (v := 2) hx hb dL_law_1259 (by decide) ?_
        refine lv_iadd hx hb dL_law_1260 ?_
        refine q_c 2 (by decide +kernel) ?_
        refine va_sld X.1 X.2.1 hX hbl hbA hw5.2.2 (q_in (by decide +kernel)) dL_law_1261 ?_
        refine q_c a2 e2 ?_
        refine lv_aload_n hx hb dL_law_1262 rfl (lv_at hl 3 rfl) ?_
        refine lv_iload_n hx hb dL_law_1263 rfl (lv_at hl 0 rfl) ?_
        refine lv_iconst (v := 3) hx hb dL_law_1264 (by decide) ?_
        refine lv_iadd hx hb dL_law_1265 ?_
        refine q_c 3 (by decide +kernel) ?_
        refine va_sld X.1 X.2.1 hX hbl hbA hw5.2.2 (q_in (by decide +kernel)) dL_law_1266 ?_
        refine q_c a3 e3 ?_
        have g_12316 : (0 : Int32) ≤ a2 := by
          simp only [Int32.lt_iff_toInt_lt, Int32.le_iff_toInt_le, ← Int32.toInt_inj] at c_12205 c_12234 ⊢
          have k_0 : ((-1) : Int32).toInt = -1 := by decide
          have k_1 : (3 : Int32).toInt = 3 := by decide
          have k_g : (0 : Int32).toInt = 0 := by decide
          omega
        have g_12317 : a2 ≤ (3 : Int32) := by
          simp only [Int32.lt_iff_toInt_lt, Int32.le_iff_toInt_le, ← Int32.toInt_inj] at c_12205 c_12234 ⊢
          have k_0 : ((-1) : Int32).toInt = -1 := by decide
          have k_1 : (3 : Int32).toInt = 3 := by decide
          omega
        have g_12318 : a3 ≤ ((-1) : Int32) := by
          simp only [Int32.lt_iff_toInt_lt, Int32.le_iff_toInt_le, ← Int32.toInt_inj] at c_12257 ⊢
          have k_0 : ((-1) : Int32).toInt = -1 := by decide
          omega
        refine q_callVi (rest := [.int (-3)]) (wr := []) X hK hA hw5 (fun sz => kX12_numbers_522 l D cy y0 a2 a3 (u_1.1 19) (u_1.1 0) (u_1.1 1) (u_1.1 2) (u_1.1 3) (u_1.1 4) (u_1.1 5) (u_1.1 6) (u_1.1 7) (u_1.1 8) (u_1.1 9) (u_1.1 10) (u_1.1 11) (u_1.1 12) (u_1.1 13) (u_1.1 14) (u_1.1 15) (u_1.1 16) (u_1.1 17) (u_1.1 18) g_12316 g_12317 g_12318 sz) wm_8_27 wm_8_30 wm_1_12 hd_X12_numbers wm_8_28 wm_8_29 (ci := 12) (q0 := 0) rfl rfl ⟨Nat.le_of_ble_eq_true rfl, Nat.le_of_ble_eq_true rfl⟩ hl.1 rfl (Nat.le_of_ble_eq_true rfl) dL_law_1267 ⟨Nat.le_of_ble_eq_true rfl, Nat.le_of_ble_eq_true rfl⟩ [0] [] rfl rfl (by decide) rfl rfl (fun r_12319 u_12319 Hp6 lc6 w_12319 hw6 => ?_)
        clear Hp5 lc5 hw5
        obtain rfl : r_12319 = (-3) := w_12319
        clear w_12319
        replace hw6 : qW D _ _ [] _ _ := hw6
        refine lv_icmp_eq (tgt := 1461) hx hb dL_law_1270 (by decide) (fun _ => ?_) (fun c => absurd c (by decide +kernel))
        exact law_tail l X hr hlk hX hbl hw6.2.2 hl (Nat.le_of_ble_eq_true rfl) (Nat.le_of_ble_eq_true rfl)
      by_cases c_12320 : a3 ≤ 40
      · skip
        refine lv_aload_n hx hb dL_law_1232 rfl (lv_at hl 2 rfl) ?_
        refine lv_aload_n hx hb dL_law_1233 rfl (lv_at hl 3 rfl) ?_
        refine lv_iload_n hx hb dL_law_1234 rfl (lv_at hl 0 rfl) ?_
        refine lv_iconst (v := 1) hx hb dL_law_1235 (by decide) ?_
        refine lv_iadd hx hb dL_law_1236 ?_
        refine q_c 1 (by decide +kernel) ?_
        refine va_sld X.1 X.2.1 hX hbl hbA hw6.2.2 (q_in (by decide +kernel)) dL_law_1237 ?_
        refine q_c 0 e1 ?_
        refine lv_aload_n hx hb dL_law_1238 rfl (lv_at hl 3 rfl) ?_
        refine lv_iload_n hx hb dL_law_1239 rfl (lv_at hl 0 rfl) ?_
        refine lv_iconst (v := 2) hx hb dL_law_1240 (by decide) ?_
        refine lv_iadd hx hb dL_law_1241 ?_
        refine q_c 2 (by decide +kernel) ?_
        refine va_sld X.1 X.2.1 hX hbl hbA hw6.2.2 (q_in (by decide +kernel)) dL_law_1242 ?_
        refine q_c a2 e2 ?_
        refine lv_aload_n hx hb dL_law_1243 rfl (lv_at hl 3 rfl) ?_
        refine lv_iload_n hx hb dL_law_1244 rfl (lv_at hl 0 rfl) ?_
        refine lv_iconst (v := 3) hx hb dL_law_1245 (by decide) ?_
        refine lv_iadd hx hb dL_law_1246 ?_
        refine q_c 3 (by decide +kernel) ?_
        refine va_sld X.1 X.2.1 hX hbl hbA hw6.2.2 (q_in (by decide +kernel)) dL_law_1247 ?_
        refine q_c a3 e3 ?_
        have g_12408 : (0 : Int32) ≤ a2 := by
          simp only [Int32.lt_iff_toInt_lt, Int32.le_iff_toInt_le, ← Int32.toInt_inj] at c_12205 c_12234 ⊢
          have k_0 : ((-1) : Int32).toInt = -1 := by decide
          have k_1 : (3 : Int32).toInt = 3 := by decide
          have k_g : (0 : Int32).toInt = 0 := by decide
          omega
        have g_12409 : a2 ≤ (3 : Int32) := by
          simp only [Int32.lt_iff_toInt_lt, Int32.le_iff_toInt_le, ← Int32.toInt_inj] at c_12205 c_12234 ⊢
          have k_0 : ((-1) : Int32).toInt = -1 := by decide
          have k_1 : (3 : Int32).toInt = 3 := by decide
          omega
        have g_12410 : (0 : Int32) ≤ a3 := by
          simp only [Int32.lt_iff_toInt_lt, Int32.le_iff_toInt_le, ← Int32.toInt_inj] at c_12257 c_12320 ⊢
          have k_0 : ((-1) : Int32).toInt = -1 := by decide
          have k_1 : (40 : Int32).toInt = 40 := by decide
          have k_g : (0 : Int32).toInt = 0 := by decide
          omega
        have g_12411 : a3 ≤ (40 : Int32) := by
          simp only [Int32.lt_iff_toInt_lt, Int32.le_iff_toInt_le, ← Int32.toInt_inj] at c_12257 c_12320 ⊢
          have k_0 : ((-1) : Int32).toInt = -1 := by decide
          have k_1 : (40 : Int32).toInt = 40 := by decide
          omega
        refine q_callVi (rest := []) (wr := [(y0, .inr (12, [.int 0, .ref (u_1.1 19), .ref (u_1.1 0), .ref (u_1.1 1), .ref (u_1.1 2), .int 0, .int 0, .int 0, .int 0, .int 0, .int 0, .int 0, .int 0, .int 0, .int (-1), .int 0, .ref (u_1.1 3), .ref (u_1.1 4), .ref (u_1.1 5), .ref (u_1.1 6), .ref (u_1.1 7), .int 0, .int 0, .ref (u_1.1 8), .ref (u_1.1 9), .ref (u_1.1 10), .int 0, .int 0, .ref (u_1.1 11), .ref (u_1.1 12), .ref (u_1.1 13), .ref (u_1.1 14), .ref (u_1.1 15), .int 0, .ref (u_1.1 16), .ref (u_1.1 17), .ref (u_1.1 18)])), ((u_1.1 16), .inl (cy 1, 4, .inl (upd (upd (upd (upd (fun _ => 0) (Int32.toNatClampNeg 0) (-1)) (Int32.toNatClampNeg 1) (-1)) (Int32.toNatClampNeg 2) (-1)) (Int32.toNatClampNeg 3) (-1)))), ((u_1.1 17), .inl (cy 1, 4, .inl (fun _ => 0))), ((u_1.1 18), .inl (cy 2, 160, .inr (.inl (fun _ => 0))))]) X hK hA hw6 (fun sz => kX11_numbers_523 l D cy x0 (u_0.1 14) (u_0.1 65) (u_0.1 66) a2 a3 (u_0.1 0) (u_0.1 1) (u_0.1 37) (u_0.1 39) (u_0.1 41) (u_0.1 43) (u_0.1 15) (u_0.1 16) (u_0.1 17) (u_0.1 20) (u_0.1 24) (u_0.1 29) (u_0.1 71) (u_0.1 69) (u_0.1 67) g_12408 g_12409 g_12410 g_12411 sz) wm_5_120 wm_5_123 wm_1_1 hd_X11_numbers wm_5_121 wm_5_122 (ci := 11) (q0 := 0) rfl rfl ⟨Nat.le_of_ble_eq_true rfl, Nat.le_of_ble_eq_true rfl⟩ hl.1 rfl (Nat.le_of_ble_eq_true rfl) dL_law_1248 ⟨Nat.le_of_ble_eq_true rfl, Nat.le_of_ble_eq_true rfl⟩ [0, 15, 66, 67] [78, 95, 96, 97] rfl rfl (by decide) rfl rfl (fun r_12412 u_12412 Hp7 lc7 w_12412 hw7 => ?_)
        clear Hp6 lc6 hw6
        obtain rfl : r_12412 = 0 := w_12412
        clear w_12412
        replace hw7 : qW D _ _ [(y0, .inr (12, [.int 0, .ref (u_1.1 19), .ref (u_1.1 0), .ref (u_1.1 1), .ref (u_1.1 2), .int 0, .int 0, .int 0, .int 0, .int 0, .int 0, .int 0, .int 0, .int 0, .int (-1), .int 0, .ref (u_1.1 3), .ref (u_1.1 4), .ref (u_1.1 5), .ref (u_1.1 6), .ref (u_1.1 7), .int 0, .int 0, .ref (u_1.1 8), .ref (u_1.1 9), .ref (u_1.1 10), .int 0, .int 0, .ref (u_1.1 11), .ref (u_1.1 12), .ref (u_1.1 13), .ref (u_1.1 14), .ref (u_1.1 15), .int 0, .ref (u_1.1 16), .ref (u_1.1 17), .ref (u_1.1 18)])), ((u_1.1 16), .inl (cy 1, 4, .inl (upd (upd (upd (upd (fun _ => 0) (Int32.toNatClampNeg 0) (-1)) (Int32.toNatClampNeg 1) (-1)) (Int32.toNatClampNeg 2) (-1)) (Int32.toNatClampNeg 3) (-1)))), ((u_1.1 17), .inl (cy 1, 4, .inl (fun _ => 0))), ((u_1.1 18), .inl (cy 2, 160, .inr (.inl (fun _ => 0))))] _ _ := hw7
        refine lv_aload_n hx hb dL_law_1251 rfl (lv_at hl 1 rfl) ?_
        refine lv_aload_n hx hb dL_law_1252 rfl (lv_at hl 3 rfl) ?_
        refine lv_iload_n hx hb dL_law_1253 rfl (lv_at hl 0 rfl) ?_
        refine lv_iconst (v := 1) hx hb dL_law_1254 (by decide) ?_
        refine lv_iadd hx hb dL_law_1255 ?_
        refine q_c 1 (by decide +kernel) ?_
        refine va_sld X.1 X.2.1 hX hbl hbA hw7.2.2 (q_in (by decide +kernel)) dL_law_1256 ?_
        refine q_c 0 e1 ?_
        refine lv_aload_n hx hb dL_law_1257 rfl (lv_at hl 3 rfl) ?_
        refine lv_iload_n hx hb dL_law_1258 rfl (lv_at hl 0 rfl) ?_
        refine lv_iconst (v := 2) hx hb dL_law_1259 (by decide) ?_
        refine lv_iadd hx hb dL_law_1260 ?_
        refine q_c 2 (by decide +kernel) ?_
        refine va_sld X.1 X.2.1 hX hbl hbA hw7.2.2 (q_in (by decide +kernel)) dL_law_1261 ?_
        refine q_c a2 e2 ?_
        refine lv_aload_n hx hb dL_law_1262 rfl (lv_at hl 3 rfl) ?_
        refine lv_iload_n hx hb dL_law_1263 rfl (lv_at hl 0 rfl) ?_
        refine lv_iconst (v := 3) hx hb dL_law_1264 (by decide) ?_
        refine lv_iadd hx hb dL_law_1265 ?_
        refine q_c 3 (by decide +kernel) ?_
        refine va_sld X.1 X.2.1 hX hbl hbA hw7.2.2 (q_in (by decide +kernel)) dL_law_1266 ?_
        refine q_c a3 e3 ?_
        have g_12426 : (0 : Int32) ≤ a2 := by
          simp only [Int32.lt_iff_toInt_lt, Int32.le_iff_toInt_le, ← Int32.toInt_inj] at c_12205 c_12234 ⊢
          have k_0 : ((-1) : Int32).toInt = -1 := by decide
          have k_1 : (3 : Int32).toInt = 3 := by decide
          have k_g : (0 : Int32).toInt = 0 := by decide
          omega
        have g_12427 : a2 ≤ (3 : Int32) := by
          simp only [Int32.lt_iff_toInt_lt, Int32.le_iff_toInt_le, ← Int32.toInt_inj] at c_12205 c_12234 ⊢
          have k_0 : ((-1) : Int32).toInt = -1 := by decide
          have k_1 : (3 : Int32).toInt = 3 := by decide
          omega
        have g_12428 : (0 : Int32) ≤ a3 := by
          simp only [Int32.lt_iff_toInt_lt, Int32.le_iff_toInt_le, ← Int32.toInt_inj] at c_12257 c_12320 ⊢
          have k_0 : ((-1) : Int32).toInt = -1 := by decide
          have k_1 : (40 : Int32).toInt = 40 := by decide
          have k_g : (0 : Int32).toInt = 0 := by decide
          omega
        have g_12429 : a3 ≤ (40 : Int32) := by
          simp only [Int32.lt_iff_toInt_lt, Int32.le_iff_toInt_le, ← Int32.toInt_inj] at c_12257 c_12320 ⊢
          have k_0 : ((-1) : Int32).toInt = -1 := by decide
          have k_1 : (40 : Int32).toInt = 40 := by decide
          omega
        refine q_callVi (rest := [.int 0]) (wr := []) X hK hA hw7 (fun sz => kX12_numbers_525 l D cy y0 (u_1.1 16) (u_1.1 17) (u_1.1 18) (upd (upd (upd (upd (fun _ => 0) (Int32.toNatClampNeg 0) (-1)) (Int32.toNatClampNeg 1) (-1)) (Int32.toNatClampNeg 2) (-1)) (Int32.toNatClampNeg 3) (-1)) a2 a3 (u_1.1 19) (u_1.1 0) (u_1.1 1) (u_1.1 2) (u_1.1 3) (u_1.1 4) (u_1.1 5) (u_1.1 6) (u_1.1 7) (u_1.1 8) (u_1.1 9) (u_1.1 10) (u_1.1 11) (u_1.1 12) (u_1.1 13) (u_1.1 14) (u_1.1 15) g_12426 g_12427 g_12428 g_12429 sz) wm_8_27 wm_8_30 wm_1_12 hd_X12_numbers wm_8_28 wm_8_29 (ci := 12) (q0 := 0) rfl rfl ⟨Nat.le_of_ble_eq_true rfl, Nat.le_of_ble_eq_true rfl⟩ hl.1 rfl (Nat.le_of_ble_eq_true rfl) dL_law_1267 ⟨Nat.le_of_ble_eq_true rfl, Nat.le_of_ble_eq_true rfl⟩ [0, 1, 2, 3] [] rfl rfl (by decide) rfl rfl (fun r_12430 u_12430 Hp8 lc8 w_12430 hw8 => ?_)
        clear Hp7 lc7 hw7
        obtain rfl : r_12430 = 0 := w_12430
        clear w_12430
        replace hw8 : qW D _ _ [] _ _ := hw8
        refine lv_icmp_eq (tgt := 1461) hx hb dL_law_1270 (by decide) (fun _ => ?_) (fun c => absurd c (by decide +kernel))
        exact law_tail l X hr hlk hX hbl hw8.2.2 hl (Nat.le_of_ble_eq_true rfl) (Nat.le_of_ble_eq_true rfl)
      refine lv_aload_n hx hb dL_law_1232 rfl (lv_at hl 2 rfl) ?_
      refine lv_aload_n hx hb dL_law_1233 rfl (lv_at hl 3 rfl) ?_
      refine lv_iload_n hx hb dL_law_1234 rfl (lv_at hl 0 rfl) ?_
      refine lv_iconst (v := 1) hx hb dL_law_1235 (by decide) ?_
      refine lv_iadd hx hb dL_law_1236 ?_
      refine q_c 1 (by decide +kernel) ?_
      refine va_sld X.1 X.2.1 hX hbl hbA hw8.2.2 (q_in (by decide +kernel)) dL_law_1237 ?_
      refine q_c 0 e1 ?_
      refine lv_aload_n hx hb dL_law_1238 rfl (lv_at hl 3 rfl) ?_
      refine lv_iload_n hx hb dL_law_1239 rfl (lv_at hl 0 rfl) ?_
      refine lv_iconst (v := 2) hx hb dL_law_1240 (by decide) ?_
      refine lv_iadd hx hb dL_law_1241 ?_
      refine q_c 2 (by decide +kernel) ?_
      refine va_sld X.1 X.2.1 hX hbl hbA hw8.2.2 (q_in (by decide +kernel)) dL_law_1242 ?_
      refine q_c a2 e2 ?_
      refine lv_aload_n hx hb dL_law_1243 rfl (lv_at hl 3 rfl) ?_
      refine lv_iload_n hx hb dL_law_1244 rfl (lv_at hl 0 rfl) ?_
      refine lv_iconst (v := 3) hx hb dL_law_1245 (by decide) ?_
      refine lv_iadd hx hb dL_law_1246 ?_
      refine q_c 3 (by decide +kernel) ?_
      refine va_sld X.1 X.2.1 hX hbl hbA hw8.2.2 (q_in (by decide +kernel)) dL_law_1247 ?_
      refine q_c a3 e3 ?_
      have g_12486 : (0 : Int32) ≤ a2 := by
        simp only [Int32.lt_iff_toInt_lt, Int32.le_iff_toInt_le, ← Int32.toInt_inj] at c_12205 c_12234 ⊢
        have k_0 : ((-1) : Int32).toInt = -1 := by decide
        have k_1 : (3 : Int32).toInt = 3 := by decide
        have k_g : (0 : Int32).toInt = 0 := by decide
        omega
      have g_12487 : a2 ≤ (3 : Int32) := by
        simp only [Int32.lt_iff_toInt_lt, Int32.le_iff_toInt_le, ← Int32.toInt_inj] at c_12205 c_12234 ⊢
        have k_0 : ((-1) : Int32).toInt = -1 := by decide
        have k_1 : (3 : Int32).toInt = 3 := by decide
        omega
      have g_12488 : (41 : Int32) ≤ a3 := by
        simp only [Int32.lt_iff_toInt_lt, Int32.le_iff_toInt_le, ← Int32.toInt_inj] at c_12257 c_12320 ⊢
        have k_0 : ((-1) : Int32).toInt = -1 := by decide
        have k_1 : (40 : Int32).toInt = 40 := by decide
        have k_g : (41 : Int32).toInt = 41 := by decide
        omega
      refine q_callVi (rest := []) (wr := [(y0, .inr (12, [.int 0, .ref (u_1.1 19), .ref (u_1.1 0), .ref (u_1.1 1), .ref (u_1.1 2), .int 0, .int 0, .int 0, .int 0, .int 0, .int 0, .int 0, .int 0, .int 0, .int (-1), .int 0, .ref (u_1.1 3), .ref (u_1.1 4), .ref (u_1.1 5), .ref (u_1.1 6), .ref (u_1.1 7), .int 0, .int 0, .ref (u_1.1 8), .ref (u_1.1 9), .ref (u_1.1 10), .int 0, .int 0, .ref (u_1.1 11), .ref (u_1.1 12), .ref (u_1.1 13), .ref (u_1.1 14), .ref (u_1.1 15), .int 0, .ref (u_1.1 16), .ref (u_1.1 17), .ref (u_1.1 18)]))]) X hK hA hw8 (fun sz => kX11_numbers_526 l D cy x0 a2 a3 (u_0.1 0) (u_0.1 1) (u_0.1 37) (u_0.1 39) (u_0.1 41) (u_0.1 43) (u_0.1 14) (u_0.1 15) (u_0.1 16) (u_0.1 17) (u_0.1 20) (u_0.1 24) (u_0.1 29) g_12486 g_12487 g_12488 sz) wm_5_120 wm_5_123 wm_1_1 hd_X11_numbers wm_5_121 wm_5_122 (ci := 11) (q0 := 0) rfl rfl ⟨Nat.le_of_ble_eq_true rfl, Nat.le_of_ble_eq_true rfl⟩ hl.1 rfl (Nat.le_of_ble_eq_true rfl) dL_law_1248 ⟨Nat.le_of_ble_eq_true rfl, Nat.le_of_ble_eq_true rfl⟩ [0] [78] rfl rfl (by decide) rfl rfl (fun r_12489 u_12489 Hp9 lc9 w_12489 hw9 => ?_)
      clear Hp8 lc8 hw8
      obtain rfl : r_12489 = (-3) := w_12489
      clear w_12489
      replace hw9 : qW D _ _ [(y0, .inr (12, [.int 0, .ref (u_1.1 19), .ref (u_1.1 0), .ref (u_1.1 1), .ref (u_1.1 2), .int 0, .int 0, .int 0, .int 0, .int 0, .int 0, .int 0, .int 0, .int 0, .int (-1), .int 0, .ref (u_1.1 3), .ref (u_1.1 4), .ref (u_1.1 5), .ref (u_1.1 6), .ref (u_1.1 7), .int 0, .int 0, .ref (u_1.1 8), .ref (u_1.1 9), .ref (u_1.1 10), .int 0, .int 0, .ref (u_1.1 11), .ref (u_1.1 12), .ref (u_1.1 13), .ref (u_1.1 14), .ref (u_1.1 15), .int 0, .ref (u_1.1 16), .ref (u_1.1 17), .ref (u_1.1 18)]))] _ _ := hw9
      refine lv_aload_n hx hb dL_law_1251 rfl (lv_at hl 1 rfl) ?_
      refine lv_aload_n hx hb dL_law_1252 rfl (lv_at hl 3 rfl) ?_
      refine lv_iload_n hx hb dL_law_1253 rfl (lv_at hl 0 rfl) ?_
      refine lv_iconst (v := 1) hx hb dL_law_1254 (by decide) ?_
      refine lv_iadd hx hb dL_law_1255 ?_
      refine q_c 1 (by decide +kernel) ?_
      refine va_sld X.1 X.2.1 hX hbl hbA hw9.2.2 (q_in (by decide +kernel)) dL_law_1256 ?_
      refine q_c 0 e1 ?_
      refine lv_aload_n hx hb dL_law_1257 rfl (lv_at hl 3 rfl) ?_
      refine lv_iload_n hx hb dL_law_1258 rfl (lv_at hl 0 rfl) ?_
      refine lv_iconst (v := 2) hx hb dL_law_1259 (by decide) ?_
      refine lv_iadd hx hb dL_law_1260 ?_
      refine q_c 2 (by decide +kernel) ?_
      refine va_sld X.1 X.2.1 hX hbl hbA hw9.2.2 (q_in (by decide +kernel)) dL_law_1261 ?_
      refine q_c a2 e2 ?_
      refine lv_aload_n hx hb dL_law_1262 rfl (lv_at hl 3 rfl) ?_
      refine lv_iload_n hx hb dL_law_1263 rfl (lv_at hl 0 rfl) ?_
      refine lv_iconst (v := 3) hx hb dL_law_1264 (by decide) ?_
      refine lv_iadd hx hb dL_law_1265 ?_
      refine q_c 3 (by decide +kernel) ?_
      refine va_sld X.1 X.2.1 hX hbl hbA hw9.2.2 (q_in (by decide +kernel)) dL_law_1266 ?_
      refine q_c a3 e3 ?_
      have g_12500 : (0 : Int32) ≤ a2 := by
        simp only [Int32.lt_iff_toInt_lt, Int32.le_iff_toInt_le, ← Int32.toInt_inj] at c_12205 c_12234 ⊢
        have k_0 : ((-1) : Int32).toInt = -1 := by decide
        have k_1 : (3 : Int32).toInt = 3 := by decide
        have k_g : (0 : Int32).toInt = 0 := by decide
        omega
      have g_12501 : a2 ≤ (3 : Int32) := by
        simp only [Int32.lt_iff_toInt_lt, Int32.le_iff_toInt_le, ← Int32.toInt_inj] at c_12205 c_12234 ⊢
        have k_0 : ((-1) : Int32).toInt = -1 := by decide
        have k_1 : (3 : Int32).toInt = 3 := by decide
        omega
      have g_12502 : (41 : Int32) ≤ a3 := by
        simp only [Int32.lt_iff_toInt_lt, Int32.le_iff_toInt_le, ← Int32.toInt_inj] at c_12257 c_12320 ⊢
        have k_0 : ((-1) : Int32).toInt = -1 := by decide
        have k_1 : (40 : Int32).toInt = 40 := by decide
        have k_g : (41 : Int32).toInt = 41 := by decide
        omega
      refine q_callVi (rest := [.int (-3)]) (wr := []) X hK hA hw9 (fun sz => kX12_numbers_528 l D cy y0 a2 a3 (u_1.1 19) (u_1.1 0) (u_1.1 1) (u_1.1 2) (u_1.1 3) (u_1.1 4) (u_1.1 5) (u_1.1 6) (u_1.1 7) (u_1.1 8) (u_1.1 9) (u_1.1 10) (u_1.1 11) (u_1.1 12) (u_1.1 13) (u_1.1 14) (u_1.1 15) (u_1.1 16) (u_1.1 17) (u_1.1 18) g_12500 g_12501 g_12502 sz) wm_8_27 wm_8_30 wm_1_12 hd_X12_numbers wm_8_28 wm_8_29 (ci := 12) (q0 := 0) rfl rfl ⟨Nat.le_of_ble_eq_true rfl, Nat.le_of_ble_eq_true rfl⟩ hl.1 rfl (Nat.le_of_ble_eq_true rfl) dL_law_1267 ⟨Nat.le_of_ble_eq_true rfl, Nat.le_of_ble_eq_true rfl⟩ [0] [] rfl rfl (by decide) rfl rfl (fun r_12503 u_12503 Hp10 lc10 w_12503 hw10 => ?_)
      clear Hp9 lc9 hw9
      obtain rfl : r_12503 = (-3) := w_12503
      clear w_12503
      replace hw10 : qW D _ _ [] _ _ := hw10
      refine lv_icmp_eq (tgt := 1461) hx hb dL_law_1270 (by decide) (fun _ => ?_) (fun c => absurd c (by decide +kernel))
      exact law_tail l X hr hlk hX hbl hw10.2.2 hl (Nat.le_of_ble_eq_true rfl) (Nat.le_of_ble_eq_true rfl)
    refine lv_aload_n hx hb dL_law_1232 rfl (lv_at hl 2 rfl) ?_
    refine lv_aload_n hx hb dL_law_1233 rfl (lv_at hl 3 rfl) ?_
    refine lv_iload_n hx hb dL_law_1234 rfl (lv_at hl 0 rfl) ?_
    refine lv_iconst (v := 1) hx hb dL_law_1235 (by decide) ?_
    refine lv_iadd hx hb dL_law_1236 ?_
    refine q_c 1 (by decide +kernel) ?_
    refine va_sld X.1 X.2.1 hX hbl hbA hw10.2.2 (q_in (by decide +kernel)) dL_law_1237 ?_
    refine q_c 0 e1 ?_
    refine lv_aload_n hx hb dL_law_1238 rfl (lv_at hl 3 rfl) ?_
    refine lv_iload_n hx hb dL_law_1239 rfl (lv_at hl 0 rfl) ?_
    refine lv_iconst (v := 2) hx hb dL_law_1240 (by decide) ?_
    refine lv_iadd hx hb dL_law_1241 ?_
    refine q_c 2 (by decide +kernel) ?_
    refine va_sld X.1 X.2.1 hX hbl hbA hw10.2.2 (q_in (by decide +kernel)) dL_law_1242 ?_
    refine q_c a2 e2 ?_
    refine lv_aload_n hx hb dL_law_1243 rfl (lv_at hl 3 rfl) ?_
    refine lv_iload_n hx hb dL_law_1244 rfl (lv_at hl 0 rfl) ?_
    refine lv_iconst (v := 3) hx hb dL_law_1245 (by decide) ?_
    refine lv_iadd hx hb dL_law_1246 ?_
    refine q_c 3 (by decide +kernel) ?_
    refine va_sld X.1 X.2.1 hX hbl hbA hw10.2.2 (q_in (by decide +kernel)) dL_law_1247 ?_
    refine q_c a3 e3 ?_
    have g_12532 : (4 : Int32) ≤ a2 := by
      simp only [Int32.lt_iff_toInt_lt, Int32.le_iff_toInt_le, ← Int32.toInt_inj] at c_12205 c_12234 ⊢
      have k_0 : ((-1) : Int32).toInt = -1 := by decide
      have k_1 : (3 : Int32).toInt = 3 := by decide
      have k_g : (4 : Int32).toInt = 4 := by decide
      omega
    refine q_callVi (rest := []) (wr := [(y0, .inr (12, [.int 0, .ref (u_1.1 19), .ref (u_1.1 0), .ref (u_1.1 1), .ref (u_1.1 2), .int 0, .int 0, .int 0, .int 0, .int 0, .int 0, .int 0, .int 0, .int 0, .int (-1), .int 0, .ref (u_1.1 3), .ref (u_1.1 4), .ref (u_1.1 5), .ref (u_1.1 6), .ref (u_1.1 7), .int 0, .int 0, .ref (u_1.1 8), .ref (u_1.1 9), .ref (u_1.1 10), .int 0, .int 0, .ref (u_1.1 11), .ref (u_1.1 12), .ref (u_1.1 13), .ref (u_1.1 14), .ref (u_1.1 15), .int 0, .ref (u_1.1 16), .ref (u_1.1 17), .ref (u_1.1 18)]))]) X hK hA hw10 (fun sz => kX11_numbers_529 l D cy x0 a2 a3 (u_0.1 0) (u_0.1 1) (u_0.1 37) (u_0.1 39) (u_0.1 41) (u_0.1 43) (u_0.1 14) (u_0.1 15) (u_0.1 16) (u_0.1 17) (u_0.1 20) (u_0.1 24) (u_0.1 29) g_12532 sz) wm_5_120 wm_5_123 wm_1_1 hd_X11_numbers wm_5_121 wm_5_122 (ci := 11) (q0 := 0) rfl rfl ⟨Nat.le_of_ble_eq_true rfl, Nat.le_of_ble_eq_true rfl⟩ hl.1 rfl (Nat.le_of_ble_eq_true rfl) dL_law_1248 ⟨Nat.le_of_ble_eq_true rfl, Nat.le_of_ble_eq_true rfl⟩ [0] [78] rfl rfl (by decide) rfl rfl (fun r_12533 u_12533 Hp11 lc11 w_12533 hw11 => ?_)
    clear Hp10 lc10 hw10
    obtain rfl : r_12533 = (-2) := w_12533
    clear w_12533
    replace hw11 : qW D _ _ [(y0, .inr (12, [.int 0, .ref (u_1.1 19), .ref (u_1.1 0), .ref (u_1.1 1), .ref (u_1.1 2), .int 0, .int 0, .int 0, .int 0, .int 0, .int 0, .int 0, .int 0, .int 0, .int (-1), .int 0, .ref (u_1.1 3), .ref (u_1.1 4), .ref (u_1.1 5), .ref (u_1.1 6), .ref (u_1.1 7), .int 0, .int 0, .ref (u_1.1 8), .ref (u_1.1 9), .ref (u_1.1 10), .int 0, .int 0, .ref (u_1.1 11), .ref (u_1.1 12), .ref (u_1.1 13), .ref (u_1.1 14), .ref (u_1.1 15), .int 0, .ref (u_1.1 16), .ref (u_1.1 17), .ref (u_1.1 18)]))] _ _ := hw11
    refine lv_aload_n hx hb dL_law_1251 rfl (lv_at hl 1 rfl) ?_
    refine lv_aload_n hx hb dL_law_1252 rfl (lv_at hl 3 rfl) ?_
    refine lv_iload_n hx hb dL_law_1253 rfl (lv_at hl 0 rfl) ?_
    refine lv_iconst (v := 1) hx hb dL_law_1254 (by decide) ?_
    refine lv_iadd hx hb dL_law_1255 ?_
    refine q_c 1 (by decide +kernel) ?_
    refine va_sld X.1 X.2.1 hX hbl hbA hw11.2.2 (q_in (by decide +kernel)) dL_law_1256 ?_
    refine q_c 0 e1 ?_
    refine lv_aload_n hx hb dL_law_1257 rfl (lv_at hl 3 rfl) ?_
    refine lv_iload_n hx hb dL_law_1258 rfl (lv_at hl 0 rfl) ?_
    refine lv_iconst (v := 2) hx hb dL_law_1259 (by decide) ?_
    refine lv_iadd hx hb dL_law_1260 ?_
    refine q_c 2 (by decide +kernel) ?_
    refine va_sld X.1 X.2.1 hX hbl hbA hw11.2.2 (q_in (by decide +kernel)) dL_law_1261 ?_
    refine q_c a2 e2 ?_
    refine lv_aload_n hx hb dL_law_1262 rfl (lv_at hl 3 rfl) ?_
    refine lv_iload_n hx hb dL_law_1263 rfl (lv_at hl 0 rfl) ?_
    refine lv_iconst (v := 3) hx hb dL_law_1264 (by decide) ?_
    refine lv_iadd hx hb dL_law_1265 ?_
    refine q_c 3 (by decide +kernel) ?_
    refine va_sld X.1 X.2.1 hX hbl hbA hw11.2.2 (q_in (by decide +kernel)) dL_law_1266 ?_
    refine q_c a3 e3 ?_
    have g_12539 : (4 : Int32) ≤ a2 := by
      simp only [Int32.lt_iff_toInt_lt, Int32.le_iff_toInt_le, ← Int32.toInt_inj] at c_12205 c_12234 ⊢
      have k_0 : ((-1) : Int32).toInt = -1 := by decide
      have k_1 : (3 : Int32).toInt = 3 := by decide
      have k_g : (4 : Int32).toInt = 4 := by decide
      omega
    refine q_callVi (rest := [.int (-2)]) (wr := []) X hK hA hw11 (fun sz => kX12_numbers_530 l D cy y0 a2 a3 (u_1.1 19) (u_1.1 0) (u_1.1 1) (u_1.1 2) (u_1.1 3) (u_1.1 4) (u_1.1 5) (u_1.1 6) (u_1.1 7) (u_1.1 8) (u_1.1 9) (u_1.1 10) (u_1.1 11) (u_1.1 12) (u_1.1 13) (u_1.1 14) (u_1.1 15) (u_1.1 16) (u_1.1 17) (u_1.1 18) g_12539 sz) wm_8_27 wm_8_30 wm_1_12 hd_X12_numbers wm_8_28 wm_8_29 (ci := 12) (q0 := 0) rfl rfl ⟨Nat.le_of_ble_eq_true rfl, Nat.le_of_ble_eq_true rfl⟩ hl.1 rfl (Nat.le_of_ble_eq_true rfl) dL_law_1267 ⟨Nat.le_of_ble_eq_true rfl, Nat.le_of_ble_eq_true rfl⟩ [0] [] rfl rfl (by decide) rfl rfl (fun r_12540 u_12540 Hp12 lc12 w_12540 hw12 => ?_)
    clear Hp11 lc11 hw11
    obtain rfl : r_12540 = (-2) := w_12540
    clear w_12540
    replace hw12 : qW D _ _ [] _ _ := hw12
    refine lv_icmp_eq (tgt := 1461) hx hb dL_law_1270 (by decide) (fun _ => ?_) (fun c => absurd c (by decide +kernel))
    exact law_tail l X hr hlk hX hbl hw12.2.2 hl (Nat.le_of_ble_eq_true rfl) (Nat.le_of_ble_eq_true rfl)
  by_cases c_12541 : a1 = 1
  · subst c_12541
    by_cases c_12564 : a2 ≤ (-1)
    · skip
      refine lv_aload_n hx hb dL_law_1232 rfl (lv_at hl 2 rfl) ?_
      refine lv_aload_n hx hb dL_law_1233 rfl (lv_at hl 3 rfl) ?_
      refine lv_iload_n hx hb dL_law_1234 rfl (lv_at hl 0 rfl) ?_
      refine lv_iconst (v := 1) hx hb dL_law_1235 (by decide) ?_
      refine lv_iadd hx hb dL_law_1236 ?_
      refine q_c 1 (by decide +kernel) ?_
      refine va_sld X.1 X.2.1 hX hbl hbA hw12.2.2 (q_in (by decide +kernel)) dL_law_1237 ?_
      refine q_c 1 e1 ?_
      refine lv_aload_n hx hb dL_law_1238 rfl (lv_at hl 3 rfl) ?_
      refine lv_iload_n hx hb dL_law_1239 rfl (lv_at hl 0 rfl) ?_
      refine lv_iconst (v := 2) hx hb dL_law_1240 (by decide) ?_
      refine lv_iadd hx hb dL_law_1241 ?_
      refine q_c 2 (by decide +kernel) ?_
      refine va_sld X.1 X.2.1 hX hbl hbA hw12.2.2 (q_in (by decide +kernel)) dL_law_1242 ?_
      refine q_c a2 e2 ?_
      refine lv_aload_n hx hb dL_law_1243 rfl (lv_at hl 3 rfl) ?_
      refine lv_iload_n hx hb dL_law_1244 rfl (lv_at hl 0 rfl) ?_
      refine lv_iconst (v := 3) hx hb dL_law_1245 (by decide) ?_
      refine lv_iadd hx hb dL_law_1246 ?_
      refine q_c 3 (by decide +kernel) ?_
      refine va_sld X.1 X.2.1 hX hbl hbA hw12.2.2 (q_in (by decide +kernel)) dL_law_1247 ?_
      refine q_c a3 e3 ?_
      have g_12585 : a2 ≤ ((-1) : Int32) := by
        simp only [Int32.lt_iff_toInt_lt, Int32.le_iff_toInt_le, ← Int32.toInt_inj] at c_12564 ⊢
        have k_0 : ((-1) : Int32).toInt = -1 := by decide
        omega
      refine q_callVi (rest := []) (wr := [(y0, .inr (12, [.int 0, .ref (u_1.1 19), .ref (u_1.1 0), .ref (u_1.1 1), .ref (u_1.1 2), .int 0, .int 0, .int 0, .int 0, .int 0, .int 0, .int 0, .int 0, .int 0, .int (-1), .int 0, .ref (u_1.1 3), .ref (u_1.1 4), .ref (u_1.1 5), .ref (u_1.1 6), .ref (u_1.1 7), .int 0, .int 0, .ref (u_1.1 8), .ref (u_1.1 9), .ref (u_1.1 10), .int 0, .int 0, .ref (u_1.1 11), .ref (u_1.1 12), .ref (u_1.1 13), .ref (u_1.1 14), .ref (u_1.1 15), .int 0, .ref (u_1.1 16), .ref (u_1.1 17), .ref (u_1.1 18)]))]) X hK hA hw12 (fun sz => kX11_numbers_531 l D cy x0 a2 a3 (u_0.1 0) (u_0.1 1) (u_0.1 37) (u_0.1 39) (u_0.1 41) (u_0.1 43) (u_0.1 14) (u_0.1 15) (u_0.1 16) (u_0.1 17) (u_0.1 20) (u_0.1 24) (u_0.1 29) g_12585 sz) wm_5_120 wm_5_123 wm_1_1 hd_X11_numbers wm_5_121 wm_5_122 (ci := 11) (q0 := 0) rfl rfl ⟨Nat.le_of_ble_eq_true rfl, Nat.le_of_ble_eq_true rfl⟩ hl.1 rfl (Nat.le_of_ble_eq_true rfl) dL_law_1248 ⟨Nat.le_of_ble_eq_true rfl, Nat.le_of_ble_eq_true rfl⟩ [0] [78] rfl rfl (by decide) rfl rfl (fun r_12586 u_12586 Hp13 lc13 w_12586 hw13 => ?_)
      clear Hp12 lc12 hw12
      obtain rfl : r_12586 = (-2) := w_12586
      clear w_12586
      replace hw13 : qW D _ _ [(y0, .inr (12, [.int 0, .ref (u_1.1 19), .ref (u_1.1 0), .ref (u_1.1 1), .ref (u_1.1 2), .int 0, .int 0, .int 0, .int 0, .int 0, .int 0, .int 0, .int 0, .int 0, .int (-1), .int 0, .ref (u_1.1 3), .ref (u_1.1 4), .ref (u_1.1 5), .ref (u_1.1 6), .ref (u_1.1 7), .int 0, .int 0, .ref (u_1.1 8), .ref (u_1.1 9), .ref (u_1.1 10), .int 0, .int 0, .ref (u_1.1 11), .ref (u_1.1 12), .ref (u_1.1 13), .ref (u_1.1 14), .ref (u_1.1 15), .int 0, .ref (u_1.1 16), .ref (u_1.1 17), .ref (u_1.1 18)]))] _ _ := hw13
      refine lv_aload_n hx hb dL_law_1251 rfl (lv_at hl 1 rfl) ?_
      refine lv_aload_n hx hb dL_law_1252 rfl (lv_at hl 3 rfl) ?_
      refine lv_iload_n hx hb dL_law_1253 rfl (lv_at hl 0 rfl) ?_
      refine lv_iconst (v := 1) hx hb dL_law_1254 (by decide) ?_
      refine lv_iadd hx hb dL_law_1255 ?_
      refine q_c 1 (by decide +kernel) ?_
      refine va_sld X.1 X.2.1 hX hbl hbA hw13.2.2 (q_in (by decide +kernel)) dL_law_1256 ?_
      refine q_c 1 e1 ?_
      refine lv_aload_n hx hb dL_law_1257 rfl (lv_at hl 3 rfl) ?_
      refine lv_iload_n hx hb dL_law_1258 rfl (lv_at hl 0 rfl) ?_
      refine lv_iconst (v := 2) hx hb dL_law_1259 (by decide) ?_
      refine lv_iadd hx hb dL_law_1260 ?_
      refine q_c 2 (by decide +kernel) ?_
      refine va_sld X.1 X.2.1 hX hbl hbA hw13.2.2 (q_in (by decide +kernel)) dL_law_1261 ?_
      refine q_c a2 e2 ?_
      refine lv_aload_n hx hb dL_law_1262 rfl (lv_at hl 3 rfl) ?_
      refine lv_iload_n hx hb dL_law_1263 rfl (lv_at hl 0 rfl) ?_
      refine lv_iconst (v := 3) hx hb dL_law_1264 (by decide) ?_
      refine lv_iadd hx hb dL_law_1265 ?_
      refine q_c 3 (by decide +kernel) ?_
      refine va_sld X.1 X.2.1 hX hbl hbA hw13.2.2 (q_in (by decide +kernel)) dL_law_1266 ?_
      refine q_c a3 e3 ?_
      have g_12591 : a2 ≤ ((-1) : Int32) := by
        simp only [Int32.lt_iff_toInt_lt, Int32.le_iff_toInt_le, ← Int32.toInt_inj] at c_12564 ⊢
        have k_0 : ((-1) : Int32).toInt = -1 := by decide
        omega
      refine q_callVi (rest := [.int (-2)]) (wr := []) X hK hA hw13 (fun sz => kX12_numbers_532 l D cy y0 a2 a3 (u_1.1 19) (u_1.1 0) (u_1.1 1) (u_1.1 2) (u_1.1 3) (u_1.1 4) (u_1.1 5) (u_1.1 6) (u_1.1 7) (u_1.1 8) (u_1.1 9) (u_1.1 10) (u_1.1 11) (u_1.1 12) (u_1.1 13) (u_1.1 14) (u_1.1 15) (u_1.1 16) (u_1.1 17) (u_1.1 18) g_12591 sz) wm_8_27 wm_8_30 wm_1_12 hd_X12_numbers wm_8_28 wm_8_29 (ci := 12) (q0 := 0) rfl rfl ⟨Nat.le_of_ble_eq_true rfl, Nat.le_of_ble_eq_true rfl⟩ hl.1 rfl (Nat.le_of_ble_eq_true rfl) dL_law_1267 ⟨Nat.le_of_ble_eq_true rfl, Nat.le_of_ble_eq_true rfl⟩ [0] [] rfl rfl (by decide) rfl rfl (fun r_12592 u_12592 Hp14 lc14 w_12592 hw14 => ?_)
      clear Hp13 lc13 hw13
      obtain rfl : r_12592 = (-2) := w_12592
      clear w_12592
      replace hw14 : qW D _ _ [] _ _ := hw14
      refine lv_icmp_eq (tgt := 1461) hx hb dL_law_1270 (by decide) (fun _ => ?_) (fun c => absurd c (by decide +kernel))
      exact law_tail l X hr hlk hX hbl hw14.2.2 hl (Nat.le_of_ble_eq_true rfl) (Nat.le_of_ble_eq_true rfl)
    by_cases c_12593 : a2 ≤ 3
    · skip
      by_cases c_12616 : a3 ≤ (-1)
      · skip
        refine lv_aload_n hx hb dL_law_1232 rfl (lv_at hl 2 rfl) ?_
        refine lv_aload_n hx hb dL_law_1233 rfl (lv_at hl 3 rfl) ?_
        refine lv_iload_n hx hb dL_law_1234 rfl (lv_at hl 0 rfl) ?_
        refine lv_iconst (v := 1) hx hb dL_law_1235 (by decide) ?_
        refine lv_iadd hx hb dL_law_1236 ?_
        refine q_c 1 (by decide +kernel) ?_
        refine va_sld X.1 X.2.1 hX hbl hbA hw14.2.2 (q_in (by decide +kernel)) dL_law_1237 ?_
        refine q_c 1 e1 ?_
        refine lv_aload_n hx hb dL_law_1238 rfl (lv_at hl 3 rfl) ?_
        refine lv_iload_n hx hb dL_law_1239 rfl (lv_at hl 0 rfl) ?_
        refine lv_iconst (v := 2) hx hb dL_law_1240 (by decide) ?_
        refine lv_iadd hx hb dL_law_1241 ?_
        refine q_c 2 (by decide +kernel) ?_
        refine va_sld X.1 X.2.1 hX hbl hbA hw14.2.2 (q_in (by decide +kernel)) dL_law_1242 ?_
        refine q_c a2 e2 ?_
        refine lv_aload_n hx hb dL_law_1243 rfl (lv_at hl 3 rfl) ?_
        refine lv_iload_n hx hb dL_law_1244 rfl (lv_at hl 0 rfl) ?_
        refine lv_iconst (v := 3) hx hb dL_law_1245 (by decide) ?_
        refine lv_iadd hx hb dL_law_1246 ?_
        refine q_c 3 (by decide +kernel) ?_
        refine va_sld X.1 X.2.1 hX hbl hbA hw14.2.2 (q_in (by decide +kernel)) dL_law_1247 ?_
        refine q_c a3 e3 ?_
        have g_12660 : (0 : Int32) ≤ a2 := by
          simp only [Int32.lt_iff_toInt_lt, Int32.le_iff_toInt_le, ← Int32.toInt_inj] at c_12564 c_12593 ⊢
          have k_0 : ((-1) : Int32).toInt = -1 := by decide
          have k_1 : (3 : Int32).toInt = 3 := by decide
          have k_g : (0 : Int32).toInt = 0 := by decide
          omega
        have g_12661 : a2 ≤ (3 : Int32) := by
          simp only [Int32.lt_iff_toInt_lt, Int32.le_iff_toInt_le, ← Int32.toInt_inj] at c_12564 c_12593 ⊢
          have k_0 : ((-1) : Int32).toInt = -1 := by decide
          have k_1 : (3 : Int32).toInt = 3 := by decide
          omega
        have g_12662 : a3 ≤ ((-1) : Int32) := by
          simp only [Int32.lt_iff_toInt_lt, Int32.le_iff_toInt_le, ← Int32.toInt_inj] at c_12616 ⊢
          have k_0 : ((-1) : Int32).toInt = -1 := by decide
          omega
        refine q_callVi (rest := []) (wr := [(y0, .inr (12, [.int 0, .ref (u_1.1 19), .ref (u_1.1 0), .ref (u_1.1 1), .ref (u_1.1 2), .int 0, .int 0, .int 0, .int 0, .int 0, .int 0, .int 0, .int 0, .int 0, .int (-1), .int 0, .ref (u_1.1 3), .ref (u_1.1 4), .ref (u_1.1 5), .ref (u_1.1 6), .ref (u_1.1 7), .int 0, .int 0, .ref (u_1.1 8), .ref (u_1.1 9), .ref (u_1.1 10), .int 0, .int 0, .ref (u_1.1 11), .ref (u_1.1 12), .ref (u_1.1 13), .ref (u_1.1 14), .ref (u_1.1 15), .int 0, .ref (u_1.1 16), .ref (u_1.1 17), .ref (u_1.1 18)]))]) X hK hA hw14 (fun sz => kX11_numbers_533 l D cy x0 a2 a3 (u_0.1 0) (u_0.1 1) (u_0.1 37) (u_0.1 39) (u_0.1 41) (u_0.1 43) (u_0.1 14) (u_0.1 15) (u_0.1 16) (u_0.1 17) (u_0.1 20) (u_0.1 24) (u_0.1 29) g_12660 g_12661 g_12662 sz) wm_5_120 wm_5_123 wm_1_1 hd_X11_numbers wm_5_121 wm_5_122 (ci := 11) (q0 := 0) rfl rfl ⟨Nat.le_of_ble_eq_true rfl, Nat.le_of_ble_eq_true rfl⟩ hl.1 rfl (Nat.le_of_ble_eq_true rfl) dL_law_1248 ⟨Nat.le_of_ble_eq_true rfl, Nat.le_of_ble_eq_true rfl⟩ [0] [78] rfl rfl (by decide) rfl rfl (fun r_12663 u_12663 Hp15 lc15 w_12663 hw15 => ?_)
        clear Hp14 lc14 hw14
        obtain rfl : r_12663 = (-3) := w_12663
        clear w_12663
        replace hw15 : qW D _ _ [(y0, .inr (12, [.int 0, .ref (u_1.1 19), .ref (u_1.1 0), .ref (u_1.1 1), .ref (u_1.1 2), .int 0, .int 0, .int 0, .int 0, .int 0, .int 0, .int 0, .int 0, .int 0, .int (-1), .int 0, .ref (u_1.1 3), .ref (u_1.1 4), .ref (u_1.1 5), .ref (u_1.1 6), .ref (u_1.1 7), .int 0, .int 0, .ref (u_1.1 8), .ref (u_1.1 9), .ref (u_1.1 10), .int 0, .int 0, .ref (u_1.1 11), .ref (u_1.1 12), .ref (u_1.1 13), .ref (u_1.1 14), .ref (u_1.1 15), .int 0, .ref (u_1.1 16), .ref (u_1.1 17), .ref (u_1.1 18)]))] _ _ := hw15
        refine lv_aload_n hx hb dL_law_1251 rfl (lv_at hl 1 rfl) ?_
        refine lv_aload_n hx hb dL_law_1252 rfl (lv_at hl 3 rfl) ?_
        refine lv_iload_n hx hb dL_law_1253 rfl (lv_at hl 0 rfl) ?_
        refine lv_iconst (v := 1) hx hb dL_law_1254 (by decide) ?_
        refine lv_iadd hx hb dL_law_1255 ?_
        refine q_c 1 (by decide +kernel) ?_
        refine va_sld X.1 X.2.1 hX hbl hbA hw15.2.2 (q_in (by decide +kernel)) dL_law_1256 ?_
        refine q_c 1 e1 ?_
        refine lv_aload_n hx hb dL_law_1257 rfl (lv_at hl 3 rfl) ?_
        refine lv_iload_n hx hb dL_law_1258 rfl (lv_at hl 0 rfl) ?_
        refine lv_iconst (v := 2) hx hb dL_law_1259 (by decide) ?_
        refine lv_iadd hx hb dL_law_1260 ?_
        refine q_c 2 (by decide +kernel) ?_
        refine va_sld X.1 X.2.1 hX hbl hbA hw15.2.2 (q_in (by decide +kernel)) dL_law_1261 ?_
        refine q_c a2 e2 ?_
        refine lv_aload_n hx hb dL_law_1262 rfl (lv_at hl 3 rfl) ?_
        refine lv_iload_n hx hb dL_law_1263 rfl (lv_at hl 0 rfl) ?_
        refine lv_iconst (v := 3) hx hb dL_law_1264 (by decide) ?_
        refine lv_iadd hx hb dL_law_1265 ?_
        refine q_c 3 (by decide +kernel) ?_
        refine va_sld X.1 X.2.1 hX hbl hbA hw15.2.2 (q_in (by decide +kernel)) dL_law_1266 ?_
        refine q_c a3 e3 ?_
        have g_12673 : (0 : Int32) ≤ a2 := by
          simp only [Int32.lt_iff_toInt_lt, Int32.le_iff_toInt_le, ← Int32.toInt_inj] at c_12564 c_12593 ⊢
          have k_0 : ((-1) : Int32).toInt = -1 := by decide
          have k_1 : (3 : Int32).toInt = 3 := by decide
          have k_g : (0 : Int32).toInt = 0 := by decide
          omega
        have g_12674 : a2 ≤ (3 : Int32) := by
          simp only [Int32.lt_iff_toInt_lt, Int32.le_iff_toInt_le, ← Int32.toInt_inj] at c_12564 c_12593 ⊢
          have k_0 : ((-1) : Int32).toInt = -1 := by decide
          have k_1 : (3 : Int32).toInt = 3 := by decide
          omega
        have g_12675 : a3 ≤ ((-1) : Int32) := by
          simp only [Int32.lt_iff_toInt_lt, Int32.le_iff_toInt_le, ← Int32.toInt_inj] at c_12616 ⊢
          have k_0 : ((-1) : Int32).toInt = -1 := by decide
          omega
        refine q_callVi (rest := [.int (-3)]) (wr := []) X hK hA hw15 (fun sz => kX12_numbers_534 l D cy y0 a2 a3 (u_1.1 19) (u_1.1 0) (u_1.1 1) (u_1.1 2) (u_1.1 3) (u_1.1 4) (u_1.1 5) (u_1.1 6) (u_1.1 7) (u_1.1 8) (u_1.1 9) (u_1.1 10) (u_1.1 11) (u_1.1 12) (u_1.1 13) (u_1.1 14) (u_1.1 15) (u_1.1 16) (u_1.1 17) (u_1.1 18) g_12673 g_12674 g_12675 sz) wm_8_27 wm_8_30 wm_1_12 hd_X12_numbers wm_8_28 wm_8_29 (ci := 12) (q0 := 0) rfl rfl ⟨Nat.le_of_ble_eq_true rfl, Nat.le_of_ble_eq_true rfl⟩ hl.1 rfl (Nat.le_of_ble_eq_true rfl) dL_law_1267 ⟨Nat.le_of_ble_eq_true rfl, Nat.le_of_ble_eq_true rfl⟩ [0] [] rfl rfl (by decide) rfl rfl (fun r_12676 u_12676 Hp16 lc16 w_12676 hw16 => ?_)
        clear Hp15 lc15 hw15
        obtain rfl : r_12676 = (-3) := w_12676
        clear w_12676
        replace hw16 : qW D _ _ [] _ _ := hw16
        refine lv_icmp_eq (tgt := 1461) hx hb dL_law_1270 (by decide) (fun _ => ?_) (fun c => absurd c (by decide +kernel))
        exact law_tail l X hr hlk hX hbl hw16.2.2 hl (Nat.le_of_ble_eq_true rfl) (Nat.le_of_ble_eq_true rfl)
      by_cases c_12677 : a3 ≤ 40
      · skip
        refine lv_aload_n hx hb dL_law_1232 rfl (lv_at hl 2 rfl) ?_
        refine lv_aload_n hx hb dL_law_1233 rfl (lv_at hl 3 rfl) ?_
        refine lv_iload_n hx hb dL_law_1234 rfl (lv_at hl 0 rfl) ?_
        refine lv_iconst (v := 1) hx hb dL_law_1235 (by decide) ?_
        refine lv_iadd hx hb dL_law_1236 ?_
        refine q_c 1 (by decide +kernel) ?_
        refine va_sld X.1 X.2.1 hX hbl hbA hw16.2.2 (q_in (by decide +kernel)) dL_law_1237 ?_
        refine q_c 1 e1 ?_
        refine lv_aload_n hx hb dL_law_1238 rfl (lv_at hl 3 rfl) ?_
        refine lv_iload_n hx hb dL_law_1239 rfl (lv_at hl 0 rfl) ?_
        refine lv_iconst (v := 2) hx hb dL_law_1240 (by decide) ?_
        refine lv_iadd hx hb dL_law_1241 ?_
        refine q_c 2 (by decide +kernel) ?_
        refine va_sld X.1 X.2.1 hX hbl hbA hw16.2.2 (q_in (by decide +kernel)) dL_law_1242 ?_
        refine q_c a2 e2 ?_
        refine lv_aload_n hx hb dL_law_1243 rfl (lv_at hl 3 rfl) ?_
        refine lv_iload_n hx hb dL_law_1244 rfl (lv_at hl 0 rfl) ?_
        refine lv_iconst (v := 3) hx hb dL_law_1245 (by decide) ?_
        refine lv_iadd hx hb dL_law_1246 ?_
        refine q_c 3 (by decide +kernel) ?_
        refine va_sld X.1 X.2.1 hX hbl hbA hw16.2.2 (q_in (by decide +kernel)) dL_law_1247 ?_
        refine q_c a3 e3 ?_
        have g_12761 : (0 : Int32) ≤ a2 := by
          simp only [Int32.lt_iff_toInt_lt, Int32.le_iff_toInt_le, ← Int32.toInt_inj] at c_12564 c_12593 ⊢
          have k_0 : ((-1) : Int32).toInt = -1 := by decide
          have k_1 : (3 : Int32).toInt = 3 := by decide
          have k_g : (0 : Int32).toInt = 0 := by decide
          omega
        have g_12762 : a2 ≤ (3 : Int32) := by
          simp only [Int32.lt_iff_toInt_lt, Int32.le_iff_toInt_le, ← Int32.toInt_inj] at c_12564 c_12593 ⊢
          have k_0 : ((-1) : Int32).toInt = -1 := by decide
          have k_1 : (3 : Int32).toInt = 3 := by decide
          omega
        have g_12763 : (0 : Int32) ≤ a3 := by
          simp only [Int32.lt_iff_toInt_lt, Int32.le_iff_toInt_le, ← Int32.toInt_inj] at c_12616 c_12677 ⊢
          have k_0 : ((-1) : Int32).toInt = -1 := by decide
          have k_1 : (40 : Int32).toInt = 40 := by decide
          have k_g : (0 : Int32).toInt = 0 := by decide
          omega
        have g_12764 : a3 ≤ (40 : Int32) := by
          simp only [Int32.lt_iff_toInt_lt, Int32.le_iff_toInt_le, ← Int32.toInt_inj] at c_12616 c_12677 ⊢
          have k_0 : ((-1) : Int32).toInt = -1 := by decide
          have k_1 : (40 : Int32).toInt = 40 := by decide
          omega
        refine q_callVi (rest := []) (wr := [(y0, .inr (12, [.int 0, .ref (u_1.1 19), .ref (u_1.1 0), .ref (u_1.1 1), .ref (u_1.1 2), .int 0, .int 0, .int 0, .int 0, .int 0, .int 0, .int 0, .int 0, .int 0, .int (-1), .int 0, .ref (u_1.1 3), .ref (u_1.1 4), .ref (u_1.1 5), .ref (u_1.1 6), .ref (u_1.1 7), .int 0, .int 0, .ref (u_1.1 8), .ref (u_1.1 9), .ref (u_1.1 10), .int 0, .int 0, .ref (u_1.1 11), .ref (u_1.1 12), .ref (u_1.1 13), .ref (u_1.1 14), .ref (u_1.1 15), .int 0, .ref (u_1.1 16), .ref (u_1.1 17), .ref (u_1.1 18)])), ((u_1.1 16), .inl (cy 1, 4, .inl (upd (upd (upd (upd (fun _ => 0) (Int32.toNatClampNeg 0) (-1)) (Int32.toNatClampNeg 1) (-1)) (Int32.toNatClampNeg 2) (-1)) (Int32.toNatClampNeg 3) (-1)))), ((u_1.1 17), .inl (cy 1, 4, .inl (fun _ => 0))), ((u_1.1 18), .inl (cy 2, 160, .inr (.inl (fun _ => 0))))]) X hK hA hw16 (fun sz => kX11_numbers_535 l D cy x0 (u_0.1 14) (u_0.1 67) (u_0.1 68) a2 a3 (u_0.1 0) (u_0.1 1) (u_0.1 37) (u_0.1 39) (u_0.1 41) (u_0.1 43) (u_0.1 15) (u_0.1 16) (u_0.1 17) (u_0.1 20) (u_0.1 24) (u_0.1 29) (u_0.1 71) (u_0.1 69) (u_0.1 65) g_12761 g_12762 g_12763 g_12764 sz) wm_5_120 wm_5_123 wm_1_1 hd_X11_numbers wm_5_121 wm_5_122 (ci := 11) (q0 := 0) rfl rfl ⟨Nat.le_of_ble_eq_true rfl, Nat.le_of_ble_eq_true rfl⟩ hl.1 rfl (Nat.le_of_ble_eq_true rfl) dL_law_1248 ⟨Nat.le_of_ble_eq_true rfl, Nat.le_of_ble_eq_true rfl⟩ [0, 15, 68, 69] [78, 95, 96, 97] rfl rfl (by decide) rfl rfl (fun r_12765 u_12765 Hp17 lc17 w_12765 hw17 => ?_)
        clear Hp16 lc16 hw16
        obtain rfl : r_12765 = 0 := w_12765
        clear w_12765
        replace hw17 : qW D _ _ [(y0, .inr (12, [.int 0, .ref (u_1.1 19), .ref (u_1.1 0), .ref (u_1.1 1), .ref (u_1.1 2), .int 0, .int 0, .int 0, .int 0, .int 0, .int 0, .int 0, .int 0, .int 0, .int (-1), .int 0, .ref (u_1.1 3), .ref (u_1.1 4), .ref (u_1.1 5), .ref (u_1.1 6), .ref (u_1.1 7), .int 0, .int 0, .ref (u_1.1 8), .ref (u_1.1 9), .ref (u_1.1 10), .int 0, .int 0, .ref (u_1.1 11), .ref (u_1.1 12), .ref (u_1.1 13), .ref (u_1.1 14), .ref (u_1.1 15), .int 0, .ref (u_1.1 16), .ref (u_1.1 17), .ref (u_1.1 18)])), ((u_1.1 16), .inl (cy 1, 4, .inl (upd (upd (upd (upd (fun _ => 0) (Int32.toNatClampNeg 0) (-1)) (Int32.toNatClampNeg 1) (-1)) (Int32.toNatClampNeg 2) (-1)) (Int32.toNatClampNeg 3) (-1)))), ((u_1.1 17), .inl (cy 1, 4, .inl (fun _ => 0))), ((u_1.1 18), .inl (cy 2, 160, .inr (.inl (fun _ => 0))))] _ _ := hw17
        refine lv_aload_n hx hb dL_law_1251 rfl (lv_at hl 1 rfl) ?_
        refine lv_aload_n hx hb dL_law_1252 rfl (lv_at hl 3 rfl) ?_
        refine lv_iload_n hx hb dL_law_1253 rfl (lv_at hl 0 rfl) ?_
        refine lv_iconst (v := 1) hx hb dL_law_1254 (by decide) ?_
        refine lv_iadd hx hb dL_law_1255 ?_
        refine q_c 1 (by decide +kernel) ?_
        refine va_sld X.1 X.2.1 hX hbl hbA hw17.2.2 (q_in (by decide +kernel)) dL_law_1256 ?_
        refine q_c 1 e1 ?_
        refine lv_aload_n hx hb dL_law_1257 rfl (lv_at hl 3 rfl) ?_
        refine lv_iload_n hx hb dL_law_1258 rfl (lv_at hl 0 rfl) ?_
        refine lv_iconst (v := 2) hx hb dL_law_1259 (by decide) ?_
        refine lv_iadd hx hb dL_law_1260 ?_
        refine q_c 2 (by decide +kernel) ?_
        refine va_sld X.1 X.2.1 hX hbl hbA hw17.2.2 (q_in (by decide +kernel)) dL_law_1261 ?_
        refine q_c a2 e2 ?_
        refine lv_aload_n hx hb dL_law_1262 rfl (lv_at hl 3 rfl) ?_
        refine lv_iload_n hx hb dL_law_1263 rfl (lv_at hl 0 rfl) ?_
        refine lv_iconst (v := 3) hx hb dL_law_1264 (by decide) ?_
        refine lv_iadd hx hb dL_law_1265 ?_
        refine q_c 3 (by decide +kernel) ?_
        refine va_sld X.1 X.2.1 hX hbl hbA hw17.2.2 (q_in (by decide +kernel)) dL_law_1266 ?_
        refine q_c a3 e3 ?_
        have g_12779 : (0 : Int32) ≤ a2 := by
          simp only [Int32.lt_iff_toInt_lt, Int32.le_iff_toInt_le, ← Int32.toInt_inj] at c_12564 c_12593 ⊢
          have k_0 : ((-1) : Int32).toInt = -1 := by decide
          have k_1 : (3 : Int32).toInt = 3 := by decide
          have k_g : (0 : Int32).toInt = 0 := by decide
          omega
        have g_12780 : a2 ≤ (3 : Int32) := by
          simp only [Int32.lt_iff_toInt_lt, Int32.le_iff_toInt_le, ← Int32.toInt_inj] at c_12564 c_12593 ⊢
          have k_0 : ((-1) : Int32).toInt = -1 := by decide
          have k_1 : (3 : Int32).toInt = 3 := by decide
          omega
        have g_12781 : (0 : Int32) ≤ a3 := by
          simp only [Int32.lt_iff_toInt_lt, Int32.le_iff_toInt_le, ← Int32.toInt_inj] at c_12616 c_12677 ⊢
          have k_0 : ((-1) : Int32).toInt = -1 := by decide
          have k_1 : (40 : Int32).toInt = 40 := by decide
          have k_g : (0 : Int32).toInt = 0 := by decide
          omega
        have g_12782 : a3 ≤ (40 : Int32) := by
          simp only [Int32.lt_iff_toInt_lt, Int32.le_iff_toInt_le, ← Int32.toInt_inj] at c_12616 c_12677 ⊢
          have k_0 : ((-1) : Int32).toInt = -1 := by decide
          have k_1 : (40 : Int32).toInt = 40 := by decide
          omega
        refine q_callVi (rest := [.int 0]) (wr := []) X hK hA hw17 (fun sz => kX12_numbers_536 l D cy y0 (u_1.1 16) (u_1.1 17) (u_1.1 18) (upd (upd (upd (upd (fun _ => 0) (Int32.toNatClampNeg 0) (-1)) (Int32.toNatClampNeg 1) (-1)) (Int32.toNatClampNeg 2) (-1)) (Int32.toNatClampNeg 3) (-1)) a2 a3 (u_1.1 19) (u_1.1 0) (u_1.1 1) (u_1.1 2) (u_1.1 3) (u_1.1 4) (u_1.1 5) (u_1.1 6) (u_1.1 7) (u_1.1 8) (u_1.1 9) (u_1.1 10) (u_1.1 11) (u_1.1 12) (u_1.1 13) (u_1.1 14) (u_1.1 15) g_12779 g_12780 g_12781 g_12782 sz) wm_8_27 wm_8_30 wm_1_12 hd_X12_numbers wm_8_28 wm_8_29 (ci := 12) (q0 := 0) rfl rfl ⟨Nat.le_of_ble_eq_true rfl, Nat.le_of_ble_eq_true rfl⟩ hl.1 rfl (Nat.le_of_ble_eq_true rfl) dL_law_1267 ⟨Nat.le_of_ble_eq_true rfl, Nat.le_of_ble_eq_true rfl⟩ [0, 1, 2, 3] [] rfl rfl (by decide) rfl rfl (fun r_12783 u_12783 Hp18 lc18 w_12783 hw18 => ?_)
        clear Hp17 lc17 hw17
        obtain rfl : r_12783 = 0 := w_12783
        clear w_12783
        replace hw18 : qW D _ _ [] _ _ := hw18
        refine lv_icmp_eq (tgt := 1461) hx hb dL_law_1270 (by decide) (fun _ => ?_) (fun c => absurd c (by decide +kernel))
        exact law_tail l X hr hlk hX hbl hw18.2.2 hl (Nat.le_of_ble_eq_true rfl) (Nat.le_of_ble_eq_true rfl)
      refine lv_aload_n hx hb dL_law_1232 rfl (lv_at hl 2 rfl) ?_
      refine lv_aload_n hx hb dL_law_1233 rfl (lv_at hl 3 rfl) ?_
      refine lv_iload_n hx hb dL_law_1234 rfl (lv_at hl 0 rfl) ?_
      refine lv_iconst (v := 1) hx hb dL_law_1235 (by decide) ?_
      refine lv_iadd hx hb dL_law_1236 ?_
      refine q_c 1 (by decide +kernel) ?_
      refine va_sld X.1 X.2.1 hX hbl hbA hw18.2.2 (q_in (by decide +kernel)) dL_law_1237 ?_
      refine q_c 1 e1 ?_
      refine lv_aload_n hx hb dL_law_1238 rfl (lv_at hl 3 rfl) ?_
      refine lv_iload_n hx hb dL_law_1239 rfl (lv_at hl 0 rfl) ?_
      refine lv_iconst (v := 2) hx hb dL_law_1240 (by decide) ?_
      refine lv_iadd hx hb dL_law_1241 ?_
      refine q_c 2 (by decide +kernel) ?_
      refine va_sld X.1 X.2.1 hX hbl hbA hw18.2.2 (q_in (by decide +kernel)) dL_law_1242 ?_
      refine q_c a2 e2 ?_
      refine lv_aload_n hx hb dL_law_1243 rfl (lv_at hl 3 rfl) ?_
      refine lv_iload_n hx hb dL_law_1244 rfl (lv_at hl 0 rfl) ?_
      refine lv_iconst (v := 3) hx hb dL_law_1245 (by decide) ?_
      refine lv_iadd hx hb dL_law_1246 ?_
      refine q_c 3 (by decide +kernel) ?_
      refine va_sld X.1 X.2.1 hX hbl hbA hw18.2.2 (q_in (by decide +kernel)) dL_law_1247 ?_
      refine q_c a3 e3 ?_
      have g_12835 : (0 : Int32) ≤ a2 := by
        simp only [Int32.lt_iff_toInt_lt, Int32.le_iff_toInt_le, ← Int32.toInt_inj] at c_12564 c_12593 ⊢
        have k_0 : ((-1) : Int32).toInt = -1 := by decide
        have k_1 : (3 : Int32).toInt = 3 := by decide
        have k_g : (0 : Int32).toInt = 0 := by decide
        omega
      have g_12836 : a2 ≤ (3 : Int32) := by
        simp only [Int32.lt_iff_toInt_lt, Int32.le_iff_toInt_le, ← Int32.toInt_inj] at c_12564 c_12593 ⊢
        have k_0 : ((-1) : Int32).toInt = -1 := by decide
        have k_1 : (3 : Int32).toInt = 3 := by decide
        omega
      have g_12837 : (41 : Int32) ≤ a3 := by
        simp only [Int32.lt_iff_toInt_lt, Int32.le_iff_toInt_le, ← Int32.toInt_inj] at c_12616 c_12677 ⊢
        have k_0 : ((-1) : Int32).toInt = -1 := by decide
        have k_1 : (40 : Int32).toInt = 40 := by decide
        have k_g : (41 : Int32).toInt = 41 := by decide
        omega
      refine q_callVi (rest := []) (wr := [(y0, .inr (12, [.int 0, .ref (u_1.1 19), .ref (u_1.1 0), .ref (u_1.1 1), .ref (u_1.1 2), .int 0, .int 0, .int 0, .int 0, .int 0, .int 0, .int 0, .int 0, .int 0, .int (-1), .int 0, .ref (u_1.1 3), .ref (u_1.1 4), .ref (u_1.1 5), .ref (u_1.1 6), .ref (u_1.1 7), .int 0, .int 0, .ref (u_1.1 8), .ref (u_1.1 9), .ref (u_1.1 10), .int 0, .int 0, .ref (u_1.1 11), .ref (u_1.1 12), .ref (u_1.1 13), .ref (u_1.1 14), .ref (u_1.1 15), .int 0, .ref (u_1.1 16), .ref (u_1.1 17), .ref (u_1.1 18)]))]) X hK hA hw18 (fun sz => kX11_numbers_537 l D cy x0 a2 a3 (u_0.1 0) (u_0.1 1) (u_0.1 37) (u_0.1 39) (u_0.1 41) (u_0.1 43) (u_0.1 14) (u_0.1 15) (u_0.1 16) (u_0.1 17) (u_0.1 20) (u_0.1 24) (u_0.1 29) g_12835 g_12836 g_12837 sz) wm_5_120 wm_5_123 wm_1_1 hd_X11_numbers wm_5_121 wm_5_122 (ci := 11) (q0 := 0) rfl rfl ⟨Nat.le_of_ble_eq_true rfl, Nat.le_of_ble_eq_true rfl⟩ hl.1 rfl (Nat.le_of_ble_eq_true rfl) dL_law_1248 ⟨Nat.le_of_ble_eq_true rfl, Nat.le_of_ble_eq_true rfl⟩ [0] [78] rfl rfl (by decide) rfl rfl (fun r_12838 u_12838 Hp19 lc19 w_12838 hw19 => ?_)
      clear Hp18 lc18 hw18
      obtain rfl : r_12838 = (-3) := w_12838
      clear w_12838
      replace hw19 : qW D _ _ [(y0, .inr (12, [.int 0, .ref (u_1.1 19), .ref (u_1.1 0), .ref (u_1.1 1), .ref (u_1.1 2), .int 0, .int 0, .int 0, .int 0, .int 0, .int 0, .int 0, .int 0, .int 0, .int (-1), .int 0, .ref (u_1.1 3), .ref (u_1.1 4), .ref (u_1.1 5), .ref (u_1.1 6), .ref (u_1.1 7), .int 0, .int 0, .ref (u_1.1 8), .ref (u_1.1 9), .ref (u_1.1 10), .int 0, .int 0, .ref (u_1.1 11), .ref (u_1.1 12), .ref (u_1.1 13), .ref (u_1.1 14), .ref (u_1.1 15), .int 0, .ref (u_1.1 16), .ref (u_1.1 17), .ref (u_1.1 18)]))] _ _ := hw19
      refine lv_aload_n hx hb dL_law_1251 rfl (lv_at hl 1 rfl) ?_
      refine lv_aload_n hx hb dL_law_1252 rfl (lv_at hl 3 rfl) ?_
      refine lv_iload_n hx hb dL_law_1253 rfl (lv_at hl 0 rfl) ?_
      refine lv_iconst (v := 1) hx hb dL_law_1254 (by decide) ?_
      refine lv_iadd hx hb dL_law_1255 ?_
      refine q_c 1 (by decide +kernel) ?_
      refine va_sld X.1 X.2.1 hX hbl hbA hw19.2.2 (q_in (by decide +kernel)) dL_law_1256 ?_
      refine q_c 1 e1 ?_
      refine lv_aload_n hx hb dL_law_1257 rfl (lv_at hl 3 rfl) ?_
      refine lv_iload_n hx hb dL_law_1258 rfl (lv_at hl 0 rfl) ?_
      refine lv_iconst (v := 2) hx hb dL_law_1259 (by decide) ?_
      refine lv_iadd hx hb dL_law_1260 ?_
      refine q_c 2 (by decide +kernel) ?_
      refine va_sld X.1 X.2.1 hX hbl hbA hw19.2.2 (q_in (by decide +kernel)) dL_law_1261 ?_
      refine q_c a2 e2 ?_
      refine lv_aload_n hx hb dL_law_1262 rfl (lv_at hl 3 rfl) ?_
      refine lv_iload_n hx hb dL_law_1263 rfl (lv_at hl 0 rfl) ?_
      refine lv_iconst (v := 3) hx hb dL_law_1264 (by decide) ?_
      refine lv_iadd hx hb dL_law_1265 ?_
      refine q_c 3 (by decide +kernel) ?_
      refine va_sld X.1 X.2.1 hX hbl hbA hw19.2.2 (q_in (by decide +kernel)) dL_law_1266 ?_
      refine q_c a3 e3 ?_
      have g_12849 : (0 : Int32) ≤ a2 := by
        simp only [Int32.lt_iff_toInt_lt, Int32.le_iff_toInt_le, ← Int32.toInt_inj] at c_12564 c_12593 ⊢
        have k_0 : ((-1) : Int32).toInt = -1 := by decide
        have k_1 : (3 : Int32).toInt = 3 := by decide
        have k_g : (0 : Int32).toInt = 0 := by decide
        omega
      have g_12850 : a2 ≤ (3 : Int32) := by
        simp only [Int32.lt_iff_toInt_lt, Int32.le_iff_toInt_le, ← Int32.toInt_inj] at c_12564 c_12593 ⊢
        have k_0 : ((-1) : Int32).toInt = -1 := by decide
        have k_1 : (3 : Int32).toInt = 3 := by decide
        omega
      have g_12851 : (41 : Int32) ≤ a3 := by
        simp only [Int32.lt_iff_toInt_lt, Int32.le_iff_toInt_le, ← Int32.toInt_inj] at c_12616 c_12677 ⊢
        have k_0 : ((-1) : Int32).toInt = -1 := by decide
        have k_1 : (40 : Int32).toInt = 40 := by decide
        have k_g : (41 : Int32).toInt = 41 := by decide
        omega
      refine q_callVi (rest := [.int (-3)]) (wr := []) X hK hA hw19 (fun sz => kX12_numbers_538 l D cy y0 a2 a3 (u_1.1 19) (u_1.1 0) (u_1.1 1) (u_1.1 2) (u_1.1 3) (u_1.1 4) (u_1.1 5) (u_1.1 6) (u_1.1 7) (u_1.1 8) (u_1.1 9) (u_1.1 10) (u_1.1 11) (u_1.1 12) (u_1.1 13) (u_1.1 14) (u_1.1 15) (u_1.1 16) (u_1.1 17) (u_1.1 18) g_12849 g_12850 g_12851 sz) wm_8_27 wm_8_30 wm_1_12 hd_X12_numbers wm_8_28 wm_8_29 (ci := 12) (q0 := 0) rfl rfl ⟨Nat.le_of_ble_eq_true rfl, Nat.le_of_ble_eq_true rfl⟩ hl.1 rfl (Nat.le_of_ble_eq_true rfl) dL_law_1267 ⟨Nat.le_of_ble_eq_true rfl, Nat.le_of_ble_eq_true rfl⟩ [0] [] rfl rfl (by decide) rfl rfl (fun r_12852 u_12852 Hp20 lc20 w_12852 hw20 => ?_)
      clear Hp19 lc19 hw19
      obtain rfl : r_12852 = (-3) := w_12852
      clear w_12852
      replace hw20 : qW D _ _ [] _ _ := hw20
      refine lv_icmp_eq (tgt := 1461) hx hb dL_law_1270 (by decide) (fun _ => ?_) (fun c => absurd c (by decide +kernel))
      exact law_tail l X hr hlk hX hbl hw20.2.2 hl (Nat.le_of_ble_eq_true rfl) (Nat.le_of_ble_eq_true rfl)
    refine lv_aload_n hx hb dL_law_1232 rfl (lv_at hl 2 rfl) ?_
    refine lv_aload_n hx hb dL_law_1233 rfl (lv_at hl 3 rfl) ?_
    refine lv_iload_n hx hb dL_law_1234 rfl (lv_at hl 0 rfl) ?_
    refine lv_iconst (v := 1) hx hb dL_law_1235 (by decide) ?_
    refine lv_iadd hx hb dL_law_1236 ?_
    refine q_c 1 (by decide +kernel) ?_
    refine va_sld X.1 X.2.1 hX hbl hbA hw20.2.2 (q_in (by decide +kernel)) dL_law_1237 ?_
    refine q_c 1 e1 ?_
    refine lv_aload_n hx hb dL_law_1238 rfl (lv_at hl 3 rfl) ?_
    refine lv_iload_n hx hb dL_law_1239 rfl (lv_at hl 0 rfl) ?_
    refine lv_iconst (v := 2) hx hb dL_law_1240 (by decide) ?_
    refine lv_iadd hx hb dL_law_1241 ?_
    refine q_c 2 (by decide +kernel) ?_
    refine va_sld X.1 X.2.1 hX hbl hbA hw20.2.2 (q_in (by decide +kernel)) dL_law_1242 ?_
    refine q_c a2 e2 ?_
    refine lv_aload_n hx hb dL_law_1243 rfl (lv_at hl 3 rfl) ?_
    refine lv_iload_n hx hb dL_law_1244 rfl (lv_at hl 0 rfl) ?_
    refine lv_iconst (v := 3) hx hb dL_law_1245 (by decide) ?_
    refine lv_iadd hx hb dL_law_1246 ?_
    refine q_c 3 (by decide +kernel) ?_
    refine va_sld X.1 X.2.1 hX hbl hbA hw20.2.2 (q_in (by decide +kernel)) dL_law_1247 ?_
    refine q_c a3 e3 ?_
    have g_12881 : (4 : Int32) ≤ a2 := by
      simp only [Int32.lt_iff_toInt_lt, Int32.le_iff_toInt_le, ← Int32.toInt_inj] at c_12564 c_12593 ⊢
      have k_0 : ((-1) : Int32).toInt = -1 := by decide
      have k_1 : (3 : Int32).toInt = 3 := by decide
      have k_g : (4 : Int32).toInt = 4 := by decide
      omega
    refine q_callVi (rest := []) (wr := [(y0, .inr (12, [.int 0, .ref (u_1.1 19), .ref (u_1.1 0), .ref (u_1.1 1), .ref (u_1.1 2), .int 0, .int 0, .int 0, .int 0, .int 0, .int 0, .int 0, .int 0, .int 0, .int (-1), .int 0, .ref (u_1.1 3), .ref (u_1.1 4), .ref (u_1.1 5), .ref (u_1.1 6), .ref (u_1.1 7), .int 0, .int 0, .ref (u_1.1 8), .ref (u_1.1 9), .ref (u_1.1 10), .int 0, .int 0, .ref (u_1.1 11), .ref (u_1.1 12), .ref (u_1.1 13), .ref (u_1.1 14), .ref (u_1.1 15), .int 0, .ref (u_1.1 16), .ref (u_1.1 17), .ref (u_1.1 18)]))]) X hK hA hw20 (fun sz => kX11_numbers_539 l D cy x0 a2 a3 (u_0.1 0) (u_0.1 1) (u_0.1 37) (u_0.1 39) (u_0.1 41) (u_0.1 43) (u_0.1 14) (u_0.1 15) (u_0.1 16) (u_0.1 17) (u_0.1 20) (u_0.1 24) (u_0.1 29) g_12881 sz) wm_5_120 wm_5_123 wm_1_1 hd_X11_numbers wm_5_121 wm_5_122 (ci := 11) (q0 := 0) rfl rfl ⟨Nat.le_of_ble_eq_true rfl, Nat.le_of_ble_eq_true rfl⟩ hl.1 rfl (Nat.le_of_ble_eq_true rfl) dL_law_1248 ⟨Nat.le_of_ble_eq_true rfl, Nat.le_of_ble_eq_true rfl⟩ [0] [78] rfl rfl (by decide) rfl rfl (fun r_12882 u_12882 Hp21 lc21 w_12882 hw21 => ?_)
    clear Hp20 lc20 hw20
    obtain rfl : r_12882 = (-2) := w_12882
    clear w_12882
    replace hw21 : qW D _ _ [(y0, .inr (12, [.int 0, .ref (u_1.1 19), .ref (u_1.1 0), .ref (u_1.1 1), .ref (u_1.1 2), .int 0, .int 0, .int 0, .int 0, .int 0, .int 0, .int 0, .int 0, .int 0, .int (-1), .int 0, .ref (u_1.1 3), .ref (u_1.1 4), .ref (u_1.1 5), .ref (u_1.1 6), .ref (u_1.1 7), .int 0, .int 0, .ref (u_1.1 8), .ref (u_1.1 9), .ref (u_1.1 10), .int 0, .int 0, .ref (u_1.1 11), .ref (u_1.1 12), .ref (u_1.1 13), .ref (u_1.1 14), .ref (u_1.1 15), .int 0, .ref (u_1.1 16), .ref (u_1.1 17), .ref (u_1.1 18)]))] _ _ := hw21
    refine lv_aload_n hx hb dL_law_1251 rfl (lv_at hl 1 rfl) ?_
    refine lv_aload_n hx hb dL_law_1252 rfl (lv_at hl 3 rfl) ?_
    refine lv_iload_n hx hb dL_law_1253 rfl (lv_at hl 0 rfl) ?_
    refine lv_iconst (v := 1) hx hb dL_law_1254 (by decide) ?_
    refine lv_iadd hx hb dL_law_1255 ?_
    refine q_c 1 (by decide +kernel) ?_
    refine va_sld X.1 X.2.1 hX hbl hbA hw21.2.2 (q_in (by decide +kernel)) dL_law_1256 ?_
    refine q_c 1 e1 ?_
    refine lv_aload_n hx hb dL_law_1257 rfl (lv_at hl 3 rfl) ?_
    refine lv_iload_n hx hb dL_law_1258 rfl (lv_at hl 0 rfl) ?_
    refine lv_iconst (v := 2) hx hb dL_law_1259 (by decide) ?_
    refine lv_iadd hx hb dL_law_1260 ?_
    refine q_c 2 (by decide +kernel) ?_
    refine va_sld X.1 X.2.1 hX hbl hbA hw21.2.2 (q_in (by decide +kernel)) dL_law_1261 ?_
    refine q_c a2 e2 ?_
    refine lv_aload_n hx hb dL_law_1262 rfl (lv_at hl 3 rfl) ?_
    refine lv_iload_n hx hb dL_law_1263 rfl (lv_at hl 0 rfl) ?_
    refine lv_iconst (v := 3) hx hb dL_law_1264 (by decide) ?_
    refine lv_iadd hx hb dL_law_1265 ?_
    refine q_c 3 (by decide +kernel) ?_
    refine va_sld X.1 X.2.1 hX hbl hbA hw21.2.2 (q_in (by decide +kernel)) dL_law_1266 ?_
    refine q_c a3 e3 ?_
    have g_12888 : (4 : Int32) ≤ a2 := by
      simp only [Int32.lt_iff_toInt_lt, Int32.le_iff_toInt_le, ← Int32.toInt_inj] at c_12564 c_12593 ⊢
      have k_0 : ((-1) : Int32).toInt = -1 := by decide
      have k_1 : (3 : Int32).toInt = 3 := by decide
      have k_g : (4 : Int32).toInt = 4 := by decide
      omega
    refine q_callVi (rest := [.int (-2)]) (wr := []) X hK hA hw21 (fun sz => kX12_numbers_540 l D cy y0 a2 a3 (u_1.1 19) (u_1.1 0) (u_1.1 1) (u_1.1 2) (u_1.1 3) (u_1.1 4) (u_1.1 5) (u_1.1 6) (u_1.1 7) (u_1.1 8) (u_1.1 9) (u_1.1 10) (u_1.1 11) (u_1.1 12) (u_1.1 13) (u_1.1 14) (u_1.1 15) (u_1.1 16) (u_1.1 17) (u_1.1 18) g_12888 sz) wm_8_27 wm_8_30 wm_1_12 hd_X12_numbers wm_8_28 wm_8_29 (ci := 12) (q0 := 0) rfl rfl ⟨Nat.le_of_ble_eq_true rfl, Nat.le_of_ble_eq_true rfl⟩ hl.1 rfl (Nat.le_of_ble_eq_true rfl) dL_law_1267 ⟨Nat.le_of_ble_eq_true rfl, Nat.le_of_ble_eq_true rfl⟩ [0] [] rfl rfl (by decide) rfl rfl (fun r_12889 u_12889 Hp22 lc22 w_12889 hw22 => ?_)
    clear Hp21 lc21 hw21
    obtain rfl : r_12889 = (-2) := w_12889
    clear w_12889
    replace hw22 : qW D _ _ [] _ _ := hw22
    refine lv_icmp_eq (tgt := 1461) hx hb dL_law_1270 (by decide) (fun _ => ?_) (fun c => absurd c (by decide +kernel))
    exact law_tail l X hr hlk hX hbl hw22.2.2 hl (Nat.le_of_ble_eq_true rfl) (Nat.le_of_ble_eq_true rfl)
  by_cases c_12890 : a1 = 2
  · subst c_12890
    by_cases c_12913 : a2 ≤ (-1)
    · skip
      refine lv_aload_n hx hb dL_law_1232 rfl (lv_at hl 2 rfl) ?_
      refine lv_aload_n hx hb dL_law_1233 rfl (lv_at hl 3 rfl) ?_
      refine lv_iload_n hx hb dL_law_1234 rfl (lv_at hl 0 rfl) ?_
      refine lv_iconst (v := 1) hx hb dL_law_1235 (by decide) ?_
      refine lv_iadd hx hb dL_law_1236 ?_
      refine q_c 1 (by decide +kernel) ?_
      refine va_sld X.1 X.2.1 hX hbl hbA hw22.2.2 (q_in (by decide +kernel)) dL_law_1237 ?_
      refine q_c 2 e1 ?_
      refine lv_aload_n hx hb dL_law_1238 rfl (lv_at hl 3 rfl) ?_
      refine lv_iload_n hx hb dL_law_1239 rfl (lv_at hl 0 rfl) ?_
      refine lv_iconst (v := 2) hx hb dL_law_1240 (by decide) ?_
      refine lv_iadd hx hb dL_law_1241 ?_
      refine q_c 2 (by decide +kernel) ?_
      refine va_sld X.1 X.2.1 hX hbl hbA hw22.2.2 (q_in (by decide +kernel)) dL_law_1242 ?_
      refine q_c a2 e2 ?_
      refine lv_aload_n hx hb dL_law_1243 rfl (lv_at hl 3 rfl) ?_
      refine lv_iload_n hx hb dL_law_1244 rfl (lv_at hl 0 rfl) ?_
      refine lv_iconst (v := 3) hx hb dL_law_1245 (by decide) ?_
      refine lv_iadd hx hb dL_law_1246 ?_
      refine q_c 3 (by decide +kernel) ?_
      refine va_sld X.1 X.2.1 hX hbl hbA hw22.2.2 (q_in (by decide +kernel)) dL_law_1247 ?_
      refine q_c a3 e3 ?_
      have g_12934 : a2 ≤ ((-1) : Int32) := by
        simp only [Int32.lt_iff_toInt_lt, Int32.le_iff_toInt_le, ← Int32.toInt_inj] at c_12913 ⊢
        have k_0 : ((-1) : Int32).toInt = -1 := by decide
        omega
      refine q_callVi (rest := []) (wr := [(y0, .inr (12, [.int 0, .ref (u_1.1 19), .ref (u_1.1 0), .ref (u_1.1 1), .ref (u_1.1 2), .int 0, .int 0, .int 0, .int 0, .int 0, .int 0, .int 0, .int 0, .int 0, .int (-1), .int 0, .ref (u_1.1 3), .ref (u_1.1 4), .ref (u_1.1 5), .ref (u_1.1 6), .ref (u_1.1 7), .int 0, .int 0, .ref (u_1.1 8), .ref (u_1.1 9), .ref (u_1.1 10), .int 0, .int 0, .ref (u_1.1 11), .ref (u_1.1 12), .ref (u_1.1 13), .ref (u_1.1 14), .ref (u_1.1 15), .int 0, .ref (u_1.1 16), .ref (u_1.1 17), .ref (u_1.1 18)]))]) X hK hA hw22 (fun sz => kX11_numbers_541 l D cy x0 a2 a3 (u_0.1 0) (u_0.1 1) (u_0.1 37) (u_0.1 39) (u_0.1 41) (u_0.1 43) (u_0.1 14) (u_0.1 15) (u_0.1 16) (u_0.1 17) (u_0.1 20) (u_0.1 24) (u_0.1 29) g_12934 sz) wm_5_120 wm_5_123 wm_1_1 hd_X11_numbers wm_5_121 wm_5_122 (ci := 11) (q0 := 0) rfl rfl ⟨Nat.le_of_ble_eq_true rfl, Nat.le_of_ble_eq_true rfl⟩ hl.1 rfl (Nat.le_of_ble_eq_true rfl) dL_law_1248 ⟨Nat.le_of_ble_eq_true rfl, Nat.le_of_ble_eq_true rfl⟩ [0] [78] rfl rfl (by decide) rfl rfl (fun r_12935 u_12935 Hp23 lc23 w_12935 hw23 => ?_)
      clear Hp22 lc22 hw22
      obtain rfl : r_12935 = (-2) := w_12935
      clear w_12935
      replace hw23 : qW D _ _ [(y0, .inr (12, [.int 0, .ref (u_1.1 19), .ref (u_1.1 0), .ref (u_1.1 1), .ref (u_1.1 2), .int 0, .int 0, .int 0, .int 0, .int 0, .int 0, .int 0, .int 0, .int 0, .int (-1), .int 0, .ref (u_1.1 3), .ref (u_1.1 4), .ref (u_1.1 5), .ref (u_1.1 6), .ref (u_1.1 7), .int 0, .int 0, .ref (u_1.1 8), .ref (u_1.1 9), .ref (u_1.1 10), .int 0, .int 0, .ref (u_1.1 11), .ref (u_1.1 12), .ref (u_1.1 13), .ref (u_1.1 14), .ref (u_1.1 15), .int 0, .ref (u_1.1 16), .ref (u_1.1 17), .ref (u_1.1 18)]))] _ _ := hw23
      refine lv_aload_n hx hb dL_law_1251 rfl (lv_at hl 1 rfl) ?_
      refine lv_aload_n hx hb dL_law_1252 rfl (lv_at hl 3 rfl) ?_
      refine lv_iload_n hx hb dL_law_1253 rfl (lv_at hl 0 rfl) ?_
      refine lv_iconst (v := 1) hx hb dL_law_1254 (by decide) ?_
      refine lv_iadd hx hb dL_law_1255 ?_
      refine q_c 1 (by decide +kernel) ?_
      refine va_sld X.1 X.2.1 hX hbl hbA hw23.2.2 (q_in (by decide +kernel)) dL_law_1256 ?_
      refine q_c 2 e1 ?_
      refine lv_aload_n hx hb dL_law_1257 rfl (lv_at hl 3 rfl) ?_
      refine lv_iload_n hx hb dL_law_1258 rfl (lv_at hl 0 rfl) ?_
      refine lv_iconst (v := 2) hx hb dL_law_1259 (by decide) ?_
      refine lv_iadd hx hb dL_law_1260 ?_
      refine q_c 2 (by decide +kernel) ?_
      refine va_sld X.1 X.2.1 hX hbl hbA hw23.2.2 (q_in (by decide +kernel)) dL_law_1261 ?_
      refine q_c a2 e2 ?_
      refine lv_aload_n hx hb dL_law_1262 rfl (lv_at hl 3 rfl) ?_
      refine lv_iload_n hx hb dL_law_1263 rfl (lv_at hl 0 rfl) ?_
      refine lv_iconst (v := 3) hx hb dL_law_1264 (by decide) ?_
      refine lv_iadd hx hb dL_law_1265 ?_
      refine q_c 3 (by decide +kernel) ?_
      refine va_sld X.1 X.2.1 hX hbl hbA hw23.2.2 (q_in (by decide +kernel)) dL_law_1266 ?_
      refine q_c a3 e3 ?_
      have g_12940 : a2 ≤ ((-1) : Int32) := by
        simp only [Int32.lt_iff_toInt_lt, Int32.le_iff_toInt_le, ← Int32.toInt_inj] at c_12913 ⊢
        have k_0 : ((-1) : Int32).toInt = -1 := by decide
        omega
      refine q_callVi (rest := [.int (-2)]) (wr := []) X hK hA hw23 (fun sz => kX12_numbers_542 l D cy y0 a2 a3 (u_1.1 19) (u_1.1 0) (u_1.1 1) (u_1.1 2) (u_1.1 3) (u_1.1 4) (u_1.1 5) (u_1.1 6) (u_1.1 7) (u_1.1 8) (u_1.1 9) (u_1.1 10) (u_1.1 11) (u_1.1 12) (u_1.1 13) (u_1.1 14) (u_1.1 15) (u_1.1 16) (u_1.1 17) (u_1.1 18) g_12940 sz) wm_8_27 wm_8_30 wm_1_12 hd_X12_numbers wm_8_28 wm_8_29 (ci := 12) (q0 := 0) rfl rfl ⟨Nat.le_of_ble_eq_true rfl, Nat.le_of_ble_eq_true rfl⟩ hl.1 rfl (Nat.le_of_ble_eq_true rfl) dL_law_1267 ⟨Nat.le_of_ble_eq_true rfl, Nat.le_of_ble_eq_true rfl⟩ [0] [] rfl rfl (by decide) rfl rfl (fun r_12941 u_12941 Hp24 lc24 w_12941 hw24 => ?_)
      clear Hp23 lc23 hw23
      obtain rfl : r_12941 = (-2) := w_12941
      clear w_12941
      replace hw24 : qW D _ _ [] _ _ := hw24
      refine lv_icmp_eq (tgt := 1461) hx hb dL_law_1270 (by decide) (fun _ => ?_) (fun c => absurd c (by decide +kernel))
      exact law_tail l X hr hlk hX hbl hw24.2.2 hl (Nat.le_of_ble_eq_true rfl) (Nat.le_of_ble_eq_true rfl)
    by_cases c_12942 : a2 ≤ 3
    · skip
      by_cases c_12965 : a3 ≤ (-1)
      · skip
        refine lv_aload_n hx hb dL_law_1232 rfl (lv_at hl 2 rfl) ?_
        refine lv_aload_n hx hb dL_law_1233 rfl (lv_at hl 3 rfl) ?_
        refine lv_iload_n hx hb dL_law_1234 rfl (lv_at hl 0 rfl) ?_
        refine lv_iconst (v := 1) hx hb dL_law_1235 (by decide) ?_
        refine lv_iadd hx hb dL_law_1236 ?_
        refine q_c 1 (by decide +kernel) ?_
        refine va_sld X.1 X.2.1 hX hbl hbA hw24.2.2 (q_in (by decide +kernel)) dL_law_1237 ?_
        refine q_c 2 e1 ?_
        refine lv_aload_n hx hb dL_law_1238 rfl (lv_at hl 3 rfl) ?_
        refine lv_iload_n hx hb dL_law_1239 rfl (lv_at hl 0 rfl) ?_
        refine lv_iconst (v := 2) hx hb dL_law_1240 (by decide) ?_
        refine lv_iadd hx hb dL_law_1241 ?_
        refine q_c 2 (by decide +kernel) ?_
        refine va_sld X.1 X.2.1 hX hbl hbA hw24.2.2 (q_in (by decide +kernel)) dL_law_1242 ?_
        refine q_c a2 e2 ?_
        refine lv_aload_n hx hb dL_law_1243 rfl (lv_at hl 3 rfl) ?_
        refine lv_iload_n hx hb dL_law_1244 rfl (lv_at hl 0 rfl) ?_
        refine lv_iconst (v := 3) hx hb dL_law_1245 (by decide) ?_
        refine lv_iadd hx hb dL_law_1246 ?_
        refine q_c 3 (by decide +kernel) ?_
        refine va_sld X.1 X.2.1 hX hbl hbA hw24.2.2 (q_in (by decide +kernel)) dL_law_1247 ?_
        refine q_c a3 e3 ?_
        have g_13009 : (0 : Int32) ≤ a2 := by
          simp only [Int32.lt_iff_toInt_lt, Int32.le_iff_toInt_le, ← Int32.toInt_inj] at c_12913 c_12942 ⊢
          have k_0 : ((-1) : Int32).toInt = -1 := by decide
          have k_1 : (3 : Int32).toInt = 3 := by decide
          have k_g : (0 : Int32).toInt = 0 := by decide
          omega
        have g_13010 : a2 ≤ (3 : Int32) := by
          simp only [Int32.lt_iff_toInt_lt, Int32.le_iff_toInt_le, ← Int32.toInt_inj] at c_12913 c_12942 ⊢
          have k_0 : ((-1) : Int32).toInt = -1 := by decide
          have k_1 : (3 : Int32).toInt = 3 := by decide
          omega
        have g_13011 : a3 ≤ ((-1) : Int32) := by
          simp only [Int32.lt_iff_toInt_lt, Int32.le_iff_toInt_le, ← Int32.toInt_inj] at c_12965 ⊢
          have k_0 : ((-1) : Int32).toInt = -1 := by decide
          omega
        refine q_callVi (rest := []) (wr := [(y0, .inr (12, [.int 0, .ref (u_1.1 19), .ref (u_1.1 0), .ref (u_1.1 1), .ref (u_1.1 2), .int 0, .int 0, .int 0, .int 0, .int 0, .int 0, .int 0, .int 0, .int 0, .int (-1), .int 0, .ref (u_1.1 3), .ref (u_1.1 4), .ref (u_1.1 5), .ref (u_1.1 6), .ref (u_1.1 7), .int 0, .int 0, .ref (u_1.1 8), .ref (u_1.1 9), .ref (u_1.1 10), .int 0, .int 0, .ref (u_1.1 11), .ref (u_1.1 12), .ref (u_1.1 13), .ref (u_1.1 14), .ref (u_1.1 15), .int 0, .ref (u_1.1 16), .ref (u_1.1 17), .ref (u_1.1 18)]))]) X hK hA hw24 (fun sz => kX11_numbers_543 l D cy x0 a2 a3 (u_0.1 0) (u_0.1 1) (u_0.1 37) (u_0.1 39) (u_0.1 41) (u_0.1 43) (u_0.1 14) (u_0.1 15) (u_0.1 16) (u_0.1 17) (u_0.1 20) (u_0.1 24) (u_0.1 29) g_13009 g_13010 g_13011 sz) wm_5_120 wm_5_123 wm_1_1 hd_X11_numbers wm_5_121 wm_5_122 (ci := 11) (q0 := 0) rfl rfl ⟨Nat.le_of_ble_eq_true rfl, Nat.le_of_ble_eq_true rfl⟩ hl.1 rfl (Nat.le_of_ble_eq_true rfl) dL_law_1248 ⟨Nat.le_of_ble_eq_true rfl, Nat.le_of_ble_eq_true rfl⟩ [0] [78] rfl rfl (by decide) rfl rfl (fun r_13012 u_13012 Hp25 lc25 w_13012 hw25 => ?_)
        clear Hp24 lc24 hw24
        obtain rfl : r_13012 = (-3) := w_13012
        clear w_13012
        replace hw25 : qW D _ _ [(y0, .inr (12, [.int 0, .ref (u_1.1 19), .ref (u_1.1 0), .ref (u_1.1 1), .ref (u_1.1 2), .int 0, .int 0, .int 0, .int 0, .int 0, .int 0, .int 0, .int 0, .int 0, .int (-1), .int 0, .ref (u_1.1 3), .ref (u_1.1 4), .ref (u_1.1 5), .ref (u_1.1 6), .ref (u_1.1 7), .int 0, .int 0, .ref (u_1.1 8), .ref (u_1.1 9), .ref (u_1.1 10), .int 0, .int 0, .ref (u_1.1 11), .ref (u_1.1 12), .ref (u_1.1 13), .ref (u_1.1 14), .ref (u_1.1 15), .int 0, .ref (u_1.1 16), .ref (u_1.1 17), .ref (u_1.1 18)]))] _ _ := hw25
        refine lv_aload_n hx hb dL_law_1251 rfl (lv_at hl 1 rfl) ?_
        refine lv_aload_n hx hb dL_law_1252 rfl (lv_at hl 3 rfl) ?_
        refine lv_iload_n hx hb dL_law_1253 rfl (lv_at hl 0 rfl) ?_
        refine lv_iconst (v := 1) hx hb dL_law_1254 (by decide) ?_
        refine lv_iadd hx hb dL_law_1255 ?_
        refine q_c 1 (by decide +kernel) ?_
        refine va_sld X.1 X.2.1 hX hbl hbA hw25.2.2 (q_in (by decide +kernel)) dL_law_1256 ?_
        refine q_c 2 e1 ?_
        refine lv_aload_n hx hb dL_law_1257 rfl (lv_at hl 3 rfl) ?_
        refine lv_iload_n hx hb dL_law_1258 rfl (lv_at hl 0 rfl) ?_
        refine lv_iconst (v := 2) hx hb dL_law_1259 (by decide) ?_
        refine lv_iadd hx hb dL_law_1260 ?_
        refine q_c 2 (by decide +kernel) ?_
        refine va_sld X.1 X.2.1 hX hbl hbA hw25.2.2 (q_in (by decide +kernel)) dL_law_1261 ?_
        refine q_c a2 e2 ?_
        refine lv_aload_n hx hb dL_law_1262 rfl (lv_at hl 3 rfl) ?_
        refine lv_iload_n hx hb dL_law_1263 rfl (lv_at hl 0 rfl) ?_
        refine lv_iconst (v := 3) hx hb dL_law_1264 (by decide) ?_
        refine lv_iadd hx hb dL_law_1265 ?_
        refine q_c 3 (by decide +kernel) ?_
        refine va_sld X.1 X.2.1 hX hbl hbA hw25.2.2 (q_in (by decide +kernel)) dL_law_1266 ?_
        refine q_c a3 e3 ?_
        have g_13022 : (0 : Int32) ≤ a2 := by
          simp only [Int32.lt_iff_toInt_lt, Int32.le_iff_toInt_le, ← Int32.toInt_inj] at c_12913 c_12942 ⊢
          have k_0 : ((-1) : Int32).toInt = -1 := by decide
          have k_1 : (3 : Int32).toInt = 3 := by decide
          have k_g : (0 : Int32).toInt = 0 := by decide
          omega
        have g_13023 : a2 ≤ (3 : Int32) := by
          simp only [Int32.lt_iff_toInt_lt, Int32.le_iff_toInt_le, ← Int32.toInt_inj] at c_12913 c_12942 ⊢
          have k_0 : ((-1) : Int32).toInt = -1 := by decide
          have k_1 : (3 : Int32).toInt = 3 := by decide
          omega
        have g_13024 : a3 ≤ ((-1) : Int32) := by
          simp only [Int32.lt_iff_toInt_lt, Int32.le_iff_toInt_le, ← Int32.toInt_inj] at c_12965 ⊢
          have k_0 : ((-1) : Int32).toInt = -1 := by decide
          omega
        refine q_callVi (rest := [.int (-3)]) (wr := []) X hK hA hw25 (fun sz => kX12_numbers_544 l D cy y0 a2 a3 (u_1.1 19) (u_1.1 0) (u_1.1 1) (u_1.1 2) (u_1.1 3) (u_1.1 4) (u_1.1 5) (u_1.1 6) (u_1.1 7) (u_1.1 8) (u_1.1 9) (u_1.1 10) (u_1.1 11) (u_1.1 12) (u_1.1 13) (u_1.1 14) (u_1.1 15) (u_1.1 16) (u_1.1 17) (u_1.1 18) g_13022 g_13023 g_13024 sz) wm_8_27 wm_8_30 wm_1_12 hd_X12_numbers wm_8_28 wm_8_29 (ci := 12) (q0 := 0) rfl rfl ⟨Nat.le_of_ble_eq_true rfl, Nat.le_of_ble_eq_true rfl⟩ hl.1 rfl (Nat.le_of_ble_eq_true rfl) dL_law_1267 ⟨Nat.le_of_ble_eq_true rfl, Nat.le_of_ble_eq_true rfl⟩ [0] [] rfl rfl (by decide) rfl rfl (fun r_13025 u_13025 Hp26 lc26 w_13025 hw26 => ?_)
        clear Hp25 lc25 hw25
        obtain rfl : r_13025 = (-3) := w_13025
        clear w_13025
        replace hw26 : qW D _ _ [] _ _ := hw26
        refine lv_icmp_eq (tgt := 1461) hx hb dL_law_1270 (by decide) (fun _ => ?_) (fun c => absurd c (by decide +kernel))
        exact law_tail l X hr hlk hX hbl hw26.2.2 hl (Nat.le_of_ble_eq_true rfl) (Nat.le_of_ble_eq_true rfl)
      by_cases c_13026 : a3 ≤ 40
      · skip
        refine lv_aload_n hx hb dL_law_1232 rfl (lv_at hl 2 rfl) ?_
        refine lv_aload_n hx hb dL_law_1233 rfl (lv_at hl 3 rfl) ?_
        refine lv_iload_n hx hb dL_law_1234 rfl (lv_at hl 0 rfl) ?_
        refine lv_iconst (v := 1) hx hb dL_law_1235 (by decide) ?_
        refine lv_iadd hx hb dL_law_1236 ?_
        refine q_c 1 (by decide +kernel) ?_
        refine va_sld X.1 X.2.1 hX hbl hbA hw26.2.2 (q_in (by decide +kernel)) dL_law_1237 ?_
        refine q_c 2 e1 ?_
        refine lv_aload_n hx hb dL_law_1238 rfl (lv_at hl 3 rfl) ?_
        refine lv_iload_n hx hb dL_law_1239 rfl (lv_at hl 0 rfl) ?_
        refine lv_iconst (v := 2) hx hb dL_law_1240 (by decide) ?_
        refine lv_iadd hx hb dL_law_1241 ?_
        refine q_c 2 (by decide +kernel) ?_
        refine va_sld X.1 X.2.1 hX hbl hbA hw26.2.2 (q_in (by decide +kernel)) dL_law_1242 ?_
        refine q_c a2 e2 ?_
        refine lv_aload_n hx hb dL_law_1243 rfl (lv_at hl 3 rfl) ?_
        refine lv_iload_n hx hb dL_law_1244 rfl (lv_at hl 0 rfl) ?_
        refine lv_iconst (v := 3) hx hb dL_law_1245 (by decide) ?_
        refine lv_iadd hx hb dL_law_1246 ?_
        refine q_c 3 (by decide +kernel) ?_
        refine va_sld X.1 X.2.1 hX hbl hbA hw26.2.2 (q_in (by decide +kernel)) dL_law_1247 ?_
        refine q_c a3 e3 ?_
        have g_13110 : (0 : Int32) ≤ a2 := by
          simp only [Int32.lt_iff_toInt_lt, Int32.le_iff_toInt_le, ← Int32.toInt_inj] at c_12913 c_12942 ⊢
          have k_0 : ((-1) : Int32).toInt = -1 := by decide
          have k_1 : (3 : Int32).toInt = 3 := by decide
          have k_g : (0 : Int32).toInt = 0 := by decide
          omega
        have g_13111 : a2 ≤ (3 : Int32) := by
          simp only [Int32.lt_iff_toInt_lt, Int32.le_iff_toInt_le, ← Int32.toInt_inj] at c_12913 c_12942 ⊢
          have k_0 : ((-1) : Int32).toInt = -1 := by decide
          have k_1 : (3 : Int32).toInt = 3 := by decide
          omega
        have g_13112 : (0 : Int32) ≤ a3 := by
          simp only [Int32.lt_iff_toInt_lt, Int32.le_iff_toInt_le, ← Int32.toInt_inj] at c_12965 c_13026 ⊢
          have k_0 : ((-1) : Int32).toInt = -1 := by decide
          have k_1 : (40 : Int32).toInt = 40 := by decide
          have k_g : (0 : Int32).toInt = 0 := by decide
          omega
        have g_13113 : a3 ≤ (40 : Int32) := by
          simp only [Int32.lt_iff_toInt_lt, Int32.le_iff_toInt_le, ← Int32.toInt_inj] at c_12965 c_13026 ⊢
          have k_0 : ((-1) : Int32).toInt = -1 := by decide
          have k_1 : (40 : Int32).toInt = 40 := by decide
          omega
        refine q_callVi (rest := []) (wr := [(y0, .inr (12, [.int 0, .ref (u_1.1 19), .ref (u_1.1 0), .ref (u_1.1 1), .ref (u_1.1 2), .int 0, .int 0, .int 0, .int 0, .int 0, .int 0, .int 0, .int 0, .int 0, .int (-1), .int 0, .ref (u_1.1 3), .ref (u_1.1 4), .ref (u_1.1 5), .ref (u_1.1 6), .ref (u_1.1 7), .int 0, .int 0, .ref (u_1.1 8), .ref (u_1.1 9), .ref (u_1.1 10), .int 0, .int 0, .ref (u_1.1 11), .ref (u_1.1 12), .ref (u_1.1 13), .ref (u_1.1 14), .ref (u_1.1 15), .int 0, .ref (u_1.1 16), .ref (u_1.1 17), .ref (u_1.1 18)])), ((u_1.1 16), .inl (cy 1, 4, .inl (upd (upd (upd (upd (fun _ => 0) (Int32.toNatClampNeg 0) (-1)) (Int32.toNatClampNeg 1) (-1)) (Int32.toNatClampNeg 2) (-1)) (Int32.toNatClampNeg 3) (-1)))), ((u_1.1 17), .inl (cy 1, 4, .inl (fun _ => 0))), ((u_1.1 18), .inl (cy 2, 160, .inr (.inl (fun _ => 0))))]) X hK hA hw26 (fun sz => kX11_numbers_545 l D cy x0 (u_0.1 14) (u_0.1 69) (u_0.1 70) a2 a3 (u_0.1 0) (u_0.1 1) (u_0.1 37) (u_0.1 39) (u_0.1 41) (u_0.1 43) (u_0.1 15) (u_0.1 16) (u_0.1 17) (u_0.1 20) (u_0.1 24) (u_0.1 29) (u_0.1 71) (u_0.1 67) (u_0.1 65) g_13110 g_13111 g_13112 g_13113 sz) wm_5_120 wm_5_123 wm_1_1 hd_X11_numbers wm_5_121 wm_5_122 (ci := 11) (q0 := 0) rfl rfl ⟨Nat.le_of_ble_eq_true rfl, Nat.le_of_ble_eq_true rfl⟩ hl.1 rfl (Nat.le_of_ble_eq_true rfl) dL_law_1248 ⟨Nat.le_of_ble_eq_true rfl, Nat.le_of_ble_eq_true rfl⟩ [0, 15, 70, 71] [78, 95, 96, 97] rfl rfl (by decide) rfl rfl (fun r_13114 u_13114 Hp27 lc27 w_13114 hw27 => ?_)
        clear Hp26 lc26 hw26
        obtain rfl : r_13114 = 0 := w_13114
        clear w_13114
        replace hw27 : qW D _ _ [(y0, .inr (12, [.int 0, .ref (u_1.1 19), .ref (u_1.1 0), .ref (u_1.1 1), .ref (u_1.1 2), .int 0, .int 0, .int 0, .int 0, .int 0, .int 0, .int 0, .int 0, .int 0, .int (-1), .int 0, .ref (u_1.1 3), .ref (u_1.1 4), .ref (u_1.1 5), .ref (u_1.1 6), .ref (u_1.1 7), .int 0, .int 0, .ref (u_1.1 8), .ref (u_1.1 9), .ref (u_1.1 10), .int 0, .int 0, .ref (u_1.1 11), .ref (u_1.1 12), .ref (u_1.1 13), .ref (u_1.1 14), .ref (u_1.1 15), .int 0, .ref (u_1.1 16), .ref (u_1.1 17), .ref (u_1.1 18)])), ((u_1.1 16), .inl (cy 1, 4, .inl (upd (upd (upd (upd (fun _ => 0) (Int32.toNatClampNeg 0) (-1)) (Int32.toNatClampNeg 1) (-1)) (Int32.toNatClampNeg 2) (-1)) (Int32.toNatClampNeg 3) (-1)))), ((u_1.1 17), .inl (cy 1, 4, .inl (fun _ => 0))), ((u_1.1 18), .inl (cy 2, 160, .inr (.inl (fun _ => 0))))] _ _ := hw27
        refine lv_aload_n hx hb dL_law_1251 rfl (lv_at hl 1 rfl) ?_
        refine lv_aload_n hx hb dL_law_1252 rfl (lv_at hl 3 rfl) ?_
        refine lv_iload_n hx hb dL_law_1253 rfl (lv_at hl 0 rfl) ?_
        refine lv_iconst (v := 1) hx hb dL_law_1254 (by decide) ?_
        refine lv_iadd hx hb dL_law_1255 ?_
        refine q_c 1 (by decide +kernel) ?_
        refine va_sld X.1 X.2.1 hX hbl hbA hw27.2.2 (q_in (by decide +kernel)) dL_law_1256 ?_
        refine q_c 2 e1 ?_
        refine lv_aload_n hx hb dL_law_1257 rfl (lv_at hl 3 rfl) ?_
        refine lv_iload_n hx hb dL_law_1258 rfl (lv_at hl 0 rfl) ?_
        refine lv_iconst (v := 2) hx hb dL_law_1259 (by decide) ?_
        refine lv_iadd hx hb dL_law_1260 ?_
        refine q_c 2 (by decide +kernel) ?_
        refine va_sld X.1 X.2.1 hX hbl hbA hw27.2.2 (q_in (by decide +kernel)) dL_law_1261 ?_
        refine q_c a2 e2 ?_
        refine lv_aload_n hx hb dL_law_1262 rfl (lv_at hl 3 rfl) ?_
        refine lv_iload_n hx hb dL_law_1263 rfl (lv_at hl 0 rfl) ?_
        refine lv_iconst (v := 3) hx hb dL_law_1264 (by decide) ?_
        refine lv_iadd hx hb dL_law_1265 ?_
        refine q_c 3 (by decide +kernel) ?_
        refine va_sld X.1 X.2.1 hX hbl hbA hw27.2.2 (q_in (by decide +kernel)) dL_law_1266 ?_
        refine q_c a3 e3 ?_
        have g_13128 : (0 : Int32) ≤ a2 := by
          simp only [Int32.lt_iff_toInt_lt, Int32.le_iff_toInt_le, ← Int32.toInt_inj] at c_12913 c_12942 ⊢
          have k_0 : ((-1) : Int32).toInt = -1 := by decide
          have k_1 : (3 : Int32).toInt = 3 := by decide
          have k_g : (0 : Int32).toInt = 0 := by decide
          omega
        have g_13129 : a2 ≤ (3 : Int32) := by
          simp only [Int32.lt_iff_toInt_lt, Int32.le_iff_toInt_le, ← Int32.toInt_inj] at c_12913 c_12942 ⊢
          have k_0 : ((-1) : Int32).toInt = -1 := by decide
          have k_1 : (3 : Int32).toInt = 3 := by decide
          omega
        have g_13130 : (0 : Int32) ≤ a3 := by
          simp only [Int32.lt_iff_toInt_lt, Int32.le_iff_toInt_le, ← Int32.toInt_inj] at c_12965 c_13026 ⊢
          have k_0 : ((-1) : Int32).toInt = -1 := by decide
          have k_1 : (40 : Int32).toInt = 40 := by decide
          have k_g : (0 : Int32).toInt = 0 := by decide
          omega
        have g_13131 : a3 ≤ (40 : Int32) := by
          simp only [Int32.lt_iff_toInt_lt, Int32.le_iff_toInt_le, ← Int32.toInt_inj] at c_12965 c_13026 ⊢
          have k_0 : ((-1) : Int32).toInt = -1 := by decide
          have k_1 : (40 : Int32).toInt = 40 := by decide
          omega
        refine q_callVi (rest := [.int 0]) (wr := []) X hK hA hw27 (fun sz => kX12_numbers_546 l D cy y0 (u_1.1 16) (u_1.1 17) (u_1.1 18) (upd (upd (upd (upd (fun _ => 0) (Int32.toNatClampNeg 0) (-1)) (Int32.toNatClampNeg 1) (-1)) (Int32.toNatClampNeg 2) (-1)) (Int32.toNatClampNeg 3) (-1)) a2 a3 (u_1.1 19) (u_1.1 0) (u_1.1 1) (u_1.1 2) (u_1.1 3) (u_1.1 4) (u_1.1 5) (u_1.1 6) (u_1.1 7) (u_1.1 8) (u_1.1 9) (u_1.1 10) (u_1.1 11) (u_1.1 12) (u_1.1 13) (u_1.1 14) (u_1.1 15) g_13128 g_13129 g_13130 g_13131 sz) wm_8_27 wm_8_30 wm_1_12 hd_X12_numbers wm_8_28 wm_8_29 (ci := 12) (q0 := 0) rfl rfl ⟨Nat.le_of_ble_eq_true rfl, Nat.le_of_ble_eq_true rfl⟩ hl.1 rfl (Nat.le_of_ble_eq_true rfl) dL_law_1267 ⟨Nat.le_of_ble_eq_true rfl, Nat.le_of_ble_eq_true rfl⟩ [0, 1, 2, 3] [] rfl rfl (by decide) rfl rfl (fun r_13132 u_13132 Hp28 lc28 w_13132 hw28 => ?_)
        clear Hp27 lc27 hw27
        obtain rfl : r_13132 = 0 := w_13132
        clear w_13132
        replace hw28 : qW D _ _ [] _ _ := hw28
        refine lv_icmp_eq (tgt := 1461) hx hb dL_law_1270 (by decide) (fun _ => ?_) (fun c => absurd c (by decide +kernel))
        exact law_tail l X hr hlk hX hbl hw28.2.2 hl (Nat.le_of_ble_eq_true rfl) (Nat.le_of_ble_eq_true rfl)
      refine lv_aload_n hx hb dL_law_1232 rfl (lv_at hl 2 rfl) ?_
      refine lv_aload_n hx hb dL_law_1233 rfl (lv_at hl 3 rfl) ?_
      refine lv_iload_n hx hb dL_law_1234 rfl (lv_at hl 0 rfl) ?_
      refine lv_iconst (v := 1) hx hb dL_law_1235 (by decide) ?_
      refine lv_iadd hx hb dL_law_1236 ?_
      refine q_c 1 (by decide +kernel) ?_
      refine va_sld X.1 X.2.1 hX hbl hbA hw28.2.2 (q_in (by decide +kernel)) dL_law_1237 ?_
      refine q_c 2 e1 ?_
      refine lv_aload_n hx hb dL_law_1238 rfl (lv_at hl 3 rfl) ?_
      refine lv_iload_n hx hb dL_law_1239 rfl (lv_at hl 0 rfl) ?_
      refine lv_iconst (v := 2) hx hb dL_law_1240 (by decide) ?_
      refine lv_iadd hx hb dL_law_1241 ?_
      refine q_c 2 (by decide +kernel) ?_
      refine va_sld X.1 X.2.1 hX hbl hbA hw28.2.2 (q_in (by decide +kernel)) dL_law_1242 ?_
      refine q_c a2 e2 ?_
      refine lv_aload_n hx hb dL_law_1243 rfl (lv_at hl 3 rfl) ?_
      refine lv_iload_n hx hb dL_law_1244 rfl (lv_at hl 0 rfl) ?_
      refine lv_iconst (v := 3) hx hb dL_law_1245 (by decide) ?_
      refine lv_iadd hx hb dL_law_1246 ?_
      refine q_c 3 (by decide +kernel) ?_
      refine va_sld X.1 X.2.1 hX hbl hbA hw28.2.2 (q_in (by decide +kernel)) dL_law_1247 ?_
      refine q_c a3 e3 ?_
      have g_13184 : (0 : Int32) ≤ a2 := by
        simp only [Int32.lt_iff_toInt_lt, Int32.le_iff_toInt_le, ← Int32.toInt_inj] at c_12913 c_12942 ⊢
        have k_0 : ((-1) : Int32).toInt = -1 := by decide
        have k_1 : (3 : Int32).toInt = 3 := by decide
        have k_g : (0 : Int32).toInt = 0 := by decide
        omega
      have g_13185 : a2 ≤ (3 : Int32) := by
        simp only [Int32.lt_iff_toInt_lt, Int32.le_iff_toInt_le, ← Int32.toInt_inj] at c_12913 c_12942 ⊢
        have k_0 : ((-1) : Int32).toInt = -1 := by decide
        have k_1 : (3 : Int32).toInt = 3 := by decide
        omega
      have g_13186 : (41 : Int32) ≤ a3 := by
        simp only [Int32.lt_iff_toInt_lt, Int32.le_iff_toInt_le, ← Int32.toInt_inj] at c_12965 c_13026 ⊢
        have k_0 : ((-1) : Int32).toInt = -1 := by decide
        have k_1 : (40 : Int32).toInt = 40 := by decide
        have k_g : (41 : Int32).toInt = 41 := by decide
        omega
      refine q_callVi (rest := []) (wr := [(y0, .inr (12, [.int 0, .ref (u_1.1 19), .ref (u_1.1 0), .ref (u_1.1 1), .ref (u_1.1 2), .int 0, .int 0, .int 0, .int 0, .int 0, .int 0, .int 0, .int 0, .int 0, .int (-1), .int 0, .ref (u_1.1 3), .ref (u_1.1 4), .ref (u_1.1 5), .ref (u_1.1 6), .ref (u_1.1 7), .int 0, .int 0, .ref (u_1.1 8), .ref (u_1.1 9), .ref (u_1.1 10), .int 0, .int 0, .ref (u_1.1 11), .ref (u_1.1 12), .ref (u_1.1 13), .ref (u_1.1 14), .ref (u_1.1 15), .int 0, .ref (u_1.1 16), .ref (u_1.1 17), .ref (u_1.1 18)]))]) X hK hA hw28 (fun sz => kX11_numbers_547 l D cy x0 a2 a3 (u_0.1 0) (u_0.1 1) (u_0.1 37) (u_0.1 39) (u_0.1 41) (u_0.1 43) (u_0.1 14) (u_0.1 15) (u_0.1 16) (u_0.1 17) (u_0.1 20) (u_0.1 24) (u_0.1 29) g_13184 g_13185 g_13186 sz) wm_5_120 wm_5_123 wm_1_1 hd_X11_numbers wm_5_121 wm_5_122 (ci := 11) (q0 := 0) rfl rfl ⟨Nat.le_of_ble_eq_true rfl, Nat.le_of_ble_eq_true rfl⟩ hl.1 rfl (Nat.le_of_ble_eq_true rfl) dL_law_1248 ⟨Nat.le_of_ble_eq_true rfl, Nat.le_of_ble_eq_true rfl⟩ [0] [78] rfl rfl (by decide) rfl rfl (fun r_13187 u_13187 Hp29 lc29 w_13187 hw29 => ?_)
      clear Hp28 lc28 hw28
      obtain rfl : r_13187 = (-3) := w_13187
      clear w_13187
      replace hw29 : qW D _ _ [(y0, .inr (12, [.int 0, .ref (u_1.1 19), .ref (u_1.1 0), .ref (u_1.1 1), .ref (u_1.1 2), .int 0, .int 0, .int 0, .int 0, .int 0, .int 0, .int 0, .int 0, .int 0, .int (-1), .int 0, .ref (u_1.1 3), .ref (u_1.1 4), .ref (u_1.1 5), .ref (u_1.1 6), .ref (u_1.1 7), .int 0, .int 0, .ref (u_1.1 8), .ref (u_1.1 9), .ref (u_1.1 10), .int 0, .int 0, .ref (u_1.1 11), .ref (u_1.1 12), .ref (u_1.1 13), .ref (u_1.1 14), .ref (u_1.1 15), .int 0, .ref (u_1.1 16), .ref (u_1.1 17), .ref (u_1.1 18)]))] _ _ := hw29
      refine lv_aload_n hx hb dL_law_1251 rfl (lv_at hl 1 rfl) ?_
      refine lv_aload_n hx hb dL_law_1252 rfl (lv_at hl 3 rfl) ?_
      refine lv_iload_n hx hb dL_law_1253 rfl (lv_at hl 0 rfl) ?_
      refine lv_iconst (v := 1) hx hb dL_law_1254 (by decide) ?_
      refine lv_iadd hx hb dL_law_1255 ?_
      refine q_c 1 (by decide +kernel) ?_
      refine va_sld X.1 X.2.1 hX hbl hbA hw29.2.2 (q_in (by decide +kernel)) dL_law_1256 ?_
      refine q_c 2 e1 ?_
      refine lv_aload_n hx hb dL_law_1257 rfl (lv_at hl 3 rfl) ?_
      refine lv_iload_n hx hb dL_law_1258 rfl (lv_at hl 0 rfl) ?_
      refine lv_iconst (v := 2) hx hb dL_law_1259 (by decide) ?_
      refine lv_iadd hx hb dL_law_1260 ?_
      refine q_c 2 (by decide +kernel) ?_
      refine va_sld X.1 X.2.1 hX hbl hbA hw29.2.2 (q_in (by decide +kernel)) dL_law_1261 ?_
      refine q_c a2 e2 ?_
      refine lv_aload_n hx hb dL_law_1262 rfl (lv_at hl 3 rfl) ?_
      refine lv_iload_n hx hb dL_law_1263 rfl (lv_at hl 0 rfl) ?_
      refine lv_iconst (v := 3) hx hb dL_law_1264 (by decide) ?_
      refine lv_iadd hx hb dL_law_1265 ?_
      refine q_c 3 (by decide +kernel) ?_
      refine va_sld X.1 X.2.1 hX hbl hbA hw29.2.2 (q_in (by decide +kernel)) dL_law_1266 ?_
      refine q_c a3 e3 ?_
      have g_13198 : (0 : Int32) ≤ a2 := by
        simp only [Int32.lt_iff_toInt_lt, Int32.le_iff_toInt_le, ← Int32.toInt_inj] at c_12913 c_12942 ⊢
        have k_0 : ((-1) : Int32).toInt = -1 := by decide
        have k_1 : (3 : Int32).toInt = 3 := by decide
        have k_g : (0 : Int32).toInt = 0 := by decide
        omega
      have g_13199 : a2 ≤ (3 : Int32) := by
        simp only [Int32.lt_iff_toInt_lt, Int32.le_iff_toInt_le, ← Int32.toInt_inj] at c_12913 c_12942 ⊢
        have k_0 : ((-1) : Int32).toInt = -1 := by decide
        have k_1 : (3 : Int32).toInt = 3 := by decide
        omega
      have g_13200 : (41 : Int32) ≤ a3 := by
        simp only [Int32.lt_iff_toInt_lt, Int32.le_iff_toInt_le, ← Int32.toInt_inj] at c_12965 c_13026 ⊢
        have k_0 : ((-1) : Int32).toInt = -1 := by decide
        have k_1 : (40 : Int32).toInt = 40 := by decide
        have k_g : (41 : Int32).toInt = 41 := by decide
        omega
      refine q_callVi (rest := [.int (-3)]) (wr := []) X hK hA hw29 (fun sz => kX12_numbers_548 l D cy y0 a2 a3 (u_1.1 19) (u_1.1 0) (u_1.1 1) (u_1.1 2) (u_1.1 3) (u_1.1 4) (u_1.1 5) (u_1.1 6) (u_1.1 7) (u_1.1 8) (u_1.1 9) (u_1.1 10) (u_1.1 11) (u_1.1 12) (u_1.1 13) (u_1.1 14) (u_1.1 15) (u_1.1 16) (u_1.1 17) (u_1.1 18) g_13198 g_13199 g_13200 sz) wm_8_27 wm_8_30 wm_1_12 hd_X12_numbers wm_8_28 wm_8_29 (ci := 12) (q0 := 0) rfl rfl ⟨Nat.le_of_ble_eq_true rfl, Nat.le_of_ble_eq_true rfl⟩ hl.1 rfl (Nat.le_of_ble_eq_true rfl) dL_law_1267 ⟨Nat.le_of_ble_eq_true rfl, Nat.le_of_ble_eq_true rfl⟩ [0] [] rfl rfl (by decide) rfl rfl (fun r_13201 u_13201 Hp30 lc30 w_13201 hw30 => ?_)
      clear Hp29 lc29 hw29
      obtain rfl : r_13201 = (-3) := w_13201
      clear w_13201
      replace hw30 : qW D _ _ [] _ _ := hw30
      refine lv_icmp_eq (tgt := 1461) hx hb dL_law_1270 (by decide) (fun _ => ?_) (fun c => absurd c (by decide +kernel))
      exact law_tail l X hr hlk hX hbl hw30.2.2 hl (Nat.le_of_ble_eq_true rfl) (Nat.le_of_ble_eq_true rfl)
    refine lv_aload_n hx hb dL_law_1232 rfl (lv_at hl 2 rfl) ?_
    refine lv_aload_n hx hb dL_law_1233 rfl (lv_at hl 3 rfl) ?_
    refine lv_iload_n hx hb dL_law_1234 rfl (lv_at hl 0 rfl) ?_
    refine lv_iconst (v := 1) hx hb dL_law_1235 (by decide) ?_
    refine lv_iadd hx hb dL_law_1236 ?_
    refine q_c 1 (by decide +kernel) ?_
    refine va_sld X.1 X.2.1 hX hbl hbA hw30.2.2 (q_in (by decide +kernel)) dL_law_1237 ?_
    refine q_c 2 e1 ?_
    refine lv_aload_n hx hb dL_law_1238 rfl (lv_at hl 3 rfl) ?_
    refine lv_iload_n hx hb dL_law_1239 rfl (lv_at hl 0 rfl) ?_
    refine lv_iconst (v := 2) hx hb dL_law_1240 (by decide) ?_
    refine lv_iadd hx hb dL_law_1241 ?_
    refine q_c 2 (by decide +kernel) ?_
    refine va_sld X.1 X.2.1 hX hbl hbA hw30.2.2 (q_in (by decide +kernel)) dL_law_1242 ?_
    refine q_c a2 e2 ?_
    refine lv_aload_n hx hb dL_law_1243 rfl (lv_at hl 3 rfl) ?_
    refine lv_iload_n hx hb dL_law_1244 rfl (lv_at hl 0 rfl) ?_
    refine lv_iconst (v := 3) hx hb dL_law_1245 (by decide) ?_
    refine lv_iadd hx hb dL_law_1246 ?_
    refine q_c 3 (by decide +kernel) ?_
    refine va_sld X.1 X.2.1 hX hbl hbA hw30.2.2 (q_in (by decide +kernel)) dL_law_1247 ?_
    refine q_c a3 e3 ?_
    have g_13230 : (4 : Int32) ≤ a2 := by
      simp only [Int32.lt_iff_toInt_lt, Int32.le_iff_toInt_le, ← Int32.toInt_inj] at c_12913 c_12942 ⊢
      have k_0 : ((-1) : Int32).toInt = -1 := by decide
      have k_1 : (3 : Int32).toInt = 3 := by decide
      have k_g : (4 : Int32).toInt = 4 := by decide
      omega
    refine q_callVi (rest := []) (wr := [(y0, .inr (12, [.int 0, .ref (u_1.1 19), .ref (u_1.1 0), .ref (u_1.1 1), .ref (u_1.1 2), .int 0, .int 0, .int 0, .int 0, .int 0, .int 0, .int 0, .int 0, .int 0, .int (-1), .int 0, .ref (u_1.1 3), .ref (u_1.1 4), .ref (u_1.1 5), .ref (u_1.1 6), .ref (u_1.1 7), .int 0, .int 0, .ref (u_1.1 8), .ref (u_1.1 9), .ref (u_1.1 10), .int 0, .int 0, .ref (u_1.1 11), .ref (u_1.1 12), .ref (u_1.1 13), .ref (u_1.1 14), .ref (u_1.1 15), .int 0, .ref (u_1.1 16), .ref (u_1.1 17), .ref (u_1.1 18)]))]) X hK hA hw30 (fun sz => kX11_numbers_549 l D cy x0 a2 a3 (u_0.1 0) (u_0.1 1) (u_0.1 37) (u_0.1 39) (u_0.1 41) (u_0.1 43) (u_0.1 14) (u_0.1 15) (u_0.1 16) (u_0.1 17) (u_0.1 20) (u_0.1 24) (u_0.1 29) g_13230 sz) wm_5_120 wm_5_123 wm_1_1 hd_X11_numbers wm_5_121 wm_5_122 (ci := 11) (q0 := 0) rfl rfl ⟨Nat.le_of_ble_eq_true rfl, Nat.le_of_ble_eq_true rfl⟩ hl.1 rfl (Nat.le_of_ble_eq_true rfl) dL_law_1248 ⟨Nat.le_of_ble_eq_true rfl, Nat.le_of_ble_eq_true rfl⟩ [0] [78] rfl rfl (by decide) rfl rfl (fun r_13231 u_13231 Hp31 lc31 w_13231 hw31 => ?_)
    clear Hp30 lc30 hw30
    obtain rfl : r_13231 = (-2) := w_13231
    clear w_13231
    replace hw31 : qW D _ _ [(y0, .inr (12, [.int 0, .ref (u_1.1 19), .ref (u_1.1 0), .ref (u_1.1 1), .ref (u_1.1 2), .int 0, .int 0, .int 0, .int 0, .int 0, .int 0, .int 0, .int 0, .int 0, .int (-1), .int 0, .ref (u_1.1 3), .ref (u_1.1 4), .ref (u_1.1 5), .ref (u_1.1 6), .ref (u_1.1 7), .int 0, .int 0, .ref (u_1.1 8), .ref (u_1.1 9), .ref (u_1.1 10), .int 0, .int 0, .ref (u_1.1 11), .ref (u_1.1 12), .ref (u_1.1 13), .ref (u_1.1 14), .ref (u_1.1 15), .int 0, .ref (u_1.1 16), .ref (u_1.1 17), .ref (u_1.1 18)]))] _ _ := hw31
    refine lv_aload_n hx hb dL_law_1251 rfl (lv_at hl 1 rfl) ?_
    refine lv_aload_n hx hb dL_law_1252 rfl (lv_at hl 3 rfl) ?_
    refine lv_iload_n hx hb dL_law_1253 rfl (lv_at hl 0 rfl) ?_
    refine lv_iconst (v := 1) hx hb dL_law_1254 (by decide) ?_
    refine lv_iadd hx hb dL_law_1255 ?_
    refine q_c 1 (by decide +kernel) ?_
    refine va_sld X.1 X.2.1 hX hbl hbA hw31.2.2 (q_in (by decide +kernel)) dL_law_1256 ?_
    refine q_c 2 e1 ?_
    refine lv_aload_n hx hb dL_law_1257 rfl (lv_at hl 3 rfl) ?_
    refine lv_iload_n hx hb dL_law_1258 rfl (lv_at hl 0 rfl) ?_
    refine lv_iconst (v := 2) hx hb dL_law_1259 (by decide) ?_
    refine lv_iadd hx hb dL_law_1260 ?_
    refine q_c 2 (by decide +kernel) ?_
    refine va_sld X.1 X.2.1 hX hbl hbA hw31.2.2 (q_in (by decide +kernel)) dL_law_1261 ?_
    refine q_c a2 e2 ?_
    refine lv_aload_n hx hb dL_law_1262 rfl (lv_at hl 3 rfl) ?_
    refine lv_iload_n hx hb dL_law_1263 rfl (lv_at hl 0 rfl) ?_
    refine lv_iconst (v := 3) hx hb dL_law_1264 (by decide) ?_
    refine lv_iadd hx hb dL_law_1265 ?_
    refine q_c 3 (by decide +kernel) ?_
    refine va_sld X.1 X.2.1 hX hbl hbA hw31.2.2 (q_in (by decide +kernel)) dL_law_1266 ?_
    refine q_c a3 e3 ?_
    have g_13237 : (4 : Int32) ≤ a2 := by
      simp only [Int32.lt_iff_toInt_lt, Int32.le_iff_toInt_le, ← Int32.toInt_inj] at c_12913 c_12942 ⊢
      have k_0 : ((-1) : Int32).toInt = -1 := by decide
      have k_1 : (3 : Int32).toInt = 3 := by decide
      have k_g : (4 : Int32).toInt = 4 := by decide
      omega
    refine q_callVi (rest := [.int (-2)]) (wr := []) X hK hA hw31 (fun sz => kX12_numbers_550 l D cy y0 a2 a3 (u_1.1 19) (u_1.1 0) (u_1.1 1) (u_1.1 2) (u_1.1 3) (u_1.1 4) (u_1.1 5) (u_1.1 6) (u_1.1 7) (u_1.1 8) (u_1.1 9) (u_1.1 10) (u_1.1 11) (u_1.1 12) (u_1.1 13) (u_1.1 14) (u_1.1 15) (u_1.1 16) (u_1.1 17) (u_1.1 18) g_13237 sz) wm_8_27 wm_8_30 wm_1_12 hd_X12_numbers wm_8_28 wm_8_29 (ci := 12) (q0 := 0) rfl rfl ⟨Nat.le_of_ble_eq_true rfl, Nat.le_of_ble_eq_true rfl⟩ hl.1 rfl (Nat.le_of_ble_eq_true rfl) dL_law_1267 ⟨Nat.le_of_ble_eq_true rfl, Nat.le_of_ble_eq_true rfl⟩ [0] [] rfl rfl (by decide) rfl rfl (fun r_13238 u_13238 Hp32 lc32 w_13238 hw32 => ?_)
    clear Hp31 lc31 hw31
    obtain rfl : r_13238 = (-2) := w_13238
    clear w_13238
    replace hw32 : qW D _ _ [] _ _ := hw32
    refine lv_icmp_eq (tgt := 1461) hx hb dL_law_1270 (by decide) (fun _ => ?_) (fun c => absurd c (by decide +kernel))
    exact law_tail l X hr hlk hX hbl hw32.2.2 hl (Nat.le_of_ble_eq_true rfl) (Nat.le_of_ble_eq_true rfl)
  by_cases c_13239 : a1 = 3
  · subst c_13239
    by_cases c_13262 : a2 ≤ (-1)
    · skip
      refine lv_aload_n hx hb dL_law_1232 rfl (lv_at hl 2 rfl) ?_
      refine lv_aload_n hx hb dL_law_1233 rfl (lv_at hl 3 rfl) ?_
      refine lv_iload_n hx hb dL_law_1234 rfl (lv_at hl 0 rfl) ?_
      refine lv_iconst (v := 1) hx hb dL_law_1235 (by decide) ?_
      refine lv_iadd hx hb dL_law_1236 ?_
      refine q_c 1 (by decide +kernel) ?_
      refine va_sld X.1 X.2.1 hX hbl hbA hw32.2.2 (q_in (by decide +kernel)) dL_law_1237 ?_
      refine q_c 3 e1 ?_
      refine lv_aload_n hx hb dL_law_1238 rfl (lv_at hl 3 rfl) ?_
      refine lv_iload_n hx hb dL_law_1239 rfl (lv_at hl 0 rfl) ?_
      refine lv_iconst (v := 2) hx hb dL_law_1240 (by decide) ?_
      refine lv_iadd hx hb dL_law_1241 ?_
      refine q_c 2 (by decide +kernel) ?_
      refine va_sld X.1 X.2.1 hX hbl hbA hw32.2.2 (q_in (by decide +kernel)) dL_law_1242 ?_
      refine q_c a2 e2 ?_
      refine lv_aload_n hx hb dL_law_1243 rfl (lv_at hl 3 rfl) ?_
      refine lv_iload_n hx hb dL_law_1244 rfl (lv_at hl 0 rfl) ?_
      refine lv_iconst (v := 3) hx hb dL_law_1245 (by decide) ?_
      refine lv_iadd hx hb dL_law_1246 ?_
      refine q_c 3 (by decide +kernel) ?_
      refine va_sld X.1 X.2.1 hX hbl hbA hw32.2.2 (q_in (by decide +kernel)) dL_law_1247 ?_
      refine q_c a3 e3 ?_
      have g_13283 : a2 ≤ ((-1) : Int32) := by
        simp only [Int32.lt_iff_toInt_lt, Int32.le_iff_toInt_le, ← Int32.toInt_inj] at c_13262 ⊢
        have k_0 : ((-1) : Int32).toInt = -1 := by decide
        omega
      refine q_callVi (rest := []) (wr := [(y0, .inr (12, [.int 0, .ref (u_1.1 19), .ref (u_1.1 0), .ref (u_1.1 1), .ref (u_1.1 2), .int 0, .int 0, .int 0, .int 0, .int 0, .int 0, .int 0, .int 0, .int 0, .int (-1), .int 0, .ref (u_1.1 3), .ref (u_1.1 4), .ref (u_1.1 5), .ref (u_1.1 6), .ref (u_1.1 7), .int 0, .int 0, .ref (u_1.1 8), .ref (u_1.1 9), .ref (u_1.1 10), .int 0, .int 0, .ref (u_1.1 11), .ref (u_1.1 12), .ref (u_1.1 13), .ref (u_1.1 14), .ref (u_1.1 15), .int 0, .ref (u_1.1 16), .ref (u_1.1 17), .ref (u_1.1 18)]))]) X hK hA hw32 (fun sz => kX11_numbers_551 l D cy x0 a2 a3 (u_0.1 0) (u_0.1 1) (u_0.1 37) (u_0.1 39) (u_0.1 41) (u_0.1 43) (u_0.1 14) (u_0.1 15) (u_0.1 16) (u_0.1 17) (u_0.1 20) (u_0.1 24) (u_0.1 29) g_13283 sz) wm_5_120 wm_5_123 wm_1_1 hd_X11_numbers wm_5_121 wm_5_122 (ci := 11) (q0 := 0) rfl rfl ⟨Nat.le_of_ble_eq_true rfl, Nat.le_of_ble_eq_true rfl⟩ hl.1 rfl (Nat.le_of_ble_eq_true rfl) dL_law_1248 ⟨Nat.le_of_ble_eq_true rfl, Nat.le_of_ble_eq_true rfl⟩ [0] [78] rfl rfl (by decide) rfl rfl (fun r_13284 u_13284 Hp33 lc33 w_13284 hw33 => ?_)
      clear Hp32 lc32 hw32
      obtain rfl : r_13284 = (-2) := w_13284
      clear w_13284
      replace hw33 : qW D _ _ [(y0, .inr (12, [.int 0, .ref (u_1.1 19), .ref (u_1.1 0), .ref (u_1.1 1), .ref (u_1.1 2), .int 0, .int 0, .int 0, .int 0, .int 0, .int 0, .int 0, .int 0, .int 0, .int (-1), .int 0, .ref (u_1.1 3), .ref (u_1.1 4), .ref (u_1.1 5), .ref (u_1.1 6), .ref (u_1.1 7), .int 0, .int 0, .ref (u_1.1 8), .ref (u_1.1 9), .ref (u_1.1 10), .int 0, .int 0, .ref (u_1.1 11), .ref (u_1.1 12), .ref (u_1.1 13), .ref (u_1.1 14), .ref (u_1.1 15), .int 0, .ref (u_1.1 16), .ref (u_1.1 17), .ref (u_1.1 18)]))] _ _ := hw33
      refine lv_aload_n hx hb dL_law_1251 rfl (lv_at hl 1 rfl) ?_
      refine lv_aload_n hx hb dL_law_1252 rfl (lv_at hl 3 rfl) ?_
      refine lv_iload_n hx hb dL_law_1253 rfl (lv_at hl 0 rfl) ?_
      refine lv_iconst (v := 1) hx hb dL_law_1254 (by decide) ?_
      refine lv_iadd hx hb dL_law_1255 ?_
      refine q_c 1 (by decide +kernel) ?_
      refine va_sld X.1 X.2.1 hX hbl hbA hw33.2.2 (q_in (by decide +kernel)) dL_law_1256 ?_
      refine q_c 3 e1 ?_
      refine lv_aload_n hx hb dL_law_1257 rfl (lv_at hl 3 rfl) ?_
      refine lv_iload_n hx hb dL_law_1258 rfl (lv_at hl 0 rfl) ?_
      refine lv_iconst (v := 2) hx hb dL_law_1259 (by decide) ?_
      refine lv_iadd hx hb dL_law_1260 ?_
      refine q_c 2 (by decide +kernel) ?_
      refine va_sld X.1 X.2.1 hX hbl hbA hw33.2.2 (q_in (by decide +kernel)) dL_law_1261 ?_
      refine q_c a2 e2 ?_
      refine lv_aload_n hx hb dL_law_1262 rfl (lv_at hl 3 rfl) ?_
      refine lv_iload_n hx hb dL_law_1263 rfl (lv_at hl 0 rfl) ?_
      refine lv_iconst (v := 3) hx hb dL_law_1264 (by decide) ?_
      refine lv_iadd hx hb dL_law_1265 ?_
      refine q_c 3 (by decide +kernel) ?_
      refine va_sld X.1 X.2.1 hX hbl hbA hw33.2.2 (q_in (by decide +kernel)) dL_law_1266 ?_
      refine q_c a3 e3 ?_
      have g_13289 : a2 ≤ ((-1) : Int32) := by
        simp only [Int32.lt_iff_toInt_lt, Int32.le_iff_toInt_le, ← Int32.toInt_inj] at c_13262 ⊢
        have k_0 : ((-1) : Int32).toInt = -1 := by decide
        omega
      refine q_callVi (rest := [.int (-2)]) (wr := []) X hK hA hw33 (fun sz => kX12_numbers_552 l D cy y0 a2 a3 (u_1.1 19) (u_1.1 0) (u_1.1 1) (u_1.1 2) (u_1.1 3) (u_1.1 4) (u_1.1 5) (u_1.1 6) (u_1.1 7) (u_1.1 8) (u_1.1 9) (u_1.1 10) (u_1.1 11) (u_1.1 12) (u_1.1 13) (u_1.1 14) (u_1.1 15) (u_1.1 16) (u_1.1 17) (u_1.1 18) g_13289 sz) wm_8_27 wm_8_30 wm_1_12 hd_X12_numbers wm_8_28 wm_8_29 (ci := 12) (q0 := 0) rfl rfl ⟨Nat.le_of_ble_eq_true rfl, Nat.le_of_ble_eq_true rfl⟩ hl.1 rfl (Nat.le_of_ble_eq_true rfl) dL_law_1267 ⟨Nat.le_of_ble_eq_true rfl, Nat.le_of_ble_eq_true rfl⟩ [0] [] rfl rfl (by decide) rfl rfl (fun r_13290 u_13290 Hp34 lc34 w_13290 hw34 => ?_)
      clear Hp33 lc33 hw33
      obtain rfl : r_13290 = (-2) := w_13290
      clear w_13290
      replace hw34 : qW D _ _ [] _ _ := hw34
      refine lv_icmp_eq (tgt := 1461) hx hb dL_law_1270 (by decide) (fun _ => ?_) (fun c => absurd c (by decide +kernel))
      exact law_tail l X hr hlk hX hbl hw34.2.2 hl (Nat.le_of_ble_eq_true rfl) (Nat.le_of_ble_eq_true rfl)
    by_cases c_13291 : a2 ≤ 3
    · skip
      by_cases c_13314 : a3 ≤ (-1)
      · skip
        refine lv_aload_n hx hb dL_law_1232 rfl (lv_at hl 2 rfl) ?_
        refine lv_aload_n hx hb dL_law_1233 rfl (lv_at hl 3 rfl) ?_
        refine lv_iload_n hx hb dL_law_1234 rfl (lv_at hl 0 rfl) ?_
        refine lv_iconst (v := 1) hx hb dL_law_1235 (by decide) ?_
        refine lv_iadd hx hb dL_law_1236 ?_
        refine q_c 1 (by decide +kernel) ?_
        refine va_sld X.1 X.2.1 hX hbl hbA hw34.2.2 (q_in (by decide +kernel)) dL_law_1237 ?_
        refine q_c 3 e1 ?_
        refine lv_aload_n hx hb dL_law_1238 rfl (lv_at hl 3 rfl) ?_
        refine lv_iload_n hx hb dL_law_1239 rfl (lv_at hl 0 rfl) ?_
        refine lv_iconst (v := 2) hx hb dL_law_1240 (by decide) ?_
        refine lv_iadd hx hb dL_law_1241 ?_
        refine q_c 2 (by decide +kernel) ?_
        refine va_sld X.1 X.2.1 hX hbl hbA hw34.2.2 (q_in (by decide +kernel)) dL_law_1242 ?_
        refine q_c a2 e2 ?_
        refine lv_aload_n hx hb dL_law_1243 rfl (lv_at hl 3 rfl) ?_
        refine lv_iload_n hx hb dL_law_1244 rfl (lv_at hl 0 rfl) ?_
        refine lv_iconst (v := 3) hx hb dL_law_1245 (by decide) ?_
        refine lv_iadd hx hb dL_law_1246 ?_
        refine q_c 3 (by decide +kernel) ?_
        refine va_sld X.1 X.2.1 hX hbl hbA hw34.2.2 (q_in (by decide +kernel)) dL_law_1247 ?_
        refine q_c a3 e3 ?_
        have g_13358 : (0 : Int32) ≤ a2 := by
          simp only [Int32.lt_iff_toInt_lt, Int32.le_iff_toInt_le, ← Int32.toInt_inj] at c_13262 c_13291 ⊢
          have k_0 : ((-1) : Int32).toInt = -1 := by decide
          have k_1 : (3 : Int32).toInt = 3 := by decide
          have k_g : (0 : Int32).toInt = 0 := by decide
          omega
        have g_13359 : a2 ≤ (3 : Int32) := by
          simp only [Int32.lt_iff_toInt_lt, Int32.le_iff_toInt_le, ← Int32.toInt_inj] at c_13262 c_13291 ⊢
          have k_0 : ((-1) : Int32).toInt = -1 := by decide
          have k_1 : (3 : Int32).toInt = 3 := by decide
          omega
        have g_13360 : a3 ≤ ((-1) : Int32) := by
          simp only [Int32.lt_iff_toInt_lt, Int32.le_iff_toInt_le, ← Int32.toInt_inj] at c_13314 ⊢
          have k_0 : ((-1) : Int32).toInt = -1 := by decide
          omega
        refine q_callVi (rest := []) (wr := [(y0, .inr (12, [.int 0, .ref (u_1.1 19), .ref (u_1.1 0), .ref (u_1.1 1), .ref (u_1.1 2), .int 0, .int 0, .int 0, .int 0, .int 0, .int 0, .int 0, .int 0, .int 0, .int (-1), .int 0, .ref (u_1.1 3), .ref (u_1.1 4), .ref (u_1.1 5), .ref (u_1.1 6), .ref (u_1.1 7), .int 0, .int 0, .ref (u_1.1 8), .ref (u_1.1 9), .ref (u_1.1 10), .int 0, .int 0, .ref (u_1.1 11), .ref (u_1.1 12), .ref (u_1.1 13), .ref (u_1.1 14), .ref (u_1.1 15), .int 0, .ref (u_1.1 16), .ref (u_1.1 17), .ref (u_1.1 18)]))]) X hK hA hw34 (fun sz => kX11_numbers_553 l D cy x0 a2 a3 (u_0.1 0) (u_0.1 1) (u_0.1 37) (u_0.1 39) (u_0.1 41) (u_0.1 43) (u_0.1 14) (u_0.1 15) (u_0.1 16) (u_0.1 17) (u_0.1 20) (u_0.1 24) (u_0.1 29) g_13358 g_13359 g_13360 sz) wm_5_120 wm_5_123 wm_1_1 hd_X11_numbers wm_5_121 wm_5_122 (ci := 11) (q0 := 0) rfl rfl ⟨Nat.le_of_ble_eq_true rfl, Nat.le_of_ble_eq_true rfl⟩ hl.1 rfl (Nat.le_of_ble_eq_true rfl) dL_law_1248 ⟨Nat.le_of_ble_eq_true rfl, Nat.le_of_ble_eq_true rfl⟩ [0] [78] rfl rfl (by decide) rfl rfl (fun r_13361 u_13361 Hp35 lc35 w_13361 hw35 => ?_)
        clear Hp34 lc34 hw34
        obtain rfl : r_13361 = (-3) := w_13361
        clear w_13361
        replace hw35 : qW D _ _ [(y0, .inr (12, [.int 0, .ref (u_1.1 19), .ref (u_1.1 0), .ref (u_1.1 1), .ref (u_1.1 2), .int 0, .int 0, .int 0, .int 0, .int 0, .int 0, .int 0, .int 0, .int 0, .int (-1), .int 0, .ref (u_1.1 3), .ref (u_1.1 4), .ref (u_1.1 5), .ref (u_1.1 6), .ref (u_1.1 7), .int 0, .int 0, .ref (u_1.1 8), .ref (u_1.1 9), .ref (u_1.1 10), .int 0, .int 0, .ref (u_1.1 11), .ref (u_1.1 12), .ref (u_1.1 13), .ref (u_1.1 14), .ref (u_1.1 15), .int 0, .ref (u_1.1 16), .ref (u_1.1 17), .ref (u_1.1 18)]))] _ _ := hw35
        refine lv_aload_n hx hb dL_law_1251 rfl (lv_at hl 1 rfl) ?_
        refine lv_aload_n hx hb dL_law_1252 rfl (lv_at hl 3 rfl) ?_
        refine lv_iload_n hx hb dL_law_1253 rfl (lv_at hl 0 rfl) ?_
        refine lv_iconst (v := 1) hx hb dL_law_1254 (by decide) ?_
        refine lv_iadd hx hb dL_law_1255 ?_
        refine q_c 1 (by decide +kernel) ?_
        refine va_sld X.1 X.2.1 hX hbl hbA hw35.2.2 (q_in (by decide +kernel)) dL_law_1256 ?_
        refine q_c 3 e1 ?_
        refine lv_aload_n hx hb dL_law_1257 rfl (lv_at hl 3 rfl) ?_
        refine lv_iload_n hx hb dL_law_1258 rfl (lv_at hl 0 rfl) ?_
        refine lv_iconst (v := 2) hx hb dL_law_1259 (by decide) ?_
        refine lv_iadd hx hb dL_law_1260 ?_
        refine q_c 2 (by decide +kernel) ?_
        refine va_sld X.1 X.2.1 hX hbl hbA hw35.2.2 (q_in (by decide +kernel)) dL_law_1261 ?_
        refine q_c a2 e2 ?_
        refine lv_aload_n hx hb dL_law_1262 rfl (lv_at hl 3 rfl) ?_
        refine lv_iload_n hx hb dL_law_1263 rfl (lv_at hl 0 rfl) ?_
        refine lv_iconst (v := 3) hx hb dL_law_1264 (by decide) ?_
        refine lv_iadd hx hb dL_law_1265 ?_
        refine q_c 3 (by decide +kernel) ?_
        refine va_sld X.1 X.2.1 hX hbl hbA hw35.2.2 (q_in (by decide +kernel)) dL_law_1266 ?_
        refine q_c a3 e3 ?_
        have g_13371 : (0 : Int32) ≤ a2 := by
          simp only [Int32.lt_iff_toInt_lt, Int32.le_iff_toInt_le, ← Int32.toInt_inj] at c_13262 c_13291 ⊢
          have k_0 : ((-1) : Int32).toInt = -1 := by decide
          have k_1 : (3 : Int32).toInt = 3 := by decide
          have k_g : (0 : Int32).toInt = 0 := by decide
          omega
        have g_13372 : a2 ≤ (3 : Int32) := by
          simp only [Int32.lt_iff_toInt_lt, Int32.le_iff_toInt_le, ← Int32.toInt_inj] at c_13262 c_13291 ⊢
          have k_0 : ((-1) : Int32).toInt = -1 := by decide
          have k_1 : (3 : Int32).toInt = 3 := by decide
          omega
        have g_13373 : a3 ≤ ((-1) : Int32) := by
          simp only [Int32.lt_iff_toInt_lt, Int32.le_iff_toInt_le, ← Int32.toInt_inj] at c_13314 ⊢
          have k_0 : ((-1) : Int32).toInt = -1 := by decide
          omega
        refine q_callVi (rest := [.int (-3)]) (wr := []) X hK hA hw35 (fun sz => kX12_numbers_554 l D cy y0 a2 a3 (u_1.1 19) (u_1.1 0) (u_1.1 1) (u_1.1 2) (u_1.1 3) (u_1.1 4) (u_1.1 5) (u_1.1 6) (u_1.1 7) (u_1.1 8) (u_1.1 9) (u_1.1 10) (u_1.1 11) (u_1.1 12) (u_1.1 13) (u_1.1 14) (u_1.1 15) (u_1.1 16) (u_1.1 17) (u_1.1 18) g_13371 g_13372 g_13373 sz) wm_8_27 wm_8_30 wm_1_12 hd_X12_numbers wm_8_28 wm_8_29 (ci := 12) (q0 := 0) rfl rfl ⟨Nat.le_of_ble_eq_true rfl, Nat.le_of_ble_eq_true rfl⟩ hl.1 rfl (Nat.le_of_ble_eq_true rfl) dL_law_1267 ⟨Nat.le_of_ble_eq_true rfl, Nat.le_of_ble_eq_true rfl⟩ [0] [] rfl rfl (by decide) rfl rfl (fun r_13374 u_13374 Hp36 lc36 w_13374 hw36 => ?_)
        clear Hp35 lc35 hw35
        obtain rfl : r_13374 = (-3) := w_13374
        clear w_13374
        replace hw36 : qW D _ _ [] _ _ := hw36
        refine lv_icmp_eq (tgt := 1461) hx hb dL_law_1270 (by decide) (fun _ => ?_) (fun c => absurd c (by decide +kernel))
        exact law_tail l X hr hlk hX hbl hw36.2.2 hl (Nat.le_of_ble_eq_true rfl) (Nat.le_of_ble_eq_true rfl)
      by_cases c_13375 : a3 ≤ 40
      · skip
        refine lv_aload_n hx hb dL_law_1232 rfl (lv_at hl 2 rfl) ?_
        refine lv_aload_n hx hb dL_law_1233 rfl (lv_at hl 3 rfl) ?_
        refine lv_iload_n hx hb dL_law_1234 rfl (lv_at hl 0 rfl) ?_
        refine lv_iconst (v := 1) hx hb dL_law_1235 (by decide) ?_
        refine lv_iadd hx hb dL_law_1236 ?_
        refine q_c 1 (by decide +kernel) ?_
        refine va_sld X.1 X.2.1 hX hbl hbA hw36.2.2 (q_in (by decide +kernel)) dL_law_1237 ?_
        refine q_c 3 e1 ?_
        refine lv_aload_n hx hb dL_law_1238 rfl (lv_at hl 3 rfl) ?_
        refine lv_iload_n hx hb dL_law_1239 rfl (lv_at hl 0 rfl) ?_
        refine lv_iconst (v := 2) hx hb dL_law_1240 (by decide) ?_
        refine lv_iadd hx hb dL_law_1241 ?_
        refine q_c 2 (by decide +kernel) ?_
        refine va_sld X.1 X.2.1 hX hbl hbA hw36.2.2 (q_in (by decide +kernel)) dL_law_1242 ?_
        refine q_c a2 e2 ?_
        refine lv_aload_n hx hb dL_law_1243 rfl (lv_at hl 3 rfl) ?_
        refine lv_iload_n hx hb dL_law_1244 rfl (lv_at hl 0 rfl) ?_
        refine lv_iconst (v := 3) hx hb dL_law_1245 (by decide) ?_
        refine lv_iadd hx hb dL_law_1246 ?_
        refine q_c 3 (by decide +kernel) ?_
        refine va_sld X.1 X.2.1 hX hbl hbA hw36.2.2 (q_in (by decide +kernel)) dL_law_1247 ?_
        refine q_c a3 e3 ?_
        have g_13459 : (0 : Int32) ≤ a2 := by
          simp only [Int32.lt_iff_toInt_lt, Int32.le_iff_toInt_le, ← Int32.toInt_inj] at c_13262 c_13291 ⊢
          have k_0 : ((-1) : Int32).toInt = -1 := by decide
          have k_1 : (3 : Int32).toInt = 3 := by decide
          have k_g : (0 : Int32).toInt = 0 := by decide
          omega
        have g_13460 : a2 ≤ (3 : Int32) := by
          simp only [Int32.lt_iff_toInt_lt, Int32.le_iff_toInt_le, ← Int32.toInt_inj] at c_13262 c_13291 ⊢
          have k_0 : ((-1) : Int32).toInt = -1 := by decide
          have k_1 : (3 : Int32).toInt = 3 := by decide
          omega
        have g_13461 : (0 : Int32) ≤ a3 := by
          simp only [Int32.lt_iff_toInt_lt, Int32.le_iff_toInt_le, ← Int32.toInt_inj] at c_13314 c_13375 ⊢
          have k_0 : ((-1) : Int32).toInt = -1 := by decide
          have k_1 : (40 : Int32).toInt = 40 := by decide
          have k_g : (0 : Int32).toInt = 0 := by decide
          omega
        have g_13462 : a3 ≤ (40 : Int32) := by
          simp only [Int32.lt_iff_toInt_lt, Int32.le_iff_toInt_le, ← Int32.toInt_inj] at c_13314 c_13375 ⊢
          have k_0 : ((-1) : Int32).toInt = -1 := by decide
          have k_1 : (40 : Int32).toInt = 40 := by decide
          omega
        refine q_callVi (rest := []) (wr := [(y0, .inr (12, [.int 0, .ref (u_1.1 19), .ref (u_1.1 0), .ref (u_1.1 1), .ref (u_1.1 2), .int 0, .int 0, .int 0, .int 0, .int 0, .int 0, .int 0, .int 0, .int 0, .int (-1), .int 0, .ref (u_1.1 3), .ref (u_1.1 4), .ref (u_1.1 5), .ref (u_1.1 6), .ref (u_1.1 7), .int 0, .int 0, .ref (u_1.1 8), .ref (u_1.1 9), .ref (u_1.1 10), .int 0, .int 0, .ref (u_1.1 11), .ref (u_1.1 12), .ref (u_1.1 13), .ref (u_1.1 14), .ref (u_1.1 15), .int 0, .ref (u_1.1 16), .ref (u_1.1 17), .ref (u_1.1 18)])), ((u_1.1 16), .inl (cy 1, 4, .inl (upd (upd (upd (upd (fun _ => 0) (Int32.toNatClampNeg 0) (-1)) (Int32.toNatClampNeg 1) (-1)) (Int32.toNatClampNeg 2) (-1)) (Int32.toNatClampNeg 3) (-1)))), ((u_1.1 17), .inl (cy 1, 4, .inl (fun _ => 0))), ((u_1.1 18), .inl (cy 2, 160, .inr (.inl (fun _ => 0))))]) X hK hA hw36 (fun sz => kX11_numbers_555 l D cy x0 (u_0.1 14) (u_0.1 71) (u_0.1 72) a2 a3 (u_0.1 0) (u_0.1 1) (u_0.1 37) (u_0.1 39) (u_0.1 41) (u_0.1 43) (u_0.1 15) (u_0.1 16) (u_0.1 17) (u_0.1 20) (u_0.1 24) (u_0.1 29) (u_0.1 69) (u_0.1 67) (u_0.1 65) g_13459 g_13460 g_13461 g_13462 sz) wm_5_120 wm_5_123 wm_1_1 hd_X11_numbers wm_5_121 wm_5_122 (ci := 11) (q0 := 0) rfl rfl ⟨Nat.le_of_ble_eq_true rfl, Nat.le_of_ble_eq_true rfl⟩ hl.1 rfl (Nat.le_of_ble_eq_true rfl) dL_law_1248 ⟨Nat.le_of_ble_eq_true rfl, Nat.le_of_ble_eq_true rfl⟩ [0, 15, 72, 73] [78, 95, 96, 97] rfl rfl (by decide) rfl rfl (fun r_13463 u_13463 Hp37 lc37 w_13463 hw37 => ?_)
        clear Hp36 lc36 hw36
        obtain rfl : r_13463 = 0 := w_13463
        clear w_13463
        replace hw37 : qW D _ _ [(y0, .inr (12, [.int 0, .ref (u_1.1 19), .ref (u_1.1 0), .ref (u_1.1 1), .ref (u_1.1 2), .int 0, .int 0, .int 0, .int 0, .int 0, .int 0, .int 0, .int 0, .int 0, .int (-1), .int 0, .ref (u_1.1 3), .ref (u_1.1 4), .ref (u_1.1 5), .ref (u_1.1 6), .ref (u_1.1 7), .int 0, .int 0, .ref (u_1.1 8), .ref (u_1.1 9), .ref (u_1.1 10), .int 0, .int 0, .ref (u_1.1 11), .ref (u_1.1 12), .ref (u_1.1 13), .ref (u_1.1 14), .ref (u_1.1 15), .int 0, .ref (u_1.1 16), .ref (u_1.1 17), .ref (u_1.1 18)])), ((u_1.1 16), .inl (cy 1, 4, .inl (upd (upd (upd (upd (fun _ => 0) (Int32.toNatClampNeg 0) (-1)) (Int32.toNatClampNeg 1) (-1)) (Int32.toNatClampNeg 2) (-1)) (Int32.toNatClampNeg 3) (-1)))), ((u_1.1 17), .inl (cy 1, 4, .inl (fun _ => 0))), ((u_1.1 18), .inl (cy 2, 160, .inr (.inl (fun _ => 0))))] _ _ := hw37
        refine lv_aload_n hx hb dL_law_1251 rfl (lv_at hl 1 rfl) ?_
        refine lv_aload_n hx hb dL_law_1252 rfl (lv_at hl 3 rfl) ?_
        refine lv_iload_n hx hb dL_law_1253 rfl (lv_at hl 0 rfl) ?_
        refine lv_iconst (v := 1) hx hb dL_law_1254 (by decide) ?_
        refine lv_iadd hx hb dL_law_1255 ?_
        refine q_c 1 (by decide +kernel) ?_
        refine va_sld X.1 X.2.1 hX hbl hbA hw37.2.2 (q_in (by decide +kernel)) dL_law_1256 ?_
        refine q_c 3 e1 ?_
        refine lv_aload_n hx hb dL_law_1257 rfl (lv_at hl 3 rfl) ?_
        refine lv_iload_n hx hb dL_law_1258 rfl (lv_at hl 0 rfl) ?_
        refine lv_iconst (v := 2) hx hb dL_law_1259 (by decide) ?_
        refine lv_iadd hx hb dL_law_1260 ?_
        refine q_c 2 (by decide +kernel) ?_
        refine va_sld X.1 X.2.1 hX hbl hbA hw37.2.2 (q_in (by decide +kernel)) dL_law_1261 ?_
        refine q_c a2 e2 ?_
        refine lv_aload_n hx hb dL_law_1262 rfl (lv_at hl 3 rfl) ?_
        refine lv_iload_n hx hb dL_law_1263 rfl (lv_at hl 0 rfl) ?_
        refine lv_iconst (v := 3) hx hb dL_law_1264 (by decide) ?_
        refine lv_iadd hx hb dL_law_1265 ?_
        refine q_c 3 (by decide +kernel) ?_
        refine va_sld X.1 X.2.1 hX hbl hbA hw37.2.2 (q_in (by decide +kernel)) dL_law_1266 ?_
        refine q_c a3 e3 ?_
        have g_13477 : (0 : Int32) ≤ a2 := by
          simp only [Int32.lt_iff_toInt_lt, Int32.le_iff_toInt_le, ← Int32.toInt_inj] at c_13262 c_13291 ⊢
          have k_0 : ((-1) : Int32).toInt = -1 := by decide
          have k_1 : (3 : Int32).toInt = 3 := by decide
          have k_g : (0 : Int32).toInt = 0 := by decide
          omega
        have g_13478 : a2 ≤ (3 : Int32) := by
          simp only [Int32.lt_iff_toInt_lt, Int32.le_iff_toInt_le, ← Int32.toInt_inj] at c_13262 c_13291 ⊢
          have k_0 : ((-1) : Int32).toInt = -1 := by decide
          have k_1 : (3 : Int32).toInt = 3 := by decide
          omega
        have g_13479 : (0 : Int32) ≤ a3 := by
          simp only [Int32.lt_iff_toInt_lt, Int32.le_iff_toInt_le, ← Int32.toInt_inj] at c_13314 c_13375 ⊢
          have k_0 : ((-1) : Int32).toInt = -1 := by decide
          have k_1 : (40 : Int32).toInt = 40 := by decide
          have k_g : (0 : Int32).toInt = 0 := by decide
          omega
        have g_13480 : a3 ≤ (40 : Int32) := by
          simp only [Int32.lt_iff_toInt_lt, Int32.le_iff_toInt_le, ← Int32.toInt_inj] at c_13314 c_13375 ⊢
          have k_0 : ((-1) : Int32).toInt = -1 := by decide
          have k_1 : (40 : Int32).toInt = 40 := by decide
          omega
        refine q_callVi (rest := [.int 0]) (wr := []) X hK hA hw37 (fun sz => kX12_numbers_556 l D cy y0 (u_1.1 16) (u_1.1 17) (u_1.1 18) (upd (upd (upd (upd (fun _ => 0) (Int32.toNatClampNeg 0) (-1)) (Int32.toNatClampNeg 1) (-1)) (Int32.toNatClampNeg 2) (-1)) (Int32.toNatClampNeg 3) (-1)) a2 a3 (u_1.1 19) (u_1.1 0) (u_1.1 1) (u_1.1 2) (u_1.1 3) (u_1.1 4) (u_1.1 5) (u_1.1 6) (u_1.1 7) (u_1.1 8) (u_1.1 9) (u_1.1 10) (u_1.1 11) (u_1.1 12) (u_1.1 13) (u_1.1 14) (u_1.1 15) g_13477 g_13478 g_13479 g_13480 sz) wm_8_27 wm_8_30 wm_1_12 hd_X12_numbers wm_8_28 wm_8_29 (ci := 12) (q0 := 0) rfl rfl ⟨Nat.le_of_ble_eq_true rfl, Nat.le_of_ble_eq_true rfl⟩ hl.1 rfl (Nat.le_of_ble_eq_true rfl) dL_law_1267 ⟨Nat.le_of_ble_eq_true rfl, Nat.le_of_ble_eq_true rfl⟩ [0, 1, 2, 3] [] rfl rfl (by decide) rfl rfl (fun r_13481 u_13481 Hp38 lc38 w_13481 hw38 => ?_)
        clear Hp37 lc37 hw37
        obtain rfl : r_13481 = 0 := w_13481
        clear w_13481
        replace hw38 : qW D _ _ [] _ _ := hw38
        refine lv_icmp_eq (tgt := 1461) hx hb dL_law_1270 (by decide) (fun _ => ?_) (fun c => absurd c (by decide +kernel))
        exact law_tail l X hr hlk hX hbl hw38.2.2 hl (Nat.le_of_ble_eq_true rfl) (Nat.le_of_ble_eq_true rfl)
      refine lv_aload_n hx hb dL_law_1232 rfl (lv_at hl 2 rfl) ?_
      refine lv_aload_n hx hb dL_law_1233 rfl (lv_at hl 3 rfl) ?_
      refine lv_iload_n hx hb dL_law_1234 rfl (lv_at hl 0 rfl) ?_
      refine lv_iconst (v := 1) hx hb dL_law_1235 (by decide) ?_
      refine lv_iadd hx hb dL_law_1236 ?_
      refine q_c 1 (by decide +kernel) ?_
      refine va_sld X.1 X.2.1 hX hbl hbA hw38.2.2 (q_in (by decide +kernel)) dL_law_1237 ?_
      refine q_c 3 e1 ?_
      refine lv_aload_n hx hb dL_law_1238 rfl (lv_at hl 3 rfl) ?_
      refine lv_iload_n hx hb dL_law_1239 rfl (lv_at hl 0 rfl) ?_
      refine lv_iconst (v := 2) hx hb dL_law_1240 (by decide) ?_
      refine lv_iadd hx hb dL_law_1241 ?_
      refine q_c 2 (by decide +kernel) ?_
      refine va_sld X.1 X.2.1 hX hbl hbA hw38.2.2 (q_in (by decide +kernel)) dL_law_1242 ?_
      refine q_c a2 e2 ?_
      refine lv_aload_n hx hb dL_law_1243 rfl (lv_at hl 3 rfl) ?_
      refine lv_iload_n hx hb dL_law_1244 rfl (lv_at hl 0 rfl) ?_
      refine lv_iconst (v := 3) hx hb dL_law_1245 (by decide) ?_
      refine lv_iadd hx hb dL_law_1246 ?_
      refine q_c 3 (by decide +kernel) ?_
      refine va_sld X.1 X.2.1 hX hbl hbA hw38.2.2 (q_in (by decide +kernel)) dL_law_1247 ?_
      refine q_c a3 e3 ?_
      have g_13533 : (0 : Int32) ≤ a2 := by
        simp only [Int32.lt_iff_toInt_lt, Int32.le_iff_toInt_le, ← Int32.toInt_inj] at c_13262 c_13291 ⊢
        have k_0 : ((-1) : Int32).toInt = -1 := by decide
        have k_1 : (3 : Int32).toInt = 3 := by decide
        have k_g : (0 : Int32).toInt = 0 := by decide
        omega
      have g_13534 : a2 ≤ (3 : Int32) := by
        simp only [Int32.lt_iff_toInt_lt, Int32.le_iff_toInt_le, ← Int32.toInt_inj] at c_13262 c_13291 ⊢
        have k_0 : ((-1) : Int32).toInt = -1 := by decide
        have k_1 : (3 : Int32).toInt = 3 := by decide
        omega
      have g_13535 : (41 : Int32) ≤ a3 := by
        simp only [Int32.lt_iff_toInt_lt, Int32.le_iff_toInt_le, ← Int32.toInt_inj] at c_13314 c_13375 ⊢
        have k_0 : ((-1) : Int32).toInt = -1 := by decide
        have k_1 : (40 : Int32).toInt = 40 := by decide
        have k_g : (41 : Int32).toInt = 41 := by decide
        omega
      refine q_callVi (rest := []) (wr := [(y0, .inr (12, [.int 0, .ref (u_1.1 19), .ref (u_1.1 0), .ref (u_1.1 1), .ref (u_1.1 2), .int 0, .int 0, .int 0, .int 0, .int 0, .int 0, .int 0, .int 0, .int 0, .int (-1), .int 0, .ref (u_1.1 3), .ref (u_1.1 4), .ref (u_1.1 5), .ref (u_1.1 6), .ref (u_1.1 7), .int 0, .int 0, .ref (u_1.1 8), .ref (u_1.1 9), .ref (u_1.1 10), .int 0, .int 0, .ref (u_1.1 11), .ref (u_1.1 12), .ref (u_1.1 13), .ref (u_1.1 14), .ref (u_1.1 15), .int 0, .ref (u_1.1 16), .ref (u_1.1 17), .ref (u_1.1 18)]))]) X hK hA hw38 (fun sz => kX11_numbers_557 l D cy x0 a2 a3 (u_0.1 0) (u_0.1 1) (u_0.1 37) (u_0.1 39) (u_0.1 41) (u_0.1 43) (u_0.1 14) (u_0.1 15) (u_0.1 16) (u_0.1 17) (u_0.1 20) (u_0.1 24) (u_0.1 29) g_13533 g_13534 g_13535 sz) wm_5_120 wm_5_123 wm_1_1 hd_X11_numbers wm_5_121 wm_5_122 (ci := 11) (q0 := 0) rfl rfl ⟨Nat.le_of_ble_eq_true rfl, Nat.le_of_ble_eq_true rfl⟩ hl.1 rfl (Nat.le_of_ble_eq_true rfl) dL_law_1248 ⟨Nat.le_of_ble_eq_true rfl, Nat.le_of_ble_eq_true rfl⟩ [0] [78] rfl rfl (by decide) rfl rfl (fun r_13536 u_13536 Hp39 lc39 w_13536 hw39 => ?_)
      clear Hp38 lc38 hw38
      obtain rfl : r_13536 = (-3) := w_13536
      clear w_13536
      replace hw39 : qW D _ _ [(y0, .inr (12, [.int 0, .ref (u_1.1 19), .ref (u_1.1 0), .ref (u_1.1 1), .ref (u_1.1 2), .int 0, .int 0, .int 0, .int 0, .int 0, .int 0, .int 0, .int 0, .int 0, .int (-1), .int 0, .ref (u_1.1 3), .ref (u_1.1 4), .ref (u_1.1 5), .ref (u_1.1 6), .ref (u_1.1 7), .int 0, .int 0, .ref (u_1.1 8), .ref (u_1.1 9), .ref (u_1.1 10), .int 0, .int 0, .ref (u_1.1 11), .ref (u_1.1 12), .ref (u_1.1 13), .ref (u_1.1 14), .ref (u_1.1 15), .int 0, .ref (u_1.1 16), .ref (u_1.1 17), .ref (u_1.1 18)]))] _ _ := hw39
      refine lv_aload_n hx hb dL_law_1251 rfl (lv_at hl 1 rfl) ?_
      refine lv_aload_n hx hb dL_law_1252 rfl (lv_at hl 3 rfl) ?_
      refine lv_iload_n hx hb dL_law_1253 rfl (lv_at hl 0 rfl) ?_
      refine lv_iconst (v := 1) hx hb dL_law_1254 (by decide) ?_
      refine lv_iadd hx hb dL_law_1255 ?_
      refine q_c 1 (by decide +kernel) ?_
      refine va_sld X.1 X.2.1 hX hbl hbA hw39.2.2 (q_in (by decide +kernel)) dL_law_1256 ?_
      refine q_c 3 e1 ?_
      refine lv_aload_n hx hb dL_law_1257 rfl (lv_at hl 3 rfl) ?_
      refine lv_iload_n hx hb dL_law_1258 rfl (lv_at hl 0 rfl) ?_
      refine lv_iconst (v := 2) hx hb dL_law_1259 (by decide) ?_
      refine lv_iadd hx hb dL_law_1260 ?_
      refine q_c 2 (by decide +kernel) ?_
      refine va_sld X.1 X.2.1 hX hbl hbA hw39.2.2 (q_in (by decide +kernel)) dL_law_1261 ?_
      refine q_c a2 e2 ?_
      refine lv_aload_n hx hb dL_law_1262 rfl (lv_at hl 3 rfl) ?_
      refine lv_iload_n hx hb dL_law_1263 rfl (lv_at hl 0 rfl) ?_
      refine lv_iconst (v := 3) hx hb dL_law_1264 (by decide) ?_
      refine lv_iadd hx hb dL_law_1265 ?_
      refine q_c 3 (by decide +kernel) ?_
      refine va_sld X.1 X.2.1 hX hbl hbA hw39.2.2 (q_in (by decide +kernel)) dL_law_1266 ?_
      refine q_c a3 e3 ?_
      have g_13547 : (0 : Int32) ≤ a2 := by
        simp only [Int32.lt_iff_toInt_lt, Int32.le_iff_toInt_le, ← Int32.toInt_inj] at c_13262 c_13291 ⊢
        have k_0 : ((-1) : Int32).toInt = -1 := by decide
        have k_1 : (3 : Int32).toInt = 3 := by decide
        have k_g : (0 : Int32).toInt = 0 := by decide
        omega
      have g_13548 : a2 ≤ (3 : Int32) := by
        simp only [Int32.lt_iff_toInt_lt, Int32.le_iff_toInt_le, ← Int32.toInt_inj] at c_13262 c_13291 ⊢
        have k_0 : ((-1) : Int32).toInt = -1 := by decide
        have k_1 : (3 : Int32).toInt = 3 := by decide
        omega
      have g_13549 : (41 : Int32) ≤ a3 := by
        simp only [Int32.lt_iff_toInt_lt, Int32.le_iff_toInt_le, ← Int32.toInt_inj] at c_13314 c_13375 ⊢
        have k_0 : ((-1) : Int32).toInt = -1 := by decide
        have k_1 : (40 : Int32).toInt = 40 := by decide
        have k_g : (41 : Int32).toInt = 41 := by decide
        omega
      refine q_callVi (rest := [.int (-3)]) (wr := []) X hK hA hw39 (fun sz => kX12_numbers_558 l D cy y0 a2 a3 (u_1.1 19) (u_1.1 0) (u_1.1 1) (u_1.1 2) (u_1.1 3) (u_1.1 4) (u_1.1 5) (u_1.1 6) (u_1.1 7) (u_1.1 8) (u_1.1 9) (u_1.1 10) (u_1.1 11) (u_1.1 12) (u_1.1 13) (u_1.1 14) (u_1.1 15) (u_1.1 16) (u_1.1 17) (u_1.1 18) g_13547 g_13548 g_13549 sz) wm_8_27 wm_8_30 wm_1_12 hd_X12_numbers wm_8_28 wm_8_29 (ci := 12) (q0 := 0) rfl rfl ⟨Nat.le_of_ble_eq_true rfl, Nat.le_of_ble_eq_true rfl⟩ hl.1 rfl (Nat.le_of_ble_eq_true rfl) dL_law_1267 ⟨Nat.le_of_ble_eq_true rfl, Nat.le_of_ble_eq_true rfl⟩ [0] [] rfl rfl (by decide) rfl rfl (fun r_13550 u_13550 Hp40 lc40 w_13550 hw40 => ?_)
      clear Hp39 lc39 hw39
      obtain rfl : r_13550 = (-3) := w_13550
      clear w_13550
      replace hw40 : qW D _ _ [] _ _ := hw40
      refine lv_icmp_eq (tgt := 1461) hx hb dL_law_1270 (by decide) (fun _ => ?_) (fun c => absurd c (by decide +kernel))
      exact law_tail l X hr hlk hX hbl hw40.2.2 hl (Nat.le_of_ble_eq_true rfl) (Nat.le_of_ble_eq_true rfl)
    refine lv_aload_n hx hb dL_law_1232 rfl (lv_at hl 2 rfl) ?_
    refine lv_aload_n hx hb dL_law_1233 rfl (lv_at hl 3 rfl) ?_
    refine lv_iload_n hx hb dL_law_1234 rfl (lv_at hl 0 rfl) ?_
    refine lv_iconst (v := 1) hx hb dL_law_1235 (by decide) ?_
    refine lv_iadd hx hb dL_law_1236 ?_
    refine q_c 1 (by decide +kernel) ?_
    refine va_sld X.1 X.2.1 hX hbl hbA hw40.2.2 (q_in (by decide +kernel)) dL_law_1237 ?_
    refine q_c 3 e1 ?_
    refine lv_aload_n hx hb dL_law_1238 rfl (lv_at hl 3 rfl) ?_
    refine lv_iload_n hx hb dL_law_1239 rfl (lv_at hl 0 rfl) ?_
    refine lv_iconst (v := 2) hx hb dL_law_1240 (by decide) ?_
    refine lv_iadd hx hb dL_law_1241 ?_
    refine q_c 2 (by decide +kernel) ?_
    refine va_sld X.1 X.2.1 hX hbl hbA hw40.2.2 (q_in (by decide +kernel)) dL_law_1242 ?_
    refine q_c a2 e2 ?_
    refine lv_aload_n hx hb dL_law_1243 rfl (lv_at hl 3 rfl) ?_
    refine lv_iload_n hx hb dL_law_1244 rfl (lv_at hl 0 rfl) ?_
    refine lv_iconst (v := 3) hx hb dL_law_1245 (by decide) ?_
    refine lv_iadd hx hb dL_law_1246 ?_
    refine q_c 3 (by decide +kernel) ?_
    refine va_sld X.1 X.2.1 hX hbl hbA hw40.2.2 (q_in (by decide +kernel)) dL_law_1247 ?_
    refine q_c a3 e3 ?_
    have g_13579 : (4 : Int32) ≤ a2 := by
      simp only [Int32.lt_iff_toInt_lt, Int32.le_iff_toInt_le, ← Int32.toInt_inj] at c_13262 c_13291 ⊢
      have k_0 : ((-1) : Int32).toInt = -1 := by decide
      have k_1 : (3 : Int32).toInt = 3 := by decide
      have k_g : (4 : Int32).toInt = 4 := by decide
      omega
    refine q_callVi (rest := []) (wr := [(y0, .inr (12, [.int 0, .ref (u_1.1 19), .ref (u_1.1 0), .ref (u_1.1 1), .ref (u_1.1 2), .int 0, .int 0, .int 0, .int 0, .int 0, .int 0, .int 0, .int 0, .int 0, .int (-1), .int 0, .ref (u_1.1 3), .ref (u_1.1 4), .ref (u_1.1 5), .ref (u_1.1 6), .ref (u_1.1 7), .int 0, .int 0, .ref (u_1.1 8), .ref (u_1.1 9), .ref (u_1.1 10), .int 0, .int 0, .ref (u_1.1 11), .ref (u_1.1 12), .ref (u_1.1 13), .ref (u_1.1 14), .ref (u_1.1 15), .int 0, .ref (u_1.1 16), .ref (u_1.1 17), .ref (u_1.1 18)]))]) X hK hA hw40 (fun sz => kX11_numbers_559 l D cy x0 a2 a3 (u_0.1 0) (u_0.1 1) (u_0.1 37) (u_0.1 39) (u_0.1 41) (u_0.1 43) (u_0.1 14) (u_0.1 15) (u_0.1 16) (u_0.1 17) (u_0.1 20) (u_0.1 24) (u_0.1 29) g_13579 sz) wm_5_120 wm_5_123 wm_1_1 hd_X11_numbers wm_5_121 wm_5_122 (ci := 11) (q0 := 0) rfl rfl ⟨Nat.le_of_ble_eq_true rfl, Nat.le_of_ble_eq_true rfl⟩ hl.1 rfl (Nat.le_of_ble_eq_true rfl) dL_law_1248 ⟨Nat.le_of_ble_eq_true rfl, Nat.le_of_ble_eq_true rfl⟩ [0] [78] rfl rfl (by decide) rfl rfl (fun r_13580 u_13580 Hp41 lc41 w_13580 hw41 => ?_)
    clear Hp40 lc40 hw40
    obtain rfl : r_13580 = (-2) := w_13580
    clear w_13580
    replace hw41 : qW D _ _ [(y0, .inr (12, [.int 0, .ref (u_1.1 19), .ref (u_1.1 0), .ref (u_1.1 1), .ref (u_1.1 2), .int 0, .int 0, .int 0, .int 0, .int 0, .int 0, .int 0, .int 0, .int 0, .int (-1), .int 0, .ref (u_1.1 3), .ref (u_1.1 4), .ref (u_1.1 5), .ref (u_1.1 6), .ref (u_1.1 7), .int 0, .int 0, .ref (u_1.1 8), .ref (u_1.1 9), .ref (u_1.1 10), .int 0, .int 0, .ref (u_1.1 11), .ref (u_1.1 12), .ref (u_1.1 13), .ref (u_1.1 14), .ref (u_1.1 15), .int 0, .ref (u_1.1 16), .ref (u_1.1 17), .ref (u_1.1 18)]))] _ _ := hw41
    refine lv_aload_n hx hb dL_law_1251 rfl (lv_at hl 1 rfl) ?_
    refine lv_aload_n hx hb dL_law_1252 rfl (lv_at hl 3 rfl) ?_
    refine lv_iload_n hx hb dL_law_1253 rfl (lv_at hl 0 rfl) ?_
    refine lv_iconst (v := 1) hx hb dL_law_1254 (by decide) ?_
    refine lv_iadd hx hb dL_law_1255 ?_
    refine q_c 1 (by decide +kernel) ?_
    refine va_sld X.1 X.2.1 hX hbl hbA hw41.2.2 (q_in (by decide +kernel)) dL_law_1256 ?_
    refine q_c 3 e1 ?_
    refine lv_aload_n hx hb dL_law_1257 rfl (lv_at hl 3 rfl) ?_
    refine lv_iload_n hx hb dL_law_1258 rfl (lv_at hl 0 rfl) ?_
    refine lv_iconst (v := 2) hx hb dL_law_1259 (by decide) ?_
    refine lv_iadd hx hb dL_law_1260 ?_
    refine q_c 2 (by decide +kernel) ?_
    refine va_sld X.1 X.2.1 hX hbl hbA hw41.2.2 (q_in (by decide +kernel)) dL_law_1261 ?_
    refine q_c a2 e2 ?_
    refine lv_aload_n hx hb dL_law_1262 rfl (lv_at hl 3 rfl) ?_
    refine lv_iload_n hx hb dL_law_1263 rfl (lv_at hl 0 rfl) ?_
    refine lv_iconst (v := 3) hx hb dL_law_1264 (by decide) ?_
    refine lv_iadd hx hb dL_law_1265 ?_
    refine q_c 3 (by decide +kernel) ?_
    refine va_sld X.1 X.2.1 hX hbl hbA hw41.2.2 (q_in (by decide +kernel)) dL_law_1266 ?_
    refine q_c a3 e3 ?_
    have g_13586 : (4 : Int32) ≤ a2 := by
      simp only [Int32.lt_iff_toInt_lt, Int32.le_iff_toInt_le, ← Int32.toInt_inj] at c_13262 c_13291 ⊢
      have k_0 : ((-1) : Int32).toInt = -1 := by decide
      have k_1 : (3 : Int32).toInt = 3 := by decide
      have k_g : (4 : Int32).toInt = 4 := by decide
      omega
    refine q_callVi (rest := [.int (-2)]) (wr := []) X hK hA hw41 (fun sz => kX12_numbers_560 l D cy y0 a2 a3 (u_1.1 19) (u_1.1 0) (u_1.1 1) (u_1.1 2) (u_1.1 3) (u_1.1 4) (u_1.1 5) (u_1.1 6) (u_1.1 7) (u_1.1 8) (u_1.1 9) (u_1.1 10) (u_1.1 11) (u_1.1 12) (u_1.1 13) (u_1.1 14) (u_1.1 15) (u_1.1 16) (u_1.1 17) (u_1.1 18) g_13586 sz) wm_8_27 wm_8_30 wm_1_12 hd_X12_numbers wm_8_28 wm_8_29 (ci := 12) (q0 := 0) rfl rfl ⟨Nat.le_of_ble_eq_true rfl, Nat.le_of_ble_eq_true rfl⟩ hl.1 rfl (Nat.le_of_ble_eq_true rfl) dL_law_1267 ⟨Nat.le_of_ble_eq_true rfl, Nat.le_of_ble_eq_true rfl⟩ [0] [] rfl rfl (by decide) rfl rfl (fun r_13587 u_13587 Hp42 lc42 w_13587 hw42 => ?_)
    clear Hp41 lc41 hw41
    obtain rfl : r_13587 = (-2) := w_13587
    clear w_13587
    replace hw42 : qW D _ _ [] _ _ := hw42
    refine lv_icmp_eq (tgt := 1461) hx hb dL_law_1270 (by decide) (fun _ => ?_) (fun c => absurd c (by decide +kernel))
    exact law_tail l X hr hlk hX hbl hw42.2.2 hl (Nat.le_of_ble_eq_true rfl) (Nat.le_of_ble_eq_true rfl)
  refine lv_aload_n hx hb dL_law_1232 rfl (lv_at hl 2 rfl) ?_
  refine lv_aload_n hx hb dL_law_1233 rfl (lv_at hl 3 rfl) ?_
  refine lv_iload_n hx hb dL_law_1234 rfl (lv_at hl 0 rfl) ?_
  refine lv_iconst (v := 1) hx hb dL_law_1235 (by decide) ?_
  refine lv_iadd hx hb dL_law_1236 ?_
  refine q_c 1 (by decide +kernel) ?_
  refine va_sld X.1 X.2.1 hX hbl hbA hw42.2.2 (q_in (by decide +kernel)) dL_law_1237 ?_
  refine q_c a1 e1 ?_
  refine lv_aload_n hx hb dL_law_1238 rfl (lv_at hl 3 rfl) ?_
  refine lv_iload_n hx hb dL_law_1239 rfl (lv_at hl 0 rfl) ?_
  refine lv_iconst (v := 2) hx hb dL_law_1240 (by decide) ?_
  refine lv_iadd hx hb dL_law_1241 ?_
  refine q_c 2 (by decide +kernel) ?_
  refine va_sld X.1 X.2.1 hX hbl hbA hw42.2.2 (q_in (by decide +kernel)) dL_law_1242 ?_
  refine q_c a2 e2 ?_
  refine lv_aload_n hx hb dL_law_1243 rfl (lv_at hl 3 rfl) ?_
  refine lv_iload_n hx hb dL_law_1244 rfl (lv_at hl 0 rfl) ?_
  refine lv_iconst (v := 3) hx hb dL_law_1245 (by decide) ?_
  refine lv_iadd hx hb dL_law_1246 ?_
  refine q_c 3 (by decide +kernel) ?_
  refine va_sld X.1 X.2.1 hX hbl hbA hw42.2.2 (q_in (by decide +kernel)) dL_law_1247 ?_
  refine q_c a3 e3 ?_
  have g_13617 : (4 : Int32) ≤ a1 := by
    simp only [Int32.lt_iff_toInt_lt, Int32.le_iff_toInt_le, ← Int32.toInt_inj] at c_12151 c_12180 c_12541 c_12890 c_13239 ⊢
    have k_0 : ((-1) : Int32).toInt = -1 := by decide
    have k_1 : (0 : Int32).toInt = 0 := by decide
    have k_2 : (1 : Int32).toInt = 1 := by decide
    have k_3 : (2 : Int32).toInt = 2 := by decide
    have k_4 : (3 : Int32).toInt = 3 := by decide
    have k_g : (4 : Int32).toInt = 4 := by decide
    omega
  refine q_callVi (rest := []) (wr := [(y0, .inr (12, [.int 0, .ref (u_1.1 19), .ref (u_1.1 0), .ref (u_1.1 1), .ref (u_1.1 2), .int 0, .int 0, .int 0, .int 0, .int 0, .int 0, .int 0, .int 0, .int 0, .int (-1), .int 0, .ref (u_1.1 3), .ref (u_1.1 4), .ref (u_1.1 5), .ref (u_1.1 6), .ref (u_1.1 7), .int 0, .int 0, .ref (u_1.1 8), .ref (u_1.1 9), .ref (u_1.1 10), .int 0, .int 0, .ref (u_1.1 11), .ref (u_1.1 12), .ref (u_1.1 13), .ref (u_1.1 14), .ref (u_1.1 15), .int 0, .ref (u_1.1 16), .ref (u_1.1 17), .ref (u_1.1 18)]))]) X hK hA hw42 (fun sz => kX11_numbers_561 l D cy x0 a1 a2 a3 (u_0.1 0) (u_0.1 1) (u_0.1 37) (u_0.1 39) (u_0.1 41) (u_0.1 43) (u_0.1 14) (u_0.1 15) (u_0.1 16) (u_0.1 17) (u_0.1 20) (u_0.1 24) (u_0.1 29) g_13617 sz) wm_5_120 wm_5_123 wm_1_1 hd_X11_numbers wm_5_121 wm_5_122 (ci := 11) (q0 := 0) rfl rfl ⟨Nat.le_of_ble_eq_true rfl, Nat.le_of_ble_eq_true rfl⟩ hl.1 rfl (Nat.le_of_ble_eq_true rfl) dL_law_1248 ⟨Nat.le_of_ble_eq_true rfl, Nat.le_of_ble_eq_true rfl⟩ [0] [78] rfl rfl (by decide) rfl rfl (fun r_13618 u_13618 Hp43 lc43 w_13618 hw43 => ?_)
  clear Hp42 lc42 hw42
  obtain rfl : r_13618 = (-2) := w_13618
  clear w_13618
  replace hw43 : qW D _ _ [(y0, .inr (12, [.int 0, .ref (u_1.1 19), .ref (u_1.1 0), .ref (u_1.1 1), .ref (u_1.1 2), .int 0, .int 0, .int 0, .int 0, .int 0, .int 0, .int 0, .int 0, .int 0, .int (-1), .int 0, .ref (u_1.1 3), .ref (u_1.1 4), .ref (u_1.1 5), .ref (u_1.1 6), .ref (u_1.1 7), .int 0, .int 0, .ref (u_1.1 8), .ref (u_1.1 9), .ref (u_1.1 10), .int 0, .int 0, .ref (u_1.1 11), .ref (u_1.1 12), .ref (u_1.1 13), .ref (u_1.1 14), .ref (u_1.1 15), .int 0, .ref (u_1.1 16), .ref (u_1.1 17), .ref (u_1.1 18)]))] _ _ := hw43
  refine lv_aload_n hx hb dL_law_1251 rfl (lv_at hl 1 rfl) ?_
  refine lv_aload_n hx hb dL_law_1252 rfl (lv_at hl 3 rfl) ?_
  refine lv_iload_n hx hb dL_law_1253 rfl (lv_at hl 0 rfl) ?_
  refine lv_iconst (v := 1) hx hb dL_law_1254 (by decide) ?_
  refine lv_iadd hx hb dL_law_1255 ?_
  refine q_c 1 (by decide +kernel) ?_
  refine va_sld X.1 X.2.1 hX hbl hbA hw43.2.2 (q_in (by decide +kernel)) dL_law_1256 ?_
  refine q_c a1 e1 ?_
  refine lv_aload_n hx hb dL_law_1257 rfl (lv_at hl 3 rfl) ?_
  refine lv_iload_n hx hb dL_law_1258 rfl (lv_at hl 0 rfl) ?_
  refine lv_iconst (v := 2) hx hb dL_law_1259 (by decide) ?_
  refine lv_iadd hx hb dL_law_1260 ?_
  refine q_c 2 (by decide +kernel) ?_
  refine va_sld X.1 X.2.1 hX hbl hbA hw43.2.2 (q_in (by decide +kernel)) dL_law_1261 ?_
  refine q_c a2 e2 ?_
  refine lv_aload_n hx hb dL_law_1262 rfl (lv_at hl 3 rfl) ?_
  refine lv_iload_n hx hb dL_law_1263 rfl (lv_at hl 0 rfl) ?_
  refine lv_iconst (v := 3) hx hb dL_law_1264 (by decide) ?_
  refine lv_iadd hx hb dL_law_1265 ?_
  refine q_c 3 (by decide +kernel) ?_
  refine va_sld X.1 X.2.1 hX hbl hbA hw43.2.2 (q_in (by decide +kernel)) dL_law_1266 ?_
  refine q_c a3 e3 ?_
  have g_13623 : (4 : Int32) ≤ a1 := by
    simp only [Int32.lt_iff_toInt_lt, Int32.le_iff_toInt_le, ← Int32.toInt_inj] at c_12151 c_12180 c_12541 c_12890 c_13239 ⊢
    have k_0 : ((-1) : Int32).toInt = -1 := by decide
    have k_1 : (0 : Int32).toInt = 0 := by decide
    have k_2 : (1 : Int32).toInt = 1 := by decide
    have k_3 : (2 : Int32).toInt = 2 := by decide
    have k_4 : (3 : Int32).toInt = 3 := by decide
    have k_g : (4 : Int32).toInt = 4 := by decide
    omega
  refine q_callVi (rest := [.int (-2)]) (wr := []) X hK hA hw43 (fun sz => kX12_numbers_562 l D cy y0 a1 a2 a3 (u_1.1 19) (u_1.1 0) (u_1.1 1) (u_1.1 2) (u_1.1 3) (u_1.1 4) (u_1.1 5) (u_1.1 6) (u_1.1 7) (u_1.1 8) (u_1.1 9) (u_1.1 10) (u_1.1 11) (u_1.1 12) (u_1.1 13) (u_1.1 14) (u_1.1 15) (u_1.1 16) (u_1.1 17) (u_1.1 18) g_13623 sz) wm_8_27 wm_8_30 wm_1_12 hd_X12_numbers wm_8_28 wm_8_29 (ci := 12) (q0 := 0) rfl rfl ⟨Nat.le_of_ble_eq_true rfl, Nat.le_of_ble_eq_true rfl⟩ hl.1 rfl (Nat.le_of_ble_eq_true rfl) dL_law_1267 ⟨Nat.le_of_ble_eq_true rfl, Nat.le_of_ble_eq_true rfl⟩ [0] [] rfl rfl (by decide) rfl rfl (fun r_13624 u_13624 Hp44 lc44 w_13624 hw44 => ?_)
  clear Hp43 lc43 hw43
  obtain rfl : r_13624 = (-2) := w_13624
  clear w_13624
  replace hw44 : qW D _ _ [] _ _ := hw44
  refine lv_icmp_eq (tgt := 1461) hx hb dL_law_1270 (by decide) (fun _ => ?_) (fun c => absurd c (by decide +kernel))
  exact law_tail l X hr hlk hX hbl hw44.2.2 hl (Nat.le_of_ble_eq_true rfl) (Nat.le_of_ble_eq_true rfl)
set_option maxHeartbeats 4000000 in
set_option maxRecDepth 100000 in
theorem lc_write (l : Launch) {p : Program} {e : Env} {s : State} {m : MethodId} {below : List Frame} {meth : Method} {c : Code} {b : Nat} {xs : Nat → Int32} {D : va_G} {cy : Nat → ClassId} {H : Heap} {locs : List Loc} {ls : Array Slot} {x0 y0 : Nat} {u_0 u_1 : SS} (X : qX p s m #[Value.ref b] c cL_law 4 RL) (hr : meth.sig.returnType = ret) (hlk : meth.locks = false) (hX : va_X b 6 xs s s.heap) (hbl : b < s.heap.size) (hK : qK D cy s) (a1 a2 a3 a4 a5 : Int32) (e1 : xs (Int32.toNatClampNeg 1) = a1) (e2 : xs (Int32.toNatClampNeg 2) = a2) (e3 : xs (Int32.toNatClampNeg 3) = a3) (e4 : xs (Int32.toNatClampNeg 4) = a4) (e5 : xs (Int32.toNatClampNeg 5) = a5) (h : qW D (fun q => s.heap.size ≤ q) s.heap (wLaw cy x0 y0 u_0 u_1) H locs) (hl : lv_has ls 4 [(3, .int 0), (2, .ref y0), (1, .ref x0), (0, .ref b)]) : W p l e room_1 s m #[Value.ref b] below meth c H locs 99 25544 (lw_Z below #[Value.ref b] s) (F0 m 1275 ls []) := by
  obtain ⟨hx, hb, hml, hown, ht⟩ := id X
  have hA : ∀ q : Nat, s.heap.size ≤ q → (fun q : Nat => s.heap.size ≤ q) q := fun _ h => h
  have hbA : ¬ (fun q : Nat => s.heap.size ≤ q) b := Nat.not_le.mpr hbl
  by_cases c_13629 : a1 ≤ (-1)
  · skip
    refine lv_aload_n hx hb dL_law_1275 rfl (lv_at hl 2 rfl) ?_
    refine lv_aload_n hx hb dL_law_1276 rfl (lv_at hl 3 rfl) ?_
    refine lv_iload_n hx hb dL_law_1277 rfl (lv_at hl 0 rfl) ?_
    refine lv_iconst (v := 1) hx hb dL_law_1278 (by decide) ?_
    refine lv_iadd hx hb dL_law_1279 ?_
    refine q_c 1 (by decide +kernel) ?_
    refine va_sld X.1 X.2.1 hX hbl hbA h.2.2 (q_in (by decide +kernel)) dL_law_1280 ?_
    refine q_c a1 e1 ?_
    refine lv_aload_n hx hb dL_law_1281 rfl (lv_at hl 3 rfl) ?_
    refine lv_iload_n hx hb dL_law_1282 rfl (lv_at hl 0 rfl) ?_
    refine lv_iconst (v := 2) hx hb dL_law_1283 (by decide) ?_
    refine lv_iadd hx hb dL_law_1284 ?_
    refine q_c 2 (by decide +kernel) ?_
    refine va_sld X.1 X.2.1 hX hbl hbA h.2.2 (q_in (by decide +kernel)) dL_law_1285 ?_
    refine q_c a2 e2 ?_
    refine lv_aload_n hx hb dL_law_1286 rfl (lv_at hl 3 rfl) ?_
    refine lv_iload_n hx hb dL_law_1287 rfl (lv_at hl 0 rfl) ?_
    refine lv_iconst (v := 3) hx hb dL_law_1288 (by decide) ?_
    refine lv_iadd hx hb dL_law_1289 ?_
    refine q_c 3 (by decide +kernel) ?_
    refine va_sld X.1 X.2.1 hX hbl hbA h.2.2 (q_in (by decide +kernel)) dL_law_1290 ?_
    refine q_c a3 e3 ?_
    refine lv_i2l hx hb dL_law_1291 rfl ?_
    refine lv_bipush (v := 32) hx hb dL_law_1292 (by decide) ?_
    refine lv_lshl hx hb dL_law_1294 rfl ?_
    refine lv_aload_n hx hb dL_law_1295 rfl (lv_at hl 3 rfl) ?_
    refine lv_iload_n hx hb dL_law_1296 rfl (lv_at hl 0 rfl) ?_
    refine lv_iconst (v := 4) hx hb dL_law_1297 (by decide) ?_
    refine lv_iadd hx hb dL_law_1298 ?_
    refine q_c 4 (by decide +kernel) ?_
    refine va_sld X.1 X.2.1 hX hbl hbA h.2.2 (q_in (by decide +kernel)) dL_law_1299 ?_
    refine q_c a4 e4 ?_
    refine lv_i2l hx hb dL_law_1300 rfl ?_
    refine lv_ldc2 hx hb hown (ht _ wm_8_59) dL_law_1301 ?_
    refine lv_land hx hb dL_law_1304 ?_
    refine lv_lor hx hb dL_law_1305 ?_
    have g_13657 : a1 ≤ ((-1) : Int32) := by
      simp only [Int32.lt_iff_toInt_lt, Int32.le_iff_toInt_le, ← Int32.toInt_inj] at c_13629 ⊢
      have k_0 : ((-1) : Int32).toInt = -1 := by decide
      omega
    refine q_callVl (rest := []) (wr := [(y0, .inr (12, [.int 0, .ref (u_1.1 19), .ref (u_1.1 0), .ref (u_1.1 1), .ref (u_1.1 2), .int 0, .int 0, .int 0, .int 0, .int 0, .int 0, .int 0, .int 0, .int 0, .int (-1), .int 0, .ref (u_1.1 3), .ref (u_1.1 4), .ref (u_1.1 5), .ref (u_1.1 6), .ref (u_1.1 7), .int 0, .int 0, .ref (u_1.1 8), .ref (u_1.1 9), .ref (u_1.1 10), .int 0, .int 0, .ref (u_1.1 11), .ref (u_1.1 12), .ref (u_1.1 13), .ref (u_1.1 14), .ref (u_1.1 15), .int 0, .ref (u_1.1 16), .ref (u_1.1 17), .ref (u_1.1 18)]))]) X hK hA h (fun sz => kX11_write_563 l D cy x0 a1 a2 ((((a3).toInt64) <<< ((32 : Int32).toInt64 &&& 63)) ||| (((a4).toInt64) &&& 4294967295)) (u_0.1 0) (u_0.1 1) (u_0.1 37) (u_0.1 39) (u_0.1 41) (u_0.1 43) (u_0.1 14) (u_0.1 15) (u_0.1 16) (u_0.1 17) (u_0.1 20) (u_0.1 24) (u_0.1 29) g_13657 sz) wm_5_131 wm_5_134 wm_1_1 hd_X11_write wm_5_132 wm_5_133 (ci := 11) (q0 := 0) rfl rfl ⟨Nat.le_of_ble_eq_true rfl, Nat.le_of_ble_eq_true rfl⟩ hl.1 rfl (Nat.le_of_ble_eq_true rfl) dL_law_1306 ⟨Nat.le_of_ble_eq_true rfl, Nat.le_of_ble_eq_true rfl⟩ [0] [78] rfl rfl (by decide) rfl rfl (fun r_13658 u_13658 Hp1 lc1 w_13658 hw1 => ?_)
    clear h
    obtain rfl : r_13658 = (-2) := w_13658
    clear w_13658
    replace hw1 : qW D _ _ [(y0, .inr (12, [.int 0, .ref (u_1.1 19), .ref (u_1.1 0), .ref (u_1.1 1), .ref (u_1.1 2), .int 0, .int 0, .int 0, .int 0, .int 0, .int 0, .int 0, .int 0, .int 0, .int (-1), .int 0, .ref (u_1.1 3), .ref (u_1.1 4), .ref (u_1.1 5), .ref (u_1.1 6), .ref (u_1.1 7), .int 0, .int 0, .ref (u_1.1 8), .ref (u_1.1 9), .ref (u_1.1 10), .int 0, .int 0, .ref (u_1.1 11), .ref (u_1.1 12), .ref (u_1.1 13), .ref (u_1.1 14), .ref (u_1.1 15), .int 0, .ref (u_1.1 16), .ref (u_1.1 17), .ref (u_1.1 18)]))] _ _ := hw1
    refine lv_aload_n hx hb dL_law_1309 rfl (lv_at hl 1 rfl) ?_
    refine lv_aload_n hx hb dL_law_1310 rfl (lv_at hl 3 rfl) ?_
    refine lv_iload_n hx hb dL_law_1311 rfl (lv_at hl 0 rfl) ?_
    refine lv_iconst (v := 1) hx hb dL_law_1312 (by decide) ?_
    refine lv_iadd hx hb dL_law_1313 ?_
    refine q_c 1 (by decide +kernel) ?_
    refine va_sld X.1 X.2.1 hX hbl hbA hw1.2.2 (q_in (by decide +kernel)) dL_law_1314 ?_
    refine q_c a1 e1 ?_
    refine lv_aload_n hx hb dL_law_1315 rfl (lv_at hl 3 rfl) ?_
    refine lv_iload_n hx hb dL_law_1316 rfl (lv_at hl 0 rfl) ?_
    refine lv_iconst (v := 2) hx hb dL_law_1317 (by decide) ?_
    refine lv_iadd hx hb dL_law_1318 ?_
    refine q_c 2 (by decide +kernel) ?_
    refine va_sld X.1 X.2.1 hX hbl hbA hw1.2.2 (q_in (by decide +kernel)) dL_law_1319 ?_
    refine q_c a2 e2 ?_
    refine lv_aload_n hx hb dL_law_1320 rfl (lv_at hl 3 rfl) ?_
    refine lv_iload_n hx hb dL_law_1321 rfl (lv_at hl 0 rfl) ?_
    refine lv_iconst (v := 3) hx hb dL_law_1322 (by decide) ?_
    refine lv_iadd hx hb dL_law_1323 ?_
    refine q_c 3 (by decide +kernel) ?_
    refine va_sld X.1 X.2.1 hX hbl hbA hw1.2.2 (q_in (by decide +kernel)) dL_law_1324 ?_
    refine q_c a3 e3 ?_
    refine lv_i2l hx hb dL_law_1325 rfl ?_
    refine lv_bipush (v := 32) hx hb dL_law_1326 (by decide) ?_
    refine lv_lshl hx hb dL_law_1328 rfl ?_
    refine lv_aload_n hx hb dL_law_1329 rfl (lv_at hl 3 rfl) ?_
    refine lv_iload_n hx hb dL_law_1330 rfl (lv_at hl 0 rfl) ?_
    refine lv_iconst (v := 4) hx hb dL_law_1331 (by decide) ?_
    refine lv_iadd hx hb dL_law_1332 ?_
    refine q_c 4 (by decide +kernel) ?_
    refine va_sld X.1 X.2.1 hX hbl hbA hw1.2.2 (q_in (by decide +kernel)) dL_law_1333 ?_
    refine q_c a4 e4 ?_
    refine lv_i2l hx hb dL_law_1334 rfl ?_
    refine lv_ldc2 hx hb hown (ht _ wm_8_59) dL_law_1335 ?_
    refine lv_land hx hb dL_law_1338 ?_
    refine lv_lor hx hb dL_law_1339 ?_
    have g_13664 : a1 ≤ ((-1) : Int32) := by
      simp only [Int32.lt_iff_toInt_lt, Int32.le_iff_toInt_le, ← Int32.toInt_inj] at c_13629 ⊢
      have k_0 : ((-1) : Int32).toInt = -1 := by decide
      omega
    refine q_callVl (rest := [.long (-2)]) (wr := []) X hK hA hw1 (fun sz => kX12_write_564 l D cy y0 a1 a2 ((((a3).toInt64) <<< ((32 : Int32).toInt64 &&& 63)) ||| (((a4).toInt64) &&& 4294967295)) (u_1.1 19) (u_1.1 0) (u_1.1 1) (u_1.1 2) (u_1.1 3) (u_1.1 4) (u_1.1 5) (u_1.1 6) (u_1.1 7) (u_1.1 8) (u_1.1 9) (u_1.1 10) (u_1.1 11) (u_1.1 12) (u_1.1 13) (u_1.1 14) (u_1.1 15) (u_1.1 16) (u_1.1 17) (u_1.1 18) g_13664 sz) wm_8_31 wm_8_34 wm_1_12 hd_X12_write wm_8_32 wm_8_33 (ci := 12) (q0 := 0) rfl rfl ⟨Nat.le_of_ble_eq_true rfl, Nat.le_of_ble_eq_true rfl⟩ hl.1 rfl (Nat.le_of_ble_eq_true rfl) dL_law_1340 ⟨Nat.le_of_ble_eq_true rfl, Nat.le_of_ble_eq_true rfl⟩ [0] [] rfl rfl (by decide) rfl rfl (fun r_13665 u_13665 Hp2 lc2 w_13665 hw2 => ?_)
    clear Hp1 lc1 hw1
    obtain rfl : r_13665 = (-2) := w_13665
    clear w_13665
    replace hw2 : qW D _ _ [] _ _ := hw2
    refine W.lcmp hx hb dL_law_1343 ?_
    refine q_c 0 (by decide +kernel) ?_
    refine lv_if_eq (tgt := 1461) hx hb dL_law_1344 (by decide) (fun _ => ?_) (fun c => absurd c (by decide +kernel))
    exact law_tail l X hr hlk hX hbl hw2.2.2 hl (Nat.le_of_ble_eq_true rfl) (Nat.le_of_ble_eq_true rfl)
  by_cases c_13666 : a1 = 0
  · subst c_13666
    refine lv_aload_n hx hb dL_law_1275 rfl (lv_at hl 2 rfl) ?_
    refine lv_aload_n hx hb dL_law_1276 rfl (lv_at hl 3 rfl) ?_
    refine lv_iload_n hx hb dL_law_1277 rfl (lv_at hl 0 rfl) ?_
    refine lv_iconst (v := 1) hx hb dL_law_1278 (by decide) ?_
    refine lv_iadd hx hb dL_law_1279 ?_
    refine q_c 1 (by decide +kernel) ?_
    refine va_sld X.1 X.2.1 hX hbl hbA hw2.2.2 (q_in (by decide +kernel)) dL_law_1280 ?_
    refine q_c 0 e1 ?_
    refine lv_aload_n hx hb dL_law_1281 rfl (lv_at hl 3 rfl) ?_
    refine lv_iload_n hx hb dL_law_1282 rfl (lv_at hl 0 rfl) ?_
    refine lv_iconst (v := 2) hx hb dL_law_1283 (by decide) ?_
    refine lv_iadd hx hb dL_law_1284 ?_
    refine q_c 2 (by decide +kernel) ?_
    refine va_sld X.1 X.2.1 hX hbl hbA hw2.2.2 (q_in (by decide +kernel)) dL_law_1285 ?_
    refine q_c a2 e2 ?_
    refine lv_aload_n hx hb dL_law_1286 rfl (lv_at hl 3 rfl) ?_
    refine lv_iload_n hx hb dL_law_1287 rfl (lv_at hl 0 rfl) ?_
    refine lv_iconst (v := 3) hx hb dL_law_1288 (by decide) ?_
    refine lv_iadd hx hb dL_law_1289 ?_
    refine q_c 3 (by decide +kernel) ?_
    refine va_sld X.1 X.2.1 hX hbl hbA hw2.2.2 (q_in (by decide +kernel)) dL_law_1290 ?_
    refine q_c a3 e3 ?_
    refine lv_i2l hx hb dL_law_1291 rfl ?_
    refine lv_bipush (v := 32) hx hb dL_law_1292 (by decide) ?_
    refine lv_lshl hx hb dL_law_1294 rfl ?_
    refine lv_aload_n hx hb dL_law_1295 rfl (lv_at hl 3 rfl) ?_
    refine lv_iload_n hx hb dL_law_1296 rfl (lv_at hl 0 rfl) ?_
    refine lv_iconst (v := 4) hx hb dL_law_1297 (by decide) ?_
    refine lv_iadd hx hb dL_law_1298 ?_
    refine q_c 4 (by decide +kernel) ?_
    refine va_sld X.1 X.2.1 hX hbl hbA hw2.2.2 (q_in (by decide +kernel)) dL_law_1299 ?_
    refine q_c a4 e4 ?_
    refine lv_i2l hx hb dL_law_1300 rfl ?_
    refine lv_ldc2 hx hb hown (ht _ wm_8_59) dL_law_1301 ?_
    refine lv_land hx hb dL_law_1304 ?_
    refine lv_lor hx hb dL_law_1305 ?_
    refine q_callVl (rest := []) (wr := [(y0, .inr (12, [.int 0, .ref (u_1.1 19), .ref (u_1.1 0), .ref (u_1.1 1), .ref (u_1.1 2), .int 0, .int 0, .int 0, .int 0, .int 0, .int 0, .int 0, .int 0, .int 0, .int (-1), .int 0, .ref (u_1.1 3), .ref (u_1.1 4), .ref (u_1.1 5), .ref (u_1.1 6), .ref (u_1.1 7), .int 0, .int 0, .ref (u_1.1 8), .ref (u_1.1 9), .ref (u_1.1 10), .int 0, .int 0, .ref (u_1.1 11), .ref (u_1.1 12), .ref (u_1.1 13), .ref (u_1.1 14), .ref (u_1.1 15), .int 0, .ref (u_1.1 16), .ref (u_1.1 17), .ref (u_1.1 18)])), ((u_1.1 16), .inl (cy 1, 4, .inl (upd (upd (upd (upd (fun _ => 0) (Int32.toNatClampNeg 0) (-1)) (Int32.toNatClampNeg 1) (-1)) (Int32.toNatClampNeg 2) (-1)) (Int32.toNatClampNeg 3) (-1))))]) X hK hA hw2 (fun sz => kX11_write_565 l D cy x0 (u_0.1 14) (u_0.1 65) a2 ((((a3).toInt64) <<< ((32 : Int32).toInt64 &&& 63)) ||| (((a4).toInt64) &&& 4294967295)) (u_0.1 0) (u_0.1 1) (u_0.1 37) (u_0.1 39) (u_0.1 41) (u_0.1 43) (u_0.1 15) (u_0.1 16) (u_0.1 17) (u_0.1 20) (u_0.1 24) (u_0.1 29) (u_0.1 71) (u_0.1 69) (u_0.1 67) (u_0.1 66)  sz) wm_5_131 wm_5_134 wm_1_1 hd_X11_write wm_5_132 wm_5_133 (ci := 11) (q0 := 0) rfl rfl ⟨Nat.le_of_ble_eq_true rfl, Nat.le_of_ble_eq_true rfl⟩ hl.1 rfl (Nat.le_of_ble_eq_true rfl) dL_law_1306 ⟨Nat.le_of_ble_eq_true rfl, Nat.le_of_ble_eq_true rfl⟩ [0, 15, 66] [78, 95] rfl rfl (by decide) rfl rfl (fun r_13681 u_13681 Hp3 lc3 w_13681 hw3 => ?_)
    clear Hp2 lc2 hw2
    obtain rfl : r_13681 = (-6) := w_13681
    clear w_13681
    replace hw3 : qW D _ _ [(y0, .inr (12, [.int 0, .ref (u_1.1 19), .ref (u_1.1 0), .ref (u_1.1 1), .ref (u_1.1 2), .int 0, .int 0, .int 0, .int 0, .int 0, .int 0, .int 0, .int 0, .int 0, .int (-1), .int 0, .ref (u_1.1 3), .ref (u_1.1 4), .ref (u_1.1 5), .ref (u_1.1 6), .ref (u_1.1 7), .int 0, .int 0, .ref (u_1.1 8), .ref (u_1.1 9), .ref (u_1.1 10), .int 0, .int 0, .ref (u_1.1 11), .ref (u_1.1 12), .ref (u_1.1 13), .ref (u_1.1 14), .ref (u_1.1 15), .int 0, .ref (u_1.1 16), .ref (u_1.1 17), .ref (u_1.1 18)])), ((u_1.1 16), .inl (cy 1, 4, .inl (upd (upd (upd (upd (fun _ => 0) (Int32.toNatClampNeg 0) (-1)) (Int32.toNatClampNeg 1) (-1)) (Int32.toNatClampNeg 2) (-1)) (Int32.toNatClampNeg 3) (-1))))] _ _ := hw3
    refine lv_aload_n hx hb dL_law_1309 rfl (lv_at hl 1 rfl) ?_
    refine lv_aload_n hx hb dL_law_1310 rfl (lv_at hl 3 rfl) ?_
    refine lv_iload_n hx hb dL_law_1311 rfl (lv_at hl 0 rfl) ?_
    refine lv_iconst (v := 1) hx hb dL_law_1312 (by decide) ?_
    refine lv_iadd hx hb dL_law_1313 ?_
    refine q_c 1 (by decide +kernel) ?_
    refine va_sld X.1 X.2.1 hX hbl hbA hw3.2.2 (q_in (by decide +kernel)) dL_law_1314 ?_
    refine q_c 0 e1 ?_
    refine lv_aload_n hx hb dL_law_1315 rfl (lv_at hl 3 rfl) ?_
    refine lv_iload_n hx hb dL_law_1316 rfl (lv_at hl 0 rfl) ?_
    refine lv_iconst (v := 2) hx hb dL_law_1317 (by decide) ?_
    refine lv_iadd hx hb dL_law_1318 ?_
    refine q_c 2 (by decide +kernel) ?_
    refine va_sld X.1 X.2.1 hX hbl hbA hw3.2.2 (q_in (by decide +kernel)) dL_law_1319 ?_
    refine q_c a2 e2 ?_
    refine lv_aload_n hx hb dL_law_1320 rfl (lv_at hl 3 rfl) ?_
    refine lv_iload_n hx hb dL_law_1321 rfl (lv_at hl 0 rfl) ?_
    refine lv_iconst (v := 3) hx hb dL_law_1322 (by decide) ?_
    refine lv_iadd hx hb dL_law_1323 ?_
    refine q_c 3 (by decide +kernel) ?_
    refine va_sld X.1 X.2.1 hX hbl hbA hw3.2.2 (q_in (by decide +kernel)) dL_law_1324 ?_
    refine q_c a3 e3 ?_
    refine lv_i2l hx hb dL_law_1325 rfl ?_
    refine lv_bipush (v := 32) hx hb dL_law_1326 (by decide) ?_
    refine lv_lshl hx hb dL_law_1328 rfl ?_
    refine lv_aload_n hx hb dL_law_1329 rfl (lv_at hl 3 rfl) ?_
    refine lv_iload_n hx hb dL_law_1330 rfl (lv_at hl 0 rfl) ?_
    refine lv_iconst (v := 4) hx hb dL_law_1331 (by decide) ?_
    refine lv_iadd hx hb dL_law_1332 ?_
    refine q_c 4 (by decide +kernel) ?_
    refine va_sld X.1 X.2.1 hX hbl hbA hw3.2.2 (q_in (by decide +kernel)) dL_law_1333 ?_
    refine q_c a4 e4 ?_
    refine lv_i2l hx hb dL_law_1334 rfl ?_
    refine lv_ldc2 hx hb hown (ht _ wm_8_59) dL_law_1335 ?_
    refine lv_land hx hb dL_law_1338 ?_
    refine lv_lor hx hb dL_law_1339 ?_
    refine q_callVl (rest := [.long (-6)]) (wr := []) X hK hA hw3 (fun sz => kX12_write_566 l D cy y0 (u_1.1 16) a2 ((((a3).toInt64) <<< ((32 : Int32).toInt64 &&& 63)) ||| (((a4).toInt64) &&& 4294967295)) (u_1.1 19) (u_1.1 0) (u_1.1 1) (u_1.1 2) (u_1.1 3) (u_1.1 4) (u_1.1 5) (u_1.1 6) (u_1.1 7) (u_1.1 8) (u_1.1 9) (u_1.1 10) (u_1.1 11) (u_1.1 12) (u_1.1 13) (u_1.1 14) (u_1.1 15) (u_1.1 17) (u_1.1 18) (upd (upd (upd (upd (fun _ => 0) (Int32.toNatClampNeg 0) (-1)) (Int32.toNatClampNeg 1) (-1)) (Int32.toNatClampNeg 2) (-1)) (Int32.toNatClampNeg 3) (-1)) (q_un (by decide +kernel) (q_un (by decide +kernel) (q_un (by decide +kernel) q_ue))) sz) wm_8_31 wm_8_34 wm_1_12 hd_X12_write wm_8_32 wm_8_33 (ci := 12) (q0 := 0) rfl rfl ⟨Nat.le_of_ble_eq_true rfl, Nat.le_of_ble_eq_true rfl⟩ hl.1 rfl (Nat.le_of_ble_eq_true rfl) dL_law_1340 ⟨Nat.le_of_ble_eq_true rfl, Nat.le_of_ble_eq_true rfl⟩ [0, 1] [] rfl rfl (by decide) rfl rfl (fun r_13684 u_13684 Hp4 lc4 w_13684 hw4 => ?_)
    clear Hp3 lc3 hw3
    obtain rfl : r_13684 = (-6) := w_13684
    clear w_13684
    replace hw4 : qW D _ _ [] _ _ := hw4
    refine W.lcmp hx hb dL_law_1343 ?_
    refine q_c 0 (by decide +kernel) ?_
    refine lv_if_eq (tgt := 1461) hx hb dL_law_1344 (by decide) (fun _ => ?_) (fun c => absurd c (by decide +kernel))
    exact law_tail l X hr hlk hX hbl hw4.2.2 hl (Nat.le_of_ble_eq_true rfl) (Nat.le_of_ble_eq_true rfl)
  by_cases c_13685 : a1 = 1
  · subst c_13685
    refine lv_aload_n hx hb dL_law_1275 rfl (lv_at hl 2 rfl) ?_
    refine lv_aload_n hx hb dL_law_1276 rfl (lv_at hl 3 rfl) ?_
    refine lv_iload_n hx hb dL_law_1277 rfl (lv_at hl 0 rfl) ?_
    refine lv_iconst (v := 1) hx hb dL_law_1278 (by decide) ?_
    refine lv_iadd hx hb dL_law_1279 ?_
    refine q_c 1 (by decide +kernel) ?_
    refine va_sld X.1 X.2.1 hX hbl hbA hw4.2.2 (q_in (by decide +kernel)) dL_law_1280 ?_
    refine q_c 1 e1 ?_
    refine lv_aload_n hx hb dL_law_1281 rfl (lv_at hl 3 rfl) ?_
    refine lv_iload_n hx hb dL_law_1282 rfl (lv_at hl 0 rfl) ?_
    refine lv_iconst (v := 2) hx hb dL_law_1283 (by decide) ?_
    refine lv_iadd hx hb dL_law_1284 ?_
    refine q_c 2 (by decide +kernel) ?_
    refine va_sld X.1 X.2.1 hX hbl hbA hw4.2.2 (q_in (by decide +kernel)) dL_law_1285 ?_
    refine q_c a2 e2 ?_
    refine lv_aload_n hx hb dL_law_1286 rfl (lv_at hl 3 rfl) ?_
    refine lv_iload_n hx hb dL_law_1287 rfl (lv_at hl 0 rfl) ?_
    refine lv_iconst (v := 3) hx hb dL_law_1288 (by decide) ?_
    refine lv_iadd hx hb dL_law_1289 ?_
    refine q_c 3 (by decide +kernel) ?_
    refine va_sld X.1 X.2.1 hX hbl hbA hw4.2.2 (q_in (by decide +kernel)) dL_law_1290 ?_
    refine q_c a3 e3 ?_
    refine lv_i2l hx hb dL_law_1291 rfl ?_
    refine lv_bipush (v := 32) hx hb dL_law_1292 (by decide) ?_
    refine lv_lshl hx hb dL_law_1294 rfl ?_
    refine lv_aload_n hx hb dL_law_1295 rfl (lv_at hl 3 rfl) ?_
    refine lv_iload_n hx hb dL_law_1296 rfl (lv_at hl 0 rfl) ?_
    refine lv_iconst (v := 4) hx hb dL_law_1297 (by decide) ?_
    refine lv_iadd hx hb dL_law_1298 ?_
    refine q_c 4 (by decide +kernel) ?_
    refine va_sld X.1 X.2.1 hX hbl hbA hw4.2.2 (q_in (by decide +kernel)) dL_law_1299 ?_
    refine q_c a4 e4 ?_
    refine lv_i2l hx hb dL_law_1300 rfl ?_
    refine lv_ldc2 hx hb hown (ht _ wm_8_59) dL_law_1301 ?_
    refine lv_land hx hb dL_law_1304 ?_
    refine lv_lor hx hb dL_law_1305 ?_
    refine q_callVl (rest := []) (wr := [(y0, .inr (12, [.int 0, .ref (u_1.1 19), .ref (u_1.1 0), .ref (u_1.1 1), .ref (u_1.1 2), .int 0, .int 0, .int 0, .int 0, .int 0, .int 0, .int 0, .int 0, .int 0, .int (-1), .int 0, .ref (u_1.1 3), .ref (u_1.1 4), .ref (u_1.1 5), .ref (u_1.1 6), .ref (u_1.1 7), .int 0, .int 0, .ref (u_1.1 8), .ref (u_1.1 9), .ref (u_1.1 10), .int 0, .int 0, .ref (u_1.1 11), .ref (u_1.1 12), .ref (u_1.1 13), .ref (u_1.1 14), .ref (u_1.1 15), .int 0, .ref (u_1.1 16), .ref (u_1.1 17), .ref (u_1.1 18)])), ((u_1.1 16), .inl (cy 1, 4, .inl (upd (upd (upd (upd (fun _ => 0) (Int32.toNatClampNeg 0) (-1)) (Int32.toNatClampNeg 1) (-1)) (Int32.toNatClampNeg 2) (-1)) (Int32.toNatClampNeg 3) (-1))))]) X hK hA hw4 (fun sz => kX11_write_567 l D cy x0 (u_0.1 14) (u_0.1 67) a2 ((((a3).toInt64) <<< ((32 : Int32).toInt64 &&& 63)) ||| (((a4).toInt64) &&& 4294967295)) (u_0.1 0) (u_0.1 1) (u_0.1 37) (u_0.1 39) (u_0.1 41) (u_0.1 43) (u_0.1 15) (u_0.1 16) (u_0.1 17) (u_0.1 20) (u_0.1 24) (u_0.1 29) (u_0.1 71) (u_0.1 69) (u_0.1 65) (u_0.1 68)  sz) wm_5_131 wm_5_134 wm_1_1 hd_X11_write wm_5_132 wm_5_133 (ci := 11) (q0 := 0) rfl rfl ⟨Nat.le_of_ble_eq_true rfl, Nat.le_of_ble_eq_true rfl⟩ hl.1 rfl (Nat.le_of_ble_eq_true rfl) dL_law_1306 ⟨Nat.le_of_ble_eq_true rfl, Nat.le_of_ble_eq_true rfl⟩ [0, 15, 68] [78, 95] rfl rfl (by decide) rfl rfl (fun r_13700 u_13700 Hp5 lc5 w_13700 hw5 => ?_)
    clear Hp4 lc4 hw4
    obtain rfl : r_13700 = (-6) := w_13700
    clear w_13700
    replace hw5 : qW D _ _ [(y0, .inr (12, [.int 0, .ref (u_1.1 19), .ref (u_1.1 0), .ref (u_1.1 1), .ref (u_1.1 2), .int 0, .int 0, .int 0, .int 0, .int 0, .int 0, .int 0, .int 0, .int 0, .int (-1), .int 0, .ref (u_1.1 3), .ref (u_1.1 4), .ref (u_1.1 5), .ref (u_1.1 6), .ref (u_1.1 7), .int 0, .int 0, .ref (u_1.1 8), .ref (u_1.1 9), .ref (u_1.1 10), .int 0, .int 0, .ref (u_1.1 11), .ref (u_1.1 12), .ref (u_1.1 13), .ref (u_1.1 14), .ref (u_1.1 15), .int 0, .ref (u_1.1 16), .ref (u_1.1 17), .ref (u_1.1 18)])), ((u_1.1 16), .inl (cy 1, 4, .inl (upd (upd (upd (upd (fun _ => 0) (Int32.toNatClampNeg 0) (-1)) (Int32.toNatClampNeg 1) (-1)) (Int32.toNatClampNeg 2) (-1)) (Int32.toNatClampNeg 3) (-1))))] _ _ := hw5
    refine lv_aload_n hx hb dL_law_1309 rfl (lv_at hl 1 rfl) ?_
    refine lv_aload_n hx hb dL_law_1310 rfl (lv_at hl 3 rfl) ?_
    refine lv_iload_n hx hb dL_law_1311 rfl (lv_at hl 0 rfl) ?_
    refine lv_iconst (v := 1) hx hb dL_law_1312 (by decide) ?_
    refine lv_iadd hx hb dL_law_1313 ?_
    refine q_c 1 (by decide +kernel) ?_
    refine va_sld X.1 X.2.1 hX hbl hbA hw5.2.2 (q_in (by decide +kernel)) dL_law_1314 ?_
    refine q_c 1 e1 ?_
    refine lv_aload_n hx hb dL_law_1315 rfl (lv_at hl 3 rfl) ?_
    refine lv_iload_n hx hb dL_law_1316 rfl (lv_at hl 0 rfl) ?_
    refine lv_iconst (v := 2) hx hb dL_law_1317 (by decide) ?_
    refine lv_iadd hx hb dL_law_1318 ?_
    refine q_c 2 (by decide +kernel) ?_
    refine va_sld X.1 X.2.1 hX hbl hbA hw5.2.2 (q_in (by decide +kernel)) dL_law_1319 ?_
    refine q_c a2 e2 ?_
    refine lv_aload_n hx hb dL_law_1320 rfl (lv_at hl 3 rfl) ?_
    refine lv_iload_n hx hb dL_law_1321 rfl (lv_at hl 0 rfl) ?_
    refine lv_iconst (v := 3) hx hb dL_law_1322 (by decide) ?_
    refine lv_iadd hx hb dL_law_1323 ?_
    refine q_c 3 (by decide +kernel) ?_
    refine va_sld X.1 X.2.1 hX hbl hbA hw5.2.2 (q_in (by decide +kernel)) dL_law_1324 ?_
    refine q_c a3 e3 ?_
    refine lv_i2l hx hb dL_law_1325 rfl ?_
    refine lv_bipush (v := 32) hx hb dL_law_1326 (by decide) ?_
    refine lv_lshl hx hb dL_law_1328 rfl ?_
    refine lv_aload_n hx hb dL_law_1329 rfl (lv_at hl 3 rfl) ?_
    refine lv_iload_n hx hb dL_law_1330 rfl (lv_at hl 0 rfl) ?_
    refine lv_iconst (v := 4) hx hb dL_law_1331 (by decide) ?_
    refine lv_iadd hx hb dL_law_1332 ?_
    refine q_c 4 (by decide +kernel) ?_
    refine va_sld X.1 X.2.1 hX hbl hbA hw5.2.2 (q_in (by decide +kernel)) dL_law_1333 ?_
    refine q_c a4 e4 ?_
    refine lv_i2l hx hb dL_law_1334 rfl ?_
    refine lv_ldc2 hx hb hown (ht _ wm_8_59) dL_law_1335 ?_
    refine lv_land hx hb dL_law_1338 ?_
    refine lv_lor hx hb dL_law_1339 ?_
    refine q_callVl (rest := [.long (-6)]) (wr := []) X hK hA hw5 (fun sz => kX12_write_568 l D cy y0 (u_1.1 16) a2 ((((a3).toInt64) <<< ((32 : Int32).toInt64 &&& 63)) ||| (((a4).toInt64) &&& 4294967295)) (u_1.1 19) (u_1.1 0) (u_1.1 1) (u_1.1 2) (u_1.1 3) (u_1.1 4) (u_1.1 5) (u_1.1 6) (u_1.1 7) (u_1.1 8) (u_1.1 9) (u_1.1 10) (u_1.1 11) (u_1.1 12) (u_1.1 13) (u_1.1 14) (u_1.1 15) (u_1.1 17) (u_1.1 18) (upd (upd (upd (upd (fun _ => 0) (Int32.toNatClampNeg 0) (-1)) (Int32.toNatClampNeg 1) (-1)) (Int32.toNatClampNeg 2) (-1)) (Int32.toNatClampNeg 3) (-1)) (q_un (by decide +kernel) (q_un (by decide +kernel) q_ue)) sz) wm_8_31 wm_8_34 wm_1_12 hd_X12_write wm_8_32 wm_8_33 (ci := 12) (q0 := 0) rfl rfl ⟨Nat.le_of_ble_eq_true rfl, Nat.le_of_ble_eq_true rfl⟩ hl.1 rfl (Nat.le_of_ble_eq_true rfl) dL_law_1340 ⟨Nat.le_of_ble_eq_true rfl, Nat.le_of_ble_eq_true rfl⟩ [0, 1] [] rfl rfl (by decide) rfl rfl (fun r_13703 u_13703 Hp6 lc6 w_13703 hw6 => ?_)
    clear Hp5 lc5 hw5
    obtain rfl : r_13703 = (-6) := w_13703
    clear w_13703
    replace hw6 : qW D _ _ [] _ _ := hw6
    refine W.lcmp hx hb dL_law_1343 ?_
    refine q_c 0 (by decide +kernel) ?_
    refine lv_if_eq (tgt := 1461) hx hb dL_law_1344 (by decide) (fun _ => ?_) (fun c => absurd c (by decide +kernel))
    exact law_tail l X hr hlk hX hbl hw6.2.2 hl (Nat.le_of_ble_eq_true rfl) (Nat.le_of_ble_eq_true rfl)
  by_cases c_13704 : a1 = 2
  · subst c_13704
    refine lv_aload_n hx hb dL_law_1275 rfl (lv_at hl 2 rfl) ?_
    refine lv_aload_n hx hb dL_law_1276 rfl (lv_at hl 3 rfl) ?_
    refine lv_iload_n hx hb dL_law_1277 rfl (lv_at hl 0 rfl) ?_
    refine lv_iconst (v := 1) hx hb dL_law_1278 (by decide) ?_
    refine lv_iadd hx hb dL_law_1279 ?_
    refine q_c 1 (by decide +kernel) ?_
    refine va_sld X.1 X.2.1 hX hbl hbA hw6.2.2 (q_in (by decide +kernel)) dL_law_1280 ?_
    refine q_c 2 e1 ?_
    refine lv_aload_n hx hb dL_law_1281 rfl (lv_at hl 3 rfl) ?_
    refine lv_iload_n hx hb dL_law_1282 rfl (lv_at hl 0 rfl) ?_
    refine lv_iconst (v := 2) hx hb dL_law_1283 (by decide) ?_
    refine lv_iadd hx hb dL_law_1284 ?_
    refine q_c 2 (by decide +kernel) ?_
    refine va_sld X.1 X.2.1 hX hbl hbA hw6.2.2 (q_in (by decide +kernel)) dL_law_1285 ?_
    refine q_c a2 e2 ?_
    refine lv_aload_n hx hb dL_law_1286 rfl (lv_at hl 3 rfl) ?_
    refine lv_iload_n hx hb dL_law_1287 rfl (lv_at hl 0 rfl) ?_
    refine lv_iconst (v := 3) hx hb dL_law_1288 (by decide) ?_
    refine lv_iadd hx hb dL_law_1289 ?_
    refine q_c 3 (by decide +kernel) ?_
    refine va_sld X.1 X.2.1 hX hbl hbA hw6.2.2 (q_in (by decide +kernel)) dL_law_1290 ?_
    refine q_c a3 e3 ?_
    refine lv_i2l hx hb dL_law_1291 rfl ?_
    refine lv_bipush (v := 32) hx hb dL_law_1292 (by decide) ?_
    refine lv_lshl hx hb dL_law_1294 rfl ?_
    refine lv_aload_n hx hb dL_law_1295 rfl (lv_at hl 3 rfl) ?_
    refine lv_iload_n hx hb dL_law_1296 rfl (lv_at hl 0 rfl) ?_
    refine lv_iconst (v := 4) hx hb dL_law_1297 (by decide) ?_
    refine lv_iadd hx hb dL_law_1298 ?_
    refine q_c 4 (by decide +kernel) ?_
    refine va_sld X.1 X.2.1 hX hbl hbA hw6.2.2 (q_in (by decide +kernel)) dL_law_1299 ?_
    refine q_c a4 e4 ?_
    refine lv_i2l hx hb dL_law_1300 rfl ?_
    refine lv_ldc2 hx hb hown (ht _ wm_8_59) dL_law_1301 ?_
    refine lv_land hx hb dL_law_1304 ?_
    refine lv_lor hx hb dL_law_1305 ?_
    refine q_callVl (rest := []) (wr := [(y0, .inr (12, [.int 0, .ref (u_1.1 19), .ref (u_1.1 0), .ref (u_1.1 1), .ref (u_1.1 2), .int 0, .int 0, .int 0, .int 0, .int 0, .int 0, .int 0, .int 0, .int 0, .int (-1), .int 0, .ref (u_1.1 3), .ref (u_1.1 4), .ref (u_1.1 5), .ref (u_1.1 6), .ref (u_1.1 7), .int 0, .int 0, .ref (u_1.1 8), .ref (u_1.1 9), .ref (u_1.1 10), .int 0, .int 0, .ref (u_1.1 11), .ref (u_1.1 12), .ref (u_1.1 13), .ref (u_1.1 14), .ref (u_1.1 15), .int 0, .ref (u_1.1 16), .ref (u_1.1 17), .ref (u_1.1 18)])), ((u_1.1 16), .inl (cy 1, 4, .inl (upd (upd (upd (upd (fun _ => 0) (Int32.toNatClampNeg 0) (-1)) (Int32.toNatClampNeg 1) (-1)) (Int32.toNatClampNeg 2) (-1)) (Int32.toNatClampNeg 3) (-1))))]) X hK hA hw6 (fun sz => kX11_write_569 l D cy x0 (u_0.1 14) (u_0.1 69) a2 ((((a3).toInt64) <<< ((32 : Int32).toInt64 &&& 63)) ||| (((a4).toInt64) &&& 4294967295)) (u_0.1 0) (u_0.1 1) (u_0.1 37) (u_0.1 39) (u_0.1 41) (u_0.1 43) (u_0.1 15) (u_0.1 16) (u_0.1 17) (u_0.1 20) (u_0.1 24) (u_0.1 29) (u_0.1 71) (u_0.1 67) (u_0.1 65) (u_0.1 70)  sz) wm_5_131 wm_5_134 wm_1_1 hd_X11_write wm_5_132 wm_5_133 (ci := 11) (q0 := 0) rfl rfl ⟨Nat.le_of_ble_eq_true rfl, Nat.le_of_ble_eq_true rfl⟩ hl.1 rfl (Nat.le_of_ble_eq_true rfl) dL_law_1306 ⟨Nat.le_of_ble_eq_true rfl, Nat.le_of_ble_eq_true rfl⟩ [0, 15, 70] [78, 95] rfl rfl (by decide) rfl rfl (fun r_13719 u_13719 Hp7 lc7 w_13719 hw7 => ?_)
    clear Hp6 lc6 hw6
    obtain rfl : r_13719 = (-6) := w_13719
    clear w_13719
    replace hw7 : qW D _ _ [(y0, .inr (12, [.int 0, .ref (u_1.1 19), .ref (u_1.1 0), .ref (u_1.1 1), .ref (u_1.1 2), .int 0, .int 0, .int 0, .int 0, .int 0, .int 0, .int 0, .int 0, .int 0, .int (-1), .int 0, .ref (u_1.1 3), .ref (u_1.1 4), .ref (u_1.1 5), .ref (u_1.1 6), .ref (u_1.1 7), .int 0, .int 0, .ref (u_1.1 8), .ref (u_1.1 9), .ref (u_1.1 10), .int 0, .int 0, .ref (u_1.1 11), .ref (u_1.1 12), .ref (u_1.1 13), .ref (u_1.1 14), .ref (u_1.1 15), .int 0, .ref (u_1.1 16), .ref (u_1.1 17), .ref (u_1.1 18)])), ((u_1.1 16), .inl (cy 1, 4, .inl (upd (upd (upd (upd (fun _ => 0) (Int32.toNatClampNeg 0) (-1)) (Int32.toNatClampNeg 1) (-1)) (Int32.toNatClampNeg 2) (-1)) (Int32.toNatClampNeg 3) (-1))))] _ _ := hw7
    refine lv_aload_n hx hb dL_law_1309 rfl (lv_at hl 1 rfl) ?_
    refine lv_aload_n hx hb dL_law_1310 rfl (lv_at hl 3 rfl) ?_
    refine lv_iload_n hx hb dL_law_1311 rfl (lv_at hl 0 rfl) ?_
    refine lv_iconst (v := 1) hx hb dL_law_1312 (by decide) ?_
    refine lv_iadd hx hb dL_law_1313 ?_
    refine q_c 1 (by decide +kernel) ?_
    refine va_sld X.1 X.2.1 hX hbl hbA hw7.2.2 (q_in (by decide +kernel)) dL_law_1314 ?_
    refine q_c 2 e1 ?_
    refine lv_aload_n hx hb dL_law_1315 rfl (lv_at hl 3 rfl) ?_
    refine lv_iload_n hx hb dL_law_1316 rfl (lv_at hl 0 rfl) ?_
    refine lv_iconst (v := 2) hx hb dL_law_1317 (by decide) ?_
    refine lv_iadd hx hb dL_law_1318 ?_
    refine q_c 2 (by decide +kernel) ?_
    refine va_sld X.1 X.2.1 hX hbl hbA hw7.2.2 (q_in (by decide +kernel)) dL_law_1319 ?_
    refine q_c a2 e2 ?_
    refine lv_aload_n hx hb dL_law_1320 rfl (lv_at hl 3 rfl) ?_
    refine lv_iload_n hx hb dL_law_1321 rfl (lv_at hl 0 rfl) ?_
    refine lv_iconst (v := 3) hx hb dL_law_1322 (by decide) ?_
    refine lv_iadd hx hb dL_law_1323 ?_
    refine q_c 3 (by decide +kernel) ?_
    refine va_sld X.1 X.2.1 hX hbl hbA hw7.2.2 (q_in (by decide +kernel)) dL_law_1324 ?_
    refine q_c a3 e3 ?_
    refine lv_i2l hx hb dL_law_1325 rfl ?_
    refine lv_bipush (v := 32) hx hb dL_law_1326 (by decide) ?_
    refine lv_lshl hx hb dL_law_1328 rfl ?_
    refine lv_aload_n hx hb dL_law_1329 rfl (lv_at hl 3 rfl) ?_
    refine lv_iload_n hx hb dL_law_1330 rfl (lv_at hl 0 rfl) ?_
    refine lv_iconst (v := 4) hx hb dL_law_1331 (by decide) ?_
    refine lv_iadd hx hb dL_law_1332 ?_
    refine q_c 4 (by decide +kernel) ?_
    refine va_sld X.1 X.2.1 hX hbl hbA hw7.2.2 (q_in (by decide +kernel)) dL_law_1333 ?_
    refine q_c a4 e4 ?_
    refine lv_i2l hx hb dL_law_1334 rfl ?_
    refine lv_ldc2 hx hb hown (ht _ wm_8_59) dL_law_1335 ?_
    refine lv_land hx hb dL_law_1338 ?_
    refine lv_lor hx hb dL_law_1339 ?_
    refine q_callVl (rest := [.long (-6)]) (wr := []) X hK hA hw7 (fun sz => kX12_write_570 l D cy y0 (u_1.1 16) a2 ((((a3).toInt64) <<< ((32 : Int32).toInt64 &&& 63)) ||| (((a4).toInt64) &&& 4294967295)) (u_1.1 19) (u_1.1 0) (u_1.1 1) (u_1.1 2) (u_1.1 3) (u_1.1 4) (u_1.1 5) (u_1.1 6) (u_1.1 7) (u_1.1 8) (u_1.1 9) (u_1.1 10) (u_1.1 11) (u_1.1 12) (u_1.1 13) (u_1.1 14) (u_1.1 15) (u_1.1 17) (u_1.1 18) (upd (upd (upd (upd (fun _ => 0) (Int32.toNatClampNeg 0) (-1)) (Int32.toNatClampNeg 1) (-1)) (Int32.toNatClampNeg 2) (-1)) (Int32.toNatClampNeg 3) (-1)) (q_un (by decide +kernel) q_ue) sz) wm_8_31 wm_8_34 wm_1_12 hd_X12_write wm_8_32 wm_8_33 (ci := 12) (q0 := 0) rfl rfl ⟨Nat.le_of_ble_eq_true rfl, Nat.le_of_ble_eq_true rfl⟩ hl.1 rfl (Nat.le_of_ble_eq_true rfl) dL_law_1340 ⟨Nat.le_of_ble_eq_true rfl, Nat.le_of_ble_eq_true rfl⟩ [0, 1] [] rfl rfl (by decide) rfl rfl (fun r_13722 u_13722 Hp8 lc8 w_13722 hw8 => ?_)
    clear Hp7 lc7 hw7
    obtain rfl : r_13722 = (-6) := w_13722
    clear w_13722
    replace hw8 : qW D _ _ [] _ _ := hw8
    refine W.lcmp hx hb dL_law_1343 ?_
    refine q_c 0 (by decide +kernel) ?_
    refine lv_if_eq (tgt := 1461) hx hb dL_law_1344 (by decide) (fun _ => ?_) (fun c => absurd c (by decide +kernel))
    exact law_tail l X hr hlk hX hbl hw8.2.2 hl (Nat.le_of_ble_eq_true rfl) (Nat.le_of_ble_eq_true rfl)
  by_cases c_13723 : a1 = 3
  · subst c_13723
    refine lv_aload_n hx hb dL_law_1275 rfl (lv_at hl 2 rfl) ?_
    refine lv_aload_n hx hb dL_law_1276 rfl (lv_at hl 3 rfl) ?_
    refine lv_iload_n hx hb dL_law_1277 rfl (lv_at hl 0 rfl) ?_
    refine lv_iconst (v := 1) hx hb dL_law_1278 (by decide) ?_
    refine lv_iadd hx hb dL_law_1279 ?_
    refine q_c 1 (by decide +kernel) ?_
    refine va_sld X.1 X.2.1 hX hbl hbA hw8.2.2 (q_in (by decide +kernel)) dL_law_1280 ?_
    refine q_c 3 e1 ?_
    refine lv_aload_n hx hb dL_law_1281 rfl (lv_at hl 3 rfl) ?_
    refine lv_iload_n hx hb dL_law_1282 rfl (lv_at hl 0 rfl) ?_
    refine lv_iconst (v := 2) hx hb dL_law_1283 (by decide) ?_
    refine lv_iadd hx hb dL_law_1284 ?_
    refine q_c 2 (by decide +kernel) ?_
    refine va_sld X.1 X.2.1 hX hbl hbA hw8.2.2 (q_in (by decide +kernel)) dL_law_1285 ?_
    refine q_c a2 e2 ?_
    refine lv_aload_n hx hb dL_law_1286 rfl (lv_at hl 3 rfl) ?_
    refine lv_iload_n hx hb dL_law_1287 rfl (lv_at hl 0 rfl) ?_
    refine lv_iconst (v := 3) hx hb dL_law_1288 (by decide) ?_
    refine lv_iadd hx hb dL_law_1289 ?_
    refine q_c 3 (by decide +kernel) ?_
    refine va_sld X.1 X.2.1 hX hbl hbA hw8.2.2 (q_in (by decide +kernel)) dL_law_1290 ?_
    refine q_c a3 e3 ?_
    refine lv_i2l hx hb dL_law_1291 rfl ?_
    refine lv_bipush (v := 32) hx hb dL_law_1292 (by decide) ?_
    refine lv_lshl hx hb dL_law_1294 rfl ?_
    refine lv_aload_n hx hb dL_law_1295 rfl (lv_at hl 3 rfl) ?_
    refine lv_iload_n hx hb dL_law_1296 rfl (lv_at hl 0 rfl) ?_
    refine lv_iconst (v := 4) hx hb dL_law_1297 (by decide) ?_
    refine lv_iadd hx hb dL_law_1298 ?_
    refine q_c 4 (by decide +kernel) ?_
    refine va_sld X.1 X.2.1 hX hbl hbA hw8.2.2 (q_in (by decide +kernel)) dL_law_1299 ?_
    refine q_c a4 e4 ?_
    refine lv_i2l hx hb dL_law_1300 rfl ?_
    refine lv_ldc2 hx hb hown (ht _ wm_8_59) dL_law_1301 ?_
    refine lv_land hx hb dL_law_1304 ?_
    refine lv_lor hx hb dL_law_1305 ?_
    refine q_callVl (rest := []) (wr := [(y0, .inr (12, [.int 0, .ref (u_1.1 19), .ref (u_1.1 0), .ref (u_1.1 1), .ref (u_1.1 2), .int 0, .int 0, .int 0, .int 0, .int 0, .int 0, .int 0, .int 0, .int 0, .int (-1), .int 0, .ref (u_1.1 3), .ref (u_1.1 4), .ref (u_1.1 5), .ref (u_1.1 6), .ref (u_1.1 7), .int 0, .int 0, .ref (u_1.1 8), .ref (u_1.1 9), .ref (u_1.1 10), .int 0, .int 0, .ref (u_1.1 11), .ref (u_1.1 12), .ref (u_1.1 13), .ref (u_1.1 14), .ref (u_1.1 15), .int 0, .ref (u_1.1 16), .ref (u_1.1 17), .ref (u_1.1 18)])), ((u_1.1 16), .inl (cy 1, 4, .inl (upd (upd (upd (upd (fun _ => 0) (Int32.toNatClampNeg 0) (-1)) (Int32.toNatClampNeg 1) (-1)) (Int32.toNatClampNeg 2) (-1)) (Int32.toNatClampNeg 3) (-1))))]) X hK hA hw8 (fun sz => kX11_write_571 l D cy x0 (u_0.1 14) (u_0.1 71) a2 ((((a3).toInt64) <<< ((32 : Int32).toInt64 &&& 63)) ||| (((a4).toInt64) &&& 4294967295)) (u_0.1 0) (u_0.1 1) (u_0.1 37) (u_0.1 39) (u_0.1 41) (u_0.1 43) (u_0.1 15) (u_0.1 16) (u_0.1 17) (u_0.1 20) (u_0.1 24) (u_0.1 29) (u_0.1 69) (u_0.1 67) (u_0.1 65) (u_0.1 72)  sz) wm_5_131 wm_5_134 wm_1_1 hd_X11_write wm_5_132 wm_5_133 (ci := 11) (q0 := 0) rfl rfl ⟨Nat.le_of_ble_eq_true rfl, Nat.le_of_ble_eq_true rfl⟩ hl.1 rfl (Nat.le_of_ble_eq_true rfl) dL_law_1306 ⟨Nat.le_of_ble_eq_true rfl, Nat.le_of_ble_eq_true rfl⟩ [0, 15, 72] [78, 95] rfl rfl (by decide) rfl rfl (fun r_13738 u_13738 Hp9 lc9 w_13738 hw9 => ?_)
    clear Hp8 lc8 hw8
    obtain rfl : r_13738 = (-6) := w_13738
    clear w_13738
    replace hw9 : qW D _ _ [(y0, .inr (12, [.int 0, .ref (u_1.1 19), .ref (u_1.1 0), .ref (u_1.1 1), .ref (u_1.1 2), .int 0, .int 0, .int 0, .int 0, .int 0, .int 0, .int 0, .int 0, .int 0, .int (-1), .int 0, .ref (u_1.1 3), .ref (u_1.1 4), .ref (u_1.1 5), .ref (u_1.1 6), .ref (u_1.1 7), .int 0, .int 0, .ref (u_1.1 8), .ref (u_1.1 9), .ref (u_1.1 10), .int 0, .int 0, .ref (u_1.1 11), .ref (u_1.1 12), .ref (u_1.1 13), .ref (u_1.1 14), .ref (u_1.1 15), .int 0, .ref (u_1.1 16), .ref (u_1.1 17), .ref (u_1.1 18)])), ((u_1.1 16), .inl (cy 1, 4, .inl (upd (upd (upd (upd (fun _ => 0) (Int32.toNatClampNeg 0) (-1)) (Int32.toNatClampNeg 1) (-1)) (Int32.toNatClampNeg 2) (-1)) (Int32.toNatClampNeg 3) (-1))))] _ _ := hw9
    refine lv_aload_n hx hb dL_law_1309 rfl (lv_at hl 1 rfl) ?_
    refine lv_aload_n hx hb dL_law_1310 rfl (lv_at hl 3 rfl) ?_
    refine lv_iload_n hx hb dL_law_1311 rfl (lv_at hl 0 rfl) ?_
    refine lv_iconst (v := 1) hx hb dL_law_1312 (by decide) ?_
    refine lv_iadd hx hb dL_law_1313 ?_
    refine q_c 1 (by decide +kernel) ?_
    refine va_sld X.1 X.2.1 hX hbl hbA hw9.2.2 (q_in (by decide +kernel)) dL_law_1314 ?_
    refine q_c 3 e1 ?_
    refine lv_aload_n hx hb dL_law_1315 rfl (lv_at hl 3 rfl) ?_
    refine lv_iload_n hx hb dL_law_1316 rfl (lv_at hl 0 rfl) ?_
    refine lv_iconst (v := 2) hx hb dL_law_1317 (by decide) ?_
    refine lv_iadd hx hb dL_law_1318 ?_
    refine q_c 2 (by decide +kernel) ?_
    refine va_sld X.1 X.2.1 hX hbl hbA hw9.2.2 (q_in (by decide +kernel)) dL_law_1319 ?_
    refine q_c a2 e2 ?_
    refine lv_aload_n hx hb dL_law_1320 rfl (lv_at hl 3 rfl) ?_
    refine lv_iload_n hx hb dL_law_1321 rfl (lv_at hl 0 rfl) ?_
    refine lv_iconst (v := 3) hx hb dL_law_1322 (by decide) ?_
    refine lv_iadd hx hb dL_law_1323 ?_
    refine q_c 3 (by decide +kernel) ?_
    refine va_sld X.1 X.2.1 hX hbl hbA hw9.2.2 (q_in (by decide +kernel)) dL_law_1324 ?_
    refine q_c a3 e3 ?_
    refine lv_i2l hx hb dL_law_1325 rfl ?_
    refine lv_bipush (v := 32) hx hb dL_law_1326 (by decide) ?_
    refine lv_lshl hx hb dL_law_1328 rfl ?_
    refine lv_aload_n hx hb dL_law_1329 rfl (lv_at hl 3 rfl) ?_
    refine lv_iload_n hx hb dL_law_1330 rfl (lv_at hl 0 rfl) ?_
    refine lv_iconst (v := 4) hx hb dL_law_1331 (by decide) ?_
    refine lv_iadd hx hb dL_law_1332 ?_
    refine q_c 4 (by decide +kernel) ?_
    refine va_sld X.1 X.2.1 hX hbl hbA hw9.2.2 (q_in (by decide +kernel)) dL_law_1333 ?_
    refine q_c a4 e4 ?_
    refine lv_i2l hx hb dL_law_1334 rfl ?_
    refine lv_ldc2 hx hb hown (ht _ wm_8_59) dL_law_1335 ?_
    refine lv_land hx hb dL_law_1338 ?_
    refine lv_lor hx hb dL_law_1339 ?_
    refine q_callVl (rest := [.long (-6)]) (wr := []) X hK hA hw9 (fun sz => kX12_write_572 l D cy y0 (u_1.1 16) a2 ((((a3).toInt64) <<< ((32 : Int32).toInt64 &&& 63)) ||| (((a4).toInt64) &&& 4294967295)) (u_1.1 19) (u_1.1 0) (u_1.1 1) (u_1.1 2) (u_1.1 3) (u_1.1 4) (u_1.1 5) (u_1.1 6) (u_1.1 7) (u_1.1 8) (u_1.1 9) (u_1.1 10) (u_1.1 11) (u_1.1 12) (u_1.1 13) (u_1.1 14) (u_1.1 15) (u_1.1 17) (u_1.1 18) (upd (upd (upd (upd (fun _ => 0) (Int32.toNatClampNeg 0) (-1)) (Int32.toNatClampNeg 1) (-1)) (Int32.toNatClampNeg 2) (-1)) (Int32.toNatClampNeg 3) (-1)) q_ue sz) wm_8_31 wm_8_34 wm_1_12 hd_X12_write wm_8_32 wm_8_33 (ci := 12) (q0 := 0) rfl rfl ⟨Nat.le_of_ble_eq_true rfl, Nat.le_of_ble_eq_true rfl⟩ hl.1 rfl (Nat.le_of_ble_eq_true rfl) dL_law_1340 ⟨Nat.le_of_ble_eq_true rfl, Nat.le_of_ble_eq_true rfl⟩ [0, 1] [] rfl rfl (by decide) rfl rfl (fun r_13741 u_13741 Hp10 lc10 w_13741 hw10 => ?_)
    clear Hp9 lc9 hw9
    obtain rfl : r_13741 = (-6) := w_13741
    clear w_13741
    replace hw10 : qW D _ _ [] _ _ := hw10
    refine W.lcmp hx hb dL_law_1343 ?_
    refine q_c 0 (by decide +kernel) ?_
    refine lv_if_eq (tgt := 1461) hx hb dL_law_1344 (by decide) (fun _ => ?_) (fun c => absurd c (by decide +kernel))
    exact law_tail l X hr hlk hX hbl hw10.2.2 hl (Nat.le_of_ble_eq_true rfl) (Nat.le_of_ble_eq_true rfl)
  refine lv_aload_n hx hb dL_law_1275 rfl (lv_at hl 2 rfl) ?_
  refine lv_aload_n hx hb dL_law_1276 rfl (lv_at hl 3 rfl) ?_
  refine lv_iload_n hx hb dL_law_1277 rfl (lv_at hl 0 rfl) ?_
  refine lv_iconst (v := 1) hx hb dL_law_1278 (by decide) ?_
  refine lv_iadd hx hb dL_law_1279 ?_
  refine q_c 1 (by decide +kernel) ?_
  refine va_sld X.1 X.2.1 hX hbl hbA hw10.2.2 (q_in (by decide +kernel)) dL_law_1280 ?_
  refine q_c a1 e1 ?_
  refine lv_aload_n hx hb dL_law_1281 rfl (lv_at hl 3 rfl) ?_
  refine lv_iload_n hx hb dL_law_1282 rfl (lv_at hl 0 rfl) ?_
  refine lv_iconst (v := 2) hx hb dL_law_1283 (by decide) ?_
  refine lv_iadd hx hb dL_law_1284 ?_
  refine q_c 2 (by decide +kernel) ?_
  refine va_sld X.1 X.2.1 hX hbl hbA hw10.2.2 (q_in (by decide +kernel)) dL_law_1285 ?_
  refine q_c a2 e2 ?_
  refine lv_aload_n hx hb dL_law_1286 rfl (lv_at hl 3 rfl) ?_
  refine lv_iload_n hx hb dL_law_1287 rfl (lv_at hl 0 rfl) ?_
  refine lv_iconst (v := 3) hx hb dL_law_1288 (by decide) ?_
  refine lv_iadd hx hb dL_law_1289 ?_
  refine q_c 3 (by decide +kernel) ?_
  refine va_sld X.1 X.2.1 hX hbl hbA hw10.2.2 (q_in (by decide +kernel)) dL_law_1290 ?_
  refine q_c a3 e3 ?_
  refine lv_i2l hx hb dL_law_1291 rfl ?_
  refine lv_bipush (v := 32) hx hb dL_law_1292 (by decide) ?_
  refine lv_lshl hx hb dL_law_1294 rfl ?_
  refine lv_aload_n hx hb dL_law_1295 rfl (lv_at hl 3 rfl) ?_
  refine lv_iload_n hx hb dL_law_1296 rfl (lv_at hl 0 rfl) ?_
  refine lv_iconst (v := 4) hx hb dL_law_1297 (by decide) ?_
  refine lv_iadd hx hb dL_law_1298 ?_
  refine q_c 4 (by decide +kernel) ?_
  refine va_sld X.1 X.2.1 hX hbl hbA hw10.2.2 (q_in (by decide +kernel)) dL_law_1299 ?_
  refine q_c a4 e4 ?_
  refine lv_i2l hx hb dL_law_1300 rfl ?_
  refine lv_ldc2 hx hb hown (ht _ wm_8_59) dL_law_1301 ?_
  refine lv_land hx hb dL_law_1304 ?_
  refine lv_lor hx hb dL_law_1305 ?_
  have g_13777 : (4 : Int32) ≤ a1 := by
    simp only [Int32.lt_iff_toInt_lt, Int32.le_iff_toInt_le, ← Int32.toInt_inj] at c_13629 c_13666 c_13685 c_13704 c_13723 ⊢
    have k_0 : ((-1) : Int32).toInt = -1 := by decide
    have k_1 : (0 : Int32).toInt = 0 := by decide
    have k_2 : (1 : Int32).toInt = 1 := by decide
    have k_3 : (2 : Int32).toInt = 2 := by decide
    have k_4 : (3 : Int32).toInt = 3 := by decide
    have k_g : (4 : Int32).toInt = 4 := by decide
    omega
  refine q_callVl (rest := []) (wr := [(y0, .inr (12, [.int 0, .ref (u_1.1 19), .ref (u_1.1 0), .ref (u_1.1 1), .ref (u_1.1 2), .int 0, .int 0, .int 0, .int 0, .int 0, .int 0, .int 0, .int 0, .int 0, .int (-1), .int 0, .ref (u_1.1 3), .ref (u_1.1 4), .ref (u_1.1 5), .ref (u_1.1 6), .ref (u_1.1 7), .int 0, .int 0, .ref (u_1.1 8), .ref (u_1.1 9), .ref (u_1.1 10), .int 0, .int 0, .ref (u_1.1 11), .ref (u_1.1 12), .ref (u_1.1 13), .ref (u_1.1 14), .ref (u_1.1 15), .int 0, .ref (u_1.1 16), .ref (u_1.1 17), .ref (u_1.1 18)]))]) X hK hA hw10 (fun sz => kX11_write_573 l D cy x0 a1 a2 ((((a3).toInt64) <<< ((32 : Int32).toInt64 &&& 63)) ||| (((a4).toInt64) &&& 4294967295)) (u_0.1 0) (u_0.1 1) (u_0.1 37) (u_0.1 39) (u_0.1 41) (u_0.1 43) (u_0.1 14) (u_0.1 15) (u_0.1 16) (u_0.1 17) (u_0.1 20) (u_0.1 24) (u_0.1 29) g_13777 sz) wm_5_131 wm_5_134 wm_1_1 hd_X11_write wm_5_132 wm_5_133 (ci := 11) (q0 := 0) rfl rfl ⟨Nat.le_of_ble_eq_true rfl, Nat.le_of_ble_eq_true rfl⟩ hl.1 rfl (Nat.le_of_ble_eq_true rfl) dL_law_1306 ⟨Nat.le_of_ble_eq_true rfl, Nat.le_of_ble_eq_true rfl⟩ [0] [78] rfl rfl (by decide) rfl rfl (fun r_13778 u_13778 Hp11 lc11 w_13778 hw11 => ?_)
  clear Hp10 lc10 hw10
  obtain rfl : r_13778 = (-2) := w_13778
  clear w_13778
  replace hw11 : qW D _ _ [(y0, .inr (12, [.int 0, .ref (u_1.1 19), .ref (u_1.1 0), .ref (u_1.1 1), .ref (u_1.1 2), .int 0, .int 0, .int 0, .int 0, .int 0, .int 0, .int 0, .int 0, .int 0, .int (-1), .int 0, .ref (u_1.1 3), .ref (u_1.1 4), .ref (u_1.1 5), .ref (u_1.1 6), .ref (u_1.1 7), .int 0, .int 0, .ref (u_1.1 8), .ref (u_1.1 9), .ref (u_1.1 10), .int 0, .int 0, .ref (u_1.1 11), .ref (u_1.1 12), .ref (u_1.1 13), .ref (u_1.1 14), .ref (u_1.1 15), .int 0, .ref (u_1.1 16), .ref (u_1.1 17), .ref (u_1.1 18)]))] _ _ := hw11
  refine lv_aload_n hx hb dL_law_1309 rfl (lv_at hl 1 rfl) ?_
  refine lv_aload_n hx hb dL_law_1310 rfl (lv_at hl 3 rfl) ?_
  refine lv_iload_n hx hb dL_law_1311 rfl (lv_at hl 0 rfl) ?_
  refine lv_iconst (v := 1) hx hb dL_law_1312 (by decide) ?_
  refine lv_iadd hx hb dL_law_1313 ?_
  refine q_c 1 (by decide +kernel) ?_
  refine va_sld X.1 X.2.1 hX hbl hbA hw11.2.2 (q_in (by decide +kernel)) dL_law_1314 ?_
  refine q_c a1 e1 ?_
  refine lv_aload_n hx hb dL_law_1315 rfl (lv_at hl 3 rfl) ?_
  refine lv_iload_n hx hb dL_law_1316 rfl (lv_at hl 0 rfl) ?_
  refine lv_iconst (v := 2) hx hb dL_law_1317 (by decide) ?_
  refine lv_iadd hx hb dL_law_1318 ?_
  refine q_c 2 (by decide +kernel) ?_
  refine va_sld X.1 X.2.1 hX hbl hbA hw11.2.2 (q_in (by decide +kernel)) dL_law_1319 ?_
  refine q_c a2 e2 ?_
  refine lv_aload_n hx hb dL_law_1320 rfl (lv_at hl 3 rfl) ?_
  refine lv_iload_n hx hb dL_law_1321 rfl (lv_at hl 0 rfl) ?_
  refine lv_iconst (v := 3) hx hb dL_law_1322 (by decide) ?_
  refine lv_iadd hx hb dL_law_1323 ?_
  refine q_c 3 (by decide +kernel) ?_
  refine va_sld X.1 X.2.1 hX hbl hbA hw11.2.2 (q_in (by decide +kernel)) dL_law_1324 ?_
  refine q_c a3 e3 ?_
  refine lv_i2l hx hb dL_law_1325 rfl ?_
  refine lv_bipush (v := 32) hx hb dL_law_1326 (by decide) ?_
  refine lv_lshl hx hb dL_law_1328 rfl ?_
  refine lv_aload_n hx hb dL_law_1329 rfl (lv_at hl 3 rfl) ?_
  refine lv_iload_n hx hb dL_law_1330 rfl (lv_at hl 0 rfl) ?_
  refine lv_iconst (v := 4) hx hb dL_law_1331 (by decide) ?_
  refine lv_iadd hx hb dL_law_1332 ?_
  refine q_c 4 (by decide +kernel) ?_
  refine va_sld X.1 X.2.1 hX hbl hbA hw11.2.2 (q_in (by decide +kernel)) dL_law_1333 ?_
  refine q_c a4 e4 ?_
  refine lv_i2l hx hb dL_law_1334 rfl ?_
  refine lv_ldc2 hx hb hown (ht _ wm_8_59) dL_law_1335 ?_
  refine lv_land hx hb dL_law_1338 ?_
  refine lv_lor hx hb dL_law_1339 ?_
  have g_13785 : (4 : Int32) ≤ a1 := by
    simp only [Int32.lt_iff_toInt_lt, Int32.le_iff_toInt_le, ← Int32.toInt_inj] at c_13629 c_13666 c_13685 c_13704 c_13723 ⊢
    have k_0 : ((-1) : Int32).toInt = -1 := by decide
    have k_1 : (0 : Int32).toInt = 0 := by decide
    have k_2 : (1 : Int32).toInt = 1 := by decide
    have k_3 : (2 : Int32).toInt = 2 := by decide
    have k_4 : (3 : Int32).toInt = 3 := by decide
    have k_g : (4 : Int32).toInt = 4 := by decide
    omega
  refine q_callVl (rest := [.long (-2)]) (wr := []) X hK hA hw11 (fun sz => kX12_write_574 l D cy y0 a1 a2 ((((a3).toInt64) <<< ((32 : Int32).toInt64 &&& 63)) ||| (((a4).toInt64) &&& 4294967295)) (u_1.1 19) (u_1.1 0) (u_1.1 1) (u_1.1 2) (u_1.1 3) (u_1.1 4) (u_1.1 5) (u_1.1 6) (u_1.1 7) (u_1.1 8) (u_1.1 9) (u_1.1 10) (u_1.1 11) (u_1.1 12) (u_1.1 13) (u_1.1 14) (u_1.1 15) (u_1.1 16) (u_1.1 17) (u_1.1 18) g_13785 sz) wm_8_31 wm_8_34 wm_1_12 hd_X12_write wm_8_32 wm_8_33 (ci := 12) (q0 := 0) rfl rfl ⟨Nat.le_of_ble_eq_true rfl, Nat.le_of_ble_eq_true rfl⟩ hl.1 rfl (Nat.le_of_ble_eq_true rfl) dL_law_1340 ⟨Nat.le_of_ble_eq_true rfl, Nat.le_of_ble_eq_true rfl⟩ [0] [] rfl rfl (by decide) rfl rfl (fun r_13786 u_13786 Hp12 lc12 w_13786 hw12 => ?_)
  clear Hp11 lc11 hw11
  obtain rfl : r_13786 = (-2) := w_13786
  clear w_13786
  replace hw12 : qW D _ _ [] _ _ := hw12
  refine W.lcmp hx hb dL_law_1343 ?_
  refine q_c 0 (by decide +kernel) ?_
  refine lv_if_eq (tgt := 1461) hx hb dL_law_1344 (by decide) (fun _ => ?_) (fun c => absurd c (by decide +kernel))
  exact law_tail l X hr hlk hX hbl hw12.2.2 hl (Nat.le_of_ble_eq_true rfl) (Nat.le_of_ble_eq_true rfl)
set_option maxHeartbeats 4000000 in
set_option maxRecDepth 100000 in
theorem lc_lists (l : Launch) {p : Program} {e : Env} {s : State} {m : MethodId} {below : List Frame} {meth : Method} {c : Code} {b : Nat} {xs : Nat → Int32} {D : va_G} {cy : Nat → ClassId} {H : Heap} {locs : List Loc} {ls : Array Slot} {x0 y0 : Nat} {u_0 u_1 : SS} (X : qX p s m #[Value.ref b] c cL_law 4 RL) (hr : meth.sig.returnType = ret) (hlk : meth.locks = false) (hX : va_X b 6 xs s s.heap) (hbl : b < s.heap.size) (hK : qK D cy s) (a1 a2 a3 a4 a5 : Int32) (e1 : xs (Int32.toNatClampNeg 1) = a1) (e2 : xs (Int32.toNatClampNeg 2) = a2) (e3 : xs (Int32.toNatClampNeg 3) = a3) (e4 : xs (Int32.toNatClampNeg 4) = a4) (e5 : xs (Int32.toNatClampNeg 5) = a5) (h : qW D (fun q => s.heap.size ≤ q) s.heap (wLaw cy x0 y0 u_0 u_1) H locs) (hl : lv_has ls 4 [(3, .int 0), (2, .ref y0), (1, .ref x0), (0, .ref b)]) : W p l e room_1 s m #[Value.ref b] below meth c H locs 99 25544 (lw_Z below #[Value.ref b] s) (F0 m 1349 ls []) := by
  obtain ⟨hx, hb, hml, hown, ht⟩ := id X
  have hA : ∀ q : Nat, s.heap.size ≤ q → (fun q : Nat => s.heap.size ≤ q) q := fun _ h => h
  have hbA : ¬ (fun q : Nat => s.heap.size ≤ q) b := Nat.not_le.mpr hbl
  by_cases c_13791 : a1 ≤ (-1)
  · skip
    refine lv_aload_n hx hb dL_law_1349 rfl (lv_at hl 2 rfl) ?_
    refine lv_aload_n hx hb dL_law_1350 rfl (lv_at hl 3 rfl) ?_
    refine lv_iload_n hx hb dL_law_1351 rfl (lv_at hl 0 rfl) ?_
    refine lv_iconst (v := 1) hx hb dL_law_1352 (by decide) ?_
    refine lv_iadd hx hb dL_law_1353 ?_
    refine q_c 1 (by decide +kernel) ?_
    refine va_sld X.1 X.2.1 hX hbl hbA h.2.2 (q_in (by decide +kernel)) dL_law_1354 ?_
    refine q_c a1 e1 ?_
    refine lv_aload_n hx hb dL_law_1355 rfl (lv_at hl 3 rfl) ?_
    refine lv_iload_n hx hb dL_law_1356 rfl (lv_at hl 0 rfl) ?_
    refine lv_iconst (v := 2) hx hb dL_law_1357 (by decide) ?_
    refine lv_iadd hx hb dL_law_1358 ?_
    refine q_c 2 (by decide +kernel) ?_
    refine va_sld X.1 X.2.1 hX hbl hbA h.2.2 (q_in (by decide +kernel)) dL_law_1359 ?_
    refine q_c a2 e2 ?_
    refine lv_aload_n hx hb dL_law_1360 rfl (lv_at hl 3 rfl) ?_
    refine lv_iload_n hx hb dL_law_1361 rfl (lv_at hl 0 rfl) ?_
    refine lv_iconst (v := 3) hx hb dL_law_1362 (by decide) ?_
    refine lv_iadd hx hb dL_law_1363 ?_
    refine q_c 3 (by decide +kernel) ?_
    refine va_sld X.1 X.2.1 hX hbl hbA h.2.2 (q_in (by decide +kernel)) dL_law_1364 ?_
    refine q_c a3 e3 ?_
    have g_13813 : a1 ≤ ((-1) : Int32) := by
      simp only [Int32.lt_iff_toInt_lt, Int32.le_iff_toInt_le, ← Int32.toInt_inj] at c_13791 ⊢
      have k_0 : ((-1) : Int32).toInt = -1 := by decide
      omega
    refine q_callVi (rest := []) (wr := [(y0, .inr (12, [.int 0, .ref (u_1.1 19), .ref (u_1.1 0), .ref (u_1.1 1), .ref (u_1.1 2), .int 0, .int 0, .int 0, .int 0, .int 0, .int 0, .int 0, .int 0, .int 0, .int (-1), .int 0, .ref (u_1.1 3), .ref (u_1.1 4), .ref (u_1.1 5), .ref (u_1.1 6), .ref (u_1.1 7), .int 0, .int 0, .ref (u_1.1 8), .ref (u_1.1 9), .ref (u_1.1 10), .int 0, .int 0, .ref (u_1.1 11), .ref (u_1.1 12), .ref (u_1.1 13), .ref (u_1.1 14), .ref (u_1.1 15), .int 0, .ref (u_1.1 16), .ref (u_1.1 17), .ref (u_1.1 18)]))]) X hK hA h (fun sz => kX11_lists_575 l D cy x0 a1 a2 a3 (u_0.1 0) (u_0.1 1) (u_0.1 37) (u_0.1 39) (u_0.1 41) (u_0.1 43) (u_0.1 14) (u_0.1 15) (u_0.1 16) (u_0.1 17) (u_0.1 20) (u_0.1 24) (u_0.1 29) g_13813 sz) wm_5_141 wm_5_144 wm_1_1 hd_X11_lists wm_5_142 wm_5_143 (ci := 11) (q0 := 0) rfl rfl ⟨Nat.le_of_ble_eq_true rfl, Nat.le_of_ble_eq_true rfl⟩ hl.1 rfl (Nat.le_of_ble_eq_true rfl) dL_law_1365 ⟨Nat.le_of_ble_eq_true rfl, Nat.le_of_ble_eq_true rfl⟩ [0] [78] rfl rfl (by decide) rfl rfl (fun r_13814 u_13814 Hp1 lc1 w_13814 hw1 => ?_)
    clear h
    obtain rfl : r_13814 = (-2) := w_13814
    clear w_13814
    replace hw1 : qW D _ _ [(y0, .inr (12, [.int 0, .ref (u_1.1 19), .ref (u_1.1 0), .ref (u_1.1 1), .ref (u_1.1 2), .int 0, .int 0, .int 0, .int 0, .int 0, .int 0, .int 0, .int 0, .int 0, .int (-1), .int 0, .ref (u_1.1 3), .ref (u_1.1 4), .ref (u_1.1 5), .ref (u_1.1 6), .ref (u_1.1 7), .int 0, .int 0, .ref (u_1.1 8), .ref (u_1.1 9), .ref (u_1.1 10), .int 0, .int 0, .ref (u_1.1 11), .ref (u_1.1 12), .ref (u_1.1 13), .ref (u_1.1 14), .ref (u_1.1 15), .int 0, .ref (u_1.1 16), .ref (u_1.1 17), .ref (u_1.1 18)]))] _ _ := hw1
    refine lv_aload_n hx hb dL_law_1368 rfl (lv_at hl 1 rfl) ?_
    refine lv_aload_n hx hb dL_law_1369 rfl (lv_at hl 3 rfl) ?_
    refine lv_iload_n hx hb dL_law_1370 rfl (lv_at hl 0 rfl) ?_
    refine lv_iconst (v := 1) hx hb dL_law_1371 (by decide) ?_
    refine lv_iadd hx hb dL_law_1372 ?_
    refine q_c 1 (by decide +kernel) ?_
    refine va_sld X.1 X.2.1 hX hbl hbA hw1.2.2 (q_in (by decide +kernel)) dL_law_1373 ?_
    refine q_c a1 e1 ?_
    refine lv_aload_n hx hb dL_law_1374 rfl (lv_at hl 3 rfl) ?_
    refine lv_iload_n hx hb dL_law_1375 rfl (lv_at hl 0 rfl) ?_
    refine lv_iconst (v := 2) hx hb dL_law_1376 (by decide) ?_
    refine lv_iadd hx hb dL_law_1377 ?_
    refine q_c 2 (by decide +kernel) ?_
    refine va_sld X.1 X.2.1 hX hbl hbA hw1.2.2 (q_in (by decide +kernel)) dL_law_1378 ?_
    refine q_c a2 e2 ?_
    refine lv_aload_n hx hb dL_law_1379 rfl (lv_at hl 3 rfl) ?_
    refine lv_iload_n hx hb dL_law_1380 rfl (lv_at hl 0 rfl) ?_
    refine lv_iconst (v := 3) hx hb dL_law_1381 (by decide) ?_
    refine lv_iadd hx hb dL_law_1382 ?_
    refine q_c 3 (by decide +kernel) ?_
    refine va_sld X.1 X.2.1 hX hbl hbA hw1.2.2 (q_in (by decide +kernel)) dL_law_1383 ?_
    refine q_c a3 e3 ?_
    have g_13818 : a1 ≤ ((-1) : Int32) := by
      simp only [Int32.lt_iff_toInt_lt, Int32.le_iff_toInt_le, ← Int32.toInt_inj] at c_13791 ⊢
      have k_0 : ((-1) : Int32).toInt = -1 := by decide
      omega
    refine q_callVi (rest := [.int (-2)]) (wr := []) X hK hA hw1 (fun sz => kX12_lists_576 l D cy y0 a1 a2 a3 (u_1.1 19) (u_1.1 0) (u_1.1 1) (u_1.1 2) (u_1.1 3) (u_1.1 4) (u_1.1 5) (u_1.1 6) (u_1.1 7) (u_1.1 8) (u_1.1 9) (u_1.1 10) (u_1.1 11) (u_1.1 12) (u_1.1 13) (u_1.1 14) (u_1.1 15) (u_1.1 16) (u_1.1 17) (u_1.1 18) g_13818 sz) wm_8_39 wm_8_42 wm_1_12 hd_X12_lists wm_8_40 wm_8_41 (ci := 12) (q0 := 0) rfl rfl ⟨Nat.le_of_ble_eq_true rfl, Nat.le_of_ble_eq_true rfl⟩ hl.1 rfl (Nat.le_of_ble_eq_true rfl) dL_law_1384 ⟨Nat.le_of_ble_eq_true rfl, Nat.le_of_ble_eq_true rfl⟩ [0] [] rfl rfl (by decide) rfl rfl (fun r_13819 u_13819 Hp2 lc2 w_13819 hw2 => ?_)
    clear Hp1 lc1 hw1
    obtain rfl : r_13819 = (-2) := w_13819
    clear w_13819
    replace hw2 : qW D _ _ [] _ _ := hw2
    refine lv_icmp_eq (tgt := 1461) hx hb dL_law_1387 (by decide) (fun _ => ?_) (fun c => absurd c (by decide +kernel))
    exact law_tail l X hr hlk hX hbl hw2.2.2 hl (Nat.le_of_ble_eq_true rfl) (Nat.le_of_ble_eq_true rfl)
  by_cases c_13820 : a1 = 0
  · subst c_13820
    refine lv_aload_n hx hb dL_law_1349 rfl (lv_at hl 2 rfl) ?_
    refine lv_aload_n hx hb dL_law_1350 rfl (lv_at hl 3 rfl) ?_
    refine lv_iload_n hx hb dL_law_1351 rfl (lv_at hl 0 rfl) ?_
    refine lv_iconst (v := 1) hx hb dL_law_1352 (by decide) ?_
    refine lv_iadd hx hb dL_law_1353 ?_
    refine q_c 1 (by decide +kernel) ?_
    refine va_sld X.1 X.2.1 hX hbl hbA hw2.2.2 (q_in (by decide +kernel)) dL_law_1354 ?_
    refine q_c 0 e1 ?_
    refine lv_aload_n hx hb dL_law_1355 rfl (lv_at hl 3 rfl) ?_
    refine lv_iload_n hx hb dL_law_1356 rfl (lv_at hl 0 rfl) ?_
    refine lv_iconst (v := 2) hx hb dL_law_1357 (by decide) ?_
    refine lv_iadd hx hb dL_law_1358 ?_
    refine q_c 2 (by decide +kernel) ?_
    refine va_sld X.1 X.2.1 hX hbl hbA hw2.2.2 (q_in (by decide +kernel)) dL_law_1359 ?_
    refine q_c a2 e2 ?_
    refine lv_aload_n hx hb dL_law_1360 rfl (lv_at hl 3 rfl) ?_
    refine lv_iload_n hx hb dL_law_1361 rfl (lv_at hl 0 rfl) ?_
    refine lv_iconst (v := 3) hx hb dL_law_1362 (by decide) ?_
    refine lv_iadd hx hb dL_law_1363 ?_
    refine q_c 3 (by decide +kernel) ?_
    refine va_sld X.1 X.2.1 hX hbl hbA hw2.2.2 (q_in (by decide +kernel)) dL_law_1364 ?_
    refine q_c a3 e3 ?_
    refine q_callVi (rest := []) (wr := [(y0, .inr (12, [.int 0, .ref (u_1.1 19), .ref (u_1.1 0), .ref (u_1.1 1), .ref (u_1.1 2), .int 0, .int 0, .int 0, .int 0, .int 0, .int 0, .int 0, .int 0, .int 0, .int (-1), .int 0, .ref (u_1.1 3), .ref (u_1.1 4), .ref (u_1.1 5), .ref (u_1.1 6), .ref (u_1.1 7), .int 0, .int 0, .ref (u_1.1 8), .ref (u_1.1 9), .ref (u_1.1 10), .int 0, .int 0, .ref (u_1.1 11), .ref (u_1.1 12), .ref (u_1.1 13), .ref (u_1.1 14), .ref (u_1.1 15), .int 0, .ref (u_1.1 16), .ref (u_1.1 17), .ref (u_1.1 18)])), ((u_1.1 19), .inl (cy 1, 3918, .inl (upd (fun _ => 0) (Int32.toNatClampNeg 1) 1)))]) X hK hA hw2 (fun sz => kX11_lists_579 l D cy x0 (u_0.1 31) (u_0.1 37) a2 a3 (u_0.1 0) (u_0.1 1) (u_0.1 39) (u_0.1 41) (u_0.1 43) (u_0.1 14) (u_0.1 15) (u_0.1 16) (u_0.1 17) (u_0.1 20) (u_0.1 24) (u_0.1 29) (u_0.1 32) (u_0.1 33) (u_0.1 34) (u_0.1 35) (u_0.1 36) (u_0.1 38)  sz) wm_5_141 wm_5_144 wm_1_1 hd_X11_lists wm_5_142 wm_5_143 (ci := 11) (q0 := 0) rfl rfl ⟨Nat.le_of_ble_eq_true rfl, Nat.le_of_ble_eq_true rfl⟩ hl.1 rfl (Nat.le_of_ble_eq_true rfl) dL_law_1365 ⟨Nat.le_of_ble_eq_true rfl, Nat.le_of_ble_eq_true rfl⟩ [0, 32, 38] [78, 98] rfl rfl (by decide) rfl rfl (fun r_13869 u_13869 Hp3 lc3 w_13869 hw3 => ?_)
    clear Hp2 lc2 hw2
    obtain rfl : r_13869 = (-2) := w_13869
    clear w_13869
    replace hw3 : qW D _ _ [(y0, .inr (12, [.int 0, .ref (u_1.1 19), .ref (u_1.1 0), .ref (u_1.1 1), .ref (u_1.1 2), .int 0, .int 0, .int 0, .int 0, .int 0, .int 0, .int 0, .int 0, .int 0, .int (-1), .int 0, .ref (u_1.1 3), .ref (u_1.1 4), .ref (u_1.1 5), .ref (u_1.1 6), .ref (u_1.1 7), .int 0, .int 0, .ref (u_1.1 8), .ref (u_1.1 9), .ref (u_1.1 10), .int 0, .int 0, .ref (u_1.1 11), .ref (u_1.1 12), .ref (u_1.1 13), .ref (u_1.1 14), .ref (u_1.1 15), .int 0, .ref (u_1.1 16), .ref (u_1.1 17), .ref (u_1.1 18)])), ((u_1.1 19), .inl (cy 1, 3918, .inl (upd (fun _ => 0) (Int32.toNatClampNeg 1) 1)))] _ _ := hw3
    refine lv_aload_n hx hb dL_law_1368 rfl (lv_at hl 1 rfl) ?_
    refine lv_aload_n hx hb dL_law_1369 rfl (lv_at hl 3 rfl) ?_
    refine lv_iload_n hx hb dL_law_1370 rfl (lv_at hl 0 rfl) ?_
    refine lv_iconst (v := 1) hx hb dL_law_1371 (by decide) ?_
    refine lv_iadd hx hb dL_law_1372 ?_
    refine q_c 1 (by decide +kernel) ?_
    refine va_sld X.1 X.2.1 hX hbl hbA hw3.2.2 (q_in (by decide +kernel)) dL_law_1373 ?_
    refine q_c 0 e1 ?_
    refine lv_aload_n hx hb dL_law_1374 rfl (lv_at hl 3 rfl) ?_
    refine lv_iload_n hx hb dL_law_1375 rfl (lv_at hl 0 rfl) ?_
    refine lv_iconst (v := 2) hx hb dL_law_1376 (by decide) ?_
    refine lv_iadd hx hb dL_law_1377 ?_
    refine q_c 2 (by decide +kernel) ?_
    refine va_sld X.1 X.2.1 hX hbl hbA hw3.2.2 (q_in (by decide +kernel)) dL_law_1378 ?_
    refine q_c a2 e2 ?_
    refine lv_aload_n hx hb dL_law_1379 rfl (lv_at hl 3 rfl) ?_
    refine lv_iload_n hx hb dL_law_1380 rfl (lv_at hl 0 rfl) ?_
    refine lv_iconst (v := 3) hx hb dL_law_1381 (by decide) ?_
    refine lv_iadd hx hb dL_law_1382 ?_
    refine q_c 3 (by decide +kernel) ?_
    refine va_sld X.1 X.2.1 hX hbl hbA hw3.2.2 (q_in (by decide +kernel)) dL_law_1383 ?_
    refine q_c a3 e3 ?_
    refine q_callVi (rest := [.int (-2)]) (wr := []) X hK hA hw3 (fun sz => kX12_lists_580 l D cy y0 (u_1.1 19) a2 a3 (u_1.1 0) (u_1.1 1) (u_1.1 2) (u_1.1 3) (u_1.1 4) (u_1.1 5) (u_1.1 6) (u_1.1 7) (u_1.1 8) (u_1.1 9) (u_1.1 10) (u_1.1 11) (u_1.1 12) (u_1.1 13) (u_1.1 14) (u_1.1 15) (u_1.1 16) (u_1.1 17) (u_1.1 18) (upd (fun _ => 0) (Int32.toNatClampNeg 1) 1) (q_un (by decide +kernel) rfl) sz) wm_8_39 wm_8_42 wm_1_12 hd_X12_lists wm_8_40 wm_8_41 (ci := 12) (q0 := 0) rfl rfl ⟨Nat.le_of_ble_eq_true rfl, Nat.le_of_ble_eq_true rfl⟩ hl.1 rfl (Nat.le_of_ble_eq_true rfl) dL_law_1384 ⟨Nat.le_of_ble_eq_true rfl, Nat.le_of_ble_eq_true rfl⟩ [0, 1] [] rfl rfl (by decide) rfl rfl (fun r_13876 u_13876 Hp4 lc4 w_13876 hw4 => ?_)
    clear Hp3 lc3 hw3
    obtain rfl : r_13876 = (-2) := w_13876
    clear w_13876
    replace hw4 : qW D _ _ [] _ _ := hw4
    refine lv_icmp_eq (tgt := 1461) hx hb dL_law_1387 (by decide) (fun _ => ?_) (fun c => absurd c (by decide +kernel))
    exact law_tail l X hr hlk hX hbl hw4.2.2 hl (Nat.le_of_ble_eq_true rfl) (Nat.le_of_ble_eq_true rfl)
  by_cases c_13877 : a1 = 1
  · subst c_13877
    refine lv_aload_n hx hb dL_law_1349 rfl (lv_at hl 2 rfl) ?_
    refine lv_aload_n hx hb dL_law_1350 rfl (lv_at hl 3 rfl) ?_
    refine lv_iload_n hx hb dL_law_1351 rfl (lv_at hl 0 rfl) ?_
    refine lv_iconst (v := 1) hx hb dL_law_1352 (by decide) ?_
    refine lv_iadd hx hb dL_law_1353 ?_
    refine q_c 1 (by decide +kernel) ?_
    refine va_sld X.1 X.2.1 hX hbl hbA hw4.2.2 (q_in (by decide +kernel)) dL_law_1354 ?_
    refine q_c 1 e1 ?_
    refine lv_aload_n hx hb dL_law_1355 rfl (lv_at hl 3 rfl) ?_
    refine lv_iload_n hx hb dL_law_1356 rfl (lv_at hl 0 rfl) ?_
    refine lv_iconst (v := 2) hx hb dL_law_1357 (by decide) ?_
    refine lv_iadd hx hb dL_law_1358 ?_
    refine q_c 2 (by decide +kernel) ?_
    refine va_sld X.1 X.2.1 hX hbl hbA hw4.2.2 (q_in (by decide +kernel)) dL_law_1359 ?_
    refine q_c a2 e2 ?_
    refine lv_aload_n hx hb dL_law_1360 rfl (lv_at hl 3 rfl) ?_
    refine lv_iload_n hx hb dL_law_1361 rfl (lv_at hl 0 rfl) ?_
    refine lv_iconst (v := 3) hx hb dL_law_1362 (by decide) ?_
    refine lv_iadd hx hb dL_law_1363 ?_
    refine q_c 3 (by decide +kernel) ?_
    refine va_sld X.1 X.2.1 hX hbl hbA hw4.2.2 (q_in (by decide +kernel)) dL_law_1364 ?_
    refine q_c a3 e3 ?_
    refine q_callVi (rest := []) (wr := [(y0, .inr (12, [.int 0, .ref (u_1.1 19), .ref (u_1.1 0), .ref (u_1.1 1), .ref (u_1.1 2), .int 0, .int 0, .int 0, .int 0, .int 0, .int 0, .int 0, .int 0, .int 0, .int (-1), .int 0, .ref (u_1.1 3), .ref (u_1.1 4), .ref (u_1.1 5), .ref (u_1.1 6), .ref (u_1.1 7), .int 0, .int 0, .ref (u_1.1 8), .ref (u_1.1 9), .ref (u_1.1 10), .int 0, .int 0, .ref (u_1.1 11), .ref (u_1.1 12), .ref (u_1.1 13), .ref (u_1.1 14), .ref (u_1.1 15), .int 0, .ref (u_1.1 16), .ref (u_1.1 17), .ref (u_1.1 18)])), ((u_1.1 19), .inl (cy 1, 3918, .inl (upd (fun _ => 0) (Int32.toNatClampNeg 1) 1)))]) X hK hA hw4 (fun sz => kX11_lists_581 l D cy x0 (u_0.1 31) (u_0.1 37) a2 a3 (u_0.1 0) (u_0.1 1) (u_0.1 39) (u_0.1 41) (u_0.1 43) (u_0.1 14) (u_0.1 15) (u_0.1 16) (u_0.1 17) (u_0.1 20) (u_0.1 24) (u_0.1 29) (u_0.1 32) (u_0.1 33) (u_0.1 34) (u_0.1 35) (u_0.1 36) (u_0.1 38)  sz) wm_5_141 wm_5_144 wm_1_1 hd_X11_lists wm_5_142 wm_5_143 (ci := 11) (q0 := 0) rfl rfl ⟨Nat.le_of_ble_eq_true rfl, Nat.le_of_ble_eq_true rfl⟩ hl.1 rfl (Nat.le_of_ble_eq_true rfl) dL_law_1365 ⟨Nat.le_of_ble_eq_true rfl, Nat.le_of_ble_eq_true rfl⟩ [0, 32, 38] [78, 98] rfl rfl (by decide) rfl rfl (fun r_13916 u_13916 Hp5 lc5 w_13916 hw5 => ?_)
    clear Hp4 lc4 hw4
    obtain rfl : r_13916 = (-2) := w_13916
    clear w_13916
    replace hw5 : qW D _ _ [(y0, .inr (12, [.int 0, .ref (u_1.1 19), .ref (u_1.1 0), .ref (u_1.1 1), .ref (u_1.1 2), .int 0, .int 0, .int 0, .int 0, .int 0, .int 0, .int 0, .int 0, .int 0, .int (-1), .int 0, .ref (u_1.1 3), .ref (u_1.1 4), .ref (u_1.1 5), .ref (u_1.1 6), .ref (u_1.1 7), .int 0, .int 0, .ref (u_1.1 8), .ref (u_1.1 9), .ref (u_1.1 10), .int 0, .int 0, .ref (u_1.1 11), .ref (u_1.1 12), .ref (u_1.1 13), .ref (u_1.1 14), .ref (u_1.1 15), .int 0, .ref (u_1.1 16), .ref (u_1.1 17), .ref (u_1.1 18)])), ((u_1.1 19), .inl (cy 1, 3918, .inl (upd (fun _ => 0) (Int32.toNatClampNeg 1) 1)))] _ _ := hw5
    refine lv_aload_n hx hb dL_law_1368 rfl (lv_at hl 1 rfl) ?_
    refine lv_aload_n hx hb dL_law_1369 rfl (lv_at hl 3 rfl) ?_
    refine lv_iload_n hx hb dL_law_1370 rfl (lv_at hl 0 rfl) ?_
    refine lv_iconst (v := 1) hx hb dL_law_1371 (by decide) ?_
    refine lv_iadd hx hb dL_law_1372 ?_
    refine q_c 1 (by decide +kernel) ?_
    refine va_sld X.1 X.2.1 hX hbl hbA hw5.2.2 (q_in (by decide +kernel)) dL_law_1373 ?_
    refine q_c 1 e1 ?_
    refine lv_aload_n hx hb dL_law_1374 rfl (lv_at hl 3 rfl) ?_
    refine lv_iload_n hx hb dL_law_1375 rfl (lv_at hl 0 rfl) ?_
    refine lv_iconst (v := 2) hx hb dL_law_1376 (by decide) ?_
    refine lv_iadd hx hb dL_law_1377 ?_
    refine q_c 2 (by decide +kernel) ?_
    refine va_sld X.1 X.2.1 hX hbl hbA hw5.2.2 (q_in (by decide +kernel)) dL_law_1378 ?_
    refine q_c a2 e2 ?_
    refine lv_aload_n hx hb dL_law_1379 rfl (lv_at hl 3 rfl) ?_
    refine lv_iload_n hx hb dL_law_1380 rfl (lv_at hl 0 rfl) ?_
    refine lv_iconst (v := 3) hx hb dL_law_1381 (by decide) ?_
    refine lv_iadd hx hb dL_law_1382 ?_
    refine q_c 3 (by decide +kernel) ?_
    refine va_sld X.1 X.2.1 hX hbl hbA hw5.2.2 (q_in (by decide +kernel)) dL_law_1383 ?_
    refine q_c a3 e3 ?_
    refine q_callVi (rest := [.int (-2)]) (wr := []) X hK hA hw5 (fun sz => kX12_lists_582 l D cy y0 (u_1.1 19) a2 a3 (u_1.1 0) (u_1.1 1) (u_1.1 2) (u_1.1 3) (u_1.1 4) (u_1.1 5) (u_1.1 6) (u_1.1 7) (u_1.1 8) (u_1.1 9) (u_1.1 10) (u_1.1 11) (u_1.1 12) (u_1.1 13) (u_1.1 14) (u_1.1 15) (u_1.1 16) (u_1.1 17) (u_1.1 18) (upd (fun _ => 0) (Int32.toNatClampNeg 1) 1) (q_un (by decide +kernel) rfl) sz) wm_8_39 wm_8_42 wm_1_12 hd_X12_lists wm_8_40 wm_8_41 (ci := 12) (q0 := 0) rfl rfl ⟨Nat.le_of_ble_eq_true rfl, Nat.le_of_ble_eq_true rfl⟩ hl.1 rfl (Nat.le_of_ble_eq_true rfl) dL_law_1384 ⟨Nat.le_of_ble_eq_true rfl, Nat.le_of_ble_eq_true rfl⟩ [0, 1] [] rfl rfl (by decide) rfl rfl (fun r_13923 u_13923 Hp6 lc6 w_13923 hw6 => ?_)
    clear Hp5 lc5 hw5
    obtain rfl : r_13923 = (-2) := w_13923
    clear w_13923
    replace hw6 : qW D _ _ [] _ _ := hw6
    refine lv_icmp_eq (tgt := 1461) hx hb dL_law_1387 (by decide) (fun _ => ?_) (fun c => absurd c (by decide +kernel))
    exact law_tail l X hr hlk hX hbl hw6.2.2 hl (Nat.le_of_ble_eq_true rfl) (Nat.le_of_ble_eq_true rfl)
  by_cases c_13924 : a1 = 2
  · subst c_13924
    refine lv_aload_n hx hb dL_law_1349 rfl (lv_at hl 2 rfl) ?_
    refine lv_aload_n hx hb dL_law_1350 rfl (lv_at hl 3 rfl) ?_
    refine lv_iload_n hx hb dL_law_1351 rfl (lv_at hl 0 rfl) ?_
    refine lv_iconst (v := 1) hx hb dL_law_1352 (by decide) ?_
    refine lv_iadd hx hb dL_law_1353 ?_
    refine q_c 1 (by decide +kernel) ?_
    refine va_sld X.1 X.2.1 hX hbl hbA hw6.2.2 (q_in (by decide +kernel)) dL_law_1354 ?_
    refine q_c 2 e1 ?_
    refine lv_aload_n hx hb dL_law_1355 rfl (lv_at hl 3 rfl) ?_
    refine lv_iload_n hx hb dL_law_1356 rfl (lv_at hl 0 rfl) ?_
    refine lv_iconst (v := 2) hx hb dL_law_1357 (by decide) ?_
    refine lv_iadd hx hb dL_law_1358 ?_
    refine q_c 2 (by decide +kernel) ?_
    refine va_sld X.1 X.2.1 hX hbl hbA hw6.2.2 (q_in (by decide +kernel)) dL_law_1359 ?_
    refine q_c a2 e2 ?_
    refine lv_aload_n hx hb dL_law_1360 rfl (lv_at hl 3 rfl) ?_
    refine lv_iload_n hx hb dL_law_1361 rfl (lv_at hl 0 rfl) ?_
    refine lv_iconst (v := 3) hx hb dL_law_1362 (by decide) ?_
    refine lv_iadd hx hb dL_law_1363 ?_
    refine q_c 3 (by decide +kernel) ?_
    refine va_sld X.1 X.2.1 hX hbl hbA hw6.2.2 (q_in (by decide +kernel)) dL_law_1364 ?_
    refine q_c a3 e3 ?_
    refine q_callVi (rest := []) (wr := [(y0, .inr (12, [.int 0, .ref (u_1.1 19), .ref (u_1.1 0), .ref (u_1.1 1), .ref (u_1.1 2), .int 0, .int 0, .int 0, .int 0, .int 0, .int 0, .int 0, .int 0, .int 0, .int (-1), .int 0, .ref (u_1.1 3), .ref (u_1.1 4), .ref (u_1.1 5), .ref (u_1.1 6), .ref (u_1.1 7), .int 0, .int 0, .ref (u_1.1 8), .ref (u_1.1 9), .ref (u_1.1 10), .int 0, .int 0, .ref (u_1.1 11), .ref (u_1.1 12), .ref (u_1.1 13), .ref (u_1.1 14), .ref (u_1.1 15), .int 0, .ref (u_1.1 16), .ref (u_1.1 17), .ref (u_1.1 18)])), ((u_1.1 19), .inl (cy 1, 3918, .inl (upd (fun _ => 0) (Int32.toNatClampNeg 1) 1)))]) X hK hA hw6 (fun sz => kX11_lists_583 l D cy x0 (u_0.1 31) (u_0.1 37) a2 a3 (u_0.1 0) (u_0.1 1) (u_0.1 39) (u_0.1 41) (u_0.1 43) (u_0.1 14) (u_0.1 15) (u_0.1 16) (u_0.1 17) (u_0.1 20) (u_0.1 24) (u_0.1 29) (u_0.1 32) (u_0.1 33) (u_0.1 34) (u_0.1 35) (u_0.1 36) (u_0.1 38)  sz) wm_5_141 wm_5_144 wm_1_1 hd_X11_lists wm_5_142 wm_5_143 (ci := 11) (q0 := 0) rfl rfl ⟨Nat.le_of_ble_eq_true rfl, Nat.le_of_ble_eq_true rfl⟩ hl.1 rfl (Nat.le_of_ble_eq_true rfl) dL_law_1365 ⟨Nat.le_of_ble_eq_true rfl, Nat.le_of_ble_eq_true rfl⟩ [0, 32, 38] [78, 98] rfl rfl (by decide) rfl rfl (fun r_13963 u_13963 Hp7 lc7 w_13963 hw7 => ?_)
    clear Hp6 lc6 hw6
    obtain rfl : r_13963 = (-2) := w_13963
    clear w_13963
    replace hw7 : qW D _ _ [(y0, .inr (12, [.int 0, .ref (u_1.1 19), .ref (u_1.1 0), .ref (u_1.1 1), .ref (u_1.1 2), .int 0, .int 0, .int 0, .int 0, .int 0, .int 0, .int 0, .int 0, .int 0, .int (-1), .int 0, .ref (u_1.1 3), .ref (u_1.1 4), .ref (u_1.1 5), .ref (u_1.1 6), .ref (u_1.1 7), .int 0, .int 0, .ref (u_1.1 8), .ref (u_1.1 9), .ref (u_1.1 10), .int 0, .int 0, .ref (u_1.1 11), .ref (u_1.1 12), .ref (u_1.1 13), .ref (u_1.1 14), .ref (u_1.1 15), .int 0, .ref (u_1.1 16), .ref (u_1.1 17), .ref (u_1.1 18)])), ((u_1.1 19), .inl (cy 1, 3918, .inl (upd (fun _ => 0) (Int32.toNatClampNeg 1) 1)))] _ _ := hw7
    refine lv_aload_n hx hb dL_law_1368 rfl (lv_at hl 1 rfl) ?_
    refine lv_aload_n hx hb dL_law_1369 rfl (lv_at hl 3 rfl) ?_
    refine lv_iload_n hx hb dL_law_1370 rfl (lv_at hl 0 rfl) ?_
    refine lv_iconst (v := 1) hx hb dL_law_1371 (by decide) ?_
    refine lv_iadd hx hb dL_law_1372 ?_
    refine q_c 1 (by decide +kernel) ?_
    refine va_sld X.1 X.2.1 hX hbl hbA hw7.2.2 (q_in (by decide +kernel)) dL_law_1373 ?_
    refine q_c 2 e1 ?_
    refine lv_aload_n hx hb dL_law_1374 rfl (lv_at hl 3 rfl) ?_
    refine lv_iload_n hx hb dL_law_1375 rfl (lv_at hl 0 rfl) ?_
    refine lv_iconst (v := 2) hx hb dL_law_1376 (by decide) ?_
    refine lv_iadd hx hb dL_law_1377 ?_
    refine q_c 2 (by decide +kernel) ?_
    refine va_sld X.1 X.2.1 hX hbl hbA hw7.2.2 (q_in (by decide +kernel)) dL_law_1378 ?_
    refine q_c a2 e2 ?_
    refine lv_aload_n hx hb dL_law_1379 rfl (lv_at hl 3 rfl) ?_
    refine lv_iload_n hx hb dL_law_1380 rfl (lv_at hl 0 rfl) ?_
    refine lv_iconst (v := 3) hx hb dL_law_1381 (by decide) ?_
    refine lv_iadd hx hb dL_law_1382 ?_
    refine q_c 3 (by decide +kernel) ?_
    refine va_sld X.1 X.2.1 hX hbl hbA hw7.2.2 (q_in (by decide +kernel)) dL_law_1383 ?_
    refine q_c a3 e3 ?_
    refine q_callVi (rest := [.int (-2)]) (wr := []) X hK hA hw7 (fun sz => kX12_lists_584 l D cy y0 (u_1.1 19) a2 a3 (u_1.1 0) (u_1.1 1) (u_1.1 2) (u_1.1 3) (u_1.1 4) (u_1.1 5) (u_1.1 6) (u_1.1 7) (u_1.1 8) (u_1.1 9) (u_1.1 10) (u_1.1 11) (u_1.1 12) (u_1.1 13) (u_1.1 14) (u_1.1 15) (u_1.1 16) (u_1.1 17) (u_1.1 18) (upd (fun _ => 0) (Int32.toNatClampNeg 1) 1) (q_un (by decide +kernel) rfl) sz) wm_8_39 wm_8_42 wm_1_12 hd_X12_lists wm_8_40 wm_8_41 (ci := 12) (q0 := 0) rfl rfl ⟨Nat.le_of_ble_eq_true rfl, Nat.le_of_ble_eq_true rfl⟩ hl.1 rfl (Nat.le_of_ble_eq_true rfl) dL_law_1384 ⟨Nat.le_of_ble_eq_true rfl, Nat.le_of_ble_eq_true rfl⟩ [0, 1] [] rfl rfl (by decide) rfl rfl (fun r_13970 u_13970 Hp8 lc8 w_13970 hw8 => ?_)
    clear Hp7 lc7 hw7
    obtain rfl : r_13970 = (-2) := w_13970
    clear w_13970
    replace hw8 : qW D _ _ [] _ _ := hw8
    refine lv_icmp_eq (tgt := 1461) hx hb dL_law_1387 (by decide) (fun _ => ?_) (fun c => absurd c (by decide +kernel))
    exact law_tail l X hr hlk hX hbl hw8.2.2 hl (Nat.le_of_ble_eq_true rfl) (Nat.le_of_ble_eq_true rfl)
  by_cases c_13971 : a1 = 3
  · subst c_13971
    refine lv_aload_n hx hb dL_law_1349 rfl (lv_at hl 2 rfl) ?_
    refine lv_aload_n hx hb dL_law_1350 rfl (lv_at hl 3 rfl) ?_
    refine lv_iload_n hx hb dL_law_1351 rfl (lv_at hl 0 rfl) ?_
    refine lv_iconst (v := 1) hx hb dL_law_1352 (by decide) ?_
    refine lv_iadd hx hb dL_law_1353 ?_
    refine q_c 1 (by decide +kernel) ?_
    refine va_sld X.1 X.2.1 hX hbl hbA hw8.2.2 (q_in (by decide +kernel)) dL_law_1354 ?_
    refine q_c 3 e1 ?_
    refine lv_aload_n hx hb dL_law_1355 rfl (lv_at hl 3 rfl) ?_
    refine lv_iload_n hx hb dL_law_1356 rfl (lv_at hl 0 rfl) ?_
    refine lv_iconst (v := 2) hx hb dL_law_1357 (by decide) ?_
    refine lv_iadd hx hb dL_law_1358 ?_
    refine q_c 2 (by decide +kernel) ?_
    refine va_sld X.1 X.2.1 hX hbl hbA hw8.2.2 (q_in (by decide +kernel)) dL_law_1359 ?_
    refine q_c a2 e2 ?_
    refine lv_aload_n hx hb dL_law_1360 rfl (lv_at hl 3 rfl) ?_
    refine lv_iload_n hx hb dL_law_1361 rfl (lv_at hl 0 rfl) ?_
    refine lv_iconst (v := 3) hx hb dL_law_1362 (by decide) ?_
    refine lv_iadd hx hb dL_law_1363 ?_
    refine q_c 3 (by decide +kernel) ?_
    refine va_sld X.1 X.2.1 hX hbl hbA hw8.2.2 (q_in (by decide +kernel)) dL_law_1364 ?_
    refine q_c a3 e3 ?_
    refine q_callVi (rest := []) (wr := [(y0, .inr (12, [.int 0, .ref (u_1.1 19), .ref (u_1.1 0), .ref (u_1.1 1), .ref (u_1.1 2), .int 0, .int 0, .int 0, .int 0, .int 0, .int 0, .int 0, .int 0, .int 0, .int (-1), .int 0, .ref (u_1.1 3), .ref (u_1.1 4), .ref (u_1.1 5), .ref (u_1.1 6), .ref (u_1.1 7), .int 0, .int 0, .ref (u_1.1 8), .ref (u_1.1 9), .ref (u_1.1 10), .int 0, .int 0, .ref (u_1.1 11), .ref (u_1.1 12), .ref (u_1.1 13), .ref (u_1.1 14), .ref (u_1.1 15), .int 0, .ref (u_1.1 16), .ref (u_1.1 17), .ref (u_1.1 18)])), ((u_1.1 19), .inl (cy 1, 3918, .inl (upd (fun _ => 0) (Int32.toNatClampNeg 1) 1)))]) X hK hA hw8 (fun sz => kX11_lists_585 l D cy x0 (u_0.1 31) (u_0.1 37) a2 a3 (u_0.1 0) (u_0.1 1) (u_0.1 39) (u_0.1 41) (u_0.1 43) (u_0.1 14) (u_0.1 15) (u_0.1 16) (u_0.1 17) (u_0.1 20) (u_0.1 24) (u_0.1 29) (u_0.1 32) (u_0.1 33) (u_0.1 34) (u_0.1 35) (u_0.1 36) (u_0.1 38)  sz) wm_5_141 wm_5_144 wm_1_1 hd_X11_lists wm_5_142 wm_5_143 (ci := 11) (q0 := 0) rfl rfl ⟨Nat.le_of_ble_eq_true rfl, Nat.le_of_ble_eq_true rfl⟩ hl.1 rfl (Nat.le_of_ble_eq_true rfl) dL_law_1365 ⟨Nat.le_of_ble_eq_true rfl, Nat.le_of_ble_eq_true rfl⟩ [0, 32, 38] [78, 98] rfl rfl (by decide) rfl rfl (fun r_14010 u_14010 Hp9 lc9 w_14010 hw9 => ?_)
    clear Hp8 lc8 hw8
    obtain rfl : r_14010 = (-2) := w_14010
    clear w_14010
    replace hw9 : qW D _ _ [(y0, .inr (12, [.int 0, .ref (u_1.1 19), .ref (u_1.1 0), .ref (u_1.1 1), .ref (u_1.1 2), .int 0, .int 0, .int 0, .int 0, .int 0, .int 0, .int 0, .int 0, .int 0, .int (-1), .int 0, .ref (u_1.1 3), .ref (u_1.1 4), .ref (u_1.1 5), .ref (u_1.1 6), .ref (u_1.1 7), .int 0, .int 0, .ref (u_1.1 8), .ref (u_1.1 9), .ref (u_1.1 10), .int 0, .int 0, .ref (u_1.1 11), .ref (u_1.1 12), .ref (u_1.1 13), .ref (u_1.1 14), .ref (u_1.1 15), .int 0, .ref (u_1.1 16), .ref (u_1.1 17), .ref (u_1.1 18)])), ((u_1.1 19), .inl (cy 1, 3918, .inl (upd (fun _ => 0) (Int32.toNatClampNeg 1) 1)))] _ _ := hw9
    refine lv_aload_n hx hb dL_law_1368 rfl (lv_at hl 1 rfl) ?_
    refine lv_aload_n hx hb dL_law_1369 rfl (lv_at hl 3 rfl) ?_
    refine lv_iload_n hx hb dL_law_1370 rfl (lv_at hl 0 rfl) ?_
    refine lv_iconst (v := 1) hx hb dL_law_1371 (by decide) ?_
    refine lv_iadd hx hb dL_law_1372 ?_
    refine q_c 1 (by decide +kernel) ?_
    refine va_sld X.1 X.2.1 hX hbl hbA hw9.2.2 (q_in (by decide +kernel)) dL_law_1373 ?_
    refine q_c 3 e1 ?_
    refine lv_aload_n hx hb dL_law_1374 rfl (lv_at hl 3 rfl) ?_
    refine lv_iload_n hx hb dL_law_1375 rfl (lv_at hl 0 rfl) ?_
    refine lv_iconst (v := 2) hx hb dL_law_1376 (by decide) ?_
    refine lv_iadd hx hb dL_law_1377 ?_
    refine q_c 2 (by decide +kernel) ?_
    refine va_sld X.1 X.2.1 hX hbl hbA hw9.2.2 (q_in (by decide +kernel)) dL_law_1378 ?_
    refine q_c a2 e2 ?_
    refine lv_aload_n hx hb dL_law_1379 rfl (lv_at hl 3 rfl) ?_
    refine lv_iload_n hx hb dL_law_1380 rfl (lv_at hl 0 rfl) ?_
    refine lv_iconst (v := 3) hx hb dL_law_1381 (by decide) ?_
    refine lv_iadd hx hb dL_law_1382 ?_
    refine q_c 3 (by decide +kernel) ?_
    refine va_sld X.1 X.2.1 hX hbl hbA hw9.2.2 (q_in (by decide +kernel)) dL_law_1383 ?_
    refine q_c a3 e3 ?_
    refine q_callVi (rest := [.int (-2)]) (wr := []) X hK hA hw9 (fun sz => kX12_lists_586 l D cy y0 (u_1.1 19) a2 a3 (u_1.1 0) (u_1.1 1) (u_1.1 2) (u_1.1 3) (u_1.1 4) (u_1.1 5) (u_1.1 6) (u_1.1 7) (u_1.1 8) (u_1.1 9) (u_1.1 10) (u_1.1 11) (u_1.1 12) (u_1.1 13) (u_1.1 14) (u_1.1 15) (u_1.1 16) (u_1.1 17) (u_1.1 18) (upd (fun _ => 0) (Int32.toNatClampNeg 1) 1) (q_un (by decide +kernel) rfl) sz) wm_8_39 wm_8_42 wm_1_12 hd_X12_lists wm_8_40 wm_8_41 (ci := 12) (q0 := 0) rfl rfl ⟨Nat.le_of_ble_eq_true rfl, Nat.le_of_ble_eq_true rfl⟩ hl.1 rfl (Nat.le_of_ble_eq_true rfl) dL_law_1384 ⟨Nat.le_of_ble_eq_true rfl, Nat.le_of_ble_eq_true rfl⟩ [0, 1] [] rfl rfl (by decide) rfl rfl (fun r_14017 u_14017 Hp10 lc10 w_14017 hw10 => ?_)
    clear Hp9 lc9 hw9
    obtain rfl : r_14017 = (-2) := w_14017
    clear w_14017
    replace hw10 : qW D _ _ [] _ _ := hw10
    refine lv_icmp_eq (tgt := 1461) hx hb dL_law_1387 (by decide) (fun _ => ?_) (fun c => absurd c (by decide +kernel))
    exact law_tail l X hr hlk hX hbl hw10.2.2 hl (Nat.le_of_ble_eq_true rfl) (Nat.le_of_ble_eq_true rfl)
  refine lv_aload_n hx hb dL_law_1349 rfl (lv_at hl 2 rfl) ?_
  refine lv_aload_n hx hb dL_law_1350 rfl (lv_at hl 3 rfl) ?_
  refine lv_iload_n hx hb dL_law_1351 rfl (lv_at hl 0 rfl) ?_
  refine lv_iconst (v := 1) hx hb dL_law_1352 (by decide) ?_
  refine lv_iadd hx hb dL_law_1353 ?_
  refine q_c 1 (by decide +kernel) ?_
  refine va_sld X.1 X.2.1 hX hbl hbA hw10.2.2 (q_in (by decide +kernel)) dL_law_1354 ?_
  refine q_c a1 e1 ?_
  refine lv_aload_n hx hb dL_law_1355 rfl (lv_at hl 3 rfl) ?_
  refine lv_iload_n hx hb dL_law_1356 rfl (lv_at hl 0 rfl) ?_
  refine lv_iconst (v := 2) hx hb dL_law_1357 (by decide) ?_
  refine lv_iadd hx hb dL_law_1358 ?_
  refine q_c 2 (by decide +kernel) ?_
  refine va_sld X.1 X.2.1 hX hbl hbA hw10.2.2 (q_in (by decide +kernel)) dL_law_1359 ?_
  refine q_c a2 e2 ?_
  refine lv_aload_n hx hb dL_law_1360 rfl (lv_at hl 3 rfl) ?_
  refine lv_iload_n hx hb dL_law_1361 rfl (lv_at hl 0 rfl) ?_
  refine lv_iconst (v := 3) hx hb dL_law_1362 (by decide) ?_
  refine lv_iadd hx hb dL_law_1363 ?_
  refine q_c 3 (by decide +kernel) ?_
  refine va_sld X.1 X.2.1 hX hbl hbA hw10.2.2 (q_in (by decide +kernel)) dL_law_1364 ?_
  refine q_c a3 e3 ?_
  have g_14047 : (4 : Int32) ≤ a1 := by
    simp only [Int32.lt_iff_toInt_lt, Int32.le_iff_toInt_le, ← Int32.toInt_inj] at c_13791 c_13820 c_13877 c_13924 c_13971 ⊢
    have k_0 : ((-1) : Int32).toInt = -1 := by decide
    have k_1 : (0 : Int32).toInt = 0 := by decide
    have k_2 : (1 : Int32).toInt = 1 := by decide
    have k_3 : (2 : Int32).toInt = 2 := by decide
    have k_4 : (3 : Int32).toInt = 3 := by decide
    have k_g : (4 : Int32).toInt = 4 := by decide
    omega
  refine q_callVi (rest := []) (wr := [(y0, .inr (12, [.int 0, .ref (u_1.1 19), .ref (u_1.1 0), .ref (u_1.1 1), .ref (u_1.1 2), .int 0, .int 0, .int 0, .int 0, .int 0, .int 0, .int 0, .int 0, .int 0, .int (-1), .int 0, .ref (u_1.1 3), .ref (u_1.1 4), .ref (u_1.1 5), .ref (u_1.1 6), .ref (u_1.1 7), .int 0, .int 0, .ref (u_1.1 8), .ref (u_1.1 9), .ref (u_1.1 10), .int 0, .int 0, .ref (u_1.1 11), .ref (u_1.1 12), .ref (u_1.1 13), .ref (u_1.1 14), .ref (u_1.1 15), .int 0, .ref (u_1.1 16), .ref (u_1.1 17), .ref (u_1.1 18)]))]) X hK hA hw10 (fun sz => kX11_lists_587 l D cy x0 a1 a2 a3 (u_0.1 0) (u_0.1 1) (u_0.1 37) (u_0.1 39) (u_0.1 41) (u_0.1 43) (u_0.1 14) (u_0.1 15) (u_0.1 16) (u_0.1 17) (u_0.1 20) (u_0.1 24) (u_0.1 29) g_14047 sz) wm_5_141 wm_5_144 wm_1_1 hd_X11_lists wm_5_142 wm_5_143 (ci := 11) (q0 := 0) rfl rfl ⟨Nat.le_of_ble_eq_true rfl, Nat.le_of_ble_eq_true rfl⟩ hl.1 rfl (Nat.le_of_ble_eq_true rfl) dL_law_1365 ⟨Nat.le_of_ble_eq_true rfl, Nat.le_of_ble_eq_true rfl⟩ [0] [78] rfl rfl (by decide) rfl rfl (fun r_14048 u_14048 Hp11 lc11 w_14048 hw11 => ?_)
  clear Hp10 lc10 hw10
  obtain rfl : r_14048 = (-2) := w_14048
  clear w_14048
  replace hw11 : qW D _ _ [(y0, .inr (12, [.int 0, .ref (u_1.1 19), .ref (u_1.1 0), .ref (u_1.1 1), .ref (u_1.1 2), .int 0, .int 0, .int 0, .int 0, .int 0, .int 0, .int 0, .int 0, .int 0, .int (-1), .int 0, .ref (u_1.1 3), .ref (u_1.1 4), .ref (u_1.1 5), .ref (u_1.1 6), .ref (u_1.1 7), .int 0, .int 0, .ref (u_1.1 8), .ref (u_1.1 9), .ref (u_1.1 10), .int 0, .int 0, .ref (u_1.1 11), .ref (u_1.1 12), .ref (u_1.1 13), .ref (u_1.1 14), .ref (u_1.1 15), .int 0, .ref (u_1.1 16), .ref (u_1.1 17), .ref (u_1.1 18)]))] _ _ := hw11
  refine lv_aload_n hx hb dL_law_1368 rfl (lv_at hl 1 rfl) ?_
  refine lv_aload_n hx hb dL_law_1369 rfl (lv_at hl 3 rfl) ?_
  refine lv_iload_n hx hb dL_law_1370 rfl (lv_at hl 0 rfl) ?_
  refine lv_iconst (v := 1) hx hb dL_law_1371 (by decide) ?_
  refine lv_iadd hx hb dL_law_1372 ?_
  refine q_c 1 (by decide +kernel) ?_
  refine va_sld X.1 X.2.1 hX hbl hbA hw11.2.2 (q_in (by decide +kernel)) dL_law_1373 ?_
  refine q_c a1 e1 ?_
  refine lv_aload_n hx hb dL_law_1374 rfl (lv_at hl 3 rfl) ?_
  refine lv_iload_n hx hb dL_law_1375 rfl (lv_at hl 0 rfl) ?_
  refine lv_iconst (v := 2) hx hb dL_law_1376 (by decide) ?_
  refine lv_iadd hx hb dL_law_1377 ?_
  refine q_c 2 (by decide +kernel) ?_
  refine va_sld X.1 X.2.1 hX hbl hbA hw11.2.2 (q_in (by decide +kernel)) dL_law_1378 ?_
  refine q_c a2 e2 ?_
  refine lv_aload_n hx hb dL_law_1379 rfl (lv_at hl 3 rfl) ?_
  refine lv_iload_n hx hb dL_law_1380 rfl (lv_at hl 0 rfl) ?_
  refine lv_iconst (v := 3) hx hb dL_law_1381 (by decide) ?_
  refine lv_iadd hx hb dL_law_1382 ?_
  refine q_c 3 (by decide +kernel) ?_
  refine va_sld X.1 X.2.1 hX hbl hbA hw11.2.2 (q_in (by decide +kernel)) dL_law_1383 ?_
  refine q_c a3 e3 ?_
  have g_14053 : (4 : Int32) ≤ a1 := by
    simp only [Int32.lt_iff_toInt_lt, Int32.le_iff_toInt_le, ← Int32.toInt_inj] at c_13791 c_13820 c_13877 c_13924 c_13971 ⊢
    have k_0 : ((-1) : Int32).toInt = -1 := by decide
    have k_1 : (0 : Int32).toInt = 0 := by decide
    have k_2 : (1 : Int32).toInt = 1 := by decide
    have k_3 : (2 : Int32).toInt = 2 := by decide
    have k_4 : (3 : Int32).toInt = 3 := by decide
    have k_g : (4 : Int32).toInt = 4 := by decide
    omega
  refine q_callVi (rest := [.int (-2)]) (wr := []) X hK hA hw11 (fun sz => kX12_lists_588 l D cy y0 a1 a2 a3 (u_1.1 19) (u_1.1 0) (u_1.1 1) (u_1.1 2) (u_1.1 3) (u_1.1 4) (u_1.1 5) (u_1.1 6) (u_1.1 7) (u_1.1 8) (u_1.1 9) (u_1.1 10) (u_1.1 11) (u_1.1 12) (u_1.1 13) (u_1.1 14) (u_1.1 15) (u_1.1 16) (u_1.1 17) (u_1.1 18) g_14053 sz) wm_8_39 wm_8_42 wm_1_12 hd_X12_lists wm_8_40 wm_8_41 (ci := 12) (q0 := 0) rfl rfl ⟨Nat.le_of_ble_eq_true rfl, Nat.le_of_ble_eq_true rfl⟩ hl.1 rfl (Nat.le_of_ble_eq_true rfl) dL_law_1384 ⟨Nat.le_of_ble_eq_true rfl, Nat.le_of_ble_eq_true rfl⟩ [0] [] rfl rfl (by decide) rfl rfl (fun r_14054 u_14054 Hp12 lc12 w_14054 hw12 => ?_)
  clear Hp11 lc11 hw11
  obtain rfl : r_14054 = (-2) := w_14054
  clear w_14054
  replace hw12 : qW D _ _ [] _ _ := hw12
  refine lv_icmp_eq (tgt := 1461) hx hb dL_law_1387 (by decide) (fun _ => ?_) (fun c => absurd c (by decide +kernel))
  exact law_tail l X hr hlk hX hbl hw12.2.2 hl (Nat.le_of_ble_eq_true rfl) (Nat.le_of_ble_eq_true rfl)
set_option maxHeartbeats 4000000 in
set_option maxRecDepth 100000 in
theorem lc_image (l : Launch) {p : Program} {e : Env} {s : State} {m : MethodId} {below : List Frame} {meth : Method} {c : Code} {b : Nat} {xs : Nat → Int32} {D : va_G} {cy : Nat → ClassId} {H : Heap} {locs : List Loc} {ls : Array Slot} {x0 y0 : Nat} {u_0 u_1 : SS} (X : qX p s m #[Value.ref b] c cL_law 4 RL) (hr : meth.sig.returnType = ret) (hlk : meth.locks = false) (hX : va_X b 6 xs s s.heap) (hbl : b < s.heap.size) (hK : qK D cy s) (a1 a2 a3 a4 a5 : Int32) (e1 : xs (Int32.toNatClampNeg 1) = a1) (e2 : xs (Int32.toNatClampNeg 2) = a2) (e3 : xs (Int32.toNatClampNeg 3) = a3) (e4 : xs (Int32.toNatClampNeg 4) = a4) (e5 : xs (Int32.toNatClampNeg 5) = a5) (h : qW D (fun q => s.heap.size ≤ q) s.heap (wLaw cy x0 y0 u_0 u_1) H locs) (hl : lv_has ls 4 [(3, .int 0), (2, .ref y0), (1, .ref x0), (0, .ref b)]) : W p l e room_1 s m #[Value.ref b] below meth c H locs 99 25544 (lw_Z below #[Value.ref b] s) (F0 m 1392 ls []) := by
  obtain ⟨hx, hb, hml, hown, ht⟩ := id X
  have hA : ∀ q : Nat, s.heap.size ≤ q → (fun q : Nat => s.heap.size ≤ q) q := fun _ h => h
  have hbA : ¬ (fun q : Nat => s.heap.size ≤ q) b := Nat.not_le.mpr hbl
  by_cases c_14057 : a1 ≤ (-1)
  · skip
    refine lv_aload_n hx hb dL_law_1392 rfl (lv_at hl 2 rfl) ?_
    refine lv_aload_n hx hb dL_law_1393 rfl (lv_at hl 3 rfl) ?_
    refine lv_iload_n hx hb dL_law_1394 rfl (lv_at hl 0 rfl) ?_
    refine lv_iconst (v := 1) hx hb dL_law_1395 (by decide) ?_
    refine lv_iadd hx hb dL_law_1396 ?_
    refine q_c 1 (by decide +kernel) ?_
    refine va_sld X.1 X.2.1 hX hbl hbA h.2.2 (q_in (by decide +kernel)) dL_law_1397 ?_
    refine q_c a1 e1 ?_
    have g_14071 : a1 ≤ ((-1) : Int32) := by
      simp only [Int32.lt_iff_toInt_lt, Int32.le_iff_toInt_le, ← Int32.toInt_inj] at c_14057 ⊢
      have k_0 : ((-1) : Int32).toInt = -1 := by decide
      omega
    refine q_callVi (rest := []) (wr := [(y0, .inr (12, [.int 0, .ref (u_1.1 19), .ref (u_1.1 0), .ref (u_1.1 1), .ref (u_1.1 2), .int 0, .int 0, .int 0, .int 0, .int 0, .int 0, .int 0, .int 0, .int 0, .int (-1), .int 0, .ref (u_1.1 3), .ref (u_1.1 4), .ref (u_1.1 5), .ref (u_1.1 6), .ref (u_1.1 7), .int 0, .int 0, .ref (u_1.1 8), .ref (u_1.1 9), .ref (u_1.1 10), .int 0, .int 0, .ref (u_1.1 11), .ref (u_1.1 12), .ref (u_1.1 13), .ref (u_1.1 14), .ref (u_1.1 15), .int 0, .ref (u_1.1 16), .ref (u_1.1 17), .ref (u_1.1 18)]))]) X hK hA h (fun sz => kX11_image_589 l D cy x0 a1 (u_0.1 0) (u_0.1 1) (u_0.1 37) (u_0.1 39) (u_0.1 41) (u_0.1 43) (u_0.1 14) (u_0.1 15) (u_0.1 16) (u_0.1 17) (u_0.1 20) (u_0.1 24) (u_0.1 29) g_14071 sz) wm_5_145 wm_5_148 wm_1_1 hd_X11_image wm_5_146 wm_5_147 (ci := 11) (q0 := 0) rfl rfl ⟨Nat.le_of_ble_eq_true rfl, Nat.le_of_ble_eq_true rfl⟩ hl.1 rfl (Nat.le_of_ble_eq_true rfl) dL_law_1398 ⟨Nat.le_of_ble_eq_true rfl, Nat.le_of_ble_eq_true rfl⟩ [0] [78] rfl rfl (by decide) rfl rfl (fun r_14072 u_14072 Hp1 lc1 w_14072 hw1 => ?_)
    clear h
    obtain rfl : r_14072 = (-2) := w_14072
    clear w_14072
    replace hw1 : qW D _ _ [(y0, .inr (12, [.int 0, .ref (u_1.1 19), .ref (u_1.1 0), .ref (u_1.1 1), .ref (u_1.1 2), .int 0, .int 0, .int 0, .int 0, .int 0, .int 0, .int 0, .int 0, .int 0, .int (-1), .int 0, .ref (u_1.1 3), .ref (u_1.1 4), .ref (u_1.1 5), .ref (u_1.1 6), .ref (u_1.1 7), .int 0, .int 0, .ref (u_1.1 8), .ref (u_1.1 9), .ref (u_1.1 10), .int 0, .int 0, .ref (u_1.1 11), .ref (u_1.1 12), .ref (u_1.1 13), .ref (u_1.1 14), .ref (u_1.1 15), .int 0, .ref (u_1.1 16), .ref (u_1.1 17), .ref (u_1.1 18)]))] _ _ := hw1
    refine lv_aload_n hx hb dL_law_1401 rfl (lv_at hl 1 rfl) ?_
    refine lv_aload_n hx hb dL_law_1402 rfl (lv_at hl 3 rfl) ?_
    refine lv_iload_n hx hb dL_law_1403 rfl (lv_at hl 0 rfl) ?_
    refine lv_iconst (v := 1) hx hb dL_law_1404 (by decide) ?_
    refine lv_iadd hx hb dL_law_1405 ?_
    refine q_c 1 (by decide +kernel) ?_
    refine va_sld X.1 X.2.1 hX hbl hbA hw1.2.2 (q_in (by decide +kernel)) dL_law_1406 ?_
    refine q_c a1 e1 ?_
    have g_14076 : a1 ≤ ((-1) : Int32) := by
      simp only [Int32.lt_iff_toInt_lt, Int32.le_iff_toInt_le, ← Int32.toInt_inj] at c_14057 ⊢
      have k_0 : ((-1) : Int32).toInt = -1 := by decide
      omega
    refine q_callVi (rest := [.int (-2)]) (wr := []) X hK hA hw1 (fun sz => kX12_image_590 l D cy y0 a1 (u_1.1 19) (u_1.1 0) (u_1.1 1) (u_1.1 2) (u_1.1 3) (u_1.1 4) (u_1.1 5) (u_1.1 6) (u_1.1 7) (u_1.1 8) (u_1.1 9) (u_1.1 10) (u_1.1 11) (u_1.1 12) (u_1.1 13) (u_1.1 14) (u_1.1 15) (u_1.1 16) (u_1.1 17) (u_1.1 18) g_14076 sz) wm_8_43 wm_8_46 wm_1_12 hd_X12_image wm_8_44 wm_8_45 (ci := 12) (q0 := 0) rfl rfl ⟨Nat.le_of_ble_eq_true rfl, Nat.le_of_ble_eq_true rfl⟩ hl.1 rfl (Nat.le_of_ble_eq_true rfl) dL_law_1407 ⟨Nat.le_of_ble_eq_true rfl, Nat.le_of_ble_eq_true rfl⟩ [0] [] rfl rfl (by decide) rfl rfl (fun r_14077 u_14077 Hp2 lc2 w_14077 hw2 => ?_)
    clear Hp1 lc1 hw1
    obtain rfl : r_14077 = (-2) := w_14077
    clear w_14077
    replace hw2 : qW D _ _ [] _ _ := hw2
    refine lv_icmp_eq (tgt := 1461) hx hb dL_law_1410 (by decide) (fun _ => ?_) (fun c => absurd c (by decide +kernel))
    exact law_tail l X hr hlk hX hbl hw2.2.2 hl (Nat.le_of_ble_eq_true rfl) (Nat.le_of_ble_eq_true rfl)
  by_cases c_14078 : a1 = 0
  · subst c_14078
    refine lv_aload_n hx hb dL_law_1392 rfl (lv_at hl 2 rfl) ?_
    refine lv_aload_n hx hb dL_law_1393 rfl (lv_at hl 3 rfl) ?_
    refine lv_iload_n hx hb dL_law_1394 rfl (lv_at hl 0 rfl) ?_
    refine lv_iconst (v := 1) hx hb dL_law_1395 (by decide) ?_
    refine lv_iadd hx hb dL_law_1396 ?_
    refine q_c 1 (by decide +kernel) ?_
    refine va_sld X.1 X.2.1 hX hbl hbA hw2.2.2 (q_in (by decide +kernel)) dL_law_1397 ?_
    refine q_c 0 e1 ?_
    refine q_callVi (rest := []) (wr := [(y0, .inr (12, [.int 0, .ref (u_1.1 19), .ref (u_1.1 0), .ref (u_1.1 1), .ref (u_1.1 2), .int 0, .int 0, .int 0, .int 0, .int 0, .int 0, .int 0, .int 0, .int 0, .int (-1), .int 0, .ref (u_1.1 3), .ref (u_1.1 4), .ref (u_1.1 5), .ref (u_1.1 6), .ref (u_1.1 7), .int 0, .int 0, .ref (u_1.1 8), .ref (u_1.1 9), .ref (u_1.1 10), .int 0, .int 0, .ref (u_1.1 11), .ref (u_1.1 12), .ref (u_1.1 13), .ref (u_1.1 14), .ref (u_1.1 15), .int 0, .ref (u_1.1 16), .ref (u_1.1 17), .ref (u_1.1 18)])), ((u_1.1 0), .inl (cy 3, 2, .inl (fun _ => 0))), ((u_1.1 19), .inl (cy 1, 3918, .inl (upd (fun _ => 0) (Int32.toNatClampNeg 1) 1)))]) X hK hA hw2 (fun sz => kX11_image_591 l D cy x0 (u_0.1 15) (u_0.1 16) (u_0.1 37) (u_0.1 38) (u_0.1 73) (u_0.1 74) (u_0.1 0) (u_0.1 1) (u_0.1 39) (u_0.1 41) (u_0.1 43) (u_0.1 14) (u_0.1 17) (u_0.1 20) (u_0.1 24) (u_0.1 29) (u_0.1 75) (u_0.1 31)  sz) wm_5_145 wm_5_148 wm_1_1 hd_X11_image wm_5_146 wm_5_147 (ci := 11) (q0 := 0) rfl rfl ⟨Nat.le_of_ble_eq_true rfl, Nat.le_of_ble_eq_true rfl⟩ hl.1 rfl (Nat.le_of_ble_eq_true rfl) dL_law_1398 ⟨Nat.le_of_ble_eq_true rfl, Nat.le_of_ble_eq_true rfl⟩ [0, 16, 17, 38, 39, 74, 75] [78, 79, 98] rfl rfl (by decide) rfl rfl (fun r_14102 u_14102 Hp3 lc3 w_14102 hw3 => ?_)
    clear Hp2 lc2 hw2
    obtain rfl : r_14102 = 0 := w_14102
    clear w_14102
    replace hw3 : qW D _ _ [(y0, .inr (12, [.int 0, .ref (u_1.1 19), .ref (u_1.1 0), .ref (u_1.1 1), .ref (u_1.1 2), .int 0, .int 0, .int 0, .int 0, .int 0, .int 0, .int 0, .int 0, .int 0, .int (-1), .int 0, .ref (u_1.1 3), .ref (u_1.1 4), .ref (u_1.1 5), .ref (u_1.1 6), .ref (u_1.1 7), .int 0, .int 0, .ref (u_1.1 8), .ref (u_1.1 9), .ref (u_1.1 10), .int 0, .int 0, .ref (u_1.1 11), .ref (u_1.1 12), .ref (u_1.1 13), .ref (u_1.1 14), .ref (u_1.1 15), .int 0, .ref (u_1.1 16), .ref (u_1.1 17), .ref (u_1.1 18)])), ((u_1.1 0), .inl (cy 3, 2, .inl (fun _ => 0))), ((u_1.1 19), .inl (cy 1, 3918, .inl (upd (fun _ => 0) (Int32.toNatClampNeg 1) 1)))] _ _ := hw3
    refine lv_aload_n hx hb dL_law_1401 rfl (lv_at hl 1 rfl) ?_
    refine lv_aload_n hx hb dL_law_1402 rfl (lv_at hl 3 rfl) ?_
    refine lv_iload_n hx hb dL_law_1403 rfl (lv_at hl 0 rfl) ?_
    refine lv_iconst (v := 1) hx hb dL_law_1404 (by decide) ?_
    refine lv_iadd hx hb dL_law_1405 ?_
    refine q_c 1 (by decide +kernel) ?_
    refine va_sld X.1 X.2.1 hX hbl hbA hw3.2.2 (q_in (by decide +kernel)) dL_law_1406 ?_
    refine q_c 0 e1 ?_
    refine q_callVi (rest := [.int 0]) (wr := []) X hK hA hw3 (fun sz => kX12_image_592 l D cy y0 (u_1.1 0) (u_1.1 19) (u_1.1 1) (u_1.1 2) (u_1.1 3) (u_1.1 4) (u_1.1 5) (u_1.1 6) (u_1.1 7) (u_1.1 8) (u_1.1 9) (u_1.1 10) (u_1.1 11) (u_1.1 12) (u_1.1 13) (u_1.1 14) (u_1.1 15) (u_1.1 16) (u_1.1 17) (u_1.1 18)  sz) wm_8_43 wm_8_46 wm_1_12 hd_X12_image wm_8_44 wm_8_45 (ci := 12) (q0 := 0) rfl rfl ⟨Nat.le_of_ble_eq_true rfl, Nat.le_of_ble_eq_true rfl⟩ hl.1 rfl (Nat.le_of_ble_eq_true rfl) dL_law_1407 ⟨Nat.le_of_ble_eq_true rfl, Nat.le_of_ble_eq_true rfl⟩ [0, 1, 2] [] rfl rfl (by decide) rfl rfl (fun r_14108 u_14108 Hp4 lc4 w_14108 hw4 => ?_)
    clear Hp3 lc3 hw3
    obtain rfl : r_14108 = 0 := w_14108
    clear w_14108
    replace hw4 : qW D _ _ [] _ _ := hw4
    refine lv_icmp_eq (tgt := 1461) hx hb dL_law_1410 (by decide) (fun _ => ?_) (fun c => absurd c (by decide +kernel))
    exact law_tail l X hr hlk hX hbl hw4.2.2 hl (Nat.le_of_ble_eq_true rfl) (Nat.le_of_ble_eq_true rfl)
  by_cases c_14109 : a1 = 1
  · subst c_14109
    refine lv_aload_n hx hb dL_law_1392 rfl (lv_at hl 2 rfl) ?_
    refine lv_aload_n hx hb dL_law_1393 rfl (lv_at hl 3 rfl) ?_
    refine lv_iload_n hx hb dL_law_1394 rfl (lv_at hl 0 rfl) ?_
    refine lv_iconst (v := 1) hx hb dL_law_1395 (by decide) ?_
    refine lv_iadd hx hb dL_law_1396 ?_
    refine q_c 1 (by decide +kernel) ?_
    refine va_sld X.1 X.2.1 hX hbl hbA hw4.2.2 (q_in (by decide +kernel)) dL_law_1397 ?_
    refine q_c 1 e1 ?_
    refine q_callVi (rest := []) (wr := [(y0, .inr (12, [.int 0, .ref (u_1.1 19), .ref (u_1.1 0), .ref (u_1.1 1), .ref (u_1.1 2), .int 0, .int 0, .int 0, .int 0, .int 0, .int 0, .int 0, .int 0, .int 0, .int (-1), .int 0, .ref (u_1.1 3), .ref (u_1.1 4), .ref (u_1.1 5), .ref (u_1.1 6), .ref (u_1.1 7), .int 0, .int 0, .ref (u_1.1 8), .ref (u_1.1 9), .ref (u_1.1 10), .int 0, .int 0, .ref (u_1.1 11), .ref (u_1.1 12), .ref (u_1.1 13), .ref (u_1.1 14), .ref (u_1.1 15), .int 0, .ref (u_1.1 16), .ref (u_1.1 17), .ref (u_1.1 18)])), ((u_1.1 0), .inl (cy 3, 2, .inl (fun _ => 0))), ((u_1.1 19), .inl (cy 1, 3918, .inl (upd (fun _ => 0) (Int32.toNatClampNeg 1) 1)))]) X hK hA hw4 (fun sz => kX11_image_593 l D cy x0 (u_0.1 15) (u_0.1 16) (u_0.1 37) (u_0.1 38) (u_0.1 75) (u_0.1 76) (u_0.1 0) (u_0.1 1) (u_0.1 39) (u_0.1 41) (u_0.1 43) (u_0.1 14) (u_0.1 17) (u_0.1 20) (u_0.1 24) (u_0.1 29) (u_0.1 73) (u_0.1 31)  sz) wm_5_145 wm_5_148 wm_1_1 hd_X11_image wm_5_146 wm_5_147 (ci := 11) (q0 := 0) rfl rfl ⟨Nat.le_of_ble_eq_true rfl, Nat.le_of_ble_eq_true rfl⟩ hl.1 rfl (Nat.le_of_ble_eq_true rfl) dL_law_1398 ⟨Nat.le_of_ble_eq_true rfl, Nat.le_of_ble_eq_true rfl⟩ [0, 16, 17, 38, 39, 76, 77] [78, 79, 98] rfl rfl (by decide) rfl rfl (fun r_14133 u_14133 Hp5 lc5 w_14133 hw5 => ?_)
    clear Hp4 lc4 hw4
    obtain rfl : r_14133 = 0 := w_14133
    clear w_14133
    replace hw5 : qW D _ _ [(y0, .inr (12, [.int 0, .ref (u_1.1 19), .ref (u_1.1 0), .ref (u_1.1 1), .ref (u_1.1 2), .int 0, .int 0, .int 0, .int 0, .int 0, .int 0, .int 0, .int 0, .int 0, .int (-1), .int 0, .ref (u_1.1 3), .ref (u_1.1 4), .ref (u_1.1 5), .ref (u_1.1 6), .ref (u_1.1 7), .int 0, .int 0, .ref (u_1.1 8), .ref (u_1.1 9), .ref (u_1.1 10), .int 0, .int 0, .ref (u_1.1 11), .ref (u_1.1 12), .ref (u_1.1 13), .ref (u_1.1 14), .ref (u_1.1 15), .int 0, .ref (u_1.1 16), .ref (u_1.1 17), .ref (u_1.1 18)])), ((u_1.1 0), .inl (cy 3, 2, .inl (fun _ => 0))), ((u_1.1 19), .inl (cy 1, 3918, .inl (upd (fun _ => 0) (Int32.toNatClampNeg 1) 1)))] _ _ := hw5
    refine lv_aload_n hx hb dL_law_1401 rfl (lv_at hl 1 rfl) ?_
    refine lv_aload_n hx hb dL_law_1402 rfl (lv_at hl 3 rfl) ?_
    refine lv_iload_n hx hb dL_law_1403 rfl (lv_at hl 0 rfl) ?_
    refine lv_iconst (v := 1) hx hb dL_law_1404 (by decide) ?_
    refine lv_iadd hx hb dL_law_1405 ?_
    refine q_c 1 (by decide +kernel) ?_
    refine va_sld X.1 X.2.1 hX hbl hbA hw5.2.2 (q_in (by decide +kernel)) dL_law_1406 ?_
    refine q_c 1 e1 ?_
    refine q_callVi (rest := [.int 0]) (wr := []) X hK hA hw5 (fun sz => kX12_image_594 l D cy y0 (u_1.1 0) (u_1.1 19) (u_1.1 1) (u_1.1 2) (u_1.1 3) (u_1.1 4) (u_1.1 5) (u_1.1 6) (u_1.1 7) (u_1.1 8) (u_1.1 9) (u_1.1 10) (u_1.1 11) (u_1.1 12) (u_1.1 13) (u_1.1 14) (u_1.1 15) (u_1.1 16) (u_1.1 17) (u_1.1 18)  sz) wm_8_43 wm_8_46 wm_1_12 hd_X12_image wm_8_44 wm_8_45 (ci := 12) (q0 := 0) rfl rfl ⟨Nat.le_of_ble_eq_true rfl, Nat.le_of_ble_eq_true rfl⟩ hl.1 rfl (Nat.le_of_ble_eq_true rfl) dL_law_1407 ⟨Nat.le_of_ble_eq_true rfl, Nat.le_of_ble_eq_true rfl⟩ [0, 1, 2] [] rfl rfl (by decide) rfl rfl (fun r_14139 u_14139 Hp6 lc6 w_14139 hw6 => ?_)
    clear Hp5 lc5 hw5
    obtain rfl : r_14139 = 0 := w_14139
    clear w_14139
    replace hw6 : qW D _ _ [] _ _ := hw6
    refine lv_icmp_eq (tgt := 1461) hx hb dL_law_1410 (by decide) (fun _ => ?_) (fun c => absurd c (by decide +kernel))
    exact law_tail l X hr hlk hX hbl hw6.2.2 hl (Nat.le_of_ble_eq_true rfl) (Nat.le_of_ble_eq_true rfl)
  refine lv_aload_n hx hb dL_law_1392 rfl (lv_at hl 2 rfl) ?_
  refine lv_aload_n hx hb dL_law_1393 rfl (lv_at hl 3 rfl) ?_
  refine lv_iload_n hx hb dL_law_1394 rfl (lv_at hl 0 rfl) ?_
  refine lv_iconst (v := 1) hx hb dL_law_1395 (by decide) ?_
  refine lv_iadd hx hb dL_law_1396 ?_
  refine q_c 1 (by decide +kernel) ?_
  refine va_sld X.1 X.2.1 hX hbl hbA hw6.2.2 (q_in (by decide +kernel)) dL_law_1397 ?_
  refine q_c a1 e1 ?_
  have g_14161 : (2 : Int32) ≤ a1 := by
    simp only [Int32.lt_iff_toInt_lt, Int32.le_iff_toInt_le, ← Int32.toInt_inj] at c_14057 c_14078 c_14109 ⊢
    have k_0 : ((-1) : Int32).toInt = -1 := by decide
    have k_1 : (0 : Int32).toInt = 0 := by decide
    have k_2 : (1 : Int32).toInt = 1 := by decide
    have k_g : (2 : Int32).toInt = 2 := by decide
    omega
  refine q_callVi (rest := []) (wr := [(y0, .inr (12, [.int 0, .ref (u_1.1 19), .ref (u_1.1 0), .ref (u_1.1 1), .ref (u_1.1 2), .int 0, .int 0, .int 0, .int 0, .int 0, .int 0, .int 0, .int 0, .int 0, .int (-1), .int 0, .ref (u_1.1 3), .ref (u_1.1 4), .ref (u_1.1 5), .ref (u_1.1 6), .ref (u_1.1 7), .int 0, .int 0, .ref (u_1.1 8), .ref (u_1.1 9), .ref (u_1.1 10), .int 0, .int 0, .ref (u_1.1 11), .ref (u_1.1 12), .ref (u_1.1 13), .ref (u_1.1 14), .ref (u_1.1 15), .int 0, .ref (u_1.1 16), .ref (u_1.1 17), .ref (u_1.1 18)]))]) X hK hA hw6 (fun sz => kX11_image_595 l D cy x0 a1 (u_0.1 0) (u_0.1 1) (u_0.1 37) (u_0.1 39) (u_0.1 41) (u_0.1 43) (u_0.1 14) (u_0.1 15) (u_0.1 16) (u_0.1 17) (u_0.1 20) (u_0.1 24) (u_0.1 29) g_14161 sz) wm_5_145 wm_5_148 wm_1_1 hd_X11_image wm_5_146 wm_5_147 (ci := 11) (q0 := 0) rfl rfl ⟨Nat.le_of_ble_eq_true rfl, Nat.le_of_ble_eq_true rfl⟩ hl.1 rfl (Nat.le_of_ble_eq_true rfl) dL_law_1398 ⟨Nat.le_of_ble_eq_true rfl, Nat.le_of_ble_eq_true rfl⟩ [0] [78] rfl rfl (by decide) rfl rfl (fun r_14162 u_14162 Hp7 lc7 w_14162 hw7 => ?_)
  clear Hp6 lc6 hw6
  obtain rfl : r_14162 = (-2) := w_14162
  clear w_14162
  replace hw7 : qW D _ _ [(y0, .inr (12, [.int 0, .ref (u_1.1 19), .ref (u_1.1 0), .ref (u_1.1 1), .ref (u_1.1 2), .int 0, .int 0, .int 0, .int 0, .int 0, .int 0, .int 0, .int 0, .int 0, .int (-1), .int 0, .ref (u_1.1 3), .ref (u_1.1 4), .ref (u_1.1 5), .ref (u_1.1 6), .ref (u_1.1 7), .int 0, .int 0, .ref (u_1.1 8), .ref (u_1.1 9), .ref (u_1.1 10), .int 0, .int 0, .ref (u_1.1 11), .ref (u_1.1 12), .ref (u_1.1 13), .ref (u_1.1 14), .ref (u_1.1 15), .int 0, .ref (u_1.1 16), .ref (u_1.1 17), .ref (u_1.1 18)]))] _ _ := hw7
  refine lv_aload_n hx hb dL_law_1401 rfl (lv_at hl 1 rfl) ?_
  refine lv_aload_n hx hb dL_law_1402 rfl (lv_at hl 3 rfl) ?_
  refine lv_iload_n hx hb dL_law_1403 rfl (lv_at hl 0 rfl) ?_
  refine lv_iconst (v := 1) hx hb dL_law_1404 (by decide) ?_
  refine lv_iadd hx hb dL_law_1405 ?_
  refine q_c 1 (by decide +kernel) ?_
  refine va_sld X.1 X.2.1 hX hbl hbA hw7.2.2 (q_in (by decide +kernel)) dL_law_1406 ?_
  refine q_c a1 e1 ?_
  have g_14167 : (2 : Int32) ≤ a1 := by
    simp only [Int32.lt_iff_toInt_lt, Int32.le_iff_toInt_le, ← Int32.toInt_inj] at c_14057 c_14078 c_14109 ⊢
    have k_0 : ((-1) : Int32).toInt = -1 := by decide
    have k_1 : (0 : Int32).toInt = 0 := by decide
    have k_2 : (1 : Int32).toInt = 1 := by decide
    have k_g : (2 : Int32).toInt = 2 := by decide
    omega
  refine q_callVi (rest := [.int (-2)]) (wr := []) X hK hA hw7 (fun sz => kX12_image_596 l D cy y0 a1 (u_1.1 19) (u_1.1 0) (u_1.1 1) (u_1.1 2) (u_1.1 3) (u_1.1 4) (u_1.1 5) (u_1.1 6) (u_1.1 7) (u_1.1 8) (u_1.1 9) (u_1.1 10) (u_1.1 11) (u_1.1 12) (u_1.1 13) (u_1.1 14) (u_1.1 15) (u_1.1 16) (u_1.1 17) (u_1.1 18) g_14167 sz) wm_8_43 wm_8_46 wm_1_12 hd_X12_image wm_8_44 wm_8_45 (ci := 12) (q0 := 0) rfl rfl ⟨Nat.le_of_ble_eq_true rfl, Nat.le_of_ble_eq_true rfl⟩ hl.1 rfl (Nat.le_of_ble_eq_true rfl) dL_law_1407 ⟨Nat.le_of_ble_eq_true rfl, Nat.le_of_ble_eq_true rfl⟩ [0] [] rfl rfl (by decide) rfl rfl (fun r_14168 u_14168 Hp8 lc8 w_14168 hw8 => ?_)
  clear Hp7 lc7 hw7
  obtain rfl : r_14168 = (-2) := w_14168
  clear w_14168
  replace hw8 : qW D _ _ [] _ _ := hw8
  refine lv_icmp_eq (tgt := 1461) hx hb dL_law_1410 (by decide) (fun _ => ?_) (fun c => absurd c (by decide +kernel))
  exact law_tail l X hr hlk hX hbl hw8.2.2 hl (Nat.le_of_ble_eq_true rfl) (Nat.le_of_ble_eq_true rfl)
set_option maxHeartbeats 4000000 in
set_option maxRecDepth 100000 in
theorem lc_restore (l : Launch) {p : Program} {e : Env} {s : State} {m : MethodId} {below : List Frame} {meth : Method} {c : Code} {b : Nat} {xs : Nat → Int32} {D : va_G} {cy : Nat → ClassId} {H : Heap} {locs : List Loc} {ls : Array Slot} {x0 y0 : Nat} {u_0 u_1 : SS} (X : qX p s m #[Value.ref b] c cL_law 4 RL) (hr : meth.sig.returnType = ret) (hlk : meth.locks = false) (hX : va_X b 6 xs s s.heap) (hbl : b < s.heap.size) (hK : qK D cy s) (a1 a2 a3 a4 a5 : Int32) (e1 : xs (Int32.toNatClampNeg 1) = a1) (e2 : xs (Int32.toNatClampNeg 2) = a2) (e3 : xs (Int32.toNatClampNeg 3) = a3) (e4 : xs (Int32.toNatClampNeg 4) = a4) (e5 : xs (Int32.toNatClampNeg 5) = a5) (h : qW D (fun q => s.heap.size ≤ q) s.heap (wLaw cy x0 y0 u_0 u_1) H locs) (hl : lv_has ls 4 [(3, .int 0), (2, .ref y0), (1, .ref x0), (0, .ref b)]) : W p l e room_1 s m #[Value.ref b] below meth c H locs 99 25544 (lw_Z below #[Value.ref b] s) (F0 m 1415 ls []) := by
  obtain ⟨hx, hb, hml, hown, ht⟩ := id X
  have hA : ∀ q : Nat, s.heap.size ≤ q → (fun q : Nat => s.heap.size ≤ q) q := fun _ h => h
  have hbA : ¬ (fun q : Nat => s.heap.size ≤ q) b := Nat.not_le.mpr hbl
  by_cases c_14171 : a1 ≤ (-1)
  · skip
    refine lv_aload_n hx hb dL_law_1415 rfl (lv_at hl 2 rfl) ?_
    refine lv_aload_n hx hb dL_law_1416 rfl (lv_at hl 3 rfl) ?_
    refine lv_iload_n hx hb dL_law_1417 rfl (lv_at hl 0 rfl) ?_
    refine lv_iconst (v := 1) hx hb dL_law_1418 (by decide) ?_
    refine lv_iadd hx hb dL_law_1419 ?_
    refine q_c 1 (by decide +kernel) ?_
    refine va_sld X.1 X.2.1 hX hbl hbA h.2.2 (q_in (by decide +kernel)) dL_law_1420 ?_
    refine q_c a1 e1 ?_
    have g_14185 : a1 ≤ ((-1) : Int32) := by
      simp only [Int32.lt_iff_toInt_lt, Int32.le_iff_toInt_le, ← Int32.toInt_inj] at c_14171 ⊢
      have k_0 : ((-1) : Int32).toInt = -1 := by decide
      omega
    refine q_callVi (rest := []) (wr := [(y0, .inr (12, [.int 0, .ref (u_1.1 19), .ref (u_1.1 0), .ref (u_1.1 1), .ref (u_1.1 2), .int 0, .int 0, .int 0, .int 0, .int 0, .int 0, .int 0, .int 0, .int 0, .int (-1), .int 0, .ref (u_1.1 3), .ref (u_1.1 4), .ref (u_1.1 5), .ref (u_1.1 6), .ref (u_1.1 7), .int 0, .int 0, .ref (u_1.1 8), .ref (u_1.1 9), .ref (u_1.1 10), .int 0, .int 0, .ref (u_1.1 11), .ref (u_1.1 12), .ref (u_1.1 13), .ref (u_1.1 14), .ref (u_1.1 15), .int 0, .ref (u_1.1 16), .ref (u_1.1 17), .ref (u_1.1 18)]))]) X hK hA h (fun sz => kX11_restore_597 l D cy x0 a1 (u_0.1 0) (u_0.1 1) (u_0.1 37) (u_0.1 39) (u_0.1 41) (u_0.1 43) (u_0.1 14) (u_0.1 15) (u_0.1 16) (u_0.1 17) (u_0.1 20) (u_0.1 24) (u_0.1 29) g_14185 sz) wm_5_149 wm_5_152 wm_1_1 hd_X11_restore wm_5_150 wm_5_151 (ci := 11) (q0 := 0) rfl rfl ⟨Nat.le_of_ble_eq_true rfl, Nat.le_of_ble_eq_true rfl⟩ hl.1 rfl (Nat.le_of_ble_eq_true rfl) dL_law_1421 ⟨Nat.le_of_ble_eq_true rfl, Nat.le_of_ble_eq_true rfl⟩ [0] [78] rfl rfl (by decide) rfl rfl (fun r_14186 u_14186 Hp1 lc1 w_14186 hw1 => ?_)
    clear h
    obtain rfl : r_14186 = (-2) := w_14186
    clear w_14186
    replace hw1 : qW D _ _ [(y0, .inr (12, [.int 0, .ref (u_1.1 19), .ref (u_1.1 0), .ref (u_1.1 1), .ref (u_1.1 2), .int 0, .int 0, .int 0, .int 0, .int 0, .int 0, .int 0, .int 0, .int 0, .int (-1), .int 0, .ref (u_1.1 3), .ref (u_1.1 4), .ref (u_1.1 5), .ref (u_1.1 6), .ref (u_1.1 7), .int 0, .int 0, .ref (u_1.1 8), .ref (u_1.1 9), .ref (u_1.1 10), .int 0, .int 0, .ref (u_1.1 11), .ref (u_1.1 12), .ref (u_1.1 13), .ref (u_1.1 14), .ref (u_1.1 15), .int 0, .ref (u_1.1 16), .ref (u_1.1 17), .ref (u_1.1 18)]))] _ _ := hw1
    refine lv_aload_n hx hb dL_law_1424 rfl (lv_at hl 1 rfl) ?_
    refine lv_aload_n hx hb dL_law_1425 rfl (lv_at hl 3 rfl) ?_
    refine lv_iload_n hx hb dL_law_1426 rfl (lv_at hl 0 rfl) ?_
    refine lv_iconst (v := 1) hx hb dL_law_1427 (by decide) ?_
    refine lv_iadd hx hb dL_law_1428 ?_
    refine q_c 1 (by decide +kernel) ?_
    refine va_sld X.1 X.2.1 hX hbl hbA hw1.2.2 (q_in (by decide +kernel)) dL_law_1429 ?_
    refine q_c a1 e1 ?_
    have g_14190 : a1 ≤ ((-1) : Int32) := by
      simp only [Int32.lt_iff_toInt_lt, Int32.le_iff_toInt_le, ← Int32.toInt_inj] at c_14171 ⊢
      have k_0 : ((-1) : Int32).toInt = -1 := by decide
      omega
    refine q_callVi (rest := [.int (-2)]) (wr := []) X hK hA hw1 (fun sz => kX12_restore_598 l D cy y0 a1 (u_1.1 19) (u_1.1 0) (u_1.1 1) (u_1.1 2) (u_1.1 3) (u_1.1 4) (u_1.1 5) (u_1.1 6) (u_1.1 7) (u_1.1 8) (u_1.1 9) (u_1.1 10) (u_1.1 11) (u_1.1 12) (u_1.1 13) (u_1.1 14) (u_1.1 15) (u_1.1 16) (u_1.1 17) (u_1.1 18) g_14190 sz) wm_8_47 wm_8_50 wm_1_12 hd_X12_restore wm_8_48 wm_8_49 (ci := 12) (q0 := 0) rfl rfl ⟨Nat.le_of_ble_eq_true rfl, Nat.le_of_ble_eq_true rfl⟩ hl.1 rfl (Nat.le_of_ble_eq_true rfl) dL_law_1430 ⟨Nat.le_of_ble_eq_true rfl, Nat.le_of_ble_eq_true rfl⟩ [0] [] rfl rfl (by decide) rfl rfl (fun r_14191 u_14191 Hp2 lc2 w_14191 hw2 => ?_)
    clear Hp1 lc1 hw1
    obtain rfl : r_14191 = (-2) := w_14191
    clear w_14191
    replace hw2 : qW D _ _ [] _ _ := hw2
    refine lv_icmp_eq (tgt := 1461) hx hb dL_law_1433 (by decide) (fun _ => ?_) (fun c => absurd c (by decide +kernel))
    exact law_tail l X hr hlk hX hbl hw2.2.2 hl (Nat.le_of_ble_eq_true rfl) (Nat.le_of_ble_eq_true rfl)
  by_cases c_14192 : a1 = 0
  · subst c_14192
    refine lv_aload_n hx hb dL_law_1415 rfl (lv_at hl 2 rfl) ?_
    refine lv_aload_n hx hb dL_law_1416 rfl (lv_at hl 3 rfl) ?_
    refine lv_iload_n hx hb dL_law_1417 rfl (lv_at hl 0 rfl) ?_
    refine lv_iconst (v := 1) hx hb dL_law_1418 (by decide) ?_
    refine lv_iadd hx hb dL_law_1419 ?_
    refine q_c 1 (by decide +kernel) ?_
    refine va_sld X.1 X.2.1 hX hbl hbA hw2.2.2 (q_in (by decide +kernel)) dL_law_1420 ?_
    refine q_c 0 e1 ?_
    refine q_callVi (rest := []) (wr := [(y0, .inr (12, [.int 0, .ref (u_1.1 19), .ref (u_1.1 0), .ref (u_1.1 1), .ref (u_1.1 2), .int 0, .int 0, .int 0, .int 0, .int 0, .int 0, .int 0, .int 0, .int 0, .int (-1), .int 0, .ref (u_1.1 3), .ref (u_1.1 4), .ref (u_1.1 5), .ref (u_1.1 6), .ref (u_1.1 7), .int 0, .int 0, .ref (u_1.1 8), .ref (u_1.1 9), .ref (u_1.1 10), .int 0, .int 0, .ref (u_1.1 11), .ref (u_1.1 12), .ref (u_1.1 13), .ref (u_1.1 14), .ref (u_1.1 15), .int 0, .ref (u_1.1 16), .ref (u_1.1 17), .ref (u_1.1 18)])), ((u_1.1 0), .inl (cy 3, 2, .inl (fun _ => 0)))]) X hK hA hw2 (fun sz => kX11_restore_599 l D cy x0 (u_0.1 16) (u_0.1 0) (u_0.1 1) (u_0.1 37) (u_0.1 39) (u_0.1 41) (u_0.1 43) (u_0.1 14) (u_0.1 15) (u_0.1 17) (u_0.1 20) (u_0.1 24) (u_0.1 29)  sz) wm_5_149 wm_5_152 wm_1_1 hd_X11_restore wm_5_150 wm_5_151 (ci := 11) (q0 := 0) rfl rfl ⟨Nat.le_of_ble_eq_true rfl, Nat.le_of_ble_eq_true rfl⟩ hl.1 rfl (Nat.le_of_ble_eq_true rfl) dL_law_1421 ⟨Nat.le_of_ble_eq_true rfl, Nat.le_of_ble_eq_true rfl⟩ [0, 17] [78, 79] rfl rfl (by decide) rfl rfl (fun r_14196 u_14196 Hp3 lc3 w_14196 hw3 => ?_)
    clear Hp2 lc2 hw2
    obtain rfl : r_14196 = (-5) := w_14196
    clear w_14196
    replace hw3 : qW D _ _ [(y0, .inr (12, [.int 0, .ref (u_1.1 19), .ref (u_1.1 0), .ref (u_1.1 1), .ref (u_1.1 2), .int 0, .int 0, .int 0, .int 0, .int 0, .int 0, .int 0, .int 0, .int 0, .int (-1), .int 0, .ref (u_1.1 3), .ref (u_1.1 4), .ref (u_1.1 5), .ref (u_1.1 6), .ref (u_1.1 7), .int 0, .int 0, .ref (u_1.1 8), .ref (u_1.1 9), .ref (u_1.1 10), .int 0, .int 0, .ref (u_1.1 11), .ref (u_1.1 12), .ref (u_1.1 13), .ref (u_1.1 14), .ref (u_1.1 15), .int 0, .ref (u_1.1 16), .ref (u_1.1 17), .ref (u_1.1 18)])), ((u_1.1 0), .inl (cy 3, 2, .inl (fun _ => 0)))] _ _ := hw3
    refine lv_aload_n hx hb dL_law_1424 rfl (lv_at hl 1 rfl) ?_
    refine lv_aload_n hx hb dL_law_1425 rfl (lv_at hl 3 rfl) ?_
    refine lv_iload_n hx hb dL_law_1426 rfl (lv_at hl 0 rfl) ?_
    refine lv_iconst (v := 1) hx hb dL_law_1427 (by decide) ?_
    refine lv_iadd hx hb dL_law_1428 ?_
    refine q_c 1 (by decide +kernel) ?_
    refine va_sld X.1 X.2.1 hX hbl hbA hw3.2.2 (q_in (by decide +kernel)) dL_law_1429 ?_
    refine q_c 0 e1 ?_
    refine q_callVi (rest := [.int (-5)]) (wr := []) X hK hA hw3 (fun sz => kX12_restore_600 l D cy y0 (u_1.1 0) (u_1.1 19) (u_1.1 1) (u_1.1 2) (u_1.1 3) (u_1.1 4) (u_1.1 5) (u_1.1 6) (u_1.1 7) (u_1.1 8) (u_1.1 9) (u_1.1 10) (u_1.1 11) (u_1.1 12) (u_1.1 13) (u_1.1 14) (u_1.1 15) (u_1.1 16) (u_1.1 17) (u_1.1 18)  sz) wm_8_47 wm_8_50 wm_1_12 hd_X12_restore wm_8_48 wm_8_49 (ci := 12) (q0 := 0) rfl rfl ⟨Nat.le_of_ble_eq_true rfl, Nat.le_of_ble_eq_true rfl⟩ hl.1 rfl (Nat.le_of_ble_eq_true rfl) dL_law_1430 ⟨Nat.le_of_ble_eq_true rfl, Nat.le_of_ble_eq_true rfl⟩ [0, 1] [] rfl rfl (by decide) rfl rfl (fun r_14198 u_14198 Hp4 lc4 w_14198 hw4 => ?_)
    clear Hp3 lc3 hw3
    obtain rfl : r_14198 = (-5) := w_14198
    clear w_14198
    replace hw4 : qW D _ _ [] _ _ := hw4
    refine lv_icmp_eq (tgt := 1461) hx hb dL_law_1433 (by decide) (fun _ => ?_) (fun c => absurd c (by decide +kernel))
    exact law_tail l X hr hlk hX hbl hw4.2.2 hl (Nat.le_of_ble_eq_true rfl) (Nat.le_of_ble_eq_true rfl)
  by_cases c_14199 : a1 = 1
  · subst c_14199
    refine lv_aload_n hx hb dL_law_1415 rfl (lv_at hl 2 rfl) ?_
    refine lv_aload_n hx hb dL_law_1416 rfl (lv_at hl 3 rfl) ?_
    refine lv_iload_n hx hb dL_law_1417 rfl (lv_at hl 0 rfl) ?_
    refine lv_iconst (v := 1) hx hb dL_law_1418 (by decide) ?_
    refine lv_iadd hx hb dL_law_1419 ?_
    refine q_c 1 (by decide +kernel) ?_
    refine va_sld X.1 X.2.1 hX hbl hbA hw4.2.2 (q_in (by decide +kernel)) dL_law_1420 ?_
    refine q_c 1 e1 ?_
    refine q_callVi (rest := []) (wr := [(y0, .inr (12, [.int 0, .ref (u_1.1 19), .ref (u_1.1 0), .ref (u_1.1 1), .ref (u_1.1 2), .int 0, .int 0, .int 0, .int 0, .int 0, .int 0, .int 0, .int 0, .int 0, .int (-1), .int 0, .ref (u_1.1 3), .ref (u_1.1 4), .ref (u_1.1 5), .ref (u_1.1 6), .ref (u_1.1 7), .int 0, .int 0, .ref (u_1.1 8), .ref (u_1.1 9), .ref (u_1.1 10), .int 0, .int 0, .ref (u_1.1 11), .ref (u_1.1 12), .ref (u_1.1 13), .ref (u_1.1 14), .ref (u_1.1 15), .int 0, .ref (u_1.1 16), .ref (u_1.1 17), .ref (u_1.1 18)])), ((u_1.1 0), .inl (cy 3, 2, .inl (fun _ => 0)))]) X hK hA hw4 (fun sz => kX11_restore_601 l D cy x0 (u_0.1 16) (u_0.1 0) (u_0.1 1) (u_0.1 37) (u_0.1 39) (u_0.1 41) (u_0.1 43) (u_0.1 14) (u_0.1 15) (u_0.1 17) (u_0.1 20) (u_0.1 24) (u_0.1 29)  sz) wm_5_149 wm_5_152 wm_1_1 hd_X11_restore wm_5_150 wm_5_151 (ci := 11) (q0 := 0) rfl rfl ⟨Nat.le_of_ble_eq_true rfl, Nat.le_of_ble_eq_true rfl⟩ hl.1 rfl (Nat.le_of_ble_eq_true rfl) dL_law_1421 ⟨Nat.le_of_ble_eq_true rfl, Nat.le_of_ble_eq_true rfl⟩ [0, 17] [78, 79] rfl rfl (by decide) rfl rfl (fun r_14203 u_14203 Hp5 lc5 w_14203 hw5 => ?_)
    clear Hp4 lc4 hw4
    obtain rfl : r_14203 = (-5) := w_14203
    clear w_14203
    replace hw5 : qW D _ _ [(y0, .inr (12, [.int 0, .ref (u_1.1 19), .ref (u_1.1 0), .ref (u_1.1 1), .ref (u_1.1 2), .int 0, .int 0, .int 0, .int 0, .int 0, .int 0, .int 0, .int 0, .int 0, .int (-1), .int 0, .ref (u_1.1 3), .ref (u_1.1 4), .ref (u_1.1 5), .ref (u_1.1 6), .ref (u_1.1 7), .int 0, .int 0, .ref (u_1.1 8), .ref (u_1.1 9), .ref (u_1.1 10), .int 0, .int 0, .ref (u_1.1 11), .ref (u_1.1 12), .ref (u_1.1 13), .ref (u_1.1 14), .ref (u_1.1 15), .int 0, .ref (u_1.1 16), .ref (u_1.1 17), .ref (u_1.1 18)])), ((u_1.1 0), .inl (cy 3, 2, .inl (fun _ => 0)))] _ _ := hw5
    refine lv_aload_n hx hb dL_law_1424 rfl (lv_at hl 1 rfl) ?_
    refine lv_aload_n hx hb dL_law_1425 rfl (lv_at hl 3 rfl) ?_
    refine lv_iload_n hx hb dL_law_1426 rfl (lv_at hl 0 rfl) ?_
    refine lv_iconst (v := 1) hx hb dL_law_1427 (by decide) ?_
    refine lv_iadd hx hb dL_law_1428 ?_
    refine q_c 1 (by decide +kernel) ?_
    refine va_sld X.1 X.2.1 hX hbl hbA hw5.2.2 (q_in (by decide +kernel)) dL_law_1429 ?_
    refine q_c 1 e1 ?_
    refine q_callVi (rest := [.int (-5)]) (wr := []) X hK hA hw5 (fun sz => kX12_restore_602 l D cy y0 (u_1.1 0) (u_1.1 19) (u_1.1 1) (u_1.1 2) (u_1.1 3) (u_1.1 4) (u_1.1 5) (u_1.1 6) (u_1.1 7) (u_1.1 8) (u_1.1 9) (u_1.1 10) (u_1.1 11) (u_1.1 12) (u_1.1 13) (u_1.1 14) (u_1.1 15) (u_1.1 16) (u_1.1 17) (u_1.1 18)  sz) wm_8_47 wm_8_50 wm_1_12 hd_X12_restore wm_8_48 wm_8_49 (ci := 12) (q0 := 0) rfl rfl ⟨Nat.le_of_ble_eq_true rfl, Nat.le_of_ble_eq_true rfl⟩ hl.1 rfl (Nat.le_of_ble_eq_true rfl) dL_law_1430 ⟨Nat.le_of_ble_eq_true rfl, Nat.le_of_ble_eq_true rfl⟩ [0, 1] [] rfl rfl (by decide) rfl rfl (fun r_14205 u_14205 Hp6 lc6 w_14205 hw6 => ?_)
    clear Hp5 lc5 hw5
    obtain rfl : r_14205 = (-5) := w_14205
    clear w_14205
    replace hw6 : qW D _ _ [] _ _ := hw6
    refine lv_icmp_eq (tgt := 1461) hx hb dL_law_1433 (by decide) (fun _ => ?_) (fun c => absurd c (by decide +kernel))
    exact law_tail l X hr hlk hX hbl hw6.2.2 hl (Nat.le_of_ble_eq_true rfl) (Nat.le_of_ble_eq_true rfl)
  refine lv_aload_n hx hb dL_law_1415 rfl (lv_at hl 2 rfl) ?_
  refine lv_aload_n hx hb dL_law_1416 rfl (lv_at hl 3 rfl) ?_
  refine lv_iload_n hx hb dL_law_1417 rfl (lv_at hl 0 rfl) ?_
  refine lv_iconst (v := 1) hx hb dL_law_1418 (by decide) ?_
  refine lv_iadd hx hb dL_law_1419 ?_
  refine q_c 1 (by decide +kernel) ?_
  refine va_sld X.1 X.2.1 hX hbl hbA hw6.2.2 (q_in (by decide +kernel)) dL_law_1420 ?_
  refine q_c a1 e1 ?_
  have g_14227 : (2 : Int32) ≤ a1 := by
    simp only [Int32.lt_iff_toInt_lt, Int32.le_iff_toInt_le, ← Int32.toInt_inj] at c_14171 c_14192 c_14199 ⊢
    have k_0 : ((-1) : Int32).toInt = -1 := by decide
    have k_1 : (0 : Int32).toInt = 0 := by decide
    have k_2 : (1 : Int32).toInt = 1 := by decide
    have k_g : (2 : Int32).toInt = 2 := by decide
    omega
  refine q_callVi (rest := []) (wr := [(y0, .inr (12, [.int 0, .ref (u_1.1 19), .ref (u_1.1 0), .ref (u_1.1 1), .ref (u_1.1 2), .int 0, .int 0, .int 0, .int 0, .int 0, .int 0, .int 0, .int 0, .int 0, .int (-1), .int 0, .ref (u_1.1 3), .ref (u_1.1 4), .ref (u_1.1 5), .ref (u_1.1 6), .ref (u_1.1 7), .int 0, .int 0, .ref (u_1.1 8), .ref (u_1.1 9), .ref (u_1.1 10), .int 0, .int 0, .ref (u_1.1 11), .ref (u_1.1 12), .ref (u_1.1 13), .ref (u_1.1 14), .ref (u_1.1 15), .int 0, .ref (u_1.1 16), .ref (u_1.1 17), .ref (u_1.1 18)]))]) X hK hA hw6 (fun sz => kX11_restore_603 l D cy x0 a1 (u_0.1 0) (u_0.1 1) (u_0.1 37) (u_0.1 39) (u_0.1 41) (u_0.1 43) (u_0.1 14) (u_0.1 15) (u_0.1 16) (u_0.1 17) (u_0.1 20) (u_0.1 24) (u_0.1 29) g_14227 sz) wm_5_149 wm_5_152 wm_1_1 hd_X11_restore wm_5_150 wm_5_151 (ci := 11) (q0 := 0) rfl rfl ⟨Nat.le_of_ble_eq_true rfl, Nat.le_of_ble_eq_true rfl⟩ hl.1 rfl (Nat.le_of_ble_eq_true rfl) dL_law_1421 ⟨Nat.le_of_ble_eq_true rfl, Nat.le_of_ble_eq_true rfl⟩ [0] [78] rfl rfl (by decide) rfl rfl (fun r_14228 u_14228 Hp7 lc7 w_14228 hw7 => ?_)
  clear Hp6 lc6 hw6
  obtain rfl : r_14228 = (-2) := w_14228
  clear w_14228
  replace hw7 : qW D _ _ [(y0, .inr (12, [.int 0, .ref (u_1.1 19), .ref (u_1.1 0), .ref (u_1.1 1), .ref (u_1.1 2), .int 0, .int 0, .int 0, .int 0, .int 0, .int 0, .int 0, .int 0, .int 0, .int (-1), .int 0, .ref (u_1.1 3), .ref (u_1.1 4), .ref (u_1.1 5), .ref (u_1.1 6), .ref (u_1.1 7), .int 0, .int 0, .ref (u_1.1 8), .ref (u_1.1 9), .ref (u_1.1 10), .int 0, .int 0, .ref (u_1.1 11), .ref (u_1.1 12), .ref (u_1.1 13), .ref (u_1.1 14), .ref (u_1.1 15), .int 0, .ref (u_1.1 16), .ref (u_1.1 17), .ref (u_1.1 18)]))] _ _ := hw7
  refine lv_aload_n hx hb dL_law_1424 rfl (lv_at hl 1 rfl) ?_
  refine lv_aload_n hx hb dL_law_1425 rfl (lv_at hl 3 rfl) ?_
  refine lv_iload_n hx hb dL_law_1426 rfl (lv_at hl 0 rfl) ?_
  refine lv_iconst (v := 1) hx hb dL_law_1427 (by decide) ?_
  refine lv_iadd hx hb dL_law_1428 ?_
  refine q_c 1 (by decide +kernel) ?_
  refine va_sld X.1 X.2.1 hX hbl hbA hw7.2.2 (q_in (by decide +kernel)) dL_law_1429 ?_
  refine q_c a1 e1 ?_
  have g_14233 : (2 : Int32) ≤ a1 := by
    simp only [Int32.lt_iff_toInt_lt, Int32.le_iff_toInt_le, ← Int32.toInt_inj] at c_14171 c_14192 c_14199 ⊢
    have k_0 : ((-1) : Int32).toInt = -1 := by decide
    have k_1 : (0 : Int32).toInt = 0 := by decide
    have k_2 : (1 : Int32).toInt = 1 := by decide
    have k_g : (2 : Int32).toInt = 2 := by decide
    omega
  refine q_callVi (rest := [.int (-2)]) (wr := []) X hK hA hw7 (fun sz => kX12_restore_604 l D cy y0 a1 (u_1.1 19) (u_1.1 0) (u_1.1 1) (u_1.1 2) (u_1.1 3) (u_1.1 4) (u_1.1 5) (u_1.1 6) (u_1.1 7) (u_1.1 8) (u_1.1 9) (u_1.1 10) (u_1.1 11) (u_1.1 12) (u_1.1 13) (u_1.1 14) (u_1.1 15) (u_1.1 16) (u_1.1 17) (u_1.1 18) g_14233 sz) wm_8_47 wm_8_50 wm_1_12 hd_X12_restore wm_8_48 wm_8_49 (ci := 12) (q0 := 0) rfl rfl ⟨Nat.le_of_ble_eq_true rfl, Nat.le_of_ble_eq_true rfl⟩ hl.1 rfl (Nat.le_of_ble_eq_true rfl) dL_law_1430 ⟨Nat.le_of_ble_eq_true rfl, Nat.le_of_ble_eq_true rfl⟩ [0] [] rfl rfl (by decide) rfl rfl (fun r_14234 u_14234 Hp8 lc8 w_14234 hw8 => ?_)
  clear Hp7 lc7 hw7
  obtain rfl : r_14234 = (-2) := w_14234
  clear w_14234
  replace hw8 : qW D _ _ [] _ _ := hw8
  refine lv_icmp_eq (tgt := 1461) hx hb dL_law_1433 (by decide) (fun _ => ?_) (fun c => absurd c (by decide +kernel))
  exact law_tail l X hr hlk hX hbl hw8.2.2 hl (Nat.le_of_ble_eq_true rfl) (Nat.le_of_ble_eq_true rfl)
