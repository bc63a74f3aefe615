set_option maxHeartbeats 8000000 in
set_option maxRecDepth 100000 in
theorem whole_start {p : Program} {e : Env} {s : State} {m : MethodId} {below : List Frame} {meth : Method} {c : Code} (l : Launch) (hflags : l.flags = flags0) {b L : Nat} {xs : Nat → Int32} (hL : L ≤ 6) (C0 : lw_At p s m meth c b L xs) : W p l e room_1 s m #[Value.ref b] below meth c s.heap [] 0 0 (lw_Z below #[Value.ref b] s) (entryFrame m ([Value.ref b] : List Value).toArray 4) := by
  obtain ⟨hx, hb, hr, hml, hown, hts, hX, hbl, hlk, hgv⟩ := id C0
  have X : qX p s m #[Value.ref b] c cL_law 4 RL := ⟨hx, hb, hml, hown, fun w hw => hts w (wg_in w hw)⟩
  have ht := X.2.2.2.2
  have hA : ∀ q : Nat, s.heap.size ≤ q → (fun q : Nat => s.heap.size ≤ q) q := fun _ h => h
  have hbA : ¬ (fun q : Nat => s.heap.size ≤ q) b := Nat.not_le.mpr hbl
  obtain ⟨c0, iS0, hKn0⟩ := u_known (C := RX0) (T := TX0) (N := 4) (n := 4) hts (fun w h => wg_in w (wf_0 w h)) (hts (.instantiable RX0 4) (lt_1 (List.mem_of_getElem? (i := 193) rfl)))
  obtain ⟨c1, iS1, hKn1⟩ := u_known (C := RX1) (T := TX1) (N := 5) (n := 5) hts (fun w h => wg_in w (wf_1 w h)) (hts (.instantiable RX1 5) (lt_2 (List.mem_of_getElem? (i := 7) rfl)))
  obtain ⟨c2, iS2, hKn2⟩ := u_known (C := RX2) (T := TX2) (N := 2) (n := 2) hts (fun w h => wg_in w (wf_2 w h)) (hts (.instantiable RX2 2) (lt_2 (List.mem_of_getElem? (i := 65) rfl)))
  obtain ⟨c3, iS3, hKn3⟩ := u_known (C := RX3) (T := TX3) (N := 12) (n := 12) hts (fun w h => wg_in w (wf_3 w h)) (hts (.instantiable RX3 12) (lt_1 (List.mem_of_getElem? (i := 69) rfl)))
  obtain ⟨c4, iS4, hKn4⟩ := u_known (C := RX4) (T := TX4) (N := 1) (n := 1) hts (fun w h => wg_in w (wf_4 w h)) (hts (.instantiable RX4 1) (lt_3 (List.mem_of_getElem? (i := 134) rfl)))
  obtain ⟨c5, iS5, hKn5⟩ := u_known (C := RX5) (T := TX5) (N := 9) (n := 9) hts (fun w h => wg_in w (wf_5 w h)) (hts (.instantiable RX5 9) (lt_1 (List.mem_of_getElem? (i := 32) rfl)))
  obtain ⟨c6, iS6, hKn6⟩ := u_known (C := RX6) (T := TX6) (N := 2) (n := 2) hts (fun w h => wg_in w (wf_6 w h)) (hts (.instantiable RX6 2) (lt_1 (List.mem_of_getElem? (i := 179) rfl)))
  obtain ⟨c7, iS7, hKn7⟩ := u_known (C := RX7) (T := TX7) (N := 4) (n := 4) hts (fun w h => wg_in w (wf_7 w h)) (hts (.instantiable RX7 4) (lt_2 (List.mem_of_getElem? (i := 32) rfl)))
  obtain ⟨c8, iS8, hKn8⟩ := u_known (C := RX8) (T := TX8) (N := 6) (n := 6) hts (fun w h => wg_in w (wf_8 w h)) (hts (.instantiable RX8 6) (lt_1 (List.mem_of_getElem? (i := 38) rfl)))
  obtain ⟨c9, iS9, hKn9⟩ := u_known (C := RX9) (T := TX9) (N := 3) (n := 3) hts (fun w h => wg_in w (wf_9 w h)) (hts (.instantiable RX9 3) (lt_2 (List.mem_of_getElem? (i := 80) rfl)))
  obtain ⟨c10, iS10, hKn10⟩ := u_known (C := RX10) (T := TX10) (N := 8) (n := 8) hts (fun w h => wg_in w (wf_10 w h)) (hts (.instantiable RX10 8) (lt_1 (List.mem_of_getElem? (i := 214) rfl)))
  obtain ⟨c11, iS11, hKn11⟩ := u_known (C := RX11) (T := TX11) (N := 17) (n := 17) hts (fun w h => wg_in w (wf_11 w h)) (hts (.instantiable RX11 17) (lt_1 (List.mem_of_getElem? (i := 24) rfl)))
  obtain ⟨c12, iS12, hKn12⟩ := u_known (C := RX12) (T := TX12) (N := 37) (n := 37) hts (fun w h => wg_in w (wf_12 w h)) (hts (.instantiable RX12 37) (lt_5 (List.mem_of_getElem? (i := 162) rfl)))
  obtain ⟨dC, dI, hKc⟩ : ∃ (dC : Nat → ClassId) (dI : Nat → Nat → Nat), ∀ (k : Nat) (q : vw_C), vwCl[k]? = some q → u_Kn s q.1 q.2.1 q.2.2 (dC k) (dI k) := by
    refine ⟨fun k => List.getD [c0, c1, c2, c3, c4, c5, c6, c7, c8, c9, c10, c11, c12] k 0, fun k => List.getD [iS0, iS1, iS2, iS3, iS4, iS5, iS6, iS7, iS8, iS9, iS10, iS11, iS12] k (fun _ => 0), ?_⟩
    intro k q hq
    match k, hq with
    | 0, hq => cases hq; exact hKn0
    | 1, hq => cases hq; exact hKn1
    | 2, hq => cases hq; exact hKn2
    | 3, hq => cases hq; exact hKn3
    | 4, hq => cases hq; exact hKn4
    | 5, hq => cases hq; exact hKn5
    | 6, hq => cases hq; exact hKn6
    | 7, hq => cases hq; exact hKn7
    | 8, hq => cases hq; exact hKn8
    | 9, hq => cases hq; exact hKn9
    | 10, hq => cases hq; exact hKn10
    | 11, hq => cases hq; exact hKn11
    | 12, hq => cases hq; exact hKn12
    | k + 13, hq => simp [vwCl] at hq
  obtain ⟨cyB, hAB, hRB⟩ := q_arr_byte (hts (.arrayClass .byte) (lt_1 (List.mem_of_getElem? (i := 66) rfl)))
  obtain ⟨cyI, hAI, hRI⟩ := q_arr_int (hts (.arrayClass .int) (lt_1 (List.mem_of_getElem? (i := 67) rfl)))
  obtain ⟨cyJ, hAJ, hRJ⟩ := q_arr_long (hts (.arrayClass .long) (lt_2 (List.mem_of_getElem? (i := 97) rfl)))
  obtain ⟨cyZ, hAZ, hRZ⟩ := q_arr_boolean (hts (.arrayClass .boolean) (lt_1 (List.mem_of_getElem? (i := 191) rfl)))
  have hOS := hts (.arrayOver (.object RX7)) (lt_1 (List.mem_of_getElem? (i := 177) rfl))
  obtain ⟨cyS, hAS, hRS⟩ := q_arr_obj hOS
  have hOT := hts (.arrayOver (.object RX9)) (lt_1 (List.mem_of_getElem? (i := 175) rfl))
  obtain ⟨cyT, hAT, hRT⟩ := q_arr_obj hOT
  obtain ⟨cy, hcy⟩ : ∃ cy : Nat → ClassId, cy = fun k => List.getD [cyB, cyI, cyJ, cyZ, cyS, cyT] k 0 := ⟨_, rfl⟩
  have hK : qK (dC, dI) cy s := by
    refine ⟨⟨hKc, fun k q hq => ?_⟩, va_AO.of hOS, va_AO.of hOT, ?_⟩
    · subst hcy
      match k, hq with
      | 0, hq => cases hq; exact ⟨hAB, hRB⟩
      | 1, hq => cases hq; exact ⟨hAI, hRI⟩
      | 2, hq => cases hq; exact ⟨hAJ, hRJ⟩
      | 3, hq => cases hq; exact ⟨hAZ, hRZ⟩
      | 4, hq => cases hq; exact ⟨hAS, hRS⟩
      | 5, hq => cases hq; exact ⟨hAT, hRT⟩
      | k + 6, hq => simp at hq
    · exact List.forall_mem_cons.mpr ⟨va_Nw.of rfl (hts _ (lt_2 (List.mem_of_getElem? (i := 81) rfl))), List.forall_mem_cons.mpr ⟨va_Nw.of rfl (hts _ (lt_1 (List.mem_of_getElem? (i := 33) rfl))), List.forall_mem_cons.mpr ⟨va_Nw.of rfl (hts _ (lt_1 (List.mem_of_getElem? (i := 180) rfl))), List.forall_mem_cons.mpr ⟨va_Nw.of rfl (hts _ (lt_1 (List.mem_of_getElem? (i := 194) rfl))), List.forall_mem_cons.mpr ⟨va_Nw.of rfl (hts _ (lt_1 (List.mem_of_getElem? (i := 215) rfl))), List.forall_mem_cons.mpr ⟨va_Nw.of rfl (hts _ (lt_2 (List.mem_of_getElem? (i := 8) rfl))), List.forall_mem_cons.mpr ⟨va_Nw.of rfl (hts _ (lt_2 (List.mem_of_getElem? (i := 31) rfl))), List.forall_mem_cons.mpr ⟨va_Nw.of rfl (hts _ (lt_1 (List.mem_of_getElem? (i := 39) rfl))), List.forall_mem_cons.mpr ⟨va_Nw.of rfl (hts _ (lt_1 (List.mem_of_getElem? (i := 70) rfl))), fun _ h => absurd h List.not_mem_nil⟩⟩⟩⟩⟩⟩⟩⟩⟩
  have h : qW (dC, dI) (fun q : Nat => s.heap.size ≤ q) s.heap [] s.heap [] := ⟨fun k q h => by simp at h, ⟨fun i j p q h => by simp at h, fun k q h => by simp at h⟩, va_S.rf⟩
  generalize (dC, dI) = D at hK h
  have hl := lv_entry ([.ref b]) (n := 4) (Nat.le_of_ble_eq_true rfl)
  rw [lg_entry_eq]
  generalize (lg_sl ([.ref b]) ++ List.replicate (4 - (lg_sl ([.ref b])).length) Slot.unset).toArray = ls at hl ⊢
  replace hl : lv_has ls 4 [(0, .ref b)] := hl
  refine q_new (fs := [.null, .int 0, .int 0, .int 0, .null, .null, .null, .null, .null, .null, .null, .null, .null, .null, .null, .null, .int 0]) (ci := 11) X hK hA h rfl wf_11 tyX11 tyX11_ok wm_1_23 wm_1_24 wm_1_1 df_11 (Nat.le_of_ble_eq_true rfl) (Nat.le_of_ble_eq_true rfl) dL_law_0 (fun q_655 Hp1 hw1 => ?_)
  clear h
  replace hw1 : qW D _ _ [(q_655, .inr (11, [.null, .int 0, .int 0, .int 0, .null, .null, .null, .null, .null, .null, .null, .null, .null, .null, .null, .null, .int 0]))] _ _ := hw1
  refine lv_dup hx hb dL_law_3 rfl ?_
  refine q_callIv (rest := [.ref q_655]) (wr := []) X hK hA hw1 (fun sz => kX11_init_11 l D cy q_655  sz) wm_1_25 wm_1_27 wm_1_1 hd_X11_init wm_1_26 rfl ⟨Nat.le_of_ble_eq_true rfl, Nat.le_of_ble_eq_true rfl⟩ hl.1 rfl (Nat.le_of_ble_eq_true rfl) dL_law_4 ⟨Nat.le_of_ble_eq_true rfl, Nat.le_of_ble_eq_true rfl⟩ [0] [] rfl rfl (by decide) rfl rfl (fun u_761 Hp2 lc2 w_761 hw2 => ?_)
  clear Hp1 hw1
  replace hw2 : qW D _ _ [(q_655, .inr (11, [.ref (u_761.1 0), .int 0, .int 0, .int (-1), .ref (u_761.1 1), .ref (u_761.1 37), .ref (u_761.1 39), .ref (u_761.1 41), .ref (u_761.1 43), .ref (u_761.1 14), .ref (u_761.1 15), .ref (u_761.1 16), .ref (u_761.1 17), .ref (u_761.1 20), .ref (u_761.1 24), .ref (u_761.1 29), .int 0])), ((u_761.1 0), .inl (cy 0, 900, .inl (fun _ => 0))), ((u_761.1 1), .inr (5, [.ref (u_761.1 2), .int 0, .int 26, .int 0, .int (-1), .ref (u_761.1 7), .ref (u_761.1 13), .int 0, .int 0])), ((u_761.1 2), .inr (8, [.ref (u_761.1 3), .int 0, .int 0, .ref (u_761.1 4), .ref (u_761.1 5), .ref (u_761.1 6)])), ((u_761.1 3), .inl (cy 0, 0, .inl (fun _ => 0))), ((u_761.1 4), .inl (cy 1, 901, .inl (fun _ => 0))), ((u_761.1 5), .inl (cy 1, 901, .inl (fun _ => 0))), ((u_761.1 6), .inl (cy 1, 901, .inl (fun _ => 0))), ((u_761.1 7), .inr (3, [.int 1, .int 0, .int 0, .int 0, .null, .null, .null, .ref (u_761.1 8), .ref (u_761.1 9), .ref (u_761.1 10), .ref (u_761.1 11), .ref (u_761.1 12)])), ((u_761.1 8), .inl (cy 1, 10, .inl (fun _ => 0))), ((u_761.1 9), .inl (cy 1, 10, .inl (fun _ => 0))), ((u_761.1 10), .inl (cy 1, 10, .inl (fun _ => 0))), ((u_761.1 11), .inl (cy 1, 10, .inl (fun _ => 0))), ((u_761.1 12), .inl (cy 1, 10, .inl (fun _ => 0))), ((u_761.1 13), .inl (cy 1, 900, .inl (fun _ => 0))), ((u_761.1 14), .inl (cy 5, 4, .inr (.inr (.inr (.inr (va_up (va_up (va_up (va_up (fun _ => none) (Int32.toNatClampNeg 0) (some (u_761.1 65))) (Int32.toNatClampNeg 1) (some (u_761.1 67))) (Int32.toNatClampNeg 2) (some (u_761.1 69))) (Int32.toNatClampNeg 3) (some (u_761.1 71)))))))), ((u_761.1 15), .inl (cy 4, 2, .inr (.inr (.inr (.inr (va_up (va_up (fun _ => none) (Int32.toNatClampNeg 0) (some (u_761.1 73))) (Int32.toNatClampNeg 1) (some (u_761.1 75)))))))), ((u_761.1 16), .inl (cy 3, 2, .inl (fun _ => 0))), ((u_761.1 17), .inr (6, [.ref (u_761.1 18), .ref (u_761.1 19)])), ((u_761.1 18), .inl (cy 1, 11, .inl (fun _ => 0))), ((u_761.1 19), .inl (cy 1, 64, .inl (fun _ => 0))), ((u_761.1 20), .inr (0, [.int 0, .ref (u_761.1 21), .ref (u_761.1 22), .ref (u_761.1 23)])), ((u_761.1 21), .inl (cy 1, 10, .inl (fun _ => 0))), ((u_761.1 22), .inl (cy 1, 1024, .inl (fun _ => 0))), ((u_761.1 23), .inl (cy 1, 1024, .inl (fun _ => 0))), ((u_761.1 24), .inr (10, [.int (-1), .int (-1), .int (-1), .int (-1), .ref (u_761.1 25), .ref (u_761.1 26), .ref (u_761.1 27), .ref (u_761.1 28)])), ((u_761.1 25), .inl (cy 1, 1000, .inl (fun _ => 0))), ((u_761.1 26), .inl (cy 1, 1000, .inl (fun _ => 0))), ((u_761.1 27), .inl (cy 1, 1000, .inl (fun _ => 0))), ((u_761.1 28), .inl (cy 1, 1000, .inl (fun _ => 0))), ((u_761.1 29), .inr (1, [.int (-1), .int (-1), .int (-1), .int 0, .ref (u_761.1 30)])), ((u_761.1 30), .inl (cy 1, 1000, .inl (fun _ => 0))), ((u_761.1 31), .inr (3, [.int 1, .int 0, .int 0, .int 0, .null, .null, .null, .ref (u_761.1 32), .ref (u_761.1 33), .ref (u_761.1 34), .ref (u_761.1 35), .ref (u_761.1 36)])), ((u_761.1 32), .inl (cy 1, 10, .inl (fun _ => 0))), ((u_761.1 33), .inl (cy 1, 10, .inl (fun _ => 0))), ((u_761.1 34), .inl (cy 1, 10, .inl (fun _ => 0))), ((u_761.1 35), .inl (cy 1, 10, .inl (fun _ => 0))), ((u_761.1 36), .inl (cy 1, 10, .inl (fun _ => 0))), ((u_761.1 37), .inr (7, [.ref (u_761.1 31), .int 0, .int 0, .ref (u_761.1 38)])), ((u_761.1 38), .inl (cy 1, 10, .inl (fun _ => 0))), ((u_761.1 39), .inr (7, [.ref (u_761.1 31), .int 0, .int 0, .ref (u_761.1 40)])), ((u_761.1 40), .inl (cy 1, 10, .inl (fun _ => 0))), ((u_761.1 41), .inr (7, [.ref (u_761.1 31), .int 0, .int 0, .ref (u_761.1 42)])), ((u_761.1 42), .inl (cy 1, 10, .inl (fun _ => 0))), ((u_761.1 43), .inr (2, [.int 0, .ref (u_761.1 44)])), ((u_761.1 44), .inl (cy 4, 10, .inr (.inr (.inr (.inr (va_up (va_up (va_up (va_up (va_up (va_up (va_up (va_up (va_up (va_up (fun _ => none) (Int32.toNatClampNeg 0) (some (u_761.1 45))) (Int32.toNatClampNeg 1) (some (u_761.1 47))) (Int32.toNatClampNeg 2) (some (u_761.1 49))) (Int32.toNatClampNeg 3) (some (u_761.1 51))) (Int32.toNatClampNeg 4) (some (u_761.1 53))) (Int32.toNatClampNeg 5) (some (u_761.1 55))) (Int32.toNatClampNeg 6) (some (u_761.1 57))) (Int32.toNatClampNeg 7) (some (u_761.1 59))) (Int32.toNatClampNeg 8) (some (u_761.1 61))) (Int32.toNatClampNeg 9) (some (u_761.1 63)))))))), ((u_761.1 45), .inr (7, [.ref (u_761.1 31), .int 0, .int 0, .ref (u_761.1 46)])), ((u_761.1 46), .inl (cy 1, 10, .inl (fun _ => 0))), ((u_761.1 47), .inr (7, [.ref (u_761.1 31), .int 0, .int 0, .ref (u_761.1 48)])), ((u_761.1 48), .inl (cy 1, 10, .inl (fun _ => 0))), ((u_761.1 49), .inr (7, [.ref (u_761.1 31), .int 0, .int 0, .ref (u_761.1 50)])), ((u_761.1 50), .inl (cy 1, 10, .inl (fun _ => 0))), ((u_761.1 51), .inr (7, [.ref (u_761.1 31), .int 0, .int 0, .ref (u_761.1 52)])), ((u_761.1 52), .inl (cy 1, 10, .inl (fun _ => 0))), ((u_761.1 53), .inr (7, [.ref (u_761.1 31), .int 0, .int 0, .ref (u_761.1 54)])), ((u_761.1 54), .inl (cy 1, 10, .inl (fun _ => 0))), ((u_761.1 55), .inr (7, [.ref (u_761.1 31), .int 0, .int 0, .ref (u_761.1 56)])), ((u_761.1 56), .inl (cy 1, 10, .inl (fun _ => 0))), ((u_761.1 57), .inr (7, [.ref (u_761.1 31), .int 0, .int 0, .ref (u_761.1 58)])), ((u_761.1 58), .inl (cy 1, 10, .inl (fun _ => 0))), ((u_761.1 59), .inr (7, [.ref (u_761.1 31), .int 0, .int 0, .ref (u_761.1 60)])), ((u_761.1 60), .inl (cy 1, 10, .inl (fun _ => 0))), ((u_761.1 61), .inr (7, [.ref (u_761.1 31), .int 0, .int 0, .ref (u_761.1 62)])), ((u_761.1 62), .inl (cy 1, 10, .inl (fun _ => 0))), ((u_761.1 63), .inr (7, [.ref (u_761.1 31), .int 0, .int 0, .ref (u_761.1 64)])), ((u_761.1 64), .inl (cy 1, 10, .inl (fun _ => 0))), ((u_761.1 65), .inr (9, [.int (-1), .int 0, .ref (u_761.1 66)])), ((u_761.1 66), .inl (cy 2, 40, .inr (.inl (fun _ => 0)))), ((u_761.1 67), .inr (9, [.int (-1), .int 0, .ref (u_761.1 68)])), ((u_761.1 68), .inl (cy 2, 40, .inr (.inl (fun _ => 0)))), ((u_761.1 69), .inr (9, [.int (-1), .int 0, .ref (u_761.1 70)])), ((u_761.1 70), .inl (cy 2, 40, .inr (.inl (fun _ => 0)))), ((u_761.1 71), .inr (9, [.int (-1), .int 0, .ref (u_761.1 72)])), ((u_761.1 72), .inl (cy 2, 40, .inr (.inl (fun _ => 0)))), ((u_761.1 73), .inr (7, [.ref (u_761.1 31), .int 0, .int 0, .ref (u_761.1 74)])), ((u_761.1 74), .inl (cy 1, 10, .inl (fun _ => 0))), ((u_761.1 75), .inr (7, [.ref (u_761.1 31), .int 0, .int 0, .ref (u_761.1 76)])), ((u_761.1 76), .inl (cy 1, 10, .inl (fun _ => 0)))] _ _ := hw2
  refine lv_astore_n (lv' := [(1, .ref q_655), (0, .ref b)]) hx hb dL_law_7 rfl hl (by decide) rfl (fun lz3 hv3 => ?_)
  clear ls hl
  refine q_new (fs := [.int 0, .null, .null, .null, .null, .int 0, .int 0, .int 0, .int 0, .int 0, .int 0, .int 0, .int 0, .int 0, .int 0, .int 0, .null, .null, .null, .null, .null, .int 0, .int 0, .null, .null, .null, .int 0, .int 0, .null, .null, .null, .null, .null, .int 0, .null, .null, .null]) (ci := 12) X hK hA hw2 rfl wf_12 tyX12 tyX12_ok wm_5_161 wm_5_162 wm_1_12 df_12 (Nat.le_of_ble_eq_true rfl) (Nat.le_of_ble_eq_true rfl) dL_law_8 (fun q_762 Hp4 hw4 => ?_)
  clear Hp2 hw2
  replace hw4 : qW D _ _ [(q_655, .inr (11, [.ref (u_761.1 0), .int 0, .int 0, .int (-1), .ref (u_761.1 1), .ref (u_761.1 37), .ref (u_761.1 39), .ref (u_761.1 41), .ref (u_761.1 43), .ref (u_761.1 14), .ref (u_761.1 15), .ref (u_761.1 16), .ref (u_761.1 17), .ref (u_761.1 20), .ref (u_761.1 24), .ref (u_761.1 29), .int 0])), ((u_761.1 0), .inl (cy 0, 900, .inl (fun _ => 0))), ((u_761.1 1), .inr (5, [.ref (u_761.1 2), .int 0, .int 26, .int 0, .int (-1), .ref (u_761.1 7), .ref (u_761.1 13), .int 0, .int 0])), ((u_761.1 2), .inr (8, [.ref (u_761.1 3), .int 0, .int 0, .ref (u_761.1 4), .ref (u_761.1 5), .ref (u_761.1 6)])), ((u_761.1 3), .inl (cy 0, 0, .inl (fun _ => 0))), ((u_761.1 4), .inl (cy 1, 901, .inl (fun _ => 0))), ((u_761.1 5), .inl (cy 1, 901, .inl (fun _ => 0))), ((u_761.1 6), .inl (cy 1, 901, .inl (fun _ => 0))), ((u_761.1 7), .inr (3, [.int 1, .int 0, .int 0, .int 0, .null, .null, .null, .ref (u_761.1 8), .ref (u_761.1 9), .ref (u_761.1 10), .ref (u_761.1 11), .ref (u_761.1 12)])), ((u_761.1 8), .inl (cy 1, 10, .inl (fun _ => 0))), ((u_761.1 9), .inl (cy 1, 10, .inl (fun _ => 0))), ((u_761.1 10), .inl (cy 1, 10, .inl (fun _ => 0))), ((u_761.1 11), .inl (cy 1, 10, .inl (fun _ => 0))), ((u_761.1 12), .inl (cy 1, 10, .inl (fun _ => 0))), ((u_761.1 13), .inl (cy 1, 900, .inl (fun _ => 0))), ((u_761.1 14), .inl (cy 5, 4, .inr (.inr (.inr (.inr (va_up (va_up (va_up (va_up (fun _ => none) (Int32.toNatClampNeg 0) (some (u_761.1 65))) (Int32.toNatClampNeg 1) (some (u_761.1 67))) (Int32.toNatClampNeg 2) (some (u_761.1 69))) (Int32.toNatClampNeg 3) (some (u_761.1 71)))))))), ((u_761.1 15), .inl (cy 4, 2, .inr (.inr (.inr (.inr (va_up (va_up (fun _ => none) (Int32.toNatClampNeg 0) (some (u_761.1 73))) (Int32.toNatClampNeg 1) (some (u_761.1 75)))))))), ((u_761.1 16), .inl (cy 3, 2, .inl (fun _ => 0))), ((u_761.1 17), .inr (6, [.ref (u_761.1 18), .ref (u_761.1 19)])), ((u_761.1 18), .inl (cy 1, 11, .inl (fun _ => 0))), ((u_761.1 19), .inl (cy 1, 64, .inl (fun _ => 0))), ((u_761.1 20), .inr (0, [.int 0, .ref (u_761.1 21), .ref (u_761.1 22), .ref (u_761.1 23)])), ((u_761.1 21), .inl (cy 1, 10, .inl (fun _ => 0))), ((u_761.1 22), .inl (cy 1, 1024, .inl (fun _ => 0))), ((u_761.1 23), .inl (cy 1, 1024, .inl (fun _ => 0))), ((u_761.1 24), .inr (10, [.int (-1), .int (-1), .int (-1), .int (-1), .ref (u_761.1 25), .ref (u_761.1 26), .ref (u_761.1 27), .ref (u_761.1 28)])), ((u_761.1 25), .inl (cy 1, 1000, .inl (fun _ => 0))), ((u_761.1 26), .inl (cy 1, 1000, .inl (fun _ => 0))), ((u_761.1 27), .inl (cy 1, 1000, .inl (fun _ => 0))), ((u_761.1 28), .inl (cy 1, 1000, .inl (fun _ => 0))), ((u_761.1 29), .inr (1, [.int (-1), .int (-1), .int (-1), .int 0, .ref (u_761.1 30)])), ((u_761.1 30), .inl (cy 1, 1000, .inl (fun _ => 0))), ((u_761.1 31), .inr (3, [.int 1, .int 0, .int 0, .int 0, .null, .null, .null, .ref (u_761.1 32), .ref (u_761.1 33), .ref (u_761.1 34), .ref (u_761.1 35), .ref (u_761.1 36)])), ((u_761.1 32), .inl (cy 1, 10, .inl (fun _ => 0))), ((u_761.1 33), .inl (cy 1, 10, .inl (fun _ => 0))), ((u_761.1 34), .inl (cy 1, 10, .inl (fun _ => 0))), ((u_761.1 35), .inl (cy 1, 10, .inl (fun _ => 0))), ((u_761.1 36), .inl (cy 1, 10, .inl (fun _ => 0))), ((u_761.1 37), .inr (7, [.ref (u_761.1 31), .int 0, .int 0, .ref (u_761.1 38)])), ((u_761.1 38), .inl (cy 1, 10, .inl (fun _ => 0))), ((u_761.1 39), .inr (7, [.ref (u_761.1 31), .int 0, .int 0, .ref (u_761.1 40)])), ((u_761.1 40), .inl (cy 1, 10, .inl (fun _ => 0))), ((u_761.1 41), .inr (7, [.ref (u_761.1 31), .int 0, .int 0, .ref (u_761.1 42)])), ((u_761.1 42), .inl (cy 1, 10, .inl (fun _ => 0))), ((u_761.1 43), .inr (2, [.int 0, .ref (u_761.1 44)])), ((u_761.1 44), .inl (cy 4, 10, .inr (.inr (.inr (.inr (va_up (va_up (va_up (va_up (va_up (va_up (va_up (va_up (va_up (va_up (fun _ => none) (Int32.toNatClampNeg 0) (some (u_761.1 45))) (Int32.toNatClampNeg 1) (some (u_761.1 47))) (Int32.toNatClampNeg 2) (some (u_761.1 49))) (Int32.toNatClampNeg 3) (some (u_761.1 51))) (Int32.toNatClampNeg 4) (some (u_761.1 53))) (Int32.toNatClampNeg 5) (some (u_761.1 55))) (Int32.toNatClampNeg 6) (some (u_761.1 57))) (Int32.toNatClampNeg 7) (some (u_761.1 59))) (Int32.toNatClampNeg 8) (some (u_761.1 61))) (Int32.toNatClampNeg 9) (some (u_761.1 63)))))))), ((u_761.1 45), .inr (7, [.ref (u_761.1 31), .int 0, .int 0, .ref (u_761.1 46)])), ((u_761.1 46), .inl (cy 1, 10, .inl (fun _ => 0))), ((u_761.1 47), .inr (7, [.ref (u_761.1 31), .int 0, .int 0, .ref (u_761.1 48)])), ((u_761.1 48), .inl (cy 1, 10, .inl (fun _ => 0))), ((u_761.1 49), .inr (7, [.ref (u_761.1 31), .int 0, .int 0, .ref (u_761.1 50)])), ((u_761.1 50), .inl (cy 1, 10, .inl (fun _ => 0))), ((u_761.1 51), .inr (7, [.ref (u_761.1 31), .int 0, .int 0, .ref (u_761.1 52)])), ((u_761.1 52), .inl (cy 1, 10, .inl (fun _ => 0))), ((u_761.1 53), .inr (7, [.ref (u_761.1 31), .int 0, .int 0, .ref (u_761.1 54)])), ((u_761.1 54), .inl (cy 1, 10, .inl (fun _ => 0))), ((u_761.1 55), .inr (7, [.ref (u_761.1 31), .int 0, .int 0, .ref (u_761.1 56)])), ((u_761.1 56), .inl (cy 1, 10, .inl (fun _ => 0))), ((u_761.1 57), .inr (7, [.ref (u_761.1 31), .int 0, .int 0, .ref (u_761.1 58)])), ((u_761.1 58), .inl (cy 1, 10, .inl (fun _ => 0))), ((u_761.1 59), .inr (7, [.ref (u_761.1 31), .int 0, .int 0, .ref (u_761.1 60)])), ((u_761.1 60), .inl (cy 1, 10, .inl (fun _ => 0))), ((u_761.1 61), .inr (7, [.ref (u_761.1 31), .int 0, .int 0, .ref (u_761.1 62)])), ((u_761.1 62), .inl (cy 1, 10, .inl (fun _ => 0))), ((u_761.1 63), .inr (7, [.ref (u_761.1 31), .int 0, .int 0, .ref (u_761.1 64)])), ((u_761.1 64), .inl (cy 1, 10, .inl (fun _ => 0))), ((u_761.1 65), .inr (9, [.int (-1), .int 0, .ref (u_761.1 66)])), ((u_761.1 66), .inl (cy 2, 40, .inr (.inl (fun _ => 0)))), ((u_761.1 67), .inr (9, [.int (-1), .int 0, .ref (u_761.1 68)])), ((u_761.1 68), .inl (cy 2, 40, .inr (.inl (fun _ => 0)))), ((u_761.1 69), .inr (9, [.int (-1), .int 0, .ref (u_761.1 70)])), ((u_761.1 70), .inl (cy 2, 40, .inr (.inl (fun _ => 0)))), ((u_761.1 71), .inr (9, [.int (-1), .int 0, .ref (u_761.1 72)])), ((u_761.1 72), .inl (cy 2, 40, .inr (.inl (fun _ => 0)))), ((u_761.1 73), .inr (7, [.ref (u_761.1 31), .int 0, .int 0, .ref (u_761.1 74)])), ((u_761.1 74), .inl (cy 1, 10, .inl (fun _ => 0))), ((u_761.1 75), .inr (7, [.ref (u_761.1 31), .int 0, .int 0, .ref (u_761.1 76)])), ((u_761.1 76), .inl (cy 1, 10, .inl (fun _ => 0))), (q_762, .inr (12, [.int 0, .null, .null, .null, .null, .int 0, .int 0, .int 0, .int 0, .int 0, .int 0, .int 0, .int 0, .int 0, .int 0, .int 0, .null, .null, .null, .null, .null, .int 0, .int 0, .null, .null, .null, .int 0, .int 0, .null, .null, .null, .null, .null, .int 0, .null, .null, .null]))] _ _ := hw4
  refine lv_dup hx hb dL_law_11 rfl ?_
  refine q_callIv (rest := [.ref q_762]) (wr := [(q_655, .inr (11, [.ref (u_761.1 0), .int 0, .int 0, .int (-1), .ref (u_761.1 1), .ref (u_761.1 37), .ref (u_761.1 39), .ref (u_761.1 41), .ref (u_761.1 43), .ref (u_761.1 14), .ref (u_761.1 15), .ref (u_761.1 16), .ref (u_761.1 17), .ref (u_761.1 20), .ref (u_761.1 24), .ref (u_761.1 29), .int 0])), ((u_761.1 0), .inl (cy 0, 900, .inl (fun _ => 0))), ((u_761.1 1), .inr (5, [.ref (u_761.1 2), .int 0, .int 26, .int 0, .int (-1), .ref (u_761.1 7), .ref (u_761.1 13), .int 0, .int 0])), ((u_761.1 2), .inr (8, [.ref (u_761.1 3), .int 0, .int 0, .ref (u_761.1 4), .ref (u_761.1 5), .ref (u_761.1 6)])), ((u_761.1 3), .inl (cy 0, 0, .inl (fun _ => 0))), ((u_761.1 4), .inl (cy 1, 901, .inl (fun _ => 0))), ((u_761.1 5), .inl (cy 1, 901, .inl (fun _ => 0))), ((u_761.1 6), .inl (cy 1, 901, .inl (fun _ => 0))), ((u_761.1 7), .inr (3, [.int 1, .int 0, .int 0, .int 0, .null, .null, .null, .ref (u_761.1 8), .ref (u_761.1 9), .ref (u_761.1 10), .ref (u_761.1 11), .ref (u_761.1 12)])), ((u_761.1 8), .inl (cy 1, 10, .inl (fun _ => 0))), ((u_761.1 9), .inl (cy 1, 10, .inl (fun _ => 0))), ((u_761.1 10), .inl (cy 1, 10, .inl (fun _ => 0))), ((u_761.1 11), .inl (cy 1, 10, .inl (fun _ => 0))), ((u_761.1 12), .inl (cy 1, 10, .inl (fun _ => 0))), ((u_761.1 13), .inl (cy 1, 900, .inl (fun _ => 0))), ((u_761.1 14), .inl (cy 5, 4, .inr (.inr (.inr (.inr (va_up (va_up (va_up (va_up (fun _ => none) (Int32.toNatClampNeg 0) (some (u_761.1 65))) (Int32.toNatClampNeg 1) (some (u_761.1 67))) (Int32.toNatClampNeg 2) (some (u_761.1 69))) (Int32.toNatClampNeg 3) (some (u_761.1 71)))))))), ((u_761.1 15), .inl (cy 4, 2, .inr (.inr (.inr (.inr (va_up (va_up (fun _ => none) (Int32.toNatClampNeg 0) (some (u_761.1 73))) (Int32.toNatClampNeg 1) (some (u_761.1 75)))))))), ((u_761.1 16), .inl (cy 3, 2, .inl (fun _ => 0))), ((u_761.1 17), .inr (6, [.ref (u_761.1 18), .ref (u_761.1 19)])), ((u_761.1 18), .inl (cy 1, 11, .inl (fun _ => 0))), ((u_761.1 19), .inl (cy 1, 64, .inl (fun _ => 0))), ((u_761.1 20), .inr (0, [.int 0, .ref (u_761.1 21), .ref (u_761.1 22), .ref (u_761.1 23)])), ((u_761.1 21), .inl (cy 1, 10, .inl (fun _ => 0))), ((u_761.1 22), .inl (cy 1, 1024, .inl (fun _ => 0))), ((u_761.1 23), .inl (cy 1, 1024, .inl (fun _ => 0))), ((u_761.1 24), .inr (10, [.int (-1), .int (-1), .int (-1), .int (-1), .ref (u_761.1 25), .ref (u_761.1 26), .ref (u_761.1 27), .ref (u_761.1 28)])), ((u_761.1 25), .inl (cy 1, 1000, .inl (fun _ => 0))), ((u_761.1 26), .inl (cy 1, 1000, .inl (fun _ => 0))), ((u_761.1 27), .inl (cy 1, 1000, .inl (fun _ => 0))), ((u_761.1 28), .inl (cy 1, 1000, .inl (fun _ => 0))), ((u_761.1 29), .inr (1, [.int (-1), .int (-1), .int (-1), .int 0, .ref (u_761.1 30)])), ((u_761.1 30), .inl (cy 1, 1000, .inl (fun _ => 0))), ((u_761.1 31), .inr (3, [.int 1, .int 0, .int 0, .int 0, .null, .null, .null, .ref (u_761.1 32), .ref (u_761.1 33), .ref (u_761.1 34), .ref (u_761.1 35), .ref (u_761.1 36)])), ((u_761.1 32), .inl (cy 1, 10, .inl (fun _ => 0))), ((u_761.1 33), .inl (cy 1, 10, .inl (fun _ => 0))), ((u_761.1 34), .inl (cy 1, 10, .inl (fun _ => 0))), ((u_761.1 35), .inl (cy 1, 10, .inl (fun _ => 0))), ((u_761.1 36), .inl (cy 1, 10, .inl (fun _ => 0))), ((u_761.1 37), .inr (7, [.ref (u_761.1 31), .int 0, .int 0, .ref (u_761.1 38)])), ((u_761.1 38), .inl (cy 1, 10, .inl (fun _ => 0))), ((u_761.1 39), .inr (7, [.ref (u_761.1 31), .int 0, .int 0, .ref (u_761.1 40)])), ((u_761.1 40), .inl (cy 1, 10, .inl (fun _ => 0))), ((u_761.1 41), .inr (7, [.ref (u_761.1 31), .int 0, .int 0, .ref (u_761.1 42)])), ((u_761.1 42), .inl (cy 1, 10, .inl (fun _ => 0))), ((u_761.1 43), .inr (2, [.int 0, .ref (u_761.1 44)])), ((u_761.1 44), .inl (cy 4, 10, .inr (.inr (.inr (.inr (va_up (va_up (va_up (va_up (va_up (va_up (va_up (va_up (va_up (va_up (fun _ => none) (Int32.toNatClampNeg 0) (some (u_761.1 45))) (Int32.toNatClampNeg 1) (some (u_761.1 47))) (Int32.toNatClampNeg 2) (some (u_761.1 49))) (Int32.toNatClampNeg 3) (some (u_761.1 51))) (Int32.toNatClampNeg 4) (some (u_761.1 53))) (Int32.toNatClampNeg 5) (some (u_761.1 55))) (Int32.toNatClampNeg 6) (some (u_761.1 57))) (Int32.toNatClampNeg 7) (some (u_761.1 59))) (Int32.toNatClampNeg 8) (some (u_761.1 61))) (Int32.toNatClampNeg 9) (some (u_761.1 63)))))))), ((u_761.1 45), .inr (7, [.ref (u_761.1 31), .int 0, .int 0, .ref (u_761.1 46)])), ((u_761.1 46), .inl (cy 1, 10, .inl (fun _ => 0))), ((u_761.1 47), .inr (7, [.ref (u_761.1 31), .int 0, .int 0, .ref (u_761.1 48)])), ((u_761.1 48), .inl (cy 1, 10, .inl (fun _ => 0))), ((u_761.1 49), .inr (7, [.ref (u_761.1 31), .int 0, .int 0, .ref (u_761.1 50)])), ((u_761.1 50), .inl (cy 1, 10, .inl (fun _ => 0))), ((u_761.1 51), .inr (7, [.ref (u_761.1 31), .int 0, .int 0, .ref (u_761.1 52)])), ((u_761.1 52), .inl (cy 1, 10, .inl (fun _ => 0))), ((u_761.1 53), .inr (7, [.ref (u_761.1 31), .int 0, .int 0, .ref (u_761.1 54)])), ((u_761.1 54), .inl (cy 1, 10, .inl (fun _ => 0))), ((u_761.1 55), .inr (7, [.ref (u_761.1 31), .int 0, .int 0, .ref (u_761.1 56)])), ((u_761.1 56), .inl (cy 1, 10, .inl (fun _ => 0))), ((u_761.1 57), .inr (7, [.ref (u_761.1 31), .int 0, .int 0, .ref (u_761.1 58)])), ((u_761.1 58), .inl (cy 1, 10, .inl (fun _ => 0))), ((u_761.1 59), .inr (7, [.ref (u_761.1 31), .int 0, .int 0, .ref (u_761.1 60)])), ((u_761.1 60), .inl (cy 1, 10, .inl (fun _ => 0))), ((u_761.1 61), .inr (7, [.ref (u_761.1 31), .int 0, .int 0, .ref (u_761.1 62)])), ((u_761.1 62), .inl (cy 1, 10, .inl (fun _ => 0))), ((u_761.1 63), .inr (7, [.ref (u_761.1 31), .int 0, .int 0, .ref (u_761.1 64)])), ((u_761.1 64), .inl (cy 1, 10, .inl (fun _ => 0))), ((u_761.1 65), .inr (9, [.int (-1), .int 0, .ref (u_761.1 66)])), ((u_761.1 66), .inl (cy 2, 40, .inr (.inl (fun _ => 0)))), ((u_761.1 67), .inr (9, [.int (-1), .int 0, .ref (u_761.1 68)])), ((u_761.1 68), .inl (cy 2, 40, .inr (.inl (fun _ => 0)))), ((u_761.1 69), .inr (9, [.int (-1), .int 0, .ref (u_761.1 70)])), ((u_761.1 70), .inl (cy 2, 40, .inr (.inl (fun _ => 0)))), ((u_761.1 71), .inr (9, [.int (-1), .int 0, .ref (u_761.1 72)])), ((u_761.1 72), .inl (cy 2, 40, .inr (.inl (fun _ => 0)))), ((u_761.1 73), .inr (7, [.ref (u_761.1 31), .int 0, .int 0, .ref (u_761.1 74)])), ((u_761.1 74), .inl (cy 1, 10, .inl (fun _ => 0))), ((u_761.1 75), .inr (7, [.ref (u_761.1 31), .int 0, .int 0, .ref (u_761.1 76)])), ((u_761.1 76), .inl (cy 1, 10, .inl (fun _ => 0)))]) X hK hA hw4 (fun sz => kX12_init_13 l D cy q_762  sz) wm_5_163 wm_5_165 wm_1_12 hd_X12_init wm_5_164 rfl ⟨Nat.le_of_ble_eq_true rfl, Nat.le_of_ble_eq_true rfl⟩ hv3.1 rfl (Nat.le_of_ble_eq_true rfl) dL_law_12 ⟨Nat.le_of_ble_eq_true rfl, Nat.le_of_ble_eq_true rfl⟩ [78] [0, 1, 2, 3, 4, 5, 6, 7, 8, 9, 10, 11, 12, 13, 14, 15, 16, 17, 18, 19, 20, 21, 22, 23, 24, 25, 26, 27, 28, 29, 30, 31, 32, 33, 34, 35, 36, 37, 38, 39, 40, 41, 42, 43, 44, 45, 46, 47, 48, 49, 50, 51, 52, 53, 54, 55, 56, 57, 58, 59, 60, 61, 62, 63, 64, 65, 66, 67, 68, 69, 70, 71, 72, 73, 74, 75, 76, 77] rfl rfl (by decide) rfl rfl (fun u_787 Hp5 lc5 w_787 hw5 => ?_)
  clear Hp4 lc2 hw4
  replace hw5 : qW D _ _ [(q_655, .inr (11, [.ref (u_761.1 0), .int 0, .int 0, .int (-1), .ref (u_761.1 1), .ref (u_761.1 37), .ref (u_761.1 39), .ref (u_761.1 41), .ref (u_761.1 43), .ref (u_761.1 14), .ref (u_761.1 15), .ref (u_761.1 16), .ref (u_761.1 17), .ref (u_761.1 20), .ref (u_761.1 24), .ref (u_761.1 29), .int 0])), ((u_761.1 0), .inl (cy 0, 900, .inl (fun _ => 0))), ((u_761.1 1), .inr (5, [.ref (u_761.1 2), .int 0, .int 26, .int 0, .int (-1), .ref (u_761.1 7), .ref (u_761.1 13), .int 0, .int 0])), ((u_761.1 2), .inr (8, [.ref (u_761.1 3), .int 0, .int 0, .ref (u_761.1 4), .ref (u_761.1 5), .ref (u_761.1 6)])), ((u_761.1 3), .inl (cy 0, 0, .inl (fun _ => 0))), ((u_761.1 4), .inl (cy 1, 901, .inl (fun _ => 0))), ((u_761.1 5), .inl (cy 1, 901, .inl (fun _ => 0))), ((u_761.1 6), .inl (cy 1, 901, .inl (fun _ => 0))), ((u_761.1 7), .inr (3, [.int 1, .int 0, .int 0, .int 0, .null, .null, .null, .ref (u_761.1 8), .ref (u_761.1 9), .ref (u_761.1 10), .ref (u_761.1 11), .ref (u_761.1 12)])), ((u_761.1 8), .inl (cy 1, 10, .inl (fun _ => 0))), ((u_761.1 9), .inl (cy 1, 10, .inl (fun _ => 0))), ((u_761.1 10), .inl (cy 1, 10, .inl (fun _ => 0))), ((u_761.1 11), .inl (cy 1, 10, .inl (fun _ => 0))), ((u_761.1 12), .inl (cy 1, 10, .inl (fun _ => 0))), ((u_761.1 13), .inl (cy 1, 900, .inl (fun _ => 0))), ((u_761.1 14), .inl (cy 5, 4, .inr (.inr (.inr (.inr (va_up (va_up (va_up (va_up (fun _ => none) (Int32.toNatClampNeg 0) (some (u_761.1 65))) (Int32.toNatClampNeg 1) (some (u_761.1 67))) (Int32.toNatClampNeg 2) (some (u_761.1 69))) (Int32.toNatClampNeg 3) (some (u_761.1 71)))))))), ((u_761.1 15), .inl (cy 4, 2, .inr (.inr (.inr (.inr (va_up (va_up (fun _ => none) (Int32.toNatClampNeg 0) (some (u_761.1 73))) (Int32.toNatClampNeg 1) (some (u_761.1 75)))))))), ((u_761.1 16), .inl (cy 3, 2, .inl (fun _ => 0))), ((u_761.1 17), .inr (6, [.ref (u_761.1 18), .ref (u_761.1 19)])), ((u_761.1 18), .inl (cy 1, 11, .inl (fun _ => 0))), ((u_761.1 19), .inl (cy 1, 64, .inl (fun _ => 0))), ((u_761.1 20), .inr (0, [.int 0, .ref (u_761.1 21), .ref (u_761.1 22), .ref (u_761.1 23)])), ((u_761.1 21), .inl (cy 1, 10, .inl (fun _ => 0))), ((u_761.1 22), .inl (cy 1, 1024, .inl (fun _ => 0))), ((u_761.1 23), .inl (cy 1, 1024, .inl (fun _ => 0))), ((u_761.1 24), .inr (10, [.int (-1), .int (-1), .int (-1), .int (-1), .ref (u_761.1 25), .ref (u_761.1 26), .ref (u_761.1 27), .ref (u_761.1 28)])), ((u_761.1 25), .inl (cy 1, 1000, .inl (fun _ => 0))), ((u_761.1 26), .inl (cy 1, 1000, .inl (fun _ => 0))), ((u_761.1 27), .inl (cy 1, 1000, .inl (fun _ => 0))), ((u_761.1 28), .inl (cy 1, 1000, .inl (fun _ => 0))), ((u_761.1 29), .inr (1, [.int (-1), .int (-1), .int (-1), .int 0, .ref (u_761.1 30)])), ((u_761.1 30), .inl (cy 1, 1000, .inl (fun _ => 0))), ((u_761.1 31), .inr (3, [.int 1, .int 0, .int 0, .int 0, .null, .null, .null, .ref (u_761.1 32), .ref (u_761.1 33), .ref (u_761.1 34), .ref (u_761.1 35), .ref (u_761.1 36)])), ((u_761.1 32), .inl (cy 1, 10, .inl (fun _ => 0))), ((u_761.1 33), .inl (cy 1, 10, .inl (fun _ => 0))), ((u_761.1 34), .inl (cy 1, 10, .inl (fun _ => 0))), ((u_761.1 35), .inl (cy 1, 10, .inl (fun _ => 0))), ((u_761.1 36), .inl (cy 1, 10, .inl (fun _ => 0))), ((u_761.1 37), .inr (7, [.ref (u_761.1 31), .int 0, .int 0, .ref (u_761.1 38)])), ((u_761.1 38), .inl (cy 1, 10, .inl (fun _ => 0))), ((u_761.1 39), .inr (7, [.ref (u_761.1 31), .int 0, .int 0, .ref (u_761.1 40)])), ((u_761.1 40), .inl (cy 1, 10, .inl (fun _ => 0))), ((u_761.1 41), .inr (7, [.ref (u_761.1 31), .int 0, .int 0, .ref (u_761.1 42)])), ((u_761.1 42), .inl (cy 1, 10, .inl (fun _ => 0))), ((u_761.1 43), .inr (2, [.int 0, .ref (u_761.1 44)])), ((u_761.1 44), .inl (cy 4, 10, .inr (.inr (.inr (.inr (va_up (va_up (va_up (va_up (va_up (va_up (va_up (va_up (va_up (va_up (fun _ => none) (Int32.toNatClampNeg 0) (some (u_761.1 45))) (Int32.toNatClampNeg 1) (some (u_761.1 47))) (Int32.toNatClampNeg 2) (some (u_761.1 49))) (Int32.toNatClampNeg 3) (some (u_761.1 51))) (Int32.toNatClampNeg 4) (some (u_761.1 53))) (Int32.toNatClampNeg 5) (some (u_761.1 55))) (Int32.toNatClampNeg 6) (some (u_761.1 57))) (Int32.toNatClampNeg 7) (some (u_761.1 59))) (Int32.toNatClampNeg 8) (some (u_761.1 61))) (Int32.toNatClampNeg 9) (some (u_761.1 63)))))))), ((u_761.1 45), .inr (7, [.ref (u_761.1 31), .int 0, .int 0, .ref (u_761.1 46)])), ((u_761.1 46), .inl (cy 1, 10, .inl (fun _ => 0))), ((u_761.1 47), .inr (7, [.ref (u_761.1 31), .int 0, .int 0, .ref (u_761.1 48)])), ((u_761.1 48), .inl (cy 1, 10, .inl (fun _ => 0))), ((u_761.1 49), .inr (7, [.ref (u_761.1 31), .int 0, .int 0, .ref (u_761.1 50)])), ((u_761.1 50), .inl (cy 1, 10, .inl (fun _ => 0))), ((u_761.1 51), .inr (7, [.ref (u_761.1 31), .int 0, .int 0, .ref (u_761.1 52)])), ((u_761.1 52), .inl (cy 1, 10, .inl (fun _ => 0))), ((u_761.1 53), .inr (7, [.ref (u_761.1 31), .int 0, .int 0, .ref (u_761.1 54)])), ((u_761.1 54), .inl (cy 1, 10, .inl (fun _ => 0))), ((u_761.1 55), .inr (7, [.ref (u_761.1 31), .int 0, .int 0, .ref (u_761.1 56)])), ((u_761.1 56), .inl (cy 1, 10, .inl (fun _ => 0))), ((u_761.1 57), .inr (7, [.ref (u_761.1 31), .int 0, .int 0, .ref (u_761.1 58)])), ((u_761.1 58), .inl (cy 1, 10, .inl (fun _ => 0))), ((u_761.1 59), .inr (7, [.ref (u_761.1 31), .int 0, .int 0, .ref (u_761.1 60)])), ((u_761.1 60), .inl (cy 1, 10, .inl (fun _ => 0))), ((u_761.1 61), .inr (7, [.ref (u_761.1 31), .int 0, .int 0, .ref (u_761.1 62)])), ((u_761.1 62), .inl (cy 1, 10, .inl (fun _ => 0))), ((u_761.1 63), .inr (7, [.ref (u_761.1 31), .int 0, .int 0, .ref (u_761.1 64)])), ((u_761.1 64), .inl (cy 1, 10, .inl (fun _ => 0))), ((u_761.1 65), .inr (9, [.int (-1), .int 0, .ref (u_761.1 66)])), ((u_761.1 66), .inl (cy 2, 40, .inr (.inl (fun _ => 0)))), ((u_761.1 67), .inr (9, [.int (-1), .int 0, .ref (u_761.1 68)])), ((u_761.1 68), .inl (cy 2, 40, .inr (.inl (fun _ => 0)))), ((u_761.1 69), .inr (9, [.int (-1), .int 0, .ref (u_761.1 70)])), ((u_761.1 70), .inl (cy 2, 40, .inr (.inl (fun _ => 0)))), ((u_761.1 71), .inr (9, [.int (-1), .int 0, .ref (u_761.1 72)])), ((u_761.1 72), .inl (cy 2, 40, .inr (.inl (fun _ => 0)))), ((u_761.1 73), .inr (7, [.ref (u_761.1 31), .int 0, .int 0, .ref (u_761.1 74)])), ((u_761.1 74), .inl (cy 1, 10, .inl (fun _ => 0))), ((u_761.1 75), .inr (7, [.ref (u_761.1 31), .int 0, .int 0, .ref (u_761.1 76)])), ((u_761.1 76), .inl (cy 1, 10, .inl (fun _ => 0))), (q_762, .inr (12, [.int 0, .ref (u_787.1 19), .ref (u_787.1 0), .ref (u_787.1 1), .ref (u_787.1 2), .int 0, .int 0, .int 0, .int 0, .int 0, .int 0, .int 0, .int 0, .int 0, .int (-1), .int 0, .ref (u_787.1 3), .ref (u_787.1 4), .ref (u_787.1 5), .ref (u_787.1 6), .ref (u_787.1 7), .int 0, .int 0, .ref (u_787.1 8), .ref (u_787.1 9), .ref (u_787.1 10), .int 0, .int 0, .ref (u_787.1 11), .ref (u_787.1 12), .ref (u_787.1 13), .ref (u_787.1 14), .ref (u_787.1 15), .int 0, .ref (u_787.1 16), .ref (u_787.1 17), .ref (u_787.1 18)])), ((u_787.1 0), .inl (cy 3, 2, .inl (fun _ => 0))), ((u_787.1 1), .inl (cy 1, 900, .inl (fun _ => 0))), ((u_787.1 2), .inl (cy 1, 1306, .inl (fun _ => 0))), ((u_787.1 3), .inl (cy 1, 900, .inl (fun _ => 0))), ((u_787.1 4), .inl (cy 1, 11, .inl (fun _ => 0))), ((u_787.1 5), .inl (cy 1, 3, .inl (fun _ => 0))), ((u_787.1 6), .inl (cy 1, 10, .inl (fun _ => 0))), ((u_787.1 7), .inl (cy 1, 32, .inl (fun _ => 0))), ((u_787.1 8), .inl (cy 1, 1024, .inl (fun _ => 0))), ((u_787.1 9), .inl (cy 1, 10, .inl (fun _ => 0))), ((u_787.1 10), .inl (cy 1, 10, .inl (fun _ => 0))), ((u_787.1 11), .inl (cy 1, 1000, .inl (fun _ => 0))), ((u_787.1 12), .inl (cy 1, 1000, .inl (fun _ => 0))), ((u_787.1 13), .inl (cy 1, 1000, .inl (fun _ => 0))), ((u_787.1 14), .inl (cy 1, 1000, .inl (fun _ => 0))), ((u_787.1 15), .inl (cy 3, 1000, .inl (fun _ => 0))), ((u_787.1 16), .inl (cy 1, 4, .inl (upd (upd (upd (upd (fun _ => 0) (Int32.toNatClampNeg 0) (-1)) (Int32.toNatClampNeg 1) (-1)) (Int32.toNatClampNeg 2) (-1)) (Int32.toNatClampNeg 3) (-1)))), ((u_787.1 17), .inl (cy 1, 4, .inl (fun _ => 0))), ((u_787.1 18), .inl (cy 2, 160, .inr (.inl (fun _ => 0)))), ((u_787.1 19), .inl (cy 1, 3918, .inl (upd (fun _ => 0) (Int32.toNatClampNeg 1) 1)))] _ _ := hw5
  refine lv_astore_n (lv' := [(2, .ref q_762), (1, .ref q_655), (0, .ref b)]) hx hb dL_law_15 rfl hv3 (by decide) rfl (fun lz6 hv6 => ?_)
  clear lz3 hv3
  refine lv_iconst (v := 0) hx hb dL_law_16 (by decide) ?_
  refine lv_istore_n (lv' := [(3, .int 0), (2, .ref q_762), (1, .ref q_655), (0, .ref b)]) hx hb dL_law_17 rfl hv6 (by decide) rfl (fun lz7 hv7 => ?_)
  clear lz6 hv6
  have h : qW D (fun q : Nat => s.heap.size ≤ q) s.heap (wLaw cy q_655 q_762 u_761 u_787) _ _ := hw5
  have hl := hv7
  refine W.widen (k := 99) (n := 25544) (Nat.le_of_ble_eq_true rfl) (Nat.le_of_ble_eq_true rfl) ?_
  refine lv_iload_n hx hb dL_law_18 rfl (lv_at hl 0 rfl) ?_
  refine lv_aload_n hx hb dL_law_19 rfl (lv_at hl 3 rfl) ?_
  refine va_slen hx hb hX hbl hbA h.2.2 dL_law_20 ?_
  refine lv_bipush (v := 6) hx hb dL_law_21 (by decide) ?_
  refine lv_isub hx hb dL_law_23 ?_
  by_cases h6 : L = 6
  · subst h6
    refine q_c 0 (by decide +kernel) ?_
    refine lv_icmp_gt (tgt := 1467) hx hb dL_law_24 (by decide) (fun c => absurd c (by decide +kernel)) (fun _ => ?_)
    refine lv_aload_n hx hb dL_law_27 rfl (lv_at hl 3 rfl) ?_
    refine lv_iload_n hx hb dL_law_28 rfl (lv_at hl 0 rfl) ?_
    refine va_sld hx hb hX hbl hbA h.2.2 (q_in (by decide +kernel)) dL_law_29 ?_
    refine lv_bipush (v := 63) hx hb dL_law_30 (by decide) ?_
    refine lv_iand hx hb dL_law_32 ?_
    generalize xs (Int32.toNatClampNeg 0) &&& 63 = v
    by_cases c_0 : v = 0
    · subst c_0
      refine lv_tableIn (off := 187) (tgt := 220) hx hb dL_law_33 (by decide +kernel) (by decide +kernel) (by decide +kernel) (by decide) ?_
      exact lc_feed l X hr hlk hX hbl hK _ _ _ _ _ rfl rfl rfl rfl rfl h hl
    by_cases c_1 : v = 1
    · subst c_1
      refine lv_tableIn (off := 250) (tgt := 283) hx hb dL_law_33 (by decide +kernel) (by decide +kernel) (by decide +kernel) (by decide) ?_
      exact lc_house l X hr hlk hX hbl hK _ _ _ _ _ rfl rfl rfl rfl rfl h hl
    by_cases c_2 : v = 2
    · subst c_2
      refine lv_tableIn (off := 273) (tgt := 306) hx hb dL_law_33 (by decide +kernel) (by decide +kernel) (by decide +kernel) (by decide) ?_
      exact lc_fault l X hr hlk hX hbl hK _ _ _ _ _ rfl rfl rfl rfl rfl h hl
    by_cases c_3 : v = 3
    · subst c_3
      refine lv_tableIn (off := 296) (tgt := 329) hx hb dL_law_33 (by decide +kernel) (by decide +kernel) (by decide +kernel) (by decide) ?_
      exact lc_person l X hr hlk hX hbl hK _ _ _ _ _ rfl rfl rfl rfl rfl h hl
    by_cases c_4 : v = 4
    · subst c_4
      refine lv_tableIn (off := 329) (tgt := 362) hx hb dL_law_33 (by decide +kernel) (by decide +kernel) (by decide +kernel) (by decide) ?_
      exact lc_town l X hr hlk hX hbl hK _ _ _ _ _ rfl rfl rfl rfl rfl h hl
    by_cases c_5 : v = 5
    · subst c_5
      refine lv_tableIn (off := 352) (tgt := 385) hx hb dL_law_33 (by decide +kernel) (by decide +kernel) (by decide +kernel) (by decide) ?_
      exact lc_opposed l X hr hlk hX hbl hK _ _ _ _ _ rfl rfl rfl rfl rfl h hl
    by_cases c_6 : v = 6
    · subst c_6
      refine lv_tableIn (off := 385) (tgt := 418) hx hb dL_law_33 (by decide +kernel) (by decide +kernel) (by decide +kernel) (by decide) ?_
      exact lc_opposites l X hr hlk hX hbl hK _ _ _ _ _ rfl rfl rfl rfl rfl h hl
    by_cases c_7 : v = 7
    · subst c_7
      refine lv_tableIn (off := 408) (tgt := 441) hx hb dL_law_33 (by decide +kernel) (by decide +kernel) (by decide +kernel) (by decide) ?_
      exact lc_talk l X hr hlk hX hbl hK _ _ _ _ _ rfl rfl rfl rfl rfl h hl
    by_cases c_8 : v = 8
    · subst c_8
      refine lv_tableIn (off := 441) (tgt := 474) hx hb dL_law_33 (by decide +kernel) (by decide +kernel) (by decide +kernel) (by decide) ?_
      exact lc_send l X hr hlk hX hbl hK _ _ _ _ _ rfl rfl rfl rfl rfl h hl
    by_cases c_9 : v = 9
    · subst c_9
      refine lv_tableIn (off := 464) (tgt := 497) hx hb dL_law_33 (by decide +kernel) (by decide +kernel) (by decide +kernel) (by decide) ?_
      exact lc_call l X hr hlk hX hbl hK _ _ _ _ _ rfl rfl rfl rfl rfl h hl
    by_cases c_10 : v = 10
    · subst c_10
      refine lv_tableIn (off := 487) (tgt := 520) hx hb dL_law_33 (by decide +kernel) (by decide +kernel) (by decide +kernel) (by decide) ?_
      exact lc_days l X hr hlk hX hbl hK _ _ _ _ _ rfl rfl rfl rfl rfl h hl
    by_cases c_11 : v = 11
    · subst c_11
      refine lv_tableIn (off := 510) (tgt := 543) hx hb dL_law_33 (by decide +kernel) (by decide +kernel) (by decide +kernel) (by decide) ?_
      exact lc_undo l X hr hlk hX hbl hK _ _ _ _ _ rfl rfl rfl rfl rfl h hl
    by_cases c_12 : v = 12
    · subst c_12
      refine lv_tableIn (off := 533) (tgt := 566) hx hb dL_law_33 (by decide +kernel) (by decide +kernel) (by decide +kernel) (by decide) ?_
      exact lc_judge l X hr hlk hX hbl hK _ _ _ _ _ rfl rfl rfl rfl rfl h hl
    by_cases c_13 : v = 13
    · subst c_13
      refine lv_tableIn (off := 566) (tgt := 599) hx hb dL_law_33 (by decide +kernel) (by decide +kernel) (by decide +kernel) (by decide) ?_
      exact lc_perform l X hr hlk hX hbl hK _ _ _ _ _ rfl rfl rfl rfl rfl h hl
    by_cases c_14 : v = 14
    · subst c_14
      refine lv_tableIn (off := 589) (tgt := 622) hx hb dL_law_33 (by decide +kernel) (by decide +kernel) (by decide +kernel) (by decide) ?_
      exact lc_year l X hr hlk hX hbl hK _ _ _ _ _ rfl rfl rfl rfl rfl h hl
    by_cases c_15 : v = 15
    · subst c_15
      refine lv_tableIn (off := 622) (tgt := 655) hx hb dL_law_33 (by decide +kernel) (by decide +kernel) (by decide +kernel) (by decide) ?_
      exact lc_sits l X hr hlk hX hbl hK _ _ _ _ _ rfl rfl rfl rfl rfl h hl
    by_cases c_16 : v = 16
    · subst c_16
      refine lv_tableIn (off := 645) (tgt := 678) hx hb dL_law_33 (by decide +kernel) (by decide +kernel) (by decide +kernel) (by decide) ?_
      exact lc_pairs l X hr hlk hX hbl hK _ _ _ _ _ rfl rfl rfl rfl rfl h hl
    by_cases c_17 : v = 17
    · subst c_17
      refine lv_tableIn (off := 678) (tgt := 711) hx hb dL_law_33 (by decide +kernel) (by decide +kernel) (by decide +kernel) (by decide) ?_
      exact lc_ways l X hr hlk hX hbl hK _ _ _ _ _ rfl rfl rfl rfl rfl h hl
    by_cases c_18 : v = 18
    · subst c_18
      refine lv_tableIn (off := 701) (tgt := 734) hx hb dL_law_33 (by decide +kernel) (by decide +kernel) (by decide +kernel) (by decide) ?_
      exact lc_bar l X hr hlk hX hbl hK _ _ _ _ _ rfl rfl rfl rfl rfl h hl
    by_cases c_19 : v = 19
    · subst c_19
      refine lv_tableIn (off := 734) (tgt := 767) hx hb dL_law_33 (by decide +kernel) (by decide +kernel) (by decide +kernel) (by decide) ?_
      exact lc_pieces l X hr hlk hX hbl hK _ _ _ _ _ rfl rfl rfl rfl rfl h hl
    by_cases c_20 : v = 20
    · subst c_20
      refine lv_tableIn (off := 757) (tgt := 790) hx hb dL_law_33 (by decide +kernel) (by decide +kernel) (by decide +kernel) (by decide) ?_
      exact lc_bestDay l X hr hlk hX hbl hK _ _ _ _ _ rfl rfl rfl rfl rfl h hl
    by_cases c_21 : v = 21
    · subst c_21
      refine lv_tableIn (off := 770) (tgt := 803) hx hb dL_law_33 (by decide +kernel) (by decide +kernel) (by decide +kernel) (by decide) ?_
      exact lc_firstDay l X hr hlk hX hbl hK _ _ _ _ _ rfl rfl rfl rfl rfl h hl
    by_cases c_22 : v = 22
    · subst c_22
      refine lv_tableIn (off := 783) (tgt := 816) hx hb dL_law_33 (by decide +kernel) (by decide +kernel) (by decide +kernel) (by decide) ?_
      exact lc_quorum l X hr hlk hX hbl hK _ _ _ _ _ rfl rfl rfl rfl rfl h hl
    by_cases c_23 : v = 23
    · subst c_23
      refine lv_tableIn (off := 796) (tgt := 829) hx hb dL_law_33 (by decide +kernel) (by decide +kernel) (by decide +kernel) (by decide) ?_
      exact lc_cover l X hr hlk hX hbl hK _ _ _ _ _ rfl rfl rfl rfl rfl h hl
    by_cases c_24 : v = 24
    · subst c_24
      refine lv_tableIn (off := 829) (tgt := 862) hx hb dL_law_33 (by decide +kernel) (by decide +kernel) (by decide +kernel) (by decide) ?_
      exact lc_laundress l X hr hlk hX hbl hK _ _ _ _ _ rfl rfl rfl rfl rfl h hl
    by_cases c_25 : v = 25
    · subst c_25
      refine lv_tableIn (off := 852) (tgt := 885) hx hb dL_law_33 (by decide +kernel) (by decide +kernel) (by decide +kernel) (by decide) ?_
      exact lc_talks l X hr hlk hX hbl hK _ _ _ _ _ rfl rfl rfl rfl rfl h hl
    by_cases c_26 : v = 26
    · subst c_26
      refine lv_tableIn (off := 885) (tgt := 918) hx hb dL_law_33 (by decide +kernel) (by decide +kernel) (by decide +kernel) (by decide) ?_
      exact lc_talkBy l X hr hlk hX hbl hK _ _ _ _ _ rfl rfl rfl rfl rfl h hl
    by_cases c_27 : v = 27
    · subst c_27
      refine lv_tableIn (off := 928) (tgt := 961) hx hb dL_law_33 (by decide +kernel) (by decide +kernel) (by decide +kernel) (by decide) ?_
      exact lc_word l X hr hlk hX hbl hK _ _ _ _ _ rfl rfl rfl rfl rfl h hl
    by_cases c_28 : v = 28
    · subst c_28
      refine lv_tableIn (off := 941) (tgt := 974) hx hb dL_law_33 (by decide +kernel) (by decide +kernel) (by decide +kernel) (by decide) ?_
      exact lc_ayes l X hr hlk hX hbl hK _ _ _ _ _ rfl rfl rfl rfl rfl h hl
    by_cases c_29 : v = 29
    · subst c_29
      refine lv_tableIn (off := 964) (tgt := 997) hx hb dL_law_33 (by decide +kernel) (by decide +kernel) (by decide +kernel) (by decide) ?_
      exact lc_passes l X hr hlk hX hbl hK _ _ _ _ _ rfl rfl rfl rfl rfl h hl
    by_cases c_30 : v = 30
    · subst c_30
      refine lv_tableIn (off := 987) (tgt := 1020) hx hb dL_law_33 (by decide +kernel) (by decide +kernel) (by decide +kernel) (by decide) ?_
      exact lc_passed l X hr hlk hX hbl hK _ _ _ _ _ rfl rfl rfl rfl rfl h hl
    by_cases c_31 : v = 31
    · subst c_31
      refine lv_tableIn (off := 1020) (tgt := 1053) hx hb dL_law_33 (by decide +kernel) (by decide +kernel) (by decide +kernel) (by decide) ?_
      exact lc_easiest l X hr hlk hX hbl hK _ _ _ _ _ rfl rfl rfl rfl rfl h hl
    by_cases c_32 : v = 32
    · subst c_32
      refine lv_tableIn (off := 1033) (tgt := 1066) hx hb dL_law_33 (by decide +kernel) (by decide +kernel) (by decide +kernel) (by decide) ?_
      exact lc_hidden l X hr hlk hX hbl hK _ _ _ _ _ rfl rfl rfl rfl rfl h hl
    by_cases c_33 : v = 33
    · subst c_33
      refine lv_tableIn (off := 1066) (tgt := 1099) hx hb dL_law_33 (by decide +kernel) (by decide +kernel) (by decide +kernel) (by decide) ?_
      exact lc_hiddenAt l X hr hlk hX hbl hK _ _ _ _ _ rfl rfl rfl rfl rfl h hl
    by_cases c_34 : v = 34
    · subst c_34
      refine lv_tableIn (off := 1109) (tgt := 1142) hx hb dL_law_33 (by decide +kernel) (by decide +kernel) (by decide +kernel) (by decide) ?_
      exact lc_probe l X hr hlk hX hbl hK _ _ _ _ _ rfl rfl rfl rfl rfl h hl
    by_cases c_35 : v = 35
    · subst c_35
      refine lv_tableIn (off := 1142) (tgt := 1175) hx hb dL_law_33 (by decide +kernel) (by decide +kernel) (by decide +kernel) (by decide) ?_
      exact lc_chance l X hr hlk hX hbl hK _ _ _ _ _ rfl rfl rfl rfl rfl h hl
    by_cases c_36 : v = 36
    · subst c_36
      refine lv_tableIn (off := 1176) (tgt := 1209) hx hb dL_law_33 (by decide +kernel) (by decide +kernel) (by decide +kernel) (by decide) ?_
      exact lc_reserve l X hr hlk hX hbl hK _ _ _ _ _ rfl rfl rfl rfl rfl h hl
    by_cases c_37 : v = 37
    · subst c_37
      refine lv_tableIn (off := 1199) (tgt := 1232) hx hb dL_law_33 (by decide +kernel) (by decide +kernel) (by decide +kernel) (by decide) ?_
      exact lc_numbers l X hr hlk hX hbl hK _ _ _ _ _ rfl rfl rfl rfl rfl h hl
    by_cases c_38 : v = 38
    · subst c_38
      refine lv_tableIn (off := 1242) (tgt := 1275) hx hb dL_law_33 (by decide +kernel) (by decide +kernel) (by decide +kernel) (by decide) ?_
      exact lc_write l X hr hlk hX hbl hK _ _ _ _ _ rfl rfl rfl rfl rfl h hl
    by_cases c_39 : v = 39
    · subst c_39
      refine lv_tableIn (off := 1316) (tgt := 1349) hx hb dL_law_33 (by decide +kernel) (by decide +kernel) (by decide +kernel) (by decide) ?_
      exact lc_lists l X hr hlk hX hbl hK _ _ _ _ _ rfl rfl rfl rfl rfl h hl
    by_cases c_40 : v = 40
    · subst c_40
      refine lv_tableIn (off := 1359) (tgt := 1392) hx hb dL_law_33 (by decide +kernel) (by decide +kernel) (by decide +kernel) (by decide) ?_
      exact lc_image l X hr hlk hX hbl hK _ _ _ _ _ rfl rfl rfl rfl rfl h hl
    by_cases c_41 : v = 41
    · subst c_41
      refine lv_tableIn (off := 1382) (tgt := 1415) hx hb dL_law_33 (by decide +kernel) (by decide +kernel) (by decide +kernel) (by decide) ?_
      exact lc_restore l X hr hlk hX hbl hK _ _ _ _ _ rfl rfl rfl rfl rfl h hl
    by_cases c_42 : v = 42
    · subst c_42
      refine lv_tableIn (off := 1405) (tgt := 1438) hx hb dL_law_33 (by decide +kernel) (by decide +kernel) (by decide +kernel) (by decide) ?_
      exact lc_count l X hr hlk hX hbl hK _ _ _ _ _ rfl rfl rfl rfl rfl h hl
    have n_0 := lv_neT c_0 (show (0 : Int32).toInt = 0 by decide)
    have n_1 := lv_neT c_1 (show (1 : Int32).toInt = 1 by decide)
    have n_2 := lv_neT c_2 (show (2 : Int32).toInt = 2 by decide)
    have n_3 := lv_neT c_3 (show (3 : Int32).toInt = 3 by decide)
    have n_4 := lv_neT c_4 (show (4 : Int32).toInt = 4 by decide)
    have n_5 := lv_neT c_5 (show (5 : Int32).toInt = 5 by decide)
    have n_6 := lv_neT c_6 (show (6 : Int32).toInt = 6 by decide)
    have n_7 := lv_neT c_7 (show (7 : Int32).toInt = 7 by decide)
    have n_8 := lv_neT c_8 (show (8 : Int32).toInt = 8 by decide)
    have n_9 := lv_neT c_9 (show (9 : Int32).toInt = 9 by decide)
    have n_10 := lv_neT c_10 (show (10 : Int32).toInt = 10 by decide)
    have n_11 := lv_neT c_11 (show (11 : Int32).toInt = 11 by decide)
    have n_12 := lv_neT c_12 (show (12 : Int32).toInt = 12 by decide)
    have n_13 := lv_neT c_13 (show (13 : Int32).toInt = 13 by decide)
    have n_14 := lv_neT c_14 (show (14 : Int32).toInt = 14 by decide)
    have n_15 := lv_neT c_15 (show (15 : Int32).toInt = 15 by decide)
    have n_16 := lv_neT c_16 (show (16 : Int32).toInt = 16 by decide)
    have n_17 := lv_neT c_17 (show (17 : Int32).toInt = 17 by decide)
    have n_18 := lv_neT c_18 (show (18 : Int32).toInt = 18 by decide)
    have n_19 := lv_neT c_19 (show (19 : Int32).toInt = 19 by decide)
    have n_20 := lv_neT c_20 (show (20 : Int32).toInt = 20 by decide)
    have n_21 := lv_neT c_21 (show (21 : Int32).toInt = 21 by decide)
    have n_22 := lv_neT c_22 (show (22 : Int32).toInt = 22 by decide)
    have n_23 := lv_neT c_23 (show (23 : Int32).toInt = 23 by decide)
    have n_24 := lv_neT c_24 (show (24 : Int32).toInt = 24 by decide)
    have n_25 := lv_neT c_25 (show (25 : Int32).toInt = 25 by decide)
    have n_26 := lv_neT c_26 (show (26 : Int32).toInt = 26 by decide)
    have n_27 := lv_neT c_27 (show (27 : Int32).toInt = 27 by decide)
    have n_28 := lv_neT c_28 (show (28 : Int32).toInt = 28 by decide)
    have n_29 := lv_neT c_29 (show (29 : Int32).toInt = 29 by decide)
    have n_30 := lv_neT c_30 (show (30 : Int32).toInt = 30 by decide)
    have n_31 := lv_neT c_31 (show (31 : Int32).toInt = 31 by decide)
    have n_32 := lv_neT c_32 (show (32 : Int32).toInt = 32 by decide)
    have n_33 := lv_neT c_33 (show (33 : Int32).toInt = 33 by decide)
    have n_34 := lv_neT c_34 (show (34 : Int32).toInt = 34 by decide)
    have n_35 := lv_neT c_35 (show (35 : Int32).toInt = 35 by decide)
    have n_36 := lv_neT c_36 (show (36 : Int32).toInt = 36 by decide)
    have n_37 := lv_neT c_37 (show (37 : Int32).toInt = 37 by decide)
    have n_38 := lv_neT c_38 (show (38 : Int32).toInt = 38 by decide)
    have n_39 := lv_neT c_39 (show (39 : Int32).toInt = 39 by decide)
    have n_40 := lv_neT c_40 (show (40 : Int32).toInt = 40 by decide)
    have n_41 := lv_neT c_41 (show (41 : Int32).toInt = 41 by decide)
    have n_42 := lv_neT c_42 (show (42 : Int32).toInt = 42 by decide)
    refine lv_tableOut (tgt := 1461) hx hb dL_law_33 (by omega) (by decide) ?_
    exact law_tail l X hr hlk hX hbl h.2.2 hl (Nat.le_of_ble_eq_true rfl) (Nat.le_of_ble_eq_true rfl)
  · have hlt : Int32.ofNat L - 6 < 0 := by
      have : ∀ n : Nat, n < 6 → Int32.ofNat n - 6 < 0 := by decide
      exact this L (by omega)
    refine lv_icmp_gt (tgt := 1467) hx hb dL_law_24 (by decide) (fun _ => ?_) (fun c => absurd hlt c)
    exact law_exit l X hr hlk h.2.2 (Nat.le_of_ble_eq_true rfl) (Nat.le_of_ble_eq_true rfl)
