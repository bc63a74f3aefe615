set_option maxHeartbeats 4000000 in
set_option maxRecDepth 100000 in
theorem gX7_inTownOn_1 (l : Launch) (D : va_G) (cy : Nat → ClassId) (h0 : Nat) (h1 : Nat) (h2 : Nat) (h3 : Nat) (p0 : Int32) (p1 : Int32) (p2 : Int32) (p3 : Int32) (p4 : Int32) (w0 : Value) (w1 : Value) (w2 : Value) (w3 : Value) (w4 : Value) (w5 : Value) (f0 : Nat → Int32) (f1 : Nat → Int32) (p5 : Int32) (p6 : Int32) (w6 : Value) (hp0 : 0 ≤ (p0).toInt ∧ (p0).toInt ≤ 62000) (hp1 : 1 ≤ (p1).toInt ∧ (p1).toInt ≤ 3) (hp2 : 0 ≤ (p2).toInt ∧ (p2).toInt ≤ 10) (hp3 : 0 ≤ (p3).toInt ∧ (p3).toInt ≤ 920) (hp4 : 0 ≤ (p4).toInt ∧ (p4).toInt ≤ 999) (hp5 : 0 ≤ (p5).toInt ∧ (p5).toInt ≤ 60000) (hp6 : 0 ≤ (p6).toInt ∧ (p6).toInt ≤ 1023) (rf0 : RG f0 10 0 999) (rf1 : RG f1 10 0 1000000) (sz : Nat) : MI l yX7_inTownOn cX7_inTownOn 4 .int { frames := 0, cells := 0, slots := 0, locals := 0 } [.ref h3, .int p0] D cy [(h0, .inr (3, [.int p1, .int p2, .int p3, .int p4, w0, w1, w2, w3, .ref h1, .ref h2, w4, w5])), (h1, .inl (cy 1, 10, .inl f0)), (h2, .inl (cy 1, 10, .inl f1)), (h3, .inr (7, [.ref h0, .int p5, .int p6, w6]))] sz (fun r u => (0 ≤ r.toInt ∧ r.toInt ≤ 1023) ∧ True) (fun u => [(h0, .inr (3, [.int p1, .int p2, .int p3, .int p4, w0, w1, w2, w3, .ref h1, .ref h2, w4, w5])), (h1, .inl (cy 1, 10, .inl f0)), (h2, .inl (cy 1, 10, .inl f1)), (h3, .inr (7, [.ref h0, .int p5, .int p6, w6]))]) 0 0 := by
  refine q_ent (own := RX7) (by decide) rfl (Nat.le_of_ble_eq_true rfl) (fun p e s m below meth c ls X hr hlk hnm hK h hA hl => ?_)
  obtain ⟨hx, hb, hml, hown, ht⟩ := id X
  replace hl : lv_has ls 4 [(0, .ref h3), (1, .int p0)] := hl
  refine lv_iconst (v := 0) hx hb dX7_inTownOn_0 (by decide) ?_
  refine lv_istore_n (lv' := [(2, .int 0), (0, .ref h3), (1, .int p0)]) hx hb dX7_inTownOn_1 rfl hl (by decide) rfl (fun ls_1 hl_1 => ?_)
  clear hl
  refine lv_iconst (v := 0) hx hb dX7_inTownOn_2 (by decide) ?_
  refine lv_istore_n (lv' := [(3, .int 0), (2, .int 0), (0, .ref h3), (1, .int p0)]) hx hb dX7_inTownOn_3 rfl hl_1 (by decide) rfl (fun ls_2 hl_2 => ?_)
  clear hl_1
  refine q_wl (fun (q : Int32 × Int32) H locs ls => match q with | (v4_3_0, v4_3_1) => (0 ≤ (v4_3_0).toInt ∧ (v4_3_0).toInt ≤ 10) ∧ (0 ≤ (v4_3_1).toInt ∧ (v4_3_1).toInt ≤ 1023) ∧ qW D (va_A [(h0, .inr (3, [.int p1, .int p2, .int p3, .int p4, w0, w1, w2, w3, .ref h1, .ref h2, w4, w5])), (h1, .inl (cy 1, 10, .inl f0)), (h2, .inl (cy 1, 10, .inl f1)), (h3, .inr (7, [.ref h0, .int p5, .int p6, w6]))] sz) s.heap [(h0, .inr (3, [.int p1, .int p2, .int p3, .int p4, w0, w1, w2, w3, .ref h1, .ref h2, w4, w5])), (h1, .inl (cy 1, 10, .inl f0)), (h2, .inl (cy 1, 10, .inl f1)), (h3, .inr (7, [.ref h0, .int p5, .int p6, w6]))] H locs ∧ lv_has ls 4 [(0, .ref h3), (1, .int p0), (2, .int v4_3_1), (3, .int v4_3_0)]) (fun (q : Int32 × Int32) => match q with | (v4_3_0, v4_3_1) => (11 - (v4_3_0).toInt).toNat) (fun q_4 ih_4 H locs ls hP => ?_) (0, 0) ⟨⟨by decide +kernel, by decide +kernel⟩, ⟨by decide +kernel, by decide +kernel⟩, h, (lv_sub hl_2 [2, 3, 1, 0] rfl)⟩
  obtain ⟨v4_3_0, v4_3_1⟩ := q_4
  obtain ⟨hv4_3_0, hv4_3_1, h, hl⟩ := hP
  refine lv_iload_n hx hb dX7_inTownOn_4 rfl (lv_at hl 3 rfl) ?_
  refine lv_aload_n hx hb dX7_inTownOn_5 rfl (lv_at hl 0 rfl) ?_
  refine q_get X hK h 3 rfl rfl wf_7 0 (by decide) rfl wm_2_37 dX7_inTownOn_6 ?_
  refine q_get X hK h 0 rfl rfl wf_3 1 (by decide) rfl wm_1_83 dX7_inTownOn_9 ?_
  refine lv_icmp_ge (tgt := 53) hx hb dX7_inTownOn_12 (by decide) (fun c_4 => ?_) (fun c_4 => ?_)
  · replace c_4 := i_le (x := p2) (y := v4_3_0) rfl rfl c_4
    refine lv_iload_n hx hb dX7_inTownOn_53 rfl (lv_at hl 2 rfl) ?_
    refine lv_aload_n hx hb dX7_inTownOn_54 rfl (lv_at hl 0 rfl) ?_
    refine q_get X hK h 3 rfl rfl wf_7 2 (by decide) rfl wm_2_48 dX7_inTownOn_55 ?_
    refine lv_iconst (v := (-1)) hx hb dX7_inTownOn_58 (by decide) ?_
    refine lv_ixor hx hb dX7_inTownOn_59 ?_
    refine q_any (fun z_5 hz_5 => ?_)
    refine lv_iand hx hb dX7_inTownOn_60 ?_
    obtain ⟨z_6, ez_6, hz_6⟩ := e_and1 (x := v4_3_1) (y := z_5) rfl (by omega)
    refine q_c z_6 ez_6 ?_
    clear ez_6
    exact q_iret X hr hlk hK h rfl (fun _ => 0, fun _ _ => 0, fun _ _ => 0) ⟨⟨by omega, by omega⟩, trivial⟩ [0, 1, 2, 3] rfl rfl dX7_inTownOn_61 (Nat.le_of_ble_eq_true rfl) (Nat.le_of_ble_eq_true rfl)
  · replace c_4 := i_nle (x := p2) (y := v4_3_0) rfl rfl c_4
    refine lv_aload_n hx hb dX7_inTownOn_15 rfl (lv_at hl 0 rfl) ?_
    refine q_get X hK h 3 rfl rfl wf_7 0 (by decide) rfl wm_2_37 dX7_inTownOn_16 ?_
    refine q_get X hK h 0 rfl rfl wf_3 8 (by decide) rfl wm_1_106 dX7_inTownOn_19 ?_
    refine lv_iload_n hx hb dX7_inTownOn_22 rfl (lv_at hl 3 rfl) ?_
    refine q_iald X hK h 1 rfl (i_in rfl (by omega) (by omega)) dX7_inTownOn_23 ?_
    obtain ⟨z_7, ez_7, hz_7⟩ := rg_get rf0 (x := v4_3_0) rfl (by omega) (by omega)
    refine q_c z_7 ez_7 ?_
    clear ez_7
    refine lv_iload_n hx hb dX7_inTownOn_24 rfl (lv_at hl 1 rfl) ?_
    refine q_jn (pc2 := 47) (fun H locs ls st => ∃ v47_8_0 : Int32, (0 ≤ (v47_8_0).toInt ∧ (v47_8_0).toInt ≤ 1023) ∧ st = [] ∧ qW D (va_A [(h0, .inr (3, [.int p1, .int p2, .int p3, .int p4, w0, w1, w2, w3, .ref h1, .ref h2, w4, w5])), (h1, .inl (cy 1, 10, .inl f0)), (h2, .inl (cy 1, 10, .inl f1)), (h3, .inr (7, [.ref h0, .int p5, .int p6, w6]))] sz) s.heap [(h0, .inr (3, [.int p1, .int p2, .int p3, .int p4, w0, w1, w2, w3, .ref h1, .ref h2, w4, w5])), (h1, .inl (cy 1, 10, .inl f0)), (h2, .inl (cy 1, 10, .inl f1)), (h3, .inr (7, [.ref h0, .int p5, .int p6, w6]))] H locs ∧ lv_has ls 4 [(0, .ref h3), (1, .int p0), (2, .int v47_8_0), (3, .int v4_3_0)]) (fun H locs ls st hP => ?_) (fun J_47 => ?_)
    · obtain ⟨v47_8_0, hv47_8_0, rfl, h, hl⟩ := hP
      obtain ⟨z_9, ez_9, hz_9⟩ := e_add (x := v4_3_0) (y := Int32.ofInt 1) rfl (b := 1) (by decide) (by omega) (by omega)
      refine lv_iinc (v := z_9) (lv' := [(3, .int z_9), (0, .ref h3), (1, .int p0), (2, .int v47_8_0)]) hx hb dX7_inTownOn_47 hl (k := 3) rfl ez_9 (by decide) rfl (fun ls_9 hl_9 => ?_)
      clear hl
      refine lv_goto (tgt := 4) hx hb dX7_inTownOn_50 (by decide) ?_
      exact ih_4 (z_9, v47_8_0) (by show (11 - (z_9).toInt).toNat < (11 - (v4_3_0).toInt).toNat; omega) _ _ _ ⟨⟨by omega, by omega⟩, ⟨by omega, by omega⟩, h, (lv_sub hl_9 [1, 2, 3, 0] rfl)⟩
    · skip
      refine lv_icmp_gt (tgt := 47) hx hb dX7_inTownOn_25 (by decide) (fun c_10 => ?_) (fun c_10 => ?_)
      · replace c_10 := i_lt (x := p0) (y := z_7) rfl rfl c_10
        exact J_47 _ _ _ _ ⟨v4_3_1, ⟨by omega, by omega⟩, rfl, h, (lv_sub hl [0, 1, 2, 3] rfl)⟩
      · replace c_10 := i_nlt (x := p0) (y := z_7) rfl rfl c_10
        refine lv_iload_n hx hb dX7_inTownOn_28 rfl (lv_at hl 1 rfl) ?_
        refine lv_aload_n hx hb dX7_inTownOn_29 rfl (lv_at hl 0 rfl) ?_
        refine q_get X hK h 3 rfl rfl wf_7 0 (by decide) rfl wm_2_37 dX7_inTownOn_30 ?_
        refine q_get X hK h 0 rfl rfl wf_3 9 (by decide) rfl wm_1_110 dX7_inTownOn_33 ?_
        refine lv_iload_n hx hb dX7_inTownOn_36 rfl (lv_at hl 3 rfl) ?_
        refine q_iald X hK h 2 rfl (i_in rfl (by omega) (by omega)) dX7_inTownOn_37 ?_
        obtain ⟨z_11, ez_11, hz_11⟩ := rg_get rf1 (x := v4_3_0) rfl (by omega) (by omega)
        refine q_c z_11 ez_11 ?_
        clear ez_11
        refine lv_icmp_gt (tgt := 47) hx hb dX7_inTownOn_38 (by decide) (fun c_12 => ?_) (fun c_12 => ?_)
        · replace c_12 := i_lt (x := z_11) (y := p0) rfl rfl c_12
          exact J_47 _ _ _ _ ⟨v4_3_1, ⟨by omega, by omega⟩, rfl, h, (lv_sub hl [0, 1, 2, 3] rfl)⟩
        · replace c_12 := i_nlt (x := z_11) (y := p0) rfl rfl c_12
          refine lv_iload_n hx hb dX7_inTownOn_41 rfl (lv_at hl 2 rfl) ?_
          refine lv_iconst (v := 1) hx hb dX7_inTownOn_42 (by decide) ?_
          refine lv_iload_n hx hb dX7_inTownOn_43 rfl (lv_at hl 3 rfl) ?_
          refine lv_ishl hx hb dX7_inTownOn_44 ?_
          obtain ⟨z_13, ez_13, hz_13⟩ := e_shlk (p := v4_3_0) 9 (by decide) rfl (by omega) (by omega)
          refine q_c z_13 ez_13 ?_
          clear ez_13
          refine lv_ior hx hb dX7_inTownOn_45 ?_
          obtain ⟨z_14, ez_14, hz_14⟩ := e_or (x := v4_3_1) (y := z_13) 10 (by decide) rfl rfl (by omega) (by omega) (by omega) (by omega)
          refine q_c z_14 ez_14 ?_
          clear ez_14
          refine lv_istore_n (lv' := [(2, .int z_14), (0, .ref h3), (1, .int p0), (3, .int v4_3_0)]) hx hb dX7_inTownOn_46 rfl hl (by decide) rfl (fun ls_15 hl_15 => ?_)
          clear hl
          exact J_47 _ _ _ _ ⟨z_14, ⟨by omega, by omega⟩, rfl, h, (lv_sub hl_15 [1, 2, 0, 3] rfl)⟩
set_option maxHeartbeats 4000000 in
set_option maxRecDepth 100000 in
theorem gX7_inTownOn_2 (l : Launch) (D : va_G) (cy : Nat → ClassId) (h0 : Nat) (h1 : Nat) (h2 : Nat) (h3 : Nat) (p0 : Int32) (p1 : Int32) (p2 : Int32) (p3 : Int32) (p4 : Int32) (w0 : Value) (w1 : Value) (w2 : Value) (w3 : Value) (w4 : Value) (w5 : Value) (f0 : Nat → Int32) (f1 : Nat → Int32) (p5 : Int32) (w6 : Value) (hp0 : 0 ≤ (p0).toInt ∧ (p0).toInt ≤ 60000) (hp1 : 1 ≤ (p1).toInt ∧ (p1).toInt ≤ 3) (hp2 : 0 ≤ (p2).toInt ∧ (p2).toInt ≤ 10) (hp3 : 0 ≤ (p3).toInt ∧ (p3).toInt ≤ 920) (hp4 : 0 ≤ (p4).toInt ∧ (p4).toInt ≤ 999) (hp5 : 0 ≤ (p5).toInt ∧ (p5).toInt ≤ 1023) (rf0 : RG f0 10 0 999) (rf1 : RG f1 10 0 1000000) (sz : Nat) : MI l yX7_inTownOn cX7_inTownOn 4 .int { frames := 0, cells := 0, slots := 0, locals := 0 } [.ref h3, .int p0] D cy [(h0, .inr (3, [.int p1, .int p2, .int p3, .int p4, w0, w1, w2, w3, .ref h1, .ref h2, w4, w5])), (h1, .inl (cy 1, 10, .inl f0)), (h2, .inl (cy 1, 10, .inl f1)), (h3, .inr (7, [.ref h0, .int p0, .int p5, w6]))] sz (fun r u => (0 ≤ r.toInt ∧ r.toInt ≤ 1023) ∧ True) (fun u => [(h0, .inr (3, [.int p1, .int p2, .int p3, .int p4, w0, w1, w2, w3, .ref h1, .ref h2, w4, w5])), (h1, .inl (cy 1, 10, .inl f0)), (h2, .inl (cy 1, 10, .inl f1)), (h3, .inr (7, [.ref h0, .int p0, .int p5, w6]))]) 0 0 := by
  refine q_ent (own := RX7) (by decide) rfl (Nat.le_of_ble_eq_true rfl) (fun p e s m below meth c ls X hr hlk hnm hK h hA hl => ?_)
  obtain ⟨hx, hb, hml, hown, ht⟩ := id X
  replace hl : lv_has ls 4 [(0, .ref h3), (1, .int p0)] := hl
  refine lv_iconst (v := 0) hx hb dX7_inTownOn_0 (by decide) ?_
  refine lv_istore_n (lv' := [(2, .int 0), (0, .ref h3), (1, .int p0)]) hx hb dX7_inTownOn_1 rfl hl (by decide) rfl (fun ls_1 hl_1 => ?_)
  clear hl
  refine lv_iconst (v := 0) hx hb dX7_inTownOn_2 (by decide) ?_
  refine lv_istore_n (lv' := [(3, .int 0), (2, .int 0), (0, .ref h3), (1, .int p0)]) hx hb dX7_inTownOn_3 rfl hl_1 (by decide) rfl (fun ls_2 hl_2 => ?_)
  clear hl_1
  refine q_wl (fun (q : Int32 × Int32) H locs ls => match q with | (v4_3_0, v4_3_1) => (0 ≤ (v4_3_0).toInt ∧ (v4_3_0).toInt ≤ 10) ∧ (0 ≤ (v4_3_1).toInt ∧ (v4_3_1).toInt ≤ 1023) ∧ qW D (va_A [(h0, .inr (3, [.int p1, .int p2, .int p3, .int p4, w0, w1, w2, w3, .ref h1, .ref h2, w4, w5])), (h1, .inl (cy 1, 10, .inl f0)), (h2, .inl (cy 1, 10, .inl f1)), (h3, .inr (7, [.ref h0, .int p0, .int p5, w6]))] sz) s.heap [(h0, .inr (3, [.int p1, .int p2, .int p3, .int p4, w0, w1, w2, w3, .ref h1, .ref h2, w4, w5])), (h1, .inl (cy 1, 10, .inl f0)), (h2, .inl (cy 1, 10, .inl f1)), (h3, .inr (7, [.ref h0, .int p0, .int p5, w6]))] H locs ∧ lv_has ls 4 [(0, .ref h3), (1, .int p0), (2, .int v4_3_1), (3, .int v4_3_0)]) (fun (q : Int32 × Int32) => match q with | (v4_3_0, v4_3_1) => (11 - (v4_3_0).toInt).toNat) (fun q_4 ih_4 H locs ls hP => ?_) (0, 0) ⟨⟨by decide +kernel, by decide +kernel⟩, ⟨by decide +kernel, by decide +kernel⟩, h, (lv_sub hl_2 [2, 3, 1, 0] rfl)⟩
  obtain ⟨v4_3_0, v4_3_1⟩ := q_4
  obtain ⟨hv4_3_0, hv4_3_1, h, hl⟩ := hP
  refine lv_iload_n hx hb dX7_inTownOn_4 rfl (lv_at hl 3 rfl) ?_
  refine lv_aload_n hx hb dX7_inTownOn_5 rfl (lv_at hl 0 rfl) ?_
  refine q_get X hK h 3 rfl rfl wf_7 0 (by decide) rfl wm_2_37 dX7_inTownOn_6 ?_
  refine q_get X hK h 0 rfl rfl wf_3 1 (by decide) rfl wm_1_83 dX7_inTownOn_9 ?_
  refine lv_icmp_ge (tgt := 53) hx hb dX7_inTownOn_12 (by decide) (fun c_4 => ?_) (fun c_4 => ?_)
  · replace c_4 := i_le (x := p2) (y := v4_3_0) rfl rfl c_4
    refine lv_iload_n hx hb dX7_inTownOn_53 rfl (lv_at hl 2 rfl) ?_
    refine lv_aload_n hx hb dX7_inTownOn_54 rfl (lv_at hl 0 rfl) ?_
    refine q_get X hK h 3 rfl rfl wf_7 2 (by decide) rfl wm_2_48 dX7_inTownOn_55 ?_
    refine lv_iconst (v := (-1)) hx hb dX7_inTownOn_58 (by decide) ?_
    refine lv_ixor hx hb dX7_inTownOn_59 ?_
    refine q_any (fun z_5 hz_5 => ?_)
    refine lv_iand hx hb dX7_inTownOn_60 ?_
    obtain ⟨z_6, ez_6, hz_6⟩ := e_and1 (x := v4_3_1) (y := z_5) rfl (by omega)
    refine q_c z_6 ez_6 ?_
    clear ez_6
    exact q_iret X hr hlk hK h rfl (fun _ => 0, fun _ _ => 0, fun _ _ => 0) ⟨⟨by omega, by omega⟩, trivial⟩ [0, 1, 2, 3] rfl rfl dX7_inTownOn_61 (Nat.le_of_ble_eq_true rfl) (Nat.le_of_ble_eq_true rfl)
  · replace c_4 := i_nle (x := p2) (y := v4_3_0) rfl rfl c_4
    refine lv_aload_n hx hb dX7_inTownOn_15 rfl (lv_at hl 0 rfl) ?_
    refine q_get X hK h 3 rfl rfl wf_7 0 (by decide) rfl wm_2_37 dX7_inTownOn_16 ?_
    refine q_get X hK h 0 rfl rfl wf_3 8 (by decide) rfl wm_1_106 dX7_inTownOn_19 ?_
    refine lv_iload_n hx hb dX7_inTownOn_22 rfl (lv_at hl 3 rfl) ?_
    refine q_iald X hK h 1 rfl (i_in rfl (by omega) (by omega)) dX7_inTownOn_23 ?_
    obtain ⟨z_7, ez_7, hz_7⟩ := rg_get rf0 (x := v4_3_0) rfl (by omega) (by omega)
    refine q_c z_7 ez_7 ?_
    clear ez_7
    refine lv_iload_n hx hb dX7_inTownOn_24 rfl (lv_at hl 1 rfl) ?_
    refine q_jn (pc2 := 47) (fun H locs ls st => ∃ v47_8_0 : Int32, (0 ≤ (v47_8_0).toInt ∧ (v47_8_0).toInt ≤ 1023) ∧ st = [] ∧ qW D (va_A [(h0, .inr (3, [.int p1, .int p2, .int p3, .int p4, w0, w1, w2, w3, .ref h1, .ref h2, w4, w5])), (h1, .inl (cy 1, 10, .inl f0)), (h2, .inl (cy 1, 10, .inl f1)), (h3, .inr (7, [.ref h0, .int p0, .int p5, w6]))] sz) s.heap [(h0, .inr (3, [.int p1, .int p2, .int p3, .int p4, w0, w1, w2, w3, .ref h1, .ref h2, w4, w5])), (h1, .inl (cy 1, 10, .inl f0)), (h2, .inl (cy 1, 10, .inl f1)), (h3, .inr (7, [.ref h0, .int p0, .int p5, w6]))] H locs ∧ lv_has ls 4 [(0, .ref h3), (1, .int p0), (2, .int v47_8_0), (3, .int v4_3_0)]) (fun H locs ls st hP => ?_) (fun J_47 => ?_)
    · obtain ⟨v47_8_0, hv47_8_0, rfl, h, hl⟩ := hP
      obtain ⟨z_9, ez_9, hz_9⟩ := e_add (x := v4_3_0) (y := Int32.ofInt 1) rfl (b := 1) (by decide) (by omega) (by omega)
      refine lv_iinc (v := z_9) (lv' := [(3, .int z_9), (0, .ref h3), (1, .int p0), (2, .int v47_8_0)]) hx hb dX7_inTownOn_47 hl (k := 3) rfl ez_9 (by decide) rfl (fun ls_9 hl_9 => ?_)
      clear hl
      refine lv_goto (tgt := 4) hx hb dX7_inTownOn_50 (by decide) ?_
      exact ih_4 (z_9, v47_8_0) (by show (11 - (z_9).toInt).toNat < (11 - (v4_3_0).toInt).toNat; omega) _ _ _ ⟨⟨by omega, by omega⟩, ⟨by omega, by omega⟩, h, (lv_sub hl_9 [1, 2, 3, 0] rfl)⟩
    · skip
      refine lv_icmp_gt (tgt := 47) hx hb dX7_inTownOn_25 (by decide) (fun c_10 => ?_) (fun c_10 => ?_)
      · replace c_10 := i_lt (x := p0) (y := z_7) rfl rfl c_10
        exact J_47 _ _ _ _ ⟨v4_3_1, ⟨by omega, by omega⟩, rfl, h, (lv_sub hl [0, 1, 2, 3] rfl)⟩
      · replace c_10 := i_nlt (x := p0) (y := z_7) rfl rfl c_10
        refine lv_iload_n hx hb dX7_inTownOn_28 rfl (lv_at hl 1 rfl) ?_
        refine lv_aload_n hx hb dX7_inTownOn_29 rfl (lv_at hl 0 rfl) ?_
        refine q_get X hK h 3 rfl rfl wf_7 0 (by decide) rfl wm_2_37 dX7_inTownOn_30 ?_
        refine q_get X hK h 0 rfl rfl wf_3 9 (by decide) rfl wm_1_110 dX7_inTownOn_33 ?_
        refine lv_iload_n hx hb dX7_inTownOn_36 rfl (lv_at hl 3 rfl) ?_
        refine q_iald X hK h 2 rfl (i_in rfl (by omega) (by omega)) dX7_inTownOn_37 ?_
        obtain ⟨z_11, ez_11, hz_11⟩ := rg_get rf1 (x := v4_3_0) rfl (by omega) (by omega)
        refine q_c z_11 ez_11 ?_
        clear ez_11
        refine lv_icmp_gt (tgt := 47) hx hb dX7_inTownOn_38 (by decide) (fun c_12 => ?_) (fun c_12 => ?_)
        · replace c_12 := i_lt (x := z_11) (y := p0) rfl rfl c_12
          exact J_47 _ _ _ _ ⟨v4_3_1, ⟨by omega, by omega⟩, rfl, h, (lv_sub hl [0, 1, 2, 3] rfl)⟩
        · replace c_12 := i_nlt (x := z_11) (y := p0) rfl rfl c_12
          refine lv_iload_n hx hb dX7_inTownOn_41 rfl (lv_at hl 2 rfl) ?_
          refine lv_iconst (v := 1) hx hb dX7_inTownOn_42 (by decide) ?_
          refine lv_iload_n hx hb dX7_inTownOn_43 rfl (lv_at hl 3 rfl) ?_
          refine lv_ishl hx hb dX7_inTownOn_44 ?_
          obtain ⟨z_13, ez_13, hz_13⟩ := e_shlk (p := v4_3_0) 9 (by decide) rfl (by omega) (by omega)
          refine q_c z_13 ez_13 ?_
          clear ez_13
          refine lv_ior hx hb dX7_inTownOn_45 ?_
          obtain ⟨z_14, ez_14, hz_14⟩ := e_or (x := v4_3_1) (y := z_13) 10 (by decide) rfl rfl (by omega) (by omega) (by omega) (by omega)
          refine q_c z_14 ez_14 ?_
          clear ez_14
          refine lv_istore_n (lv' := [(2, .int z_14), (0, .ref h3), (1, .int p0), (3, .int v4_3_0)]) hx hb dX7_inTownOn_46 rfl hl (by decide) rfl (fun ls_15 hl_15 => ?_)
          clear hl
          exact J_47 _ _ _ _ ⟨z_14, ⟨by omega, by omega⟩, rfl, h, (lv_sub hl_15 [1, 2, 0, 3] rfl)⟩
set_option maxHeartbeats 4000000 in
set_option maxRecDepth 100000 in
theorem gX7_inTown_3 (l : Launch) (D : va_G) (cy : Nat → ClassId) (h0 : Nat) (h1 : Nat) (h2 : Nat) (h3 : Nat) (p0 : Int32) (p1 : Int32) (p2 : Int32) (p3 : Int32) (w0 : Value) (w1 : Value) (w2 : Value) (w3 : Value) (w4 : Value) (w5 : Value) (f0 : Nat → Int32) (f1 : Nat → Int32) (p4 : Int32) (p5 : Int32) (w6 : Value) (hp0 : 1 ≤ (p0).toInt ∧ (p0).toInt ≤ 3) (hp1 : 0 ≤ (p1).toInt ∧ (p1).toInt ≤ 10) (hp2 : 0 ≤ (p2).toInt ∧ (p2).toInt ≤ 920) (hp3 : 0 ≤ (p3).toInt ∧ (p3).toInt ≤ 999) (hp4 : 0 ≤ (p4).toInt ∧ (p4).toInt ≤ 60000) (hp5 : 0 ≤ (p5).toInt ∧ (p5).toInt ≤ 1023) (rf0 : RG f0 10 0 999) (rf1 : RG f1 10 0 1000000) (sz : Nat) : MI l yX7_inTown cX7_inTown 1 .int { frames := 1, cells := 0, slots := 0, locals := 23 } [.ref h3] D cy [(h0, .inr (3, [.int p0, .int p1, .int p2, .int p3, w0, w1, w2, w3, .ref h1, .ref h2, w4, w5])), (h1, .inl (cy 1, 10, .inl f0)), (h2, .inl (cy 1, 10, .inl f1)), (h3, .inr (7, [.ref h0, .int p4, .int p5, w6]))] sz (fun r u => (0 ≤ r.toInt ∧ r.toInt ≤ 1023) ∧ True) (fun u => [(h0, .inr (3, [.int p0, .int p1, .int p2, .int p3, w0, w1, w2, w3, .ref h1, .ref h2, w4, w5])), (h1, .inl (cy 1, 10, .inl f0)), (h2, .inl (cy 1, 10, .inl f1)), (h3, .inr (7, [.ref h0, .int p4, .int p5, w6]))]) 0 0 := by
  refine q_ent (own := RX7) (by decide) rfl (Nat.le_of_ble_eq_true rfl) (fun p e s m below meth c ls X hr hlk hnm hK h hA hl => ?_)
  obtain ⟨hx, hb, hml, hown, ht⟩ := id X
  replace hl : lv_has ls 1 [(0, .ref h3)] := hl
  refine lv_aload_n hx hb dX7_inTown_0 rfl (lv_at hl 0 rfl) ?_
  refine lv_aload_n hx hb dX7_inTown_1 rfl (lv_at hl 0 rfl) ?_
  refine q_get X hK h 3 rfl rfl wf_7 1 (by decide) rfl wm_2_43 dX7_inTown_2 ?_
  refine q_callVi (rest := []) (wr := []) X hK hA h (fun sz => gX7_inTownOn_2 l D cy h0 h1 h2 h3 p4 p0 p1 p2 p3 w0 w1 w2 w3 w4 w5 f0 f1 p5 w6 ⟨by omega, by omega⟩ ⟨by omega, by omega⟩ ⟨by omega, by omega⟩ ⟨by omega, by omega⟩ ⟨by omega, by omega⟩ ⟨by omega, by omega⟩ (rg_wide rf0 (by decide) (by decide)) (rg_wide rf1 (by decide) (by decide)) sz) wm_3_183 wm_3_186 wm_1_9 hd_X7_inTownOn wm_3_184 wm_3_185 (ci := 7) (q0 := 3) rfl rfl ⟨Nat.le_of_ble_eq_true rfl, Nat.le_of_ble_eq_true rfl⟩ hl.1 rfl (Nat.le_of_ble_eq_true rfl) dX7_inTown_5 ⟨Nat.le_of_ble_eq_true rfl, Nat.le_of_ble_eq_true rfl⟩ [0, 1, 2, 3] [] rfl rfl (by decide) rfl rfl (fun r_1 u_1 H locs w_1 h_1 => ?_)
  clear h
  obtain ⟨wr_1, _⟩ := w_1
  replace h_1 : qW D _ _ [(h0, .inr (3, [.int p0, .int p1, .int p2, .int p3, w0, w1, w2, w3, .ref h1, .ref h2, w4, w5])), (h1, .inl (cy 1, 10, .inl f0)), (h2, .inl (cy 1, 10, .inl f1)), (h3, .inr (7, [.ref h0, .int p4, .int p5, w6]))] _ _ := h_1
  exact q_iret X hr hlk hK h_1 rfl (fun _ => 0, fun _ _ => 0, fun _ _ => 0) ⟨⟨by omega, by omega⟩, trivial⟩ [0, 1, 2, 3] rfl rfl dX7_inTown_8 (Nat.le_of_ble_eq_true rfl) (Nat.le_of_ble_eq_true rfl)
set_option maxHeartbeats 4000000 in
set_option maxRecDepth 100000 in
theorem gX7_takeFrom_4 (l : Launch) (D : va_G) (cy : Nat → ClassId) (h0 : Nat) (h1 : Nat) (h2 : Nat) (h3 : Nat) (w0 : Value) (p0 : Int32) (p1 : Int32) (f0 : Nat → Int32) (h4 : Nat) (p2 : Int32) (p3 : Int32) (f1 : Nat → Int32) (hp0 : 0 ≤ (p0).toInt ∧ (p0).toInt ≤ 60000) (hp1 : 0 ≤ (p1).toInt ∧ (p1).toInt ≤ 1023) (hp2 : 0 ≤ (p2).toInt ∧ (p2).toInt ≤ 60000) (hp3 : 0 ≤ (p3).toInt ∧ (p3).toInt ≤ 1023) (rf0 : RG f0 10 0 999) (rf1 : RG f1 10 0 999) (sz : Nat) : MV l yX7_takeFrom cX7_takeFrom 2 { frames := 1, cells := 0, slots := 0, locals := 40 } [.ref h0, .ref h2] D cy [(h0, .inr (7, [w0, .int p0, .int p1, .ref h1])), (h1, .inl (cy 1, 10, .inl f0)), (h2, .inr (7, [.ref h4, .int p2, .int p3, .ref h3])), (h3, .inl (cy 1, 10, .inl f1))] sz (fun u => (0 ≤ (u.2.1 0 0).toInt ∧ (u.2.1 0 0).toInt ≤ 60000) ∧ (0 ≤ (u.2.1 1 0).toInt ∧ (u.2.1 1 0).toInt ≤ 1023) ∧ RG (u.2.1 2) 10 0 999 ∧ True) (fun u => [(h0, .inr (7, [.ref h4, .int (u.2.1 0 0), .int (u.2.1 1 0), .ref h1])), (h1, .inl (cy 1, 10, .inl (u.2.1 2))), (h2, .inr (7, [.ref h4, .int p2, .int p3, .ref h3])), (h3, .inl (cy 1, 10, .inl f1))]) 0 0 := by
  refine q_ent (own := RX7) (by decide) rfl (Nat.le_of_ble_eq_true rfl) (fun p e s m below meth c ls X hr hlk hnm hK h hA hl => ?_)
  obtain ⟨hx, hb, hml, hown, ht⟩ := id X
  replace hl : lv_has ls 2 [(0, .ref h0), (1, .ref h2)] := hl
  refine lv_aload_n hx hb dX7_takeFrom_0 rfl (lv_at hl 0 rfl) ?_
  refine lv_aload_n hx hb dX7_takeFrom_1 rfl (lv_at hl 1 rfl) ?_
  refine q_get X hK h 2 rfl rfl wf_7 0 (by decide) rfl wm_2_37 dX7_takeFrom_2 ?_
  refine q_put (v := .ref h4) X hK h 0 rfl rfl wf_7 tyX7 tyX7_ok nmX7 0 (by decide) wm_2_37 rfl rfl rfl (Nat.le_of_ble_eq_true rfl) dX7_takeFrom_5 (fun H locs h_1 => ?_)
  clear h
  replace h_1 : qW D _ _ [(h0, .inr (7, [.ref h4, .int p0, .int p1, .ref h1])), (h1, .inl (cy 1, 10, .inl f0)), (h2, .inr (7, [.ref h4, .int p2, .int p3, .ref h3])), (h3, .inl (cy 1, 10, .inl f1))] _ _ := h_1
  refine lv_aload_n hx hb dX7_takeFrom_8 rfl (lv_at hl 0 rfl) ?_
  refine lv_aload_n hx hb dX7_takeFrom_9 rfl (lv_at hl 1 rfl) ?_
  refine q_get X hK h_1 2 rfl rfl wf_7 1 (by decide) rfl wm_2_43 dX7_takeFrom_10 ?_
  refine q_put (v := .int p2) X hK h_1 0 rfl rfl wf_7 tyX7 tyX7_ok nmX7 1 (by decide) wm_2_43 rfl rfl rfl (Nat.le_of_ble_eq_true rfl) dX7_takeFrom_13 (fun H locs h_2 => ?_)
  clear h_1
  replace h_2 : qW D _ _ [(h0, .inr (7, [.ref h4, .int p2, .int p1, .ref h1])), (h1, .inl (cy 1, 10, .inl f0)), (h2, .inr (7, [.ref h4, .int p2, .int p3, .ref h3])), (h3, .inl (cy 1, 10, .inl f1))] _ _ := h_2
  refine lv_aload_n hx hb dX7_takeFrom_16 rfl (lv_at hl 0 rfl) ?_
  refine lv_aload_n hx hb dX7_takeFrom_17 rfl (lv_at hl 1 rfl) ?_
  refine q_get X hK h_2 2 rfl rfl wf_7 2 (by decide) rfl wm_2_48 dX7_takeFrom_18 ?_
  refine q_put (v := .int p3) X hK h_2 0 rfl rfl wf_7 tyX7 tyX7_ok nmX7 2 (by decide) wm_2_48 rfl rfl rfl (Nat.le_of_ble_eq_true rfl) dX7_takeFrom_21 (fun H locs h_3 => ?_)
  clear h_2
  replace h_3 : qW D _ _ [(h0, .inr (7, [.ref h4, .int p2, .int p3, .ref h1])), (h1, .inl (cy 1, 10, .inl f0)), (h2, .inr (7, [.ref h4, .int p2, .int p3, .ref h3])), (h3, .inl (cy 1, 10, .inl f1))] _ _ := h_3
  refine lv_aload_n hx hb dX7_takeFrom_24 rfl (lv_at hl 1 rfl) ?_
  refine q_get X hK h_3 2 rfl rfl wf_7 3 (by decide) rfl wm_2_50 dX7_takeFrom_25 ?_
  refine lv_iconst (v := 0) hx hb dX7_takeFrom_28 (by decide) ?_
  refine lv_aload_n hx hb dX7_takeFrom_29 rfl (lv_at hl 0 rfl) ?_
  refine q_get X hK h_3 0 rfl rfl wf_7 3 (by decide) rfl wm_2_50 dX7_takeFrom_30 ?_
  refine lv_iconst (v := 0) hx hb dX7_takeFrom_33 (by decide) ?_
  refine lv_bipush (v := 10) hx hb dX7_takeFrom_34 (by decide) ?_
  refine q_copyR X hK h_3 wm_3_161 wm_3_152 wm_3_151 wm_1_21 hl.1 3 1 rfl rfl (by decide +kernel) (by decide) (Nat.le_of_ble_eq_true rfl) (Nat.le_of_ble_eq_true rfl) dX7_takeFrom_36 (fun F_4 eF_4 H locs h_5 => ?_)
  clear h_3
  have rF_4 := rg_eq eF_4 rf1
  clear eF_4
  replace h_5 : qW D _ _ [(h0, .inr (7, [.ref h4, .int p2, .int p3, .ref h1])), (h1, .inl (cy 1, 10, .inl F_4)), (h2, .inr (7, [.ref h4, .int p2, .int p3, .ref h3])), (h3, .inl (cy 1, 10, .inl f1))] _ _ := h_5
  exact q_vret X hr hlk hK h_5 (fun _ => 0, fun k => List.getD [(fun _ => p2), (fun _ => p3), F_4] k (fun _ => 0), fun _ _ => 0) ⟨(⟨by omega, by omega⟩ : 0 ≤ (p2 : Int32).toInt ∧ (p2 : Int32).toInt ≤ 60000), (⟨by omega, by omega⟩ : 0 ≤ (p3 : Int32).toInt ∧ (p3 : Int32).toInt ≤ 1023), (rg_wide rF_4 (by decide) (by decide)), trivial⟩ [0, 1, 2, 3] rfl rfl dX7_takeFrom_39 (Nat.le_of_ble_eq_true rfl) (Nat.le_of_ble_eq_true rfl)
set_option maxHeartbeats 4000000 in
set_option maxRecDepth 100000 in
theorem gX6_areOpposites_5 (l : Launch) (D : va_G) (cy : Nat → ClassId) (h0 : Nat) (h1 : Nat) (h2 : Nat) (h3 : Nat) (p0 : Int32) (p1 : Int32) (p2 : Int32) (p3 : Int32) (p4 : Int32) (p5 : Int32) (p6 : Int32) (p7 : Int32) (w0 : Value) (w1 : Value) (w2 : Value) (w3 : Value) (w4 : Value) (w5 : Value) (w6 : Value) (p8 : Int32) (p9 : Int32) (f0 : Nat → Int32) (w7 : Value) (w8 : Value) (hp0 : 0 ≤ (p0).toInt ∧ (p0).toInt ≤ 9) (hp1 : 0 ≤ (p1).toInt ∧ (p1).toInt ≤ 999) (hp2 : 0 ≤ (p2).toInt ∧ (p2).toInt ≤ 9) (hp3 : 0 ≤ (p3).toInt ∧ (p3).toInt ≤ 62000) (hp4 : 1 ≤ (p4).toInt ∧ (p4).toInt ≤ 3) (hp5 : 0 ≤ (p5).toInt ∧ (p5).toInt ≤ 10) (hp6 : 0 ≤ (p6).toInt ∧ (p6).toInt ≤ 920) (hp7 : 0 ≤ (p7).toInt ∧ (p7).toInt ≤ 999) (hp8 : 0 ≤ (p8).toInt ∧ (p8).toInt ≤ 60000) (hp9 : 0 ≤ (p9).toInt ∧ (p9).toInt ≤ 1023) (rf0 : RG f0 10 0 999) (sz : Nat) : MI l yX6_areOpposites cX6_areOpposites 8 .boolean { frames := 0, cells := 0, slots := 0, locals := 0 } [.ref h3, .ref h1, .int p0, .int p1, .int p2, .int p3] D cy [(h0, .inr (3, [.int p4, .int p5, .int p6, .int p7, .null, w0, w1, w2, w3, w4, w5, w6])), (h1, .inr (7, [.ref h0, .int p8, .int p9, .ref h2])), (h2, .inl (cy 1, 10, .inl f0)), (h3, .inr (6, [w7, w8]))] sz (fun r u => (0 ≤ r.toInt ∧ r.toInt ≤ 1) ∧ True) (fun u => [(h0, .inr (3, [.int p4, .int p5, .int p6, .int p7, .null, w0, w1, w2, w3, w4, w5, w6])), (h1, .inr (7, [.ref h0, .int p8, .int p9, .ref h2])), (h2, .inl (cy 1, 10, .inl f0)), (h3, .inr (6, [w7, w8]))]) 0 0 := by
  refine q_ent (own := RX6) (by decide) rfl (Nat.le_of_ble_eq_true rfl) (fun p e s m below meth c ls X hr hlk hnm hK h hA hl => ?_)
  obtain ⟨hx, hb, hml, hown, ht⟩ := id X
  replace hl : lv_has ls 8 [(0, .ref h3), (1, .ref h1), (2, .int p0), (3, .int p1), (4, .int p2), (5, .int p3)] := hl
  refine lv_aload_n hx hb dX6_areOpposites_0 rfl (lv_at hl 1 rfl) ?_
  refine q_get X hK h 1 rfl rfl wf_7 0 (by decide) rfl wm_2_41 dX6_areOpposites_1 ?_
  refine q_get X hK h 0 rfl rfl wf_3 4 (by decide) rfl wm_1_94 dX6_areOpposites_4 ?_
  refine lv_astoreN (lv' := [(6, .null), (0, .ref h3), (1, .ref h1), (2, .int p0), (3, .int p1), (4, .int p2), (5, .int p3)]) hx hb dX6_areOpposites_7 hl (by decide) rfl (fun ls_1 hl_1 => ?_)
  clear hl
  refine lv_aload_n hx hb dX6_areOpposites_9 rfl (lv_at hl_1 2 rfl) ?_
  refine q_get X hK h 1 rfl rfl wf_7 3 (by decide) rfl wm_2_53 dX6_areOpposites_10 ?_
  refine lv_iload hx hb dX6_areOpposites_13 (lv_at hl_1 5 rfl) ?_
  refine q_iald X hK h 2 rfl (i_in rfl (by omega) (by omega)) dX6_areOpposites_15 ?_
  obtain ⟨z_2, ez_2, hz_2⟩ := rg_get rf0 (x := p2) rfl (by omega) (by omega)
  refine q_c z_2 ez_2 ?_
  clear ez_2
  refine lv_istore (lv' := [(7, .int z_2), (6, .null), (0, .ref h3), (1, .ref h1), (2, .int p0), (3, .int p1), (4, .int p2), (5, .int p3)]) hx hb dX6_areOpposites_16 hl_1 (by decide) rfl (fun ls_3 hl_3 => ?_)
  clear hl_1
  refine lv_aloadN hx hb dX6_areOpposites_18 (lv_at hl_3 1 rfl) ?_
  refine lv_ifnonnullN hx hb dX6_areOpposites_20 ?_
  refine lv_iload_n hx hb dX6_areOpposites_23 rfl (lv_at hl_3 5 rfl) ?_
  refine lv_bipush (v := 100) hx hb dX6_areOpposites_24 (by decide) ?_
  refine lv_idiv hx hb dX6_areOpposites_26 (by decide) ?_
  obtain ⟨z_4, ez_4, hz_4⟩ := e_div (x := p1) (y := 100) rfl (show (100 : Int32).toInt = 100 by decide) (by omega) (by omega)
  refine q_c z_4 ez_4 ?_
  clear ez_4
  refine lv_iload hx hb dX6_areOpposites_27 (lv_at hl_3 0 rfl) ?_
  refine lv_bipush (v := 100) hx hb dX6_areOpposites_29 (by decide) ?_
  refine lv_idiv hx hb dX6_areOpposites_31 (by decide) ?_
  obtain ⟨z_5, ez_5, hz_5⟩ := e_div (x := z_2) (y := 100) rfl (show (100 : Int32).toInt = 100 by decide) (by omega) (by omega)
  refine q_c z_5 ez_5 ?_
  clear ez_5
  refine lv_iadd hx hb dX6_areOpposites_32 ?_
  obtain ⟨z_6, ez_6, hz_6⟩ := e_add (x := z_4) (y := z_5) rfl rfl (by omega) (by omega)
  refine q_c z_6 ez_6 ?_
  clear ez_6
  refine lv_bipush (v := 9) hx hb dX6_areOpposites_33 (by decide) ?_
  refine q_jn (pc2 := 43) (fun H locs ls st => ∃ v43_7_0 : Int32, (0 ≤ (v43_7_0).toInt ∧ (v43_7_0).toInt ≤ 1) ∧ st = [.int v43_7_0] ∧ qW D (va_A [(h0, .inr (3, [.int p4, .int p5, .int p6, .int p7, .null, w0, w1, w2, w3, w4, w5, w6])), (h1, .inr (7, [.ref h0, .int p8, .int p9, .ref h2])), (h2, .inl (cy 1, 10, .inl f0)), (h3, .inr (6, [w7, w8]))] sz) s.heap [(h0, .inr (3, [.int p4, .int p5, .int p6, .int p7, .null, w0, w1, w2, w3, w4, w5, w6])), (h1, .inr (7, [.ref h0, .int p8, .int p9, .ref h2])), (h2, .inl (cy 1, 10, .inl f0)), (h3, .inr (6, [w7, w8]))] H locs ∧ lv_has ls 8 [(0, .ref h3), (1, .ref h1), (2, .int p0), (3, .int p1), (4, .int p2), (5, .int p3), (6, .null), (7, .int z_2)]) (fun H locs ls st hP => ?_) (fun J_43 => ?_)
  · obtain ⟨v43_7_0, hv43_7_0, rfl, h, hl⟩ := hP
    exact q_iret X hr hlk hK h (q_nz (by omega) (by omega)) (fun _ => 0, fun _ _ => 0, fun _ _ => 0) ⟨⟨by omega, by omega⟩, trivial⟩ [0, 1, 2, 3] rfl rfl dX6_areOpposites_43 (Nat.le_of_ble_eq_true rfl) (Nat.le_of_ble_eq_true rfl)
  · skip
    refine lv_icmp_ne (tgt := 42) hx hb dX6_areOpposites_35 (by decide) (fun c_8 => ?_) (fun c_8 => ?_)
    · replace c_8 := i_ne (x := z_6) (y := 9) rfl (show (9 : Int32).toInt = 9 by decide) c_8
      refine lv_iconst (v := 0) hx hb dX6_areOpposites_42 (by decide) ?_
      exact J_43 _ _ _ _ ⟨0, ⟨by decide +kernel, by decide +kernel⟩, rfl, h, (lv_sub hl_3 [2, 3, 4, 5, 6, 7, 1, 0] rfl)⟩
    · replace c_8 := i_eq (x := z_6) (y := 9) rfl (show (9 : Int32).toInt = 9 by decide) c_8
      refine lv_iconst (v := 1) hx hb dX6_areOpposites_38 (by decide) ?_
      refine lv_goto (tgt := 43) hx hb dX6_areOpposites_39 (by decide) ?_
      exact J_43 _ _ _ _ ⟨1, ⟨by decide +kernel, by decide +kernel⟩, rfl, h, (lv_sub hl_3 [2, 3, 4, 5, 6, 7, 1, 0] rfl)⟩
set_option maxHeartbeats 4000000 in
set_option maxRecDepth 100000 in
theorem gX6_rowOf_6 (l : Launch) (D : va_G) (cy : Nat → ClassId) (h0 : Nat) (h1 : Nat) (h2 : Nat) (h3 : Nat) (p0 : Int32) (p1 : Int32) (p2 : Int32) (p3 : Int32) (p4 : Int32) (p5 : Int32) (p6 : Int32) (w0 : Value) (w1 : Value) (w2 : Value) (w3 : Value) (w4 : Value) (w5 : Value) (w6 : Value) (p7 : Int32) (p8 : Int32) (f0 : Nat → Int32) (w7 : Value) (w8 : Value) (hp0 : 0 ≤ (p0).toInt ∧ (p0).toInt ≤ 9) (hp1 : 0 ≤ (p1).toInt ∧ (p1).toInt ≤ 999) (hp2 : 0 ≤ (p2).toInt ∧ (p2).toInt ≤ 62000) (hp3 : 1 ≤ (p3).toInt ∧ (p3).toInt ≤ 3) (hp4 : 0 ≤ (p4).toInt ∧ (p4).toInt ≤ 10) (hp5 : 0 ≤ (p5).toInt ∧ (p5).toInt ≤ 920) (hp6 : 0 ≤ (p6).toInt ∧ (p6).toInt ≤ 999) (hp7 : 0 ≤ (p7).toInt ∧ (p7).toInt ≤ 60000) (hp8 : 0 ≤ (p8).toInt ∧ (p8).toInt ≤ 1023) (rf0 : RG f0 10 0 999) (sz : Nat) : MI l yX6_rowOf cX6_rowOf 7 .int { frames := 1, cells := 0, slots := 0, locals := 27 } [.ref h3, .ref h1, .int p0, .int p1, .int p2] D cy [(h0, .inr (3, [.int p3, .int p4, .int p5, .int p6, .null, w0, w1, w2, w3, w4, w5, w6])), (h1, .inr (7, [.ref h0, .int p7, .int p8, .ref h2])), (h2, .inl (cy 1, 10, .inl f0)), (h3, .inr (6, [w7, w8]))] sz (fun r u => (0 ≤ r.toInt ∧ r.toInt ≤ 1023) ∧ True) (fun u => [(h0, .inr (3, [.int p3, .int p4, .int p5, .int p6, .null, w0, w1, w2, w3, w4, w5, w6])), (h1, .inr (7, [.ref h0, .int p7, .int p8, .ref h2])), (h2, .inl (cy 1, 10, .inl f0)), (h3, .inr (6, [w7, w8]))]) 0 0 := by
  refine q_ent (own := RX6) (by decide) rfl (Nat.le_of_ble_eq_true rfl) (fun p e s m below meth c ls X hr hlk hnm hK h hA hl => ?_)
  obtain ⟨hx, hb, hml, hown, ht⟩ := id X
  replace hl : lv_has ls 7 [(0, .ref h3), (1, .ref h1), (2, .int p0), (3, .int p1), (4, .int p2)] := hl
  refine lv_iconst (v := 0) hx hb dX6_rowOf_0 (by decide) ?_
  refine lv_istore (lv' := [(5, .int 0), (0, .ref h3), (1, .ref h1), (2, .int p0), (3, .int p1), (4, .int p2)]) hx hb dX6_rowOf_1 hl (by decide) rfl (fun ls_1 hl_1 => ?_)
  clear hl
  refine lv_iconst (v := 0) hx hb dX6_rowOf_3 (by decide) ?_
  refine lv_istore (lv' := [(6, .int 0), (5, .int 0), (0, .ref h3), (1, .ref h1), (2, .int p0), (3, .int p1), (4, .int p2)]) hx hb dX6_rowOf_4 hl_1 (by decide) rfl (fun ls_2 hl_2 => ?_)
  clear hl_1
  refine q_wl (fun (q : Int32 × Int32) H locs ls => match q with | (v6_3_0, v6_3_1) => (0 ≤ (v6_3_0).toInt ∧ (v6_3_0).toInt ≤ 10) ∧ (0 ≤ (v6_3_1).toInt ∧ (v6_3_1).toInt ≤ 1023) ∧ qW D (va_A [(h0, .inr (3, [.int p3, .int p4, .int p5, .int p6, .null, w0, w1, w2, w3, w4, w5, w6])), (h1, .inr (7, [.ref h0, .int p7, .int p8, .ref h2])), (h2, .inl (cy 1, 10, .inl f0)), (h3, .inr (6, [w7, w8]))] sz) s.heap [(h0, .inr (3, [.int p3, .int p4, .int p5, .int p6, .null, w0, w1, w2, w3, w4, w5, w6])), (h1, .inr (7, [.ref h0, .int p7, .int p8, .ref h2])), (h2, .inl (cy 1, 10, .inl f0)), (h3, .inr (6, [w7, w8]))] H locs ∧ lv_has ls 7 [(0, .ref h3), (1, .ref h1), (2, .int p0), (3, .int p1), (4, .int p2), (5, .int v6_3_1), (6, .int v6_3_0)]) (fun (q : Int32 × Int32) => match q with | (v6_3_0, v6_3_1) => (11 - (v6_3_0).toInt).toNat) (fun q_6 ih_6 H locs ls hP => ?_) (0, 0) ⟨⟨by decide +kernel, by decide +kernel⟩, ⟨by decide +kernel, by decide +kernel⟩, h, (lv_sub hl_2 [2, 3, 4, 5, 6, 1, 0] rfl)⟩
  obtain ⟨v6_3_0, v6_3_1⟩ := q_6
  obtain ⟨hv6_3_0, hv6_3_1, h, hl⟩ := hP
  refine lv_iload hx hb dX6_rowOf_6 (lv_at hl 6 rfl) ?_
  refine lv_aload_n hx hb dX6_rowOf_8 rfl (lv_at hl 1 rfl) ?_
  refine q_get X hK h 1 rfl rfl wf_7 0 (by decide) rfl wm_2_41 dX6_rowOf_9 ?_
  refine q_get X hK h 0 rfl rfl wf_3 1 (by decide) rfl wm_1_84 dX6_rowOf_12 ?_
  refine lv_icmp_ge (tgt := 53) hx hb dX6_rowOf_15 (by decide) (fun c_4 => ?_) (fun c_4 => ?_)
  · replace c_4 := i_le (x := p4) (y := v6_3_0) rfl rfl c_4
    refine lv_iload hx hb dX6_rowOf_53 (lv_at hl 5 rfl) ?_
    exact q_iret X hr hlk hK h rfl (fun _ => 0, fun _ _ => 0, fun _ _ => 0) ⟨⟨by omega, by omega⟩, trivial⟩ [0, 1, 2, 3] rfl rfl dX6_rowOf_55 (Nat.le_of_ble_eq_true rfl) (Nat.le_of_ble_eq_true rfl)
  · replace c_4 := i_nle (x := p4) (y := v6_3_0) rfl rfl c_4
    refine lv_iload hx hb dX6_rowOf_18 (lv_at hl 6 rfl) ?_
    refine lv_iload_n hx hb dX6_rowOf_20 rfl (lv_at hl 2 rfl) ?_
    refine q_jn (pc2 := 47) (fun H locs ls st => ∃ v47_5_0 : Int32, (0 ≤ (v47_5_0).toInt ∧ (v47_5_0).toInt ≤ 1023) ∧ st = [] ∧ qW D (va_A [(h0, .inr (3, [.int p3, .int p4, .int p5, .int p6, .null, w0, w1, w2, w3, w4, w5, w6])), (h1, .inr (7, [.ref h0, .int p7, .int p8, .ref h2])), (h2, .inl (cy 1, 10, .inl f0)), (h3, .inr (6, [w7, w8]))] sz) s.heap [(h0, .inr (3, [.int p3, .int p4, .int p5, .int p6, .null, w0, w1, w2, w3, w4, w5, w6])), (h1, .inr (7, [.ref h0, .int p7, .int p8, .ref h2])), (h2, .inl (cy 1, 10, .inl f0)), (h3, .inr (6, [w7, w8]))] H locs ∧ lv_has ls 7 [(0, .ref h3), (1, .ref h1), (2, .int p0), (3, .int p1), (4, .int p2), (5, .int v47_5_0), (6, .int v6_3_0)]) (fun H locs ls st hP => ?_) (fun J_47 => ?_)
    · obtain ⟨v47_5_0, hv47_5_0, rfl, h, hl⟩ := hP
      obtain ⟨z_6, ez_6, hz_6⟩ := e_add (x := v6_3_0) (y := Int32.ofInt 1) rfl (b := 1) (by decide) (by omega) (by omega)
      refine lv_iinc (v := z_6) (lv' := [(6, .int z_6), (0, .ref h3), (1, .ref h1), (2, .int p0), (3, .int p1), (4, .int p2), (5, .int v47_5_0)]) hx hb dX6_rowOf_47 hl (k := 6) rfl ez_6 (by decide) rfl (fun ls_6 hl_6 => ?_)
      clear hl
      refine lv_goto (tgt := 6) hx hb dX6_rowOf_50 (by decide) ?_
      exact ih_6 (z_6, v47_5_0) (by show (11 - (z_6).toInt).toNat < (11 - (v6_3_0).toInt).toNat; omega) _ _ _ ⟨⟨by omega, by omega⟩, ⟨by omega, by omega⟩, h, (lv_sub hl_6 [1, 2, 3, 4, 5, 6, 0] rfl)⟩
    · skip
      refine lv_icmp_eq (tgt := 47) hx hb dX6_rowOf_21 (by decide) (fun c_7 => ?_) (fun c_7 => ?_)
      · replace c_7 := i_eq (x := v6_3_0) (y := p0) rfl rfl c_7
        exact J_47 _ _ _ _ ⟨v6_3_1, ⟨by omega, by omega⟩, rfl, h, (lv_sub hl [0, 1, 2, 3, 4, 5, 6] rfl)⟩
      · replace c_7 := i_ne (x := v6_3_0) (y := p0) rfl rfl c_7
        refine lv_aload_n hx hb dX6_rowOf_24 rfl (lv_at hl 0 rfl) ?_
        refine lv_aload_n hx hb dX6_rowOf_25 rfl (lv_at hl 1 rfl) ?_
        refine lv_iload_n hx hb dX6_rowOf_26 rfl (lv_at hl 2 rfl) ?_
        refine lv_iload_n hx hb dX6_rowOf_27 rfl (lv_at hl 3 rfl) ?_
        refine lv_iload hx hb dX6_rowOf_28 (lv_at hl 6 rfl) ?_
        refine lv_iload hx hb dX6_rowOf_30 (lv_at hl 4 rfl) ?_
        refine q_callVi (rest := []) (wr := []) X hK hA h (fun sz => gX6_areOpposites_5 l D cy h0 h1 h2 h3 p0 p1 v6_3_0 p2 p3 p4 p5 p6 w0 w1 w2 w3 w4 w5 w6 p7 p8 f0 w7 w8 ⟨by omega, by omega⟩ ⟨by omega, by omega⟩ ⟨by omega, by omega⟩ ⟨by omega, by omega⟩ ⟨by omega, by omega⟩ ⟨by omega, by omega⟩ ⟨by omega, by omega⟩ ⟨by omega, by omega⟩ ⟨by omega, by omega⟩ ⟨by omega, by omega⟩ (rg_wide rf0 (by decide) (by decide)) sz) wm_3_231 wm_3_199 wm_1_5 hd_X6_areOpposites wm_3_197 wm_3_198 (ci := 6) (q0 := 3) rfl rfl ⟨Nat.le_of_ble_eq_true rfl, Nat.le_of_ble_eq_true rfl⟩ hl.1 rfl (Nat.le_of_ble_eq_true rfl) dX6_rowOf_32 ⟨Nat.le_of_ble_eq_true rfl, Nat.le_of_ble_eq_true rfl⟩ [0, 1, 2, 3] [] rfl rfl (by decide) rfl rfl (fun r_8 u_8 H locs w_8 h_8 => ?_)
        clear h
        obtain ⟨wr_8, _⟩ := w_8
        replace h_8 : qW D _ _ [(h0, .inr (3, [.int p3, .int p4, .int p5, .int p6, .null, w0, w1, w2, w3, w4, w5, w6])), (h1, .inr (7, [.ref h0, .int p7, .int p8, .ref h2])), (h2, .inl (cy 1, 10, .inl f0)), (h3, .inr (6, [w7, w8]))] _ _ := h_8
        refine lv_if_eq (tgt := 47) hx hb dX6_rowOf_35 (by decide) (fun c_9 => ?_) (fun c_9 => ?_)
        · replace c_9 := i_eq (x := r_8) (y := 0) rfl (show (0 : Int32).toInt = 0 by decide) c_9
          exact J_47 _ _ _ _ ⟨v6_3_1, ⟨by omega, by omega⟩, rfl, h_8, (lv_sub hl [0, 1, 2, 3, 4, 5, 6] rfl)⟩
        · replace c_9 := i_ne (x := r_8) (y := 0) rfl (show (0 : Int32).toInt = 0 by decide) c_9
          refine lv_iload hx hb dX6_rowOf_38 (lv_at hl 5 rfl) ?_
          refine lv_iconst (v := 1) hx hb dX6_rowOf_40 (by decide) ?_
          refine lv_iload hx hb dX6_rowOf_41 (lv_at hl 6 rfl) ?_
          refine lv_ishl hx hb dX6_rowOf_43 ?_
          obtain ⟨z_10, ez_10, hz_10⟩ := e_shlk (p := v6_3_0) 9 (by decide) rfl (by omega) (by omega)
          refine q_c z_10 ez_10 ?_
          clear ez_10
          refine lv_ior hx hb dX6_rowOf_44 ?_
          obtain ⟨z_11, ez_11, hz_11⟩ := e_or (x := v6_3_1) (y := z_10) 10 (by decide) rfl rfl (by omega) (by omega) (by omega) (by omega)
          refine q_c z_11 ez_11 ?_
          clear ez_11
          refine lv_istore (lv' := [(5, .int z_11), (0, .ref h3), (1, .ref h1), (2, .int p0), (3, .int p1), (4, .int p2), (6, .int v6_3_0)]) hx hb dX6_rowOf_45 hl (by decide) rfl (fun ls_12 hl_12 => ?_)
          clear hl
          exact J_47 _ _ _ _ ⟨z_11, ⟨by omega, by omega⟩, rfl, h_8, (lv_sub hl_12 [1, 2, 3, 4, 5, 0, 6] rfl)⟩
set_option maxHeartbeats 4000000 in
set_option maxRecDepth 100000 in
theorem gJ7_fill_53178_7 (l : Launch) (D : va_G) (cy : Nat → ClassId) (h0 : Nat) (p0 : Int32) (f0 : Nat → Int32) (hp0 : 0 ≤ (p0).toInt ∧ (p0).toInt ≤ 0) (rf0 : RG f0 10 0 1023) (sz : Nat) : MV l yJ7_fill_53178 cJ7_fill_53178 4 { frames := 0, cells := 0, slots := 0, locals := 0 } [.ref h0, .int p0] D cy [(h0, .inl (cy 1, 10, .inl f0))] sz (fun u => RG (u.2.1 0) 10 0 1023 ∧ True) (fun u => [(h0, .inl (cy 1, 10, .inl (u.2.1 0)))]) 0 0 := by
  refine q_ent (own := RJ7) (by decide) rfl (Nat.le_of_ble_eq_true rfl) (fun p e s m below meth c ls X hr hlk hnm hK h hA hl => ?_)
  obtain ⟨hx, hb, hml, hown, ht⟩ := id X
  replace hl : lv_has ls 4 [(0, .ref h0), (1, .int p0)] := hl
  refine lv_iconst (v := 0) hx hb dJ7_fill_53178_0 (by decide) ?_
  refine lv_istore_n (lv' := [(2, .int 0), (0, .ref h0), (1, .int p0)]) hx hb dJ7_fill_53178_1 rfl hl (by decide) rfl (fun ls_1 hl_1 => ?_)
  clear hl
  refine lv_aload_n hx hb dJ7_fill_53178_2 rfl (lv_at hl_1 1 rfl) ?_
  refine q_alen X hK h 0 1 rfl rfl 10 (show Int32.ofNat 10 = 10 by decide) dJ7_fill_53178_3 ?_
  refine lv_istore_n (lv' := [(3, .int 10), (2, .int 0), (0, .ref h0), (1, .int p0)]) hx hb dJ7_fill_53178_4 rfl hl_1 (by decide) rfl (fun ls_2 hl_2 => ?_)
  clear hl_1
  refine q_wl (fun (v5_3_0 : Int32) H locs ls => ∃ v5_3_1 : Nat → Int32, (0 ≤ (v5_3_0).toInt ∧ (v5_3_0).toInt ≤ 10) ∧ RG v5_3_1 10 0 1023 ∧ qW D (va_A [(h0, .inl (cy 1, 10, .inl f0))] sz) s.heap [(h0, .inl (cy 1, 10, .inl v5_3_1))] H locs ∧ lv_has ls 4 [(0, .ref h0), (1, .int p0), (2, .int v5_3_0), (3, .int 10)]) (fun (v5_3_0 : Int32) => (11 - (v5_3_0).toInt).toNat) (fun q_5 ih_5 H locs ls hP => ?_) 0 ⟨f0, ⟨by decide +kernel, by decide +kernel⟩, (rg_wide rf0 (by decide) (by decide)), h, (lv_sub hl_2 [2, 3, 1, 0] rfl)⟩
  obtain ⟨v5_3_0, rfl⟩ : ∃ z, z = q_5 := ⟨_, rfl⟩
  obtain ⟨v5_3_1, hv5_3_0, rv5_3_1, h, hl⟩ := hP
  refine lv_iload_n hx hb dJ7_fill_53178_5 rfl (lv_at hl 2 rfl) ?_
  refine lv_iload_n hx hb dJ7_fill_53178_6 rfl (lv_at hl 3 rfl) ?_
  refine lv_icmp_ge (tgt := 20) hx hb dJ7_fill_53178_7 (by decide) (fun c_4 => ?_) (fun c_4 => ?_)
  · replace c_4 := i_le (x := 10) (y := v5_3_0) (show (10 : Int32).toInt = 10 by decide) rfl c_4
    exact q_vret X hr hlk hK h (fun _ => 0, fun k => List.getD [v5_3_1] k (fun _ => 0), fun _ _ => 0) ⟨(rg_wide rv5_3_1 (by decide) (by decide)), trivial⟩ [0] rfl rfl dJ7_fill_53178_20 (Nat.le_of_ble_eq_true rfl) (Nat.le_of_ble_eq_true rfl)
  · replace c_4 := i_nle (x := 10) (y := v5_3_0) (show (10 : Int32).toInt = 10 by decide) rfl c_4
    refine lv_aload_n hx hb dJ7_fill_53178_10 rfl (lv_at hl 0 rfl) ?_
    refine lv_iload_n hx hb dJ7_fill_53178_11 rfl (lv_at hl 2 rfl) ?_
    refine lv_iload_n hx hb dJ7_fill_53178_12 rfl (lv_at hl 1 rfl) ?_
    refine q_iast X hK h 0 rfl (i_in rfl (by omega) (by omega)) dJ7_fill_53178_13 (fun H locs h_6 => ?_)
    clear h
    replace h_6 : qW D _ _ [(h0, .inl (cy 1, 10, .inl (upd v5_3_1 (Int32.toNatClampNeg v5_3_0) p0)))] _ _ := h_6
    obtain ⟨F_5, eF_5, rF_5⟩ := rg_upd rv5_3_1 (Int32.toNatClampNeg v5_3_0) (x := p0) rfl (by omega) (by omega)
    rw [eF_5] at h_6
    clear eF_5
    obtain ⟨z_7, ez_7, hz_7⟩ := e_add (x := v5_3_0) (y := Int32.ofInt 1) rfl (b := 1) (by decide) (by omega) (by omega)
    refine lv_iinc (v := z_7) (lv' := [(2, .int z_7), (0, .ref h0), (1, .int p0), (3, .int 10)]) hx hb dJ7_fill_53178_14 hl (k := 2) rfl ez_7 (by decide) rfl (fun ls_7 hl_7 => ?_)
    clear hl
    refine lv_goto (tgt := 5) hx hb dJ7_fill_53178_17 (by decide) ?_
    exact ih_5 z_7 (by show (11 - (z_7).toInt).toNat < (11 - (v5_3_0).toInt).toNat; omega) _ _ _ ⟨F_5, ⟨by omega, by omega⟩, (rg_wide rF_5 (by decide) (by decide)), h_6, (lv_sub hl_7 [1, 2, 0, 3] rfl)⟩
set_option maxHeartbeats 4000000 in
set_option maxRecDepth 100000 in
theorem gX0_draw_8 (l : Launch) (D : va_G) (cy : Nat → ClassId) (h0 : Nat) (h1 : Nat) (h2 : Nat) (h3 : Nat) (h4 : Nat) (h5 : Nat) (p0 : Int32) (p1 : Int32) (p2 : Int32) (p3 : Int32) (p4 : Int32) (w0 : Value) (w1 : Value) (w2 : Value) (w3 : Value) (w4 : Value) (w5 : Value) (w6 : Value) (p5 : Int32) (p6 : Int32) (f0 : Nat → Int32) (w7 : Value) (w8 : Value) (p7 : Int32) (w9 : Value) (w10 : Value) (f1 : Nat → Int32) (hp0 : 0 ≤ (p0).toInt ∧ (p0).toInt ≤ 62000) (hp1 : 1 ≤ (p1).toInt ∧ (p1).toInt ≤ 3) (hp2 : 0 ≤ (p2).toInt ∧ (p2).toInt ≤ 10) (hp3 : 0 ≤ (p3).toInt ∧ (p3).toInt ≤ 920) (hp4 : 0 ≤ (p4).toInt ∧ (p4).toInt ≤ 999) (hp5 : 0 ≤ (p5).toInt ∧ (p5).toInt ≤ 60000) (hp6 : 0 ≤ (p6).toInt ∧ (p6).toInt ≤ 1023) (hp7 : 0 ≤ (p7).toInt ∧ (p7).toInt ≤ 10) (rf0 : RG f0 10 0 999) (rf1 : RG f1 10 0 1023) (sz : Nat) : MV l yX0_draw cX0_draw 6 { frames := 1, cells := 0, slots := 0, locals := 27 } [.ref h4, .ref h1, .int p0, .ref h3] D cy [(h0, .inr (3, [.int p1, .int p2, .int p3, .int p4, .null, w0, w1, w2, w3, w4, w5, w6])), (h1, .inr (7, [.ref h0, .int p5, .int p6, .ref h2])), (h2, .inl (cy 1, 10, .inl f0)), (h3, .inr (6, [w7, w8])), (h4, .inr (0, [.int p7, .ref h5, w9, w10])), (h5, .inl (cy 1, 10, .inl f1))] sz (fun u => (0 ≤ (u.2.1 0 0).toInt ∧ (u.2.1 0 0).toInt ≤ 10) ∧ RG (u.2.1 1) 10 0 1023 ∧ True) (fun u => [(h0, .inr (3, [.int p1, .int p2, .int p3, .int p4, .null, w0, w1, w2, w3, w4, w5, w6])), (h1, .inr (7, [.ref h0, .int p5, .int p6, .ref h2])), (h2, .inl (cy 1, 10, .inl f0)), (h3, .inr (6, [w7, w8])), (h4, .inr (0, [.int (u.2.1 0 0), .ref h5, w9, w10])), (h5, .inl (cy 1, 10, .inl (u.2.1 1)))]) 0 0 := by
  refine q_ent (own := RX0) (by decide) rfl (Nat.le_of_ble_eq_true rfl) (fun p e s m below meth c ls X hr hlk hnm hK h hA hl => ?_)
  obtain ⟨hx, hb, hml, hown, ht⟩ := id X
  replace hl : lv_has ls 6 [(0, .ref h4), (1, .ref h1), (2, .int p0), (3, .ref h3)] := hl
  refine lv_aload_n hx hb dX0_draw_0 rfl (lv_at hl 0 rfl) ?_
  refine lv_aload_n hx hb dX0_draw_1 rfl (lv_at hl 1 rfl) ?_
  refine q_get X hK h 1 rfl rfl wf_7 0 (by decide) rfl wm_2_38 dX0_draw_2 ?_
  refine q_get X hK h 0 rfl rfl wf_3 1 (by decide) rfl wm_1_80 dX0_draw_5 ?_
  refine q_put (v := .int p2) X hK h 4 rfl rfl wf_0 tyX0 tyX0_ok nmX0 0 (by decide) wm_1_198 rfl rfl rfl (Nat.le_of_ble_eq_true rfl) dX0_draw_8 (fun H locs h_1 => ?_)
  clear h
  replace h_1 : qW D _ _ [(h0, .inr (3, [.int p1, .int p2, .int p3, .int p4, .null, w0, w1, w2, w3, w4, w5, w6])), (h1, .inr (7, [.ref h0, .int p5, .int p6, .ref h2])), (h2, .inl (cy 1, 10, .inl f0)), (h3, .inr (6, [w7, w8])), (h4, .inr (0, [.int p2, .ref h5, w9, w10])), (h5, .inl (cy 1, 10, .inl f1))] _ _ := h_1
  refine lv_aload_n hx hb dX0_draw_11 rfl (lv_at hl 0 rfl) ?_
  refine q_get X hK h_1 4 rfl rfl wf_0 1 (by decide) rfl wm_1_199 dX0_draw_12 ?_
  refine lv_iconst (v := 0) hx hb dX0_draw_15 (by decide) ?_
  refine q_callSv (rest := []) (wr := [(h0, .inr (3, [.int p1, .int p2, .int p3, .int p4, .null, w0, w1, w2, w3, w4, w5, w6])), (h1, .inr (7, [.ref h0, .int p5, .int p6, .ref h2])), (h2, .inl (cy 1, 10, .inl f0)), (h3, .inr (6, [w7, w8])), (h4, .inr (0, [.int p2, .ref h5, w9, w10]))]) X hK hA h_1 (fun sz => gJ7_fill_53178_7 l D cy h5 (0 : Int32) f1 ⟨by decide +kernel, by decide +kernel⟩ (rg_wide rf1 (by decide) (by decide)) sz) wm_4_105 wm_4_107 wm_1_20 hd_J7_fill_53178 wm_4_106 ⟨Nat.le_of_ble_eq_true rfl, Nat.le_of_ble_eq_true rfl⟩ hl.1 rfl (Nat.le_of_ble_eq_true rfl) dX0_draw_16 ⟨Nat.le_of_ble_eq_true rfl, Nat.le_of_ble_eq_true rfl⟩ [5] [0, 1, 2, 3, 4] rfl rfl (by decide) rfl rfl (fun u_2 H locs w_2 h_2 => ?_)
  clear h_1
  obtain ⟨w2_0, _⟩ := w_2
  replace h_2 : qW D _ _ [(h0, .inr (3, [.int p1, .int p2, .int p3, .int p4, .null, w0, w1, w2, w3, w4, w5, w6])), (h1, .inr (7, [.ref h0, .int p5, .int p6, .ref h2])), (h2, .inl (cy 1, 10, .inl f0)), (h3, .inr (6, [w7, w8])), (h4, .inr (0, [.int p2, .ref h5, w9, w10])), (h5, .inl (cy 1, 10, .inl (u_2.2.1 0)))] _ _ := h_2
  refine lv_iconst (v := 0) hx hb dX0_draw_19 (by decide) ?_
  refine lv_istore (lv' := [(4, .int 0), (0, .ref h4), (1, .ref h1), (2, .int p0), (3, .ref h3)]) hx hb dX0_draw_20 hl (by decide) rfl (fun ls_3 hl_3 => ?_)
  clear hl
  refine q_wl (fun (v22_4_0 : Int32) H locs ls => ∃ v22_4_1 : Nat → Int32, (0 ≤ (v22_4_0).toInt ∧ (v22_4_0).toInt ≤ 10) ∧ RG v22_4_1 10 0 1023 ∧ qW D (va_A [(h0, .inr (3, [.int p1, .int p2, .int p3, .int p4, .null, w0, w1, w2, w3, w4, w5, w6])), (h1, .inr (7, [.ref h0, .int p5, .int p6, .ref h2])), (h2, .inl (cy 1, 10, .inl f0)), (h3, .inr (6, [w7, w8])), (h4, .inr (0, [.int p7, .ref h5, w9, w10])), (h5, .inl (cy 1, 10, .inl f1))] sz) s.heap [(h0, .inr (3, [.int p1, .int p2, .int p3, .int p4, .null, w0, w1, w2, w3, w4, w5, w6])), (h1, .inr (7, [.ref h0, .int p5, .int p6, .ref h2])), (h2, .inl (cy 1, 10, .inl f0)), (h3, .inr (6, [w7, w8])), (h4, .inr (0, [.int p2, .ref h5, w9, w10])), (h5, .inl (cy 1, 10, .inl v22_4_1))] H locs ∧ lv_has ls 6 [(0, .ref h4), (1, .ref h1), (2, .int p0), (3, .ref h3), (4, .int v22_4_0)]) (fun (v22_4_0 : Int32) => (11 - (v22_4_0).toInt).toNat) (fun q_22 ih_22 H locs ls hP => ?_) 0 ⟨(u_2.2.1 0), ⟨by decide +kernel, by decide +kernel⟩, (rg_wide w2_0 (by decide) (by decide)), h_2, (lv_sub hl_3 [1, 2, 3, 4, 0] rfl)⟩
  obtain ⟨v22_4_0, rfl⟩ : ∃ z, z = q_22 := ⟨_, rfl⟩
  obtain ⟨v22_4_1, hv22_4_0, rv22_4_1, h, hl⟩ := hP
  refine lv_iload hx hb dX0_draw_22 (lv_at hl 4 rfl) ?_
  refine lv_aload_n hx hb dX0_draw_24 rfl (lv_at hl 0 rfl) ?_
  refine q_get X hK h 4 rfl rfl wf_0 0 (by decide) rfl wm_1_198 dX0_draw_25 ?_
  refine lv_icmp_ge (tgt := 106) hx hb dX0_draw_28 (by decide) (fun c_5 => ?_) (fun c_5 => ?_)
  · replace c_5 := i_le (x := p2) (y := v22_4_0) rfl rfl c_5
    exact q_vret X hr hlk hK h (fun _ => 0, fun k => List.getD [(fun _ => p2), v22_4_1] k (fun _ => 0), fun _ _ => 0) ⟨(⟨by omega, by omega⟩ : 0 ≤ (p2 : Int32).toInt ∧ (p2 : Int32).toInt ≤ 10), (rg_wide rv22_4_1 (by decide) (by decide)), trivial⟩ [0, 1, 2, 3, 4, 5] rfl rfl dX0_draw_106 (Nat.le_of_ble_eq_true rfl) (Nat.le_of_ble_eq_true rfl)
  · replace c_5 := i_nle (x := p2) (y := v22_4_0) rfl rfl c_5
    refine lv_iload hx hb dX0_draw_31 (lv_at hl 4 rfl) ?_
    refine lv_iconst (v := 1) hx hb dX0_draw_33 (by decide) ?_
    refine lv_iadd hx hb dX0_draw_34 ?_
    obtain ⟨z_6, ez_6, hz_6⟩ := e_add (x := v22_4_0) (y := 1) rfl (show (1 : Int32).toInt = 1 by decide) (by omega) (by omega)
    refine q_c z_6 ez_6 ?_
    clear ez_6
    refine lv_istore (lv' := [(5, .int z_6), (0, .ref h4), (1, .ref h1), (2, .int p0), (3, .ref h3), (4, .int v22_4_0)]) hx hb dX0_draw_35 hl (by decide) rfl (fun ls_7 hl_7 => ?_)
    clear hl
    refine q_wl (fun (v37_8_0 : Int32) H locs ls => ∃ v37_8_1 : Nat → Int32, (1 ≤ (v37_8_0).toInt ∧ (v37_8_0).toInt ≤ 10) ∧ RG v37_8_1 10 0 1023 ∧ qW D (va_A [(h0, .inr (3, [.int p1, .int p2, .int p3, .int p4, .null, w0, w1, w2, w3, w4, w5, w6])), (h1, .inr (7, [.ref h0, .int p5, .int p6, .ref h2])), (h2, .inl (cy 1, 10, .inl f0)), (h3, .inr (6, [w7, w8])), (h4, .inr (0, [.int p7, .ref h5, w9, w10])), (h5, .inl (cy 1, 10, .inl f1))] sz) s.heap [(h0, .inr (3, [.int p1, .int p2, .int p3, .int p4, .null, w0, w1, w2, w3, w4, w5, w6])), (h1, .inr (7, [.ref h0, .int p5, .int p6, .ref h2])), (h2, .inl (cy 1, 10, .inl f0)), (h3, .inr (6, [w7, w8])), (h4, .inr (0, [.int p2, .ref h5, w9, w10])), (h5, .inl (cy 1, 10, .inl v37_8_1))] H locs ∧ lv_has ls 6 [(0, .ref h4), (1, .ref h1), (2, .int p0), (3, .ref h3), (4, .int v22_4_0), (5, .int v37_8_0)]) (fun (v37_8_0 : Int32) => (11 - (v37_8_0).toInt).toNat) (fun q_37 ih_37 H locs ls hP => ?_) z_6 ⟨v22_4_1, ⟨by omega, by omega⟩, (rg_wide rv22_4_1 (by decide) (by decide)), h, (lv_sub hl_7 [1, 2, 3, 4, 5, 0] rfl)⟩
    obtain ⟨v37_8_0, rfl⟩ : ∃ z, z = q_37 := ⟨_, rfl⟩
    obtain ⟨v37_8_1, hv37_8_0, rv37_8_1, h, hl⟩ := hP
    refine lv_iload hx hb dX0_draw_37 (lv_at hl 5 rfl) ?_
    refine lv_aload_n hx hb dX0_draw_39 rfl (lv_at hl 0 rfl) ?_
    refine q_get X hK h 4 rfl rfl wf_0 0 (by decide) rfl wm_1_198 dX0_draw_40 ?_
    refine lv_icmp_ge (tgt := 100) hx hb dX0_draw_43 (by decide) (fun c_9 => ?_) (fun c_9 => ?_)
    · replace c_9 := i_le (x := p2) (y := v37_8_0) rfl rfl c_9
      obtain ⟨z_10, ez_10, hz_10⟩ := e_add (x := v22_4_0) (y := Int32.ofInt 1) rfl (b := 1) (by decide) (by omega) (by omega)
      refine lv_iinc (v := z_10) (lv' := [(4, .int z_10), (0, .ref h4), (1, .ref h1), (2, .int p0), (3, .ref h3), (5, .int v37_8_0)]) hx hb dX0_draw_100 hl (k := 4) rfl ez_10 (by decide) rfl (fun ls_10 hl_10 => ?_)
      clear hl
      refine lv_goto (tgt := 22) hx hb dX0_draw_103 (by decide) ?_
      exact ih_22 z_10 (by show (11 - (z_10).toInt).toNat < (11 - (v22_4_0).toInt).toNat; omega) _ _ _ ⟨v37_8_1, ⟨by omega, by omega⟩, (rg_wide rv37_8_1 (by decide) (by decide)), h, (lv_sub hl_10 [1, 2, 3, 4, 0] rfl)⟩
    · replace c_9 := i_nle (x := p2) (y := v37_8_0) rfl rfl c_9
      refine lv_aload_n hx hb dX0_draw_46 rfl (lv_at hl 3 rfl) ?_
      refine lv_aload_n hx hb dX0_draw_47 rfl (lv_at hl 1 rfl) ?_
      refine lv_iload hx hb dX0_draw_48 (lv_at hl 4 rfl) ?_
      refine lv_aload_n hx hb dX0_draw_50 rfl (lv_at hl 1 rfl) ?_
      refine q_get X hK h 1 rfl rfl wf_7 3 (by decide) rfl wm_2_52 dX0_draw_51 ?_
      refine lv_iload hx hb dX0_draw_54 (lv_at hl 4 rfl) ?_
      refine q_iald X hK h 2 rfl (i_in rfl (by omega) (by omega)) dX0_draw_56 ?_
      obtain ⟨z_11, ez_11, hz_11⟩ := rg_get rf0 (x := v22_4_0) rfl (by omega) (by omega)
      refine q_c z_11 ez_11 ?_
      clear ez_11
      refine lv_iload hx hb dX0_draw_57 (lv_at hl 5 rfl) ?_
      refine lv_iload_n hx hb dX0_draw_59 rfl (lv_at hl 2 rfl) ?_
      refine q_callVi (rest := []) (wr := [(h4, .inr (0, [.int p2, .ref h5, w9, w10])), (h5, .inl (cy 1, 10, .inl v37_8_1))]) X hK hA h (fun sz => gX6_areOpposites_5 l D cy h0 h1 h2 h3 v22_4_0 z_11 v37_8_0 p0 p1 p2 p3 p4 w0 w1 w2 w3 w4 w5 w6 p5 p6 f0 w7 w8 ⟨by omega, by omega⟩ ⟨by omega, by omega⟩ ⟨by omega, by omega⟩ ⟨by omega, by omega⟩ ⟨by omega, by omega⟩ ⟨by omega, by omega⟩ ⟨by omega, by omega⟩ ⟨by omega, by omega⟩ ⟨by omega, by omega⟩ ⟨by omega, by omega⟩ (rg_wide rf0 (by decide) (by decide)) sz) wm_4_108 wm_3_199 wm_1_5 hd_X6_areOpposites wm_3_197 wm_3_198 (ci := 6) (q0 := 3) rfl rfl ⟨Nat.le_of_ble_eq_true rfl, Nat.le_of_ble_eq_true rfl⟩ hl.1 rfl (Nat.le_of_ble_eq_true rfl) dX0_draw_60 ⟨Nat.le_of_ble_eq_true rfl, Nat.le_of_ble_eq_true rfl⟩ [0, 1, 2, 3] [4, 5] rfl rfl (by decide) rfl rfl (fun r_12 u_12 H locs w_12 h_12 => ?_)
      clear h
      obtain ⟨wr_12, _⟩ := w_12
      replace h_12 : qW D _ _ [(h4, .inr (0, [.int p2, .ref h5, w9, w10])), (h5, .inl (cy 1, 10, .inl v37_8_1)), (h0, .inr (3, [.int p1, .int p2, .int p3, .int p4, .null, w0, w1, w2, w3, w4, w5, w6])), (h1, .inr (7, [.ref h0, .int p5, .int p6, .ref h2])), (h2, .inl (cy 1, 10, .inl f0)), (h3, .inr (6, [w7, w8]))] _ _ := h_12
      refine q_jn (pc2 := 94) (fun H locs ls st => ∃ v94_13_0 : Nat → Int32, RG v94_13_0 10 0 1023 ∧ st = [] ∧ qW D (va_A [(h0, .inr (3, [.int p1, .int p2, .int p3, .int p4, .null, w0, w1, w2, w3, w4, w5, w6])), (h1, .inr (7, [.ref h0, .int p5, .int p6, .ref h2])), (h2, .inl (cy 1, 10, .inl f0)), (h3, .inr (6, [w7, w8])), (h4, .inr (0, [.int p7, .ref h5, w9, w10])), (h5, .inl (cy 1, 10, .inl f1))] sz) s.heap [(h4, .inr (0, [.int p2, .ref h5, w9, w10])), (h5, .inl (cy 1, 10, .inl v94_13_0)), (h0, .inr (3, [.int p1, .int p2, .int p3, .int p4, .null, w0, w1, w2, w3, w4, w5, w6])), (h1, .inr (7, [.ref h0, .int p5, .int p6, .ref h2])), (h2, .inl (cy 1, 10, .inl f0)), (h3, .inr (6, [w7, w8]))] H locs ∧ lv_has ls 6 [(0, .ref h4), (1, .ref h1), (2, .int p0), (3, .ref h3), (4, .int v22_4_0), (5, .int v37_8_0)]) (fun H locs ls st hP => ?_) (fun J_94 => ?_)
      · obtain ⟨v94_13_0, rv94_13_0, rfl, h, hl⟩ := hP
        obtain ⟨z_14, ez_14, hz_14⟩ := e_add (x := v37_8_0) (y := Int32.ofInt 1) rfl (b := 1) (by decide) (by omega) (by omega)
        refine lv_iinc (v := z_14) (lv' := [(5, .int z_14), (0, .ref h4), (1, .ref h1), (2, .int p0), (3, .ref h3), (4, .int v22_4_0)]) hx hb dX0_draw_94 hl (k := 5) rfl ez_14 (by decide) rfl (fun ls_14 hl_14 => ?_)
        clear hl
        refine lv_goto (tgt := 37) hx hb dX0_draw_97 (by decide) ?_
        exact ih_37 z_14 (by show (11 - (z_14).toInt).toNat < (11 - (v37_8_0).toInt).toNat; omega) _ _ _ ⟨v94_13_0, ⟨by omega, by omega⟩, (rg_wide rv94_13_0 (by decide) (by decide)), (q_re h [2, 3, 4, 5, 0, 1] rfl rfl), (lv_sub hl_14 [1, 2, 3, 4, 5, 0] rfl)⟩
      · skip
        refine lv_if_eq (tgt := 94) hx hb dX0_draw_63 (by decide) (fun c_15 => ?_) (fun c_15 => ?_)
        · replace c_15 := i_eq (x := r_12) (y := 0) rfl (show (0 : Int32).toInt = 0 by decide) c_15
          exact J_94 _ _ _ _ ⟨v37_8_1, (rg_wide rv37_8_1 (by decide) (by decide)), rfl, h_12, (lv_sub hl [0, 1, 2, 3, 4, 5] rfl)⟩
        · replace c_15 := i_ne (x := r_12) (y := 0) rfl (show (0 : Int32).toInt = 0 by decide) c_15
          refine lv_aload_n hx hb dX0_draw_66 rfl (lv_at hl 0 rfl) ?_
          refine q_get X hK h_12 0 rfl rfl wf_0 1 (by decide) rfl wm_1_199 dX0_draw_67 ?_
          refine lv_iload hx hb dX0_draw_70 (lv_at hl 4 rfl) ?_
          refine lv_dup2_11 hx hb dX0_draw_72 rfl rfl ?_
          refine q_iald X hK h_12 1 rfl (i_in rfl (by omega) (by omega)) dX0_draw_73 ?_
          obtain ⟨z_16, ez_16, hz_16⟩ := rg_get rv37_8_1 (x := v22_4_0) rfl (by omega) (by omega)
          refine q_c z_16 ez_16 ?_
          clear ez_16
          refine lv_iconst (v := 1) hx hb dX0_draw_74 (by decide) ?_
          refine lv_iload hx hb dX0_draw_75 (lv_at hl 5 rfl) ?_
          refine lv_ishl hx hb dX0_draw_77 ?_
          obtain ⟨z_17, ez_17, hz_17⟩ := e_shlk (p := v37_8_0) 9 (by decide) rfl (by omega) (by omega)
          refine q_c z_17 ez_17 ?_
          clear ez_17
          refine lv_ior hx hb dX0_draw_78 ?_
          obtain ⟨z_18, ez_18, hz_18⟩ := e_or (x := z_16) (y := z_17) 10 (by decide) rfl rfl (by omega) (by omega) (by omega) (by omega)
          refine q_c z_18 ez_18 ?_
          clear ez_18
          refine q_iast X hK h_12 1 rfl (i_in rfl (by omega) (by omega)) dX0_draw_79 (fun H locs h_20 => ?_)
          clear h_12
          replace h_20 : qW D _ _ [(h4, .inr (0, [.int p2, .ref h5, w9, w10])), (h5, .inl (cy 1, 10, .inl (upd v37_8_1 (Int32.toNatClampNeg v22_4_0) z_18))), (h0, .inr (3, [.int p1, .int p2, .int p3, .int p4, .null, w0, w1, w2, w3, w4, w5, w6])), (h1, .inr (7, [.ref h0, .int p5, .int p6, .ref h2])), (h2, .inl (cy 1, 10, .inl f0)), (h3, .inr (6, [w7, w8]))] _ _ := h_20
          obtain ⟨F_19, eF_19, rF_19⟩ := rg_upd rv37_8_1 (Int32.toNatClampNeg v22_4_0) (x := z_18) rfl (by omega) (by omega)
          rw [eF_19] at h_20
          clear eF_19
          refine lv_aload_n hx hb dX0_draw_80 rfl (lv_at hl 0 rfl) ?_
          refine q_get X hK h_20 0 rfl rfl wf_0 1 (by decide) rfl wm_1_199 dX0_draw_81 ?_
          refine lv_iload hx hb dX0_draw_84 (lv_at hl 5 rfl) ?_
          refine lv_dup2_11 hx hb dX0_draw_86 rfl rfl ?_
          refine q_iald X hK h_20 1 rfl (i_in rfl (by omega) (by omega)) dX0_draw_87 ?_
          obtain ⟨z_21, ez_21, hz_21⟩ := rg_get rF_19 (x := v37_8_0) rfl (by omega) (by omega)
          refine q_c z_21 ez_21 ?_
          clear ez_21
          refine lv_iconst (v := 1) hx hb dX0_draw_88 (by decide) ?_
          refine lv_iload hx hb dX0_draw_89 (lv_at hl 4 rfl) ?_
          refine lv_ishl hx hb dX0_draw_91 ?_
          obtain ⟨z_22, ez_22, hz_22⟩ := e_shlk (p := v22_4_0) 9 (by decide) rfl (by omega) (by omega)
          refine q_c z_22 ez_22 ?_
          clear ez_22
          refine lv_ior hx hb dX0_draw_92 ?_
          obtain ⟨z_23, ez_23, hz_23⟩ := e_or (x := z_21) (y := z_22) 10 (by decide) rfl rfl (by omega) (by omega) (by omega) (by omega)
          refine q_c z_23 ez_23 ?_
          clear ez_23
          refine q_iast X hK h_20 1 rfl (i_in rfl (by omega) (by omega)) dX0_draw_93 (fun H locs h_25 => ?_)
          clear h_20
          replace h_25 : qW D _ _ [(h4, .inr (0, [.int p2, .ref h5, w9, w10])), (h5, .inl (cy 1, 10, .inl (upd F_19 (Int32.toNatClampNeg v37_8_0) z_23))), (h0, .inr (3, [.int p1, .int p2, .int p3, .int p4, .null, w0, w1, w2, w3, w4, w5, w6])), (h1, .inr (7, [.ref h0, .int p5, .int p6, .ref h2])), (h2, .inl (cy 1, 10, .inl f0)), (h3, .inr (6, [w7, w8]))] _ _ := h_25
          obtain ⟨F_24, eF_24, rF_24⟩ := rg_upd rF_19 (Int32.toNatClampNeg v37_8_0) (x := z_23) rfl (by omega) (by omega)
          rw [eF_24] at h_25
          clear eF_24
          exact J_94 _ _ _ _ ⟨F_24, (rg_wide rF_24 (by decide) (by decide)), rfl, h_25, (lv_sub hl [0, 1, 2, 3, 4, 5] rfl)⟩
set_option maxHeartbeats 4000000 in
set_option maxRecDepth 100000 in
theorem gX6_put_9 (l : Launch) (D : va_G) (cy : Nat → ClassId) (h0 : Nat) (h1 : Nat) (p0 : Int32) (p1 : Int32) (p2 : Int32) (w0 : Value) (f0 : Nat → Int32) (hp0 : 0 ≤ (p0).toInt ∧ (p0).toInt ≤ 0) (hp1 : 0 ≤ (p1).toInt ∧ (p1).toInt ≤ 999) (hp2 : 0 ≤ (p2).toInt ∧ (p2).toInt ≤ 9) (sz : Nat) : MV l yX6_put cX6_put 4 { frames := 0, cells := 0, slots := 0, locals := 0 } [.ref h0, .int p0, .int p1, .int p2] D cy [(h0, .inr (6, [.ref h1, w0])), (h1, .inl (cy 1, 11, .inl f0))] sz (fun u => True) (fun u => [(h0, .inr (6, [.ref h1, w0])), (h1, .inl (cy 1, 11, .inl (u.2.1 0)))]) 0 0 := by
  refine q_ent (own := RX6) (by decide) rfl (Nat.le_of_ble_eq_true rfl) (fun p e s m below meth c ls X hr hlk hnm hK h hA hl => ?_)
  obtain ⟨hx, hb, hml, hown, ht⟩ := id X
  replace hl : lv_has ls 4 [(0, .ref h0), (1, .int p0), (2, .int p1), (3, .int p2)] := hl
  refine lv_aload_n hx hb dX6_put_0 rfl (lv_at hl 0 rfl) ?_
  refine q_get X hK h 0 rfl rfl wf_6 0 (by decide) rfl wm_1_184 dX6_put_1 ?_
  refine lv_iload_n hx hb dX6_put_4 rfl (lv_at hl 1 rfl) ?_
  refine lv_iload_n hx hb dX6_put_5 rfl (lv_at hl 2 rfl) ?_
  refine lv_bipush (v := 100) hx hb dX6_put_6 (by decide) ?_
  refine lv_idiv hx hb dX6_put_8 (by decide) ?_
  obtain ⟨z_1, ez_1, hz_1⟩ := e_div (x := p1) (y := 100) rfl (show (100 : Int32).toInt = 100 by decide) (by omega) (by omega)
  refine q_c z_1 ez_1 ?_
  clear ez_1
  refine q_iast X hK h 1 rfl (i_in rfl (by omega) (by omega)) dX6_put_9 (fun H locs h_3 => ?_)
  clear h
  replace h_3 : qW D _ _ [(h0, .inr (6, [.ref h1, w0])), (h1, .inl (cy 1, 11, .inl (upd f0 (Int32.toNatClampNeg p0) z_1)))] _ _ := h_3
  obtain ⟨F_2, eF_2⟩ : ∃ z, (upd f0 (Int32.toNatClampNeg p0) z_1) = z := ⟨_, rfl⟩
  rw [eF_2] at h_3
  clear eF_2
  refine lv_aload_n hx hb dX6_put_10 rfl (lv_at hl 0 rfl) ?_
  refine q_get X hK h_3 0 rfl rfl wf_6 0 (by decide) rfl wm_1_184 dX6_put_11 ?_
  refine lv_iload_n hx hb dX6_put_14 rfl (lv_at hl 1 rfl) ?_
  refine lv_iconst (v := 1) hx hb dX6_put_15 (by decide) ?_
  refine lv_iadd hx hb dX6_put_16 ?_
  obtain ⟨z_4, ez_4, hz_4⟩ := e_add (x := p0) (y := 1) rfl (show (1 : Int32).toInt = 1 by decide) (by omega) (by omega)
  refine q_c z_4 ez_4 ?_
  clear ez_4
  refine lv_iload_n hx hb dX6_put_17 rfl (lv_at hl 2 rfl) ?_
  refine lv_bipush (v := 10) hx hb dX6_put_18 (by decide) ?_
  refine lv_idiv hx hb dX6_put_20 (by decide) ?_
  obtain ⟨z_5, ez_5, hz_5⟩ := e_div (x := p1) (y := 10) rfl (show (10 : Int32).toInt = 10 by decide) (by omega) (by omega)
  refine q_c z_5 ez_5 ?_
  clear ez_5
  refine lv_bipush (v := 10) hx hb dX6_put_21 (by decide) ?_
  refine lv_irem hx hb dX6_put_23 (by decide) ?_
  obtain ⟨z_6, ez_6, hz_6⟩ := e_rem (x := z_5) (y := 10) rfl (show (10 : Int32).toInt = 10 by decide) (by omega) (by omega)
  refine q_c z_6 ez_6 ?_
  clear ez_6
  refine q_iast X hK h_3 1 rfl (i_in rfl (by omega) (by omega)) dX6_put_24 (fun H locs h_8 => ?_)
  clear h_3
  replace h_8 : qW D _ _ [(h0, .inr (6, [.ref h1, w0])), (h1, .inl (cy 1, 11, .inl (upd F_2 (Int32.toNatClampNeg z_4) z_6)))] _ _ := h_8
  obtain ⟨F_7, eF_7⟩ : ∃ z, (upd F_2 (Int32.toNatClampNeg z_4) z_6) = z := ⟨_, rfl⟩
  rw [eF_7] at h_8
  clear eF_7
  refine lv_aload_n hx hb dX6_put_25 rfl (lv_at hl 0 rfl) ?_
  refine q_get X hK h_8 0 rfl rfl wf_6 0 (by decide) rfl wm_1_184 dX6_put_26 ?_
  refine lv_iload_n hx hb dX6_put_29 rfl (lv_at hl 1 rfl) ?_
  refine lv_iconst (v := 2) hx hb dX6_put_30 (by decide) ?_
  refine lv_iadd hx hb dX6_put_31 ?_
  obtain ⟨z_9, ez_9, hz_9⟩ := e_add (x := p0) (y := 2) rfl (show (2 : Int32).toInt = 2 by decide) (by omega) (by omega)
  refine q_c z_9 ez_9 ?_
  clear ez_9
  refine lv_iload_n hx hb dX6_put_32 rfl (lv_at hl 2 rfl) ?_
  refine lv_bipush (v := 10) hx hb dX6_put_33 (by decide) ?_
  refine lv_irem hx hb dX6_put_35 (by decide) ?_
  obtain ⟨z_10, ez_10, hz_10⟩ := e_rem (x := p1) (y := 10) rfl (show (10 : Int32).toInt = 10 by decide) (by omega) (by omega)
  refine q_c z_10 ez_10 ?_
  clear ez_10
  refine q_iast X hK h_8 1 rfl (i_in rfl (by omega) (by omega)) dX6_put_36 (fun H locs h_12 => ?_)
  clear h_8
  replace h_12 : qW D _ _ [(h0, .inr (6, [.ref h1, w0])), (h1, .inl (cy 1, 11, .inl (upd F_7 (Int32.toNatClampNeg z_9) z_10)))] _ _ := h_12
  obtain ⟨F_11, eF_11⟩ : ∃ z, (upd F_7 (Int32.toNatClampNeg z_9) z_10) = z := ⟨_, rfl⟩
  rw [eF_11] at h_12
  clear eF_11
  refine lv_aload_n hx hb dX6_put_37 rfl (lv_at hl 0 rfl) ?_
  refine q_get X hK h_12 0 rfl rfl wf_6 0 (by decide) rfl wm_1_184 dX6_put_38 ?_
  refine lv_iload_n hx hb dX6_put_41 rfl (lv_at hl 1 rfl) ?_
  refine lv_iconst (v := 3) hx hb dX6_put_42 (by decide) ?_
  refine lv_iadd hx hb dX6_put_43 ?_
  obtain ⟨z_13, ez_13, hz_13⟩ := e_add (x := p0) (y := 3) rfl (show (3 : Int32).toInt = 3 by decide) (by omega) (by omega)
  refine q_c z_13 ez_13 ?_
  clear ez_13
  refine lv_iload_n hx hb dX6_put_44 rfl (lv_at hl 3 rfl) ?_
  refine q_iast X hK h_12 1 rfl (i_in rfl (by omega) (by omega)) dX6_put_45 (fun H locs h_15 => ?_)
  clear h_12
  replace h_15 : qW D _ _ [(h0, .inr (6, [.ref h1, w0])), (h1, .inl (cy 1, 11, .inl (upd F_11 (Int32.toNatClampNeg z_13) p2)))] _ _ := h_15
  obtain ⟨F_14, eF_14⟩ : ∃ z, (upd F_11 (Int32.toNatClampNeg z_13) p2) = z := ⟨_, rfl⟩
  rw [eF_14] at h_15
  clear eF_14
  exact q_vret X hr hlk hK h_15 (fun _ => 0, fun k => List.getD [F_14] k (fun _ => 0), fun _ _ => 0) trivial [0, 1] rfl rfl dX6_put_46 (Nat.le_of_ble_eq_true rfl) (Nat.le_of_ble_eq_true rfl)
set_option maxHeartbeats 4000000 in
set_option maxRecDepth 100000 in
theorem gX6_put_10 (l : Launch) (D : va_G) (cy : Nat → ClassId) (h0 : Nat) (h1 : Nat) (p0 : Int32) (p1 : Int32) (p2 : Int32) (w0 : Value) (f0 : Nat → Int32) (hp0 : 0 ≤ (p0).toInt ∧ (p0).toInt ≤ 4) (hp1 : 0 ≤ (p1).toInt ∧ (p1).toInt ≤ 999) (hp2 : 0 ≤ (p2).toInt ∧ (p2).toInt ≤ 9) (sz : Nat) : MV l yX6_put cX6_put 4 { frames := 0, cells := 0, slots := 0, locals := 0 } [.ref h0, .int p0, .int p1, .int p2] D cy [(h0, .inr (6, [.ref h1, w0])), (h1, .inl (cy 1, 11, .inl f0))] sz (fun u => True) (fun u => [(h0, .inr (6, [.ref h1, w0])), (h1, .inl (cy 1, 11, .inl (u.2.1 0)))]) 0 0 := by
  refine q_ent (own := RX6) (by decide) rfl (Nat.le_of_ble_eq_true rfl) (fun p e s m below meth c ls X hr hlk hnm hK h hA hl => ?_)
  obtain ⟨hx, hb, hml, hown, ht⟩ := id X
  replace hl : lv_has ls 4 [(0, .ref h0), (1, .int p0), (2, .int p1), (3, .int p2)] := hl
  refine lv_aload_n hx hb dX6_put_0 rfl (lv_at hl 0 rfl) ?_
  refine q_get X hK h 0 rfl rfl wf_6 0 (by decide) rfl wm_1_184 dX6_put_1 ?_
  refine lv_iload_n hx hb dX6_put_4 rfl (lv_at hl 1 rfl) ?_
  refine lv_iload_n hx hb dX6_put_5 rfl (lv_at hl 2 rfl) ?_
  refine lv_bipush (v := 100) hx hb dX6_put_6 (by decide) ?_
  refine lv_idiv hx hb dX6_put_8 (by decide) ?_
  obtain ⟨z_1, ez_1, hz_1⟩ := e_div (x := p1) (y := 100) rfl (show (100 : Int32).toInt = 100 by decide) (by omega) (by omega)
  refine q_c z_1 ez_1 ?_
  clear ez_1
  refine q_iast X hK h 1 rfl (i_in rfl (by omega) (by omega)) dX6_put_9 (fun H locs h_3 => ?_)
  clear h
  replace h_3 : qW D _ _ [(h0, .inr (6, [.ref h1, w0])), (h1, .inl (cy 1, 11, .inl (upd f0 (Int32.toNatClampNeg p0) z_1)))] _ _ := h_3
  obtain ⟨F_2, eF_2⟩ : ∃ z, (upd f0 (Int32.toNatClampNeg p0) z_1) = z := ⟨_, rfl⟩
  rw [eF_2] at h_3
  clear eF_2
  refine lv_aload_n hx hb dX6_put_10 rfl (lv_at hl 0 rfl) ?_
  refine q_get X hK h_3 0 rfl rfl wf_6 0 (by decide) rfl wm_1_184 dX6_put_11 ?_
  refine lv_iload_n hx hb dX6_put_14 rfl (lv_at hl 1 rfl) ?_
  refine lv_iconst (v := 1) hx hb dX6_put_15 (by decide) ?_
  refine lv_iadd hx hb dX6_put_16 ?_
  obtain ⟨z_4, ez_4, hz_4⟩ := e_add (x := p0) (y := 1) rfl (show (1 : Int32).toInt = 1 by decide) (by omega) (by omega)
  refine q_c z_4 ez_4 ?_
  clear ez_4
  refine lv_iload_n hx hb dX6_put_17 rfl (lv_at hl 2 rfl) ?_
  refine lv_bipush (v := 10) hx hb dX6_put_18 (by decide) ?_
  refine lv_idiv hx hb dX6_put_20 (by decide) ?_
  obtain ⟨z_5, ez_5, hz_5⟩ := e_div (x := p1) (y := 10) rfl (show (10 : Int32).toInt = 10 by decide) (by omega) (by omega)
  refine q_c z_5 ez_5 ?_
  clear ez_5
  refine lv_bipush (v := 10) hx hb dX6_put_21 (by decide) ?_
  refine lv_irem hx hb dX6_put_23 (by decide) ?_
  obtain ⟨z_6, ez_6, hz_6⟩ := e_rem (x := z_5) (y := 10) rfl (show (10 : Int32).toInt = 10 by decide) (by omega) (by omega)
  refine q_c z_6 ez_6 ?_
  clear ez_6
  refine q_iast X hK h_3 1 rfl (i_in rfl (by omega) (by omega)) dX6_put_24 (fun H locs h_8 => ?_)
  clear h_3
  replace h_8 : qW D _ _ [(h0, .inr (6, [.ref h1, w0])), (h1, .inl (cy 1, 11, .inl (upd F_2 (Int32.toNatClampNeg z_4) z_6)))] _ _ := h_8
  obtain ⟨F_7, eF_7⟩ : ∃ z, (upd F_2 (Int32.toNatClampNeg z_4) z_6) = z := ⟨_, rfl⟩
  rw [eF_7] at h_8
  clear eF_7
  refine lv_aload_n hx hb dX6_put_25 rfl (lv_at hl 0 rfl) ?_
  refine q_get X hK h_8 0 rfl rfl wf_6 0 (by decide) rfl wm_1_184 dX6_put_26 ?_
  refine lv_iload_n hx hb dX6_put_29 rfl (lv_at hl 1 rfl) ?_
  refine lv_iconst (v := 2) hx hb dX6_put_30 (by decide) ?_
  refine lv_iadd hx hb dX6_put_31 ?_
  obtain ⟨z_9, ez_9, hz_9⟩ := e_add (x := p0) (y := 2) rfl (show (2 : Int32).toInt = 2 by decide) (by omega) (by omega)
  refine q_c z_9 ez_9 ?_
  clear ez_9
  refine lv_iload_n hx hb dX6_put_32 rfl (lv_at hl 2 rfl) ?_
  refine lv_bipush (v := 10) hx hb dX6_put_33 (by decide) ?_
  refine lv_irem hx hb dX6_put_35 (by decide) ?_
  obtain ⟨z_10, ez_10, hz_10⟩ := e_rem (x := p1) (y := 10) rfl (show (10 : Int32).toInt = 10 by decide) (by omega) (by omega)
  refine q_c z_10 ez_10 ?_
  clear ez_10
  refine q_iast X hK h_8 1 rfl (i_in rfl (by omega) (by omega)) dX6_put_36 (fun H locs h_12 => ?_)
  clear h_8
  replace h_12 : qW D _ _ [(h0, .inr (6, [.ref h1, w0])), (h1, .inl (cy 1, 11, .inl (upd F_7 (Int32.toNatClampNeg z_9) z_10)))] _ _ := h_12
  obtain ⟨F_11, eF_11⟩ : ∃ z, (upd F_7 (Int32.toNatClampNeg z_9) z_10) = z := ⟨_, rfl⟩
  rw [eF_11] at h_12
  clear eF_11
  refine lv_aload_n hx hb dX6_put_37 rfl (lv_at hl 0 rfl) ?_
  refine q_get X hK h_12 0 rfl rfl wf_6 0 (by decide) rfl wm_1_184 dX6_put_38 ?_
  refine lv_iload_n hx hb dX6_put_41 rfl (lv_at hl 1 rfl) ?_
  refine lv_iconst (v := 3) hx hb dX6_put_42 (by decide) ?_
  refine lv_iadd hx hb dX6_put_43 ?_
  obtain ⟨z_13, ez_13, hz_13⟩ := e_add (x := p0) (y := 3) rfl (show (3 : Int32).toInt = 3 by decide) (by omega) (by omega)
  refine q_c z_13 ez_13 ?_
  clear ez_13
  refine lv_iload_n hx hb dX6_put_44 rfl (lv_at hl 3 rfl) ?_
  refine q_iast X hK h_12 1 rfl (i_in rfl (by omega) (by omega)) dX6_put_45 (fun H locs h_15 => ?_)
  clear h_12
  replace h_15 : qW D _ _ [(h0, .inr (6, [.ref h1, w0])), (h1, .inl (cy 1, 11, .inl (upd F_11 (Int32.toNatClampNeg z_13) p2)))] _ _ := h_15
  obtain ⟨F_14, eF_14⟩ : ∃ z, (upd F_11 (Int32.toNatClampNeg z_13) p2) = z := ⟨_, rfl⟩
  rw [eF_14] at h_15
  clear eF_14
  exact q_vret X hr hlk hK h_15 (fun _ => 0, fun k => List.getD [F_14] k (fun _ => 0), fun _ _ => 0) trivial [0, 1] rfl rfl dX6_put_46 (Nat.le_of_ble_eq_true rfl) (Nat.le_of_ble_eq_true rfl)
set_option maxHeartbeats 4000000 in
set_option maxRecDepth 100000 in
theorem gX4_joined_11 (l : Launch) (D : va_G) (cy : Nat → ClassId) (p0 : Int32) (p1 : Int32) (p2 : Int32) (hp0 : 0 ≤ (p0).toInt ∧ (p0).toInt ≤ 62) (hp1 : (-2147483648) ≤ (p1).toInt ∧ (p1).toInt ≤ 2147483647) (hp2 : (-2147483648) ≤ (p2).toInt ∧ (p2).toInt ≤ 2147483647) (sz : Nat) : MI l yX4_joined cX4_joined 5 .int { frames := 1, cells := 0, slots := 0, locals := 17 } [.int p0, .int p1, .int p2] D cy [] sz (fun r u => ((-1000000) ≤ r.toInt ∧ r.toInt ≤ 1000000) ∧ True) (fun u => []) 0 0 := by
  refine q_ent (own := RX4) (by decide) rfl (Nat.le_of_ble_eq_true rfl) (fun p e s m below meth c ls X hr hlk hnm hK h hA hl => ?_)
  obtain ⟨hx, hb, hml, hown, ht⟩ := id X
  replace hl : lv_has ls 5 [(0, .int p0), (1, .int p1), (2, .int p2)] := hl
  refine lv_iload_n hx hb dX4_joined_0 rfl (lv_at hl 0 rfl) ?_
  refine q_jn (pc2 := 150) (fun H locs ls st => ∃ v150_1_0 : Int64, ((-9223372036854775808) ≤ (v150_1_0).toInt ∧ (v150_1_0).toInt ≤ 9223372036854775807) ∧ st = [] ∧ qW D (va_A [] sz) s.heap [] H locs ∧ lv_has ls 5 [(0, .int p0), (1, .int p1), (2, .int p2), (3, .long v150_1_0)]) (fun H locs ls st hP => ?_) (fun J_150 => ?_)
  · obtain ⟨v150_1_0, hv150_1_0, rfl, h, hl⟩ := hP
    refine lv_ldc2 hx hb hown (ht _ wm_3_215) dX4_joined_150 ?_
    refine lv_ldc2 hx hb hown (ht _ wm_3_216) dX4_joined_153 ?_
    refine lv_lload_n hx hb dX4_joined_156 rfl (lv_at hl 3 rfl) ?_
    refine va_mmin_long hx hb (hml.trans hl.1.symm) hown (ht _ wm_3_217) (ht _ wm_3_218) (ht _ wm_1_13) (ht _ wm_3_219) (Nat.le_of_ble_eq_true rfl) (Nat.le_of_ble_eq_true rfl) (Nat.le_of_ble_eq_true rfl) (Nat.le_of_ble_eq_true rfl) dX4_joined_157 ?_
    obtain ⟨z_2, ez_2, hz_2⟩ := e_minJ (x := 1000000) (y := v150_1_0) (show (1000000 : Int64).toInt = 1000000 by decide) rfl
    refine q_cl z_2 ez_2 ?_
    clear ez_2
    refine va_mmax_long hx hb (hml.trans hl.1.symm) hown (ht _ wm_3_220) (ht _ wm_3_221) (ht _ wm_1_13) (ht _ wm_3_222) (Nat.le_of_ble_eq_true rfl) (Nat.le_of_ble_eq_true rfl) (Nat.le_of_ble_eq_true rfl) (Nat.le_of_ble_eq_true rfl) dX4_joined_160 ?_
    obtain ⟨z_3, ez_3, hz_3⟩ := e_maxJ (x := (-1000000)) (y := z_2) (show ((-1000000) : Int64).toInt = -1000000 by decide) rfl
    refine q_cl z_3 ez_3 ?_
    clear ez_3
    refine lv_l2i hx hb dX4_joined_163 rfl ?_
    obtain ⟨z_4, ez_4, hz_4⟩ := e_l2i (x := z_3) rfl (by omega) (by omega)
    refine q_c z_4 ez_4 ?_
    clear ez_4
    exact q_iret X hr hlk hK h rfl (fun _ => 0, fun _ _ => 0, fun _ _ => 0) ⟨⟨by omega, by omega⟩, trivial⟩ [] rfl rfl dX4_joined_164 (Nat.le_of_ble_eq_true rfl) (Nat.le_of_ble_eq_true rfl)
  · skip
    by_cases c_5 : p0 = 22
    · have ec_5 : (p0).toInt = 22 := by rw [c_5]; decide
      refine lv_lookup (off := 136) (tgt := 137) hx hb dX4_joined_1 (by decide +kernel) (by rw [c_5]; decide +kernel) (by decide) ?_
      refine lv_iload_n hx hb dX4_joined_137 rfl (lv_at hl 1 rfl) ?_
      refine lv_iload_n hx hb dX4_joined_138 rfl (lv_at hl 2 rfl) ?_
      refine lv_iand hx hb dX4_joined_139 ?_
      refine q_any (fun z_6 hz_6 => ?_)
      refine lv_i2l hx hb dX4_joined_140 rfl ?_
      obtain ⟨z_7, ez_7, hz_7⟩ := e_i2l (x := z_6) rfl
      refine q_cl z_7 ez_7 ?_
      clear ez_7
      refine lv_lstore_n (lv' := [(3, .long z_7), (0, .int p0), (1, .int p1), (2, .int p2)]) hx hb dX4_joined_141 rfl hl (by decide) rfl (fun ls_8 hl_8 => ?_)
      clear hl
      refine lv_goto (tgt := 150) hx hb dX4_joined_142 (by decide) ?_
      exact J_150 _ _ _ _ ⟨z_7, ⟨by omega, by omega⟩, rfl, h, (lv_sub hl_8 [1, 2, 3, 0] rfl)⟩
    by_cases c_9 : p0 = 42
    · have ec_9 : (p0).toInt = 42 := by rw [c_9]; decide
      refine lv_lookup (off := 85) (tgt := 86) hx hb dX4_joined_1 (by decide +kernel) (by rw [c_9]; decide +kernel) (by decide) ?_
      refine lv_iload_n hx hb dX4_joined_86 rfl (lv_at hl 1 rfl) ?_
      refine lv_i2l hx hb dX4_joined_87 rfl ?_
      obtain ⟨z_10, ez_10, hz_10⟩ := e_i2l (x := p1) rfl
      refine q_cl z_10 ez_10 ?_
      clear ez_10
      refine lv_iload_n hx hb dX4_joined_88 rfl (lv_at hl 2 rfl) ?_
      refine lv_i2l hx hb dX4_joined_89 rfl ?_
      obtain ⟨z_11, ez_11, hz_11⟩ := e_i2l (x := p2) rfl
      refine q_cl z_11 ez_11 ?_
      clear ez_11
      refine lv_lmul hx hb dX4_joined_90 ?_
      refine q_anyJ (fun z_12 hz_12 => ?_)
      refine lv_lstore_n (lv' := [(3, .long z_12), (0, .int p0), (1, .int p1), (2, .int p2)]) hx hb dX4_joined_91 rfl hl (by decide) rfl (fun ls_13 hl_13 => ?_)
      clear hl
      refine lv_goto (tgt := 150) hx hb dX4_joined_92 (by decide) ?_
      exact J_150 _ _ _ _ ⟨z_12, ⟨by omega, by omega⟩, rfl, h, (lv_sub hl_13 [1, 2, 3, 0] rfl)⟩
    by_cases c_14 : p0 = 43
    · have ec_14 : (p0).toInt = 43 := by rw [c_14]; decide
      refine lv_lookup (off := 67) (tgt := 68) hx hb dX4_joined_1 (by decide +kernel) (by rw [c_14]; decide +kernel) (by decide) ?_
      refine lv_iload_n hx hb dX4_joined_68 rfl (lv_at hl 1 rfl) ?_
      refine lv_i2l hx hb dX4_joined_69 rfl ?_
      obtain ⟨z_15, ez_15, hz_15⟩ := e_i2l (x := p1) rfl
      refine q_cl z_15 ez_15 ?_
      clear ez_15
      refine lv_iload_n hx hb dX4_joined_70 rfl (lv_at hl 2 rfl) ?_
      refine lv_i2l hx hb dX4_joined_71 rfl ?_
      obtain ⟨z_16, ez_16, hz_16⟩ := e_i2l (x := p2) rfl
      refine q_cl z_16 ez_16 ?_
      clear ez_16
      refine lv_ladd hx hb dX4_joined_72 ?_
      refine q_anyJ (fun z_17 hz_17 => ?_)
      refine lv_lstore_n (lv' := [(3, .long z_17), (0, .int p0), (1, .int p1), (2, .int p2)]) hx hb dX4_joined_73 rfl hl (by decide) rfl (fun ls_18 hl_18 => ?_)
      clear hl
      refine lv_goto (tgt := 150) hx hb dX4_joined_74 (by decide) ?_
      exact J_150 _ _ _ _ ⟨z_17, ⟨by omega, by omega⟩, rfl, h, (lv_sub hl_18 [1, 2, 3, 0] rfl)⟩
    by_cases c_19 : p0 = 45
    · have ec_19 : (p0).toInt = 45 := by rw [c_19]; decide
      refine lv_lookup (off := 76) (tgt := 77) hx hb dX4_joined_1 (by decide +kernel) (by rw [c_19]; decide +kernel) (by decide) ?_
      refine lv_iload_n hx hb dX4_joined_77 rfl (lv_at hl 1 rfl) ?_
      refine lv_i2l hx hb dX4_joined_78 rfl ?_
      obtain ⟨z_20, ez_20, hz_20⟩ := e_i2l (x := p1) rfl
      refine q_cl z_20 ez_20 ?_
      clear ez_20
      refine lv_iload_n hx hb dX4_joined_79 rfl (lv_at hl 2 rfl) ?_
      refine lv_i2l hx hb dX4_joined_80 rfl ?_
      obtain ⟨z_21, ez_21, hz_21⟩ := e_i2l (x := p2) rfl
      refine q_cl z_21 ez_21 ?_
      clear ez_21
      refine lv_lsub hx hb dX4_joined_81 ?_
      refine q_anyJ (fun z_22 hz_22 => ?_)
      refine lv_lstore_n (lv' := [(3, .long z_22), (0, .int p0), (1, .int p1), (2, .int p2)]) hx hb dX4_joined_82 rfl hl (by decide) rfl (fun ls_23 hl_23 => ?_)
      clear hl
      refine lv_goto (tgt := 150) hx hb dX4_joined_83 (by decide) ?_
      exact J_150 _ _ _ _ ⟨z_22, ⟨by omega, by omega⟩, rfl, h, (lv_sub hl_23 [1, 2, 3, 0] rfl)⟩
    by_cases c_24 : p0 = 60
    · have ec_24 : (p0).toInt = 60 := by rw [c_24]; decide
      refine lv_lookup (off := 108) (tgt := 109) hx hb dX4_joined_1 (by decide +kernel) (by rw [c_24]; decide +kernel) (by decide) ?_
      refine lv_iload_n hx hb dX4_joined_109 rfl (lv_at hl 1 rfl) ?_
      refine lv_iload_n hx hb dX4_joined_110 rfl (lv_at hl 2 rfl) ?_
      refine q_jn (pc2 := 119) (fun H locs ls st => ∃ v119_25_0 : Int64, (0 ≤ (v119_25_0).toInt ∧ (v119_25_0).toInt ≤ 1) ∧ st = [.long v119_25_0] ∧ qW D (va_A [] sz) s.heap [] H locs ∧ lv_has ls 5 [(0, .int p0), (1, .int p1), (2, .int p2)]) (fun H locs ls st hP => ?_) (fun J_119 => ?_)
      · obtain ⟨v119_25_0, hv119_25_0, rfl, h, hl⟩ := hP
        refine lv_lstore_n (lv' := [(3, .long v119_25_0), (0, .int p0), (1, .int p1), (2, .int p2)]) hx hb dX4_joined_119 rfl hl (by decide) rfl (fun ls_26 hl_26 => ?_)
        clear hl
        refine lv_goto (tgt := 150) hx hb dX4_joined_120 (by decide) ?_
        exact J_150 _ _ _ _ ⟨v119_25_0, ⟨by omega, by omega⟩, rfl, h, (lv_sub hl_26 [1, 2, 3, 0] rfl)⟩
      · skip
        refine lv_icmp_ge (tgt := 118) hx hb dX4_joined_111 (by decide) (fun c_27 => ?_) (fun c_27 => ?_)
        · replace c_27 := i_le (x := p2) (y := p1) rfl rfl c_27
          refine lv_lconst (v := 0) hx hb dX4_joined_118 (by decide) ?_
          exact J_119 _ _ _ _ ⟨0, ⟨by decide +kernel, by decide +kernel⟩, rfl, h, (lv_sub hl [0, 1, 2] rfl)⟩
        · replace c_27 := i_nle (x := p2) (y := p1) rfl rfl c_27
          refine lv_lconst (v := 1) hx hb dX4_joined_114 (by decide) ?_
          refine lv_goto (tgt := 119) hx hb dX4_joined_115 (by decide) ?_
          exact J_119 _ _ _ _ ⟨1, ⟨by decide +kernel, by decide +kernel⟩, rfl, h, (lv_sub hl [0, 1, 2] rfl)⟩
    by_cases c_28 : p0 = 61
    · have ec_28 : (p0).toInt = 61 := by rw [c_28]; decide
      refine lv_lookup (off := 94) (tgt := 95) hx hb dX4_joined_1 (by decide +kernel) (by rw [c_28]; decide +kernel) (by decide) ?_
      refine lv_iload_n hx hb dX4_joined_95 rfl (lv_at hl 1 rfl) ?_
      refine lv_iload_n hx hb dX4_joined_96 rfl (lv_at hl 2 rfl) ?_
      refine q_jn (pc2 := 105) (fun H locs ls st => ∃ v105_29_0 : Int64, (0 ≤ (v105_29_0).toInt ∧ (v105_29_0).toInt ≤ 1) ∧ st = [.long v105_29_0] ∧ qW D (va_A [] sz) s.heap [] H locs ∧ lv_has ls 5 [(0, .int p0), (1, .int p1), (2, .int p2)]) (fun H locs ls st hP => ?_) (fun J_105 => ?_)
      · obtain ⟨v105_29_0, hv105_29_0, rfl, h, hl⟩ := hP
        refine lv_lstore_n (lv' := [(3, .long v105_29_0), (0, .int p0), (1, .int p1), (2, .int p2)]) hx hb dX4_joined_105 rfl hl (by decide) rfl (fun ls_30 hl_30 => ?_)
        clear hl
        refine lv_goto (tgt := 150) hx hb dX4_joined_106 (by decide) ?_
        exact J_150 _ _ _ _ ⟨v105_29_0, ⟨by omega, by omega⟩, rfl, h, (lv_sub hl_30 [1, 2, 3, 0] rfl)⟩
      · skip
        refine lv_icmp_ne (tgt := 104) hx hb dX4_joined_97 (by decide) (fun c_31 => ?_) (fun c_31 => ?_)
        · replace c_31 := i_ne (x := p1) (y := p2) rfl rfl c_31
          refine lv_lconst (v := 0) hx hb dX4_joined_104 (by decide) ?_
          exact J_105 _ _ _ _ ⟨0, ⟨by decide +kernel, by decide +kernel⟩, rfl, h, (lv_sub hl [0, 1, 2] rfl)⟩
        · replace c_31 := i_eq (x := p1) (y := p2) rfl rfl c_31
          refine lv_lconst (v := 1) hx hb dX4_joined_100 (by decide) ?_
          refine lv_goto (tgt := 105) hx hb dX4_joined_101 (by decide) ?_
          exact J_105 _ _ _ _ ⟨1, ⟨by decide +kernel, by decide +kernel⟩, rfl, h, (lv_sub hl [0, 1, 2] rfl)⟩
    by_cases c_32 : p0 = 62
    · have ec_32 : (p0).toInt = 62 := by rw [c_32]; decide
      refine lv_lookup (off := 122) (tgt := 123) hx hb dX4_joined_1 (by decide +kernel) (by rw [c_32]; decide +kernel) (by decide) ?_
      refine lv_iload_n hx hb dX4_joined_123 rfl (lv_at hl 1 rfl) ?_
      refine lv_iload_n hx hb dX4_joined_124 rfl (lv_at hl 2 rfl) ?_
      refine q_jn (pc2 := 133) (fun H locs ls st => ∃ v133_33_0 : Int64, (0 ≤ (v133_33_0).toInt ∧ (v133_33_0).toInt ≤ 1) ∧ st = [.long v133_33_0] ∧ qW D (va_A [] sz) s.heap [] H locs ∧ lv_has ls 5 [(0, .int p0), (1, .int p1), (2, .int p2)]) (fun H locs ls st hP => ?_) (fun J_133 => ?_)
      · obtain ⟨v133_33_0, hv133_33_0, rfl, h, hl⟩ := hP
        refine lv_lstore_n (lv' := [(3, .long v133_33_0), (0, .int p0), (1, .int p1), (2, .int p2)]) hx hb dX4_joined_133 rfl hl (by decide) rfl (fun ls_34 hl_34 => ?_)
        clear hl
        refine lv_goto (tgt := 150) hx hb dX4_joined_134 (by decide) ?_
        exact J_150 _ _ _ _ ⟨v133_33_0, ⟨by omega, by omega⟩, rfl, h, (lv_sub hl_34 [1, 2, 3, 0] rfl)⟩
      · skip
        refine lv_icmp_le (tgt := 132) hx hb dX4_joined_125 (by decide) (fun c_35 => ?_) (fun c_35 => ?_)
        · replace c_35 := i_le (x := p1) (y := p2) rfl rfl c_35
          refine lv_lconst (v := 0) hx hb dX4_joined_132 (by decide) ?_
          exact J_133 _ _ _ _ ⟨0, ⟨by decide +kernel, by decide +kernel⟩, rfl, h, (lv_sub hl [0, 1, 2] rfl)⟩
        · replace c_35 := i_nle (x := p1) (y := p2) rfl rfl c_35
          refine lv_lconst (v := 1) hx hb dX4_joined_128 (by decide) ?_
          refine lv_goto (tgt := 133) hx hb dX4_joined_129 (by decide) ?_
          exact J_133 _ _ _ _ ⟨1, ⟨by decide +kernel, by decide +kernel⟩, rfl, h, (lv_sub hl [0, 1, 2] rfl)⟩
    have nc_5 := lv_neT c_5 (show (22 : Int32).toInt = 22 by decide)
    have nc_9 := lv_neT c_9 (show (42 : Int32).toInt = 42 by decide)
    have nc_14 := lv_neT c_14 (show (43 : Int32).toInt = 43 by decide)
    have nc_19 := lv_neT c_19 (show (45 : Int32).toInt = 45 by decide)
    have nc_24 := lv_neT c_24 (show (60 : Int32).toInt = 60 by decide)
    have nc_28 := lv_neT c_28 (show (61 : Int32).toInt = 61 by decide)
    have nc_32 := lv_neT c_32 (show (62 : Int32).toInt = 62 by decide)
    refine lv_lookup (off := 144) (tgt := 145) hx hb dX4_joined_1 (by decide +kernel) ((lv_osw c_5 (by decide)).trans ((lv_osw c_9 (by decide)).trans ((lv_osw c_14 (by decide)).trans ((lv_osw c_19 (by decide)).trans ((lv_osw c_24 (by decide)).trans ((lv_osw c_28 (by decide)).trans ((lv_osw c_32 (by decide)).trans rfl))))))) (by decide) ?_
    refine lv_iload_n hx hb dX4_joined_145 rfl (lv_at hl 1 rfl) ?_
    refine lv_iload_n hx hb dX4_joined_146 rfl (lv_at hl 2 rfl) ?_
    refine lv_ior hx hb dX4_joined_147 ?_
    refine q_any (fun z_36 hz_36 => ?_)
    refine lv_i2l hx hb dX4_joined_148 rfl ?_
    obtain ⟨z_37, ez_37, hz_37⟩ := e_i2l (x := z_36) rfl
    refine q_cl z_37 ez_37 ?_
    clear ez_37
    refine lv_lstore_n (lv' := [(3, .long z_37), (0, .int p0), (1, .int p1), (2, .int p2)]) hx hb dX4_joined_149 rfl hl (by decide) rfl (fun ls_38 hl_38 => ?_)
    clear hl
    exact J_150 _ _ _ _ ⟨z_37, ⟨by omega, by omega⟩, rfl, h, (lv_sub hl_38 [1, 2, 3, 0] rfl)⟩
set_option maxHeartbeats 4000000 in
set_option maxRecDepth 100000 in
theorem gX4_valueFor_12 (l : Launch) (D : va_G) (cy : Nat → ClassId) (h0 : Nat) (h1 : Nat) (h2 : Nat) (h3 : Nat) (f0 : Nat → Int32) (f1 : Nat → Int32) (f2 : Nat → Int32) (rf0 : RG f0 300 0 2062) (sz : Nat) : MI l yX4_valueFor cX4_valueFor 7 .int { frames := 2, cells := 0, slots := 0, locals := 41 } [.ref h0, .ref h3, .ref h2] D cy [(h0, .inr (4, [.ref h1])), (h1, .inl (cy 1, 300, .inl f0)), (h2, .inl (cy 1, 64, .inl f1)), (h3, .inl (cy 1, 11, .inl f2))] sz (fun r u => ((-2147483648) ≤ r.toInt ∧ r.toInt ≤ 2147483647) ∧ True) (fun u => [(h0, .inr (4, [.ref h1])), (h1, .inl (cy 1, 300, .inl f0)), (h2, .inl (cy 1, 64, .inl (u.2.1 0))), (h3, .inl (cy 1, 11, .inl f2))]) 0 0 := by
  refine q_ent (own := RX4) (by decide) rfl (Nat.le_of_ble_eq_true rfl) (fun p e s m below meth c ls X hr hlk hnm hK h hA hl => ?_)
  obtain ⟨hx, hb, hml, hown, ht⟩ := id X
  replace hl : lv_has ls 7 [(0, .ref h0), (1, .ref h3), (2, .ref h2)] := hl
  refine lv_iconst (v := 0) hx hb dX4_valueFor_0 (by decide) ?_
  refine lv_istore_n (lv' := [(3, .int 0), (0, .ref h0), (1, .ref h3), (2, .ref h2)]) hx hb dX4_valueFor_1 rfl hl (by decide) rfl (fun ls_1 hl_1 => ?_)
  clear hl
  refine lv_iconst (v := 0) hx hb dX4_valueFor_2 (by decide) ?_
  refine lv_istore (lv' := [(4, .int 0), (3, .int 0), (0, .ref h0), (1, .ref h3), (2, .ref h2)]) hx hb dX4_valueFor_3 hl_1 (by decide) rfl (fun ls_2 hl_2 => ?_)
  clear hl_1
  refine q_wl (fun (q : Int32 × Int32) H locs ls => match q with | (v5_3_0, v5_3_1) => ∃ v5_3_2 : Nat → Int32, (0 ≤ (v5_3_0).toInt ∧ (v5_3_0).toInt ≤ 900) ∧ (0 ≤ (v5_3_1).toInt ∧ (v5_3_1).toInt ≤ 64) ∧ qW D (va_A [(h0, .inr (4, [.ref h1])), (h1, .inl (cy 1, 300, .inl f0)), (h2, .inl (cy 1, 64, .inl f1)), (h3, .inl (cy 1, 11, .inl f2))] sz) s.heap [(h0, .inr (4, [.ref h1])), (h1, .inl (cy 1, 300, .inl f0)), (h2, .inl (cy 1, 64, .inl v5_3_2)), (h3, .inl (cy 1, 11, .inl f2))] H locs ∧ lv_has ls 7 [(0, .ref h0), (1, .ref h3), (2, .ref h2), (3, .int v5_3_1), (4, .int v5_3_0)]) (fun (q : Int32 × Int32) => match q with | (v5_3_0, v5_3_1) => (901 - (v5_3_0).toInt).toNat) (fun q_5 ih_5 H locs ls hP => ?_) (0, 0) ⟨f1, ⟨by decide +kernel, by decide +kernel⟩, ⟨by decide +kernel, by decide +kernel⟩, h, (lv_sub hl_2 [2, 3, 4, 1, 0] rfl)⟩
  obtain ⟨v5_3_0, v5_3_1⟩ := q_5
  obtain ⟨v5_3_2, hv5_3_0, hv5_3_1, h, hl⟩ := hP
  refine lv_iload hx hb dX4_valueFor_5 (lv_at hl 4 rfl) ?_
  refine lv_aload_n hx hb dX4_valueFor_7 rfl (lv_at hl 0 rfl) ?_
  refine q_get X hK h 0 rfl rfl wf_4 0 (by decide) rfl wm_3_153 dX4_valueFor_8 ?_
  refine q_alen X hK h 1 1 rfl rfl 300 (show Int32.ofNat 300 = 300 by decide) dX4_valueFor_11 ?_
  refine lv_icmp_ge (tgt := 139) hx hb dX4_valueFor_12 (by decide) (fun c_4 => ?_) (fun c_4 => ?_)
  · replace c_4 := i_le (x := 300) (y := v5_3_0) (show (300 : Int32).toInt = 300 by decide) rfl c_4
    refine lv_iload_n hx hb dX4_valueFor_139 rfl (lv_at hl 3 rfl) ?_
    refine q_jn (pc2 := 150) (fun H locs ls st => ∃ v150_5_0 : Int32, ((-2147483648) ≤ (v150_5_0).toInt ∧ (v150_5_0).toInt ≤ 2147483647) ∧ st = [.int v150_5_0] ∧ qW D (va_A [(h0, .inr (4, [.ref h1])), (h1, .inl (cy 1, 300, .inl f0)), (h2, .inl (cy 1, 64, .inl f1)), (h3, .inl (cy 1, 11, .inl f2))] sz) s.heap [(h0, .inr (4, [.ref h1])), (h1, .inl (cy 1, 300, .inl f0)), (h2, .inl (cy 1, 64, .inl v5_3_2)), (h3, .inl (cy 1, 11, .inl f2))] H locs ∧ lv_has ls 7 [(0, .ref h0), (1, .ref h3), (2, .ref h2), (3, .int v5_3_1), (4, .int v5_3_0)]) (fun H locs ls st hP => ?_) (fun J_150 => ?_)
    · obtain ⟨v150_5_0, hv150_5_0, rfl, h, hl⟩ := hP
      exact q_iret X hr hlk hK h rfl (fun _ => 0, fun k => List.getD [v5_3_2] k (fun _ => 0), fun _ _ => 0) ⟨⟨by omega, by omega⟩, trivial⟩ [0, 1, 2, 3] rfl rfl dX4_valueFor_150 (Nat.le_of_ble_eq_true rfl) (Nat.le_of_ble_eq_true rfl)
    · skip
      refine lv_if_le (tgt := 149) hx hb dX4_valueFor_140 (by decide) (fun c_6 => ?_) (fun c_6 => ?_)
      · replace c_6 := i_le (x := v5_3_1) (y := 0) rfl (show (0 : Int32).toInt = 0 by decide) c_6
        refine lv_iconst (v := 0) hx hb dX4_valueFor_149 (by decide) ?_
        exact J_150 _ _ _ _ ⟨0, ⟨by decide +kernel, by decide +kernel⟩, rfl, h, (lv_sub hl [0, 1, 2, 3, 4] rfl)⟩
      · replace c_6 := i_nle (x := v5_3_1) (y := 0) rfl (show (0 : Int32).toInt = 0 by decide) c_6
        refine lv_aload_n hx hb dX4_valueFor_143 rfl (lv_at hl 2 rfl) ?_
        refine lv_iconst (v := 0) hx hb dX4_valueFor_144 (by decide) ?_
        refine q_iald X hK h 2 rfl (q_in (by decide +kernel)) dX4_valueFor_145 ?_
        refine q_any (fun z_7 hz_7 => ?_)
        refine lv_goto (tgt := 150) hx hb dX4_valueFor_146 (by decide) ?_
        exact J_150 _ _ _ _ ⟨z_7, ⟨by omega, by omega⟩, rfl, h, (lv_sub hl [0, 1, 2, 3, 4] rfl)⟩
  · replace c_4 := i_nle (x := 300) (y := v5_3_0) (show (300 : Int32).toInt = 300 by decide) rfl c_4
    refine lv_aload_n hx hb dX4_valueFor_15 rfl (lv_at hl 0 rfl) ?_
    refine q_get X hK h 0 rfl rfl wf_4 0 (by decide) rfl wm_3_153 dX4_valueFor_16 ?_
    refine lv_iload hx hb dX4_valueFor_19 (lv_at hl 4 rfl) ?_
    refine q_iald X hK h 1 rfl (i_in rfl (by omega) (by omega)) dX4_valueFor_21 ?_
    obtain ⟨z_8, ez_8, hz_8⟩ := rg_get rf0 (x := v5_3_0) rfl (by omega) (by omega)
    refine q_c z_8 ez_8 ?_
    clear ez_8
    refine lv_istore (lv' := [(5, .int z_8), (0, .ref h0), (1, .ref h3), (2, .ref h2), (3, .int v5_3_1), (4, .int v5_3_0)]) hx hb dX4_valueFor_22 hl (by decide) rfl (fun ls_9 hl_9 => ?_)
    clear hl
    refine lv_iload hx hb dX4_valueFor_24 (lv_at hl_9 0 rfl) ?_
    refine lv_sipush (v := 2000) hx hb dX4_valueFor_26 (by decide) ?_
    refine q_jn (pc2 := 133) (fun H locs ls st => ∃ v133_10_0 : Int32, ∃ v133_10_1 : Nat → Int32, (0 ≤ (v133_10_0).toInt ∧ (v133_10_0).toInt ≤ 64) ∧ st = [] ∧ qW D (va_A [(h0, .inr (4, [.ref h1])), (h1, .inl (cy 1, 300, .inl f0)), (h2, .inl (cy 1, 64, .inl f1)), (h3, .inl (cy 1, 11, .inl f2))] sz) s.heap [(h0, .inr (4, [.ref h1])), (h1, .inl (cy 1, 300, .inl f0)), (h2, .inl (cy 1, 64, .inl v133_10_1)), (h3, .inl (cy 1, 11, .inl f2))] H locs ∧ lv_has ls 7 [(0, .ref h0), (1, .ref h3), (2, .ref h2), (3, .int v133_10_0), (4, .int v5_3_0), (5, .int z_8)]) (fun H locs ls st hP => ?_) (fun J_133 => ?_)
    · obtain ⟨v133_10_0, v133_10_1, hv133_10_0, rfl, h, hl⟩ := hP
      obtain ⟨z_11, ez_11, hz_11⟩ := e_add (x := v5_3_0) (y := Int32.ofInt 1) rfl (b := 1) (by decide) (by omega) (by omega)
      refine lv_iinc (v := z_11) (lv' := [(4, .int z_11), (0, .ref h0), (1, .ref h3), (2, .ref h2), (3, .int v133_10_0), (5, .int z_8)]) hx hb dX4_valueFor_133 hl (k := 4) rfl ez_11 (by decide) rfl (fun ls_11 hl_11 => ?_)
      clear hl
      refine lv_goto (tgt := 5) hx hb dX4_valueFor_136 (by decide) ?_
      exact ih_5 (z_11, v133_10_0) (by show (901 - (z_11).toInt).toNat < (901 - (v5_3_0).toInt).toNat; omega) _ _ _ ⟨v133_10_1, ⟨by omega, by omega⟩, ⟨by omega, by omega⟩, h, (lv_sub hl_11 [1, 2, 3, 4, 0] rfl)⟩
    · skip
      refine lv_icmp_ge (tgt := 76) hx hb dX4_valueFor_29 (by decide) (fun c_12 => ?_) (fun c_12 => ?_)
      · replace c_12 := i_le (x := 2000) (y := z_8) (show (2000 : Int32).toInt = 2000 by decide) rfl c_12
        refine lv_iload hx hb dX4_valueFor_76 (lv_at hl_9 0 rfl) ?_
        refine lv_sipush (v := 2023) hx hb dX4_valueFor_78 (by decide) ?_
        refine lv_icmp_ne (tgt := 103) hx hb dX4_valueFor_81 (by decide) (fun c_13 => ?_) (fun c_13 => ?_)
        · replace c_13 := i_ne (x := z_8) (y := 2023) rfl (show (2023 : Int32).toInt = 2023 by decide) c_13
          refine lv_iload_n hx hb dX4_valueFor_103 rfl (lv_at hl_9 4 rfl) ?_
          refine lv_iconst (v := 1) hx hb dX4_valueFor_104 (by decide) ?_
          refine lv_icmp_le (tgt := 133) hx hb dX4_valueFor_105 (by decide) (fun c_14 => ?_) (fun c_14 => ?_)
          · replace c_14 := i_le (x := v5_3_1) (y := 1) rfl (show (1 : Int32).toInt = 1 by decide) c_14
            exact J_133 _ _ _ _ ⟨v5_3_1, v5_3_2, ⟨by omega, by omega⟩, rfl, h, (lv_sub hl_9 [1, 2, 3, 4, 5, 0] rfl)⟩
          · replace c_14 := i_nle (x := v5_3_1) (y := 1) rfl (show (1 : Int32).toInt = 1 by decide) c_14
            obtain ⟨z_15, ez_15, hz_15⟩ := e_add (x := v5_3_1) (y := Int32.ofInt (-1)) rfl (b := (-1)) (by decide) (by omega) (by omega)
            refine lv_iinc (v := z_15) (lv' := [(3, .int z_15), (5, .int z_8), (0, .ref h0), (1, .ref h3), (2, .ref h2), (4, .int v5_3_0)]) hx hb dX4_valueFor_108 hl_9 (k := 4) rfl ez_15 (by decide) rfl (fun ls_15 hl_15 => ?_)
            clear hl_9
            refine lv_aload_n hx hb dX4_valueFor_111 rfl (lv_at hl_15 4 rfl) ?_
            refine lv_iload_n hx hb dX4_valueFor_112 rfl (lv_at hl_15 0 rfl) ?_
            refine lv_iconst (v := 1) hx hb dX4_valueFor_113 (by decide) ?_
            refine lv_isub hx hb dX4_valueFor_114 ?_
            obtain ⟨z_16, ez_16, hz_16⟩ := e_sub (x := z_15) (y := 1) rfl (show (1 : Int32).toInt = 1 by decide) (by omega) (by omega)
            refine q_c z_16 ez_16 ?_
            clear ez_16
            refine lv_iload hx hb dX4_valueFor_115 (lv_at hl_15 1 rfl) ?_
            refine lv_sipush (v := 2000) hx hb dX4_valueFor_117 (by decide) ?_
            refine lv_isub hx hb dX4_valueFor_120 ?_
            obtain ⟨z_17, ez_17, hz_17⟩ := e_sub (x := z_8) (y := 2000) rfl (show (2000 : Int32).toInt = 2000 by decide) (by omega) (by omega)
            refine q_c z_17 ez_17 ?_
            clear ez_17
            refine lv_aload_n hx hb dX4_valueFor_121 rfl (lv_at hl_15 4 rfl) ?_
            refine lv_iload_n hx hb dX4_valueFor_122 rfl (lv_at hl_15 0 rfl) ?_
            refine lv_iconst (v := 1) hx hb dX4_valueFor_123 (by decide) ?_
            refine lv_isub hx hb dX4_valueFor_124 ?_
            obtain ⟨z_18, ez_18, hz_18⟩ := e_sub (x := z_15) (y := 1) rfl (show (1 : Int32).toInt = 1 by decide) (by omega) (by omega)
            refine q_c z_18 ez_18 ?_
            clear ez_18
            refine q_iald X hK h 2 rfl (i_in rfl (by omega) (by omega)) dX4_valueFor_125 ?_
            refine q_any (fun z_19 hz_19 => ?_)
            refine lv_aload_n hx hb dX4_valueFor_126 rfl (lv_at hl_15 4 rfl) ?_
            refine lv_iload_n hx hb dX4_valueFor_127 rfl (lv_at hl_15 0 rfl) ?_
            refine q_iald X hK h 2 rfl (i_in rfl (by omega) (by omega)) dX4_valueFor_128 ?_
            refine q_any (fun z_20 hz_20 => ?_)
            refine q_callSi (rest := [.int z_16, .ref h2]) (wr := [(h0, .inr (4, [.ref h1])), (h1, .inl (cy 1, 300, .inl f0)), (h2, .inl (cy 1, 64, .inl v5_3_2)), (h3, .inl (cy 1, 11, .inl f2))]) X hK hA h (fun sz => gX4_joined_11 l D cy z_17 z_19 z_20 ⟨by omega, by omega⟩ ⟨by omega, by omega⟩ ⟨by omega, by omega⟩ sz) wm_3_212 wm_3_214 wm_1_19 hd_X4_joined wm_3_213 ⟨Nat.le_of_ble_eq_true rfl, Nat.le_of_ble_eq_true rfl⟩ hl_15.1 rfl (Nat.le_of_ble_eq_true rfl) dX4_valueFor_129 ⟨Nat.le_of_ble_eq_true rfl, Nat.le_of_ble_eq_true rfl⟩ [] [0, 1, 2, 3] rfl rfl (by decide) rfl rfl (fun r_21 u_21 H locs w_21 h_21 => ?_)
            clear h
            obtain ⟨wr_21, _⟩ := w_21
            replace h_21 : qW D _ _ [(h0, .inr (4, [.ref h1])), (h1, .inl (cy 1, 300, .inl f0)), (h2, .inl (cy 1, 64, .inl v5_3_2)), (h3, .inl (cy 1, 11, .inl f2))] _ _ := h_21
            refine q_iast X hK h_21 2 rfl (i_in rfl (by omega) (by omega)) dX4_valueFor_132 (fun H locs h_23 => ?_)
            clear h_21
            replace h_23 : qW D _ _ [(h0, .inr (4, [.ref h1])), (h1, .inl (cy 1, 300, .inl f0)), (h2, .inl (cy 1, 64, .inl (upd v5_3_2 (Int32.toNatClampNeg z_16) r_21))), (h3, .inl (cy 1, 11, .inl f2))] _ _ := h_23
            obtain ⟨F_22, eF_22⟩ : ∃ z, (upd v5_3_2 (Int32.toNatClampNeg z_16) r_21) = z := ⟨_, rfl⟩
            rw [eF_22] at h_23
            clear eF_22
            exact J_133 _ _ _ _ ⟨z_15, F_22, ⟨by omega, by omega⟩, rfl, h_23, (lv_sub hl_15 [2, 3, 4, 0, 5, 1] rfl)⟩
        · replace c_13 := i_eq (x := z_8) (y := 2023) rfl (show (2023 : Int32).toInt = 2023 by decide) c_13
          refine lv_iload_n hx hb dX4_valueFor_84 rfl (lv_at hl_9 4 rfl) ?_
          refine lv_if_le (tgt := 133) hx hb dX4_valueFor_85 (by decide) (fun c_24 => ?_) (fun c_24 => ?_)
          · replace c_24 := i_le (x := v5_3_1) (y := 0) rfl (show (0 : Int32).toInt = 0 by decide) c_24
            exact J_133 _ _ _ _ ⟨v5_3_1, v5_3_2, ⟨by omega, by omega⟩, rfl, h, (lv_sub hl_9 [1, 2, 3, 4, 5, 0] rfl)⟩
          · replace c_24 := i_nle (x := v5_3_1) (y := 0) rfl (show (0 : Int32).toInt = 0 by decide) c_24
            refine lv_aload_n hx hb dX4_valueFor_88 rfl (lv_at hl_9 3 rfl) ?_
            refine lv_iload_n hx hb dX4_valueFor_89 rfl (lv_at hl_9 4 rfl) ?_
            refine lv_iconst (v := 1) hx hb dX4_valueFor_90 (by decide) ?_
            refine lv_isub hx hb dX4_valueFor_91 ?_
            obtain ⟨z_25, ez_25, hz_25⟩ := e_sub (x := v5_3_1) (y := 1) rfl (show (1 : Int32).toInt = 1 by decide) (by omega) (by omega)
            refine q_c z_25 ez_25 ?_
            clear ez_25
            refine lv_iconst (v := 1) hx hb dX4_valueFor_92 (by decide) ?_
            refine lv_aload_n hx hb dX4_valueFor_93 rfl (lv_at hl_9 3 rfl) ?_
            refine lv_iload_n hx hb dX4_valueFor_94 rfl (lv_at hl_9 4 rfl) ?_
            refine lv_iconst (v := 1) hx hb dX4_valueFor_95 (by decide) ?_
            refine lv_isub hx hb dX4_valueFor_96 ?_
            obtain ⟨z_26, ez_26, hz_26⟩ := e_sub (x := v5_3_1) (y := 1) rfl (show (1 : Int32).toInt = 1 by decide) (by omega) (by omega)
            refine q_c z_26 ez_26 ?_
            clear ez_26
            refine q_iald X hK h 2 rfl (i_in rfl (by omega) (by omega)) dX4_valueFor_97 ?_
            refine q_any (fun z_27 hz_27 => ?_)
            refine lv_isub hx hb dX4_valueFor_98 ?_
            refine q_any (fun z_28 hz_28 => ?_)
            refine q_iast X hK h 2 rfl (i_in rfl (by omega) (by omega)) dX4_valueFor_99 (fun H locs h_30 => ?_)
            clear h
            replace h_30 : qW D _ _ [(h0, .inr (4, [.ref h1])), (h1, .inl (cy 1, 300, .inl f0)), (h2, .inl (cy 1, 64, .inl (upd v5_3_2 (Int32.toNatClampNeg z_25) z_28))), (h3, .inl (cy 1, 11, .inl f2))] _ _ := h_30
            obtain ⟨F_29, eF_29⟩ : ∃ z, (upd v5_3_2 (Int32.toNatClampNeg z_25) z_28) = z := ⟨_, rfl⟩
            rw [eF_29] at h_30
            clear eF_29
            refine lv_goto (tgt := 133) hx hb dX4_valueFor_100 (by decide) ?_
            exact J_133 _ _ _ _ ⟨v5_3_1, F_29, ⟨by omega, by omega⟩, rfl, h_30, (lv_sub hl_9 [1, 2, 3, 4, 5, 0] rfl)⟩
      · replace c_12 := i_nle (x := 2000) (y := z_8) (show (2000 : Int32).toInt = 2000 by decide) rfl c_12
        refine lv_iload hx hb dX4_valueFor_32 (lv_at hl_9 0 rfl) ?_
        refine lv_sipush (v := 1000) hx hb dX4_valueFor_34 (by decide) ?_
        refine lv_isub hx hb dX4_valueFor_37 ?_
        obtain ⟨z_31, ez_31, hz_31⟩ := e_sub (x := z_8) (y := 1000) rfl (show (1000 : Int32).toInt = 1000 by decide) (by omega) (by omega)
        refine q_c z_31 ez_31 ?_
        clear ez_31
        refine lv_istore (lv' := [(6, .int z_31), (5, .int z_8), (0, .ref h0), (1, .ref h3), (2, .ref h2), (3, .int v5_3_1), (4, .int v5_3_0)]) hx hb dX4_valueFor_38 hl_9 (by decide) rfl (fun ls_32 hl_32 => ?_)
        clear hl_9
        refine lv_iload_n hx hb dX4_valueFor_40 rfl (lv_at hl_32 5 rfl) ?_
        refine lv_aload_n hx hb dX4_valueFor_41 rfl (lv_at hl_32 4 rfl) ?_
        refine q_alen X hK h 2 1 rfl rfl 64 (show Int32.ofNat 64 = 64 by decide) dX4_valueFor_42 ?_
        refine q_jn (pc2 := 73) (fun H locs ls st => ∃ v73_33_0 : Int32, ∃ v73_33_1 : Nat → Int32, (0 ≤ (v73_33_0).toInt ∧ (v73_33_0).toInt ≤ 64) ∧ st = [] ∧ qW D (va_A [(h0, .inr (4, [.ref h1])), (h1, .inl (cy 1, 300, .inl f0)), (h2, .inl (cy 1, 64, .inl f1)), (h3, .inl (cy 1, 11, .inl f2))] sz) s.heap [(h0, .inr (4, [.ref h1])), (h1, .inl (cy 1, 300, .inl f0)), (h2, .inl (cy 1, 64, .inl v73_33_1)), (h3, .inl (cy 1, 11, .inl f2))] H locs ∧ lv_has ls 7 [(0, .ref h0), (1, .ref h3), (2, .ref h2), (3, .int v73_33_0), (4, .int v5_3_0), (5, .int z_8), (6, .int z_31)]) (fun H locs ls st hP => ?_) (fun J_73 => ?_)
        · obtain ⟨v73_33_0, v73_33_1, hv73_33_0, rfl, h, hl⟩ := hP
          refine lv_goto (tgt := 133) hx hb dX4_valueFor_73 (by decide) ?_
          exact J_133 _ _ _ _ ⟨v73_33_0, v73_33_1, ⟨by omega, by omega⟩, rfl, h, (lv_sub hl [0, 1, 2, 3, 4, 5] rfl)⟩
        · skip
          refine lv_icmp_ge (tgt := 73) hx hb dX4_valueFor_43 (by decide) (fun c_34 => ?_) (fun c_34 => ?_)
          · replace c_34 := i_le (x := 64) (y := v5_3_1) (show (64 : Int32).toInt = 64 by decide) rfl c_34
            exact J_73 _ _ _ _ ⟨v5_3_1, v5_3_2, ⟨by omega, by omega⟩, rfl, h, (lv_sub hl_32 [2, 3, 4, 5, 6, 1, 0] rfl)⟩
          · replace c_34 := i_nle (x := 64) (y := v5_3_1) (show (64 : Int32).toInt = 64 by decide) rfl c_34
            refine lv_iload hx hb dX4_valueFor_46 (lv_at hl_32 0 rfl) ?_
            refine lv_aload_n hx hb dX4_valueFor_48 rfl (lv_at hl_32 3 rfl) ?_
            refine q_alen X hK h 3 1 rfl rfl 11 (show Int32.ofNat 11 = 11 by decide) dX4_valueFor_49 ?_
            refine lv_icmp_ge (tgt := 73) hx hb dX4_valueFor_50 (by decide) (fun c_35 => ?_) (fun c_35 => ?_)
            · replace c_35 := i_le (x := 11) (y := z_31) (show (11 : Int32).toInt = 11 by decide) rfl c_35
              exact J_73 _ _ _ _ ⟨v5_3_1, v5_3_2, ⟨by omega, by omega⟩, rfl, h, (lv_sub hl_32 [2, 3, 4, 5, 6, 1, 0] rfl)⟩
            · replace c_35 := i_nle (x := 11) (y := z_31) (show (11 : Int32).toInt = 11 by decide) rfl c_35
              refine lv_aload_n hx hb dX4_valueFor_53 rfl (lv_at hl_32 4 rfl) ?_
              refine lv_iload_n hx hb dX4_valueFor_54 rfl (lv_at hl_32 5 rfl) ?_
              refine lv_iload hx hb dX4_valueFor_55 (lv_at hl_32 0 rfl) ?_
              refine q_jn (pc2 := 69) (fun H locs ls st => ∃ v69_36_0 : Int32, ((-2147483648) ≤ (v69_36_0).toInt ∧ (v69_36_0).toInt ≤ 2147483647) ∧ st = [.int v69_36_0, .int v5_3_1, .ref h2] ∧ qW D (va_A [(h0, .inr (4, [.ref h1])), (h1, .inl (cy 1, 300, .inl f0)), (h2, .inl (cy 1, 64, .inl f1)), (h3, .inl (cy 1, 11, .inl f2))] sz) s.heap [(h0, .inr (4, [.ref h1])), (h1, .inl (cy 1, 300, .inl f0)), (h2, .inl (cy 1, 64, .inl v5_3_2)), (h3, .inl (cy 1, 11, .inl f2))] H locs ∧ lv_has ls 7 [(0, .ref h0), (1, .ref h3), (2, .ref h2), (3, .int v5_3_1), (4, .int v5_3_0), (5, .int z_8), (6, .int z_31)]) (fun H locs ls st hP => ?_) (fun J_69 => ?_)
              · obtain ⟨v69_36_0, hv69_36_0, rfl, h, hl⟩ := hP
                refine q_iast X hK h 2 rfl (i_in rfl (by omega) (by omega)) dX4_valueFor_69 (fun H locs h_38 => ?_)
                clear h
                replace h_38 : qW D _ _ [(h0, .inr (4, [.ref h1])), (h1, .inl (cy 1, 300, .inl f0)), (h2, .inl (cy 1, 64, .inl (upd v5_3_2 (Int32.toNatClampNeg v5_3_1) v69_36_0))), (h3, .inl (cy 1, 11, .inl f2))] _ _ := h_38
                obtain ⟨F_37, eF_37⟩ : ∃ z, (upd v5_3_2 (Int32.toNatClampNeg v5_3_1) v69_36_0) = z := ⟨_, rfl⟩
                rw [eF_37] at h_38
                clear eF_37
                obtain ⟨z_39, ez_39, hz_39⟩ := e_add (x := v5_3_1) (y := Int32.ofInt 1) rfl (b := 1) (by decide) (by omega) (by omega)
                refine lv_iinc (v := z_39) (lv' := [(3, .int z_39), (0, .ref h0), (1, .ref h3), (2, .ref h2), (4, .int v5_3_0), (5, .int z_8), (6, .int z_31)]) hx hb dX4_valueFor_70 hl (k := 3) rfl ez_39 (by decide) rfl (fun ls_39 hl_39 => ?_)
                clear hl
                exact J_73 _ _ _ _ ⟨z_39, F_37, ⟨by omega, by omega⟩, rfl, h_38, (lv_sub hl_39 [1, 2, 3, 0, 4, 5, 6] rfl)⟩
              · skip
                refine lv_if_ge (tgt := 65) hx hb dX4_valueFor_57 (by decide) (fun c_40 => ?_) (fun c_40 => ?_)
                · replace c_40 := i_le (x := 0) (y := z_31) (show (0 : Int32).toInt = 0 by decide) rfl c_40
                  refine lv_aload_n hx hb dX4_valueFor_65 rfl (lv_at hl_32 3 rfl) ?_
                  refine lv_iload hx hb dX4_valueFor_66 (lv_at hl_32 0 rfl) ?_
                  refine q_iald X hK h 3 rfl (i_in rfl (by omega) (by omega)) dX4_valueFor_68 ?_
                  refine q_any (fun z_41 hz_41 => ?_)
                  exact J_69 _ _ _ _ ⟨z_41, ⟨by omega, by omega⟩, rfl, h, (lv_sub hl_32 [2, 3, 4, 5, 6, 1, 0] rfl)⟩
                · replace c_40 := i_nle (x := 0) (y := z_31) (show (0 : Int32).toInt = 0 by decide) rfl c_40
                  refine lv_iload hx hb dX4_valueFor_60 (lv_at hl_32 1 rfl) ?_
                  refine lv_goto (tgt := 69) hx hb dX4_valueFor_62 (by decide) ?_
                  exact J_69 _ _ _ _ ⟨z_8, ⟨by omega, by omega⟩, rfl, h, (lv_sub hl_32 [2, 3, 4, 5, 6, 1, 0] rfl)⟩
set_option maxHeartbeats 4000000 in
set_option maxRecDepth 100000 in
theorem gX6_opposesOneWay_13 (l : Launch) (D : va_G) (cy : Nat → ClassId) (h0 : Nat) (h1 : Nat) (h2 : Nat) (h3 : Nat) (h4 : Nat) (p0 : Int32) (p1 : Int32) (p2 : Int32) (p3 : Int32) (f0 : Nat → Int32) (f1 : Nat → Int32) (f2 : Nat → Int32) (hp0 : 0 ≤ (p0).toInt ∧ (p0).toInt ≤ 9) (hp1 : 0 ≤ (p1).toInt ∧ (p1).toInt ≤ 999) (hp2 : 0 ≤ (p2).toInt ∧ (p2).toInt ≤ 9) (hp3 : 0 ≤ (p3).toInt ∧ (p3).toInt ≤ 999) (rf0 : RG f0 300 0 2062) (sz : Nat) : MI l yX6_opposesOneWay cX6_opposesOneWay 6 .boolean { frames := 3, cells := 0, slots := 0, locals := 67 } [.ref h2, .ref h0, .int p0, .int p1, .int p2, .int p3] D cy [(h0, .inr (4, [.ref h1])), (h1, .inl (cy 1, 300, .inl f0)), (h2, .inr (6, [.ref h3, .ref h4])), (h3, .inl (cy 1, 11, .inl f1)), (h4, .inl (cy 1, 64, .inl f2))] sz (fun r u => (0 ≤ r.toInt ∧ r.toInt ≤ 1) ∧ True) (fun u => [(h0, .inr (4, [.ref h1])), (h1, .inl (cy 1, 300, .inl f0)), (h2, .inr (6, [.ref h3, .ref h4])), (h3, .inl (cy 1, 11, .inl (u.2.1 1))), (h4, .inl (cy 1, 64, .inl (u.2.1 0)))]) 0 0 := by
  refine q_ent (own := RX6) (by decide) rfl (Nat.le_of_ble_eq_true rfl) (fun p e s m below meth c ls X hr hlk hnm hK h hA hl => ?_)
  obtain ⟨hx, hb, hml, hown, ht⟩ := id X
  replace hl : lv_has ls 6 [(0, .ref h2), (1, .ref h0), (2, .int p0), (3, .int p1), (4, .int p2), (5, .int p3)] := hl
  refine lv_aload_n hx hb dX6_opposesOneWay_0 rfl (lv_at hl 0 rfl) ?_
  refine lv_iconst (v := 0) hx hb dX6_opposesOneWay_1 (by decide) ?_
  refine lv_iload_n hx hb dX6_opposesOneWay_2 rfl (lv_at hl 3 rfl) ?_
  refine lv_iload_n hx hb dX6_opposesOneWay_3 rfl (lv_at hl 2 rfl) ?_
  refine q_callVv (rest := []) (wr := [(h0, .inr (4, [.ref h1])), (h1, .inl (cy 1, 300, .inl f0)), (h4, .inl (cy 1, 64, .inl f2))]) X hK hA h (fun sz => gX6_put_9 l D cy h2 h3 (0 : Int32) p1 p0 (.ref h4) f1 ⟨by decide +kernel, by decide +kernel⟩ ⟨by omega, by omega⟩ ⟨by omega, by omega⟩ sz) wm_3_204 wm_3_207 wm_1_5 hd_X6_put wm_3_206 wp_2_10 (ci := 6) (q0 := 0) rfl rfl ⟨Nat.le_of_ble_eq_true rfl, Nat.le_of_ble_eq_true rfl⟩ hl.1 rfl (Nat.le_of_ble_eq_true rfl) dX6_opposesOneWay_4 ⟨Nat.le_of_ble_eq_true rfl, Nat.le_of_ble_eq_true rfl⟩ [2, 3] [0, 1, 4] rfl rfl (by decide) rfl rfl (fun u_1 H locs w_1 h_1 => ?_)
  clear h
  clear w_1
  replace h_1 : qW D _ _ [(h0, .inr (4, [.ref h1])), (h1, .inl (cy 1, 300, .inl f0)), (h4, .inl (cy 1, 64, .inl f2)), (h2, .inr (6, [.ref h3, .ref h4])), (h3, .inl (cy 1, 11, .inl (u_1.2.1 0)))] _ _ := h_1
  refine lv_aload_n hx hb dX6_opposesOneWay_7 rfl (lv_at hl 0 rfl) ?_
  refine lv_iconst (v := 4) hx hb dX6_opposesOneWay_8 (by decide) ?_
  refine lv_iload hx hb dX6_opposesOneWay_9 (lv_at hl 5 rfl) ?_
  refine lv_iload hx hb dX6_opposesOneWay_11 (lv_at hl 4 rfl) ?_
  refine q_callVv (rest := []) (wr := [(h0, .inr (4, [.ref h1])), (h1, .inl (cy 1, 300, .inl f0)), (h4, .inl (cy 1, 64, .inl f2))]) X hK hA h_1 (fun sz => gX6_put_10 l D cy h2 h3 (4 : Int32) p3 p2 (.ref h4) (u_1.2.1 0) ⟨by decide +kernel, by decide +kernel⟩ ⟨by omega, by omega⟩ ⟨by omega, by omega⟩ sz) wm_3_204 wm_3_207 wm_1_5 hd_X6_put wm_3_206 wp_2_10 (ci := 6) (q0 := 0) rfl rfl ⟨Nat.le_of_ble_eq_true rfl, Nat.le_of_ble_eq_true rfl⟩ hl.1 rfl (Nat.le_of_ble_eq_true rfl) dX6_opposesOneWay_13 ⟨Nat.le_of_ble_eq_true rfl, Nat.le_of_ble_eq_true rfl⟩ [3, 4] [0, 1, 2] rfl rfl (by decide) rfl rfl (fun u_2 H locs w_2 h_2 => ?_)
  clear h_1
  clear w_2
  replace h_2 : qW D _ _ [(h0, .inr (4, [.ref h1])), (h1, .inl (cy 1, 300, .inl f0)), (h4, .inl (cy 1, 64, .inl f2)), (h2, .inr (6, [.ref h3, .ref h4])), (h3, .inl (cy 1, 11, .inl (u_2.2.1 0)))] _ _ := h_2
  refine lv_aload_n hx hb dX6_opposesOneWay_16 rfl (lv_at hl 1 rfl) ?_
  refine lv_aload_n hx hb dX6_opposesOneWay_17 rfl (lv_at hl 0 rfl) ?_
  refine q_get X hK h_2 3 rfl rfl wf_6 0 (by decide) rfl wm_1_184 dX6_opposesOneWay_18 ?_
  refine lv_aload_n hx hb dX6_opposesOneWay_21 rfl (lv_at hl 0 rfl) ?_
  refine q_get X hK h_2 3 rfl rfl wf_6 1 (by decide) rfl wm_1_185 dX6_opposesOneWay_22 ?_
  refine q_callVi (rest := []) (wr := [(h2, .inr (6, [.ref h3, .ref h4]))]) X hK hA h_2 (fun sz => gX4_valueFor_12 l D cy h0 h1 h4 h3 f0 f2 (u_2.2.1 0) (rg_wide rf0 (by decide) (by decide)) sz) wm_3_208 wm_3_211 wm_1_19 hd_X4_valueFor wm_3_209 wm_3_210 (ci := 4) (q0 := 0) rfl rfl ⟨Nat.le_of_ble_eq_true rfl, Nat.le_of_ble_eq_true rfl⟩ hl.1 rfl (Nat.le_of_ble_eq_true rfl) dX6_opposesOneWay_25 ⟨Nat.le_of_ble_eq_true rfl, Nat.le_of_ble_eq_true rfl⟩ [0, 1, 2, 4] [3] rfl rfl (by decide) rfl rfl (fun r_3 u_3 H locs w_3 h_3 => ?_)
  clear h_2
  obtain ⟨wr_3, _⟩ := w_3
  replace h_3 : qW D _ _ [(h2, .inr (6, [.ref h3, .ref h4])), (h0, .inr (4, [.ref h1])), (h1, .inl (cy 1, 300, .inl f0)), (h4, .inl (cy 1, 64, .inl (u_3.2.1 0))), (h3, .inl (cy 1, 11, .inl (u_2.2.1 0)))] _ _ := h_3
  refine q_jn (pc2 := 36) (fun H locs ls st => ∃ v36_4_0 : Int32, (0 ≤ (v36_4_0).toInt ∧ (v36_4_0).toInt ≤ 1) ∧ st = [.int v36_4_0] ∧ qW D (va_A [(h0, .inr (4, [.ref h1])), (h1, .inl (cy 1, 300, .inl f0)), (h2, .inr (6, [.ref h3, .ref h4])), (h3, .inl (cy 1, 11, .inl f1)), (h4, .inl (cy 1, 64, .inl f2))] sz) s.heap [(h2, .inr (6, [.ref h3, .ref h4])), (h0, .inr (4, [.ref h1])), (h1, .inl (cy 1, 300, .inl f0)), (h4, .inl (cy 1, 64, .inl (u_3.2.1 0))), (h3, .inl (cy 1, 11, .inl (u_2.2.1 0)))] H locs ∧ lv_has ls 6 [(0, .ref h2), (1, .ref h0), (2, .int p0), (3, .int p1), (4, .int p2), (5, .int p3)]) (fun H locs ls st hP => ?_) (fun J_36 => ?_)
  · obtain ⟨v36_4_0, hv36_4_0, rfl, h, hl⟩ := hP
    exact q_iret X hr hlk hK h (q_nz (by omega) (by omega)) (fun _ => 0, fun k => List.getD [(u_3.2.1 0), (u_2.2.1 0)] k (fun _ => 0), fun _ _ => 0) ⟨⟨by omega, by omega⟩, trivial⟩ [1, 2, 0, 4, 3] rfl rfl dX6_opposesOneWay_36 (Nat.le_of_ble_eq_true rfl) (Nat.le_of_ble_eq_true rfl)
  · skip
    refine lv_if_eq (tgt := 35) hx hb dX6_opposesOneWay_28 (by decide) (fun c_5 => ?_) (fun c_5 => ?_)
    · replace c_5 := i_eq (x := r_3) (y := 0) rfl (show (0 : Int32).toInt = 0 by decide) c_5
      refine lv_iconst (v := 0) hx hb dX6_opposesOneWay_35 (by decide) ?_
      exact J_36 _ _ _ _ ⟨0, ⟨by decide +kernel, by decide +kernel⟩, rfl, h_3, (lv_sub hl [0, 1, 2, 3, 4, 5] rfl)⟩
    · replace c_5 := i_ne (x := r_3) (y := 0) rfl (show (0 : Int32).toInt = 0 by decide) c_5
      refine lv_iconst (v := 1) hx hb dX6_opposesOneWay_31 (by decide) ?_
      refine lv_goto (tgt := 36) hx hb dX6_opposesOneWay_32 (by decide) ?_
      exact J_36 _ _ _ _ ⟨1, ⟨by decide +kernel, by decide +kernel⟩, rfl, h_3, (lv_sub hl [0, 1, 2, 3, 4, 5] rfl)⟩
set_option maxHeartbeats 4000000 in
set_option maxRecDepth 100000 in
theorem gX6_areOpposites_14 (l : Launch) (D : va_G) (cy : Nat → ClassId) (h0 : Nat) (h1 : Nat) (h2 : Nat) (h3 : Nat) (h4 : Nat) (h5 : Nat) (h6 : Nat) (h7 : Nat) (p0 : Int32) (p1 : Int32) (p2 : Int32) (p3 : Int32) (p4 : Int32) (p5 : Int32) (p6 : Int32) (p7 : Int32) (w0 : Value) (w1 : Value) (w2 : Value) (w3 : Value) (w4 : Value) (w5 : Value) (w6 : Value) (f0 : Nat → Int32) (p8 : Int32) (p9 : Int32) (f1 : Nat → Int32) (f2 : Nat → Int32) (f3 : Nat → Int32) (hp0 : 0 ≤ (p0).toInt ∧ (p0).toInt ≤ 9) (hp1 : 0 ≤ (p1).toInt ∧ (p1).toInt ≤ 999) (hp2 : 0 ≤ (p2).toInt ∧ (p2).toInt ≤ 9) (hp3 : 0 ≤ (p3).toInt ∧ (p3).toInt ≤ 62000) (hp4 : 1 ≤ (p4).toInt ∧ (p4).toInt ≤ 3) (hp5 : 0 ≤ (p5).toInt ∧ (p5).toInt ≤ 10) (hp6 : 0 ≤ (p6).toInt ∧ (p6).toInt ≤ 920) (hp7 : 0 ≤ (p7).toInt ∧ (p7).toInt ≤ 999) (hp8 : 0 ≤ (p8).toInt ∧ (p8).toInt ≤ 60000) (hp9 : 0 ≤ (p9).toInt ∧ (p9).toInt ≤ 1023) (rf0 : RG f0 300 0 2062) (rf1 : RG f1 10 0 999) (sz : Nat) : MI l yX6_areOpposites cX6_areOpposites 8 .boolean { frames := 4, cells := 0, slots := 0, locals := 92 } [.ref h5, .ref h3, .int p0, .int p1, .int p2, .int p3] D cy [(h0, .inr (3, [.int p4, .int p5, .int p6, .int p7, .ref h1, w0, w1, w2, w3, w4, w5, w6])), (h1, .inr (4, [.ref h2])), (h2, .inl (cy 1, 300, .inl f0)), (h3, .inr (7, [.ref h0, .int p8, .int p9, .ref h4])), (h4, .inl (cy 1, 10, .inl f1)), (h5, .inr (6, [.ref h6, .ref h7])), (h6, .inl (cy 1, 11, .inl f2)), (h7, .inl (cy 1, 64, .inl f3))] sz (fun r u => (0 ≤ r.toInt ∧ r.toInt ≤ 1) ∧ True) (fun u => [(h0, .inr (3, [.int p4, .int p5, .int p6, .int p7, .ref h1, w0, w1, w2, w3, w4, w5, w6])), (h1, .inr (4, [.ref h2])), (h2, .inl (cy 1, 300, .inl f0)), (h3, .inr (7, [.ref h0, .int p8, .int p9, .ref h4])), (h4, .inl (cy 1, 10, .inl f1)), (h5, .inr (6, [.ref h6, .ref h7])), (h6, .inl (cy 1, 11, .inl (u.2.1 0))), (h7, .inl (cy 1, 64, .inl (u.2.1 1)))]) 0 0 := by
  refine q_ent (own := RX6) (by decide) rfl (Nat.le_of_ble_eq_true rfl) (fun p e s m below meth c ls X hr hlk hnm hK h hA hl => ?_)
  obtain ⟨hx, hb, hml, hown, ht⟩ := id X
  replace hl : lv_has ls 8 [(0, .ref h5), (1, .ref h3), (2, .int p0), (3, .int p1), (4, .int p2), (5, .int p3)] := hl
  refine lv_aload_n hx hb dX6_areOpposites_0 rfl (lv_at hl 1 rfl) ?_
  refine q_get X hK h 3 rfl rfl wf_7 0 (by decide) rfl wm_2_41 dX6_areOpposites_1 ?_
  refine q_get X hK h 0 rfl rfl wf_3 4 (by decide) rfl wm_1_94 dX6_areOpposites_4 ?_
  refine lv_astore (lv' := [(6, .ref h1), (0, .ref h5), (1, .ref h3), (2, .int p0), (3, .int p1), (4, .int p2), (5, .int p3)]) hx hb dX6_areOpposites_7 hl (by decide) rfl (fun ls_1 hl_1 => ?_)
  clear hl
  refine lv_aload_n hx hb dX6_areOpposites_9 rfl (lv_at hl_1 2 rfl) ?_
  refine q_get X hK h 3 rfl rfl wf_7 3 (by decide) rfl wm_2_53 dX6_areOpposites_10 ?_
  refine lv_iload hx hb dX6_areOpposites_13 (lv_at hl_1 5 rfl) ?_
  refine q_iald X hK h 4 rfl (i_in rfl (by omega) (by omega)) dX6_areOpposites_15 ?_
  obtain ⟨z_2, ez_2, hz_2⟩ := rg_get rf1 (x := p2) rfl (by omega) (by omega)
  refine q_c z_2 ez_2 ?_
  clear ez_2
  refine lv_istore (lv' := [(7, .int z_2), (6, .ref h1), (0, .ref h5), (1, .ref h3), (2, .int p0), (3, .int p1), (4, .int p2), (5, .int p3)]) hx hb dX6_areOpposites_16 hl_1 (by decide) rfl (fun ls_3 hl_3 => ?_)
  clear hl_1
  refine lv_aload hx hb dX6_areOpposites_18 (lv_at hl_3 1 rfl) ?_
  refine lv_ifnonnull (tgt := 44) hx hb dX6_areOpposites_20 (by decide) ?_
  refine lv_aload_n hx hb dX6_areOpposites_44 rfl (lv_at hl_3 2 rfl) ?_
  refine q_get X hK h 5 rfl rfl wf_6 0 (by decide) rfl wm_1_184 dX6_areOpposites_45 ?_
  refine lv_bipush (v := 8) hx hb dX6_areOpposites_48 (by decide) ?_
  refine lv_iload hx hb dX6_areOpposites_50 (lv_at hl_3 7 rfl) ?_
  refine lv_bipush (v := 7) hx hb dX6_areOpposites_52 (by decide) ?_
  refine lv_irem hx hb dX6_areOpposites_54 (by decide) ?_
  obtain ⟨z_4, ez_4, hz_4⟩ := e_rem (x := p3) (y := 7) rfl (show (7 : Int32).toInt = 7 by decide) (by omega) (by omega)
  refine q_c z_4 ez_4 ?_
  clear ez_4
  refine q_iast X hK h 6 rfl (q_in (by decide +kernel)) dX6_areOpposites_55 (fun H locs h_6 => ?_)
  clear h
  replace h_6 : qW D _ _ [(h0, .inr (3, [.int p4, .int p5, .int p6, .int p7, .ref h1, w0, w1, w2, w3, w4, w5, w6])), (h1, .inr (4, [.ref h2])), (h2, .inl (cy 1, 300, .inl f0)), (h3, .inr (7, [.ref h0, .int p8, .int p9, .ref h4])), (h4, .inl (cy 1, 10, .inl f1)), (h5, .inr (6, [.ref h6, .ref h7])), (h6, .inl (cy 1, 11, .inl (upd f2 (Int32.toNatClampNeg 8) z_4))), (h7, .inl (cy 1, 64, .inl f3))] _ _ := h_6
  obtain ⟨F_5, eF_5⟩ : ∃ z, (upd f2 (Int32.toNatClampNeg 8) z_4) = z := ⟨_, rfl⟩
  rw [eF_5] at h_6
  clear eF_5
  refine lv_aload_n hx hb dX6_areOpposites_56 rfl (lv_at hl_3 2 rfl) ?_
  refine lv_aload hx hb dX6_areOpposites_57 (lv_at hl_3 1 rfl) ?_
  refine lv_iload_n hx hb dX6_areOpposites_59 rfl (lv_at hl_3 4 rfl) ?_
  refine lv_iload_n hx hb dX6_areOpposites_60 rfl (lv_at hl_3 5 rfl) ?_
  refine lv_iload hx hb dX6_areOpposites_61 (lv_at hl_3 6 rfl) ?_
  refine lv_iload hx hb dX6_areOpposites_63 (lv_at hl_3 0 rfl) ?_
  refine q_callVi (rest := []) (wr := [(h0, .inr (3, [.int p4, .int p5, .int p6, .int p7, .ref h1, w0, w1, w2, w3, w4, w5, w6])), (h3, .inr (7, [.ref h0, .int p8, .int p9, .ref h4])), (h4, .inl (cy 1, 10, .inl f1))]) X hK hA h_6 (fun sz => gX6_opposesOneWay_13 l D cy h1 h2 h5 h6 h7 p0 p1 p2 z_2 f0 F_5 f3 ⟨by omega, by omega⟩ ⟨by omega, by omega⟩ ⟨by omega, by omega⟩ ⟨by omega, by omega⟩ (rg_wide rf0 (by decide) (by decide)) sz) wm_3_200 wm_3_203 wm_1_5 hd_X6_opposesOneWay wm_3_202 wp_2_9 (ci := 6) (q0 := 2) rfl rfl ⟨Nat.le_of_ble_eq_true rfl, Nat.le_of_ble_eq_true rfl⟩ hl_3.1 rfl (Nat.le_of_ble_eq_true rfl) dX6_areOpposites_65 ⟨Nat.le_of_ble_eq_true rfl, Nat.le_of_ble_eq_true rfl⟩ [1, 2, 5, 6, 7] [0, 3, 4] rfl rfl (by decide) rfl rfl (fun r_7 u_7 H locs w_7 h_7 => ?_)
  clear h_6
  obtain ⟨wr_7, _⟩ := w_7
  replace h_7 : qW D _ _ [(h0, .inr (3, [.int p4, .int p5, .int p6, .int p7, .ref h1, w0, w1, w2, w3, w4, w5, w6])), (h3, .inr (7, [.ref h0, .int p8, .int p9, .ref h4])), (h4, .inl (cy 1, 10, .inl f1)), (h1, .inr (4, [.ref h2])), (h2, .inl (cy 1, 300, .inl f0)), (h5, .inr (6, [.ref h6, .ref h7])), (h6, .inl (cy 1, 11, .inl (u_7.2.1 1))), (h7, .inl (cy 1, 64, .inl (u_7.2.1 0)))] _ _ := h_7
  refine q_jn (pc2 := 91) (fun H locs ls st => ∃ v91_8_2 : Int32, ∃ v91_8_0 : Nat → Int32, ∃ v91_8_1 : Nat → Int32, (0 ≤ (v91_8_2).toInt ∧ (v91_8_2).toInt ≤ 1) ∧ st = [.int v91_8_2] ∧ qW D (va_A [(h0, .inr (3, [.int p4, .int p5, .int p6, .int p7, .ref h1, w0, w1, w2, w3, w4, w5, w6])), (h1, .inr (4, [.ref h2])), (h2, .inl (cy 1, 300, .inl f0)), (h3, .inr (7, [.ref h0, .int p8, .int p9, .ref h4])), (h4, .inl (cy 1, 10, .inl f1)), (h5, .inr (6, [.ref h6, .ref h7])), (h6, .inl (cy 1, 11, .inl f2)), (h7, .inl (cy 1, 64, .inl f3))] sz) s.heap [(h0, .inr (3, [.int p4, .int p5, .int p6, .int p7, .ref h1, w0, w1, w2, w3, w4, w5, w6])), (h3, .inr (7, [.ref h0, .int p8, .int p9, .ref h4])), (h4, .inl (cy 1, 10, .inl f1)), (h1, .inr (4, [.ref h2])), (h2, .inl (cy 1, 300, .inl f0)), (h5, .inr (6, [.ref h6, .ref h7])), (h6, .inl (cy 1, 11, .inl v91_8_0)), (h7, .inl (cy 1, 64, .inl v91_8_1))] H locs ∧ lv_has ls 8 [(0, .ref h5), (1, .ref h3), (2, .int p0), (3, .int p1), (4, .int p2), (5, .int p3), (6, .ref h1), (7, .int z_2)]) (fun H locs ls st hP => ?_) (fun J_91 => ?_)
  · obtain ⟨v91_8_2, v91_8_0, v91_8_1, hv91_8_2, rfl, h, hl⟩ := hP
    exact q_iret X hr hlk hK h (q_nz (by omega) (by omega)) (fun _ => 0, fun k => List.getD [v91_8_0, v91_8_1] k (fun _ => 0), fun _ _ => 0) ⟨⟨by omega, by omega⟩, trivial⟩ [0, 3, 4, 1, 2, 5, 6, 7] rfl rfl dX6_areOpposites_91 (Nat.le_of_ble_eq_true rfl) (Nat.le_of_ble_eq_true rfl)
  · skip
    refine q_jn (pc2 := 86) (fun H locs ls st => ∃ v86_9_0 : Nat → Int32, ∃ v86_9_1 : Nat → Int32, st = [] ∧ qW D (va_A [(h0, .inr (3, [.int p4, .int p5, .int p6, .int p7, .ref h1, w0, w1, w2, w3, w4, w5, w6])), (h1, .inr (4, [.ref h2])), (h2, .inl (cy 1, 300, .inl f0)), (h3, .inr (7, [.ref h0, .int p8, .int p9, .ref h4])), (h4, .inl (cy 1, 10, .inl f1)), (h5, .inr (6, [.ref h6, .ref h7])), (h6, .inl (cy 1, 11, .inl f2)), (h7, .inl (cy 1, 64, .inl f3))] sz) s.heap [(h0, .inr (3, [.int p4, .int p5, .int p6, .int p7, .ref h1, w0, w1, w2, w3, w4, w5, w6])), (h3, .inr (7, [.ref h0, .int p8, .int p9, .ref h4])), (h4, .inl (cy 1, 10, .inl f1)), (h1, .inr (4, [.ref h2])), (h2, .inl (cy 1, 300, .inl f0)), (h5, .inr (6, [.ref h6, .ref h7])), (h6, .inl (cy 1, 11, .inl v86_9_0)), (h7, .inl (cy 1, 64, .inl v86_9_1))] H locs ∧ lv_has ls 8 [(0, .ref h5), (1, .ref h3), (2, .int p0), (3, .int p1), (4, .int p2), (5, .int p3), (6, .ref h1), (7, .int z_2)]) (fun H locs ls st hP => ?_) (fun J_86 => ?_)
    · obtain ⟨v86_9_0, v86_9_1, rfl, h, hl⟩ := hP
      refine lv_iconst (v := 1) hx hb dX6_areOpposites_86 (by decide) ?_
      refine lv_goto (tgt := 91) hx hb dX6_areOpposites_87 (by decide) ?_
      exact J_91 _ _ _ _ ⟨1, v86_9_0, v86_9_1, ⟨by decide +kernel, by decide +kernel⟩, rfl, h, (lv_sub hl [0, 1, 2, 3, 4, 5, 6, 7] rfl)⟩
    · skip
      refine lv_if_ne (tgt := 86) hx hb dX6_areOpposites_68 (by decide) (fun c_10 => ?_) (fun c_10 => ?_)
      · replace c_10 := i_ne (x := r_7) (y := 0) rfl (show (0 : Int32).toInt = 0 by decide) c_10
        exact J_86 _ _ _ _ ⟨(u_7.2.1 1), (u_7.2.1 0), rfl, h_7, (lv_sub hl_3 [2, 3, 4, 5, 6, 7, 1, 0] rfl)⟩
      · replace c_10 := i_eq (x := r_7) (y := 0) rfl (show (0 : Int32).toInt = 0 by decide) c_10
        refine lv_aload_n hx hb dX6_areOpposites_71 rfl (lv_at hl_3 2 rfl) ?_
        refine lv_aload hx hb dX6_areOpposites_72 (lv_at hl_3 1 rfl) ?_
        refine lv_iload hx hb dX6_areOpposites_74 (lv_at hl_3 6 rfl) ?_
        refine lv_iload hx hb dX6_areOpposites_76 (lv_at hl_3 0 rfl) ?_
        refine lv_iload_n hx hb dX6_areOpposites_78 rfl (lv_at hl_3 4 rfl) ?_
        refine lv_iload_n hx hb dX6_areOpposites_79 rfl (lv_at hl_3 5 rfl) ?_
        refine q_callVi (rest := []) (wr := [(h0, .inr (3, [.int p4, .int p5, .int p6, .int p7, .ref h1, w0, w1, w2, w3, w4, w5, w6])), (h3, .inr (7, [.ref h0, .int p8, .int p9, .ref h4])), (h4, .inl (cy 1, 10, .inl f1))]) X hK hA h_7 (fun sz => gX6_opposesOneWay_13 l D cy h1 h2 h5 h6 h7 p2 z_2 p0 p1 f0 (u_7.2.1 1) (u_7.2.1 0) ⟨by omega, by omega⟩ ⟨by omega, by omega⟩ ⟨by omega, by omega⟩ ⟨by omega, by omega⟩ (rg_wide rf0 (by decide) (by decide)) sz) wm_3_200 wm_3_203 wm_1_5 hd_X6_opposesOneWay wm_3_202 wp_2_9 (ci := 6) (q0 := 2) rfl rfl ⟨Nat.le_of_ble_eq_true rfl, Nat.le_of_ble_eq_true rfl⟩ hl_3.1 rfl (Nat.le_of_ble_eq_true rfl) dX6_areOpposites_80 ⟨Nat.le_of_ble_eq_true rfl, Nat.le_of_ble_eq_true rfl⟩ [3, 4, 5, 6, 7] [0, 1, 2] rfl rfl (by decide) rfl rfl (fun r_11 u_11 H locs w_11 h_11 => ?_)
        clear h_7
        obtain ⟨wr_11, _⟩ := w_11
        replace h_11 : qW D _ _ [(h0, .inr (3, [.int p4, .int p5, .int p6, .int p7, .ref h1, w0, w1, w2, w3, w4, w5, w6])), (h3, .inr (7, [.ref h0, .int p8, .int p9, .ref h4])), (h4, .inl (cy 1, 10, .inl f1)), (h1, .inr (4, [.ref h2])), (h2, .inl (cy 1, 300, .inl f0)), (h5, .inr (6, [.ref h6, .ref h7])), (h6, .inl (cy 1, 11, .inl (u_11.2.1 1))), (h7, .inl (cy 1, 64, .inl (u_11.2.1 0)))] _ _ := h_11
        refine lv_if_eq (tgt := 90) hx hb dX6_areOpposites_83 (by decide) (fun c_12 => ?_) (fun c_12 => ?_)
        · replace c_12 := i_eq (x := r_11) (y := 0) rfl (show (0 : Int32).toInt = 0 by decide) c_12
          refine lv_iconst (v := 0) hx hb dX6_areOpposites_90 (by decide) ?_
          exact J_91 _ _ _ _ ⟨0, (u_11.2.1 1), (u_11.2.1 0), ⟨by decide +kernel, by decide +kernel⟩, rfl, h_11, (lv_sub hl_3 [2, 3, 4, 5, 6, 7, 1, 0] rfl)⟩
        · replace c_12 := i_ne (x := r_11) (y := 0) rfl (show (0 : Int32).toInt = 0 by decide) c_12
          exact J_86 _ _ _ _ ⟨(u_11.2.1 1), (u_11.2.1 0), rfl, h_11, (lv_sub hl_3 [2, 3, 4, 5, 6, 7, 1, 0] rfl)⟩
set_option maxHeartbeats 4000000 in
set_option maxRecDepth 100000 in
theorem gX6_rowOf_15 (l : Launch) (D : va_G) (cy : Nat → ClassId) (h0 : Nat) (h1 : Nat) (h2 : Nat) (h3 : Nat) (h4 : Nat) (h5 : Nat) (h6 : Nat) (h7 : Nat) (p0 : Int32) (p1 : Int32) (p2 : Int32) (p3 : Int32) (p4 : Int32) (p5 : Int32) (p6 : Int32) (w0 : Value) (w1 : Value) (w2 : Value) (w3 : Value) (w4 : Value) (w5 : Value) (w6 : Value) (f0 : Nat → Int32) (p7 : Int32) (p8 : Int32) (f1 : Nat → Int32) (f2 : Nat → Int32) (f3 : Nat → Int32) (hp0 : 0 ≤ (p0).toInt ∧ (p0).toInt ≤ 9) (hp1 : 0 ≤ (p1).toInt ∧ (p1).toInt ≤ 999) (hp2 : 0 ≤ (p2).toInt ∧ (p2).toInt ≤ 62000) (hp3 : 1 ≤ (p3).toInt ∧ (p3).toInt ≤ 3) (hp4 : 0 ≤ (p4).toInt ∧ (p4).toInt ≤ 10) (hp5 : 0 ≤ (p5).toInt ∧ (p5).toInt ≤ 920) (hp6 : 0 ≤ (p6).toInt ∧ (p6).toInt ≤ 999) (hp7 : 0 ≤ (p7).toInt ∧ (p7).toInt ≤ 60000) (hp8 : 0 ≤ (p8).toInt ∧ (p8).toInt ≤ 1023) (rf0 : RG f0 300 0 2062) (rf1 : RG f1 10 0 999) (sz : Nat) : MI l yX6_rowOf cX6_rowOf 7 .int { frames := 5, cells := 0, slots := 0, locals := 119 } [.ref h5, .ref h3, .int p0, .int p1, .int p2] D cy [(h0, .inr (3, [.int p3, .int p4, .int p5, .int p6, .ref h1, w0, w1, w2, w3, w4, w5, w6])), (h1, .inr (4, [.ref h2])), (h2, .inl (cy 1, 300, .inl f0)), (h3, .inr (7, [.ref h0, .int p7, .int p8, .ref h4])), (h4, .inl (cy 1, 10, .inl f1)), (h5, .inr (6, [.ref h6, .ref h7])), (h6, .inl (cy 1, 11, .inl f2)), (h7, .inl (cy 1, 64, .inl f3))] sz (fun r u => (0 ≤ r.toInt ∧ r.toInt ≤ 1023) ∧ True) (fun u => [(h0, .inr (3, [.int p3, .int p4, .int p5, .int p6, .ref h1, w0, w1, w2, w3, w4, w5, w6])), (h1, .inr (4, [.ref h2])), (h2, .inl (cy 1, 300, .inl f0)), (h3, .inr (7, [.ref h0, .int p7, .int p8, .ref h4])), (h4, .inl (cy 1, 10, .inl f1)), (h5, .inr (6, [.ref h6, .ref h7])), (h6, .inl (cy 1, 11, .inl (u.2.1 0))), (h7, .inl (cy 1, 64, .inl (u.2.1 1)))]) 0 0 := by
  refine q_ent (own := RX6) (by decide) rfl (Nat.le_of_ble_eq_true rfl) (fun p e s m below meth c ls X hr hlk hnm hK h hA hl => ?_)
  obtain ⟨hx, hb, hml, hown, ht⟩ := id X
  replace hl : lv_has ls 7 [(0, .ref h5), (1, .ref h3), (2, .int p0), (3, .int p1), (4, .int p2)] := hl
  refine lv_iconst (v := 0) hx hb dX6_rowOf_0 (by decide) ?_
  refine lv_istore (lv' := [(5, .int 0), (0, .ref h5), (1, .ref h3), (2, .int p0), (3, .int p1), (4, .int p2)]) hx hb dX6_rowOf_1 hl (by decide) rfl (fun ls_1 hl_1 => ?_)
  clear hl
  refine lv_iconst (v := 0) hx hb dX6_rowOf_3 (by decide) ?_
  refine lv_istore (lv' := [(6, .int 0), (5, .int 0), (0, .ref h5), (1, .ref h3), (2, .int p0), (3, .int p1), (4, .int p2)]) hx hb dX6_rowOf_4 hl_1 (by decide) rfl (fun ls_2 hl_2 => ?_)
  clear hl_1
  refine q_wl (fun (q : Int32 × Int32) H locs ls => match q with | (v6_3_0, v6_3_1) => ∃ v6_3_2 : Nat → Int32, ∃ v6_3_3 : Nat → Int32, (0 ≤ (v6_3_0).toInt ∧ (v6_3_0).toInt ≤ 10) ∧ (0 ≤ (v6_3_1).toInt ∧ (v6_3_1).toInt ≤ 1023) ∧ qW D (va_A [(h0, .inr (3, [.int p3, .int p4, .int p5, .int p6, .ref h1, w0, w1, w2, w3, w4, w5, w6])), (h1, .inr (4, [.ref h2])), (h2, .inl (cy 1, 300, .inl f0)), (h3, .inr (7, [.ref h0, .int p7, .int p8, .ref h4])), (h4, .inl (cy 1, 10, .inl f1)), (h5, .inr (6, [.ref h6, .ref h7])), (h6, .inl (cy 1, 11, .inl f2)), (h7, .inl (cy 1, 64, .inl f3))] sz) s.heap [(h0, .inr (3, [.int p3, .int p4, .int p5, .int p6, .ref h1, w0, w1, w2, w3, w4, w5, w6])), (h1, .inr (4, [.ref h2])), (h2, .inl (cy 1, 300, .inl f0)), (h3, .inr (7, [.ref h0, .int p7, .int p8, .ref h4])), (h4, .inl (cy 1, 10, .inl f1)), (h5, .inr (6, [.ref h6, .ref h7])), (h6, .inl (cy 1, 11, .inl v6_3_2)), (h7, .inl (cy 1, 64, .inl v6_3_3))] H locs ∧ lv_has ls 7 [(0, .ref h5), (1, .ref h3), (2, .int p0), (3, .int p1), (4, .int p2), (5, .int v6_3_1), (6, .int v6_3_0)]) (fun (q : Int32 × Int32) => match q with | (v6_3_0, v6_3_1) => (11 - (v6_3_0).toInt).toNat) (fun q_6 ih_6 H locs ls hP => ?_) (0, 0) ⟨f2, f3, ⟨by decide +kernel, by decide +kernel⟩, ⟨by decide +kernel, by decide +kernel⟩, h, (lv_sub hl_2 [2, 3, 4, 5, 6, 1, 0] rfl)⟩
  obtain ⟨v6_3_0, v6_3_1⟩ := q_6
  obtain ⟨v6_3_2, v6_3_3, hv6_3_0, hv6_3_1, h, hl⟩ := hP
  refine lv_iload hx hb dX6_rowOf_6 (lv_at hl 6 rfl) ?_
  refine lv_aload_n hx hb dX6_rowOf_8 rfl (lv_at hl 1 rfl) ?_
  refine q_get X hK h 3 rfl rfl wf_7 0 (by decide) rfl wm_2_41 dX6_rowOf_9 ?_
  refine q_get X hK h 0 rfl rfl wf_3 1 (by decide) rfl wm_1_84 dX6_rowOf_12 ?_
  refine lv_icmp_ge (tgt := 53) hx hb dX6_rowOf_15 (by decide) (fun c_4 => ?_) (fun c_4 => ?_)
  · replace c_4 := i_le (x := p4) (y := v6_3_0) rfl rfl c_4
    refine lv_iload hx hb dX6_rowOf_53 (lv_at hl 5 rfl) ?_
    exact q_iret X hr hlk hK h rfl (fun _ => 0, fun k => List.getD [v6_3_2, v6_3_3] k (fun _ => 0), fun _ _ => 0) ⟨⟨by omega, by omega⟩, trivial⟩ [0, 1, 2, 3, 4, 5, 6, 7] rfl rfl dX6_rowOf_55 (Nat.le_of_ble_eq_true rfl) (Nat.le_of_ble_eq_true rfl)
  · replace c_4 := i_nle (x := p4) (y := v6_3_0) rfl rfl c_4
    refine lv_iload hx hb dX6_rowOf_18 (lv_at hl 6 rfl) ?_
    refine lv_iload_n hx hb dX6_rowOf_20 rfl (lv_at hl 2 rfl) ?_
    refine q_jn (pc2 := 47) (fun H locs ls st => ∃ v47_5_2 : Int32, ∃ v47_5_0 : Nat → Int32, ∃ v47_5_1 : Nat → Int32, (0 ≤ (v47_5_2).toInt ∧ (v47_5_2).toInt ≤ 1023) ∧ st = [] ∧ qW D (va_A [(h0, .inr (3, [.int p3, .int p4, .int p5, .int p6, .ref h1, w0, w1, w2, w3, w4, w5, w6])), (h1, .inr (4, [.ref h2])), (h2, .inl (cy 1, 300, .inl f0)), (h3, .inr (7, [.ref h0, .int p7, .int p8, .ref h4])), (h4, .inl (cy 1, 10, .inl f1)), (h5, .inr (6, [.ref h6, .ref h7])), (h6, .inl (cy 1, 11, .inl f2)), (h7, .inl (cy 1, 64, .inl f3))] sz) s.heap [(h0, .inr (3, [.int p3, .int p4, .int p5, .int p6, .ref h1, w0, w1, w2, w3, w4, w5, w6])), (h1, .inr (4, [.ref h2])), (h2, .inl (cy 1, 300, .inl f0)), (h3, .inr (7, [.ref h0, .int p7, .int p8, .ref h4])), (h4, .inl (cy 1, 10, .inl f1)), (h5, .inr (6, [.ref h6, .ref h7])), (h6, .inl (cy 1, 11, .inl v47_5_0)), (h7, .inl (cy 1, 64, .inl v47_5_1))] H locs ∧ lv_has ls 7 [(0, .ref h5), (1, .ref h3), (2, .int p0), (3, .int p1), (4, .int p2), (5, .int v47_5_2), (6, .int v6_3_0)]) (fun H locs ls st hP => ?_) (fun J_47 => ?_)
    · obtain ⟨v47_5_2, v47_5_0, v47_5_1, hv47_5_2, rfl, h, hl⟩ := hP
      obtain ⟨z_6, ez_6, hz_6⟩ := e_add (x := v6_3_0) (y := Int32.ofInt 1) rfl (b := 1) (by decide) (by omega) (by omega)
      refine lv_iinc (v := z_6) (lv' := [(6, .int z_6), (0, .ref h5), (1, .ref h3), (2, .int p0), (3, .int p1), (4, .int p2), (5, .int v47_5_2)]) hx hb dX6_rowOf_47 hl (k := 6) rfl ez_6 (by decide) rfl (fun ls_6 hl_6 => ?_)
      clear hl
      refine lv_goto (tgt := 6) hx hb dX6_rowOf_50 (by decide) ?_
      exact ih_6 (z_6, v47_5_2) (by show (11 - (z_6).toInt).toNat < (11 - (v6_3_0).toInt).toNat; omega) _ _ _ ⟨v47_5_0, v47_5_1, ⟨by omega, by omega⟩, ⟨by omega, by omega⟩, h, (lv_sub hl_6 [1, 2, 3, 4, 5, 6, 0] rfl)⟩
    · skip
      refine lv_icmp_eq (tgt := 47) hx hb dX6_rowOf_21 (by decide) (fun c_7 => ?_) (fun c_7 => ?_)
      · replace c_7 := i_eq (x := v6_3_0) (y := p0) rfl rfl c_7
        exact J_47 _ _ _ _ ⟨v6_3_1, v6_3_2, v6_3_3, ⟨by omega, by omega⟩, rfl, h, (lv_sub hl [0, 1, 2, 3, 4, 5, 6] rfl)⟩
      · replace c_7 := i_ne (x := v6_3_0) (y := p0) rfl rfl c_7
        refine lv_aload_n hx hb dX6_rowOf_24 rfl (lv_at hl 0 rfl) ?_
        refine lv_aload_n hx hb dX6_rowOf_25 rfl (lv_at hl 1 rfl) ?_
        refine lv_iload_n hx hb dX6_rowOf_26 rfl (lv_at hl 2 rfl) ?_
        refine lv_iload_n hx hb dX6_rowOf_27 rfl (lv_at hl 3 rfl) ?_
        refine lv_iload hx hb dX6_rowOf_28 (lv_at hl 6 rfl) ?_
        refine lv_iload hx hb dX6_rowOf_30 (lv_at hl 4 rfl) ?_
        refine q_callVi (rest := []) (wr := []) X hK hA h (fun sz => gX6_areOpposites_14 l D cy h0 h1 h2 h3 h4 h5 h6 h7 p0 p1 v6_3_0 p2 p3 p4 p5 p6 w0 w1 w2 w3 w4 w5 w6 f0 p7 p8 f1 v6_3_2 v6_3_3 ⟨by omega, by omega⟩ ⟨by omega, by omega⟩ ⟨by omega, by omega⟩ ⟨by omega, by omega⟩ ⟨by omega, by omega⟩ ⟨by omega, by omega⟩ ⟨by omega, by omega⟩ ⟨by omega, by omega⟩ ⟨by omega, by omega⟩ ⟨by omega, by omega⟩ (rg_wide rf0 (by decide) (by decide)) (rg_wide rf1 (by decide) (by decide)) sz) wm_3_231 wm_3_199 wm_1_5 hd_X6_areOpposites wm_3_197 wm_3_198 (ci := 6) (q0 := 5) rfl rfl ⟨Nat.le_of_ble_eq_true rfl, Nat.le_of_ble_eq_true rfl⟩ hl.1 rfl (Nat.le_of_ble_eq_true rfl) dX6_rowOf_32 ⟨Nat.le_of_ble_eq_true rfl, Nat.le_of_ble_eq_true rfl⟩ [0, 1, 2, 3, 4, 5, 6, 7] [] rfl rfl (by decide) rfl rfl (fun r_8 u_8 H locs w_8 h_8 => ?_)
        clear h
        obtain ⟨wr_8, _⟩ := w_8
        replace h_8 : qW D _ _ [(h0, .inr (3, [.int p3, .int p4, .int p5, .int p6, .ref h1, w0, w1, w2, w3, w4, w5, w6])), (h1, .inr (4, [.ref h2])), (h2, .inl (cy 1, 300, .inl f0)), (h3, .inr (7, [.ref h0, .int p7, .int p8, .ref h4])), (h4, .inl (cy 1, 10, .inl f1)), (h5, .inr (6, [.ref h6, .ref h7])), (h6, .inl (cy 1, 11, .inl (u_8.2.1 0))), (h7, .inl (cy 1, 64, .inl (u_8.2.1 1)))] _ _ := h_8
        refine lv_if_eq (tgt := 47) hx hb dX6_rowOf_35 (by decide) (fun c_9 => ?_) (fun c_9 => ?_)
        · replace c_9 := i_eq (x := r_8) (y := 0) rfl (show (0 : Int32).toInt = 0 by decide) c_9
          exact J_47 _ _ _ _ ⟨v6_3_1, (u_8.2.1 0), (u_8.2.1 1), ⟨by omega, by omega⟩, rfl, h_8, (lv_sub hl [0, 1, 2, 3, 4, 5, 6] rfl)⟩
        · replace c_9 := i_ne (x := r_8) (y := 0) rfl (show (0 : Int32).toInt = 0 by decide) c_9
          refine lv_iload hx hb dX6_rowOf_38 (lv_at hl 5 rfl) ?_
          refine lv_iconst (v := 1) hx hb dX6_rowOf_40 (by decide) ?_
          refine lv_iload hx hb dX6_rowOf_41 (lv_at hl 6 rfl) ?_
          refine lv_ishl hx hb dX6_rowOf_43 ?_
          obtain ⟨z_10, ez_10, hz_10⟩ := e_shlk (p := v6_3_0) 9 (by decide) rfl (by omega) (by omega)
          refine q_c z_10 ez_10 ?_
          clear ez_10
          refine lv_ior hx hb dX6_rowOf_44 ?_
          obtain ⟨z_11, ez_11, hz_11⟩ := e_or (x := v6_3_1) (y := z_10) 10 (by decide) rfl rfl (by omega) (by omega) (by omega) (by omega)
          refine q_c z_11 ez_11 ?_
          clear ez_11
          refine lv_istore (lv' := [(5, .int z_11), (0, .ref h5), (1, .ref h3), (2, .int p0), (3, .int p1), (4, .int p2), (6, .int v6_3_0)]) hx hb dX6_rowOf_45 hl (by decide) rfl (fun ls_12 hl_12 => ?_)
          clear hl
          exact J_47 _ _ _ _ ⟨z_11, (u_8.2.1 0), (u_8.2.1 1), ⟨by omega, by omega⟩, rfl, h_8, (lv_sub hl_12 [1, 2, 3, 4, 5, 0, 6] rfl)⟩
set_option maxHeartbeats 4000000 in
set_option maxRecDepth 100000 in
theorem gX0_draw_16 (l : Launch) (D : va_G) (cy : Nat → ClassId) (h0 : Nat) (h1 : Nat) (h2 : Nat) (h3 : Nat) (h4 : Nat) (h5 : Nat) (h6 : Nat) (h7 : Nat) (h8 : Nat) (h9 : Nat) (p0 : Int32) (p1 : Int32) (p2 : Int32) (p3 : Int32) (p4 : Int32) (w0 : Value) (w1 : Value) (w2 : Value) (w3 : Value) (w4 : Value) (w5 : Value) (w6 : Value) (f0 : Nat → Int32) (p5 : Int32) (p6 : Int32) (f1 : Nat → Int32) (f2 : Nat → Int32) (f3 : Nat → Int32) (p7 : Int32) (w7 : Value) (w8 : Value) (f4 : Nat → Int32) (hp0 : 0 ≤ (p0).toInt ∧ (p0).toInt ≤ 62000) (hp1 : 1 ≤ (p1).toInt ∧ (p1).toInt ≤ 3) (hp2 : 0 ≤ (p2).toInt ∧ (p2).toInt ≤ 10) (hp3 : 0 ≤ (p3).toInt ∧ (p3).toInt ≤ 920) (hp4 : 0 ≤ (p4).toInt ∧ (p4).toInt ≤ 999) (hp5 : 0 ≤ (p5).toInt ∧ (p5).toInt ≤ 60000) (hp6 : 0 ≤ (p6).toInt ∧ (p6).toInt ≤ 1023) (hp7 : 0 ≤ (p7).toInt ∧ (p7).toInt ≤ 10) (rf0 : RG f0 300 0 2062) (rf1 : RG f1 10 0 999) (rf4 : RG f4 10 0 1023) (sz : Nat) : MV l yX0_draw cX0_draw 6 { frames := 5, cells := 0, slots := 0, locals := 119 } [.ref h8, .ref h3, .int p0, .ref h5] D cy [(h0, .inr (3, [.int p1, .int p2, .int p3, .int p4, .ref h1, w0, w1, w2, w3, w4, w5, w6])), (h1, .inr (4, [.ref h2])), (h2, .inl (cy 1, 300, .inl f0)), (h3, .inr (7, [.ref h0, .int p5, .int p6, .ref h4])), (h4, .inl (cy 1, 10, .inl f1)), (h5, .inr (6, [.ref h6, .ref h7])), (h6, .inl (cy 1, 11, .inl f2)), (h7, .inl (cy 1, 64, .inl f3)), (h8, .inr (0, [.int p7, .ref h9, w7, w8])), (h9, .inl (cy 1, 10, .inl f4))] sz (fun u => (0 ≤ (u.2.1 2 0).toInt ∧ (u.2.1 2 0).toInt ≤ 10) ∧ RG (u.2.1 3) 10 0 1023 ∧ True) (fun u => [(h0, .inr (3, [.int p1, .int p2, .int p3, .int p4, .ref h1, w0, w1, w2, w3, w4, w5, w6])), (h1, .inr (4, [.ref h2])), (h2, .inl (cy 1, 300, .inl f0)), (h3, .inr (7, [.ref h0, .int p5, .int p6, .ref h4])), (h4, .inl (cy 1, 10, .inl f1)), (h5, .inr (6, [.ref h6, .ref h7])), (h6, .inl (cy 1, 11, .inl (u.2.1 0))), (h7, .inl (cy 1, 64, .inl (u.2.1 1))), (h8, .inr (0, [.int (u.2.1 2 0), .ref h9, w7, w8])), (h9, .inl (cy 1, 10, .inl (u.2.1 3)))]) 0 0 := by
  refine q_ent (own := RX0) (by decide) rfl (Nat.le_of_ble_eq_true rfl) (fun p e s m below meth c ls X hr hlk hnm hK h hA hl => ?_)
  obtain ⟨hx, hb, hml, hown, ht⟩ := id X
  replace hl : lv_has ls 6 [(0, .ref h8), (1, .ref h3), (2, .int p0), (3, .ref h5)] := hl
  refine lv_aload_n hx hb dX0_draw_0 rfl (lv_at hl 0 rfl) ?_
  refine lv_aload_n hx hb dX0_draw_1 rfl (lv_at hl 1 rfl) ?_
  refine q_get X hK h 3 rfl rfl wf_7 0 (by decide) rfl wm_2_38 dX0_draw_2 ?_
  refine q_get X hK h 0 rfl rfl wf_3 1 (by decide) rfl wm_1_80 dX0_draw_5 ?_
  refine q_put (v := .int p2) X hK h 8 rfl rfl wf_0 tyX0 tyX0_ok nmX0 0 (by decide) wm_1_198 rfl rfl rfl (Nat.le_of_ble_eq_true rfl) dX0_draw_8 (fun H locs h_1 => ?_)
  clear h
  replace h_1 : qW D _ _ [(h0, .inr (3, [.int p1, .int p2, .int p3, .int p4, .ref h1, w0, w1, w2, w3, w4, w5, w6])), (h1, .inr (4, [.ref h2])), (h2, .inl (cy 1, 300, .inl f0)), (h3, .inr (7, [.ref h0, .int p5, .int p6, .ref h4])), (h4, .inl (cy 1, 10, .inl f1)), (h5, .inr (6, [.ref h6, .ref h7])), (h6, .inl (cy 1, 11, .inl f2)), (h7, .inl (cy 1, 64, .inl f3)), (h8, .inr (0, [.int p2, .ref h9, w7, w8])), (h9, .inl (cy 1, 10, .inl f4))] _ _ := h_1
  refine lv_aload_n hx hb dX0_draw_11 rfl (lv_at hl 0 rfl) ?_
  refine q_get X hK h_1 8 rfl rfl wf_0 1 (by decide) rfl wm_1_199 dX0_draw_12 ?_
  refine lv_iconst (v := 0) hx hb dX0_draw_15 (by decide) ?_
  refine q_callSv (rest := []) (wr := [(h0, .inr (3, [.int p1, .int p2, .int p3, .int p4, .ref h1, w0, w1, w2, w3, w4, w5, w6])), (h1, .inr (4, [.ref h2])), (h2, .inl (cy 1, 300, .inl f0)), (h3, .inr (7, [.ref h0, .int p5, .int p6, .ref h4])), (h4, .inl (cy 1, 10, .inl f1)), (h5, .inr (6, [.ref h6, .ref h7])), (h6, .inl (cy 1, 11, .inl f2)), (h7, .inl (cy 1, 64, .inl f3)), (h8, .inr (0, [.int p2, .ref h9, w7, w8]))]) X hK hA h_1 (fun sz => gJ7_fill_53178_7 l D cy h9 (0 : Int32) f4 ⟨by decide +kernel, by decide +kernel⟩ (rg_wide rf4 (by decide) (by decide)) sz) wm_4_105 wm_4_107 wm_1_20 hd_J7_fill_53178 wm_4_106 ⟨Nat.le_of_ble_eq_true rfl, Nat.le_of_ble_eq_true rfl⟩ hl.1 rfl (Nat.le_of_ble_eq_true rfl) dX0_draw_16 ⟨Nat.le_of_ble_eq_true rfl, Nat.le_of_ble_eq_true rfl⟩ [9] [0, 1, 2, 3, 4, 5, 6, 7, 8] rfl rfl (by decide) rfl rfl (fun u_2 H locs w_2 h_2 => ?_)
  clear h_1
  obtain ⟨w2_0, _⟩ := w_2
  replace h_2 : qW D _ _ [(h0, .inr (3, [.int p1, .int p2, .int p3, .int p4, .ref h1, w0, w1, w2, w3, w4, w5, w6])), (h1, .inr (4, [.ref h2])), (h2, .inl (cy 1, 300, .inl f0)), (h3, .inr (7, [.ref h0, .int p5, .int p6, .ref h4])), (h4, .inl (cy 1, 10, .inl f1)), (h5, .inr (6, [.ref h6, .ref h7])), (h6, .inl (cy 1, 11, .inl f2)), (h7, .inl (cy 1, 64, .inl f3)), (h8, .inr (0, [.int p2, .ref h9, w7, w8])), (h9, .inl (cy 1, 10, .inl (u_2.2.1 0)))] _ _ := h_2
  refine lv_iconst (v := 0) hx hb dX0_draw_19 (by decide) ?_
  refine lv_istore (lv' := [(4, .int 0), (0, .ref h8), (1, .ref h3), (2, .int p0), (3, .ref h5)]) hx hb dX0_draw_20 hl (by decide) rfl (fun ls_3 hl_3 => ?_)
  clear hl
  refine q_wl (fun (v22_4_0 : Int32) H locs ls => ∃ v22_4_1 : Nat → Int32, ∃ v22_4_2 : Nat → Int32, ∃ v22_4_3 : Nat → Int32, (0 ≤ (v22_4_0).toInt ∧ (v22_4_0).toInt ≤ 10) ∧ RG v22_4_3 10 0 1023 ∧ qW D (va_A [(h0, .inr (3, [.int p1, .int p2, .int p3, .int p4, .ref h1, w0, w1, w2, w3, w4, w5, w6])), (h1, .inr (4, [.ref h2])), (h2, .inl (cy 1, 300, .inl f0)), (h3, .inr (7, [.ref h0, .int p5, .int p6, .ref h4])), (h4, .inl (cy 1, 10, .inl f1)), (h5, .inr (6, [.ref h6, .ref h7])), (h6, .inl (cy 1, 11, .inl f2)), (h7, .inl (cy 1, 64, .inl f3)), (h8, .inr (0, [.int p7, .ref h9, w7, w8])), (h9, .inl (cy 1, 10, .inl f4))] sz) s.heap [(h0, .inr (3, [.int p1, .int p2, .int p3, .int p4, .ref h1, w0, w1, w2, w3, w4, w5, w6])), (h1, .inr (4, [.ref h2])), (h2, .inl (cy 1, 300, .inl f0)), (h3, .inr (7, [.ref h0, .int p5, .int p6, .ref h4])), (h4, .inl (cy 1, 10, .inl f1)), (h5, .inr (6, [.ref h6, .ref h7])), (h6, .inl (cy 1, 11, .inl v22_4_1)), (h7, .inl (cy 1, 64, .inl v22_4_2)), (h8, .inr (0, [.int p2, .ref h9, w7, w8])), (h9, .inl (cy 1, 10, .inl v22_4_3))] H locs ∧ lv_has ls 6 [(0, .ref h8), (1, .ref h3), (2, .int p0), (3, .ref h5), (4, .int v22_4_0)]) (fun (v22_4_0 : Int32) => (11 - (v22_4_0).toInt).toNat) (fun q_22 ih_22 H locs ls hP => ?_) 0 ⟨f2, f3, (u_2.2.1 0), ⟨by decide +kernel, by decide +kernel⟩, (rg_wide w2_0 (by decide) (by decide)), h_2, (lv_sub hl_3 [1, 2, 3, 4, 0] rfl)⟩
  obtain ⟨v22_4_0, rfl⟩ : ∃ z, z = q_22 := ⟨_, rfl⟩
  obtain ⟨v22_4_1, v22_4_2, v22_4_3, hv22_4_0, rv22_4_3, h, hl⟩ := hP
  refine lv_iload hx hb dX0_draw_22 (lv_at hl 4 rfl) ?_
  refine lv_aload_n hx hb dX0_draw_24 rfl (lv_at hl 0 rfl) ?_
  refine q_get X hK h 8 rfl rfl wf_0 0 (by decide) rfl wm_1_198 dX0_draw_25 ?_
  refine lv_icmp_ge (tgt := 106) hx hb dX0_draw_28 (by decide) (fun c_5 => ?_) (fun c_5 => ?_)
  · replace c_5 := i_le (x := p2) (y := v22_4_0) rfl rfl c_5
    exact q_vret X hr hlk hK h (fun _ => 0, fun k => List.getD [v22_4_1, v22_4_2, (fun _ => p2), v22_4_3] k (fun _ => 0), fun _ _ => 0) ⟨(⟨by omega, by omega⟩ : 0 ≤ (p2 : Int32).toInt ∧ (p2 : Int32).toInt ≤ 10), (rg_wide rv22_4_3 (by decide) (by decide)), trivial⟩ [0, 1, 2, 3, 4, 5, 6, 7, 8, 9] rfl rfl dX0_draw_106 (Nat.le_of_ble_eq_true rfl) (Nat.le_of_ble_eq_true rfl)
  · replace c_5 := i_nle (x := p2) (y := v22_4_0) rfl rfl c_5
    refine lv_iload hx hb dX0_draw_31 (lv_at hl 4 rfl) ?_
    refine lv_iconst (v := 1) hx hb dX0_draw_33 (by decide) ?_
    refine lv_iadd hx hb dX0_draw_34 ?_
    obtain ⟨z_6, ez_6, hz_6⟩ := e_add (x := v22_4_0) (y := 1) rfl (show (1 : Int32).toInt = 1 by decide) (by omega) (by omega)
    refine q_c z_6 ez_6 ?_
    clear ez_6
    refine lv_istore (lv' := [(5, .int z_6), (0, .ref h8), (1, .ref h3), (2, .int p0), (3, .ref h5), (4, .int v22_4_0)]) hx hb dX0_draw_35 hl (by decide) rfl (fun ls_7 hl_7 => ?_)
    clear hl
    refine q_wl (fun (v37_8_0 : Int32) H locs ls => ∃ v37_8_1 : Nat → Int32, ∃ v37_8_2 : Nat → Int32, ∃ v37_8_3 : Nat → Int32, (1 ≤ (v37_8_0).toInt ∧ (v37_8_0).toInt ≤ 10) ∧ RG v37_8_1 10 0 1023 ∧ qW D (va_A [(h0, .inr (3, [.int p1, .int p2, .int p3, .int p4, .ref h1, w0, w1, w2, w3, w4, w5, w6])), (h1, .inr (4, [.ref h2])), (h2, .inl (cy 1, 300, .inl f0)), (h3, .inr (7, [.ref h0, .int p5, .int p6, .ref h4])), (h4, .inl (cy 1, 10, .inl f1)), (h5, .inr (6, [.ref h6, .ref h7])), (h6, .inl (cy 1, 11, .inl f2)), (h7, .inl (cy 1, 64, .inl f3)), (h8, .inr (0, [.int p7, .ref h9, w7, w8])), (h9, .inl (cy 1, 10, .inl f4))] sz) s.heap [(h0, .inr (3, [.int p1, .int p2, .int p3, .int p4, .ref h1, w0, w1, w2, w3, w4, w5, w6])), (h1, .inr (4, [.ref h2])), (h2, .inl (cy 1, 300, .inl f0)), (h3, .inr (7, [.ref h0, .int p5, .int p6, .ref h4])), (h4, .inl (cy 1, 10, .inl f1)), (h5, .inr (6, [.ref h6, .ref h7])), (h6, .inl (cy 1, 11, .inl v37_8_2)), (h7, .inl (cy 1, 64, .inl v37_8_3)), (h8, .inr (0, [.int p2, .ref h9, w7, w8])), (h9, .inl (cy 1, 10, .inl v37_8_1))] H locs ∧ lv_has ls 6 [(0, .ref h8), (1, .ref h3), (2, .int p0), (3, .ref h5), (4, .int v22_4_0), (5, .int v37_8_0)]) (fun (v37_8_0 : Int32) => (11 - (v37_8_0).toInt).toNat) (fun q_37 ih_37 H locs ls hP => ?_) z_6 ⟨v22_4_3, v22_4_1, v22_4_2, ⟨by omega, by omega⟩, (rg_wide rv22_4_3 (by decide) (by decide)), h, (lv_sub hl_7 [1, 2, 3, 4, 5, 0] rfl)⟩
    obtain ⟨v37_8_0, rfl⟩ : ∃ z, z = q_37 := ⟨_, rfl⟩
    obtain ⟨v37_8_1, v37_8_2, v37_8_3, hv37_8_0, rv37_8_1, h, hl⟩ := hP
    refine lv_iload hx hb dX0_draw_37 (lv_at hl 5 rfl) ?_
    refine lv_aload_n hx hb dX0_draw_39 rfl (lv_at hl 0 rfl) ?_
    refine q_get X hK h 8 rfl rfl wf_0 0 (by decide) rfl wm_1_198 dX0_draw_40 ?_
    refine lv_icmp_ge (tgt := 100) hx hb dX0_draw_43 (by decide) (fun c_9 => ?_) (fun c_9 => ?_)
    · replace c_9 := i_le (x := p2) (y := v37_8_0) rfl rfl c_9
      obtain ⟨z_10, ez_10, hz_10⟩ := e_add (x := v22_4_0) (y := Int32.ofInt 1) rfl (b := 1) (by decide) (by omega) (by omega)
      refine lv_iinc (v := z_10) (lv' := [(4, .int z_10), (0, .ref h8), (1, .ref h3), (2, .int p0), (3, .ref h5), (5, .int v37_8_0)]) hx hb dX0_draw_100 hl (k := 4) rfl ez_10 (by decide) rfl (fun ls_10 hl_10 => ?_)
      clear hl
      refine lv_goto (tgt := 22) hx hb dX0_draw_103 (by decide) ?_
      exact ih_22 z_10 (by show (11 - (z_10).toInt).toNat < (11 - (v22_4_0).toInt).toNat; omega) _ _ _ ⟨v37_8_2, v37_8_3, v37_8_1, ⟨by omega, by omega⟩, (rg_wide rv37_8_1 (by decide) (by decide)), h, (lv_sub hl_10 [1, 2, 3, 4, 0] rfl)⟩
    · replace c_9 := i_nle (x := p2) (y := v37_8_0) rfl rfl c_9
      refine lv_aload_n hx hb dX0_draw_46 rfl (lv_at hl 3 rfl) ?_
      refine lv_aload_n hx hb dX0_draw_47 rfl (lv_at hl 1 rfl) ?_
      refine lv_iload hx hb dX0_draw_48 (lv_at hl 4 rfl) ?_
      refine lv_aload_n hx hb dX0_draw_50 rfl (lv_at hl 1 rfl) ?_
      refine q_get X hK h 3 rfl rfl wf_7 3 (by decide) rfl wm_2_52 dX0_draw_51 ?_
      refine lv_iload hx hb dX0_draw_54 (lv_at hl 4 rfl) ?_
      refine q_iald X hK h 4 rfl (i_in rfl (by omega) (by omega)) dX0_draw_56 ?_
      obtain ⟨z_11, ez_11, hz_11⟩ := rg_get rf1 (x := v22_4_0) rfl (by omega) (by omega)
      refine q_c z_11 ez_11 ?_
      clear ez_11
      refine lv_iload hx hb dX0_draw_57 (lv_at hl 5 rfl) ?_
      refine lv_iload_n hx hb dX0_draw_59 rfl (lv_at hl 2 rfl) ?_
      refine q_callVi (rest := []) (wr := [(h8, .inr (0, [.int p2, .ref h9, w7, w8])), (h9, .inl (cy 1, 10, .inl v37_8_1))]) X hK hA h (fun sz => gX6_areOpposites_14 l D cy h0 h1 h2 h3 h4 h5 h6 h7 v22_4_0 z_11 v37_8_0 p0 p1 p2 p3 p4 w0 w1 w2 w3 w4 w5 w6 f0 p5 p6 f1 v37_8_2 v37_8_3 ⟨by omega, by omega⟩ ⟨by omega, by omega⟩ ⟨by omega, by omega⟩ ⟨by omega, by omega⟩ ⟨by omega, by omega⟩ ⟨by omega, by omega⟩ ⟨by omega, by omega⟩ ⟨by omega, by omega⟩ ⟨by omega, by omega⟩ ⟨by omega, by omega⟩ (rg_wide rf0 (by decide) (by decide)) (rg_wide rf1 (by decide) (by decide)) sz) wm_4_108 wm_3_199 wm_1_5 hd_X6_areOpposites wm_3_197 wm_3_198 (ci := 6) (q0 := 5) rfl rfl ⟨Nat.le_of_ble_eq_true rfl, Nat.le_of_ble_eq_true rfl⟩ hl.1 rfl (Nat.le_of_ble_eq_true rfl) dX0_draw_60 ⟨Nat.le_of_ble_eq_true rfl, Nat.le_of_ble_eq_true rfl⟩ [0, 1, 2, 3, 4, 5, 6, 7] [8, 9] rfl rfl (by decide) rfl rfl (fun r_12 u_12 H locs w_12 h_12 => ?_)
      clear h
      obtain ⟨wr_12, _⟩ := w_12
      replace h_12 : qW D _ _ [(h8, .inr (0, [.int p2, .ref h9, w7, w8])), (h9, .inl (cy 1, 10, .inl v37_8_1)), (h0, .inr (3, [.int p1, .int p2, .int p3, .int p4, .ref h1, w0, w1, w2, w3, w4, w5, w6])), (h1, .inr (4, [.ref h2])), (h2, .inl (cy 1, 300, .inl f0)), (h3, .inr (7, [.ref h0, .int p5, .int p6, .ref h4])), (h4, .inl (cy 1, 10, .inl f1)), (h5, .inr (6, [.ref h6, .ref h7])), (h6, .inl (cy 1, 11, .inl (u_12.2.1 0))), (h7, .inl (cy 1, 64, .inl (u_12.2.1 1)))] _ _ := h_12
      refine q_jn (pc2 := 94) (fun H locs ls st => ∃ v94_13_0 : Nat → Int32, RG v94_13_0 10 0 1023 ∧ st = [] ∧ qW D (va_A [(h0, .inr (3, [.int p1, .int p2, .int p3, .int p4, .ref h1, w0, w1, w2, w3, w4, w5, w6])), (h1, .inr (4, [.ref h2])), (h2, .inl (cy 1, 300, .inl f0)), (h3, .inr (7, [.ref h0, .int p5, .int p6, .ref h4])), (h4, .inl (cy 1, 10, .inl f1)), (h5, .inr (6, [.ref h6, .ref h7])), (h6, .inl (cy 1, 11, .inl f2)), (h7, .inl (cy 1, 64, .inl f3)), (h8, .inr (0, [.int p7, .ref h9, w7, w8])), (h9, .inl (cy 1, 10, .inl f4))] sz) s.heap [(h8, .inr (0, [.int p2, .ref h9, w7, w8])), (h9, .inl (cy 1, 10, .inl v94_13_0)), (h0, .inr (3, [.int p1, .int p2, .int p3, .int p4, .ref h1, w0, w1, w2, w3, w4, w5, w6])), (h1, .inr (4, [.ref h2])), (h2, .inl (cy 1, 300, .inl f0)), (h3, .inr (7, [.ref h0, .int p5, .int p6, .ref h4])), (h4, .inl (cy 1, 10, .inl f1)), (h5, .inr (6, [.ref h6, .ref h7])), (h6, .inl (cy 1, 11, .inl (u_12.2.1 0))), (h7, .inl (cy 1, 64, .inl (u_12.2.1 1)))] H locs ∧ lv_has ls 6 [(0, .ref h8), (1, .ref h3), (2, .int p0), (3, .ref h5), (4, .int v22_4_0), (5, .int v37_8_0)]) (fun H locs ls st hP => ?_) (fun J_94 => ?_)
      · obtain ⟨v94_13_0, rv94_13_0, rfl, h, hl⟩ := hP
        obtain ⟨z_14, ez_14, hz_14⟩ := e_add (x := v37_8_0) (y := Int32.ofInt 1) rfl (b := 1) (by decide) (by omega) (by omega)
        refine lv_iinc (v := z_14) (lv' := [(5, .int z_14), (0, .ref h8), (1, .ref h3), (2, .int p0), (3, .ref h5), (4, .int v22_4_0)]) hx hb dX0_draw_94 hl (k := 5) rfl ez_14 (by decide) rfl (fun ls_14 hl_14 => ?_)
        clear hl
        refine lv_goto (tgt := 37) hx hb dX0_draw_97 (by decide) ?_
        exact ih_37 z_14 (by show (11 - (z_14).toInt).toNat < (11 - (v37_8_0).toInt).toNat; omega) _ _ _ ⟨v94_13_0, (u_12.2.1 0), (u_12.2.1 1), ⟨by omega, by omega⟩, (rg_wide rv94_13_0 (by decide) (by decide)), (q_re h [2, 3, 4, 5, 6, 7, 8, 9, 0, 1] rfl rfl), (lv_sub hl_14 [1, 2, 3, 4, 5, 0] rfl)⟩
      · skip
        refine lv_if_eq (tgt := 94) hx hb dX0_draw_63 (by decide) (fun c_15 => ?_) (fun c_15 => ?_)
        · replace c_15 := i_eq (x := r_12) (y := 0) rfl (show (0 : Int32).toInt = 0 by decide) c_15
          exact J_94 _ _ _ _ ⟨v37_8_1, (rg_wide rv37_8_1 (by decide) (by decide)), rfl, h_12, (lv_sub hl [0, 1, 2, 3, 4, 5] rfl)⟩
        · replace c_15 := i_ne (x := r_12) (y := 0) rfl (show (0 : Int32).toInt = 0 by decide) c_15
          refine lv_aload_n hx hb dX0_draw_66 rfl (lv_at hl 0 rfl) ?_
          refine q_get X hK h_12 0 rfl rfl wf_0 1 (by decide) rfl wm_1_199 dX0_draw_67 ?_
          refine lv_iload hx hb dX0_draw_70 (lv_at hl 4 rfl) ?_
          refine lv_dup2_11 hx hb dX0_draw_72 rfl rfl ?_
          refine q_iald X hK h_12 1 rfl (i_in rfl (by omega) (by omega)) dX0_draw_73 ?_
          obtain ⟨z_16, ez_16, hz_16⟩ := rg_get rv37_8_1 (x := v22_4_0) rfl (by omega) (by omega)
          refine q_c z_16 ez_16 ?_
          clear ez_16
          refine lv_iconst (v := 1) hx hb dX0_draw_74 (by decide) ?_
          refine lv_iload hx hb dX0_draw_75 (lv_at hl 5 rfl) ?_
          refine lv_ishl hx hb dX0_draw_77 ?_
          obtain ⟨z_17, ez_17, hz_17⟩ := e_shlk (p := v37_8_0) 9 (by decide) rfl (by omega) (by omega)
          refine q_c z_17 ez_17 ?_
          clear ez_17
          refine lv_ior hx hb dX0_draw_78 ?_
          obtain ⟨z_18, ez_18, hz_18⟩ := e_or (x := z_16) (y := z_17) 10 (by decide) rfl rfl (by omega) (by omega) (by omega) (by omega)
          refine q_c z_18 ez_18 ?_
          clear ez_18
          refine q_iast X hK h_12 1 rfl (i_in rfl (by omega) (by omega)) dX0_draw_79 (fun H locs h_20 => ?_)
          clear h_12
          replace h_20 : qW D _ _ [(h8, .inr (0, [.int p2, .ref h9, w7, w8])), (h9, .inl (cy 1, 10, .inl (upd v37_8_1 (Int32.toNatClampNeg v22_4_0) z_18))), (h0, .inr (3, [.int p1, .int p2, .int p3, .int p4, .ref h1, w0, w1, w2, w3, w4, w5, w6])), (h1, .inr (4, [.ref h2])), (h2, .inl (cy 1, 300, .inl f0)), (h3, .inr (7, [.ref h0, .int p5, .int p6, .ref h4])), (h4, .inl (cy 1, 10, .inl f1)), (h5, .inr (6, [.ref h6, .ref h7])), (h6, .inl (cy 1, 11, .inl (u_12.2.1 0))), (h7, .inl (cy 1, 64, .inl (u_12.2.1 1)))] _ _ := h_20
          obtain ⟨F_19, eF_19, rF_19⟩ := rg_upd rv37_8_1 (Int32.toNatClampNeg v22_4_0) (x := z_18) rfl (by omega) (by omega)
          rw [eF_19] at h_20
          clear eF_19
          refine lv_aload_n hx hb dX0_draw_80 rfl (lv_at hl 0 rfl) ?_
          refine q_get X hK h_20 0 rfl rfl wf_0 1 (by decide) rfl wm_1_199 dX0_draw_81 ?_
          refine lv_iload hx hb dX0_draw_84 (lv_at hl 5 rfl) ?_
          refine lv_dup2_11 hx hb dX0_draw_86 rfl rfl ?_
          refine q_iald X hK h_20 1 rfl (i_in rfl (by omega) (by omega)) dX0_draw_87 ?_
          obtain ⟨z_21, ez_21, hz_21⟩ := rg_get rF_19 (x := v37_8_0) rfl (by omega) (by omega)
          refine q_c z_21 ez_21 ?_
          clear ez_21
          refine lv_iconst (v := 1) hx hb dX0_draw_88 (by decide) ?_
          refine lv_iload hx hb dX0_draw_89 (lv_at hl 4 rfl) ?_
          refine lv_ishl hx hb dX0_draw_91 ?_
          obtain ⟨z_22, ez_22, hz_22⟩ := e_shlk (p := v22_4_0) 9 (by decide) rfl (by omega) (by omega)
          refine q_c z_22 ez_22 ?_
          clear ez_22
          refine lv_ior hx hb dX0_draw_92 ?_
          obtain ⟨z_23, ez_23, hz_23⟩ := e_or (x := z_21) (y := z_22) 10 (by decide) rfl rfl (by omega) (by omega) (by omega) (by omega)
          refine q_c z_23 ez_23 ?_
          clear ez_23
          refine q_iast X hK h_20 1 rfl (i_in rfl (by omega) (by omega)) dX0_draw_93 (fun H locs h_25 => ?_)
          clear h_20
          replace h_25 : qW D _ _ [(h8, .inr (0, [.int p2, .ref h9, w7, w8])), (h9, .inl (cy 1, 10, .inl (upd F_19 (Int32.toNatClampNeg v37_8_0) z_23))), (h0, .inr (3, [.int p1, .int p2, .int p3, .int p4, .ref h1, w0, w1, w2, w3, w4, w5, w6])), (h1, .inr (4, [.ref h2])), (h2, .inl (cy 1, 300, .inl f0)), (h3, .inr (7, [.ref h0, .int p5, .int p6, .ref h4])), (h4, .inl (cy 1, 10, .inl f1)), (h5, .inr (6, [.ref h6, .ref h7])), (h6, .inl (cy 1, 11, .inl (u_12.2.1 0))), (h7, .inl (cy 1, 64, .inl (u_12.2.1 1)))] _ _ := h_25
          obtain ⟨F_24, eF_24, rF_24⟩ := rg_upd rF_19 (Int32.toNatClampNeg v37_8_0) (x := z_23) rfl (by omega) (by omega)
          rw [eF_24] at h_25
          clear eF_24
          exact J_94 _ _ _ _ ⟨F_24, (rg_wide rF_24 (by decide) (by decide)), rfl, h_25, (lv_sub hl [0, 1, 2, 3, 4, 5] rfl)⟩
set_option maxHeartbeats 4000000 in
set_option maxRecDepth 100000 in
theorem gX0_redraw_17 (l : Launch) (D : va_G) (cy : Nat → ClassId) (h0 : Nat) (h1 : Nat) (p0 : Int32) (p1 : Int32) (p2 : Int32) (w0 : Value) (w1 : Value) (f0 : Nat → Int32) (hp0 : 0 ≤ (p0).toInt ∧ (p0).toInt ≤ 9) (hp1 : 0 ≤ (p1).toInt ∧ (p1).toInt ≤ 1023) (hp2 : 0 ≤ (p2).toInt ∧ (p2).toInt ≤ 10) (rf0 : RG f0 10 0 1023) (sz : Nat) : MV l yX0_redraw cX0_redraw 4 { frames := 0, cells := 0, slots := 0, locals := 0 } [.ref h0, .int p0, .int p1] D cy [(h0, .inr (0, [.int p2, .ref h1, w0, w1])), (h1, .inl (cy 1, 10, .inl f0))] sz (fun u => True) (fun u => [(h0, .inr (0, [.int p2, .ref h1, w0, w1])), (h1, .inl (cy 1, 10, .inl (u.2.1 0)))]) 0 0 := by
  refine q_ent (own := RX0) (by decide) rfl (Nat.le_of_ble_eq_true rfl) (fun p e s m below meth c ls X hr hlk hnm hK h hA hl => ?_)
  obtain ⟨hx, hb, hml, hown, ht⟩ := id X
  replace hl : lv_has ls 4 [(0, .ref h0), (1, .int p0), (2, .int p1)] := hl
  refine lv_aload_n hx hb dX0_redraw_0 rfl (lv_at hl 0 rfl) ?_
  refine q_get X hK h 0 rfl rfl wf_0 1 (by decide) rfl wm_1_199 dX0_redraw_1 ?_
  refine lv_iload_n hx hb dX0_redraw_4 rfl (lv_at hl 1 rfl) ?_
  refine lv_iload_n hx hb dX0_redraw_5 rfl (lv_at hl 2 rfl) ?_
  refine q_iast X hK h 1 rfl (i_in rfl (by omega) (by omega)) dX0_redraw_6 (fun H locs h_2 => ?_)
  clear h
  replace h_2 : qW D _ _ [(h0, .inr (0, [.int p2, .ref h1, w0, w1])), (h1, .inl (cy 1, 10, .inl (upd f0 (Int32.toNatClampNeg p0) p1)))] _ _ := h_2
  obtain ⟨F_1, eF_1, rF_1⟩ := rg_upd rf0 (Int32.toNatClampNeg p0) (x := p1) rfl (by omega) (by omega)
  rw [eF_1] at h_2
  clear eF_1
  refine lv_iconst (v := 0) hx hb dX0_redraw_7 (by decide) ?_
  refine lv_istore_n (lv' := [(3, .int 0), (0, .ref h0), (1, .int p0), (2, .int p1)]) hx hb dX0_redraw_8 rfl hl (by decide) rfl (fun ls_3 hl_3 => ?_)
  clear hl
  refine q_wl (fun (v9_4_0 : Int32) H locs ls => ∃ v9_4_1 : Nat → Int32, (0 ≤ (v9_4_0).toInt ∧ (v9_4_0).toInt ≤ 10) ∧ qW D (va_A [(h0, .inr (0, [.int p2, .ref h1, w0, w1])), (h1, .inl (cy 1, 10, .inl f0))] sz) s.heap [(h0, .inr (0, [.int p2, .ref h1, w0, w1])), (h1, .inl (cy 1, 10, .inl v9_4_1))] H locs ∧ lv_has ls 4 [(0, .ref h0), (1, .int p0), (2, .int p1), (3, .int v9_4_0)]) (fun (v9_4_0 : Int32) => (11 - (v9_4_0).toInt).toNat) (fun q_9 ih_9 H locs ls hP => ?_) 0 ⟨F_1, ⟨by decide +kernel, by decide +kernel⟩, h_2, (lv_sub hl_3 [1, 2, 3, 0] rfl)⟩
  obtain ⟨v9_4_0, rfl⟩ : ∃ z, z = q_9 := ⟨_, rfl⟩
  obtain ⟨v9_4_1, hv9_4_0, h, hl⟩ := hP
  refine lv_iload_n hx hb dX0_redraw_9 rfl (lv_at hl 3 rfl) ?_
  refine lv_aload_n hx hb dX0_redraw_10 rfl (lv_at hl 0 rfl) ?_
  refine q_get X hK h 0 rfl rfl wf_0 0 (by decide) rfl wm_1_198 dX0_redraw_11 ?_
  refine lv_icmp_ge (tgt := 54) hx hb dX0_redraw_14 (by decide) (fun c_5 => ?_) (fun c_5 => ?_)
  · replace c_5 := i_le (x := p2) (y := v9_4_0) rfl rfl c_5
    exact q_vret X hr hlk hK h (fun _ => 0, fun k => List.getD [v9_4_1] k (fun _ => 0), fun _ _ => 0) trivial [0, 1] rfl rfl dX0_redraw_54 (Nat.le_of_ble_eq_true rfl) (Nat.le_of_ble_eq_true rfl)
  · replace c_5 := i_nle (x := p2) (y := v9_4_0) rfl rfl c_5
    refine lv_iload_n hx hb dX0_redraw_17 rfl (lv_at hl 3 rfl) ?_
    refine lv_iload_n hx hb dX0_redraw_18 rfl (lv_at hl 1 rfl) ?_
    refine q_jn (pc2 := 48) (fun H locs ls st => ∃ v48_6_0 : Nat → Int32, st = [] ∧ qW D (va_A [(h0, .inr (0, [.int p2, .ref h1, w0, w1])), (h1, .inl (cy 1, 10, .inl f0))] sz) s.heap [(h0, .inr (0, [.int p2, .ref h1, w0, w1])), (h1, .inl (cy 1, 10, .inl v48_6_0))] H locs ∧ lv_has ls 4 [(0, .ref h0), (1, .int p0), (2, .int p1), (3, .int v9_4_0)]) (fun H locs ls st hP => ?_) (fun J_48 => ?_)
    · obtain ⟨v48_6_0, rfl, h, hl⟩ := hP
      obtain ⟨z_7, ez_7, hz_7⟩ := e_add (x := v9_4_0) (y := Int32.ofInt 1) rfl (b := 1) (by decide) (by omega) (by omega)
      refine lv_iinc (v := z_7) (lv' := [(3, .int z_7), (0, .ref h0), (1, .int p0), (2, .int p1)]) hx hb dX0_redraw_48 hl (k := 3) rfl ez_7 (by decide) rfl (fun ls_7 hl_7 => ?_)
      clear hl
      refine lv_goto (tgt := 9) hx hb dX0_redraw_51 (by decide) ?_
      exact ih_9 z_7 (by show (11 - (z_7).toInt).toNat < (11 - (v9_4_0).toInt).toNat; omega) _ _ _ ⟨v48_6_0, ⟨by omega, by omega⟩, h, (lv_sub hl_7 [1, 2, 3, 0] rfl)⟩
    · skip
      refine lv_icmp_eq (tgt := 48) hx hb dX0_redraw_19 (by decide) (fun c_8 => ?_) (fun c_8 => ?_)
      · replace c_8 := i_eq (x := v9_4_0) (y := p0) rfl rfl c_8
        exact J_48 _ _ _ _ ⟨v9_4_1, rfl, h, (lv_sub hl [0, 1, 2, 3] rfl)⟩
      · replace c_8 := i_ne (x := v9_4_0) (y := p0) rfl rfl c_8
        refine lv_aload_n hx hb dX0_redraw_22 rfl (lv_at hl 0 rfl) ?_
        refine q_get X hK h 0 rfl rfl wf_0 1 (by decide) rfl wm_1_199 dX0_redraw_23 ?_
        refine lv_iload_n hx hb dX0_redraw_26 rfl (lv_at hl 3 rfl) ?_
        refine lv_aload_n hx hb dX0_redraw_27 rfl (lv_at hl 0 rfl) ?_
        refine q_get X hK h 0 rfl rfl wf_0 1 (by decide) rfl wm_1_199 dX0_redraw_28 ?_
        refine lv_iload_n hx hb dX0_redraw_31 rfl (lv_at hl 3 rfl) ?_
        refine q_iald X hK h 1 rfl (i_in rfl (by omega) (by omega)) dX0_redraw_32 ?_
        refine q_any (fun z_9 hz_9 => ?_)
        refine lv_iconst (v := 1) hx hb dX0_redraw_33 (by decide) ?_
        refine lv_iload_n hx hb dX0_redraw_34 rfl (lv_at hl 1 rfl) ?_
        refine lv_ishl hx hb dX0_redraw_35 ?_
        obtain ⟨z_10, ez_10, hz_10⟩ := e_shlk (p := p0) 9 (by decide) rfl (by omega) (by omega)
        refine q_c z_10 ez_10 ?_
        clear ez_10
        refine lv_iconst (v := (-1)) hx hb dX0_redraw_36 (by decide) ?_
        refine lv_ixor hx hb dX0_redraw_37 ?_
        refine q_any (fun z_11 hz_11 => ?_)
        refine lv_iand hx hb dX0_redraw_38 ?_
        refine q_any (fun z_12 hz_12 => ?_)
        refine lv_iload_n hx hb dX0_redraw_39 rfl (lv_at hl 2 rfl) ?_
        refine lv_iload_n hx hb dX0_redraw_40 rfl (lv_at hl 3 rfl) ?_
        refine lv_ishr hx hb dX0_redraw_41 ?_
        obtain ⟨z_13, ez_13, hz_13⟩ := e_shr (x := p1) v9_4_0 rfl (by omega)
        refine q_c z_13 ez_13 ?_
        clear ez_13
        refine lv_iconst (v := 1) hx hb dX0_redraw_42 (by decide) ?_
        refine lv_iand hx hb dX0_redraw_43 ?_
        obtain ⟨z_14, ez_14, hz_14⟩ := e_and2 (x := z_13) (y := 1) (show (1 : Int32).toInt = 1 by decide) (by omega)
        refine q_c z_14 ez_14 ?_
        clear ez_14
        refine lv_iload_n hx hb dX0_redraw_44 rfl (lv_at hl 1 rfl) ?_
        refine lv_ishl hx hb dX0_redraw_45 ?_
        refine q_any (fun z_15 hz_15 => ?_)
        refine lv_ior hx hb dX0_redraw_46 ?_
        refine q_any (fun z_16 hz_16 => ?_)
        refine q_iast X hK h 1 rfl (i_in rfl (by omega) (by omega)) dX0_redraw_47 (fun H locs h_18 => ?_)
        clear h
        replace h_18 : qW D _ _ [(h0, .inr (0, [.int p2, .ref h1, w0, w1])), (h1, .inl (cy 1, 10, .inl (upd v9_4_1 (Int32.toNatClampNeg v9_4_0) z_16)))] _ _ := h_18
        obtain ⟨F_17, eF_17⟩ : ∃ z, (upd v9_4_1 (Int32.toNatClampNeg v9_4_0) z_16) = z := ⟨_, rfl⟩
        rw [eF_17] at h_18
        clear eF_17
        exact J_48 _ _ _ _ ⟨F_17, rfl, h_18, (lv_sub hl [0, 1, 2, 3] rfl)⟩
set_option maxHeartbeats 4000000 in
set_option maxRecDepth 100000 in
theorem gX0_twosOf_18 (l : Launch) (D : va_G) (cy : Nat → ClassId) (h0 : Nat) (h1 : Nat) (p0 : Int32) (p1 : Int32) (w0 : Value) (w1 : Value) (f0 : Nat → Int32) (hp0 : 0 ≤ (p0).toInt ∧ (p0).toInt ≤ 1023) (hp1 : 0 ≤ (p1).toInt ∧ (p1).toInt ≤ 10) (sz : Nat) : MI l yX0_twosOf cX0_twosOf 2 .int { frames := 0, cells := 0, slots := 0, locals := 0 } [.ref h0, .int p0] D cy [(h0, .inr (0, [.int p1, w0, w1, .ref h1])), (h1, .inl (cy 1, 1024, .inl f0))] sz (fun r u => ((-2147483648) ≤ r.toInt ∧ r.toInt ≤ 2147483647) ∧ True) (fun u => [(h0, .inr (0, [.int p1, w0, w1, .ref h1])), (h1, .inl (cy 1, 1024, .inl f0))]) 0 0 := by
  refine q_ent (own := RX0) (by decide) rfl (Nat.le_of_ble_eq_true rfl) (fun p e s m below meth c ls X hr hlk hnm hK h hA hl => ?_)
  obtain ⟨hx, hb, hml, hown, ht⟩ := id X
  replace hl : lv_has ls 2 [(0, .ref h0), (1, .int p0)] := hl
  refine lv_aload_n hx hb dX0_twosOf_0 rfl (lv_at hl 0 rfl) ?_
  refine q_get X hK h 0 rfl rfl wf_0 3 (by decide) rfl wm_1_203 dX0_twosOf_1 ?_
  refine lv_iload_n hx hb dX0_twosOf_4 rfl (lv_at hl 1 rfl) ?_
  refine q_iald X hK h 1 rfl (i_in rfl (by omega) (by omega)) dX0_twosOf_5 ?_
  refine q_any (fun z_1 hz_1 => ?_)
  refine lv_sipush (v := 1000) hx hb dX0_twosOf_6 (by decide) ?_
  refine lv_idiv hx hb dX0_twosOf_9 (by decide) ?_
  refine q_any (fun z_2 hz_2 => ?_)
  exact q_iret X hr hlk hK h rfl (fun _ => 0, fun _ _ => 0, fun _ _ => 0) ⟨⟨by omega, by omega⟩, trivial⟩ [0, 1] rfl rfl dX0_twosOf_10 (Nat.le_of_ble_eq_true rfl) (Nat.le_of_ble_eq_true rfl)
