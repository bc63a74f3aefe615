set_option maxHeartbeats 4000000 in
set_option maxRecDepth 100000 in
theorem gX7_inTownOn_1 (l : Launch) (D : va_G) (cy : Nat → ClassId) (h0 : Nat) (h1 : Nat) (h2 : Nat) (h3 : Nat) (p0 : Int32) (p1 : Int32) (p2 : Int32) (p3 : Int32) (p4 : Int32) (w0 : Value) (w1 : Value) (w2 : Value) (w3 : Value) (f0 : Nat → Int32) (f1 : Nat → Int32) (p5 : Int32) (p6 : Int32) (w4 : Value) (hp0 : 0 ≤ (p0).toInt ∧ (p0).toInt ≤ 62000) (hp1 : 1 ≤ (p1).toInt ∧ (p1).toInt ≤ 3) (hp2 : 0 ≤ (p2).toInt ∧ (p2).toInt ≤ 10) (hp3 : 0 ≤ (p3).toInt ∧ (p3).toInt ≤ 920) (hp4 : 0 ≤ (p4).toInt ∧ (p4).toInt ≤ 999) (hp5 : 0 ≤ (p5).toInt ∧ (p5).toInt ≤ 60000) (hp6 : 0 ≤ (p6).toInt ∧ (p6).toInt ≤ 1023) (rf0 : RG f0 10 0 999) (rf1 : RG f1 10 0 1000000) (sz : Nat) : MI l yX7_inTownOn cX7_inTownOn 4 .int { frames := 0, cells := 0, slots := 0, locals := 0 } [.ref h3, .int p0] D cy [(h0, .inr (3, [.int p1, .int p2, .int p3, .int p4, w0, w0, w0, w1, .ref h1, .ref h2, w2, w3])), (h1, .inl (cy 1, 10, .inl f0)), (h2, .inl (cy 1, 10, .inl f1)), (h3, .inr (7, [.ref h0, .int p5, .int p6, w4]))] sz (fun r u => (0 ≤ r.toInt ∧ r.toInt ≤ 1023) ∧ True) (fun u => [(h0, .inr (3, [.int p1, .int p2, .int p3, .int p4, w0, w0, w0, w1, .ref h1, .ref h2, w2, w3])), (h1, .inl (cy 1, 10, .inl f0)), (h2, .inl (cy 1, 10, .inl f1)), (h3, .inr (7, [.ref h0, .int p5, .int p6, w4]))]) 0 0 := by
  refine q_ent (own := RX7) (by decide) rfl (Nat.le_of_ble_eq_true rfl) (fun p e s m below meth c ls X hr hlk hnm hK h hA hl => ?_)
  obtain ⟨hx, hb, hml, hown, ht⟩ := id X
  replace hl : lv_has ls 4 [(0, .ref h3), (1, .int p0)] := hl
  refine lv_iconst (v := 0) hx hb dX7_inTownOn_0 (by decide) ?_
  refine lv_istore_n (lv' := [(2, .int 0), (0, .ref h3), (1, .int p0)]) hx hb dX7_inTownOn_1 rfl hl (by decide) rfl (fun ls_1 hl_1 => ?_)
  clear hl
  refine lv_iconst (v := 0) hx hb dX7_inTownOn_2 (by decide) ?_
  refine lv_istore_n (lv' := [(3, .int 0), (2, .int 0), (0, .ref h3), (1, .int p0)]) hx hb dX7_inTownOn_3 rfl hl_1 (by decide) rfl (fun ls_2 hl_2 => ?_)
  clear hl_1
  refine q_wl (fun (q : Int32 × Int32) H locs ls => match q with | (v4_3_0, v4_3_1) => (0 ≤ (v4_3_0).toInt ∧ (v4_3_0).toInt ≤ 10) ∧ (0 ≤ (v4_3_1).toInt ∧ (v4_3_1).toInt ≤ 1023) ∧ qW D (va_A [(h0, .inr (3, [.int p1, .int p2, .int p3, .int p4, w0, w0, w0, w1, .ref h1, .ref h2, w2, w3])), (h1, .inl (cy 1, 10, .inl f0)), (h2, .inl (cy 1, 10, .inl f1)), (h3, .inr (7, [.ref h0, .int p5, .int p6, w4]))] sz) s.heap [(h0, .inr (3, [.int p1, .int p2, .int p3, .int p4, w0, w0, w0, w1, .ref h1, .ref h2, w2, w3])), (h1, .inl (cy 1, 10, .inl f0)), (h2, .inl (cy 1, 10, .inl f1)), (h3, .inr (7, [.ref h0, .int p5, .int p6, w4]))] H locs ∧ lv_has ls 4 [(0, .ref h3), (1, .int p0), (2, .int v4_3_1), (3, .int v4_3_0)]) (fun (q : Int32 × Int32) => match q with | (v4_3_0, v4_3_1) => (11 - (v4_3_0).toInt).toNat) (fun q_4 ih_4 H locs ls hP => ?_) (0, 0) ⟨⟨by decide +kernel, by decide +kernel⟩, ⟨by decide +kernel, by decide +kernel⟩, h, (lv_sub hl_2 [2, 3, 1, 0] rfl)⟩
  obtain ⟨v4_3_0, v4_3_1⟩ := q_4
  obtain ⟨hv4_3_0, hv4_3_1, h, hl⟩ := hP
  refine lv_iload_n hx hb dX7_inTownOn_4 rfl (lv_at hl 3 rfl) ?_
  refine lv_aload_n hx hb dX7_inTownOn_5 rfl (lv_at hl 0 rfl) ?_
  refine q_get X hK h 3 rfl rfl wf_7 0 (by decide) rfl wm_2_37 dX7_inTownOn_6 ?_
  refine q_get X hK h 0 rfl rfl wf_3 1 (by decide) rfl wm_1_83 dX7_inTownOn_9 ?_
  refine lv_icmp_ge (tgt := 53) hx hb dX7_inTownOn_12 (by decide) (fun c_4 => ?_) (fun c_4 => ?_)
  · replace c_4 := i_le (x := p2) (y := v4_3_0) rfl rfl c_4
    refine lv_iload_n hx hb dX7_inTownOn_53 rfl (lv_at hl 2 rfl) ?_
    refine lv_aload_n hx hb dX7_inTownOn_54 rfl (lv_at hl 0 rfl) ?_
    refine q_get X hK h 3 rfl rfl wf_7 2 (by decide) rfl wm_2_48 dX7_inTownOn_55 ?_
    refine lv_iconst (v := (-1)) hx hb dX7_inTownOn_58 (by decide) ?_
    refine lv_ixor hx hb dX7_inTownOn_59 ?_
    refine q_any (fun z_5 hz_5 => ?_)
    refine lv_iand hx hb dX7_inTownOn_60 ?_
    obtain ⟨z_6, ez_6, hz_6⟩ := e_and1 (x := v4_3_1) (y := z_5) rfl (by omega)
    refine q_c z_6 ez_6 ?_
    clear ez_6
    exact q_iret X hr hlk hK h rfl (fun _ => 0, fun _ _ => 0, fun _ _ => 0) ⟨⟨by omega, by omega⟩, trivial⟩ [0, 1, 2, 3] rfl rfl dX7_inTownOn_61 (Nat.le_of_ble_eq_true rfl) (Nat.le_of_ble_eq_true rfl)
  · replace c_4 := i_nle (x := p2) (y := v4_3_0) rfl rfl c_4
    refine lv_aload_n hx hb dX7_inTownOn_15 rfl (lv_at hl 0 rfl) ?_
    refine q_get X hK h 3 rfl rfl wf_7 0 (by decide) rfl wm_2_37 dX7_inTownOn_16 ?_
    refine q_get X hK h 0 rfl rfl wf_3 8 (by decide) rfl wm_1_106 dX7_inTownOn_19 ?_
    refine lv_iload_n hx hb dX7_inTownOn_22 rfl (lv_at hl 3 rfl) ?_
    refine q_iald X hK h 1 rfl (i_in rfl (by omega) (by omega)) dX7_inTownOn_23 ?_
    obtain ⟨z_7, ez_7, hz_7⟩ := rg_get rf0 (x := v4_3_0) rfl (by omega) (by omega)
    refine q_c z_7 ez_7 ?_
    clear ez_7
    refine lv_iload_n hx hb dX7_inTownOn_24 rfl (lv_at hl 1 rfl) ?_
    refine q_jn (pc2 := 47) (fun H locs ls st => ∃ v47_8_0 : Int32, (0 ≤ (v47_8_0).toInt ∧ (v47_8_0).toInt ≤ 1023) ∧ st = [] ∧ qW D (va_A [(h0, .inr (3, [.int p1, .int p2, .int p3, .int p4, w0, w0, w0, w1, .ref h1, .ref h2, w2, w3])), (h1, .inl (cy 1, 10, .inl f0)), (h2, .inl (cy 1, 10, .inl f1)), (h3, .inr (7, [.ref h0, .int p5, .int p6, w4]))] sz) s.heap [(h0, .inr (3, [.int p1, .int p2, .int p3, .int p4, w0, w0, w0, w1, .ref h1, .ref h2, w2, w3])), (h1, .inl (cy 1, 10, .inl f0)), (h2, .inl (cy 1, 10, .inl f1)), (h3, .inr (7, [.ref h0, .int p5, .int p6, w4]))] H locs ∧ lv_has ls 4 [(0, .ref h3), (1, .int p0), (2, .int v47_8_0), (3, .int v4_3_0)]) (fun H locs ls st hP => ?_) (fun J_47 => ?_)
    · obtain ⟨v47_8_0, hv47_8_0, rfl, h, hl⟩ := hP
      obtain ⟨z_9, ez_9, hz_9⟩ := e_add (x := v4_3_0) (y := Int32.ofInt 1) rfl (b := 1) (by decide) (by omega) (by omega)
      refine lv_iinc (v := z_9) (lv' := [(3, .int z_9), (0, .ref h3), (1, .int p0), (2, .int v47_8_0)]) hx hb dX7_inTownOn_47 hl (k := 3) rfl ez_9 (by decide) rfl (fun ls_9 hl_9 => ?_)
      clear hl
      refine lv_goto (tgt := 4) hx hb dX7_inTownOn_50 (by decide) ?_
      exact ih_4 (z_9, v47_8_0) (by show (11 - (z_9).toInt).toNat < (11 - (v4_3_0).toInt).toNat; omega) _ _ _ ⟨⟨by omega, by omega⟩, ⟨by omega, by omega⟩, h, (lv_sub hl_9 [1, 2, 3, 0] rfl)⟩
    · skip
      refine lv_icmp_gt (tgt := 47) hx hb dX7_inTownOn_25 (by decide) (fun c_10 => ?_) (fun c_10 => ?_)
      · replace c_10 := i_lt (x := p0) (y := z_7) rfl rfl c_10
        exact J_47 _ _ _ _ ⟨v4_3_1, ⟨by omega, by omega⟩, rfl, h, (lv_sub hl [0, 1, 2, 3] rfl)⟩
      · replace c_10 := i_nlt (x := p0) (y := z_7) rfl rfl c_10
        refine lv_iload_n hx hb dX7_inTownOn_28 rfl (lv_at hl 1 rfl) ?_
        refine lv_aload_n hx hb dX7_inTownOn_29 rfl (lv_at hl 0 rfl) ?_
        refine q_get X hK h 3 rfl rfl wf_7 0 (by decide) rfl wm_2_37 dX7_inTownOn_30 ?_
        refine q_get X hK h 0 rfl rfl wf_3 9 (by decide) rfl wm_1_110 dX7_inTownOn_33 ?_
        refine lv_iload_n hx hb dX7_inTownOn_36 rfl (lv_at hl 3 rfl) ?_
        refine q_iald X hK h 2 rfl (i_in rfl (by omega) (by omega)) dX7_inTownOn_37 ?_
        obtain ⟨z_11, ez_11, hz_11⟩ := rg_get rf1 (x := v4_3_0) rfl (by omega) (by omega)
        refine q_c z_11 ez_11 ?_
        clear ez_11
        refine lv_icmp_gt (tgt := 47) hx hb dX7_inTownOn_38 (by decide) (fun c_12 => ?_) (fun c_12 => ?_)
        · replace c_12 := i_lt (x := z_11) (y := p0) rfl rfl c_12
          exact J_47 _ _ _ _ ⟨v4_3_1, ⟨by omega, by omega⟩, rfl, h, (lv_sub hl [0, 1, 2, 3] rfl)⟩
        · replace c_12 := i_nlt (x := z_11) (y := p0) rfl rfl c_12
          refine lv_iload_n hx hb dX7_inTownOn_41 rfl (lv_at hl 2 rfl) ?_
          refine lv_iconst (v := 1) hx hb dX7_inTownOn_42 (by decide) ?_
          refine lv_iload_n hx hb dX7_inTownOn_43 rfl (lv_at hl 3 rfl) ?_
          refine lv_ishl hx hb dX7_inTownOn_44 ?_
          obtain ⟨z_13, ez_13, hz_13⟩ := e_shlk (p := v4_3_0) 9 (by decide) rfl (by omega) (by omega)
          refine q_c z_13 ez_13 ?_
          clear ez_13
          refine lv_ior hx hb dX7_inTownOn_45 ?_
          obtain ⟨z_14, ez_14, hz_14⟩ := e_or (x := v4_3_1) (y := z_13) 10 (by decide) rfl rfl (by omega) (by omega) (by omega) (by omega)
          refine q_c z_14 ez_14 ?_
          clear ez_14
          refine lv_istore_n (lv' := [(2, .int z_14), (0, .ref h3), (1, .int p0), (3, .int v4_3_0)]) hx hb dX7_inTownOn_46 rfl hl (by decide) rfl (fun ls_15 hl_15 => ?_)
          clear hl
          exact J_47 _ _ _ _ ⟨z_14, ⟨by omega, by omega⟩, rfl, h, (lv_sub hl_15 [1, 2, 0, 3] rfl)⟩
set_option maxHeartbeats 4000000 in
set_option maxRecDepth 100000 in
theorem gX7_inTownOn_2 (l : Launch) (D : va_G) (cy : Nat → ClassId) (h0 : Nat) (h1 : Nat) (h2 : Nat) (h3 : Nat) (p0 : Int32) (p1 : Int32) (p2 : Int32) (p3 : Int32) (p4 : Int32) (w0 : Value) (w1 : Value) (w2 : Value) (w3 : Value) (f0 : Nat → Int32) (f1 : Nat → Int32) (p5 : Int32) (w4 : Value) (hp0 : 0 ≤ (p0).toInt ∧ (p0).toInt ≤ 60000) (hp1 : 1 ≤ (p1).toInt ∧ (p1).toInt ≤ 3) (hp2 : 0 ≤ (p2).toInt ∧ (p2).toInt ≤ 10) (hp3 : 0 ≤ (p3).toInt ∧ (p3).toInt ≤ 920) (hp4 : 0 ≤ (p4).toInt ∧ (p4).toInt ≤ 999) (hp5 : 0 ≤ (p5).toInt ∧ (p5).toInt ≤ 1023) (rf0 : RG f0 10 0 999) (rf1 : RG f1 10 0 1000000) (sz : Nat) : MI l yX7_inTownOn cX7_inTownOn 4 .int { frames := 0, cells := 0, slots := 0, locals := 0 } [.ref h3, .int p0] D cy [(h0, .inr (3, [.int p1, .int p2, .int p3, .int p4, w0, w0, w0, w1, .ref h1, .ref h2, w2, w3])), (h1, .inl (cy 1, 10, .inl f0)), (h2, .inl (cy 1, 10, .inl f1)), (h3, .inr (7, [.ref h0, .int p0, .int p5, w4]))] sz (fun r u => (0 ≤ r.toInt ∧ r.toInt ≤ 1023) ∧ True) (fun u => [(h0, .inr (3, [.int p1, .int p2, .int p3, .int p4, w0, w0, w0, w1, .ref h1, .ref h2, w2, w3])), (h1, .inl (cy 1, 10, .inl f0)), (h2, .inl (cy 1, 10, .inl f1)), (h3, .inr (7, [.ref h0, .int p0, .int p5, w4]))]) 0 0 := by
  refine q_ent (own := RX7) (by decide) rfl (Nat.le_of_ble_eq_true rfl) (fun p e s m below meth c ls X hr hlk hnm hK h hA hl => ?_)
  obtain ⟨hx, hb, hml, hown, ht⟩ := id X
  replace hl : lv_has ls 4 [(0, .ref h3), (1, .int p0)] := hl
  refine lv_iconst (v := 0) hx hb dX7_inTownOn_0 (by decide) ?_
  refine lv_istore_n (lv' := [(2, .int 0), (0, .ref h3), (1, .int p0)]) hx hb dX7_inTownOn_1 rfl hl (by decide) rfl (fun ls_1 hl_1 => ?_)
  clear hl
  refine lv_iconst (v := 0) hx hb dX7_inTownOn_2 (by decide) ?_
  refine lv_istore_n (lv' := [(3, .int 0), (2, .int 0), (0, .ref h3), (1, .int p0)]) hx hb dX7_inTownOn_3 rfl hl_1 (by decide) rfl (fun ls_2 hl_2 => ?_)
  clear hl_1
  refine q_wl (fun (q : Int32 × Int32) H locs ls => match q with | (v4_3_0, v4_3_1) => (0 ≤ (v4_3_0).toInt ∧ (v4_3_0).toInt ≤ 10) ∧ (0 ≤ (v4_3_1).toInt ∧ (v4_3_1).toInt ≤ 1023) ∧ qW D (va_A [(h0, .inr (3, [.int p1, .int p2, .int p3, .int p4, w0, w0, w0, w1, .ref h1, .ref h2, w2, w3])), (h1, .inl (cy 1, 10, .inl f0)), (h2, .inl (cy 1, 10, .inl f1)), (h3, .inr (7, [.ref h0, .int p0, .int p5, w4]))] sz) s.heap [(h0, .inr (3, [.int p1, .int p2, .int p3, .int p4, w0, w0, w0, w1, .ref h1, .ref h2, w2, w3])), (h1, .inl (cy 1, 10, .inl f0)), (h2, .inl (cy 1, 10, .inl f1)), (h3, .inr (7, [.ref h0, .int p0, .int p5, w4]))] H locs ∧ lv_has ls 4 [(0, .ref h3), (1, .int p0), (2, .int v4_3_1), (3, .int v4_3_0)]) (fun (q : Int32 × Int32) => match q with | (v4_3_0, v4_3_1) => (11 - (v4_3_0).toInt).toNat) (fun q_4 ih_4 H locs ls hP => ?_) (0, 0) ⟨⟨by decide +kernel, by decide +kernel⟩, ⟨by decide +kernel, by decide +kernel⟩, h, (lv_sub hl_2 [2, 3, 1, 0] rfl)⟩
  obtain ⟨v4_3_0, v4_3_1⟩ := q_4
  obtain ⟨hv4_3_0, hv4_3_1, h, hl⟩ := hP
  refine lv_iload_n hx hb dX7_inTownOn_4 rfl (lv_at hl 3 rfl) ?_
  refine lv_aload_n hx hb dX7_inTownOn_5 rfl (lv_at hl 0 rfl) ?_
  refine q_get X hK h 3 rfl rfl wf_7 0 (by decide) rfl wm_2_37 dX7_inTownOn_6 ?_
  refine q_get X hK h 0 rfl rfl wf_3 1 (by decide) rfl wm_1_83 dX7_inTownOn_9 ?_
  refine lv_icmp_ge (tgt := 53) hx hb dX7_inTownOn_12 (by decide) (fun c_4 => ?_) (fun c_4 => ?_)
  · replace c_4 := i_le (x := p2) (y := v4_3_0) rfl rfl c_4
    refine lv_iload_n hx hb dX7_inTownOn_53 rfl (lv_at hl 2 rfl) ?_
    refine lv_aload_n hx hb dX7_inTownOn_54 rfl (lv_at hl 0 rfl) ?_
    refine q_get X hK h 3 rfl rfl wf_7 2 (by decide) rfl wm_2_48 dX7_inTownOn_55 ?_
    refine lv_iconst (v := (-1)) hx hb dX7_inTownOn_58 (by decide) ?_
    refine lv_ixor hx hb dX7_inTownOn_59 ?_
    refine q_any (fun z_5 hz_5 => ?_)
    refine lv_iand hx hb dX7_inTownOn_60 ?_
    obtain ⟨z_6, ez_6, hz_6⟩ := e_and1 (x := v4_3_1) (y := z_5) rfl (by omega)
    refine q_c z_6 ez_6 ?_
    clear ez_6
    exact q_iret X hr hlk hK h rfl (fun _ => 0, fun _ _ => 0, fun _ _ => 0) ⟨⟨by omega, by omega⟩, trivial⟩ [0, 1, 2, 3] rfl rfl dX7_inTownOn_61 (Nat.le_of_ble_eq_true rfl) (Nat.le_of_ble_eq_true rfl)
  · replace c_4 := i_nle (x := p2) (y := v4_3_0) rfl rfl c_4
    refine lv_aload_n hx hb dX7_inTownOn_15 rfl (lv_at hl 0 rfl) ?_
    refine q_get X hK h 3 rfl rfl wf_7 0 (by decide) rfl wm_2_37 dX7_inTownOn_16 ?_
    refine q_get X hK h 0 rfl rfl wf_3 8 (by decide) rfl wm_1_106 dX7_inTownOn_19 ?_
    refine lv_iload_n hx hb dX7_inTownOn_22 rfl (lv_at hl 3 rfl) ?_
    refine q_iald X hK h 1 rfl (i_in rfl (by omega) (by omega)) dX7_inTownOn_23 ?_
    obtain ⟨z_7, ez_7, hz_7⟩ := rg_get rf0 (x := v4_3_0) rfl (by omega) (by omega)
    refine q_c z_7 ez_7 ?_
    clear ez_7
    refine lv_iload_n hx hb dX7_inTownOn_24 rfl (lv_at hl 1 rfl) ?_
    refine q_jn (pc2 := 47) (fun H locs ls st => ∃ v47_8_0 : Int32, (0 ≤ (v47_8_0).toInt ∧ (v47_8_0).toInt ≤ 1023) ∧ st = [] ∧ qW D (va_A [(h0, .inr (3, [.int p1, .int p2, .int p3, .int p4, w0, w0, w0, w1, .ref h1, .ref h2, w2, w3])), (h1, .inl (cy 1, 10, .inl f0)), (h2, .inl (cy 1, 10, .inl f1)), (h3, .inr (7, [.ref h0, .int p0, .int p5, w4]))] sz) s.heap [(h0, .inr (3, [.int p1, .int p2, .int p3, .int p4, w0, w0, w0, w1, .ref h1, .ref h2, w2, w3])), (h1, .inl (cy 1, 10, .inl f0)), (h2, .inl (cy 1, 10, .inl f1)), (h3, .inr (7, [.ref h0, .int p0, .int p5, w4]))] H locs ∧ lv_has ls 4 [(0, .ref h3), (1, .int p0), (2, .int v47_8_0), (3, .int v4_3_0)]) (fun H locs ls st hP => ?_) (fun J_47 => ?_)
    · obtain ⟨v47_8_0, hv47_8_0, rfl, h, hl⟩ := hP
      obtain ⟨z_9, ez_9, hz_9⟩ := e_add (x := v4_3_0) (y := Int32.ofInt 1) rfl (b := 1) (by decide) (by omega) (by omega)
      refine lv_iinc (v := z_9) (lv' := [(3, .int z_9), (0, .ref h3), (1, .int p0), (2, .int v47_8_0)]) hx hb dX7_inTownOn_47 hl (k := 3) rfl ez_9 (by decide) rfl (fun ls_9 hl_9 => ?_)
      clear hl
      refine lv_goto (tgt := 4) hx hb dX7_inTownOn_50 (by decide) ?_
      exact ih_4 (z_9, v47_8_0) (by show (11 - (z_9).toInt).toNat < (11 - (v4_3_0).toInt).toNat; omega) _ _ _ ⟨⟨by omega, by omega⟩, ⟨by omega, by omega⟩, h, (lv_sub hl_9 [1, 2, 3, 0] rfl)⟩
    · skip
      refine lv_icmp_gt (tgt := 47) hx hb dX7_inTownOn_25 (by decide) (fun c_10 => ?_) (fun c_10 => ?_)
      · replace c_10 := i_lt (x := p0) (y := z_7) rfl rfl c_10
        exact J_47 _ _ _ _ ⟨v4_3_1, ⟨by omega, by omega⟩, rfl, h, (lv_sub hl [0, 1, 2, 3] rfl)⟩
      · replace c_10 := i_nlt (x := p0) (y := z_7) rfl rfl c_10
        refine lv_iload_n hx hb dX7_inTownOn_28 rfl (lv_at hl 1 rfl) ?_
        refine lv_aload_n hx hb dX7_inTownOn_29 rfl (lv_at hl 0 rfl) ?_
        refine q_get X hK h 3 rfl rfl wf_7 0 (by decide) rfl wm_2_37 dX7_inTownOn_30 ?_
        refine q_get X hK h 0 rfl rfl wf_3 9 (by decide) rfl wm_1_110 dX7_inTownOn_33 ?_
        refine lv_iload_n hx hb dX7_inTownOn_36 rfl (lv_at hl 3 rfl) ?_
        refine q_iald X hK h 2 rfl (i_in rfl (by omega) (by omega)) dX7_inTownOn_37 ?_
        obtain ⟨z_11, ez_11, hz_11⟩ := rg_get rf1 (x := v4_3_0) rfl (by omega) (by omega)
        refine q_c z_11 ez_11 ?_
        clear ez_11
        refine lv_icmp_gt (tgt := 47) hx hb dX7_inTownOn_38 (by decide) (fun c_12 => ?_) (fun c_12 => ?_)
        · replace c_12 := i_lt (x := z_11) (y := p0) rfl rfl c_12
          exact J_47 _ _ _ _ ⟨v4_3_1, ⟨by omega, by omega⟩, rfl, h, (lv_sub hl [0, 1, 2, 3] rfl)⟩
        · replace c_12 := i_nlt (x := z_11) (y := p0) rfl rfl c_12
          refine lv_iload_n hx hb dX7_inTownOn_41 rfl (lv_at hl 2 rfl) ?_
          refine lv_iconst (v := 1) hx hb dX7_inTownOn_42 (by decide) ?_
          refine lv_iload_n hx hb dX7_inTownOn_43 rfl (lv_at hl 3 rfl) ?_
          refine lv_ishl hx hb dX7_inTownOn_44 ?_
          obtain ⟨z_13, ez_13, hz_13⟩ := e_shlk (p := v4_3_0) 9 (by decide) rfl (by omega) (by omega)
          refine q_c z_13 ez_13 ?_
          clear ez_13
          refine lv_ior hx hb dX7_inTownOn_45 ?_
          obtain ⟨z_14, ez_14, hz_14⟩ := e_or (x := v4_3_1) (y := z_13) 10 (by decide) rfl rfl (by omega) (by omega) (by omega) (by omega)
          refine q_c z_14 ez_14 ?_
          clear ez_14
          refine lv_istore_n (lv' := [(2, .int z_14), (0, .ref h3), (1, .int p0), (3, .int v4_3_0)]) hx hb dX7_inTownOn_46 rfl hl (by decide) rfl (fun ls_15 hl_15 => ?_)
          clear hl
          exact J_47 _ _ _ _ ⟨z_14, ⟨by omega, by omega⟩, rfl, h, (lv_sub hl_15 [1, 2, 0, 3] rfl)⟩
set_option maxHeartbeats 4000000 in
set_option maxRecDepth 100000 in
theorem gX7_inTown_3 (l : Launch) (D : va_G) (cy : Nat → ClassId) (h0 : Nat) (h1 : Nat) (h2 : Nat) (h3 : Nat) (p0 : Int32) (p1 : Int32) (p2 : Int32) (p3 : Int32) (w0 : Value) (w1 : Value) (w2 : Value) (w3 : Value) (f0 : Nat → Int32) (f1 : Nat → Int32) (p4 : Int32) (p5 : Int32) (w4 : Value) (hp0 : 1 ≤ (p0).toInt ∧ (p0).toInt ≤ 3) (hp1 : 0 ≤ (p1).toInt ∧ (p1).toInt ≤ 10) (hp2 : 0 ≤ (p2).toInt ∧ (p2).toInt ≤ 920) (hp3 : 0 ≤ (p3).toInt ∧ (p3).toInt ≤ 999) (hp4 : 0 ≤ (p4).toInt ∧ (p4).toInt ≤ 60000) (hp5 : 0 ≤ (p5).toInt ∧ (p5).toInt ≤ 1023) (rf0 : RG f0 10 0 999) (rf1 : RG f1 10 0 1000000) (sz : Nat) : MI l yX7_inTown cX7_inTown 1 .int { frames := 1, cells := 0, slots := 0, locals := 23 } [.ref h3] D cy [(h0, .inr (3, [.int p0, .int p1, .int p2, .int p3, w0, w0, w0, w1, .ref h1, .ref h2, w2, w3])), (h1, .inl (cy 1, 10, .inl f0)), (h2, .inl (cy 1, 10, .inl f1)), (h3, .inr (7, [.ref h0, .int p4, .int p5, w4]))] sz (fun r u => (0 ≤ r.toInt ∧ r.toInt ≤ 1023) ∧ True) (fun u => [(h0, .inr (3, [.int p0, .int p1, .int p2, .int p3, w0, w0, w0, w1, .ref h1, .ref h2, w2, w3])), (h1, .inl (cy 1, 10, .inl f0)), (h2, .inl (cy 1, 10, .inl f1)), (h3, .inr (7, [.ref h0, .int p4, .int p5, w4]))]) 0 0 := by
  refine q_ent (own := RX7) (by decide) rfl (Nat.le_of_ble_eq_true rfl) (fun p e s m below meth c ls X hr hlk hnm hK h hA hl => ?_)
  obtain ⟨hx, hb, hml, hown, ht⟩ := id X
  replace hl : lv_has ls 1 [(0, .ref h3)] := hl
  refine lv_aload_n hx hb dX7_inTown_0 rfl (lv_at hl 0 rfl) ?_
  refine lv_aload_n hx hb dX7_inTown_1 rfl (lv_at hl 0 rfl) ?_
  refine q_get X hK h 3 rfl rfl wf_7 1 (by decide) rfl wm_2_43 dX7_inTown_2 ?_
  refine q_callVi (rest := []) (wr := []) X hK hA h (fun sz => gX7_inTownOn_2 l D cy h0 h1 h2 h3 p4 p0 p1 p2 p3 w0 w1 w2 w3 f0 f1 p5 w4 ⟨by omega, by omega⟩ ⟨by omega, by omega⟩ ⟨by omega, by omega⟩ ⟨by omega, by omega⟩ ⟨by omega, by omega⟩ ⟨by omega, by omega⟩ (rg_wide rf0 (by decide) (by decide)) (rg_wide rf1 (by decide) (by decide)) sz) wm_3_183 wm_3_186 wm_1_9 hd_X7_inTownOn wm_3_184 wm_3_185 (ci := 7) (q0 := 3) rfl rfl ⟨Nat.le_of_ble_eq_true rfl, Nat.le_of_ble_eq_true rfl⟩ hl.1 rfl (Nat.le_of_ble_eq_true rfl) dX7_inTown_5 ⟨Nat.le_of_ble_eq_true rfl, Nat.le_of_ble_eq_true rfl⟩ [0, 1, 2, 3] [] rfl rfl (by decide) rfl rfl (fun r_1 u_1 H locs w_1 h_1 => ?_)
  clear h
  obtain ⟨wr_1, _⟩ := w_1
  replace h_1 : qW D _ _ [(h0, .inr (3, [.int p0, .int p1, .int p2, .int p3, w0, w0, w0, w1, .ref h1, .ref h2, w2, w3])), (h1, .inl (cy 1, 10, .inl f0)), (h2, .inl (cy 1, 10, .inl f1)), (h3, .inr (7, [.ref h0, .int p4, .int p5, w4]))] _ _ := h_1
  exact q_iret X hr hlk hK h_1 rfl (fun _ => 0, fun _ _ => 0, fun _ _ => 0) ⟨⟨by omega, by omega⟩, trivial⟩ [0, 1, 2, 3] rfl rfl dX7_inTown_8 (Nat.le_of_ble_eq_true rfl) (Nat.le_of_ble_eq_true rfl)
set_option maxHeartbeats 4000000 in
set_option maxRecDepth 100000 in
theorem gX7_takeFrom_4 (l : Launch) (D : va_G) (cy : Nat → ClassId) (h0 : Nat) (h1 : Nat) (h2 : Nat) (h3 : Nat) (w0 : Value) (p0 : Int32) (p1 : Int32) (f0 : Nat → Int32) (h4 : Nat) (p2 : Int32) (p3 : Int32) (f1 : Nat → Int32) (hp0 : 0 ≤ (p0).toInt ∧ (p0).toInt ≤ 60000) (hp1 : 0 ≤ (p1).toInt ∧ (p1).toInt ≤ 1023) (hp2 : 0 ≤ (p2).toInt ∧ (p2).toInt ≤ 60000) (hp3 : 0 ≤ (p3).toInt ∧ (p3).toInt ≤ 1023) (rf0 : RG f0 10 0 999) (rf1 : RG f1 10 0 999) (sz : Nat) : MV l yX7_takeFrom cX7_takeFrom 2 { frames := 1, cells := 0, slots := 0, locals := 40 } [.ref h0, .ref h2] D cy [(h0, .inr (7, [w0, .int p0, .int p1, .ref h1])), (h1, .inl (cy 1, 10, .inl f0)), (h2, .inr (7, [.ref h4, .int p2, .int p3, .ref h3])), (h3, .inl (cy 1, 10, .inl f1))] sz (fun u => (0 ≤ (u.2.1 0 0).toInt ∧ (u.2.1 0 0).toInt ≤ 60000) ∧ (0 ≤ (u.2.1 1 0).toInt ∧ (u.2.1 1 0).toInt ≤ 1023) ∧ RG (u.2.1 2) 10 0 999 ∧ True) (fun u => [(h0, .inr (7, [.ref h4, .int (u.2.1 0 0), .int (u.2.1 1 0), .ref h1])), (h1, .inl (cy 1, 10, .inl (u.2.1 2))), (h2, .inr (7, [.ref h4, .int p2, .int p3, .ref h3])), (h3, .inl (cy 1, 10, .inl f1))]) 0 0 := by
  refine q_ent (own := RX7) (by decide) rfl (Nat.le_of_ble_eq_true rfl) (fun p e s m below meth c ls X hr hlk hnm hK h hA hl => ?_)
  obtain ⟨hx, hb, hml, hown, ht⟩ := id X
  replace hl : lv_has ls 2 [(0, .ref h0), (1, .ref h2)] := hl
  refine lv_aload_n hx hb dX7_takeFrom_0 rfl (lv_at hl 0 rfl) ?_
  refine lv_aload_n hx hb dX7_takeFrom_1 rfl (lv_at hl 1 rfl) ?_
  refine q_get X hK h 2 rfl rfl wf_7 0 (by decide) rfl wm_2_37 dX7_takeFrom_2 ?_
  refine q_put (v := .ref h4) X hK h 0 rfl rfl wf_7 tyX7 tyX7_ok nmX7 0 (by decide) wm_2_37 rfl rfl rfl (Nat.le_of_ble_eq_true rfl) dX7_takeFrom_5 (fun H locs h_1 => ?_)
  clear h
  replace h_1 : qW D _ _ [(h0, .inr (7, [.ref h4, .int p0, .int p1, .ref h1])), (h1, .inl (cy 1, 10, .inl f0)), (h2, .inr (7, [.ref h4, .int p2, .int p3, .ref h3])), (h3, .inl (cy 1, 10, .inl f1))] _ _ := h_1
  refine lv_aload_n hx hb dX7_takeFrom_8 rfl (lv_at hl 0 rfl) ?_
  refine lv_aload_n hx hb dX7_takeFrom_9 rfl (lv_at hl 1 rfl) ?_
  refine q_get X hK h_1 2 rfl rfl wf_7 1 (by decide) rfl wm_2_43 dX7_takeFrom_10 ?_
  refine q_put (v := .int p2) X hK h_1 0 rfl rfl wf_7 tyX7 tyX7_ok nmX7 1 (by decide) wm_2_43 rfl rfl rfl (Nat.le_of_ble_eq_true rfl) dX7_takeFrom_13 (fun H locs h_2 => ?_)
  clear h_1
  replace h_2 : qW D _ _ [(h0, .inr (7, [.ref h4, .int p2, .int p1, .ref h1])), (h1, .inl (cy 1, 10, .inl f0)), (h2, .inr (7, [.ref h4, .int p2, .int p3, .ref h3])), (h3, .inl (cy 1, 10, .inl f1))] _ _ := h_2
  refine lv_aload_n hx hb dX7_takeFrom_16 rfl (lv_at hl 0 rfl) ?_
  refine lv_aload_n hx hb dX7_takeFrom_17 rfl (lv_at hl 1 rfl) ?_
  refine q_get X hK h_2 2 rfl rfl wf_7 2 (by decide) rfl wm_2_48 dX7_takeFrom_18 ?_
  refine q_put (v := .int p3) X hK h_2 0 rfl rfl wf_7 tyX7 tyX7_ok nmX7 2 (by decide) wm_2_48 rfl rfl rfl (Nat.le_of_ble_eq_true rfl) dX7_takeFrom_21 (fun H locs h_3 => ?_)
  clear h_2
  replace h_3 : qW D _ _ [(h0, .inr (7, [.ref h4, .int p2, .int p3, .ref h1])), (h1, .inl (cy 1, 10, .inl f0)), (h2, .inr (7, [.ref h4, .int p2, .int p3, .ref h3])), (h3, .inl (cy 1, 10, .inl f1))] _ _ := h_3
  refine lv_aload_n hx hb dX7_takeFrom_24 rfl (lv_at hl 1 rfl) ?_
  refine q_get X hK h_3 2 rfl rfl wf_7 3 (by decide) rfl wm_2_50 dX7_takeFrom_25 ?_
  refine lv_iconst (v := 0) hx hb dX7_takeFrom_28 (by decide) ?_
  refine lv_aload_n hx hb dX7_takeFrom_29 rfl (lv_at hl 0 rfl) ?_
  refine q_get X hK h_3 0 rfl rfl wf_7 3 (by decide) rfl wm_2_50 dX7_takeFrom_30 ?_
  refine lv_iconst (v := 0) hx hb dX7_takeFrom_33 (by decide) ?_
  refine lv_bipush (v := 10) hx hb dX7_takeFrom_34 (by decide) ?_
  refine q_copyR X hK h_3 wm_3_161 wm_3_152 wm_3_151 wm_1_21 hl.1 3 1 rfl rfl (by decide +kernel) (by decide) (Nat.le_of_ble_eq_true rfl) (Nat.le_of_ble_eq_true rfl) dX7_takeFrom_36 (fun F_4 eF_4 H locs h_5 => ?_)
  clear h_3
  have rF_4 := rg_eq eF_4 rf1
  clear eF_4
  replace h_5 : qW D _ _ [(h0, .inr (7, [.ref h4, .int p2, .int p3, .ref h1])), (h1, .inl (cy 1, 10, .inl F_4)), (h2, .inr (7, [.ref h4, .int p2, .int p3, .ref h3])), (h3, .inl (cy 1, 10, .inl f1))] _ _ := h_5
  exact q_vret X hr hlk hK h_5 (fun _ => 0, fun k => List.getD [(fun _ => p2), (fun _ => p3), F_4] k (fun _ => 0), fun _ _ => 0) ⟨(⟨by omega, by omega⟩ : 0 ≤ (p2 : Int32).toInt ∧ (p2 : Int32).toInt ≤ 60000), (⟨by omega, by omega⟩ : 0 ≤ (p3 : Int32).toInt ∧ (p3 : Int32).toInt ≤ 1023), (rg_wide rF_4 (by decide) (by decide)), trivial⟩ [0, 1, 2, 3] rfl rfl dX7_takeFrom_39 (Nat.le_of_ble_eq_true rfl) (Nat.le_of_ble_eq_true rfl)
set_option maxHeartbeats 4000000 in
set_option maxRecDepth 100000 in
theorem gX6_areOpposites_5 (l : Launch) (D : va_G) (cy : Nat → ClassId) (h0 : Nat) (h1 : Nat) (h2 : Nat) (h3 : Nat) (p0 : Int32) (p1 : Int32) (p2 : Int32) (p3 : Int32) (p4 : Int32) (p5 : Int32) (p6 : Int32) (p7 : Int32) (w0 : Value) (w1 : Value) (w2 : Value) (w3 : Value) (w4 : Value) (w5 : Value) (p8 : Int32) (p9 : Int32) (f0 : Nat → Int32) (w6 : Value) (w7 : Value) (hp0 : 0 ≤ (p0).toInt ∧ (p0).toInt ≤ 9) (hp1 : 0 ≤ (p1).toInt ∧ (p1).toInt ≤ 999) (hp2 : 0 ≤ (p2).toInt ∧ (p2).toInt ≤ 9) (hp3 : 0 ≤ (p3).toInt ∧ (p3).toInt ≤ 62000) (hp4 : 1 ≤ (p4).toInt ∧ (p4).toInt ≤ 3) (hp5 : 0 ≤ (p5).toInt ∧ (p5).toInt ≤ 10) (hp6 : 0 ≤ (p6).toInt ∧ (p6).toInt ≤ 920) (hp7 : 0 ≤ (p7).toInt ∧ (p7).toInt ≤ 999) (hp8 : 0 ≤ (p8).toInt ∧ (p8).toInt ≤ 60000) (hp9 : 0 ≤ (p9).toInt ∧ (p9).toInt ≤ 1023) (rf0 : RG f0 10 0 999) (sz : Nat) : MI l yX6_areOpposites cX6_areOpposites 8 .boolean { frames := 0, cells := 0, slots := 0, locals := 0 } [.ref h3, .ref h1, .int p0, .int p1, .int p2, .int p3] D cy [(h0, .inr (3, [.int p4, .int p5, .int p6, .int p7, .null, w0, w0, w1, w2, w3, w4, w5])), (h1, .inr (7, [.ref h0, .int p8, .int p9, .ref h2])), (h2, .inl (cy 1, 10, .inl f0)), (h3, .inr (6, [w6, w7]))] sz (fun r u => (0 ≤ r.toInt ∧ r.toInt ≤ 1) ∧ True) (fun u => [(h0, .inr (3, [.int p4, .int p5, .int p6, .int p7, .null, w0, w0, w1, w2, w3, w4, w5])), (h1, .inr (7, [.ref h0, .int p8, .int p9, .ref h2])), (h2, .inl (cy 1, 10, .inl f0)), (h3, .inr (6, [w6, w7]))]) 0 0 := by
  refine q_ent (own := RX6) (by decide) rfl (Nat.le_of_ble_eq_true rfl) (fun p e s m below meth c ls X hr hlk hnm hK h hA hl => ?_)
  obtain ⟨hx, hb, hml, hown, ht⟩ := id X
  replace hl : lv_has ls 8 [(0, .ref h3), (1, .ref h1), (2, .int p0), (3, .int p1), (4, .int p2), (5, .int p3)] := hl
  refine lv_aload_n hx hb dX6_areOpposites_0 rfl (lv_at hl 1 rfl) ?_
  refine q_get X hK h 1 rfl rfl wf_7 0 (by decide) rfl wm_2_41 dX6_areOpposites_1 ?_
  refine q_get X hK h 0 rfl rfl wf_3 4 (by decide) rfl wm_1_94 dX6_areOpposites_4 ?_
  refine lv_astoreN (lv' := [(6, .null), (0, .ref h3), (1, .ref h1), (2, .int p0), (3, .int p1), (4, .int p2), (5, .int p3)]) hx hb dX6_areOpposites_7 hl (by decide) rfl (fun ls_1 hl_1 => ?_)
  clear hl
  refine lv_aload_n hx hb dX6_areOpposites_9 rfl (lv_at hl_1 2 rfl) ?_
  refine q_get X hK h 1 rfl rfl wf_7 3 (by decide) rfl wm_2_53 dX6_areOpposites_10 ?_
  refine lv_iload hx hb dX6_areOpposites_13 (lv_at hl_1 5 rfl) ?_
  refine q_iald X hK h 2 rfl (i_in rfl (by omega) (by omega)) dX6_areOpposites_15 ?_
  obtain ⟨z_2, ez_2, hz_2⟩ := rg_get rf0 (x := p2) rfl (by omega) (by omega)
  refine q_c z_2 ez_2 ?_
  clear ez_2
  refine lv_istore (lv' := [(7, .int z_2), (6, .null), (0, .ref h3), (1, .ref h1), (2, .int p0), (3, .int p1), (4, .int p2), (5, .int p3)]) hx hb dX6_areOpposites_16 hl_1 (by decide) rfl (fun ls_3 hl_3 => ?_)
  clear hl_1
  refine lv_aloadN hx hb dX6_areOpposites_18 (lv_at hl_3 1 rfl) ?_
  refine lv_ifnonnullN hx hb dX6_areOpposites_20 ?_
  refine lv_iload_n hx hb dX6_areOpposites_23 rfl (lv_at hl_3 5 rfl) ?_
  refine lv_bipush (v := 100) hx hb dX6_areOpposites_24 (by decide) ?_
  refine lv_idiv hx hb dX6_areOpposites_26 (by decide) ?_
  obtain ⟨z_4, ez_4, hz_4⟩ := e_div (x := p1) (y := 100) rfl (show (100 : Int32).toInt = 100 by decide) (by omega) (by omega)
  refine q_c z_4 ez_4 ?_
  clear ez_4
  refine lv_iload hx hb dX6_areOpposites_27 (lv_at hl_3 0 rfl) ?_
  refine lv_bipush (v := 100) hx hb dX6_areOpposites_29 (by decide) ?_
  refine lv_idiv hx hb dX6_areOpposites_31 (by decide) ?_
  obtain ⟨z_5, ez_5, hz_5⟩ := e_div (x := z_2) (y := 100) rfl (show (100 : Int32).toInt = 100 by decide) (by omega) (by omega)
  refine q_c z_5 ez_5 ?_
  clear ez_5
  refine lv_iadd hx hb dX6_areOpposites_32 ?_
  obtain ⟨z_6, ez_6, hz_6⟩ := e_add (x := z_4) (y := z_5) rfl rfl (by omega) (by omega)
  refine q_c z_6 ez_6 ?_
  clear ez_6
  refine lv_bipush (v := 9) hx hb dX6_areOpposites_33 (by decide) ?_
  refine q_jn (pc2 := 43) (fun H locs ls st => ∃ v43_7_0 : Int32, (0 ≤ (v43_7_0).toInt ∧ (v43_7_0).toInt ≤ 1) ∧ st = [.int v43_7_0] ∧ qW D (va_A [(h0, .inr (3, [.int p4, .int p5, .int p6, .int p7, .null, w0, w0, w1, w2, w3, w4, w5])), (h1, .inr (7, [.ref h0, .int p8, .int p9, .ref h2])), (h2, .inl (cy 1, 10, .inl f0)), (h3, .inr (6, [w6, w7]))] sz) s.heap [(h0, .inr (3, [.int p4, .int p5, .int p6, .int p7, .null, w0, w0, w1, w2, w3, w4, w5])), (h1, .inr (7, [.ref h0, .int p8, .int p9, .ref h2])), (h2, .inl (cy 1, 10, .inl f0)), (h3, .inr (6, [w6, w7]))] H locs ∧ lv_has ls 8 [(0, .ref h3), (1, .ref h1), (2, .int p0), (3, .int p1), (4, .int p2), (5, .int p3), (6, .null), (7, .int z_2)]) (fun H locs ls st hP => ?_) (fun J_43 => ?_)
  · obtain ⟨v43_7_0, hv43_7_0, rfl, h, hl⟩ := hP
    exact q_iret X hr hlk hK h (q_nz (by omega) (by omega)) (fun _ => 0, fun _ _ => 0, fun _ _ => 0) ⟨⟨by omega, by omega⟩, trivial⟩ [0, 1, 2, 3] rfl rfl dX6_areOpposites_43 (Nat.le_of_ble_eq_true rfl) (Nat.le_of_ble_eq_true rfl)
  · skip
    refine lv_icmp_ne (tgt := 42) hx hb dX6_areOpposites_35 (by decide) (fun c_8 => ?_) (fun c_8 => ?_)
    · replace c_8 := i_ne (x := z_6) (y := 9) rfl (show (9 : Int32).toInt = 9 by decide) c_8
      refine lv_iconst (v := 0) hx hb dX6_areOpposites_42 (by decide) ?_
      exact J_43 _ _ _ _ ⟨0, ⟨by decide +kernel, by decide +kernel⟩, rfl, h, (lv_sub hl_3 [2, 3, 4, 5, 6, 7, 1, 0] rfl)⟩
    · replace c_8 := i_eq (x := z_6) (y := 9) rfl (show (9 : Int32).toInt = 9 by decide) c_8
      refine lv_iconst (v := 1) hx hb dX6_areOpposites_38 (by decide) ?_
      refine lv_goto (tgt := 43) hx hb dX6_areOpposites_39 (by decide) ?_
      exact J_43 _ _ _ _ ⟨1, ⟨by decide +kernel, by decide +kernel⟩, rfl, h, (lv_sub hl_3 [2, 3, 4, 5, 6, 7, 1, 0] rfl)⟩
set_option maxHeartbeats 4000000 in
set_option maxRecDepth 100000 in
theorem gX6_rowOf_6 (l : Launch) (D : va_G) (cy : Nat → ClassId) (h0 : Nat) (h1 : Nat) (h2 : Nat) (h3 : Nat) (p0 : Int32) (p1 : Int32) (p2 : Int32) (p3 : Int32) (p4 : Int32) (p5 : Int32) (p6 : Int32) (w0 : Value) (w1 : Value) (w2 : Value) (w3 : Value) (w4 : Value) (w5 : Value) (p7 : Int32) (p8 : Int32) (f0 : Nat → Int32) (w6 : Value) (w7 : Value) (hp0 : 0 ≤ (p0).toInt ∧ (p0).toInt ≤ 9) (hp1 : 0 ≤ (p1).toInt ∧ (p1).toInt ≤ 999) (hp2 : 0 ≤ (p2).toInt ∧ (p2).toInt ≤ 62000) (hp3 : 1 ≤ (p3).toInt ∧ (p3).toInt ≤ 3) (hp4 : 0 ≤ (p4).toInt ∧ (p4).toInt ≤ 10) (hp5 : 0 ≤ (p5).toInt ∧ (p5).toInt ≤ 920) (hp6 : 0 ≤ (p6).toInt ∧ (p6).toInt ≤ 999) (hp7 : 0 ≤ (p7).toInt ∧ (p7).toInt ≤ 60000) (hp8 : 0 ≤ (p8).toInt ∧ (p8).toInt ≤ 1023) (rf0 : RG f0 10 0 999) (sz : Nat) : MI l yX6_rowOf cX6_rowOf 7 .int { frames := 1, cells := 0, slots := 0, locals := 27 } [.ref h3, .ref h1, .int p0, .int p1, .int p2] D cy [(h0, .inr (3, [.int p3, .int p4, .int p5, .int p6, .null, w0, w0, w1, w2, w3, w4, w5])), (h1, .inr (7, [.ref h0, .int p7, .int p8, .ref h2])), (h2, .inl (cy 1, 10, .inl f0)), (h3, .inr (6, [w6, w7]))] sz (fun r u => (0 ≤ r.toInt ∧ r.toInt ≤ 1023) ∧ True) (fun u => [(h0, .inr (3, [.int p3, .int p4, .int p5, .int p6, .null, w0, w0, w1, w2, w3, w4, w5])), (h1, .inr (7, [.ref h0, .int p7, .int p8, .ref h2])), (h2, .inl (cy 1, 10, .inl f0)), (h3, .inr (6, [w6, w7]))]) 0 0 := by
  refine q_ent (own := RX6) (by decide) rfl (Nat.le_of_ble_eq_true rfl) (fun p e s m below meth c ls X hr hlk hnm hK h hA hl => ?_)
  obtain ⟨hx, hb, hml, hown, ht⟩ := id X
  replace hl : lv_has ls 7 [(0, .ref h3), (1, .ref h1), (2, .int p0), (3, .int p1), (4, .int p2)] := hl
  refine lv_iconst (v := 0) hx hb dX6_rowOf_0 (by decide) ?_
  refine lv_istore (lv' := [(5, .int 0), (0, .ref h3), (1, .ref h1), (2, .int p0), (3, .int p1), (4, .int p2)]) hx hb dX6_rowOf_1 hl (by decide) rfl (fun ls_1 hl_1 => ?_)
  clear hl
  refine lv_iconst (v := 0) hx hb dX6_rowOf_3 (by decide) ?_
  refine lv_istore (lv' := [(6, .int 0), (5, .int 0), (0, .ref h3), (1, .ref h1), (2, .int p0), (3, .int p1), (4, .int p2)]) hx hb dX6_rowOf_4 hl_1 (by decide) rfl (fun ls_2 hl_2 => ?_)
  clear hl_1
  refine q_wl (fun (q : Int32 × Int32) H locs ls => match q with | (v6_3_0, v6_3_1) => (0 ≤ (v6_3_0).toInt ∧ (v6_3_0).toInt ≤ 10) ∧ (0 ≤ (v6_3_1).toInt ∧ (v6_3_1).toInt ≤ 1023) ∧ qW D (va_A [(h0, .inr (3, [.int p3, .int p4, .int p5, .int p6, .null, w0, w0, w1, w2, w3, w4, w5])), (h1, .inr (7, [.ref h0, .int p7, .int p8, .ref h2])), (h2, .inl (cy 1, 10, .inl f0)), (h3, .inr (6, [w6, w7]))] sz) s.heap [(h0, .inr (3, [.int p3, .int p4, .int p5, .int p6, .null, w0, w0, w1, w2, w3, w4, w5])), (h1, .inr (7, [.ref h0, .int p7, .int p8, .ref h2])), (h2, .inl (cy 1, 10, .inl f0)), (h3, .inr (6, [w6, w7]))] H locs ∧ lv_has ls 7 [(0, .ref h3), (1, .ref h1), (2, .int p0), (3, .int p1), (4, .int p2), (5, .int v6_3_1), (6, .int v6_3_0)]) (fun (q : Int32 × Int32) => match q with | (v6_3_0, v6_3_1) => (11 - (v6_3_0).toInt).toNat) (fun q_6 ih_6 H locs ls hP => ?_) (0, 0) ⟨⟨by decide +kernel, by decide +kernel⟩, ⟨by decide +kernel, by decide +kernel⟩, h, (lv_sub hl_2 [2, 3, 4, 5, 6, 1, 0] rfl)⟩
  obtain ⟨v6_3_0, v6_3_1⟩ := q_6
  obtain ⟨hv6_3_0, hv6_3_1, h, hl⟩ := hP
  refine lv_iload hx hb dX6_rowOf_6 (lv_at hl 6 rfl) ?_
  refine lv_aload_n hx hb dX6_rowOf_8 rfl (lv_at hl 1 rfl) ?_
  refine q_get X hK h 1 rfl rfl wf_7 0 (by decide) rfl wm_2_41 dX6_rowOf_9 ?_
  refine q_get X hK h 0 rfl rfl wf_3 1 (by decide) rfl wm_1_84 dX6_rowOf_12 ?_
  refine lv_icmp_ge (tgt := 53) hx hb dX6_rowOf_15 (by decide) (fun c_4 => ?_) (fun c_4 => ?_)
  · replace c_4 := i_le (x := p4) (y := v6_3_0) rfl rfl c_4
    refine lv_iload hx hb dX6_rowOf_53 (lv_at hl 5 rfl) ?_
    exact q_iret X hr hlk hK h rfl (fun _ => 0, fun _ _ => 0, fun _ _ => 0) ⟨⟨by omega, by omega⟩, trivial⟩ [0, 1, 2, 3] rfl rfl dX6_rowOf_55 (Nat.le_of_ble_eq_true rfl) (Nat.le_of_ble_eq_true rfl)
  · replace c_4 := i_nle (x := p4) (y := v6_3_0) rfl rfl c_4
    refine lv_iload hx hb dX6_rowOf_18 (lv_at hl 6 rfl) ?_
    refine lv_iload_n hx hb dX6_rowOf_20 rfl (lv_at hl 2 rfl) ?_
    refine q_jn (pc2 := 47) (fun H locs ls st => ∃ v47_5_0 : Int32, (0 ≤ (v47_5_0).toInt ∧ (v47_5_0).toInt ≤ 1023) ∧ st = [] ∧ qW D (va_A [(h0, .inr (3, [.int p3, .int p4, .int p5, .int p6, .null, w0, w0, w1, w2, w3, w4, w5])), (h1, .inr (7, [.ref h0, .int p7, .int p8, .ref h2])), (h2, .inl (cy 1, 10, .inl f0)), (h3, .inr (6, [w6, w7]))] sz) s.heap [(h0, .inr (3, [.int p3, .int p4, .int p5, .int p6, .null, w0, w0, w1, w2, w3, w4, w5])), (h1, .inr (7, [.ref h0, .int p7, .int p8, .ref h2])), (h2, .inl (cy 1, 10, .inl f0)), (h3, .inr (6, [w6, w7]))] H locs ∧ lv_has ls 7 [(0, .ref h3), (1, .ref h1), (2, .int p0), (3, .int p1), (4, .int p2), (5, .int v47_5_0), (6, .int v6_3_0)]) (fun H locs ls st hP => ?_) (fun J_47 => ?_)
    · obtain ⟨v47_5_0, hv47_5_0, rfl, h, hl⟩ := hP
      obtain ⟨z_6, ez_6, hz_6⟩ := e_add (x := v6_3_0) (y := Int32.ofInt 1) rfl (b := 1) (by decide) (by omega) (by omega)
      refine lv_iinc (v := z_6) (lv' := [(6, .int z_6), (0, .ref h3), (1, .ref h1), (2, .int p0), (3, .int p1), (4, .int p2), (5, .int v47_5_0)]) hx hb dX6_rowOf_47 hl (k := 6) rfl ez_6 (by decide) rfl (fun ls_6 hl_6 => ?_)
      clear hl
      refine lv_goto (tgt := 6) hx hb dX6_rowOf_50 (by decide) ?_
      exact ih_6 (z_6, v47_5_0) (by show (11 - (z_6).toInt).toNat < (11 - (v6_3_0).toInt).toNat; omega) _ _ _ ⟨⟨by omega, by omega⟩, ⟨by omega, by omega⟩, h, (lv_sub hl_6 [1, 2, 3, 4, 5, 6, 0] rfl)⟩
    · skip
      refine lv_icmp_eq (tgt := 47) hx hb dX6_rowOf_21 (by decide) (fun c_7 => ?_) (fun c_7 => ?_)
      · replace c_7 := i_eq (x := v6_3_0) (y := p0) rfl rfl c_7
        exact J_47 _ _ _ _ ⟨v6_3_1, ⟨by omega, by omega⟩, rfl, h, (lv_sub hl [0, 1, 2, 3, 4, 5, 6] rfl)⟩
      · replace c_7 := i_ne (x := v6_3_0) (y := p0) rfl rfl c_7
        refine lv_aload_n hx hb dX6_rowOf_24 rfl (lv_at hl 0 rfl) ?_
        refine lv_aload_n hx hb dX6_rowOf_25 rfl (lv_at hl 1 rfl) ?_
        refine lv_iload_n hx hb dX6_rowOf_26 rfl (lv_at hl 2 rfl) ?_
        refine lv_iload_n hx hb dX6_rowOf_27 rfl (lv_at hl 3 rfl) ?_
        refine lv_iload hx hb dX6_rowOf_28 (lv_at hl 6 rfl) ?_
        refine lv_iload hx hb dX6_rowOf_30 (lv_at hl 4 rfl) ?_
        refine q_callVi (rest := []) (wr := []) X hK hA h (fun sz => gX6_areOpposites_5 l D cy h0 h1 h2 h3 p0 p1 v6_3_0 p2 p3 p4 p5 p6 w0 w1 w2 w3 w4 w5 p7 p8 f0 w6 w7 ⟨by omega, by omega⟩ ⟨by omega, by omega⟩ ⟨by omega, by omega⟩ ⟨by omega, by omega⟩ ⟨by omega, by omega⟩ ⟨by omega, by omega⟩ ⟨by omega, by omega⟩ ⟨by omega, by omega⟩ ⟨by omega, by omega⟩ ⟨by omega, by omega⟩ (rg_wide rf0 (by decide) (by decide)) sz) wm_3_231 wm_3_199 wm_1_5 hd_X6_areOpposites wm_3_197 wm_3_198 (ci := 6) (q0 := 3) rfl rfl ⟨Nat.le_of_ble_eq_true rfl, Nat.le_of_ble_eq_true rfl⟩ hl.1 rfl (Nat.le_of_ble_eq_true rfl) dX6_rowOf_32 ⟨Nat.le_of_ble_eq_true rfl, Nat.le_of_ble_eq_true rfl⟩ [0, 1, 2, 3] [] rfl rfl (by decide) rfl rfl (fun r_8 u_8 H locs w_8 h_8 => ?_)
        clear h
        obtain ⟨wr_8, _⟩ := w_8
        replace h_8 : qW D _ _ [(h0, .inr (3, [.int p3, .int p4, .int p5, .int p6, .null, w0, w0, w1, w2, w3, w4, w5])), (h1, .inr (7, [.ref h0, .int p7, .int p8, .ref h2])), (h2, .inl (cy 1, 10, .inl f0)), (h3, .inr (6, [w6, w7]))] _ _ := h_8
        refine lv_if_eq (tgt := 47) hx hb dX6_rowOf_35 (by decide) (fun c_9 => ?_) (fun c_9 => ?_)
        · replace c_9 := i_eq (x := r_8) (y := 0) rfl (show (0 : Int32).toInt = 0 by decide) c_9
          exact J_47 _ _ _ _ ⟨v6_3_1, ⟨by omega, by omega⟩, rfl, h_8, (lv_sub hl [0, 1, 2, 3, 4, 5, 6] rfl)⟩
        · replace c_9 := i_ne (x := r_8) (y := 0) rfl (show (0 : Int32).toInt = 0 by decide) c_9
          refine lv_iload hx hb dX6_rowOf_38 (lv_at hl 5 rfl) ?_
          refine lv_iconst (v := 1) hx hb dX6_rowOf_40 (by decide) ?_
          refine lv_iload hx hb dX6_rowOf_41 (lv_at hl 6 rfl) ?_
          refine lv_ishl hx hb dX6_rowOf_43 ?_
          obtain ⟨z_10, ez_10, hz_10⟩ := e_shlk (p := v6_3_0) 9 (by decide) rfl (by omega) (by omega)
          refine q_c z_10 ez_10 ?_
          clear ez_10
          refine lv_ior hx hb dX6_rowOf_44 ?_
          obtain ⟨z_11, ez_11, hz_11⟩ := e_or (x := v6_3_1) (y := z_10) 10 (by decide) rfl rfl (by omega) (by omega) (by omega) (by omega)
          refine q_c z_11 ez_11 ?_
          clear ez_11
          refine lv_istore (lv' := [(5, .int z_11), (0, .ref h3), (1, .ref h1), (2, .int p0), (3, .int p1), (4, .int p2), (6, .int v6_3_0)]) hx hb dX6_rowOf_45 hl (by decide) rfl (fun ls_12 hl_12 => ?_)
          clear hl
          exact J_47 _ _ _ _ ⟨z_11, ⟨by omega, by omega⟩, rfl, h_8, (lv_sub hl_12 [1, 2, 3, 4, 5, 0, 6] rfl)⟩
set_option maxHeartbeats 4000000 in
set_option maxRecDepth 100000 in
theorem gJ7_fill_53178_7 (l : Launch) (D : va_G) (cy : Nat → ClassId) (h0 : Nat) (p0 : Int32) (f0 : Nat → Int32) (hp0 : 0 ≤ (p0).toInt ∧ (p0).toInt ≤ 0) (rf0 : RG f0 10 0 1023) (sz : Nat) : MV l yJ7_fill_53178 cJ7_fill_53178 4 { frames := 0, cells := 0, slots := 0, locals := 0 } [.ref h0, .int p0] D cy [(h0, .inl (cy 1, 10, .inl f0))] sz (fun u => RG (u.2.1 0) 10 0 1023 ∧ True) (fun u => [(h0, .inl (cy 1, 10, .inl (u.2.1 0)))]) 0 0 := by
  refine q_ent (own := RJ7) (by decide) rfl (Nat.le_of_ble_eq_true rfl) (fun p e s m below meth c ls X hr hlk hnm hK h hA hl => ?_)
  obtain ⟨hx, hb, hml, hown, ht⟩ := id X
  replace hl : lv_has ls 4 [(0, .ref h0), (1, .int p0)] := hl
  refine lv_iconst (v := 0) hx hb dJ7_fill_53178_0 (by decide) ?_
  refine lv_istore_n (lv' := [(2, .int 0), (0, .ref h0), (1, .int p0)]) hx hb dJ7_fill_53178_1 rfl hl (by decide) rfl (fun ls_1 hl_1 => ?_)
  clear hl
  refine lv_aload_n hx hb dJ7_fill_53178_2 rfl (lv_at hl_1 1 rfl) ?_
  refine q_alen X hK h 0 1 rfl rfl 10 (show Int32.ofNat 10 = 10 by decide) dJ7_fill_53178_3 ?_
  refine lv_istore_n (lv' := [(3, .int 10), (2, .int 0), (0, .ref h0), (1, .int p0)]) hx hb dJ7_fill_53178_4 rfl hl_1 (by decide) rfl (fun ls_2 hl_2 => ?_)
  clear hl_1
  refine q_wl (fun (v5_3_0 : Int32) H locs ls => ∃ v5_3_1 : Nat → Int32, (0 ≤ (v5_3_0).toInt ∧ (v5_3_0).toInt ≤ 10) ∧ RG v5_3_1 10 0 1023 ∧ qW D (va_A [(h0, .inl (cy 1, 10, .inl f0))] sz) s.heap [(h0, .inl (cy 1, 10, .inl v5_3_1))] H locs ∧ lv_has ls 4 [(0, .ref h0), (1, .int p0), (2, .int v5_3_0), (3, .int 10)]) (fun (v5_3_0 : Int32) => (11 - (v5_3_0).toInt).toNat) (fun q_5 ih_5 H locs ls hP => ?_) 0 ⟨f0, ⟨by decide +kernel, by decide +kernel⟩, (rg_wide rf0 (by decide) (by decide)), h, (lv_sub hl_2 [2, 3, 1, 0] rfl)⟩
  obtain ⟨v5_3_0, rfl⟩ : ∃ z, z = q_5 := ⟨_, rfl⟩
  obtain ⟨v5_3_1, hv5_3_0, rv5_3_1, h, hl⟩ := hP
  refine lv_iload_n hx hb dJ7_fill_53178_5 rfl (lv_at hl 2 rfl) ?_
  refine lv_iload_n hx hb dJ7_fill_53178_6 rfl (lv_at hl 3 rfl) ?_
  refine lv_icmp_ge (tgt := 20) hx hb dJ7_fill_53178_7 (by decide) (fun c_4 => ?_) (fun c_4 => ?_)
  · replace c_4 := i_le (x := 10) (y := v5_3_0) (show (10 : Int32).toInt = 10 by decide) rfl c_4
    exact q_vret X hr hlk hK h (fun _ => 0, fun k => List.getD [v5_3_1] k (fun _ => 0), fun _ _ => 0) ⟨(rg_wide rv5_3_1 (by decide) (by decide)), trivial⟩ [0] rfl rfl dJ7_fill_53178_20 (Nat.le_of_ble_eq_true rfl) (Nat.le_of_ble_eq_true rfl)
  · replace c_4 := i_nle (x := 10) (y := v5_3_0) (show (10 : Int32).toInt = 10 by decide) rfl c_4
    refine lv_aload_n hx hb dJ7_fill_53178_10 rfl (lv_at hl 0 rfl) ?_
    refine lv_iload_n hx hb dJ7_fill_53178_11 rfl (lv_at hl 2 rfl) ?_
    refine lv_iload_n hx hb dJ7_fill_53178_12 rfl (lv_at hl 1 rfl) ?_
    refine q_iast X hK h 0 rfl (i_in rfl (by omega) (by omega)) dJ7_fill_53178_13 (fun H locs h_6 => ?_)
    clear h
    replace h_6 : qW D _ _ [(h0, .inl (cy 1, 10, .inl (upd v5_3_1 (Int32.toNatClampNeg v5_3_0) p0)))] _ _ := h_6
    obtain ⟨F_5, eF_5, rF_5⟩ := rg_upd rv5_3_1 (Int32.toNatClampNeg v5_3_0) (x := p0) rfl (by omega) (by omega)
    rw [eF_5] at h_6
    clear eF_5
    obtain ⟨z_7, ez_7, hz_7⟩ := e_add (x := v5_3_0) (y := Int32.ofInt 1) rfl (b := 1) (by decide) (by omega) (by omega)
    refine lv_iinc (v := z_7) (lv' := [(2, .int z_7), (0, .ref h0), (1, .int p0), (3, .int 10)]) hx hb dJ7_fill_53178_14 hl (k := 2) rfl ez_7 (by decide) rfl (fun ls_7 hl_7 => ?_)
    clear hl
    refine lv_goto (tgt := 5) hx hb dJ7_fill_53178_17 (by decide) ?_
    exact ih_5 z_7 (by show (11 - (z_7).toInt).toNat < (11 - (v5_3_0).toInt).toNat; omega) _ _ _ ⟨F_5, ⟨by omega, by omega⟩, (rg_wide rF_5 (by decide) (by decide)), h_6, (lv_sub hl_7 [1, 2, 0, 3] rfl)⟩
set_option maxHeartbeats 4000000 in
set_option maxRecDepth 100000 in
theorem gX0_draw_8 (l : Launch) (D : va_G) (cy : Nat → ClassId) (h0 : Nat) (h1 : Nat) (h2 : Nat) (h3 : Nat) (h4 : Nat) (h5 : Nat) (p0 : Int32) (p1 : Int32) (p2 : Int32) (p3 : Int32) (p4 : Int32) (w0 : Value) (w1 : Value) (w2 : Value) (w3 : Value) (w4 : Value) (w5 : Value) (p5 : Int32) (p6 : Int32) (f0 : Nat → Int32) (w6 : Value) (w7 : Value) (p7 : Int32) (w8 : Value) (w9 : Value) (f1 : Nat → Int32) (hp0 : 0 ≤ (p0).toInt ∧ (p0).toInt ≤ 62000) (hp1 : 1 ≤ (p1).toInt ∧ (p1).toInt ≤ 3) (hp2 : 0 ≤ (p2).toInt ∧ (p2).toInt ≤ 10) (hp3 : 0 ≤ (p3).toInt ∧ (p3).toInt ≤ 920) (hp4 : 0 ≤ (p4).toInt ∧ (p4).toInt ≤ 999) (hp5 : 0 ≤ (p5).toInt ∧ (p5).toInt ≤ 60000) (hp6 : 0 ≤ (p6).toInt ∧ (p6).toInt ≤ 1023) (hp7 : 0 ≤ (p7).toInt ∧ (p7).toInt ≤ 10) (rf0 : RG f0 10 0 999) (rf1 : RG f1 10 0 1023) (sz : Nat) : MV l yX0_draw cX0_draw 6 { frames := 1, cells := 0, slots := 0, locals := 27 } [.ref h4, .ref h1, .int p0, .ref h3] D cy [(h0, .inr (3, [.int p1, .int p2, .int p3, .int p4, .null, w0, w0, w1, w2, w3, w4, w5])), (h1, .inr (7, [.ref h0, .int p5, .int p6, .ref h2])), (h2, .inl (cy 1, 10, .inl f0)), (h3, .inr (6, [w6, w7])), (h4, .inr (0, [.int p7, .ref h5, w8, w9])), (h5, .inl (cy 1, 10, .inl f1))] sz (fun u => (0 ≤ (u.2.1 0 0).toInt ∧ (u.2.1 0 0).toInt ≤ 10) ∧ RG (u.2.1 1) 10 0 1023 ∧ True) (fun u => [(h0, .inr (3, [.int p1, .int p2, .int p3, .int p4, .null, w0, w0, w1, w2, w3, w4, w5])), (h1, .inr (7, [.ref h0, .int p5, .int p6, .ref h2])), (h2, .inl (cy 1, 10, .inl f0)), (h3, .inr (6, [w6, w7])), (h4, .inr (0, [.int (u.2.1 0 0), .ref h5, w8, w9])), (h5, .inl (cy 1, 10, .inl (u.2.1 1)))]) 0 0 := by
  refine q_ent (own := RX0) (by decide) rfl (Nat.le_of_ble_eq_true rfl) (fun p e s m below meth c ls X hr hlk hnm hK h hA hl => ?_)
  obtain ⟨hx, hb, hml, hown, ht⟩ := id X
  replace hl : lv_has ls 6 [(0, .ref h4), (1, .ref h1), (2, .int p0), (3, .ref h3)] := hl
  refine lv_aload_n hx hb dX0_draw_0 rfl (lv_at hl 0 rfl) ?_
  refine lv_aload_n hx hb dX0_draw_1 rfl (lv_at hl 1 rfl) ?_
  refine q_get X hK h 1 rfl rfl wf_7 0 (by decide) rfl wm_2_38 dX0_draw_2 ?_
  refine q_get X hK h 0 rfl rfl wf_3 1 (by decide) rfl wm_1_80 dX0_draw_5 ?_
  refine q_put (v := .int p2) X hK h 4 rfl rfl wf_0 tyX0 tyX0_ok nmX0 0 (by decide) wm_1_198 rfl rfl rfl (Nat.le_of_ble_eq_true rfl) dX0_draw_8 (fun H locs h_1 => ?_)
  clear h
  replace h_1 : qW D _ _ [(h0, .inr (3, [.int p1, .int p2, .int p3, .int p4, .null, w0, w0, w1, w2, w3, w4, w5])), (h1, .inr (7, [.ref h0, .int p5, .int p6, .ref h2])), (h2, .inl (cy 1, 10, .inl f0)), (h3, .inr (6, [w6, w7])), (h4, .inr (0, [.int p2, .ref h5, w8, w9])), (h5, .inl (cy 1, 10, .inl f1))] _ _ := h_1
  refine lv_aload_n hx hb dX0_draw_11 rfl (lv_at hl 0 rfl) ?_
  refine q_get X hK h_1 4 rfl rfl wf_0 1 (by decide) rfl wm_1_199 dX0_draw_12 ?_
  refine lv_iconst (v := 0) hx hb dX0_draw_15 (by decide) ?_
  refine q_callSv (rest := []) (wr := [(h0, .inr (3, [.int p1, .int p2, .int p3, .int p4, .null, w0, w0, w1, w2, w3, w4, w5])), (h1, .inr (7, [.ref h0, .int p5, .int p6, .ref h2])), (h2, .inl (cy 1, 10, .inl f0)), (h3, .inr (6, [w6, w7])), (h4, .inr (0, [.int p2, .ref h5, w8, w9]))]) X hK hA h_1 (fun sz => gJ7_fill_53178_7 l D cy h5 (0 : Int32) f1 ⟨by decide +kernel, by decide +kernel⟩ (rg_wide rf1 (by decide) (by decide)) sz) wm_4_105 wm_4_107 wm_1_20 hd_J7_fill_53178 wm_4_106 ⟨Nat.le_of_ble_eq_true rfl, Nat.le_of_ble_eq_true rfl⟩ hl.1 rfl (Nat.le_of_ble_eq_true rfl) dX0_draw_16 ⟨Nat.le_of_ble_eq_true rfl, Nat.le_of_ble_eq_true rfl⟩ [5] [0, 1, 2, 3, 4] rfl rfl (by decide) rfl rfl (fun u_2 H locs w_2 h_2 => ?_)
  clear h_1
  obtain ⟨w2_0, _⟩ := w_2
  replace h_2 : qW D _ _ [(h0, .inr (3, [.int p1, .int p2, .int p3, .int p4, .null, w0, w0, w1, w2, w3, w4, w5])), (h1, .inr (7, [.ref h0, .int p5, .int p6, .ref h2])), (h2, .inl (cy 1, 10, .inl f0)), (h3, .inr (6, [w6, w7])), (h4, .inr (0, [.int p2, .ref h5, w8, w9])), (h5, .inl (cy 1, 10, .inl (u_2.2.1 0)))] _ _ := h_2
  refine lv_iconst (v := 0) hx hb dX0_draw_19 (by decide) ?_
  refine lv_istore (lv' := [(4, .int 0), (0, .ref h4), (1, .ref h1), (2, .int p0), (3, .ref h3)]) hx hb dX0_draw_20 hl (by decide) rfl (fun ls_3 hl_3 => ?_)
  clear hl
  refine q_wl (fun (v22_4_0 : Int32) H locs ls => ∃ v22_4_1 : Nat → Int32, (0 ≤ (v22_4_0).toInt ∧ (v22_4_0).toInt ≤ 10) ∧ RG v22_4_1 10 0 1023 ∧ qW D (va_A [(h0, .inr (3, [.int p1, .int p2, .int p3, .int p4, .null, w0, w0, w1, w2, w3, w4, w5])), (h1, .inr (7, [.ref h0, .int p5, .int p6, .ref h2])), (h2, .inl (cy 1, 10, .inl f0)), (h3, .inr (6, [w6, w7])), (h4, .inr (0, [.int p7, .ref h5, w8, w9])), (h5, .inl (cy 1, 10, .inl f1))] sz) s.heap [(h0, .inr (3, [.int p1, .int p2, .int p3, .int p4, .null, w0, w0, w1, w2, w3, w4, w5])), (h1, .inr (7, [.ref h0, .int p5, .int p6, .ref h2])), (h2, .inl (cy 1, 10, .inl f0)), (h3, .inr (6, [w6, w7])), (h4, .inr (0, [.int p2, .ref h5, w8, w9])), (h5, .inl (cy 1, 10, .inl v22_4_1))] H locs ∧ lv_has ls 6 [(0, .ref h4), (1, .ref h1), (2, .int p0), (3, .ref h3), (4, .int v22_4_0)]) (fun (v22_4_0 : Int32) => (11 - (v22_4_0).toInt).toNat) (fun q_22 ih_22 H locs ls hP => ?_) 0 ⟨(u_2.2.1 0), ⟨by decide +kernel, by decide +kernel⟩, (rg_wide w2_0 (by decide) (by decide)), h_2, (lv_sub hl_3 [1, 2, 3, 4, 0] rfl)⟩
  obtain ⟨v22_4_0, rfl⟩ : ∃ z, z = q_22 := ⟨_, rfl⟩
  obtain ⟨v22_4_1, hv22_4_0, rv22_4_1, h, hl⟩ := hP
  refine lv_iload hx hb dX0_draw_22 (lv_at hl 4 rfl) ?_
  refine lv_aload_n hx hb dX0_draw_24 rfl (lv_at hl 0 rfl) ?_
  refine q_get X hK h 4 rfl rfl wf_0 0 (by decide) rfl wm_1_198 dX0_draw_25 ?_
  refine lv_icmp_ge (tgt := 106) hx hb dX0_draw_28 (by decide) (fun c_5 => ?_) (fun c_5 => ?_)
  · replace c_5 := i_le (x := p2) (y := v22_4_0) rfl rfl c_5
    exact q_vret X hr hlk hK h (fun _ => 0, fun k => List.getD [(fun _ => p2), v22_4_1] k (fun _ => 0), fun _ _ => 0) ⟨(⟨by omega, by omega⟩ : 0 ≤ (p2 : Int32).toInt ∧ (p2 : Int32).toInt ≤ 10), (rg_wide rv22_4_1 (by decide) (by decide)), trivial⟩ [0, 1, 2, 3, 4, 5] rfl rfl dX0_draw_106 (Nat.le_of_ble_eq_true rfl) (Nat.le_of_ble_eq_true rfl)
  · replace c_5 := i_nle (x := p2) (y := v22_4_0) rfl rfl c_5
    refine lv_iload hx hb dX0_draw_31 (lv_at hl 4 rfl) ?_
    refine lv_iconst (v := 1) hx hb dX0_draw_33 (by decide) ?_
    refine lv_iadd hx hb dX0_draw_34 ?_
    obtain ⟨z_6, ez_6, hz_6⟩ := e_add (x := v22_4_0) (y := 1) rfl (show (1 : Int32).toInt = 1 by decide) (by omega) (by omega)
    refine q_c z_6 ez_6 ?_
    clear ez_6
    refine lv_istore (lv' := [(5, .int z_6), (0, .ref h4), (1, .ref h1), (2, .int p0), (3, .ref h3), (4, .int v22_4_0)]) hx hb dX0_draw_35 hl (by decide) rfl (fun ls_7 hl_7 => ?_)
    clear hl
    refine q_wl (fun (v37_8_0 : Int32) H locs ls => ∃ v37_8_1 : Nat → Int32, (1 ≤ (v37_8_0).toInt ∧ (v37_8_0).toInt ≤ 10) ∧ RG v37_8_1 10 0 1023 ∧ qW D (va_A [(h0, .inr (3, [.int p1, .int p2, .int p3, .int p4, .null, w0, w0, w1, w2, w3, w4, w5])), (h1, .inr (7, [.ref h0, .int p5, .int p6, .ref h2])), (h2, .inl (cy 1, 10, .inl f0)), (h3, .inr (6, [w6, w7])), (h4, .inr (0, [.int p7, .ref h5, w8, w9])), (h5, .inl (cy 1, 10, .inl f1))] sz) s.heap [(h0, .inr (3, [.int p1, .int p2, .int p3, .int p4, .null, w0, w0, w1, w2, w3, w4, w5])), (h1, .inr (7, [.ref h0, .int p5, .int p6, .ref h2])), (h2, .inl (cy 1, 10, .inl f0)), (h3, .inr (6, [w6, w7])), (h4, .inr (0, [.int p2, .ref h5, w8, w9])), (h5, .inl (cy 1, 10, .inl v37_8_1))] H locs ∧ lv_has ls 6 [(0, .ref h4), (1, .ref h1), (2, .int p0), (3, .ref h3), (4, .int v22_4_0), (5, .int v37_8_0)]) (fun (v37_8_0 : Int32) => (11 - (v37_8_0).toInt).toNat) (fun q_37 ih_37 H locs ls hP => ?_) z_6 ⟨v22_4_1, ⟨by omega, by omega⟩, (rg_wide rv22_4_1 (by decide) (by decide)), h, (lv_sub hl_7 [1, 2, 3, 4, 5, 0] rfl)⟩
    obtain ⟨v37_8_0, rfl⟩ : ∃ z, z = q_37 := ⟨_, rfl⟩
    obtain ⟨v37_8_1, hv37_8_0, rv37_8_1, h, hl⟩ := hP
    refine lv_iload hx hb dX0_draw_37 (lv_at hl 5 rfl) ?_
    refine lv_aload_n hx hb dX0_draw_39 rfl (lv_at hl 0 rfl) ?_
    refine q_get X hK h 4 rfl rfl wf_0 0 (by decide) rfl wm_1_198 dX0_draw_40 ?_
    refine lv_icmp_ge (tgt := 100) hx hb dX0_draw_43 (by decide) (fun c_9 => ?_) (fun c_9 => ?_)
    · replace c_9 := i_le (x := p2) (y := v37_8_0) rfl rfl c_9
      obtain ⟨z_10, ez_10, hz_10⟩ := e_add (x := v22_4_0) (y := Int32.ofInt 1) rfl (b := 1) (by decide) (by omega) (by omega)
      refine lv_iinc (v := z_10) (lv' := [(4, .int z_10), (0, .ref h4), (1, .ref h1), (2, .int p0), (3, .ref h3), (5, .int v37_8_0)]) hx hb dX0_draw_100 hl (k := 4) rfl ez_10 (by decide) rfl (fun ls_10 hl_10 => ?_)
      clear hl
      refine lv_goto (tgt := 22) hx hb dX0_draw_103 (by decide) ?_
      exact ih_22 z_10 (by show (11 - (z_10).toInt).toNat < (11 - (v22_4_0).toInt).toNat; omega) _ _ _ ⟨v37_8_1, ⟨by omega, by omega⟩, (rg_wide rv37_8_1 (by decide) (by decide)), h, (lv_sub hl_10 [1, 2, 3, 4, 0] rfl)⟩
    · replace c_9 := i_nle (x := p2) (y := v37_8_0) rfl rfl c_9
      refine lv_aload_n hx hb dX0_draw_46 rfl (lv_at hl 3 rfl) ?_
      refine lv_aload_n hx hb dX0_draw_47 rfl (lv_at hl 1 rfl) ?_
      refine lv_iload hx hb dX0_draw_48 (lv_at hl 4 rfl) ?_
      refine lv_aload_n hx hb dX0_draw_50 rfl (lv_at hl 1 rfl) ?_
      refine q_get X hK h 1 rfl rfl wf_7 3 (by decide) rfl wm_2_52 dX0_draw_51 ?_
      refine lv_iload hx hb dX0_draw_54 (lv_at hl 4 rfl) ?_
      refine q_iald X hK h 2 rfl (i_in rfl (by omega) (by omega)) dX0_draw_56 ?_
      obtain ⟨z_11, ez_11, hz_11⟩ := rg_get rf0 (x := v22_4_0) rfl (by omega) (by omega)
      refine q_c z_11 ez_11 ?_
      clear ez_11
      refine lv_iload hx hb dX0_draw_57 (lv_at hl 5 rfl) ?_
      refine lv_iload_n hx hb dX0_draw_59 rfl (lv_at hl 2 rfl) ?_
      refine q_callVi (rest := []) (wr := [(h4, .inr (0, [.int p2, .ref h5, w8, w9])), (h5, .inl (cy 1, 10, .inl v37_8_1))]) X hK hA h (fun sz => gX6_areOpposites_5 l D cy h0 h1 h2 h3 v22_4_0 z_11 v37_8_0 p0 p1 p2 p3 p4 w0 w1 w2 w3 w4 w5 p5 p6 f0 w6 w7 ⟨by omega, by omega⟩ ⟨by omega, by omega⟩ ⟨by omega, by omega⟩ ⟨by omega, by omega⟩ ⟨by omega, by omega⟩ ⟨by omega, by omega⟩ ⟨by omega, by omega⟩ ⟨by omega, by omega⟩ ⟨by omega, by omega⟩ ⟨by omega, by omega⟩ (rg_wide rf0 (by decide) (by decide)) sz) wm_4_108 wm_3_199 wm_1_5 hd_X6_areOpposites wm_3_197 wm_3_198 (ci := 6) (q0 := 3) rfl rfl ⟨Nat.le_of_ble_eq_true rfl, Nat.le_of_ble_eq_true rfl⟩ hl.1 rfl (Nat.le_of_ble_eq_true rfl) dX0_draw_60 ⟨Nat.le_of_ble_eq_true rfl, Nat.le_of_ble_eq_true rfl⟩ [0, 1, 2, 3] [4, 5] rfl rfl (by decide) rfl rfl (fun r_12 u_12 H locs w_12 h_12 => ?_)
      clear h
      obtain ⟨wr_12, _⟩ := w_12
      replace h_12 : qW D _ _ [(h4, .inr (0, [.int p2, .ref h5, w8, w9])), (h5, .inl (cy 1, 10, .inl v37_8_1)), (h0, .inr (3, [.int p1, .int p2, .int p3, .int p4, .null, w0, w0, w1, w2, w3, w4, w5])), (h1, .inr (7, [.ref h0, .int p5, .int p6, .ref h2])), (h2, .inl (cy 1, 10, .inl f0)), (h3, .inr (6, [w6, w7]))] _ _ := h_12
      refine q_jn (pc2 := 94) (fun H locs ls st => ∃ v94_13_0 : Nat → Int32, RG v94_13_0 10 0 1023 ∧ st = [] ∧ qW D (va_A [(h0, .inr (3, [.int p1, .int p2, .int p3, .int p4, .null, w0, w0, w1, w2, w3, w4, w5])), (h1, .inr (7, [.ref h0, .int p5, .int p6, .ref h2])), (h2, .inl (cy 1, 10, .inl f0)), (h3, .inr (6, [w6, w7])), (h4, .inr (0, [.int p7, .ref h5, w8, w9])), (h5, .inl (cy 1, 10, .inl f1))] sz) s.heap [(h4, .inr (0, [.int p2, .ref h5, w8, w9])), (h5, .inl (cy 1, 10, .inl v94_13_0)), (h0, .inr (3, [.int p1, .int p2, .int p3, .int p4, .null, w0, w0, w1, w2, w3, w4, w5])), (h1, .inr (7, [.ref h0, .int p5, .int p6, .ref h2])), (h2, .inl (cy 1, 10, .inl f0)), (h3, .inr (6, [w6, w7]))] H locs ∧ lv_has ls 6 [(0, .ref h4), (1, .ref h1), (2, .int p0), (3, .ref h3), (4, .int v22_4_0), (5, .int v37_8_0)]) (fun H locs ls st hP => ?_) (fun J_94 => ?_)
      · obtain ⟨v94_13_0, rv94_13_0, rfl, h, hl⟩ := hP
        obtain ⟨z_14, ez_14, hz_14⟩ := e_add (x := v37_8_0) (y := Int32.ofInt 1) rfl (b := 1) (by decide) (by omega) (by omega)
        refine lv_iinc (v := z_14) (lv' := [(5, .int z_14), (0, .ref h4), (1, .ref h1), (2, .int p0), (3, .ref h3), (4, .int v22_4_0)]) hx hb dX0_draw_94 hl (k := 5) rfl ez_14 (by decide) rfl (fun ls_14 hl_14 => ?_)
        clear hl
        refine lv_goto (tgt := 37) hx hb dX0_draw_97 (by decide) ?_
        exact ih_37 z_14 (by show (11 - (z_14).toInt).toNat < (11 - (v37_8_0).toInt).toNat; omega) _ _ _ ⟨v94_13_0, ⟨by omega, by omega⟩, (rg_wide rv94_13_0 (by decide) (by decide)), (q_re h [2, 3, 4, 5, 0, 1] rfl rfl), (lv_sub hl_14 [1, 2, 3, 4, 5, 0] rfl)⟩
      · skip
        refine lv_if_eq (tgt := 94) hx hb dX0_draw_63 (by decide) (fun c_15 => ?_) (fun c_15 => ?_)
        · replace c_15 := i_eq (x := r_12) (y := 0) rfl (show (0 : Int32).toInt = 0 by decide) c_15
          exact J_94 _ _ _ _ ⟨v37_8_1, (rg_wide rv37_8_1 (by decide) (by decide)), rfl, h_12, (lv_sub hl [0, 1, 2, 3, 4, 5] rfl)⟩
        · replace c_15 := i_ne (x := r_12) (y := 0) rfl (show (0 : Int32).toInt = 0 by decide) c_15
          refine lv_aload_n hx hb dX0_draw_66 rfl (lv_at hl 0 rfl) ?_
          refine q_get X hK h_12 0 rfl rfl wf_0 1 (by decide) rfl wm_1_199 dX0_draw_67 ?_
          refine lv_iload hx hb dX0_draw_70 (lv_at hl 4 rfl) ?_
          refine lv_dup2_11 hx hb dX0_draw_72 rfl rfl ?_
          refine q_iald X hK h_12 1 rfl (i_in rfl (by omega) (by omega)) dX0_draw_73 ?_
          obtain ⟨z_16, ez_16, hz_16⟩ := rg_get rv37_8_1 (x := v22_4_0) rfl (by omega) (by omega)
          refine q_c z_16 ez_16 ?_
          clear ez_16
          refine lv_iconst (v := 1) hx hb dX0_draw_74 (by decide) ?_
          refine lv_iload hx hb dX0_draw_75 (lv_at hl 5 rfl) ?_
          refine lv_ishl hx hb dX0_draw_77 ?_
          obtain ⟨z_17, ez_17, hz_17⟩ := e_shlk (p := v37_8_0) 9 (by decide) rfl (by omega) (by omega)
          refine q_c z_17 ez_17 ?_
          clear ez_17
          refine lv_ior hx hb dX0_draw_78 ?_
          obtain ⟨z_18, ez_18, hz_18⟩ := e_or (x := z_16) (y := z_17) 10 (by decide) rfl rfl (by omega) (by omega) (by omega) (by omega)
          refine q_c z_18 ez_18 ?_
          clear ez_18
          refine q_iast X hK h_12 1 rfl (i_in rfl (by omega) (by omega)) dX0_draw_79 (fun H locs h_20 => ?_)
          clear h_12
          replace h_20 : qW D _ _ [(h4, .inr (0, [.int p2, .ref h5, w8, w9])), (h5, .inl (cy 1, 10, .inl (upd v37_8_1 (Int32.toNatClampNeg v22_4_0) z_18))), (h0, .inr (3, [.int p1, .int p2, .int p3, .int p4, .null, w0, w0, w1, w2, w3, w4, w5])), (h1, .inr (7, [.ref h0, .int p5, .int p6, .ref h2])), (h2, .inl (cy 1, 10, .inl f0)), (h3, .inr (6, [w6, w7]))] _ _ := h_20
          obtain ⟨F_19, eF_19, rF_19⟩ := rg_upd rv37_8_1 (Int32.toNatClampNeg v22_4_0) (x := z_18) rfl (by omega) (by omega)
          rw [eF_19] at h_20
          clear eF_19
          refine lv_aload_n hx hb dX0_draw_80 rfl (lv_at hl 0 rfl) ?_
          refine q_get X hK h_20 0 rfl rfl wf_0 1 (by decide) rfl wm_1_199 dX0_draw_81 ?_
          refine lv_iload hx hb dX0_draw_84 (lv_at hl 5 rfl) ?_
          refine lv_dup2_11 hx hb dX0_draw_86 rfl rfl ?_
          refine q_iald X hK h_20 1 rfl (i_in rfl (by omega) (by omega)) dX0_draw_87 ?_
          obtain ⟨z_21, ez_21, hz_21⟩ := rg_get rF_19 (x := v37_8_0) rfl (by omega) (by omega)
          refine q_c z_21 ez_21 ?_
          clear ez_21
          refine lv_iconst (v := 1) hx hb dX0_draw_88 (by decide) ?_
          refine lv_iload hx hb dX0_draw_89 (lv_at hl 4 rfl) ?_
          refine lv_ishl hx hb dX0_draw_91 ?_
          obtain ⟨z_22, ez_22, hz_22⟩ := e_shlk (p := v22_4_0) 9 (by decide) rfl (by omega) (by omega)
          refine q_c z_22 ez_22 ?_
          clear ez_22
          refine lv_ior hx hb dX0_draw_92 ?_
          obtain ⟨z_23, ez_23, hz_23⟩ := e_or (x := z_21) (y := z_22) 10 (by decide) rfl rfl (by omega) (by omega) (by omega) (by omega)
          refine q_c z_23 ez_23 ?_
          clear ez_23
          refine q_iast X hK h_20 1 rfl (i_in rfl (by omega) (by omega)) dX0_draw_93 (fun H locs h_25 => ?_)
          clear h_20
          replace h_25 : qW D _ _ [(h4, .inr (0, [.int p2, .ref h5, w8, w9])), (h5, .inl (cy 1, 10, .inl (upd F_19 (Int32.toNatClampNeg v37_8_0) z_23))), (h0, .inr (3, [.int p1, .int p2, .int p3, .int p4, .null, w0, w0, w1, w2, w3, w4, w5])), (h1, .inr (7, [.ref h0, .int p5, .int p6, .ref h2])), (h2, .inl (cy 1, 10, .inl f0)), (h3, .inr (6, [w6, w7]))] _ _ := h_25
          obtain ⟨F_24, eF_24, rF_24⟩ := rg_upd rF_19 (Int32.toNatClampNeg v37_8_0) (x := z_23) rfl (by omega) (by omega)
          rw [eF_24] at h_25
          clear eF_24
          exact J_94 _ _ _ _ ⟨F_24, (rg_wide rF_24 (by decide) (by decide)), rfl, h_25, (lv_sub hl [0, 1, 2, 3, 4, 5] rfl)⟩
set_option maxHeartbeats 4000000 in
set_option maxRecDepth 100000 in
theorem gX6_put_9 (l : Launch) (D : va_G) (cy : Nat → ClassId) (h0 : Nat) (h1 : Nat) (p0 : Int32) (p1 : Int32) (p2 : Int32) (w0 : Value) (f0 : Nat → Int32) (hp0 : 0 ≤ (p0).toInt ∧ (p0).toInt ≤ 0) (hp1 : 0 ≤ (p1).toInt ∧ (p1).toInt ≤ 999) (hp2 : 0 ≤ (p2).toInt ∧ (p2).toInt ≤ 9) (sz : Nat) : MV l yX6_put cX6_put 4 { frames := 0, cells := 0, slots := 0, locals := 0 } [.ref h0, .int p0, .int p1, .int p2] D cy [(h0, .inr (6, [.ref h1, w0])), (h1, .inl (cy 1, 11, .inl f0))] sz (fun u => True) (fun u => [(h0, .inr (6, [.ref h1, w0])), (h1, .inl (cy 1, 11, .inl (u.2.1 0)))]) 0 0 := by
  refine q_ent (own := RX6) (by decide) rfl (Nat.le_of_ble_eq_true rfl) (fun p e s m below meth c ls X hr hlk hnm hK h hA hl => ?_)
  obtain ⟨hx, hb, hml, hown, ht⟩ := id X
  replace hl : lv_has ls 4 [(0, .ref h0), (1, .int p0), (2, .int p1), (3, .int p2)] := hl
  refine lv_aload_n hx hb dX6_put_0 rfl (lv_at hl 0 rfl) ?_
  refine q_get X hK h 0 rfl rfl wf_6 0 (by decide) rfl wm_1_184 dX6_put_1 ?_
  refine lv_iload_n hx hb dX6_put_4 rfl (lv_at hl 1 rfl) ?_
  refine lv_iload_n hx hb dX6_put_5 rfl (lv_at hl 2 rfl) ?_
  refine lv_bipush (v := 100) hx hb dX6_put_6 (by decide) ?_
  refine lv_idiv hx hb dX6_put_8 (by decide) ?_
  obtain ⟨z_1, ez_1, hz_1⟩ := e_div (x := p1) (y := 100) rfl (show (100 : Int32).toInt = 100 by decide) (by omega) (by omega)
  refine q_c z_1 ez_1 ?_
  clear ez_1
  refine q_iast X hK h 1 rfl (i_in rfl (by omega) (by omega)) dX6_put_9 (fun H locs h_3 => ?_)
  clear h
  replace h_3 : qW D _ _ [(h0, .inr (6, [.ref h1, w0])), (h1, .inl (cy 1, 11, .inl (upd f0 (Int32.toNatClampNeg p0) z_1)))] _ _ := h_3
  obtain ⟨F_2, eF_2⟩ : ∃ z, (upd f0 (Int32.toNatClampNeg p0) z_1) = z := ⟨_, rfl⟩
  rw [eF_2] at h_3
  clear eF_2
  refine lv_aload_n hx hb dX6_put_10 rfl (lv_at hl 0 rfl) ?_
  refine q_get X hK h_3 0 rfl rfl wf_6 0 (by decide) rfl wm_1_184 dX6_put_11 ?_
  refine lv_iload_n hx hb dX6_put_14 rfl (lv_at hl 1 rfl) ?_
  refine lv_iconst (v := 1) hx hb dX6_put_15 (by decide) ?_
  refine lv_iadd hx hb dX6_put_16 ?_
  obtain ⟨z_4, ez_4, hz_4⟩ := e_add (x := p0) (y := 1) rfl (show (1 : Int32).toInt = 1 by decide) (by omega) (by omega)
  refine q_c z_4 ez_4 ?_
  clear ez_4
  refine lv_iload_n hx hb dX6_put_17 rfl (lv_at hl 2 rfl) ?_
  refine lv_bipush (v := 10) hx hb dX6_put_18 (by decide) ?_
  refine lv_idiv hx hb dX6_put_20 (by decide) ?_
  obtain ⟨z_5, ez_5, hz_5⟩ := e_div (x := p1) (y := 10) rfl (show (10 : Int32).toInt = 10 by decide) (by omega) (by omega)
  refine q_c z_5 ez_5 ?_
  clear ez_5
  refine lv_bipush (v := 10) hx hb dX6_put_21 (by decide) ?_
  refine lv_irem hx hb dX6_put_23 (by decide) ?_
  obtain ⟨z_6, ez_6, hz_6⟩ := e_rem (x := z_5) (y := 10) rfl (show (10 : Int32).toInt = 10 by decide) (by omega) (by omega)
  refine q_c z_6 ez_6 ?_
  clear ez_6
  refine q_iast X hK h_3 1 rfl (i_in rfl (by omega) (by omega)) dX6_put_24 (fun H locs h_8 => ?_)
  clear h_3
  replace h_8 : qW D _ _ [(h0, .inr (6, [.ref h1, w0])), (h1, .inl (cy 1, 11, .inl (upd F_2 (Int32.toNatClampNeg z_4) z_6)))] _ _ := h_8
  obtain ⟨F_7, eF_7⟩ : ∃ z, (upd F_2 (Int32.toNatClampNeg z_4) z_6) = z := ⟨_, rfl⟩
  rw [eF_7] at h_8
  clear eF_7
  refine lv_aload_n hx hb dX6_put_25 rfl (lv_at hl 0 rfl) ?_
  refine q_get X hK h_8 0 rfl rfl wf_6 0 (by decide) rfl wm_1_184 dX6_put_26 ?_
  refine lv_iload_n hx hb dX6_put_29 rfl (lv_at hl 1 rfl) ?_
  refine lv_iconst (v := 2) hx hb dX6_put_30 (by decide) ?_
  refine lv_iadd hx hb dX6_put_31 ?_
  obtain ⟨z_9, ez_9, hz_9⟩ := e_add (x := p0) (y := 2) rfl (show (2 : Int32).toInt = 2 by decide) (by omega) (by omega)
  refine q_c z_9 ez_9 ?_
  clear ez_9
  refine lv_iload_n hx hb dX6_put_32 rfl (lv_at hl 2 rfl) ?_
  refine lv_bipush (v := 10) hx hb dX6_put_33 (by decide) ?_
  refine lv_irem hx hb dX6_put_35 (by decide) ?_
  obtain ⟨z_10, ez_10, hz_10⟩ := e_rem (x := p1) (y := 10) rfl (show (10 : Int32).toInt = 10 by decide) (by omega) (by omega)
  refine q_c z_10 ez_10 ?_
  clear ez_10
  refine q_iast X hK h_8 1 rfl (i_in rfl (by omega) (by omega)) dX6_put_36 (fun H locs h_12 => ?_)
  clear h_8
  replace h_12 : qW D _ _ [(h0, .inr (6, [.ref h1, w0])), (h1, .inl (cy 1, 11, .inl (upd F_7 (Int32.toNatClampNeg z_9) z_10)))] _ _ := h_12
  obtain ⟨F_11, eF_11⟩ : ∃ z, (upd F_7 (Int32.toNatClampNeg z_9) z_10) = z := ⟨_, rfl⟩
  rw [eF_11] at h_12
  clear eF_11
  refine lv_aload_n hx hb dX6_put_37 rfl (lv_at hl 0 rfl) ?_
  refine q_get X hK h_12 0 rfl rfl wf_6 0 (by decide) rfl wm_1_184 dX6_put_38 ?_
  refine lv_iload_n hx hb dX6_put_41 rfl (lv_at hl 1 rfl) ?_
  refine lv_iconst (v := 3) hx hb dX6_put_42 (by decide) ?_
  refine lv_iadd hx hb dX6_put_43 ?_
  obtain ⟨z_13, ez_13, hz_13⟩ := e_add (x := p0) (y := 3) rfl (show (3 : Int32).toInt = 3 by decide) (by omega) (by omega)
  refine q_c z_13 ez_13 ?_
  clear ez_13
  refine lv_iload_n hx hb dX6_put_44 rfl (lv_at hl 3 rfl) ?_
  refine q_iast X hK h_12 1 rfl (i_in rfl (by omega) (by omega)) dX6_put_45 (fun H locs h_15 => ?_)
  clear h_12
  replace h_15 : qW D _ _ [(h0, .inr (6, [.ref h1, w0])), (h1, .inl (cy 1, 11, .inl (upd F_11 (Int32.toNatClampNeg z_13) p2)))] _ _ := h_15
  obtain ⟨F_14, eF_14⟩ : ∃ z, (upd F_11 (Int32.toNatClampNeg z_13) p2) = z := ⟨_, rfl⟩
  rw [eF_14] at h_15
  clear eF_14
  exact q_vret X hr hlk hK h_15 (fun _ => 0, fun k => List.getD [F_14] k (fun _ => 0), fun _ _ => 0) trivial [0, 1] rfl rfl dX6_put_46 (Nat.le_of_ble_eq_true rfl) (Nat.le_of_ble_eq_true rfl)
set_option maxHeartbeats 4000000 in
set_option maxRecDepth 100000 in
theorem gX6_put_10 (l : Launch) (D : va_G) (cy : Nat → ClassId) (h0 : Nat) (h1 : Nat) (p0 : Int32) (p1 : Int32) (p2 : Int32) (w0 : Value) (f0 : Nat → Int32) (hp0 : 0 ≤ (p0).toInt ∧ (p0).toInt ≤ 4) (hp1 : 0 ≤ (p1).toInt ∧ (p1).toInt ≤ 999) (hp2 : 0 ≤ (p2).toInt ∧ (p2).toInt ≤ 9) (sz : Nat) : MV l yX6_put cX6_put 4 { frames := 0, cells := 0, slots := 0, locals := 0 } [.ref h0, .int p0, .int p1, .int p2] D cy [(h0, .inr (6, [.ref h1, w0])), (h1, .inl (cy 1, 11, .inl f0))] sz (fun u => True) (fun u => [(h0, .inr (6, [.ref h1, w0])), (h1, .inl (cy 1, 11, .inl (u.2.1 0)))]) 0 0 := by
  refine q_ent (own := RX6) (by decide) rfl (Nat.le_of_ble_eq_true rfl) (fun p e s m below meth c ls X hr hlk hnm hK h hA hl => ?_)
  obtain ⟨hx, hb, hml, hown, ht⟩ := id X
  replace hl : lv_has ls 4 [(0, .ref h0), (1, .int p0), (2, .int p1), (3, .int p2)] := hl
  refine lv_aload_n hx hb dX6_put_0 rfl (lv_at hl 0 rfl) ?_
  refine q_get X hK h 0 rfl rfl wf_6 0 (by decide) rfl wm_1_184 dX6_put_1 ?_
  refine lv_iload_n hx hb dX6_put_4 rfl (lv_at hl 1 rfl) ?_
  refine lv_iload_n hx hb dX6_put_5 rfl (lv_at hl 2 rfl) ?_
  refine lv_bipush (v := 100) hx hb dX6_put_6 (by decide) ?_
  refine lv_idiv hx hb dX6_put_8 (by decide) ?_
  obtain ⟨z_1, ez_1, hz_1⟩ := e_div (x := p1) (y := 100) rfl (show (100 : Int32).toInt = 100 by decide) (by omega) (by omega)
  refine q_c z_1 ez_1 ?_
  clear ez_1
  refine q_iast X hK h 1 rfl (i_in rfl (by omega) (by omega)) dX6_put_9 (fun H locs h_3 => ?_)
  clear h
  replace h_3 : qW D _ _ [(h0, .inr (6, [.ref h1, w0])), (h1, .inl (cy 1, 11, .inl (upd f0 (Int32.toNatClampNeg p0) z_1)))] _ _ := h_3
  obtain ⟨F_2, eF_2⟩ : ∃ z, (upd f0 (Int32.toNatClampNeg p0) z_1) = z := ⟨_, rfl⟩
  rw [eF_2] at h_3
  clear eF_2
  refine lv_aload_n hx hb dX6_put_10 rfl (lv_at hl 0 rfl) ?_
  refine q_get X hK h_3 0 rfl rfl wf_6 0 (by decide) rfl wm_1_184 dX6_put_11 ?_
  refine lv_iload_n hx hb dX6_put_14 rfl (lv_at hl 1 rfl) ?_
  refine lv_iconst (v := 1) hx hb dX6_put_15 (by decide) ?_
  refine lv_iadd hx hb dX6_put_16 ?_
  obtain ⟨z_4, ez_4, hz_4⟩ := e_add (x := p0) (y := 1) rfl (show (1 : Int32).toInt = 1 by decide) (by omega) (by omega)
  refine q_c z_4 ez_4 ?_
  clear ez_4
  refine lv_iload_n hx hb dX6_put_17 rfl (lv_at hl 2 rfl) ?_
  refine lv_bipush (v := 10) hx hb dX6_put_18 (by decide) ?_
  refine lv_idiv hx hb dX6_put_20 (by decide) ?_
  obtain ⟨z_5, ez_5, hz_5⟩ := e_div (x := p1) (y := 10) rfl (show (10 : Int32).toInt = 10 by decide) (by omega) (by omega)
  refine q_c z_5 ez_5 ?_
  clear ez_5
  refine lv_bipush (v := 10) hx hb dX6_put_21 (by decide) ?_
  refine lv_irem hx hb dX6_put_23 (by decide) ?_
  obtain ⟨z_6, ez_6, hz_6⟩ := e_rem (x := z_5) (y := 10) rfl (show (10 : Int32).toInt = 10 by decide) (by omega) (by omega)
  refine q_c z_6 ez_6 ?_
  clear ez_6
  refine q_iast X hK h_3 1 rfl (i_in rfl (by omega) (by omega)) dX6_put_24 (fun H locs h_8 => ?_)
  clear h_3
  replace h_8 : qW D _ _ [(h0, .inr (6, [.ref h1, w0])), (h1, .inl (cy 1, 11, .inl (upd F_2 (Int32.toNatClampNeg z_4) z_6)))] _ _ := h_8
  obtain ⟨F_7, eF_7⟩ : ∃ z, (upd F_2 (Int32.toNatClampNeg z_4) z_6) = z := ⟨_, rfl⟩
  rw [eF_7] at h_8
  clear eF_7
  refine lv_aload_n hx hb dX6_put_25 rfl (lv_at hl 0 rfl) ?_
  refine q_get X hK h_8 0 rfl rfl wf_6 0 (by decide) rfl wm_1_184 dX6_put_26 ?_
  refine lv_iload_n hx hb dX6_put_29 rfl (lv_at hl 1 rfl) ?_
  refine lv_iconst (v := 2) hx hb dX6_put_30 (by decide) ?_
  refine lv_iadd hx hb dX6_put_31 ?_
  obtain ⟨z_9, ez_9, hz_9⟩ := e_add (x := p0) (y := 2) rfl (show (2 : Int32).toInt = 2 by decide) (by omega) (by omega)
  refine q_c z_9 ez_9 ?_
  clear ez_9
  refine lv_iload_n hx hb dX6_put_32 rfl (lv_at hl 2 rfl) ?_
  refine lv_bipush (v := 10) hx hb dX6_put_33 (by decide) ?_
  refine lv_irem hx hb dX6_put_35 (by decide) ?_
  obtain ⟨z_10, ez_10, hz_10⟩ := e_rem (x := p1) (y := 10) rfl (show (10 : Int32).toInt = 10 by decide) (by omega) (by omega)
  refine q_c z_10 ez_10 ?_
  clear ez_10
  refine q_iast X hK h_8 1 rfl (i_in rfl (by omega) (by omega)) dX6_put_36 (fun H locs h_12 => ?_)
  clear h_8
  replace h_12 : qW D _ _ [(h0, .inr (6, [.ref h1, w0])), (h1, .inl (cy 1, 11, .inl (upd F_7 (Int32.toNatClampNeg z_9) z_10)))] _ _ := h_12
  obtain ⟨F_11, eF_11⟩ : ∃ z, (upd F_7 (Int32.toNatClampNeg z_9) z_10) = z := ⟨_, rfl⟩
  rw [eF_11] at h_12
  clear eF_11
  refine lv_aload_n hx hb dX6_put_37 rfl (lv_at hl 0 rfl) ?_
  refine q_get X hK h_12 0 rfl rfl wf_6 0 (by decide) rfl wm_1_184 dX6_put_38 ?_
  refine lv_iload_n hx hb dX6_put_41 rfl (lv_at hl 1 rfl) ?_
  refine lv_iconst (v := 3) hx hb dX6_put_42 (by decide) ?_
  refine lv_iadd hx hb dX6_put_43 ?_
  obtain ⟨z_13, ez_13, hz_13⟩ := e_add (x := p0) (y := 3) rfl (show (3 : Int32).toInt = 3 by decide) (by omega) (by omega)
  refine q_c z_13 ez_13 ?_
  clear ez_13
  refine lv_iload_n hx hb dX6_put_44 rfl (lv_at hl 3 rfl) ?_
  refine q_iast X hK h_12 1 rfl (i_in rfl (by omega) (by omega)) dX6_put_45 (fun H locs h_15 => ?_)
  clear h_12
  replace h_15 : qW D _ _ [(h0, .inr (6, [.ref h1, w0])), (h1, .inl (cy 1, 11, .inl (upd F_11 (Int32.toNatClampNeg z_13) p2)))] _ _ := h_15
  obtain ⟨F_14, eF_14⟩ : ∃ z, (upd F_11 (Int32.toNatClampNeg z_13) p2) = z := ⟨_, rfl⟩
  rw [eF_14] at h_15
  clear eF_14
  exact q_vret X hr hlk hK h_15 (fun _ => 0, fun k => List.getD [F_14] k (fun _ => 0), fun _ _ => 0) trivial [0, 1] rfl rfl dX6_put_46 (Nat.le_of_ble_eq_true rfl) (Nat.le_of_ble_eq_true rfl)
set_option maxHeartbeats 4000000 in
set_option maxRecDepth 100000 in
theorem gX6_swayOf_11 (l : Launch) (D : va_G) (cy : Nat → ClassId) (h0 : Nat) (h1 : Nat) (p0 : Int32) (w0 : Value) (f0 : Nat → Int32) (hp0 : 0 ≤ (p0).toInt ∧ (p0).toInt ≤ 0) (sz : Nat) : MI l yX6_swayOf cX6_swayOf 3 .int { frames := 0, cells := 0, slots := 0, locals := 0 } [.ref h0, .null, .int p0] D cy [(h0, .inr (6, [.ref h1, w0])), (h1, .inl (cy 1, 11, .inl f0))] sz (fun r u => ((-2147483648) ≤ r.toInt ∧ r.toInt ≤ 2147483647) ∧ True) (fun u => [(h0, .inr (6, [.ref h1, w0])), (h1, .inl (cy 1, 11, .inl f0))]) 0 0 := by
  refine q_ent (own := RX6) (by decide) rfl (Nat.le_of_ble_eq_true rfl) (fun p e s m below meth c ls X hr hlk hnm hK h hA hl => ?_)
  obtain ⟨hx, hb, hml, hown, ht⟩ := id X
  replace hl : lv_has ls 3 [(0, .ref h0), (1, .null), (2, .int p0)] := hl
  refine lv_aload_nN hx hb dX6_swayOf_0 rfl (lv_at hl 1 rfl) ?_
  refine lv_ifnonnullN hx hb dX6_swayOf_1 ?_
  refine lv_aload_n hx hb dX6_swayOf_4 rfl (lv_at hl 0 rfl) ?_
  refine q_get X hK h 0 rfl rfl wf_6 0 (by decide) rfl wm_1_184 dX6_swayOf_5 ?_
  refine lv_iconst (v := 4) hx hb dX6_swayOf_8 (by decide) ?_
  refine lv_iload_n hx hb dX6_swayOf_9 rfl (lv_at hl 2 rfl) ?_
  refine lv_iadd hx hb dX6_swayOf_10 ?_
  obtain ⟨z_1, ez_1, hz_1⟩ := e_add (x := 4) (y := p0) (show (4 : Int32).toInt = 4 by decide) rfl (by omega) (by omega)
  refine q_c z_1 ez_1 ?_
  clear ez_1
  refine q_iald X hK h 1 rfl (i_in rfl (by omega) (by omega)) dX6_swayOf_11 ?_
  refine q_any (fun z_2 hz_2 => ?_)
  refine lv_aload_n hx hb dX6_swayOf_12 rfl (lv_at hl 0 rfl) ?_
  refine q_get X hK h 0 rfl rfl wf_6 0 (by decide) rfl wm_1_184 dX6_swayOf_13 ?_
  refine lv_iconst (v := 0) hx hb dX6_swayOf_16 (by decide) ?_
  refine lv_iload_n hx hb dX6_swayOf_17 rfl (lv_at hl 2 rfl) ?_
  refine lv_iadd hx hb dX6_swayOf_18 ?_
  obtain ⟨z_3, ez_3, hz_3⟩ := e_add (x := 0) (y := p0) (show (0 : Int32).toInt = 0 by decide) rfl (by omega) (by omega)
  refine q_c z_3 ez_3 ?_
  clear ez_3
  refine q_iald X hK h 1 rfl (i_in rfl (by omega) (by omega)) dX6_swayOf_19 ?_
  refine q_any (fun z_4 hz_4 => ?_)
  refine lv_isub hx hb dX6_swayOf_20 ?_
  refine q_any (fun z_5 hz_5 => ?_)
  exact q_iret X hr hlk hK h rfl (fun _ => 0, fun _ _ => 0, fun _ _ => 0) ⟨⟨by omega, by omega⟩, trivial⟩ [0, 1] rfl rfl dX6_swayOf_21 (Nat.le_of_ble_eq_true rfl) (Nat.le_of_ble_eq_true rfl)
set_option maxHeartbeats 4000000 in
set_option maxRecDepth 100000 in
theorem gJ6_compare_7cf53_12 (l : Launch) (D : va_G) (cy : Nat → ClassId) (p0 : Int32) (p1 : Int32) (hp0 : (-2147483648) ≤ (p0).toInt ∧ (p0).toInt ≤ 2147483647) (hp1 : 0 ≤ (p1).toInt ∧ (p1).toInt ≤ 0) (sz : Nat) : MI l yJ6_compare_7cf53 cJ6_compare_7cf53 2 .int { frames := 0, cells := 0, slots := 0, locals := 0 } [.int p0, .int p1] D cy [] sz (fun r u => ((-1) ≤ r.toInt ∧ r.toInt ≤ 1) ∧ True) (fun u => []) 0 0 := by
  refine q_ent (own := RJ6) (by decide) rfl (Nat.le_of_ble_eq_true rfl) (fun p e s m below meth c ls X hr hlk hnm hK h hA hl => ?_)
  obtain ⟨hx, hb, hml, hown, ht⟩ := id X
  replace hl : lv_has ls 2 [(0, .int p0), (1, .int p1)] := hl
  refine lv_iload_n hx hb dJ6_compare_7cf53_0 rfl (lv_at hl 0 rfl) ?_
  refine lv_iload_n hx hb dJ6_compare_7cf53_1 rfl (lv_at hl 1 rfl) ?_
  refine q_jn (pc2 := 19) (fun H locs ls st => ∃ v19_1_0 : Int32, ((-1) ≤ (v19_1_0).toInt ∧ (v19_1_0).toInt ≤ 1) ∧ st = [.int v19_1_0] ∧ qW D (va_A [] sz) s.heap [] H locs ∧ lv_has ls 2 [(0, .int p0), (1, .int p1)]) (fun H locs ls st hP => ?_) (fun J_19 => ?_)
  · obtain ⟨v19_1_0, hv19_1_0, rfl, h, hl⟩ := hP
    exact q_iret X hr hlk hK h rfl (fun _ => 0, fun _ _ => 0, fun _ _ => 0) ⟨⟨by omega, by omega⟩, trivial⟩ [] rfl rfl dJ6_compare_7cf53_19 (Nat.le_of_ble_eq_true rfl) (Nat.le_of_ble_eq_true rfl)
  · skip
    refine lv_icmp_ge (tgt := 9) hx hb dJ6_compare_7cf53_2 (by decide) (fun c_2 => ?_) (fun c_2 => ?_)
    · replace c_2 := i_le (x := p1) (y := p0) rfl rfl c_2
      refine lv_iload_n hx hb dJ6_compare_7cf53_9 rfl (lv_at hl 0 rfl) ?_
      refine lv_iload_n hx hb dJ6_compare_7cf53_10 rfl (lv_at hl 1 rfl) ?_
      refine lv_icmp_ne (tgt := 18) hx hb dJ6_compare_7cf53_11 (by decide) (fun c_3 => ?_) (fun c_3 => ?_)
      · replace c_3 := i_ne (x := p0) (y := p1) rfl rfl c_3
        refine lv_iconst (v := 1) hx hb dJ6_compare_7cf53_18 (by decide) ?_
        exact J_19 _ _ _ _ ⟨1, ⟨by decide +kernel, by decide +kernel⟩, rfl, h, (lv_sub hl [0, 1] rfl)⟩
      · replace c_3 := i_eq (x := p0) (y := p1) rfl rfl c_3
        refine lv_iconst (v := 0) hx hb dJ6_compare_7cf53_14 (by decide) ?_
        refine lv_goto (tgt := 19) hx hb dJ6_compare_7cf53_15 (by decide) ?_
        exact J_19 _ _ _ _ ⟨0, ⟨by decide +kernel, by decide +kernel⟩, rfl, h, (lv_sub hl [0, 1] rfl)⟩
    · replace c_2 := i_nle (x := p1) (y := p0) rfl rfl c_2
      refine lv_iconst (v := (-1)) hx hb dJ6_compare_7cf53_5 (by decide) ?_
      refine lv_goto (tgt := 19) hx hb dJ6_compare_7cf53_6 (by decide) ?_
      exact J_19 _ _ _ _ ⟨(-1), ⟨by decide +kernel, by decide +kernel⟩, rfl, h, (lv_sub hl [0, 1] rfl)⟩
set_option maxHeartbeats 4000000 in
set_option maxRecDepth 100000 in
theorem gX6_swayOf_13 (l : Launch) (D : va_G) (cy : Nat → ClassId) (h0 : Nat) (h1 : Nat) (p0 : Int32) (w0 : Value) (f0 : Nat → Int32) (hp0 : 0 ≤ (p0).toInt ∧ (p0).toInt ≤ 1) (sz : Nat) : MI l yX6_swayOf cX6_swayOf 3 .int { frames := 0, cells := 0, slots := 0, locals := 0 } [.ref h0, .null, .int p0] D cy [(h0, .inr (6, [.ref h1, w0])), (h1, .inl (cy 1, 11, .inl f0))] sz (fun r u => ((-2147483648) ≤ r.toInt ∧ r.toInt ≤ 2147483647) ∧ True) (fun u => [(h0, .inr (6, [.ref h1, w0])), (h1, .inl (cy 1, 11, .inl f0))]) 0 0 := by
  refine q_ent (own := RX6) (by decide) rfl (Nat.le_of_ble_eq_true rfl) (fun p e s m below meth c ls X hr hlk hnm hK h hA hl => ?_)
  obtain ⟨hx, hb, hml, hown, ht⟩ := id X
  replace hl : lv_has ls 3 [(0, .ref h0), (1, .null), (2, .int p0)] := hl
  refine lv_aload_nN hx hb dX6_swayOf_0 rfl (lv_at hl 1 rfl) ?_
  refine lv_ifnonnullN hx hb dX6_swayOf_1 ?_
  refine lv_aload_n hx hb dX6_swayOf_4 rfl (lv_at hl 0 rfl) ?_
  refine q_get X hK h 0 rfl rfl wf_6 0 (by decide) rfl wm_1_184 dX6_swayOf_5 ?_
  refine lv_iconst (v := 4) hx hb dX6_swayOf_8 (by decide) ?_
  refine lv_iload_n hx hb dX6_swayOf_9 rfl (lv_at hl 2 rfl) ?_
  refine lv_iadd hx hb dX6_swayOf_10 ?_
  obtain ⟨z_1, ez_1, hz_1⟩ := e_add (x := 4) (y := p0) (show (4 : Int32).toInt = 4 by decide) rfl (by omega) (by omega)
  refine q_c z_1 ez_1 ?_
  clear ez_1
  refine q_iald X hK h 1 rfl (i_in rfl (by omega) (by omega)) dX6_swayOf_11 ?_
  refine q_any (fun z_2 hz_2 => ?_)
  refine lv_aload_n hx hb dX6_swayOf_12 rfl (lv_at hl 0 rfl) ?_
  refine q_get X hK h 0 rfl rfl wf_6 0 (by decide) rfl wm_1_184 dX6_swayOf_13 ?_
  refine lv_iconst (v := 0) hx hb dX6_swayOf_16 (by decide) ?_
  refine lv_iload_n hx hb dX6_swayOf_17 rfl (lv_at hl 2 rfl) ?_
  refine lv_iadd hx hb dX6_swayOf_18 ?_
  obtain ⟨z_3, ez_3, hz_3⟩ := e_add (x := 0) (y := p0) (show (0 : Int32).toInt = 0 by decide) rfl (by omega) (by omega)
  refine q_c z_3 ez_3 ?_
  clear ez_3
  refine q_iald X hK h 1 rfl (i_in rfl (by omega) (by omega)) dX6_swayOf_19 ?_
  refine q_any (fun z_4 hz_4 => ?_)
  refine lv_isub hx hb dX6_swayOf_20 ?_
  refine q_any (fun z_5 hz_5 => ?_)
  exact q_iret X hr hlk hK h rfl (fun _ => 0, fun _ _ => 0, fun _ _ => 0) ⟨⟨by omega, by omega⟩, trivial⟩ [0, 1] rfl rfl dX6_swayOf_21 (Nat.le_of_ble_eq_true rfl) (Nat.le_of_ble_eq_true rfl)
set_option maxHeartbeats 4000000 in
set_option maxRecDepth 100000 in
theorem gX6_swayOf_14 (l : Launch) (D : va_G) (cy : Nat → ClassId) (h0 : Nat) (h1 : Nat) (p0 : Int32) (w0 : Value) (f0 : Nat → Int32) (hp0 : 0 ≤ (p0).toInt ∧ (p0).toInt ≤ 2) (sz : Nat) : MI l yX6_swayOf cX6_swayOf 3 .int { frames := 0, cells := 0, slots := 0, locals := 0 } [.ref h0, .null, .int p0] D cy [(h0, .inr (6, [.ref h1, w0])), (h1, .inl (cy 1, 11, .inl f0))] sz (fun r u => ((-2147483648) ≤ r.toInt ∧ r.toInt ≤ 2147483647) ∧ True) (fun u => [(h0, .inr (6, [.ref h1, w0])), (h1, .inl (cy 1, 11, .inl f0))]) 0 0 := by
  refine q_ent (own := RX6) (by decide) rfl (Nat.le_of_ble_eq_true rfl) (fun p e s m below meth c ls X hr hlk hnm hK h hA hl => ?_)
  obtain ⟨hx, hb, hml, hown, ht⟩ := id X
  replace hl : lv_has ls 3 [(0, .ref h0), (1, .null), (2, .int p0)] := hl
  refine lv_aload_nN hx hb dX6_swayOf_0 rfl (lv_at hl 1 rfl) ?_
  refine lv_ifnonnullN hx hb dX6_swayOf_1 ?_
  refine lv_aload_n hx hb dX6_swayOf_4 rfl (lv_at hl 0 rfl) ?_
  refine q_get X hK h 0 rfl rfl wf_6 0 (by decide) rfl wm_1_184 dX6_swayOf_5 ?_
  refine lv_iconst (v := 4) hx hb dX6_swayOf_8 (by decide) ?_
  refine lv_iload_n hx hb dX6_swayOf_9 rfl (lv_at hl 2 rfl) ?_
  refine lv_iadd hx hb dX6_swayOf_10 ?_
  obtain ⟨z_1, ez_1, hz_1⟩ := e_add (x := 4) (y := p0) (show (4 : Int32).toInt = 4 by decide) rfl (by omega) (by omega)
  refine q_c z_1 ez_1 ?_
  clear ez_1
  refine q_iald X hK h 1 rfl (i_in rfl (by omega) (by omega)) dX6_swayOf_11 ?_
  refine q_any (fun z_2 hz_2 => ?_)
  refine lv_aload_n hx hb dX6_swayOf_12 rfl (lv_at hl 0 rfl) ?_
  refine q_get X hK h 0 rfl rfl wf_6 0 (by decide) rfl wm_1_184 dX6_swayOf_13 ?_
  refine lv_iconst (v := 0) hx hb dX6_swayOf_16 (by decide) ?_
  refine lv_iload_n hx hb dX6_swayOf_17 rfl (lv_at hl 2 rfl) ?_
  refine lv_iadd hx hb dX6_swayOf_18 ?_
  obtain ⟨z_3, ez_3, hz_3⟩ := e_add (x := 0) (y := p0) (show (0 : Int32).toInt = 0 by decide) rfl (by omega) (by omega)
  refine q_c z_3 ez_3 ?_
  clear ez_3
  refine q_iald X hK h 1 rfl (i_in rfl (by omega) (by omega)) dX6_swayOf_19 ?_
  refine q_any (fun z_4 hz_4 => ?_)
  refine lv_isub hx hb dX6_swayOf_20 ?_
  refine q_any (fun z_5 hz_5 => ?_)
  exact q_iret X hr hlk hK h rfl (fun _ => 0, fun _ _ => 0, fun _ _ => 0) ⟨⟨by omega, by omega⟩, trivial⟩ [0, 1] rfl rfl dX6_swayOf_21 (Nat.le_of_ble_eq_true rfl) (Nat.le_of_ble_eq_true rfl)
set_option maxHeartbeats 4000000 in
set_option maxRecDepth 100000 in
theorem gX6_swayed_15 (l : Launch) (D : va_G) (cy : Nat → ClassId) (h0 : Nat) (h1 : Nat) (h2 : Nat) (h3 : Nat) (h4 : Nat) (p0 : Int32) (p1 : Int32) (p2 : Int32) (p3 : Int32) (p4 : Int32) (p5 : Int32) (p6 : Int32) (w0 : Value) (w1 : Value) (w2 : Value) (w3 : Value) (w4 : Value) (w5 : Value) (p7 : Int32) (p8 : Int32) (f0 : Nat → Int32) (w6 : Value) (f1 : Nat → Int32) (hp0 : 0 ≤ (p0).toInt ∧ (p0).toInt ≤ 9) (hp1 : 0 ≤ (p1).toInt ∧ (p1).toInt ≤ 999) (hp2 : 0 ≤ (p2).toInt ∧ (p2).toInt ≤ 9) (hp3 : 1 ≤ (p3).toInt ∧ (p3).toInt ≤ 3) (hp4 : 0 ≤ (p4).toInt ∧ (p4).toInt ≤ 10) (hp5 : 0 ≤ (p5).toInt ∧ (p5).toInt ≤ 920) (hp6 : 0 ≤ (p6).toInt ∧ (p6).toInt ≤ 999) (hp7 : 0 ≤ (p7).toInt ∧ (p7).toInt ≤ 60000) (hp8 : 0 ≤ (p8).toInt ∧ (p8).toInt ≤ 1023) (rf0 : RG f0 10 0 999) (sz : Nat) : MI l yX6_swayed cX6_swayed 9 .int { frames := 1, cells := 0, slots := 0, locals := 23 } [.ref h3, .ref h1, .int p0, .int p1, .int p2] D cy [(h0, .inr (3, [.int p3, .int p4, .int p5, .int p6, w0, w0, .null, w1, w2, w3, w4, w5])), (h1, .inr (7, [.ref h0, .int p7, .int p8, .ref h2])), (h2, .inl (cy 1, 10, .inl f0)), (h3, .inr (6, [.ref h4, w6])), (h4, .inl (cy 1, 11, .inl f1))] sz (fun r u => (0 ≤ r.toInt ∧ r.toInt ≤ 999) ∧ True) (fun u => [(h0, .inr (3, [.int p3, .int p4, .int p5, .int p6, w0, w0, .null, w1, w2, w3, w4, w5])), (h1, .inr (7, [.ref h0, .int p7, .int p8, .ref h2])), (h2, .inl (cy 1, 10, .inl f0)), (h3, .inr (6, [.ref h4, w6])), (h4, .inl (cy 1, 11, .inl (u.2.1 0)))]) 0 0 := by
  refine q_ent (own := RX6) (by decide) rfl (Nat.le_of_ble_eq_true rfl) (fun p e s m below meth c ls X hr hlk hnm hK h hA hl => ?_)
  obtain ⟨hx, hb, hml, hown, ht⟩ := id X
  replace hl : lv_has ls 9 [(0, .ref h3), (1, .ref h1), (2, .int p0), (3, .int p1), (4, .int p2)] := hl
  refine lv_aload_n hx hb dX6_swayed_0 rfl (lv_at hl 0 rfl) ?_
  refine lv_iconst (v := 0) hx hb dX6_swayed_1 (by decide) ?_
  refine lv_iload_n hx hb dX6_swayed_2 rfl (lv_at hl 3 rfl) ?_
  refine lv_iload_n hx hb dX6_swayed_3 rfl (lv_at hl 2 rfl) ?_
  refine q_callVv (rest := []) (wr := [(h0, .inr (3, [.int p3, .int p4, .int p5, .int p6, w0, w0, .null, w1, w2, w3, w4, w5])), (h1, .inr (7, [.ref h0, .int p7, .int p8, .ref h2])), (h2, .inl (cy 1, 10, .inl f0))]) X hK hA h (fun sz => gX6_put_9 l D cy h3 h4 (0 : Int32) p1 p0 w6 f1 ⟨by decide +kernel, by decide +kernel⟩ ⟨by omega, by omega⟩ ⟨by omega, by omega⟩ sz) wm_3_204 wm_3_207 wm_1_5 hd_X6_put wm_3_206 wp_2_10 (ci := 6) (q0 := 0) rfl rfl ⟨Nat.le_of_ble_eq_true rfl, Nat.le_of_ble_eq_true rfl⟩ hl.1 rfl (Nat.le_of_ble_eq_true rfl) dX6_swayed_4 ⟨Nat.le_of_ble_eq_true rfl, Nat.le_of_ble_eq_true rfl⟩ [3, 4] [0, 1, 2] rfl rfl (by decide) rfl rfl (fun u_1 H locs w_1 h_1 => ?_)
  clear h
  clear w_1
  replace h_1 : qW D _ _ [(h0, .inr (3, [.int p3, .int p4, .int p5, .int p6, w0, w0, .null, w1, w2, w3, w4, w5])), (h1, .inr (7, [.ref h0, .int p7, .int p8, .ref h2])), (h2, .inl (cy 1, 10, .inl f0)), (h3, .inr (6, [.ref h4, w6])), (h4, .inl (cy 1, 11, .inl (u_1.2.1 0)))] _ _ := h_1
  refine lv_aload_n hx hb dX6_swayed_7 rfl (lv_at hl 0 rfl) ?_
  refine lv_iconst (v := 4) hx hb dX6_swayed_8 (by decide) ?_
  refine lv_aload_n hx hb dX6_swayed_9 rfl (lv_at hl 1 rfl) ?_
  refine q_get X hK h_1 1 rfl rfl wf_7 3 (by decide) rfl wm_2_53 dX6_swayed_10 ?_
  refine lv_iload hx hb dX6_swayed_13 (lv_at hl 4 rfl) ?_
  refine q_iald X hK h_1 2 rfl (i_in rfl (by omega) (by omega)) dX6_swayed_15 ?_
  obtain ⟨z_2, ez_2, hz_2⟩ := rg_get rf0 (x := p2) rfl (by omega) (by omega)
  refine q_c z_2 ez_2 ?_
  clear ez_2
  refine lv_iload hx hb dX6_swayed_16 (lv_at hl 4 rfl) ?_
  refine q_callVv (rest := []) (wr := [(h0, .inr (3, [.int p3, .int p4, .int p5, .int p6, w0, w0, .null, w1, w2, w3, w4, w5])), (h1, .inr (7, [.ref h0, .int p7, .int p8, .ref h2])), (h2, .inl (cy 1, 10, .inl f0))]) X hK hA h_1 (fun sz => gX6_put_10 l D cy h3 h4 (4 : Int32) z_2 p2 w6 (u_1.2.1 0) ⟨by decide +kernel, by decide +kernel⟩ ⟨by omega, by omega⟩ ⟨by omega, by omega⟩ sz) wm_3_204 wm_3_207 wm_1_5 hd_X6_put wm_3_206 wp_2_10 (ci := 6) (q0 := 0) rfl rfl ⟨Nat.le_of_ble_eq_true rfl, Nat.le_of_ble_eq_true rfl⟩ hl.1 rfl (Nat.le_of_ble_eq_true rfl) dX6_swayed_18 ⟨Nat.le_of_ble_eq_true rfl, Nat.le_of_ble_eq_true rfl⟩ [3, 4] [0, 1, 2] rfl rfl (by decide) rfl rfl (fun u_3 H locs w_3 h_3 => ?_)
  clear h_1
  clear w_3
  replace h_3 : qW D _ _ [(h0, .inr (3, [.int p3, .int p4, .int p5, .int p6, w0, w0, .null, w1, w2, w3, w4, w5])), (h1, .inr (7, [.ref h0, .int p7, .int p8, .ref h2])), (h2, .inl (cy 1, 10, .inl f0)), (h3, .inr (6, [.ref h4, w6])), (h4, .inl (cy 1, 11, .inl (u_3.2.1 0)))] _ _ := h_3
  refine lv_aload_n hx hb dX6_swayed_21 rfl (lv_at hl 0 rfl) ?_
  refine q_get X hK h_3 3 rfl rfl wf_6 0 (by decide) rfl wm_1_184 dX6_swayed_22 ?_
  refine lv_bipush (v := 8) hx hb dX6_swayed_25 (by decide) ?_
  refine lv_aload_n hx hb dX6_swayed_27 rfl (lv_at hl 1 rfl) ?_
  refine q_get X hK h_3 1 rfl rfl wf_7 1 (by decide) rfl wm_2_46 dX6_swayed_28 ?_
  refine lv_bipush (v := 7) hx hb dX6_swayed_31 (by decide) ?_
  refine lv_irem hx hb dX6_swayed_33 (by decide) ?_
  obtain ⟨z_4, ez_4, hz_4⟩ := e_rem (x := p7) (y := 7) rfl (show (7 : Int32).toInt = 7 by decide) (by omega) (by omega)
  refine q_c z_4 ez_4 ?_
  clear ez_4
  refine q_iast X hK h_3 4 rfl (q_in (by decide +kernel)) dX6_swayed_34 (fun H locs h_6 => ?_)
  clear h_3
  replace h_6 : qW D _ _ [(h0, .inr (3, [.int p3, .int p4, .int p5, .int p6, w0, w0, .null, w1, w2, w3, w4, w5])), (h1, .inr (7, [.ref h0, .int p7, .int p8, .ref h2])), (h2, .inl (cy 1, 10, .inl f0)), (h3, .inr (6, [.ref h4, w6])), (h4, .inl (cy 1, 11, .inl (upd (u_3.2.1 0) (Int32.toNatClampNeg 8) z_4)))] _ _ := h_6
  obtain ⟨F_5, eF_5⟩ : ∃ z, (upd (u_3.2.1 0) (Int32.toNatClampNeg 8) z_4) = z := ⟨_, rfl⟩
  rw [eF_5] at h_6
  clear eF_5
  refine lv_iconst (v := 0) hx hb dX6_swayed_35 (by decide) ?_
  refine lv_istore (lv' := [(5, .int 0), (0, .ref h3), (1, .ref h1), (2, .int p0), (3, .int p1), (4, .int p2)]) hx hb dX6_swayed_36 hl (by decide) rfl (fun ls_7 hl_7 => ?_)
  clear hl
  refine lv_iconst (v := 0) hx hb dX6_swayed_38 (by decide) ?_
  refine lv_istore (lv' := [(6, .int 0), (5, .int 0), (0, .ref h3), (1, .ref h1), (2, .int p0), (3, .int p1), (4, .int p2)]) hx hb dX6_swayed_39 hl_7 (by decide) rfl (fun ls_8 hl_8 => ?_)
  clear hl_7
  refine lv_iload hx hb dX6_swayed_41 (lv_at hl_8 0 rfl) ?_
  refine lv_iconst (v := 3) hx hb dX6_swayed_43 (by decide) ?_
  refine lv_icmp_ge (tgt := 121) hx hb dX6_swayed_44 (by decide) (fun c => absurd c (by decide +kernel)) (fun _ => ?_)
  refine lv_iload hx hb dX6_swayed_47 (lv_at hl_8 0 rfl) ?_
  refine lv_aload_n hx hb dX6_swayed_49 rfl (lv_at hl_8 3 rfl) ?_
  refine q_get X hK h_6 1 rfl rfl wf_7 0 (by decide) rfl wm_2_41 dX6_swayed_50 ?_
  refine q_get X hK h_6 0 rfl rfl wf_3 0 (by decide) rfl wm_1_77 dX6_swayed_53 ?_
  refine q_jn (pc2 := 76) (fun H locs ls st => ∃ v76_9_0 : Int32, ((-2147483648) ≤ (v76_9_0).toInt ∧ (v76_9_0).toInt ≤ 2147483647) ∧ st = [.int v76_9_0] ∧ qW D (va_A [(h0, .inr (3, [.int p3, .int p4, .int p5, .int p6, w0, w0, .null, w1, w2, w3, w4, w5])), (h1, .inr (7, [.ref h0, .int p7, .int p8, .ref h2])), (h2, .inl (cy 1, 10, .inl f0)), (h3, .inr (6, [.ref h4, w6])), (h4, .inl (cy 1, 11, .inl f1))] sz) s.heap [(h0, .inr (3, [.int p3, .int p4, .int p5, .int p6, w0, w0, .null, w1, w2, w3, w4, w5])), (h1, .inr (7, [.ref h0, .int p7, .int p8, .ref h2])), (h2, .inl (cy 1, 10, .inl f0)), (h3, .inr (6, [.ref h4, w6])), (h4, .inl (cy 1, 11, .inl F_5))] H locs ∧ lv_has ls 9 [(0, .ref h3), (1, .ref h1), (2, .int p0), (3, .int p1), (4, .int p2), (5, .int 0), (6, .int 0)]) (fun H locs ls st hP => ?_) (fun J_76 => ?_)
  · obtain ⟨v76_9_0, hv76_9_0, rfl, h, hl⟩ := hP
    refine lv_istore (lv' := [(7, .int v76_9_0), (0, .ref h3), (1, .ref h1), (2, .int p0), (3, .int p1), (4, .int p2), (5, .int 0), (6, .int 0)]) hx hb dX6_swayed_76 hl (by decide) rfl (fun ls_10 hl_10 => ?_)
    clear hl
    refine lv_aload_n hx hb dX6_swayed_78 rfl (lv_at hl_10 1 rfl) ?_
    refine q_get X hK h 3 rfl rfl wf_6 0 (by decide) rfl wm_1_184 dX6_swayed_79 ?_
    refine lv_iconst (v := 0) hx hb dX6_swayed_82 (by decide) ?_
    refine lv_iload hx hb dX6_swayed_83 (lv_at hl_10 7 rfl) ?_
    refine lv_iadd hx hb dX6_swayed_85 ?_
    refine q_c 0 (by decide +kernel) ?_
    refine q_iald X hK h 4 rfl (q_in (by decide +kernel)) dX6_swayed_86 ?_
    refine q_any (fun z_11 hz_11 => ?_)
    refine lv_iload hx hb dX6_swayed_87 (lv_at hl_10 0 rfl) ?_
    refine lv_iconst (v := 0) hx hb dX6_swayed_89 (by decide) ?_
    refine q_callSi (rest := [.int z_11]) (wr := [(h0, .inr (3, [.int p3, .int p4, .int p5, .int p6, w0, w0, .null, w1, w2, w3, w4, w5])), (h1, .inr (7, [.ref h0, .int p7, .int p8, .ref h2])), (h2, .inl (cy 1, 10, .inl f0)), (h3, .inr (6, [.ref h4, w6])), (h4, .inl (cy 1, 11, .inl F_5))]) X hK hA h (fun sz => gJ6_compare_7cf53_12 l D cy v76_9_0 (0 : Int32) (i_rng _) ⟨by decide +kernel, by decide +kernel⟩ sz) wm_4_34 wm_4_36 wm_1_22 hd_J6_compare_7cf53 wm_4_35 ⟨Nat.le_of_ble_eq_true rfl, Nat.le_of_ble_eq_true rfl⟩ hl_10.1 rfl (Nat.le_of_ble_eq_true rfl) dX6_swayed_90 ⟨Nat.le_of_ble_eq_true rfl, Nat.le_of_ble_eq_true rfl⟩ [] [0, 1, 2, 3, 4] rfl rfl (by decide) rfl rfl (fun r_12 u_12 H locs w_12 h_12 => ?_)
    clear h
    obtain ⟨wr_12, _⟩ := w_12
    replace h_12 : qW D _ _ [(h0, .inr (3, [.int p3, .int p4, .int p5, .int p6, w0, w0, .null, w1, w2, w3, w4, w5])), (h1, .inr (7, [.ref h0, .int p7, .int p8, .ref h2])), (h2, .inl (cy 1, 10, .inl f0)), (h3, .inr (6, [.ref h4, w6])), (h4, .inl (cy 1, 11, .inl F_5))] _ _ := h_12
    refine lv_iadd hx hb dX6_swayed_93 ?_
    refine q_any (fun z_13 hz_13 => ?_)
    refine lv_istore (lv' := [(8, .int z_13), (7, .int v76_9_0), (0, .ref h3), (1, .ref h1), (2, .int p0), (3, .int p1), (4, .int p2), (5, .int 0), (6, .int 0)]) hx hb dX6_swayed_94 hl_10 (by decide) rfl (fun ls_14 hl_14 => ?_)
    clear hl_10
    refine lv_bipush (v := 10) hx hb dX6_swayed_96 (by decide) ?_
    refine lv_iload hx hb dX6_swayed_98 (lv_at hl_14 7 rfl) ?_
    refine lv_imul hx hb dX6_swayed_100 ?_
    refine q_c 0 (by decide +kernel) ?_
    refine lv_iconst (v := 0) hx hb dX6_swayed_101 (by decide) ?_
    refine lv_bipush (v := 9) hx hb dX6_swayed_102 (by decide) ?_
    refine lv_iload hx hb dX6_swayed_104 (lv_at hl_14 0 rfl) ?_
    refine va_mmin hx hb (hml.trans hl_14.1.symm) hown (ht _ wm_4_37) (ht _ wm_2_171) (ht _ wm_1_13) (ht _ wm_2_172) (Nat.le_of_ble_eq_true rfl) (Nat.le_of_ble_eq_true rfl) (Nat.le_of_ble_eq_true rfl) (Nat.le_of_ble_eq_true rfl) dX6_swayed_106 ?_
    obtain ⟨z_15, ez_15, hz_15⟩ := e_min (x := 9) (y := z_13) (show (9 : Int32).toInt = 9 by decide) rfl
    refine q_c z_15 ez_15 ?_
    clear ez_15
    refine va_mmax hx hb (hml.trans hl_14.1.symm) hown (ht _ wm_4_38) (ht _ wm_3_23) (ht _ wm_1_13) (ht _ wm_3_24) (Nat.le_of_ble_eq_true rfl) (Nat.le_of_ble_eq_true rfl) (Nat.le_of_ble_eq_true rfl) (Nat.le_of_ble_eq_true rfl) dX6_swayed_109 ?_
    obtain ⟨z_16, ez_16, hz_16⟩ := e_max (x := 0) (y := z_15) (show (0 : Int32).toInt = 0 by decide) rfl
    refine q_c z_16 ez_16 ?_
    clear ez_16
    refine lv_iadd hx hb dX6_swayed_112 ?_
    obtain ⟨z_17, ez_17, hz_17⟩ := e_add (x := 0) (y := z_16) (show (0 : Int32).toInt = 0 by decide) rfl (by omega) (by omega)
    refine q_c z_17 ez_17 ?_
    clear ez_17
    refine lv_istore (lv' := [(5, .int z_17), (8, .int z_13), (7, .int v76_9_0), (0, .ref h3), (1, .ref h1), (2, .int p0), (3, .int p1), (4, .int p2), (6, .int 0)]) hx hb dX6_swayed_113 hl_14 (by decide) rfl (fun ls_18 hl_18 => ?_)
    clear hl_14
    refine lv_iinc (v := 1) (lv' := [(6, .int 1), (5, .int z_17), (8, .int z_13), (7, .int v76_9_0), (0, .ref h3), (1, .ref h1), (2, .int p0), (3, .int p1), (4, .int p2)]) hx hb dX6_swayed_115 hl_18 (k := 8) rfl (by decide +kernel) (by decide) rfl (fun ls_19 hl_19 => ?_)
    clear hl_18
    refine lv_goto (tgt := 41) hx hb dX6_swayed_118 (by decide) ?_
    refine lv_iload hx hb dX6_swayed_41 (lv_at hl_19 0 rfl) ?_
    refine lv_iconst (v := 3) hx hb dX6_swayed_43 (by decide) ?_
    refine lv_icmp_ge (tgt := 121) hx hb dX6_swayed_44 (by decide) (fun c => absurd c (by decide +kernel)) (fun _ => ?_)
    refine lv_iload hx hb dX6_swayed_47 (lv_at hl_19 0 rfl) ?_
    refine lv_aload_n hx hb dX6_swayed_49 rfl (lv_at hl_19 5 rfl) ?_
    refine q_get X hK h_12 1 rfl rfl wf_7 0 (by decide) rfl wm_2_41 dX6_swayed_50 ?_
    refine q_get X hK h_12 0 rfl rfl wf_3 0 (by decide) rfl wm_1_77 dX6_swayed_53 ?_
    refine q_jn (pc2 := 76) (fun H locs ls st => ∃ v76_20_0 : Int32, ((-2147483648) ≤ (v76_20_0).toInt ∧ (v76_20_0).toInt ≤ 2147483647) ∧ st = [.int v76_20_0] ∧ qW D (va_A [(h0, .inr (3, [.int p3, .int p4, .int p5, .int p6, w0, w0, .null, w1, w2, w3, w4, w5])), (h1, .inr (7, [.ref h0, .int p7, .int p8, .ref h2])), (h2, .inl (cy 1, 10, .inl f0)), (h3, .inr (6, [.ref h4, w6])), (h4, .inl (cy 1, 11, .inl f1))] sz) s.heap [(h0, .inr (3, [.int p3, .int p4, .int p5, .int p6, w0, w0, .null, w1, w2, w3, w4, w5])), (h1, .inr (7, [.ref h0, .int p7, .int p8, .ref h2])), (h2, .inl (cy 1, 10, .inl f0)), (h3, .inr (6, [.ref h4, w6])), (h4, .inl (cy 1, 11, .inl F_5))] H locs ∧ lv_has ls 9 [(0, .ref h3), (1, .ref h1), (2, .int p0), (3, .int p1), (4, .int p2), (5, .int z_17), (6, .int 1), (7, .int v76_9_0), (8, .int z_13)]) (fun H locs ls st hP => ?_) (fun J_76 => ?_)
    · obtain ⟨v76_20_0, hv76_20_0, rfl, h, hl⟩ := hP
      refine lv_istore (lv' := [(7, .int v76_20_0), (0, .ref h3), (1, .ref h1), (2, .int p0), (3, .int p1), (4, .int p2), (5, .int z_17), (6, .int 1), (8, .int z_13)]) hx hb dX6_swayed_76 hl (by decide) rfl (fun ls_21 hl_21 => ?_)
      clear hl
      refine lv_aload_n hx hb dX6_swayed_78 rfl (lv_at hl_21 1 rfl) ?_
      refine q_get X hK h 3 rfl rfl wf_6 0 (by decide) rfl wm_1_184 dX6_swayed_79 ?_
      refine lv_iconst (v := 0) hx hb dX6_swayed_82 (by decide) ?_
      refine lv_iload hx hb dX6_swayed_83 (lv_at hl_21 7 rfl) ?_
      refine lv_iadd hx hb dX6_swayed_85 ?_
      refine q_c 1 (by decide +kernel) ?_
      refine q_iald X hK h 4 rfl (q_in (by decide +kernel)) dX6_swayed_86 ?_
      refine q_any (fun z_22 hz_22 => ?_)
      refine lv_iload hx hb dX6_swayed_87 (lv_at hl_21 0 rfl) ?_
      refine lv_iconst (v := 0) hx hb dX6_swayed_89 (by decide) ?_
      refine q_callSi (rest := [.int z_22]) (wr := [(h0, .inr (3, [.int p3, .int p4, .int p5, .int p6, w0, w0, .null, w1, w2, w3, w4, w5])), (h1, .inr (7, [.ref h0, .int p7, .int p8, .ref h2])), (h2, .inl (cy 1, 10, .inl f0)), (h3, .inr (6, [.ref h4, w6])), (h4, .inl (cy 1, 11, .inl F_5))]) X hK hA h (fun sz => gJ6_compare_7cf53_12 l D cy v76_20_0 (0 : Int32) (i_rng _) ⟨by decide +kernel, by decide +kernel⟩ sz) wm_4_34 wm_4_36 wm_1_22 hd_J6_compare_7cf53 wm_4_35 ⟨Nat.le_of_ble_eq_true rfl, Nat.le_of_ble_eq_true rfl⟩ hl_21.1 rfl (Nat.le_of_ble_eq_true rfl) dX6_swayed_90 ⟨Nat.le_of_ble_eq_true rfl, Nat.le_of_ble_eq_true rfl⟩ [] [0, 1, 2, 3, 4] rfl rfl (by decide) rfl rfl (fun r_23 u_23 H locs w_23 h_23 => ?_)
      clear h
      obtain ⟨wr_23, _⟩ := w_23
      replace h_23 : qW D _ _ [(h0, .inr (3, [.int p3, .int p4, .int p5, .int p6, w0, w0, .null, w1, w2, w3, w4, w5])), (h1, .inr (7, [.ref h0, .int p7, .int p8, .ref h2])), (h2, .inl (cy 1, 10, .inl f0)), (h3, .inr (6, [.ref h4, w6])), (h4, .inl (cy 1, 11, .inl F_5))] _ _ := h_23
      refine lv_iadd hx hb dX6_swayed_93 ?_
      refine q_any (fun z_24 hz_24 => ?_)
      refine lv_istore (lv' := [(8, .int z_24), (7, .int v76_20_0), (0, .ref h3), (1, .ref h1), (2, .int p0), (3, .int p1), (4, .int p2), (5, .int z_17), (6, .int 1)]) hx hb dX6_swayed_94 hl_21 (by decide) rfl (fun ls_25 hl_25 => ?_)
      clear hl_21
      refine lv_bipush (v := 10) hx hb dX6_swayed_96 (by decide) ?_
      refine lv_iload hx hb dX6_swayed_98 (lv_at hl_25 7 rfl) ?_
      refine lv_imul hx hb dX6_swayed_100 ?_
      obtain ⟨z_26, ez_26, hz_26⟩ := e_mul (x := 10) (y := z_17) (show (10 : Int32).toInt = 10 by decide) rfl (by omega) (by omega)
      refine q_c z_26 ez_26 ?_
      clear ez_26
      refine lv_iconst (v := 0) hx hb dX6_swayed_101 (by decide) ?_
      refine lv_bipush (v := 9) hx hb dX6_swayed_102 (by decide) ?_
      refine lv_iload hx hb dX6_swayed_104 (lv_at hl_25 0 rfl) ?_
      refine va_mmin hx hb (hml.trans hl_25.1.symm) hown (ht _ wm_4_37) (ht _ wm_2_171) (ht _ wm_1_13) (ht _ wm_2_172) (Nat.le_of_ble_eq_true rfl) (Nat.le_of_ble_eq_true rfl) (Nat.le_of_ble_eq_true rfl) (Nat.le_of_ble_eq_true rfl) dX6_swayed_106 ?_
      obtain ⟨z_27, ez_27, hz_27⟩ := e_min (x := 9) (y := z_24) (show (9 : Int32).toInt = 9 by decide) rfl
      refine q_c z_27 ez_27 ?_
      clear ez_27
      refine va_mmax hx hb (hml.trans hl_25.1.symm) hown (ht _ wm_4_38) (ht _ wm_3_23) (ht _ wm_1_13) (ht _ wm_3_24) (Nat.le_of_ble_eq_true rfl) (Nat.le_of_ble_eq_true rfl) (Nat.le_of_ble_eq_true rfl) (Nat.le_of_ble_eq_true rfl) dX6_swayed_109 ?_
      obtain ⟨z_28, ez_28, hz_28⟩ := e_max (x := 0) (y := z_27) (show (0 : Int32).toInt = 0 by decide) rfl
      refine q_c z_28 ez_28 ?_
      clear ez_28
      refine lv_iadd hx hb dX6_swayed_112 ?_
      obtain ⟨z_29, ez_29, hz_29⟩ := e_add (x := z_26) (y := z_28) rfl rfl (by omega) (by omega)
      refine q_c z_29 ez_29 ?_
      clear ez_29
      refine lv_istore (lv' := [(5, .int z_29), (8, .int z_24), (7, .int v76_20_0), (0, .ref h3), (1, .ref h1), (2, .int p0), (3, .int p1), (4, .int p2), (6, .int 1)]) hx hb dX6_swayed_113 hl_25 (by decide) rfl (fun ls_30 hl_30 => ?_)
      clear hl_25
      refine lv_iinc (v := 2) (lv' := [(6, .int 2), (5, .int z_29), (8, .int z_24), (7, .int v76_20_0), (0, .ref h3), (1, .ref h1), (2, .int p0), (3, .int p1), (4, .int p2)]) hx hb dX6_swayed_115 hl_30 (k := 8) rfl (by decide +kernel) (by decide) rfl (fun ls_31 hl_31 => ?_)
      clear hl_30
      refine lv_goto (tgt := 41) hx hb dX6_swayed_118 (by decide) ?_
      refine lv_iload hx hb dX6_swayed_41 (lv_at hl_31 0 rfl) ?_
      refine lv_iconst (v := 3) hx hb dX6_swayed_43 (by decide) ?_
      refine lv_icmp_ge (tgt := 121) hx hb dX6_swayed_44 (by decide) (fun c => absurd c (by decide +kernel)) (fun _ => ?_)
      refine lv_iload hx hb dX6_swayed_47 (lv_at hl_31 0 rfl) ?_
      refine lv_aload_n hx hb dX6_swayed_49 rfl (lv_at hl_31 5 rfl) ?_
      refine q_get X hK h_23 1 rfl rfl wf_7 0 (by decide) rfl wm_2_41 dX6_swayed_50 ?_
      refine q_get X hK h_23 0 rfl rfl wf_3 0 (by decide) rfl wm_1_77 dX6_swayed_53 ?_
      refine q_jn (pc2 := 76) (fun H locs ls st => ∃ v76_32_0 : Int32, ((-2147483648) ≤ (v76_32_0).toInt ∧ (v76_32_0).toInt ≤ 2147483647) ∧ st = [.int v76_32_0] ∧ qW D (va_A [(h0, .inr (3, [.int p3, .int p4, .int p5, .int p6, w0, w0, .null, w1, w2, w3, w4, w5])), (h1, .inr (7, [.ref h0, .int p7, .int p8, .ref h2])), (h2, .inl (cy 1, 10, .inl f0)), (h3, .inr (6, [.ref h4, w6])), (h4, .inl (cy 1, 11, .inl f1))] sz) s.heap [(h0, .inr (3, [.int p3, .int p4, .int p5, .int p6, w0, w0, .null, w1, w2, w3, w4, w5])), (h1, .inr (7, [.ref h0, .int p7, .int p8, .ref h2])), (h2, .inl (cy 1, 10, .inl f0)), (h3, .inr (6, [.ref h4, w6])), (h4, .inl (cy 1, 11, .inl F_5))] H locs ∧ lv_has ls 9 [(0, .ref h3), (1, .ref h1), (2, .int p0), (3, .int p1), (4, .int p2), (5, .int z_29), (6, .int 2), (7, .int v76_20_0), (8, .int z_24)]) (fun H locs ls st hP => ?_) (fun J_76 => ?_)
      · obtain ⟨v76_32_0, hv76_32_0, rfl, h, hl⟩ := hP
        refine lv_istore (lv' := [(7, .int v76_32_0), (0, .ref h3), (1, .ref h1), (2, .int p0), (3, .int p1), (4, .int p2), (5, .int z_29), (6, .int 2), (8, .int z_24)]) hx hb dX6_swayed_76 hl (by decide) rfl (fun ls_33 hl_33 => ?_)
        clear hl
        refine lv_aload_n hx hb dX6_swayed_78 rfl (lv_at hl_33 1 rfl) ?_
        refine q_get X hK h 3 rfl rfl wf_6 0 (by decide) rfl wm_1_184 dX6_swayed_79 ?_
        refine lv_iconst (v := 0) hx hb dX6_swayed_82 (by decide) ?_
        refine lv_iload hx hb dX6_swayed_83 (lv_at hl_33 7 rfl) ?_
        refine lv_iadd hx hb dX6_swayed_85 ?_
        refine q_c 2 (by decide +kernel) ?_
        refine q_iald X hK h 4 rfl (q_in (by decide +kernel)) dX6_swayed_86 ?_
        refine q_any (fun z_34 hz_34 => ?_)
        refine lv_iload hx hb dX6_swayed_87 (lv_at hl_33 0 rfl) ?_
        refine lv_iconst (v := 0) hx hb dX6_swayed_89 (by decide) ?_
        refine q_callSi (rest := [.int z_34]) (wr := [(h0, .inr (3, [.int p3, .int p4, .int p5, .int p6, w0, w0, .null, w1, w2, w3, w4, w5])), (h1, .inr (7, [.ref h0, .int p7, .int p8, .ref h2])), (h2, .inl (cy 1, 10, .inl f0)), (h3, .inr (6, [.ref h4, w6])), (h4, .inl (cy 1, 11, .inl F_5))]) X hK hA h (fun sz => gJ6_compare_7cf53_12 l D cy v76_32_0 (0 : Int32) (i_rng _) ⟨by decide +kernel, by decide +kernel⟩ sz) wm_4_34 wm_4_36 wm_1_22 hd_J6_compare_7cf53 wm_4_35 ⟨Nat.le_of_ble_eq_true rfl, Nat.le_of_ble_eq_true rfl⟩ hl_33.1 rfl (Nat.le_of_ble_eq_true rfl) dX6_swayed_90 ⟨Nat.le_of_ble_eq_true rfl, Nat.le_of_ble_eq_true rfl⟩ [] [0, 1, 2, 3, 4] rfl rfl (by decide) rfl rfl (fun r_35 u_35 H locs w_35 h_35 => ?_)
        clear h
        obtain ⟨wr_35, _⟩ := w_35
        replace h_35 : qW D _ _ [(h0, .inr (3, [.int p3, .int p4, .int p5, .int p6, w0, w0, .null, w1, w2, w3, w4, w5])), (h1, .inr (7, [.ref h0, .int p7, .int p8, .ref h2])), (h2, .inl (cy 1, 10, .inl f0)), (h3, .inr (6, [.ref h4, w6])), (h4, .inl (cy 1, 11, .inl F_5))] _ _ := h_35
        refine lv_iadd hx hb dX6_swayed_93 ?_
        refine q_any (fun z_36 hz_36 => ?_)
        refine lv_istore (lv' := [(8, .int z_36), (7, .int v76_32_0), (0, .ref h3), (1, .ref h1), (2, .int p0), (3, .int p1), (4, .int p2), (5, .int z_29), (6, .int 2)]) hx hb dX6_swayed_94 hl_33 (by decide) rfl (fun ls_37 hl_37 => ?_)
        clear hl_33
        refine lv_bipush (v := 10) hx hb dX6_swayed_96 (by decide) ?_
        refine lv_iload hx hb dX6_swayed_98 (lv_at hl_37 7 rfl) ?_
        refine lv_imul hx hb dX6_swayed_100 ?_
        obtain ⟨z_38, ez_38, hz_38⟩ := e_mul (x := 10) (y := z_29) (show (10 : Int32).toInt = 10 by decide) rfl (by omega) (by omega)
        refine q_c z_38 ez_38 ?_
        clear ez_38
        refine lv_iconst (v := 0) hx hb dX6_swayed_101 (by decide) ?_
        refine lv_bipush (v := 9) hx hb dX6_swayed_102 (by decide) ?_
        refine lv_iload hx hb dX6_swayed_104 (lv_at hl_37 0 rfl) ?_
        refine va_mmin hx hb (hml.trans hl_37.1.symm) hown (ht _ wm_4_37) (ht _ wm_2_171) (ht _ wm_1_13) (ht _ wm_2_172) (Nat.le_of_ble_eq_true rfl) (Nat.le_of_ble_eq_true rfl) (Nat.le_of_ble_eq_true rfl) (Nat.le_of_ble_eq_true rfl) dX6_swayed_106 ?_
        obtain ⟨z_39, ez_39, hz_39⟩ := e_min (x := 9) (y := z_36) (show (9 : Int32).toInt = 9 by decide) rfl
        refine q_c z_39 ez_39 ?_
        clear ez_39
        refine va_mmax hx hb (hml.trans hl_37.1.symm) hown (ht _ wm_4_38) (ht _ wm_3_23) (ht _ wm_1_13) (ht _ wm_3_24) (Nat.le_of_ble_eq_true rfl) (Nat.le_of_ble_eq_true rfl) (Nat.le_of_ble_eq_true rfl) (Nat.le_of_ble_eq_true rfl) dX6_swayed_109 ?_
        obtain ⟨z_40, ez_40, hz_40⟩ := e_max (x := 0) (y := z_39) (show (0 : Int32).toInt = 0 by decide) rfl
        refine q_c z_40 ez_40 ?_
        clear ez_40
        refine lv_iadd hx hb dX6_swayed_112 ?_
        obtain ⟨z_41, ez_41, hz_41⟩ := e_add (x := z_38) (y := z_40) rfl rfl (by omega) (by omega)
        refine q_c z_41 ez_41 ?_
        clear ez_41
        refine lv_istore (lv' := [(5, .int z_41), (8, .int z_36), (7, .int v76_32_0), (0, .ref h3), (1, .ref h1), (2, .int p0), (3, .int p1), (4, .int p2), (6, .int 2)]) hx hb dX6_swayed_113 hl_37 (by decide) rfl (fun ls_42 hl_42 => ?_)
        clear hl_37
        refine lv_iinc (v := 3) (lv' := [(6, .int 3), (5, .int z_41), (8, .int z_36), (7, .int v76_32_0), (0, .ref h3), (1, .ref h1), (2, .int p0), (3, .int p1), (4, .int p2)]) hx hb dX6_swayed_115 hl_42 (k := 8) rfl (by decide +kernel) (by decide) rfl (fun ls_43 hl_43 => ?_)
        clear hl_42
        refine lv_goto (tgt := 41) hx hb dX6_swayed_118 (by decide) ?_
        refine lv_iload hx hb dX6_swayed_41 (lv_at hl_43 0 rfl) ?_
        refine lv_iconst (v := 3) hx hb dX6_swayed_43 (by decide) ?_
        refine lv_icmp_ge (tgt := 121) hx hb dX6_swayed_44 (by decide) (fun _ => ?_) (fun c => absurd c (by decide +kernel))
        refine lv_iload hx hb dX6_swayed_121 (lv_at hl_43 1 rfl) ?_
        exact q_iret X hr hlk hK h_35 rfl (fun _ => 0, fun k => List.getD [F_5] k (fun _ => 0), fun _ _ => 0) ⟨⟨by omega, by omega⟩, trivial⟩ [0, 1, 2, 3, 4] rfl rfl dX6_swayed_123 (Nat.le_of_ble_eq_true rfl) (Nat.le_of_ble_eq_true rfl)
      · skip
        refine lv_icmp_ge (tgt := 75) hx hb dX6_swayed_56 (by decide) (fun c_44 => ?_) (fun c_44 => ?_)
        · replace c_44 := i_le (x := p3) (y := 2) rfl (show (2 : Int32).toInt = 2 by decide) c_44
          refine lv_iconst (v := 0) hx hb dX6_swayed_75 (by decide) ?_
          exact J_76 _ _ _ _ ⟨0, ⟨by decide +kernel, by decide +kernel⟩, rfl, h_23, (lv_sub hl_31 [4, 5, 6, 7, 8, 1, 0, 3, 2] rfl)⟩
        · replace c_44 := i_nle (x := p3) (y := 2) rfl (show (2 : Int32).toInt = 2 by decide) c_44
          refine lv_aload_n hx hb dX6_swayed_59 rfl (lv_at hl_31 4 rfl) ?_
          refine lv_aload_n hx hb dX6_swayed_60 rfl (lv_at hl_31 5 rfl) ?_
          refine q_get X hK h_23 1 rfl rfl wf_7 0 (by decide) rfl wm_2_41 dX6_swayed_61 ?_
          refine q_get X hK h_23 0 rfl rfl wf_3 6 (by decide) rfl wm_1_100 dX6_swayed_64 ?_
          refine lv_iload hx hb dX6_swayed_67 (lv_at hl_31 0 rfl) ?_
          refine q_callVi (rest := []) (wr := [(h0, .inr (3, [.int p3, .int p4, .int p5, .int p6, w0, w0, .null, w1, w2, w3, w4, w5])), (h1, .inr (7, [.ref h0, .int p7, .int p8, .ref h2])), (h2, .inl (cy 1, 10, .inl f0))]) X hK hA h_23 (fun sz => gX6_swayOf_14 l D cy h3 h4 (2 : Int32) w6 F_5 ⟨by decide +kernel, by decide +kernel⟩ sz) wm_4_30 wm_4_33 wm_1_5 hd_X6_swayOf wm_4_32 wp_2_14 (ci := 6) (q0 := 0) rfl rfl ⟨Nat.le_of_ble_eq_true rfl, Nat.le_of_ble_eq_true rfl⟩ hl_31.1 rfl (Nat.le_of_ble_eq_true rfl) dX6_swayed_69 ⟨Nat.le_of_ble_eq_true rfl, Nat.le_of_ble_eq_true rfl⟩ [3, 4] [0, 1, 2] rfl rfl (by decide) rfl rfl (fun r_45 u_45 H locs w_45 h_45 => ?_)
          clear h_23
          obtain ⟨wr_45, _⟩ := w_45
          replace h_45 : qW D _ _ [(h0, .inr (3, [.int p3, .int p4, .int p5, .int p6, w0, w0, .null, w1, w2, w3, w4, w5])), (h1, .inr (7, [.ref h0, .int p7, .int p8, .ref h2])), (h2, .inl (cy 1, 10, .inl f0)), (h3, .inr (6, [.ref h4, w6])), (h4, .inl (cy 1, 11, .inl F_5))] _ _ := h_45
          refine lv_goto (tgt := 76) hx hb dX6_swayed_72 (by decide) ?_
          exact J_76 _ _ _ _ ⟨r_45, ⟨by omega, by omega⟩, rfl, h_45, (lv_sub hl_31 [4, 5, 6, 7, 8, 1, 0, 3, 2] rfl)⟩
    · skip
      refine lv_icmp_ge (tgt := 75) hx hb dX6_swayed_56 (by decide) (fun c_46 => ?_) (fun c_46 => ?_)
      · replace c_46 := i_le (x := p3) (y := 1) rfl (show (1 : Int32).toInt = 1 by decide) c_46
        refine lv_iconst (v := 0) hx hb dX6_swayed_75 (by decide) ?_
        exact J_76 _ _ _ _ ⟨0, ⟨by decide +kernel, by decide +kernel⟩, rfl, h_12, (lv_sub hl_19 [4, 5, 6, 7, 8, 1, 0, 3, 2] rfl)⟩
      · replace c_46 := i_nle (x := p3) (y := 1) rfl (show (1 : Int32).toInt = 1 by decide) c_46
        refine lv_aload_n hx hb dX6_swayed_59 rfl (lv_at hl_19 4 rfl) ?_
        refine lv_aload_n hx hb dX6_swayed_60 rfl (lv_at hl_19 5 rfl) ?_
        refine q_get X hK h_12 1 rfl rfl wf_7 0 (by decide) rfl wm_2_41 dX6_swayed_61 ?_
        refine q_get X hK h_12 0 rfl rfl wf_3 6 (by decide) rfl wm_1_100 dX6_swayed_64 ?_
        refine lv_iload hx hb dX6_swayed_67 (lv_at hl_19 0 rfl) ?_
        refine q_callVi (rest := []) (wr := [(h0, .inr (3, [.int p3, .int p4, .int p5, .int p6, w0, w0, .null, w1, w2, w3, w4, w5])), (h1, .inr (7, [.ref h0, .int p7, .int p8, .ref h2])), (h2, .inl (cy 1, 10, .inl f0))]) X hK hA h_12 (fun sz => gX6_swayOf_13 l D cy h3 h4 (1 : Int32) w6 F_5 ⟨by decide +kernel, by decide +kernel⟩ sz) wm_4_30 wm_4_33 wm_1_5 hd_X6_swayOf wm_4_32 wp_2_14 (ci := 6) (q0 := 0) rfl rfl ⟨Nat.le_of_ble_eq_true rfl, Nat.le_of_ble_eq_true rfl⟩ hl_19.1 rfl (Nat.le_of_ble_eq_true rfl) dX6_swayed_69 ⟨Nat.le_of_ble_eq_true rfl, Nat.le_of_ble_eq_true rfl⟩ [3, 4] [0, 1, 2] rfl rfl (by decide) rfl rfl (fun r_47 u_47 H locs w_47 h_47 => ?_)
        clear h_12
        obtain ⟨wr_47, _⟩ := w_47
        replace h_47 : qW D _ _ [(h0, .inr (3, [.int p3, .int p4, .int p5, .int p6, w0, w0, .null, w1, w2, w3, w4, w5])), (h1, .inr (7, [.ref h0, .int p7, .int p8, .ref h2])), (h2, .inl (cy 1, 10, .inl f0)), (h3, .inr (6, [.ref h4, w6])), (h4, .inl (cy 1, 11, .inl F_5))] _ _ := h_47
        refine lv_goto (tgt := 76) hx hb dX6_swayed_72 (by decide) ?_
        exact J_76 _ _ _ _ ⟨r_47, ⟨by omega, by omega⟩, rfl, h_47, (lv_sub hl_19 [4, 5, 6, 7, 8, 1, 0, 3, 2] rfl)⟩
  · skip
    refine lv_icmp_ge (tgt := 75) hx hb dX6_swayed_56 (by decide) (fun c_48 => ?_) (fun c_48 => ?_)
    · replace c_48 := i_le (x := p3) (y := 0) rfl (show (0 : Int32).toInt = 0 by decide) c_48
      exfalso
      omega
    · replace c_48 := i_nle (x := p3) (y := 0) rfl (show (0 : Int32).toInt = 0 by decide) c_48
      refine lv_aload_n hx hb dX6_swayed_59 rfl (lv_at hl_8 2 rfl) ?_
      refine lv_aload_n hx hb dX6_swayed_60 rfl (lv_at hl_8 3 rfl) ?_
      refine q_get X hK h_6 1 rfl rfl wf_7 0 (by decide) rfl wm_2_41 dX6_swayed_61 ?_
      refine q_get X hK h_6 0 rfl rfl wf_3 6 (by decide) rfl wm_1_100 dX6_swayed_64 ?_
      refine lv_iload hx hb dX6_swayed_67 (lv_at hl_8 0 rfl) ?_
      refine q_callVi (rest := []) (wr := [(h0, .inr (3, [.int p3, .int p4, .int p5, .int p6, w0, w0, .null, w1, w2, w3, w4, w5])), (h1, .inr (7, [.ref h0, .int p7, .int p8, .ref h2])), (h2, .inl (cy 1, 10, .inl f0))]) X hK hA h_6 (fun sz => gX6_swayOf_11 l D cy h3 h4 (0 : Int32) w6 F_5 ⟨by decide +kernel, by decide +kernel⟩ sz) wm_4_30 wm_4_33 wm_1_5 hd_X6_swayOf wm_4_32 wp_2_14 (ci := 6) (q0 := 0) rfl rfl ⟨Nat.le_of_ble_eq_true rfl, Nat.le_of_ble_eq_true rfl⟩ hl_8.1 rfl (Nat.le_of_ble_eq_true rfl) dX6_swayed_69 ⟨Nat.le_of_ble_eq_true rfl, Nat.le_of_ble_eq_true rfl⟩ [3, 4] [0, 1, 2] rfl rfl (by decide) rfl rfl (fun r_49 u_49 H locs w_49 h_49 => ?_)
      clear h_6
      obtain ⟨wr_49, _⟩ := w_49
      replace h_49 : qW D _ _ [(h0, .inr (3, [.int p3, .int p4, .int p5, .int p6, w0, w0, .null, w1, w2, w3, w4, w5])), (h1, .inr (7, [.ref h0, .int p7, .int p8, .ref h2])), (h2, .inl (cy 1, 10, .inl f0)), (h3, .inr (6, [.ref h4, w6])), (h4, .inl (cy 1, 11, .inl F_5))] _ _ := h_49
      refine lv_goto (tgt := 76) hx hb dX6_swayed_72 (by decide) ?_
      exact J_76 _ _ _ _ ⟨r_49, ⟨by omega, by omega⟩, rfl, h_49, (lv_sub hl_8 [2, 3, 4, 5, 6, 1, 0] rfl)⟩
set_option maxHeartbeats 4000000 in
set_option maxRecDepth 100000 in
theorem gX6_saysAye_16 (l : Launch) (D : va_G) (cy : Nat → ClassId) (h0 : Nat) (h1 : Nat) (h2 : Nat) (h3 : Nat) (p0 : Int32) (p1 : Int32) (p2 : Int32) (p3 : Int32) (p4 : Int32) (p5 : Int32) (w0 : Value) (w1 : Value) (w2 : Value) (w3 : Value) (w4 : Value) (w5 : Value) (p6 : Int32) (p7 : Int32) (f0 : Nat → Int32) (w6 : Value) (w7 : Value) (hp0 : 0 ≤ (p0).toInt ∧ (p0).toInt ≤ 9) (hp1 : 0 ≤ (p1).toInt ∧ (p1).toInt ≤ 9) (hp2 : 1 ≤ (p2).toInt ∧ (p2).toInt ≤ 3) (hp3 : 0 ≤ (p3).toInt ∧ (p3).toInt ≤ 10) (hp4 : 0 ≤ (p4).toInt ∧ (p4).toInt ≤ 920) (hp5 : 0 ≤ (p5).toInt ∧ (p5).toInt ≤ 999) (hp6 : 0 ≤ (p6).toInt ∧ (p6).toInt ≤ 60000) (hp7 : 0 ≤ (p7).toInt ∧ (p7).toInt ≤ 1023) (rf0 : RG f0 10 0 999) (sz : Nat) : MI l yX6_saysAye cX6_saysAye 5 .boolean { frames := 0, cells := 0, slots := 0, locals := 0 } [.ref h3, .ref h1, .int p0, .int p1] D cy [(h0, .inr (3, [.int p2, .int p3, .int p4, .int p5, w0, .null, w0, w1, w2, w3, w4, w5])), (h1, .inr (7, [.ref h0, .int p6, .int p7, .ref h2])), (h2, .inl (cy 1, 10, .inl f0)), (h3, .inr (6, [w6, w7]))] sz (fun r u => (0 ≤ r.toInt ∧ r.toInt ≤ 1) ∧ True) (fun u => [(h0, .inr (3, [.int p2, .int p3, .int p4, .int p5, w0, .null, w0, w1, w2, w3, w4, w5])), (h1, .inr (7, [.ref h0, .int p6, .int p7, .ref h2])), (h2, .inl (cy 1, 10, .inl f0)), (h3, .inr (6, [w6, w7]))]) 0 0 := by
  refine q_ent (own := RX6) (by decide) rfl (Nat.le_of_ble_eq_true rfl) (fun p e s m below meth c ls X hr hlk hnm hK h hA hl => ?_)
  obtain ⟨hx, hb, hml, hown, ht⟩ := id X
  replace hl : lv_has ls 5 [(0, .ref h3), (1, .ref h1), (2, .int p0), (3, .int p1)] := hl
  refine lv_aload_n hx hb dX6_saysAye_0 rfl (lv_at hl 1 rfl) ?_
  refine q_get X hK h 1 rfl rfl wf_7 0 (by decide) rfl wm_2_41 dX6_saysAye_1 ?_
  refine q_get X hK h 0 rfl rfl wf_3 5 (by decide) rfl wm_1_97 dX6_saysAye_4 ?_
  refine lv_astoreN (lv' := [(4, .null), (0, .ref h3), (1, .ref h1), (2, .int p0), (3, .int p1)]) hx hb dX6_saysAye_7 hl (by decide) rfl (fun ls_1 hl_1 => ?_)
  clear hl
  refine lv_aloadN hx hb dX6_saysAye_9 (lv_at hl_1 0 rfl) ?_
  refine lv_ifnonnullN hx hb dX6_saysAye_11 ?_
  refine lv_aload_n hx hb dX6_saysAye_14 rfl (lv_at hl_1 2 rfl) ?_
  refine q_get X hK h 1 rfl rfl wf_7 3 (by decide) rfl wm_2_53 dX6_saysAye_15 ?_
  refine lv_iload_n hx hb dX6_saysAye_18 rfl (lv_at hl_1 3 rfl) ?_
  refine q_iald X hK h 2 rfl (i_in rfl (by omega) (by omega)) dX6_saysAye_19 ?_
  obtain ⟨z_2, ez_2, hz_2⟩ := rg_get rf0 (x := p0) rfl (by omega) (by omega)
  refine q_c z_2 ez_2 ?_
  clear ez_2
  refine lv_bipush (v := 100) hx hb dX6_saysAye_20 (by decide) ?_
  refine lv_idiv hx hb dX6_saysAye_22 (by decide) ?_
  obtain ⟨z_3, ez_3, hz_3⟩ := e_div (x := z_2) (y := 100) rfl (show (100 : Int32).toInt = 100 by decide) (by omega) (by omega)
  refine q_c z_3 ez_3 ?_
  clear ez_3
  refine lv_iconst (v := 4) hx hb dX6_saysAye_23 (by decide) ?_
  refine q_jn (pc2 := 32) (fun H locs ls st => ∃ v32_4_0 : Int32, (0 ≤ (v32_4_0).toInt ∧ (v32_4_0).toInt ≤ 1) ∧ st = [.int v32_4_0] ∧ qW D (va_A [(h0, .inr (3, [.int p2, .int p3, .int p4, .int p5, w0, .null, w0, w1, w2, w3, w4, w5])), (h1, .inr (7, [.ref h0, .int p6, .int p7, .ref h2])), (h2, .inl (cy 1, 10, .inl f0)), (h3, .inr (6, [w6, w7]))] sz) s.heap [(h0, .inr (3, [.int p2, .int p3, .int p4, .int p5, w0, .null, w0, w1, w2, w3, w4, w5])), (h1, .inr (7, [.ref h0, .int p6, .int p7, .ref h2])), (h2, .inl (cy 1, 10, .inl f0)), (h3, .inr (6, [w6, w7]))] H locs ∧ lv_has ls 5 [(0, .ref h3), (1, .ref h1), (2, .int p0), (3, .int p1), (4, .null)]) (fun H locs ls st hP => ?_) (fun J_32 => ?_)
  · obtain ⟨v32_4_0, hv32_4_0, rfl, h, hl⟩ := hP
    exact q_iret X hr hlk hK h (q_nz (by omega) (by omega)) (fun _ => 0, fun _ _ => 0, fun _ _ => 0) ⟨⟨by omega, by omega⟩, trivial⟩ [0, 1, 2, 3] rfl rfl dX6_saysAye_32 (Nat.le_of_ble_eq_true rfl) (Nat.le_of_ble_eq_true rfl)
  · skip
    refine lv_icmp_le (tgt := 31) hx hb dX6_saysAye_24 (by decide) (fun c_5 => ?_) (fun c_5 => ?_)
    · replace c_5 := i_le (x := z_3) (y := 4) rfl (show (4 : Int32).toInt = 4 by decide) c_5
      refine lv_iconst (v := 0) hx hb dX6_saysAye_31 (by decide) ?_
      exact J_32 _ _ _ _ ⟨0, ⟨by decide +kernel, by decide +kernel⟩, rfl, h, (lv_sub hl_1 [1, 2, 3, 4, 0] rfl)⟩
    · replace c_5 := i_nle (x := z_3) (y := 4) rfl (show (4 : Int32).toInt = 4 by decide) c_5
      refine lv_iconst (v := 1) hx hb dX6_saysAye_27 (by decide) ?_
      refine lv_goto (tgt := 32) hx hb dX6_saysAye_28 (by decide) ?_
      exact J_32 _ _ _ _ ⟨1, ⟨by decide +kernel, by decide +kernel⟩, rfl, h, (lv_sub hl_1 [1, 2, 3, 4, 0] rfl)⟩
set_option maxHeartbeats 4000000 in
set_option maxRecDepth 100000 in
theorem gX7_whyNoTalk_17 (l : Launch) (D : va_G) (cy : Nat → ClassId) (h0 : Nat) (h1 : Nat) (h2 : Nat) (h3 : Nat) (p0 : Int32) (p1 : Int32) (p2 : Int32) (p3 : Int32) (p4 : Int32) (p5 : Int32) (w0 : Value) (w1 : Value) (w2 : Value) (w3 : Value) (f0 : Nat → Int32) (f1 : Nat → Int32) (p6 : Int32) (p7 : Int32) (w4 : Value) (hp0 : 0 ≤ (p0).toInt ∧ (p0).toInt ≤ 9) (hp1 : 0 ≤ (p1).toInt ∧ (p1).toInt ≤ 9) (hp2 : 1 ≤ (p2).toInt ∧ (p2).toInt ≤ 3) (hp3 : 0 ≤ (p3).toInt ∧ (p3).toInt ≤ 10) (hp4 : 0 ≤ (p4).toInt ∧ (p4).toInt ≤ 920) (hp5 : 0 ≤ (p5).toInt ∧ (p5).toInt ≤ 999) (hp6 : 0 ≤ (p6).toInt ∧ (p6).toInt ≤ 60000) (hp7 : 0 ≤ (p7).toInt ∧ (p7).toInt ≤ 1023) (rf0 : RG f0 10 0 999) (rf1 : RG f1 10 0 1000000) (sz : Nat) : MI l yX7_whyNoTalk cX7_whyNoTalk 4 .int { frames := 2, cells := 0, slots := 0, locals := 43 } [.ref h3, .int p0, .int p1] D cy [(h0, .inr (3, [.int p2, .int p3, .int p4, .int p5, w0, w0, w0, w1, .ref h1, .ref h2, w2, w3])), (h1, .inl (cy 1, 10, .inl f0)), (h2, .inl (cy 1, 10, .inl f1)), (h3, .inr (7, [.ref h0, .int p6, .int p7, w4]))] sz (fun r u => (0 ≤ r.toInt ∧ r.toInt ≤ 2) ∧ True) (fun u => [(h0, .inr (3, [.int p2, .int p3, .int p4, .int p5, w0, w0, w0, w1, .ref h1, .ref h2, w2, w3])), (h1, .inl (cy 1, 10, .inl f0)), (h2, .inl (cy 1, 10, .inl f1)), (h3, .inr (7, [.ref h0, .int p6, .int p7, w4]))]) 0 0 := by
  refine q_ent (own := RX7) (by decide) rfl (Nat.le_of_ble_eq_true rfl) (fun p e s m below meth c ls X hr hlk hnm hK h hA hl => ?_)
  obtain ⟨hx, hb, hml, hown, ht⟩ := id X
  replace hl : lv_has ls 4 [(0, .ref h3), (1, .int p0), (2, .int p1)] := hl
  refine lv_iload_n hx hb dX7_whyNoTalk_0 rfl (lv_at hl 1 rfl) ?_
  refine lv_aload_n hx hb dX7_whyNoTalk_1 rfl (lv_at hl 0 rfl) ?_
  refine q_get X hK h 3 rfl rfl wf_7 0 (by decide) rfl wm_2_37 dX7_whyNoTalk_2 ?_
  refine q_get X hK h 0 rfl rfl wf_3 1 (by decide) rfl wm_1_83 dX7_whyNoTalk_5 ?_
  refine q_jn (pc2 := 27) (fun H locs ls st => st = [] ∧ qW D (va_A [(h0, .inr (3, [.int p2, .int p3, .int p4, .int p5, w0, w0, w0, w1, .ref h1, .ref h2, w2, w3])), (h1, .inl (cy 1, 10, .inl f0)), (h2, .inl (cy 1, 10, .inl f1)), (h3, .inr (7, [.ref h0, .int p6, .int p7, w4]))] sz) s.heap [(h0, .inr (3, [.int p2, .int p3, .int p4, .int p5, w0, w0, w0, w1, .ref h1, .ref h2, w2, w3])), (h1, .inl (cy 1, 10, .inl f0)), (h2, .inl (cy 1, 10, .inl f1)), (h3, .inr (7, [.ref h0, .int p6, .int p7, w4]))] H locs ∧ lv_has ls 4 [(0, .ref h3), (1, .int p0), (2, .int p1)]) (fun H locs ls st hP => ?_) (fun J_27 => ?_)
  · obtain ⟨rfl, h, hl⟩ := hP
    refine lv_iconst (v := 1) hx hb dX7_whyNoTalk_27 (by decide) ?_
    exact q_iret X hr hlk hK h rfl (fun _ => 0, fun _ _ => 0, fun _ _ => 0) ⟨⟨by decide +kernel, by decide +kernel⟩, trivial⟩ [0, 1, 2, 3] rfl rfl dX7_whyNoTalk_28 (Nat.le_of_ble_eq_true rfl) (Nat.le_of_ble_eq_true rfl)
  · skip
    refine lv_icmp_ge (tgt := 27) hx hb dX7_whyNoTalk_8 (by decide) (fun c_2 => ?_) (fun c_2 => ?_)
    · replace c_2 := i_le (x := p3) (y := p0) rfl rfl c_2
      exact J_27 _ _ _ _ ⟨rfl, h, (lv_sub hl [0, 1, 2] rfl)⟩
    · replace c_2 := i_nle (x := p3) (y := p0) rfl rfl c_2
      refine lv_iload_n hx hb dX7_whyNoTalk_11 rfl (lv_at hl 2 rfl) ?_
      refine lv_aload_n hx hb dX7_whyNoTalk_12 rfl (lv_at hl 0 rfl) ?_
      refine q_get X hK h 3 rfl rfl wf_7 0 (by decide) rfl wm_2_37 dX7_whyNoTalk_13 ?_
      refine q_get X hK h 0 rfl rfl wf_3 1 (by decide) rfl wm_1_83 dX7_whyNoTalk_16 ?_
      refine lv_icmp_ge (tgt := 27) hx hb dX7_whyNoTalk_19 (by decide) (fun c_3 => ?_) (fun c_3 => ?_)
      · replace c_3 := i_le (x := p3) (y := p1) rfl rfl c_3
        exact J_27 _ _ _ _ ⟨rfl, h, (lv_sub hl [0, 1, 2] rfl)⟩
      · replace c_3 := i_nle (x := p3) (y := p1) rfl rfl c_3
        refine lv_iload_n hx hb dX7_whyNoTalk_22 rfl (lv_at hl 1 rfl) ?_
        refine lv_iload_n hx hb dX7_whyNoTalk_23 rfl (lv_at hl 2 rfl) ?_
        refine lv_icmp_ne (tgt := 29) hx hb dX7_whyNoTalk_24 (by decide) (fun c_4 => ?_) (fun c_4 => ?_)
        · replace c_4 := i_ne (x := p0) (y := p1) rfl rfl c_4
          refine lv_iconst (v := 1) hx hb dX7_whyNoTalk_29 (by decide) ?_
          refine lv_iload_n hx hb dX7_whyNoTalk_30 rfl (lv_at hl 1 rfl) ?_
          refine lv_ishl hx hb dX7_whyNoTalk_31 ?_
          obtain ⟨z_5, ez_5, hz_5⟩ := e_shlk (p := p0) 9 (by decide) rfl (by omega) (by omega)
          refine q_c z_5 ez_5 ?_
          clear ez_5
          refine lv_iconst (v := 1) hx hb dX7_whyNoTalk_32 (by decide) ?_
          refine lv_iload_n hx hb dX7_whyNoTalk_33 rfl (lv_at hl 2 rfl) ?_
          refine lv_ishl hx hb dX7_whyNoTalk_34 ?_
          obtain ⟨z_6, ez_6, hz_6⟩ := e_shlk (p := p1) 9 (by decide) rfl (by omega) (by omega)
          refine q_c z_6 ez_6 ?_
          clear ez_6
          refine lv_ior hx hb dX7_whyNoTalk_35 ?_
          obtain ⟨z_7, ez_7, hz_7⟩ := e_or (x := z_5) (y := z_6) 10 (by decide) rfl rfl (by omega) (by omega) (by omega) (by omega)
          refine q_c z_7 ez_7 ?_
          clear ez_7
          refine lv_istore_n (lv' := [(3, .int z_7), (0, .ref h3), (1, .int p0), (2, .int p1)]) hx hb dX7_whyNoTalk_36 rfl hl (by decide) rfl (fun ls_8 hl_8 => ?_)
          clear hl
          refine lv_aload_n hx hb dX7_whyNoTalk_37 rfl (lv_at hl_8 1 rfl) ?_
          refine q_callVi (rest := []) (wr := []) X hK hA h (fun sz => gX7_inTown_3 l D cy h0 h1 h2 h3 p2 p3 p4 p5 w0 w1 w2 w3 f0 f1 p6 p7 w4 ⟨by omega, by omega⟩ ⟨by omega, by omega⟩ ⟨by omega, by omega⟩ ⟨by omega, by omega⟩ ⟨by omega, by omega⟩ ⟨by omega, by omega⟩ (rg_wide rf0 (by decide) (by decide)) (rg_wide rf1 (by decide) (by decide)) sz) wm_4_14 wm_3_182 wm_1_9 hd_X7_inTown wm_3_180 wm_3_181 (ci := 7) (q0 := 3) rfl rfl ⟨Nat.le_of_ble_eq_true rfl, Nat.le_of_ble_eq_true rfl⟩ hl_8.1 rfl (Nat.le_of_ble_eq_true rfl) dX7_whyNoTalk_38 ⟨Nat.le_of_ble_eq_true rfl, Nat.le_of_ble_eq_true rfl⟩ [0, 1, 2, 3] [] rfl rfl (by decide) rfl rfl (fun r_9 u_9 H locs w_9 h_9 => ?_)
          clear h
          obtain ⟨wr_9, _⟩ := w_9
          replace h_9 : qW D _ _ [(h0, .inr (3, [.int p2, .int p3, .int p4, .int p5, w0, w0, w0, w1, .ref h1, .ref h2, w2, w3])), (h1, .inl (cy 1, 10, .inl f0)), (h2, .inl (cy 1, 10, .inl f1)), (h3, .inr (7, [.ref h0, .int p6, .int p7, w4]))] _ _ := h_9
          refine lv_iload_n hx hb dX7_whyNoTalk_41 rfl (lv_at hl_8 0 rfl) ?_
          refine lv_iand hx hb dX7_whyNoTalk_42 ?_
          obtain ⟨z_10, ez_10, hz_10⟩ := e_and2 (x := r_9) (y := z_7) rfl (by omega)
          refine q_c z_10 ez_10 ?_
          clear ez_10
          refine lv_iload_n hx hb dX7_whyNoTalk_43 rfl (lv_at hl_8 0 rfl) ?_
          refine q_jn (pc2 := 52) (fun H locs ls st => ∃ v52_11_0 : Int32, (0 ≤ (v52_11_0).toInt ∧ (v52_11_0).toInt ≤ 2) ∧ st = [.int v52_11_0] ∧ qW D (va_A [(h0, .inr (3, [.int p2, .int p3, .int p4, .int p5, w0, w0, w0, w1, .ref h1, .ref h2, w2, w3])), (h1, .inl (cy 1, 10, .inl f0)), (h2, .inl (cy 1, 10, .inl f1)), (h3, .inr (7, [.ref h0, .int p6, .int p7, w4]))] sz) s.heap [(h0, .inr (3, [.int p2, .int p3, .int p4, .int p5, w0, w0, w0, w1, .ref h1, .ref h2, w2, w3])), (h1, .inl (cy 1, 10, .inl f0)), (h2, .inl (cy 1, 10, .inl f1)), (h3, .inr (7, [.ref h0, .int p6, .int p7, w4]))] H locs ∧ lv_has ls 4 [(0, .ref h3), (1, .int p0), (2, .int p1), (3, .int z_7)]) (fun H locs ls st hP => ?_) (fun J_52 => ?_)
          · obtain ⟨v52_11_0, hv52_11_0, rfl, h, hl⟩ := hP
            exact q_iret X hr hlk hK h rfl (fun _ => 0, fun _ _ => 0, fun _ _ => 0) ⟨⟨by omega, by omega⟩, trivial⟩ [0, 1, 2, 3] rfl rfl dX7_whyNoTalk_52 (Nat.le_of_ble_eq_true rfl) (Nat.le_of_ble_eq_true rfl)
          · skip
            refine lv_icmp_ne (tgt := 51) hx hb dX7_whyNoTalk_44 (by decide) (fun c_12 => ?_) (fun c_12 => ?_)
            · replace c_12 := i_ne (x := z_10) (y := z_7) rfl rfl c_12
              refine lv_iconst (v := 2) hx hb dX7_whyNoTalk_51 (by decide) ?_
              exact J_52 _ _ _ _ ⟨2, ⟨by decide +kernel, by decide +kernel⟩, rfl, h_9, (lv_sub hl_8 [1, 2, 3, 0] rfl)⟩
            · replace c_12 := i_eq (x := z_10) (y := z_7) rfl rfl c_12
              refine lv_iconst (v := 0) hx hb dX7_whyNoTalk_47 (by decide) ?_
              refine lv_goto (tgt := 52) hx hb dX7_whyNoTalk_48 (by decide) ?_
              exact J_52 _ _ _ _ ⟨0, ⟨by decide +kernel, by decide +kernel⟩, rfl, h_9, (lv_sub hl_8 [1, 2, 3, 0] rfl)⟩
        · replace c_4 := i_eq (x := p0) (y := p1) rfl rfl c_4
          exact J_27 _ _ _ _ ⟨rfl, h, (lv_sub hl [0, 1, 2] rfl)⟩
set_option maxHeartbeats 4000000 in
set_option maxRecDepth 100000 in
theorem gX7_whyNot_18 (l : Launch) (D : va_G) (cy : Nat → ClassId) (h0 : Nat) (h1 : Nat) (h2 : Nat) (h3 : Nat) (j0 : Int64) (p0 : Int32) (p1 : Int32) (p2 : Int32) (p3 : Int32) (w0 : Value) (w1 : Value) (w2 : Value) (w3 : Value) (f0 : Nat → Int32) (f1 : Nat → Int32) (p4 : Int32) (p5 : Int32) (w4 : Value) (hj0 : (-9223372036854775808) ≤ (j0).toInt ∧ (j0).toInt ≤ 9223372036854775807) (hp0 : 1 ≤ (p0).toInt ∧ (p0).toInt ≤ 3) (hp1 : 0 ≤ (p1).toInt ∧ (p1).toInt ≤ 10) (hp2 : 0 ≤ (p2).toInt ∧ (p2).toInt ≤ 920) (hp3 : 0 ≤ (p3).toInt ∧ (p3).toInt ≤ 999) (hp4 : 0 ≤ (p4).toInt ∧ (p4).toInt ≤ 60000) (hp5 : 0 ≤ (p5).toInt ∧ (p5).toInt ≤ 1023) (rf0 : RG f0 10 0 999) (rf1 : RG f1 10 0 1000000) (sz : Nat) : MI l yX7_whyNot cX7_whyNot 6 .int { frames := 3, cells := 0, slots := 0, locals := 66 } [.ref h3, .long j0] D cy [(h0, .inr (3, [.int p0, .int p1, .int p2, .int p3, w0, w0, w0, w1, .ref h1, .ref h2, w2, w3])), (h1, .inl (cy 1, 10, .inl f0)), (h2, .inl (cy 1, 10, .inl f1)), (h3, .inr (7, [.ref h0, .int p4, .int p5, w4]))] sz (fun r u => (0 ≤ r.toInt ∧ r.toInt ≤ 2) ∧ True) (fun u => [(h0, .inr (3, [.int p0, .int p1, .int p2, .int p3, w0, w0, w0, w1, .ref h1, .ref h2, w2, w3])), (h1, .inl (cy 1, 10, .inl f0)), (h2, .inl (cy 1, 10, .inl f1)), (h3, .inr (7, [.ref h0, .int p4, .int p5, w4]))]) 0 0 := by
  refine q_ent (own := RX7) (by decide) rfl (Nat.le_of_ble_eq_true rfl) (fun p e s m below meth c ls X hr hlk hnm hK h hA hl => ?_)
  obtain ⟨hx, hb, hml, hown, ht⟩ := id X
  replace hl : lv_has ls 6 [(0, .ref h3), (1, .long j0)] := hl
  refine lv_lload_n hx hb dX7_whyNot_0 rfl (lv_at hl 1 rfl) ?_
  refine lv_ldc2 hx hb hown (ht _ wm_4_8) dX7_whyNot_1 ?_
  refine W.lcmp hx hb dX7_whyNot_4 ?_
  refine lv_if_ne (tgt := 10) hx hb dX7_whyNot_5 (by decide) (fun c_1 => ?_) (fun c_1 => ?_)
  · replace c_1 := j_neq (x := j0) (y := (-1)) rfl (show ((-1) : Int64).toInt = -1 by decide) c_1
    refine lv_lload_n hx hb dX7_whyNot_10 rfl (lv_at hl 1 rfl) ?_
    refine lv_lconst (v := 0) hx hb dX7_whyNot_11 (by decide) ?_
    refine W.lcmp hx hb dX7_whyNot_12 ?_
    refine q_jn (pc2 := 39) (fun H locs ls st => st = [] ∧ qW D (va_A [(h0, .inr (3, [.int p0, .int p1, .int p2, .int p3, w0, w0, w0, w1, .ref h1, .ref h2, w2, w3])), (h1, .inl (cy 1, 10, .inl f0)), (h2, .inl (cy 1, 10, .inl f1)), (h3, .inr (7, [.ref h0, .int p4, .int p5, w4]))] sz) s.heap [(h0, .inr (3, [.int p0, .int p1, .int p2, .int p3, w0, w0, w0, w1, .ref h1, .ref h2, w2, w3])), (h1, .inl (cy 1, 10, .inl f0)), (h2, .inl (cy 1, 10, .inl f1)), (h3, .inr (7, [.ref h0, .int p4, .int p5, w4]))] H locs ∧ lv_has ls 6 [(0, .ref h3), (1, .long j0)]) (fun H locs ls st hP => ?_) (fun J_39 => ?_)
    · obtain ⟨rfl, h, hl⟩ := hP
      refine lv_lload_n hx hb dX7_whyNot_39 rfl (lv_at hl 1 rfl) ?_
      refine lv_ldc2 hx hb hown (ht _ wm_4_9) dX7_whyNot_40 ?_
      refine W.lcmp hx hb dX7_whyNot_43 ?_
      refine q_jn (pc2 := 60) (fun H locs ls st => ∃ v60_3_0 : Int32, (0 ≤ (v60_3_0).toInt ∧ (v60_3_0).toInt ≤ 1) ∧ st = [.int v60_3_0] ∧ qW D (va_A [(h0, .inr (3, [.int p0, .int p1, .int p2, .int p3, w0, w0, w0, w1, .ref h1, .ref h2, w2, w3])), (h1, .inl (cy 1, 10, .inl f0)), (h2, .inl (cy 1, 10, .inl f1)), (h3, .inr (7, [.ref h0, .int p4, .int p5, w4]))] sz) s.heap [(h0, .inr (3, [.int p0, .int p1, .int p2, .int p3, w0, w0, w0, w1, .ref h1, .ref h2, w2, w3])), (h1, .inl (cy 1, 10, .inl f0)), (h2, .inl (cy 1, 10, .inl f1)), (h3, .inr (7, [.ref h0, .int p4, .int p5, w4]))] H locs ∧ lv_has ls 6 [(0, .ref h3), (1, .long j0)]) (fun H locs ls st hP => ?_) (fun J_60 => ?_)
      · obtain ⟨v60_3_0, hv60_3_0, rfl, h, hl⟩ := hP
        refine lv_istore_n (lv' := [(3, .int v60_3_0), (0, .ref h3), (1, .long j0)]) hx hb dX7_whyNot_60 rfl hl (by decide) rfl (fun ls_4 hl_4 => ?_)
        clear hl
        refine lv_iload_n hx hb dX7_whyNot_61 rfl (lv_at hl_4 0 rfl) ?_
        refine q_jn (pc2 := 83) (fun H locs ls st => st = [] ∧ qW D (va_A [(h0, .inr (3, [.int p0, .int p1, .int p2, .int p3, w0, w0, w0, w1, .ref h1, .ref h2, w2, w3])), (h1, .inl (cy 1, 10, .inl f0)), (h2, .inl (cy 1, 10, .inl f1)), (h3, .inr (7, [.ref h0, .int p4, .int p5, w4]))] sz) s.heap [(h0, .inr (3, [.int p0, .int p1, .int p2, .int p3, w0, w0, w0, w1, .ref h1, .ref h2, w2, w3])), (h1, .inl (cy 1, 10, .inl f0)), (h2, .inl (cy 1, 10, .inl f1)), (h3, .inr (7, [.ref h0, .int p4, .int p5, w4]))] H locs ∧ lv_has ls 6 [(0, .ref h3), (1, .long j0), (3, .int v60_3_0)]) (fun H locs ls st hP => ?_) (fun J_83 => ?_)
        · obtain ⟨rfl, h, hl⟩ := hP
          refine lv_lload_n hx hb dX7_whyNot_83 rfl (lv_at hl 1 rfl) ?_
          refine lv_l2i hx hb dX7_whyNot_84 rfl ?_
          refine q_any (fun z_6 hz_6 => ?_)
          refine lv_bipush (v := 10) hx hb dX7_whyNot_85 (by decide) ?_
          refine lv_irem hx hb dX7_whyNot_87 (by decide) ?_
          refine q_any (fun z_7 hz_7 => ?_)
          refine lv_istore (lv' := [(4, .int z_7), (0, .ref h3), (1, .long j0), (3, .int v60_3_0)]) hx hb dX7_whyNot_88 hl (by decide) rfl (fun ls_8 hl_8 => ?_)
          clear hl
          refine lv_iload hx hb dX7_whyNot_90 (lv_at hl_8 0 rfl) ?_
          refine lv_aload_n hx hb dX7_whyNot_92 rfl (lv_at hl_8 1 rfl) ?_
          refine q_get X hK h 3 rfl rfl wf_7 0 (by decide) rfl wm_2_37 dX7_whyNot_93 ?_
          refine q_get X hK h 0 rfl rfl wf_3 1 (by decide) rfl wm_1_83 dX7_whyNot_96 ?_
          refine lv_icmp_lt (tgt := 104) hx hb dX7_whyNot_99 (by decide) (fun c_9 => ?_) (fun c_9 => ?_)
          · replace c_9 := i_lt (x := z_7) (y := p1) rfl rfl c_9
            refine lv_aload_n hx hb dX7_whyNot_104 rfl (lv_at hl_8 1 rfl) ?_
            refine q_get X hK h 3 rfl rfl wf_7 2 (by decide) rfl wm_2_48 dX7_whyNot_105 ?_
            refine lv_iload hx hb dX7_whyNot_108 (lv_at hl_8 0 rfl) ?_
            refine lv_ishr hx hb dX7_whyNot_110 ?_
            obtain ⟨z_10, ez_10, hz_10⟩ := e_shr (x := p5) z_7 rfl (by omega)
            refine q_c z_10 ez_10 ?_
            clear ez_10
            refine lv_iconst (v := 1) hx hb dX7_whyNot_111 (by decide) ?_
            refine lv_iand hx hb dX7_whyNot_112 ?_
            obtain ⟨z_11, ez_11, hz_11⟩ := e_and2 (x := z_10) (y := 1) (show (1 : Int32).toInt = 1 by decide) (by omega)
            refine q_c z_11 ez_11 ?_
            clear ez_11
            refine lv_iconst (v := 1) hx hb dX7_whyNot_113 (by decide) ?_
            refine q_jn (pc2 := 122) (fun H locs ls st => ∃ v122_12_0 : Int32, (0 ≤ (v122_12_0).toInt ∧ (v122_12_0).toInt ≤ 1) ∧ st = [.int v122_12_0] ∧ qW D (va_A [(h0, .inr (3, [.int p0, .int p1, .int p2, .int p3, w0, w0, w0, w1, .ref h1, .ref h2, w2, w3])), (h1, .inl (cy 1, 10, .inl f0)), (h2, .inl (cy 1, 10, .inl f1)), (h3, .inr (7, [.ref h0, .int p4, .int p5, w4]))] sz) s.heap [(h0, .inr (3, [.int p0, .int p1, .int p2, .int p3, w0, w0, w0, w1, .ref h1, .ref h2, w2, w3])), (h1, .inl (cy 1, 10, .inl f0)), (h2, .inl (cy 1, 10, .inl f1)), (h3, .inr (7, [.ref h0, .int p4, .int p5, w4]))] H locs ∧ lv_has ls 6 [(0, .ref h3), (1, .long j0), (3, .int v60_3_0), (4, .int z_7)]) (fun H locs ls st hP => ?_) (fun J_122 => ?_)
            · obtain ⟨v122_12_0, hv122_12_0, rfl, h, hl⟩ := hP
              refine lv_istore (lv' := [(5, .int v122_12_0), (0, .ref h3), (1, .long j0), (3, .int v60_3_0), (4, .int z_7)]) hx hb dX7_whyNot_122 hl (by decide) rfl (fun ls_13 hl_13 => ?_)
              clear hl
              refine lv_iload hx hb dX7_whyNot_124 (lv_at hl_13 0 rfl) ?_
              refine lv_iload_n hx hb dX7_whyNot_126 rfl (lv_at hl_13 3 rfl) ?_
              refine q_jn (pc2 := 135) (fun H locs ls st => ∃ v135_14_0 : Int32, (0 ≤ (v135_14_0).toInt ∧ (v135_14_0).toInt ≤ 2) ∧ st = [.int v135_14_0] ∧ qW D (va_A [(h0, .inr (3, [.int p0, .int p1, .int p2, .int p3, w0, w0, w0, w1, .ref h1, .ref h2, w2, w3])), (h1, .inl (cy 1, 10, .inl f0)), (h2, .inl (cy 1, 10, .inl f1)), (h3, .inr (7, [.ref h0, .int p4, .int p5, w4]))] sz) s.heap [(h0, .inr (3, [.int p0, .int p1, .int p2, .int p3, w0, w0, w0, w1, .ref h1, .ref h2, w2, w3])), (h1, .inl (cy 1, 10, .inl f0)), (h2, .inl (cy 1, 10, .inl f1)), (h3, .inr (7, [.ref h0, .int p4, .int p5, w4]))] H locs ∧ lv_has ls 6 [(0, .ref h3), (1, .long j0), (3, .int v60_3_0), (4, .int z_7), (5, .int v122_12_0)]) (fun H locs ls st hP => ?_) (fun J_135 => ?_)
              · obtain ⟨v135_14_0, hv135_14_0, rfl, h, hl⟩ := hP
                exact q_iret X hr hlk hK h rfl (fun _ => 0, fun _ _ => 0, fun _ _ => 0) ⟨⟨by omega, by omega⟩, trivial⟩ [0, 1, 2, 3] rfl rfl dX7_whyNot_135 (Nat.le_of_ble_eq_true rfl) (Nat.le_of_ble_eq_true rfl)
              · skip
                refine lv_icmp_ne (tgt := 134) hx hb dX7_whyNot_127 (by decide) (fun c_15 => ?_) (fun c_15 => ?_)
                · replace c_15 := i_ne (x := v122_12_0) (y := v60_3_0) rfl rfl c_15
                  refine lv_iconst (v := 0) hx hb dX7_whyNot_134 (by decide) ?_
                  exact J_135 _ _ _ _ ⟨0, ⟨by decide +kernel, by decide +kernel⟩, rfl, h, (lv_sub hl_13 [1, 2, 3, 4, 0] rfl)⟩
                · replace c_15 := i_eq (x := v122_12_0) (y := v60_3_0) rfl rfl c_15
                  refine lv_iconst (v := 2) hx hb dX7_whyNot_130 (by decide) ?_
                  refine lv_goto (tgt := 135) hx hb dX7_whyNot_131 (by decide) ?_
                  exact J_135 _ _ _ _ ⟨2, ⟨by decide +kernel, by decide +kernel⟩, rfl, h, (lv_sub hl_13 [1, 2, 3, 4, 0] rfl)⟩
            · skip
              refine lv_icmp_ne (tgt := 121) hx hb dX7_whyNot_114 (by decide) (fun c_16 => ?_) (fun c_16 => ?_)
              · replace c_16 := i_ne (x := z_11) (y := 1) rfl (show (1 : Int32).toInt = 1 by decide) c_16
                refine lv_iconst (v := 0) hx hb dX7_whyNot_121 (by decide) ?_
                exact J_122 _ _ _ _ ⟨0, ⟨by decide +kernel, by decide +kernel⟩, rfl, h, (lv_sub hl_8 [1, 2, 3, 0] rfl)⟩
              · replace c_16 := i_eq (x := z_11) (y := 1) rfl (show (1 : Int32).toInt = 1 by decide) c_16
                refine lv_iconst (v := 1) hx hb dX7_whyNot_117 (by decide) ?_
                refine lv_goto (tgt := 122) hx hb dX7_whyNot_118 (by decide) ?_
                exact J_122 _ _ _ _ ⟨1, ⟨by decide +kernel, by decide +kernel⟩, rfl, h, (lv_sub hl_8 [1, 2, 3, 0] rfl)⟩
          · replace c_9 := i_nlt (x := z_7) (y := p1) rfl rfl c_9
            refine lv_iconst (v := 1) hx hb dX7_whyNot_102 (by decide) ?_
            exact q_iret X hr hlk hK h rfl (fun _ => 0, fun _ _ => 0, fun _ _ => 0) ⟨⟨by decide +kernel, by decide +kernel⟩, trivial⟩ [0, 1, 2, 3] rfl rfl dX7_whyNot_103 (Nat.le_of_ble_eq_true rfl) (Nat.le_of_ble_eq_true rfl)
        · skip
          refine lv_if_ne (tgt := 83) hx hb dX7_whyNot_62 (by decide) (fun c_17 => ?_) (fun c_17 => ?_)
          · replace c_17 := i_ne (x := v60_3_0) (y := 0) rfl (show (0 : Int32).toInt = 0 by decide) c_17
            exact J_83 _ _ _ _ ⟨rfl, h, (lv_sub hl_4 [1, 2, 0] rfl)⟩
          · replace c_17 := i_eq (x := v60_3_0) (y := 0) rfl (show (0 : Int32).toInt = 0 by decide) c_17
            refine lv_lload_n hx hb dX7_whyNot_65 rfl (lv_at hl_4 2 rfl) ?_
            refine lv_ldc2 hx hb hown (ht _ wm_4_16) dX7_whyNot_66 ?_
            refine W.lcmp hx hb dX7_whyNot_69 ?_
            refine q_jn (pc2 := 81) (fun H locs ls st => st = [] ∧ qW D (va_A [(h0, .inr (3, [.int p0, .int p1, .int p2, .int p3, w0, w0, w0, w1, .ref h1, .ref h2, w2, w3])), (h1, .inl (cy 1, 10, .inl f0)), (h2, .inl (cy 1, 10, .inl f1)), (h3, .inr (7, [.ref h0, .int p4, .int p5, w4]))] sz) s.heap [(h0, .inr (3, [.int p0, .int p1, .int p2, .int p3, w0, w0, w0, w1, .ref h1, .ref h2, w2, w3])), (h1, .inl (cy 1, 10, .inl f0)), (h2, .inl (cy 1, 10, .inl f1)), (h3, .inr (7, [.ref h0, .int p4, .int p5, w4]))] H locs ∧ lv_has ls 6 [(0, .ref h3), (1, .long j0), (3, .int v60_3_0)]) (fun H locs ls st hP => ?_) (fun J_81 => ?_)
            · obtain ⟨rfl, h, hl⟩ := hP
              refine lv_iconst (v := 1) hx hb dX7_whyNot_81 (by decide) ?_
              exact q_iret X hr hlk hK h rfl (fun _ => 0, fun _ _ => 0, fun _ _ => 0) ⟨⟨by decide +kernel, by decide +kernel⟩, trivial⟩ [0, 1, 2, 3] rfl rfl dX7_whyNot_82 (Nat.le_of_ble_eq_true rfl) (Nat.le_of_ble_eq_true rfl)
            · skip
              refine lv_if_lt (tgt := 81) hx hb dX7_whyNot_70 (by decide) (fun c_19 => ?_) (fun c_19 => ?_)
              · replace c_19 := j_lt (x := j0) (y := 200) rfl (show (200 : Int64).toInt = 200 by decide) c_19
                exact J_81 _ _ _ _ ⟨rfl, h, (lv_sub hl_4 [1, 2, 0] rfl)⟩
              · replace c_19 := j_nlt (x := j0) (y := 200) rfl (show (200 : Int64).toInt = 200 by decide) c_19
                refine lv_lload_n hx hb dX7_whyNot_73 rfl (lv_at hl_4 2 rfl) ?_
                refine lv_ldc2 hx hb hown (ht _ wm_4_17) dX7_whyNot_74 ?_
                refine W.lcmp hx hb dX7_whyNot_77 ?_
                refine lv_if_lt (tgt := 83) hx hb dX7_whyNot_78 (by decide) (fun c_20 => ?_) (fun c_20 => ?_)
                · replace c_20 := j_lt (x := j0) (y := 210) rfl (show (210 : Int64).toInt = 210 by decide) c_20
                  exact J_83 _ _ _ _ ⟨rfl, h, (lv_sub hl_4 [1, 2, 0] rfl)⟩
                · replace c_20 := j_nlt (x := j0) (y := 210) rfl (show (210 : Int64).toInt = 210 by decide) c_20
                  exact J_81 _ _ _ _ ⟨rfl, h, (lv_sub hl_4 [1, 2, 0] rfl)⟩
      · skip
        refine q_jn (pc2 := 59) (fun H locs ls st => st = [] ∧ qW D (va_A [(h0, .inr (3, [.int p0, .int p1, .int p2, .int p3, w0, w0, w0, w1, .ref h1, .ref h2, w2, w3])), (h1, .inl (cy 1, 10, .inl f0)), (h2, .inl (cy 1, 10, .inl f1)), (h3, .inr (7, [.ref h0, .int p4, .int p5, w4]))] sz) s.heap [(h0, .inr (3, [.int p0, .int p1, .int p2, .int p3, w0, w0, w0, w1, .ref h1, .ref h2, w2, w3])), (h1, .inl (cy 1, 10, .inl f0)), (h2, .inl (cy 1, 10, .inl f1)), (h3, .inr (7, [.ref h0, .int p4, .int p5, w4]))] H locs ∧ lv_has ls 6 [(0, .ref h3), (1, .long j0)]) (fun H locs ls st hP => ?_) (fun J_59 => ?_)
        · obtain ⟨rfl, h, hl⟩ := hP
          refine lv_iconst (v := 0) hx hb dX7_whyNot_59 (by decide) ?_
          exact J_60 _ _ _ _ ⟨0, ⟨by decide +kernel, by decide +kernel⟩, rfl, h, (lv_sub hl [0, 1] rfl)⟩
        · skip
          refine lv_if_lt (tgt := 59) hx hb dX7_whyNot_44 (by decide) (fun c_22 => ?_) (fun c_22 => ?_)
          · replace c_22 := j_lt (x := j0) (y := 100) rfl (show (100 : Int64).toInt = 100 by decide) c_22
            exact J_59 _ _ _ _ ⟨rfl, h, (lv_sub hl [0, 1] rfl)⟩
          · replace c_22 := j_nlt (x := j0) (y := 100) rfl (show (100 : Int64).toInt = 100 by decide) c_22
            refine lv_lload_n hx hb dX7_whyNot_47 rfl (lv_at hl 1 rfl) ?_
            refine lv_ldc2 hx hb hown (ht _ wm_4_15) dX7_whyNot_48 ?_
            refine W.lcmp hx hb dX7_whyNot_51 ?_
            refine lv_if_ge (tgt := 59) hx hb dX7_whyNot_52 (by decide) (fun c_23 => ?_) (fun c_23 => ?_)
            · replace c_23 := j_ge (x := j0) (y := 110) rfl (show (110 : Int64).toInt = 110 by decide) c_23
              exact J_59 _ _ _ _ ⟨rfl, h, (lv_sub hl [0, 1] rfl)⟩
            · replace c_23 := j_nge (x := j0) (y := 110) rfl (show (110 : Int64).toInt = 110 by decide) c_23
              refine lv_iconst (v := 1) hx hb dX7_whyNot_55 (by decide) ?_
              refine lv_goto (tgt := 60) hx hb dX7_whyNot_56 (by decide) ?_
              exact J_60 _ _ _ _ ⟨1, ⟨by decide +kernel, by decide +kernel⟩, rfl, h, (lv_sub hl [0, 1] rfl)⟩
    · skip
      refine lv_if_lt (tgt := 39) hx hb dX7_whyNot_13 (by decide) (fun c_24 => ?_) (fun c_24 => ?_)
      · replace c_24 := j_lt (x := j0) (y := 0) rfl (show (0 : Int64).toInt = 0 by decide) c_24
        exact J_39 _ _ _ _ ⟨rfl, h, (lv_sub hl [0, 1] rfl)⟩
      · replace c_24 := j_nlt (x := j0) (y := 0) rfl (show (0 : Int64).toInt = 0 by decide) c_24
        refine lv_lload_n hx hb dX7_whyNot_16 rfl (lv_at hl 1 rfl) ?_
        refine lv_ldc2 hx hb hown (ht _ wm_4_9) dX7_whyNot_17 ?_
        refine W.lcmp hx hb dX7_whyNot_20 ?_
        refine lv_if_ge (tgt := 39) hx hb dX7_whyNot_21 (by decide) (fun c_25 => ?_) (fun c_25 => ?_)
        · replace c_25 := j_ge (x := j0) (y := 100) rfl (show (100 : Int64).toInt = 100 by decide) c_25
          exact J_39 _ _ _ _ ⟨rfl, h, (lv_sub hl [0, 1] rfl)⟩
        · replace c_25 := j_nge (x := j0) (y := 100) rfl (show (100 : Int64).toInt = 100 by decide) c_25
          refine lv_aload_n hx hb dX7_whyNot_24 rfl (lv_at hl 0 rfl) ?_
          refine lv_lload_n hx hb dX7_whyNot_25 rfl (lv_at hl 1 rfl) ?_
          refine lv_l2i hx hb dX7_whyNot_26 rfl ?_
          obtain ⟨z_26, ez_26, hz_26⟩ := e_l2i (x := j0) rfl (by omega) (by omega)
          refine q_c z_26 ez_26 ?_
          clear ez_26
          refine lv_bipush (v := 10) hx hb dX7_whyNot_27 (by decide) ?_
          refine lv_idiv hx hb dX7_whyNot_29 (by decide) ?_
          obtain ⟨z_27, ez_27, hz_27⟩ := e_div (x := z_26) (y := 10) rfl (show (10 : Int32).toInt = 10 by decide) (by omega) (by omega)
          refine q_c z_27 ez_27 ?_
          clear ez_27
          refine lv_lload_n hx hb dX7_whyNot_30 rfl (lv_at hl 1 rfl) ?_
          refine lv_l2i hx hb dX7_whyNot_31 rfl ?_
          obtain ⟨z_28, ez_28, hz_28⟩ := e_l2i (x := j0) rfl (by omega) (by omega)
          refine q_c z_28 ez_28 ?_
          clear ez_28
          refine lv_bipush (v := 10) hx hb dX7_whyNot_32 (by decide) ?_
          refine lv_irem hx hb dX7_whyNot_34 (by decide) ?_
          obtain ⟨z_29, ez_29, hz_29⟩ := e_rem (x := z_28) (y := 10) rfl (show (10 : Int32).toInt = 10 by decide) (by omega) (by omega)
          refine q_c z_29 ez_29 ?_
          clear ez_29
          refine q_callVi (rest := []) (wr := []) X hK hA h (fun sz => gX7_whyNoTalk_17 l D cy h0 h1 h2 h3 z_27 z_29 p0 p1 p2 p3 w0 w1 w2 w3 f0 f1 p4 p5 w4 ⟨by omega, by omega⟩ ⟨by omega, by omega⟩ ⟨by omega, by omega⟩ ⟨by omega, by omega⟩ ⟨by omega, by omega⟩ ⟨by omega, by omega⟩ ⟨by omega, by omega⟩ ⟨by omega, by omega⟩ (rg_wide rf0 (by decide) (by decide)) (rg_wide rf1 (by decide) (by decide)) sz) wm_4_10 wm_4_13 wm_1_9 hd_X7_whyNoTalk wm_4_12 wp_2_13 (ci := 7) (q0 := 3) rfl rfl ⟨Nat.le_of_ble_eq_true rfl, Nat.le_of_ble_eq_true rfl⟩ hl.1 rfl (Nat.le_of_ble_eq_true rfl) dX7_whyNot_35 ⟨Nat.le_of_ble_eq_true rfl, Nat.le_of_ble_eq_true rfl⟩ [0, 1, 2, 3] [] rfl rfl (by decide) rfl rfl (fun r_30 u_30 H locs w_30 h_30 => ?_)
          clear h
          obtain ⟨wr_30, _⟩ := w_30
          replace h_30 : qW D _ _ [(h0, .inr (3, [.int p0, .int p1, .int p2, .int p3, w0, w0, w0, w1, .ref h1, .ref h2, w2, w3])), (h1, .inl (cy 1, 10, .inl f0)), (h2, .inl (cy 1, 10, .inl f1)), (h3, .inr (7, [.ref h0, .int p4, .int p5, w4]))] _ _ := h_30
          exact q_iret X hr hlk hK h_30 rfl (fun _ => 0, fun _ _ => 0, fun _ _ => 0) ⟨⟨by omega, by omega⟩, trivial⟩ [0, 1, 2, 3] rfl rfl dX7_whyNot_38 (Nat.le_of_ble_eq_true rfl) (Nat.le_of_ble_eq_true rfl)
  · replace c_1 := j_eq (x := j0) (y := (-1)) rfl (show ((-1) : Int64).toInt = -1 by decide) c_1
    refine lv_iconst (v := 0) hx hb dX7_whyNot_8 (by decide) ?_
    exact q_iret X hr hlk hK h rfl (fun _ => 0, fun _ _ => 0, fun _ _ => 0) ⟨⟨by decide +kernel, by decide +kernel⟩, trivial⟩ [0, 1, 2, 3] rfl rfl dX7_whyNot_9 (Nat.le_of_ble_eq_true rfl) (Nat.le_of_ble_eq_true rfl)
set_option maxHeartbeats 4000000 in
set_option maxRecDepth 100000 in
theorem gX6_areOpposites_33 (l : Launch) (D : va_G) (cy : Nat → ClassId) (h0 : Nat) (h1 : Nat) (h2 : Nat) (h3 : Nat) (p0 : Int32) (p1 : Int32) (p2 : Int32) (p3 : Int32) (f0 : Nat → Int32) (w0 : Value) (w1 : Value) (p4 : Int32) (p5 : Int32) (p6 : Int32) (p7 : Int32) (w2 : Value) (w3 : Value) (w4 : Value) (w5 : Value) (w6 : Value) (w7 : Value) (p8 : Int32) (hp0 : (-1) ≤ (p0).toInt ∧ (p0).toInt ≤ 9) (hp1 : 0 ≤ (p1).toInt ∧ (p1).toInt ≤ 999) (hp2 : 0 ≤ (p2).toInt ∧ (p2).toInt ≤ 9) (hp3 : 0 ≤ (p3).toInt ∧ (p3).toInt ≤ 60000) (hp4 : 1 ≤ (p4).toInt ∧ (p4).toInt ≤ 3) (hp5 : 1 ≤ (p5).toInt ∧ (p5).toInt ≤ 10) (hp6 : 0 ≤ (p6).toInt ∧ (p6).toInt ≤ 920) (hp7 : 0 ≤ (p7).toInt ∧ (p7).toInt ≤ 999) (hp8 : 0 ≤ (p8).toInt ∧ (p8).toInt ≤ 1023) (rf0 : RG f0 10 0 999) (sz : Nat) : MI l yX6_areOpposites cX6_areOpposites 8 .boolean { frames := 0, cells := 0, slots := 0, locals := 0 } [.ref h1, .ref h3, .int p0, .int p1, .int p2, .int p3] D cy [(h0, .inl (cy 1, 10, .inl f0)), (h1, .inr (6, [w0, w1])), (h2, .inr (3, [.int p4, .int p5, .int p6, .int p7, .null, w2, w2, w3, w4, w5, w6, w7])), (h3, .inr (7, [.ref h2, .int p3, .int p8, .ref h0]))] sz (fun r u => (0 ≤ r.toInt ∧ r.toInt ≤ 1) ∧ True) (fun u => [(h0, .inl (cy 1, 10, .inl f0)), (h1, .inr (6, [w0, w1])), (h2, .inr (3, [.int p4, .int p5, .int p6, .int p7, .null, w2, w2, w3, w4, w5, w6, w7])), (h3, .inr (7, [.ref h2, .int p3, .int p8, .ref h0]))]) 0 0 := by
  refine q_ent (own := RX6) (by decide) rfl (Nat.le_of_ble_eq_true rfl) (fun p e s m below meth c ls X hr hlk hnm hK h hA hl => ?_)
  obtain ⟨hx, hb, hml, hown, ht⟩ := id X
  replace hl : lv_has ls 8 [(0, .ref h1), (1, .ref h3), (2, .int p0), (3, .int p1), (4, .int p2), (5, .int p3)] := hl
  refine lv_aload_n hx hb dX6_areOpposites_0 rfl (lv_at hl 1 rfl) ?_
  refine q_get X hK h 3 rfl rfl wf_7 0 (by decide) rfl wm_2_41 dX6_areOpposites_1 ?_
  refine q_get X hK h 2 rfl rfl wf_3 4 (by decide) rfl wm_1_94 dX6_areOpposites_4 ?_
  refine lv_astoreN (lv' := [(6, .null), (0, .ref h1), (1, .ref h3), (2, .int p0), (3, .int p1), (4, .int p2), (5, .int p3)]) hx hb dX6_areOpposites_7 hl (by decide) rfl (fun ls_1 hl_1 => ?_)
  clear hl
  refine lv_aload_n hx hb dX6_areOpposites_9 rfl (lv_at hl_1 2 rfl) ?_
  refine q_get X hK h 3 rfl rfl wf_7 3 (by decide) rfl wm_2_53 dX6_areOpposites_10 ?_
  refine lv_iload hx hb dX6_areOpposites_13 (lv_at hl_1 5 rfl) ?_
  refine q_iald X hK h 0 rfl (i_in rfl (by omega) (by omega)) dX6_areOpposites_15 ?_
  obtain ⟨z_2, ez_2, hz_2⟩ := rg_get rf0 (x := p2) rfl (by omega) (by omega)
  refine q_c z_2 ez_2 ?_
  clear ez_2
  refine lv_istore (lv' := [(7, .int z_2), (6, .null), (0, .ref h1), (1, .ref h3), (2, .int p0), (3, .int p1), (4, .int p2), (5, .int p3)]) hx hb dX6_areOpposites_16 hl_1 (by decide) rfl (fun ls_3 hl_3 => ?_)
  clear hl_1
  refine lv_aloadN hx hb dX6_areOpposites_18 (lv_at hl_3 1 rfl) ?_
  refine lv_ifnonnullN hx hb dX6_areOpposites_20 ?_
  refine lv_iload_n hx hb dX6_areOpposites_23 rfl (lv_at hl_3 5 rfl) ?_
  refine lv_bipush (v := 100) hx hb dX6_areOpposites_24 (by decide) ?_
  refine lv_idiv hx hb dX6_areOpposites_26 (by decide) ?_
  obtain ⟨z_4, ez_4, hz_4⟩ := e_div (x := p1) (y := 100) rfl (show (100 : Int32).toInt = 100 by decide) (by omega) (by omega)
  refine q_c z_4 ez_4 ?_
  clear ez_4
  refine lv_iload hx hb dX6_areOpposites_27 (lv_at hl_3 0 rfl) ?_
  refine lv_bipush (v := 100) hx hb dX6_areOpposites_29 (by decide) ?_
  refine lv_idiv hx hb dX6_areOpposites_31 (by decide) ?_
  obtain ⟨z_5, ez_5, hz_5⟩ := e_div (x := z_2) (y := 100) rfl (show (100 : Int32).toInt = 100 by decide) (by omega) (by omega)
  refine q_c z_5 ez_5 ?_
  clear ez_5
  refine lv_iadd hx hb dX6_areOpposites_32 ?_
  obtain ⟨z_6, ez_6, hz_6⟩ := e_add (x := z_4) (y := z_5) rfl rfl (by omega) (by omega)
  refine q_c z_6 ez_6 ?_
  clear ez_6
  refine lv_bipush (v := 9) hx hb dX6_areOpposites_33 (by decide) ?_
  refine q_jn (pc2 := 43) (fun H locs ls st => ∃ v43_7_0 : Int32, (0 ≤ (v43_7_0).toInt ∧ (v43_7_0).toInt ≤ 1) ∧ st = [.int v43_7_0] ∧ qW D (va_A [(h0, .inl (cy 1, 10, .inl f0)), (h1, .inr (6, [w0, w1])), (h2, .inr (3, [.int p4, .int p5, .int p6, .int p7, .null, w2, w2, w3, w4, w5, w6, w7])), (h3, .inr (7, [.ref h2, .int p3, .int p8, .ref h0]))] sz) s.heap [(h0, .inl (cy 1, 10, .inl f0)), (h1, .inr (6, [w0, w1])), (h2, .inr (3, [.int p4, .int p5, .int p6, .int p7, .null, w2, w2, w3, w4, w5, w6, w7])), (h3, .inr (7, [.ref h2, .int p3, .int p8, .ref h0]))] H locs ∧ lv_has ls 8 [(0, .ref h1), (1, .ref h3), (2, .int p0), (3, .int p1), (4, .int p2), (5, .int p3), (6, .null), (7, .int z_2)]) (fun H locs ls st hP => ?_) (fun J_43 => ?_)
  · obtain ⟨v43_7_0, hv43_7_0, rfl, h, hl⟩ := hP
    exact q_iret X hr hlk hK h (q_nz (by omega) (by omega)) (fun _ => 0, fun _ _ => 0, fun _ _ => 0) ⟨⟨by omega, by omega⟩, trivial⟩ [0, 1, 2, 3] rfl rfl dX6_areOpposites_43 (Nat.le_of_ble_eq_true rfl) (Nat.le_of_ble_eq_true rfl)
  · skip
    refine lv_icmp_ne (tgt := 42) hx hb dX6_areOpposites_35 (by decide) (fun c_8 => ?_) (fun c_8 => ?_)
    · replace c_8 := i_ne (x := z_6) (y := 9) rfl (show (9 : Int32).toInt = 9 by decide) c_8
      refine lv_iconst (v := 0) hx hb dX6_areOpposites_42 (by decide) ?_
      exact J_43 _ _ _ _ ⟨0, ⟨by decide +kernel, by decide +kernel⟩, rfl, h, (lv_sub hl_3 [2, 3, 4, 5, 6, 7, 1, 0] rfl)⟩
    · replace c_8 := i_eq (x := z_6) (y := 9) rfl (show (9 : Int32).toInt = 9 by decide) c_8
      refine lv_iconst (v := 1) hx hb dX6_areOpposites_38 (by decide) ?_
      refine lv_goto (tgt := 43) hx hb dX6_areOpposites_39 (by decide) ?_
      exact J_43 _ _ _ _ ⟨1, ⟨by decide +kernel, by decide +kernel⟩, rfl, h, (lv_sub hl_3 [2, 3, 4, 5, 6, 7, 1, 0] rfl)⟩
set_option maxHeartbeats 4000000 in
set_option maxRecDepth 100000 in
theorem gX1_lesserPart_34 (l : Launch) (D : va_G) (cy : Nat → ClassId) (h0 : Nat) (h1 : Nat) (h2 : Nat) (h3 : Nat) (h4 : Nat) (h5 : Nat) (p0 : Int32) (f0 : Nat → Int32) (w0 : Value) (w1 : Value) (p1 : Int32) (p2 : Int32) (p3 : Int32) (p4 : Int32) (f1 : Nat → Int32) (p5 : Int32) (p6 : Int32) (p7 : Int32) (p8 : Int32) (w2 : Value) (w3 : Value) (w4 : Value) (w5 : Value) (w6 : Value) (w7 : Value) (p9 : Int32) (p10 : Int32) (hp0 : 0 ≤ (p0).toInt ∧ (p0).toInt ≤ 9) (hp1 : (-1) ≤ (p1).toInt ∧ (p1).toInt ≤ 9) (hp2 : (-2147483648) ≤ (p2).toInt ∧ (p2).toInt ≤ 2147483647) (hp3 : (-2147483648) ≤ (p3).toInt ∧ (p3).toInt ≤ 2147483647) (hp4 : 0 ≤ (p4).toInt ∧ (p4).toInt ≤ 1000) (hp5 : 1 ≤ (p5).toInt ∧ (p5).toInt ≤ 3) (hp6 : 1 ≤ (p6).toInt ∧ (p6).toInt ≤ 10) (hp7 : 0 ≤ (p7).toInt ∧ (p7).toInt ≤ 920) (hp8 : 0 ≤ (p8).toInt ∧ (p8).toInt ≤ 999) (hp9 : 0 ≤ (p9).toInt ∧ (p9).toInt ≤ 60000) (hp10 : 0 ≤ (p10).toInt ∧ (p10).toInt ≤ 1023) (rf0 : RG f0 10 0 999) (rf1 : RG f1 1000 0 999) (sz : Nat) : MI l yX1_lesserPart cX1_lesserPart 6 .int { frames := 1, cells := 0, slots := 0, locals := 27 } [.ref h2, .int p0, .ref h5, .ref h1] D cy [(h0, .inl (cy 1, 10, .inl f0)), (h1, .inr (6, [w0, w1])), (h2, .inr (1, [.int p1, .int p2, .int p3, .int p4, .ref h3])), (h3, .inl (cy 1, 1000, .inl f1)), (h4, .inr (3, [.int p5, .int p6, .int p7, .int p8, .null, w2, w2, w3, w4, w5, w6, w7])), (h5, .inr (7, [.ref h4, .int p9, .int p10, .ref h0]))] sz (fun r u => ((-2147483648) ≤ r.toInt ∧ r.toInt ≤ 2147483647) ∧ True) (fun u => [(h0, .inl (cy 1, 10, .inl f0)), (h1, .inr (6, [w0, w1])), (h2, .inr (1, [.int p1, .int p2, .int p3, .int p4, .ref h3])), (h3, .inl (cy 1, 1000, .inl f1)), (h4, .inr (3, [.int p5, .int p6, .int p7, .int p8, .null, w2, w2, w3, w4, w5, w6, w7])), (h5, .inr (7, [.ref h4, .int p9, .int p10, .ref h0]))]) 0 0 := by
  refine q_ent (own := RX1) (by decide) rfl (Nat.le_of_ble_eq_true rfl) (fun p e s m below meth c ls X hr hlk hnm hK h hA hl => ?_)
  obtain ⟨hx, hb, hml, hown, ht⟩ := id X
  replace hl : lv_has ls 6 [(0, .ref h2), (1, .int p0), (2, .ref h5), (3, .ref h1)] := hl
  refine lv_iconst (v := 0) hx hb dX1_lesserPart_0 (by decide) ?_
  refine lv_istore (lv' := [(4, .int 0), (0, .ref h2), (1, .int p0), (2, .ref h5), (3, .ref h1)]) hx hb dX1_lesserPart_1 hl (by decide) rfl (fun ls_1 hl_1 => ?_)
  clear hl
  refine lv_iconst (v := 0) hx hb dX1_lesserPart_3 (by decide) ?_
  refine lv_istore (lv' := [(5, .int 0), (4, .int 0), (0, .ref h2), (1, .int p0), (2, .ref h5), (3, .ref h1)]) hx hb dX1_lesserPart_4 hl_1 (by decide) rfl (fun ls_2 hl_2 => ?_)
  clear hl_1
  refine q_wl (fun (q : Int32 × Int32) H locs ls => match q with | (v6_3_0, v6_3_1) => (0 ≤ (v6_3_0).toInt ∧ (v6_3_0).toInt ≤ 1000) ∧ ((-2147483648) ≤ (v6_3_1).toInt ∧ (v6_3_1).toInt ≤ 2147483647) ∧ qW D (va_A [(h0, .inl (cy 1, 10, .inl f0)), (h1, .inr (6, [w0, w1])), (h2, .inr (1, [.int p1, .int p2, .int p3, .int p4, .ref h3])), (h3, .inl (cy 1, 1000, .inl f1)), (h4, .inr (3, [.int p5, .int p6, .int p7, .int p8, .null, w2, w2, w3, w4, w5, w6, w7])), (h5, .inr (7, [.ref h4, .int p9, .int p10, .ref h0]))] sz) s.heap [(h0, .inl (cy 1, 10, .inl f0)), (h1, .inr (6, [w0, w1])), (h2, .inr (1, [.int p1, .int p2, .int p3, .int p4, .ref h3])), (h3, .inl (cy 1, 1000, .inl f1)), (h4, .inr (3, [.int p5, .int p6, .int p7, .int p8, .null, w2, w2, w3, w4, w5, w6, w7])), (h5, .inr (7, [.ref h4, .int p9, .int p10, .ref h0]))] H locs ∧ lv_has ls 6 [(0, .ref h2), (1, .int p0), (2, .ref h5), (3, .ref h1), (4, .int v6_3_1), (5, .int v6_3_0)]) (fun (q : Int32 × Int32) => match q with | (v6_3_0, v6_3_1) => (1001 - (v6_3_0).toInt).toNat) (fun q_6 ih_6 H locs ls hP => ?_) (0, 0) ⟨⟨by decide +kernel, by decide +kernel⟩, ⟨by decide +kernel, by decide +kernel⟩, h, (lv_sub hl_2 [2, 3, 4, 5, 1, 0] rfl)⟩
  obtain ⟨v6_3_0, v6_3_1⟩ := q_6
  obtain ⟨hv6_3_0, hv6_3_1, h, hl⟩ := hP
  refine lv_iload hx hb dX1_lesserPart_6 (lv_at hl 5 rfl) ?_
  refine lv_aload_n hx hb dX1_lesserPart_8 rfl (lv_at hl 0 rfl) ?_
  refine q_get X hK h 2 rfl rfl wf_1 3 (by decide) rfl wm_2_15 dX1_lesserPart_9 ?_
  refine lv_icmp_ge (tgt := 48) hx hb dX1_lesserPart_12 (by decide) (fun c_4 => ?_) (fun c_4 => ?_)
  · replace c_4 := i_le (x := p4) (y := v6_3_0) rfl rfl c_4
    refine lv_iload hx hb dX1_lesserPart_48 (lv_at hl 4 rfl) ?_
    refine lv_aload_n hx hb dX1_lesserPart_50 rfl (lv_at hl 0 rfl) ?_
    refine q_get X hK h 2 rfl rfl wf_1 3 (by decide) rfl wm_2_15 dX1_lesserPart_51 ?_
    refine lv_iload hx hb dX1_lesserPart_54 (lv_at hl 4 rfl) ?_
    refine lv_isub hx hb dX1_lesserPart_56 ?_
    refine q_any (fun z_5 hz_5 => ?_)
    refine va_mmin hx hb (hml.trans hl.1.symm) hown (ht _ wm_5_101) (ht _ wm_2_171) (ht _ wm_1_13) (ht _ wm_2_172) (Nat.le_of_ble_eq_true rfl) (Nat.le_of_ble_eq_true rfl) (Nat.le_of_ble_eq_true rfl) (Nat.le_of_ble_eq_true rfl) dX1_lesserPart_57 ?_
    obtain ⟨z_6, ez_6, hz_6⟩ := e_min (x := v6_3_1) (y := z_5) rfl rfl
    refine q_c z_6 ez_6 ?_
    clear ez_6
    exact q_iret X hr hlk hK h rfl (fun _ => 0, fun _ _ => 0, fun _ _ => 0) ⟨⟨by omega, by omega⟩, trivial⟩ [0, 1, 2, 3, 4, 5] rfl rfl dX1_lesserPart_60 (Nat.le_of_ble_eq_true rfl) (Nat.le_of_ble_eq_true rfl)
  · replace c_4 := i_nle (x := p4) (y := v6_3_0) rfl rfl c_4
    refine lv_aload_n hx hb dX1_lesserPart_15 rfl (lv_at hl 3 rfl) ?_
    refine lv_aload_n hx hb dX1_lesserPart_16 rfl (lv_at hl 2 rfl) ?_
    refine lv_aload_n hx hb dX1_lesserPart_17 rfl (lv_at hl 0 rfl) ?_
    refine q_get X hK h 2 rfl rfl wf_1 0 (by decide) rfl wm_2_12 dX1_lesserPart_18 ?_
    refine lv_aload_n hx hb dX1_lesserPart_21 rfl (lv_at hl 0 rfl) ?_
    refine q_get X hK h 2 rfl rfl wf_1 4 (by decide) rfl wm_2_17 dX1_lesserPart_22 ?_
    refine lv_iload hx hb dX1_lesserPart_25 (lv_at hl 5 rfl) ?_
    refine q_iald X hK h 3 rfl (i_in rfl (by omega) (by omega)) dX1_lesserPart_27 ?_
    obtain ⟨z_7, ez_7, hz_7⟩ := rg_get rf1 (x := v6_3_0) rfl (by omega) (by omega)
    refine q_c z_7 ez_7 ?_
    clear ez_7
    refine lv_iload_n hx hb dX1_lesserPart_28 rfl (lv_at hl 1 rfl) ?_
    refine lv_aload_n hx hb dX1_lesserPart_29 rfl (lv_at hl 2 rfl) ?_
    refine q_get X hK h 5 rfl rfl wf_7 1 (by decide) rfl wm_2_45 dX1_lesserPart_30 ?_
    refine q_callVi (rest := []) (wr := [(h2, .inr (1, [.int p1, .int p2, .int p3, .int p4, .ref h3])), (h3, .inl (cy 1, 1000, .inl f1))]) X hK hA h (fun sz => gX6_areOpposites_33 l D cy h0 h1 h4 h5 p1 z_7 p0 p9 f0 w0 w1 p5 p6 p7 p8 w2 w3 w4 w5 w6 w7 p10 ⟨by omega, by omega⟩ ⟨by omega, by omega⟩ ⟨by omega, by omega⟩ ⟨by omega, by omega⟩ ⟨by omega, by omega⟩ ⟨by omega, by omega⟩ ⟨by omega, by omega⟩ ⟨by omega, by omega⟩ ⟨by omega, by omega⟩ (rg_wide rf0 (by decide) (by decide)) sz) wm_5_84 wm_3_199 wm_1_5 hd_X6_areOpposites wm_3_197 wm_3_198 (ci := 6) (q0 := 1) rfl rfl ⟨Nat.le_of_ble_eq_true rfl, Nat.le_of_ble_eq_true rfl⟩ hl.1 rfl (Nat.le_of_ble_eq_true rfl) dX1_lesserPart_33 ⟨Nat.le_of_ble_eq_true rfl, Nat.le_of_ble_eq_true rfl⟩ [0, 1, 4, 5] [2, 3] rfl rfl (by decide) rfl rfl (fun r_8 u_8 H locs w_8 h_8 => ?_)
    clear h
    obtain ⟨wr_8, _⟩ := w_8
    replace h_8 : qW D _ _ [(h2, .inr (1, [.int p1, .int p2, .int p3, .int p4, .ref h3])), (h3, .inl (cy 1, 1000, .inl f1)), (h0, .inl (cy 1, 10, .inl f0)), (h1, .inr (6, [w0, w1])), (h4, .inr (3, [.int p5, .int p6, .int p7, .int p8, .null, w2, w2, w3, w4, w5, w6, w7])), (h5, .inr (7, [.ref h4, .int p9, .int p10, .ref h0]))] _ _ := h_8
    refine q_jn (pc2 := 42) (fun H locs ls st => ∃ v42_9_0 : Int32, ((-2147483648) ≤ (v42_9_0).toInt ∧ (v42_9_0).toInt ≤ 2147483647) ∧ st = [] ∧ qW D (va_A [(h0, .inl (cy 1, 10, .inl f0)), (h1, .inr (6, [w0, w1])), (h2, .inr (1, [.int p1, .int p2, .int p3, .int p4, .ref h3])), (h3, .inl (cy 1, 1000, .inl f1)), (h4, .inr (3, [.int p5, .int p6, .int p7, .int p8, .null, w2, w2, w3, w4, w5, w6, w7])), (h5, .inr (7, [.ref h4, .int p9, .int p10, .ref h0]))] sz) s.heap [(h2, .inr (1, [.int p1, .int p2, .int p3, .int p4, .ref h3])), (h3, .inl (cy 1, 1000, .inl f1)), (h0, .inl (cy 1, 10, .inl f0)), (h1, .inr (6, [w0, w1])), (h4, .inr (3, [.int p5, .int p6, .int p7, .int p8, .null, w2, w2, w3, w4, w5, w6, w7])), (h5, .inr (7, [.ref h4, .int p9, .int p10, .ref h0]))] H locs ∧ lv_has ls 6 [(0, .ref h2), (1, .int p0), (2, .ref h5), (3, .ref h1), (4, .int v42_9_0), (5, .int v6_3_0)]) (fun H locs ls st hP => ?_) (fun J_42 => ?_)
    · obtain ⟨v42_9_0, hv42_9_0, rfl, h, hl⟩ := hP
      obtain ⟨z_10, ez_10, hz_10⟩ := e_add (x := v6_3_0) (y := Int32.ofInt 1) rfl (b := 1) (by decide) (by omega) (by omega)
      refine lv_iinc (v := z_10) (lv' := [(5, .int z_10), (0, .ref h2), (1, .int p0), (2, .ref h5), (3, .ref h1), (4, .int v42_9_0)]) hx hb dX1_lesserPart_42 hl (k := 5) rfl ez_10 (by decide) rfl (fun ls_10 hl_10 => ?_)
      clear hl
      refine lv_goto (tgt := 6) hx hb dX1_lesserPart_45 (by decide) ?_
      exact ih_6 (z_10, v42_9_0) (by show (1001 - (z_10).toInt).toNat < (1001 - (v6_3_0).toInt).toNat; omega) _ _ _ ⟨⟨by omega, by omega⟩, ⟨by omega, by omega⟩, (q_re h [2, 3, 0, 1, 4, 5] rfl rfl), (lv_sub hl_10 [1, 2, 3, 4, 5, 0] rfl)⟩
    · skip
      refine lv_if_eq (tgt := 42) hx hb dX1_lesserPart_36 (by decide) (fun c_11 => ?_) (fun c_11 => ?_)
      · replace c_11 := i_eq (x := r_8) (y := 0) rfl (show (0 : Int32).toInt = 0 by decide) c_11
        exact J_42 _ _ _ _ ⟨v6_3_1, ⟨by omega, by omega⟩, rfl, h_8, (lv_sub hl [0, 1, 2, 3, 4, 5] rfl)⟩
      · replace c_11 := i_ne (x := r_8) (y := 0) rfl (show (0 : Int32).toInt = 0 by decide) c_11
        obtain ⟨z_12, ez_12, hz_12⟩ := e_any (v6_3_1 + Int32.ofInt 1)
        refine lv_iinc (v := z_12) (lv' := [(4, .int z_12), (0, .ref h2), (1, .int p0), (2, .ref h5), (3, .ref h1), (5, .int v6_3_0)]) hx hb dX1_lesserPart_39 hl (k := 4) rfl ez_12 (by decide) rfl (fun ls_12 hl_12 => ?_)
        clear hl
        exact J_42 _ _ _ _ ⟨z_12, ⟨by omega, by omega⟩, rfl, h_8, (lv_sub hl_12 [1, 2, 3, 4, 0, 5] rfl)⟩
set_option maxHeartbeats 4000000 in
set_option maxRecDepth 100000 in
theorem gX7_inTownOn_35 (l : Launch) (D : va_G) (cy : Nat → ClassId) (h0 : Nat) (h1 : Nat) (h2 : Nat) (h3 : Nat) (p0 : Int32) (p1 : Int32) (p2 : Int32) (p3 : Int32) (p4 : Int32) (w0 : Value) (w1 : Value) (w2 : Value) (w3 : Value) (w4 : Value) (f0 : Nat → Int32) (f1 : Nat → Int32) (p5 : Int32) (w5 : Value) (hp0 : 0 ≤ (p0).toInt ∧ (p0).toInt ≤ 60000) (hp1 : 1 ≤ (p1).toInt ∧ (p1).toInt ≤ 3) (hp2 : 0 ≤ (p2).toInt ∧ (p2).toInt ≤ 10) (hp3 : 0 ≤ (p3).toInt ∧ (p3).toInt ≤ 920) (hp4 : 0 ≤ (p4).toInt ∧ (p4).toInt ≤ 999) (hp5 : 0 ≤ (p5).toInt ∧ (p5).toInt ≤ 1023) (rf0 : RG f0 10 0 999) (rf1 : RG f1 10 0 1000000) (sz : Nat) : MI l yX7_inTownOn cX7_inTownOn 4 .int { frames := 0, cells := 0, slots := 0, locals := 0 } [.ref h3, .int p0] D cy [(h0, .inr (3, [.int p1, .int p2, .int p3, .int p4, w0, w1, w1, w2, .ref h1, .ref h2, w3, w4])), (h1, .inl (cy 1, 10, .inl f0)), (h2, .inl (cy 1, 10, .inl f1)), (h3, .inr (7, [.ref h0, .int p0, .int p5, w5]))] sz (fun r u => (0 ≤ r.toInt ∧ r.toInt ≤ 1023) ∧ True) (fun u => [(h0, .inr (3, [.int p1, .int p2, .int p3, .int p4, w0, w1, w1, w2, .ref h1, .ref h2, w3, w4])), (h1, .inl (cy 1, 10, .inl f0)), (h2, .inl (cy 1, 10, .inl f1)), (h3, .inr (7, [.ref h0, .int p0, .int p5, w5]))]) 0 0 := by
  refine q_ent (own := RX7) (by decide) rfl (Nat.le_of_ble_eq_true rfl) (fun p e s m below meth c ls X hr hlk hnm hK h hA hl => ?_)
  obtain ⟨hx, hb, hml, hown, ht⟩ := id X
  replace hl : lv_has ls 4 [(0, .ref h3), (1, .int p0)] := hl
  refine lv_iconst (v := 0) hx hb dX7_inTownOn_0 (by decide) ?_
  refine lv_istore_n (lv' := [(2, .int 0), (0, .ref h3), (1, .int p0)]) hx hb dX7_inTownOn_1 rfl hl (by decide) rfl (fun ls_1 hl_1 => ?_)
  clear hl
  refine lv_iconst (v := 0) hx hb dX7_inTownOn_2 (by decide) ?_
  refine lv_istore_n (lv' := [(3, .int 0), (2, .int 0), (0, .ref h3), (1, .int p0)]) hx hb dX7_inTownOn_3 rfl hl_1 (by decide) rfl (fun ls_2 hl_2 => ?_)
  clear hl_1
  refine q_wl (fun (q : Int32 × Int32) H locs ls => match q with | (v4_3_0, v4_3_1) => (0 ≤ (v4_3_0).toInt ∧ (v4_3_0).toInt ≤ 10) ∧ (0 ≤ (v4_3_1).toInt ∧ (v4_3_1).toInt ≤ 1023) ∧ qW D (va_A [(h0, .inr (3, [.int p1, .int p2, .int p3, .int p4, w0, w1, w1, w2, .ref h1, .ref h2, w3, w4])), (h1, .inl (cy 1, 10, .inl f0)), (h2, .inl (cy 1, 10, .inl f1)), (h3, .inr (7, [.ref h0, .int p0, .int p5, w5]))] sz) s.heap [(h0, .inr (3, [.int p1, .int p2, .int p3, .int p4, w0, w1, w1, w2, .ref h1, .ref h2, w3, w4])), (h1, .inl (cy 1, 10, .inl f0)), (h2, .inl (cy 1, 10, .inl f1)), (h3, .inr (7, [.ref h0, .int p0, .int p5, w5]))] H locs ∧ lv_has ls 4 [(0, .ref h3), (1, .int p0), (2, .int v4_3_1), (3, .int v4_3_0)]) (fun (q : Int32 × Int32) => match q with | (v4_3_0, v4_3_1) => (11 - (v4_3_0).toInt).toNat) (fun q_4 ih_4 H locs ls hP => ?_) (0, 0) ⟨⟨by decide +kernel, by decide +kernel⟩, ⟨by decide +kernel, by decide +kernel⟩, h, (lv_sub hl_2 [2, 3, 1, 0] rfl)⟩
  obtain ⟨v4_3_0, v4_3_1⟩ := q_4
  obtain ⟨hv4_3_0, hv4_3_1, h, hl⟩ := hP
  refine lv_iload_n hx hb dX7_inTownOn_4 rfl (lv_at hl 3 rfl) ?_
  refine lv_aload_n hx hb dX7_inTownOn_5 rfl (lv_at hl 0 rfl) ?_
  refine q_get X hK h 3 rfl rfl wf_7 0 (by decide) rfl wm_2_37 dX7_inTownOn_6 ?_
  refine q_get X hK h 0 rfl rfl wf_3 1 (by decide) rfl wm_1_83 dX7_inTownOn_9 ?_
  refine lv_icmp_ge (tgt := 53) hx hb dX7_inTownOn_12 (by decide) (fun c_4 => ?_) (fun c_4 => ?_)
  · replace c_4 := i_le (x := p2) (y := v4_3_0) rfl rfl c_4
    refine lv_iload_n hx hb dX7_inTownOn_53 rfl (lv_at hl 2 rfl) ?_
    refine lv_aload_n hx hb dX7_inTownOn_54 rfl (lv_at hl 0 rfl) ?_
    refine q_get X hK h 3 rfl rfl wf_7 2 (by decide) rfl wm_2_48 dX7_inTownOn_55 ?_
    refine lv_iconst (v := (-1)) hx hb dX7_inTownOn_58 (by decide) ?_
    refine lv_ixor hx hb dX7_inTownOn_59 ?_
    refine q_any (fun z_5 hz_5 => ?_)
    refine lv_iand hx hb dX7_inTownOn_60 ?_
    obtain ⟨z_6, ez_6, hz_6⟩ := e_and1 (x := v4_3_1) (y := z_5) rfl (by omega)
    refine q_c z_6 ez_6 ?_
    clear ez_6
    exact q_iret X hr hlk hK h rfl (fun _ => 0, fun _ _ => 0, fun _ _ => 0) ⟨⟨by omega, by omega⟩, trivial⟩ [0, 1, 2, 3] rfl rfl dX7_inTownOn_61 (Nat.le_of_ble_eq_true rfl) (Nat.le_of_ble_eq_true rfl)
  · replace c_4 := i_nle (x := p2) (y := v4_3_0) rfl rfl c_4
    refine lv_aload_n hx hb dX7_inTownOn_15 rfl (lv_at hl 0 rfl) ?_
    refine q_get X hK h 3 rfl rfl wf_7 0 (by decide) rfl wm_2_37 dX7_inTownOn_16 ?_
    refine q_get X hK h 0 rfl rfl wf_3 8 (by decide) rfl wm_1_106 dX7_inTownOn_19 ?_
    refine lv_iload_n hx hb dX7_inTownOn_22 rfl (lv_at hl 3 rfl) ?_
    refine q_iald X hK h 1 rfl (i_in rfl (by omega) (by omega)) dX7_inTownOn_23 ?_
    obtain ⟨z_7, ez_7, hz_7⟩ := rg_get rf0 (x := v4_3_0) rfl (by omega) (by omega)
    refine q_c z_7 ez_7 ?_
    clear ez_7
    refine lv_iload_n hx hb dX7_inTownOn_24 rfl (lv_at hl 1 rfl) ?_
    refine q_jn (pc2 := 47) (fun H locs ls st => ∃ v47_8_0 : Int32, (0 ≤ (v47_8_0).toInt ∧ (v47_8_0).toInt ≤ 1023) ∧ st = [] ∧ qW D (va_A [(h0, .inr (3, [.int p1, .int p2, .int p3, .int p4, w0, w1, w1, w2, .ref h1, .ref h2, w3, w4])), (h1, .inl (cy 1, 10, .inl f0)), (h2, .inl (cy 1, 10, .inl f1)), (h3, .inr (7, [.ref h0, .int p0, .int p5, w5]))] sz) s.heap [(h0, .inr (3, [.int p1, .int p2, .int p3, .int p4, w0, w1, w1, w2, .ref h1, .ref h2, w3, w4])), (h1, .inl (cy 1, 10, .inl f0)), (h2, .inl (cy 1, 10, .inl f1)), (h3, .inr (7, [.ref h0, .int p0, .int p5, w5]))] H locs ∧ lv_has ls 4 [(0, .ref h3), (1, .int p0), (2, .int v47_8_0), (3, .int v4_3_0)]) (fun H locs ls st hP => ?_) (fun J_47 => ?_)
    · obtain ⟨v47_8_0, hv47_8_0, rfl, h, hl⟩ := hP
      obtain ⟨z_9, ez_9, hz_9⟩ := e_add (x := v4_3_0) (y := Int32.ofInt 1) rfl (b := 1) (by decide) (by omega) (by omega)
      refine lv_iinc (v := z_9) (lv' := [(3, .int z_9), (0, .ref h3), (1, .int p0), (2, .int v47_8_0)]) hx hb dX7_inTownOn_47 hl (k := 3) rfl ez_9 (by decide) rfl (fun ls_9 hl_9 => ?_)
      clear hl
      refine lv_goto (tgt := 4) hx hb dX7_inTownOn_50 (by decide) ?_
      exact ih_4 (z_9, v47_8_0) (by show (11 - (z_9).toInt).toNat < (11 - (v4_3_0).toInt).toNat; omega) _ _ _ ⟨⟨by omega, by omega⟩, ⟨by omega, by omega⟩, h, (lv_sub hl_9 [1, 2, 3, 0] rfl)⟩
    · skip
      refine lv_icmp_gt (tgt := 47) hx hb dX7_inTownOn_25 (by decide) (fun c_10 => ?_) (fun c_10 => ?_)
      · replace c_10 := i_lt (x := p0) (y := z_7) rfl rfl c_10
        exact J_47 _ _ _ _ ⟨v4_3_1, ⟨by omega, by omega⟩, rfl, h, (lv_sub hl [0, 1, 2, 3] rfl)⟩
      · replace c_10 := i_nlt (x := p0) (y := z_7) rfl rfl c_10
        refine lv_iload_n hx hb dX7_inTownOn_28 rfl (lv_at hl 1 rfl) ?_
        refine lv_aload_n hx hb dX7_inTownOn_29 rfl (lv_at hl 0 rfl) ?_
        refine q_get X hK h 3 rfl rfl wf_7 0 (by decide) rfl wm_2_37 dX7_inTownOn_30 ?_
        refine q_get X hK h 0 rfl rfl wf_3 9 (by decide) rfl wm_1_110 dX7_inTownOn_33 ?_
        refine lv_iload_n hx hb dX7_inTownOn_36 rfl (lv_at hl 3 rfl) ?_
        refine q_iald X hK h 2 rfl (i_in rfl (by omega) (by omega)) dX7_inTownOn_37 ?_
        obtain ⟨z_11, ez_11, hz_11⟩ := rg_get rf1 (x := v4_3_0) rfl (by omega) (by omega)
        refine q_c z_11 ez_11 ?_
        clear ez_11
        refine lv_icmp_gt (tgt := 47) hx hb dX7_inTownOn_38 (by decide) (fun c_12 => ?_) (fun c_12 => ?_)
        · replace c_12 := i_lt (x := z_11) (y := p0) rfl rfl c_12
          exact J_47 _ _ _ _ ⟨v4_3_1, ⟨by omega, by omega⟩, rfl, h, (lv_sub hl [0, 1, 2, 3] rfl)⟩
        · replace c_12 := i_nlt (x := z_11) (y := p0) rfl rfl c_12
          refine lv_iload_n hx hb dX7_inTownOn_41 rfl (lv_at hl 2 rfl) ?_
          refine lv_iconst (v := 1) hx hb dX7_inTownOn_42 (by decide) ?_
          refine lv_iload_n hx hb dX7_inTownOn_43 rfl (lv_at hl 3 rfl) ?_
          refine lv_ishl hx hb dX7_inTownOn_44 ?_
          obtain ⟨z_13, ez_13, hz_13⟩ := e_shlk (p := v4_3_0) 9 (by decide) rfl (by omega) (by omega)
          refine q_c z_13 ez_13 ?_
          clear ez_13
          refine lv_ior hx hb dX7_inTownOn_45 ?_
          obtain ⟨z_14, ez_14, hz_14⟩ := e_or (x := v4_3_1) (y := z_13) 10 (by decide) rfl rfl (by omega) (by omega) (by omega) (by omega)
          refine q_c z_14 ez_14 ?_
          clear ez_14
          refine lv_istore_n (lv' := [(2, .int z_14), (0, .ref h3), (1, .int p0), (3, .int v4_3_0)]) hx hb dX7_inTownOn_46 rfl hl (by decide) rfl (fun ls_15 hl_15 => ?_)
          clear hl
          exact J_47 _ _ _ _ ⟨z_14, ⟨by omega, by omega⟩, rfl, h, (lv_sub hl_15 [1, 2, 0, 3] rfl)⟩
set_option maxHeartbeats 4000000 in
set_option maxRecDepth 100000 in
theorem gX7_inTown_36 (l : Launch) (D : va_G) (cy : Nat → ClassId) (h0 : Nat) (h1 : Nat) (h2 : Nat) (h3 : Nat) (p0 : Int32) (p1 : Int32) (p2 : Int32) (p3 : Int32) (w0 : Value) (w1 : Value) (w2 : Value) (w3 : Value) (w4 : Value) (f0 : Nat → Int32) (f1 : Nat → Int32) (p4 : Int32) (p5 : Int32) (w5 : Value) (hp0 : 1 ≤ (p0).toInt ∧ (p0).toInt ≤ 3) (hp1 : 0 ≤ (p1).toInt ∧ (p1).toInt ≤ 10) (hp2 : 0 ≤ (p2).toInt ∧ (p2).toInt ≤ 920) (hp3 : 0 ≤ (p3).toInt ∧ (p3).toInt ≤ 999) (hp4 : 0 ≤ (p4).toInt ∧ (p4).toInt ≤ 60000) (hp5 : 0 ≤ (p5).toInt ∧ (p5).toInt ≤ 1023) (rf0 : RG f0 10 0 999) (rf1 : RG f1 10 0 1000000) (sz : Nat) : MI l yX7_inTown cX7_inTown 1 .int { frames := 1, cells := 0, slots := 0, locals := 23 } [.ref h3] D cy [(h0, .inr (3, [.int p0, .int p1, .int p2, .int p3, w0, w1, w1, w2, .ref h1, .ref h2, w3, w4])), (h1, .inl (cy 1, 10, .inl f0)), (h2, .inl (cy 1, 10, .inl f1)), (h3, .inr (7, [.ref h0, .int p4, .int p5, w5]))] sz (fun r u => (0 ≤ r.toInt ∧ r.toInt ≤ 1023) ∧ True) (fun u => [(h0, .inr (3, [.int p0, .int p1, .int p2, .int p3, w0, w1, w1, w2, .ref h1, .ref h2, w3, w4])), (h1, .inl (cy 1, 10, .inl f0)), (h2, .inl (cy 1, 10, .inl f1)), (h3, .inr (7, [.ref h0, .int p4, .int p5, w5]))]) 0 0 := by
  refine q_ent (own := RX7) (by decide) rfl (Nat.le_of_ble_eq_true rfl) (fun p e s m below meth c ls X hr hlk hnm hK h hA hl => ?_)
  obtain ⟨hx, hb, hml, hown, ht⟩ := id X
  replace hl : lv_has ls 1 [(0, .ref h3)] := hl
  refine lv_aload_n hx hb dX7_inTown_0 rfl (lv_at hl 0 rfl) ?_
  refine lv_aload_n hx hb dX7_inTown_1 rfl (lv_at hl 0 rfl) ?_
  refine q_get X hK h 3 rfl rfl wf_7 1 (by decide) rfl wm_2_43 dX7_inTown_2 ?_
  refine q_callVi (rest := []) (wr := []) X hK hA h (fun sz => gX7_inTownOn_35 l D cy h0 h1 h2 h3 p4 p0 p1 p2 p3 w0 w1 w2 w3 w4 f0 f1 p5 w5 ⟨by omega, by omega⟩ ⟨by omega, by omega⟩ ⟨by omega, by omega⟩ ⟨by omega, by omega⟩ ⟨by omega, by omega⟩ ⟨by omega, by omega⟩ (rg_wide rf0 (by decide) (by decide)) (rg_wide rf1 (by decide) (by decide)) sz) wm_3_183 wm_3_186 wm_1_9 hd_X7_inTownOn wm_3_184 wm_3_185 (ci := 7) (q0 := 3) rfl rfl ⟨Nat.le_of_ble_eq_true rfl, Nat.le_of_ble_eq_true rfl⟩ hl.1 rfl (Nat.le_of_ble_eq_true rfl) dX7_inTown_5 ⟨Nat.le_of_ble_eq_true rfl, Nat.le_of_ble_eq_true rfl⟩ [0, 1, 2, 3] [] rfl rfl (by decide) rfl rfl (fun r_1 u_1 H locs w_1 h_1 => ?_)
  clear h
  obtain ⟨wr_1, _⟩ := w_1
  replace h_1 : qW D _ _ [(h0, .inr (3, [.int p0, .int p1, .int p2, .int p3, w0, w1, w1, w2, .ref h1, .ref h2, w3, w4])), (h1, .inl (cy 1, 10, .inl f0)), (h2, .inl (cy 1, 10, .inl f1)), (h3, .inr (7, [.ref h0, .int p4, .int p5, w5]))] _ _ := h_1
  exact q_iret X hr hlk hK h_1 rfl (fun _ => 0, fun _ _ => 0, fun _ _ => 0) ⟨⟨by omega, by omega⟩, trivial⟩ [0, 1, 2, 3] rfl rfl dX7_inTown_8 (Nat.le_of_ble_eq_true rfl) (Nat.le_of_ble_eq_true rfl)
set_option maxHeartbeats 4000000 in
set_option maxRecDepth 100000 in
theorem gX1_whomToTry_37 (l : Launch) (D : va_G) (cy : Nat → ClassId) (h0 : Nat) (h1 : Nat) (h2 : Nat) (h3 : Nat) (h4 : Nat) (h5 : Nat) (h6 : Nat) (h7 : Nat) (p0 : Int32) (p1 : Int32) (p2 : Int32) (p3 : Int32) (w0 : Value) (w1 : Value) (w2 : Value) (w3 : Value) (f0 : Nat → Int32) (f1 : Nat → Int32) (p4 : Int32) (p5 : Int32) (f2 : Nat → Int32) (w4 : Value) (w5 : Value) (p6 : Int32) (p7 : Int32) (p8 : Int32) (p9 : Int32) (f3 : Nat → Int32) (hp0 : 1 ≤ (p0).toInt ∧ (p0).toInt ≤ 3) (hp1 : 0 ≤ (p1).toInt ∧ (p1).toInt ≤ 10) (hp2 : 0 ≤ (p2).toInt ∧ (p2).toInt ≤ 920) (hp3 : 0 ≤ (p3).toInt ∧ (p3).toInt ≤ 999) (hp4 : 0 ≤ (p4).toInt ∧ (p4).toInt ≤ 60000) (hp5 : 0 ≤ (p5).toInt ∧ (p5).toInt ≤ 1023) (hp6 : (-1) ≤ (p6).toInt ∧ (p6).toInt ≤ 9) (hp7 : (-2147483648) ≤ (p7).toInt ∧ (p7).toInt ≤ 2147483647) (hp8 : (-2147483648) ≤ (p8).toInt ∧ (p8).toInt ≤ 2147483647) (hp9 : 0 ≤ (p9).toInt ∧ (p9).toInt ≤ 1000) (rf0 : RG f0 10 0 999) (rf1 : RG f1 10 0 1000000) (rf2 : RG f2 10 0 999) (rf3 : RG f3 1000 0 999) (sz : Nat) : MI l yX1_whomToTry cX1_whomToTry 8 .int { frames := 2, cells := 0, slots := 0, locals := 52 } [.ref h6, .ref h3, .ref h5] D cy [(h0, .inr (3, [.int p0, .int p1, .int p2, .int p3, .null, w0, w0, w1, .ref h1, .ref h2, w2, w3])), (h1, .inl (cy 1, 10, .inl f0)), (h2, .inl (cy 1, 10, .inl f1)), (h3, .inr (7, [.ref h0, .int p4, .int p5, .ref h4])), (h4, .inl (cy 1, 10, .inl f2)), (h5, .inr (6, [w4, w5])), (h6, .inr (1, [.int p6, .int p7, .int p8, .int p9, .ref h7])), (h7, .inl (cy 1, 1000, .inl f3))] sz (fun r u => ((-1) ≤ r.toInt ∧ r.toInt ≤ 9) ∧ True) (fun u => [(h0, .inr (3, [.int p0, .int p1, .int p2, .int p3, .null, w0, w0, w1, .ref h1, .ref h2, w2, w3])), (h1, .inl (cy 1, 10, .inl f0)), (h2, .inl (cy 1, 10, .inl f1)), (h3, .inr (7, [.ref h0, .int p4, .int p5, .ref h4])), (h4, .inl (cy 1, 10, .inl f2)), (h5, .inr (6, [w4, w5])), (h6, .inr (1, [.int p6, .int p7, .int p8, .int p9, .ref h7])), (h7, .inl (cy 1, 1000, .inl f3))]) 0 0 := by
  refine q_ent (own := RX1) (by decide) rfl (Nat.le_of_ble_eq_true rfl) (fun p e s m below meth c ls X hr hlk hnm hK h hA hl => ?_)
  obtain ⟨hx, hb, hml, hown, ht⟩ := id X
  replace hl : lv_has ls 8 [(0, .ref h6), (1, .ref h3), (2, .ref h5)] := hl
  refine lv_aload_n hx hb dX1_whomToTry_0 rfl (lv_at hl 1 rfl) ?_
  refine q_callVi (rest := []) (wr := [(h4, .inl (cy 1, 10, .inl f2)), (h5, .inr (6, [w4, w5])), (h6, .inr (1, [.int p6, .int p7, .int p8, .int p9, .ref h7])), (h7, .inl (cy 1, 1000, .inl f3))]) X hK hA h (fun sz => gX7_inTown_36 l D cy h0 h1 h2 h3 p0 p1 p2 p3 Value.null w0 w1 w2 w3 f0 f1 p4 p5 (.ref h4) ⟨by omega, by omega⟩ ⟨by omega, by omega⟩ ⟨by omega, by omega⟩ ⟨by omega, by omega⟩ ⟨by omega, by omega⟩ ⟨by omega, by omega⟩ (rg_wide rf0 (by decide) (by decide)) (rg_wide rf1 (by decide) (by decide)) sz) wm_5_83 wm_3_182 wm_1_9 hd_X7_inTown wm_3_180 wm_3_181 (ci := 7) (q0 := 3) rfl rfl ⟨Nat.le_of_ble_eq_true rfl, Nat.le_of_ble_eq_true rfl⟩ hl.1 rfl (Nat.le_of_ble_eq_true rfl) dX1_whomToTry_1 ⟨Nat.le_of_ble_eq_true rfl, Nat.le_of_ble_eq_true rfl⟩ [0, 1, 2, 3] [4, 5, 6, 7] rfl rfl (by decide) rfl rfl (fun r_1 u_1 H locs w_1 h_1 => ?_)
  clear h
  obtain ⟨wr_1, _⟩ := w_1
  replace h_1 : qW D _ _ [(h4, .inl (cy 1, 10, .inl f2)), (h5, .inr (6, [w4, w5])), (h6, .inr (1, [.int p6, .int p7, .int p8, .int p9, .ref h7])), (h7, .inl (cy 1, 1000, .inl f3)), (h0, .inr (3, [.int p0, .int p1, .int p2, .int p3, .null, w0, w0, w1, .ref h1, .ref h2, w2, w3])), (h1, .inl (cy 1, 10, .inl f0)), (h2, .inl (cy 1, 10, .inl f1)), (h3, .inr (7, [.ref h0, .int p4, .int p5, .ref h4]))] _ _ := h_1
  refine lv_iconst (v := (-1)) hx hb dX1_whomToTry_4 (by decide) ?_
  refine lv_ixor hx hb dX1_whomToTry_5 ?_
  refine q_any (fun z_2 hz_2 => ?_)
  refine lv_iconst (v := 1) hx hb dX1_whomToTry_6 (by decide) ?_
  refine lv_aload_n hx hb dX1_whomToTry_7 rfl (lv_at hl 0 rfl) ?_
  refine q_get X hK h_1 2 rfl rfl wf_1 0 (by decide) rfl wm_2_12 dX1_whomToTry_8 ?_
  refine lv_ishl hx hb dX1_whomToTry_11 ?_
  refine q_any (fun z_3 hz_3 => ?_)
  refine lv_iconst (v := (-1)) hx hb dX1_whomToTry_12 (by decide) ?_
  refine lv_ixor hx hb dX1_whomToTry_13 ?_
  refine q_any (fun z_4 hz_4 => ?_)
  refine lv_iand hx hb dX1_whomToTry_14 ?_
  refine q_any (fun z_5 hz_5 => ?_)
  refine lv_istore_n (lv' := [(3, .int z_5), (0, .ref h6), (1, .ref h3), (2, .ref h5)]) hx hb dX1_whomToTry_15 rfl hl (by decide) rfl (fun ls_6 hl_6 => ?_)
  clear hl
  refine lv_iconst (v := (-1)) hx hb dX1_whomToTry_16 (by decide) ?_
  refine lv_istore (lv' := [(4, .int (-1)), (3, .int z_5), (0, .ref h6), (1, .ref h3), (2, .ref h5)]) hx hb dX1_whomToTry_17 hl_6 (by decide) rfl (fun ls_7 hl_7 => ?_)
  clear hl_6
  refine lv_iconst (v := (-1)) hx hb dX1_whomToTry_19 (by decide) ?_
  refine lv_istore (lv' := [(5, .int (-1)), (4, .int (-1)), (3, .int z_5), (0, .ref h6), (1, .ref h3), (2, .ref h5)]) hx hb dX1_whomToTry_20 hl_7 (by decide) rfl (fun ls_8 hl_8 => ?_)
  clear hl_7
  refine lv_iconst (v := 0) hx hb dX1_whomToTry_22 (by decide) ?_
  refine lv_istore (lv' := [(6, .int 0), (5, .int (-1)), (4, .int (-1)), (3, .int z_5), (0, .ref h6), (1, .ref h3), (2, .ref h5)]) hx hb dX1_whomToTry_23 hl_8 (by decide) rfl (fun ls_9 hl_9 => ?_)
  clear hl_8
  refine q_wl (fun (q : Int32 × Int32 × Int32) H locs ls => match q with | (v25_10_0, v25_10_1, v25_10_2) => (0 ≤ (v25_10_0).toInt ∧ (v25_10_0).toInt ≤ 10) ∧ ((-1) ≤ (v25_10_1).toInt ∧ (v25_10_1).toInt ≤ 9) ∧ ((-1) ≤ (v25_10_2).toInt ∧ (v25_10_2).toInt ≤ 2147483647) ∧ qW D (va_A [(h0, .inr (3, [.int p0, .int p1, .int p2, .int p3, .null, w0, w0, w1, .ref h1, .ref h2, w2, w3])), (h1, .inl (cy 1, 10, .inl f0)), (h2, .inl (cy 1, 10, .inl f1)), (h3, .inr (7, [.ref h0, .int p4, .int p5, .ref h4])), (h4, .inl (cy 1, 10, .inl f2)), (h5, .inr (6, [w4, w5])), (h6, .inr (1, [.int p6, .int p7, .int p8, .int p9, .ref h7])), (h7, .inl (cy 1, 1000, .inl f3))] sz) s.heap [(h4, .inl (cy 1, 10, .inl f2)), (h5, .inr (6, [w4, w5])), (h6, .inr (1, [.int p6, .int p7, .int p8, .int p9, .ref h7])), (h7, .inl (cy 1, 1000, .inl f3)), (h0, .inr (3, [.int p0, .int p1, .int p2, .int p3, .null, w0, w0, w1, .ref h1, .ref h2, w2, w3])), (h1, .inl (cy 1, 10, .inl f0)), (h2, .inl (cy 1, 10, .inl f1)), (h3, .inr (7, [.ref h0, .int p4, .int p5, .ref h4]))] H locs ∧ lv_has ls 8 [(0, .ref h6), (1, .ref h3), (2, .ref h5), (3, .int z_5), (4, .int v25_10_1), (5, .int v25_10_2), (6, .int v25_10_0)]) (fun (q : Int32 × Int32 × Int32) => match q with | (v25_10_0, v25_10_1, v25_10_2) => (11 - (v25_10_0).toInt).toNat) (fun q_25 ih_25 H locs ls hP => ?_) (0, (-1), (-1)) ⟨⟨by decide +kernel, by decide +kernel⟩, ⟨by decide +kernel, by decide +kernel⟩, ⟨by decide +kernel, by decide +kernel⟩, h_1, (lv_sub hl_9 [4, 5, 6, 3, 2, 1, 0] rfl)⟩
  obtain ⟨v25_10_0, v25_10_1, v25_10_2⟩ := q_25
  obtain ⟨hv25_10_0, hv25_10_1, hv25_10_2, h, hl⟩ := hP
  refine lv_iload hx hb dX1_whomToTry_25 (lv_at hl 6 rfl) ?_
  refine lv_aload_n hx hb dX1_whomToTry_27 rfl (lv_at hl 1 rfl) ?_
  refine q_get X hK h 7 rfl rfl wf_7 0 (by decide) rfl wm_2_39 dX1_whomToTry_28 ?_
  refine q_get X hK h 4 rfl rfl wf_3 1 (by decide) rfl wm_1_81 dX1_whomToTry_31 ?_
  refine lv_icmp_ge (tgt := 78) hx hb dX1_whomToTry_34 (by decide) (fun c_11 => ?_) (fun c_11 => ?_)
  · replace c_11 := i_le (x := p1) (y := v25_10_0) rfl rfl c_11
    refine lv_iload hx hb dX1_whomToTry_78 (lv_at hl 4 rfl) ?_
    exact q_iret X hr hlk hK h rfl (fun _ => 0, fun _ _ => 0, fun _ _ => 0) ⟨⟨by omega, by omega⟩, trivial⟩ [4, 5, 6, 7, 0, 1, 2, 3] rfl rfl dX1_whomToTry_80 (Nat.le_of_ble_eq_true rfl) (Nat.le_of_ble_eq_true rfl)
  · replace c_11 := i_nle (x := p1) (y := v25_10_0) rfl rfl c_11
    refine lv_iload_n hx hb dX1_whomToTry_37 rfl (lv_at hl 3 rfl) ?_
    refine lv_iload hx hb dX1_whomToTry_38 (lv_at hl 6 rfl) ?_
    refine lv_ishr hx hb dX1_whomToTry_40 ?_
    refine q_any (fun z_12 hz_12 => ?_)
    refine lv_iconst (v := 1) hx hb dX1_whomToTry_41 (by decide) ?_
    refine lv_iand hx hb dX1_whomToTry_42 ?_
    obtain ⟨z_13, ez_13, hz_13⟩ := e_and2 (x := z_12) (y := 1) (show (1 : Int32).toInt = 1 by decide) (by omega)
    refine q_c z_13 ez_13 ?_
    clear ez_13
    refine lv_iconst (v := 1) hx hb dX1_whomToTry_43 (by decide) ?_
    refine q_jn (pc2 := 72) (fun H locs ls st => ∃ v72_14_0 : Int32, ∃ v72_14_1 : Int32, ((-1) ≤ (v72_14_0).toInt ∧ (v72_14_0).toInt ≤ 9) ∧ ((-1) ≤ (v72_14_1).toInt ∧ (v72_14_1).toInt ≤ 2147483647) ∧ st = [] ∧ qW D (va_A [(h0, .inr (3, [.int p0, .int p1, .int p2, .int p3, .null, w0, w0, w1, .ref h1, .ref h2, w2, w3])), (h1, .inl (cy 1, 10, .inl f0)), (h2, .inl (cy 1, 10, .inl f1)), (h3, .inr (7, [.ref h0, .int p4, .int p5, .ref h4])), (h4, .inl (cy 1, 10, .inl f2)), (h5, .inr (6, [w4, w5])), (h6, .inr (1, [.int p6, .int p7, .int p8, .int p9, .ref h7])), (h7, .inl (cy 1, 1000, .inl f3))] sz) s.heap [(h4, .inl (cy 1, 10, .inl f2)), (h5, .inr (6, [w4, w5])), (h6, .inr (1, [.int p6, .int p7, .int p8, .int p9, .ref h7])), (h7, .inl (cy 1, 1000, .inl f3)), (h0, .inr (3, [.int p0, .int p1, .int p2, .int p3, .null, w0, w0, w1, .ref h1, .ref h2, w2, w3])), (h1, .inl (cy 1, 10, .inl f0)), (h2, .inl (cy 1, 10, .inl f1)), (h3, .inr (7, [.ref h0, .int p4, .int p5, .ref h4]))] H locs ∧ lv_has ls 8 [(0, .ref h6), (1, .ref h3), (2, .ref h5), (3, .int z_5), (4, .int v72_14_0), (5, .int v72_14_1), (6, .int v25_10_0)]) (fun H locs ls st hP => ?_) (fun J_72 => ?_)
    · obtain ⟨v72_14_0, v72_14_1, hv72_14_0, hv72_14_1, rfl, h, hl⟩ := hP
      obtain ⟨z_15, ez_15, hz_15⟩ := e_add (x := v25_10_0) (y := Int32.ofInt 1) rfl (b := 1) (by decide) (by omega) (by omega)
      refine lv_iinc (v := z_15) (lv' := [(6, .int z_15), (0, .ref h6), (1, .ref h3), (2, .ref h5), (3, .int z_5), (4, .int v72_14_0), (5, .int v72_14_1)]) hx hb dX1_whomToTry_72 hl (k := 6) rfl ez_15 (by decide) rfl (fun ls_15 hl_15 => ?_)
      clear hl
      refine lv_goto (tgt := 25) hx hb dX1_whomToTry_75 (by decide) ?_
      exact ih_25 (z_15, v72_14_0, v72_14_1) (by show (11 - (z_15).toInt).toNat < (11 - (v25_10_0).toInt).toNat; omega) _ _ _ ⟨⟨by omega, by omega⟩, ⟨by omega, by omega⟩, ⟨by omega, by omega⟩, h, (lv_sub hl_15 [1, 2, 3, 4, 5, 6, 0] rfl)⟩
    · skip
      refine lv_icmp_ne (tgt := 72) hx hb dX1_whomToTry_44 (by decide) (fun c_16 => ?_) (fun c_16 => ?_)
      · replace c_16 := i_ne (x := z_13) (y := 1) rfl (show (1 : Int32).toInt = 1 by decide) c_16
        exact J_72 _ _ _ _ ⟨v25_10_1, v25_10_2, ⟨by omega, by omega⟩, ⟨by omega, by omega⟩, rfl, h, (lv_sub hl [0, 1, 2, 3, 4, 5, 6] rfl)⟩
      · replace c_16 := i_eq (x := z_13) (y := 1) rfl (show (1 : Int32).toInt = 1 by decide) c_16
        refine lv_aload_n hx hb dX1_whomToTry_47 rfl (lv_at hl 0 rfl) ?_
        refine lv_iload hx hb dX1_whomToTry_48 (lv_at hl 6 rfl) ?_
        refine lv_aload_n hx hb dX1_whomToTry_50 rfl (lv_at hl 1 rfl) ?_
        refine lv_aload_n hx hb dX1_whomToTry_51 rfl (lv_at hl 2 rfl) ?_
        refine q_callVi (rest := []) (wr := [(h1, .inl (cy 1, 10, .inl f0)), (h2, .inl (cy 1, 10, .inl f1))]) X hK hA h (fun sz => gX1_lesserPart_34 l D cy h4 h5 h6 h7 h0 h3 v25_10_0 f2 w4 w5 p6 p7 p8 p9 f3 p0 p1 p2 p3 w0 w1 (.ref h1) (.ref h2) w2 w3 p4 p5 ⟨by omega, by omega⟩ ⟨by omega, by omega⟩ (i_rng _) (i_rng _) ⟨by omega, by omega⟩ ⟨by omega, by omega⟩ ⟨by omega, by omega⟩ ⟨by omega, by omega⟩ ⟨by omega, by omega⟩ ⟨by omega, by omega⟩ ⟨by omega, by omega⟩ (rg_wide rf2 (by decide) (by decide)) (rg_wide rf3 (by decide) (by decide)) sz) wm_5_97 wm_5_100 wm_1_8 hd_X1_lesserPart wm_5_99 wp_4_1 (ci := 1) (q0 := 2) rfl rfl ⟨Nat.le_of_ble_eq_true rfl, Nat.le_of_ble_eq_true rfl⟩ hl.1 rfl (Nat.le_of_ble_eq_true rfl) dX1_whomToTry_52 ⟨Nat.le_of_ble_eq_true rfl, Nat.le_of_ble_eq_true rfl⟩ [0, 1, 2, 3, 4, 7] [5, 6] rfl rfl (by decide) rfl rfl (fun r_17 u_17 H locs w_17 h_17 => ?_)
        clear h
        obtain ⟨wr_17, _⟩ := w_17
        replace h_17 : qW D _ _ [(h1, .inl (cy 1, 10, .inl f0)), (h2, .inl (cy 1, 10, .inl f1)), (h4, .inl (cy 1, 10, .inl f2)), (h5, .inr (6, [w4, w5])), (h6, .inr (1, [.int p6, .int p7, .int p8, .int p9, .ref h7])), (h7, .inl (cy 1, 1000, .inl f3)), (h0, .inr (3, [.int p0, .int p1, .int p2, .int p3, .null, w0, w0, w1, .ref h1, .ref h2, w2, w3])), (h3, .inr (7, [.ref h0, .int p4, .int p5, .ref h4]))] _ _ := h_17
        refine lv_istore (lv' := [(7, .int r_17), (0, .ref h6), (1, .ref h3), (2, .ref h5), (3, .int z_5), (4, .int v25_10_1), (5, .int v25_10_2), (6, .int v25_10_0)]) hx hb dX1_whomToTry_55 hl (by decide) rfl (fun ls_18 hl_18 => ?_)
        clear hl
        refine lv_iload hx hb dX1_whomToTry_57 (lv_at hl_18 0 rfl) ?_
        refine lv_iload hx hb dX1_whomToTry_59 (lv_at hl_18 6 rfl) ?_
        refine lv_icmp_le (tgt := 72) hx hb dX1_whomToTry_61 (by decide) (fun c_19 => ?_) (fun c_19 => ?_)
        · replace c_19 := i_le (x := r_17) (y := v25_10_2) rfl rfl c_19
          exact J_72 _ _ _ _ ⟨v25_10_1, v25_10_2, ⟨by omega, by omega⟩, ⟨by omega, by omega⟩, rfl, (q_re h_17 [2, 3, 4, 5, 6, 0, 1, 7] rfl rfl), (lv_sub hl_18 [1, 2, 3, 4, 5, 6, 7] rfl)⟩
        · replace c_19 := i_nle (x := r_17) (y := v25_10_2) rfl rfl c_19
          refine lv_iload hx hb dX1_whomToTry_64 (lv_at hl_18 0 rfl) ?_
          refine lv_istore (lv' := [(5, .int r_17), (7, .int r_17), (0, .ref h6), (1, .ref h3), (2, .ref h5), (3, .int z_5), (4, .int v25_10_1), (6, .int v25_10_0)]) hx hb dX1_whomToTry_66 hl_18 (by decide) rfl (fun ls_20 hl_20 => ?_)
          clear hl_18
          refine lv_iload hx hb dX1_whomToTry_68 (lv_at hl_20 7 rfl) ?_
          refine lv_istore (lv' := [(4, .int v25_10_0), (5, .int r_17), (7, .int r_17), (0, .ref h6), (1, .ref h3), (2, .ref h5), (3, .int z_5), (6, .int v25_10_0)]) hx hb dX1_whomToTry_70 hl_20 (by decide) rfl (fun ls_21 hl_21 => ?_)
          clear hl_20
          exact J_72 _ _ _ _ ⟨v25_10_0, r_17, ⟨by omega, by omega⟩, ⟨by omega, by omega⟩, rfl, (q_re h_17 [2, 3, 4, 5, 6, 0, 1, 7] rfl rfl), (lv_sub hl_21 [3, 4, 5, 6, 0, 1, 7] rfl)⟩
set_option maxHeartbeats 4000000 in
set_option maxRecDepth 100000 in
theorem gX0_redraw_38 (l : Launch) (D : va_G) (cy : Nat → ClassId) (h0 : Nat) (h1 : Nat) (p0 : Int32) (p1 : Int32) (p2 : Int32) (w0 : Value) (w1 : Value) (f0 : Nat → Int32) (hp0 : 0 ≤ (p0).toInt ∧ (p0).toInt ≤ 9) (hp1 : 0 ≤ (p1).toInt ∧ (p1).toInt ≤ 1023) (hp2 : 0 ≤ (p2).toInt ∧ (p2).toInt ≤ 10) (rf0 : RG f0 10 0 1023) (sz : Nat) : MV l yX0_redraw cX0_redraw 4 { frames := 0, cells := 0, slots := 0, locals := 0 } [.ref h0, .int p0, .int p1] D cy [(h0, .inr (0, [.int p2, .ref h1, w0, w1])), (h1, .inl (cy 1, 10, .inl f0))] sz (fun u => True) (fun u => [(h0, .inr (0, [.int p2, .ref h1, w0, w1])), (h1, .inl (cy 1, 10, .inl (u.2.1 0)))]) 0 0 := by
  refine q_ent (own := RX0) (by decide) rfl (Nat.le_of_ble_eq_true rfl) (fun p e s m below meth c ls X hr hlk hnm hK h hA hl => ?_)
  obtain ⟨hx, hb, hml, hown, ht⟩ := id X
  replace hl : lv_has ls 4 [(0, .ref h0), (1, .int p0), (2, .int p1)] := hl
  refine lv_aload_n hx hb dX0_redraw_0 rfl (lv_at hl 0 rfl) ?_
  refine q_get X hK h 0 rfl rfl wf_0 1 (by decide) rfl wm_1_199 dX0_redraw_1 ?_
  refine lv_iload_n hx hb dX0_redraw_4 rfl (lv_at hl 1 rfl) ?_
  refine lv_iload_n hx hb dX0_redraw_5 rfl (lv_at hl 2 rfl) ?_
  refine q_iast X hK h 1 rfl (i_in rfl (by omega) (by omega)) dX0_redraw_6 (fun H locs h_2 => ?_)
  clear h
  replace h_2 : qW D _ _ [(h0, .inr (0, [.int p2, .ref h1, w0, w1])), (h1, .inl (cy 1, 10, .inl (upd f0 (Int32.toNatClampNeg p0) p1)))] _ _ := h_2
  obtain ⟨F_1, eF_1, rF_1⟩ := rg_upd rf0 (Int32.toNatClampNeg p0) (x := p1) rfl (by omega) (by omega)
  rw [eF_1] at h_2
  clear eF_1
  refine lv_iconst (v := 0) hx hb dX0_redraw_7 (by decide) ?_
  refine lv_istore_n (lv' := [(3, .int 0), (0, .ref h0), (1, .int p0), (2, .int p1)]) hx hb dX0_redraw_8 rfl hl (by decide) rfl (fun ls_3 hl_3 => ?_)
  clear hl
  refine q_wl (fun (v9_4_0 : Int32) H locs ls => ∃ v9_4_1 : Nat → Int32, (0 ≤ (v9_4_0).toInt ∧ (v9_4_0).toInt ≤ 10) ∧ qW D (va_A [(h0, .inr (0, [.int p2, .ref h1, w0, w1])), (h1, .inl (cy 1, 10, .inl f0))] sz) s.heap [(h0, .inr (0, [.int p2, .ref h1, w0, w1])), (h1, .inl (cy 1, 10, .inl v9_4_1))] H locs ∧ lv_has ls 4 [(0, .ref h0), (1, .int p0), (2, .int p1), (3, .int v9_4_0)]) (fun (v9_4_0 : Int32) => (11 - (v9_4_0).toInt).toNat) (fun q_9 ih_9 H locs ls hP => ?_) 0 ⟨F_1, ⟨by decide +kernel, by decide +kernel⟩, h_2, (lv_sub hl_3 [1, 2, 3, 0] rfl)⟩
  obtain ⟨v9_4_0, rfl⟩ : ∃ z, z = q_9 := ⟨_, rfl⟩
  obtain ⟨v9_4_1, hv9_4_0, h, hl⟩ := hP
  refine lv_iload_n hx hb dX0_redraw_9 rfl (lv_at hl 3 rfl) ?_
  refine lv_aload_n hx hb dX0_redraw_10 rfl (lv_at hl 0 rfl) ?_
  refine q_get X hK h 0 rfl rfl wf_0 0 (by decide) rfl wm_1_198 dX0_redraw_11 ?_
  refine lv_icmp_ge (tgt := 54) hx hb dX0_redraw_14 (by decide) (fun c_5 => ?_) (fun c_5 => ?_)
  · replace c_5 := i_le (x := p2) (y := v9_4_0) rfl rfl c_5
    exact q_vret X hr hlk hK h (fun _ => 0, fun k => List.getD [v9_4_1] k (fun _ => 0), fun _ _ => 0) trivial [0, 1] rfl rfl dX0_redraw_54 (Nat.le_of_ble_eq_true rfl) (Nat.le_of_ble_eq_true rfl)
  · replace c_5 := i_nle (x := p2) (y := v9_4_0) rfl rfl c_5
    refine lv_iload_n hx hb dX0_redraw_17 rfl (lv_at hl 3 rfl) ?_
    refine lv_iload_n hx hb dX0_redraw_18 rfl (lv_at hl 1 rfl) ?_
    refine q_jn (pc2 := 48) (fun H locs ls st => ∃ v48_6_0 : Nat → Int32, st = [] ∧ qW D (va_A [(h0, .inr (0, [.int p2, .ref h1, w0, w1])), (h1, .inl (cy 1, 10, .inl f0))] sz) s.heap [(h0, .inr (0, [.int p2, .ref h1, w0, w1])), (h1, .inl (cy 1, 10, .inl v48_6_0))] H locs ∧ lv_has ls 4 [(0, .ref h0), (1, .int p0), (2, .int p1), (3, .int v9_4_0)]) (fun H locs ls st hP => ?_) (fun J_48 => ?_)
    · obtain ⟨v48_6_0, rfl, h, hl⟩ := hP
      obtain ⟨z_7, ez_7, hz_7⟩ := e_add (x := v9_4_0) (y := Int32.ofInt 1) rfl (b := 1) (by decide) (by omega) (by omega)
      refine lv_iinc (v := z_7) (lv' := [(3, .int z_7), (0, .ref h0), (1, .int p0), (2, .int p1)]) hx hb dX0_redraw_48 hl (k := 3) rfl ez_7 (by decide) rfl (fun ls_7 hl_7 => ?_)
      clear hl
      refine lv_goto (tgt := 9) hx hb dX0_redraw_51 (by decide) ?_
      exact ih_9 z_7 (by show (11 - (z_7).toInt).toNat < (11 - (v9_4_0).toInt).toNat; omega) _ _ _ ⟨v48_6_0, ⟨by omega, by omega⟩, h, (lv_sub hl_7 [1, 2, 3, 0] rfl)⟩
    · skip
      refine lv_icmp_eq (tgt := 48) hx hb dX0_redraw_19 (by decide) (fun c_8 => ?_) (fun c_8 => ?_)
      · replace c_8 := i_eq (x := v9_4_0) (y := p0) rfl rfl c_8
        exact J_48 _ _ _ _ ⟨v9_4_1, rfl, h, (lv_sub hl [0, 1, 2, 3] rfl)⟩
      · replace c_8 := i_ne (x := v9_4_0) (y := p0) rfl rfl c_8
        refine lv_aload_n hx hb dX0_redraw_22 rfl (lv_at hl 0 rfl) ?_
        refine q_get X hK h 0 rfl rfl wf_0 1 (by decide) rfl wm_1_199 dX0_redraw_23 ?_
        refine lv_iload_n hx hb dX0_redraw_26 rfl (lv_at hl 3 rfl) ?_
        refine lv_aload_n hx hb dX0_redraw_27 rfl (lv_at hl 0 rfl) ?_
        refine q_get X hK h 0 rfl rfl wf_0 1 (by decide) rfl wm_1_199 dX0_redraw_28 ?_
        refine lv_iload_n hx hb dX0_redraw_31 rfl (lv_at hl 3 rfl) ?_
        refine q_iald X hK h 1 rfl (i_in rfl (by omega) (by omega)) dX0_redraw_32 ?_
        refine q_any (fun z_9 hz_9 => ?_)
        refine lv_iconst (v := 1) hx hb dX0_redraw_33 (by decide) ?_
        refine lv_iload_n hx hb dX0_redraw_34 rfl (lv_at hl 1 rfl) ?_
        refine lv_ishl hx hb dX0_redraw_35 ?_
        obtain ⟨z_10, ez_10, hz_10⟩ := e_shlk (p := p0) 9 (by decide) rfl (by omega) (by omega)
        refine q_c z_10 ez_10 ?_
        clear ez_10
        refine lv_iconst (v := (-1)) hx hb dX0_redraw_36 (by decide) ?_
        refine lv_ixor hx hb dX0_redraw_37 ?_
        refine q_any (fun z_11 hz_11 => ?_)
        refine lv_iand hx hb dX0_redraw_38 ?_
        refine q_any (fun z_12 hz_12 => ?_)
        refine lv_iload_n hx hb dX0_redraw_39 rfl (lv_at hl 2 rfl) ?_
        refine lv_iload_n hx hb dX0_redraw_40 rfl (lv_at hl 3 rfl) ?_
        refine lv_ishr hx hb dX0_redraw_41 ?_
        obtain ⟨z_13, ez_13, hz_13⟩ := e_shr (x := p1) v9_4_0 rfl (by omega)
        refine q_c z_13 ez_13 ?_
        clear ez_13
        refine lv_iconst (v := 1) hx hb dX0_redraw_42 (by decide) ?_
        refine lv_iand hx hb dX0_redraw_43 ?_
        obtain ⟨z_14, ez_14, hz_14⟩ := e_and2 (x := z_13) (y := 1) (show (1 : Int32).toInt = 1 by decide) (by omega)
        refine q_c z_14 ez_14 ?_
        clear ez_14
        refine lv_iload_n hx hb dX0_redraw_44 rfl (lv_at hl 1 rfl) ?_
        refine lv_ishl hx hb dX0_redraw_45 ?_
        refine q_any (fun z_15 hz_15 => ?_)
        refine lv_ior hx hb dX0_redraw_46 ?_
        refine q_any (fun z_16 hz_16 => ?_)
        refine q_iast X hK h 1 rfl (i_in rfl (by omega) (by omega)) dX0_redraw_47 (fun H locs h_18 => ?_)
        clear h
        replace h_18 : qW D _ _ [(h0, .inr (0, [.int p2, .ref h1, w0, w1])), (h1, .inl (cy 1, 10, .inl (upd v9_4_1 (Int32.toNatClampNeg v9_4_0) z_16)))] _ _ := h_18
        obtain ⟨F_17, eF_17⟩ : ∃ z, (upd v9_4_1 (Int32.toNatClampNeg v9_4_0) z_16) = z := ⟨_, rfl⟩
        rw [eF_17] at h_18
        clear eF_17
        exact J_48 _ _ _ _ ⟨F_17, rfl, h_18, (lv_sub hl [0, 1, 2, 3] rfl)⟩
set_option maxHeartbeats 4000000 in
set_option maxRecDepth 100000 in
theorem gX0_twosOf_39 (l : Launch) (D : va_G) (cy : Nat → ClassId) (h0 : Nat) (h1 : Nat) (p0 : Int32) (p1 : Int32) (w0 : Value) (w1 : Value) (f0 : Nat → Int32) (hp0 : 0 ≤ (p0).toInt ∧ (p0).toInt ≤ 1023) (hp1 : 0 ≤ (p1).toInt ∧ (p1).toInt ≤ 10) (sz : Nat) : MI l yX0_twosOf cX0_twosOf 2 .int { frames := 0, cells := 0, slots := 0, locals := 0 } [.ref h0, .int p0] D cy [(h0, .inr (0, [.int p1, w0, w1, .ref h1])), (h1, .inl (cy 1, 1024, .inl f0))] sz (fun r u => ((-2147483648) ≤ r.toInt ∧ r.toInt ≤ 2147483647) ∧ True) (fun u => [(h0, .inr (0, [.int p1, w0, w1, .ref h1])), (h1, .inl (cy 1, 1024, .inl f0))]) 0 0 := by
  refine q_ent (own := RX0) (by decide) rfl (Nat.le_of_ble_eq_true rfl) (fun p e s m below meth c ls X hr hlk hnm hK h hA hl => ?_)
  obtain ⟨hx, hb, hml, hown, ht⟩ := id X
  replace hl : lv_has ls 2 [(0, .ref h0), (1, .int p0)] := hl
  refine lv_aload_n hx hb dX0_twosOf_0 rfl (lv_at hl 0 rfl) ?_
  refine q_get X hK h 0 rfl rfl wf_0 3 (by decide) rfl wm_1_203 dX0_twosOf_1 ?_
  refine lv_iload_n hx hb dX0_twosOf_4 rfl (lv_at hl 1 rfl) ?_
  refine q_iald X hK h 1 rfl (i_in rfl (by omega) (by omega)) dX0_twosOf_5 ?_
  refine q_any (fun z_1 hz_1 => ?_)
  refine lv_sipush (v := 1000) hx hb dX0_twosOf_6 (by decide) ?_
  refine lv_idiv hx hb dX0_twosOf_9 (by decide) ?_
  refine q_any (fun z_2 hz_2 => ?_)
  exact q_iret X hr hlk hK h rfl (fun _ => 0, fun _ _ => 0, fun _ _ => 0) ⟨⟨by omega, by omega⟩, trivial⟩ [0, 1] rfl rfl dX0_twosOf_10 (Nat.le_of_ble_eq_true rfl) (Nat.le_of_ble_eq_true rfl)
set_option maxHeartbeats 4000000 in
set_option maxRecDepth 100000 in
theorem gX0_opposeAllOf_40 (l : Launch) (D : va_G) (cy : Nat → ClassId) (h0 : Nat) (h1 : Nat) (p0 : Int32) (p1 : Int32) (p2 : Int32) (w0 : Value) (w1 : Value) (f0 : Nat → Int32) (hp0 : 0 ≤ (p0).toInt ∧ (p0).toInt ≤ 1023) (hp1 : 0 ≤ (p1).toInt ∧ (p1).toInt ≤ 1023) (hp2 : 0 ≤ (p2).toInt ∧ (p2).toInt ≤ 10) (rf0 : RG f0 10 0 1023) (sz : Nat) : MI l yX0_opposeAllOf cX0_opposeAllOf 4 .boolean { frames := 0, cells := 0, slots := 0, locals := 0 } [.ref h0, .int p0, .int p1] D cy [(h0, .inr (0, [.int p2, .ref h1, w0, w1])), (h1, .inl (cy 1, 10, .inl f0))] sz (fun r u => (0 ≤ r.toInt ∧ r.toInt ≤ 1) ∧ True) (fun u => [(h0, .inr (0, [.int p2, .ref h1, w0, w1])), (h1, .inl (cy 1, 10, .inl f0))]) 0 0 := by
  refine q_ent (own := RX0) (by decide) rfl (Nat.le_of_ble_eq_true rfl) (fun p e s m below meth c ls X hr hlk hnm hK h hA hl => ?_)
  obtain ⟨hx, hb, hml, hown, ht⟩ := id X
  replace hl : lv_has ls 4 [(0, .ref h0), (1, .int p0), (2, .int p1)] := hl
  refine lv_iconst (v := 0) hx hb dX0_opposeAllOf_0 (by decide) ?_
  refine lv_istore_n (lv' := [(3, .int 0), (0, .ref h0), (1, .int p0), (2, .int p1)]) hx hb dX0_opposeAllOf_1 rfl hl (by decide) rfl (fun ls_1 hl_1 => ?_)
  clear hl
  refine q_wl (fun (v2_2_0 : Int32) H locs ls => (0 ≤ (v2_2_0).toInt ∧ (v2_2_0).toInt ≤ 10) ∧ qW D (va_A [(h0, .inr (0, [.int p2, .ref h1, w0, w1])), (h1, .inl (cy 1, 10, .inl f0))] sz) s.heap [(h0, .inr (0, [.int p2, .ref h1, w0, w1])), (h1, .inl (cy 1, 10, .inl f0))] H locs ∧ lv_has ls 4 [(0, .ref h0), (1, .int p0), (2, .int p1), (3, .int v2_2_0)]) (fun (v2_2_0 : Int32) => (11 - (v2_2_0).toInt).toNat) (fun q_2 ih_2 H locs ls hP => ?_) 0 ⟨⟨by decide +kernel, by decide +kernel⟩, h, (lv_sub hl_1 [1, 2, 3, 0] rfl)⟩
  obtain ⟨v2_2_0, rfl⟩ : ∃ z, z = q_2 := ⟨_, rfl⟩
  obtain ⟨hv2_2_0, h, hl⟩ := hP
  refine lv_iload_n hx hb dX0_opposeAllOf_2 rfl (lv_at hl 3 rfl) ?_
  refine lv_aload_n hx hb dX0_opposeAllOf_3 rfl (lv_at hl 0 rfl) ?_
  refine q_get X hK h 0 rfl rfl wf_0 0 (by decide) rfl wm_1_198 dX0_opposeAllOf_4 ?_
  refine lv_icmp_ge (tgt := 38) hx hb dX0_opposeAllOf_7 (by decide) (fun c_3 => ?_) (fun c_3 => ?_)
  · replace c_3 := i_le (x := p2) (y := v2_2_0) rfl rfl c_3
    refine lv_iconst (v := 1) hx hb dX0_opposeAllOf_38 (by decide) ?_
    exact q_iret X hr hlk hK h rfl (fun _ => 0, fun _ _ => 0, fun _ _ => 0) ⟨⟨by decide +kernel, by decide +kernel⟩, trivial⟩ [0, 1] rfl rfl dX0_opposeAllOf_39 (Nat.le_of_ble_eq_true rfl) (Nat.le_of_ble_eq_true rfl)
  · replace c_3 := i_nle (x := p2) (y := v2_2_0) rfl rfl c_3
    refine lv_iload_n hx hb dX0_opposeAllOf_10 rfl (lv_at hl 1 rfl) ?_
    refine lv_iload_n hx hb dX0_opposeAllOf_11 rfl (lv_at hl 3 rfl) ?_
    refine lv_ishr hx hb dX0_opposeAllOf_12 ?_
    obtain ⟨z_4, ez_4, hz_4⟩ := e_shr (x := p0) v2_2_0 rfl (by omega)
    refine q_c z_4 ez_4 ?_
    clear ez_4
    refine lv_iconst (v := 1) hx hb dX0_opposeAllOf_13 (by decide) ?_
    refine lv_iand hx hb dX0_opposeAllOf_14 ?_
    obtain ⟨z_5, ez_5, hz_5⟩ := e_and2 (x := z_4) (y := 1) (show (1 : Int32).toInt = 1 by decide) (by omega)
    refine q_c z_5 ez_5 ?_
    clear ez_5
    refine lv_iconst (v := 1) hx hb dX0_opposeAllOf_15 (by decide) ?_
    refine q_jn (pc2 := 32) (fun H locs ls st => st = [] ∧ qW D (va_A [(h0, .inr (0, [.int p2, .ref h1, w0, w1])), (h1, .inl (cy 1, 10, .inl f0))] sz) s.heap [(h0, .inr (0, [.int p2, .ref h1, w0, w1])), (h1, .inl (cy 1, 10, .inl f0))] H locs ∧ lv_has ls 4 [(0, .ref h0), (1, .int p0), (2, .int p1), (3, .int v2_2_0)]) (fun H locs ls st hP => ?_) (fun J_32 => ?_)
    · obtain ⟨rfl, h, hl⟩ := hP
      obtain ⟨z_7, ez_7, hz_7⟩ := e_add (x := v2_2_0) (y := Int32.ofInt 1) rfl (b := 1) (by decide) (by omega) (by omega)
      refine lv_iinc (v := z_7) (lv' := [(3, .int z_7), (0, .ref h0), (1, .int p0), (2, .int p1)]) hx hb dX0_opposeAllOf_32 hl (k := 3) rfl ez_7 (by decide) rfl (fun ls_7 hl_7 => ?_)
      clear hl
      refine lv_goto (tgt := 2) hx hb dX0_opposeAllOf_35 (by decide) ?_
      exact ih_2 z_7 (by show (11 - (z_7).toInt).toNat < (11 - (v2_2_0).toInt).toNat; omega) _ _ _ ⟨⟨by omega, by omega⟩, h, (lv_sub hl_7 [1, 2, 3, 0] rfl)⟩
    · skip
      refine lv_icmp_ne (tgt := 32) hx hb dX0_opposeAllOf_16 (by decide) (fun c_8 => ?_) (fun c_8 => ?_)
      · replace c_8 := i_ne (x := z_5) (y := 1) rfl (show (1 : Int32).toInt = 1 by decide) c_8
        exact J_32 _ _ _ _ ⟨rfl, h, (lv_sub hl [0, 1, 2, 3] rfl)⟩
      · replace c_8 := i_eq (x := z_5) (y := 1) rfl (show (1 : Int32).toInt = 1 by decide) c_8
        refine lv_aload_n hx hb dX0_opposeAllOf_19 rfl (lv_at hl 0 rfl) ?_
        refine q_get X hK h 0 rfl rfl wf_0 1 (by decide) rfl wm_1_199 dX0_opposeAllOf_20 ?_
        refine lv_iload_n hx hb dX0_opposeAllOf_23 rfl (lv_at hl 3 rfl) ?_
        refine q_iald X hK h 1 rfl (i_in rfl (by omega) (by omega)) dX0_opposeAllOf_24 ?_
        obtain ⟨z_9, ez_9, hz_9⟩ := rg_get rf0 (x := v2_2_0) rfl (by omega) (by omega)
        refine q_c z_9 ez_9 ?_
        clear ez_9
        refine lv_iload_n hx hb dX0_opposeAllOf_25 rfl (lv_at hl 2 rfl) ?_
        refine lv_iand hx hb dX0_opposeAllOf_26 ?_
        obtain ⟨z_10, ez_10, hz_10⟩ := e_and2 (x := z_9) (y := p1) rfl (by omega)
        refine q_c z_10 ez_10 ?_
        clear ez_10
        refine lv_if_ne (tgt := 32) hx hb dX0_opposeAllOf_27 (by decide) (fun c_11 => ?_) (fun c_11 => ?_)
        · replace c_11 := i_ne (x := z_10) (y := 0) rfl (show (0 : Int32).toInt = 0 by decide) c_11
          exact J_32 _ _ _ _ ⟨rfl, h, (lv_sub hl [0, 1, 2, 3] rfl)⟩
        · replace c_11 := i_eq (x := z_10) (y := 0) rfl (show (0 : Int32).toInt = 0 by decide) c_11
          refine lv_iconst (v := 0) hx hb dX0_opposeAllOf_30 (by decide) ?_
          exact q_iret X hr hlk hK h rfl (fun _ => 0, fun _ _ => 0, fun _ _ => 0) ⟨⟨by decide +kernel, by decide +kernel⟩, trivial⟩ [0, 1] rfl rfl dX0_opposeAllOf_31 (Nat.le_of_ble_eq_true rfl) (Nat.le_of_ble_eq_true rfl)
set_option maxHeartbeats 4000000 in
set_option maxRecDepth 100000 in
theorem gJ6_bitCount_0f7a4_41 (l : Launch) (D : va_G) (cy : Nat → ClassId) (p0 : Int32) (hp0 : (-2147483648) ≤ (p0).toInt ∧ (p0).toInt ≤ 2147483647) (sz : Nat) : MI l yJ6_bitCount_0f7a4 cJ6_bitCount_0f7a4 1 .int { frames := 0, cells := 0, slots := 0, locals := 0 } [.int p0] D cy [] sz (fun r u => r = bcx p0 ∧ True) (fun u => []) 0 0 := by
  refine q_ent (own := RJ6) (by decide) rfl (Nat.le_of_ble_eq_true rfl) (fun p e s m below meth c ls X hr hlk hnm hK h hA hl => ?_)
  obtain ⟨hx, hb, hml, hown, ht⟩ := id X
  replace hl : lv_has ls 1 [(0, .int p0)] := hl
  refine lv_iload_n hx hb dJ6_bitCount_0f7a4_0 rfl (lv_at hl 0 rfl) ?_
  refine lv_iload_n hx hb dJ6_bitCount_0f7a4_1 rfl (lv_at hl 0 rfl) ?_
  refine lv_iconst (v := 1) hx hb dJ6_bitCount_0f7a4_2 (by decide) ?_
  refine lv_iushr hx hb dJ6_bitCount_0f7a4_3 rfl ?_
  refine lv_ldcw hx hb hown (ht _ wm_4_60) dJ6_bitCount_0f7a4_4 ?_
  refine lv_iand hx hb dJ6_bitCount_0f7a4_7 ?_
  refine lv_isub hx hb dJ6_bitCount_0f7a4_8 ?_
  refine lv_istore_n (lv' := [(0, .int (p0 - ((((p0).toUInt32 >>> ((1 : Int32).toUInt32 &&& Int32.toUInt32 31)).toInt32) &&& 1431655765)))]) hx hb dJ6_bitCount_0f7a4_9 rfl hl (by decide) rfl (fun ls_1 hl_1 => ?_)
  clear hl
  refine lv_iload_n hx hb dJ6_bitCount_0f7a4_10 rfl (lv_at hl_1 0 rfl) ?_
  refine lv_ldcw hx hb hown (ht _ wm_4_61) dJ6_bitCount_0f7a4_11 ?_
  refine lv_iand hx hb dJ6_bitCount_0f7a4_14 ?_
  refine lv_iload_n hx hb dJ6_bitCount_0f7a4_15 rfl (lv_at hl_1 0 rfl) ?_
  refine lv_iconst (v := 2) hx hb dJ6_bitCount_0f7a4_16 (by decide) ?_
  refine lv_iushr hx hb dJ6_bitCount_0f7a4_17 rfl ?_
  refine lv_ldcw hx hb hown (ht _ wm_4_61) dJ6_bitCount_0f7a4_18 ?_
  refine lv_iand hx hb dJ6_bitCount_0f7a4_21 ?_
  refine lv_iadd hx hb dJ6_bitCount_0f7a4_22 ?_
  refine lv_istore_n (lv' := [(0, .int (((p0 - ((((p0).toUInt32 >>> ((1 : Int32).toUInt32 &&& Int32.toUInt32 31)).toInt32) &&& 1431655765)) &&& 858993459) + (((((p0 - ((((p0).toUInt32 >>> ((1 : Int32).toUInt32 &&& Int32.toUInt32 31)).toInt32) &&& 1431655765))).toUInt32 >>> ((2 : Int32).toUInt32 &&& Int32.toUInt32 31)).toInt32) &&& 858993459)))]) hx hb dJ6_bitCount_0f7a4_23 rfl hl_1 (by decide) rfl (fun ls_2 hl_2 => ?_)
  clear hl_1
  refine lv_iload_n hx hb dJ6_bitCount_0f7a4_24 rfl (lv_at hl_2 0 rfl) ?_
  refine lv_iload_n hx hb dJ6_bitCount_0f7a4_25 rfl (lv_at hl_2 0 rfl) ?_
  refine lv_iconst (v := 4) hx hb dJ6_bitCount_0f7a4_26 (by decide) ?_
  refine lv_iushr hx hb dJ6_bitCount_0f7a4_27 rfl ?_
  refine lv_iadd hx hb dJ6_bitCount_0f7a4_28 ?_
  refine lv_ldcw hx hb hown (ht _ wm_4_62) dJ6_bitCount_0f7a4_29 ?_
  refine lv_iand hx hb dJ6_bitCount_0f7a4_32 ?_
  refine lv_istore_n (lv' := [(0, .int (((((p0 - ((((p0).toUInt32 >>> ((1 : Int32).toUInt32 &&& Int32.toUInt32 31)).toInt32) &&& 1431655765)) &&& 858993459) + (((((p0 - ((((p0).toUInt32 >>> ((1 : Int32).toUInt32 &&& Int32.toUInt32 31)).toInt32) &&& 1431655765))).toUInt32 >>> ((2 : Int32).toUInt32 &&& Int32.toUInt32 31)).toInt32) &&& 858993459)) + ((((((p0 - ((((p0).toUInt32 >>> ((1 : Int32).toUInt32 &&& Int32.toUInt32 31)).toInt32) &&& 1431655765)) &&& 858993459) + (((((p0 - ((((p0).toUInt32 >>> ((1 : Int32).toUInt32 &&& Int32.toUInt32 31)).toInt32) &&& 1431655765))).toUInt32 >>> ((2 : Int32).toUInt32 &&& Int32.toUInt32 31)).toInt32) &&& 858993459))).toUInt32 >>> ((4 : Int32).toUInt32 &&& Int32.toUInt32 31)).toInt32)) &&& 252645135))]) hx hb dJ6_bitCount_0f7a4_33 rfl hl_2 (by decide) rfl (fun ls_3 hl_3 => ?_)
  clear hl_2
  refine lv_iload_n hx hb dJ6_bitCount_0f7a4_34 rfl (lv_at hl_3 0 rfl) ?_
  refine lv_iload_n hx hb dJ6_bitCount_0f7a4_35 rfl (lv_at hl_3 0 rfl) ?_
  refine lv_bipush (v := 8) hx hb dJ6_bitCount_0f7a4_36 (by decide) ?_
  refine lv_iushr hx hb dJ6_bitCount_0f7a4_38 rfl ?_
  refine lv_iadd hx hb dJ6_bitCount_0f7a4_39 ?_
  refine lv_istore_n (lv' := [(0, .int ((((((p0 - ((((p0).toUInt32 >>> ((1 : Int32).toUInt32 &&& Int32.toUInt32 31)).toInt32) &&& 1431655765)) &&& 858993459) + (((((p0 - ((((p0).toUInt32 >>> ((1 : Int32).toUInt32 &&& Int32.toUInt32 31)).toInt32) &&& 1431655765))).toUInt32 >>> ((2 : Int32).toUInt32 &&& Int32.toUInt32 31)).toInt32) &&& 858993459)) + ((((((p0 - ((((p0).toUInt32 >>> ((1 : Int32).toUInt32 &&& Int32.toUInt32 31)).toInt32) &&& 1431655765)) &&& 858993459) + (((((p0 - ((((p0).toUInt32 >>> ((1 : Int32).toUInt32 &&& Int32.toUInt32 31)).toInt32) &&& 1431655765))).toUInt32 >>> ((2 : Int32).toUInt32 &&& Int32.toUInt32 31)).toInt32) &&& 858993459))).toUInt32 >>> ((4 : Int32).toUInt32 &&& Int32.toUInt32 31)).toInt32)) &&& 252645135) + ((((((((p0 - ((((p0).toUInt32 >>> ((1 : Int32).toUInt32 &&& Int32.toUInt32 31)).toInt32) &&& 1431655765)) &&& 858993459) + (((((p0 - ((((p0).toUInt32 >>> ((1 : Int32).toUInt32 &&& Int32.toUInt32 31)).toInt32) &&& 1431655765))).toUInt32 >>> ((2 : Int32).toUInt32 &&& Int32.toUInt32 31)).toInt32) &&& 858993459)) + ((((((p0 - ((((p0).toUInt32 >>> ((1 : Int32).toUInt32 &&& Int32.toUInt32 31)).toInt32) &&& 1431655765)) &&& 858993459) + (((((p0 - ((((p0).toUInt32 >>> ((1 : Int32).toUInt32 &&& Int32.toUInt32 31)).toInt32) &&& 1431655765))).toUInt32 >>> ((2 : Int32).toUInt32 &&& Int32.toUInt32 31)).toInt32) &&& 858993459))).toUInt32 >>> ((4 : Int32).toUInt32 &&& Int32.toUInt32 31)).toInt32)) &&& 252645135)).toUInt32 >>> ((8 : Int32).toUInt32 &&& Int32.toUInt32 31)).toInt32)))]) hx hb dJ6_bitCount_0f7a4_40 rfl hl_3 (by decide) rfl (fun ls_4 hl_4 => ?_)
  clear hl_3
  refine lv_iload_n hx hb dJ6_bitCount_0f7a4_41 rfl (lv_at hl_4 0 rfl) ?_
  refine lv_iload_n hx hb dJ6_bitCount_0f7a4_42 rfl (lv_at hl_4 0 rfl) ?_
  refine lv_bipush (v := 16) hx hb dJ6_bitCount_0f7a4_43 (by decide) ?_
  refine lv_iushr hx hb dJ6_bitCount_0f7a4_45 rfl ?_
  refine lv_iadd hx hb dJ6_bitCount_0f7a4_46 ?_
  refine lv_istore_n (lv' := [(0, .int (((((((p0 - ((((p0).toUInt32 >>> ((1 : Int32).toUInt32 &&& Int32.toUInt32 31)).toInt32) &&& 1431655765)) &&& 858993459) + (((((p0 - ((((p0).toUInt32 >>> ((1 : Int32).toUInt32 &&& Int32.toUInt32 31)).toInt32) &&& 1431655765))).toUInt32 >>> ((2 : Int32).toUInt32 &&& Int32.toUInt32 31)).toInt32) &&& 858993459)) + ((((((p0 - ((((p0).toUInt32 >>> ((1 : Int32).toUInt32 &&& Int32.toUInt32 31)).toInt32) &&& 1431655765)) &&& 858993459) + (((((p0 - ((((p0).toUInt32 >>> ((1 : Int32).toUInt32 &&& Int32.toUInt32 31)).toInt32) &&& 1431655765))).toUInt32 >>> ((2 : Int32).toUInt32 &&& Int32.toUInt32 31)).toInt32) &&& 858993459))).toUInt32 >>> ((4 : Int32).toUInt32 &&& Int32.toUInt32 31)).toInt32)) &&& 252645135) + ((((((((p0 - ((((p0).toUInt32 >>> ((1 : Int32).toUInt32 &&& Int32.toUInt32 31)).toInt32) &&& 1431655765)) &&& 858993459) + (((((p0 - ((((p0).toUInt32 >>> ((1 : Int32).toUInt32 &&& Int32.toUInt32 31)).toInt32) &&& 1431655765))).toUInt32 >>> ((2 : Int32).toUInt32 &&& Int32.toUInt32 31)).toInt32) &&& 858993459)) + ((((((p0 - ((((p0).toUInt32 >>> ((1 : Int32).toUInt32 &&& Int32.toUInt32 31)).toInt32) &&& 1431655765)) &&& 858993459) + (((((p0 - ((((p0).toUInt32 >>> ((1 : Int32).toUInt32 &&& Int32.toUInt32 31)).toInt32) &&& 1431655765))).toUInt32 >>> ((2 : Int32).toUInt32 &&& Int32.toUInt32 31)).toInt32) &&& 858993459))).toUInt32 >>> ((4 : Int32).toUInt32 &&& Int32.toUInt32 31)).toInt32)) &&& 252645135)).toUInt32 >>> ((8 : Int32).toUInt32 &&& Int32.toUInt32 31)).toInt32)) + (((((((((p0 - ((((p0).toUInt32 >>> ((1 : Int32).toUInt32 &&& Int32.toUInt32 31)).toInt32) &&& 1431655765)) &&& 858993459) + (((((p0 - ((((p0).toUInt32 >>> ((1 : Int32).toUInt32 &&& Int32.toUInt32 31)).toInt32) &&& 1431655765))).toUInt32 >>> ((2 : Int32).toUInt32 &&& Int32.toUInt32 31)).toInt32) &&& 858993459)) + ((((((p0 - ((((p0).toUInt32 >>> ((1 : Int32).toUInt32 &&& Int32.toUInt32 31)).toInt32) &&& 1431655765)) &&& 858993459) + (((((p0 - ((((p0).toUInt32 >>> ((1 : Int32).toUInt32 &&& Int32.toUInt32 31)).toInt32) &&& 1431655765))).toUInt32 >>> ((2 : Int32).toUInt32 &&& Int32.toUInt32 31)).toInt32) &&& 858993459))).toUInt32 >>> ((4 : Int32).toUInt32 &&& Int32.toUInt32 31)).toInt32)) &&& 252645135) + ((((((((p0 - ((((p0).toUInt32 >>> ((1 : Int32).toUInt32 &&& Int32.toUInt32 31)).toInt32) &&& 1431655765)) &&& 858993459) + (((((p0 - ((((p0).toUInt32 >>> ((1 : Int32).toUInt32 &&& Int32.toUInt32 31)).toInt32) &&& 1431655765))).toUInt32 >>> ((2 : Int32).toUInt32 &&& Int32.toUInt32 31)).toInt32) &&& 858993459)) + ((((((p0 - ((((p0).toUInt32 >>> ((1 : Int32).toUInt32 &&& Int32.toUInt32 31)).toInt32) &&& 1431655765)) &&& 858993459) + (((((p0 - ((((p0).toUInt32 >>> ((1 : Int32).toUInt32 &&& Int32.toUInt32 31)).toInt32) &&& 1431655765))).toUInt32 >>> ((2 : Int32).toUInt32 &&& Int32.toUInt32 31)).toInt32) &&& 858993459))).toUInt32 >>> ((4 : Int32).toUInt32 &&& Int32.toUInt32 31)).toInt32)) &&& 252645135)).toUInt32 >>> ((8 : Int32).toUInt32 &&& Int32.toUInt32 31)).toInt32))).toUInt32 >>> ((16 : Int32).toUInt32 &&& Int32.toUInt32 31)).toInt32)))]) hx hb dJ6_bitCount_0f7a4_47 rfl hl_4 (by decide) rfl (fun ls_5 hl_5 => ?_)
  clear hl_4
  refine lv_iload_n hx hb dJ6_bitCount_0f7a4_48 rfl (lv_at hl_5 0 rfl) ?_
  refine lv_bipush (v := 63) hx hb dJ6_bitCount_0f7a4_49 (by decide) ?_
  refine lv_iand hx hb dJ6_bitCount_0f7a4_51 ?_
  exact q_iret X hr hlk hK h rfl (fun _ => 0, fun _ _ => 0, fun _ _ => 0) ⟨rfl, trivial⟩ [] rfl rfl dJ6_bitCount_0f7a4_52 (Nat.le_of_ble_eq_true rfl) (Nat.le_of_ble_eq_true rfl)
set_option maxHeartbeats 4000000 in
set_option maxRecDepth 100000 in
theorem gX0_lowestOf_42 (l : Launch) (D : va_G) (cy : Nat → ClassId) (p0 : Int32) (hp0 : 1 ≤ (p0).toInt ∧ (p0).toInt ≤ 1023) (sz : Nat) : MI l yX0_lowestOf cX0_lowestOf 1 .int { frames := 1, cells := 0, slots := 0, locals := 20 } [.int p0] D cy [] sz (fun r u => (0 ≤ r.toInt ∧ r.toInt ≤ 9) ∧ True) (fun u => []) 0 0 := by
  refine q_ent (own := RX0) (by decide) rfl (Nat.le_of_ble_eq_true rfl) (fun p e s m below meth c ls X hr hlk hnm hK h hA hl => ?_)
  obtain ⟨hx, hb, hml, hown, ht⟩ := id X
  replace hl : lv_has ls 1 [(0, .int p0)] := hl
  refine lv_iload_n hx hb dX0_lowestOf_0 rfl (lv_at hl 0 rfl) ?_
  refine lv_iload_n hx hb dX0_lowestOf_1 rfl (lv_at hl 0 rfl) ?_
  refine lv_ineg hx hb dX0_lowestOf_2 ?_
  refine lv_iand hx hb dX0_lowestOf_3 ?_
  refine lv_iconst (v := 1) hx hb dX0_lowestOf_4 (by decide) ?_
  refine lv_isub hx hb dX0_lowestOf_5 ?_
  refine q_callSi (rest := []) (wr := []) X hK hA h (fun sz => gJ6_bitCount_0f7a4_41 l D cy ((p0 &&& (-p0)) - 1) (i_rng _) sz) wm_4_116 wm_4_59 wm_1_22 hd_J6_bitCount_0f7a4 wm_4_58 ⟨Nat.le_of_ble_eq_true rfl, Nat.le_of_ble_eq_true rfl⟩ hl.1 rfl (Nat.le_of_ble_eq_true rfl) dX0_lowestOf_6 ⟨Nat.le_of_ble_eq_true rfl, Nat.le_of_ble_eq_true rfl⟩ [] [] rfl rfl (by decide) rfl rfl (fun r_1 u_1 H locs w_1 h_1 => ?_)
  clear h
  obtain ⟨wr_1, _⟩ := w_1
  replace h_1 : qW D _ _ [] _ _ := h_1
  exact q_iret X hr hlk hK h_1 rfl (fun _ => 0, fun _ _ => 0, fun _ _ => 0) ⟨(by rw [wr_1]; exact bc_low hp0), trivial⟩ [] rfl rfl dX0_lowestOf_9 (Nat.le_of_ble_eq_true rfl) (Nat.le_of_ble_eq_true rfl)
set_option maxHeartbeats 4000000 in
set_option maxRecDepth 100000 in
theorem gX0_canSit_43 (l : Launch) (D : va_G) (cy : Nat → ClassId) (h0 : Nat) (p0 : Int32) (p1 : Int32) (w0 : Value) (w1 : Value) (w2 : Value) (hp0 : 0 ≤ (p0).toInt ∧ (p0).toInt ≤ 1023) (hp1 : 2 ≤ (p1).toInt ∧ (p1).toInt ≤ 10) (sz : Nat) : MI l yX0_canSit cX0_canSit 6 .boolean { frames := 0, cells := 0, slots := 0, locals := 0 } [.ref h0, .int p0, .int 10] D cy [(h0, .inr (0, [.int p1, w0, w1, w2]))] sz (fun r u => (0 ≤ r.toInt ∧ r.toInt ≤ 1) ∧ True) (fun u => [(h0, .inr (0, [.int p1, w0, w1, w2]))]) 0 0 := by
  refine q_ent (own := RX0) (by decide) rfl (Nat.le_of_ble_eq_true rfl) (fun p e s m below meth c ls X hr hlk hnm hK h hA hl => ?_)
  obtain ⟨hx, hb, hml, hown, ht⟩ := id X
  replace hl : lv_has ls 6 [(0, .ref h0), (1, .int p0), (2, .int 10)] := hl
  refine lv_iload_n hx hb dX0_canSit_0 rfl (lv_at hl 1 rfl) ?_
  refine lv_if_ne (tgt := 6) hx hb dX0_canSit_1 (by decide) (fun c_1 => ?_) (fun c_1 => ?_)
  · replace c_1 := i_ne (x := p0) (y := 0) rfl (show (0 : Int32).toInt = 0 by decide) c_1
    refine lv_iload_n hx hb dX0_canSit_6 rfl (lv_at hl 2 rfl) ?_
    refine lv_bipush (v := 10) hx hb dX0_canSit_7 (by decide) ?_
    refine lv_icmp_lt (tgt := 14) hx hb dX0_canSit_9 (by decide) (fun c => absurd c (by decide +kernel)) (fun _ => ?_)
    refine lv_iconst (v := 0) hx hb dX0_canSit_12 (by decide) ?_
    exact q_iret X hr hlk hK h rfl (fun _ => 0, fun _ _ => 0, fun _ _ => 0) ⟨⟨by decide +kernel, by decide +kernel⟩, trivial⟩ [0] rfl rfl dX0_canSit_13 (Nat.le_of_ble_eq_true rfl) (Nat.le_of_ble_eq_true rfl)
  · replace c_1 := i_eq (x := p0) (y := 0) rfl (show (0 : Int32).toInt = 0 by decide) c_1
    refine lv_iconst (v := 1) hx hb dX0_canSit_4 (by decide) ?_
    exact q_iret X hr hlk hK h rfl (fun _ => 0, fun _ _ => 0, fun _ _ => 0) ⟨⟨by decide +kernel, by decide +kernel⟩, trivial⟩ [0] rfl rfl dX0_canSit_5 (Nat.le_of_ble_eq_true rfl) (Nat.le_of_ble_eq_true rfl)
set_option maxHeartbeats 4000000 in
set_option maxRecDepth 100000 in
theorem gX0_canSit_44 (l : Launch) (D : va_G) (cy : Nat → ClassId) (h0 : Nat) (h1 : Nat) (p0 : Int32) (p1 : Int32) (w0 : Value) (w1 : Value) (f0 : Nat → Int32) (hp0 : 0 ≤ (p0).toInt ∧ (p0).toInt ≤ 1023) (hp1 : 2 ≤ (p1).toInt ∧ (p1).toInt ≤ 10) (rf0 : RG f0 10 0 1023) (sz : Nat) : MI l yX0_canSit cX0_canSit 6 .boolean { frames := 2, cells := 0, slots := 0, locals := 40 } [.ref h0, .int p0, .int 9] D cy [(h0, .inr (0, [.int p1, .ref h1, w0, w1])), (h1, .inl (cy 1, 10, .inl f0))] sz (fun r u => (0 ≤ r.toInt ∧ r.toInt ≤ 1) ∧ True) (fun u => [(h0, .inr (0, [.int p1, .ref h1, w0, w1])), (h1, .inl (cy 1, 10, .inl f0))]) 0 0 := by
  refine q_ent (own := RX0) (by decide) rfl (Nat.le_of_ble_eq_true rfl) (fun p e s m below meth c ls X hr hlk hnm hK h hA hl => ?_)
  obtain ⟨hx, hb, hml, hown, ht⟩ := id X
  replace hl : lv_has ls 6 [(0, .ref h0), (1, .int p0), (2, .int 9)] := hl
  refine lv_iload_n hx hb dX0_canSit_0 rfl (lv_at hl 1 rfl) ?_
  refine lv_if_ne (tgt := 6) hx hb dX0_canSit_1 (by decide) (fun c_1 => ?_) (fun c_1 => ?_)
  · replace c_1 := i_ne (x := p0) (y := 0) rfl (show (0 : Int32).toInt = 0 by decide) c_1
    refine lv_iload_n hx hb dX0_canSit_6 rfl (lv_at hl 2 rfl) ?_
    refine lv_bipush (v := 10) hx hb dX0_canSit_7 (by decide) ?_
    refine lv_icmp_lt (tgt := 14) hx hb dX0_canSit_9 (by decide) (fun _ => ?_) (fun c => absurd c (by decide +kernel))
    refine lv_iload_n hx hb dX0_canSit_14 rfl (lv_at hl 1 rfl) ?_
    refine q_callSi (rest := []) (wr := [(h0, .inr (0, [.int p1, .ref h1, w0, w1])), (h1, .inl (cy 1, 10, .inl f0))]) X hK hA h (fun sz => gX0_lowestOf_42 l D cy p0 ⟨by omega, by omega⟩ sz) wm_4_113 wm_4_115 wm_1_6 hd_X0_lowestOf wm_4_114 ⟨Nat.le_of_ble_eq_true rfl, Nat.le_of_ble_eq_true rfl⟩ hl.1 rfl (Nat.le_of_ble_eq_true rfl) dX0_canSit_15 ⟨Nat.le_of_ble_eq_true rfl, Nat.le_of_ble_eq_true rfl⟩ [] [0, 1] rfl rfl (by decide) rfl rfl (fun r_2 u_2 H locs w_2 h_2 => ?_)
    clear h
    obtain ⟨wr_2, _⟩ := w_2
    replace h_2 : qW D _ _ [(h0, .inr (0, [.int p1, .ref h1, w0, w1])), (h1, .inl (cy 1, 10, .inl f0))] _ _ := h_2
    refine lv_istore_n (lv' := [(3, .int r_2), (0, .ref h0), (1, .int p0), (2, .int 9)]) hx hb dX0_canSit_18 rfl hl (by decide) rfl (fun ls_3 hl_3 => ?_)
    clear hl
    refine lv_aload_n hx hb dX0_canSit_19 rfl (lv_at hl_3 1 rfl) ?_
    refine q_get X hK h_2 0 rfl rfl wf_0 1 (by decide) rfl wm_1_199 dX0_canSit_20 ?_
    refine lv_iload_n hx hb dX0_canSit_23 rfl (lv_at hl_3 0 rfl) ?_
    refine q_iald X hK h_2 1 rfl (i_in rfl (by omega) (by omega)) dX0_canSit_24 ?_
    obtain ⟨z_4, ez_4, hz_4⟩ := rg_get rf0 (x := r_2) rfl (by omega) (by omega)
    refine q_c z_4 ez_4 ?_
    clear ez_4
    refine lv_iload_n hx hb dX0_canSit_25 rfl (lv_at hl_3 2 rfl) ?_
    refine lv_iand hx hb dX0_canSit_26 ?_
    obtain ⟨z_5, ez_5, hz_5⟩ := e_and2 (x := z_4) (y := p0) rfl (by omega)
    refine q_c z_5 ez_5 ?_
    clear ez_5
    refine lv_istore (lv' := [(4, .int z_5), (3, .int r_2), (0, .ref h0), (1, .int p0), (2, .int 9)]) hx hb dX0_canSit_27 hl_3 (by decide) rfl (fun ls_6 hl_6 => ?_)
    clear hl_3
    refine lv_iload_n hx hb dX0_canSit_29 rfl (lv_at hl_6 1 rfl) ?_
    refine lv_iconst (v := 1) hx hb dX0_canSit_30 (by decide) ?_
    refine lv_iadd hx hb dX0_canSit_31 ?_
    obtain ⟨z_7, ez_7, hz_7⟩ := e_add (x := r_2) (y := 1) rfl (show (1 : Int32).toInt = 1 by decide) (by omega) (by omega)
    refine q_c z_7 ez_7 ?_
    clear ez_7
    refine lv_istore (lv' := [(5, .int z_7), (4, .int z_5), (3, .int r_2), (0, .ref h0), (1, .int p0), (2, .int 9)]) hx hb dX0_canSit_32 hl_6 (by decide) rfl (fun ls_8 hl_8 => ?_)
    clear hl_6
    refine q_wl (fun (v34_9_0 : Int32) H locs ls => (1 ≤ (v34_9_0).toInt ∧ (v34_9_0).toInt ≤ 10) ∧ qW D (va_A [(h0, .inr (0, [.int p1, .ref h1, w0, w1])), (h1, .inl (cy 1, 10, .inl f0))] sz) s.heap [(h0, .inr (0, [.int p1, .ref h1, w0, w1])), (h1, .inl (cy 1, 10, .inl f0))] H locs ∧ lv_has ls 6 [(0, .ref h0), (1, .int p0), (2, .int 9), (3, .int r_2), (4, .int z_5), (5, .int v34_9_0)]) (fun (v34_9_0 : Int32) => (11 - (v34_9_0).toInt).toNat) (fun q_34 ih_34 H locs ls hP => ?_) z_7 ⟨⟨by omega, by omega⟩, h_2, (lv_sub hl_8 [3, 4, 5, 2, 1, 0] rfl)⟩
    obtain ⟨v34_9_0, rfl⟩ : ∃ z, z = q_34 := ⟨_, rfl⟩
    obtain ⟨hv34_9_0, h, hl⟩ := hP
    refine lv_iload hx hb dX0_canSit_34 (lv_at hl 5 rfl) ?_
    refine lv_aload_n hx hb dX0_canSit_36 rfl (lv_at hl 0 rfl) ?_
    refine q_get X hK h 0 rfl rfl wf_0 0 (by decide) rfl wm_1_198 dX0_canSit_37 ?_
    refine lv_icmp_ge (tgt := 84) hx hb dX0_canSit_40 (by decide) (fun c_10 => ?_) (fun c_10 => ?_)
    · replace c_10 := i_le (x := p1) (y := v34_9_0) rfl rfl c_10
      refine lv_iconst (v := 0) hx hb dX0_canSit_84 (by decide) ?_
      exact q_iret X hr hlk hK h rfl (fun _ => 0, fun _ _ => 0, fun _ _ => 0) ⟨⟨by decide +kernel, by decide +kernel⟩, trivial⟩ [0, 1] rfl rfl dX0_canSit_85 (Nat.le_of_ble_eq_true rfl) (Nat.le_of_ble_eq_true rfl)
    · replace c_10 := i_nle (x := p1) (y := v34_9_0) rfl rfl c_10
      refine lv_iload hx hb dX0_canSit_43 (lv_at hl 4 rfl) ?_
      refine lv_iload hx hb dX0_canSit_45 (lv_at hl 5 rfl) ?_
      refine lv_ishr hx hb dX0_canSit_47 ?_
      obtain ⟨z_11, ez_11, hz_11⟩ := e_shr (x := z_5) v34_9_0 rfl (by omega)
      refine q_c z_11 ez_11 ?_
      clear ez_11
      refine lv_iconst (v := 1) hx hb dX0_canSit_48 (by decide) ?_
      refine lv_iand hx hb dX0_canSit_49 ?_
      obtain ⟨z_12, ez_12, hz_12⟩ := e_and2 (x := z_11) (y := 1) (show (1 : Int32).toInt = 1 by decide) (by omega)
      refine q_c z_12 ez_12 ?_
      clear ez_12
      refine lv_iconst (v := 1) hx hb dX0_canSit_50 (by decide) ?_
      refine q_jn (pc2 := 78) (fun H locs ls st => st = [] ∧ qW D (va_A [(h0, .inr (0, [.int p1, .ref h1, w0, w1])), (h1, .inl (cy 1, 10, .inl f0))] sz) s.heap [(h0, .inr (0, [.int p1, .ref h1, w0, w1])), (h1, .inl (cy 1, 10, .inl f0))] H locs ∧ lv_has ls 6 [(0, .ref h0), (1, .int p0), (2, .int 9), (3, .int r_2), (4, .int z_5), (5, .int v34_9_0)]) (fun H locs ls st hP => ?_) (fun J_78 => ?_)
      · obtain ⟨rfl, h, hl⟩ := hP
        obtain ⟨z_14, ez_14, hz_14⟩ := e_add (x := v34_9_0) (y := Int32.ofInt 1) rfl (b := 1) (by decide) (by omega) (by omega)
        refine lv_iinc (v := z_14) (lv' := [(5, .int z_14), (0, .ref h0), (1, .int p0), (2, .int 9), (3, .int r_2), (4, .int z_5)]) hx hb dX0_canSit_78 hl (k := 5) rfl ez_14 (by decide) rfl (fun ls_14 hl_14 => ?_)
        clear hl
        refine lv_goto (tgt := 34) hx hb dX0_canSit_81 (by decide) ?_
        exact ih_34 z_14 (by show (11 - (z_14).toInt).toNat < (11 - (v34_9_0).toInt).toNat; omega) _ _ _ ⟨⟨by omega, by omega⟩, h, (lv_sub hl_14 [1, 2, 3, 4, 5, 0] rfl)⟩
      · skip
        refine lv_icmp_ne (tgt := 78) hx hb dX0_canSit_51 (by decide) (fun c_15 => ?_) (fun c_15 => ?_)
        · replace c_15 := i_ne (x := z_12) (y := 1) rfl (show (1 : Int32).toInt = 1 by decide) c_15
          exact J_78 _ _ _ _ ⟨rfl, h, (lv_sub hl [0, 1, 2, 3, 4, 5] rfl)⟩
        · replace c_15 := i_eq (x := z_12) (y := 1) rfl (show (1 : Int32).toInt = 1 by decide) c_15
          refine lv_aload_n hx hb dX0_canSit_54 rfl (lv_at hl 0 rfl) ?_
          refine lv_iload_n hx hb dX0_canSit_55 rfl (lv_at hl 1 rfl) ?_
          refine lv_iconst (v := 1) hx hb dX0_canSit_56 (by decide) ?_
          refine lv_iload_n hx hb dX0_canSit_57 rfl (lv_at hl 3 rfl) ?_
          refine lv_ishl hx hb dX0_canSit_58 ?_
          obtain ⟨z_16, ez_16, hz_16⟩ := e_shlk (p := r_2) 9 (by decide) rfl (by omega) (by omega)
          refine q_c z_16 ez_16 ?_
          clear ez_16
          refine lv_iconst (v := 1) hx hb dX0_canSit_59 (by decide) ?_
          refine lv_iload hx hb dX0_canSit_60 (lv_at hl 5 rfl) ?_
          refine lv_ishl hx hb dX0_canSit_62 ?_
          obtain ⟨z_17, ez_17, hz_17⟩ := e_shlk (p := v34_9_0) 9 (by decide) rfl (by omega) (by omega)
          refine q_c z_17 ez_17 ?_
          clear ez_17
          refine lv_ior hx hb dX0_canSit_63 ?_
          obtain ⟨z_18, ez_18, hz_18⟩ := e_or (x := z_16) (y := z_17) 10 (by decide) rfl rfl (by omega) (by omega) (by omega) (by omega)
          refine q_c z_18 ez_18 ?_
          clear ez_18
          refine lv_iconst (v := (-1)) hx hb dX0_canSit_64 (by decide) ?_
          refine lv_ixor hx hb dX0_canSit_65 ?_
          refine q_any (fun z_19 hz_19 => ?_)
          refine lv_iand hx hb dX0_canSit_66 ?_
          obtain ⟨z_20, ez_20, hz_20⟩ := e_and1 (x := p0) (y := z_19) rfl (by omega)
          refine q_c z_20 ez_20 ?_
          clear ez_20
          refine lv_iload_n hx hb dX0_canSit_67 rfl (lv_at hl 2 rfl) ?_
          refine lv_iconst (v := 1) hx hb dX0_canSit_68 (by decide) ?_
          refine lv_iadd hx hb dX0_canSit_69 ?_
          refine q_c 10 (by decide +kernel) ?_
          refine q_callVi (rest := []) (wr := [(h1, .inl (cy 1, 10, .inl f0))]) X hK hA h (fun sz => gX0_canSit_43 l D cy h0 z_20 p1 (.ref h1) w0 w1 ⟨by omega, by omega⟩ ⟨by omega, by omega⟩ sz) wm_4_117 wm_4_112 wm_1_6 hd_X0_canSit wm_4_110 wm_4_111 (ci := 0) (q0 := 0) rfl rfl ⟨Nat.le_of_ble_eq_true rfl, Nat.le_of_ble_eq_true rfl⟩ hl.1 rfl (Nat.le_of_ble_eq_true rfl) dX0_canSit_70 ⟨Nat.le_of_ble_eq_true rfl, Nat.le_of_ble_eq_true rfl⟩ [0] [1] rfl rfl (by decide) rfl rfl (fun r_21 u_21 H locs w_21 h_21 => ?_)
          clear h
          obtain ⟨wr_21, _⟩ := w_21
          replace h_21 : qW D _ _ [(h1, .inl (cy 1, 10, .inl f0)), (h0, .inr (0, [.int p1, .ref h1, w0, w1]))] _ _ := h_21
          refine lv_if_eq (tgt := 78) hx hb dX0_canSit_73 (by decide) (fun c_22 => ?_) (fun c_22 => ?_)
          · replace c_22 := i_eq (x := r_21) (y := 0) rfl (show (0 : Int32).toInt = 0 by decide) c_22
            exact J_78 _ _ _ _ ⟨rfl, (q_re h_21 [1, 0] rfl rfl), (lv_sub hl [0, 1, 2, 3, 4, 5] rfl)⟩
          · replace c_22 := i_ne (x := r_21) (y := 0) rfl (show (0 : Int32).toInt = 0 by decide) c_22
            refine lv_iconst (v := 1) hx hb dX0_canSit_76 (by decide) ?_
            exact q_iret X hr hlk hK h_21 rfl (fun _ => 0, fun _ _ => 0, fun _ _ => 0) ⟨⟨by decide +kernel, by decide +kernel⟩, trivial⟩ [1, 0] rfl rfl dX0_canSit_77 (Nat.le_of_ble_eq_true rfl) (Nat.le_of_ble_eq_true rfl)
  · replace c_1 := i_eq (x := p0) (y := 0) rfl (show (0 : Int32).toInt = 0 by decide) c_1
    refine lv_iconst (v := 1) hx hb dX0_canSit_4 (by decide) ?_
    exact q_iret X hr hlk hK h rfl (fun _ => 0, fun _ _ => 0, fun _ _ => 0) ⟨⟨by decide +kernel, by decide +kernel⟩, trivial⟩ [0, 1] rfl rfl dX0_canSit_5 (Nat.le_of_ble_eq_true rfl) (Nat.le_of_ble_eq_true rfl)
set_option maxHeartbeats 4000000 in
set_option maxRecDepth 100000 in
theorem gX0_canSit_45 (l : Launch) (D : va_G) (cy : Nat → ClassId) (h0 : Nat) (h1 : Nat) (p0 : Int32) (p1 : Int32) (w0 : Value) (w1 : Value) (f0 : Nat → Int32) (hp0 : 0 ≤ (p0).toInt ∧ (p0).toInt ≤ 1023) (hp1 : 2 ≤ (p1).toInt ∧ (p1).toInt ≤ 10) (rf0 : RG f0 10 0 1023) (sz : Nat) : MI l yX0_canSit cX0_canSit 6 .boolean { frames := 3, cells := 0, slots := 0, locals := 65 } [.ref h0, .int p0, .int 8] D cy [(h0, .inr (0, [.int p1, .ref h1, w0, w1])), (h1, .inl (cy 1, 10, .inl f0))] sz (fun r u => (0 ≤ r.toInt ∧ r.toInt ≤ 1) ∧ True) (fun u => [(h0, .inr (0, [.int p1, .ref h1, w0, w1])), (h1, .inl (cy 1, 10, .inl f0))]) 0 0 := by
  refine q_ent (own := RX0) (by decide) rfl (Nat.le_of_ble_eq_true rfl) (fun p e s m below meth c ls X hr hlk hnm hK h hA hl => ?_)
  obtain ⟨hx, hb, hml, hown, ht⟩ := id X
  replace hl : lv_has ls 6 [(0, .ref h0), (1, .int p0), (2, .int 8)] := hl
  refine lv_iload_n hx hb dX0_canSit_0 rfl (lv_at hl 1 rfl) ?_
  refine lv_if_ne (tgt := 6) hx hb dX0_canSit_1 (by decide) (fun c_1 => ?_) (fun c_1 => ?_)
  · replace c_1 := i_ne (x := p0) (y := 0) rfl (show (0 : Int32).toInt = 0 by decide) c_1
    refine lv_iload_n hx hb dX0_canSit_6 rfl (lv_at hl 2 rfl) ?_
    refine lv_bipush (v := 10) hx hb dX0_canSit_7 (by decide) ?_
    refine lv_icmp_lt (tgt := 14) hx hb dX0_canSit_9 (by decide) (fun _ => ?_) (fun c => absurd c (by decide +kernel))
    refine lv_iload_n hx hb dX0_canSit_14 rfl (lv_at hl 1 rfl) ?_
    refine q_callSi (rest := []) (wr := [(h0, .inr (0, [.int p1, .ref h1, w0, w1])), (h1, .inl (cy 1, 10, .inl f0))]) X hK hA h (fun sz => gX0_lowestOf_42 l D cy p0 ⟨by omega, by omega⟩ sz) wm_4_113 wm_4_115 wm_1_6 hd_X0_lowestOf wm_4_114 ⟨Nat.le_of_ble_eq_true rfl, Nat.le_of_ble_eq_true rfl⟩ hl.1 rfl (Nat.le_of_ble_eq_true rfl) dX0_canSit_15 ⟨Nat.le_of_ble_eq_true rfl, Nat.le_of_ble_eq_true rfl⟩ [] [0, 1] rfl rfl (by decide) rfl rfl (fun r_2 u_2 H locs w_2 h_2 => ?_)
    clear h
    obtain ⟨wr_2, _⟩ := w_2
    replace h_2 : qW D _ _ [(h0, .inr (0, [.int p1, .ref h1, w0, w1])), (h1, .inl (cy 1, 10, .inl f0))] _ _ := h_2
    refine lv_istore_n (lv' := [(3, .int r_2), (0, .ref h0), (1, .int p0), (2, .int 8)]) hx hb dX0_canSit_18 rfl hl (by decide) rfl (fun ls_3 hl_3 => ?_)
    clear hl
    refine lv_aload_n hx hb dX0_canSit_19 rfl (lv_at hl_3 1 rfl) ?_
    refine q_get X hK h_2 0 rfl rfl wf_0 1 (by decide) rfl wm_1_199 dX0_canSit_20 ?_
    refine lv_iload_n hx hb dX0_canSit_23 rfl (lv_at hl_3 0 rfl) ?_
    refine q_iald X hK h_2 1 rfl (i_in rfl (by omega) (by omega)) dX0_canSit_24 ?_
    obtain ⟨z_4, ez_4, hz_4⟩ := rg_get rf0 (x := r_2) rfl (by omega) (by omega)
    refine q_c z_4 ez_4 ?_
    clear ez_4
    refine lv_iload_n hx hb dX0_canSit_25 rfl (lv_at hl_3 2 rfl) ?_
    refine lv_iand hx hb dX0_canSit_26 ?_
    obtain ⟨z_5, ez_5, hz_5⟩ := e_and2 (x := z_4) (y := p0) rfl (by omega)
    refine q_c z_5 ez_5 ?_
    clear ez_5
    refine lv_istore (lv' := [(4, .int z_5), (3, .int r_2), (0, .ref h0), (1, .int p0), (2, .int 8)]) hx hb dX0_canSit_27 hl_3 (by decide) rfl (fun ls_6 hl_6 => ?_)
    clear hl_3
    refine lv_iload_n hx hb dX0_canSit_29 rfl (lv_at hl_6 1 rfl) ?_
    refine lv_iconst (v := 1) hx hb dX0_canSit_30 (by decide) ?_
    refine lv_iadd hx hb dX0_canSit_31 ?_
    obtain ⟨z_7, ez_7, hz_7⟩ := e_add (x := r_2) (y := 1) rfl (show (1 : Int32).toInt = 1 by decide) (by omega) (by omega)
    refine q_c z_7 ez_7 ?_
    clear ez_7
    refine lv_istore (lv' := [(5, .int z_7), (4, .int z_5), (3, .int r_2), (0, .ref h0), (1, .int p0), (2, .int 8)]) hx hb dX0_canSit_32 hl_6 (by decide) rfl (fun ls_8 hl_8 => ?_)
    clear hl_6
    refine q_wl (fun (v34_9_0 : Int32) H locs ls => (1 ≤ (v34_9_0).toInt ∧ (v34_9_0).toInt ≤ 10) ∧ qW D (va_A [(h0, .inr (0, [.int p1, .ref h1, w0, w1])), (h1, .inl (cy 1, 10, .inl f0))] sz) s.heap [(h0, .inr (0, [.int p1, .ref h1, w0, w1])), (h1, .inl (cy 1, 10, .inl f0))] H locs ∧ lv_has ls 6 [(0, .ref h0), (1, .int p0), (2, .int 8), (3, .int r_2), (4, .int z_5), (5, .int v34_9_0)]) (fun (v34_9_0 : Int32) => (11 - (v34_9_0).toInt).toNat) (fun q_34 ih_34 H locs ls hP => ?_) z_7 ⟨⟨by omega, by omega⟩, h_2, (lv_sub hl_8 [3, 4, 5, 2, 1, 0] rfl)⟩
    obtain ⟨v34_9_0, rfl⟩ : ∃ z, z = q_34 := ⟨_, rfl⟩
    obtain ⟨hv34_9_0, h, hl⟩ := hP
    refine lv_iload hx hb dX0_canSit_34 (lv_at hl 5 rfl) ?_
    refine lv_aload_n hx hb dX0_canSit_36 rfl (lv_at hl 0 rfl) ?_
    refine q_get X hK h 0 rfl rfl wf_0 0 (by decide) rfl wm_1_198 dX0_canSit_37 ?_
    refine lv_icmp_ge (tgt := 84) hx hb dX0_canSit_40 (by decide) (fun c_10 => ?_) (fun c_10 => ?_)
    · replace c_10 := i_le (x := p1) (y := v34_9_0) rfl rfl c_10
      refine lv_iconst (v := 0) hx hb dX0_canSit_84 (by decide) ?_
      exact q_iret X hr hlk hK h rfl (fun _ => 0, fun _ _ => 0, fun _ _ => 0) ⟨⟨by decide +kernel, by decide +kernel⟩, trivial⟩ [0, 1] rfl rfl dX0_canSit_85 (Nat.le_of_ble_eq_true rfl) (Nat.le_of_ble_eq_true rfl)
    · replace c_10 := i_nle (x := p1) (y := v34_9_0) rfl rfl c_10
      refine lv_iload hx hb dX0_canSit_43 (lv_at hl 4 rfl) ?_
      refine lv_iload hx hb dX0_canSit_45 (lv_at hl 5 rfl) ?_
      refine lv_ishr hx hb dX0_canSit_47 ?_
      obtain ⟨z_11, ez_11, hz_11⟩ := e_shr (x := z_5) v34_9_0 rfl (by omega)
      refine q_c z_11 ez_11 ?_
      clear ez_11
      refine lv_iconst (v := 1) hx hb dX0_canSit_48 (by decide) ?_
      refine lv_iand hx hb dX0_canSit_49 ?_
      obtain ⟨z_12, ez_12, hz_12⟩ := e_and2 (x := z_11) (y := 1) (show (1 : Int32).toInt = 1 by decide) (by omega)
      refine q_c z_12 ez_12 ?_
      clear ez_12
      refine lv_iconst (v := 1) hx hb dX0_canSit_50 (by decide) ?_
      refine q_jn (pc2 := 78) (fun H locs ls st => st = [] ∧ qW D (va_A [(h0, .inr (0, [.int p1, .ref h1, w0, w1])), (h1, .inl (cy 1, 10, .inl f0))] sz) s.heap [(h0, .inr (0, [.int p1, .ref h1, w0, w1])), (h1, .inl (cy 1, 10, .inl f0))] H locs ∧ lv_has ls 6 [(0, .ref h0), (1, .int p0), (2, .int 8), (3, .int r_2), (4, .int z_5), (5, .int v34_9_0)]) (fun H locs ls st hP => ?_) (fun J_78 => ?_)
      · obtain ⟨rfl, h, hl⟩ := hP
        obtain ⟨z_14, ez_14, hz_14⟩ := e_add (x := v34_9_0) (y := Int32.ofInt 1) rfl (b := 1) (by decide) (by omega) (by omega)
        refine lv_iinc (v := z_14) (lv' := [(5, .int z_14), (0, .ref h0), (1, .int p0), (2, .int 8), (3, .int r_2), (4, .int z_5)]) hx hb dX0_canSit_78 hl (k := 5) rfl ez_14 (by decide) rfl (fun ls_14 hl_14 => ?_)
        clear hl
        refine lv_goto (tgt := 34) hx hb dX0_canSit_81 (by decide) ?_
        exact ih_34 z_14 (by show (11 - (z_14).toInt).toNat < (11 - (v34_9_0).toInt).toNat; omega) _ _ _ ⟨⟨by omega, by omega⟩, h, (lv_sub hl_14 [1, 2, 3, 4, 5, 0] rfl)⟩
      · skip
        refine lv_icmp_ne (tgt := 78) hx hb dX0_canSit_51 (by decide) (fun c_15 => ?_) (fun c_15 => ?_)
        · replace c_15 := i_ne (x := z_12) (y := 1) rfl (show (1 : Int32).toInt = 1 by decide) c_15
          exact J_78 _ _ _ _ ⟨rfl, h, (lv_sub hl [0, 1, 2, 3, 4, 5] rfl)⟩
        · replace c_15 := i_eq (x := z_12) (y := 1) rfl (show (1 : Int32).toInt = 1 by decide) c_15
          refine lv_aload_n hx hb dX0_canSit_54 rfl (lv_at hl 0 rfl) ?_
          refine lv_iload_n hx hb dX0_canSit_55 rfl (lv_at hl 1 rfl) ?_
          refine lv_iconst (v := 1) hx hb dX0_canSit_56 (by decide) ?_
          refine lv_iload_n hx hb dX0_canSit_57 rfl (lv_at hl 3 rfl) ?_
          refine lv_ishl hx hb dX0_canSit_58 ?_
          obtain ⟨z_16, ez_16, hz_16⟩ := e_shlk (p := r_2) 9 (by decide) rfl (by omega) (by omega)
          refine q_c z_16 ez_16 ?_
          clear ez_16
          refine lv_iconst (v := 1) hx hb dX0_canSit_59 (by decide) ?_
          refine lv_iload hx hb dX0_canSit_60 (lv_at hl 5 rfl) ?_
          refine lv_ishl hx hb dX0_canSit_62 ?_
          obtain ⟨z_17, ez_17, hz_17⟩ := e_shlk (p := v34_9_0) 9 (by decide) rfl (by omega) (by omega)
          refine q_c z_17 ez_17 ?_
          clear ez_17
          refine lv_ior hx hb dX0_canSit_63 ?_
          obtain ⟨z_18, ez_18, hz_18⟩ := e_or (x := z_16) (y := z_17) 10 (by decide) rfl rfl (by omega) (by omega) (by omega) (by omega)
          refine q_c z_18 ez_18 ?_
          clear ez_18
          refine lv_iconst (v := (-1)) hx hb dX0_canSit_64 (by decide) ?_
          refine lv_ixor hx hb dX0_canSit_65 ?_
          refine q_any (fun z_19 hz_19 => ?_)
          refine lv_iand hx hb dX0_canSit_66 ?_
          obtain ⟨z_20, ez_20, hz_20⟩ := e_and1 (x := p0) (y := z_19) rfl (by omega)
          refine q_c z_20 ez_20 ?_
          clear ez_20
          refine lv_iload_n hx hb dX0_canSit_67 rfl (lv_at hl 2 rfl) ?_
          refine lv_iconst (v := 1) hx hb dX0_canSit_68 (by decide) ?_
          refine lv_iadd hx hb dX0_canSit_69 ?_
          refine q_c 9 (by decide +kernel) ?_
          refine q_callVi (rest := []) (wr := []) X hK hA h (fun sz => gX0_canSit_44 l D cy h0 h1 z_20 p1 w0 w1 f0 ⟨by omega, by omega⟩ ⟨by omega, by omega⟩ (rg_wide rf0 (by decide) (by decide)) sz) wm_4_117 wm_4_112 wm_1_6 hd_X0_canSit wm_4_110 wm_4_111 (ci := 0) (q0 := 0) rfl rfl ⟨Nat.le_of_ble_eq_true rfl, Nat.le_of_ble_eq_true rfl⟩ hl.1 rfl (Nat.le_of_ble_eq_true rfl) dX0_canSit_70 ⟨Nat.le_of_ble_eq_true rfl, Nat.le_of_ble_eq_true rfl⟩ [0, 1] [] rfl rfl (by decide) rfl rfl (fun r_21 u_21 H locs w_21 h_21 => ?_)
          clear h
          obtain ⟨wr_21, _⟩ := w_21
          replace h_21 : qW D _ _ [(h0, .inr (0, [.int p1, .ref h1, w0, w1])), (h1, .inl (cy 1, 10, .inl f0))] _ _ := h_21
          refine lv_if_eq (tgt := 78) hx hb dX0_canSit_73 (by decide) (fun c_22 => ?_) (fun c_22 => ?_)
          · replace c_22 := i_eq (x := r_21) (y := 0) rfl (show (0 : Int32).toInt = 0 by decide) c_22
            exact J_78 _ _ _ _ ⟨rfl, h_21, (lv_sub hl [0, 1, 2, 3, 4, 5] rfl)⟩
          · replace c_22 := i_ne (x := r_21) (y := 0) rfl (show (0 : Int32).toInt = 0 by decide) c_22
            refine lv_iconst (v := 1) hx hb dX0_canSit_76 (by decide) ?_
            exact q_iret X hr hlk hK h_21 rfl (fun _ => 0, fun _ _ => 0, fun _ _ => 0) ⟨⟨by decide +kernel, by decide +kernel⟩, trivial⟩ [0, 1] rfl rfl dX0_canSit_77 (Nat.le_of_ble_eq_true rfl) (Nat.le_of_ble_eq_true rfl)
  · replace c_1 := i_eq (x := p0) (y := 0) rfl (show (0 : Int32).toInt = 0 by decide) c_1
    refine lv_iconst (v := 1) hx hb dX0_canSit_4 (by decide) ?_
    exact q_iret X hr hlk hK h rfl (fun _ => 0, fun _ _ => 0, fun _ _ => 0) ⟨⟨by decide +kernel, by decide +kernel⟩, trivial⟩ [0, 1] rfl rfl dX0_canSit_5 (Nat.le_of_ble_eq_true rfl) (Nat.le_of_ble_eq_true rfl)
set_option maxHeartbeats 4000000 in
set_option maxRecDepth 100000 in
theorem gX0_canSit_46 (l : Launch) (D : va_G) (cy : Nat → ClassId) (h0 : Nat) (h1 : Nat) (p0 : Int32) (p1 : Int32) (w0 : Value) (w1 : Value) (f0 : Nat → Int32) (hp0 : 0 ≤ (p0).toInt ∧ (p0).toInt ≤ 1023) (hp1 : 2 ≤ (p1).toInt ∧ (p1).toInt ≤ 10) (rf0 : RG f0 10 0 1023) (sz : Nat) : MI l yX0_canSit cX0_canSit 6 .boolean { frames := 4, cells := 0, slots := 0, locals := 90 } [.ref h0, .int p0, .int 7] D cy [(h0, .inr (0, [.int p1, .ref h1, w0, w1])), (h1, .inl (cy 1, 10, .inl f0))] sz (fun r u => (0 ≤ r.toInt ∧ r.toInt ≤ 1) ∧ True) (fun u => [(h0, .inr (0, [.int p1, .ref h1, w0, w1])), (h1, .inl (cy 1, 10, .inl f0))]) 0 0 := by
  refine q_ent (own := RX0) (by decide) rfl (Nat.le_of_ble_eq_true rfl) (fun p e s m below meth c ls X hr hlk hnm hK h hA hl => ?_)
  obtain ⟨hx, hb, hml, hown, ht⟩ := id X
  replace hl : lv_has ls 6 [(0, .ref h0), (1, .int p0), (2, .int 7)] := hl
  refine lv_iload_n hx hb dX0_canSit_0 rfl (lv_at hl 1 rfl) ?_
  refine lv_if_ne (tgt := 6) hx hb dX0_canSit_1 (by decide) (fun c_1 => ?_) (fun c_1 => ?_)
  · replace c_1 := i_ne (x := p0) (y := 0) rfl (show (0 : Int32).toInt = 0 by decide) c_1
    refine lv_iload_n hx hb dX0_canSit_6 rfl (lv_at hl 2 rfl) ?_
    refine lv_bipush (v := 10) hx hb dX0_canSit_7 (by decide) ?_
    refine lv_icmp_lt (tgt := 14) hx hb dX0_canSit_9 (by decide) (fun _ => ?_) (fun c => absurd c (by decide +kernel))
    refine lv_iload_n hx hb dX0_canSit_14 rfl (lv_at hl 1 rfl) ?_
    refine q_callSi (rest := []) (wr := [(h0, .inr (0, [.int p1, .ref h1, w0, w1])), (h1, .inl (cy 1, 10, .inl f0))]) X hK hA h (fun sz => gX0_lowestOf_42 l D cy p0 ⟨by omega, by omega⟩ sz) wm_4_113 wm_4_115 wm_1_6 hd_X0_lowestOf wm_4_114 ⟨Nat.le_of_ble_eq_true rfl, Nat.le_of_ble_eq_true rfl⟩ hl.1 rfl (Nat.le_of_ble_eq_true rfl) dX0_canSit_15 ⟨Nat.le_of_ble_eq_true rfl, Nat.le_of_ble_eq_true rfl⟩ [] [0, 1] rfl rfl (by decide) rfl rfl (fun r_2 u_2 H locs w_2 h_2 => ?_)
    clear h
    obtain ⟨wr_2, _⟩ := w_2
    replace h_2 : qW D _ _ [(h0, .inr (0, [.int p1, .ref h1, w0, w1])), (h1, .inl (cy 1, 10, .inl f0))] _ _ := h_2
    refine lv_istore_n (lv' := [(3, .int r_2), (0, .ref h0), (1, .int p0), (2, .int 7)]) hx hb dX0_canSit_18 rfl hl (by decide) rfl (fun ls_3 hl_3 => ?_)
    clear hl
    refine lv_aload_n hx hb dX0_canSit_19 rfl (lv_at hl_3 1 rfl) ?_
    refine q_get X hK h_2 0 rfl rfl wf_0 1 (by decide) rfl wm_1_199 dX0_canSit_20 ?_
    refine lv_iload_n hx hb dX0_canSit_23 rfl (lv_at hl_3 0 rfl) ?_
    refine q_iald X hK h_2 1 rfl (i_in rfl (by omega) (by omega)) dX0_canSit_24 ?_
    obtain ⟨z_4, ez_4, hz_4⟩ := rg_get rf0 (x := r_2) rfl (by omega) (by omega)
    refine q_c z_4 ez_4 ?_
    clear ez_4
    refine lv_iload_n hx hb dX0_canSit_25 rfl (lv_at hl_3 2 rfl) ?_
    refine lv_iand hx hb dX0_canSit_26 ?_
    obtain ⟨z_5, ez_5, hz_5⟩ := e_and2 (x := z_4) (y := p0) rfl (by omega)
    refine q_c z_5 ez_5 ?_
    clear ez_5
    refine lv_istore (lv' := [(4, .int z_5), (3, .int r_2), (0, .ref h0), (1, .int p0), (2, .int 7)]) hx hb dX0_canSit_27 hl_3 (by decide) rfl (fun ls_6 hl_6 => ?_)
    clear hl_3
    refine lv_iload_n hx hb dX0_canSit_29 rfl (lv_at hl_6 1 rfl) ?_
    refine lv_iconst (v := 1) hx hb dX0_canSit_30 (by decide) ?_
    refine lv_iadd hx hb dX0_canSit_31 ?_
    obtain ⟨z_7, ez_7, hz_7⟩ := e_add (x := r_2) (y := 1) rfl (show (1 : Int32).toInt = 1 by decide) (by omega) (by omega)
    refine q_c z_7 ez_7 ?_
    clear ez_7
    refine lv_istore (lv' := [(5, .int z_7), (4, .int z_5), (3, .int r_2), (0, .ref h0), (1, .int p0), (2, .int 7)]) hx hb dX0_canSit_32 hl_6 (by decide) rfl (fun ls_8 hl_8 => ?_)
    clear hl_6
    refine q_wl (fun (v34_9_0 : Int32) H locs ls => (1 ≤ (v34_9_0).toInt ∧ (v34_9_0).toInt ≤ 10) ∧ qW D (va_A [(h0, .inr (0, [.int p1, .ref h1, w0, w1])), (h1, .inl (cy 1, 10, .inl f0))] sz) s.heap [(h0, .inr (0, [.int p1, .ref h1, w0, w1])), (h1, .inl (cy 1, 10, .inl f0))] H locs ∧ lv_has ls 6 [(0, .ref h0), (1, .int p0), (2, .int 7), (3, .int r_2), (4, .int z_5), (5, .int v34_9_0)]) (fun (v34_9_0 : Int32) => (11 - (v34_9_0).toInt).toNat) (fun q_34 ih_34 H locs ls hP => ?_) z_7 ⟨⟨by omega, by omega⟩, h_2, (lv_sub hl_8 [3, 4, 5, 2, 1, 0] rfl)⟩
    obtain ⟨v34_9_0, rfl⟩ : ∃ z, z = q_34 := ⟨_, rfl⟩
    obtain ⟨hv34_9_0, h, hl⟩ := hP
    refine lv_iload hx hb dX0_canSit_34 (lv_at hl 5 rfl) ?_
    refine lv_aload_n hx hb dX0_canSit_36 rfl (lv_at hl 0 rfl) ?_
    refine q_get X hK h 0 rfl rfl wf_0 0 (by decide) rfl wm_1_198 dX0_canSit_37 ?_
    refine lv_icmp_ge (tgt := 84) hx hb dX0_canSit_40 (by decide) (fun c_10 => ?_) (fun c_10 => ?_)
    · replace c_10 := i_le (x := p1) (y := v34_9_0) rfl rfl c_10
      refine lv_iconst (v := 0) hx hb dX0_canSit_84 (by decide) ?_
      exact q_iret X hr hlk hK h rfl (fun _ => 0, fun _ _ => 0, fun _ _ => 0) ⟨⟨by decide +kernel, by decide +kernel⟩, trivial⟩ [0, 1] rfl rfl dX0_canSit_85 (Nat.le_of_ble_eq_true rfl) (Nat.le_of_ble_eq_true rfl)
    · replace c_10 := i_nle (x := p1) (y := v34_9_0) rfl rfl c_10
      refine lv_iload hx hb dX0_canSit_43 (lv_at hl 4 rfl) ?_
      refine lv_iload hx hb dX0_canSit_45 (lv_at hl 5 rfl) ?_
      refine lv_ishr hx hb dX0_canSit_47 ?_
      obtain ⟨z_11, ez_11, hz_11⟩ := e_shr (x := z_5) v34_9_0 rfl (by omega)
      refine q_c z_11 ez_11 ?_
      clear ez_11
      refine lv_iconst (v := 1) hx hb dX0_canSit_48 (by decide) ?_
      refine lv_iand hx hb dX0_canSit_49 ?_
      obtain ⟨z_12, ez_12, hz_12⟩ := e_and2 (x := z_11) (y := 1) (show (1 : Int32).toInt = 1 by decide) (by omega)
      refine q_c z_12 ez_12 ?_
      clear ez_12
      refine lv_iconst (v := 1) hx hb dX0_canSit_50 (by decide) ?_
      refine q_jn (pc2 := 78) (fun H locs ls st => st = [] ∧ qW D (va_A [(h0, .inr (0, [.int p1, .ref h1, w0, w1])), (h1, .inl (cy 1, 10, .inl f0))] sz) s.heap [(h0, .inr (0, [.int p1, .ref h1, w0, w1])), (h1, .inl (cy 1, 10, .inl f0))] H locs ∧ lv_has ls 6 [(0, .ref h0), (1, .int p0), (2, .int 7), (3, .int r_2), (4, .int z_5), (5, .int v34_9_0)]) (fun H locs ls st hP => ?_) (fun J_78 => ?_)
      · obtain ⟨rfl, h, hl⟩ := hP
        obtain ⟨z_14, ez_14, hz_14⟩ := e_add (x := v34_9_0) (y := Int32.ofInt 1) rfl (b := 1) (by decide) (by omega) (by omega)
        refine lv_iinc (v := z_14) (lv' := [(5, .int z_14), (0, .ref h0), (1, .int p0), (2, .int 7), (3, .int r_2), (4, .int z_5)]) hx hb dX0_canSit_78 hl (k := 5) rfl ez_14 (by decide) rfl (fun ls_14 hl_14 => ?_)
        clear hl
        refine lv_goto (tgt := 34) hx hb dX0_canSit_81 (by decide) ?_
        exact ih_34 z_14 (by show (11 - (z_14).toInt).toNat < (11 - (v34_9_0).toInt).toNat; omega) _ _ _ ⟨⟨by omega, by omega⟩, h, (lv_sub hl_14 [1, 2, 3, 4, 5, 0] rfl)⟩
      · skip
        refine lv_icmp_ne (tgt := 78) hx hb dX0_canSit_51 (by decide) (fun c_15 => ?_) (fun c_15 => ?_)
        · replace c_15 := i_ne (x := z_12) (y := 1) rfl (show (1 : Int32).toInt = 1 by decide) c_15
          exact J_78 _ _ _ _ ⟨rfl, h, (lv_sub hl [0, 1, 2, 3, 4, 5] rfl)⟩
        · replace c_15 := i_eq (x := z_12) (y := 1) rfl (show (1 : Int32).toInt = 1 by decide) c_15
          refine lv_aload_n hx hb dX0_canSit_54 rfl (lv_at hl 0 rfl) ?_
          refine lv_iload_n hx hb dX0_canSit_55 rfl (lv_at hl 1 rfl) ?_
          refine lv_iconst (v := 1) hx hb dX0_canSit_56 (by decide) ?_
          refine lv_iload_n hx hb dX0_canSit_57 rfl (lv_at hl 3 rfl) ?_
          refine lv_ishl hx hb dX0_canSit_58 ?_
          obtain ⟨z_16, ez_16, hz_16⟩ := e_shlk (p := r_2) 9 (by decide) rfl (by omega) (by omega)
          refine q_c z_16 ez_16 ?_
          clear ez_16
          refine lv_iconst (v := 1) hx hb dX0_canSit_59 (by decide) ?_
          refine lv_iload hx hb dX0_canSit_60 (lv_at hl 5 rfl) ?_
          refine lv_ishl hx hb dX0_canSit_62 ?_
          obtain ⟨z_17, ez_17, hz_17⟩ := e_shlk (p := v34_9_0) 9 (by decide) rfl (by omega) (by omega)
          refine q_c z_17 ez_17 ?_
          clear ez_17
          refine lv_ior hx hb dX0_canSit_63 ?_
          obtain ⟨z_18, ez_18, hz_18⟩ := e_or (x := z_16) (y := z_17) 10 (by decide) rfl rfl (by omega) (by omega) (by omega) (by omega)
          refine q_c z_18 ez_18 ?_
          clear ez_18
          refine lv_iconst (v := (-1)) hx hb dX0_canSit_64 (by decide) ?_
          refine lv_ixor hx hb dX0_canSit_65 ?_
          refine q_any (fun z_19 hz_19 => ?_)
          refine lv_iand hx hb dX0_canSit_66 ?_
          obtain ⟨z_20, ez_20, hz_20⟩ := e_and1 (x := p0) (y := z_19) rfl (by omega)
          refine q_c z_20 ez_20 ?_
          clear ez_20
          refine lv_iload_n hx hb dX0_canSit_67 rfl (lv_at hl 2 rfl) ?_
          refine lv_iconst (v := 1) hx hb dX0_canSit_68 (by decide) ?_
          refine lv_iadd hx hb dX0_canSit_69 ?_
          refine q_c 8 (by decide +kernel) ?_
          refine q_callVi (rest := []) (wr := []) X hK hA h (fun sz => gX0_canSit_45 l D cy h0 h1 z_20 p1 w0 w1 f0 ⟨by omega, by omega⟩ ⟨by omega, by omega⟩ (rg_wide rf0 (by decide) (by decide)) sz) wm_4_117 wm_4_112 wm_1_6 hd_X0_canSit wm_4_110 wm_4_111 (ci := 0) (q0 := 0) rfl rfl ⟨Nat.le_of_ble_eq_true rfl, Nat.le_of_ble_eq_true rfl⟩ hl.1 rfl (Nat.le_of_ble_eq_true rfl) dX0_canSit_70 ⟨Nat.le_of_ble_eq_true rfl, Nat.le_of_ble_eq_true rfl⟩ [0, 1] [] rfl rfl (by decide) rfl rfl (fun r_21 u_21 H locs w_21 h_21 => ?_)
          clear h
          obtain ⟨wr_21, _⟩ := w_21
          replace h_21 : qW D _ _ [(h0, .inr (0, [.int p1, .ref h1, w0, w1])), (h1, .inl (cy 1, 10, .inl f0))] _ _ := h_21
          refine lv_if_eq (tgt := 78) hx hb dX0_canSit_73 (by decide) (fun c_22 => ?_) (fun c_22 => ?_)
          · replace c_22 := i_eq (x := r_21) (y := 0) rfl (show (0 : Int32).toInt = 0 by decide) c_22
            exact J_78 _ _ _ _ ⟨rfl, h_21, (lv_sub hl [0, 1, 2, 3, 4, 5] rfl)⟩
          · replace c_22 := i_ne (x := r_21) (y := 0) rfl (show (0 : Int32).toInt = 0 by decide) c_22
            refine lv_iconst (v := 1) hx hb dX0_canSit_76 (by decide) ?_
            exact q_iret X hr hlk hK h_21 rfl (fun _ => 0, fun _ _ => 0, fun _ _ => 0) ⟨⟨by decide +kernel, by decide +kernel⟩, trivial⟩ [0, 1] rfl rfl dX0_canSit_77 (Nat.le_of_ble_eq_true rfl) (Nat.le_of_ble_eq_true rfl)
  · replace c_1 := i_eq (x := p0) (y := 0) rfl (show (0 : Int32).toInt = 0 by decide) c_1
    refine lv_iconst (v := 1) hx hb dX0_canSit_4 (by decide) ?_
    exact q_iret X hr hlk hK h rfl (fun _ => 0, fun _ _ => 0, fun _ _ => 0) ⟨⟨by decide +kernel, by decide +kernel⟩, trivial⟩ [0, 1] rfl rfl dX0_canSit_5 (Nat.le_of_ble_eq_true rfl) (Nat.le_of_ble_eq_true rfl)
set_option maxHeartbeats 4000000 in
set_option maxRecDepth 100000 in
theorem gX0_canSit_47 (l : Launch) (D : va_G) (cy : Nat → ClassId) (h0 : Nat) (h1 : Nat) (p0 : Int32) (p1 : Int32) (w0 : Value) (w1 : Value) (f0 : Nat → Int32) (hp0 : 0 ≤ (p0).toInt ∧ (p0).toInt ≤ 1023) (hp1 : 2 ≤ (p1).toInt ∧ (p1).toInt ≤ 10) (rf0 : RG f0 10 0 1023) (sz : Nat) : MI l yX0_canSit cX0_canSit 6 .boolean { frames := 5, cells := 0, slots := 0, locals := 115 } [.ref h0, .int p0, .int 6] D cy [(h0, .inr (0, [.int p1, .ref h1, w0, w1])), (h1, .inl (cy 1, 10, .inl f0))] sz (fun r u => (0 ≤ r.toInt ∧ r.toInt ≤ 1) ∧ True) (fun u => [(h0, .inr (0, [.int p1, .ref h1, w0, w1])), (h1, .inl (cy 1, 10, .inl f0))]) 0 0 := by
  refine q_ent (own := RX0) (by decide) rfl (Nat.le_of_ble_eq_true rfl) (fun p e s m below meth c ls X hr hlk hnm hK h hA hl => ?_)
  obtain ⟨hx, hb, hml, hown, ht⟩ := id X
  replace hl : lv_has ls 6 [(0, .ref h0), (1, .int p0), (2, .int 6)] := hl
  refine lv_iload_n hx hb dX0_canSit_0 rfl (lv_at hl 1 rfl) ?_
  refine lv_if_ne (tgt := 6) hx hb dX0_canSit_1 (by decide) (fun c_1 => ?_) (fun c_1 => ?_)
  · replace c_1 := i_ne (x := p0) (y := 0) rfl (show (0 : Int32).toInt = 0 by decide) c_1
    refine lv_iload_n hx hb dX0_canSit_6 rfl (lv_at hl 2 rfl) ?_
    refine lv_bipush (v := 10) hx hb dX0_canSit_7 (by decide) ?_
    refine lv_icmp_lt (tgt := 14) hx hb dX0_canSit_9 (by decide) (fun _ => ?_) (fun c => absurd c (by decide +kernel))
    refine lv_iload_n hx hb dX0_canSit_14 rfl (lv_at hl 1 rfl) ?_
    refine q_callSi (rest := []) (wr := [(h0, .inr (0, [.int p1, .ref h1, w0, w1])), (h1, .inl (cy 1, 10, .inl f0))]) X hK hA h (fun sz => gX0_lowestOf_42 l D cy p0 ⟨by omega, by omega⟩ sz) wm_4_113 wm_4_115 wm_1_6 hd_X0_lowestOf wm_4_114 ⟨Nat.le_of_ble_eq_true rfl, Nat.le_of_ble_eq_true rfl⟩ hl.1 rfl (Nat.le_of_ble_eq_true rfl) dX0_canSit_15 ⟨Nat.le_of_ble_eq_true rfl, Nat.le_of_ble_eq_true rfl⟩ [] [0, 1] rfl rfl (by decide) rfl rfl (fun r_2 u_2 H locs w_2 h_2 => ?_)
    clear h
    obtain ⟨wr_2, _⟩ := w_2
    replace h_2 : qW D _ _ [(h0, .inr (0, [.int p1, .ref h1, w0, w1])), (h1, .inl (cy 1, 10, .inl f0))] _ _ := h_2
    refine lv_istore_n (lv' := [(3, .int r_2), (0, .ref h0), (1, .int p0), (2, .int 6)]) hx hb dX0_canSit_18 rfl hl (by decide) rfl (fun ls_3 hl_3 => ?_)
    clear hl
    refine lv_aload_n hx hb dX0_canSit_19 rfl (lv_at hl_3 1 rfl) ?_
    refine q_get X hK h_2 0 rfl rfl wf_0 1 (by decide) rfl wm_1_199 dX0_canSit_20 ?_
    refine lv_iload_n hx hb dX0_canSit_23 rfl (lv_at hl_3 0 rfl) ?_
    refine q_iald X hK h_2 1 rfl (i_in rfl (by omega) (by omega)) dX0_canSit_24 ?_
    obtain ⟨z_4, ez_4, hz_4⟩ := rg_get rf0 (x := r_2) rfl (by omega) (by omega)
    refine q_c z_4 ez_4 ?_
    clear ez_4
    refine lv_iload_n hx hb dX0_canSit_25 rfl (lv_at hl_3 2 rfl) ?_
    refine lv_iand hx hb dX0_canSit_26 ?_
    obtain ⟨z_5, ez_5, hz_5⟩ := e_and2 (x := z_4) (y := p0) rfl (by omega)
    refine q_c z_5 ez_5 ?_
    clear ez_5
    refine lv_istore (lv' := [(4, .int z_5), (3, .int r_2), (0, .ref h0), (1, .int p0), (2, .int 6)]) hx hb dX0_canSit_27 hl_3 (by decide) rfl (fun ls_6 hl_6 => ?_)
    clear hl_3
    refine lv_iload_n hx hb dX0_canSit_29 rfl (lv_at hl_6 1 rfl) ?_
    refine lv_iconst (v := 1) hx hb dX0_canSit_30 (by decide) ?_
    refine lv_iadd hx hb dX0_canSit_31 ?_
    obtain ⟨z_7, ez_7, hz_7⟩ := e_add (x := r_2) (y := 1) rfl (show (1 : Int32).toInt = 1 by decide) (by omega) (by omega)
    refine q_c z_7 ez_7 ?_
    clear ez_7
    refine lv_istore (lv' := [(5, .int z_7), (4, .int z_5), (3, .int r_2), (0, .ref h0), (1, .int p0), (2, .int 6)]) hx hb dX0_canSit_32 hl_6 (by decide) rfl (fun ls_8 hl_8 => ?_)
    clear hl_6
    refine q_wl (fun (v34_9_0 : Int32) H locs ls => (1 ≤ (v34_9_0).toInt ∧ (v34_9_0).toInt ≤ 10) ∧ qW D (va_A [(h0, .inr (0, [.int p1, .ref h1, w0, w1])), (h1, .inl (cy 1, 10, .inl f0))] sz) s.heap [(h0, .inr (0, [.int p1, .ref h1, w0, w1])), (h1, .inl (cy 1, 10, .inl f0))] H locs ∧ lv_has ls 6 [(0, .ref h0), (1, .int p0), (2, .int 6), (3, .int r_2), (4, .int z_5), (5, .int v34_9_0)]) (fun (v34_9_0 : Int32) => (11 - (v34_9_0).toInt).toNat) (fun q_34 ih_34 H locs ls hP => ?_) z_7 ⟨⟨by omega, by omega⟩, h_2, (lv_sub hl_8 [3, 4, 5, 2, 1, 0] rfl)⟩
    obtain ⟨v34_9_0, rfl⟩ : ∃ z, z = q_34 := ⟨_, rfl⟩
    obtain ⟨hv34_9_0, h, hl⟩ := hP
    refine lv_iload hx hb dX0_canSit_34 (lv_at hl 5 rfl) ?_
    refine lv_aload_n hx hb dX0_canSit_36 rfl (lv_at hl 0 rfl) ?_
    refine q_get X hK h 0 rfl rfl wf_0 0 (by decide) rfl wm_1_198 dX0_canSit_37 ?_
    refine lv_icmp_ge (tgt := 84) hx hb dX0_canSit_40 (by decide) (fun c_10 => ?_) (fun c_10 => ?_)
    · replace c_10 := i_le (x := p1) (y := v34_9_0) rfl rfl c_10
      refine lv_iconst (v := 0) hx hb dX0_canSit_84 (by decide) ?_
      exact q_iret X hr hlk hK h rfl (fun _ => 0, fun _ _ => 0, fun _ _ => 0) ⟨⟨by decide +kernel, by decide +kernel⟩, trivial⟩ [0, 1] rfl rfl dX0_canSit_85 (Nat.le_of_ble_eq_true rfl) (Nat.le_of_ble_eq_true rfl)
    · replace c_10 := i_nle (x := p1) (y := v34_9_0) rfl rfl c_10
      refine lv_iload hx hb dX0_canSit_43 (lv_at hl 4 rfl) ?_
      refine lv_iload hx hb dX0_canSit_45 (lv_at hl 5 rfl) ?_
      refine lv_ishr hx hb dX0_canSit_47 ?_
      obtain ⟨z_11, ez_11, hz_11⟩ := e_shr (x := z_5) v34_9_0 rfl (by omega)
      refine q_c z_11 ez_11 ?_
      clear ez_11
      refine lv_iconst (v := 1) hx hb dX0_canSit_48 (by decide) ?_
      refine lv_iand hx hb dX0_canSit_49 ?_
      obtain ⟨z_12, ez_12, hz_12⟩ := e_and2 (x := z_11) (y := 1) (show (1 : Int32).toInt = 1 by decide) (by omega)
      refine q_c z_12 ez_12 ?_
      clear ez_12
      refine lv_iconst (v := 1) hx hb dX0_canSit_50 (by decide) ?_
      refine q_jn (pc2 := 78) (fun H locs ls st => st = [] ∧ qW D (va_A [(h0, .inr (0, [.int p1, .ref h1, w0, w1])), (h1, .inl (cy 1, 10, .inl f0))] sz) s.heap [(h0, .inr (0, [.int p1, .ref h1, w0, w1])), (h1, .inl (cy 1, 10, .inl f0))] H locs ∧ lv_has ls 6 [(0, .ref h0), (1, .int p0), (2, .int 6), (3, .int r_2), (4, .int z_5), (5, .int v34_9_0)]) (fun H locs ls st hP => ?_) (fun J_78 => ?_)
      · obtain ⟨rfl, h, hl⟩ := hP
        obtain ⟨z_14, ez_14, hz_14⟩ := e_add (x := v34_9_0) (y := Int32.ofInt 1) rfl (b := 1) (by decide) (by omega) (by omega)
        refine lv_iinc (v := z_14) (lv' := [(5, .int z_14), (0, .ref h0), (1, .int p0), (2, .int 6), (3, .int r_2), (4, .int z_5)]) hx hb dX0_canSit_78 hl (k := 5) rfl ez_14 (by decide) rfl (fun ls_14 hl_14 => ?_)
        clear hl
        refine lv_goto (tgt := 34) hx hb dX0_canSit_81 (by decide) ?_
        exact ih_34 z_14 (by show (11 - (z_14).toInt).toNat < (11 - (v34_9_0).toInt).toNat; omega) _ _ _ ⟨⟨by omega, by omega⟩, h, (lv_sub hl_14 [1, 2, 3, 4, 5, 0] rfl)⟩
      · skip
        refine lv_icmp_ne (tgt := 78) hx hb dX0_canSit_51 (by decide) (fun c_15 => ?_) (fun c_15 => ?_)
        · replace c_15 := i_ne (x := z_12) (y := 1) rfl (show (1 : Int32).toInt = 1 by decide) c_15
          exact J_78 _ _ _ _ ⟨rfl, h, (lv_sub hl [0, 1, 2, 3, 4, 5] rfl)⟩
        · replace c_15 := i_eq (x := z_12) (y := 1) rfl (show (1 : Int32).toInt = 1 by decide) c_15
          refine lv_aload_n hx hb dX0_canSit_54 rfl (lv_at hl 0 rfl) ?_
          refine lv_iload_n hx hb dX0_canSit_55 rfl (lv_at hl 1 rfl) ?_
          refine lv_iconst (v := 1) hx hb dX0_canSit_56 (by decide) ?_
          refine lv_iload_n hx hb dX0_canSit_57 rfl (lv_at hl 3 rfl) ?_
          refine lv_ishl hx hb dX0_canSit_58 ?_
          obtain ⟨z_16, ez_16, hz_16⟩ := e_shlk (p := r_2) 9 (by decide) rfl (by omega) (by omega)
          refine q_c z_16 ez_16 ?_
          clear ez_16
          refine lv_iconst (v := 1) hx hb dX0_canSit_59 (by decide) ?_
          refine lv_iload hx hb dX0_canSit_60 (lv_at hl 5 rfl) ?_
          refine lv_ishl hx hb dX0_canSit_62 ?_
          obtain ⟨z_17, ez_17, hz_17⟩ := e_shlk (p := v34_9_0) 9 (by decide) rfl (by omega) (by omega)
          refine q_c z_17 ez_17 ?_
          clear ez_17
          refine lv_ior hx hb dX0_canSit_63 ?_
          obtain ⟨z_18, ez_18, hz_18⟩ := e_or (x := z_16) (y := z_17) 10 (by decide) rfl rfl (by omega) (by omega) (by omega) (by omega)
          refine q_c z_18 ez_18 ?_
          clear ez_18
          refine lv_iconst (v := (-1)) hx hb dX0_canSit_64 (by decide) ?_
          refine lv_ixor hx hb dX0_canSit_65 ?_
          refine q_any (fun z_19 hz_19 => ?_)
          refine lv_iand hx hb dX0_canSit_66 ?_
          obtain ⟨z_20, ez_20, hz_20⟩ := e_and1 (x := p0) (y := z_19) rfl (by omega)
          refine q_c z_20 ez_20 ?_
          clear ez_20
          refine lv_iload_n hx hb dX0_canSit_67 rfl (lv_at hl 2 rfl) ?_
          refine lv_iconst (v := 1) hx hb dX0_canSit_68 (by decide) ?_
          refine lv_iadd hx hb dX0_canSit_69 ?_
          refine q_c 7 (by decide +kernel) ?_
          refine q_callVi (rest := []) (wr := []) X hK hA h (fun sz => gX0_canSit_46 l D cy h0 h1 z_20 p1 w0 w1 f0 ⟨by omega, by omega⟩ ⟨by omega, by omega⟩ (rg_wide rf0 (by decide) (by decide)) sz) wm_4_117 wm_4_112 wm_1_6 hd_X0_canSit wm_4_110 wm_4_111 (ci := 0) (q0 := 0) rfl rfl ⟨Nat.le_of_ble_eq_true rfl, Nat.le_of_ble_eq_true rfl⟩ hl.1 rfl (Nat.le_of_ble_eq_true rfl) dX0_canSit_70 ⟨Nat.le_of_ble_eq_true rfl, Nat.le_of_ble_eq_true rfl⟩ [0, 1] [] rfl rfl (by decide) rfl rfl (fun r_21 u_21 H locs w_21 h_21 => ?_)
          clear h
          obtain ⟨wr_21, _⟩ := w_21
          replace h_21 : qW D _ _ [(h0, .inr (0, [.int p1, .ref h1, w0, w1])), (h1, .inl (cy 1, 10, .inl f0))] _ _ := h_21
          refine lv_if_eq (tgt := 78) hx hb dX0_canSit_73 (by decide) (fun c_22 => ?_) (fun c_22 => ?_)
          · replace c_22 := i_eq (x := r_21) (y := 0) rfl (show (0 : Int32).toInt = 0 by decide) c_22
            exact J_78 _ _ _ _ ⟨rfl, h_21, (lv_sub hl [0, 1, 2, 3, 4, 5] rfl)⟩
          · replace c_22 := i_ne (x := r_21) (y := 0) rfl (show (0 : Int32).toInt = 0 by decide) c_22
            refine lv_iconst (v := 1) hx hb dX0_canSit_76 (by decide) ?_
            exact q_iret X hr hlk hK h_21 rfl (fun _ => 0, fun _ _ => 0, fun _ _ => 0) ⟨⟨by decide +kernel, by decide +kernel⟩, trivial⟩ [0, 1] rfl rfl dX0_canSit_77 (Nat.le_of_ble_eq_true rfl) (Nat.le_of_ble_eq_true rfl)
  · replace c_1 := i_eq (x := p0) (y := 0) rfl (show (0 : Int32).toInt = 0 by decide) c_1
    refine lv_iconst (v := 1) hx hb dX0_canSit_4 (by decide) ?_
    exact q_iret X hr hlk hK h rfl (fun _ => 0, fun _ _ => 0, fun _ _ => 0) ⟨⟨by decide +kernel, by decide +kernel⟩, trivial⟩ [0, 1] rfl rfl dX0_canSit_5 (Nat.le_of_ble_eq_true rfl) (Nat.le_of_ble_eq_true rfl)
set_option maxHeartbeats 4000000 in
set_option maxRecDepth 100000 in
theorem gX0_canSit_48 (l : Launch) (D : va_G) (cy : Nat → ClassId) (h0 : Nat) (h1 : Nat) (p0 : Int32) (p1 : Int32) (w0 : Value) (w1 : Value) (f0 : Nat → Int32) (hp0 : 0 ≤ (p0).toInt ∧ (p0).toInt ≤ 1023) (hp1 : 2 ≤ (p1).toInt ∧ (p1).toInt ≤ 10) (rf0 : RG f0 10 0 1023) (sz : Nat) : MI l yX0_canSit cX0_canSit 6 .boolean { frames := 6, cells := 0, slots := 0, locals := 140 } [.ref h0, .int p0, .int 5] D cy [(h0, .inr (0, [.int p1, .ref h1, w0, w1])), (h1, .inl (cy 1, 10, .inl f0))] sz (fun r u => (0 ≤ r.toInt ∧ r.toInt ≤ 1) ∧ True) (fun u => [(h0, .inr (0, [.int p1, .ref h1, w0, w1])), (h1, .inl (cy 1, 10, .inl f0))]) 0 0 := by
  refine q_ent (own := RX0) (by decide) rfl (Nat.le_of_ble_eq_true rfl) (fun p e s m below meth c ls X hr hlk hnm hK h hA hl => ?_)
  obtain ⟨hx, hb, hml, hown, ht⟩ := id X
  replace hl : lv_has ls 6 [(0, .ref h0), (1, .int p0), (2, .int 5)] := hl
  refine lv_iload_n hx hb dX0_canSit_0 rfl (lv_at hl 1 rfl) ?_
  refine lv_if_ne (tgt := 6) hx hb dX0_canSit_1 (by decide) (fun c_1 => ?_) (fun c_1 => ?_)
  · replace c_1 := i_ne (x := p0) (y := 0) rfl (show (0 : Int32).toInt = 0 by decide) c_1
    refine lv_iload_n hx hb dX0_canSit_6 rfl (lv_at hl 2 rfl) ?_
    refine lv_bipush (v := 10) hx hb dX0_canSit_7 (by decide) ?_
    refine lv_icmp_lt (tgt := 14) hx hb dX0_canSit_9 (by decide) (fun _ => ?_) (fun c => absurd c (by decide +kernel))
    refine lv_iload_n hx hb dX0_canSit_14 rfl (lv_at hl 1 rfl) ?_
    refine q_callSi (rest := []) (wr := [(h0, .inr (0, [.int p1, .ref h1, w0, w1])), (h1, .inl (cy 1, 10, .inl f0))]) X hK hA h (fun sz => gX0_lowestOf_42 l D cy p0 ⟨by omega, by omega⟩ sz) wm_4_113 wm_4_115 wm_1_6 hd_X0_lowestOf wm_4_114 ⟨Nat.le_of_ble_eq_true rfl, Nat.le_of_ble_eq_true rfl⟩ hl.1 rfl (Nat.le_of_ble_eq_true rfl) dX0_canSit_15 ⟨Nat.le_of_ble_eq_true rfl, Nat.le_of_ble_eq_true rfl⟩ [] [0, 1] rfl rfl (by decide) rfl rfl (fun r_2 u_2 H locs w_2 h_2 => ?_)
    clear h
    obtain ⟨wr_2, _⟩ := w_2
    replace h_2 : qW D _ _ [(h0, .inr (0, [.int p1, .ref h1, w0, w1])), (h1, .inl (cy 1, 10, .inl f0))] _ _ := h_2
    refine lv_istore_n (lv' := [(3, .int r_2), (0, .ref h0), (1, .int p0), (2, .int 5)]) hx hb dX0_canSit_18 rfl hl (by decide) rfl (fun ls_3 hl_3 => ?_)
    clear hl
    refine lv_aload_n hx hb dX0_canSit_19 rfl (lv_at hl_3 1 rfl) ?_
    refine q_get X hK h_2 0 rfl rfl wf_0 1 (by decide) rfl wm_1_199 dX0_canSit_20 ?_
    refine lv_iload_n hx hb dX0_canSit_23 rfl (lv_at hl_3 0 rfl) ?_
    refine q_iald X hK h_2 1 rfl (i_in rfl (by omega) (by omega)) dX0_canSit_24 ?_
    obtain ⟨z_4, ez_4, hz_4⟩ := rg_get rf0 (x := r_2) rfl (by omega) (by omega)
    refine q_c z_4 ez_4 ?_
    clear ez_4
    refine lv_iload_n hx hb dX0_canSit_25 rfl (lv_at hl_3 2 rfl) ?_
    refine lv_iand hx hb dX0_canSit_26 ?_
    obtain ⟨z_5, ez_5, hz_5⟩ := e_and2 (x := z_4) (y := p0) rfl (by omega)
    refine q_c z_5 ez_5 ?_
    clear ez_5
    refine lv_istore (lv' := [(4, .int z_5), (3, .int r_2), (0, .ref h0), (1, .int p0), (2, .int 5)]) hx hb dX0_canSit_27 hl_3 (by decide) rfl (fun ls_6 hl_6 => ?_)
    clear hl_3
    refine lv_iload_n hx hb dX0_canSit_29 rfl (lv_at hl_6 1 rfl) ?_
    refine lv_iconst (v := 1) hx hb dX0_canSit_30 (by decide) ?_
    refine lv_iadd hx hb dX0_canSit_31 ?_
    obtain ⟨z_7, ez_7, hz_7⟩ := e_add (x := r_2) (y := 1) rfl (show (1 : Int32).toInt = 1 by decide) (by omega) (by omega)
    refine q_c z_7 ez_7 ?_
    clear ez_7
    refine lv_istore (lv' := [(5, .int z_7), (4, .int z_5), (3, .int r_2), (0, .ref h0), (1, .int p0), (2, .int 5)]) hx hb dX0_canSit_32 hl_6 (by decide) rfl (fun ls_8 hl_8 => ?_)
    clear hl_6
    refine q_wl (fun (v34_9_0 : Int32) H locs ls => (1 ≤ (v34_9_0).toInt ∧ (v34_9_0).toInt ≤ 10) ∧ qW D (va_A [(h0, .inr (0, [.int p1, .ref h1, w0, w1])), (h1, .inl (cy 1, 10, .inl f0))] sz) s.heap [(h0, .inr (0, [.int p1, .ref h1, w0, w1])), (h1, .inl (cy 1, 10, .inl f0))] H locs ∧ lv_has ls 6 [(0, .ref h0), (1, .int p0), (2, .int 5), (3, .int r_2), (4, .int z_5), (5, .int v34_9_0)]) (fun (v34_9_0 : Int32) => (11 - (v34_9_0).toInt).toNat) (fun q_34 ih_34 H locs ls hP => ?_) z_7 ⟨⟨by omega, by omega⟩, h_2, (lv_sub hl_8 [3, 4, 5, 2, 1, 0] rfl)⟩
    obtain ⟨v34_9_0, rfl⟩ : ∃ z, z = q_34 := ⟨_, rfl⟩
    obtain ⟨hv34_9_0, h, hl⟩ := hP
    refine lv_iload hx hb dX0_canSit_34 (lv_at hl 5 rfl) ?_
    refine lv_aload_n hx hb dX0_canSit_36 rfl (lv_at hl 0 rfl) ?_
    refine q_get X hK h 0 rfl rfl wf_0 0 (by decide) rfl wm_1_198 dX0_canSit_37 ?_
    refine lv_icmp_ge (tgt := 84) hx hb dX0_canSit_40 (by decide) (fun c_10 => ?_) (fun c_10 => ?_)
    · replace c_10 := i_le (x := p1) (y := v34_9_0) rfl rfl c_10
      refine lv_iconst (v := 0) hx hb dX0_canSit_84 (by decide) ?_
      exact q_iret X hr hlk hK h rfl (fun _ => 0, fun _ _ => 0, fun _ _ => 0) ⟨⟨by decide +kernel, by decide +kernel⟩, trivial⟩ [0, 1] rfl rfl dX0_canSit_85 (Nat.le_of_ble_eq_true rfl) (Nat.le_of_ble_eq_true rfl)
    · replace c_10 := i_nle (x := p1) (y := v34_9_0) rfl rfl c_10
      refine lv_iload hx hb dX0_canSit_43 (lv_at hl 4 rfl) ?_
      refine lv_iload hx hb dX0_canSit_45 (lv_at hl 5 rfl) ?_
      refine lv_ishr hx hb dX0_canSit_47 ?_
      obtain ⟨z_11, ez_11, hz_11⟩ := e_shr (x := z_5) v34_9_0 rfl (by omega)
      refine q_c z_11 ez_11 ?_
      clear ez_11
      refine lv_iconst (v := 1) hx hb dX0_canSit_48 (by decide) ?_
      refine lv_iand hx hb dX0_canSit_49 ?_
      obtain ⟨z_12, ez_12, hz_12⟩ := e_and2 (x := z_11) (y := 1) (show (1 : Int32).toInt = 1 by decide) (by omega)
      refine q_c z_12 ez_12 ?_
      clear ez_12
      refine lv_iconst (v := 1) hx hb dX0_canSit_50 (by decide) ?_
      refine q_jn (pc2 := 78) (fun H locs ls st => st = [] ∧ qW D (va_A [(h0, .inr (0, [.int p1, .ref h1, w0, w1])), (h1, .inl (cy 1, 10, .inl f0))] sz) s.heap [(h0, .inr (0, [.int p1, .ref h1, w0, w1])), (h1, .inl (cy 1, 10, .inl f0))] H locs ∧ lv_has ls 6 [(0, .ref h0), (1, .int p0), (2, .int 5), (3, .int r_2), (4, .int z_5), (5, .int v34_9_0)]) (fun H locs ls st hP => ?_) (fun J_78 => ?_)
      · obtain ⟨rfl, h, hl⟩ := hP
        obtain ⟨z_14, ez_14, hz_14⟩ := e_add (x := v34_9_0) (y := Int32.ofInt 1) rfl (b := 1) (by decide) (by omega) (by omega)
        refine lv_iinc (v := z_14) (lv' := [(5, .int z_14), (0, .ref h0), (1, .int p0), (2, .int 5), (3, .int r_2), (4, .int z_5)]) hx hb dX0_canSit_78 hl (k := 5) rfl ez_14 (by decide) rfl (fun ls_14 hl_14 => ?_)
        clear hl
        refine lv_goto (tgt := 34) hx hb dX0_canSit_81 (by decide) ?_
        exact ih_34 z_14 (by show (11 - (z_14).toInt).toNat < (11 - (v34_9_0).toInt).toNat; omega) _ _ _ ⟨⟨by omega, by omega⟩, h, (lv_sub hl_14 [1, 2, 3, 4, 5, 0] rfl)⟩
      · skip
        refine lv_icmp_ne (tgt := 78) hx hb dX0_canSit_51 (by decide) (fun c_15 => ?_) (fun c_15 => ?_)
        · replace c_15 := i_ne (x := z_12) (y := 1) rfl (show (1 : Int32).toInt = 1 by decide) c_15
          exact J_78 _ _ _ _ ⟨rfl, h, (lv_sub hl [0, 1, 2, 3, 4, 5] rfl)⟩
        · replace c_15 := i_eq (x := z_12) (y := 1) rfl (show (1 : Int32).toInt = 1 by decide) c_15
          refine lv_aload_n hx hb dX0_canSit_54 rfl (lv_at hl 0 rfl) ?_
          refine lv_iload_n hx hb dX0_canSit_55 rfl (lv_at hl 1 rfl) ?_
          refine lv_iconst (v := 1) hx hb dX0_canSit_56 (by decide) ?_
          refine lv_iload_n hx hb dX0_canSit_57 rfl (lv_at hl 3 rfl) ?_
          refine lv_ishl hx hb dX0_canSit_58 ?_
          obtain ⟨z_16, ez_16, hz_16⟩ := e_shlk (p := r_2) 9 (by decide) rfl (by omega) (by omega)
          refine q_c z_16 ez_16 ?_
          clear ez_16
          refine lv_iconst (v := 1) hx hb dX0_canSit_59 (by decide) ?_
          refine lv_iload hx hb dX0_canSit_60 (lv_at hl 5 rfl) ?_
          refine lv_ishl hx hb dX0_canSit_62 ?_
          obtain ⟨z_17, ez_17, hz_17⟩ := e_shlk (p := v34_9_0) 9 (by decide) rfl (by omega) (by omega)
          refine q_c z_17 ez_17 ?_
          clear ez_17
          refine lv_ior hx hb dX0_canSit_63 ?_
          obtain ⟨z_18, ez_18, hz_18⟩ := e_or (x := z_16) (y := z_17) 10 (by decide) rfl rfl (by omega) (by omega) (by omega) (by omega)
          refine q_c z_18 ez_18 ?_
          clear ez_18
          refine lv_iconst (v := (-1)) hx hb dX0_canSit_64 (by decide) ?_
          refine lv_ixor hx hb dX0_canSit_65 ?_
          refine q_any (fun z_19 hz_19 => ?_)
          refine lv_iand hx hb dX0_canSit_66 ?_
          obtain ⟨z_20, ez_20, hz_20⟩ := e_and1 (x := p0) (y := z_19) rfl (by omega)
          refine q_c z_20 ez_20 ?_
          clear ez_20
          refine lv_iload_n hx hb dX0_canSit_67 rfl (lv_at hl 2 rfl) ?_
          refine lv_iconst (v := 1) hx hb dX0_canSit_68 (by decide) ?_
          refine lv_iadd hx hb dX0_canSit_69 ?_
          refine q_c 6 (by decide +kernel) ?_
          refine q_callVi (rest := []) (wr := []) X hK hA h (fun sz => gX0_canSit_47 l D cy h0 h1 z_20 p1 w0 w1 f0 ⟨by omega, by omega⟩ ⟨by omega, by omega⟩ (rg_wide rf0 (by decide) (by decide)) sz) wm_4_117 wm_4_112 wm_1_6 hd_X0_canSit wm_4_110 wm_4_111 (ci := 0) (q0 := 0) rfl rfl ⟨Nat.le_of_ble_eq_true rfl, Nat.le_of_ble_eq_true rfl⟩ hl.1 rfl (Nat.le_of_ble_eq_true rfl) dX0_canSit_70 ⟨Nat.le_of_ble_eq_true rfl, Nat.le_of_ble_eq_true rfl⟩ [0, 1] [] rfl rfl (by decide) rfl rfl (fun r_21 u_21 H locs w_21 h_21 => ?_)
          clear h
          obtain ⟨wr_21, _⟩ := w_21
          replace h_21 : qW D _ _ [(h0, .inr (0, [.int p1, .ref h1, w0, w1])), (h1, .inl (cy 1, 10, .inl f0))] _ _ := h_21
          refine lv_if_eq (tgt := 78) hx hb dX0_canSit_73 (by decide) (fun c_22 => ?_) (fun c_22 => ?_)
          · replace c_22 := i_eq (x := r_21) (y := 0) rfl (show (0 : Int32).toInt = 0 by decide) c_22
            exact J_78 _ _ _ _ ⟨rfl, h_21, (lv_sub hl [0, 1, 2, 3, 4, 5] rfl)⟩
          · replace c_22 := i_ne (x := r_21) (y := 0) rfl (show (0 : Int32).toInt = 0 by decide) c_22
            refine lv_iconst (v := 1) hx hb dX0_canSit_76 (by decide) ?_
            exact q_iret X hr hlk hK h_21 rfl (fun _ => 0, fun _ _ => 0, fun _ _ => 0) ⟨⟨by decide +kernel, by decide +kernel⟩, trivial⟩ [0, 1] rfl rfl dX0_canSit_77 (Nat.le_of_ble_eq_true rfl) (Nat.le_of_ble_eq_true rfl)
  · replace c_1 := i_eq (x := p0) (y := 0) rfl (show (0 : Int32).toInt = 0 by decide) c_1
    refine lv_iconst (v := 1) hx hb dX0_canSit_4 (by decide) ?_
    exact q_iret X hr hlk hK h rfl (fun _ => 0, fun _ _ => 0, fun _ _ => 0) ⟨⟨by decide +kernel, by decide +kernel⟩, trivial⟩ [0, 1] rfl rfl dX0_canSit_5 (Nat.le_of_ble_eq_true rfl) (Nat.le_of_ble_eq_true rfl)
set_option maxHeartbeats 4000000 in
set_option maxRecDepth 100000 in
theorem gX0_canSit_49 (l : Launch) (D : va_G) (cy : Nat → ClassId) (h0 : Nat) (h1 : Nat) (p0 : Int32) (p1 : Int32) (w0 : Value) (w1 : Value) (f0 : Nat → Int32) (hp0 : 0 ≤ (p0).toInt ∧ (p0).toInt ≤ 1023) (hp1 : 2 ≤ (p1).toInt ∧ (p1).toInt ≤ 10) (rf0 : RG f0 10 0 1023) (sz : Nat) : MI l yX0_canSit cX0_canSit 6 .boolean { frames := 7, cells := 0, slots := 0, locals := 165 } [.ref h0, .int p0, .int 4] D cy [(h0, .inr (0, [.int p1, .ref h1, w0, w1])), (h1, .inl (cy 1, 10, .inl f0))] sz (fun r u => (0 ≤ r.toInt ∧ r.toInt ≤ 1) ∧ True) (fun u => [(h0, .inr (0, [.int p1, .ref h1, w0, w1])), (h1, .inl (cy 1, 10, .inl f0))]) 0 0 := by
  refine q_ent (own := RX0) (by decide) rfl (Nat.le_of_ble_eq_true rfl) (fun p e s m below meth c ls X hr hlk hnm hK h hA hl => ?_)
  obtain ⟨hx, hb, hml, hown, ht⟩ := id X
  replace hl : lv_has ls 6 [(0, .ref h0), (1, .int p0), (2, .int 4)] := hl
  refine lv_iload_n hx hb dX0_canSit_0 rfl (lv_at hl 1 rfl) ?_
  refine lv_if_ne (tgt := 6) hx hb dX0_canSit_1 (by decide) (fun c_1 => ?_) (fun c_1 => ?_)
  · replace c_1 := i_ne (x := p0) (y := 0) rfl (show (0 : Int32).toInt = 0 by decide) c_1
    refine lv_iload_n hx hb dX0_canSit_6 rfl (lv_at hl 2 rfl) ?_
    refine lv_bipush (v := 10) hx hb dX0_canSit_7 (by decide) ?_
    refine lv_icmp_lt (tgt := 14) hx hb dX0_canSit_9 (by decide) (fun _ => ?_) (fun c => absurd c (by decide +kernel))
    refine lv_iload_n hx hb dX0_canSit_14 rfl (lv_at hl 1 rfl) ?_
    refine q_callSi (rest := []) (wr := [(h0, .inr (0, [.int p1, .ref h1, w0, w1])), (h1, .inl (cy 1, 10, .inl f0))]) X hK hA h (fun sz => gX0_lowestOf_42 l D cy p0 ⟨by omega, by omega⟩ sz) wm_4_113 wm_4_115 wm_1_6 hd_X0_lowestOf wm_4_114 ⟨Nat.le_of_ble_eq_true rfl, Nat.le_of_ble_eq_true rfl⟩ hl.1 rfl (Nat.le_of_ble_eq_true rfl) dX0_canSit_15 ⟨Nat.le_of_ble_eq_true rfl, Nat.le_of_ble_eq_true rfl⟩ [] [0, 1] rfl rfl (by decide) rfl rfl (fun r_2 u_2 H locs w_2 h_2 => ?_)
    clear h
    obtain ⟨wr_2, _⟩ := w_2
    replace h_2 : qW D _ _ [(h0, .inr (0, [.int p1, .ref h1, w0, w1])), (h1, .inl (cy 1, 10, .inl f0))] _ _ := h_2
    refine lv_istore_n (lv' := [(3, .int r_2), (0, .ref h0), (1, .int p0), (2, .int 4)]) hx hb dX0_canSit_18 rfl hl (by decide) rfl (fun ls_3 hl_3 => ?_)
    clear hl
    refine lv_aload_n hx hb dX0_canSit_19 rfl (lv_at hl_3 1 rfl) ?_
    refine q_get X hK h_2 0 rfl rfl wf_0 1 (by decide) rfl wm_1_199 dX0_canSit_20 ?_
    refine lv_iload_n hx hb dX0_canSit_23 rfl (lv_at hl_3 0 rfl) ?_
    refine q_iald X hK h_2 1 rfl (i_in rfl (by omega) (by omega)) dX0_canSit_24 ?_
    obtain ⟨z_4, ez_4, hz_4⟩ := rg_get rf0 (x := r_2) rfl (by omega) (by omega)
    refine q_c z_4 ez_4 ?_
    clear ez_4
    refine lv_iload_n hx hb dX0_canSit_25 rfl (lv_at hl_3 2 rfl) ?_
    refine lv_iand hx hb dX0_canSit_26 ?_
    obtain ⟨z_5, ez_5, hz_5⟩ := e_and2 (x := z_4) (y := p0) rfl (by omega)
    refine q_c z_5 ez_5 ?_
    clear ez_5
    refine lv_istore (lv' := [(4, .int z_5), (3, .int r_2), (0, .ref h0), (1, .int p0), (2, .int 4)]) hx hb dX0_canSit_27 hl_3 (by decide) rfl (fun ls_6 hl_6 => ?_)
    clear hl_3
    refine lv_iload_n hx hb dX0_canSit_29 rfl (lv_at hl_6 1 rfl) ?_
    refine lv_iconst (v := 1) hx hb dX0_canSit_30 (by decide) ?_
    refine lv_iadd hx hb dX0_canSit_31 ?_
    obtain ⟨z_7, ez_7, hz_7⟩ := e_add (x := r_2) (y := 1) rfl (show (1 : Int32).toInt = 1 by decide) (by omega) (by omega)
    refine q_c z_7 ez_7 ?_
    clear ez_7
    refine lv_istore (lv' := [(5, .int z_7), (4, .int z_5), (3, .int r_2), (0, .ref h0), (1, .int p0), (2, .int 4)]) hx hb dX0_canSit_32 hl_6 (by decide) rfl (fun ls_8 hl_8 => ?_)
    clear hl_6
    refine q_wl (fun (v34_9_0 : Int32) H locs ls => (1 ≤ (v34_9_0).toInt ∧ (v34_9_0).toInt ≤ 10) ∧ qW D (va_A [(h0, .inr (0, [.int p1, .ref h1, w0, w1])), (h1, .inl (cy 1, 10, .inl f0))] sz) s.heap [(h0, .inr (0, [.int p1, .ref h1, w0, w1])), (h1, .inl (cy 1, 10, .inl f0))] H locs ∧ lv_has ls 6 [(0, .ref h0), (1, .int p0), (2, .int 4), (3, .int r_2), (4, .int z_5), (5, .int v34_9_0)]) (fun (v34_9_0 : Int32) => (11 - (v34_9_0).toInt).toNat) (fun q_34 ih_34 H locs ls hP => ?_) z_7 ⟨⟨by omega, by omega⟩, h_2, (lv_sub hl_8 [3, 4, 5, 2, 1, 0] rfl)⟩
    obtain ⟨v34_9_0, rfl⟩ : ∃ z, z = q_34 := ⟨_, rfl⟩
    obtain ⟨hv34_9_0, h, hl⟩ := hP
    refine lv_iload hx hb dX0_canSit_34 (lv_at hl 5 rfl) ?_
    refine lv_aload_n hx hb dX0_canSit_36 rfl (lv_at hl 0 rfl) ?_
    refine q_get X hK h 0 rfl rfl wf_0 0 (by decide) rfl wm_1_198 dX0_canSit_37 ?_
    refine lv_icmp_ge (tgt := 84) hx hb dX0_canSit_40 (by decide) (fun c_10 => ?_) (fun c_10 => ?_)
    · replace c_10 := i_le (x := p1) (y := v34_9_0) rfl rfl c_10
      refine lv_iconst (v := 0) hx hb dX0_canSit_84 (by decide) ?_
      exact q_iret X hr hlk hK h rfl (fun _ => 0, fun _ _ => 0, fun _ _ => 0) ⟨⟨by decide +kernel, by decide +kernel⟩, trivial⟩ [0, 1] rfl rfl dX0_canSit_85 (Nat.le_of_ble_eq_true rfl) (Nat.le_of_ble_eq_true rfl)
    · replace c_10 := i_nle (x := p1) (y := v34_9_0) rfl rfl c_10
      refine lv_iload hx hb dX0_canSit_43 (lv_at hl 4 rfl) ?_
      refine lv_iload hx hb dX0_canSit_45 (lv_at hl 5 rfl) ?_
      refine lv_ishr hx hb dX0_canSit_47 ?_
      obtain ⟨z_11, ez_11, hz_11⟩ := e_shr (x := z_5) v34_9_0 rfl (by omega)
      refine q_c z_11 ez_11 ?_
      clear ez_11
      refine lv_iconst (v := 1) hx hb dX0_canSit_48 (by decide) ?_
      refine lv_iand hx hb dX0_canSit_49 ?_
      obtain ⟨z_12, ez_12, hz_12⟩ := e_and2 (x := z_11) (y := 1) (show (1 : Int32).toInt = 1 by decide) (by omega)
      refine q_c z_12 ez_12 ?_
      clear ez_12
      refine lv_iconst (v := 1) hx hb dX0_canSit_50 (by decide) ?_
      refine q_jn (pc2 := 78) (fun H locs ls st => st = [] ∧ qW D (va_A [(h0, .inr (0, [.int p1, .ref h1, w0, w1])), (h1, .inl (cy 1, 10, .inl f0))] sz) s.heap [(h0, .inr (0, [.int p1, .ref h1, w0, w1])), (h1, .inl (cy 1, 10, .inl f0))] H locs ∧ lv_has ls 6 [(0, .ref h0), (1, .int p0), (2, .int 4), (3, .int r_2), (4, .int z_5), (5, .int v34_9_0)]) (fun H locs ls st hP => ?_) (fun J_78 => ?_)
      · obtain ⟨rfl, h, hl⟩ := hP
        obtain ⟨z_14, ez_14, hz_14⟩ := e_add (x := v34_9_0) (y := Int32.ofInt 1) rfl (b := 1) (by decide) (by omega) (by omega)
        refine lv_iinc (v := z_14) (lv' := [(5, .int z_14), (0, .ref h0), (1, .int p0), (2, .int 4), (3, .int r_2), (4, .int z_5)]) hx hb dX0_canSit_78 hl (k := 5) rfl ez_14 (by decide) rfl (fun ls_14 hl_14 => ?_)
        clear hl
        refine lv_goto (tgt := 34) hx hb dX0_canSit_81 (by decide) ?_
        exact ih_34 z_14 (by show (11 - (z_14).toInt).toNat < (11 - (v34_9_0).toInt).toNat; omega) _ _ _ ⟨⟨by omega, by omega⟩, h, (lv_sub hl_14 [1, 2, 3, 4, 5, 0] rfl)⟩
      · skip
        refine lv_icmp_ne (tgt := 78) hx hb dX0_canSit_51 (by decide) (fun c_15 => ?_) (fun c_15 => ?_)
        · replace c_15 := i_ne (x := z_12) (y := 1) rfl (show (1 : Int32).toInt = 1 by decide) c_15
          exact J_78 _ _ _ _ ⟨rfl, h, (lv_sub hl [0, 1, 2, 3, 4, 5] rfl)⟩
        · replace c_15 := i_eq (x := z_12) (y := 1) rfl (show (1 : Int32).toInt = 1 by decide) c_15
          refine lv_aload_n hx hb dX0_canSit_54 rfl (lv_at hl 0 rfl) ?_
          refine lv_iload_n hx hb dX0_canSit_55 rfl (lv_at hl 1 rfl) ?_
          refine lv_iconst (v := 1) hx hb dX0_canSit_56 (by decide) ?_
          refine lv_iload_n hx hb dX0_canSit_57 rfl (lv_at hl 3 rfl) ?_
          refine lv_ishl hx hb dX0_canSit_58 ?_
          obtain ⟨z_16, ez_16, hz_16⟩ := e_shlk (p := r_2) 9 (by decide) rfl (by omega) (by omega)
          refine q_c z_16 ez_16 ?_
          clear ez_16
          refine lv_iconst (v := 1) hx hb dX0_canSit_59 (by decide) ?_
          refine lv_iload hx hb dX0_canSit_60 (lv_at hl 5 rfl) ?_
          refine lv_ishl hx hb dX0_canSit_62 ?_
          obtain ⟨z_17, ez_17, hz_17⟩ := e_shlk (p := v34_9_0) 9 (by decide) rfl (by omega) (by omega)
          refine q_c z_17 ez_17 ?_
          clear ez_17
          refine lv_ior hx hb dX0_canSit_63 ?_
          obtain ⟨z_18, ez_18, hz_18⟩ := e_or (x := z_16) (y := z_17) 10 (by decide) rfl rfl (by omega) (by omega) (by omega) (by omega)
          refine q_c z_18 ez_18 ?_
          clear ez_18
          refine lv_iconst (v := (-1)) hx hb dX0_canSit_64 (by decide) ?_
          refine lv_ixor hx hb dX0_canSit_65 ?_
          refine q_any (fun z_19 hz_19 => ?_)
          refine lv_iand hx hb dX0_canSit_66 ?_
          obtain ⟨z_20, ez_20, hz_20⟩ := e_and1 (x := p0) (y := z_19) rfl (by omega)
          refine q_c z_20 ez_20 ?_
          clear ez_20
          refine lv_iload_n hx hb dX0_canSit_67 rfl (lv_at hl 2 rfl) ?_
          refine lv_iconst (v := 1) hx hb dX0_canSit_68 (by decide) ?_
          refine lv_iadd hx hb dX0_canSit_69 ?_
          refine q_c 5 (by decide +kernel) ?_
          refine q_callVi (rest := []) (wr := []) X hK hA h (fun sz => gX0_canSit_48 l D cy h0 h1 z_20 p1 w0 w1 f0 ⟨by omega, by omega⟩ ⟨by omega, by omega⟩ (rg_wide rf0 (by decide) (by decide)) sz) wm_4_117 wm_4_112 wm_1_6 hd_X0_canSit wm_4_110 wm_4_111 (ci := 0) (q0 := 0) rfl rfl ⟨Nat.le_of_ble_eq_true rfl, Nat.le_of_ble_eq_true rfl⟩ hl.1 rfl (Nat.le_of_ble_eq_true rfl) dX0_canSit_70 ⟨Nat.le_of_ble_eq_true rfl, Nat.le_of_ble_eq_true rfl⟩ [0, 1] [] rfl rfl (by decide) rfl rfl (fun r_21 u_21 H locs w_21 h_21 => ?_)
          clear h
          obtain ⟨wr_21, _⟩ := w_21
          replace h_21 : qW D _ _ [(h0, .inr (0, [.int p1, .ref h1, w0, w1])), (h1, .inl (cy 1, 10, .inl f0))] _ _ := h_21
          refine lv_if_eq (tgt := 78) hx hb dX0_canSit_73 (by decide) (fun c_22 => ?_) (fun c_22 => ?_)
          · replace c_22 := i_eq (x := r_21) (y := 0) rfl (show (0 : Int32).toInt = 0 by decide) c_22
            exact J_78 _ _ _ _ ⟨rfl, h_21, (lv_sub hl [0, 1, 2, 3, 4, 5] rfl)⟩
          · replace c_22 := i_ne (x := r_21) (y := 0) rfl (show (0 : Int32).toInt = 0 by decide) c_22
            refine lv_iconst (v := 1) hx hb dX0_canSit_76 (by decide) ?_
            exact q_iret X hr hlk hK h_21 rfl (fun _ => 0, fun _ _ => 0, fun _ _ => 0) ⟨⟨by decide +kernel, by decide +kernel⟩, trivial⟩ [0, 1] rfl rfl dX0_canSit_77 (Nat.le_of_ble_eq_true rfl) (Nat.le_of_ble_eq_true rfl)
  · replace c_1 := i_eq (x := p0) (y := 0) rfl (show (0 : Int32).toInt = 0 by decide) c_1
    refine lv_iconst (v := 1) hx hb dX0_canSit_4 (by decide) ?_
    exact q_iret X hr hlk hK h rfl (fun _ => 0, fun _ _ => 0, fun _ _ => 0) ⟨⟨by decide +kernel, by decide +kernel⟩, trivial⟩ [0, 1] rfl rfl dX0_canSit_5 (Nat.le_of_ble_eq_true rfl) (Nat.le_of_ble_eq_true rfl)
set_option maxHeartbeats 4000000 in
set_option maxRecDepth 100000 in
theorem gX0_canSit_50 (l : Launch) (D : va_G) (cy : Nat → ClassId) (h0 : Nat) (h1 : Nat) (p0 : Int32) (p1 : Int32) (w0 : Value) (w1 : Value) (f0 : Nat → Int32) (hp0 : 0 ≤ (p0).toInt ∧ (p0).toInt ≤ 1023) (hp1 : 2 ≤ (p1).toInt ∧ (p1).toInt ≤ 10) (rf0 : RG f0 10 0 1023) (sz : Nat) : MI l yX0_canSit cX0_canSit 6 .boolean { frames := 8, cells := 0, slots := 0, locals := 190 } [.ref h0, .int p0, .int 3] D cy [(h0, .inr (0, [.int p1, .ref h1, w0, w1])), (h1, .inl (cy 1, 10, .inl f0))] sz (fun r u => (0 ≤ r.toInt ∧ r.toInt ≤ 1) ∧ True) (fun u => [(h0, .inr (0, [.int p1, .ref h1, w0, w1])), (h1, .inl (cy 1, 10, .inl f0))]) 0 0 := by
  refine q_ent (own := RX0) (by decide) rfl (Nat.le_of_ble_eq_true rfl) (fun p e s m below meth c ls X hr hlk hnm hK h hA hl => ?_)
  obtain ⟨hx, hb, hml, hown, ht⟩ := id X
  replace hl : lv_has ls 6 [(0, .ref h0), (1, .int p0), (2, .int 3)] := hl
  refine lv_iload_n hx hb dX0_canSit_0 rfl (lv_at hl 1 rfl) ?_
  refine lv_if_ne (tgt := 6) hx hb dX0_canSit_1 (by decide) (fun c_1 => ?_) (fun c_1 => ?_)
  · replace c_1 := i_ne (x := p0) (y := 0) rfl (show (0 : Int32).toInt = 0 by decide) c_1
    refine lv_iload_n hx hb dX0_canSit_6 rfl (lv_at hl 2 rfl) ?_
    refine lv_bipush (v := 10) hx hb dX0_canSit_7 (by decide) ?_
    refine lv_icmp_lt (tgt := 14) hx hb dX0_canSit_9 (by decide) (fun _ => ?_) (fun c => absurd c (by decide +kernel))
    refine lv_iload_n hx hb dX0_canSit_14 rfl (lv_at hl 1 rfl) ?_
    refine q_callSi (rest := []) (wr := [(h0, .inr (0, [.int p1, .ref h1, w0, w1])), (h1, .inl (cy 1, 10, .inl f0))]) X hK hA h (fun sz => gX0_lowestOf_42 l D cy p0 ⟨by omega, by omega⟩ sz) wm_4_113 wm_4_115 wm_1_6 hd_X0_lowestOf wm_4_114 ⟨Nat.le_of_ble_eq_true rfl, Nat.le_of_ble_eq_true rfl⟩ hl.1 rfl (Nat.le_of_ble_eq_true rfl) dX0_canSit_15 ⟨Nat.le_of_ble_eq_true rfl, Nat.le_of_ble_eq_true rfl⟩ [] [0, 1] rfl rfl (by decide) rfl rfl (fun r_2 u_2 H locs w_2 h_2 => ?_)
    clear h
    obtain ⟨wr_2, _⟩ := w_2
    replace h_2 : qW D _ _ [(h0, .inr (0, [.int p1, .ref h1, w0, w1])), (h1, .inl (cy 1, 10, .inl f0))] _ _ := h_2
    refine lv_istore_n (lv' := [(3, .int r_2), (0, .ref h0), (1, .int p0), (2, .int 3)]) hx hb dX0_canSit_18 rfl hl (by decide) rfl (fun ls_3 hl_3 => ?_)
    clear hl
    refine lv_aload_n hx hb dX0_canSit_19 rfl (lv_at hl_3 1 rfl) ?_
    refine q_get X hK h_2 0 rfl rfl wf_0 1 (by decide) rfl wm_1_199 dX0_canSit_20 ?_
    refine lv_iload_n hx hb dX0_canSit_23 rfl (lv_at hl_3 0 rfl) ?_
    refine q_iald X hK h_2 1 rfl (i_in rfl (by omega) (by omega)) dX0_canSit_24 ?_
    obtain ⟨z_4, ez_4, hz_4⟩ := rg_get rf0 (x := r_2) rfl (by omega) (by omega)
    refine q_c z_4 ez_4 ?_
    clear ez_4
    refine lv_iload_n hx hb dX0_canSit_25 rfl (lv_at hl_3 2 rfl) ?_
    refine lv_iand hx hb dX0_canSit_26 ?_
    obtain ⟨z_5, ez_5, hz_5⟩ := e_and2 (x := z_4) (y := p0) rfl (by omega)
    refine q_c z_5 ez_5 ?_
    clear ez_5
    refine lv_istore (lv' := [(4, .int z_5), (3, .int r_2), (0, .ref h0), (1, .int p0), (2, .int 3)]) hx hb dX0_canSit_27 hl_3 (by decide) rfl (fun ls_6 hl_6 => ?_)
    clear hl_3
    refine lv_iload_n hx hb dX0_canSit_29 rfl (lv_at hl_6 1 rfl) ?_
    refine lv_iconst (v := 1) hx hb dX0_canSit_30 (by decide) ?_
    refine lv_iadd hx hb dX0_canSit_31 ?_
    obtain ⟨z_7, ez_7, hz_7⟩ := e_add (x := r_2) (y := 1) rfl (show (1 : Int32).toInt = 1 by decide) (by omega) (by omega)
    refine q_c z_7 ez_7 ?_
    clear ez_7
    refine lv_istore (lv' := [(5, .int z_7), (4, .int z_5), (3, .int r_2), (0, .ref h0), (1, .int p0), (2, .int 3)]) hx hb dX0_canSit_32 hl_6 (by decide) rfl (fun ls_8 hl_8 => ?_)
    clear hl_6
    refine q_wl (fun (v34_9_0 : Int32) H locs ls => (1 ≤ (v34_9_0).toInt ∧ (v34_9_0).toInt ≤ 10) ∧ qW D (va_A [(h0, .inr (0, [.int p1, .ref h1, w0, w1])), (h1, .inl (cy 1, 10, .inl f0))] sz) s.heap [(h0, .inr (0, [.int p1, .ref h1, w0, w1])), (h1, .inl (cy 1, 10, .inl f0))] H locs ∧ lv_has ls 6 [(0, .ref h0), (1, .int p0), (2, .int 3), (3, .int r_2), (4, .int z_5), (5, .int v34_9_0)]) (fun (v34_9_0 : Int32) => (11 - (v34_9_0).toInt).toNat) (fun q_34 ih_34 H locs ls hP => ?_) z_7 ⟨⟨by omega, by omega⟩, h_2, (lv_sub hl_8 [3, 4, 5, 2, 1, 0] rfl)⟩
    obtain ⟨v34_9_0, rfl⟩ : ∃ z, z = q_34 := ⟨_, rfl⟩
    obtain ⟨hv34_9_0, h, hl⟩ := hP
    refine lv_iload hx hb dX0_canSit_34 (lv_at hl 5 rfl) ?_
    refine lv_aload_n hx hb dX0_canSit_36 rfl (lv_at hl 0 rfl) ?_
    refine q_get X hK h 0 rfl rfl wf_0 0 (by decide) rfl wm_1_198 dX0_canSit_37 ?_
    refine lv_icmp_ge (tgt := 84) hx hb dX0_canSit_40 (by decide) (fun c_10 => ?_) (fun c_10 => ?_)
    · replace c_10 := i_le (x := p1) (y := v34_9_0) rfl rfl c_10
      refine lv_iconst (v := 0) hx hb dX0_canSit_84 (by decide) ?_
      exact q_iret X hr hlk hK h rfl (fun _ => 0, fun _ _ => 0, fun _ _ => 0) ⟨⟨by decide +kernel, by decide +kernel⟩, trivial⟩ [0, 1] rfl rfl dX0_canSit_85 (Nat.le_of_ble_eq_true rfl) (Nat.le_of_ble_eq_true rfl)
    · replace c_10 := i_nle (x := p1) (y := v34_9_0) rfl rfl c_10
      refine lv_iload hx hb dX0_canSit_43 (lv_at hl 4 rfl) ?_
      refine lv_iload hx hb dX0_canSit_45 (lv_at hl 5 rfl) ?_
      refine lv_ishr hx hb dX0_canSit_47 ?_
      obtain ⟨z_11, ez_11, hz_11⟩ := e_shr (x := z_5) v34_9_0 rfl (by omega)
      refine q_c z_11 ez_11 ?_
      clear ez_11
      refine lv_iconst (v := 1) hx hb dX0_canSit_48 (by decide) ?_
      refine lv_iand hx hb dX0_canSit_49 ?_
      obtain ⟨z_12, ez_12, hz_12⟩ := e_and2 (x := z_11) (y := 1) (show (1 : Int32).toInt = 1 by decide) (by omega)
      refine q_c z_12 ez_12 ?_
      clear ez_12
      refine lv_iconst (v := 1) hx hb dX0_canSit_50 (by decide) ?_
      refine q_jn (pc2 := 78) (fun H locs ls st => st = [] ∧ qW D (va_A [(h0, .inr (0, [.int p1, .ref h1, w0, w1])), (h1, .inl (cy 1, 10, .inl f0))] sz) s.heap [(h0, .inr (0, [.int p1, .ref h1, w0, w1])), (h1, .inl (cy 1, 10, .inl f0))] H locs ∧ lv_has ls 6 [(0, .ref h0), (1, .int p0), (2, .int 3), (3, .int r_2), (4, .int z_5), (5, .int v34_9_0)]) (fun H locs ls st hP => ?_) (fun J_78 => ?_)
      · obtain ⟨rfl, h, hl⟩ := hP
        obtain ⟨z_14, ez_14, hz_14⟩ := e_add (x := v34_9_0) (y := Int32.ofInt 1) rfl (b := 1) (by decide) (by omega) (by omega)
        refine lv_iinc (v := z_14) (lv' := [(5, .int z_14), (0, .ref h0), (1, .int p0), (2, .int 3), (3, .int r_2), (4, .int z_5)]) hx hb dX0_canSit_78 hl (k := 5) rfl ez_14 (by decide) rfl (fun ls_14 hl_14 => ?_)
        clear hl
        refine lv_goto (tgt := 34) hx hb dX0_canSit_81 (by decide) ?_
        exact ih_34 z_14 (by show (11 - (z_14).toInt).toNat < (11 - (v34_9_0).toInt).toNat; omega) _ _ _ ⟨⟨by omega, by omega⟩, h, (lv_sub hl_14 [1, 2, 3, 4, 5, 0] rfl)⟩
      · skip
        refine lv_icmp_ne (tgt := 78) hx hb dX0_canSit_51 (by decide) (fun c_15 => ?_) (fun c_15 => ?_)
        · replace c_15 := i_ne (x := z_12) (y := 1) rfl (show (1 : Int32).toInt = 1 by decide) c_15
          exact J_78 _ _ _ _ ⟨rfl, h, (lv_sub hl [0, 1, 2, 3, 4, 5] rfl)⟩
        · replace c_15 := i_eq (x := z_12) (y := 1) rfl (show (1 : Int32).toInt = 1 by decide) c_15
          refine lv_aload_n hx hb dX0_canSit_54 rfl (lv_at hl 0 rfl) ?_
          refine lv_iload_n hx hb dX0_canSit_55 rfl (lv_at hl 1 rfl) ?_
          refine lv_iconst (v := 1) hx hb dX0_canSit_56 (by decide) ?_
          refine lv_iload_n hx hb dX0_canSit_57 rfl (lv_at hl 3 rfl) ?_
          refine lv_ishl hx hb dX0_canSit_58 ?_
          obtain ⟨z_16, ez_16, hz_16⟩ := e_shlk (p := r_2) 9 (by decide) rfl (by omega) (by omega)
          refine q_c z_16 ez_16 ?_
          clear ez_16
          refine lv_iconst (v := 1) hx hb dX0_canSit_59 (by decide) ?_
          refine lv_iload hx hb dX0_canSit_60 (lv_at hl 5 rfl) ?_
          refine lv_ishl hx hb dX0_canSit_62 ?_
          obtain ⟨z_17, ez_17, hz_17⟩ := e_shlk (p := v34_9_0) 9 (by decide) rfl (by omega) (by omega)
          refine q_c z_17 ez_17 ?_
          clear ez_17
          refine lv_ior hx hb dX0_canSit_63 ?_
          obtain ⟨z_18, ez_18, hz_18⟩ := e_or (x := z_16) (y := z_17) 10 (by decide) rfl rfl (by omega) (by omega) (by omega) (by omega)
          refine q_c z_18 ez_18 ?_
          clear ez_18
          refine lv_iconst (v := (-1)) hx hb dX0_canSit_64 (by decide) ?_
          refine lv_ixor hx hb dX0_canSit_65 ?_
          refine q_any (fun z_19 hz_19 => ?_)
          refine lv_iand hx hb dX0_canSit_66 ?_
          obtain ⟨z_20, ez_20, hz_20⟩ := e_and1 (x := p0) (y := z_19) rfl (by omega)
          refine q_c z_20 ez_20 ?_
          clear ez_20
          refine lv_iload_n hx hb dX0_canSit_67 rfl (lv_at hl 2 rfl) ?_
          refine lv_iconst (v := 1) hx hb dX0_canSit_68 (by decide) ?_
          refine lv_iadd hx hb dX0_canSit_69 ?_
          refine q_c 4 (by decide +kernel) ?_
          refine q_callVi (rest := []) (wr := []) X hK hA h (fun sz => gX0_canSit_49 l D cy h0 h1 z_20 p1 w0 w1 f0 ⟨by omega, by omega⟩ ⟨by omega, by omega⟩ (rg_wide rf0 (by decide) (by decide)) sz) wm_4_117 wm_4_112 wm_1_6 hd_X0_canSit wm_4_110 wm_4_111 (ci := 0) (q0 := 0) rfl rfl ⟨Nat.le_of_ble_eq_true rfl, Nat.le_of_ble_eq_true rfl⟩ hl.1 rfl (Nat.le_of_ble_eq_true rfl) dX0_canSit_70 ⟨Nat.le_of_ble_eq_true rfl, Nat.le_of_ble_eq_true rfl⟩ [0, 1] [] rfl rfl (by decide) rfl rfl (fun r_21 u_21 H locs w_21 h_21 => ?_)
          clear h
          obtain ⟨wr_21, _⟩ := w_21
          replace h_21 : qW D _ _ [(h0, .inr (0, [.int p1, .ref h1, w0, w1])), (h1, .inl (cy 1, 10, .inl f0))] _ _ := h_21
          refine lv_if_eq (tgt := 78) hx hb dX0_canSit_73 (by decide) (fun c_22 => ?_) (fun c_22 => ?_)
          · replace c_22 := i_eq (x := r_21) (y := 0) rfl (show (0 : Int32).toInt = 0 by decide) c_22
            exact J_78 _ _ _ _ ⟨rfl, h_21, (lv_sub hl [0, 1, 2, 3, 4, 5] rfl)⟩
          · replace c_22 := i_ne (x := r_21) (y := 0) rfl (show (0 : Int32).toInt = 0 by decide) c_22
            refine lv_iconst (v := 1) hx hb dX0_canSit_76 (by decide) ?_
            exact q_iret X hr hlk hK h_21 rfl (fun _ => 0, fun _ _ => 0, fun _ _ => 0) ⟨⟨by decide +kernel, by decide +kernel⟩, trivial⟩ [0, 1] rfl rfl dX0_canSit_77 (Nat.le_of_ble_eq_true rfl) (Nat.le_of_ble_eq_true rfl)
  · replace c_1 := i_eq (x := p0) (y := 0) rfl (show (0 : Int32).toInt = 0 by decide) c_1
    refine lv_iconst (v := 1) hx hb dX0_canSit_4 (by decide) ?_
    exact q_iret X hr hlk hK h rfl (fun _ => 0, fun _ _ => 0, fun _ _ => 0) ⟨⟨by decide +kernel, by decide +kernel⟩, trivial⟩ [0, 1] rfl rfl dX0_canSit_5 (Nat.le_of_ble_eq_true rfl) (Nat.le_of_ble_eq_true rfl)
set_option maxHeartbeats 4000000 in
set_option maxRecDepth 100000 in
theorem gX0_canSit_51 (l : Launch) (D : va_G) (cy : Nat → ClassId) (h0 : Nat) (h1 : Nat) (p0 : Int32) (p1 : Int32) (w0 : Value) (w1 : Value) (f0 : Nat → Int32) (hp0 : 0 ≤ (p0).toInt ∧ (p0).toInt ≤ 1023) (hp1 : 2 ≤ (p1).toInt ∧ (p1).toInt ≤ 10) (rf0 : RG f0 10 0 1023) (sz : Nat) : MI l yX0_canSit cX0_canSit 6 .boolean { frames := 9, cells := 0, slots := 0, locals := 215 } [.ref h0, .int p0, .int 2] D cy [(h0, .inr (0, [.int p1, .ref h1, w0, w1])), (h1, .inl (cy 1, 10, .inl f0))] sz (fun r u => (0 ≤ r.toInt ∧ r.toInt ≤ 1) ∧ True) (fun u => [(h0, .inr (0, [.int p1, .ref h1, w0, w1])), (h1, .inl (cy 1, 10, .inl f0))]) 0 0 := by
  refine q_ent (own := RX0) (by decide) rfl (Nat.le_of_ble_eq_true rfl) (fun p e s m below meth c ls X hr hlk hnm hK h hA hl => ?_)
  obtain ⟨hx, hb, hml, hown, ht⟩ := id X
  replace hl : lv_has ls 6 [(0, .ref h0), (1, .int p0), (2, .int 2)] := hl
  refine lv_iload_n hx hb dX0_canSit_0 rfl (lv_at hl 1 rfl) ?_
  refine lv_if_ne (tgt := 6) hx hb dX0_canSit_1 (by decide) (fun c_1 => ?_) (fun c_1 => ?_)
  · replace c_1 := i_ne (x := p0) (y := 0) rfl (show (0 : Int32).toInt = 0 by decide) c_1
    refine lv_iload_n hx hb dX0_canSit_6 rfl (lv_at hl 2 rfl) ?_
    refine lv_bipush (v := 10) hx hb dX0_canSit_7 (by decide) ?_
    refine lv_icmp_lt (tgt := 14) hx hb dX0_canSit_9 (by decide) (fun _ => ?_) (fun c => absurd c (by decide +kernel))
    refine lv_iload_n hx hb dX0_canSit_14 rfl (lv_at hl 1 rfl) ?_
    refine q_callSi (rest := []) (wr := [(h0, .inr (0, [.int p1, .ref h1, w0, w1])), (h1, .inl (cy 1, 10, .inl f0))]) X hK hA h (fun sz => gX0_lowestOf_42 l D cy p0 ⟨by omega, by omega⟩ sz) wm_4_113 wm_4_115 wm_1_6 hd_X0_lowestOf wm_4_114 ⟨Nat.le_of_ble_eq_true rfl, Nat.le_of_ble_eq_true rfl⟩ hl.1 rfl (Nat.le_of_ble_eq_true rfl) dX0_canSit_15 ⟨Nat.le_of_ble_eq_true rfl, Nat.le_of_ble_eq_true rfl⟩ [] [0, 1] rfl rfl (by decide) rfl rfl (fun r_2 u_2 H locs w_2 h_2 => ?_)
    clear h
    obtain ⟨wr_2, _⟩ := w_2
    replace h_2 : qW D _ _ [(h0, .inr (0, [.int p1, .ref h1, w0, w1])), (h1, .inl (cy 1, 10, .inl f0))] _ _ := h_2
    refine lv_istore_n (lv' := [(3, .int r_2), (0, .ref h0), (1, .int p0), (2, .int 2)]) hx hb dX0_canSit_18 rfl hl (by decide) rfl (fun ls_3 hl_3 => ?_)
    clear hl
    refine lv_aload_n hx hb dX0_canSit_19 rfl (lv_at hl_3 1 rfl) ?_
    refine q_get X hK h_2 0 rfl rfl wf_0 1 (by decide) rfl wm_1_199 dX0_canSit_20 ?_
    refine lv_iload_n hx hb dX0_canSit_23 rfl (lv_at hl_3 0 rfl) ?_
    refine q_iald X hK h_2 1 rfl (i_in rfl (by omega) (by omega)) dX0_canSit_24 ?_
    obtain ⟨z_4, ez_4, hz_4⟩ := rg_get rf0 (x := r_2) rfl (by omega) (by omega)
    refine q_c z_4 ez_4 ?_
    clear ez_4
    refine lv_iload_n hx hb dX0_canSit_25 rfl (lv_at hl_3 2 rfl) ?_
    refine lv_iand hx hb dX0_canSit_26 ?_
    obtain ⟨z_5, ez_5, hz_5⟩ := e_and2 (x := z_4) (y := p0) rfl (by omega)
    refine q_c z_5 ez_5 ?_
    clear ez_5
    refine lv_istore (lv' := [(4, .int z_5), (3, .int r_2), (0, .ref h0), (1, .int p0), (2, .int 2)]) hx hb dX0_canSit_27 hl_3 (by decide) rfl (fun ls_6 hl_6 => ?_)
    clear hl_3
    refine lv_iload_n hx hb dX0_canSit_29 rfl (lv_at hl_6 1 rfl) ?_
    refine lv_iconst (v := 1) hx hb dX0_canSit_30 (by decide) ?_
    refine lv_iadd hx hb dX0_canSit_31 ?_
    obtain ⟨z_7, ez_7, hz_7⟩ := e_add (x := r_2) (y := 1) rfl (show (1 : Int32).toInt = 1 by decide) (by omega) (by omega)
    refine q_c z_7 ez_7 ?_
    clear ez_7
    refine lv_istore (lv' := [(5, .int z_7), (4, .int z_5), (3, .int r_2), (0, .ref h0), (1, .int p0), (2, .int 2)]) hx hb dX0_canSit_32 hl_6 (by decide) rfl (fun ls_8 hl_8 => ?_)
    clear hl_6
    refine q_wl (fun (v34_9_0 : Int32) H locs ls => (1 ≤ (v34_9_0).toInt ∧ (v34_9_0).toInt ≤ 10) ∧ qW D (va_A [(h0, .inr (0, [.int p1, .ref h1, w0, w1])), (h1, .inl (cy 1, 10, .inl f0))] sz) s.heap [(h0, .inr (0, [.int p1, .ref h1, w0, w1])), (h1, .inl (cy 1, 10, .inl f0))] H locs ∧ lv_has ls 6 [(0, .ref h0), (1, .int p0), (2, .int 2), (3, .int r_2), (4, .int z_5), (5, .int v34_9_0)]) (fun (v34_9_0 : Int32) => (11 - (v34_9_0).toInt).toNat) (fun q_34 ih_34 H locs ls hP => ?_) z_7 ⟨⟨by omega, by omega⟩, h_2, (lv_sub hl_8 [3, 4, 5, 2, 1, 0] rfl)⟩
    obtain ⟨v34_9_0, rfl⟩ : ∃ z, z = q_34 := ⟨_, rfl⟩
    obtain ⟨hv34_9_0, h, hl⟩ := hP
    refine lv_iload hx hb dX0_canSit_34 (lv_at hl 5 rfl) ?_
    refine lv_aload_n hx hb dX0_canSit_36 rfl (lv_at hl 0 rfl) ?_
    refine q_get X hK h 0 rfl rfl wf_0 0 (by decide) rfl wm_1_198 dX0_canSit_37 ?_
    refine lv_icmp_ge (tgt := 84) hx hb dX0_canSit_40 (by decide) (fun c_10 => ?_) (fun c_10 => ?_)
    · replace c_10 := i_le (x := p1) (y := v34_9_0) rfl rfl c_10
      refine lv_iconst (v := 0) hx hb dX0_canSit_84 (by decide) ?_
      exact q_iret X hr hlk hK h rfl (fun _ => 0, fun _ _ => 0, fun _ _ => 0) ⟨⟨by decide +kernel, by decide +kernel⟩, trivial⟩ [0, 1] rfl rfl dX0_canSit_85 (Nat.le_of_ble_eq_true rfl) (Nat.le_of_ble_eq_true rfl)
    · replace c_10 := i_nle (x := p1) (y := v34_9_0) rfl rfl c_10
      refine lv_iload hx hb dX0_canSit_43 (lv_at hl 4 rfl) ?_
      refine lv_iload hx hb dX0_canSit_45 (lv_at hl 5 rfl) ?_
      refine lv_ishr hx hb dX0_canSit_47 ?_
      obtain ⟨z_11, ez_11, hz_11⟩ := e_shr (x := z_5) v34_9_0 rfl (by omega)
      refine q_c z_11 ez_11 ?_
      clear ez_11
      refine lv_iconst (v := 1) hx hb dX0_canSit_48 (by decide) ?_
      refine lv_iand hx hb dX0_canSit_49 ?_
      obtain ⟨z_12, ez_12, hz_12⟩ := e_and2 (x := z_11) (y := 1) (show (1 : Int32).toInt = 1 by decide) (by omega)
      refine q_c z_12 ez_12 ?_
      clear ez_12
      refine lv_iconst (v := 1) hx hb dX0_canSit_50 (by decide) ?_
      refine q_jn (pc2 := 78) (fun H locs ls st => st = [] ∧ qW D (va_A [(h0, .inr (0, [.int p1, .ref h1, w0, w1])), (h1, .inl (cy 1, 10, .inl f0))] sz) s.heap [(h0, .inr (0, [.int p1, .ref h1, w0, w1])), (h1, .inl (cy 1, 10, .inl f0))] H locs ∧ lv_has ls 6 [(0, .ref h0), (1, .int p0), (2, .int 2), (3, .int r_2), (4, .int z_5), (5, .int v34_9_0)]) (fun H locs ls st hP => ?_) (fun J_78 => ?_)
      · obtain ⟨rfl, h, hl⟩ := hP
        obtain ⟨z_14, ez_14, hz_14⟩ := e_add (x := v34_9_0) (y := Int32.ofInt 1) rfl (b := 1) (by decide) (by omega) (by omega)
        refine lv_iinc (v := z_14) (lv' := [(5, .int z_14), (0, .ref h0), (1, .int p0), (2, .int 2), (3, .int r_2), (4, .int z_5)]) hx hb dX0_canSit_78 hl (k := 5) rfl ez_14 (by decide) rfl (fun ls_14 hl_14 => ?_)
        clear hl
        refine lv_goto (tgt := 34) hx hb dX0_canSit_81 (by decide) ?_
        exact ih_34 z_14 (by show (11 - (z_14).toInt).toNat < (11 - (v34_9_0).toInt).toNat; omega) _ _ _ ⟨⟨by omega, by omega⟩, h, (lv_sub hl_14 [1, 2, 3, 4, 5, 0] rfl)⟩
      · skip
        refine lv_icmp_ne (tgt := 78) hx hb dX0_canSit_51 (by decide) (fun c_15 => ?_) (fun c_15 => ?_)
        · replace c_15 := i_ne (x := z_12) (y := 1) rfl (show (1 : Int32).toInt = 1 by decide) c_15
          exact J_78 _ _ _ _ ⟨rfl, h, (lv_sub hl [0, 1, 2, 3, 4, 5] rfl)⟩
        · replace c_15 := i_eq (x := z_12) (y := 1) rfl (show (1 : Int32).toInt = 1 by decide) c_15
          refine lv_aload_n hx hb dX0_canSit_54 rfl (lv_at hl 0 rfl) ?_
          refine lv_iload_n hx hb dX0_canSit_55 rfl (lv_at hl 1 rfl) ?_
          refine lv_iconst (v := 1) hx hb dX0_canSit_56 (by decide) ?_
          refine lv_iload_n hx hb dX0_canSit_57 rfl (lv_at hl 3 rfl) ?_
          refine lv_ishl hx hb dX0_canSit_58 ?_
          obtain ⟨z_16, ez_16, hz_16⟩ := e_shlk (p := r_2) 9 (by decide) rfl (by omega) (by omega)
          refine q_c z_16 ez_16 ?_
          clear ez_16
          refine lv_iconst (v := 1) hx hb dX0_canSit_59 (by decide) ?_
          refine lv_iload hx hb dX0_canSit_60 (lv_at hl 5 rfl) ?_
          refine lv_ishl hx hb dX0_canSit_62 ?_
          obtain ⟨z_17, ez_17, hz_17⟩ := e_shlk (p := v34_9_0) 9 (by decide) rfl (by omega) (by omega)
          refine q_c z_17 ez_17 ?_
          clear ez_17
          refine lv_ior hx hb dX0_canSit_63 ?_
          obtain ⟨z_18, ez_18, hz_18⟩ := e_or (x := z_16) (y := z_17) 10 (by decide) rfl rfl (by omega) (by omega) (by omega) (by omega)
          refine q_c z_18 ez_18 ?_
          clear ez_18
          refine lv_iconst (v := (-1)) hx hb dX0_canSit_64 (by decide) ?_
          refine lv_ixor hx hb dX0_canSit_65 ?_
          refine q_any (fun z_19 hz_19 => ?_)
          refine lv_iand hx hb dX0_canSit_66 ?_
          obtain ⟨z_20, ez_20, hz_20⟩ := e_and1 (x := p0) (y := z_19) rfl (by omega)
          refine q_c z_20 ez_20 ?_
          clear ez_20
          refine lv_iload_n hx hb dX0_canSit_67 rfl (lv_at hl 2 rfl) ?_
          refine lv_iconst (v := 1) hx hb dX0_canSit_68 (by decide) ?_
          refine lv_iadd hx hb dX0_canSit_69 ?_
          refine q_c 3 (by decide +kernel) ?_
          refine q_callVi (rest := []) (wr := []) X hK hA h (fun sz => gX0_canSit_50 l D cy h0 h1 z_20 p1 w0 w1 f0 ⟨by omega, by omega⟩ ⟨by omega, by omega⟩ (rg_wide rf0 (by decide) (by decide)) sz) wm_4_117 wm_4_112 wm_1_6 hd_X0_canSit wm_4_110 wm_4_111 (ci := 0) (q0 := 0) rfl rfl ⟨Nat.le_of_ble_eq_true rfl, Nat.le_of_ble_eq_true rfl⟩ hl.1 rfl (Nat.le_of_ble_eq_true rfl) dX0_canSit_70 ⟨Nat.le_of_ble_eq_true rfl, Nat.le_of_ble_eq_true rfl⟩ [0, 1] [] rfl rfl (by decide) rfl rfl (fun r_21 u_21 H locs w_21 h_21 => ?_)
          clear h
          obtain ⟨wr_21, _⟩ := w_21
          replace h_21 : qW D _ _ [(h0, .inr (0, [.int p1, .ref h1, w0, w1])), (h1, .inl (cy 1, 10, .inl f0))] _ _ := h_21
          refine lv_if_eq (tgt := 78) hx hb dX0_canSit_73 (by decide) (fun c_22 => ?_) (fun c_22 => ?_)
          · replace c_22 := i_eq (x := r_21) (y := 0) rfl (show (0 : Int32).toInt = 0 by decide) c_22
            exact J_78 _ _ _ _ ⟨rfl, h_21, (lv_sub hl [0, 1, 2, 3, 4, 5] rfl)⟩
          · replace c_22 := i_ne (x := r_21) (y := 0) rfl (show (0 : Int32).toInt = 0 by decide) c_22
            refine lv_iconst (v := 1) hx hb dX0_canSit_76 (by decide) ?_
            exact q_iret X hr hlk hK h_21 rfl (fun _ => 0, fun _ _ => 0, fun _ _ => 0) ⟨⟨by decide +kernel, by decide +kernel⟩, trivial⟩ [0, 1] rfl rfl dX0_canSit_77 (Nat.le_of_ble_eq_true rfl) (Nat.le_of_ble_eq_true rfl)
  · replace c_1 := i_eq (x := p0) (y := 0) rfl (show (0 : Int32).toInt = 0 by decide) c_1
    refine lv_iconst (v := 1) hx hb dX0_canSit_4 (by decide) ?_
    exact q_iret X hr hlk hK h rfl (fun _ => 0, fun _ _ => 0, fun _ _ => 0) ⟨⟨by decide +kernel, by decide +kernel⟩, trivial⟩ [0, 1] rfl rfl dX0_canSit_5 (Nat.le_of_ble_eq_true rfl) (Nat.le_of_ble_eq_true rfl)
set_option maxHeartbeats 4000000 in
set_option maxRecDepth 100000 in
theorem gX0_canSit_52 (l : Launch) (D : va_G) (cy : Nat → ClassId) (h0 : Nat) (h1 : Nat) (p0 : Int32) (p1 : Int32) (w0 : Value) (w1 : Value) (f0 : Nat → Int32) (hp0 : 0 ≤ (p0).toInt ∧ (p0).toInt ≤ 1023) (hp1 : 2 ≤ (p1).toInt ∧ (p1).toInt ≤ 10) (rf0 : RG f0 10 0 1023) (sz : Nat) : MI l yX0_canSit cX0_canSit 6 .boolean { frames := 10, cells := 0, slots := 0, locals := 240 } [.ref h0, .int p0, .int 1] D cy [(h0, .inr (0, [.int p1, .ref h1, w0, w1])), (h1, .inl (cy 1, 10, .inl f0))] sz (fun r u => (0 ≤ r.toInt ∧ r.toInt ≤ 1) ∧ True) (fun u => [(h0, .inr (0, [.int p1, .ref h1, w0, w1])), (h1, .inl (cy 1, 10, .inl f0))]) 0 0 := by
  refine q_ent (own := RX0) (by decide) rfl (Nat.le_of_ble_eq_true rfl) (fun p e s m below meth c ls X hr hlk hnm hK h hA hl => ?_)
  obtain ⟨hx, hb, hml, hown, ht⟩ := id X
  replace hl : lv_has ls 6 [(0, .ref h0), (1, .int p0), (2, .int 1)] := hl
  refine lv_iload_n hx hb dX0_canSit_0 rfl (lv_at hl 1 rfl) ?_
  refine lv_if_ne (tgt := 6) hx hb dX0_canSit_1 (by decide) (fun c_1 => ?_) (fun c_1 => ?_)
  · replace c_1 := i_ne (x := p0) (y := 0) rfl (show (0 : Int32).toInt = 0 by decide) c_1
    refine lv_iload_n hx hb dX0_canSit_6 rfl (lv_at hl 2 rfl) ?_
    refine lv_bipush (v := 10) hx hb dX0_canSit_7 (by decide) ?_
    refine lv_icmp_lt (tgt := 14) hx hb dX0_canSit_9 (by decide) (fun _ => ?_) (fun c => absurd c (by decide +kernel))
    refine lv_iload_n hx hb dX0_canSit_14 rfl (lv_at hl 1 rfl) ?_
    refine q_callSi (rest := []) (wr := [(h0, .inr (0, [.int p1, .ref h1, w0, w1])), (h1, .inl (cy 1, 10, .inl f0))]) X hK hA h (fun sz => gX0_lowestOf_42 l D cy p0 ⟨by omega, by omega⟩ sz) wm_4_113 wm_4_115 wm_1_6 hd_X0_lowestOf wm_4_114 ⟨Nat.le_of_ble_eq_true rfl, Nat.le_of_ble_eq_true rfl⟩ hl.1 rfl (Nat.le_of_ble_eq_true rfl) dX0_canSit_15 ⟨Nat.le_of_ble_eq_true rfl, Nat.le_of_ble_eq_true rfl⟩ [] [0, 1] rfl rfl (by decide) rfl rfl (fun r_2 u_2 H locs w_2 h_2 => ?_)
    clear h
    obtain ⟨wr_2, _⟩ := w_2
    replace h_2 : qW D _ _ [(h0, .inr (0, [.int p1, .ref h1, w0, w1])), (h1, .inl (cy 1, 10, .inl f0))] _ _ := h_2
    refine lv_istore_n (lv' := [(3, .int r_2), (0, .ref h0), (1, .int p0), (2, .int 1)]) hx hb dX0_canSit_18 rfl hl (by decide) rfl (fun ls_3 hl_3 => ?_)
    clear hl
    refine lv_aload_n hx hb dX0_canSit_19 rfl (lv_at hl_3 1 rfl) ?_
    refine q_get X hK h_2 0 rfl rfl wf_0 1 (by decide) rfl wm_1_199 dX0_canSit_20 ?_
    refine lv_iload_n hx hb dX0_canSit_23 rfl (lv_at hl_3 0 rfl) ?_
    refine q_iald X hK h_2 1 rfl (i_in rfl (by omega) (by omega)) dX0_canSit_24 ?_
    obtain ⟨z_4, ez_4, hz_4⟩ := rg_get rf0 (x := r_2) rfl (by omega) (by omega)
    refine q_c z_4 ez_4 ?_
    clear ez_4
    refine lv_iload_n hx hb dX0_canSit_25 rfl (lv_at hl_3 2 rfl) ?_
    refine lv_iand hx hb dX0_canSit_26 ?_
    obtain ⟨z_5, ez_5, hz_5⟩ := e_and2 (x := z_4) (y := p0) rfl (by omega)
    refine q_c z_5 ez_5 ?_
    clear ez_5
    refine lv_istore (lv' := [(4, .int z_5), (3, .int r_2), (0, .ref h0), (1, .int p0), (2, .int 1)]) hx hb dX0_canSit_27 hl_3 (by decide) rfl (fun ls_6 hl_6 => ?_)
    clear hl_3
    refine lv_iload_n hx hb dX0_canSit_29 rfl (lv_at hl_6 1 rfl) ?_
    refine lv_iconst (v := 1) hx hb dX0_canSit_30 (by decide) ?_
    refine lv_iadd hx hb dX0_canSit_31 ?_
    obtain ⟨z_7, ez_7, hz_7⟩ := e_add (x := r_2) (y := 1) rfl (show (1 : Int32).toInt = 1 by decide) (by omega) (by omega)
    refine q_c z_7 ez_7 ?_
    clear ez_7
    refine lv_istore (lv' := [(5, .int z_7), (4, .int z_5), (3, .int r_2), (0, .ref h0), (1, .int p0), (2, .int 1)]) hx hb dX0_canSit_32 hl_6 (by decide) rfl (fun ls_8 hl_8 => ?_)
    clear hl_6
    refine q_wl (fun (v34_9_0 : Int32) H locs ls => (1 ≤ (v34_9_0).toInt ∧ (v34_9_0).toInt ≤ 10) ∧ qW D (va_A [(h0, .inr (0, [.int p1, .ref h1, w0, w1])), (h1, .inl (cy 1, 10, .inl f0))] sz) s.heap [(h0, .inr (0, [.int p1, .ref h1, w0, w1])), (h1, .inl (cy 1, 10, .inl f0))] H locs ∧ lv_has ls 6 [(0, .ref h0), (1, .int p0), (2, .int 1), (3, .int r_2), (4, .int z_5), (5, .int v34_9_0)]) (fun (v34_9_0 : Int32) => (11 - (v34_9_0).toInt).toNat) (fun q_34 ih_34 H locs ls hP => ?_) z_7 ⟨⟨by omega, by omega⟩, h_2, (lv_sub hl_8 [3, 4, 5, 2, 1, 0] rfl)⟩
    obtain ⟨v34_9_0, rfl⟩ : ∃ z, z = q_34 := ⟨_, rfl⟩
    obtain ⟨hv34_9_0, h, hl⟩ := hP
    refine lv_iload hx hb dX0_canSit_34 (lv_at hl 5 rfl) ?_
    refine lv_aload_n hx hb dX0_canSit_36 rfl (lv_at hl 0 rfl) ?_
    refine q_get X hK h 0 rfl rfl wf_0 0 (by decide) rfl wm_1_198 dX0_canSit_37 ?_
    refine lv_icmp_ge (tgt := 84) hx hb dX0_canSit_40 (by decide) (fun c_10 => ?_) (fun c_10 => ?_)
    · replace c_10 := i_le (x := p1) (y := v34_9_0) rfl rfl c_10
      refine lv_iconst (v := 0) hx hb dX0_canSit_84 (by decide) ?_
      exact q_iret X hr hlk hK h rfl (fun _ => 0, fun _ _ => 0, fun _ _ => 0) ⟨⟨by decide +kernel, by decide +kernel⟩, trivial⟩ [0, 1] rfl rfl dX0_canSit_85 (Nat.le_of_ble_eq_true rfl) (Nat.le_of_ble_eq_true rfl)
    · replace c_10 := i_nle (x := p1) (y := v34_9_0) rfl rfl c_10
      refine lv_iload hx hb dX0_canSit_43 (lv_at hl 4 rfl) ?_
      refine lv_iload hx hb dX0_canSit_45 (lv_at hl 5 rfl) ?_
      refine lv_ishr hx hb dX0_canSit_47 ?_
      obtain ⟨z_11, ez_11, hz_11⟩ := e_shr (x := z_5) v34_9_0 rfl (by omega)
      refine q_c z_11 ez_11 ?_
      clear ez_11
      refine lv_iconst (v := 1) hx hb dX0_canSit_48 (by decide) ?_
      refine lv_iand hx hb dX0_canSit_49 ?_
      obtain ⟨z_12, ez_12, hz_12⟩ := e_and2 (x := z_11) (y := 1) (show (1 : Int32).toInt = 1 by decide) (by omega)
      refine q_c z_12 ez_12 ?_
      clear ez_12
      refine lv_iconst (v := 1) hx hb dX0_canSit_50 (by decide) ?_
      refine q_jn (pc2 := 78) (fun H locs ls st => st = [] ∧ qW D (va_A [(h0, .inr (0, [.int p1, .ref h1, w0, w1])), (h1, .inl (cy 1, 10, .inl f0))] sz) s.heap [(h0, .inr (0, [.int p1, .ref h1, w0, w1])), (h1, .inl (cy 1, 10, .inl f0))] H locs ∧ lv_has ls 6 [(0, .ref h0), (1, .int p0), (2, .int 1), (3, .int r_2), (4, .int z_5), (5, .int v34_9_0)]) (fun H locs ls st hP => ?_) (fun J_78 => ?_)
      · obtain ⟨rfl, h, hl⟩ := hP
        obtain ⟨z_14, ez_14, hz_14⟩ := e_add (x := v34_9_0) (y := Int32.ofInt 1) rfl (b := 1) (by decide) (by omega) (by omega)
        refine lv_iinc (v := z_14) (lv' := [(5, .int z_14), (0, .ref h0), (1, .int p0), (2, .int 1), (3, .int r_2), (4, .int z_5)]) hx hb dX0_canSit_78 hl (k := 5) rfl ez_14 (by decide) rfl (fun ls_14 hl_14 => ?_)
        clear hl
        refine lv_goto (tgt := 34) hx hb dX0_canSit_81 (by decide) ?_
        exact ih_34 z_14 (by show (11 - (z_14).toInt).toNat < (11 - (v34_9_0).toInt).toNat; omega) _ _ _ ⟨⟨by omega, by omega⟩, h, (lv_sub hl_14 [1, 2, 3, 4, 5, 0] rfl)⟩
      · skip
        refine lv_icmp_ne (tgt := 78) hx hb dX0_canSit_51 (by decide) (fun c_15 => ?_) (fun c_15 => ?_)
        · replace c_15 := i_ne (x := z_12) (y := 1) rfl (show (1 : Int32).toInt = 1 by decide) c_15
          exact J_78 _ _ _ _ ⟨rfl, h, (lv_sub hl [0, 1, 2, 3, 4, 5] rfl)⟩
        · replace c_15 := i_eq (x := z_12) (y := 1) rfl (show (1 : Int32).toInt = 1 by decide) c_15
          refine lv_aload_n hx hb dX0_canSit_54 rfl (lv_at hl 0 rfl) ?_
          refine lv_iload_n hx hb dX0_canSit_55 rfl (lv_at hl 1 rfl) ?_
          refine lv_iconst (v := 1) hx hb dX0_canSit_56 (by decide) ?_
          refine lv_iload_n hx hb dX0_canSit_57 rfl (lv_at hl 3 rfl) ?_
          refine lv_ishl hx hb dX0_canSit_58 ?_
          obtain ⟨z_16, ez_16, hz_16⟩ := e_shlk (p := r_2) 9 (by decide) rfl (by omega) (by omega)
          refine q_c z_16 ez_16 ?_
          clear ez_16
          refine lv_iconst (v := 1) hx hb dX0_canSit_59 (by decide) ?_
          refine lv_iload hx hb dX0_canSit_60 (lv_at hl 5 rfl) ?_
          refine lv_ishl hx hb dX0_canSit_62 ?_
          obtain ⟨z_17, ez_17, hz_17⟩ := e_shlk (p := v34_9_0) 9 (by decide) rfl (by omega) (by omega)
          refine q_c z_17 ez_17 ?_
          clear ez_17
          refine lv_ior hx hb dX0_canSit_63 ?_
          obtain ⟨z_18, ez_18, hz_18⟩ := e_or (x := z_16) (y := z_17) 10 (by decide) rfl rfl (by omega) (by omega) (by omega) (by omega)
          refine q_c z_18 ez_18 ?_
          clear ez_18
          refine lv_iconst (v := (-1)) hx hb dX0_canSit_64 (by decide) ?_
          refine lv_ixor hx hb dX0_canSit_65 ?_
          refine q_any (fun z_19 hz_19 => ?_)
          refine lv_iand hx hb dX0_canSit_66 ?_
          obtain ⟨z_20, ez_20, hz_20⟩ := e_and1 (x := p0) (y := z_19) rfl (by omega)
          refine q_c z_20 ez_20 ?_
          clear ez_20
          refine lv_iload_n hx hb dX0_canSit_67 rfl (lv_at hl 2 rfl) ?_
          refine lv_iconst (v := 1) hx hb dX0_canSit_68 (by decide) ?_
          refine lv_iadd hx hb dX0_canSit_69 ?_
          refine q_c 2 (by decide +kernel) ?_
          refine q_callVi (rest := []) (wr := []) X hK hA h (fun sz => gX0_canSit_51 l D cy h0 h1 z_20 p1 w0 w1 f0 ⟨by omega, by omega⟩ ⟨by omega, by omega⟩ (rg_wide rf0 (by decide) (by decide)) sz) wm_4_117 wm_4_112 wm_1_6 hd_X0_canSit wm_4_110 wm_4_111 (ci := 0) (q0 := 0) rfl rfl ⟨Nat.le_of_ble_eq_true rfl, Nat.le_of_ble_eq_true rfl⟩ hl.1 rfl (Nat.le_of_ble_eq_true rfl) dX0_canSit_70 ⟨Nat.le_of_ble_eq_true rfl, Nat.le_of_ble_eq_true rfl⟩ [0, 1] [] rfl rfl (by decide) rfl rfl (fun r_21 u_21 H locs w_21 h_21 => ?_)
          clear h
          obtain ⟨wr_21, _⟩ := w_21
          replace h_21 : qW D _ _ [(h0, .inr (0, [.int p1, .ref h1, w0, w1])), (h1, .inl (cy 1, 10, .inl f0))] _ _ := h_21
          refine lv_if_eq (tgt := 78) hx hb dX0_canSit_73 (by decide) (fun c_22 => ?_) (fun c_22 => ?_)
          · replace c_22 := i_eq (x := r_21) (y := 0) rfl (show (0 : Int32).toInt = 0 by decide) c_22
            exact J_78 _ _ _ _ ⟨rfl, h_21, (lv_sub hl [0, 1, 2, 3, 4, 5] rfl)⟩
          · replace c_22 := i_ne (x := r_21) (y := 0) rfl (show (0 : Int32).toInt = 0 by decide) c_22
            refine lv_iconst (v := 1) hx hb dX0_canSit_76 (by decide) ?_
            exact q_iret X hr hlk hK h_21 rfl (fun _ => 0, fun _ _ => 0, fun _ _ => 0) ⟨⟨by decide +kernel, by decide +kernel⟩, trivial⟩ [0, 1] rfl rfl dX0_canSit_77 (Nat.le_of_ble_eq_true rfl) (Nat.le_of_ble_eq_true rfl)
  · replace c_1 := i_eq (x := p0) (y := 0) rfl (show (0 : Int32).toInt = 0 by decide) c_1
    refine lv_iconst (v := 1) hx hb dX0_canSit_4 (by decide) ?_
    exact q_iret X hr hlk hK h rfl (fun _ => 0, fun _ _ => 0, fun _ _ => 0) ⟨⟨by decide +kernel, by decide +kernel⟩, trivial⟩ [0, 1] rfl rfl dX0_canSit_5 (Nat.le_of_ble_eq_true rfl) (Nat.le_of_ble_eq_true rfl)
set_option maxHeartbeats 4000000 in
set_option maxRecDepth 100000 in
theorem gX0_canSit_53 (l : Launch) (D : va_G) (cy : Nat → ClassId) (h0 : Nat) (h1 : Nat) (p0 : Int32) (p1 : Int32) (w0 : Value) (w1 : Value) (f0 : Nat → Int32) (hp0 : 0 ≤ (p0).toInt ∧ (p0).toInt ≤ 1023) (hp1 : 0 ≤ (p1).toInt ∧ (p1).toInt ≤ 10) (rf0 : RG f0 10 0 1023) (sz : Nat) : MI l yX0_canSit cX0_canSit 6 .boolean { frames := 11, cells := 0, slots := 0, locals := 265 } [.ref h0, .int p0, .int 0] D cy [(h0, .inr (0, [.int p1, .ref h1, w0, w1])), (h1, .inl (cy 1, 10, .inl f0))] sz (fun r u => (0 ≤ r.toInt ∧ r.toInt ≤ 1) ∧ True) (fun u => [(h0, .inr (0, [.int p1, .ref h1, w0, w1])), (h1, .inl (cy 1, 10, .inl f0))]) 0 0 := by
  refine q_ent (own := RX0) (by decide) rfl (Nat.le_of_ble_eq_true rfl) (fun p e s m below meth c ls X hr hlk hnm hK h hA hl => ?_)
  obtain ⟨hx, hb, hml, hown, ht⟩ := id X
  replace hl : lv_has ls 6 [(0, .ref h0), (1, .int p0), (2, .int 0)] := hl
  refine lv_iload_n hx hb dX0_canSit_0 rfl (lv_at hl 1 rfl) ?_
  refine lv_if_ne (tgt := 6) hx hb dX0_canSit_1 (by decide) (fun c_1 => ?_) (fun c_1 => ?_)
  · replace c_1 := i_ne (x := p0) (y := 0) rfl (show (0 : Int32).toInt = 0 by decide) c_1
    refine lv_iload_n hx hb dX0_canSit_6 rfl (lv_at hl 2 rfl) ?_
    refine lv_bipush (v := 10) hx hb dX0_canSit_7 (by decide) ?_
    refine lv_icmp_lt (tgt := 14) hx hb dX0_canSit_9 (by decide) (fun _ => ?_) (fun c => absurd c (by decide +kernel))
    refine lv_iload_n hx hb dX0_canSit_14 rfl (lv_at hl 1 rfl) ?_
    refine q_callSi (rest := []) (wr := [(h0, .inr (0, [.int p1, .ref h1, w0, w1])), (h1, .inl (cy 1, 10, .inl f0))]) X hK hA h (fun sz => gX0_lowestOf_42 l D cy p0 ⟨by omega, by omega⟩ sz) wm_4_113 wm_4_115 wm_1_6 hd_X0_lowestOf wm_4_114 ⟨Nat.le_of_ble_eq_true rfl, Nat.le_of_ble_eq_true rfl⟩ hl.1 rfl (Nat.le_of_ble_eq_true rfl) dX0_canSit_15 ⟨Nat.le_of_ble_eq_true rfl, Nat.le_of_ble_eq_true rfl⟩ [] [0, 1] rfl rfl (by decide) rfl rfl (fun r_2 u_2 H locs w_2 h_2 => ?_)
    clear h
    obtain ⟨wr_2, _⟩ := w_2
    replace h_2 : qW D _ _ [(h0, .inr (0, [.int p1, .ref h1, w0, w1])), (h1, .inl (cy 1, 10, .inl f0))] _ _ := h_2
    refine lv_istore_n (lv' := [(3, .int r_2), (0, .ref h0), (1, .int p0), (2, .int 0)]) hx hb dX0_canSit_18 rfl hl (by decide) rfl (fun ls_3 hl_3 => ?_)
    clear hl
    refine lv_aload_n hx hb dX0_canSit_19 rfl (lv_at hl_3 1 rfl) ?_
    refine q_get X hK h_2 0 rfl rfl wf_0 1 (by decide) rfl wm_1_199 dX0_canSit_20 ?_
    refine lv_iload_n hx hb dX0_canSit_23 rfl (lv_at hl_3 0 rfl) ?_
    refine q_iald X hK h_2 1 rfl (i_in rfl (by omega) (by omega)) dX0_canSit_24 ?_
    obtain ⟨z_4, ez_4, hz_4⟩ := rg_get rf0 (x := r_2) rfl (by omega) (by omega)
    refine q_c z_4 ez_4 ?_
    clear ez_4
    refine lv_iload_n hx hb dX0_canSit_25 rfl (lv_at hl_3 2 rfl) ?_
    refine lv_iand hx hb dX0_canSit_26 ?_
    obtain ⟨z_5, ez_5, hz_5⟩ := e_and2 (x := z_4) (y := p0) rfl (by omega)
    refine q_c z_5 ez_5 ?_
    clear ez_5
    refine lv_istore (lv' := [(4, .int z_5), (3, .int r_2), (0, .ref h0), (1, .int p0), (2, .int 0)]) hx hb dX0_canSit_27 hl_3 (by decide) rfl (fun ls_6 hl_6 => ?_)
    clear hl_3
    refine lv_iload_n hx hb dX0_canSit_29 rfl (lv_at hl_6 1 rfl) ?_
    refine lv_iconst (v := 1) hx hb dX0_canSit_30 (by decide) ?_
    refine lv_iadd hx hb dX0_canSit_31 ?_
    obtain ⟨z_7, ez_7, hz_7⟩ := e_add (x := r_2) (y := 1) rfl (show (1 : Int32).toInt = 1 by decide) (by omega) (by omega)
    refine q_c z_7 ez_7 ?_
    clear ez_7
    refine lv_istore (lv' := [(5, .int z_7), (4, .int z_5), (3, .int r_2), (0, .ref h0), (1, .int p0), (2, .int 0)]) hx hb dX0_canSit_32 hl_6 (by decide) rfl (fun ls_8 hl_8 => ?_)
    clear hl_6
    refine q_wl (fun (v34_9_0 : Int32) H locs ls => (1 ≤ (v34_9_0).toInt ∧ (v34_9_0).toInt ≤ 10) ∧ qW D (va_A [(h0, .inr (0, [.int p1, .ref h1, w0, w1])), (h1, .inl (cy 1, 10, .inl f0))] sz) s.heap [(h0, .inr (0, [.int p1, .ref h1, w0, w1])), (h1, .inl (cy 1, 10, .inl f0))] H locs ∧ lv_has ls 6 [(0, .ref h0), (1, .int p0), (2, .int 0), (3, .int r_2), (4, .int z_5), (5, .int v34_9_0)]) (fun (v34_9_0 : Int32) => (11 - (v34_9_0).toInt).toNat) (fun q_34 ih_34 H locs ls hP => ?_) z_7 ⟨⟨by omega, by omega⟩, h_2, (lv_sub hl_8 [3, 4, 5, 2, 1, 0] rfl)⟩
    obtain ⟨v34_9_0, rfl⟩ : ∃ z, z = q_34 := ⟨_, rfl⟩
    obtain ⟨hv34_9_0, h, hl⟩ := hP
    refine lv_iload hx hb dX0_canSit_34 (lv_at hl 5 rfl) ?_
    refine lv_aload_n hx hb dX0_canSit_36 rfl (lv_at hl 0 rfl) ?_
    refine q_get X hK h 0 rfl rfl wf_0 0 (by decide) rfl wm_1_198 dX0_canSit_37 ?_
    refine lv_icmp_ge (tgt := 84) hx hb dX0_canSit_40 (by decide) (fun c_10 => ?_) (fun c_10 => ?_)
    · replace c_10 := i_le (x := p1) (y := v34_9_0) rfl rfl c_10
      refine lv_iconst (v := 0) hx hb dX0_canSit_84 (by decide) ?_
      exact q_iret X hr hlk hK h rfl (fun _ => 0, fun _ _ => 0, fun _ _ => 0) ⟨⟨by decide +kernel, by decide +kernel⟩, trivial⟩ [0, 1] rfl rfl dX0_canSit_85 (Nat.le_of_ble_eq_true rfl) (Nat.le_of_ble_eq_true rfl)
    · replace c_10 := i_nle (x := p1) (y := v34_9_0) rfl rfl c_10
      refine lv_iload hx hb dX0_canSit_43 (lv_at hl 4 rfl) ?_
      refine lv_iload hx hb dX0_canSit_45 (lv_at hl 5 rfl) ?_
      refine lv_ishr hx hb dX0_canSit_47 ?_
      obtain ⟨z_11, ez_11, hz_11⟩ := e_shr (x := z_5) v34_9_0 rfl (by omega)
      refine q_c z_11 ez_11 ?_
      clear ez_11
      refine lv_iconst (v := 1) hx hb dX0_canSit_48 (by decide) ?_
      refine lv_iand hx hb dX0_canSit_49 ?_
      obtain ⟨z_12, ez_12, hz_12⟩ := e_and2 (x := z_11) (y := 1) (show (1 : Int32).toInt = 1 by decide) (by omega)
      refine q_c z_12 ez_12 ?_
      clear ez_12
      refine lv_iconst (v := 1) hx hb dX0_canSit_50 (by decide) ?_
      refine q_jn (pc2 := 78) (fun H locs ls st => st = [] ∧ qW D (va_A [(h0, .inr (0, [.int p1, .ref h1, w0, w1])), (h1, .inl (cy 1, 10, .inl f0))] sz) s.heap [(h0, .inr (0, [.int p1, .ref h1, w0, w1])), (h1, .inl (cy 1, 10, .inl f0))] H locs ∧ lv_has ls 6 [(0, .ref h0), (1, .int p0), (2, .int 0), (3, .int r_2), (4, .int z_5), (5, .int v34_9_0)]) (fun H locs ls st hP => ?_) (fun J_78 => ?_)
      · obtain ⟨rfl, h, hl⟩ := hP
        obtain ⟨z_14, ez_14, hz_14⟩ := e_add (x := v34_9_0) (y := Int32.ofInt 1) rfl (b := 1) (by decide) (by omega) (by omega)
        refine lv_iinc (v := z_14) (lv' := [(5, .int z_14), (0, .ref h0), (1, .int p0), (2, .int 0), (3, .int r_2), (4, .int z_5)]) hx hb dX0_canSit_78 hl (k := 5) rfl ez_14 (by decide) rfl (fun ls_14 hl_14 => ?_)
        clear hl
        refine lv_goto (tgt := 34) hx hb dX0_canSit_81 (by decide) ?_
        exact ih_34 z_14 (by show (11 - (z_14).toInt).toNat < (11 - (v34_9_0).toInt).toNat; omega) _ _ _ ⟨⟨by omega, by omega⟩, h, (lv_sub hl_14 [1, 2, 3, 4, 5, 0] rfl)⟩
      · skip
        refine lv_icmp_ne (tgt := 78) hx hb dX0_canSit_51 (by decide) (fun c_15 => ?_) (fun c_15 => ?_)
        · replace c_15 := i_ne (x := z_12) (y := 1) rfl (show (1 : Int32).toInt = 1 by decide) c_15
          exact J_78 _ _ _ _ ⟨rfl, h, (lv_sub hl [0, 1, 2, 3, 4, 5] rfl)⟩
        · replace c_15 := i_eq (x := z_12) (y := 1) rfl (show (1 : Int32).toInt = 1 by decide) c_15
          refine lv_aload_n hx hb dX0_canSit_54 rfl (lv_at hl 0 rfl) ?_
          refine lv_iload_n hx hb dX0_canSit_55 rfl (lv_at hl 1 rfl) ?_
          refine lv_iconst (v := 1) hx hb dX0_canSit_56 (by decide) ?_
          refine lv_iload_n hx hb dX0_canSit_57 rfl (lv_at hl 3 rfl) ?_
          refine lv_ishl hx hb dX0_canSit_58 ?_
          obtain ⟨z_16, ez_16, hz_16⟩ := e_shlk (p := r_2) 9 (by decide) rfl (by omega) (by omega)
          refine q_c z_16 ez_16 ?_
          clear ez_16
          refine lv_iconst (v := 1) hx hb dX0_canSit_59 (by decide) ?_
          refine lv_iload hx hb dX0_canSit_60 (lv_at hl 5 rfl) ?_
          refine lv_ishl hx hb dX0_canSit_62 ?_
          obtain ⟨z_17, ez_17, hz_17⟩ := e_shlk (p := v34_9_0) 9 (by decide) rfl (by omega) (by omega)
          refine q_c z_17 ez_17 ?_
          clear ez_17
          refine lv_ior hx hb dX0_canSit_63 ?_
          obtain ⟨z_18, ez_18, hz_18⟩ := e_or (x := z_16) (y := z_17) 10 (by decide) rfl rfl (by omega) (by omega) (by omega) (by omega)
          refine q_c z_18 ez_18 ?_
          clear ez_18
          refine lv_iconst (v := (-1)) hx hb dX0_canSit_64 (by decide) ?_
          refine lv_ixor hx hb dX0_canSit_65 ?_
          refine q_any (fun z_19 hz_19 => ?_)
          refine lv_iand hx hb dX0_canSit_66 ?_
          obtain ⟨z_20, ez_20, hz_20⟩ := e_and1 (x := p0) (y := z_19) rfl (by omega)
          refine q_c z_20 ez_20 ?_
          clear ez_20
          refine lv_iload_n hx hb dX0_canSit_67 rfl (lv_at hl 2 rfl) ?_
          refine lv_iconst (v := 1) hx hb dX0_canSit_68 (by decide) ?_
          refine lv_iadd hx hb dX0_canSit_69 ?_
          refine q_c 1 (by decide +kernel) ?_
          refine q_callVi (rest := []) (wr := []) X hK hA h (fun sz => gX0_canSit_52 l D cy h0 h1 z_20 p1 w0 w1 f0 ⟨by omega, by omega⟩ ⟨by omega, by omega⟩ (rg_wide rf0 (by decide) (by decide)) sz) wm_4_117 wm_4_112 wm_1_6 hd_X0_canSit wm_4_110 wm_4_111 (ci := 0) (q0 := 0) rfl rfl ⟨Nat.le_of_ble_eq_true rfl, Nat.le_of_ble_eq_true rfl⟩ hl.1 rfl (Nat.le_of_ble_eq_true rfl) dX0_canSit_70 ⟨Nat.le_of_ble_eq_true rfl, Nat.le_of_ble_eq_true rfl⟩ [0, 1] [] rfl rfl (by decide) rfl rfl (fun r_21 u_21 H locs w_21 h_21 => ?_)
          clear h
          obtain ⟨wr_21, _⟩ := w_21
          replace h_21 : qW D _ _ [(h0, .inr (0, [.int p1, .ref h1, w0, w1])), (h1, .inl (cy 1, 10, .inl f0))] _ _ := h_21
          refine lv_if_eq (tgt := 78) hx hb dX0_canSit_73 (by decide) (fun c_22 => ?_) (fun c_22 => ?_)
          · replace c_22 := i_eq (x := r_21) (y := 0) rfl (show (0 : Int32).toInt = 0 by decide) c_22
            exact J_78 _ _ _ _ ⟨rfl, h_21, (lv_sub hl [0, 1, 2, 3, 4, 5] rfl)⟩
          · replace c_22 := i_ne (x := r_21) (y := 0) rfl (show (0 : Int32).toInt = 0 by decide) c_22
            refine lv_iconst (v := 1) hx hb dX0_canSit_76 (by decide) ?_
            exact q_iret X hr hlk hK h_21 rfl (fun _ => 0, fun _ _ => 0, fun _ _ => 0) ⟨⟨by decide +kernel, by decide +kernel⟩, trivial⟩ [0, 1] rfl rfl dX0_canSit_77 (Nat.le_of_ble_eq_true rfl) (Nat.le_of_ble_eq_true rfl)
  · replace c_1 := i_eq (x := p0) (y := 0) rfl (show (0 : Int32).toInt = 0 by decide) c_1
    refine lv_iconst (v := 1) hx hb dX0_canSit_4 (by decide) ?_
    exact q_iret X hr hlk hK h rfl (fun _ => 0, fun _ _ => 0, fun _ _ => 0) ⟨⟨by decide +kernel, by decide +kernel⟩, trivial⟩ [0, 1] rfl rfl dX0_canSit_5 (Nat.le_of_ble_eq_true rfl) (Nat.le_of_ble_eq_true rfl)
set_option maxHeartbeats 4000000 in
set_option maxRecDepth 100000 in
theorem gX0_countPartings_54 (l : Launch) (D : va_G) (cy : Nat → ClassId) (h0 : Nat) (h1 : Nat) (h2 : Nat) (p0 : Int32) (w0 : Value) (f0 : Nat → Int32) (f1 : Nat → Int32) (hp0 : 0 ≤ (p0).toInt ∧ (p0).toInt ≤ 10) (rf0 : RG f0 10 0 1023) (sz : Nat) : MV l yX0_countPartings cX0_countPartings 6 { frames := 2, cells := 0, slots := 0, locals := 40 } [.ref h0] D cy [(h0, .inr (0, [.int p0, .ref h1, .ref h2, w0])), (h1, .inl (cy 1, 10, .inl f0)), (h2, .inl (cy 1, 1024, .inl f1))] sz (fun u => True) (fun u => [(h0, .inr (0, [.int p0, .ref h1, .ref h2, w0])), (h1, .inl (cy 1, 10, .inl f0)), (h2, .inl (cy 1, 1024, .inl (u.2.1 0)))]) 0 0 := by
  refine q_ent (own := RX0) (by decide) rfl (Nat.le_of_ble_eq_true rfl) (fun p e s m below meth c ls X hr hlk hnm hK h hA hl => ?_)
  obtain ⟨hx, hb, hml, hown, ht⟩ := id X
  replace hl : lv_has ls 6 [(0, .ref h0)] := hl
  refine lv_aload_n hx hb dX0_countPartings_0 rfl (lv_at hl 0 rfl) ?_
  refine q_get X hK h 0 rfl rfl wf_0 2 (by decide) rfl wm_1_201 dX0_countPartings_1 ?_
  refine lv_iconst (v := 0) hx hb dX0_countPartings_4 (by decide) ?_
  refine lv_iconst (v := 1) hx hb dX0_countPartings_5 (by decide) ?_
  refine q_iast X hK h 2 rfl (q_in (by decide +kernel)) dX0_countPartings_6 (fun H locs h_2 => ?_)
  clear h
  replace h_2 : qW D _ _ [(h0, .inr (0, [.int p0, .ref h1, .ref h2, w0])), (h1, .inl (cy 1, 10, .inl f0)), (h2, .inl (cy 1, 1024, .inl (upd f1 (Int32.toNatClampNeg 0) 1)))] _ _ := h_2
  obtain ⟨F_1, eF_1⟩ : ∃ z, (upd f1 (Int32.toNatClampNeg 0) 1) = z := ⟨_, rfl⟩
  rw [eF_1] at h_2
  clear eF_1
  refine lv_iconst (v := 1) hx hb dX0_countPartings_7 (by decide) ?_
  refine lv_istore_n (lv' := [(1, .int 1), (0, .ref h0)]) hx hb dX0_countPartings_8 rfl hl (by decide) rfl (fun ls_3 hl_3 => ?_)
  clear hl
  refine q_wl (fun (v9_4_0 : Int32) H locs ls => ∃ v9_4_1 : Nat → Int32, (1 ≤ (v9_4_0).toInt ∧ (v9_4_0).toInt ≤ 1024) ∧ qW D (va_A [(h0, .inr (0, [.int p0, .ref h1, .ref h2, w0])), (h1, .inl (cy 1, 10, .inl f0)), (h2, .inl (cy 1, 1024, .inl f1))] sz) s.heap [(h0, .inr (0, [.int p0, .ref h1, .ref h2, w0])), (h1, .inl (cy 1, 10, .inl f0)), (h2, .inl (cy 1, 1024, .inl v9_4_1))] H locs ∧ lv_has ls 6 [(0, .ref h0), (1, .int v9_4_0)]) (fun (v9_4_0 : Int32) => (1025 - (v9_4_0).toInt).toNat) (fun q_9 ih_9 H locs ls hP => ?_) 1 ⟨F_1, ⟨by decide +kernel, by decide +kernel⟩, h_2, (lv_sub hl_3 [1, 0] rfl)⟩
  obtain ⟨v9_4_0, rfl⟩ : ∃ z, z = q_9 := ⟨_, rfl⟩
  obtain ⟨v9_4_1, hv9_4_0, h, hl⟩ := hP
  refine lv_iload_n hx hb dX0_countPartings_9 rfl (lv_at hl 1 rfl) ?_
  refine lv_iconst (v := 1) hx hb dX0_countPartings_10 (by decide) ?_
  refine lv_aload_n hx hb dX0_countPartings_11 rfl (lv_at hl 0 rfl) ?_
  refine q_get X hK h 0 rfl rfl wf_0 0 (by decide) rfl wm_1_198 dX0_countPartings_12 ?_
  refine lv_ishl hx hb dX0_countPartings_15 ?_
  obtain ⟨z_5, ez_5, hz_5⟩ := e_shlk (p := p0) 10 (by decide) rfl (by omega) (by omega)
  refine q_c z_5 ez_5 ?_
  clear ez_5
  refine lv_icmp_ge (tgt := 102) hx hb dX0_countPartings_16 (by decide) (fun c_6 => ?_) (fun c_6 => ?_)
  · replace c_6 := i_le (x := z_5) (y := v9_4_0) rfl rfl c_6
    exact q_vret X hr hlk hK h (fun _ => 0, fun k => List.getD [v9_4_1] k (fun _ => 0), fun _ _ => 0) trivial [0, 1, 2] rfl rfl dX0_countPartings_102 (Nat.le_of_ble_eq_true rfl) (Nat.le_of_ble_eq_true rfl)
  · replace c_6 := i_nle (x := z_5) (y := v9_4_0) rfl rfl c_6
    refine lv_iload_n hx hb dX0_countPartings_19 rfl (lv_at hl 1 rfl) ?_
    refine q_callSi (rest := []) (wr := [(h0, .inr (0, [.int p0, .ref h1, .ref h2, w0])), (h1, .inl (cy 1, 10, .inl f0)), (h2, .inl (cy 1, 1024, .inl v9_4_1))]) X hK hA h (fun sz => gX0_lowestOf_42 l D cy v9_4_0 ⟨by omega, by omega⟩ sz) wm_4_113 wm_4_115 wm_1_6 hd_X0_lowestOf wm_4_114 ⟨Nat.le_of_ble_eq_true rfl, Nat.le_of_ble_eq_true rfl⟩ hl.1 rfl (Nat.le_of_ble_eq_true rfl) dX0_countPartings_20 ⟨Nat.le_of_ble_eq_true rfl, Nat.le_of_ble_eq_true rfl⟩ [] [0, 1, 2] rfl rfl (by decide) rfl rfl (fun r_7 u_7 H locs w_7 h_7 => ?_)
    clear h
    obtain ⟨wr_7, _⟩ := w_7
    replace h_7 : qW D _ _ [(h0, .inr (0, [.int p0, .ref h1, .ref h2, w0])), (h1, .inl (cy 1, 10, .inl f0)), (h2, .inl (cy 1, 1024, .inl v9_4_1))] _ _ := h_7
    refine lv_istore_n (lv' := [(2, .int r_7), (0, .ref h0), (1, .int v9_4_0)]) hx hb dX0_countPartings_23 rfl hl (by decide) rfl (fun ls_8 hl_8 => ?_)
    clear hl
    refine lv_aload_n hx hb dX0_countPartings_24 rfl (lv_at hl_8 1 rfl) ?_
    refine q_get X hK h_7 0 rfl rfl wf_0 1 (by decide) rfl wm_1_199 dX0_countPartings_25 ?_
    refine lv_iload_n hx hb dX0_countPartings_28 rfl (lv_at hl_8 0 rfl) ?_
    refine q_iald X hK h_7 1 rfl (i_in rfl (by omega) (by omega)) dX0_countPartings_29 ?_
    obtain ⟨z_9, ez_9, hz_9⟩ := rg_get rf0 (x := r_7) rfl (by omega) (by omega)
    refine q_c z_9 ez_9 ?_
    clear ez_9
    refine lv_iload_n hx hb dX0_countPartings_30 rfl (lv_at hl_8 2 rfl) ?_
    refine lv_iand hx hb dX0_countPartings_31 ?_
    obtain ⟨z_10, ez_10, hz_10⟩ := e_and2 (x := z_9) (y := v9_4_0) rfl (by omega)
    refine q_c z_10 ez_10 ?_
    clear ez_10
    refine lv_istore_n (lv' := [(3, .int z_10), (2, .int r_7), (0, .ref h0), (1, .int v9_4_0)]) hx hb dX0_countPartings_32 rfl hl_8 (by decide) rfl (fun ls_11 hl_11 => ?_)
    clear hl_8
    refine lv_iconst (v := 0) hx hb dX0_countPartings_33 (by decide) ?_
    refine lv_istore (lv' := [(4, .int 0), (3, .int z_10), (2, .int r_7), (0, .ref h0), (1, .int v9_4_0)]) hx hb dX0_countPartings_34 hl_11 (by decide) rfl (fun ls_12 hl_12 => ?_)
    clear hl_11
    refine lv_iload_n hx hb dX0_countPartings_36 rfl (lv_at hl_12 2 rfl) ?_
    refine lv_iconst (v := 1) hx hb dX0_countPartings_37 (by decide) ?_
    refine lv_iadd hx hb dX0_countPartings_38 ?_
    obtain ⟨z_13, ez_13, hz_13⟩ := e_add (x := r_7) (y := 1) rfl (show (1 : Int32).toInt = 1 by decide) (by omega) (by omega)
    refine q_c z_13 ez_13 ?_
    clear ez_13
    refine lv_istore (lv' := [(5, .int z_13), (4, .int 0), (3, .int z_10), (2, .int r_7), (0, .ref h0), (1, .int v9_4_0)]) hx hb dX0_countPartings_39 hl_12 (by decide) rfl (fun ls_14 hl_14 => ?_)
    clear hl_12
    refine q_wl (fun (q : Int32 × Int32) H locs ls => match q with | (v41_15_0, v41_15_1) => (1 ≤ (v41_15_0).toInt ∧ (v41_15_0).toInt ≤ 10) ∧ ((-2147483648) ≤ (v41_15_1).toInt ∧ (v41_15_1).toInt ≤ 2147483647) ∧ qW D (va_A [(h0, .inr (0, [.int p0, .ref h1, .ref h2, w0])), (h1, .inl (cy 1, 10, .inl f0)), (h2, .inl (cy 1, 1024, .inl f1))] sz) s.heap [(h0, .inr (0, [.int p0, .ref h1, .ref h2, w0])), (h1, .inl (cy 1, 10, .inl f0)), (h2, .inl (cy 1, 1024, .inl v9_4_1))] H locs ∧ lv_has ls 6 [(0, .ref h0), (1, .int v9_4_0), (2, .int r_7), (3, .int z_10), (4, .int v41_15_1), (5, .int v41_15_0)]) (fun (q : Int32 × Int32) => match q with | (v41_15_0, v41_15_1) => (11 - (v41_15_0).toInt).toNat) (fun q_41 ih_41 H locs ls hP => ?_) (z_13, 0) ⟨⟨by omega, by omega⟩, ⟨by decide +kernel, by decide +kernel⟩, h_7, (lv_sub hl_14 [4, 5, 3, 2, 1, 0] rfl)⟩
    obtain ⟨v41_15_0, v41_15_1⟩ := q_41
    obtain ⟨hv41_15_0, hv41_15_1, h, hl⟩ := hP
    refine lv_iload hx hb dX0_countPartings_41 (lv_at hl 5 rfl) ?_
    refine lv_aload_n hx hb dX0_countPartings_43 rfl (lv_at hl 0 rfl) ?_
    refine q_get X hK h 0 rfl rfl wf_0 0 (by decide) rfl wm_1_198 dX0_countPartings_44 ?_
    refine lv_icmp_ge (tgt := 88) hx hb dX0_countPartings_47 (by decide) (fun c_16 => ?_) (fun c_16 => ?_)
    · replace c_16 := i_le (x := p0) (y := v41_15_0) rfl rfl c_16
      refine lv_aload_n hx hb dX0_countPartings_88 rfl (lv_at hl 0 rfl) ?_
      refine q_get X hK h 0 rfl rfl wf_0 2 (by decide) rfl wm_1_201 dX0_countPartings_89 ?_
      refine lv_iload_n hx hb dX0_countPartings_92 rfl (lv_at hl 1 rfl) ?_
      refine lv_iload hx hb dX0_countPartings_93 (lv_at hl 4 rfl) ?_
      refine q_iast X hK h 2 rfl (i_in rfl (by omega) (by omega)) dX0_countPartings_95 (fun H locs h_18 => ?_)
      clear h
      replace h_18 : qW D _ _ [(h0, .inr (0, [.int p0, .ref h1, .ref h2, w0])), (h1, .inl (cy 1, 10, .inl f0)), (h2, .inl (cy 1, 1024, .inl (upd v9_4_1 (Int32.toNatClampNeg v9_4_0) v41_15_1)))] _ _ := h_18
      obtain ⟨F_17, eF_17⟩ : ∃ z, (upd v9_4_1 (Int32.toNatClampNeg v9_4_0) v41_15_1) = z := ⟨_, rfl⟩
      rw [eF_17] at h_18
      clear eF_17
      obtain ⟨z_19, ez_19, hz_19⟩ := e_add (x := v9_4_0) (y := Int32.ofInt 1) rfl (b := 1) (by decide) (by omega) (by omega)
      refine lv_iinc (v := z_19) (lv' := [(1, .int z_19), (0, .ref h0), (2, .int r_7), (3, .int z_10), (4, .int v41_15_1), (5, .int v41_15_0)]) hx hb dX0_countPartings_96 hl (k := 1) rfl ez_19 (by decide) rfl (fun ls_19 hl_19 => ?_)
      clear hl
      refine lv_goto (tgt := 9) hx hb dX0_countPartings_99 (by decide) ?_
      exact ih_9 z_19 (by show (1025 - (z_19).toInt).toNat < (1025 - (v9_4_0).toInt).toNat; omega) _ _ _ ⟨F_17, ⟨by omega, by omega⟩, h_18, (lv_sub hl_19 [1, 0] rfl)⟩
    · replace c_16 := i_nle (x := p0) (y := v41_15_0) rfl rfl c_16
      refine lv_iload_n hx hb dX0_countPartings_50 rfl (lv_at hl 3 rfl) ?_
      refine lv_iload hx hb dX0_countPartings_51 (lv_at hl 5 rfl) ?_
      refine lv_ishr hx hb dX0_countPartings_53 ?_
      obtain ⟨z_20, ez_20, hz_20⟩ := e_shr (x := z_10) v41_15_0 rfl (by omega)
      refine q_c z_20 ez_20 ?_
      clear ez_20
      refine lv_iconst (v := 1) hx hb dX0_countPartings_54 (by decide) ?_
      refine lv_iand hx hb dX0_countPartings_55 ?_
      obtain ⟨z_21, ez_21, hz_21⟩ := e_and2 (x := z_20) (y := 1) (show (1 : Int32).toInt = 1 by decide) (by omega)
      refine q_c z_21 ez_21 ?_
      clear ez_21
      refine lv_iconst (v := 1) hx hb dX0_countPartings_56 (by decide) ?_
      refine q_jn (pc2 := 82) (fun H locs ls st => ∃ v82_22_0 : Int32, ((-2147483648) ≤ (v82_22_0).toInt ∧ (v82_22_0).toInt ≤ 2147483647) ∧ st = [] ∧ qW D (va_A [(h0, .inr (0, [.int p0, .ref h1, .ref h2, w0])), (h1, .inl (cy 1, 10, .inl f0)), (h2, .inl (cy 1, 1024, .inl f1))] sz) s.heap [(h0, .inr (0, [.int p0, .ref h1, .ref h2, w0])), (h1, .inl (cy 1, 10, .inl f0)), (h2, .inl (cy 1, 1024, .inl v9_4_1))] H locs ∧ lv_has ls 6 [(0, .ref h0), (1, .int v9_4_0), (2, .int r_7), (3, .int z_10), (4, .int v82_22_0), (5, .int v41_15_0)]) (fun H locs ls st hP => ?_) (fun J_82 => ?_)
      · obtain ⟨v82_22_0, hv82_22_0, rfl, h, hl⟩ := hP
        obtain ⟨z_23, ez_23, hz_23⟩ := e_add (x := v41_15_0) (y := Int32.ofInt 1) rfl (b := 1) (by decide) (by omega) (by omega)
        refine lv_iinc (v := z_23) (lv' := [(5, .int z_23), (0, .ref h0), (1, .int v9_4_0), (2, .int r_7), (3, .int z_10), (4, .int v82_22_0)]) hx hb dX0_countPartings_82 hl (k := 5) rfl ez_23 (by decide) rfl (fun ls_23 hl_23 => ?_)
        clear hl
        refine lv_goto (tgt := 41) hx hb dX0_countPartings_85 (by decide) ?_
        exact ih_41 (z_23, v82_22_0) (by show (11 - (z_23).toInt).toNat < (11 - (v41_15_0).toInt).toNat; omega) _ _ _ ⟨⟨by omega, by omega⟩, ⟨by omega, by omega⟩, h, (lv_sub hl_23 [1, 2, 3, 4, 5, 0] rfl)⟩
      · skip
        refine lv_icmp_ne (tgt := 82) hx hb dX0_countPartings_57 (by decide) (fun c_24 => ?_) (fun c_24 => ?_)
        · replace c_24 := i_ne (x := z_21) (y := 1) rfl (show (1 : Int32).toInt = 1 by decide) c_24
          exact J_82 _ _ _ _ ⟨v41_15_1, ⟨by omega, by omega⟩, rfl, h, (lv_sub hl [0, 1, 2, 3, 4, 5] rfl)⟩
        · replace c_24 := i_eq (x := z_21) (y := 1) rfl (show (1 : Int32).toInt = 1 by decide) c_24
          refine lv_iload hx hb dX0_countPartings_60 (lv_at hl 4 rfl) ?_
          refine lv_aload_n hx hb dX0_countPartings_62 rfl (lv_at hl 0 rfl) ?_
          refine q_get X hK h 0 rfl rfl wf_0 2 (by decide) rfl wm_1_201 dX0_countPartings_63 ?_
          refine lv_iload_n hx hb dX0_countPartings_66 rfl (lv_at hl 1 rfl) ?_
          refine lv_iconst (v := 1) hx hb dX0_countPartings_67 (by decide) ?_
          refine lv_iload_n hx hb dX0_countPartings_68 rfl (lv_at hl 2 rfl) ?_
          refine lv_ishl hx hb dX0_countPartings_69 ?_
          obtain ⟨z_25, ez_25, hz_25⟩ := e_shlk (p := r_7) 9 (by decide) rfl (by omega) (by omega)
          refine q_c z_25 ez_25 ?_
          clear ez_25
          refine lv_iconst (v := 1) hx hb dX0_countPartings_70 (by decide) ?_
          refine lv_iload hx hb dX0_countPartings_71 (lv_at hl 5 rfl) ?_
          refine lv_ishl hx hb dX0_countPartings_73 ?_
          obtain ⟨z_26, ez_26, hz_26⟩ := e_shlk (p := v41_15_0) 9 (by decide) rfl (by omega) (by omega)
          refine q_c z_26 ez_26 ?_
          clear ez_26
          refine lv_ior hx hb dX0_countPartings_74 ?_
          obtain ⟨z_27, ez_27, hz_27⟩ := e_or (x := z_25) (y := z_26) 10 (by decide) rfl rfl (by omega) (by omega) (by omega) (by omega)
          refine q_c z_27 ez_27 ?_
          clear ez_27
          refine lv_iconst (v := (-1)) hx hb dX0_countPartings_75 (by decide) ?_
          refine lv_ixor hx hb dX0_countPartings_76 ?_
          refine q_any (fun z_28 hz_28 => ?_)
          refine lv_iand hx hb dX0_countPartings_77 ?_
          obtain ⟨z_29, ez_29, hz_29⟩ := e_and1 (x := v9_4_0) (y := z_28) rfl (by omega)
          refine q_c z_29 ez_29 ?_
          clear ez_29
          refine q_iald X hK h 2 rfl (i_in rfl (by omega) (by omega)) dX0_countPartings_78 ?_
          refine q_any (fun z_30 hz_30 => ?_)
          refine lv_iadd hx hb dX0_countPartings_79 ?_
          refine q_any (fun z_31 hz_31 => ?_)
          refine lv_istore (lv' := [(4, .int z_31), (0, .ref h0), (1, .int v9_4_0), (2, .int r_7), (3, .int z_10), (5, .int v41_15_0)]) hx hb dX0_countPartings_80 hl (by decide) rfl (fun ls_32 hl_32 => ?_)
          clear hl
          exact J_82 _ _ _ _ ⟨z_31, ⟨by omega, by omega⟩, rfl, h, (lv_sub hl_32 [1, 2, 3, 4, 0, 5] rfl)⟩
set_option maxHeartbeats 4000000 in
set_option maxRecDepth 100000 in
theorem gX0_worthWith_81 (l : Launch) (D : va_G) (cy : Nat → ClassId) (h0 : Nat) (h1 : Nat) (h2 : Nat) (p0 : Int32) (p1 : Int32) (p2 : Int32) (f0 : Nat → Int32) (p3 : Int32) (w0 : Value) (w1 : Value) (f1 : Nat → Int32) (hp0 : 0 ≤ (p0).toInt ∧ (p0).toInt ≤ 9) (hp1 : 1 ≤ (p1).toInt ∧ (p1).toInt ≤ 9) (hp2 : 1 ≤ (p2).toInt ∧ (p2).toInt ≤ 1023) (hp3 : 2 ≤ (p3).toInt ∧ (p3).toInt ≤ 10) (rf0 : RG f0 10 0 99) (sz : Nat) : MI l yX0_worthWith cX0_worthWith 5 .int { frames := 0, cells := 0, slots := 0, locals := 0 } [.ref h1, .int p0, .int p1, .int p2, .ref h0] D cy [(h0, .inl (cy 1, 10, .inl f0)), (h1, .inr (0, [.int p3, w0, w1, .ref h2])), (h2, .inl (cy 1, 1024, .inl f1))] sz (fun r u => ((-2147483648) ≤ r.toInt ∧ r.toInt ≤ 2147483647) ∧ True) (fun u => [(h0, .inl (cy 1, 10, .inl f0)), (h1, .inr (0, [.int p3, w0, w1, .ref h2])), (h2, .inl (cy 1, 1024, .inl f1))]) 0 0 := by
  refine q_ent (own := RX0) (by decide) rfl (Nat.le_of_ble_eq_true rfl) (fun p e s m below meth c ls X hr hlk hnm hK h hA hl => ?_)
  obtain ⟨hx, hb, hml, hown, ht⟩ := id X
  replace hl : lv_has ls 5 [(0, .ref h1), (1, .int p0), (2, .int p1), (3, .int p2), (4, .ref h0)] := hl
  refine lv_aload_n hx hb dX0_worthWith_0 rfl (lv_at hl 0 rfl) ?_
  refine q_get X hK h 1 rfl rfl wf_0 3 (by decide) rfl wm_1_203 dX0_worthWith_1 ?_
  refine lv_iload_n hx hb dX0_worthWith_4 rfl (lv_at hl 3 rfl) ?_
  refine lv_iconst (v := 1) hx hb dX0_worthWith_5 (by decide) ?_
  refine lv_iload_n hx hb dX0_worthWith_6 rfl (lv_at hl 1 rfl) ?_
  refine lv_ishl hx hb dX0_worthWith_7 ?_
  obtain ⟨z_1, ez_1, hz_1⟩ := e_shlk (p := p0) 9 (by decide) rfl (by omega) (by omega)
  refine q_c z_1 ez_1 ?_
  clear ez_1
  refine lv_iconst (v := 1) hx hb dX0_worthWith_8 (by decide) ?_
  refine lv_iload_n hx hb dX0_worthWith_9 rfl (lv_at hl 2 rfl) ?_
  refine lv_ishl hx hb dX0_worthWith_10 ?_
  obtain ⟨z_2, ez_2, hz_2⟩ := e_shlk (p := p1) 9 (by decide) rfl (by omega) (by omega)
  refine q_c z_2 ez_2 ?_
  clear ez_2
  refine lv_ior hx hb dX0_worthWith_11 ?_
  obtain ⟨z_3, ez_3, hz_3⟩ := e_or (x := z_1) (y := z_2) 10 (by decide) rfl rfl (by omega) (by omega) (by omega) (by omega)
  refine q_c z_3 ez_3 ?_
  clear ez_3
  refine lv_iconst (v := (-1)) hx hb dX0_worthWith_12 (by decide) ?_
  refine lv_ixor hx hb dX0_worthWith_13 ?_
  refine q_any (fun z_4 hz_4 => ?_)
  refine lv_iand hx hb dX0_worthWith_14 ?_
  obtain ⟨z_5, ez_5, hz_5⟩ := e_and1 (x := p2) (y := z_4) rfl (by omega)
  refine q_c z_5 ez_5 ?_
  clear ez_5
  refine q_iald X hK h 2 rfl (i_in rfl (by omega) (by omega)) dX0_worthWith_15 ?_
  refine q_any (fun z_6 hz_6 => ?_)
  refine lv_sipush (v := 1000) hx hb dX0_worthWith_16 (by decide) ?_
  refine lv_iadd hx hb dX0_worthWith_19 ?_
  refine q_any (fun z_7 hz_7 => ?_)
  refine lv_aload hx hb dX0_worthWith_20 (lv_at hl 4 rfl) ?_
  refine lv_iload_n hx hb dX0_worthWith_22 rfl (lv_at hl 1 rfl) ?_
  refine q_iald X hK h 0 rfl (i_in rfl (by omega) (by omega)) dX0_worthWith_23 ?_
  obtain ⟨z_8, ez_8, hz_8⟩ := rg_get rf0 (x := p0) rfl (by omega) (by omega)
  refine q_c z_8 ez_8 ?_
  clear ez_8
  refine lv_iadd hx hb dX0_worthWith_24 ?_
  refine q_any (fun z_9 hz_9 => ?_)
  refine lv_aload hx hb dX0_worthWith_25 (lv_at hl 4 rfl) ?_
  refine lv_iload_n hx hb dX0_worthWith_27 rfl (lv_at hl 2 rfl) ?_
  refine q_iald X hK h 0 rfl (i_in rfl (by omega) (by omega)) dX0_worthWith_28 ?_
  obtain ⟨z_10, ez_10, hz_10⟩ := rg_get rf0 (x := p1) rfl (by omega) (by omega)
  refine q_c z_10 ez_10 ?_
  clear ez_10
  refine lv_iadd hx hb dX0_worthWith_29 ?_
  refine q_any (fun z_11 hz_11 => ?_)
  exact q_iret X hr hlk hK h rfl (fun _ => 0, fun _ _ => 0, fun _ _ => 0) ⟨⟨by omega, by omega⟩, trivial⟩ [0, 1, 2] rfl rfl dX0_worthWith_30 (Nat.le_of_ble_eq_true rfl) (Nat.le_of_ble_eq_true rfl)
set_option maxHeartbeats 4000000 in
set_option maxRecDepth 100000 in
theorem gX0_weighPairs_82 (l : Launch) (D : va_G) (cy : Nat → ClassId) (h0 : Nat) (h1 : Nat) (h2 : Nat) (h3 : Nat) (f0 : Nat → Int32) (p0 : Int32) (w0 : Value) (f1 : Nat → Int32) (f2 : Nat → Int32) (hp0 : 0 ≤ (p0).toInt ∧ (p0).toInt ≤ 10) (rf0 : RG f0 10 0 99) (rf1 : RG f1 10 0 1023) (sz : Nat) : MV l yX0_weighPairs cX0_weighPairs 7 { frames := 2, cells := 0, slots := 0, locals := 40 } [.ref h1, .ref h0] D cy [(h0, .inl (cy 1, 10, .inl f0)), (h1, .inr (0, [.int p0, .ref h2, w0, .ref h3])), (h2, .inl (cy 1, 10, .inl f1)), (h3, .inl (cy 1, 1024, .inl f2))] sz (fun u => True) (fun u => [(h0, .inl (cy 1, 10, .inl f0)), (h1, .inr (0, [.int p0, .ref h2, w0, .ref h3])), (h2, .inl (cy 1, 10, .inl f1)), (h3, .inl (cy 1, 1024, .inl (u.2.1 0)))]) 0 0 := by
  refine q_ent (own := RX0) (by decide) rfl (Nat.le_of_ble_eq_true rfl) (fun p e s m below meth c ls X hr hlk hnm hK h hA hl => ?_)
  obtain ⟨hx, hb, hml, hown, ht⟩ := id X
  replace hl : lv_has ls 7 [(0, .ref h1), (1, .ref h0)] := hl
  refine lv_aload_n hx hb dX0_weighPairs_0 rfl (lv_at hl 0 rfl) ?_
  refine q_get X hK h 1 rfl rfl wf_0 3 (by decide) rfl wm_1_203 dX0_weighPairs_1 ?_
  refine lv_iconst (v := 0) hx hb dX0_weighPairs_4 (by decide) ?_
  refine lv_iconst (v := 0) hx hb dX0_weighPairs_5 (by decide) ?_
  refine q_iast X hK h 3 rfl (q_in (by decide +kernel)) dX0_weighPairs_6 (fun H locs h_2 => ?_)
  clear h
  replace h_2 : qW D _ _ [(h0, .inl (cy 1, 10, .inl f0)), (h1, .inr (0, [.int p0, .ref h2, w0, .ref h3])), (h2, .inl (cy 1, 10, .inl f1)), (h3, .inl (cy 1, 1024, .inl (upd f2 (Int32.toNatClampNeg 0) 0)))] _ _ := h_2
  obtain ⟨F_1, eF_1⟩ : ∃ z, (upd f2 (Int32.toNatClampNeg 0) 0) = z := ⟨_, rfl⟩
  rw [eF_1] at h_2
  clear eF_1
  refine lv_iconst (v := 1) hx hb dX0_weighPairs_7 (by decide) ?_
  refine lv_istore_n (lv' := [(2, .int 1), (0, .ref h1), (1, .ref h0)]) hx hb dX0_weighPairs_8 rfl hl (by decide) rfl (fun ls_3 hl_3 => ?_)
  clear hl
  refine q_wl (fun (v9_4_0 : Int32) H locs ls => ∃ v9_4_1 : Nat → Int32, (1 ≤ (v9_4_0).toInt ∧ (v9_4_0).toInt ≤ 1024) ∧ qW D (va_A [(h0, .inl (cy 1, 10, .inl f0)), (h1, .inr (0, [.int p0, .ref h2, w0, .ref h3])), (h2, .inl (cy 1, 10, .inl f1)), (h3, .inl (cy 1, 1024, .inl f2))] sz) s.heap [(h0, .inl (cy 1, 10, .inl f0)), (h1, .inr (0, [.int p0, .ref h2, w0, .ref h3])), (h2, .inl (cy 1, 10, .inl f1)), (h3, .inl (cy 1, 1024, .inl v9_4_1))] H locs ∧ lv_has ls 7 [(0, .ref h1), (1, .ref h0), (2, .int v9_4_0)]) (fun (v9_4_0 : Int32) => (1025 - (v9_4_0).toInt).toNat) (fun q_9 ih_9 H locs ls hP => ?_) 1 ⟨F_1, ⟨by decide +kernel, by decide +kernel⟩, h_2, (lv_sub hl_3 [1, 2, 0] rfl)⟩
  obtain ⟨v9_4_0, rfl⟩ : ∃ z, z = q_9 := ⟨_, rfl⟩
  obtain ⟨v9_4_1, hv9_4_0, h, hl⟩ := hP
  refine lv_iload_n hx hb dX0_weighPairs_9 rfl (lv_at hl 2 rfl) ?_
  refine lv_iconst (v := 1) hx hb dX0_weighPairs_10 (by decide) ?_
  refine lv_aload_n hx hb dX0_weighPairs_11 rfl (lv_at hl 0 rfl) ?_
  refine q_get X hK h 1 rfl rfl wf_0 0 (by decide) rfl wm_1_198 dX0_weighPairs_12 ?_
  refine lv_ishl hx hb dX0_weighPairs_15 ?_
  obtain ⟨z_5, ez_5, hz_5⟩ := e_shlk (p := p0) 10 (by decide) rfl (by omega) (by omega)
  refine q_c z_5 ez_5 ?_
  clear ez_5
  refine lv_icmp_ge (tgt := 109) hx hb dX0_weighPairs_16 (by decide) (fun c_6 => ?_) (fun c_6 => ?_)
  · replace c_6 := i_le (x := z_5) (y := v9_4_0) rfl rfl c_6
    exact q_vret X hr hlk hK h (fun _ => 0, fun k => List.getD [v9_4_1] k (fun _ => 0), fun _ _ => 0) trivial [0, 1, 2, 3] rfl rfl dX0_weighPairs_109 (Nat.le_of_ble_eq_true rfl) (Nat.le_of_ble_eq_true rfl)
  · replace c_6 := i_nle (x := z_5) (y := v9_4_0) rfl rfl c_6
    refine lv_iload_n hx hb dX0_weighPairs_19 rfl (lv_at hl 2 rfl) ?_
    refine q_callSi (rest := []) (wr := [(h0, .inl (cy 1, 10, .inl f0)), (h1, .inr (0, [.int p0, .ref h2, w0, .ref h3])), (h2, .inl (cy 1, 10, .inl f1)), (h3, .inl (cy 1, 1024, .inl v9_4_1))]) X hK hA h (fun sz => gX0_lowestOf_42 l D cy v9_4_0 ⟨by omega, by omega⟩ sz) wm_4_113 wm_4_115 wm_1_6 hd_X0_lowestOf wm_4_114 ⟨Nat.le_of_ble_eq_true rfl, Nat.le_of_ble_eq_true rfl⟩ hl.1 rfl (Nat.le_of_ble_eq_true rfl) dX0_weighPairs_20 ⟨Nat.le_of_ble_eq_true rfl, Nat.le_of_ble_eq_true rfl⟩ [] [0, 1, 2, 3] rfl rfl (by decide) rfl rfl (fun r_7 u_7 H locs w_7 h_7 => ?_)
    clear h
    obtain ⟨wr_7, _⟩ := w_7
    replace h_7 : qW D _ _ [(h0, .inl (cy 1, 10, .inl f0)), (h1, .inr (0, [.int p0, .ref h2, w0, .ref h3])), (h2, .inl (cy 1, 10, .inl f1)), (h3, .inl (cy 1, 1024, .inl v9_4_1))] _ _ := h_7
    refine lv_istore_n (lv' := [(3, .int r_7), (0, .ref h1), (1, .ref h0), (2, .int v9_4_0)]) hx hb dX0_weighPairs_23 rfl hl (by decide) rfl (fun ls_8 hl_8 => ?_)
    clear hl
    refine lv_aload_n hx hb dX0_weighPairs_24 rfl (lv_at hl_8 1 rfl) ?_
    refine q_get X hK h_7 1 rfl rfl wf_0 1 (by decide) rfl wm_1_199 dX0_weighPairs_25 ?_
    refine lv_iload_n hx hb dX0_weighPairs_28 rfl (lv_at hl_8 0 rfl) ?_
    refine q_iald X hK h_7 2 rfl (i_in rfl (by omega) (by omega)) dX0_weighPairs_29 ?_
    obtain ⟨z_9, ez_9, hz_9⟩ := rg_get rf1 (x := r_7) rfl (by omega) (by omega)
    refine q_c z_9 ez_9 ?_
    clear ez_9
    refine lv_iload_n hx hb dX0_weighPairs_30 rfl (lv_at hl_8 3 rfl) ?_
    refine lv_iand hx hb dX0_weighPairs_31 ?_
    obtain ⟨z_10, ez_10, hz_10⟩ := e_and2 (x := z_9) (y := v9_4_0) rfl (by omega)
    refine q_c z_10 ez_10 ?_
    clear ez_10
    refine lv_istore (lv' := [(4, .int z_10), (3, .int r_7), (0, .ref h1), (1, .ref h0), (2, .int v9_4_0)]) hx hb dX0_weighPairs_32 hl_8 (by decide) rfl (fun ls_11 hl_11 => ?_)
    clear hl_8
    refine lv_aload_n hx hb dX0_weighPairs_34 rfl (lv_at hl_11 2 rfl) ?_
    refine q_get X hK h_7 1 rfl rfl wf_0 3 (by decide) rfl wm_1_203 dX0_weighPairs_35 ?_
    refine lv_iload_n hx hb dX0_weighPairs_38 rfl (lv_at hl_11 4 rfl) ?_
    refine lv_iconst (v := 1) hx hb dX0_weighPairs_39 (by decide) ?_
    refine lv_iload_n hx hb dX0_weighPairs_40 rfl (lv_at hl_11 1 rfl) ?_
    refine lv_ishl hx hb dX0_weighPairs_41 ?_
    obtain ⟨z_12, ez_12, hz_12⟩ := e_shlk (p := r_7) 9 (by decide) rfl (by omega) (by omega)
    refine q_c z_12 ez_12 ?_
    clear ez_12
    refine lv_iconst (v := (-1)) hx hb dX0_weighPairs_42 (by decide) ?_
    refine lv_ixor hx hb dX0_weighPairs_43 ?_
    refine q_any (fun z_13 hz_13 => ?_)
    refine lv_iand hx hb dX0_weighPairs_44 ?_
    obtain ⟨z_14, ez_14, hz_14⟩ := e_and1 (x := v9_4_0) (y := z_13) rfl (by omega)
    refine q_c z_14 ez_14 ?_
    clear ez_14
    refine q_iald X hK h_7 3 rfl (i_in rfl (by omega) (by omega)) dX0_weighPairs_45 ?_
    refine q_any (fun z_15 hz_15 => ?_)
    refine lv_istore (lv' := [(5, .int z_15), (4, .int z_10), (3, .int r_7), (0, .ref h1), (1, .ref h0), (2, .int v9_4_0)]) hx hb dX0_weighPairs_46 hl_11 (by decide) rfl (fun ls_16 hl_16 => ?_)
    clear hl_11
    refine lv_iload_n hx hb dX0_weighPairs_48 rfl (lv_at hl_16 2 rfl) ?_
    refine lv_iconst (v := 1) hx hb dX0_weighPairs_49 (by decide) ?_
    refine lv_iadd hx hb dX0_weighPairs_50 ?_
    obtain ⟨z_17, ez_17, hz_17⟩ := e_add (x := r_7) (y := 1) rfl (show (1 : Int32).toInt = 1 by decide) (by omega) (by omega)
    refine q_c z_17 ez_17 ?_
    clear ez_17
    refine lv_istore (lv' := [(6, .int z_17), (5, .int z_15), (4, .int z_10), (3, .int r_7), (0, .ref h1), (1, .ref h0), (2, .int v9_4_0)]) hx hb dX0_weighPairs_51 hl_16 (by decide) rfl (fun ls_18 hl_18 => ?_)
    clear hl_16
    refine q_wl (fun (q : Int32 × Int32) H locs ls => match q with | (v53_19_0, v53_19_1) => (1 ≤ (v53_19_0).toInt ∧ (v53_19_0).toInt ≤ 10) ∧ ((-2147483648) ≤ (v53_19_1).toInt ∧ (v53_19_1).toInt ≤ 2147483647) ∧ qW D (va_A [(h0, .inl (cy 1, 10, .inl f0)), (h1, .inr (0, [.int p0, .ref h2, w0, .ref h3])), (h2, .inl (cy 1, 10, .inl f1)), (h3, .inl (cy 1, 1024, .inl f2))] sz) s.heap [(h0, .inl (cy 1, 10, .inl f0)), (h1, .inr (0, [.int p0, .ref h2, w0, .ref h3])), (h2, .inl (cy 1, 10, .inl f1)), (h3, .inl (cy 1, 1024, .inl v9_4_1))] H locs ∧ lv_has ls 7 [(0, .ref h1), (1, .ref h0), (2, .int v9_4_0), (3, .int r_7), (4, .int z_10), (5, .int v53_19_1), (6, .int v53_19_0)]) (fun (q : Int32 × Int32) => match q with | (v53_19_0, v53_19_1) => (11 - (v53_19_0).toInt).toNat) (fun q_53 ih_53 H locs ls hP => ?_) (z_17, z_15) ⟨⟨by omega, by omega⟩, ⟨by omega, by omega⟩, h_7, (lv_sub hl_18 [4, 5, 6, 3, 2, 1, 0] rfl)⟩
    obtain ⟨v53_19_0, v53_19_1⟩ := q_53
    obtain ⟨hv53_19_0, hv53_19_1, h, hl⟩ := hP
    refine lv_iload hx hb dX0_weighPairs_53 (lv_at hl 6 rfl) ?_
    refine lv_aload_n hx hb dX0_weighPairs_55 rfl (lv_at hl 0 rfl) ?_
    refine q_get X hK h 1 rfl rfl wf_0 0 (by decide) rfl wm_1_198 dX0_weighPairs_56 ?_
    refine lv_icmp_ge (tgt := 95) hx hb dX0_weighPairs_59 (by decide) (fun c_20 => ?_) (fun c_20 => ?_)
    · replace c_20 := i_le (x := p0) (y := v53_19_0) rfl rfl c_20
      refine lv_aload_n hx hb dX0_weighPairs_95 rfl (lv_at hl 0 rfl) ?_
      refine q_get X hK h 1 rfl rfl wf_0 3 (by decide) rfl wm_1_203 dX0_weighPairs_96 ?_
      refine lv_iload_n hx hb dX0_weighPairs_99 rfl (lv_at hl 2 rfl) ?_
      refine lv_iload hx hb dX0_weighPairs_100 (lv_at hl 5 rfl) ?_
      refine q_iast X hK h 3 rfl (i_in rfl (by omega) (by omega)) dX0_weighPairs_102 (fun H locs h_22 => ?_)
      clear h
      replace h_22 : qW D _ _ [(h0, .inl (cy 1, 10, .inl f0)), (h1, .inr (0, [.int p0, .ref h2, w0, .ref h3])), (h2, .inl (cy 1, 10, .inl f1)), (h3, .inl (cy 1, 1024, .inl (upd v9_4_1 (Int32.toNatClampNeg v9_4_0) v53_19_1)))] _ _ := h_22
      obtain ⟨F_21, eF_21⟩ : ∃ z, (upd v9_4_1 (Int32.toNatClampNeg v9_4_0) v53_19_1) = z := ⟨_, rfl⟩
      rw [eF_21] at h_22
      clear eF_21
      obtain ⟨z_23, ez_23, hz_23⟩ := e_add (x := v9_4_0) (y := Int32.ofInt 1) rfl (b := 1) (by decide) (by omega) (by omega)
      refine lv_iinc (v := z_23) (lv' := [(2, .int z_23), (0, .ref h1), (1, .ref h0), (3, .int r_7), (4, .int z_10), (5, .int v53_19_1), (6, .int v53_19_0)]) hx hb dX0_weighPairs_103 hl (k := 2) rfl ez_23 (by decide) rfl (fun ls_23 hl_23 => ?_)
      clear hl
      refine lv_goto (tgt := 9) hx hb dX0_weighPairs_106 (by decide) ?_
      exact ih_9 z_23 (by show (1025 - (z_23).toInt).toNat < (1025 - (v9_4_0).toInt).toNat; omega) _ _ _ ⟨F_21, ⟨by omega, by omega⟩, h_22, (lv_sub hl_23 [1, 2, 0] rfl)⟩
    · replace c_20 := i_nle (x := p0) (y := v53_19_0) rfl rfl c_20
      refine lv_iload hx hb dX0_weighPairs_62 (lv_at hl 4 rfl) ?_
      refine lv_iload hx hb dX0_weighPairs_64 (lv_at hl 6 rfl) ?_
      refine lv_ishr hx hb dX0_weighPairs_66 ?_
      obtain ⟨z_24, ez_24, hz_24⟩ := e_shr (x := z_10) v53_19_0 rfl (by omega)
      refine q_c z_24 ez_24 ?_
      clear ez_24
      refine lv_iconst (v := 1) hx hb dX0_weighPairs_67 (by decide) ?_
      refine lv_iand hx hb dX0_weighPairs_68 ?_
      obtain ⟨z_25, ez_25, hz_25⟩ := e_and2 (x := z_24) (y := 1) (show (1 : Int32).toInt = 1 by decide) (by omega)
      refine q_c z_25 ez_25 ?_
      clear ez_25
      refine lv_iconst (v := 1) hx hb dX0_weighPairs_69 (by decide) ?_
      refine q_jn (pc2 := 89) (fun H locs ls st => ∃ v89_26_0 : Int32, ((-2147483648) ≤ (v89_26_0).toInt ∧ (v89_26_0).toInt ≤ 2147483647) ∧ st = [] ∧ qW D (va_A [(h0, .inl (cy 1, 10, .inl f0)), (h1, .inr (0, [.int p0, .ref h2, w0, .ref h3])), (h2, .inl (cy 1, 10, .inl f1)), (h3, .inl (cy 1, 1024, .inl f2))] sz) s.heap [(h0, .inl (cy 1, 10, .inl f0)), (h1, .inr (0, [.int p0, .ref h2, w0, .ref h3])), (h2, .inl (cy 1, 10, .inl f1)), (h3, .inl (cy 1, 1024, .inl v9_4_1))] H locs ∧ lv_has ls 7 [(0, .ref h1), (1, .ref h0), (2, .int v9_4_0), (3, .int r_7), (4, .int z_10), (5, .int v89_26_0), (6, .int v53_19_0)]) (fun H locs ls st hP => ?_) (fun J_89 => ?_)
      · obtain ⟨v89_26_0, hv89_26_0, rfl, h, hl⟩ := hP
        obtain ⟨z_27, ez_27, hz_27⟩ := e_add (x := v53_19_0) (y := Int32.ofInt 1) rfl (b := 1) (by decide) (by omega) (by omega)
        refine lv_iinc (v := z_27) (lv' := [(6, .int z_27), (0, .ref h1), (1, .ref h0), (2, .int v9_4_0), (3, .int r_7), (4, .int z_10), (5, .int v89_26_0)]) hx hb dX0_weighPairs_89 hl (k := 6) rfl ez_27 (by decide) rfl (fun ls_27 hl_27 => ?_)
        clear hl
        refine lv_goto (tgt := 53) hx hb dX0_weighPairs_92 (by decide) ?_
        exact ih_53 (z_27, v89_26_0) (by show (11 - (z_27).toInt).toNat < (11 - (v53_19_0).toInt).toNat; omega) _ _ _ ⟨⟨by omega, by omega⟩, ⟨by omega, by omega⟩, h, (lv_sub hl_27 [1, 2, 3, 4, 5, 6, 0] rfl)⟩
      · skip
        refine lv_icmp_ne (tgt := 89) hx hb dX0_weighPairs_70 (by decide) (fun c_28 => ?_) (fun c_28 => ?_)
        · replace c_28 := i_ne (x := z_25) (y := 1) rfl (show (1 : Int32).toInt = 1 by decide) c_28
          exact J_89 _ _ _ _ ⟨v53_19_1, ⟨by omega, by omega⟩, rfl, h, (lv_sub hl [0, 1, 2, 3, 4, 5, 6] rfl)⟩
        · replace c_28 := i_eq (x := z_25) (y := 1) rfl (show (1 : Int32).toInt = 1 by decide) c_28
          refine lv_iload hx hb dX0_weighPairs_73 (lv_at hl 5 rfl) ?_
          refine lv_aload_n hx hb dX0_weighPairs_75 rfl (lv_at hl 0 rfl) ?_
          refine lv_iload_n hx hb dX0_weighPairs_76 rfl (lv_at hl 3 rfl) ?_
          refine lv_iload hx hb dX0_weighPairs_77 (lv_at hl 6 rfl) ?_
          refine lv_iload_n hx hb dX0_weighPairs_79 rfl (lv_at hl 2 rfl) ?_
          refine lv_aload_n hx hb dX0_weighPairs_80 rfl (lv_at hl 1 rfl) ?_
          refine q_callVi (rest := [.int v53_19_1]) (wr := [(h2, .inl (cy 1, 10, .inl f1))]) X hK hA h (fun sz => gX0_worthWith_81 l D cy h0 h1 h3 r_7 v53_19_0 v9_4_0 f0 p0 (.ref h2) w0 v9_4_1 ⟨by omega, by omega⟩ ⟨by omega, by omega⟩ ⟨by omega, by omega⟩ ⟨by omega, by omega⟩ (rg_wide rf0 (by decide) (by decide)) sz) wm_4_157 wm_4_160 wm_1_6 hd_X0_worthWith wm_4_159 wp_3_6 (ci := 0) (q0 := 1) rfl rfl ⟨Nat.le_of_ble_eq_true rfl, Nat.le_of_ble_eq_true rfl⟩ hl.1 rfl (Nat.le_of_ble_eq_true rfl) dX0_weighPairs_81 ⟨Nat.le_of_ble_eq_true rfl, Nat.le_of_ble_eq_true rfl⟩ [0, 1, 3] [2] rfl rfl (by decide) rfl rfl (fun r_29 u_29 H locs w_29 h_29 => ?_)
          clear h
          obtain ⟨wr_29, _⟩ := w_29
          replace h_29 : qW D _ _ [(h2, .inl (cy 1, 10, .inl f1)), (h0, .inl (cy 1, 10, .inl f0)), (h1, .inr (0, [.int p0, .ref h2, w0, .ref h3])), (h3, .inl (cy 1, 1024, .inl v9_4_1))] _ _ := h_29
          refine va_mmax hx hb (hml.trans hl.1.symm) hown (ht _ wm_4_161) (ht _ wm_3_23) (ht _ wm_1_13) (ht _ wm_3_24) (Nat.le_of_ble_eq_true rfl) (Nat.le_of_ble_eq_true rfl) (Nat.le_of_ble_eq_true rfl) (Nat.le_of_ble_eq_true rfl) dX0_weighPairs_84 ?_
          obtain ⟨z_30, ez_30, hz_30⟩ := e_max (x := v53_19_1) (y := r_29) rfl rfl
          refine q_c z_30 ez_30 ?_
          clear ez_30
          refine lv_istore (lv' := [(5, .int z_30), (0, .ref h1), (1, .ref h0), (2, .int v9_4_0), (3, .int r_7), (4, .int z_10), (6, .int v53_19_0)]) hx hb dX0_weighPairs_87 hl (by decide) rfl (fun ls_31 hl_31 => ?_)
          clear hl
          exact J_89 _ _ _ _ ⟨z_30, ⟨by omega, by omega⟩, rfl, (q_re h_29 [1, 2, 0, 3] rfl rfl), (lv_sub hl_31 [1, 2, 3, 4, 5, 0, 6] rfl)⟩
set_option maxHeartbeats 4000000 in
set_option maxRecDepth 100000 in
theorem gX0_pieceOf_83 (l : Launch) (D : va_G) (cy : Nat → ClassId) (h0 : Nat) (h1 : Nat) (p0 : Int32) (p1 : Int32) (p2 : Int32) (w0 : Value) (w1 : Value) (f0 : Nat → Int32) (hp0 : 0 ≤ (p0).toInt ∧ (p0).toInt ≤ 1023) (hp1 : 1 ≤ (p1).toInt ∧ (p1).toInt ≤ 1023) (hp2 : 1 ≤ (p2).toInt ∧ (p2).toInt ≤ 10) (rf0 : RG f0 10 0 1023) (sz : Nat) : MI l yX0_pieceOf cX0_pieceOf 8 .int { frames := 2, cells := 0, slots := 0, locals := 40 } [.ref h0, .int p0, .int p1] D cy [(h0, .inr (0, [.int p2, .ref h1, w0, w1])), (h1, .inl (cy 1, 10, .inl f0))] sz (fun r u => (0 ≤ r.toInt ∧ r.toInt ≤ 1023) ∧ True) (fun u => [(h0, .inr (0, [.int p2, .ref h1, w0, w1])), (h1, .inl (cy 1, 10, .inl f0))]) 0 0 := by
  refine q_ent (own := RX0) (by decide) rfl (Nat.le_of_ble_eq_true rfl) (fun p e s m below meth c ls X hr hlk hnm hK h hA hl => ?_)
  obtain ⟨hx, hb, hml, hown, ht⟩ := id X
  replace hl : lv_has ls 8 [(0, .ref h0), (1, .int p0), (2, .int p1)] := hl
  refine lv_iload_n hx hb dX0_pieceOf_0 rfl (lv_at hl 1 rfl) ?_
  refine lv_istore_n (lv' := [(3, .int p0), (0, .ref h0), (1, .int p0), (2, .int p1)]) hx hb dX0_pieceOf_1 rfl hl (by decide) rfl (fun ls_1 hl_1 => ?_)
  clear hl
  refine lv_iload_n hx hb dX0_pieceOf_2 rfl (lv_at hl_1 2 rfl) ?_
  refine lv_istore (lv' := [(4, .int p0), (3, .int p0), (0, .ref h0), (1, .int p0), (2, .int p1)]) hx hb dX0_pieceOf_3 hl_1 (by decide) rfl (fun ls_2 hl_2 => ?_)
  clear hl_1
  refine lv_iconst (v := 0) hx hb dX0_pieceOf_5 (by decide) ?_
  refine lv_istore (lv' := [(5, .int 0), (4, .int p0), (3, .int p0), (0, .ref h0), (1, .int p0), (2, .int p1)]) hx hb dX0_pieceOf_6 hl_2 (by decide) rfl (fun ls_3 hl_3 => ?_)
  clear hl_2
  refine q_wl (fun (q : Int32 × Int32 × Int32) H locs ls => match q with | (v8_4_0, v8_4_1, v8_4_2) => (0 ≤ (v8_4_0).toInt ∧ (v8_4_0).toInt ≤ 10) ∧ (0 ≤ (v8_4_1).toInt ∧ (v8_4_1).toInt ≤ 1023) ∧ (0 ≤ (v8_4_2).toInt ∧ (v8_4_2).toInt ≤ 1023) ∧ qW D (va_A [(h0, .inr (0, [.int p2, .ref h1, w0, w1])), (h1, .inl (cy 1, 10, .inl f0))] sz) s.heap [(h0, .inr (0, [.int p2, .ref h1, w0, w1])), (h1, .inl (cy 1, 10, .inl f0))] H locs ∧ lv_has ls 8 [(0, .ref h0), (1, .int p0), (2, .int p1), (3, .int v8_4_2), (4, .int v8_4_1), (5, .int v8_4_0)]) (fun (q : Int32 × Int32 × Int32) => match q with | (v8_4_0, v8_4_1, v8_4_2) => (11 - (v8_4_0).toInt).toNat) (fun q_8 ih_8 H locs ls hP => ?_) (0, p0, p0) ⟨⟨by decide +kernel, by decide +kernel⟩, ⟨by omega, by omega⟩, ⟨by omega, by omega⟩, h, (lv_sub hl_3 [3, 4, 5, 2, 1, 0] rfl)⟩
  obtain ⟨v8_4_0, v8_4_1, v8_4_2⟩ := q_8
  obtain ⟨hv8_4_0, hv8_4_1, hv8_4_2, h, hl⟩ := hP
  refine lv_iload hx hb dX0_pieceOf_8 (lv_at hl 5 rfl) ?_
  refine lv_aload_n hx hb dX0_pieceOf_10 rfl (lv_at hl 0 rfl) ?_
  refine q_get X hK h 0 rfl rfl wf_0 0 (by decide) rfl wm_1_198 dX0_pieceOf_11 ?_
  refine q_jn (pc2 := 69) (fun H locs ls st => st = [] ∧ qW D (va_A [(h0, .inr (0, [.int p2, .ref h1, w0, w1])), (h1, .inl (cy 1, 10, .inl f0))] sz) s.heap [(h0, .inr (0, [.int p2, .ref h1, w0, w1])), (h1, .inl (cy 1, 10, .inl f0))] H locs ∧ lv_has ls 8 [(0, .ref h0), (1, .int p0), (2, .int p1), (3, .int v8_4_2), (4, .int v8_4_1), (5, .int v8_4_0)]) (fun H locs ls st hP => ?_) (fun J_69 => ?_)
  · obtain ⟨rfl, h, hl⟩ := hP
    refine lv_iload_n hx hb dX0_pieceOf_69 rfl (lv_at hl 3 rfl) ?_
    exact q_iret X hr hlk hK h rfl (fun _ => 0, fun _ _ => 0, fun _ _ => 0) ⟨⟨by omega, by omega⟩, trivial⟩ [0, 1] rfl rfl dX0_pieceOf_70 (Nat.le_of_ble_eq_true rfl) (Nat.le_of_ble_eq_true rfl)
  · skip
    refine lv_icmp_ge (tgt := 69) hx hb dX0_pieceOf_14 (by decide) (fun c_6 => ?_) (fun c_6 => ?_)
    · replace c_6 := i_le (x := p2) (y := v8_4_0) rfl rfl c_6
      exact J_69 _ _ _ _ ⟨rfl, h, (lv_sub hl [0, 1, 2, 3, 4, 5] rfl)⟩
    · replace c_6 := i_nle (x := p2) (y := v8_4_0) rfl rfl c_6
      refine lv_iload hx hb dX0_pieceOf_17 (lv_at hl 4 rfl) ?_
      refine lv_if_eq (tgt := 69) hx hb dX0_pieceOf_19 (by decide) (fun c_7 => ?_) (fun c_7 => ?_)
      · replace c_7 := i_eq (x := v8_4_1) (y := 0) rfl (show (0 : Int32).toInt = 0 by decide) c_7
        exact J_69 _ _ _ _ ⟨rfl, h, (lv_sub hl [0, 1, 2, 3, 4, 5] rfl)⟩
      · replace c_7 := i_ne (x := v8_4_1) (y := 0) rfl (show (0 : Int32).toInt = 0 by decide) c_7
        refine lv_iload hx hb dX0_pieceOf_22 (lv_at hl 4 rfl) ?_
        refine q_callSi (rest := []) (wr := [(h0, .inr (0, [.int p2, .ref h1, w0, w1])), (h1, .inl (cy 1, 10, .inl f0))]) X hK hA h (fun sz => gX0_lowestOf_42 l D cy v8_4_1 ⟨by omega, by omega⟩ sz) wm_4_113 wm_4_115 wm_1_6 hd_X0_lowestOf wm_4_114 ⟨Nat.le_of_ble_eq_true rfl, Nat.le_of_ble_eq_true rfl⟩ hl.1 rfl (Nat.le_of_ble_eq_true rfl) dX0_pieceOf_24 ⟨Nat.le_of_ble_eq_true rfl, Nat.le_of_ble_eq_true rfl⟩ [] [0, 1] rfl rfl (by decide) rfl rfl (fun r_8 u_8 H locs w_8 h_8 => ?_)
        clear h
        obtain ⟨wr_8, _⟩ := w_8
        replace h_8 : qW D _ _ [(h0, .inr (0, [.int p2, .ref h1, w0, w1])), (h1, .inl (cy 1, 10, .inl f0))] _ _ := h_8
        refine lv_istore (lv' := [(6, .int r_8), (0, .ref h0), (1, .int p0), (2, .int p1), (3, .int v8_4_2), (4, .int v8_4_1), (5, .int v8_4_0)]) hx hb dX0_pieceOf_27 hl (by decide) rfl (fun ls_9 hl_9 => ?_)
        clear hl
        refine lv_aload_n hx hb dX0_pieceOf_29 rfl (lv_at hl_9 1 rfl) ?_
        refine q_get X hK h_8 0 rfl rfl wf_0 1 (by decide) rfl wm_1_199 dX0_pieceOf_30 ?_
        refine lv_iload hx hb dX0_pieceOf_33 (lv_at hl_9 0 rfl) ?_
        refine q_iald X hK h_8 1 rfl (i_in rfl (by omega) (by omega)) dX0_pieceOf_35 ?_
        obtain ⟨z_10, ez_10, hz_10⟩ := rg_get rf0 (x := r_8) rfl (by omega) (by omega)
        refine q_c z_10 ez_10 ?_
        clear ez_10
        refine lv_iload_n hx hb dX0_pieceOf_36 rfl (lv_at hl_9 3 rfl) ?_
        refine lv_iand hx hb dX0_pieceOf_37 ?_
        obtain ⟨z_11, ez_11, hz_11⟩ := e_and2 (x := z_10) (y := p1) rfl (by omega)
        refine q_c z_11 ez_11 ?_
        clear ez_11
        refine lv_iload_n hx hb dX0_pieceOf_38 rfl (lv_at hl_9 4 rfl) ?_
        refine lv_iconst (v := (-1)) hx hb dX0_pieceOf_39 (by decide) ?_
        refine lv_ixor hx hb dX0_pieceOf_40 ?_
        refine q_any (fun z_12 hz_12 => ?_)
        refine lv_iand hx hb dX0_pieceOf_41 ?_
        obtain ⟨z_13, ez_13, hz_13⟩ := e_and1 (x := z_11) (y := z_12) rfl (by omega)
        refine q_c z_13 ez_13 ?_
        clear ez_13
        refine lv_istore (lv' := [(7, .int z_13), (6, .int r_8), (0, .ref h0), (1, .int p0), (2, .int p1), (3, .int v8_4_2), (4, .int v8_4_1), (5, .int v8_4_0)]) hx hb dX0_pieceOf_42 hl_9 (by decide) rfl (fun ls_14 hl_14 => ?_)
        clear hl_9
        refine lv_iload_n hx hb dX0_pieceOf_44 rfl (lv_at hl_14 5 rfl) ?_
        refine lv_iload hx hb dX0_pieceOf_45 (lv_at hl_14 0 rfl) ?_
        refine lv_ior hx hb dX0_pieceOf_47 ?_
        obtain ⟨z_15, ez_15, hz_15⟩ := e_or (x := v8_4_2) (y := z_13) 10 (by decide) rfl rfl (by omega) (by omega) (by omega) (by omega)
        refine q_c z_15 ez_15 ?_
        clear ez_15
        refine lv_istore_n (lv' := [(3, .int z_15), (7, .int z_13), (6, .int r_8), (0, .ref h0), (1, .int p0), (2, .int p1), (4, .int v8_4_1), (5, .int v8_4_0)]) hx hb dX0_pieceOf_48 rfl hl_14 (by decide) rfl (fun ls_16 hl_16 => ?_)
        clear hl_14
        refine lv_iload hx hb dX0_pieceOf_49 (lv_at hl_16 6 rfl) ?_
        refine lv_iconst (v := 1) hx hb dX0_pieceOf_51 (by decide) ?_
        refine lv_iload hx hb dX0_pieceOf_52 (lv_at hl_16 2 rfl) ?_
        refine lv_ishl hx hb dX0_pieceOf_54 ?_
        obtain ⟨z_17, ez_17, hz_17⟩ := e_shlk (p := r_8) 9 (by decide) rfl (by omega) (by omega)
        refine q_c z_17 ez_17 ?_
        clear ez_17
        refine lv_iconst (v := (-1)) hx hb dX0_pieceOf_55 (by decide) ?_
        refine lv_ixor hx hb dX0_pieceOf_56 ?_
        refine q_any (fun z_18 hz_18 => ?_)
        refine lv_iand hx hb dX0_pieceOf_57 ?_
        obtain ⟨z_19, ez_19, hz_19⟩ := e_and1 (x := v8_4_1) (y := z_18) rfl (by omega)
        refine q_c z_19 ez_19 ?_
        clear ez_19
        refine lv_iload hx hb dX0_pieceOf_58 (lv_at hl_16 1 rfl) ?_
        refine lv_ior hx hb dX0_pieceOf_60 ?_
        obtain ⟨z_20, ez_20, hz_20⟩ := e_or (x := z_19) (y := z_13) 10 (by decide) rfl rfl (by omega) (by omega) (by omega) (by omega)
        refine q_c z_20 ez_20 ?_
        clear ez_20
        refine lv_istore (lv' := [(4, .int z_20), (3, .int z_15), (7, .int z_13), (6, .int r_8), (0, .ref h0), (1, .int p0), (2, .int p1), (5, .int v8_4_0)]) hx hb dX0_pieceOf_61 hl_16 (by decide) rfl (fun ls_21 hl_21 => ?_)
        clear hl_16
        obtain ⟨z_22, ez_22, hz_22⟩ := e_add (x := v8_4_0) (y := Int32.ofInt 1) rfl (b := 1) (by decide) (by omega) (by omega)
        refine lv_iinc (v := z_22) (lv' := [(5, .int z_22), (4, .int z_20), (3, .int z_15), (7, .int z_13), (6, .int r_8), (0, .ref h0), (1, .int p0), (2, .int p1)]) hx hb dX0_pieceOf_63 hl_21 (k := 7) rfl ez_22 (by decide) rfl (fun ls_22 hl_22 => ?_)
        clear hl_21
        refine lv_goto (tgt := 8) hx hb dX0_pieceOf_66 (by decide) ?_
        exact ih_8 (z_22, z_20, z_15) (by show (11 - (z_22).toInt).toNat < (11 - (v8_4_0).toInt).toNat; omega) _ _ _ ⟨⟨by omega, by omega⟩, ⟨by omega, by omega⟩, ⟨by omega, by omega⟩, h_8, (lv_sub hl_22 [5, 6, 7, 2, 1, 0] rfl)⟩
set_option maxHeartbeats 4000000 in
set_option maxRecDepth 100000 in
theorem gJ6_bitCount_0f7a4_84 (l : Launch) (D : va_G) (cy : Nat → ClassId) (p0 : Int32) (hp0 : 0 ≤ (p0).toInt ∧ (p0).toInt ≤ 1023) (sz : Nat) : MI l yJ6_bitCount_0f7a4 cJ6_bitCount_0f7a4 1 .int { frames := 0, cells := 0, slots := 0, locals := 0 } [.int p0] D cy [] sz (fun r u => (0 ≤ r.toInt ∧ r.toInt ≤ 63) ∧ True) (fun u => []) 0 0 := by
  refine q_ent (own := RJ6) (by decide) rfl (Nat.le_of_ble_eq_true rfl) (fun p e s m below meth c ls X hr hlk hnm hK h hA hl => ?_)
  obtain ⟨hx, hb, hml, hown, ht⟩ := id X
  replace hl : lv_has ls 1 [(0, .int p0)] := hl
  refine lv_iload_n hx hb dJ6_bitCount_0f7a4_0 rfl (lv_at hl 0 rfl) ?_
  refine lv_iload_n hx hb dJ6_bitCount_0f7a4_1 rfl (lv_at hl 0 rfl) ?_
  refine lv_iconst (v := 1) hx hb dJ6_bitCount_0f7a4_2 (by decide) ?_
  refine lv_iushr hx hb dJ6_bitCount_0f7a4_3 rfl ?_
  refine q_any (fun z_1 hz_1 => ?_)
  refine lv_ldcw hx hb hown (ht _ wm_4_60) dJ6_bitCount_0f7a4_4 ?_
  refine lv_iand hx hb dJ6_bitCount_0f7a4_7 ?_
  obtain ⟨z_2, ez_2, hz_2⟩ := e_and2 (x := z_1) (y := 1431655765) (show (1431655765 : Int32).toInt = 1431655765 by decide) (by omega)
  refine q_c z_2 ez_2 ?_
  clear ez_2
  refine lv_isub hx hb dJ6_bitCount_0f7a4_8 ?_
  obtain ⟨z_3, ez_3, hz_3⟩ := e_sub (x := p0) (y := z_2) rfl rfl (by omega) (by omega)
  refine q_c z_3 ez_3 ?_
  clear ez_3
  refine lv_istore_n (lv' := [(0, .int z_3)]) hx hb dJ6_bitCount_0f7a4_9 rfl hl (by decide) rfl (fun ls_4 hl_4 => ?_)
  clear hl
  refine lv_iload_n hx hb dJ6_bitCount_0f7a4_10 rfl (lv_at hl_4 0 rfl) ?_
  refine lv_ldcw hx hb hown (ht _ wm_4_61) dJ6_bitCount_0f7a4_11 ?_
  refine lv_iand hx hb dJ6_bitCount_0f7a4_14 ?_
  obtain ⟨z_5, ez_5, hz_5⟩ := e_and2 (x := z_3) (y := 858993459) (show (858993459 : Int32).toInt = 858993459 by decide) (by omega)
  refine q_c z_5 ez_5 ?_
  clear ez_5
  refine lv_iload_n hx hb dJ6_bitCount_0f7a4_15 rfl (lv_at hl_4 0 rfl) ?_
  refine lv_iconst (v := 2) hx hb dJ6_bitCount_0f7a4_16 (by decide) ?_
  refine lv_iushr hx hb dJ6_bitCount_0f7a4_17 rfl ?_
  refine q_any (fun z_6 hz_6 => ?_)
  refine lv_ldcw hx hb hown (ht _ wm_4_61) dJ6_bitCount_0f7a4_18 ?_
  refine lv_iand hx hb dJ6_bitCount_0f7a4_21 ?_
  obtain ⟨z_7, ez_7, hz_7⟩ := e_and2 (x := z_6) (y := 858993459) (show (858993459 : Int32).toInt = 858993459 by decide) (by omega)
  refine q_c z_7 ez_7 ?_
  clear ez_7
  refine lv_iadd hx hb dJ6_bitCount_0f7a4_22 ?_
  obtain ⟨z_8, ez_8, hz_8⟩ := e_add (x := z_5) (y := z_7) rfl rfl (by omega) (by omega)
  refine q_c z_8 ez_8 ?_
  clear ez_8
  refine lv_istore_n (lv' := [(0, .int z_8)]) hx hb dJ6_bitCount_0f7a4_23 rfl hl_4 (by decide) rfl (fun ls_9 hl_9 => ?_)
  clear hl_4
  refine lv_iload_n hx hb dJ6_bitCount_0f7a4_24 rfl (lv_at hl_9 0 rfl) ?_
  refine lv_iload_n hx hb dJ6_bitCount_0f7a4_25 rfl (lv_at hl_9 0 rfl) ?_
  refine lv_iconst (v := 4) hx hb dJ6_bitCount_0f7a4_26 (by decide) ?_
  refine lv_iushr hx hb dJ6_bitCount_0f7a4_27 rfl ?_
  refine q_any (fun z_10 hz_10 => ?_)
  refine lv_iadd hx hb dJ6_bitCount_0f7a4_28 ?_
  refine q_any (fun z_11 hz_11 => ?_)
  refine lv_ldcw hx hb hown (ht _ wm_4_62) dJ6_bitCount_0f7a4_29 ?_
  refine lv_iand hx hb dJ6_bitCount_0f7a4_32 ?_
  obtain ⟨z_12, ez_12, hz_12⟩ := e_and2 (x := z_11) (y := 252645135) (show (252645135 : Int32).toInt = 252645135 by decide) (by omega)
  refine q_c z_12 ez_12 ?_
  clear ez_12
  refine lv_istore_n (lv' := [(0, .int z_12)]) hx hb dJ6_bitCount_0f7a4_33 rfl hl_9 (by decide) rfl (fun ls_13 hl_13 => ?_)
  clear hl_9
  refine lv_iload_n hx hb dJ6_bitCount_0f7a4_34 rfl (lv_at hl_13 0 rfl) ?_
  refine lv_iload_n hx hb dJ6_bitCount_0f7a4_35 rfl (lv_at hl_13 0 rfl) ?_
  refine lv_bipush (v := 8) hx hb dJ6_bitCount_0f7a4_36 (by decide) ?_
  refine lv_iushr hx hb dJ6_bitCount_0f7a4_38 rfl ?_
  refine q_any (fun z_14 hz_14 => ?_)
  refine lv_iadd hx hb dJ6_bitCount_0f7a4_39 ?_
  refine q_any (fun z_15 hz_15 => ?_)
  refine lv_istore_n (lv' := [(0, .int z_15)]) hx hb dJ6_bitCount_0f7a4_40 rfl hl_13 (by decide) rfl (fun ls_16 hl_16 => ?_)
  clear hl_13
  refine lv_iload_n hx hb dJ6_bitCount_0f7a4_41 rfl (lv_at hl_16 0 rfl) ?_
  refine lv_iload_n hx hb dJ6_bitCount_0f7a4_42 rfl (lv_at hl_16 0 rfl) ?_
  refine lv_bipush (v := 16) hx hb dJ6_bitCount_0f7a4_43 (by decide) ?_
  refine lv_iushr hx hb dJ6_bitCount_0f7a4_45 rfl ?_
  refine q_any (fun z_17 hz_17 => ?_)
  refine lv_iadd hx hb dJ6_bitCount_0f7a4_46 ?_
  refine q_any (fun z_18 hz_18 => ?_)
  refine lv_istore_n (lv' := [(0, .int z_18)]) hx hb dJ6_bitCount_0f7a4_47 rfl hl_16 (by decide) rfl (fun ls_19 hl_19 => ?_)
  clear hl_16
  refine lv_iload_n hx hb dJ6_bitCount_0f7a4_48 rfl (lv_at hl_19 0 rfl) ?_
  refine lv_bipush (v := 63) hx hb dJ6_bitCount_0f7a4_49 (by decide) ?_
  refine lv_iand hx hb dJ6_bitCount_0f7a4_51 ?_
  obtain ⟨z_20, ez_20, hz_20⟩ := e_and2 (x := z_18) (y := 63) (show (63 : Int32).toInt = 63 by decide) (by omega)
  refine q_c z_20 ez_20 ?_
  clear ez_20
  exact q_iret X hr hlk hK h rfl (fun _ => 0, fun _ _ => 0, fun _ _ => 0) ⟨⟨by omega, by omega⟩, trivial⟩ [] rfl rfl dJ6_bitCount_0f7a4_52 (Nat.le_of_ble_eq_true rfl) (Nat.le_of_ble_eq_true rfl)
set_option maxHeartbeats 4000000 in
set_option maxRecDepth 100000 in
theorem gX0_countPieces_85 (l : Launch) (D : va_G) (cy : Nat → ClassId) (h0 : Nat) (h1 : Nat) (p0 : Int32) (p1 : Int32) (p2 : Int32) (w0 : Value) (w1 : Value) (f0 : Nat → Int32) (hp0 : 0 ≤ (p0).toInt ∧ (p0).toInt ≤ 1023) (hp1 : 0 ≤ (p1).toInt ∧ (p1).toInt ≤ 1) (hp2 : 0 ≤ (p2).toInt ∧ (p2).toInt ≤ 10) (rf0 : RG f0 10 0 1023) (sz : Nat) : MI l yX0_countPieces cX0_countPieces 7 .int { frames := 3, cells := 0, slots := 0, locals := 67 } [.ref h0, .int p0, .int p1] D cy [(h0, .inr (0, [.int p2, .ref h1, w0, w1])), (h1, .inl (cy 1, 10, .inl f0))] sz (fun r u => ((-2147483648) ≤ r.toInt ∧ r.toInt ≤ 2147483647) ∧ True) (fun u => [(h0, .inr (0, [.int p2, .ref h1, w0, w1])), (h1, .inl (cy 1, 10, .inl f0))]) 0 0 := by
  refine q_ent (own := RX0) (by decide) rfl (Nat.le_of_ble_eq_true rfl) (fun p e s m below meth c ls X hr hlk hnm hK h hA hl => ?_)
  obtain ⟨hx, hb, hml, hown, ht⟩ := id X
  replace hl : lv_has ls 7 [(0, .ref h0), (1, .int p0), (2, .int p1)] := hl
  refine lv_iload_n hx hb dX0_countPieces_0 rfl (lv_at hl 1 rfl) ?_
  refine lv_istore_n (lv' := [(3, .int p0), (0, .ref h0), (1, .int p0), (2, .int p1)]) hx hb dX0_countPieces_1 rfl hl (by decide) rfl (fun ls_1 hl_1 => ?_)
  clear hl
  refine lv_iconst (v := 0) hx hb dX0_countPieces_2 (by decide) ?_
  refine lv_istore (lv' := [(4, .int 0), (3, .int p0), (0, .ref h0), (1, .int p0), (2, .int p1)]) hx hb dX0_countPieces_3 hl_1 (by decide) rfl (fun ls_2 hl_2 => ?_)
  clear hl_1
  refine lv_iconst (v := 0) hx hb dX0_countPieces_5 (by decide) ?_
  refine lv_istore (lv' := [(5, .int 0), (4, .int 0), (3, .int p0), (0, .ref h0), (1, .int p0), (2, .int p1)]) hx hb dX0_countPieces_6 hl_2 (by decide) rfl (fun ls_3 hl_3 => ?_)
  clear hl_2
  refine q_wl (fun (q : Int32 × Int32 × Int32) H locs ls => match q with | (v8_4_0, v8_4_1, v8_4_2) => (0 ≤ (v8_4_0).toInt ∧ (v8_4_0).toInt ≤ 10) ∧ (0 ≤ (v8_4_1).toInt ∧ (v8_4_1).toInt ≤ 1023) ∧ ((-2147483648) ≤ (v8_4_2).toInt ∧ (v8_4_2).toInt ≤ 2147483647) ∧ qW D (va_A [(h0, .inr (0, [.int p2, .ref h1, w0, w1])), (h1, .inl (cy 1, 10, .inl f0))] sz) s.heap [(h0, .inr (0, [.int p2, .ref h1, w0, w1])), (h1, .inl (cy 1, 10, .inl f0))] H locs ∧ lv_has ls 7 [(0, .ref h0), (1, .int p0), (2, .int p1), (3, .int v8_4_1), (4, .int v8_4_2), (5, .int v8_4_0)]) (fun (q : Int32 × Int32 × Int32) => match q with | (v8_4_0, v8_4_1, v8_4_2) => (11 - (v8_4_0).toInt).toNat) (fun q_8 ih_8 H locs ls hP => ?_) (0, p0, 0) ⟨⟨by decide +kernel, by decide +kernel⟩, ⟨by omega, by omega⟩, ⟨by decide +kernel, by decide +kernel⟩, h, (lv_sub hl_3 [3, 4, 5, 2, 1, 0] rfl)⟩
  obtain ⟨v8_4_0, v8_4_1, v8_4_2⟩ := q_8
  obtain ⟨hv8_4_0, hv8_4_1, hv8_4_2, h, hl⟩ := hP
  refine lv_iload hx hb dX0_countPieces_8 (lv_at hl 5 rfl) ?_
  refine lv_aload_n hx hb dX0_countPieces_10 rfl (lv_at hl 0 rfl) ?_
  refine q_get X hK h 0 rfl rfl wf_0 0 (by decide) rfl wm_1_198 dX0_countPieces_11 ?_
  refine q_jn (pc2 := 63) (fun H locs ls st => st = [] ∧ qW D (va_A [(h0, .inr (0, [.int p2, .ref h1, w0, w1])), (h1, .inl (cy 1, 10, .inl f0))] sz) s.heap [(h0, .inr (0, [.int p2, .ref h1, w0, w1])), (h1, .inl (cy 1, 10, .inl f0))] H locs ∧ lv_has ls 7 [(0, .ref h0), (1, .int p0), (2, .int p1), (3, .int v8_4_1), (4, .int v8_4_2), (5, .int v8_4_0)]) (fun H locs ls st hP => ?_) (fun J_63 => ?_)
  · obtain ⟨rfl, h, hl⟩ := hP
    refine lv_iload hx hb dX0_countPieces_63 (lv_at hl 4 rfl) ?_
    exact q_iret X hr hlk hK h rfl (fun _ => 0, fun _ _ => 0, fun _ _ => 0) ⟨⟨by omega, by omega⟩, trivial⟩ [0, 1] rfl rfl dX0_countPieces_65 (Nat.le_of_ble_eq_true rfl) (Nat.le_of_ble_eq_true rfl)
  · skip
    refine lv_icmp_ge (tgt := 63) hx hb dX0_countPieces_14 (by decide) (fun c_6 => ?_) (fun c_6 => ?_)
    · replace c_6 := i_le (x := p2) (y := v8_4_0) rfl rfl c_6
      exact J_63 _ _ _ _ ⟨rfl, h, (lv_sub hl [0, 1, 2, 3, 4, 5] rfl)⟩
    · replace c_6 := i_nle (x := p2) (y := v8_4_0) rfl rfl c_6
      refine lv_iload_n hx hb dX0_countPieces_17 rfl (lv_at hl 3 rfl) ?_
      refine lv_if_eq (tgt := 63) hx hb dX0_countPieces_18 (by decide) (fun c_7 => ?_) (fun c_7 => ?_)
      · replace c_7 := i_eq (x := v8_4_1) (y := 0) rfl (show (0 : Int32).toInt = 0 by decide) c_7
        exact J_63 _ _ _ _ ⟨rfl, h, (lv_sub hl [0, 1, 2, 3, 4, 5] rfl)⟩
      · replace c_7 := i_ne (x := v8_4_1) (y := 0) rfl (show (0 : Int32).toInt = 0 by decide) c_7
        refine lv_aload_n hx hb dX0_countPieces_21 rfl (lv_at hl 0 rfl) ?_
        refine lv_iload_n hx hb dX0_countPieces_22 rfl (lv_at hl 3 rfl) ?_
        refine lv_iload_n hx hb dX0_countPieces_23 rfl (lv_at hl 3 rfl) ?_
        refine lv_ineg hx hb dX0_countPieces_24 ?_
        refine q_any (fun z_8 hz_8 => ?_)
        refine lv_iand hx hb dX0_countPieces_25 ?_
        obtain ⟨z_9, ez_9, hz_9⟩ := e_and1 (x := v8_4_1) (y := z_8) rfl (by omega)
        refine q_c z_9 ez_9 ?_
        clear ez_9
        refine lv_iload_n hx hb dX0_countPieces_26 rfl (lv_at hl 3 rfl) ?_
        refine q_callVi (rest := []) (wr := []) X hK hA h (fun sz => gX0_pieceOf_83 l D cy h0 h1 z_9 v8_4_1 p2 w0 w1 f0 ⟨by omega, by omega⟩ ⟨by omega, by omega⟩ ⟨by omega, by omega⟩ (rg_wide rf0 (by decide) (by decide)) sz) wm_4_199 wm_4_202 wm_1_6 hd_X0_pieceOf wm_4_201 wp_3_8 (ci := 0) (q0 := 0) rfl rfl ⟨Nat.le_of_ble_eq_true rfl, Nat.le_of_ble_eq_true rfl⟩ hl.1 rfl (Nat.le_of_ble_eq_true rfl) dX0_countPieces_27 ⟨Nat.le_of_ble_eq_true rfl, Nat.le_of_ble_eq_true rfl⟩ [0, 1] [] rfl rfl (by decide) rfl rfl (fun r_10 u_10 H locs w_10 h_10 => ?_)
        clear h
        obtain ⟨wr_10, _⟩ := w_10
        replace h_10 : qW D _ _ [(h0, .inr (0, [.int p2, .ref h1, w0, w1])), (h1, .inl (cy 1, 10, .inl f0))] _ _ := h_10
        refine lv_istore (lv' := [(6, .int r_10), (0, .ref h0), (1, .int p0), (2, .int p1), (3, .int v8_4_1), (4, .int v8_4_2), (5, .int v8_4_0)]) hx hb dX0_countPieces_30 hl (by decide) rfl (fun ls_11 hl_11 => ?_)
        clear hl
        refine lv_iload_n hx hb dX0_countPieces_32 rfl (lv_at hl_11 4 rfl) ?_
        refine lv_iload hx hb dX0_countPieces_33 (lv_at hl_11 0 rfl) ?_
        refine lv_iconst (v := (-1)) hx hb dX0_countPieces_35 (by decide) ?_
        refine lv_ixor hx hb dX0_countPieces_36 ?_
        refine q_any (fun z_12 hz_12 => ?_)
        refine lv_iand hx hb dX0_countPieces_37 ?_
        obtain ⟨z_13, ez_13, hz_13⟩ := e_and1 (x := v8_4_1) (y := z_12) rfl (by omega)
        refine q_c z_13 ez_13 ?_
        clear ez_13
        refine lv_istore_n (lv' := [(3, .int z_13), (6, .int r_10), (0, .ref h0), (1, .int p0), (2, .int p1), (4, .int v8_4_2), (5, .int v8_4_0)]) hx hb dX0_countPieces_38 rfl hl_11 (by decide) rfl (fun ls_14 hl_14 => ?_)
        clear hl_11
        refine lv_iload_n hx hb dX0_countPieces_39 rfl (lv_at hl_14 4 rfl) ?_
        refine q_jn (pc2 := 57) (fun H locs ls st => ∃ v57_15_0 : Int32, ((-2147483648) ≤ (v57_15_0).toInt ∧ (v57_15_0).toInt ≤ 2147483647) ∧ st = [] ∧ qW D (va_A [(h0, .inr (0, [.int p2, .ref h1, w0, w1])), (h1, .inl (cy 1, 10, .inl f0))] sz) s.heap [(h0, .inr (0, [.int p2, .ref h1, w0, w1])), (h1, .inl (cy 1, 10, .inl f0))] H locs ∧ lv_has ls 7 [(0, .ref h0), (1, .int p0), (2, .int p1), (3, .int z_13), (4, .int v57_15_0), (5, .int v8_4_0), (6, .int r_10)]) (fun H locs ls st hP => ?_) (fun J_57 => ?_)
        · obtain ⟨v57_15_0, hv57_15_0, rfl, h, hl⟩ := hP
          obtain ⟨z_16, ez_16, hz_16⟩ := e_add (x := v8_4_0) (y := Int32.ofInt 1) rfl (b := 1) (by decide) (by omega) (by omega)
          refine lv_iinc (v := z_16) (lv' := [(5, .int z_16), (0, .ref h0), (1, .int p0), (2, .int p1), (3, .int z_13), (4, .int v57_15_0), (6, .int r_10)]) hx hb dX0_countPieces_57 hl (k := 5) rfl ez_16 (by decide) rfl (fun ls_16 hl_16 => ?_)
          clear hl
          refine lv_goto (tgt := 8) hx hb dX0_countPieces_60 (by decide) ?_
          exact ih_8 (z_16, z_13, v57_15_0) (by show (11 - (z_16).toInt).toNat < (11 - (v8_4_0).toInt).toNat; omega) _ _ _ ⟨⟨by omega, by omega⟩, ⟨by omega, by omega⟩, ⟨by omega, by omega⟩, h, (lv_sub hl_16 [1, 2, 3, 4, 5, 0] rfl)⟩
        · skip
          refine q_jn (pc2 := 54) (fun H locs ls st => st = [] ∧ qW D (va_A [(h0, .inr (0, [.int p2, .ref h1, w0, w1])), (h1, .inl (cy 1, 10, .inl f0))] sz) s.heap [(h0, .inr (0, [.int p2, .ref h1, w0, w1])), (h1, .inl (cy 1, 10, .inl f0))] H locs ∧ lv_has ls 7 [(0, .ref h0), (1, .int p0), (2, .int p1), (3, .int z_13), (4, .int v8_4_2), (5, .int v8_4_0), (6, .int r_10)]) (fun H locs ls st hP => ?_) (fun J_54 => ?_)
          · obtain ⟨rfl, h, hl⟩ := hP
            obtain ⟨z_18, ez_18, hz_18⟩ := e_any (v8_4_2 + Int32.ofInt 1)
            refine lv_iinc (v := z_18) (lv' := [(4, .int z_18), (0, .ref h0), (1, .int p0), (2, .int p1), (3, .int z_13), (5, .int v8_4_0), (6, .int r_10)]) hx hb dX0_countPieces_54 hl (k := 4) rfl ez_18 (by decide) rfl (fun ls_18 hl_18 => ?_)
            clear hl
            exact J_57 _ _ _ _ ⟨z_18, ⟨by omega, by omega⟩, rfl, h, (lv_sub hl_18 [1, 2, 3, 4, 0, 5, 6] rfl)⟩
          · skip
            refine lv_if_eq (tgt := 54) hx hb dX0_countPieces_40 (by decide) (fun c_19 => ?_) (fun c_19 => ?_)
            · replace c_19 := i_eq (x := p1) (y := 0) rfl (show (0 : Int32).toInt = 0 by decide) c_19
              exact J_54 _ _ _ _ ⟨rfl, h_10, (lv_sub hl_14 [2, 3, 4, 0, 5, 6, 1] rfl)⟩
            · replace c_19 := i_ne (x := p1) (y := 0) rfl (show (0 : Int32).toInt = 0 by decide) c_19
              refine lv_iload hx hb dX0_countPieces_43 (lv_at hl_14 1 rfl) ?_
              refine q_callSi (rest := []) (wr := [(h0, .inr (0, [.int p2, .ref h1, w0, w1])), (h1, .inl (cy 1, 10, .inl f0))]) X hK hA h_10 (fun sz => gJ6_bitCount_0f7a4_84 l D cy r_10 ⟨by omega, by omega⟩ sz) wm_4_116 wm_4_59 wm_1_22 hd_J6_bitCount_0f7a4 wm_4_58 ⟨Nat.le_of_ble_eq_true rfl, Nat.le_of_ble_eq_true rfl⟩ hl_14.1 rfl (Nat.le_of_ble_eq_true rfl) dX0_countPieces_45 ⟨Nat.le_of_ble_eq_true rfl, Nat.le_of_ble_eq_true rfl⟩ [] [0, 1] rfl rfl (by decide) rfl rfl (fun r_20 u_20 H locs w_20 h_20 => ?_)
              clear h_10
              obtain ⟨wr_20, _⟩ := w_20
              replace h_20 : qW D _ _ [(h0, .inr (0, [.int p2, .ref h1, w0, w1])), (h1, .inl (cy 1, 10, .inl f0))] _ _ := h_20
              refine lv_iconst (v := 2) hx hb dX0_countPieces_48 (by decide) ?_
              refine lv_irem hx hb dX0_countPieces_49 (by decide) ?_
              obtain ⟨z_21, ez_21, hz_21⟩ := e_rem (x := r_20) (y := 2) rfl (show (2 : Int32).toInt = 2 by decide) (by omega) (by omega)
              refine q_c z_21 ez_21 ?_
              clear ez_21
              refine lv_iconst (v := 1) hx hb dX0_countPieces_50 (by decide) ?_
              refine lv_icmp_ne (tgt := 57) hx hb dX0_countPieces_51 (by decide) (fun c_22 => ?_) (fun c_22 => ?_)
              · replace c_22 := i_ne (x := z_21) (y := 1) rfl (show (1 : Int32).toInt = 1 by decide) c_22
                exact J_57 _ _ _ _ ⟨v8_4_2, ⟨by omega, by omega⟩, rfl, h_20, (lv_sub hl_14 [2, 3, 4, 0, 5, 6, 1] rfl)⟩
              · replace c_22 := i_eq (x := z_21) (y := 1) rfl (show (1 : Int32).toInt = 1 by decide) c_22
                exact J_54 _ _ _ _ ⟨rfl, h_20, (lv_sub hl_14 [2, 3, 4, 0, 5, 6, 1] rfl)⟩
set_option maxHeartbeats 4000000 in
set_option maxRecDepth 100000 in
theorem gX0_pieceOf_86 (l : Launch) (D : va_G) (cy : Nat → ClassId) (h0 : Nat) (h1 : Nat) (p0 : Int32) (p1 : Int32) (f0 : Nat → Int32) (p2 : Int32) (w0 : Value) (w1 : Value) (hp0 : 0 ≤ (p0).toInt ∧ (p0).toInt ≤ 1023) (hp1 : 1 ≤ (p1).toInt ∧ (p1).toInt ≤ 1023) (hp2 : 1 ≤ (p2).toInt ∧ (p2).toInt ≤ 10) (rf0 : RG f0 10 0 1023) (sz : Nat) : MI l yX0_pieceOf cX0_pieceOf 8 .int { frames := 2, cells := 0, slots := 0, locals := 40 } [.ref h1, .int p0, .int p1] D cy [(h0, .inl (cy 1, 10, .inl f0)), (h1, .inr (0, [.int p2, .ref h0, w0, w1]))] sz (fun r u => (0 ≤ r.toInt ∧ r.toInt ≤ 1023) ∧ True) (fun u => [(h0, .inl (cy 1, 10, .inl f0)), (h1, .inr (0, [.int p2, .ref h0, w0, w1]))]) 0 0 := by
  refine q_ent (own := RX0) (by decide) rfl (Nat.le_of_ble_eq_true rfl) (fun p e s m below meth c ls X hr hlk hnm hK h hA hl => ?_)
  obtain ⟨hx, hb, hml, hown, ht⟩ := id X
  replace hl : lv_has ls 8 [(0, .ref h1), (1, .int p0), (2, .int p1)] := hl
  refine lv_iload_n hx hb dX0_pieceOf_0 rfl (lv_at hl 1 rfl) ?_
  refine lv_istore_n (lv' := [(3, .int p0), (0, .ref h1), (1, .int p0), (2, .int p1)]) hx hb dX0_pieceOf_1 rfl hl (by decide) rfl (fun ls_1 hl_1 => ?_)
  clear hl
  refine lv_iload_n hx hb dX0_pieceOf_2 rfl (lv_at hl_1 2 rfl) ?_
  refine lv_istore (lv' := [(4, .int p0), (3, .int p0), (0, .ref h1), (1, .int p0), (2, .int p1)]) hx hb dX0_pieceOf_3 hl_1 (by decide) rfl (fun ls_2 hl_2 => ?_)
  clear hl_1
  refine lv_iconst (v := 0) hx hb dX0_pieceOf_5 (by decide) ?_
  refine lv_istore (lv' := [(5, .int 0), (4, .int p0), (3, .int p0), (0, .ref h1), (1, .int p0), (2, .int p1)]) hx hb dX0_pieceOf_6 hl_2 (by decide) rfl (fun ls_3 hl_3 => ?_)
  clear hl_2
  refine q_wl (fun (q : Int32 × Int32 × Int32) H locs ls => match q with | (v8_4_0, v8_4_1, v8_4_2) => (0 ≤ (v8_4_0).toInt ∧ (v8_4_0).toInt ≤ 10) ∧ (0 ≤ (v8_4_1).toInt ∧ (v8_4_1).toInt ≤ 1023) ∧ (0 ≤ (v8_4_2).toInt ∧ (v8_4_2).toInt ≤ 1023) ∧ qW D (va_A [(h0, .inl (cy 1, 10, .inl f0)), (h1, .inr (0, [.int p2, .ref h0, w0, w1]))] sz) s.heap [(h0, .inl (cy 1, 10, .inl f0)), (h1, .inr (0, [.int p2, .ref h0, w0, w1]))] H locs ∧ lv_has ls 8 [(0, .ref h1), (1, .int p0), (2, .int p1), (3, .int v8_4_2), (4, .int v8_4_1), (5, .int v8_4_0)]) (fun (q : Int32 × Int32 × Int32) => match q with | (v8_4_0, v8_4_1, v8_4_2) => (11 - (v8_4_0).toInt).toNat) (fun q_8 ih_8 H locs ls hP => ?_) (0, p0, p0) ⟨⟨by decide +kernel, by decide +kernel⟩, ⟨by omega, by omega⟩, ⟨by omega, by omega⟩, h, (lv_sub hl_3 [3, 4, 5, 2, 1, 0] rfl)⟩
  obtain ⟨v8_4_0, v8_4_1, v8_4_2⟩ := q_8
  obtain ⟨hv8_4_0, hv8_4_1, hv8_4_2, h, hl⟩ := hP
  refine lv_iload hx hb dX0_pieceOf_8 (lv_at hl 5 rfl) ?_
  refine lv_aload_n hx hb dX0_pieceOf_10 rfl (lv_at hl 0 rfl) ?_
  refine q_get X hK h 1 rfl rfl wf_0 0 (by decide) rfl wm_1_198 dX0_pieceOf_11 ?_
  refine q_jn (pc2 := 69) (fun H locs ls st => st = [] ∧ qW D (va_A [(h0, .inl (cy 1, 10, .inl f0)), (h1, .inr (0, [.int p2, .ref h0, w0, w1]))] sz) s.heap [(h0, .inl (cy 1, 10, .inl f0)), (h1, .inr (0, [.int p2, .ref h0, w0, w1]))] H locs ∧ lv_has ls 8 [(0, .ref h1), (1, .int p0), (2, .int p1), (3, .int v8_4_2), (4, .int v8_4_1), (5, .int v8_4_0)]) (fun H locs ls st hP => ?_) (fun J_69 => ?_)
  · obtain ⟨rfl, h, hl⟩ := hP
    refine lv_iload_n hx hb dX0_pieceOf_69 rfl (lv_at hl 3 rfl) ?_
    exact q_iret X hr hlk hK h rfl (fun _ => 0, fun _ _ => 0, fun _ _ => 0) ⟨⟨by omega, by omega⟩, trivial⟩ [0, 1] rfl rfl dX0_pieceOf_70 (Nat.le_of_ble_eq_true rfl) (Nat.le_of_ble_eq_true rfl)
  · skip
    refine lv_icmp_ge (tgt := 69) hx hb dX0_pieceOf_14 (by decide) (fun c_6 => ?_) (fun c_6 => ?_)
    · replace c_6 := i_le (x := p2) (y := v8_4_0) rfl rfl c_6
      exact J_69 _ _ _ _ ⟨rfl, h, (lv_sub hl [0, 1, 2, 3, 4, 5] rfl)⟩
    · replace c_6 := i_nle (x := p2) (y := v8_4_0) rfl rfl c_6
      refine lv_iload hx hb dX0_pieceOf_17 (lv_at hl 4 rfl) ?_
      refine lv_if_eq (tgt := 69) hx hb dX0_pieceOf_19 (by decide) (fun c_7 => ?_) (fun c_7 => ?_)
      · replace c_7 := i_eq (x := v8_4_1) (y := 0) rfl (show (0 : Int32).toInt = 0 by decide) c_7
        exact J_69 _ _ _ _ ⟨rfl, h, (lv_sub hl [0, 1, 2, 3, 4, 5] rfl)⟩
      · replace c_7 := i_ne (x := v8_4_1) (y := 0) rfl (show (0 : Int32).toInt = 0 by decide) c_7
        refine lv_iload hx hb dX0_pieceOf_22 (lv_at hl 4 rfl) ?_
        refine q_callSi (rest := []) (wr := [(h0, .inl (cy 1, 10, .inl f0)), (h1, .inr (0, [.int p2, .ref h0, w0, w1]))]) X hK hA h (fun sz => gX0_lowestOf_42 l D cy v8_4_1 ⟨by omega, by omega⟩ sz) wm_4_113 wm_4_115 wm_1_6 hd_X0_lowestOf wm_4_114 ⟨Nat.le_of_ble_eq_true rfl, Nat.le_of_ble_eq_true rfl⟩ hl.1 rfl (Nat.le_of_ble_eq_true rfl) dX0_pieceOf_24 ⟨Nat.le_of_ble_eq_true rfl, Nat.le_of_ble_eq_true rfl⟩ [] [0, 1] rfl rfl (by decide) rfl rfl (fun r_8 u_8 H locs w_8 h_8 => ?_)
        clear h
        obtain ⟨wr_8, _⟩ := w_8
        replace h_8 : qW D _ _ [(h0, .inl (cy 1, 10, .inl f0)), (h1, .inr (0, [.int p2, .ref h0, w0, w1]))] _ _ := h_8
        refine lv_istore (lv' := [(6, .int r_8), (0, .ref h1), (1, .int p0), (2, .int p1), (3, .int v8_4_2), (4, .int v8_4_1), (5, .int v8_4_0)]) hx hb dX0_pieceOf_27 hl (by decide) rfl (fun ls_9 hl_9 => ?_)
        clear hl
        refine lv_aload_n hx hb dX0_pieceOf_29 rfl (lv_at hl_9 1 rfl) ?_
        refine q_get X hK h_8 1 rfl rfl wf_0 1 (by decide) rfl wm_1_199 dX0_pieceOf_30 ?_
        refine lv_iload hx hb dX0_pieceOf_33 (lv_at hl_9 0 rfl) ?_
        refine q_iald X hK h_8 0 rfl (i_in rfl (by omega) (by omega)) dX0_pieceOf_35 ?_
        obtain ⟨z_10, ez_10, hz_10⟩ := rg_get rf0 (x := r_8) rfl (by omega) (by omega)
        refine q_c z_10 ez_10 ?_
        clear ez_10
        refine lv_iload_n hx hb dX0_pieceOf_36 rfl (lv_at hl_9 3 rfl) ?_
        refine lv_iand hx hb dX0_pieceOf_37 ?_
        obtain ⟨z_11, ez_11, hz_11⟩ := e_and2 (x := z_10) (y := p1) rfl (by omega)
        refine q_c z_11 ez_11 ?_
        clear ez_11
        refine lv_iload_n hx hb dX0_pieceOf_38 rfl (lv_at hl_9 4 rfl) ?_
        refine lv_iconst (v := (-1)) hx hb dX0_pieceOf_39 (by decide) ?_
        refine lv_ixor hx hb dX0_pieceOf_40 ?_
        refine q_any (fun z_12 hz_12 => ?_)
        refine lv_iand hx hb dX0_pieceOf_41 ?_
        obtain ⟨z_13, ez_13, hz_13⟩ := e_and1 (x := z_11) (y := z_12) rfl (by omega)
        refine q_c z_13 ez_13 ?_
        clear ez_13
        refine lv_istore (lv' := [(7, .int z_13), (6, .int r_8), (0, .ref h1), (1, .int p0), (2, .int p1), (3, .int v8_4_2), (4, .int v8_4_1), (5, .int v8_4_0)]) hx hb dX0_pieceOf_42 hl_9 (by decide) rfl (fun ls_14 hl_14 => ?_)
        clear hl_9
        refine lv_iload_n hx hb dX0_pieceOf_44 rfl (lv_at hl_14 5 rfl) ?_
        refine lv_iload hx hb dX0_pieceOf_45 (lv_at hl_14 0 rfl) ?_
        refine lv_ior hx hb dX0_pieceOf_47 ?_
        obtain ⟨z_15, ez_15, hz_15⟩ := e_or (x := v8_4_2) (y := z_13) 10 (by decide) rfl rfl (by omega) (by omega) (by omega) (by omega)
        refine q_c z_15 ez_15 ?_
        clear ez_15
        refine lv_istore_n (lv' := [(3, .int z_15), (7, .int z_13), (6, .int r_8), (0, .ref h1), (1, .int p0), (2, .int p1), (4, .int v8_4_1), (5, .int v8_4_0)]) hx hb dX0_pieceOf_48 rfl hl_14 (by decide) rfl (fun ls_16 hl_16 => ?_)
        clear hl_14
        refine lv_iload hx hb dX0_pieceOf_49 (lv_at hl_16 6 rfl) ?_
        refine lv_iconst (v := 1) hx hb dX0_pieceOf_51 (by decide) ?_
        refine lv_iload hx hb dX0_pieceOf_52 (lv_at hl_16 2 rfl) ?_
        refine lv_ishl hx hb dX0_pieceOf_54 ?_
        obtain ⟨z_17, ez_17, hz_17⟩ := e_shlk (p := r_8) 9 (by decide) rfl (by omega) (by omega)
        refine q_c z_17 ez_17 ?_
        clear ez_17
        refine lv_iconst (v := (-1)) hx hb dX0_pieceOf_55 (by decide) ?_
        refine lv_ixor hx hb dX0_pieceOf_56 ?_
        refine q_any (fun z_18 hz_18 => ?_)
        refine lv_iand hx hb dX0_pieceOf_57 ?_
        obtain ⟨z_19, ez_19, hz_19⟩ := e_and1 (x := v8_4_1) (y := z_18) rfl (by omega)
        refine q_c z_19 ez_19 ?_
        clear ez_19
        refine lv_iload hx hb dX0_pieceOf_58 (lv_at hl_16 1 rfl) ?_
        refine lv_ior hx hb dX0_pieceOf_60 ?_
        obtain ⟨z_20, ez_20, hz_20⟩ := e_or (x := z_19) (y := z_13) 10 (by decide) rfl rfl (by omega) (by omega) (by omega) (by omega)
        refine q_c z_20 ez_20 ?_
        clear ez_20
        refine lv_istore (lv' := [(4, .int z_20), (3, .int z_15), (7, .int z_13), (6, .int r_8), (0, .ref h1), (1, .int p0), (2, .int p1), (5, .int v8_4_0)]) hx hb dX0_pieceOf_61 hl_16 (by decide) rfl (fun ls_21 hl_21 => ?_)
        clear hl_16
        obtain ⟨z_22, ez_22, hz_22⟩ := e_add (x := v8_4_0) (y := Int32.ofInt 1) rfl (b := 1) (by decide) (by omega) (by omega)
        refine lv_iinc (v := z_22) (lv' := [(5, .int z_22), (4, .int z_20), (3, .int z_15), (7, .int z_13), (6, .int r_8), (0, .ref h1), (1, .int p0), (2, .int p1)]) hx hb dX0_pieceOf_63 hl_21 (k := 7) rfl ez_22 (by decide) rfl (fun ls_22 hl_22 => ?_)
        clear hl_21
        refine lv_goto (tgt := 8) hx hb dX0_pieceOf_66 (by decide) ?_
        exact ih_8 (z_22, z_20, z_15) (by show (11 - (z_22).toInt).toNat < (11 - (v8_4_0).toInt).toNat; omega) _ _ _ ⟨⟨by omega, by omega⟩, ⟨by omega, by omega⟩, ⟨by omega, by omega⟩, h_8, (lv_sub hl_22 [5, 6, 7, 2, 1, 0] rfl)⟩
set_option maxHeartbeats 4000000 in
set_option maxRecDepth 100000 in
theorem gX0_countPieces_87 (l : Launch) (D : va_G) (cy : Nat → ClassId) (h0 : Nat) (h1 : Nat) (p0 : Int32) (p1 : Int32) (f0 : Nat → Int32) (p2 : Int32) (w0 : Value) (w1 : Value) (hp0 : 0 ≤ (p0).toInt ∧ (p0).toInt ≤ 1023) (hp1 : 1 ≤ (p1).toInt ∧ (p1).toInt ≤ 1) (hp2 : 0 ≤ (p2).toInt ∧ (p2).toInt ≤ 10) (rf0 : RG f0 10 0 1023) (sz : Nat) : MI l yX0_countPieces cX0_countPieces 7 .int { frames := 3, cells := 0, slots := 0, locals := 67 } [.ref h1, .int p0, .int p1] D cy [(h0, .inl (cy 1, 10, .inl f0)), (h1, .inr (0, [.int p2, .ref h0, w0, w1]))] sz (fun r u => ((-2147483648) ≤ r.toInt ∧ r.toInt ≤ 2147483647) ∧ True) (fun u => [(h0, .inl (cy 1, 10, .inl f0)), (h1, .inr (0, [.int p2, .ref h0, w0, w1]))]) 0 0 := by
  refine q_ent (own := RX0) (by decide) rfl (Nat.le_of_ble_eq_true rfl) (fun p e s m below meth c ls X hr hlk hnm hK h hA hl => ?_)
  obtain ⟨hx, hb, hml, hown, ht⟩ := id X
  replace hl : lv_has ls 7 [(0, .ref h1), (1, .int p0), (2, .int p1)] := hl
  refine lv_iload_n hx hb dX0_countPieces_0 rfl (lv_at hl 1 rfl) ?_
  refine lv_istore_n (lv' := [(3, .int p0), (0, .ref h1), (1, .int p0), (2, .int p1)]) hx hb dX0_countPieces_1 rfl hl (by decide) rfl (fun ls_1 hl_1 => ?_)
  clear hl
  refine lv_iconst (v := 0) hx hb dX0_countPieces_2 (by decide) ?_
  refine lv_istore (lv' := [(4, .int 0), (3, .int p0), (0, .ref h1), (1, .int p0), (2, .int p1)]) hx hb dX0_countPieces_3 hl_1 (by decide) rfl (fun ls_2 hl_2 => ?_)
  clear hl_1
  refine lv_iconst (v := 0) hx hb dX0_countPieces_5 (by decide) ?_
  refine lv_istore (lv' := [(5, .int 0), (4, .int 0), (3, .int p0), (0, .ref h1), (1, .int p0), (2, .int p1)]) hx hb dX0_countPieces_6 hl_2 (by decide) rfl (fun ls_3 hl_3 => ?_)
  clear hl_2
  refine q_wl (fun (q : Int32 × Int32 × Int32) H locs ls => match q with | (v8_4_0, v8_4_1, v8_4_2) => (0 ≤ (v8_4_0).toInt ∧ (v8_4_0).toInt ≤ 10) ∧ (0 ≤ (v8_4_1).toInt ∧ (v8_4_1).toInt ≤ 1023) ∧ ((-2147483648) ≤ (v8_4_2).toInt ∧ (v8_4_2).toInt ≤ 2147483647) ∧ qW D (va_A [(h0, .inl (cy 1, 10, .inl f0)), (h1, .inr (0, [.int p2, .ref h0, w0, w1]))] sz) s.heap [(h0, .inl (cy 1, 10, .inl f0)), (h1, .inr (0, [.int p2, .ref h0, w0, w1]))] H locs ∧ lv_has ls 7 [(0, .ref h1), (1, .int p0), (2, .int p1), (3, .int v8_4_1), (4, .int v8_4_2), (5, .int v8_4_0)]) (fun (q : Int32 × Int32 × Int32) => match q with | (v8_4_0, v8_4_1, v8_4_2) => (11 - (v8_4_0).toInt).toNat) (fun q_8 ih_8 H locs ls hP => ?_) (0, p0, 0) ⟨⟨by decide +kernel, by decide +kernel⟩, ⟨by omega, by omega⟩, ⟨by decide +kernel, by decide +kernel⟩, h, (lv_sub hl_3 [3, 4, 5, 2, 1, 0] rfl)⟩
  obtain ⟨v8_4_0, v8_4_1, v8_4_2⟩ := q_8
  obtain ⟨hv8_4_0, hv8_4_1, hv8_4_2, h, hl⟩ := hP
  refine lv_iload hx hb dX0_countPieces_8 (lv_at hl 5 rfl) ?_
  refine lv_aload_n hx hb dX0_countPieces_10 rfl (lv_at hl 0 rfl) ?_
  refine q_get X hK h 1 rfl rfl wf_0 0 (by decide) rfl wm_1_198 dX0_countPieces_11 ?_
  refine q_jn (pc2 := 63) (fun H locs ls st => st = [] ∧ qW D (va_A [(h0, .inl (cy 1, 10, .inl f0)), (h1, .inr (0, [.int p2, .ref h0, w0, w1]))] sz) s.heap [(h0, .inl (cy 1, 10, .inl f0)), (h1, .inr (0, [.int p2, .ref h0, w0, w1]))] H locs ∧ lv_has ls 7 [(0, .ref h1), (1, .int p0), (2, .int p1), (3, .int v8_4_1), (4, .int v8_4_2), (5, .int v8_4_0)]) (fun H locs ls st hP => ?_) (fun J_63 => ?_)
  · obtain ⟨rfl, h, hl⟩ := hP
    refine lv_iload hx hb dX0_countPieces_63 (lv_at hl 4 rfl) ?_
    exact q_iret X hr hlk hK h rfl (fun _ => 0, fun _ _ => 0, fun _ _ => 0) ⟨⟨by omega, by omega⟩, trivial⟩ [0, 1] rfl rfl dX0_countPieces_65 (Nat.le_of_ble_eq_true rfl) (Nat.le_of_ble_eq_true rfl)
  · skip
    refine lv_icmp_ge (tgt := 63) hx hb dX0_countPieces_14 (by decide) (fun c_6 => ?_) (fun c_6 => ?_)
    · replace c_6 := i_le (x := p2) (y := v8_4_0) rfl rfl c_6
      exact J_63 _ _ _ _ ⟨rfl, h, (lv_sub hl [0, 1, 2, 3, 4, 5] rfl)⟩
    · replace c_6 := i_nle (x := p2) (y := v8_4_0) rfl rfl c_6
      refine lv_iload_n hx hb dX0_countPieces_17 rfl (lv_at hl 3 rfl) ?_
      refine lv_if_eq (tgt := 63) hx hb dX0_countPieces_18 (by decide) (fun c_7 => ?_) (fun c_7 => ?_)
      · replace c_7 := i_eq (x := v8_4_1) (y := 0) rfl (show (0 : Int32).toInt = 0 by decide) c_7
        exact J_63 _ _ _ _ ⟨rfl, h, (lv_sub hl [0, 1, 2, 3, 4, 5] rfl)⟩
      · replace c_7 := i_ne (x := v8_4_1) (y := 0) rfl (show (0 : Int32).toInt = 0 by decide) c_7
        refine lv_aload_n hx hb dX0_countPieces_21 rfl (lv_at hl 0 rfl) ?_
        refine lv_iload_n hx hb dX0_countPieces_22 rfl (lv_at hl 3 rfl) ?_
        refine lv_iload_n hx hb dX0_countPieces_23 rfl (lv_at hl 3 rfl) ?_
        refine lv_ineg hx hb dX0_countPieces_24 ?_
        refine q_any (fun z_8 hz_8 => ?_)
        refine lv_iand hx hb dX0_countPieces_25 ?_
        obtain ⟨z_9, ez_9, hz_9⟩ := e_and1 (x := v8_4_1) (y := z_8) rfl (by omega)
        refine q_c z_9 ez_9 ?_
        clear ez_9
        refine lv_iload_n hx hb dX0_countPieces_26 rfl (lv_at hl 3 rfl) ?_
        refine q_callVi (rest := []) (wr := []) X hK hA h (fun sz => gX0_pieceOf_86 l D cy h0 h1 z_9 v8_4_1 f0 p2 w0 w1 ⟨by omega, by omega⟩ ⟨by omega, by omega⟩ ⟨by omega, by omega⟩ (rg_wide rf0 (by decide) (by decide)) sz) wm_4_199 wm_4_202 wm_1_6 hd_X0_pieceOf wm_4_201 wp_3_8 (ci := 0) (q0 := 1) rfl rfl ⟨Nat.le_of_ble_eq_true rfl, Nat.le_of_ble_eq_true rfl⟩ hl.1 rfl (Nat.le_of_ble_eq_true rfl) dX0_countPieces_27 ⟨Nat.le_of_ble_eq_true rfl, Nat.le_of_ble_eq_true rfl⟩ [0, 1] [] rfl rfl (by decide) rfl rfl (fun r_10 u_10 H locs w_10 h_10 => ?_)
        clear h
        obtain ⟨wr_10, _⟩ := w_10
        replace h_10 : qW D _ _ [(h0, .inl (cy 1, 10, .inl f0)), (h1, .inr (0, [.int p2, .ref h0, w0, w1]))] _ _ := h_10
        refine lv_istore (lv' := [(6, .int r_10), (0, .ref h1), (1, .int p0), (2, .int p1), (3, .int v8_4_1), (4, .int v8_4_2), (5, .int v8_4_0)]) hx hb dX0_countPieces_30 hl (by decide) rfl (fun ls_11 hl_11 => ?_)
        clear hl
        refine lv_iload_n hx hb dX0_countPieces_32 rfl (lv_at hl_11 4 rfl) ?_
        refine lv_iload hx hb dX0_countPieces_33 (lv_at hl_11 0 rfl) ?_
        refine lv_iconst (v := (-1)) hx hb dX0_countPieces_35 (by decide) ?_
        refine lv_ixor hx hb dX0_countPieces_36 ?_
        refine q_any (fun z_12 hz_12 => ?_)
        refine lv_iand hx hb dX0_countPieces_37 ?_
        obtain ⟨z_13, ez_13, hz_13⟩ := e_and1 (x := v8_4_1) (y := z_12) rfl (by omega)
        refine q_c z_13 ez_13 ?_
        clear ez_13
        refine lv_istore_n (lv' := [(3, .int z_13), (6, .int r_10), (0, .ref h1), (1, .int p0), (2, .int p1), (4, .int v8_4_2), (5, .int v8_4_0)]) hx hb dX0_countPieces_38 rfl hl_11 (by decide) rfl (fun ls_14 hl_14 => ?_)
        clear hl_11
        refine lv_iload_n hx hb dX0_countPieces_39 rfl (lv_at hl_14 4 rfl) ?_
        refine q_jn (pc2 := 57) (fun H locs ls st => ∃ v57_15_0 : Int32, ((-2147483648) ≤ (v57_15_0).toInt ∧ (v57_15_0).toInt ≤ 2147483647) ∧ st = [] ∧ qW D (va_A [(h0, .inl (cy 1, 10, .inl f0)), (h1, .inr (0, [.int p2, .ref h0, w0, w1]))] sz) s.heap [(h0, .inl (cy 1, 10, .inl f0)), (h1, .inr (0, [.int p2, .ref h0, w0, w1]))] H locs ∧ lv_has ls 7 [(0, .ref h1), (1, .int p0), (2, .int p1), (3, .int z_13), (4, .int v57_15_0), (5, .int v8_4_0), (6, .int r_10)]) (fun H locs ls st hP => ?_) (fun J_57 => ?_)
        · obtain ⟨v57_15_0, hv57_15_0, rfl, h, hl⟩ := hP
          obtain ⟨z_16, ez_16, hz_16⟩ := e_add (x := v8_4_0) (y := Int32.ofInt 1) rfl (b := 1) (by decide) (by omega) (by omega)
          refine lv_iinc (v := z_16) (lv' := [(5, .int z_16), (0, .ref h1), (1, .int p0), (2, .int p1), (3, .int z_13), (4, .int v57_15_0), (6, .int r_10)]) hx hb dX0_countPieces_57 hl (k := 5) rfl ez_16 (by decide) rfl (fun ls_16 hl_16 => ?_)
          clear hl
          refine lv_goto (tgt := 8) hx hb dX0_countPieces_60 (by decide) ?_
          exact ih_8 (z_16, z_13, v57_15_0) (by show (11 - (z_16).toInt).toNat < (11 - (v8_4_0).toInt).toNat; omega) _ _ _ ⟨⟨by omega, by omega⟩, ⟨by omega, by omega⟩, ⟨by omega, by omega⟩, h, (lv_sub hl_16 [1, 2, 3, 4, 5, 0] rfl)⟩
        · skip
          refine q_jn (pc2 := 54) (fun H locs ls st => st = [] ∧ qW D (va_A [(h0, .inl (cy 1, 10, .inl f0)), (h1, .inr (0, [.int p2, .ref h0, w0, w1]))] sz) s.heap [(h0, .inl (cy 1, 10, .inl f0)), (h1, .inr (0, [.int p2, .ref h0, w0, w1]))] H locs ∧ lv_has ls 7 [(0, .ref h1), (1, .int p0), (2, .int p1), (3, .int z_13), (4, .int v8_4_2), (5, .int v8_4_0), (6, .int r_10)]) (fun H locs ls st hP => ?_) (fun J_54 => ?_)
          · obtain ⟨rfl, h, hl⟩ := hP
            obtain ⟨z_18, ez_18, hz_18⟩ := e_any (v8_4_2 + Int32.ofInt 1)
            refine lv_iinc (v := z_18) (lv' := [(4, .int z_18), (0, .ref h1), (1, .int p0), (2, .int p1), (3, .int z_13), (5, .int v8_4_0), (6, .int r_10)]) hx hb dX0_countPieces_54 hl (k := 4) rfl ez_18 (by decide) rfl (fun ls_18 hl_18 => ?_)
            clear hl
            exact J_57 _ _ _ _ ⟨z_18, ⟨by omega, by omega⟩, rfl, h, (lv_sub hl_18 [1, 2, 3, 4, 0, 5, 6] rfl)⟩
          · skip
            refine lv_if_eq (tgt := 54) hx hb dX0_countPieces_40 (by decide) (fun c_19 => ?_) (fun c_19 => ?_)
            · replace c_19 := i_eq (x := p1) (y := 0) rfl (show (0 : Int32).toInt = 0 by decide) c_19
              exfalso
              omega
            · replace c_19 := i_ne (x := p1) (y := 0) rfl (show (0 : Int32).toInt = 0 by decide) c_19
              refine lv_iload hx hb dX0_countPieces_43 (lv_at hl_14 1 rfl) ?_
              refine q_callSi (rest := []) (wr := [(h0, .inl (cy 1, 10, .inl f0)), (h1, .inr (0, [.int p2, .ref h0, w0, w1]))]) X hK hA h_10 (fun sz => gJ6_bitCount_0f7a4_84 l D cy r_10 ⟨by omega, by omega⟩ sz) wm_4_116 wm_4_59 wm_1_22 hd_J6_bitCount_0f7a4 wm_4_58 ⟨Nat.le_of_ble_eq_true rfl, Nat.le_of_ble_eq_true rfl⟩ hl_14.1 rfl (Nat.le_of_ble_eq_true rfl) dX0_countPieces_45 ⟨Nat.le_of_ble_eq_true rfl, Nat.le_of_ble_eq_true rfl⟩ [] [0, 1] rfl rfl (by decide) rfl rfl (fun r_20 u_20 H locs w_20 h_20 => ?_)
              clear h_10
              obtain ⟨wr_20, _⟩ := w_20
              replace h_20 : qW D _ _ [(h0, .inl (cy 1, 10, .inl f0)), (h1, .inr (0, [.int p2, .ref h0, w0, w1]))] _ _ := h_20
              refine lv_iconst (v := 2) hx hb dX0_countPieces_48 (by decide) ?_
              refine lv_irem hx hb dX0_countPieces_49 (by decide) ?_
              obtain ⟨z_21, ez_21, hz_21⟩ := e_rem (x := r_20) (y := 2) rfl (show (2 : Int32).toInt = 2 by decide) (by omega) (by omega)
              refine q_c z_21 ez_21 ?_
              clear ez_21
              refine lv_iconst (v := 1) hx hb dX0_countPieces_50 (by decide) ?_
              refine lv_icmp_ne (tgt := 57) hx hb dX0_countPieces_51 (by decide) (fun c_22 => ?_) (fun c_22 => ?_)
              · replace c_22 := i_ne (x := z_21) (y := 1) rfl (show (1 : Int32).toInt = 1 by decide) c_22
                exact J_57 _ _ _ _ ⟨v8_4_2, ⟨by omega, by omega⟩, rfl, h_20, (lv_sub hl_14 [2, 3, 4, 0, 5, 6, 1] rfl)⟩
              · replace c_22 := i_eq (x := z_21) (y := 1) rfl (show (1 : Int32).toInt = 1 by decide) c_22
                exact J_54 _ _ _ _ ⟨rfl, h_20, (lv_sub hl_14 [2, 3, 4, 0, 5, 6, 1] rfl)⟩
set_option maxHeartbeats 4000000 in
set_option maxRecDepth 100000 in
theorem gX0_leastBar_88 (l : Launch) (D : va_G) (cy : Nat → ClassId) (h0 : Nat) (h1 : Nat) (h2 : Nat) (p0 : Int32) (p1 : Int32) (w0 : Value) (f0 : Nat → Int32) (f1 : Nat → Int32) (hp0 : 0 ≤ (p0).toInt ∧ (p0).toInt ≤ 1023) (hp1 : 0 ≤ (p1).toInt ∧ (p1).toInt ≤ 10) (rf0 : RG f0 10 0 1023) (sz : Nat) : MI l yX0_leastBar cX0_leastBar 7 .int { frames := 4, cells := 0, slots := 0, locals := 93 } [.ref h0, .int p0] D cy [(h0, .inr (0, [.int p1, .ref h1, w0, .ref h2])), (h1, .inl (cy 1, 10, .inl f0)), (h2, .inl (cy 1, 1024, .inl f1))] sz (fun r u => (0 ≤ r.toInt ∧ r.toInt ≤ 1023) ∧ True) (fun u => [(h0, .inr (0, [.int p1, .ref h1, w0, .ref h2])), (h1, .inl (cy 1, 10, .inl f0)), (h2, .inl (cy 1, 1024, .inl f1))]) 0 0 := by
  refine q_ent (own := RX0) (by decide) rfl (Nat.le_of_ble_eq_true rfl) (fun p e s m below meth c ls X hr hlk hnm hK h hA hl => ?_)
  obtain ⟨hx, hb, hml, hown, ht⟩ := id X
  replace hl : lv_has ls 7 [(0, .ref h0), (1, .int p0)] := hl
  refine lv_iload_n hx hb dX0_leastBar_0 rfl (lv_at hl 1 rfl) ?_
  refine q_callSi (rest := []) (wr := [(h0, .inr (0, [.int p1, .ref h1, w0, .ref h2])), (h1, .inl (cy 1, 10, .inl f0)), (h2, .inl (cy 1, 1024, .inl f1))]) X hK hA h (fun sz => gJ6_bitCount_0f7a4_84 l D cy p0 ⟨by omega, by omega⟩ sz) wm_4_116 wm_4_59 wm_1_22 hd_J6_bitCount_0f7a4 wm_4_58 ⟨Nat.le_of_ble_eq_true rfl, Nat.le_of_ble_eq_true rfl⟩ hl.1 rfl (Nat.le_of_ble_eq_true rfl) dX0_leastBar_1 ⟨Nat.le_of_ble_eq_true rfl, Nat.le_of_ble_eq_true rfl⟩ [] [0, 1, 2] rfl rfl (by decide) rfl rfl (fun r_1 u_1 H locs w_1 h_1 => ?_)
  clear h
  obtain ⟨wr_1, _⟩ := w_1
  replace h_1 : qW D _ _ [(h0, .inr (0, [.int p1, .ref h1, w0, .ref h2])), (h1, .inl (cy 1, 10, .inl f0)), (h2, .inl (cy 1, 1024, .inl f1))] _ _ := h_1
  refine lv_iconst (v := 2) hx hb dX0_leastBar_4 (by decide) ?_
  refine lv_aload_n hx hb dX0_leastBar_5 rfl (lv_at hl 0 rfl) ?_
  refine lv_iload_n hx hb dX0_leastBar_6 rfl (lv_at hl 1 rfl) ?_
  refine q_callVi (rest := [.int 2, .int r_1]) (wr := [(h1, .inl (cy 1, 10, .inl f0))]) X hK hA h_1 (fun sz => gX0_twosOf_39 l D cy h0 h2 p0 p1 (.ref h1) w0 f1 ⟨by omega, by omega⟩ ⟨by omega, by omega⟩ sz) wm_4_194 wm_4_165 wm_1_6 hd_X0_twosOf wm_4_163 wm_4_164 (ci := 0) (q0 := 0) rfl rfl ⟨Nat.le_of_ble_eq_true rfl, Nat.le_of_ble_eq_true rfl⟩ hl.1 rfl (Nat.le_of_ble_eq_true rfl) dX0_leastBar_7 ⟨Nat.le_of_ble_eq_true rfl, Nat.le_of_ble_eq_true rfl⟩ [0, 2] [1] rfl rfl (by decide) rfl rfl (fun r_2 u_2 H locs w_2 h_2 => ?_)
  clear h_1
  obtain ⟨wr_2, _⟩ := w_2
  replace h_2 : qW D _ _ [(h1, .inl (cy 1, 10, .inl f0)), (h0, .inr (0, [.int p1, .ref h1, w0, .ref h2])), (h2, .inl (cy 1, 1024, .inl f1))] _ _ := h_2
  refine lv_imul hx hb dX0_leastBar_10 ?_
  refine q_any (fun z_3 hz_3 => ?_)
  refine lv_isub hx hb dX0_leastBar_11 ?_
  refine q_any (fun z_4 hz_4 => ?_)
  refine lv_istore_n (lv' := [(2, .int z_4), (0, .ref h0), (1, .int p0)]) hx hb dX0_leastBar_12 rfl hl (by decide) rfl (fun ls_5 hl_5 => ?_)
  clear hl
  refine lv_iconst (v := 0) hx hb dX0_leastBar_13 (by decide) ?_
  refine lv_istore_n (lv' := [(3, .int 0), (2, .int z_4), (0, .ref h0), (1, .int p0)]) hx hb dX0_leastBar_14 rfl hl_5 (by decide) rfl (fun ls_6 hl_6 => ?_)
  clear hl_5
  refine lv_bipush (v := 11) hx hb dX0_leastBar_15 (by decide) ?_
  refine lv_istore (lv' := [(4, .int 11), (3, .int 0), (2, .int z_4), (0, .ref h0), (1, .int p0)]) hx hb dX0_leastBar_17 hl_6 (by decide) rfl (fun ls_7 hl_7 => ?_)
  clear hl_6
  refine lv_iconst (v := 0) hx hb dX0_leastBar_19 (by decide) ?_
  refine lv_istore (lv' := [(5, .int 0), (4, .int 11), (3, .int 0), (2, .int z_4), (0, .ref h0), (1, .int p0)]) hx hb dX0_leastBar_20 hl_7 (by decide) rfl (fun ls_8 hl_8 => ?_)
  clear hl_7
  refine q_wl (fun (q : Int32 × Int32 × Int32) H locs ls => match q with | (v22_9_0, v22_9_1, v22_9_2) => (0 ≤ (v22_9_0).toInt ∧ (v22_9_0).toInt ≤ 1024) ∧ (0 ≤ (v22_9_1).toInt ∧ (v22_9_1).toInt ≤ 11) ∧ (0 ≤ (v22_9_2).toInt ∧ (v22_9_2).toInt ≤ 1023) ∧ qW D (va_A [(h0, .inr (0, [.int p1, .ref h1, w0, .ref h2])), (h1, .inl (cy 1, 10, .inl f0)), (h2, .inl (cy 1, 1024, .inl f1))] sz) s.heap [(h1, .inl (cy 1, 10, .inl f0)), (h0, .inr (0, [.int p1, .ref h1, w0, .ref h2])), (h2, .inl (cy 1, 1024, .inl f1))] H locs ∧ lv_has ls 7 [(0, .ref h0), (1, .int p0), (2, .int z_4), (3, .int v22_9_2), (4, .int v22_9_1), (5, .int v22_9_0)]) (fun (q : Int32 × Int32 × Int32) => match q with | (v22_9_0, v22_9_1, v22_9_2) => (1025 - (v22_9_0).toInt).toNat) (fun q_22 ih_22 H locs ls hP => ?_) (0, 11, 0) ⟨⟨by decide +kernel, by decide +kernel⟩, ⟨by decide +kernel, by decide +kernel⟩, ⟨by decide +kernel, by decide +kernel⟩, h_2, (lv_sub hl_8 [4, 5, 3, 2, 1, 0] rfl)⟩
  obtain ⟨v22_9_0, v22_9_1, v22_9_2⟩ := q_22
  obtain ⟨hv22_9_0, hv22_9_1, hv22_9_2, h, hl⟩ := hP
  refine lv_iload hx hb dX0_leastBar_22 (lv_at hl 5 rfl) ?_
  refine lv_iload_n hx hb dX0_leastBar_24 rfl (lv_at hl 1 rfl) ?_
  refine lv_icmp_gt (tgt := 82) hx hb dX0_leastBar_25 (by decide) (fun c_10 => ?_) (fun c_10 => ?_)
  · replace c_10 := i_lt (x := p0) (y := v22_9_0) rfl rfl c_10
    refine lv_iload_n hx hb dX0_leastBar_82 rfl (lv_at hl 3 rfl) ?_
    exact q_iret X hr hlk hK h rfl (fun _ => 0, fun _ _ => 0, fun _ _ => 0) ⟨⟨by omega, by omega⟩, trivial⟩ [1, 0, 2] rfl rfl dX0_leastBar_83 (Nat.le_of_ble_eq_true rfl) (Nat.le_of_ble_eq_true rfl)
  · replace c_10 := i_nlt (x := p0) (y := v22_9_0) rfl rfl c_10
    refine lv_iload hx hb dX0_leastBar_28 (lv_at hl 5 rfl) ?_
    refine q_callSi (rest := []) (wr := [(h1, .inl (cy 1, 10, .inl f0)), (h0, .inr (0, [.int p1, .ref h1, w0, .ref h2])), (h2, .inl (cy 1, 1024, .inl f1))]) X hK hA h (fun sz => gJ6_bitCount_0f7a4_84 l D cy v22_9_0 ⟨by omega, by omega⟩ sz) wm_4_116 wm_4_59 wm_1_22 hd_J6_bitCount_0f7a4 wm_4_58 ⟨Nat.le_of_ble_eq_true rfl, Nat.le_of_ble_eq_true rfl⟩ hl.1 rfl (Nat.le_of_ble_eq_true rfl) dX0_leastBar_30 ⟨Nat.le_of_ble_eq_true rfl, Nat.le_of_ble_eq_true rfl⟩ [] [0, 1, 2] rfl rfl (by decide) rfl rfl (fun r_11 u_11 H locs w_11 h_11 => ?_)
    clear h
    obtain ⟨wr_11, _⟩ := w_11
    replace h_11 : qW D _ _ [(h1, .inl (cy 1, 10, .inl f0)), (h0, .inr (0, [.int p1, .ref h1, w0, .ref h2])), (h2, .inl (cy 1, 1024, .inl f1))] _ _ := h_11
    refine lv_istore (lv' := [(6, .int r_11), (0, .ref h0), (1, .int p0), (2, .int z_4), (3, .int v22_9_2), (4, .int v22_9_1), (5, .int v22_9_0)]) hx hb dX0_leastBar_33 hl (by decide) rfl (fun ls_12 hl_12 => ?_)
    clear hl
    refine lv_iload hx hb dX0_leastBar_35 (lv_at hl_12 6 rfl) ?_
    refine lv_iload_n hx hb dX0_leastBar_37 rfl (lv_at hl_12 2 rfl) ?_
    refine lv_iconst (v := (-1)) hx hb dX0_leastBar_38 (by decide) ?_
    refine lv_ixor hx hb dX0_leastBar_39 ?_
    refine q_any (fun z_13 hz_13 => ?_)
    refine lv_iand hx hb dX0_leastBar_40 ?_
    obtain ⟨z_14, ez_14, hz_14⟩ := e_and1 (x := v22_9_0) (y := z_13) rfl (by omega)
    refine q_c z_14 ez_14 ?_
    clear ez_14
    refine q_jn (pc2 := 76) (fun H locs ls st => ∃ v76_15_0 : Int32, ∃ v76_15_1 : Int32, (0 ≤ (v76_15_0).toInt ∧ (v76_15_0).toInt ≤ 11) ∧ (0 ≤ (v76_15_1).toInt ∧ (v76_15_1).toInt ≤ 1023) ∧ st = [] ∧ qW D (va_A [(h0, .inr (0, [.int p1, .ref h1, w0, .ref h2])), (h1, .inl (cy 1, 10, .inl f0)), (h2, .inl (cy 1, 1024, .inl f1))] sz) s.heap [(h1, .inl (cy 1, 10, .inl f0)), (h0, .inr (0, [.int p1, .ref h1, w0, .ref h2])), (h2, .inl (cy 1, 1024, .inl f1))] H locs ∧ lv_has ls 7 [(0, .ref h0), (1, .int p0), (2, .int z_4), (3, .int v76_15_1), (4, .int v76_15_0), (5, .int v22_9_0), (6, .int r_11)]) (fun H locs ls st hP => ?_) (fun J_76 => ?_)
    · obtain ⟨v76_15_0, v76_15_1, hv76_15_0, hv76_15_1, rfl, h, hl⟩ := hP
      obtain ⟨z_16, ez_16, hz_16⟩ := e_add (x := v22_9_0) (y := Int32.ofInt 1) rfl (b := 1) (by decide) (by omega) (by omega)
      refine lv_iinc (v := z_16) (lv' := [(5, .int z_16), (0, .ref h0), (1, .int p0), (2, .int z_4), (3, .int v76_15_1), (4, .int v76_15_0), (6, .int r_11)]) hx hb dX0_leastBar_76 hl (k := 5) rfl ez_16 (by decide) rfl (fun ls_16 hl_16 => ?_)
      clear hl
      refine lv_goto (tgt := 22) hx hb dX0_leastBar_79 (by decide) ?_
      exact ih_22 (z_16, v76_15_0, v76_15_1) (by show (1025 - (z_16).toInt).toNat < (1025 - (v22_9_0).toInt).toNat; omega) _ _ _ ⟨⟨by omega, by omega⟩, ⟨by omega, by omega⟩, ⟨by omega, by omega⟩, h, (lv_sub hl_16 [1, 2, 3, 4, 5, 0] rfl)⟩
    · skip
      refine lv_if_ne (tgt := 76) hx hb dX0_leastBar_41 (by decide) (fun c_17 => ?_) (fun c_17 => ?_)
      · replace c_17 := i_ne (x := z_14) (y := 0) rfl (show (0 : Int32).toInt = 0 by decide) c_17
        exact J_76 _ _ _ _ ⟨v22_9_1, v22_9_2, ⟨by omega, by omega⟩, ⟨by omega, by omega⟩, rfl, h_11, (lv_sub hl_12 [1, 2, 3, 4, 5, 6, 0] rfl)⟩
      · replace c_17 := i_eq (x := z_14) (y := 0) rfl (show (0 : Int32).toInt = 0 by decide) c_17
        refine lv_iload hx hb dX0_leastBar_44 (lv_at hl_12 0 rfl) ?_
        refine lv_iload hx hb dX0_leastBar_46 (lv_at hl_12 5 rfl) ?_
        refine lv_icmp_ge (tgt := 76) hx hb dX0_leastBar_48 (by decide) (fun c_18 => ?_) (fun c_18 => ?_)
        · replace c_18 := i_le (x := v22_9_1) (y := r_11) rfl rfl c_18
          exact J_76 _ _ _ _ ⟨v22_9_1, v22_9_2, ⟨by omega, by omega⟩, ⟨by omega, by omega⟩, rfl, h_11, (lv_sub hl_12 [1, 2, 3, 4, 5, 6, 0] rfl)⟩
        · replace c_18 := i_nle (x := v22_9_1) (y := r_11) rfl rfl c_18
          refine lv_aload_n hx hb dX0_leastBar_51 rfl (lv_at hl_12 1 rfl) ?_
          refine lv_iload_n hx hb dX0_leastBar_52 rfl (lv_at hl_12 2 rfl) ?_
          refine lv_iload hx hb dX0_leastBar_53 (lv_at hl_12 6 rfl) ?_
          refine lv_iconst (v := (-1)) hx hb dX0_leastBar_55 (by decide) ?_
          refine lv_ixor hx hb dX0_leastBar_56 ?_
          refine q_any (fun z_19 hz_19 => ?_)
          refine lv_iand hx hb dX0_leastBar_57 ?_
          obtain ⟨z_20, ez_20, hz_20⟩ := e_and1 (x := p0) (y := z_19) rfl (by omega)
          refine q_c z_20 ez_20 ?_
          clear ez_20
          refine lv_iconst (v := 1) hx hb dX0_leastBar_58 (by decide) ?_
          refine q_callVi (rest := []) (wr := [(h2, .inl (cy 1, 1024, .inl f1))]) X hK hA h_11 (fun sz => gX0_countPieces_87 l D cy h1 h0 z_20 (1 : Int32) f0 p1 w0 (.ref h2) ⟨by omega, by omega⟩ ⟨by decide +kernel, by decide +kernel⟩ ⟨by omega, by omega⟩ (rg_wide rf0 (by decide) (by decide)) sz) wm_4_195 wm_4_198 wm_1_6 hd_X0_countPieces wm_4_196 wm_4_197 (ci := 0) (q0 := 1) rfl rfl ⟨Nat.le_of_ble_eq_true rfl, Nat.le_of_ble_eq_true rfl⟩ hl_12.1 rfl (Nat.le_of_ble_eq_true rfl) dX0_leastBar_59 ⟨Nat.le_of_ble_eq_true rfl, Nat.le_of_ble_eq_true rfl⟩ [0, 1] [2] rfl rfl (by decide) rfl rfl (fun r_21 u_21 H locs w_21 h_21 => ?_)
          clear h_11
          obtain ⟨wr_21, _⟩ := w_21
          replace h_21 : qW D _ _ [(h2, .inl (cy 1, 1024, .inl f1)), (h1, .inl (cy 1, 10, .inl f0)), (h0, .inr (0, [.int p1, .ref h1, w0, .ref h2]))] _ _ := h_21
          refine lv_iload hx hb dX0_leastBar_62 (lv_at hl_12 0 rfl) ?_
          refine lv_isub hx hb dX0_leastBar_64 ?_
          refine q_any (fun z_22 hz_22 => ?_)
          refine lv_iload_n hx hb dX0_leastBar_65 rfl (lv_at hl_12 3 rfl) ?_
          refine lv_icmp_ne (tgt := 76) hx hb dX0_leastBar_66 (by decide) (fun c_23 => ?_) (fun c_23 => ?_)
          · replace c_23 := i_ne (x := z_22) (y := z_4) rfl rfl c_23
            exact J_76 _ _ _ _ ⟨v22_9_1, v22_9_2, ⟨by omega, by omega⟩, ⟨by omega, by omega⟩, rfl, (q_re h_21 [1, 2, 0] rfl rfl), (lv_sub hl_12 [1, 2, 3, 4, 5, 6, 0] rfl)⟩
          · replace c_23 := i_eq (x := z_22) (y := z_4) rfl rfl c_23
            refine lv_iload hx hb dX0_leastBar_69 (lv_at hl_12 6 rfl) ?_
            refine lv_istore_n (lv' := [(3, .int v22_9_0), (6, .int r_11), (0, .ref h0), (1, .int p0), (2, .int z_4), (4, .int v22_9_1), (5, .int v22_9_0)]) hx hb dX0_leastBar_71 rfl hl_12 (by decide) rfl (fun ls_24 hl_24 => ?_)
            clear hl_12
            refine lv_iload hx hb dX0_leastBar_72 (lv_at hl_24 1 rfl) ?_
            refine lv_istore (lv' := [(4, .int r_11), (3, .int v22_9_0), (6, .int r_11), (0, .ref h0), (1, .int p0), (2, .int z_4), (5, .int v22_9_0)]) hx hb dX0_leastBar_74 hl_24 (by decide) rfl (fun ls_25 hl_25 => ?_)
            clear hl_24
            exact J_76 _ _ _ _ ⟨r_11, v22_9_0, ⟨by omega, by omega⟩, ⟨by omega, by omega⟩, rfl, (q_re h_21 [1, 2, 0] rfl rfl), (lv_sub hl_25 [3, 4, 5, 1, 0, 6, 2] rfl)⟩
set_option maxHeartbeats 4000000 in
set_option maxRecDepth 100000 in
theorem gX0_leastCover_89 (l : Launch) (D : va_G) (cy : Nat → ClassId) (h0 : Nat) (h1 : Nat) (p0 : Int32) (p1 : Int32) (p2 : Int32) (w0 : Value) (w1 : Value) (f0 : Nat → Int32) (hp0 : 0 ≤ (p0).toInt ∧ (p0).toInt ≤ 1023) (hp1 : 0 ≤ (p1).toInt ∧ (p1).toInt ≤ 1023) (hp2 : 0 ≤ (p2).toInt ∧ (p2).toInt ≤ 10) (rf0 : RG f0 10 0 1023) (sz : Nat) : MI l yX0_leastCover cX0_leastCover 6 .int { frames := 1, cells := 0, slots := 0, locals := 23 } [.ref h0, .int p0, .int p1] D cy [(h0, .inr (0, [.int p2, .ref h1, w0, w1])), (h1, .inl (cy 1, 10, .inl f0))] sz (fun r u => ((-1) ≤ r.toInt ∧ r.toInt ≤ 1023) ∧ True) (fun u => [(h0, .inr (0, [.int p2, .ref h1, w0, w1])), (h1, .inl (cy 1, 10, .inl f0))]) 0 0 := by
  refine q_ent (own := RX0) (by decide) rfl (Nat.le_of_ble_eq_true rfl) (fun p e s m below meth c ls X hr hlk hnm hK h hA hl => ?_)
  obtain ⟨hx, hb, hml, hown, ht⟩ := id X
  replace hl : lv_has ls 6 [(0, .ref h0), (1, .int p0), (2, .int p1)] := hl
  refine lv_iconst (v := (-1)) hx hb dX0_leastCover_0 (by decide) ?_
  refine lv_istore_n (lv' := [(3, .int (-1)), (0, .ref h0), (1, .int p0), (2, .int p1)]) hx hb dX0_leastCover_1 rfl hl (by decide) rfl (fun ls_1 hl_1 => ?_)
  clear hl
  refine lv_bipush (v := 11) hx hb dX0_leastCover_2 (by decide) ?_
  refine lv_istore (lv' := [(4, .int 11), (3, .int (-1)), (0, .ref h0), (1, .int p0), (2, .int p1)]) hx hb dX0_leastCover_4 hl_1 (by decide) rfl (fun ls_2 hl_2 => ?_)
  clear hl_1
  refine lv_iconst (v := 0) hx hb dX0_leastCover_6 (by decide) ?_
  refine lv_istore (lv' := [(5, .int 0), (4, .int 11), (3, .int (-1)), (0, .ref h0), (1, .int p0), (2, .int p1)]) hx hb dX0_leastCover_7 hl_2 (by decide) rfl (fun ls_3 hl_3 => ?_)
  clear hl_2
  refine q_wl (fun (q : Int32 × Int32 × Int32) H locs ls => match q with | (v9_4_0, v9_4_1, v9_4_2) => (0 ≤ (v9_4_0).toInt ∧ (v9_4_0).toInt ≤ 1024) ∧ ((-1) ≤ (v9_4_1).toInt ∧ (v9_4_1).toInt ≤ 1023) ∧ (0 ≤ (v9_4_2).toInt ∧ (v9_4_2).toInt ≤ 63) ∧ qW D (va_A [(h0, .inr (0, [.int p2, .ref h1, w0, w1])), (h1, .inl (cy 1, 10, .inl f0))] sz) s.heap [(h0, .inr (0, [.int p2, .ref h1, w0, w1])), (h1, .inl (cy 1, 10, .inl f0))] H locs ∧ lv_has ls 6 [(0, .ref h0), (1, .int p0), (2, .int p1), (3, .int v9_4_1), (4, .int v9_4_2), (5, .int v9_4_0)]) (fun (q : Int32 × Int32 × Int32) => match q with | (v9_4_0, v9_4_1, v9_4_2) => (1025 - (v9_4_0).toInt).toNat) (fun q_9 ih_9 H locs ls hP => ?_) (0, (-1), 11) ⟨⟨by decide +kernel, by decide +kernel⟩, ⟨by decide +kernel, by decide +kernel⟩, ⟨by decide +kernel, by decide +kernel⟩, h, (lv_sub hl_3 [3, 4, 5, 2, 1, 0] rfl)⟩
  obtain ⟨v9_4_0, v9_4_1, v9_4_2⟩ := q_9
  obtain ⟨hv9_4_0, hv9_4_1, hv9_4_2, h, hl⟩ := hP
  refine lv_iload hx hb dX0_leastCover_9 (lv_at hl 5 rfl) ?_
  refine lv_iload_n hx hb dX0_leastCover_11 rfl (lv_at hl 2 rfl) ?_
  refine lv_icmp_gt (tgt := 60) hx hb dX0_leastCover_12 (by decide) (fun c_5 => ?_) (fun c_5 => ?_)
  · replace c_5 := i_lt (x := p1) (y := v9_4_0) rfl rfl c_5
    refine lv_iload_n hx hb dX0_leastCover_60 rfl (lv_at hl 3 rfl) ?_
    exact q_iret X hr hlk hK h rfl (fun _ => 0, fun _ _ => 0, fun _ _ => 0) ⟨⟨by omega, by omega⟩, trivial⟩ [0, 1] rfl rfl dX0_leastCover_61 (Nat.le_of_ble_eq_true rfl) (Nat.le_of_ble_eq_true rfl)
  · replace c_5 := i_nlt (x := p1) (y := v9_4_0) rfl rfl c_5
    refine lv_iload hx hb dX0_leastCover_15 (lv_at hl 5 rfl) ?_
    refine lv_iload_n hx hb dX0_leastCover_17 rfl (lv_at hl 2 rfl) ?_
    refine lv_iconst (v := (-1)) hx hb dX0_leastCover_18 (by decide) ?_
    refine lv_ixor hx hb dX0_leastCover_19 ?_
    refine q_any (fun z_6 hz_6 => ?_)
    refine lv_iand hx hb dX0_leastCover_20 ?_
    obtain ⟨z_7, ez_7, hz_7⟩ := e_and1 (x := v9_4_0) (y := z_6) rfl (by omega)
    refine q_c z_7 ez_7 ?_
    clear ez_7
    refine q_jn (pc2 := 54) (fun H locs ls st => ∃ v54_8_0 : Int32, ∃ v54_8_1 : Int32, (0 ≤ (v54_8_0).toInt ∧ (v54_8_0).toInt ≤ 63) ∧ ((-1) ≤ (v54_8_1).toInt ∧ (v54_8_1).toInt ≤ 1023) ∧ st = [] ∧ qW D (va_A [(h0, .inr (0, [.int p2, .ref h1, w0, w1])), (h1, .inl (cy 1, 10, .inl f0))] sz) s.heap [(h0, .inr (0, [.int p2, .ref h1, w0, w1])), (h1, .inl (cy 1, 10, .inl f0))] H locs ∧ lv_has ls 6 [(0, .ref h0), (1, .int p0), (2, .int p1), (3, .int v54_8_1), (4, .int v54_8_0), (5, .int v9_4_0)]) (fun H locs ls st hP => ?_) (fun J_54 => ?_)
    · obtain ⟨v54_8_0, v54_8_1, hv54_8_0, hv54_8_1, rfl, h, hl⟩ := hP
      obtain ⟨z_9, ez_9, hz_9⟩ := e_add (x := v9_4_0) (y := Int32.ofInt 1) rfl (b := 1) (by decide) (by omega) (by omega)
      refine lv_iinc (v := z_9) (lv' := [(5, .int z_9), (0, .ref h0), (1, .int p0), (2, .int p1), (3, .int v54_8_1), (4, .int v54_8_0)]) hx hb dX0_leastCover_54 hl (k := 5) rfl ez_9 (by decide) rfl (fun ls_9 hl_9 => ?_)
      clear hl
      refine lv_goto (tgt := 9) hx hb dX0_leastCover_57 (by decide) ?_
      exact ih_9 (z_9, v54_8_1, v54_8_0) (by show (1025 - (z_9).toInt).toNat < (1025 - (v9_4_0).toInt).toNat; omega) _ _ _ ⟨⟨by omega, by omega⟩, ⟨by omega, by omega⟩, ⟨by omega, by omega⟩, h, (lv_sub hl_9 [1, 2, 3, 4, 5, 0] rfl)⟩
    · skip
      refine lv_if_ne (tgt := 54) hx hb dX0_leastCover_21 (by decide) (fun c_10 => ?_) (fun c_10 => ?_)
      · replace c_10 := i_ne (x := z_7) (y := 0) rfl (show (0 : Int32).toInt = 0 by decide) c_10
        exact J_54 _ _ _ _ ⟨v9_4_2, v9_4_1, ⟨by omega, by omega⟩, ⟨by omega, by omega⟩, rfl, h, (lv_sub hl [0, 1, 2, 3, 4, 5] rfl)⟩
      · replace c_10 := i_eq (x := z_7) (y := 0) rfl (show (0 : Int32).toInt = 0 by decide) c_10
        refine lv_iload hx hb dX0_leastCover_24 (lv_at hl 5 rfl) ?_
        refine q_callSi (rest := []) (wr := [(h0, .inr (0, [.int p2, .ref h1, w0, w1])), (h1, .inl (cy 1, 10, .inl f0))]) X hK hA h (fun sz => gJ6_bitCount_0f7a4_84 l D cy v9_4_0 ⟨by omega, by omega⟩ sz) wm_4_116 wm_4_59 wm_1_22 hd_J6_bitCount_0f7a4 wm_4_58 ⟨Nat.le_of_ble_eq_true rfl, Nat.le_of_ble_eq_true rfl⟩ hl.1 rfl (Nat.le_of_ble_eq_true rfl) dX0_leastCover_26 ⟨Nat.le_of_ble_eq_true rfl, Nat.le_of_ble_eq_true rfl⟩ [] [0, 1] rfl rfl (by decide) rfl rfl (fun r_11 u_11 H locs w_11 h_11 => ?_)
        clear h
        obtain ⟨wr_11, _⟩ := w_11
        replace h_11 : qW D _ _ [(h0, .inr (0, [.int p2, .ref h1, w0, w1])), (h1, .inl (cy 1, 10, .inl f0))] _ _ := h_11
        refine lv_iload hx hb dX0_leastCover_29 (lv_at hl 4 rfl) ?_
        refine lv_icmp_ge (tgt := 54) hx hb dX0_leastCover_31 (by decide) (fun c_12 => ?_) (fun c_12 => ?_)
        · replace c_12 := i_le (x := v9_4_2) (y := r_11) rfl rfl c_12
          exact J_54 _ _ _ _ ⟨v9_4_2, v9_4_1, ⟨by omega, by omega⟩, ⟨by omega, by omega⟩, rfl, h_11, (lv_sub hl [0, 1, 2, 3, 4, 5] rfl)⟩
        · replace c_12 := i_nle (x := v9_4_2) (y := r_11) rfl rfl c_12
          refine lv_aload_n hx hb dX0_leastCover_34 rfl (lv_at hl 0 rfl) ?_
          refine lv_iload_n hx hb dX0_leastCover_35 rfl (lv_at hl 1 rfl) ?_
          refine lv_iload hx hb dX0_leastCover_36 (lv_at hl 5 rfl) ?_
          refine q_callVi (rest := []) (wr := []) X hK hA h_11 (fun sz => gX0_opposeAllOf_40 l D cy h0 h1 p0 v9_4_0 p2 w0 w1 f0 ⟨by omega, by omega⟩ ⟨by omega, by omega⟩ ⟨by omega, by omega⟩ (rg_wide rf0 (by decide) (by decide)) sz) wm_4_228 wm_4_231 wm_1_6 hd_X0_opposeAllOf wm_4_230 wp_3_9 (ci := 0) (q0 := 0) rfl rfl ⟨Nat.le_of_ble_eq_true rfl, Nat.le_of_ble_eq_true rfl⟩ hl.1 rfl (Nat.le_of_ble_eq_true rfl) dX0_leastCover_38 ⟨Nat.le_of_ble_eq_true rfl, Nat.le_of_ble_eq_true rfl⟩ [0, 1] [] rfl rfl (by decide) rfl rfl (fun r_13 u_13 H locs w_13 h_13 => ?_)
          clear h_11
          obtain ⟨wr_13, _⟩ := w_13
          replace h_13 : qW D _ _ [(h0, .inr (0, [.int p2, .ref h1, w0, w1])), (h1, .inl (cy 1, 10, .inl f0))] _ _ := h_13
          refine lv_if_eq (tgt := 54) hx hb dX0_leastCover_41 (by decide) (fun c_14 => ?_) (fun c_14 => ?_)
          · replace c_14 := i_eq (x := r_13) (y := 0) rfl (show (0 : Int32).toInt = 0 by decide) c_14
            exact J_54 _ _ _ _ ⟨v9_4_2, v9_4_1, ⟨by omega, by omega⟩, ⟨by omega, by omega⟩, rfl, h_13, (lv_sub hl [0, 1, 2, 3, 4, 5] rfl)⟩
          · replace c_14 := i_ne (x := r_13) (y := 0) rfl (show (0 : Int32).toInt = 0 by decide) c_14
            refine lv_iload hx hb dX0_leastCover_44 (lv_at hl 5 rfl) ?_
            refine lv_istore_n (lv' := [(3, .int v9_4_0), (0, .ref h0), (1, .int p0), (2, .int p1), (4, .int v9_4_2), (5, .int v9_4_0)]) hx hb dX0_leastCover_46 rfl hl (by decide) rfl (fun ls_15 hl_15 => ?_)
            clear hl
            refine lv_iload hx hb dX0_leastCover_47 (lv_at hl_15 5 rfl) ?_
            refine q_callSi (rest := []) (wr := [(h0, .inr (0, [.int p2, .ref h1, w0, w1])), (h1, .inl (cy 1, 10, .inl f0))]) X hK hA h_13 (fun sz => gJ6_bitCount_0f7a4_84 l D cy v9_4_0 ⟨by omega, by omega⟩ sz) wm_4_116 wm_4_59 wm_1_22 hd_J6_bitCount_0f7a4 wm_4_58 ⟨Nat.le_of_ble_eq_true rfl, Nat.le_of_ble_eq_true rfl⟩ hl_15.1 rfl (Nat.le_of_ble_eq_true rfl) dX0_leastCover_49 ⟨Nat.le_of_ble_eq_true rfl, Nat.le_of_ble_eq_true rfl⟩ [] [0, 1] rfl rfl (by decide) rfl rfl (fun r_16 u_16 H locs w_16 h_16 => ?_)
            clear h_13
            obtain ⟨wr_16, _⟩ := w_16
            replace h_16 : qW D _ _ [(h0, .inr (0, [.int p2, .ref h1, w0, w1])), (h1, .inl (cy 1, 10, .inl f0))] _ _ := h_16
            refine lv_istore (lv' := [(4, .int r_16), (3, .int v9_4_0), (0, .ref h0), (1, .int p0), (2, .int p1), (5, .int v9_4_0)]) hx hb dX0_leastCover_52 hl_15 (by decide) rfl (fun ls_17 hl_17 => ?_)
            clear hl_15
            exact J_54 _ _ _ _ ⟨r_16, v9_4_0, ⟨by omega, by omega⟩, ⟨by omega, by omega⟩, rfl, h_16, (lv_sub hl_17 [2, 3, 4, 1, 0, 5] rfl)⟩
set_option maxHeartbeats 4000000 in
set_option maxRecDepth 100000 in
theorem gX0_shareOf_90 (l : Launch) (D : va_G) (cy : Nat → ClassId) (h0 : Nat) (h1 : Nat) (h2 : Nat) (p0 : Int32) (f0 : Nat → Int32) (p1 : Int32) (w0 : Value) (w1 : Value) (f1 : Nat → Int32) (hp0 : 0 ≤ (p0).toInt ∧ (p0).toInt ≤ 1023) (hp1 : 0 ≤ (p1).toInt ∧ (p1).toInt ≤ 10) (rf0 : RG f0 10 0 10) (sz : Nat) : ML l yX0_shareOf cX0_shareOf 9 { frames := 0, cells := 0, slots := 0, locals := 0 } [.ref h1, .int p0, .ref h0] D cy [(h0, .inl (cy 1, 10, .inl f0)), (h1, .inr (0, [.int p1, w0, .ref h2, w1])), (h2, .inl (cy 1, 1024, .inl f1))] sz (fun r u => ((-9223372036854775808) ≤ r.toInt ∧ r.toInt ≤ 9223372036854775807) ∧ True) (fun u => [(h0, .inl (cy 1, 10, .inl f0)), (h1, .inr (0, [.int p1, w0, .ref h2, w1])), (h2, .inl (cy 1, 1024, .inl f1))]) 0 0 := by
  refine q_ent (own := RX0) (by decide) rfl (Nat.le_of_ble_eq_true rfl) (fun p e s m below meth c ls X hr hlk hnm hK h hA hl => ?_)
  obtain ⟨hx, hb, hml, hown, ht⟩ := id X
  replace hl : lv_has ls 9 [(0, .ref h1), (1, .int p0), (2, .ref h0)] := hl
  refine lv_lconst (v := 0) hx hb dX0_shareOf_0 (by decide) ?_
  refine lv_lstore_n (lv' := [(3, .long 0), (0, .ref h1), (1, .int p0), (2, .ref h0)]) hx hb dX0_shareOf_1 rfl hl (by decide) rfl (fun ls_1 hl_1 => ?_)
  clear hl
  refine lv_iconst (v := 0) hx hb dX0_shareOf_2 (by decide) ?_
  refine lv_istore (lv' := [(5, .int 0), (3, .long 0), (0, .ref h1), (1, .int p0), (2, .ref h0)]) hx hb dX0_shareOf_3 hl_1 (by decide) rfl (fun ls_2 hl_2 => ?_)
  clear hl_1
  refine q_wl (fun (q : Int32 × Int64) H locs ls => match q with | (v5_3_0, v5_3_1) => (0 ≤ (v5_3_0).toInt ∧ (v5_3_0).toInt ≤ 1024) ∧ ((-9223372036854775808) ≤ (v5_3_1).toInt ∧ (v5_3_1).toInt ≤ 9223372036854775807) ∧ qW D (va_A [(h0, .inl (cy 1, 10, .inl f0)), (h1, .inr (0, [.int p1, w0, .ref h2, w1])), (h2, .inl (cy 1, 1024, .inl f1))] sz) s.heap [(h0, .inl (cy 1, 10, .inl f0)), (h1, .inr (0, [.int p1, w0, .ref h2, w1])), (h2, .inl (cy 1, 1024, .inl f1))] H locs ∧ lv_has ls 9 [(0, .ref h1), (1, .int p0), (2, .ref h0), (3, .long v5_3_1), (5, .int v5_3_0)]) (fun (q : Int32 × Int64) => match q with | (v5_3_0, v5_3_1) => (1025 - (v5_3_0).toInt).toNat) (fun q_5 ih_5 H locs ls hP => ?_) (0, 0) ⟨⟨by decide +kernel, by decide +kernel⟩, ⟨by decide +kernel, by decide +kernel⟩, h, (lv_sub hl_2 [2, 3, 4, 1, 0] rfl)⟩
  obtain ⟨v5_3_0, v5_3_1⟩ := q_5
  obtain ⟨hv5_3_0, hv5_3_1, h, hl⟩ := hP
  refine lv_iload hx hb dX0_shareOf_5 (lv_at hl 4 rfl) ?_
  refine lv_iload_n hx hb dX0_shareOf_7 rfl (lv_at hl 1 rfl) ?_
  refine lv_icmp_gt (tgt := 104) hx hb dX0_shareOf_8 (by decide) (fun c_4 => ?_) (fun c_4 => ?_)
  · replace c_4 := i_lt (x := p0) (y := v5_3_0) rfl rfl c_4
    refine lv_lload_n hx hb dX0_shareOf_104 rfl (lv_at hl 3 rfl) ?_
    exact q_lret X hr hlk hK h (fun _ => 0, fun _ _ => 0, fun _ _ => 0) ⟨⟨by omega, by omega⟩, trivial⟩ [0, 1, 2] rfl rfl dX0_shareOf_105 (Nat.le_of_ble_eq_true rfl) (Nat.le_of_ble_eq_true rfl)
  · replace c_4 := i_nlt (x := p0) (y := v5_3_0) rfl rfl c_4
    refine lv_iload hx hb dX0_shareOf_11 (lv_at hl 4 rfl) ?_
    refine lv_iload_n hx hb dX0_shareOf_13 rfl (lv_at hl 1 rfl) ?_
    refine lv_iconst (v := (-1)) hx hb dX0_shareOf_14 (by decide) ?_
    refine lv_ixor hx hb dX0_shareOf_15 ?_
    refine q_any (fun z_5 hz_5 => ?_)
    refine lv_iand hx hb dX0_shareOf_16 ?_
    obtain ⟨z_6, ez_6, hz_6⟩ := e_and1 (x := v5_3_0) (y := z_5) rfl (by omega)
    refine q_c z_6 ez_6 ?_
    clear ez_6
    refine q_jn (pc2 := 98) (fun H locs ls st => ∃ v98_7_0 : Int64, ((-9223372036854775808) ≤ (v98_7_0).toInt ∧ (v98_7_0).toInt ≤ 9223372036854775807) ∧ st = [] ∧ qW D (va_A [(h0, .inl (cy 1, 10, .inl f0)), (h1, .inr (0, [.int p1, w0, .ref h2, w1])), (h2, .inl (cy 1, 1024, .inl f1))] sz) s.heap [(h0, .inl (cy 1, 10, .inl f0)), (h1, .inr (0, [.int p1, w0, .ref h2, w1])), (h2, .inl (cy 1, 1024, .inl f1))] H locs ∧ lv_has ls 9 [(0, .ref h1), (1, .int p0), (2, .ref h0), (3, .long v98_7_0), (5, .int v5_3_0)]) (fun H locs ls st hP => ?_) (fun J_98 => ?_)
    · obtain ⟨v98_7_0, hv98_7_0, rfl, h, hl⟩ := hP
      obtain ⟨z_8, ez_8, hz_8⟩ := e_add (x := v5_3_0) (y := Int32.ofInt 1) rfl (b := 1) (by decide) (by omega) (by omega)
      refine lv_iinc (v := z_8) (lv' := [(5, .int z_8), (0, .ref h1), (1, .int p0), (2, .ref h0), (3, .long v98_7_0)]) hx hb dX0_shareOf_98 hl (k := 4) rfl ez_8 (by decide) rfl (fun ls_8 hl_8 => ?_)
      clear hl
      refine lv_goto (tgt := 5) hx hb dX0_shareOf_101 (by decide) ?_
      exact ih_5 (z_8, v98_7_0) (by show (1025 - (z_8).toInt).toNat < (1025 - (v5_3_0).toInt).toNat; omega) _ _ _ ⟨⟨by omega, by omega⟩, ⟨by omega, by omega⟩, h, (lv_sub hl_8 [1, 2, 3, 4, 0] rfl)⟩
    · skip
      refine lv_if_ne (tgt := 98) hx hb dX0_shareOf_17 (by decide) (fun c_9 => ?_) (fun c_9 => ?_)
      · replace c_9 := i_ne (x := z_6) (y := 0) rfl (show (0 : Int32).toInt = 0 by decide) c_9
        exact J_98 _ _ _ _ ⟨v5_3_1, ⟨by omega, by omega⟩, rfl, h, (lv_sub hl [0, 1, 2, 3, 4] rfl)⟩
      · replace c_9 := i_eq (x := z_6) (y := 0) rfl (show (0 : Int32).toInt = 0 by decide) c_9
        refine lv_aload_n hx hb dX0_shareOf_20 rfl (lv_at hl 0 rfl) ?_
        refine q_get X hK h 1 rfl rfl wf_0 2 (by decide) rfl wm_1_201 dX0_shareOf_21 ?_
        refine lv_iload hx hb dX0_shareOf_24 (lv_at hl 4 rfl) ?_
        refine q_iald X hK h 2 rfl (i_in rfl (by omega) (by omega)) dX0_shareOf_26 ?_
        refine q_any (fun z_10 hz_10 => ?_)
        refine lv_if_le (tgt := 98) hx hb dX0_shareOf_27 (by decide) (fun c_11 => ?_) (fun c_11 => ?_)
        · replace c_11 := i_le (x := z_10) (y := 0) rfl (show (0 : Int32).toInt = 0 by decide) c_11
          exact J_98 _ _ _ _ ⟨v5_3_1, ⟨by omega, by omega⟩, rfl, h, (lv_sub hl [0, 1, 2, 3, 4] rfl)⟩
        · replace c_11 := i_nle (x := z_10) (y := 0) rfl (show (0 : Int32).toInt = 0 by decide) c_11
          refine lv_lconst (v := 1) hx hb dX0_shareOf_30 (by decide) ?_
          refine lv_lstore (lv' := [(6, .long 1), (0, .ref h1), (1, .int p0), (2, .ref h0), (3, .long v5_3_1), (5, .int v5_3_0)]) hx hb dX0_shareOf_31 hl (by decide) rfl (fun ls_12 hl_12 => ?_)
          clear hl
          refine lv_iconst (v := 0) hx hb dX0_shareOf_33 (by decide) ?_
          refine lv_istore (lv' := [(8, .int 0), (6, .long 1), (0, .ref h1), (1, .int p0), (2, .ref h0), (3, .long v5_3_1), (5, .int v5_3_0)]) hx hb dX0_shareOf_34 hl_12 (by decide) rfl (fun ls_13 hl_13 => ?_)
          clear hl_12
          refine q_wl (fun (q : Int32 × Int64) H locs ls => match q with | (v36_14_0, v36_14_1) => (0 ≤ (v36_14_0).toInt ∧ (v36_14_0).toInt ≤ 10) ∧ ((-9223372036854775808) ≤ (v36_14_1).toInt ∧ (v36_14_1).toInt ≤ 9223372036854775807) ∧ qW D (va_A [(h0, .inl (cy 1, 10, .inl f0)), (h1, .inr (0, [.int p1, w0, .ref h2, w1])), (h2, .inl (cy 1, 1024, .inl f1))] sz) s.heap [(h0, .inl (cy 1, 10, .inl f0)), (h1, .inr (0, [.int p1, w0, .ref h2, w1])), (h2, .inl (cy 1, 1024, .inl f1))] H locs ∧ lv_has ls 9 [(0, .ref h1), (1, .int p0), (2, .ref h0), (3, .long v5_3_1), (5, .int v5_3_0), (6, .long v36_14_1), (8, .int v36_14_0)]) (fun (q : Int32 × Int64) => match q with | (v36_14_0, v36_14_1) => (11 - (v36_14_0).toInt).toNat) (fun q_36 ih_36 H locs ls hP => ?_) (0, 1) ⟨⟨by decide +kernel, by decide +kernel⟩, ⟨by decide +kernel, by decide +kernel⟩, h, (lv_sub hl_13 [2, 3, 4, 5, 6, 1, 0] rfl)⟩
          obtain ⟨v36_14_0, v36_14_1⟩ := q_36
          obtain ⟨hv36_14_0, hv36_14_1, h, hl⟩ := hP
          refine lv_iload hx hb dX0_shareOf_36 (lv_at hl 6 rfl) ?_
          refine lv_aload_n hx hb dX0_shareOf_38 rfl (lv_at hl 0 rfl) ?_
          refine q_get X hK h 1 rfl rfl wf_0 0 (by decide) rfl wm_1_198 dX0_shareOf_39 ?_
          refine lv_icmp_ge (tgt := 93) hx hb dX0_shareOf_42 (by decide) (fun c_15 => ?_) (fun c_15 => ?_)
          · replace c_15 := i_le (x := p1) (y := v36_14_0) rfl rfl c_15
            refine lv_lload_n hx hb dX0_shareOf_93 rfl (lv_at hl 3 rfl) ?_
            refine lv_lload hx hb dX0_shareOf_94 (lv_at hl 5 rfl) ?_
            refine lv_ladd hx hb dX0_shareOf_96 ?_
            refine q_anyJ (fun z_16 hz_16 => ?_)
            refine lv_lstore_n (lv' := [(3, .long z_16), (0, .ref h1), (1, .int p0), (2, .ref h0), (5, .int v5_3_0), (6, .long v36_14_1), (8, .int v36_14_0)]) hx hb dX0_shareOf_97 rfl hl (by decide) rfl (fun ls_17 hl_17 => ?_)
            clear hl
            exact J_98 _ _ _ _ ⟨z_16, ⟨by omega, by omega⟩, rfl, h, (lv_sub hl_17 [1, 2, 3, 0, 4] rfl)⟩
          · replace c_15 := i_nle (x := p1) (y := v36_14_0) rfl rfl c_15
            refine lv_iload_n hx hb dX0_shareOf_45 rfl (lv_at hl 1 rfl) ?_
            refine lv_iload hx hb dX0_shareOf_46 (lv_at hl 6 rfl) ?_
            refine lv_ishr hx hb dX0_shareOf_48 ?_
            obtain ⟨z_18, ez_18, hz_18⟩ := e_shr (x := p0) v36_14_0 rfl (by omega)
            refine q_c z_18 ez_18 ?_
            clear ez_18
            refine lv_iconst (v := 1) hx hb dX0_shareOf_49 (by decide) ?_
            refine lv_iand hx hb dX0_shareOf_50 ?_
            obtain ⟨z_19, ez_19, hz_19⟩ := e_and2 (x := z_18) (y := 1) (show (1 : Int32).toInt = 1 by decide) (by omega)
            refine q_c z_19 ez_19 ?_
            clear ez_19
            refine lv_iconst (v := 1) hx hb dX0_shareOf_51 (by decide) ?_
            refine q_jn (pc2 := 87) (fun H locs ls st => ∃ v87_20_0 : Int64, ((-9223372036854775808) ≤ (v87_20_0).toInt ∧ (v87_20_0).toInt ≤ 9223372036854775807) ∧ st = [] ∧ qW D (va_A [(h0, .inl (cy 1, 10, .inl f0)), (h1, .inr (0, [.int p1, w0, .ref h2, w1])), (h2, .inl (cy 1, 1024, .inl f1))] sz) s.heap [(h0, .inl (cy 1, 10, .inl f0)), (h1, .inr (0, [.int p1, w0, .ref h2, w1])), (h2, .inl (cy 1, 1024, .inl f1))] H locs ∧ lv_has ls 9 [(0, .ref h1), (1, .int p0), (2, .ref h0), (3, .long v5_3_1), (5, .int v5_3_0), (6, .long v87_20_0), (8, .int v36_14_0)]) (fun H locs ls st hP => ?_) (fun J_87 => ?_)
            · obtain ⟨v87_20_0, hv87_20_0, rfl, h, hl⟩ := hP
              obtain ⟨z_21, ez_21, hz_21⟩ := e_add (x := v36_14_0) (y := Int32.ofInt 1) rfl (b := 1) (by decide) (by omega) (by omega)
              refine lv_iinc (v := z_21) (lv' := [(8, .int z_21), (0, .ref h1), (1, .int p0), (2, .ref h0), (3, .long v5_3_1), (5, .int v5_3_0), (6, .long v87_20_0)]) hx hb dX0_shareOf_87 hl (k := 6) rfl ez_21 (by decide) rfl (fun ls_21 hl_21 => ?_)
              clear hl
              refine lv_goto (tgt := 36) hx hb dX0_shareOf_90 (by decide) ?_
              exact ih_36 (z_21, v87_20_0) (by show (11 - (z_21).toInt).toNat < (11 - (v36_14_0).toInt).toNat; omega) _ _ _ ⟨⟨by omega, by omega⟩, ⟨by omega, by omega⟩, h, (lv_sub hl_21 [1, 2, 3, 4, 5, 6, 0] rfl)⟩
            · skip
              refine lv_icmp_ne (tgt := 87) hx hb dX0_shareOf_52 (by decide) (fun c_22 => ?_) (fun c_22 => ?_)
              · replace c_22 := i_ne (x := z_19) (y := 1) rfl (show (1 : Int32).toInt = 1 by decide) c_22
                exact J_87 _ _ _ _ ⟨v36_14_1, ⟨by omega, by omega⟩, rfl, h, (lv_sub hl [0, 1, 2, 3, 4, 5, 6] rfl)⟩
              · replace c_22 := i_eq (x := z_19) (y := 1) rfl (show (1 : Int32).toInt = 1 by decide) c_22
                refine lv_lload hx hb dX0_shareOf_55 (lv_at hl 5 rfl) ?_
                refine lv_iload hx hb dX0_shareOf_57 (lv_at hl 4 rfl) ?_
                refine lv_iload hx hb dX0_shareOf_59 (lv_at hl 6 rfl) ?_
                refine lv_ishr hx hb dX0_shareOf_61 ?_
                obtain ⟨z_23, ez_23, hz_23⟩ := e_shr (x := v5_3_0) v36_14_0 rfl (by omega)
                refine q_c z_23 ez_23 ?_
                clear ez_23
                refine lv_iconst (v := 1) hx hb dX0_shareOf_62 (by decide) ?_
                refine lv_iand hx hb dX0_shareOf_63 ?_
                obtain ⟨z_24, ez_24, hz_24⟩ := e_and2 (x := z_23) (y := 1) (show (1 : Int32).toInt = 1 by decide) (by omega)
                refine q_c z_24 ez_24 ?_
                clear ez_24
                refine lv_iconst (v := 1) hx hb dX0_shareOf_64 (by decide) ?_
                refine q_jn (pc2 := 84) (fun H locs ls st => ∃ v84_25_0 : Int64, (0 ≤ (v84_25_0).toInt ∧ (v84_25_0).toInt ≤ 10) ∧ st = [.long v84_25_0, .long v36_14_1] ∧ qW D (va_A [(h0, .inl (cy 1, 10, .inl f0)), (h1, .inr (0, [.int p1, w0, .ref h2, w1])), (h2, .inl (cy 1, 1024, .inl f1))] sz) s.heap [(h0, .inl (cy 1, 10, .inl f0)), (h1, .inr (0, [.int p1, w0, .ref h2, w1])), (h2, .inl (cy 1, 1024, .inl f1))] H locs ∧ lv_has ls 9 [(0, .ref h1), (1, .int p0), (2, .ref h0), (3, .long v5_3_1), (5, .int v5_3_0), (6, .long v36_14_1), (8, .int v36_14_0)]) (fun H locs ls st hP => ?_) (fun J_84 => ?_)
                · obtain ⟨v84_25_0, hv84_25_0, rfl, h, hl⟩ := hP
                  refine lv_lmul hx hb dX0_shareOf_84 ?_
                  refine q_anyJ (fun z_26 hz_26 => ?_)
                  refine lv_lstore (lv' := [(6, .long z_26), (0, .ref h1), (1, .int p0), (2, .ref h0), (3, .long v5_3_1), (5, .int v5_3_0), (8, .int v36_14_0)]) hx hb dX0_shareOf_85 hl (by decide) rfl (fun ls_27 hl_27 => ?_)
                  clear hl
                  exact J_87 _ _ _ _ ⟨z_26, ⟨by omega, by omega⟩, rfl, h, (lv_sub hl_27 [1, 2, 3, 4, 5, 0, 6] rfl)⟩
                · skip
                  refine lv_icmp_ne (tgt := 76) hx hb dX0_shareOf_65 (by decide) (fun c_28 => ?_) (fun c_28 => ?_)
                  · replace c_28 := i_ne (x := z_24) (y := 1) rfl (show (1 : Int32).toInt = 1 by decide) c_28
                    refine lv_bipush (v := 10) hx hb dX0_shareOf_76 (by decide) ?_
                    refine lv_aload_n hx hb dX0_shareOf_78 rfl (lv_at hl 2 rfl) ?_
                    refine lv_iload hx hb dX0_shareOf_79 (lv_at hl 6 rfl) ?_
                    refine q_iald X hK h 0 rfl (i_in rfl (by omega) (by omega)) dX0_shareOf_81 ?_
                    obtain ⟨z_29, ez_29, hz_29⟩ := rg_get rf0 (x := v36_14_0) rfl (by omega) (by omega)
                    refine q_c z_29 ez_29 ?_
                    clear ez_29
                    refine lv_isub hx hb dX0_shareOf_82 ?_
                    obtain ⟨z_30, ez_30, hz_30⟩ := e_sub (x := 10) (y := z_29) (show (10 : Int32).toInt = 10 by decide) rfl (by omega) (by omega)
                    refine q_c z_30 ez_30 ?_
                    clear ez_30
                    refine lv_i2l hx hb dX0_shareOf_83 rfl ?_
                    obtain ⟨z_31, ez_31, hz_31⟩ := e_i2l (x := z_30) rfl
                    refine q_cl z_31 ez_31 ?_
                    clear ez_31
                    exact J_84 _ _ _ _ ⟨z_31, ⟨by omega, by omega⟩, rfl, h, (lv_sub hl [0, 1, 2, 3, 4, 5, 6] rfl)⟩
                  · replace c_28 := i_eq (x := z_24) (y := 1) rfl (show (1 : Int32).toInt = 1 by decide) c_28
                    refine lv_aload_n hx hb dX0_shareOf_68 rfl (lv_at hl 2 rfl) ?_
                    refine lv_iload hx hb dX0_shareOf_69 (lv_at hl 6 rfl) ?_
                    refine q_iald X hK h 0 rfl (i_in rfl (by omega) (by omega)) dX0_shareOf_71 ?_
                    obtain ⟨z_32, ez_32, hz_32⟩ := rg_get rf0 (x := v36_14_0) rfl (by omega) (by omega)
                    refine q_c z_32 ez_32 ?_
                    clear ez_32
                    refine lv_i2l hx hb dX0_shareOf_72 rfl ?_
                    obtain ⟨z_33, ez_33, hz_33⟩ := e_i2l (x := z_32) rfl
                    refine q_cl z_33 ez_33 ?_
                    clear ez_33
                    refine lv_goto (tgt := 84) hx hb dX0_shareOf_73 (by decide) ?_
                    exact J_84 _ _ _ _ ⟨z_33, ⟨by omega, by omega⟩, rfl, h, (lv_sub hl [0, 1, 2, 3, 4, 5, 6] rfl)⟩
set_option maxHeartbeats 4000000 in
set_option maxRecDepth 100000 in
theorem gX0_worthWith_91 (l : Launch) (D : va_G) (cy : Nat → ClassId) (h0 : Nat) (h1 : Nat) (h2 : Nat) (p0 : Int32) (p1 : Int32) (p2 : Int32) (f0 : Nat → Int32) (p3 : Int32) (w0 : Value) (w1 : Value) (f1 : Nat → Int32) (hp0 : 0 ≤ (p0).toInt ∧ (p0).toInt ≤ 9) (hp1 : 1 ≤ (p1).toInt ∧ (p1).toInt ≤ 9) (hp2 : 0 ≤ (p2).toInt ∧ (p2).toInt ≤ 1023) (hp3 : 2 ≤ (p3).toInt ∧ (p3).toInt ≤ 10) (rf0 : RG f0 10 0 99) (sz : Nat) : MI l yX0_worthWith cX0_worthWith 5 .int { frames := 0, cells := 0, slots := 0, locals := 0 } [.ref h1, .int p0, .int p1, .int p2, .ref h0] D cy [(h0, .inl (cy 1, 10, .inl f0)), (h1, .inr (0, [.int p3, w0, w1, .ref h2])), (h2, .inl (cy 1, 1024, .inl f1))] sz (fun r u => ((-2147483648) ≤ r.toInt ∧ r.toInt ≤ 2147483647) ∧ True) (fun u => [(h0, .inl (cy 1, 10, .inl f0)), (h1, .inr (0, [.int p3, w0, w1, .ref h2])), (h2, .inl (cy 1, 1024, .inl f1))]) 0 0 := by
  refine q_ent (own := RX0) (by decide) rfl (Nat.le_of_ble_eq_true rfl) (fun p e s m below meth c ls X hr hlk hnm hK h hA hl => ?_)
  obtain ⟨hx, hb, hml, hown, ht⟩ := id X
  replace hl : lv_has ls 5 [(0, .ref h1), (1, .int p0), (2, .int p1), (3, .int p2), (4, .ref h0)] := hl
  refine lv_aload_n hx hb dX0_worthWith_0 rfl (lv_at hl 0 rfl) ?_
  refine q_get X hK h 1 rfl rfl wf_0 3 (by decide) rfl wm_1_203 dX0_worthWith_1 ?_
  refine lv_iload_n hx hb dX0_worthWith_4 rfl (lv_at hl 3 rfl) ?_
  refine lv_iconst (v := 1) hx hb dX0_worthWith_5 (by decide) ?_
  refine lv_iload_n hx hb dX0_worthWith_6 rfl (lv_at hl 1 rfl) ?_
  refine lv_ishl hx hb dX0_worthWith_7 ?_
  obtain ⟨z_1, ez_1, hz_1⟩ := e_shlk (p := p0) 9 (by decide) rfl (by omega) (by omega)
  refine q_c z_1 ez_1 ?_
  clear ez_1
  refine lv_iconst (v := 1) hx hb dX0_worthWith_8 (by decide) ?_
  refine lv_iload_n hx hb dX0_worthWith_9 rfl (lv_at hl 2 rfl) ?_
  refine lv_ishl hx hb dX0_worthWith_10 ?_
  obtain ⟨z_2, ez_2, hz_2⟩ := e_shlk (p := p1) 9 (by decide) rfl (by omega) (by omega)
  refine q_c z_2 ez_2 ?_
  clear ez_2
  refine lv_ior hx hb dX0_worthWith_11 ?_
  obtain ⟨z_3, ez_3, hz_3⟩ := e_or (x := z_1) (y := z_2) 10 (by decide) rfl rfl (by omega) (by omega) (by omega) (by omega)
  refine q_c z_3 ez_3 ?_
  clear ez_3
  refine lv_iconst (v := (-1)) hx hb dX0_worthWith_12 (by decide) ?_
  refine lv_ixor hx hb dX0_worthWith_13 ?_
  refine q_any (fun z_4 hz_4 => ?_)
  refine lv_iand hx hb dX0_worthWith_14 ?_
  obtain ⟨z_5, ez_5, hz_5⟩ := e_and1 (x := p2) (y := z_4) rfl (by omega)
  refine q_c z_5 ez_5 ?_
  clear ez_5
  refine q_iald X hK h 2 rfl (i_in rfl (by omega) (by omega)) dX0_worthWith_15 ?_
  refine q_any (fun z_6 hz_6 => ?_)
  refine lv_sipush (v := 1000) hx hb dX0_worthWith_16 (by decide) ?_
  refine lv_iadd hx hb dX0_worthWith_19 ?_
  refine q_any (fun z_7 hz_7 => ?_)
  refine lv_aload hx hb dX0_worthWith_20 (lv_at hl 4 rfl) ?_
  refine lv_iload_n hx hb dX0_worthWith_22 rfl (lv_at hl 1 rfl) ?_
  refine q_iald X hK h 0 rfl (i_in rfl (by omega) (by omega)) dX0_worthWith_23 ?_
  obtain ⟨z_8, ez_8, hz_8⟩ := rg_get rf0 (x := p0) rfl (by omega) (by omega)
  refine q_c z_8 ez_8 ?_
  clear ez_8
  refine lv_iadd hx hb dX0_worthWith_24 ?_
  refine q_any (fun z_9 hz_9 => ?_)
  refine lv_aload hx hb dX0_worthWith_25 (lv_at hl 4 rfl) ?_
  refine lv_iload_n hx hb dX0_worthWith_27 rfl (lv_at hl 2 rfl) ?_
  refine q_iald X hK h 0 rfl (i_in rfl (by omega) (by omega)) dX0_worthWith_28 ?_
  obtain ⟨z_10, ez_10, hz_10⟩ := rg_get rf0 (x := p1) rfl (by omega) (by omega)
  refine q_c z_10 ez_10 ?_
  clear ez_10
  refine lv_iadd hx hb dX0_worthWith_29 ?_
  refine q_any (fun z_11 hz_11 => ?_)
  exact q_iret X hr hlk hK h rfl (fun _ => 0, fun _ _ => 0, fun _ _ => 0) ⟨⟨by omega, by omega⟩, trivial⟩ [0, 1, 2] rfl rfl dX0_worthWith_30 (Nat.le_of_ble_eq_true rfl) (Nat.le_of_ble_eq_true rfl)
set_option maxHeartbeats 4000000 in
set_option maxRecDepth 100000 in
theorem gX0_firstPartner_99 (l : Launch) (D : va_G) (cy : Nat → ClassId) (h0 : Nat) (h1 : Nat) (h2 : Nat) (h3 : Nat) (p0 : Int32) (p1 : Int32) (f0 : Nat → Int32) (p2 : Int32) (w0 : Value) (f1 : Nat → Int32) (f2 : Nat → Int32) (hp0 : 0 ≤ (p0).toInt ∧ (p0).toInt ≤ 9) (hp1 : 0 ≤ (p1).toInt ∧ (p1).toInt ≤ 1023) (hp2 : 1 ≤ (p2).toInt ∧ (p2).toInt ≤ 10) (rf0 : RG f0 10 0 99) (rf1 : RG f1 10 0 1023) (sz : Nat) : MI l yX0_firstPartner cX0_firstPartner 6 .int { frames := 1, cells := 0, slots := 0, locals := 24 } [.ref h1, .int p0, .int p1, .ref h0] D cy [(h0, .inl (cy 1, 10, .inl f0)), (h1, .inr (0, [.int p2, .ref h2, w0, .ref h3])), (h2, .inl (cy 1, 10, .inl f1)), (h3, .inl (cy 1, 1024, .inl f2))] sz (fun r u => ((-1) ≤ r.toInt ∧ r.toInt ≤ 9) ∧ True) (fun u => [(h0, .inl (cy 1, 10, .inl f0)), (h1, .inr (0, [.int p2, .ref h2, w0, .ref h3])), (h2, .inl (cy 1, 10, .inl f1)), (h3, .inl (cy 1, 1024, .inl f2))]) 0 0 := by
  refine q_ent (own := RX0) (by decide) rfl (Nat.le_of_ble_eq_true rfl) (fun p e s m below meth c ls X hr hlk hnm hK h hA hl => ?_)
  obtain ⟨hx, hb, hml, hown, ht⟩ := id X
  replace hl : lv_has ls 6 [(0, .ref h1), (1, .int p0), (2, .int p1), (3, .ref h0)] := hl
  refine lv_aload_n hx hb dX0_firstPartner_0 rfl (lv_at hl 0 rfl) ?_
  refine q_get X hK h 1 rfl rfl wf_0 1 (by decide) rfl wm_1_199 dX0_firstPartner_1 ?_
  refine lv_iload_n hx hb dX0_firstPartner_4 rfl (lv_at hl 1 rfl) ?_
  refine q_iald X hK h 2 rfl (i_in rfl (by omega) (by omega)) dX0_firstPartner_5 ?_
  obtain ⟨z_1, ez_1, hz_1⟩ := rg_get rf1 (x := p0) rfl (by omega) (by omega)
  refine q_c z_1 ez_1 ?_
  clear ez_1
  refine lv_iload_n hx hb dX0_firstPartner_6 rfl (lv_at hl 2 rfl) ?_
  refine lv_iand hx hb dX0_firstPartner_7 ?_
  obtain ⟨z_2, ez_2, hz_2⟩ := e_and2 (x := z_1) (y := p1) rfl (by omega)
  refine q_c z_2 ez_2 ?_
  clear ez_2
  refine lv_istore (lv' := [(4, .int z_2), (0, .ref h1), (1, .int p0), (2, .int p1), (3, .ref h0)]) hx hb dX0_firstPartner_8 hl (by decide) rfl (fun ls_3 hl_3 => ?_)
  clear hl
  refine lv_iload_n hx hb dX0_firstPartner_10 rfl (lv_at hl_3 2 rfl) ?_
  refine lv_iconst (v := 1) hx hb dX0_firstPartner_11 (by decide) ?_
  refine lv_iadd hx hb dX0_firstPartner_12 ?_
  obtain ⟨z_4, ez_4, hz_4⟩ := e_add (x := p0) (y := 1) rfl (show (1 : Int32).toInt = 1 by decide) (by omega) (by omega)
  refine q_c z_4 ez_4 ?_
  clear ez_4
  refine lv_istore (lv' := [(5, .int z_4), (4, .int z_2), (0, .ref h1), (1, .int p0), (2, .int p1), (3, .ref h0)]) hx hb dX0_firstPartner_13 hl_3 (by decide) rfl (fun ls_5 hl_5 => ?_)
  clear hl_3
  refine q_wl (fun (v15_6_0 : Int32) H locs ls => (1 ≤ (v15_6_0).toInt ∧ (v15_6_0).toInt ≤ 10) ∧ qW D (va_A [(h0, .inl (cy 1, 10, .inl f0)), (h1, .inr (0, [.int p2, .ref h2, w0, .ref h3])), (h2, .inl (cy 1, 10, .inl f1)), (h3, .inl (cy 1, 1024, .inl f2))] sz) s.heap [(h0, .inl (cy 1, 10, .inl f0)), (h1, .inr (0, [.int p2, .ref h2, w0, .ref h3])), (h2, .inl (cy 1, 10, .inl f1)), (h3, .inl (cy 1, 1024, .inl f2))] H locs ∧ lv_has ls 6 [(0, .ref h1), (1, .int p0), (2, .int p1), (3, .ref h0), (4, .int z_2), (5, .int v15_6_0)]) (fun (v15_6_0 : Int32) => (11 - (v15_6_0).toInt).toNat) (fun q_15 ih_15 H locs ls hP => ?_) z_4 ⟨⟨by omega, by omega⟩, h, (lv_sub hl_5 [2, 3, 4, 5, 1, 0] rfl)⟩
  obtain ⟨v15_6_0, rfl⟩ : ∃ z, z = q_15 := ⟨_, rfl⟩
  obtain ⟨hv15_6_0, h, hl⟩ := hP
  refine lv_iload hx hb dX0_firstPartner_15 (lv_at hl 5 rfl) ?_
  refine lv_aload_n hx hb dX0_firstPartner_17 rfl (lv_at hl 0 rfl) ?_
  refine q_get X hK h 1 rfl rfl wf_0 0 (by decide) rfl wm_1_198 dX0_firstPartner_18 ?_
  refine lv_icmp_ge (tgt := 62) hx hb dX0_firstPartner_21 (by decide) (fun c_7 => ?_) (fun c_7 => ?_)
  · replace c_7 := i_le (x := p2) (y := v15_6_0) rfl rfl c_7
    refine lv_iconst (v := (-1)) hx hb dX0_firstPartner_62 (by decide) ?_
    exact q_iret X hr hlk hK h rfl (fun _ => 0, fun _ _ => 0, fun _ _ => 0) ⟨⟨by decide +kernel, by decide +kernel⟩, trivial⟩ [0, 1, 2, 3] rfl rfl dX0_firstPartner_63 (Nat.le_of_ble_eq_true rfl) (Nat.le_of_ble_eq_true rfl)
  · replace c_7 := i_nle (x := p2) (y := v15_6_0) rfl rfl c_7
    refine lv_iload hx hb dX0_firstPartner_24 (lv_at hl 4 rfl) ?_
    refine lv_iload hx hb dX0_firstPartner_26 (lv_at hl 5 rfl) ?_
    refine lv_ishr hx hb dX0_firstPartner_28 ?_
    obtain ⟨z_8, ez_8, hz_8⟩ := e_shr (x := z_2) v15_6_0 rfl (by omega)
    refine q_c z_8 ez_8 ?_
    clear ez_8
    refine lv_iconst (v := 1) hx hb dX0_firstPartner_29 (by decide) ?_
    refine lv_iand hx hb dX0_firstPartner_30 ?_
    obtain ⟨z_9, ez_9, hz_9⟩ := e_and2 (x := z_8) (y := 1) (show (1 : Int32).toInt = 1 by decide) (by omega)
    refine q_c z_9 ez_9 ?_
    clear ez_9
    refine lv_iconst (v := 1) hx hb dX0_firstPartner_31 (by decide) ?_
    refine q_jn (pc2 := 56) (fun H locs ls st => st = [] ∧ qW D (va_A [(h0, .inl (cy 1, 10, .inl f0)), (h1, .inr (0, [.int p2, .ref h2, w0, .ref h3])), (h2, .inl (cy 1, 10, .inl f1)), (h3, .inl (cy 1, 1024, .inl f2))] sz) s.heap [(h0, .inl (cy 1, 10, .inl f0)), (h1, .inr (0, [.int p2, .ref h2, w0, .ref h3])), (h2, .inl (cy 1, 10, .inl f1)), (h3, .inl (cy 1, 1024, .inl f2))] H locs ∧ lv_has ls 6 [(0, .ref h1), (1, .int p0), (2, .int p1), (3, .ref h0), (4, .int z_2), (5, .int v15_6_0)]) (fun H locs ls st hP => ?_) (fun J_56 => ?_)
    · obtain ⟨rfl, h, hl⟩ := hP
      obtain ⟨z_11, ez_11, hz_11⟩ := e_add (x := v15_6_0) (y := Int32.ofInt 1) rfl (b := 1) (by decide) (by omega) (by omega)
      refine lv_iinc (v := z_11) (lv' := [(5, .int z_11), (0, .ref h1), (1, .int p0), (2, .int p1), (3, .ref h0), (4, .int z_2)]) hx hb dX0_firstPartner_56 hl (k := 5) rfl ez_11 (by decide) rfl (fun ls_11 hl_11 => ?_)
      clear hl
      refine lv_goto (tgt := 15) hx hb dX0_firstPartner_59 (by decide) ?_
      exact ih_15 z_11 (by show (11 - (z_11).toInt).toNat < (11 - (v15_6_0).toInt).toNat; omega) _ _ _ ⟨⟨by omega, by omega⟩, h, (lv_sub hl_11 [1, 2, 3, 4, 5, 0] rfl)⟩
    · skip
      refine lv_icmp_ne (tgt := 56) hx hb dX0_firstPartner_32 (by decide) (fun c_12 => ?_) (fun c_12 => ?_)
      · replace c_12 := i_ne (x := z_9) (y := 1) rfl (show (1 : Int32).toInt = 1 by decide) c_12
        exact J_56 _ _ _ _ ⟨rfl, h, (lv_sub hl [0, 1, 2, 3, 4, 5] rfl)⟩
      · replace c_12 := i_eq (x := z_9) (y := 1) rfl (show (1 : Int32).toInt = 1 by decide) c_12
        refine lv_aload_n hx hb dX0_firstPartner_35 rfl (lv_at hl 0 rfl) ?_
        refine lv_iload_n hx hb dX0_firstPartner_36 rfl (lv_at hl 1 rfl) ?_
        refine lv_iload hx hb dX0_firstPartner_37 (lv_at hl 5 rfl) ?_
        refine lv_iload_n hx hb dX0_firstPartner_39 rfl (lv_at hl 2 rfl) ?_
        refine lv_aload_n hx hb dX0_firstPartner_40 rfl (lv_at hl 3 rfl) ?_
        refine q_callVi (rest := []) (wr := [(h2, .inl (cy 1, 10, .inl f1))]) X hK hA h (fun sz => gX0_worthWith_91 l D cy h0 h1 h3 p0 v15_6_0 p1 f0 p2 (.ref h2) w0 f2 ⟨by omega, by omega⟩ ⟨by omega, by omega⟩ ⟨by omega, by omega⟩ ⟨by omega, by omega⟩ (rg_wide rf0 (by decide) (by decide)) sz) wm_4_157 wm_4_160 wm_1_6 hd_X0_worthWith wm_4_159 wp_3_6 (ci := 0) (q0 := 1) rfl rfl ⟨Nat.le_of_ble_eq_true rfl, Nat.le_of_ble_eq_true rfl⟩ hl.1 rfl (Nat.le_of_ble_eq_true rfl) dX0_firstPartner_41 ⟨Nat.le_of_ble_eq_true rfl, Nat.le_of_ble_eq_true rfl⟩ [0, 1, 3] [2] rfl rfl (by decide) rfl rfl (fun r_13 u_13 H locs w_13 h_13 => ?_)
        clear h
        obtain ⟨wr_13, _⟩ := w_13
        replace h_13 : qW D _ _ [(h2, .inl (cy 1, 10, .inl f1)), (h0, .inl (cy 1, 10, .inl f0)), (h1, .inr (0, [.int p2, .ref h2, w0, .ref h3])), (h3, .inl (cy 1, 1024, .inl f2))] _ _ := h_13
        refine lv_aload_n hx hb dX0_firstPartner_44 rfl (lv_at hl 0 rfl) ?_
        refine q_get X hK h_13 2 rfl rfl wf_0 3 (by decide) rfl wm_1_203 dX0_firstPartner_45 ?_
        refine lv_iload_n hx hb dX0_firstPartner_48 rfl (lv_at hl 2 rfl) ?_
        refine q_iald X hK h_13 3 rfl (i_in rfl (by omega) (by omega)) dX0_firstPartner_49 ?_
        refine q_any (fun z_14 hz_14 => ?_)
        refine lv_icmp_ne (tgt := 56) hx hb dX0_firstPartner_50 (by decide) (fun c_15 => ?_) (fun c_15 => ?_)
        · replace c_15 := i_ne (x := r_13) (y := z_14) rfl rfl c_15
          exact J_56 _ _ _ _ ⟨rfl, (q_re h_13 [1, 2, 0, 3] rfl rfl), (lv_sub hl [0, 1, 2, 3, 4, 5] rfl)⟩
        · replace c_15 := i_eq (x := r_13) (y := z_14) rfl rfl c_15
          refine lv_iload hx hb dX0_firstPartner_53 (lv_at hl 5 rfl) ?_
          exact q_iret X hr hlk hK h_13 rfl (fun _ => 0, fun _ _ => 0, fun _ _ => 0) ⟨⟨by omega, by omega⟩, trivial⟩ [1, 2, 0, 3] rfl rfl dX0_firstPartner_55 (Nat.le_of_ble_eq_true rfl) (Nat.le_of_ble_eq_true rfl)
set_option maxHeartbeats 4000000 in
set_option maxRecDepth 100000 in
theorem gX0_partnerOf_100 (l : Launch) (D : va_G) (cy : Nat → ClassId) (h0 : Nat) (h1 : Nat) (h2 : Nat) (h3 : Nat) (p0 : Int32) (p1 : Int32) (f0 : Nat → Int32) (p2 : Int32) (w0 : Value) (f1 : Nat → Int32) (f2 : Nat → Int32) (hp0 : 0 ≤ (p0).toInt ∧ (p0).toInt ≤ 9) (hp1 : 0 ≤ (p1).toInt ∧ (p1).toInt ≤ 1023) (hp2 : 0 ≤ (p2).toInt ∧ (p2).toInt ≤ 10) (rf0 : RG f0 10 0 99) (rf1 : RG f1 10 0 1023) (sz : Nat) : MI l yX0_partnerOf cX0_partnerOf 7 .int { frames := 2, cells := 0, slots := 0, locals := 49 } [.ref h1, .int p0, .int p1, .ref h0] D cy [(h0, .inl (cy 1, 10, .inl f0)), (h1, .inr (0, [.int p2, .ref h2, w0, .ref h3])), (h2, .inl (cy 1, 10, .inl f1)), (h3, .inl (cy 1, 1024, .inl f2))] sz (fun r u => ((-1) ≤ r.toInt ∧ r.toInt ≤ 9) ∧ True) (fun u => [(h0, .inl (cy 1, 10, .inl f0)), (h1, .inr (0, [.int p2, .ref h2, w0, .ref h3])), (h2, .inl (cy 1, 10, .inl f1)), (h3, .inl (cy 1, 1024, .inl f2))]) 0 0 := by
  refine q_ent (own := RX0) (by decide) rfl (Nat.le_of_ble_eq_true rfl) (fun p e s m below meth c ls X hr hlk hnm hK h hA hl => ?_)
  obtain ⟨hx, hb, hml, hown, ht⟩ := id X
  replace hl : lv_has ls 7 [(0, .ref h1), (1, .int p0), (2, .int p1), (3, .ref h0)] := hl
  refine lv_iload_n hx hb dX0_partnerOf_0 rfl (lv_at hl 2 rfl) ?_
  refine lv_istore (lv' := [(4, .int p1), (0, .ref h1), (1, .int p0), (2, .int p1), (3, .ref h0)]) hx hb dX0_partnerOf_1 hl (by decide) rfl (fun ls_1 hl_1 => ?_)
  clear hl
  refine lv_iconst (v := 0) hx hb dX0_partnerOf_3 (by decide) ?_
  refine lv_istore (lv' := [(5, .int 0), (4, .int p1), (0, .ref h1), (1, .int p0), (2, .int p1), (3, .ref h0)]) hx hb dX0_partnerOf_4 hl_1 (by decide) rfl (fun ls_2 hl_2 => ?_)
  clear hl_1
  refine q_wl (fun (q : Int32 × Int32) H locs ls => match q with | (v6_3_0, v6_3_1) => (0 ≤ (v6_3_0).toInt ∧ (v6_3_0).toInt ≤ 10) ∧ (0 ≤ (v6_3_1).toInt ∧ (v6_3_1).toInt ≤ 1023) ∧ qW D (va_A [(h0, .inl (cy 1, 10, .inl f0)), (h1, .inr (0, [.int p2, .ref h2, w0, .ref h3])), (h2, .inl (cy 1, 10, .inl f1)), (h3, .inl (cy 1, 1024, .inl f2))] sz) s.heap [(h0, .inl (cy 1, 10, .inl f0)), (h1, .inr (0, [.int p2, .ref h2, w0, .ref h3])), (h2, .inl (cy 1, 10, .inl f1)), (h3, .inl (cy 1, 1024, .inl f2))] H locs ∧ lv_has ls 7 [(0, .ref h1), (1, .int p0), (2, .int p1), (3, .ref h0), (4, .int v6_3_1), (5, .int v6_3_0)]) (fun (q : Int32 × Int32) => match q with | (v6_3_0, v6_3_1) => (11 - (v6_3_0).toInt).toNat) (fun q_6 ih_6 H locs ls hP => ?_) (0, p1) ⟨⟨by decide +kernel, by decide +kernel⟩, ⟨by omega, by omega⟩, h, (lv_sub hl_2 [2, 3, 4, 5, 1, 0] rfl)⟩
  obtain ⟨v6_3_0, v6_3_1⟩ := q_6
  obtain ⟨hv6_3_0, hv6_3_1, h, hl⟩ := hP
  refine lv_iload hx hb dX0_partnerOf_6 (lv_at hl 5 rfl) ?_
  refine lv_aload_n hx hb dX0_partnerOf_8 rfl (lv_at hl 0 rfl) ?_
  refine q_get X hK h 1 rfl rfl wf_0 0 (by decide) rfl wm_1_198 dX0_partnerOf_9 ?_
  refine lv_icmp_ge (tgt := 89) hx hb dX0_partnerOf_12 (by decide) (fun c_4 => ?_) (fun c_4 => ?_)
  · replace c_4 := i_le (x := p2) (y := v6_3_0) rfl rfl c_4
    refine lv_iconst (v := (-1)) hx hb dX0_partnerOf_89 (by decide) ?_
    exact q_iret X hr hlk hK h rfl (fun _ => 0, fun _ _ => 0, fun _ _ => 0) ⟨⟨by decide +kernel, by decide +kernel⟩, trivial⟩ [0, 1, 2, 3] rfl rfl dX0_partnerOf_90 (Nat.le_of_ble_eq_true rfl) (Nat.le_of_ble_eq_true rfl)
  · replace c_4 := i_nle (x := p2) (y := v6_3_0) rfl rfl c_4
    refine lv_iload hx hb dX0_partnerOf_15 (lv_at hl 4 rfl) ?_
    refine lv_iload hx hb dX0_partnerOf_17 (lv_at hl 5 rfl) ?_
    refine lv_ishr hx hb dX0_partnerOf_19 ?_
    obtain ⟨z_5, ez_5, hz_5⟩ := e_shr (x := v6_3_1) v6_3_0 rfl (by omega)
    refine q_c z_5 ez_5 ?_
    clear ez_5
    refine lv_iconst (v := 1) hx hb dX0_partnerOf_20 (by decide) ?_
    refine lv_iand hx hb dX0_partnerOf_21 ?_
    obtain ⟨z_6, ez_6, hz_6⟩ := e_and2 (x := z_5) (y := 1) (show (1 : Int32).toInt = 1 by decide) (by omega)
    refine q_c z_6 ez_6 ?_
    clear ez_6
    refine lv_iconst (v := 1) hx hb dX0_partnerOf_22 (by decide) ?_
    refine q_jn (pc2 := 83) (fun H locs ls st => ∃ v83_7_0 : Int32, (0 ≤ (v83_7_0).toInt ∧ (v83_7_0).toInt ≤ 1023) ∧ st = [] ∧ qW D (va_A [(h0, .inl (cy 1, 10, .inl f0)), (h1, .inr (0, [.int p2, .ref h2, w0, .ref h3])), (h2, .inl (cy 1, 10, .inl f1)), (h3, .inl (cy 1, 1024, .inl f2))] sz) s.heap [(h0, .inl (cy 1, 10, .inl f0)), (h1, .inr (0, [.int p2, .ref h2, w0, .ref h3])), (h2, .inl (cy 1, 10, .inl f1)), (h3, .inl (cy 1, 1024, .inl f2))] H locs ∧ lv_has ls 7 [(0, .ref h1), (1, .int p0), (2, .int p1), (3, .ref h0), (4, .int v83_7_0), (5, .int v6_3_0)]) (fun H locs ls st hP => ?_) (fun J_83 => ?_)
    · obtain ⟨v83_7_0, hv83_7_0, rfl, h, hl⟩ := hP
      obtain ⟨z_8, ez_8, hz_8⟩ := e_add (x := v6_3_0) (y := Int32.ofInt 1) rfl (b := 1) (by decide) (by omega) (by omega)
      refine lv_iinc (v := z_8) (lv' := [(5, .int z_8), (0, .ref h1), (1, .int p0), (2, .int p1), (3, .ref h0), (4, .int v83_7_0)]) hx hb dX0_partnerOf_83 hl (k := 5) rfl ez_8 (by decide) rfl (fun ls_8 hl_8 => ?_)
      clear hl
      refine lv_goto (tgt := 6) hx hb dX0_partnerOf_86 (by decide) ?_
      exact ih_6 (z_8, v83_7_0) (by show (11 - (z_8).toInt).toNat < (11 - (v6_3_0).toInt).toNat; omega) _ _ _ ⟨⟨by omega, by omega⟩, ⟨by omega, by omega⟩, h, (lv_sub hl_8 [1, 2, 3, 4, 5, 0] rfl)⟩
    · skip
      refine lv_icmp_ne (tgt := 83) hx hb dX0_partnerOf_23 (by decide) (fun c_9 => ?_) (fun c_9 => ?_)
      · replace c_9 := i_ne (x := z_6) (y := 1) rfl (show (1 : Int32).toInt = 1 by decide) c_9
        exact J_83 _ _ _ _ ⟨v6_3_1, ⟨by omega, by omega⟩, rfl, h, (lv_sub hl [0, 1, 2, 3, 4, 5] rfl)⟩
      · replace c_9 := i_eq (x := z_6) (y := 1) rfl (show (1 : Int32).toInt = 1 by decide) c_9
        refine lv_aload_n hx hb dX0_partnerOf_26 rfl (lv_at hl 0 rfl) ?_
        refine lv_iload hx hb dX0_partnerOf_27 (lv_at hl 5 rfl) ?_
        refine lv_iload hx hb dX0_partnerOf_29 (lv_at hl 4 rfl) ?_
        refine lv_aload_n hx hb dX0_partnerOf_31 rfl (lv_at hl 3 rfl) ?_
        refine q_callVi (rest := []) (wr := []) X hK hA h (fun sz => gX0_firstPartner_99 l D cy h0 h1 h2 h3 v6_3_0 v6_3_1 f0 p2 w0 f1 f2 ⟨by omega, by omega⟩ ⟨by omega, by omega⟩ ⟨by omega, by omega⟩ (rg_wide rf0 (by decide) (by decide)) (rg_wide rf1 (by decide) (by decide)) sz) wm_4_174 wm_4_177 wm_1_6 hd_X0_firstPartner wm_4_176 wp_3_7 (ci := 0) (q0 := 1) rfl rfl ⟨Nat.le_of_ble_eq_true rfl, Nat.le_of_ble_eq_true rfl⟩ hl.1 rfl (Nat.le_of_ble_eq_true rfl) dX0_partnerOf_32 ⟨Nat.le_of_ble_eq_true rfl, Nat.le_of_ble_eq_true rfl⟩ [0, 1, 2, 3] [] rfl rfl (by decide) rfl rfl (fun r_10 u_10 H locs w_10 h_10 => ?_)
        clear h
        obtain ⟨wr_10, _⟩ := w_10
        replace h_10 : qW D _ _ [(h0, .inl (cy 1, 10, .inl f0)), (h1, .inr (0, [.int p2, .ref h2, w0, .ref h3])), (h2, .inl (cy 1, 10, .inl f1)), (h3, .inl (cy 1, 1024, .inl f2))] _ _ := h_10
        refine lv_istore (lv' := [(6, .int r_10), (0, .ref h1), (1, .int p0), (2, .int p1), (3, .ref h0), (4, .int v6_3_1), (5, .int v6_3_0)]) hx hb dX0_partnerOf_35 hl (by decide) rfl (fun ls_11 hl_11 => ?_)
        clear hl
        refine lv_iload hx hb dX0_partnerOf_37 (lv_at hl_11 6 rfl) ?_
        refine lv_iload_n hx hb dX0_partnerOf_39 rfl (lv_at hl_11 2 rfl) ?_
        refine lv_icmp_ne (tgt := 46) hx hb dX0_partnerOf_40 (by decide) (fun c_12 => ?_) (fun c_12 => ?_)
        · replace c_12 := i_ne (x := v6_3_0) (y := p0) rfl rfl c_12
          refine lv_iload hx hb dX0_partnerOf_46 (lv_at hl_11 0 rfl) ?_
          refine lv_iload_n hx hb dX0_partnerOf_48 rfl (lv_at hl_11 2 rfl) ?_
          refine lv_icmp_ne (tgt := 55) hx hb dX0_partnerOf_49 (by decide) (fun c_13 => ?_) (fun c_13 => ?_)
          · replace c_13 := i_ne (x := r_10) (y := p0) rfl rfl c_13
            refine lv_iload hx hb dX0_partnerOf_55 (lv_at hl_11 5 rfl) ?_
            refine lv_iconst (v := 1) hx hb dX0_partnerOf_57 (by decide) ?_
            refine lv_iload hx hb dX0_partnerOf_58 (lv_at hl_11 6 rfl) ?_
            refine lv_ishl hx hb dX0_partnerOf_60 ?_
            obtain ⟨z_14, ez_14, hz_14⟩ := e_shlk (p := v6_3_0) 9 (by decide) rfl (by omega) (by omega)
            refine q_c z_14 ez_14 ?_
            clear ez_14
            refine lv_iconst (v := (-1)) hx hb dX0_partnerOf_61 (by decide) ?_
            refine lv_ixor hx hb dX0_partnerOf_62 ?_
            refine q_any (fun z_15 hz_15 => ?_)
            refine lv_iand hx hb dX0_partnerOf_63 ?_
            obtain ⟨z_16, ez_16, hz_16⟩ := e_and1 (x := v6_3_1) (y := z_15) rfl (by omega)
            refine q_c z_16 ez_16 ?_
            clear ez_16
            refine lv_istore (lv' := [(4, .int z_16), (6, .int r_10), (0, .ref h1), (1, .int p0), (2, .int p1), (3, .ref h0), (5, .int v6_3_0)]) hx hb dX0_partnerOf_64 hl_11 (by decide) rfl (fun ls_17 hl_17 => ?_)
            clear hl_11
            refine lv_iload hx hb dX0_partnerOf_66 (lv_at hl_17 1 rfl) ?_
            refine lv_iconst (v := (-1)) hx hb dX0_partnerOf_68 (by decide) ?_
            refine lv_icmp_eq (tgt := 83) hx hb dX0_partnerOf_69 (by decide) (fun c_18 => ?_) (fun c_18 => ?_)
            · replace c_18 := i_eq (x := r_10) (y := (-1)) rfl (show ((-1) : Int32).toInt = -1 by decide) c_18
              exact J_83 _ _ _ _ ⟨z_16, ⟨by omega, by omega⟩, rfl, h_10, (lv_sub hl_17 [2, 3, 4, 5, 0, 6] rfl)⟩
            · replace c_18 := i_ne (x := r_10) (y := (-1)) rfl (show ((-1) : Int32).toInt = -1 by decide) c_18
              refine lv_iload hx hb dX0_partnerOf_72 (lv_at hl_17 0 rfl) ?_
              refine lv_iconst (v := 1) hx hb dX0_partnerOf_74 (by decide) ?_
              refine lv_iload hx hb dX0_partnerOf_75 (lv_at hl_17 1 rfl) ?_
              refine lv_ishl hx hb dX0_partnerOf_77 ?_
              obtain ⟨z_19, ez_19, hz_19⟩ := e_shlk (p := r_10) 9 (by decide) rfl (by omega) (by omega)
              refine q_c z_19 ez_19 ?_
              clear ez_19
              refine lv_iconst (v := (-1)) hx hb dX0_partnerOf_78 (by decide) ?_
              refine lv_ixor hx hb dX0_partnerOf_79 ?_
              refine q_any (fun z_20 hz_20 => ?_)
              refine lv_iand hx hb dX0_partnerOf_80 ?_
              obtain ⟨z_21, ez_21, hz_21⟩ := e_and1 (x := z_16) (y := z_20) rfl (by omega)
              refine q_c z_21 ez_21 ?_
              clear ez_21
              refine lv_istore (lv' := [(4, .int z_21), (6, .int r_10), (0, .ref h1), (1, .int p0), (2, .int p1), (3, .ref h0), (5, .int v6_3_0)]) hx hb dX0_partnerOf_81 hl_17 (by decide) rfl (fun ls_22 hl_22 => ?_)
              clear hl_17
              exact J_83 _ _ _ _ ⟨z_21, ⟨by omega, by omega⟩, rfl, h_10, (lv_sub hl_22 [2, 3, 4, 5, 0, 6] rfl)⟩
          · replace c_13 := i_eq (x := r_10) (y := p0) rfl rfl c_13
            refine lv_iload hx hb dX0_partnerOf_52 (lv_at hl_11 6 rfl) ?_
            exact q_iret X hr hlk hK h_10 rfl (fun _ => 0, fun _ _ => 0, fun _ _ => 0) ⟨⟨by omega, by omega⟩, trivial⟩ [0, 1, 2, 3] rfl rfl dX0_partnerOf_54 (Nat.le_of_ble_eq_true rfl) (Nat.le_of_ble_eq_true rfl)
        · replace c_12 := i_eq (x := v6_3_0) (y := p0) rfl rfl c_12
          refine lv_iload hx hb dX0_partnerOf_43 (lv_at hl_11 0 rfl) ?_
          exact q_iret X hr hlk hK h_10 rfl (fun _ => 0, fun _ _ => 0, fun _ _ => 0) ⟨⟨by omega, by omega⟩, trivial⟩ [0, 1, 2, 3] rfl rfl dX0_partnerOf_45 (Nat.le_of_ble_eq_true rfl) (Nat.le_of_ble_eq_true rfl)
set_option maxHeartbeats 4000000 in
set_option maxRecDepth 100000 in
theorem gJ7_fill_d0a16_101 (l : Launch) (D : va_G) (cy : Nat → ClassId) (h0 : Nat) (j0 : Int64) (g0 : Nat → Int64) (hj0 : 0 ≤ (j0).toInt ∧ (j0).toInt ≤ 0) (sz : Nat) : MV l yJ7_fill_d0a16 cJ7_fill_d0a16 5 { frames := 0, cells := 0, slots := 0, locals := 0 } [.ref h0, .long j0] D cy [(h0, .inl (cy 2, 40, .inr (.inl g0)))] sz (fun u => True) (fun u => [(h0, .inl (cy 2, 40, .inr (.inl (u.2.2 0))))]) 0 0 := by
  refine q_ent (own := RJ7) (by decide) rfl (Nat.le_of_ble_eq_true rfl) (fun p e s m below meth c ls X hr hlk hnm hK h hA hl => ?_)
  obtain ⟨hx, hb, hml, hown, ht⟩ := id X
  replace hl : lv_has ls 5 [(0, .ref h0), (1, .long j0)] := hl
  refine lv_iconst (v := 0) hx hb dJ7_fill_d0a16_0 (by decide) ?_
  refine lv_istore_n (lv' := [(3, .int 0), (0, .ref h0), (1, .long j0)]) hx hb dJ7_fill_d0a16_1 rfl hl (by decide) rfl (fun ls_1 hl_1 => ?_)
  clear hl
  refine lv_aload_n hx hb dJ7_fill_d0a16_2 rfl (lv_at hl_1 1 rfl) ?_
  refine q_alen X hK h 0 2 rfl rfl 40 (show Int32.ofNat 40 = 40 by decide) dJ7_fill_d0a16_3 ?_
  refine lv_istore (lv' := [(4, .int 40), (3, .int 0), (0, .ref h0), (1, .long j0)]) hx hb dJ7_fill_d0a16_4 hl_1 (by decide) rfl (fun ls_2 hl_2 => ?_)
  clear hl_1
  refine q_wl (fun (v6_3_0 : Int32) H locs ls => ∃ v6_3_1 : Nat → Int64, (0 ≤ (v6_3_0).toInt ∧ (v6_3_0).toInt ≤ 40) ∧ qW D (va_A [(h0, .inl (cy 2, 40, .inr (.inl g0)))] sz) s.heap [(h0, .inl (cy 2, 40, .inr (.inl v6_3_1)))] H locs ∧ lv_has ls 5 [(0, .ref h0), (1, .long j0), (3, .int v6_3_0), (4, .int 40)]) (fun (v6_3_0 : Int32) => (41 - (v6_3_0).toInt).toNat) (fun q_6 ih_6 H locs ls hP => ?_) 0 ⟨g0, ⟨by decide +kernel, by decide +kernel⟩, h, (lv_sub hl_2 [2, 3, 1, 0] rfl)⟩
  obtain ⟨v6_3_0, rfl⟩ : ∃ z, z = q_6 := ⟨_, rfl⟩
  obtain ⟨v6_3_1, hv6_3_0, h, hl⟩ := hP
  refine lv_iload_n hx hb dJ7_fill_d0a16_6 rfl (lv_at hl 2 rfl) ?_
  refine lv_iload hx hb dJ7_fill_d0a16_7 (lv_at hl 3 rfl) ?_
  refine lv_icmp_ge (tgt := 22) hx hb dJ7_fill_d0a16_9 (by decide) (fun c_4 => ?_) (fun c_4 => ?_)
  · replace c_4 := i_le (x := 40) (y := v6_3_0) (show (40 : Int32).toInt = 40 by decide) rfl c_4
    exact q_vret X hr hlk hK h (fun _ => 0, fun _ _ => 0, fun k => List.getD [v6_3_1] k (fun _ => 0)) trivial [0] rfl rfl dJ7_fill_d0a16_22 (Nat.le_of_ble_eq_true rfl) (Nat.le_of_ble_eq_true rfl)
  · replace c_4 := i_nle (x := 40) (y := v6_3_0) (show (40 : Int32).toInt = 40 by decide) rfl c_4
    refine lv_aload_n hx hb dJ7_fill_d0a16_12 rfl (lv_at hl 0 rfl) ?_
    refine lv_iload_n hx hb dJ7_fill_d0a16_13 rfl (lv_at hl 2 rfl) ?_
    refine lv_lload_n hx hb dJ7_fill_d0a16_14 rfl (lv_at hl 1 rfl) ?_
    refine q_last X hK h 0 rfl (i_in rfl (by omega) (by omega)) dJ7_fill_d0a16_15 (fun H locs h_6 => ?_)
    clear h
    replace h_6 : qW D _ _ [(h0, .inl (cy 2, 40, .inr (.inl (vp_updL v6_3_1 (Int32.toNatClampNeg v6_3_0) j0))))] _ _ := h_6
    obtain ⟨F_5, eF_5⟩ : ∃ z, (vp_updL v6_3_1 (Int32.toNatClampNeg v6_3_0) j0) = z := ⟨_, rfl⟩
    rw [eF_5] at h_6
    clear eF_5
    obtain ⟨z_7, ez_7, hz_7⟩ := e_add (x := v6_3_0) (y := Int32.ofInt 1) rfl (b := 1) (by decide) (by omega) (by omega)
    refine lv_iinc (v := z_7) (lv' := [(3, .int z_7), (0, .ref h0), (1, .long j0), (4, .int 40)]) hx hb dJ7_fill_d0a16_16 hl (k := 2) rfl ez_7 (by decide) rfl (fun ls_7 hl_7 => ?_)
    clear hl
    refine lv_goto (tgt := 6) hx hb dJ7_fill_d0a16_19 (by decide) ?_
    exact ih_6 z_7 (by show (41 - (z_7).toInt).toNat < (41 - (v6_3_0).toInt).toNat; omega) _ _ _ ⟨F_5, ⟨by omega, by omega⟩, h_6, (lv_sub hl_7 [1, 2, 0, 3] rfl)⟩
set_option maxHeartbeats 4000000 in
set_option maxRecDepth 100000 in
theorem gX9_lay_102 (l : Launch) (D : va_G) (cy : Nat → ClassId) (h0 : Nat) (h1 : Nat) (p0 : Int32) (p1 : Int32) (p2 : Int32) (p3 : Int32) (g0 : Nat → Int64) (hp0 : 0 ≤ (p0).toInt ∧ (p0).toInt ≤ 3) (hp1 : 0 ≤ (p1).toInt ∧ (p1).toInt ≤ 40) (hp2 : (-1) ≤ (p2).toInt ∧ (p2).toInt ≤ 3) (hp3 : 0 ≤ (p3).toInt ∧ (p3).toInt ≤ 40) (sz : Nat) : MV l yX9_lay cX9_lay 3 { frames := 1, cells := 0, slots := 0, locals := 24 } [.ref h0, .int p0, .int p1] D cy [(h0, .inr (9, [.int p2, .int p3, .ref h1])), (h1, .inl (cy 2, 40, .inr (.inl g0)))] sz (fun u => (0 ≤ (u.2.1 0 0).toInt ∧ (u.2.1 0 0).toInt ≤ 3) ∧ (0 ≤ (u.2.1 1 0).toInt ∧ (u.2.1 1 0).toInt ≤ 40) ∧ True) (fun u => [(h0, .inr (9, [.int (u.2.1 0 0), .int (u.2.1 1 0), .ref h1])), (h1, .inl (cy 2, 40, .inr (.inl (u.2.2 0))))]) 0 0 := by
  refine q_ent (own := RX9) (by decide) rfl (Nat.le_of_ble_eq_true rfl) (fun p e s m below meth c ls X hr hlk hnm hK h hA hl => ?_)
  obtain ⟨hx, hb, hml, hown, ht⟩ := id X
  replace hl : lv_has ls 3 [(0, .ref h0), (1, .int p0), (2, .int p1)] := hl
  refine lv_aload_n hx hb dX9_lay_0 rfl (lv_at hl 0 rfl) ?_
  refine lv_iload_n hx hb dX9_lay_1 rfl (lv_at hl 1 rfl) ?_
  refine q_put (v := .int p0) X hK h 0 rfl rfl wf_9 tyX9 tyX9_ok nmX9 0 (by decide) wm_2_85 rfl rfl rfl (Nat.le_of_ble_eq_true rfl) dX9_lay_2 (fun H locs h_1 => ?_)
  clear h
  replace h_1 : qW D _ _ [(h0, .inr (9, [.int p0, .int p3, .ref h1])), (h1, .inl (cy 2, 40, .inr (.inl g0)))] _ _ := h_1
  refine lv_aload_n hx hb dX9_lay_5 rfl (lv_at hl 0 rfl) ?_
  refine lv_iload_n hx hb dX9_lay_6 rfl (lv_at hl 2 rfl) ?_
  refine q_put (v := .int p1) X hK h_1 0 rfl rfl wf_9 tyX9 tyX9_ok nmX9 1 (by decide) wm_2_86 rfl rfl rfl (Nat.le_of_ble_eq_true rfl) dX9_lay_7 (fun H locs h_2 => ?_)
  clear h_1
  replace h_2 : qW D _ _ [(h0, .inr (9, [.int p0, .int p1, .ref h1])), (h1, .inl (cy 2, 40, .inr (.inl g0)))] _ _ := h_2
  refine lv_aload_n hx hb dX9_lay_10 rfl (lv_at hl 0 rfl) ?_
  refine q_get X hK h_2 0 rfl rfl wf_9 2 (by decide) rfl wm_2_88 dX9_lay_11 ?_
  refine lv_lconst (v := 0) hx hb dX9_lay_14 (by decide) ?_
  refine q_callSv (rest := []) (wr := [(h0, .inr (9, [.int p0, .int p1, .ref h1]))]) X hK hA h_2 (fun sz => gJ7_fill_d0a16_101 l D cy h1 (0 : Int64) g0 ⟨by decide +kernel, by decide +kernel⟩ sz) wm_5_128 wm_5_130 wm_1_20 hd_J7_fill_d0a16 wm_5_129 ⟨Nat.le_of_ble_eq_true rfl, Nat.le_of_ble_eq_true rfl⟩ hl.1 rfl (Nat.le_of_ble_eq_true rfl) dX9_lay_15 ⟨Nat.le_of_ble_eq_true rfl, Nat.le_of_ble_eq_true rfl⟩ [1] [0] rfl rfl (by decide) rfl rfl (fun u_3 H locs w_3 h_3 => ?_)
  clear h_2
  clear w_3
  replace h_3 : qW D _ _ [(h0, .inr (9, [.int p0, .int p1, .ref h1])), (h1, .inl (cy 2, 40, .inr (.inl (u_3.2.2 0))))] _ _ := h_3
  exact q_vret X hr hlk hK h_3 (fun _ => 0, fun k => List.getD [(fun _ => p0), (fun _ => p1)] k (fun _ => 0), fun k => List.getD [(u_3.2.2 0)] k (fun _ => 0)) ⟨(⟨by omega, by omega⟩ : 0 ≤ (p0 : Int32).toInt ∧ (p0 : Int32).toInt ≤ 3), (⟨by omega, by omega⟩ : 0 ≤ (p1 : Int32).toInt ∧ (p1 : Int32).toInt ≤ 40), trivial⟩ [0, 1] rfl rfl dX9_lay_18 (Nat.le_of_ble_eq_true rfl) (Nat.le_of_ble_eq_true rfl)
set_option maxHeartbeats 4000000 in
set_option maxRecDepth 100000 in
theorem gX9_put_103 (l : Launch) (D : va_G) (cy : Nat → ClassId) (h0 : Nat) (h1 : Nat) (p0 : Int32) (j0 : Int64) (p1 : Int32) (p2 : Int32) (g0 : Nat → Int64) (hp0 : 0 ≤ (p0).toInt ∧ (p0).toInt ≤ 39) (hj0 : (-9223372036854775808) ≤ (j0).toInt ∧ (j0).toInt ≤ 9223372036854775807) (hp1 : (-1) ≤ (p1).toInt ∧ (p1).toInt ≤ 3) (hp2 : 0 ≤ (p2).toInt ∧ (p2).toInt ≤ 40) (sz : Nat) : MV l yX9_put cX9_put 4 { frames := 0, cells := 0, slots := 0, locals := 0 } [.ref h0, .int p0, .long j0] D cy [(h0, .inr (9, [.int p1, .int p2, .ref h1])), (h1, .inl (cy 2, 40, .inr (.inl g0)))] sz (fun u => True) (fun u => [(h0, .inr (9, [.int p1, .int p2, .ref h1])), (h1, .inl (cy 2, 40, .inr (.inl (u.2.2 0))))]) 0 0 := by
  refine q_ent (own := RX9) (by decide) rfl (Nat.le_of_ble_eq_true rfl) (fun p e s m below meth c ls X hr hlk hnm hK h hA hl => ?_)
  obtain ⟨hx, hb, hml, hown, ht⟩ := id X
  replace hl : lv_has ls 4 [(0, .ref h0), (1, .int p0), (2, .long j0)] := hl
  refine lv_aload_n hx hb dX9_put_0 rfl (lv_at hl 0 rfl) ?_
  refine q_get X hK h 0 rfl rfl wf_9 0 (by decide) rfl wm_2_85 dX9_put_1 ?_
  refine q_jn (pc2 := 77) (fun H locs ls st => ∃ v77_1_0 : Nat → Int64, st = [] ∧ qW D (va_A [(h0, .inr (9, [.int p1, .int p2, .ref h1])), (h1, .inl (cy 2, 40, .inr (.inl g0)))] sz) s.heap [(h0, .inr (9, [.int p1, .int p2, .ref h1])), (h1, .inl (cy 2, 40, .inr (.inl v77_1_0)))] H locs ∧ lv_has ls 4 [(0, .ref h0), (1, .int p0), (2, .long j0)]) (fun H locs ls st hP => ?_) (fun J_77 => ?_)
  · obtain ⟨v77_1_0, rfl, h, hl⟩ := hP
    exact q_vret X hr hlk hK h (fun _ => 0, fun _ _ => 0, fun k => List.getD [v77_1_0] k (fun _ => 0)) trivial [0, 1] rfl rfl dX9_put_77 (Nat.le_of_ble_eq_true rfl) (Nat.le_of_ble_eq_true rfl)
  · skip
    by_cases c_2 : p1 = 0
    · have ec_2 : (p1).toInt = 0 := by rw [c_2]; decide
      refine lv_tableIn (off := 28) (tgt := 32) hx hb dX9_put_4 (by rw [c_2]; decide +kernel) (by rw [c_2]; decide +kernel) (by rw [c_2]; decide +kernel) (by decide) ?_
      refine lv_aload_n hx hb dX9_put_32 rfl (lv_at hl 0 rfl) ?_
      refine q_get X hK h 0 rfl rfl wf_9 2 (by decide) rfl wm_2_88 dX9_put_33 ?_
      refine lv_iload_n hx hb dX9_put_36 rfl (lv_at hl 1 rfl) ?_
      refine lv_lload_n hx hb dX9_put_37 rfl (lv_at hl 2 rfl) ?_
      refine lv_l2i hx hb dX9_put_38 rfl ?_
      refine q_any (fun z_3 hz_3 => ?_)
      refine lv_i2b hx hb dX9_put_39 rfl ?_
      obtain ⟨z_4, ez_4, hz_4⟩ := e_i2b z_3
      refine q_c z_4 ez_4 ?_
      clear ez_4
      refine lv_i2l hx hb dX9_put_40 rfl ?_
      obtain ⟨z_5, ez_5, hz_5⟩ := e_i2l (x := z_4) rfl
      refine q_cl z_5 ez_5 ?_
      clear ez_5
      refine q_last X hK h 1 rfl (i_in rfl (by omega) (by omega)) dX9_put_41 (fun H locs h_7 => ?_)
      clear h
      replace h_7 : qW D _ _ [(h0, .inr (9, [.int p1, .int p2, .ref h1])), (h1, .inl (cy 2, 40, .inr (.inl (vp_updL g0 (Int32.toNatClampNeg p0) z_5))))] _ _ := h_7
      obtain ⟨F_6, eF_6⟩ : ∃ z, (vp_updL g0 (Int32.toNatClampNeg p0) z_5) = z := ⟨_, rfl⟩
      rw [eF_6] at h_7
      clear eF_6
      refine lv_goto (tgt := 77) hx hb dX9_put_42 (by decide) ?_
      exact J_77 _ _ _ _ ⟨F_6, rfl, h_7, (lv_sub hl [0, 1, 2] rfl)⟩
    by_cases c_8 : p1 = 1
    · have ec_8 : (p1).toInt = 1 := by rw [c_8]; decide
      refine lv_tableIn (off := 41) (tgt := 45) hx hb dX9_put_4 (by rw [c_8]; decide +kernel) (by rw [c_8]; decide +kernel) (by rw [c_8]; decide +kernel) (by decide) ?_
      refine lv_aload_n hx hb dX9_put_45 rfl (lv_at hl 0 rfl) ?_
      refine q_get X hK h 0 rfl rfl wf_9 2 (by decide) rfl wm_2_88 dX9_put_46 ?_
      refine lv_iload_n hx hb dX9_put_49 rfl (lv_at hl 1 rfl) ?_
      refine lv_lload_n hx hb dX9_put_50 rfl (lv_at hl 2 rfl) ?_
      refine lv_l2i hx hb dX9_put_51 rfl ?_
      refine q_any (fun z_9 hz_9 => ?_)
      refine lv_i2s hx hb dX9_put_52 rfl ?_
      refine q_any (fun z_10 hz_10 => ?_)
      refine lv_i2l hx hb dX9_put_53 rfl ?_
      obtain ⟨z_11, ez_11, hz_11⟩ := e_i2l (x := z_10) rfl
      refine q_cl z_11 ez_11 ?_
      clear ez_11
      refine q_last X hK h 1 rfl (i_in rfl (by omega) (by omega)) dX9_put_54 (fun H locs h_13 => ?_)
      clear h
      replace h_13 : qW D _ _ [(h0, .inr (9, [.int p1, .int p2, .ref h1])), (h1, .inl (cy 2, 40, .inr (.inl (vp_updL g0 (Int32.toNatClampNeg p0) z_11))))] _ _ := h_13
      obtain ⟨F_12, eF_12⟩ : ∃ z, (vp_updL g0 (Int32.toNatClampNeg p0) z_11) = z := ⟨_, rfl⟩
      rw [eF_12] at h_13
      clear eF_12
      refine lv_goto (tgt := 77) hx hb dX9_put_55 (by decide) ?_
      exact J_77 _ _ _ _ ⟨F_12, rfl, h_13, (lv_sub hl [0, 1, 2] rfl)⟩
    by_cases c_14 : p1 = 2
    · have ec_14 : (p1).toInt = 2 := by rw [c_14]; decide
      refine lv_tableIn (off := 54) (tgt := 58) hx hb dX9_put_4 (by rw [c_14]; decide +kernel) (by rw [c_14]; decide +kernel) (by rw [c_14]; decide +kernel) (by decide) ?_
      refine lv_aload_n hx hb dX9_put_58 rfl (lv_at hl 0 rfl) ?_
      refine q_get X hK h 0 rfl rfl wf_9 2 (by decide) rfl wm_2_88 dX9_put_59 ?_
      refine lv_iload_n hx hb dX9_put_62 rfl (lv_at hl 1 rfl) ?_
      refine lv_lload_n hx hb dX9_put_63 rfl (lv_at hl 2 rfl) ?_
      refine lv_l2i hx hb dX9_put_64 rfl ?_
      refine q_any (fun z_15 hz_15 => ?_)
      refine lv_i2l hx hb dX9_put_65 rfl ?_
      obtain ⟨z_16, ez_16, hz_16⟩ := e_i2l (x := z_15) rfl
      refine q_cl z_16 ez_16 ?_
      clear ez_16
      refine q_last X hK h 1 rfl (i_in rfl (by omega) (by omega)) dX9_put_66 (fun H locs h_18 => ?_)
      clear h
      replace h_18 : qW D _ _ [(h0, .inr (9, [.int p1, .int p2, .ref h1])), (h1, .inl (cy 2, 40, .inr (.inl (vp_updL g0 (Int32.toNatClampNeg p0) z_16))))] _ _ := h_18
      obtain ⟨F_17, eF_17⟩ : ∃ z, (vp_updL g0 (Int32.toNatClampNeg p0) z_16) = z := ⟨_, rfl⟩
      rw [eF_17] at h_18
      clear eF_17
      refine lv_goto (tgt := 77) hx hb dX9_put_67 (by decide) ?_
      exact J_77 _ _ _ _ ⟨F_17, rfl, h_18, (lv_sub hl [0, 1, 2] rfl)⟩
    have nc_2 := lv_neT c_2 (show (0 : Int32).toInt = 0 by decide)
    have nc_8 := lv_neT c_8 (show (1 : Int32).toInt = 1 by decide)
    have nc_14 := lv_neT c_14 (show (2 : Int32).toInt = 2 by decide)
    refine lv_tableOut (tgt := 70) hx hb dX9_put_4 (by omega) (by decide) ?_
    refine lv_aload_n hx hb dX9_put_70 rfl (lv_at hl 0 rfl) ?_
    refine q_get X hK h 0 rfl rfl wf_9 2 (by decide) rfl wm_2_88 dX9_put_71 ?_
    refine lv_iload_n hx hb dX9_put_74 rfl (lv_at hl 1 rfl) ?_
    refine lv_lload_n hx hb dX9_put_75 rfl (lv_at hl 2 rfl) ?_
    refine q_last X hK h 1 rfl (i_in rfl (by omega) (by omega)) dX9_put_76 (fun H locs h_20 => ?_)
    clear h
    replace h_20 : qW D _ _ [(h0, .inr (9, [.int p1, .int p2, .ref h1])), (h1, .inl (cy 2, 40, .inr (.inl (vp_updL g0 (Int32.toNatClampNeg p0) j0))))] _ _ := h_20
    obtain ⟨F_19, eF_19⟩ : ∃ z, (vp_updL g0 (Int32.toNatClampNeg p0) j0) = z := ⟨_, rfl⟩
    rw [eF_19] at h_20
    clear eF_19
    exact J_77 _ _ _ _ ⟨F_19, rfl, h_20, (lv_sub hl [0, 1, 2] rfl)⟩
set_option maxHeartbeats 4000000 in
set_option maxRecDepth 100000 in
theorem gX7_inTownOn_104 (l : Launch) (D : va_G) (cy : Nat → ClassId) (h0 : Nat) (h1 : Nat) (h2 : Nat) (h3 : Nat) (p0 : Int32) (p1 : Int32) (p2 : Int32) (p3 : Int32) (p4 : Int32) (w0 : Value) (w1 : Value) (w2 : Value) (w3 : Value) (w4 : Value) (w5 : Value) (f0 : Nat → Int32) (f1 : Nat → Int32) (p5 : Int32) (p6 : Int32) (w6 : Value) (hp0 : 0 ≤ (p0).toInt ∧ (p0).toInt ≤ 62000) (hp1 : 1 ≤ (p1).toInt ∧ (p1).toInt ≤ 3) (hp2 : 0 ≤ (p2).toInt ∧ (p2).toInt ≤ 10) (hp3 : 0 ≤ (p3).toInt ∧ (p3).toInt ≤ 920) (hp4 : 0 ≤ (p4).toInt ∧ (p4).toInt ≤ 999) (hp5 : 0 ≤ (p5).toInt ∧ (p5).toInt ≤ 60000) (hp6 : 0 ≤ (p6).toInt ∧ (p6).toInt ≤ 1023) (rf0 : RG f0 10 0 999) (rf1 : RG f1 10 0 1000000) (sz : Nat) : MI l yX7_inTownOn cX7_inTownOn 4 .int { frames := 0, cells := 0, slots := 0, locals := 0 } [.ref h3, .int p0] D cy [(h0, .inr (3, [.int p1, .int p2, .int p3, .int p4, w0, w1, w2, w3, .ref h1, .ref h2, w4, w5])), (h1, .inl (cy 1, 10, .inl f0)), (h2, .inl (cy 1, 10, .inl f1)), (h3, .inr (7, [.ref h0, .int p5, .int p6, w6]))] sz (fun r u => (0 ≤ r.toInt ∧ r.toInt ≤ 1023) ∧ True) (fun u => [(h0, .inr (3, [.int p1, .int p2, .int p3, .int p4, w0, w1, w2, w3, .ref h1, .ref h2, w4, w5])), (h1, .inl (cy 1, 10, .inl f0)), (h2, .inl (cy 1, 10, .inl f1)), (h3, .inr (7, [.ref h0, .int p5, .int p6, w6]))]) 0 0 := by
  refine q_ent (own := RX7) (by decide) rfl (Nat.le_of_ble_eq_true rfl) (fun p e s m below meth c ls X hr hlk hnm hK h hA hl => ?_)
  obtain ⟨hx, hb, hml, hown, ht⟩ := id X
  replace hl : lv_has ls 4 [(0, .ref h3), (1, .int p0)] := hl
  refine lv_iconst (v := 0) hx hb dX7_inTownOn_0 (by decide) ?_
  refine lv_istore_n (lv' := [(2, .int 0), (0, .ref h3), (1, .int p0)]) hx hb dX7_inTownOn_1 rfl hl (by decide) rfl (fun ls_1 hl_1 => ?_)
  clear hl
  refine lv_iconst (v := 0) hx hb dX7_inTownOn_2 (by decide) ?_
  refine lv_istore_n (lv' := [(3, .int 0), (2, .int 0), (0, .ref h3), (1, .int p0)]) hx hb dX7_inTownOn_3 rfl hl_1 (by decide) rfl (fun ls_2 hl_2 => ?_)
  clear hl_1
  refine q_wl (fun (q : Int32 × Int32) H locs ls => match q with | (v4_3_0, v4_3_1) => (0 ≤ (v4_3_0).toInt ∧ (v4_3_0).toInt ≤ 10) ∧ (0 ≤ (v4_3_1).toInt ∧ (v4_3_1).toInt ≤ 1023) ∧ qW D (va_A [(h0, .inr (3, [.int p1, .int p2, .int p3, .int p4, w0, w1, w2, w3, .ref h1, .ref h2, w4, w5])), (h1, .inl (cy 1, 10, .inl f0)), (h2, .inl (cy 1, 10, .inl f1)), (h3, .inr (7, [.ref h0, .int p5, .int p6, w6]))] sz) s.heap [(h0, .inr (3, [.int p1, .int p2, .int p3, .int p4, w0, w1, w2, w3, .ref h1, .ref h2, w4, w5])), (h1, .inl (cy 1, 10, .inl f0)), (h2, .inl (cy 1, 10, .inl f1)), (h3, .inr (7, [.ref h0, .int p5, .int p6, w6]))] H locs ∧ lv_has ls 4 [(0, .ref h3), (1, .int p0), (2, .int v4_3_1), (3, .int v4_3_0)]) (fun (q : Int32 × Int32) => match q with | (v4_3_0, v4_3_1) => (11 - (v4_3_0).toInt).toNat) (fun q_4 ih_4 H locs ls hP => ?_) (0, 0) ⟨⟨by decide +kernel, by decide +kernel⟩, ⟨by decide +kernel, by decide +kernel⟩, h, (lv_sub hl_2 [2, 3, 1, 0] rfl)⟩
  obtain ⟨v4_3_0, v4_3_1⟩ := q_4
  obtain ⟨hv4_3_0, hv4_3_1, h, hl⟩ := hP
  refine lv_iload_n hx hb dX7_inTownOn_4 rfl (lv_at hl 3 rfl) ?_
  refine lv_aload_n hx hb dX7_inTownOn_5 rfl (lv_at hl 0 rfl) ?_
  refine q_get X hK h 3 rfl rfl wf_7 0 (by decide) rfl wm_2_37 dX7_inTownOn_6 ?_
  refine q_get X hK h 0 rfl rfl wf_3 1 (by decide) rfl wm_1_83 dX7_inTownOn_9 ?_
  refine lv_icmp_ge (tgt := 53) hx hb dX7_inTownOn_12 (by decide) (fun c_4 => ?_) (fun c_4 => ?_)
  · replace c_4 := i_le (x := p2) (y := v4_3_0) rfl rfl c_4
    refine lv_iload_n hx hb dX7_inTownOn_53 rfl (lv_at hl 2 rfl) ?_
    refine lv_aload_n hx hb dX7_inTownOn_54 rfl (lv_at hl 0 rfl) ?_
    refine q_get X hK h 3 rfl rfl wf_7 2 (by decide) rfl wm_2_48 dX7_inTownOn_55 ?_
    refine lv_iconst (v := (-1)) hx hb dX7_inTownOn_58 (by decide) ?_
    refine lv_ixor hx hb dX7_inTownOn_59 ?_
    refine q_any (fun z_5 hz_5 => ?_)
    refine lv_iand hx hb dX7_inTownOn_60 ?_
    obtain ⟨z_6, ez_6, hz_6⟩ := e_and1 (x := v4_3_1) (y := z_5) rfl (by omega)
    refine q_c z_6 ez_6 ?_
    clear ez_6
    exact q_iret X hr hlk hK h rfl (fun _ => 0, fun _ _ => 0, fun _ _ => 0) ⟨⟨by omega, by omega⟩, trivial⟩ [0, 1, 2, 3] rfl rfl dX7_inTownOn_61 (Nat.le_of_ble_eq_true rfl) (Nat.le_of_ble_eq_true rfl)
  · replace c_4 := i_nle (x := p2) (y := v4_3_0) rfl rfl c_4
    refine lv_aload_n hx hb dX7_inTownOn_15 rfl (lv_at hl 0 rfl) ?_
    refine q_get X hK h 3 rfl rfl wf_7 0 (by decide) rfl wm_2_37 dX7_inTownOn_16 ?_
    refine q_get X hK h 0 rfl rfl wf_3 8 (by decide) rfl wm_1_106 dX7_inTownOn_19 ?_
    refine lv_iload_n hx hb dX7_inTownOn_22 rfl (lv_at hl 3 rfl) ?_
    refine q_iald X hK h 1 rfl (i_in rfl (by omega) (by omega)) dX7_inTownOn_23 ?_
    obtain ⟨z_7, ez_7, hz_7⟩ := rg_get rf0 (x := v4_3_0) rfl (by omega) (by omega)
    refine q_c z_7 ez_7 ?_
    clear ez_7
    refine lv_iload_n hx hb dX7_inTownOn_24 rfl (lv_at hl 1 rfl) ?_
    refine q_jn (pc2 := 47) (fun H locs ls st => ∃ v47_8_0 : Int32, (0 ≤ (v47_8_0).toInt ∧ (v47_8_0).toInt ≤ 1023) ∧ st = [] ∧ qW D (va_A [(h0, .inr (3, [.int p1, .int p2, .int p3, .int p4, w0, w1, w2, w3, .ref h1, .ref h2, w4, w5])), (h1, .inl (cy 1, 10, .inl f0)), (h2, .inl (cy 1, 10, .inl f1)), (h3, .inr (7, [.ref h0, .int p5, .int p6, w6]))] sz) s.heap [(h0, .inr (3, [.int p1, .int p2, .int p3, .int p4, w0, w1, w2, w3, .ref h1, .ref h2, w4, w5])), (h1, .inl (cy 1, 10, .inl f0)), (h2, .inl (cy 1, 10, .inl f1)), (h3, .inr (7, [.ref h0, .int p5, .int p6, w6]))] H locs ∧ lv_has ls 4 [(0, .ref h3), (1, .int p0), (2, .int v47_8_0), (3, .int v4_3_0)]) (fun H locs ls st hP => ?_) (fun J_47 => ?_)
    · obtain ⟨v47_8_0, hv47_8_0, rfl, h, hl⟩ := hP
      obtain ⟨z_9, ez_9, hz_9⟩ := e_add (x := v4_3_0) (y := Int32.ofInt 1) rfl (b := 1) (by decide) (by omega) (by omega)
      refine lv_iinc (v := z_9) (lv' := [(3, .int z_9), (0, .ref h3), (1, .int p0), (2, .int v47_8_0)]) hx hb dX7_inTownOn_47 hl (k := 3) rfl ez_9 (by decide) rfl (fun ls_9 hl_9 => ?_)
      clear hl
      refine lv_goto (tgt := 4) hx hb dX7_inTownOn_50 (by decide) ?_
      exact ih_4 (z_9, v47_8_0) (by show (11 - (z_9).toInt).toNat < (11 - (v4_3_0).toInt).toNat; omega) _ _ _ ⟨⟨by omega, by omega⟩, ⟨by omega, by omega⟩, h, (lv_sub hl_9 [1, 2, 3, 0] rfl)⟩
    · skip
      refine lv_icmp_gt (tgt := 47) hx hb dX7_inTownOn_25 (by decide) (fun c_10 => ?_) (fun c_10 => ?_)
      · replace c_10 := i_lt (x := p0) (y := z_7) rfl rfl c_10
        exact J_47 _ _ _ _ ⟨v4_3_1, ⟨by omega, by omega⟩, rfl, h, (lv_sub hl [0, 1, 2, 3] rfl)⟩
      · replace c_10 := i_nlt (x := p0) (y := z_7) rfl rfl c_10
        refine lv_iload_n hx hb dX7_inTownOn_28 rfl (lv_at hl 1 rfl) ?_
        refine lv_aload_n hx hb dX7_inTownOn_29 rfl (lv_at hl 0 rfl) ?_
        refine q_get X hK h 3 rfl rfl wf_7 0 (by decide) rfl wm_2_37 dX7_inTownOn_30 ?_
        refine q_get X hK h 0 rfl rfl wf_3 9 (by decide) rfl wm_1_110 dX7_inTownOn_33 ?_
        refine lv_iload_n hx hb dX7_inTownOn_36 rfl (lv_at hl 3 rfl) ?_
        refine q_iald X hK h 2 rfl (i_in rfl (by omega) (by omega)) dX7_inTownOn_37 ?_
        obtain ⟨z_11, ez_11, hz_11⟩ := rg_get rf1 (x := v4_3_0) rfl (by omega) (by omega)
        refine q_c z_11 ez_11 ?_
        clear ez_11
        refine lv_icmp_gt (tgt := 47) hx hb dX7_inTownOn_38 (by decide) (fun c_12 => ?_) (fun c_12 => ?_)
        · replace c_12 := i_lt (x := z_11) (y := p0) rfl rfl c_12
          exact J_47 _ _ _ _ ⟨v4_3_1, ⟨by omega, by omega⟩, rfl, h, (lv_sub hl [0, 1, 2, 3] rfl)⟩
        · replace c_12 := i_nlt (x := z_11) (y := p0) rfl rfl c_12
          refine lv_iload_n hx hb dX7_inTownOn_41 rfl (lv_at hl 2 rfl) ?_
          refine lv_iconst (v := 1) hx hb dX7_inTownOn_42 (by decide) ?_
          refine lv_iload_n hx hb dX7_inTownOn_43 rfl (lv_at hl 3 rfl) ?_
          refine lv_ishl hx hb dX7_inTownOn_44 ?_
          obtain ⟨z_13, ez_13, hz_13⟩ := e_shlk (p := v4_3_0) 9 (by decide) rfl (by omega) (by omega)
          refine q_c z_13 ez_13 ?_
          clear ez_13
          refine lv_ior hx hb dX7_inTownOn_45 ?_
          obtain ⟨z_14, ez_14, hz_14⟩ := e_or (x := v4_3_1) (y := z_13) 10 (by decide) rfl rfl (by omega) (by omega) (by omega) (by omega)
          refine q_c z_14 ez_14 ?_
          clear ez_14
          refine lv_istore_n (lv' := [(2, .int z_14), (0, .ref h3), (1, .int p0), (3, .int v4_3_0)]) hx hb dX7_inTownOn_46 rfl hl (by decide) rfl (fun ls_15 hl_15 => ?_)
          clear hl
          exact J_47 _ _ _ _ ⟨z_14, ⟨by omega, by omega⟩, rfl, h, (lv_sub hl_15 [1, 2, 0, 3] rfl)⟩
set_option maxHeartbeats 4000000 in
set_option maxRecDepth 100000 in
theorem gX7_inTownOn_105 (l : Launch) (D : va_G) (cy : Nat → ClassId) (h0 : Nat) (h1 : Nat) (h2 : Nat) (h3 : Nat) (p0 : Int32) (p1 : Int32) (p2 : Int32) (p3 : Int32) (p4 : Int32) (w0 : Value) (w1 : Value) (w2 : Value) (w3 : Value) (w4 : Value) (w5 : Value) (f0 : Nat → Int32) (f1 : Nat → Int32) (p5 : Int32) (w6 : Value) (hp0 : 0 ≤ (p0).toInt ∧ (p0).toInt ≤ 60000) (hp1 : 1 ≤ (p1).toInt ∧ (p1).toInt ≤ 3) (hp2 : 0 ≤ (p2).toInt ∧ (p2).toInt ≤ 10) (hp3 : 0 ≤ (p3).toInt ∧ (p3).toInt ≤ 920) (hp4 : 0 ≤ (p4).toInt ∧ (p4).toInt ≤ 999) (hp5 : 0 ≤ (p5).toInt ∧ (p5).toInt ≤ 1023) (rf0 : RG f0 10 0 999) (rf1 : RG f1 10 0 1000000) (sz : Nat) : MI l yX7_inTownOn cX7_inTownOn 4 .int { frames := 0, cells := 0, slots := 0, locals := 0 } [.ref h3, .int p0] D cy [(h0, .inr (3, [.int p1, .int p2, .int p3, .int p4, w0, w1, w2, w3, .ref h1, .ref h2, w4, w5])), (h1, .inl (cy 1, 10, .inl f0)), (h2, .inl (cy 1, 10, .inl f1)), (h3, .inr (7, [.ref h0, .int p0, .int p5, w6]))] sz (fun r u => (0 ≤ r.toInt ∧ r.toInt ≤ 1023) ∧ True) (fun u => [(h0, .inr (3, [.int p1, .int p2, .int p3, .int p4, w0, w1, w2, w3, .ref h1, .ref h2, w4, w5])), (h1, .inl (cy 1, 10, .inl f0)), (h2, .inl (cy 1, 10, .inl f1)), (h3, .inr (7, [.ref h0, .int p0, .int p5, w6]))]) 0 0 := by
  refine q_ent (own := RX7) (by decide) rfl (Nat.le_of_ble_eq_true rfl) (fun p e s m below meth c ls X hr hlk hnm hK h hA hl => ?_)
  obtain ⟨hx, hb, hml, hown, ht⟩ := id X
  replace hl : lv_has ls 4 [(0, .ref h3), (1, .int p0)] := hl
  refine lv_iconst (v := 0) hx hb dX7_inTownOn_0 (by decide) ?_
  refine lv_istore_n (lv' := [(2, .int 0), (0, .ref h3), (1, .int p0)]) hx hb dX7_inTownOn_1 rfl hl (by decide) rfl (fun ls_1 hl_1 => ?_)
  clear hl
  refine lv_iconst (v := 0) hx hb dX7_inTownOn_2 (by decide) ?_
  refine lv_istore_n (lv' := [(3, .int 0), (2, .int 0), (0, .ref h3), (1, .int p0)]) hx hb dX7_inTownOn_3 rfl hl_1 (by decide) rfl (fun ls_2 hl_2 => ?_)
  clear hl_1
  refine q_wl (fun (q : Int32 × Int32) H locs ls => match q with | (v4_3_0, v4_3_1) => (0 ≤ (v4_3_0).toInt ∧ (v4_3_0).toInt ≤ 10) ∧ (0 ≤ (v4_3_1).toInt ∧ (v4_3_1).toInt ≤ 1023) ∧ qW D (va_A [(h0, .inr (3, [.int p1, .int p2, .int p3, .int p4, w0, w1, w2, w3, .ref h1, .ref h2, w4, w5])), (h1, .inl (cy 1, 10, .inl f0)), (h2, .inl (cy 1, 10, .inl f1)), (h3, .inr (7, [.ref h0, .int p0, .int p5, w6]))] sz) s.heap [(h0, .inr (3, [.int p1, .int p2, .int p3, .int p4, w0, w1, w2, w3, .ref h1, .ref h2, w4, w5])), (h1, .inl (cy 1, 10, .inl f0)), (h2, .inl (cy 1, 10, .inl f1)), (h3, .inr (7, [.ref h0, .int p0, .int p5, w6]))] H locs ∧ lv_has ls 4 [(0, .ref h3), (1, .int p0), (2, .int v4_3_1), (3, .int v4_3_0)]) (fun (q : Int32 × Int32) => match q with | (v4_3_0, v4_3_1) => (11 - (v4_3_0).toInt).toNat) (fun q_4 ih_4 H locs ls hP => ?_) (0, 0) ⟨⟨by decide +kernel, by decide +kernel⟩, ⟨by decide +kernel, by decide +kernel⟩, h, (lv_sub hl_2 [2, 3, 1, 0] rfl)⟩
  obtain ⟨v4_3_0, v4_3_1⟩ := q_4
  obtain ⟨hv4_3_0, hv4_3_1, h, hl⟩ := hP
  refine lv_iload_n hx hb dX7_inTownOn_4 rfl (lv_at hl 3 rfl) ?_
  refine lv_aload_n hx hb dX7_inTownOn_5 rfl (lv_at hl 0 rfl) ?_
  refine q_get X hK h 3 rfl rfl wf_7 0 (by decide) rfl wm_2_37 dX7_inTownOn_6 ?_
  refine q_get X hK h 0 rfl rfl wf_3 1 (by decide) rfl wm_1_83 dX7_inTownOn_9 ?_
  refine lv_icmp_ge (tgt := 53) hx hb dX7_inTownOn_12 (by decide) (fun c_4 => ?_) (fun c_4 => ?_)
  · replace c_4 := i_le (x := p2) (y := v4_3_0) rfl rfl c_4
    refine lv_iload_n hx hb dX7_inTownOn_53 rfl (lv_at hl 2 rfl) ?_
    refine lv_aload_n hx hb dX7_inTownOn_54 rfl (lv_at hl 0 rfl) ?_
    refine q_get X hK h 3 rfl rfl wf_7 2 (by decide) rfl wm_2_48 dX7_inTownOn_55 ?_
    refine lv_iconst (v := (-1)) hx hb dX7_inTownOn_58 (by decide) ?_
    refine lv_ixor hx hb dX7_inTownOn_59 ?_
    refine q_any (fun z_5 hz_5 => ?_)
    refine lv_iand hx hb dX7_inTownOn_60 ?_
    obtain ⟨z_6, ez_6, hz_6⟩ := e_and1 (x := v4_3_1) (y := z_5) rfl (by omega)
    refine q_c z_6 ez_6 ?_
    clear ez_6
    exact q_iret X hr hlk hK h rfl (fun _ => 0, fun _ _ => 0, fun _ _ => 0) ⟨⟨by omega, by omega⟩, trivial⟩ [0, 1, 2, 3] rfl rfl dX7_inTownOn_61 (Nat.le_of_ble_eq_true rfl) (Nat.le_of_ble_eq_true rfl)
  · replace c_4 := i_nle (x := p2) (y := v4_3_0) rfl rfl c_4
    refine lv_aload_n hx hb dX7_inTownOn_15 rfl (lv_at hl 0 rfl) ?_
    refine q_get X hK h 3 rfl rfl wf_7 0 (by decide) rfl wm_2_37 dX7_inTownOn_16 ?_
    refine q_get X hK h 0 rfl rfl wf_3 8 (by decide) rfl wm_1_106 dX7_inTownOn_19 ?_
    refine lv_iload_n hx hb dX7_inTownOn_22 rfl (lv_at hl 3 rfl) ?_
    refine q_iald X hK h 1 rfl (i_in rfl (by omega) (by omega)) dX7_inTownOn_23 ?_
    obtain ⟨z_7, ez_7, hz_7⟩ := rg_get rf0 (x := v4_3_0) rfl (by omega) (by omega)
    refine q_c z_7 ez_7 ?_
    clear ez_7
    refine lv_iload_n hx hb dX7_inTownOn_24 rfl (lv_at hl 1 rfl) ?_
    refine q_jn (pc2 := 47) (fun H locs ls st => ∃ v47_8_0 : Int32, (0 ≤ (v47_8_0).toInt ∧ (v47_8_0).toInt ≤ 1023) ∧ st = [] ∧ qW D (va_A [(h0, .inr (3, [.int p1, .int p2, .int p3, .int p4, w0, w1, w2, w3, .ref h1, .ref h2, w4, w5])), (h1, .inl (cy 1, 10, .inl f0)), (h2, .inl (cy 1, 10, .inl f1)), (h3, .inr (7, [.ref h0, .int p0, .int p5, w6]))] sz) s.heap [(h0, .inr (3, [.int p1, .int p2, .int p3, .int p4, w0, w1, w2, w3, .ref h1, .ref h2, w4, w5])), (h1, .inl (cy 1, 10, .inl f0)), (h2, .inl (cy 1, 10, .inl f1)), (h3, .inr (7, [.ref h0, .int p0, .int p5, w6]))] H locs ∧ lv_has ls 4 [(0, .ref h3), (1, .int p0), (2, .int v47_8_0), (3, .int v4_3_0)]) (fun H locs ls st hP => ?_) (fun J_47 => ?_)
    · obtain ⟨v47_8_0, hv47_8_0, rfl, h, hl⟩ := hP
      obtain ⟨z_9, ez_9, hz_9⟩ := e_add (x := v4_3_0) (y := Int32.ofInt 1) rfl (b := 1) (by decide) (by omega) (by omega)
      refine lv_iinc (v := z_9) (lv' := [(3, .int z_9), (0, .ref h3), (1, .int p0), (2, .int v47_8_0)]) hx hb dX7_inTownOn_47 hl (k := 3) rfl ez_9 (by decide) rfl (fun ls_9 hl_9 => ?_)
      clear hl
      refine lv_goto (tgt := 4) hx hb dX7_inTownOn_50 (by decide) ?_
      exact ih_4 (z_9, v47_8_0) (by show (11 - (z_9).toInt).toNat < (11 - (v4_3_0).toInt).toNat; omega) _ _ _ ⟨⟨by omega, by omega⟩, ⟨by omega, by omega⟩, h, (lv_sub hl_9 [1, 2, 3, 0] rfl)⟩
    · skip
      refine lv_icmp_gt (tgt := 47) hx hb dX7_inTownOn_25 (by decide) (fun c_10 => ?_) (fun c_10 => ?_)
      · replace c_10 := i_lt (x := p0) (y := z_7) rfl rfl c_10
        exact J_47 _ _ _ _ ⟨v4_3_1, ⟨by omega, by omega⟩, rfl, h, (lv_sub hl [0, 1, 2, 3] rfl)⟩
      · replace c_10 := i_nlt (x := p0) (y := z_7) rfl rfl c_10
        refine lv_iload_n hx hb dX7_inTownOn_28 rfl (lv_at hl 1 rfl) ?_
        refine lv_aload_n hx hb dX7_inTownOn_29 rfl (lv_at hl 0 rfl) ?_
        refine q_get X hK h 3 rfl rfl wf_7 0 (by decide) rfl wm_2_37 dX7_inTownOn_30 ?_
        refine q_get X hK h 0 rfl rfl wf_3 9 (by decide) rfl wm_1_110 dX7_inTownOn_33 ?_
        refine lv_iload_n hx hb dX7_inTownOn_36 rfl (lv_at hl 3 rfl) ?_
        refine q_iald X hK h 2 rfl (i_in rfl (by omega) (by omega)) dX7_inTownOn_37 ?_
        obtain ⟨z_11, ez_11, hz_11⟩ := rg_get rf1 (x := v4_3_0) rfl (by omega) (by omega)
        refine q_c z_11 ez_11 ?_
        clear ez_11
        refine lv_icmp_gt (tgt := 47) hx hb dX7_inTownOn_38 (by decide) (fun c_12 => ?_) (fun c_12 => ?_)
        · replace c_12 := i_lt (x := z_11) (y := p0) rfl rfl c_12
          exact J_47 _ _ _ _ ⟨v4_3_1, ⟨by omega, by omega⟩, rfl, h, (lv_sub hl [0, 1, 2, 3] rfl)⟩
        · replace c_12 := i_nlt (x := z_11) (y := p0) rfl rfl c_12
          refine lv_iload_n hx hb dX7_inTownOn_41 rfl (lv_at hl 2 rfl) ?_
          refine lv_iconst (v := 1) hx hb dX7_inTownOn_42 (by decide) ?_
          refine lv_iload_n hx hb dX7_inTownOn_43 rfl (lv_at hl 3 rfl) ?_
          refine lv_ishl hx hb dX7_inTownOn_44 ?_
          obtain ⟨z_13, ez_13, hz_13⟩ := e_shlk (p := v4_3_0) 9 (by decide) rfl (by omega) (by omega)
          refine q_c z_13 ez_13 ?_
          clear ez_13
          refine lv_ior hx hb dX7_inTownOn_45 ?_
          obtain ⟨z_14, ez_14, hz_14⟩ := e_or (x := v4_3_1) (y := z_13) 10 (by decide) rfl rfl (by omega) (by omega) (by omega) (by omega)
          refine q_c z_14 ez_14 ?_
          clear ez_14
          refine lv_istore_n (lv' := [(2, .int z_14), (0, .ref h3), (1, .int p0), (3, .int v4_3_0)]) hx hb dX7_inTownOn_46 rfl hl (by decide) rfl (fun ls_15 hl_15 => ?_)
          clear hl
          exact J_47 _ _ _ _ ⟨z_14, ⟨by omega, by omega⟩, rfl, h, (lv_sub hl_15 [1, 2, 0, 3] rfl)⟩
set_option maxHeartbeats 4000000 in
set_option maxRecDepth 100000 in
theorem gX7_inTown_106 (l : Launch) (D : va_G) (cy : Nat → ClassId) (h0 : Nat) (h1 : Nat) (h2 : Nat) (h3 : Nat) (p0 : Int32) (p1 : Int32) (p2 : Int32) (p3 : Int32) (w0 : Value) (w1 : Value) (w2 : Value) (w3 : Value) (w4 : Value) (w5 : Value) (f0 : Nat → Int32) (f1 : Nat → Int32) (p4 : Int32) (p5 : Int32) (w6 : Value) (hp0 : 1 ≤ (p0).toInt ∧ (p0).toInt ≤ 3) (hp1 : 0 ≤ (p1).toInt ∧ (p1).toInt ≤ 10) (hp2 : 0 ≤ (p2).toInt ∧ (p2).toInt ≤ 920) (hp3 : 0 ≤ (p3).toInt ∧ (p3).toInt ≤ 999) (hp4 : 0 ≤ (p4).toInt ∧ (p4).toInt ≤ 60000) (hp5 : 0 ≤ (p5).toInt ∧ (p5).toInt ≤ 1023) (rf0 : RG f0 10 0 999) (rf1 : RG f1 10 0 1000000) (sz : Nat) : MI l yX7_inTown cX7_inTown 1 .int { frames := 1, cells := 0, slots := 0, locals := 23 } [.ref h3] D cy [(h0, .inr (3, [.int p0, .int p1, .int p2, .int p3, w0, w1, w2, w3, .ref h1, .ref h2, w4, w5])), (h1, .inl (cy 1, 10, .inl f0)), (h2, .inl (cy 1, 10, .inl f1)), (h3, .inr (7, [.ref h0, .int p4, .int p5, w6]))] sz (fun r u => (0 ≤ r.toInt ∧ r.toInt ≤ 1023) ∧ True) (fun u => [(h0, .inr (3, [.int p0, .int p1, .int p2, .int p3, w0, w1, w2, w3, .ref h1, .ref h2, w4, w5])), (h1, .inl (cy 1, 10, .inl f0)), (h2, .inl (cy 1, 10, .inl f1)), (h3, .inr (7, [.ref h0, .int p4, .int p5, w6]))]) 0 0 := by
  refine q_ent (own := RX7) (by decide) rfl (Nat.le_of_ble_eq_true rfl) (fun p e s m below meth c ls X hr hlk hnm hK h hA hl => ?_)
  obtain ⟨hx, hb, hml, hown, ht⟩ := id X
  replace hl : lv_has ls 1 [(0, .ref h3)] := hl
  refine lv_aload_n hx hb dX7_inTown_0 rfl (lv_at hl 0 rfl) ?_
  refine lv_aload_n hx hb dX7_inTown_1 rfl (lv_at hl 0 rfl) ?_
  refine q_get X hK h 3 rfl rfl wf_7 1 (by decide) rfl wm_2_43 dX7_inTown_2 ?_
  refine q_callVi (rest := []) (wr := []) X hK hA h (fun sz => gX7_inTownOn_105 l D cy h0 h1 h2 h3 p4 p0 p1 p2 p3 w0 w1 w2 w3 w4 w5 f0 f1 p5 w6 ⟨by omega, by omega⟩ ⟨by omega, by omega⟩ ⟨by omega, by omega⟩ ⟨by omega, by omega⟩ ⟨by omega, by omega⟩ ⟨by omega, by omega⟩ (rg_wide rf0 (by decide) (by decide)) (rg_wide rf1 (by decide) (by decide)) sz) wm_3_183 wm_3_186 wm_1_9 hd_X7_inTownOn wm_3_184 wm_3_185 (ci := 7) (q0 := 3) rfl rfl ⟨Nat.le_of_ble_eq_true rfl, Nat.le_of_ble_eq_true rfl⟩ hl.1 rfl (Nat.le_of_ble_eq_true rfl) dX7_inTown_5 ⟨Nat.le_of_ble_eq_true rfl, Nat.le_of_ble_eq_true rfl⟩ [0, 1, 2, 3] [] rfl rfl (by decide) rfl rfl (fun r_1 u_1 H locs w_1 h_1 => ?_)
  clear h
  obtain ⟨wr_1, _⟩ := w_1
  replace h_1 : qW D _ _ [(h0, .inr (3, [.int p0, .int p1, .int p2, .int p3, w0, w1, w2, w3, .ref h1, .ref h2, w4, w5])), (h1, .inl (cy 1, 10, .inl f0)), (h2, .inl (cy 1, 10, .inl f1)), (h3, .inr (7, [.ref h0, .int p4, .int p5, w6]))] _ _ := h_1
  exact q_iret X hr hlk hK h_1 rfl (fun _ => 0, fun _ _ => 0, fun _ _ => 0) ⟨⟨by omega, by omega⟩, trivial⟩ [0, 1, 2, 3] rfl rfl dX7_inTown_8 (Nat.le_of_ble_eq_true rfl) (Nat.le_of_ble_eq_true rfl)
set_option maxHeartbeats 4000000 in
set_option maxRecDepth 100000 in
theorem gX4_joined_107 (l : Launch) (D : va_G) (cy : Nat → ClassId) (p0 : Int32) (p1 : Int32) (p2 : Int32) (hp0 : 0 ≤ (p0).toInt ∧ (p0).toInt ≤ 62) (hp1 : (-2147483648) ≤ (p1).toInt ∧ (p1).toInt ≤ 2147483647) (hp2 : (-2147483648) ≤ (p2).toInt ∧ (p2).toInt ≤ 2147483647) (sz : Nat) : MI l yX4_joined cX4_joined 5 .int { frames := 1, cells := 0, slots := 0, locals := 17 } [.int p0, .int p1, .int p2] D cy [] sz (fun r u => ((-1000000) ≤ r.toInt ∧ r.toInt ≤ 1000000) ∧ True) (fun u => []) 0 0 := by
  refine q_ent (own := RX4) (by decide) rfl (Nat.le_of_ble_eq_true rfl) (fun p e s m below meth c ls X hr hlk hnm hK h hA hl => ?_)
  obtain ⟨hx, hb, hml, hown, ht⟩ := id X
  replace hl : lv_has ls 5 [(0, .int p0), (1, .int p1), (2, .int p2)] := hl
  refine lv_iload_n hx hb dX4_joined_0 rfl (lv_at hl 0 rfl) ?_
  refine q_jn (pc2 := 150) (fun H locs ls st => ∃ v150_1_0 : Int64, ((-9223372036854775808) ≤ (v150_1_0).toInt ∧ (v150_1_0).toInt ≤ 9223372036854775807) ∧ st = [] ∧ qW D (va_A [] sz) s.heap [] H locs ∧ lv_has ls 5 [(0, .int p0), (1, .int p1), (2, .int p2), (3, .long v150_1_0)]) (fun H locs ls st hP => ?_) (fun J_150 => ?_)
  · obtain ⟨v150_1_0, hv150_1_0, rfl, h, hl⟩ := hP
    refine lv_ldc2 hx hb hown (ht _ wm_3_215) dX4_joined_150 ?_
    refine lv_ldc2 hx hb hown (ht _ wm_3_216) dX4_joined_153 ?_
    refine lv_lload_n hx hb dX4_joined_156 rfl (lv_at hl 3 rfl) ?_
    refine va_mmin_long hx hb (hml.trans hl.1.symm) hown (ht _ wm_3_217) (ht _ wm_3_218) (ht _ wm_1_13) (ht _ wm_3_219) (Nat.le_of_ble_eq_true rfl) (Nat.le_of_ble_eq_true rfl) (Nat.le_of_ble_eq_true rfl) (Nat.le_of_ble_eq_true rfl) dX4_joined_157 ?_
    obtain ⟨z_2, ez_2, hz_2⟩ := e_minJ (x := 1000000) (y := v150_1_0) (show (1000000 : Int64).toInt = 1000000 by decide) rfl
    refine q_cl z_2 ez_2 ?_
    clear ez_2
    refine va_mmax_long hx hb (hml.trans hl.1.symm) hown (ht _ wm_3_220) (ht _ wm_3_221) (ht _ wm_1_13) (ht _ wm_3_222) (Nat.le_of_ble_eq_true rfl) (Nat.le_of_ble_eq_true rfl) (Nat.le_of_ble_eq_true rfl) (Nat.le_of_ble_eq_true rfl) dX4_joined_160 ?_
    obtain ⟨z_3, ez_3, hz_3⟩ := e_maxJ (x := (-1000000)) (y := z_2) (show ((-1000000) : Int64).toInt = -1000000 by decide) rfl
    refine q_cl z_3 ez_3 ?_
    clear ez_3
    refine lv_l2i hx hb dX4_joined_163 rfl ?_
    obtain ⟨z_4, ez_4, hz_4⟩ := e_l2i (x := z_3) rfl (by omega) (by omega)
    refine q_c z_4 ez_4 ?_
    clear ez_4
    exact q_iret X hr hlk hK h rfl (fun _ => 0, fun _ _ => 0, fun _ _ => 0) ⟨⟨by omega, by omega⟩, trivial⟩ [] rfl rfl dX4_joined_164 (Nat.le_of_ble_eq_true rfl) (Nat.le_of_ble_eq_true rfl)
  · skip
    by_cases c_5 : p0 = 22
    · have ec_5 : (p0).toInt = 22 := by rw [c_5]; decide
      refine lv_lookup (off := 136) (tgt := 137) hx hb dX4_joined_1 (by decide +kernel) (by rw [c_5]; decide +kernel) (by decide) ?_
      refine lv_iload_n hx hb dX4_joined_137 rfl (lv_at hl 1 rfl) ?_
      refine lv_iload_n hx hb dX4_joined_138 rfl (lv_at hl 2 rfl) ?_
      refine lv_iand hx hb dX4_joined_139 ?_
      refine q_any (fun z_6 hz_6 => ?_)
      refine lv_i2l hx hb dX4_joined_140 rfl ?_
      obtain ⟨z_7, ez_7, hz_7⟩ := e_i2l (x := z_6) rfl
      refine q_cl z_7 ez_7 ?_
      clear ez_7
      refine lv_lstore_n (lv' := [(3, .long z_7), (0, .int p0), (1, .int p1), (2, .int p2)]) hx hb dX4_joined_141 rfl hl (by decide) rfl (fun ls_8 hl_8 => ?_)
      clear hl
      refine lv_goto (tgt := 150) hx hb dX4_joined_142 (by decide) ?_
      exact J_150 _ _ _ _ ⟨z_7, ⟨by omega, by omega⟩, rfl, h, (lv_sub hl_8 [1, 2, 3, 0] rfl)⟩
    by_cases c_9 : p0 = 42
    · have ec_9 : (p0).toInt = 42 := by rw [c_9]; decide
      refine lv_lookup (off := 85) (tgt := 86) hx hb dX4_joined_1 (by decide +kernel) (by rw [c_9]; decide +kernel) (by decide) ?_
      refine lv_iload_n hx hb dX4_joined_86 rfl (lv_at hl 1 rfl) ?_
      refine lv_i2l hx hb dX4_joined_87 rfl ?_
      obtain ⟨z_10, ez_10, hz_10⟩ := e_i2l (x := p1) rfl
      refine q_cl z_10 ez_10 ?_
      clear ez_10
      refine lv_iload_n hx hb dX4_joined_88 rfl (lv_at hl 2 rfl) ?_
      refine lv_i2l hx hb dX4_joined_89 rfl ?_
      obtain ⟨z_11, ez_11, hz_11⟩ := e_i2l (x := p2) rfl
      refine q_cl z_11 ez_11 ?_
      clear ez_11
      refine lv_lmul hx hb dX4_joined_90 ?_
      refine q_anyJ (fun z_12 hz_12 => ?_)
      refine lv_lstore_n (lv' := [(3, .long z_12), (0, .int p0), (1, .int p1), (2, .int p2)]) hx hb dX4_joined_91 rfl hl (by decide) rfl (fun ls_13 hl_13 => ?_)
      clear hl
      refine lv_goto (tgt := 150) hx hb dX4_joined_92 (by decide) ?_
      exact J_150 _ _ _ _ ⟨z_12, ⟨by omega, by omega⟩, rfl, h, (lv_sub hl_13 [1, 2, 3, 0] rfl)⟩
    by_cases c_14 : p0 = 43
    · have ec_14 : (p0).toInt = 43 := by rw [c_14]; decide
      refine lv_lookup (off := 67) (tgt := 68) hx hb dX4_joined_1 (by decide +kernel) (by rw [c_14]; decide +kernel) (by decide) ?_
      refine lv_iload_n hx hb dX4_joined_68 rfl (lv_at hl 1 rfl) ?_
      refine lv_i2l hx hb dX4_joined_69 rfl ?_
      obtain ⟨z_15, ez_15, hz_15⟩ := e_i2l (x := p1) rfl
      refine q_cl z_15 ez_15 ?_
      clear ez_15
      refine lv_iload_n hx hb dX4_joined_70 rfl (lv_at hl 2 rfl) ?_
      refine lv_i2l hx hb dX4_joined_71 rfl ?_
      obtain ⟨z_16, ez_16, hz_16⟩ := e_i2l (x := p2) rfl
      refine q_cl z_16 ez_16 ?_
      clear ez_16
      refine lv_ladd hx hb dX4_joined_72 ?_
      refine q_anyJ (fun z_17 hz_17 => ?_)
      refine lv_lstore_n (lv' := [(3, .long z_17), (0, .int p0), (1, .int p1), (2, .int p2)]) hx hb dX4_joined_73 rfl hl (by decide) rfl (fun ls_18 hl_18 => ?_)
      clear hl
      refine lv_goto (tgt := 150) hx hb dX4_joined_74 (by decide) ?_
      exact J_150 _ _ _ _ ⟨z_17, ⟨by omega, by omega⟩, rfl, h, (lv_sub hl_18 [1, 2, 3, 0] rfl)⟩
    by_cases c_19 : p0 = 45
    · have ec_19 : (p0).toInt = 45 := by rw [c_19]; decide
      refine lv_lookup (off := 76) (tgt := 77) hx hb dX4_joined_1 (by decide +kernel) (by rw [c_19]; decide +kernel) (by decide) ?_
      refine lv_iload_n hx hb dX4_joined_77 rfl (lv_at hl 1 rfl) ?_
      refine lv_i2l hx hb dX4_joined_78 rfl ?_
      obtain ⟨z_20, ez_20, hz_20⟩ := e_i2l (x := p1) rfl
      refine q_cl z_20 ez_20 ?_
      clear ez_20
      refine lv_iload_n hx hb dX4_joined_79 rfl (lv_at hl 2 rfl) ?_
      refine lv_i2l hx hb dX4_joined_80 rfl ?_
      obtain ⟨z_21, ez_21, hz_21⟩ := e_i2l (x := p2) rfl
      refine q_cl z_21 ez_21 ?_
      clear ez_21
      refine lv_lsub hx hb dX4_joined_81 ?_
      refine q_anyJ (fun z_22 hz_22 => ?_)
      refine lv_lstore_n (lv' := [(3, .long z_22), (0, .int p0), (1, .int p1), (2, .int p2)]) hx hb dX4_joined_82 rfl hl (by decide) rfl (fun ls_23 hl_23 => ?_)
      clear hl
      refine lv_goto (tgt := 150) hx hb dX4_joined_83 (by decide) ?_
      exact J_150 _ _ _ _ ⟨z_22, ⟨by omega, by omega⟩, rfl, h, (lv_sub hl_23 [1, 2, 3, 0] rfl)⟩
    by_cases c_24 : p0 = 60
    · have ec_24 : (p0).toInt = 60 := by rw [c_24]; decide
      refine lv_lookup (off := 108) (tgt := 109) hx hb dX4_joined_1 (by decide +kernel) (by rw [c_24]; decide +kernel) (by decide) ?_
      refine lv_iload_n hx hb dX4_joined_109 rfl (lv_at hl 1 rfl) ?_
      refine lv_iload_n hx hb dX4_joined_110 rfl (lv_at hl 2 rfl) ?_
      refine q_jn (pc2 := 119) (fun H locs ls st => ∃ v119_25_0 : Int64, (0 ≤ (v119_25_0).toInt ∧ (v119_25_0).toInt ≤ 1) ∧ st = [.long v119_25_0] ∧ qW D (va_A [] sz) s.heap [] H locs ∧ lv_has ls 5 [(0, .int p0), (1, .int p1), (2, .int p2)]) (fun H locs ls st hP => ?_) (fun J_119 => ?_)
      · obtain ⟨v119_25_0, hv119_25_0, rfl, h, hl⟩ := hP
        refine lv_lstore_n (lv' := [(3, .long v119_25_0), (0, .int p0), (1, .int p1), (2, .int p2)]) hx hb dX4_joined_119 rfl hl (by decide) rfl (fun ls_26 hl_26 => ?_)
        clear hl
        refine lv_goto (tgt := 150) hx hb dX4_joined_120 (by decide) ?_
        exact J_150 _ _ _ _ ⟨v119_25_0, ⟨by omega, by omega⟩, rfl, h, (lv_sub hl_26 [1, 2, 3, 0] rfl)⟩
      · skip
        refine lv_icmp_ge (tgt := 118) hx hb dX4_joined_111 (by decide) (fun c_27 => ?_) (fun c_27 => ?_)
        · replace c_27 := i_le (x := p2) (y := p1) rfl rfl c_27
          refine lv_lconst (v := 0) hx hb dX4_joined_118 (by decide) ?_
          exact J_119 _ _ _ _ ⟨0, ⟨by decide +kernel, by decide +kernel⟩, rfl, h, (lv_sub hl [0, 1, 2] rfl)⟩
        · replace c_27 := i_nle (x := p2) (y := p1) rfl rfl c_27
          refine lv_lconst (v := 1) hx hb dX4_joined_114 (by decide) ?_
          refine lv_goto (tgt := 119) hx hb dX4_joined_115 (by decide) ?_
          exact J_119 _ _ _ _ ⟨1, ⟨by decide +kernel, by decide +kernel⟩, rfl, h, (lv_sub hl [0, 1, 2] rfl)⟩
    by_cases c_28 : p0 = 61
    · have ec_28 : (p0).toInt = 61 := by rw [c_28]; decide
      refine lv_lookup (off := 94) (tgt := 95) hx hb dX4_joined_1 (by decide +kernel) (by rw [c_28]; decide +kernel) (by decide) ?_
      refine lv_iload_n hx hb dX4_joined_95 rfl (lv_at hl 1 rfl) ?_
      refine lv_iload_n hx hb dX4_joined_96 rfl (lv_at hl 2 rfl) ?_
      refine q_jn (pc2 := 105) (fun H locs ls st => ∃ v105_29_0 : Int64, (0 ≤ (v105_29_0).toInt ∧ (v105_29_0).toInt ≤ 1) ∧ st = [.long v105_29_0] ∧ qW D (va_A [] sz) s.heap [] H locs ∧ lv_has ls 5 [(0, .int p0), (1, .int p1), (2, .int p2)]) (fun H locs ls st hP => ?_) (fun J_105 => ?_)
      · obtain ⟨v105_29_0, hv105_29_0, rfl, h, hl⟩ := hP
        refine lv_lstore_n (lv' := [(3, .long v105_29_0), (0, .int p0), (1, .int p1), (2, .int p2)]) hx hb dX4_joined_105 rfl hl (by decide) rfl (fun ls_30 hl_30 => ?_)
        clear hl
        refine lv_goto (tgt := 150) hx hb dX4_joined_106 (by decide) ?_
        exact J_150 _ _ _ _ ⟨v105_29_0, ⟨by omega, by omega⟩, rfl, h, (lv_sub hl_30 [1, 2, 3, 0] rfl)⟩
      · skip
        refine lv_icmp_ne (tgt := 104) hx hb dX4_joined_97 (by decide) (fun c_31 => ?_) (fun c_31 => ?_)
        · replace c_31 := i_ne (x := p1) (y := p2) rfl rfl c_31
          refine lv_lconst (v := 0) hx hb dX4_joined_104 (by decide) ?_
          exact J_105 _ _ _ _ ⟨0, ⟨by decide +kernel, by decide +kernel⟩, rfl, h, (lv_sub hl [0, 1, 2] rfl)⟩
        · replace c_31 := i_eq (x := p1) (y := p2) rfl rfl c_31
          refine lv_lconst (v := 1) hx hb dX4_joined_100 (by decide) ?_
          refine lv_goto (tgt := 105) hx hb dX4_joined_101 (by decide) ?_
          exact J_105 _ _ _ _ ⟨1, ⟨by decide +kernel, by decide +kernel⟩, rfl, h, (lv_sub hl [0, 1, 2] rfl)⟩
    by_cases c_32 : p0 = 62
    · have ec_32 : (p0).toInt = 62 := by rw [c_32]; decide
      refine lv_lookup (off := 122) (tgt := 123) hx hb dX4_joined_1 (by decide +kernel) (by rw [c_32]; decide +kernel) (by decide) ?_
      refine lv_iload_n hx hb dX4_joined_123 rfl (lv_at hl 1 rfl) ?_
      refine lv_iload_n hx hb dX4_joined_124 rfl (lv_at hl 2 rfl) ?_
      refine q_jn (pc2 := 133) (fun H locs ls st => ∃ v133_33_0 : Int64, (0 ≤ (v133_33_0).toInt ∧ (v133_33_0).toInt ≤ 1) ∧ st = [.long v133_33_0] ∧ qW D (va_A [] sz) s.heap [] H locs ∧ lv_has ls 5 [(0, .int p0), (1, .int p1), (2, .int p2)]) (fun H locs ls st hP => ?_) (fun J_133 => ?_)
      · obtain ⟨v133_33_0, hv133_33_0, rfl, h, hl⟩ := hP
        refine lv_lstore_n (lv' := [(3, .long v133_33_0), (0, .int p0), (1, .int p1), (2, .int p2)]) hx hb dX4_joined_133 rfl hl (by decide) rfl (fun ls_34 hl_34 => ?_)
        clear hl
        refine lv_goto (tgt := 150) hx hb dX4_joined_134 (by decide) ?_
        exact J_150 _ _ _ _ ⟨v133_33_0, ⟨by omega, by omega⟩, rfl, h, (lv_sub hl_34 [1, 2, 3, 0] rfl)⟩
      · skip
        refine lv_icmp_le (tgt := 132) hx hb dX4_joined_125 (by decide) (fun c_35 => ?_) (fun c_35 => ?_)
        · replace c_35 := i_le (x := p1) (y := p2) rfl rfl c_35
          refine lv_lconst (v := 0) hx hb dX4_joined_132 (by decide) ?_
          exact J_133 _ _ _ _ ⟨0, ⟨by decide +kernel, by decide +kernel⟩, rfl, h, (lv_sub hl [0, 1, 2] rfl)⟩
        · replace c_35 := i_nle (x := p1) (y := p2) rfl rfl c_35
          refine lv_lconst (v := 1) hx hb dX4_joined_128 (by decide) ?_
          refine lv_goto (tgt := 133) hx hb dX4_joined_129 (by decide) ?_
          exact J_133 _ _ _ _ ⟨1, ⟨by decide +kernel, by decide +kernel⟩, rfl, h, (lv_sub hl [0, 1, 2] rfl)⟩
    have nc_5 := lv_neT c_5 (show (22 : Int32).toInt = 22 by decide)
    have nc_9 := lv_neT c_9 (show (42 : Int32).toInt = 42 by decide)
    have nc_14 := lv_neT c_14 (show (43 : Int32).toInt = 43 by decide)
    have nc_19 := lv_neT c_19 (show (45 : Int32).toInt = 45 by decide)
    have nc_24 := lv_neT c_24 (show (60 : Int32).toInt = 60 by decide)
    have nc_28 := lv_neT c_28 (show (61 : Int32).toInt = 61 by decide)
    have nc_32 := lv_neT c_32 (show (62 : Int32).toInt = 62 by decide)
    refine lv_lookup (off := 144) (tgt := 145) hx hb dX4_joined_1 (by decide +kernel) ((lv_osw c_5 (by decide)).trans ((lv_osw c_9 (by decide)).trans ((lv_osw c_14 (by decide)).trans ((lv_osw c_19 (by decide)).trans ((lv_osw c_24 (by decide)).trans ((lv_osw c_28 (by decide)).trans ((lv_osw c_32 (by decide)).trans rfl))))))) (by decide) ?_
    refine lv_iload_n hx hb dX4_joined_145 rfl (lv_at hl 1 rfl) ?_
    refine lv_iload_n hx hb dX4_joined_146 rfl (lv_at hl 2 rfl) ?_
    refine lv_ior hx hb dX4_joined_147 ?_
    refine q_any (fun z_36 hz_36 => ?_)
    refine lv_i2l hx hb dX4_joined_148 rfl ?_
    obtain ⟨z_37, ez_37, hz_37⟩ := e_i2l (x := z_36) rfl
    refine q_cl z_37 ez_37 ?_
    clear ez_37
    refine lv_lstore_n (lv' := [(3, .long z_37), (0, .int p0), (1, .int p1), (2, .int p2)]) hx hb dX4_joined_149 rfl hl (by decide) rfl (fun ls_38 hl_38 => ?_)
    clear hl
    exact J_150 _ _ _ _ ⟨z_37, ⟨by omega, by omega⟩, rfl, h, (lv_sub hl_38 [1, 2, 3, 0] rfl)⟩
set_option maxHeartbeats 4000000 in
set_option maxRecDepth 100000 in
theorem gX4_valueFor_108 (l : Launch) (D : va_G) (cy : Nat → ClassId) (h0 : Nat) (h1 : Nat) (h2 : Nat) (h3 : Nat) (f0 : Nat → Int32) (f1 : Nat → Int32) (f2 : Nat → Int32) (rf0 : RG f0 300 0 2062) (sz : Nat) : MI l yX4_valueFor cX4_valueFor 7 .int { frames := 2, cells := 0, slots := 0, locals := 41 } [.ref h0, .ref h3, .ref h2] D cy [(h0, .inr (4, [.ref h1])), (h1, .inl (cy 1, 300, .inl f0)), (h2, .inl (cy 1, 64, .inl f1)), (h3, .inl (cy 1, 11, .inl f2))] sz (fun r u => ((-2147483648) ≤ r.toInt ∧ r.toInt ≤ 2147483647) ∧ True) (fun u => [(h0, .inr (4, [.ref h1])), (h1, .inl (cy 1, 300, .inl f0)), (h2, .inl (cy 1, 64, .inl (u.2.1 0))), (h3, .inl (cy 1, 11, .inl f2))]) 0 0 := by
  refine q_ent (own := RX4) (by decide) rfl (Nat.le_of_ble_eq_true rfl) (fun p e s m below meth c ls X hr hlk hnm hK h hA hl => ?_)
  obtain ⟨hx, hb, hml, hown, ht⟩ := id X
  replace hl : lv_has ls 7 [(0, .ref h0), (1, .ref h3), (2, .ref h2)] := hl
  refine lv_iconst (v := 0) hx hb dX4_valueFor_0 (by decide) ?_
  refine lv_istore_n (lv' := [(3, .int 0), (0, .ref h0), (1, .ref h3), (2, .ref h2)]) hx hb dX4_valueFor_1 rfl hl (by decide) rfl (fun ls_1 hl_1 => ?_)
  clear hl
  refine lv_iconst (v := 0) hx hb dX4_valueFor_2 (by decide) ?_
  refine lv_istore (lv' := [(4, .int 0), (3, .int 0), (0, .ref h0), (1, .ref h3), (2, .ref h2)]) hx hb dX4_valueFor_3 hl_1 (by decide) rfl (fun ls_2 hl_2 => ?_)
  clear hl_1
  refine q_wl (fun (q : Int32 × Int32) H locs ls => match q with | (v5_3_0, v5_3_1) => ∃ v5_3_2 : Nat → Int32, (0 ≤ (v5_3_0).toInt ∧ (v5_3_0).toInt ≤ 900) ∧ (0 ≤ (v5_3_1).toInt ∧ (v5_3_1).toInt ≤ 64) ∧ qW D (va_A [(h0, .inr (4, [.ref h1])), (h1, .inl (cy 1, 300, .inl f0)), (h2, .inl (cy 1, 64, .inl f1)), (h3, .inl (cy 1, 11, .inl f2))] sz) s.heap [(h0, .inr (4, [.ref h1])), (h1, .inl (cy 1, 300, .inl f0)), (h2, .inl (cy 1, 64, .inl v5_3_2)), (h3, .inl (cy 1, 11, .inl f2))] H locs ∧ lv_has ls 7 [(0, .ref h0), (1, .ref h3), (2, .ref h2), (3, .int v5_3_1), (4, .int v5_3_0)]) (fun (q : Int32 × Int32) => match q with | (v5_3_0, v5_3_1) => (901 - (v5_3_0).toInt).toNat) (fun q_5 ih_5 H locs ls hP => ?_) (0, 0) ⟨f1, ⟨by decide +kernel, by decide +kernel⟩, ⟨by decide +kernel, by decide +kernel⟩, h, (lv_sub hl_2 [2, 3, 4, 1, 0] rfl)⟩
  obtain ⟨v5_3_0, v5_3_1⟩ := q_5
  obtain ⟨v5_3_2, hv5_3_0, hv5_3_1, h, hl⟩ := hP
  refine lv_iload hx hb dX4_valueFor_5 (lv_at hl 4 rfl) ?_
  refine lv_aload_n hx hb dX4_valueFor_7 rfl (lv_at hl 0 rfl) ?_
  refine q_get X hK h 0 rfl rfl wf_4 0 (by decide) rfl wm_3_153 dX4_valueFor_8 ?_
  refine q_alen X hK h 1 1 rfl rfl 300 (show Int32.ofNat 300 = 300 by decide) dX4_valueFor_11 ?_
  refine lv_icmp_ge (tgt := 139) hx hb dX4_valueFor_12 (by decide) (fun c_4 => ?_) (fun c_4 => ?_)
  · replace c_4 := i_le (x := 300) (y := v5_3_0) (show (300 : Int32).toInt = 300 by decide) rfl c_4
    refine lv_iload_n hx hb dX4_valueFor_139 rfl (lv_at hl 3 rfl) ?_
    refine q_jn (pc2 := 150) (fun H locs ls st => ∃ v150_5_0 : Int32, ((-2147483648) ≤ (v150_5_0).toInt ∧ (v150_5_0).toInt ≤ 2147483647) ∧ st = [.int v150_5_0] ∧ qW D (va_A [(h0, .inr (4, [.ref h1])), (h1, .inl (cy 1, 300, .inl f0)), (h2, .inl (cy 1, 64, .inl f1)), (h3, .inl (cy 1, 11, .inl f2))] sz) s.heap [(h0, .inr (4, [.ref h1])), (h1, .inl (cy 1, 300, .inl f0)), (h2, .inl (cy 1, 64, .inl v5_3_2)), (h3, .inl (cy 1, 11, .inl f2))] H locs ∧ lv_has ls 7 [(0, .ref h0), (1, .ref h3), (2, .ref h2), (3, .int v5_3_1), (4, .int v5_3_0)]) (fun H locs ls st hP => ?_) (fun J_150 => ?_)
    · obtain ⟨v150_5_0, hv150_5_0, rfl, h, hl⟩ := hP
      exact q_iret X hr hlk hK h rfl (fun _ => 0, fun k => List.getD [v5_3_2] k (fun _ => 0), fun _ _ => 0) ⟨⟨by omega, by omega⟩, trivial⟩ [0, 1, 2, 3] rfl rfl dX4_valueFor_150 (Nat.le_of_ble_eq_true rfl) (Nat.le_of_ble_eq_true rfl)
    · skip
      refine lv_if_le (tgt := 149) hx hb dX4_valueFor_140 (by decide) (fun c_6 => ?_) (fun c_6 => ?_)
      · replace c_6 := i_le (x := v5_3_1) (y := 0) rfl (show (0 : Int32).toInt = 0 by decide) c_6
        refine lv_iconst (v := 0) hx hb dX4_valueFor_149 (by decide) ?_
        exact J_150 _ _ _ _ ⟨0, ⟨by decide +kernel, by decide +kernel⟩, rfl, h, (lv_sub hl [0, 1, 2, 3, 4] rfl)⟩
      · replace c_6 := i_nle (x := v5_3_1) (y := 0) rfl (show (0 : Int32).toInt = 0 by decide) c_6
        refine lv_aload_n hx hb dX4_valueFor_143 rfl (lv_at hl 2 rfl) ?_
        refine lv_iconst (v := 0) hx hb dX4_valueFor_144 (by decide) ?_
        refine q_iald X hK h 2 rfl (q_in (by decide +kernel)) dX4_valueFor_145 ?_
        refine q_any (fun z_7 hz_7 => ?_)
        refine lv_goto (tgt := 150) hx hb dX4_valueFor_146 (by decide) ?_
        exact J_150 _ _ _ _ ⟨z_7, ⟨by omega, by omega⟩, rfl, h, (lv_sub hl [0, 1, 2, 3, 4] rfl)⟩
  · replace c_4 := i_nle (x := 300) (y := v5_3_0) (show (300 : Int32).toInt = 300 by decide) rfl c_4
    refine lv_aload_n hx hb dX4_valueFor_15 rfl (lv_at hl 0 rfl) ?_
    refine q_get X hK h 0 rfl rfl wf_4 0 (by decide) rfl wm_3_153 dX4_valueFor_16 ?_
    refine lv_iload hx hb dX4_valueFor_19 (lv_at hl 4 rfl) ?_
    refine q_iald X hK h 1 rfl (i_in rfl (by omega) (by omega)) dX4_valueFor_21 ?_
    obtain ⟨z_8, ez_8, hz_8⟩ := rg_get rf0 (x := v5_3_0) rfl (by omega) (by omega)
    refine q_c z_8 ez_8 ?_
    clear ez_8
    refine lv_istore (lv' := [(5, .int z_8), (0, .ref h0), (1, .ref h3), (2, .ref h2), (3, .int v5_3_1), (4, .int v5_3_0)]) hx hb dX4_valueFor_22 hl (by decide) rfl (fun ls_9 hl_9 => ?_)
    clear hl
    refine lv_iload hx hb dX4_valueFor_24 (lv_at hl_9 0 rfl) ?_
    refine lv_sipush (v := 2000) hx hb dX4_valueFor_26 (by decide) ?_
    refine q_jn (pc2 := 133) (fun H locs ls st => ∃ v133_10_0 : Int32, ∃ v133_10_1 : Nat → Int32, (0 ≤ (v133_10_0).toInt ∧ (v133_10_0).toInt ≤ 64) ∧ st = [] ∧ qW D (va_A [(h0, .inr (4, [.ref h1])), (h1, .inl (cy 1, 300, .inl f0)), (h2, .inl (cy 1, 64, .inl f1)), (h3, .inl (cy 1, 11, .inl f2))] sz) s.heap [(h0, .inr (4, [.ref h1])), (h1, .inl (cy 1, 300, .inl f0)), (h2, .inl (cy 1, 64, .inl v133_10_1)), (h3, .inl (cy 1, 11, .inl f2))] H locs ∧ lv_has ls 7 [(0, .ref h0), (1, .ref h3), (2, .ref h2), (3, .int v133_10_0), (4, .int v5_3_0), (5, .int z_8)]) (fun H locs ls st hP => ?_) (fun J_133 => ?_)
    · obtain ⟨v133_10_0, v133_10_1, hv133_10_0, rfl, h, hl⟩ := hP
      obtain ⟨z_11, ez_11, hz_11⟩ := e_add (x := v5_3_0) (y := Int32.ofInt 1) rfl (b := 1) (by decide) (by omega) (by omega)
      refine lv_iinc (v := z_11) (lv' := [(4, .int z_11), (0, .ref h0), (1, .ref h3), (2, .ref h2), (3, .int v133_10_0), (5, .int z_8)]) hx hb dX4_valueFor_133 hl (k := 4) rfl ez_11 (by decide) rfl (fun ls_11 hl_11 => ?_)
      clear hl
      refine lv_goto (tgt := 5) hx hb dX4_valueFor_136 (by decide) ?_
      exact ih_5 (z_11, v133_10_0) (by show (901 - (z_11).toInt).toNat < (901 - (v5_3_0).toInt).toNat; omega) _ _ _ ⟨v133_10_1, ⟨by omega, by omega⟩, ⟨by omega, by omega⟩, h, (lv_sub hl_11 [1, 2, 3, 4, 0] rfl)⟩
    · skip
      refine lv_icmp_ge (tgt := 76) hx hb dX4_valueFor_29 (by decide) (fun c_12 => ?_) (fun c_12 => ?_)
      · replace c_12 := i_le (x := 2000) (y := z_8) (show (2000 : Int32).toInt = 2000 by decide) rfl c_12
        refine lv_iload hx hb dX4_valueFor_76 (lv_at hl_9 0 rfl) ?_
        refine lv_sipush (v := 2023) hx hb dX4_valueFor_78 (by decide) ?_
        refine lv_icmp_ne (tgt := 103) hx hb dX4_valueFor_81 (by decide) (fun c_13 => ?_) (fun c_13 => ?_)
        · replace c_13 := i_ne (x := z_8) (y := 2023) rfl (show (2023 : Int32).toInt = 2023 by decide) c_13
          refine lv_iload_n hx hb dX4_valueFor_103 rfl (lv_at hl_9 4 rfl) ?_
          refine lv_iconst (v := 1) hx hb dX4_valueFor_104 (by decide) ?_
          refine lv_icmp_le (tgt := 133) hx hb dX4_valueFor_105 (by decide) (fun c_14 => ?_) (fun c_14 => ?_)
          · replace c_14 := i_le (x := v5_3_1) (y := 1) rfl (show (1 : Int32).toInt = 1 by decide) c_14
            exact J_133 _ _ _ _ ⟨v5_3_1, v5_3_2, ⟨by omega, by omega⟩, rfl, h, (lv_sub hl_9 [1, 2, 3, 4, 5, 0] rfl)⟩
          · replace c_14 := i_nle (x := v5_3_1) (y := 1) rfl (show (1 : Int32).toInt = 1 by decide) c_14
            obtain ⟨z_15, ez_15, hz_15⟩ := e_add (x := v5_3_1) (y := Int32.ofInt (-1)) rfl (b := (-1)) (by decide) (by omega) (by omega)
            refine lv_iinc (v := z_15) (lv' := [(3, .int z_15), (5, .int z_8), (0, .ref h0), (1, .ref h3), (2, .ref h2), (4, .int v5_3_0)]) hx hb dX4_valueFor_108 hl_9 (k := 4) rfl ez_15 (by decide) rfl (fun ls_15 hl_15 => ?_)
            clear hl_9
            refine lv_aload_n hx hb dX4_valueFor_111 rfl (lv_at hl_15 4 rfl) ?_
            refine lv_iload_n hx hb dX4_valueFor_112 rfl (lv_at hl_15 0 rfl) ?_
            refine lv_iconst (v := 1) hx hb dX4_valueFor_113 (by decide) ?_
            refine lv_isub hx hb dX4_valueFor_114 ?_
            obtain ⟨z_16, ez_16, hz_16⟩ := e_sub (x := z_15) (y := 1) rfl (show (1 : Int32).toInt = 1 by decide) (by omega) (by omega)
            refine q_c z_16 ez_16 ?_
            clear ez_16
            refine lv_iload hx hb dX4_valueFor_115 (lv_at hl_15 1 rfl) ?_
            refine lv_sipush (v := 2000) hx hb dX4_valueFor_117 (by decide) ?_
            refine lv_isub hx hb dX4_valueFor_120 ?_
            obtain ⟨z_17, ez_17, hz_17⟩ := e_sub (x := z_8) (y := 2000) rfl (show (2000 : Int32).toInt = 2000 by decide) (by omega) (by omega)
            refine q_c z_17 ez_17 ?_
            clear ez_17
            refine lv_aload_n hx hb dX4_valueFor_121 rfl (lv_at hl_15 4 rfl) ?_
            refine lv_iload_n hx hb dX4_valueFor_122 rfl (lv_at hl_15 0 rfl) ?_
            refine lv_iconst (v := 1) hx hb dX4_valueFor_123 (by decide) ?_
            refine lv_isub hx hb dX4_valueFor_124 ?_
            obtain ⟨z_18, ez_18, hz_18⟩ := e_sub (x := z_15) (y := 1) rfl (show (1 : Int32).toInt = 1 by decide) (by omega) (by omega)
            refine q_c z_18 ez_18 ?_
            clear ez_18
            refine q_iald X hK h 2 rfl (i_in rfl (by omega) (by omega)) dX4_valueFor_125 ?_
            refine q_any (fun z_19 hz_19 => ?_)
            refine lv_aload_n hx hb dX4_valueFor_126 rfl (lv_at hl_15 4 rfl) ?_
            refine lv_iload_n hx hb dX4_valueFor_127 rfl (lv_at hl_15 0 rfl) ?_
            refine q_iald X hK h 2 rfl (i_in rfl (by omega) (by omega)) dX4_valueFor_128 ?_
            refine q_any (fun z_20 hz_20 => ?_)
            refine q_callSi (rest := [.int z_16, .ref h2]) (wr := [(h0, .inr (4, [.ref h1])), (h1, .inl (cy 1, 300, .inl f0)), (h2, .inl (cy 1, 64, .inl v5_3_2)), (h3, .inl (cy 1, 11, .inl f2))]) X hK hA h (fun sz => gX4_joined_107 l D cy z_17 z_19 z_20 ⟨by omega, by omega⟩ (i_rng _) (i_rng _) sz) wm_3_212 wm_3_214 wm_1_19 hd_X4_joined wm_3_213 ⟨Nat.le_of_ble_eq_true rfl, Nat.le_of_ble_eq_true rfl⟩ hl_15.1 rfl (Nat.le_of_ble_eq_true rfl) dX4_valueFor_129 ⟨Nat.le_of_ble_eq_true rfl, Nat.le_of_ble_eq_true rfl⟩ [] [0, 1, 2, 3] rfl rfl (by decide) rfl rfl (fun r_21 u_21 H locs w_21 h_21 => ?_)
            clear h
            obtain ⟨wr_21, _⟩ := w_21
            replace h_21 : qW D _ _ [(h0, .inr (4, [.ref h1])), (h1, .inl (cy 1, 300, .inl f0)), (h2, .inl (cy 1, 64, .inl v5_3_2)), (h3, .inl (cy 1, 11, .inl f2))] _ _ := h_21
            refine q_iast X hK h_21 2 rfl (i_in rfl (by omega) (by omega)) dX4_valueFor_132 (fun H locs h_23 => ?_)
            clear h_21
            replace h_23 : qW D _ _ [(h0, .inr (4, [.ref h1])), (h1, .inl (cy 1, 300, .inl f0)), (h2, .inl (cy 1, 64, .inl (upd v5_3_2 (Int32.toNatClampNeg z_16) r_21))), (h3, .inl (cy 1, 11, .inl f2))] _ _ := h_23
            obtain ⟨F_22, eF_22⟩ : ∃ z, (upd v5_3_2 (Int32.toNatClampNeg z_16) r_21) = z := ⟨_, rfl⟩
            rw [eF_22] at h_23
            clear eF_22
            exact J_133 _ _ _ _ ⟨z_15, F_22, ⟨by omega, by omega⟩, rfl, h_23, (lv_sub hl_15 [2, 3, 4, 0, 5, 1] rfl)⟩
        · replace c_13 := i_eq (x := z_8) (y := 2023) rfl (show (2023 : Int32).toInt = 2023 by decide) c_13
          refine lv_iload_n hx hb dX4_valueFor_84 rfl (lv_at hl_9 4 rfl) ?_
          refine lv_if_le (tgt := 133) hx hb dX4_valueFor_85 (by decide) (fun c_24 => ?_) (fun c_24 => ?_)
          · replace c_24 := i_le (x := v5_3_1) (y := 0) rfl (show (0 : Int32).toInt = 0 by decide) c_24
            exact J_133 _ _ _ _ ⟨v5_3_1, v5_3_2, ⟨by omega, by omega⟩, rfl, h, (lv_sub hl_9 [1, 2, 3, 4, 5, 0] rfl)⟩
          · replace c_24 := i_nle (x := v5_3_1) (y := 0) rfl (show (0 : Int32).toInt = 0 by decide) c_24
            refine lv_aload_n hx hb dX4_valueFor_88 rfl (lv_at hl_9 3 rfl) ?_
            refine lv_iload_n hx hb dX4_valueFor_89 rfl (lv_at hl_9 4 rfl) ?_
            refine lv_iconst (v := 1) hx hb dX4_valueFor_90 (by decide) ?_
            refine lv_isub hx hb dX4_valueFor_91 ?_
            obtain ⟨z_25, ez_25, hz_25⟩ := e_sub (x := v5_3_1) (y := 1) rfl (show (1 : Int32).toInt = 1 by decide) (by omega) (by omega)
            refine q_c z_25 ez_25 ?_
            clear ez_25
            refine lv_iconst (v := 1) hx hb dX4_valueFor_92 (by decide) ?_
            refine lv_aload_n hx hb dX4_valueFor_93 rfl (lv_at hl_9 3 rfl) ?_
            refine lv_iload_n hx hb dX4_valueFor_94 rfl (lv_at hl_9 4 rfl) ?_
            refine lv_iconst (v := 1) hx hb dX4_valueFor_95 (by decide) ?_
            refine lv_isub hx hb dX4_valueFor_96 ?_
            obtain ⟨z_26, ez_26, hz_26⟩ := e_sub (x := v5_3_1) (y := 1) rfl (show (1 : Int32).toInt = 1 by decide) (by omega) (by omega)
            refine q_c z_26 ez_26 ?_
            clear ez_26
            refine q_iald X hK h 2 rfl (i_in rfl (by omega) (by omega)) dX4_valueFor_97 ?_
            refine q_any (fun z_27 hz_27 => ?_)
            refine lv_isub hx hb dX4_valueFor_98 ?_
            refine q_any (fun z_28 hz_28 => ?_)
            refine q_iast X hK h 2 rfl (i_in rfl (by omega) (by omega)) dX4_valueFor_99 (fun H locs h_30 => ?_)
            clear h
            replace h_30 : qW D _ _ [(h0, .inr (4, [.ref h1])), (h1, .inl (cy 1, 300, .inl f0)), (h2, .inl (cy 1, 64, .inl (upd v5_3_2 (Int32.toNatClampNeg z_25) z_28))), (h3, .inl (cy 1, 11, .inl f2))] _ _ := h_30
            obtain ⟨F_29, eF_29⟩ : ∃ z, (upd v5_3_2 (Int32.toNatClampNeg z_25) z_28) = z := ⟨_, rfl⟩
            rw [eF_29] at h_30
            clear eF_29
            refine lv_goto (tgt := 133) hx hb dX4_valueFor_100 (by decide) ?_
            exact J_133 _ _ _ _ ⟨v5_3_1, F_29, ⟨by omega, by omega⟩, rfl, h_30, (lv_sub hl_9 [1, 2, 3, 4, 5, 0] rfl)⟩
      · replace c_12 := i_nle (x := 2000) (y := z_8) (show (2000 : Int32).toInt = 2000 by decide) rfl c_12
        refine lv_iload hx hb dX4_valueFor_32 (lv_at hl_9 0 rfl) ?_
        refine lv_sipush (v := 1000) hx hb dX4_valueFor_34 (by decide) ?_
        refine lv_isub hx hb dX4_valueFor_37 ?_
        obtain ⟨z_31, ez_31, hz_31⟩ := e_sub (x := z_8) (y := 1000) rfl (show (1000 : Int32).toInt = 1000 by decide) (by omega) (by omega)
        refine q_c z_31 ez_31 ?_
        clear ez_31
        refine lv_istore (lv' := [(6, .int z_31), (5, .int z_8), (0, .ref h0), (1, .ref h3), (2, .ref h2), (3, .int v5_3_1), (4, .int v5_3_0)]) hx hb dX4_valueFor_38 hl_9 (by decide) rfl (fun ls_32 hl_32 => ?_)
        clear hl_9
        refine lv_iload_n hx hb dX4_valueFor_40 rfl (lv_at hl_32 5 rfl) ?_
        refine lv_aload_n hx hb dX4_valueFor_41 rfl (lv_at hl_32 4 rfl) ?_
        refine q_alen X hK h 2 1 rfl rfl 64 (show Int32.ofNat 64 = 64 by decide) dX4_valueFor_42 ?_
        refine q_jn (pc2 := 73) (fun H locs ls st => ∃ v73_33_0 : Int32, ∃ v73_33_1 : Nat → Int32, (0 ≤ (v73_33_0).toInt ∧ (v73_33_0).toInt ≤ 64) ∧ st = [] ∧ qW D (va_A [(h0, .inr (4, [.ref h1])), (h1, .inl (cy 1, 300, .inl f0)), (h2, .inl (cy 1, 64, .inl f1)), (h3, .inl (cy 1, 11, .inl f2))] sz) s.heap [(h0, .inr (4, [.ref h1])), (h1, .inl (cy 1, 300, .inl f0)), (h2, .inl (cy 1, 64, .inl v73_33_1)), (h3, .inl (cy 1, 11, .inl f2))] H locs ∧ lv_has ls 7 [(0, .ref h0), (1, .ref h3), (2, .ref h2), (3, .int v73_33_0), (4, .int v5_3_0), (5, .int z_8), (6, .int z_31)]) (fun H locs ls st hP => ?_) (fun J_73 => ?_)
        · obtain ⟨v73_33_0, v73_33_1, hv73_33_0, rfl, h, hl⟩ := hP
          refine lv_goto (tgt := 133) hx hb dX4_valueFor_73 (by decide) ?_
          exact J_133 _ _ _ _ ⟨v73_33_0, v73_33_1, ⟨by omega, by omega⟩, rfl, h, (lv_sub hl [0, 1, 2, 3, 4, 5] rfl)⟩
        · skip
          refine lv_icmp_ge (tgt := 73) hx hb dX4_valueFor_43 (by decide) (fun c_34 => ?_) (fun c_34 => ?_)
          · replace c_34 := i_le (x := 64) (y := v5_3_1) (show (64 : Int32).toInt = 64 by decide) rfl c_34
            exact J_73 _ _ _ _ ⟨v5_3_1, v5_3_2, ⟨by omega, by omega⟩, rfl, h, (lv_sub hl_32 [2, 3, 4, 5, 6, 1, 0] rfl)⟩
          · replace c_34 := i_nle (x := 64) (y := v5_3_1) (show (64 : Int32).toInt = 64 by decide) rfl c_34
            refine lv_iload hx hb dX4_valueFor_46 (lv_at hl_32 0 rfl) ?_
            refine lv_aload_n hx hb dX4_valueFor_48 rfl (lv_at hl_32 3 rfl) ?_
            refine q_alen X hK h 3 1 rfl rfl 11 (show Int32.ofNat 11 = 11 by decide) dX4_valueFor_49 ?_
            refine lv_icmp_ge (tgt := 73) hx hb dX4_valueFor_50 (by decide) (fun c_35 => ?_) (fun c_35 => ?_)
            · replace c_35 := i_le (x := 11) (y := z_31) (show (11 : Int32).toInt = 11 by decide) rfl c_35
              exact J_73 _ _ _ _ ⟨v5_3_1, v5_3_2, ⟨by omega, by omega⟩, rfl, h, (lv_sub hl_32 [2, 3, 4, 5, 6, 1, 0] rfl)⟩
            · replace c_35 := i_nle (x := 11) (y := z_31) (show (11 : Int32).toInt = 11 by decide) rfl c_35
              refine lv_aload_n hx hb dX4_valueFor_53 rfl (lv_at hl_32 4 rfl) ?_
              refine lv_iload_n hx hb dX4_valueFor_54 rfl (lv_at hl_32 5 rfl) ?_
              refine lv_iload hx hb dX4_valueFor_55 (lv_at hl_32 0 rfl) ?_
              refine q_jn (pc2 := 69) (fun H locs ls st => ∃ v69_36_0 : Int32, ((-2147483648) ≤ (v69_36_0).toInt ∧ (v69_36_0).toInt ≤ 2147483647) ∧ st = [.int v69_36_0, .int v5_3_1, .ref h2] ∧ qW D (va_A [(h0, .inr (4, [.ref h1])), (h1, .inl (cy 1, 300, .inl f0)), (h2, .inl (cy 1, 64, .inl f1)), (h3, .inl (cy 1, 11, .inl f2))] sz) s.heap [(h0, .inr (4, [.ref h1])), (h1, .inl (cy 1, 300, .inl f0)), (h2, .inl (cy 1, 64, .inl v5_3_2)), (h3, .inl (cy 1, 11, .inl f2))] H locs ∧ lv_has ls 7 [(0, .ref h0), (1, .ref h3), (2, .ref h2), (3, .int v5_3_1), (4, .int v5_3_0), (5, .int z_8), (6, .int z_31)]) (fun H locs ls st hP => ?_) (fun J_69 => ?_)
              · obtain ⟨v69_36_0, hv69_36_0, rfl, h, hl⟩ := hP
                refine q_iast X hK h 2 rfl (i_in rfl (by omega) (by omega)) dX4_valueFor_69 (fun H locs h_38 => ?_)
                clear h
                replace h_38 : qW D _ _ [(h0, .inr (4, [.ref h1])), (h1, .inl (cy 1, 300, .inl f0)), (h2, .inl (cy 1, 64, .inl (upd v5_3_2 (Int32.toNatClampNeg v5_3_1) v69_36_0))), (h3, .inl (cy 1, 11, .inl f2))] _ _ := h_38
                obtain ⟨F_37, eF_37⟩ : ∃ z, (upd v5_3_2 (Int32.toNatClampNeg v5_3_1) v69_36_0) = z := ⟨_, rfl⟩
                rw [eF_37] at h_38
                clear eF_37
                obtain ⟨z_39, ez_39, hz_39⟩ := e_add (x := v5_3_1) (y := Int32.ofInt 1) rfl (b := 1) (by decide) (by omega) (by omega)
                refine lv_iinc (v := z_39) (lv' := [(3, .int z_39), (0, .ref h0), (1, .ref h3), (2, .ref h2), (4, .int v5_3_0), (5, .int z_8), (6, .int z_31)]) hx hb dX4_valueFor_70 hl (k := 3) rfl ez_39 (by decide) rfl (fun ls_39 hl_39 => ?_)
                clear hl
                exact J_73 _ _ _ _ ⟨z_39, F_37, ⟨by omega, by omega⟩, rfl, h_38, (lv_sub hl_39 [1, 2, 3, 0, 4, 5, 6] rfl)⟩
              · skip
                refine lv_if_ge (tgt := 65) hx hb dX4_valueFor_57 (by decide) (fun c_40 => ?_) (fun c_40 => ?_)
                · replace c_40 := i_le (x := 0) (y := z_31) (show (0 : Int32).toInt = 0 by decide) rfl c_40
                  refine lv_aload_n hx hb dX4_valueFor_65 rfl (lv_at hl_32 3 rfl) ?_
                  refine lv_iload hx hb dX4_valueFor_66 (lv_at hl_32 0 rfl) ?_
                  refine q_iald X hK h 3 rfl (i_in rfl (by omega) (by omega)) dX4_valueFor_68 ?_
                  refine q_any (fun z_41 hz_41 => ?_)
                  exact J_69 _ _ _ _ ⟨z_41, ⟨by omega, by omega⟩, rfl, h, (lv_sub hl_32 [2, 3, 4, 5, 6, 1, 0] rfl)⟩
                · replace c_40 := i_nle (x := 0) (y := z_31) (show (0 : Int32).toInt = 0 by decide) rfl c_40
                  refine lv_iload hx hb dX4_valueFor_60 (lv_at hl_32 1 rfl) ?_
                  refine lv_goto (tgt := 69) hx hb dX4_valueFor_62 (by decide) ?_
                  exact J_69 _ _ _ _ ⟨z_8, ⟨by omega, by omega⟩, rfl, h, (lv_sub hl_32 [2, 3, 4, 5, 6, 1, 0] rfl)⟩
set_option maxHeartbeats 4000000 in
set_option maxRecDepth 100000 in
theorem gX6_opposesOneWay_109 (l : Launch) (D : va_G) (cy : Nat → ClassId) (h0 : Nat) (h1 : Nat) (h2 : Nat) (h3 : Nat) (h4 : Nat) (p0 : Int32) (p1 : Int32) (p2 : Int32) (p3 : Int32) (f0 : Nat → Int32) (f1 : Nat → Int32) (f2 : Nat → Int32) (hp0 : 0 ≤ (p0).toInt ∧ (p0).toInt ≤ 9) (hp1 : 0 ≤ (p1).toInt ∧ (p1).toInt ≤ 999) (hp2 : 0 ≤ (p2).toInt ∧ (p2).toInt ≤ 9) (hp3 : 0 ≤ (p3).toInt ∧ (p3).toInt ≤ 999) (rf0 : RG f0 300 0 2062) (sz : Nat) : MI l yX6_opposesOneWay cX6_opposesOneWay 6 .boolean { frames := 3, cells := 0, slots := 0, locals := 67 } [.ref h2, .ref h0, .int p0, .int p1, .int p2, .int p3] D cy [(h0, .inr (4, [.ref h1])), (h1, .inl (cy 1, 300, .inl f0)), (h2, .inr (6, [.ref h3, .ref h4])), (h3, .inl (cy 1, 11, .inl f1)), (h4, .inl (cy 1, 64, .inl f2))] sz (fun r u => (0 ≤ r.toInt ∧ r.toInt ≤ 1) ∧ True) (fun u => [(h0, .inr (4, [.ref h1])), (h1, .inl (cy 1, 300, .inl f0)), (h2, .inr (6, [.ref h3, .ref h4])), (h3, .inl (cy 1, 11, .inl (u.2.1 1))), (h4, .inl (cy 1, 64, .inl (u.2.1 0)))]) 0 0 := by
  refine q_ent (own := RX6) (by decide) rfl (Nat.le_of_ble_eq_true rfl) (fun p e s m below meth c ls X hr hlk hnm hK h hA hl => ?_)
  obtain ⟨hx, hb, hml, hown, ht⟩ := id X
  replace hl : lv_has ls 6 [(0, .ref h2), (1, .ref h0), (2, .int p0), (3, .int p1), (4, .int p2), (5, .int p3)] := hl
  refine lv_aload_n hx hb dX6_opposesOneWay_0 rfl (lv_at hl 0 rfl) ?_
  refine lv_iconst (v := 0) hx hb dX6_opposesOneWay_1 (by decide) ?_
  refine lv_iload_n hx hb dX6_opposesOneWay_2 rfl (lv_at hl 3 rfl) ?_
  refine lv_iload_n hx hb dX6_opposesOneWay_3 rfl (lv_at hl 2 rfl) ?_
  refine q_callVv (rest := []) (wr := [(h0, .inr (4, [.ref h1])), (h1, .inl (cy 1, 300, .inl f0)), (h4, .inl (cy 1, 64, .inl f2))]) X hK hA h (fun sz => gX6_put_9 l D cy h2 h3 (0 : Int32) p1 p0 (.ref h4) f1 ⟨by decide +kernel, by decide +kernel⟩ ⟨by omega, by omega⟩ ⟨by omega, by omega⟩ sz) wm_3_204 wm_3_207 wm_1_5 hd_X6_put wm_3_206 wp_2_10 (ci := 6) (q0 := 0) rfl rfl ⟨Nat.le_of_ble_eq_true rfl, Nat.le_of_ble_eq_true rfl⟩ hl.1 rfl (Nat.le_of_ble_eq_true rfl) dX6_opposesOneWay_4 ⟨Nat.le_of_ble_eq_true rfl, Nat.le_of_ble_eq_true rfl⟩ [2, 3] [0, 1, 4] rfl rfl (by decide) rfl rfl (fun u_1 H locs w_1 h_1 => ?_)
  clear h
  clear w_1
  replace h_1 : qW D _ _ [(h0, .inr (4, [.ref h1])), (h1, .inl (cy 1, 300, .inl f0)), (h4, .inl (cy 1, 64, .inl f2)), (h2, .inr (6, [.ref h3, .ref h4])), (h3, .inl (cy 1, 11, .inl (u_1.2.1 0)))] _ _ := h_1
  refine lv_aload_n hx hb dX6_opposesOneWay_7 rfl (lv_at hl 0 rfl) ?_
  refine lv_iconst (v := 4) hx hb dX6_opposesOneWay_8 (by decide) ?_
  refine lv_iload hx hb dX6_opposesOneWay_9 (lv_at hl 5 rfl) ?_
  refine lv_iload hx hb dX6_opposesOneWay_11 (lv_at hl 4 rfl) ?_
  refine q_callVv (rest := []) (wr := [(h0, .inr (4, [.ref h1])), (h1, .inl (cy 1, 300, .inl f0)), (h4, .inl (cy 1, 64, .inl f2))]) X hK hA h_1 (fun sz => gX6_put_10 l D cy h2 h3 (4 : Int32) p3 p2 (.ref h4) (u_1.2.1 0) ⟨by decide +kernel, by decide +kernel⟩ ⟨by omega, by omega⟩ ⟨by omega, by omega⟩ sz) wm_3_204 wm_3_207 wm_1_5 hd_X6_put wm_3_206 wp_2_10 (ci := 6) (q0 := 0) rfl rfl ⟨Nat.le_of_ble_eq_true rfl, Nat.le_of_ble_eq_true rfl⟩ hl.1 rfl (Nat.le_of_ble_eq_true rfl) dX6_opposesOneWay_13 ⟨Nat.le_of_ble_eq_true rfl, Nat.le_of_ble_eq_true rfl⟩ [3, 4] [0, 1, 2] rfl rfl (by decide) rfl rfl (fun u_2 H locs w_2 h_2 => ?_)
  clear h_1
  clear w_2
  replace h_2 : qW D _ _ [(h0, .inr (4, [.ref h1])), (h1, .inl (cy 1, 300, .inl f0)), (h4, .inl (cy 1, 64, .inl f2)), (h2, .inr (6, [.ref h3, .ref h4])), (h3, .inl (cy 1, 11, .inl (u_2.2.1 0)))] _ _ := h_2
  refine lv_aload_n hx hb dX6_opposesOneWay_16 rfl (lv_at hl 1 rfl) ?_
  refine lv_aload_n hx hb dX6_opposesOneWay_17 rfl (lv_at hl 0 rfl) ?_
  refine q_get X hK h_2 3 rfl rfl wf_6 0 (by decide) rfl wm_1_184 dX6_opposesOneWay_18 ?_
  refine lv_aload_n hx hb dX6_opposesOneWay_21 rfl (lv_at hl 0 rfl) ?_
  refine q_get X hK h_2 3 rfl rfl wf_6 1 (by decide) rfl wm_1_185 dX6_opposesOneWay_22 ?_
  refine q_callVi (rest := []) (wr := [(h2, .inr (6, [.ref h3, .ref h4]))]) X hK hA h_2 (fun sz => gX4_valueFor_108 l D cy h0 h1 h4 h3 f0 f2 (u_2.2.1 0) (rg_wide rf0 (by decide) (by decide)) sz) wm_3_208 wm_3_211 wm_1_19 hd_X4_valueFor wm_3_209 wm_3_210 (ci := 4) (q0 := 0) rfl rfl ⟨Nat.le_of_ble_eq_true rfl, Nat.le_of_ble_eq_true rfl⟩ hl.1 rfl (Nat.le_of_ble_eq_true rfl) dX6_opposesOneWay_25 ⟨Nat.le_of_ble_eq_true rfl, Nat.le_of_ble_eq_true rfl⟩ [0, 1, 2, 4] [3] rfl rfl (by decide) rfl rfl (fun r_3 u_3 H locs w_3 h_3 => ?_)
  clear h_2
  obtain ⟨wr_3, _⟩ := w_3
  replace h_3 : qW D _ _ [(h2, .inr (6, [.ref h3, .ref h4])), (h0, .inr (4, [.ref h1])), (h1, .inl (cy 1, 300, .inl f0)), (h4, .inl (cy 1, 64, .inl (u_3.2.1 0))), (h3, .inl (cy 1, 11, .inl (u_2.2.1 0)))] _ _ := h_3
  refine q_jn (pc2 := 36) (fun H locs ls st => ∃ v36_4_0 : Int32, (0 ≤ (v36_4_0).toInt ∧ (v36_4_0).toInt ≤ 1) ∧ st = [.int v36_4_0] ∧ qW D (va_A [(h0, .inr (4, [.ref h1])), (h1, .inl (cy 1, 300, .inl f0)), (h2, .inr (6, [.ref h3, .ref h4])), (h3, .inl (cy 1, 11, .inl f1)), (h4, .inl (cy 1, 64, .inl f2))] sz) s.heap [(h2, .inr (6, [.ref h3, .ref h4])), (h0, .inr (4, [.ref h1])), (h1, .inl (cy 1, 300, .inl f0)), (h4, .inl (cy 1, 64, .inl (u_3.2.1 0))), (h3, .inl (cy 1, 11, .inl (u_2.2.1 0)))] H locs ∧ lv_has ls 6 [(0, .ref h2), (1, .ref h0), (2, .int p0), (3, .int p1), (4, .int p2), (5, .int p3)]) (fun H locs ls st hP => ?_) (fun J_36 => ?_)
  · obtain ⟨v36_4_0, hv36_4_0, rfl, h, hl⟩ := hP
    exact q_iret X hr hlk hK h (q_nz (by omega) (by omega)) (fun _ => 0, fun k => List.getD [(u_3.2.1 0), (u_2.2.1 0)] k (fun _ => 0), fun _ _ => 0) ⟨⟨by omega, by omega⟩, trivial⟩ [1, 2, 0, 4, 3] rfl rfl dX6_opposesOneWay_36 (Nat.le_of_ble_eq_true rfl) (Nat.le_of_ble_eq_true rfl)
  · skip
    refine lv_if_eq (tgt := 35) hx hb dX6_opposesOneWay_28 (by decide) (fun c_5 => ?_) (fun c_5 => ?_)
    · replace c_5 := i_eq (x := r_3) (y := 0) rfl (show (0 : Int32).toInt = 0 by decide) c_5
      refine lv_iconst (v := 0) hx hb dX6_opposesOneWay_35 (by decide) ?_
      exact J_36 _ _ _ _ ⟨0, ⟨by decide +kernel, by decide +kernel⟩, rfl, h_3, (lv_sub hl [0, 1, 2, 3, 4, 5] rfl)⟩
    · replace c_5 := i_ne (x := r_3) (y := 0) rfl (show (0 : Int32).toInt = 0 by decide) c_5
      refine lv_iconst (v := 1) hx hb dX6_opposesOneWay_31 (by decide) ?_
      refine lv_goto (tgt := 36) hx hb dX6_opposesOneWay_32 (by decide) ?_
      exact J_36 _ _ _ _ ⟨1, ⟨by decide +kernel, by decide +kernel⟩, rfl, h_3, (lv_sub hl [0, 1, 2, 3, 4, 5] rfl)⟩
set_option maxHeartbeats 4000000 in
set_option maxRecDepth 100000 in
theorem gX6_areOpposites_110 (l : Launch) (D : va_G) (cy : Nat → ClassId) (h0 : Nat) (h1 : Nat) (h2 : Nat) (h3 : Nat) (h4 : Nat) (h5 : Nat) (h6 : Nat) (h7 : Nat) (p0 : Int32) (p1 : Int32) (p2 : Int32) (p3 : Int32) (p4 : Int32) (p5 : Int32) (p6 : Int32) (p7 : Int32) (w0 : Value) (w1 : Value) (w2 : Value) (w3 : Value) (w4 : Value) (w5 : Value) (w6 : Value) (f0 : Nat → Int32) (p8 : Int32) (p9 : Int32) (f1 : Nat → Int32) (f2 : Nat → Int32) (f3 : Nat → Int32) (hp0 : 0 ≤ (p0).toInt ∧ (p0).toInt ≤ 9) (hp1 : 0 ≤ (p1).toInt ∧ (p1).toInt ≤ 999) (hp2 : 0 ≤ (p2).toInt ∧ (p2).toInt ≤ 9) (hp3 : 0 ≤ (p3).toInt ∧ (p3).toInt ≤ 62000) (hp4 : 1 ≤ (p4).toInt ∧ (p4).toInt ≤ 3) (hp5 : 0 ≤ (p5).toInt ∧ (p5).toInt ≤ 10) (hp6 : 0 ≤ (p6).toInt ∧ (p6).toInt ≤ 920) (hp7 : 0 ≤ (p7).toInt ∧ (p7).toInt ≤ 999) (hp8 : 0 ≤ (p8).toInt ∧ (p8).toInt ≤ 60000) (hp9 : 0 ≤ (p9).toInt ∧ (p9).toInt ≤ 1023) (rf0 : RG f0 300 0 2062) (rf1 : RG f1 10 0 999) (sz : Nat) : MI l yX6_areOpposites cX6_areOpposites 8 .boolean { frames := 4, cells := 0, slots := 0, locals := 92 } [.ref h5, .ref h3, .int p0, .int p1, .int p2, .int p3] D cy [(h0, .inr (3, [.int p4, .int p5, .int p6, .int p7, .ref h1, w0, w1, w2, w3, w4, w5, w6])), (h1, .inr (4, [.ref h2])), (h2, .inl (cy 1, 300, .inl f0)), (h3, .inr (7, [.ref h0, .int p8, .int p9, .ref h4])), (h4, .inl (cy 1, 10, .inl f1)), (h5, .inr (6, [.ref h6, .ref h7])), (h6, .inl (cy 1, 11, .inl f2)), (h7, .inl (cy 1, 64, .inl f3))] sz (fun r u => (0 ≤ r.toInt ∧ r.toInt ≤ 1) ∧ True) (fun u => [(h0, .inr (3, [.int p4, .int p5, .int p6, .int p7, .ref h1, w0, w1, w2, w3, w4, w5, w6])), (h1, .inr (4, [.ref h2])), (h2, .inl (cy 1, 300, .inl f0)), (h3, .inr (7, [.ref h0, .int p8, .int p9, .ref h4])), (h4, .inl (cy 1, 10, .inl f1)), (h5, .inr (6, [.ref h6, .ref h7])), (h6, .inl (cy 1, 11, .inl (u.2.1 0))), (h7, .inl (cy 1, 64, .inl (u.2.1 1)))]) 0 0 := by
  refine q_ent (own := RX6) (by decide) rfl (Nat.le_of_ble_eq_true rfl) (fun p e s m below meth c ls X hr hlk hnm hK h hA hl => ?_)
  obtain ⟨hx, hb, hml, hown, ht⟩ := id X
  replace hl : lv_has ls 8 [(0, .ref h5), (1, .ref h3), (2, .int p0), (3, .int p1), (4, .int p2), (5, .int p3)] := hl
  refine lv_aload_n hx hb dX6_areOpposites_0 rfl (lv_at hl 1 rfl) ?_
  refine q_get X hK h 3 rfl rfl wf_7 0 (by decide) rfl wm_2_41 dX6_areOpposites_1 ?_
  refine q_get X hK h 0 rfl rfl wf_3 4 (by decide) rfl wm_1_94 dX6_areOpposites_4 ?_
  refine lv_astore (lv' := [(6, .ref h1), (0, .ref h5), (1, .ref h3), (2, .int p0), (3, .int p1), (4, .int p2), (5, .int p3)]) hx hb dX6_areOpposites_7 hl (by decide) rfl (fun ls_1 hl_1 => ?_)
  clear hl
  refine lv_aload_n hx hb dX6_areOpposites_9 rfl (lv_at hl_1 2 rfl) ?_
  refine q_get X hK h 3 rfl rfl wf_7 3 (by decide) rfl wm_2_53 dX6_areOpposites_10 ?_
  refine lv_iload hx hb dX6_areOpposites_13 (lv_at hl_1 5 rfl) ?_
  refine q_iald X hK h 4 rfl (i_in rfl (by omega) (by omega)) dX6_areOpposites_15 ?_
  obtain ⟨z_2, ez_2, hz_2⟩ := rg_get rf1 (x := p2) rfl (by omega) (by omega)
  refine q_c z_2 ez_2 ?_
  clear ez_2
  refine lv_istore (lv' := [(7, .int z_2), (6, .ref h1), (0, .ref h5), (1, .ref h3), (2, .int p0), (3, .int p1), (4, .int p2), (5, .int p3)]) hx hb dX6_areOpposites_16 hl_1 (by decide) rfl (fun ls_3 hl_3 => ?_)
  clear hl_1
  refine lv_aload hx hb dX6_areOpposites_18 (lv_at hl_3 1 rfl) ?_
  refine lv_ifnonnull (tgt := 44) hx hb dX6_areOpposites_20 (by decide) ?_
  refine lv_aload_n hx hb dX6_areOpposites_44 rfl (lv_at hl_3 2 rfl) ?_
  refine q_get X hK h 5 rfl rfl wf_6 0 (by decide) rfl wm_1_184 dX6_areOpposites_45 ?_
  refine lv_bipush (v := 8) hx hb dX6_areOpposites_48 (by decide) ?_
  refine lv_iload hx hb dX6_areOpposites_50 (lv_at hl_3 7 rfl) ?_
  refine lv_bipush (v := 7) hx hb dX6_areOpposites_52 (by decide) ?_
  refine lv_irem hx hb dX6_areOpposites_54 (by decide) ?_
  obtain ⟨z_4, ez_4, hz_4⟩ := e_rem (x := p3) (y := 7) rfl (show (7 : Int32).toInt = 7 by decide) (by omega) (by omega)
  refine q_c z_4 ez_4 ?_
  clear ez_4
  refine q_iast X hK h 6 rfl (q_in (by decide +kernel)) dX6_areOpposites_55 (fun H locs h_6 => ?_)
  clear h
  replace h_6 : qW D _ _ [(h0, .inr (3, [.int p4, .int p5, .int p6, .int p7, .ref h1, w0, w1, w2, w3, w4, w5, w6])), (h1, .inr (4, [.ref h2])), (h2, .inl (cy 1, 300, .inl f0)), (h3, .inr (7, [.ref h0, .int p8, .int p9, .ref h4])), (h4, .inl (cy 1, 10, .inl f1)), (h5, .inr (6, [.ref h6, .ref h7])), (h6, .inl (cy 1, 11, .inl (upd f2 (Int32.toNatClampNeg 8) z_4))), (h7, .inl (cy 1, 64, .inl f3))] _ _ := h_6
  obtain ⟨F_5, eF_5⟩ : ∃ z, (upd f2 (Int32.toNatClampNeg 8) z_4) = z := ⟨_, rfl⟩
  rw [eF_5] at h_6
  clear eF_5
  refine lv_aload_n hx hb dX6_areOpposites_56 rfl (lv_at hl_3 2 rfl) ?_
  refine lv_aload hx hb dX6_areOpposites_57 (lv_at hl_3 1 rfl) ?_
  refine lv_iload_n hx hb dX6_areOpposites_59 rfl (lv_at hl_3 4 rfl) ?_
  refine lv_iload_n hx hb dX6_areOpposites_60 rfl (lv_at hl_3 5 rfl) ?_
  refine lv_iload hx hb dX6_areOpposites_61 (lv_at hl_3 6 rfl) ?_
  refine lv_iload hx hb dX6_areOpposites_63 (lv_at hl_3 0 rfl) ?_
  refine q_callVi (rest := []) (wr := [(h0, .inr (3, [.int p4, .int p5, .int p6, .int p7, .ref h1, w0, w1, w2, w3, w4, w5, w6])), (h3, .inr (7, [.ref h0, .int p8, .int p9, .ref h4])), (h4, .inl (cy 1, 10, .inl f1))]) X hK hA h_6 (fun sz => gX6_opposesOneWay_109 l D cy h1 h2 h5 h6 h7 p0 p1 p2 z_2 f0 F_5 f3 ⟨by omega, by omega⟩ ⟨by omega, by omega⟩ ⟨by omega, by omega⟩ ⟨by omega, by omega⟩ (rg_wide rf0 (by decide) (by decide)) sz) wm_3_200 wm_3_203 wm_1_5 hd_X6_opposesOneWay wm_3_202 wp_2_9 (ci := 6) (q0 := 2) rfl rfl ⟨Nat.le_of_ble_eq_true rfl, Nat.le_of_ble_eq_true rfl⟩ hl_3.1 rfl (Nat.le_of_ble_eq_true rfl) dX6_areOpposites_65 ⟨Nat.le_of_ble_eq_true rfl, Nat.le_of_ble_eq_true rfl⟩ [1, 2, 5, 6, 7] [0, 3, 4] rfl rfl (by decide) rfl rfl (fun r_7 u_7 H locs w_7 h_7 => ?_)
  clear h_6
  obtain ⟨wr_7, _⟩ := w_7
  replace h_7 : qW D _ _ [(h0, .inr (3, [.int p4, .int p5, .int p6, .int p7, .ref h1, w0, w1, w2, w3, w4, w5, w6])), (h3, .inr (7, [.ref h0, .int p8, .int p9, .ref h4])), (h4, .inl (cy 1, 10, .inl f1)), (h1, .inr (4, [.ref h2])), (h2, .inl (cy 1, 300, .inl f0)), (h5, .inr (6, [.ref h6, .ref h7])), (h6, .inl (cy 1, 11, .inl (u_7.2.1 1))), (h7, .inl (cy 1, 64, .inl (u_7.2.1 0)))] _ _ := h_7
  refine q_jn (pc2 := 91) (fun H locs ls st => ∃ v91_8_2 : Int32, ∃ v91_8_0 : Nat → Int32, ∃ v91_8_1 : Nat → Int32, (0 ≤ (v91_8_2).toInt ∧ (v91_8_2).toInt ≤ 1) ∧ st = [.int v91_8_2] ∧ qW D (va_A [(h0, .inr (3, [.int p4, .int p5, .int p6, .int p7, .ref h1, w0, w1, w2, w3, w4, w5, w6])), (h1, .inr (4, [.ref h2])), (h2, .inl (cy 1, 300, .inl f0)), (h3, .inr (7, [.ref h0, .int p8, .int p9, .ref h4])), (h4, .inl (cy 1, 10, .inl f1)), (h5, .inr (6, [.ref h6, .ref h7])), (h6, .inl (cy 1, 11, .inl f2)), (h7, .inl (cy 1, 64, .inl f3))] sz) s.heap [(h0, .inr (3, [.int p4, .int p5, .int p6, .int p7, .ref h1, w0, w1, w2, w3, w4, w5, w6])), (h3, .inr (7, [.ref h0, .int p8, .int p9, .ref h4])), (h4, .inl (cy 1, 10, .inl f1)), (h1, .inr (4, [.ref h2])), (h2, .inl (cy 1, 300, .inl f0)), (h5, .inr (6, [.ref h6, .ref h7])), (h6, .inl (cy 1, 11, .inl v91_8_0)), (h7, .inl (cy 1, 64, .inl v91_8_1))] H locs ∧ lv_has ls 8 [(0, .ref h5), (1, .ref h3), (2, .int p0), (3, .int p1), (4, .int p2), (5, .int p3), (6, .ref h1), (7, .int z_2)]) (fun H locs ls st hP => ?_) (fun J_91 => ?_)
  · obtain ⟨v91_8_2, v91_8_0, v91_8_1, hv91_8_2, rfl, h, hl⟩ := hP
    exact q_iret X hr hlk hK h (q_nz (by omega) (by omega)) (fun _ => 0, fun k => List.getD [v91_8_0, v91_8_1] k (fun _ => 0), fun _ _ => 0) ⟨⟨by omega, by omega⟩, trivial⟩ [0, 3, 4, 1, 2, 5, 6, 7] rfl rfl dX6_areOpposites_91 (Nat.le_of_ble_eq_true rfl) (Nat.le_of_ble_eq_true rfl)
  · skip
    refine q_jn (pc2 := 86) (fun H locs ls st => ∃ v86_9_0 : Nat → Int32, ∃ v86_9_1 : Nat → Int32, st = [] ∧ qW D (va_A [(h0, .inr (3, [.int p4, .int p5, .int p6, .int p7, .ref h1, w0, w1, w2, w3, w4, w5, w6])), (h1, .inr (4, [.ref h2])), (h2, .inl (cy 1, 300, .inl f0)), (h3, .inr (7, [.ref h0, .int p8, .int p9, .ref h4])), (h4, .inl (cy 1, 10, .inl f1)), (h5, .inr (6, [.ref h6, .ref h7])), (h6, .inl (cy 1, 11, .inl f2)), (h7, .inl (cy 1, 64, .inl f3))] sz) s.heap [(h0, .inr (3, [.int p4, .int p5, .int p6, .int p7, .ref h1, w0, w1, w2, w3, w4, w5, w6])), (h3, .inr (7, [.ref h0, .int p8, .int p9, .ref h4])), (h4, .inl (cy 1, 10, .inl f1)), (h1, .inr (4, [.ref h2])), (h2, .inl (cy 1, 300, .inl f0)), (h5, .inr (6, [.ref h6, .ref h7])), (h6, .inl (cy 1, 11, .inl v86_9_0)), (h7, .inl (cy 1, 64, .inl v86_9_1))] H locs ∧ lv_has ls 8 [(0, .ref h5), (1, .ref h3), (2, .int p0), (3, .int p1), (4, .int p2), (5, .int p3), (6, .ref h1), (7, .int z_2)]) (fun H locs ls st hP => ?_) (fun J_86 => ?_)
    · obtain ⟨v86_9_0, v86_9_1, rfl, h, hl⟩ := hP
      refine lv_iconst (v := 1) hx hb dX6_areOpposites_86 (by decide) ?_
      refine lv_goto (tgt := 91) hx hb dX6_areOpposites_87 (by decide) ?_
      exact J_91 _ _ _ _ ⟨1, v86_9_0, v86_9_1, ⟨by decide +kernel, by decide +kernel⟩, rfl, h, (lv_sub hl [0, 1, 2, 3, 4, 5, 6, 7] rfl)⟩
    · skip
      refine lv_if_ne (tgt := 86) hx hb dX6_areOpposites_68 (by decide) (fun c_10 => ?_) (fun c_10 => ?_)
      · replace c_10 := i_ne (x := r_7) (y := 0) rfl (show (0 : Int32).toInt = 0 by decide) c_10
        exact J_86 _ _ _ _ ⟨(u_7.2.1 1), (u_7.2.1 0), rfl, h_7, (lv_sub hl_3 [2, 3, 4, 5, 6, 7, 1, 0] rfl)⟩
      · replace c_10 := i_eq (x := r_7) (y := 0) rfl (show (0 : Int32).toInt = 0 by decide) c_10
        refine lv_aload_n hx hb dX6_areOpposites_71 rfl (lv_at hl_3 2 rfl) ?_
        refine lv_aload hx hb dX6_areOpposites_72 (lv_at hl_3 1 rfl) ?_
        refine lv_iload hx hb dX6_areOpposites_74 (lv_at hl_3 6 rfl) ?_
        refine lv_iload hx hb dX6_areOpposites_76 (lv_at hl_3 0 rfl) ?_
        refine lv_iload_n hx hb dX6_areOpposites_78 rfl (lv_at hl_3 4 rfl) ?_
        refine lv_iload_n hx hb dX6_areOpposites_79 rfl (lv_at hl_3 5 rfl) ?_
        refine q_callVi (rest := []) (wr := [(h0, .inr (3, [.int p4, .int p5, .int p6, .int p7, .ref h1, w0, w1, w2, w3, w4, w5, w6])), (h3, .inr (7, [.ref h0, .int p8, .int p9, .ref h4])), (h4, .inl (cy 1, 10, .inl f1))]) X hK hA h_7 (fun sz => gX6_opposesOneWay_109 l D cy h1 h2 h5 h6 h7 p2 z_2 p0 p1 f0 (u_7.2.1 1) (u_7.2.1 0) ⟨by omega, by omega⟩ ⟨by omega, by omega⟩ ⟨by omega, by omega⟩ ⟨by omega, by omega⟩ (rg_wide rf0 (by decide) (by decide)) sz) wm_3_200 wm_3_203 wm_1_5 hd_X6_opposesOneWay wm_3_202 wp_2_9 (ci := 6) (q0 := 2) rfl rfl ⟨Nat.le_of_ble_eq_true rfl, Nat.le_of_ble_eq_true rfl⟩ hl_3.1 rfl (Nat.le_of_ble_eq_true rfl) dX6_areOpposites_80 ⟨Nat.le_of_ble_eq_true rfl, Nat.le_of_ble_eq_true rfl⟩ [3, 4, 5, 6, 7] [0, 1, 2] rfl rfl (by decide) rfl rfl (fun r_11 u_11 H locs w_11 h_11 => ?_)
        clear h_7
        obtain ⟨wr_11, _⟩ := w_11
        replace h_11 : qW D _ _ [(h0, .inr (3, [.int p4, .int p5, .int p6, .int p7, .ref h1, w0, w1, w2, w3, w4, w5, w6])), (h3, .inr (7, [.ref h0, .int p8, .int p9, .ref h4])), (h4, .inl (cy 1, 10, .inl f1)), (h1, .inr (4, [.ref h2])), (h2, .inl (cy 1, 300, .inl f0)), (h5, .inr (6, [.ref h6, .ref h7])), (h6, .inl (cy 1, 11, .inl (u_11.2.1 1))), (h7, .inl (cy 1, 64, .inl (u_11.2.1 0)))] _ _ := h_11
        refine lv_if_eq (tgt := 90) hx hb dX6_areOpposites_83 (by decide) (fun c_12 => ?_) (fun c_12 => ?_)
        · replace c_12 := i_eq (x := r_11) (y := 0) rfl (show (0 : Int32).toInt = 0 by decide) c_12
          refine lv_iconst (v := 0) hx hb dX6_areOpposites_90 (by decide) ?_
          exact J_91 _ _ _ _ ⟨0, (u_11.2.1 1), (u_11.2.1 0), ⟨by decide +kernel, by decide +kernel⟩, rfl, h_11, (lv_sub hl_3 [2, 3, 4, 5, 6, 7, 1, 0] rfl)⟩
        · replace c_12 := i_ne (x := r_11) (y := 0) rfl (show (0 : Int32).toInt = 0 by decide) c_12
          exact J_86 _ _ _ _ ⟨(u_11.2.1 1), (u_11.2.1 0), rfl, h_11, (lv_sub hl_3 [2, 3, 4, 5, 6, 7, 1, 0] rfl)⟩
set_option maxHeartbeats 4000000 in
set_option maxRecDepth 100000 in
theorem gX6_rowOf_111 (l : Launch) (D : va_G) (cy : Nat → ClassId) (h0 : Nat) (h1 : Nat) (h2 : Nat) (h3 : Nat) (h4 : Nat) (h5 : Nat) (h6 : Nat) (h7 : Nat) (p0 : Int32) (p1 : Int32) (p2 : Int32) (p3 : Int32) (p4 : Int32) (p5 : Int32) (p6 : Int32) (w0 : Value) (w1 : Value) (w2 : Value) (w3 : Value) (w4 : Value) (w5 : Value) (w6 : Value) (f0 : Nat → Int32) (p7 : Int32) (p8 : Int32) (f1 : Nat → Int32) (f2 : Nat → Int32) (f3 : Nat → Int32) (hp0 : 0 ≤ (p0).toInt ∧ (p0).toInt ≤ 9) (hp1 : 0 ≤ (p1).toInt ∧ (p1).toInt ≤ 999) (hp2 : 0 ≤ (p2).toInt ∧ (p2).toInt ≤ 62000) (hp3 : 1 ≤ (p3).toInt ∧ (p3).toInt ≤ 3) (hp4 : 0 ≤ (p4).toInt ∧ (p4).toInt ≤ 10) (hp5 : 0 ≤ (p5).toInt ∧ (p5).toInt ≤ 920) (hp6 : 0 ≤ (p6).toInt ∧ (p6).toInt ≤ 999) (hp7 : 0 ≤ (p7).toInt ∧ (p7).toInt ≤ 60000) (hp8 : 0 ≤ (p8).toInt ∧ (p8).toInt ≤ 1023) (rf0 : RG f0 300 0 2062) (rf1 : RG f1 10 0 999) (sz : Nat) : MI l yX6_rowOf cX6_rowOf 7 .int { frames := 5, cells := 0, slots := 0, locals := 119 } [.ref h5, .ref h3, .int p0, .int p1, .int p2] D cy [(h0, .inr (3, [.int p3, .int p4, .int p5, .int p6, .ref h1, w0, w1, w2, w3, w4, w5, w6])), (h1, .inr (4, [.ref h2])), (h2, .inl (cy 1, 300, .inl f0)), (h3, .inr (7, [.ref h0, .int p7, .int p8, .ref h4])), (h4, .inl (cy 1, 10, .inl f1)), (h5, .inr (6, [.ref h6, .ref h7])), (h6, .inl (cy 1, 11, .inl f2)), (h7, .inl (cy 1, 64, .inl f3))] sz (fun r u => (0 ≤ r.toInt ∧ r.toInt ≤ 1023) ∧ True) (fun u => [(h0, .inr (3, [.int p3, .int p4, .int p5, .int p6, .ref h1, w0, w1, w2, w3, w4, w5, w6])), (h1, .inr (4, [.ref h2])), (h2, .inl (cy 1, 300, .inl f0)), (h3, .inr (7, [.ref h0, .int p7, .int p8, .ref h4])), (h4, .inl (cy 1, 10, .inl f1)), (h5, .inr (6, [.ref h6, .ref h7])), (h6, .inl (cy 1, 11, .inl (u.2.1 0))), (h7, .inl (cy 1, 64, .inl (u.2.1 1)))]) 0 0 := by
  refine q_ent (own := RX6) (by decide) rfl (Nat.le_of_ble_eq_true rfl) (fun p e s m below meth c ls X hr hlk hnm hK h hA hl => ?_)
  obtain ⟨hx, hb, hml, hown, ht⟩ := id X
  replace hl : lv_has ls 7 [(0, .ref h5), (1, .ref h3), (2, .int p0), (3, .int p1), (4, .int p2)] := hl
  refine lv_iconst (v := 0) hx hb dX6_rowOf_0 (by decide) ?_
  refine lv_istore (lv' := [(5, .int 0), (0, .ref h5), (1, .ref h3), (2, .int p0), (3, .int p1), (4, .int p2)]) hx hb dX6_rowOf_1 hl (by decide) rfl (fun ls_1 hl_1 => ?_)
  clear hl
  refine lv_iconst (v := 0) hx hb dX6_rowOf_3 (by decide) ?_
  refine lv_istore (lv' := [(6, .int 0), (5, .int 0), (0, .ref h5), (1, .ref h3), (2, .int p0), (3, .int p1), (4, .int p2)]) hx hb dX6_rowOf_4 hl_1 (by decide) rfl (fun ls_2 hl_2 => ?_)
  clear hl_1
  refine q_wl (fun (q : Int32 × Int32) H locs ls => match q with | (v6_3_0, v6_3_1) => ∃ v6_3_2 : Nat → Int32, ∃ v6_3_3 : Nat → Int32, (0 ≤ (v6_3_0).toInt ∧ (v6_3_0).toInt ≤ 10) ∧ (0 ≤ (v6_3_1).toInt ∧ (v6_3_1).toInt ≤ 1023) ∧ qW D (va_A [(h0, .inr (3, [.int p3, .int p4, .int p5, .int p6, .ref h1, w0, w1, w2, w3, w4, w5, w6])), (h1, .inr (4, [.ref h2])), (h2, .inl (cy 1, 300, .inl f0)), (h3, .inr (7, [.ref h0, .int p7, .int p8, .ref h4])), (h4, .inl (cy 1, 10, .inl f1)), (h5, .inr (6, [.ref h6, .ref h7])), (h6, .inl (cy 1, 11, .inl f2)), (h7, .inl (cy 1, 64, .inl f3))] sz) s.heap [(h0, .inr (3, [.int p3, .int p4, .int p5, .int p6, .ref h1, w0, w1, w2, w3, w4, w5, w6])), (h1, .inr (4, [.ref h2])), (h2, .inl (cy 1, 300, .inl f0)), (h3, .inr (7, [.ref h0, .int p7, .int p8, .ref h4])), (h4, .inl (cy 1, 10, .inl f1)), (h5, .inr (6, [.ref h6, .ref h7])), (h6, .inl (cy 1, 11, .inl v6_3_2)), (h7, .inl (cy 1, 64, .inl v6_3_3))] H locs ∧ lv_has ls 7 [(0, .ref h5), (1, .ref h3), (2, .int p0), (3, .int p1), (4, .int p2), (5, .int v6_3_1), (6, .int v6_3_0)]) (fun (q : Int32 × Int32) => match q with | (v6_3_0, v6_3_1) => (11 - (v6_3_0).toInt).toNat) (fun q_6 ih_6 H locs ls hP => ?_) (0, 0) ⟨f2, f3, ⟨by decide +kernel, by decide +kernel⟩, ⟨by decide +kernel, by decide +kernel⟩, h, (lv_sub hl_2 [2, 3, 4, 5, 6, 1, 0] rfl)⟩
  obtain ⟨v6_3_0, v6_3_1⟩ := q_6
  obtain ⟨v6_3_2, v6_3_3, hv6_3_0, hv6_3_1, h, hl⟩ := hP
  refine lv_iload hx hb dX6_rowOf_6 (lv_at hl 6 rfl) ?_
  refine lv_aload_n hx hb dX6_rowOf_8 rfl (lv_at hl 1 rfl) ?_
  refine q_get X hK h 3 rfl rfl wf_7 0 (by decide) rfl wm_2_41 dX6_rowOf_9 ?_
  refine q_get X hK h 0 rfl rfl wf_3 1 (by decide) rfl wm_1_84 dX6_rowOf_12 ?_
  refine lv_icmp_ge (tgt := 53) hx hb dX6_rowOf_15 (by decide) (fun c_4 => ?_) (fun c_4 => ?_)
  · replace c_4 := i_le (x := p4) (y := v6_3_0) rfl rfl c_4
    refine lv_iload hx hb dX6_rowOf_53 (lv_at hl 5 rfl) ?_
    exact q_iret X hr hlk hK h rfl (fun _ => 0, fun k => List.getD [v6_3_2, v6_3_3] k (fun _ => 0), fun _ _ => 0) ⟨⟨by omega, by omega⟩, trivial⟩ [0, 1, 2, 3, 4, 5, 6, 7] rfl rfl dX6_rowOf_55 (Nat.le_of_ble_eq_true rfl) (Nat.le_of_ble_eq_true rfl)
  · replace c_4 := i_nle (x := p4) (y := v6_3_0) rfl rfl c_4
    refine lv_iload hx hb dX6_rowOf_18 (lv_at hl 6 rfl) ?_
    refine lv_iload_n hx hb dX6_rowOf_20 rfl (lv_at hl 2 rfl) ?_
    refine q_jn (pc2 := 47) (fun H locs ls st => ∃ v47_5_2 : Int32, ∃ v47_5_0 : Nat → Int32, ∃ v47_5_1 : Nat → Int32, (0 ≤ (v47_5_2).toInt ∧ (v47_5_2).toInt ≤ 1023) ∧ st = [] ∧ qW D (va_A [(h0, .inr (3, [.int p3, .int p4, .int p5, .int p6, .ref h1, w0, w1, w2, w3, w4, w5, w6])), (h1, .inr (4, [.ref h2])), (h2, .inl (cy 1, 300, .inl f0)), (h3, .inr (7, [.ref h0, .int p7, .int p8, .ref h4])), (h4, .inl (cy 1, 10, .inl f1)), (h5, .inr (6, [.ref h6, .ref h7])), (h6, .inl (cy 1, 11, .inl f2)), (h7, .inl (cy 1, 64, .inl f3))] sz) s.heap [(h0, .inr (3, [.int p3, .int p4, .int p5, .int p6, .ref h1, w0, w1, w2, w3, w4, w5, w6])), (h1, .inr (4, [.ref h2])), (h2, .inl (cy 1, 300, .inl f0)), (h3, .inr (7, [.ref h0, .int p7, .int p8, .ref h4])), (h4, .inl (cy 1, 10, .inl f1)), (h5, .inr (6, [.ref h6, .ref h7])), (h6, .inl (cy 1, 11, .inl v47_5_0)), (h7, .inl (cy 1, 64, .inl v47_5_1))] H locs ∧ lv_has ls 7 [(0, .ref h5), (1, .ref h3), (2, .int p0), (3, .int p1), (4, .int p2), (5, .int v47_5_2), (6, .int v6_3_0)]) (fun H locs ls st hP => ?_) (fun J_47 => ?_)
    · obtain ⟨v47_5_2, v47_5_0, v47_5_1, hv47_5_2, rfl, h, hl⟩ := hP
      obtain ⟨z_6, ez_6, hz_6⟩ := e_add (x := v6_3_0) (y := Int32.ofInt 1) rfl (b := 1) (by decide) (by omega) (by omega)
      refine lv_iinc (v := z_6) (lv' := [(6, .int z_6), (0, .ref h5), (1, .ref h3), (2, .int p0), (3, .int p1), (4, .int p2), (5, .int v47_5_2)]) hx hb dX6_rowOf_47 hl (k := 6) rfl ez_6 (by decide) rfl (fun ls_6 hl_6 => ?_)
      clear hl
      refine lv_goto (tgt := 6) hx hb dX6_rowOf_50 (by decide) ?_
      exact ih_6 (z_6, v47_5_2) (by show (11 - (z_6).toInt).toNat < (11 - (v6_3_0).toInt).toNat; omega) _ _ _ ⟨v47_5_0, v47_5_1, ⟨by omega, by omega⟩, ⟨by omega, by omega⟩, h, (lv_sub hl_6 [1, 2, 3, 4, 5, 6, 0] rfl)⟩
    · skip
      refine lv_icmp_eq (tgt := 47) hx hb dX6_rowOf_21 (by decide) (fun c_7 => ?_) (fun c_7 => ?_)
      · replace c_7 := i_eq (x := v6_3_0) (y := p0) rfl rfl c_7
        exact J_47 _ _ _ _ ⟨v6_3_1, v6_3_2, v6_3_3, ⟨by omega, by omega⟩, rfl, h, (lv_sub hl [0, 1, 2, 3, 4, 5, 6] rfl)⟩
      · replace c_7 := i_ne (x := v6_3_0) (y := p0) rfl rfl c_7
        refine lv_aload_n hx hb dX6_rowOf_24 rfl (lv_at hl 0 rfl) ?_
        refine lv_aload_n hx hb dX6_rowOf_25 rfl (lv_at hl 1 rfl) ?_
        refine lv_iload_n hx hb dX6_rowOf_26 rfl (lv_at hl 2 rfl) ?_
        refine lv_iload_n hx hb dX6_rowOf_27 rfl (lv_at hl 3 rfl) ?_
        refine lv_iload hx hb dX6_rowOf_28 (lv_at hl 6 rfl) ?_
        refine lv_iload hx hb dX6_rowOf_30 (lv_at hl 4 rfl) ?_
        refine q_callVi (rest := []) (wr := []) X hK hA h (fun sz => gX6_areOpposites_110 l D cy h0 h1 h2 h3 h4 h5 h6 h7 p0 p1 v6_3_0 p2 p3 p4 p5 p6 w0 w1 w2 w3 w4 w5 w6 f0 p7 p8 f1 v6_3_2 v6_3_3 ⟨by omega, by omega⟩ ⟨by omega, by omega⟩ ⟨by omega, by omega⟩ ⟨by omega, by omega⟩ ⟨by omega, by omega⟩ ⟨by omega, by omega⟩ ⟨by omega, by omega⟩ ⟨by omega, by omega⟩ ⟨by omega, by omega⟩ ⟨by omega, by omega⟩ (rg_wide rf0 (by decide) (by decide)) (rg_wide rf1 (by decide) (by decide)) sz) wm_3_231 wm_3_199 wm_1_5 hd_X6_areOpposites wm_3_197 wm_3_198 (ci := 6) (q0 := 5) rfl rfl ⟨Nat.le_of_ble_eq_true rfl, Nat.le_of_ble_eq_true rfl⟩ hl.1 rfl (Nat.le_of_ble_eq_true rfl) dX6_rowOf_32 ⟨Nat.le_of_ble_eq_true rfl, Nat.le_of_ble_eq_true rfl⟩ [0, 1, 2, 3, 4, 5, 6, 7] [] rfl rfl (by decide) rfl rfl (fun r_8 u_8 H locs w_8 h_8 => ?_)
        clear h
        obtain ⟨wr_8, _⟩ := w_8
        replace h_8 : qW D _ _ [(h0, .inr (3, [.int p3, .int p4, .int p5, .int p6, .ref h1, w0, w1, w2, w3, w4, w5, w6])), (h1, .inr (4, [.ref h2])), (h2, .inl (cy 1, 300, .inl f0)), (h3, .inr (7, [.ref h0, .int p7, .int p8, .ref h4])), (h4, .inl (cy 1, 10, .inl f1)), (h5, .inr (6, [.ref h6, .ref h7])), (h6, .inl (cy 1, 11, .inl (u_8.2.1 0))), (h7, .inl (cy 1, 64, .inl (u_8.2.1 1)))] _ _ := h_8
        refine lv_if_eq (tgt := 47) hx hb dX6_rowOf_35 (by decide) (fun c_9 => ?_) (fun c_9 => ?_)
        · replace c_9 := i_eq (x := r_8) (y := 0) rfl (show (0 : Int32).toInt = 0 by decide) c_9
          exact J_47 _ _ _ _ ⟨v6_3_1, (u_8.2.1 0), (u_8.2.1 1), ⟨by omega, by omega⟩, rfl, h_8, (lv_sub hl [0, 1, 2, 3, 4, 5, 6] rfl)⟩
        · replace c_9 := i_ne (x := r_8) (y := 0) rfl (show (0 : Int32).toInt = 0 by decide) c_9
          refine lv_iload hx hb dX6_rowOf_38 (lv_at hl 5 rfl) ?_
          refine lv_iconst (v := 1) hx hb dX6_rowOf_40 (by decide) ?_
          refine lv_iload hx hb dX6_rowOf_41 (lv_at hl 6 rfl) ?_
          refine lv_ishl hx hb dX6_rowOf_43 ?_
          obtain ⟨z_10, ez_10, hz_10⟩ := e_shlk (p := v6_3_0) 9 (by decide) rfl (by omega) (by omega)
          refine q_c z_10 ez_10 ?_
          clear ez_10
          refine lv_ior hx hb dX6_rowOf_44 ?_
          obtain ⟨z_11, ez_11, hz_11⟩ := e_or (x := v6_3_1) (y := z_10) 10 (by decide) rfl rfl (by omega) (by omega) (by omega) (by omega)
          refine q_c z_11 ez_11 ?_
          clear ez_11
          refine lv_istore (lv' := [(5, .int z_11), (0, .ref h5), (1, .ref h3), (2, .int p0), (3, .int p1), (4, .int p2), (6, .int v6_3_0)]) hx hb dX6_rowOf_45 hl (by decide) rfl (fun ls_12 hl_12 => ?_)
          clear hl
          exact J_47 _ _ _ _ ⟨z_11, (u_8.2.1 0), (u_8.2.1 1), ⟨by omega, by omega⟩, rfl, h_8, (lv_sub hl_12 [1, 2, 3, 4, 5, 0, 6] rfl)⟩
set_option maxHeartbeats 4000000 in
set_option maxRecDepth 100000 in
theorem gX0_draw_112 (l : Launch) (D : va_G) (cy : Nat → ClassId) (h0 : Nat) (h1 : Nat) (h2 : Nat) (h3 : Nat) (h4 : Nat) (h5 : Nat) (h6 : Nat) (h7 : Nat) (h8 : Nat) (h9 : Nat) (p0 : Int32) (p1 : Int32) (p2 : Int32) (p3 : Int32) (p4 : Int32) (w0 : Value) (w1 : Value) (w2 : Value) (w3 : Value) (w4 : Value) (w5 : Value) (w6 : Value) (f0 : Nat → Int32) (p5 : Int32) (p6 : Int32) (f1 : Nat → Int32) (f2 : Nat → Int32) (f3 : Nat → Int32) (p7 : Int32) (w7 : Value) (w8 : Value) (f4 : Nat → Int32) (hp0 : 0 ≤ (p0).toInt ∧ (p0).toInt ≤ 62000) (hp1 : 1 ≤ (p1).toInt ∧ (p1).toInt ≤ 3) (hp2 : 0 ≤ (p2).toInt ∧ (p2).toInt ≤ 10) (hp3 : 0 ≤ (p3).toInt ∧ (p3).toInt ≤ 920) (hp4 : 0 ≤ (p4).toInt ∧ (p4).toInt ≤ 999) (hp5 : 0 ≤ (p5).toInt ∧ (p5).toInt ≤ 60000) (hp6 : 0 ≤ (p6).toInt ∧ (p6).toInt ≤ 1023) (hp7 : 0 ≤ (p7).toInt ∧ (p7).toInt ≤ 10) (rf0 : RG f0 300 0 2062) (rf1 : RG f1 10 0 999) (rf4 : RG f4 10 0 1023) (sz : Nat) : MV l yX0_draw cX0_draw 6 { frames := 5, cells := 0, slots := 0, locals := 119 } [.ref h8, .ref h3, .int p0, .ref h5] D cy [(h0, .inr (3, [.int p1, .int p2, .int p3, .int p4, .ref h1, w0, w1, w2, w3, w4, w5, w6])), (h1, .inr (4, [.ref h2])), (h2, .inl (cy 1, 300, .inl f0)), (h3, .inr (7, [.ref h0, .int p5, .int p6, .ref h4])), (h4, .inl (cy 1, 10, .inl f1)), (h5, .inr (6, [.ref h6, .ref h7])), (h6, .inl (cy 1, 11, .inl f2)), (h7, .inl (cy 1, 64, .inl f3)), (h8, .inr (0, [.int p7, .ref h9, w7, w8])), (h9, .inl (cy 1, 10, .inl f4))] sz (fun u => (0 ≤ (u.2.1 2 0).toInt ∧ (u.2.1 2 0).toInt ≤ 10) ∧ RG (u.2.1 3) 10 0 1023 ∧ True) (fun u => [(h0, .inr (3, [.int p1, .int p2, .int p3, .int p4, .ref h1, w0, w1, w2, w3, w4, w5, w6])), (h1, .inr (4, [.ref h2])), (h2, .inl (cy 1, 300, .inl f0)), (h3, .inr (7, [.ref h0, .int p5, .int p6, .ref h4])), (h4, .inl (cy 1, 10, .inl f1)), (h5, .inr (6, [.ref h6, .ref h7])), (h6, .inl (cy 1, 11, .inl (u.2.1 0))), (h7, .inl (cy 1, 64, .inl (u.2.1 1))), (h8, .inr (0, [.int (u.2.1 2 0), .ref h9, w7, w8])), (h9, .inl (cy 1, 10, .inl (u.2.1 3)))]) 0 0 := by
  refine q_ent (own := RX0) (by decide) rfl (Nat.le_of_ble_eq_true rfl) (fun p e s m below meth c ls X hr hlk hnm hK h hA hl => ?_)
  obtain ⟨hx, hb, hml, hown, ht⟩ := id X
  replace hl : lv_has ls 6 [(0, .ref h8), (1, .ref h3), (2, .int p0), (3, .ref h5)] := hl
  refine lv_aload_n hx hb dX0_draw_0 rfl (lv_at hl 0 rfl) ?_
  refine lv_aload_n hx hb dX0_draw_1 rfl (lv_at hl 1 rfl) ?_
  refine q_get X hK h 3 rfl rfl wf_7 0 (by decide) rfl wm_2_38 dX0_draw_2 ?_
  refine q_get X hK h 0 rfl rfl wf_3 1 (by decide) rfl wm_1_80 dX0_draw_5 ?_
  refine q_put (v := .int p2) X hK h 8 rfl rfl wf_0 tyX0 tyX0_ok nmX0 0 (by decide) wm_1_198 rfl rfl rfl (Nat.le_of_ble_eq_true rfl) dX0_draw_8 (fun H locs h_1 => ?_)
  clear h
  replace h_1 : qW D _ _ [(h0, .inr (3, [.int p1, .int p2, .int p3, .int p4, .ref h1, w0, w1, w2, w3, w4, w5, w6])), (h1, .inr (4, [.ref h2])), (h2, .inl (cy 1, 300, .inl f0)), (h3, .inr (7, [.ref h0, .int p5, .int p6, .ref h4])), (h4, .inl (cy 1, 10, .inl f1)), (h5, .inr (6, [.ref h6, .ref h7])), (h6, .inl (cy 1, 11, .inl f2)), (h7, .inl (cy 1, 64, .inl f3)), (h8, .inr (0, [.int p2, .ref h9, w7, w8])), (h9, .inl (cy 1, 10, .inl f4))] _ _ := h_1
  refine lv_aload_n hx hb dX0_draw_11 rfl (lv_at hl 0 rfl) ?_
  refine q_get X hK h_1 8 rfl rfl wf_0 1 (by decide) rfl wm_1_199 dX0_draw_12 ?_
  refine lv_iconst (v := 0) hx hb dX0_draw_15 (by decide) ?_
  refine q_callSv (rest := []) (wr := [(h0, .inr (3, [.int p1, .int p2, .int p3, .int p4, .ref h1, w0, w1, w2, w3, w4, w5, w6])), (h1, .inr (4, [.ref h2])), (h2, .inl (cy 1, 300, .inl f0)), (h3, .inr (7, [.ref h0, .int p5, .int p6, .ref h4])), (h4, .inl (cy 1, 10, .inl f1)), (h5, .inr (6, [.ref h6, .ref h7])), (h6, .inl (cy 1, 11, .inl f2)), (h7, .inl (cy 1, 64, .inl f3)), (h8, .inr (0, [.int p2, .ref h9, w7, w8]))]) X hK hA h_1 (fun sz => gJ7_fill_53178_7 l D cy h9 (0 : Int32) f4 ⟨by decide +kernel, by decide +kernel⟩ (rg_wide rf4 (by decide) (by decide)) sz) wm_4_105 wm_4_107 wm_1_20 hd_J7_fill_53178 wm_4_106 ⟨Nat.le_of_ble_eq_true rfl, Nat.le_of_ble_eq_true rfl⟩ hl.1 rfl (Nat.le_of_ble_eq_true rfl) dX0_draw_16 ⟨Nat.le_of_ble_eq_true rfl, Nat.le_of_ble_eq_true rfl⟩ [9] [0, 1, 2, 3, 4, 5, 6, 7, 8] rfl rfl (by decide) rfl rfl (fun u_2 H locs w_2 h_2 => ?_)
  clear h_1
  obtain ⟨w2_0, _⟩ := w_2
  replace h_2 : qW D _ _ [(h0, .inr (3, [.int p1, .int p2, .int p3, .int p4, .ref h1, w0, w1, w2, w3, w4, w5, w6])), (h1, .inr (4, [.ref h2])), (h2, .inl (cy 1, 300, .inl f0)), (h3, .inr (7, [.ref h0, .int p5, .int p6, .ref h4])), (h4, .inl (cy 1, 10, .inl f1)), (h5, .inr (6, [.ref h6, .ref h7])), (h6, .inl (cy 1, 11, .inl f2)), (h7, .inl (cy 1, 64, .inl f3)), (h8, .inr (0, [.int p2, .ref h9, w7, w8])), (h9, .inl (cy 1, 10, .inl (u_2.2.1 0)))] _ _ := h_2
  refine lv_iconst (v := 0) hx hb dX0_draw_19 (by decide) ?_
  refine lv_istore (lv' := [(4, .int 0), (0, .ref h8), (1, .ref h3), (2, .int p0), (3, .ref h5)]) hx hb dX0_draw_20 hl (by decide) rfl (fun ls_3 hl_3 => ?_)
  clear hl
  refine q_wl (fun (v22_4_0 : Int32) H locs ls => ∃ v22_4_1 : Nat → Int32, ∃ v22_4_2 : Nat → Int32, ∃ v22_4_3 : Nat → Int32, (0 ≤ (v22_4_0).toInt ∧ (v22_4_0).toInt ≤ 10) ∧ RG v22_4_3 10 0 1023 ∧ qW D (va_A [(h0, .inr (3, [.int p1, .int p2, .int p3, .int p4, .ref h1, w0, w1, w2, w3, w4, w5, w6])), (h1, .inr (4, [.ref h2])), (h2, .inl (cy 1, 300, .inl f0)), (h3, .inr (7, [.ref h0, .int p5, .int p6, .ref h4])), (h4, .inl (cy 1, 10, .inl f1)), (h5, .inr (6, [.ref h6, .ref h7])), (h6, .inl (cy 1, 11, .inl f2)), (h7, .inl (cy 1, 64, .inl f3)), (h8, .inr (0, [.int p7, .ref h9, w7, w8])), (h9, .inl (cy 1, 10, .inl f4))] sz) s.heap [(h0, .inr (3, [.int p1, .int p2, .int p3, .int p4, .ref h1, w0, w1, w2, w3, w4, w5, w6])), (h1, .inr (4, [.ref h2])), (h2, .inl (cy 1, 300, .inl f0)), (h3, .inr (7, [.ref h0, .int p5, .int p6, .ref h4])), (h4, .inl (cy 1, 10, .inl f1)), (h5, .inr (6, [.ref h6, .ref h7])), (h6, .inl (cy 1, 11, .inl v22_4_1)), (h7, .inl (cy 1, 64, .inl v22_4_2)), (h8, .inr (0, [.int p2, .ref h9, w7, w8])), (h9, .inl (cy 1, 10, .inl v22_4_3))] H locs ∧ lv_has ls 6 [(0, .ref h8), (1, .ref h3), (2, .int p0), (3, .ref h5), (4, .int v22_4_0)]) (fun (v22_4_0 : Int32) => (11 - (v22_4_0).toInt).toNat) (fun q_22 ih_22 H locs ls hP => ?_) 0 ⟨f2, f3, (u_2.2.1 0), ⟨by decide +kernel, by decide +kernel⟩, (rg_wide w2_0 (by decide) (by decide)), h_2, (lv_sub hl_3 [1, 2, 3, 4, 0] rfl)⟩
  obtain ⟨v22_4_0, rfl⟩ : ∃ z, z = q_22 := ⟨_, rfl⟩
  obtain ⟨v22_4_1, v22_4_2, v22_4_3, hv22_4_0, rv22_4_3, h, hl⟩ := hP
  refine lv_iload hx hb dX0_draw_22 (lv_at hl 4 rfl) ?_
  refine lv_aload_n hx hb dX0_draw_24 rfl (lv_at hl 0 rfl) ?_
  refine q_get X hK h 8 rfl rfl wf_0 0 (by decide) rfl wm_1_198 dX0_draw_25 ?_
  refine lv_icmp_ge (tgt := 106) hx hb dX0_draw_28 (by decide) (fun c_5 => ?_) (fun c_5 => ?_)
  · replace c_5 := i_le (x := p2) (y := v22_4_0) rfl rfl c_5
    exact q_vret X hr hlk hK h (fun _ => 0, fun k => List.getD [v22_4_1, v22_4_2, (fun _ => p2), v22_4_3] k (fun _ => 0), fun _ _ => 0) ⟨(⟨by omega, by omega⟩ : 0 ≤ (p2 : Int32).toInt ∧ (p2 : Int32).toInt ≤ 10), (rg_wide rv22_4_3 (by decide) (by decide)), trivial⟩ [0, 1, 2, 3, 4, 5, 6, 7, 8, 9] rfl rfl dX0_draw_106 (Nat.le_of_ble_eq_true rfl) (Nat.le_of_ble_eq_true rfl)
  · replace c_5 := i_nle (x := p2) (y := v22_4_0) rfl rfl c_5
    refine lv_iload hx hb dX0_draw_31 (lv_at hl 4 rfl) ?_
    refine lv_iconst (v := 1) hx hb dX0_draw_33 (by decide) ?_
    refine lv_iadd hx hb dX0_draw_34 ?_
    obtain ⟨z_6, ez_6, hz_6⟩ := e_add (x := v22_4_0) (y := 1) rfl (show (1 : Int32).toInt = 1 by decide) (by omega) (by omega)
    refine q_c z_6 ez_6 ?_
    clear ez_6
    refine lv_istore (lv' := [(5, .int z_6), (0, .ref h8), (1, .ref h3), (2, .int p0), (3, .ref h5), (4, .int v22_4_0)]) hx hb dX0_draw_35 hl (by decide) rfl (fun ls_7 hl_7 => ?_)
    clear hl
    refine q_wl (fun (v37_8_0 : Int32) H locs ls => ∃ v37_8_1 : Nat → Int32, ∃ v37_8_2 : Nat → Int32, ∃ v37_8_3 : Nat → Int32, (1 ≤ (v37_8_0).toInt ∧ (v37_8_0).toInt ≤ 10) ∧ RG v37_8_1 10 0 1023 ∧ qW D (va_A [(h0, .inr (3, [.int p1, .int p2, .int p3, .int p4, .ref h1, w0, w1, w2, w3, w4, w5, w6])), (h1, .inr (4, [.ref h2])), (h2, .inl (cy 1, 300, .inl f0)), (h3, .inr (7, [.ref h0, .int p5, .int p6, .ref h4])), (h4, .inl (cy 1, 10, .inl f1)), (h5, .inr (6, [.ref h6, .ref h7])), (h6, .inl (cy 1, 11, .inl f2)), (h7, .inl (cy 1, 64, .inl f3)), (h8, .inr (0, [.int p7, .ref h9, w7, w8])), (h9, .inl (cy 1, 10, .inl f4))] sz) s.heap [(h0, .inr (3, [.int p1, .int p2, .int p3, .int p4, .ref h1, w0, w1, w2, w3, w4, w5, w6])), (h1, .inr (4, [.ref h2])), (h2, .inl (cy 1, 300, .inl f0)), (h3, .inr (7, [.ref h0, .int p5, .int p6, .ref h4])), (h4, .inl (cy 1, 10, .inl f1)), (h5, .inr (6, [.ref h6, .ref h7])), (h6, .inl (cy 1, 11, .inl v37_8_2)), (h7, .inl (cy 1, 64, .inl v37_8_3)), (h8, .inr (0, [.int p2, .ref h9, w7, w8])), (h9, .inl (cy 1, 10, .inl v37_8_1))] H locs ∧ lv_has ls 6 [(0, .ref h8), (1, .ref h3), (2, .int p0), (3, .ref h5), (4, .int v22_4_0), (5, .int v37_8_0)]) (fun (v37_8_0 : Int32) => (11 - (v37_8_0).toInt).toNat) (fun q_37 ih_37 H locs ls hP => ?_) z_6 ⟨v22_4_3, v22_4_1, v22_4_2, ⟨by omega, by omega⟩, (rg_wide rv22_4_3 (by decide) (by decide)), h, (lv_sub hl_7 [1, 2, 3, 4, 5, 0] rfl)⟩
    obtain ⟨v37_8_0, rfl⟩ : ∃ z, z = q_37 := ⟨_, rfl⟩
    obtain ⟨v37_8_1, v37_8_2, v37_8_3, hv37_8_0, rv37_8_1, h, hl⟩ := hP
    refine lv_iload hx hb dX0_draw_37 (lv_at hl 5 rfl) ?_
    refine lv_aload_n hx hb dX0_draw_39 rfl (lv_at hl 0 rfl) ?_
    refine q_get X hK h 8 rfl rfl wf_0 0 (by decide) rfl wm_1_198 dX0_draw_40 ?_
    refine lv_icmp_ge (tgt := 100) hx hb dX0_draw_43 (by decide) (fun c_9 => ?_) (fun c_9 => ?_)
    · replace c_9 := i_le (x := p2) (y := v37_8_0) rfl rfl c_9
      obtain ⟨z_10, ez_10, hz_10⟩ := e_add (x := v22_4_0) (y := Int32.ofInt 1) rfl (b := 1) (by decide) (by omega) (by omega)
      refine lv_iinc (v := z_10) (lv' := [(4, .int z_10), (0, .ref h8), (1, .ref h3), (2, .int p0), (3, .ref h5), (5, .int v37_8_0)]) hx hb dX0_draw_100 hl (k := 4) rfl ez_10 (by decide) rfl (fun ls_10 hl_10 => ?_)
      clear hl
      refine lv_goto (tgt := 22) hx hb dX0_draw_103 (by decide) ?_
      exact ih_22 z_10 (by show (11 - (z_10).toInt).toNat < (11 - (v22_4_0).toInt).toNat; omega) _ _ _ ⟨v37_8_2, v37_8_3, v37_8_1, ⟨by omega, by omega⟩, (rg_wide rv37_8_1 (by decide) (by decide)), h, (lv_sub hl_10 [1, 2, 3, 4, 0] rfl)⟩
    · replace c_9 := i_nle (x := p2) (y := v37_8_0) rfl rfl c_9
      refine lv_aload_n hx hb dX0_draw_46 rfl (lv_at hl 3 rfl) ?_
      refine lv_aload_n hx hb dX0_draw_47 rfl (lv_at hl 1 rfl) ?_
      refine lv_iload hx hb dX0_draw_48 (lv_at hl 4 rfl) ?_
      refine lv_aload_n hx hb dX0_draw_50 rfl (lv_at hl 1 rfl) ?_
      refine q_get X hK h 3 rfl rfl wf_7 3 (by decide) rfl wm_2_52 dX0_draw_51 ?_
      refine lv_iload hx hb dX0_draw_54 (lv_at hl 4 rfl) ?_
      refine q_iald X hK h 4 rfl (i_in rfl (by omega) (by omega)) dX0_draw_56 ?_
      obtain ⟨z_11, ez_11, hz_11⟩ := rg_get rf1 (x := v22_4_0) rfl (by omega) (by omega)
      refine q_c z_11 ez_11 ?_
      clear ez_11
      refine lv_iload hx hb dX0_draw_57 (lv_at hl 5 rfl) ?_
      refine lv_iload_n hx hb dX0_draw_59 rfl (lv_at hl 2 rfl) ?_
      refine q_callVi (rest := []) (wr := [(h8, .inr (0, [.int p2, .ref h9, w7, w8])), (h9, .inl (cy 1, 10, .inl v37_8_1))]) X hK hA h (fun sz => gX6_areOpposites_110 l D cy h0 h1 h2 h3 h4 h5 h6 h7 v22_4_0 z_11 v37_8_0 p0 p1 p2 p3 p4 w0 w1 w2 w3 w4 w5 w6 f0 p5 p6 f1 v37_8_2 v37_8_3 ⟨by omega, by omega⟩ ⟨by omega, by omega⟩ ⟨by omega, by omega⟩ ⟨by omega, by omega⟩ ⟨by omega, by omega⟩ ⟨by omega, by omega⟩ ⟨by omega, by omega⟩ ⟨by omega, by omega⟩ ⟨by omega, by omega⟩ ⟨by omega, by omega⟩ (rg_wide rf0 (by decide) (by decide)) (rg_wide rf1 (by decide) (by decide)) sz) wm_4_108 wm_3_199 wm_1_5 hd_X6_areOpposites wm_3_197 wm_3_198 (ci := 6) (q0 := 5) rfl rfl ⟨Nat.le_of_ble_eq_true rfl, Nat.le_of_ble_eq_true rfl⟩ hl.1 rfl (Nat.le_of_ble_eq_true rfl) dX0_draw_60 ⟨Nat.le_of_ble_eq_true rfl, Nat.le_of_ble_eq_true rfl⟩ [0, 1, 2, 3, 4, 5, 6, 7] [8, 9] rfl rfl (by decide) rfl rfl (fun r_12 u_12 H locs w_12 h_12 => ?_)
      clear h
      obtain ⟨wr_12, _⟩ := w_12
      replace h_12 : qW D _ _ [(h8, .inr (0, [.int p2, .ref h9, w7, w8])), (h9, .inl (cy 1, 10, .inl v37_8_1)), (h0, .inr (3, [.int p1, .int p2, .int p3, .int p4, .ref h1, w0, w1, w2, w3, w4, w5, w6])), (h1, .inr (4, [.ref h2])), (h2, .inl (cy 1, 300, .inl f0)), (h3, .inr (7, [.ref h0, .int p5, .int p6, .ref h4])), (h4, .inl (cy 1, 10, .inl f1)), (h5, .inr (6, [.ref h6, .ref h7])), (h6, .inl (cy 1, 11, .inl (u_12.2.1 0))), (h7, .inl (cy 1, 64, .inl (u_12.2.1 1)))] _ _ := h_12
      refine q_jn (pc2 := 94) (fun H locs ls st => ∃ v94_13_0 : Nat → Int32, RG v94_13_0 10 0 1023 ∧ st = [] ∧ qW D (va_A [(h0, .inr (3, [.int p1, .int p2, .int p3, .int p4, .ref h1, w0, w1, w2, w3, w4, w5, w6])), (h1, .inr (4, [.ref h2])), (h2, .inl (cy 1, 300, .inl f0)), (h3, .inr (7, [.ref h0, .int p5, .int p6, .ref h4])), (h4, .inl (cy 1, 10, .inl f1)), (h5, .inr (6, [.ref h6, .ref h7])), (h6, .inl (cy 1, 11, .inl f2)), (h7, .inl (cy 1, 64, .inl f3)), (h8, .inr (0, [.int p7, .ref h9, w7, w8])), (h9, .inl (cy 1, 10, .inl f4))] sz) s.heap [(h8, .inr (0, [.int p2, .ref h9, w7, w8])), (h9, .inl (cy 1, 10, .inl v94_13_0)), (h0, .inr (3, [.int p1, .int p2, .int p3, .int p4, .ref h1, w0, w1, w2, w3, w4, w5, w6])), (h1, .inr (4, [.ref h2])), (h2, .inl (cy 1, 300, .inl f0)), (h3, .inr (7, [.ref h0, .int p5, .int p6, .ref h4])), (h4, .inl (cy 1, 10, .inl f1)), (h5, .inr (6, [.ref h6, .ref h7])), (h6, .inl (cy 1, 11, .inl (u_12.2.1 0))), (h7, .inl (cy 1, 64, .inl (u_12.2.1 1)))] H locs ∧ lv_has ls 6 [(0, .ref h8), (1, .ref h3), (2, .int p0), (3, .ref h5), (4, .int v22_4_0), (5, .int v37_8_0)]) (fun H locs ls st hP => ?_) (fun J_94 => ?_)
      · obtain ⟨v94_13_0, rv94_13_0, rfl, h, hl⟩ := hP
        obtain ⟨z_14, ez_14, hz_14⟩ := e_add (x := v37_8_0) (y := Int32.ofInt 1) rfl (b := 1) (by decide) (by omega) (by omega)
        refine lv_iinc (v := z_14) (lv' := [(5, .int z_14), (0, .ref h8), (1, .ref h3), (2, .int p0), (3, .ref h5), (4, .int v22_4_0)]) hx hb dX0_draw_94 hl (k := 5) rfl ez_14 (by decide) rfl (fun ls_14 hl_14 => ?_)
        clear hl
        refine lv_goto (tgt := 37) hx hb dX0_draw_97 (by decide) ?_
        exact ih_37 z_14 (by show (11 - (z_14).toInt).toNat < (11 - (v37_8_0).toInt).toNat; omega) _ _ _ ⟨v94_13_0, (u_12.2.1 0), (u_12.2.1 1), ⟨by omega, by omega⟩, (rg_wide rv94_13_0 (by decide) (by decide)), (q_re h [2, 3, 4, 5, 6, 7, 8, 9, 0, 1] rfl rfl), (lv_sub hl_14 [1, 2, 3, 4, 5, 0] rfl)⟩
      · skip
        refine lv_if_eq (tgt := 94) hx hb dX0_draw_63 (by decide) (fun c_15 => ?_) (fun c_15 => ?_)
        · replace c_15 := i_eq (x := r_12) (y := 0) rfl (show (0 : Int32).toInt = 0 by decide) c_15
          exact J_94 _ _ _ _ ⟨v37_8_1, (rg_wide rv37_8_1 (by decide) (by decide)), rfl, h_12, (lv_sub hl [0, 1, 2, 3, 4, 5] rfl)⟩
        · replace c_15 := i_ne (x := r_12) (y := 0) rfl (show (0 : Int32).toInt = 0 by decide) c_15
          refine lv_aload_n hx hb dX0_draw_66 rfl (lv_at hl 0 rfl) ?_
          refine q_get X hK h_12 0 rfl rfl wf_0 1 (by decide) rfl wm_1_199 dX0_draw_67 ?_
          refine lv_iload hx hb dX0_draw_70 (lv_at hl 4 rfl) ?_
          refine lv_dup2_11 hx hb dX0_draw_72 rfl rfl ?_
          refine q_iald X hK h_12 1 rfl (i_in rfl (by omega) (by omega)) dX0_draw_73 ?_
          obtain ⟨z_16, ez_16, hz_16⟩ := rg_get rv37_8_1 (x := v22_4_0) rfl (by omega) (by omega)
          refine q_c z_16 ez_16 ?_
          clear ez_16
          refine lv_iconst (v := 1) hx hb dX0_draw_74 (by decide) ?_
          refine lv_iload hx hb dX0_draw_75 (lv_at hl 5 rfl) ?_
          refine lv_ishl hx hb dX0_draw_77 ?_
          obtain ⟨z_17, ez_17, hz_17⟩ := e_shlk (p := v37_8_0) 9 (by decide) rfl (by omega) (by omega)
          refine q_c z_17 ez_17 ?_
          clear ez_17
          refine lv_ior hx hb dX0_draw_78 ?_
          obtain ⟨z_18, ez_18, hz_18⟩ := e_or (x := z_16) (y := z_17) 10 (by decide) rfl rfl (by omega) (by omega) (by omega) (by omega)
          refine q_c z_18 ez_18 ?_
          clear ez_18
          refine q_iast X hK h_12 1 rfl (i_in rfl (by omega) (by omega)) dX0_draw_79 (fun H locs h_20 => ?_)
          clear h_12
          replace h_20 : qW D _ _ [(h8, .inr (0, [.int p2, .ref h9, w7, w8])), (h9, .inl (cy 1, 10, .inl (upd v37_8_1 (Int32.toNatClampNeg v22_4_0) z_18))), (h0, .inr (3, [.int p1, .int p2, .int p3, .int p4, .ref h1, w0, w1, w2, w3, w4, w5, w6])), (h1, .inr (4, [.ref h2])), (h2, .inl (cy 1, 300, .inl f0)), (h3, .inr (7, [.ref h0, .int p5, .int p6, .ref h4])), (h4, .inl (cy 1, 10, .inl f1)), (h5, .inr (6, [.ref h6, .ref h7])), (h6, .inl (cy 1, 11, .inl (u_12.2.1 0))), (h7, .inl (cy 1, 64, .inl (u_12.2.1 1)))] _ _ := h_20
          obtain ⟨F_19, eF_19, rF_19⟩ := rg_upd rv37_8_1 (Int32.toNatClampNeg v22_4_0) (x := z_18) rfl (by omega) (by omega)
          rw [eF_19] at h_20
          clear eF_19
          refine lv_aload_n hx hb dX0_draw_80 rfl (lv_at hl 0 rfl) ?_
          refine q_get X hK h_20 0 rfl rfl wf_0 1 (by decide) rfl wm_1_199 dX0_draw_81 ?_
          refine lv_iload hx hb dX0_draw_84 (lv_at hl 5 rfl) ?_
          refine lv_dup2_11 hx hb dX0_draw_86 rfl rfl ?_
          refine q_iald X hK h_20 1 rfl (i_in rfl (by omega) (by omega)) dX0_draw_87 ?_
          obtain ⟨z_21, ez_21, hz_21⟩ := rg_get rF_19 (x := v37_8_0) rfl (by omega) (by omega)
          refine q_c z_21 ez_21 ?_
          clear ez_21
          refine lv_iconst (v := 1) hx hb dX0_draw_88 (by decide) ?_
          refine lv_iload hx hb dX0_draw_89 (lv_at hl 4 rfl) ?_
          refine lv_ishl hx hb dX0_draw_91 ?_
          obtain ⟨z_22, ez_22, hz_22⟩ := e_shlk (p := v22_4_0) 9 (by decide) rfl (by omega) (by omega)
          refine q_c z_22 ez_22 ?_
          clear ez_22
          refine lv_ior hx hb dX0_draw_92 ?_
          obtain ⟨z_23, ez_23, hz_23⟩ := e_or (x := z_21) (y := z_22) 10 (by decide) rfl rfl (by omega) (by omega) (by omega) (by omega)
          refine q_c z_23 ez_23 ?_
          clear ez_23
          refine q_iast X hK h_20 1 rfl (i_in rfl (by omega) (by omega)) dX0_draw_93 (fun H locs h_25 => ?_)
          clear h_20
          replace h_25 : qW D _ _ [(h8, .inr (0, [.int p2, .ref h9, w7, w8])), (h9, .inl (cy 1, 10, .inl (upd F_19 (Int32.toNatClampNeg v37_8_0) z_23))), (h0, .inr (3, [.int p1, .int p2, .int p3, .int p4, .ref h1, w0, w1, w2, w3, w4, w5, w6])), (h1, .inr (4, [.ref h2])), (h2, .inl (cy 1, 300, .inl f0)), (h3, .inr (7, [.ref h0, .int p5, .int p6, .ref h4])), (h4, .inl (cy 1, 10, .inl f1)), (h5, .inr (6, [.ref h6, .ref h7])), (h6, .inl (cy 1, 11, .inl (u_12.2.1 0))), (h7, .inl (cy 1, 64, .inl (u_12.2.1 1)))] _ _ := h_25
          obtain ⟨F_24, eF_24, rF_24⟩ := rg_upd rF_19 (Int32.toNatClampNeg v37_8_0) (x := z_23) rfl (by omega) (by omega)
          rw [eF_24] at h_25
          clear eF_24
          exact J_94 _ _ _ _ ⟨F_24, (rg_wide rF_24 (by decide) (by decide)), rfl, h_25, (lv_sub hl [0, 1, 2, 3, 4, 5] rfl)⟩
set_option maxHeartbeats 4000000 in
set_option maxRecDepth 100000 in
theorem gX6_swayOf_113 (l : Launch) (D : va_G) (cy : Nat → ClassId) (h0 : Nat) (h1 : Nat) (h2 : Nat) (h3 : Nat) (h4 : Nat) (p0 : Int32) (f0 : Nat → Int32) (f1 : Nat → Int32) (f2 : Nat → Int32) (hp0 : 0 ≤ (p0).toInt ∧ (p0).toInt ≤ 0) (rf0 : RG f0 300 0 2062) (sz : Nat) : MI l yX6_swayOf cX6_swayOf 3 .int { frames := 3, cells := 0, slots := 0, locals := 67 } [.ref h3, .ref h0, .int p0] D cy [(h0, .inr (4, [.ref h1])), (h1, .inl (cy 1, 300, .inl f0)), (h2, .inl (cy 1, 64, .inl f1)), (h3, .inr (6, [.ref h4, .ref h2])), (h4, .inl (cy 1, 11, .inl f2))] sz (fun r u => ((-2147483648) ≤ r.toInt ∧ r.toInt ≤ 2147483647) ∧ True) (fun u => [(h0, .inr (4, [.ref h1])), (h1, .inl (cy 1, 300, .inl f0)), (h2, .inl (cy 1, 64, .inl (u.2.1 0))), (h3, .inr (6, [.ref h4, .ref h2])), (h4, .inl (cy 1, 11, .inl (u.2.1 1)))]) 0 0 := by
  refine q_ent (own := RX6) (by decide) rfl (Nat.le_of_ble_eq_true rfl) (fun p e s m below meth c ls X hr hlk hnm hK h hA hl => ?_)
  obtain ⟨hx, hb, hml, hown, ht⟩ := id X
  replace hl : lv_has ls 3 [(0, .ref h3), (1, .ref h0), (2, .int p0)] := hl
  refine lv_aload_n hx hb dX6_swayOf_0 rfl (lv_at hl 1 rfl) ?_
  refine lv_ifnonnull (tgt := 22) hx hb dX6_swayOf_1 (by decide) ?_
  refine lv_aload_n hx hb dX6_swayOf_22 rfl (lv_at hl 0 rfl) ?_
  refine q_get X hK h 3 rfl rfl wf_6 0 (by decide) rfl wm_1_184 dX6_swayOf_23 ?_
  refine lv_bipush (v := 10) hx hb dX6_swayOf_26 (by decide) ?_
  refine lv_iload_n hx hb dX6_swayOf_28 rfl (lv_at hl 2 rfl) ?_
  refine q_iast X hK h 4 rfl (q_in (by decide +kernel)) dX6_swayOf_29 (fun H locs h_2 => ?_)
  clear h
  replace h_2 : qW D _ _ [(h0, .inr (4, [.ref h1])), (h1, .inl (cy 1, 300, .inl f0)), (h2, .inl (cy 1, 64, .inl f1)), (h3, .inr (6, [.ref h4, .ref h2])), (h4, .inl (cy 1, 11, .inl (upd f2 (Int32.toNatClampNeg 10) p0)))] _ _ := h_2
  obtain ⟨F_1, eF_1⟩ : ∃ z, (upd f2 (Int32.toNatClampNeg 10) p0) = z := ⟨_, rfl⟩
  rw [eF_1] at h_2
  clear eF_1
  refine lv_aload_n hx hb dX6_swayOf_30 rfl (lv_at hl 1 rfl) ?_
  refine lv_aload_n hx hb dX6_swayOf_31 rfl (lv_at hl 0 rfl) ?_
  refine q_get X hK h_2 3 rfl rfl wf_6 0 (by decide) rfl wm_1_184 dX6_swayOf_32 ?_
  refine lv_aload_n hx hb dX6_swayOf_35 rfl (lv_at hl 0 rfl) ?_
  refine q_get X hK h_2 3 rfl rfl wf_6 1 (by decide) rfl wm_1_185 dX6_swayOf_36 ?_
  refine q_callVi (rest := []) (wr := [(h3, .inr (6, [.ref h4, .ref h2]))]) X hK hA h_2 (fun sz => gX4_valueFor_108 l D cy h0 h1 h2 h4 f0 f1 F_1 (rg_wide rf0 (by decide) (by decide)) sz) wm_3_208 wm_3_211 wm_1_19 hd_X4_valueFor wm_3_209 wm_3_210 (ci := 4) (q0 := 0) rfl rfl ⟨Nat.le_of_ble_eq_true rfl, Nat.le_of_ble_eq_true rfl⟩ hl.1 rfl (Nat.le_of_ble_eq_true rfl) dX6_swayOf_39 ⟨Nat.le_of_ble_eq_true rfl, Nat.le_of_ble_eq_true rfl⟩ [0, 1, 2, 4] [3] rfl rfl (by decide) rfl rfl (fun r_3 u_3 H locs w_3 h_3 => ?_)
  clear h_2
  obtain ⟨wr_3, _⟩ := w_3
  replace h_3 : qW D _ _ [(h3, .inr (6, [.ref h4, .ref h2])), (h0, .inr (4, [.ref h1])), (h1, .inl (cy 1, 300, .inl f0)), (h2, .inl (cy 1, 64, .inl (u_3.2.1 0))), (h4, .inl (cy 1, 11, .inl F_1))] _ _ := h_3
  exact q_iret X hr hlk hK h_3 rfl (fun _ => 0, fun k => List.getD [(u_3.2.1 0), F_1] k (fun _ => 0), fun _ _ => 0) ⟨⟨by omega, by omega⟩, trivial⟩ [1, 2, 3, 0, 4] rfl rfl dX6_swayOf_42 (Nat.le_of_ble_eq_true rfl) (Nat.le_of_ble_eq_true rfl)
set_option maxHeartbeats 4000000 in
set_option maxRecDepth 100000 in
theorem gX6_swayOf_114 (l : Launch) (D : va_G) (cy : Nat → ClassId) (h0 : Nat) (h1 : Nat) (h2 : Nat) (h3 : Nat) (h4 : Nat) (p0 : Int32) (f0 : Nat → Int32) (f1 : Nat → Int32) (f2 : Nat → Int32) (hp0 : 0 ≤ (p0).toInt ∧ (p0).toInt ≤ 1) (rf0 : RG f0 300 0 2062) (sz : Nat) : MI l yX6_swayOf cX6_swayOf 3 .int { frames := 3, cells := 0, slots := 0, locals := 67 } [.ref h3, .ref h0, .int p0] D cy [(h0, .inr (4, [.ref h1])), (h1, .inl (cy 1, 300, .inl f0)), (h2, .inl (cy 1, 64, .inl f1)), (h3, .inr (6, [.ref h4, .ref h2])), (h4, .inl (cy 1, 11, .inl f2))] sz (fun r u => ((-2147483648) ≤ r.toInt ∧ r.toInt ≤ 2147483647) ∧ True) (fun u => [(h0, .inr (4, [.ref h1])), (h1, .inl (cy 1, 300, .inl f0)), (h2, .inl (cy 1, 64, .inl (u.2.1 0))), (h3, .inr (6, [.ref h4, .ref h2])), (h4, .inl (cy 1, 11, .inl (u.2.1 1)))]) 0 0 := by
  refine q_ent (own := RX6) (by decide) rfl (Nat.le_of_ble_eq_true rfl) (fun p e s m below meth c ls X hr hlk hnm hK h hA hl => ?_)
  obtain ⟨hx, hb, hml, hown, ht⟩ := id X
  replace hl : lv_has ls 3 [(0, .ref h3), (1, .ref h0), (2, .int p0)] := hl
  refine lv_aload_n hx hb dX6_swayOf_0 rfl (lv_at hl 1 rfl) ?_
  refine lv_ifnonnull (tgt := 22) hx hb dX6_swayOf_1 (by decide) ?_
  refine lv_aload_n hx hb dX6_swayOf_22 rfl (lv_at hl 0 rfl) ?_
  refine q_get X hK h 3 rfl rfl wf_6 0 (by decide) rfl wm_1_184 dX6_swayOf_23 ?_
  refine lv_bipush (v := 10) hx hb dX6_swayOf_26 (by decide) ?_
  refine lv_iload_n hx hb dX6_swayOf_28 rfl (lv_at hl 2 rfl) ?_
  refine q_iast X hK h 4 rfl (q_in (by decide +kernel)) dX6_swayOf_29 (fun H locs h_2 => ?_)
  clear h
  replace h_2 : qW D _ _ [(h0, .inr (4, [.ref h1])), (h1, .inl (cy 1, 300, .inl f0)), (h2, .inl (cy 1, 64, .inl f1)), (h3, .inr (6, [.ref h4, .ref h2])), (h4, .inl (cy 1, 11, .inl (upd f2 (Int32.toNatClampNeg 10) p0)))] _ _ := h_2
  obtain ⟨F_1, eF_1⟩ : ∃ z, (upd f2 (Int32.toNatClampNeg 10) p0) = z := ⟨_, rfl⟩
  rw [eF_1] at h_2
  clear eF_1
  refine lv_aload_n hx hb dX6_swayOf_30 rfl (lv_at hl 1 rfl) ?_
  refine lv_aload_n hx hb dX6_swayOf_31 rfl (lv_at hl 0 rfl) ?_
  refine q_get X hK h_2 3 rfl rfl wf_6 0 (by decide) rfl wm_1_184 dX6_swayOf_32 ?_
  refine lv_aload_n hx hb dX6_swayOf_35 rfl (lv_at hl 0 rfl) ?_
  refine q_get X hK h_2 3 rfl rfl wf_6 1 (by decide) rfl wm_1_185 dX6_swayOf_36 ?_
  refine q_callVi (rest := []) (wr := [(h3, .inr (6, [.ref h4, .ref h2]))]) X hK hA h_2 (fun sz => gX4_valueFor_108 l D cy h0 h1 h2 h4 f0 f1 F_1 (rg_wide rf0 (by decide) (by decide)) sz) wm_3_208 wm_3_211 wm_1_19 hd_X4_valueFor wm_3_209 wm_3_210 (ci := 4) (q0 := 0) rfl rfl ⟨Nat.le_of_ble_eq_true rfl, Nat.le_of_ble_eq_true rfl⟩ hl.1 rfl (Nat.le_of_ble_eq_true rfl) dX6_swayOf_39 ⟨Nat.le_of_ble_eq_true rfl, Nat.le_of_ble_eq_true rfl⟩ [0, 1, 2, 4] [3] rfl rfl (by decide) rfl rfl (fun r_3 u_3 H locs w_3 h_3 => ?_)
  clear h_2
  obtain ⟨wr_3, _⟩ := w_3
  replace h_3 : qW D _ _ [(h3, .inr (6, [.ref h4, .ref h2])), (h0, .inr (4, [.ref h1])), (h1, .inl (cy 1, 300, .inl f0)), (h2, .inl (cy 1, 64, .inl (u_3.2.1 0))), (h4, .inl (cy 1, 11, .inl F_1))] _ _ := h_3
  exact q_iret X hr hlk hK h_3 rfl (fun _ => 0, fun k => List.getD [(u_3.2.1 0), F_1] k (fun _ => 0), fun _ _ => 0) ⟨⟨by omega, by omega⟩, trivial⟩ [1, 2, 3, 0, 4] rfl rfl dX6_swayOf_42 (Nat.le_of_ble_eq_true rfl) (Nat.le_of_ble_eq_true rfl)
set_option maxHeartbeats 4000000 in
set_option maxRecDepth 100000 in
theorem gX6_swayOf_115 (l : Launch) (D : va_G) (cy : Nat → ClassId) (h0 : Nat) (h1 : Nat) (h2 : Nat) (h3 : Nat) (h4 : Nat) (p0 : Int32) (f0 : Nat → Int32) (f1 : Nat → Int32) (f2 : Nat → Int32) (hp0 : 0 ≤ (p0).toInt ∧ (p0).toInt ≤ 2) (rf0 : RG f0 300 0 2062) (sz : Nat) : MI l yX6_swayOf cX6_swayOf 3 .int { frames := 3, cells := 0, slots := 0, locals := 67 } [.ref h3, .ref h0, .int p0] D cy [(h0, .inr (4, [.ref h1])), (h1, .inl (cy 1, 300, .inl f0)), (h2, .inl (cy 1, 64, .inl f1)), (h3, .inr (6, [.ref h4, .ref h2])), (h4, .inl (cy 1, 11, .inl f2))] sz (fun r u => ((-2147483648) ≤ r.toInt ∧ r.toInt ≤ 2147483647) ∧ True) (fun u => [(h0, .inr (4, [.ref h1])), (h1, .inl (cy 1, 300, .inl f0)), (h2, .inl (cy 1, 64, .inl (u.2.1 0))), (h3, .inr (6, [.ref h4, .ref h2])), (h4, .inl (cy 1, 11, .inl (u.2.1 1)))]) 0 0 := by
  refine q_ent (own := RX6) (by decide) rfl (Nat.le_of_ble_eq_true rfl) (fun p e s m below meth c ls X hr hlk hnm hK h hA hl => ?_)
  obtain ⟨hx, hb, hml, hown, ht⟩ := id X
  replace hl : lv_has ls 3 [(0, .ref h3), (1, .ref h0), (2, .int p0)] := hl
  refine lv_aload_n hx hb dX6_swayOf_0 rfl (lv_at hl 1 rfl) ?_
  refine lv_ifnonnull (tgt := 22) hx hb dX6_swayOf_1 (by decide) ?_
  refine lv_aload_n hx hb dX6_swayOf_22 rfl (lv_at hl 0 rfl) ?_
  refine q_get X hK h 3 rfl rfl wf_6 0 (by decide) rfl wm_1_184 dX6_swayOf_23 ?_
  refine lv_bipush (v := 10) hx hb dX6_swayOf_26 (by decide) ?_
  refine lv_iload_n hx hb dX6_swayOf_28 rfl (lv_at hl 2 rfl) ?_
  refine q_iast X hK h 4 rfl (q_in (by decide +kernel)) dX6_swayOf_29 (fun H locs h_2 => ?_)
  clear h
  replace h_2 : qW D _ _ [(h0, .inr (4, [.ref h1])), (h1, .inl (cy 1, 300, .inl f0)), (h2, .inl (cy 1, 64, .inl f1)), (h3, .inr (6, [.ref h4, .ref h2])), (h4, .inl (cy 1, 11, .inl (upd f2 (Int32.toNatClampNeg 10) p0)))] _ _ := h_2
  obtain ⟨F_1, eF_1⟩ : ∃ z, (upd f2 (Int32.toNatClampNeg 10) p0) = z := ⟨_, rfl⟩
  rw [eF_1] at h_2
  clear eF_1
  refine lv_aload_n hx hb dX6_swayOf_30 rfl (lv_at hl 1 rfl) ?_
  refine lv_aload_n hx hb dX6_swayOf_31 rfl (lv_at hl 0 rfl) ?_
  refine q_get X hK h_2 3 rfl rfl wf_6 0 (by decide) rfl wm_1_184 dX6_swayOf_32 ?_
  refine lv_aload_n hx hb dX6_swayOf_35 rfl (lv_at hl 0 rfl) ?_
  refine q_get X hK h_2 3 rfl rfl wf_6 1 (by decide) rfl wm_1_185 dX6_swayOf_36 ?_
  refine q_callVi (rest := []) (wr := [(h3, .inr (6, [.ref h4, .ref h2]))]) X hK hA h_2 (fun sz => gX4_valueFor_108 l D cy h0 h1 h2 h4 f0 f1 F_1 (rg_wide rf0 (by decide) (by decide)) sz) wm_3_208 wm_3_211 wm_1_19 hd_X4_valueFor wm_3_209 wm_3_210 (ci := 4) (q0 := 0) rfl rfl ⟨Nat.le_of_ble_eq_true rfl, Nat.le_of_ble_eq_true rfl⟩ hl.1 rfl (Nat.le_of_ble_eq_true rfl) dX6_swayOf_39 ⟨Nat.le_of_ble_eq_true rfl, Nat.le_of_ble_eq_true rfl⟩ [0, 1, 2, 4] [3] rfl rfl (by decide) rfl rfl (fun r_3 u_3 H locs w_3 h_3 => ?_)
  clear h_2
  obtain ⟨wr_3, _⟩ := w_3
  replace h_3 : qW D _ _ [(h3, .inr (6, [.ref h4, .ref h2])), (h0, .inr (4, [.ref h1])), (h1, .inl (cy 1, 300, .inl f0)), (h2, .inl (cy 1, 64, .inl (u_3.2.1 0))), (h4, .inl (cy 1, 11, .inl F_1))] _ _ := h_3
  exact q_iret X hr hlk hK h_3 rfl (fun _ => 0, fun k => List.getD [(u_3.2.1 0), F_1] k (fun _ => 0), fun _ _ => 0) ⟨⟨by omega, by omega⟩, trivial⟩ [1, 2, 3, 0, 4] rfl rfl dX6_swayOf_42 (Nat.le_of_ble_eq_true rfl) (Nat.le_of_ble_eq_true rfl)
set_option maxHeartbeats 4000000 in
set_option maxRecDepth 100000 in
theorem gX6_swayed_116 (l : Launch) (D : va_G) (cy : Nat → ClassId) (h0 : Nat) (h1 : Nat) (h2 : Nat) (h3 : Nat) (h4 : Nat) (h5 : Nat) (h6 : Nat) (h7 : Nat) (p0 : Int32) (p1 : Int32) (p2 : Int32) (p3 : Int32) (p4 : Int32) (p5 : Int32) (p6 : Int32) (w0 : Value) (w1 : Value) (w2 : Value) (w3 : Value) (w4 : Value) (w5 : Value) (w6 : Value) (f0 : Nat → Int32) (p7 : Int32) (p8 : Int32) (f1 : Nat → Int32) (f2 : Nat → Int32) (f3 : Nat → Int32) (hp0 : 0 ≤ (p0).toInt ∧ (p0).toInt ≤ 9) (hp1 : 0 ≤ (p1).toInt ∧ (p1).toInt ≤ 999) (hp2 : 0 ≤ (p2).toInt ∧ (p2).toInt ≤ 9) (hp3 : 1 ≤ (p3).toInt ∧ (p3).toInt ≤ 3) (hp4 : 0 ≤ (p4).toInt ∧ (p4).toInt ≤ 10) (hp5 : 0 ≤ (p5).toInt ∧ (p5).toInt ≤ 920) (hp6 : 0 ≤ (p6).toInt ∧ (p6).toInt ≤ 999) (hp7 : 0 ≤ (p7).toInt ∧ (p7).toInt ≤ 60000) (hp8 : 0 ≤ (p8).toInt ∧ (p8).toInt ≤ 1023) (rf0 : RG f0 300 0 2062) (rf1 : RG f1 10 0 999) (sz : Nat) : MI l yX6_swayed cX6_swayed 9 .int { frames := 4, cells := 0, slots := 0, locals := 89 } [.ref h5, .ref h3, .int p0, .int p1, .int p2] D cy [(h0, .inr (3, [.int p3, .int p4, .int p5, .int p6, w0, w1, .ref h1, w2, w3, w4, w5, w6])), (h1, .inr (4, [.ref h2])), (h2, .inl (cy 1, 300, .inl f0)), (h3, .inr (7, [.ref h0, .int p7, .int p8, .ref h4])), (h4, .inl (cy 1, 10, .inl f1)), (h5, .inr (6, [.ref h6, .ref h7])), (h6, .inl (cy 1, 11, .inl f2)), (h7, .inl (cy 1, 64, .inl f3))] sz (fun r u => (0 ≤ r.toInt ∧ r.toInt ≤ 999) ∧ True) (fun u => [(h0, .inr (3, [.int p3, .int p4, .int p5, .int p6, w0, w1, .ref h1, w2, w3, w4, w5, w6])), (h1, .inr (4, [.ref h2])), (h2, .inl (cy 1, 300, .inl f0)), (h3, .inr (7, [.ref h0, .int p7, .int p8, .ref h4])), (h4, .inl (cy 1, 10, .inl f1)), (h5, .inr (6, [.ref h6, .ref h7])), (h6, .inl (cy 1, 11, .inl (u.2.1 1))), (h7, .inl (cy 1, 64, .inl (u.2.1 0)))]) 0 0 := by
  refine q_ent (own := RX6) (by decide) rfl (Nat.le_of_ble_eq_true rfl) (fun p e s m below meth c ls X hr hlk hnm hK h hA hl => ?_)
  obtain ⟨hx, hb, hml, hown, ht⟩ := id X
  replace hl : lv_has ls 9 [(0, .ref h5), (1, .ref h3), (2, .int p0), (3, .int p1), (4, .int p2)] := hl
  refine lv_aload_n hx hb dX6_swayed_0 rfl (lv_at hl 0 rfl) ?_
  refine lv_iconst (v := 0) hx hb dX6_swayed_1 (by decide) ?_
  refine lv_iload_n hx hb dX6_swayed_2 rfl (lv_at hl 3 rfl) ?_
  refine lv_iload_n hx hb dX6_swayed_3 rfl (lv_at hl 2 rfl) ?_
  refine q_callVv (rest := []) (wr := [(h0, .inr (3, [.int p3, .int p4, .int p5, .int p6, w0, w1, .ref h1, w2, w3, w4, w5, w6])), (h1, .inr (4, [.ref h2])), (h2, .inl (cy 1, 300, .inl f0)), (h3, .inr (7, [.ref h0, .int p7, .int p8, .ref h4])), (h4, .inl (cy 1, 10, .inl f1)), (h7, .inl (cy 1, 64, .inl f3))]) X hK hA h (fun sz => gX6_put_9 l D cy h5 h6 (0 : Int32) p1 p0 (.ref h7) f2 ⟨by decide +kernel, by decide +kernel⟩ ⟨by omega, by omega⟩ ⟨by omega, by omega⟩ sz) wm_3_204 wm_3_207 wm_1_5 hd_X6_put wm_3_206 wp_2_10 (ci := 6) (q0 := 0) rfl rfl ⟨Nat.le_of_ble_eq_true rfl, Nat.le_of_ble_eq_true rfl⟩ hl.1 rfl (Nat.le_of_ble_eq_true rfl) dX6_swayed_4 ⟨Nat.le_of_ble_eq_true rfl, Nat.le_of_ble_eq_true rfl⟩ [5, 6] [0, 1, 2, 3, 4, 7] rfl rfl (by decide) rfl rfl (fun u_1 H locs w_1 h_1 => ?_)
  clear h
  clear w_1
  replace h_1 : qW D _ _ [(h0, .inr (3, [.int p3, .int p4, .int p5, .int p6, w0, w1, .ref h1, w2, w3, w4, w5, w6])), (h1, .inr (4, [.ref h2])), (h2, .inl (cy 1, 300, .inl f0)), (h3, .inr (7, [.ref h0, .int p7, .int p8, .ref h4])), (h4, .inl (cy 1, 10, .inl f1)), (h7, .inl (cy 1, 64, .inl f3)), (h5, .inr (6, [.ref h6, .ref h7])), (h6, .inl (cy 1, 11, .inl (u_1.2.1 0)))] _ _ := h_1
  refine lv_aload_n hx hb dX6_swayed_7 rfl (lv_at hl 0 rfl) ?_
  refine lv_iconst (v := 4) hx hb dX6_swayed_8 (by decide) ?_
  refine lv_aload_n hx hb dX6_swayed_9 rfl (lv_at hl 1 rfl) ?_
  refine q_get X hK h_1 3 rfl rfl wf_7 3 (by decide) rfl wm_2_53 dX6_swayed_10 ?_
  refine lv_iload hx hb dX6_swayed_13 (lv_at hl 4 rfl) ?_
  refine q_iald X hK h_1 4 rfl (i_in rfl (by omega) (by omega)) dX6_swayed_15 ?_
  obtain ⟨z_2, ez_2, hz_2⟩ := rg_get rf1 (x := p2) rfl (by omega) (by omega)
  refine q_c z_2 ez_2 ?_
  clear ez_2
  refine lv_iload hx hb dX6_swayed_16 (lv_at hl 4 rfl) ?_
  refine q_callVv (rest := []) (wr := [(h0, .inr (3, [.int p3, .int p4, .int p5, .int p6, w0, w1, .ref h1, w2, w3, w4, w5, w6])), (h1, .inr (4, [.ref h2])), (h2, .inl (cy 1, 300, .inl f0)), (h3, .inr (7, [.ref h0, .int p7, .int p8, .ref h4])), (h4, .inl (cy 1, 10, .inl f1)), (h7, .inl (cy 1, 64, .inl f3))]) X hK hA h_1 (fun sz => gX6_put_10 l D cy h5 h6 (4 : Int32) z_2 p2 (.ref h7) (u_1.2.1 0) ⟨by decide +kernel, by decide +kernel⟩ ⟨by omega, by omega⟩ ⟨by omega, by omega⟩ sz) wm_3_204 wm_3_207 wm_1_5 hd_X6_put wm_3_206 wp_2_10 (ci := 6) (q0 := 0) rfl rfl ⟨Nat.le_of_ble_eq_true rfl, Nat.le_of_ble_eq_true rfl⟩ hl.1 rfl (Nat.le_of_ble_eq_true rfl) dX6_swayed_18 ⟨Nat.le_of_ble_eq_true rfl, Nat.le_of_ble_eq_true rfl⟩ [6, 7] [0, 1, 2, 3, 4, 5] rfl rfl (by decide) rfl rfl (fun u_3 H locs w_3 h_3 => ?_)
  clear h_1
  clear w_3
  replace h_3 : qW D _ _ [(h0, .inr (3, [.int p3, .int p4, .int p5, .int p6, w0, w1, .ref h1, w2, w3, w4, w5, w6])), (h1, .inr (4, [.ref h2])), (h2, .inl (cy 1, 300, .inl f0)), (h3, .inr (7, [.ref h0, .int p7, .int p8, .ref h4])), (h4, .inl (cy 1, 10, .inl f1)), (h7, .inl (cy 1, 64, .inl f3)), (h5, .inr (6, [.ref h6, .ref h7])), (h6, .inl (cy 1, 11, .inl (u_3.2.1 0)))] _ _ := h_3
  refine lv_aload_n hx hb dX6_swayed_21 rfl (lv_at hl 0 rfl) ?_
  refine q_get X hK h_3 6 rfl rfl wf_6 0 (by decide) rfl wm_1_184 dX6_swayed_22 ?_
  refine lv_bipush (v := 8) hx hb dX6_swayed_25 (by decide) ?_
  refine lv_aload_n hx hb dX6_swayed_27 rfl (lv_at hl 1 rfl) ?_
  refine q_get X hK h_3 3 rfl rfl wf_7 1 (by decide) rfl wm_2_46 dX6_swayed_28 ?_
  refine lv_bipush (v := 7) hx hb dX6_swayed_31 (by decide) ?_
  refine lv_irem hx hb dX6_swayed_33 (by decide) ?_
  obtain ⟨z_4, ez_4, hz_4⟩ := e_rem (x := p7) (y := 7) rfl (show (7 : Int32).toInt = 7 by decide) (by omega) (by omega)
  refine q_c z_4 ez_4 ?_
  clear ez_4
  refine q_iast X hK h_3 7 rfl (q_in (by decide +kernel)) dX6_swayed_34 (fun H locs h_6 => ?_)
  clear h_3
  replace h_6 : qW D _ _ [(h0, .inr (3, [.int p3, .int p4, .int p5, .int p6, w0, w1, .ref h1, w2, w3, w4, w5, w6])), (h1, .inr (4, [.ref h2])), (h2, .inl (cy 1, 300, .inl f0)), (h3, .inr (7, [.ref h0, .int p7, .int p8, .ref h4])), (h4, .inl (cy 1, 10, .inl f1)), (h7, .inl (cy 1, 64, .inl f3)), (h5, .inr (6, [.ref h6, .ref h7])), (h6, .inl (cy 1, 11, .inl (upd (u_3.2.1 0) (Int32.toNatClampNeg 8) z_4)))] _ _ := h_6
  obtain ⟨F_5, eF_5⟩ : ∃ z, (upd (u_3.2.1 0) (Int32.toNatClampNeg 8) z_4) = z := ⟨_, rfl⟩
  rw [eF_5] at h_6
  clear eF_5
  refine lv_iconst (v := 0) hx hb dX6_swayed_35 (by decide) ?_
  refine lv_istore (lv' := [(5, .int 0), (0, .ref h5), (1, .ref h3), (2, .int p0), (3, .int p1), (4, .int p2)]) hx hb dX6_swayed_36 hl (by decide) rfl (fun ls_7 hl_7 => ?_)
  clear hl
  refine lv_iconst (v := 0) hx hb dX6_swayed_38 (by decide) ?_
  refine lv_istore (lv' := [(6, .int 0), (5, .int 0), (0, .ref h5), (1, .ref h3), (2, .int p0), (3, .int p1), (4, .int p2)]) hx hb dX6_swayed_39 hl_7 (by decide) rfl (fun ls_8 hl_8 => ?_)
  clear hl_7
  refine lv_iload hx hb dX6_swayed_41 (lv_at hl_8 0 rfl) ?_
  refine lv_iconst (v := 3) hx hb dX6_swayed_43 (by decide) ?_
  refine lv_icmp_ge (tgt := 121) hx hb dX6_swayed_44 (by decide) (fun c => absurd c (by decide +kernel)) (fun _ => ?_)
  refine lv_iload hx hb dX6_swayed_47 (lv_at hl_8 0 rfl) ?_
  refine lv_aload_n hx hb dX6_swayed_49 rfl (lv_at hl_8 3 rfl) ?_
  refine q_get X hK h_6 3 rfl rfl wf_7 0 (by decide) rfl wm_2_41 dX6_swayed_50 ?_
  refine q_get X hK h_6 0 rfl rfl wf_3 0 (by decide) rfl wm_1_77 dX6_swayed_53 ?_
  refine q_jn (pc2 := 76) (fun H locs ls st => ∃ v76_9_2 : Int32, ∃ v76_9_0 : Nat → Int32, ∃ v76_9_1 : Nat → Int32, ((-2147483648) ≤ (v76_9_2).toInt ∧ (v76_9_2).toInt ≤ 2147483647) ∧ st = [.int v76_9_2] ∧ qW D (va_A [(h0, .inr (3, [.int p3, .int p4, .int p5, .int p6, w0, w1, .ref h1, w2, w3, w4, w5, w6])), (h1, .inr (4, [.ref h2])), (h2, .inl (cy 1, 300, .inl f0)), (h3, .inr (7, [.ref h0, .int p7, .int p8, .ref h4])), (h4, .inl (cy 1, 10, .inl f1)), (h5, .inr (6, [.ref h6, .ref h7])), (h6, .inl (cy 1, 11, .inl f2)), (h7, .inl (cy 1, 64, .inl f3))] sz) s.heap [(h0, .inr (3, [.int p3, .int p4, .int p5, .int p6, w0, w1, .ref h1, w2, w3, w4, w5, w6])), (h1, .inr (4, [.ref h2])), (h2, .inl (cy 1, 300, .inl f0)), (h3, .inr (7, [.ref h0, .int p7, .int p8, .ref h4])), (h4, .inl (cy 1, 10, .inl f1)), (h7, .inl (cy 1, 64, .inl v76_9_0)), (h5, .inr (6, [.ref h6, .ref h7])), (h6, .inl (cy 1, 11, .inl v76_9_1))] H locs ∧ lv_has ls 9 [(0, .ref h5), (1, .ref h3), (2, .int p0), (3, .int p1), (4, .int p2), (5, .int 0), (6, .int 0)]) (fun H locs ls st hP => ?_) (fun J_76 => ?_)
  · obtain ⟨v76_9_2, v76_9_0, v76_9_1, hv76_9_2, rfl, h, hl⟩ := hP
    refine lv_istore (lv' := [(7, .int v76_9_2), (0, .ref h5), (1, .ref h3), (2, .int p0), (3, .int p1), (4, .int p2), (5, .int 0), (6, .int 0)]) hx hb dX6_swayed_76 hl (by decide) rfl (fun ls_10 hl_10 => ?_)
    clear hl
    refine lv_aload_n hx hb dX6_swayed_78 rfl (lv_at hl_10 1 rfl) ?_
    refine q_get X hK h 6 rfl rfl wf_6 0 (by decide) rfl wm_1_184 dX6_swayed_79 ?_
    refine lv_iconst (v := 0) hx hb dX6_swayed_82 (by decide) ?_
    refine lv_iload hx hb dX6_swayed_83 (lv_at hl_10 7 rfl) ?_
    refine lv_iadd hx hb dX6_swayed_85 ?_
    refine q_c 0 (by decide +kernel) ?_
    refine q_iald X hK h 7 rfl (q_in (by decide +kernel)) dX6_swayed_86 ?_
    refine q_any (fun z_11 hz_11 => ?_)
    refine lv_iload hx hb dX6_swayed_87 (lv_at hl_10 0 rfl) ?_
    refine lv_iconst (v := 0) hx hb dX6_swayed_89 (by decide) ?_
    refine q_callSi (rest := [.int z_11]) (wr := [(h0, .inr (3, [.int p3, .int p4, .int p5, .int p6, w0, w1, .ref h1, w2, w3, w4, w5, w6])), (h1, .inr (4, [.ref h2])), (h2, .inl (cy 1, 300, .inl f0)), (h3, .inr (7, [.ref h0, .int p7, .int p8, .ref h4])), (h4, .inl (cy 1, 10, .inl f1)), (h7, .inl (cy 1, 64, .inl v76_9_0)), (h5, .inr (6, [.ref h6, .ref h7])), (h6, .inl (cy 1, 11, .inl v76_9_1))]) X hK hA h (fun sz => gJ6_compare_7cf53_12 l D cy v76_9_2 (0 : Int32) (i_rng _) ⟨by decide +kernel, by decide +kernel⟩ sz) wm_4_34 wm_4_36 wm_1_22 hd_J6_compare_7cf53 wm_4_35 ⟨Nat.le_of_ble_eq_true rfl, Nat.le_of_ble_eq_true rfl⟩ hl_10.1 rfl (Nat.le_of_ble_eq_true rfl) dX6_swayed_90 ⟨Nat.le_of_ble_eq_true rfl, Nat.le_of_ble_eq_true rfl⟩ [] [0, 1, 2, 3, 4, 5, 6, 7] rfl rfl (by decide) rfl rfl (fun r_12 u_12 H locs w_12 h_12 => ?_)
    clear h
    obtain ⟨wr_12, _⟩ := w_12
    replace h_12 : qW D _ _ [(h0, .inr (3, [.int p3, .int p4, .int p5, .int p6, w0, w1, .ref h1, w2, w3, w4, w5, w6])), (h1, .inr (4, [.ref h2])), (h2, .inl (cy 1, 300, .inl f0)), (h3, .inr (7, [.ref h0, .int p7, .int p8, .ref h4])), (h4, .inl (cy 1, 10, .inl f1)), (h7, .inl (cy 1, 64, .inl v76_9_0)), (h5, .inr (6, [.ref h6, .ref h7])), (h6, .inl (cy 1, 11, .inl v76_9_1))] _ _ := h_12
    refine lv_iadd hx hb dX6_swayed_93 ?_
    refine q_any (fun z_13 hz_13 => ?_)
    refine lv_istore (lv' := [(8, .int z_13), (7, .int v76_9_2), (0, .ref h5), (1, .ref h3), (2, .int p0), (3, .int p1), (4, .int p2), (5, .int 0), (6, .int 0)]) hx hb dX6_swayed_94 hl_10 (by decide) rfl (fun ls_14 hl_14 => ?_)
    clear hl_10
    refine lv_bipush (v := 10) hx hb dX6_swayed_96 (by decide) ?_
    refine lv_iload hx hb dX6_swayed_98 (lv_at hl_14 7 rfl) ?_
    refine lv_imul hx hb dX6_swayed_100 ?_
    refine q_c 0 (by decide +kernel) ?_
    refine lv_iconst (v := 0) hx hb dX6_swayed_101 (by decide) ?_
    refine lv_bipush (v := 9) hx hb dX6_swayed_102 (by decide) ?_
    refine lv_iload hx hb dX6_swayed_104 (lv_at hl_14 0 rfl) ?_
    refine va_mmin hx hb (hml.trans hl_14.1.symm) hown (ht _ wm_4_37) (ht _ wm_2_171) (ht _ wm_1_13) (ht _ wm_2_172) (Nat.le_of_ble_eq_true rfl) (Nat.le_of_ble_eq_true rfl) (Nat.le_of_ble_eq_true rfl) (Nat.le_of_ble_eq_true rfl) dX6_swayed_106 ?_
    obtain ⟨z_15, ez_15, hz_15⟩ := e_min (x := 9) (y := z_13) (show (9 : Int32).toInt = 9 by decide) rfl
    refine q_c z_15 ez_15 ?_
    clear ez_15
    refine va_mmax hx hb (hml.trans hl_14.1.symm) hown (ht _ wm_4_38) (ht _ wm_3_23) (ht _ wm_1_13) (ht _ wm_3_24) (Nat.le_of_ble_eq_true rfl) (Nat.le_of_ble_eq_true rfl) (Nat.le_of_ble_eq_true rfl) (Nat.le_of_ble_eq_true rfl) dX6_swayed_109 ?_
    obtain ⟨z_16, ez_16, hz_16⟩ := e_max (x := 0) (y := z_15) (show (0 : Int32).toInt = 0 by decide) rfl
    refine q_c z_16 ez_16 ?_
    clear ez_16
    refine lv_iadd hx hb dX6_swayed_112 ?_
    obtain ⟨z_17, ez_17, hz_17⟩ := e_add (x := 0) (y := z_16) (show (0 : Int32).toInt = 0 by decide) rfl (by omega) (by omega)
    refine q_c z_17 ez_17 ?_
    clear ez_17
    refine lv_istore (lv' := [(5, .int z_17), (8, .int z_13), (7, .int v76_9_2), (0, .ref h5), (1, .ref h3), (2, .int p0), (3, .int p1), (4, .int p2), (6, .int 0)]) hx hb dX6_swayed_113 hl_14 (by decide) rfl (fun ls_18 hl_18 => ?_)
    clear hl_14
    refine lv_iinc (v := 1) (lv' := [(6, .int 1), (5, .int z_17), (8, .int z_13), (7, .int v76_9_2), (0, .ref h5), (1, .ref h3), (2, .int p0), (3, .int p1), (4, .int p2)]) hx hb dX6_swayed_115 hl_18 (k := 8) rfl (by decide +kernel) (by decide) rfl (fun ls_19 hl_19 => ?_)
    clear hl_18
    refine lv_goto (tgt := 41) hx hb dX6_swayed_118 (by decide) ?_
    refine lv_iload hx hb dX6_swayed_41 (lv_at hl_19 0 rfl) ?_
    refine lv_iconst (v := 3) hx hb dX6_swayed_43 (by decide) ?_
    refine lv_icmp_ge (tgt := 121) hx hb dX6_swayed_44 (by decide) (fun c => absurd c (by decide +kernel)) (fun _ => ?_)
    refine lv_iload hx hb dX6_swayed_47 (lv_at hl_19 0 rfl) ?_
    refine lv_aload_n hx hb dX6_swayed_49 rfl (lv_at hl_19 5 rfl) ?_
    refine q_get X hK h_12 3 rfl rfl wf_7 0 (by decide) rfl wm_2_41 dX6_swayed_50 ?_
    refine q_get X hK h_12 0 rfl rfl wf_3 0 (by decide) rfl wm_1_77 dX6_swayed_53 ?_
    refine q_jn (pc2 := 76) (fun H locs ls st => ∃ v76_20_2 : Int32, ∃ v76_20_0 : Nat → Int32, ∃ v76_20_1 : Nat → Int32, ((-2147483648) ≤ (v76_20_2).toInt ∧ (v76_20_2).toInt ≤ 2147483647) ∧ st = [.int v76_20_2] ∧ qW D (va_A [(h0, .inr (3, [.int p3, .int p4, .int p5, .int p6, w0, w1, .ref h1, w2, w3, w4, w5, w6])), (h1, .inr (4, [.ref h2])), (h2, .inl (cy 1, 300, .inl f0)), (h3, .inr (7, [.ref h0, .int p7, .int p8, .ref h4])), (h4, .inl (cy 1, 10, .inl f1)), (h5, .inr (6, [.ref h6, .ref h7])), (h6, .inl (cy 1, 11, .inl f2)), (h7, .inl (cy 1, 64, .inl f3))] sz) s.heap [(h0, .inr (3, [.int p3, .int p4, .int p5, .int p6, w0, w1, .ref h1, w2, w3, w4, w5, w6])), (h1, .inr (4, [.ref h2])), (h2, .inl (cy 1, 300, .inl f0)), (h3, .inr (7, [.ref h0, .int p7, .int p8, .ref h4])), (h4, .inl (cy 1, 10, .inl f1)), (h7, .inl (cy 1, 64, .inl v76_20_0)), (h5, .inr (6, [.ref h6, .ref h7])), (h6, .inl (cy 1, 11, .inl v76_20_1))] H locs ∧ lv_has ls 9 [(0, .ref h5), (1, .ref h3), (2, .int p0), (3, .int p1), (4, .int p2), (5, .int z_17), (6, .int 1), (7, .int v76_9_2), (8, .int z_13)]) (fun H locs ls st hP => ?_) (fun J_76 => ?_)
    · obtain ⟨v76_20_2, v76_20_0, v76_20_1, hv76_20_2, rfl, h, hl⟩ := hP
      refine lv_istore (lv' := [(7, .int v76_20_2), (0, .ref h5), (1, .ref h3), (2, .int p0), (3, .int p1), (4, .int p2), (5, .int z_17), (6, .int 1), (8, .int z_13)]) hx hb dX6_swayed_76 hl (by decide) rfl (fun ls_21 hl_21 => ?_)
      clear hl
      refine lv_aload_n hx hb dX6_swayed_78 rfl (lv_at hl_21 1 rfl) ?_
      refine q_get X hK h 6 rfl rfl wf_6 0 (by decide) rfl wm_1_184 dX6_swayed_79 ?_
      refine lv_iconst (v := 0) hx hb dX6_swayed_82 (by decide) ?_
      refine lv_iload hx hb dX6_swayed_83 (lv_at hl_21 7 rfl) ?_
      refine lv_iadd hx hb dX6_swayed_85 ?_
      refine q_c 1 (by decide +kernel) ?_
      refine q_iald X hK h 7 rfl (q_in (by decide +kernel)) dX6_swayed_86 ?_
      refine q_any (fun z_22 hz_22 => ?_)
      refine lv_iload hx hb dX6_swayed_87 (lv_at hl_21 0 rfl) ?_
      refine lv_iconst (v := 0) hx hb dX6_swayed_89 (by decide) ?_
      refine q_callSi (rest := [.int z_22]) (wr := [(h0, .inr (3, [.int p3, .int p4, .int p5, .int p6, w0, w1, .ref h1, w2, w3, w4, w5, w6])), (h1, .inr (4, [.ref h2])), (h2, .inl (cy 1, 300, .inl f0)), (h3, .inr (7, [.ref h0, .int p7, .int p8, .ref h4])), (h4, .inl (cy 1, 10, .inl f1)), (h7, .inl (cy 1, 64, .inl v76_20_0)), (h5, .inr (6, [.ref h6, .ref h7])), (h6, .inl (cy 1, 11, .inl v76_20_1))]) X hK hA h (fun sz => gJ6_compare_7cf53_12 l D cy v76_20_2 (0 : Int32) (i_rng _) ⟨by decide +kernel, by decide +kernel⟩ sz) wm_4_34 wm_4_36 wm_1_22 hd_J6_compare_7cf53 wm_4_35 ⟨Nat.le_of_ble_eq_true rfl, Nat.le_of_ble_eq_true rfl⟩ hl_21.1 rfl (Nat.le_of_ble_eq_true rfl) dX6_swayed_90 ⟨Nat.le_of_ble_eq_true rfl, Nat.le_of_ble_eq_true rfl⟩ [] [0, 1, 2, 3, 4, 5, 6, 7] rfl rfl (by decide) rfl rfl (fun r_23 u_23 H locs w_23 h_23 => ?_)
      clear h
      obtain ⟨wr_23, _⟩ := w_23
      replace h_23 : qW D _ _ [(h0, .inr (3, [.int p3, .int p4, .int p5, .int p6, w0, w1, .ref h1, w2, w3, w4, w5, w6])), (h1, .inr (4, [.ref h2])), (h2, .inl (cy 1, 300, .inl f0)), (h3, .inr (7, [.ref h0, .int p7, .int p8, .ref h4])), (h4, .inl (cy 1, 10, .inl f1)), (h7, .inl (cy 1, 64, .inl v76_20_0)), (h5, .inr (6, [.ref h6, .ref h7])), (h6, .inl (cy 1, 11, .inl v76_20_1))] _ _ := h_23
      refine lv_iadd hx hb dX6_swayed_93 ?_
      refine q_any (fun z_24 hz_24 => ?_)
      refine lv_istore (lv' := [(8, .int z_24), (7, .int v76_20_2), (0, .ref h5), (1, .ref h3), (2, .int p0), (3, .int p1), (4, .int p2), (5, .int z_17), (6, .int 1)]) hx hb dX6_swayed_94 hl_21 (by decide) rfl (fun ls_25 hl_25 => ?_)
      clear hl_21
      refine lv_bipush (v := 10) hx hb dX6_swayed_96 (by decide) ?_
      refine lv_iload hx hb dX6_swayed_98 (lv_at hl_25 7 rfl) ?_
      refine lv_imul hx hb dX6_swayed_100 ?_
      obtain ⟨z_26, ez_26, hz_26⟩ := e_mul (x := 10) (y := z_17) (show (10 : Int32).toInt = 10 by decide) rfl (by omega) (by omega)
      refine q_c z_26 ez_26 ?_
      clear ez_26
      refine lv_iconst (v := 0) hx hb dX6_swayed_101 (by decide) ?_
      refine lv_bipush (v := 9) hx hb dX6_swayed_102 (by decide) ?_
      refine lv_iload hx hb dX6_swayed_104 (lv_at hl_25 0 rfl) ?_
      refine va_mmin hx hb (hml.trans hl_25.1.symm) hown (ht _ wm_4_37) (ht _ wm_2_171) (ht _ wm_1_13) (ht _ wm_2_172) (Nat.le_of_ble_eq_true rfl) (Nat.le_of_ble_eq_true rfl) (Nat.le_of_ble_eq_true rfl) (Nat.le_of_ble_eq_true rfl) dX6_swayed_106 ?_
      obtain ⟨z_27, ez_27, hz_27⟩ := e_min (x := 9) (y := z_24) (show (9 : Int32).toInt = 9 by decide) rfl
      refine q_c z_27 ez_27 ?_
      clear ez_27
      refine va_mmax hx hb (hml.trans hl_25.1.symm) hown (ht _ wm_4_38) (ht _ wm_3_23) (ht _ wm_1_13) (ht _ wm_3_24) (Nat.le_of_ble_eq_true rfl) (Nat.le_of_ble_eq_true rfl) (Nat.le_of_ble_eq_true rfl) (Nat.le_of_ble_eq_true rfl) dX6_swayed_109 ?_
      obtain ⟨z_28, ez_28, hz_28⟩ := e_max (x := 0) (y := z_27) (show (0 : Int32).toInt = 0 by decide) rfl
      refine q_c z_28 ez_28 ?_
      clear ez_28
      refine lv_iadd hx hb dX6_swayed_112 ?_
      obtain ⟨z_29, ez_29, hz_29⟩ := e_add (x := z_26) (y := z_28) rfl rfl (by omega) (by omega)
      refine q_c z_29 ez_29 ?_
      clear ez_29
      refine lv_istore (lv' := [(5, .int z_29), (8, .int z_24), (7, .int v76_20_2), (0, .ref h5), (1, .ref h3), (2, .int p0), (3, .int p1), (4, .int p2), (6, .int 1)]) hx hb dX6_swayed_113 hl_25 (by decide) rfl (fun ls_30 hl_30 => ?_)
      clear hl_25
      refine lv_iinc (v := 2) (lv' := [(6, .int 2), (5, .int z_29), (8, .int z_24), (7, .int v76_20_2), (0, .ref h5), (1, .ref h3), (2, .int p0), (3, .int p1), (4, .int p2)]) hx hb dX6_swayed_115 hl_30 (k := 8) rfl (by decide +kernel) (by decide) rfl (fun ls_31 hl_31 => ?_)
      clear hl_30
      refine lv_goto (tgt := 41) hx hb dX6_swayed_118 (by decide) ?_
      refine lv_iload hx hb dX6_swayed_41 (lv_at hl_31 0 rfl) ?_
      refine lv_iconst (v := 3) hx hb dX6_swayed_43 (by decide) ?_
      refine lv_icmp_ge (tgt := 121) hx hb dX6_swayed_44 (by decide) (fun c => absurd c (by decide +kernel)) (fun _ => ?_)
      refine lv_iload hx hb dX6_swayed_47 (lv_at hl_31 0 rfl) ?_
      refine lv_aload_n hx hb dX6_swayed_49 rfl (lv_at hl_31 5 rfl) ?_
      refine q_get X hK h_23 3 rfl rfl wf_7 0 (by decide) rfl wm_2_41 dX6_swayed_50 ?_
      refine q_get X hK h_23 0 rfl rfl wf_3 0 (by decide) rfl wm_1_77 dX6_swayed_53 ?_
      refine q_jn (pc2 := 76) (fun H locs ls st => ∃ v76_32_2 : Int32, ∃ v76_32_0 : Nat → Int32, ∃ v76_32_1 : Nat → Int32, ((-2147483648) ≤ (v76_32_2).toInt ∧ (v76_32_2).toInt ≤ 2147483647) ∧ st = [.int v76_32_2] ∧ qW D (va_A [(h0, .inr (3, [.int p3, .int p4, .int p5, .int p6, w0, w1, .ref h1, w2, w3, w4, w5, w6])), (h1, .inr (4, [.ref h2])), (h2, .inl (cy 1, 300, .inl f0)), (h3, .inr (7, [.ref h0, .int p7, .int p8, .ref h4])), (h4, .inl (cy 1, 10, .inl f1)), (h5, .inr (6, [.ref h6, .ref h7])), (h6, .inl (cy 1, 11, .inl f2)), (h7, .inl (cy 1, 64, .inl f3))] sz) s.heap [(h0, .inr (3, [.int p3, .int p4, .int p5, .int p6, w0, w1, .ref h1, w2, w3, w4, w5, w6])), (h1, .inr (4, [.ref h2])), (h2, .inl (cy 1, 300, .inl f0)), (h3, .inr (7, [.ref h0, .int p7, .int p8, .ref h4])), (h4, .inl (cy 1, 10, .inl f1)), (h7, .inl (cy 1, 64, .inl v76_32_0)), (h5, .inr (6, [.ref h6, .ref h7])), (h6, .inl (cy 1, 11, .inl v76_32_1))] H locs ∧ lv_has ls 9 [(0, .ref h5), (1, .ref h3), (2, .int p0), (3, .int p1), (4, .int p2), (5, .int z_29), (6, .int 2), (7, .int v76_20_2), (8, .int z_24)]) (fun H locs ls st hP => ?_) (fun J_76 => ?_)
      · obtain ⟨v76_32_2, v76_32_0, v76_32_1, hv76_32_2, rfl, h, hl⟩ := hP
        refine lv_istore (lv' := [(7, .int v76_32_2), (0, .ref h5), (1, .ref h3), (2, .int p0), (3, .int p1), (4, .int p2), (5, .int z_29), (6, .int 2), (8, .int z_24)]) hx hb dX6_swayed_76 hl (by decide) rfl (fun ls_33 hl_33 => ?_)
        clear hl
        refine lv_aload_n hx hb dX6_swayed_78 rfl (lv_at hl_33 1 rfl) ?_
        refine q_get X hK h 6 rfl rfl wf_6 0 (by decide) rfl wm_1_184 dX6_swayed_79 ?_
        refine lv_iconst (v := 0) hx hb dX6_swayed_82 (by decide) ?_
        refine lv_iload hx hb dX6_swayed_83 (lv_at hl_33 7 rfl) ?_
        refine lv_iadd hx hb dX6_swayed_85 ?_
        refine q_c 2 (by decide +kernel) ?_
        refine q_iald X hK h 7 rfl (q_in (by decide +kernel)) dX6_swayed_86 ?_
        refine q_any (fun z_34 hz_34 => ?_)
        refine lv_iload hx hb dX6_swayed_87 (lv_at hl_33 0 rfl) ?_
        refine lv_iconst (v := 0) hx hb dX6_swayed_89 (by decide) ?_
        refine q_callSi (rest := [.int z_34]) (wr := [(h0, .inr (3, [.int p3, .int p4, .int p5, .int p6, w0, w1, .ref h1, w2, w3, w4, w5, w6])), (h1, .inr (4, [.ref h2])), (h2, .inl (cy 1, 300, .inl f0)), (h3, .inr (7, [.ref h0, .int p7, .int p8, .ref h4])), (h4, .inl (cy 1, 10, .inl f1)), (h7, .inl (cy 1, 64, .inl v76_32_0)), (h5, .inr (6, [.ref h6, .ref h7])), (h6, .inl (cy 1, 11, .inl v76_32_1))]) X hK hA h (fun sz => gJ6_compare_7cf53_12 l D cy v76_32_2 (0 : Int32) (i_rng _) ⟨by decide +kernel, by decide +kernel⟩ sz) wm_4_34 wm_4_36 wm_1_22 hd_J6_compare_7cf53 wm_4_35 ⟨Nat.le_of_ble_eq_true rfl, Nat.le_of_ble_eq_true rfl⟩ hl_33.1 rfl (Nat.le_of_ble_eq_true rfl) dX6_swayed_90 ⟨Nat.le_of_ble_eq_true rfl, Nat.le_of_ble_eq_true rfl⟩ [] [0, 1, 2, 3, 4, 5, 6, 7] rfl rfl (by decide) rfl rfl (fun r_35 u_35 H locs w_35 h_35 => ?_)
        clear h
        obtain ⟨wr_35, _⟩ := w_35
        replace h_35 : qW D _ _ [(h0, .inr (3, [.int p3, .int p4, .int p5, .int p6, w0, w1, .ref h1, w2, w3, w4, w5, w6])), (h1, .inr (4, [.ref h2])), (h2, .inl (cy 1, 300, .inl f0)), (h3, .inr (7, [.ref h0, .int p7, .int p8, .ref h4])), (h4, .inl (cy 1, 10, .inl f1)), (h7, .inl (cy 1, 64, .inl v76_32_0)), (h5, .inr (6, [.ref h6, .ref h7])), (h6, .inl (cy 1, 11, .inl v76_32_1))] _ _ := h_35
        refine lv_iadd hx hb dX6_swayed_93 ?_
        refine q_any (fun z_36 hz_36 => ?_)
        refine lv_istore (lv' := [(8, .int z_36), (7, .int v76_32_2), (0, .ref h5), (1, .ref h3), (2, .int p0), (3, .int p1), (4, .int p2), (5, .int z_29), (6, .int 2)]) hx hb dX6_swayed_94 hl_33 (by decide) rfl (fun ls_37 hl_37 => ?_)
        clear hl_33
        refine lv_bipush (v := 10) hx hb dX6_swayed_96 (by decide) ?_
        refine lv_iload hx hb dX6_swayed_98 (lv_at hl_37 7 rfl) ?_
        refine lv_imul hx hb dX6_swayed_100 ?_
        obtain ⟨z_38, ez_38, hz_38⟩ := e_mul (x := 10) (y := z_29) (show (10 : Int32).toInt = 10 by decide) rfl (by omega) (by omega)
        refine q_c z_38 ez_38 ?_
        clear ez_38
        refine lv_iconst (v := 0) hx hb dX6_swayed_101 (by decide) ?_
        refine lv_bipush (v := 9) hx hb dX6_swayed_102 (by decide) ?_
        refine lv_iload hx hb dX6_swayed_104 (lv_at hl_37 0 rfl) ?_
        refine va_mmin hx hb (hml.trans hl_37.1.symm) hown (ht _ wm_4_37) (ht _ wm_2_171) (ht _ wm_1_13) (ht _ wm_2_172) (Nat.le_of_ble_eq_true rfl) (Nat.le_of_ble_eq_true rfl) (Nat.le_of_ble_eq_true rfl) (Nat.le_of_ble_eq_true rfl) dX6_swayed_106 ?_
        obtain ⟨z_39, ez_39, hz_39⟩ := e_min (x := 9) (y := z_36) (show (9 : Int32).toInt = 9 by decide) rfl
        refine q_c z_39 ez_39 ?_
        clear ez_39
        refine va_mmax hx hb (hml.trans hl_37.1.symm) hown (ht _ wm_4_38) (ht _ wm_3_23) (ht _ wm_1_13) (ht _ wm_3_24) (Nat.le_of_ble_eq_true rfl) (Nat.le_of_ble_eq_true rfl) (Nat.le_of_ble_eq_true rfl) (Nat.le_of_ble_eq_true rfl) dX6_swayed_109 ?_
        obtain ⟨z_40, ez_40, hz_40⟩ := e_max (x := 0) (y := z_39) (show (0 : Int32).toInt = 0 by decide) rfl
        refine q_c z_40 ez_40 ?_
        clear ez_40
        refine lv_iadd hx hb dX6_swayed_112 ?_
        obtain ⟨z_41, ez_41, hz_41⟩ := e_add (x := z_38) (y := z_40) rfl rfl (by omega) (by omega)
        refine q_c z_41 ez_41 ?_
        clear ez_41
        refine lv_istore (lv' := [(5, .int z_41), (8, .int z_36), (7, .int v76_32_2), (0, .ref h5), (1, .ref h3), (2, .int p0), (3, .int p1), (4, .int p2), (6, .int 2)]) hx hb dX6_swayed_113 hl_37 (by decide) rfl (fun ls_42 hl_42 => ?_)
        clear hl_37
        refine lv_iinc (v := 3) (lv' := [(6, .int 3), (5, .int z_41), (8, .int z_36), (7, .int v76_32_2), (0, .ref h5), (1, .ref h3), (2, .int p0), (3, .int p1), (4, .int p2)]) hx hb dX6_swayed_115 hl_42 (k := 8) rfl (by decide +kernel) (by decide) rfl (fun ls_43 hl_43 => ?_)
        clear hl_42
        refine lv_goto (tgt := 41) hx hb dX6_swayed_118 (by decide) ?_
        refine lv_iload hx hb dX6_swayed_41 (lv_at hl_43 0 rfl) ?_
        refine lv_iconst (v := 3) hx hb dX6_swayed_43 (by decide) ?_
        refine lv_icmp_ge (tgt := 121) hx hb dX6_swayed_44 (by decide) (fun _ => ?_) (fun c => absurd c (by decide +kernel))
        refine lv_iload hx hb dX6_swayed_121 (lv_at hl_43 1 rfl) ?_
        exact q_iret X hr hlk hK h_35 rfl (fun _ => 0, fun k => List.getD [v76_32_0, v76_32_1] k (fun _ => 0), fun _ _ => 0) ⟨⟨by omega, by omega⟩, trivial⟩ [0, 1, 2, 3, 4, 6, 7, 5] rfl rfl dX6_swayed_123 (Nat.le_of_ble_eq_true rfl) (Nat.le_of_ble_eq_true rfl)
      · skip
        refine lv_icmp_ge (tgt := 75) hx hb dX6_swayed_56 (by decide) (fun c_44 => ?_) (fun c_44 => ?_)
        · replace c_44 := i_le (x := p3) (y := 2) rfl (show (2 : Int32).toInt = 2 by decide) c_44
          refine lv_iconst (v := 0) hx hb dX6_swayed_75 (by decide) ?_
          exact J_76 _ _ _ _ ⟨0, v76_20_0, v76_20_1, ⟨by decide +kernel, by decide +kernel⟩, rfl, h_23, (lv_sub hl_31 [4, 5, 6, 7, 8, 1, 0, 3, 2] rfl)⟩
        · replace c_44 := i_nle (x := p3) (y := 2) rfl (show (2 : Int32).toInt = 2 by decide) c_44
          refine lv_aload_n hx hb dX6_swayed_59 rfl (lv_at hl_31 4 rfl) ?_
          refine lv_aload_n hx hb dX6_swayed_60 rfl (lv_at hl_31 5 rfl) ?_
          refine q_get X hK h_23 3 rfl rfl wf_7 0 (by decide) rfl wm_2_41 dX6_swayed_61 ?_
          refine q_get X hK h_23 0 rfl rfl wf_3 6 (by decide) rfl wm_1_100 dX6_swayed_64 ?_
          refine lv_iload hx hb dX6_swayed_67 (lv_at hl_31 0 rfl) ?_
          refine q_callVi (rest := []) (wr := [(h0, .inr (3, [.int p3, .int p4, .int p5, .int p6, w0, w1, .ref h1, w2, w3, w4, w5, w6])), (h3, .inr (7, [.ref h0, .int p7, .int p8, .ref h4])), (h4, .inl (cy 1, 10, .inl f1))]) X hK hA h_23 (fun sz => gX6_swayOf_115 l D cy h1 h2 h7 h5 h6 (2 : Int32) f0 v76_20_0 v76_20_1 ⟨by decide +kernel, by decide +kernel⟩ (rg_wide rf0 (by decide) (by decide)) sz) wm_4_30 wm_4_33 wm_1_5 hd_X6_swayOf wm_4_32 wp_2_14 (ci := 6) (q0 := 3) rfl rfl ⟨Nat.le_of_ble_eq_true rfl, Nat.le_of_ble_eq_true rfl⟩ hl_31.1 rfl (Nat.le_of_ble_eq_true rfl) dX6_swayed_69 ⟨Nat.le_of_ble_eq_true rfl, Nat.le_of_ble_eq_true rfl⟩ [1, 2, 5, 6, 7] [0, 3, 4] rfl rfl (by decide) rfl rfl (fun r_45 u_45 H locs w_45 h_45 => ?_)
          clear h_23
          obtain ⟨wr_45, _⟩ := w_45
          replace h_45 : qW D _ _ [(h0, .inr (3, [.int p3, .int p4, .int p5, .int p6, w0, w1, .ref h1, w2, w3, w4, w5, w6])), (h3, .inr (7, [.ref h0, .int p7, .int p8, .ref h4])), (h4, .inl (cy 1, 10, .inl f1)), (h1, .inr (4, [.ref h2])), (h2, .inl (cy 1, 300, .inl f0)), (h7, .inl (cy 1, 64, .inl (u_45.2.1 0))), (h5, .inr (6, [.ref h6, .ref h7])), (h6, .inl (cy 1, 11, .inl (u_45.2.1 1)))] _ _ := h_45
          refine lv_goto (tgt := 76) hx hb dX6_swayed_72 (by decide) ?_
          exact J_76 _ _ _ _ ⟨r_45, (u_45.2.1 0), (u_45.2.1 1), ⟨by omega, by omega⟩, rfl, (q_re h_45 [0, 3, 4, 1, 2, 5, 6, 7] rfl rfl), (lv_sub hl_31 [4, 5, 6, 7, 8, 1, 0, 3, 2] rfl)⟩
    · skip
      refine lv_icmp_ge (tgt := 75) hx hb dX6_swayed_56 (by decide) (fun c_46 => ?_) (fun c_46 => ?_)
      · replace c_46 := i_le (x := p3) (y := 1) rfl (show (1 : Int32).toInt = 1 by decide) c_46
        refine lv_iconst (v := 0) hx hb dX6_swayed_75 (by decide) ?_
        exact J_76 _ _ _ _ ⟨0, v76_9_0, v76_9_1, ⟨by decide +kernel, by decide +kernel⟩, rfl, h_12, (lv_sub hl_19 [4, 5, 6, 7, 8, 1, 0, 3, 2] rfl)⟩
      · replace c_46 := i_nle (x := p3) (y := 1) rfl (show (1 : Int32).toInt = 1 by decide) c_46
        refine lv_aload_n hx hb dX6_swayed_59 rfl (lv_at hl_19 4 rfl) ?_
        refine lv_aload_n hx hb dX6_swayed_60 rfl (lv_at hl_19 5 rfl) ?_
        refine q_get X hK h_12 3 rfl rfl wf_7 0 (by decide) rfl wm_2_41 dX6_swayed_61 ?_
        refine q_get X hK h_12 0 rfl rfl wf_3 6 (by decide) rfl wm_1_100 dX6_swayed_64 ?_
        refine lv_iload hx hb dX6_swayed_67 (lv_at hl_19 0 rfl) ?_
        refine q_callVi (rest := []) (wr := [(h0, .inr (3, [.int p3, .int p4, .int p5, .int p6, w0, w1, .ref h1, w2, w3, w4, w5, w6])), (h3, .inr (7, [.ref h0, .int p7, .int p8, .ref h4])), (h4, .inl (cy 1, 10, .inl f1))]) X hK hA h_12 (fun sz => gX6_swayOf_114 l D cy h1 h2 h7 h5 h6 (1 : Int32) f0 v76_9_0 v76_9_1 ⟨by decide +kernel, by decide +kernel⟩ (rg_wide rf0 (by decide) (by decide)) sz) wm_4_30 wm_4_33 wm_1_5 hd_X6_swayOf wm_4_32 wp_2_14 (ci := 6) (q0 := 3) rfl rfl ⟨Nat.le_of_ble_eq_true rfl, Nat.le_of_ble_eq_true rfl⟩ hl_19.1 rfl (Nat.le_of_ble_eq_true rfl) dX6_swayed_69 ⟨Nat.le_of_ble_eq_true rfl, Nat.le_of_ble_eq_true rfl⟩ [1, 2, 5, 6, 7] [0, 3, 4] rfl rfl (by decide) rfl rfl (fun r_47 u_47 H locs w_47 h_47 => ?_)
        clear h_12
        obtain ⟨wr_47, _⟩ := w_47
        replace h_47 : qW D _ _ [(h0, .inr (3, [.int p3, .int p4, .int p5, .int p6, w0, w1, .ref h1, w2, w3, w4, w5, w6])), (h3, .inr (7, [.ref h0, .int p7, .int p8, .ref h4])), (h4, .inl (cy 1, 10, .inl f1)), (h1, .inr (4, [.ref h2])), (h2, .inl (cy 1, 300, .inl f0)), (h7, .inl (cy 1, 64, .inl (u_47.2.1 0))), (h5, .inr (6, [.ref h6, .ref h7])), (h6, .inl (cy 1, 11, .inl (u_47.2.1 1)))] _ _ := h_47
        refine lv_goto (tgt := 76) hx hb dX6_swayed_72 (by decide) ?_
        exact J_76 _ _ _ _ ⟨r_47, (u_47.2.1 0), (u_47.2.1 1), ⟨by omega, by omega⟩, rfl, (q_re h_47 [0, 3, 4, 1, 2, 5, 6, 7] rfl rfl), (lv_sub hl_19 [4, 5, 6, 7, 8, 1, 0, 3, 2] rfl)⟩
  · skip
    refine lv_icmp_ge (tgt := 75) hx hb dX6_swayed_56 (by decide) (fun c_48 => ?_) (fun c_48 => ?_)
    · replace c_48 := i_le (x := p3) (y := 0) rfl (show (0 : Int32).toInt = 0 by decide) c_48
      exfalso
      omega
    · replace c_48 := i_nle (x := p3) (y := 0) rfl (show (0 : Int32).toInt = 0 by decide) c_48
      refine lv_aload_n hx hb dX6_swayed_59 rfl (lv_at hl_8 2 rfl) ?_
      refine lv_aload_n hx hb dX6_swayed_60 rfl (lv_at hl_8 3 rfl) ?_
      refine q_get X hK h_6 3 rfl rfl wf_7 0 (by decide) rfl wm_2_41 dX6_swayed_61 ?_
      refine q_get X hK h_6 0 rfl rfl wf_3 6 (by decide) rfl wm_1_100 dX6_swayed_64 ?_
      refine lv_iload hx hb dX6_swayed_67 (lv_at hl_8 0 rfl) ?_
      refine q_callVi (rest := []) (wr := [(h0, .inr (3, [.int p3, .int p4, .int p5, .int p6, w0, w1, .ref h1, w2, w3, w4, w5, w6])), (h3, .inr (7, [.ref h0, .int p7, .int p8, .ref h4])), (h4, .inl (cy 1, 10, .inl f1))]) X hK hA h_6 (fun sz => gX6_swayOf_113 l D cy h1 h2 h7 h5 h6 (0 : Int32) f0 f3 F_5 ⟨by decide +kernel, by decide +kernel⟩ (rg_wide rf0 (by decide) (by decide)) sz) wm_4_30 wm_4_33 wm_1_5 hd_X6_swayOf wm_4_32 wp_2_14 (ci := 6) (q0 := 3) rfl rfl ⟨Nat.le_of_ble_eq_true rfl, Nat.le_of_ble_eq_true rfl⟩ hl_8.1 rfl (Nat.le_of_ble_eq_true rfl) dX6_swayed_69 ⟨Nat.le_of_ble_eq_true rfl, Nat.le_of_ble_eq_true rfl⟩ [1, 2, 5, 6, 7] [0, 3, 4] rfl rfl (by decide) rfl rfl (fun r_49 u_49 H locs w_49 h_49 => ?_)
      clear h_6
      obtain ⟨wr_49, _⟩ := w_49
      replace h_49 : qW D _ _ [(h0, .inr (3, [.int p3, .int p4, .int p5, .int p6, w0, w1, .ref h1, w2, w3, w4, w5, w6])), (h3, .inr (7, [.ref h0, .int p7, .int p8, .ref h4])), (h4, .inl (cy 1, 10, .inl f1)), (h1, .inr (4, [.ref h2])), (h2, .inl (cy 1, 300, .inl f0)), (h7, .inl (cy 1, 64, .inl (u_49.2.1 0))), (h5, .inr (6, [.ref h6, .ref h7])), (h6, .inl (cy 1, 11, .inl (u_49.2.1 1)))] _ _ := h_49
      refine lv_goto (tgt := 76) hx hb dX6_swayed_72 (by decide) ?_
      exact J_76 _ _ _ _ ⟨r_49, (u_49.2.1 0), (u_49.2.1 1), ⟨by omega, by omega⟩, rfl, (q_re h_49 [0, 3, 4, 1, 2, 5, 6, 7] rfl rfl), (lv_sub hl_8 [2, 3, 4, 5, 6, 1, 0] rfl)⟩
set_option maxHeartbeats 4000000 in
set_option maxRecDepth 100000 in
theorem gX6_saysAye_117 (l : Launch) (D : va_G) (cy : Nat → ClassId) (h0 : Nat) (h1 : Nat) (h2 : Nat) (h3 : Nat) (h4 : Nat) (h5 : Nat) (h6 : Nat) (h7 : Nat) (p0 : Int32) (p1 : Int32) (p2 : Int32) (p3 : Int32) (p4 : Int32) (p5 : Int32) (w0 : Value) (w1 : Value) (w2 : Value) (w3 : Value) (w4 : Value) (w5 : Value) (w6 : Value) (f0 : Nat → Int32) (p6 : Int32) (p7 : Int32) (f1 : Nat → Int32) (f2 : Nat → Int32) (f3 : Nat → Int32) (hp0 : 0 ≤ (p0).toInt ∧ (p0).toInt ≤ 9) (hp1 : 0 ≤ (p1).toInt ∧ (p1).toInt ≤ 9) (hp2 : 1 ≤ (p2).toInt ∧ (p2).toInt ≤ 3) (hp3 : 0 ≤ (p3).toInt ∧ (p3).toInt ≤ 10) (hp4 : 0 ≤ (p4).toInt ∧ (p4).toInt ≤ 920) (hp5 : 0 ≤ (p5).toInt ∧ (p5).toInt ≤ 999) (hp6 : 0 ≤ (p6).toInt ∧ (p6).toInt ≤ 60000) (hp7 : 0 ≤ (p7).toInt ∧ (p7).toInt ≤ 1023) (rf0 : RG f0 300 0 2062) (rf1 : RG f1 10 0 999) (sz : Nat) : MI l yX6_saysAye cX6_saysAye 5 .boolean { frames := 3, cells := 0, slots := 0, locals := 67 } [.ref h5, .ref h3, .int p0, .int p1] D cy [(h0, .inr (3, [.int p2, .int p3, .int p4, .int p5, w0, .ref h1, w1, w2, w3, w4, w5, w6])), (h1, .inr (4, [.ref h2])), (h2, .inl (cy 1, 300, .inl f0)), (h3, .inr (7, [.ref h0, .int p6, .int p7, .ref h4])), (h4, .inl (cy 1, 10, .inl f1)), (h5, .inr (6, [.ref h6, .ref h7])), (h6, .inl (cy 1, 11, .inl f2)), (h7, .inl (cy 1, 64, .inl f3))] sz (fun r u => (0 ≤ r.toInt ∧ r.toInt ≤ 1) ∧ True) (fun u => [(h0, .inr (3, [.int p2, .int p3, .int p4, .int p5, w0, .ref h1, w1, w2, w3, w4, w5, w6])), (h1, .inr (4, [.ref h2])), (h2, .inl (cy 1, 300, .inl f0)), (h3, .inr (7, [.ref h0, .int p6, .int p7, .ref h4])), (h4, .inl (cy 1, 10, .inl f1)), (h5, .inr (6, [.ref h6, .ref h7])), (h6, .inl (cy 1, 11, .inl (u.2.1 1))), (h7, .inl (cy 1, 64, .inl (u.2.1 0)))]) 0 0 := by
  refine q_ent (own := RX6) (by decide) rfl (Nat.le_of_ble_eq_true rfl) (fun p e s m below meth c ls X hr hlk hnm hK h hA hl => ?_)
  obtain ⟨hx, hb, hml, hown, ht⟩ := id X
  replace hl : lv_has ls 5 [(0, .ref h5), (1, .ref h3), (2, .int p0), (3, .int p1)] := hl
  refine lv_aload_n hx hb dX6_saysAye_0 rfl (lv_at hl 1 rfl) ?_
  refine q_get X hK h 3 rfl rfl wf_7 0 (by decide) rfl wm_2_41 dX6_saysAye_1 ?_
  refine q_get X hK h 0 rfl rfl wf_3 5 (by decide) rfl wm_1_97 dX6_saysAye_4 ?_
  refine lv_astore (lv' := [(4, .ref h1), (0, .ref h5), (1, .ref h3), (2, .int p0), (3, .int p1)]) hx hb dX6_saysAye_7 hl (by decide) rfl (fun ls_1 hl_1 => ?_)
  clear hl
  refine lv_aload hx hb dX6_saysAye_9 (lv_at hl_1 0 rfl) ?_
  refine lv_ifnonnull (tgt := 33) hx hb dX6_saysAye_11 (by decide) ?_
  refine lv_aload_n hx hb dX6_saysAye_33 rfl (lv_at hl_1 1 rfl) ?_
  refine lv_iconst (v := 0) hx hb dX6_saysAye_34 (by decide) ?_
  refine lv_aload_n hx hb dX6_saysAye_35 rfl (lv_at hl_1 2 rfl) ?_
  refine q_get X hK h 3 rfl rfl wf_7 3 (by decide) rfl wm_2_53 dX6_saysAye_36 ?_
  refine lv_iload_n hx hb dX6_saysAye_39 rfl (lv_at hl_1 3 rfl) ?_
  refine q_iald X hK h 4 rfl (i_in rfl (by omega) (by omega)) dX6_saysAye_40 ?_
  obtain ⟨z_2, ez_2, hz_2⟩ := rg_get rf1 (x := p0) rfl (by omega) (by omega)
  refine q_c z_2 ez_2 ?_
  clear ez_2
  refine lv_iload_n hx hb dX6_saysAye_41 rfl (lv_at hl_1 3 rfl) ?_
  refine q_callVv (rest := []) (wr := [(h0, .inr (3, [.int p2, .int p3, .int p4, .int p5, w0, .ref h1, w1, w2, w3, w4, w5, w6])), (h1, .inr (4, [.ref h2])), (h2, .inl (cy 1, 300, .inl f0)), (h3, .inr (7, [.ref h0, .int p6, .int p7, .ref h4])), (h4, .inl (cy 1, 10, .inl f1)), (h7, .inl (cy 1, 64, .inl f3))]) X hK hA h (fun sz => gX6_put_9 l D cy h5 h6 (0 : Int32) z_2 p0 (.ref h7) f2 ⟨by decide +kernel, by decide +kernel⟩ ⟨by omega, by omega⟩ ⟨by omega, by omega⟩ sz) wm_3_204 wm_3_207 wm_1_5 hd_X6_put wm_3_206 wp_2_10 (ci := 6) (q0 := 0) rfl rfl ⟨Nat.le_of_ble_eq_true rfl, Nat.le_of_ble_eq_true rfl⟩ hl_1.1 rfl (Nat.le_of_ble_eq_true rfl) dX6_saysAye_42 ⟨Nat.le_of_ble_eq_true rfl, Nat.le_of_ble_eq_true rfl⟩ [5, 6] [0, 1, 2, 3, 4, 7] rfl rfl (by decide) rfl rfl (fun u_3 H locs w_3 h_3 => ?_)
  clear h
  clear w_3
  replace h_3 : qW D _ _ [(h0, .inr (3, [.int p2, .int p3, .int p4, .int p5, w0, .ref h1, w1, w2, w3, w4, w5, w6])), (h1, .inr (4, [.ref h2])), (h2, .inl (cy 1, 300, .inl f0)), (h3, .inr (7, [.ref h0, .int p6, .int p7, .ref h4])), (h4, .inl (cy 1, 10, .inl f1)), (h7, .inl (cy 1, 64, .inl f3)), (h5, .inr (6, [.ref h6, .ref h7])), (h6, .inl (cy 1, 11, .inl (u_3.2.1 0)))] _ _ := h_3
  refine lv_aload_n hx hb dX6_saysAye_45 rfl (lv_at hl_1 1 rfl) ?_
  refine q_get X hK h_3 6 rfl rfl wf_6 0 (by decide) rfl wm_1_184 dX6_saysAye_46 ?_
  refine lv_bipush (v := 8) hx hb dX6_saysAye_49 (by decide) ?_
  refine lv_aload_n hx hb dX6_saysAye_51 rfl (lv_at hl_1 2 rfl) ?_
  refine q_get X hK h_3 3 rfl rfl wf_7 1 (by decide) rfl wm_2_46 dX6_saysAye_52 ?_
  refine lv_bipush (v := 7) hx hb dX6_saysAye_55 (by decide) ?_
  refine lv_irem hx hb dX6_saysAye_57 (by decide) ?_
  obtain ⟨z_4, ez_4, hz_4⟩ := e_rem (x := p6) (y := 7) rfl (show (7 : Int32).toInt = 7 by decide) (by omega) (by omega)
  refine q_c z_4 ez_4 ?_
  clear ez_4
  refine q_iast X hK h_3 7 rfl (q_in (by decide +kernel)) dX6_saysAye_58 (fun H locs h_6 => ?_)
  clear h_3
  replace h_6 : qW D _ _ [(h0, .inr (3, [.int p2, .int p3, .int p4, .int p5, w0, .ref h1, w1, w2, w3, w4, w5, w6])), (h1, .inr (4, [.ref h2])), (h2, .inl (cy 1, 300, .inl f0)), (h3, .inr (7, [.ref h0, .int p6, .int p7, .ref h4])), (h4, .inl (cy 1, 10, .inl f1)), (h7, .inl (cy 1, 64, .inl f3)), (h5, .inr (6, [.ref h6, .ref h7])), (h6, .inl (cy 1, 11, .inl (upd (u_3.2.1 0) (Int32.toNatClampNeg 8) z_4)))] _ _ := h_6
  obtain ⟨F_5, eF_5⟩ : ∃ z, (upd (u_3.2.1 0) (Int32.toNatClampNeg 8) z_4) = z := ⟨_, rfl⟩
  rw [eF_5] at h_6
  clear eF_5
  refine lv_aload_n hx hb dX6_saysAye_59 rfl (lv_at hl_1 1 rfl) ?_
  refine q_get X hK h_6 6 rfl rfl wf_6 0 (by decide) rfl wm_1_184 dX6_saysAye_60 ?_
  refine lv_bipush (v := 9) hx hb dX6_saysAye_63 (by decide) ?_
  refine lv_iload_n hx hb dX6_saysAye_65 rfl (lv_at hl_1 4 rfl) ?_
  refine q_iast X hK h_6 7 rfl (q_in (by decide +kernel)) dX6_saysAye_66 (fun H locs h_8 => ?_)
  clear h_6
  replace h_8 : qW D _ _ [(h0, .inr (3, [.int p2, .int p3, .int p4, .int p5, w0, .ref h1, w1, w2, w3, w4, w5, w6])), (h1, .inr (4, [.ref h2])), (h2, .inl (cy 1, 300, .inl f0)), (h3, .inr (7, [.ref h0, .int p6, .int p7, .ref h4])), (h4, .inl (cy 1, 10, .inl f1)), (h7, .inl (cy 1, 64, .inl f3)), (h5, .inr (6, [.ref h6, .ref h7])), (h6, .inl (cy 1, 11, .inl (upd F_5 (Int32.toNatClampNeg 9) p1)))] _ _ := h_8
  obtain ⟨F_7, eF_7⟩ : ∃ z, (upd F_5 (Int32.toNatClampNeg 9) p1) = z := ⟨_, rfl⟩
  rw [eF_7] at h_8
  clear eF_7
  refine lv_aload hx hb dX6_saysAye_67 (lv_at hl_1 0 rfl) ?_
  refine lv_aload_n hx hb dX6_saysAye_69 rfl (lv_at hl_1 1 rfl) ?_
  refine q_get X hK h_8 6 rfl rfl wf_6 0 (by decide) rfl wm_1_184 dX6_saysAye_70 ?_
  refine lv_aload_n hx hb dX6_saysAye_73 rfl (lv_at hl_1 1 rfl) ?_
  refine q_get X hK h_8 6 rfl rfl wf_6 1 (by decide) rfl wm_1_185 dX6_saysAye_74 ?_
  refine q_callVi (rest := []) (wr := [(h0, .inr (3, [.int p2, .int p3, .int p4, .int p5, w0, .ref h1, w1, w2, w3, w4, w5, w6])), (h3, .inr (7, [.ref h0, .int p6, .int p7, .ref h4])), (h4, .inl (cy 1, 10, .inl f1)), (h5, .inr (6, [.ref h6, .ref h7]))]) X hK hA h_8 (fun sz => gX4_valueFor_108 l D cy h1 h2 h7 h6 f0 f3 F_7 (rg_wide rf0 (by decide) (by decide)) sz) wm_3_208 wm_3_211 wm_1_19 hd_X4_valueFor wm_3_209 wm_3_210 (ci := 4) (q0 := 0) rfl rfl ⟨Nat.le_of_ble_eq_true rfl, Nat.le_of_ble_eq_true rfl⟩ hl_1.1 rfl (Nat.le_of_ble_eq_true rfl) dX6_saysAye_77 ⟨Nat.le_of_ble_eq_true rfl, Nat.le_of_ble_eq_true rfl⟩ [1, 2, 5, 7] [0, 3, 4, 6] rfl rfl (by decide) rfl rfl (fun r_9 u_9 H locs w_9 h_9 => ?_)
  clear h_8
  obtain ⟨wr_9, _⟩ := w_9
  replace h_9 : qW D _ _ [(h0, .inr (3, [.int p2, .int p3, .int p4, .int p5, w0, .ref h1, w1, w2, w3, w4, w5, w6])), (h3, .inr (7, [.ref h0, .int p6, .int p7, .ref h4])), (h4, .inl (cy 1, 10, .inl f1)), (h5, .inr (6, [.ref h6, .ref h7])), (h1, .inr (4, [.ref h2])), (h2, .inl (cy 1, 300, .inl f0)), (h7, .inl (cy 1, 64, .inl (u_9.2.1 0))), (h6, .inl (cy 1, 11, .inl F_7))] _ _ := h_9
  refine q_jn (pc2 := 88) (fun H locs ls st => ∃ v88_10_0 : Int32, (0 ≤ (v88_10_0).toInt ∧ (v88_10_0).toInt ≤ 1) ∧ st = [.int v88_10_0] ∧ qW D (va_A [(h0, .inr (3, [.int p2, .int p3, .int p4, .int p5, w0, .ref h1, w1, w2, w3, w4, w5, w6])), (h1, .inr (4, [.ref h2])), (h2, .inl (cy 1, 300, .inl f0)), (h3, .inr (7, [.ref h0, .int p6, .int p7, .ref h4])), (h4, .inl (cy 1, 10, .inl f1)), (h5, .inr (6, [.ref h6, .ref h7])), (h6, .inl (cy 1, 11, .inl f2)), (h7, .inl (cy 1, 64, .inl f3))] sz) s.heap [(h0, .inr (3, [.int p2, .int p3, .int p4, .int p5, w0, .ref h1, w1, w2, w3, w4, w5, w6])), (h3, .inr (7, [.ref h0, .int p6, .int p7, .ref h4])), (h4, .inl (cy 1, 10, .inl f1)), (h5, .inr (6, [.ref h6, .ref h7])), (h1, .inr (4, [.ref h2])), (h2, .inl (cy 1, 300, .inl f0)), (h7, .inl (cy 1, 64, .inl (u_9.2.1 0))), (h6, .inl (cy 1, 11, .inl F_7))] H locs ∧ lv_has ls 5 [(0, .ref h5), (1, .ref h3), (2, .int p0), (3, .int p1), (4, .ref h1)]) (fun H locs ls st hP => ?_) (fun J_88 => ?_)
  · obtain ⟨v88_10_0, hv88_10_0, rfl, h, hl⟩ := hP
    exact q_iret X hr hlk hK h (q_nz (by omega) (by omega)) (fun _ => 0, fun k => List.getD [(u_9.2.1 0), F_7] k (fun _ => 0), fun _ _ => 0) ⟨⟨by omega, by omega⟩, trivial⟩ [0, 4, 5, 1, 2, 3, 7, 6] rfl rfl dX6_saysAye_88 (Nat.le_of_ble_eq_true rfl) (Nat.le_of_ble_eq_true rfl)
  · skip
    refine lv_if_eq (tgt := 87) hx hb dX6_saysAye_80 (by decide) (fun c_11 => ?_) (fun c_11 => ?_)
    · replace c_11 := i_eq (x := r_9) (y := 0) rfl (show (0 : Int32).toInt = 0 by decide) c_11
      refine lv_iconst (v := 0) hx hb dX6_saysAye_87 (by decide) ?_
      exact J_88 _ _ _ _ ⟨0, ⟨by decide +kernel, by decide +kernel⟩, rfl, h_9, (lv_sub hl_1 [1, 2, 3, 4, 0] rfl)⟩
    · replace c_11 := i_ne (x := r_9) (y := 0) rfl (show (0 : Int32).toInt = 0 by decide) c_11
      refine lv_iconst (v := 1) hx hb dX6_saysAye_83 (by decide) ?_
      refine lv_goto (tgt := 88) hx hb dX6_saysAye_84 (by decide) ?_
      exact J_88 _ _ _ _ ⟨1, ⟨by decide +kernel, by decide +kernel⟩, rfl, h_9, (lv_sub hl_1 [1, 2, 3, 4, 0] rfl)⟩
set_option maxHeartbeats 4000000 in
set_option maxRecDepth 100000 in
theorem gX7_whyNoTalk_118 (l : Launch) (D : va_G) (cy : Nat → ClassId) (h0 : Nat) (h1 : Nat) (h2 : Nat) (h3 : Nat) (p0 : Int32) (p1 : Int32) (p2 : Int32) (p3 : Int32) (p4 : Int32) (p5 : Int32) (w0 : Value) (w1 : Value) (w2 : Value) (w3 : Value) (w4 : Value) (w5 : Value) (f0 : Nat → Int32) (f1 : Nat → Int32) (p6 : Int32) (p7 : Int32) (w6 : Value) (hp0 : 0 ≤ (p0).toInt ∧ (p0).toInt ≤ 9) (hp1 : 0 ≤ (p1).toInt ∧ (p1).toInt ≤ 9) (hp2 : 1 ≤ (p2).toInt ∧ (p2).toInt ≤ 3) (hp3 : 0 ≤ (p3).toInt ∧ (p3).toInt ≤ 10) (hp4 : 0 ≤ (p4).toInt ∧ (p4).toInt ≤ 920) (hp5 : 0 ≤ (p5).toInt ∧ (p5).toInt ≤ 999) (hp6 : 0 ≤ (p6).toInt ∧ (p6).toInt ≤ 60000) (hp7 : 0 ≤ (p7).toInt ∧ (p7).toInt ≤ 1023) (rf0 : RG f0 10 0 999) (rf1 : RG f1 10 0 1000000) (sz : Nat) : MI l yX7_whyNoTalk cX7_whyNoTalk 4 .int { frames := 2, cells := 0, slots := 0, locals := 43 } [.ref h3, .int p0, .int p1] D cy [(h0, .inr (3, [.int p2, .int p3, .int p4, .int p5, w0, w1, w2, w3, .ref h1, .ref h2, w4, w5])), (h1, .inl (cy 1, 10, .inl f0)), (h2, .inl (cy 1, 10, .inl f1)), (h3, .inr (7, [.ref h0, .int p6, .int p7, w6]))] sz (fun r u => (0 ≤ r.toInt ∧ r.toInt ≤ 2) ∧ True) (fun u => [(h0, .inr (3, [.int p2, .int p3, .int p4, .int p5, w0, w1, w2, w3, .ref h1, .ref h2, w4, w5])), (h1, .inl (cy 1, 10, .inl f0)), (h2, .inl (cy 1, 10, .inl f1)), (h3, .inr (7, [.ref h0, .int p6, .int p7, w6]))]) 0 0 := by
  refine q_ent (own := RX7) (by decide) rfl (Nat.le_of_ble_eq_true rfl) (fun p e s m below meth c ls X hr hlk hnm hK h hA hl => ?_)
  obtain ⟨hx, hb, hml, hown, ht⟩ := id X
  replace hl : lv_has ls 4 [(0, .ref h3), (1, .int p0), (2, .int p1)] := hl
  refine lv_iload_n hx hb dX7_whyNoTalk_0 rfl (lv_at hl 1 rfl) ?_
  refine lv_aload_n hx hb dX7_whyNoTalk_1 rfl (lv_at hl 0 rfl) ?_
  refine q_get X hK h 3 rfl rfl wf_7 0 (by decide) rfl wm_2_37 dX7_whyNoTalk_2 ?_
  refine q_get X hK h 0 rfl rfl wf_3 1 (by decide) rfl wm_1_83 dX7_whyNoTalk_5 ?_
  refine q_jn (pc2 := 27) (fun H locs ls st => st = [] ∧ qW D (va_A [(h0, .inr (3, [.int p2, .int p3, .int p4, .int p5, w0, w1, w2, w3, .ref h1, .ref h2, w4, w5])), (h1, .inl (cy 1, 10, .inl f0)), (h2, .inl (cy 1, 10, .inl f1)), (h3, .inr (7, [.ref h0, .int p6, .int p7, w6]))] sz) s.heap [(h0, .inr (3, [.int p2, .int p3, .int p4, .int p5, w0, w1, w2, w3, .ref h1, .ref h2, w4, w5])), (h1, .inl (cy 1, 10, .inl f0)), (h2, .inl (cy 1, 10, .inl f1)), (h3, .inr (7, [.ref h0, .int p6, .int p7, w6]))] H locs ∧ lv_has ls 4 [(0, .ref h3), (1, .int p0), (2, .int p1)]) (fun H locs ls st hP => ?_) (fun J_27 => ?_)
  · obtain ⟨rfl, h, hl⟩ := hP
    refine lv_iconst (v := 1) hx hb dX7_whyNoTalk_27 (by decide) ?_
    exact q_iret X hr hlk hK h rfl (fun _ => 0, fun _ _ => 0, fun _ _ => 0) ⟨⟨by decide +kernel, by decide +kernel⟩, trivial⟩ [0, 1, 2, 3] rfl rfl dX7_whyNoTalk_28 (Nat.le_of_ble_eq_true rfl) (Nat.le_of_ble_eq_true rfl)
  · skip
    refine lv_icmp_ge (tgt := 27) hx hb dX7_whyNoTalk_8 (by decide) (fun c_2 => ?_) (fun c_2 => ?_)
    · replace c_2 := i_le (x := p3) (y := p0) rfl rfl c_2
      exact J_27 _ _ _ _ ⟨rfl, h, (lv_sub hl [0, 1, 2] rfl)⟩
    · replace c_2 := i_nle (x := p3) (y := p0) rfl rfl c_2
      refine lv_iload_n hx hb dX7_whyNoTalk_11 rfl (lv_at hl 2 rfl) ?_
      refine lv_aload_n hx hb dX7_whyNoTalk_12 rfl (lv_at hl 0 rfl) ?_
      refine q_get X hK h 3 rfl rfl wf_7 0 (by decide) rfl wm_2_37 dX7_whyNoTalk_13 ?_
      refine q_get X hK h 0 rfl rfl wf_3 1 (by decide) rfl wm_1_83 dX7_whyNoTalk_16 ?_
      refine lv_icmp_ge (tgt := 27) hx hb dX7_whyNoTalk_19 (by decide) (fun c_3 => ?_) (fun c_3 => ?_)
      · replace c_3 := i_le (x := p3) (y := p1) rfl rfl c_3
        exact J_27 _ _ _ _ ⟨rfl, h, (lv_sub hl [0, 1, 2] rfl)⟩
      · replace c_3 := i_nle (x := p3) (y := p1) rfl rfl c_3
        refine lv_iload_n hx hb dX7_whyNoTalk_22 rfl (lv_at hl 1 rfl) ?_
        refine lv_iload_n hx hb dX7_whyNoTalk_23 rfl (lv_at hl 2 rfl) ?_
        refine lv_icmp_ne (tgt := 29) hx hb dX7_whyNoTalk_24 (by decide) (fun c_4 => ?_) (fun c_4 => ?_)
        · replace c_4 := i_ne (x := p0) (y := p1) rfl rfl c_4
          refine lv_iconst (v := 1) hx hb dX7_whyNoTalk_29 (by decide) ?_
          refine lv_iload_n hx hb dX7_whyNoTalk_30 rfl (lv_at hl 1 rfl) ?_
          refine lv_ishl hx hb dX7_whyNoTalk_31 ?_
          obtain ⟨z_5, ez_5, hz_5⟩ := e_shlk (p := p0) 9 (by decide) rfl (by omega) (by omega)
          refine q_c z_5 ez_5 ?_
          clear ez_5
          refine lv_iconst (v := 1) hx hb dX7_whyNoTalk_32 (by decide) ?_
          refine lv_iload_n hx hb dX7_whyNoTalk_33 rfl (lv_at hl 2 rfl) ?_
          refine lv_ishl hx hb dX7_whyNoTalk_34 ?_
          obtain ⟨z_6, ez_6, hz_6⟩ := e_shlk (p := p1) 9 (by decide) rfl (by omega) (by omega)
          refine q_c z_6 ez_6 ?_
          clear ez_6
          refine lv_ior hx hb dX7_whyNoTalk_35 ?_
          obtain ⟨z_7, ez_7, hz_7⟩ := e_or (x := z_5) (y := z_6) 10 (by decide) rfl rfl (by omega) (by omega) (by omega) (by omega)
          refine q_c z_7 ez_7 ?_
          clear ez_7
          refine lv_istore_n (lv' := [(3, .int z_7), (0, .ref h3), (1, .int p0), (2, .int p1)]) hx hb dX7_whyNoTalk_36 rfl hl (by decide) rfl (fun ls_8 hl_8 => ?_)
          clear hl
          refine lv_aload_n hx hb dX7_whyNoTalk_37 rfl (lv_at hl_8 1 rfl) ?_
          refine q_callVi (rest := []) (wr := []) X hK hA h (fun sz => gX7_inTown_106 l D cy h0 h1 h2 h3 p2 p3 p4 p5 w0 w1 w2 w3 w4 w5 f0 f1 p6 p7 w6 ⟨by omega, by omega⟩ ⟨by omega, by omega⟩ ⟨by omega, by omega⟩ ⟨by omega, by omega⟩ ⟨by omega, by omega⟩ ⟨by omega, by omega⟩ (rg_wide rf0 (by decide) (by decide)) (rg_wide rf1 (by decide) (by decide)) sz) wm_4_14 wm_3_182 wm_1_9 hd_X7_inTown wm_3_180 wm_3_181 (ci := 7) (q0 := 3) rfl rfl ⟨Nat.le_of_ble_eq_true rfl, Nat.le_of_ble_eq_true rfl⟩ hl_8.1 rfl (Nat.le_of_ble_eq_true rfl) dX7_whyNoTalk_38 ⟨Nat.le_of_ble_eq_true rfl, Nat.le_of_ble_eq_true rfl⟩ [0, 1, 2, 3] [] rfl rfl (by decide) rfl rfl (fun r_9 u_9 H locs w_9 h_9 => ?_)
          clear h
          obtain ⟨wr_9, _⟩ := w_9
          replace h_9 : qW D _ _ [(h0, .inr (3, [.int p2, .int p3, .int p4, .int p5, w0, w1, w2, w3, .ref h1, .ref h2, w4, w5])), (h1, .inl (cy 1, 10, .inl f0)), (h2, .inl (cy 1, 10, .inl f1)), (h3, .inr (7, [.ref h0, .int p6, .int p7, w6]))] _ _ := h_9
          refine lv_iload_n hx hb dX7_whyNoTalk_41 rfl (lv_at hl_8 0 rfl) ?_
          refine lv_iand hx hb dX7_whyNoTalk_42 ?_
          obtain ⟨z_10, ez_10, hz_10⟩ := e_and2 (x := r_9) (y := z_7) rfl (by omega)
          refine q_c z_10 ez_10 ?_
          clear ez_10
          refine lv_iload_n hx hb dX7_whyNoTalk_43 rfl (lv_at hl_8 0 rfl) ?_
          refine q_jn (pc2 := 52) (fun H locs ls st => ∃ v52_11_0 : Int32, (0 ≤ (v52_11_0).toInt ∧ (v52_11_0).toInt ≤ 2) ∧ st = [.int v52_11_0] ∧ qW D (va_A [(h0, .inr (3, [.int p2, .int p3, .int p4, .int p5, w0, w1, w2, w3, .ref h1, .ref h2, w4, w5])), (h1, .inl (cy 1, 10, .inl f0)), (h2, .inl (cy 1, 10, .inl f1)), (h3, .inr (7, [.ref h0, .int p6, .int p7, w6]))] sz) s.heap [(h0, .inr (3, [.int p2, .int p3, .int p4, .int p5, w0, w1, w2, w3, .ref h1, .ref h2, w4, w5])), (h1, .inl (cy 1, 10, .inl f0)), (h2, .inl (cy 1, 10, .inl f1)), (h3, .inr (7, [.ref h0, .int p6, .int p7, w6]))] H locs ∧ lv_has ls 4 [(0, .ref h3), (1, .int p0), (2, .int p1), (3, .int z_7)]) (fun H locs ls st hP => ?_) (fun J_52 => ?_)
          · obtain ⟨v52_11_0, hv52_11_0, rfl, h, hl⟩ := hP
            exact q_iret X hr hlk hK h rfl (fun _ => 0, fun _ _ => 0, fun _ _ => 0) ⟨⟨by omega, by omega⟩, trivial⟩ [0, 1, 2, 3] rfl rfl dX7_whyNoTalk_52 (Nat.le_of_ble_eq_true rfl) (Nat.le_of_ble_eq_true rfl)
          · skip
            refine lv_icmp_ne (tgt := 51) hx hb dX7_whyNoTalk_44 (by decide) (fun c_12 => ?_) (fun c_12 => ?_)
            · replace c_12 := i_ne (x := z_10) (y := z_7) rfl rfl c_12
              refine lv_iconst (v := 2) hx hb dX7_whyNoTalk_51 (by decide) ?_
              exact J_52 _ _ _ _ ⟨2, ⟨by decide +kernel, by decide +kernel⟩, rfl, h_9, (lv_sub hl_8 [1, 2, 3, 0] rfl)⟩
            · replace c_12 := i_eq (x := z_10) (y := z_7) rfl rfl c_12
              refine lv_iconst (v := 0) hx hb dX7_whyNoTalk_47 (by decide) ?_
              refine lv_goto (tgt := 52) hx hb dX7_whyNoTalk_48 (by decide) ?_
              exact J_52 _ _ _ _ ⟨0, ⟨by decide +kernel, by decide +kernel⟩, rfl, h_9, (lv_sub hl_8 [1, 2, 3, 0] rfl)⟩
        · replace c_4 := i_eq (x := p0) (y := p1) rfl rfl c_4
          exact J_27 _ _ _ _ ⟨rfl, h, (lv_sub hl [0, 1, 2] rfl)⟩
set_option maxHeartbeats 4000000 in
set_option maxRecDepth 100000 in
theorem gX7_whyNot_119 (l : Launch) (D : va_G) (cy : Nat → ClassId) (h0 : Nat) (h1 : Nat) (h2 : Nat) (h3 : Nat) (j0 : Int64) (p0 : Int32) (p1 : Int32) (p2 : Int32) (p3 : Int32) (w0 : Value) (w1 : Value) (w2 : Value) (w3 : Value) (w4 : Value) (w5 : Value) (f0 : Nat → Int32) (f1 : Nat → Int32) (p4 : Int32) (p5 : Int32) (w6 : Value) (hj0 : (-9223372036854775808) ≤ (j0).toInt ∧ (j0).toInt ≤ 9223372036854775807) (hp0 : 1 ≤ (p0).toInt ∧ (p0).toInt ≤ 3) (hp1 : 0 ≤ (p1).toInt ∧ (p1).toInt ≤ 10) (hp2 : 0 ≤ (p2).toInt ∧ (p2).toInt ≤ 920) (hp3 : 0 ≤ (p3).toInt ∧ (p3).toInt ≤ 999) (hp4 : 0 ≤ (p4).toInt ∧ (p4).toInt ≤ 60000) (hp5 : 0 ≤ (p5).toInt ∧ (p5).toInt ≤ 1023) (rf0 : RG f0 10 0 999) (rf1 : RG f1 10 0 1000000) (sz : Nat) : MI l yX7_whyNot cX7_whyNot 6 .int { frames := 3, cells := 0, slots := 0, locals := 66 } [.ref h3, .long j0] D cy [(h0, .inr (3, [.int p0, .int p1, .int p2, .int p3, w0, w1, w2, w3, .ref h1, .ref h2, w4, w5])), (h1, .inl (cy 1, 10, .inl f0)), (h2, .inl (cy 1, 10, .inl f1)), (h3, .inr (7, [.ref h0, .int p4, .int p5, w6]))] sz (fun r u => (0 ≤ r.toInt ∧ r.toInt ≤ 2) ∧ True) (fun u => [(h0, .inr (3, [.int p0, .int p1, .int p2, .int p3, w0, w1, w2, w3, .ref h1, .ref h2, w4, w5])), (h1, .inl (cy 1, 10, .inl f0)), (h2, .inl (cy 1, 10, .inl f1)), (h3, .inr (7, [.ref h0, .int p4, .int p5, w6]))]) 0 0 := by
  refine q_ent (own := RX7) (by decide) rfl (Nat.le_of_ble_eq_true rfl) (fun p e s m below meth c ls X hr hlk hnm hK h hA hl => ?_)
  obtain ⟨hx, hb, hml, hown, ht⟩ := id X
  replace hl : lv_has ls 6 [(0, .ref h3), (1, .long j0)] := hl
  refine lv_lload_n hx hb dX7_whyNot_0 rfl (lv_at hl 1 rfl) ?_
  refine lv_ldc2 hx hb hown (ht _ wm_4_8) dX7_whyNot_1 ?_
  refine W.lcmp hx hb dX7_whyNot_4 ?_
  refine lv_if_ne (tgt := 10) hx hb dX7_whyNot_5 (by decide) (fun c_1 => ?_) (fun c_1 => ?_)
  · replace c_1 := j_neq (x := j0) (y := (-1)) rfl (show ((-1) : Int64).toInt = -1 by decide) c_1
    refine lv_lload_n hx hb dX7_whyNot_10 rfl (lv_at hl 1 rfl) ?_
    refine lv_lconst (v := 0) hx hb dX7_whyNot_11 (by decide) ?_
    refine W.lcmp hx hb dX7_whyNot_12 ?_
    refine q_jn (pc2 := 39) (fun H locs ls st => st = [] ∧ qW D (va_A [(h0, .inr (3, [.int p0, .int p1, .int p2, .int p3, w0, w1, w2, w3, .ref h1, .ref h2, w4, w5])), (h1, .inl (cy 1, 10, .inl f0)), (h2, .inl (cy 1, 10, .inl f1)), (h3, .inr (7, [.ref h0, .int p4, .int p5, w6]))] sz) s.heap [(h0, .inr (3, [.int p0, .int p1, .int p2, .int p3, w0, w1, w2, w3, .ref h1, .ref h2, w4, w5])), (h1, .inl (cy 1, 10, .inl f0)), (h2, .inl (cy 1, 10, .inl f1)), (h3, .inr (7, [.ref h0, .int p4, .int p5, w6]))] H locs ∧ lv_has ls 6 [(0, .ref h3), (1, .long j0)]) (fun H locs ls st hP => ?_) (fun J_39 => ?_)
    · obtain ⟨rfl, h, hl⟩ := hP
      refine lv_lload_n hx hb dX7_whyNot_39 rfl (lv_at hl 1 rfl) ?_
      refine lv_ldc2 hx hb hown (ht _ wm_4_9) dX7_whyNot_40 ?_
      refine W.lcmp hx hb dX7_whyNot_43 ?_
      refine q_jn (pc2 := 60) (fun H locs ls st => ∃ v60_3_0 : Int32, (0 ≤ (v60_3_0).toInt ∧ (v60_3_0).toInt ≤ 1) ∧ st = [.int v60_3_0] ∧ qW D (va_A [(h0, .inr (3, [.int p0, .int p1, .int p2, .int p3, w0, w1, w2, w3, .ref h1, .ref h2, w4, w5])), (h1, .inl (cy 1, 10, .inl f0)), (h2, .inl (cy 1, 10, .inl f1)), (h3, .inr (7, [.ref h0, .int p4, .int p5, w6]))] sz) s.heap [(h0, .inr (3, [.int p0, .int p1, .int p2, .int p3, w0, w1, w2, w3, .ref h1, .ref h2, w4, w5])), (h1, .inl (cy 1, 10, .inl f0)), (h2, .inl (cy 1, 10, .inl f1)), (h3, .inr (7, [.ref h0, .int p4, .int p5, w6]))] H locs ∧ lv_has ls 6 [(0, .ref h3), (1, .long j0)]) (fun H locs ls st hP => ?_) (fun J_60 => ?_)
      · obtain ⟨v60_3_0, hv60_3_0, rfl, h, hl⟩ := hP
        refine lv_istore_n (lv' := [(3, .int v60_3_0), (0, .ref h3), (1, .long j0)]) hx hb dX7_whyNot_60 rfl hl (by decide) rfl (fun ls_4 hl_4 => ?_)
        clear hl
        refine lv_iload_n hx hb dX7_whyNot_61 rfl (lv_at hl_4 0 rfl) ?_
        refine q_jn (pc2 := 83) (fun H locs ls st => st = [] ∧ qW D (va_A [(h0, .inr (3, [.int p0, .int p1, .int p2, .int p3, w0, w1, w2, w3, .ref h1, .ref h2, w4, w5])), (h1, .inl (cy 1, 10, .inl f0)), (h2, .inl (cy 1, 10, .inl f1)), (h3, .inr (7, [.ref h0, .int p4, .int p5, w6]))] sz) s.heap [(h0, .inr (3, [.int p0, .int p1, .int p2, .int p3, w0, w1, w2, w3, .ref h1, .ref h2, w4, w5])), (h1, .inl (cy 1, 10, .inl f0)), (h2, .inl (cy 1, 10, .inl f1)), (h3, .inr (7, [.ref h0, .int p4, .int p5, w6]))] H locs ∧ lv_has ls 6 [(0, .ref h3), (1, .long j0), (3, .int v60_3_0)]) (fun H locs ls st hP => ?_) (fun J_83 => ?_)
        · obtain ⟨rfl, h, hl⟩ := hP
          refine lv_lload_n hx hb dX7_whyNot_83 rfl (lv_at hl 1 rfl) ?_
          refine lv_l2i hx hb dX7_whyNot_84 rfl ?_
          refine q_any (fun z_6 hz_6 => ?_)
          refine lv_bipush (v := 10) hx hb dX7_whyNot_85 (by decide) ?_
          refine lv_irem hx hb dX7_whyNot_87 (by decide) ?_
          refine q_any (fun z_7 hz_7 => ?_)
          refine lv_istore (lv' := [(4, .int z_7), (0, .ref h3), (1, .long j0), (3, .int v60_3_0)]) hx hb dX7_whyNot_88 hl (by decide) rfl (fun ls_8 hl_8 => ?_)
          clear hl
          refine lv_iload hx hb dX7_whyNot_90 (lv_at hl_8 0 rfl) ?_
          refine lv_aload_n hx hb dX7_whyNot_92 rfl (lv_at hl_8 1 rfl) ?_
          refine q_get X hK h 3 rfl rfl wf_7 0 (by decide) rfl wm_2_37 dX7_whyNot_93 ?_
          refine q_get X hK h 0 rfl rfl wf_3 1 (by decide) rfl wm_1_83 dX7_whyNot_96 ?_
          refine lv_icmp_lt (tgt := 104) hx hb dX7_whyNot_99 (by decide) (fun c_9 => ?_) (fun c_9 => ?_)
          · replace c_9 := i_lt (x := z_7) (y := p1) rfl rfl c_9
            refine lv_aload_n hx hb dX7_whyNot_104 rfl (lv_at hl_8 1 rfl) ?_
            refine q_get X hK h 3 rfl rfl wf_7 2 (by decide) rfl wm_2_48 dX7_whyNot_105 ?_
            refine lv_iload hx hb dX7_whyNot_108 (lv_at hl_8 0 rfl) ?_
            refine lv_ishr hx hb dX7_whyNot_110 ?_
            obtain ⟨z_10, ez_10, hz_10⟩ := e_shr (x := p5) z_7 rfl (by omega)
            refine q_c z_10 ez_10 ?_
            clear ez_10
            refine lv_iconst (v := 1) hx hb dX7_whyNot_111 (by decide) ?_
            refine lv_iand hx hb dX7_whyNot_112 ?_
            obtain ⟨z_11, ez_11, hz_11⟩ := e_and2 (x := z_10) (y := 1) (show (1 : Int32).toInt = 1 by decide) (by omega)
            refine q_c z_11 ez_11 ?_
            clear ez_11
            refine lv_iconst (v := 1) hx hb dX7_whyNot_113 (by decide) ?_
            refine q_jn (pc2 := 122) (fun H locs ls st => ∃ v122_12_0 : Int32, (0 ≤ (v122_12_0).toInt ∧ (v122_12_0).toInt ≤ 1) ∧ st = [.int v122_12_0] ∧ qW D (va_A [(h0, .inr (3, [.int p0, .int p1, .int p2, .int p3, w0, w1, w2, w3, .ref h1, .ref h2, w4, w5])), (h1, .inl (cy 1, 10, .inl f0)), (h2, .inl (cy 1, 10, .inl f1)), (h3, .inr (7, [.ref h0, .int p4, .int p5, w6]))] sz) s.heap [(h0, .inr (3, [.int p0, .int p1, .int p2, .int p3, w0, w1, w2, w3, .ref h1, .ref h2, w4, w5])), (h1, .inl (cy 1, 10, .inl f0)), (h2, .inl (cy 1, 10, .inl f1)), (h3, .inr (7, [.ref h0, .int p4, .int p5, w6]))] H locs ∧ lv_has ls 6 [(0, .ref h3), (1, .long j0), (3, .int v60_3_0), (4, .int z_7)]) (fun H locs ls st hP => ?_) (fun J_122 => ?_)
            · obtain ⟨v122_12_0, hv122_12_0, rfl, h, hl⟩ := hP
              refine lv_istore (lv' := [(5, .int v122_12_0), (0, .ref h3), (1, .long j0), (3, .int v60_3_0), (4, .int z_7)]) hx hb dX7_whyNot_122 hl (by decide) rfl (fun ls_13 hl_13 => ?_)
              clear hl
              refine lv_iload hx hb dX7_whyNot_124 (lv_at hl_13 0 rfl) ?_
              refine lv_iload_n hx hb dX7_whyNot_126 rfl (lv_at hl_13 3 rfl) ?_
              refine q_jn (pc2 := 135) (fun H locs ls st => ∃ v135_14_0 : Int32, (0 ≤ (v135_14_0).toInt ∧ (v135_14_0).toInt ≤ 2) ∧ st = [.int v135_14_0] ∧ qW D (va_A [(h0, .inr (3, [.int p0, .int p1, .int p2, .int p3, w0, w1, w2, w3, .ref h1, .ref h2, w4, w5])), (h1, .inl (cy 1, 10, .inl f0)), (h2, .inl (cy 1, 10, .inl f1)), (h3, .inr (7, [.ref h0, .int p4, .int p5, w6]))] sz) s.heap [(h0, .inr (3, [.int p0, .int p1, .int p2, .int p3, w0, w1, w2, w3, .ref h1, .ref h2, w4, w5])), (h1, .inl (cy 1, 10, .inl f0)), (h2, .inl (cy 1, 10, .inl f1)), (h3, .inr (7, [.ref h0, .int p4, .int p5, w6]))] H locs ∧ lv_has ls 6 [(0, .ref h3), (1, .long j0), (3, .int v60_3_0), (4, .int z_7), (5, .int v122_12_0)]) (fun H locs ls st hP => ?_) (fun J_135 => ?_)
              · obtain ⟨v135_14_0, hv135_14_0, rfl, h, hl⟩ := hP
                exact q_iret X hr hlk hK h rfl (fun _ => 0, fun _ _ => 0, fun _ _ => 0) ⟨⟨by omega, by omega⟩, trivial⟩ [0, 1, 2, 3] rfl rfl dX7_whyNot_135 (Nat.le_of_ble_eq_true rfl) (Nat.le_of_ble_eq_true rfl)
              · skip
                refine lv_icmp_ne (tgt := 134) hx hb dX7_whyNot_127 (by decide) (fun c_15 => ?_) (fun c_15 => ?_)
                · replace c_15 := i_ne (x := v122_12_0) (y := v60_3_0) rfl rfl c_15
                  refine lv_iconst (v := 0) hx hb dX7_whyNot_134 (by decide) ?_
                  exact J_135 _ _ _ _ ⟨0, ⟨by decide +kernel, by decide +kernel⟩, rfl, h, (lv_sub hl_13 [1, 2, 3, 4, 0] rfl)⟩
                · replace c_15 := i_eq (x := v122_12_0) (y := v60_3_0) rfl rfl c_15
                  refine lv_iconst (v := 2) hx hb dX7_whyNot_130 (by decide) ?_
                  refine lv_goto (tgt := 135) hx hb dX7_whyNot_131 (by decide) ?_
                  exact J_135 _ _ _ _ ⟨2, ⟨by decide +kernel, by decide +kernel⟩, rfl, h, (lv_sub hl_13 [1, 2, 3, 4, 0] rfl)⟩
            · skip
              refine lv_icmp_ne (tgt := 121) hx hb dX7_whyNot_114 (by decide) (fun c_16 => ?_) (fun c_16 => ?_)
              · replace c_16 := i_ne (x := z_11) (y := 1) rfl (show (1 : Int32).toInt = 1 by decide) c_16
                refine lv_iconst (v := 0) hx hb dX7_whyNot_121 (by decide) ?_
                exact J_122 _ _ _ _ ⟨0, ⟨by decide +kernel, by decide +kernel⟩, rfl, h, (lv_sub hl_8 [1, 2, 3, 0] rfl)⟩
              · replace c_16 := i_eq (x := z_11) (y := 1) rfl (show (1 : Int32).toInt = 1 by decide) c_16
                refine lv_iconst (v := 1) hx hb dX7_whyNot_117 (by decide) ?_
                refine lv_goto (tgt := 122) hx hb dX7_whyNot_118 (by decide) ?_
                exact J_122 _ _ _ _ ⟨1, ⟨by decide +kernel, by decide +kernel⟩, rfl, h, (lv_sub hl_8 [1, 2, 3, 0] rfl)⟩
          · replace c_9 := i_nlt (x := z_7) (y := p1) rfl rfl c_9
            refine lv_iconst (v := 1) hx hb dX7_whyNot_102 (by decide) ?_
            exact q_iret X hr hlk hK h rfl (fun _ => 0, fun _ _ => 0, fun _ _ => 0) ⟨⟨by decide +kernel, by decide +kernel⟩, trivial⟩ [0, 1, 2, 3] rfl rfl dX7_whyNot_103 (Nat.le_of_ble_eq_true rfl) (Nat.le_of_ble_eq_true rfl)
        · skip
          refine lv_if_ne (tgt := 83) hx hb dX7_whyNot_62 (by decide) (fun c_17 => ?_) (fun c_17 => ?_)
          · replace c_17 := i_ne (x := v60_3_0) (y := 0) rfl (show (0 : Int32).toInt = 0 by decide) c_17
            exact J_83 _ _ _ _ ⟨rfl, h, (lv_sub hl_4 [1, 2, 0] rfl)⟩
          · replace c_17 := i_eq (x := v60_3_0) (y := 0) rfl (show (0 : Int32).toInt = 0 by decide) c_17
            refine lv_lload_n hx hb dX7_whyNot_65 rfl (lv_at hl_4 2 rfl) ?_
            refine lv_ldc2 hx hb hown (ht _ wm_4_16) dX7_whyNot_66 ?_
            refine W.lcmp hx hb dX7_whyNot_69 ?_
            refine q_jn (pc2 := 81) (fun H locs ls st => st = [] ∧ qW D (va_A [(h0, .inr (3, [.int p0, .int p1, .int p2, .int p3, w0, w1, w2, w3, .ref h1, .ref h2, w4, w5])), (h1, .inl (cy 1, 10, .inl f0)), (h2, .inl (cy 1, 10, .inl f1)), (h3, .inr (7, [.ref h0, .int p4, .int p5, w6]))] sz) s.heap [(h0, .inr (3, [.int p0, .int p1, .int p2, .int p3, w0, w1, w2, w3, .ref h1, .ref h2, w4, w5])), (h1, .inl (cy 1, 10, .inl f0)), (h2, .inl (cy 1, 10, .inl f1)), (h3, .inr (7, [.ref h0, .int p4, .int p5, w6]))] H locs ∧ lv_has ls 6 [(0, .ref h3), (1, .long j0), (3, .int v60_3_0)]) (fun H locs ls st hP => ?_) (fun J_81 => ?_)
            · obtain ⟨rfl, h, hl⟩ := hP
              refine lv_iconst (v := 1) hx hb dX7_whyNot_81 (by decide) ?_
              exact q_iret X hr hlk hK h rfl (fun _ => 0, fun _ _ => 0, fun _ _ => 0) ⟨⟨by decide +kernel, by decide +kernel⟩, trivial⟩ [0, 1, 2, 3] rfl rfl dX7_whyNot_82 (Nat.le_of_ble_eq_true rfl) (Nat.le_of_ble_eq_true rfl)
            · skip
              refine lv_if_lt (tgt := 81) hx hb dX7_whyNot_70 (by decide) (fun c_19 => ?_) (fun c_19 => ?_)
              · replace c_19 := j_lt (x := j0) (y := 200) rfl (show (200 : Int64).toInt = 200 by decide) c_19
                exact J_81 _ _ _ _ ⟨rfl, h, (lv_sub hl_4 [1, 2, 0] rfl)⟩
              · replace c_19 := j_nlt (x := j0) (y := 200) rfl (show (200 : Int64).toInt = 200 by decide) c_19
                refine lv_lload_n hx hb dX7_whyNot_73 rfl (lv_at hl_4 2 rfl) ?_
                refine lv_ldc2 hx hb hown (ht _ wm_4_17) dX7_whyNot_74 ?_
                refine W.lcmp hx hb dX7_whyNot_77 ?_
                refine lv_if_lt (tgt := 83) hx hb dX7_whyNot_78 (by decide) (fun c_20 => ?_) (fun c_20 => ?_)
                · replace c_20 := j_lt (x := j0) (y := 210) rfl (show (210 : Int64).toInt = 210 by decide) c_20
                  exact J_83 _ _ _ _ ⟨rfl, h, (lv_sub hl_4 [1, 2, 0] rfl)⟩
                · replace c_20 := j_nlt (x := j0) (y := 210) rfl (show (210 : Int64).toInt = 210 by decide) c_20
                  exact J_81 _ _ _ _ ⟨rfl, h, (lv_sub hl_4 [1, 2, 0] rfl)⟩
      · skip
        refine q_jn (pc2 := 59) (fun H locs ls st => st = [] ∧ qW D (va_A [(h0, .inr (3, [.int p0, .int p1, .int p2, .int p3, w0, w1, w2, w3, .ref h1, .ref h2, w4, w5])), (h1, .inl (cy 1, 10, .inl f0)), (h2, .inl (cy 1, 10, .inl f1)), (h3, .inr (7, [.ref h0, .int p4, .int p5, w6]))] sz) s.heap [(h0, .inr (3, [.int p0, .int p1, .int p2, .int p3, w0, w1, w2, w3, .ref h1, .ref h2, w4, w5])), (h1, .inl (cy 1, 10, .inl f0)), (h2, .inl (cy 1, 10, .inl f1)), (h3, .inr (7, [.ref h0, .int p4, .int p5, w6]))] H locs ∧ lv_has ls 6 [(0, .ref h3), (1, .long j0)]) (fun H locs ls st hP => ?_) (fun J_59 => ?_)
        · obtain ⟨rfl, h, hl⟩ := hP
          refine lv_iconst (v := 0) hx hb dX7_whyNot_59 (by decide) ?_
          exact J_60 _ _ _ _ ⟨0, ⟨by decide +kernel, by decide +kernel⟩, rfl, h, (lv_sub hl [0, 1] rfl)⟩
        · skip
          refine lv_if_lt (tgt := 59) hx hb dX7_whyNot_44 (by decide) (fun c_22 => ?_) (fun c_22 => ?_)
          · replace c_22 := j_lt (x := j0) (y := 100) rfl (show (100 : Int64).toInt = 100 by decide) c_22
            exact J_59 _ _ _ _ ⟨rfl, h, (lv_sub hl [0, 1] rfl)⟩
          · replace c_22 := j_nlt (x := j0) (y := 100) rfl (show (100 : Int64).toInt = 100 by decide) c_22
            refine lv_lload_n hx hb dX7_whyNot_47 rfl (lv_at hl 1 rfl) ?_
            refine lv_ldc2 hx hb hown (ht _ wm_4_15) dX7_whyNot_48 ?_
            refine W.lcmp hx hb dX7_whyNot_51 ?_
            refine lv_if_ge (tgt := 59) hx hb dX7_whyNot_52 (by decide) (fun c_23 => ?_) (fun c_23 => ?_)
            · replace c_23 := j_ge (x := j0) (y := 110) rfl (show (110 : Int64).toInt = 110 by decide) c_23
              exact J_59 _ _ _ _ ⟨rfl, h, (lv_sub hl [0, 1] rfl)⟩
            · replace c_23 := j_nge (x := j0) (y := 110) rfl (show (110 : Int64).toInt = 110 by decide) c_23
              refine lv_iconst (v := 1) hx hb dX7_whyNot_55 (by decide) ?_
              refine lv_goto (tgt := 60) hx hb dX7_whyNot_56 (by decide) ?_
              exact J_60 _ _ _ _ ⟨1, ⟨by decide +kernel, by decide +kernel⟩, rfl, h, (lv_sub hl [0, 1] rfl)⟩
    · skip
      refine lv_if_lt (tgt := 39) hx hb dX7_whyNot_13 (by decide) (fun c_24 => ?_) (fun c_24 => ?_)
      · replace c_24 := j_lt (x := j0) (y := 0) rfl (show (0 : Int64).toInt = 0 by decide) c_24
        exact J_39 _ _ _ _ ⟨rfl, h, (lv_sub hl [0, 1] rfl)⟩
      · replace c_24 := j_nlt (x := j0) (y := 0) rfl (show (0 : Int64).toInt = 0 by decide) c_24
        refine lv_lload_n hx hb dX7_whyNot_16 rfl (lv_at hl 1 rfl) ?_
        refine lv_ldc2 hx hb hown (ht _ wm_4_9) dX7_whyNot_17 ?_
        refine W.lcmp hx hb dX7_whyNot_20 ?_
        refine lv_if_ge (tgt := 39) hx hb dX7_whyNot_21 (by decide) (fun c_25 => ?_) (fun c_25 => ?_)
        · replace c_25 := j_ge (x := j0) (y := 100) rfl (show (100 : Int64).toInt = 100 by decide) c_25
          exact J_39 _ _ _ _ ⟨rfl, h, (lv_sub hl [0, 1] rfl)⟩
        · replace c_25 := j_nge (x := j0) (y := 100) rfl (show (100 : Int64).toInt = 100 by decide) c_25
          refine lv_aload_n hx hb dX7_whyNot_24 rfl (lv_at hl 0 rfl) ?_
          refine lv_lload_n hx hb dX7_whyNot_25 rfl (lv_at hl 1 rfl) ?_
          refine lv_l2i hx hb dX7_whyNot_26 rfl ?_
          obtain ⟨z_26, ez_26, hz_26⟩ := e_l2i (x := j0) rfl (by omega) (by omega)
          refine q_c z_26 ez_26 ?_
          clear ez_26
          refine lv_bipush (v := 10) hx hb dX7_whyNot_27 (by decide) ?_
          refine lv_idiv hx hb dX7_whyNot_29 (by decide) ?_
          obtain ⟨z_27, ez_27, hz_27⟩ := e_div (x := z_26) (y := 10) rfl (show (10 : Int32).toInt = 10 by decide) (by omega) (by omega)
          refine q_c z_27 ez_27 ?_
          clear ez_27
          refine lv_lload_n hx hb dX7_whyNot_30 rfl (lv_at hl 1 rfl) ?_
          refine lv_l2i hx hb dX7_whyNot_31 rfl ?_
          obtain ⟨z_28, ez_28, hz_28⟩ := e_l2i (x := j0) rfl (by omega) (by omega)
          refine q_c z_28 ez_28 ?_
          clear ez_28
          refine lv_bipush (v := 10) hx hb dX7_whyNot_32 (by decide) ?_
          refine lv_irem hx hb dX7_whyNot_34 (by decide) ?_
          obtain ⟨z_29, ez_29, hz_29⟩ := e_rem (x := z_28) (y := 10) rfl (show (10 : Int32).toInt = 10 by decide) (by omega) (by omega)
          refine q_c z_29 ez_29 ?_
          clear ez_29
          refine q_callVi (rest := []) (wr := []) X hK hA h (fun sz => gX7_whyNoTalk_118 l D cy h0 h1 h2 h3 z_27 z_29 p0 p1 p2 p3 w0 w1 w2 w3 w4 w5 f0 f1 p4 p5 w6 ⟨by omega, by omega⟩ ⟨by omega, by omega⟩ ⟨by omega, by omega⟩ ⟨by omega, by omega⟩ ⟨by omega, by omega⟩ ⟨by omega, by omega⟩ ⟨by omega, by omega⟩ ⟨by omega, by omega⟩ (rg_wide rf0 (by decide) (by decide)) (rg_wide rf1 (by decide) (by decide)) sz) wm_4_10 wm_4_13 wm_1_9 hd_X7_whyNoTalk wm_4_12 wp_2_13 (ci := 7) (q0 := 3) rfl rfl ⟨Nat.le_of_ble_eq_true rfl, Nat.le_of_ble_eq_true rfl⟩ hl.1 rfl (Nat.le_of_ble_eq_true rfl) dX7_whyNot_35 ⟨Nat.le_of_ble_eq_true rfl, Nat.le_of_ble_eq_true rfl⟩ [0, 1, 2, 3] [] rfl rfl (by decide) rfl rfl (fun r_30 u_30 H locs w_30 h_30 => ?_)
          clear h
          obtain ⟨wr_30, _⟩ := w_30
          replace h_30 : qW D _ _ [(h0, .inr (3, [.int p0, .int p1, .int p2, .int p3, w0, w1, w2, w3, .ref h1, .ref h2, w4, w5])), (h1, .inl (cy 1, 10, .inl f0)), (h2, .inl (cy 1, 10, .inl f1)), (h3, .inr (7, [.ref h0, .int p4, .int p5, w6]))] _ _ := h_30
          exact q_iret X hr hlk hK h_30 rfl (fun _ => 0, fun _ _ => 0, fun _ _ => 0) ⟨⟨by omega, by omega⟩, trivial⟩ [0, 1, 2, 3] rfl rfl dX7_whyNot_38 (Nat.le_of_ble_eq_true rfl) (Nat.le_of_ble_eq_true rfl)
  · replace c_1 := j_eq (x := j0) (y := (-1)) rfl (show ((-1) : Int64).toInt = -1 by decide) c_1
    refine lv_iconst (v := 0) hx hb dX7_whyNot_8 (by decide) ?_
    exact q_iret X hr hlk hK h rfl (fun _ => 0, fun _ _ => 0, fun _ _ => 0) ⟨⟨by decide +kernel, by decide +kernel⟩, trivial⟩ [0, 1, 2, 3] rfl rfl dX7_whyNot_9 (Nat.le_of_ble_eq_true rfl) (Nat.le_of_ble_eq_true rfl)
set_option maxHeartbeats 4000000 in
set_option maxRecDepth 100000 in
theorem gX6_put_120 (l : Launch) (D : va_G) (cy : Nat → ClassId) (h0 : Nat) (h1 : Nat) (p0 : Int32) (p1 : Int32) (p2 : Int32) (w0 : Value) (f0 : Nat → Int32) (hp0 : 0 ≤ (p0).toInt ∧ (p0).toInt ≤ 4) (hp1 : 0 ≤ (p1).toInt ∧ (p1).toInt ≤ 999) (hp2 : (-1) ≤ (p2).toInt ∧ (p2).toInt ≤ 9) (sz : Nat) : MV l yX6_put cX6_put 4 { frames := 0, cells := 0, slots := 0, locals := 0 } [.ref h0, .int p0, .int p1, .int p2] D cy [(h0, .inr (6, [.ref h1, w0])), (h1, .inl (cy 1, 11, .inl f0))] sz (fun u => True) (fun u => [(h0, .inr (6, [.ref h1, w0])), (h1, .inl (cy 1, 11, .inl (u.2.1 0)))]) 0 0 := by
  refine q_ent (own := RX6) (by decide) rfl (Nat.le_of_ble_eq_true rfl) (fun p e s m below meth c ls X hr hlk hnm hK h hA hl => ?_)
  obtain ⟨hx, hb, hml, hown, ht⟩ := id X
  replace hl : lv_has ls 4 [(0, .ref h0), (1, .int p0), (2, .int p1), (3, .int p2)] := hl
  refine lv_aload_n hx hb dX6_put_0 rfl (lv_at hl 0 rfl) ?_
  refine q_get X hK h 0 rfl rfl wf_6 0 (by decide) rfl wm_1_184 dX6_put_1 ?_
  refine lv_iload_n hx hb dX6_put_4 rfl (lv_at hl 1 rfl) ?_
  refine lv_iload_n hx hb dX6_put_5 rfl (lv_at hl 2 rfl) ?_
  refine lv_bipush (v := 100) hx hb dX6_put_6 (by decide) ?_
  refine lv_idiv hx hb dX6_put_8 (by decide) ?_
  obtain ⟨z_1, ez_1, hz_1⟩ := e_div (x := p1) (y := 100) rfl (show (100 : Int32).toInt = 100 by decide) (by omega) (by omega)
  refine q_c z_1 ez_1 ?_
  clear ez_1
  refine q_iast X hK h 1 rfl (i_in rfl (by omega) (by omega)) dX6_put_9 (fun H locs h_3 => ?_)
  clear h
  replace h_3 : qW D _ _ [(h0, .inr (6, [.ref h1, w0])), (h1, .inl (cy 1, 11, .inl (upd f0 (Int32.toNatClampNeg p0) z_1)))] _ _ := h_3
  obtain ⟨F_2, eF_2⟩ : ∃ z, (upd f0 (Int32.toNatClampNeg p0) z_1) = z := ⟨_, rfl⟩
  rw [eF_2] at h_3
  clear eF_2
  refine lv_aload_n hx hb dX6_put_10 rfl (lv_at hl 0 rfl) ?_
  refine q_get X hK h_3 0 rfl rfl wf_6 0 (by decide) rfl wm_1_184 dX6_put_11 ?_
  refine lv_iload_n hx hb dX6_put_14 rfl (lv_at hl 1 rfl) ?_
  refine lv_iconst (v := 1) hx hb dX6_put_15 (by decide) ?_
  refine lv_iadd hx hb dX6_put_16 ?_
  obtain ⟨z_4, ez_4, hz_4⟩ := e_add (x := p0) (y := 1) rfl (show (1 : Int32).toInt = 1 by decide) (by omega) (by omega)
  refine q_c z_4 ez_4 ?_
  clear ez_4
  refine lv_iload_n hx hb dX6_put_17 rfl (lv_at hl 2 rfl) ?_
  refine lv_bipush (v := 10) hx hb dX6_put_18 (by decide) ?_
  refine lv_idiv hx hb dX6_put_20 (by decide) ?_
  obtain ⟨z_5, ez_5, hz_5⟩ := e_div (x := p1) (y := 10) rfl (show (10 : Int32).toInt = 10 by decide) (by omega) (by omega)
  refine q_c z_5 ez_5 ?_
  clear ez_5
  refine lv_bipush (v := 10) hx hb dX6_put_21 (by decide) ?_
  refine lv_irem hx hb dX6_put_23 (by decide) ?_
  obtain ⟨z_6, ez_6, hz_6⟩ := e_rem (x := z_5) (y := 10) rfl (show (10 : Int32).toInt = 10 by decide) (by omega) (by omega)
  refine q_c z_6 ez_6 ?_
  clear ez_6
  refine q_iast X hK h_3 1 rfl (i_in rfl (by omega) (by omega)) dX6_put_24 (fun H locs h_8 => ?_)
  clear h_3
  replace h_8 : qW D _ _ [(h0, .inr (6, [.ref h1, w0])), (h1, .inl (cy 1, 11, .inl (upd F_2 (Int32.toNatClampNeg z_4) z_6)))] _ _ := h_8
  obtain ⟨F_7, eF_7⟩ : ∃ z, (upd F_2 (Int32.toNatClampNeg z_4) z_6) = z := ⟨_, rfl⟩
  rw [eF_7] at h_8
  clear eF_7
  refine lv_aload_n hx hb dX6_put_25 rfl (lv_at hl 0 rfl) ?_
  refine q_get X hK h_8 0 rfl rfl wf_6 0 (by decide) rfl wm_1_184 dX6_put_26 ?_
  refine lv_iload_n hx hb dX6_put_29 rfl (lv_at hl 1 rfl) ?_
  refine lv_iconst (v := 2) hx hb dX6_put_30 (by decide) ?_
  refine lv_iadd hx hb dX6_put_31 ?_
  obtain ⟨z_9, ez_9, hz_9⟩ := e_add (x := p0) (y := 2) rfl (show (2 : Int32).toInt = 2 by decide) (by omega) (by omega)
  refine q_c z_9 ez_9 ?_
  clear ez_9
  refine lv_iload_n hx hb dX6_put_32 rfl (lv_at hl 2 rfl) ?_
  refine lv_bipush (v := 10) hx hb dX6_put_33 (by decide) ?_
  refine lv_irem hx hb dX6_put_35 (by decide) ?_
  obtain ⟨z_10, ez_10, hz_10⟩ := e_rem (x := p1) (y := 10) rfl (show (10 : Int32).toInt = 10 by decide) (by omega) (by omega)
  refine q_c z_10 ez_10 ?_
  clear ez_10
  refine q_iast X hK h_8 1 rfl (i_in rfl (by omega) (by omega)) dX6_put_36 (fun H locs h_12 => ?_)
  clear h_8
  replace h_12 : qW D _ _ [(h0, .inr (6, [.ref h1, w0])), (h1, .inl (cy 1, 11, .inl (upd F_7 (Int32.toNatClampNeg z_9) z_10)))] _ _ := h_12
  obtain ⟨F_11, eF_11⟩ : ∃ z, (upd F_7 (Int32.toNatClampNeg z_9) z_10) = z := ⟨_, rfl⟩
  rw [eF_11] at h_12
  clear eF_11
  refine lv_aload_n hx hb dX6_put_37 rfl (lv_at hl 0 rfl) ?_
  refine q_get X hK h_12 0 rfl rfl wf_6 0 (by decide) rfl wm_1_184 dX6_put_38 ?_
  refine lv_iload_n hx hb dX6_put_41 rfl (lv_at hl 1 rfl) ?_
  refine lv_iconst (v := 3) hx hb dX6_put_42 (by decide) ?_
  refine lv_iadd hx hb dX6_put_43 ?_
  obtain ⟨z_13, ez_13, hz_13⟩ := e_add (x := p0) (y := 3) rfl (show (3 : Int32).toInt = 3 by decide) (by omega) (by omega)
  refine q_c z_13 ez_13 ?_
  clear ez_13
  refine lv_iload_n hx hb dX6_put_44 rfl (lv_at hl 3 rfl) ?_
  refine q_iast X hK h_12 1 rfl (i_in rfl (by omega) (by omega)) dX6_put_45 (fun H locs h_15 => ?_)
  clear h_12
  replace h_15 : qW D _ _ [(h0, .inr (6, [.ref h1, w0])), (h1, .inl (cy 1, 11, .inl (upd F_11 (Int32.toNatClampNeg z_13) p2)))] _ _ := h_15
  obtain ⟨F_14, eF_14⟩ : ∃ z, (upd F_11 (Int32.toNatClampNeg z_13) p2) = z := ⟨_, rfl⟩
  rw [eF_14] at h_15
  clear eF_14
  exact q_vret X hr hlk hK h_15 (fun _ => 0, fun k => List.getD [F_14] k (fun _ => 0), fun _ _ => 0) trivial [0, 1] rfl rfl dX6_put_46 (Nat.le_of_ble_eq_true rfl) (Nat.le_of_ble_eq_true rfl)
set_option maxHeartbeats 4000000 in
set_option maxRecDepth 100000 in
theorem gX6_opposesOneWay_121 (l : Launch) (D : va_G) (cy : Nat → ClassId) (h0 : Nat) (h1 : Nat) (h2 : Nat) (h3 : Nat) (h4 : Nat) (p0 : Int32) (p1 : Int32) (p2 : Int32) (p3 : Int32) (f0 : Nat → Int32) (f1 : Nat → Int32) (f2 : Nat → Int32) (hp0 : (-1) ≤ (p0).toInt ∧ (p0).toInt ≤ 9) (hp1 : 0 ≤ (p1).toInt ∧ (p1).toInt ≤ 999) (hp2 : 0 ≤ (p2).toInt ∧ (p2).toInt ≤ 9) (hp3 : 0 ≤ (p3).toInt ∧ (p3).toInt ≤ 999) (rf0 : RG f0 300 0 2062) (sz : Nat) : MI l yX6_opposesOneWay cX6_opposesOneWay 6 .boolean { frames := 3, cells := 0, slots := 0, locals := 67 } [.ref h2, .ref h0, .int p0, .int p1, .int p2, .int p3] D cy [(h0, .inr (4, [.ref h1])), (h1, .inl (cy 1, 300, .inl f0)), (h2, .inr (6, [.ref h3, .ref h4])), (h3, .inl (cy 1, 11, .inl f1)), (h4, .inl (cy 1, 64, .inl f2))] sz (fun r u => (0 ≤ r.toInt ∧ r.toInt ≤ 1) ∧ True) (fun u => [(h0, .inr (4, [.ref h1])), (h1, .inl (cy 1, 300, .inl f0)), (h2, .inr (6, [.ref h3, .ref h4])), (h3, .inl (cy 1, 11, .inl (u.2.1 1))), (h4, .inl (cy 1, 64, .inl (u.2.1 0)))]) 0 0 := by
  refine q_ent (own := RX6) (by decide) rfl (Nat.le_of_ble_eq_true rfl) (fun p e s m below meth c ls X hr hlk hnm hK h hA hl => ?_)
  obtain ⟨hx, hb, hml, hown, ht⟩ := id X
  replace hl : lv_has ls 6 [(0, .ref h2), (1, .ref h0), (2, .int p0), (3, .int p1), (4, .int p2), (5, .int p3)] := hl
  refine lv_aload_n hx hb dX6_opposesOneWay_0 rfl (lv_at hl 0 rfl) ?_
  refine lv_iconst (v := 0) hx hb dX6_opposesOneWay_1 (by decide) ?_
  refine lv_iload_n hx hb dX6_opposesOneWay_2 rfl (lv_at hl 3 rfl) ?_
  refine lv_iload_n hx hb dX6_opposesOneWay_3 rfl (lv_at hl 2 rfl) ?_
  refine q_callVv (rest := []) (wr := [(h0, .inr (4, [.ref h1])), (h1, .inl (cy 1, 300, .inl f0)), (h4, .inl (cy 1, 64, .inl f2))]) X hK hA h (fun sz => gX6_put_120 l D cy h2 h3 (0 : Int32) p1 p0 (.ref h4) f1 ⟨by decide +kernel, by decide +kernel⟩ ⟨by omega, by omega⟩ ⟨by omega, by omega⟩ sz) wm_3_204 wm_3_207 wm_1_5 hd_X6_put wm_3_206 wp_2_10 (ci := 6) (q0 := 0) rfl rfl ⟨Nat.le_of_ble_eq_true rfl, Nat.le_of_ble_eq_true rfl⟩ hl.1 rfl (Nat.le_of_ble_eq_true rfl) dX6_opposesOneWay_4 ⟨Nat.le_of_ble_eq_true rfl, Nat.le_of_ble_eq_true rfl⟩ [2, 3] [0, 1, 4] rfl rfl (by decide) rfl rfl (fun u_1 H locs w_1 h_1 => ?_)
  clear h
  clear w_1
  replace h_1 : qW D _ _ [(h0, .inr (4, [.ref h1])), (h1, .inl (cy 1, 300, .inl f0)), (h4, .inl (cy 1, 64, .inl f2)), (h2, .inr (6, [.ref h3, .ref h4])), (h3, .inl (cy 1, 11, .inl (u_1.2.1 0)))] _ _ := h_1
  refine lv_aload_n hx hb dX6_opposesOneWay_7 rfl (lv_at hl 0 rfl) ?_
  refine lv_iconst (v := 4) hx hb dX6_opposesOneWay_8 (by decide) ?_
  refine lv_iload hx hb dX6_opposesOneWay_9 (lv_at hl 5 rfl) ?_
  refine lv_iload hx hb dX6_opposesOneWay_11 (lv_at hl 4 rfl) ?_
  refine q_callVv (rest := []) (wr := [(h0, .inr (4, [.ref h1])), (h1, .inl (cy 1, 300, .inl f0)), (h4, .inl (cy 1, 64, .inl f2))]) X hK hA h_1 (fun sz => gX6_put_10 l D cy h2 h3 (4 : Int32) p3 p2 (.ref h4) (u_1.2.1 0) ⟨by decide +kernel, by decide +kernel⟩ ⟨by omega, by omega⟩ ⟨by omega, by omega⟩ sz) wm_3_204 wm_3_207 wm_1_5 hd_X6_put wm_3_206 wp_2_10 (ci := 6) (q0 := 0) rfl rfl ⟨Nat.le_of_ble_eq_true rfl, Nat.le_of_ble_eq_true rfl⟩ hl.1 rfl (Nat.le_of_ble_eq_true rfl) dX6_opposesOneWay_13 ⟨Nat.le_of_ble_eq_true rfl, Nat.le_of_ble_eq_true rfl⟩ [3, 4] [0, 1, 2] rfl rfl (by decide) rfl rfl (fun u_2 H locs w_2 h_2 => ?_)
  clear h_1
  clear w_2
  replace h_2 : qW D _ _ [(h0, .inr (4, [.ref h1])), (h1, .inl (cy 1, 300, .inl f0)), (h4, .inl (cy 1, 64, .inl f2)), (h2, .inr (6, [.ref h3, .ref h4])), (h3, .inl (cy 1, 11, .inl (u_2.2.1 0)))] _ _ := h_2
  refine lv_aload_n hx hb dX6_opposesOneWay_16 rfl (lv_at hl 1 rfl) ?_
  refine lv_aload_n hx hb dX6_opposesOneWay_17 rfl (lv_at hl 0 rfl) ?_
  refine q_get X hK h_2 3 rfl rfl wf_6 0 (by decide) rfl wm_1_184 dX6_opposesOneWay_18 ?_
  refine lv_aload_n hx hb dX6_opposesOneWay_21 rfl (lv_at hl 0 rfl) ?_
  refine q_get X hK h_2 3 rfl rfl wf_6 1 (by decide) rfl wm_1_185 dX6_opposesOneWay_22 ?_
  refine q_callVi (rest := []) (wr := [(h2, .inr (6, [.ref h3, .ref h4]))]) X hK hA h_2 (fun sz => gX4_valueFor_108 l D cy h0 h1 h4 h3 f0 f2 (u_2.2.1 0) (rg_wide rf0 (by decide) (by decide)) sz) wm_3_208 wm_3_211 wm_1_19 hd_X4_valueFor wm_3_209 wm_3_210 (ci := 4) (q0 := 0) rfl rfl ⟨Nat.le_of_ble_eq_true rfl, Nat.le_of_ble_eq_true rfl⟩ hl.1 rfl (Nat.le_of_ble_eq_true rfl) dX6_opposesOneWay_25 ⟨Nat.le_of_ble_eq_true rfl, Nat.le_of_ble_eq_true rfl⟩ [0, 1, 2, 4] [3] rfl rfl (by decide) rfl rfl (fun r_3 u_3 H locs w_3 h_3 => ?_)
  clear h_2
  obtain ⟨wr_3, _⟩ := w_3
  replace h_3 : qW D _ _ [(h2, .inr (6, [.ref h3, .ref h4])), (h0, .inr (4, [.ref h1])), (h1, .inl (cy 1, 300, .inl f0)), (h4, .inl (cy 1, 64, .inl (u_3.2.1 0))), (h3, .inl (cy 1, 11, .inl (u_2.2.1 0)))] _ _ := h_3
  refine q_jn (pc2 := 36) (fun H locs ls st => ∃ v36_4_0 : Int32, (0 ≤ (v36_4_0).toInt ∧ (v36_4_0).toInt ≤ 1) ∧ st = [.int v36_4_0] ∧ qW D (va_A [(h0, .inr (4, [.ref h1])), (h1, .inl (cy 1, 300, .inl f0)), (h2, .inr (6, [.ref h3, .ref h4])), (h3, .inl (cy 1, 11, .inl f1)), (h4, .inl (cy 1, 64, .inl f2))] sz) s.heap [(h2, .inr (6, [.ref h3, .ref h4])), (h0, .inr (4, [.ref h1])), (h1, .inl (cy 1, 300, .inl f0)), (h4, .inl (cy 1, 64, .inl (u_3.2.1 0))), (h3, .inl (cy 1, 11, .inl (u_2.2.1 0)))] H locs ∧ lv_has ls 6 [(0, .ref h2), (1, .ref h0), (2, .int p0), (3, .int p1), (4, .int p2), (5, .int p3)]) (fun H locs ls st hP => ?_) (fun J_36 => ?_)
  · obtain ⟨v36_4_0, hv36_4_0, rfl, h, hl⟩ := hP
    exact q_iret X hr hlk hK h (q_nz (by omega) (by omega)) (fun _ => 0, fun k => List.getD [(u_3.2.1 0), (u_2.2.1 0)] k (fun _ => 0), fun _ _ => 0) ⟨⟨by omega, by omega⟩, trivial⟩ [1, 2, 0, 4, 3] rfl rfl dX6_opposesOneWay_36 (Nat.le_of_ble_eq_true rfl) (Nat.le_of_ble_eq_true rfl)
  · skip
    refine lv_if_eq (tgt := 35) hx hb dX6_opposesOneWay_28 (by decide) (fun c_5 => ?_) (fun c_5 => ?_)
    · replace c_5 := i_eq (x := r_3) (y := 0) rfl (show (0 : Int32).toInt = 0 by decide) c_5
      refine lv_iconst (v := 0) hx hb dX6_opposesOneWay_35 (by decide) ?_
      exact J_36 _ _ _ _ ⟨0, ⟨by decide +kernel, by decide +kernel⟩, rfl, h_3, (lv_sub hl [0, 1, 2, 3, 4, 5] rfl)⟩
    · replace c_5 := i_ne (x := r_3) (y := 0) rfl (show (0 : Int32).toInt = 0 by decide) c_5
      refine lv_iconst (v := 1) hx hb dX6_opposesOneWay_31 (by decide) ?_
      refine lv_goto (tgt := 36) hx hb dX6_opposesOneWay_32 (by decide) ?_
      exact J_36 _ _ _ _ ⟨1, ⟨by decide +kernel, by decide +kernel⟩, rfl, h_3, (lv_sub hl [0, 1, 2, 3, 4, 5] rfl)⟩
set_option maxHeartbeats 4000000 in
set_option maxRecDepth 100000 in
theorem gX6_opposesOneWay_122 (l : Launch) (D : va_G) (cy : Nat → ClassId) (h0 : Nat) (h1 : Nat) (h2 : Nat) (h3 : Nat) (h4 : Nat) (p0 : Int32) (p1 : Int32) (p2 : Int32) (p3 : Int32) (f0 : Nat → Int32) (f1 : Nat → Int32) (f2 : Nat → Int32) (hp0 : (-1) ≤ (p0).toInt ∧ (p0).toInt ≤ 9) (hp1 : 0 ≤ (p1).toInt ∧ (p1).toInt ≤ 999) (hp2 : (-1) ≤ (p2).toInt ∧ (p2).toInt ≤ 9) (hp3 : 0 ≤ (p3).toInt ∧ (p3).toInt ≤ 999) (rf0 : RG f0 300 0 2062) (sz : Nat) : MI l yX6_opposesOneWay cX6_opposesOneWay 6 .boolean { frames := 3, cells := 0, slots := 0, locals := 67 } [.ref h2, .ref h0, .int p0, .int p1, .int p2, .int p3] D cy [(h0, .inr (4, [.ref h1])), (h1, .inl (cy 1, 300, .inl f0)), (h2, .inr (6, [.ref h3, .ref h4])), (h3, .inl (cy 1, 11, .inl f1)), (h4, .inl (cy 1, 64, .inl f2))] sz (fun r u => (0 ≤ r.toInt ∧ r.toInt ≤ 1) ∧ True) (fun u => [(h0, .inr (4, [.ref h1])), (h1, .inl (cy 1, 300, .inl f0)), (h2, .inr (6, [.ref h3, .ref h4])), (h3, .inl (cy 1, 11, .inl (u.2.1 1))), (h4, .inl (cy 1, 64, .inl (u.2.1 0)))]) 0 0 := by
  refine q_ent (own := RX6) (by decide) rfl (Nat.le_of_ble_eq_true rfl) (fun p e s m below meth c ls X hr hlk hnm hK h hA hl => ?_)
  obtain ⟨hx, hb, hml, hown, ht⟩ := id X
  replace hl : lv_has ls 6 [(0, .ref h2), (1, .ref h0), (2, .int p0), (3, .int p1), (4, .int p2), (5, .int p3)] := hl
  refine lv_aload_n hx hb dX6_opposesOneWay_0 rfl (lv_at hl 0 rfl) ?_
  refine lv_iconst (v := 0) hx hb dX6_opposesOneWay_1 (by decide) ?_
  refine lv_iload_n hx hb dX6_opposesOneWay_2 rfl (lv_at hl 3 rfl) ?_
  refine lv_iload_n hx hb dX6_opposesOneWay_3 rfl (lv_at hl 2 rfl) ?_
  refine q_callVv (rest := []) (wr := [(h0, .inr (4, [.ref h1])), (h1, .inl (cy 1, 300, .inl f0)), (h4, .inl (cy 1, 64, .inl f2))]) X hK hA h (fun sz => gX6_put_120 l D cy h2 h3 (0 : Int32) p1 p0 (.ref h4) f1 ⟨by decide +kernel, by decide +kernel⟩ ⟨by omega, by omega⟩ ⟨by omega, by omega⟩ sz) wm_3_204 wm_3_207 wm_1_5 hd_X6_put wm_3_206 wp_2_10 (ci := 6) (q0 := 0) rfl rfl ⟨Nat.le_of_ble_eq_true rfl, Nat.le_of_ble_eq_true rfl⟩ hl.1 rfl (Nat.le_of_ble_eq_true rfl) dX6_opposesOneWay_4 ⟨Nat.le_of_ble_eq_true rfl, Nat.le_of_ble_eq_true rfl⟩ [2, 3] [0, 1, 4] rfl rfl (by decide) rfl rfl (fun u_1 H locs w_1 h_1 => ?_)
  clear h
  clear w_1
  replace h_1 : qW D _ _ [(h0, .inr (4, [.ref h1])), (h1, .inl (cy 1, 300, .inl f0)), (h4, .inl (cy 1, 64, .inl f2)), (h2, .inr (6, [.ref h3, .ref h4])), (h3, .inl (cy 1, 11, .inl (u_1.2.1 0)))] _ _ := h_1
  refine lv_aload_n hx hb dX6_opposesOneWay_7 rfl (lv_at hl 0 rfl) ?_
  refine lv_iconst (v := 4) hx hb dX6_opposesOneWay_8 (by decide) ?_
  refine lv_iload hx hb dX6_opposesOneWay_9 (lv_at hl 5 rfl) ?_
  refine lv_iload hx hb dX6_opposesOneWay_11 (lv_at hl 4 rfl) ?_
  refine q_callVv (rest := []) (wr := [(h0, .inr (4, [.ref h1])), (h1, .inl (cy 1, 300, .inl f0)), (h4, .inl (cy 1, 64, .inl f2))]) X hK hA h_1 (fun sz => gX6_put_120 l D cy h2 h3 (4 : Int32) p3 p2 (.ref h4) (u_1.2.1 0) ⟨by decide +kernel, by decide +kernel⟩ ⟨by omega, by omega⟩ ⟨by omega, by omega⟩ sz) wm_3_204 wm_3_207 wm_1_5 hd_X6_put wm_3_206 wp_2_10 (ci := 6) (q0 := 0) rfl rfl ⟨Nat.le_of_ble_eq_true rfl, Nat.le_of_ble_eq_true rfl⟩ hl.1 rfl (Nat.le_of_ble_eq_true rfl) dX6_opposesOneWay_13 ⟨Nat.le_of_ble_eq_true rfl, Nat.le_of_ble_eq_true rfl⟩ [3, 4] [0, 1, 2] rfl rfl (by decide) rfl rfl (fun u_2 H locs w_2 h_2 => ?_)
  clear h_1
  clear w_2
  replace h_2 : qW D _ _ [(h0, .inr (4, [.ref h1])), (h1, .inl (cy 1, 300, .inl f0)), (h4, .inl (cy 1, 64, .inl f2)), (h2, .inr (6, [.ref h3, .ref h4])), (h3, .inl (cy 1, 11, .inl (u_2.2.1 0)))] _ _ := h_2
  refine lv_aload_n hx hb dX6_opposesOneWay_16 rfl (lv_at hl 1 rfl) ?_
  refine lv_aload_n hx hb dX6_opposesOneWay_17 rfl (lv_at hl 0 rfl) ?_
  refine q_get X hK h_2 3 rfl rfl wf_6 0 (by decide) rfl wm_1_184 dX6_opposesOneWay_18 ?_
  refine lv_aload_n hx hb dX6_opposesOneWay_21 rfl (lv_at hl 0 rfl) ?_
  refine q_get X hK h_2 3 rfl rfl wf_6 1 (by decide) rfl wm_1_185 dX6_opposesOneWay_22 ?_
  refine q_callVi (rest := []) (wr := [(h2, .inr (6, [.ref h3, .ref h4]))]) X hK hA h_2 (fun sz => gX4_valueFor_108 l D cy h0 h1 h4 h3 f0 f2 (u_2.2.1 0) (rg_wide rf0 (by decide) (by decide)) sz) wm_3_208 wm_3_211 wm_1_19 hd_X4_valueFor wm_3_209 wm_3_210 (ci := 4) (q0 := 0) rfl rfl ⟨Nat.le_of_ble_eq_true rfl, Nat.le_of_ble_eq_true rfl⟩ hl.1 rfl (Nat.le_of_ble_eq_true rfl) dX6_opposesOneWay_25 ⟨Nat.le_of_ble_eq_true rfl, Nat.le_of_ble_eq_true rfl⟩ [0, 1, 2, 4] [3] rfl rfl (by decide) rfl rfl (fun r_3 u_3 H locs w_3 h_3 => ?_)
  clear h_2
  obtain ⟨wr_3, _⟩ := w_3
  replace h_3 : qW D _ _ [(h2, .inr (6, [.ref h3, .ref h4])), (h0, .inr (4, [.ref h1])), (h1, .inl (cy 1, 300, .inl f0)), (h4, .inl (cy 1, 64, .inl (u_3.2.1 0))), (h3, .inl (cy 1, 11, .inl (u_2.2.1 0)))] _ _ := h_3
  refine q_jn (pc2 := 36) (fun H locs ls st => ∃ v36_4_0 : Int32, (0 ≤ (v36_4_0).toInt ∧ (v36_4_0).toInt ≤ 1) ∧ st = [.int v36_4_0] ∧ qW D (va_A [(h0, .inr (4, [.ref h1])), (h1, .inl (cy 1, 300, .inl f0)), (h2, .inr (6, [.ref h3, .ref h4])), (h3, .inl (cy 1, 11, .inl f1)), (h4, .inl (cy 1, 64, .inl f2))] sz) s.heap [(h2, .inr (6, [.ref h3, .ref h4])), (h0, .inr (4, [.ref h1])), (h1, .inl (cy 1, 300, .inl f0)), (h4, .inl (cy 1, 64, .inl (u_3.2.1 0))), (h3, .inl (cy 1, 11, .inl (u_2.2.1 0)))] H locs ∧ lv_has ls 6 [(0, .ref h2), (1, .ref h0), (2, .int p0), (3, .int p1), (4, .int p2), (5, .int p3)]) (fun H locs ls st hP => ?_) (fun J_36 => ?_)
  · obtain ⟨v36_4_0, hv36_4_0, rfl, h, hl⟩ := hP
    exact q_iret X hr hlk hK h (q_nz (by omega) (by omega)) (fun _ => 0, fun k => List.getD [(u_3.2.1 0), (u_2.2.1 0)] k (fun _ => 0), fun _ _ => 0) ⟨⟨by omega, by omega⟩, trivial⟩ [1, 2, 0, 4, 3] rfl rfl dX6_opposesOneWay_36 (Nat.le_of_ble_eq_true rfl) (Nat.le_of_ble_eq_true rfl)
  · skip
    refine lv_if_eq (tgt := 35) hx hb dX6_opposesOneWay_28 (by decide) (fun c_5 => ?_) (fun c_5 => ?_)
    · replace c_5 := i_eq (x := r_3) (y := 0) rfl (show (0 : Int32).toInt = 0 by decide) c_5
      refine lv_iconst (v := 0) hx hb dX6_opposesOneWay_35 (by decide) ?_
      exact J_36 _ _ _ _ ⟨0, ⟨by decide +kernel, by decide +kernel⟩, rfl, h_3, (lv_sub hl [0, 1, 2, 3, 4, 5] rfl)⟩
    · replace c_5 := i_ne (x := r_3) (y := 0) rfl (show (0 : Int32).toInt = 0 by decide) c_5
      refine lv_iconst (v := 1) hx hb dX6_opposesOneWay_31 (by decide) ?_
      refine lv_goto (tgt := 36) hx hb dX6_opposesOneWay_32 (by decide) ?_
      exact J_36 _ _ _ _ ⟨1, ⟨by decide +kernel, by decide +kernel⟩, rfl, h_3, (lv_sub hl [0, 1, 2, 3, 4, 5] rfl)⟩
set_option maxHeartbeats 4000000 in
set_option maxRecDepth 100000 in
theorem gX6_areOpposites_137 (l : Launch) (D : va_G) (cy : Nat → ClassId) (h0 : Nat) (h1 : Nat) (h2 : Nat) (h3 : Nat) (h4 : Nat) (h5 : Nat) (h6 : Nat) (h7 : Nat) (p0 : Int32) (p1 : Int32) (p2 : Int32) (p3 : Int32) (f0 : Nat → Int32) (f1 : Nat → Int32) (f2 : Nat → Int32) (f3 : Nat → Int32) (p4 : Int32) (p5 : Int32) (p6 : Int32) (p7 : Int32) (w0 : Value) (w1 : Value) (w2 : Value) (w3 : Value) (w4 : Value) (w5 : Value) (w6 : Value) (p8 : Int32) (hp0 : (-1) ≤ (p0).toInt ∧ (p0).toInt ≤ 9) (hp1 : 0 ≤ (p1).toInt ∧ (p1).toInt ≤ 999) (hp2 : 0 ≤ (p2).toInt ∧ (p2).toInt ≤ 9) (hp3 : 0 ≤ (p3).toInt ∧ (p3).toInt ≤ 60000) (hp4 : 1 ≤ (p4).toInt ∧ (p4).toInt ≤ 3) (hp5 : 1 ≤ (p5).toInt ∧ (p5).toInt ≤ 10) (hp6 : 0 ≤ (p6).toInt ∧ (p6).toInt ≤ 920) (hp7 : 0 ≤ (p7).toInt ∧ (p7).toInt ≤ 999) (hp8 : 0 ≤ (p8).toInt ∧ (p8).toInt ≤ 1023) (rf0 : RG f0 300 0 2062) (rf1 : RG f1 10 0 999) (sz : Nat) : MI l yX6_areOpposites cX6_areOpposites 8 .boolean { frames := 4, cells := 0, slots := 0, locals := 92 } [.ref h3, .ref h7, .int p0, .int p1, .int p2, .int p3] D cy [(h0, .inr (4, [.ref h1])), (h1, .inl (cy 1, 300, .inl f0)), (h2, .inl (cy 1, 10, .inl f1)), (h3, .inr (6, [.ref h4, .ref h5])), (h4, .inl (cy 1, 11, .inl f2)), (h5, .inl (cy 1, 64, .inl f3)), (h6, .inr (3, [.int p4, .int p5, .int p6, .int p7, .ref h0, w0, w1, w2, w3, w4, w5, w6])), (h7, .inr (7, [.ref h6, .int p3, .int p8, .ref h2]))] sz (fun r u => (0 ≤ r.toInt ∧ r.toInt ≤ 1) ∧ True) (fun u => [(h0, .inr (4, [.ref h1])), (h1, .inl (cy 1, 300, .inl f0)), (h2, .inl (cy 1, 10, .inl f1)), (h3, .inr (6, [.ref h4, .ref h5])), (h4, .inl (cy 1, 11, .inl (u.2.1 0))), (h5, .inl (cy 1, 64, .inl (u.2.1 1))), (h6, .inr (3, [.int p4, .int p5, .int p6, .int p7, .ref h0, w0, w1, w2, w3, w4, w5, w6])), (h7, .inr (7, [.ref h6, .int p3, .int p8, .ref h2]))]) 0 0 := by
  refine q_ent (own := RX6) (by decide) rfl (Nat.le_of_ble_eq_true rfl) (fun p e s m below meth c ls X hr hlk hnm hK h hA hl => ?_)
  obtain ⟨hx, hb, hml, hown, ht⟩ := id X
  replace hl : lv_has ls 8 [(0, .ref h3), (1, .ref h7), (2, .int p0), (3, .int p1), (4, .int p2), (5, .int p3)] := hl
  refine lv_aload_n hx hb dX6_areOpposites_0 rfl (lv_at hl 1 rfl) ?_
  refine q_get X hK h 7 rfl rfl wf_7 0 (by decide) rfl wm_2_41 dX6_areOpposites_1 ?_
  refine q_get X hK h 6 rfl rfl wf_3 4 (by decide) rfl wm_1_94 dX6_areOpposites_4 ?_
  refine lv_astore (lv' := [(6, .ref h0), (0, .ref h3), (1, .ref h7), (2, .int p0), (3, .int p1), (4, .int p2), (5, .int p3)]) hx hb dX6_areOpposites_7 hl (by decide) rfl (fun ls_1 hl_1 => ?_)
  clear hl
  refine lv_aload_n hx hb dX6_areOpposites_9 rfl (lv_at hl_1 2 rfl) ?_
  refine q_get X hK h 7 rfl rfl wf_7 3 (by decide) rfl wm_2_53 dX6_areOpposites_10 ?_
  refine lv_iload hx hb dX6_areOpposites_13 (lv_at hl_1 5 rfl) ?_
  refine q_iald X hK h 2 rfl (i_in rfl (by omega) (by omega)) dX6_areOpposites_15 ?_
  obtain ⟨z_2, ez_2, hz_2⟩ := rg_get rf1 (x := p2) rfl (by omega) (by omega)
  refine q_c z_2 ez_2 ?_
  clear ez_2
  refine lv_istore (lv' := [(7, .int z_2), (6, .ref h0), (0, .ref h3), (1, .ref h7), (2, .int p0), (3, .int p1), (4, .int p2), (5, .int p3)]) hx hb dX6_areOpposites_16 hl_1 (by decide) rfl (fun ls_3 hl_3 => ?_)
  clear hl_1
  refine lv_aload hx hb dX6_areOpposites_18 (lv_at hl_3 1 rfl) ?_
  refine lv_ifnonnull (tgt := 44) hx hb dX6_areOpposites_20 (by decide) ?_
  refine lv_aload_n hx hb dX6_areOpposites_44 rfl (lv_at hl_3 2 rfl) ?_
  refine q_get X hK h 3 rfl rfl wf_6 0 (by decide) rfl wm_1_184 dX6_areOpposites_45 ?_
  refine lv_bipush (v := 8) hx hb dX6_areOpposites_48 (by decide) ?_
  refine lv_iload hx hb dX6_areOpposites_50 (lv_at hl_3 7 rfl) ?_
  refine lv_bipush (v := 7) hx hb dX6_areOpposites_52 (by decide) ?_
  refine lv_irem hx hb dX6_areOpposites_54 (by decide) ?_
  obtain ⟨z_4, ez_4, hz_4⟩ := e_rem (x := p3) (y := 7) rfl (show (7 : Int32).toInt = 7 by decide) (by omega) (by omega)
  refine q_c z_4 ez_4 ?_
  clear ez_4
  refine q_iast X hK h 4 rfl (q_in (by decide +kernel)) dX6_areOpposites_55 (fun H locs h_6 => ?_)
  clear h
  replace h_6 : qW D _ _ [(h0, .inr (4, [.ref h1])), (h1, .inl (cy 1, 300, .inl f0)), (h2, .inl (cy 1, 10, .inl f1)), (h3, .inr (6, [.ref h4, .ref h5])), (h4, .inl (cy 1, 11, .inl (upd f2 (Int32.toNatClampNeg 8) z_4))), (h5, .inl (cy 1, 64, .inl f3)), (h6, .inr (3, [.int p4, .int p5, .int p6, .int p7, .ref h0, w0, w1, w2, w3, w4, w5, w6])), (h7, .inr (7, [.ref h6, .int p3, .int p8, .ref h2]))] _ _ := h_6
  obtain ⟨F_5, eF_5⟩ : ∃ z, (upd f2 (Int32.toNatClampNeg 8) z_4) = z := ⟨_, rfl⟩
  rw [eF_5] at h_6
  clear eF_5
  refine lv_aload_n hx hb dX6_areOpposites_56 rfl (lv_at hl_3 2 rfl) ?_
  refine lv_aload hx hb dX6_areOpposites_57 (lv_at hl_3 1 rfl) ?_
  refine lv_iload_n hx hb dX6_areOpposites_59 rfl (lv_at hl_3 4 rfl) ?_
  refine lv_iload_n hx hb dX6_areOpposites_60 rfl (lv_at hl_3 5 rfl) ?_
  refine lv_iload hx hb dX6_areOpposites_61 (lv_at hl_3 6 rfl) ?_
  refine lv_iload hx hb dX6_areOpposites_63 (lv_at hl_3 0 rfl) ?_
  refine q_callVi (rest := []) (wr := [(h2, .inl (cy 1, 10, .inl f1)), (h6, .inr (3, [.int p4, .int p5, .int p6, .int p7, .ref h0, w0, w1, w2, w3, w4, w5, w6])), (h7, .inr (7, [.ref h6, .int p3, .int p8, .ref h2]))]) X hK hA h_6 (fun sz => gX6_opposesOneWay_121 l D cy h0 h1 h3 h4 h5 p0 p1 p2 z_2 f0 F_5 f3 ⟨by omega, by omega⟩ ⟨by omega, by omega⟩ ⟨by omega, by omega⟩ ⟨by omega, by omega⟩ (rg_wide rf0 (by decide) (by decide)) sz) wm_3_200 wm_3_203 wm_1_5 hd_X6_opposesOneWay wm_3_202 wp_2_9 (ci := 6) (q0 := 2) rfl rfl ⟨Nat.le_of_ble_eq_true rfl, Nat.le_of_ble_eq_true rfl⟩ hl_3.1 rfl (Nat.le_of_ble_eq_true rfl) dX6_areOpposites_65 ⟨Nat.le_of_ble_eq_true rfl, Nat.le_of_ble_eq_true rfl⟩ [0, 1, 3, 4, 5] [2, 6, 7] rfl rfl (by decide) rfl rfl (fun r_7 u_7 H locs w_7 h_7 => ?_)
  clear h_6
  obtain ⟨wr_7, _⟩ := w_7
  replace h_7 : qW D _ _ [(h2, .inl (cy 1, 10, .inl f1)), (h6, .inr (3, [.int p4, .int p5, .int p6, .int p7, .ref h0, w0, w1, w2, w3, w4, w5, w6])), (h7, .inr (7, [.ref h6, .int p3, .int p8, .ref h2])), (h0, .inr (4, [.ref h1])), (h1, .inl (cy 1, 300, .inl f0)), (h3, .inr (6, [.ref h4, .ref h5])), (h4, .inl (cy 1, 11, .inl (u_7.2.1 1))), (h5, .inl (cy 1, 64, .inl (u_7.2.1 0)))] _ _ := h_7
  refine q_jn (pc2 := 91) (fun H locs ls st => ∃ v91_8_2 : Int32, ∃ v91_8_0 : Nat → Int32, ∃ v91_8_1 : Nat → Int32, (0 ≤ (v91_8_2).toInt ∧ (v91_8_2).toInt ≤ 1) ∧ st = [.int v91_8_2] ∧ qW D (va_A [(h0, .inr (4, [.ref h1])), (h1, .inl (cy 1, 300, .inl f0)), (h2, .inl (cy 1, 10, .inl f1)), (h3, .inr (6, [.ref h4, .ref h5])), (h4, .inl (cy 1, 11, .inl f2)), (h5, .inl (cy 1, 64, .inl f3)), (h6, .inr (3, [.int p4, .int p5, .int p6, .int p7, .ref h0, w0, w1, w2, w3, w4, w5, w6])), (h7, .inr (7, [.ref h6, .int p3, .int p8, .ref h2]))] sz) s.heap [(h2, .inl (cy 1, 10, .inl f1)), (h6, .inr (3, [.int p4, .int p5, .int p6, .int p7, .ref h0, w0, w1, w2, w3, w4, w5, w6])), (h7, .inr (7, [.ref h6, .int p3, .int p8, .ref h2])), (h0, .inr (4, [.ref h1])), (h1, .inl (cy 1, 300, .inl f0)), (h3, .inr (6, [.ref h4, .ref h5])), (h4, .inl (cy 1, 11, .inl v91_8_0)), (h5, .inl (cy 1, 64, .inl v91_8_1))] H locs ∧ lv_has ls 8 [(0, .ref h3), (1, .ref h7), (2, .int p0), (3, .int p1), (4, .int p2), (5, .int p3), (6, .ref h0), (7, .int z_2)]) (fun H locs ls st hP => ?_) (fun J_91 => ?_)
  · obtain ⟨v91_8_2, v91_8_0, v91_8_1, hv91_8_2, rfl, h, hl⟩ := hP
    exact q_iret X hr hlk hK h (q_nz (by omega) (by omega)) (fun _ => 0, fun k => List.getD [v91_8_0, v91_8_1] k (fun _ => 0), fun _ _ => 0) ⟨⟨by omega, by omega⟩, trivial⟩ [3, 4, 0, 5, 6, 7, 1, 2] rfl rfl dX6_areOpposites_91 (Nat.le_of_ble_eq_true rfl) (Nat.le_of_ble_eq_true rfl)
  · skip
    refine q_jn (pc2 := 86) (fun H locs ls st => ∃ v86_9_0 : Nat → Int32, ∃ v86_9_1 : Nat → Int32, st = [] ∧ qW D (va_A [(h0, .inr (4, [.ref h1])), (h1, .inl (cy 1, 300, .inl f0)), (h2, .inl (cy 1, 10, .inl f1)), (h3, .inr (6, [.ref h4, .ref h5])), (h4, .inl (cy 1, 11, .inl f2)), (h5, .inl (cy 1, 64, .inl f3)), (h6, .inr (3, [.int p4, .int p5, .int p6, .int p7, .ref h0, w0, w1, w2, w3, w4, w5, w6])), (h7, .inr (7, [.ref h6, .int p3, .int p8, .ref h2]))] sz) s.heap [(h2, .inl (cy 1, 10, .inl f1)), (h6, .inr (3, [.int p4, .int p5, .int p6, .int p7, .ref h0, w0, w1, w2, w3, w4, w5, w6])), (h7, .inr (7, [.ref h6, .int p3, .int p8, .ref h2])), (h0, .inr (4, [.ref h1])), (h1, .inl (cy 1, 300, .inl f0)), (h3, .inr (6, [.ref h4, .ref h5])), (h4, .inl (cy 1, 11, .inl v86_9_0)), (h5, .inl (cy 1, 64, .inl v86_9_1))] H locs ∧ lv_has ls 8 [(0, .ref h3), (1, .ref h7), (2, .int p0), (3, .int p1), (4, .int p2), (5, .int p3), (6, .ref h0), (7, .int z_2)]) (fun H locs ls st hP => ?_) (fun J_86 => ?_)
    · obtain ⟨v86_9_0, v86_9_1, rfl, h, hl⟩ := hP
      refine lv_iconst (v := 1) hx hb dX6_areOpposites_86 (by decide) ?_
      refine lv_goto (tgt := 91) hx hb dX6_areOpposites_87 (by decide) ?_
      exact J_91 _ _ _ _ ⟨1, v86_9_0, v86_9_1, ⟨by decide +kernel, by decide +kernel⟩, rfl, h, (lv_sub hl [0, 1, 2, 3, 4, 5, 6, 7] rfl)⟩
    · skip
      refine lv_if_ne (tgt := 86) hx hb dX6_areOpposites_68 (by decide) (fun c_10 => ?_) (fun c_10 => ?_)
      · replace c_10 := i_ne (x := r_7) (y := 0) rfl (show (0 : Int32).toInt = 0 by decide) c_10
        exact J_86 _ _ _ _ ⟨(u_7.2.1 1), (u_7.2.1 0), rfl, h_7, (lv_sub hl_3 [2, 3, 4, 5, 6, 7, 1, 0] rfl)⟩
      · replace c_10 := i_eq (x := r_7) (y := 0) rfl (show (0 : Int32).toInt = 0 by decide) c_10
        refine lv_aload_n hx hb dX6_areOpposites_71 rfl (lv_at hl_3 2 rfl) ?_
        refine lv_aload hx hb dX6_areOpposites_72 (lv_at hl_3 1 rfl) ?_
        refine lv_iload hx hb dX6_areOpposites_74 (lv_at hl_3 6 rfl) ?_
        refine lv_iload hx hb dX6_areOpposites_76 (lv_at hl_3 0 rfl) ?_
        refine lv_iload_n hx hb dX6_areOpposites_78 rfl (lv_at hl_3 4 rfl) ?_
        refine lv_iload_n hx hb dX6_areOpposites_79 rfl (lv_at hl_3 5 rfl) ?_
        refine q_callVi (rest := []) (wr := [(h2, .inl (cy 1, 10, .inl f1)), (h6, .inr (3, [.int p4, .int p5, .int p6, .int p7, .ref h0, w0, w1, w2, w3, w4, w5, w6])), (h7, .inr (7, [.ref h6, .int p3, .int p8, .ref h2]))]) X hK hA h_7 (fun sz => gX6_opposesOneWay_122 l D cy h0 h1 h3 h4 h5 p2 z_2 p0 p1 f0 (u_7.2.1 1) (u_7.2.1 0) ⟨by omega, by omega⟩ ⟨by omega, by omega⟩ ⟨by omega, by omega⟩ ⟨by omega, by omega⟩ (rg_wide rf0 (by decide) (by decide)) sz) wm_3_200 wm_3_203 wm_1_5 hd_X6_opposesOneWay wm_3_202 wp_2_9 (ci := 6) (q0 := 2) rfl rfl ⟨Nat.le_of_ble_eq_true rfl, Nat.le_of_ble_eq_true rfl⟩ hl_3.1 rfl (Nat.le_of_ble_eq_true rfl) dX6_areOpposites_80 ⟨Nat.le_of_ble_eq_true rfl, Nat.le_of_ble_eq_true rfl⟩ [3, 4, 5, 6, 7] [0, 1, 2] rfl rfl (by decide) rfl rfl (fun r_11 u_11 H locs w_11 h_11 => ?_)
        clear h_7
        obtain ⟨wr_11, _⟩ := w_11
        replace h_11 : qW D _ _ [(h2, .inl (cy 1, 10, .inl f1)), (h6, .inr (3, [.int p4, .int p5, .int p6, .int p7, .ref h0, w0, w1, w2, w3, w4, w5, w6])), (h7, .inr (7, [.ref h6, .int p3, .int p8, .ref h2])), (h0, .inr (4, [.ref h1])), (h1, .inl (cy 1, 300, .inl f0)), (h3, .inr (6, [.ref h4, .ref h5])), (h4, .inl (cy 1, 11, .inl (u_11.2.1 1))), (h5, .inl (cy 1, 64, .inl (u_11.2.1 0)))] _ _ := h_11
        refine lv_if_eq (tgt := 90) hx hb dX6_areOpposites_83 (by decide) (fun c_12 => ?_) (fun c_12 => ?_)
        · replace c_12 := i_eq (x := r_11) (y := 0) rfl (show (0 : Int32).toInt = 0 by decide) c_12
          refine lv_iconst (v := 0) hx hb dX6_areOpposites_90 (by decide) ?_
          exact J_91 _ _ _ _ ⟨0, (u_11.2.1 1), (u_11.2.1 0), ⟨by decide +kernel, by decide +kernel⟩, rfl, h_11, (lv_sub hl_3 [2, 3, 4, 5, 6, 7, 1, 0] rfl)⟩
        · replace c_12 := i_ne (x := r_11) (y := 0) rfl (show (0 : Int32).toInt = 0 by decide) c_12
          exact J_86 _ _ _ _ ⟨(u_11.2.1 1), (u_11.2.1 0), rfl, h_11, (lv_sub hl_3 [2, 3, 4, 5, 6, 7, 1, 0] rfl)⟩
set_option maxHeartbeats 4000000 in
set_option maxRecDepth 100000 in
theorem gX1_lesserPart_138 (l : Launch) (D : va_G) (cy : Nat → ClassId) (h0 : Nat) (h1 : Nat) (h2 : Nat) (h3 : Nat) (h4 : Nat) (h5 : Nat) (h6 : Nat) (h7 : Nat) (h8 : Nat) (h9 : Nat) (p0 : Int32) (f0 : Nat → Int32) (f1 : Nat → Int32) (f2 : Nat → Int32) (f3 : Nat → Int32) (p1 : Int32) (p2 : Int32) (p3 : Int32) (p4 : Int32) (f4 : Nat → Int32) (p5 : Int32) (p6 : Int32) (p7 : Int32) (p8 : Int32) (w0 : Value) (w1 : Value) (w2 : Value) (w3 : Value) (w4 : Value) (w5 : Value) (w6 : Value) (p9 : Int32) (p10 : Int32) (hp0 : 0 ≤ (p0).toInt ∧ (p0).toInt ≤ 9) (hp1 : (-1) ≤ (p1).toInt ∧ (p1).toInt ≤ 9) (hp2 : (-2147483648) ≤ (p2).toInt ∧ (p2).toInt ≤ 2147483647) (hp3 : (-2147483648) ≤ (p3).toInt ∧ (p3).toInt ≤ 2147483647) (hp4 : 0 ≤ (p4).toInt ∧ (p4).toInt ≤ 1000) (hp5 : 1 ≤ (p5).toInt ∧ (p5).toInt ≤ 3) (hp6 : 1 ≤ (p6).toInt ∧ (p6).toInt ≤ 10) (hp7 : 0 ≤ (p7).toInt ∧ (p7).toInt ≤ 920) (hp8 : 0 ≤ (p8).toInt ∧ (p8).toInt ≤ 999) (hp9 : 0 ≤ (p9).toInt ∧ (p9).toInt ≤ 60000) (hp10 : 0 ≤ (p10).toInt ∧ (p10).toInt ≤ 1023) (rf0 : RG f0 300 0 2062) (rf1 : RG f1 10 0 999) (rf4 : RG f4 1000 0 999) (sz : Nat) : MI l yX1_lesserPart cX1_lesserPart 6 .int { frames := 5, cells := 0, slots := 0, locals := 119 } [.ref h6, .int p0, .ref h9, .ref h3] D cy [(h0, .inr (4, [.ref h1])), (h1, .inl (cy 1, 300, .inl f0)), (h2, .inl (cy 1, 10, .inl f1)), (h3, .inr (6, [.ref h4, .ref h5])), (h4, .inl (cy 1, 11, .inl f2)), (h5, .inl (cy 1, 64, .inl f3)), (h6, .inr (1, [.int p1, .int p2, .int p3, .int p4, .ref h7])), (h7, .inl (cy 1, 1000, .inl f4)), (h8, .inr (3, [.int p5, .int p6, .int p7, .int p8, .ref h0, w0, w1, w2, w3, w4, w5, w6])), (h9, .inr (7, [.ref h8, .int p9, .int p10, .ref h2]))] sz (fun r u => ((-2147483648) ≤ r.toInt ∧ r.toInt ≤ 2147483647) ∧ True) (fun u => [(h0, .inr (4, [.ref h1])), (h1, .inl (cy 1, 300, .inl f0)), (h2, .inl (cy 1, 10, .inl f1)), (h3, .inr (6, [.ref h4, .ref h5])), (h4, .inl (cy 1, 11, .inl (u.2.1 0))), (h5, .inl (cy 1, 64, .inl (u.2.1 1))), (h6, .inr (1, [.int p1, .int p2, .int p3, .int p4, .ref h7])), (h7, .inl (cy 1, 1000, .inl f4)), (h8, .inr (3, [.int p5, .int p6, .int p7, .int p8, .ref h0, w0, w1, w2, w3, w4, w5, w6])), (h9, .inr (7, [.ref h8, .int p9, .int p10, .ref h2]))]) 0 0 := by
  refine q_ent (own := RX1) (by decide) rfl (Nat.le_of_ble_eq_true rfl) (fun p e s m below meth c ls X hr hlk hnm hK h hA hl => ?_)
  obtain ⟨hx, hb, hml, hown, ht⟩ := id X
  replace hl : lv_has ls 6 [(0, .ref h6), (1, .int p0), (2, .ref h9), (3, .ref h3)] := hl
  refine lv_iconst (v := 0) hx hb dX1_lesserPart_0 (by decide) ?_
  refine lv_istore (lv' := [(4, .int 0), (0, .ref h6), (1, .int p0), (2, .ref h9), (3, .ref h3)]) hx hb dX1_lesserPart_1 hl (by decide) rfl (fun ls_1 hl_1 => ?_)
  clear hl
  refine lv_iconst (v := 0) hx hb dX1_lesserPart_3 (by decide) ?_
  refine lv_istore (lv' := [(5, .int 0), (4, .int 0), (0, .ref h6), (1, .int p0), (2, .ref h9), (3, .ref h3)]) hx hb dX1_lesserPart_4 hl_1 (by decide) rfl (fun ls_2 hl_2 => ?_)
  clear hl_1
  refine q_wl (fun (q : Int32 × Int32) H locs ls => match q with | (v6_3_0, v6_3_1) => ∃ v6_3_2 : Nat → Int32, ∃ v6_3_3 : Nat → Int32, (0 ≤ (v6_3_0).toInt ∧ (v6_3_0).toInt ≤ 1000) ∧ ((-2147483648) ≤ (v6_3_1).toInt ∧ (v6_3_1).toInt ≤ 2147483647) ∧ qW D (va_A [(h0, .inr (4, [.ref h1])), (h1, .inl (cy 1, 300, .inl f0)), (h2, .inl (cy 1, 10, .inl f1)), (h3, .inr (6, [.ref h4, .ref h5])), (h4, .inl (cy 1, 11, .inl f2)), (h5, .inl (cy 1, 64, .inl f3)), (h6, .inr (1, [.int p1, .int p2, .int p3, .int p4, .ref h7])), (h7, .inl (cy 1, 1000, .inl f4)), (h8, .inr (3, [.int p5, .int p6, .int p7, .int p8, .ref h0, w0, w1, w2, w3, w4, w5, w6])), (h9, .inr (7, [.ref h8, .int p9, .int p10, .ref h2]))] sz) s.heap [(h0, .inr (4, [.ref h1])), (h1, .inl (cy 1, 300, .inl f0)), (h2, .inl (cy 1, 10, .inl f1)), (h3, .inr (6, [.ref h4, .ref h5])), (h4, .inl (cy 1, 11, .inl v6_3_2)), (h5, .inl (cy 1, 64, .inl v6_3_3)), (h6, .inr (1, [.int p1, .int p2, .int p3, .int p4, .ref h7])), (h7, .inl (cy 1, 1000, .inl f4)), (h8, .inr (3, [.int p5, .int p6, .int p7, .int p8, .ref h0, w0, w1, w2, w3, w4, w5, w6])), (h9, .inr (7, [.ref h8, .int p9, .int p10, .ref h2]))] H locs ∧ lv_has ls 6 [(0, .ref h6), (1, .int p0), (2, .ref h9), (3, .ref h3), (4, .int v6_3_1), (5, .int v6_3_0)]) (fun (q : Int32 × Int32) => match q with | (v6_3_0, v6_3_1) => (1001 - (v6_3_0).toInt).toNat) (fun q_6 ih_6 H locs ls hP => ?_) (0, 0) ⟨f2, f3, ⟨by decide +kernel, by decide +kernel⟩, ⟨by decide +kernel, by decide +kernel⟩, h, (lv_sub hl_2 [2, 3, 4, 5, 1, 0] rfl)⟩
  obtain ⟨v6_3_0, v6_3_1⟩ := q_6
  obtain ⟨v6_3_2, v6_3_3, hv6_3_0, hv6_3_1, h, hl⟩ := hP
  refine lv_iload hx hb dX1_lesserPart_6 (lv_at hl 5 rfl) ?_
  refine lv_aload_n hx hb dX1_lesserPart_8 rfl (lv_at hl 0 rfl) ?_
  refine q_get X hK h 6 rfl rfl wf_1 3 (by decide) rfl wm_2_15 dX1_lesserPart_9 ?_
  refine lv_icmp_ge (tgt := 48) hx hb dX1_lesserPart_12 (by decide) (fun c_4 => ?_) (fun c_4 => ?_)
  · replace c_4 := i_le (x := p4) (y := v6_3_0) rfl rfl c_4
    refine lv_iload hx hb dX1_lesserPart_48 (lv_at hl 4 rfl) ?_
    refine lv_aload_n hx hb dX1_lesserPart_50 rfl (lv_at hl 0 rfl) ?_
    refine q_get X hK h 6 rfl rfl wf_1 3 (by decide) rfl wm_2_15 dX1_lesserPart_51 ?_
    refine lv_iload hx hb dX1_lesserPart_54 (lv_at hl 4 rfl) ?_
    refine lv_isub hx hb dX1_lesserPart_56 ?_
    refine q_any (fun z_5 hz_5 => ?_)
    refine va_mmin hx hb (hml.trans hl.1.symm) hown (ht _ wm_5_101) (ht _ wm_2_171) (ht _ wm_1_13) (ht _ wm_2_172) (Nat.le_of_ble_eq_true rfl) (Nat.le_of_ble_eq_true rfl) (Nat.le_of_ble_eq_true rfl) (Nat.le_of_ble_eq_true rfl) dX1_lesserPart_57 ?_
    obtain ⟨z_6, ez_6, hz_6⟩ := e_min (x := v6_3_1) (y := z_5) rfl rfl
    refine q_c z_6 ez_6 ?_
    clear ez_6
    exact q_iret X hr hlk hK h rfl (fun _ => 0, fun k => List.getD [v6_3_2, v6_3_3] k (fun _ => 0), fun _ _ => 0) ⟨⟨by omega, by omega⟩, trivial⟩ [0, 1, 2, 3, 4, 5, 6, 7, 8, 9] rfl rfl dX1_lesserPart_60 (Nat.le_of_ble_eq_true rfl) (Nat.le_of_ble_eq_true rfl)
  · replace c_4 := i_nle (x := p4) (y := v6_3_0) rfl rfl c_4
    refine lv_aload_n hx hb dX1_lesserPart_15 rfl (lv_at hl 3 rfl) ?_
    refine lv_aload_n hx hb dX1_lesserPart_16 rfl (lv_at hl 2 rfl) ?_
    refine lv_aload_n hx hb dX1_lesserPart_17 rfl (lv_at hl 0 rfl) ?_
    refine q_get X hK h 6 rfl rfl wf_1 0 (by decide) rfl wm_2_12 dX1_lesserPart_18 ?_
    refine lv_aload_n hx hb dX1_lesserPart_21 rfl (lv_at hl 0 rfl) ?_
    refine q_get X hK h 6 rfl rfl wf_1 4 (by decide) rfl wm_2_17 dX1_lesserPart_22 ?_
    refine lv_iload hx hb dX1_lesserPart_25 (lv_at hl 5 rfl) ?_
    refine q_iald X hK h 7 rfl (i_in rfl (by omega) (by omega)) dX1_lesserPart_27 ?_
    obtain ⟨z_7, ez_7, hz_7⟩ := rg_get rf4 (x := v6_3_0) rfl (by omega) (by omega)
    refine q_c z_7 ez_7 ?_
    clear ez_7
    refine lv_iload_n hx hb dX1_lesserPart_28 rfl (lv_at hl 1 rfl) ?_
    refine lv_aload_n hx hb dX1_lesserPart_29 rfl (lv_at hl 2 rfl) ?_
    refine q_get X hK h 9 rfl rfl wf_7 1 (by decide) rfl wm_2_45 dX1_lesserPart_30 ?_
    refine q_callVi (rest := []) (wr := [(h6, .inr (1, [.int p1, .int p2, .int p3, .int p4, .ref h7])), (h7, .inl (cy 1, 1000, .inl f4))]) X hK hA h (fun sz => gX6_areOpposites_137 l D cy h0 h1 h2 h3 h4 h5 h8 h9 p1 z_7 p0 p9 f0 f1 v6_3_2 v6_3_3 p5 p6 p7 p8 w0 w1 w2 w3 w4 w5 w6 p10 ⟨by omega, by omega⟩ ⟨by omega, by omega⟩ ⟨by omega, by omega⟩ ⟨by omega, by omega⟩ ⟨by omega, by omega⟩ ⟨by omega, by omega⟩ ⟨by omega, by omega⟩ ⟨by omega, by omega⟩ ⟨by omega, by omega⟩ (rg_wide rf0 (by decide) (by decide)) (rg_wide rf1 (by decide) (by decide)) sz) wm_5_84 wm_3_199 wm_1_5 hd_X6_areOpposites wm_3_197 wm_3_198 (ci := 6) (q0 := 3) rfl rfl ⟨Nat.le_of_ble_eq_true rfl, Nat.le_of_ble_eq_true rfl⟩ hl.1 rfl (Nat.le_of_ble_eq_true rfl) dX1_lesserPart_33 ⟨Nat.le_of_ble_eq_true rfl, Nat.le_of_ble_eq_true rfl⟩ [0, 1, 2, 3, 4, 5, 8, 9] [6, 7] rfl rfl (by decide) rfl rfl (fun r_8 u_8 H locs w_8 h_8 => ?_)
    clear h
    obtain ⟨wr_8, _⟩ := w_8
    replace h_8 : qW D _ _ [(h6, .inr (1, [.int p1, .int p2, .int p3, .int p4, .ref h7])), (h7, .inl (cy 1, 1000, .inl f4)), (h0, .inr (4, [.ref h1])), (h1, .inl (cy 1, 300, .inl f0)), (h2, .inl (cy 1, 10, .inl f1)), (h3, .inr (6, [.ref h4, .ref h5])), (h4, .inl (cy 1, 11, .inl (u_8.2.1 0))), (h5, .inl (cy 1, 64, .inl (u_8.2.1 1))), (h8, .inr (3, [.int p5, .int p6, .int p7, .int p8, .ref h0, w0, w1, w2, w3, w4, w5, w6])), (h9, .inr (7, [.ref h8, .int p9, .int p10, .ref h2]))] _ _ := h_8
    refine q_jn (pc2 := 42) (fun H locs ls st => ∃ v42_9_0 : Int32, ((-2147483648) ≤ (v42_9_0).toInt ∧ (v42_9_0).toInt ≤ 2147483647) ∧ st = [] ∧ qW D (va_A [(h0, .inr (4, [.ref h1])), (h1, .inl (cy 1, 300, .inl f0)), (h2, .inl (cy 1, 10, .inl f1)), (h3, .inr (6, [.ref h4, .ref h5])), (h4, .inl (cy 1, 11, .inl f2)), (h5, .inl (cy 1, 64, .inl f3)), (h6, .inr (1, [.int p1, .int p2, .int p3, .int p4, .ref h7])), (h7, .inl (cy 1, 1000, .inl f4)), (h8, .inr (3, [.int p5, .int p6, .int p7, .int p8, .ref h0, w0, w1, w2, w3, w4, w5, w6])), (h9, .inr (7, [.ref h8, .int p9, .int p10, .ref h2]))] sz) s.heap [(h6, .inr (1, [.int p1, .int p2, .int p3, .int p4, .ref h7])), (h7, .inl (cy 1, 1000, .inl f4)), (h0, .inr (4, [.ref h1])), (h1, .inl (cy 1, 300, .inl f0)), (h2, .inl (cy 1, 10, .inl f1)), (h3, .inr (6, [.ref h4, .ref h5])), (h4, .inl (cy 1, 11, .inl (u_8.2.1 0))), (h5, .inl (cy 1, 64, .inl (u_8.2.1 1))), (h8, .inr (3, [.int p5, .int p6, .int p7, .int p8, .ref h0, w0, w1, w2, w3, w4, w5, w6])), (h9, .inr (7, [.ref h8, .int p9, .int p10, .ref h2]))] H locs ∧ lv_has ls 6 [(0, .ref h6), (1, .int p0), (2, .ref h9), (3, .ref h3), (4, .int v42_9_0), (5, .int v6_3_0)]) (fun H locs ls st hP => ?_) (fun J_42 => ?_)
    · obtain ⟨v42_9_0, hv42_9_0, rfl, h, hl⟩ := hP
      obtain ⟨z_10, ez_10, hz_10⟩ := e_add (x := v6_3_0) (y := Int32.ofInt 1) rfl (b := 1) (by decide) (by omega) (by omega)
      refine lv_iinc (v := z_10) (lv' := [(5, .int z_10), (0, .ref h6), (1, .int p0), (2, .ref h9), (3, .ref h3), (4, .int v42_9_0)]) hx hb dX1_lesserPart_42 hl (k := 5) rfl ez_10 (by decide) rfl (fun ls_10 hl_10 => ?_)
      clear hl
      refine lv_goto (tgt := 6) hx hb dX1_lesserPart_45 (by decide) ?_
      exact ih_6 (z_10, v42_9_0) (by show (1001 - (z_10).toInt).toNat < (1001 - (v6_3_0).toInt).toNat; omega) _ _ _ ⟨(u_8.2.1 0), (u_8.2.1 1), ⟨by omega, by omega⟩, ⟨by omega, by omega⟩, (q_re h [2, 3, 4, 5, 6, 7, 0, 1, 8, 9] rfl rfl), (lv_sub hl_10 [1, 2, 3, 4, 5, 0] rfl)⟩
    · skip
      refine lv_if_eq (tgt := 42) hx hb dX1_lesserPart_36 (by decide) (fun c_11 => ?_) (fun c_11 => ?_)
      · replace c_11 := i_eq (x := r_8) (y := 0) rfl (show (0 : Int32).toInt = 0 by decide) c_11
        exact J_42 _ _ _ _ ⟨v6_3_1, ⟨by omega, by omega⟩, rfl, h_8, (lv_sub hl [0, 1, 2, 3, 4, 5] rfl)⟩
      · replace c_11 := i_ne (x := r_8) (y := 0) rfl (show (0 : Int32).toInt = 0 by decide) c_11
        obtain ⟨z_12, ez_12, hz_12⟩ := e_any (v6_3_1 + Int32.ofInt 1)
        refine lv_iinc (v := z_12) (lv' := [(4, .int z_12), (0, .ref h6), (1, .int p0), (2, .ref h9), (3, .ref h3), (5, .int v6_3_0)]) hx hb dX1_lesserPart_39 hl (k := 4) rfl ez_12 (by decide) rfl (fun ls_12 hl_12 => ?_)
        clear hl
        exact J_42 _ _ _ _ ⟨z_12, ⟨by omega, by omega⟩, rfl, h_8, (lv_sub hl_12 [1, 2, 3, 4, 0, 5] rfl)⟩
set_option maxHeartbeats 4000000 in
set_option maxRecDepth 100000 in
theorem gX1_whomToTry_139 (l : Launch) (D : va_G) (cy : Nat → ClassId) (h0 : Nat) (h1 : Nat) (h2 : Nat) (h3 : Nat) (h4 : Nat) (h5 : Nat) (h6 : Nat) (h7 : Nat) (h8 : Nat) (h9 : Nat) (h10 : Nat) (h11 : Nat) (p0 : Int32) (p1 : Int32) (p2 : Int32) (p3 : Int32) (w0 : Value) (w1 : Value) (w2 : Value) (w3 : Value) (w4 : Value) (f0 : Nat → Int32) (f1 : Nat → Int32) (f2 : Nat → Int32) (p4 : Int32) (p5 : Int32) (f3 : Nat → Int32) (f4 : Nat → Int32) (f5 : Nat → Int32) (p6 : Int32) (p7 : Int32) (p8 : Int32) (p9 : Int32) (f6 : Nat → Int32) (hp0 : 1 ≤ (p0).toInt ∧ (p0).toInt ≤ 3) (hp1 : 0 ≤ (p1).toInt ∧ (p1).toInt ≤ 10) (hp2 : 0 ≤ (p2).toInt ∧ (p2).toInt ≤ 920) (hp3 : 0 ≤ (p3).toInt ∧ (p3).toInt ≤ 999) (hp4 : 0 ≤ (p4).toInt ∧ (p4).toInt ≤ 60000) (hp5 : 0 ≤ (p5).toInt ∧ (p5).toInt ≤ 1023) (hp6 : (-1) ≤ (p6).toInt ∧ (p6).toInt ≤ 9) (hp7 : (-2147483648) ≤ (p7).toInt ∧ (p7).toInt ≤ 2147483647) (hp8 : (-2147483648) ≤ (p8).toInt ∧ (p8).toInt ≤ 2147483647) (hp9 : 0 ≤ (p9).toInt ∧ (p9).toInt ≤ 1000) (rf0 : RG f0 10 0 999) (rf1 : RG f1 10 0 1000000) (rf2 : RG f2 300 0 2062) (rf3 : RG f3 10 0 999) (rf6 : RG f6 1000 0 999) (sz : Nat) : MI l yX1_whomToTry cX1_whomToTry 8 .int { frames := 6, cells := 0, slots := 0, locals := 144 } [.ref h10, .ref h5, .ref h7] D cy [(h0, .inr (3, [.int p0, .int p1, .int p2, .int p3, .ref h3, w0, w1, w2, .ref h1, .ref h2, w3, w4])), (h1, .inl (cy 1, 10, .inl f0)), (h2, .inl (cy 1, 10, .inl f1)), (h3, .inr (4, [.ref h4])), (h4, .inl (cy 1, 300, .inl f2)), (h5, .inr (7, [.ref h0, .int p4, .int p5, .ref h6])), (h6, .inl (cy 1, 10, .inl f3)), (h7, .inr (6, [.ref h8, .ref h9])), (h8, .inl (cy 1, 11, .inl f4)), (h9, .inl (cy 1, 64, .inl f5)), (h10, .inr (1, [.int p6, .int p7, .int p8, .int p9, .ref h11])), (h11, .inl (cy 1, 1000, .inl f6))] sz (fun r u => ((-1) ≤ r.toInt ∧ r.toInt ≤ 9) ∧ True) (fun u => [(h0, .inr (3, [.int p0, .int p1, .int p2, .int p3, .ref h3, w0, w1, w2, .ref h1, .ref h2, w3, w4])), (h1, .inl (cy 1, 10, .inl f0)), (h2, .inl (cy 1, 10, .inl f1)), (h3, .inr (4, [.ref h4])), (h4, .inl (cy 1, 300, .inl f2)), (h5, .inr (7, [.ref h0, .int p4, .int p5, .ref h6])), (h6, .inl (cy 1, 10, .inl f3)), (h7, .inr (6, [.ref h8, .ref h9])), (h8, .inl (cy 1, 11, .inl (u.2.1 0))), (h9, .inl (cy 1, 64, .inl (u.2.1 1))), (h10, .inr (1, [.int p6, .int p7, .int p8, .int p9, .ref h11])), (h11, .inl (cy 1, 1000, .inl f6))]) 0 0 := by
  refine q_ent (own := RX1) (by decide) rfl (Nat.le_of_ble_eq_true rfl) (fun p e s m below meth c ls X hr hlk hnm hK h hA hl => ?_)
  obtain ⟨hx, hb, hml, hown, ht⟩ := id X
  replace hl : lv_has ls 8 [(0, .ref h10), (1, .ref h5), (2, .ref h7)] := hl
  refine lv_aload_n hx hb dX1_whomToTry_0 rfl (lv_at hl 1 rfl) ?_
  refine q_callVi (rest := []) (wr := [(h3, .inr (4, [.ref h4])), (h4, .inl (cy 1, 300, .inl f2)), (h6, .inl (cy 1, 10, .inl f3)), (h7, .inr (6, [.ref h8, .ref h9])), (h8, .inl (cy 1, 11, .inl f4)), (h9, .inl (cy 1, 64, .inl f5)), (h10, .inr (1, [.int p6, .int p7, .int p8, .int p9, .ref h11])), (h11, .inl (cy 1, 1000, .inl f6))]) X hK hA h (fun sz => gX7_inTown_106 l D cy h0 h1 h2 h5 p0 p1 p2 p3 (.ref h3) w0 w1 w2 w3 w4 f0 f1 p4 p5 (.ref h6) ⟨by omega, by omega⟩ ⟨by omega, by omega⟩ ⟨by omega, by omega⟩ ⟨by omega, by omega⟩ ⟨by omega, by omega⟩ ⟨by omega, by omega⟩ (rg_wide rf0 (by decide) (by decide)) (rg_wide rf1 (by decide) (by decide)) sz) wm_5_83 wm_3_182 wm_1_9 hd_X7_inTown wm_3_180 wm_3_181 (ci := 7) (q0 := 3) rfl rfl ⟨Nat.le_of_ble_eq_true rfl, Nat.le_of_ble_eq_true rfl⟩ hl.1 rfl (Nat.le_of_ble_eq_true rfl) dX1_whomToTry_1 ⟨Nat.le_of_ble_eq_true rfl, Nat.le_of_ble_eq_true rfl⟩ [0, 1, 2, 5] [3, 4, 6, 7, 8, 9, 10, 11] rfl rfl (by decide) rfl rfl (fun r_1 u_1 H locs w_1 h_1 => ?_)
  clear h
  obtain ⟨wr_1, _⟩ := w_1
  replace h_1 : qW D _ _ [(h3, .inr (4, [.ref h4])), (h4, .inl (cy 1, 300, .inl f2)), (h6, .inl (cy 1, 10, .inl f3)), (h7, .inr (6, [.ref h8, .ref h9])), (h8, .inl (cy 1, 11, .inl f4)), (h9, .inl (cy 1, 64, .inl f5)), (h10, .inr (1, [.int p6, .int p7, .int p8, .int p9, .ref h11])), (h11, .inl (cy 1, 1000, .inl f6)), (h0, .inr (3, [.int p0, .int p1, .int p2, .int p3, .ref h3, w0, w1, w2, .ref h1, .ref h2, w3, w4])), (h1, .inl (cy 1, 10, .inl f0)), (h2, .inl (cy 1, 10, .inl f1)), (h5, .inr (7, [.ref h0, .int p4, .int p5, .ref h6]))] _ _ := h_1
  refine lv_iconst (v := (-1)) hx hb dX1_whomToTry_4 (by decide) ?_
  refine lv_ixor hx hb dX1_whomToTry_5 ?_
  refine q_any (fun z_2 hz_2 => ?_)
  refine lv_iconst (v := 1) hx hb dX1_whomToTry_6 (by decide) ?_
  refine lv_aload_n hx hb dX1_whomToTry_7 rfl (lv_at hl 0 rfl) ?_
  refine q_get X hK h_1 6 rfl rfl wf_1 0 (by decide) rfl wm_2_12 dX1_whomToTry_8 ?_
  refine lv_ishl hx hb dX1_whomToTry_11 ?_
  refine q_any (fun z_3 hz_3 => ?_)
  refine lv_iconst (v := (-1)) hx hb dX1_whomToTry_12 (by decide) ?_
  refine lv_ixor hx hb dX1_whomToTry_13 ?_
  refine q_any (fun z_4 hz_4 => ?_)
  refine lv_iand hx hb dX1_whomToTry_14 ?_
  refine q_any (fun z_5 hz_5 => ?_)
  refine lv_istore_n (lv' := [(3, .int z_5), (0, .ref h10), (1, .ref h5), (2, .ref h7)]) hx hb dX1_whomToTry_15 rfl hl (by decide) rfl (fun ls_6 hl_6 => ?_)
  clear hl
  refine lv_iconst (v := (-1)) hx hb dX1_whomToTry_16 (by decide) ?_
  refine lv_istore (lv' := [(4, .int (-1)), (3, .int z_5), (0, .ref h10), (1, .ref h5), (2, .ref h7)]) hx hb dX1_whomToTry_17 hl_6 (by decide) rfl (fun ls_7 hl_7 => ?_)
  clear hl_6
  refine lv_iconst (v := (-1)) hx hb dX1_whomToTry_19 (by decide) ?_
  refine lv_istore (lv' := [(5, .int (-1)), (4, .int (-1)), (3, .int z_5), (0, .ref h10), (1, .ref h5), (2, .ref h7)]) hx hb dX1_whomToTry_20 hl_7 (by decide) rfl (fun ls_8 hl_8 => ?_)
  clear hl_7
  refine lv_iconst (v := 0) hx hb dX1_whomToTry_22 (by decide) ?_
  refine lv_istore (lv' := [(6, .int 0), (5, .int (-1)), (4, .int (-1)), (3, .int z_5), (0, .ref h10), (1, .ref h5), (2, .ref h7)]) hx hb dX1_whomToTry_23 hl_8 (by decide) rfl (fun ls_9 hl_9 => ?_)
  clear hl_8
  refine q_wl (fun (q : Int32 × Int32 × Int32) H locs ls => match q with | (v25_10_0, v25_10_1, v25_10_2) => ∃ v25_10_3 : Nat → Int32, ∃ v25_10_4 : Nat → Int32, (0 ≤ (v25_10_0).toInt ∧ (v25_10_0).toInt ≤ 10) ∧ ((-1) ≤ (v25_10_1).toInt ∧ (v25_10_1).toInt ≤ 9) ∧ ((-1) ≤ (v25_10_2).toInt ∧ (v25_10_2).toInt ≤ 2147483647) ∧ qW D (va_A [(h0, .inr (3, [.int p0, .int p1, .int p2, .int p3, .ref h3, w0, w1, w2, .ref h1, .ref h2, w3, w4])), (h1, .inl (cy 1, 10, .inl f0)), (h2, .inl (cy 1, 10, .inl f1)), (h3, .inr (4, [.ref h4])), (h4, .inl (cy 1, 300, .inl f2)), (h5, .inr (7, [.ref h0, .int p4, .int p5, .ref h6])), (h6, .inl (cy 1, 10, .inl f3)), (h7, .inr (6, [.ref h8, .ref h9])), (h8, .inl (cy 1, 11, .inl f4)), (h9, .inl (cy 1, 64, .inl f5)), (h10, .inr (1, [.int p6, .int p7, .int p8, .int p9, .ref h11])), (h11, .inl (cy 1, 1000, .inl f6))] sz) s.heap [(h3, .inr (4, [.ref h4])), (h4, .inl (cy 1, 300, .inl f2)), (h6, .inl (cy 1, 10, .inl f3)), (h7, .inr (6, [.ref h8, .ref h9])), (h8, .inl (cy 1, 11, .inl v25_10_3)), (h9, .inl (cy 1, 64, .inl v25_10_4)), (h10, .inr (1, [.int p6, .int p7, .int p8, .int p9, .ref h11])), (h11, .inl (cy 1, 1000, .inl f6)), (h0, .inr (3, [.int p0, .int p1, .int p2, .int p3, .ref h3, w0, w1, w2, .ref h1, .ref h2, w3, w4])), (h1, .inl (cy 1, 10, .inl f0)), (h2, .inl (cy 1, 10, .inl f1)), (h5, .inr (7, [.ref h0, .int p4, .int p5, .ref h6]))] H locs ∧ lv_has ls 8 [(0, .ref h10), (1, .ref h5), (2, .ref h7), (3, .int z_5), (4, .int v25_10_1), (5, .int v25_10_2), (6, .int v25_10_0)]) (fun (q : Int32 × Int32 × Int32) => match q with | (v25_10_0, v25_10_1, v25_10_2) => (11 - (v25_10_0).toInt).toNat) (fun q_25 ih_25 H locs ls hP => ?_) (0, (-1), (-1)) ⟨f4, f5, ⟨by decide +kernel, by decide +kernel⟩, ⟨by decide +kernel, by decide +kernel⟩, ⟨by decide +kernel, by decide +kernel⟩, h_1, (lv_sub hl_9 [4, 5, 6, 3, 2, 1, 0] rfl)⟩
  obtain ⟨v25_10_0, v25_10_1, v25_10_2⟩ := q_25
  obtain ⟨v25_10_3, v25_10_4, hv25_10_0, hv25_10_1, hv25_10_2, h, hl⟩ := hP
  refine lv_iload hx hb dX1_whomToTry_25 (lv_at hl 6 rfl) ?_
  refine lv_aload_n hx hb dX1_whomToTry_27 rfl (lv_at hl 1 rfl) ?_
  refine q_get X hK h 11 rfl rfl wf_7 0 (by decide) rfl wm_2_39 dX1_whomToTry_28 ?_
  refine q_get X hK h 8 rfl rfl wf_3 1 (by decide) rfl wm_1_81 dX1_whomToTry_31 ?_
  refine lv_icmp_ge (tgt := 78) hx hb dX1_whomToTry_34 (by decide) (fun c_11 => ?_) (fun c_11 => ?_)
  · replace c_11 := i_le (x := p1) (y := v25_10_0) rfl rfl c_11
    refine lv_iload hx hb dX1_whomToTry_78 (lv_at hl 4 rfl) ?_
    exact q_iret X hr hlk hK h rfl (fun _ => 0, fun k => List.getD [v25_10_3, v25_10_4] k (fun _ => 0), fun _ _ => 0) ⟨⟨by omega, by omega⟩, trivial⟩ [8, 9, 10, 0, 1, 11, 2, 3, 4, 5, 6, 7] rfl rfl dX1_whomToTry_80 (Nat.le_of_ble_eq_true rfl) (Nat.le_of_ble_eq_true rfl)
  · replace c_11 := i_nle (x := p1) (y := v25_10_0) rfl rfl c_11
    refine lv_iload_n hx hb dX1_whomToTry_37 rfl (lv_at hl 3 rfl) ?_
    refine lv_iload hx hb dX1_whomToTry_38 (lv_at hl 6 rfl) ?_
    refine lv_ishr hx hb dX1_whomToTry_40 ?_
    refine q_any (fun z_12 hz_12 => ?_)
    refine lv_iconst (v := 1) hx hb dX1_whomToTry_41 (by decide) ?_
    refine lv_iand hx hb dX1_whomToTry_42 ?_
    obtain ⟨z_13, ez_13, hz_13⟩ := e_and2 (x := z_12) (y := 1) (show (1 : Int32).toInt = 1 by decide) (by omega)
    refine q_c z_13 ez_13 ?_
    clear ez_13
    refine lv_iconst (v := 1) hx hb dX1_whomToTry_43 (by decide) ?_
    refine q_jn (pc2 := 72) (fun H locs ls st => ∃ v72_14_2 : Int32, ∃ v72_14_3 : Int32, ∃ v72_14_0 : Nat → Int32, ∃ v72_14_1 : Nat → Int32, ((-1) ≤ (v72_14_2).toInt ∧ (v72_14_2).toInt ≤ 9) ∧ ((-1) ≤ (v72_14_3).toInt ∧ (v72_14_3).toInt ≤ 2147483647) ∧ st = [] ∧ qW D (va_A [(h0, .inr (3, [.int p0, .int p1, .int p2, .int p3, .ref h3, w0, w1, w2, .ref h1, .ref h2, w3, w4])), (h1, .inl (cy 1, 10, .inl f0)), (h2, .inl (cy 1, 10, .inl f1)), (h3, .inr (4, [.ref h4])), (h4, .inl (cy 1, 300, .inl f2)), (h5, .inr (7, [.ref h0, .int p4, .int p5, .ref h6])), (h6, .inl (cy 1, 10, .inl f3)), (h7, .inr (6, [.ref h8, .ref h9])), (h8, .inl (cy 1, 11, .inl f4)), (h9, .inl (cy 1, 64, .inl f5)), (h10, .inr (1, [.int p6, .int p7, .int p8, .int p9, .ref h11])), (h11, .inl (cy 1, 1000, .inl f6))] sz) s.heap [(h3, .inr (4, [.ref h4])), (h4, .inl (cy 1, 300, .inl f2)), (h6, .inl (cy 1, 10, .inl f3)), (h7, .inr (6, [.ref h8, .ref h9])), (h8, .inl (cy 1, 11, .inl v72_14_0)), (h9, .inl (cy 1, 64, .inl v72_14_1)), (h10, .inr (1, [.int p6, .int p7, .int p8, .int p9, .ref h11])), (h11, .inl (cy 1, 1000, .inl f6)), (h0, .inr (3, [.int p0, .int p1, .int p2, .int p3, .ref h3, w0, w1, w2, .ref h1, .ref h2, w3, w4])), (h1, .inl (cy 1, 10, .inl f0)), (h2, .inl (cy 1, 10, .inl f1)), (h5, .inr (7, [.ref h0, .int p4, .int p5, .ref h6]))] H locs ∧ lv_has ls 8 [(0, .ref h10), (1, .ref h5), (2, .ref h7), (3, .int z_5), (4, .int v72_14_2), (5, .int v72_14_3), (6, .int v25_10_0)]) (fun H locs ls st hP => ?_) (fun J_72 => ?_)
    · obtain ⟨v72_14_2, v72_14_3, v72_14_0, v72_14_1, hv72_14_2, hv72_14_3, rfl, h, hl⟩ := hP
      obtain ⟨z_15, ez_15, hz_15⟩ := e_add (x := v25_10_0) (y := Int32.ofInt 1) rfl (b := 1) (by decide) (by omega) (by omega)
      refine lv_iinc (v := z_15) (lv' := [(6, .int z_15), (0, .ref h10), (1, .ref h5), (2, .ref h7), (3, .int z_5), (4, .int v72_14_2), (5, .int v72_14_3)]) hx hb dX1_whomToTry_72 hl (k := 6) rfl ez_15 (by decide) rfl (fun ls_15 hl_15 => ?_)
      clear hl
      refine lv_goto (tgt := 25) hx hb dX1_whomToTry_75 (by decide) ?_
      exact ih_25 (z_15, v72_14_2, v72_14_3) (by show (11 - (z_15).toInt).toNat < (11 - (v25_10_0).toInt).toNat; omega) _ _ _ ⟨v72_14_0, v72_14_1, ⟨by omega, by omega⟩, ⟨by omega, by omega⟩, ⟨by omega, by omega⟩, h, (lv_sub hl_15 [1, 2, 3, 4, 5, 6, 0] rfl)⟩
    · skip
      refine lv_icmp_ne (tgt := 72) hx hb dX1_whomToTry_44 (by decide) (fun c_16 => ?_) (fun c_16 => ?_)
      · replace c_16 := i_ne (x := z_13) (y := 1) rfl (show (1 : Int32).toInt = 1 by decide) c_16
        exact J_72 _ _ _ _ ⟨v25_10_1, v25_10_2, v25_10_3, v25_10_4, ⟨by omega, by omega⟩, ⟨by omega, by omega⟩, rfl, h, (lv_sub hl [0, 1, 2, 3, 4, 5, 6] rfl)⟩
      · replace c_16 := i_eq (x := z_13) (y := 1) rfl (show (1 : Int32).toInt = 1 by decide) c_16
        refine lv_aload_n hx hb dX1_whomToTry_47 rfl (lv_at hl 0 rfl) ?_
        refine lv_iload hx hb dX1_whomToTry_48 (lv_at hl 6 rfl) ?_
        refine lv_aload_n hx hb dX1_whomToTry_50 rfl (lv_at hl 1 rfl) ?_
        refine lv_aload_n hx hb dX1_whomToTry_51 rfl (lv_at hl 2 rfl) ?_
        refine q_callVi (rest := []) (wr := [(h1, .inl (cy 1, 10, .inl f0)), (h2, .inl (cy 1, 10, .inl f1))]) X hK hA h (fun sz => gX1_lesserPart_138 l D cy h3 h4 h6 h7 h8 h9 h10 h11 h0 h5 v25_10_0 f2 f3 v25_10_3 v25_10_4 p6 p7 p8 p9 f6 p0 p1 p2 p3 w0 w1 w2 (.ref h1) (.ref h2) w3 w4 p4 p5 ⟨by omega, by omega⟩ ⟨by omega, by omega⟩ (i_rng _) (i_rng _) ⟨by omega, by omega⟩ ⟨by omega, by omega⟩ ⟨by omega, by omega⟩ ⟨by omega, by omega⟩ ⟨by omega, by omega⟩ ⟨by omega, by omega⟩ ⟨by omega, by omega⟩ (rg_wide rf2 (by decide) (by decide)) (rg_wide rf3 (by decide) (by decide)) (rg_wide rf6 (by decide) (by decide)) sz) wm_5_97 wm_5_100 wm_1_8 hd_X1_lesserPart wm_5_99 wp_4_1 (ci := 1) (q0 := 6) rfl rfl ⟨Nat.le_of_ble_eq_true rfl, Nat.le_of_ble_eq_true rfl⟩ hl.1 rfl (Nat.le_of_ble_eq_true rfl) dX1_whomToTry_52 ⟨Nat.le_of_ble_eq_true rfl, Nat.le_of_ble_eq_true rfl⟩ [0, 1, 2, 3, 4, 5, 6, 7, 8, 11] [9, 10] rfl rfl (by decide) rfl rfl (fun r_17 u_17 H locs w_17 h_17 => ?_)
        clear h
        obtain ⟨wr_17, _⟩ := w_17
        replace h_17 : qW D _ _ [(h1, .inl (cy 1, 10, .inl f0)), (h2, .inl (cy 1, 10, .inl f1)), (h3, .inr (4, [.ref h4])), (h4, .inl (cy 1, 300, .inl f2)), (h6, .inl (cy 1, 10, .inl f3)), (h7, .inr (6, [.ref h8, .ref h9])), (h8, .inl (cy 1, 11, .inl (u_17.2.1 0))), (h9, .inl (cy 1, 64, .inl (u_17.2.1 1))), (h10, .inr (1, [.int p6, .int p7, .int p8, .int p9, .ref h11])), (h11, .inl (cy 1, 1000, .inl f6)), (h0, .inr (3, [.int p0, .int p1, .int p2, .int p3, .ref h3, w0, w1, w2, .ref h1, .ref h2, w3, w4])), (h5, .inr (7, [.ref h0, .int p4, .int p5, .ref h6]))] _ _ := h_17
        refine lv_istore (lv' := [(7, .int r_17), (0, .ref h10), (1, .ref h5), (2, .ref h7), (3, .int z_5), (4, .int v25_10_1), (5, .int v25_10_2), (6, .int v25_10_0)]) hx hb dX1_whomToTry_55 hl (by decide) rfl (fun ls_18 hl_18 => ?_)
        clear hl
        refine lv_iload hx hb dX1_whomToTry_57 (lv_at hl_18 0 rfl) ?_
        refine lv_iload hx hb dX1_whomToTry_59 (lv_at hl_18 6 rfl) ?_
        refine lv_icmp_le (tgt := 72) hx hb dX1_whomToTry_61 (by decide) (fun c_19 => ?_) (fun c_19 => ?_)
        · replace c_19 := i_le (x := r_17) (y := v25_10_2) rfl rfl c_19
          exact J_72 _ _ _ _ ⟨v25_10_1, v25_10_2, (u_17.2.1 0), (u_17.2.1 1), ⟨by omega, by omega⟩, ⟨by omega, by omega⟩, rfl, (q_re h_17 [2, 3, 4, 5, 6, 7, 8, 9, 10, 0, 1, 11] rfl rfl), (lv_sub hl_18 [1, 2, 3, 4, 5, 6, 7] rfl)⟩
        · replace c_19 := i_nle (x := r_17) (y := v25_10_2) rfl rfl c_19
          refine lv_iload hx hb dX1_whomToTry_64 (lv_at hl_18 0 rfl) ?_
          refine lv_istore (lv' := [(5, .int r_17), (7, .int r_17), (0, .ref h10), (1, .ref h5), (2, .ref h7), (3, .int z_5), (4, .int v25_10_1), (6, .int v25_10_0)]) hx hb dX1_whomToTry_66 hl_18 (by decide) rfl (fun ls_20 hl_20 => ?_)
          clear hl_18
          refine lv_iload hx hb dX1_whomToTry_68 (lv_at hl_20 7 rfl) ?_
          refine lv_istore (lv' := [(4, .int v25_10_0), (5, .int r_17), (7, .int r_17), (0, .ref h10), (1, .ref h5), (2, .ref h7), (3, .int z_5), (6, .int v25_10_0)]) hx hb dX1_whomToTry_70 hl_20 (by decide) rfl (fun ls_21 hl_21 => ?_)
          clear hl_20
          exact J_72 _ _ _ _ ⟨v25_10_0, r_17, (u_17.2.1 0), (u_17.2.1 1), ⟨by omega, by omega⟩, ⟨by omega, by omega⟩, rfl, (q_re h_17 [2, 3, 4, 5, 6, 7, 8, 9, 10, 0, 1, 11] rfl rfl), (lv_sub hl_21 [3, 4, 5, 6, 0, 1, 7] rfl)⟩
