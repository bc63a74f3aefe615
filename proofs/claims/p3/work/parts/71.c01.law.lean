set_option maxHeartbeats 8000000 in
set_option maxRecDepth 100000 in
theorem xc_opposites (l : Launch) {p : Program} {e : Env} {s : State} {m : MethodId} {below : List Frame} {meth : Method} {c : Code} {b : Nat} {Q : State → Prop} {D : va_G} {cy : Nat → ClassId} {H : Heap} {locs : List Loc} {ls : Array Slot} (X : qX p s m #[Value.ref b] c cL_law 4 RL) (hK : qK D cy s) (hT : qT cy (fun q => s.heap.size ≤ q) s) (hls : ls.size = 4) {x0 cells slots : Nat} {P pl wx : va_W} {tl : Int} {a_1 : Int32} {gt : Int} {gb : Nat → Int} {gf : Int} {gp : Int} (hc0 : cells ≤ 26000) (hs0 : slots ≤ 5720000) (hX : XOK cy x0 pl wx tl gt gb gf gp) (h : qW D (fun q => s.heap.size ≤ q) s.heap (wx ++ (pl ++ P)) H locs) (kk : ∀ (r : Int32) (H : Heap) (locs : List Loc) (w2 : va_W), XOK cy x0 pl w2 tl gt gb gf gp → qW D (fun q => s.heap.size ≤ q) s.heap (w2 ++ (pl ++ P)) H locs → W p l e room_1 s m #[Value.ref b] below meth c H locs cells slots Q (F0 m 427 ls [.int r])) : W p l e room_1 s m #[Value.ref b] below meth c H locs cells slots Q (F0 m 424 ls [.int a_1, .ref x0]) := by
  have hA : ∀ q : Nat, s.heap.size ≤ q → (fun q => s.heap.size ≤ q) q := fun _ h => h
  refine hX _ ?_
  clear hX
  intros tp nw nwv bf bfv tr trv hsy trs ty0 ty0r ty1 ty1r ty2 ty2r ty3 ty3r ims im0 im0v im1 im1v imm sc scg sch ci cir cipa ciw tu tup tuq tuf tub gu guf tk tkk tkp tkv rd rdc hpa hh hob hot hoi0 hoi1 xtl xfk xfp xch nwd nwa bfd bfa trd tra his ty0s ty0z ty1s ty1z ty2s ty2z ty3s ty3z im0d im0a im1d im1a cip tuo tut tus tul guo gup gus guz tkl tkz rda rdt rdf rdp rdz rdn tkt rto ftp nwfv bffv trfv ktr gty0 gty1 gty2 gty3 kim im0fv im1fv fimm fscg fsch fcir fcipa fciw ftup ftuq ftuf ftub fguf ftkk ftkp ftkv frdc vb hxtl rftp rnwfv rbffv rtrfv hhis hktr0 hktr1 hktr2 hktr3 hty0s hty0z hty1s hty1z hty2s hty2z hty3s hty3z hkim0 hkim1 rim0fv rim1fv hcip rfcir htuo htut htul rftuq rftuf hguo hguz rfguf htkl htkz hrda hrdz okvb HHhh HHhob HHhot HHhoi0 HHhoi1 eg0 eg1 eg2 eg3 htl hw_
  subst eg0
  subst eg1
  subst eg2
  subst eg3
  subst htl
  subst hw_
  have HX := HHhh
  obtain ⟨hv, ehv⟩ : ∃ hv : Nat → Prop, hv = HouseIn cy pl := ⟨_, rfl⟩
  rw [← ehv] at okvb HHhh HHhob HHhot HHhoi0 HHhoi1
  obtain ⟨hnl, hnp, hnt, hns, w4, w5, w6, hha, hhb, hhc, hhd, hhe, fha, fhb, fhc, fhd, fhe, L4, L5, L6, b1, b2, b3, l4, l5, l6, hm, hn⟩ := HX
  obtain ⟨r, hp⟩ := house_pick hm hn L4 ((List.sublist_append_left L4 L5).trans (List.sublist_append_left _ _))
  rcases l4 with ⟨rfl, rfl⟩ | ⟨la4, las4, n4, fs4, rfl, hn4, rfl⟩
  · skip
    replace h := q_open h hp
    refine q_callViF (rest := []) X hK hT hA h (fun sz => gX11_opposites_83db685 l D cy x0 nw hh nwv sc a_1 (.ref tp) xtl xfk xfp (.ref rd) (.ref bf) (.ref tr) (.ref hsy) (.ref trs) (.ref ims) (.ref imm) (.ref ci) (.ref tu) (.ref gu) xch nwd nwa hnl hnp hnt hns w5 w6 (.ref hha) (.ref hhb) (.ref hhc) (.ref hhd) (.ref hhe) nwfv (.ref scg) (.ref sch) (i_rng _) hxtl (i_rng _) (i_rng _) (i_rng _) (i_rng _) (i_rng _) b1 b2 (i_rng _) (i_rng _) (rg_wide rnwfv (by decide) (by decide)) sz) wm_3_223 wm_3_226 wm_1_1 hd_X11_opposites wm_3_224 wm_3_225 (ci := 11) (q0 := 0) rfl rfl ⟨Nat.le_of_ble_eq_true rfl, Nat.le_of_ble_eq_true rfl⟩ hls rfl (Nat.le_of_ble_eq_true rfl) dL_law_424 ⟨show cells + 0 ≤ 600000 from Nat.le_trans (Nat.add_le_add_right hc0 0) (by decide), show slots + 0 ≤ 7302250 from Nat.le_trans (Nat.add_le_add_right hs0 0) (by decide)⟩ [0, 2, 65, 3, 24] rfl rfl (fun _ => rfl) (fun r_1 u_1 H locs w_1 h_1 => ?_)
    clear h
    obtain ⟨wr_1, _⟩ := w_1
    have hmono : ∀ a, hv a → HouseIn cy pl a := fun a ha => by rw [ehv] at ha; exact ha
    exact kk r_1 _ _ _ (fun _ k_ => k_ (tp) (nw) (nwv) (bf) (bfv) (tr) (trv) (hsy) (trs) (ty0) (ty0r) (ty1) (ty1r) (ty2) (ty2r) (ty3) (ty3r) (ims) (im0) (im0v) (im1) (im1v) (imm) (sc) (scg) (sch) (ci) (cir) (cipa) (ciw) (tu) (tup) (tuq) (tuf) (tub) (gu) (guf) (tk) (tkk) (tkp) (tkv) (rd) (rdc) (hpa) (hh) (hob) (hot) (hoi0) (hoi1) (xtl) (xfk) (xfp) (xch) (nwd) (nwa) (bfd) (bfa) (trd) (tra) (his) (ty0s) (ty0z) (ty1s) (ty1z) (ty2s) (ty2z) (ty3s) (ty3z) (im0d) (im0a) (im1d) (im1a) (cip) (tuo) (tut) (tus) (tul) (guo) (gup) (gus) (guz) (tkl) (tkz) (rda) (rdt) (rdf) (rdp) (rdz) (rdn) (tkt) (rto) (ftp) (nwfv) (bffv) (trfv) (ktr) (gty0) (gty1) (gty2) (gty3) (kim) (im0fv) (im1fv) (fimm) (fscg) (fsch) (fcir) (fcipa) (fciw) (ftup) (ftuq) (ftuf) (ftub) (fguf) (ftkk) (ftkp) (ftkv) (frdc) (vb) (hxtl) (rftp) (rnwfv) (rbffv) (rtrfv) (hhis) (hktr0) (hktr1) (hktr2) (hktr3) (hty0s) (hty0z) (hty1s) (hty1z) (hty2s) (hty2z) (hty3s) (hty3z) (hkim0) (hkim1) (rim0fv) (rim1fv) (hcip) (rfcir) (htuo) (htut) (htul) (rftuq) (rftuf) (hguo) (hguz) (rfguf) (htkl) (htkz) (hrda) (hrdz) (hb_mono okvb hmono) (hmono _ HHhh) (hmono _ HHhob) (hmono _ HHhot) (hmono _ HHhoi0) (hmono _ HHhoi1) (rfl) (rfl) (rfl) (rfl) rfl rfl) (q_back h_1 hp rfl)
  · skip
    replace h := q_open h hp
    refine q_callViF (rest := []) X hK hT hA h (fun sz => gX11_opposites_1519ba4 l D cy x0 nw hh la4 las4 nwv sc scg sch a_1 (.ref tp) xtl xfk xfp (.ref rd) (.ref bf) (.ref tr) (.ref hsy) (.ref trs) (.ref ims) (.ref imm) (.ref ci) (.ref tu) (.ref gu) xch nwd nwa hnl hnp hnt hns w5 w6 (.ref hha) (.ref hhb) (.ref hhc) (.ref hhd) (.ref hhe) n4 fs4 nwfv fscg fsch (i_rng _) hxtl (i_rng _) (i_rng _) (i_rng _) (i_rng _) (i_rng _) b1 b2 (i_rng _) (i_rng _) (by omega) (rg_wide rnwfv (by decide) (by decide)) sz) wm_3_223 wm_3_226 wm_1_1 hd_X11_opposites wm_3_224 wm_3_225 (ci := 11) (q0 := 0) rfl rfl ⟨Nat.le_of_ble_eq_true rfl, Nat.le_of_ble_eq_true rfl⟩ hls rfl (Nat.le_of_ble_eq_true rfl) dL_law_424 ⟨show cells + 0 ≤ 600000 from Nat.le_trans (Nat.add_le_add_right hc0 0) (by decide), show slots + 0 ≤ 7302250 from Nat.le_trans (Nat.add_le_add_right hs0 0) (by decide)⟩ [0, 2, 65, 71, 72, 3, 24, 25, 26] rfl rfl (fun _ => rfl) (fun r_1 u_1 H locs w_1 h_1 => ?_)
    clear h
    obtain ⟨wr_1, _⟩ := w_1
    replace h_1 := q_pX (ix := [some 0, none, some 1, some 5, none, none, none, none, none, none, none, none, none, none, none, none, none, none, none, none, none, none, none, none, some 6, some 7, some 8, none, none, none, none, none, none, none, none, none, none, none, none, none, none, none, none, none, none, none, none, none, none, none, none, none, none, none, none, none, none, none, none, none, none, none, none, none, none, some 2, none, none, none, none, none, some 3, some 4]) h_1 rfl rfl (by decide +kernel) rfl (by decide +kernel)
    have hmono : ∀ a, hv a → HouseIn cy pl a := fun a ha => by rw [ehv] at ha; exact ha
    exact kk r_1 _ _ _ (fun _ k_ => k_ (tp) (nw) (nwv) (bf) (bfv) (tr) (trv) (hsy) (trs) (ty0) (ty0r) (ty1) (ty1r) (ty2) (ty2r) (ty3) (ty3r) (ims) (im0) (im0v) (im1) (im1v) (imm) (sc) (scg) (sch) (ci) (cir) (cipa) (ciw) (tu) (tup) (tuq) (tuf) (tub) (gu) (guf) (tk) (tkk) (tkp) (tkv) (rd) (rdc) (hpa) (hh) (hob) (hot) (hoi0) (hoi1) (xtl) (xfk) (xfp) (xch) (nwd) (nwa) (bfd) (bfa) (trd) (tra) (his) (ty0s) (ty0z) (ty1s) (ty1z) (ty2s) (ty2z) (ty3s) (ty3z) (im0d) (im0a) (im1d) (im1a) (cip) (tuo) (tut) (tus) (tul) (guo) (gup) (gus) (guz) (tkl) (tkz) (rda) (rdt) (rdf) (rdp) (rdz) (rdn) (tkt) (rto) (ftp) (nwfv) (bffv) (trfv) (ktr) (gty0) (gty1) (gty2) (gty3) (kim) (im0fv) (im1fv) (fimm) ((u_1.2.1 0)) ((u_1.2.1 1)) (fcir) (fcipa) (fciw) (ftup) (ftuq) (ftuf) (ftub) (fguf) (ftkk) (ftkp) (ftkv) (frdc) (vb) (hxtl) (rftp) (rnwfv) (rbffv) (rtrfv) (hhis) (hktr0) (hktr1) (hktr2) (hktr3) (hty0s) (hty0z) (hty1s) (hty1z) (hty2s) (hty2z) (hty3s) (hty3z) (hkim0) (hkim1) (rim0fv) (rim1fv) (hcip) (rfcir) (htuo) (htut) (htul) (rftuq) (rftuf) (hguo) (hguz) (rfguf) (htkl) (htkz) (hrda) (hrdz) (hb_mono okvb hmono) (hmono _ HHhh) (hmono _ HHhob) (hmono _ HHhot) (hmono _ HHhoi0) (hmono _ HHhoi1) (rfl) (rfl) (rfl) (rfl) rfl rfl) (q_back h_1 hp rfl)
set_option maxHeartbeats 8000000 in
set_option maxRecDepth 100000 in
theorem mc_opposites (l : Launch) {p : Program} {e : Env} {s : State} {m : MethodId} {below : List Frame} {meth : Method} {c : Code} {b : Nat} {Q : State → Prop} {D : va_G} {cy : Nat → ClassId} {H : Heap} {locs : List Loc} {ls : Array Slot} (X : qX p s m #[Value.ref b] c cL_law 4 RL) (hK : qK D cy s) (hT : qT cy (fun q => s.heap.size ≤ q) s) (hls : ls.size = 4) {m0 cells slots : Nat} {P wm : va_W} {a_1 : Int32} {gt : Int} {gb : Nat → Int} {gf : Int} {gp : Int} (hc0 : cells ≤ 26000) (hs0 : slots ≤ 5720000) (hM : MOK cy m0 wm gt gb gf gp) (h : qW D (fun q => s.heap.size ≤ q) s.heap (wm ++ P) H locs) (kk : ∀ (r : Int32) (H : Heap) (locs : List Loc) (w2 : va_W), MOK cy m0 w2 gt gb gf gp → qW D (fun q => s.heap.size ≤ q) s.heap (w2 ++ P) H locs → W p l e room_1 s m #[Value.ref b] below meth c H locs cells slots Q (F0 m 437 ls [.int r])) : W p l e room_1 s m #[Value.ref b] below meth c H locs cells slots Q (F0 m 434 ls [.int a_1, .ref m0]) := by
  have hA : ∀ q : Nat, s.heap.size ≤ q → (fun q => s.heap.size ≤ q) q := fun _ h => h
  refine hM _ ?_
  clear hM
  intros al hs mtp fr rec wds swd opd was par wth bwt met mtw_ mtf trn ism rso rmy nms mth mtd mat mbh msz mki mnu mwr mwa mfk mfp mrd mtw mx mbt mbw mtu nde fnl fnv fnp fnc fal fhs fmtp ffr frec fwds fswd fopd fwas fpar fwth fbwt fmet fmtw fmtf ftrn fism frso frmy gnms hmtd hmat hmbh hmsz hmnu hnde htal_84 rfal hfnl htfr_0 htfr_1 hfnp htfr_2 hfnc htfr_405 rfswd rfopd rfwas rfmet rfrmy eg0 eg1 eg2 eg3 hw_
  subst eg0
  subst eg1
  subst eg2
  subst eg3
  subst hw_
  refine q_callViF (rest := []) X hK hT hA h (fun sz => gX12_opposites_bc4718e l D cy m0 al rec wds a_1 mth (.ref hs) (.ref mtp) (.ref fr) mtd mat mbh msz mki mnu mwr mwa mfk mfp mrd (.ref swd) (.ref opd) (.ref was) mtw mx (.ref par) (.ref wth) (.ref bwt) mbt mbw (.ref met) (.ref mtw_) (.ref mtf) (.ref trn) (.ref ism) mtu (.ref rso) (.ref rmy) (.ref nms) fal nde frec fwds (i_rng _) (i_rng _) hmtd hmat hmbh hmsz (i_rng _) hmnu (i_rng _) (i_rng _) (i_rng _) (i_rng _) (i_rng _) (i_rng _) (i_rng _) (i_rng _) (i_rng _) (i_rng _) hnde htal_84 rfal sz) wm_6_204 wm_6_207 wm_1_12 hd_X12_opposites wm_6_205 wm_6_206 (ci := 12) (q0 := 0) rfl rfl ⟨Nat.le_of_ble_eq_true rfl, Nat.le_of_ble_eq_true rfl⟩ hls rfl (Nat.le_of_ble_eq_true rfl) dL_law_434 ⟨show cells + 0 ≤ 600000 from Nat.le_trans (Nat.add_le_add_right hc0 0) (by decide), show slots + 0 ≤ 7302250 from Nat.le_trans (Nat.add_le_add_right hs0 0) (by decide)⟩ [0, 1, 5, 6] rfl rfl (fun _ => rfl) (fun r_1 u_1 H locs w_1 h_1 => ?_)
  clear h
  obtain ⟨wr_1, w1_0, _⟩ := w_1
  exact kk r_1 _ _ _ (fun _ k_ => k_ (al) (hs) (mtp) (fr) (rec) (wds) (swd) (opd) (was) (par) (wth) (bwt) (met) (mtw_) (mtf) (trn) (ism) (rso) (rmy) (nms) ((u_1.2.1 2 0)) (mtd) (mat) (mbh) (msz) (mki) (mnu) (mwr) (mwa) (mfk) (mfp) (mrd) (mtw) (mx) (mbt) (mbw) (mtu) (nde) (fnl) (fnv) (fnp) (fnc) (fal) (fhs) (fmtp) (ffr) ((u_1.2.1 0)) ((u_1.2.1 1)) (fswd) (fopd) (fwas) (fpar) (fwth) (fbwt) (fmet) (fmtw) (fmtf) (ftrn) (fism) (frso) (frmy) (gnms) (hmtd) (hmat) (hmbh) (hmsz) (hmnu) (hnde) (htal_84) (rfal) (hfnl) (htfr_0) (htfr_1) (hfnp) (htfr_2) (hfnc) (htfr_405) (rfswd) (rfopd) (rfwas) (rfmet) (rfrmy) (rfl) (rfl) (rfl) (rfl) rfl) h_1
set_option maxHeartbeats 8000000 in
set_option maxRecDepth 100000 in
theorem lc_opposites (l : Launch) {p : Program} {e : Env} {s : State} {m : MethodId} {below : List Frame} {meth : Method} {c : Code} {b : Nat} {xs : Nat → Int32} {Q : State → Prop} {D : va_G} {cy : Nat → ClassId} {H : Heap} {locs : List Loc} {ls : Array Slot} {x0 m0 L k cells slots : Nat} {i : Int32} {tl : Int} (X : qX p s m #[Value.ref b] c cL_law 4 RL) (hK : qK D cy s) (hT : qT cy (fun q => s.heap.size ≤ q) s) (hX : va_X b L xs s s.heap) (hbl : b < s.heap.size) (hi : 0 ≤ i.toInt ∧ i.toInt + 6 ≤ L ∧ L ≤ 3072) (hk : k < 512) (hcell : cells + tl.toNat ≤ 200 + 50 * k) (hslot : slots + 451 * tl.toNat ≤ 30000 + 11100 * k) (hl : lv_has ls 4 [(3, .int i), (2, .ref m0), (1, .ref x0), (0, .ref b)]) (hI : LInv cy D (fun q => s.heap.size ≤ q) s.heap x0 m0 H locs tl) (kk : ∀ (H : Heap) (locs : List Loc) (ls : Array Slot) (cells slots : Nat) (tl : Int), lv_has ls 4 [(3, .int i), (2, .ref m0), (1, .ref x0), (0, .ref b)] → LInv cy D (fun q => s.heap.size ≤ q) s.heap x0 m0 H locs tl → cells + tl.toNat ≤ 200 + 50 * (k + 1) → slots + 451 * tl.toNat ≤ 30000 + 11100 * (k + 1) → W p l e room_1 s m #[Value.ref b] below meth c H locs cells slots Q (F0 m 1459 ls [])) : W p l e room_1 s m #[Value.ref b] below meth c H locs cells slots Q (F0 m 418 ls []) := by
  obtain ⟨hx, hb, hml, hown, ht⟩ := id X
  have hA : ∀ q : Nat, s.heap.size ≤ q → (fun q => s.heap.size ≤ q) q := fun _ h => h
  have hbA : ¬ (fun q : Nat => s.heap.size ≤ q) b := Nat.not_le.mpr hbl
  have hc0 : cells ≤ 26000 := by omega
  have hs0 : slots ≤ 5720000 := by omega
  obtain ⟨gt, gb, gf, gp, wm, wx, pl, hMo, hXo, h⟩ := hI
  refine lv_aload_n hx hb dL_law_418 rfl (lv_at hl 2 rfl) ?_
  refine lv_aload_n hx hb dL_law_419 rfl (lv_at hl 3 rfl) ?_
  refine lv_iload_n hx hb dL_law_420 rfl (lv_at hl 0 rfl) ?_
  refine lv_iconst (v := 1) hx hb dL_law_421 (by decide) ?_
  refine lv_iadd hx hb dL_law_422 ?_
  obtain ⟨z_1, ez_1, hz_1⟩ := li_add hi 1 (n := 1) (by decide) (by decide) (by decide)
  refine q_c z_1 ez_1 ?_
  clear ez_1
  refine va_sld hx hb hX hbl hbA h.2.2 (li_in hi hz_1 (by decide) (by decide)) dL_law_423 ?_
  obtain ⟨x_1, ex_1, hx_1⟩ := e_any (xs (z_1).toNatClampNeg)
  refine q_c x_1 ex_1 ?_
  replace h := q_rotX h
  refine xc_opposites l X hK hT hl.1 hc0 hs0 hXo h (fun r_2 H locs wx hXo h => ?_)
  refine lv_pop hx hb dL_law_427 rfl ?_
  refine lv_aload_n hx hb dL_law_428 rfl (lv_at hl 1 rfl) ?_
  refine lv_aload_n hx hb dL_law_429 rfl (lv_at hl 3 rfl) ?_
  refine lv_iload_n hx hb dL_law_430 rfl (lv_at hl 0 rfl) ?_
  refine lv_iconst (v := 1) hx hb dL_law_431 (by decide) ?_
  refine lv_iadd hx hb dL_law_432 ?_
  obtain ⟨z_3, ez_3, hz_3⟩ := li_add hi 1 (n := 1) (by decide) (by decide) (by decide)
  refine q_c z_3 ez_3 ?_
  clear ez_3
  refine va_sld hx hb hX hbl hbA h.2.2 (li_in hi hz_3 (by decide) (by decide)) dL_law_433 ?_
  refine q_c x_1 ((congrArg xs (cl_eq (x := z_3) (y := z_1) (hz_3.trans hz_1.symm))).trans ex_1) ?_
  replace h := q_rotM h
  refine mc_opposites l X hK hT hl.1 hc0 hs0 hMo h (fun r_4 H locs wm hMo h => ?_)
  refine lv_pop hx hb dL_law_437 rfl ?_
  refine lv_goto (tgt := 1459) hx hb dL_law_438 (by decide) ?_
  exact kk _ _ _ cells slots tl (lv_sub hl [0, 1, 2, 3] rfl) ⟨_, _, _, _, _, _, _, hMo, hXo, h⟩ (li_c hcell) (li_s hslot)
set_option maxHeartbeats 8000000 in
set_option maxRecDepth 100000 in
theorem xc_talk (l : Launch) {p : Program} {e : Env} {s : State} {m : MethodId} {below : List Frame} {meth : Method} {c : Code} {b : Nat} {Q : State → Prop} {D : va_G} {cy : Nat → ClassId} {H : Heap} {locs : List Loc} {ls : Array Slot} (X : qX p s m #[Value.ref b] c cL_law 4 RL) (hK : qK D cy s) (hT : qT cy (fun q => s.heap.size ≤ q) s) (hls : ls.size = 4) {x0 cells slots : Nat} {P pl wx : va_W} {tl : Int} {a_1 : Int32} {a_2 : Int32} {gt : Int} {gb : Nat → Int} {gf : Int} {gp : Int} (hc0 : cells ≤ 26000) (hs0 : slots ≤ 5720000) (hX : XOK cy x0 pl wx tl gt gb gf gp) (h : qW D (fun q => s.heap.size ≤ q) s.heap (wx ++ (pl ++ P)) H locs) (kk : ∀ (r : Int32) (H : Heap) (locs : List Loc) (w2 : va_W), XOK cy x0 pl w2 tl gt gb gf gp → qW D (fun q => s.heap.size ≤ q) s.heap (w2 ++ (pl ++ P)) H locs → W p l e room_1 s m #[Value.ref b] below meth c H locs cells slots Q (F0 m 455 ls [.int r])) : W p l e room_1 s m #[Value.ref b] below meth c H locs cells slots Q (F0 m 452 ls [.int a_2, .int a_1, .ref x0]) := by
  have hA : ∀ q : Nat, s.heap.size ≤ q → (fun q => s.heap.size ≤ q) q := fun _ h => h
  refine hX _ ?_
  clear hX
  intros tp nw nwv bf bfv tr trv hsy trs ty0 ty0r ty1 ty1r ty2 ty2r ty3 ty3r ims im0 im0v im1 im1v imm sc scg sch ci cir cipa ciw tu tup tuq tuf tub gu guf tk tkk tkp tkv rd rdc hpa hh hob hot hoi0 hoi1 xtl xfk xfp xch nwd nwa bfd bfa trd tra his ty0s ty0z ty1s ty1z ty2s ty2z ty3s ty3z im0d im0a im1d im1a cip tuo tut tus tul guo gup gus guz tkl tkz rda rdt rdf rdp rdz rdn tkt rto ftp nwfv bffv trfv ktr gty0 gty1 gty2 gty3 kim im0fv im1fv fimm fscg fsch fcir fcipa fciw ftup ftuq ftuf ftub fguf ftkk ftkp ftkv frdc vb hxtl rftp rnwfv rbffv rtrfv hhis hktr0 hktr1 hktr2 hktr3 hty0s hty0z hty1s hty1z hty2s hty2z hty3s hty3z hkim0 hkim1 rim0fv rim1fv hcip rfcir htuo htut htul rftuq rftuf hguo hguz rfguf htkl htkz hrda hrdz okvb HHhh HHhob HHhot HHhoi0 HHhoi1 eg0 eg1 eg2 eg3 htl hw_
  subst eg0
  subst eg1
  subst eg2
  subst eg3
  subst htl
  subst hw_
  have HX := HHhh
  obtain ⟨hv, ehv⟩ : ∃ hv : Nat → Prop, hv = HouseIn cy pl := ⟨_, rfl⟩
  rw [← ehv] at okvb HHhh HHhob HHhot HHhoi0 HHhoi1
  obtain ⟨hnl, hnp, hnt, hns, w4, w5, w6, hha, hhb, hhc, hhd, hhe, fha, fhb, fhc, fhd, fhe, L4, L5, L6, b1, b2, b3, l4, l5, l6, hm, hn⟩ := HX
  obtain ⟨r, hp⟩ := house_pick hm hn (L4 ++ L6) ((List.sublist_append_left L4 L5).append (List.Sublist.refl L6))
  rcases l4 with ⟨rfl, rfl⟩ | ⟨la4, las4, n4, fs4, rfl, hn4, rfl⟩
  · skip
    rcases l6 with ⟨rfl, rfl⟩ | ⟨la6, las6, n6, fs6, rfl, hn6, rfl⟩
    · skip
      replace h := q_open h hp
      refine q_callViF (rest := []) X hK hT hA h (fun sz => gX11_talk_744436e l D cy x0 nw hh hhb hhc nwv bf bfv hsy sc scg hpa hv a_1 a_2 (.ref tp) xtl xfk xfp (.ref rd) (.ref tr) (.ref trs) (.ref ims) (.ref imm) (.ref ci) (.ref tu) (.ref gu) xch nwd nwa hnl hnp hnt hns w5 (.ref hha) (.ref hhd) (.ref hhe) fhb fhc nwfv hob bfd bfa bffv his (.ref sch) fscg vb (i_rng _) (i_rng _) hxtl (i_rng _) (i_rng _) (i_rng _) (i_rng _) (i_rng _) b1 b2 (i_rng _) (i_rng _) (i_rng _) (i_rng _) hhis (rg_wide rnwfv (by decide) (by decide)) (rg_wide rbffv (by decide) (by decide)) okvb (HHhh) (by assumption) sz) wm_3_232 wm_3_235 wm_1_1 hd_X11_talk wm_3_233 wm_3_234 (ci := 11) (q0 := 0) rfl rfl ⟨Nat.le_of_ble_eq_true rfl, Nat.le_of_ble_eq_true rfl⟩ hls rfl (Nat.le_of_ble_eq_true rfl) dL_law_452 ⟨show cells + 0 ≤ 600000 from Nat.le_trans (Nat.add_le_add_right hc0 0) (by decide), show slots + 0 ≤ 7302250 from Nat.le_trans (Nat.add_le_add_right hs0 0) (by decide)⟩ [0, 2, 65, 67, 68, 3, 4, 5, 8, 24, 25, 44, 45, 46, 47, 48, 49, 50, 51, 52, 53, 54, 55, 56, 57, 58, 59, 60, 61, 62, 63, 64] rfl rfl (fun _ => rfl) (fun r_1 u_1 H locs w_1 h_1 => ?_)
      clear h
      obtain ⟨wr_1, w1_0, w1_1, w1_2, w1_3, w1_4, w1_5, w1_6, w1_7, w1_8, y1_0, _⟩ := w_1
      replace h_1 := q_pX (ix := [some 0, none, some 1, some 5, some 6, some 7, none, none, some 8, none, none, none, none, none, none, none, none, none, none, none, none, none, none, none, some 9, some 10, none, none, none, none, none, none, none, none, none, none, none, none, none, none, none, none, none, none, some 11, some 12, some 13, some 14, some 15, some 16, some 17, some 18, some 19, some 20, some 21, some 22, some 23, some 24, some 25, some 26, some 27, some 28, some 29, some 30, some 31, some 2, none, some 3, some 4, none, none]) h_1 rfl rfl (by decide +kernel) rfl (by decide +kernel)
      have hmono : ∀ a, hv a → HouseIn cy pl a := fun a ha => by rw [ehv] at ha; exact ha
      exact kk r_1 _ _ _ (fun _ k_ => k_ (tp) (nw) (nwv) (bf) (bfv) (tr) (trv) (hsy) (trs) (ty0) (ty0r) (ty1) (ty1r) (ty2) (ty2r) (ty3) (ty3r) (ims) (im0) (im0v) (im1) (im1v) (imm) (sc) (scg) (sch) (ci) (cir) (cipa) (ciw) (tu) (tup) (tuq) (tuf) (tub) (gu) (guf) (tk) (tkk) (tkp) (tkv) (rd) (rdc) (hpa) (hh) ((u_1.1 0)) (hot) (hoi0) (hoi1) (xtl) (xfk) (xfp) ((u_1.2.1 0 0)) ((u_1.2.1 1 0)) ((u_1.2.1 2 0)) ((u_1.2.1 4 0)) ((u_1.2.1 5 0)) (trd) (tra) ((u_1.2.1 7 0)) (ty0s) (ty0z) (ty1s) (ty1z) (ty2s) (ty2z) (ty3s) (ty3z) (im0d) (im0a) (im1d) (im1a) (cip) (tuo) (tut) (tus) (tul) (guo) (gup) (gus) (guz) (tkl) (tkz) (rda) (rdt) (rdf) (rdp) (rdz) (rdn) (tkt) (rto) (ftp) ((u_1.2.1 3)) ((u_1.2.1 6)) (trfv) (ktr) (gty0) (gty1) (gty2) (gty3) (kim) (im0fv) (im1fv) (fimm) ((u_1.2.1 8)) (fsch) (fcir) (fcipa) (fciw) (ftup) (ftuq) (ftuf) (ftub) (fguf) (ftkk) (ftkp) (ftkv) (frdc) ((fun k => u_1.1 (k + 1), fun k => u_1.2.1 (k + 9), u_1.2.2)) (hxtl) (rftp) (w1_3) (w1_6) (rtrfv) (w1_7) (hktr0) (hktr1) (hktr2) (hktr3) (hty0s) (hty0z) (hty1s) (hty1z) (hty2s) (hty2z) (hty3s) (hty3z) (hkim0) (hkim1) (rim0fv) (rim1fv) (hcip) (rfcir) (htuo) (htut) (htul) (rftuq) (rftuf) (hguo) (hguz) (rfguf) (htkl) (htkz) (hrda) (hrdz) (hb_mono w1_8 hmono) (hmono _ HHhh) (hmono _ (by assumption)) (hmono _ HHhot) (hmono _ HHhoi0) (hmono _ HHhoi1) (rfl) (rfl) (rfl) (rfl) rfl rfl) (q_back h_1 hp rfl)
    · skip
      replace h := q_open h hp
      refine q_callViF (rest := []) X hK hT hA h (fun sz => gX11_talk_4fbe0fc l D cy x0 nw hh la6 las6 hhb hhc nwv bf bfv hsy sc scg sch hpa hv a_1 a_2 (.ref tp) xtl xfk xfp (.ref rd) (.ref tr) (.ref trs) (.ref ims) (.ref imm) (.ref ci) (.ref tu) (.ref gu) xch nwd nwa hnl hnp hnt hns w5 (.ref hha) (.ref hhd) (.ref hhe) n6 fs6 fhb fhc nwfv hob bfd bfa bffv his fscg fsch vb (i_rng _) (i_rng _) hxtl (i_rng _) (i_rng _) (i_rng _) (i_rng _) (i_rng _) b1 b2 (i_rng _) (i_rng _) (by omega) (i_rng _) (i_rng _) hhis (rg_wide rnwfv (by decide) (by decide)) (rg_wide rbffv (by decide) (by decide)) okvb (HHhh) (by assumption) sz) wm_3_232 wm_3_235 wm_1_1 hd_X11_talk wm_3_233 wm_3_234 (ci := 11) (q0 := 0) rfl rfl ⟨Nat.le_of_ble_eq_true rfl, Nat.le_of_ble_eq_true rfl⟩ hls rfl (Nat.le_of_ble_eq_true rfl) dL_law_452 ⟨show cells + 0 ≤ 600000 from Nat.le_trans (Nat.add_le_add_right hc0 0) (by decide), show slots + 0 ≤ 7302250 from Nat.le_trans (Nat.add_le_add_right hs0 0) (by decide)⟩ [0, 2, 65, 71, 72, 67, 68, 3, 4, 5, 8, 24, 25, 26, 44, 45, 46, 47, 48, 49, 50, 51, 52, 53, 54, 55, 56, 57, 58, 59, 60, 61, 62, 63, 64] rfl rfl (fun _ => rfl) (fun r_1 u_1 H locs w_1 h_1 => ?_)
      clear h
      obtain ⟨wr_1, w1_0, w1_1, w1_2, w1_3, w1_4, w1_5, w1_6, w1_7, w1_8, y1_0, _⟩ := w_1
      replace h_1 := q_pX (ix := [some 0, none, some 1, some 7, some 8, some 9, none, none, some 10, none, none, none, none, none, none, none, none, none, none, none, none, none, none, none, some 11, some 12, some 13, none, none, none, none, none, none, none, none, none, none, none, none, none, none, none, none, none, some 14, some 15, some 16, some 17, some 18, some 19, some 20, some 21, some 22, some 23, some 24, some 25, some 26, some 27, some 28, some 29, some 30, some 31, some 32, some 33, some 34, some 2, none, some 5, some 6, none, none, some 3, some 4]) h_1 rfl rfl (by decide +kernel) rfl (by decide +kernel)
      have hmono : ∀ a, hv a → HouseIn cy pl a := fun a ha => by rw [ehv] at ha; exact ha
      exact kk r_1 _ _ _ (fun _ k_ => k_ (tp) (nw) (nwv) (bf) (bfv) (tr) (trv) (hsy) (trs) (ty0) (ty0r) (ty1) (ty1r) (ty2) (ty2r) (ty3) (ty3r) (ims) (im0) (im0v) (im1) (im1v) (imm) (sc) (scg) (sch) (ci) (cir) (cipa) (ciw) (tu) (tup) (tuq) (tuf) (tub) (gu) (guf) (tk) (tkk) (tkp) (tkv) (rd) (rdc) (hpa) (hh) ((u_1.1 0)) (hot) (hoi0) (hoi1) (xtl) (xfk) (xfp) ((u_1.2.1 0 0)) ((u_1.2.1 1 0)) ((u_1.2.1 2 0)) ((u_1.2.1 4 0)) ((u_1.2.1 5 0)) (trd) (tra) ((u_1.2.1 7 0)) (ty0s) (ty0z) (ty1s) (ty1z) (ty2s) (ty2z) (ty3s) (ty3z) (im0d) (im0a) (im1d) (im1a) (cip) (tuo) (tut) (tus) (tul) (guo) (gup) (gus) (guz) (tkl) (tkz) (rda) (rdt) (rdf) (rdp) (rdz) (rdn) (tkt) (rto) (ftp) ((u_1.2.1 3)) ((u_1.2.1 6)) (trfv) (ktr) (gty0) (gty1) (gty2) (gty3) (kim) (im0fv) (im1fv) (fimm) ((u_1.2.1 8)) ((u_1.2.1 9)) (fcir) (fcipa) (fciw) (ftup) (ftuq) (ftuf) (ftub) (fguf) (ftkk) (ftkp) (ftkv) (frdc) ((fun k => u_1.1 (k + 1), fun k => u_1.2.1 (k + 10), u_1.2.2)) (hxtl) (rftp) (w1_3) (w1_6) (rtrfv) (w1_7) (hktr0) (hktr1) (hktr2) (hktr3) (hty0s) (hty0z) (hty1s) (hty1z) (hty2s) (hty2z) (hty3s) (hty3z) (hkim0) (hkim1) (rim0fv) (rim1fv) (hcip) (rfcir) (htuo) (htut) (htul) (rftuq) (rftuf) (hguo) (hguz) (rfguf) (htkl) (htkz) (hrda) (hrdz) (hb_mono w1_8 hmono) (hmono _ HHhh) (hmono _ (by assumption)) (hmono _ HHhot) (hmono _ HHhoi0) (hmono _ HHhoi1) (rfl) (rfl) (rfl) (rfl) rfl rfl) (q_back h_1 hp rfl)
  · skip
    rcases l6 with ⟨rfl, rfl⟩ | ⟨la6, las6, n6, fs6, rfl, hn6, rfl⟩
    · skip
      replace h := q_open h hp
      refine q_callViF (rest := []) X hK hT hA h (fun sz => gX11_talk_44f587d l D cy x0 nw hh la4 las4 hhb hhc nwv bf bfv hsy sc scg sch hpa hv a_1 a_2 (.ref tp) xtl xfk xfp (.ref rd) (.ref tr) (.ref trs) (.ref ims) (.ref imm) (.ref ci) (.ref tu) (.ref gu) xch nwd nwa hnl hnp hnt hns w5 (.ref hha) (.ref hhd) (.ref hhe) n4 fs4 fhb fhc nwfv hob bfd bfa bffv his fscg fsch vb (i_rng _) (i_rng _) hxtl (i_rng _) (i_rng _) (i_rng _) (i_rng _) (i_rng _) b1 b2 (i_rng _) (i_rng _) (by omega) (i_rng _) (i_rng _) hhis (rg_wide rnwfv (by decide) (by decide)) (rg_wide rbffv (by decide) (by decide)) okvb (HHhh) (by assumption) sz) wm_3_232 wm_3_235 wm_1_1 hd_X11_talk wm_3_233 wm_3_234 (ci := 11) (q0 := 0) rfl rfl ⟨Nat.le_of_ble_eq_true rfl, Nat.le_of_ble_eq_true rfl⟩ hls rfl (Nat.le_of_ble_eq_true rfl) dL_law_452 ⟨show cells + 0 ≤ 600000 from Nat.le_trans (Nat.add_le_add_right hc0 0) (by decide), show slots + 0 ≤ 7302250 from Nat.le_trans (Nat.add_le_add_right hs0 0) (by decide)⟩ [0, 2, 65, 71, 72, 67, 68, 3, 4, 5, 8, 24, 25, 26, 44, 45, 46, 47, 48, 49, 50, 51, 52, 53, 54, 55, 56, 57, 58, 59, 60, 61, 62, 63, 64] rfl rfl (fun _ => rfl) (fun r_1 u_1 H locs w_1 h_1 => ?_)
      clear h
      obtain ⟨wr_1, w1_0, w1_1, w1_2, w1_3, w1_4, w1_5, w1_6, w1_7, w1_8, y1_0, _⟩ := w_1
      replace h_1 := q_pX (ix := [some 0, none, some 1, some 7, some 8, some 9, none, none, some 10, none, none, none, none, none, none, none, none, none, none, none, none, none, none, none, some 11, some 12, some 13, none, none, none, none, none, none, none, none, none, none, none, none, none, none, none, none, none, some 14, some 15, some 16, some 17, some 18, some 19, some 20, some 21, some 22, some 23, some 24, some 25, some 26, some 27, some 28, some 29, some 30, some 31, some 32, some 33, some 34, some 2, none, some 5, some 6, none, none, some 3, some 4]) h_1 rfl rfl (by decide +kernel) rfl (by decide +kernel)
      have hmono : ∀ a, hv a → HouseIn cy pl a := fun a ha => by rw [ehv] at ha; exact ha
      exact kk r_1 _ _ _ (fun _ k_ => k_ (tp) (nw) (nwv) (bf) (bfv) (tr) (trv) (hsy) (trs) (ty0) (ty0r) (ty1) (ty1r) (ty2) (ty2r) (ty3) (ty3r) (ims) (im0) (im0v) (im1) (im1v) (imm) (sc) (scg) (sch) (ci) (cir) (cipa) (ciw) (tu) (tup) (tuq) (tuf) (tub) (gu) (guf) (tk) (tkk) (tkp) (tkv) (rd) (rdc) (hpa) (hh) ((u_1.1 0)) (hot) (hoi0) (hoi1) (xtl) (xfk) (xfp) ((u_1.2.1 1 0)) ((u_1.2.1 2 0)) ((u_1.2.1 3 0)) ((u_1.2.1 5 0)) ((u_1.2.1 6 0)) (trd) (tra) ((u_1.2.1 8 0)) (ty0s) (ty0z) (ty1s) (ty1z) (ty2s) (ty2z) (ty3s) (ty3z) (im0d) (im0a) (im1d) (im1a) (cip) (tuo) (tut) (tus) (tul) (guo) (gup) (gus) (guz) (tkl) (tkz) (rda) (rdt) (rdf) (rdp) (rdz) (rdn) (tkt) (rto) (ftp) ((u_1.2.1 4)) ((u_1.2.1 7)) (trfv) (ktr) (gty0) (gty1) (gty2) (gty3) (kim) (im0fv) (im1fv) (fimm) ((u_1.2.1 9)) ((u_1.2.1 0)) (fcir) (fcipa) (fciw) (ftup) (ftuq) (ftuf) (ftub) (fguf) (ftkk) (ftkp) (ftkv) (frdc) ((fun k => u_1.1 (k + 1), fun k => u_1.2.1 (k + 10), u_1.2.2)) (hxtl) (rftp) (w1_3) (w1_6) (rtrfv) (w1_7) (hktr0) (hktr1) (hktr2) (hktr3) (hty0s) (hty0z) (hty1s) (hty1z) (hty2s) (hty2z) (hty3s) (hty3z) (hkim0) (hkim1) (rim0fv) (rim1fv) (hcip) (rfcir) (htuo) (htut) (htul) (rftuq) (rftuf) (hguo) (hguz) (rfguf) (htkl) (htkz) (hrda) (hrdz) (hb_mono w1_8 hmono) (hmono _ HHhh) (hmono _ (by assumption)) (hmono _ HHhot) (hmono _ HHhoi0) (hmono _ HHhoi1) (rfl) (rfl) (rfl) (rfl) rfl rfl) (q_back h_1 hp rfl)
    · skip
      replace h := q_open h hp
      refine q_callViF (rest := []) X hK hT hA h (fun sz => gX11_talk_3d3bb3d l D cy x0 nw hh la4 las4 la6 las6 hhb hhc nwv bf bfv hsy sc scg sch hpa hv a_1 a_2 (.ref tp) xtl xfk xfp (.ref rd) (.ref tr) (.ref trs) (.ref ims) (.ref imm) (.ref ci) (.ref tu) (.ref gu) xch nwd nwa hnl hnp hnt hns w5 (.ref hha) (.ref hhd) (.ref hhe) n4 fs4 n6 fs6 fhb fhc nwfv hob bfd bfa bffv his fscg fsch vb (i_rng _) (i_rng _) hxtl (i_rng _) (i_rng _) (i_rng _) (i_rng _) (i_rng _) b1 b2 (i_rng _) (i_rng _) (by omega) (by omega) (i_rng _) (i_rng _) hhis (rg_wide rnwfv (by decide) (by decide)) (rg_wide rbffv (by decide) (by decide)) okvb (HHhh) (by assumption) sz) wm_3_232 wm_3_235 wm_1_1 hd_X11_talk wm_3_233 wm_3_234 (ci := 11) (q0 := 0) rfl rfl ⟨Nat.le_of_ble_eq_true rfl, Nat.le_of_ble_eq_true rfl⟩ hls rfl (Nat.le_of_ble_eq_true rfl) dL_law_452 ⟨show cells + 0 ≤ 600000 from Nat.le_trans (Nat.add_le_add_right hc0 0) (by decide), show slots + 0 ≤ 7302250 from Nat.le_trans (Nat.add_le_add_right hs0 0) (by decide)⟩ [0, 2, 65, 71, 72, 73, 74, 67, 68, 3, 4, 5, 8, 24, 25, 26, 44, 45, 46, 47, 48, 49, 50, 51, 52, 53, 54, 55, 56, 57, 58, 59, 60, 61, 62, 63, 64] rfl rfl (fun _ => rfl) (fun r_1 u_1 H locs w_1 h_1 => ?_)
      clear h
      obtain ⟨wr_1, w1_0, w1_1, w1_2, w1_3, w1_4, w1_5, w1_6, w1_7, w1_8, y1_0, _⟩ := w_1
      replace h_1 := q_pX (ix := [some 0, none, some 1, some 9, some 10, some 11, none, none, some 12, none, none, none, none, none, none, none, none, none, none, none, none, none, none, none, some 13, some 14, some 15, none, none, none, none, none, none, none, none, none, none, none, none, none, none, none, none, none, some 16, some 17, some 18, some 19, some 20, some 21, some 22, some 23, some 24, some 25, some 26, some 27, some 28, some 29, some 30, some 31, some 32, some 33, some 34, some 35, some 36, some 2, none, some 7, some 8, none, none, some 3, some 4, some 5, some 6]) h_1 rfl rfl (by decide +kernel) rfl (by decide +kernel)
      have hmono : ∀ a, hv a → HouseIn cy pl a := fun a ha => by rw [ehv] at ha; exact ha
      exact kk r_1 _ _ _ (fun _ k_ => k_ (tp) (nw) (nwv) (bf) (bfv) (tr) (trv) (hsy) (trs) (ty0) (ty0r) (ty1) (ty1r) (ty2) (ty2r) (ty3) (ty3r) (ims) (im0) (im0v) (im1) (im1v) (imm) (sc) (scg) (sch) (ci) (cir) (cipa) (ciw) (tu) (tup) (tuq) (tuf) (tub) (gu) (guf) (tk) (tkk) (tkp) (tkv) (rd) (rdc) (hpa) (hh) ((u_1.1 0)) (hot) (hoi0) (hoi1) (xtl) (xfk) (xfp) ((u_1.2.1 0 0)) ((u_1.2.1 1 0)) ((u_1.2.1 2 0)) ((u_1.2.1 4 0)) ((u_1.2.1 5 0)) (trd) (tra) ((u_1.2.1 7 0)) (ty0s) (ty0z) (ty1s) (ty1z) (ty2s) (ty2z) (ty3s) (ty3z) (im0d) (im0a) (im1d) (im1a) (cip) (tuo) (tut) (tus) (tul) (guo) (gup) (gus) (guz) (tkl) (tkz) (rda) (rdt) (rdf) (rdp) (rdz) (rdn) (tkt) (rto) (ftp) ((u_1.2.1 3)) ((u_1.2.1 6)) (trfv) (ktr) (gty0) (gty1) (gty2) (gty3) (kim) (im0fv) (im1fv) (fimm) ((u_1.2.1 8)) ((u_1.2.1 9)) (fcir) (fcipa) (fciw) (ftup) (ftuq) (ftuf) (ftub) (fguf) (ftkk) (ftkp) (ftkv) (frdc) ((fun k => u_1.1 (k + 1), fun k => u_1.2.1 (k + 10), u_1.2.2)) (hxtl) (rftp) (w1_3) (w1_6) (rtrfv) (w1_7) (hktr0) (hktr1) (hktr2) (hktr3) (hty0s) (hty0z) (hty1s) (hty1z) (hty2s) (hty2z) (hty3s) (hty3z) (hkim0) (hkim1) (rim0fv) (rim1fv) (hcip) (rfcir) (htuo) (htut) (htul) (rftuq) (rftuf) (hguo) (hguz) (rfguf) (htkl) (htkz) (hrda) (hrdz) (hb_mono w1_8 hmono) (hmono _ HHhh) (hmono _ (by assumption)) (hmono _ HHhot) (hmono _ HHhoi0) (hmono _ HHhoi1) (rfl) (rfl) (rfl) (rfl) rfl rfl) (q_back h_1 hp rfl)
set_option maxHeartbeats 8000000 in
set_option maxRecDepth 100000 in
theorem mc_talk (l : Launch) {p : Program} {e : Env} {s : State} {m : MethodId} {below : List Frame} {meth : Method} {c : Code} {b : Nat} {Q : State → Prop} {D : va_G} {cy : Nat → ClassId} {H : Heap} {locs : List Loc} {ls : Array Slot} (X : qX p s m #[Value.ref b] c cL_law 4 RL) (hK : qK D cy s) (hT : qT cy (fun q => s.heap.size ≤ q) s) (hls : ls.size = 4) {m0 cells slots : Nat} {P wm : va_W} {a_1 : Int32} {a_2 : Int32} {gt : Int} {gb : Nat → Int} {gf : Int} {gp : Int} (hc0 : cells ≤ 26000) (hs0 : slots ≤ 5720000) (hM : MOK cy m0 wm gt gb gf gp) (h : qW D (fun q => s.heap.size ≤ q) s.heap (wm ++ P) H locs) (kk : ∀ (r : Int32) (H : Heap) (locs : List Loc) (w2 : va_W), MOK cy m0 w2 gt gb gf gp → qW D (fun q => s.heap.size ≤ q) s.heap (w2 ++ P) H locs → W p l e room_1 s m #[Value.ref b] below meth c H locs cells slots Q (F0 m 470 ls [.int r])) : W p l e room_1 s m #[Value.ref b] below meth c H locs cells slots Q (F0 m 467 ls [.int a_2, .int a_1, .ref m0]) := by
  have hA : ∀ q : Nat, s.heap.size ≤ q → (fun q => s.heap.size ≤ q) q := fun _ h => h
  refine hM _ ?_
  clear hM
  intros al hs mtp fr rec wds swd opd was par wth bwt met mtw_ mtf trn ism rso rmy nms mth mtd mat mbh msz mki mnu mwr mwa mfk mfp mrd mtw mx mbt mbw mtu nde fnl fnv fnp fnc fal fhs fmtp ffr frec fwds fswd fopd fwas fpar fwth fbwt fmet fmtw fmtf ftrn fism frso frmy gnms hmtd hmat hmbh hmsz hmnu hnde htal_84 rfal hfnl htfr_0 htfr_1 hfnp htfr_2 hfnc htfr_405 rfswd rfopd rfwas rfmet rfrmy eg0 eg1 eg2 eg3 hw_
  subst eg0
  subst eg1
  subst eg2
  subst eg3
  subst hw_
  refine q_callViF (rest := []) X hK hT hA h (fun sz => gX12_talk_498b959 l D cy m0 al rec wds swd was a_1 a_2 mth (.ref hs) (.ref mtp) (.ref fr) mtd mat mbh msz mki mnu mwr mwa mfk mfp mrd (.ref opd) mtw mx (.ref par) (.ref wth) (.ref bwt) mbt mbw (.ref met) (.ref mtw_) (.ref mtf) (.ref trn) (.ref ism) mtu (.ref rso) (.ref rmy) (.ref nms) fal nde frec fwds fswd fwas (i_rng _) (i_rng _) (i_rng _) hmtd hmat hmbh hmsz (i_rng _) hmnu (i_rng _) (i_rng _) (i_rng _) (i_rng _) (i_rng _) (i_rng _) (i_rng _) (i_rng _) (i_rng _) (i_rng _) hnde htal_84 rfal (rg_wide rfswd (by decide) (by decide)) rfwas sz) wm_6_212 wm_6_215 wm_1_12 hd_X12_talk wm_6_213 wm_6_214 (ci := 12) (q0 := 0) rfl rfl ⟨Nat.le_of_ble_eq_true rfl, Nat.le_of_ble_eq_true rfl⟩ hls rfl (Nat.le_of_ble_eq_true rfl) dL_law_467 ⟨show cells + 0 ≤ 600000 from Nat.le_trans (Nat.add_le_add_right hc0 0) (by decide), show slots + 0 ≤ 7302250 from Nat.le_trans (Nat.add_le_add_right hs0 0) (by decide)⟩ [0, 1, 5, 6, 7, 9] rfl rfl (fun _ => rfl) (fun r_1 u_1 H locs w_1 h_1 => ?_)
  clear h
  obtain ⟨wr_1, w1_0, w1_1, w1_2, w1_3, w1_4, w1_5, _⟩ := w_1
  replace h_1 := q_pX (ix := [some 0, some 1, none, none, none, some 2, some 3, some 4, none, some 5, none, none, none, none, none, none, none, none, none, none, none]) h_1 rfl rfl (by decide +kernel) rfl (by decide +kernel)
  exact kk r_1 _ _ _ (fun _ k_ => k_ (al) (hs) (mtp) (fr) (rec) (wds) (swd) (opd) (was) (par) (wth) (bwt) (met) (mtw_) (mtf) (trn) (ism) (rso) (rmy) (nms) ((u_1.2.1 2 0)) (mtd) (mat) (mbh) (msz) (mki) (mnu) (mwr) (mwa) (mfk) (mfp) (mrd) (mtw) (mx) (mbt) (mbw) (mtu) ((u_1.2.1 4 0)) (fnl) (fnv) (fnp) (fnc) ((u_1.2.1 3)) (fhs) (fmtp) (ffr) ((u_1.2.1 5)) ((u_1.2.1 6)) ((u_1.2.1 0)) (fopd) ((u_1.2.1 1)) (fpar) (fwth) (fbwt) (fmet) (fmtw) (fmtf) (ftrn) (fism) (frso) (frmy) (gnms) (hmtd) (hmat) (hmbh) (hmsz) (hmnu) (w1_4) (w1_5) (w1_3) (hfnl) (htfr_0) (htfr_1) (hfnp) (htfr_2) (hfnc) (htfr_405) (w1_0) (rfopd) (w1_1) (rfmet) (rfrmy) (rfl) (rfl) (rfl) (rfl) rfl) h_1
set_option maxHeartbeats 8000000 in
set_option maxRecDepth 100000 in
theorem lc_talk (l : Launch) {p : Program} {e : Env} {s : State} {m : MethodId} {below : List Frame} {meth : Method} {c : Code} {b : Nat} {xs : Nat → Int32} {Q : State → Prop} {D : va_G} {cy : Nat → ClassId} {H : Heap} {locs : List Loc} {ls : Array Slot} {x0 m0 L k cells slots : Nat} {i : Int32} {tl : Int} (X : qX p s m #[Value.ref b] c cL_law 4 RL) (hK : qK D cy s) (hT : qT cy (fun q => s.heap.size ≤ q) s) (hX : va_X b L xs s s.heap) (hbl : b < s.heap.size) (hi : 0 ≤ i.toInt ∧ i.toInt + 6 ≤ L ∧ L ≤ 3072) (hk : k < 512) (hcell : cells + tl.toNat ≤ 200 + 50 * k) (hslot : slots + 451 * tl.toNat ≤ 30000 + 11100 * k) (hl : lv_has ls 4 [(3, .int i), (2, .ref m0), (1, .ref x0), (0, .ref b)]) (hI : LInv cy D (fun q => s.heap.size ≤ q) s.heap x0 m0 H locs tl) (kk : ∀ (H : Heap) (locs : List Loc) (ls : Array Slot) (cells slots : Nat) (tl : Int), lv_has ls 4 [(3, .int i), (2, .ref m0), (1, .ref x0), (0, .ref b)] → LInv cy D (fun q => s.heap.size ≤ q) s.heap x0 m0 H locs tl → cells + tl.toNat ≤ 200 + 50 * (k + 1) → slots + 451 * tl.toNat ≤ 30000 + 11100 * (k + 1) → W p l e room_1 s m #[Value.ref b] below meth c H locs cells slots Q (F0 m 1459 ls [])) : W p l e room_1 s m #[Value.ref b] below meth c H locs cells slots Q (F0 m 441 ls []) := by
  obtain ⟨hx, hb, hml, hown, ht⟩ := id X
  have hA : ∀ q : Nat, s.heap.size ≤ q → (fun q => s.heap.size ≤ q) q := fun _ h => h
  have hbA : ¬ (fun q : Nat => s.heap.size ≤ q) b := Nat.not_le.mpr hbl
  have hc0 : cells ≤ 26000 := by omega
  have hs0 : slots ≤ 5720000 := by omega
  obtain ⟨gt, gb, gf, gp, wm, wx, pl, hMo, hXo, h⟩ := hI
  refine lv_aload_n hx hb dL_law_441 rfl (lv_at hl 2 rfl) ?_
  refine lv_aload_n hx hb dL_law_442 rfl (lv_at hl 3 rfl) ?_
  refine lv_iload_n hx hb dL_law_443 rfl (lv_at hl 0 rfl) ?_
  refine lv_iconst (v := 1) hx hb dL_law_444 (by decide) ?_
  refine lv_iadd hx hb dL_law_445 ?_
  obtain ⟨z_1, ez_1, hz_1⟩ := li_add hi 1 (n := 1) (by decide) (by decide) (by decide)
  refine q_c z_1 ez_1 ?_
  clear ez_1
  refine va_sld hx hb hX hbl hbA h.2.2 (li_in hi hz_1 (by decide) (by decide)) dL_law_446 ?_
  obtain ⟨x_1, ex_1, hx_1⟩ := e_any (xs (z_1).toNatClampNeg)
  refine q_c x_1 ex_1 ?_
  refine lv_aload_n hx hb dL_law_447 rfl (lv_at hl 3 rfl) ?_
  refine lv_iload_n hx hb dL_law_448 rfl (lv_at hl 0 rfl) ?_
  refine lv_iconst (v := 2) hx hb dL_law_449 (by decide) ?_
  refine lv_iadd hx hb dL_law_450 ?_
  obtain ⟨z_2, ez_2, hz_2⟩ := li_add hi 2 (n := 2) (by decide) (by decide) (by decide)
  refine q_c z_2 ez_2 ?_
  clear ez_2
  refine va_sld hx hb hX hbl hbA h.2.2 (li_in hi hz_2 (by decide) (by decide)) dL_law_451 ?_
  obtain ⟨x_2, ex_2, hx_2⟩ := e_any (xs (z_2).toNatClampNeg)
  refine q_c x_2 ex_2 ?_
  replace h := q_rotX h
  refine xc_talk l X hK hT hl.1 hc0 hs0 hXo h (fun r_3 H locs wx hXo h => ?_)
  refine lv_pop hx hb dL_law_455 rfl ?_
  refine lv_aload_n hx hb dL_law_456 rfl (lv_at hl 1 rfl) ?_
  refine lv_aload_n hx hb dL_law_457 rfl (lv_at hl 3 rfl) ?_
  refine lv_iload_n hx hb dL_law_458 rfl (lv_at hl 0 rfl) ?_
  refine lv_iconst (v := 1) hx hb dL_law_459 (by decide) ?_
  refine lv_iadd hx hb dL_law_460 ?_
  obtain ⟨z_4, ez_4, hz_4⟩ := li_add hi 1 (n := 1) (by decide) (by decide) (by decide)
  refine q_c z_4 ez_4 ?_
  clear ez_4
  refine va_sld hx hb hX hbl hbA h.2.2 (li_in hi hz_4 (by decide) (by decide)) dL_law_461 ?_
  refine q_c x_1 ((congrArg xs (cl_eq (x := z_4) (y := z_1) (hz_4.trans hz_1.symm))).trans ex_1) ?_
  refine lv_aload_n hx hb dL_law_462 rfl (lv_at hl 3 rfl) ?_
  refine lv_iload_n hx hb dL_law_463 rfl (lv_at hl 0 rfl) ?_
  refine lv_iconst (v := 2) hx hb dL_law_464 (by decide) ?_
  refine lv_iadd hx hb dL_law_465 ?_
  obtain ⟨z_5, ez_5, hz_5⟩ := li_add hi 2 (n := 2) (by decide) (by decide) (by decide)
  refine q_c z_5 ez_5 ?_
  clear ez_5
  refine va_sld hx hb hX hbl hbA h.2.2 (li_in hi hz_5 (by decide) (by decide)) dL_law_466 ?_
  refine q_c x_2 ((congrArg xs (cl_eq (x := z_5) (y := z_2) (hz_5.trans hz_2.symm))).trans ex_2) ?_
  replace h := q_rotM h
  refine mc_talk l X hK hT hl.1 hc0 hs0 hMo h (fun r_6 H locs wm hMo h => ?_)
  refine lv_pop hx hb dL_law_470 rfl ?_
  refine lv_goto (tgt := 1459) hx hb dL_law_471 (by decide) ?_
  exact kk _ _ _ cells slots tl (lv_sub hl [0, 1, 2, 3] rfl) ⟨_, _, _, _, _, _, _, hMo, hXo, h⟩ (li_c hcell) (li_s hslot)
set_option maxHeartbeats 8000000 in
set_option maxRecDepth 100000 in
theorem xc_send (l : Launch) {p : Program} {e : Env} {s : State} {m : MethodId} {below : List Frame} {meth : Method} {c : Code} {b : Nat} {Q : State → Prop} {D : va_G} {cy : Nat → ClassId} {H : Heap} {locs : List Loc} {ls : Array Slot} (X : qX p s m #[Value.ref b] c cL_law 4 RL) (hK : qK D cy s) (hT : qT cy (fun q => s.heap.size ≤ q) s) (hls : ls.size = 4) {x0 cells slots : Nat} {P pl wx : va_W} {tl : Int} {a_1 : Int32} {gt : Int} {gb : Nat → Int} {gf : Int} {gp : Int} (hc0 : cells ≤ 26000) (hs0 : slots ≤ 5720000) (hX : XOK cy x0 pl wx tl gt gb gf gp) (h : qW D (fun q => s.heap.size ≤ q) s.heap (wx ++ (pl ++ P)) H locs) (kk : ∀ (r : Int32) (H : Heap) (locs : List Loc) (w2 : va_W), XOK cy x0 pl w2 tl gt gb gf gp → qW D (fun q => s.heap.size ≤ q) s.heap (w2 ++ (pl ++ P)) H locs → W p l e room_1 s m #[Value.ref b] below meth c H locs cells slots Q (F0 m 483 ls [.int r])) : W p l e room_1 s m #[Value.ref b] below meth c H locs cells slots Q (F0 m 480 ls [.int a_1, .ref x0]) := by
  have hA : ∀ q : Nat, s.heap.size ≤ q → (fun q => s.heap.size ≤ q) q := fun _ h => h
  refine hX _ ?_
  clear hX
  intros tp nw nwv bf bfv tr trv hsy trs ty0 ty0r ty1 ty1r ty2 ty2r ty3 ty3r ims im0 im0v im1 im1v imm sc scg sch ci cir cipa ciw tu tup tuq tuf tub gu guf tk tkk tkp tkv rd rdc hpa hh hob hot hoi0 hoi1 xtl xfk xfp xch nwd nwa bfd bfa trd tra his ty0s ty0z ty1s ty1z ty2s ty2z ty3s ty3z im0d im0a im1d im1a cip tuo tut tus tul guo gup gus guz tkl tkz rda rdt rdf rdp rdz rdn tkt rto ftp nwfv bffv trfv ktr gty0 gty1 gty2 gty3 kim im0fv im1fv fimm fscg fsch fcir fcipa fciw ftup ftuq ftuf ftub fguf ftkk ftkp ftkv frdc vb hxtl rftp rnwfv rbffv rtrfv hhis hktr0 hktr1 hktr2 hktr3 hty0s hty0z hty1s hty1z hty2s hty2z hty3s hty3z hkim0 hkim1 rim0fv rim1fv hcip rfcir htuo htut htul rftuq rftuf hguo hguz rfguf htkl htkz hrda hrdz okvb HHhh HHhob HHhot HHhoi0 HHhoi1 eg0 eg1 eg2 eg3 htl hw_
  subst eg0
  subst eg1
  subst eg2
  subst eg3
  subst htl
  subst hw_
  have HX := HHhh
  obtain ⟨hv, ehv⟩ : ∃ hv : Nat → Prop, hv = HouseIn cy pl := ⟨_, rfl⟩
  rw [← ehv] at okvb HHhh HHhob HHhot HHhoi0 HHhoi1
  obtain ⟨hnl, hnp, hnt, hns, w4, w5, w6, hha, hhb, hhc, hhd, hhe, fha, fhb, fhc, fhd, fhe, L4, L5, L6, b1, b2, b3, l4, l5, l6, hm, hn⟩ := HX
  obtain ⟨r, hp⟩ := house_pick hm hn [] (List.nil_sublist _)
  replace h := q_open h hp
  refine q_callViF (rest := []) X hK hT hA h (fun sz => gX11_send_3fb3840 l D cy x0 nw hh hhb hhc nwv bf bfv hsy hpa hv a_1 (.ref tp) xtl xfk xfp (.ref rd) (.ref tr) (.ref trs) (.ref ims) (.ref imm) sc (.ref ci) (.ref tu) (.ref gu) xch nwd nwa hnl hnp hnt hns w4 w5 w6 (.ref hha) (.ref hhd) (.ref hhe) fhb fhc nwfv hob bfd bfa bffv his vb (i_rng _) hxtl (i_rng _) (i_rng _) (i_rng _) (i_rng _) (i_rng _) b1 b2 (i_rng _) (i_rng _) (i_rng _) (i_rng _) hhis (rg_wide rnwfv (by decide) (by decide)) (rg_wide rbffv (by decide) (by decide)) okvb (HHhh) (by assumption) sz) wm_4_49 wm_4_52 wm_1_1 hd_X11_send wm_4_50 wm_4_51 (ci := 11) (q0 := 0) rfl rfl ⟨Nat.le_of_ble_eq_true rfl, Nat.le_of_ble_eq_true rfl⟩ hls rfl (Nat.le_of_ble_eq_true rfl) dL_law_480 ⟨show cells + 0 ≤ 600000 from Nat.le_trans (Nat.add_le_add_right hc0 0) (by decide), show slots + 0 ≤ 7302250 from Nat.le_trans (Nat.add_le_add_right hs0 0) (by decide)⟩ [0, 2, 65, 67, 68, 3, 4, 5, 8, 44, 45, 46, 47, 48, 49, 50, 51, 52, 53, 54, 55, 56, 57, 58, 59, 60, 61, 62, 63, 64] rfl rfl (fun _ => rfl) (fun r_1 u_1 H locs w_1 h_1 => ?_)
  clear h
  obtain ⟨wr_1, w1_0, w1_1, w1_2, w1_3, w1_4, w1_5, w1_6, y1_0, _⟩ := w_1
  replace h_1 := q_pX (ix := [some 0, none, some 1, some 5, some 6, some 7, none, none, some 8, none, none, none, none, none, none, none, none, none, none, none, none, none, none, none, none, none, none, none, none, none, none, none, none, none, none, none, none, none, none, none, none, none, none, none, some 9, some 10, some 11, some 12, some 13, some 14, some 15, some 16, some 17, some 18, some 19, some 20, some 21, some 22, some 23, some 24, some 25, some 26, some 27, some 28, some 29, some 2, none, some 3, some 4, none, none]) h_1 rfl rfl (by decide +kernel) rfl (by decide +kernel)
  have hmono : ∀ a, hv a → HouseIn cy pl a := fun a ha => by rw [ehv] at ha; exact ha
  exact kk r_1 _ _ _ (fun _ k_ => k_ (tp) (nw) (nwv) (bf) (bfv) (tr) (trv) (hsy) (trs) (ty0) (ty0r) (ty1) (ty1r) (ty2) (ty2r) (ty3) (ty3r) (ims) (im0) (im0v) (im1) (im1v) (imm) (sc) (scg) (sch) (ci) (cir) (cipa) (ciw) (tu) (tup) (tuq) (tuf) (tub) (gu) (guf) (tk) (tkk) (tkp) (tkv) (rd) (rdc) (hpa) (hh) ((u_1.1 0)) (hot) (hoi0) (hoi1) (xtl) (xfk) (xfp) ((u_1.2.1 0 0)) (nwd) ((u_1.2.1 1 0)) ((u_1.2.1 2 0)) ((u_1.2.1 3 0)) (trd) (tra) ((u_1.2.1 5 0)) (ty0s) (ty0z) (ty1s) (ty1z) (ty2s) (ty2z) (ty3s) (ty3z) (im0d) (im0a) (im1d) (im1a) (cip) (tuo) (tut) (tus) (tul) (guo) (gup) (gus) (guz) (tkl) (tkz) (rda) (rdt) (rdf) (rdp) (rdz) (rdn) (tkt) (rto) (ftp) (nwfv) ((u_1.2.1 4)) (trfv) (ktr) (gty0) (gty1) (gty2) (gty3) (kim) (im0fv) (im1fv) (fimm) (fscg) (fsch) (fcir) (fcipa) (fciw) (ftup) (ftuq) (ftuf) (ftub) (fguf) (ftkk) (ftkp) (ftkv) (frdc) ((fun k => u_1.1 (k + 1), fun k => u_1.2.1 (k + 6), u_1.2.2)) (hxtl) (rftp) (rnwfv) (w1_4) (rtrfv) (w1_5) (hktr0) (hktr1) (hktr2) (hktr3) (hty0s) (hty0z) (hty1s) (hty1z) (hty2s) (hty2z) (hty3s) (hty3z) (hkim0) (hkim1) (rim0fv) (rim1fv) (hcip) (rfcir) (htuo) (htut) (htul) (rftuq) (rftuf) (hguo) (hguz) (rfguf) (htkl) (htkz) (hrda) (hrdz) (hb_mono w1_6 hmono) (hmono _ HHhh) (hmono _ (by assumption)) (hmono _ HHhot) (hmono _ HHhoi0) (hmono _ HHhoi1) (rfl) (rfl) (rfl) (rfl) rfl rfl) (q_back h_1 hp rfl)
set_option maxHeartbeats 8000000 in
set_option maxRecDepth 100000 in
theorem mc_send (l : Launch) {p : Program} {e : Env} {s : State} {m : MethodId} {below : List Frame} {meth : Method} {c : Code} {b : Nat} {Q : State → Prop} {D : va_G} {cy : Nat → ClassId} {H : Heap} {locs : List Loc} {ls : Array Slot} (X : qX p s m #[Value.ref b] c cL_law 4 RL) (hK : qK D cy s) (hT : qT cy (fun q => s.heap.size ≤ q) s) (hls : ls.size = 4) {m0 cells slots : Nat} {P wm : va_W} {a_1 : Int32} {gt : Int} {gb : Nat → Int} {gf : Int} {gp : Int} (hc0 : cells ≤ 26000) (hs0 : slots ≤ 5720000) (hM : MOK cy m0 wm gt gb gf gp) (h : qW D (fun q => s.heap.size ≤ q) s.heap (wm ++ P) H locs) (kk : ∀ (r : Int32) (H : Heap) (locs : List Loc) (w2 : va_W), MOK cy m0 w2 gt gb gf gp → qW D (fun q => s.heap.size ≤ q) s.heap (w2 ++ P) H locs → W p l e room_1 s m #[Value.ref b] below meth c H locs cells slots Q (F0 m 493 ls [.int r])) : W p l e room_1 s m #[Value.ref b] below meth c H locs cells slots Q (F0 m 490 ls [.int a_1, .ref m0]) := by
  have hA : ∀ q : Nat, s.heap.size ≤ q → (fun q => s.heap.size ≤ q) q := fun _ h => h
  refine hM _ ?_
  clear hM
  intros al hs mtp fr rec wds swd opd was par wth bwt met mtw_ mtf trn ism rso rmy nms mth mtd mat mbh msz mki mnu mwr mwa mfk mfp mrd mtw mx mbt mbw mtu nde fnl fnv fnp fnc fal fhs fmtp ffr frec fwds fswd fopd fwas fpar fwth fbwt fmet fmtw fmtf ftrn fism frso frmy gnms hmtd hmat hmbh hmsz hmnu hnde htal_84 rfal hfnl htfr_0 htfr_1 hfnp htfr_2 hfnc htfr_405 rfswd rfopd rfwas rfmet rfrmy eg0 eg1 eg2 eg3 hw_
  subst eg0
  subst eg1
  subst eg2
  subst eg3
  subst hw_
  refine q_callViF (rest := []) X hK hT hA h (fun sz => gX12_send_3f463e6 l D cy m0 al was a_1 mth (.ref hs) (.ref mtp) (.ref fr) mtd mat mbh msz mki mnu mwr mwa mfk mfp mrd (.ref rec) (.ref wds) (.ref swd) (.ref opd) mtw mx (.ref par) (.ref wth) (.ref bwt) mbt mbw (.ref met) (.ref mtw_) (.ref mtf) (.ref trn) (.ref ism) mtu (.ref rso) (.ref rmy) (.ref nms) fal nde fwas (i_rng _) (i_rng _) hmtd hmat hmbh hmsz (i_rng _) hmnu (i_rng _) (i_rng _) (i_rng _) (i_rng _) (i_rng _) (i_rng _) (i_rng _) (i_rng _) (i_rng _) (i_rng _) hnde htal_84 rfal rfwas sz) wm_6_236 wm_6_239 wm_1_12 hd_X12_send wm_6_237 wm_6_238 (ci := 12) (q0 := 0) rfl rfl ⟨Nat.le_of_ble_eq_true rfl, Nat.le_of_ble_eq_true rfl⟩ hls rfl (Nat.le_of_ble_eq_true rfl) dL_law_490 ⟨show cells + 0 ≤ 600000 from Nat.le_trans (Nat.add_le_add_right hc0 0) (by decide), show slots + 0 ≤ 7302250 from Nat.le_trans (Nat.add_le_add_right hs0 0) (by decide)⟩ [0, 1, 9] rfl rfl (fun _ => rfl) (fun r_1 u_1 H locs w_1 h_1 => ?_)
  clear h
  obtain ⟨wr_1, w1_0, w1_1, w1_2, w1_3, w1_4, _⟩ := w_1
  exact kk r_1 _ _ _ (fun _ k_ => k_ (al) (hs) (mtp) (fr) (rec) (wds) (swd) (opd) (was) (par) (wth) (bwt) (met) (mtw_) (mtf) (trn) (ism) (rso) (rmy) (nms) ((u_1.2.1 0 0)) (mtd) (mat) (mbh) (msz) (mki) (mnu) (mwr) (mwa) (mfk) (mfp) (mrd) (mtw) (mx) (mbt) (mbw) (mtu) ((u_1.2.1 2 0)) (fnl) (fnv) (fnp) (fnc) ((u_1.2.1 1)) (fhs) (fmtp) (ffr) (frec) (fwds) (fswd) (fopd) ((u_1.2.1 3)) (fpar) (fwth) (fbwt) (fmet) (fmtw) (fmtf) (ftrn) (fism) (frso) (frmy) (gnms) (hmtd) (hmat) (hmbh) (hmsz) (hmnu) (w1_2) (w1_4) (w1_1) (hfnl) (htfr_0) (htfr_1) (hfnp) (htfr_2) (hfnc) (htfr_405) (rfswd) (rfopd) (w1_3) (rfmet) (rfrmy) (rfl) (rfl) (rfl) (rfl) rfl) h_1
set_option maxHeartbeats 8000000 in
set_option maxRecDepth 100000 in
theorem lc_send (l : Launch) {p : Program} {e : Env} {s : State} {m : MethodId} {below : List Frame} {meth : Method} {c : Code} {b : Nat} {xs : Nat → Int32} {Q : State → Prop} {D : va_G} {cy : Nat → ClassId} {H : Heap} {locs : List Loc} {ls : Array Slot} {x0 m0 L k cells slots : Nat} {i : Int32} {tl : Int} (X : qX p s m #[Value.ref b] c cL_law 4 RL) (hK : qK D cy s) (hT : qT cy (fun q => s.heap.size ≤ q) s) (hX : va_X b L xs s s.heap) (hbl : b < s.heap.size) (hi : 0 ≤ i.toInt ∧ i.toInt + 6 ≤ L ∧ L ≤ 3072) (hk : k < 512) (hcell : cells + tl.toNat ≤ 200 + 50 * k) (hslot : slots + 451 * tl.toNat ≤ 30000 + 11100 * k) (hl : lv_has ls 4 [(3, .int i), (2, .ref m0), (1, .ref x0), (0, .ref b)]) (hI : LInv cy D (fun q => s.heap.size ≤ q) s.heap x0 m0 H locs tl) (kk : ∀ (H : Heap) (locs : List Loc) (ls : Array Slot) (cells slots : Nat) (tl : Int), lv_has ls 4 [(3, .int i), (2, .ref m0), (1, .ref x0), (0, .ref b)] → LInv cy D (fun q => s.heap.size ≤ q) s.heap x0 m0 H locs tl → cells + tl.toNat ≤ 200 + 50 * (k + 1) → slots + 451 * tl.toNat ≤ 30000 + 11100 * (k + 1) → W p l e room_1 s m #[Value.ref b] below meth c H locs cells slots Q (F0 m 1459 ls [])) : W p l e room_1 s m #[Value.ref b] below meth c H locs cells slots Q (F0 m 474 ls []) := by
  obtain ⟨hx, hb, hml, hown, ht⟩ := id X
  have hA : ∀ q : Nat, s.heap.size ≤ q → (fun q => s.heap.size ≤ q) q := fun _ h => h
  have hbA : ¬ (fun q : Nat => s.heap.size ≤ q) b := Nat.not_le.mpr hbl
  have hc0 : cells ≤ 26000 := by omega
  have hs0 : slots ≤ 5720000 := by omega
  obtain ⟨gt, gb, gf, gp, wm, wx, pl, hMo, hXo, h⟩ := hI
  refine lv_aload_n hx hb dL_law_474 rfl (lv_at hl 2 rfl) ?_
  refine lv_aload_n hx hb dL_law_475 rfl (lv_at hl 3 rfl) ?_
  refine lv_iload_n hx hb dL_law_476 rfl (lv_at hl 0 rfl) ?_
  refine lv_iconst (v := 1) hx hb dL_law_477 (by decide) ?_
  refine lv_iadd hx hb dL_law_478 ?_
  obtain ⟨z_1, ez_1, hz_1⟩ := li_add hi 1 (n := 1) (by decide) (by decide) (by decide)
  refine q_c z_1 ez_1 ?_
  clear ez_1
  refine va_sld hx hb hX hbl hbA h.2.2 (li_in hi hz_1 (by decide) (by decide)) dL_law_479 ?_
  obtain ⟨x_1, ex_1, hx_1⟩ := e_any (xs (z_1).toNatClampNeg)
  refine q_c x_1 ex_1 ?_
  replace h := q_rotX h
  refine xc_send l X hK hT hl.1 hc0 hs0 hXo h (fun r_2 H locs wx hXo h => ?_)
  refine lv_pop hx hb dL_law_483 rfl ?_
  refine lv_aload_n hx hb dL_law_484 rfl (lv_at hl 1 rfl) ?_
  refine lv_aload_n hx hb dL_law_485 rfl (lv_at hl 3 rfl) ?_
  refine lv_iload_n hx hb dL_law_486 rfl (lv_at hl 0 rfl) ?_
  refine lv_iconst (v := 1) hx hb dL_law_487 (by decide) ?_
  refine lv_iadd hx hb dL_law_488 ?_
  obtain ⟨z_3, ez_3, hz_3⟩ := li_add hi 1 (n := 1) (by decide) (by decide) (by decide)
  refine q_c z_3 ez_3 ?_
  clear ez_3
  refine va_sld hx hb hX hbl hbA h.2.2 (li_in hi hz_3 (by decide) (by decide)) dL_law_489 ?_
  refine q_c x_1 ((congrArg xs (cl_eq (x := z_3) (y := z_1) (hz_3.trans hz_1.symm))).trans ex_1) ?_
  replace h := q_rotM h
  refine mc_send l X hK hT hl.1 hc0 hs0 hMo h (fun r_4 H locs wm hMo h => ?_)
  refine lv_pop hx hb dL_law_493 rfl ?_
  refine lv_goto (tgt := 1459) hx hb dL_law_494 (by decide) ?_
  exact kk _ _ _ cells slots tl (lv_sub hl [0, 1, 2, 3] rfl) ⟨_, _, _, _, _, _, _, hMo, hXo, h⟩ (li_c hcell) (li_s hslot)
set_option maxHeartbeats 8000000 in
set_option maxRecDepth 100000 in
theorem xc_call (l : Launch) {p : Program} {e : Env} {s : State} {m : MethodId} {below : List Frame} {meth : Method} {c : Code} {b : Nat} {Q : State → Prop} {D : va_G} {cy : Nat → ClassId} {H : Heap} {locs : List Loc} {ls : Array Slot} (X : qX p s m #[Value.ref b] c cL_law 4 RL) (hK : qK D cy s) (hT : qT cy (fun q => s.heap.size ≤ q) s) (hls : ls.size = 4) {x0 cells slots : Nat} {P pl wx : va_W} {tl : Int} {a_1 : Int32} {gt : Int} {gb : Nat → Int} {gf : Int} {gp : Int} (hc0 : cells ≤ 26000) (hs0 : slots ≤ 5720000) (hX : XOK cy x0 pl wx tl gt gb gf gp) (h : qW D (fun q => s.heap.size ≤ q) s.heap (wx ++ (pl ++ P)) H locs) (kk : ∀ (r : Int32) (H : Heap) (locs : List Loc) (w2 : va_W), XOK cy x0 pl w2 tl gt gb gf gp → qW D (fun q => s.heap.size ≤ q) s.heap (w2 ++ (pl ++ P)) H locs → W p l e room_1 s m #[Value.ref b] below meth c H locs cells slots Q (F0 m 506 ls [.int r])) : W p l e room_1 s m #[Value.ref b] below meth c H locs cells slots Q (F0 m 503 ls [.int a_1, .ref x0]) := by
  have hA : ∀ q : Nat, s.heap.size ≤ q → (fun q => s.heap.size ≤ q) q := fun _ h => h
  refine hX _ ?_
  clear hX
  intros tp nw nwv bf bfv tr trv hsy trs ty0 ty0r ty1 ty1r ty2 ty2r ty3 ty3r ims im0 im0v im1 im1v imm sc scg sch ci cir cipa ciw tu tup tuq tuf tub gu guf tk tkk tkp tkv rd rdc hpa hh hob hot hoi0 hoi1 xtl xfk xfp xch nwd nwa bfd bfa trd tra his ty0s ty0z ty1s ty1z ty2s ty2z ty3s ty3z im0d im0a im1d im1a cip tuo tut tus tul guo gup gus guz tkl tkz rda rdt rdf rdp rdz rdn tkt rto ftp nwfv bffv trfv ktr gty0 gty1 gty2 gty3 kim im0fv im1fv fimm fscg fsch fcir fcipa fciw ftup ftuq ftuf ftub fguf ftkk ftkp ftkv frdc vb hxtl rftp rnwfv rbffv rtrfv hhis hktr0 hktr1 hktr2 hktr3 hty0s hty0z hty1s hty1z hty2s hty2z hty3s hty3z hkim0 hkim1 rim0fv rim1fv hcip rfcir htuo htut htul rftuq rftuf hguo hguz rfguf htkl htkz hrda hrdz okvb HHhh HHhob HHhot HHhoi0 HHhoi1 eg0 eg1 eg2 eg3 htl hw_
  subst eg0
  subst eg1
  subst eg2
  subst eg3
  subst htl
  subst hw_
  have HX := HHhh
  obtain ⟨hv, ehv⟩ : ∃ hv : Nat → Prop, hv = HouseIn cy pl := ⟨_, rfl⟩
  rw [← ehv] at okvb HHhh HHhob HHhot HHhoi0 HHhoi1
  obtain ⟨hnl, hnp, hnt, hns, w4, w5, w6, hha, hhb, hhc, hhd, hhe, fha, fhb, fhc, fhd, fhe, L4, L5, L6, b1, b2, b3, l4, l5, l6, hm, hn⟩ := HX
  obtain ⟨r, hp⟩ := house_pick hm hn [] (List.nil_sublist _)
  replace h := q_open h hp
  refine q_callViF (rest := []) X hK hT hA h (fun sz => gX11_call_f4142af l D cy x0 nw hh hhb hhc nwv bf bfv hsy hpa hv a_1 (.ref tp) xtl xfk xfp (.ref rd) (.ref tr) (.ref trs) (.ref ims) (.ref imm) sc (.ref ci) (.ref tu) (.ref gu) xch nwd nwa hnl hnp hnt hns w4 w5 w6 (.ref hha) (.ref hhd) (.ref hhe) fhb fhc nwfv hob bfd bfa bffv his vb (i_rng _) hxtl (i_rng _) (i_rng _) (i_rng _) (i_rng _) (i_rng _) b1 b2 (i_rng _) (i_rng _) (i_rng _) (i_rng _) hhis (rg_wide rnwfv (by decide) (by decide)) (rg_wide rbffv (by decide) (by decide)) okvb (HHhh) (by assumption) sz) wm_4_63 wm_4_66 wm_1_1 hd_X11_call wm_4_64 wm_4_65 (ci := 11) (q0 := 0) rfl rfl ⟨Nat.le_of_ble_eq_true rfl, Nat.le_of_ble_eq_true rfl⟩ hls rfl (Nat.le_of_ble_eq_true rfl) dL_law_503 ⟨show cells + 0 ≤ 600000 from Nat.le_trans (Nat.add_le_add_right hc0 0) (by decide), show slots + 0 ≤ 7302250 from Nat.le_trans (Nat.add_le_add_right hs0 0) (by decide)⟩ [0, 2, 65, 67, 68, 3, 4, 5, 8, 44, 45, 46, 47, 48, 49, 50, 51, 52, 53, 54, 55, 56, 57, 58, 59, 60, 61, 62, 63, 64] rfl rfl (fun _ => rfl) (fun r_1 u_1 H locs w_1 h_1 => ?_)
  clear h
  obtain ⟨wr_1, w1_0, w1_1, w1_2, w1_3, w1_4, w1_5, w1_6, y1_0, _⟩ := w_1
  replace h_1 := q_pX (ix := [some 0, none, some 1, some 5, some 6, some 7, none, none, some 8, none, none, none, none, none, none, none, none, none, none, none, none, none, none, none, none, none, none, none, none, none, none, none, none, none, none, none, none, none, none, none, none, none, none, none, some 9, some 10, some 11, some 12, some 13, some 14, some 15, some 16, some 17, some 18, some 19, some 20, some 21, some 22, some 23, some 24, some 25, some 26, some 27, some 28, some 29, some 2, none, some 3, some 4, none, none]) h_1 rfl rfl (by decide +kernel) rfl (by decide +kernel)
  have hmono : ∀ a, hv a → HouseIn cy pl a := fun a ha => by rw [ehv] at ha; exact ha
  exact kk r_1 _ _ _ (fun _ k_ => k_ (tp) (nw) (nwv) (bf) (bfv) (tr) (trv) (hsy) (trs) (ty0) (ty0r) (ty1) (ty1r) (ty2) (ty2r) (ty3) (ty3r) (ims) (im0) (im0v) (im1) (im1v) (imm) (sc) (scg) (sch) (ci) (cir) (cipa) (ciw) (tu) (tup) (tuq) (tuf) (tub) (gu) (guf) (tk) (tkk) (tkp) (tkv) (rd) (rdc) (hpa) (hh) ((u_1.1 0)) (hot) (hoi0) (hoi1) (xtl) (xfk) (xfp) ((u_1.2.1 0 0)) (nwd) ((u_1.2.1 1 0)) ((u_1.2.1 2 0)) ((u_1.2.1 3 0)) (trd) (tra) ((u_1.2.1 5 0)) (ty0s) (ty0z) (ty1s) (ty1z) (ty2s) (ty2z) (ty3s) (ty3z) (im0d) (im0a) (im1d) (im1a) (cip) (tuo) (tut) (tus) (tul) (guo) (gup) (gus) (guz) (tkl) (tkz) (rda) (rdt) (rdf) (rdp) (rdz) (rdn) (tkt) (rto) (ftp) (nwfv) ((u_1.2.1 4)) (trfv) (ktr) (gty0) (gty1) (gty2) (gty3) (kim) (im0fv) (im1fv) (fimm) (fscg) (fsch) (fcir) (fcipa) (fciw) (ftup) (ftuq) (ftuf) (ftub) (fguf) (ftkk) (ftkp) (ftkv) (frdc) ((fun k => u_1.1 (k + 1), fun k => u_1.2.1 (k + 6), u_1.2.2)) (hxtl) (rftp) (rnwfv) (w1_4) (rtrfv) (w1_5) (hktr0) (hktr1) (hktr2) (hktr3) (hty0s) (hty0z) (hty1s) (hty1z) (hty2s) (hty2z) (hty3s) (hty3z) (hkim0) (hkim1) (rim0fv) (rim1fv) (hcip) (rfcir) (htuo) (htut) (htul) (rftuq) (rftuf) (hguo) (hguz) (rfguf) (htkl) (htkz) (hrda) (hrdz) (hb_mono w1_6 hmono) (hmono _ HHhh) (hmono _ (by assumption)) (hmono _ HHhot) (hmono _ HHhoi0) (hmono _ HHhoi1) (rfl) (rfl) (rfl) (rfl) rfl rfl) (q_back h_1 hp rfl)
set_option maxHeartbeats 8000000 in
set_option maxRecDepth 100000 in
theorem mc_call (l : Launch) {p : Program} {e : Env} {s : State} {m : MethodId} {below : List Frame} {meth : Method} {c : Code} {b : Nat} {Q : State → Prop} {D : va_G} {cy : Nat → ClassId} {H : Heap} {locs : List Loc} {ls : Array Slot} (X : qX p s m #[Value.ref b] c cL_law 4 RL) (hK : qK D cy s) (hT : qT cy (fun q => s.heap.size ≤ q) s) (hls : ls.size = 4) {m0 cells slots : Nat} {P wm : va_W} {a_1 : Int32} {gt : Int} {gb : Nat → Int} {gf : Int} {gp : Int} (hc0 : cells ≤ 26000) (hs0 : slots ≤ 5720000) (hM : MOK cy m0 wm gt gb gf gp) (h : qW D (fun q => s.heap.size ≤ q) s.heap (wm ++ P) H locs) (kk : ∀ (r : Int32) (H : Heap) (locs : List Loc) (w2 : va_W), MOK cy m0 w2 gt gb gf gp → qW D (fun q => s.heap.size ≤ q) s.heap (w2 ++ P) H locs → W p l e room_1 s m #[Value.ref b] below meth c H locs cells slots Q (F0 m 516 ls [.int r])) : W p l e room_1 s m #[Value.ref b] below meth c H locs cells slots Q (F0 m 513 ls [.int a_1, .ref m0]) := by
  have hA : ∀ q : Nat, s.heap.size ≤ q → (fun q => s.heap.size ≤ q) q := fun _ h => h
  refine hM _ ?_
  clear hM
  intros al hs mtp fr rec wds swd opd was par wth bwt met mtw_ mtf trn ism rso rmy nms mth mtd mat mbh msz mki mnu mwr mwa mfk mfp mrd mtw mx mbt mbw mtu nde fnl fnv fnp fnc fal fhs fmtp ffr frec fwds fswd fopd fwas fpar fwth fbwt fmet fmtw fmtf ftrn fism frso frmy gnms hmtd hmat hmbh hmsz hmnu hnde htal_84 rfal hfnl htfr_0 htfr_1 hfnp htfr_2 hfnc htfr_405 rfswd rfopd rfwas rfmet rfrmy eg0 eg1 eg2 eg3 hw_
  subst eg0
  subst eg1
  subst eg2
  subst eg3
  subst hw_
  refine q_callViF (rest := []) X hK hT hA h (fun sz => gX12_call_3c19e0f l D cy m0 al was a_1 mth (.ref hs) (.ref mtp) (.ref fr) mtd mat mbh msz mki mnu mwr mwa mfk mfp mrd (.ref rec) (.ref wds) (.ref swd) (.ref opd) mtw mx (.ref par) (.ref wth) (.ref bwt) mbt mbw (.ref met) (.ref mtw_) (.ref mtf) (.ref trn) (.ref ism) mtu (.ref rso) (.ref rmy) (.ref nms) fal nde fwas (i_rng _) (i_rng _) hmtd hmat hmbh hmsz (i_rng _) hmnu (i_rng _) (i_rng _) (i_rng _) (i_rng _) (i_rng _) (i_rng _) (i_rng _) (i_rng _) (i_rng _) (i_rng _) hnde htal_84 rfal rfwas sz) wm_7_11 wm_7_14 wm_1_12 hd_X12_call wm_7_12 wm_7_13 (ci := 12) (q0 := 0) rfl rfl ⟨Nat.le_of_ble_eq_true rfl, Nat.le_of_ble_eq_true rfl⟩ hls rfl (Nat.le_of_ble_eq_true rfl) dL_law_513 ⟨show cells + 0 ≤ 600000 from Nat.le_trans (Nat.add_le_add_right hc0 0) (by decide), show slots + 0 ≤ 7302250 from Nat.le_trans (Nat.add_le_add_right hs0 0) (by decide)⟩ [0, 1, 9] rfl rfl (fun _ => rfl) (fun r_1 u_1 H locs w_1 h_1 => ?_)
  clear h
  obtain ⟨wr_1, w1_0, w1_1, w1_2, w1_3, w1_4, _⟩ := w_1
  exact kk r_1 _ _ _ (fun _ k_ => k_ (al) (hs) (mtp) (fr) (rec) (wds) (swd) (opd) (was) (par) (wth) (bwt) (met) (mtw_) (mtf) (trn) (ism) (rso) (rmy) (nms) ((u_1.2.1 0 0)) (mtd) (mat) (mbh) (msz) (mki) (mnu) (mwr) (mwa) (mfk) (mfp) (mrd) (mtw) (mx) (mbt) (mbw) (mtu) ((u_1.2.1 2 0)) (fnl) (fnv) (fnp) (fnc) ((u_1.2.1 1)) (fhs) (fmtp) (ffr) (frec) (fwds) (fswd) (fopd) ((u_1.2.1 3)) (fpar) (fwth) (fbwt) (fmet) (fmtw) (fmtf) (ftrn) (fism) (frso) (frmy) (gnms) (hmtd) (hmat) (hmbh) (hmsz) (hmnu) (w1_2) (w1_4) (w1_1) (hfnl) (htfr_0) (htfr_1) (hfnp) (htfr_2) (hfnc) (htfr_405) (rfswd) (rfopd) (w1_3) (rfmet) (rfrmy) (rfl) (rfl) (rfl) (rfl) rfl) h_1
set_option maxHeartbeats 8000000 in
set_option maxRecDepth 100000 in
theorem lc_call (l : Launch) {p : Program} {e : Env} {s : State} {m : MethodId} {below : List Frame} {meth : Method} {c : Code} {b : Nat} {xs : Nat → Int32} {Q : State → Prop} {D : va_G} {cy : Nat → ClassId} {H : Heap} {locs : List Loc} {ls : Array Slot} {x0 m0 L k cells slots : Nat} {i : Int32} {tl : Int} (X : qX p s m #[Value.ref b] c cL_law 4 RL) (hK : qK D cy s) (hT : qT cy (fun q => s.heap.size ≤ q) s) (hX : va_X b L xs s s.heap) (hbl : b < s.heap.size) (hi : 0 ≤ i.toInt ∧ i.toInt + 6 ≤ L ∧ L ≤ 3072) (hk : k < 512) (hcell : cells + tl.toNat ≤ 200 + 50 * k) (hslot : slots + 451 * tl.toNat ≤ 30000 + 11100 * k) (hl : lv_has ls 4 [(3, .int i), (2, .ref m0), (1, .ref x0), (0, .ref b)]) (hI : LInv cy D (fun q => s.heap.size ≤ q) s.heap x0 m0 H locs tl) (kk : ∀ (H : Heap) (locs : List Loc) (ls : Array Slot) (cells slots : Nat) (tl : Int), lv_has ls 4 [(3, .int i), (2, .ref m0), (1, .ref x0), (0, .ref b)] → LInv cy D (fun q => s.heap.size ≤ q) s.heap x0 m0 H locs tl → cells + tl.toNat ≤ 200 + 50 * (k + 1) → slots + 451 * tl.toNat ≤ 30000 + 11100 * (k + 1) → W p l e room_1 s m #[Value.ref b] below meth c H locs cells slots Q (F0 m 1459 ls [])) : W p l e room_1 s m #[Value.ref b] below meth c H locs cells slots Q (F0 m 497 ls []) := by
  obtain ⟨hx, hb, hml, hown, ht⟩ := id X
  have hA : ∀ q : Nat, s.heap.size ≤ q → (fun q => s.heap.size ≤ q) q := fun _ h => h
  have hbA : ¬ (fun q : Nat => s.heap.size ≤ q) b := Nat.not_le.mpr hbl
  have hc0 : cells ≤ 26000 := by omega
  have hs0 : slots ≤ 5720000 := by omega
  obtain ⟨gt, gb, gf, gp, wm, wx, pl, hMo, hXo, h⟩ := hI
  refine lv_aload_n hx hb dL_law_497 rfl (lv_at hl 2 rfl) ?_
  refine lv_aload_n hx hb dL_law_498 rfl (lv_at hl 3 rfl) ?_
  refine lv_iload_n hx hb dL_law_499 rfl (lv_at hl 0 rfl) ?_
  refine lv_iconst (v := 1) hx hb dL_law_500 (by decide) ?_
  refine lv_iadd hx hb dL_law_501 ?_
  obtain ⟨z_1, ez_1, hz_1⟩ := li_add hi 1 (n := 1) (by decide) (by decide) (by decide)
  refine q_c z_1 ez_1 ?_
  clear ez_1
  refine va_sld hx hb hX hbl hbA h.2.2 (li_in hi hz_1 (by decide) (by decide)) dL_law_502 ?_
  obtain ⟨x_1, ex_1, hx_1⟩ := e_any (xs (z_1).toNatClampNeg)
  refine q_c x_1 ex_1 ?_
  replace h := q_rotX h
  refine xc_call l X hK hT hl.1 hc0 hs0 hXo h (fun r_2 H locs wx hXo h => ?_)
  refine lv_pop hx hb dL_law_506 rfl ?_
  refine lv_aload_n hx hb dL_law_507 rfl (lv_at hl 1 rfl) ?_
  refine lv_aload_n hx hb dL_law_508 rfl (lv_at hl 3 rfl) ?_
  refine lv_iload_n hx hb dL_law_509 rfl (lv_at hl 0 rfl) ?_
  refine lv_iconst (v := 1) hx hb dL_law_510 (by decide) ?_
  refine lv_iadd hx hb dL_law_511 ?_
  obtain ⟨z_3, ez_3, hz_3⟩ := li_add hi 1 (n := 1) (by decide) (by decide) (by decide)
  refine q_c z_3 ez_3 ?_
  clear ez_3
  refine va_sld hx hb hX hbl hbA h.2.2 (li_in hi hz_3 (by decide) (by decide)) dL_law_512 ?_
  refine q_c x_1 ((congrArg xs (cl_eq (x := z_3) (y := z_1) (hz_3.trans hz_1.symm))).trans ex_1) ?_
  replace h := q_rotM h
  refine mc_call l X hK hT hl.1 hc0 hs0 hMo h (fun r_4 H locs wm hMo h => ?_)
  refine lv_pop hx hb dL_law_516 rfl ?_
  refine lv_goto (tgt := 1459) hx hb dL_law_517 (by decide) ?_
  exact kk _ _ _ cells slots tl (lv_sub hl [0, 1, 2, 3] rfl) ⟨_, _, _, _, _, _, _, hMo, hXo, h⟩ (li_c hcell) (li_s hslot)
set_option maxHeartbeats 8000000 in
set_option maxRecDepth 100000 in
theorem xc_days (l : Launch) {p : Program} {e : Env} {s : State} {m : MethodId} {below : List Frame} {meth : Method} {c : Code} {b : Nat} {Q : State → Prop} {D : va_G} {cy : Nat → ClassId} {H : Heap} {locs : List Loc} {ls : Array Slot} (X : qX p s m #[Value.ref b] c cL_law 4 RL) (hK : qK D cy s) (hT : qT cy (fun q => s.heap.size ≤ q) s) (hls : ls.size = 4) {x0 cells slots : Nat} {P pl wx : va_W} {tl : Int} {a_1 : Int32} {gt : Int} {gb : Nat → Int} {gf : Int} {gp : Int} (hc0 : cells ≤ 26000) (hs0 : slots ≤ 5720000) (hX : XOK cy x0 pl wx tl gt gb gf gp) (h : qW D (fun q => s.heap.size ≤ q) s.heap (wx ++ (pl ++ P)) H locs) (kk : ∀ (r : Int32) (H : Heap) (locs : List Loc) (w2 : va_W), XOK cy x0 pl w2 tl gt gb gf gp → qW D (fun q => s.heap.size ≤ q) s.heap (w2 ++ (pl ++ P)) H locs → W p l e room_1 s m #[Value.ref b] below meth c H locs cells slots Q (F0 m 529 ls [.int r])) : W p l e room_1 s m #[Value.ref b] below meth c H locs cells slots Q (F0 m 526 ls [.int a_1, .ref x0]) := by
  have hA : ∀ q : Nat, s.heap.size ≤ q → (fun q => s.heap.size ≤ q) q := fun _ h => h
  refine hX _ ?_
  clear hX
  intros tp nw nwv bf bfv tr trv hsy trs ty0 ty0r ty1 ty1r ty2 ty2r ty3 ty3r ims im0 im0v im1 im1v imm sc scg sch ci cir cipa ciw tu tup tuq tuf tub gu guf tk tkk tkp tkv rd rdc hpa hh hob hot hoi0 hoi1 xtl xfk xfp xch nwd nwa bfd bfa trd tra his ty0s ty0z ty1s ty1z ty2s ty2z ty3s ty3z im0d im0a im1d im1a cip tuo tut tus tul guo gup gus guz tkl tkz rda rdt rdf rdp rdz rdn tkt rto ftp nwfv bffv trfv ktr gty0 gty1 gty2 gty3 kim im0fv im1fv fimm fscg fsch fcir fcipa fciw ftup ftuq ftuf ftub fguf ftkk ftkp ftkv frdc vb hxtl rftp rnwfv rbffv rtrfv hhis hktr0 hktr1 hktr2 hktr3 hty0s hty0z hty1s hty1z hty2s hty2z hty3s hty3z hkim0 hkim1 rim0fv rim1fv hcip rfcir htuo htut htul rftuq rftuf hguo hguz rfguf htkl htkz hrda hrdz okvb HHhh HHhob HHhot HHhoi0 HHhoi1 eg0 eg1 eg2 eg3 htl hw_
  subst eg0
  subst eg1
  subst eg2
  subst eg3
  subst htl
  subst hw_
  have HX := HHhh
  obtain ⟨hv, ehv⟩ : ∃ hv : Nat → Prop, hv = HouseIn cy pl := ⟨_, rfl⟩
  rw [← ehv] at okvb HHhh HHhob HHhot HHhoi0 HHhoi1
  obtain ⟨hnl, hnp, hnt, hns, w4, w5, w6, hha, hhb, hhc, hhd, hhe, fha, fhb, fhc, fhd, fhe, L4, L5, L6, b1, b2, b3, l4, l5, l6, hm, hn⟩ := HX
  obtain ⟨r, hp⟩ := house_pick hm hn [] (List.nil_sublist _)
  replace h := q_open h hp
  refine q_callViF (rest := []) X hK hT hA h (fun sz => gX11_days_21cc064 l D cy x0 nw hh hhb hhc nwv bf bfv hsy hpa hv a_1 (.ref tp) xtl xfk xfp (.ref rd) (.ref tr) (.ref trs) (.ref ims) (.ref imm) (.ref sc) (.ref ci) (.ref tu) (.ref gu) xch nwd nwa hnl hnp hnt hns w4 w5 w6 (.ref hha) (.ref hhd) (.ref hhe) fhb fhc nwfv hob bfd bfa bffv his vb (i_rng _) hxtl (i_rng _) (i_rng _) (i_rng _) (i_rng _) (i_rng _) b1 b2 (i_rng _) (i_rng _) (i_rng _) (i_rng _) hhis (rg_wide rnwfv (by decide) (by decide)) (rg_wide rbffv (by decide) (by decide)) okvb (HHhh) sz) wm_4_67 wm_4_70 wm_1_1 hd_X11_days wm_4_68 wm_4_69 (ci := 11) (q0 := 0) rfl rfl ⟨Nat.le_of_ble_eq_true rfl, Nat.le_of_ble_eq_true rfl⟩ hls rfl (Nat.le_of_ble_eq_true rfl) dL_law_526 ⟨show cells + 0 ≤ 600000 from Nat.le_trans (Nat.add_le_add_right hc0 0) (by decide), show slots + 0 ≤ 7302250 from Nat.le_trans (Nat.add_le_add_right hs0 0) (by decide)⟩ [0, 2, 65, 67, 68, 3, 4, 5, 8, 44, 45, 46, 47, 48, 49, 50, 51, 52, 53, 54, 55, 56, 57, 58, 59, 60, 61, 62, 63, 64] rfl rfl (fun _ => rfl) (fun r_1 u_1 H locs w_1 h_1 => ?_)
  clear h
  obtain ⟨wr_1, w1_0, w1_1, w1_2, w1_3, w1_4, w1_5, w1_6, w1_7, _⟩ := w_1
  replace h_1 := q_pX (ix := [some 0, none, some 1, some 5, some 6, some 7, none, none, some 8, none, none, none, none, none, none, none, none, none, none, none, none, none, none, none, none, none, none, none, none, none, none, none, none, none, none, none, none, none, none, none, none, none, none, none, some 9, some 10, some 11, some 12, some 13, some 14, some 15, some 16, some 17, some 18, some 19, some 20, some 21, some 22, some 23, some 24, some 25, some 26, some 27, some 28, some 29, some 2, none, some 3, some 4, none, none]) h_1 rfl rfl (by decide +kernel) rfl (by decide +kernel)
  have hmono : ∀ a, hv a → HouseIn cy pl a := fun a ha => by rw [ehv] at ha; exact ha
  exact kk r_1 _ _ _ (fun _ k_ => k_ (tp) (nw) (nwv) (bf) (bfv) (tr) (trv) (hsy) (trs) (ty0) (ty0r) (ty1) (ty1r) (ty2) (ty2r) (ty3) (ty3r) (ims) (im0) (im0v) (im1) (im1v) (imm) (sc) (scg) (sch) (ci) (cir) (cipa) (ciw) (tu) (tup) (tuq) (tuf) (tub) (gu) (guf) (tk) (tkk) (tkp) (tkv) (rd) (rdc) (hpa) (hh) ((u_1.1 0)) (hot) (hoi0) (hoi1) (xtl) (xfk) (xfp) ((u_1.2.1 0 0)) ((u_1.2.1 5 0)) (nwa) ((u_1.2.1 1 0)) ((u_1.2.1 2 0)) (trd) (tra) ((u_1.2.1 4 0)) (ty0s) (ty0z) (ty1s) (ty1z) (ty2s) (ty2z) (ty3s) (ty3z) (im0d) (im0a) (im1d) (im1a) (cip) (tuo) (tut) (tus) (tul) (guo) (gup) (gus) (guz) (tkl) (tkz) (rda) (rdt) (rdf) (rdp) (rdz) (rdn) (tkt) (rto) (ftp) (nwfv) ((u_1.2.1 3)) (trfv) (ktr) (gty0) (gty1) (gty2) (gty3) (kim) (im0fv) (im1fv) (fimm) (fscg) (fsch) (fcir) (fcipa) (fciw) (ftup) (ftuq) (ftuf) (ftub) (fguf) (ftkk) (ftkp) (ftkv) (frdc) ((fun k => u_1.1 (k + 1), fun k => u_1.2.1 (k + 6), u_1.2.2)) (hxtl) (rftp) (rnwfv) (w1_4) (rtrfv) (w1_5) (hktr0) (hktr1) (hktr2) (hktr3) (hty0s) (hty0z) (hty1s) (hty1z) (hty2s) (hty2z) (hty3s) (hty3z) (hkim0) (hkim1) (rim0fv) (rim1fv) (hcip) (rfcir) (htuo) (htut) (htul) (rftuq) (rftuf) (hguo) (hguz) (rfguf) (htkl) (htkz) (hrda) (hrdz) (hb_mono w1_7 hmono) (hmono _ HHhh) (hmono _ (by rcases w1_1 with e | e <;> (rw [e]; assumption))) (hmono _ HHhot) (hmono _ HHhoi0) (hmono _ HHhoi1) (rfl) (rfl) (rfl) (rfl) rfl rfl) (q_back h_1 hp rfl)
set_option maxHeartbeats 8000000 in
set_option maxRecDepth 100000 in
theorem mc_days (l : Launch) {p : Program} {e : Env} {s : State} {m : MethodId} {below : List Frame} {meth : Method} {c : Code} {b : Nat} {Q : State → Prop} {D : va_G} {cy : Nat → ClassId} {H : Heap} {locs : List Loc} {ls : Array Slot} (X : qX p s m #[Value.ref b] c cL_law 4 RL) (hK : qK D cy s) (hT : qT cy (fun q => s.heap.size ≤ q) s) (hls : ls.size = 4) {m0 cells slots : Nat} {P wm : va_W} {a_1 : Int32} {gt : Int} {gb : Nat → Int} {gf : Int} {gp : Int} (hc0 : cells ≤ 26000) (hs0 : slots ≤ 5720000) (hM : MOK cy m0 wm gt gb gf gp) (h : qW D (fun q => s.heap.size ≤ q) s.heap (wm ++ P) H locs) (kk : ∀ (r : Int32) (H : Heap) (locs : List Loc) (w2 : va_W), MOK cy m0 w2 gt gb gf gp → qW D (fun q => s.heap.size ≤ q) s.heap (w2 ++ P) H locs → W p l e room_1 s m #[Value.ref b] below meth c H locs cells slots Q (F0 m 539 ls [.int r])) : W p l e room_1 s m #[Value.ref b] below meth c H locs cells slots Q (F0 m 536 ls [.int a_1, .ref m0]) := by
  have hA : ∀ q : Nat, s.heap.size ≤ q → (fun q => s.heap.size ≤ q) q := fun _ h => h
  refine hM _ ?_
  clear hM
  intros al hs mtp fr rec wds swd opd was par wth bwt met mtw_ mtf trn ism rso rmy nms mth mtd mat mbh msz mki mnu mwr mwa mfk mfp mrd mtw mx mbt mbw mtu nde fnl fnv fnp fnc fal fhs fmtp ffr frec fwds fswd fopd fwas fpar fwth fbwt fmet fmtw fmtf ftrn fism frso frmy gnms hmtd hmat hmbh hmsz hmnu hnde htal_84 rfal hfnl htfr_0 htfr_1 hfnp htfr_2 hfnc htfr_405 rfswd rfopd rfwas rfmet rfrmy eg0 eg1 eg2 eg3 hw_
  subst eg0
  subst eg1
  subst eg2
  subst eg3
  subst hw_
  refine q_callViF (rest := []) X hK hT hA h (fun sz => gX12_days_4acbfa2 l D cy m0 al was a_1 mth (.ref hs) (.ref mtp) (.ref fr) mtd mat mbh msz mki mnu mwr mwa mfk mfp mrd (.ref rec) (.ref wds) (.ref swd) (.ref opd) mtw mx (.ref par) (.ref wth) (.ref bwt) mbt mbw (.ref met) (.ref mtw_) (.ref mtf) (.ref trn) (.ref ism) mtu (.ref rso) (.ref rmy) (.ref nms) fal nde fwas (i_rng _) (i_rng _) hmtd hmat hmbh hmsz (i_rng _) hmnu (i_rng _) (i_rng _) (i_rng _) (i_rng _) (i_rng _) (i_rng _) (i_rng _) (i_rng _) (i_rng _) (i_rng _) hnde htal_84 rfal rfwas sz) wm_7_15 wm_7_18 wm_1_12 hd_X12_days wm_7_16 wm_7_17 (ci := 12) (q0 := 0) rfl rfl ⟨Nat.le_of_ble_eq_true rfl, Nat.le_of_ble_eq_true rfl⟩ hls rfl (Nat.le_of_ble_eq_true rfl) dL_law_536 ⟨show cells + 0 ≤ 600000 from Nat.le_trans (Nat.add_le_add_right hc0 0) (by decide), show slots + 0 ≤ 7302250 from Nat.le_trans (Nat.add_le_add_right hs0 0) (by decide)⟩ [0, 1, 9] rfl rfl (fun _ => rfl) (fun r_1 u_1 H locs w_1 h_1 => ?_)
  clear h
  obtain ⟨wr_1, w1_0, w1_1, w1_2, w1_3, w1_4, _⟩ := w_1
  exact kk r_1 _ _ _ (fun _ k_ => k_ (al) (hs) (mtp) (fr) (rec) (wds) (swd) (opd) (was) (par) (wth) (bwt) (met) (mtw_) (mtf) (trn) (ism) (rso) (rmy) (nms) ((u_1.2.1 1 0)) (mtd) (mat) (mbh) (msz) (mki) (mnu) (mwr) (mwa) (mfk) (mfp) (mrd) (mtw) (mx) (mbt) (mbw) (mtu) ((u_1.2.1 3 0)) (fnl) (fnv) (fnp) (fnc) ((u_1.2.1 2)) (fhs) (fmtp) (ffr) (frec) (fwds) (fswd) (fopd) ((u_1.2.1 0)) (fpar) (fwth) (fbwt) (fmet) (fmtw) (fmtf) (ftrn) (fism) (frso) (frmy) (gnms) (hmtd) (hmat) (hmbh) (hmsz) (hmnu) (w1_3) (w1_4) (w1_2) (hfnl) (htfr_0) (htfr_1) (hfnp) (htfr_2) (hfnc) (htfr_405) (rfswd) (rfopd) (w1_0) (rfmet) (rfrmy) (rfl) (rfl) (rfl) (rfl) rfl) h_1
set_option maxHeartbeats 8000000 in
set_option maxRecDepth 100000 in
theorem lc_days (l : Launch) {p : Program} {e : Env} {s : State} {m : MethodId} {below : List Frame} {meth : Method} {c : Code} {b : Nat} {xs : Nat → Int32} {Q : State → Prop} {D : va_G} {cy : Nat → ClassId} {H : Heap} {locs : List Loc} {ls : Array Slot} {x0 m0 L k cells slots : Nat} {i : Int32} {tl : Int} (X : qX p s m #[Value.ref b] c cL_law 4 RL) (hK : qK D cy s) (hT : qT cy (fun q => s.heap.size ≤ q) s) (hX : va_X b L xs s s.heap) (hbl : b < s.heap.size) (hi : 0 ≤ i.toInt ∧ i.toInt + 6 ≤ L ∧ L ≤ 3072) (hk : k < 512) (hcell : cells + tl.toNat ≤ 200 + 50 * k) (hslot : slots + 451 * tl.toNat ≤ 30000 + 11100 * k) (hl : lv_has ls 4 [(3, .int i), (2, .ref m0), (1, .ref x0), (0, .ref b)]) (hI : LInv cy D (fun q => s.heap.size ≤ q) s.heap x0 m0 H locs tl) (kk : ∀ (H : Heap) (locs : List Loc) (ls : Array Slot) (cells slots : Nat) (tl : Int), lv_has ls 4 [(3, .int i), (2, .ref m0), (1, .ref x0), (0, .ref b)] → LInv cy D (fun q => s.heap.size ≤ q) s.heap x0 m0 H locs tl → cells + tl.toNat ≤ 200 + 50 * (k + 1) → slots + 451 * tl.toNat ≤ 30000 + 11100 * (k + 1) → W p l e room_1 s m #[Value.ref b] below meth c H locs cells slots Q (F0 m 1459 ls [])) : W p l e room_1 s m #[Value.ref b] below meth c H locs cells slots Q (F0 m 520 ls []) := by
  obtain ⟨hx, hb, hml, hown, ht⟩ := id X
  have hA : ∀ q : Nat, s.heap.size ≤ q → (fun q => s.heap.size ≤ q) q := fun _ h => h
  have hbA : ¬ (fun q : Nat => s.heap.size ≤ q) b := Nat.not_le.mpr hbl
  have hc0 : cells ≤ 26000 := by omega
  have hs0 : slots ≤ 5720000 := by omega
  obtain ⟨gt, gb, gf, gp, wm, wx, pl, hMo, hXo, h⟩ := hI
  refine lv_aload_n hx hb dL_law_520 rfl (lv_at hl 2 rfl) ?_
  refine lv_aload_n hx hb dL_law_521 rfl (lv_at hl 3 rfl) ?_
  refine lv_iload_n hx hb dL_law_522 rfl (lv_at hl 0 rfl) ?_
  refine lv_iconst (v := 1) hx hb dL_law_523 (by decide) ?_
  refine lv_iadd hx hb dL_law_524 ?_
  obtain ⟨z_1, ez_1, hz_1⟩ := li_add hi 1 (n := 1) (by decide) (by decide) (by decide)
  refine q_c z_1 ez_1 ?_
  clear ez_1
  refine va_sld hx hb hX hbl hbA h.2.2 (li_in hi hz_1 (by decide) (by decide)) dL_law_525 ?_
  obtain ⟨x_1, ex_1, hx_1⟩ := e_any (xs (z_1).toNatClampNeg)
  refine q_c x_1 ex_1 ?_
  replace h := q_rotX h
  refine xc_days l X hK hT hl.1 hc0 hs0 hXo h (fun r_2 H locs wx hXo h => ?_)
  refine lv_pop hx hb dL_law_529 rfl ?_
  refine lv_aload_n hx hb dL_law_530 rfl (lv_at hl 1 rfl) ?_
  refine lv_aload_n hx hb dL_law_531 rfl (lv_at hl 3 rfl) ?_
  refine lv_iload_n hx hb dL_law_532 rfl (lv_at hl 0 rfl) ?_
  refine lv_iconst (v := 1) hx hb dL_law_533 (by decide) ?_
  refine lv_iadd hx hb dL_law_534 ?_
  obtain ⟨z_3, ez_3, hz_3⟩ := li_add hi 1 (n := 1) (by decide) (by decide) (by decide)
  refine q_c z_3 ez_3 ?_
  clear ez_3
  refine va_sld hx hb hX hbl hbA h.2.2 (li_in hi hz_3 (by decide) (by decide)) dL_law_535 ?_
  refine q_c x_1 ((congrArg xs (cl_eq (x := z_3) (y := z_1) (hz_3.trans hz_1.symm))).trans ex_1) ?_
  replace h := q_rotM h
  refine mc_days l X hK hT hl.1 hc0 hs0 hMo h (fun r_4 H locs wm hMo h => ?_)
  refine lv_pop hx hb dL_law_539 rfl ?_
  refine lv_goto (tgt := 1459) hx hb dL_law_540 (by decide) ?_
  exact kk _ _ _ cells slots tl (lv_sub hl [0, 1, 2, 3] rfl) ⟨_, _, _, _, _, _, _, hMo, hXo, h⟩ (li_c hcell) (li_s hslot)
set_option maxHeartbeats 8000000 in
set_option maxRecDepth 100000 in
theorem xc_undo (l : Launch) {p : Program} {e : Env} {s : State} {m : MethodId} {below : List Frame} {meth : Method} {c : Code} {b : Nat} {Q : State → Prop} {D : va_G} {cy : Nat → ClassId} {H : Heap} {locs : List Loc} {ls : Array Slot} (X : qX p s m #[Value.ref b] c cL_law 4 RL) (hK : qK D cy s) (hT : qT cy (fun q => s.heap.size ≤ q) s) (hls : ls.size = 4) {x0 cells slots : Nat} {P pl wx : va_W} {tl : Int} {a_1 : Int32} {gt : Int} {gb : Nat → Int} {gf : Int} {gp : Int} (hc0 : cells ≤ 26000) (hs0 : slots ≤ 5720000) (hX : XOK cy x0 pl wx tl gt gb gf gp) (h : qW D (fun q => s.heap.size ≤ q) s.heap (wx ++ (pl ++ P)) H locs) (kk : ∀ (r : Int32) (H : Heap) (locs : List Loc) (w2 : va_W), XOK cy x0 pl w2 tl gt gb gf gp → qW D (fun q => s.heap.size ≤ q) s.heap (w2 ++ (pl ++ P)) H locs → W p l e room_1 s m #[Value.ref b] below meth c H locs cells slots Q (F0 m 552 ls [.int r])) : W p l e room_1 s m #[Value.ref b] below meth c H locs cells slots Q (F0 m 549 ls [.int a_1, .ref x0]) := by
  have hA : ∀ q : Nat, s.heap.size ≤ q → (fun q => s.heap.size ≤ q) q := fun _ h => h
  refine hX _ ?_
  clear hX
  intros tp nw nwv bf bfv tr trv hsy trs ty0 ty0r ty1 ty1r ty2 ty2r ty3 ty3r ims im0 im0v im1 im1v imm sc scg sch ci cir cipa ciw tu tup tuq tuf tub gu guf tk tkk tkp tkv rd rdc hpa hh hob hot hoi0 hoi1 xtl xfk xfp xch nwd nwa bfd bfa trd tra his ty0s ty0z ty1s ty1z ty2s ty2z ty3s ty3z im0d im0a im1d im1a cip tuo tut tus tul guo gup gus guz tkl tkz rda rdt rdf rdp rdz rdn tkt rto ftp nwfv bffv trfv ktr gty0 gty1 gty2 gty3 kim im0fv im1fv fimm fscg fsch fcir fcipa fciw ftup ftuq ftuf ftub fguf ftkk ftkp ftkv frdc vb hxtl rftp rnwfv rbffv rtrfv hhis hktr0 hktr1 hktr2 hktr3 hty0s hty0z hty1s hty1z hty2s hty2z hty3s hty3z hkim0 hkim1 rim0fv rim1fv hcip rfcir htuo htut htul rftuq rftuf hguo hguz rfguf htkl htkz hrda hrdz okvb HHhh HHhob HHhot HHhoi0 HHhoi1 eg0 eg1 eg2 eg3 htl hw_
  subst eg0
  subst eg1
  subst eg2
  subst eg3
  subst htl
  subst hw_
  have HX := HHhh
  obtain ⟨hv, ehv⟩ : ∃ hv : Nat → Prop, hv = HouseIn cy pl := ⟨_, rfl⟩
  rw [← ehv] at okvb HHhh HHhob HHhot HHhoi0 HHhoi1
  obtain ⟨hnl, hnp, hnt, hns, w4, w5, w6, hha, hhb, hhc, hhd, hhe, fha, fhb, fhc, fhd, fhe, L4, L5, L6, b1, b2, b3, l4, l5, l6, hm, hn⟩ := HX
  obtain ⟨r, hp⟩ := house_pick hm hn [] (List.nil_sublist _)
  replace h := q_open h hp
  refine q_callViF (rest := []) X hK hT hA h (fun sz => gX11_undo_67b1ee6 l D cy x0 nw nwv hsy hpa hv a_1 (.ref tp) xtl xfk xfp (.ref rd) (.ref bf) (.ref tr) (.ref trs) (.ref ims) (.ref imm) (.ref sc) (.ref ci) (.ref tu) (.ref gu) xch hh nwd nwa nwfv his vb (i_rng _) hxtl (i_rng _) (i_rng _) (i_rng _) (i_rng _) (i_rng _) hhis (rg_wide rnwfv (by decide) (by decide)) okvb (HHhh) sz) wm_4_71 wm_4_74 wm_1_1 hd_X11_undo wm_4_72 wm_4_73 (ci := 11) (q0 := 0) rfl rfl ⟨Nat.le_of_ble_eq_true rfl, Nat.le_of_ble_eq_true rfl⟩ hls rfl (Nat.le_of_ble_eq_true rfl) dL_law_549 ⟨show cells + 0 ≤ 600000 from Nat.le_trans (Nat.add_le_add_right hc0 0) (by decide), show slots + 0 ≤ 7302250 from Nat.le_trans (Nat.add_le_add_right hs0 0) (by decide)⟩ [0, 2, 3, 8, 44, 45, 46, 47, 48, 49, 50, 51, 52, 53, 54, 55, 56, 57, 58, 59, 60, 61, 62, 63, 64] rfl rfl (fun _ => rfl) (fun r_1 u_1 H locs w_1 h_1 => ?_)
  clear h
  obtain ⟨wr_1, w1_0, w1_1, w1_2, w1_3, w1_4, y1_0, _⟩ := w_1
  replace h_1 := q_pX (ix := [some 0, none, some 1, some 2, none, none, none, none, some 3, none, none, none, none, none, none, none, none, none, none, none, none, none, none, none, none, none, none, none, none, none, none, none, none, none, none, none, none, none, none, none, none, none, none, none, some 4, some 5, some 6, some 7, some 8, some 9, some 10, some 11, some 12, some 13, some 14, some 15, some 16, some 17, some 18, some 19, some 20, some 21, some 22, some 23, some 24, none, none, none, none, none, none]) h_1 rfl rfl (by decide +kernel) rfl (by decide +kernel)
  have hmono : ∀ a, hv a → HouseIn cy pl a := fun a ha => by rw [ehv] at ha; exact ha
  exact kk r_1 _ _ _ (fun _ k_ => k_ (tp) (nw) (nwv) (bf) (bfv) (tr) (trv) (hsy) (trs) (ty0) (ty0r) (ty1) (ty1r) (ty2) (ty2r) (ty3) (ty3r) (ims) (im0) (im0v) (im1) (im1v) (imm) (sc) (scg) (sch) (ci) (cir) (cipa) (ciw) (tu) (tup) (tuq) (tuf) (tub) (gu) (guf) (tk) (tkk) (tkp) (tkv) (rd) (rdc) (hpa) ((u_1.1 0)) (hob) (hot) (hoi0) (hoi1) (xtl) (xfk) (xfp) ((u_1.2.1 0 0)) ((u_1.2.1 2 0)) ((u_1.2.1 3 0)) (bfd) (bfa) (trd) (tra) ((u_1.2.1 1 0)) (ty0s) (ty0z) (ty1s) (ty1z) (ty2s) (ty2z) (ty3s) (ty3z) (im0d) (im0a) (im1d) (im1a) (cip) (tuo) (tut) (tus) (tul) (guo) (gup) (gus) (guz) (tkl) (tkz) (rda) (rdt) (rdf) (rdp) (rdz) (rdn) (tkt) (rto) (ftp) ((u_1.2.1 4)) (bffv) (trfv) (ktr) (gty0) (gty1) (gty2) (gty3) (kim) (im0fv) (im1fv) (fimm) (fscg) (fsch) (fcir) (fcipa) (fciw) (ftup) (ftuq) (ftuf) (ftub) (fguf) (ftkk) (ftkp) (ftkv) (frdc) (vb) (hxtl) (rftp) (w1_4) (rbffv) (rtrfv) (w1_1) (hktr0) (hktr1) (hktr2) (hktr3) (hty0s) (hty0z) (hty1s) (hty1z) (hty2s) (hty2z) (hty3s) (hty3z) (hkim0) (hkim1) (rim0fv) (rim1fv) (hcip) (rfcir) (htuo) (htut) (htul) (rftuq) (rftuf) (hguo) (hguz) (rfguf) (htkl) (htkz) (hrda) (hrdz) (hb_mono okvb hmono) (hmono _ y1_0) (hmono _ HHhob) (hmono _ HHhot) (hmono _ HHhoi0) (hmono _ HHhoi1) (rfl) (rfl) (rfl) (rfl) rfl rfl) (q_back h_1 hp rfl)
set_option maxHeartbeats 8000000 in
set_option maxRecDepth 100000 in
theorem mc_undo (l : Launch) {p : Program} {e : Env} {s : State} {m : MethodId} {below : List Frame} {meth : Method} {c : Code} {b : Nat} {Q : State → Prop} {D : va_G} {cy : Nat → ClassId} {H : Heap} {locs : List Loc} {ls : Array Slot} (X : qX p s m #[Value.ref b] c cL_law 4 RL) (hK : qK D cy s) (hT : qT cy (fun q => s.heap.size ≤ q) s) (hls : ls.size = 4) {m0 cells slots : Nat} {P wm : va_W} {a_1 : Int32} {gt : Int} {gb : Nat → Int} {gf : Int} {gp : Int} (hc0 : cells ≤ 26000) (hs0 : slots ≤ 5720000) (hM : MOK cy m0 wm gt gb gf gp) (h : qW D (fun q => s.heap.size ≤ q) s.heap (wm ++ P) H locs) (kk : ∀ (r : Int32) (H : Heap) (locs : List Loc) (w2 : va_W), MOK cy m0 w2 gt gb gf gp → qW D (fun q => s.heap.size ≤ q) s.heap (w2 ++ P) H locs → W p l e room_1 s m #[Value.ref b] below meth c H locs cells slots Q (F0 m 562 ls [.int r])) : W p l e room_1 s m #[Value.ref b] below meth c H locs cells slots Q (F0 m 559 ls [.int a_1, .ref m0]) := by
  have hA : ∀ q : Nat, s.heap.size ≤ q → (fun q => s.heap.size ≤ q) q := fun _ h => h
  refine hM _ ?_
  clear hM
  intros al hs mtp fr rec wds swd opd was par wth bwt met mtw_ mtf trn ism rso rmy nms mth mtd mat mbh msz mki mnu mwr mwa mfk mfp mrd mtw mx mbt mbw mtu nde fnl fnv fnp fnc fal fhs fmtp ffr frec fwds fswd fopd fwas fpar fwth fbwt fmet fmtw fmtf ftrn fism frso frmy gnms hmtd hmat hmbh hmsz hmnu hnde htal_84 rfal hfnl htfr_0 htfr_1 hfnp htfr_2 hfnc htfr_405 rfswd rfopd rfwas rfmet rfrmy eg0 eg1 eg2 eg3 hw_
  subst eg0
  subst eg1
  subst eg2
  subst eg3
  subst hw_
  refine q_callViF (rest := []) X hK hT hA h (fun sz => gX12_undo_e942426 l D cy m0 al a_1 mth (.ref hs) (.ref mtp) (.ref fr) mtd mat mbh msz mki mnu mwr mwa mfk mfp mrd (.ref rec) (.ref wds) (.ref swd) (.ref opd) (.ref was) mtw mx (.ref par) (.ref wth) (.ref bwt) mbt mbw (.ref met) (.ref mtw_) (.ref mtf) (.ref trn) (.ref ism) mtu (.ref rso) (.ref rmy) (.ref nms) fal nde (i_rng _) (i_rng _) hmtd hmat hmbh hmsz (i_rng _) hmnu (i_rng _) (i_rng _) (i_rng _) (i_rng _) (i_rng _) (i_rng _) (i_rng _) (i_rng _) (i_rng _) (i_rng _) hnde htal_84 rfal sz) wm_7_20 wm_7_23 wm_1_12 hd_X12_undo wm_7_21 wm_7_22 (ci := 12) (q0 := 0) rfl rfl ⟨Nat.le_of_ble_eq_true rfl, Nat.le_of_ble_eq_true rfl⟩ hls rfl (Nat.le_of_ble_eq_true rfl) dL_law_559 ⟨show cells + 0 ≤ 600000 from Nat.le_trans (Nat.add_le_add_right hc0 0) (by decide), show slots + 0 ≤ 7302250 from Nat.le_trans (Nat.add_le_add_right hs0 0) (by decide)⟩ [0, 1] rfl rfl (fun _ => rfl) (fun r_1 u_1 H locs w_1 h_1 => ?_)
  clear h
  obtain ⟨wr_1, w1_0, w1_1, w1_2, w1_3, _⟩ := w_1
  exact kk r_1 _ _ _ (fun _ k_ => k_ (al) (hs) (mtp) (fr) (rec) (wds) (swd) (opd) (was) (par) (wth) (bwt) (met) (mtw_) (mtf) (trn) (ism) (rso) (rmy) (nms) ((u_1.2.1 0 0)) (mtd) (mat) (mbh) (msz) (mki) (mnu) (mwr) (mwa) (mfk) (mfp) (mrd) (mtw) (mx) (mbt) (mbw) (mtu) ((u_1.2.1 2 0)) (fnl) (fnv) (fnp) (fnc) ((u_1.2.1 1)) (fhs) (fmtp) (ffr) (frec) (fwds) (fswd) (fopd) (fwas) (fpar) (fwth) (fbwt) (fmet) (fmtw) (fmtf) (ftrn) (fism) (frso) (frmy) (gnms) (hmtd) (hmat) (hmbh) (hmsz) (hmnu) (w1_2) (w1_3) (w1_1) (hfnl) (htfr_0) (htfr_1) (hfnp) (htfr_2) (hfnc) (htfr_405) (rfswd) (rfopd) (rfwas) (rfmet) (rfrmy) (rfl) (rfl) (rfl) (rfl) rfl) h_1
set_option maxHeartbeats 8000000 in
set_option maxRecDepth 100000 in
theorem lc_undo (l : Launch) {p : Program} {e : Env} {s : State} {m : MethodId} {below : List Frame} {meth : Method} {c : Code} {b : Nat} {xs : Nat → Int32} {Q : State → Prop} {D : va_G} {cy : Nat → ClassId} {H : Heap} {locs : List Loc} {ls : Array Slot} {x0 m0 L k cells slots : Nat} {i : Int32} {tl : Int} (X : qX p s m #[Value.ref b] c cL_law 4 RL) (hK : qK D cy s) (hT : qT cy (fun q => s.heap.size ≤ q) s) (hX : va_X b L xs s s.heap) (hbl : b < s.heap.size) (hi : 0 ≤ i.toInt ∧ i.toInt + 6 ≤ L ∧ L ≤ 3072) (hk : k < 512) (hcell : cells + tl.toNat ≤ 200 + 50 * k) (hslot : slots + 451 * tl.toNat ≤ 30000 + 11100 * k) (hl : lv_has ls 4 [(3, .int i), (2, .ref m0), (1, .ref x0), (0, .ref b)]) (hI : LInv cy D (fun q => s.heap.size ≤ q) s.heap x0 m0 H locs tl) (kk : ∀ (H : Heap) (locs : List Loc) (ls : Array Slot) (cells slots : Nat) (tl : Int), lv_has ls 4 [(3, .int i), (2, .ref m0), (1, .ref x0), (0, .ref b)] → LInv cy D (fun q => s.heap.size ≤ q) s.heap x0 m0 H locs tl → cells + tl.toNat ≤ 200 + 50 * (k + 1) → slots + 451 * tl.toNat ≤ 30000 + 11100 * (k + 1) → W p l e room_1 s m #[Value.ref b] below meth c H locs cells slots Q (F0 m 1459 ls [])) : W p l e room_1 s m #[Value.ref b] below meth c H locs cells slots Q (F0 m 543 ls []) := by
  obtain ⟨hx, hb, hml, hown, ht⟩ := id X
  have hA : ∀ q : Nat, s.heap.size ≤ q → (fun q => s.heap.size ≤ q) q := fun _ h => h
  have hbA : ¬ (fun q : Nat => s.heap.size ≤ q) b := Nat.not_le.mpr hbl
  have hc0 : cells ≤ 26000 := by omega
  have hs0 : slots ≤ 5720000 := by omega
  obtain ⟨gt, gb, gf, gp, wm, wx, pl, hMo, hXo, h⟩ := hI
  refine lv_aload_n hx hb dL_law_543 rfl (lv_at hl 2 rfl) ?_
  refine lv_aload_n hx hb dL_law_544 rfl (lv_at hl 3 rfl) ?_
  refine lv_iload_n hx hb dL_law_545 rfl (lv_at hl 0 rfl) ?_
  refine lv_iconst (v := 1) hx hb dL_law_546 (by decide) ?_
  refine lv_iadd hx hb dL_law_547 ?_
  obtain ⟨z_1, ez_1, hz_1⟩ := li_add hi 1 (n := 1) (by decide) (by decide) (by decide)
  refine q_c z_1 ez_1 ?_
  clear ez_1
  refine va_sld hx hb hX hbl hbA h.2.2 (li_in hi hz_1 (by decide) (by decide)) dL_law_548 ?_
  obtain ⟨x_1, ex_1, hx_1⟩ := e_any (xs (z_1).toNatClampNeg)
  refine q_c x_1 ex_1 ?_
  replace h := q_rotX h
  refine xc_undo l X hK hT hl.1 hc0 hs0 hXo h (fun r_2 H locs wx hXo h => ?_)
  refine lv_pop hx hb dL_law_552 rfl ?_
  refine lv_aload_n hx hb dL_law_553 rfl (lv_at hl 1 rfl) ?_
  refine lv_aload_n hx hb dL_law_554 rfl (lv_at hl 3 rfl) ?_
  refine lv_iload_n hx hb dL_law_555 rfl (lv_at hl 0 rfl) ?_
  refine lv_iconst (v := 1) hx hb dL_law_556 (by decide) ?_
  refine lv_iadd hx hb dL_law_557 ?_
  obtain ⟨z_3, ez_3, hz_3⟩ := li_add hi 1 (n := 1) (by decide) (by decide) (by decide)
  refine q_c z_3 ez_3 ?_
  clear ez_3
  refine va_sld hx hb hX hbl hbA h.2.2 (li_in hi hz_3 (by decide) (by decide)) dL_law_558 ?_
  refine q_c x_1 ((congrArg xs (cl_eq (x := z_3) (y := z_1) (hz_3.trans hz_1.symm))).trans ex_1) ?_
  replace h := q_rotM h
  refine mc_undo l X hK hT hl.1 hc0 hs0 hMo h (fun r_4 H locs wm hMo h => ?_)
  refine lv_pop hx hb dL_law_562 rfl ?_
  refine lv_goto (tgt := 1459) hx hb dL_law_563 (by decide) ?_
  exact kk _ _ _ cells slots tl (lv_sub hl [0, 1, 2, 3] rfl) ⟨_, _, _, _, _, _, _, hMo, hXo, h⟩ (li_c hcell) (li_s hslot)
