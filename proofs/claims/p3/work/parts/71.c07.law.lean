set_option maxHeartbeats 8000000 in
set_option maxRecDepth 100000 in
theorem xc_count (l : Launch) {p : Program} {e : Env} {s : State} {m : MethodId} {below : List Frame} {meth : Method} {c : Code} {b : Nat} {Q : State → Prop} {D : va_G} {cy : Nat → ClassId} {H : Heap} {locs : List Loc} {ls : Array Slot} (X : qX p s m #[Value.ref b] c cL_law 4 RL) (hK : qK D cy s) (hT : qT cy (fun q => s.heap.size ≤ q) s) (hls : ls.size = 4) {x0 cells slots : Nat} {P pl wx : va_W} {tl : Int} {a_1 : Int32} {gt : Int} {gb : Nat → Int} {gf : Int} {gp : Int} (hc0 : cells ≤ 26000) (hs0 : slots ≤ 5720000) (hX : XOK cy x0 pl wx tl gt gb gf gp) (h : qW D (fun q => s.heap.size ≤ q) s.heap (wx ++ (pl ++ P)) H locs) (kk : ∀ (r : Int32) (H : Heap) (locs : List Loc) (w2 : va_W), XOK cy x0 pl w2 tl gt gb gf gp → qW D (fun q => s.heap.size ≤ q) s.heap (w2 ++ (pl ++ P)) H locs → W p l e room_1 s m #[Value.ref b] below meth c H locs cells slots Q (F0 m 1445 ls [.int r])) : W p l e room_1 s m #[Value.ref b] below meth c H locs cells slots Q (F0 m 1442 ls [.int a_1, .ref x0]) := by
  have hA : ∀ q : Nat, s.heap.size ≤ q → (fun q => s.heap.size ≤ q) q := fun _ h => h
  refine hX _ ?_
  clear hX
  intros tp nw nwv bf bfv tr trv hsy trs ty0 ty0r ty1 ty1r ty2 ty2r ty3 ty3r ims im0 im0v im1 im1v imm sc scg sch ci cir cipa ciw tu tup tuq tuf tub gu guf tk tkk tkp tkv rd rdc hpa hh hob hot hoi0 hoi1 xtl xfk xfp xch nwd nwa bfd bfa trd tra his ty0s ty0z ty1s ty1z ty2s ty2z ty3s ty3z im0d im0a im1d im1a cip tuo tut tus tul guo gup gus guz tkl tkz rda rdt rdf rdp rdz rdn tkt rto ftp nwfv bffv trfv ktr gty0 gty1 gty2 gty3 kim im0fv im1fv fimm fscg fsch fcir fcipa fciw ftup ftuq ftuf ftub fguf ftkk ftkp ftkv frdc vb hxtl rftp rnwfv rbffv rtrfv hhis hktr0 hktr1 hktr2 hktr3 hty0s hty0z hty1s hty1z hty2s hty2z hty3s hty3z hkim0 hkim1 rim0fv rim1fv hcip rfcir htuo htut htul rftuq rftuf hguo hguz rfguf htkl htkz hrda hrdz okvb HHhh HHhob HHhot HHhoi0 HHhoi1 eg0 eg1 eg2 eg3 htl hw_
  subst eg0
  subst eg1
  subst eg2
  subst eg3
  subst htl
  subst hw_
  have HX := HHhh
  obtain ⟨hv, ehv⟩ : ∃ hv : Nat → Prop, hv = HouseIn cy pl := ⟨_, rfl⟩
  rw [← ehv] at okvb HHhh HHhob HHhot HHhoi0 HHhoi1
  obtain ⟨hnl, hnp, hnt, hns, w4, w5, w6, hha, hhb, hhc, hhd, hhe, fha, fhb, fhc, fhd, fhe, L4, L5, L6, b1, b2, b3, l4, l5, l6, hm, hn⟩ := HX
  obtain ⟨r, hp⟩ := house_pick hm hn L4 ((List.sublist_append_left L4 L5).trans (List.sublist_append_left _ _))
  rcases l4 with ⟨rfl, rfl⟩ | ⟨la4, las4, n4, fs4, rfl, hn4, rfl⟩
  · skip
    replace h := q_open h hp
    refine q_callViF (rest := []) X hK hT hA h (fun sz => gX11_count_ccb645d l D cy x0 nw hh hhb hhc nwv hsy sc ci cir a_1 (.ref tp) xtl xfk xfp (.ref rd) (.ref bf) (.ref tr) (.ref trs) (.ref ims) (.ref imm) (.ref tu) (.ref gu) xch nwd nwa hnl hnp hnt hns w5 w6 (.ref hha) (.ref hhd) (.ref hhe) fhb fhc nwfv his (.ref hpa) (.ref scg) (.ref sch) cip (.ref cipa) (.ref ciw) fcir (i_rng _) hxtl (i_rng _) (i_rng _) (i_rng _) (i_rng _) (i_rng _) b1 b2 (i_rng _) (i_rng _) hhis hcip (rg_wide rnwfv (by decide) (by decide)) (rg_wide rfcir (by decide) (by decide)) sz) wm_5_153 wm_5_156 wm_1_1 hd_X11_count wm_5_154 wm_5_155 (ci := 11) (q0 := 0) rfl rfl ⟨Nat.le_of_ble_eq_true rfl, Nat.le_of_ble_eq_true rfl⟩ hls rfl (Nat.le_of_ble_eq_true rfl) dL_law_1442 ⟨show cells + 0 ≤ 600000 from Nat.le_trans (Nat.add_le_add_right hc0 0) (by decide), show slots + 0 ≤ 7302250 from Nat.le_trans (Nat.add_le_add_right hs0 0) (by decide)⟩ [0, 2, 65, 67, 68, 3, 8, 24, 27, 28] rfl rfl (fun _ => rfl) (fun r_1 u_1 H locs w_1 h_1 => ?_)
    clear h
    obtain ⟨wr_1, w1_0, w1_1, _⟩ := w_1
    replace h_1 := q_pX (ix := [some 0, none, some 1, some 5, none, none, none, none, some 6, none, none, none, none, none, none, none, none, none, none, none, none, none, none, none, some 7, none, none, some 8, some 9, none, none, none, none, none, none, none, none, none, none, none, none, none, none, none, none, none, none, none, none, none, none, none, none, none, none, none, none, none, none, none, none, none, none, none, none, some 2, none, some 3, some 4, none, none]) h_1 rfl rfl (by decide +kernel) rfl (by decide +kernel)
    have hmono : ∀ a, hv a → HouseIn cy pl a := fun a ha => by rw [ehv] at ha; exact ha
    exact kk r_1 _ _ _ (fun _ k_ => k_ (tp) (nw) (nwv) (bf) (bfv) (tr) (trv) (hsy) (trs) (ty0) (ty0r) (ty1) (ty1r) (ty2) (ty2r) (ty3) (ty3r) (ims) (im0) (im0v) (im1) (im1v) (imm) (sc) (scg) (sch) (ci) (cir) (cipa) (ciw) (tu) (tup) (tuq) (tuf) (tub) (gu) (guf) (tk) (tkk) (tkp) (tkv) (rd) (rdc) (hpa) (hh) (hob) (hot) (hoi0) (hoi1) (xtl) (xfk) (xfp) (xch) (nwd) (nwa) (bfd) (bfa) (trd) (tra) (his) (ty0s) (ty0z) (ty1s) (ty1z) (ty2s) (ty2z) (ty3s) (ty3z) (im0d) (im0a) (im1d) (im1a) ((u_1.2.1 0 0)) (tuo) (tut) (tus) (tul) (guo) (gup) (gus) (guz) (tkl) (tkz) (rda) (rdt) (rdf) (rdp) (rdz) (rdn) (tkt) (rto) (ftp) (nwfv) (bffv) (trfv) (ktr) (gty0) (gty1) (gty2) (gty3) (kim) (im0fv) (im1fv) (fimm) (fscg) (fsch) ((u_1.2.1 1)) (fcipa) (fciw) (ftup) (ftuq) (ftuf) (ftub) (fguf) (ftkk) (ftkp) (ftkv) (frdc) (vb) (hxtl) (rftp) (rnwfv) (rbffv) (rtrfv) (hhis) (hktr0) (hktr1) (hktr2) (hktr3) (hty0s) (hty0z) (hty1s) (hty1z) (hty2s) (hty2z) (hty3s) (hty3z) (hkim0) (hkim1) (rim0fv) (rim1fv) (w1_0) (w1_1) (htuo) (htut) (htul) (rftuq) (rftuf) (hguo) (hguz) (rfguf) (htkl) (htkz) (hrda) (hrdz) (hb_mono okvb hmono) (hmono _ HHhh) (hmono _ HHhob) (hmono _ HHhot) (hmono _ HHhoi0) (hmono _ HHhoi1) (rfl) (rfl) (rfl) (rfl) rfl rfl) (q_back h_1 hp rfl)
  · skip
    replace h := q_open h hp
    refine q_callViF (rest := []) X hK hT hA h (fun sz => gX11_count_058c87e l D cy x0 nw hh la4 las4 hhb hhc nwv hsy sc scg sch ci cir a_1 (.ref tp) xtl xfk xfp (.ref rd) (.ref bf) (.ref tr) (.ref trs) (.ref ims) (.ref imm) (.ref tu) (.ref gu) xch nwd nwa hnl hnp hnt hns w5 w6 (.ref hha) (.ref hhd) (.ref hhe) n4 fs4 fhb fhc nwfv his (.ref hpa) fscg fsch cip (.ref cipa) (.ref ciw) fcir (i_rng _) hxtl (i_rng _) (i_rng _) (i_rng _) (i_rng _) (i_rng _) b1 b2 (i_rng _) (i_rng _) (by omega) hhis hcip (rg_wide rnwfv (by decide) (by decide)) (rg_wide rfcir (by decide) (by decide)) sz) wm_5_153 wm_5_156 wm_1_1 hd_X11_count wm_5_154 wm_5_155 (ci := 11) (q0 := 0) rfl rfl ⟨Nat.le_of_ble_eq_true rfl, Nat.le_of_ble_eq_true rfl⟩ hls rfl (Nat.le_of_ble_eq_true rfl) dL_law_1442 ⟨show cells + 0 ≤ 600000 from Nat.le_trans (Nat.add_le_add_right hc0 0) (by decide), show slots + 0 ≤ 7302250 from Nat.le_trans (Nat.add_le_add_right hs0 0) (by decide)⟩ [0, 2, 65, 71, 72, 67, 68, 3, 8, 24, 25, 26, 27, 28] rfl rfl (fun _ => rfl) (fun r_1 u_1 H locs w_1 h_1 => ?_)
    clear h
    obtain ⟨wr_1, w1_0, w1_1, _⟩ := w_1
    replace h_1 := q_pX (ix := [some 0, none, some 1, some 7, none, none, none, none, some 8, none, none, none, none, none, none, none, none, none, none, none, none, none, none, none, some 9, some 10, some 11, some 12, some 13, none, none, none, none, none, none, none, none, none, none, none, none, none, none, none, none, none, none, none, none, none, none, none, none, none, none, none, none, none, none, none, none, none, none, none, none, some 2, none, some 5, some 6, none, none, some 3, some 4]) h_1 rfl rfl (by decide +kernel) rfl (by decide +kernel)
    have hmono : ∀ a, hv a → HouseIn cy pl a := fun a ha => by rw [ehv] at ha; exact ha
    exact kk r_1 _ _ _ (fun _ k_ => k_ (tp) (nw) (nwv) (bf) (bfv) (tr) (trv) (hsy) (trs) (ty0) (ty0r) (ty1) (ty1r) (ty2) (ty2r) (ty3) (ty3r) (ims) (im0) (im0v) (im1) (im1v) (imm) (sc) (scg) (sch) (ci) (cir) (cipa) (ciw) (tu) (tup) (tuq) (tuf) (tub) (gu) (guf) (tk) (tkk) (tkp) (tkv) (rd) (rdc) (hpa) (hh) (hob) (hot) (hoi0) (hoi1) (xtl) (xfk) (xfp) (xch) (nwd) (nwa) (bfd) (bfa) (trd) (tra) (his) (ty0s) (ty0z) (ty1s) (ty1z) (ty2s) (ty2z) (ty3s) (ty3z) (im0d) (im0a) (im1d) (im1a) ((u_1.2.1 2 0)) (tuo) (tut) (tus) (tul) (guo) (gup) (gus) (guz) (tkl) (tkz) (rda) (rdt) (rdf) (rdp) (rdz) (rdn) (tkt) (rto) (ftp) (nwfv) (bffv) (trfv) (ktr) (gty0) (gty1) (gty2) (gty3) (kim) (im0fv) (im1fv) (fimm) ((u_1.2.1 0)) ((u_1.2.1 1)) ((u_1.2.1 3)) (fcipa) (fciw) (ftup) (ftuq) (ftuf) (ftub) (fguf) (ftkk) (ftkp) (ftkv) (frdc) (vb) (hxtl) (rftp) (rnwfv) (rbffv) (rtrfv) (hhis) (hktr0) (hktr1) (hktr2) (hktr3) (hty0s) (hty0z) (hty1s) (hty1z) (hty2s) (hty2z) (hty3s) (hty3z) (hkim0) (hkim1) (rim0fv) (rim1fv) (w1_0) (w1_1) (htuo) (htut) (htul) (rftuq) (rftuf) (hguo) (hguz) (rfguf) (htkl) (htkz) (hrda) (hrdz) (hb_mono okvb hmono) (hmono _ HHhh) (hmono _ HHhob) (hmono _ HHhot) (hmono _ HHhoi0) (hmono _ HHhoi1) (rfl) (rfl) (rfl) (rfl) rfl rfl) (q_back h_1 hp rfl)
set_option maxHeartbeats 8000000 in
set_option maxRecDepth 100000 in
theorem mc_count (l : Launch) {p : Program} {e : Env} {s : State} {m : MethodId} {below : List Frame} {meth : Method} {c : Code} {b : Nat} {Q : State → Prop} {D : va_G} {cy : Nat → ClassId} {H : Heap} {locs : List Loc} {ls : Array Slot} (X : qX p s m #[Value.ref b] c cL_law 4 RL) (hK : qK D cy s) (hT : qT cy (fun q => s.heap.size ≤ q) s) (hls : ls.size = 4) {m0 cells slots : Nat} {P wm : va_W} {a_1 : Int32} {gt : Int} {gb : Nat → Int} {gf : Int} {gp : Int} (hc0 : cells ≤ 26000) (hs0 : slots ≤ 5720000) (hM : MOK cy m0 wm gt gb gf gp) (h : qW D (fun q => s.heap.size ≤ q) s.heap (wm ++ P) H locs) (kk : ∀ (r : Int32) (H : Heap) (locs : List Loc) (w2 : va_W), MOK cy m0 w2 gt gb gf gp → qW D (fun q => s.heap.size ≤ q) s.heap (w2 ++ P) H locs → W p l e room_1 s m #[Value.ref b] below meth c H locs cells slots Q (F0 m 1455 ls [.int r])) : W p l e room_1 s m #[Value.ref b] below meth c H locs cells slots Q (F0 m 1452 ls [.int a_1, .ref m0]) := by
  have hA : ∀ q : Nat, s.heap.size ≤ q → (fun q => s.heap.size ≤ q) q := fun _ h => h
  refine hM _ ?_
  clear hM
  intros al hs mtp fr rec wds swd opd was par wth bwt met mtw_ mtf trn ism rso rmy nms mth mtd mat mbh msz mki mnu mwr mwa mfk mfp mrd mtw mx mbt mbw mtu nde fnl fnv fnp fnc fal fhs fmtp ffr frec fwds fswd fopd fwas fpar fwth fbwt fmet fmtw fmtf ftrn fism frso frmy gnms hmtd hmat hmbh hmsz hmnu hnde htal_84 rfal hfnl htfr_0 htfr_1 hfnp htfr_2 hfnc htfr_405 rfswd rfopd rfwas rfmet rfrmy eg0 eg1 eg2 eg3 hw_
  subst eg0
  subst eg1
  subst eg2
  subst eg3
  subst hw_
  refine q_callViF (rest := []) X hK hT hA h (fun sz => gX12_count_ed51c5e l D cy m0 al rec wds opd a_1 mth (.ref hs) (.ref mtp) (.ref fr) mtd mat mbh msz mki mnu mwr mwa mfk mfp mrd (.ref swd) (.ref was) mtw mx (.ref par) (.ref wth) (.ref bwt) mbt mbw (.ref met) (.ref mtw_) (.ref mtf) (.ref trn) (.ref ism) mtu (.ref rso) (.ref rmy) (.ref nms) fal nde frec fwds fopd (i_rng _) (i_rng _) hmtd hmat hmbh hmsz (i_rng _) hmnu (i_rng _) (i_rng _) (i_rng _) (i_rng _) (i_rng _) (i_rng _) (i_rng _) (i_rng _) (i_rng _) (i_rng _) hnde htal_84 rfal (rg_wide rfopd (by decide) (by decide)) sz) wm_8_51 wm_8_54 wm_1_12 hd_X12_count wm_8_52 wm_8_53 (ci := 12) (q0 := 0) rfl rfl ⟨Nat.le_of_ble_eq_true rfl, Nat.le_of_ble_eq_true rfl⟩ hls rfl (Nat.le_of_ble_eq_true rfl) dL_law_1452 ⟨show cells + 0 ≤ 600000 from Nat.le_trans (Nat.add_le_add_right hc0 0) (by decide), show slots + 0 ≤ 7302250 from Nat.le_trans (Nat.add_le_add_right hs0 0) (by decide)⟩ [0, 1, 5, 6, 8] rfl rfl (fun _ => rfl) (fun r_1 u_1 H locs w_1 h_1 => ?_)
  clear h
  obtain ⟨wr_1, w1_0, w1_1, _⟩ := w_1
  exact kk r_1 _ _ _ (fun _ k_ => k_ (al) (hs) (mtp) (fr) (rec) (wds) (swd) (opd) (was) (par) (wth) (bwt) (met) (mtw_) (mtf) (trn) (ism) (rso) (rmy) (nms) ((u_1.2.1 0 0)) (mtd) (mat) (mbh) (msz) (mki) (mnu) (mwr) (mwa) (mfk) (mfp) (mrd) (mtw) (mx) (mbt) (mbw) (mtu) (nde) (fnl) (fnv) (fnp) (fnc) (fal) (fhs) (fmtp) (ffr) ((u_1.2.1 1)) ((u_1.2.1 2)) (fswd) ((u_1.2.1 3)) (fwas) (fpar) (fwth) (fbwt) (fmet) (fmtw) (fmtf) (ftrn) (fism) (frso) (frmy) (gnms) (hmtd) (hmat) (hmbh) (hmsz) (hmnu) (hnde) (htal_84) (rfal) (hfnl) (htfr_0) (htfr_1) (hfnp) (htfr_2) (hfnc) (htfr_405) (rfswd) (w1_1) (rfwas) (rfmet) (rfrmy) (rfl) (rfl) (rfl) (rfl) rfl) h_1
set_option maxHeartbeats 8000000 in
set_option maxRecDepth 100000 in
theorem lc_count (l : Launch) {p : Program} {e : Env} {s : State} {m : MethodId} {below : List Frame} {meth : Method} {c : Code} {b : Nat} {xs : Nat → Int32} {Q : State → Prop} {D : va_G} {cy : Nat → ClassId} {H : Heap} {locs : List Loc} {ls : Array Slot} {x0 m0 L k cells slots : Nat} {i : Int32} {tl : Int} (X : qX p s m #[Value.ref b] c cL_law 4 RL) (hK : qK D cy s) (hT : qT cy (fun q => s.heap.size ≤ q) s) (hX : va_X b L xs s s.heap) (hbl : b < s.heap.size) (hi : 0 ≤ i.toInt ∧ i.toInt + 6 ≤ L ∧ L ≤ 3072) (hk : k < 512) (hcell : cells + tl.toNat ≤ 200 + 50 * k) (hslot : slots + 451 * tl.toNat ≤ 30000 + 11100 * k) (hl : lv_has ls 4 [(3, .int i), (2, .ref m0), (1, .ref x0), (0, .ref b)]) (hI : LInv cy D (fun q => s.heap.size ≤ q) s.heap x0 m0 H locs tl) (kk : ∀ (H : Heap) (locs : List Loc) (ls : Array Slot) (cells slots : Nat) (tl : Int), lv_has ls 4 [(3, .int i), (2, .ref m0), (1, .ref x0), (0, .ref b)] → LInv cy D (fun q => s.heap.size ≤ q) s.heap x0 m0 H locs tl → cells + tl.toNat ≤ 200 + 50 * (k + 1) → slots + 451 * tl.toNat ≤ 30000 + 11100 * (k + 1) → W p l e room_1 s m #[Value.ref b] below meth c H locs cells slots Q (F0 m 1459 ls [])) : W p l e room_1 s m #[Value.ref b] below meth c H locs cells slots Q (F0 m 1436 ls []) := by
  obtain ⟨hx, hb, hml, hown, ht⟩ := id X
  have hA : ∀ q : Nat, s.heap.size ≤ q → (fun q => s.heap.size ≤ q) q := fun _ h => h
  have hbA : ¬ (fun q : Nat => s.heap.size ≤ q) b := Nat.not_le.mpr hbl
  have hc0 : cells ≤ 26000 := by omega
  have hs0 : slots ≤ 5720000 := by omega
  obtain ⟨gt, gb, gf, gp, wm, wx, pl, hMo, hXo, h⟩ := hI
  refine lv_aload_n hx hb dL_law_1436 rfl (lv_at hl 2 rfl) ?_
  refine lv_aload_n hx hb dL_law_1437 rfl (lv_at hl 3 rfl) ?_
  refine lv_iload_n hx hb dL_law_1438 rfl (lv_at hl 0 rfl) ?_
  refine lv_iconst (v := 1) hx hb dL_law_1439 (by decide) ?_
  refine lv_iadd hx hb dL_law_1440 ?_
  obtain ⟨z_1, ez_1, hz_1⟩ := li_add hi 1 (n := 1) (by decide) (by decide) (by decide)
  refine q_c z_1 ez_1 ?_
  clear ez_1
  refine va_sld hx hb hX hbl hbA h.2.2 (li_in hi hz_1 (by decide) (by decide)) dL_law_1441 ?_
  obtain ⟨x_1, ex_1, hx_1⟩ := e_any (xs (z_1).toNatClampNeg)
  refine q_c x_1 ex_1 ?_
  replace h := q_rotX h
  refine xc_count l X hK hT hl.1 hc0 hs0 hXo h (fun r_2 H locs wx hXo h => ?_)
  refine lv_pop hx hb dL_law_1445 rfl ?_
  refine lv_aload_n hx hb dL_law_1446 rfl (lv_at hl 1 rfl) ?_
  refine lv_aload_n hx hb dL_law_1447 rfl (lv_at hl 3 rfl) ?_
  refine lv_iload_n hx hb dL_law_1448 rfl (lv_at hl 0 rfl) ?_
  refine lv_iconst (v := 1) hx hb dL_law_1449 (by decide) ?_
  refine lv_iadd hx hb dL_law_1450 ?_
  obtain ⟨z_3, ez_3, hz_3⟩ := li_add hi 1 (n := 1) (by decide) (by decide) (by decide)
  refine q_c z_3 ez_3 ?_
  clear ez_3
  refine va_sld hx hb hX hbl hbA h.2.2 (li_in hi hz_3 (by decide) (by decide)) dL_law_1451 ?_
  refine q_c x_1 ((congrArg xs (cl_eq (x := z_3) (y := z_1) (hz_3.trans hz_1.symm))).trans ex_1) ?_
  replace h := q_rotM h
  refine mc_count l X hK hT hl.1 hc0 hs0 hMo h (fun r_4 H locs wm hMo h => ?_)
  refine lv_pop hx hb dL_law_1455 rfl ?_
  refine lv_goto (tgt := 1459) hx hb dL_law_1456 (by decide) ?_
  exact kk _ _ _ cells slots tl (lv_sub hl [0, 1, 2, 3] rfl) ⟨_, _, _, _, _, _, _, hMo, hXo, h⟩ (li_c hcell) (li_s hslot)
