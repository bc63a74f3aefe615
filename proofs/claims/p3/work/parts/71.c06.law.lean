set_option maxHeartbeats 8000000 in
set_option maxRecDepth 100000 in
theorem xc_reserve (l : Launch) {p : Program} {e : Env} {s : State} {m : MethodId} {below : List Frame} {meth : Method} {c : Code} {b : Nat} {Q : State → Prop} {D : va_G} {cy : Nat → ClassId} {H : Heap} {locs : List Loc} {ls : Array Slot} (X : qX p s m #[Value.ref b] c cL_law 4 RL) (hK : qK D cy s) (hT : qT cy (fun q => s.heap.size ≤ q) s) (hls : ls.size = 4) {x0 cells slots : Nat} {P pl wx : va_W} {tl : Int} {a_1 : Int32} {gt : Int} {gb : Nat → Int} {gf : Int} {gp : Int} (hc0 : cells ≤ 26000) (hs0 : slots ≤ 5720000) (hX : XOK cy x0 pl wx tl gt gb gf gp) (h : qW D (fun q => s.heap.size ≤ q) s.heap (wx ++ (pl ++ P)) H locs) (kk : ∀ (r : Int32) (H : Heap) (locs : List Loc) (w2 : va_W), XOK cy x0 pl w2 tl gt gb gf gp → qW D (fun q => s.heap.size ≤ q) s.heap (w2 ++ (pl ++ P)) H locs → W p l e room_1 s m #[Value.ref b] below meth c H locs cells slots Q (F0 m 1217 ls [.int r])) : W p l e room_1 s m #[Value.ref b] below meth c H locs cells slots Q (F0 m 1214 ls [.int a_1, .ref x0]) := by
  have hA : ∀ q : Nat, s.heap.size ≤ q → (fun q => s.heap.size ≤ q) q := fun _ h => h
  refine hX _ ?_
  clear hX
  intros tp nw nwv bf bfv tr trv hsy trs ty0 ty0r ty1 ty1r ty2 ty2r ty3 ty3r ims im0 im0v im1 im1v imm sc scg sch ci cir cipa ciw tu tup tuq tuf tub gu guf tk tkk tkp tkv rd rdc hpa hh hob hot hoi0 hoi1 xtl xfk xfp xch nwd nwa bfd bfa trd tra his ty0s ty0z ty1s ty1z ty2s ty2z ty3s ty3z im0d im0a im1d im1a cip tuo tut tus tul guo gup gus guz tkl tkz rda rdt rdf rdp rdz rdn tkt rto ftp nwfv bffv trfv ktr gty0 gty1 gty2 gty3 kim im0fv im1fv fimm fscg fsch fcir fcipa fciw ftup ftuq ftuf ftub fguf ftkk ftkp ftkv frdc vb hxtl rftp rnwfv rbffv rtrfv hhis hktr0 hktr1 hktr2 hktr3 hty0s hty0z hty1s hty1z hty2s hty2z hty3s hty3z hkim0 hkim1 rim0fv rim1fv hcip rfcir htuo htut htul rftuq rftuf hguo hguz rfguf htkl htkz hrda hrdz okvb HHhh HHhob HHhot HHhoi0 HHhoi1 eg0 eg1 eg2 eg3 htl hw_
  subst eg0
  subst eg1
  subst eg2
  subst eg3
  subst htl
  subst hw_
  have HX := HHhh
  obtain ⟨hv, ehv⟩ : ∃ hv : Nat → Prop, hv = HouseIn cy pl := ⟨_, rfl⟩
  rw [← ehv] at okvb HHhh HHhob HHhot HHhoi0 HHhoi1
  obtain ⟨hnl, hnp, hnt, hns, w4, w5, w6, hha, hhb, hhc, hhd, hhe, fha, fhb, fhc, fhd, fhe, L4, L5, L6, b1, b2, b3, l4, l5, l6, hm, hn⟩ := HX
  obtain ⟨r, hp⟩ := house_pick hm hn L4 ((List.sublist_append_left L4 L5).trans (List.sublist_append_left _ _))
  rcases l4 with ⟨rfl, rfl⟩ | ⟨la4, las4, n4, fs4, rfl, hn4, rfl⟩
  · skip
    replace h := q_open h hp
    refine q_callViF (rest := []) X hK hT hA h (fun sz => gX11_reserve_8aa8b50 l D cy x0 nw hh hhb hhc hhd nwv sc ci cir cipa a_1 (.ref tp) xtl xfk xfp (.ref rd) (.ref bf) (.ref tr) (.ref hsy) (.ref trs) (.ref ims) (.ref imm) (.ref tu) (.ref gu) xch nwd nwa hnl hnp hnt hns w5 w6 (.ref hha) (.ref hhe) fhb fhc fhd nwfv (.ref scg) (.ref sch) cip (.ref ciw) fcir fcipa (i_rng _) hxtl (i_rng _) (i_rng _) (i_rng _) (i_rng _) (i_rng _) b1 b2 (i_rng _) (i_rng _) hcip (rg_wide rnwfv (by decide) (by decide)) (rg_wide rfcir (by decide) (by decide)) sz) wm_5_116 wm_5_119 wm_1_1 hd_X11_reserve wm_5_117 wm_5_118 (ci := 11) (q0 := 0) rfl rfl ⟨Nat.le_of_ble_eq_true rfl, Nat.le_of_ble_eq_true rfl⟩ hls rfl (Nat.le_of_ble_eq_true rfl) dL_law_1214 ⟨show cells + 0 ≤ 600000 from Nat.le_trans (Nat.add_le_add_right hc0 0) (by decide), show slots + 0 ≤ 7302250 from Nat.le_trans (Nat.add_le_add_right hs0 0) (by decide)⟩ [0, 2, 65, 67, 68, 69, 3, 24, 27, 28, 29] rfl rfl (fun _ => rfl) (fun r_1 u_1 H locs w_1 h_1 => ?_)
    clear h
    obtain ⟨wr_1, w1_0, w1_1, _⟩ := w_1
    replace h_1 := q_pX (ix := [some 0, none, some 1, some 6, none, none, none, none, none, none, none, none, none, none, none, none, none, none, none, none, none, none, none, none, some 7, none, none, some 8, some 9, some 10, none, none, none, none, none, none, none, none, none, none, none, none, none, none, none, none, none, none, none, none, none, none, none, none, none, none, none, none, none, none, none, none, none, none, none, some 2, none, some 3, some 4, some 5, none]) h_1 rfl rfl (by decide +kernel) rfl (by decide +kernel)
    have hmono : ∀ a, hv a → HouseIn cy pl a := fun a ha => by rw [ehv] at ha; exact ha
    exact kk r_1 _ _ _ (fun _ k_ => k_ (tp) (nw) (nwv) (bf) (bfv) (tr) (trv) (hsy) (trs) (ty0) (ty0r) (ty1) (ty1r) (ty2) (ty2r) (ty3) (ty3r) (ims) (im0) (im0v) (im1) (im1v) (imm) (sc) (scg) (sch) (ci) (cir) (cipa) (ciw) (tu) (tup) (tuq) (tuf) (tub) (gu) (guf) (tk) (tkk) (tkp) (tkv) (rd) (rdc) (hpa) (hh) (hob) (hot) (hoi0) (hoi1) (xtl) (xfk) (xfp) (xch) (nwd) (nwa) (bfd) (bfa) (trd) (tra) (his) (ty0s) (ty0z) (ty1s) (ty1z) (ty2s) (ty2z) (ty3s) (ty3z) (im0d) (im0a) (im1d) (im1a) ((u_1.2.1 1 0)) (tuo) (tut) (tus) (tul) (guo) (gup) (gus) (guz) (tkl) (tkz) (rda) (rdt) (rdf) (rdp) (rdz) (rdn) (tkt) (rto) (ftp) (nwfv) (bffv) (trfv) (ktr) (gty0) (gty1) (gty2) (gty3) (kim) (im0fv) (im1fv) (fimm) (fscg) (fsch) ((u_1.2.1 0)) ((u_1.2.1 2)) (fciw) (ftup) (ftuq) (ftuf) (ftub) (fguf) (ftkk) (ftkp) (ftkv) (frdc) (vb) (hxtl) (rftp) (rnwfv) (rbffv) (rtrfv) (hhis) (hktr0) (hktr1) (hktr2) (hktr3) (hty0s) (hty0z) (hty1s) (hty1z) (hty2s) (hty2z) (hty3s) (hty3z) (hkim0) (hkim1) (rim0fv) (rim1fv) (w1_1) (w1_0) (htuo) (htut) (htul) (rftuq) (rftuf) (hguo) (hguz) (rfguf) (htkl) (htkz) (hrda) (hrdz) (hb_mono okvb hmono) (hmono _ HHhh) (hmono _ HHhob) (hmono _ HHhot) (hmono _ HHhoi0) (hmono _ HHhoi1) (rfl) (rfl) (rfl) (rfl) rfl rfl) (q_back h_1 hp rfl)
  · skip
    replace h := q_open h hp
    refine q_callViF (rest := []) X hK hT hA h (fun sz => gX11_reserve_7c6ff1a l D cy x0 nw hh la4 las4 hhb hhc hhd nwv sc scg sch ci cir cipa a_1 (.ref tp) xtl xfk xfp (.ref rd) (.ref bf) (.ref tr) (.ref hsy) (.ref trs) (.ref ims) (.ref imm) (.ref tu) (.ref gu) xch nwd nwa hnl hnp hnt hns w5 w6 (.ref hha) (.ref hhe) n4 fs4 fhb fhc fhd nwfv fscg fsch cip (.ref ciw) fcir fcipa (i_rng _) hxtl (i_rng _) (i_rng _) (i_rng _) (i_rng _) (i_rng _) b1 b2 (i_rng _) (i_rng _) (by omega) hcip (rg_wide rnwfv (by decide) (by decide)) (rg_wide rfcir (by decide) (by decide)) sz) wm_5_116 wm_5_119 wm_1_1 hd_X11_reserve wm_5_117 wm_5_118 (ci := 11) (q0 := 0) rfl rfl ⟨Nat.le_of_ble_eq_true rfl, Nat.le_of_ble_eq_true rfl⟩ hls rfl (Nat.le_of_ble_eq_true rfl) dL_law_1214 ⟨show cells + 0 ≤ 600000 from Nat.le_trans (Nat.add_le_add_right hc0 0) (by decide), show slots + 0 ≤ 7302250 from Nat.le_trans (Nat.add_le_add_right hs0 0) (by decide)⟩ [0, 2, 65, 71, 72, 67, 68, 69, 3, 24, 25, 26, 27, 28, 29] rfl rfl (fun _ => rfl) (fun r_1 u_1 H locs w_1 h_1 => ?_)
    clear h
    obtain ⟨wr_1, w1_0, w1_1, _⟩ := w_1
    replace h_1 := q_pX (ix := [some 0, none, some 1, some 8, none, none, none, none, none, none, none, none, none, none, none, none, none, none, none, none, none, none, none, none, some 9, some 10, some 11, some 12, some 13, some 14, none, none, none, none, none, none, none, none, none, none, none, none, none, none, none, none, none, none, none, none, none, none, none, none, none, none, none, none, none, none, none, none, none, none, none, some 2, none, some 5, some 6, some 7, none, some 3, some 4]) h_1 rfl rfl (by decide +kernel) rfl (by decide +kernel)
    have hmono : ∀ a, hv a → HouseIn cy pl a := fun a ha => by rw [ehv] at ha; exact ha
    exact kk r_1 _ _ _ (fun _ k_ => k_ (tp) (nw) (nwv) (bf) (bfv) (tr) (trv) (hsy) (trs) (ty0) (ty0r) (ty1) (ty1r) (ty2) (ty2r) (ty3) (ty3r) (ims) (im0) (im0v) (im1) (im1v) (imm) (sc) (scg) (sch) (ci) (cir) (cipa) (ciw) (tu) (tup) (tuq) (tuf) (tub) (gu) (guf) (tk) (tkk) (tkp) (tkv) (rd) (rdc) (hpa) (hh) (hob) (hot) (hoi0) (hoi1) (xtl) (xfk) (xfp) (xch) (nwd) (nwa) (bfd) (bfa) (trd) (tra) (his) (ty0s) (ty0z) (ty1s) (ty1z) (ty2s) (ty2z) (ty3s) (ty3z) (im0d) (im0a) (im1d) (im1a) ((u_1.2.1 3 0)) (tuo) (tut) (tus) (tul) (guo) (gup) (gus) (guz) (tkl) (tkz) (rda) (rdt) (rdf) (rdp) (rdz) (rdn) (tkt) (rto) (ftp) (nwfv) (bffv) (trfv) (ktr) (gty0) (gty1) (gty2) (gty3) (kim) (im0fv) (im1fv) (fimm) ((u_1.2.1 0)) ((u_1.2.1 1)) ((u_1.2.1 2)) ((u_1.2.1 4)) (fciw) (ftup) (ftuq) (ftuf) (ftub) (fguf) (ftkk) (ftkp) (ftkv) (frdc) (vb) (hxtl) (rftp) (rnwfv) (rbffv) (rtrfv) (hhis) (hktr0) (hktr1) (hktr2) (hktr3) (hty0s) (hty0z) (hty1s) (hty1z) (hty2s) (hty2z) (hty3s) (hty3z) (hkim0) (hkim1) (rim0fv) (rim1fv) (w1_1) (w1_0) (htuo) (htut) (htul) (rftuq) (rftuf) (hguo) (hguz) (rfguf) (htkl) (htkz) (hrda) (hrdz) (hb_mono okvb hmono) (hmono _ HHhh) (hmono _ HHhob) (hmono _ HHhot) (hmono _ HHhoi0) (hmono _ HHhoi1) (rfl) (rfl) (rfl) (rfl) rfl rfl) (q_back h_1 hp rfl)
set_option maxHeartbeats 8000000 in
set_option maxRecDepth 100000 in
theorem mc_reserve (l : Launch) {p : Program} {e : Env} {s : State} {m : MethodId} {below : List Frame} {meth : Method} {c : Code} {b : Nat} {Q : State → Prop} {D : va_G} {cy : Nat → ClassId} {H : Heap} {locs : List Loc} {ls : Array Slot} (X : qX p s m #[Value.ref b] c cL_law 4 RL) (hK : qK D cy s) (hT : qT cy (fun q => s.heap.size ≤ q) s) (hls : ls.size = 4) {m0 cells slots : Nat} {P wm : va_W} {a_1 : Int32} {gt : Int} {gb : Nat → Int} {gf : Int} {gp : Int} (hc0 : cells ≤ 26000) (hs0 : slots ≤ 5720000) (hM : MOK cy m0 wm gt gb gf gp) (h : qW D (fun q => s.heap.size ≤ q) s.heap (wm ++ P) H locs) (kk : ∀ (r : Int32) (H : Heap) (locs : List Loc) (w2 : va_W), MOK cy m0 w2 gt gb gf gp → qW D (fun q => s.heap.size ≤ q) s.heap (w2 ++ P) H locs → W p l e room_1 s m #[Value.ref b] below meth c H locs cells slots Q (F0 m 1227 ls [.int r])) : W p l e room_1 s m #[Value.ref b] below meth c H locs cells slots Q (F0 m 1224 ls [.int a_1, .ref m0]) := by
  have hA : ∀ q : Nat, s.heap.size ≤ q → (fun q => s.heap.size ≤ q) q := fun _ h => h
  refine hM _ ?_
  clear hM
  intros al hs mtp fr rec wds swd opd was par wth bwt met mtw_ mtf trn ism rso rmy nms mth mtd mat mbh msz mki mnu mwr mwa mfk mfp mrd mtw mx mbt mbw mtu nde fnl fnv fnp fnc fal fhs fmtp ffr frec fwds fswd fopd fwas fpar fwth fbwt fmet fmtw fmtf ftrn fism frso frmy gnms hmtd hmat hmbh hmsz hmnu hnde htal_84 rfal hfnl htfr_0 htfr_1 hfnp htfr_2 hfnc htfr_405 rfswd rfopd rfwas rfmet rfrmy eg0 eg1 eg2 eg3 hw_
  subst eg0
  subst eg1
  subst eg2
  subst eg3
  subst hw_
  refine q_callViF (rest := []) X hK hT hA h (fun sz => gX12_reserve_90a1450 l D cy m0 al rec wds opd par a_1 mth (.ref hs) (.ref mtp) (.ref fr) mtd mat mbh msz mki mnu mwr mwa mfk mfp mrd (.ref swd) (.ref was) mtw mx (.ref wth) (.ref bwt) mbt mbw (.ref met) (.ref mtw_) (.ref mtf) (.ref trn) (.ref ism) mtu (.ref rso) (.ref rmy) (.ref nms) fal nde frec fwds fopd fpar (i_rng _) (i_rng _) hmtd hmat hmbh hmsz (i_rng _) hmnu (i_rng _) (i_rng _) (i_rng _) (i_rng _) (i_rng _) (i_rng _) (i_rng _) (i_rng _) (i_rng _) (i_rng _) hnde htal_84 rfal (rg_wide rfopd (by decide) (by decide)) sz) wm_8_23 wm_8_26 wm_1_12 hd_X12_reserve wm_8_24 wm_8_25 (ci := 12) (q0 := 0) rfl rfl ⟨Nat.le_of_ble_eq_true rfl, Nat.le_of_ble_eq_true rfl⟩ hls rfl (Nat.le_of_ble_eq_true rfl) dL_law_1224 ⟨show cells + 0 ≤ 600000 from Nat.le_trans (Nat.add_le_add_right hc0 0) (by decide), show slots + 0 ≤ 7302250 from Nat.le_trans (Nat.add_le_add_right hs0 0) (by decide)⟩ [0, 1, 5, 6, 8, 10] rfl rfl (fun _ => rfl) (fun r_1 u_1 H locs w_1 h_1 => ?_)
  clear h
  obtain ⟨wr_1, w1_0, w1_1, _⟩ := w_1
  replace h_1 := q_pX (ix := [some 0, some 1, none, none, none, some 2, some 3, none, some 4, none, some 5, none, none, none, none, none, none, none, none, none, none]) h_1 rfl rfl (by decide +kernel) rfl (by decide +kernel)
  exact kk r_1 _ _ _ (fun _ k_ => k_ (al) (hs) (mtp) (fr) (rec) (wds) (swd) (opd) (was) (par) (wth) (bwt) (met) (mtw_) (mtf) (trn) (ism) (rso) (rmy) (nms) ((u_1.2.1 3 0)) (mtd) (mat) (mbh) (msz) (mki) (mnu) (mwr) (mwa) (mfk) (mfp) (mrd) (mtw) (mx) (mbt) (mbw) (mtu) (nde) (fnl) (fnv) (fnp) (fnc) (fal) (fhs) (fmtp) (ffr) ((u_1.2.1 0)) ((u_1.2.1 1)) (fswd) ((u_1.2.1 2)) (fwas) ((u_1.2.1 4)) (fwth) (fbwt) (fmet) (fmtw) (fmtf) (ftrn) (fism) (frso) (frmy) (gnms) (hmtd) (hmat) (hmbh) (hmsz) (hmnu) (hnde) (htal_84) (rfal) (hfnl) (htfr_0) (htfr_1) (hfnp) (htfr_2) (hfnc) (htfr_405) (rfswd) (w1_0) (rfwas) (rfmet) (rfrmy) (rfl) (rfl) (rfl) (rfl) rfl) h_1
set_option maxHeartbeats 8000000 in
set_option maxRecDepth 100000 in
theorem lc_reserve (l : Launch) {p : Program} {e : Env} {s : State} {m : MethodId} {below : List Frame} {meth : Method} {c : Code} {b : Nat} {xs : Nat → Int32} {Q : State → Prop} {D : va_G} {cy : Nat → ClassId} {H : Heap} {locs : List Loc} {ls : Array Slot} {x0 m0 L k cells slots : Nat} {i : Int32} {tl : Int} (X : qX p s m #[Value.ref b] c cL_law 4 RL) (hK : qK D cy s) (hT : qT cy (fun q => s.heap.size ≤ q) s) (hX : va_X b L xs s s.heap) (hbl : b < s.heap.size) (hi : 0 ≤ i.toInt ∧ i.toInt + 6 ≤ L ∧ L ≤ 3072) (hk : k < 512) (hcell : cells + tl.toNat ≤ 200 + 50 * k) (hslot : slots + 451 * tl.toNat ≤ 30000 + 11100 * k) (hl : lv_has ls 4 [(3, .int i), (2, .ref m0), (1, .ref x0), (0, .ref b)]) (hI : LInv cy D (fun q => s.heap.size ≤ q) s.heap x0 m0 H locs tl) (kk : ∀ (H : Heap) (locs : List Loc) (ls : Array Slot) (cells slots : Nat) (tl : Int), lv_has ls 4 [(3, .int i), (2, .ref m0), (1, .ref x0), (0, .ref b)] → LInv cy D (fun q => s.heap.size ≤ q) s.heap x0 m0 H locs tl → cells + tl.toNat ≤ 200 + 50 * (k + 1) → slots + 451 * tl.toNat ≤ 30000 + 11100 * (k + 1) → W p l e room_1 s m #[Value.ref b] below meth c H locs cells slots Q (F0 m 1459 ls [])) : W p l e room_1 s m #[Value.ref b] below meth c H locs cells slots Q (F0 m 1208 ls []) := by
  obtain ⟨hx, hb, hml, hown, ht⟩ := id X
  have hA : ∀ q : Nat, s.heap.size ≤ q → (fun q => s.heap.size ≤ q) q := fun _ h => h
  have hbA : ¬ (fun q : Nat => s.heap.size ≤ q) b := Nat.not_le.mpr hbl
  have hc0 : cells ≤ 26000 := by omega
  have hs0 : slots ≤ 5720000 := by omega
  obtain ⟨gt, gb, gf, gp, wm, wx, pl, hMo, hXo, h⟩ := hI
  refine lv_aload_n hx hb dL_law_1208 rfl (lv_at hl 2 rfl) ?_
  refine lv_aload_n hx hb dL_law_1209 rfl (lv_at hl 3 rfl) ?_
  refine lv_iload_n hx hb dL_law_1210 rfl (lv_at hl 0 rfl) ?_
  refine lv_iconst (v := 1) hx hb dL_law_1211 (by decide) ?_
  refine lv_iadd hx hb dL_law_1212 ?_
  obtain ⟨z_1, ez_1, hz_1⟩ := li_add hi 1 (n := 1) (by decide) (by decide) (by decide)
  refine q_c z_1 ez_1 ?_
  clear ez_1
  refine va_sld hx hb hX hbl hbA h.2.2 (li_in hi hz_1 (by decide) (by decide)) dL_law_1213 ?_
  obtain ⟨x_1, ex_1, hx_1⟩ := e_any (xs (z_1).toNatClampNeg)
  refine q_c x_1 ex_1 ?_
  replace h := q_rotX h
  refine xc_reserve l X hK hT hl.1 hc0 hs0 hXo h (fun r_2 H locs wx hXo h => ?_)
  refine lv_pop hx hb dL_law_1217 rfl ?_
  refine lv_aload_n hx hb dL_law_1218 rfl (lv_at hl 1 rfl) ?_
  refine lv_aload_n hx hb dL_law_1219 rfl (lv_at hl 3 rfl) ?_
  refine lv_iload_n hx hb dL_law_1220 rfl (lv_at hl 0 rfl) ?_
  refine lv_iconst (v := 1) hx hb dL_law_1221 (by decide) ?_
  refine lv_iadd hx hb dL_law_1222 ?_
  obtain ⟨z_3, ez_3, hz_3⟩ := li_add hi 1 (n := 1) (by decide) (by decide) (by decide)
  refine q_c z_3 ez_3 ?_
  clear ez_3
  refine va_sld hx hb hX hbl hbA h.2.2 (li_in hi hz_3 (by decide) (by decide)) dL_law_1223 ?_
  refine q_c x_1 ((congrArg xs (cl_eq (x := z_3) (y := z_1) (hz_3.trans hz_1.symm))).trans ex_1) ?_
  replace h := q_rotM h
  refine mc_reserve l X hK hT hl.1 hc0 hs0 hMo h (fun r_4 H locs wm hMo h => ?_)
  refine lv_pop hx hb dL_law_1227 rfl ?_
  refine lv_goto (tgt := 1459) hx hb dL_law_1228 (by decide) ?_
  exact kk _ _ _ cells slots tl (lv_sub hl [0, 1, 2, 3] rfl) ⟨_, _, _, _, _, _, _, hMo, hXo, h⟩ (li_c hcell) (li_s hslot)
set_option maxHeartbeats 8000000 in
set_option maxRecDepth 100000 in
theorem xc_numbers (l : Launch) {p : Program} {e : Env} {s : State} {m : MethodId} {below : List Frame} {meth : Method} {c : Code} {b : Nat} {Q : State → Prop} {D : va_G} {cy : Nat → ClassId} {H : Heap} {locs : List Loc} {ls : Array Slot} (X : qX p s m #[Value.ref b] c cL_law 4 RL) (hK : qK D cy s) (hT : qT cy (fun q => s.heap.size ≤ q) s) (hls : ls.size = 4) {x0 cells slots : Nat} {P pl wx : va_W} {tl : Int} {a_1 : Int32} {a_2 : Int32} {a_3 : Int32} {gt : Int} {gb : Nat → Int} {gf : Int} {gp : Int} (hc0 : cells ≤ 26000) (hs0 : slots ≤ 5720000) (hX : XOK cy x0 pl wx tl gt gb gf gp) (h : qW D (fun q => s.heap.size ≤ q) s.heap (wx ++ (pl ++ P)) H locs) (kk : ∀ (r : Int32) (H : Heap) (locs : List Loc) (w2 : va_W), XOK cy x0 pl w2 tl gt gb gf gp → qW D (fun q => s.heap.size ≤ q) s.heap (w2 ++ (pl ++ P)) H locs → W p l e room_1 s m #[Value.ref b] below meth c H locs cells slots Q (F0 m 1250 ls [.int r])) : W p l e room_1 s m #[Value.ref b] below meth c H locs cells slots Q (F0 m 1247 ls [.int a_3, .int a_2, .int a_1, .ref x0]) := by
  have hA : ∀ q : Nat, s.heap.size ≤ q → (fun q => s.heap.size ≤ q) q := fun _ h => h
  refine hX _ ?_
  clear hX
  intros tp nw nwv bf bfv tr trv hsy trs ty0 ty0r ty1 ty1r ty2 ty2r ty3 ty3r ims im0 im0v im1 im1v imm sc scg sch ci cir cipa ciw tu tup tuq tuf tub gu guf tk tkk tkp tkv rd rdc hpa hh hob hot hoi0 hoi1 xtl xfk xfp xch nwd nwa bfd bfa trd tra his ty0s ty0z ty1s ty1z ty2s ty2z ty3s ty3z im0d im0a im1d im1a cip tuo tut tus tul guo gup gus guz tkl tkz rda rdt rdf rdp rdz rdn tkt rto ftp nwfv bffv trfv ktr gty0 gty1 gty2 gty3 kim im0fv im1fv fimm fscg fsch fcir fcipa fciw ftup ftuq ftuf ftub fguf ftkk ftkp ftkv frdc vb hxtl rftp rnwfv rbffv rtrfv hhis hktr0 hktr1 hktr2 hktr3 hty0s hty0z hty1s hty1z hty2s hty2z hty3s hty3z hkim0 hkim1 rim0fv rim1fv hcip rfcir htuo htut htul rftuq rftuf hguo hguz rfguf htkl htkz hrda hrdz okvb HHhh HHhob HHhot HHhoi0 HHhoi1 eg0 eg1 eg2 eg3 htl hw_
  subst eg0
  subst eg1
  subst eg2
  subst eg3
  subst htl
  subst hw_
  obtain ⟨hv, ehv⟩ : ∃ hv : Nat → Prop, hv = HouseIn cy pl := ⟨_, rfl⟩
  rw [← ehv] at okvb HHhh HHhob HHhot HHhoi0 HHhoi1
  refine q_callViF (rest := []) X hK hT hA h (fun sz => gX11_numbers_e733d5c l D cy x0 trs ty0 ty0r ty1 ty1r ty2 ty2r ty3 ty3r a_1 a_2 a_3 (.ref tp) xtl xfk xfp (.ref rd) (.ref nw) (.ref bf) (.ref tr) (.ref hsy) (.ref ims) (.ref imm) (.ref sc) (.ref ci) (.ref tu) (.ref gu) xch ktr ty0s ty0z gty0 ty1s ty1z gty1 ty2s ty2z gty2 ty3s ty3z gty3 (i_rng _) (i_rng _) (i_rng _) hxtl (i_rng _) (i_rng _) (i_rng _) hty0s hty0z hty1s hty1z hty2s hty2z hty3s hty3z hktr0 hktr1 hktr2 hktr3 sz) wm_5_120 wm_5_123 wm_1_1 hd_X11_numbers wm_5_121 wm_5_122 (ci := 11) (q0 := 0) rfl rfl ⟨Nat.le_of_ble_eq_true rfl, Nat.le_of_ble_eq_true rfl⟩ hls rfl (Nat.le_of_ble_eq_true rfl) dL_law_1247 ⟨show cells + 0 ≤ 600000 from Nat.le_trans (Nat.add_le_add_right hc0 0) (by decide), show slots + 0 ≤ 7302250 from Nat.le_trans (Nat.add_le_add_right hs0 0) (by decide)⟩ [0, 9, 10, 11, 12, 13, 14, 15, 16, 17] rfl rfl (fun _ => rfl) (fun r_1 u_1 H locs w_1 h_1 => ?_)
  clear h
  obtain ⟨wr_1, w1_0, w1_1, w1_2, w1_3, w1_4, w1_5, w1_6, w1_7, _⟩ := w_1
  replace h_1 := q_pX (ix := [some 0, none, none, none, none, none, none, none, none, some 1, some 2, some 3, some 4, some 5, some 6, some 7, some 8, some 9, none, none, none, none, none, none, none, none, none, none, none, none, none, none, none, none, none, none, none, none, none, none, none, none, none, none, none, none, none, none, none, none, none, none, none, none, none, none, none, none, none, none, none, none, none, none, none]) h_1 rfl rfl (by decide +kernel) rfl (by decide +kernel)
  have hmono : ∀ a, hv a → HouseIn cy pl a := fun a ha => by rw [ehv] at ha; exact ha
  exact kk r_1 _ _ _ (fun _ k_ => k_ (tp) (nw) (nwv) (bf) (bfv) (tr) (trv) (hsy) (trs) (ty0) (ty0r) (ty1) (ty1r) (ty2) (ty2r) (ty3) (ty3r) (ims) (im0) (im0v) (im1) (im1v) (imm) (sc) (scg) (sch) (ci) (cir) (cipa) (ciw) (tu) (tup) (tuq) (tuf) (tub) (gu) (guf) (tk) (tkk) (tkp) (tkv) (rd) (rdc) (hpa) (hh) (hob) (hot) (hoi0) (hoi1) (xtl) (xfk) (xfp) (xch) (nwd) (nwa) (bfd) (bfa) (trd) (tra) (his) ((u_1.2.1 0 0)) ((u_1.2.1 1 0)) ((u_1.2.1 2 0)) ((u_1.2.1 3 0)) ((u_1.2.1 4 0)) ((u_1.2.1 5 0)) ((u_1.2.1 6 0)) ((u_1.2.1 7 0)) (im0d) (im0a) (im1d) (im1a) (cip) (tuo) (tut) (tus) (tul) (guo) (gup) (gus) (guz) (tkl) (tkz) (rda) (rdt) (rdf) (rdp) (rdz) (rdn) (tkt) (rto) (ftp) (nwfv) (bffv) (trfv) (ktr) ((u_1.2.2 0)) ((u_1.2.2 1)) ((u_1.2.2 2)) ((u_1.2.2 3)) (kim) (im0fv) (im1fv) (fimm) (fscg) (fsch) (fcir) (fcipa) (fciw) (ftup) (ftuq) (ftuf) (ftub) (fguf) (ftkk) (ftkp) (ftkv) (frdc) (vb) (hxtl) (rftp) (rnwfv) (rbffv) (rtrfv) (hhis) (hktr0) (hktr1) (hktr2) (hktr3) (w1_0) (w1_1) (w1_2) (w1_3) (w1_4) (w1_5) (w1_6) (w1_7) (hkim0) (hkim1) (rim0fv) (rim1fv) (hcip) (rfcir) (htuo) (htut) (htul) (rftuq) (rftuf) (hguo) (hguz) (rfguf) (htkl) (htkz) (hrda) (hrdz) (hb_mono okvb hmono) (hmono _ HHhh) (hmono _ HHhob) (hmono _ HHhot) (hmono _ HHhoi0) (hmono _ HHhoi1) (rfl) (rfl) (rfl) (rfl) rfl rfl) (q_backW (t := []) h_1 rfl)
set_option maxHeartbeats 8000000 in
set_option maxRecDepth 100000 in
theorem mc_numbers (l : Launch) {p : Program} {e : Env} {s : State} {m : MethodId} {below : List Frame} {meth : Method} {c : Code} {b : Nat} {Q : State → Prop} {D : va_G} {cy : Nat → ClassId} {H : Heap} {locs : List Loc} {ls : Array Slot} (X : qX p s m #[Value.ref b] c cL_law 4 RL) (hK : qK D cy s) (hT : qT cy (fun q => s.heap.size ≤ q) s) (hls : ls.size = 4) {m0 cells slots : Nat} {P wm : va_W} {a_1 : Int32} {a_2 : Int32} {a_3 : Int32} {gt : Int} {gb : Nat → Int} {gf : Int} {gp : Int} (hc0 : cells ≤ 26000) (hs0 : slots ≤ 5720000) (hM : MOK cy m0 wm gt gb gf gp) (h : qW D (fun q => s.heap.size ≤ q) s.heap (wm ++ P) H locs) (kk : ∀ (r : Int32) (H : Heap) (locs : List Loc) (w2 : va_W), MOK cy m0 w2 gt gb gf gp → qW D (fun q => s.heap.size ≤ q) s.heap (w2 ++ P) H locs → W p l e room_1 s m #[Value.ref b] below meth c H locs cells slots Q (F0 m 1270 ls [.int r])) : W p l e room_1 s m #[Value.ref b] below meth c H locs cells slots Q (F0 m 1267 ls [.int a_3, .int a_2, .int a_1, .ref m0]) := by
  have hA : ∀ q : Nat, s.heap.size ≤ q → (fun q => s.heap.size ≤ q) q := fun _ h => h
  refine hM _ ?_
  clear hM
  intros al hs mtp fr rec wds swd opd was par wth bwt met mtw_ mtf trn ism rso rmy nms mth mtd mat mbh msz mki mnu mwr mwa mfk mfp mrd mtw mx mbt mbw mtu nde fnl fnv fnp fnc fal fhs fmtp ffr frec fwds fswd fopd fwas fpar fwth fbwt fmet fmtw fmtf ftrn fism frso frmy gnms hmtd hmat hmbh hmsz hmnu hnde htal_84 rfal hfnl htfr_0 htfr_1 hfnp htfr_2 hfnc htfr_405 rfswd rfopd rfwas rfmet rfrmy eg0 eg1 eg2 eg3 hw_
  subst eg0
  subst eg1
  subst eg2
  subst eg3
  subst hw_
  refine q_callViF (rest := []) X hK hT hA h (fun sz => gX12_numbers_2c4018e l D cy m0 rso rmy nms a_1 a_2 a_3 mth (.ref al) (.ref hs) (.ref mtp) (.ref fr) mtd mat mbh msz mki mnu mwr mwa mfk mfp mrd (.ref rec) (.ref wds) (.ref swd) (.ref opd) (.ref was) mtw mx (.ref par) (.ref wth) (.ref bwt) mbt mbw (.ref met) (.ref mtw_) (.ref mtf) (.ref trn) (.ref ism) mtu frso frmy gnms (i_rng _) (i_rng _) (i_rng _) (i_rng _) hmtd hmat hmbh hmsz (i_rng _) hmnu (i_rng _) (i_rng _) (i_rng _) (i_rng _) (i_rng _) (i_rng _) (i_rng _) (i_rng _) (i_rng _) (i_rng _) (rg_wide rfrmy (by decide) (by decide)) sz) wm_8_27 wm_8_30 wm_1_12 hd_X12_numbers wm_8_28 wm_8_29 (ci := 12) (q0 := 0) rfl rfl ⟨Nat.le_of_ble_eq_true rfl, Nat.le_of_ble_eq_true rfl⟩ hls rfl (Nat.le_of_ble_eq_true rfl) dL_law_1267 ⟨show cells + 0 ≤ 600000 from Nat.le_trans (Nat.add_le_add_right hc0 0) (by decide), show slots + 0 ≤ 7302250 from Nat.le_trans (Nat.add_le_add_right hs0 0) (by decide)⟩ [0, 18, 19, 20] rfl rfl (fun _ => rfl) (fun r_1 u_1 H locs w_1 h_1 => ?_)
  clear h
  obtain ⟨wr_1, w1_0, w1_1, _⟩ := w_1
  exact kk r_1 _ _ _ (fun _ k_ => k_ (al) (hs) (mtp) (fr) (rec) (wds) (swd) (opd) (was) (par) (wth) (bwt) (met) (mtw_) (mtf) (trn) (ism) (rso) (rmy) (nms) ((u_1.2.1 0 0)) (mtd) (mat) (mbh) (msz) (mki) (mnu) (mwr) (mwa) (mfk) (mfp) (mrd) (mtw) (mx) (mbt) (mbw) (mtu) (nde) (fnl) (fnv) (fnp) (fnc) (fal) (fhs) (fmtp) (ffr) (frec) (fwds) (fswd) (fopd) (fwas) (fpar) (fwth) (fbwt) (fmet) (fmtw) (fmtf) (ftrn) (fism) ((u_1.2.1 1)) ((u_1.2.1 2)) ((u_1.2.2 0)) (hmtd) (hmat) (hmbh) (hmsz) (hmnu) (hnde) (htal_84) (rfal) (hfnl) (htfr_0) (htfr_1) (hfnp) (htfr_2) (hfnc) (htfr_405) (rfswd) (rfopd) (rfwas) (rfmet) (w1_1) (rfl) (rfl) (rfl) (rfl) rfl) h_1
set_option maxHeartbeats 8000000 in
set_option maxRecDepth 100000 in
theorem lc_numbers (l : Launch) {p : Program} {e : Env} {s : State} {m : MethodId} {below : List Frame} {meth : Method} {c : Code} {b : Nat} {xs : Nat → Int32} {Q : State → Prop} {D : va_G} {cy : Nat → ClassId} {H : Heap} {locs : List Loc} {ls : Array Slot} {x0 m0 L k cells slots : Nat} {i : Int32} {tl : Int} (X : qX p s m #[Value.ref b] c cL_law 4 RL) (hK : qK D cy s) (hT : qT cy (fun q => s.heap.size ≤ q) s) (hX : va_X b L xs s s.heap) (hbl : b < s.heap.size) (hi : 0 ≤ i.toInt ∧ i.toInt + 6 ≤ L ∧ L ≤ 3072) (hk : k < 512) (hcell : cells + tl.toNat ≤ 200 + 50 * k) (hslot : slots + 451 * tl.toNat ≤ 30000 + 11100 * k) (hl : lv_has ls 4 [(3, .int i), (2, .ref m0), (1, .ref x0), (0, .ref b)]) (hI : LInv cy D (fun q => s.heap.size ≤ q) s.heap x0 m0 H locs tl) (kk : ∀ (H : Heap) (locs : List Loc) (ls : Array Slot) (cells slots : Nat) (tl : Int), lv_has ls 4 [(3, .int i), (2, .ref m0), (1, .ref x0), (0, .ref b)] → LInv cy D (fun q => s.heap.size ≤ q) s.heap x0 m0 H locs tl → cells + tl.toNat ≤ 200 + 50 * (k + 1) → slots + 451 * tl.toNat ≤ 30000 + 11100 * (k + 1) → W p l e room_1 s m #[Value.ref b] below meth c H locs cells slots Q (F0 m 1459 ls [])) : W p l e room_1 s m #[Value.ref b] below meth c H locs cells slots Q (F0 m 1231 ls []) := by
  obtain ⟨hx, hb, hml, hown, ht⟩ := id X
  have hA : ∀ q : Nat, s.heap.size ≤ q → (fun q => s.heap.size ≤ q) q := fun _ h => h
  have hbA : ¬ (fun q : Nat => s.heap.size ≤ q) b := Nat.not_le.mpr hbl
  have hc0 : cells ≤ 26000 := by omega
  have hs0 : slots ≤ 5720000 := by omega
  obtain ⟨gt, gb, gf, gp, wm, wx, pl, hMo, hXo, h⟩ := hI
  refine lv_aload_n hx hb dL_law_1231 rfl (lv_at hl 2 rfl) ?_
  refine lv_aload_n hx hb dL_law_1232 rfl (lv_at hl 3 rfl) ?_
  refine lv_iload_n hx hb dL_law_1233 rfl (lv_at hl 0 rfl) ?_
  refine lv_iconst (v := 1) hx hb dL_law_1234 (by decide) ?_
  refine lv_iadd hx hb dL_law_1235 ?_
  obtain ⟨z_1, ez_1, hz_1⟩ := li_add hi 1 (n := 1) (by decide) (by decide) (by decide)
  refine q_c z_1 ez_1 ?_
  clear ez_1
  refine va_sld hx hb hX hbl hbA h.2.2 (li_in hi hz_1 (by decide) (by decide)) dL_law_1236 ?_
  obtain ⟨x_1, ex_1, hx_1⟩ := e_any (xs (z_1).toNatClampNeg)
  refine q_c x_1 ex_1 ?_
  refine lv_aload_n hx hb dL_law_1237 rfl (lv_at hl 3 rfl) ?_
  refine lv_iload_n hx hb dL_law_1238 rfl (lv_at hl 0 rfl) ?_
  refine lv_iconst (v := 2) hx hb dL_law_1239 (by decide) ?_
  refine lv_iadd hx hb dL_law_1240 ?_
  obtain ⟨z_2, ez_2, hz_2⟩ := li_add hi 2 (n := 2) (by decide) (by decide) (by decide)
  refine q_c z_2 ez_2 ?_
  clear ez_2
  refine va_sld hx hb hX hbl hbA h.2.2 (li_in hi hz_2 (by decide) (by decide)) dL_law_1241 ?_
  obtain ⟨x_2, ex_2, hx_2⟩ := e_any (xs (z_2).toNatClampNeg)
  refine q_c x_2 ex_2 ?_
  refine lv_aload_n hx hb dL_law_1242 rfl (lv_at hl 3 rfl) ?_
  refine lv_iload_n hx hb dL_law_1243 rfl (lv_at hl 0 rfl) ?_
  refine lv_iconst (v := 3) hx hb dL_law_1244 (by decide) ?_
  refine lv_iadd hx hb dL_law_1245 ?_
  obtain ⟨z_3, ez_3, hz_3⟩ := li_add hi 3 (n := 3) (by decide) (by decide) (by decide)
  refine q_c z_3 ez_3 ?_
  clear ez_3
  refine va_sld hx hb hX hbl hbA h.2.2 (li_in hi hz_3 (by decide) (by decide)) dL_law_1246 ?_
  obtain ⟨x_3, ex_3, hx_3⟩ := e_any (xs (z_3).toNatClampNeg)
  refine q_c x_3 ex_3 ?_
  replace h := q_rotX h
  refine xc_numbers l X hK hT hl.1 hc0 hs0 hXo h (fun r_4 H locs wx hXo h => ?_)
  refine lv_pop hx hb dL_law_1250 rfl ?_
  refine lv_aload_n hx hb dL_law_1251 rfl (lv_at hl 1 rfl) ?_
  refine lv_aload_n hx hb dL_law_1252 rfl (lv_at hl 3 rfl) ?_
  refine lv_iload_n hx hb dL_law_1253 rfl (lv_at hl 0 rfl) ?_
  refine lv_iconst (v := 1) hx hb dL_law_1254 (by decide) ?_
  refine lv_iadd hx hb dL_law_1255 ?_
  obtain ⟨z_5, ez_5, hz_5⟩ := li_add hi 1 (n := 1) (by decide) (by decide) (by decide)
  refine q_c z_5 ez_5 ?_
  clear ez_5
  refine va_sld hx hb hX hbl hbA h.2.2 (li_in hi hz_5 (by decide) (by decide)) dL_law_1256 ?_
  refine q_c x_1 ((congrArg xs (cl_eq (x := z_5) (y := z_1) (hz_5.trans hz_1.symm))).trans ex_1) ?_
  refine lv_aload_n hx hb dL_law_1257 rfl (lv_at hl 3 rfl) ?_
  refine lv_iload_n hx hb dL_law_1258 rfl (lv_at hl 0 rfl) ?_
  refine lv_iconst (v := 2) hx hb dL_law_1259 (by decide) ?_
  refine lv_iadd hx hb dL_law_1260 ?_
  obtain ⟨z_6, ez_6, hz_6⟩ := li_add hi 2 (n := 2) (by decide) (by decide) (by decide)
  refine q_c z_6 ez_6 ?_
  clear ez_6
  refine va_sld hx hb hX hbl hbA h.2.2 (li_in hi hz_6 (by decide) (by decide)) dL_law_1261 ?_
  refine q_c x_2 ((congrArg xs (cl_eq (x := z_6) (y := z_2) (hz_6.trans hz_2.symm))).trans ex_2) ?_
  refine lv_aload_n hx hb dL_law_1262 rfl (lv_at hl 3 rfl) ?_
  refine lv_iload_n hx hb dL_law_1263 rfl (lv_at hl 0 rfl) ?_
  refine lv_iconst (v := 3) hx hb dL_law_1264 (by decide) ?_
  refine lv_iadd hx hb dL_law_1265 ?_
  obtain ⟨z_7, ez_7, hz_7⟩ := li_add hi 3 (n := 3) (by decide) (by decide) (by decide)
  refine q_c z_7 ez_7 ?_
  clear ez_7
  refine va_sld hx hb hX hbl hbA h.2.2 (li_in hi hz_7 (by decide) (by decide)) dL_law_1266 ?_
  refine q_c x_3 ((congrArg xs (cl_eq (x := z_7) (y := z_3) (hz_7.trans hz_3.symm))).trans ex_3) ?_
  replace h := q_rotM h
  refine mc_numbers l X hK hT hl.1 hc0 hs0 hMo h (fun r_8 H locs wm hMo h => ?_)
  refine lv_pop hx hb dL_law_1270 rfl ?_
  refine lv_goto (tgt := 1459) hx hb dL_law_1271 (by decide) ?_
  exact kk _ _ _ cells slots tl (lv_sub hl [0, 1, 2, 3] rfl) ⟨_, _, _, _, _, _, _, hMo, hXo, h⟩ (li_c hcell) (li_s hslot)
set_option maxHeartbeats 8000000 in
set_option maxRecDepth 100000 in
theorem xc_write (l : Launch) {p : Program} {e : Env} {s : State} {m : MethodId} {below : List Frame} {meth : Method} {c : Code} {b : Nat} {Q : State → Prop} {D : va_G} {cy : Nat → ClassId} {H : Heap} {locs : List Loc} {ls : Array Slot} (X : qX p s m #[Value.ref b] c cL_law 4 RL) (hK : qK D cy s) (hT : qT cy (fun q => s.heap.size ≤ q) s) (hls : ls.size = 4) {x0 cells slots : Nat} {P pl wx : va_W} {tl : Int} {a_1 : Int32} {a_2 : Int32} {a_3 : Int64} {gt : Int} {gb : Nat → Int} {gf : Int} {gp : Int} (hc0 : cells ≤ 26000) (hs0 : slots ≤ 5720000) (hX : XOK cy x0 pl wx tl gt gb gf gp) (h : qW D (fun q => s.heap.size ≤ q) s.heap (wx ++ (pl ++ P)) H locs) (kk : ∀ (r : Int64) (H : Heap) (locs : List Loc) (w2 : va_W), XOK cy x0 pl w2 tl gt gb gf gp → qW D (fun q => s.heap.size ≤ q) s.heap (w2 ++ (pl ++ P)) H locs → W p l e room_1 s m #[Value.ref b] below meth c H locs cells slots Q (F0 m 1308 ls [.long r])) : W p l e room_1 s m #[Value.ref b] below meth c H locs cells slots Q (F0 m 1305 ls [.long a_3, .int a_2, .int a_1, .ref x0]) := by
  have hA : ∀ q : Nat, s.heap.size ≤ q → (fun q => s.heap.size ≤ q) q := fun _ h => h
  refine hX _ ?_
  clear hX
  intros tp nw nwv bf bfv tr trv hsy trs ty0 ty0r ty1 ty1r ty2 ty2r ty3 ty3r ims im0 im0v im1 im1v imm sc scg sch ci cir cipa ciw tu tup tuq tuf tub gu guf tk tkk tkp tkv rd rdc hpa hh hob hot hoi0 hoi1 xtl xfk xfp xch nwd nwa bfd bfa trd tra his ty0s ty0z ty1s ty1z ty2s ty2z ty3s ty3z im0d im0a im1d im1a cip tuo tut tus tul guo gup gus guz tkl tkz rda rdt rdf rdp rdz rdn tkt rto ftp nwfv bffv trfv ktr gty0 gty1 gty2 gty3 kim im0fv im1fv fimm fscg fsch fcir fcipa fciw ftup ftuq ftuf ftub fguf ftkk ftkp ftkv frdc vb hxtl rftp rnwfv rbffv rtrfv hhis hktr0 hktr1 hktr2 hktr3 hty0s hty0z hty1s hty1z hty2s hty2z hty3s hty3z hkim0 hkim1 rim0fv rim1fv hcip rfcir htuo htut htul rftuq rftuf hguo hguz rfguf htkl htkz hrda hrdz okvb HHhh HHhob HHhot HHhoi0 HHhoi1 eg0 eg1 eg2 eg3 htl hw_
  subst eg0
  subst eg1
  subst eg2
  subst eg3
  subst htl
  subst hw_
  obtain ⟨hv, ehv⟩ : ∃ hv : Nat → Prop, hv = HouseIn cy pl := ⟨_, rfl⟩
  rw [← ehv] at okvb HHhh HHhob HHhot HHhoi0 HHhoi1
  refine q_callVlF (rest := []) X hK hT hA h (fun sz => gX11_write_133d7a5 l D cy x0 trs ty0 ty0r ty1 ty1r ty2 ty2r ty3 ty3r a_1 a_2 a_3 (.ref tp) xtl xfk xfp (.ref rd) (.ref nw) (.ref bf) (.ref tr) (.ref hsy) (.ref ims) (.ref imm) (.ref sc) (.ref ci) (.ref tu) (.ref gu) xch ktr ty0s ty0z gty0 ty1s ty1z gty1 ty2s ty2z gty2 ty3s ty3z gty3 (i_rng _) (i_rng _) (j_rng _) hxtl (i_rng _) (i_rng _) (i_rng _) hty0s hty0z hty1s hty1z hty2s hty2z hty3s hty3z hktr0 hktr1 hktr2 hktr3 sz) wm_5_131 wm_5_134 wm_1_1 hd_X11_write wm_5_132 wm_5_133 (ci := 11) (q0 := 0) rfl rfl ⟨Nat.le_of_ble_eq_true rfl, Nat.le_of_ble_eq_true rfl⟩ hls rfl (Nat.le_of_ble_eq_true rfl) dL_law_1305 ⟨show cells + 0 ≤ 600000 from Nat.le_trans (Nat.add_le_add_right hc0 0) (by decide), show slots + 0 ≤ 7302250 from Nat.le_trans (Nat.add_le_add_right hs0 0) (by decide)⟩ [0, 9, 10, 11, 12, 13, 14, 15, 16, 17] rfl rfl (fun _ => rfl) (fun r_1 u_1 H locs w_1 h_1 => ?_)
  clear h
  obtain ⟨wr_1, _⟩ := w_1
  replace h_1 := q_pX (ix := [some 0, none, none, none, none, none, none, none, none, some 1, some 2, some 3, some 4, some 5, some 6, some 7, some 8, some 9, none, none, none, none, none, none, none, none, none, none, none, none, none, none, none, none, none, none, none, none, none, none, none, none, none, none, none, none, none, none, none, none, none, none, none, none, none, none, none, none, none, none, none, none, none, none, none]) h_1 rfl rfl (by decide +kernel) rfl (by decide +kernel)
  have hmono : ∀ a, hv a → HouseIn cy pl a := fun a ha => by rw [ehv] at ha; exact ha
  exact kk r_1 _ _ _ (fun _ k_ => k_ (tp) (nw) (nwv) (bf) (bfv) (tr) (trv) (hsy) (trs) (ty0) (ty0r) (ty1) (ty1r) (ty2) (ty2r) (ty3) (ty3r) (ims) (im0) (im0v) (im1) (im1v) (imm) (sc) (scg) (sch) (ci) (cir) (cipa) (ciw) (tu) (tup) (tuq) (tuf) (tub) (gu) (guf) (tk) (tkk) (tkp) (tkv) (rd) (rdc) (hpa) (hh) (hob) (hot) (hoi0) (hoi1) (xtl) (xfk) (xfp) (xch) (nwd) (nwa) (bfd) (bfa) (trd) (tra) (his) (ty0s) (ty0z) (ty1s) (ty1z) (ty2s) (ty2z) (ty3s) (ty3z) (im0d) (im0a) (im1d) (im1a) (cip) (tuo) (tut) (tus) (tul) (guo) (gup) (gus) (guz) (tkl) (tkz) (rda) (rdt) (rdf) (rdp) (rdz) (rdn) (tkt) (rto) (ftp) (nwfv) (bffv) (trfv) (ktr) ((u_1.2.2 0)) ((u_1.2.2 1)) ((u_1.2.2 2)) ((u_1.2.2 3)) (kim) (im0fv) (im1fv) (fimm) (fscg) (fsch) (fcir) (fcipa) (fciw) (ftup) (ftuq) (ftuf) (ftub) (fguf) (ftkk) (ftkp) (ftkv) (frdc) (vb) (hxtl) (rftp) (rnwfv) (rbffv) (rtrfv) (hhis) (hktr0) (hktr1) (hktr2) (hktr3) (hty0s) (hty0z) (hty1s) (hty1z) (hty2s) (hty2z) (hty3s) (hty3z) (hkim0) (hkim1) (rim0fv) (rim1fv) (hcip) (rfcir) (htuo) (htut) (htul) (rftuq) (rftuf) (hguo) (hguz) (rfguf) (htkl) (htkz) (hrda) (hrdz) (hb_mono okvb hmono) (hmono _ HHhh) (hmono _ HHhob) (hmono _ HHhot) (hmono _ HHhoi0) (hmono _ HHhoi1) (rfl) (rfl) (rfl) (rfl) rfl rfl) (q_backW (t := []) h_1 rfl)
set_option maxHeartbeats 8000000 in
set_option maxRecDepth 100000 in
theorem mc_write (l : Launch) {p : Program} {e : Env} {s : State} {m : MethodId} {below : List Frame} {meth : Method} {c : Code} {b : Nat} {Q : State → Prop} {D : va_G} {cy : Nat → ClassId} {H : Heap} {locs : List Loc} {ls : Array Slot} (X : qX p s m #[Value.ref b] c cL_law 4 RL) (hK : qK D cy s) (hT : qT cy (fun q => s.heap.size ≤ q) s) (hls : ls.size = 4) {m0 cells slots : Nat} {P wm : va_W} {a_1 : Int32} {a_2 : Int32} {a_3 : Int64} {gt : Int} {gb : Nat → Int} {gf : Int} {gp : Int} (hc0 : cells ≤ 26000) (hs0 : slots ≤ 5720000) (hM : MOK cy m0 wm gt gb gf gp) (h : qW D (fun q => s.heap.size ≤ q) s.heap (wm ++ P) H locs) (kk : ∀ (r : Int64) (H : Heap) (locs : List Loc) (w2 : va_W), MOK cy m0 w2 gt gb gf gp → qW D (fun q => s.heap.size ≤ q) s.heap (w2 ++ P) H locs → W p l e room_1 s m #[Value.ref b] below meth c H locs cells slots Q (F0 m 1343 ls [.long r])) : W p l e room_1 s m #[Value.ref b] below meth c H locs cells slots Q (F0 m 1340 ls [.long a_3, .int a_2, .int a_1, .ref m0]) := by
  have hA : ∀ q : Nat, s.heap.size ≤ q → (fun q => s.heap.size ≤ q) q := fun _ h => h
  refine hM _ ?_
  clear hM
  intros al hs mtp fr rec wds swd opd was par wth bwt met mtw_ mtf trn ism rso rmy nms mth mtd mat mbh msz mki mnu mwr mwa mfk mfp mrd mtw mx mbt mbw mtu nde fnl fnv fnp fnc fal fhs fmtp ffr frec fwds fswd fopd fwas fpar fwth fbwt fmet fmtw fmtf ftrn fism frso frmy gnms hmtd hmat hmbh hmsz hmnu hnde htal_84 rfal hfnl htfr_0 htfr_1 hfnp htfr_2 hfnc htfr_405 rfswd rfopd rfwas rfmet rfrmy eg0 eg1 eg2 eg3 hw_
  subst eg0
  subst eg1
  subst eg2
  subst eg3
  subst hw_
  refine q_callVlF (rest := []) X hK hT hA h (fun sz => gX12_write_c099510 l D cy m0 rso rmy nms a_1 a_2 a_3 mth (.ref al) (.ref hs) (.ref mtp) (.ref fr) mtd mat mbh msz mki mnu mwr mwa mfk mfp mrd (.ref rec) (.ref wds) (.ref swd) (.ref opd) (.ref was) mtw mx (.ref par) (.ref wth) (.ref bwt) mbt mbw (.ref met) (.ref mtw_) (.ref mtf) (.ref trn) (.ref ism) mtu frso frmy gnms (i_rng _) (i_rng _) (j_rng _) (i_rng _) hmtd hmat hmbh hmsz (i_rng _) hmnu (i_rng _) (i_rng _) (i_rng _) (i_rng _) (i_rng _) (i_rng _) (i_rng _) (i_rng _) (i_rng _) (i_rng _) (rg_wide rfrmy (by decide) (by decide)) sz) wm_8_31 wm_8_34 wm_1_12 hd_X12_write wm_8_32 wm_8_33 (ci := 12) (q0 := 0) rfl rfl ⟨Nat.le_of_ble_eq_true rfl, Nat.le_of_ble_eq_true rfl⟩ hls rfl (Nat.le_of_ble_eq_true rfl) dL_law_1340 ⟨show cells + 0 ≤ 600000 from Nat.le_trans (Nat.add_le_add_right hc0 0) (by decide), show slots + 0 ≤ 7302250 from Nat.le_trans (Nat.add_le_add_right hs0 0) (by decide)⟩ [0, 18, 19, 20] rfl rfl (fun _ => rfl) (fun r_1 u_1 H locs w_1 h_1 => ?_)
  clear h
  obtain ⟨wr_1, w1_0, _⟩ := w_1
  exact kk r_1 _ _ _ (fun _ k_ => k_ (al) (hs) (mtp) (fr) (rec) (wds) (swd) (opd) (was) (par) (wth) (bwt) (met) (mtw_) (mtf) (trn) (ism) (rso) (rmy) (nms) ((u_1.2.1 0 0)) (mtd) (mat) (mbh) (msz) (mki) (mnu) (mwr) (mwa) (mfk) (mfp) (mrd) (mtw) (mx) (mbt) (mbw) (mtu) (nde) (fnl) (fnv) (fnp) (fnc) (fal) (fhs) (fmtp) (ffr) (frec) (fwds) (fswd) (fopd) (fwas) (fpar) (fwth) (fbwt) (fmet) (fmtw) (fmtf) (ftrn) (fism) (frso) (frmy) ((u_1.2.2 0)) (hmtd) (hmat) (hmbh) (hmsz) (hmnu) (hnde) (htal_84) (rfal) (hfnl) (htfr_0) (htfr_1) (hfnp) (htfr_2) (hfnc) (htfr_405) (rfswd) (rfopd) (rfwas) (rfmet) (rfrmy) (rfl) (rfl) (rfl) (rfl) rfl) h_1
set_option maxHeartbeats 8000000 in
set_option maxRecDepth 100000 in
theorem lc_write (l : Launch) {p : Program} {e : Env} {s : State} {m : MethodId} {below : List Frame} {meth : Method} {c : Code} {b : Nat} {xs : Nat → Int32} {Q : State → Prop} {D : va_G} {cy : Nat → ClassId} {H : Heap} {locs : List Loc} {ls : Array Slot} {x0 m0 L k cells slots : Nat} {i : Int32} {tl : Int} (X : qX p s m #[Value.ref b] c cL_law 4 RL) (hK : qK D cy s) (hT : qT cy (fun q => s.heap.size ≤ q) s) (hX : va_X b L xs s s.heap) (hbl : b < s.heap.size) (hi : 0 ≤ i.toInt ∧ i.toInt + 6 ≤ L ∧ L ≤ 3072) (hk : k < 512) (hcell : cells + tl.toNat ≤ 200 + 50 * k) (hslot : slots + 451 * tl.toNat ≤ 30000 + 11100 * k) (hl : lv_has ls 4 [(3, .int i), (2, .ref m0), (1, .ref x0), (0, .ref b)]) (hI : LInv cy D (fun q => s.heap.size ≤ q) s.heap x0 m0 H locs tl) (kk : ∀ (H : Heap) (locs : List Loc) (ls : Array Slot) (cells slots : Nat) (tl : Int), lv_has ls 4 [(3, .int i), (2, .ref m0), (1, .ref x0), (0, .ref b)] → LInv cy D (fun q => s.heap.size ≤ q) s.heap x0 m0 H locs tl → cells + tl.toNat ≤ 200 + 50 * (k + 1) → slots + 451 * tl.toNat ≤ 30000 + 11100 * (k + 1) → W p l e room_1 s m #[Value.ref b] below meth c H locs cells slots Q (F0 m 1459 ls [])) : W p l e room_1 s m #[Value.ref b] below meth c H locs cells slots Q (F0 m 1274 ls []) := by
  obtain ⟨hx, hb, hml, hown, ht⟩ := id X
  have hA : ∀ q : Nat, s.heap.size ≤ q → (fun q => s.heap.size ≤ q) q := fun _ h => h
  have hbA : ¬ (fun q : Nat => s.heap.size ≤ q) b := Nat.not_le.mpr hbl
  have hc0 : cells ≤ 26000 := by omega
  have hs0 : slots ≤ 5720000 := by omega
  obtain ⟨gt, gb, gf, gp, wm, wx, pl, hMo, hXo, h⟩ := hI
  refine lv_aload_n hx hb dL_law_1274 rfl (lv_at hl 2 rfl) ?_
  refine lv_aload_n hx hb dL_law_1275 rfl (lv_at hl 3 rfl) ?_
  refine lv_iload_n hx hb dL_law_1276 rfl (lv_at hl 0 rfl) ?_
  refine lv_iconst (v := 1) hx hb dL_law_1277 (by decide) ?_
  refine lv_iadd hx hb dL_law_1278 ?_
  obtain ⟨z_1, ez_1, hz_1⟩ := li_add hi 1 (n := 1) (by decide) (by decide) (by decide)
  refine q_c z_1 ez_1 ?_
  clear ez_1
  refine va_sld hx hb hX hbl hbA h.2.2 (li_in hi hz_1 (by decide) (by decide)) dL_law_1279 ?_
  obtain ⟨x_1, ex_1, hx_1⟩ := e_any (xs (z_1).toNatClampNeg)
  refine q_c x_1 ex_1 ?_
  refine lv_aload_n hx hb dL_law_1280 rfl (lv_at hl 3 rfl) ?_
  refine lv_iload_n hx hb dL_law_1281 rfl (lv_at hl 0 rfl) ?_
  refine lv_iconst (v := 2) hx hb dL_law_1282 (by decide) ?_
  refine lv_iadd hx hb dL_law_1283 ?_
  obtain ⟨z_2, ez_2, hz_2⟩ := li_add hi 2 (n := 2) (by decide) (by decide) (by decide)
  refine q_c z_2 ez_2 ?_
  clear ez_2
  refine va_sld hx hb hX hbl hbA h.2.2 (li_in hi hz_2 (by decide) (by decide)) dL_law_1284 ?_
  obtain ⟨x_2, ex_2, hx_2⟩ := e_any (xs (z_2).toNatClampNeg)
  refine q_c x_2 ex_2 ?_
  refine lv_aload_n hx hb dL_law_1285 rfl (lv_at hl 3 rfl) ?_
  refine lv_iload_n hx hb dL_law_1286 rfl (lv_at hl 0 rfl) ?_
  refine lv_iconst (v := 3) hx hb dL_law_1287 (by decide) ?_
  refine lv_iadd hx hb dL_law_1288 ?_
  obtain ⟨z_3, ez_3, hz_3⟩ := li_add hi 3 (n := 3) (by decide) (by decide) (by decide)
  refine q_c z_3 ez_3 ?_
  clear ez_3
  refine va_sld hx hb hX hbl hbA h.2.2 (li_in hi hz_3 (by decide) (by decide)) dL_law_1289 ?_
  obtain ⟨x_3, ex_3, hx_3⟩ := e_any (xs (z_3).toNatClampNeg)
  refine q_c x_3 ex_3 ?_
  refine lv_i2l hx hb dL_law_1290 rfl ?_
  obtain ⟨z_4, ez_4, hz_4⟩ := e_i2l (x := x_3) rfl
  refine q_cl z_4 ez_4 ?_
  clear ez_4
  refine lv_bipush (v := 32) hx hb dL_law_1291 (by decide) ?_
  refine lv_lshl hx hb dL_law_1293 rfl ?_
  refine q_anyJ (fun z_5 hz_5 => ?_)
  refine lv_aload_n hx hb dL_law_1294 rfl (lv_at hl 3 rfl) ?_
  refine lv_iload_n hx hb dL_law_1295 rfl (lv_at hl 0 rfl) ?_
  refine lv_iconst (v := 4) hx hb dL_law_1296 (by decide) ?_
  refine lv_iadd hx hb dL_law_1297 ?_
  obtain ⟨z_6, ez_6, hz_6⟩ := li_add hi 4 (n := 4) (by decide) (by decide) (by decide)
  refine q_c z_6 ez_6 ?_
  clear ez_6
  refine va_sld hx hb hX hbl hbA h.2.2 (li_in hi hz_6 (by decide) (by decide)) dL_law_1298 ?_
  obtain ⟨x_4, ex_4, hx_4⟩ := e_any (xs (z_6).toNatClampNeg)
  refine q_c x_4 ex_4 ?_
  refine lv_i2l hx hb dL_law_1299 rfl ?_
  obtain ⟨z_7, ez_7, hz_7⟩ := e_i2l (x := x_4) rfl
  refine q_cl z_7 ez_7 ?_
  clear ez_7
  refine lv_ldc2 hx hb hown (ht _ wm_8_59) dL_law_1300 ?_
  refine lv_land hx hb dL_law_1303 ?_
  refine q_anyJ (fun z_8 hz_8 => ?_)
  refine lv_lor hx hb dL_law_1304 ?_
  refine q_anyJ (fun z_9 hz_9 => ?_)
  replace h := q_rotX h
  refine xc_write l X hK hT hl.1 hc0 hs0 hXo h (fun r_10 H locs wx hXo h => ?_)
  refine lv_pop2_2 hx hb dL_law_1308 rfl ?_
  refine lv_aload_n hx hb dL_law_1309 rfl (lv_at hl 1 rfl) ?_
  refine lv_aload_n hx hb dL_law_1310 rfl (lv_at hl 3 rfl) ?_
  refine lv_iload_n hx hb dL_law_1311 rfl (lv_at hl 0 rfl) ?_
  refine lv_iconst (v := 1) hx hb dL_law_1312 (by decide) ?_
  refine lv_iadd hx hb dL_law_1313 ?_
  obtain ⟨z_11, ez_11, hz_11⟩ := li_add hi 1 (n := 1) (by decide) (by decide) (by decide)
  refine q_c z_11 ez_11 ?_
  clear ez_11
  refine va_sld hx hb hX hbl hbA h.2.2 (li_in hi hz_11 (by decide) (by decide)) dL_law_1314 ?_
  refine q_c x_1 ((congrArg xs (cl_eq (x := z_11) (y := z_1) (hz_11.trans hz_1.symm))).trans ex_1) ?_
  refine lv_aload_n hx hb dL_law_1315 rfl (lv_at hl 3 rfl) ?_
  refine lv_iload_n hx hb dL_law_1316 rfl (lv_at hl 0 rfl) ?_
  refine lv_iconst (v := 2) hx hb dL_law_1317 (by decide) ?_
  refine lv_iadd hx hb dL_law_1318 ?_
  obtain ⟨z_12, ez_12, hz_12⟩ := li_add hi 2 (n := 2) (by decide) (by decide) (by decide)
  refine q_c z_12 ez_12 ?_
  clear ez_12
  refine va_sld hx hb hX hbl hbA h.2.2 (li_in hi hz_12 (by decide) (by decide)) dL_law_1319 ?_
  refine q_c x_2 ((congrArg xs (cl_eq (x := z_12) (y := z_2) (hz_12.trans hz_2.symm))).trans ex_2) ?_
  refine lv_aload_n hx hb dL_law_1320 rfl (lv_at hl 3 rfl) ?_
  refine lv_iload_n hx hb dL_law_1321 rfl (lv_at hl 0 rfl) ?_
  refine lv_iconst (v := 3) hx hb dL_law_1322 (by decide) ?_
  refine lv_iadd hx hb dL_law_1323 ?_
  obtain ⟨z_13, ez_13, hz_13⟩ := li_add hi 3 (n := 3) (by decide) (by decide) (by decide)
  refine q_c z_13 ez_13 ?_
  clear ez_13
  refine va_sld hx hb hX hbl hbA h.2.2 (li_in hi hz_13 (by decide) (by decide)) dL_law_1324 ?_
  refine q_c x_3 ((congrArg xs (cl_eq (x := z_13) (y := z_3) (hz_13.trans hz_3.symm))).trans ex_3) ?_
  refine lv_i2l hx hb dL_law_1325 rfl ?_
  obtain ⟨z_14, ez_14, hz_14⟩ := e_i2l (x := x_3) rfl
  refine q_cl z_14 ez_14 ?_
  clear ez_14
  refine lv_bipush (v := 32) hx hb dL_law_1326 (by decide) ?_
  refine lv_lshl hx hb dL_law_1328 rfl ?_
  refine q_anyJ (fun z_15 hz_15 => ?_)
  refine lv_aload_n hx hb dL_law_1329 rfl (lv_at hl 3 rfl) ?_
  refine lv_iload_n hx hb dL_law_1330 rfl (lv_at hl 0 rfl) ?_
  refine lv_iconst (v := 4) hx hb dL_law_1331 (by decide) ?_
  refine lv_iadd hx hb dL_law_1332 ?_
  obtain ⟨z_16, ez_16, hz_16⟩ := li_add hi 4 (n := 4) (by decide) (by decide) (by decide)
  refine q_c z_16 ez_16 ?_
  clear ez_16
  refine va_sld hx hb hX hbl hbA h.2.2 (li_in hi hz_16 (by decide) (by decide)) dL_law_1333 ?_
  refine q_c x_4 ((congrArg xs (cl_eq (x := z_16) (y := z_6) (hz_16.trans hz_6.symm))).trans ex_4) ?_
  refine lv_i2l hx hb dL_law_1334 rfl ?_
  obtain ⟨z_17, ez_17, hz_17⟩ := e_i2l (x := x_4) rfl
  refine q_cl z_17 ez_17 ?_
  clear ez_17
  refine lv_ldc2 hx hb hown (ht _ wm_8_59) dL_law_1335 ?_
  refine lv_land hx hb dL_law_1338 ?_
  refine q_anyJ (fun z_18 hz_18 => ?_)
  refine lv_lor hx hb dL_law_1339 ?_
  refine q_anyJ (fun z_19 hz_19 => ?_)
  replace h := q_rotM h
  refine mc_write l X hK hT hl.1 hc0 hs0 hMo h (fun r_20 H locs wm hMo h => ?_)
  refine lv_pop2_2 hx hb dL_law_1343 rfl ?_
  refine lv_goto (tgt := 1459) hx hb dL_law_1344 (by decide) ?_
  exact kk _ _ _ cells slots tl (lv_sub hl [0, 1, 2, 3] rfl) ⟨_, _, _, _, _, _, _, hMo, hXo, h⟩ (li_c hcell) (li_s hslot)
set_option maxHeartbeats 8000000 in
set_option maxRecDepth 100000 in
theorem xc_lists (l : Launch) {p : Program} {e : Env} {s : State} {m : MethodId} {below : List Frame} {meth : Method} {c : Code} {b : Nat} {Q : State → Prop} {D : va_G} {cy : Nat → ClassId} {H : Heap} {locs : List Loc} {ls : Array Slot} (X : qX p s m #[Value.ref b] c cL_law 4 RL) (hK : qK D cy s) (hT : qT cy (fun q => s.heap.size ≤ q) s) (hls : ls.size = 4) {x0 cells slots : Nat} {P pl wx : va_W} {tl : Int} {a_1 : Int32} {a_2 : Int32} {a_3 : Int32} {gt : Int} {gb : Nat → Int} {gf : Int} {gp : Int} (hc0 : cells ≤ 26000) (hs0 : slots ≤ 5720000) (hX : XOK cy x0 pl wx tl gt gb gf gp) (h : qW D (fun q => s.heap.size ≤ q) s.heap (wx ++ (pl ++ P)) H locs) (kk : ∀ (r : Int32) (H : Heap) (locs : List Loc) (w2 : va_W), XOK cy x0 pl w2 tl gt gb gf gp → qW D (fun q => s.heap.size ≤ q) s.heap (w2 ++ (pl ++ P)) H locs → W p l e room_1 s m #[Value.ref b] below meth c H locs cells slots Q (F0 m 1366 ls [.int r])) : W p l e room_1 s m #[Value.ref b] below meth c H locs cells slots Q (F0 m 1363 ls [.int a_3, .int a_2, .int a_1, .ref x0]) := by
  have hA : ∀ q : Nat, s.heap.size ≤ q → (fun q => s.heap.size ≤ q) q := fun _ h => h
  refine hX _ ?_
  clear hX
  intros tp nw nwv bf bfv tr trv hsy trs ty0 ty0r ty1 ty1r ty2 ty2r ty3 ty3r ims im0 im0v im1 im1v imm sc scg sch ci cir cipa ciw tu tup tuq tuf tub gu guf tk tkk tkp tkv rd rdc hpa hh hob hot hoi0 hoi1 xtl xfk xfp xch nwd nwa bfd bfa trd tra his ty0s ty0z ty1s ty1z ty2s ty2z ty3s ty3z im0d im0a im1d im1a cip tuo tut tus tul guo gup gus guz tkl tkz rda rdt rdf rdp rdz rdn tkt rto ftp nwfv bffv trfv ktr gty0 gty1 gty2 gty3 kim im0fv im1fv fimm fscg fsch fcir fcipa fciw ftup ftuq ftuf ftub fguf ftkk ftkp ftkv frdc vb hxtl rftp rnwfv rbffv rtrfv hhis hktr0 hktr1 hktr2 hktr3 hty0s hty0z hty1s hty1z hty2s hty2z hty3s hty3z hkim0 hkim1 rim0fv rim1fv hcip rfcir htuo htut htul rftuq rftuf hguo hguz rfguf htkl htkz hrda hrdz okvb HHhh HHhob HHhot HHhoi0 HHhoi1 eg0 eg1 eg2 eg3 htl hw_
  subst eg0
  subst eg1
  subst eg2
  subst eg3
  subst htl
  subst hw_
  have HX := HHhh
  obtain ⟨hv, ehv⟩ : ∃ hv : Nat → Prop, hv = HouseIn cy pl := ⟨_, rfl⟩
  rw [← ehv] at okvb HHhh HHhob HHhot HHhoi0 HHhoi1
  obtain ⟨hnl, hnp, hnt, hns, w4, w5, w6, hha, hhb, hhc, hhd, hhe, fha, fhb, fhc, fhd, fhe, L4, L5, L6, b1, b2, b3, l4, l5, l6, hm, hn⟩ := HX
  obtain ⟨r, hp⟩ := house_pick hm hn (L4 ++ L6) ((List.sublist_append_left L4 L5).append (List.Sublist.refl L6))
  rcases l4 with ⟨rfl, rfl⟩ | ⟨la4, las4, n4, fs4, rfl, hn4, rfl⟩
  · skip
    rcases l6 with ⟨rfl, rfl⟩ | ⟨la6, las6, n6, fs6, rfl, hn6, rfl⟩
    · skip
      replace h := q_open h hp
      refine q_callViF (rest := []) X hK hT hA h (fun sz => gX11_lists_006d387 l D cy x0 nw hh hhb hhc nwv trs ty0 ty0r ty1 ty1r ty2 ty2r ty3 ty3r sc scg tu tup tuq tuf tub a_1 a_2 a_3 (.ref tp) xtl xfk xfp (.ref rd) (.ref bf) (.ref tr) (.ref hsy) (.ref ims) (.ref imm) (.ref ci) (.ref gu) xch nwd nwa hnl hnp hnt hns w5 (.ref hha) (.ref hhd) (.ref hhe) fhb fhc nwfv ktr ty0s ty0z gty0 ty1s ty1z gty1 ty2s ty2z gty2 ty3s ty3z gty3 (.ref sch) fscg tuo tut tus tul ftup ftuq ftuf ftub (i_rng _) (i_rng _) (i_rng _) hxtl (i_rng _) (i_rng _) (i_rng _) (i_rng _) (i_rng _) b1 b2 (i_rng _) (i_rng _) hty0s hty0z hty1s hty1z hty2s hty2z hty3s hty3z htuo htut (i_rng _) htul (rg_wide rnwfv (by decide) (by decide)) hktr0 hktr1 hktr2 hktr3 (rg_wide rftuq (by decide) (by decide)) (rg_wide rftuf (by decide) (by decide)) sz) wm_5_141 wm_5_144 wm_1_1 hd_X11_lists wm_5_142 wm_5_143 (ci := 11) (q0 := 0) rfl rfl ⟨Nat.le_of_ble_eq_true rfl, Nat.le_of_ble_eq_true rfl⟩ hls rfl (Nat.le_of_ble_eq_true rfl) dL_law_1363 ⟨show cells + 0 ≤ 600000 from Nat.le_trans (Nat.add_le_add_right hc0 0) (by decide), show slots + 0 ≤ 7302250 from Nat.le_trans (Nat.add_le_add_right hs0 0) (by decide)⟩ [0, 2, 65, 67, 68, 3, 9, 10, 11, 12, 13, 14, 15, 16, 17, 24, 25, 31, 32, 33, 34, 35] rfl rfl (fun _ => rfl) (fun r_1 u_1 H locs w_1 h_1 => ?_)
      clear h
      obtain ⟨wr_1, w1_0, w1_1, w1_2, w1_3, w1_4, w1_5, _⟩ := w_1
      replace h_1 := q_pX (ix := [some 0, none, some 1, some 5, none, none, none, none, none, some 6, some 7, some 8, some 9, some 10, some 11, some 12, some 13, some 14, none, none, none, none, none, none, some 15, some 16, none, none, none, none, none, some 17, some 18, some 19, some 20, some 21, none, none, none, none, none, none, none, none, none, none, none, none, none, none, none, none, none, none, none, none, none, none, none, none, none, none, none, none, none, some 2, none, some 3, some 4, none, none]) h_1 rfl rfl (by decide +kernel) rfl (by decide +kernel)
      have hmono : ∀ a, hv a → HouseIn cy pl a := fun a ha => by rw [ehv] at ha; exact ha
      exact kk r_1 _ _ _ (fun _ k_ => k_ (tp) (nw) (nwv) (bf) (bfv) (tr) (trv) (hsy) (trs) (ty0) (ty0r) (ty1) (ty1r) (ty2) (ty2r) (ty3) (ty3r) (ims) (im0) (im0v) (im1) (im1v) (imm) (sc) (scg) (sch) (ci) (cir) (cipa) (ciw) (tu) (tup) (tuq) (tuf) (tub) (gu) (guf) (tk) (tkk) (tkp) (tkv) (rd) (rdc) (hpa) (hh) (hob) (hot) (hoi0) (hoi1) (xtl) (xfk) (xfp) (xch) (nwd) (nwa) (bfd) (bfa) (trd) (tra) (his) (ty0s) (ty0z) (ty1s) (ty1z) (ty2s) (ty2z) (ty3s) (ty3z) (im0d) (im0a) (im1d) (im1a) (cip) ((u_1.2.1 0 0)) ((u_1.2.1 1 0)) ((u_1.2.1 2 0)) ((u_1.2.1 3 0)) (guo) (gup) (gus) (guz) (tkl) (tkz) (rda) (rdt) (rdf) (rdp) (rdz) (rdn) (tkt) (rto) (ftp) (nwfv) (bffv) (trfv) (ktr) ((u_1.2.2 0)) ((u_1.2.2 1)) ((u_1.2.2 2)) ((u_1.2.2 3)) (kim) (im0fv) (im1fv) (fimm) ((u_1.2.1 8)) (fsch) (fcir) (fcipa) (fciw) ((u_1.2.1 4)) ((u_1.2.1 5)) ((u_1.2.1 6)) ((u_1.2.1 7)) (fguf) (ftkk) (ftkp) (ftkv) (frdc) (vb) (hxtl) (rftp) (rnwfv) (rbffv) (rtrfv) (hhis) (hktr0) (hktr1) (hktr2) (hktr3) (hty0s) (hty0z) (hty1s) (hty1z) (hty2s) (hty2z) (hty3s) (hty3z) (hkim0) (hkim1) (rim0fv) (rim1fv) (hcip) (rfcir) (w1_0) (w1_1) (w1_3) (w1_4) (w1_5) (hguo) (hguz) (rfguf) (htkl) (htkz) (hrda) (hrdz) (hb_mono okvb hmono) (hmono _ HHhh) (hmono _ HHhob) (hmono _ HHhot) (hmono _ HHhoi0) (hmono _ HHhoi1) (rfl) (rfl) (rfl) (rfl) rfl rfl) (q_back h_1 hp rfl)
    · skip
      replace h := q_open h hp
      refine q_callViF (rest := []) X hK hT hA h (fun sz => gX11_lists_bc37d9b l D cy x0 nw hh la6 las6 hhb hhc nwv trs ty0 ty0r ty1 ty1r ty2 ty2r ty3 ty3r sc scg sch tu tup tuq tuf tub a_1 a_2 a_3 (.ref tp) xtl xfk xfp (.ref rd) (.ref bf) (.ref tr) (.ref hsy) (.ref ims) (.ref imm) (.ref ci) (.ref gu) xch nwd nwa hnl hnp hnt hns w5 (.ref hha) (.ref hhd) (.ref hhe) n6 fs6 fhb fhc nwfv ktr ty0s ty0z gty0 ty1s ty1z gty1 ty2s ty2z gty2 ty3s ty3z gty3 fscg fsch tuo tut tus tul ftup ftuq ftuf ftub (i_rng _) (i_rng _) (i_rng _) hxtl (i_rng _) (i_rng _) (i_rng _) (i_rng _) (i_rng _) b1 b2 (i_rng _) (i_rng _) (by omega) hty0s hty0z hty1s hty1z hty2s hty2z hty3s hty3z htuo htut (i_rng _) htul (rg_wide rnwfv (by decide) (by decide)) hktr0 hktr1 hktr2 hktr3 (rg_wide rftuq (by decide) (by decide)) (rg_wide rftuf (by decide) (by decide)) sz) wm_5_141 wm_5_144 wm_1_1 hd_X11_lists wm_5_142 wm_5_143 (ci := 11) (q0 := 0) rfl rfl ⟨Nat.le_of_ble_eq_true rfl, Nat.le_of_ble_eq_true rfl⟩ hls rfl (Nat.le_of_ble_eq_true rfl) dL_law_1363 ⟨show cells + 0 ≤ 600000 from Nat.le_trans (Nat.add_le_add_right hc0 0) (by decide), show slots + 0 ≤ 7302250 from Nat.le_trans (Nat.add_le_add_right hs0 0) (by decide)⟩ [0, 2, 65, 71, 72, 67, 68, 3, 9, 10, 11, 12, 13, 14, 15, 16, 17, 24, 25, 26, 31, 32, 33, 34, 35] rfl rfl (fun _ => rfl) (fun r_1 u_1 H locs w_1 h_1 => ?_)
      clear h
      obtain ⟨wr_1, w1_0, w1_1, w1_2, w1_3, w1_4, w1_5, _⟩ := w_1
      replace h_1 := q_pX (ix := [some 0, none, some 1, some 7, none, none, none, none, none, some 8, some 9, some 10, some 11, some 12, some 13, some 14, some 15, some 16, none, none, none, none, none, none, some 17, some 18, some 19, none, none, none, none, some 20, some 21, some 22, some 23, some 24, none, none, none, none, none, none, none, none, none, none, none, none, none, none, none, none, none, none, none, none, none, none, none, none, none, none, none, none, none, some 2, none, some 5, some 6, none, none, some 3, some 4]) h_1 rfl rfl (by decide +kernel) rfl (by decide +kernel)
      have hmono : ∀ a, hv a → HouseIn cy pl a := fun a ha => by rw [ehv] at ha; exact ha
      exact kk r_1 _ _ _ (fun _ k_ => k_ (tp) (nw) (nwv) (bf) (bfv) (tr) (trv) (hsy) (trs) (ty0) (ty0r) (ty1) (ty1r) (ty2) (ty2r) (ty3) (ty3r) (ims) (im0) (im0v) (im1) (im1v) (imm) (sc) (scg) (sch) (ci) (cir) (cipa) (ciw) (tu) (tup) (tuq) (tuf) (tub) (gu) (guf) (tk) (tkk) (tkp) (tkv) (rd) (rdc) (hpa) (hh) (hob) (hot) (hoi0) (hoi1) (xtl) (xfk) (xfp) (xch) (nwd) (nwa) (bfd) (bfa) (trd) (tra) (his) (ty0s) (ty0z) (ty1s) (ty1z) (ty2s) (ty2z) (ty3s) (ty3z) (im0d) (im0a) (im1d) (im1a) (cip) ((u_1.2.1 0 0)) ((u_1.2.1 1 0)) ((u_1.2.1 2 0)) ((u_1.2.1 3 0)) (guo) (gup) (gus) (guz) (tkl) (tkz) (rda) (rdt) (rdf) (rdp) (rdz) (rdn) (tkt) (rto) (ftp) (nwfv) (bffv) (trfv) (ktr) ((u_1.2.2 0)) ((u_1.2.2 1)) ((u_1.2.2 2)) ((u_1.2.2 3)) (kim) (im0fv) (im1fv) (fimm) ((u_1.2.1 8)) ((u_1.2.1 9)) (fcir) (fcipa) (fciw) ((u_1.2.1 4)) ((u_1.2.1 5)) ((u_1.2.1 6)) ((u_1.2.1 7)) (fguf) (ftkk) (ftkp) (ftkv) (frdc) (vb) (hxtl) (rftp) (rnwfv) (rbffv) (rtrfv) (hhis) (hktr0) (hktr1) (hktr2) (hktr3) (hty0s) (hty0z) (hty1s) (hty1z) (hty2s) (hty2z) (hty3s) (hty3z) (hkim0) (hkim1) (rim0fv) (rim1fv) (hcip) (rfcir) (w1_0) (w1_1) (w1_3) (w1_4) (w1_5) (hguo) (hguz) (rfguf) (htkl) (htkz) (hrda) (hrdz) (hb_mono okvb hmono) (hmono _ HHhh) (hmono _ HHhob) (hmono _ HHhot) (hmono _ HHhoi0) (hmono _ HHhoi1) (rfl) (rfl) (rfl) (rfl) rfl rfl) (q_back h_1 hp rfl)
  · skip
    rcases l6 with ⟨rfl, rfl⟩ | ⟨la6, las6, n6, fs6, rfl, hn6, rfl⟩
    · skip
      replace h := q_open h hp
      refine q_callViF (rest := []) X hK hT hA h (fun sz => gX11_lists_9ab08a2 l D cy x0 nw hh la4 las4 hhb hhc nwv trs ty0 ty0r ty1 ty1r ty2 ty2r ty3 ty3r sc scg sch tu tup tuq tuf tub a_1 a_2 a_3 (.ref tp) xtl xfk xfp (.ref rd) (.ref bf) (.ref tr) (.ref hsy) (.ref ims) (.ref imm) (.ref ci) (.ref gu) xch nwd nwa hnl hnp hnt hns w5 (.ref hha) (.ref hhd) (.ref hhe) n4 fs4 fhb fhc nwfv ktr ty0s ty0z gty0 ty1s ty1z gty1 ty2s ty2z gty2 ty3s ty3z gty3 fscg fsch tuo tut tus tul ftup ftuq ftuf ftub (i_rng _) (i_rng _) (i_rng _) hxtl (i_rng _) (i_rng _) (i_rng _) (i_rng _) (i_rng _) b1 b2 (i_rng _) (i_rng _) (by omega) hty0s hty0z hty1s hty1z hty2s hty2z hty3s hty3z htuo htut (i_rng _) htul (rg_wide rnwfv (by decide) (by decide)) hktr0 hktr1 hktr2 hktr3 (rg_wide rftuq (by decide) (by decide)) (rg_wide rftuf (by decide) (by decide)) sz) wm_5_141 wm_5_144 wm_1_1 hd_X11_lists wm_5_142 wm_5_143 (ci := 11) (q0 := 0) rfl rfl ⟨Nat.le_of_ble_eq_true rfl, Nat.le_of_ble_eq_true rfl⟩ hls rfl (Nat.le_of_ble_eq_true rfl) dL_law_1363 ⟨show cells + 0 ≤ 600000 from Nat.le_trans (Nat.add_le_add_right hc0 0) (by decide), show slots + 0 ≤ 7302250 from Nat.le_trans (Nat.add_le_add_right hs0 0) (by decide)⟩ [0, 2, 65, 71, 72, 67, 68, 3, 9, 10, 11, 12, 13, 14, 15, 16, 17, 24, 25, 26, 31, 32, 33, 34, 35] rfl rfl (fun _ => rfl) (fun r_1 u_1 H locs w_1 h_1 => ?_)
      clear h
      obtain ⟨wr_1, w1_0, w1_1, w1_2, w1_3, w1_4, w1_5, _⟩ := w_1
      replace h_1 := q_pX (ix := [some 0, none, some 1, some 7, none, none, none, none, none, some 8, some 9, some 10, some 11, some 12, some 13, some 14, some 15, some 16, none, none, none, none, none, none, some 17, some 18, some 19, none, none, none, none, some 20, some 21, some 22, some 23, some 24, none, none, none, none, none, none, none, none, none, none, none, none, none, none, none, none, none, none, none, none, none, none, none, none, none, none, none, none, none, some 2, none, some 5, some 6, none, none, some 3, some 4]) h_1 rfl rfl (by decide +kernel) rfl (by decide +kernel)
      have hmono : ∀ a, hv a → HouseIn cy pl a := fun a ha => by rw [ehv] at ha; exact ha
      exact kk r_1 _ _ _ (fun _ k_ => k_ (tp) (nw) (nwv) (bf) (bfv) (tr) (trv) (hsy) (trs) (ty0) (ty0r) (ty1) (ty1r) (ty2) (ty2r) (ty3) (ty3r) (ims) (im0) (im0v) (im1) (im1v) (imm) (sc) (scg) (sch) (ci) (cir) (cipa) (ciw) (tu) (tup) (tuq) (tuf) (tub) (gu) (guf) (tk) (tkk) (tkp) (tkv) (rd) (rdc) (hpa) (hh) (hob) (hot) (hoi0) (hoi1) (xtl) (xfk) (xfp) (xch) (nwd) (nwa) (bfd) (bfa) (trd) (tra) (his) (ty0s) (ty0z) (ty1s) (ty1z) (ty2s) (ty2z) (ty3s) (ty3z) (im0d) (im0a) (im1d) (im1a) (cip) ((u_1.2.1 0 0)) ((u_1.2.1 1 0)) ((u_1.2.1 2 0)) ((u_1.2.1 3 0)) (guo) (gup) (gus) (guz) (tkl) (tkz) (rda) (rdt) (rdf) (rdp) (rdz) (rdn) (tkt) (rto) (ftp) (nwfv) (bffv) (trfv) (ktr) ((u_1.2.2 0)) ((u_1.2.2 1)) ((u_1.2.2 2)) ((u_1.2.2 3)) (kim) (im0fv) (im1fv) (fimm) ((u_1.2.1 8)) ((u_1.2.1 9)) (fcir) (fcipa) (fciw) ((u_1.2.1 4)) ((u_1.2.1 5)) ((u_1.2.1 6)) ((u_1.2.1 7)) (fguf) (ftkk) (ftkp) (ftkv) (frdc) (vb) (hxtl) (rftp) (rnwfv) (rbffv) (rtrfv) (hhis) (hktr0) (hktr1) (hktr2) (hktr3) (hty0s) (hty0z) (hty1s) (hty1z) (hty2s) (hty2z) (hty3s) (hty3z) (hkim0) (hkim1) (rim0fv) (rim1fv) (hcip) (rfcir) (w1_0) (w1_1) (w1_3) (w1_4) (w1_5) (hguo) (hguz) (rfguf) (htkl) (htkz) (hrda) (hrdz) (hb_mono okvb hmono) (hmono _ HHhh) (hmono _ HHhob) (hmono _ HHhot) (hmono _ HHhoi0) (hmono _ HHhoi1) (rfl) (rfl) (rfl) (rfl) rfl rfl) (q_back h_1 hp rfl)
    · skip
      replace h := q_open h hp
      refine q_callViF (rest := []) X hK hT hA h (fun sz => gX11_lists_3cab24c l D cy x0 nw hh la4 las4 la6 las6 hhb hhc nwv trs ty0 ty0r ty1 ty1r ty2 ty2r ty3 ty3r sc scg sch tu tup tuq tuf tub a_1 a_2 a_3 (.ref tp) xtl xfk xfp (.ref rd) (.ref bf) (.ref tr) (.ref hsy) (.ref ims) (.ref imm) (.ref ci) (.ref gu) xch nwd nwa hnl hnp hnt hns w5 (.ref hha) (.ref hhd) (.ref hhe) n4 fs4 n6 fs6 fhb fhc nwfv ktr ty0s ty0z gty0 ty1s ty1z gty1 ty2s ty2z gty2 ty3s ty3z gty3 fscg fsch tuo tut tus tul ftup ftuq ftuf ftub (i_rng _) (i_rng _) (i_rng _) hxtl (i_rng _) (i_rng _) (i_rng _) (i_rng _) (i_rng _) b1 b2 (i_rng _) (i_rng _) (by omega) (by omega) hty0s hty0z hty1s hty1z hty2s hty2z hty3s hty3z htuo htut (i_rng _) htul (rg_wide rnwfv (by decide) (by decide)) hktr0 hktr1 hktr2 hktr3 (rg_wide rftuq (by decide) (by decide)) (rg_wide rftuf (by decide) (by decide)) sz) wm_5_141 wm_5_144 wm_1_1 hd_X11_lists wm_5_142 wm_5_143 (ci := 11) (q0 := 0) rfl rfl ⟨Nat.le_of_ble_eq_true rfl, Nat.le_of_ble_eq_true rfl⟩ hls rfl (Nat.le_of_ble_eq_true rfl) dL_law_1363 ⟨show cells + 0 ≤ 600000 from Nat.le_trans (Nat.add_le_add_right hc0 0) (by decide), show slots + 0 ≤ 7302250 from Nat.le_trans (Nat.add_le_add_right hs0 0) (by decide)⟩ [0, 2, 65, 71, 72, 73, 74, 67, 68, 3, 9, 10, 11, 12, 13, 14, 15, 16, 17, 24, 25, 26, 31, 32, 33, 34, 35] rfl rfl (fun _ => rfl) (fun r_1 u_1 H locs w_1 h_1 => ?_)
      clear h
      obtain ⟨wr_1, w1_0, w1_1, w1_2, w1_3, w1_4, w1_5, _⟩ := w_1
      replace h_1 := q_pX (ix := [some 0, none, some 1, some 9, none, none, none, none, none, some 10, some 11, some 12, some 13, some 14, some 15, some 16, some 17, some 18, none, none, none, none, none, none, some 19, some 20, some 21, none, none, none, none, some 22, some 23, some 24, some 25, some 26, none, none, none, none, none, none, none, none, none, none, none, none, none, none, none, none, none, none, none, none, none, none, none, none, none, none, none, none, none, some 2, none, some 7, some 8, none, none, some 3, some 4, some 5, some 6]) h_1 rfl rfl (by decide +kernel) rfl (by decide +kernel)
      have hmono : ∀ a, hv a → HouseIn cy pl a := fun a ha => by rw [ehv] at ha; exact ha
      exact kk r_1 _ _ _ (fun _ k_ => k_ (tp) (nw) (nwv) (bf) (bfv) (tr) (trv) (hsy) (trs) (ty0) (ty0r) (ty1) (ty1r) (ty2) (ty2r) (ty3) (ty3r) (ims) (im0) (im0v) (im1) (im1v) (imm) (sc) (scg) (sch) (ci) (cir) (cipa) (ciw) (tu) (tup) (tuq) (tuf) (tub) (gu) (guf) (tk) (tkk) (tkp) (tkv) (rd) (rdc) (hpa) (hh) (hob) (hot) (hoi0) (hoi1) (xtl) (xfk) (xfp) (xch) (nwd) (nwa) (bfd) (bfa) (trd) (tra) (his) (ty0s) (ty0z) (ty1s) (ty1z) (ty2s) (ty2z) (ty3s) (ty3z) (im0d) (im0a) (im1d) (im1a) (cip) ((u_1.2.1 0 0)) ((u_1.2.1 1 0)) ((u_1.2.1 2 0)) ((u_1.2.1 3 0)) (guo) (gup) (gus) (guz) (tkl) (tkz) (rda) (rdt) (rdf) (rdp) (rdz) (rdn) (tkt) (rto) (ftp) (nwfv) (bffv) (trfv) (ktr) ((u_1.2.2 0)) ((u_1.2.2 1)) ((u_1.2.2 2)) ((u_1.2.2 3)) (kim) (im0fv) (im1fv) (fimm) ((u_1.2.1 8)) ((u_1.2.1 9)) (fcir) (fcipa) (fciw) ((u_1.2.1 4)) ((u_1.2.1 5)) ((u_1.2.1 6)) ((u_1.2.1 7)) (fguf) (ftkk) (ftkp) (ftkv) (frdc) (vb) (hxtl) (rftp) (rnwfv) (rbffv) (rtrfv) (hhis) (hktr0) (hktr1) (hktr2) (hktr3) (hty0s) (hty0z) (hty1s) (hty1z) (hty2s) (hty2z) (hty3s) (hty3z) (hkim0) (hkim1) (rim0fv) (rim1fv) (hcip) (rfcir) (w1_0) (w1_1) (w1_3) (w1_4) (w1_5) (hguo) (hguz) (rfguf) (htkl) (htkz) (hrda) (hrdz) (hb_mono okvb hmono) (hmono _ HHhh) (hmono _ HHhob) (hmono _ HHhot) (hmono _ HHhoi0) (hmono _ HHhoi1) (rfl) (rfl) (rfl) (rfl) rfl rfl) (q_back h_1 hp rfl)
set_option maxHeartbeats 8000000 in
set_option maxRecDepth 100000 in
theorem mc_lists (l : Launch) {p : Program} {e : Env} {s : State} {m : MethodId} {below : List Frame} {meth : Method} {c : Code} {b : Nat} {Q : State → Prop} {D : va_G} {cy : Nat → ClassId} {H : Heap} {locs : List Loc} {ls : Array Slot} (X : qX p s m #[Value.ref b] c cL_law 4 RL) (hK : qK D cy s) (hT : qT cy (fun q => s.heap.size ≤ q) s) (hls : ls.size = 4) {m0 cells slots : Nat} {P wm : va_W} {a_1 : Int32} {a_2 : Int32} {a_3 : Int32} {gt : Int} {gb : Nat → Int} {gf : Int} {gp : Int} (hc0 : cells ≤ 26000) (hs0 : slots ≤ 5720000) (hM : MOK cy m0 wm gt gb gf gp) (h : qW D (fun q => s.heap.size ≤ q) s.heap (wm ++ P) H locs) (kk : ∀ (r : Int32) (H : Heap) (locs : List Loc) (w2 : va_W), MOK cy m0 w2 gt gb gf gp → qW D (fun q => s.heap.size ≤ q) s.heap (w2 ++ P) H locs → W p l e room_1 s m #[Value.ref b] below meth c H locs cells slots Q (F0 m 1386 ls [.int r])) : W p l e room_1 s m #[Value.ref b] below meth c H locs cells slots Q (F0 m 1383 ls [.int a_3, .int a_2, .int a_1, .ref m0]) := by
  have hA : ∀ q : Nat, s.heap.size ≤ q → (fun q => s.heap.size ≤ q) q := fun _ h => h
  refine hM _ ?_
  clear hM
  intros al hs mtp fr rec wds swd opd was par wth bwt met mtw_ mtf trn ism rso rmy nms mth mtd mat mbh msz mki mnu mwr mwa mfk mfp mrd mtw mx mbt mbw mtu nde fnl fnv fnp fnc fal fhs fmtp ffr frec fwds fswd fopd fwas fpar fwth fbwt fmet fmtw fmtf ftrn fism frso frmy gnms hmtd hmat hmbh hmsz hmnu hnde htal_84 rfal hfnl htfr_0 htfr_1 hfnp htfr_2 hfnc htfr_405 rfswd rfopd rfwas rfmet rfrmy eg0 eg1 eg2 eg3 hw_
  subst eg0
  subst eg1
  subst eg2
  subst eg3
  subst hw_
  refine q_callViF (rest := []) X hK hT hA h (fun sz => gX12_lists_0d6c489 l D cy m0 al rec wds swd met mtw_ mtf trn ism rso rmy nms a_1 a_2 a_3 mth (.ref hs) (.ref mtp) (.ref fr) mtd mat mbh msz mki mnu mwr mwa mfk mfp mrd (.ref opd) (.ref was) mtw mx (.ref par) (.ref wth) (.ref bwt) mbt mbw mtu fal nde frec fwds fswd fmet fmtw fmtf ftrn fism frso frmy gnms (i_rng _) (i_rng _) (i_rng _) (i_rng _) hmtd hmat hmbh hmsz (i_rng _) hmnu (i_rng _) (i_rng _) (i_rng _) (i_rng _) (i_rng _) (i_rng _) (i_rng _) (i_rng _) (i_rng _) (i_rng _) hnde htal_84 rfal (rg_wide rfswd (by decide) (by decide)) (rg_wide rfmet (by decide) (by decide)) (rg_wide rfrmy (by decide) (by decide)) sz) wm_8_39 wm_8_42 wm_1_12 hd_X12_lists wm_8_40 wm_8_41 (ci := 12) (q0 := 0) rfl rfl ⟨Nat.le_of_ble_eq_true rfl, Nat.le_of_ble_eq_true rfl⟩ hls rfl (Nat.le_of_ble_eq_true rfl) dL_law_1383 ⟨show cells + 0 ≤ 600000 from Nat.le_trans (Nat.add_le_add_right hc0 0) (by decide), show slots + 0 ≤ 7302250 from Nat.le_trans (Nat.add_le_add_right hs0 0) (by decide)⟩ [0, 1, 5, 6, 7, 13, 14, 15, 16, 17, 18, 19, 20] rfl rfl (fun _ => rfl) (fun r_1 u_1 H locs w_1 h_1 => ?_)
  clear h
  obtain ⟨wr_1, w1_0, w1_1, w1_2, w1_3, w1_4, w1_5, _⟩ := w_1
  replace h_1 := q_pX (ix := [some 0, some 1, none, none, none, some 2, some 3, some 4, none, none, none, none, none, some 5, some 6, some 7, some 8, some 9, some 10, some 11, some 12]) h_1 rfl rfl (by decide +kernel) rfl (by decide +kernel)
  exact kk r_1 _ _ _ (fun _ k_ => k_ (al) (hs) (mtp) (fr) (rec) (wds) (swd) (opd) (was) (par) (wth) (bwt) (met) (mtw_) (mtf) (trn) (ism) (rso) (rmy) (nms) ((u_1.2.1 0 0)) (mtd) (mat) (mbh) (msz) (mki) (mnu) (mwr) (mwa) (mfk) (mfp) (mrd) (mtw) (mx) (mbt) (mbw) ((u_1.2.1 1 0)) (nde) (fnl) (fnv) (fnp) (fnc) ((u_1.2.1 2)) (fhs) (fmtp) (ffr) ((u_1.2.1 3)) ((u_1.2.1 4)) ((u_1.2.1 5)) (fopd) (fwas) (fpar) (fwth) (fbwt) ((u_1.2.1 6)) ((u_1.2.1 7)) ((u_1.2.1 8)) ((u_1.2.1 9)) ((u_1.2.1 10)) (frso) (frmy) ((u_1.2.2 0)) (hmtd) (hmat) (hmbh) (hmsz) (hmnu) (hnde) (w1_5) (w1_2) (hfnl) (htfr_0) (htfr_1) (hfnp) (htfr_2) (hfnc) (htfr_405) (w1_3) (rfopd) (rfwas) (w1_4) (rfrmy) (rfl) (rfl) (rfl) (rfl) rfl) h_1
set_option maxHeartbeats 8000000 in
set_option maxRecDepth 100000 in
theorem lc_lists (l : Launch) {p : Program} {e : Env} {s : State} {m : MethodId} {below : List Frame} {meth : Method} {c : Code} {b : Nat} {xs : Nat → Int32} {Q : State → Prop} {D : va_G} {cy : Nat → ClassId} {H : Heap} {locs : List Loc} {ls : Array Slot} {x0 m0 L k cells slots : Nat} {i : Int32} {tl : Int} (X : qX p s m #[Value.ref b] c cL_law 4 RL) (hK : qK D cy s) (hT : qT cy (fun q => s.heap.size ≤ q) s) (hX : va_X b L xs s s.heap) (hbl : b < s.heap.size) (hi : 0 ≤ i.toInt ∧ i.toInt + 6 ≤ L ∧ L ≤ 3072) (hk : k < 512) (hcell : cells + tl.toNat ≤ 200 + 50 * k) (hslot : slots + 451 * tl.toNat ≤ 30000 + 11100 * k) (hl : lv_has ls 4 [(3, .int i), (2, .ref m0), (1, .ref x0), (0, .ref b)]) (hI : LInv cy D (fun q => s.heap.size ≤ q) s.heap x0 m0 H locs tl) (kk : ∀ (H : Heap) (locs : List Loc) (ls : Array Slot) (cells slots : Nat) (tl : Int), lv_has ls 4 [(3, .int i), (2, .ref m0), (1, .ref x0), (0, .ref b)] → LInv cy D (fun q => s.heap.size ≤ q) s.heap x0 m0 H locs tl → cells + tl.toNat ≤ 200 + 50 * (k + 1) → slots + 451 * tl.toNat ≤ 30000 + 11100 * (k + 1) → W p l e room_1 s m #[Value.ref b] below meth c H locs cells slots Q (F0 m 1459 ls [])) : W p l e room_1 s m #[Value.ref b] below meth c H locs cells slots Q (F0 m 1347 ls []) := by
  obtain ⟨hx, hb, hml, hown, ht⟩ := id X
  have hA : ∀ q : Nat, s.heap.size ≤ q → (fun q => s.heap.size ≤ q) q := fun _ h => h
  have hbA : ¬ (fun q : Nat => s.heap.size ≤ q) b := Nat.not_le.mpr hbl
  have hc0 : cells ≤ 26000 := by omega
  have hs0 : slots ≤ 5720000 := by omega
  obtain ⟨gt, gb, gf, gp, wm, wx, pl, hMo, hXo, h⟩ := hI
  refine lv_aload_n hx hb dL_law_1347 rfl (lv_at hl 2 rfl) ?_
  refine lv_aload_n hx hb dL_law_1348 rfl (lv_at hl 3 rfl) ?_
  refine lv_iload_n hx hb dL_law_1349 rfl (lv_at hl 0 rfl) ?_
  refine lv_iconst (v := 1) hx hb dL_law_1350 (by decide) ?_
  refine lv_iadd hx hb dL_law_1351 ?_
  obtain ⟨z_1, ez_1, hz_1⟩ := li_add hi 1 (n := 1) (by decide) (by decide) (by decide)
  refine q_c z_1 ez_1 ?_
  clear ez_1
  refine va_sld hx hb hX hbl hbA h.2.2 (li_in hi hz_1 (by decide) (by decide)) dL_law_1352 ?_
  obtain ⟨x_1, ex_1, hx_1⟩ := e_any (xs (z_1).toNatClampNeg)
  refine q_c x_1 ex_1 ?_
  refine lv_aload_n hx hb dL_law_1353 rfl (lv_at hl 3 rfl) ?_
  refine lv_iload_n hx hb dL_law_1354 rfl (lv_at hl 0 rfl) ?_
  refine lv_iconst (v := 2) hx hb dL_law_1355 (by decide) ?_
  refine lv_iadd hx hb dL_law_1356 ?_
  obtain ⟨z_2, ez_2, hz_2⟩ := li_add hi 2 (n := 2) (by decide) (by decide) (by decide)
  refine q_c z_2 ez_2 ?_
  clear ez_2
  refine va_sld hx hb hX hbl hbA h.2.2 (li_in hi hz_2 (by decide) (by decide)) dL_law_1357 ?_
  obtain ⟨x_2, ex_2, hx_2⟩ := e_any (xs (z_2).toNatClampNeg)
  refine q_c x_2 ex_2 ?_
  refine lv_aload_n hx hb dL_law_1358 rfl (lv_at hl 3 rfl) ?_
  refine lv_iload_n hx hb dL_law_1359 rfl (lv_at hl 0 rfl) ?_
  refine lv_iconst (v := 3) hx hb dL_law_1360 (by decide) ?_
  refine lv_iadd hx hb dL_law_1361 ?_
  obtain ⟨z_3, ez_3, hz_3⟩ := li_add hi 3 (n := 3) (by decide) (by decide) (by decide)
  refine q_c z_3 ez_3 ?_
  clear ez_3
  refine va_sld hx hb hX hbl hbA h.2.2 (li_in hi hz_3 (by decide) (by decide)) dL_law_1362 ?_
  obtain ⟨x_3, ex_3, hx_3⟩ := e_any (xs (z_3).toNatClampNeg)
  refine q_c x_3 ex_3 ?_
  replace h := q_rotX h
  refine xc_lists l X hK hT hl.1 hc0 hs0 hXo h (fun r_4 H locs wx hXo h => ?_)
  refine lv_pop hx hb dL_law_1366 rfl ?_
  refine lv_aload_n hx hb dL_law_1367 rfl (lv_at hl 1 rfl) ?_
  refine lv_aload_n hx hb dL_law_1368 rfl (lv_at hl 3 rfl) ?_
  refine lv_iload_n hx hb dL_law_1369 rfl (lv_at hl 0 rfl) ?_
  refine lv_iconst (v := 1) hx hb dL_law_1370 (by decide) ?_
  refine lv_iadd hx hb dL_law_1371 ?_
  obtain ⟨z_5, ez_5, hz_5⟩ := li_add hi 1 (n := 1) (by decide) (by decide) (by decide)
  refine q_c z_5 ez_5 ?_
  clear ez_5
  refine va_sld hx hb hX hbl hbA h.2.2 (li_in hi hz_5 (by decide) (by decide)) dL_law_1372 ?_
  refine q_c x_1 ((congrArg xs (cl_eq (x := z_5) (y := z_1) (hz_5.trans hz_1.symm))).trans ex_1) ?_
  refine lv_aload_n hx hb dL_law_1373 rfl (lv_at hl 3 rfl) ?_
  refine lv_iload_n hx hb dL_law_1374 rfl (lv_at hl 0 rfl) ?_
  refine lv_iconst (v := 2) hx hb dL_law_1375 (by decide) ?_
  refine lv_iadd hx hb dL_law_1376 ?_
  obtain ⟨z_6, ez_6, hz_6⟩ := li_add hi 2 (n := 2) (by decide) (by decide) (by decide)
  refine q_c z_6 ez_6 ?_
  clear ez_6
  refine va_sld hx hb hX hbl hbA h.2.2 (li_in hi hz_6 (by decide) (by decide)) dL_law_1377 ?_
  refine q_c x_2 ((congrArg xs (cl_eq (x := z_6) (y := z_2) (hz_6.trans hz_2.symm))).trans ex_2) ?_
  refine lv_aload_n hx hb dL_law_1378 rfl (lv_at hl 3 rfl) ?_
  refine lv_iload_n hx hb dL_law_1379 rfl (lv_at hl 0 rfl) ?_
  refine lv_iconst (v := 3) hx hb dL_law_1380 (by decide) ?_
  refine lv_iadd hx hb dL_law_1381 ?_
  obtain ⟨z_7, ez_7, hz_7⟩ := li_add hi 3 (n := 3) (by decide) (by decide) (by decide)
  refine q_c z_7 ez_7 ?_
  clear ez_7
  refine va_sld hx hb hX hbl hbA h.2.2 (li_in hi hz_7 (by decide) (by decide)) dL_law_1382 ?_
  refine q_c x_3 ((congrArg xs (cl_eq (x := z_7) (y := z_3) (hz_7.trans hz_3.symm))).trans ex_3) ?_
  replace h := q_rotM h
  refine mc_lists l X hK hT hl.1 hc0 hs0 hMo h (fun r_8 H locs wm hMo h => ?_)
  refine lv_pop hx hb dL_law_1386 rfl ?_
  refine lv_goto (tgt := 1459) hx hb dL_law_1387 (by decide) ?_
  exact kk _ _ _ cells slots tl (lv_sub hl [0, 1, 2, 3] rfl) ⟨_, _, _, _, _, _, _, hMo, hXo, h⟩ (li_c hcell) (li_s hslot)
set_option maxHeartbeats 8000000 in
set_option maxRecDepth 100000 in
theorem xc_image (l : Launch) {p : Program} {e : Env} {s : State} {m : MethodId} {below : List Frame} {meth : Method} {c : Code} {b : Nat} {Q : State → Prop} {D : va_G} {cy : Nat → ClassId} {H : Heap} {locs : List Loc} {ls : Array Slot} (X : qX p s m #[Value.ref b] c cL_law 4 RL) (hK : qK D cy s) (hT : qT cy (fun q => s.heap.size ≤ q) s) (hls : ls.size = 4) {x0 cells slots : Nat} {P pl wx : va_W} {tl : Int} {a_1 : Int32} {gt : Int} {gb : Nat → Int} {gf : Int} {gp : Int} (hc0 : cells ≤ 26000) (hs0 : slots ≤ 5720000) (hX : XOK cy x0 pl wx tl gt gb gf gp) (h : qW D (fun q => s.heap.size ≤ q) s.heap (wx ++ (pl ++ P)) H locs) (kk : ∀ (r : Int32) (H : Heap) (locs : List Loc) (w2 : va_W), XOK cy x0 pl w2 tl gt gb gf gp → qW D (fun q => s.heap.size ≤ q) s.heap (w2 ++ (pl ++ P)) H locs → W p l e room_1 s m #[Value.ref b] below meth c H locs cells slots Q (F0 m 1399 ls [.int r])) : W p l e room_1 s m #[Value.ref b] below meth c H locs cells slots Q (F0 m 1396 ls [.int a_1, .ref x0]) := by
  have hA : ∀ q : Nat, s.heap.size ≤ q → (fun q => s.heap.size ≤ q) q := fun _ h => h
  refine hX _ ?_
  clear hX
  intros tp nw nwv bf bfv tr trv hsy trs ty0 ty0r ty1 ty1r ty2 ty2r ty3 ty3r ims im0 im0v im1 im1v imm sc scg sch ci cir cipa ciw tu tup tuq tuf tub gu guf tk tkk tkp tkv rd rdc hpa hh hob hot hoi0 hoi1 xtl xfk xfp xch nwd nwa bfd bfa trd tra his ty0s ty0z ty1s ty1z ty2s ty2z ty3s ty3z im0d im0a im1d im1a cip tuo tut tus tul guo gup gus guz tkl tkz rda rdt rdf rdp rdz rdn tkt rto ftp nwfv bffv trfv ktr gty0 gty1 gty2 gty3 kim im0fv im1fv fimm fscg fsch fcir fcipa fciw ftup ftuq ftuf ftub fguf ftkk ftkp ftkv frdc vb hxtl rftp rnwfv rbffv rtrfv hhis hktr0 hktr1 hktr2 hktr3 hty0s hty0z hty1s hty1z hty2s hty2z hty3s hty3z hkim0 hkim1 rim0fv rim1fv hcip rfcir htuo htut htul rftuq rftuf hguo hguz rfguf htkl htkz hrda hrdz okvb HHhh HHhob HHhot HHhoi0 HHhoi1 eg0 eg1 eg2 eg3 htl hw_
  subst eg0
  subst eg1
  subst eg2
  subst eg3
  subst htl
  subst hw_
  obtain ⟨hv, ehv⟩ : ∃ hv : Nat → Prop, hv = HouseIn cy pl := ⟨_, rfl⟩
  rw [← ehv] at okvb HHhh HHhob HHhot HHhoi0 HHhoi1
  refine q_callViF (rest := []) X hK hT hA h (fun sz => gX11_image_43cdf9a l D cy x0 nw nwv ims im0 im0v im1 im1v imm a_1 (.ref tp) xtl xfk xfp (.ref rd) (.ref bf) (.ref tr) (.ref hsy) (.ref trs) (.ref sc) (.ref ci) (.ref tu) (.ref gu) xch hh nwd nwa nwfv kim hoi0 im0d im0a im0fv hoi1 im1d im1a im1fv fimm (i_rng _) hxtl (i_rng _) (i_rng _) (i_rng _) (i_rng _) (i_rng _) (i_rng _) (i_rng _) (i_rng _) (i_rng _) (rg_wide rnwfv (by decide) (by decide)) hkim0 hkim1 (rg_wide rim0fv (by decide) (by decide)) (rg_wide rim1fv (by decide) (by decide)) sz) wm_5_145 wm_5_148 wm_1_1 hd_X11_image wm_5_146 wm_5_147 (ci := 11) (q0 := 0) rfl rfl ⟨Nat.le_of_ble_eq_true rfl, Nat.le_of_ble_eq_true rfl⟩ hls rfl (Nat.le_of_ble_eq_true rfl) dL_law_1396 ⟨show cells + 0 ≤ 600000 from Nat.le_trans (Nat.add_le_add_right hc0 0) (by decide), show slots + 0 ≤ 7302250 from Nat.le_trans (Nat.add_le_add_right hs0 0) (by decide)⟩ [0, 2, 3, 18, 19, 20, 21, 22, 23] rfl rfl (fun _ => rfl) (fun r_1 u_1 H locs w_1 h_1 => ?_)
  clear h
  obtain ⟨wr_1, w1_0, w1_1, w1_2, w1_3, w1_4, w1_5, w1_6, w1_7, _⟩ := w_1
  replace h_1 := q_pX (ix := [some 0, none, some 1, some 2, none, none, none, none, none, none, none, none, none, none, none, none, none, none, some 3, some 4, some 5, some 6, some 7, some 8, none, none, none, none, none, none, none, none, none, none, none, none, none, none, none, none, none, none, none, none, none, none, none, none, none, none, none, none, none, none, none, none, none, none, none, none, none, none, none, none, none]) h_1 rfl rfl (by decide +kernel) rfl (by decide +kernel)
  have hmono : ∀ a, hv a → HouseIn cy pl a := fun a ha => by rw [ehv] at ha; exact ha
  exact kk r_1 _ _ _ (fun _ k_ => k_ (tp) (nw) (nwv) (bf) (bfv) (tr) (trv) (hsy) (trs) (ty0) (ty0r) (ty1) (ty1r) (ty2) (ty2r) (ty3) (ty3r) (ims) (im0) (im0v) (im1) (im1v) (imm) (sc) (scg) (sch) (ci) (cir) (cipa) (ciw) (tu) (tup) (tuq) (tuf) (tub) (gu) (guf) (tk) (tkk) (tkp) (tkv) (rd) (rdc) (hpa) (hh) (hob) (hot) ((u_1.1 0)) ((u_1.1 1)) (xtl) (xfk) (xfp) (xch) (nwd) (nwa) (bfd) (bfa) (trd) (tra) (his) (ty0s) (ty0z) (ty1s) (ty1z) (ty2s) (ty2z) (ty3s) (ty3z) ((u_1.2.1 1 0)) ((u_1.2.1 2 0)) ((u_1.2.1 4 0)) ((u_1.2.1 5 0)) (cip) (tuo) (tut) (tus) (tul) (guo) (gup) (gus) (guz) (tkl) (tkz) (rda) (rdt) (rdf) (rdp) (rdz) (rdn) (tkt) (rto) (ftp) (nwfv) (bffv) (trfv) (ktr) (gty0) (gty1) (gty2) (gty3) (kim) ((u_1.2.1 3)) ((u_1.2.1 6)) ((u_1.2.1 0)) (fscg) (fsch) (fcir) (fcipa) (fciw) (ftup) (ftuq) (ftuf) (ftub) (fguf) (ftkk) (ftkp) (ftkv) (frdc) (vb) (hxtl) (rftp) (rnwfv) (rbffv) (rtrfv) (hhis) (hktr0) (hktr1) (hktr2) (hktr3) (hty0s) (hty0z) (hty1s) (hty1z) (hty2s) (hty2z) (hty3s) (hty3z) (hkim0) (hkim1) (w1_3) (w1_7) (hcip) (rfcir) (htuo) (htut) (htul) (rftuq) (rftuf) (hguo) (hguz) (rfguf) (htkl) (htkz) (hrda) (hrdz) (hb_mono okvb hmono) (hmono _ HHhh) (hmono _ HHhob) (hmono _ HHhot) (hmono _ (by rcases w1_0 with e | e <;> (rw [e]; assumption))) (hmono _ (by rcases w1_4 with e | e <;> (rw [e]; assumption))) (rfl) (rfl) (rfl) (rfl) rfl rfl) (q_backW (t := []) h_1 rfl)
set_option maxHeartbeats 8000000 in
set_option maxRecDepth 100000 in
theorem mc_image (l : Launch) {p : Program} {e : Env} {s : State} {m : MethodId} {below : List Frame} {meth : Method} {c : Code} {b : Nat} {Q : State → Prop} {D : va_G} {cy : Nat → ClassId} {H : Heap} {locs : List Loc} {ls : Array Slot} (X : qX p s m #[Value.ref b] c cL_law 4 RL) (hK : qK D cy s) (hT : qT cy (fun q => s.heap.size ≤ q) s) (hls : ls.size = 4) {m0 cells slots : Nat} {P wm : va_W} {a_1 : Int32} {gt : Int} {gb : Nat → Int} {gf : Int} {gp : Int} (hc0 : cells ≤ 26000) (hs0 : slots ≤ 5720000) (hM : MOK cy m0 wm gt gb gf gp) (h : qW D (fun q => s.heap.size ≤ q) s.heap (wm ++ P) H locs) (kk : ∀ (r : Int32) (H : Heap) (locs : List Loc) (w2 : va_W), MOK cy m0 w2 gt gb gf gp → qW D (fun q => s.heap.size ≤ q) s.heap (w2 ++ P) H locs → W p l e room_1 s m #[Value.ref b] below meth c H locs cells slots Q (F0 m 1409 ls [.int r])) : W p l e room_1 s m #[Value.ref b] below meth c H locs cells slots Q (F0 m 1406 ls [.int a_1, .ref m0]) := by
  have hA : ∀ q : Nat, s.heap.size ≤ q → (fun q => s.heap.size ≤ q) q := fun _ h => h
  refine hM _ ?_
  clear hM
  intros al hs mtp fr rec wds swd opd was par wth bwt met mtw_ mtf trn ism rso rmy nms mth mtd mat mbh msz mki mnu mwr mwa mfk mfp mrd mtw mx mbt mbw mtu nde fnl fnv fnp fnc fal fhs fmtp ffr frec fwds fswd fopd fwas fpar fwth fbwt fmet fmtw fmtf ftrn fism frso frmy gnms hmtd hmat hmbh hmsz hmnu hnde htal_84 rfal hfnl htfr_0 htfr_1 hfnp htfr_2 hfnc htfr_405 rfswd rfopd rfwas rfmet rfrmy eg0 eg1 eg2 eg3 hw_
  subst eg0
  subst eg1
  subst eg2
  subst eg3
  subst hw_
  refine q_callViF (rest := []) X hK hT hA h (fun sz => gX12_image_b9527e2 l D cy m0 al hs a_1 mth (.ref mtp) (.ref fr) mtd mat mbh msz mki mnu mwr mwa mfk mfp mrd (.ref rec) (.ref wds) (.ref swd) (.ref opd) (.ref was) mtw mx (.ref par) (.ref wth) (.ref bwt) mbt mbw (.ref met) (.ref mtw_) (.ref mtf) (.ref trn) (.ref ism) mtu (.ref rso) (.ref rmy) (.ref nms) fal nde fhs (i_rng _) (i_rng _) hmtd hmat hmbh hmsz (i_rng _) hmnu (i_rng _) (i_rng _) (i_rng _) (i_rng _) (i_rng _) (i_rng _) (i_rng _) (i_rng _) (i_rng _) (i_rng _) hnde htal_84 rfal sz) wm_8_43 wm_8_46 wm_1_12 hd_X12_image wm_8_44 wm_8_45 (ci := 12) (q0 := 0) rfl rfl ⟨Nat.le_of_ble_eq_true rfl, Nat.le_of_ble_eq_true rfl⟩ hls rfl (Nat.le_of_ble_eq_true rfl) dL_law_1406 ⟨show cells + 0 ≤ 600000 from Nat.le_trans (Nat.add_le_add_right hc0 0) (by decide), show slots + 0 ≤ 7302250 from Nat.le_trans (Nat.add_le_add_right hs0 0) (by decide)⟩ [0, 1, 2] rfl rfl (fun _ => rfl) (fun r_1 u_1 H locs w_1 h_1 => ?_)
  clear h
  obtain ⟨wr_1, w1_0, w1_1, w1_2, _⟩ := w_1
  exact kk r_1 _ _ _ (fun _ k_ => k_ (al) (hs) (mtp) (fr) (rec) (wds) (swd) (opd) (was) (par) (wth) (bwt) (met) (mtw_) (mtf) (trn) (ism) (rso) (rmy) (nms) ((u_1.2.1 0 0)) (mtd) (mat) (mbh) (msz) (mki) (mnu) (mwr) (mwa) (mfk) (mfp) (mrd) (mtw) (mx) (mbt) (mbw) (mtu) (nde) (fnl) (fnv) (fnp) (fnc) ((u_1.2.1 1)) ((u_1.2.1 2)) (fmtp) (ffr) (frec) (fwds) (fswd) (fopd) (fwas) (fpar) (fwth) (fbwt) (fmet) (fmtw) (fmtf) (ftrn) (fism) (frso) (frmy) (gnms) (hmtd) (hmat) (hmbh) (hmsz) (hmnu) (hnde) (w1_2) (w1_1) (hfnl) (htfr_0) (htfr_1) (hfnp) (htfr_2) (hfnc) (htfr_405) (rfswd) (rfopd) (rfwas) (rfmet) (rfrmy) (rfl) (rfl) (rfl) (rfl) rfl) h_1
set_option maxHeartbeats 8000000 in
set_option maxRecDepth 100000 in
theorem lc_image (l : Launch) {p : Program} {e : Env} {s : State} {m : MethodId} {below : List Frame} {meth : Method} {c : Code} {b : Nat} {xs : Nat → Int32} {Q : State → Prop} {D : va_G} {cy : Nat → ClassId} {H : Heap} {locs : List Loc} {ls : Array Slot} {x0 m0 L k cells slots : Nat} {i : Int32} {tl : Int} (X : qX p s m #[Value.ref b] c cL_law 4 RL) (hK : qK D cy s) (hT : qT cy (fun q => s.heap.size ≤ q) s) (hX : va_X b L xs s s.heap) (hbl : b < s.heap.size) (hi : 0 ≤ i.toInt ∧ i.toInt + 6 ≤ L ∧ L ≤ 3072) (hk : k < 512) (hcell : cells + tl.toNat ≤ 200 + 50 * k) (hslot : slots + 451 * tl.toNat ≤ 30000 + 11100 * k) (hl : lv_has ls 4 [(3, .int i), (2, .ref m0), (1, .ref x0), (0, .ref b)]) (hI : LInv cy D (fun q => s.heap.size ≤ q) s.heap x0 m0 H locs tl) (kk : ∀ (H : Heap) (locs : List Loc) (ls : Array Slot) (cells slots : Nat) (tl : Int), lv_has ls 4 [(3, .int i), (2, .ref m0), (1, .ref x0), (0, .ref b)] → LInv cy D (fun q => s.heap.size ≤ q) s.heap x0 m0 H locs tl → cells + tl.toNat ≤ 200 + 50 * (k + 1) → slots + 451 * tl.toNat ≤ 30000 + 11100 * (k + 1) → W p l e room_1 s m #[Value.ref b] below meth c H locs cells slots Q (F0 m 1459 ls [])) : W p l e room_1 s m #[Value.ref b] below meth c H locs cells slots Q (F0 m 1390 ls []) := by
  obtain ⟨hx, hb, hml, hown, ht⟩ := id X
  have hA : ∀ q : Nat, s.heap.size ≤ q → (fun q => s.heap.size ≤ q) q := fun _ h => h
  have hbA : ¬ (fun q : Nat => s.heap.size ≤ q) b := Nat.not_le.mpr hbl
  have hc0 : cells ≤ 26000 := by omega
  have hs0 : slots ≤ 5720000 := by omega
  obtain ⟨gt, gb, gf, gp, wm, wx, pl, hMo, hXo, h⟩ := hI
  refine lv_aload_n hx hb dL_law_1390 rfl (lv_at hl 2 rfl) ?_
  refine lv_aload_n hx hb dL_law_1391 rfl (lv_at hl 3 rfl) ?_
  refine lv_iload_n hx hb dL_law_1392 rfl (lv_at hl 0 rfl) ?_
  refine lv_iconst (v := 1) hx hb dL_law_1393 (by decide) ?_
  refine lv_iadd hx hb dL_law_1394 ?_
  obtain ⟨z_1, ez_1, hz_1⟩ := li_add hi 1 (n := 1) (by decide) (by decide) (by decide)
  refine q_c z_1 ez_1 ?_
  clear ez_1
  refine va_sld hx hb hX hbl hbA h.2.2 (li_in hi hz_1 (by decide) (by decide)) dL_law_1395 ?_
  obtain ⟨x_1, ex_1, hx_1⟩ := e_any (xs (z_1).toNatClampNeg)
  refine q_c x_1 ex_1 ?_
  replace h := q_rotX h
  refine xc_image l X hK hT hl.1 hc0 hs0 hXo h (fun r_2 H locs wx hXo h => ?_)
  refine lv_pop hx hb dL_law_1399 rfl ?_
  refine lv_aload_n hx hb dL_law_1400 rfl (lv_at hl 1 rfl) ?_
  refine lv_aload_n hx hb dL_law_1401 rfl (lv_at hl 3 rfl) ?_
  refine lv_iload_n hx hb dL_law_1402 rfl (lv_at hl 0 rfl) ?_
  refine lv_iconst (v := 1) hx hb dL_law_1403 (by decide) ?_
  refine lv_iadd hx hb dL_law_1404 ?_
  obtain ⟨z_3, ez_3, hz_3⟩ := li_add hi 1 (n := 1) (by decide) (by decide) (by decide)
  refine q_c z_3 ez_3 ?_
  clear ez_3
  refine va_sld hx hb hX hbl hbA h.2.2 (li_in hi hz_3 (by decide) (by decide)) dL_law_1405 ?_
  refine q_c x_1 ((congrArg xs (cl_eq (x := z_3) (y := z_1) (hz_3.trans hz_1.symm))).trans ex_1) ?_
  replace h := q_rotM h
  refine mc_image l X hK hT hl.1 hc0 hs0 hMo h (fun r_4 H locs wm hMo h => ?_)
  refine lv_pop hx hb dL_law_1409 rfl ?_
  refine lv_goto (tgt := 1459) hx hb dL_law_1410 (by decide) ?_
  exact kk _ _ _ cells slots tl (lv_sub hl [0, 1, 2, 3] rfl) ⟨_, _, _, _, _, _, _, hMo, hXo, h⟩ (li_c hcell) (li_s hslot)
set_option maxHeartbeats 8000000 in
set_option maxRecDepth 100000 in
theorem xc_restore (l : Launch) {p : Program} {e : Env} {s : State} {m : MethodId} {below : List Frame} {meth : Method} {c : Code} {b : Nat} {Q : State → Prop} {D : va_G} {cy : Nat → ClassId} {H : Heap} {locs : List Loc} {ls : Array Slot} (X : qX p s m #[Value.ref b] c cL_law 4 RL) (hK : qK D cy s) (hT : qT cy (fun q => s.heap.size ≤ q) s) (hls : ls.size = 4) {x0 cells slots : Nat} {P pl wx : va_W} {tl : Int} {a_1 : Int32} {gt : Int} {gb : Nat → Int} {gf : Int} {gp : Int} (hc0 : cells ≤ 26000) (hs0 : slots ≤ 5720000) (hX : XOK cy x0 pl wx tl gt gb gf gp) (h : qW D (fun q => s.heap.size ≤ q) s.heap (wx ++ (pl ++ P)) H locs) (kk : ∀ (r : Int32) (H : Heap) (locs : List Loc) (w2 : va_W), XOK cy x0 pl w2 tl gt gb gf gp → qW D (fun q => s.heap.size ≤ q) s.heap (w2 ++ (pl ++ P)) H locs → W p l e room_1 s m #[Value.ref b] below meth c H locs cells slots Q (F0 m 1422 ls [.int r])) : W p l e room_1 s m #[Value.ref b] below meth c H locs cells slots Q (F0 m 1419 ls [.int a_1, .ref x0]) := by
  have hA : ∀ q : Nat, s.heap.size ≤ q → (fun q => s.heap.size ≤ q) q := fun _ h => h
  refine hX _ ?_
  clear hX
  intros tp nw nwv bf bfv tr trv hsy trs ty0 ty0r ty1 ty1r ty2 ty2r ty3 ty3r ims im0 im0v im1 im1v imm sc scg sch ci cir cipa ciw tu tup tuq tuf tub gu guf tk tkk tkp tkv rd rdc hpa hh hob hot hoi0 hoi1 xtl xfk xfp xch nwd nwa bfd bfa trd tra his ty0s ty0z ty1s ty1z ty2s ty2z ty3s ty3z im0d im0a im1d im1a cip tuo tut tus tul guo gup gus guz tkl tkz rda rdt rdf rdp rdz rdn tkt rto ftp nwfv bffv trfv ktr gty0 gty1 gty2 gty3 kim im0fv im1fv fimm fscg fsch fcir fcipa fciw ftup ftuq ftuf ftub fguf ftkk ftkp ftkv frdc vb hxtl rftp rnwfv rbffv rtrfv hhis hktr0 hktr1 hktr2 hktr3 hty0s hty0z hty1s hty1z hty2s hty2z hty3s hty3z hkim0 hkim1 rim0fv rim1fv hcip rfcir htuo htut htul rftuq rftuf hguo hguz rfguf htkl htkz hrda hrdz okvb HHhh HHhob HHhot HHhoi0 HHhoi1 eg0 eg1 eg2 eg3 htl hw_
  subst eg0
  subst eg1
  subst eg2
  subst eg3
  subst htl
  subst hw_
  obtain ⟨hv, ehv⟩ : ∃ hv : Nat → Prop, hv = HouseIn cy pl := ⟨_, rfl⟩
  rw [← ehv] at okvb HHhh HHhob HHhot HHhoi0 HHhoi1
  refine q_callViF (rest := []) X hK hT hA h (fun sz => gX11_restore_2d7b50c l D cy x0 nw nwv hsy ims im0 im0v im1 im1v imm a_1 (.ref tp) xtl xfk xfp (.ref rd) (.ref bf) (.ref tr) (.ref trs) (.ref sc) (.ref ci) (.ref tu) (.ref gu) xch hh nwd nwa nwfv his (.ref hpa) kim hoi0 im0d im0a im0fv hoi1 im1d im1a im1fv fimm (i_rng _) hxtl (i_rng _) (i_rng _) (i_rng _) (i_rng _) (i_rng _) hhis (i_rng _) (i_rng _) (i_rng _) (i_rng _) (rg_wide rnwfv (by decide) (by decide)) hkim0 hkim1 (rg_wide rim0fv (by decide) (by decide)) (rg_wide rim1fv (by decide) (by decide)) sz) wm_5_149 wm_5_152 wm_1_1 hd_X11_restore wm_5_150 wm_5_151 (ci := 11) (q0 := 0) rfl rfl ⟨Nat.le_of_ble_eq_true rfl, Nat.le_of_ble_eq_true rfl⟩ hls rfl (Nat.le_of_ble_eq_true rfl) dL_law_1419 ⟨show cells + 0 ≤ 600000 from Nat.le_trans (Nat.add_le_add_right hc0 0) (by decide), show slots + 0 ≤ 7302250 from Nat.le_trans (Nat.add_le_add_right hs0 0) (by decide)⟩ [0, 2, 3, 8, 18, 19, 20, 21, 22, 23] rfl rfl (fun _ => rfl) (fun r_1 u_1 H locs w_1 h_1 => ?_)
  clear h
  obtain ⟨wr_1, w1_0, w1_1, w1_2, w1_3, w1_4, w1_5, _⟩ := w_1
  replace h_1 := q_pX (ix := [some 0, none, some 1, some 2, none, none, none, none, some 3, none, none, none, none, none, none, none, none, none, some 4, some 5, some 6, some 7, some 8, some 9, none, none, none, none, none, none, none, none, none, none, none, none, none, none, none, none, none, none, none, none, none, none, none, none, none, none, none, none, none, none, none, none, none, none, none, none, none, none, none, none, none]) h_1 rfl rfl (by decide +kernel) rfl (by decide +kernel)
  have hmono : ∀ a, hv a → HouseIn cy pl a := fun a ha => by rw [ehv] at ha; exact ha
  exact kk r_1 _ _ _ (fun _ k_ => k_ (tp) (nw) (nwv) (bf) (bfv) (tr) (trv) (hsy) (trs) (ty0) (ty0r) (ty1) (ty1r) (ty2) (ty2r) (ty3) (ty3r) (ims) (im0) (im0v) (im1) (im1v) (imm) (sc) (scg) (sch) (ci) (cir) (cipa) (ciw) (tu) (tup) (tuq) (tuf) (tub) (gu) (guf) (tk) (tkk) (tkp) (tkv) (rd) (rdc) (hpa) ((u_1.1 0)) (hob) (hot) (hoi0) (hoi1) (xtl) (xfk) (xfp) ((u_1.2.1 0 0)) ((u_1.2.1 1 0)) ((u_1.2.1 2 0)) (bfd) (bfa) (trd) (tra) ((u_1.2.1 4 0)) (ty0s) (ty0z) (ty1s) (ty1z) (ty2s) (ty2z) (ty3s) (ty3z) (im0d) (im0a) (im1d) (im1a) (cip) (tuo) (tut) (tus) (tul) (guo) (gup) (gus) (guz) (tkl) (tkz) (rda) (rdt) (rdf) (rdp) (rdz) (rdn) (tkt) (rto) (ftp) ((u_1.2.1 3)) (bffv) (trfv) (ktr) (gty0) (gty1) (gty2) (gty3) (kim) (im0fv) (im1fv) (fimm) (fscg) (fsch) (fcir) (fcipa) (fciw) (ftup) (ftuq) (ftuf) (ftub) (fguf) (ftkk) (ftkp) (ftkv) (frdc) (vb) (hxtl) (rftp) (w1_4) (rbffv) (rtrfv) (w1_5) (hktr0) (hktr1) (hktr2) (hktr3) (hty0s) (hty0z) (hty1s) (hty1z) (hty2s) (hty2z) (hty3s) (hty3z) (hkim0) (hkim1) (rim0fv) (rim1fv) (hcip) (rfcir) (htuo) (htut) (htul) (rftuq) (rftuf) (hguo) (hguz) (rfguf) (htkl) (htkz) (hrda) (hrdz) (hb_mono okvb hmono) (hmono _ (by rcases w1_1 with e | e | e <;> (rw [e]; assumption))) (hmono _ HHhob) (hmono _ HHhot) (hmono _ HHhoi0) (hmono _ HHhoi1) (rfl) (rfl) (rfl) (rfl) rfl rfl) (q_backW (t := []) h_1 rfl)
set_option maxHeartbeats 8000000 in
set_option maxRecDepth 100000 in
theorem mc_restore (l : Launch) {p : Program} {e : Env} {s : State} {m : MethodId} {below : List Frame} {meth : Method} {c : Code} {b : Nat} {Q : State → Prop} {D : va_G} {cy : Nat → ClassId} {H : Heap} {locs : List Loc} {ls : Array Slot} (X : qX p s m #[Value.ref b] c cL_law 4 RL) (hK : qK D cy s) (hT : qT cy (fun q => s.heap.size ≤ q) s) (hls : ls.size = 4) {m0 cells slots : Nat} {P wm : va_W} {a_1 : Int32} {gt : Int} {gb : Nat → Int} {gf : Int} {gp : Int} (hc0 : cells ≤ 26000) (hs0 : slots ≤ 5720000) (hM : MOK cy m0 wm gt gb gf gp) (h : qW D (fun q => s.heap.size ≤ q) s.heap (wm ++ P) H locs) (kk : ∀ (r : Int32) (H : Heap) (locs : List Loc) (w2 : va_W), MOK cy m0 w2 gt gb gf gp → qW D (fun q => s.heap.size ≤ q) s.heap (w2 ++ P) H locs → W p l e room_1 s m #[Value.ref b] below meth c H locs cells slots Q (F0 m 1432 ls [.int r])) : W p l e room_1 s m #[Value.ref b] below meth c H locs cells slots Q (F0 m 1429 ls [.int a_1, .ref m0]) := by
  have hA : ∀ q : Nat, s.heap.size ≤ q → (fun q => s.heap.size ≤ q) q := fun _ h => h
  refine hM _ ?_
  clear hM
  intros al hs mtp fr rec wds swd opd was par wth bwt met mtw_ mtf trn ism rso rmy nms mth mtd mat mbh msz mki mnu mwr mwa mfk mfp mrd mtw mx mbt mbw mtu nde fnl fnv fnp fnc fal fhs fmtp ffr frec fwds fswd fopd fwas fpar fwth fbwt fmet fmtw fmtf ftrn fism frso frmy gnms hmtd hmat hmbh hmsz hmnu hnde htal_84 rfal hfnl htfr_0 htfr_1 hfnp htfr_2 hfnc htfr_405 rfswd rfopd rfwas rfmet rfrmy eg0 eg1 eg2 eg3 hw_
  subst eg0
  subst eg1
  subst eg2
  subst eg3
  subst hw_
  refine q_callViF (rest := []) X hK hT hA h (fun sz => gX12_restore_ea9512c l D cy m0 al hs a_1 mth (.ref mtp) (.ref fr) mtd mat mbh msz mki mnu mwr mwa mfk mfp mrd (.ref rec) (.ref wds) (.ref swd) (.ref opd) (.ref was) mtw mx (.ref par) (.ref wth) (.ref bwt) mbt mbw (.ref met) (.ref mtw_) (.ref mtf) (.ref trn) (.ref ism) mtu (.ref rso) (.ref rmy) (.ref nms) fal nde fhs (i_rng _) (i_rng _) hmtd hmat hmbh hmsz (i_rng _) hmnu (i_rng _) (i_rng _) (i_rng _) (i_rng _) (i_rng _) (i_rng _) (i_rng _) (i_rng _) (i_rng _) (i_rng _) hnde htal_84 rfal sz) wm_8_47 wm_8_50 wm_1_12 hd_X12_restore wm_8_48 wm_8_49 (ci := 12) (q0 := 0) rfl rfl ⟨Nat.le_of_ble_eq_true rfl, Nat.le_of_ble_eq_true rfl⟩ hls rfl (Nat.le_of_ble_eq_true rfl) dL_law_1429 ⟨show cells + 0 ≤ 600000 from Nat.le_trans (Nat.add_le_add_right hc0 0) (by decide), show slots + 0 ≤ 7302250 from Nat.le_trans (Nat.add_le_add_right hs0 0) (by decide)⟩ [0, 1, 2] rfl rfl (fun _ => rfl) (fun r_1 u_1 H locs w_1 h_1 => ?_)
  clear h
  obtain ⟨wr_1, w1_0, w1_1, w1_2, w1_3, _⟩ := w_1
  exact kk r_1 _ _ _ (fun _ k_ => k_ (al) (hs) (mtp) (fr) (rec) (wds) (swd) (opd) (was) (par) (wth) (bwt) (met) (mtw_) (mtf) (trn) (ism) (rso) (rmy) (nms) ((u_1.2.1 0 0)) (mtd) (mat) (mbh) (msz) (mki) (mnu) (mwr) (mwa) (mfk) (mfp) (mrd) (mtw) (mx) (mbt) (mbw) (mtu) ((u_1.2.1 2 0)) (fnl) (fnv) (fnp) (fnc) ((u_1.2.1 1)) (fhs) (fmtp) (ffr) (frec) (fwds) (fswd) (fopd) (fwas) (fpar) (fwth) (fbwt) (fmet) (fmtw) (fmtf) (ftrn) (fism) (frso) (frmy) (gnms) (hmtd) (hmat) (hmbh) (hmsz) (hmnu) (w1_2) (w1_3) (w1_1) (hfnl) (htfr_0) (htfr_1) (hfnp) (htfr_2) (hfnc) (htfr_405) (rfswd) (rfopd) (rfwas) (rfmet) (rfrmy) (rfl) (rfl) (rfl) (rfl) rfl) h_1
set_option maxHeartbeats 8000000 in
set_option maxRecDepth 100000 in
theorem lc_restore (l : Launch) {p : Program} {e : Env} {s : State} {m : MethodId} {below : List Frame} {meth : Method} {c : Code} {b : Nat} {xs : Nat → Int32} {Q : State → Prop} {D : va_G} {cy : Nat → ClassId} {H : Heap} {locs : List Loc} {ls : Array Slot} {x0 m0 L k cells slots : Nat} {i : Int32} {tl : Int} (X : qX p s m #[Value.ref b] c cL_law 4 RL) (hK : qK D cy s) (hT : qT cy (fun q => s.heap.size ≤ q) s) (hX : va_X b L xs s s.heap) (hbl : b < s.heap.size) (hi : 0 ≤ i.toInt ∧ i.toInt + 6 ≤ L ∧ L ≤ 3072) (hk : k < 512) (hcell : cells + tl.toNat ≤ 200 + 50 * k) (hslot : slots + 451 * tl.toNat ≤ 30000 + 11100 * k) (hl : lv_has ls 4 [(3, .int i), (2, .ref m0), (1, .ref x0), (0, .ref b)]) (hI : LInv cy D (fun q => s.heap.size ≤ q) s.heap x0 m0 H locs tl) (kk : ∀ (H : Heap) (locs : List Loc) (ls : Array Slot) (cells slots : Nat) (tl : Int), lv_has ls 4 [(3, .int i), (2, .ref m0), (1, .ref x0), (0, .ref b)] → LInv cy D (fun q => s.heap.size ≤ q) s.heap x0 m0 H locs tl → cells + tl.toNat ≤ 200 + 50 * (k + 1) → slots + 451 * tl.toNat ≤ 30000 + 11100 * (k + 1) → W p l e room_1 s m #[Value.ref b] below meth c H locs cells slots Q (F0 m 1459 ls [])) : W p l e room_1 s m #[Value.ref b] below meth c H locs cells slots Q (F0 m 1413 ls []) := by
  obtain ⟨hx, hb, hml, hown, ht⟩ := id X
  have hA : ∀ q : Nat, s.heap.size ≤ q → (fun q => s.heap.size ≤ q) q := fun _ h => h
  have hbA : ¬ (fun q : Nat => s.heap.size ≤ q) b := Nat.not_le.mpr hbl
  have hc0 : cells ≤ 26000 := by omega
  have hs0 : slots ≤ 5720000 := by omega
  obtain ⟨gt, gb, gf, gp, wm, wx, pl, hMo, hXo, h⟩ := hI
  refine lv_aload_n hx hb dL_law_1413 rfl (lv_at hl 2 rfl) ?_
  refine lv_aload_n hx hb dL_law_1414 rfl (lv_at hl 3 rfl) ?_
  refine lv_iload_n hx hb dL_law_1415 rfl (lv_at hl 0 rfl) ?_
  refine lv_iconst (v := 1) hx hb dL_law_1416 (by decide) ?_
  refine lv_iadd hx hb dL_law_1417 ?_
  obtain ⟨z_1, ez_1, hz_1⟩ := li_add hi 1 (n := 1) (by decide) (by decide) (by decide)
  refine q_c z_1 ez_1 ?_
  clear ez_1
  refine va_sld hx hb hX hbl hbA h.2.2 (li_in hi hz_1 (by decide) (by decide)) dL_law_1418 ?_
  obtain ⟨x_1, ex_1, hx_1⟩ := e_any (xs (z_1).toNatClampNeg)
  refine q_c x_1 ex_1 ?_
  replace h := q_rotX h
  refine xc_restore l X hK hT hl.1 hc0 hs0 hXo h (fun r_2 H locs wx hXo h => ?_)
  refine lv_pop hx hb dL_law_1422 rfl ?_
  refine lv_aload_n hx hb dL_law_1423 rfl (lv_at hl 1 rfl) ?_
  refine lv_aload_n hx hb dL_law_1424 rfl (lv_at hl 3 rfl) ?_
  refine lv_iload_n hx hb dL_law_1425 rfl (lv_at hl 0 rfl) ?_
  refine lv_iconst (v := 1) hx hb dL_law_1426 (by decide) ?_
  refine lv_iadd hx hb dL_law_1427 ?_
  obtain ⟨z_3, ez_3, hz_3⟩ := li_add hi 1 (n := 1) (by decide) (by decide) (by decide)
  refine q_c z_3 ez_3 ?_
  clear ez_3
  refine va_sld hx hb hX hbl hbA h.2.2 (li_in hi hz_3 (by decide) (by decide)) dL_law_1428 ?_
  refine q_c x_1 ((congrArg xs (cl_eq (x := z_3) (y := z_1) (hz_3.trans hz_1.symm))).trans ex_1) ?_
  replace h := q_rotM h
  refine mc_restore l X hK hT hl.1 hc0 hs0 hMo h (fun r_4 H locs wm hMo h => ?_)
  refine lv_pop hx hb dL_law_1432 rfl ?_
  refine lv_goto (tgt := 1459) hx hb dL_law_1433 (by decide) ?_
  exact kk _ _ _ cells slots tl (lv_sub hl [0, 1, 2, 3] rfl) ⟨_, _, _, _, _, _, _, hMo, hXo, h⟩ (li_c hcell) (li_s hslot)
