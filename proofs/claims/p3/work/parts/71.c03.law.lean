set_option maxHeartbeats 8000000 in
set_option maxRecDepth 100000 in
theorem xc_bar (l : Launch) {p : Program} {e : Env} {s : State} {m : MethodId} {below : List Frame} {meth : Method} {c : Code} {b : Nat} {Q : State → Prop} {D : va_G} {cy : Nat → ClassId} {H : Heap} {locs : List Loc} {ls : Array Slot} (X : qX p s m #[Value.ref b] c cL_law 4 RL) (hK : qK D cy s) (hT : qT cy (fun q => s.heap.size ≤ q) s) (hls : ls.size = 4) {x0 cells slots : Nat} {P pl wx : va_W} {tl : Int} {a_1 : Int32} {a_2 : Int32} {gt : Int} {gb : Nat → Int} {gf : Int} {gp : Int} (hc0 : cells ≤ 26000) (hs0 : slots ≤ 5720000) (hX : XOK cy x0 pl wx tl gt gb gf gp) (h : qW D (fun q => s.heap.size ≤ q) s.heap (wx ++ (pl ++ P)) H locs) (kk : ∀ (r : Int32) (H : Heap) (locs : List Loc) (w2 : va_W), XOK cy x0 pl w2 tl gt gb gf gp → qW D (fun q => s.heap.size ≤ q) s.heap (w2 ++ (pl ++ P)) H locs → W p l e room_1 s m #[Value.ref b] below meth c H locs cells slots Q (F0 m 748 ls [.int r])) : W p l e room_1 s m #[Value.ref b] below meth c H locs cells slots Q (F0 m 745 ls [.int a_2, .int a_1, .ref x0]) := by
  have hA : ∀ q : Nat, s.heap.size ≤ q → (fun q => s.heap.size ≤ q) q := fun _ h => h
  refine hX _ ?_
  clear hX
  intros tp nw nwv bf bfv tr trv hsy trs ty0 ty0r ty1 ty1r ty2 ty2r ty3 ty3r ims im0 im0v im1 im1v imm sc scg sch ci cir cipa ciw tu tup tuq tuf tub gu guf tk tkk tkp tkv rd rdc hpa hh hob hot hoi0 hoi1 xtl xfk xfp xch nwd nwa bfd bfa trd tra his ty0s ty0z ty1s ty1z ty2s ty2z ty3s ty3z im0d im0a im1d im1a cip tuo tut tus tul guo gup gus guz tkl tkz rda rdt rdf rdp rdz rdn tkt rto ftp nwfv bffv trfv ktr gty0 gty1 gty2 gty3 kim im0fv im1fv fimm fscg fsch fcir fcipa fciw ftup ftuq ftuf ftub fguf ftkk ftkp ftkv frdc vb hxtl rftp rnwfv rbffv rtrfv hhis hktr0 hktr1 hktr2 hktr3 hty0s hty0z hty1s hty1z hty2s hty2z hty3s hty3z hkim0 hkim1 rim0fv rim1fv hcip rfcir htuo htut htul rftuq rftuf hguo hguz rfguf htkl htkz hrda hrdz okvb HHhh HHhob HHhot HHhoi0 HHhoi1 eg0 eg1 eg2 eg3 htl hw_
  subst eg0
  subst eg1
  subst eg2
  subst eg3
  subst htl
  subst hw_
  have HX := HHhh
  obtain ⟨hv, ehv⟩ : ∃ hv : Nat → Prop, hv = HouseIn cy pl := ⟨_, rfl⟩
  rw [← ehv] at okvb HHhh HHhob HHhot HHhoi0 HHhoi1
  obtain ⟨hnl, hnp, hnt, hns, w4, w5, w6, hha, hhb, hhc, hhd, hhe, fha, fhb, fhc, fhd, fhe, L4, L5, L6, b1, b2, b3, l4, l5, l6, hm, hn⟩ := HX
  obtain ⟨r, hp⟩ := house_pick hm hn L4 ((List.sublist_append_left L4 L5).trans (List.sublist_append_left _ _))
  rcases l4 with ⟨rfl, rfl⟩ | ⟨la4, las4, n4, fs4, rfl, hn4, rfl⟩
  · skip
    replace h := q_open h hp
    refine q_callViF (rest := []) X hK hT hA h (fun sz => gX11_bar_6156211 l D cy x0 nw hh hhe nwv sc ci cir ciw a_1 a_2 (.ref tp) xtl xfk xfp (.ref rd) (.ref bf) (.ref tr) (.ref hsy) (.ref trs) (.ref ims) (.ref imm) (.ref tu) (.ref gu) xch nwd nwa hnl hnp hnt hns w5 w6 (.ref hha) (.ref hhb) (.ref hhc) (.ref hhd) fhe nwfv (.ref scg) (.ref sch) cip (.ref cipa) fcir fciw (i_rng _) (i_rng _) hxtl (i_rng _) (i_rng _) (i_rng _) (i_rng _) (i_rng _) b1 b2 (i_rng _) (i_rng _) hcip (rg_wide rnwfv (by decide) (by decide)) (rg_wide rfcir (by decide) (by decide)) sz) wm_4_186 wm_4_189 wm_1_1 hd_X11_bar wm_4_187 wm_4_188 (ci := 11) (q0 := 0) rfl rfl ⟨Nat.le_of_ble_eq_true rfl, Nat.le_of_ble_eq_true rfl⟩ hls rfl (Nat.le_of_ble_eq_true rfl) dL_law_745 ⟨show cells + 0 ≤ 600000 from Nat.le_trans (Nat.add_le_add_right hc0 0) (by decide), show slots + 0 ≤ 7302250 from Nat.le_trans (Nat.add_le_add_right hs0 0) (by decide)⟩ [0, 2, 65, 70, 3, 24, 27, 28, 30] rfl rfl (fun _ => rfl) (fun r_1 u_1 H locs w_1 h_1 => ?_)
    clear h
    obtain ⟨wr_1, w1_0, w1_1, _⟩ := w_1
    replace h_1 := q_pX (ix := [some 0, none, some 1, some 4, none, none, none, none, none, none, none, none, none, none, none, none, none, none, none, none, none, none, none, none, some 5, none, none, some 6, some 7, none, some 8, none, none, none, none, none, none, none, none, none, none, none, none, none, none, none, none, none, none, none, none, none, none, none, none, none, none, none, none, none, none, none, none, none, none, some 2, none, none, none, none, some 3]) h_1 rfl rfl (by decide +kernel) rfl (by decide +kernel)
    have hmono : ∀ a, hv a → HouseIn cy pl a := fun a ha => by rw [ehv] at ha; exact ha
    exact kk r_1 _ _ _ (fun _ k_ => k_ (tp) (nw) (nwv) (bf) (bfv) (tr) (trv) (hsy) (trs) (ty0) (ty0r) (ty1) (ty1r) (ty2) (ty2r) (ty3) (ty3r) (ims) (im0) (im0v) (im1) (im1v) (imm) (sc) (scg) (sch) (ci) (cir) (cipa) (ciw) (tu) (tup) (tuq) (tuf) (tub) (gu) (guf) (tk) (tkk) (tkp) (tkv) (rd) (rdc) (hpa) (hh) (hob) (hot) (hoi0) (hoi1) (xtl) (xfk) (xfp) (xch) (nwd) (nwa) (bfd) (bfa) (trd) (tra) (his) (ty0s) (ty0z) (ty1s) (ty1z) (ty2s) (ty2z) (ty3s) (ty3z) (im0d) (im0a) (im1d) (im1a) ((u_1.2.1 0 0)) (tuo) (tut) (tus) (tul) (guo) (gup) (gus) (guz) (tkl) (tkz) (rda) (rdt) (rdf) (rdp) (rdz) (rdn) (tkt) (rto) (ftp) (nwfv) (bffv) (trfv) (ktr) (gty0) (gty1) (gty2) (gty3) (kim) (im0fv) (im1fv) (fimm) (fscg) (fsch) ((u_1.2.1 1)) (fcipa) ((u_1.2.1 2)) (ftup) (ftuq) (ftuf) (ftub) (fguf) (ftkk) (ftkp) (ftkv) (frdc) (vb) (hxtl) (rftp) (rnwfv) (rbffv) (rtrfv) (hhis) (hktr0) (hktr1) (hktr2) (hktr3) (hty0s) (hty0z) (hty1s) (hty1z) (hty2s) (hty2z) (hty3s) (hty3z) (hkim0) (hkim1) (rim0fv) (rim1fv) (w1_0) (w1_1) (htuo) (htut) (htul) (rftuq) (rftuf) (hguo) (hguz) (rfguf) (htkl) (htkz) (hrda) (hrdz) (hb_mono okvb hmono) (hmono _ HHhh) (hmono _ HHhob) (hmono _ HHhot) (hmono _ HHhoi0) (hmono _ HHhoi1) (rfl) (rfl) (rfl) (rfl) rfl rfl) (q_back h_1 hp rfl)
  · skip
    replace h := q_open h hp
    refine q_callViF (rest := []) X hK hT hA h (fun sz => gX11_bar_9387c7a l D cy x0 nw hh la4 las4 hhe nwv sc scg sch ci cir ciw a_1 a_2 (.ref tp) xtl xfk xfp (.ref rd) (.ref bf) (.ref tr) (.ref hsy) (.ref trs) (.ref ims) (.ref imm) (.ref tu) (.ref gu) xch nwd nwa hnl hnp hnt hns w5 w6 (.ref hha) (.ref hhb) (.ref hhc) (.ref hhd) n4 fs4 fhe nwfv fscg fsch cip (.ref cipa) fcir fciw (i_rng _) (i_rng _) hxtl (i_rng _) (i_rng _) (i_rng _) (i_rng _) (i_rng _) b1 b2 (i_rng _) (i_rng _) (by omega) hcip (rg_wide rnwfv (by decide) (by decide)) (rg_wide rfcir (by decide) (by decide)) sz) wm_4_186 wm_4_189 wm_1_1 hd_X11_bar wm_4_187 wm_4_188 (ci := 11) (q0 := 0) rfl rfl ⟨Nat.le_of_ble_eq_true rfl, Nat.le_of_ble_eq_true rfl⟩ hls rfl (Nat.le_of_ble_eq_true rfl) dL_law_745 ⟨show cells + 0 ≤ 600000 from Nat.le_trans (Nat.add_le_add_right hc0 0) (by decide), show slots + 0 ≤ 7302250 from Nat.le_trans (Nat.add_le_add_right hs0 0) (by decide)⟩ [0, 2, 65, 71, 72, 70, 3, 24, 25, 26, 27, 28, 30] rfl rfl (fun _ => rfl) (fun r_1 u_1 H locs w_1 h_1 => ?_)
    clear h
    obtain ⟨wr_1, w1_0, w1_1, _⟩ := w_1
    replace h_1 := q_pX (ix := [some 0, none, some 1, some 6, none, none, none, none, none, none, none, none, none, none, none, none, none, none, none, none, none, none, none, none, some 7, some 8, some 9, some 10, some 11, none, some 12, none, none, none, none, none, none, none, none, none, none, none, none, none, none, none, none, none, none, none, none, none, none, none, none, none, none, none, none, none, none, none, none, none, none, some 2, none, none, none, none, some 5, some 3, some 4]) h_1 rfl rfl (by decide +kernel) rfl (by decide +kernel)
    have hmono : ∀ a, hv a → HouseIn cy pl a := fun a ha => by rw [ehv] at ha; exact ha
    exact kk r_1 _ _ _ (fun _ k_ => k_ (tp) (nw) (nwv) (bf) (bfv) (tr) (trv) (hsy) (trs) (ty0) (ty0r) (ty1) (ty1r) (ty2) (ty2r) (ty3) (ty3r) (ims) (im0) (im0v) (im1) (im1v) (imm) (sc) (scg) (sch) (ci) (cir) (cipa) (ciw) (tu) (tup) (tuq) (tuf) (tub) (gu) (guf) (tk) (tkk) (tkp) (tkv) (rd) (rdc) (hpa) (hh) (hob) (hot) (hoi0) (hoi1) (xtl) (xfk) (xfp) (xch) (nwd) (nwa) (bfd) (bfa) (trd) (tra) (his) (ty0s) (ty0z) (ty1s) (ty1z) (ty2s) (ty2z) (ty3s) (ty3z) (im0d) (im0a) (im1d) (im1a) ((u_1.2.1 2 0)) (tuo) (tut) (tus) (tul) (guo) (gup) (gus) (guz) (tkl) (tkz) (rda) (rdt) (rdf) (rdp) (rdz) (rdn) (tkt) (rto) (ftp) (nwfv) (bffv) (trfv) (ktr) (gty0) (gty1) (gty2) (gty3) (kim) (im0fv) (im1fv) (fimm) ((u_1.2.1 0)) ((u_1.2.1 1)) ((u_1.2.1 3)) (fcipa) ((u_1.2.1 4)) (ftup) (ftuq) (ftuf) (ftub) (fguf) (ftkk) (ftkp) (ftkv) (frdc) (vb) (hxtl) (rftp) (rnwfv) (rbffv) (rtrfv) (hhis) (hktr0) (hktr1) (hktr2) (hktr3) (hty0s) (hty0z) (hty1s) (hty1z) (hty2s) (hty2z) (hty3s) (hty3z) (hkim0) (hkim1) (rim0fv) (rim1fv) (w1_0) (w1_1) (htuo) (htut) (htul) (rftuq) (rftuf) (hguo) (hguz) (rfguf) (htkl) (htkz) (hrda) (hrdz) (hb_mono okvb hmono) (hmono _ HHhh) (hmono _ HHhob) (hmono _ HHhot) (hmono _ HHhoi0) (hmono _ HHhoi1) (rfl) (rfl) (rfl) (rfl) rfl rfl) (q_back h_1 hp rfl)
set_option maxHeartbeats 8000000 in
set_option maxRecDepth 100000 in
theorem mc_bar (l : Launch) {p : Program} {e : Env} {s : State} {m : MethodId} {below : List Frame} {meth : Method} {c : Code} {b : Nat} {Q : State → Prop} {D : va_G} {cy : Nat → ClassId} {H : Heap} {locs : List Loc} {ls : Array Slot} (X : qX p s m #[Value.ref b] c cL_law 4 RL) (hK : qK D cy s) (hT : qT cy (fun q => s.heap.size ≤ q) s) (hls : ls.size = 4) {m0 cells slots : Nat} {P wm : va_W} {a_1 : Int32} {a_2 : Int32} {gt : Int} {gb : Nat → Int} {gf : Int} {gp : Int} (hc0 : cells ≤ 26000) (hs0 : slots ≤ 5720000) (hM : MOK cy m0 wm gt gb gf gp) (h : qW D (fun q => s.heap.size ≤ q) s.heap (wm ++ P) H locs) (kk : ∀ (r : Int32) (H : Heap) (locs : List Loc) (w2 : va_W), MOK cy m0 w2 gt gb gf gp → qW D (fun q => s.heap.size ≤ q) s.heap (w2 ++ P) H locs → W p l e room_1 s m #[Value.ref b] below meth c H locs cells slots Q (F0 m 763 ls [.int r])) : W p l e room_1 s m #[Value.ref b] below meth c H locs cells slots Q (F0 m 760 ls [.int a_2, .int a_1, .ref m0]) := by
  have hA : ∀ q : Nat, s.heap.size ≤ q → (fun q => s.heap.size ≤ q) q := fun _ h => h
  refine hM _ ?_
  clear hM
  intros al hs mtp fr rec wds swd opd was par wth bwt met mtw_ mtf trn ism rso rmy nms mth mtd mat mbh msz mki mnu mwr mwa mfk mfp mrd mtw mx mbt mbw mtu nde fnl fnv fnp fnc fal fhs fmtp ffr frec fwds fswd fopd fwas fpar fwth fbwt fmet fmtw fmtf ftrn fism frso frmy gnms hmtd hmat hmbh hmsz hmnu hnde htal_84 rfal hfnl htfr_0 htfr_1 hfnp htfr_2 hfnc htfr_405 rfswd rfopd rfwas rfmet rfrmy eg0 eg1 eg2 eg3 hw_
  subst eg0
  subst eg1
  subst eg2
  subst eg3
  subst hw_
  refine q_callViF (rest := []) X hK hT hA h (fun sz => gX12_bar_0b47dc0 l D cy m0 al rec wds opd wth bwt a_1 a_2 mth (.ref hs) (.ref mtp) (.ref fr) mtd mat mbh msz mki mnu mwr mwa mfk mfp mrd (.ref swd) (.ref was) mtw mx (.ref par) mbt mbw (.ref met) (.ref mtw_) (.ref mtf) (.ref trn) (.ref ism) mtu (.ref rso) (.ref rmy) (.ref nms) fal nde frec fwds fopd fwth fbwt (i_rng _) (i_rng _) (i_rng _) hmtd hmat hmbh hmsz (i_rng _) hmnu (i_rng _) (i_rng _) (i_rng _) (i_rng _) (i_rng _) (i_rng _) (i_rng _) (i_rng _) (i_rng _) (i_rng _) hnde htal_84 rfal (rg_wide rfopd (by decide) (by decide)) sz) wm_7_120 wm_7_123 wm_1_12 hd_X12_bar wm_7_121 wm_7_122 (ci := 12) (q0 := 0) rfl rfl ⟨Nat.le_of_ble_eq_true rfl, Nat.le_of_ble_eq_true rfl⟩ hls rfl (Nat.le_of_ble_eq_true rfl) dL_law_760 ⟨show cells + 0 ≤ 600000 from Nat.le_trans (Nat.add_le_add_right hc0 0) (by decide), show slots + 0 ≤ 7302250 from Nat.le_trans (Nat.add_le_add_right hs0 0) (by decide)⟩ [0, 1, 5, 6, 8, 11, 12] rfl rfl (fun _ => rfl) (fun r_1 u_1 H locs w_1 h_1 => ?_)
  clear h
  obtain ⟨wr_1, w1_0, w1_1, w1_2, w1_3, _⟩ := w_1
  replace h_1 := q_pX (ix := [some 0, some 1, none, none, none, some 2, some 3, none, some 4, none, none, some 5, some 6, none, none, none, none, none, none, none, none]) h_1 rfl rfl (by decide +kernel) rfl (by decide +kernel)
  exact kk r_1 _ _ _ (fun _ k_ => k_ (al) (hs) (mtp) (fr) (rec) (wds) (swd) (opd) (was) (par) (wth) (bwt) (met) (mtw_) (mtf) (trn) (ism) (rso) (rmy) (nms) ((u_1.2.1 2 0)) (mtd) (mat) (mbh) (msz) (mki) (mnu) (mwr) (mwa) (mfk) (mfp) (mrd) (mtw) (mx) ((u_1.2.1 3 0)) ((u_1.2.1 4 0)) (mtu) (nde) (fnl) (fnv) (fnp) (fnc) (fal) (fhs) (fmtp) (ffr) ((u_1.2.1 0)) ((u_1.2.1 1)) (fswd) ((u_1.2.1 5)) (fwas) (fpar) ((u_1.2.1 6)) ((u_1.2.1 7)) (fmet) (fmtw) (fmtf) (ftrn) (fism) (frso) (frmy) (gnms) (hmtd) (hmat) (hmbh) (hmsz) (hmnu) (hnde) (htal_84) (rfal) (hfnl) (htfr_0) (htfr_1) (hfnp) (htfr_2) (hfnc) (htfr_405) (rfswd) (w1_3) (rfwas) (rfmet) (rfrmy) (rfl) (rfl) (rfl) (rfl) rfl) h_1
set_option maxHeartbeats 8000000 in
set_option maxRecDepth 100000 in
theorem lc_bar (l : Launch) {p : Program} {e : Env} {s : State} {m : MethodId} {below : List Frame} {meth : Method} {c : Code} {b : Nat} {xs : Nat → Int32} {Q : State → Prop} {D : va_G} {cy : Nat → ClassId} {H : Heap} {locs : List Loc} {ls : Array Slot} {x0 m0 L k cells slots : Nat} {i : Int32} {tl : Int} (X : qX p s m #[Value.ref b] c cL_law 4 RL) (hK : qK D cy s) (hT : qT cy (fun q => s.heap.size ≤ q) s) (hX : va_X b L xs s s.heap) (hbl : b < s.heap.size) (hi : 0 ≤ i.toInt ∧ i.toInt + 6 ≤ L ∧ L ≤ 3072) (hk : k < 512) (hcell : cells + tl.toNat ≤ 200 + 50 * k) (hslot : slots + 451 * tl.toNat ≤ 30000 + 11100 * k) (hl : lv_has ls 4 [(3, .int i), (2, .ref m0), (1, .ref x0), (0, .ref b)]) (hI : LInv cy D (fun q => s.heap.size ≤ q) s.heap x0 m0 H locs tl) (kk : ∀ (H : Heap) (locs : List Loc) (ls : Array Slot) (cells slots : Nat) (tl : Int), lv_has ls 4 [(3, .int i), (2, .ref m0), (1, .ref x0), (0, .ref b)] → LInv cy D (fun q => s.heap.size ≤ q) s.heap x0 m0 H locs tl → cells + tl.toNat ≤ 200 + 50 * (k + 1) → slots + 451 * tl.toNat ≤ 30000 + 11100 * (k + 1) → W p l e room_1 s m #[Value.ref b] below meth c H locs cells slots Q (F0 m 1459 ls [])) : W p l e room_1 s m #[Value.ref b] below meth c H locs cells slots Q (F0 m 734 ls []) := by
  obtain ⟨hx, hb, hml, hown, ht⟩ := id X
  have hA : ∀ q : Nat, s.heap.size ≤ q → (fun q => s.heap.size ≤ q) q := fun _ h => h
  have hbA : ¬ (fun q : Nat => s.heap.size ≤ q) b := Nat.not_le.mpr hbl
  have hc0 : cells ≤ 26000 := by omega
  have hs0 : slots ≤ 5720000 := by omega
  obtain ⟨gt, gb, gf, gp, wm, wx, pl, hMo, hXo, h⟩ := hI
  refine lv_aload_n hx hb dL_law_734 rfl (lv_at hl 2 rfl) ?_
  refine lv_aload_n hx hb dL_law_735 rfl (lv_at hl 3 rfl) ?_
  refine lv_iload_n hx hb dL_law_736 rfl (lv_at hl 0 rfl) ?_
  refine lv_iconst (v := 1) hx hb dL_law_737 (by decide) ?_
  refine lv_iadd hx hb dL_law_738 ?_
  obtain ⟨z_1, ez_1, hz_1⟩ := li_add hi 1 (n := 1) (by decide) (by decide) (by decide)
  refine q_c z_1 ez_1 ?_
  clear ez_1
  refine va_sld hx hb hX hbl hbA h.2.2 (li_in hi hz_1 (by decide) (by decide)) dL_law_739 ?_
  obtain ⟨x_1, ex_1, hx_1⟩ := e_any (xs (z_1).toNatClampNeg)
  refine q_c x_1 ex_1 ?_
  refine lv_aload_n hx hb dL_law_740 rfl (lv_at hl 3 rfl) ?_
  refine lv_iload_n hx hb dL_law_741 rfl (lv_at hl 0 rfl) ?_
  refine lv_iconst (v := 2) hx hb dL_law_742 (by decide) ?_
  refine lv_iadd hx hb dL_law_743 ?_
  obtain ⟨z_2, ez_2, hz_2⟩ := li_add hi 2 (n := 2) (by decide) (by decide) (by decide)
  refine q_c z_2 ez_2 ?_
  clear ez_2
  refine va_sld hx hb hX hbl hbA h.2.2 (li_in hi hz_2 (by decide) (by decide)) dL_law_744 ?_
  obtain ⟨x_2, ex_2, hx_2⟩ := e_any (xs (z_2).toNatClampNeg)
  refine q_c x_2 ex_2 ?_
  replace h := q_rotX h
  refine xc_bar l X hK hT hl.1 hc0 hs0 hXo h (fun r_3 H locs wx hXo h => ?_)
  refine lv_pop hx hb dL_law_748 rfl ?_
  refine lv_aload_n hx hb dL_law_749 rfl (lv_at hl 1 rfl) ?_
  refine lv_aload_n hx hb dL_law_750 rfl (lv_at hl 3 rfl) ?_
  refine lv_iload_n hx hb dL_law_751 rfl (lv_at hl 0 rfl) ?_
  refine lv_iconst (v := 1) hx hb dL_law_752 (by decide) ?_
  refine lv_iadd hx hb dL_law_753 ?_
  obtain ⟨z_4, ez_4, hz_4⟩ := li_add hi 1 (n := 1) (by decide) (by decide) (by decide)
  refine q_c z_4 ez_4 ?_
  clear ez_4
  refine va_sld hx hb hX hbl hbA h.2.2 (li_in hi hz_4 (by decide) (by decide)) dL_law_754 ?_
  refine q_c x_1 ((congrArg xs (cl_eq (x := z_4) (y := z_1) (hz_4.trans hz_1.symm))).trans ex_1) ?_
  refine lv_aload_n hx hb dL_law_755 rfl (lv_at hl 3 rfl) ?_
  refine lv_iload_n hx hb dL_law_756 rfl (lv_at hl 0 rfl) ?_
  refine lv_iconst (v := 2) hx hb dL_law_757 (by decide) ?_
  refine lv_iadd hx hb dL_law_758 ?_
  obtain ⟨z_5, ez_5, hz_5⟩ := li_add hi 2 (n := 2) (by decide) (by decide) (by decide)
  refine q_c z_5 ez_5 ?_
  clear ez_5
  refine va_sld hx hb hX hbl hbA h.2.2 (li_in hi hz_5 (by decide) (by decide)) dL_law_759 ?_
  refine q_c x_2 ((congrArg xs (cl_eq (x := z_5) (y := z_2) (hz_5.trans hz_2.symm))).trans ex_2) ?_
  replace h := q_rotM h
  refine mc_bar l X hK hT hl.1 hc0 hs0 hMo h (fun r_6 H locs wm hMo h => ?_)
  refine lv_pop hx hb dL_law_763 rfl ?_
  refine lv_goto (tgt := 1459) hx hb dL_law_764 (by decide) ?_
  exact kk _ _ _ cells slots tl (lv_sub hl [0, 1, 2, 3] rfl) ⟨_, _, _, _, _, _, _, hMo, hXo, h⟩ (li_c hcell) (li_s hslot)
set_option maxHeartbeats 8000000 in
set_option maxRecDepth 100000 in
theorem xc_pieces (l : Launch) {p : Program} {e : Env} {s : State} {m : MethodId} {below : List Frame} {meth : Method} {c : Code} {b : Nat} {Q : State → Prop} {D : va_G} {cy : Nat → ClassId} {H : Heap} {locs : List Loc} {ls : Array Slot} (X : qX p s m #[Value.ref b] c cL_law 4 RL) (hK : qK D cy s) (hT : qT cy (fun q => s.heap.size ≤ q) s) (hls : ls.size = 4) {x0 cells slots : Nat} {P pl wx : va_W} {tl : Int} {a_1 : Int32} {gt : Int} {gb : Nat → Int} {gf : Int} {gp : Int} (hc0 : cells ≤ 26000) (hs0 : slots ≤ 5720000) (hX : XOK cy x0 pl wx tl gt gb gf gp) (h : qW D (fun q => s.heap.size ≤ q) s.heap (wx ++ (pl ++ P)) H locs) (kk : ∀ (r : Int32) (H : Heap) (locs : List Loc) (w2 : va_W), XOK cy x0 pl w2 tl gt gb gf gp → qW D (fun q => s.heap.size ≤ q) s.heap (w2 ++ (pl ++ P)) H locs → W p l e room_1 s m #[Value.ref b] below meth c H locs cells slots Q (F0 m 776 ls [.int r])) : W p l e room_1 s m #[Value.ref b] below meth c H locs cells slots Q (F0 m 773 ls [.int a_1, .ref x0]) := by
  have hA : ∀ q : Nat, s.heap.size ≤ q → (fun q => s.heap.size ≤ q) q := fun _ h => h
  refine hX _ ?_
  clear hX
  intros tp nw nwv bf bfv tr trv hsy trs ty0 ty0r ty1 ty1r ty2 ty2r ty3 ty3r ims im0 im0v im1 im1v imm sc scg sch ci cir cipa ciw tu tup tuq tuf tub gu guf tk tkk tkp tkv rd rdc hpa hh hob hot hoi0 hoi1 xtl xfk xfp xch nwd nwa bfd bfa trd tra his ty0s ty0z ty1s ty1z ty2s ty2z ty3s ty3z im0d im0a im1d im1a cip tuo tut tus tul guo gup gus guz tkl tkz rda rdt rdf rdp rdz rdn tkt rto ftp nwfv bffv trfv ktr gty0 gty1 gty2 gty3 kim im0fv im1fv fimm fscg fsch fcir fcipa fciw ftup ftuq ftuf ftub fguf ftkk ftkp ftkv frdc vb hxtl rftp rnwfv rbffv rtrfv hhis hktr0 hktr1 hktr2 hktr3 hty0s hty0z hty1s hty1z hty2s hty2z hty3s hty3z hkim0 hkim1 rim0fv rim1fv hcip rfcir htuo htut htul rftuq rftuf hguo hguz rfguf htkl htkz hrda hrdz okvb HHhh HHhob HHhot HHhoi0 HHhoi1 eg0 eg1 eg2 eg3 htl hw_
  subst eg0
  subst eg1
  subst eg2
  subst eg3
  subst htl
  subst hw_
  have HX := HHhh
  obtain ⟨hv, ehv⟩ : ∃ hv : Nat → Prop, hv = HouseIn cy pl := ⟨_, rfl⟩
  rw [← ehv] at okvb HHhh HHhob HHhot HHhoi0 HHhoi1
  obtain ⟨hnl, hnp, hnt, hns, w4, w5, w6, hha, hhb, hhc, hhd, hhe, fha, fhb, fhc, fhd, fhe, L4, L5, L6, b1, b2, b3, l4, l5, l6, hm, hn⟩ := HX
  obtain ⟨r, hp⟩ := house_pick hm hn L4 ((List.sublist_append_left L4 L5).trans (List.sublist_append_left _ _))
  rcases l4 with ⟨rfl, rfl⟩ | ⟨la4, las4, n4, fs4, rfl, hn4, rfl⟩
  · skip
    replace h := q_open h hp
    refine q_callViF (rest := []) X hK hT hA h (fun sz => gX11_pieces_af0234d l D cy x0 nw hh nwv sc ci cir a_1 (.ref tp) xtl xfk xfp (.ref rd) (.ref bf) (.ref tr) (.ref hsy) (.ref trs) (.ref ims) (.ref imm) (.ref tu) (.ref gu) xch nwd nwa hnl hnp hnt hns w5 w6 (.ref hha) (.ref hhb) (.ref hhc) (.ref hhd) (.ref hhe) nwfv (.ref scg) (.ref sch) cip (.ref cipa) (.ref ciw) fcir (i_rng _) hxtl (i_rng _) (i_rng _) (i_rng _) (i_rng _) (i_rng _) b1 b2 (i_rng _) (i_rng _) hcip (rg_wide rnwfv (by decide) (by decide)) (rg_wide rfcir (by decide) (by decide)) sz) wm_4_203 wm_4_206 wm_1_1 hd_X11_pieces wm_4_204 wm_4_205 (ci := 11) (q0 := 0) rfl rfl ⟨Nat.le_of_ble_eq_true rfl, Nat.le_of_ble_eq_true rfl⟩ hls rfl (Nat.le_of_ble_eq_true rfl) dL_law_773 ⟨show cells + 0 ≤ 600000 from Nat.le_trans (Nat.add_le_add_right hc0 0) (by decide), show slots + 0 ≤ 7302250 from Nat.le_trans (Nat.add_le_add_right hs0 0) (by decide)⟩ [0, 2, 65, 3, 24, 27, 28] rfl rfl (fun _ => rfl) (fun r_1 u_1 H locs w_1 h_1 => ?_)
    clear h
    obtain ⟨wr_1, w1_0, w1_1, _⟩ := w_1
    replace h_1 := q_pX (ix := [some 0, none, some 1, some 3, none, none, none, none, none, none, none, none, none, none, none, none, none, none, none, none, none, none, none, none, some 4, none, none, some 5, some 6, none, none, none, none, none, none, none, none, none, none, none, none, none, none, none, none, none, none, none, none, none, none, none, none, none, none, none, none, none, none, none, none, none, none, none, none, some 2, none, none, none, none, none]) h_1 rfl rfl (by decide +kernel) rfl (by decide +kernel)
    have hmono : ∀ a, hv a → HouseIn cy pl a := fun a ha => by rw [ehv] at ha; exact ha
    exact kk r_1 _ _ _ (fun _ k_ => k_ (tp) (nw) (nwv) (bf) (bfv) (tr) (trv) (hsy) (trs) (ty0) (ty0r) (ty1) (ty1r) (ty2) (ty2r) (ty3) (ty3r) (ims) (im0) (im0v) (im1) (im1v) (imm) (sc) (scg) (sch) (ci) (cir) (cipa) (ciw) (tu) (tup) (tuq) (tuf) (tub) (gu) (guf) (tk) (tkk) (tkp) (tkv) (rd) (rdc) (hpa) (hh) (hob) (hot) (hoi0) (hoi1) (xtl) (xfk) (xfp) (xch) (nwd) (nwa) (bfd) (bfa) (trd) (tra) (his) (ty0s) (ty0z) (ty1s) (ty1z) (ty2s) (ty2z) (ty3s) (ty3z) (im0d) (im0a) (im1d) (im1a) ((u_1.2.1 0 0)) (tuo) (tut) (tus) (tul) (guo) (gup) (gus) (guz) (tkl) (tkz) (rda) (rdt) (rdf) (rdp) (rdz) (rdn) (tkt) (rto) (ftp) (nwfv) (bffv) (trfv) (ktr) (gty0) (gty1) (gty2) (gty3) (kim) (im0fv) (im1fv) (fimm) (fscg) (fsch) ((u_1.2.1 1)) (fcipa) (fciw) (ftup) (ftuq) (ftuf) (ftub) (fguf) (ftkk) (ftkp) (ftkv) (frdc) (vb) (hxtl) (rftp) (rnwfv) (rbffv) (rtrfv) (hhis) (hktr0) (hktr1) (hktr2) (hktr3) (hty0s) (hty0z) (hty1s) (hty1z) (hty2s) (hty2z) (hty3s) (hty3z) (hkim0) (hkim1) (rim0fv) (rim1fv) (w1_0) (w1_1) (htuo) (htut) (htul) (rftuq) (rftuf) (hguo) (hguz) (rfguf) (htkl) (htkz) (hrda) (hrdz) (hb_mono okvb hmono) (hmono _ HHhh) (hmono _ HHhob) (hmono _ HHhot) (hmono _ HHhoi0) (hmono _ HHhoi1) (rfl) (rfl) (rfl) (rfl) rfl rfl) (q_back h_1 hp rfl)
  · skip
    replace h := q_open h hp
    refine q_callViF (rest := []) X hK hT hA h (fun sz => gX11_pieces_f9eae0f l D cy x0 nw hh la4 las4 nwv sc scg sch ci cir a_1 (.ref tp) xtl xfk xfp (.ref rd) (.ref bf) (.ref tr) (.ref hsy) (.ref trs) (.ref ims) (.ref imm) (.ref tu) (.ref gu) xch nwd nwa hnl hnp hnt hns w5 w6 (.ref hha) (.ref hhb) (.ref hhc) (.ref hhd) (.ref hhe) n4 fs4 nwfv fscg fsch cip (.ref cipa) (.ref ciw) fcir (i_rng _) hxtl (i_rng _) (i_rng _) (i_rng _) (i_rng _) (i_rng _) b1 b2 (i_rng _) (i_rng _) (by omega) hcip (rg_wide rnwfv (by decide) (by decide)) (rg_wide rfcir (by decide) (by decide)) sz) wm_4_203 wm_4_206 wm_1_1 hd_X11_pieces wm_4_204 wm_4_205 (ci := 11) (q0 := 0) rfl rfl ⟨Nat.le_of_ble_eq_true rfl, Nat.le_of_ble_eq_true rfl⟩ hls rfl (Nat.le_of_ble_eq_true rfl) dL_law_773 ⟨show cells + 0 ≤ 600000 from Nat.le_trans (Nat.add_le_add_right hc0 0) (by decide), show slots + 0 ≤ 7302250 from Nat.le_trans (Nat.add_le_add_right hs0 0) (by decide)⟩ [0, 2, 65, 71, 72, 3, 24, 25, 26, 27, 28] rfl rfl (fun _ => rfl) (fun r_1 u_1 H locs w_1 h_1 => ?_)
    clear h
    obtain ⟨wr_1, w1_0, w1_1, _⟩ := w_1
    replace h_1 := q_pX (ix := [some 0, none, some 1, some 5, none, none, none, none, none, none, none, none, none, none, none, none, none, none, none, none, none, none, none, none, some 6, some 7, some 8, some 9, some 10, none, none, none, none, none, none, none, none, none, none, none, none, none, none, none, none, none, none, none, none, none, none, none, none, none, none, none, none, none, none, none, none, none, none, none, none, some 2, none, none, none, none, none, some 3, some 4]) h_1 rfl rfl (by decide +kernel) rfl (by decide +kernel)
    have hmono : ∀ a, hv a → HouseIn cy pl a := fun a ha => by rw [ehv] at ha; exact ha
    exact kk r_1 _ _ _ (fun _ k_ => k_ (tp) (nw) (nwv) (bf) (bfv) (tr) (trv) (hsy) (trs) (ty0) (ty0r) (ty1) (ty1r) (ty2) (ty2r) (ty3) (ty3r) (ims) (im0) (im0v) (im1) (im1v) (imm) (sc) (scg) (sch) (ci) (cir) (cipa) (ciw) (tu) (tup) (tuq) (tuf) (tub) (gu) (guf) (tk) (tkk) (tkp) (tkv) (rd) (rdc) (hpa) (hh) (hob) (hot) (hoi0) (hoi1) (xtl) (xfk) (xfp) (xch) (nwd) (nwa) (bfd) (bfa) (trd) (tra) (his) (ty0s) (ty0z) (ty1s) (ty1z) (ty2s) (ty2z) (ty3s) (ty3z) (im0d) (im0a) (im1d) (im1a) ((u_1.2.1 2 0)) (tuo) (tut) (tus) (tul) (guo) (gup) (gus) (guz) (tkl) (tkz) (rda) (rdt) (rdf) (rdp) (rdz) (rdn) (tkt) (rto) (ftp) (nwfv) (bffv) (trfv) (ktr) (gty0) (gty1) (gty2) (gty3) (kim) (im0fv) (im1fv) (fimm) ((u_1.2.1 0)) ((u_1.2.1 1)) ((u_1.2.1 3)) (fcipa) (fciw) (ftup) (ftuq) (ftuf) (ftub) (fguf) (ftkk) (ftkp) (ftkv) (frdc) (vb) (hxtl) (rftp) (rnwfv) (rbffv) (rtrfv) (hhis) (hktr0) (hktr1) (hktr2) (hktr3) (hty0s) (hty0z) (hty1s) (hty1z) (hty2s) (hty2z) (hty3s) (hty3z) (hkim0) (hkim1) (rim0fv) (rim1fv) (w1_0) (w1_1) (htuo) (htut) (htul) (rftuq) (rftuf) (hguo) (hguz) (rfguf) (htkl) (htkz) (hrda) (hrdz) (hb_mono okvb hmono) (hmono _ HHhh) (hmono _ HHhob) (hmono _ HHhot) (hmono _ HHhoi0) (hmono _ HHhoi1) (rfl) (rfl) (rfl) (rfl) rfl rfl) (q_back h_1 hp rfl)
set_option maxHeartbeats 8000000 in
set_option maxRecDepth 100000 in
theorem mc_pieces (l : Launch) {p : Program} {e : Env} {s : State} {m : MethodId} {below : List Frame} {meth : Method} {c : Code} {b : Nat} {Q : State → Prop} {D : va_G} {cy : Nat → ClassId} {H : Heap} {locs : List Loc} {ls : Array Slot} (X : qX p s m #[Value.ref b] c cL_law 4 RL) (hK : qK D cy s) (hT : qT cy (fun q => s.heap.size ≤ q) s) (hls : ls.size = 4) {m0 cells slots : Nat} {P wm : va_W} {a_1 : Int32} {gt : Int} {gb : Nat → Int} {gf : Int} {gp : Int} (hc0 : cells ≤ 26000) (hs0 : slots ≤ 5720000) (hM : MOK cy m0 wm gt gb gf gp) (h : qW D (fun q => s.heap.size ≤ q) s.heap (wm ++ P) H locs) (kk : ∀ (r : Int32) (H : Heap) (locs : List Loc) (w2 : va_W), MOK cy m0 w2 gt gb gf gp → qW D (fun q => s.heap.size ≤ q) s.heap (w2 ++ P) H locs → W p l e room_1 s m #[Value.ref b] below meth c H locs cells slots Q (F0 m 786 ls [.int r])) : W p l e room_1 s m #[Value.ref b] below meth c H locs cells slots Q (F0 m 783 ls [.int a_1, .ref m0]) := by
  have hA : ∀ q : Nat, s.heap.size ≤ q → (fun q => s.heap.size ≤ q) q := fun _ h => h
  refine hM _ ?_
  clear hM
  intros al hs mtp fr rec wds swd opd was par wth bwt met mtw_ mtf trn ism rso rmy nms mth mtd mat mbh msz mki mnu mwr mwa mfk mfp mrd mtw mx mbt mbw mtu nde fnl fnv fnp fnc fal fhs fmtp ffr frec fwds fswd fopd fwas fpar fwth fbwt fmet fmtw fmtf ftrn fism frso frmy gnms hmtd hmat hmbh hmsz hmnu hnde htal_84 rfal hfnl htfr_0 htfr_1 hfnp htfr_2 hfnc htfr_405 rfswd rfopd rfwas rfmet rfrmy eg0 eg1 eg2 eg3 hw_
  subst eg0
  subst eg1
  subst eg2
  subst eg3
  subst hw_
  refine q_callViF (rest := []) X hK hT hA h (fun sz => gX12_pieces_6657e86 l D cy m0 al rec wds opd a_1 mth (.ref hs) (.ref mtp) (.ref fr) mtd mat mbh msz mki mnu mwr mwa mfk mfp mrd (.ref swd) (.ref was) mtw mx (.ref par) (.ref wth) (.ref bwt) mbt mbw (.ref met) (.ref mtw_) (.ref mtf) (.ref trn) (.ref ism) mtu (.ref rso) (.ref rmy) (.ref nms) fal nde frec fwds fopd (i_rng _) (i_rng _) hmtd hmat hmbh hmsz (i_rng _) hmnu (i_rng _) (i_rng _) (i_rng _) (i_rng _) (i_rng _) (i_rng _) (i_rng _) (i_rng _) (i_rng _) (i_rng _) hnde htal_84 rfal (rg_wide rfopd (by decide) (by decide)) sz) wm_7_132 wm_7_135 wm_1_12 hd_X12_pieces wm_7_133 wm_7_134 (ci := 12) (q0 := 0) rfl rfl ⟨Nat.le_of_ble_eq_true rfl, Nat.le_of_ble_eq_true rfl⟩ hls rfl (Nat.le_of_ble_eq_true rfl) dL_law_783 ⟨show cells + 0 ≤ 600000 from Nat.le_trans (Nat.add_le_add_right hc0 0) (by decide), show slots + 0 ≤ 7302250 from Nat.le_trans (Nat.add_le_add_right hs0 0) (by decide)⟩ [0, 1, 5, 6, 8] rfl rfl (fun _ => rfl) (fun r_1 u_1 H locs w_1 h_1 => ?_)
  clear h
  obtain ⟨wr_1, w1_0, w1_1, _⟩ := w_1
  exact kk r_1 _ _ _ (fun _ k_ => k_ (al) (hs) (mtp) (fr) (rec) (wds) (swd) (opd) (was) (par) (wth) (bwt) (met) (mtw_) (mtf) (trn) (ism) (rso) (rmy) (nms) ((u_1.2.1 2 0)) (mtd) (mat) (mbh) (msz) (mki) (mnu) (mwr) (mwa) (mfk) (mfp) (mrd) (mtw) (mx) (mbt) (mbw) (mtu) (nde) (fnl) (fnv) (fnp) (fnc) (fal) (fhs) (fmtp) (ffr) ((u_1.2.1 0)) ((u_1.2.1 1)) (fswd) ((u_1.2.1 3)) (fwas) (fpar) (fwth) (fbwt) (fmet) (fmtw) (fmtf) (ftrn) (fism) (frso) (frmy) (gnms) (hmtd) (hmat) (hmbh) (hmsz) (hmnu) (hnde) (htal_84) (rfal) (hfnl) (htfr_0) (htfr_1) (hfnp) (htfr_2) (hfnc) (htfr_405) (rfswd) (w1_1) (rfwas) (rfmet) (rfrmy) (rfl) (rfl) (rfl) (rfl) rfl) h_1
set_option maxHeartbeats 8000000 in
set_option maxRecDepth 100000 in
theorem lc_pieces (l : Launch) {p : Program} {e : Env} {s : State} {m : MethodId} {below : List Frame} {meth : Method} {c : Code} {b : Nat} {xs : Nat → Int32} {Q : State → Prop} {D : va_G} {cy : Nat → ClassId} {H : Heap} {locs : List Loc} {ls : Array Slot} {x0 m0 L k cells slots : Nat} {i : Int32} {tl : Int} (X : qX p s m #[Value.ref b] c cL_law 4 RL) (hK : qK D cy s) (hT : qT cy (fun q => s.heap.size ≤ q) s) (hX : va_X b L xs s s.heap) (hbl : b < s.heap.size) (hi : 0 ≤ i.toInt ∧ i.toInt + 6 ≤ L ∧ L ≤ 3072) (hk : k < 512) (hcell : cells + tl.toNat ≤ 200 + 50 * k) (hslot : slots + 451 * tl.toNat ≤ 30000 + 11100 * k) (hl : lv_has ls 4 [(3, .int i), (2, .ref m0), (1, .ref x0), (0, .ref b)]) (hI : LInv cy D (fun q => s.heap.size ≤ q) s.heap x0 m0 H locs tl) (kk : ∀ (H : Heap) (locs : List Loc) (ls : Array Slot) (cells slots : Nat) (tl : Int), lv_has ls 4 [(3, .int i), (2, .ref m0), (1, .ref x0), (0, .ref b)] → LInv cy D (fun q => s.heap.size ≤ q) s.heap x0 m0 H locs tl → cells + tl.toNat ≤ 200 + 50 * (k + 1) → slots + 451 * tl.toNat ≤ 30000 + 11100 * (k + 1) → W p l e room_1 s m #[Value.ref b] below meth c H locs cells slots Q (F0 m 1459 ls [])) : W p l e room_1 s m #[Value.ref b] below meth c H locs cells slots Q (F0 m 767 ls []) := by
  obtain ⟨hx, hb, hml, hown, ht⟩ := id X
  have hA : ∀ q : Nat, s.heap.size ≤ q → (fun q => s.heap.size ≤ q) q := fun _ h => h
  have hbA : ¬ (fun q : Nat => s.heap.size ≤ q) b := Nat.not_le.mpr hbl
  have hc0 : cells ≤ 26000 := by omega
  have hs0 : slots ≤ 5720000 := by omega
  obtain ⟨gt, gb, gf, gp, wm, wx, pl, hMo, hXo, h⟩ := hI
  refine lv_aload_n hx hb dL_law_767 rfl (lv_at hl 2 rfl) ?_
  refine lv_aload_n hx hb dL_law_768 rfl (lv_at hl 3 rfl) ?_
  refine lv_iload_n hx hb dL_law_769 rfl (lv_at hl 0 rfl) ?_
  refine lv_iconst (v := 1) hx hb dL_law_770 (by decide) ?_
  refine lv_iadd hx hb dL_law_771 ?_
  obtain ⟨z_1, ez_1, hz_1⟩ := li_add hi 1 (n := 1) (by decide) (by decide) (by decide)
  refine q_c z_1 ez_1 ?_
  clear ez_1
  refine va_sld hx hb hX hbl hbA h.2.2 (li_in hi hz_1 (by decide) (by decide)) dL_law_772 ?_
  obtain ⟨x_1, ex_1, hx_1⟩ := e_any (xs (z_1).toNatClampNeg)
  refine q_c x_1 ex_1 ?_
  replace h := q_rotX h
  refine xc_pieces l X hK hT hl.1 hc0 hs0 hXo h (fun r_2 H locs wx hXo h => ?_)
  refine lv_pop hx hb dL_law_776 rfl ?_
  refine lv_aload_n hx hb dL_law_777 rfl (lv_at hl 1 rfl) ?_
  refine lv_aload_n hx hb dL_law_778 rfl (lv_at hl 3 rfl) ?_
  refine lv_iload_n hx hb dL_law_779 rfl (lv_at hl 0 rfl) ?_
  refine lv_iconst (v := 1) hx hb dL_law_780 (by decide) ?_
  refine lv_iadd hx hb dL_law_781 ?_
  obtain ⟨z_3, ez_3, hz_3⟩ := li_add hi 1 (n := 1) (by decide) (by decide) (by decide)
  refine q_c z_3 ez_3 ?_
  clear ez_3
  refine va_sld hx hb hX hbl hbA h.2.2 (li_in hi hz_3 (by decide) (by decide)) dL_law_782 ?_
  refine q_c x_1 ((congrArg xs (cl_eq (x := z_3) (y := z_1) (hz_3.trans hz_1.symm))).trans ex_1) ?_
  replace h := q_rotM h
  refine mc_pieces l X hK hT hl.1 hc0 hs0 hMo h (fun r_4 H locs wm hMo h => ?_)
  refine lv_pop hx hb dL_law_786 rfl ?_
  refine lv_goto (tgt := 1459) hx hb dL_law_787 (by decide) ?_
  exact kk _ _ _ cells slots tl (lv_sub hl [0, 1, 2, 3] rfl) ⟨_, _, _, _, _, _, _, hMo, hXo, h⟩ (li_c hcell) (li_s hslot)
set_option maxHeartbeats 8000000 in
set_option maxRecDepth 100000 in
theorem xc_bestDay (l : Launch) {p : Program} {e : Env} {s : State} {m : MethodId} {below : List Frame} {meth : Method} {c : Code} {b : Nat} {Q : State → Prop} {D : va_G} {cy : Nat → ClassId} {H : Heap} {locs : List Loc} {ls : Array Slot} (X : qX p s m #[Value.ref b] c cL_law 4 RL) (hK : qK D cy s) (hT : qT cy (fun q => s.heap.size ≤ q) s) (hls : ls.size = 4) {x0 cells slots : Nat} {P pl wx : va_W} {tl : Int}  {gt : Int} {gb : Nat → Int} {gf : Int} {gp : Int} (hc0 : cells ≤ 26000) (hs0 : slots ≤ 5720000) (hX : XOK cy x0 pl wx tl gt gb gf gp) (h : qW D (fun q => s.heap.size ≤ q) s.heap (wx ++ (pl ++ P)) H locs) (kk : ∀ (r : Int32) (H : Heap) (locs : List Loc) (w2 : va_W), XOK cy x0 pl w2 tl gt gb gf gp → qW D (fun q => s.heap.size ≤ q) s.heap (w2 ++ (pl ++ P)) H locs → W p l e room_1 s m #[Value.ref b] below meth c H locs cells slots Q (F0 m 794 ls [.int r])) : W p l e room_1 s m #[Value.ref b] below meth c H locs cells slots Q (F0 m 791 ls [.ref x0]) := by
  have hA : ∀ q : Nat, s.heap.size ≤ q → (fun q => s.heap.size ≤ q) q := fun _ h => h
  refine hX _ ?_
  clear hX
  intros tp nw nwv bf bfv tr trv hsy trs ty0 ty0r ty1 ty1r ty2 ty2r ty3 ty3r ims im0 im0v im1 im1v imm sc scg sch ci cir cipa ciw tu tup tuq tuf tub gu guf tk tkk tkp tkv rd rdc hpa hh hob hot hoi0 hoi1 xtl xfk xfp xch nwd nwa bfd bfa trd tra his ty0s ty0z ty1s ty1z ty2s ty2z ty3s ty3z im0d im0a im1d im1a cip tuo tut tus tul guo gup gus guz tkl tkz rda rdt rdf rdp rdz rdn tkt rto ftp nwfv bffv trfv ktr gty0 gty1 gty2 gty3 kim im0fv im1fv fimm fscg fsch fcir fcipa fciw ftup ftuq ftuf ftub fguf ftkk ftkp ftkv frdc vb hxtl rftp rnwfv rbffv rtrfv hhis hktr0 hktr1 hktr2 hktr3 hty0s hty0z hty1s hty1z hty2s hty2z hty3s hty3z hkim0 hkim1 rim0fv rim1fv hcip rfcir htuo htut htul rftuq rftuf hguo hguz rfguf htkl htkz hrda hrdz okvb HHhh HHhob HHhot HHhoi0 HHhoi1 eg0 eg1 eg2 eg3 htl hw_
  subst eg0
  subst eg1
  subst eg2
  subst eg3
  subst htl
  subst hw_
  have HX := HHhh
  obtain ⟨hv, ehv⟩ : ∃ hv : Nat → Prop, hv = HouseIn cy pl := ⟨_, rfl⟩
  rw [← ehv] at okvb HHhh HHhob HHhot HHhoi0 HHhoi1
  obtain ⟨hnl, hnp, hnt, hns, w4, w5, w6, hha, hhb, hhc, hhd, hhe, fha, fhb, fhc, fhd, fhe, L4, L5, L6, b1, b2, b3, l4, l5, l6, hm, hn⟩ := HX
  obtain ⟨r, hp⟩ := house_pick hm hn L4 ((List.sublist_append_left L4 L5).trans (List.sublist_append_left _ _))
  rcases l4 with ⟨rfl, rfl⟩ | ⟨la4, las4, n4, fs4, rfl, hn4, rfl⟩
  · skip
    replace h := q_open h hp
    refine q_callViF (rest := []) X hK hT hA h (fun sz => gX11_bestDay_b927a09 l D cy x0 nw hh hhb hhc hhe nwv sc ci cir ciw (.ref tp) xtl xfk xfp (.ref rd) (.ref bf) (.ref tr) (.ref hsy) (.ref trs) (.ref ims) (.ref imm) (.ref tu) (.ref gu) xch nwd nwa hnl hnp hnt hns w5 w6 (.ref hha) (.ref hhd) fhb fhc fhe nwfv (.ref scg) (.ref sch) cip (.ref cipa) fcir fciw hxtl (i_rng _) (i_rng _) (i_rng _) (i_rng _) (i_rng _) b1 b2 (i_rng _) (i_rng _) hcip (rg_wide rnwfv (by decide) (by decide)) (rg_wide rfcir (by decide) (by decide)) sz) wm_4_208 wm_4_211 wm_1_1 hd_X11_bestDay wm_4_209 wm_4_210 (ci := 11) (q0 := 0) rfl rfl ⟨Nat.le_of_ble_eq_true rfl, Nat.le_of_ble_eq_true rfl⟩ hls rfl (Nat.le_of_ble_eq_true rfl) dL_law_791 ⟨show cells + 0 ≤ 600000 from Nat.le_trans (Nat.add_le_add_right hc0 0) (by decide), show slots + 0 ≤ 7302250 from Nat.le_trans (Nat.add_le_add_right hs0 0) (by decide)⟩ [0, 2, 65, 67, 68, 70, 3, 24, 27, 28, 30] rfl rfl (fun _ => rfl) (fun r_1 u_1 H locs w_1 h_1 => ?_)
    clear h
    obtain ⟨wr_1, w1_0, w1_1, _⟩ := w_1
    replace h_1 := q_pX (ix := [some 0, none, some 1, some 6, none, none, none, none, none, none, none, none, none, none, none, none, none, none, none, none, none, none, none, none, some 7, none, none, some 8, some 9, none, some 10, none, none, none, none, none, none, none, none, none, none, none, none, none, none, none, none, none, none, none, none, none, none, none, none, none, none, none, none, none, none, none, none, none, none, some 2, none, some 3, some 4, none, some 5]) h_1 rfl rfl (by decide +kernel) rfl (by decide +kernel)
    have hmono : ∀ a, hv a → HouseIn cy pl a := fun a ha => by rw [ehv] at ha; exact ha
    exact kk r_1 _ _ _ (fun _ k_ => k_ (tp) (nw) (nwv) (bf) (bfv) (tr) (trv) (hsy) (trs) (ty0) (ty0r) (ty1) (ty1r) (ty2) (ty2r) (ty3) (ty3r) (ims) (im0) (im0v) (im1) (im1v) (imm) (sc) (scg) (sch) (ci) (cir) (cipa) (ciw) (tu) (tup) (tuq) (tuf) (tub) (gu) (guf) (tk) (tkk) (tkp) (tkv) (rd) (rdc) (hpa) (hh) (hob) (hot) (hoi0) (hoi1) (xtl) (xfk) (xfp) (xch) (nwd) (nwa) (bfd) (bfa) (trd) (tra) (his) (ty0s) (ty0z) (ty1s) (ty1z) (ty2s) (ty2z) (ty3s) (ty3z) (im0d) (im0a) (im1d) (im1a) ((u_1.2.1 0 0)) (tuo) (tut) (tus) (tul) (guo) (gup) (gus) (guz) (tkl) (tkz) (rda) (rdt) (rdf) (rdp) (rdz) (rdn) (tkt) (rto) (ftp) (nwfv) (bffv) (trfv) (ktr) (gty0) (gty1) (gty2) (gty3) (kim) (im0fv) (im1fv) (fimm) (fscg) (fsch) ((u_1.2.1 1)) (fcipa) ((u_1.2.1 2)) (ftup) (ftuq) (ftuf) (ftub) (fguf) (ftkk) (ftkp) (ftkv) (frdc) (vb) (hxtl) (rftp) (rnwfv) (rbffv) (rtrfv) (hhis) (hktr0) (hktr1) (hktr2) (hktr3) (hty0s) (hty0z) (hty1s) (hty1z) (hty2s) (hty2z) (hty3s) (hty3z) (hkim0) (hkim1) (rim0fv) (rim1fv) (w1_0) (w1_1) (htuo) (htut) (htul) (rftuq) (rftuf) (hguo) (hguz) (rfguf) (htkl) (htkz) (hrda) (hrdz) (hb_mono okvb hmono) (hmono _ HHhh) (hmono _ HHhob) (hmono _ HHhot) (hmono _ HHhoi0) (hmono _ HHhoi1) (rfl) (rfl) (rfl) (rfl) rfl rfl) (q_back h_1 hp rfl)
  · skip
    replace h := q_open h hp
    refine q_callViF (rest := []) X hK hT hA h (fun sz => gX11_bestDay_92c433d l D cy x0 nw hh la4 las4 hhb hhc hhe nwv sc scg sch ci cir ciw (.ref tp) xtl xfk xfp (.ref rd) (.ref bf) (.ref tr) (.ref hsy) (.ref trs) (.ref ims) (.ref imm) (.ref tu) (.ref gu) xch nwd nwa hnl hnp hnt hns w5 w6 (.ref hha) (.ref hhd) n4 fs4 fhb fhc fhe nwfv fscg fsch cip (.ref cipa) fcir fciw hxtl (i_rng _) (i_rng _) (i_rng _) (i_rng _) (i_rng _) b1 b2 (i_rng _) (i_rng _) (by omega) hcip (rg_wide rnwfv (by decide) (by decide)) (rg_wide rfcir (by decide) (by decide)) sz) wm_4_208 wm_4_211 wm_1_1 hd_X11_bestDay wm_4_209 wm_4_210 (ci := 11) (q0 := 0) rfl rfl ⟨Nat.le_of_ble_eq_true rfl, Nat.le_of_ble_eq_true rfl⟩ hls rfl (Nat.le_of_ble_eq_true rfl) dL_law_791 ⟨show cells + 0 ≤ 600000 from Nat.le_trans (Nat.add_le_add_right hc0 0) (by decide), show slots + 0 ≤ 7302250 from Nat.le_trans (Nat.add_le_add_right hs0 0) (by decide)⟩ [0, 2, 65, 71, 72, 67, 68, 70, 3, 24, 25, 26, 27, 28, 30] rfl rfl (fun _ => rfl) (fun r_1 u_1 H locs w_1 h_1 => ?_)
    clear h
    obtain ⟨wr_1, w1_0, w1_1, _⟩ := w_1
    replace h_1 := q_pX (ix := [some 0, none, some 1, some 8, none, none, none, none, none, none, none, none, none, none, none, none, none, none, none, none, none, none, none, none, some 9, some 10, some 11, some 12, some 13, none, some 14, none, none, none, none, none, none, none, none, none, none, none, none, none, none, none, none, none, none, none, none, none, none, none, none, none, none, none, none, none, none, none, none, none, none, some 2, none, some 5, some 6, none, some 7, some 3, some 4]) h_1 rfl rfl (by decide +kernel) rfl (by decide +kernel)
    have hmono : ∀ a, hv a → HouseIn cy pl a := fun a ha => by rw [ehv] at ha; exact ha
    exact kk r_1 _ _ _ (fun _ k_ => k_ (tp) (nw) (nwv) (bf) (bfv) (tr) (trv) (hsy) (trs) (ty0) (ty0r) (ty1) (ty1r) (ty2) (ty2r) (ty3) (ty3r) (ims) (im0) (im0v) (im1) (im1v) (imm) (sc) (scg) (sch) (ci) (cir) (cipa) (ciw) (tu) (tup) (tuq) (tuf) (tub) (gu) (guf) (tk) (tkk) (tkp) (tkv) (rd) (rdc) (hpa) (hh) (hob) (hot) (hoi0) (hoi1) (xtl) (xfk) (xfp) (xch) (nwd) (nwa) (bfd) (bfa) (trd) (tra) (his) (ty0s) (ty0z) (ty1s) (ty1z) (ty2s) (ty2z) (ty3s) (ty3z) (im0d) (im0a) (im1d) (im1a) ((u_1.2.1 2 0)) (tuo) (tut) (tus) (tul) (guo) (gup) (gus) (guz) (tkl) (tkz) (rda) (rdt) (rdf) (rdp) (rdz) (rdn) (tkt) (rto) (ftp) (nwfv) (bffv) (trfv) (ktr) (gty0) (gty1) (gty2) (gty3) (kim) (im0fv) (im1fv) (fimm) ((u_1.2.1 0)) ((u_1.2.1 1)) ((u_1.2.1 3)) (fcipa) ((u_1.2.1 4)) (ftup) (ftuq) (ftuf) (ftub) (fguf) (ftkk) (ftkp) (ftkv) (frdc) (vb) (hxtl) (rftp) (rnwfv) (rbffv) (rtrfv) (hhis) (hktr0) (hktr1) (hktr2) (hktr3) (hty0s) (hty0z) (hty1s) (hty1z) (hty2s) (hty2z) (hty3s) (hty3z) (hkim0) (hkim1) (rim0fv) (rim1fv) (w1_0) (w1_1) (htuo) (htut) (htul) (rftuq) (rftuf) (hguo) (hguz) (rfguf) (htkl) (htkz) (hrda) (hrdz) (hb_mono okvb hmono) (hmono _ HHhh) (hmono _ HHhob) (hmono _ HHhot) (hmono _ HHhoi0) (hmono _ HHhoi1) (rfl) (rfl) (rfl) (rfl) rfl rfl) (q_back h_1 hp rfl)
set_option maxHeartbeats 8000000 in
set_option maxRecDepth 100000 in
theorem mc_bestDay (l : Launch) {p : Program} {e : Env} {s : State} {m : MethodId} {below : List Frame} {meth : Method} {c : Code} {b : Nat} {Q : State → Prop} {D : va_G} {cy : Nat → ClassId} {H : Heap} {locs : List Loc} {ls : Array Slot} (X : qX p s m #[Value.ref b] c cL_law 4 RL) (hK : qK D cy s) (hT : qT cy (fun q => s.heap.size ≤ q) s) (hls : ls.size = 4) {m0 cells slots : Nat} {P wm : va_W}  {gt : Int} {gb : Nat → Int} {gf : Int} {gp : Int} (hc0 : cells ≤ 26000) (hs0 : slots ≤ 5720000) (hM : MOK cy m0 wm gt gb gf gp) (h : qW D (fun q => s.heap.size ≤ q) s.heap (wm ++ P) H locs) (kk : ∀ (r : Int32) (H : Heap) (locs : List Loc) (w2 : va_W), MOK cy m0 w2 gt gb gf gp → qW D (fun q => s.heap.size ≤ q) s.heap (w2 ++ P) H locs → W p l e room_1 s m #[Value.ref b] below meth c H locs cells slots Q (F0 m 799 ls [.int r])) : W p l e room_1 s m #[Value.ref b] below meth c H locs cells slots Q (F0 m 796 ls [.ref m0]) := by
  have hA : ∀ q : Nat, s.heap.size ≤ q → (fun q => s.heap.size ≤ q) q := fun _ h => h
  refine hM _ ?_
  clear hM
  intros al hs mtp fr rec wds swd opd was par wth bwt met mtw_ mtf trn ism rso rmy nms mth mtd mat mbh msz mki mnu mwr mwa mfk mfp mrd mtw mx mbt mbw mtu nde fnl fnv fnp fnc fal fhs fmtp ffr frec fwds fswd fopd fwas fpar fwth fbwt fmet fmtw fmtf ftrn fism frso frmy gnms hmtd hmat hmbh hmsz hmnu hnde htal_84 rfal hfnl htfr_0 htfr_1 hfnp htfr_2 hfnc htfr_405 rfswd rfopd rfwas rfmet rfrmy eg0 eg1 eg2 eg3 hw_
  subst eg0
  subst eg1
  subst eg2
  subst eg3
  subst hw_
  refine q_callViF (rest := []) X hK hT hA h (fun sz => gX12_bestDay_00ade85 l D cy m0 al rec wds opd wth bwt mth (.ref hs) (.ref mtp) (.ref fr) mtd mat mbh msz mki mnu mwr mwa mfk mfp mrd (.ref swd) (.ref was) mtw mx (.ref par) mbt mbw (.ref met) (.ref mtw_) (.ref mtf) (.ref trn) (.ref ism) mtu (.ref rso) (.ref rmy) (.ref nms) fal nde frec fwds fopd fwth fbwt (i_rng _) hmtd hmat hmbh hmsz (i_rng _) hmnu (i_rng _) (i_rng _) (i_rng _) (i_rng _) (i_rng _) (i_rng _) (i_rng _) (i_rng _) (i_rng _) (i_rng _) hnde htal_84 rfal (rg_wide rfopd (by decide) (by decide)) sz) wm_7_136 wm_7_139 wm_1_12 hd_X12_bestDay wm_7_137 wm_7_138 (ci := 12) (q0 := 0) rfl rfl ⟨Nat.le_of_ble_eq_true rfl, Nat.le_of_ble_eq_true rfl⟩ hls rfl (Nat.le_of_ble_eq_true rfl) dL_law_796 ⟨show cells + 0 ≤ 600000 from Nat.le_trans (Nat.add_le_add_right hc0 0) (by decide), show slots + 0 ≤ 7302250 from Nat.le_trans (Nat.add_le_add_right hs0 0) (by decide)⟩ [0, 1, 5, 6, 8, 11, 12] rfl rfl (fun _ => rfl) (fun r_1 u_1 H locs w_1 h_1 => ?_)
  clear h
  obtain ⟨wr_1, w1_0, w1_1, w1_2, w1_3, _⟩ := w_1
  replace h_1 := q_pX (ix := [some 0, some 1, none, none, none, some 2, some 3, none, some 4, none, none, some 5, some 6, none, none, none, none, none, none, none, none]) h_1 rfl rfl (by decide +kernel) rfl (by decide +kernel)
  exact kk r_1 _ _ _ (fun _ k_ => k_ (al) (hs) (mtp) (fr) (rec) (wds) (swd) (opd) (was) (par) (wth) (bwt) (met) (mtw_) (mtf) (trn) (ism) (rso) (rmy) (nms) ((u_1.2.1 0 0)) (mtd) (mat) (mbh) (msz) (mki) (mnu) (mwr) (mwa) (mfk) (mfp) (mrd) (mtw) (mx) ((u_1.2.1 1 0)) ((u_1.2.1 2 0)) (mtu) (nde) (fnl) (fnv) (fnp) (fnc) (fal) (fhs) (fmtp) (ffr) ((u_1.2.1 3)) ((u_1.2.1 4)) (fswd) ((u_1.2.1 5)) (fwas) (fpar) ((u_1.2.1 6)) ((u_1.2.1 7)) (fmet) (fmtw) (fmtf) (ftrn) (fism) (frso) (frmy) (gnms) (hmtd) (hmat) (hmbh) (hmsz) (hmnu) (hnde) (htal_84) (rfal) (hfnl) (htfr_0) (htfr_1) (hfnp) (htfr_2) (hfnc) (htfr_405) (rfswd) (w1_3) (rfwas) (rfmet) (rfrmy) (rfl) (rfl) (rfl) (rfl) rfl) h_1
set_option maxHeartbeats 8000000 in
set_option maxRecDepth 100000 in
theorem lc_bestDay (l : Launch) {p : Program} {e : Env} {s : State} {m : MethodId} {below : List Frame} {meth : Method} {c : Code} {b : Nat} {xs : Nat → Int32} {Q : State → Prop} {D : va_G} {cy : Nat → ClassId} {H : Heap} {locs : List Loc} {ls : Array Slot} {x0 m0 L k cells slots : Nat} {i : Int32} {tl : Int} (X : qX p s m #[Value.ref b] c cL_law 4 RL) (hK : qK D cy s) (hT : qT cy (fun q => s.heap.size ≤ q) s) (hX : va_X b L xs s s.heap) (hbl : b < s.heap.size) (hi : 0 ≤ i.toInt ∧ i.toInt + 6 ≤ L ∧ L ≤ 3072) (hk : k < 512) (hcell : cells + tl.toNat ≤ 200 + 50 * k) (hslot : slots + 451 * tl.toNat ≤ 30000 + 11100 * k) (hl : lv_has ls 4 [(3, .int i), (2, .ref m0), (1, .ref x0), (0, .ref b)]) (hI : LInv cy D (fun q => s.heap.size ≤ q) s.heap x0 m0 H locs tl) (kk : ∀ (H : Heap) (locs : List Loc) (ls : Array Slot) (cells slots : Nat) (tl : Int), lv_has ls 4 [(3, .int i), (2, .ref m0), (1, .ref x0), (0, .ref b)] → LInv cy D (fun q => s.heap.size ≤ q) s.heap x0 m0 H locs tl → cells + tl.toNat ≤ 200 + 50 * (k + 1) → slots + 451 * tl.toNat ≤ 30000 + 11100 * (k + 1) → W p l e room_1 s m #[Value.ref b] below meth c H locs cells slots Q (F0 m 1459 ls [])) : W p l e room_1 s m #[Value.ref b] below meth c H locs cells slots Q (F0 m 790 ls []) := by
  obtain ⟨hx, hb, hml, hown, ht⟩ := id X
  have hA : ∀ q : Nat, s.heap.size ≤ q → (fun q => s.heap.size ≤ q) q := fun _ h => h
  have hbA : ¬ (fun q : Nat => s.heap.size ≤ q) b := Nat.not_le.mpr hbl
  have hc0 : cells ≤ 26000 := by omega
  have hs0 : slots ≤ 5720000 := by omega
  obtain ⟨gt, gb, gf, gp, wm, wx, pl, hMo, hXo, h⟩ := hI
  refine lv_aload_n hx hb dL_law_790 rfl (lv_at hl 2 rfl) ?_
  replace h := q_rotX h
  refine xc_bestDay l X hK hT hl.1 hc0 hs0 hXo h (fun r_1 H locs wx hXo h => ?_)
  refine lv_pop hx hb dL_law_794 rfl ?_
  refine lv_aload_n hx hb dL_law_795 rfl (lv_at hl 1 rfl) ?_
  replace h := q_rotM h
  refine mc_bestDay l X hK hT hl.1 hc0 hs0 hMo h (fun r_2 H locs wm hMo h => ?_)
  refine lv_pop hx hb dL_law_799 rfl ?_
  refine lv_goto (tgt := 1459) hx hb dL_law_800 (by decide) ?_
  exact kk _ _ _ cells slots tl (lv_sub hl [0, 1, 2, 3] rfl) ⟨_, _, _, _, _, _, _, hMo, hXo, h⟩ (li_c hcell) (li_s hslot)
set_option maxHeartbeats 8000000 in
set_option maxRecDepth 100000 in
theorem xc_firstDay (l : Launch) {p : Program} {e : Env} {s : State} {m : MethodId} {below : List Frame} {meth : Method} {c : Code} {b : Nat} {Q : State → Prop} {D : va_G} {cy : Nat → ClassId} {H : Heap} {locs : List Loc} {ls : Array Slot} (X : qX p s m #[Value.ref b] c cL_law 4 RL) (hK : qK D cy s) (hT : qT cy (fun q => s.heap.size ≤ q) s) (hls : ls.size = 4) {x0 cells slots : Nat} {P pl wx : va_W} {tl : Int}  {gt : Int} {gb : Nat → Int} {gf : Int} {gp : Int} (hc0 : cells ≤ 26000) (hs0 : slots ≤ 5720000) (hX : XOK cy x0 pl wx tl gt gb gf gp) (h : qW D (fun q => s.heap.size ≤ q) s.heap (wx ++ (pl ++ P)) H locs) (kk : ∀ (r : Int32) (H : Heap) (locs : List Loc) (w2 : va_W), XOK cy x0 pl w2 tl gt gb gf gp → qW D (fun q => s.heap.size ≤ q) s.heap (w2 ++ (pl ++ P)) H locs → W p l e room_1 s m #[Value.ref b] below meth c H locs cells slots Q (F0 m 807 ls [.int r])) : W p l e room_1 s m #[Value.ref b] below meth c H locs cells slots Q (F0 m 804 ls [.ref x0]) := by
  have hA : ∀ q : Nat, s.heap.size ≤ q → (fun q => s.heap.size ≤ q) q := fun _ h => h
  refine hX _ ?_
  clear hX
  intros tp nw nwv bf bfv tr trv hsy trs ty0 ty0r ty1 ty1r ty2 ty2r ty3 ty3r ims im0 im0v im1 im1v imm sc scg sch ci cir cipa ciw tu tup tuq tuf tub gu guf tk tkk tkp tkv rd rdc hpa hh hob hot hoi0 hoi1 xtl xfk xfp xch nwd nwa bfd bfa trd tra his ty0s ty0z ty1s ty1z ty2s ty2z ty3s ty3z im0d im0a im1d im1a cip tuo tut tus tul guo gup gus guz tkl tkz rda rdt rdf rdp rdz rdn tkt rto ftp nwfv bffv trfv ktr gty0 gty1 gty2 gty3 kim im0fv im1fv fimm fscg fsch fcir fcipa fciw ftup ftuq ftuf ftub fguf ftkk ftkp ftkv frdc vb hxtl rftp rnwfv rbffv rtrfv hhis hktr0 hktr1 hktr2 hktr3 hty0s hty0z hty1s hty1z hty2s hty2z hty3s hty3z hkim0 hkim1 rim0fv rim1fv hcip rfcir htuo htut htul rftuq rftuf hguo hguz rfguf htkl htkz hrda hrdz okvb HHhh HHhob HHhot HHhoi0 HHhoi1 eg0 eg1 eg2 eg3 htl hw_
  subst eg0
  subst eg1
  subst eg2
  subst eg3
  subst htl
  subst hw_
  have HX := HHhh
  obtain ⟨hv, ehv⟩ : ∃ hv : Nat → Prop, hv = HouseIn cy pl := ⟨_, rfl⟩
  rw [← ehv] at okvb HHhh HHhob HHhot HHhoi0 HHhoi1
  obtain ⟨hnl, hnp, hnt, hns, w4, w5, w6, hha, hhb, hhc, hhd, hhe, fha, fhb, fhc, fhd, fhe, L4, L5, L6, b1, b2, b3, l4, l5, l6, hm, hn⟩ := HX
  obtain ⟨r, hp⟩ := house_pick hm hn L4 ((List.sublist_append_left L4 L5).trans (List.sublist_append_left _ _))
  rcases l4 with ⟨rfl, rfl⟩ | ⟨la4, las4, n4, fs4, rfl, hn4, rfl⟩
  · skip
    replace h := q_open h hp
    refine q_callViF (rest := []) X hK hT hA h (fun sz => gX11_firstDay_d02d4cb l D cy x0 nw hh hhb hhc nwv sc ci cir (.ref tp) xtl xfk xfp (.ref rd) (.ref bf) (.ref tr) (.ref hsy) (.ref trs) (.ref ims) (.ref imm) (.ref tu) (.ref gu) xch nwd nwa hnl hnp hnt hns w5 w6 (.ref hha) (.ref hhd) (.ref hhe) fhb fhc nwfv (.ref scg) (.ref sch) cip (.ref cipa) (.ref ciw) fcir hxtl (i_rng _) (i_rng _) (i_rng _) (i_rng _) (i_rng _) b1 b2 (i_rng _) (i_rng _) hcip (rg_wide rnwfv (by decide) (by decide)) (rg_wide rfcir (by decide) (by decide)) sz) wm_4_212 wm_4_215 wm_1_1 hd_X11_firstDay wm_4_213 wm_4_214 (ci := 11) (q0 := 0) rfl rfl ⟨Nat.le_of_ble_eq_true rfl, Nat.le_of_ble_eq_true rfl⟩ hls rfl (Nat.le_of_ble_eq_true rfl) dL_law_804 ⟨show cells + 0 ≤ 600000 from Nat.le_trans (Nat.add_le_add_right hc0 0) (by decide), show slots + 0 ≤ 7302250 from Nat.le_trans (Nat.add_le_add_right hs0 0) (by decide)⟩ [0, 2, 65, 67, 68, 3, 24, 27, 28] rfl rfl (fun _ => rfl) (fun r_1 u_1 H locs w_1 h_1 => ?_)
    clear h
    obtain ⟨wr_1, w1_0, w1_1, _⟩ := w_1
    replace h_1 := q_pX (ix := [some 0, none, some 1, some 5, none, none, none, none, none, none, none, none, none, none, none, none, none, none, none, none, none, none, none, none, some 6, none, none, some 7, some 8, none, none, none, none, none, none, none, none, none, none, none, none, none, none, none, none, none, none, none, none, none, none, none, none, none, none, none, none, none, none, none, none, none, none, none, none, some 2, none, some 3, some 4, none, none]) h_1 rfl rfl (by decide +kernel) rfl (by decide +kernel)
    have hmono : ∀ a, hv a → HouseIn cy pl a := fun a ha => by rw [ehv] at ha; exact ha
    exact kk r_1 _ _ _ (fun _ k_ => k_ (tp) (nw) (nwv) (bf) (bfv) (tr) (trv) (hsy) (trs) (ty0) (ty0r) (ty1) (ty1r) (ty2) (ty2r) (ty3) (ty3r) (ims) (im0) (im0v) (im1) (im1v) (imm) (sc) (scg) (sch) (ci) (cir) (cipa) (ciw) (tu) (tup) (tuq) (tuf) (tub) (gu) (guf) (tk) (tkk) (tkp) (tkv) (rd) (rdc) (hpa) (hh) (hob) (hot) (hoi0) (hoi1) (xtl) (xfk) (xfp) (xch) (nwd) (nwa) (bfd) (bfa) (trd) (tra) (his) (ty0s) (ty0z) (ty1s) (ty1z) (ty2s) (ty2z) (ty3s) (ty3z) (im0d) (im0a) (im1d) (im1a) ((u_1.2.1 0 0)) (tuo) (tut) (tus) (tul) (guo) (gup) (gus) (guz) (tkl) (tkz) (rda) (rdt) (rdf) (rdp) (rdz) (rdn) (tkt) (rto) (ftp) (nwfv) (bffv) (trfv) (ktr) (gty0) (gty1) (gty2) (gty3) (kim) (im0fv) (im1fv) (fimm) (fscg) (fsch) ((u_1.2.1 1)) (fcipa) (fciw) (ftup) (ftuq) (ftuf) (ftub) (fguf) (ftkk) (ftkp) (ftkv) (frdc) (vb) (hxtl) (rftp) (rnwfv) (rbffv) (rtrfv) (hhis) (hktr0) (hktr1) (hktr2) (hktr3) (hty0s) (hty0z) (hty1s) (hty1z) (hty2s) (hty2z) (hty3s) (hty3z) (hkim0) (hkim1) (rim0fv) (rim1fv) (w1_0) (w1_1) (htuo) (htut) (htul) (rftuq) (rftuf) (hguo) (hguz) (rfguf) (htkl) (htkz) (hrda) (hrdz) (hb_mono okvb hmono) (hmono _ HHhh) (hmono _ HHhob) (hmono _ HHhot) (hmono _ HHhoi0) (hmono _ HHhoi1) (rfl) (rfl) (rfl) (rfl) rfl rfl) (q_back h_1 hp rfl)
  · skip
    replace h := q_open h hp
    refine q_callViF (rest := []) X hK hT hA h (fun sz => gX11_firstDay_815d5f6 l D cy x0 nw hh la4 las4 hhb hhc nwv sc scg sch ci cir (.ref tp) xtl xfk xfp (.ref rd) (.ref bf) (.ref tr) (.ref hsy) (.ref trs) (.ref ims) (.ref imm) (.ref tu) (.ref gu) xch nwd nwa hnl hnp hnt hns w5 w6 (.ref hha) (.ref hhd) (.ref hhe) n4 fs4 fhb fhc nwfv fscg fsch cip (.ref cipa) (.ref ciw) fcir hxtl (i_rng _) (i_rng _) (i_rng _) (i_rng _) (i_rng _) b1 b2 (i_rng _) (i_rng _) (by omega) hcip (rg_wide rnwfv (by decide) (by decide)) (rg_wide rfcir (by decide) (by decide)) sz) wm_4_212 wm_4_215 wm_1_1 hd_X11_firstDay wm_4_213 wm_4_214 (ci := 11) (q0 := 0) rfl rfl ⟨Nat.le_of_ble_eq_true rfl, Nat.le_of_ble_eq_true rfl⟩ hls rfl (Nat.le_of_ble_eq_true rfl) dL_law_804 ⟨show cells + 0 ≤ 600000 from Nat.le_trans (Nat.add_le_add_right hc0 0) (by decide), show slots + 0 ≤ 7302250 from Nat.le_trans (Nat.add_le_add_right hs0 0) (by decide)⟩ [0, 2, 65, 71, 72, 67, 68, 3, 24, 25, 26, 27, 28] rfl rfl (fun _ => rfl) (fun r_1 u_1 H locs w_1 h_1 => ?_)
    clear h
    obtain ⟨wr_1, w1_0, w1_1, _⟩ := w_1
    replace h_1 := q_pX (ix := [some 0, none, some 1, some 7, none, none, none, none, none, none, none, none, none, none, none, none, none, none, none, none, none, none, none, none, some 8, some 9, some 10, some 11, some 12, none, none, none, none, none, none, none, none, none, none, none, none, none, none, none, none, none, none, none, none, none, none, none, none, none, none, none, none, none, none, none, none, none, none, none, none, some 2, none, some 5, some 6, none, none, some 3, some 4]) h_1 rfl rfl (by decide +kernel) rfl (by decide +kernel)
    have hmono : ∀ a, hv a → HouseIn cy pl a := fun a ha => by rw [ehv] at ha; exact ha
    exact kk r_1 _ _ _ (fun _ k_ => k_ (tp) (nw) (nwv) (bf) (bfv) (tr) (trv) (hsy) (trs) (ty0) (ty0r) (ty1) (ty1r) (ty2) (ty2r) (ty3) (ty3r) (ims) (im0) (im0v) (im1) (im1v) (imm) (sc) (scg) (sch) (ci) (cir) (cipa) (ciw) (tu) (tup) (tuq) (tuf) (tub) (gu) (guf) (tk) (tkk) (tkp) (tkv) (rd) (rdc) (hpa) (hh) (hob) (hot) (hoi0) (hoi1) (xtl) (xfk) (xfp) (xch) (nwd) (nwa) (bfd) (bfa) (trd) (tra) (his) (ty0s) (ty0z) (ty1s) (ty1z) (ty2s) (ty2z) (ty3s) (ty3z) (im0d) (im0a) (im1d) (im1a) ((u_1.2.1 2 0)) (tuo) (tut) (tus) (tul) (guo) (gup) (gus) (guz) (tkl) (tkz) (rda) (rdt) (rdf) (rdp) (rdz) (rdn) (tkt) (rto) (ftp) (nwfv) (bffv) (trfv) (ktr) (gty0) (gty1) (gty2) (gty3) (kim) (im0fv) (im1fv) (fimm) ((u_1.2.1 0)) ((u_1.2.1 1)) ((u_1.2.1 3)) (fcipa) (fciw) (ftup) (ftuq) (ftuf) (ftub) (fguf) (ftkk) (ftkp) (ftkv) (frdc) (vb) (hxtl) (rftp) (rnwfv) (rbffv) (rtrfv) (hhis) (hktr0) (hktr1) (hktr2) (hktr3) (hty0s) (hty0z) (hty1s) (hty1z) (hty2s) (hty2z) (hty3s) (hty3z) (hkim0) (hkim1) (rim0fv) (rim1fv) (w1_0) (w1_1) (htuo) (htut) (htul) (rftuq) (rftuf) (hguo) (hguz) (rfguf) (htkl) (htkz) (hrda) (hrdz) (hb_mono okvb hmono) (hmono _ HHhh) (hmono _ HHhob) (hmono _ HHhot) (hmono _ HHhoi0) (hmono _ HHhoi1) (rfl) (rfl) (rfl) (rfl) rfl rfl) (q_back h_1 hp rfl)
set_option maxHeartbeats 8000000 in
set_option maxRecDepth 100000 in
theorem mc_firstDay (l : Launch) {p : Program} {e : Env} {s : State} {m : MethodId} {below : List Frame} {meth : Method} {c : Code} {b : Nat} {Q : State → Prop} {D : va_G} {cy : Nat → ClassId} {H : Heap} {locs : List Loc} {ls : Array Slot} (X : qX p s m #[Value.ref b] c cL_law 4 RL) (hK : qK D cy s) (hT : qT cy (fun q => s.heap.size ≤ q) s) (hls : ls.size = 4) {m0 cells slots : Nat} {P wm : va_W}  {gt : Int} {gb : Nat → Int} {gf : Int} {gp : Int} (hc0 : cells ≤ 26000) (hs0 : slots ≤ 5720000) (hM : MOK cy m0 wm gt gb gf gp) (h : qW D (fun q => s.heap.size ≤ q) s.heap (wm ++ P) H locs) (kk : ∀ (r : Int32) (H : Heap) (locs : List Loc) (w2 : va_W), MOK cy m0 w2 gt gb gf gp → qW D (fun q => s.heap.size ≤ q) s.heap (w2 ++ P) H locs → W p l e room_1 s m #[Value.ref b] below meth c H locs cells slots Q (F0 m 812 ls [.int r])) : W p l e room_1 s m #[Value.ref b] below meth c H locs cells slots Q (F0 m 809 ls [.ref m0]) := by
  have hA : ∀ q : Nat, s.heap.size ≤ q → (fun q => s.heap.size ≤ q) q := fun _ h => h
  refine hM _ ?_
  clear hM
  intros al hs mtp fr rec wds swd opd was par wth bwt met mtw_ mtf trn ism rso rmy nms mth mtd mat mbh msz mki mnu mwr mwa mfk mfp mrd mtw mx mbt mbw mtu nde fnl fnv fnp fnc fal fhs fmtp ffr frec fwds fswd fopd fwas fpar fwth fbwt fmet fmtw fmtf ftrn fism frso frmy gnms hmtd hmat hmbh hmsz hmnu hnde htal_84 rfal hfnl htfr_0 htfr_1 hfnp htfr_2 hfnc htfr_405 rfswd rfopd rfwas rfmet rfrmy eg0 eg1 eg2 eg3 hw_
  subst eg0
  subst eg1
  subst eg2
  subst eg3
  subst hw_
  refine q_callViF (rest := []) X hK hT hA h (fun sz => gX12_firstDay_81e8bf1 l D cy m0 al rec wds opd par mth (.ref hs) (.ref mtp) (.ref fr) mtd mat mbh msz mki mnu mwr mwa mfk mfp mrd (.ref swd) (.ref was) mtw mx (.ref wth) (.ref bwt) mbt mbw (.ref met) (.ref mtw_) (.ref mtf) (.ref trn) (.ref ism) mtu (.ref rso) (.ref rmy) (.ref nms) fal nde frec fwds fopd fpar (i_rng _) hmtd hmat hmbh hmsz (i_rng _) hmnu (i_rng _) (i_rng _) (i_rng _) (i_rng _) (i_rng _) (i_rng _) (i_rng _) (i_rng _) (i_rng _) (i_rng _) hnde htal_84 rfal (rg_wide rfopd (by decide) (by decide)) sz) wm_7_140 wm_7_143 wm_1_12 hd_X12_firstDay wm_7_141 wm_7_142 (ci := 12) (q0 := 0) rfl rfl ⟨Nat.le_of_ble_eq_true rfl, Nat.le_of_ble_eq_true rfl⟩ hls rfl (Nat.le_of_ble_eq_true rfl) dL_law_809 ⟨show cells + 0 ≤ 600000 from Nat.le_trans (Nat.add_le_add_right hc0 0) (by decide), show slots + 0 ≤ 7302250 from Nat.le_trans (Nat.add_le_add_right hs0 0) (by decide)⟩ [0, 1, 5, 6, 8, 10] rfl rfl (fun _ => rfl) (fun r_1 u_1 H locs w_1 h_1 => ?_)
  clear h
  obtain ⟨wr_1, w1_0, w1_1, _⟩ := w_1
  replace h_1 := q_pX (ix := [some 0, some 1, none, none, none, some 2, some 3, none, some 4, none, some 5, none, none, none, none, none, none, none, none, none, none]) h_1 rfl rfl (by decide +kernel) rfl (by decide +kernel)
  exact kk r_1 _ _ _ (fun _ k_ => k_ (al) (hs) (mtp) (fr) (rec) (wds) (swd) (opd) (was) (par) (wth) (bwt) (met) (mtw_) (mtf) (trn) (ism) (rso) (rmy) (nms) ((u_1.2.1 0 0)) (mtd) (mat) (mbh) (msz) (mki) (mnu) (mwr) (mwa) (mfk) (mfp) (mrd) (mtw) (mx) (mbt) (mbw) (mtu) (nde) (fnl) (fnv) (fnp) (fnc) (fal) (fhs) (fmtp) (ffr) ((u_1.2.1 1)) ((u_1.2.1 2)) (fswd) ((u_1.2.1 3)) (fwas) ((u_1.2.1 4)) (fwth) (fbwt) (fmet) (fmtw) (fmtf) (ftrn) (fism) (frso) (frmy) (gnms) (hmtd) (hmat) (hmbh) (hmsz) (hmnu) (hnde) (htal_84) (rfal) (hfnl) (htfr_0) (htfr_1) (hfnp) (htfr_2) (hfnc) (htfr_405) (rfswd) (w1_1) (rfwas) (rfmet) (rfrmy) (rfl) (rfl) (rfl) (rfl) rfl) h_1
set_option maxHeartbeats 8000000 in
set_option maxRecDepth 100000 in
theorem lc_firstDay (l : Launch) {p : Program} {e : Env} {s : State} {m : MethodId} {below : List Frame} {meth : Method} {c : Code} {b : Nat} {xs : Nat → Int32} {Q : State → Prop} {D : va_G} {cy : Nat → ClassId} {H : Heap} {locs : List Loc} {ls : Array Slot} {x0 m0 L k cells slots : Nat} {i : Int32} {tl : Int} (X : qX p s m #[Value.ref b] c cL_law 4 RL) (hK : qK D cy s) (hT : qT cy (fun q => s.heap.size ≤ q) s) (hX : va_X b L xs s s.heap) (hbl : b < s.heap.size) (hi : 0 ≤ i.toInt ∧ i.toInt + 6 ≤ L ∧ L ≤ 3072) (hk : k < 512) (hcell : cells + tl.toNat ≤ 200 + 50 * k) (hslot : slots + 451 * tl.toNat ≤ 30000 + 11100 * k) (hl : lv_has ls 4 [(3, .int i), (2, .ref m0), (1, .ref x0), (0, .ref b)]) (hI : LInv cy D (fun q => s.heap.size ≤ q) s.heap x0 m0 H locs tl) (kk : ∀ (H : Heap) (locs : List Loc) (ls : Array Slot) (cells slots : Nat) (tl : Int), lv_has ls 4 [(3, .int i), (2, .ref m0), (1, .ref x0), (0, .ref b)] → LInv cy D (fun q => s.heap.size ≤ q) s.heap x0 m0 H locs tl → cells + tl.toNat ≤ 200 + 50 * (k + 1) → slots + 451 * tl.toNat ≤ 30000 + 11100 * (k + 1) → W p l e room_1 s m #[Value.ref b] below meth c H locs cells slots Q (F0 m 1459 ls [])) : W p l e room_1 s m #[Value.ref b] below meth c H locs cells slots Q (F0 m 803 ls []) := by
  obtain ⟨hx, hb, hml, hown, ht⟩ := id X
  have hA : ∀ q : Nat, s.heap.size ≤ q → (fun q => s.heap.size ≤ q) q := fun _ h => h
  have hbA : ¬ (fun q : Nat => s.heap.size ≤ q) b := Nat.not_le.mpr hbl
  have hc0 : cells ≤ 26000 := by omega
  have hs0 : slots ≤ 5720000 := by omega
  obtain ⟨gt, gb, gf, gp, wm, wx, pl, hMo, hXo, h⟩ := hI
  refine lv_aload_n hx hb dL_law_803 rfl (lv_at hl 2 rfl) ?_
  replace h := q_rotX h
  refine xc_firstDay l X hK hT hl.1 hc0 hs0 hXo h (fun r_1 H locs wx hXo h => ?_)
  refine lv_pop hx hb dL_law_807 rfl ?_
  refine lv_aload_n hx hb dL_law_808 rfl (lv_at hl 1 rfl) ?_
  replace h := q_rotM h
  refine mc_firstDay l X hK hT hl.1 hc0 hs0 hMo h (fun r_2 H locs wm hMo h => ?_)
  refine lv_pop hx hb dL_law_812 rfl ?_
  refine lv_goto (tgt := 1459) hx hb dL_law_813 (by decide) ?_
  exact kk _ _ _ cells slots tl (lv_sub hl [0, 1, 2, 3] rfl) ⟨_, _, _, _, _, _, _, hMo, hXo, h⟩ (li_c hcell) (li_s hslot)
set_option maxHeartbeats 8000000 in
set_option maxRecDepth 100000 in
theorem xc_quorum (l : Launch) {p : Program} {e : Env} {s : State} {m : MethodId} {below : List Frame} {meth : Method} {c : Code} {b : Nat} {Q : State → Prop} {D : va_G} {cy : Nat → ClassId} {H : Heap} {locs : List Loc} {ls : Array Slot} (X : qX p s m #[Value.ref b] c cL_law 4 RL) (hK : qK D cy s) (hT : qT cy (fun q => s.heap.size ≤ q) s) (hls : ls.size = 4) {x0 cells slots : Nat} {P pl wx : va_W} {tl : Int}  {gt : Int} {gb : Nat → Int} {gf : Int} {gp : Int} (hc0 : cells ≤ 26000) (hs0 : slots ≤ 5720000) (hX : XOK cy x0 pl wx tl gt gb gf gp) (h : qW D (fun q => s.heap.size ≤ q) s.heap (wx ++ (pl ++ P)) H locs) (kk : ∀ (r : Int32) (H : Heap) (locs : List Loc) (w2 : va_W), XOK cy x0 pl w2 tl gt gb gf gp → qW D (fun q => s.heap.size ≤ q) s.heap (w2 ++ (pl ++ P)) H locs → W p l e room_1 s m #[Value.ref b] below meth c H locs cells slots Q (F0 m 820 ls [.int r])) : W p l e room_1 s m #[Value.ref b] below meth c H locs cells slots Q (F0 m 817 ls [.ref x0]) := by
  have hA : ∀ q : Nat, s.heap.size ≤ q → (fun q => s.heap.size ≤ q) q := fun _ h => h
  refine hX _ ?_
  clear hX
  intros tp nw nwv bf bfv tr trv hsy trs ty0 ty0r ty1 ty1r ty2 ty2r ty3 ty3r ims im0 im0v im1 im1v imm sc scg sch ci cir cipa ciw tu tup tuq tuf tub gu guf tk tkk tkp tkv rd rdc hpa hh hob hot hoi0 hoi1 xtl xfk xfp xch nwd nwa bfd bfa trd tra his ty0s ty0z ty1s ty1z ty2s ty2z ty3s ty3z im0d im0a im1d im1a cip tuo tut tus tul guo gup gus guz tkl tkz rda rdt rdf rdp rdz rdn tkt rto ftp nwfv bffv trfv ktr gty0 gty1 gty2 gty3 kim im0fv im1fv fimm fscg fsch fcir fcipa fciw ftup ftuq ftuf ftub fguf ftkk ftkp ftkv frdc vb hxtl rftp rnwfv rbffv rtrfv hhis hktr0 hktr1 hktr2 hktr3 hty0s hty0z hty1s hty1z hty2s hty2z hty3s hty3z hkim0 hkim1 rim0fv rim1fv hcip rfcir htuo htut htul rftuq rftuf hguo hguz rfguf htkl htkz hrda hrdz okvb HHhh HHhob HHhot HHhoi0 HHhoi1 eg0 eg1 eg2 eg3 htl hw_
  subst eg0
  subst eg1
  subst eg2
  subst eg3
  subst htl
  subst hw_
  have HX := HHhh
  obtain ⟨hv, ehv⟩ : ∃ hv : Nat → Prop, hv = HouseIn cy pl := ⟨_, rfl⟩
  rw [← ehv] at okvb HHhh HHhob HHhot HHhoi0 HHhoi1
  obtain ⟨hnl, hnp, hnt, hns, w4, w5, w6, hha, hhb, hhc, hhd, hhe, fha, fhb, fhc, fhd, fhe, L4, L5, L6, b1, b2, b3, l4, l5, l6, hm, hn⟩ := HX
  obtain ⟨r, hp⟩ := house_pick hm hn L4 ((List.sublist_append_left L4 L5).trans (List.sublist_append_left _ _))
  rcases l4 with ⟨rfl, rfl⟩ | ⟨la4, las4, n4, fs4, rfl, hn4, rfl⟩
  · skip
    replace h := q_open h hp
    refine q_callViF (rest := []) X hK hT hA h (fun sz => gX11_quorum_0cbcf05 l D cy x0 nw hh hhb hhc nwv sc ci cir cipa (.ref tp) xtl xfk xfp (.ref rd) (.ref bf) (.ref tr) (.ref hsy) (.ref trs) (.ref ims) (.ref imm) (.ref tu) (.ref gu) xch nwd nwa hnl hnp hnt hns w5 w6 (.ref hha) (.ref hhd) (.ref hhe) fhb fhc nwfv (.ref scg) (.ref sch) cip (.ref ciw) fcir fcipa hxtl (i_rng _) (i_rng _) (i_rng _) (i_rng _) (i_rng _) b1 b2 (i_rng _) (i_rng _) hcip (rg_wide rnwfv (by decide) (by decide)) (rg_wide rfcir (by decide) (by decide)) sz) wm_4_216 wm_4_219 wm_1_1 hd_X11_quorum wm_4_217 wm_4_218 (ci := 11) (q0 := 0) rfl rfl ⟨Nat.le_of_ble_eq_true rfl, Nat.le_of_ble_eq_true rfl⟩ hls rfl (Nat.le_of_ble_eq_true rfl) dL_law_817 ⟨show cells + 0 ≤ 600000 from Nat.le_trans (Nat.add_le_add_right hc0 0) (by decide), show slots + 0 ≤ 7302250 from Nat.le_trans (Nat.add_le_add_right hs0 0) (by decide)⟩ [0, 2, 65, 67, 68, 3, 24, 27, 28, 29] rfl rfl (fun _ => rfl) (fun r_1 u_1 H locs w_1 h_1 => ?_)
    clear h
    obtain ⟨wr_1, w1_0, w1_1, _⟩ := w_1
    replace h_1 := q_pX (ix := [some 0, none, some 1, some 5, none, none, none, none, none, none, none, none, none, none, none, none, none, none, none, none, none, none, none, none, some 6, none, none, some 7, some 8, some 9, none, none, none, none, none, none, none, none, none, none, none, none, none, none, none, none, none, none, none, none, none, none, none, none, none, none, none, none, none, none, none, none, none, none, none, some 2, none, some 3, some 4, none, none]) h_1 rfl rfl (by decide +kernel) rfl (by decide +kernel)
    have hmono : ∀ a, hv a → HouseIn cy pl a := fun a ha => by rw [ehv] at ha; exact ha
    exact kk r_1 _ _ _ (fun _ k_ => k_ (tp) (nw) (nwv) (bf) (bfv) (tr) (trv) (hsy) (trs) (ty0) (ty0r) (ty1) (ty1r) (ty2) (ty2r) (ty3) (ty3r) (ims) (im0) (im0v) (im1) (im1v) (imm) (sc) (scg) (sch) (ci) (cir) (cipa) (ciw) (tu) (tup) (tuq) (tuf) (tub) (gu) (guf) (tk) (tkk) (tkp) (tkv) (rd) (rdc) (hpa) (hh) (hob) (hot) (hoi0) (hoi1) (xtl) (xfk) (xfp) (xch) (nwd) (nwa) (bfd) (bfa) (trd) (tra) (his) (ty0s) (ty0z) (ty1s) (ty1z) (ty2s) (ty2z) (ty3s) (ty3z) (im0d) (im0a) (im1d) (im1a) ((u_1.2.1 0 0)) (tuo) (tut) (tus) (tul) (guo) (gup) (gus) (guz) (tkl) (tkz) (rda) (rdt) (rdf) (rdp) (rdz) (rdn) (tkt) (rto) (ftp) (nwfv) (bffv) (trfv) (ktr) (gty0) (gty1) (gty2) (gty3) (kim) (im0fv) (im1fv) (fimm) (fscg) (fsch) ((u_1.2.1 1)) ((u_1.2.1 2)) (fciw) (ftup) (ftuq) (ftuf) (ftub) (fguf) (ftkk) (ftkp) (ftkv) (frdc) (vb) (hxtl) (rftp) (rnwfv) (rbffv) (rtrfv) (hhis) (hktr0) (hktr1) (hktr2) (hktr3) (hty0s) (hty0z) (hty1s) (hty1z) (hty2s) (hty2z) (hty3s) (hty3z) (hkim0) (hkim1) (rim0fv) (rim1fv) (w1_0) (w1_1) (htuo) (htut) (htul) (rftuq) (rftuf) (hguo) (hguz) (rfguf) (htkl) (htkz) (hrda) (hrdz) (hb_mono okvb hmono) (hmono _ HHhh) (hmono _ HHhob) (hmono _ HHhot) (hmono _ HHhoi0) (hmono _ HHhoi1) (rfl) (rfl) (rfl) (rfl) rfl rfl) (q_back h_1 hp rfl)
  · skip
    replace h := q_open h hp
    refine q_callViF (rest := []) X hK hT hA h (fun sz => gX11_quorum_b90f484 l D cy x0 nw hh la4 las4 hhb hhc nwv sc scg sch ci cir cipa (.ref tp) xtl xfk xfp (.ref rd) (.ref bf) (.ref tr) (.ref hsy) (.ref trs) (.ref ims) (.ref imm) (.ref tu) (.ref gu) xch nwd nwa hnl hnp hnt hns w5 w6 (.ref hha) (.ref hhd) (.ref hhe) n4 fs4 fhb fhc nwfv fscg fsch cip (.ref ciw) fcir fcipa hxtl (i_rng _) (i_rng _) (i_rng _) (i_rng _) (i_rng _) b1 b2 (i_rng _) (i_rng _) (by omega) hcip (rg_wide rnwfv (by decide) (by decide)) (rg_wide rfcir (by decide) (by decide)) sz) wm_4_216 wm_4_219 wm_1_1 hd_X11_quorum wm_4_217 wm_4_218 (ci := 11) (q0 := 0) rfl rfl ⟨Nat.le_of_ble_eq_true rfl, Nat.le_of_ble_eq_true rfl⟩ hls rfl (Nat.le_of_ble_eq_true rfl) dL_law_817 ⟨show cells + 0 ≤ 600000 from Nat.le_trans (Nat.add_le_add_right hc0 0) (by decide), show slots + 0 ≤ 7302250 from Nat.le_trans (Nat.add_le_add_right hs0 0) (by decide)⟩ [0, 2, 65, 71, 72, 67, 68, 3, 24, 25, 26, 27, 28, 29] rfl rfl (fun _ => rfl) (fun r_1 u_1 H locs w_1 h_1 => ?_)
    clear h
    obtain ⟨wr_1, w1_0, w1_1, _⟩ := w_1
    replace h_1 := q_pX (ix := [some 0, none, some 1, some 7, none, none, none, none, none, none, none, none, none, none, none, none, none, none, none, none, none, none, none, none, some 8, some 9, some 10, some 11, some 12, some 13, none, none, none, none, none, none, none, none, none, none, none, none, none, none, none, none, none, none, none, none, none, none, none, none, none, none, none, none, none, none, none, none, none, none, none, some 2, none, some 5, some 6, none, none, some 3, some 4]) h_1 rfl rfl (by decide +kernel) rfl (by decide +kernel)
    have hmono : ∀ a, hv a → HouseIn cy pl a := fun a ha => by rw [ehv] at ha; exact ha
    exact kk r_1 _ _ _ (fun _ k_ => k_ (tp) (nw) (nwv) (bf) (bfv) (tr) (trv) (hsy) (trs) (ty0) (ty0r) (ty1) (ty1r) (ty2) (ty2r) (ty3) (ty3r) (ims) (im0) (im0v) (im1) (im1v) (imm) (sc) (scg) (sch) (ci) (cir) (cipa) (ciw) (tu) (tup) (tuq) (tuf) (tub) (gu) (guf) (tk) (tkk) (tkp) (tkv) (rd) (rdc) (hpa) (hh) (hob) (hot) (hoi0) (hoi1) (xtl) (xfk) (xfp) (xch) (nwd) (nwa) (bfd) (bfa) (trd) (tra) (his) (ty0s) (ty0z) (ty1s) (ty1z) (ty2s) (ty2z) (ty3s) (ty3z) (im0d) (im0a) (im1d) (im1a) ((u_1.2.1 2 0)) (tuo) (tut) (tus) (tul) (guo) (gup) (gus) (guz) (tkl) (tkz) (rda) (rdt) (rdf) (rdp) (rdz) (rdn) (tkt) (rto) (ftp) (nwfv) (bffv) (trfv) (ktr) (gty0) (gty1) (gty2) (gty3) (kim) (im0fv) (im1fv) (fimm) ((u_1.2.1 0)) ((u_1.2.1 1)) ((u_1.2.1 3)) ((u_1.2.1 4)) (fciw) (ftup) (ftuq) (ftuf) (ftub) (fguf) (ftkk) (ftkp) (ftkv) (frdc) (vb) (hxtl) (rftp) (rnwfv) (rbffv) (rtrfv) (hhis) (hktr0) (hktr1) (hktr2) (hktr3) (hty0s) (hty0z) (hty1s) (hty1z) (hty2s) (hty2z) (hty3s) (hty3z) (hkim0) (hkim1) (rim0fv) (rim1fv) (w1_0) (w1_1) (htuo) (htut) (htul) (rftuq) (rftuf) (hguo) (hguz) (rfguf) (htkl) (htkz) (hrda) (hrdz) (hb_mono okvb hmono) (hmono _ HHhh) (hmono _ HHhob) (hmono _ HHhot) (hmono _ HHhoi0) (hmono _ HHhoi1) (rfl) (rfl) (rfl) (rfl) rfl rfl) (q_back h_1 hp rfl)
set_option maxHeartbeats 8000000 in
set_option maxRecDepth 100000 in
theorem mc_quorum (l : Launch) {p : Program} {e : Env} {s : State} {m : MethodId} {below : List Frame} {meth : Method} {c : Code} {b : Nat} {Q : State → Prop} {D : va_G} {cy : Nat → ClassId} {H : Heap} {locs : List Loc} {ls : Array Slot} (X : qX p s m #[Value.ref b] c cL_law 4 RL) (hK : qK D cy s) (hT : qT cy (fun q => s.heap.size ≤ q) s) (hls : ls.size = 4) {m0 cells slots : Nat} {P wm : va_W}  {gt : Int} {gb : Nat → Int} {gf : Int} {gp : Int} (hc0 : cells ≤ 26000) (hs0 : slots ≤ 5720000) (hM : MOK cy m0 wm gt gb gf gp) (h : qW D (fun q => s.heap.size ≤ q) s.heap (wm ++ P) H locs) (kk : ∀ (r : Int32) (H : Heap) (locs : List Loc) (w2 : va_W), MOK cy m0 w2 gt gb gf gp → qW D (fun q => s.heap.size ≤ q) s.heap (w2 ++ P) H locs → W p l e room_1 s m #[Value.ref b] below meth c H locs cells slots Q (F0 m 825 ls [.int r])) : W p l e room_1 s m #[Value.ref b] below meth c H locs cells slots Q (F0 m 822 ls [.ref m0]) := by
  have hA : ∀ q : Nat, s.heap.size ≤ q → (fun q => s.heap.size ≤ q) q := fun _ h => h
  refine hM _ ?_
  clear hM
  intros al hs mtp fr rec wds swd opd was par wth bwt met mtw_ mtf trn ism rso rmy nms mth mtd mat mbh msz mki mnu mwr mwa mfk mfp mrd mtw mx mbt mbw mtu nde fnl fnv fnp fnc fal fhs fmtp ffr frec fwds fswd fopd fwas fpar fwth fbwt fmet fmtw fmtf ftrn fism frso frmy gnms hmtd hmat hmbh hmsz hmnu hnde htal_84 rfal hfnl htfr_0 htfr_1 hfnp htfr_2 hfnc htfr_405 rfswd rfopd rfwas rfmet rfrmy eg0 eg1 eg2 eg3 hw_
  subst eg0
  subst eg1
  subst eg2
  subst eg3
  subst hw_
  refine q_callViF (rest := []) X hK hT hA h (fun sz => gX12_quorum_38e63f5 l D cy m0 al rec wds opd par mth (.ref hs) (.ref mtp) (.ref fr) mtd mat mbh msz mki mnu mwr mwa mfk mfp mrd (.ref swd) (.ref was) mtw mx (.ref wth) (.ref bwt) mbt mbw (.ref met) (.ref mtw_) (.ref mtf) (.ref trn) (.ref ism) mtu (.ref rso) (.ref rmy) (.ref nms) fal nde frec fwds fopd fpar (i_rng _) hmtd hmat hmbh hmsz (i_rng _) hmnu (i_rng _) (i_rng _) (i_rng _) (i_rng _) (i_rng _) (i_rng _) (i_rng _) (i_rng _) (i_rng _) (i_rng _) hnde htal_84 rfal (rg_wide rfopd (by decide) (by decide)) sz) wm_7_144 wm_7_147 wm_1_12 hd_X12_quorum wm_7_145 wm_7_146 (ci := 12) (q0 := 0) rfl rfl ⟨Nat.le_of_ble_eq_true rfl, Nat.le_of_ble_eq_true rfl⟩ hls rfl (Nat.le_of_ble_eq_true rfl) dL_law_822 ⟨show cells + 0 ≤ 600000 from Nat.le_trans (Nat.add_le_add_right hc0 0) (by decide), show slots + 0 ≤ 7302250 from Nat.le_trans (Nat.add_le_add_right hs0 0) (by decide)⟩ [0, 1, 5, 6, 8, 10] rfl rfl (fun _ => rfl) (fun r_1 u_1 H locs w_1 h_1 => ?_)
  clear h
  obtain ⟨wr_1, w1_0, w1_1, _⟩ := w_1
  replace h_1 := q_pX (ix := [some 0, some 1, none, none, none, some 2, some 3, none, some 4, none, some 5, none, none, none, none, none, none, none, none, none, none]) h_1 rfl rfl (by decide +kernel) rfl (by decide +kernel)
  exact kk r_1 _ _ _ (fun _ k_ => k_ (al) (hs) (mtp) (fr) (rec) (wds) (swd) (opd) (was) (par) (wth) (bwt) (met) (mtw_) (mtf) (trn) (ism) (rso) (rmy) (nms) ((u_1.2.1 4 0)) (mtd) (mat) (mbh) (msz) (mki) (mnu) (mwr) (mwa) (mfk) (mfp) (mrd) (mtw) (mx) (mbt) (mbw) (mtu) (nde) (fnl) (fnv) (fnp) (fnc) (fal) (fhs) (fmtp) (ffr) ((u_1.2.1 0)) ((u_1.2.1 1)) (fswd) ((u_1.2.1 2)) (fwas) ((u_1.2.1 3)) (fwth) (fbwt) (fmet) (fmtw) (fmtf) (ftrn) (fism) (frso) (frmy) (gnms) (hmtd) (hmat) (hmbh) (hmsz) (hmnu) (hnde) (htal_84) (rfal) (hfnl) (htfr_0) (htfr_1) (hfnp) (htfr_2) (hfnc) (htfr_405) (rfswd) (w1_0) (rfwas) (rfmet) (rfrmy) (rfl) (rfl) (rfl) (rfl) rfl) h_1
set_option maxHeartbeats 8000000 in
set_option maxRecDepth 100000 in
theorem lc_quorum (l : Launch) {p : Program} {e : Env} {s : State} {m : MethodId} {below : List Frame} {meth : Method} {c : Code} {b : Nat} {xs : Nat → Int32} {Q : State → Prop} {D : va_G} {cy : Nat → ClassId} {H : Heap} {locs : List Loc} {ls : Array Slot} {x0 m0 L k cells slots : Nat} {i : Int32} {tl : Int} (X : qX p s m #[Value.ref b] c cL_law 4 RL) (hK : qK D cy s) (hT : qT cy (fun q => s.heap.size ≤ q) s) (hX : va_X b L xs s s.heap) (hbl : b < s.heap.size) (hi : 0 ≤ i.toInt ∧ i.toInt + 6 ≤ L ∧ L ≤ 3072) (hk : k < 512) (hcell : cells + tl.toNat ≤ 200 + 50 * k) (hslot : slots + 451 * tl.toNat ≤ 30000 + 11100 * k) (hl : lv_has ls 4 [(3, .int i), (2, .ref m0), (1, .ref x0), (0, .ref b)]) (hI : LInv cy D (fun q => s.heap.size ≤ q) s.heap x0 m0 H locs tl) (kk : ∀ (H : Heap) (locs : List Loc) (ls : Array Slot) (cells slots : Nat) (tl : Int), lv_has ls 4 [(3, .int i), (2, .ref m0), (1, .ref x0), (0, .ref b)] → LInv cy D (fun q => s.heap.size ≤ q) s.heap x0 m0 H locs tl → cells + tl.toNat ≤ 200 + 50 * (k + 1) → slots + 451 * tl.toNat ≤ 30000 + 11100 * (k + 1) → W p l e room_1 s m #[Value.ref b] below meth c H locs cells slots Q (F0 m 1459 ls [])) : W p l e room_1 s m #[Value.ref b] below meth c H locs cells slots Q (F0 m 816 ls []) := by
  obtain ⟨hx, hb, hml, hown, ht⟩ := id X
  have hA : ∀ q : Nat, s.heap.size ≤ q → (fun q => s.heap.size ≤ q) q := fun _ h => h
  have hbA : ¬ (fun q : Nat => s.heap.size ≤ q) b := Nat.not_le.mpr hbl
  have hc0 : cells ≤ 26000 := by omega
  have hs0 : slots ≤ 5720000 := by omega
  obtain ⟨gt, gb, gf, gp, wm, wx, pl, hMo, hXo, h⟩ := hI
  refine lv_aload_n hx hb dL_law_816 rfl (lv_at hl 2 rfl) ?_
  replace h := q_rotX h
  refine xc_quorum l X hK hT hl.1 hc0 hs0 hXo h (fun r_1 H locs wx hXo h => ?_)
  refine lv_pop hx hb dL_law_820 rfl ?_
  refine lv_aload_n hx hb dL_law_821 rfl (lv_at hl 1 rfl) ?_
  replace h := q_rotM h
  refine mc_quorum l X hK hT hl.1 hc0 hs0 hMo h (fun r_2 H locs wm hMo h => ?_)
  refine lv_pop hx hb dL_law_825 rfl ?_
  refine lv_goto (tgt := 1459) hx hb dL_law_826 (by decide) ?_
  exact kk _ _ _ cells slots tl (lv_sub hl [0, 1, 2, 3] rfl) ⟨_, _, _, _, _, _, _, hMo, hXo, h⟩ (li_c hcell) (li_s hslot)
set_option maxHeartbeats 8000000 in
set_option maxRecDepth 100000 in
theorem xc_cover (l : Launch) {p : Program} {e : Env} {s : State} {m : MethodId} {below : List Frame} {meth : Method} {c : Code} {b : Nat} {Q : State → Prop} {D : va_G} {cy : Nat → ClassId} {H : Heap} {locs : List Loc} {ls : Array Slot} (X : qX p s m #[Value.ref b] c cL_law 4 RL) (hK : qK D cy s) (hT : qT cy (fun q => s.heap.size ≤ q) s) (hls : ls.size = 4) {x0 cells slots : Nat} {P pl wx : va_W} {tl : Int} {a_1 : Int32} {a_2 : Int32} {gt : Int} {gb : Nat → Int} {gf : Int} {gp : Int} (hc0 : cells ≤ 26000) (hs0 : slots ≤ 5720000) (hX : XOK cy x0 pl wx tl gt gb gf gp) (h : qW D (fun q => s.heap.size ≤ q) s.heap (wx ++ (pl ++ P)) H locs) (kk : ∀ (r : Int32) (H : Heap) (locs : List Loc) (w2 : va_W), XOK cy x0 pl w2 tl gt gb gf gp → qW D (fun q => s.heap.size ≤ q) s.heap (w2 ++ (pl ++ P)) H locs → W p l e room_1 s m #[Value.ref b] below meth c H locs cells slots Q (F0 m 843 ls [.int r])) : W p l e room_1 s m #[Value.ref b] below meth c H locs cells slots Q (F0 m 840 ls [.int a_2, .int a_1, .ref x0]) := by
  have hA : ∀ q : Nat, s.heap.size ≤ q → (fun q => s.heap.size ≤ q) q := fun _ h => h
  refine hX _ ?_
  clear hX
  intros tp nw nwv bf bfv tr trv hsy trs ty0 ty0r ty1 ty1r ty2 ty2r ty3 ty3r ims im0 im0v im1 im1v imm sc scg sch ci cir cipa ciw tu tup tuq tuf tub gu guf tk tkk tkp tkv rd rdc hpa hh hob hot hoi0 hoi1 xtl xfk xfp xch nwd nwa bfd bfa trd tra his ty0s ty0z ty1s ty1z ty2s ty2z ty3s ty3z im0d im0a im1d im1a cip tuo tut tus tul guo gup gus guz tkl tkz rda rdt rdf rdp rdz rdn tkt rto ftp nwfv bffv trfv ktr gty0 gty1 gty2 gty3 kim im0fv im1fv fimm fscg fsch fcir fcipa fciw ftup ftuq ftuf ftub fguf ftkk ftkp ftkv frdc vb hxtl rftp rnwfv rbffv rtrfv hhis hktr0 hktr1 hktr2 hktr3 hty0s hty0z hty1s hty1z hty2s hty2z hty3s hty3z hkim0 hkim1 rim0fv rim1fv hcip rfcir htuo htut htul rftuq rftuf hguo hguz rfguf htkl htkz hrda hrdz okvb HHhh HHhob HHhot HHhoi0 HHhoi1 eg0 eg1 eg2 eg3 htl hw_
  subst eg0
  subst eg1
  subst eg2
  subst eg3
  subst htl
  subst hw_
  have HX := HHhh
  obtain ⟨hv, ehv⟩ : ∃ hv : Nat → Prop, hv = HouseIn cy pl := ⟨_, rfl⟩
  rw [← ehv] at okvb HHhh HHhob HHhot HHhoi0 HHhoi1
  obtain ⟨hnl, hnp, hnt, hns, w4, w5, w6, hha, hhb, hhc, hhd, hhe, fha, fhb, fhc, fhd, fhe, L4, L5, L6, b1, b2, b3, l4, l5, l6, hm, hn⟩ := HX
  obtain ⟨r, hp⟩ := house_pick hm hn L4 ((List.sublist_append_left L4 L5).trans (List.sublist_append_left _ _))
  rcases l4 with ⟨rfl, rfl⟩ | ⟨la4, las4, n4, fs4, rfl, hn4, rfl⟩
  · skip
    replace h := q_open h hp
    refine q_callViF (rest := []) X hK hT hA h (fun sz => gX11_cover_21bf16b l D cy x0 nw hh hhb hhc nwv sc ci cir a_1 a_2 (.ref tp) xtl xfk xfp (.ref rd) (.ref bf) (.ref tr) (.ref hsy) (.ref trs) (.ref ims) (.ref imm) (.ref tu) (.ref gu) xch nwd nwa hnl hnp hnt hns w5 w6 (.ref hha) (.ref hhd) (.ref hhe) fhb fhc nwfv (.ref scg) (.ref sch) cip (.ref cipa) (.ref ciw) fcir (i_rng _) (i_rng _) hxtl (i_rng _) (i_rng _) (i_rng _) (i_rng _) (i_rng _) b1 b2 (i_rng _) (i_rng _) hcip (rg_wide rnwfv (by decide) (by decide)) (rg_wide rfcir (by decide) (by decide)) sz) wm_4_220 wm_4_223 wm_1_1 hd_X11_cover wm_4_221 wm_4_222 (ci := 11) (q0 := 0) rfl rfl ⟨Nat.le_of_ble_eq_true rfl, Nat.le_of_ble_eq_true rfl⟩ hls rfl (Nat.le_of_ble_eq_true rfl) dL_law_840 ⟨show cells + 0 ≤ 600000 from Nat.le_trans (Nat.add_le_add_right hc0 0) (by decide), show slots + 0 ≤ 7302250 from Nat.le_trans (Nat.add_le_add_right hs0 0) (by decide)⟩ [0, 2, 65, 67, 68, 3, 24, 27, 28] rfl rfl (fun _ => rfl) (fun r_1 u_1 H locs w_1 h_1 => ?_)
    clear h
    obtain ⟨wr_1, w1_0, w1_1, _⟩ := w_1
    replace h_1 := q_pX (ix := [some 0, none, some 1, some 5, none, none, none, none, none, none, none, none, none, none, none, none, none, none, none, none, none, none, none, none, some 6, none, none, some 7, some 8, none, none, none, none, none, none, none, none, none, none, none, none, none, none, none, none, none, none, none, none, none, none, none, none, none, none, none, none, none, none, none, none, none, none, none, none, some 2, none, some 3, some 4, none, none]) h_1 rfl rfl (by decide +kernel) rfl (by decide +kernel)
    have hmono : ∀ a, hv a → HouseIn cy pl a := fun a ha => by rw [ehv] at ha; exact ha
    exact kk r_1 _ _ _ (fun _ k_ => k_ (tp) (nw) (nwv) (bf) (bfv) (tr) (trv) (hsy) (trs) (ty0) (ty0r) (ty1) (ty1r) (ty2) (ty2r) (ty3) (ty3r) (ims) (im0) (im0v) (im1) (im1v) (imm) (sc) (scg) (sch) (ci) (cir) (cipa) (ciw) (tu) (tup) (tuq) (tuf) (tub) (gu) (guf) (tk) (tkk) (tkp) (tkv) (rd) (rdc) (hpa) (hh) (hob) (hot) (hoi0) (hoi1) (xtl) (xfk) (xfp) (xch) (nwd) (nwa) (bfd) (bfa) (trd) (tra) (his) (ty0s) (ty0z) (ty1s) (ty1z) (ty2s) (ty2z) (ty3s) (ty3z) (im0d) (im0a) (im1d) (im1a) ((u_1.2.1 0 0)) (tuo) (tut) (tus) (tul) (guo) (gup) (gus) (guz) (tkl) (tkz) (rda) (rdt) (rdf) (rdp) (rdz) (rdn) (tkt) (rto) (ftp) (nwfv) (bffv) (trfv) (ktr) (gty0) (gty1) (gty2) (gty3) (kim) (im0fv) (im1fv) (fimm) (fscg) (fsch) ((u_1.2.1 1)) (fcipa) (fciw) (ftup) (ftuq) (ftuf) (ftub) (fguf) (ftkk) (ftkp) (ftkv) (frdc) (vb) (hxtl) (rftp) (rnwfv) (rbffv) (rtrfv) (hhis) (hktr0) (hktr1) (hktr2) (hktr3) (hty0s) (hty0z) (hty1s) (hty1z) (hty2s) (hty2z) (hty3s) (hty3z) (hkim0) (hkim1) (rim0fv) (rim1fv) (w1_0) (w1_1) (htuo) (htut) (htul) (rftuq) (rftuf) (hguo) (hguz) (rfguf) (htkl) (htkz) (hrda) (hrdz) (hb_mono okvb hmono) (hmono _ HHhh) (hmono _ HHhob) (hmono _ HHhot) (hmono _ HHhoi0) (hmono _ HHhoi1) (rfl) (rfl) (rfl) (rfl) rfl rfl) (q_back h_1 hp rfl)
  · skip
    replace h := q_open h hp
    refine q_callViF (rest := []) X hK hT hA h (fun sz => gX11_cover_bfe3985 l D cy x0 nw hh la4 las4 hhb hhc nwv sc scg sch ci cir a_1 a_2 (.ref tp) xtl xfk xfp (.ref rd) (.ref bf) (.ref tr) (.ref hsy) (.ref trs) (.ref ims) (.ref imm) (.ref tu) (.ref gu) xch nwd nwa hnl hnp hnt hns w5 w6 (.ref hha) (.ref hhd) (.ref hhe) n4 fs4 fhb fhc nwfv fscg fsch cip (.ref cipa) (.ref ciw) fcir (i_rng _) (i_rng _) hxtl (i_rng _) (i_rng _) (i_rng _) (i_rng _) (i_rng _) b1 b2 (i_rng _) (i_rng _) (by omega) hcip (rg_wide rnwfv (by decide) (by decide)) (rg_wide rfcir (by decide) (by decide)) sz) wm_4_220 wm_4_223 wm_1_1 hd_X11_cover wm_4_221 wm_4_222 (ci := 11) (q0 := 0) rfl rfl ⟨Nat.le_of_ble_eq_true rfl, Nat.le_of_ble_eq_true rfl⟩ hls rfl (Nat.le_of_ble_eq_true rfl) dL_law_840 ⟨show cells + 0 ≤ 600000 from Nat.le_trans (Nat.add_le_add_right hc0 0) (by decide), show slots + 0 ≤ 7302250 from Nat.le_trans (Nat.add_le_add_right hs0 0) (by decide)⟩ [0, 2, 65, 71, 72, 67, 68, 3, 24, 25, 26, 27, 28] rfl rfl (fun _ => rfl) (fun r_1 u_1 H locs w_1 h_1 => ?_)
    clear h
    obtain ⟨wr_1, w1_0, w1_1, _⟩ := w_1
    replace h_1 := q_pX (ix := [some 0, none, some 1, some 7, none, none, none, none, none, none, none, none, none, none, none, none, none, none, none, none, none, none, none, none, some 8, some 9, some 10, some 11, some 12, none, none, none, none, none, none, none, none, none, none, none, none, none, none, none, none, none, none, none, none, none, none, none, none, none, none, none, none, none, none, none, none, none, none, none, none, some 2, none, some 5, some 6, none, none, some 3, some 4]) h_1 rfl rfl (by decide +kernel) rfl (by decide +kernel)
    have hmono : ∀ a, hv a → HouseIn cy pl a := fun a ha => by rw [ehv] at ha; exact ha
    exact kk r_1 _ _ _ (fun _ k_ => k_ (tp) (nw) (nwv) (bf) (bfv) (tr) (trv) (hsy) (trs) (ty0) (ty0r) (ty1) (ty1r) (ty2) (ty2r) (ty3) (ty3r) (ims) (im0) (im0v) (im1) (im1v) (imm) (sc) (scg) (sch) (ci) (cir) (cipa) (ciw) (tu) (tup) (tuq) (tuf) (tub) (gu) (guf) (tk) (tkk) (tkp) (tkv) (rd) (rdc) (hpa) (hh) (hob) (hot) (hoi0) (hoi1) (xtl) (xfk) (xfp) (xch) (nwd) (nwa) (bfd) (bfa) (trd) (tra) (his) (ty0s) (ty0z) (ty1s) (ty1z) (ty2s) (ty2z) (ty3s) (ty3z) (im0d) (im0a) (im1d) (im1a) ((u_1.2.1 2 0)) (tuo) (tut) (tus) (tul) (guo) (gup) (gus) (guz) (tkl) (tkz) (rda) (rdt) (rdf) (rdp) (rdz) (rdn) (tkt) (rto) (ftp) (nwfv) (bffv) (trfv) (ktr) (gty0) (gty1) (gty2) (gty3) (kim) (im0fv) (im1fv) (fimm) ((u_1.2.1 0)) ((u_1.2.1 1)) ((u_1.2.1 3)) (fcipa) (fciw) (ftup) (ftuq) (ftuf) (ftub) (fguf) (ftkk) (ftkp) (ftkv) (frdc) (vb) (hxtl) (rftp) (rnwfv) (rbffv) (rtrfv) (hhis) (hktr0) (hktr1) (hktr2) (hktr3) (hty0s) (hty0z) (hty1s) (hty1z) (hty2s) (hty2z) (hty3s) (hty3z) (hkim0) (hkim1) (rim0fv) (rim1fv) (w1_0) (w1_1) (htuo) (htut) (htul) (rftuq) (rftuf) (hguo) (hguz) (rfguf) (htkl) (htkz) (hrda) (hrdz) (hb_mono okvb hmono) (hmono _ HHhh) (hmono _ HHhob) (hmono _ HHhot) (hmono _ HHhoi0) (hmono _ HHhoi1) (rfl) (rfl) (rfl) (rfl) rfl rfl) (q_back h_1 hp rfl)
set_option maxHeartbeats 8000000 in
set_option maxRecDepth 100000 in
theorem mc_cover (l : Launch) {p : Program} {e : Env} {s : State} {m : MethodId} {below : List Frame} {meth : Method} {c : Code} {b : Nat} {Q : State → Prop} {D : va_G} {cy : Nat → ClassId} {H : Heap} {locs : List Loc} {ls : Array Slot} (X : qX p s m #[Value.ref b] c cL_law 4 RL) (hK : qK D cy s) (hT : qT cy (fun q => s.heap.size ≤ q) s) (hls : ls.size = 4) {m0 cells slots : Nat} {P wm : va_W} {a_1 : Int32} {a_2 : Int32} {gt : Int} {gb : Nat → Int} {gf : Int} {gp : Int} (hc0 : cells ≤ 26000) (hs0 : slots ≤ 5720000) (hM : MOK cy m0 wm gt gb gf gp) (h : qW D (fun q => s.heap.size ≤ q) s.heap (wm ++ P) H locs) (kk : ∀ (r : Int32) (H : Heap) (locs : List Loc) (w2 : va_W), MOK cy m0 w2 gt gb gf gp → qW D (fun q => s.heap.size ≤ q) s.heap (w2 ++ P) H locs → W p l e room_1 s m #[Value.ref b] below meth c H locs cells slots Q (F0 m 858 ls [.int r])) : W p l e room_1 s m #[Value.ref b] below meth c H locs cells slots Q (F0 m 855 ls [.int a_2, .int a_1, .ref m0]) := by
  have hA : ∀ q : Nat, s.heap.size ≤ q → (fun q => s.heap.size ≤ q) q := fun _ h => h
  refine hM _ ?_
  clear hM
  intros al hs mtp fr rec wds swd opd was par wth bwt met mtw_ mtf trn ism rso rmy nms mth mtd mat mbh msz mki mnu mwr mwa mfk mfp mrd mtw mx mbt mbw mtu nde fnl fnv fnp fnc fal fhs fmtp ffr frec fwds fswd fopd fwas fpar fwth fbwt fmet fmtw fmtf ftrn fism frso frmy gnms hmtd hmat hmbh hmsz hmnu hnde htal_84 rfal hfnl htfr_0 htfr_1 hfnp htfr_2 hfnc htfr_405 rfswd rfopd rfwas rfmet rfrmy eg0 eg1 eg2 eg3 hw_
  subst eg0
  subst eg1
  subst eg2
  subst eg3
  subst hw_
  refine q_callViF (rest := []) X hK hT hA h (fun sz => gX12_cover_d5ae595 l D cy m0 al rec wds opd a_1 a_2 mth (.ref hs) (.ref mtp) (.ref fr) mtd mat mbh msz mki mnu mwr mwa mfk mfp mrd (.ref swd) (.ref was) mtw mx (.ref par) (.ref wth) (.ref bwt) mbt mbw (.ref met) (.ref mtw_) (.ref mtf) (.ref trn) (.ref ism) mtu (.ref rso) (.ref rmy) (.ref nms) fal nde frec fwds fopd (i_rng _) (i_rng _) (i_rng _) hmtd hmat hmbh hmsz (i_rng _) hmnu (i_rng _) (i_rng _) (i_rng _) (i_rng _) (i_rng _) (i_rng _) (i_rng _) (i_rng _) (i_rng _) (i_rng _) hnde htal_84 rfal (rg_wide rfopd (by decide) (by decide)) sz) wm_7_148 wm_7_151 wm_1_12 hd_X12_cover wm_7_149 wm_7_150 (ci := 12) (q0 := 0) rfl rfl ⟨Nat.le_of_ble_eq_true rfl, Nat.le_of_ble_eq_true rfl⟩ hls rfl (Nat.le_of_ble_eq_true rfl) dL_law_855 ⟨show cells + 0 ≤ 600000 from Nat.le_trans (Nat.add_le_add_right hc0 0) (by decide), show slots + 0 ≤ 7302250 from Nat.le_trans (Nat.add_le_add_right hs0 0) (by decide)⟩ [0, 1, 5, 6, 8] rfl rfl (fun _ => rfl) (fun r_1 u_1 H locs w_1 h_1 => ?_)
  clear h
  obtain ⟨wr_1, w1_0, w1_1, _⟩ := w_1
  exact kk r_1 _ _ _ (fun _ k_ => k_ (al) (hs) (mtp) (fr) (rec) (wds) (swd) (opd) (was) (par) (wth) (bwt) (met) (mtw_) (mtf) (trn) (ism) (rso) (rmy) (nms) ((u_1.2.1 3 0)) (mtd) (mat) (mbh) (msz) (mki) (mnu) (mwr) (mwa) (mfk) (mfp) (mrd) (mtw) (mx) (mbt) (mbw) (mtu) (nde) (fnl) (fnv) (fnp) (fnc) (fal) (fhs) (fmtp) (ffr) ((u_1.2.1 0)) ((u_1.2.1 1)) (fswd) ((u_1.2.1 2)) (fwas) (fpar) (fwth) (fbwt) (fmet) (fmtw) (fmtf) (ftrn) (fism) (frso) (frmy) (gnms) (hmtd) (hmat) (hmbh) (hmsz) (hmnu) (hnde) (htal_84) (rfal) (hfnl) (htfr_0) (htfr_1) (hfnp) (htfr_2) (hfnc) (htfr_405) (rfswd) (w1_0) (rfwas) (rfmet) (rfrmy) (rfl) (rfl) (rfl) (rfl) rfl) h_1
set_option maxHeartbeats 8000000 in
set_option maxRecDepth 100000 in
theorem lc_cover (l : Launch) {p : Program} {e : Env} {s : State} {m : MethodId} {below : List Frame} {meth : Method} {c : Code} {b : Nat} {xs : Nat → Int32} {Q : State → Prop} {D : va_G} {cy : Nat → ClassId} {H : Heap} {locs : List Loc} {ls : Array Slot} {x0 m0 L k cells slots : Nat} {i : Int32} {tl : Int} (X : qX p s m #[Value.ref b] c cL_law 4 RL) (hK : qK D cy s) (hT : qT cy (fun q => s.heap.size ≤ q) s) (hX : va_X b L xs s s.heap) (hbl : b < s.heap.size) (hi : 0 ≤ i.toInt ∧ i.toInt + 6 ≤ L ∧ L ≤ 3072) (hk : k < 512) (hcell : cells + tl.toNat ≤ 200 + 50 * k) (hslot : slots + 451 * tl.toNat ≤ 30000 + 11100 * k) (hl : lv_has ls 4 [(3, .int i), (2, .ref m0), (1, .ref x0), (0, .ref b)]) (hI : LInv cy D (fun q => s.heap.size ≤ q) s.heap x0 m0 H locs tl) (kk : ∀ (H : Heap) (locs : List Loc) (ls : Array Slot) (cells slots : Nat) (tl : Int), lv_has ls 4 [(3, .int i), (2, .ref m0), (1, .ref x0), (0, .ref b)] → LInv cy D (fun q => s.heap.size ≤ q) s.heap x0 m0 H locs tl → cells + tl.toNat ≤ 200 + 50 * (k + 1) → slots + 451 * tl.toNat ≤ 30000 + 11100 * (k + 1) → W p l e room_1 s m #[Value.ref b] below meth c H locs cells slots Q (F0 m 1459 ls [])) : W p l e room_1 s m #[Value.ref b] below meth c H locs cells slots Q (F0 m 829 ls []) := by
  obtain ⟨hx, hb, hml, hown, ht⟩ := id X
  have hA : ∀ q : Nat, s.heap.size ≤ q → (fun q => s.heap.size ≤ q) q := fun _ h => h
  have hbA : ¬ (fun q : Nat => s.heap.size ≤ q) b := Nat.not_le.mpr hbl
  have hc0 : cells ≤ 26000 := by omega
  have hs0 : slots ≤ 5720000 := by omega
  obtain ⟨gt, gb, gf, gp, wm, wx, pl, hMo, hXo, h⟩ := hI
  refine lv_aload_n hx hb dL_law_829 rfl (lv_at hl 2 rfl) ?_
  refine lv_aload_n hx hb dL_law_830 rfl (lv_at hl 3 rfl) ?_
  refine lv_iload_n hx hb dL_law_831 rfl (lv_at hl 0 rfl) ?_
  refine lv_iconst (v := 1) hx hb dL_law_832 (by decide) ?_
  refine lv_iadd hx hb dL_law_833 ?_
  obtain ⟨z_1, ez_1, hz_1⟩ := li_add hi 1 (n := 1) (by decide) (by decide) (by decide)
  refine q_c z_1 ez_1 ?_
  clear ez_1
  refine va_sld hx hb hX hbl hbA h.2.2 (li_in hi hz_1 (by decide) (by decide)) dL_law_834 ?_
  obtain ⟨x_1, ex_1, hx_1⟩ := e_any (xs (z_1).toNatClampNeg)
  refine q_c x_1 ex_1 ?_
  refine lv_aload_n hx hb dL_law_835 rfl (lv_at hl 3 rfl) ?_
  refine lv_iload_n hx hb dL_law_836 rfl (lv_at hl 0 rfl) ?_
  refine lv_iconst (v := 2) hx hb dL_law_837 (by decide) ?_
  refine lv_iadd hx hb dL_law_838 ?_
  obtain ⟨z_2, ez_2, hz_2⟩ := li_add hi 2 (n := 2) (by decide) (by decide) (by decide)
  refine q_c z_2 ez_2 ?_
  clear ez_2
  refine va_sld hx hb hX hbl hbA h.2.2 (li_in hi hz_2 (by decide) (by decide)) dL_law_839 ?_
  obtain ⟨x_2, ex_2, hx_2⟩ := e_any (xs (z_2).toNatClampNeg)
  refine q_c x_2 ex_2 ?_
  replace h := q_rotX h
  refine xc_cover l X hK hT hl.1 hc0 hs0 hXo h (fun r_3 H locs wx hXo h => ?_)
  refine lv_pop hx hb dL_law_843 rfl ?_
  refine lv_aload_n hx hb dL_law_844 rfl (lv_at hl 1 rfl) ?_
  refine lv_aload_n hx hb dL_law_845 rfl (lv_at hl 3 rfl) ?_
  refine lv_iload_n hx hb dL_law_846 rfl (lv_at hl 0 rfl) ?_
  refine lv_iconst (v := 1) hx hb dL_law_847 (by decide) ?_
  refine lv_iadd hx hb dL_law_848 ?_
  obtain ⟨z_4, ez_4, hz_4⟩ := li_add hi 1 (n := 1) (by decide) (by decide) (by decide)
  refine q_c z_4 ez_4 ?_
  clear ez_4
  refine va_sld hx hb hX hbl hbA h.2.2 (li_in hi hz_4 (by decide) (by decide)) dL_law_849 ?_
  refine q_c x_1 ((congrArg xs (cl_eq (x := z_4) (y := z_1) (hz_4.trans hz_1.symm))).trans ex_1) ?_
  refine lv_aload_n hx hb dL_law_850 rfl (lv_at hl 3 rfl) ?_
  refine lv_iload_n hx hb dL_law_851 rfl (lv_at hl 0 rfl) ?_
  refine lv_iconst (v := 2) hx hb dL_law_852 (by decide) ?_
  refine lv_iadd hx hb dL_law_853 ?_
  obtain ⟨z_5, ez_5, hz_5⟩ := li_add hi 2 (n := 2) (by decide) (by decide) (by decide)
  refine q_c z_5 ez_5 ?_
  clear ez_5
  refine va_sld hx hb hX hbl hbA h.2.2 (li_in hi hz_5 (by decide) (by decide)) dL_law_854 ?_
  refine q_c x_2 ((congrArg xs (cl_eq (x := z_5) (y := z_2) (hz_5.trans hz_2.symm))).trans ex_2) ?_
  replace h := q_rotM h
  refine mc_cover l X hK hT hl.1 hc0 hs0 hMo h (fun r_6 H locs wm hMo h => ?_)
  refine lv_pop hx hb dL_law_858 rfl ?_
  refine lv_goto (tgt := 1459) hx hb dL_law_859 (by decide) ?_
  exact kk _ _ _ cells slots tl (lv_sub hl [0, 1, 2, 3] rfl) ⟨_, _, _, _, _, _, _, hMo, hXo, h⟩ (li_c hcell) (li_s hslot)
