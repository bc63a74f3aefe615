set_option maxHeartbeats 8000000 in
set_option maxRecDepth 100000 in
theorem xc_passed (l : Launch) {p : Program} {e : Env} {s : State} {m : MethodId} {below : List Frame} {meth : Method} {c : Code} {b : Nat} {Q : State → Prop} {D : va_G} {cy : Nat → ClassId} {H : Heap} {locs : List Loc} {ls : Array Slot} (X : qX p s m #[Value.ref b] c cL_law 4 RL) (hK : qK D cy s) (hT : qT cy (fun q => s.heap.size ≤ q) s) (hls : ls.size = 4) {x0 cells slots : Nat} {P pl wx : va_W} {tl : Int} {a_1 : Int32} {a_2 : Int32} {gt : Int} {gb : Nat → Int} {gf : Int} {gp : Int} (hc0 : cells ≤ 26000) (hs0 : slots ≤ 5720000) (hX : XOK cy x0 pl wx tl gt gb gf gp) (h : qW D (fun q => s.heap.size ≤ q) s.heap (wx ++ (pl ++ P)) H locs) (kk : ∀ (r : Int32) (H : Heap) (locs : List Loc) (w2 : va_W), XOK cy x0 pl w2 tl gt gb gf gp → qW D (fun q => s.heap.size ≤ q) s.heap (w2 ++ (pl ++ P)) H locs → W p l e room_1 s m #[Value.ref b] below meth c H locs cells slots Q (F0 m 1034 ls [.int r])) : W p l e room_1 s m #[Value.ref b] below meth c H locs cells slots Q (F0 m 1031 ls [.int a_2, .int a_1, .ref x0]) := by
  have hA : ∀ q : Nat, s.heap.size ≤ q → (fun q => s.heap.size ≤ q) q := fun _ h => h
  refine hX _ ?_
  clear hX
  intros tp nw nwv bf bfv tr trv hsy trs ty0 ty0r ty1 ty1r ty2 ty2r ty3 ty3r ims im0 im0v im1 im1v imm sc scg sch ci cir cipa ciw tu tup tuq tuf tub gu guf tk tkk tkp tkv rd rdc hpa hh hob hot hoi0 hoi1 xtl xfk xfp xch nwd nwa bfd bfa trd tra his ty0s ty0z ty1s ty1z ty2s ty2z ty3s ty3z im0d im0a im1d im1a cip tuo tut tus tul guo gup gus guz tkl tkz rda rdt rdf rdp rdz rdn tkt rto ftp nwfv bffv trfv ktr gty0 gty1 gty2 gty3 kim im0fv im1fv fimm fscg fsch fcir fcipa fciw ftup ftuq ftuf ftub fguf ftkk ftkp ftkv frdc vb hxtl rftp rnwfv rbffv rtrfv hhis hktr0 hktr1 hktr2 hktr3 hty0s hty0z hty1s hty1z hty2s hty2z hty3s hty3z hkim0 hkim1 rim0fv rim1fv hcip rfcir htuo htut htul rftuq rftuf hguo hguz rfguf htkl htkz hrda hrdz okvb HHhh HHhob HHhot HHhoi0 HHhoi1 eg0 eg1 eg2 eg3 htl hw_
  subst eg0
  subst eg1
  subst eg2
  subst eg3
  subst htl
  subst hw_
  have HX := HHhh
  obtain ⟨hv, ehv⟩ : ∃ hv : Nat → Prop, hv = HouseIn cy pl := ⟨_, rfl⟩
  rw [← ehv] at okvb HHhh HHhob HHhot HHhoi0 HHhoi1
  obtain ⟨hnl, hnp, hnt, hns, w4, w5, w6, hha, hhb, hhc, hhd, hhe, fha, fhb, fhc, fhd, fhe, L4, L5, L6, b1, b2, b3, l4, l5, l6, hm, hn⟩ := HX
  obtain ⟨r, hp⟩ := house_pick hm hn (L4 ++ L5) (List.sublist_append_left _ _)
  rcases l4 with ⟨rfl, rfl⟩ | ⟨la4, las4, n4, fs4, rfl, hn4, rfl⟩
  · skip
    rcases l5 with ⟨rfl, rfl⟩ | ⟨la5, las5, n5, fs5, rfl, hn5, rfl⟩
    · skip
      replace h := q_open h hp
      refine q_callViF (rest := []) X hK hT hA h (fun sz => gX11_passed_f52c188 l D cy x0 nw hh hhb hhc nwv sc ci cir cipa a_1 a_2 (.ref tp) xtl xfk xfp (.ref rd) (.ref bf) (.ref tr) (.ref hsy) (.ref trs) (.ref ims) (.ref imm) (.ref tu) (.ref gu) xch nwd nwa hnl hnp hnt hns w6 (.ref hha) (.ref hhd) (.ref hhe) fhb fhc nwfv (.ref scg) (.ref sch) cip (.ref ciw) fcir fcipa (i_rng _) (i_rng _) hxtl (i_rng _) (i_rng _) (i_rng _) (i_rng _) (i_rng _) b1 b2 (i_rng _) (i_rng _) hcip (rg_wide rnwfv (by decide) (by decide)) (rg_wide rfcir (by decide) (by decide)) sz) wm_5_55 wm_5_58 wm_1_1 hd_X11_passed wm_5_56 wm_5_57 (ci := 11) (q0 := 0) rfl rfl ⟨Nat.le_of_ble_eq_true rfl, Nat.le_of_ble_eq_true rfl⟩ hls rfl (Nat.le_of_ble_eq_true rfl) dL_law_1031 ⟨show cells + 0 ≤ 600000 from Nat.le_trans (Nat.add_le_add_right hc0 0) (by decide), show slots + 0 ≤ 7302250 from Nat.le_trans (Nat.add_le_add_right hs0 0) (by decide)⟩ [0, 2, 65, 67, 68, 3, 24, 27, 28, 29] rfl rfl (fun _ => rfl) (fun r_1 u_1 H locs w_1 h_1 => ?_)
      clear h
      obtain ⟨wr_1, w1_0, w1_1, _⟩ := w_1
      replace h_1 := q_pX (ix := [some 0, none, some 1, some 5, none, none, none, none, none, none, none, none, none, none, none, none, none, none, none, none, none, none, none, none, some 6, none, none, some 7, some 8, some 9, none, none, none, none, none, none, none, none, none, none, none, none, none, none, none, none, none, none, none, none, none, none, none, none, none, none, none, none, none, none, none, none, none, none, none, some 2, none, some 3, some 4, none, none]) h_1 rfl rfl (by decide +kernel) rfl (by decide +kernel)
      have hmono : ∀ a, hv a → HouseIn cy pl a := fun a ha => by rw [ehv] at ha; exact ha
      exact kk r_1 _ _ _ (fun _ k_ => k_ (tp) (nw) (nwv) (bf) (bfv) (tr) (trv) (hsy) (trs) (ty0) (ty0r) (ty1) (ty1r) (ty2) (ty2r) (ty3) (ty3r) (ims) (im0) (im0v) (im1) (im1v) (imm) (sc) (scg) (sch) (ci) (cir) (cipa) (ciw) (tu) (tup) (tuq) (tuf) (tub) (gu) (guf) (tk) (tkk) (tkp) (tkv) (rd) (rdc) (hpa) (hh) (hob) (hot) (hoi0) (hoi1) (xtl) (xfk) (xfp) (xch) (nwd) (nwa) (bfd) (bfa) (trd) (tra) (his) (ty0s) (ty0z) (ty1s) (ty1z) (ty2s) (ty2z) (ty3s) (ty3z) (im0d) (im0a) (im1d) (im1a) ((u_1.2.1 1 0)) (tuo) (tut) (tus) (tul) (guo) (gup) (gus) (guz) (tkl) (tkz) (rda) (rdt) (rdf) (rdp) (rdz) (rdn) (tkt) (rto) (ftp) (nwfv) (bffv) (trfv) (ktr) (gty0) (gty1) (gty2) (gty3) (kim) (im0fv) (im1fv) (fimm) (fscg) (fsch) ((u_1.2.1 0)) ((u_1.2.1 2)) (fciw) (ftup) (ftuq) (ftuf) (ftub) (fguf) (ftkk) (ftkp) (ftkv) (frdc) (vb) (hxtl) (rftp) (rnwfv) (rbffv) (rtrfv) (hhis) (hktr0) (hktr1) (hktr2) (hktr3) (hty0s) (hty0z) (hty1s) (hty1z) (hty2s) (hty2z) (hty3s) (hty3z) (hkim0) (hkim1) (rim0fv) (rim1fv) (w1_1) (w1_0) (htuo) (htut) (htul) (rftuq) (rftuf) (hguo) (hguz) (rfguf) (htkl) (htkz) (hrda) (hrdz) (hb_mono okvb hmono) (hmono _ HHhh) (hmono _ HHhob) (hmono _ HHhot) (hmono _ HHhoi0) (hmono _ HHhoi1) (rfl) (rfl) (rfl) (rfl) rfl rfl) (q_back h_1 hp rfl)
    · skip
      replace h := q_open h hp
      refine q_callViF (rest := []) X hK hT hA h (fun sz => gX11_passed_d495018 l D cy x0 nw hh la5 las5 hhb hhc nwv sc scg sch ci cir cipa a_1 a_2 (.ref tp) xtl xfk xfp (.ref rd) (.ref bf) (.ref tr) (.ref hsy) (.ref trs) (.ref ims) (.ref imm) (.ref tu) (.ref gu) xch nwd nwa hnl hnp hnt hns w6 (.ref hha) (.ref hhd) (.ref hhe) n5 fs5 fhb fhc nwfv fscg fsch cip (.ref ciw) fcir fcipa (i_rng _) (i_rng _) hxtl (i_rng _) (i_rng _) (i_rng _) (i_rng _) (i_rng _) b1 b2 (i_rng _) (i_rng _) (by omega) hcip (rg_wide rnwfv (by decide) (by decide)) (rg_wide rfcir (by decide) (by decide)) sz) wm_5_55 wm_5_58 wm_1_1 hd_X11_passed wm_5_56 wm_5_57 (ci := 11) (q0 := 0) rfl rfl ⟨Nat.le_of_ble_eq_true rfl, Nat.le_of_ble_eq_true rfl⟩ hls rfl (Nat.le_of_ble_eq_true rfl) dL_law_1031 ⟨show cells + 0 ≤ 600000 from Nat.le_trans (Nat.add_le_add_right hc0 0) (by decide), show slots + 0 ≤ 7302250 from Nat.le_trans (Nat.add_le_add_right hs0 0) (by decide)⟩ [0, 2, 65, 71, 72, 67, 68, 3, 24, 25, 26, 27, 28, 29] rfl rfl (fun _ => rfl) (fun r_1 u_1 H locs w_1 h_1 => ?_)
      clear h
      obtain ⟨wr_1, w1_0, w1_1, _⟩ := w_1
      replace h_1 := q_pX (ix := [some 0, none, some 1, some 7, none, none, none, none, none, none, none, none, none, none, none, none, none, none, none, none, none, none, none, none, some 8, some 9, some 10, some 11, some 12, some 13, none, none, none, none, none, none, none, none, none, none, none, none, none, none, none, none, none, none, none, none, none, none, none, none, none, none, none, none, none, none, none, none, none, none, none, some 2, none, some 5, some 6, none, none, some 3, some 4]) h_1 rfl rfl (by decide +kernel) rfl (by decide +kernel)
      have hmono : ∀ a, hv a → HouseIn cy pl a := fun a ha => by rw [ehv] at ha; exact ha
      exact kk r_1 _ _ _ (fun _ k_ => k_ (tp) (nw) (nwv) (bf) (bfv) (tr) (trv) (hsy) (trs) (ty0) (ty0r) (ty1) (ty1r) (ty2) (ty2r) (ty3) (ty3r) (ims) (im0) (im0v) (im1) (im1v) (imm) (sc) (scg) (sch) (ci) (cir) (cipa) (ciw) (tu) (tup) (tuq) (tuf) (tub) (gu) (guf) (tk) (tkk) (tkp) (tkv) (rd) (rdc) (hpa) (hh) (hob) (hot) (hoi0) (hoi1) (xtl) (xfk) (xfp) (xch) (nwd) (nwa) (bfd) (bfa) (trd) (tra) (his) (ty0s) (ty0z) (ty1s) (ty1z) (ty2s) (ty2z) (ty3s) (ty3z) (im0d) (im0a) (im1d) (im1a) ((u_1.2.1 3 0)) (tuo) (tut) (tus) (tul) (guo) (gup) (gus) (guz) (tkl) (tkz) (rda) (rdt) (rdf) (rdp) (rdz) (rdn) (tkt) (rto) (ftp) (nwfv) (bffv) (trfv) (ktr) (gty0) (gty1) (gty2) (gty3) (kim) (im0fv) (im1fv) (fimm) ((u_1.2.1 1)) ((u_1.2.1 2)) ((u_1.2.1 0)) ((u_1.2.1 4)) (fciw) (ftup) (ftuq) (ftuf) (ftub) (fguf) (ftkk) (ftkp) (ftkv) (frdc) (vb) (hxtl) (rftp) (rnwfv) (rbffv) (rtrfv) (hhis) (hktr0) (hktr1) (hktr2) (hktr3) (hty0s) (hty0z) (hty1s) (hty1z) (hty2s) (hty2z) (hty3s) (hty3z) (hkim0) (hkim1) (rim0fv) (rim1fv) (w1_1) (w1_0) (htuo) (htut) (htul) (rftuq) (rftuf) (hguo) (hguz) (rfguf) (htkl) (htkz) (hrda) (hrdz) (hb_mono okvb hmono) (hmono _ HHhh) (hmono _ HHhob) (hmono _ HHhot) (hmono _ HHhoi0) (hmono _ HHhoi1) (rfl) (rfl) (rfl) (rfl) rfl rfl) (q_back h_1 hp rfl)
  · skip
    rcases l5 with ⟨rfl, rfl⟩ | ⟨la5, las5, n5, fs5, rfl, hn5, rfl⟩
    · skip
      replace h := q_open h hp
      refine q_callViF (rest := []) X hK hT hA h (fun sz => gX11_passed_33ee011 l D cy x0 nw hh la4 las4 hhb hhc nwv sc scg sch ci cir cipa a_1 a_2 (.ref tp) xtl xfk xfp (.ref rd) (.ref bf) (.ref tr) (.ref hsy) (.ref trs) (.ref ims) (.ref imm) (.ref tu) (.ref gu) xch nwd nwa hnl hnp hnt hns w6 (.ref hha) (.ref hhd) (.ref hhe) n4 fs4 fhb fhc nwfv fscg fsch cip (.ref ciw) fcir fcipa (i_rng _) (i_rng _) hxtl (i_rng _) (i_rng _) (i_rng _) (i_rng _) (i_rng _) b1 b2 (i_rng _) (i_rng _) (by omega) hcip (rg_wide rnwfv (by decide) (by decide)) (rg_wide rfcir (by decide) (by decide)) sz) wm_5_55 wm_5_58 wm_1_1 hd_X11_passed wm_5_56 wm_5_57 (ci := 11) (q0 := 0) rfl rfl ⟨Nat.le_of_ble_eq_true rfl, Nat.le_of_ble_eq_true rfl⟩ hls rfl (Nat.le_of_ble_eq_true rfl) dL_law_1031 ⟨show cells + 0 ≤ 600000 from Nat.le_trans (Nat.add_le_add_right hc0 0) (by decide), show slots + 0 ≤ 7302250 from Nat.le_trans (Nat.add_le_add_right hs0 0) (by decide)⟩ [0, 2, 65, 71, 72, 67, 68, 3, 24, 25, 26, 27, 28, 29] rfl rfl (fun _ => rfl) (fun r_1 u_1 H locs w_1 h_1 => ?_)
      clear h
      obtain ⟨wr_1, w1_0, w1_1, _⟩ := w_1
      replace h_1 := q_pX (ix := [some 0, none, some 1, some 7, none, none, none, none, none, none, none, none, none, none, none, none, none, none, none, none, none, none, none, none, some 8, some 9, some 10, some 11, some 12, some 13, none, none, none, none, none, none, none, none, none, none, none, none, none, none, none, none, none, none, none, none, none, none, none, none, none, none, none, none, none, none, none, none, none, none, none, some 2, none, some 5, some 6, none, none, some 3, some 4]) h_1 rfl rfl (by decide +kernel) rfl (by decide +kernel)
      have hmono : ∀ a, hv a → HouseIn cy pl a := fun a ha => by rw [ehv] at ha; exact ha
      exact kk r_1 _ _ _ (fun _ k_ => k_ (tp) (nw) (nwv) (bf) (bfv) (tr) (trv) (hsy) (trs) (ty0) (ty0r) (ty1) (ty1r) (ty2) (ty2r) (ty3) (ty3r) (ims) (im0) (im0v) (im1) (im1v) (imm) (sc) (scg) (sch) (ci) (cir) (cipa) (ciw) (tu) (tup) (tuq) (tuf) (tub) (gu) (guf) (tk) (tkk) (tkp) (tkv) (rd) (rdc) (hpa) (hh) (hob) (hot) (hoi0) (hoi1) (xtl) (xfk) (xfp) (xch) (nwd) (nwa) (bfd) (bfa) (trd) (tra) (his) (ty0s) (ty0z) (ty1s) (ty1z) (ty2s) (ty2z) (ty3s) (ty3z) (im0d) (im0a) (im1d) (im1a) ((u_1.2.1 3 0)) (tuo) (tut) (tus) (tul) (guo) (gup) (gus) (guz) (tkl) (tkz) (rda) (rdt) (rdf) (rdp) (rdz) (rdn) (tkt) (rto) (ftp) (nwfv) (bffv) (trfv) (ktr) (gty0) (gty1) (gty2) (gty3) (kim) (im0fv) (im1fv) (fimm) ((u_1.2.1 0)) ((u_1.2.1 1)) ((u_1.2.1 2)) ((u_1.2.1 4)) (fciw) (ftup) (ftuq) (ftuf) (ftub) (fguf) (ftkk) (ftkp) (ftkv) (frdc) (vb) (hxtl) (rftp) (rnwfv) (rbffv) (rtrfv) (hhis) (hktr0) (hktr1) (hktr2) (hktr3) (hty0s) (hty0z) (hty1s) (hty1z) (hty2s) (hty2z) (hty3s) (hty3z) (hkim0) (hkim1) (rim0fv) (rim1fv) (w1_1) (w1_0) (htuo) (htut) (htul) (rftuq) (rftuf) (hguo) (hguz) (rfguf) (htkl) (htkz) (hrda) (hrdz) (hb_mono okvb hmono) (hmono _ HHhh) (hmono _ HHhob) (hmono _ HHhot) (hmono _ HHhoi0) (hmono _ HHhoi1) (rfl) (rfl) (rfl) (rfl) rfl rfl) (q_back h_1 hp rfl)
    · skip
      replace h := q_open h hp
      refine q_callViF (rest := []) X hK hT hA h (fun sz => gX11_passed_7290e24 l D cy x0 nw hh la4 las4 la5 las5 hhb hhc nwv sc scg sch ci cir cipa a_1 a_2 (.ref tp) xtl xfk xfp (.ref rd) (.ref bf) (.ref tr) (.ref hsy) (.ref trs) (.ref ims) (.ref imm) (.ref tu) (.ref gu) xch nwd nwa hnl hnp hnt hns w6 (.ref hha) (.ref hhd) (.ref hhe) n4 fs4 n5 fs5 fhb fhc nwfv fscg fsch cip (.ref ciw) fcir fcipa (i_rng _) (i_rng _) hxtl (i_rng _) (i_rng _) (i_rng _) (i_rng _) (i_rng _) b1 b2 (i_rng _) (i_rng _) (by omega) (by omega) hcip (rg_wide rnwfv (by decide) (by decide)) (rg_wide rfcir (by decide) (by decide)) sz) wm_5_55 wm_5_58 wm_1_1 hd_X11_passed wm_5_56 wm_5_57 (ci := 11) (q0 := 0) rfl rfl ⟨Nat.le_of_ble_eq_true rfl, Nat.le_of_ble_eq_true rfl⟩ hls rfl (Nat.le_of_ble_eq_true rfl) dL_law_1031 ⟨show cells + 0 ≤ 600000 from Nat.le_trans (Nat.add_le_add_right hc0 0) (by decide), show slots + 0 ≤ 7302250 from Nat.le_trans (Nat.add_le_add_right hs0 0) (by decide)⟩ [0, 2, 65, 71, 72, 73, 74, 67, 68, 3, 24, 25, 26, 27, 28, 29] rfl rfl (fun _ => rfl) (fun r_1 u_1 H locs w_1 h_1 => ?_)
      clear h
      obtain ⟨wr_1, w1_0, w1_1, _⟩ := w_1
      replace h_1 := q_pX (ix := [some 0, none, some 1, some 9, none, none, none, none, none, none, none, none, none, none, none, none, none, none, none, none, none, none, none, none, some 10, some 11, some 12, some 13, some 14, some 15, none, none, none, none, none, none, none, none, none, none, none, none, none, none, none, none, none, none, none, none, none, none, none, none, none, none, none, none, none, none, none, none, none, none, none, some 2, none, some 7, some 8, none, none, some 3, some 4, some 5, some 6]) h_1 rfl rfl (by decide +kernel) rfl (by decide +kernel)
      have hmono : ∀ a, hv a → HouseIn cy pl a := fun a ha => by rw [ehv] at ha; exact ha
      exact kk r_1 _ _ _ (fun _ k_ => k_ (tp) (nw) (nwv) (bf) (bfv) (tr) (trv) (hsy) (trs) (ty0) (ty0r) (ty1) (ty1r) (ty2) (ty2r) (ty3) (ty3r) (ims) (im0) (im0v) (im1) (im1v) (imm) (sc) (scg) (sch) (ci) (cir) (cipa) (ciw) (tu) (tup) (tuq) (tuf) (tub) (gu) (guf) (tk) (tkk) (tkp) (tkv) (rd) (rdc) (hpa) (hh) (hob) (hot) (hoi0) (hoi1) (xtl) (xfk) (xfp) (xch) (nwd) (nwa) (bfd) (bfa) (trd) (tra) (his) (ty0s) (ty0z) (ty1s) (ty1z) (ty2s) (ty2z) (ty3s) (ty3z) (im0d) (im0a) (im1d) (im1a) ((u_1.2.1 3 0)) (tuo) (tut) (tus) (tul) (guo) (gup) (gus) (guz) (tkl) (tkz) (rda) (rdt) (rdf) (rdp) (rdz) (rdn) (tkt) (rto) (ftp) (nwfv) (bffv) (trfv) (ktr) (gty0) (gty1) (gty2) (gty3) (kim) (im0fv) (im1fv) (fimm) ((u_1.2.1 1)) ((u_1.2.1 2)) ((u_1.2.1 0)) ((u_1.2.1 4)) (fciw) (ftup) (ftuq) (ftuf) (ftub) (fguf) (ftkk) (ftkp) (ftkv) (frdc) (vb) (hxtl) (rftp) (rnwfv) (rbffv) (rtrfv) (hhis) (hktr0) (hktr1) (hktr2) (hktr3) (hty0s) (hty0z) (hty1s) (hty1z) (hty2s) (hty2z) (hty3s) (hty3z) (hkim0) (hkim1) (rim0fv) (rim1fv) (w1_1) (w1_0) (htuo) (htut) (htul) (rftuq) (rftuf) (hguo) (hguz) (rfguf) (htkl) (htkz) (hrda) (hrdz) (hb_mono okvb hmono) (hmono _ HHhh) (hmono _ HHhob) (hmono _ HHhot) (hmono _ HHhoi0) (hmono _ HHhoi1) (rfl) (rfl) (rfl) (rfl) rfl rfl) (q_back h_1 hp rfl)
set_option maxHeartbeats 8000000 in
set_option maxRecDepth 100000 in
theorem mc_passed (l : Launch) {p : Program} {e : Env} {s : State} {m : MethodId} {below : List Frame} {meth : Method} {c : Code} {b : Nat} {Q : State → Prop} {D : va_G} {cy : Nat → ClassId} {H : Heap} {locs : List Loc} {ls : Array Slot} (X : qX p s m #[Value.ref b] c cL_law 4 RL) (hK : qK D cy s) (hT : qT cy (fun q => s.heap.size ≤ q) s) (hls : ls.size = 4) {m0 cells slots : Nat} {P wm : va_W} {a_1 : Int32} {a_2 : Int32} {gt : Int} {gb : Nat → Int} {gf : Int} {gp : Int} (hc0 : cells ≤ 26000) (hs0 : slots ≤ 5720000) (hM : MOK cy m0 wm gt gb gf gp) (h : qW D (fun q => s.heap.size ≤ q) s.heap (wm ++ P) H locs) (kk : ∀ (r : Int32) (H : Heap) (locs : List Loc) (w2 : va_W), MOK cy m0 w2 gt gb gf gp → qW D (fun q => s.heap.size ≤ q) s.heap (w2 ++ P) H locs → W p l e room_1 s m #[Value.ref b] below meth c H locs cells slots Q (F0 m 1049 ls [.int r])) : W p l e room_1 s m #[Value.ref b] below meth c H locs cells slots Q (F0 m 1046 ls [.int a_2, .int a_1, .ref m0]) := by
  have hA : ∀ q : Nat, s.heap.size ≤ q → (fun q => s.heap.size ≤ q) q := fun _ h => h
  refine hM _ ?_
  clear hM
  intros al hs mtp fr rec wds swd opd was par wth bwt met mtw_ mtf trn ism rso rmy nms mth mtd mat mbh msz mki mnu mwr mwa mfk mfp mrd mtw mx mbt mbw mtu nde fnl fnv fnp fnc fal fhs fmtp ffr frec fwds fswd fopd fwas fpar fwth fbwt fmet fmtw fmtf ftrn fism frso frmy gnms hmtd hmat hmbh hmsz hmnu hnde htal_84 rfal hfnl htfr_0 htfr_1 hfnp htfr_2 hfnc htfr_405 rfswd rfopd rfwas rfmet rfrmy eg0 eg1 eg2 eg3 hw_
  subst eg0
  subst eg1
  subst eg2
  subst eg3
  subst hw_
  refine q_callViF (rest := []) X hK hT hA h (fun sz => gX12_passed_4915792 l D cy m0 al rec wds opd par a_1 a_2 mth (.ref hs) (.ref mtp) (.ref fr) mtd mat mbh msz mki mnu mwr mwa mfk mfp mrd (.ref swd) (.ref was) mtw mx (.ref wth) (.ref bwt) mbt mbw (.ref met) (.ref mtw_) (.ref mtf) (.ref trn) (.ref ism) mtu (.ref rso) (.ref rmy) (.ref nms) fal nde frec fwds fopd fpar (i_rng _) (i_rng _) (i_rng _) hmtd hmat hmbh hmsz (i_rng _) hmnu (i_rng _) (i_rng _) (i_rng _) (i_rng _) (i_rng _) (i_rng _) (i_rng _) (i_rng _) (i_rng _) (i_rng _) hnde htal_84 rfal (rg_wide rfopd (by decide) (by decide)) sz) wm_7_211 wm_7_214 wm_1_12 hd_X12_passed wm_7_212 wm_7_213 (ci := 12) (q0 := 0) rfl rfl ⟨Nat.le_of_ble_eq_true rfl, Nat.le_of_ble_eq_true rfl⟩ hls rfl (Nat.le_of_ble_eq_true rfl) dL_law_1046 ⟨show cells + 0 ≤ 600000 from Nat.le_trans (Nat.add_le_add_right hc0 0) (by decide), show slots + 0 ≤ 7302250 from Nat.le_trans (Nat.add_le_add_right hs0 0) (by decide)⟩ [0, 1, 5, 6, 8, 10] rfl rfl (fun _ => rfl) (fun r_1 u_1 H locs w_1 h_1 => ?_)
  clear h
  obtain ⟨wr_1, w1_0, w1_1, _⟩ := w_1
  replace h_1 := q_pX (ix := [some 0, some 1, none, none, none, some 2, some 3, none, some 4, none, some 5, none, none, none, none, none, none, none, none, none, none]) h_1 rfl rfl (by decide +kernel) rfl (by decide +kernel)
  exact kk r_1 _ _ _ (fun _ k_ => k_ (al) (hs) (mtp) (fr) (rec) (wds) (swd) (opd) (was) (par) (wth) (bwt) (met) (mtw_) (mtf) (trn) (ism) (rso) (rmy) (nms) ((u_1.2.1 1 0)) (mtd) (mat) (mbh) (msz) (mki) (mnu) (mwr) (mwa) (mfk) (mfp) (mrd) (mtw) (mx) (mbt) (mbw) (mtu) (nde) (fnl) (fnv) (fnp) (fnc) (fal) (fhs) (fmtp) (ffr) ((u_1.2.1 2)) ((u_1.2.1 3)) (fswd) ((u_1.2.1 0)) (fwas) ((u_1.2.1 4)) (fwth) (fbwt) (fmet) (fmtw) (fmtf) (ftrn) (fism) (frso) (frmy) (gnms) (hmtd) (hmat) (hmbh) (hmsz) (hmnu) (hnde) (htal_84) (rfal) (hfnl) (htfr_0) (htfr_1) (hfnp) (htfr_2) (hfnc) (htfr_405) (rfswd) (w1_0) (rfwas) (rfmet) (rfrmy) (rfl) (rfl) (rfl) (rfl) rfl) h_1
set_option maxHeartbeats 8000000 in
set_option maxRecDepth 100000 in
theorem lc_passed (l : Launch) {p : Program} {e : Env} {s : State} {m : MethodId} {below : List Frame} {meth : Method} {c : Code} {b : Nat} {xs : Nat → Int32} {Q : State → Prop} {D : va_G} {cy : Nat → ClassId} {H : Heap} {locs : List Loc} {ls : Array Slot} {x0 m0 L k cells slots : Nat} {i : Int32} {tl : Int} (X : qX p s m #[Value.ref b] c cL_law 4 RL) (hK : qK D cy s) (hT : qT cy (fun q => s.heap.size ≤ q) s) (hX : va_X b L xs s s.heap) (hbl : b < s.heap.size) (hi : 0 ≤ i.toInt ∧ i.toInt + 6 ≤ L ∧ L ≤ 3072) (hk : k < 512) (hcell : cells + tl.toNat ≤ 200 + 50 * k) (hslot : slots + 451 * tl.toNat ≤ 30000 + 11100 * k) (hl : lv_has ls 4 [(3, .int i), (2, .ref m0), (1, .ref x0), (0, .ref b)]) (hI : LInv cy D (fun q => s.heap.size ≤ q) s.heap x0 m0 H locs tl) (kk : ∀ (H : Heap) (locs : List Loc) (ls : Array Slot) (cells slots : Nat) (tl : Int), lv_has ls 4 [(3, .int i), (2, .ref m0), (1, .ref x0), (0, .ref b)] → LInv cy D (fun q => s.heap.size ≤ q) s.heap x0 m0 H locs tl → cells + tl.toNat ≤ 200 + 50 * (k + 1) → slots + 451 * tl.toNat ≤ 30000 + 11100 * (k + 1) → W p l e room_1 s m #[Value.ref b] below meth c H locs cells slots Q (F0 m 1459 ls [])) : W p l e room_1 s m #[Value.ref b] below meth c H locs cells slots Q (F0 m 1020 ls []) := by
  obtain ⟨hx, hb, hml, hown, ht⟩ := id X
  have hA : ∀ q : Nat, s.heap.size ≤ q → (fun q => s.heap.size ≤ q) q := fun _ h => h
  have hbA : ¬ (fun q : Nat => s.heap.size ≤ q) b := Nat.not_le.mpr hbl
  have hc0 : cells ≤ 26000 := by omega
  have hs0 : slots ≤ 5720000 := by omega
  obtain ⟨gt, gb, gf, gp, wm, wx, pl, hMo, hXo, h⟩ := hI
  refine lv_aload_n hx hb dL_law_1020 rfl (lv_at hl 2 rfl) ?_
  refine lv_aload_n hx hb dL_law_1021 rfl (lv_at hl 3 rfl) ?_
  refine lv_iload_n hx hb dL_law_1022 rfl (lv_at hl 0 rfl) ?_
  refine lv_iconst (v := 1) hx hb dL_law_1023 (by decide) ?_
  refine lv_iadd hx hb dL_law_1024 ?_
  obtain ⟨z_1, ez_1, hz_1⟩ := li_add hi 1 (n := 1) (by decide) (by decide) (by decide)
  refine q_c z_1 ez_1 ?_
  clear ez_1
  refine va_sld hx hb hX hbl hbA h.2.2 (li_in hi hz_1 (by decide) (by decide)) dL_law_1025 ?_
  obtain ⟨x_1, ex_1, hx_1⟩ := e_any (xs (z_1).toNatClampNeg)
  refine q_c x_1 ex_1 ?_
  refine lv_aload_n hx hb dL_law_1026 rfl (lv_at hl 3 rfl) ?_
  refine lv_iload_n hx hb dL_law_1027 rfl (lv_at hl 0 rfl) ?_
  refine lv_iconst (v := 2) hx hb dL_law_1028 (by decide) ?_
  refine lv_iadd hx hb dL_law_1029 ?_
  obtain ⟨z_2, ez_2, hz_2⟩ := li_add hi 2 (n := 2) (by decide) (by decide) (by decide)
  refine q_c z_2 ez_2 ?_
  clear ez_2
  refine va_sld hx hb hX hbl hbA h.2.2 (li_in hi hz_2 (by decide) (by decide)) dL_law_1030 ?_
  obtain ⟨x_2, ex_2, hx_2⟩ := e_any (xs (z_2).toNatClampNeg)
  refine q_c x_2 ex_2 ?_
  replace h := q_rotX h
  refine xc_passed l X hK hT hl.1 hc0 hs0 hXo h (fun r_3 H locs wx hXo h => ?_)
  refine lv_pop hx hb dL_law_1034 rfl ?_
  refine lv_aload_n hx hb dL_law_1035 rfl (lv_at hl 1 rfl) ?_
  refine lv_aload_n hx hb dL_law_1036 rfl (lv_at hl 3 rfl) ?_
  refine lv_iload_n hx hb dL_law_1037 rfl (lv_at hl 0 rfl) ?_
  refine lv_iconst (v := 1) hx hb dL_law_1038 (by decide) ?_
  refine lv_iadd hx hb dL_law_1039 ?_
  obtain ⟨z_4, ez_4, hz_4⟩ := li_add hi 1 (n := 1) (by decide) (by decide) (by decide)
  refine q_c z_4 ez_4 ?_
  clear ez_4
  refine va_sld hx hb hX hbl hbA h.2.2 (li_in hi hz_4 (by decide) (by decide)) dL_law_1040 ?_
  refine q_c x_1 ((congrArg xs (cl_eq (x := z_4) (y := z_1) (hz_4.trans hz_1.symm))).trans ex_1) ?_
  refine lv_aload_n hx hb dL_law_1041 rfl (lv_at hl 3 rfl) ?_
  refine lv_iload_n hx hb dL_law_1042 rfl (lv_at hl 0 rfl) ?_
  refine lv_iconst (v := 2) hx hb dL_law_1043 (by decide) ?_
  refine lv_iadd hx hb dL_law_1044 ?_
  obtain ⟨z_5, ez_5, hz_5⟩ := li_add hi 2 (n := 2) (by decide) (by decide) (by decide)
  refine q_c z_5 ez_5 ?_
  clear ez_5
  refine va_sld hx hb hX hbl hbA h.2.2 (li_in hi hz_5 (by decide) (by decide)) dL_law_1045 ?_
  refine q_c x_2 ((congrArg xs (cl_eq (x := z_5) (y := z_2) (hz_5.trans hz_2.symm))).trans ex_2) ?_
  replace h := q_rotM h
  refine mc_passed l X hK hT hl.1 hc0 hs0 hMo h (fun r_6 H locs wm hMo h => ?_)
  refine lv_pop hx hb dL_law_1049 rfl ?_
  refine lv_goto (tgt := 1459) hx hb dL_law_1050 (by decide) ?_
  exact kk _ _ _ cells slots tl (lv_sub hl [0, 1, 2, 3] rfl) ⟨_, _, _, _, _, _, _, hMo, hXo, h⟩ (li_c hcell) (li_s hslot)
set_option maxHeartbeats 8000000 in
set_option maxRecDepth 100000 in
theorem xc_easiest (l : Launch) {p : Program} {e : Env} {s : State} {m : MethodId} {below : List Frame} {meth : Method} {c : Code} {b : Nat} {Q : State → Prop} {D : va_G} {cy : Nat → ClassId} {H : Heap} {locs : List Loc} {ls : Array Slot} (X : qX p s m #[Value.ref b] c cL_law 4 RL) (hK : qK D cy s) (hT : qT cy (fun q => s.heap.size ≤ q) s) (hls : ls.size = 4) {x0 cells slots : Nat} {P pl wx : va_W} {tl : Int}  {gt : Int} {gb : Nat → Int} {gf : Int} {gp : Int} (hc0 : cells ≤ 26000) (hs0 : slots ≤ 5720000) (hX : XOK cy x0 pl wx tl gt gb gf gp) (h : qW D (fun q => s.heap.size ≤ q) s.heap (wx ++ (pl ++ P)) H locs) (kk : ∀ (r : Int32) (H : Heap) (locs : List Loc) (w2 : va_W), XOK cy x0 pl w2 tl gt gb gf gp → qW D (fun q => s.heap.size ≤ q) s.heap (w2 ++ (pl ++ P)) H locs → W p l e room_1 s m #[Value.ref b] below meth c H locs cells slots Q (F0 m 1057 ls [.int r])) : W p l e room_1 s m #[Value.ref b] below meth c H locs cells slots Q (F0 m 1054 ls [.ref x0]) := by
  have hA : ∀ q : Nat, s.heap.size ≤ q → (fun q => s.heap.size ≤ q) q := fun _ h => h
  refine hX _ ?_
  clear hX
  intros tp nw nwv bf bfv tr trv hsy trs ty0 ty0r ty1 ty1r ty2 ty2r ty3 ty3r ims im0 im0v im1 im1v imm sc scg sch ci cir cipa ciw tu tup tuq tuf tub gu guf tk tkk tkp tkv rd rdc hpa hh hob hot hoi0 hoi1 xtl xfk xfp xch nwd nwa bfd bfa trd tra his ty0s ty0z ty1s ty1z ty2s ty2z ty3s ty3z im0d im0a im1d im1a cip tuo tut tus tul guo gup gus guz tkl tkz rda rdt rdf rdp rdz rdn tkt rto ftp nwfv bffv trfv ktr gty0 gty1 gty2 gty3 kim im0fv im1fv fimm fscg fsch fcir fcipa fciw ftup ftuq ftuf ftub fguf ftkk ftkp ftkv frdc vb hxtl rftp rnwfv rbffv rtrfv hhis hktr0 hktr1 hktr2 hktr3 hty0s hty0z hty1s hty1z hty2s hty2z hty3s hty3z hkim0 hkim1 rim0fv rim1fv hcip rfcir htuo htut htul rftuq rftuf hguo hguz rfguf htkl htkz hrda hrdz okvb HHhh HHhob HHhot HHhoi0 HHhoi1 eg0 eg1 eg2 eg3 htl hw_
  subst eg0
  subst eg1
  subst eg2
  subst eg3
  subst htl
  subst hw_
  have HX := HHhh
  obtain ⟨hv, ehv⟩ : ∃ hv : Nat → Prop, hv = HouseIn cy pl := ⟨_, rfl⟩
  rw [← ehv] at okvb HHhh HHhob HHhot HHhoi0 HHhoi1
  obtain ⟨hnl, hnp, hnt, hns, w4, w5, w6, hha, hhb, hhc, hhd, hhe, fha, fhb, fhc, fhd, fhe, L4, L5, L6, b1, b2, b3, l4, l5, l6, hm, hn⟩ := HX
  obtain ⟨r, hp⟩ := house_pick hm hn (L4 ++ L5) (List.sublist_append_left _ _)
  rcases l4 with ⟨rfl, rfl⟩ | ⟨la4, las4, n4, fs4, rfl, hn4, rfl⟩
  · skip
    rcases l5 with ⟨rfl, rfl⟩ | ⟨la5, las5, n5, fs5, rfl, hn5, rfl⟩
    · skip
      replace h := q_open h hp
      refine q_callViF (rest := []) X hK hT hA h (fun sz => gX11_easiest_a5e985f l D cy x0 nw hh hhb hhc nwv sc ci cir cipa (.ref tp) xtl xfk xfp (.ref rd) (.ref bf) (.ref tr) (.ref hsy) (.ref trs) (.ref ims) (.ref imm) (.ref tu) (.ref gu) xch nwd nwa hnl hnp hnt hns w6 (.ref hha) (.ref hhd) (.ref hhe) fhb fhc nwfv (.ref scg) (.ref sch) cip (.ref ciw) fcir fcipa hxtl (i_rng _) (i_rng _) (i_rng _) (i_rng _) (i_rng _) b1 b2 (i_rng _) (i_rng _) hcip (rg_wide rnwfv (by decide) (by decide)) (rg_wide rfcir (by decide) (by decide)) sz) wm_5_63 wm_5_66 wm_1_1 hd_X11_easiest wm_5_64 wm_5_65 (ci := 11) (q0 := 0) rfl rfl ⟨Nat.le_of_ble_eq_true rfl, Nat.le_of_ble_eq_true rfl⟩ hls rfl (Nat.le_of_ble_eq_true rfl) dL_law_1054 ⟨show cells + 0 ≤ 600000 from Nat.le_trans (Nat.add_le_add_right hc0 0) (by decide), show slots + 0 ≤ 7302250 from Nat.le_trans (Nat.add_le_add_right hs0 0) (by decide)⟩ [0, 2, 65, 67, 68, 3, 24, 27, 28, 29] rfl rfl (fun _ => rfl) (fun r_1 u_1 H locs w_1 h_1 => ?_)
      clear h
      obtain ⟨wr_1, w1_0, w1_1, _⟩ := w_1
      replace h_1 := q_pX (ix := [some 0, none, some 1, some 5, none, none, none, none, none, none, none, none, none, none, none, none, none, none, none, none, none, none, none, none, some 6, none, none, some 7, some 8, some 9, none, none, none, none, none, none, none, none, none, none, none, none, none, none, none, none, none, none, none, none, none, none, none, none, none, none, none, none, none, none, none, none, none, none, none, some 2, none, some 3, some 4, none, none]) h_1 rfl rfl (by decide +kernel) rfl (by decide +kernel)
      have hmono : ∀ a, hv a → HouseIn cy pl a := fun a ha => by rw [ehv] at ha; exact ha
      exact kk r_1 _ _ _ (fun _ k_ => k_ (tp) (nw) (nwv) (bf) (bfv) (tr) (trv) (hsy) (trs) (ty0) (ty0r) (ty1) (ty1r) (ty2) (ty2r) (ty3) (ty3r) (ims) (im0) (im0v) (im1) (im1v) (imm) (sc) (scg) (sch) (ci) (cir) (cipa) (ciw) (tu) (tup) (tuq) (tuf) (tub) (gu) (guf) (tk) (tkk) (tkp) (tkv) (rd) (rdc) (hpa) (hh) (hob) (hot) (hoi0) (hoi1) (xtl) (xfk) (xfp) (xch) (nwd) (nwa) (bfd) (bfa) (trd) (tra) (his) (ty0s) (ty0z) (ty1s) (ty1z) (ty2s) (ty2z) (ty3s) (ty3z) (im0d) (im0a) (im1d) (im1a) ((u_1.2.1 0 0)) (tuo) (tut) (tus) (tul) (guo) (gup) (gus) (guz) (tkl) (tkz) (rda) (rdt) (rdf) (rdp) (rdz) (rdn) (tkt) (rto) (ftp) (nwfv) (bffv) (trfv) (ktr) (gty0) (gty1) (gty2) (gty3) (kim) (im0fv) (im1fv) (fimm) (fscg) (fsch) ((u_1.2.1 1)) ((u_1.2.1 2)) (fciw) (ftup) (ftuq) (ftuf) (ftub) (fguf) (ftkk) (ftkp) (ftkv) (frdc) (vb) (hxtl) (rftp) (rnwfv) (rbffv) (rtrfv) (hhis) (hktr0) (hktr1) (hktr2) (hktr3) (hty0s) (hty0z) (hty1s) (hty1z) (hty2s) (hty2z) (hty3s) (hty3z) (hkim0) (hkim1) (rim0fv) (rim1fv) (w1_0) (w1_1) (htuo) (htut) (htul) (rftuq) (rftuf) (hguo) (hguz) (rfguf) (htkl) (htkz) (hrda) (hrdz) (hb_mono okvb hmono) (hmono _ HHhh) (hmono _ HHhob) (hmono _ HHhot) (hmono _ HHhoi0) (hmono _ HHhoi1) (rfl) (rfl) (rfl) (rfl) rfl rfl) (q_back h_1 hp rfl)
    · skip
      replace h := q_open h hp
      refine q_callViF (rest := []) X hK hT hA h (fun sz => gX11_easiest_557f566 l D cy x0 nw hh la5 las5 hhb hhc nwv sc scg sch ci cir cipa (.ref tp) xtl xfk xfp (.ref rd) (.ref bf) (.ref tr) (.ref hsy) (.ref trs) (.ref ims) (.ref imm) (.ref tu) (.ref gu) xch nwd nwa hnl hnp hnt hns w6 (.ref hha) (.ref hhd) (.ref hhe) n5 fs5 fhb fhc nwfv fscg fsch cip (.ref ciw) fcir fcipa hxtl (i_rng _) (i_rng _) (i_rng _) (i_rng _) (i_rng _) b1 b2 (i_rng _) (i_rng _) (by omega) hcip (rg_wide rnwfv (by decide) (by decide)) (rg_wide rfcir (by decide) (by decide)) sz) wm_5_63 wm_5_66 wm_1_1 hd_X11_easiest wm_5_64 wm_5_65 (ci := 11) (q0 := 0) rfl rfl ⟨Nat.le_of_ble_eq_true rfl, Nat.le_of_ble_eq_true rfl⟩ hls rfl (Nat.le_of_ble_eq_true rfl) dL_law_1054 ⟨show cells + 0 ≤ 600000 from Nat.le_trans (Nat.add_le_add_right hc0 0) (by decide), show slots + 0 ≤ 7302250 from Nat.le_trans (Nat.add_le_add_right hs0 0) (by decide)⟩ [0, 2, 65, 71, 72, 67, 68, 3, 24, 25, 26, 27, 28, 29] rfl rfl (fun _ => rfl) (fun r_1 u_1 H locs w_1 h_1 => ?_)
      clear h
      obtain ⟨wr_1, w1_0, w1_1, _⟩ := w_1
      replace h_1 := q_pX (ix := [some 0, none, some 1, some 7, none, none, none, none, none, none, none, none, none, none, none, none, none, none, none, none, none, none, none, none, some 8, some 9, some 10, some 11, some 12, some 13, none, none, none, none, none, none, none, none, none, none, none, none, none, none, none, none, none, none, none, none, none, none, none, none, none, none, none, none, none, none, none, none, none, none, none, some 2, none, some 5, some 6, none, none, some 3, some 4]) h_1 rfl rfl (by decide +kernel) rfl (by decide +kernel)
      have hmono : ∀ a, hv a → HouseIn cy pl a := fun a ha => by rw [ehv] at ha; exact ha
      exact kk r_1 _ _ _ (fun _ k_ => k_ (tp) (nw) (nwv) (bf) (bfv) (tr) (trv) (hsy) (trs) (ty0) (ty0r) (ty1) (ty1r) (ty2) (ty2r) (ty3) (ty3r) (ims) (im0) (im0v) (im1) (im1v) (imm) (sc) (scg) (sch) (ci) (cir) (cipa) (ciw) (tu) (tup) (tuq) (tuf) (tub) (gu) (guf) (tk) (tkk) (tkp) (tkv) (rd) (rdc) (hpa) (hh) (hob) (hot) (hoi0) (hoi1) (xtl) (xfk) (xfp) (xch) (nwd) (nwa) (bfd) (bfa) (trd) (tra) (his) (ty0s) (ty0z) (ty1s) (ty1z) (ty2s) (ty2z) (ty3s) (ty3z) (im0d) (im0a) (im1d) (im1a) ((u_1.2.1 2 0)) (tuo) (tut) (tus) (tul) (guo) (gup) (gus) (guz) (tkl) (tkz) (rda) (rdt) (rdf) (rdp) (rdz) (rdn) (tkt) (rto) (ftp) (nwfv) (bffv) (trfv) (ktr) (gty0) (gty1) (gty2) (gty3) (kim) (im0fv) (im1fv) (fimm) ((u_1.2.1 0)) ((u_1.2.1 1)) ((u_1.2.1 3)) ((u_1.2.1 4)) (fciw) (ftup) (ftuq) (ftuf) (ftub) (fguf) (ftkk) (ftkp) (ftkv) (frdc) (vb) (hxtl) (rftp) (rnwfv) (rbffv) (rtrfv) (hhis) (hktr0) (hktr1) (hktr2) (hktr3) (hty0s) (hty0z) (hty1s) (hty1z) (hty2s) (hty2z) (hty3s) (hty3z) (hkim0) (hkim1) (rim0fv) (rim1fv) (w1_0) (w1_1) (htuo) (htut) (htul) (rftuq) (rftuf) (hguo) (hguz) (rfguf) (htkl) (htkz) (hrda) (hrdz) (hb_mono okvb hmono) (hmono _ HHhh) (hmono _ HHhob) (hmono _ HHhot) (hmono _ HHhoi0) (hmono _ HHhoi1) (rfl) (rfl) (rfl) (rfl) rfl rfl) (q_back h_1 hp rfl)
  · skip
    rcases l5 with ⟨rfl, rfl⟩ | ⟨la5, las5, n5, fs5, rfl, hn5, rfl⟩
    · skip
      replace h := q_open h hp
      refine q_callViF (rest := []) X hK hT hA h (fun sz => gX11_easiest_532b4a9 l D cy x0 nw hh la4 las4 hhb hhc nwv sc scg sch ci cir cipa (.ref tp) xtl xfk xfp (.ref rd) (.ref bf) (.ref tr) (.ref hsy) (.ref trs) (.ref ims) (.ref imm) (.ref tu) (.ref gu) xch nwd nwa hnl hnp hnt hns w6 (.ref hha) (.ref hhd) (.ref hhe) n4 fs4 fhb fhc nwfv fscg fsch cip (.ref ciw) fcir fcipa hxtl (i_rng _) (i_rng _) (i_rng _) (i_rng _) (i_rng _) b1 b2 (i_rng _) (i_rng _) (by omega) hcip (rg_wide rnwfv (by decide) (by decide)) (rg_wide rfcir (by decide) (by decide)) sz) wm_5_63 wm_5_66 wm_1_1 hd_X11_easiest wm_5_64 wm_5_65 (ci := 11) (q0 := 0) rfl rfl ⟨Nat.le_of_ble_eq_true rfl, Nat.le_of_ble_eq_true rfl⟩ hls rfl (Nat.le_of_ble_eq_true rfl) dL_law_1054 ⟨show cells + 0 ≤ 600000 from Nat.le_trans (Nat.add_le_add_right hc0 0) (by decide), show slots + 0 ≤ 7302250 from Nat.le_trans (Nat.add_le_add_right hs0 0) (by decide)⟩ [0, 2, 65, 71, 72, 67, 68, 3, 24, 25, 26, 27, 28, 29] rfl rfl (fun _ => rfl) (fun r_1 u_1 H locs w_1 h_1 => ?_)
      clear h
      obtain ⟨wr_1, w1_0, w1_1, _⟩ := w_1
      replace h_1 := q_pX (ix := [some 0, none, some 1, some 7, none, none, none, none, none, none, none, none, none, none, none, none, none, none, none, none, none, none, none, none, some 8, some 9, some 10, some 11, some 12, some 13, none, none, none, none, none, none, none, none, none, none, none, none, none, none, none, none, none, none, none, none, none, none, none, none, none, none, none, none, none, none, none, none, none, none, none, some 2, none, some 5, some 6, none, none, some 3, some 4]) h_1 rfl rfl (by decide +kernel) rfl (by decide +kernel)
      have hmono : ∀ a, hv a → HouseIn cy pl a := fun a ha => by rw [ehv] at ha; exact ha
      exact kk r_1 _ _ _ (fun _ k_ => k_ (tp) (nw) (nwv) (bf) (bfv) (tr) (trv) (hsy) (trs) (ty0) (ty0r) (ty1) (ty1r) (ty2) (ty2r) (ty3) (ty3r) (ims) (im0) (im0v) (im1) (im1v) (imm) (sc) (scg) (sch) (ci) (cir) (cipa) (ciw) (tu) (tup) (tuq) (tuf) (tub) (gu) (guf) (tk) (tkk) (tkp) (tkv) (rd) (rdc) (hpa) (hh) (hob) (hot) (hoi0) (hoi1) (xtl) (xfk) (xfp) (xch) (nwd) (nwa) (bfd) (bfa) (trd) (tra) (his) (ty0s) (ty0z) (ty1s) (ty1z) (ty2s) (ty2z) (ty3s) (ty3z) (im0d) (im0a) (im1d) (im1a) ((u_1.2.1 2 0)) (tuo) (tut) (tus) (tul) (guo) (gup) (gus) (guz) (tkl) (tkz) (rda) (rdt) (rdf) (rdp) (rdz) (rdn) (tkt) (rto) (ftp) (nwfv) (bffv) (trfv) (ktr) (gty0) (gty1) (gty2) (gty3) (kim) (im0fv) (im1fv) (fimm) ((u_1.2.1 0)) ((u_1.2.1 1)) ((u_1.2.1 3)) ((u_1.2.1 4)) (fciw) (ftup) (ftuq) (ftuf) (ftub) (fguf) (ftkk) (ftkp) (ftkv) (frdc) (vb) (hxtl) (rftp) (rnwfv) (rbffv) (rtrfv) (hhis) (hktr0) (hktr1) (hktr2) (hktr3) (hty0s) (hty0z) (hty1s) (hty1z) (hty2s) (hty2z) (hty3s) (hty3z) (hkim0) (hkim1) (rim0fv) (rim1fv) (w1_0) (w1_1) (htuo) (htut) (htul) (rftuq) (rftuf) (hguo) (hguz) (rfguf) (htkl) (htkz) (hrda) (hrdz) (hb_mono okvb hmono) (hmono _ HHhh) (hmono _ HHhob) (hmono _ HHhot) (hmono _ HHhoi0) (hmono _ HHhoi1) (rfl) (rfl) (rfl) (rfl) rfl rfl) (q_back h_1 hp rfl)
    · skip
      replace h := q_open h hp
      refine q_callViF (rest := []) X hK hT hA h (fun sz => gX11_easiest_5ca5301 l D cy x0 nw hh la4 las4 la5 las5 hhb hhc nwv sc scg sch ci cir cipa (.ref tp) xtl xfk xfp (.ref rd) (.ref bf) (.ref tr) (.ref hsy) (.ref trs) (.ref ims) (.ref imm) (.ref tu) (.ref gu) xch nwd nwa hnl hnp hnt hns w6 (.ref hha) (.ref hhd) (.ref hhe) n4 fs4 n5 fs5 fhb fhc nwfv fscg fsch cip (.ref ciw) fcir fcipa hxtl (i_rng _) (i_rng _) (i_rng _) (i_rng _) (i_rng _) b1 b2 (i_rng _) (i_rng _) (by omega) (by omega) hcip (rg_wide rnwfv (by decide) (by decide)) (rg_wide rfcir (by decide) (by decide)) sz) wm_5_63 wm_5_66 wm_1_1 hd_X11_easiest wm_5_64 wm_5_65 (ci := 11) (q0 := 0) rfl rfl ⟨Nat.le_of_ble_eq_true rfl, Nat.le_of_ble_eq_true rfl⟩ hls rfl (Nat.le_of_ble_eq_true rfl) dL_law_1054 ⟨show cells + 0 ≤ 600000 from Nat.le_trans (Nat.add_le_add_right hc0 0) (by decide), show slots + 0 ≤ 7302250 from Nat.le_trans (Nat.add_le_add_right hs0 0) (by decide)⟩ [0, 2, 65, 71, 72, 73, 74, 67, 68, 3, 24, 25, 26, 27, 28, 29] rfl rfl (fun _ => rfl) (fun r_1 u_1 H locs w_1 h_1 => ?_)
      clear h
      obtain ⟨wr_1, w1_0, w1_1, _⟩ := w_1
      replace h_1 := q_pX (ix := [some 0, none, some 1, some 9, none, none, none, none, none, none, none, none, none, none, none, none, none, none, none, none, none, none, none, none, some 10, some 11, some 12, some 13, some 14, some 15, none, none, none, none, none, none, none, none, none, none, none, none, none, none, none, none, none, none, none, none, none, none, none, none, none, none, none, none, none, none, none, none, none, none, none, some 2, none, some 7, some 8, none, none, some 3, some 4, some 5, some 6]) h_1 rfl rfl (by decide +kernel) rfl (by decide +kernel)
      have hmono : ∀ a, hv a → HouseIn cy pl a := fun a ha => by rw [ehv] at ha; exact ha
      exact kk r_1 _ _ _ (fun _ k_ => k_ (tp) (nw) (nwv) (bf) (bfv) (tr) (trv) (hsy) (trs) (ty0) (ty0r) (ty1) (ty1r) (ty2) (ty2r) (ty3) (ty3r) (ims) (im0) (im0v) (im1) (im1v) (imm) (sc) (scg) (sch) (ci) (cir) (cipa) (ciw) (tu) (tup) (tuq) (tuf) (tub) (gu) (guf) (tk) (tkk) (tkp) (tkv) (rd) (rdc) (hpa) (hh) (hob) (hot) (hoi0) (hoi1) (xtl) (xfk) (xfp) (xch) (nwd) (nwa) (bfd) (bfa) (trd) (tra) (his) (ty0s) (ty0z) (ty1s) (ty1z) (ty2s) (ty2z) (ty3s) (ty3z) (im0d) (im0a) (im1d) (im1a) ((u_1.2.1 2 0)) (tuo) (tut) (tus) (tul) (guo) (gup) (gus) (guz) (tkl) (tkz) (rda) (rdt) (rdf) (rdp) (rdz) (rdn) (tkt) (rto) (ftp) (nwfv) (bffv) (trfv) (ktr) (gty0) (gty1) (gty2) (gty3) (kim) (im0fv) (im1fv) (fimm) ((u_1.2.1 0)) ((u_1.2.1 1)) ((u_1.2.1 3)) ((u_1.2.1 4)) (fciw) (ftup) (ftuq) (ftuf) (ftub) (fguf) (ftkk) (ftkp) (ftkv) (frdc) (vb) (hxtl) (rftp) (rnwfv) (rbffv) (rtrfv) (hhis) (hktr0) (hktr1) (hktr2) (hktr3) (hty0s) (hty0z) (hty1s) (hty1z) (hty2s) (hty2z) (hty3s) (hty3z) (hkim0) (hkim1) (rim0fv) (rim1fv) (w1_0) (w1_1) (htuo) (htut) (htul) (rftuq) (rftuf) (hguo) (hguz) (rfguf) (htkl) (htkz) (hrda) (hrdz) (hb_mono okvb hmono) (hmono _ HHhh) (hmono _ HHhob) (hmono _ HHhot) (hmono _ HHhoi0) (hmono _ HHhoi1) (rfl) (rfl) (rfl) (rfl) rfl rfl) (q_back h_1 hp rfl)
set_option maxHeartbeats 8000000 in
set_option maxRecDepth 100000 in
theorem mc_easiest (l : Launch) {p : Program} {e : Env} {s : State} {m : MethodId} {below : List Frame} {meth : Method} {c : Code} {b : Nat} {Q : State → Prop} {D : va_G} {cy : Nat → ClassId} {H : Heap} {locs : List Loc} {ls : Array Slot} (X : qX p s m #[Value.ref b] c cL_law 4 RL) (hK : qK D cy s) (hT : qT cy (fun q => s.heap.size ≤ q) s) (hls : ls.size = 4) {m0 cells slots : Nat} {P wm : va_W}  {gt : Int} {gb : Nat → Int} {gf : Int} {gp : Int} (hc0 : cells ≤ 26000) (hs0 : slots ≤ 5720000) (hM : MOK cy m0 wm gt gb gf gp) (h : qW D (fun q => s.heap.size ≤ q) s.heap (wm ++ P) H locs) (kk : ∀ (r : Int32) (H : Heap) (locs : List Loc) (w2 : va_W), MOK cy m0 w2 gt gb gf gp → qW D (fun q => s.heap.size ≤ q) s.heap (w2 ++ P) H locs → W p l e room_1 s m #[Value.ref b] below meth c H locs cells slots Q (F0 m 1062 ls [.int r])) : W p l e room_1 s m #[Value.ref b] below meth c H locs cells slots Q (F0 m 1059 ls [.ref m0]) := by
  have hA : ∀ q : Nat, s.heap.size ≤ q → (fun q => s.heap.size ≤ q) q := fun _ h => h
  refine hM _ ?_
  clear hM
  intros al hs mtp fr rec wds swd opd was par wth bwt met mtw_ mtf trn ism rso rmy nms mth mtd mat mbh msz mki mnu mwr mwa mfk mfp mrd mtw mx mbt mbw mtu nde fnl fnv fnp fnc fal fhs fmtp ffr frec fwds fswd fopd fwas fpar fwth fbwt fmet fmtw fmtf ftrn fism frso frmy gnms hmtd hmat hmbh hmsz hmnu hnde htal_84 rfal hfnl htfr_0 htfr_1 hfnp htfr_2 hfnc htfr_405 rfswd rfopd rfwas rfmet rfrmy eg0 eg1 eg2 eg3 hw_
  subst eg0
  subst eg1
  subst eg2
  subst eg3
  subst hw_
  refine q_callViF (rest := []) X hK hT hA h (fun sz => gX12_easiest_2bd016c l D cy m0 al rec wds opd par mth (.ref hs) (.ref mtp) (.ref fr) mtd mat mbh msz mki mnu mwr mwa mfk mfp mrd (.ref swd) (.ref was) mtw mx (.ref wth) (.ref bwt) mbt mbw (.ref met) (.ref mtw_) (.ref mtf) (.ref trn) (.ref ism) mtu (.ref rso) (.ref rmy) (.ref nms) fal nde frec fwds fopd fpar (i_rng _) hmtd hmat hmbh hmsz (i_rng _) hmnu (i_rng _) (i_rng _) (i_rng _) (i_rng _) (i_rng _) (i_rng _) (i_rng _) (i_rng _) (i_rng _) (i_rng _) hnde htal_84 rfal (rg_wide rfopd (by decide) (by decide)) sz) wm_7_215 wm_7_218 wm_1_12 hd_X12_easiest wm_7_216 wm_7_217 (ci := 12) (q0 := 0) rfl rfl ⟨Nat.le_of_ble_eq_true rfl, Nat.le_of_ble_eq_true rfl⟩ hls rfl (Nat.le_of_ble_eq_true rfl) dL_law_1059 ⟨show cells + 0 ≤ 600000 from Nat.le_trans (Nat.add_le_add_right hc0 0) (by decide), show slots + 0 ≤ 7302250 from Nat.le_trans (Nat.add_le_add_right hs0 0) (by decide)⟩ [0, 1, 5, 6, 8, 10] rfl rfl (fun _ => rfl) (fun r_1 u_1 H locs w_1 h_1 => ?_)
  clear h
  obtain ⟨wr_1, w1_0, w1_1, _⟩ := w_1
  replace h_1 := q_pX (ix := [some 0, some 1, none, none, none, some 2, some 3, none, some 4, none, some 5, none, none, none, none, none, none, none, none, none, none]) h_1 rfl rfl (by decide +kernel) rfl (by decide +kernel)
  exact kk r_1 _ _ _ (fun _ k_ => k_ (al) (hs) (mtp) (fr) (rec) (wds) (swd) (opd) (was) (par) (wth) (bwt) (met) (mtw_) (mtf) (trn) (ism) (rso) (rmy) (nms) ((u_1.2.1 0 0)) (mtd) (mat) (mbh) (msz) (mki) (mnu) (mwr) (mwa) (mfk) (mfp) (mrd) (mtw) (mx) (mbt) (mbw) (mtu) (nde) (fnl) (fnv) (fnp) (fnc) (fal) (fhs) (fmtp) (ffr) ((u_1.2.1 1)) ((u_1.2.1 2)) (fswd) ((u_1.2.1 3)) (fwas) ((u_1.2.1 4)) (fwth) (fbwt) (fmet) (fmtw) (fmtf) (ftrn) (fism) (frso) (frmy) (gnms) (hmtd) (hmat) (hmbh) (hmsz) (hmnu) (hnde) (htal_84) (rfal) (hfnl) (htfr_0) (htfr_1) (hfnp) (htfr_2) (hfnc) (htfr_405) (rfswd) (w1_1) (rfwas) (rfmet) (rfrmy) (rfl) (rfl) (rfl) (rfl) rfl) h_1
set_option maxHeartbeats 8000000 in
set_option maxRecDepth 100000 in
theorem lc_easiest (l : Launch) {p : Program} {e : Env} {s : State} {m : MethodId} {below : List Frame} {meth : Method} {c : Code} {b : Nat} {xs : Nat → Int32} {Q : State → Prop} {D : va_G} {cy : Nat → ClassId} {H : Heap} {locs : List Loc} {ls : Array Slot} {x0 m0 L k cells slots : Nat} {i : Int32} {tl : Int} (X : qX p s m #[Value.ref b] c cL_law 4 RL) (hK : qK D cy s) (hT : qT cy (fun q => s.heap.size ≤ q) s) (hX : va_X b L xs s s.heap) (hbl : b < s.heap.size) (hi : 0 ≤ i.toInt ∧ i.toInt + 6 ≤ L ∧ L ≤ 3072) (hk : k < 512) (hcell : cells + tl.toNat ≤ 200 + 50 * k) (hslot : slots + 451 * tl.toNat ≤ 30000 + 11100 * k) (hl : lv_has ls 4 [(3, .int i), (2, .ref m0), (1, .ref x0), (0, .ref b)]) (hI : LInv cy D (fun q => s.heap.size ≤ q) s.heap x0 m0 H locs tl) (kk : ∀ (H : Heap) (locs : List Loc) (ls : Array Slot) (cells slots : Nat) (tl : Int), lv_has ls 4 [(3, .int i), (2, .ref m0), (1, .ref x0), (0, .ref b)] → LInv cy D (fun q => s.heap.size ≤ q) s.heap x0 m0 H locs tl → cells + tl.toNat ≤ 200 + 50 * (k + 1) → slots + 451 * tl.toNat ≤ 30000 + 11100 * (k + 1) → W p l e room_1 s m #[Value.ref b] below meth c H locs cells slots Q (F0 m 1459 ls [])) : W p l e room_1 s m #[Value.ref b] below meth c H locs cells slots Q (F0 m 1053 ls []) := by
  obtain ⟨hx, hb, hml, hown, ht⟩ := id X
  have hA : ∀ q : Nat, s.heap.size ≤ q → (fun q => s.heap.size ≤ q) q := fun _ h => h
  have hbA : ¬ (fun q : Nat => s.heap.size ≤ q) b := Nat.not_le.mpr hbl
  have hc0 : cells ≤ 26000 := by omega
  have hs0 : slots ≤ 5720000 := by omega
  obtain ⟨gt, gb, gf, gp, wm, wx, pl, hMo, hXo, h⟩ := hI
  refine lv_aload_n hx hb dL_law_1053 rfl (lv_at hl 2 rfl) ?_
  replace h := q_rotX h
  refine xc_easiest l X hK hT hl.1 hc0 hs0 hXo h (fun r_1 H locs wx hXo h => ?_)
  refine lv_pop hx hb dL_law_1057 rfl ?_
  refine lv_aload_n hx hb dL_law_1058 rfl (lv_at hl 1 rfl) ?_
  replace h := q_rotM h
  refine mc_easiest l X hK hT hl.1 hc0 hs0 hMo h (fun r_2 H locs wm hMo h => ?_)
  refine lv_pop hx hb dL_law_1062 rfl ?_
  refine lv_goto (tgt := 1459) hx hb dL_law_1063 (by decide) ?_
  exact kk _ _ _ cells slots tl (lv_sub hl [0, 1, 2, 3] rfl) ⟨_, _, _, _, _, _, _, hMo, hXo, h⟩ (li_c hcell) (li_s hslot)
set_option maxHeartbeats 8000000 in
set_option maxRecDepth 100000 in
theorem xc_hidden (l : Launch) {p : Program} {e : Env} {s : State} {m : MethodId} {below : List Frame} {meth : Method} {c : Code} {b : Nat} {Q : State → Prop} {D : va_G} {cy : Nat → ClassId} {H : Heap} {locs : List Loc} {ls : Array Slot} (X : qX p s m #[Value.ref b] c cL_law 4 RL) (hK : qK D cy s) (hT : qT cy (fun q => s.heap.size ≤ q) s) (hls : ls.size = 4) {x0 cells slots : Nat} {P pl wx : va_W} {tl : Int} {a_1 : Int32} {a_2 : Int32} {gt : Int} {gb : Nat → Int} {gf : Int} {gp : Int} (hc0 : cells ≤ 26000) (hs0 : slots ≤ 5720000) (hX : XOK cy x0 pl wx tl gt gb gf gp) (h : qW D (fun q => s.heap.size ≤ q) s.heap (wx ++ (pl ++ P)) H locs) (kk : ∀ (r : Int32) (H : Heap) (locs : List Loc) (w2 : va_W), XOK cy x0 pl w2 tl gt gb gf gp → qW D (fun q => s.heap.size ≤ q) s.heap (w2 ++ (pl ++ P)) H locs → W p l e room_1 s m #[Value.ref b] below meth c H locs cells slots Q (F0 m 1080 ls [.int r])) : W p l e room_1 s m #[Value.ref b] below meth c H locs cells slots Q (F0 m 1077 ls [.int a_2, .int a_1, .ref x0]) := by
  have hA : ∀ q : Nat, s.heap.size ≤ q → (fun q => s.heap.size ≤ q) q := fun _ h => h
  refine hX _ ?_
  clear hX
  intros tp nw nwv bf bfv tr trv hsy trs ty0 ty0r ty1 ty1r ty2 ty2r ty3 ty3r ims im0 im0v im1 im1v imm sc scg sch ci cir cipa ciw tu tup tuq tuf tub gu guf tk tkk tkp tkv rd rdc hpa hh hob hot hoi0 hoi1 xtl xfk xfp xch nwd nwa bfd bfa trd tra his ty0s ty0z ty1s ty1z ty2s ty2z ty3s ty3z im0d im0a im1d im1a cip tuo tut tus tul guo gup gus guz tkl tkz rda rdt rdf rdp rdz rdn tkt rto ftp nwfv bffv trfv ktr gty0 gty1 gty2 gty3 kim im0fv im1fv fimm fscg fsch fcir fcipa fciw ftup ftuq ftuf ftub fguf ftkk ftkp ftkv frdc vb hxtl rftp rnwfv rbffv rtrfv hhis hktr0 hktr1 hktr2 hktr3 hty0s hty0z hty1s hty1z hty2s hty2z hty3s hty3z hkim0 hkim1 rim0fv rim1fv hcip rfcir htuo htut htul rftuq rftuf hguo hguz rfguf htkl htkz hrda hrdz okvb HHhh HHhob HHhot HHhoi0 HHhoi1 eg0 eg1 eg2 eg3 htl hw_
  subst eg0
  subst eg1
  subst eg2
  subst eg3
  subst htl
  subst hw_
  have HX := HHhh
  obtain ⟨hv, ehv⟩ : ∃ hv : Nat → Prop, hv = HouseIn cy pl := ⟨_, rfl⟩
  rw [← ehv] at okvb HHhh HHhob HHhot HHhoi0 HHhoi1
  obtain ⟨hnl, hnp, hnt, hns, w4, w5, w6, hha, hhb, hhc, hhd, hhe, fha, fhb, fhc, fhd, fhe, L4, L5, L6, b1, b2, b3, l4, l5, l6, hm, hn⟩ := HX
  obtain ⟨r, hp⟩ := house_pick hm hn L4 ((List.sublist_append_left L4 L5).trans (List.sublist_append_left _ _))
  rcases l4 with ⟨rfl, rfl⟩ | ⟨la4, las4, n4, fs4, rfl, hn4, rfl⟩
  · skip
    replace h := q_open h hp
    refine q_callViF (rest := []) X hK hT hA h (fun sz => gX11_hidden_0365017 l D cy x0 nw hh hhb hhc nwv sc gu guf a_1 a_2 (.ref tp) xtl xfk xfp (.ref rd) (.ref bf) (.ref tr) (.ref hsy) (.ref trs) (.ref ims) (.ref imm) (.ref ci) (.ref tu) xch nwd nwa hnl hnp hnt hns w5 w6 (.ref hha) (.ref hhd) (.ref hhe) fhb fhc nwfv (.ref scg) (.ref sch) guo gup gus guz fguf (i_rng _) (i_rng _) hxtl (i_rng _) (i_rng _) (i_rng _) (i_rng _) (i_rng _) b1 b2 (i_rng _) (i_rng _) hguo (i_rng _) (i_rng _) hguz (rg_wide rnwfv (by decide) (by decide)) (rg_wide rfguf (by decide) (by decide)) sz) wm_5_67 wm_5_70 wm_1_1 hd_X11_hidden wm_5_68 wm_5_69 (ci := 11) (q0 := 0) rfl rfl ⟨Nat.le_of_ble_eq_true rfl, Nat.le_of_ble_eq_true rfl⟩ hls rfl (Nat.le_of_ble_eq_true rfl) dL_law_1077 ⟨show cells + 0 ≤ 600000 from Nat.le_trans (Nat.add_le_add_right hc0 0) (by decide), show slots + 0 ≤ 7302250 from Nat.le_trans (Nat.add_le_add_right hs0 0) (by decide)⟩ [0, 2, 65, 67, 68, 3, 24, 36, 37] rfl rfl (fun _ => rfl) (fun r_1 u_1 H locs w_1 h_1 => ?_)
    clear h
    obtain ⟨wr_1, w1_0, w1_1, w1_2, w1_3, w1_4, _⟩ := w_1
    replace h_1 := q_pX (ix := [some 0, none, some 1, some 5, none, none, none, none, none, none, none, none, none, none, none, none, none, none, none, none, none, none, none, none, some 6, none, none, none, none, none, none, none, none, none, none, none, some 7, some 8, none, none, none, none, none, none, none, none, none, none, none, none, none, none, none, none, none, none, none, none, none, none, none, none, none, none, none, some 2, none, some 3, some 4, none, none]) h_1 rfl rfl (by decide +kernel) rfl (by decide +kernel)
    have hmono : ∀ a, hv a → HouseIn cy pl a := fun a ha => by rw [ehv] at ha; exact ha
    exact kk r_1 _ _ _ (fun _ k_ => k_ (tp) (nw) (nwv) (bf) (bfv) (tr) (trv) (hsy) (trs) (ty0) (ty0r) (ty1) (ty1r) (ty2) (ty2r) (ty3) (ty3r) (ims) (im0) (im0v) (im1) (im1v) (imm) (sc) (scg) (sch) (ci) (cir) (cipa) (ciw) (tu) (tup) (tuq) (tuf) (tub) (gu) (guf) (tk) (tkk) (tkp) (tkv) (rd) (rdc) (hpa) (hh) (hob) (hot) (hoi0) (hoi1) (xtl) (xfk) (xfp) (xch) (nwd) (nwa) (bfd) (bfa) (trd) (tra) (his) (ty0s) (ty0z) (ty1s) (ty1z) (ty2s) (ty2z) (ty3s) (ty3z) (im0d) (im0a) (im1d) (im1a) (cip) (tuo) (tut) (tus) (tul) ((u_1.2.1 0 0)) ((u_1.2.1 1 0)) ((u_1.2.1 2 0)) ((u_1.2.1 3 0)) (tkl) (tkz) (rda) (rdt) (rdf) (rdp) (rdz) (rdn) (tkt) (rto) (ftp) (nwfv) (bffv) (trfv) (ktr) (gty0) (gty1) (gty2) (gty3) (kim) (im0fv) (im1fv) (fimm) (fscg) (fsch) (fcir) (fcipa) (fciw) (ftup) (ftuq) (ftuf) (ftub) ((u_1.2.1 4)) (ftkk) (ftkp) (ftkv) (frdc) (vb) (hxtl) (rftp) (rnwfv) (rbffv) (rtrfv) (hhis) (hktr0) (hktr1) (hktr2) (hktr3) (hty0s) (hty0z) (hty1s) (hty1z) (hty2s) (hty2z) (hty3s) (hty3z) (hkim0) (hkim1) (rim0fv) (rim1fv) (hcip) (rfcir) (htuo) (htut) (htul) (rftuq) (rftuf) (w1_0) (w1_3) (w1_4) (htkl) (htkz) (hrda) (hrdz) (hb_mono okvb hmono) (hmono _ HHhh) (hmono _ HHhob) (hmono _ HHhot) (hmono _ HHhoi0) (hmono _ HHhoi1) (rfl) (rfl) (rfl) (rfl) rfl rfl) (q_back h_1 hp rfl)
  · skip
    replace h := q_open h hp
    refine q_callViF (rest := []) X hK hT hA h (fun sz => gX11_hidden_b6cf0d9 l D cy x0 nw hh la4 las4 hhb hhc nwv sc scg sch gu guf a_1 a_2 (.ref tp) xtl xfk xfp (.ref rd) (.ref bf) (.ref tr) (.ref hsy) (.ref trs) (.ref ims) (.ref imm) (.ref ci) (.ref tu) xch nwd nwa hnl hnp hnt hns w5 w6 (.ref hha) (.ref hhd) (.ref hhe) n4 fs4 fhb fhc nwfv fscg fsch guo gup gus guz fguf (i_rng _) (i_rng _) hxtl (i_rng _) (i_rng _) (i_rng _) (i_rng _) (i_rng _) b1 b2 (i_rng _) (i_rng _) (by omega) hguo (i_rng _) (i_rng _) hguz (rg_wide rnwfv (by decide) (by decide)) (rg_wide rfguf (by decide) (by decide)) sz) wm_5_67 wm_5_70 wm_1_1 hd_X11_hidden wm_5_68 wm_5_69 (ci := 11) (q0 := 0) rfl rfl ⟨Nat.le_of_ble_eq_true rfl, Nat.le_of_ble_eq_true rfl⟩ hls rfl (Nat.le_of_ble_eq_true rfl) dL_law_1077 ⟨show cells + 0 ≤ 600000 from Nat.le_trans (Nat.add_le_add_right hc0 0) (by decide), show slots + 0 ≤ 7302250 from Nat.le_trans (Nat.add_le_add_right hs0 0) (by decide)⟩ [0, 2, 65, 71, 72, 67, 68, 3, 24, 25, 26, 36, 37] rfl rfl (fun _ => rfl) (fun r_1 u_1 H locs w_1 h_1 => ?_)
    clear h
    obtain ⟨wr_1, w1_0, w1_1, w1_2, w1_3, w1_4, _⟩ := w_1
    replace h_1 := q_pX (ix := [some 0, none, some 1, some 7, none, none, none, none, none, none, none, none, none, none, none, none, none, none, none, none, none, none, none, none, some 8, some 9, some 10, none, none, none, none, none, none, none, none, none, some 11, some 12, none, none, none, none, none, none, none, none, none, none, none, none, none, none, none, none, none, none, none, none, none, none, none, none, none, none, none, some 2, none, some 5, some 6, none, none, some 3, some 4]) h_1 rfl rfl (by decide +kernel) rfl (by decide +kernel)
    have hmono : ∀ a, hv a → HouseIn cy pl a := fun a ha => by rw [ehv] at ha; exact ha
    exact kk r_1 _ _ _ (fun _ k_ => k_ (tp) (nw) (nwv) (bf) (bfv) (tr) (trv) (hsy) (trs) (ty0) (ty0r) (ty1) (ty1r) (ty2) (ty2r) (ty3) (ty3r) (ims) (im0) (im0v) (im1) (im1v) (imm) (sc) (scg) (sch) (ci) (cir) (cipa) (ciw) (tu) (tup) (tuq) (tuf) (tub) (gu) (guf) (tk) (tkk) (tkp) (tkv) (rd) (rdc) (hpa) (hh) (hob) (hot) (hoi0) (hoi1) (xtl) (xfk) (xfp) (xch) (nwd) (nwa) (bfd) (bfa) (trd) (tra) (his) (ty0s) (ty0z) (ty1s) (ty1z) (ty2s) (ty2z) (ty3s) (ty3z) (im0d) (im0a) (im1d) (im1a) (cip) (tuo) (tut) (tus) (tul) ((u_1.2.1 0 0)) ((u_1.2.1 1 0)) ((u_1.2.1 2 0)) ((u_1.2.1 3 0)) (tkl) (tkz) (rda) (rdt) (rdf) (rdp) (rdz) (rdn) (tkt) (rto) (ftp) (nwfv) (bffv) (trfv) (ktr) (gty0) (gty1) (gty2) (gty3) (kim) (im0fv) (im1fv) (fimm) ((u_1.2.1 5)) ((u_1.2.1 6)) (fcir) (fcipa) (fciw) (ftup) (ftuq) (ftuf) (ftub) ((u_1.2.1 4)) (ftkk) (ftkp) (ftkv) (frdc) (vb) (hxtl) (rftp) (rnwfv) (rbffv) (rtrfv) (hhis) (hktr0) (hktr1) (hktr2) (hktr3) (hty0s) (hty0z) (hty1s) (hty1z) (hty2s) (hty2z) (hty3s) (hty3z) (hkim0) (hkim1) (rim0fv) (rim1fv) (hcip) (rfcir) (htuo) (htut) (htul) (rftuq) (rftuf) (w1_0) (w1_3) (w1_4) (htkl) (htkz) (hrda) (hrdz) (hb_mono okvb hmono) (hmono _ HHhh) (hmono _ HHhob) (hmono _ HHhot) (hmono _ HHhoi0) (hmono _ HHhoi1) (rfl) (rfl) (rfl) (rfl) rfl rfl) (q_back h_1 hp rfl)
set_option maxHeartbeats 8000000 in
set_option maxRecDepth 100000 in
theorem mc_hidden (l : Launch) {p : Program} {e : Env} {s : State} {m : MethodId} {below : List Frame} {meth : Method} {c : Code} {b : Nat} {Q : State → Prop} {D : va_G} {cy : Nat → ClassId} {H : Heap} {locs : List Loc} {ls : Array Slot} (X : qX p s m #[Value.ref b] c cL_law 4 RL) (hK : qK D cy s) (hT : qT cy (fun q => s.heap.size ≤ q) s) (hls : ls.size = 4) {m0 cells slots : Nat} {P wm : va_W} {a_1 : Int32} {a_2 : Int32} {gt : Int} {gb : Nat → Int} {gf : Int} {gp : Int} (hc0 : cells ≤ 26000) (hs0 : slots ≤ 5720000) (hM : MOK cy m0 wm gt gb gf gp) (h : qW D (fun q => s.heap.size ≤ q) s.heap (wm ++ P) H locs) (kk : ∀ (r : Int32) (H : Heap) (locs : List Loc) (w2 : va_W), MOK cy m0 w2 gt gb gf gp → qW D (fun q => s.heap.size ≤ q) s.heap (w2 ++ P) H locs → W p l e room_1 s m #[Value.ref b] below meth c H locs cells slots Q (F0 m 1095 ls [.int r])) : W p l e room_1 s m #[Value.ref b] below meth c H locs cells slots Q (F0 m 1092 ls [.int a_2, .int a_1, .ref m0]) := by
  have hA : ∀ q : Nat, s.heap.size ≤ q → (fun q => s.heap.size ≤ q) q := fun _ h => h
  refine hM _ ?_
  clear hM
  intros al hs mtp fr rec wds swd opd was par wth bwt met mtw_ mtf trn ism rso rmy nms mth mtd mat mbh msz mki mnu mwr mwa mfk mfp mrd mtw mx mbt mbw mtu nde fnl fnv fnp fnc fal fhs fmtp ffr frec fwds fswd fopd fwas fpar fwth fbwt fmet fmtw fmtf ftrn fism frso frmy gnms hmtd hmat hmbh hmsz hmnu hnde htal_84 rfal hfnl htfr_0 htfr_1 hfnp htfr_2 hfnc htfr_405 rfswd rfopd rfwas rfmet rfrmy eg0 eg1 eg2 eg3 hw_
  subst eg0
  subst eg1
  subst eg2
  subst eg3
  subst hw_
  refine q_callViF (rest := []) X hK hT hA h (fun sz => gX12_hidden_fd71e35 l D cy m0 al rec wds met a_1 a_2 mth (.ref hs) (.ref mtp) (.ref fr) mtd mat mbh msz mki mnu mwr mwa mfk mfp mrd (.ref swd) (.ref opd) (.ref was) mtw mx (.ref par) (.ref wth) (.ref bwt) mbt mbw (.ref mtw_) (.ref mtf) (.ref trn) (.ref ism) mtu (.ref rso) (.ref rmy) (.ref nms) fal nde frec fwds fmet (i_rng _) (i_rng _) (i_rng _) hmtd hmat hmbh hmsz (i_rng _) hmnu (i_rng _) (i_rng _) (i_rng _) (i_rng _) (i_rng _) (i_rng _) (i_rng _) (i_rng _) (i_rng _) (i_rng _) hnde htal_84 rfal (rg_wide rfmet (by decide) (by decide)) sz) wm_7_219 wm_7_222 wm_1_12 hd_X12_hidden wm_7_220 wm_7_221 (ci := 12) (q0 := 0) rfl rfl ⟨Nat.le_of_ble_eq_true rfl, Nat.le_of_ble_eq_true rfl⟩ hls rfl (Nat.le_of_ble_eq_true rfl) dL_law_1092 ⟨show cells + 0 ≤ 600000 from Nat.le_trans (Nat.add_le_add_right hc0 0) (by decide), show slots + 0 ≤ 7302250 from Nat.le_trans (Nat.add_le_add_right hs0 0) (by decide)⟩ [0, 1, 5, 6, 13] rfl rfl (fun _ => rfl) (fun r_1 u_1 H locs w_1 h_1 => ?_)
  clear h
  obtain ⟨wr_1, w1_0, w1_1, w1_2, w1_3, _⟩ := w_1
  exact kk r_1 _ _ _ (fun _ k_ => k_ (al) (hs) (mtp) (fr) (rec) (wds) (swd) (opd) (was) (par) (wth) (bwt) (met) (mtw_) (mtf) (trn) (ism) (rso) (rmy) (nms) ((u_1.2.1 3 0)) (mtd) (mat) (mbh) (msz) (mki) (mnu) (mwr) (mwa) (mfk) (mfp) (mrd) (mtw) (mx) (mbt) (mbw) (mtu) (nde) (fnl) (fnv) (fnp) (fnc) ((u_1.2.1 4)) (fhs) (fmtp) (ffr) ((u_1.2.1 0)) ((u_1.2.1 1)) (fswd) (fopd) (fwas) (fpar) (fwth) (fbwt) ((u_1.2.1 2)) (fmtw) (fmtf) (ftrn) (fism) (frso) (frmy) (gnms) (hmtd) (hmat) (hmbh) (hmsz) (hmnu) (hnde) (w1_3) (w1_2) (hfnl) (htfr_0) (htfr_1) (hfnp) (htfr_2) (hfnc) (htfr_405) (rfswd) (rfopd) (rfwas) (w1_0) (rfrmy) (rfl) (rfl) (rfl) (rfl) rfl) h_1
set_option maxHeartbeats 8000000 in
set_option maxRecDepth 100000 in
theorem lc_hidden (l : Launch) {p : Program} {e : Env} {s : State} {m : MethodId} {below : List Frame} {meth : Method} {c : Code} {b : Nat} {xs : Nat → Int32} {Q : State → Prop} {D : va_G} {cy : Nat → ClassId} {H : Heap} {locs : List Loc} {ls : Array Slot} {x0 m0 L k cells slots : Nat} {i : Int32} {tl : Int} (X : qX p s m #[Value.ref b] c cL_law 4 RL) (hK : qK D cy s) (hT : qT cy (fun q => s.heap.size ≤ q) s) (hX : va_X b L xs s s.heap) (hbl : b < s.heap.size) (hi : 0 ≤ i.toInt ∧ i.toInt + 6 ≤ L ∧ L ≤ 3072) (hk : k < 512) (hcell : cells + tl.toNat ≤ 200 + 50 * k) (hslot : slots + 451 * tl.toNat ≤ 30000 + 11100 * k) (hl : lv_has ls 4 [(3, .int i), (2, .ref m0), (1, .ref x0), (0, .ref b)]) (hI : LInv cy D (fun q => s.heap.size ≤ q) s.heap x0 m0 H locs tl) (kk : ∀ (H : Heap) (locs : List Loc) (ls : Array Slot) (cells slots : Nat) (tl : Int), lv_has ls 4 [(3, .int i), (2, .ref m0), (1, .ref x0), (0, .ref b)] → LInv cy D (fun q => s.heap.size ≤ q) s.heap x0 m0 H locs tl → cells + tl.toNat ≤ 200 + 50 * (k + 1) → slots + 451 * tl.toNat ≤ 30000 + 11100 * (k + 1) → W p l e room_1 s m #[Value.ref b] below meth c H locs cells slots Q (F0 m 1459 ls [])) : W p l e room_1 s m #[Value.ref b] below meth c H locs cells slots Q (F0 m 1066 ls []) := by
  obtain ⟨hx, hb, hml, hown, ht⟩ := id X
  have hA : ∀ q : Nat, s.heap.size ≤ q → (fun q => s.heap.size ≤ q) q := fun _ h => h
  have hbA : ¬ (fun q : Nat => s.heap.size ≤ q) b := Nat.not_le.mpr hbl
  have hc0 : cells ≤ 26000 := by omega
  have hs0 : slots ≤ 5720000 := by omega
  obtain ⟨gt, gb, gf, gp, wm, wx, pl, hMo, hXo, h⟩ := hI
  refine lv_aload_n hx hb dL_law_1066 rfl (lv_at hl 2 rfl) ?_
  refine lv_aload_n hx hb dL_law_1067 rfl (lv_at hl 3 rfl) ?_
  refine lv_iload_n hx hb dL_law_1068 rfl (lv_at hl 0 rfl) ?_
  refine lv_iconst (v := 1) hx hb dL_law_1069 (by decide) ?_
  refine lv_iadd hx hb dL_law_1070 ?_
  obtain ⟨z_1, ez_1, hz_1⟩ := li_add hi 1 (n := 1) (by decide) (by decide) (by decide)
  refine q_c z_1 ez_1 ?_
  clear ez_1
  refine va_sld hx hb hX hbl hbA h.2.2 (li_in hi hz_1 (by decide) (by decide)) dL_law_1071 ?_
  obtain ⟨x_1, ex_1, hx_1⟩ := e_any (xs (z_1).toNatClampNeg)
  refine q_c x_1 ex_1 ?_
  refine lv_aload_n hx hb dL_law_1072 rfl (lv_at hl 3 rfl) ?_
  refine lv_iload_n hx hb dL_law_1073 rfl (lv_at hl 0 rfl) ?_
  refine lv_iconst (v := 2) hx hb dL_law_1074 (by decide) ?_
  refine lv_iadd hx hb dL_law_1075 ?_
  obtain ⟨z_2, ez_2, hz_2⟩ := li_add hi 2 (n := 2) (by decide) (by decide) (by decide)
  refine q_c z_2 ez_2 ?_
  clear ez_2
  refine va_sld hx hb hX hbl hbA h.2.2 (li_in hi hz_2 (by decide) (by decide)) dL_law_1076 ?_
  obtain ⟨x_2, ex_2, hx_2⟩ := e_any (xs (z_2).toNatClampNeg)
  refine q_c x_2 ex_2 ?_
  replace h := q_rotX h
  refine xc_hidden l X hK hT hl.1 hc0 hs0 hXo h (fun r_3 H locs wx hXo h => ?_)
  refine lv_pop hx hb dL_law_1080 rfl ?_
  refine lv_aload_n hx hb dL_law_1081 rfl (lv_at hl 1 rfl) ?_
  refine lv_aload_n hx hb dL_law_1082 rfl (lv_at hl 3 rfl) ?_
  refine lv_iload_n hx hb dL_law_1083 rfl (lv_at hl 0 rfl) ?_
  refine lv_iconst (v := 1) hx hb dL_law_1084 (by decide) ?_
  refine lv_iadd hx hb dL_law_1085 ?_
  obtain ⟨z_4, ez_4, hz_4⟩ := li_add hi 1 (n := 1) (by decide) (by decide) (by decide)
  refine q_c z_4 ez_4 ?_
  clear ez_4
  refine va_sld hx hb hX hbl hbA h.2.2 (li_in hi hz_4 (by decide) (by decide)) dL_law_1086 ?_
  refine q_c x_1 ((congrArg xs (cl_eq (x := z_4) (y := z_1) (hz_4.trans hz_1.symm))).trans ex_1) ?_
  refine lv_aload_n hx hb dL_law_1087 rfl (lv_at hl 3 rfl) ?_
  refine lv_iload_n hx hb dL_law_1088 rfl (lv_at hl 0 rfl) ?_
  refine lv_iconst (v := 2) hx hb dL_law_1089 (by decide) ?_
  refine lv_iadd hx hb dL_law_1090 ?_
  obtain ⟨z_5, ez_5, hz_5⟩ := li_add hi 2 (n := 2) (by decide) (by decide) (by decide)
  refine q_c z_5 ez_5 ?_
  clear ez_5
  refine va_sld hx hb hX hbl hbA h.2.2 (li_in hi hz_5 (by decide) (by decide)) dL_law_1091 ?_
  refine q_c x_2 ((congrArg xs (cl_eq (x := z_5) (y := z_2) (hz_5.trans hz_2.symm))).trans ex_2) ?_
  replace h := q_rotM h
  refine mc_hidden l X hK hT hl.1 hc0 hs0 hMo h (fun r_6 H locs wm hMo h => ?_)
  refine lv_pop hx hb dL_law_1095 rfl ?_
  refine lv_goto (tgt := 1459) hx hb dL_law_1096 (by decide) ?_
  exact kk _ _ _ cells slots tl (lv_sub hl [0, 1, 2, 3] rfl) ⟨_, _, _, _, _, _, _, hMo, hXo, h⟩ (li_c hcell) (li_s hslot)
set_option maxHeartbeats 8000000 in
set_option maxRecDepth 100000 in
theorem xc_hiddenAt (l : Launch) {p : Program} {e : Env} {s : State} {m : MethodId} {below : List Frame} {meth : Method} {c : Code} {b : Nat} {Q : State → Prop} {D : va_G} {cy : Nat → ClassId} {H : Heap} {locs : List Loc} {ls : Array Slot} (X : qX p s m #[Value.ref b] c cL_law 4 RL) (hK : qK D cy s) (hT : qT cy (fun q => s.heap.size ≤ q) s) (hls : ls.size = 4) {x0 cells slots : Nat} {P pl wx : va_W} {tl : Int} {a_1 : Int32} {a_2 : Int32} {a_3 : Int32} {gt : Int} {gb : Nat → Int} {gf : Int} {gp : Int} (hc0 : cells ≤ 26000) (hs0 : slots ≤ 5720000) (hX : XOK cy x0 pl wx tl gt gb gf gp) (h : qW D (fun q => s.heap.size ≤ q) s.heap (wx ++ (pl ++ P)) H locs) (kk : ∀ (r : Int32) (H : Heap) (locs : List Loc) (w2 : va_W), XOK cy x0 pl w2 tl gt gb gf gp → qW D (fun q => s.heap.size ≤ q) s.heap (w2 ++ (pl ++ P)) H locs → W p l e room_1 s m #[Value.ref b] below meth c H locs cells slots Q (F0 m 1118 ls [.int r])) : W p l e room_1 s m #[Value.ref b] below meth c H locs cells slots Q (F0 m 1115 ls [.int a_3, .int a_2, .int a_1, .ref x0]) := by
  have hA : ∀ q : Nat, s.heap.size ≤ q → (fun q => s.heap.size ≤ q) q := fun _ h => h
  refine hX _ ?_
  clear hX
  intros tp nw nwv bf bfv tr trv hsy trs ty0 ty0r ty1 ty1r ty2 ty2r ty3 ty3r ims im0 im0v im1 im1v imm sc scg sch ci cir cipa ciw tu tup tuq tuf tub gu guf tk tkk tkp tkv rd rdc hpa hh hob hot hoi0 hoi1 xtl xfk xfp xch nwd nwa bfd bfa trd tra his ty0s ty0z ty1s ty1z ty2s ty2z ty3s ty3z im0d im0a im1d im1a cip tuo tut tus tul guo gup gus guz tkl tkz rda rdt rdf rdp rdz rdn tkt rto ftp nwfv bffv trfv ktr gty0 gty1 gty2 gty3 kim im0fv im1fv fimm fscg fsch fcir fcipa fciw ftup ftuq ftuf ftub fguf ftkk ftkp ftkv frdc vb hxtl rftp rnwfv rbffv rtrfv hhis hktr0 hktr1 hktr2 hktr3 hty0s hty0z hty1s hty1z hty2s hty2z hty3s hty3z hkim0 hkim1 rim0fv rim1fv hcip rfcir htuo htut htul rftuq rftuf hguo hguz rfguf htkl htkz hrda hrdz okvb HHhh HHhob HHhot HHhoi0 HHhoi1 eg0 eg1 eg2 eg3 htl hw_
  subst eg0
  subst eg1
  subst eg2
  subst eg3
  subst htl
  subst hw_
  have HX := HHhh
  obtain ⟨hv, ehv⟩ : ∃ hv : Nat → Prop, hv = HouseIn cy pl := ⟨_, rfl⟩
  rw [← ehv] at okvb HHhh HHhob HHhot HHhoi0 HHhoi1
  obtain ⟨hnl, hnp, hnt, hns, w4, w5, w6, hha, hhb, hhc, hhd, hhe, fha, fhb, fhc, fhd, fhe, L4, L5, L6, b1, b2, b3, l4, l5, l6, hm, hn⟩ := HX
  obtain ⟨r, hp⟩ := house_pick hm hn L4 ((List.sublist_append_left L4 L5).trans (List.sublist_append_left _ _))
  rcases l4 with ⟨rfl, rfl⟩ | ⟨la4, las4, n4, fs4, rfl, hn4, rfl⟩
  · skip
    replace h := q_open h hp
    refine q_callViF (rest := []) X hK hT hA h (fun sz => gX11_hiddenAt_fd8ca7a l D cy x0 nw hh hhb hhc nwv sc gu guf a_1 a_2 a_3 (.ref tp) xtl xfk xfp (.ref rd) (.ref bf) (.ref tr) (.ref hsy) (.ref trs) (.ref ims) (.ref imm) (.ref ci) (.ref tu) xch nwd nwa hnl hnp hnt hns w5 w6 (.ref hha) (.ref hhd) (.ref hhe) fhb fhc nwfv (.ref scg) (.ref sch) guo gup gus guz fguf (i_rng _) (i_rng _) (i_rng _) hxtl (i_rng _) (i_rng _) (i_rng _) (i_rng _) (i_rng _) b1 b2 (i_rng _) (i_rng _) hguo (i_rng _) (i_rng _) hguz (rg_wide rnwfv (by decide) (by decide)) (rg_wide rfguf (by decide) (by decide)) sz) wm_5_85 wm_5_88 wm_1_1 hd_X11_hiddenAt wm_5_86 wm_5_87 (ci := 11) (q0 := 0) rfl rfl ⟨Nat.le_of_ble_eq_true rfl, Nat.le_of_ble_eq_true rfl⟩ hls rfl (Nat.le_of_ble_eq_true rfl) dL_law_1115 ⟨show cells + 0 ≤ 600000 from Nat.le_trans (Nat.add_le_add_right hc0 0) (by decide), show slots + 0 ≤ 7302250 from Nat.le_trans (Nat.add_le_add_right hs0 0) (by decide)⟩ [0, 2, 65, 67, 68, 3, 24, 36, 37] rfl rfl (fun _ => rfl) (fun r_1 u_1 H locs w_1 h_1 => ?_)
    clear h
    obtain ⟨wr_1, w1_0, w1_1, w1_2, w1_3, w1_4, _⟩ := w_1
    replace h_1 := q_pX (ix := [some 0, none, some 1, some 5, none, none, none, none, none, none, none, none, none, none, none, none, none, none, none, none, none, none, none, none, some 6, none, none, none, none, none, none, none, none, none, none, none, some 7, some 8, none, none, none, none, none, none, none, none, none, none, none, none, none, none, none, none, none, none, none, none, none, none, none, none, none, none, none, some 2, none, some 3, some 4, none, none]) h_1 rfl rfl (by decide +kernel) rfl (by decide +kernel)
    have hmono : ∀ a, hv a → HouseIn cy pl a := fun a ha => by rw [ehv] at ha; exact ha
    exact kk r_1 _ _ _ (fun _ k_ => k_ (tp) (nw) (nwv) (bf) (bfv) (tr) (trv) (hsy) (trs) (ty0) (ty0r) (ty1) (ty1r) (ty2) (ty2r) (ty3) (ty3r) (ims) (im0) (im0v) (im1) (im1v) (imm) (sc) (scg) (sch) (ci) (cir) (cipa) (ciw) (tu) (tup) (tuq) (tuf) (tub) (gu) (guf) (tk) (tkk) (tkp) (tkv) (rd) (rdc) (hpa) (hh) (hob) (hot) (hoi0) (hoi1) (xtl) (xfk) (xfp) (xch) (nwd) (nwa) (bfd) (bfa) (trd) (tra) (his) (ty0s) (ty0z) (ty1s) (ty1z) (ty2s) (ty2z) (ty3s) (ty3z) (im0d) (im0a) (im1d) (im1a) (cip) (tuo) (tut) (tus) (tul) ((u_1.2.1 0 0)) ((u_1.2.1 1 0)) ((u_1.2.1 2 0)) ((u_1.2.1 3 0)) (tkl) (tkz) (rda) (rdt) (rdf) (rdp) (rdz) (rdn) (tkt) (rto) (ftp) (nwfv) (bffv) (trfv) (ktr) (gty0) (gty1) (gty2) (gty3) (kim) (im0fv) (im1fv) (fimm) (fscg) (fsch) (fcir) (fcipa) (fciw) (ftup) (ftuq) (ftuf) (ftub) ((u_1.2.1 4)) (ftkk) (ftkp) (ftkv) (frdc) (vb) (hxtl) (rftp) (rnwfv) (rbffv) (rtrfv) (hhis) (hktr0) (hktr1) (hktr2) (hktr3) (hty0s) (hty0z) (hty1s) (hty1z) (hty2s) (hty2z) (hty3s) (hty3z) (hkim0) (hkim1) (rim0fv) (rim1fv) (hcip) (rfcir) (htuo) (htut) (htul) (rftuq) (rftuf) (w1_0) (w1_3) (w1_4) (htkl) (htkz) (hrda) (hrdz) (hb_mono okvb hmono) (hmono _ HHhh) (hmono _ HHhob) (hmono _ HHhot) (hmono _ HHhoi0) (hmono _ HHhoi1) (rfl) (rfl) (rfl) (rfl) rfl rfl) (q_back h_1 hp rfl)
  · skip
    replace h := q_open h hp
    refine q_callViF (rest := []) X hK hT hA h (fun sz => gX11_hiddenAt_a470eb9 l D cy x0 nw hh la4 las4 hhb hhc nwv sc scg sch gu guf a_1 a_2 a_3 (.ref tp) xtl xfk xfp (.ref rd) (.ref bf) (.ref tr) (.ref hsy) (.ref trs) (.ref ims) (.ref imm) (.ref ci) (.ref tu) xch nwd nwa hnl hnp hnt hns w5 w6 (.ref hha) (.ref hhd) (.ref hhe) n4 fs4 fhb fhc nwfv fscg fsch guo gup gus guz fguf (i_rng _) (i_rng _) (i_rng _) hxtl (i_rng _) (i_rng _) (i_rng _) (i_rng _) (i_rng _) b1 b2 (i_rng _) (i_rng _) (by omega) hguo (i_rng _) (i_rng _) hguz (rg_wide rnwfv (by decide) (by decide)) (rg_wide rfguf (by decide) (by decide)) sz) wm_5_85 wm_5_88 wm_1_1 hd_X11_hiddenAt wm_5_86 wm_5_87 (ci := 11) (q0 := 0) rfl rfl ⟨Nat.le_of_ble_eq_true rfl, Nat.le_of_ble_eq_true rfl⟩ hls rfl (Nat.le_of_ble_eq_true rfl) dL_law_1115 ⟨show cells + 0 ≤ 600000 from Nat.le_trans (Nat.add_le_add_right hc0 0) (by decide), show slots + 0 ≤ 7302250 from Nat.le_trans (Nat.add_le_add_right hs0 0) (by decide)⟩ [0, 2, 65, 71, 72, 67, 68, 3, 24, 25, 26, 36, 37] rfl rfl (fun _ => rfl) (fun r_1 u_1 H locs w_1 h_1 => ?_)
    clear h
    obtain ⟨wr_1, w1_0, w1_1, w1_2, w1_3, w1_4, _⟩ := w_1
    replace h_1 := q_pX (ix := [some 0, none, some 1, some 7, none, none, none, none, none, none, none, none, none, none, none, none, none, none, none, none, none, none, none, none, some 8, some 9, some 10, none, none, none, none, none, none, none, none, none, some 11, some 12, none, none, none, none, none, none, none, none, none, none, none, none, none, none, none, none, none, none, none, none, none, none, none, none, none, none, none, some 2, none, some 5, some 6, none, none, some 3, some 4]) h_1 rfl rfl (by decide +kernel) rfl (by decide +kernel)
    have hmono : ∀ a, hv a → HouseIn cy pl a := fun a ha => by rw [ehv] at ha; exact ha
    exact kk r_1 _ _ _ (fun _ k_ => k_ (tp) (nw) (nwv) (bf) (bfv) (tr) (trv) (hsy) (trs) (ty0) (ty0r) (ty1) (ty1r) (ty2) (ty2r) (ty3) (ty3r) (ims) (im0) (im0v) (im1) (im1v) (imm) (sc) (scg) (sch) (ci) (cir) (cipa) (ciw) (tu) (tup) (tuq) (tuf) (tub) (gu) (guf) (tk) (tkk) (tkp) (tkv) (rd) (rdc) (hpa) (hh) (hob) (hot) (hoi0) (hoi1) (xtl) (xfk) (xfp) (xch) (nwd) (nwa) (bfd) (bfa) (trd) (tra) (his) (ty0s) (ty0z) (ty1s) (ty1z) (ty2s) (ty2z) (ty3s) (ty3z) (im0d) (im0a) (im1d) (im1a) (cip) (tuo) (tut) (tus) (tul) ((u_1.2.1 0 0)) ((u_1.2.1 1 0)) ((u_1.2.1 2 0)) ((u_1.2.1 3 0)) (tkl) (tkz) (rda) (rdt) (rdf) (rdp) (rdz) (rdn) (tkt) (rto) (ftp) (nwfv) (bffv) (trfv) (ktr) (gty0) (gty1) (gty2) (gty3) (kim) (im0fv) (im1fv) (fimm) ((u_1.2.1 5)) ((u_1.2.1 6)) (fcir) (fcipa) (fciw) (ftup) (ftuq) (ftuf) (ftub) ((u_1.2.1 4)) (ftkk) (ftkp) (ftkv) (frdc) (vb) (hxtl) (rftp) (rnwfv) (rbffv) (rtrfv) (hhis) (hktr0) (hktr1) (hktr2) (hktr3) (hty0s) (hty0z) (hty1s) (hty1z) (hty2s) (hty2z) (hty3s) (hty3z) (hkim0) (hkim1) (rim0fv) (rim1fv) (hcip) (rfcir) (htuo) (htut) (htul) (rftuq) (rftuf) (w1_0) (w1_3) (w1_4) (htkl) (htkz) (hrda) (hrdz) (hb_mono okvb hmono) (hmono _ HHhh) (hmono _ HHhob) (hmono _ HHhot) (hmono _ HHhoi0) (hmono _ HHhoi1) (rfl) (rfl) (rfl) (rfl) rfl rfl) (q_back h_1 hp rfl)
set_option maxHeartbeats 8000000 in
set_option maxRecDepth 100000 in
theorem mc_hiddenAt (l : Launch) {p : Program} {e : Env} {s : State} {m : MethodId} {below : List Frame} {meth : Method} {c : Code} {b : Nat} {Q : State → Prop} {D : va_G} {cy : Nat → ClassId} {H : Heap} {locs : List Loc} {ls : Array Slot} (X : qX p s m #[Value.ref b] c cL_law 4 RL) (hK : qK D cy s) (hT : qT cy (fun q => s.heap.size ≤ q) s) (hls : ls.size = 4) {m0 cells slots : Nat} {P wm : va_W} {a_1 : Int32} {a_2 : Int32} {a_3 : Int32} {gt : Int} {gb : Nat → Int} {gf : Int} {gp : Int} (hc0 : cells ≤ 26000) (hs0 : slots ≤ 5720000) (hM : MOK cy m0 wm gt gb gf gp) (h : qW D (fun q => s.heap.size ≤ q) s.heap (wm ++ P) H locs) (kk : ∀ (r : Int32) (H : Heap) (locs : List Loc) (w2 : va_W), MOK cy m0 w2 gt gb gf gp → qW D (fun q => s.heap.size ≤ q) s.heap (w2 ++ P) H locs → W p l e room_1 s m #[Value.ref b] below meth c H locs cells slots Q (F0 m 1138 ls [.int r])) : W p l e room_1 s m #[Value.ref b] below meth c H locs cells slots Q (F0 m 1135 ls [.int a_3, .int a_2, .int a_1, .ref m0]) := by
  have hA : ∀ q : Nat, s.heap.size ≤ q → (fun q => s.heap.size ≤ q) q := fun _ h => h
  refine hM _ ?_
  clear hM
  intros al hs mtp fr rec wds swd opd was par wth bwt met mtw_ mtf trn ism rso rmy nms mth mtd mat mbh msz mki mnu mwr mwa mfk mfp mrd mtw mx mbt mbw mtu nde fnl fnv fnp fnc fal fhs fmtp ffr frec fwds fswd fopd fwas fpar fwth fbwt fmet fmtw fmtf ftrn fism frso frmy gnms hmtd hmat hmbh hmsz hmnu hnde htal_84 rfal hfnl htfr_0 htfr_1 hfnp htfr_2 hfnc htfr_405 rfswd rfopd rfwas rfmet rfrmy eg0 eg1 eg2 eg3 hw_
  subst eg0
  subst eg1
  subst eg2
  subst eg3
  subst hw_
  refine q_callViF (rest := []) X hK hT hA h (fun sz => gX12_hiddenAt_9b80646 l D cy m0 al rec wds met a_1 a_2 a_3 mth (.ref hs) (.ref mtp) (.ref fr) mtd mat mbh msz mki mnu mwr mwa mfk mfp mrd (.ref swd) (.ref opd) (.ref was) mtw mx (.ref par) (.ref wth) (.ref bwt) mbt mbw (.ref mtw_) (.ref mtf) (.ref trn) (.ref ism) mtu (.ref rso) (.ref rmy) (.ref nms) fal nde frec fwds fmet (i_rng _) (i_rng _) (i_rng _) (i_rng _) hmtd hmat hmbh hmsz (i_rng _) hmnu (i_rng _) (i_rng _) (i_rng _) (i_rng _) (i_rng _) (i_rng _) (i_rng _) (i_rng _) (i_rng _) (i_rng _) hnde htal_84 rfal (rg_wide rfmet (by decide) (by decide)) sz) wm_7_239 wm_8_2 wm_1_12 hd_X12_hiddenAt wm_8_0 wm_8_1 (ci := 12) (q0 := 0) rfl rfl ⟨Nat.le_of_ble_eq_true rfl, Nat.le_of_ble_eq_true rfl⟩ hls rfl (Nat.le_of_ble_eq_true rfl) dL_law_1135 ⟨show cells + 0 ≤ 600000 from Nat.le_trans (Nat.add_le_add_right hc0 0) (by decide), show slots + 0 ≤ 7302250 from Nat.le_trans (Nat.add_le_add_right hs0 0) (by decide)⟩ [0, 1, 5, 6, 13] rfl rfl (fun _ => rfl) (fun r_1 u_1 H locs w_1 h_1 => ?_)
  clear h
  obtain ⟨wr_1, w1_0, w1_1, w1_2, w1_3, _⟩ := w_1
  exact kk r_1 _ _ _ (fun _ k_ => k_ (al) (hs) (mtp) (fr) (rec) (wds) (swd) (opd) (was) (par) (wth) (bwt) (met) (mtw_) (mtf) (trn) (ism) (rso) (rmy) (nms) ((u_1.2.1 0 0)) (mtd) (mat) (mbh) (msz) (mki) (mnu) (mwr) (mwa) (mfk) (mfp) (mrd) (mtw) (mx) (mbt) (mbw) (mtu) (nde) (fnl) (fnv) (fnp) (fnc) ((u_1.2.1 1)) (fhs) (fmtp) (ffr) ((u_1.2.1 2)) ((u_1.2.1 3)) (fswd) (fopd) (fwas) (fpar) (fwth) (fbwt) ((u_1.2.1 4)) (fmtw) (fmtf) (ftrn) (fism) (frso) (frmy) (gnms) (hmtd) (hmat) (hmbh) (hmsz) (hmnu) (hnde) (w1_3) (w1_1) (hfnl) (htfr_0) (htfr_1) (hfnp) (htfr_2) (hfnc) (htfr_405) (rfswd) (rfopd) (rfwas) (w1_2) (rfrmy) (rfl) (rfl) (rfl) (rfl) rfl) h_1
set_option maxHeartbeats 8000000 in
set_option maxRecDepth 100000 in
theorem lc_hiddenAt (l : Launch) {p : Program} {e : Env} {s : State} {m : MethodId} {below : List Frame} {meth : Method} {c : Code} {b : Nat} {xs : Nat → Int32} {Q : State → Prop} {D : va_G} {cy : Nat → ClassId} {H : Heap} {locs : List Loc} {ls : Array Slot} {x0 m0 L k cells slots : Nat} {i : Int32} {tl : Int} (X : qX p s m #[Value.ref b] c cL_law 4 RL) (hK : qK D cy s) (hT : qT cy (fun q => s.heap.size ≤ q) s) (hX : va_X b L xs s s.heap) (hbl : b < s.heap.size) (hi : 0 ≤ i.toInt ∧ i.toInt + 6 ≤ L ∧ L ≤ 3072) (hk : k < 512) (hcell : cells + tl.toNat ≤ 200 + 50 * k) (hslot : slots + 451 * tl.toNat ≤ 30000 + 11100 * k) (hl : lv_has ls 4 [(3, .int i), (2, .ref m0), (1, .ref x0), (0, .ref b)]) (hI : LInv cy D (fun q => s.heap.size ≤ q) s.heap x0 m0 H locs tl) (kk : ∀ (H : Heap) (locs : List Loc) (ls : Array Slot) (cells slots : Nat) (tl : Int), lv_has ls 4 [(3, .int i), (2, .ref m0), (1, .ref x0), (0, .ref b)] → LInv cy D (fun q => s.heap.size ≤ q) s.heap x0 m0 H locs tl → cells + tl.toNat ≤ 200 + 50 * (k + 1) → slots + 451 * tl.toNat ≤ 30000 + 11100 * (k + 1) → W p l e room_1 s m #[Value.ref b] below meth c H locs cells slots Q (F0 m 1459 ls [])) : W p l e room_1 s m #[Value.ref b] below meth c H locs cells slots Q (F0 m 1099 ls []) := by
  obtain ⟨hx, hb, hml, hown, ht⟩ := id X
  have hA : ∀ q : Nat, s.heap.size ≤ q → (fun q => s.heap.size ≤ q) q := fun _ h => h
  have hbA : ¬ (fun q : Nat => s.heap.size ≤ q) b := Nat.not_le.mpr hbl
  have hc0 : cells ≤ 26000 := by omega
  have hs0 : slots ≤ 5720000 := by omega
  obtain ⟨gt, gb, gf, gp, wm, wx, pl, hMo, hXo, h⟩ := hI
  refine lv_aload_n hx hb dL_law_1099 rfl (lv_at hl 2 rfl) ?_
  refine lv_aload_n hx hb dL_law_1100 rfl (lv_at hl 3 rfl) ?_
  refine lv_iload_n hx hb dL_law_1101 rfl (lv_at hl 0 rfl) ?_
  refine lv_iconst (v := 1) hx hb dL_law_1102 (by decide) ?_
  refine lv_iadd hx hb dL_law_1103 ?_
  obtain ⟨z_1, ez_1, hz_1⟩ := li_add hi 1 (n := 1) (by decide) (by decide) (by decide)
  refine q_c z_1 ez_1 ?_
  clear ez_1
  refine va_sld hx hb hX hbl hbA h.2.2 (li_in hi hz_1 (by decide) (by decide)) dL_law_1104 ?_
  obtain ⟨x_1, ex_1, hx_1⟩ := e_any (xs (z_1).toNatClampNeg)
  refine q_c x_1 ex_1 ?_
  refine lv_aload_n hx hb dL_law_1105 rfl (lv_at hl 3 rfl) ?_
  refine lv_iload_n hx hb dL_law_1106 rfl (lv_at hl 0 rfl) ?_
  refine lv_iconst (v := 2) hx hb dL_law_1107 (by decide) ?_
  refine lv_iadd hx hb dL_law_1108 ?_
  obtain ⟨z_2, ez_2, hz_2⟩ := li_add hi 2 (n := 2) (by decide) (by decide) (by decide)
  refine q_c z_2 ez_2 ?_
  clear ez_2
  refine va_sld hx hb hX hbl hbA h.2.2 (li_in hi hz_2 (by decide) (by decide)) dL_law_1109 ?_
  obtain ⟨x_2, ex_2, hx_2⟩ := e_any (xs (z_2).toNatClampNeg)
  refine q_c x_2 ex_2 ?_
  refine lv_aload_n hx hb dL_law_1110 rfl (lv_at hl 3 rfl) ?_
  refine lv_iload_n hx hb dL_law_1111 rfl (lv_at hl 0 rfl) ?_
  refine lv_iconst (v := 3) hx hb dL_law_1112 (by decide) ?_
  refine lv_iadd hx hb dL_law_1113 ?_
  obtain ⟨z_3, ez_3, hz_3⟩ := li_add hi 3 (n := 3) (by decide) (by decide) (by decide)
  refine q_c z_3 ez_3 ?_
  clear ez_3
  refine va_sld hx hb hX hbl hbA h.2.2 (li_in hi hz_3 (by decide) (by decide)) dL_law_1114 ?_
  obtain ⟨x_3, ex_3, hx_3⟩ := e_any (xs (z_3).toNatClampNeg)
  refine q_c x_3 ex_3 ?_
  replace h := q_rotX h
  refine xc_hiddenAt l X hK hT hl.1 hc0 hs0 hXo h (fun r_4 H locs wx hXo h => ?_)
  refine lv_pop hx hb dL_law_1118 rfl ?_
  refine lv_aload_n hx hb dL_law_1119 rfl (lv_at hl 1 rfl) ?_
  refine lv_aload_n hx hb dL_law_1120 rfl (lv_at hl 3 rfl) ?_
  refine lv_iload_n hx hb dL_law_1121 rfl (lv_at hl 0 rfl) ?_
  refine lv_iconst (v := 1) hx hb dL_law_1122 (by decide) ?_
  refine lv_iadd hx hb dL_law_1123 ?_
  obtain ⟨z_5, ez_5, hz_5⟩ := li_add hi 1 (n := 1) (by decide) (by decide) (by decide)
  refine q_c z_5 ez_5 ?_
  clear ez_5
  refine va_sld hx hb hX hbl hbA h.2.2 (li_in hi hz_5 (by decide) (by decide)) dL_law_1124 ?_
  refine q_c x_1 ((congrArg xs (cl_eq (x := z_5) (y := z_1) (hz_5.trans hz_1.symm))).trans ex_1) ?_
  refine lv_aload_n hx hb dL_law_1125 rfl (lv_at hl 3 rfl) ?_
  refine lv_iload_n hx hb dL_law_1126 rfl (lv_at hl 0 rfl) ?_
  refine lv_iconst (v := 2) hx hb dL_law_1127 (by decide) ?_
  refine lv_iadd hx hb dL_law_1128 ?_
  obtain ⟨z_6, ez_6, hz_6⟩ := li_add hi 2 (n := 2) (by decide) (by decide) (by decide)
  refine q_c z_6 ez_6 ?_
  clear ez_6
  refine va_sld hx hb hX hbl hbA h.2.2 (li_in hi hz_6 (by decide) (by decide)) dL_law_1129 ?_
  refine q_c x_2 ((congrArg xs (cl_eq (x := z_6) (y := z_2) (hz_6.trans hz_2.symm))).trans ex_2) ?_
  refine lv_aload_n hx hb dL_law_1130 rfl (lv_at hl 3 rfl) ?_
  refine lv_iload_n hx hb dL_law_1131 rfl (lv_at hl 0 rfl) ?_
  refine lv_iconst (v := 3) hx hb dL_law_1132 (by decide) ?_
  refine lv_iadd hx hb dL_law_1133 ?_
  obtain ⟨z_7, ez_7, hz_7⟩ := li_add hi 3 (n := 3) (by decide) (by decide) (by decide)
  refine q_c z_7 ez_7 ?_
  clear ez_7
  refine va_sld hx hb hX hbl hbA h.2.2 (li_in hi hz_7 (by decide) (by decide)) dL_law_1134 ?_
  refine q_c x_3 ((congrArg xs (cl_eq (x := z_7) (y := z_3) (hz_7.trans hz_3.symm))).trans ex_3) ?_
  replace h := q_rotM h
  refine mc_hiddenAt l X hK hT hl.1 hc0 hs0 hMo h (fun r_8 H locs wm hMo h => ?_)
  refine lv_pop hx hb dL_law_1138 rfl ?_
  refine lv_goto (tgt := 1459) hx hb dL_law_1139 (by decide) ?_
  exact kk _ _ _ cells slots tl (lv_sub hl [0, 1, 2, 3] rfl) ⟨_, _, _, _, _, _, _, hMo, hXo, h⟩ (li_c hcell) (li_s hslot)
set_option maxHeartbeats 8000000 in
set_option maxRecDepth 100000 in
theorem xc_probe (l : Launch) {p : Program} {e : Env} {s : State} {m : MethodId} {below : List Frame} {meth : Method} {c : Code} {b : Nat} {Q : State → Prop} {D : va_G} {cy : Nat → ClassId} {H : Heap} {locs : List Loc} {ls : Array Slot} (X : qX p s m #[Value.ref b] c cL_law 4 RL) (hK : qK D cy s) (hT : qT cy (fun q => s.heap.size ≤ q) s) (hls : ls.size = 4) {x0 cells slots : Nat} {P pl wx : va_W} {tl : Int} {a_1 : Int32} {a_2 : Int32} {gt : Int} {gb : Nat → Int} {gf : Int} {gp : Int} (hc0 : cells ≤ 26000) (hs0 : slots ≤ 5720000) (hX : XOK cy x0 pl wx tl gt gb gf gp) (h : qW D (fun q => s.heap.size ≤ q) s.heap (wx ++ (pl ++ P)) H locs) (kk : ∀ (r : Int32) (H : Heap) (locs : List Loc) (w2 : va_W), XOK cy x0 pl w2 tl gt gb gf gp → qW D (fun q => s.heap.size ≤ q) s.heap (w2 ++ (pl ++ P)) H locs → W p l e room_1 s m #[Value.ref b] below meth c H locs cells slots Q (F0 m 1156 ls [.int r])) : W p l e room_1 s m #[Value.ref b] below meth c H locs cells slots Q (F0 m 1153 ls [.int a_2, .int a_1, .ref x0]) := by
  have hA : ∀ q : Nat, s.heap.size ≤ q → (fun q => s.heap.size ≤ q) q := fun _ h => h
  refine hX _ ?_
  clear hX
  intros tp nw nwv bf bfv tr trv hsy trs ty0 ty0r ty1 ty1r ty2 ty2r ty3 ty3r ims im0 im0v im1 im1v imm sc scg sch ci cir cipa ciw tu tup tuq tuf tub gu guf tk tkk tkp tkv rd rdc hpa hh hob hot hoi0 hoi1 xtl xfk xfp xch nwd nwa bfd bfa trd tra his ty0s ty0z ty1s ty1z ty2s ty2z ty3s ty3z im0d im0a im1d im1a cip tuo tut tus tul guo gup gus guz tkl tkz rda rdt rdf rdp rdz rdn tkt rto ftp nwfv bffv trfv ktr gty0 gty1 gty2 gty3 kim im0fv im1fv fimm fscg fsch fcir fcipa fciw ftup ftuq ftuf ftub fguf ftkk ftkp ftkv frdc vb hxtl rftp rnwfv rbffv rtrfv hhis hktr0 hktr1 hktr2 hktr3 hty0s hty0z hty1s hty1z hty2s hty2z hty3s hty3z hkim0 hkim1 rim0fv rim1fv hcip rfcir htuo htut htul rftuq rftuf hguo hguz rfguf htkl htkz hrda hrdz okvb HHhh HHhob HHhot HHhoi0 HHhoi1 eg0 eg1 eg2 eg3 htl hw_
  subst eg0
  subst eg1
  subst eg2
  subst eg3
  subst htl
  subst hw_
  have HX := HHhh
  obtain ⟨hv, ehv⟩ : ∃ hv : Nat → Prop, hv = HouseIn cy pl := ⟨_, rfl⟩
  rw [← ehv] at okvb HHhh HHhob HHhot HHhoi0 HHhoi1
  obtain ⟨hnl, hnp, hnt, hns, w4, w5, w6, hha, hhb, hhc, hhd, hhe, fha, fhb, fhc, fhd, fhe, L4, L5, L6, b1, b2, b3, l4, l5, l6, hm, hn⟩ := HX
  obtain ⟨r, hp⟩ := house_pick hm hn L4 ((List.sublist_append_left L4 L5).trans (List.sublist_append_left _ _))
  rcases l4 with ⟨rfl, rfl⟩ | ⟨la4, las4, n4, fs4, rfl, hn4, rfl⟩
  · skip
    replace h := q_open h hp
    refine q_callViF (rest := []) X hK hT hA h (fun sz => gX11_probe_d6dd8d0 l D cy x0 nw hh hhb hhc nwv sc gu guf a_1 a_2 (.ref tp) xtl xfk xfp (.ref rd) (.ref bf) (.ref tr) (.ref hsy) (.ref trs) (.ref ims) (.ref imm) (.ref ci) (.ref tu) xch nwd nwa hnl hnp hnt hns w5 w6 (.ref hha) (.ref hhd) (.ref hhe) fhb fhc nwfv (.ref scg) (.ref sch) guo gup gus guz fguf (i_rng _) (i_rng _) hxtl (i_rng _) (i_rng _) (i_rng _) (i_rng _) (i_rng _) b1 b2 (i_rng _) (i_rng _) hguo (i_rng _) (i_rng _) hguz (rg_wide rnwfv (by decide) (by decide)) (rg_wide rfguf (by decide) (by decide)) sz) wm_5_89 wm_5_92 wm_1_1 hd_X11_probe wm_5_90 wm_5_91 (ci := 11) (q0 := 0) rfl rfl ⟨Nat.le_of_ble_eq_true rfl, Nat.le_of_ble_eq_true rfl⟩ hls rfl (Nat.le_of_ble_eq_true rfl) dL_law_1153 ⟨show cells + 0 ≤ 600000 from Nat.le_trans (Nat.add_le_add_right hc0 0) (by decide), show slots + 0 ≤ 7302250 from Nat.le_trans (Nat.add_le_add_right hs0 0) (by decide)⟩ [0, 2, 65, 67, 68, 3, 24, 36, 37] rfl rfl (fun _ => rfl) (fun r_1 u_1 H locs w_1 h_1 => ?_)
    clear h
    obtain ⟨wr_1, w1_0, w1_1, w1_2, w1_3, w1_4, _⟩ := w_1
    replace h_1 := q_pX (ix := [some 0, none, some 1, some 5, none, none, none, none, none, none, none, none, none, none, none, none, none, none, none, none, none, none, none, none, some 6, none, none, none, none, none, none, none, none, none, none, none, some 7, some 8, none, none, none, none, none, none, none, none, none, none, none, none, none, none, none, none, none, none, none, none, none, none, none, none, none, none, none, some 2, none, some 3, some 4, none, none]) h_1 rfl rfl (by decide +kernel) rfl (by decide +kernel)
    have hmono : ∀ a, hv a → HouseIn cy pl a := fun a ha => by rw [ehv] at ha; exact ha
    exact kk r_1 _ _ _ (fun _ k_ => k_ (tp) (nw) (nwv) (bf) (bfv) (tr) (trv) (hsy) (trs) (ty0) (ty0r) (ty1) (ty1r) (ty2) (ty2r) (ty3) (ty3r) (ims) (im0) (im0v) (im1) (im1v) (imm) (sc) (scg) (sch) (ci) (cir) (cipa) (ciw) (tu) (tup) (tuq) (tuf) (tub) (gu) (guf) (tk) (tkk) (tkp) (tkv) (rd) (rdc) (hpa) (hh) (hob) (hot) (hoi0) (hoi1) (xtl) (xfk) (xfp) (xch) (nwd) (nwa) (bfd) (bfa) (trd) (tra) (his) (ty0s) (ty0z) (ty1s) (ty1z) (ty2s) (ty2z) (ty3s) (ty3z) (im0d) (im0a) (im1d) (im1a) (cip) (tuo) (tut) (tus) (tul) ((u_1.2.1 0 0)) ((u_1.2.1 1 0)) ((u_1.2.1 2 0)) ((u_1.2.1 3 0)) (tkl) (tkz) (rda) (rdt) (rdf) (rdp) (rdz) (rdn) (tkt) (rto) (ftp) (nwfv) (bffv) (trfv) (ktr) (gty0) (gty1) (gty2) (gty3) (kim) (im0fv) (im1fv) (fimm) (fscg) (fsch) (fcir) (fcipa) (fciw) (ftup) (ftuq) (ftuf) (ftub) ((u_1.2.1 4)) (ftkk) (ftkp) (ftkv) (frdc) (vb) (hxtl) (rftp) (rnwfv) (rbffv) (rtrfv) (hhis) (hktr0) (hktr1) (hktr2) (hktr3) (hty0s) (hty0z) (hty1s) (hty1z) (hty2s) (hty2z) (hty3s) (hty3z) (hkim0) (hkim1) (rim0fv) (rim1fv) (hcip) (rfcir) (htuo) (htut) (htul) (rftuq) (rftuf) (w1_0) (w1_3) (w1_4) (htkl) (htkz) (hrda) (hrdz) (hb_mono okvb hmono) (hmono _ HHhh) (hmono _ HHhob) (hmono _ HHhot) (hmono _ HHhoi0) (hmono _ HHhoi1) (rfl) (rfl) (rfl) (rfl) rfl rfl) (q_back h_1 hp rfl)
  · skip
    replace h := q_open h hp
    refine q_callViF (rest := []) X hK hT hA h (fun sz => gX11_probe_3fd7fb2 l D cy x0 nw hh la4 las4 hhb hhc nwv sc scg sch gu guf a_1 a_2 (.ref tp) xtl xfk xfp (.ref rd) (.ref bf) (.ref tr) (.ref hsy) (.ref trs) (.ref ims) (.ref imm) (.ref ci) (.ref tu) xch nwd nwa hnl hnp hnt hns w5 w6 (.ref hha) (.ref hhd) (.ref hhe) n4 fs4 fhb fhc nwfv fscg fsch guo gup gus guz fguf (i_rng _) (i_rng _) hxtl (i_rng _) (i_rng _) (i_rng _) (i_rng _) (i_rng _) b1 b2 (i_rng _) (i_rng _) (by omega) hguo (i_rng _) (i_rng _) hguz (rg_wide rnwfv (by decide) (by decide)) (rg_wide rfguf (by decide) (by decide)) sz) wm_5_89 wm_5_92 wm_1_1 hd_X11_probe wm_5_90 wm_5_91 (ci := 11) (q0 := 0) rfl rfl ⟨Nat.le_of_ble_eq_true rfl, Nat.le_of_ble_eq_true rfl⟩ hls rfl (Nat.le_of_ble_eq_true rfl) dL_law_1153 ⟨show cells + 0 ≤ 600000 from Nat.le_trans (Nat.add_le_add_right hc0 0) (by decide), show slots + 0 ≤ 7302250 from Nat.le_trans (Nat.add_le_add_right hs0 0) (by decide)⟩ [0, 2, 65, 71, 72, 67, 68, 3, 24, 25, 26, 36, 37] rfl rfl (fun _ => rfl) (fun r_1 u_1 H locs w_1 h_1 => ?_)
    clear h
    obtain ⟨wr_1, w1_0, w1_1, w1_2, w1_3, w1_4, _⟩ := w_1
    replace h_1 := q_pX (ix := [some 0, none, some 1, some 7, none, none, none, none, none, none, none, none, none, none, none, none, none, none, none, none, none, none, none, none, some 8, some 9, some 10, none, none, none, none, none, none, none, none, none, some 11, some 12, none, none, none, none, none, none, none, none, none, none, none, none, none, none, none, none, none, none, none, none, none, none, none, none, none, none, none, some 2, none, some 5, some 6, none, none, some 3, some 4]) h_1 rfl rfl (by decide +kernel) rfl (by decide +kernel)
    have hmono : ∀ a, hv a → HouseIn cy pl a := fun a ha => by rw [ehv] at ha; exact ha
    exact kk r_1 _ _ _ (fun _ k_ => k_ (tp) (nw) (nwv) (bf) (bfv) (tr) (trv) (hsy) (trs) (ty0) (ty0r) (ty1) (ty1r) (ty2) (ty2r) (ty3) (ty3r) (ims) (im0) (im0v) (im1) (im1v) (imm) (sc) (scg) (sch) (ci) (cir) (cipa) (ciw) (tu) (tup) (tuq) (tuf) (tub) (gu) (guf) (tk) (tkk) (tkp) (tkv) (rd) (rdc) (hpa) (hh) (hob) (hot) (hoi0) (hoi1) (xtl) (xfk) (xfp) (xch) (nwd) (nwa) (bfd) (bfa) (trd) (tra) (his) (ty0s) (ty0z) (ty1s) (ty1z) (ty2s) (ty2z) (ty3s) (ty3z) (im0d) (im0a) (im1d) (im1a) (cip) (tuo) (tut) (tus) (tul) ((u_1.2.1 0 0)) ((u_1.2.1 1 0)) ((u_1.2.1 2 0)) ((u_1.2.1 3 0)) (tkl) (tkz) (rda) (rdt) (rdf) (rdp) (rdz) (rdn) (tkt) (rto) (ftp) (nwfv) (bffv) (trfv) (ktr) (gty0) (gty1) (gty2) (gty3) (kim) (im0fv) (im1fv) (fimm) ((u_1.2.1 5)) ((u_1.2.1 6)) (fcir) (fcipa) (fciw) (ftup) (ftuq) (ftuf) (ftub) ((u_1.2.1 4)) (ftkk) (ftkp) (ftkv) (frdc) (vb) (hxtl) (rftp) (rnwfv) (rbffv) (rtrfv) (hhis) (hktr0) (hktr1) (hktr2) (hktr3) (hty0s) (hty0z) (hty1s) (hty1z) (hty2s) (hty2z) (hty3s) (hty3z) (hkim0) (hkim1) (rim0fv) (rim1fv) (hcip) (rfcir) (htuo) (htut) (htul) (rftuq) (rftuf) (w1_0) (w1_3) (w1_4) (htkl) (htkz) (hrda) (hrdz) (hb_mono okvb hmono) (hmono _ HHhh) (hmono _ HHhob) (hmono _ HHhot) (hmono _ HHhoi0) (hmono _ HHhoi1) (rfl) (rfl) (rfl) (rfl) rfl rfl) (q_back h_1 hp rfl)
set_option maxHeartbeats 8000000 in
set_option maxRecDepth 100000 in
theorem mc_probe (l : Launch) {p : Program} {e : Env} {s : State} {m : MethodId} {below : List Frame} {meth : Method} {c : Code} {b : Nat} {Q : State → Prop} {D : va_G} {cy : Nat → ClassId} {H : Heap} {locs : List Loc} {ls : Array Slot} (X : qX p s m #[Value.ref b] c cL_law 4 RL) (hK : qK D cy s) (hT : qT cy (fun q => s.heap.size ≤ q) s) (hls : ls.size = 4) {m0 cells slots : Nat} {P wm : va_W} {a_1 : Int32} {a_2 : Int32} {gt : Int} {gb : Nat → Int} {gf : Int} {gp : Int} (hc0 : cells ≤ 26000) (hs0 : slots ≤ 5720000) (hM : MOK cy m0 wm gt gb gf gp) (h : qW D (fun q => s.heap.size ≤ q) s.heap (wm ++ P) H locs) (kk : ∀ (r : Int32) (H : Heap) (locs : List Loc) (w2 : va_W), MOK cy m0 w2 gt gb gf gp → qW D (fun q => s.heap.size ≤ q) s.heap (w2 ++ P) H locs → W p l e room_1 s m #[Value.ref b] below meth c H locs cells slots Q (F0 m 1171 ls [.int r])) : W p l e room_1 s m #[Value.ref b] below meth c H locs cells slots Q (F0 m 1168 ls [.int a_2, .int a_1, .ref m0]) := by
  have hA : ∀ q : Nat, s.heap.size ≤ q → (fun q => s.heap.size ≤ q) q := fun _ h => h
  refine hM _ ?_
  clear hM
  intros al hs mtp fr rec wds swd opd was par wth bwt met mtw_ mtf trn ism rso rmy nms mth mtd mat mbh msz mki mnu mwr mwa mfk mfp mrd mtw mx mbt mbw mtu nde fnl fnv fnp fnc fal fhs fmtp ffr frec fwds fswd fopd fwas fpar fwth fbwt fmet fmtw fmtf ftrn fism frso frmy gnms hmtd hmat hmbh hmsz hmnu hnde htal_84 rfal hfnl htfr_0 htfr_1 hfnp htfr_2 hfnc htfr_405 rfswd rfopd rfwas rfmet rfrmy eg0 eg1 eg2 eg3 hw_
  subst eg0
  subst eg1
  subst eg2
  subst eg3
  subst hw_
  refine q_callViF (rest := []) X hK hT hA h (fun sz => gX12_probe_8b85bb7 l D cy m0 al rec wds met a_1 a_2 mth (.ref hs) (.ref mtp) (.ref fr) mtd mat mbh msz mki mnu mwr mwa mfk mfp mrd (.ref swd) (.ref opd) (.ref was) mtw mx (.ref par) (.ref wth) (.ref bwt) mbt mbw (.ref mtw_) (.ref mtf) (.ref trn) (.ref ism) mtu (.ref rso) (.ref rmy) (.ref nms) fal nde frec fwds fmet (i_rng _) (i_rng _) (i_rng _) hmtd hmat hmbh hmsz (i_rng _) hmnu (i_rng _) (i_rng _) (i_rng _) (i_rng _) (i_rng _) (i_rng _) (i_rng _) (i_rng _) (i_rng _) (i_rng _) hnde htal_84 rfal (rg_wide rfmet (by decide) (by decide)) sz) wm_8_3 wm_8_6 wm_1_12 hd_X12_probe wm_8_4 wm_8_5 (ci := 12) (q0 := 0) rfl rfl ⟨Nat.le_of_ble_eq_true rfl, Nat.le_of_ble_eq_true rfl⟩ hls rfl (Nat.le_of_ble_eq_true rfl) dL_law_1168 ⟨show cells + 0 ≤ 600000 from Nat.le_trans (Nat.add_le_add_right hc0 0) (by decide), show slots + 0 ≤ 7302250 from Nat.le_trans (Nat.add_le_add_right hs0 0) (by decide)⟩ [0, 1, 5, 6, 13] rfl rfl (fun _ => rfl) (fun r_1 u_1 H locs w_1 h_1 => ?_)
  clear h
  obtain ⟨wr_1, w1_0, w1_1, w1_2, w1_3, _⟩ := w_1
  exact kk r_1 _ _ _ (fun _ k_ => k_ (al) (hs) (mtp) (fr) (rec) (wds) (swd) (opd) (was) (par) (wth) (bwt) (met) (mtw_) (mtf) (trn) (ism) (rso) (rmy) (nms) ((u_1.2.1 3 0)) (mtd) (mat) (mbh) (msz) (mki) (mnu) (mwr) (mwa) (mfk) (mfp) (mrd) (mtw) (mx) (mbt) (mbw) (mtu) (nde) (fnl) (fnv) (fnp) (fnc) ((u_1.2.1 4)) (fhs) (fmtp) (ffr) ((u_1.2.1 0)) ((u_1.2.1 1)) (fswd) (fopd) (fwas) (fpar) (fwth) (fbwt) ((u_1.2.1 2)) (fmtw) (fmtf) (ftrn) (fism) (frso) (frmy) (gnms) (hmtd) (hmat) (hmbh) (hmsz) (hmnu) (hnde) (w1_3) (w1_2) (hfnl) (htfr_0) (htfr_1) (hfnp) (htfr_2) (hfnc) (htfr_405) (rfswd) (rfopd) (rfwas) (w1_0) (rfrmy) (rfl) (rfl) (rfl) (rfl) rfl) h_1
set_option maxHeartbeats 8000000 in
set_option maxRecDepth 100000 in
theorem lc_probe (l : Launch) {p : Program} {e : Env} {s : State} {m : MethodId} {below : List Frame} {meth : Method} {c : Code} {b : Nat} {xs : Nat → Int32} {Q : State → Prop} {D : va_G} {cy : Nat → ClassId} {H : Heap} {locs : List Loc} {ls : Array Slot} {x0 m0 L k cells slots : Nat} {i : Int32} {tl : Int} (X : qX p s m #[Value.ref b] c cL_law 4 RL) (hK : qK D cy s) (hT : qT cy (fun q => s.heap.size ≤ q) s) (hX : va_X b L xs s s.heap) (hbl : b < s.heap.size) (hi : 0 ≤ i.toInt ∧ i.toInt + 6 ≤ L ∧ L ≤ 3072) (hk : k < 512) (hcell : cells + tl.toNat ≤ 200 + 50 * k) (hslot : slots + 451 * tl.toNat ≤ 30000 + 11100 * k) (hl : lv_has ls 4 [(3, .int i), (2, .ref m0), (1, .ref x0), (0, .ref b)]) (hI : LInv cy D (fun q => s.heap.size ≤ q) s.heap x0 m0 H locs tl) (kk : ∀ (H : Heap) (locs : List Loc) (ls : Array Slot) (cells slots : Nat) (tl : Int), lv_has ls 4 [(3, .int i), (2, .ref m0), (1, .ref x0), (0, .ref b)] → LInv cy D (fun q => s.heap.size ≤ q) s.heap x0 m0 H locs tl → cells + tl.toNat ≤ 200 + 50 * (k + 1) → slots + 451 * tl.toNat ≤ 30000 + 11100 * (k + 1) → W p l e room_1 s m #[Value.ref b] below meth c H locs cells slots Q (F0 m 1459 ls [])) : W p l e room_1 s m #[Value.ref b] below meth c H locs cells slots Q (F0 m 1142 ls []) := by
  obtain ⟨hx, hb, hml, hown, ht⟩ := id X
  have hA : ∀ q : Nat, s.heap.size ≤ q → (fun q => s.heap.size ≤ q) q := fun _ h => h
  have hbA : ¬ (fun q : Nat => s.heap.size ≤ q) b := Nat.not_le.mpr hbl
  have hc0 : cells ≤ 26000 := by omega
  have hs0 : slots ≤ 5720000 := by omega
  obtain ⟨gt, gb, gf, gp, wm, wx, pl, hMo, hXo, h⟩ := hI
  refine lv_aload_n hx hb dL_law_1142 rfl (lv_at hl 2 rfl) ?_
  refine lv_aload_n hx hb dL_law_1143 rfl (lv_at hl 3 rfl) ?_
  refine lv_iload_n hx hb dL_law_1144 rfl (lv_at hl 0 rfl) ?_
  refine lv_iconst (v := 1) hx hb dL_law_1145 (by decide) ?_
  refine lv_iadd hx hb dL_law_1146 ?_
  obtain ⟨z_1, ez_1, hz_1⟩ := li_add hi 1 (n := 1) (by decide) (by decide) (by decide)
  refine q_c z_1 ez_1 ?_
  clear ez_1
  refine va_sld hx hb hX hbl hbA h.2.2 (li_in hi hz_1 (by decide) (by decide)) dL_law_1147 ?_
  obtain ⟨x_1, ex_1, hx_1⟩ := e_any (xs (z_1).toNatClampNeg)
  refine q_c x_1 ex_1 ?_
  refine lv_aload_n hx hb dL_law_1148 rfl (lv_at hl 3 rfl) ?_
  refine lv_iload_n hx hb dL_law_1149 rfl (lv_at hl 0 rfl) ?_
  refine lv_iconst (v := 2) hx hb dL_law_1150 (by decide) ?_
  refine lv_iadd hx hb dL_law_1151 ?_
  obtain ⟨z_2, ez_2, hz_2⟩ := li_add hi 2 (n := 2) (by decide) (by decide) (by decide)
  refine q_c z_2 ez_2 ?_
  clear ez_2
  refine va_sld hx hb hX hbl hbA h.2.2 (li_in hi hz_2 (by decide) (by decide)) dL_law_1152 ?_
  obtain ⟨x_2, ex_2, hx_2⟩ := e_any (xs (z_2).toNatClampNeg)
  refine q_c x_2 ex_2 ?_
  replace h := q_rotX h
  refine xc_probe l X hK hT hl.1 hc0 hs0 hXo h (fun r_3 H locs wx hXo h => ?_)
  refine lv_pop hx hb dL_law_1156 rfl ?_
  refine lv_aload_n hx hb dL_law_1157 rfl (lv_at hl 1 rfl) ?_
  refine lv_aload_n hx hb dL_law_1158 rfl (lv_at hl 3 rfl) ?_
  refine lv_iload_n hx hb dL_law_1159 rfl (lv_at hl 0 rfl) ?_
  refine lv_iconst (v := 1) hx hb dL_law_1160 (by decide) ?_
  refine lv_iadd hx hb dL_law_1161 ?_
  obtain ⟨z_4, ez_4, hz_4⟩ := li_add hi 1 (n := 1) (by decide) (by decide) (by decide)
  refine q_c z_4 ez_4 ?_
  clear ez_4
  refine va_sld hx hb hX hbl hbA h.2.2 (li_in hi hz_4 (by decide) (by decide)) dL_law_1162 ?_
  refine q_c x_1 ((congrArg xs (cl_eq (x := z_4) (y := z_1) (hz_4.trans hz_1.symm))).trans ex_1) ?_
  refine lv_aload_n hx hb dL_law_1163 rfl (lv_at hl 3 rfl) ?_
  refine lv_iload_n hx hb dL_law_1164 rfl (lv_at hl 0 rfl) ?_
  refine lv_iconst (v := 2) hx hb dL_law_1165 (by decide) ?_
  refine lv_iadd hx hb dL_law_1166 ?_
  obtain ⟨z_5, ez_5, hz_5⟩ := li_add hi 2 (n := 2) (by decide) (by decide) (by decide)
  refine q_c z_5 ez_5 ?_
  clear ez_5
  refine va_sld hx hb hX hbl hbA h.2.2 (li_in hi hz_5 (by decide) (by decide)) dL_law_1167 ?_
  refine q_c x_2 ((congrArg xs (cl_eq (x := z_5) (y := z_2) (hz_5.trans hz_2.symm))).trans ex_2) ?_
  replace h := q_rotM h
  refine mc_probe l X hK hT hl.1 hc0 hs0 hMo h (fun r_6 H locs wm hMo h => ?_)
  refine lv_pop hx hb dL_law_1171 rfl ?_
  refine lv_goto (tgt := 1459) hx hb dL_law_1172 (by decide) ?_
  exact kk _ _ _ cells slots tl (lv_sub hl [0, 1, 2, 3] rfl) ⟨_, _, _, _, _, _, _, hMo, hXo, h⟩ (li_c hcell) (li_s hslot)
set_option maxHeartbeats 8000000 in
set_option maxRecDepth 100000 in
theorem xc_chance (l : Launch) {p : Program} {e : Env} {s : State} {m : MethodId} {below : List Frame} {meth : Method} {c : Code} {b : Nat} {Q : State → Prop} {D : va_G} {cy : Nat → ClassId} {H : Heap} {locs : List Loc} {ls : Array Slot} (X : qX p s m #[Value.ref b] c cL_law 4 RL) (hK : qK D cy s) (hT : qT cy (fun q => s.heap.size ≤ q) s) (hls : ls.size = 4) {x0 cells slots : Nat} {P pl wx : va_W} {tl : Int} {a_1 : Int32} {a_2 : Int32} {gt : Int} {gb : Nat → Int} {gf : Int} {gp : Int} (hc0 : cells ≤ 26000) (hs0 : slots ≤ 5720000) (hX : XOK cy x0 pl wx tl gt gb gf gp) (h : qW D (fun q => s.heap.size ≤ q) s.heap (wx ++ (pl ++ P)) H locs) (kk : ∀ (r : Int64) (H : Heap) (locs : List Loc) (w2 : va_W), XOK cy x0 pl w2 tl gt gb gf gp → qW D (fun q => s.heap.size ≤ q) s.heap (w2 ++ (pl ++ P)) H locs → W p l e room_1 s m #[Value.ref b] below meth c H locs cells slots Q (F0 m 1189 ls [.long r])) : W p l e room_1 s m #[Value.ref b] below meth c H locs cells slots Q (F0 m 1186 ls [.int a_2, .int a_1, .ref x0]) := by
  have hA : ∀ q : Nat, s.heap.size ≤ q → (fun q => s.heap.size ≤ q) q := fun _ h => h
  refine hX _ ?_
  clear hX
  intros tp nw nwv bf bfv tr trv hsy trs ty0 ty0r ty1 ty1r ty2 ty2r ty3 ty3r ims im0 im0v im1 im1v imm sc scg sch ci cir cipa ciw tu tup tuq tuf tub gu guf tk tkk tkp tkv rd rdc hpa hh hob hot hoi0 hoi1 xtl xfk xfp xch nwd nwa bfd bfa trd tra his ty0s ty0z ty1s ty1z ty2s ty2z ty3s ty3z im0d im0a im1d im1a cip tuo tut tus tul guo gup gus guz tkl tkz rda rdt rdf rdp rdz rdn tkt rto ftp nwfv bffv trfv ktr gty0 gty1 gty2 gty3 kim im0fv im1fv fimm fscg fsch fcir fcipa fciw ftup ftuq ftuf ftub fguf ftkk ftkp ftkv frdc vb hxtl rftp rnwfv rbffv rtrfv hhis hktr0 hktr1 hktr2 hktr3 hty0s hty0z hty1s hty1z hty2s hty2z hty3s hty3z hkim0 hkim1 rim0fv rim1fv hcip rfcir htuo htut htul rftuq rftuf hguo hguz rfguf htkl htkz hrda hrdz okvb HHhh HHhob HHhot HHhoi0 HHhoi1 eg0 eg1 eg2 eg3 htl hw_
  subst eg0
  subst eg1
  subst eg2
  subst eg3
  subst htl
  subst hw_
  have HX := HHhh
  obtain ⟨hv, ehv⟩ : ∃ hv : Nat → Prop, hv = HouseIn cy pl := ⟨_, rfl⟩
  rw [← ehv] at okvb HHhh HHhob HHhot HHhoi0 HHhoi1
  obtain ⟨hnl, hnp, hnt, hns, w4, w5, w6, hha, hhb, hhc, hhd, hhe, fha, fhb, fhc, fhd, fhe, L4, L5, L6, b1, b2, b3, l4, l5, l6, hm, hn⟩ := HX
  obtain ⟨r, hp⟩ := house_pick hm hn L4 ((List.sublist_append_left L4 L5).trans (List.sublist_append_left _ _))
  rcases l4 with ⟨rfl, rfl⟩ | ⟨la4, las4, n4, fs4, rfl, hn4, rfl⟩
  · skip
    replace h := q_open h hp
    refine q_callVlF (rest := []) X hK hT hA h (fun sz => gX11_chance_1cdbf30 l D cy x0 nw hh hhd nwv sc ci cir cipa a_1 a_2 (.ref tp) xtl xfk xfp (.ref rd) (.ref bf) (.ref tr) (.ref hsy) (.ref trs) (.ref ims) (.ref imm) (.ref tu) (.ref gu) xch nwd nwa hnl hnp hnt hns w5 w6 (.ref hha) (.ref hhb) (.ref hhc) (.ref hhe) fhd nwfv (.ref scg) (.ref sch) cip (.ref ciw) fcir fcipa (i_rng _) (i_rng _) hxtl (i_rng _) (i_rng _) (i_rng _) (i_rng _) (i_rng _) b1 b2 (i_rng _) (i_rng _) hcip (rg_wide rnwfv (by decide) (by decide)) (rg_wide rfcir (by decide) (by decide)) sz) wm_5_102 wm_5_105 wm_1_1 hd_X11_chance wm_5_103 wm_5_104 (ci := 11) (q0 := 0) rfl rfl ⟨Nat.le_of_ble_eq_true rfl, Nat.le_of_ble_eq_true rfl⟩ hls rfl (Nat.le_of_ble_eq_true rfl) dL_law_1186 ⟨show cells + 0 ≤ 600000 from Nat.le_trans (Nat.add_le_add_right hc0 0) (by decide), show slots + 0 ≤ 7302250 from Nat.le_trans (Nat.add_le_add_right hs0 0) (by decide)⟩ [0, 2, 65, 69, 3, 24, 27, 28, 29] rfl rfl (fun _ => rfl) (fun r_1 u_1 H locs w_1 h_1 => ?_)
    clear h
    obtain ⟨wr_1, w1_0, w1_1, _⟩ := w_1
    replace h_1 := q_pX (ix := [some 0, none, some 1, some 4, none, none, none, none, none, none, none, none, none, none, none, none, none, none, none, none, none, none, none, none, some 5, none, none, some 6, some 7, some 8, none, none, none, none, none, none, none, none, none, none, none, none, none, none, none, none, none, none, none, none, none, none, none, none, none, none, none, none, none, none, none, none, none, none, none, some 2, none, none, none, some 3, none]) h_1 rfl rfl (by decide +kernel) rfl (by decide +kernel)
    have hmono : ∀ a, hv a → HouseIn cy pl a := fun a ha => by rw [ehv] at ha; exact ha
    exact kk r_1 _ _ _ (fun _ k_ => k_ (tp) (nw) (nwv) (bf) (bfv) (tr) (trv) (hsy) (trs) (ty0) (ty0r) (ty1) (ty1r) (ty2) (ty2r) (ty3) (ty3r) (ims) (im0) (im0v) (im1) (im1v) (imm) (sc) (scg) (sch) (ci) (cir) (cipa) (ciw) (tu) (tup) (tuq) (tuf) (tub) (gu) (guf) (tk) (tkk) (tkp) (tkv) (rd) (rdc) (hpa) (hh) (hob) (hot) (hoi0) (hoi1) (xtl) (xfk) (xfp) (xch) (nwd) (nwa) (bfd) (bfa) (trd) (tra) (his) (ty0s) (ty0z) (ty1s) (ty1z) (ty2s) (ty2z) (ty3s) (ty3z) (im0d) (im0a) (im1d) (im1a) ((u_1.2.1 1 0)) (tuo) (tut) (tus) (tul) (guo) (gup) (gus) (guz) (tkl) (tkz) (rda) (rdt) (rdf) (rdp) (rdz) (rdn) (tkt) (rto) (ftp) (nwfv) (bffv) (trfv) (ktr) (gty0) (gty1) (gty2) (gty3) (kim) (im0fv) (im1fv) (fimm) (fscg) (fsch) ((u_1.2.1 0)) ((u_1.2.1 2)) (fciw) (ftup) (ftuq) (ftuf) (ftub) (fguf) (ftkk) (ftkp) (ftkv) (frdc) (vb) (hxtl) (rftp) (rnwfv) (rbffv) (rtrfv) (hhis) (hktr0) (hktr1) (hktr2) (hktr3) (hty0s) (hty0z) (hty1s) (hty1z) (hty2s) (hty2z) (hty3s) (hty3z) (hkim0) (hkim1) (rim0fv) (rim1fv) (w1_1) (w1_0) (htuo) (htut) (htul) (rftuq) (rftuf) (hguo) (hguz) (rfguf) (htkl) (htkz) (hrda) (hrdz) (hb_mono okvb hmono) (hmono _ HHhh) (hmono _ HHhob) (hmono _ HHhot) (hmono _ HHhoi0) (hmono _ HHhoi1) (rfl) (rfl) (rfl) (rfl) rfl rfl) (q_back h_1 hp rfl)
  · skip
    replace h := q_open h hp
    refine q_callVlF (rest := []) X hK hT hA h (fun sz => gX11_chance_bfe1ea0 l D cy x0 nw hh la4 las4 hhd nwv sc scg sch ci cir cipa a_1 a_2 (.ref tp) xtl xfk xfp (.ref rd) (.ref bf) (.ref tr) (.ref hsy) (.ref trs) (.ref ims) (.ref imm) (.ref tu) (.ref gu) xch nwd nwa hnl hnp hnt hns w5 w6 (.ref hha) (.ref hhb) (.ref hhc) (.ref hhe) n4 fs4 fhd nwfv fscg fsch cip (.ref ciw) fcir fcipa (i_rng _) (i_rng _) hxtl (i_rng _) (i_rng _) (i_rng _) (i_rng _) (i_rng _) b1 b2 (i_rng _) (i_rng _) (by omega) hcip (rg_wide rnwfv (by decide) (by decide)) (rg_wide rfcir (by decide) (by decide)) sz) wm_5_102 wm_5_105 wm_1_1 hd_X11_chance wm_5_103 wm_5_104 (ci := 11) (q0 := 0) rfl rfl ⟨Nat.le_of_ble_eq_true rfl, Nat.le_of_ble_eq_true rfl⟩ hls rfl (Nat.le_of_ble_eq_true rfl) dL_law_1186 ⟨show cells + 0 ≤ 600000 from Nat.le_trans (Nat.add_le_add_right hc0 0) (by decide), show slots + 0 ≤ 7302250 from Nat.le_trans (Nat.add_le_add_right hs0 0) (by decide)⟩ [0, 2, 65, 71, 72, 69, 3, 24, 25, 26, 27, 28, 29] rfl rfl (fun _ => rfl) (fun r_1 u_1 H locs w_1 h_1 => ?_)
    clear h
    obtain ⟨wr_1, w1_0, w1_1, _⟩ := w_1
    replace h_1 := q_pX (ix := [some 0, none, some 1, some 6, none, none, none, none, none, none, none, none, none, none, none, none, none, none, none, none, none, none, none, none, some 7, some 8, some 9, some 10, some 11, some 12, none, none, none, none, none, none, none, none, none, none, none, none, none, none, none, none, none, none, none, none, none, none, none, none, none, none, none, none, none, none, none, none, none, none, none, some 2, none, none, none, some 5, none, some 3, some 4]) h_1 rfl rfl (by decide +kernel) rfl (by decide +kernel)
    have hmono : ∀ a, hv a → HouseIn cy pl a := fun a ha => by rw [ehv] at ha; exact ha
    exact kk r_1 _ _ _ (fun _ k_ => k_ (tp) (nw) (nwv) (bf) (bfv) (tr) (trv) (hsy) (trs) (ty0) (ty0r) (ty1) (ty1r) (ty2) (ty2r) (ty3) (ty3r) (ims) (im0) (im0v) (im1) (im1v) (imm) (sc) (scg) (sch) (ci) (cir) (cipa) (ciw) (tu) (tup) (tuq) (tuf) (tub) (gu) (guf) (tk) (tkk) (tkp) (tkv) (rd) (rdc) (hpa) (hh) (hob) (hot) (hoi0) (hoi1) (xtl) (xfk) (xfp) (xch) (nwd) (nwa) (bfd) (bfa) (trd) (tra) (his) (ty0s) (ty0z) (ty1s) (ty1z) (ty2s) (ty2z) (ty3s) (ty3z) (im0d) (im0a) (im1d) (im1a) ((u_1.2.1 3 0)) (tuo) (tut) (tus) (tul) (guo) (gup) (gus) (guz) (tkl) (tkz) (rda) (rdt) (rdf) (rdp) (rdz) (rdn) (tkt) (rto) (ftp) (nwfv) (bffv) (trfv) (ktr) (gty0) (gty1) (gty2) (gty3) (kim) (im0fv) (im1fv) (fimm) ((u_1.2.1 0)) ((u_1.2.1 1)) ((u_1.2.1 2)) ((u_1.2.1 4)) (fciw) (ftup) (ftuq) (ftuf) (ftub) (fguf) (ftkk) (ftkp) (ftkv) (frdc) (vb) (hxtl) (rftp) (rnwfv) (rbffv) (rtrfv) (hhis) (hktr0) (hktr1) (hktr2) (hktr3) (hty0s) (hty0z) (hty1s) (hty1z) (hty2s) (hty2z) (hty3s) (hty3z) (hkim0) (hkim1) (rim0fv) (rim1fv) (w1_1) (w1_0) (htuo) (htut) (htul) (rftuq) (rftuf) (hguo) (hguz) (rfguf) (htkl) (htkz) (hrda) (hrdz) (hb_mono okvb hmono) (hmono _ HHhh) (hmono _ HHhob) (hmono _ HHhot) (hmono _ HHhoi0) (hmono _ HHhoi1) (rfl) (rfl) (rfl) (rfl) rfl rfl) (q_back h_1 hp rfl)
set_option maxHeartbeats 8000000 in
set_option maxRecDepth 100000 in
theorem mc_chance (l : Launch) {p : Program} {e : Env} {s : State} {m : MethodId} {below : List Frame} {meth : Method} {c : Code} {b : Nat} {Q : State → Prop} {D : va_G} {cy : Nat → ClassId} {H : Heap} {locs : List Loc} {ls : Array Slot} (X : qX p s m #[Value.ref b] c cL_law 4 RL) (hK : qK D cy s) (hT : qT cy (fun q => s.heap.size ≤ q) s) (hls : ls.size = 4) {m0 cells slots : Nat} {P wm : va_W} {a_1 : Int32} {a_2 : Int32} {gt : Int} {gb : Nat → Int} {gf : Int} {gp : Int} (hc0 : cells ≤ 26000) (hs0 : slots ≤ 5720000) (hM : MOK cy m0 wm gt gb gf gp) (h : qW D (fun q => s.heap.size ≤ q) s.heap (wm ++ P) H locs) (kk : ∀ (r : Int64) (H : Heap) (locs : List Loc) (w2 : va_W), MOK cy m0 w2 gt gb gf gp → qW D (fun q => s.heap.size ≤ q) s.heap (w2 ++ P) H locs → W p l e room_1 s m #[Value.ref b] below meth c H locs cells slots Q (F0 m 1204 ls [.long r])) : W p l e room_1 s m #[Value.ref b] below meth c H locs cells slots Q (F0 m 1201 ls [.int a_2, .int a_1, .ref m0]) := by
  have hA : ∀ q : Nat, s.heap.size ≤ q → (fun q => s.heap.size ≤ q) q := fun _ h => h
  refine hM _ ?_
  clear hM
  intros al hs mtp fr rec wds swd opd was par wth bwt met mtw_ mtf trn ism rso rmy nms mth mtd mat mbh msz mki mnu mwr mwa mfk mfp mrd mtw mx mbt mbw mtu nde fnl fnv fnp fnc fal fhs fmtp ffr frec fwds fswd fopd fwas fpar fwth fbwt fmet fmtw fmtf ftrn fism frso frmy gnms hmtd hmat hmbh hmsz hmnu hnde htal_84 rfal hfnl htfr_0 htfr_1 hfnp htfr_2 hfnc htfr_405 rfswd rfopd rfwas rfmet rfrmy eg0 eg1 eg2 eg3 hw_
  subst eg0
  subst eg1
  subst eg2
  subst eg3
  subst hw_
  refine q_callVlF (rest := []) X hK hT hA h (fun sz => gX12_chance_87b66e9 l D cy m0 al rec wds opd par a_1 a_2 mth (.ref hs) (.ref mtp) (.ref fr) mtd mat mbh msz mki mnu mwr mwa mfk mfp mrd (.ref swd) (.ref was) mtw mx (.ref wth) (.ref bwt) mbt mbw (.ref met) (.ref mtw_) (.ref mtf) (.ref trn) (.ref ism) mtu (.ref rso) (.ref rmy) (.ref nms) fal nde frec fwds fopd fpar (i_rng _) (i_rng _) (i_rng _) hmtd hmat hmbh hmsz (i_rng _) hmnu (i_rng _) (i_rng _) (i_rng _) (i_rng _) (i_rng _) (i_rng _) (i_rng _) (i_rng _) (i_rng _) (i_rng _) hnde htal_84 rfal (rg_wide rfopd (by decide) (by decide)) sz) wm_8_7 wm_8_10 wm_1_12 hd_X12_chance wm_8_8 wm_8_9 (ci := 12) (q0 := 0) rfl rfl ⟨Nat.le_of_ble_eq_true rfl, Nat.le_of_ble_eq_true rfl⟩ hls rfl (Nat.le_of_ble_eq_true rfl) dL_law_1201 ⟨show cells + 0 ≤ 600000 from Nat.le_trans (Nat.add_le_add_right hc0 0) (by decide), show slots + 0 ≤ 7302250 from Nat.le_trans (Nat.add_le_add_right hs0 0) (by decide)⟩ [0, 1, 5, 6, 8, 10] rfl rfl (fun _ => rfl) (fun r_1 u_1 H locs w_1 h_1 => ?_)
  clear h
  obtain ⟨wr_1, w1_0, w1_1, _⟩ := w_1
  replace h_1 := q_pX (ix := [some 0, some 1, none, none, none, some 2, some 3, none, some 4, none, some 5, none, none, none, none, none, none, none, none, none, none]) h_1 rfl rfl (by decide +kernel) rfl (by decide +kernel)
  exact kk r_1 _ _ _ (fun _ k_ => k_ (al) (hs) (mtp) (fr) (rec) (wds) (swd) (opd) (was) (par) (wth) (bwt) (met) (mtw_) (mtf) (trn) (ism) (rso) (rmy) (nms) ((u_1.2.1 3 0)) (mtd) (mat) (mbh) (msz) (mki) (mnu) (mwr) (mwa) (mfk) (mfp) (mrd) (mtw) (mx) (mbt) (mbw) (mtu) (nde) (fnl) (fnv) (fnp) (fnc) (fal) (fhs) (fmtp) (ffr) ((u_1.2.1 0)) ((u_1.2.1 1)) (fswd) ((u_1.2.1 2)) (fwas) ((u_1.2.1 4)) (fwth) (fbwt) (fmet) (fmtw) (fmtf) (ftrn) (fism) (frso) (frmy) (gnms) (hmtd) (hmat) (hmbh) (hmsz) (hmnu) (hnde) (htal_84) (rfal) (hfnl) (htfr_0) (htfr_1) (hfnp) (htfr_2) (hfnc) (htfr_405) (rfswd) (w1_0) (rfwas) (rfmet) (rfrmy) (rfl) (rfl) (rfl) (rfl) rfl) h_1
set_option maxHeartbeats 8000000 in
set_option maxRecDepth 100000 in
theorem lc_chance (l : Launch) {p : Program} {e : Env} {s : State} {m : MethodId} {below : List Frame} {meth : Method} {c : Code} {b : Nat} {xs : Nat → Int32} {Q : State → Prop} {D : va_G} {cy : Nat → ClassId} {H : Heap} {locs : List Loc} {ls : Array Slot} {x0 m0 L k cells slots : Nat} {i : Int32} {tl : Int} (X : qX p s m #[Value.ref b] c cL_law 4 RL) (hK : qK D cy s) (hT : qT cy (fun q => s.heap.size ≤ q) s) (hX : va_X b L xs s s.heap) (hbl : b < s.heap.size) (hi : 0 ≤ i.toInt ∧ i.toInt + 6 ≤ L ∧ L ≤ 3072) (hk : k < 512) (hcell : cells + tl.toNat ≤ 200 + 50 * k) (hslot : slots + 451 * tl.toNat ≤ 30000 + 11100 * k) (hl : lv_has ls 4 [(3, .int i), (2, .ref m0), (1, .ref x0), (0, .ref b)]) (hI : LInv cy D (fun q => s.heap.size ≤ q) s.heap x0 m0 H locs tl) (kk : ∀ (H : Heap) (locs : List Loc) (ls : Array Slot) (cells slots : Nat) (tl : Int), lv_has ls 4 [(3, .int i), (2, .ref m0), (1, .ref x0), (0, .ref b)] → LInv cy D (fun q => s.heap.size ≤ q) s.heap x0 m0 H locs tl → cells + tl.toNat ≤ 200 + 50 * (k + 1) → slots + 451 * tl.toNat ≤ 30000 + 11100 * (k + 1) → W p l e room_1 s m #[Value.ref b] below meth c H locs cells slots Q (F0 m 1459 ls [])) : W p l e room_1 s m #[Value.ref b] below meth c H locs cells slots Q (F0 m 1175 ls []) := by
  obtain ⟨hx, hb, hml, hown, ht⟩ := id X
  have hA : ∀ q : Nat, s.heap.size ≤ q → (fun q => s.heap.size ≤ q) q := fun _ h => h
  have hbA : ¬ (fun q : Nat => s.heap.size ≤ q) b := Nat.not_le.mpr hbl
  have hc0 : cells ≤ 26000 := by omega
  have hs0 : slots ≤ 5720000 := by omega
  obtain ⟨gt, gb, gf, gp, wm, wx, pl, hMo, hXo, h⟩ := hI
  refine lv_aload_n hx hb dL_law_1175 rfl (lv_at hl 2 rfl) ?_
  refine lv_aload_n hx hb dL_law_1176 rfl (lv_at hl 3 rfl) ?_
  refine lv_iload_n hx hb dL_law_1177 rfl (lv_at hl 0 rfl) ?_
  refine lv_iconst (v := 1) hx hb dL_law_1178 (by decide) ?_
  refine lv_iadd hx hb dL_law_1179 ?_
  obtain ⟨z_1, ez_1, hz_1⟩ := li_add hi 1 (n := 1) (by decide) (by decide) (by decide)
  refine q_c z_1 ez_1 ?_
  clear ez_1
  refine va_sld hx hb hX hbl hbA h.2.2 (li_in hi hz_1 (by decide) (by decide)) dL_law_1180 ?_
  obtain ⟨x_1, ex_1, hx_1⟩ := e_any (xs (z_1).toNatClampNeg)
  refine q_c x_1 ex_1 ?_
  refine lv_aload_n hx hb dL_law_1181 rfl (lv_at hl 3 rfl) ?_
  refine lv_iload_n hx hb dL_law_1182 rfl (lv_at hl 0 rfl) ?_
  refine lv_iconst (v := 2) hx hb dL_law_1183 (by decide) ?_
  refine lv_iadd hx hb dL_law_1184 ?_
  obtain ⟨z_2, ez_2, hz_2⟩ := li_add hi 2 (n := 2) (by decide) (by decide) (by decide)
  refine q_c z_2 ez_2 ?_
  clear ez_2
  refine va_sld hx hb hX hbl hbA h.2.2 (li_in hi hz_2 (by decide) (by decide)) dL_law_1185 ?_
  obtain ⟨x_2, ex_2, hx_2⟩ := e_any (xs (z_2).toNatClampNeg)
  refine q_c x_2 ex_2 ?_
  replace h := q_rotX h
  refine xc_chance l X hK hT hl.1 hc0 hs0 hXo h (fun r_3 H locs wx hXo h => ?_)
  refine lv_pop2_2 hx hb dL_law_1189 rfl ?_
  refine lv_aload_n hx hb dL_law_1190 rfl (lv_at hl 1 rfl) ?_
  refine lv_aload_n hx hb dL_law_1191 rfl (lv_at hl 3 rfl) ?_
  refine lv_iload_n hx hb dL_law_1192 rfl (lv_at hl 0 rfl) ?_
  refine lv_iconst (v := 1) hx hb dL_law_1193 (by decide) ?_
  refine lv_iadd hx hb dL_law_1194 ?_
  obtain ⟨z_4, ez_4, hz_4⟩ := li_add hi 1 (n := 1) (by decide) (by decide) (by decide)
  refine q_c z_4 ez_4 ?_
  clear ez_4
  refine va_sld hx hb hX hbl hbA h.2.2 (li_in hi hz_4 (by decide) (by decide)) dL_law_1195 ?_
  refine q_c x_1 ((congrArg xs (cl_eq (x := z_4) (y := z_1) (hz_4.trans hz_1.symm))).trans ex_1) ?_
  refine lv_aload_n hx hb dL_law_1196 rfl (lv_at hl 3 rfl) ?_
  refine lv_iload_n hx hb dL_law_1197 rfl (lv_at hl 0 rfl) ?_
  refine lv_iconst (v := 2) hx hb dL_law_1198 (by decide) ?_
  refine lv_iadd hx hb dL_law_1199 ?_
  obtain ⟨z_5, ez_5, hz_5⟩ := li_add hi 2 (n := 2) (by decide) (by decide) (by decide)
  refine q_c z_5 ez_5 ?_
  clear ez_5
  refine va_sld hx hb hX hbl hbA h.2.2 (li_in hi hz_5 (by decide) (by decide)) dL_law_1200 ?_
  refine q_c x_2 ((congrArg xs (cl_eq (x := z_5) (y := z_2) (hz_5.trans hz_2.symm))).trans ex_2) ?_
  replace h := q_rotM h
  refine mc_chance l X hK hT hl.1 hc0 hs0 hMo h (fun r_6 H locs wm hMo h => ?_)
  refine lv_pop2_2 hx hb dL_law_1204 rfl ?_
  refine lv_goto (tgt := 1459) hx hb dL_law_1205 (by decide) ?_
  exact kk _ _ _ cells slots tl (lv_sub hl [0, 1, 2, 3] rfl) ⟨_, _, _, _, _, _, _, hMo, hXo, h⟩ (li_c hcell) (li_s hslot)
