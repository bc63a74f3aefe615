theorem wm_1_23 : Cond.classLink RL 7 RX11 ∈ WG := wg_t1 (List.mem_of_getElem? (i := 23) rfl) rfl
theorem wm_1_24 : Cond.instantiable RX11 17 ∈ WG := wg_t1 (List.mem_of_getElem? (i := 24) rfl) rfl
theorem wm_1_25 : Cond.methodLink RL 9 yX11_init ∈ WG := wg_t1 (List.mem_of_getElem? (i := 25) rfl) rfl
theorem wm_1_27 : Cond.code yX11_init cX11_init 3 none ∈ WG := wg_t1 (List.mem_of_getElem? (i := 27) rfl) rfl
theorem wm_1_26 : Cond.instanceMethod yX11_init ∈ WG := wg_t1 (List.mem_of_getElem? (i := 26) rfl) rfl
theorem wm_5_161 : Cond.classLink RL 10 RX12 ∈ WG := wg_t5 (List.mem_of_getElem? (i := 161) rfl) rfl
theorem wm_5_162 : Cond.instantiable RX12 37 ∈ WG := wg_t5 (List.mem_of_getElem? (i := 162) rfl) rfl
theorem wm_5_163 : Cond.methodLink RL 12 yX12_init ∈ WG := wg_t5 (List.mem_of_getElem? (i := 163) rfl) rfl
theorem wm_5_165 : Cond.code yX12_init cX12_init 1 none ∈ WG := wg_t5 (List.mem_of_getElem? (i := 165) rfl) rfl
theorem wm_5_164 : Cond.instanceMethod yX12_init ∈ WG := wg_t5 (List.mem_of_getElem? (i := 164) rfl) rfl
theorem df_11 : ∀ j, j < 17 → defaultValue (tyX11 j) = vp_V [.null, .int 0, .int 0, .int 0, .null, .null, .null, .null, .null, .null, .null, .null, .null, .null, .null, .null, .int 0] j := by
  intro k hk
  match k, hk with
  | 0, _ => rfl
  | 1, _ => rfl
  | 2, _ => rfl
  | 3, _ => rfl
  | 4, _ => rfl
  | 5, _ => rfl
  | 6, _ => rfl
  | 7, _ => rfl
  | 8, _ => rfl
  | 9, _ => rfl
  | 10, _ => rfl
  | 11, _ => rfl
  | 12, _ => rfl
  | 13, _ => rfl
  | 14, _ => rfl
  | 15, _ => rfl
  | 16, _ => rfl
  | n + 17, hk => exact absurd hk (by omega)
theorem df_12 : ∀ j, j < 37 → defaultValue (tyX12 j) = vp_V [.int 0, .null, .null, .null, .null, .int 0, .int 0, .int 0, .int 0, .int 0, .int 0, .int 0, .int 0, .int 0, .int 0, .int 0, .null, .null, .null, .null, .null, .int 0, .int 0, .null, .null, .null, .int 0, .int 0, .null, .null, .null, .null, .null, .int 0, .null, .null, .null] j := by
  intro k hk
  match k, hk with
  | 0, _ => rfl
  | 1, _ => rfl
  | 2, _ => rfl
  | 3, _ => rfl
  | 4, _ => rfl
  | 5, _ => rfl
  | 6, _ => rfl
  | 7, _ => rfl
  | 8, _ => rfl
  | 9, _ => rfl
  | 10, _ => rfl
  | 11, _ => rfl
  | 12, _ => rfl
  | 13, _ => rfl
  | 14, _ => rfl
  | 15, _ => rfl
  | 16, _ => rfl
  | 17, _ => rfl
  | 18, _ => rfl
  | 19, _ => rfl
  | 20, _ => rfl
  | 21, _ => rfl
  | 22, _ => rfl
  | 23, _ => rfl
  | 24, _ => rfl
  | 25, _ => rfl
  | 26, _ => rfl
  | 27, _ => rfl
  | 28, _ => rfl
  | 29, _ => rfl
  | 30, _ => rfl
  | 31, _ => rfl
  | 32, _ => rfl
  | 33, _ => rfl
  | 34, _ => rfl
  | 35, _ => rfl
  | 36, _ => rfl
  | n + 37, hk => exact absurd hk (by omega)
theorem hd_X11_init : yX11_init.cls ≠ "java/lang/invoke/MethodHandle" ∧ yX11_init.cls ≠ "java/lang/invoke/VarHandle" ∧ (parseMethodDescriptor yX11_init.desc).map (fun d => d.parameters.length) = some 0 := by decide +kernel
theorem hd_X12_init : yX12_init.cls ≠ "java/lang/invoke/MethodHandle" ∧ yX12_init.cls ≠ "java/lang/invoke/VarHandle" ∧ (parseMethodDescriptor yX12_init.desc).map (fun d => d.parameters.length) = some 0 := by decide +kernel
def tmS (i : Nat) : Term := List.getD [Term.string "OppositeHouse$Tokens" 65, Term.string "OppositeHouse$Tokens" 58, Term.string "OppositeHouseModel" 89] i (.int 0)
set_option maxRecDepth 100000 in
theorem law_eb : ∀ i : Nat, i < 3 → ∀ j : Nat, j < lnS.getD i 0 → (flatC (Jvm.Cond.and given_1 narrow_1))[List.getD [39, 171, 188] i 0 + j]? = some (Cond.eq (.elem (.field (tmS i) "java/lang/String" "value" "[B") (.int (Int32.ofNat j))) (.int ((byS.getD i []).getD j 0))) := by decide +kernel
theorem law_el : ∀ i : Nat, i < 3 → ∀ j : Nat, j < lnS.getD i 0 → Cond.eq (.elem (.field (tmS i) "java/lang/String" "value" "[B") (.int (Int32.ofNat j))) (.int ((byS.getD i []).getD j 0)) ∈ flatC (Jvm.Cond.and given_1 narrow_1) := fun i hi j hj => List.mem_of_getElem? (law_eb i hi j hj)
set_option maxRecDepth 100000 in
theorem law_texts {s : State} {b : Nat} (hgv : (Jvm.Cond.and given_1 narrow_1).before #[Value.ref b] s = true) : ∃ adK adV : Nat → Nat, vk_S 3 lnS byS adK adV (fun q => s.heap.size ≤ q) s s.heap ∧ ∀ i : Nat, i < 3 → (tmS i).eval #[Value.ref b] s none [] s = some (.ref (adK i)) := by
  have hs := flat_of_before _ hgv
  refine vk_Sof (tm := tmS) (fun i hi => ?_) (fun i hi => ?_) (fun i hi => ?_) (fun i hi => ?_) (fun i hi => ?_) (fun i hi j hj => ?_) (fun i j hi hj hne => ?_) (fun a ha => Nat.not_le.mpr ha)
  · match i, hi with
    | 0, _ => decide
    | 1, _ => decide
    | 2, _ => decide
  · match i, hi with
    | 0, _ => exact hs _ (by decide +kernel)
    | 1, _ => exact hs _ (by decide +kernel)
    | 2, _ => exact hs _ (by decide +kernel)
  · match i, hi with
    | 0, _ => exact hs _ (by decide +kernel)
    | 1, _ => exact hs _ (by decide +kernel)
    | 2, _ => exact hs _ (by decide +kernel)
  · match i, hi with
    | 0, _ => exact hs _ (by decide +kernel)
    | 1, _ => exact hs _ (by decide +kernel)
    | 2, _ => exact hs _ (by decide +kernel)
  · match i, hi with
    | 0, _ => exact hs _ (by decide +kernel)
    | 1, _ => exact hs _ (by decide +kernel)
    | 2, _ => exact hs _ (by decide +kernel)
  · exact hs _ (law_el i hi j hj)
  · match i, j, hi, hj, hne with
    | 0, 0, _, _, h => exact absurd rfl h
    | 1, 1, _, _, h => exact absurd rfl h
    | 2, 2, _, _, h => exact absurd rfl h
    | 0, 1, _, _, _ => exact Or.inl (hs _ (by decide +kernel))
    | 1, 0, _, _, _ => exact Or.inr (hs _ (by decide +kernel))
    | 0, 2, _, _, _ => exact Or.inl (hs _ (by decide +kernel))
    | 2, 0, _, _, _ => exact Or.inr (hs _ (by decide +kernel))
    | 1, 2, _, _, _ => exact Or.inl (hs _ (by decide +kernel))
    | 2, 1, _, _, _ => exact Or.inr (hs _ (by decide +kernel))
theorem law_same {s : State} {A : Array Value} {t1 t2 : Term} {a : Nat} (h : (Cond.eq t1 t2).before A s = true) (h1 : t1.eval A s none [] s = some (.ref a)) : t2.eval A s none [] s = some (.ref a) := by
  cases hv : t2.eval A s none [] s with
  | none => simp [Cond.before, Cond.holds, Cond.value, h1, hv] at h
  | some w =>
    simp only [Cond.before, Cond.holds, Cond.value, h1, hv] at h
    cases w <;> simp_all
theorem law_qT {s : State} {b : Nat} {cy : Nat → ClassId} {adK adV : Nat → Nat} {t1 t2 t3 t4 : String} (hgv : (Jvm.Cond.and given_1 narrow_1).before #[Value.ref b] s = true) (hS : vk_S 3 lnS byS adK adV (fun q => s.heap.size ≤ q) s s.heap) (hE : ∀ i : Nat, i < 3 → (tmS i).eval #[Value.ref b] s none [] s = some (.ref (adK i))) (k0 : cy 10 = adK 0) (k1 : cy 11 = adK 1) (k2 : cy 12 = adK 2) (k3 : cy 13 = adK 1) (v0 : cy 14 = adV 0) (v1 : cy 15 = adV 1) (v2 : cy 16 = adV 2) (v3 : cy 17 = adV 1) (r1 : (Cond.stringRef RX8 65 t1).before #[Value.ref b] s = true) (r2 : (Cond.stringRef RX8 58 t2).before #[Value.ref b] s = true) (r3 : (Cond.stringRef RX12 89 t3).before #[Value.ref b] s = true) (r4 : (Cond.stringRef RX12 127 t4).before #[Value.ref b] s = true) (f1 : (Cond.laysStatic "java/lang/String" "COMPACT_STRINGS" "Z").before #[Value.ref b] s = true) (f2 : (Cond.initialized "java/lang/String").before #[Value.ref b] s = true) (f3 : (Cond.laysStatic "jdk/internal/util/Preconditions" "SIOOBE_FORMATTER" "Ljava/util/function/BiFunction;").before #[Value.ref b] s = true) (f4 : (Cond.initialized "jdk/internal/util/Preconditions").before #[Value.ref b] s = true) : qT cy (fun q => s.heap.size ≤ q) s := by
  have hs := flat_of_before _ hgv
  have hA : ∀ a : Nat, a < s.heap.size → ¬ (fun q : Nat => s.heap.size ≤ q) a := fun a h => Nat.not_le.mpr h
  have e3 : (Term.string RX12 127).eval #[Value.ref b] s none [] s = some (.ref (adK 1)) := by
    have h := hs (Cond.eq (.string RX8 58) (.string RX12 127)) (by decide +kernel)
    have h1 : (Term.string RX8 58).eval #[Value.ref b] s none [] s = some (.ref (adK 1)) := hE 1 (by decide)
    exact law_same h h1
  refine ⟨fun i hi => ?_, ⟨t1, t2, t3, t4, ?_, ?_, ?_, ?_⟩, ?_, ?_⟩
  · match i, hi with
    | 0, _ => unfold qTs; rw [k0, v0]; exact hS.1 0 (by decide)
    | 1, _ => unfold qTs; rw [k1, v1]; exact hS.1 1 (by decide)
    | 2, _ => unfold qTs; rw [k2, v2]; exact hS.1 2 (by decide)
    | 3, _ => unfold qTs; rw [k3, v3]; exact hS.1 1 (by decide)
  · rw [k0]; exact vk_R.of r1 (hE 0 (by decide))
  · rw [k1]; exact vk_R.of r2 (hE 1 (by decide))
  · rw [k2]; exact vk_R.of r3 (hE 2 (by decide))
  · rw [k3]; exact vk_R.of r4 e3
  · exact va_Zof f1 f2 (va_eqi (hs _ (by decide +kernel))) hA
  · exact va_Zqof f3 f4 (hs _ (by decide +kernel)) hA
set_option maxHeartbeats 8000000 in
set_option maxRecDepth 100000 in
theorem whole_start {p : Program} {e : Env} {s : State} {m : MethodId} {below : List Frame} {meth : Method} {c : Code} (l : Launch) (hflags : l.flags = flags0) {b L : Nat} {xs : Nat → Int32} (hL : L ≤ 3072) (C0 : lw_At p s m meth c b L xs) : W p l e room_1 s m #[Value.ref b] below meth c s.heap [] 0 0 (lw_Z below #[Value.ref b] s) (entryFrame m ([Value.ref b] : List Value).toArray 4) := by
  obtain ⟨hx, hb, hr, hml, hown, hts, hX, hbl, hlk, hgv⟩ := id C0
  have X : qX p s m #[Value.ref b] c cL_law 4 RL := ⟨hx, hb, hml, hown, fun w hw => hts w (wg_in w hw)⟩
  have ht := X.2.2.2.2
  have hA : ∀ q : Nat, s.heap.size ≤ q → (fun q : Nat => s.heap.size ≤ q) q := fun _ h => h
  have hbA : ¬ (fun q : Nat => s.heap.size ≤ q) b := Nat.not_le.mpr hbl
  obtain ⟨c0, iS0, hKn0⟩ := u_known (C := RX0) (T := TX0) (N := 4) (n := 4) hts (fun w h => wg_in w (wf_0 w h)) (hts (.instantiable RX0 4) (lt_1 (List.mem_of_getElem? (i := 193) rfl)))
  obtain ⟨c1, iS1, hKn1⟩ := u_known (C := RX1) (T := TX1) (N := 5) (n := 5) hts (fun w h => wg_in w (wf_1 w h)) (hts (.instantiable RX1 5) (lt_2 (List.mem_of_getElem? (i := 7) rfl)))
  obtain ⟨c2, iS2, hKn2⟩ := u_known (C := RX2) (T := TX2) (N := 2) (n := 2) hts (fun w h => wg_in w (wf_2 w h)) (hts (.instantiable RX2 2) (lt_2 (List.mem_of_getElem? (i := 65) rfl)))
  obtain ⟨c3, iS3, hKn3⟩ := u_known (C := RX3) (T := TX3) (N := 12) (n := 12) hts (fun w h => wg_in w (wf_3 w h)) (hts (.instantiable RX3 12) (lt_1 (List.mem_of_getElem? (i := 69) rfl)))
  obtain ⟨c4, iS4, hKn4⟩ := u_known (C := RX4) (T := TX4) (N := 1) (n := 1) hts (fun w h => wg_in w (wf_4 w h)) (hts (.instantiable RX4 1) (lt_3 (List.mem_of_getElem? (i := 134) rfl)))
  obtain ⟨c5, iS5, hKn5⟩ := u_known (C := RX5) (T := TX5) (N := 9) (n := 9) hts (fun w h => wg_in w (wf_5 w h)) (hts (.instantiable RX5 9) (lt_1 (List.mem_of_getElem? (i := 32) rfl)))
  obtain ⟨c6, iS6, hKn6⟩ := u_known (C := RX6) (T := TX6) (N := 2) (n := 2) hts (fun w h => wg_in w (wf_6 w h)) (hts (.instantiable RX6 2) (lt_1 (List.mem_of_getElem? (i := 179) rfl)))
  obtain ⟨c7, iS7, hKn7⟩ := u_known (C := RX7) (T := TX7) (N := 4) (n := 4) hts (fun w h => wg_in w (wf_7 w h)) (hts (.instantiable RX7 4) (lt_2 (List.mem_of_getElem? (i := 32) rfl)))
  obtain ⟨c8, iS8, hKn8⟩ := u_known (C := RX8) (T := TX8) (N := 6) (n := 6) hts (fun w h => wg_in w (wf_8 w h)) (hts (.instantiable RX8 6) (lt_1 (List.mem_of_getElem? (i := 38) rfl)))
  obtain ⟨c9, iS9, hKn9⟩ := u_known (C := RX9) (T := TX9) (N := 3) (n := 3) hts (fun w h => wg_in w (wf_9 w h)) (hts (.instantiable RX9 3) (lt_2 (List.mem_of_getElem? (i := 80) rfl)))
  obtain ⟨c10, iS10, hKn10⟩ := u_known (C := RX10) (T := TX10) (N := 8) (n := 8) hts (fun w h => wg_in w (wf_10 w h)) (hts (.instantiable RX10 8) (lt_1 (List.mem_of_getElem? (i := 214) rfl)))
  obtain ⟨c11, iS11, hKn11⟩ := u_known (C := RX11) (T := TX11) (N := 17) (n := 17) hts (fun w h => wg_in w (wf_11 w h)) (hts (.instantiable RX11 17) (lt_1 (List.mem_of_getElem? (i := 24) rfl)))
  obtain ⟨c12, iS12, hKn12⟩ := u_known (C := RX12) (T := TX12) (N := 37) (n := 37) hts (fun w h => wg_in w (wf_12 w h)) (hts (.instantiable RX12 37) (lt_5 (List.mem_of_getElem? (i := 162) rfl)))
  obtain ⟨dC, dI, hKc⟩ : ∃ (dC : Nat → ClassId) (dI : Nat → Nat → Nat), ∀ (k : Nat) (q : vw_C), vwCl[k]? = some q → u_Kn s q.1 q.2.1 q.2.2 (dC k) (dI k) := by
    refine ⟨(vcons c0 (vcons c1 (vcons c2 (vcons c3 (vcons c4 (vcons c5 (vcons c6 (vcons c7 (vcons c8 (vcons c9 (vcons c10 (vcons c11 (vcons c12 (fun _ => 0)))))))))))))), (vcons iS0 (vcons iS1 (vcons iS2 (vcons iS3 (vcons iS4 (vcons iS5 (vcons iS6 (vcons iS7 (vcons iS8 (vcons iS9 (vcons iS10 (vcons iS11 (vcons iS12 (fun _ => (fun _ => 0))))))))))))))), ?_⟩
    intro k q hq
    match k, hq with
    | 0, hq => cases hq; exact hKn0
    | 1, hq => cases hq; exact hKn1
    | 2, hq => cases hq; exact hKn2
    | 3, hq => cases hq; exact hKn3
    | 4, hq => cases hq; exact hKn4
    | 5, hq => cases hq; exact hKn5
    | 6, hq => cases hq; exact hKn6
    | 7, hq => cases hq; exact hKn7
    | 8, hq => cases hq; exact hKn8
    | 9, hq => cases hq; exact hKn9
    | 10, hq => cases hq; exact hKn10
    | 11, hq => cases hq; exact hKn11
    | 12, hq => cases hq; exact hKn12
    | k + 13, hq => simp [vwCl] at hq
  obtain ⟨cyB, hAB, hRB⟩ := q_arr_byte (hts (.arrayClass .byte) (lt_1 (List.mem_of_getElem? (i := 66) rfl)))
  obtain ⟨cyI, hAI, hRI⟩ := q_arr_int (hts (.arrayClass .int) (lt_1 (List.mem_of_getElem? (i := 67) rfl)))
  obtain ⟨cyJ, hAJ, hRJ⟩ := q_arr_long (hts (.arrayClass .long) (lt_2 (List.mem_of_getElem? (i := 97) rfl)))
  obtain ⟨cyZ, hAZ, hRZ⟩ := q_arr_boolean (hts (.arrayClass .boolean) (lt_1 (List.mem_of_getElem? (i := 191) rfl)))
  have hOS := hts (.arrayOver (.object RX7)) (lt_1 (List.mem_of_getElem? (i := 177) rfl))
  obtain ⟨cyS, hAS, hRS⟩ := q_arr_obj hOS
  have hOT := hts (.arrayOver (.object RX9)) (lt_1 (List.mem_of_getElem? (i := 175) rfl))
  obtain ⟨cyT, hAT, hRT⟩ := q_arr_obj hOT
  obtain ⟨adK, adV, hSt, hEv⟩ := law_texts hgv
  obtain ⟨cy, hcy⟩ : ∃ cy : Nat → ClassId, cy = (vcons cyB (vcons cyI (vcons cyJ (vcons cyZ (vcons cyS (vcons cyT (vcons 0 (vcons 0 (vcons 0 (vcons 0 (vcons (adK 0) (vcons (adK 1) (vcons (adK 2) (vcons (adK 1) (vcons (adV 0) (vcons (adV 1) (vcons (adV 2) (vcons (adV 1) (fun _ => 0))))))))))))))))))) := ⟨_, rfl⟩
  have hT : qT cy (fun q => s.heap.size ≤ q) s := law_qT hgv hSt hEv (by rw [hcy]; rfl) (by rw [hcy]; rfl) (by rw [hcy]; rfl) (by rw [hcy]; rfl) (by rw [hcy]; rfl) (by rw [hcy]; rfl) (by rw [hcy]; rfl) (by rw [hcy]; rfl) (hts _ (lt_2 (List.mem_of_getElem? (i := 193) rfl))) (hts _ (lt_3 (List.mem_of_getElem? (i := 6) rfl))) (hts _ (lt_6 (List.mem_of_getElem? (i := 68) rfl))) (hts _ (lt_6 (List.mem_of_getElem? (i := 74) rfl))) (hts _ (lt_2 (List.mem_of_getElem? (i := 203) rfl))) (hts _ (lt_1 (List.mem_of_getElem? (i := 14) rfl))) (hts _ (lt_2 (List.mem_of_getElem? (i := 219) rfl))) (hts _ (lt_1 (List.mem_of_getElem? (i := 16) rfl)))
  have hK : qK (dC, dI) cy s := by
    refine ⟨⟨hKc, fun k q hq => ?_⟩, va_AO.of hOS, va_AO.of hOT, ?_⟩
    · subst hcy
      match k, hq with
      | 0, hq => cases hq; exact ⟨hAB, hRB⟩
      | 1, hq => cases hq; exact ⟨hAI, hRI⟩
      | 2, hq => cases hq; exact ⟨hAJ, hRJ⟩
      | 3, hq => cases hq; exact ⟨hAZ, hRZ⟩
      | 4, hq => cases hq; exact ⟨hAS, hRS⟩
      | 5, hq => cases hq; exact ⟨hAT, hRT⟩
      | k + 6, hq => simp at hq
    · exact List.forall_mem_cons.mpr ⟨va_Nw.of rfl (hts _ (lt_2 (List.mem_of_getElem? (i := 81) rfl))), List.forall_mem_cons.mpr ⟨va_Nw.of rfl (hts _ (lt_1 (List.mem_of_getElem? (i := 33) rfl))), List.forall_mem_cons.mpr ⟨va_Nw.of rfl (hts _ (lt_1 (List.mem_of_getElem? (i := 180) rfl))), List.forall_mem_cons.mpr ⟨va_Nw.of rfl (hts _ (lt_1 (List.mem_of_getElem? (i := 194) rfl))), List.forall_mem_cons.mpr ⟨va_Nw.of rfl (hts _ (lt_1 (List.mem_of_getElem? (i := 215) rfl))), List.forall_mem_cons.mpr ⟨va_Nw.of rfl (hts _ (lt_2 (List.mem_of_getElem? (i := 8) rfl))), List.forall_mem_cons.mpr ⟨va_Nw.of rfl (hts _ (lt_2 (List.mem_of_getElem? (i := 31) rfl))), List.forall_mem_cons.mpr ⟨va_Nw.of rfl (hts _ (lt_1 (List.mem_of_getElem? (i := 39) rfl))), List.forall_mem_cons.mpr ⟨va_Nw.of rfl (hts _ (lt_1 (List.mem_of_getElem? (i := 70) rfl))), fun _ h => absurd h List.not_mem_nil⟩⟩⟩⟩⟩⟩⟩⟩⟩
  have h : qW (dC, dI) (fun q : Nat => s.heap.size ≤ q) s.heap [] s.heap [] := ⟨fun k q h => by simp at h, ⟨fun i j p q h => by simp at h, fun k q h => by simp at h⟩, va_S.rf⟩
  clear hcy hSt hEv
  generalize (dC, dI) = D at hK h
  have hl := lv_entry ([.ref b]) (n := 4) (Nat.le_of_ble_eq_true rfl)
  rw [lg_entry_eq]
  generalize (lg_sl ([.ref b]) ++ List.replicate (4 - (lg_sl ([.ref b])).length) Slot.unset).toArray = ls at hl ⊢
  replace hl : lv_has ls 4 [(0, .ref b)] := hl
  refine q_new (fs := [.null, .int 0, .int 0, .int 0, .null, .null, .null, .null, .null, .null, .null, .null, .null, .null, .null, .null, .int 0]) (ci := 11) X hK hA h rfl wf_11 tyX11 tyX11_ok wm_1_23 wm_1_24 wm_1_1 df_11 (Nat.le_of_ble_eq_true rfl) (Nat.le_of_ble_eq_true rfl) dL_law_0 (fun q_526 Hp1 hw1 => ?_)
  clear h
  replace hw1 : qW D _ _ [(q_526, .inr (11, [.null, .int 0, .int 0, .int 0, .null, .null, .null, .null, .null, .null, .null, .null, .null, .null, .null, .null, .int 0]))] _ _ := hw1
  refine lv_dup hx hb dL_law_3 rfl ?_
  refine q_callIv (rest := [.ref q_526]) (wr := []) X hK hT hA hw1 (fun sz => kX11_init_11 l D cy q_526  sz) wm_1_25 wm_1_27 wm_1_1 hd_X11_init wm_1_26 rfl ⟨Nat.le_of_ble_eq_true rfl, Nat.le_of_ble_eq_true rfl⟩ hl.1 rfl (Nat.le_of_ble_eq_true rfl) dL_law_4 ⟨Nat.le_of_ble_eq_true rfl, Nat.le_of_ble_eq_true rfl⟩ [0] [] rfl rfl (by decide) rfl rfl (fun u_632 Hp2 lc2 w_632 hw2 => ?_)
  clear Hp1 hw1
  replace hw2 : qW D _ _ (wk_321822942 cy q_526 (u_632.1 0) 0 0 (-1) (u_632.1 1) (u_632.1 37) (u_632.1 39) (u_632.1 41) (u_632.1 43) (u_632.1 14) (u_632.1 15) (u_632.1 16) (u_632.1 17) (u_632.1 20) (u_632.1 24) (u_632.1 29) 0 (u_632.1 0) (fun _ => 0) (u_632.1 1) (u_632.1 2) 0 26 0 (-1) (u_632.1 7) (u_632.1 13) 0 0 (u_632.1 2) (u_632.1 3) 0 0 (u_632.1 4) (u_632.1 5) (u_632.1 6) (u_632.1 3) (fun _ => 0) (u_632.1 4) (fun _ => 0) (u_632.1 5) (fun _ => 0) (u_632.1 6) (fun _ => 0) (u_632.1 7) 1 0 0 0 (u_632.1 8) (u_632.1 9) (u_632.1 10) (u_632.1 11) (u_632.1 12) (u_632.1 8) (fun _ => 0) (u_632.1 9) (fun _ => 0) (u_632.1 10) (fun _ => 0) (u_632.1 11) (fun _ => 0) (u_632.1 12) (fun _ => 0) (u_632.1 13) (fun _ => 0) (u_632.1 14) (va_up (va_up (va_up (va_up (fun _ => none) (Int32.toNatClampNeg 0) (some (u_632.1 65))) (Int32.toNatClampNeg 1) (some (u_632.1 67))) (Int32.toNatClampNeg 2) (some (u_632.1 69))) (Int32.toNatClampNeg 3) (some (u_632.1 71))) (u_632.1 15) (va_up (va_up (fun _ => none) (Int32.toNatClampNeg 0) (some (u_632.1 73))) (Int32.toNatClampNeg 1) (some (u_632.1 75))) (u_632.1 16) (fun _ => 0) (u_632.1 17) (u_632.1 18) (u_632.1 19) (u_632.1 18) (fun _ => 0) (u_632.1 19) (fun _ => 0) (u_632.1 20) 0 (u_632.1 21) (u_632.1 22) (u_632.1 23) (u_632.1 21) (fun _ => 0) (u_632.1 22) (fun _ => 0) (u_632.1 23) (fun _ => 0) (u_632.1 24) (-1) (-1) (-1) (-1) (u_632.1 25) (u_632.1 26) (u_632.1 27) (u_632.1 28) (u_632.1 25) (fun _ => 0) (u_632.1 26) (fun _ => 0) (u_632.1 27) (fun _ => 0) (u_632.1 28) (fun _ => 0) (u_632.1 29) (-1) (-1) (-1) 0 (u_632.1 30) (u_632.1 30) (fun _ => 0) (u_632.1 31) 1 0 0 0 (u_632.1 32) (u_632.1 33) (u_632.1 34) (u_632.1 35) (u_632.1 36) (u_632.1 32) (fun _ => 0) (u_632.1 33) (fun _ => 0) (u_632.1 34) (fun _ => 0) (u_632.1 35) (fun _ => 0) (u_632.1 36) (fun _ => 0) (u_632.1 37) (u_632.1 31) 0 0 (u_632.1 38) (u_632.1 38) (fun _ => 0) (u_632.1 39) (u_632.1 31) 0 0 (u_632.1 40) (u_632.1 40) (fun _ => 0) (u_632.1 41) (u_632.1 31) 0 0 (u_632.1 42) (u_632.1 42) (fun _ => 0) (u_632.1 43) 0 (u_632.1 44) (u_632.1 44) (va_up (va_up (va_up (va_up (va_up (va_up (va_up (va_up (va_up (va_up (fun _ => none) (Int32.toNatClampNeg 0) (some (u_632.1 45))) (Int32.toNatClampNeg 1) (some (u_632.1 47))) (Int32.toNatClampNeg 2) (some (u_632.1 49))) (Int32.toNatClampNeg 3) (some (u_632.1 51))) (Int32.toNatClampNeg 4) (some (u_632.1 53))) (Int32.toNatClampNeg 5) (some (u_632.1 55))) (Int32.toNatClampNeg 6) (some (u_632.1 57))) (Int32.toNatClampNeg 7) (some (u_632.1 59))) (Int32.toNatClampNeg 8) (some (u_632.1 61))) (Int32.toNatClampNeg 9) (some (u_632.1 63))) (u_632.1 45) (u_632.1 31) 0 0 (u_632.1 46) (u_632.1 46) (fun _ => 0) (u_632.1 47) (u_632.1 31) 0 0 (u_632.1 48) (u_632.1 48) (fun _ => 0) (u_632.1 49) (u_632.1 31) 0 0 (u_632.1 50) (u_632.1 50) (fun _ => 0) (u_632.1 51) (u_632.1 31) 0 0 (u_632.1 52) (u_632.1 52) (fun _ => 0) (u_632.1 53) (u_632.1 31) 0 0 (u_632.1 54) (u_632.1 54) (fun _ => 0) (u_632.1 55) (u_632.1 31) 0 0 (u_632.1 56) (u_632.1 56) (fun _ => 0) (u_632.1 57) (u_632.1 31) 0 0 (u_632.1 58) (u_632.1 58) (fun _ => 0) (u_632.1 59) (u_632.1 31) 0 0 (u_632.1 60) (u_632.1 60) (fun _ => 0) (u_632.1 61) (u_632.1 31) 0 0 (u_632.1 62) (u_632.1 62) (fun _ => 0) (u_632.1 63) (u_632.1 31) 0 0 (u_632.1 64) (u_632.1 64) (fun _ => 0) (u_632.1 65) (-1) 0 (u_632.1 66) (u_632.1 66) (fun _ => 0) (u_632.1 67) (-1) 0 (u_632.1 68) (u_632.1 68) (fun _ => 0) (u_632.1 69) (-1) 0 (u_632.1 70) (u_632.1 70) (fun _ => 0) (u_632.1 71) (-1) 0 (u_632.1 72) (u_632.1 72) (fun _ => 0) (u_632.1 73) (u_632.1 31) 0 0 (u_632.1 74) (u_632.1 74) (fun _ => 0) (u_632.1 75) (u_632.1 31) 0 0 (u_632.1 76) (u_632.1 76) (fun _ => 0)) _ _ := hw2
  refine lv_astore_n (lv' := [(1, .ref q_526), (0, .ref b)]) hx hb dL_law_7 rfl hl (by decide) rfl (fun lz3 hv3 => ?_)
  clear ls hl
  refine q_new (fs := [.int 0, .null, .null, .null, .null, .int 0, .int 0, .int 0, .int 0, .int 0, .int 0, .int 0, .int 0, .int 0, .int 0, .int 0, .null, .null, .null, .null, .null, .int 0, .int 0, .null, .null, .null, .int 0, .int 0, .null, .null, .null, .null, .null, .int 0, .null, .null, .null]) (ci := 12) X hK hA hw2 rfl wf_12 tyX12 tyX12_ok wm_5_161 wm_5_162 wm_1_12 df_12 (Nat.le_of_ble_eq_true rfl) (Nat.le_of_ble_eq_true rfl) dL_law_8 (fun q_633 Hp4 hw4 => ?_)
  clear Hp2 hw2
  replace hw4 : qW D _ _ [(q_526, .inr (11, [.ref (u_632.1 0), .int 0, .int 0, .int (-1), .ref (u_632.1 1), .ref (u_632.1 37), .ref (u_632.1 39), .ref (u_632.1 41), .ref (u_632.1 43), .ref (u_632.1 14), .ref (u_632.1 15), .ref (u_632.1 16), .ref (u_632.1 17), .ref (u_632.1 20), .ref (u_632.1 24), .ref (u_632.1 29), .int 0])), ((u_632.1 0), .inl (cy 0, 900, .inl (fun _ => 0))), ((u_632.1 1), .inr (5, [.ref (u_632.1 2), .int 0, .int 26, .int 0, .int (-1), .ref (u_632.1 7), .ref (u_632.1 13), .int 0, .int 0])), ((u_632.1 2), .inr (8, [.ref (u_632.1 3), .int 0, .int 0, .ref (u_632.1 4), .ref (u_632.1 5), .ref (u_632.1 6)])), ((u_632.1 3), .inl (cy 0, 0, .inl (fun _ => 0))), ((u_632.1 4), .inl (cy 1, 901, .inl (fun _ => 0))), ((u_632.1 5), .inl (cy 1, 901, .inl (fun _ => 0))), ((u_632.1 6), .inl (cy 1, 901, .inl (fun _ => 0))), ((u_632.1 7), .inr (3, [.int 1, .int 0, .int 0, .int 0, .null, .null, .null, .ref (u_632.1 8), .ref (u_632.1 9), .ref (u_632.1 10), .ref (u_632.1 11), .ref (u_632.1 12)])), ((u_632.1 8), .inl (cy 1, 10, .inl (fun _ => 0))), ((u_632.1 9), .inl (cy 1, 10, .inl (fun _ => 0))), ((u_632.1 10), .inl (cy 1, 10, .inl (fun _ => 0))), ((u_632.1 11), .inl (cy 1, 10, .inl (fun _ => 0))), ((u_632.1 12), .inl (cy 1, 10, .inl (fun _ => 0))), ((u_632.1 13), .inl (cy 1, 900, .inl (fun _ => 0))), ((u_632.1 14), .inl (cy 5, 4, .inr (.inr (.inr (.inr (va_up (va_up (va_up (va_up (fun _ => none) (Int32.toNatClampNeg 0) (some (u_632.1 65))) (Int32.toNatClampNeg 1) (some (u_632.1 67))) (Int32.toNatClampNeg 2) (some (u_632.1 69))) (Int32.toNatClampNeg 3) (some (u_632.1 71)))))))), ((u_632.1 15), .inl (cy 4, 2, .inr (.inr (.inr (.inr (va_up (va_up (fun _ => none) (Int32.toNatClampNeg 0) (some (u_632.1 73))) (Int32.toNatClampNeg 1) (some (u_632.1 75)))))))), ((u_632.1 16), .inl (cy 3, 2, .inl (fun _ => 0))), ((u_632.1 17), .inr (6, [.ref (u_632.1 18), .ref (u_632.1 19)])), ((u_632.1 18), .inl (cy 1, 11, .inl (fun _ => 0))), ((u_632.1 19), .inl (cy 1, 64, .inl (fun _ => 0))), ((u_632.1 20), .inr (0, [.int 0, .ref (u_632.1 21), .ref (u_632.1 22), .ref (u_632.1 23)])), ((u_632.1 21), .inl (cy 1, 10, .inl (fun _ => 0))), ((u_632.1 22), .inl (cy 1, 1024, .inl (fun _ => 0))), ((u_632.1 23), .inl (cy 1, 1024, .inl (fun _ => 0))), ((u_632.1 24), .inr (10, [.int (-1), .int (-1), .int (-1), .int (-1), .ref (u_632.1 25), .ref (u_632.1 26), .ref (u_632.1 27), .ref (u_632.1 28)])), ((u_632.1 25), .inl (cy 1, 1000, .inl (fun _ => 0))), ((u_632.1 26), .inl (cy 1, 1000, .inl (fun _ => 0))), ((u_632.1 27), .inl (cy 1, 1000, .inl (fun _ => 0))), ((u_632.1 28), .inl (cy 1, 1000, .inl (fun _ => 0))), ((u_632.1 29), .inr (1, [.int (-1), .int (-1), .int (-1), .int 0, .ref (u_632.1 30)])), ((u_632.1 30), .inl (cy 1, 1000, .inl (fun _ => 0))), ((u_632.1 31), .inr (3, [.int 1, .int 0, .int 0, .int 0, .null, .null, .null, .ref (u_632.1 32), .ref (u_632.1 33), .ref (u_632.1 34), .ref (u_632.1 35), .ref (u_632.1 36)])), ((u_632.1 32), .inl (cy 1, 10, .inl (fun _ => 0))), ((u_632.1 33), .inl (cy 1, 10, .inl (fun _ => 0))), ((u_632.1 34), .inl (cy 1, 10, .inl (fun _ => 0))), ((u_632.1 35), .inl (cy 1, 10, .inl (fun _ => 0))), ((u_632.1 36), .inl (cy 1, 10, .inl (fun _ => 0))), ((u_632.1 37), .inr (7, [.ref (u_632.1 31), .int 0, .int 0, .ref (u_632.1 38)])), ((u_632.1 38), .inl (cy 1, 10, .inl (fun _ => 0))), ((u_632.1 39), .inr (7, [.ref (u_632.1 31), .int 0, .int 0, .ref (u_632.1 40)])), ((u_632.1 40), .inl (cy 1, 10, .inl (fun _ => 0))), ((u_632.1 41), .inr (7, [.ref (u_632.1 31), .int 0, .int 0, .ref (u_632.1 42)])), ((u_632.1 42), .inl (cy 1, 10, .inl (fun _ => 0))), ((u_632.1 43), .inr (2, [.int 0, .ref (u_632.1 44)])), ((u_632.1 44), .inl (cy 4, 10, .inr (.inr (.inr (.inr (va_up (va_up (va_up (va_up (va_up (va_up (va_up (va_up (va_up (va_up (fun _ => none) (Int32.toNatClampNeg 0) (some (u_632.1 45))) (Int32.toNatClampNeg 1) (some (u_632.1 47))) (Int32.toNatClampNeg 2) (some (u_632.1 49))) (Int32.toNatClampNeg 3) (some (u_632.1 51))) (Int32.toNatClampNeg 4) (some (u_632.1 53))) (Int32.toNatClampNeg 5) (some (u_632.1 55))) (Int32.toNatClampNeg 6) (some (u_632.1 57))) (Int32.toNatClampNeg 7) (some (u_632.1 59))) (Int32.toNatClampNeg 8) (some (u_632.1 61))) (Int32.toNatClampNeg 9) (some (u_632.1 63)))))))), ((u_632.1 45), .inr (7, [.ref (u_632.1 31), .int 0, .int 0, .ref (u_632.1 46)])), ((u_632.1 46), .inl (cy 1, 10, .inl (fun _ => 0))), ((u_632.1 47), .inr (7, [.ref (u_632.1 31), .int 0, .int 0, .ref (u_632.1 48)])), ((u_632.1 48), .inl (cy 1, 10, .inl (fun _ => 0))), ((u_632.1 49), .inr (7, [.ref (u_632.1 31), .int 0, .int 0, .ref (u_632.1 50)])), ((u_632.1 50), .inl (cy 1, 10, .inl (fun _ => 0))), ((u_632.1 51), .inr (7, [.ref (u_632.1 31), .int 0, .int 0, .ref (u_632.1 52)])), ((u_632.1 52), .inl (cy 1, 10, .inl (fun _ => 0))), ((u_632.1 53), .inr (7, [.ref (u_632.1 31), .int 0, .int 0, .ref (u_632.1 54)])), ((u_632.1 54), .inl (cy 1, 10, .inl (fun _ => 0))), ((u_632.1 55), .inr (7, [.ref (u_632.1 31), .int 0, .int 0, .ref (u_632.1 56)])), ((u_632.1 56), .inl (cy 1, 10, .inl (fun _ => 0))), ((u_632.1 57), .inr (7, [.ref (u_632.1 31), .int 0, .int 0, .ref (u_632.1 58)])), ((u_632.1 58), .inl (cy 1, 10, .inl (fun _ => 0))), ((u_632.1 59), .inr (7, [.ref (u_632.1 31), .int 0, .int 0, .ref (u_632.1 60)])), ((u_632.1 60), .inl (cy 1, 10, .inl (fun _ => 0))), ((u_632.1 61), .inr (7, [.ref (u_632.1 31), .int 0, .int 0, .ref (u_632.1 62)])), ((u_632.1 62), .inl (cy 1, 10, .inl (fun _ => 0))), ((u_632.1 63), .inr (7, [.ref (u_632.1 31), .int 0, .int 0, .ref (u_632.1 64)])), ((u_632.1 64), .inl (cy 1, 10, .inl (fun _ => 0))), ((u_632.1 65), .inr (9, [.int (-1), .int 0, .ref (u_632.1 66)])), ((u_632.1 66), .inl (cy 2, 40, .inr (.inl (fun _ => 0)))), ((u_632.1 67), .inr (9, [.int (-1), .int 0, .ref (u_632.1 68)])), ((u_632.1 68), .inl (cy 2, 40, .inr (.inl (fun _ => 0)))), ((u_632.1 69), .inr (9, [.int (-1), .int 0, .ref (u_632.1 70)])), ((u_632.1 70), .inl (cy 2, 40, .inr (.inl (fun _ => 0)))), ((u_632.1 71), .inr (9, [.int (-1), .int 0, .ref (u_632.1 72)])), ((u_632.1 72), .inl (cy 2, 40, .inr (.inl (fun _ => 0)))), ((u_632.1 73), .inr (7, [.ref (u_632.1 31), .int 0, .int 0, .ref (u_632.1 74)])), ((u_632.1 74), .inl (cy 1, 10, .inl (fun _ => 0))), ((u_632.1 75), .inr (7, [.ref (u_632.1 31), .int 0, .int 0, .ref (u_632.1 76)])), ((u_632.1 76), .inl (cy 1, 10, .inl (fun _ => 0))), (q_633, .inr (12, [.int 0, .null, .null, .null, .null, .int 0, .int 0, .int 0, .int 0, .int 0, .int 0, .int 0, .int 0, .int 0, .int 0, .int 0, .null, .null, .null, .null, .null, .int 0, .int 0, .null, .null, .null, .int 0, .int 0, .null, .null, .null, .null, .null, .int 0, .null, .null, .null]))] _ _ := hw4
  refine lv_dup hx hb dL_law_11 rfl ?_
  refine q_callIv (rest := [.ref q_633]) (wr := (wk_321822942 cy q_526 (u_632.1 0) 0 0 (-1) (u_632.1 1) (u_632.1 37) (u_632.1 39) (u_632.1 41) (u_632.1 43) (u_632.1 14) (u_632.1 15) (u_632.1 16) (u_632.1 17) (u_632.1 20) (u_632.1 24) (u_632.1 29) 0 (u_632.1 0) (fun _ => 0) (u_632.1 1) (u_632.1 2) 0 26 0 (-1) (u_632.1 7) (u_632.1 13) 0 0 (u_632.1 2) (u_632.1 3) 0 0 (u_632.1 4) (u_632.1 5) (u_632.1 6) (u_632.1 3) (fun _ => 0) (u_632.1 4) (fun _ => 0) (u_632.1 5) (fun _ => 0) (u_632.1 6) (fun _ => 0) (u_632.1 7) 1 0 0 0 (u_632.1 8) (u_632.1 9) (u_632.1 10) (u_632.1 11) (u_632.1 12) (u_632.1 8) (fun _ => 0) (u_632.1 9) (fun _ => 0) (u_632.1 10) (fun _ => 0) (u_632.1 11) (fun _ => 0) (u_632.1 12) (fun _ => 0) (u_632.1 13) (fun _ => 0) (u_632.1 14) (va_up (va_up (va_up (va_up (fun _ => none) (Int32.toNatClampNeg 0) (some (u_632.1 65))) (Int32.toNatClampNeg 1) (some (u_632.1 67))) (Int32.toNatClampNeg 2) (some (u_632.1 69))) (Int32.toNatClampNeg 3) (some (u_632.1 71))) (u_632.1 15) (va_up (va_up (fun _ => none) (Int32.toNatClampNeg 0) (some (u_632.1 73))) (Int32.toNatClampNeg 1) (some (u_632.1 75))) (u_632.1 16) (fun _ => 0) (u_632.1 17) (u_632.1 18) (u_632.1 19) (u_632.1 18) (fun _ => 0) (u_632.1 19) (fun _ => 0) (u_632.1 20) 0 (u_632.1 21) (u_632.1 22) (u_632.1 23) (u_632.1 21) (fun _ => 0) (u_632.1 22) (fun _ => 0) (u_632.1 23) (fun _ => 0) (u_632.1 24) (-1) (-1) (-1) (-1) (u_632.1 25) (u_632.1 26) (u_632.1 27) (u_632.1 28) (u_632.1 25) (fun _ => 0) (u_632.1 26) (fun _ => 0) (u_632.1 27) (fun _ => 0) (u_632.1 28) (fun _ => 0) (u_632.1 29) (-1) (-1) (-1) 0 (u_632.1 30) (u_632.1 30) (fun _ => 0) (u_632.1 31) 1 0 0 0 (u_632.1 32) (u_632.1 33) (u_632.1 34) (u_632.1 35) (u_632.1 36) (u_632.1 32) (fun _ => 0) (u_632.1 33) (fun _ => 0) (u_632.1 34) (fun _ => 0) (u_632.1 35) (fun _ => 0) (u_632.1 36) (fun _ => 0) (u_632.1 37) (u_632.1 31) 0 0 (u_632.1 38) (u_632.1 38) (fun _ => 0) (u_632.1 39) (u_632.1 31) 0 0 (u_632.1 40) (u_632.1 40) (fun _ => 0) (u_632.1 41) (u_632.1 31) 0 0 (u_632.1 42) (u_632.1 42) (fun _ => 0) (u_632.1 43) 0 (u_632.1 44) (u_632.1 44) (va_up (va_up (va_up (va_up (va_up (va_up (va_up (va_up (va_up (va_up (fun _ => none) (Int32.toNatClampNeg 0) (some (u_632.1 45))) (Int32.toNatClampNeg 1) (some (u_632.1 47))) (Int32.toNatClampNeg 2) (some (u_632.1 49))) (Int32.toNatClampNeg 3) (some (u_632.1 51))) (Int32.toNatClampNeg 4) (some (u_632.1 53))) (Int32.toNatClampNeg 5) (some (u_632.1 55))) (Int32.toNatClampNeg 6) (some (u_632.1 57))) (Int32.toNatClampNeg 7) (some (u_632.1 59))) (Int32.toNatClampNeg 8) (some (u_632.1 61))) (Int32.toNatClampNeg 9) (some (u_632.1 63))) (u_632.1 45) (u_632.1 31) 0 0 (u_632.1 46) (u_632.1 46) (fun _ => 0) (u_632.1 47) (u_632.1 31) 0 0 (u_632.1 48) (u_632.1 48) (fun _ => 0) (u_632.1 49) (u_632.1 31) 0 0 (u_632.1 50) (u_632.1 50) (fun _ => 0) (u_632.1 51) (u_632.1 31) 0 0 (u_632.1 52) (u_632.1 52) (fun _ => 0) (u_632.1 53) (u_632.1 31) 0 0 (u_632.1 54) (u_632.1 54) (fun _ => 0) (u_632.1 55) (u_632.1 31) 0 0 (u_632.1 56) (u_632.1 56) (fun _ => 0) (u_632.1 57) (u_632.1 31) 0 0 (u_632.1 58) (u_632.1 58) (fun _ => 0) (u_632.1 59) (u_632.1 31) 0 0 (u_632.1 60) (u_632.1 60) (fun _ => 0) (u_632.1 61) (u_632.1 31) 0 0 (u_632.1 62) (u_632.1 62) (fun _ => 0) (u_632.1 63) (u_632.1 31) 0 0 (u_632.1 64) (u_632.1 64) (fun _ => 0) (u_632.1 65) (-1) 0 (u_632.1 66) (u_632.1 66) (fun _ => 0) (u_632.1 67) (-1) 0 (u_632.1 68) (u_632.1 68) (fun _ => 0) (u_632.1 69) (-1) 0 (u_632.1 70) (u_632.1 70) (fun _ => 0) (u_632.1 71) (-1) 0 (u_632.1 72) (u_632.1 72) (fun _ => 0) (u_632.1 73) (u_632.1 31) 0 0 (u_632.1 74) (u_632.1 74) (fun _ => 0) (u_632.1 75) (u_632.1 31) 0 0 (u_632.1 76) (u_632.1 76) (fun _ => 0))) X hK hT hA hw4 (fun sz => kX12_init_13 l D cy q_633  sz) wm_5_163 wm_5_165 wm_1_12 hd_X12_init wm_5_164 rfl ⟨Nat.le_of_ble_eq_true rfl, Nat.le_of_ble_eq_true rfl⟩ hv3.1 rfl (Nat.le_of_ble_eq_true rfl) dL_law_12 ⟨Nat.le_of_ble_eq_true rfl, Nat.le_of_ble_eq_true rfl⟩ [78] [0, 1, 2, 3, 4, 5, 6, 7, 8, 9, 10, 11, 12, 13, 14, 15, 16, 17, 18, 19, 20, 21, 22, 23, 24, 25, 26, 27, 28, 29, 30, 31, 32, 33, 34, 35, 36, 37, 38, 39, 40, 41, 42, 43, 44, 45, 46, 47, 48, 49, 50, 51, 52, 53, 54, 55, 56, 57, 58, 59, 60, 61, 62, 63, 64, 65, 66, 67, 68, 69, 70, 71, 72, 73, 74, 75, 76, 77] rfl rfl (by decide) rfl rfl (fun u_658 Hp5 lc5 w_658 hw5 => ?_)
  clear Hp4 lc2 hw4
  replace hw5 : qW D _ _ (wk_4cb6f6fec cy q_526 (u_632.1 0) 0 0 (-1) (u_632.1 1) (u_632.1 37) (u_632.1 39) (u_632.1 41) (u_632.1 43) (u_632.1 14) (u_632.1 15) (u_632.1 16) (u_632.1 17) (u_632.1 20) (u_632.1 24) (u_632.1 29) 0 (u_632.1 0) (fun _ => 0) (u_632.1 1) (u_632.1 2) 0 26 0 (-1) (u_632.1 7) (u_632.1 13) 0 0 (u_632.1 2) (u_632.1 3) 0 0 (u_632.1 4) (u_632.1 5) (u_632.1 6) (u_632.1 3) (fun _ => 0) (u_632.1 4) (fun _ => 0) (u_632.1 5) (fun _ => 0) (u_632.1 6) (fun _ => 0) (u_632.1 7) 1 0 0 0 (u_632.1 8) (u_632.1 9) (u_632.1 10) (u_632.1 11) (u_632.1 12) (u_632.1 8) (fun _ => 0) (u_632.1 9) (fun _ => 0) (u_632.1 10) (fun _ => 0) (u_632.1 11) (fun _ => 0) (u_632.1 12) (fun _ => 0) (u_632.1 13) (fun _ => 0) (u_632.1 14) (va_up (va_up (va_up (va_up (fun _ => none) (Int32.toNatClampNeg 0) (some (u_632.1 65))) (Int32.toNatClampNeg 1) (some (u_632.1 67))) (Int32.toNatClampNeg 2) (some (u_632.1 69))) (Int32.toNatClampNeg 3) (some (u_632.1 71))) (u_632.1 15) (va_up (va_up (fun _ => none) (Int32.toNatClampNeg 0) (some (u_632.1 73))) (Int32.toNatClampNeg 1) (some (u_632.1 75))) (u_632.1 16) (fun _ => 0) (u_632.1 17) (u_632.1 18) (u_632.1 19) (u_632.1 18) (fun _ => 0) (u_632.1 19) (fun _ => 0) (u_632.1 20) 0 (u_632.1 21) (u_632.1 22) (u_632.1 23) (u_632.1 21) (fun _ => 0) (u_632.1 22) (fun _ => 0) (u_632.1 23) (fun _ => 0) (u_632.1 24) (-1) (-1) (-1) (-1) (u_632.1 25) (u_632.1 26) (u_632.1 27) (u_632.1 28) (u_632.1 25) (fun _ => 0) (u_632.1 26) (fun _ => 0) (u_632.1 27) (fun _ => 0) (u_632.1 28) (fun _ => 0) (u_632.1 29) (-1) (-1) (-1) 0 (u_632.1 30) (u_632.1 30) (fun _ => 0) (u_632.1 31) 1 0 0 0 (u_632.1 32) (u_632.1 33) (u_632.1 34) (u_632.1 35) (u_632.1 36) (u_632.1 32) (fun _ => 0) (u_632.1 33) (fun _ => 0) (u_632.1 34) (fun _ => 0) (u_632.1 35) (fun _ => 0) (u_632.1 36) (fun _ => 0) (u_632.1 37) (u_632.1 31) 0 0 (u_632.1 38) (u_632.1 38) (fun _ => 0) (u_632.1 39) (u_632.1 31) 0 0 (u_632.1 40) (u_632.1 40) (fun _ => 0) (u_632.1 41) (u_632.1 31) 0 0 (u_632.1 42) (u_632.1 42) (fun _ => 0) (u_632.1 43) 0 (u_632.1 44) (u_632.1 44) (va_up (va_up (va_up (va_up (va_up (va_up (va_up (va_up (va_up (va_up (fun _ => none) (Int32.toNatClampNeg 0) (some (u_632.1 45))) (Int32.toNatClampNeg 1) (some (u_632.1 47))) (Int32.toNatClampNeg 2) (some (u_632.1 49))) (Int32.toNatClampNeg 3) (some (u_632.1 51))) (Int32.toNatClampNeg 4) (some (u_632.1 53))) (Int32.toNatClampNeg 5) (some (u_632.1 55))) (Int32.toNatClampNeg 6) (some (u_632.1 57))) (Int32.toNatClampNeg 7) (some (u_632.1 59))) (Int32.toNatClampNeg 8) (some (u_632.1 61))) (Int32.toNatClampNeg 9) (some (u_632.1 63))) (u_632.1 45) (u_632.1 31) 0 0 (u_632.1 46) (u_632.1 46) (fun _ => 0) (u_632.1 47) (u_632.1 31) 0 0 (u_632.1 48) (u_632.1 48) (fun _ => 0) (u_632.1 49) (u_632.1 31) 0 0 (u_632.1 50) (u_632.1 50) (fun _ => 0) (u_632.1 51) (u_632.1 31) 0 0 (u_632.1 52) (u_632.1 52) (fun _ => 0) (u_632.1 53) (u_632.1 31) 0 0 (u_632.1 54) (u_632.1 54) (fun _ => 0) (u_632.1 55) (u_632.1 31) 0 0 (u_632.1 56) (u_632.1 56) (fun _ => 0) (u_632.1 57) (u_632.1 31) 0 0 (u_632.1 58) (u_632.1 58) (fun _ => 0) (u_632.1 59) (u_632.1 31) 0 0 (u_632.1 60) (u_632.1 60) (fun _ => 0) (u_632.1 61) (u_632.1 31) 0 0 (u_632.1 62) (u_632.1 62) (fun _ => 0) (u_632.1 63) (u_632.1 31) 0 0 (u_632.1 64) (u_632.1 64) (fun _ => 0) (u_632.1 65) (-1) 0 (u_632.1 66) (u_632.1 66) (fun _ => 0) (u_632.1 67) (-1) 0 (u_632.1 68) (u_632.1 68) (fun _ => 0) (u_632.1 69) (-1) 0 (u_632.1 70) (u_632.1 70) (fun _ => 0) (u_632.1 71) (-1) 0 (u_632.1 72) (u_632.1 72) (fun _ => 0) (u_632.1 73) (u_632.1 31) 0 0 (u_632.1 74) (u_632.1 74) (fun _ => 0) (u_632.1 75) (u_632.1 31) 0 0 (u_632.1 76) (u_632.1 76) (fun _ => 0) q_633 0 (u_658.1 19) (u_658.1 0) (u_658.1 1) (u_658.1 2) 0 0 0 0 0 0 0 0 0 (-1) 0 (u_658.1 3) (u_658.1 4) (u_658.1 5) (u_658.1 6) (u_658.1 7) 0 0 (u_658.1 8) (u_658.1 9) (u_658.1 10) 0 0 (u_658.1 11) (u_658.1 12) (u_658.1 13) (u_658.1 14) (u_658.1 15) 0 (u_658.1 16) (u_658.1 17) (u_658.1 18) (u_658.1 0) (fun _ => 0) (u_658.1 1) (fun _ => 0) (u_658.1 2) (fun _ => 0) (u_658.1 3) (fun _ => 0) (u_658.1 4) (fun _ => 0) (u_658.1 5) (fun _ => 0) (u_658.1 6) (fun _ => 0) (u_658.1 7) (fun _ => 0) (u_658.1 8) (fun _ => 0) (u_658.1 9) (fun _ => 0) (u_658.1 10) (fun _ => 0) (u_658.1 11) (fun _ => 0) (u_658.1 12) (fun _ => 0) (u_658.1 13) (fun _ => 0) (u_658.1 14) (fun _ => 0) (u_658.1 15) (fun _ => 0) (u_658.1 16) (upd (upd (upd (upd (fun _ => 0) (Int32.toNatClampNeg 0) (-1)) (Int32.toNatClampNeg 1) (-1)) (Int32.toNatClampNeg 2) (-1)) (Int32.toNatClampNeg 3) (-1)) (u_658.1 17) (fun _ => 0) (u_658.1 18) (fun _ => 0) (u_658.1 19) (upd (fun _ => 0) (Int32.toNatClampNeg 1) 1)) _ _ := hw5
  refine lv_astore_n (lv' := [(2, .ref q_633), (1, .ref q_526), (0, .ref b)]) hx hb dL_law_15 rfl hv3 (by decide) rfl (fun lz6 hv6 => ?_)
  clear lz3 hv3
  refine lv_iconst (v := 0) hx hb dL_law_16 (by decide) ?_
  refine lv_istore_n (lv' := [(3, .int 0), (2, .ref q_633), (1, .ref q_526), (0, .ref b)]) hx hb dL_law_17 rfl hv6 (by decide) rfl (fun lz7 hv7 => ?_)
  clear lz6 hv6
  have hI := law_init (x0 := q_526) (m0 := q_633) (u_0 := u_632) (u_1 := u_658) hw5
  refine W.widen (k := 200) (n := 30000) (Nat.le_of_ble_eq_true rfl) (Nat.le_of_ble_eq_true rfl) ?_
  exact law_head l X hr hlk hK hT hX hbl hL 513 0 rfl 0 _ _ _ _ _ 0 (by decide) (by decide) (by decide) (by decide) hv7 hI
