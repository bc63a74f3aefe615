abbrev S3 : Type := SS × va_W × (Nat → Option Nat)
abbrev qBW (D : va_G) (A : Nat → Prop) (wq : S3 → va_W) : S3 → State → Prop := fun u t => va_P D vwCl (wq u ++ u.2.1) t.heap ∧ va_D A (wq u ++ u.2.1)
abbrev MIw (l : Launch) (y : MethodName) (b : ByteArray) (n : Nat) (ret : FieldType) (rm : Room) (av : List Value) (D : va_G) (cy : Nat → ClassId) (ws : va_W) (sz : Nat) (post : Int32 → S3 → Prop) (wq : S3 → va_W) (mc ms : Nat) : Prop := qM l y b n (some ret) rm av D cy ws sz (va_Qi post (qBW D (va_A ws sz) wq) (va_A ws sz)) mc ms
abbrev MVw (l : Launch) (y : MethodName) (b : ByteArray) (n : Nat) (rm : Room) (av : List Value) (D : va_G) (cy : Nat → ClassId) (ws : va_W) (sz : Nat) (post : S3 → Prop) (wq : S3 → va_W) (mc ms : Nat) : Prop := qM l y b n none rm av D cy ws sz (va_Qv post (qBW D (va_A ws sz) wq) (va_A ws sz)) mc ms
abbrev MQw (l : Launch) (y : MethodName) (b : ByteArray) (n : Nat) (C : String) (rm : Room) (av : List Value) (D : va_G) (cy : Nat → ClassId) (ws : va_W) (sz : Nat) (post : Option Nat → S3 → Prop) (wq : S3 → va_W) (mc ms : Nat) : Prop := qM l y b n (some (.object C)) rm av D cy ws sz (va_Qq post (qBW D (va_A ws sz) wq) (va_A ws sz)) mc ms
abbrev MAr (l : Launch) (y : MethodName) (b : ByteArray) (n : Nat) (rm : Room) (av : List Value) (D : va_G) (cy : Nat → ClassId) (ws : va_W) (sz : Nat) (post : SS → Prop) (wq : SS → va_W) (mc ms : Nat) : Prop := qM l y b n (some (.array .int)) rm av D cy ws sz (va_Qr post (fun u a t => a = u.1 0 ∧ qB D (va_A ws sz) wq u t) (va_A ws sz)) mc ms
theorem q_apx {ws pl : va_W} : ∀ (is : List Nat) (wc : va_W), is.map (fun i => ws[i]?) = wc.map some → is.map (fun i => (ws ++ pl)[i]?) = wc.map some := by
  intro is
  induction is with
  | nil => intro wc h; cases wc with
    | nil => rfl
    | cons a b => cases h
  | cons i is ih =>
    intro wc h
    cases wc with
    | nil => cases h
    | cons a b =>
      simp only [List.map_cons] at h ⊢
      obtain ⟨h1, h2⟩ := List.cons.inj h
      have hl : i < ws.length := (List.getElem?_eq_some_iff.mp h1).1
      rw [List.getElem?_append_left hl, h1, ih b h2]
section QT
variable {p : Program} {l : Launch} {e : Env} {R : Room} {s : State} {m : MethodId} {args : Array Value} {below : List Frame} {meth : Method} {c : Code} {H H0 : Heap} {locs : List Loc} {cells slots : Nat} {Q : State → Prop} {cc : ByteArray} {nL pc : Nat} {own : String} {ls : Array Slot} {rest : List Value} {D : va_G} {cy : Nat → ClassId} {A : Nat → Prop} {ws pl : va_W}
theorem q_subT {ws' : va_W} (h : qW D A H0 (ws ++ pl) H locs) (is : List Nat) (hn : va_nd is = true) (hs : is.map (fun i => ws[i]?) = ws'.map some) : va_P D vwCl (ws' ++ pl) H ∧ va_D A (ws' ++ pl) := ⟨fun k q hq => h.1 _ q (va_part is hs k q hq), h.2.1.part is hn hs⟩
theorem q_reT {ws' : va_W} (h : qW D A H0 (ws ++ pl) H locs) (is : List Nat) (hn : va_nd is = true) (hs : is.map (fun i => ws[i]?) = ws'.map some) : qW D A H0 (ws' ++ pl) H locs := ⟨(q_subT h is hn hs).1, (q_subT h is hn hs).2, h.2.2⟩
theorem q_wlS {α : Type} (I : α → Heap → List Loc → Array Slot → Prop) (mu cs ss : α → Nat) (step : ∀ a : α, (∀ b : α, mu b < mu a → ∀ H locs ls, I b H locs ls → W p l e R s m args below meth c H locs (cs b) (ss b) Q (F0 m pc ls [])) → ∀ H locs ls, I a H locs ls → W p l e R s m args below meth c H locs (cs a) (ss a) Q (F0 m pc ls [])) (a0 : α) {H : Heap} {locs : List Loc} {ls : Array Slot} (h0 : I a0 H locs ls) : W p l e R s m args below meth c H locs (cs a0) (ss a0) Q (F0 m pc ls []) := by
  have main : ∀ (n : Nat) (a : α), mu a = n → ∀ H locs ls, I a H locs ls → W p l e R s m args below meth c H locs (cs a) (ss a) Q (F0 m pc ls []) := by
    intro n
    induction n using Nat.strongRecOn with
    | ind n ih =>
      intro a ha
      exact step a (fun b hb => ih (mu b) (by omega) b rfl)
  exact main _ a0 rfl H locs ls h0
theorem q_putq (X : qX p s m args c cc nL own) (hK : qK D cy s) (h : qW D A H0 ws H locs) {C : String} {T : u_T} {N ci idx a : Nat} (q0 : Nat) {fs : List Value} (he : ws[q0]? = some (a, .inr (ci, fs))) (hc : vwCl[ci]? = some (C, T, N)) (hin : ∀ w ∈ u_ws C T N, w ∈ WG) (ty0 : Nat → FieldType) (hty : ∀ k, k < N → parseFieldDescriptor (T k).2.2.1 = some (ty0 k)) (hnm : ∀ a, a < N → ∀ b, b < N → a ≠ b → (T a).2.1 ≠ (T b).2.1) (k : Nat) (hk : k < N) {r : Option Nat} (hm : Cond.fieldLink own idx (T k).1 (T k).2.1 (T k).2.2.1 ∈ WG) (hfin : (T k).2.2.2 = false) (hn0 : narrow (ty0 k) .null = .null) (hn1 : ∀ b, narrow (ty0 k) (.ref b) = .ref b) (hf0 : fits (ty0 k) .null = true) (hf1 : ∀ b, fits (ty0 k) (.ref b) = true) (hl : k < fs.length) (hdg : decode cc pc = .ok (.putfield idx, 3)) (kk : ∀ (H1 : Heap) (locs1 : List Loc), qW D A H0 (ws.set q0 (a, .inr (ci, fs.set k (va_rf r)))) H1 locs1 → W p l e R s m args below meth c H1 locs1 cells slots Q (F0 m (pc + 3) ls rest)) : W p l e R s m args below meth c H locs cells slots Q (F0 m pc ls (va_rf r :: .ref a :: rest)) := by
  cases r with
  | none => exact q_put X hK h q0 he hc hin ty0 hty hnm k hk hm hfin hn0 hf0 hl hdg kk
  | some b => exact q_put X hK h q0 he hc hin ty0 hty hnm k hk hm hfin (hn1 b) (hf1 b) hl hdg kk
theorem q_aldq (hexec : p.tables.exec = Jvm.exec) (hb : c.code = cc) {k : Fin 4} {i : Nat} {r : Option Nat} (hdg : decode cc pc = .ok (.aload_n k, 1)) (hi : (k : Nat) = i) (hl : ls[i]? = some (.val (va_rf r))) (kk : W p l e R s m args below meth c H locs cells slots Q (F0 m (pc + 1) ls (va_rf r :: rest))) : W p l e R s m args below meth c H locs cells slots Q (F0 m pc ls rest) := by
  cases r with
  | none => exact lv_aload_nN hexec hb hdg hi hl kk
  | some b => exact lv_aload_n hexec hb hdg hi hl kk
theorem q_cv {v : Value} (a : Nat) (h : v = .ref a) (k : W p l e R s m args below meth c H locs cells slots Q (F0 m pc ls (.ref a :: rest))) : W p l e R s m args below meth c H locs cells slots Q (F0 m pc ls (v :: rest)) := by subst h; exact k
theorem q_iretW {ty : FieldType} {ws0 : va_W} {sz mc ms : Nat} {post : Int32 → S3 → Prop} {wq : S3 → va_W} {v : Int32} (X : qX p s m args c cc nL own) (hr : meth.sig.returnType = some ty) (hlk : meth.locks = false) (hK : qK D cy s) (h : qW D (va_A ws0 sz) s.heap (ws ++ pl) H locs) (hnr : narrow ty (.int v) = .int v) (ex : va_W) (u : S3) (hu : u.2.1 = ex ++ pl) (hq : post v u) (is : List Nat) (hn : va_nd is = true) (hs : is.map (fun i => ws[i]?) = (wq u ++ ex).map some) (hdg : decode cc pc = .ok (.ireturn, 1)) (hcm : cells ≤ mc) (hsm : slots ≤ ms) : W p l e R s m args below meth c H locs cells slots (MQ below (va_Qi post (qBW D (va_A ws0 sz) wq) (va_A ws0 sz)) args s mc ms (va_A ws0 sz)) (F0 m pc ls [.int v]) := by
  obtain ⟨h1, h2⟩ := q_subT h is hn hs
  have e1 : (wq u ++ ex) ++ pl = wq u ++ u.2.1 := by rw [hu, List.append_assoc]
  rw [e1] at h1 h2
  refine W.widen hcm hsm ?_
  exact W.zret X.1 X.2.1 hr hnr (fun t ht hW => ⟨⟨v, u, rfl, hq, by rw [ht]; exact h1, h2⟩, h.2.2.F ht⟩) h.2.2.2.2 hdg hlk
theorem q_vretW {ws0 : va_W} {sz mc ms : Nat} {post : S3 → Prop} {wq : S3 → va_W} (X : qX p s m args c cc nL own) (hr : meth.sig.returnType = none) (hlk : meth.locks = false) (hK : qK D cy s) (h : qW D (va_A ws0 sz) s.heap (ws ++ pl) H locs) (ex : va_W) (u : S3) (hu : u.2.1 = ex ++ pl) (hq : post u) (is : List Nat) (hn : va_nd is = true) (hs : is.map (fun i => ws[i]?) = (wq u ++ ex).map some) (hdg : decode cc pc = .ok (.return_, 1)) (hcm : cells ≤ mc) (hsm : slots ≤ ms) : W p l e R s m args below meth c H locs cells slots (MQ below (va_Qv post (qBW D (va_A ws0 sz) wq) (va_A ws0 sz)) args s mc ms (va_A ws0 sz)) (F0 m pc ls []) := by
  obtain ⟨h1, h2⟩ := q_subT h is hn hs
  have e1 : (wq u ++ ex) ++ pl = wq u ++ u.2.1 := by rw [hu, List.append_assoc]
  rw [e1] at h1 h2
  refine W.widen hcm hsm ?_
  exact W.vret X.1 X.2.1 hr (fun t ht hW => ⟨⟨u, rfl, hq, by rw [ht]; exact h1, h2⟩, h.2.2.F ht⟩) h.2.2.2.2 hdg hlk
theorem q_qretW {C : String} {ws0 : va_W} {sz mc ms : Nat} {v : Value} {post : Option Nat → S3 → Prop} {wq : S3 → va_W} (X : qX p s m args c cc nL own) (hr : meth.sig.returnType = some (.object C)) (hlk : meth.locks = false) (hK : qK D cy s) (h : qW D (va_A ws0 sz) s.heap (ws ++ pl) H locs) (r : Option Nat) (hv : v = va_rf r) (ex : va_W) (u : S3) (hu : u.2.1 = ex ++ pl) (hq : post r u) (is : List Nat) (hn : va_nd is = true) (hs : is.map (fun i => ws[i]?) = (wq u ++ ex).map some) (hdg : decode cc pc = .ok (.areturn, 1)) (hcm : cells ≤ mc) (hsm : slots ≤ ms) : W p l e R s m args below meth c H locs cells slots (MQ below (va_Qq post (qBW D (va_A ws0 sz) wq) (va_A ws0 sz)) args s mc ms (va_A ws0 sz)) (F0 m pc ls [v]) := by
  obtain ⟨h1, h2⟩ := q_subT h is hn hs
  have e1 : (wq u ++ ex) ++ pl = wq u ++ u.2.1 := by rw [hu, List.append_assoc]
  rw [e1] at h1 h2
  subst hv
  refine W.widen hcm hsm ?_
  exact W.aret X.1 X.2.1 hr (Or.inl ⟨_, rfl⟩) (va_rf_or r) (fun t ht hW => ⟨⟨r, u, rfl, hq, by rw [ht]; exact h1, h2⟩, h.2.2.F ht⟩) h.2.2.2.2 hdg hlk
theorem q_aretA {ws0 : va_W} {sz mc ms v : Nat} {post : SS → Prop} {wq : SS → va_W} (X : qX p s m args c cc nL own) (hr : meth.sig.returnType = some (.array .int)) (hlk : meth.locks = false) (hK : qK D cy s) (h : qW D (va_A ws0 sz) s.heap ws H locs) (u : SS) (hu : v = u.1 0) (hq : post u) (is : List Nat) (hn : va_nd is = true) (hs : is.map (fun i => ws[i]?) = (wq u).map some) (hdg : decode cc pc = .ok (.areturn, 1)) (hcm : cells ≤ mc) (hsm : slots ≤ ms) : W p l e R s m args below meth c H locs cells slots (MQ below (va_Qr post (fun u a t => a = u.1 0 ∧ qB D (va_A ws0 sz) wq u t) (va_A ws0 sz)) args s mc ms (va_A ws0 sz)) (F0 m pc ls [.ref v]) := by
  obtain ⟨h1, h2⟩ := q_sub h is hn hs
  refine W.widen hcm hsm ?_
  exact W.aret X.1 X.2.1 hr (Or.inr ⟨_, rfl⟩) (Or.inr ⟨_, rfl⟩) (fun t ht hW => ⟨⟨u, v, rfl, hq, hu, by rw [ht]; exact h1, h2⟩, h.2.2.F ht⟩) h.2.2.2.2 hdg hlk
theorem q_callViT (X : qX p s m args c cc nL own) (hK : qK D cy s) (hT : qT cy A s) (hA : ∀ q, s.heap.size ≤ q → A q) (h : qW D A s.heap (ws ++ pl) H locs) {y : MethodName} {b : ByteArray} {n idx : Nat} {rm : Room} {As : List Value} {a : Nat} {ret : FieldType} {post : Int32 → SS → Prop} {wc wr : va_W} {wq : SS → va_W} (hM : ∀ sz : Nat, MI l y b n ret rm (.ref a :: As) D cy wc sz post wq rm.cells rm.slots) (m1 : Cond.methodLink own idx y ∈ WG) (m2 : Cond.code y b n (some ret) ∈ WG) (m3 : Cond.initialized y.cls ∈ WG) (hd : y.cls ≠ "java/lang/invoke/MethodHandle" ∧ y.cls ≠ "java/lang/invoke/VarHandle" ∧ (parseMethodDescriptor y.desc).map (fun d => d.parameters.length) = some As.length) {C : String} {T : u_T} {N ci q0 : Nat} {fs : List Value} (m4 : Cond.instanceMethod y ∈ WG) (m5 : Cond.selects C y y ∈ WG) (hc : vwCl[ci]? = some (C, T, N)) (he : wc[q0]? = some (a, .inr (ci, fs))) (hR : rm.frames + 1 ≤ R.frames ∧ 8 + (n + 11) + rm.locals ≤ R.locals) (hls : ls.size = nL) {st0 : List Value} (hst : st0 = As.reverse ++ .ref a :: rest) (hr8 : (rest.map fun v => v.category).sum ≤ 8) (hdg : decode cc pc = .ok (.invokevirtual idx, 3)) (hf : cells + rm.cells ≤ R.cells ∧ slots + rm.slots ≤ R.slots) (isC isR : List Nat) (hnC : va_nd isC = true) (hnR : va_nd isR = true) (hdis : ∀ i ∈ isR, i ∉ isC) (hC : isC.map (fun i => ws[i]?) = wc.map some) (hRr : isR.map (fun i => ws[i]?) = wr.map some) (kk : ∀ (r : Int32) (u : SS) (H1 : Heap) (locs1 : List Loc), post r u → qW D A s.heap ((wr ++ wq u) ++ pl) H1 locs1 → W p l e R s m args below meth c H1 locs1 (cells + rm.cells) (slots + rm.slots) Q (F0 m (pc + 3) ls (.int r :: rest))) : W p l e R s m args below meth c H locs cells slots Q (F0 m pc ls st0) := by
  subst hst
  have hC' := q_apx (pl := pl) isC wc hC
  obtain ⟨h1, h2⟩ := q_sub h isC hnC hC'
  have hFc := va_free (wc := wc) h.2.1 h.2.2 hA isC hC'
  refine va_calli (va_runV X (hM H.size) ⟨q_callB X m1 m2 m3 hd rfl rfl hR, X.2.2.2.2 _ m4, X.2.2.2.2 _ m5⟩ ⟨q_blind, va_recv hK.1 h1 hc he, fun U hU hW => ⟨rfl, by rw [hU], by rw [hU]; exact h1, hK.warm hW, h2.weaken (fun _ _ _ _ => trivial), hT.call h.2.2 hFc hU hW⟩⟩ rfl rfl hls rfl (lv_room hr8) hdg hf) h.2.2 (fun q _ hh => hFc q hh) hFc (fun r u t H1 locs1 ht hvm hw hB hz1 hk1 hS => ?_)
  obtain ⟨hP1, hD1⟩ := hB
  rw [ht] at hP1
  obtain ⟨hP, hD⟩ := va_joinQ (wr := wr) h.1 h.2.1 isC isR hC hRr hnR hdis hk1 hFc hP1 hD1
  exact kk r u H1 locs1 hw ⟨hP, hD, hS⟩
theorem q_callVlT (X : qX p s m args c cc nL own) (hK : qK D cy s) (hT : qT cy A s) (hA : ∀ q, s.heap.size ≤ q → A q) (h : qW D A s.heap (ws ++ pl) H locs) {y : MethodName} {b : ByteArray} {n idx : Nat} {rm : Room} {As : List Value} {a : Nat} {post : Int64 → SS → Prop} {wc wr : va_W} {wq : SS → va_W} (hM : ∀ sz : Nat, ML l y b n rm (.ref a :: As) D cy wc sz post wq rm.cells rm.slots) (m1 : Cond.methodLink own idx y ∈ WG) (m2 : Cond.code y b n (some .long) ∈ WG) (m3 : Cond.initialized y.cls ∈ WG) (hd : y.cls ≠ "java/lang/invoke/MethodHandle" ∧ y.cls ≠ "java/lang/invoke/VarHandle" ∧ (parseMethodDescriptor y.desc).map (fun d => d.parameters.length) = some As.length) {C : String} {T : u_T} {N ci q0 : Nat} {fs : List Value} (m4 : Cond.instanceMethod y ∈ WG) (m5 : Cond.selects C y y ∈ WG) (hc : vwCl[ci]? = some (C, T, N)) (he : wc[q0]? = some (a, .inr (ci, fs))) (hR : rm.frames + 1 ≤ R.frames ∧ 8 + (n + 11) + rm.locals ≤ R.locals) (hls : ls.size = nL) {st0 : List Value} (hst : st0 = As.reverse ++ .ref a :: rest) (hr8 : (rest.map fun v => v.category).sum ≤ 8) (hdg : decode cc pc = .ok (.invokevirtual idx, 3)) (hf : cells + rm.cells ≤ R.cells ∧ slots + rm.slots ≤ R.slots) (isC isR : List Nat) (hnC : va_nd isC = true) (hnR : va_nd isR = true) (hdis : ∀ i ∈ isR, i ∉ isC) (hC : isC.map (fun i => ws[i]?) = wc.map some) (hRr : isR.map (fun i => ws[i]?) = wr.map some) (kk : ∀ (r : Int64) (u : SS) (H1 : Heap) (locs1 : List Loc), post r u → qW D A s.heap ((wr ++ wq u) ++ pl) H1 locs1 → W p l e R s m args below meth c H1 locs1 (cells + rm.cells) (slots + rm.slots) Q (F0 m (pc + 3) ls (.long r :: rest))) : W p l e R s m args below meth c H locs cells slots Q (F0 m pc ls st0) := by
  subst hst
  have hC' := q_apx (pl := pl) isC wc hC
  obtain ⟨h1, h2⟩ := q_sub h isC hnC hC'
  have hFc := va_free (wc := wc) h.2.1 h.2.2 hA isC hC'
  refine va_calll (va_runV X (hM H.size) ⟨q_callB X m1 m2 m3 hd rfl rfl hR, X.2.2.2.2 _ m4, X.2.2.2.2 _ m5⟩ ⟨q_blind, va_recv hK.1 h1 hc he, fun U hU hW => ⟨rfl, by rw [hU], by rw [hU]; exact h1, hK.warm hW, h2.weaken (fun _ _ _ _ => trivial), hT.call h.2.2 hFc hU hW⟩⟩ rfl rfl hls rfl (lv_room hr8) hdg hf) h.2.2 (fun q _ hh => hFc q hh) hFc (fun r u t H1 locs1 ht hvm hw hB hz1 hk1 hS => ?_)
  obtain ⟨hP1, hD1⟩ := hB
  rw [ht] at hP1
  obtain ⟨hP, hD⟩ := va_joinQ (wr := wr) h.1 h.2.1 isC isR hC hRr hnR hdis hk1 hFc hP1 hD1
  exact kk r u H1 locs1 hw ⟨hP, hD, hS⟩
theorem q_callVvT (X : qX p s m args c cc nL own) (hK : qK D cy s) (hT : qT cy A s) (hA : ∀ q, s.heap.size ≤ q → A q) (h : qW D A s.heap (ws ++ pl) H locs) {y : MethodName} {b : ByteArray} {n idx : Nat} {rm : Room} {As : List Value} {a : Nat} {post : SS → Prop} {wc wr : va_W} {wq : SS → va_W} (hM : ∀ sz : Nat, MV l y b n rm (.ref a :: As) D cy wc sz post wq rm.cells rm.slots) (m1 : Cond.methodLink own idx y ∈ WG) (m2 : Cond.code y b n (none) ∈ WG) (m3 : Cond.initialized y.cls ∈ WG) (hd : y.cls ≠ "java/lang/invoke/MethodHandle" ∧ y.cls ≠ "java/lang/invoke/VarHandle" ∧ (parseMethodDescriptor y.desc).map (fun d => d.parameters.length) = some As.length) {C : String} {T : u_T} {N ci q0 : Nat} {fs : List Value} (m4 : Cond.instanceMethod y ∈ WG) (m5 : Cond.selects C y y ∈ WG) (hc : vwCl[ci]? = some (C, T, N)) (he : wc[q0]? = some (a, .inr (ci, fs))) (hR : rm.frames + 1 ≤ R.frames ∧ 8 + (n + 11) + rm.locals ≤ R.locals) (hls : ls.size = nL) {st0 : List Value} (hst : st0 = As.reverse ++ .ref a :: rest) (hr8 : (rest.map fun v => v.category).sum ≤ 8) (hdg : decode cc pc = .ok (.invokevirtual idx, 3)) (hf : cells + rm.cells ≤ R.cells ∧ slots + rm.slots ≤ R.slots) (isC isR : List Nat) (hnC : va_nd isC = true) (hnR : va_nd isR = true) (hdis : ∀ i ∈ isR, i ∉ isC) (hC : isC.map (fun i => ws[i]?) = wc.map some) (hRr : isR.map (fun i => ws[i]?) = wr.map some) (kk : ∀ (u : SS) (H1 : Heap) (locs1 : List Loc), post u → qW D A s.heap ((wr ++ wq u) ++ pl) H1 locs1 → W p l e R s m args below meth c H1 locs1 (cells + rm.cells) (slots + rm.slots) Q (F0 m (pc + 3) ls (rest))) : W p l e R s m args below meth c H locs cells slots Q (F0 m pc ls st0) := by
  subst hst
  have hC' := q_apx (pl := pl) isC wc hC
  obtain ⟨h1, h2⟩ := q_sub h isC hnC hC'
  have hFc := va_free (wc := wc) h.2.1 h.2.2 hA isC hC'
  refine va_callv (va_runV X (hM H.size) ⟨q_callB X m1 m2 m3 hd rfl rfl hR, X.2.2.2.2 _ m4, X.2.2.2.2 _ m5⟩ ⟨q_blind, va_recv hK.1 h1 hc he, fun U hU hW => ⟨rfl, by rw [hU], by rw [hU]; exact h1, hK.warm hW, h2.weaken (fun _ _ _ _ => trivial), hT.call h.2.2 hFc hU hW⟩⟩ rfl rfl hls rfl (lv_room hr8) hdg hf) h.2.2 (fun q _ hh => hFc q hh) hFc (fun u t H1 locs1 ht hvm hw hB hz1 hk1 hS => ?_)
  obtain ⟨hP1, hD1⟩ := hB
  rw [ht] at hP1
  obtain ⟨hP, hD⟩ := va_joinQ (wr := wr) h.1 h.2.1 isC isR hC hRr hnR hdis hk1 hFc hP1 hD1
  exact kk u H1 locs1 hw ⟨hP, hD, hS⟩
theorem q_callViW (X : qX p s m args c cc nL own) (hK : qK D cy s) (hT : qT cy A s) (hA : ∀ q, s.heap.size ≤ q → A q) (h : qW D A s.heap (ws ++ pl) H locs) {y : MethodName} {b : ByteArray} {n idx : Nat} {rm : Room} {As : List Value} {a : Nat} {ret : FieldType} {post : Int32 → S3 → Prop} {wc wr : va_W} {wq : S3 → va_W} (hM : ∀ sz : Nat, MIw l y b n ret rm (.ref a :: As) D cy wc sz post wq rm.cells rm.slots) (m1 : Cond.methodLink own idx y ∈ WG) (m2 : Cond.code y b n (some ret) ∈ WG) (m3 : Cond.initialized y.cls ∈ WG) (hd : y.cls ≠ "java/lang/invoke/MethodHandle" ∧ y.cls ≠ "java/lang/invoke/VarHandle" ∧ (parseMethodDescriptor y.desc).map (fun d => d.parameters.length) = some As.length) {C : String} {T : u_T} {N ci q0 : Nat} {fs : List Value} (m4 : Cond.instanceMethod y ∈ WG) (m5 : Cond.selects C y y ∈ WG) (hc : vwCl[ci]? = some (C, T, N)) (he : wc[q0]? = some (a, .inr (ci, fs))) (hR : rm.frames + 1 ≤ R.frames ∧ 8 + (n + 11) + rm.locals ≤ R.locals) (hls : ls.size = nL) {st0 : List Value} (hst : st0 = As.reverse ++ .ref a :: rest) (hr8 : (rest.map fun v => v.category).sum ≤ 8) (hdg : decode cc pc = .ok (.invokevirtual idx, 3)) (hf : cells + rm.cells ≤ R.cells ∧ slots + rm.slots ≤ R.slots) (isC isR : List Nat) (hnC : va_nd isC = true) (hnR : va_nd isR = true) (hdis : ∀ i ∈ isR, i ∉ isC) (hC : isC.map (fun i => ws[i]?) = wc.map some) (hRr : isR.map (fun i => ws[i]?) = wr.map some) (kk : ∀ (r : Int32) (u : S3) (H1 : Heap) (locs1 : List Loc), post r u → qW D A s.heap ((wr ++ wq u) ++ (u.2.1 ++ pl)) H1 locs1 → W p l e R s m args below meth c H1 locs1 (cells + rm.cells) (slots + rm.slots) Q (F0 m (pc + 3) ls (.int r :: rest))) : W p l e R s m args below meth c H locs cells slots Q (F0 m pc ls st0) := by
  subst hst
  have hC' := q_apx (pl := pl) isC wc hC
  obtain ⟨h1, h2⟩ := q_sub h isC hnC hC'
  have hFc := va_free (wc := wc) h.2.1 h.2.2 hA isC hC'
  refine va_calli (va_runV X (hM H.size) ⟨q_callB X m1 m2 m3 hd rfl rfl hR, X.2.2.2.2 _ m4, X.2.2.2.2 _ m5⟩ ⟨q_blind, va_recv hK.1 h1 hc he, fun U hU hW => ⟨rfl, by rw [hU], by rw [hU]; exact h1, hK.warm hW, h2.weaken (fun _ _ _ _ => trivial), hT.call h.2.2 hFc hU hW⟩⟩ rfl rfl hls rfl (lv_room hr8) hdg hf) h.2.2 (fun q _ hh => hFc q hh) hFc (fun r u t H1 locs1 ht hvm hw hB hz1 hk1 hS => ?_)
  obtain ⟨hP1, hD1⟩ := hB
  rw [ht] at hP1
  obtain ⟨hP, hD⟩ := va_joinQ (wr := wr) h.1 h.2.1 isC isR hC hRr hnR hdis hk1 hFc hP1 hD1
  have e1 : (wr ++ (wq u ++ u.2.1)) ++ pl = (wr ++ wq u) ++ (u.2.1 ++ pl) := by simp only [List.append_assoc]
  rw [e1] at hP hD
  exact kk r u H1 locs1 hw ⟨hP, hD, hS⟩
theorem q_callVvW (X : qX p s m args c cc nL own) (hK : qK D cy s) (hT : qT cy A s) (hA : ∀ q, s.heap.size ≤ q → A q) (h : qW D A s.heap (ws ++ pl) H locs) {y : MethodName} {b : ByteArray} {n idx : Nat} {rm : Room} {As : List Value} {a : Nat} {post : S3 → Prop} {wc wr : va_W} {wq : S3 → va_W} (hM : ∀ sz : Nat, MVw l y b n rm (.ref a :: As) D cy wc sz post wq rm.cells rm.slots) (m1 : Cond.methodLink own idx y ∈ WG) (m2 : Cond.code y b n (none) ∈ WG) (m3 : Cond.initialized y.cls ∈ WG) (hd : y.cls ≠ "java/lang/invoke/MethodHandle" ∧ y.cls ≠ "java/lang/invoke/VarHandle" ∧ (parseMethodDescriptor y.desc).map (fun d => d.parameters.length) = some As.length) {C : String} {T : u_T} {N ci q0 : Nat} {fs : List Value} (m4 : Cond.instanceMethod y ∈ WG) (m5 : Cond.selects C y y ∈ WG) (hc : vwCl[ci]? = some (C, T, N)) (he : wc[q0]? = some (a, .inr (ci, fs))) (hR : rm.frames + 1 ≤ R.frames ∧ 8 + (n + 11) + rm.locals ≤ R.locals) (hls : ls.size = nL) {st0 : List Value} (hst : st0 = As.reverse ++ .ref a :: rest) (hr8 : (rest.map fun v => v.category).sum ≤ 8) (hdg : decode cc pc = .ok (.invokevirtual idx, 3)) (hf : cells + rm.cells ≤ R.cells ∧ slots + rm.slots ≤ R.slots) (isC isR : List Nat) (hnC : va_nd isC = true) (hnR : va_nd isR = true) (hdis : ∀ i ∈ isR, i ∉ isC) (hC : isC.map (fun i => ws[i]?) = wc.map some) (hRr : isR.map (fun i => ws[i]?) = wr.map some) (kk : ∀ (u : S3) (H1 : Heap) (locs1 : List Loc), post u → qW D A s.heap ((wr ++ wq u) ++ (u.2.1 ++ pl)) H1 locs1 → W p l e R s m args below meth c H1 locs1 (cells + rm.cells) (slots + rm.slots) Q (F0 m (pc + 3) ls (rest))) : W p l e R s m args below meth c H locs cells slots Q (F0 m pc ls st0) := by
  subst hst
  have hC' := q_apx (pl := pl) isC wc hC
  obtain ⟨h1, h2⟩ := q_sub h isC hnC hC'
  have hFc := va_free (wc := wc) h.2.1 h.2.2 hA isC hC'
  refine va_callv (va_runV X (hM H.size) ⟨q_callB X m1 m2 m3 hd rfl rfl hR, X.2.2.2.2 _ m4, X.2.2.2.2 _ m5⟩ ⟨q_blind, va_recv hK.1 h1 hc he, fun U hU hW => ⟨rfl, by rw [hU], by rw [hU]; exact h1, hK.warm hW, h2.weaken (fun _ _ _ _ => trivial), hT.call h.2.2 hFc hU hW⟩⟩ rfl rfl hls rfl (lv_room hr8) hdg hf) h.2.2 (fun q _ hh => hFc q hh) hFc (fun u t H1 locs1 ht hvm hw hB hz1 hk1 hS => ?_)
  obtain ⟨hP1, hD1⟩ := hB
  rw [ht] at hP1
  obtain ⟨hP, hD⟩ := va_joinQ (wr := wr) h.1 h.2.1 isC isR hC hRr hnR hdis hk1 hFc hP1 hD1
  have e1 : (wr ++ (wq u ++ u.2.1)) ++ pl = (wr ++ wq u) ++ (u.2.1 ++ pl) := by simp only [List.append_assoc]
  rw [e1] at hP hD
  exact kk u H1 locs1 hw ⟨hP, hD, hS⟩
theorem q_callVqW (X : qX p s m args c cc nL own) (hK : qK D cy s) (hT : qT cy A s) (hA : ∀ q, s.heap.size ≤ q → A q) (h : qW D A s.heap (ws ++ pl) H locs) {y : MethodName} {b : ByteArray} {n idx : Nat} {rm : Room} {As : List Value} {a : Nat} {C2 : String} {post : Option Nat → S3 → Prop} {wc wr : va_W} {wq : S3 → va_W} (hM : ∀ sz : Nat, MQw l y b n C2 rm (.ref a :: As) D cy wc sz post wq rm.cells rm.slots) (m1 : Cond.methodLink own idx y ∈ WG) (m2 : Cond.code y b n (some (.object C2)) ∈ WG) (m3 : Cond.initialized y.cls ∈ WG) (hd : y.cls ≠ "java/lang/invoke/MethodHandle" ∧ y.cls ≠ "java/lang/invoke/VarHandle" ∧ (parseMethodDescriptor y.desc).map (fun d => d.parameters.length) = some As.length) {C : String} {T : u_T} {N ci q0 : Nat} {fs : List Value} (m4 : Cond.instanceMethod y ∈ WG) (m5 : Cond.selects C y y ∈ WG) (hc : vwCl[ci]? = some (C, T, N)) (he : wc[q0]? = some (a, .inr (ci, fs))) (hR : rm.frames + 1 ≤ R.frames ∧ 8 + (n + 11) + rm.locals ≤ R.locals) (hls : ls.size = nL) {st0 : List Value} (hst : st0 = As.reverse ++ .ref a :: rest) (hr8 : (rest.map fun v => v.category).sum ≤ 8) (hdg : decode cc pc = .ok (.invokevirtual idx, 3)) (hf : cells + rm.cells ≤ R.cells ∧ slots + rm.slots ≤ R.slots) (isC isR : List Nat) (hnC : va_nd isC = true) (hnR : va_nd isR = true) (hdis : ∀ i ∈ isR, i ∉ isC) (hC : isC.map (fun i => ws[i]?) = wc.map some) (hRr : isR.map (fun i => ws[i]?) = wr.map some) (kk : ∀ (r : Option Nat) (u : S3) (H1 : Heap) (locs1 : List Loc), post r u → qW D A s.heap ((wr ++ wq u) ++ (u.2.1 ++ pl)) H1 locs1 → W p l e R s m args below meth c H1 locs1 (cells + rm.cells) (slots + rm.slots) Q (F0 m (pc + 3) ls (va_rf r :: rest))) : W p l e R s m args below meth c H locs cells slots Q (F0 m pc ls st0) := by
  subst hst
  have hC' := q_apx (pl := pl) isC wc hC
  obtain ⟨h1, h2⟩ := q_sub h isC hnC hC'
  have hFc := va_free (wc := wc) h.2.1 h.2.2 hA isC hC'
  refine va_callq (va_runV X (hM H.size) ⟨q_callB X m1 m2 m3 hd rfl rfl hR, X.2.2.2.2 _ m4, X.2.2.2.2 _ m5⟩ ⟨q_blind, va_recv hK.1 h1 hc he, fun U hU hW => ⟨rfl, by rw [hU], by rw [hU]; exact h1, hK.warm hW, h2.weaken (fun _ _ _ _ => trivial), hT.call h.2.2 hFc hU hW⟩⟩ rfl rfl hls rfl (lv_room hr8) hdg hf) h.2.2 (fun q _ hh => hFc q hh) hFc (fun r u t H1 locs1 ht hvm hw hB hz1 hk1 hS => ?_)
  obtain ⟨hP1, hD1⟩ := hB
  rw [ht] at hP1
  obtain ⟨hP, hD⟩ := va_joinQ (wr := wr) h.1 h.2.1 isC isR hC hRr hnR hdis hk1 hFc hP1 hD1
  have e1 : (wr ++ (wq u ++ u.2.1)) ++ pl = (wr ++ wq u) ++ (u.2.1 ++ pl) := by simp only [List.append_assoc]
  rw [e1] at hP hD
  exact kk r u H1 locs1 hw ⟨hP, hD, hS⟩
theorem q_callSr (X : qX p s m args c cc nL own) (hK : qK D cy s) (hT : qT cy A s) (hA : ∀ q, s.heap.size ≤ q → A q) (h : qW D A s.heap ws H locs) {y : MethodName} {b : ByteArray} {n idx : Nat} {rm : Room} {As : List Value} {post : SS → Prop} {wc wr : va_W} {wq : SS → va_W} (hM : ∀ sz : Nat, MAr l y b n rm As D cy wc sz post wq rm.cells rm.slots) (m1 : Cond.methodLink own idx y ∈ WG) (m2 : Cond.code y b n (some (.array .int)) ∈ WG) (m3 : Cond.initialized y.cls ∈ WG) (hd : y.cls ≠ "java/lang/invoke/MethodHandle" ∧ y.cls ≠ "java/lang/invoke/VarHandle" ∧ (parseMethodDescriptor y.desc).map (fun d => d.parameters.length) = some As.length) (m4 : Cond.static y ∈ WG) (hR : rm.frames + 1 ≤ R.frames ∧ 8 + (n + 11) + rm.locals ≤ R.locals) (hls : ls.size = nL) {st0 : List Value} (hst : st0 = As.reverse ++ rest) (hr8 : (rest.map fun v => v.category).sum ≤ 8) (hdg : decode cc pc = .ok (.invokestatic idx, 3)) (hf : cells + rm.cells ≤ R.cells ∧ slots + rm.slots ≤ R.slots) (isC isR : List Nat) (hnC : va_nd isC = true) (hnR : va_nd isR = true) (hdis : ∀ i ∈ isR, i ∉ isC) (hC : isC.map (fun i => ws[i]?) = wc.map some) (hRr : isR.map (fun i => ws[i]?) = wr.map some) (kk : ∀ (u : SS) (H1 : Heap) (locs1 : List Loc), post u → qW D A s.heap (wr ++ wq u) H1 locs1 → W p l e R s m args below meth c H1 locs1 (cells + rm.cells) (slots + rm.slots) Q (F0 m (pc + 3) ls (.ref (u.1 0) :: rest))) : W p l e R s m args below meth c H locs cells slots Q (F0 m pc ls st0) := by
  subst hst
  obtain ⟨h1, h2⟩ := q_sub h isC hnC hC
  have hFc := va_free (wc := wc) h.2.1 h.2.2 hA isC hC
  refine va_callr (va_runS X (hM H.size) ⟨q_callB X m1 m2 m3 hd rfl rfl hR, X.2.2.2.2 _ m4⟩ ⟨q_blind, fun U hU hW => ⟨rfl, by rw [hU], by rw [hU]; exact h1, hK.warm hW, h2.weaken (fun _ _ _ _ => trivial), hT.call h.2.2 hFc hU hW⟩⟩ rfl rfl hls rfl (lv_room hr8) hdg hf) h.2.2 (fun q _ hh => hFc q hh) hFc (fun u ra t H1 locs1 ht hvm hw hB hz1 hk1 hS => ?_)
  obtain ⟨hra, hP1, hD1⟩ := hB
  subst hra
  rw [ht] at hP1
  obtain ⟨hP, hD⟩ := va_join (wr := wr) h.1 h.2.1 isC isR hC hRr hnR hdis hk1 hFc hP1 hD1
  exact kk u H1 locs1 hw ⟨hP, hD, hS⟩
end QT
/-! laws and houses among cells that nobody names -/
/-- a law, as it is made: v points to it, tl are its two cells -/
def LwN (cy : Nat → ClassId) (tl : va_W) (v : Value) : Prop := ∃ (a b n : Nat) (f : Nat → Int32), v = .ref a ∧ n ≤ 900 ∧ tl = [(a, .inr (4, [.ref b])), (b, .inl (cy 1, n, .inl f))]
def LR (cy : Nat → ClassId) (tl : va_W) (old v : Value) : Prop := (tl = [] ∧ v = old) ∨ LwN cy tl v
def LawS (cy : Nat → ClassId) (tl : va_W) (a b c a' b' c' : Value) : Prop := (tl = [] ∧ a' = a ∧ b' = b ∧ c' = c) ∨ (LwN cy tl a' ∧ b' = b ∧ c' = c) ∨ (LwN cy tl b' ∧ a' = a ∧ c' = c) ∨ (LwN cy tl c' ∧ a' = a ∧ b' = b)
theorem ls_0 {cy : Nat → ClassId} {a b c : Value} : LawS cy [] a b c a b c := Or.inl ⟨rfl, rfl, rfl, rfl⟩
theorem ls_4 {cy : Nat → ClassId} {tl : va_W} {a b c v : Value} (h : LR cy tl a v) : LawS cy tl a b c v b c := by
  rcases h with ⟨h1, h2⟩ | h
  · exact Or.inl ⟨h1, h2, rfl, rfl⟩
  · exact Or.inr (Or.inl ⟨h, rfl, rfl⟩)
theorem ls_5 {cy : Nat → ClassId} {tl : va_W} {a b c v : Value} (h : LR cy tl b v) : LawS cy tl a b c a v c := by
  rcases h with ⟨h1, h2⟩ | h
  · exact Or.inl ⟨h1, rfl, h2, rfl⟩
  · exact Or.inr (Or.inr (Or.inl ⟨h, rfl, rfl⟩))
theorem ls_6 {cy : Nat → ClassId} {tl : va_W} {a b c v : Value} (h : LR cy tl c v) : LawS cy tl a b c a b v := by
  rcases h with ⟨h1, h2⟩ | h
  · exact Or.inl ⟨h1, rfl, rfl, h2⟩
  · exact Or.inr (Or.inr (Or.inr ⟨h, rfl, rfl⟩))
def LawL (cy : Nat → ClassId) (v : Value) (L : va_W) : Prop := (v = .null ∧ L = []) ∨ LwN cy L v
abbrev adr (L : va_W) : List Nat := L.map Prod.fst
def LI (cy : Nat → ClassId) (pl : va_W) (a b c : Value) : Prop := ∃ L4 L5 L6 : va_W, LawL cy a L4 ∧ LawL cy b L5 ∧ LawL cy c L6 ∧ (∀ q ∈ L4 ++ L5 ++ L6, q ∈ pl) ∧ (adr (L4 ++ L5 ++ L6)).Nodup
theorem li_0 {cy : Nat → ClassId} {pl : va_W} : LI cy pl .null .null .null := ⟨[], [], [], Or.inl ⟨rfl, rfl⟩, Or.inl ⟨rfl, rfl⟩, Or.inl ⟨rfl, rfl⟩, (fun q hq => by cases hq), List.nodup_nil⟩
theorem ad_nodup {A : Nat → Prop} : ∀ {P : va_W}, va_D A P → (adr P).Nodup := by
  intro P
  induction P with
  | nil => intro _; exact List.nodup_nil
  | cons q P ih =>
    intro h
    show (q.1 :: adr P).Nodup
    rw [List.nodup_cons]
    refine ⟨fun hm => ?_, ih ⟨fun i j x y hx hy e => ?_, fun k x hx => h.2 (k + 1) x (by rw [List.getElem?_cons_succ]; exact hx)⟩⟩
    · obtain ⟨x, hx, e⟩ := List.mem_map.mp hm
      obtain ⟨k, hk⟩ := List.getElem?_of_mem hx
      have := h.1 0 (k + 1) q x rfl (by rw [List.getElem?_cons_succ]; exact hk) e.symm
      omega
    · have := h.1 (i + 1) (j + 1) x y (by rw [List.getElem?_cons_succ]; exact hx) (by rw [List.getElem?_cons_succ]; exact hy) e
      omega
theorem vd_right {A : Nat → Prop} {X P : va_W} (h : va_D A (X ++ P)) : va_D A P := ⟨fun i j x y hx hy e => by
  have := h.1 (X.length + i) (X.length + j) x y (by rw [List.getElem?_append_right (by omega), Nat.add_sub_cancel_left]; exact hx) (by rw [List.getElem?_append_right (by omega), Nat.add_sub_cancel_left]; exact hy) e
  omega, fun k x hx => h.2 (X.length + k) x (by rw [List.getElem?_append_right (by omega), Nat.add_sub_cancel_left]; exact hx)⟩
theorem nd_app {P T L : va_W} (h : (adr (T ++ P)).Nodup) (hL : ∀ q ∈ L, q ∈ P) (hn : (adr L).Nodup) : (adr (T ++ L)).Nodup := by
  unfold adr at *
  rw [List.map_append] at h ⊢
  rw [List.nodup_append] at h ⊢
  refine ⟨h.1, hn, fun a ha b hb => h.2.2 a ha b ?_⟩
  obtain ⟨x, hx, e⟩ := List.mem_map.mp hb
  exact List.mem_map.mpr ⟨x, hL x hx, e⟩
theorem nd_perm {L M : va_W} (h : L.Perm M) (hn : (adr L).Nodup) : (adr M).Nodup := (h.map Prod.fst).nodup_iff.mp hn
theorem li_step {cy : Nat → ClassId} {tl pl X : va_W} {A : Nat → Prop} {a b c a' b' c' : Value} (h : LI cy pl a b c) (hs : LawS cy tl a b c a' b' c') (hD : va_D A (X ++ (tl ++ pl))) : LI cy (tl ++ pl) a' b' c' := by
  obtain ⟨L4, L5, L6, h4, h5, h6, hm, hn⟩ := h
  have hN := ad_nodup (vd_right hD)
  have up : ∀ q, q ∈ L4 ++ L5 ++ L6 → q ∈ tl ++ pl := fun q hq => List.mem_append.mpr (Or.inr (hm q hq))
  rcases hs with ⟨rfl, rfl, rfl, rfl⟩ | ⟨hl, rfl, rfl⟩ | ⟨hl, rfl, rfl⟩ | ⟨hl, rfl, rfl⟩
  · exact ⟨L4, L5, L6, h4, h5, h6, up, hn⟩
  · refine ⟨tl, L5, L6, Or.inr hl, h5, h6, fun q hq => ?_, ?_⟩
    · rw [List.append_assoc] at hq
      rcases List.mem_append.mp hq with hq | hq
      · exact List.mem_append.mpr (Or.inl hq)
      · exact up q (by rw [List.append_assoc]; exact List.mem_append.mpr (Or.inr hq))
    · rw [List.append_assoc]
      refine nd_app hN (fun q hq => hm q (by rw [List.append_assoc]; exact List.mem_append.mpr (Or.inr hq))) ?_
      unfold adr at hn ⊢
      rw [List.append_assoc, List.map_append, List.nodup_append] at hn
      exact hn.2.1
  · have hn' : (adr (L4 ++ L6)).Nodup := by
      have p : (L4 ++ L5 ++ L6).Perm (L5 ++ (L4 ++ L6)) := by
        rw [← List.append_assoc]; exact (List.perm_append_comm).append_right _
      have := nd_perm p hn
      unfold adr at this ⊢
      rw [List.map_append, List.nodup_append] at this
      exact this.2.1
    refine ⟨L4, tl, L6, h4, Or.inr hl, h6, fun q hq => ?_, ?_⟩
    · rcases List.mem_append.mp hq with hq | hq
      · rcases List.mem_append.mp hq with hq | hq
        · exact up q (List.mem_append.mpr (Or.inl (List.mem_append.mpr (Or.inl hq))))
        · exact List.mem_append.mpr (Or.inl hq)
      · exact up q (List.mem_append.mpr (Or.inr hq))
    · have p : (tl ++ (L4 ++ L6)).Perm (L4 ++ tl ++ L6) := by
        rw [← List.append_assoc]; exact (List.perm_append_comm).append_right _
      refine nd_perm p (nd_app hN (fun q hq => hm q ?_) hn')
      rcases List.mem_append.mp hq with hq | hq
      · exact List.mem_append.mpr (Or.inl (List.mem_append.mpr (Or.inl hq)))
      · exact List.mem_append.mpr (Or.inr hq)
  · have hn' : (adr (L4 ++ L5)).Nodup := by
      unfold adr at hn ⊢
      rw [List.map_append (l₁ := L4 ++ L5), List.nodup_append] at hn
      exact hn.1
    refine ⟨L4, L5, tl, h4, h5, Or.inr hl, fun q hq => ?_, ?_⟩
    · rcases List.mem_append.mp hq with hq | hq
      · exact up q (List.mem_append.mpr (Or.inl hq))
      · exact List.mem_append.mpr (Or.inl hq)
    · have p : (tl ++ (L4 ++ L5)).Perm (L4 ++ L5 ++ tl) := List.perm_append_comm
      exact nd_perm p (nd_app hN (fun q hq => hm q (List.mem_append.mpr (Or.inl hq))) hn')
/-- the cells of a house -/
abbrev hcl (cy : Nat → ClassId) (a : Nat) (nl np nt ns : Int32) (w4 w5 w6 : Value) (v f l t w : Nat) (fv ff fl ft fw : Nat → Int32) : va_W := [(a, .inr (3, [.int nl, .int np, .int nt, .int ns, w4, w5, w6, .ref v, .ref f, .ref l, .ref t, .ref w])), (v, .inl (cy 1, 10, .inl fv)), (f, .inl (cy 1, 10, .inl ff)), (l, .inl (cy 1, 10, .inl fl)), (t, .inl (cy 1, 10, .inl ft)), (w, .inl (cy 1, 10, .inl fw))]
def HouseIn (cy : Nat → ClassId) (P : va_W) (a : Nat) : Prop := ∃ (nl np nt ns : Int32) (w4 w5 w6 : Value) (v f l t w : Nat) (fv ff fl ft fw : Nat → Int32) (L4 L5 L6 : va_W), (1 ≤ nl.toInt ∧ nl.toInt ≤ 3) ∧ (0 ≤ np.toInt ∧ np.toInt ≤ 10) ∧ RG fv 10 0 999 ∧ LawL cy w4 L4 ∧ LawL cy w5 L5 ∧ LawL cy w6 L6 ∧ (∀ q ∈ hcl cy a nl np nt ns w4 w5 w6 v f l t w fv ff fl ft fw ++ (L4 ++ L5 ++ L6), q ∈ P) ∧ (adr (hcl cy a nl np nt ns w4 w5 w6 v f l t w fv ff fl ft fw ++ (L4 ++ L5 ++ L6))).Nodup
theorem house_mono {cy : Nat → ClassId} {P P' : va_W} {a : Nat} (h : HouseIn cy P a) (hp : ∀ q ∈ P, q ∈ P') : HouseIn cy P' a := by
  obtain ⟨nl, np, nt, ns, w4, w5, w6, v, f, l, t, w, fv, ff, fl, ft, fw, L4, L5, L6, h1, h2, h3, h4, h5, h6, h7, h8⟩ := h
  exact ⟨nl, np, nt, ns, w4, w5, w6, v, f, l, t, w, fv, ff, fl, ft, fw, L4, L5, L6, h1, h2, h3, h4, h5, h6, fun q hq => hp q (h7 q hq), h8⟩
theorem house_mk {cy : Nat → ClassId} {X pl : va_W} {A : Nat → Prop} {a : Nat} {nl np nt ns : Int32} {w4 w5 w6 : Value} {v f l t w : Nat} {fv ff fl ft fw : Nat → Int32} (h1 : 1 ≤ nl.toInt ∧ nl.toInt ≤ 3) (h2 : 0 ≤ np.toInt ∧ np.toInt ≤ 10) (h3 : RG fv 10 0 999) (h : LI cy pl w4 w5 w6) (hD : va_D A (X ++ (hcl cy a nl np nt ns w4 w5 w6 v f l t w fv ff fl ft fw ++ pl))) : HouseIn cy (hcl cy a nl np nt ns w4 w5 w6 v f l t w fv ff fl ft fw ++ pl) a := by
  obtain ⟨L4, L5, L6, h4, h5, h6, hm, hn⟩ := h
  refine ⟨nl, np, nt, ns, w4, w5, w6, v, f, l, t, w, fv, ff, fl, ft, fw, L4, L5, L6, h1, h2, h3, h4, h5, h6, fun q hq => ?_, nd_app (ad_nodup (vd_right hD)) hm hn⟩
  rcases List.mem_append.mp hq with hq | hq
  · exact List.mem_append.mpr (Or.inl hq)
  · exact List.mem_append.mpr (Or.inr (hm q hq))
/-- cells that are there can be put first -/
theorem pickW : ∀ (N P : va_W), (∀ q ∈ N, q ∈ P) → (adr N).Nodup → ∃ r, P.Perm (N ++ r) := by
  intro N
  induction N with
  | nil => intro P _ _; exact ⟨P, List.Perm.refl _⟩
  | cons q N ih =>
    intro P hm hn
    obtain ⟨s, t, e⟩ := List.append_of_mem (hm q (List.mem_cons_self))
    have hn2 : ¬ q.1 ∈ adr N ∧ (adr N).Nodup := List.nodup_cons.mp hn
    have hp : P.Perm (q :: (s ++ t)) := by rw [e]; exact List.perm_middle
    obtain ⟨r, hr⟩ := ih (s ++ t) (fun x hx => by
      have h1 : x ∈ q :: (s ++ t) := hp.mem_iff.mp (hm x (List.mem_cons_of_mem _ hx))
      rcases List.mem_cons.mp h1 with h1 | h1
      · exact absurd (List.mem_map.mpr ⟨x, hx, by rw [h1]⟩) hn2.1
      · exact h1) hn2.2
    exact ⟨r, hp.trans (hr.cons q)⟩
theorem vp_mem {D : va_G} {cl : List vw_C} {ws : va_W} {H : Heap} : va_P D cl ws H ↔ ∀ q ∈ ws, va_at D cl q H := by
  constructor
  · intro h q hq
    obtain ⟨k, hk⟩ := List.getElem?_of_mem hq
    exact h k q hk
  · intro h k q hk
    exact h q (List.mem_of_getElem? hk)
theorem nodup_D {A : Nat → Prop} : ∀ {P : va_W}, (adr P).Nodup → (∀ q ∈ P, A q.1) → va_D A P := by
  intro P
  induction P with
  | nil => intro _ _; exact ⟨fun i j x y hx => (by simp at hx), fun k q hk => (by simp at hk)⟩
  | cons q P ih =>
    intro hn ha
    have hn2 : ¬ q.1 ∈ adr P ∧ (adr P).Nodup := List.nodup_cons.mp hn
    have h := ih hn2.2 (fun x hx => ha x (List.mem_cons_of_mem _ hx))
    refine ⟨fun i j x y hx hy e => ?_, fun k x hx => ha x (List.mem_of_getElem? hx)⟩
    cases i with
    | zero =>
      cases j with
      | zero => rfl
      | succ j =>
        rw [List.getElem?_cons_succ] at hy
        have hx' : q = x := Option.some.inj hx
        exact absurd (List.mem_map.mpr ⟨y, List.mem_of_getElem? hy, by rw [← e, hx']⟩) hn2.1
    | succ i =>
      rw [List.getElem?_cons_succ] at hx
      cases j with
      | zero =>
        have hy' : q = y := Option.some.inj hy
        exact absurd (List.mem_map.mpr ⟨x, List.mem_of_getElem? hx, by rw [e, hy']⟩) hn2.1
      | succ j =>
        rw [List.getElem?_cons_succ] at hy
        rw [h.1 i j x y hx hy e]
theorem q_perm {D : va_G} {A : Nat → Prop} {H0 H : Heap} {locs : List Loc} {X P P' : va_W} (h : qW D A H0 (X ++ P) H locs) (hp : P.Perm P') : qW D A H0 (X ++ P') H locs := by
  have hpp : (X ++ P).Perm (X ++ P') := hp.append_left X
  refine ⟨vp_mem.mpr (fun q hq => vp_mem.mp h.1 q (hpp.mem_iff.mpr hq)), nodup_D (nd_perm hpp (ad_nodup h.2.1)) (fun q hq => ?_), h.2.2⟩
  obtain ⟨k, hk⟩ := List.getElem?_of_mem (hpp.mem_iff.mpr hq)
  exact h.2.1.2 k q hk
theorem i_nn {x : Int32} (h : 0 ≤ x.toInt) : ¬ x < 0 := fun q => by
  have h1 := Int32.lt_iff_toInt_lt.mp q
  have h2 : (0 : Int32).toInt = 0 := by decide
  omega
theorem i_c900 {x : Int32} (h0 : 0 ≤ x.toInt) (h1 : x.toInt ≤ 900) : x.toNatClampNeg ≤ 900 := by
  show x.toInt.toNat ≤ 900
  omega
theorem i_sl {x : Int32} (h0 : 0 ≤ x.toInt) (h1 : x.toInt ≤ 900) : 0 + x.toNatClampNeg ≤ 900 := by
  rw [Nat.zero_add]; exact i_c900 h0 h1
theorem i_bts {x : Int32} (h0 : 0 ≤ x.toInt) (h1 : x.toInt ≤ 900) : x.toNatClampNeg * componentBytes .int ≤ 536870912 := by
  have h2 := i_c900 h0 h1
  have h3 : componentBytes .int = 4 := by decide
  rw [h3]; omega
theorem i_cp0 {n : Int32} {k : Nat} (h0 : 0 ≤ n.toInt) (h1 : n.toInt ≤ k) : (0 : Int32).toNatClampNeg + n.toNatClampNeg ≤ k := by
  have h2 : (0 : Int32).toNatClampNeg = 0 := by decide
  rw [h2, Nat.zero_add]
  show n.toInt.toNat ≤ k
  omega
theorem i_cp1 {n p : Int32} (h0 : 0 ≤ n.toInt) (h1 : n.toInt ≤ p.toInt) : (0 : Int32).toNatClampNeg + n.toNatClampNeg ≤ p.toNatClampNeg := by
  have h2 : (0 : Int32).toNatClampNeg = 0 := by decide
  rw [h2, Nat.zero_add]
  show n.toInt.toNat ≤ p.toInt.toNat
  omega
theorem mem_re {ws ws' : va_W} (is : List Nat) (hs : is.map (fun i => ws[i]?) = ws'.map some) : ∀ q ∈ ws', q ∈ ws := by
  intro q hq
  have h1 : some q ∈ ws'.map some := List.mem_map_of_mem hq
  rw [← hs] at h1
  obtain ⟨i, _, hi⟩ := List.mem_map.mp h1
  exact List.mem_of_getElem? hi
theorem house_re {cy : Nat → ClassId} {X Y pl : va_W} {A : Nat → Prop} {a : Nat} {nl np nt ns : Int32} {w4 w5 w6 : Value} {v f l t w : Nat} {fv ff fl ft fw : Nat → Int32} (h1 : 1 ≤ nl.toInt ∧ nl.toInt ≤ 3) (h2 : 0 ≤ np.toInt ∧ np.toInt ≤ 10) (h3 : RG fv 10 0 999) (h : LI cy pl w4 w5 w6) (hD : va_D A (X ++ (hcl cy a nl np nt ns w4 w5 w6 v f l t w fv ff fl ft fw ++ (pl ++ [])))) (is : List Nat) (hs : is.map (fun i => Y[i]?) = (hcl cy a nl np nt ns w4 w5 w6 v f l t w fv ff fl ft fw).map some) : HouseIn cy (Y ++ (pl ++ [])) a := by
  have e : pl ++ [] = pl := List.append_nil pl
  rw [e] at hD ⊢
  refine house_mono (house_mk h1 h2 h3 h hD) (fun q hq => ?_)
  rcases List.mem_append.mp hq with h | h
  · exact List.mem_append_left _ (mem_re is hs q h)
  · exact List.mem_append_right _ h
def NH (cy : Nat → ClassId) (tl : va_W) (old new : Nat) : Prop := new = old ∨ HouseIn cy tl new
theorem shl01 : ∀ i : Fin 2, ∀ j : Fin 10, 0 ≤ ((nI i.val) <<< (nI j.val &&& 31)).toInt ∧ ((nI i.val) <<< (nI j.val &&& 31)).toInt ≤ 512 := by decide +kernel
theorem e_shl01 {x p : Int32} {a b : Int} (hx : x.toInt = a) (hp : p.toInt = b) (h0 : 0 ≤ a) (h1 : a ≤ 1) (h2 : 0 ≤ b) (h3 : b ≤ 9) : ∃ z : Int32, x <<< (p &&& 31) = z ∧ 0 ≤ z.toInt ∧ z.toInt ≤ 512 := by
  obtain ⟨i, hi, rfl⟩ := i_fin (x := x) (n := 2) (by omega) (by omega)
  obtain ⟨j, hj, rfl⟩ := i_fin (x := p) (n := 10) (by omega) (by omega)
  exact ⟨_, rfl, shl01 ⟨i, hi⟩ ⟨j, hj⟩⟩
theorem hb_mono {hv hw : Nat → Prop} {v : SS} (h : HBok hv v) (hm : ∀ a, hv a → hw a) : HBok hw v := fun j hj => ⟨(h j hj).1, hm _ (h j hj).2.1, (h j hj).2.2⟩
theorem house_pick {hc L4 L5 L6 pl : va_W} (hm : ∀ q ∈ hc ++ (L4 ++ L5 ++ L6), q ∈ pl) (hn : (adr (hc ++ (L4 ++ L5 ++ L6))).Nodup) (U : va_W) (hU : U.Sublist (L4 ++ L5 ++ L6)) : ∃ r, pl.Perm ((hc ++ U) ++ r) :=
  pickW (hc ++ U) pl (fun q hq => hm q (((List.Sublist.refl hc).append hU).subset hq)) ((((List.Sublist.refl hc).append hU).map Prod.fst).nodup hn)
theorem cl_eq {x y : Int32} (h : x.toInt = y.toInt) : x.toNatClampNeg = y.toNatClampNeg := by
  have : x = y := Int32.toInt_inj.mp h
  rw [this]
theorem q_jnC {p : Program} {l : Launch} {e : Env} {R : Room} {s : State} {m : MethodId} {args : Array Value} {below : List Frame} {meth : Method} {c : Code} {Q : State → Prop} {pc : Nat} {cells slots : Nat} {pc2 c2 s2 : Nat} {H : Heap} {locs : List Loc} {ls : Array Slot} {st : List Value} (I : Heap → List Loc → Array Slot → List Value → Prop) (rest : ∀ H locs ls st, I H locs ls st → W p l e R s m args below meth c H locs c2 s2 Q (F0 m pc2 ls st)) (k : (∀ H locs ls st, I H locs ls st → W p l e R s m args below meth c H locs c2 s2 Q (F0 m pc2 ls st)) → W p l e R s m args below meth c H locs cells slots Q (F0 m pc ls st)) : W p l e R s m args below meth c H locs cells slots Q (F0 m pc ls st) := k rest

