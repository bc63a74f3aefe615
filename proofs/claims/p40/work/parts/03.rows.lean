abbrev vwCl : List vw_C := [(RX0, TX0, 4), (RX1, TX1, 5), (RX2, TX2, 2), (RX3, TX3, 12), (RX4, TX4, 1), (RX5, TX5, 9), (RX6, TX6, 2), (RX7, TX7, 4), (RX8, TX8, 6), (RX9, TX9, 3), (RX10, TX10, 8), (RX11, TX11, 17), (RX12, TX12, 37)]
def WG : List Cond := lw_tbl.filter goodWord
abbrev SS : Type := (Nat → Nat) × (Nat → Nat → Int32) × (Nat → Nat → Int64)
abbrev TY (cy : Nat → ClassId) : List (ClassId × FieldType) := [(cy 0, .byte), (cy 1, .int), (cy 2, .long), (cy 3, .boolean), (cy 4, .object RX7), (cy 5, .object RX9)]
def nst : List (String × Nat × MethodName × String) := [(RX11, 100, yX9_init, RX11), (RX11, 25, yX5_init, RX11), (RX11, 48, yX6_init, RX11), (RX11, 55, yX0_init, RX11), (RX11, 62, yX10_init, RX11), (RX11, 69, yX1_init, RX11), (RX11, 79, yX3_init, RX11), (RX5, 11, yX8_init, RX11), (RX5, 33, yX3_init, RX11)]
def qK (D : va_G) (cy : Nat → ClassId) (U : State) : Prop := va_K D vwCl (TY cy) U ∧ va_AO RX7 U ∧ va_AO RX9 U ∧ ∀ q ∈ nst, va_Nw (.methodLinkNest q.1 q.2.1 q.2.2.1 q.2.2.2) U
theorem qK.warm {D : va_G} {cy : Nat → ClassId} {u U : State} (hW : u.WarmedH U.vm) (h : qK D cy u) : qK D cy U := ⟨va_K.moved hW.alike h.1, va_AO.moved hW.alike h.2.1, va_AO.moved hW.alike h.2.2.1, fun q hq => (h.2.2.2 q hq).warmM hW⟩
theorem qK.same {D : va_G} {cy : Nat → ClassId} {u U : State} (e : u.vm = U.vm) (h : qK D cy u) : qK D cy U := by
  have ha : u.vm.Alike U.vm := by rw [e]; exact Vm.Alike.refl _
  exact ⟨va_K.moved ha h.1, va_AO.moved ha h.2.1, va_AO.moved ha h.2.2.1, fun q hq => (h.2.2.2 q hq).same rfl e⟩
def byS : List (List Int32) := [[101, 97, 115, 101, 32, 102, 97, 105, 116, 104, 32, 119, 97, 114, 32, 119, 104, 111, 32, 117, 110, 101, 97, 115, 101, 32, 117, 110, 102, 97, 105, 116, 104, 32, 117, 110, 119, 97, 114, 32, 111, 116, 104, 101, 114, 32, 100, 97, 121, 32, 98, 105, 108, 108, 32, 108, 105, 110, 101, 32, 104, 111, 117, 115, 101, 32, 108, 105, 110, 101, 115, 32, 112, 101, 114, 115, 111, 110, 32, 105, 110, 32, 116, 111, 32, 116, 101, 109, 112, 101, 114, 32, 119, 101, 105, 103, 104, 116, 32, 111, 112, 112, 111, 115, 101, 115, 32, 97, 121, 101, 115, 32, 115, 119, 97, 121, 115, 32, 111, 114, 32, 97, 110, 100, 32, 110, 111, 116], [59, 58, 43, 45, 42, 40, 41, 91, 93, 61, 60, 62], [32, 104, 111, 117, 115, 101, 32, 108, 105, 110, 101, 115, 32, 112, 101, 114, 115, 111, 110, 32, 105, 110, 32, 116, 111, 32, 116, 101, 109, 112, 101, 114, 32, 119, 101, 105, 103, 104, 116, 32, 111, 112, 112, 111, 115, 101, 115, 32, 97, 121, 101, 115, 32, 115, 119, 97, 121, 115, 32, 100, 97, 121, 32, 101, 97, 115, 101, 32, 102, 97, 105, 116, 104, 32, 119, 97, 114, 32, 119, 104, 111, 32, 117, 110, 101, 97, 115, 101, 32, 117, 110, 102, 97, 105, 116, 104, 32, 117, 110, 119, 97, 114, 32, 111, 116, 104, 101, 114, 32, 98, 105, 108, 108, 32, 108, 105, 110, 101, 32, 97, 110, 100, 32, 111, 114, 32, 110, 111, 116, 32], [59, 58, 43, 45, 42, 40, 41, 91, 93, 61, 60, 62]]
def lnS : List Nat := [128, 12, 130, 12]
def qTs (cy : Nat → ClassId) (i : Nat) (A : Nat → Prop) (U : State) (H : Heap) : Prop := va_O "java/lang/String" (cy (i + 10)) A U H ∧ va_OF "java/lang/String" "coder" "B" (.int 0) (cy (i + 10)) A U H ∧ va_OF "java/lang/String" "value" "[B" (.ref (cy (i + 14))) (cy (i + 10)) A U H ∧ va_T .byte (cy (i + 14)) (lnS.getD i 0) (fun j => .int ((byS.getD i []).getD j 0)) A U H
/-- the texts that the code holds, and a static of theirs -/
def qT (cy : Nat → ClassId) (A : Nat → Prop) (U : State) : Prop := (∀ i, i < 4 → qTs cy i A U U.heap) ∧ (∃ a b c d, vk_R RX8 65 a (cy 10) U ∧ vk_R RX8 58 b (cy 11) U ∧ vk_R RX12 89 c (cy 12) U ∧ vk_R RX12 127 d (cy 13) U) ∧ va_Z "java/lang/String" "COMPACT_STRINGS" "Z" (.int 1) A U U.heap ∧ va_Zq "jdk/internal/util/Preconditions" "SIOOBE_FORMATTER" "Ljava/util/function/BiFunction;" A U U.heap
theorem qT.same {cy : Nat → ClassId} {A : Nat → Prop} {u U : State} (e : u.vm = U.vm) (e2 : U.heap = u.heap) (h : qT cy A u) : qT cy A U := by
  have ha : u.vm.Alike U.vm := by rw [e]; exact Vm.Alike.refl _
  obtain ⟨h1, ⟨a, b, c, d, r1, r2, r3, r4⟩, h3, h4⟩ := h
  refine ⟨fun i hi => ?_, ⟨a, b, c, d, r1.same e.symm, r2.same e.symm, r3.same e.symm, r4.same e.symm⟩, ?_, ?_⟩
  · rw [e2]; exact ⟨va_O.moved ha (h1 i hi).1, va_OF.moved ha (h1 i hi).2.1, va_OF.moved ha (h1 i hi).2.2.1, va_T.moved ha (h1 i hi).2.2.2⟩
  · rw [e2]; exact va_Z.moved ha h3
  · rw [e2]; exact va_Zq.moved ha h4
theorem qT.call {cy : Nat → ClassId} {A B : Nat → Prop} {s U : State} {H : Heap} {locs : List Loc} (h : qT cy A s) (hS : va_S A s.heap H locs) (hF : ∀ q, B q → A q) (hU : U.heap = H) (hW : s.WarmedH U.vm) : qT cy B U := by
  obtain ⟨h1, ⟨a, b, c, d, r1, r2, r3, r4⟩, h3, h4⟩ := h
  refine ⟨fun i hi => ?_, ⟨a, b, c, d, r1.warm hW, r2.warm hW, r3.warm hW, r4.warm hW⟩, ?_, ?_⟩
  · rw [hU]
    exact ⟨va_O.moved hW.alike (((h1 i hi).1.kept hS.2.1).narrow hF), va_OF.moved hW.alike (((h1 i hi).2.1.kept hS.2.1).narrow hF), va_OF.moved hW.alike (((h1 i hi).2.2.1.kept hS.2.1).narrow hF), va_T.moved hW.alike (((h1 i hi).2.2.2.kept hS.2.1).narrow hF)⟩
  · rw [hU]; exact va_Z.moved hW.alike ((h3.kept hS.2.1).narrow hF)
  · rw [hU]; exact va_Zq.moved hW.alike ((h4.kept hS.2.1).narrow hF)
def qW (D : va_G) (A : Nat → Prop) (H0 : Heap) (ws : va_W) (H : Heap) (locs : List Loc) : Prop := va_P D vwCl ws H ∧ va_D A ws ∧ va_S A H0 H locs
abbrev qB (D : va_G) (A : Nat → Prop) (wq : SS → va_W) : SS → State → Prop := fun u t => va_P D vwCl (wq u) t.heap ∧ va_D A (wq u)
abbrev qP (D : va_G) (cy : Nat → ClassId) (ws : va_W) (sz : Nat) : State → Prop := fun U => U.heap.size = sz ∧ va_P D vwCl ws U.heap ∧ qK D cy U ∧ va_D (fun _ => True) ws ∧ qT cy (va_A ws sz) U
abbrev qM (l : Launch) (y : MethodName) (b : ByteArray) (n : Nat) (ret : Option FieldType) (rm : Room) (av : List Value) (D : va_G) (cy : Nat → ClassId) (ws : va_W) (sz : Nat) (Qc : Array Value → State → Outcome → State → Prop) (mc ms : Nat) : Prop := Met l y (.code y b n ret :: WG) rm (va_Pc av (qP D cy ws sz)) Qc mc ms (va_A ws sz)
abbrev MI (l : Launch) (y : MethodName) (b : ByteArray) (n : Nat) (ret : FieldType) (rm : Room) (av : List Value) (D : va_G) (cy : Nat → ClassId) (ws : va_W) (sz : Nat) (post : Int32 → SS → Prop) (wq : SS → va_W) (mc ms : Nat) : Prop := qM l y b n (some ret) rm av D cy ws sz (va_Qi post (qB D (va_A ws sz) wq) (va_A ws sz)) mc ms
abbrev ML (l : Launch) (y : MethodName) (b : ByteArray) (n : Nat) (rm : Room) (av : List Value) (D : va_G) (cy : Nat → ClassId) (ws : va_W) (sz : Nat) (post : Int64 → SS → Prop) (wq : SS → va_W) (mc ms : Nat) : Prop := qM l y b n (some .long) rm av D cy ws sz (va_Ql post (qB D (va_A ws sz) wq) (va_A ws sz)) mc ms
abbrev MV (l : Launch) (y : MethodName) (b : ByteArray) (n : Nat) (rm : Room) (av : List Value) (D : va_G) (cy : Nat → ClassId) (ws : va_W) (sz : Nat) (post : SS → Prop) (wq : SS → va_W) (mc ms : Nat) : Prop := qM l y b n none rm av D cy ws sz (va_Qv post (qB D (va_A ws sz) wq) (va_A ws sz)) mc ms
abbrev MR (l : Launch) (y : MethodName) (b : ByteArray) (n : Nat) (C : String) (rm : Room) (av : List Value) (D : va_G) (cy : Nat → ClassId) (ws : va_W) (sz : Nat) (post : SS → Prop) (wq : SS → va_W) (mc ms : Nat) : Prop := qM l y b n (some (.object C)) rm av D cy ws sz (va_Qr post (fun u a t => a = u.1 0 ∧ qB D (va_A ws sz) wq u t) (va_A ws sz)) mc ms
abbrev qX (p : Program) (s : State) (m : MethodId) (args : Array Value) (c : Code) (cc : ByteArray) (nL : Nat) (own : String) : Prop := CallFix p m c cc nL s args WG own
def qu0 : SS := (fun _ => 0, fun _ _ => 0, fun _ _ => 0)
theorem wg_mk {w : Cond} (h : w ∈ lw_tbl) (hg : goodWord w = true) : w ∈ WG := List.mem_filter.mpr ⟨h, hg⟩
theorem wg_in : ∀ w ∈ WG, w ∈ lw_tbl := fun w h => (List.mem_filter.mp h).1
theorem wg_t1 {w : Cond} (h : w ∈ tables_1_1) (hg : goodWord w = true) : w ∈ WG := wg_mk (List.mem_append_right _ (List.mem_append_left _ h)) hg
theorem wg_t2 {w : Cond} (h : w ∈ tables_1_2) (hg : goodWord w = true) : w ∈ WG := wg_mk (List.mem_append_right _ (List.mem_append_right _ (List.mem_append_left _ h))) hg
theorem wg_t3 {w : Cond} (h : w ∈ tables_1_3) (hg : goodWord w = true) : w ∈ WG := wg_mk (List.mem_append_right _ (List.mem_append_right _ (List.mem_append_right _ (List.mem_append_left _ h)))) hg
theorem wg_t4 {w : Cond} (h : w ∈ tables_1_4) (hg : goodWord w = true) : w ∈ WG := wg_mk (List.mem_append_right _ (List.mem_append_right _ (List.mem_append_right _ (List.mem_append_right _ (List.mem_append_left _ h))))) hg
theorem wg_t5 {w : Cond} (h : w ∈ tables_1_5) (hg : goodWord w = true) : w ∈ WG := wg_mk (List.mem_append_right _ (List.mem_append_right _ (List.mem_append_right _ (List.mem_append_right _ (List.mem_append_right _ (List.mem_append_left _ h)))))) hg
theorem wg_t6 {w : Cond} (h : w ∈ tables_1_6) (hg : goodWord w = true) : w ∈ WG := wg_mk (List.mem_append_right _ (List.mem_append_right _ (List.mem_append_right _ (List.mem_append_right _ (List.mem_append_right _ (List.mem_append_right _ (List.mem_append_left _ h))))))) hg
theorem wg_t7 {w : Cond} (h : w ∈ tables_1_7) (hg : goodWord w = true) : w ∈ WG := wg_mk (List.mem_append_right _ (List.mem_append_right _ (List.mem_append_right _ (List.mem_append_right _ (List.mem_append_right _ (List.mem_append_right _ (List.mem_append_right _ (List.mem_append_left _ h)))))))) hg
theorem wg_t8 {w : Cond} (h : w ∈ tables_1_8) (hg : goodWord w = true) : w ∈ WG := wg_mk (List.mem_append_right _ (List.mem_append_right _ (List.mem_append_right _ (List.mem_append_right _ (List.mem_append_right _ (List.mem_append_right _ (List.mem_append_right _ (List.mem_append_right _ h)))))))) hg
theorem wg_p {q : MethodName × Nat} (h : q ∈ lw_privs) (hg : goodWord (Cond.selects q.1.cls q.1 q.1) = true) : Cond.selects q.1.cls q.1 q.1 ∈ WG := wg_mk (List.mem_append_left _ (List.mem_map_of_mem h)) hg
theorem wg_p1 {q : MethodName × Nat} (h : q ∈ lw_privs_1) : q ∈ lw_privs := List.mem_append_left _ h
theorem wg_p2 {q : MethodName × Nat} (h : q ∈ lw_privs_2) : q ∈ lw_privs := List.mem_append_right _ (List.mem_append_left _ h)
theorem wg_p3 {q : MethodName × Nat} (h : q ∈ lw_privs_3) : q ∈ lw_privs := List.mem_append_right _ (List.mem_append_right _ (List.mem_append_left _ h))
theorem wg_p4 {q : MethodName × Nat} (h : q ∈ lw_privs_4) : q ∈ lw_privs := List.mem_append_right _ (List.mem_append_right _ (List.mem_append_right _ (List.mem_append_left _ h)))
theorem wg_p5 {q : MethodName × Nat} (h : q ∈ lw_privs_5) : q ∈ lw_privs := List.mem_append_right _ (List.mem_append_right _ (List.mem_append_right _ (List.mem_append_right _ (List.mem_append_left _ h))))
theorem wg_p6 {q : MethodName × Nat} (h : q ∈ lw_privs_6) : q ∈ lw_privs := List.mem_append_right _ (List.mem_append_right _ (List.mem_append_right _ (List.mem_append_right _ (List.mem_append_right _ (List.mem_append_left _ h)))))
theorem wg_p7 {q : MethodName × Nat} (h : q ∈ lw_privs_7) : q ∈ lw_privs := List.mem_append_right _ (List.mem_append_right _ (List.mem_append_right _ (List.mem_append_right _ (List.mem_append_right _ (List.mem_append_right _ (List.mem_append_left _ h))))))
theorem wg_p8 {q : MethodName × Nat} (h : q ∈ lw_privs_8) : q ∈ lw_privs := List.mem_append_right _ (List.mem_append_right _ (List.mem_append_right _ (List.mem_append_right _ (List.mem_append_right _ (List.mem_append_right _ (List.mem_append_right _ h))))))
theorem q_goodIn {y : MethodName} {b : ByteArray} {n : Nat} {ret : Option FieldType} (h : Cond.code y b n ret ∈ WG) : GoodIn WG (.code y b n ret :: WG) := fun w hw => by
  have hm : w ∈ WG := by
    rcases List.mem_cons.mp hw with e | e
    · rw [e]; exact h
    · exact e
  exact ⟨hm, good_of_word (List.mem_filter.mp hm).2⟩
theorem q_in {i : Int32} {n : Nat} (h : (decide (i < 0) || decide (n ≤ i.toNatClampNeg)) = false) : vp_in i n := by
  intro q
  rcases q with q | q
  · simp [q] at h
  · simp [q] at h
theorem q_ent {l : Launch} {y : MethodName} {b : ByteArray} {n : Nat} {ret : Option FieldType} {rm : Room} {av : List Value} {D : va_G} {cy : Nat → ClassId} {ws : va_W} {sz : Nat} {Qc : Array Value → State → Outcome → State → Prop} {mc ms : Nat} {own : String} (hy : plainName y.cls = true) (hown : y.cls = own) (hlen : (lg_sl av).length ≤ n)
    (body : ∀ (p : Program) (e : Env) (s : State) (m : MethodId) (below : List Frame) (meth : Method) (c : Code) (ls : Array Slot), qX p s m av.toArray c b n own → meth.sig.returnType = ret → meth.locks = false → meth.name = y.name → qK D cy s → qT cy (va_A ws sz) s → qW D (va_A ws sz) s.heap ws s.heap [] → (∀ q, s.heap.size ≤ q → va_A ws sz q) → lv_has ls n (lv_args 0 av) → W p l e rm s m av.toArray below meth c s.heap [] 0 0 (MQ below Qc av.toArray s mc ms (va_A ws sz)) (F0 m 0 ls [])) : qM l y b n ret rm av D cy ws sz Qc mc ms := by
  refine Met.ofW (cc := b) (maxL := n) (ret := ret) hy rfl ?_
  intro p e s m args below meth c s₁ B hml hv
  obtain ⟨rfl, hsz, hP, hK, hD0, hT0⟩ := hv
  have hts := atoms_spec (ws := .code y b n ret :: WG) B.pre
  have hfc : s.vm.findClass y.cls = some m.cls := findClass_of_methodNamed B.named
  rw [lg_entry_eq]
  subst hsz
  subst hown
  exact body p e s m below meth c _ ⟨B.exec, B.bytes, hml, hfc, fun w h => hts w (List.mem_cons_of_mem _ h)⟩ B.returns B.notSynchronized (name_of_methodNamed B.named B.method).1 hK hT0 ⟨hP, hD0.self, va_S.rf⟩ (fun q h => Or.inr h) (lv_entry av hlen)
section QL
variable {p : Program} {l : Launch} {e : Env} {R : Room} {s : State} {m : MethodId} {args : Array Value} {below : List Frame} {meth : Method} {c : Code} {H H0 : Heap} {locs : List Loc} {cells slots : Nat} {Q : State → Prop} {cc : ByteArray} {nL pc : Nat} {own : String} {ls : Array Slot} {rest : List Value} {D : va_G} {cy : Nat → ClassId} {A : Nat → Prop} {ws : va_W}
theorem q_c {x : Int32} (v : Int32) (h : x = v) (k : W p l e R s m args below meth c H locs cells slots Q (F0 m pc ls (.int v :: rest))) : W p l e R s m args below meth c H locs cells slots Q (F0 m pc ls (.int x :: rest)) := by subst h; exact k
theorem q_cl {x : Int64} (v : Int64) (h : x = v) (k : W p l e R s m args below meth c H locs cells slots Q (F0 m pc ls (.long v :: rest))) : W p l e R s m args below meth c H locs cells slots Q (F0 m pc ls (.long x :: rest)) := by subst h; exact k
theorem q_get (X : qX p s m args c cc nL own) (hK : qK D cy s) (h : qW D A H0 ws H locs) {C : String} {T : u_T} {N ci idx a : Nat} (q0 : Nat) {fs : List Value} (he : ws[q0]? = some (a, .inr (ci, fs))) (hc : vwCl[ci]? = some (C, T, N)) (hin : ∀ w ∈ u_ws C T N, w ∈ WG) (k : Nat) (hk : k < N) {v : Value} (hv : fs[k]? = some v) (hm : Cond.fieldLink own idx (T k).1 (T k).2.1 (T k).2.2.1 ∈ WG) (hdg : decode cc pc = .ok (.getfield idx, 3)) (kk : W p l e R s m args below meth c H locs cells slots Q (F0 m (pc + 3) ls (v :: rest))) : W p l e R s m args below meth c H locs cells slots Q (F0 m pc ls (.ref a :: rest)) :=
  va_get X.1 X.2.1 X.2.2.2.2 hin X.2.2.2.1 hK.1 h.1 q0 he hc k hk (X.2.2.2.2 _ hm) (fun _ h => h) hv hdg kk
theorem q_put (X : qX p s m args c cc nL own) (hK : qK D cy s) (h : qW D A H0 ws H locs) {C : String} {T : u_T} {N ci idx a : Nat} (q0 : Nat) {fs : List Value} (he : ws[q0]? = some (a, .inr (ci, fs))) (hc : vwCl[ci]? = some (C, T, N)) (hin : ∀ w ∈ u_ws C T N, w ∈ WG) (ty0 : Nat → FieldType) (hty : ∀ k, k < N → parseFieldDescriptor (T k).2.2.1 = some (ty0 k)) (hnm : ∀ a, a < N → ∀ b, b < N → a ≠ b → (T a).2.1 ≠ (T b).2.1) (k : Nat) (hk : k < N) {v : Value} (hm : Cond.fieldLink own idx (T k).1 (T k).2.1 (T k).2.2.1 ∈ WG) (hfin : (T k).2.2.2 = false) (hn : narrow (ty0 k) v = v) (hfit : fits (ty0 k) v = true) (hl : k < fs.length) (hdg : decode cc pc = .ok (.putfield idx, 3)) (kk : ∀ (H1 : Heap) (locs1 : List Loc), qW D A H0 (ws.set q0 (a, .inr (ci, fs.set k v))) H1 locs1 → W p l e R s m args below meth c H1 locs1 cells slots Q (F0 m (pc + 3) ls rest)) : W p l e R s m args below meth c H locs cells slots Q (F0 m pc ls (v :: .ref a :: rest)) :=
  va_put X.1 X.2.1 X.2.2.2.2 hin ty0 hty hnm X.2.2.2.1 hK.1 h.1 h.2.1 h.2.2 q0 he hc k hk (X.2.2.2.2 _ hm) (fun _ h => h) hfin (hty k hk) hn hfit hl hdg (fun H1 locs1 a b d => kk H1 locs1 ⟨a, b, d⟩)
theorem q_putF (X : qX p s m args c cc nL own) (hK : qK D cy s) (h : qW D A H0 ws H locs) {C : String} {T : u_T} {N ci idx a : Nat} (q0 : Nat) {fs : List Value} (he : ws[q0]? = some (a, .inr (ci, fs))) (hc : vwCl[ci]? = some (C, T, N)) (hin : ∀ w ∈ u_ws C T N, w ∈ WG) (ty0 : Nat → FieldType) (hty : ∀ k, k < N → parseFieldDescriptor (T k).2.2.1 = some (ty0 k)) (hnm : ∀ a, a < N → ∀ b, b < N → a ≠ b → (T a).2.1 ≠ (T b).2.1) (k : Nat) (hk : k < N) {v : Value} (hm : Cond.fieldLink own idx (T k).1 (T k).2.1 (T k).2.2.1 ∈ WG) (hfin : (T k).2.2.2 = true) (hi : meth.name = "<init>") (hdecl : (T k).1 = own) (hn : narrow (ty0 k) v = v) (hfit : fits (ty0 k) v = true) (hl : k < fs.length) (hdg : decode cc pc = .ok (.putfield idx, 3)) (kk : ∀ (H1 : Heap) (locs1 : List Loc), qW D A H0 (ws.set q0 (a, .inr (ci, fs.set k v))) H1 locs1 → W p l e R s m args below meth c H1 locs1 cells slots Q (F0 m (pc + 3) ls rest)) : W p l e R s m args below meth c H locs cells slots Q (F0 m pc ls (v :: .ref a :: rest)) :=
  va_putF X.1 X.2.1 X.2.2.2.2 hin ty0 hty hnm X.2.2.2.1 hK.1 h.1 h.2.1 h.2.2 q0 he hc k hk (X.2.2.2.2 _ hm) (fun _ h => h) hfin hi hdecl (hty k hk) hn hfit hl hdg (fun H1 locs1 a b d => kk H1 locs1 ⟨a, b, d⟩)
theorem q_new (X : qX p s m args c cc nL own) (hK : qK D cy s) (hA : ∀ q, H0.size ≤ q → A q) (h : qW D A H0 ws H locs) {C : String} {T : u_T} {N ci idx : Nat} (hc : vwCl[ci]? = some (C, T, N)) (hin : ∀ w ∈ u_ws C T N, w ∈ WG) (ty0 : Nat → FieldType) (hty : ∀ k, k < N → parseFieldDescriptor (T k).2.2.1 = some (ty0 k)) (m1 : Cond.classLink own idx C ∈ WG) (m2 : Cond.instantiable C N ∈ WG) (m3 : Cond.initialized C ∈ WG) {fs : List Value} (hfs : ∀ j, j < N → defaultValue (ty0 j) = vp_V fs j) (hcells : cells + 1 ≤ R.cells) (hslots : slots + N ≤ R.slots) (hdg : decode cc pc = .ok (.new idx, 3)) (kk : ∀ (q : Nat) (H1 : Heap), qW D A H0 (ws ++ [(q, .inr (ci, fs))]) H1 locs → W p l e R s m args below meth c H1 locs (cells + 1) (slots + N) Q (F0 m (pc + 3) ls (.ref q :: rest))) : W p l e R s m args below meth c H locs cells slots Q (F0 m pc ls rest) :=
  va_new X.1 X.2.1 X.2.2.2.2 hin ty0 hty X.2.2.2.1 (X.2.2.2.2 _ m1) (X.2.2.2.2 _ m2) (X.2.2.2.2 _ m3) hK.1 h.1 h.2.1 h.2.2 hA hc hfs hcells hslots hdg (fun q H1 a b d => kk q H1 ⟨a, b, d⟩)
theorem q_newb (X : qX p s m args c cc nL own) (hK : qK D cy s) (hA : ∀ q, H0.size ≤ q → A q) (h : qW D A H0 ws H locs) (m1 : Cond.arrayClass .byte ∈ WG) {n : Int32} (N : Nat) (hn : ¬ n < 0) (hN : n.toNatClampNeg = N) (hbt : N * componentBytes .byte ≤ 536870912) (hcells : cells + 1 ≤ R.cells) (hslots : slots + N ≤ R.slots) (hdg : decode cc pc = .ok (.newarray .byte, 2)) (kk : ∀ (q : Nat) (H1 : Heap), qW D A H0 (ws ++ [(q, .inl (cy 0, N, .inl (fun _ => 0)))]) H1 locs → W p l e R s m args below meth c H1 locs (cells + 1) (slots + N) Q (F0 m (pc + 2) ls (.ref q :: rest))) : W p l e R s m args below meth c H locs cells slots Q (F0 m pc ls (.int n :: rest)) := by
  refine va_newa (atype := .byte) X.1 X.2.1 (X.2.2.2.2 _ m1) rfl hK.1 h.1 h.2.1 h.2.2 hA (a0 := (N, .inl (fun _ => 0))) (fun cA => rfl) hn hN hbt hcells hslots hdg (fun q cA H1 hK1 hP hD hS => ?_)
  have h1 := (hK1.2 6 _ rfl).2
  have h2 := (hK.1.2 0 _ rfl).2
  have e : cA = cy 0 := Option.some.inj (h1.symm.trans h2)
  subst e
  exact kk q H1 ⟨hP, hD, hS⟩
theorem q_newi (X : qX p s m args c cc nL own) (hK : qK D cy s) (hA : ∀ q, H0.size ≤ q → A q) (h : qW D A H0 ws H locs) (m1 : Cond.arrayClass .int ∈ WG) {n : Int32} (N : Nat) (hn : ¬ n < 0) (hN : n.toNatClampNeg = N) (hbt : N * componentBytes .int ≤ 536870912) (hcells : cells + 1 ≤ R.cells) (hslots : slots + N ≤ R.slots) (hdg : decode cc pc = .ok (.newarray .int, 2)) (kk : ∀ (q : Nat) (H1 : Heap), qW D A H0 (ws ++ [(q, .inl (cy 1, N, .inl (fun _ => 0)))]) H1 locs → W p l e R s m args below meth c H1 locs (cells + 1) (slots + N) Q (F0 m (pc + 2) ls (.ref q :: rest))) : W p l e R s m args below meth c H locs cells slots Q (F0 m pc ls (.int n :: rest)) := by
  refine va_newa (atype := .int) X.1 X.2.1 (X.2.2.2.2 _ m1) rfl hK.1 h.1 h.2.1 h.2.2 hA (a0 := (N, .inl (fun _ => 0))) (fun cA => rfl) hn hN hbt hcells hslots hdg (fun q cA H1 hK1 hP hD hS => ?_)
  have h1 := (hK1.2 6 _ rfl).2
  have h2 := (hK.1.2 1 _ rfl).2
  have e : cA = cy 1 := Option.some.inj (h1.symm.trans h2)
  subst e
  exact kk q H1 ⟨hP, hD, hS⟩
theorem q_newj (X : qX p s m args c cc nL own) (hK : qK D cy s) (hA : ∀ q, H0.size ≤ q → A q) (h : qW D A H0 ws H locs) (m1 : Cond.arrayClass .long ∈ WG) {n : Int32} (N : Nat) (hn : ¬ n < 0) (hN : n.toNatClampNeg = N) (hbt : N * componentBytes .long ≤ 536870912) (hcells : cells + 1 ≤ R.cells) (hslots : slots + N ≤ R.slots) (hdg : decode cc pc = .ok (.newarray .long, 2)) (kk : ∀ (q : Nat) (H1 : Heap), qW D A H0 (ws ++ [(q, .inl (cy 2, N, .inr (.inl (fun _ => 0))))]) H1 locs → W p l e R s m args below meth c H1 locs (cells + 1) (slots + N) Q (F0 m (pc + 2) ls (.ref q :: rest))) : W p l e R s m args below meth c H locs cells slots Q (F0 m pc ls (.int n :: rest)) := by
  refine va_newa (atype := .long) X.1 X.2.1 (X.2.2.2.2 _ m1) rfl hK.1 h.1 h.2.1 h.2.2 hA (a0 := (N, .inr (.inl (fun _ => 0)))) (fun cA => rfl) hn hN hbt hcells hslots hdg (fun q cA H1 hK1 hP hD hS => ?_)
  have h1 := (hK1.2 6 _ rfl).2
  have h2 := (hK.1.2 2 _ rfl).2
  have e : cA = cy 2 := Option.some.inj (h1.symm.trans h2)
  subst e
  exact kk q H1 ⟨hP, hD, hS⟩
theorem q_newz (X : qX p s m args c cc nL own) (hK : qK D cy s) (hA : ∀ q, H0.size ≤ q → A q) (h : qW D A H0 ws H locs) (m1 : Cond.arrayClass .boolean ∈ WG) {n : Int32} (N : Nat) (hn : ¬ n < 0) (hN : n.toNatClampNeg = N) (hbt : N * componentBytes .boolean ≤ 536870912) (hcells : cells + 1 ≤ R.cells) (hslots : slots + N ≤ R.slots) (hdg : decode cc pc = .ok (.newarray .boolean, 2)) (kk : ∀ (q : Nat) (H1 : Heap), qW D A H0 (ws ++ [(q, .inl (cy 3, N, .inl (fun _ => 0)))]) H1 locs → W p l e R s m args below meth c H1 locs (cells + 1) (slots + N) Q (F0 m (pc + 2) ls (.ref q :: rest))) : W p l e R s m args below meth c H locs cells slots Q (F0 m pc ls (.int n :: rest)) := by
  refine va_newa (atype := .boolean) X.1 X.2.1 (X.2.2.2.2 _ m1) rfl hK.1 h.1 h.2.1 h.2.2 hA (a0 := (N, .inl (fun _ => 0))) (fun cA => rfl) hn hN hbt hcells hslots hdg (fun q cA H1 hK1 hP hD hS => ?_)
  have h1 := (hK1.2 6 _ rfl).2
  have h2 := (hK.1.2 3 _ rfl).2
  have e : cA = cy 3 := Option.some.inj (h1.symm.trans h2)
  subst e
  exact kk q H1 ⟨hP, hD, hS⟩
theorem q_newS (X : qX p s m args c cc nL own) (hK : qK D cy s) (hA : ∀ q, H0.size ≤ q → A q) (h : qW D A H0 ws H locs) {idx : Nat} (m1 : Cond.classLink own idx RX7 ∈ WG) {n : Int32} (N : Nat) (hn : ¬ n < 0) (hN : n.toNatClampNeg = N) (hbt : N * 4 ≤ 536870912) (hcells : cells + 1 ≤ R.cells) (hslots : slots + N ≤ R.slots) (hdg : decode cc pc = .ok (.anewarray idx, 3)) (kk : ∀ (q : Nat) (H1 : Heap), qW D A H0 (ws ++ [(q, .inl (cy 4, N, .inr (.inr (.inr (.inr (fun _ => none))))))]) H1 locs → W p l e R s m args below meth c H1 locs (cells + 1) (slots + N) Q (F0 m (pc + 3) ls (.ref q :: rest))) : W p l e R s m args below meth c H locs cells slots Q (F0 m pc ls (.int n :: rest)) := by
  refine va_newq X.1 X.2.1 X.2.2.2.1 (X.2.2.2.2 _ m1) hK.2.1 hK.1 h.1 h.2.1 h.2.2 hA hn hN hbt hcells hslots hdg (fun q cA H1 hK1 hP hD hS => ?_)
  obtain ⟨_, _, _, _, _, h1⟩ := (hK1.2 6 _ rfl).2
  obtain ⟨_, _, _, _, _, h2⟩ := (hK.1.2 4 _ rfl).2
  have e : cA = cy 4 := Option.some.inj (h1.symm.trans h2)
  subst e
  exact kk q H1 ⟨hP, hD, hS⟩
theorem q_newT (X : qX p s m args c cc nL own) (hK : qK D cy s) (hA : ∀ q, H0.size ≤ q → A q) (h : qW D A H0 ws H locs) {idx : Nat} (m1 : Cond.classLink own idx RX9 ∈ WG) {n : Int32} (N : Nat) (hn : ¬ n < 0) (hN : n.toNatClampNeg = N) (hbt : N * 4 ≤ 536870912) (hcells : cells + 1 ≤ R.cells) (hslots : slots + N ≤ R.slots) (hdg : decode cc pc = .ok (.anewarray idx, 3)) (kk : ∀ (q : Nat) (H1 : Heap), qW D A H0 (ws ++ [(q, .inl (cy 5, N, .inr (.inr (.inr (.inr (fun _ => none))))))]) H1 locs → W p l e R s m args below meth c H1 locs (cells + 1) (slots + N) Q (F0 m (pc + 3) ls (.ref q :: rest))) : W p l e R s m args below meth c H locs cells slots Q (F0 m pc ls (.int n :: rest)) := by
  refine va_newq X.1 X.2.1 X.2.2.2.1 (X.2.2.2.2 _ m1) hK.2.2.1 hK.1 h.1 h.2.1 h.2.2 hA hn hN hbt hcells hslots hdg (fun q cA H1 hK1 hP hD hS => ?_)
  obtain ⟨_, _, _, _, _, h1⟩ := (hK1.2 6 _ rfl).2
  obtain ⟨_, _, _, _, _, h2⟩ := (hK.1.2 5 _ rfl).2
  have e : cA = cy 5 := Option.some.inj (h1.symm.trans h2)
  subst e
  exact kk q H1 ⟨hP, hD, hS⟩
theorem q_iald (X : qX p s m args c cc nL own) (hK : qK D cy s) (h : qW D A H0 ws H locs) {a : Nat} (q0 : Nat) {n : Nat} {f : Nat → Int32} (he : ws[q0]? = some (a, .inl (cy 1, n, .inl f))) {i : Int32} (hin : vp_in i n) (hdg : decode cc pc = .ok (.iaload, 1)) (kk : W p l e R s m args below meth c H locs cells slots Q (F0 m (pc + 1) ls (.int (f i.toNatClampNeg) :: rest))) : W p l e R s m args below meth c H locs cells slots Q (F0 m pc ls (.int i :: .ref a :: rest)) :=
  va_iald X.1 X.2.1 hK.1 h.1 q0 1 he rfl hin hdg kk
theorem q_bald (X : qX p s m args c cc nL own) (hK : qK D cy s) (h : qW D A H0 ws H locs) {a : Nat} (q0 : Nat) {n : Nat} {f : Nat → Int32} (he : ws[q0]? = some (a, .inl (cy 0, n, .inl f))) {i : Int32} (hin : vp_in i n) (hdg : decode cc pc = .ok (.baload, 1)) (kk : W p l e R s m args below meth c H locs cells slots Q (F0 m (pc + 1) ls (.int (f i.toNatClampNeg) :: rest))) : W p l e R s m args below meth c H locs cells slots Q (F0 m pc ls (.int i :: .ref a :: rest)) :=
  va_bald X.1 X.2.1 hK.1 h.1 q0 0 he rfl hin hdg kk
theorem q_zald (X : qX p s m args c cc nL own) (hK : qK D cy s) (h : qW D A H0 ws H locs) {a : Nat} (q0 : Nat) {n : Nat} {f : Nat → Int32} (he : ws[q0]? = some (a, .inl (cy 3, n, .inl f))) {i : Int32} (hin : vp_in i n) (hdg : decode cc pc = .ok (.baload, 1)) (kk : W p l e R s m args below meth c H locs cells slots Q (F0 m (pc + 1) ls (.int (f i.toNatClampNeg) :: rest))) : W p l e R s m args below meth c H locs cells slots Q (F0 m pc ls (.int i :: .ref a :: rest)) :=
  va_zald X.1 X.2.1 hK.1 h.1 q0 3 he rfl hin hdg kk
theorem q_lald (X : qX p s m args c cc nL own) (hK : qK D cy s) (h : qW D A H0 ws H locs) {a : Nat} (q0 : Nat) {n : Nat} {f : Nat → Int64} (he : ws[q0]? = some (a, .inl (cy 2, n, .inr (.inl f)))) {i : Int32} (hin : vp_in i n) (hdg : decode cc pc = .ok (.laload, 1)) (kk : W p l e R s m args below meth c H locs cells slots Q (F0 m (pc + 1) ls (.long (f i.toNatClampNeg) :: rest))) : W p l e R s m args below meth c H locs cells slots Q (F0 m pc ls (.int i :: .ref a :: rest)) :=
  va_lald X.1 X.2.1 hK.1 h.1 q0 2 he rfl hin hdg kk
theorem q_aldS (X : qX p s m args c cc nL own) (hK : qK D cy s) (h : qW D A H0 ws H locs) {a : Nat} (q0 : Nat) {n : Nat} {f : Nat → Option Nat} (he : ws[q0]? = some (a, .inl (cy 4, n, .inr (.inr (.inr (.inr f)))))) {i : Int32} (hin : vp_in i n) (v : Nat) (hv : f i.toNatClampNeg = some v) (hdg : decode cc pc = .ok (.aaload, 1)) (kk : W p l e R s m args below meth c H locs cells slots Q (F0 m (pc + 1) ls (.ref v :: rest))) : W p l e R s m args below meth c H locs cells slots Q (F0 m pc ls (.int i :: .ref a :: rest)) :=
  va_aldq X.1 X.2.1 hK.1 h.1 q0 4 he rfl hin hdg (by rw [hv]; exact kk)
theorem q_aldT (X : qX p s m args c cc nL own) (hK : qK D cy s) (h : qW D A H0 ws H locs) {a : Nat} (q0 : Nat) {n : Nat} {f : Nat → Option Nat} (he : ws[q0]? = some (a, .inl (cy 5, n, .inr (.inr (.inr (.inr f)))))) {i : Int32} (hin : vp_in i n) (v : Nat) (hv : f i.toNatClampNeg = some v) (hdg : decode cc pc = .ok (.aaload, 1)) (kk : W p l e R s m args below meth c H locs cells slots Q (F0 m (pc + 1) ls (.ref v :: rest))) : W p l e R s m args below meth c H locs cells slots Q (F0 m pc ls (.int i :: .ref a :: rest)) :=
  va_aldq X.1 X.2.1 hK.1 h.1 q0 5 he rfl hin hdg (by rw [hv]; exact kk)
theorem q_iast (X : qX p s m args c cc nL own) (hK : qK D cy s) (h : qW D A H0 ws H locs) {a : Nat} (q0 : Nat) {n : Nat} {f : Nat → Int32} (he : ws[q0]? = some (a, .inl (cy 1, n, .inl f))) {i : Int32} {x : Int32} (hin : vp_in i n) (hdg : decode cc pc = .ok (.iastore, 1)) (kk : ∀ (H1 : Heap) (locs1 : List Loc), qW D A H0 (ws.set q0 (a, .inl (cy 1, n, .inl (upd f i.toNatClampNeg x)))) H1 locs1 → W p l e R s m args below meth c H1 locs1 cells slots Q (F0 m (pc + 1) ls rest)) : W p l e R s m args below meth c H locs cells slots Q (F0 m pc ls (.int x :: .int i :: .ref a :: rest)) :=
  va_iast X.1 X.2.1 hK.1 h.1 h.2.1 h.2.2 q0 1 he rfl hin hdg (fun H1 locs1 a b d => kk H1 locs1 ⟨a, b, d⟩)
theorem q_bast (X : qX p s m args c cc nL own) (hK : qK D cy s) (h : qW D A H0 ws H locs) {a : Nat} (q0 : Nat) {n : Nat} {f : Nat → Int32} (he : ws[q0]? = some (a, .inl (cy 0, n, .inl f))) {i : Int32} {x : Int32} (hin : vp_in i n) (hdg : decode cc pc = .ok (.bastore, 1)) (kk : ∀ (H1 : Heap) (locs1 : List Loc), qW D A H0 (ws.set q0 (a, .inl (cy 0, n, .inl (upd f i.toNatClampNeg (vp_nar .byte x))))) H1 locs1 → W p l e R s m args below meth c H1 locs1 cells slots Q (F0 m (pc + 1) ls rest)) : W p l e R s m args below meth c H locs cells slots Q (F0 m pc ls (.int x :: .int i :: .ref a :: rest)) :=
  va_bast X.1 X.2.1 hK.1 h.1 h.2.1 h.2.2 q0 0 he rfl hin hdg (fun H1 locs1 a b d => kk H1 locs1 ⟨a, b, d⟩)
theorem q_zast (X : qX p s m args c cc nL own) (hK : qK D cy s) (h : qW D A H0 ws H locs) {a : Nat} (q0 : Nat) {n : Nat} {f : Nat → Int32} (he : ws[q0]? = some (a, .inl (cy 3, n, .inl f))) {i : Int32} {x : Int32} (hin : vp_in i n) (hdg : decode cc pc = .ok (.bastore, 1)) (kk : ∀ (H1 : Heap) (locs1 : List Loc), qW D A H0 (ws.set q0 (a, .inl (cy 3, n, .inl (upd f i.toNatClampNeg (vp_nar .boolean x))))) H1 locs1 → W p l e R s m args below meth c H1 locs1 cells slots Q (F0 m (pc + 1) ls rest)) : W p l e R s m args below meth c H locs cells slots Q (F0 m pc ls (.int x :: .int i :: .ref a :: rest)) :=
  va_zast X.1 X.2.1 hK.1 h.1 h.2.1 h.2.2 q0 3 he rfl hin hdg (fun H1 locs1 a b d => kk H1 locs1 ⟨a, b, d⟩)
theorem q_last (X : qX p s m args c cc nL own) (hK : qK D cy s) (h : qW D A H0 ws H locs) {a : Nat} (q0 : Nat) {n : Nat} {f : Nat → Int64} (he : ws[q0]? = some (a, .inl (cy 2, n, .inr (.inl f)))) {i : Int32} {x : Int64} (hin : vp_in i n) (hdg : decode cc pc = .ok (.lastore, 1)) (kk : ∀ (H1 : Heap) (locs1 : List Loc), qW D A H0 (ws.set q0 (a, .inl (cy 2, n, .inr (.inl (vp_updL f i.toNatClampNeg x))))) H1 locs1 → W p l e R s m args below meth c H1 locs1 cells slots Q (F0 m (pc + 1) ls rest)) : W p l e R s m args below meth c H locs cells slots Q (F0 m pc ls (.long x :: .int i :: .ref a :: rest)) :=
  va_last X.1 X.2.1 hK.1 h.1 h.2.1 h.2.2 q0 2 he rfl hin hdg (fun H1 locs1 a b d => kk H1 locs1 ⟨a, b, d⟩)
theorem q_astS (X : qX p s m args c cc nL own) (hK : qK D cy s) (h : qW D A H0 ws H locs) {a : Nat} (q0 qk : Nat) {n v : Nat} {vs : List Value} {f : Nat → Option Nat} (he : ws[q0]? = some (a, .inl (cy 4, n, .inr (.inr (.inr (.inr f)))))) (hv : ws[qk]? = some (v, .inr (7, vs))) {i : Int32} (hin : vp_in i n) (hdg : decode cc pc = .ok (.aastore, 1)) (kk : ∀ (H1 : Heap) (locs1 : List Loc), qW D A H0 (ws.set q0 (a, .inl (cy 4, n, .inr (.inr (.inr (.inr (va_up f i.toNatClampNeg (some v)))))))) H1 locs1 → W p l e R s m args below meth c H1 locs1 cells slots Q (F0 m (pc + 1) ls rest)) : W p l e R s m args below meth c H locs cells slots Q (F0 m pc ls (.ref v :: .int i :: .ref a :: rest)) :=
  va_astq X.1 X.2.1 hK.1 h.1 h.2.1 h.2.2 q0 4 qk 7 he rfl hv rfl hin hdg (fun H1 locs1 a b d => kk H1 locs1 ⟨a, b, d⟩)
theorem q_astT (X : qX p s m args c cc nL own) (hK : qK D cy s) (h : qW D A H0 ws H locs) {a : Nat} (q0 qk : Nat) {n v : Nat} {vs : List Value} {f : Nat → Option Nat} (he : ws[q0]? = some (a, .inl (cy 5, n, .inr (.inr (.inr (.inr f)))))) (hv : ws[qk]? = some (v, .inr (9, vs))) {i : Int32} (hin : vp_in i n) (hdg : decode cc pc = .ok (.aastore, 1)) (kk : ∀ (H1 : Heap) (locs1 : List Loc), qW D A H0 (ws.set q0 (a, .inl (cy 5, n, .inr (.inr (.inr (.inr (va_up f i.toNatClampNeg (some v)))))))) H1 locs1 → W p l e R s m args below meth c H1 locs1 cells slots Q (F0 m (pc + 1) ls rest)) : W p l e R s m args below meth c H locs cells slots Q (F0 m pc ls (.ref v :: .int i :: .ref a :: rest)) :=
  va_astq X.1 X.2.1 hK.1 h.1 h.2.1 h.2.2 q0 5 qk 9 he rfl hv rfl hin hdg (fun H1 locs1 a b d => kk H1 locs1 ⟨a, b, d⟩)
theorem q_alen (X : qX p s m args c cc nL own) (hK : qK D cy s) (h : qW D A H0 ws H locs) {a : Nat} (q0 t0 : Nat) {cA : ClassId} {x : vp_A} {ty : FieldType} (he : ws[q0]? = some (a, .inl (cA, x))) (ht : (TY cy)[t0]? = some (cA, ty)) (v : Int32) (hv : Int32.ofNat x.1 = v) (hdg : decode cc pc = .ok (.arraylength, 1)) (kk : W p l e R s m args below meth c H locs cells slots Q (F0 m (pc + 1) ls (.int v :: rest))) : W p l e R s m args below meth c H locs cells slots Q (F0 m pc ls (.ref a :: rest)) :=
  va_alen X.1 X.2.1 hK.1 h.1 q0 t0 he ht hv hdg kk
theorem q_sub {ws' : va_W} (h : qW D A H0 ws H locs) (is : List Nat) (hn : va_nd is = true) (hs : is.map (fun i => ws[i]?) = ws'.map some) : va_P D vwCl ws' H ∧ va_D A ws' := by
  refine ⟨?_, h.2.1.sub is hn hs⟩
  intro k q hk
  have h1 : (is.map (fun i => ws[i]?))[k]? = some (some q) := by rw [hs, List.getElem?_map, hk]; rfl
  rw [List.getElem?_map] at h1
  cases hi : is[k]? with
  | none => rw [hi] at h1; cases h1
  | some i =>
    rw [hi] at h1
    exact h.1 i q (Option.some.inj h1)
theorem q_iret {ret : FieldType} {ws0 : va_W} {sz mc ms : Nat} {post : Int32 → SS → Prop} {wq : SS → va_W} {v : Int32} (X : qX p s m args c cc nL own) (hr : meth.sig.returnType = some ret) (hlk : meth.locks = false) (hK : qK D cy s) (h : qW D (va_A ws0 sz) s.heap ws H locs) (hnr : narrow ret (.int v) = .int v) (u : SS) (hq : post v u) (is : List Nat) (hn : va_nd is = true) (hs : is.map (fun i => ws[i]?) = (wq u).map some) (hdg : decode cc pc = .ok (.ireturn, 1)) (hcm : cells ≤ mc) (hsm : slots ≤ ms) : W p l e R s m args below meth c H locs cells slots (MQ below (va_Qi post (qB D (va_A ws0 sz) wq) (va_A ws0 sz)) args s mc ms (va_A ws0 sz)) (F0 m pc ls [.int v]) := by
  obtain ⟨h1, h2⟩ := q_sub h is hn hs
  refine W.widen hcm hsm ?_
  exact W.zret X.1 X.2.1 hr hnr (fun t ht hW => ⟨⟨v, u, rfl, hq, by rw [ht]; exact h1, h2⟩, h.2.2.F ht⟩) h.2.2.2.2 hdg hlk
theorem q_lret {ws0 : va_W} {sz mc ms : Nat} {post : Int64 → SS → Prop} {wq : SS → va_W} {v : Int64} (X : qX p s m args c cc nL own) (hr : meth.sig.returnType = some .long) (hlk : meth.locks = false) (hK : qK D cy s) (h : qW D (va_A ws0 sz) s.heap ws H locs) (u : SS) (hq : post v u) (is : List Nat) (hn : va_nd is = true) (hs : is.map (fun i => ws[i]?) = (wq u).map some) (hdg : decode cc pc = .ok (.lreturn, 1)) (hcm : cells ≤ mc) (hsm : slots ≤ ms) : W p l e R s m args below meth c H locs cells slots (MQ below (va_Ql post (qB D (va_A ws0 sz) wq) (va_A ws0 sz)) args s mc ms (va_A ws0 sz)) (F0 m pc ls [.long v]) := by
  obtain ⟨h1, h2⟩ := q_sub h is hn hs
  refine W.widen hcm hsm ?_
  exact W.lret X.1 X.2.1 hr (fun t ht hW => ⟨⟨v, u, rfl, hq, by rw [ht]; exact h1, h2⟩, h.2.2.F ht⟩) h.2.2.2.2 hdg hlk
theorem q_vret {ws0 : va_W} {sz mc ms : Nat} {post : SS → Prop} {wq : SS → va_W} (X : qX p s m args c cc nL own) (hr : meth.sig.returnType = none) (hlk : meth.locks = false) (hK : qK D cy s) (h : qW D (va_A ws0 sz) s.heap ws H locs) (u : SS) (hq : post u) (is : List Nat) (hn : va_nd is = true) (hs : is.map (fun i => ws[i]?) = (wq u).map some) (hdg : decode cc pc = .ok (.return_, 1)) (hcm : cells ≤ mc) (hsm : slots ≤ ms) : W p l e R s m args below meth c H locs cells slots (MQ below (va_Qv post (qB D (va_A ws0 sz) wq) (va_A ws0 sz)) args s mc ms (va_A ws0 sz)) (F0 m pc ls []) := by
  obtain ⟨h1, h2⟩ := q_sub h is hn hs
  refine W.widen hcm hsm ?_
  exact W.vret X.1 X.2.1 hr (fun t ht hW => ⟨⟨u, rfl, hq, by rw [ht]; exact h1, h2⟩, h.2.2.F ht⟩) h.2.2.2.2 hdg hlk
theorem q_aret {C : String} {ws0 : va_W} {sz mc ms v : Nat} {post : SS → Prop} {wq : SS → va_W} (X : qX p s m args c cc nL own) (hr : meth.sig.returnType = some (.object C)) (hlk : meth.locks = false) (hK : qK D cy s) (h : qW D (va_A ws0 sz) s.heap ws H locs) (u : SS) (hu : v = u.1 0) (hq : post u) (is : List Nat) (hn : va_nd is = true) (hs : is.map (fun i => ws[i]?) = (wq u).map some) (hdg : decode cc pc = .ok (.areturn, 1)) (hcm : cells ≤ mc) (hsm : slots ≤ ms) : W p l e R s m args below meth c H locs cells slots (MQ below (va_Qr post (fun u a t => a = u.1 0 ∧ qB D (va_A ws0 sz) wq u t) (va_A ws0 sz)) args s mc ms (va_A ws0 sz)) (F0 m pc ls [.ref v]) := by
  obtain ⟨h1, h2⟩ := q_sub h is hn hs
  refine W.widen hcm hsm ?_
  exact W.aret X.1 X.2.1 hr (Or.inl ⟨_, rfl⟩) (Or.inr ⟨_, rfl⟩) (fun t ht hW => ⟨⟨u, v, rfl, hq, hu, by rw [ht]; exact h1, h2⟩, h.2.2.F ht⟩) h.2.2.2.2 hdg hlk
theorem q_blind {D : va_G} {cy : Nat → ClassId} {ws : va_W} {sz : Nat} {av : List Value} : FrameBlind (va_Pc av (qP D cy ws sz)) := fun a U g mk q => by
  obtain ⟨q0, q1, qPP, qKK, qD, qTT⟩ := q
  exact ⟨q0, q1, qPP, qK.same (u := U) (U := U.calling g mk a) rfl qKK, qD, qT.same (u := U) (U := U.calling g mk a) rfl rfl qTT⟩
theorem q_callB {y : MethodName} {b : ByteArray} {n k idx mc ms : Nat} {ret : Option FieldType} {rm : Room} (X : qX p s m args c cc nL own) (m1 : Cond.methodLink own idx y ∈ WG) (m2 : Cond.code y b n ret ∈ WG) (m3 : Cond.initialized y.cls ∈ WG) (hd : y.cls ≠ "java/lang/invoke/MethodHandle" ∧ y.cls ≠ "java/lang/invoke/VarHandle" ∧ (parseMethodDescriptor y.desc).map (fun d => d.parameters.length) = some k) (hrc : rm.cells = mc) (hrs : rm.slots = ms) (hR : rm.frames + 1 ≤ R.frames ∧ 8 + (n + 11) + rm.locals ≤ R.locals) : CallB R s args own idx y b n ret (.code y b n ret :: WG) rm mc ms k :=
  callB_of k X.2.2.2.2 (q_goodIn m2) rfl hrc hrs (X.2.2.2.2 _ m3) (X.2.2.2.2 _ m1) hd hR
theorem q_recvS {i : Nat} (hT : qT cy A s) (hi : i < 4) (hS : va_S A s.heap H locs) : ∃ cell : Cell, H[cy (i + 10)]? = some cell ∧ cell.vm.isStatics = false ∧ s.vm.findClass "java/lang/String" = some cell.cls := by
  obtain ⟨cell, h1, h2, h3, h4⟩ := ((hT.1 i hi).1.kept hS.2.1)
  exact ⟨cell, h1, h2, h3⟩
theorem q_callNv (X : qX p s m args c cc nL own) (hK : qK D cy s) (hT : qT cy A s) (hA : ∀ q, s.heap.size ≤ q → A q) (h : qW D A s.heap ws H locs) {y : MethodName} {b : ByteArray} {n idx : Nat} {rm : Room} {As : List Value} {a : Nat} {post : SS → Prop} {wc wr : va_W} {wq : SS → va_W} (hM : ∀ sz : Nat, MV l y b n rm (.ref a :: As) D cy wc sz post wq rm.cells rm.slots) (m1 : (own, idx, y, RX11) ∈ nst) (m2 : Cond.code y b n (none) ∈ WG) (m3 : Cond.initialized y.cls ∈ WG) (hd : y.cls ≠ "java/lang/invoke/MethodHandle" ∧ y.cls ≠ "java/lang/invoke/VarHandle" ∧ (parseMethodDescriptor y.desc).map (fun d => d.parameters.length) = some As.length) (m4 : Cond.instanceMethod y ∈ WG) (hin : y.name = "<init>") (hR : rm.frames + 1 ≤ R.frames ∧ 8 + (n + 11) + rm.locals ≤ R.locals) (hls : ls.size = nL) {st0 : List Value} (hst : st0 = As.reverse ++ .ref a :: rest) (hr8 : (rest.map fun v => v.category).sum ≤ 8) (hdg : decode cc pc = .ok (.invokespecial idx, 3)) (hf : cells + rm.cells ≤ R.cells ∧ slots + rm.slots ≤ R.slots) (isC isR : List Nat) (hnC : va_nd isC = true) (hnR : va_nd isR = true) (hdis : ∀ i ∈ isR, i ∉ isC) (hC : isC.map (fun i => ws[i]?) = wc.map some) (hRr : isR.map (fun i => ws[i]?) = wr.map some) (kk : ∀ (u : SS) (H1 : Heap) (locs1 : List Loc), post u → qW D A s.heap (wr ++ wq u) H1 locs1 → W p l e R s m args below meth c H1 locs1 (cells + rm.cells) (slots + rm.slots) Q (F0 m (pc + 3) ls (rest))) : W p l e R s m args below meth c H locs cells slots Q (F0 m pc ls st0) := by
  subst hst
  obtain ⟨h1, h2⟩ := q_sub h isC hnC hC
  have hFc := va_free (wc := wc) h.2.1 h.2.2 hA isC hC
  refine va_callv (va_runIN X (hM H.size) ⟨va_cnB As.length X.2.2.2.2 (q_goodIn m2) rfl rfl rfl (hK.2.2.2 _ m1) (X.2.2.2.2 _ m3) hd hR, hin, X.2.2.2.2 _ m4⟩ ⟨q_blind, fun U hU hW => ⟨rfl, by rw [hU], by rw [hU]; exact h1, hK.warm hW, h2.weaken (fun _ _ _ _ => trivial), hT.call h.2.2 hFc hU hW⟩⟩ rfl rfl hls rfl (lv_room hr8) hdg hf) h.2.2 (fun q _ hh => hFc q hh) hFc (fun u t H1 locs1 ht hvm hw hB hz1 hk1 hS => ?_)
  obtain ⟨hP1, hD1⟩ := hB
  rw [ht] at hP1
  obtain ⟨hP, hD⟩ := va_join (wr := wr) h.1 h.2.1 isC isR hC hRr hnR hdis hk1 hFc hP1 hD1
  exact kk u H1 locs1 hw ⟨hP, hD, hS⟩
theorem q_callVi (X : qX p s m args c cc nL own) (hK : qK D cy s) (hT : qT cy A s) (hA : ∀ q, s.heap.size ≤ q → A q) (h : qW D A s.heap ws H locs) {y : MethodName} {b : ByteArray} {n idx : Nat} {rm : Room} {As : List Value} {a : Nat} {ret : FieldType} {post : Int32 → SS → Prop} {wc wr : va_W} {wq : SS → va_W} (hM : ∀ sz : Nat, MI l y b n ret rm (.ref a :: As) D cy wc sz post wq rm.cells rm.slots) (m1 : Cond.methodLink own idx y ∈ WG) (m2 : Cond.code y b n (some ret) ∈ WG) (m3 : Cond.initialized y.cls ∈ WG) (hd : y.cls ≠ "java/lang/invoke/MethodHandle" ∧ y.cls ≠ "java/lang/invoke/VarHandle" ∧ (parseMethodDescriptor y.desc).map (fun d => d.parameters.length) = some As.length) {C : String} {T : u_T} {N ci q0 : Nat} {fs : List Value} (m4 : Cond.instanceMethod y ∈ WG) (m5 : Cond.selects C y y ∈ WG) (hc : vwCl[ci]? = some (C, T, N)) (he : wc[q0]? = some (a, .inr (ci, fs))) (hR : rm.frames + 1 ≤ R.frames ∧ 8 + (n + 11) + rm.locals ≤ R.locals) (hls : ls.size = nL) {st0 : List Value} (hst : st0 = As.reverse ++ .ref a :: rest) (hr8 : (rest.map fun v => v.category).sum ≤ 8) (hdg : decode cc pc = .ok (.invokevirtual idx, 3)) (hf : cells + rm.cells ≤ R.cells ∧ slots + rm.slots ≤ R.slots) (isC isR : List Nat) (hnC : va_nd isC = true) (hnR : va_nd isR = true) (hdis : ∀ i ∈ isR, i ∉ isC) (hC : isC.map (fun i => ws[i]?) = wc.map some) (hRr : isR.map (fun i => ws[i]?) = wr.map some) (kk : ∀ (r : Int32) (u : SS) (H1 : Heap) (locs1 : List Loc), post r u → qW D A s.heap (wr ++ wq u) H1 locs1 → W p l e R s m args below meth c H1 locs1 (cells + rm.cells) (slots + rm.slots) Q (F0 m (pc + 3) ls (.int r :: rest))) : W p l e R s m args below meth c H locs cells slots Q (F0 m pc ls st0) := by
  subst hst
  obtain ⟨h1, h2⟩ := q_sub h isC hnC hC
  have hFc := va_free (wc := wc) h.2.1 h.2.2 hA isC hC
  refine va_calli (va_runV X (hM H.size) ⟨q_callB X m1 m2 m3 hd rfl rfl hR, X.2.2.2.2 _ m4, X.2.2.2.2 _ m5⟩ ⟨q_blind, va_recv hK.1 h1 hc he, fun U hU hW => ⟨rfl, by rw [hU], by rw [hU]; exact h1, hK.warm hW, h2.weaken (fun _ _ _ _ => trivial), hT.call h.2.2 hFc hU hW⟩⟩ rfl rfl hls rfl (lv_room hr8) hdg hf) h.2.2 (fun q _ hh => hFc q hh) hFc (fun r u t H1 locs1 ht hvm hw hB hz1 hk1 hS => ?_)
  obtain ⟨hP1, hD1⟩ := hB
  rw [ht] at hP1
  obtain ⟨hP, hD⟩ := va_join (wr := wr) h.1 h.2.1 isC isR hC hRr hnR hdis hk1 hFc hP1 hD1
  exact kk r u H1 locs1 hw ⟨hP, hD, hS⟩
theorem q_callVl (X : qX p s m args c cc nL own) (hK : qK D cy s) (hT : qT cy A s) (hA : ∀ q, s.heap.size ≤ q → A q) (h : qW D A s.heap ws H locs) {y : MethodName} {b : ByteArray} {n idx : Nat} {rm : Room} {As : List Value} {a : Nat} {post : Int64 → SS → Prop} {wc wr : va_W} {wq : SS → va_W} (hM : ∀ sz : Nat, ML l y b n rm (.ref a :: As) D cy wc sz post wq rm.cells rm.slots) (m1 : Cond.methodLink own idx y ∈ WG) (m2 : Cond.code y b n (some .long) ∈ WG) (m3 : Cond.initialized y.cls ∈ WG) (hd : y.cls ≠ "java/lang/invoke/MethodHandle" ∧ y.cls ≠ "java/lang/invoke/VarHandle" ∧ (parseMethodDescriptor y.desc).map (fun d => d.parameters.length) = some As.length) {C : String} {T : u_T} {N ci q0 : Nat} {fs : List Value} (m4 : Cond.instanceMethod y ∈ WG) (m5 : Cond.selects C y y ∈ WG) (hc : vwCl[ci]? = some (C, T, N)) (he : wc[q0]? = some (a, .inr (ci, fs))) (hR : rm.frames + 1 ≤ R.frames ∧ 8 + (n + 11) + rm.locals ≤ R.locals) (hls : ls.size = nL) {st0 : List Value} (hst : st0 = As.reverse ++ .ref a :: rest) (hr8 : (rest.map fun v => v.category).sum ≤ 8) (hdg : decode cc pc = .ok (.invokevirtual idx, 3)) (hf : cells + rm.cells ≤ R.cells ∧ slots + rm.slots ≤ R.slots) (isC isR : List Nat) (hnC : va_nd isC = true) (hnR : va_nd isR = true) (hdis : ∀ i ∈ isR, i ∉ isC) (hC : isC.map (fun i => ws[i]?) = wc.map some) (hRr : isR.map (fun i => ws[i]?) = wr.map some) (kk : ∀ (r : Int64) (u : SS) (H1 : Heap) (locs1 : List Loc), post r u → qW D A s.heap (wr ++ wq u) H1 locs1 → W p l e R s m args below meth c H1 locs1 (cells + rm.cells) (slots + rm.slots) Q (F0 m (pc + 3) ls (.long r :: rest))) : W p l e R s m args below meth c H locs cells slots Q (F0 m pc ls st0) := by
  subst hst
  obtain ⟨h1, h2⟩ := q_sub h isC hnC hC
  have hFc := va_free (wc := wc) h.2.1 h.2.2 hA isC hC
  refine va_calll (va_runV X (hM H.size) ⟨q_callB X m1 m2 m3 hd rfl rfl hR, X.2.2.2.2 _ m4, X.2.2.2.2 _ m5⟩ ⟨q_blind, va_recv hK.1 h1 hc he, fun U hU hW => ⟨rfl, by rw [hU], by rw [hU]; exact h1, hK.warm hW, h2.weaken (fun _ _ _ _ => trivial), hT.call h.2.2 hFc hU hW⟩⟩ rfl rfl hls rfl (lv_room hr8) hdg hf) h.2.2 (fun q _ hh => hFc q hh) hFc (fun r u t H1 locs1 ht hvm hw hB hz1 hk1 hS => ?_)
  obtain ⟨hP1, hD1⟩ := hB
  rw [ht] at hP1
  obtain ⟨hP, hD⟩ := va_join (wr := wr) h.1 h.2.1 isC isR hC hRr hnR hdis hk1 hFc hP1 hD1
  exact kk r u H1 locs1 hw ⟨hP, hD, hS⟩
theorem q_callVv (X : qX p s m args c cc nL own) (hK : qK D cy s) (hT : qT cy A s) (hA : ∀ q, s.heap.size ≤ q → A q) (h : qW D A s.heap ws H locs) {y : MethodName} {b : ByteArray} {n idx : Nat} {rm : Room} {As : List Value} {a : Nat} {post : SS → Prop} {wc wr : va_W} {wq : SS → va_W} (hM : ∀ sz : Nat, MV l y b n rm (.ref a :: As) D cy wc sz post wq rm.cells rm.slots) (m1 : Cond.methodLink own idx y ∈ WG) (m2 : Cond.code y b n (none) ∈ WG) (m3 : Cond.initialized y.cls ∈ WG) (hd : y.cls ≠ "java/lang/invoke/MethodHandle" ∧ y.cls ≠ "java/lang/invoke/VarHandle" ∧ (parseMethodDescriptor y.desc).map (fun d => d.parameters.length) = some As.length) {C : String} {T : u_T} {N ci q0 : Nat} {fs : List Value} (m4 : Cond.instanceMethod y ∈ WG) (m5 : Cond.selects C y y ∈ WG) (hc : vwCl[ci]? = some (C, T, N)) (he : wc[q0]? = some (a, .inr (ci, fs))) (hR : rm.frames + 1 ≤ R.frames ∧ 8 + (n + 11) + rm.locals ≤ R.locals) (hls : ls.size = nL) {st0 : List Value} (hst : st0 = As.reverse ++ .ref a :: rest) (hr8 : (rest.map fun v => v.category).sum ≤ 8) (hdg : decode cc pc = .ok (.invokevirtual idx, 3)) (hf : cells + rm.cells ≤ R.cells ∧ slots + rm.slots ≤ R.slots) (isC isR : List Nat) (hnC : va_nd isC = true) (hnR : va_nd isR = true) (hdis : ∀ i ∈ isR, i ∉ isC) (hC : isC.map (fun i => ws[i]?) = wc.map some) (hRr : isR.map (fun i => ws[i]?) = wr.map some) (kk : ∀ (u : SS) (H1 : Heap) (locs1 : List Loc), post u → qW D A s.heap (wr ++ wq u) H1 locs1 → W p l e R s m args below meth c H1 locs1 (cells + rm.cells) (slots + rm.slots) Q (F0 m (pc + 3) ls (rest))) : W p l e R s m args below meth c H locs cells slots Q (F0 m pc ls st0) := by
  subst hst
  obtain ⟨h1, h2⟩ := q_sub h isC hnC hC
  have hFc := va_free (wc := wc) h.2.1 h.2.2 hA isC hC
  refine va_callv (va_runV X (hM H.size) ⟨q_callB X m1 m2 m3 hd rfl rfl hR, X.2.2.2.2 _ m4, X.2.2.2.2 _ m5⟩ ⟨q_blind, va_recv hK.1 h1 hc he, fun U hU hW => ⟨rfl, by rw [hU], by rw [hU]; exact h1, hK.warm hW, h2.weaken (fun _ _ _ _ => trivial), hT.call h.2.2 hFc hU hW⟩⟩ rfl rfl hls rfl (lv_room hr8) hdg hf) h.2.2 (fun q _ hh => hFc q hh) hFc (fun u t H1 locs1 ht hvm hw hB hz1 hk1 hS => ?_)
  obtain ⟨hP1, hD1⟩ := hB
  rw [ht] at hP1
  obtain ⟨hP, hD⟩ := va_join (wr := wr) h.1 h.2.1 isC isR hC hRr hnR hdis hk1 hFc hP1 hD1
  exact kk u H1 locs1 hw ⟨hP, hD, hS⟩
theorem q_callVr (X : qX p s m args c cc nL own) (hK : qK D cy s) (hT : qT cy A s) (hA : ∀ q, s.heap.size ≤ q → A q) (h : qW D A s.heap ws H locs) {y : MethodName} {b : ByteArray} {n idx : Nat} {rm : Room} {As : List Value} {a : Nat} {C2 : String} {post : SS → Prop} {wc wr : va_W} {wq : SS → va_W} (hM : ∀ sz : Nat, MR l y b n C2 rm (.ref a :: As) D cy wc sz post wq rm.cells rm.slots) (m1 : Cond.methodLink own idx y ∈ WG) (m2 : Cond.code y b n (some (.object C2)) ∈ WG) (m3 : Cond.initialized y.cls ∈ WG) (hd : y.cls ≠ "java/lang/invoke/MethodHandle" ∧ y.cls ≠ "java/lang/invoke/VarHandle" ∧ (parseMethodDescriptor y.desc).map (fun d => d.parameters.length) = some As.length) {C : String} {T : u_T} {N ci q0 : Nat} {fs : List Value} (m4 : Cond.instanceMethod y ∈ WG) (m5 : Cond.selects C y y ∈ WG) (hc : vwCl[ci]? = some (C, T, N)) (he : wc[q0]? = some (a, .inr (ci, fs))) (hR : rm.frames + 1 ≤ R.frames ∧ 8 + (n + 11) + rm.locals ≤ R.locals) (hls : ls.size = nL) {st0 : List Value} (hst : st0 = As.reverse ++ .ref a :: rest) (hr8 : (rest.map fun v => v.category).sum ≤ 8) (hdg : decode cc pc = .ok (.invokevirtual idx, 3)) (hf : cells + rm.cells ≤ R.cells ∧ slots + rm.slots ≤ R.slots) (isC isR : List Nat) (hnC : va_nd isC = true) (hnR : va_nd isR = true) (hdis : ∀ i ∈ isR, i ∉ isC) (hC : isC.map (fun i => ws[i]?) = wc.map some) (hRr : isR.map (fun i => ws[i]?) = wr.map some) (kk : ∀ (u : SS) (H1 : Heap) (locs1 : List Loc), post u → qW D A s.heap (wr ++ wq u) H1 locs1 → W p l e R s m args below meth c H1 locs1 (cells + rm.cells) (slots + rm.slots) Q (F0 m (pc + 3) ls (.ref (u.1 0) :: rest))) : W p l e R s m args below meth c H locs cells slots Q (F0 m pc ls st0) := by
  subst hst
  obtain ⟨h1, h2⟩ := q_sub h isC hnC hC
  have hFc := va_free (wc := wc) h.2.1 h.2.2 hA isC hC
  refine va_callr (va_runV X (hM H.size) ⟨q_callB X m1 m2 m3 hd rfl rfl hR, X.2.2.2.2 _ m4, X.2.2.2.2 _ m5⟩ ⟨q_blind, va_recv hK.1 h1 hc he, fun U hU hW => ⟨rfl, by rw [hU], by rw [hU]; exact h1, hK.warm hW, h2.weaken (fun _ _ _ _ => trivial), hT.call h.2.2 hFc hU hW⟩⟩ rfl rfl hls rfl (lv_room hr8) hdg hf) h.2.2 (fun q _ hh => hFc q hh) hFc (fun u ra t H1 locs1 ht hvm hw hB hz1 hk1 hS => ?_)
  obtain ⟨hra, hP1, hD1⟩ := hB
  subst hra
  rw [ht] at hP1
  obtain ⟨hP, hD⟩ := va_join (wr := wr) h.1 h.2.1 isC isR hC hRr hnR hdis hk1 hFc hP1 hD1
  exact kk u H1 locs1 hw ⟨hP, hD, hS⟩
theorem q_callSi (X : qX p s m args c cc nL own) (hK : qK D cy s) (hT : qT cy A s) (hA : ∀ q, s.heap.size ≤ q → A q) (h : qW D A s.heap ws H locs) {y : MethodName} {b : ByteArray} {n idx : Nat} {rm : Room} {As : List Value} {ret : FieldType} {post : Int32 → SS → Prop} {wc wr : va_W} {wq : SS → va_W} (hM : ∀ sz : Nat, MI l y b n ret rm As D cy wc sz post wq rm.cells rm.slots) (m1 : Cond.methodLink own idx y ∈ WG) (m2 : Cond.code y b n (some ret) ∈ WG) (m3 : Cond.initialized y.cls ∈ WG) (hd : y.cls ≠ "java/lang/invoke/MethodHandle" ∧ y.cls ≠ "java/lang/invoke/VarHandle" ∧ (parseMethodDescriptor y.desc).map (fun d => d.parameters.length) = some As.length) (m4 : Cond.static y ∈ WG) (hR : rm.frames + 1 ≤ R.frames ∧ 8 + (n + 11) + rm.locals ≤ R.locals) (hls : ls.size = nL) {st0 : List Value} (hst : st0 = As.reverse ++ rest) (hr8 : (rest.map fun v => v.category).sum ≤ 8) (hdg : decode cc pc = .ok (.invokestatic idx, 3)) (hf : cells + rm.cells ≤ R.cells ∧ slots + rm.slots ≤ R.slots) (isC isR : List Nat) (hnC : va_nd isC = true) (hnR : va_nd isR = true) (hdis : ∀ i ∈ isR, i ∉ isC) (hC : isC.map (fun i => ws[i]?) = wc.map some) (hRr : isR.map (fun i => ws[i]?) = wr.map some) (kk : ∀ (r : Int32) (u : SS) (H1 : Heap) (locs1 : List Loc), post r u → qW D A s.heap (wr ++ wq u) H1 locs1 → W p l e R s m args below meth c H1 locs1 (cells + rm.cells) (slots + rm.slots) Q (F0 m (pc + 3) ls (.int r :: rest))) : W p l e R s m args below meth c H locs cells slots Q (F0 m pc ls st0) := by
  subst hst
  obtain ⟨h1, h2⟩ := q_sub h isC hnC hC
  have hFc := va_free (wc := wc) h.2.1 h.2.2 hA isC hC
  refine va_calli (va_runS X (hM H.size) ⟨q_callB X m1 m2 m3 hd rfl rfl hR, X.2.2.2.2 _ m4⟩ ⟨q_blind, fun U hU hW => ⟨rfl, by rw [hU], by rw [hU]; exact h1, hK.warm hW, h2.weaken (fun _ _ _ _ => trivial), hT.call h.2.2 hFc hU hW⟩⟩ rfl rfl hls rfl (lv_room hr8) hdg hf) h.2.2 (fun q _ hh => hFc q hh) hFc (fun r u t H1 locs1 ht hvm hw hB hz1 hk1 hS => ?_)
  obtain ⟨hP1, hD1⟩ := hB
  rw [ht] at hP1
  obtain ⟨hP, hD⟩ := va_join (wr := wr) h.1 h.2.1 isC isR hC hRr hnR hdis hk1 hFc hP1 hD1
  exact kk r u H1 locs1 hw ⟨hP, hD, hS⟩
theorem q_callSl (X : qX p s m args c cc nL own) (hK : qK D cy s) (hT : qT cy A s) (hA : ∀ q, s.heap.size ≤ q → A q) (h : qW D A s.heap ws H locs) {y : MethodName} {b : ByteArray} {n idx : Nat} {rm : Room} {As : List Value} {post : Int64 → SS → Prop} {wc wr : va_W} {wq : SS → va_W} (hM : ∀ sz : Nat, ML l y b n rm As D cy wc sz post wq rm.cells rm.slots) (m1 : Cond.methodLink own idx y ∈ WG) (m2 : Cond.code y b n (some .long) ∈ WG) (m3 : Cond.initialized y.cls ∈ WG) (hd : y.cls ≠ "java/lang/invoke/MethodHandle" ∧ y.cls ≠ "java/lang/invoke/VarHandle" ∧ (parseMethodDescriptor y.desc).map (fun d => d.parameters.length) = some As.length) (m4 : Cond.static y ∈ WG) (hR : rm.frames + 1 ≤ R.frames ∧ 8 + (n + 11) + rm.locals ≤ R.locals) (hls : ls.size = nL) {st0 : List Value} (hst : st0 = As.reverse ++ rest) (hr8 : (rest.map fun v => v.category).sum ≤ 8) (hdg : decode cc pc = .ok (.invokestatic idx, 3)) (hf : cells + rm.cells ≤ R.cells ∧ slots + rm.slots ≤ R.slots) (isC isR : List Nat) (hnC : va_nd isC = true) (hnR : va_nd isR = true) (hdis : ∀ i ∈ isR, i ∉ isC) (hC : isC.map (fun i => ws[i]?) = wc.map some) (hRr : isR.map (fun i => ws[i]?) = wr.map some) (kk : ∀ (r : Int64) (u : SS) (H1 : Heap) (locs1 : List Loc), post r u → qW D A s.heap (wr ++ wq u) H1 locs1 → W p l e R s m args below meth c H1 locs1 (cells + rm.cells) (slots + rm.slots) Q (F0 m (pc + 3) ls (.long r :: rest))) : W p l e R s m args below meth c H locs cells slots Q (F0 m pc ls st0) := by
  subst hst
  obtain ⟨h1, h2⟩ := q_sub h isC hnC hC
  have hFc := va_free (wc := wc) h.2.1 h.2.2 hA isC hC
  refine va_calll (va_runS X (hM H.size) ⟨q_callB X m1 m2 m3 hd rfl rfl hR, X.2.2.2.2 _ m4⟩ ⟨q_blind, fun U hU hW => ⟨rfl, by rw [hU], by rw [hU]; exact h1, hK.warm hW, h2.weaken (fun _ _ _ _ => trivial), hT.call h.2.2 hFc hU hW⟩⟩ rfl rfl hls rfl (lv_room hr8) hdg hf) h.2.2 (fun q _ hh => hFc q hh) hFc (fun r u t H1 locs1 ht hvm hw hB hz1 hk1 hS => ?_)
  obtain ⟨hP1, hD1⟩ := hB
  rw [ht] at hP1
  obtain ⟨hP, hD⟩ := va_join (wr := wr) h.1 h.2.1 isC isR hC hRr hnR hdis hk1 hFc hP1 hD1
  exact kk r u H1 locs1 hw ⟨hP, hD, hS⟩
theorem q_callSv (X : qX p s m args c cc nL own) (hK : qK D cy s) (hT : qT cy A s) (hA : ∀ q, s.heap.size ≤ q → A q) (h : qW D A s.heap ws H locs) {y : MethodName} {b : ByteArray} {n idx : Nat} {rm : Room} {As : List Value} {post : SS → Prop} {wc wr : va_W} {wq : SS → va_W} (hM : ∀ sz : Nat, MV l y b n rm As D cy wc sz post wq rm.cells rm.slots) (m1 : Cond.methodLink own idx y ∈ WG) (m2 : Cond.code y b n (none) ∈ WG) (m3 : Cond.initialized y.cls ∈ WG) (hd : y.cls ≠ "java/lang/invoke/MethodHandle" ∧ y.cls ≠ "java/lang/invoke/VarHandle" ∧ (parseMethodDescriptor y.desc).map (fun d => d.parameters.length) = some As.length) (m4 : Cond.static y ∈ WG) (hR : rm.frames + 1 ≤ R.frames ∧ 8 + (n + 11) + rm.locals ≤ R.locals) (hls : ls.size = nL) {st0 : List Value} (hst : st0 = As.reverse ++ rest) (hr8 : (rest.map fun v => v.category).sum ≤ 8) (hdg : decode cc pc = .ok (.invokestatic idx, 3)) (hf : cells + rm.cells ≤ R.cells ∧ slots + rm.slots ≤ R.slots) (isC isR : List Nat) (hnC : va_nd isC = true) (hnR : va_nd isR = true) (hdis : ∀ i ∈ isR, i ∉ isC) (hC : isC.map (fun i => ws[i]?) = wc.map some) (hRr : isR.map (fun i => ws[i]?) = wr.map some) (kk : ∀ (u : SS) (H1 : Heap) (locs1 : List Loc), post u → qW D A s.heap (wr ++ wq u) H1 locs1 → W p l e R s m args below meth c H1 locs1 (cells + rm.cells) (slots + rm.slots) Q (F0 m (pc + 3) ls (rest))) : W p l e R s m args below meth c H locs cells slots Q (F0 m pc ls st0) := by
  subst hst
  obtain ⟨h1, h2⟩ := q_sub h isC hnC hC
  have hFc := va_free (wc := wc) h.2.1 h.2.2 hA isC hC
  refine va_callv (va_runS X (hM H.size) ⟨q_callB X m1 m2 m3 hd rfl rfl hR, X.2.2.2.2 _ m4⟩ ⟨q_blind, fun U hU hW => ⟨rfl, by rw [hU], by rw [hU]; exact h1, hK.warm hW, h2.weaken (fun _ _ _ _ => trivial), hT.call h.2.2 hFc hU hW⟩⟩ rfl rfl hls rfl (lv_room hr8) hdg hf) h.2.2 (fun q _ hh => hFc q hh) hFc (fun u t H1 locs1 ht hvm hw hB hz1 hk1 hS => ?_)
  obtain ⟨hP1, hD1⟩ := hB
  rw [ht] at hP1
  obtain ⟨hP, hD⟩ := va_join (wr := wr) h.1 h.2.1 isC isR hC hRr hnR hdis hk1 hFc hP1 hD1
  exact kk u H1 locs1 hw ⟨hP, hD, hS⟩
theorem q_callIv (X : qX p s m args c cc nL own) (hK : qK D cy s) (hT : qT cy A s) (hA : ∀ q, s.heap.size ≤ q → A q) (h : qW D A s.heap ws H locs) {y : MethodName} {b : ByteArray} {n idx : Nat} {rm : Room} {As : List Value} {a : Nat} {post : SS → Prop} {wc wr : va_W} {wq : SS → va_W} (hM : ∀ sz : Nat, MV l y b n rm (.ref a :: As) D cy wc sz post wq rm.cells rm.slots) (m1 : Cond.methodLink own idx y ∈ WG) (m2 : Cond.code y b n (none) ∈ WG) (m3 : Cond.initialized y.cls ∈ WG) (hd : y.cls ≠ "java/lang/invoke/MethodHandle" ∧ y.cls ≠ "java/lang/invoke/VarHandle" ∧ (parseMethodDescriptor y.desc).map (fun d => d.parameters.length) = some As.length) (m4 : Cond.instanceMethod y ∈ WG) (hin : y.name = "<init>") (hR : rm.frames + 1 ≤ R.frames ∧ 8 + (n + 11) + rm.locals ≤ R.locals) (hls : ls.size = nL) {st0 : List Value} (hst : st0 = As.reverse ++ .ref a :: rest) (hr8 : (rest.map fun v => v.category).sum ≤ 8) (hdg : decode cc pc = .ok (.invokespecial idx, 3)) (hf : cells + rm.cells ≤ R.cells ∧ slots + rm.slots ≤ R.slots) (isC isR : List Nat) (hnC : va_nd isC = true) (hnR : va_nd isR = true) (hdis : ∀ i ∈ isR, i ∉ isC) (hC : isC.map (fun i => ws[i]?) = wc.map some) (hRr : isR.map (fun i => ws[i]?) = wr.map some) (kk : ∀ (u : SS) (H1 : Heap) (locs1 : List Loc), post u → qW D A s.heap (wr ++ wq u) H1 locs1 → W p l e R s m args below meth c H1 locs1 (cells + rm.cells) (slots + rm.slots) Q (F0 m (pc + 3) ls (rest))) : W p l e R s m args below meth c H locs cells slots Q (F0 m pc ls st0) := by
  subst hst
  obtain ⟨h1, h2⟩ := q_sub h isC hnC hC
  have hFc := va_free (wc := wc) h.2.1 h.2.2 hA isC hC
  refine va_callv (va_runI X (hM H.size) ⟨q_callB X m1 m2 m3 hd rfl rfl hR, hin, X.2.2.2.2 _ m4⟩ ⟨q_blind, fun U hU hW => ⟨rfl, by rw [hU], by rw [hU]; exact h1, hK.warm hW, h2.weaken (fun _ _ _ _ => trivial), hT.call h.2.2 hFc hU hW⟩⟩ rfl rfl hls rfl (lv_room hr8) hdg hf) h.2.2 (fun q _ hh => hFc q hh) hFc (fun u t H1 locs1 ht hvm hw hB hz1 hk1 hS => ?_)
  obtain ⟨hP1, hD1⟩ := hB
  rw [ht] at hP1
  obtain ⟨hP, hD⟩ := va_join (wr := wr) h.1 h.2.1 isC isR hC hRr hnR hdis hk1 hFc hP1 hD1
  exact kk u H1 locs1 hw ⟨hP, hD, hS⟩
theorem q_callGi (X : qX p s m args c cc nL own) (hK : qK D cy s) (hT : qT cy A s) (hA : ∀ q, s.heap.size ≤ q → A q) (h : qW D A s.heap ws H locs) {y : MethodName} {b : ByteArray} {n idx : Nat} {rm : Room} {As : List Value} {a : Nat} {ret : FieldType} {post : Int32 → SS → Prop} {wc wr : va_W} {wq : SS → va_W} (hM : ∀ sz : Nat, MI l y b n ret rm (.ref a :: As) D cy wc sz post wq rm.cells rm.slots) (m1 : Cond.methodLink own idx y ∈ WG) (m2 : Cond.code y b n (some ret) ∈ WG) (m3 : Cond.initialized y.cls ∈ WG) (hd : y.cls ≠ "java/lang/invoke/MethodHandle" ∧ y.cls ≠ "java/lang/invoke/VarHandle" ∧ (parseMethodDescriptor y.desc).map (fun d => d.parameters.length) = some As.length) (hcl : y.cls = "java/lang/String") (m4 : Cond.instanceMethod y ∈ WG) (m5 : Cond.selects "java/lang/String" y y ∈ WG) (i : Nat) (hi : i < 4) (hia : a = cy (i + 10)) (hR : rm.frames + 1 ≤ R.frames ∧ 8 + (n + 11) + rm.locals ≤ R.locals) (hls : ls.size = nL) {st0 : List Value} (hst : st0 = As.reverse ++ .ref a :: rest) (hr8 : (rest.map fun v => v.category).sum ≤ 8) (hdg : decode cc pc = .ok (.invokevirtual idx, 3)) (hf : cells + rm.cells ≤ R.cells ∧ slots + rm.slots ≤ R.slots) (isC isR : List Nat) (hnC : va_nd isC = true) (hnR : va_nd isR = true) (hdis : ∀ i ∈ isR, i ∉ isC) (hC : isC.map (fun i => ws[i]?) = wc.map some) (hRr : isR.map (fun i => ws[i]?) = wr.map some) (kk : ∀ (r : Int32) (u : SS) (H1 : Heap) (locs1 : List Loc), post r u → qW D A s.heap (wr ++ wq u) H1 locs1 → W p l e R s m args below meth c H1 locs1 (cells + rm.cells) (slots + rm.slots) Q (F0 m (pc + 3) ls (.int r :: rest))) : W p l e R s m args below meth c H locs cells slots Q (F0 m pc ls st0) := by
  subst hst
  obtain ⟨h1, h2⟩ := q_sub h isC hnC hC
  have hFc := va_free (wc := wc) h.2.1 h.2.2 hA isC hC
  refine va_calli (va_runV X (hM H.size) ⟨q_callB X m1 m2 m3 hd rfl rfl hR, X.2.2.2.2 _ m4, X.2.2.2.2 _ m5⟩ ⟨q_blind, hia ▸ q_recvS hT hi h.2.2, fun U hU hW => ⟨rfl, by rw [hU], by rw [hU]; exact h1, hK.warm hW, h2.weaken (fun _ _ _ _ => trivial), hT.call h.2.2 hFc hU hW⟩⟩ rfl rfl hls rfl (lv_room hr8) hdg hf) h.2.2 (fun q _ hh => hFc q hh) hFc (fun r u t H1 locs1 ht hvm hw hB hz1 hk1 hS => ?_)
  obtain ⟨hP1, hD1⟩ := hB
  rw [ht] at hP1
  obtain ⟨hP, hD⟩ := va_join (wr := wr) h.1 h.2.1 isC isR hC hRr hnR hdis hk1 hFc hP1 hD1
  exact kk r u H1 locs1 hw ⟨hP, hD, hS⟩
theorem q_ldc0 (X : qX p s m args c cc nL RX8) (hT : qT cy A s) (hdg : decode cc pc = .ok (.ldc 65, 2)) (kk : W p l e R s m args below meth c H locs cells slots Q (F0 m (pc + 2) ls (.ref (cy 10) :: rest))) : W p l e R s m args below meth c H locs cells slots Q (F0 m pc ls rest) := by
  obtain ⟨_, ⟨a, b, d, e', r1, r2, r3, r4⟩, _⟩ := hT
  exact va_ldcS X.1 X.2.1 X.2.2.2.1 r1 hdg kk
theorem q_ldc1 (X : qX p s m args c cc nL RX8) (hT : qT cy A s) (hdg : decode cc pc = .ok (.ldc 58, 2)) (kk : W p l e R s m args below meth c H locs cells slots Q (F0 m (pc + 2) ls (.ref (cy 11) :: rest))) : W p l e R s m args below meth c H locs cells slots Q (F0 m pc ls rest) := by
  obtain ⟨_, ⟨a, b, d, e', r1, r2, r3, r4⟩, _⟩ := hT
  exact va_ldcS X.1 X.2.1 X.2.2.2.1 r2 hdg kk
theorem q_ldc2 (X : qX p s m args c cc nL RX12) (hT : qT cy A s) (hdg : decode cc pc = .ok (.ldc 89, 2)) (kk : W p l e R s m args below meth c H locs cells slots Q (F0 m (pc + 2) ls (.ref (cy 12) :: rest))) : W p l e R s m args below meth c H locs cells slots Q (F0 m pc ls rest) := by
  obtain ⟨_, ⟨a, b, d, e', r1, r2, r3, r4⟩, _⟩ := hT
  exact va_ldcS X.1 X.2.1 X.2.2.2.1 r3 hdg kk
theorem q_ldc3 (X : qX p s m args c cc nL RX12) (hT : qT cy A s) (hdg : decode cc pc = .ok (.ldc 127, 2)) (kk : W p l e R s m args below meth c H locs cells slots Q (F0 m (pc + 2) ls (.ref (cy 13) :: rest))) : W p l e R s m args below meth c H locs cells slots Q (F0 m pc ls rest) := by
  obtain ⟨_, ⟨a, b, d, e', r1, r2, r3, r4⟩, _⟩ := hT
  exact va_ldcS X.1 X.2.1 X.2.2.2.1 r4 hdg kk
theorem q_scoder (X : qX p s m args c cc nL own) (hT : qT cy A s) (h : qW D A s.heap ws H locs) {idx : Nat} (i : Nat) (hi : i < 4) (m1 : Cond.fieldLink own idx "java/lang/String" "coder" "B" ∈ WG) (hdg : decode cc pc = .ok (.getfield idx, 3)) (kk : W p l e R s m args below meth c H locs cells slots Q (F0 m (pc + 3) ls (.int 0 :: rest))) : W p l e R s m args below meth c H locs cells slots Q (F0 m pc ls (.ref (cy (i + 10)) :: rest)) :=
  vk_getf X.1 X.2.1 (hT.1 i hi).2.1 h.2.2 X.2.2.2.1 (X.2.2.2.2 _ m1) (fun _ h => h) hdg kk
theorem q_svalue (X : qX p s m args c cc nL own) (hT : qT cy A s) (h : qW D A s.heap ws H locs) {idx : Nat} (i : Nat) (hi : i < 4) (m1 : Cond.fieldLink own idx "java/lang/String" "value" "[B" ∈ WG) (hdg : decode cc pc = .ok (.getfield idx, 3)) (kk : W p l e R s m args below meth c H locs cells slots Q (F0 m (pc + 3) ls (.ref (cy (i + 14)) :: rest))) : W p l e R s m args below meth c H locs cells slots Q (F0 m pc ls (.ref (cy (i + 10)) :: rest)) :=
  vk_getf X.1 X.2.1 (hT.1 i hi).2.2.1 h.2.2 X.2.2.2.1 (X.2.2.2.2 _ m1) (fun _ h => h) hdg kk
theorem q_slen (X : qX p s m args c cc nL own) (hT : qT cy A s) (h : qW D A s.heap ws H locs) (i : Nat) (hi : i < 4) {v : Int32} (hv : Int32.ofNat (lnS.getD i 0) = v) (hdg : decode cc pc = .ok (.arraylength, 1)) (kk : W p l e R s m args below meth c H locs cells slots Q (F0 m (pc + 1) ls (.int v :: rest))) : W p l e R s m args below meth c H locs cells slots Q (F0 m pc ls (.ref (cy (i + 14)) :: rest)) :=
  va_tlen X.1 X.2.1 (hT.1 i hi).2.2.2 h.2.2 hv hdg kk
theorem q_sbyte (X : qX p s m args c cc nL own) (hT : qT cy A s) (h : qW D A s.heap ws H locs) (i : Nat) (hi : i < 4) {k : Int32} (hin : vp_in k (lnS.getD i 0)) (hdg : decode cc pc = .ok (.baload, 1)) (kk : W p l e R s m args below meth c H locs cells slots Q (F0 m (pc + 1) ls (.int ((byS.getD i []).getD k.toNatClampNeg 0) :: rest))) : W p l e R s m args below meth c H locs cells slots Q (F0 m pc ls (.int k :: .ref (cy (i + 14)) :: rest)) :=
  va_tb X.1 X.2.1 (hT.1 i hi).2.2.2 h.2.2 hin rfl hdg kk
theorem q_sgets (X : qX p s m args c cc nL own) (hT : qT cy A s) (h : qW D A s.heap ws H locs) {idx : Nat} (m1 : Cond.fieldLink own idx "java/lang/String" "COMPACT_STRINGS" "Z" ∈ WG) (hdg : decode cc pc = .ok (.getstatic idx, 3)) (kk : W p l e R s m args below meth c H locs cells slots Q (F0 m (pc + 3) ls (.int 1 :: rest))) : W p l e R s m args below meth c H locs cells slots Q (F0 m pc ls rest) :=
  va_gets X.1 X.2.1 hT.2.2.1 h.2.2 X.2.2.2.1 (X.2.2.2.2 _ m1) (fun _ h => h) hdg kk
theorem q_sgetF (X : qX p s m args c cc nL own) (hT : qT cy A s) (h : qW D A s.heap ws H locs) {idx : Nat} (m1 : Cond.fieldLink own idx "jdk/internal/util/Preconditions" "SIOOBE_FORMATTER" "Ljava/util/function/BiFunction;" ∈ WG) (hdg : decode cc pc = .ok (.getstatic idx, 3)) (k1 : W p l e R s m args below meth c H locs cells slots Q (F0 m (pc + 3) ls (.null :: rest))) (k2 : ∀ t : Nat, W p l e R s m args below meth c H locs cells slots Q (F0 m (pc + 3) ls (.ref t :: rest))) : W p l e R s m args below meth c H locs cells slots Q (F0 m pc ls rest) := by
  rcases hT.2.2.2 with hz | ⟨t, hz⟩
  · exact va_gets X.1 X.2.1 hz h.2.2 X.2.2.2.1 (X.2.2.2.2 _ m1) (fun _ h => h) hdg k1
  · exact va_gets X.1 X.2.1 hz h.2.2 X.2.2.2.1 (X.2.2.2.2 _ m1) (fun _ h => h) hdg (k2 t)
theorem q_obj (X : qX p s m args c cc nL own) {idx a : Nat} (m1 : Cond.methodLink own idx Lib.objectInit ∈ WG) (m2 : Cond.instanceMethod Lib.objectInit ∈ WG) (m3 : Cond.code Lib.objectInit ⟨#[0xb1]⟩ 1 none ∈ WG) (hls : ls.size = nL) (hdg : decode cc pc = .ok (.invokespecial idx, 3)) (hfr : 1 ≤ R.frames) (hlo : (rest.map fun v => v.category).sum + 12 ≤ R.locals) (kk : W p l e R s m args below meth c H locs cells slots Q (F0 m (pc + 3) ls rest)) : W p l e R s m args below meth c H locs cells slots Q (F0 m pc ls (.ref a :: rest)) :=
  W.objInit X.1 X.2.1 X.2.2.2.1 (X.2.2.2.2 _ m1) (X.2.2.2.2 _ m2) (X.2.2.2.2 _ m3) rfl (hls.trans X.2.2.1.symm) rfl hdg hfr (by show 2 * (F0 m pc ls (.ref a :: rest)).monitorRoom + _ + 12 ≤ _; exact Nat.le_trans (Nat.le_of_eq (by simp [JFrame.monitorRoom])) hlo) kk
theorem q_copy (X : qX p s m args c cc nL own) (hK : qK D cy s) (h : qW D A H0 ws H locs) {idx : Nat} (m1 : Cond.methodLink own idx arraycopyName ∈ WG) (m2 : Cond.native arraycopyName ∈ WG) (m3 : Cond.static arraycopyName ∈ WG) (m4 : Cond.initialized "java/lang/System" ∈ WG) (hls : ls.size = nL) (q0 q1 : Nat) {a a0 n0 n1 : Nat} {f g : Nat → Int32} (he0 : ws[q0]? = some (a0, .inl (cy 1, n0, .inl f))) (he1 : ws[q1]? = some (a, .inl (cy 1, n1, .inl g))) {sp dp n : Int32} (h1 : ¬ sp < 0) (h2 : ¬ dp < 0) (h3 : ¬ n < 0) (h4 : sp.toNatClampNeg + n.toNatClampNeg ≤ n0) (h5 : dp.toNatClampNeg + n.toNatClampNeg ≤ n1) (hfr : 1 ≤ R.frames) (hlo : (rest.map fun v => v.category).sum + 18 ≤ R.locals) (hdg : decode cc pc = .ok (.invokestatic idx, 3)) (kk : ∀ (f1 : Nat → Int32) (H1 : Heap) (locs1 : List Loc), qW D A H0 (ws.set q1 (a, .inl (cy 1, n1, .inl f1))) H1 locs1 → W p l e R s m args below meth c H1 locs1 cells slots Q (F0 m (pc + 3) ls rest)) : W p l e R s m args below meth c H locs cells slots Q (F0 m pc ls (.int n :: .int dp :: .ref a :: .int sp :: .ref a0 :: rest)) :=
  va_copyi X.1 X.2.1 (X.2.2.1.trans hls.symm) X.2.2.2.1 (X.2.2.2.2 _ m1) (X.2.2.2.2 _ m2) (X.2.2.2.2 _ m3) (X.2.2.2.2 _ m4) hK.1 h.1 h.2.1 h.2.2 q0 q1 1 1 he0 he1 rfl rfl rfl h1 h2 h3 h4 h5 (fun _ _ => rfl) hfr hlo hdg (fun H1 locs1 a b d => kk _ H1 locs1 ⟨a, b, d⟩)
theorem q_0and (x : Int32) : 0 &&& x = 0 := by simp
theorem q_and0 (x : Int32) : x &&& 0 = 0 := by simp
theorem q_un {f : Nat → Int32} {k i : Nat} {x v : Int32} (hne : i ≠ k) (hv : f i = v) : upd f k x i = v := by unfold upd; rw [if_neg hne]; exact hv
theorem q_ue {f : Nat → Int32} {k : Nat} {x : Int32} : upd f k x k = x := by unfold upd; rw [if_pos rfl]
theorem q_us {f : Nat → Int32} {k : Nat} {x : Int32} (hv : f k = x) : upd f k x = f := by
  funext j; unfold upd; split
  · subst_vars; rfl
  · rfl
theorem q_usL {f : Nat → Int64} {k : Nat} {x : Int64} (hv : f k = x) : vp_updL f k x = f := by
  funext j; unfold vp_updL; split
  · subst_vars; rfl
  · rfl
theorem q_num {x : Int32} (h1 : 0 ≤ x) (h2 : x ≤ 40) : ∃ N : Nat, N ≤ 40 ∧ x = nI N := by
  simp only [Int32.le_iff_toInt_le] at h1 h2
  have k0 : (0 : Int32).toInt = 0 := by decide
  have k1 : (40 : Int32).toInt = 40 := by decide
  refine ⟨x.toInt.toNat, by omega, ?_⟩
  apply Int32.toInt_inj.mp
  rw [nI_toInt (by omega)]
  omega
theorem q_andm (x : Int32) : x &&& (-1) = x := by simp
theorem q_lc_lt (x y : Int64) : (lg_cmp x y < 0) = (x.toInt < y.toInt) := propext ((lg_cmp_lt x y).trans Int64.lt_iff_toInt_lt)
theorem q_lc_ge (x y : Int64) : (0 ≤ lg_cmp x y) = (y.toInt ≤ x.toInt) := propext ((lg_cmp_ge x y).trans Int64.le_iff_toInt_le)
theorem q_lc_gt (x y : Int64) : (0 < lg_cmp x y) = (y.toInt < x.toInt) := propext ((lg_cmp_gt x y).trans Int64.lt_iff_toInt_lt)
theorem q_lc_le (x y : Int64) : (lg_cmp x y ≤ 0) = (x.toInt ≤ y.toInt) := propext ((lg_cmp_le x y).trans Int64.le_iff_toInt_le)
theorem q_lc_eq (x y : Int64) : (lg_cmp x y = 0) = (x.toInt = y.toInt) := propext ((lg_cmp_eq x y).trans Int64.toInt_inj.symm)
theorem q_loop {P : Nat → Heap → List Loc → Array Slot → Prop} (N k0 : Nat) (hk0 : k0 ≤ N) (h0 : P k0 H locs ls) (step : ∀ k, k < N → (∀ H locs ls, P (k + 1) H locs ls → W p l e R s m args below meth c H locs cells slots Q (F0 m pc ls [])) → ∀ H locs ls, P k H locs ls → W p l e R s m args below meth c H locs cells slots Q (F0 m pc ls [])) (last : ∀ H locs ls, P N H locs ls → W p l e R s m args below meth c H locs cells slots Q (F0 m pc ls [])) : W p l e R s m args below meth c H locs cells slots Q (F0 m pc ls []) := by
  have main : ∀ (n k : Nat), k + n = N → ∀ H locs ls, P k H locs ls → W p l e R s m args below meth c H locs cells slots Q (F0 m pc ls []) := by
    intro n
    induction n with
    | zero => intro k hk; rw [Nat.add_zero] at hk; subst hk; exact last
    | succ n ih => intro k hk; exact step k (by omega) (ih (k + 1) (by omega))
  exact main (N - k0) k0 (by omega) H locs ls h0
end QL
