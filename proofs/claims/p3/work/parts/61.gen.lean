
def putL : List Nat → va_W → va_W → va_W
  | i :: is, c :: cs, ws => putL is cs (ws.set i c)
  | _, _, ws => ws
def restI (is : List Nat) (n : Nat) : List Nat := (List.range n).filter (fun i => decide (i ∉ is))
def restW (is : List Nat) (ws : va_W) : va_W := (restI is ws.length).filterMap (fun i => ws[i]?)
theorem nd_va : ∀ (l : List Nat), l.Nodup → va_nd l = true
  | [], _ => rfl
  | a :: l, h => by
    obtain ⟨h1, h2⟩ := List.nodup_cons.mp h
    simp only [va_nd, Bool.and_eq_true, decide_eq_true_eq]
    exact ⟨h1, nd_va l h2⟩
theorem restI_nd (is : List Nat) (n : Nat) : va_nd (restI is n) = true := nd_va _ (List.filter_sublist.nodup List.nodup_range)
theorem restI_lt {is : List Nat} {n i : Nat} (h : i ∈ restI is n) : i < n ∧ i ∉ is := ⟨List.mem_range.mp (List.mem_filter.mp h).1, of_decide_eq_true (List.mem_filter.mp h).2⟩
theorem fm_map {ws : va_W} : ∀ (l : List Nat), (∀ i ∈ l, i < ws.length) → l.map (fun i => ws[i]?) = (l.filterMap (fun i => ws[i]?)).map some
  | [], _ => rfl
  | i :: l, h => by
    have hi : i < ws.length := h i List.mem_cons_self
    have e : ws[i]? = some ws[i] := List.getElem?_eq_getElem hi
    have e2 : (i :: l).filterMap (fun i => ws[i]?) = ws[i] :: l.filterMap (fun i => ws[i]?) := List.filterMap_cons_some (f := fun i => ws[i]?) e
    rw [e2]
    exact congr (congrArg List.cons e) (fm_map l (fun j hj => h j (List.mem_cons_of_mem _ hj)))
theorem va_nodup : ∀ (l : List Nat), va_nd l = true → l.Nodup
  | [], _ => List.nodup_nil
  | a :: l, h => by
    simp only [va_nd, Bool.and_eq_true, decide_eq_true_eq] at h
    exact List.nodup_cons.mpr ⟨h.1, va_nodup l h.2⟩
theorem put_out : ∀ (is : List Nat) (cs ws : va_W) (k : Nat), k ∉ is → (putL is cs ws)[k]? = ws[k]? := by
  intro is
  induction is with
  | nil => intro cs ws k _; cases cs <;> rfl
  | cons i is ih =>
    intro cs ws k hk
    cases cs with
    | nil => rfl
    | cons c cs =>
      have h1 := ih cs (ws.set i c) k (fun hm => hk (List.mem_cons_of_mem _ hm))
      have h2 : (ws.set i c)[k]? = ws[k]? := List.getElem?_set_ne (fun e => hk (by rw [e]; exact List.mem_cons_self))
      exact h1.trans h2
theorem put_len : ∀ (is : List Nat) (cs ws : va_W), (putL is cs ws).length = ws.length := by
  intro is
  induction is with
  | nil => intro cs ws; cases cs <;> rfl
  | cons i is ih =>
    intro cs ws
    cases cs with
    | nil => rfl
    | cons c cs => exact (ih cs (ws.set i c)).trans List.length_set
theorem put_at : ∀ (is : List Nat) (cs ws : va_W), is.Nodup → (∀ i ∈ is, i < ws.length) → cs.length = is.length → is.filterMap (fun k => (putL is cs ws)[k]?) = cs := by
  intro is
  induction is with
  | nil => intro cs ws _ _ hl; cases cs with
    | nil => rfl
    | cons c cs => simp at hl
  | cons i is ih =>
    intro cs ws hn hi hl
    cases cs with
    | nil => simp at hl
    | cons c cs =>
      obtain ⟨n1, n2⟩ := List.nodup_cons.mp hn
      have hl2 : cs.length = is.length := by simpa using hl
      have h1 := ih cs (ws.set i c) n2 (fun j hj => by rw [List.length_set]; exact hi j (List.mem_cons_of_mem _ hj)) hl2
      have h2 : (putL is cs (ws.set i c))[i]? = some c := by
        rw [put_out is cs (ws.set i c) i n1]
        exact List.getElem?_set_self (hi i List.mem_cons_self)
      show (i :: is).filterMap (fun k => (putL is cs (ws.set i c))[k]?) = c :: cs
      rw [List.filterMap_cons_some (f := fun k => (putL is cs (ws.set i c))[k]?) h2, h1]
theorem fm_all (L : va_W) : (List.range L.length).filterMap (fun k => L[k]?) = L := by
  have h1 := fm_map (ws := L) (List.range L.length) (fun i hi => List.mem_range.mp hi)
  have h2 : L.map some = (List.range L.length).map (fun k => L[k]?) := by
    apply List.ext_getElem?
    intro k
    by_cases hk : k < L.length
    · rw [List.getElem?_map, List.getElem?_map, List.getElem?_range hk, List.getElem?_eq_getElem hk]
      show some (some _) = some (L[k]?)
      rw [List.getElem?_eq_getElem hk]
    · rw [List.getElem?_eq_none (by rw [List.length_map]; omega), List.getElem?_eq_none (by rw [List.length_map, List.length_range]; omega)]
  exact ((List.map_inj_right (fun _ _ h => Option.some.inj h)).mp (h2.trans h1)).symm
theorem fm_congr {f g : Nat → Option (Nat × va_E)} : ∀ (l : List Nat), (∀ k ∈ l, f k = g k) → l.filterMap f = l.filterMap g
  | [], _ => rfl
  | k :: l, h => by
    have h1 := h k List.mem_cons_self
    have h2 := fm_congr l (fun j hj => h j (List.mem_cons_of_mem _ hj))
    rw [List.filterMap_cons, List.filterMap_cons, h1, h2]
theorem put_perm {is : List Nat} {cs ws : va_W} (hn : is.Nodup) (hi : ∀ i ∈ is, i < ws.length) (hl : cs.length = is.length) : (restW is ws ++ cs).Perm (putL is cs ws) := by
  have hr : (List.range ws.length).Perm (restI is ws.length ++ is) := by
    refine (List.perm_ext_iff_of_nodup List.nodup_range (List.nodup_append.mpr ⟨List.filter_sublist.nodup List.nodup_range, hn, fun a ha b hb e => (restI_lt ha).2 (e ▸ hb)⟩)).mpr (fun k => ?_)
    constructor
    · intro hk
      by_cases hm : k ∈ is
      · exact List.mem_append.mpr (Or.inr hm)
      · exact List.mem_append.mpr (Or.inl (List.mem_filter.mpr ⟨hk, decide_eq_true hm⟩))
    · intro hk
      exact (List.mem_append.mp hk).elim (fun h => List.mem_range.mpr (restI_lt h).1) (fun h => List.mem_range.mpr (hi k h))
  have h1 := (hr.filterMap (fun k => (putL is cs ws)[k]?)).symm
  rw [List.filterMap_append, put_at is cs ws hn hi hl] at h1
  have h2 : (restI is ws.length).filterMap (fun k => (putL is cs ws)[k]?) = restW is ws := by
    refine fm_congr _ ?_
    intro k hk
    exact put_out is cs ws k (restI_lt hk).2
  rw [h2] at h1
  have h3 := fm_all (putL is cs ws)
  rw [put_len] at h3
  rw [h3] at h1
  exact h1
theorem q_putL {D : va_G} {A : Nat → Prop} {H0 H1 : Heap} {locs1 : List Loc} {ws pl' wc cs : va_W} {is : List Nat} (hn : va_nd is = true) (hC : is.map (fun i => ws[i]?) = wc.map some) (ha : cs.length = wc.length) (h1 : qW D A H0 ((restW is ws ++ cs) ++ pl') H1 locs1) : qW D A H0 (putL is cs ws ++ pl') H1 locs1 := by
  have hi : ∀ i ∈ is, i < ws.length := fun i hm => by
    have h2 : ws[i]? ∈ is.map (fun i => ws[i]?) := List.mem_map.mpr ⟨i, hm, rfl⟩
    rw [hC] at h2
    obtain ⟨q, _, hq⟩ := List.mem_map.mp h2
    exact (List.getElem?_eq_some_iff.mp hq.symm).1
  have hl : cs.length = is.length := by
    have e1 := congrArg List.length hC
    rw [List.length_map, List.length_map] at e1
    exact ha.trans e1.symm
  have hp := (put_perm (va_nodup is hn) hi hl).append_right pl'
  exact q_perm (X := []) h1 hp
theorem q_rotX {D : va_G} {A : Nat → Prop} {H0 H : Heap} {locs : List Loc} {wm wx pl : va_W} (h : qW D A H0 (wm ++ (wx ++ pl)) H locs) : qW D A H0 (wx ++ (pl ++ wm)) H locs := by
  have h1 : qW D A H0 ([] ++ (wm ++ (wx ++ pl))) H locs := h
  have h2 := q_perm (X := []) h1 (List.perm_append_comm (l₁ := wm) (l₂ := wx ++ pl))
  exact q_row h2 (List.append_assoc wx pl wm).symm
theorem q_rotM {D : va_G} {A : Nat → Prop} {H0 H : Heap} {locs : List Loc} {wm wx pl : va_W} (h : qW D A H0 (wx ++ (pl ++ wm)) H locs) : qW D A H0 (wm ++ (wx ++ pl)) H locs := by
  have h0 : qW D A H0 ((wx ++ pl) ++ wm) H locs := q_row h (List.append_assoc wx pl wm)
  have h1 : qW D A H0 ([] ++ ((wx ++ pl) ++ wm)) H locs := h0
  exact q_perm (X := []) h1 (List.perm_append_comm (l₁ := wx ++ pl) (l₂ := wm))
theorem q_open {D : va_G} {A : Nat → Prop} {H0 H : Heap} {locs : List Loc} {wx pl N r P : va_W} (h : qW D A H0 (wx ++ (pl ++ P)) H locs) (hp : pl.Perm (N ++ r)) : qW D A H0 ((wx ++ N) ++ (r ++ P)) H locs := by
  have h1 := q_perm h (hp.append_right P)
  exact q_row h1 (by simp only [List.append_assoc])
theorem q_back {D : va_G} {A : Nat → Prop} {H0 H : Heap} {locs : List Loc} {w2 ws pl N r P : va_W} (h : qW D A H0 (ws ++ (r ++ P)) H locs) (hp : pl.Perm (N ++ r)) (e : ws = w2 ++ N) : qW D A H0 (w2 ++ (pl ++ P)) H locs := by
  subst e
  have h1 : qW D A H0 (w2 ++ ((N ++ r) ++ P)) H locs := q_row h (by simp only [List.append_assoc])
  exact q_perm h1 (hp.symm.append_right P)
theorem q_backW {D : va_G} {A : Nat → Prop} {H0 H : Heap} {locs : List Loc} {w2 ws pl t P : va_W} (h : qW D A H0 (ws ++ (t ++ (pl ++ P))) H locs) (e : ws = w2) : qW D A H0 (w2 ++ ((t ++ pl) ++ P)) H locs := by
  subst e
  exact q_row h (by simp only [List.append_assoc])
def ixf : List Nat → Nat → Nat → Option Nat
  | [], _, _ => none
  | i :: is, k, t => if i = k then some t else ixf is k (t + 1)
abbrev putD : Nat × va_E := (0, .inr (0, []))
def putX : List (Option Nat) → va_W → va_W → va_W
  | none :: ix, w :: ws, cs => w :: putX ix ws cs
  | some t :: ix, _ :: ws, cs => cs.getD t putD :: putX ix ws cs
  | _, _, _ => []
theorem put_in : ∀ (is : List Nat) (cs ws : va_W) (k t0 : Nat), is.Nodup → cs.length = is.length → (∀ i ∈ is, i < ws.length) → (ixf is k t0 = none → k ∉ is) ∧ ∀ t, ixf is k t0 = some t → ∃ j, t = t0 + j ∧ (putL is cs ws)[k]? = cs[j]? := by
  intro is
  induction is with
  | nil => intro cs ws k t0 _ _ _; exact ⟨fun _ => List.not_mem_nil, fun t h => by cases h⟩
  | cons i is ih =>
    intro cs ws k t0 hn hl hi
    cases cs with
    | nil => simp at hl
    | cons c cs =>
      obtain ⟨n1, n2⟩ := List.nodup_cons.mp hn
      have hl2 : cs.length = is.length := by simpa using hl
      obtain ⟨h1, h2⟩ := ih cs (ws.set i c) k (t0 + 1) n2 hl2 (fun j hj => by rw [List.length_set]; exact hi j (List.mem_cons_of_mem _ hj))
      by_cases he : i = k
      · subst he
        refine ⟨fun h => ?_, fun t h => ?_⟩
        · rw [ixf, if_pos rfl] at h; cases h
        · rw [ixf, if_pos rfl] at h
          cases h
          refine ⟨0, rfl, ?_⟩
          show (putL is cs (ws.set i c))[i]? = some c
          rw [put_out is cs (ws.set i c) i n1]
          exact List.getElem?_set_self (hi i List.mem_cons_self)
      · refine ⟨fun h => ?_, fun t h => ?_⟩
        · rw [ixf, if_neg he] at h
          exact fun hm => (List.mem_cons.mp hm).elim (fun e => he e.symm) (h1 h)
        · rw [ixf, if_neg he] at h
          obtain ⟨j, hj, hq⟩ := h2 t h
          refine ⟨j + 1, by omega, ?_⟩
          show (putL is cs (ws.set i c))[k]? = cs[j]?
          exact hq
theorem putX_len : ∀ (ix : List (Option Nat)) (ws cs : va_W), ws.length = ix.length → (putX ix ws cs).length = ws.length := by
  intro ix
  induction ix with
  | nil => intro ws cs h; cases ws with
    | nil => rfl
    | cons w ws => simp at h
  | cons o ix ih =>
    intro ws cs h
    cases ws with
    | nil => simp at h
    | cons w ws =>
      have h2 : ws.length = ix.length := by simpa using h
      cases o with
      | none => show (putX ix ws cs).length + 1 = ws.length + 1; rw [ih ws cs h2]
      | some t => show (putX ix ws cs).length + 1 = ws.length + 1; rw [ih ws cs h2]
theorem putX_get : ∀ (ix : List (Option Nat)) (ws cs : va_W) (k : Nat), ws.length = ix.length → (ix[k]? = some none → (putX ix ws cs)[k]? = ws[k]?) ∧ ∀ t, ix[k]? = some (some t) → (putX ix ws cs)[k]? = some (cs.getD t putD) := by
  intro ix
  induction ix with
  | nil => intro ws cs k _; exact ⟨fun h => by simp at h, fun t h => by simp at h⟩
  | cons o ix ih =>
    intro ws cs k h
    cases ws with
    | nil => simp at h
    | cons w ws =>
      have h2 : ws.length = ix.length := by simpa using h
      cases k with
      | zero =>
        refine ⟨fun h => ?_, fun t h => ?_⟩
        · have e : o = none := Option.some.inj h
          subst e; rfl
        · have e : o = some t := Option.some.inj h
          subst e; rfl
      | succ k =>
        obtain ⟨h3, h4⟩ := ih ws cs k h2
        refine ⟨fun h => ?_, fun t h => ?_⟩
        · have h5 := h3 h
          cases o <;> exact h5
        · have h5 := h4 t h
          cases o <;> exact h5
theorem putX_eq {is : List Nat} {ix : List (Option Nat)} {cs ws : va_W} (hn : va_nd is = true) (hl : cs.length = is.length) (hx : ix = (List.range ix.length).map (fun k => ixf is k 0)) (hw : ws.length = ix.length) (hi : ∀ i ∈ is, i < ix.length) : putX ix ws cs = putL is cs ws := by
  have hi2 : ∀ i ∈ is, i < ws.length := fun i h => by rw [hw]; exact hi i h
  apply List.ext_getElem?
  intro k
  by_cases hk : k < ws.length
  · have hk2 : k < ix.length := by rw [← hw]; exact hk
    have e : ix[k]? = some (ixf is k 0) := by
      rw [hx, List.getElem?_map, List.getElem?_range hk2]
      rfl
    obtain ⟨h1, h2⟩ := put_in is cs ws k 0 (va_nodup is hn) hl hi2
    obtain ⟨h3, h4⟩ := putX_get ix ws cs k hw
    cases ht : ixf is k 0 with
    | none =>
      rw [ht] at e
      rw [h3 e, put_out is cs ws k (h1 ht)]
    | some t =>
      rw [ht] at e
      obtain ⟨j, hj, hq⟩ := h2 t ht
      have hj2 : t = j := by omega
      subst hj2
      rw [h4 t e, hq]
      have hlt : k < (putL is cs ws).length := by rw [put_len]; exact hk
      rw [List.getElem?_eq_getElem hlt] at hq
      rw [List.getD_eq_getElem?_getD, ← hq]
      rfl
  · rw [List.getElem?_eq_none (by rw [putX_len ix ws cs hw]; omega), List.getElem?_eq_none (by rw [put_len]; omega)]
theorem q_pX {D : va_G} {A : Nat → Prop} {H0 H : Heap} {locs : List Loc} {is : List Nat} {ix : List (Option Nat)} {cs ws T : va_W} (h : qW D A H0 (putL is cs ws ++ T) H locs) (hn : va_nd is = true) (hl : cs.length = is.length) (hx : ix = (List.range ix.length).map (fun k => ixf is k 0)) (hw : ws.length = ix.length) (hi : ∀ i ∈ is, i < ix.length) : qW D A H0 (putX ix ws cs ++ T) H locs := q_row h (by rw [putX_eq hn hl hx hw hi])
section QF
variable {p : Program} {l : Launch} {e : Env} {R : Room} {s : State} {m : MethodId} {args : Array Value} {below : List Frame} {meth : Method} {c : Code} {H H0 : Heap} {locs : List Loc} {cells slots : Nat} {Q : State → Prop} {cc : ByteArray} {nL pc : Nat} {own : String} {ls : Array Slot} {rest : List Value} {D : va_G} {cy : Nat → ClassId} {A : Nat → Prop} {ws pl : va_W}
theorem q_callViF (X : qX p s m args c cc nL own) (hK : qK D cy s) (hT : qT cy A s) (hA : ∀ q, s.heap.size ≤ q → A q) (h : qW D A s.heap (ws ++ pl) H locs) {y : MethodName} {b : ByteArray} {n idx : Nat} {rm : Room} {As : List Value} {a : Nat} {ret : FieldType} {post : Int32 → SS → Prop} {wc : va_W} {wq : SS → va_W} (hM : ∀ sz : Nat, MI l y b n ret rm (.ref a :: As) D cy wc sz post wq rm.cells rm.slots) (m1 : Cond.methodLink own idx y ∈ WG) (m2 : Cond.code y b n (some ret) ∈ WG) (m3 : Cond.initialized y.cls ∈ WG) (hd : y.cls ≠ "java/lang/invoke/MethodHandle" ∧ y.cls ≠ "java/lang/invoke/VarHandle" ∧ (parseMethodDescriptor y.desc).map (fun d => d.parameters.length) = some As.length) {C : String} {T : u_T} {N ci q0 : Nat} {fs : List Value} (m4 : Cond.instanceMethod y ∈ WG) (m5 : Cond.selects C y y ∈ WG) (hc : vwCl[ci]? = some (C, T, N)) (he : wc[q0]? = some (a, .inr (ci, fs))) (hR : rm.frames + 1 ≤ R.frames ∧ 8 + (n + 11) + rm.locals ≤ R.locals) (hls : ls.size = nL) {st0 : List Value} (hst : st0 = As.reverse ++ .ref a :: rest) (hr8 : (rest.map fun v => v.category).sum ≤ 8) (hdg : decode cc pc = .ok (.invokevirtual idx, 3)) (hf : cells + rm.cells ≤ R.cells ∧ slots + rm.slots ≤ R.slots) (isC : List Nat) (hnC : va_nd isC = true) (hC : isC.map (fun i => ws[i]?) = wc.map some) (ha : ∀ u, (wq u).length = wc.length) (kk : ∀ (r : Int32) (u : SS) (H1 : Heap) (locs1 : List Loc), post r u → qW D A s.heap (putL isC (wq u) ws ++ pl) H1 locs1 → W p l e R s m args below meth c H1 locs1 (cells + rm.cells) (slots + rm.slots) Q (F0 m (pc + 3) ls (.int r :: rest))) : W p l e R s m args below meth c H locs cells slots Q (F0 m pc ls st0) :=
  q_callViT (wr := restW isC ws) X hK hT hA h hM m1 m2 m3 hd m4 m5 hc he hR hls hst hr8 hdg hf isC (restI isC ws.length) hnC (restI_nd _ _) (fun i hi => (restI_lt hi).2) hC (fm_map _ (fun i hi => (restI_lt hi).1)) (fun r u H1 locs1 hp hw => kk r u H1 locs1 hp (q_putL hnC hC (ha u) hw))
theorem q_callVlF (X : qX p s m args c cc nL own) (hK : qK D cy s) (hT : qT cy A s) (hA : ∀ q, s.heap.size ≤ q → A q) (h : qW D A s.heap (ws ++ pl) H locs) {y : MethodName} {b : ByteArray} {n idx : Nat} {rm : Room} {As : List Value} {a : Nat} {post : Int64 → SS → Prop} {wc : va_W} {wq : SS → va_W} (hM : ∀ sz : Nat, ML l y b n rm (.ref a :: As) D cy wc sz post wq rm.cells rm.slots) (m1 : Cond.methodLink own idx y ∈ WG) (m2 : Cond.code y b n (some .long) ∈ WG) (m3 : Cond.initialized y.cls ∈ WG) (hd : y.cls ≠ "java/lang/invoke/MethodHandle" ∧ y.cls ≠ "java/lang/invoke/VarHandle" ∧ (parseMethodDescriptor y.desc).map (fun d => d.parameters.length) = some As.length) {C : String} {T : u_T} {N ci q0 : Nat} {fs : List Value} (m4 : Cond.instanceMethod y ∈ WG) (m5 : Cond.selects C y y ∈ WG) (hc : vwCl[ci]? = some (C, T, N)) (he : wc[q0]? = some (a, .inr (ci, fs))) (hR : rm.frames + 1 ≤ R.frames ∧ 8 + (n + 11) + rm.locals ≤ R.locals) (hls : ls.size = nL) {st0 : List Value} (hst : st0 = As.reverse ++ .ref a :: rest) (hr8 : (rest.map fun v => v.category).sum ≤ 8) (hdg : decode cc pc = .ok (.invokevirtual idx, 3)) (hf : cells + rm.cells ≤ R.cells ∧ slots + rm.slots ≤ R.slots) (isC : List Nat) (hnC : va_nd isC = true) (hC : isC.map (fun i => ws[i]?) = wc.map some) (ha : ∀ u, (wq u).length = wc.length) (kk : ∀ (r : Int64) (u : SS) (H1 : Heap) (locs1 : List Loc), post r u → qW D A s.heap (putL isC (wq u) ws ++ pl) H1 locs1 → W p l e R s m args below meth c H1 locs1 (cells + rm.cells) (slots + rm.slots) Q (F0 m (pc + 3) ls (.long r :: rest))) : W p l e R s m args below meth c H locs cells slots Q (F0 m pc ls st0) :=
  q_callVlT (wr := restW isC ws) X hK hT hA h hM m1 m2 m3 hd m4 m5 hc he hR hls hst hr8 hdg hf isC (restI isC ws.length) hnC (restI_nd _ _) (fun i hi => (restI_lt hi).2) hC (fm_map _ (fun i hi => (restI_lt hi).1)) (fun r u H1 locs1 hp hw => kk r u H1 locs1 hp (q_putL hnC hC (ha u) hw))
theorem q_callViWF (X : qX p s m args c cc nL own) (hK : qK D cy s) (hT : qT cy A s) (hA : ∀ q, s.heap.size ≤ q → A q) (h : qW D A s.heap (ws ++ pl) H locs) {y : MethodName} {b : ByteArray} {n idx : Nat} {rm : Room} {As : List Value} {a : Nat} {ret : FieldType} {post : Int32 → S3 → Prop} {wc : va_W} {wq : S3 → va_W} (hM : ∀ sz : Nat, MIw l y b n ret rm (.ref a :: As) D cy wc sz post wq rm.cells rm.slots) (m1 : Cond.methodLink own idx y ∈ WG) (m2 : Cond.code y b n (some ret) ∈ WG) (m3 : Cond.initialized y.cls ∈ WG) (hd : y.cls ≠ "java/lang/invoke/MethodHandle" ∧ y.cls ≠ "java/lang/invoke/VarHandle" ∧ (parseMethodDescriptor y.desc).map (fun d => d.parameters.length) = some As.length) {C : String} {T : u_T} {N ci q0 : Nat} {fs : List Value} (m4 : Cond.instanceMethod y ∈ WG) (m5 : Cond.selects C y y ∈ WG) (hc : vwCl[ci]? = some (C, T, N)) (he : wc[q0]? = some (a, .inr (ci, fs))) (hR : rm.frames + 1 ≤ R.frames ∧ 8 + (n + 11) + rm.locals ≤ R.locals) (hls : ls.size = nL) {st0 : List Value} (hst : st0 = As.reverse ++ .ref a :: rest) (hr8 : (rest.map fun v => v.category).sum ≤ 8) (hdg : decode cc pc = .ok (.invokevirtual idx, 3)) (hf : cells + rm.cells ≤ R.cells ∧ slots + rm.slots ≤ R.slots) (isC : List Nat) (hnC : va_nd isC = true) (hC : isC.map (fun i => ws[i]?) = wc.map some) (ha : ∀ u, (wq u).length = wc.length) (kk : ∀ (r : Int32) (u : S3) (H1 : Heap) (locs1 : List Loc), post r u → qW D A s.heap (putL isC (wq u) ws ++ (u.2.1 ++ pl)) H1 locs1 → W p l e R s m args below meth c H1 locs1 (cells + rm.cells) (slots + rm.slots) Q (F0 m (pc + 3) ls (.int r :: rest))) : W p l e R s m args below meth c H locs cells slots Q (F0 m pc ls st0) :=
  q_callViW (wr := restW isC ws) X hK hT hA h hM m1 m2 m3 hd m4 m5 hc he hR hls hst hr8 hdg hf isC (restI isC ws.length) hnC (restI_nd _ _) (fun i hi => (restI_lt hi).2) hC (fm_map _ (fun i hi => (restI_lt hi).1)) (fun r u H1 locs1 hp hw => kk r u H1 locs1 hp (q_putL hnC hC (ha u) hw))
end QF
