
def putL : List Nat → va_W → va_W → va_W
  | i :: is, c :: cs, ws => putL is cs (ws.set i c)
  | _, _, ws => ws
theorem put_mem : ∀ (is : List Nat) (cs ws : va_W) (k : Nat) (q : Nat × va_E), is.length ≤ cs.length → (putL is cs ws)[k]? = some q → q ∈ cs ∨ (k ∉ is ∧ ws[k]? = some q) := by
  intro is
  induction is with
  | nil => intro cs ws k q _ h; exact Or.inr ⟨List.not_mem_nil, by cases cs <;> exact h⟩
  | cons i is ih =>
    intro cs ws k q hl h
    cases cs with
    | nil => simp at hl
    | cons c cs =>
      have hl2 : is.length ≤ cs.length := by simpa using hl
      rcases ih cs (ws.set i c) k q hl2 h with h1 | ⟨h1, h2⟩
      · exact Or.inl (List.mem_cons_of_mem _ h1)
      · by_cases hk : k = i
        · subst hk
          by_cases hlt : k < ws.length
          · rw [List.getElem?_set_self hlt] at h2
            cases h2
            exact Or.inl List.mem_cons_self
          · have hge : (ws.set k c).length ≤ k := by rw [List.length_set]; omega
            rw [List.getElem?_eq_none hge] at h2
            cases h2
        · rw [List.getElem?_set_ne (fun h => hk h.symm)] at h2
          exact Or.inr ⟨fun hm => (List.mem_cons.mp hm).elim hk h1, h2⟩
theorem set_same {l : List Nat} {i a : Nat} (h : l[i]? = some a) : l.set i a = l := by
  apply List.ext_getElem?
  intro k
  by_cases hk : i = k
  · subst hk
    have hlt : i < l.length := (List.getElem?_eq_some_iff.mp h).1
    rw [List.getElem?_set_self hlt, h]
  · rw [List.getElem?_set_ne hk]
theorem put_adr : ∀ (is : List Nat) (cs ws : va_W), is.map (fun i => (adr ws)[i]?) = (adr cs).map some → adr (putL is cs ws) = adr ws := by
  intro is
  induction is with
  | nil => intro cs ws _; cases cs <;> rfl
  | cons i is ih =>
    intro cs ws h
    cases cs with
    | nil => rfl
    | cons c cs =>
      have h' : (adr ws)[i]? :: is.map (fun i => (adr ws)[i]?) = some c.1 :: (adr cs).map some := h
      obtain ⟨h1, h2⟩ := List.cons.inj h'
      have e : adr (ws.set i c) = adr ws := by
        show (ws.set i c).map Prod.fst = ws.map Prod.fst
        rw [List.map_set]
        exact set_same h1
      have h3 := ih cs (ws.set i c) (by rw [e]; exact h2)
      show adr (putL is cs (ws.set i c)) = adr ws
      rw [h3, e]
def restI (is : List Nat) (n : Nat) : List Nat := (List.range n).filter (fun i => decide (i ∉ is))
def restW (is : List Nat) (ws : va_W) : va_W := (restI is ws.length).filterMap (fun i => ws[i]?)
theorem nd_va : ∀ (l : List Nat), l.Nodup → va_nd l = true
  | [], _ => rfl
  | a :: l, h => by
    obtain ⟨h1, h2⟩ := List.nodup_cons.mp h
    simp only [va_nd, Bool.and_eq_true, decide_eq_true_eq]
    exact ⟨h1, nd_va l h2⟩
theorem restI_nd (is : List Nat) (n : Nat) : va_nd (restI is n) = true := nd_va _ (List.filter_sublist.nodup List.nodup_range)
theorem restI_lt {is : List Nat} {n i : Nat} (h : i ∈ restI is n) : i < n ∧ i ∉ is := ⟨List.mem_range.mp (List.mem_filter.mp h).1, of_decide_eq_true (List.mem_filter.mp h).2⟩
theorem fm_map {ws : va_W} : ∀ (l : List Nat), (∀ i ∈ l, i < ws.length) → l.map (fun i => ws[i]?) = (l.filterMap (fun i => ws[i]?)).map some
  | [], _ => rfl
  | i :: l, h => by
    have hi : i < ws.length := h i List.mem_cons_self
    have e : ws[i]? = some ws[i] := List.getElem?_eq_getElem hi
    have e2 : (i :: l).filterMap (fun i => ws[i]?) = ws[i] :: l.filterMap (fun i => ws[i]?) := List.filterMap_cons_some (f := fun i => ws[i]?) e
    rw [e2]
    exact congr (congrArg List.cons e) (fm_map l (fun j hj => h j (List.mem_cons_of_mem _ hj)))
theorem rest_mem {is : List Nat} {ws : va_W} {k : Nat} {q : Nat × va_E} (hk : k ∉ is) (h : ws[k]? = some q) : q ∈ restW is ws :=
  List.mem_filterMap.mpr ⟨k, List.mem_filter.mpr ⟨List.mem_range.mpr (List.getElem?_eq_some_iff.mp h).1, decide_eq_true hk⟩, h⟩
theorem q_putL {D : va_G} {A : Nat → Prop} {H0 H H1 : Heap} {locs locs1 : List Loc} {ws pl pl' wc cs : va_W} {is : List Nat} (h : qW D A H0 (ws ++ pl) H locs) (hC : is.map (fun i => ws[i]?) = wc.map some) (ha : adr cs = adr wc) (h1 : qW D A H0 ((restW is ws ++ cs) ++ pl') H1 locs1) : qW D A H0 (putL is cs ws ++ pl') H1 locs1 := by
  have hal : is.map (fun i => (adr ws)[i]?) = (adr cs).map some := by
    rw [ha]
    have e0 : is.map (fun i => (adr ws)[i]?) = (is.map (fun i => ws[i]?)).map (Option.map Prod.fst) := by
      rw [List.map_map]
      apply List.map_congr_left
      intro i _
      show (ws.map Prod.fst)[i]? = _
      rw [List.getElem?_map]
      rfl
    rw [e0, hC, List.map_map]
    show _ = (wc.map Prod.fst).map some
    rw [List.map_map]
    rfl
  have had := put_adr is cs ws hal
  have hlen : is.length ≤ cs.length := by
    have e1 := congrArg List.length hal
    rw [List.length_map, List.length_map, List.length_map] at e1
    exact Nat.le_of_eq e1
  have hP1 := vp_mem.mp h1.1
  have hN1 := ad_nodup h1.2.1
  have hsub : ∀ q ∈ putL is cs ws, q ∈ restW is ws ++ cs := fun q hq => by
    obtain ⟨k, hk⟩ := List.getElem?_of_mem hq
    rcases put_mem is cs ws k q hlen hk with h2 | ⟨h2, h3⟩
    · exact List.mem_append.mpr (Or.inr h2)
    · exact List.mem_append.mpr (Or.inl (rest_mem h2 h3))
  have hall : ∀ q ∈ putL is cs ws ++ pl', q ∈ (restW is ws ++ cs) ++ pl' := fun q hq =>
    (List.mem_append.mp hq).elim (fun h2 => List.mem_append.mpr (Or.inl (hsub q h2))) (fun h2 => List.mem_append.mpr (Or.inr h2))
  refine ⟨vp_mem.mpr (fun q hq => hP1 q (hall q hq)), nodup_D ?_ (fun q hq => ?_), h1.2.2⟩
  · have e1 : adr (putL is cs ws ++ pl') = adr (putL is cs ws) ++ adr pl' := List.map_append
    have e2 : adr ((restW is ws ++ cs) ++ pl') = adr (restW is ws ++ cs) ++ adr pl' := List.map_append
    rw [e1, had]
    rw [e2] at hN1
    obtain ⟨n1, n2, n3⟩ := List.nodup_append.mp hN1
    have hN0 := ad_nodup h.2.1
    have e3 : adr (ws ++ pl) = adr ws ++ adr pl := List.map_append
    rw [e3] at hN0
    refine List.nodup_append.mpr ⟨(List.nodup_append.mp hN0).1, n2, fun a ha2 b hb2 => ?_⟩
    rw [← had] at ha2
    obtain ⟨q, hq, rfl⟩ := List.mem_map.mp ha2
    exact n3 _ (List.mem_map.mpr ⟨q, hsub q hq, rfl⟩) b hb2
  · obtain ⟨k, hk⟩ := List.getElem?_of_mem (hall q hq)
    exact h1.2.1.2 k q hk
theorem q_rotX {D : va_G} {A : Nat → Prop} {H0 H : Heap} {locs : List Loc} {wm wx pl : va_W} (h : qW D A H0 (wm ++ (wx ++ pl)) H locs) : qW D A H0 (wx ++ (pl ++ wm)) H locs := by
  have h1 : qW D A H0 ([] ++ (wm ++ (wx ++ pl))) H locs := h
  have h2 := q_perm (X := []) h1 (List.perm_append_comm (l₁ := wm) (l₂ := wx ++ pl))
  exact q_row h2 (List.append_assoc wx pl wm).symm
theorem q_rotM {D : va_G} {A : Nat → Prop} {H0 H : Heap} {locs : List Loc} {wm wx pl : va_W} (h : qW D A H0 (wx ++ (pl ++ wm)) H locs) : qW D A H0 (wm ++ (wx ++ pl)) H locs := by
  have h0 : qW D A H0 ((wx ++ pl) ++ wm) H locs := q_row h (List.append_assoc wx pl wm)
  have h1 : qW D A H0 ([] ++ ((wx ++ pl) ++ wm)) H locs := h0
  exact q_perm (X := []) h1 (List.perm_append_comm (l₁ := wx ++ pl) (l₂ := wm))
theorem q_open {D : va_G} {A : Nat → Prop} {H0 H : Heap} {locs : List Loc} {wx pl N r P : va_W} (h : qW D A H0 (wx ++ (pl ++ P)) H locs) (hp : pl.Perm (N ++ r)) : qW D A H0 ((wx ++ N) ++ (r ++ P)) H locs := by
  have h1 := q_perm h (hp.append_right P)
  exact q_row h1 (by simp only [List.append_assoc])
theorem q_back {D : va_G} {A : Nat → Prop} {H0 H : Heap} {locs : List Loc} {w2 ws pl N r P : va_W} (h : qW D A H0 (ws ++ (r ++ P)) H locs) (hp : pl.Perm (N ++ r)) (e : ws = w2 ++ N) : qW D A H0 (w2 ++ (pl ++ P)) H locs := by
  subst e
  have h1 : qW D A H0 (w2 ++ ((N ++ r) ++ P)) H locs := q_row h (by simp only [List.append_assoc])
  exact q_perm h1 (hp.symm.append_right P)
theorem q_backW {D : va_G} {A : Nat → Prop} {H0 H : Heap} {locs : List Loc} {w2 ws pl t P : va_W} (h : qW D A H0 (ws ++ (t ++ (pl ++ P))) H locs) (e : ws = w2) : qW D A H0 (w2 ++ ((t ++ pl) ++ P)) H locs := by
  subst e
  exact q_row h (by simp only [List.append_assoc])
section QF
variable {p : Program} {l : Launch} {e : Env} {R : Room} {s : State} {m : MethodId} {args : Array Value} {below : List Frame} {meth : Method} {c : Code} {H H0 : Heap} {locs : List Loc} {cells slots : Nat} {Q : State → Prop} {cc : ByteArray} {nL pc : Nat} {own : String} {ls : Array Slot} {rest : List Value} {D : va_G} {cy : Nat → ClassId} {A : Nat → Prop} {ws pl : va_W}
theorem q_callViF (X : qX p s m args c cc nL own) (hK : qK D cy s) (hT : qT cy A s) (hA : ∀ q, s.heap.size ≤ q → A q) (h : qW D A s.heap (ws ++ pl) H locs) {y : MethodName} {b : ByteArray} {n idx : Nat} {rm : Room} {As : List Value} {a : Nat} {ret : FieldType} {post : Int32 → SS → Prop} {wc : va_W} {wq : SS → va_W} (hM : ∀ sz : Nat, MI l y b n ret rm (.ref a :: As) D cy wc sz post wq rm.cells rm.slots) (m1 : Cond.methodLink own idx y ∈ WG) (m2 : Cond.code y b n (some ret) ∈ WG) (m3 : Cond.initialized y.cls ∈ WG) (hd : y.cls ≠ "java/lang/invoke/MethodHandle" ∧ y.cls ≠ "java/lang/invoke/VarHandle" ∧ (parseMethodDescriptor y.desc).map (fun d => d.parameters.length) = some As.length) {C : String} {T : u_T} {N ci q0 : Nat} {fs : List Value} (m4 : Cond.instanceMethod y ∈ WG) (m5 : Cond.selects C y y ∈ WG) (hc : vwCl[ci]? = some (C, T, N)) (he : wc[q0]? = some (a, .inr (ci, fs))) (hR : rm.frames + 1 ≤ R.frames ∧ 8 + (n + 11) + rm.locals ≤ R.locals) (hls : ls.size = nL) {st0 : List Value} (hst : st0 = As.reverse ++ .ref a :: rest) (hr8 : (rest.map fun v => v.category).sum ≤ 8) (hdg : decode cc pc = .ok (.invokevirtual idx, 3)) (hf : cells + rm.cells ≤ R.cells ∧ slots + rm.slots ≤ R.slots) (isC : List Nat) (hnC : va_nd isC = true) (hC : isC.map (fun i => ws[i]?) = wc.map some) (ha : ∀ u, adr (wq u) = adr wc) (kk : ∀ (r : Int32) (u : SS) (H1 : Heap) (locs1 : List Loc), post r u → qW D A s.heap (putL isC (wq u) ws ++ pl) H1 locs1 → W p l e R s m args below meth c H1 locs1 (cells + rm.cells) (slots + rm.slots) Q (F0 m (pc + 3) ls (.int r :: rest))) : W p l e R s m args below meth c H locs cells slots Q (F0 m pc ls st0) :=
  q_callViT (wr := restW isC ws) X hK hT hA h hM m1 m2 m3 hd m4 m5 hc he hR hls hst hr8 hdg hf isC (restI isC ws.length) hnC (restI_nd _ _) (fun i hi => (restI_lt hi).2) hC (fm_map _ (fun i hi => (restI_lt hi).1)) (fun r u H1 locs1 hp hw => kk r u H1 locs1 hp (q_putL h hC (ha u) hw))
theorem q_callVlF (X : qX p s m args c cc nL own) (hK : qK D cy s) (hT : qT cy A s) (hA : ∀ q, s.heap.size ≤ q → A q) (h : qW D A s.heap (ws ++ pl) H locs) {y : MethodName} {b : ByteArray} {n idx : Nat} {rm : Room} {As : List Value} {a : Nat} {post : Int64 → SS → Prop} {wc : va_W} {wq : SS → va_W} (hM : ∀ sz : Nat, ML l y b n rm (.ref a :: As) D cy wc sz post wq rm.cells rm.slots) (m1 : Cond.methodLink own idx y ∈ WG) (m2 : Cond.code y b n (some .long) ∈ WG) (m3 : Cond.initialized y.cls ∈ WG) (hd : y.cls ≠ "java/lang/invoke/MethodHandle" ∧ y.cls ≠ "java/lang/invoke/VarHandle" ∧ (parseMethodDescriptor y.desc).map (fun d => d.parameters.length) = some As.length) {C : String} {T : u_T} {N ci q0 : Nat} {fs : List Value} (m4 : Cond.instanceMethod y ∈ WG) (m5 : Cond.selects C y y ∈ WG) (hc : vwCl[ci]? = some (C, T, N)) (he : wc[q0]? = some (a, .inr (ci, fs))) (hR : rm.frames + 1 ≤ R.frames ∧ 8 + (n + 11) + rm.locals ≤ R.locals) (hls : ls.size = nL) {st0 : List Value} (hst : st0 = As.reverse ++ .ref a :: rest) (hr8 : (rest.map fun v => v.category).sum ≤ 8) (hdg : decode cc pc = .ok (.invokevirtual idx, 3)) (hf : cells + rm.cells ≤ R.cells ∧ slots + rm.slots ≤ R.slots) (isC : List Nat) (hnC : va_nd isC = true) (hC : isC.map (fun i => ws[i]?) = wc.map some) (ha : ∀ u, adr (wq u) = adr wc) (kk : ∀ (r : Int64) (u : SS) (H1 : Heap) (locs1 : List Loc), post r u → qW D A s.heap (putL isC (wq u) ws ++ pl) H1 locs1 → W p l e R s m args below meth c H1 locs1 (cells + rm.cells) (slots + rm.slots) Q (F0 m (pc + 3) ls (.long r :: rest))) : W p l e R s m args below meth c H locs cells slots Q (F0 m pc ls st0) :=
  q_callVlT (wr := restW isC ws) X hK hT hA h hM m1 m2 m3 hd m4 m5 hc he hR hls hst hr8 hdg hf isC (restI isC ws.length) hnC (restI_nd _ _) (fun i hi => (restI_lt hi).2) hC (fm_map _ (fun i hi => (restI_lt hi).1)) (fun r u H1 locs1 hp hw => kk r u H1 locs1 hp (q_putL h hC (ha u) hw))
theorem q_callViWF (X : qX p s m args c cc nL own) (hK : qK D cy s) (hT : qT cy A s) (hA : ∀ q, s.heap.size ≤ q → A q) (h : qW D A s.heap (ws ++ pl) H locs) {y : MethodName} {b : ByteArray} {n idx : Nat} {rm : Room} {As : List Value} {a : Nat} {ret : FieldType} {post : Int32 → S3 → Prop} {wc : va_W} {wq : S3 → va_W} (hM : ∀ sz : Nat, MIw l y b n ret rm (.ref a :: As) D cy wc sz post wq rm.cells rm.slots) (m1 : Cond.methodLink own idx y ∈ WG) (m2 : Cond.code y b n (some ret) ∈ WG) (m3 : Cond.initialized y.cls ∈ WG) (hd : y.cls ≠ "java/lang/invoke/MethodHandle" ∧ y.cls ≠ "java/lang/invoke/VarHandle" ∧ (parseMethodDescriptor y.desc).map (fun d => d.parameters.length) = some As.length) {C : String} {T : u_T} {N ci q0 : Nat} {fs : List Value} (m4 : Cond.instanceMethod y ∈ WG) (m5 : Cond.selects C y y ∈ WG) (hc : vwCl[ci]? = some (C, T, N)) (he : wc[q0]? = some (a, .inr (ci, fs))) (hR : rm.frames + 1 ≤ R.frames ∧ 8 + (n + 11) + rm.locals ≤ R.locals) (hls : ls.size = nL) {st0 : List Value} (hst : st0 = As.reverse ++ .ref a :: rest) (hr8 : (rest.map fun v => v.category).sum ≤ 8) (hdg : decode cc pc = .ok (.invokevirtual idx, 3)) (hf : cells + rm.cells ≤ R.cells ∧ slots + rm.slots ≤ R.slots) (isC : List Nat) (hnC : va_nd isC = true) (hC : isC.map (fun i => ws[i]?) = wc.map some) (ha : ∀ u, adr (wq u) = adr wc) (kk : ∀ (r : Int32) (u : S3) (H1 : Heap) (locs1 : List Loc), post r u → qW D A s.heap (putL isC (wq u) ws ++ (u.2.1 ++ pl)) H1 locs1 → W p l e R s m args below meth c H1 locs1 (cells + rm.cells) (slots + rm.slots) Q (F0 m (pc + 3) ls (.int r :: rest))) : W p l e R s m args below meth c H locs cells slots Q (F0 m pc ls st0) :=
  q_callViW (wr := restW isC ws) X hK hT hA h hM m1 m2 m3 hd m4 m5 hc he hR hls hst hr8 hdg hf isC (restI isC ws.length) hnC (restI_nd _ _) (fun i hi => (restI_lt hi).2) hC (fm_map _ (fun i hi => (restI_lt hi).1)) (fun r u H1 locs1 hp hw => kk r u H1 locs1 hp (q_putL h hC (ha u) hw))
end QF
