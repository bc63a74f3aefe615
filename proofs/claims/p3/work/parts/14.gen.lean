theorem wm_2_72 : Cond.fieldLink RX2 9 "OppositeHouse$History" "size" "I" ∈ WG := wg_t2 (List.mem_of_getElem? (i := 72) rfl) rfl
theorem wf_2 : ∀ w ∈ u_ws RX2 TX2 2, w ∈ WG := sorry
theorem dX2_forget_0 : decode cX2_forget 0 = .ok (.aload_n 0, 1) := sorry
theorem dX2_forget_1 : decode cX2_forget 1 = .ok (.iconst 0, 1) := sorry
theorem dX2_forget_2 : decode cX2_forget 2 = .ok (.putfield 9, 3) := sorry
theorem dX2_forget_5 : decode cX2_forget 5 = .ok (.return_, 1) := sorry
set_option maxHeartbeats 4000000 in
set_option maxRecDepth 100000 in
theorem gX2_forget_062d4b6 (l : Launch) (D : va_G) (cy : Nat → ClassId) (h0 : Nat) (p0 : Int32) (w0 : Value) (hp0 : 0 ≤ (p0).toInt ∧ (p0).toInt ≤ 10) (sz : Nat) : MV l yX2_forget cX2_forget 1 { frames := 0, cells := 0, slots := 0, locals := 0 } [.ref h0] D cy [(h0, .inr (2, [.int p0, w0]))] sz (fun u => (0 ≤ (u.2.1 0 0).toInt ∧ (u.2.1 0 0).toInt ≤ 0) ∧ True) (fun u => [(h0, .inr (2, [.int (u.2.1 0 0), w0]))]) 0 0 := sorry