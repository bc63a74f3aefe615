/-! ## the tape -/
def byA (v : Int) (j : Nat) : Int := v / 2 ^ (24 - 8 * j) % 256
def pk5 (a b c d e : Int) (i : Nat) : Int := if i = 0 then a else if i = 1 then b else if i = 2 then c else if i = 3 then d else e
def fdB (b : Nat → Int) (L : Int) (v : Nat → Int) : Nat → Int := fun k => if L ≤ (k : Int) ∧ (k : Int) < L + 20 then byA (v ((k - L.toNat) / 4)) ((k - L.toNat) % 4) else b k
theorem ush {x w : Int32} {k : UInt32} {n : Nat} (hk : k.toNat % 32 = n) (e : (x.toUInt32 >>> k).toInt32 = w) : w.toBitVec.toNat = x.toBitVec.toNat >>> n := by
  rw [← e, ← hk]
  show (x.toUInt32 >>> k).toNat = _
  rw [UInt32.toNat_shiftRight]; rfl
theorem by_v {x w z : Int32} {k : UInt32} {n j : Nat} (hk : k.toNat % 32 = n) (hj : (n = 24 ∧ j = 0) ∨ (n = 16 ∧ j = 1) ∨ (n = 8 ∧ j = 2) ∨ (n = 0 ∧ j = 3)) (e1 : (x.toUInt32 >>> k).toInt32 = w) (e2 : w.toInt8.toInt32 = z) : (vp_nar .byte z).toInt % 256 = byA x.toInt j := by
  have h1 := ush hk e1
  have h2 : z.toInt = w.toInt.bmod (2 ^ 8) := by rw [← e2, Int8.toInt_toInt32, Int32.toInt_toInt8]
  have h3 : (vp_nar .byte z).toInt = z.toInt.bmod (2 ^ 8) := by
    show (z.toInt8.toInt32).toInt = _
    rw [Int8.toInt_toInt32, Int32.toInt_toInt8]
  have hw : w.toInt = w.toBitVec.toInt := rfl
  have hx : x.toInt = x.toBitVec.toInt := rfl
  have lw := w.toBitVec.isLt
  have lx := x.toBitVec.isLt
  rw [BitVec.toInt_eq_toNat_cond] at hw hx
  rw [Int.bmod_def] at h2 h3
  rw [Nat.shiftRight_eq_div_pow] at h1
  unfold byA
  rcases hj with ⟨a, b⟩ | ⟨a, b⟩ | ⟨a, b⟩ | ⟨a, b⟩ <;> (subst a; subst b; simp only [Nat.reducePow, Nat.reduceMul, Nat.reduceSub, Int.reducePow] at *; split at h2 <;> split at h3 <;> split at hw <;> split at hx <;> omega)
/-- the first j bytes of v stand from L on -/
def PTS (f F : Nat → Int32) (L v j : Int) : Prop := ∀ k : Nat, bB F k = if L ≤ (k : Int) ∧ (k : Int) < L + j then byA v (k - L.toNat) else bB f k
theorem pts_0 {f : Nat → Int32} {L v j : Int} (h : j = 0) : PTS f f L v j := fun k => by rw [if_neg (by omega)]
theorem pts_s {f f1 F : Nat → Int32} {L j j2 : Int} {x w z i : Int32} {k : UInt32} {n m : Nat} (h : PTS f f1 L x.toInt j) (h0 : 0 ≤ L) (hi : i.toInt = L + j) (hm : j = m) (hk : k.toNat % 32 = n) (hj : (n = 24 ∧ m = 0) ∨ (n = 16 ∧ m = 1) ∨ (n = 8 ∧ m = 2) ∨ (n = 0 ∧ m = 3)) (e1 : (x.toUInt32 >>> k).toInt32 = w) (e2 : w.toInt8.toInt32 = z) (eF : upd f1 (Int32.toNatClampNeg i) (vp_nar .byte z) = F) (ej : j2 = j + 1) : PTS f F L x.toInt j2 := fun q => by
  have e0 := c_nat (x := i) (by omega)
  have hv := by_v hk hj e1 e2
  have hq := h q
  subst eF
  unfold bB upd at *
  by_cases c : q = i.toNatClampNeg
  · rw [if_pos c, if_pos (by omega), hv]
    have : q - L.toNat = m := by omega
    rw [this]
  · rw [if_neg c, hq]
    by_cases d : L ≤ (q : Int) ∧ (q : Int) < L + j
    · rw [if_pos d, if_pos (by omega)]
    · rw [if_neg d, if_neg (by omega)]
theorem fd_all {f0 f1 f2 f3 f4 f5 : Nat → Int32} {L L1 L2 L3 L4 a b c d e : Int} (h1 : 900 < L + 4 ∨ PTS f0 f1 L a 4) (h2 : 900 < L1 + 4 ∨ PTS f1 f2 L1 b 4) (h3 : 900 < L2 + 4 ∨ PTS f2 f3 L2 c 4) (h4 : 900 < L3 + 4 ∨ PTS f3 f4 L3 d 4) (h5 : 900 < L4 + 4 ∨ PTS f4 f5 L4 e 4) (h0 : 0 ≤ L) (hL : L + 20 ≤ 900) (e1 : L1 = L + 4) (e2 : L2 = L + 8) (e3 : L3 = L + 12) (e4 : L4 = L + 16) : bB f5 = fdB (bB f0) L (pk5 a b c d e) := by
  have g1 := h1.resolve_left (by omega)
  have g2 := h2.resolve_left (by omega)
  have g3 := h3.resolve_left (by omega)
  have g4 := h4.resolve_left (by omega)
  have g5 := h5.resolve_left (by omega)
  subst e1; subst e2; subst e3; subst e4
  funext k
  unfold fdB
  rw [g5 k]
  by_cases c5 : L + 16 ≤ (k : Int) ∧ (k : Int) < L + 16 + 4
  · rw [if_pos c5, if_pos (by omega)]
    have q1 : (k - L.toNat) / 4 = 4 := by omega
    have q2 : (k - L.toNat) % 4 = k - (L + 16).toNat := by omega
    rw [q1, q2]; rfl
  · rw [if_neg c5, g4 k]
    by_cases c4 : L + 12 ≤ (k : Int) ∧ (k : Int) < L + 12 + 4
    · rw [if_pos c4, if_pos (by omega)]
      have q1 : (k - L.toNat) / 4 = 3 := by omega
      have q2 : (k - L.toNat) % 4 = k - (L + 12).toNat := by omega
      rw [q1, q2]; rfl
    · rw [if_neg c4, g3 k]
      by_cases c3 : L + 8 ≤ (k : Int) ∧ (k : Int) < L + 8 + 4
      · rw [if_pos c3, if_pos (by omega)]
        have q1 : (k - L.toNat) / 4 = 2 := by omega
        have q2 : (k - L.toNat) % 4 = k - (L + 8).toNat := by omega
        rw [q1, q2]; rfl
      · rw [if_neg c3, g2 k]
        by_cases c2 : L + 4 ≤ (k : Int) ∧ (k : Int) < L + 4 + 4
        · rw [if_pos c2, if_pos (by omega)]
          have q1 : (k - L.toNat) / 4 = 1 := by omega
          have q2 : (k - L.toNat) % 4 = k - (L + 4).toNat := by omega
          rw [q1, q2]; rfl
        · rw [if_neg c2, g1 k]
          by_cases c1 : L ≤ (k : Int) ∧ (k : Int) < L + 4
          · rw [if_pos c1, if_pos (by omega)]
            have q1 : (k - L.toNat) / 4 = 0 := by omega
            have q2 : (k - L.toNat) % 4 = k - L.toNat := by omega
            rw [q1, q2]; rfl
          · rw [if_neg c1, if_neg (by omega)]
/-- the reference's tape: the first j bytes -/
def FDR (f F : Nat → Int32) (L j : Int) (v : Nat → Int) : Prop := ∀ k : Nat, (F k).toInt = if L ≤ (k : Int) ∧ (k : Int) < L + j then byA (v ((k - L.toNat) / 4)) ((k - L.toNat) % 4) else (f k).toInt
theorem fdr_0 {f : Nat → Int32} {L j : Int} {v : Nat → Int} (h : j = 0) : FDR f f L j v := fun k => by rw [if_neg (by omega)]
theorem ssh {x y z : Int32} {n : Nat} (e : x >>> (y &&& 31) = z) (hn : ((y &&& 31).toBitVec.smod 32#32).toNat = n) : z.toInt = x.toInt / 2 ^ n := by
  have e1 : (x >>> (y &&& 31)).toBitVec = x.toBitVec.sshiftRight ((y &&& 31).toBitVec.smod 32#32).toNat := rfl
  have e2 : z.toInt = (x.toBitVec.sshiftRight n).toInt := by rw [← e, ← hn, ← e1]; rfl
  rw [e2, BitVec.toInt_sshiftRight, Int.shiftRight_eq_div_pow]
  rfl
theorem fdr_s {f f1 F : Nat → Int32} {L j2 : Int} {v : Nat → Int} {k x y z w i : Int32} (h : FDR f f1 L k.toInt v) (h0 : 0 ≤ L) (hk : 0 ≤ k.toInt) (hk2 : k.toInt < 20) (hx : x.toInt = v (k.toInt.toNat / 4)) (hy : y.toInt = 24 - 8 * (k.toInt % 4)) (ez : x >>> (y &&& 31) = z) (ew : z &&& 255 = w) (hi : i.toInt = L + k.toInt) (eF : upd f1 (Int32.toNatClampNeg i) w = F) (ej : j2 = k.toInt + 1) : FDR f F L j2 v := fun q => by
  have e0 := c_nat (x := i) (by omega)
  have hw := and255 ew
  have hz : z.toInt = x.toInt / 2 ^ (24 - 8 * (k.toInt.toNat % 4)) := by
    have : k.toInt % 4 = 0 ∨ k.toInt % 4 = 1 ∨ k.toInt % 4 = 2 ∨ k.toInt % 4 = 3 := by omega
    rcases this with g | g | g | g
    · have ey : y = 24 := Int32.toInt_inj.mp (by rw [hy, g]; decide)
      have en : k.toInt.toNat % 4 = 0 := by omega
      subst ey; rw [en]; exact ssh ez (by decide)
    · have ey : y = 16 := Int32.toInt_inj.mp (by rw [hy, g]; decide)
      have en : k.toInt.toNat % 4 = 1 := by omega
      subst ey; rw [en]; exact ssh ez (by decide)
    · have ey : y = 8 := Int32.toInt_inj.mp (by rw [hy, g]; decide)
      have en : k.toInt.toNat % 4 = 2 := by omega
      subst ey; rw [en]; exact ssh ez (by decide)
    · have ey : y = 0 := Int32.toInt_inj.mp (by rw [hy, g]; decide)
      have en : k.toInt.toNat % 4 = 3 := by omega
      subst ey; rw [en]; exact ssh ez (by decide)
  have hq := h q
  subst eF
  unfold upd
  by_cases c : q = i.toNatClampNeg
  · rw [if_pos c, if_pos (by omega), hw, hz, hx]
    have : q - L.toNat = k.toInt.toNat := by omega
    rw [this]; rfl
  · rw [if_neg c, hq]
    by_cases d : L ≤ (q : Int) ∧ (q : Int) < L + k.toInt
    · rw [if_pos d, if_pos (by omega)]
    · rw [if_neg d, if_neg (by omega)]
theorem fdr_e {f F : Nat → Int32} {L j : Int} {v : Nat → Int} (h : FDR f F L j v) (hj : j = 20) : bM F = fdB (bM f) L v := by
  subst hj
  funext k
  exact h k
theorem fdr_n {f F : Nat → Int32} {L j j2 : Int} {v : Nat → Int} (h : FDR f F L j v) (e : j2 = j) : FDR f F L j2 v := by rw [e]; exact h
theorem pk_a {a b c d e x : Int} {i : Nat} (h : (i = 0 ∧ x = a) ∨ (i = 1 ∧ x = b) ∨ (i = 2 ∧ x = c) ∨ (i = 3 ∧ x = d) ∨ (i = 4 ∧ x = e)) : x = pk5 a b c d e i := by
  rcases h with ⟨h, g⟩ | ⟨h, g⟩ | ⟨h, g⟩ | ⟨h, g⟩ | ⟨h, g⟩ <;> (subst h; subst g; rfl)
/-! ## what the calls tell -/
def HSE (R f p : Int) (r : Sum (Int × Int) Int) : Prop := R = houR r ∧ f = houK r ∧ p = houP r
theorem hse_f {b : Nat → Int} {n : Nat} {R f p L : Int} (h : PFR b n f p L) (hf : f ≠ 0) (hR : R = -30 - f) : HSE R f p (PF b n) := ⟨hR.trans (h.2.2.2.resolve_left hf), h.1, h.2.1⟩
theorem hse_l {b : Nat → Int} {n : Nat} {R f p L : Int} (h : PFR b n f p L) (hf : f = 0) (hR : R = L) : HSE R f p (PF b n) := ⟨hR.trans (h.2.2.1.resolve_left (fun q => q hf)), h.1, h.2.1⟩
theorem rr_h {fm : Nat → Int32} {z A B K N W X : Int} (h : RR (bM fm) z.toNat (pb (pb (startS (bM fm) z.toNat) (tak 11 (bM fm) z.toNat)) (tak 12 (bM fm) z.toNat)) A B K N W X) : RR (bM fm) z.toNat (headS (bM fm) z.toNat) A B K N W X := by
  rw [pb_pb] at h; exact h
/-! ## a fault's kind is one of four -/
def ERB (g : (Nat → Int) → Nat → Nat → PS) : Prop := ∀ b n i e, g b n i = .inl e → 1 ≤ e.1 ∧ e.1 ≤ 4
theorem erb_k {b : Nat → Int} {n i : Nat} {k : Int} {e : Int × Int} (hk : 1 ≤ k ∧ k ≤ 4) (h : er b n k i = .inl e) : 1 ≤ e.1 ∧ e.1 ≤ 4 := by
  unfold er at h
  injection h with h
  rw [← h]; exact hk
theorem erb_r {j : Nat} {e : Int × Int} (h : (Sum.inr j : PS) = .inl e) : 1 ≤ e.1 ∧ e.1 ≤ 4 := nomatch h
theorem erb_pb {s : PS} {g : Nat → PS} (hs : ∀ e, s = .inl e → 1 ≤ e.1 ∧ e.1 ≤ 4) (hg : ∀ i e, g i = .inl e → 1 ≤ e.1 ∧ e.1 ≤ 4) : ∀ e, pb s g = .inl e → 1 ≤ e.1 ∧ e.1 ≤ 4 := by
  intro e h
  cases s with
  | inl x => exact hs e h
  | inr i => exact hg i e h
theorem erb_er {k : Int} (hk : 1 ≤ k ∧ k ≤ 4) : ERB (fun b n i => er b n k i) := fun _ _ _ _ h => erb_k hk h
theorem erb_if {c : (Nat → Int) → Nat → Nat → Prop} {dc : ∀ b n i, Decidable (c b n i)} {f g : (Nat → Int) → Nat → Nat → PS} (hf : ERB f) (hg : ERB g) : ERB (fun b n i => if c b n i then f b n i else g b n i) := fun b n i e h => by
  by_cases q : c b n i
  · exact hf b n i e (by rw [← h]; exact (if_pos q).symm)
  · exact hg b n i e (by rw [← h]; exact (if_neg q).symm)
theorem erb_cond {c : (Nat → Int) → Nat → Nat → Bool} {f g : (Nat → Int) → Nat → Nat → PS} (hf : ERB f) (hg : ERB g) : ERB (fun b n i => cond (c b n i) (f b n i) (g b n i)) := fun b n i e h => by
  have h' : cond (c b n i) (f b n i) (g b n i) = .inl e := h
  cases q : c b n i with
  | true => rw [q] at h'; exact hf b n i e h'
  | false => rw [q] at h'; exact hg b n i e h'
theorem erb_inr : ERB (fun _ _ i => .inr i) := fun _ _ _ _ h => erb_r h
theorem erb_adv : ERB adv := fun b n i e h => by
  unfold adv at h
  by_cases q : tK b n (i + 1) = 27
  · rw [if_pos q] at h; exact erb_k (by decide) h
  · rw [if_neg q] at h; exact erb_r h
theorem erb_tak (w : Int) : ERB (tak w) := erb_if (c := fun b n i => tK b n i = w) erb_adv (erb_er (by decide))
theorem erb_num (lo hi : Int) : ERB (num lo hi) := erb_if (c := fun b n i => tK b n i = 25) (erb_if (c := fun b n i => lo ≤ tV b n i ∧ tV b n i ≤ hi) erb_adv (erb_er (by decide))) (erb_er (by decide))
theorem erb_sq {f g : (Nat → Int) → Nat → Nat → PS} (hf : ERB f) (hg : ERB g) : ERB (sq f g) := fun b n i e h => erb_pb (hf b n i) (hg b n) e h
theorem erb_lp {cc : Int → Bool} {f : (Nat → Int) → Nat → Nat → PS} (hf : ERB f) (m : Nat) : ERB (lpK cc f m) := by
  induction m with
  | zero => exact erb_inr
  | succ m ih => exact erb_cond (c := fun b n i => cc (tK b n i)) (erb_sq hf ih) erb_inr
theorem erb_atom {na : Int → Bool} {k : Nat} {rc : (Nat → Int) → Nat → Nat → PS} (h : ERB rc) : ERB (atomW na k rc) := erb_if (c := fun b n i => tK b n i = 25) erb_adv (erb_if (c := fun b n i => tK b n i = 40) (erb_if (c := fun _ _ _ => k = 0) (erb_er (by decide)) (erb_sq erb_adv (erb_sq h (erb_tak 41)))) (erb_cond (c := fun b n i => na (tK b n i)) erb_adv (erb_er (by decide))))
theorem erb_term {na : Int → Bool} {k : Nat} {rc : (Nat → Int) → Nat → Nat → PS} (h : ERB rc) : ERB (termW na k rc) := erb_sq (erb_atom h) (erb_lp (erb_sq erb_adv (erb_atom h)) 1000)
theorem erb_sum {na : Int → Bool} {k : Nat} {rc : (Nat → Int) → Nat → Nat → PS} (h : ERB rc) : ERB (sumW na k rc) := erb_sq (erb_term h) (erb_lp (erb_sq erb_adv (erb_term h)) 1000)
theorem erb_rec (na : Int → Bool) (k : Nat) : ERB (recS na k) := by
  induction k with
  | zero => exact erb_er (by decide)
  | succ k ih => exact erb_sum ih
theorem erb_sumS (na : Int → Bool) (k : Nat) : ERB (sumS na k) := erb_sum (erb_rec na k)
theorem erb_unit {na : Int → Bool} {k : Nat} {ru rt : (Nat → Int) → Nat → Nat → PS} (h : ERB ru) (h2 : ERB rt) : ERB (unitW na k ru rt) := erb_if (c := fun b n i => tK b n i = 23) (erb_if (c := fun _ _ _ => k = 0) (erb_er (by decide)) (erb_sq erb_adv h)) (erb_if (c := fun b n i => tK b n i = 91) (erb_if (c := fun _ _ _ => k = 0) (erb_er (by decide)) (erb_sq erb_adv (erb_sq h2 (erb_tak 93)))) (erb_sq (erb_sumS na k) (erb_cond (c := fun b n i => ccC (tK b n i)) (erb_sq erb_adv (erb_sumS na k)) (erb_er (by decide)))))
theorem erb_both {na : Int → Bool} {k : Nat} {ru rt : (Nat → Int) → Nat → Nat → PS} (h : ERB ru) (h2 : ERB rt) : ERB (bothW na k ru rt) := erb_sq (erb_unit h h2) (erb_lp (erb_sq erb_adv (erb_unit h h2)) 1000)
theorem erb_truth {na : Int → Bool} {k : Nat} {ru rt : (Nat → Int) → Nat → Nat → PS} (h : ERB ru) (h2 : ERB rt) : ERB (truthW na k ru rt) := erb_sq (erb_both h h2) (erb_lp (erb_sq erb_adv (erb_both h h2)) 1000)
theorem erb_recU (na : Int → Bool) (k : Nat) : ERB (recUT na k).1 ∧ ERB (recUT na k).2 := by
  induction k with
  | zero => exact ⟨erb_er (by decide), erb_er (by decide)⟩
  | succ k ih => exact ⟨erb_unit ih.1 ih.2, erb_truth ih.1 ih.2⟩
theorem erb_truthS (na : Int → Bool) (k : Nat) : ERB (truthS na k) := erb_truth (erb_recU na k).1 (erb_recU na k).2
theorem erb_flagI : ERB flagI := fun b n i e h => erb_pb (erb_adv b n i) (fun j => erb_pb (erb_num 0 999 b n j) (fun j2 => erb_pb (erb_tak 15 b n j2) (fun j3 => erb_num _ 999 b n j3))) e h
theorem erb_flag1 : ERB flag1 := erb_if (c := fun b n i => tK b n i = 14) erb_flagI (erb_if (c := fun b n i => tK b n i = 16) (erb_sq erb_adv (erb_num 0 10)) (erb_sq erb_adv (erb_num 1 99)))
theorem erb_rpt {f : (Nat → Int) → Nat → Nat → PS} (h : ERB f) (m : Nat) : ERB (rpt f m) := by
  induction m with
  | zero => exact erb_inr
  | succ m ih => exact erb_sq ih h
theorem erb_pers (V P : Int) : ERB (persS V P) := erb_if (c := fun _ _ _ => 10 ≤ P) (erb_er (by decide)) (erb_sq (erb_sq erb_adv (erb_rpt (erb_num 0 9) _)) (erb_lp erb_flag1 1000))
theorem erb_law (nm : Int32) : ERB (lawS nm) := fun b n i e h => by
  unfold lawS at h
  by_cases q : tK b n i = 20
  · rw [if_pos q] at h; exact erb_sq erb_adv (erb_sq (erb_tak 58) (erb_sumS _ 6)) b n i e h
  · rw [if_neg q] at h; exact erb_sq erb_adv (erb_sq (erb_tak 58) (erb_truthS _ 6)) b n i e h
theorem erb_line (V P : Int) : ERB (lineS V P) := erb_if (c := fun b n i => tK b n i = 13) (erb_pers V P) (erb_if (c := fun b n i => tK b n i = 18) (erb_law 511) (erb_if (c := fun b n i => tK b n i = 19) (erb_law 783) (erb_if (c := fun b n i => tK b n i = 20) (erb_law 1535) (erb_if (c := fun b n i => tK b n i = 8) (erb_sq erb_adv (erb_num 0 999)) (erb_er (by decide))))))
theorem erb_lns (b : Nat → Int) (n : Nat) (V : Int) (k : Nat) : ∀ i P L e, lns b n V k i P L = .inl e → 1 ≤ e.1 ∧ e.1 ≤ 4 := by
  induction k with
  | zero => exact fun i P L e h => nomatch h
  | succ k ih =>
    intro i P L e h
    unfold lns at h
    by_cases q : tK b n i = 26
    · rw [if_pos q] at h; exact nomatch h
    · rw [if_neg q] at h
      have hp := erb_pb (erb_line V P b n i) (erb_tak 59 b n)
      cases hs : pb (lineS V P b n i) (tak 59 b n) with
      | inl x => rw [hs] at h; injection h with h; rw [← h]; exact hp x hs
      | inr j => rw [hs] at h; exact ih _ _ _ e h
theorem erb_PF (b : Nat → Int) (n : Nat) (e : Int × Int) (h : PF b n = .inl e) : 1 ≤ e.1 ∧ e.1 ≤ 4 := by
  unfold PF at h
  have h1 : ∀ e, headS b n = .inl e → 1 ≤ e.1 ∧ e.1 ≤ 4 := by
    refine erb_pb (fun e h => ?_) (erb_sq (erb_tak 11) (erb_tak 12) b n)
    unfold startS at h
    by_cases q : tK b n 0 = 27
    · rw [if_pos q] at h; exact erb_k (by decide) h
    · rw [if_neg q] at h; exact erb_r h
  cases hs : headS b n with
  | inl x => rw [hs] at h; injection h with h; rw [← h]; exact h1 x hs
  | inr j =>
    rw [hs] at h
    have h2 := erb_sq (erb_num 1 3) (erb_tak 59) b n j
    have h' : (match sq (num 1 3) (tak 59) b n j with
      | .inl e => .inl e
      | .inr i => lns b n (tV b n j) 1000 i 0 1 : Sum (Int × Int) Int) = .inl e := h
    cases ht : sq (num 1 3) (tak 59) b n j with
    | inl x => rw [ht] at h'; injection h' with h'; rw [← h']; exact h2 x ht
    | inr i => rw [ht] at h'; exact erb_lns b n _ 1000 i 0 1 e h'
theorem pfr_rng {b : Nat → Int} {n : Nat} {f p L : Int} (h : PFR b n f p L) : 0 ≤ f ∧ f ≤ 4 := by
  rw [h.1]
  cases e : PF b n with
  | inl x => have := erb_PF b n x e; exact ⟨by show 0 ≤ x.1; omega, this.2⟩
  | inr j => exact ⟨Int.le_refl 0, (by decide : (0 : Int) ≤ 4)⟩
