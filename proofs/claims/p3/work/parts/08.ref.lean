/-! ## the reference's reader -/
def bM (f : Nat → Int32) : Nat → Int := fun k => (f k).toInt
def kR : List (Int × Int) := [(0, 11), (1, 12), (2, 13), (3, 14), (4, 15), (5, 16), (6, 17), (7, 18), (8, 10), (9, 19), (10, 20), (11, 0), (12, 1), (13, 2), (14, 3), (15, 4), (16, 5), (17, 6), (18, 7), (19, 8), (20, 9), (21, 22), (22, 21), (23, 23), (24, 24), (25, 25), (26, 26), (27, 27), (59, 30), (58, 31), (43, 32), (45, 33), (42, 34), (40, 35), (41, 36), (91, 37), (93, 38), (61, 39), (60, 40), (62, 41)]
def mKL (c : Int) : List (Int × Int) → Int
  | [] => 27
  | q :: r => if c = q.1 then q.2 else mKL c r
/-- a kind's number in the reference -/
def mK (c : Int) : Int := mKL c kR
def VL : List Int := kR.map (fun q => q.1)
def VK (c : Int) : Prop := c ∈ VL
theorem mk_all : ∀ c ∈ VL, ∀ d ∈ VL, mK c = mK d → c = d := by decide +kernel
theorem mK_inj {c d : Int} (hc : VK c) (hd : VK d) (e : mK c = mK d) : c = d := mk_all c hc d hd e
theorem wd_rng (b : Nat → Int) (p e : Nat) : 0 ≤ wd b p e ∧ wd b p e ≤ 24 := by
  have : ∀ k j : Nat, k + j ≤ 24 → wdf b p e k j ≤ 24 := by
    intro k
    induction k with
    | zero => intro j _; exact Nat.le_refl _
    | succ k ih =>
      intro j hj
      show cond (wAt b p e j) j (wdf b p e k (j + 1)) ≤ 24
      cases wAt b p e j with
      | true => show j ≤ 24; omega
      | false => exact ih (j + 1) (by omega)
  have := this 24 0 (by omega)
  unfold wd
  omega
theorem vk_low : ∀ k : Fin 28, ((k.val : Nat) : Int) ∈ VL := by decide +kernel
theorem vk_w {c : Int} (h0 : 0 ≤ c) (h1 : c ≤ 27) : VK c := by
  have := vk_low ⟨c.toNat, by omega⟩
  have e : ((c.toNat : Nat) : Int) = c := by omega
  rw [← e]; exact this
theorem vk_sgn (c : Int) : VK (sgn c) := by
  unfold sgn
  by_cases h : c = 59 ∨ c = 58 ∨ c = 43 ∨ c = 45 ∨ c = 42 ∨ c = 40 ∨ c = 41 ∨ c = 91 ∨ c = 93 ∨ c = 61 ∨ c = 60 ∨ c = 62
  · rw [if_pos h]
    rcases h with h | h | h | h | h | h | h | h | h | h | h | h <;> (subst h; unfold VK; decide +kernel)
  · rw [if_neg h]; exact vk_w (by omega) (by omega)
theorem vk_k (b : Nat → Int) (n p e : Nat) : VK (tKd b n p e) := by
  unfold tKd
  by_cases c : n ≤ p
  · rw [if_pos c]; exact vk_w (by omega) (by omega)
  · rw [if_neg c]
    cases isLt (b p) with
    | true => have := wd_rng b p e; exact vk_w this.1 (by show wd b p e ≤ 27; omega)
    | false =>
      cases isDg (b p) with
      | true =>
        show VK (if p + 3 < e then 27 else 25)
        split <;> exact vk_w (by omega) (by omega)
      | false => exact vk_sgn _
theorem vk_t (b : Nat → Int) (n i : Nat) : VK (tK b n i) := vk_k _ _ _ _
/-- what the next token is -/
def NXR (f : Nat → Int32) (n B A2 B2 K2 N2 : Int) : Prop := A2 = (tSt (bM f) n.toNat B.toNat : Nat) ∧ B2 = (tEn (bM f) n.toNat A2.toNat : Nat) ∧ K2 = mK (tKd (bM f) n.toNat A2.toNat B2.toNat) ∧ (K2 = 25 → N2 = tVl (bM f) A2.toNat B2.toNat)
def RR (b : Nat → Int) (n : Nat) (s : PS) (A B K N W X : Int) : Prop := match s with
  | .inl e => e.1 ≠ 0 ∧ ((W = e.1 ∧ X = e.2) ∨ (W = 0 ∧ K = 27 ∧ e.1 = 1 ∧ A = e.2))
  | .inr i => W = 0 ∧ A = (tP b n i : Nat) ∧ B = (sS b n (i + 1) : Nat) ∧ K = mK (tK b n i) ∧ (tK b n i = 25 → N = tV b n i) ∧ K ≠ 27 ∧ (i : Int) ≤ A
def SIMR (fm : Nat → Int32) (z : Int) (g : (Nat → Int) → Nat → Nat → PS) (A B K N W X A2 B2 K2 N2 W2 X2 : Int) : Prop := ∀ s : PS, RR (bM fm) z.toNat s A B K N W X → RR (bM fm) z.toNat (pb s (g (bM fm) z.toNat)) A2 B2 K2 N2 W2 X2
theorem rr_is {b : Nat → Int} {n i : Nat} {A B K N W X k c : Int} (h : RR b n (.inr i) A B K N W X) (hk : K = k) (hc : VK c) (e : mK c = k) : tK b n i = c := mK_inj (vk_t b n i) hc (by rw [e, ← hk]; exact h.2.2.2.1.symm)
theorem rr_no {b : Nat → Int} {n i : Nat} {A B K N W X k c : Int} (h : RR b n (.inr i) A B K N W X) (hk : K ≠ k) (e : mK c = k) : tK b n i ≠ c := fun q => hk (by rw [h.2.2.2.1, q]; exact e)
theorem mk27 : mK 27 = 27 := by decide +kernel
theorem mk26 : mK 26 = 26 := by decide +kernel
theorem mk25 : mK 25 = 25 := by decide +kernel
section SIMRS
variable {fm : Nat → Int32} {z A B K N W X A2 B2 K2 N2 W2 X2 A3 B3 K3 N3 W3 X3 A4 B4 K4 N4 W4 X4 A5 B5 K5 N5 W5 X5 : Int}
theorem smr_sq {g h : (Nat → Int) → Nat → Nat → PS} (h1 : SIMR fm z g A B K N W X A2 B2 K2 N2 W2 X2) (h2 : SIMR fm z h A2 B2 K2 N2 W2 X2 A3 B3 K3 N3 W3 X3) : SIMR fm z (sq g h) A B K N W X A3 B3 K3 N3 W3 X3 := fun s hs => by
  have e : pb s (sq g h (bM fm) z.toNat) = pb (pb s (g (bM fm) z.toNat)) (h (bM fm) z.toNat) := (pb_pb s _ _).symm
  rw [e]; exact h2 _ (h1 s hs)
/-- two spellings that agree where no fault stands -/
theorem smr_if {g h : (Nat → Int) → Nat → Nat → PS} (h1 : SIMR fm z g A B K N W X A2 B2 K2 N2 W2 X2) (he : ∀ i, RR (bM fm) z.toNat (.inr i) A B K N W X → h (bM fm) z.toNat i = g (bM fm) z.toNat i) : SIMR fm z h A B K N W X A2 B2 K2 N2 W2 X2 := fun s hs => by
  have := h1 s hs
  cases s with
  | inl e => exact this
  | inr i =>
    show RR (bM fm) z.toNat (h (bM fm) z.toNat i) A2 B2 K2 N2 W2 X2
    rw [he i hs]; exact this
theorem smr_bad {g : (Nat → Int) → Nat → Nat → PS} (hf : W ≠ 0 ∨ K = 27) : SIMR fm z g A B K N W X A B K N W X := fun s hs => by
  cases s with
  | inl e => exact hs
  | inr i => exact absurd hf (by have := hs.1; have := hs.2.2.2.2.2.1; omega)
/-- a fault is told -/
def FLR (k A K W X W2 X2 : Int) : Prop := (W ≠ 0 ∧ W2 = W ∧ X2 = X) ∨ (W = 0 ∧ ((K = 27 ∧ W2 = 1) ∨ (K ≠ 27 ∧ W2 = k)) ∧ X2 = A)
theorem smr_er {k : Int} (hk : k ≠ 0) (h : FLR k A K W X W2 X2) : SIMR fm z (fun b n i => er b n k i) A B K N W X A B K N W2 X2 := fun s hs => by
  cases s with
  | inl e =>
    show RR (bM fm) z.toNat (.inl e) A B K N W2 X2
    have h0 := hs.1
    refine ⟨h0, ?_⟩
    rcases hs.2 with ⟨r1, r2⟩ | ⟨r1, r2, r3, r4⟩
    · rcases h with ⟨q1, q2, q3⟩ | ⟨q1, q2, q3⟩
      · exact Or.inl ⟨by omega, by omega⟩
      · omega
    · rcases h with ⟨q1, q2, q3⟩ | ⟨q1, q2, q3⟩
      · omega
      · exact Or.inl ⟨by omega, by omega⟩
  | inr i =>
    obtain ⟨r1, r2, r3, r4, r5, r6, r7⟩ := hs
    rcases h with ⟨q1, q2, q3⟩ | ⟨q1, q2, q3⟩
    · omega
    · exact ⟨hk, Or.inl ⟨by show W2 = k; omega, by show X2 = ((tP (bM fm) z.toNat i : Nat) : Int); omega⟩⟩
theorem smr_adv {k c : Int} (hK : K = k) (hc : VK c) (e : mK c = k) (hc2 : c ≠ 26) (hc7 : c ≠ 27) (hW : W = 0) (h : NXR fm z B A2 B2 K2 N2) (hW2 : W2 = 0) : SIMR fm z adv A B K N W X A2 B2 K2 N2 W2 X2 := fun s hs => by
  cases s with
  | inl q =>
    exfalso
    have h0 := hs.1
    rcases hs.2 with ⟨r1, r2⟩ | ⟨r1, r2, r3, r4⟩
    · omega
    · exact hc7 (mK_inj hc (vk_w (by omega) (by omega)) (by rw [e, mk27]; omega))
  | inr i =>
    have hk := rr_is hs hK hc e
    obtain ⟨r1, r2, r3, r4, r5, r6, r7⟩ := hs
    obtain ⟨n1, n2, n3, n4⟩ := h
    have eB : B.toNat = sS (bM fm) z.toNat (i + 1) := by omega
    rw [eB] at n1
    have n1' : A2 = (tP (bM fm) z.toNat (i + 1) : Nat) := n1
    have eA : A2.toNat = tP (bM fm) z.toNat (i + 1) := by omega
    rw [eA] at n2
    have n2' : B2 = (sS (bM fm) z.toNat (i + 1 + 1) : Nat) := n2
    have eB2 : B2.toNat = sS (bM fm) z.toNat (i + 1 + 1) := by omega
    rw [eA, eB2] at n3 n4
    have n3' : K2 = mK (tK (bM fm) z.toNat (i + 1)) := n3
    have n4' : K2 = 25 → N2 = tV (bM fm) z.toNat (i + 1) := n4
    show RR (bM fm) z.toNat (adv (bM fm) z.toNat i) A2 B2 K2 N2 W2 X2
    unfold adv
    by_cases c7 : tK (bM fm) z.toNat (i + 1) = 27
    · rw [if_pos c7]
      exact ⟨by show (1 : Int) ≠ 0; omega, Or.inr ⟨hW2, by rw [n3', c7]; exact mk27, rfl, n1'⟩⟩
    · rw [if_neg c7]
      refine ⟨hW2, n1', n2', n3', fun q => n4' (by rw [n3', q]; exact mk25), fun q => c7 (mK_inj (vk_t _ _ _) (vk_w (by omega) (by omega)) (by rw [← n3', q]; exact mk27.symm)), ?_⟩
      -- at least one byte behind
      have hlt : tP (bM fm) z.toNat i < z.toNat := by
        by_cases d : tP (bM fm) z.toNat i < z.toNat
        · exact d
        · exfalso
          have : tK (bM fm) z.toNat i = 26 := by unfold tK tKd; rw [if_pos (by omega)]
          omega
      have h1 := tEn_lt (b := bM fm) hlt
      have h2 : tP (bM fm) z.toNat i < sS (bM fm) z.toNat (i + 1) := h1
      have h3 := (tP_le (b := bM fm) (n := z.toNat) (i + 1)).2.2
      show ((i + 1 : Nat) : Int) ≤ A2
      omega
theorem smr_tk1 {w k : Int} (hK : K = k) (hw : VK w) (e : mK w = k) (h6 : w ≠ 26) (h7 : w ≠ 27) (hW : W = 0) (h : NXR fm z B A2 B2 K2 N2) (hW2 : W2 = 0) : SIMR fm z (tak w) A B K N W X A2 B2 K2 N2 W2 X2 := smr_if (smr_adv hK hw e h6 h7 hW h hW2) (fun i hs => by unfold tak; rw [if_pos (rr_is hs hK hw e)])
theorem smr_tk2 {w k : Int} (hK : W ≠ 0 ∨ K ≠ k) (e : mK w = k) (h : SIMR fm z (fun b n i => er b n 2 i) A B K N W X A2 B2 K2 N2 W2 X2) : SIMR fm z (tak w) A B K N W X A2 B2 K2 N2 W2 X2 := smr_if h (fun i hs => by unfold tak; rw [if_neg (rr_no hs (by have := hs.1; omega) e)])
theorem smr_nm1 {lo hi : Int} (hK : W ≠ 0 ∨ K ≠ 25) (h : SIMR fm z (fun b n i => er b n 2 i) A B K N W X A2 B2 K2 N2 W2 X2) : SIMR fm z (num lo hi) A B K N W X A2 B2 K2 N2 W2 X2 := smr_if h (fun i hs => by unfold num; rw [if_neg (rr_no hs (by have := hs.1; omega) mk25)])
theorem smr_nm2 {lo hi : Int} (hK : K = 25) (hb : N < lo ∨ hi < N) (h : SIMR fm z (fun b n i => er b n 3 i) A B K N W X A2 B2 K2 N2 W2 X2) : SIMR fm z (num lo hi) A B K N W X A2 B2 K2 N2 W2 X2 := smr_if h (fun i hs => by
  have hk := rr_is hs hK (vk_w (by omega) (by omega)) mk25
  have := hs.2.2.2.2.1 hk
  unfold num; rw [if_pos hk, if_neg (by omega)])
theorem smr_nm3 {lo hi : Int} (hK : K = 25) (hb : lo ≤ N ∧ N ≤ hi) (hW : W = 0) (h : NXR fm z B A2 B2 K2 N2) (hW2 : W2 = 0) : SIMR fm z (num lo hi) A B K N W X A2 B2 K2 N2 W2 X2 := smr_if (smr_adv hK (vk_w (c := 25) (by omega) (by omega)) mk25 (by omega) (by omega) hW h hW2) (fun i hs => by
  have hk := rr_is hs hK (vk_w (by omega) (by omega)) mk25
  have := hs.2.2.2.2.1 hk
  unfold num; rw [if_pos hk, if_pos (by omega)])
end SIMRS
section SIMRR
variable {fm : Nat → Int32} {z A B K N W X A2 B2 K2 N2 W2 X2 A3 B3 K3 N3 W3 X3 A4 B4 K4 N4 W4 X4 A5 B5 K5 N5 W5 X5 A6 B6 K6 N6 W6 X6 : Int}
def naR (r : Int) : Int → Bool := naC (if r = 1 then 783 else if r = 2 then 1535 else 511)
/-- may the kind k stand in the law r as a word -/
def CND (k r : Int) : Prop := (11 ≤ k ∧ k ≤ 14) ∨ k = 10 ∨ (15 ≤ k ∧ k ≤ 18 ∧ r ≠ 1) ∨ (k = 19 ∧ r = 1) ∨ (k = 20 ∧ r = 2)
def WDP (R k r : Int) : Prop := (R = -1 ∧ ¬ CND k r) ∨ (R ≠ -1 ∧ CND k r)
theorem cnd_0 : ∀ c ∈ VL, naC 511 c = decide ((11 ≤ mK c ∧ mK c ≤ 14) ∨ mK c = 10 ∨ (15 ≤ mK c ∧ mK c ≤ 18)) := by decide +kernel
theorem cnd_1 : ∀ c ∈ VL, naC 783 c = decide ((11 ≤ mK c ∧ mK c ≤ 14) ∨ mK c = 10 ∨ mK c = 19) := by decide +kernel
theorem cnd_2 : ∀ c ∈ VL, naC 1535 c = decide ((11 ≤ mK c ∧ mK c ≤ 14) ∨ mK c = 10 ∨ (15 ≤ mK c ∧ mK c ≤ 18) ∨ mK c = 20) := by decide +kernel
theorem cnd_y {c k r : Int} (hc : VK c) (e : k = mK c) (h : CND k r) : naR r c = true := by
  unfold naR
  subst e
  unfold CND at h
  by_cases h1 : r = 1
  · rw [if_pos h1, cnd_1 c hc]; exact decide_eq_true (by omega)
  · rw [if_neg h1]
    by_cases h2 : r = 2
    · rw [if_pos h2, cnd_2 c hc]; exact decide_eq_true (by omega)
    · rw [if_neg h2, cnd_0 c hc]; exact decide_eq_true (by omega)
theorem cnd_n {c k r : Int} (hc : VK c) (e : k = mK c) (h : ¬ CND k r) : naR r c = false := by
  unfold naR
  subst e
  unfold CND at h
  by_cases h1 : r = 1
  · rw [if_pos h1, cnd_1 c hc]; exact decide_eq_false (by omega)
  · rw [if_neg h1]
    by_cases h2 : r = 2
    · rw [if_pos h2, cnd_2 c hc]; exact decide_eq_false (by omega)
    · rw [if_neg h2, cnd_0 c hc]; exact decide_eq_false (by omega)
theorem smr_at1 {na : Int → Bool} {k : Nat} (hK : K = 25) (hW : W = 0) (h : NXR fm z B A2 B2 K2 N2) (hW2 : W2 = 0) : SIMR fm z (atomS na k) A B K N W X A2 B2 K2 N2 W2 X2 := smr_if (smr_adv hK (vk_w (c := 25) (by omega) (by omega)) mk25 (by omega) (by omega) hW h hW2) (fun i hs => by
  have hk := rr_is hs hK (vk_w (by omega) (by omega)) mk25
  unfold atomS atomW; rw [if_pos hk])
theorem mk40 : mK 40 = 35 := by decide +kernel
theorem vk40 : VK 40 := by unfold VK; decide +kernel
theorem smr_at2 {na : Int → Bool} {k : Nat} (hK : K = 35) (hk0 : k = 0) (h : SIMR fm z (fun b n i => er b n 4 i) A B K N W X A2 B2 K2 N2 W2 X2) : SIMR fm z (atomS na k) A B K N W X A2 B2 K2 N2 W2 X2 := smr_if h (fun i hs => by
  have hk := rr_is hs hK vk40 mk40
  unfold atomS atomW; rw [if_neg (by omega), if_pos hk, if_pos hk0])
theorem smr_at3 {na : Int → Bool} {k j : Nat} (hK : K = 35) (hj : k = j + 1) (hW : W = 0) (h : NXR fm z B A2 B2 K2 N2) (hW2 : W2 = 0) (h2 : SIMR fm z (sumS na j) A2 B2 K2 N2 W2 X2 A3 B3 K3 N3 W3 X3) (h3 : SIMR fm z (tak 41) A3 B3 K3 N3 W3 X3 A4 B4 K4 N4 W4 X4) : SIMR fm z (atomS na k) A B K N W X A4 B4 K4 N4 W4 X4 := smr_if (smr_sq (smr_adv hK vk40 mk40 (by omega) (by omega) hW h hW2) (smr_sq h2 h3)) (fun i hs => by
  have hk := rr_is hs hK vk40 mk40
  subst hj
  unfold atomS atomW; rw [if_neg (by omega), if_pos hk, if_neg (by omega)]; rfl)
theorem smr_advn {na : Int → Bool} {r : Int} (hC : CND K r) (hW : W = 0) (h : NXR fm z B A2 B2 K2 N2) (hW2 : W2 = 0) : SIMR fm z adv A B K N W X A2 B2 K2 N2 W2 X2 := fun s hs => by
  cases s with
  | inl q =>
    exfalso
    have h0 := hs.1
    unfold CND at hC
    rcases hs.2 with ⟨r1, r2⟩ | ⟨r1, r2, r3, r4⟩ <;> omega
  | inr i =>
    have hk : K = mK (tK (bM fm) z.toNat i) := hs.2.2.2.1
    refine smr_adv (c := tK (bM fm) z.toNat i) hk (vk_t _ _ _) rfl (fun e => ?_) (fun e => ?_) hW h hW2 _ hs
    · rw [e, mk26] at hk; unfold CND at hC; omega
    · rw [e, mk27] at hk; unfold CND at hC; omega
theorem smr_at4 {k : Nat} {r : Int} (hC : CND K r) (hW : W = 0) (h : NXR fm z B A2 B2 K2 N2) (hW2 : W2 = 0) : SIMR fm z (atomS (naR r) k) A B K N W X A2 B2 K2 N2 W2 X2 := smr_if (smr_advn (na := naR r) hC hW h hW2) (fun i hs => by
  have hk : K = mK (tK (bM fm) z.toNat i) := hs.2.2.2.1
  have hy := cnd_y (vk_t _ _ _) hk hC
  have n1 : tK (bM fm) z.toNat i ≠ 25 := fun e => by rw [e, mk25] at hk; unfold CND at hC; omega
  have n2 : tK (bM fm) z.toNat i ≠ 40 := fun e => by rw [e, mk40] at hk; unfold CND at hC; omega
  unfold atomS atomW; rw [if_neg n1, if_neg n2, hy]; rfl)
theorem smr_at5 {k : Nat} {r : Int} (h1 : W ≠ 0 ∨ K ≠ 25) (h2 : W ≠ 0 ∨ K ≠ 35) (hC : W ≠ 0 ∨ ¬ CND K r) (h : SIMR fm z (fun b n i => er b n 2 i) A B K N W X A2 B2 K2 N2 W2 X2) : SIMR fm z (atomS (naR r) k) A B K N W X A2 B2 K2 N2 W2 X2 := smr_if h (fun i hs => by
  have hw := hs.1
  have hk : K = mK (tK (bM fm) z.toNat i) := hs.2.2.2.1
  have hy := cnd_n (r := r) (vk_t _ _ _) hk (hC.resolve_left (fun q => q hw))
  have n1 : tK (bM fm) z.toNat i ≠ 25 := rr_no hs (h1.resolve_left (fun q => q hw)) mk25
  have n2 : tK (bM fm) z.toNat i ≠ 40 := rr_no hs (h2.resolve_left (fun q => q hw)) mk40
  unfold atomS atomW; rw [if_neg n1, if_neg n2, hy]; rfl)
theorem mk23 : mK 23 = 23 := by decide +kernel
theorem mk91 : mK 91 = 37 := by decide +kernel
theorem vk91 : VK 91 := by unfold VK; decide +kernel
theorem smr_un1 {na : Int → Bool} {k : Nat} (hK : K = 23 ∨ K = 37) (hk0 : k = 0) (h : SIMR fm z (fun b n i => er b n 4 i) A B K N W X A2 B2 K2 N2 W2 X2) : SIMR fm z (unitS na k) A B K N W X A2 B2 K2 N2 W2 X2 := smr_if h (fun i hs => by
  unfold unitS unitW
  rcases hK with hK | hK
  · have hk := rr_is hs hK (vk_w (c := 23) (by omega) (by omega)) mk23
    rw [if_pos hk, if_pos hk0]
  · have hk := rr_is hs hK vk91 mk91
    rw [if_neg (by omega), if_pos hk, if_pos hk0])
theorem smr_un2 {na : Int → Bool} {k j : Nat} (hK : K = 23) (hj : k = j + 1) (hW : W = 0) (h : NXR fm z B A2 B2 K2 N2) (hW2 : W2 = 0) (h2 : SIMR fm z (unitS na j) A2 B2 K2 N2 W2 X2 A3 B3 K3 N3 W3 X3) : SIMR fm z (unitS na k) A B K N W X A3 B3 K3 N3 W3 X3 := smr_if (smr_sq (smr_adv hK (vk_w (c := 23) (by omega) (by omega)) mk23 (by omega) (by omega) hW h hW2) h2) (fun i hs => by
  have hk := rr_is hs hK (vk_w (c := 23) (by omega) (by omega)) mk23
  subst hj
  unfold unitS unitW; rw [if_pos hk, if_neg (by omega)]; rfl)
theorem smr_un3 {na : Int → Bool} {k j : Nat} (hK : K = 37) (hj : k = j + 1) (hW : W = 0) (h : NXR fm z B A2 B2 K2 N2) (hW2 : W2 = 0) (h2 : SIMR fm z (truthS na j) A2 B2 K2 N2 W2 X2 A3 B3 K3 N3 W3 X3) (h3 : SIMR fm z (tak 93) A3 B3 K3 N3 W3 X3 A4 B4 K4 N4 W4 X4) : SIMR fm z (unitS na k) A B K N W X A4 B4 K4 N4 W4 X4 := smr_if (smr_sq (smr_adv hK vk91 mk91 (by omega) (by omega) hW h hW2) (smr_sq h2 h3)) (fun i hs => by
  have hk := rr_is hs hK vk91 mk91
  subst hj
  unfold unitS unitW; rw [if_neg (by omega), if_pos hk, if_neg (by omega)]; rfl)
theorem mk61 : mK 61 = 39 := by decide +kernel
theorem mk60 : mK 60 = 40 := by decide +kernel
theorem mk62 : mK 62 = 41 := by decide +kernel
theorem smr_un4 {na : Int → Bool} {k : Nat} (h0 : W ≠ 0 ∨ K ≠ 23) (h1 : W ≠ 0 ∨ K ≠ 37) (h2 : SIMR fm z (sumS na k) A B K N W X A2 B2 K2 N2 W2 X2) (hK : K2 = 39 ∨ K2 = 40 ∨ K2 = 41) (hW : W2 = 0) (h : NXR fm z B2 A3 B3 K3 N3) (hW3 : W3 = 0) (h3 : SIMR fm z (sumS na k) A3 B3 K3 N3 W3 X3 A4 B4 K4 N4 W4 X4) : SIMR fm z (unitS na k) A B K N W X A4 B4 K4 N4 W4 X4 := by
  have ha : SIMR fm z adv A2 B2 K2 N2 W2 X2 A3 B3 K3 N3 W3 X3 := by
    rcases hK with hK | hK | hK
    · exact smr_adv (c := 61) hK (by unfold VK; decide +kernel) mk61 (by omega) (by omega) hW h hW3
    · exact smr_adv (c := 60) hK (by unfold VK; decide +kernel) mk60 (by omega) (by omega) hW h hW3
    · exact smr_adv (c := 62) hK (by unfold VK; decide +kernel) mk62 (by omega) (by omega) hW h hW3
  refine smr_if (smr_sq h2 (smr_if (h := cmpS na k) (smr_sq ha h3) (fun i hs => ?_))) (fun i hs => ?_)
  · have hc : ccC (tK (bM fm) z.toNat i) = true := by
      rcases hK with hK | hK | hK
      · exact decide_eq_true (Or.inl (rr_is hs hK (by unfold VK; decide +kernel) mk61))
      · exact decide_eq_true (Or.inr (Or.inl (rr_is hs hK (by unfold VK; decide +kernel) mk60)))
      · exact decide_eq_true (Or.inr (Or.inr (rr_is hs hK (by unfold VK; decide +kernel) mk62)))
    unfold cmpS; rw [hc]; rfl
  · have n1 := rr_no hs (h0.resolve_left (fun q => q hs.1)) mk23
    have n2 := rr_no hs (h1.resolve_left (fun q => q hs.1)) mk91
    unfold unitS unitW; rw [if_neg n1, if_neg n2]
theorem smr_un5 {na : Int → Bool} {k : Nat} (h0 : W ≠ 0 ∨ K ≠ 23) (h1 : W ≠ 0 ∨ K ≠ 37) (h2 : SIMR fm z (sumS na k) A B K N W X A2 B2 K2 N2 W2 X2) (hK : W2 ≠ 0 ∨ (K2 ≠ 39 ∧ K2 ≠ 40 ∧ K2 ≠ 41)) (h : SIMR fm z (fun b n i => er b n 2 i) A2 B2 K2 N2 W2 X2 A3 B3 K3 N3 W3 X3) (h3 : SIMR fm z (sumS na k) A3 B3 K3 N3 W3 X3 A4 B4 K4 N4 W4 X4) : SIMR fm z (unitS na k) A B K N W X A4 B4 K4 N4 W4 X4 := by
  refine smr_if (smr_sq h2 (smr_if (h := cmpS na k) (smr_sq h h3) (fun i hs => ?_))) (fun i hs => ?_)
  · have hk := hK.resolve_left (fun q => q hs.1)
    have n1 := rr_no hs hk.1 mk61
    have n2 := rr_no hs hk.2.1 mk60
    have n3 := rr_no hs hk.2.2 mk62
    have hc : ccC (tK (bM fm) z.toNat i) = false := decide_eq_false (by omega)
    unfold cmpS; rw [hc]; rfl
  · have n1 := rr_no hs (h0.resolve_left (fun q => q hs.1)) mk23
    have n2 := rr_no hs (h1.resolve_left (fun q => q hs.1)) mk91
    unfold unitS unitW; rw [if_neg n1, if_neg n2]
/-! loops -/
def SIMRL (fm : Nat → Int32) (z : Int) (g : (Nat → Int) → Nat → Nat → PS) (cc : Int → Bool) (fn : (Nat → Int) → Nat → Nat → PS) (A B K N W X A2 B2 K2 N2 W2 X2 : Int) : Prop := ∀ s : PS, RR (bM fm) z.toNat s A B K N W X → ∃ (s' : PS) (m : Nat), RR (bM fm) z.toNat s' A2 B2 K2 N2 W2 X2 ∧ pb s (g (bM fm) z.toNat) = pb s' (lpK cc fn m (bM fm) z.toNat) ∧ ∀ i, s' = .inr i → 1000 ≤ m + i
theorem smrl_0 {h fn : (Nat → Int) → Nat → Nat → PS} {cc : Int → Bool} (h1 : SIMR fm z h A B K N W X A2 B2 K2 N2 W2 X2) : SIMRL fm z (sq h (lpK cc fn 1000)) cc fn A B K N W X A2 B2 K2 N2 W2 X2 := fun s hs => ⟨pb s (h (bM fm) z.toNat), 1000, h1 s hs, (pb_pb s _ _).symm, fun i _ => by omega⟩
/-- hc: the kind is one of these; ha: a token is eaten, or a fault stands -/
theorem smrl_s {g fn : (Nat → Int) → Nat → Nat → PS} {cc : Int → Bool} (hl : SIMRL fm z g cc fn A B K N W X A2 B2 K2 N2 W2 X2) (hc : ∀ i, RR (bM fm) z.toNat (.inr i) A2 B2 K2 N2 W2 X2 → cc (tK (bM fm) z.toNat i) = true) (h1 : SIMR fm z fn A2 B2 K2 N2 W2 X2 A3 B3 K3 N3 W3 X3) (hp : ∀ i j, RR (bM fm) z.toNat (.inr i) A2 B2 K2 N2 W2 X2 → fn (bM fm) z.toNat i = .inr j → i + 1 ≤ j) (hz : A2 ≤ 900) : SIMRL fm z g cc fn A B K N W X A3 B3 K3 N3 W3 X3 := fun s hs => by
  obtain ⟨s', m, r1, r2, r3⟩ := hl s hs
  cases s' with
  | inl e =>
    refine ⟨.inl e, m, h1 (.inl e) r1, r2, fun i hi => by cases hi⟩
  | inr i =>
    have hm := r3 i rfl
    have hi : (i : Int) ≤ A2 := r1.2.2.2.2.2.2
    obtain ⟨m, rfl⟩ : ∃ q, m = q + 1 := ⟨m - 1, by omega⟩
    have q := h1 _ r1
    refine ⟨fn (bM fm) z.toNat i, m, q, ?_, fun j hj => ?_⟩
    · rw [r2]
      show cond (cc (tK (bM fm) z.toNat i)) (pb (fn (bM fm) z.toNat i) (lp (fun j => cc (tK (bM fm) z.toNat j)) (fn (bM fm) z.toNat) m)) (.inr i) = _
      rw [hc i r1]; rfl
    · have := hp i j r1 hj
      omega
theorem smrl_e {g fn : (Nat → Int) → Nat → Nat → PS} {cc : Int → Bool} (hl : SIMRL fm z g cc fn A B K N W X A2 B2 K2 N2 W2 X2) (hc : ∀ i, RR (bM fm) z.toNat (.inr i) A2 B2 K2 N2 W2 X2 → cc (tK (bM fm) z.toNat i) = false) : SIMR fm z g A B K N W X A2 B2 K2 N2 W2 X2 := fun s hs => by
  obtain ⟨s', m, r1, r2, r3⟩ := hl s hs
  rw [r2]
  cases s' with
  | inl e => exact r1
  | inr i =>
    cases m with
    | zero => exact r1
    | succ m =>
      show RR (bM fm) z.toNat (cond (cc (tK (bM fm) z.toNat i)) (pb (fn (bM fm) z.toNat i) (lp (fun j => cc (tK (bM fm) z.toNat j)) (fn (bM fm) z.toNat) m)) (.inr i)) A2 B2 K2 N2 W2 X2
      rw [hc i r1]; exact r1
end SIMRR
/-! what is eaten goes on -/
theorem adv_in {b : Nat → Int} {n i j : Nat} (h : adv b n i = .inr j) : j = i + 1 := by
  unfold adv er at h
  split at h
  · cases h
  · cases h; rfl
theorem tak_in {w : Int} {b : Nat → Int} {n i j : Nat} (h : tak w b n i = .inr j) : j = i + 1 := by
  unfold tak er at h
  split at h
  · exact adv_in h
  · cases h
theorem num_in {lo hi : Int} {b : Nat → Int} {n i j : Nat} (h : num lo hi b n i = .inr j) : j = i + 1 := by
  unfold num er at h
  split at h
  · split at h
    · exact adv_in h
    · cases h
  · cases h
/-- never back -/
def MON (g : (Nat → Int) → Nat → Nat → PS) : Prop := ∀ b n i j, g b n i = .inr j → i ≤ j
theorem mon_adv : MON adv := fun b n i j h => by have := adv_in h; omega
theorem mon_tak {w : Int} : MON (tak w) := fun b n i j h => by have := tak_in h; omega
theorem mon_num {lo hi : Int} : MON (num lo hi) := fun b n i j h => by have := num_in h; omega
theorem mon_er {k : Int} : MON (fun b n i => er b n k i) := fun b n i j h => by unfold er at h; cases h
theorem pb_in {s : PS} {g : Nat → PS} {j : Nat} (h : pb s g = .inr j) : ∃ i, s = .inr i ∧ g i = .inr j := by
  cases s with
  | inl e => cases h
  | inr i => exact ⟨i, rfl, h⟩
theorem mon_sq {f g : (Nat → Int) → Nat → Nat → PS} (hf : MON f) (hg : MON g) : MON (sq f g) := fun b n i j h => by
  obtain ⟨k, h1, h2⟩ := pb_in h
  have := hf b n i k h1
  have := hg b n k j h2
  omega
theorem mon_lp {cc : Int → Bool} {f : (Nat → Int) → Nat → Nat → PS} (hf : MON f) : ∀ m, MON (fun b n => lpK cc f m b n) := fun m => by
  induction m with
  | zero => intro b n i j h; have h' : (Sum.inr i : PS) = .inr j := h; cases h'; exact Nat.le_refl _
  | succ m ih =>
    intro b n i j h
    have h' : cond (cc (tK b n i)) (pb (f b n i) (lp (fun j => cc (tK b n j)) (f b n) m)) (.inr i) = .inr j := h
    cases hc : cc (tK b n i) with
    | true =>
      rw [hc] at h'
      obtain ⟨k, h1, h2⟩ := pb_in h'
      have := hf b n i k h1
      have := ih b n k j h2
      omega
    | false => rw [hc] at h'; cases h'; exact Nat.le_refl _
theorem mon_atom {na : Int → Bool} {k : Nat} {rc : (Nat → Int) → Nat → Nat → PS} (h : MON rc) : MON (atomW na k rc) := fun b n i j e => by
  unfold atomW at e
  split at e
  · exact mon_adv b n i j e
  · split at e
    · split at e
      · exact mon_er (k := 4) b n i j e
      · exact mon_sq mon_adv (mon_sq h mon_tak) b n i j e
    · cases hn : na (tK b n i) with
      | true => rw [hn] at e; exact mon_adv b n i j e
      | false => rw [hn] at e; exact mon_er (k := 2) b n i j e
theorem mon_term {na : Int → Bool} {k : Nat} {rc : (Nat → Int) → Nat → Nat → PS} (h : MON rc) : MON (termW na k rc) := mon_sq (mon_atom h) (mon_lp (mon_sq mon_adv (mon_atom h)) 1000)
theorem mon_sum {na : Int → Bool} {k : Nat} {rc : (Nat → Int) → Nat → Nat → PS} (h : MON rc) : MON (sumW na k rc) := mon_sq (mon_term h) (mon_lp (mon_sq mon_adv (mon_term h)) 1000)
theorem mon_rec {na : Int → Bool} : ∀ k, MON (recS na k) := fun k => by
  induction k with
  | zero => exact mon_er (k := 4)
  | succ k ih => exact mon_sum ih
theorem mon_sumS {na : Int → Bool} {k : Nat} : MON (sumS na k) := mon_sum (mon_rec k)
theorem mon_atomS {na : Int → Bool} {k : Nat} : MON (atomS na k) := mon_atom (mon_rec k)
theorem mon_termS {na : Int → Bool} {k : Nat} : MON (termS na k) := mon_term (mon_rec k)
theorem mon_cmp {na : Int → Bool} {k : Nat} : MON (cmpS na k) := fun b n i j e => by
  unfold cmpS at e
  cases hn : ccC (tK b n i) with
  | true => rw [hn] at e; exact mon_sq mon_adv mon_sumS b n i j e
  | false => rw [hn] at e; exact mon_er (k := 2) b n i j e
theorem mon_unit {na : Int → Bool} {k : Nat} {ru rt : (Nat → Int) → Nat → Nat → PS} (h1 : MON ru) (h2 : MON rt) : MON (unitW na k ru rt) := fun b n i j e => by
  unfold unitW at e
  split at e
  · split at e
    · exact mon_er (k := 4) b n i j e
    · exact mon_sq mon_adv h1 b n i j e
  · split at e
    · split at e
      · exact mon_er (k := 4) b n i j e
      · exact mon_sq mon_adv (mon_sq h2 mon_tak) b n i j e
    · exact mon_sq mon_sumS mon_cmp b n i j e
theorem mon_both {na : Int → Bool} {k : Nat} {ru rt : (Nat → Int) → Nat → Nat → PS} (h1 : MON ru) (h2 : MON rt) : MON (bothW na k ru rt) := mon_sq (mon_unit h1 h2) (mon_lp (mon_sq mon_adv (mon_unit h1 h2)) 1000)
theorem mon_truth {na : Int → Bool} {k : Nat} {ru rt : (Nat → Int) → Nat → Nat → PS} (h1 : MON ru) (h2 : MON rt) : MON (truthW na k ru rt) := mon_sq (mon_both h1 h2) (mon_lp (mon_sq mon_adv (mon_both h1 h2)) 1000)
theorem mon_recUT {na : Int → Bool} : ∀ k, MON (recUT na k).1 ∧ MON (recUT na k).2 := fun k => by
  induction k with
  | zero => exact ⟨mon_er (k := 4), mon_er (k := 4)⟩
  | succ k ih => exact ⟨mon_unit ih.1 ih.2, mon_truth ih.1 ih.2⟩
theorem mon_unitS {na : Int → Bool} {k : Nat} : MON (unitS na k) := mon_unit (mon_recUT k).1 (mon_recUT k).2
theorem mon_bothS {na : Int → Bool} {k : Nat} : MON (bothS na k) := mon_both (mon_recUT k).1 (mon_recUT k).2
/-- a loop's body eats one and goes on -/
theorem lp_in {g : (Nat → Int) → Nat → Nat → PS} (h : MON g) {b : Nat → Int} {n i j : Nat} (e : sq adv g b n i = .inr j) : i + 1 ≤ j := by
  obtain ⟨k, h1, h2⟩ := pb_in e
  have := adv_in h1
  have := h b n k j h2
  omega
theorem fl_in {b : Nat → Int} {n i j : Nat} (e : flag1 b n i = .inr j) : i + 1 ≤ j := by
  unfold flag1 at e
  split at e
  · unfold flagI at e
    obtain ⟨k, h1, h2⟩ := pb_in e
    obtain ⟨k2, h3, h4⟩ := pb_in h2
    obtain ⟨k3, h5, h6⟩ := pb_in h4
    have := adv_in h1; have := num_in h3; have := tak_in h5; have := num_in h6
    omega
  · split at e
    · exact lp_in mon_num e
    · exact lp_in mon_num e
theorem mk14 : mK 14 = 3 := by decide +kernel
theorem mk15 : mK 15 = 4 := by decide +kernel
theorem mk16 : mK 16 = 5 := by decide +kernel
theorem mk17 : mK 17 = 6 := by decide +kernel
section SIMRP
variable {fm : Nat → Int32} {z A B K N W X A2 B2 K2 N2 W2 X2 A3 B3 K3 N3 W3 X3 A4 B4 K4 N4 W4 X4 A5 B5 K5 N5 W5 X5 A6 B6 K6 N6 W6 X6 : Int}
theorem smr_fl1 {v w : Int} (hK : K = 3) (hW : W = 0) (h : NXR fm z B A2 B2 K2 N2) (hW2 : W2 = 0) (h1 : SIMR fm z (num 0 999) A2 B2 K2 N2 W2 X2 A3 B3 K3 N3 W3 X3) (hv : NMP W3 K2 v N2) (h2 : SIMR fm z (tak 15) A3 B3 K3 N3 W3 X3 A4 B4 K4 N4 W4 X4) (hw : w = v) (h3 : SIMR fm z (num w 999) A4 B4 K4 N4 W4 X4 A5 B5 K5 N5 W5 X5) : SIMR fm z flag1 A B K N W X A5 B5 K5 N5 W5 X5 := fun s hs => by
  have q1 := smr_adv (X := X) (X2 := X2) (A := A) (N := N) hK (vk_w (c := 14) (by omega) (by omega)) mk14 (by omega) (by omega) hW h hW2 s hs
  cases s with
  | inl e => exact h3 _ (h2 _ (h1 _ q1))
  | inr i =>
    have hk := rr_is hs hK (vk_w (c := 14) (by omega) (by omega)) mk14
    show RR (bM fm) z.toNat (flag1 (bM fm) z.toNat i) A5 B5 K5 N5 W5 X5
    unfold flag1
    rw [if_pos hk]
    unfold flagI
    have q1' : RR (bM fm) z.toNat (adv (bM fm) z.toNat i) A2 B2 K2 N2 W2 X2 := q1
    cases hj : adv (bM fm) z.toNat i with
    | inl e =>
      rw [hj] at q1'
      exact h3 _ (h2 _ (h1 _ q1'))
    | inr j =>
      rw [hj] at q1'
      have q2 := h1 _ q1'
      have q2' : RR (bM fm) z.toNat (num 0 999 (bM fm) z.toNat j) A3 B3 K3 N3 W3 X3 := q2
      show RR (bM fm) z.toNat (pb (num 0 999 (bM fm) z.toNat j) _) A5 B5 K5 N5 W5 X5
      cases hk2 : num 0 999 (bM fm) z.toNat j with
      | inl e =>
        rw [hk2] at q2'
        exact h3 _ (h2 _ q2')
      | inr k =>
        rw [hk2] at q2'
        have q3 := h2 _ q2'
        have ev : w = tV (bM fm) z.toNat j := by
          have w0 : W3 = 0 := q2'.1
          rcases hv with g | ⟨g1, g2⟩
          · exact absurd w0 g
          · have := q1'.2.2.2.2.1 (rr_is q1' g1 (vk_w (c := 25) (by omega) (by omega)) mk25)
            omega
        have q4 := h3 _ q3
        rw [ev] at q4
        have e2 : pb (pb (.inr k) (tak 15 (bM fm) z.toNat)) (num (tV (bM fm) z.toNat j) 999 (bM fm) z.toNat) = pb (.inr k) (fun j2 => pb (tak 15 (bM fm) z.toNat j2) (fun j3 => num (tV (bM fm) z.toNat j) 999 (bM fm) z.toNat j3)) := pb_pb _ _ _
        rw [e2] at q4
        exact q4
theorem smr_fl2 (hK : K = 5) (hW : W = 0) (h : NXR fm z B A2 B2 K2 N2) (hW2 : W2 = 0) (h1 : SIMR fm z (num 0 10) A2 B2 K2 N2 W2 X2 A3 B3 K3 N3 W3 X3) : SIMR fm z flag1 A B K N W X A3 B3 K3 N3 W3 X3 := smr_if (smr_sq (smr_adv hK (vk_w (c := 16) (by omega) (by omega)) mk16 (by omega) (by omega) hW h hW2) h1) (fun i hs => by
  have hk := rr_is hs hK (vk_w (c := 16) (by omega) (by omega)) mk16
  unfold flag1; rw [if_neg (by omega), if_pos hk])
theorem smr_fl3 (hK : K = 6) (hW : W = 0) (h : NXR fm z B A2 B2 K2 N2) (hW2 : W2 = 0) (h1 : SIMR fm z (num 1 99) A2 B2 K2 N2 W2 X2 A3 B3 K3 N3 W3 X3) : SIMR fm z flag1 A B K N W X A3 B3 K3 N3 W3 X3 := smr_if (smr_sq (smr_adv hK (vk_w (c := 17) (by omega) (by omega)) mk17 (by omega) (by omega) hW h hW2) h1) (fun i hs => by
  have hk := rr_is hs hK (vk_w (c := 17) (by omega) (by omega)) mk17
  unfold flag1; rw [if_neg (by omega), if_neg (by omega)])
def FLGR (fm : Nat → Int32) (z R A B K N W X A2 B2 K2 N2 W2 X2 : Int) : Prop := (R = 1 ∧ (K = 3 ∨ K = 5 ∨ K = 6) ∧ W = 0 ∧ W2 = 0 ∧ SIMR fm z flag1 A B K N W X A2 B2 K2 N2 W2 X2) ∨ (R = 0 ∧ (K = 3 ∨ K = 5 ∨ K = 6) ∧ W = 0 ∧ W2 ≠ 0 ∧ SIMR fm z flag1 A B K N W X A2 B2 K2 N2 W2 X2) ∨ (R = 0 ∧ (W ≠ 0 ∨ (K ≠ 3 ∧ K ≠ 5 ∧ K ≠ 6)) ∧ A2 = A ∧ B2 = B ∧ K2 = K ∧ N2 = N ∧ W2 = W ∧ X2 = X)
theorem fl_k {i : Nat} (hs : RR (bM fm) z.toNat (.inr i) A B K N W X) (hK : K = 3 ∨ K = 5 ∨ K = 6) : isFl (tK (bM fm) z.toNat i) = true := by
  rcases hK with hK | hK | hK
  · exact fl_yes (Or.inl (rr_is hs hK (vk_w (c := 14) (by omega) (by omega)) mk14))
  · exact fl_yes (Or.inr (Or.inl (rr_is hs hK (vk_w (c := 16) (by omega) (by omega)) mk16)))
  · exact fl_yes (Or.inr (Or.inr (rr_is hs hK (vk_w (c := 17) (by omega) (by omega)) mk17)))
theorem fl_nk {i : Nat} (hs : RR (bM fm) z.toNat (.inr i) A B K N W X) (hK : K ≠ 3 ∧ K ≠ 5 ∧ K ≠ 6) : isFl (tK (bM fm) z.toNat i) = false := fl_no ⟨rr_no hs hK.1 mk14, rr_no hs hK.2.1 mk16, rr_no hs hK.2.2 mk17⟩
theorem smrl_f {g : (Nat → Int) → Nat → Nat → PS} {R : Int} (hl : SIMRL fm z g isFl flag1 A B K N W X A2 B2 K2 N2 W2 X2) (y : FLGR fm z R A2 B2 K2 N2 W2 X2 A3 B3 K3 N3 W3 X3) (hR : R ≠ 0) (hz : A2 ≤ 900) : SIMRL fm z g isFl flag1 A B K N W X A3 B3 K3 N3 W3 X3 := by
  rcases y with ⟨r, hK, hW, hW2, h⟩ | ⟨r, _⟩ | ⟨r, _⟩
  · exact smrl_s hl (fun i hs => fl_k hs hK) h (fun i j hs e => fl_in e) hz
  · exact absurd r hR
  · exact absurd r hR
theorem smrl_x {g : (Nat → Int) → Nat → Nat → PS} {R : Int} (hl : SIMRL fm z g isFl flag1 A B K N W X A2 B2 K2 N2 W2 X2) (y : FLGR fm z R A2 B2 K2 N2 W2 X2 A3 B3 K3 N3 W3 X3) (hR : R = 0) (hz : A2 ≤ 900) : SIMR fm z g A B K N W X A3 B3 K3 N3 W3 X3 := by
  rcases y with ⟨r, _⟩ | ⟨r, hK, hW, hW2, h⟩ | ⟨r, hK, e1, e2, e3, e4, e5, e6⟩
  · omega
  · exact smrl_e (smrl_s hl (fun i hs => fl_k hs hK) h (fun i j hs e => fl_in e) hz) (fun i hs => absurd hs.1 hW2)
  · subst e1; subst e2; subst e3; subst e4; subst e5; subst e6
    exact smrl_e hl (fun i hs => fl_nk hs (hK.resolve_left (fun q => q hs.1)))
theorem smrl_w {g fn : (Nat → Int) → Nat → Nat → PS} {cc : Int → Bool} (hl : SIMRL fm z g cc fn A B K N W X A2 B2 K2 N2 W2 X2) (hW : W2 ≠ 0) : SIMR fm z g A B K N W X A2 B2 K2 N2 W2 X2 := smrl_e hl (fun i hs => absurd hs.1 hW)
theorem mk13 : mK 13 = 2 := by decide +kernel
theorem smr_pv0 (hK : K = 2) (hW : W = 0) (h : NXR fm z B A2 B2 K2 N2) (hW2 : W2 = 0) {m : Nat} (hm : m = 0) : SIMR fm z (persV m) A B K N W X A2 B2 K2 N2 W2 X2 := by
  subst hm
  refine smr_if (smr_adv hK (vk_w (c := 13) (by omega) (by omega)) mk13 (by omega) (by omega) hW h hW2) (fun i hs => ?_)
  show pb (adv (bM fm) z.toNat i) (fun j => .inr j) = adv (bM fm) z.toNat i
  cases adv (bM fm) z.toNat i <;> rfl
theorem smr_pvs {m m2 : Nat} (h : SIMR fm z (persV m) A B K N W X A2 B2 K2 N2 W2 X2) (h1 : SIMR fm z (num 0 9) A2 B2 K2 N2 W2 X2 A3 B3 K3 N3 W3 X3) (hm : m2 = m + 1) : SIMR fm z (persV m2) A B K N W X A3 B3 K3 N3 W3 X3 := by
  subst hm
  refine smr_if (smr_sq h h1) (fun i hs => ?_)
  show pb (adv (bM fm) z.toNat i) (fun j => pb (rpt (num 0 9) m (bM fm) z.toNat j) (num 0 9 (bM fm) z.toNat)) = pb (pb (adv (bM fm) z.toNat i) (rpt (num 0 9) m (bM fm) z.toNat)) (num 0 9 (bM fm) z.toNat)
  exact (pb_pb _ _ _).symm
theorem smr_pvn {m m2 : Nat} (h : SIMR fm z (persV m) A B K N W X A2 B2 K2 N2 W2 X2) (hm : m2 = m) : SIMR fm z (persV m2) A B K N W X A2 B2 K2 N2 W2 X2 := by rw [hm]; exact h
theorem smr_pe1 {V P : Int} (hP : 10 ≤ P) (h : SIMR fm z (fun b n i => er b n 4 i) A B K N W X A2 B2 K2 N2 W2 X2) : SIMR fm z (persS V P) A B K N W X A2 B2 K2 N2 W2 X2 := smr_if h (fun i hs => by unfold persS; rw [if_pos hP])
theorem smr_pe2 {V P : Int} (hP : P < 10) (h : SIMR fm z (sq (persV V.toNat) (lpK isFl flag1 1000)) A B K N W X A2 B2 K2 N2 W2 X2) : SIMR fm z (persS V P) A B K N W X A2 B2 K2 N2 W2 X2 := smr_if h (fun i hs => by unfold persS; rw [if_neg (by omega)])
def nmR (r : Int) : Int32 := if r = 1 then 783 else if r = 2 then 1535 else 511
theorem mk18 : mK 18 = 7 := by decide +kernel
theorem mk19 : mK 19 = 8 := by decide +kernel
theorem mk20 : mK 20 = 9 := by decide +kernel
theorem mk8 : mK 8 = 10 := by decide +kernel
theorem smr_la {r : Int} (hK : K = 7 + r) (h0 : 0 ≤ r) (h2' : r ≤ 2) (hW : W = 0) (h : NXR fm z B A2 B2 K2 N2) (hW2 : W2 = 0) (h1 : SIMR fm z (tak 58) A2 B2 K2 N2 W2 X2 A3 B3 K3 N3 W3 X3) (h2 : (r = 2 ∧ SIMR fm z (sumS (naR r) 6) A3 B3 K3 N3 W3 X3 A4 B4 K4 N4 W4 X4) ∨ (r ≠ 2 ∧ SIMR fm z (truthS (naR r) 6) A3 B3 K3 N3 W3 X3 A4 B4 K4 N4 W4 X4)) : SIMR fm z (lawS (nmR r)) A B K N W X A4 B4 K4 N4 W4 X4 := by
  have ha : SIMR fm z adv A B K N W X A2 B2 K2 N2 W2 X2 := by
    have : r = 0 ∨ r = 1 ∨ r = 2 := by omega
    rcases this with e | e | e
    · exact smr_adv (c := 18) (k := 7) (by omega) (vk_w (by omega) (by omega)) mk18 (by omega) (by omega) hW h hW2
    · exact smr_adv (c := 19) (k := 8) (by omega) (vk_w (by omega) (by omega)) mk19 (by omega) (by omega) hW h hW2
    · exact smr_adv (c := 20) (k := 9) (by omega) (vk_w (by omega) (by omega)) mk20 (by omega) (by omega) hW h hW2
  rcases h2 with ⟨q, h2⟩ | ⟨q, h2⟩
  · refine smr_if (smr_sq ha (smr_sq h1 h2)) (fun i hs => ?_)
    have hk := rr_is hs (k := 9) (by omega) (vk_w (c := 20) (by omega) (by omega)) mk20
    unfold lawS; rw [if_pos hk]; rfl
  · refine smr_if (smr_sq ha (smr_sq h1 h2)) (fun i hs => ?_)
    have hk := rr_no hs (k := 9) (by omega) mk20
    unfold lawS; rw [if_neg hk]; rfl
theorem smr_li {V P : Int} (h : (W ≠ 0 ∧ A2 = A ∧ B2 = B ∧ K2 = K ∧ N2 = N ∧ W2 = W ∧ X2 = X) ∨ (K = 2 ∧ SIMR fm z (persS V P) A B K N W X A2 B2 K2 N2 W2 X2) ∨ (∃ r : Int, 0 ≤ r ∧ r ≤ 2 ∧ K = 7 + r ∧ SIMR fm z (lawS (nmR r)) A B K N W X A2 B2 K2 N2 W2 X2) ∨ (K = 10 ∧ SIMR fm z (sq adv (num 0 999)) A B K N W X A2 B2 K2 N2 W2 X2) ∨ ((W ≠ 0 ∨ (K ≠ 2 ∧ K ≠ 7 ∧ K ≠ 8 ∧ K ≠ 9 ∧ K ≠ 10)) ∧ SIMR fm z (fun b n i => er b n 2 i) A B K N W X A2 B2 K2 N2 W2 X2)) : SIMR fm z (lineS V P) A B K N W X A2 B2 K2 N2 W2 X2 := by
  rcases h with ⟨q, e1, e2, e3, e4, e5, e6⟩ | ⟨q, h⟩ | ⟨r, r0, r2, q, h⟩ | ⟨q, h⟩ | ⟨q, h⟩
  · subst e1; subst e2; subst e3; subst e4; subst e5; subst e6
    exact smr_bad (Or.inl q)
  · exact smr_if h (fun i hs => by
      have hk := rr_is hs q (vk_w (c := 13) (by omega) (by omega)) mk13
      unfold lineS; rw [if_pos hk])
  · have : r = 0 ∨ r = 1 ∨ r = 2 := by omega
    rcases this with e | e | e
    · subst e
      exact smr_if h (fun i hs => by
        have hk := rr_is hs (k := 7) (by omega) (vk_w (c := 18) (by omega) (by omega)) mk18
        unfold lineS; rw [if_neg (by omega), if_pos hk]; rfl)
    · subst e
      exact smr_if h (fun i hs => by
        have hk := rr_is hs (k := 8) (by omega) (vk_w (c := 19) (by omega) (by omega)) mk19
        unfold lineS; rw [if_neg (by omega), if_neg (by omega), if_pos hk]; rfl)
    · subst e
      exact smr_if h (fun i hs => by
        have hk := rr_is hs (k := 9) (by omega) (vk_w (c := 20) (by omega) (by omega)) mk20
        unfold lineS; rw [if_neg (by omega), if_neg (by omega), if_neg (by omega), if_pos hk]; rfl)
  · exact smr_if h (fun i hs => by
      have hk := rr_is hs q (vk_w (c := 8) (by omega) (by omega)) mk8
      unfold lineS; rw [if_neg (by omega), if_neg (by omega), if_neg (by omega), if_neg (by omega), if_pos hk])
  · exact smr_if h (fun i hs => by
      have hq := q.resolve_left (fun w => w hs.1)
      have n1 := rr_no hs hq.1 mk13
      have n2 := rr_no hs hq.2.1 mk18
      have n3 := rr_no hs hq.2.2.1 mk19
      have n4 := rr_no hs hq.2.2.2.1 mk20
      have n5 := rr_no hs hq.2.2.2.2 mk8
      unfold lineS; rw [if_neg n1, if_neg n2, if_neg n3, if_neg n4, if_neg n5])
/-! the whole text -/
def LNR (b : Nat → Int) (n : Nat) (V P L A B K N W X : Int) : Prop := (∃ e : Int × Int, PF b n = .inl e ∧ RR b n (.inl e) A B K N W X) ∨ (∃ i m : Nat, RR b n (.inr i) A B K N W X ∧ PF b n = lns b n V m i P L ∧ 1000 ≤ m + i)
theorem rr_st (h : NXR fm z B A2 B2 K2 N2) (hB : B = 0) (hW2 : W2 = 0) : RR (bM fm) z.toNat (startS (bM fm) z.toNat) A2 B2 K2 N2 W2 X2 := by
  obtain ⟨n1, n2, n3, n4⟩ := h
  subst hB
  have n1' : A2 = (tP (bM fm) z.toNat 0 : Nat) := n1
  have eA : A2.toNat = tP (bM fm) z.toNat 0 := by omega
  rw [eA] at n2
  have n2' : B2 = (sS (bM fm) z.toNat (0 + 1) : Nat) := n2
  have eB2 : B2.toNat = sS (bM fm) z.toNat (0 + 1) := by omega
  rw [eA, eB2] at n3 n4
  have n3' : K2 = mK (tK (bM fm) z.toNat 0) := n3
  have n4' : K2 = 25 → N2 = tV (bM fm) z.toNat 0 := n4
  unfold startS
  by_cases c7 : tK (bM fm) z.toNat 0 = 27
  · rw [if_pos c7]
    exact ⟨by show (1 : Int) ≠ 0; omega, Or.inr ⟨hW2, by rw [n3', c7]; exact mk27, rfl, n1'⟩⟩
  · rw [if_neg c7]
    exact ⟨hW2, n1', n2', n3', fun q => n4' (by rw [n3', q]; exact mk25), fun q => c7 (mK_inj (vk_t _ _ _) (vk_w (by omega) (by omega)) (by rw [← n3', q]; exact mk27.symm)), by show ((0 : Nat) : Int) ≤ A2; omega⟩
theorem lnr_1 {V R : Int} (q : RR (bM fm) z.toNat (headS (bM fm) z.toNat) A3 B3 K3 N3 W3 X3) (h3 : SIMR fm z (num 1 3) A3 B3 K3 N3 W3 X3 A4 B4 K4 N4 W4 X4) (hv : NMP W4 K3 R N3) (hV : V = R) (h4 : SIMR fm z (tak 59) A4 B4 K4 N4 W4 X4 A5 B5 K5 N5 W5 X5) : LNR (bM fm) z.toNat V 0 1 A5 B5 K5 N5 W5 X5 := by
  have q4 := h4 _ (h3 _ q)
  unfold LNR PF
  cases hh : headS (bM fm) z.toNat with
  | inl e =>
    rw [hh] at q4
    exact Or.inl ⟨e, rfl, q4⟩
  | inr j =>
    rw [hh] at q q4
    have q3 : RR (bM fm) z.toNat (num 1 3 (bM fm) z.toNat j) A4 B4 K4 N4 W4 X4 := h3 _ q
    have hval : ∀ k, num 1 3 (bM fm) z.toNat j = .inr k → V = tV (bM fm) z.toNat j := fun k hk => by
      rw [hk] at q3
      have w0 : W4 = 0 := q3.1
      rcases hv with g | ⟨g1, g2⟩
      · exact absurd w0 g
      · have := q.2.2.2.2.1 (rr_is q g1 (vk_w (c := 25) (by omega) (by omega)) mk25)
        omega
    show (∃ e : Int × Int, (match sq (num 1 3) (tak 59) (bM fm) z.toNat j with | .inl e => Sum.inl e | .inr i => lns (bM fm) z.toNat (tV (bM fm) z.toNat j) 1000 i 0 1) = .inl e ∧ RR (bM fm) z.toNat (.inl e) A5 B5 K5 N5 W5 X5) ∨ (∃ i m : Nat, RR (bM fm) z.toNat (.inr i) A5 B5 K5 N5 W5 X5 ∧ (match sq (num 1 3) (tak 59) (bM fm) z.toNat j with | .inl e => Sum.inl e | .inr i => lns (bM fm) z.toNat (tV (bM fm) z.toNat j) 1000 i 0 1) = lns (bM fm) z.toNat V m i 0 1 ∧ 1000 ≤ m + i)
    have q5 : RR (bM fm) z.toNat (sq (num 1 3) (tak 59) (bM fm) z.toNat j) A5 B5 K5 N5 W5 X5 := q4
    cases hs : sq (num 1 3) (tak 59) (bM fm) z.toNat j with
    | inl e =>
      rw [hs] at q5
      exact Or.inl ⟨e, rfl, q5⟩
    | inr i =>
      rw [hs] at q5
      obtain ⟨k, hk, _⟩ := pb_in (s := num 1 3 (bM fm) z.toNat j) (g := tak 59 (bM fm) z.toNat) hs
      exact Or.inr ⟨i, 1000, q5, by rw [hval k hk], by omega⟩
theorem lnr_s {V P L P2 L2 : Int} (h : LNR (bM fm) z.toNat V P L A B K N W X) (hK : K ≠ 26) (hz : A ≤ 900) (h1 : SIMR fm z (lineS V P) A B K N W X A2 B2 K2 N2 W2 X2) (h2 : SIMR fm z (tak 59) A2 B2 K2 N2 W2 X2 A3 B3 K3 N3 W3 X3) (hP : W3 ≠ 0 ∨ K3 = 27 ∨ (K = 2 ∧ P2 = P + 1) ∨ (K ≠ 2 ∧ P2 = P)) (hL : L2 = L + 1) : LNR (bM fm) z.toNat V P2 L2 A3 B3 K3 N3 W3 X3 := by
  rcases h with ⟨e, q0, q1⟩ | ⟨i, m, q1, q2, q3⟩
  · exact Or.inl ⟨e, q0, h2 _ (h1 _ q1)⟩
  · have hk : K = mK (tK (bM fm) z.toNat i) := q1.2.2.2.1
    have hi : (i : Int) ≤ A := q1.2.2.2.2.2.2
    have n26 : tK (bM fm) z.toNat i ≠ 26 := fun e => hK (by rw [hk, e]; exact mk26)
    obtain ⟨m, rfl⟩ : ∃ w, m = w + 1 := ⟨m - 1, by omega⟩
    have q := h2 _ (h1 _ q1)
    have e1 : PF (bM fm) z.toNat = match pb (lineS V P (bM fm) z.toNat i) (tak 59 (bM fm) z.toNat) with
      | .inl e => .inl e
      | .inr j => lns (bM fm) z.toNat V m j (if tK (bM fm) z.toNat i = 13 then P + 1 else P) (L + 1) := by
      rw [q2]
      show (if tK (bM fm) z.toNat i = 26 then Sum.inr L else _) = _
      rw [if_neg n26]
      rfl
    have q' : RR (bM fm) z.toNat (pb (lineS V P (bM fm) z.toNat i) (tak 59 (bM fm) z.toNat)) A3 B3 K3 N3 W3 X3 := q
    cases hs : pb (lineS V P (bM fm) z.toNat i) (tak 59 (bM fm) z.toNat) with
    | inl e =>
      rw [hs] at q' e1
      exact Or.inl ⟨e, e1, q'⟩
    | inr j =>
      rw [hs] at q' e1
      have w0 : W3 = 0 := q'.1
      have k27 : K3 ≠ 27 := q'.2.2.2.2.2.1
      have hj : i + 1 ≤ j := by
        obtain ⟨k, g1, g2⟩ := pb_in hs
        have := tak_in g2
        have : i ≤ k := by
          unfold lineS at g1
          have ml : ∀ nm, MON (lawS nm) := fun nm b n i j e => by
            unfold lawS at e
            split at e
            · exact mon_sq mon_adv (mon_sq mon_tak mon_sumS) b n i j e
            · exact mon_sq mon_adv (mon_sq mon_tak (mon_truth (mon_recUT 6).1 (mon_recUT 6).2)) b n i j e
          have mr : ∀ m, MON (rpt (num 0 9) m) := fun m => by
            induction m with
            | zero => intro b n i j h; have h' : (Sum.inr i : PS) = .inr j := h; cases h'; exact Nat.le_refl _
            | succ m ih => exact mon_sq ih mon_num
          have mp : ∀ V P, MON (persS V P) := fun V P b n i j e => by
            unfold persS at e
            split at e
            · exact mon_er (k := 4) b n i j e
            · exact mon_sq (mon_sq mon_adv (mr _)) (mon_lp (fun b n i j e => by have := fl_in e; omega) 1000) b n i j e
          split at g1
          · exact mp V P _ _ _ _ g1
          · split at g1
            · exact ml _ _ _ _ _ g1
            · split at g1
              · exact ml _ _ _ _ _ g1
              · split at g1
                · exact ml _ _ _ _ _ g1
                · split at g1
                  · exact mon_sq mon_adv mon_num _ _ _ _ g1
                  · exact mon_er (k := 2) _ _ _ _ g1
        omega
      refine Or.inr ⟨j, m, q', ?_, by omega⟩
      rw [e1]
      have : (if tK (bM fm) z.toNat i = 13 then P + 1 else P) = P2 := by
        rcases hP with g | g | ⟨g1, g2⟩ | ⟨g1, g2⟩
        · exact absurd w0 g
        · exact absurd g k27
        · have hk13 := rr_is q1 g1 (vk_w (c := 13) (by omega) (by omega)) mk13
          rw [if_pos hk13]; omega
        · rw [if_neg (rr_no q1 g1 mk13)]; omega
      show lns (bM fm) z.toNat V m j (if tK (bM fm) z.toNat i = 13 then P + 1 else P) (L + 1) = _
      rw [this, hL]
theorem lnr_n {V P L V2 P2 L2 : Int} (h : LNR (bM fm) z.toNat V P L A B K N W X) (e0 : V2 = V) (e1 : P2 = P) (e2 : L2 = L) : LNR (bM fm) z.toNat V2 P2 L2 A B K N W X := by rw [e0, e1, e2]; exact h
theorem pfr_r {V P L f p : Int} (h : LNR (bM fm) z.toNat V P L A B K N W X) (hw : W ≠ 0 ∨ K = 26) (hf : f = W) (hp : (W = 0 ∧ p = -1) ∨ (W ≠ 0 ∧ p = X)) : PFR (bM fm) z.toNat f p L := by
  unfold PFR
  rcases h with ⟨e, q0, q1, q2⟩ | ⟨i, m, q1, q2, q3⟩
  · rw [q0]
    rcases q2 with ⟨r1, r2⟩ | ⟨r1, r2, r3, r4⟩
    · exact ⟨by show f = e.1; omega, by show p = e.2; omega, Or.inl (by omega), Or.inr (by show -30 - f = -30 - e.1; omega)⟩
    · omega
  · have w0 : W = 0 := q1.1
    have k26 : K = 26 := by omega
    have hk := rr_is q1 k26 (vk_w (c := 26) (by omega) (by omega)) mk26
    have : PF (bM fm) z.toNat = .inr L := by
      rw [q2]
      cases m with
      | zero => rfl
      | succ m =>
        show (if tK (bM fm) z.toNat i = 26 then Sum.inr L else _) = _
        rw [if_pos hk]
    rw [this]
    exact ⟨by show f = 0; omega, by show p = -1; omega, Or.inr rfl, Or.inl (by omega)⟩
end SIMRP
/-! ### the reference's tokens -/
def kstL : List Nat := [1, 7, 13, 20, 23, 26, 33, 40, 48, 53, 59, 63, 68, 74, 78, 82, 89, 97, 103, 109, 114, 119, 123, 126, 130]
def permL : List Nat := [11, 12, 13, 14, 15, 16, 17, 18, 19, 20, 8, 0, 1, 2, 3, 4, 5, 6, 7, 9, 10, 22, 21, 23]
def kst (n : Nat) : Nat := kstL.getD n 0
def perm (n : Nat) : Nat := permL.getD n 0
theorem ks_all : ∀ n : Fin 24, perm n.val < 24 ∧ mK ((perm n.val : Nat) : Int) = ((n.val : Nat) : Int) ∧ sW 2 (kst n.val + wlen (perm n.val)) = 32 ∧ kst (n.val + 1) = kst n.val + wlen (perm n.val) + 1 ∧ kst n.val + wlen (perm n.val) ≤ 129 ∧ 1 ≤ kst n.val := by decide +kernel
theorem ks_ch : ∀ n : Fin 24, ∀ i : Fin 20, i.val < wlen (perm n.val) → sW 2 (kst n.val + i.val) = wch (perm n.val) i.val ∧ sW 2 (kst n.val + i.val) ≠ 32 := by decide +kernel
theorem ks_on : ∀ m : Fin 24, ∃ n : Fin 24, perm n.val = m.val := by decide +kernel
theorem ks_24 : kst 24 = 130 := by decide +kernel
theorem ks_mono : ∀ n : Fin 24, kst n.val < 130 := by decide +kernel
/-- at the n-th key: none ahead of it is the word -/
def KYI (fm : Nat → Int32) (a e n k : Int) : Prop := n ≤ 24 ∧ 0 ≤ n ∧ k = (kst n.toNat : Nat) ∧ ∀ j : Nat, (j : Int) < n → ¬ WAT (bM fm) a.toNat e.toNat (perm j)
theorem kyi_0 {fm : Nat → Int32} {a e n k : Int} (hn : n = 0) (hk : k = 1) : KYI fm a e n k := by
  subst hn; subst hk
  exact ⟨by omega, by omega, by decide +kernel, fun j hj => by omega⟩
/-- the letters of the key so far -/
def KYP (fm : Nat → Int32) (a k i : Int) : Prop := ∀ j : Nat, (j : Int) < i → sW 2 (k.toNat + j) = (fm (a.toNat + j)).toInt ∧ sW 2 (k.toNat + j) ≠ 32
theorem kyp_0 {fm : Nat → Int32} {a k i : Int} (h : i ≤ 0) : KYP fm a k i := fun j hj => by omega
theorem kyp_s {fm : Nat → Int32} {a k i i2 R Q : Int} {x y v w : Int32} (h : KYP fm a k i) (h0 : 0 ≤ i) (hk : 0 ≤ k) (ha : 0 ≤ a) (hx : x.toInt = k + i) (hR : R = sW 2 x.toNatClampNeg) (hn : R ≠ 32) (hy : y.toInt = a + i) (ev : fm y.toNatClampNeg = v) (hw : w.toInt = k + i) (hQ : Q = sW 2 w.toNatClampNeg) (e : v.toInt = Q) (hi : i2 = i + 1) : KYP fm a k i2 := fun j hj => by
  have e1 := c_nat (x := x) (by omega)
  have e2 := c_nat (x := y) (by omega)
  have e3 := c_nat (x := w) (by omega)
  by_cases c : (j : Int) = i
  · have k1 : k.toNat + j = x.toNatClampNeg := by omega
    have k2 : a.toNat + j = y.toNatClampNeg := by omega
    have k3 : w.toNatClampNeg = x.toNatClampNeg := by omega
    rw [k3] at hQ
    rw [k1, k2, ev]
    exact ⟨by omega, by omega⟩
  · exact h j (by omega)
/-- why the letters ended -/
def KYX (fm : Nat → Int32) (a e k i : Int) : Prop := sW 2 (k.toNat + i.toNat) = 32 ∨ e ≤ a + i ∨ sW 2 (k.toNat + i.toNat) ≠ (fm (a.toNat + i.toNat)).toInt
theorem kyx_1 {fm : Nat → Int32} {a e k i R : Int} {x : Int32} (h0 : 0 ≤ i) (hk : 0 ≤ k) (hx : x.toInt = k + i) (hR : R = sW 2 x.toNatClampNeg) (hn : R = 32) : KYX fm a e k i := by
  have e1 := c_nat (x := x) (by omega)
  have : k.toNat + i.toNat = x.toNatClampNeg := by omega
  unfold KYX
  rw [this]; exact Or.inl (by omega)
theorem kyx_3 {fm : Nat → Int32} {a e k i R : Int} {x y v : Int32} (h0 : 0 ≤ i) (hk : 0 ≤ k) (ha : 0 ≤ a) (hx : x.toInt = k + i) (hR : R = sW 2 x.toNatClampNeg) (hy : y.toInt = a + i) (ev : fm y.toNatClampNeg = v) (hn : v.toInt ≠ R) : KYX fm a e k i := by
  have e1 := c_nat (x := x) (by omega)
  have e2 := c_nat (x := y) (by omega)
  have k1 : k.toNat + i.toNat = x.toNatClampNeg := by omega
  have k2 : a.toNat + i.toNat = y.toNatClampNeg := by omega
  unfold KYX
  rw [k1, k2, ev]; exact Or.inr (Or.inr (by omega))
theorem ky_len {fm : Nat → Int32} {a e n k i : Int} (h : KYI fm a e n k) (hn : n < 24) (hp : KYP fm a k i) : i ≤ (wlen (perm n.toNat) : Nat) := by
  obtain ⟨q1, q2, q3, q4⟩ := h
  by_cases c : i ≤ (wlen (perm n.toNat) : Nat)
  · exact c
  · exfalso
    have h1 := hp (wlen (perm n.toNat)) (by omega)
    obtain ⟨_, _, s3, _⟩ := ks_all ⟨n.toNat, by omega⟩
    have s3' : sW 2 (kst n.toNat + wlen (perm n.toNat)) = 32 := s3
    have ek : k.toNat = kst n.toNat := by omega
    rw [ek] at h1
    exact h1.2 s3'
theorem ky_hit {fm : Nat → Int32} {a e n k i R : Int} {x : Int32} (h : KYI fm a e n k) (hn : n < 24) (hp : KYP fm a k i) (h0 : 0 ≤ i) (ha : 0 ≤ a) (hx : x.toInt = k + i) (hR : R = sW 2 x.toNatClampNeg) (h32 : R = 32) (he : a + i = e) : WAT (bM fm) a.toNat e.toNat (perm n.toNat) := by
  have hl := ky_len h hn hp
  obtain ⟨q1, q2, q3, q4⟩ := h
  have e1 := c_nat (x := x) (by omega)
  have ek : k.toNat = kst n.toNat := by omega
  have hi : i = (wlen (perm n.toNat) : Nat) := by
    by_cases c : i = (wlen (perm n.toNat) : Nat)
    · exact c
    · exfalso
      have hw := (wo_len ⟨perm n.toNat, (ks_all ⟨n.toNat, by omega⟩).1⟩)
      have hw' : wlen (perm n.toNat) < 20 := hw
      have := ks_ch ⟨n.toNat, by omega⟩ ⟨i.toNat, by omega⟩ (by show i.toNat < wlen (perm n.toNat); omega)
      have t : sW 2 (kst n.toNat + i.toNat) ≠ 32 := this.2
      have : x.toNatClampNeg = kst n.toNat + i.toNat := by omega
      rw [this] at hR
      exact t (by omega)
  refine ⟨by omega, fun j hj => ?_⟩
  have h1 := hp j (by omega)
  have hw := (wo_len ⟨perm n.toNat, (ks_all ⟨n.toNat, by omega⟩).1⟩)
  have hw' : wlen (perm n.toNat) < 20 := hw
  have h2 := (ks_ch ⟨n.toNat, by omega⟩ ⟨j, by omega⟩ hj).1
  have h2' : sW 2 (kst n.toNat + j) = wch (perm n.toNat) j := h2
  rw [ek] at h1
  show (fm (a.toNat + j)).toInt = wch (perm n.toNat) j
  rw [← h2']; exact h1.1.symm
theorem ky_miss {fm : Nat → Int32} {a e n k i R : Int} {x : Int32} (h : KYI fm a e n k) (hn : n < 24) (hp : KYP fm a k i) (hX : KYX fm a e k i) (h0 : 0 ≤ i) (ha : 0 ≤ a) (hae : a ≤ e) (hx : x.toInt = k + i) (hR : R = sW 2 x.toNatClampNeg) (hm : R ≠ 32 ∨ a + i ≠ e) : ¬ WAT (bM fm) a.toNat e.toNat (perm n.toNat) := fun w => by
  have hl := ky_len h hn hp
  obtain ⟨q1, q2, q3, q4⟩ := h
  obtain ⟨w1, w2⟩ := w
  have e1 := c_nat (x := x) (by omega)
  have ek : k.toNat = kst n.toNat := by omega
  obtain ⟨s1, s2, s3, s4, s5, s6⟩ := ks_all ⟨n.toNat, by omega⟩
  have s1' : perm n.toNat < 24 := s1
  have s3' : sW 2 (kst n.toNat + wlen (perm n.toNat)) = 32 := s3
  have hw := (wo_len ⟨perm n.toNat, s1'⟩)
  have hw' : wlen (perm n.toNat) < 20 := hw
  have ex : x.toNatClampNeg = kst n.toNat + i.toNat := by omega
  rw [ex] at hR
  by_cases c : i = (wlen (perm n.toNat) : Nat)
  · have : i.toNat = wlen (perm n.toNat) := by omega
    rw [this, s3'] at hR
    omega
  · obtain ⟨t1, t2⟩ := ks_ch ⟨n.toNat, by omega⟩ ⟨i.toNat, by omega⟩ (by show i.toNat < wlen (perm n.toNat); omega)
    have t1' : sW 2 (kst n.toNat + i.toNat) = wch (perm n.toNat) i.toNat := t1
    have t2' : sW 2 (kst n.toNat + i.toNat) ≠ 32 := t2
    have w2' := w2 i.toNat (by omega)
    have w2'' : (fm (a.toNat + i.toNat)).toInt = wch (perm n.toNat) i.toNat := w2'
    unfold KYX at hX
    rw [ek] at hX
    rcases hX with g | g | g
    · exact t2' g
    · omega
    · exact g (by rw [t1', w2''])
/-- on the way to the next key -/
def KYS (n k : Int) : Prop := ((kst n.toNat : Nat) : Int) ≤ k ∧ k ≤ ((kst n.toNat + wlen (perm n.toNat) : Nat) : Int)
theorem kys_0 {fm : Nat → Int32} {a e n k : Int} (h : KYI fm a e n k) : KYS n k := ⟨by rw [h.2.2.1]; omega, by rw [h.2.2.1]; omega⟩
theorem kys_s {n k k2 R : Int} {x : Int32} (h : KYS n k) (hn0 : 0 ≤ n) (hn : n < 24) (hx : x.toInt = k) (hR : R = sW 2 x.toNatClampNeg) (h32 : R ≠ 32) (e : k2 = k + 1) : KYS n k2 := by
  obtain ⟨g1, g2⟩ := h
  have e1 := c_nat (x := x) (by omega)
  obtain ⟨s1, s2, s3, s4, s5, s6⟩ := ks_all ⟨n.toNat, by omega⟩
  have s3' : sW 2 (kst n.toNat + wlen (perm n.toNat)) = 32 := s3
  refine ⟨by omega, ?_⟩
  by_cases c : k = ((kst n.toNat + wlen (perm n.toNat) : Nat) : Int)
  · exfalso
    have : x.toNatClampNeg = kst n.toNat + wlen (perm n.toNat) := by omega
    rw [this, s3'] at hR
    exact h32 hR
  · omega
theorem kyi_s {fm : Nat → Int32} {a e n k0 k n2 k2 R : Int} {x : Int32} (h : KYI fm a e n k0) (hn : n < 24) (hw : ¬ WAT (bM fm) a.toNat e.toNat (perm n.toNat)) (hs : KYS n k) (hx : x.toInt = k) (hR : R = sW 2 x.toNatClampNeg) (h32 : R = 32) (e1 : n2 = n + 1) (e2 : k2 = k + 1) : KYI fm a e n2 k2 := by
  obtain ⟨q1, q2, q3, q4⟩ := h
  obtain ⟨g1, g2⟩ := hs
  have ex := c_nat (x := x) (by omega)
  obtain ⟨s1, s2, s3, s4, s5, s6⟩ := ks_all ⟨n.toNat, by omega⟩
  have s1' : perm n.toNat < 24 := s1
  have s4' : kst (n.toNat + 1) = kst n.toNat + wlen (perm n.toNat) + 1 := s4
  have hw20 := (wo_len ⟨perm n.toNat, s1'⟩)
  have hw' : wlen (perm n.toNat) < 20 := hw20
  have hk : k = ((kst n.toNat + wlen (perm n.toNat) : Nat) : Int) := by
    by_cases c : k = ((kst n.toNat + wlen (perm n.toNat) : Nat) : Int)
    · exact c
    · exfalso
      have := (ks_ch ⟨n.toNat, by omega⟩ ⟨k.toNat - kst n.toNat, by omega⟩ (by show k.toNat - kst n.toNat < wlen (perm n.toNat); omega)).2
      have t : sW 2 (kst n.toNat + (k.toNat - kst n.toNat)) ≠ 32 := this
      have : x.toNatClampNeg = kst n.toNat + (k.toNat - kst n.toNat) := by omega
      rw [← this, ← hR] at t
      exact t h32
  have e3 : n2.toNat = n.toNat + 1 := by omega
  refine ⟨by omega, by omega, by rw [e3, s4']; omega, fun j hj => ?_⟩
  by_cases c : (j : Int) = n
  · have : j = n.toNat := by omega
    rw [this]; exact hw
  · exact q4 j (by omega)
/-- the key's number, as the reference has it -/
def KYE (fm : Nat → Int32) (a e R : Int) : Prop := R = mK (wd (bM fm) a.toNat e.toNat)
theorem kye_at {fm : Nat → Int32} {a e n k : Int} (h : KYI fm a e n k) (hn : n < 24) (hw : WAT (bM fm) a.toNat e.toNat (perm n.toNat)) : KYE fm a e n := by
  obtain ⟨q1, q2, q3, q4⟩ := h
  obtain ⟨s1, s2, _⟩ := ks_all ⟨n.toNat, by omega⟩
  have s2' : mK ((perm n.toNat : Nat) : Int) = ((n.toNat : Nat) : Int) := s2
  unfold KYE
  rw [wd_at (m := perm n.toNat) s1 hw, s2']
  omega
theorem mk24 : mK 24 = 24 := by decide +kernel
theorem kye_no {fm : Nat → Int32} {a e n k R : Int} (h : KYI fm a e n k) (hk : 130 ≤ k) (hR : R = 24) : KYE fm a e R := by
  obtain ⟨q1, q2, q3, q4⟩ := h
  have hn : n = 24 := by
    by_cases c : n = 24
    · exact c
    · exfalso
      have := ks_mono ⟨n.toNat, by omega⟩
      have t : kst n.toNat < 130 := this
      omega
  unfold KYE
  rw [wd_no (fun j hj => ?_), mk24]
  · exact hR
  · obtain ⟨m, hm⟩ := ks_on ⟨j, hj⟩
    have hm' : perm m.val = j := hm
    rw [← hm']; exact q4 m.val (by omega)
theorem ky_lt {fm : Nat → Int32} {a e n k : Int} (h : KYI fm a e n k) (hk : k < 130) : n < 24 := by
  obtain ⟨q1, q2, q3, q4⟩ := h
  by_cases c : n = 24
  · exfalso
    have : n.toNat = 24 := by omega
    rw [this, ks_24] at q3
    omega
  · omega
/-! the next token -/
theorem m_lt (fm : Nat → Int32) (k : Nat) : isLt (bM fm k) = true ↔ 97 ≤ (fm k).toInt ∧ (fm k).toInt ≤ 122 := decide_eq_true_iff
theorem m_dg (fm : Nat → Int32) (k : Nat) : isDg (bM fm k) = true ↔ 48 ≤ (fm k).toInt ∧ (fm k).toInt ≤ 57 := decide_eq_true_iff
theorem m_bl (fm : Nat → Int32) (k : Nat) : isBl (bM fm k) = true ↔ (fm k).toInt = 10 ∨ (fm k).toInt = 32 := decide_eq_true_iff
/-- what see() tells -/
def SEE (fm : Nat → Int32) (z R : Int) (x : Int32) : Prop := (x.toInt < z ∧ R = (fm (x : Int32).toNatClampNeg).toInt) ∨ (z ≤ x.toInt ∧ R = -1)
def BLM (fm : Nat → Int32) (s a : Int) : Prop := s ≤ a ∧ ∀ k : Nat, s ≤ (k : Int) → (k : Int) < a → (fm k).toInt = 10 ∨ (fm k).toInt = 32
theorem blm_0 {fm : Nat → Int32} {s a : Int} (h : a = s) : BLM fm s a := ⟨by omega, fun k h1 h2 => by omega⟩
theorem blm_s {fm : Nat → Int32} {s a2 z R : Int} {x : Int32} (h : BLM fm s x.toInt) (h0 : 0 ≤ x.toInt) (y : SEE fm z R x) (hR : R = 10 ∨ R = 32) (e : a2 = x.toInt + 1) : BLM fm s a2 := by
  have e0 := c_nat h0
  refine ⟨by have := h.1; omega, fun k h1 h2 => ?_⟩
  by_cases c : (k : Int) = x.toInt
  · have : k = x.toNatClampNeg := by omega
    rw [this]
    rcases y with ⟨y1, y2⟩ | ⟨y1, y2⟩ <;> omega
  · exact h.2 k h1 (by omega)
def TSM (fm : Nat → Int32) (z s a : Int) : Prop := a = (tSt (bM fm) z.toNat s.toNat : Nat)
theorem tsm_of {fm : Nat → Int32} {s z R Q : Int} {x : Int32} (h : BLM fm s x.toInt) (hs : 0 ≤ s) (hz : x.toInt ≤ z) (y1 : SEE fm z R x) (h1 : R ≠ 10) (y2 : SEE fm z Q x) (h2 : Q ≠ 32) : TSM fm z s x.toInt := by
  have h0 : 0 ≤ x.toInt := by have := h.1; omega
  have e0 := c_nat h0
  unfold TSM tSt
  rw [run_eq (p := x.toNatClampNeg) ⟨by have := h.1; omega, by omega, fun k g1 g2 => (m_bl fm k).mpr (h.2 k (by omega) (by omega)), ?_⟩]
  · omega
  · rcases y1 with ⟨a1, a2⟩ | ⟨a1, a2⟩
    · rcases y2 with ⟨b1, b2⟩ | ⟨b1, b2⟩
      · exact Or.inr (bool_f (m_bl fm _) (by omega))
      · omega
    · exact Or.inl (by omega)
/-- a test of what see() tells -/
def TSR (lo hi R c : Int) : Prop := (R = 1 ∧ lo ≤ c ∧ c ≤ hi) ∨ (R = 0 ∧ (c < lo ∨ hi < c))
theorem spm_s {lo hi a R c z a2 : Int} {f : Nat → Int32} {x : Int32} (h : SPN lo hi f a x.toInt) (h0 : 0 ≤ x.toInt) (y : SEE f z c x) (t : TSR lo hi R c) (hR : R ≠ 0) (hl : 0 ≤ lo) (e : a2 = x.toInt + 1) : SPN lo hi f a a2 := fun i h1 h2 => by
  have e0 := c_nat h0
  rcases t with t | t
  · by_cases d : (i : Int) = x.toInt
    · have : i = x.toNatClampNeg := by omega
      rw [this]
      rcases y with ⟨y1, y2⟩ | ⟨y1, y2⟩
      · omega
      · omega
    · exact h i h1 (by omega)
  · exact absurd t.1 hR
theorem enm_run {lo hi R c : Int} {P : Int → Bool} {f : Nat → Int32} {n a : Int} {x : Int32} (hP : ∀ k, P (bM f k) = true ↔ lo ≤ (f k).toInt ∧ (f k).toInt ≤ hi) (h0 : 0 ≤ a) (h1 : a + 1 ≤ x.toInt) (h2 : x.toInt ≤ n) (hs : SPN lo hi f a x.toInt) (y : SEE f n c x) (t : TSR lo hi R c) (hR : R = 0) (hl : 0 ≤ lo) : run P (bM f) (n.toNat - a.toNat) a.toNat = x.toNatClampNeg ∧ P (bM f a.toNat) = true := by
  have e0 := c_nat (x := x) (by omega)
  refine ⟨run_eq ⟨by omega, by omega, fun i h3 h4 => (hP i).mpr (hs i (by omega) (by omega)), ?_⟩, (hP _).mpr (hs _ (by omega) (by omega))⟩
  rcases y with ⟨y1, y2⟩ | ⟨y1, y2⟩
  · exact Or.inr (bool_f (hP _) (by rcases t with t | t <;> omega))
  · exact Or.inl (by omega)
theorem nxr_26 {f : Nat → Int32} {n B A B2 K N : Int} (ht : TSM f n B A) (h0 : 0 ≤ A) (h : n ≤ A) (hB : B2 = A) (hK : K = 26) : NXR f n B A B2 K N := by
  refine ⟨ht, ?_, ?_, fun q => by omega⟩
  · unfold tEn; rw [if_pos (by omega)]; omega
  · unfold tKd; rw [if_pos (by omega), mk26]; exact hK
theorem nxr_w {f : Nat → Int32} {n B A K N R c : Int} {x : Int32} (ht : TSM f n B A) (h0 : 0 ≤ A) (h1 : A + 1 ≤ x.toInt) (h2 : x.toInt ≤ n) (hs : SPN 97 122 f A x.toInt) (y : SEE f n c x) (t : TSR 97 122 R c) (hR : R = 0) (hk : KYE f A x.toInt K) : NXR f n B A x.toInt K N := by
  have e0 := c_nat (x := x) (by omega)
  obtain ⟨r1, r2⟩ := enm_run (P := isLt) (m_lt f) h0 h1 h2 hs y t hR (by omega)
  have hK : K = mK (tKd (bM f) n.toNat A.toNat x.toInt.toNat) := by
    unfold tKd; rw [if_neg (by omega), r2]; exact hk
  refine ⟨ht, ?_, hK, fun q => ?_⟩
  · unfold tEn; rw [if_neg (by omega), r2]
    show x.toInt = (run isLt (bM f) (n.toNat - A.toNat) A.toNat : Nat)
    rw [r1]; omega
  · exfalso
    unfold KYE at hk
    have hw := wd_rng (bM f) A.toNat x.toInt.toNat
    have := mK_inj (c := wd (bM f) A.toNat x.toInt.toNat) (d := 25) (vk_w hw.1 (by omega)) (vk_w (by omega) (by omega)) (by rw [← hk, q, mk25])
    omega
theorem nxr_d {f : Nat → Int32} {n B A K N R c : Int} {x : Int32} (ht : TSM f n B A) (h0 : 0 ≤ A) (h1 : A + 1 ≤ x.toInt) (h2 : x.toInt ≤ n) (hs : SPN 48 57 f A x.toInt) (y : SEE f n c x) (t : TSR 48 57 R c) (hR : R = 0) (hK : (3 < x.toInt - A ∧ K = 27) ∨ (x.toInt - A ≤ 3 ∧ K = 25)) (hN : x.toInt - A ≤ 3 → N = tVl (bM f) A.toNat x.toInt.toNat) : NXR f n B A x.toInt K N := by
  have e0 := c_nat (x := x) (by omega)
  obtain ⟨r1, r2⟩ := enm_run (P := isDg) (m_dg f) h0 h1 h2 hs y t hR (by omega)
  have r3 : isLt (bM f A.toNat) = false := bool_f (m_lt f _) (by have := (m_dg f _).mp r2; omega)
  refine ⟨ht, ?_, ?_, fun q => hN (by omega)⟩
  · unfold tEn; rw [if_neg (by omega), r3, r2]
    show x.toInt = (run isDg (bM f) (n.toNat - A.toNat) A.toNat : Nat)
    rw [r1]; omega
  · unfold tKd; rw [if_neg (by omega), r3, r2]
    show K = mK (if A.toNat + 3 < x.toInt.toNat then 27 else 25)
    rcases hK with ⟨g1, g2⟩ | ⟨g1, g2⟩
    · rw [if_pos (by omega), mk27]; exact g2
    · rw [if_neg (by omega), mk25]; exact g2
theorem nxr_s {f : Nat → Int32} {n B K N R Q c d B2 : Int} {x : Int32} (ht : TSM f n B x.toInt) (h0 : 0 ≤ x.toInt) (h1 : x.toInt < n) (yl : SEE f n c x) (tl : TSR 97 122 R c) (hR : R = 0) (yd : SEE f n d x) (td : TSR 48 57 Q d) (hQ : Q = 0) (hB : B2 = x.toInt + 1) (hK : K = mK (sgn (f x.toNatClampNeg).toInt)) : NXR f n B x.toInt B2 K N := by
  have e0 := c_nat h0
  have k1 : isLt (bM f x.toInt.toNat) = false := bool_f (m_lt f _) (by
    have : x.toInt.toNat = x.toNatClampNeg := rfl
    rw [this]
    rcases yl with ⟨y1, y2⟩ | ⟨y1, y2⟩ <;> rcases tl with t | t <;> omega)
  have k2 : isDg (bM f x.toInt.toNat) = false := bool_f (m_dg f _) (by
    have : x.toInt.toNat = x.toNatClampNeg := rfl
    rw [this]
    rcases yd with ⟨y1, y2⟩ | ⟨y1, y2⟩ <;> rcases td with t | t <;> omega)
  have hK' : K = mK (tKd (bM f) n.toNat x.toInt.toNat B2.toNat) := by
    unfold tKd; rw [if_neg (by omega), k1, k2]; exact hK
  refine ⟨ht, ?_, hK', fun q => ?_⟩
  · unfold tEn; rw [if_neg (by omega), k1, k2]
    show B2 = ((x.toInt.toNat + 1 : Nat) : Int)
    omega
  · exfalso
    have := mK_inj (c := sgn (f x.toNatClampNeg).toInt) (d := 25) (vk_sgn _) (vk_w (by omega) (by omega)) (by rw [← hK, q, mk25])
    unfold sgn at this
    split at this <;> omega
/-- the sign among the first k -/
def SGK (c k K : Int) : Prop := ((∀ j : Nat, (j : Int) < k → sW 3 j ≠ c) ∧ K = 27) ∨ K = mK (sgn c)
theorem sgk_0 {c k K : Int} (h : k ≤ 0) (hK : K = 27) : SGK c k K := Or.inl ⟨fun j hj => by omega, hK⟩
theorem s3_at : ∀ k : Fin 12, mK (sgn (sW 3 k.val)) = 30 + ((k.val : Nat) : Int) := by decide +kernel
theorem sgk_hit {c k2 K2 R : Int} {x : Int32} (h0 : 0 ≤ x.toInt) (h1 : x.toInt < 12) (hR : R = sW 3 x.toNatClampNeg) (e : c = R) (hK : K2 = 30 + x.toInt) : SGK c k2 K2 := by
  have e0 := c_nat h0
  have := s3_at ⟨x.toNatClampNeg, by omega⟩
  have t : mK (sgn (sW 3 x.toNatClampNeg)) = 30 + ((x.toNatClampNeg : Nat) : Int) := this
  exact Or.inr (by rw [e, hR, t]; omega)
theorem sgk_s {c k2 K K2 R : Int} {x : Int32} (h : SGK c x.toInt K) (h0 : 0 ≤ x.toInt) (hR : R = sW 3 x.toNatClampNeg) (e : c ≠ R) (hk : k2 = x.toInt + 1) (hK : K2 = K) : SGK c k2 K2 := by
  have e0 := c_nat h0
  rcases h with ⟨g1, g2⟩ | g
  · refine Or.inl ⟨fun j hj => ?_, by omega⟩
    by_cases d : (j : Int) = x.toInt
    · have : j = x.toNatClampNeg := by omega
      rw [this]; omega
    · exact g1 j (by omega)
  · exact Or.inr (by omega)
theorem s3_all : sW 3 0 = 59 ∧ sW 3 1 = 58 ∧ sW 3 2 = 43 ∧ sW 3 3 = 45 ∧ sW 3 4 = 42 ∧ sW 3 5 = 40 ∧ sW 3 6 = 41 ∧ sW 3 7 = 91 ∧ sW 3 8 = 93 ∧ sW 3 9 = 61 ∧ sW 3 10 = 60 ∧ sW 3 11 = 62 := by decide +kernel
theorem sgk_e {c k K : Int} (h : SGK c k K) (hk : 12 ≤ k) : K = mK (sgn c) := by
  rcases h with ⟨g, gK⟩ | g
  · obtain ⟨s0, s1, s2, s3, s4, s5, s6, s7, s8, s9, s10, s11⟩ := s3_all
    have h0 := g 0 (by omega); have h1 := g 1 (by omega); have h2 := g 2 (by omega); have h3 := g 3 (by omega)
    have h4 := g 4 (by omega); have h5 := g 5 (by omega); have h6 := g 6 (by omega); have h7 := g 7 (by omega)
    have h8 := g 8 (by omega); have h9 := g 9 (by omega); have h10 := g 10 (by omega); have h11 := g 11 (by omega)
    rw [s0] at h0; rw [s1] at h1; rw [s2] at h2; rw [s3] at h3; rw [s4] at h4; rw [s5] at h5; rw [s6] at h6; rw [s7] at h7; rw [s8] at h8; rw [s9] at h9; rw [s10] at h10; rw [s11] at h11
    have : sgn c = 27 := by unfold sgn; rw [if_neg (by omega)]
    rw [this, mk27]; exact gK
  · exact g
/-- the number told so far -/
def VLM (f : Nat → Int32) (a i v : Int) : Prop := (i = a ∧ v = 0) ∨ (i = a + 1 ∧ v = (f a.toNat).toInt - 48) ∨ (i = a + 2 ∧ v = 10 * ((f a.toNat).toInt - 48) + ((f (a.toNat + 1)).toInt - 48)) ∨ (i = a + 3 ∧ v = 10 * (10 * ((f a.toNat).toInt - 48) + ((f (a.toNat + 1)).toInt - 48)) + ((f (a.toNat + 2)).toInt - 48)) ∨ a + 4 ≤ i
theorem vlm_s {f : Nat → Int32} {a v v2 i2 z c : Int} {x : Int32} (h : VLM f a x.toInt v) (h0 : 0 ≤ a) (hz : x.toInt < z) (y : SEE f z c x) (hv : x.toInt - a < 3 → v2 = 10 * v + c - 48) (hv2 : 3 ≤ x.toInt - a → v2 = v) (hi : i2 = x.toInt + 1) : VLM f a i2 v2 := by
  have hc : x.toInt < z ∧ c = (f x.toNatClampNeg).toInt := by
    rcases y with y | y
    · exact y
    · omega
  rcases h with ⟨p, q⟩ | ⟨p, q⟩ | ⟨p, q⟩ | ⟨p, q⟩ | p
  · have e0 := c_nat (x := x) (by omega)
    have : x.toNatClampNeg = a.toNat := by omega
    rw [this] at hc
    exact Or.inr (Or.inl ⟨by omega, by have := hv (by omega); omega⟩)
  · have e0 := c_nat (x := x) (by omega)
    have : x.toNatClampNeg = a.toNat + 1 := by omega
    rw [this] at hc
    exact Or.inr (Or.inr (Or.inl ⟨by omega, by have := hv (by omega); omega⟩))
  · have e0 := c_nat (x := x) (by omega)
    have : x.toNatClampNeg = a.toNat + 2 := by omega
    rw [this] at hc
    exact Or.inr (Or.inr (Or.inr (Or.inl ⟨by omega, by have := hv (by omega); omega⟩)))
  · exact Or.inr (Or.inr (Or.inr (Or.inr (by omega))))
  · exact Or.inr (Or.inr (Or.inr (Or.inr (by omega))))
theorem vlm_e {f : Nat → Int32} {a i v : Int} (h : VLM f a i v) (h0 : 0 ≤ a) (h1 : a + 1 ≤ i) (h3 : i ≤ a + 3) : v = tVl (bM f) a.toNat i.toNat := by
  unfold tVl bM
  rcases h with ⟨p, q⟩ | ⟨p, q⟩ | ⟨p, q⟩ | ⟨p, q⟩ | p
  · omega
  · rw [if_pos (by omega)]; omega
  · rw [if_neg (by omega), if_pos (by omega)]; omega
  · rw [if_neg (by omega), if_neg (by omega)]; omega
  · omega
theorem blm_e {fm : Nat → Int32} {s a a2 : Int} (h : BLM fm s a) (e : a2 = a) : BLM fm s a2 := by rw [e]; exact h
theorem sgk_n {c k K k2 : Int} (h : SGK c k K) (e : k2 = k) : SGK c k2 K := by rw [e]; exact h
theorem vlm_n {f : Nat → Int32} {a i v i2 : Int} (h : VLM f a i v) (e : i2 = i) : VLM f a i2 v := by rw [e]; exact h
theorem vk41 : VK 41 := by unfold VK; decide +kernel
theorem mk41 : mK 41 = 36 := by decide +kernel
theorem vk93 : VK 93 := by unfold VK; decide +kernel
theorem mk93 : mK 93 = 38 := by decide +kernel
theorem vk58 : VK 58 := by unfold VK; decide +kernel
theorem mk58 : mK 58 = 31 := by decide +kernel
theorem vk59 : VK 59 := by unfold VK; decide +kernel
theorem mk59 : mK 59 = 30 := by decide +kernel
theorem vk42 : VK 42 := by unfold VK; decide +kernel
theorem mk42 : mK 42 = 34 := by decide +kernel
theorem vk43 : VK 43 := by unfold VK; decide +kernel
theorem mk43 : mK 43 = 32 := by decide +kernel
theorem vk45 : VK 45 := by unfold VK; decide +kernel
theorem mk45 : mK 45 = 33 := by decide +kernel
theorem vk11 : VK 11 := vk_w (by omega) (by omega)
theorem mk11 : mK 11 = 0 := by decide +kernel
theorem vk12 : VK 12 := vk_w (by omega) (by omega)
theorem mk12 : mK 12 = 1 := by decide +kernel
theorem vk15 : VK 15 := vk_w (by omega) (by omega)
theorem vk21 : VK 21 := vk_w (by omega) (by omega)
theorem mk21 : mK 21 = 22 := by decide +kernel
theorem vk22 : VK 22 := vk_w (by omega) (by omega)
theorem mk22 : mK 22 = 21 := by decide +kernel
theorem vk8 : VK 8 := vk_w (by omega) (by omega)
section SIMRQ
variable {fm : Nat → Int32} {z A B K N W X A2 B2 K2 N2 W2 X2 A3 B3 K3 N3 W3 X3 : Int}
theorem smr_tkn {w k : Int} (eA : A2 = A) (eB : B2 = B) (eK : K2 = K) (eN : N2 = N) (hK : W ≠ 0 ∨ K ≠ k) (e : mK w = k) (h : FLR 2 A2 K2 W X W2 X2) : SIMR fm z (tak w) A B K N W X A2 B2 K2 N2 W2 X2 := by
  subst eA; subst eB; subst eK; subst eN
  exact smr_tk2 hK e (smr_er (by omega) h)
theorem smr_ern {k : Int} (hk : k ≠ 0) (eA : A2 = A) (eB : B2 = B) (eK : K2 = K) (eN : N2 = N) (h : FLR k A2 K2 W X W2 X2) : SIMR fm z (fun b n i => er b n k i) A B K N W X A2 B2 K2 N2 W2 X2 := by
  subst eA; subst eB; subst eK; subst eN
  exact smr_er hk h
theorem smr_nmq {lo hi lo2 hi2 : Int} (h : SIMR fm z (num lo hi) A B K N W X A2 B2 K2 N2 W2 X2) (e1 : lo2 = lo) (e2 : hi2 = hi) : SIMR fm z (num lo2 hi2) A B K N W X A2 B2 K2 N2 W2 X2 := by rw [e1, e2]; exact h
/-- from a state that is the same -/
theorem smr_o {g : (Nat → Int) → Nat → Nat → PS} (h : SIMR fm z g A B K N W X A3 B3 K3 N3 W3 X3) (eA : A2 = A) (eB : B2 = B) (eK : K2 = K) (eN : N2 = N) (eW : W2 = W) (eX : X2 = X) : SIMR fm z g A2 B2 K2 N2 W2 X2 A3 B3 K3 N3 W3 X3 := by
  subst eA; subst eB; subst eK; subst eN; subst eW; subst eX; exact h
theorem smrl_n {g fn : (Nat → Int) → Nat → Nat → PS} {cc : Int → Bool} (h : SIMRL fm z g cc fn A B K N W X A2 B2 K2 N2 W2 X2) (eA : A3 = A2) (eB : B3 = B2) (eK : K3 = K2) (eN : N3 = N2) (eW : W3 = W2) (eX : X3 = X2) : SIMRL fm z g cc fn A B K N W X A3 B3 K3 N3 W3 X3 := by
  subst eA; subst eB; subst eK; subst eN; subst eW; subst eX; exact h
theorem rr_c {s : PS} {g : (Nat → Int) → Nat → Nat → PS} (h0 : RR (bM fm) z.toNat s A B K N W X) (h : SIMR fm z g A B K N W X A2 B2 K2 N2 W2 X2) : RR (bM fm) z.toNat (pb s (g (bM fm) z.toNat)) A2 B2 K2 N2 W2 X2 := h s h0
end SIMRQ
