/-! the share lies between 0.0 and 1.0 -/
theorem v_div1 {a b : Nat} (h0 : 0 < a) (hab : a ≤ b) (h : b < 2 ^ 31) : ∃ (c j : Nat), V64 (FP.ddiv (FP.i2d (nI a)) (FP.i2d (nI b))) = .fin false c (-52 - (j : Int)) ∧ 4503599627370496 ≤ c ∧ c < 9007199254740992 ∧ j ≤ 31 ∧ (j = 0 → c = 4503599627370496) := by
  have e : V64 (FP.ddiv (FP.i2d (nI a)) (FP.i2d (nI b))) = FP.Core.roundRatio FP.Core.b64 false a b 0 := by
    show FP.Core.val64 (FP.Core.ddiv (FP.Core.i2d (nI a)) (FP.Core.i2d (nI b))) = _
    rw [FP.Core.val64_ddiv, show FP.Core.val64 (FP.Core.i2d (nI a)) = _ from v_i2d h0 (by omega), show FP.Core.val64 (FP.Core.i2d (nI b)) = _ from v_i2d (by omega) h]
    have hB := Nat.mul_pos (show 0 < b by omega) (Nat.two_pow_pos (52 - b.log2))
    rw [quot_fin (Nat.ne_of_gt hB)]
    obtain ⟨la, -, -⟩ := log_in h0 (by omega)
    obtain ⟨lb, -, -⟩ := log_in (show 0 < b by omega) (by omega)
    refine (?_ : FP.Core.roundRatio FP.Core.b64 false (a * 2 ^ (52 - a.log2)) (b * 2 ^ (52 - b.log2)) ((a.log2 : Int) - 52 - ((b.log2 : Int) - 52)) = _)
    refine FP.Core.roundRatio_congr hB (by omega) ?_
    have e1 : (52 - a.log2) + (((a.log2 : Int) - 52 - ((b.log2 : Int) - 52)) - 0).toNat = (52 - b.log2) + ((0 : Int) - ((a.log2 : Int) - 52 - ((b.log2 : Int) - 52))).toNat := by omega
    have e2 : a * 2 ^ (52 - a.log2) * b * 2 ^ (((a.log2 : Int) - 52 - ((b.log2 : Int) - 52)) - 0).toNat = a * b * 2 ^ ((52 - a.log2) + (((a.log2 : Int) - 52 - ((b.log2 : Int) - 52)) - 0).toNat) := by
      rw [Nat.pow_add]
      ac_rfl
    have e3 : a * (b * 2 ^ (52 - b.log2)) * 2 ^ ((0 : Int) - ((a.log2 : Int) - 52 - ((b.log2 : Int) - 52))).toNat = a * b * 2 ^ ((52 - b.log2) + ((0 : Int) - ((a.log2 : Int) - 52 - ((b.log2 : Int) - 52))).toNat) := by
      rw [Nat.pow_add]
      ac_rfl
    rw [e2, e3, e1]
  rw [e]
  have hb0 : 0 < b := by omega
  obtain ⟨s1, s2⟩ := FP.Core.leading_spec h0 hb0
  generalize hk : FP.Core.leading a b = k at s1 s2
  have k1 : k < 1 := FP.Core.lt_of_below s1 (by show a * 1 < b * 2; omega)
  have k2 : -31 < k + 1 := FP.Core.lt_of_below (show ¬ FP.Core.Below a b (-31) from by show ¬ a * 2147483648 < b * 1; omega) s2
  have hq : FP.Core.quantum FP.Core.b64 a b 0 = k - 52 := by
    unfold FP.Core.quantum
    rw [hk, b64_qmin, show (FP.Core.b64.p : Int) = 53 from rfl]
    omega
  unfold FP.Core.roundRatio
  rw [if_neg (by omega), hq]
  unfold FP.Core.roundAt
  have hD := FP.Core.unitsDen_pos hb0 0 (k - 52)
  have b1 : FP.Core.unitsNum a 0 (k - 52) < 2 ^ 53 * FP.Core.unitsDen b 0 (k - 52) := (FP.Core.units_below a b 0 (k - 52) 53).mpr (by rw [show k - 52 - 0 + ((53 : Nat) : Int) = k + 1 by omega]; exact s2)
  have b2 : ¬ FP.Core.unitsNum a 0 (k - 52) < 2 ^ 52 * FP.Core.unitsDen b 0 (k - 52) := fun z => s1 (by have := (FP.Core.units_below a b 0 (k - 52) 52).mp z; rw [show k - 52 - 0 + ((52 : Nat) : Int) = k by omega] at this; exact this)
  have n1 : 4503599627370496 ≤ FP.Core.nearest (FP.Core.unitsNum a 0 (k - 52)) (FP.Core.unitsDen b 0 (k - 52)) := FP.Core.nearest_ge hD (by omega)
  have n2 : FP.Core.nearest (FP.Core.unitsNum a 0 (k - 52)) (FP.Core.unitsDen b 0 (k - 52)) ≤ 9007199254740992 := FP.Core.nearest_le hD (by omega)
  have n3 : k = 0 → FP.Core.nearest (FP.Core.unitsNum a 0 (k - 52)) (FP.Core.unitsDen b 0 (k - 52)) ≤ 4503599627370496 := fun z => FP.Core.nearest_le hD (by subst z; show a * 4503599627370496 ≤ 4503599627370496 * (b * 1); omega)
  generalize FP.Core.nearest (FP.Core.unitsNum a 0 (k - 52)) (FP.Core.unitsDen b 0 (k - 52)) = N at n1 n2 n3
  unfold FP.Core.settle FP.Core.bound
  rw [b64_p, b64_qmax, b64_tails]
  by_cases hN : N < 9007199254740992
  · rw [if_pos hN, if_pos (by omega)]
    exact ⟨N, (-k).toNat, by congr 1; omega, n1, hN, by omega, fun z => by have := n3 (by omega); omega⟩
  · rw [if_neg hN, if_pos (by omega)]
    have hk0 : k ≠ 0 := fun z => by have := n3 z; omega
    exact ⟨4503599627370496, (-k).toNat - 1, by congr 1; omega, by omega, by omega, by omega, fun _ => rfl⟩

theorem share_1 {a b : Nat} (hab : a ≤ b) (h31 : b < 2 ^ 31) : ¬ Op.cmpValue (FP.dcmp (shareN a b) 0) .l < 0 ∧ ¬ 0 < Op.cmpValue (FP.dcmp (shareN a b) 0x3ff0000000000000) .g := by
  unfold shareN
  by_cases hb : b = 0
  · rw [if_pos hb]
    exact ⟨by decide +kernel, by decide +kernel⟩
  · rw [if_neg hb]
    by_cases ha : a = 0
    · subst ha
      rw [v_div0 (by omega) h31]
      exact ⟨by decide +kernel, by decide +kernel⟩
    · obtain ⟨c, j, e, c1, c2, hj, h0⟩ := v_div1 (a := a) (b := b) (by omega) hab h31
      refine ⟨?_, ?_⟩
      · rw [cmp_0 e (by omega)]
        decide
      · by_cases j0 : j = 0
        · have ec := h0 j0
          subst j0
          subst ec
          have e1 : FP.ddiv (FP.i2d (nI a)) (FP.i2d (nI b)) = 0x3ff0000000000000 := FP.Core.val64_inj (by rw [show FP.Core.val64 (FP.ddiv (FP.i2d (nI a)) (FP.i2d (nI b))) = _ from e]; intro q; cases q) (e.trans v64_1.symm)
          rw [e1]
          decide +kernel
        · rw [cmp_1lt e c2 (by omega)]
          decide
/-! what holds() asks, in the words of the state -/
def colA (f : Nat → Int32) (k : Nat) (s : Int32) : Nat → Int32
  | 0 => s
  | h + 1 => colA f k s h + f (h * 3 + k)
def colN (g : Nat → Nat) (k : Nat) : Nat → Nat
  | 0 => 0
  | h + 1 => colN g k h + g (h * 3 + k)
section CO
variable {f : Nat → Int32} {g : Nat → Nat} {hn : Nat}
theorem colA_nat (hf : ∀ p, p < 12 → f p = nI (g p)) {k : Nat} (hk : k < 3) (s : Nat) : ∀ h, h ≤ 4 → colA f k (nI s) h = nI (s + colN g k h)
  | 0, _ => rfl
  | h + 1, h4 => by
    show colA f k (nI s) h + f (h * 3 + k) = nI (s + (colN g k h + g (h * 3 + k)))
    rw [colA_nat hf hk s h (by omega), hf _ (by omega), nI_add, Nat.add_assoc]
theorem colN_4 {k : Nat} (hk : k < 3) (h4 : hn ≤ 4) (hz : ∀ p, 3 * hn ≤ p → p < 12 → g p = 0) : colN g k hn = 0 + g (0 * 3 + k) + g (1 * 3 + k) + g (2 * 3 + k) + g (3 * 3 + k) := by
  rcases (show hn = 0 ∨ hn = 1 ∨ hn = 2 ∨ hn = 3 ∨ hn = 4 by omega) with rfl | rfl | rfl | rfl | rfl
  · have z0 := hz (0 * 3 + k) (by omega) (by omega)
    have z1 := hz (1 * 3 + k) (by omega) (by omega)
    have z2 := hz (2 * 3 + k) (by omega) (by omega)
    have z3 := hz (3 * 3 + k) (by omega) (by omega)
    rw [z0, z1, z2, z3]
    rfl
  · have z1 := hz (1 * 3 + k) (by omega) (by omega)
    have z2 := hz (2 * 3 + k) (by omega) (by omega)
    have z3 := hz (3 * 3 + k) (by omega) (by omega)
    rw [z1, z2, z3]
    rfl
  · have z2 := hz (2 * 3 + k) (by omega) (by omega)
    have z3 := hz (3 * 3 + k) (by omega) (by omega)
    rw [z2, z3]
    rfl
  · have z3 := hz (3 * 3 + k) (by omega) (by omega)
    rw [z3]
    rfl
  · rfl
theorem sum12 (hf : ∀ p, p < 12 → f p = nI (g p)) : sumS f 12 = nI (g 0 + g 1 + g 2 + g 3 + g 4 + g 5 + g 6 + g 7 + g 8 + g 9 + g 10 + g 11) := by
  show nI 0 + f 0 + f 1 + f 2 + f 3 + f 4 + f 5 + f 6 + f 7 + f 8 + f 9 + f 10 + f 11 = _
  rw [hf 0 (by decide), hf 1 (by decide), hf 2 (by decide), hf 3 (by decide), hf 4 (by decide), hf 5 (by decide), hf 6 (by decide), hf 7 (by decide), hf 8 (by decide), hf 9 (by decide), hf 10 (by decide), hf 11 (by decide)]
  simp only [nI_add]
  congr 1
  omega
theorem col_sum (hf : ∀ p, p < 12 → f p = nI (g p)) (h4 : hn ≤ 4) (hz : ∀ p, 3 * hn ≤ p → p < 12 → g p = 0) : colA f 2 (colA f 1 (colA f 0 (nI 0) hn) hn) hn = sumS f 12 := by
  rw [colA_nat hf (by decide) 0 hn h4, colA_nat hf (by decide) _ hn h4, colA_nat hf (by decide) _ hn h4, colN_4 (k := 0) (by decide) h4 hz, colN_4 (k := 1) (by decide) h4 hz, colN_4 (k := 2) (by decide) h4 hz, sum12 hf]
  congr 1
  show 0 + (0 + g 0 + g 3 + g 6 + g 9) + (0 + g 1 + g 4 + g 7 + g 10) + (0 + g 2 + g 5 + g 8 + g 11) = _
  omega
theorem col_one (hf : ∀ p, p < 12 → f p = nI (g p)) (h4 : hn ≤ 4) (hz : ∀ p, 3 * hn ≤ p → p < 12 → g p = 0) {k : Nat} (hk : k < 3) : colA f k (nI 0) hn = nI 0 + f k + f (k + 3) + f (k + 6) + f (k + 9) := by
  rw [colA_nat hf hk 0 hn h4, colN_4 hk h4 hz, hf k (by omega), hf (k + 3) (by omega), hf (k + 6) (by omega), hf (k + 9) (by omega), show 0 * 3 + k = k by omega, show 1 * 3 + k = k + 3 by omega, show 2 * 3 + k = k + 6 by omega, show 3 * 3 + k = k + 9 by omega]
  simp only [nI_add]
  congr 1
  omega
theorem col_three (hf : ∀ p, p < 12 → f p = nI (g p)) (h4 : hn ≤ 4) (hz : ∀ p, 3 * hn ≤ p → p < 12 → g p = 0) : nI 0 + colA f 0 (nI 0) hn + colA f 1 (nI 0) hn + colA f 2 (nI 0) hn = sumS f 12 := by
  rw [colA_nat hf (by decide) 0 hn h4, colA_nat hf (by decide) _ hn h4, colA_nat hf (by decide) _ hn h4, colN_4 (k := 0) (by decide) h4 hz, colN_4 (k := 1) (by decide) h4 hz, colN_4 (k := 2) (by decide) h4 hz, sum12 hf]
  simp only [nI_add]
  congr 1
  show 0 + (0 + (0 + g 0 + g 3 + g 6 + g 9)) + (0 + (0 + g 1 + g 4 + g 7 + g 10)) + (0 + (0 + g 2 + g 5 + g 8 + g 11)) = _
  omega
end CO
section HO
variable {B C hn n : Nat} {F : FF} {N : Nat → Nat → Nat}
theorem ho_zero (h : InvN B F hn n N) : ∀ p, 3 * hn ≤ p → p < 12 → N 7 p = 0 ∧ N 8 p = 0 ∧ N 10 p = 0 ∧ N 11 p = 0 := fun p h1 h2 => by
  have h3 := h.2.2.2.2.2.1 p h1 h2
  have h4 := h.p h2
  omega
theorem ho_waits (h : InvN B F hn n N) : colA (F 11) 2 (colA (F 11) 1 (colA (F 11) 0 (nI 0) hn) hn) hn = sumS (F 11) 12 :=
  col_sum (g := N 11) (fun _ hp => h.F11 hp) h.1.2 (fun p h1 h2 => (ho_zero h p h1 h2).2.2.2)
def hidF (F : FF) (p : Nat) : Int32 := F 10 p - F 8 p
theorem ho_hidden (h : InvN B F hn n N) : colA (hidF F) 2 (colA (hidF F) 1 (colA (hidF F) 0 (nI 0) hn) hn) hn = sumS (F 10) 12 - sumS (F 8) 12 := by
  obtain ⟨d, hd⟩ : ∃ d : Nat → Nat, ∀ p, p < 12 → N 10 p = N 8 p + d p := ⟨fun p => N 10 p - N 8 p, fun p hp => by
    have := h.p hp
    show N 10 p = N 8 p + (N 10 p - N 8 p)
    omega⟩
  rw [col_sum (g := d) (fun p hp => ?_) h.1.2 (fun p h1 h2 => ?_), sum12 (f := hidF F) (g := d) (fun p hp => ?_), sum12 (f := F 10) (g := N 10) (fun _ hp => h.F10 hp), sum12 (f := F 8) (g := N 8) (fun _ hp => h.F8 hp), pk_sub ?_]
  · congr 1
    rw [hd 0 (by decide), hd 1 (by decide), hd 2 (by decide), hd 3 (by decide), hd 4 (by decide), hd 5 (by decide), hd 6 (by decide), hd 7 (by decide), hd 8 (by decide), hd 9 (by decide), hd 10 (by decide), hd 11 (by decide)]
    omega
  · rw [hd 0 (by decide), hd 1 (by decide), hd 2 (by decide), hd 3 (by decide), hd 4 (by decide), hd 5 (by decide), hd 6 (by decide), hd 7 (by decide), hd 8 (by decide), hd 9 (by decide), hd 10 (by decide), hd 11 (by decide)]
    omega
  · have := hd p hp
    unfold hidF
    rw [h.F10 hp, h.F8 hp, pk_sub (by omega)]
    congr 1
    omega
  · have := hd p hp
    unfold hidF
    rw [h.F10 hp, h.F8 hp, pk_sub (by omega)]
    congr 1
    omega
  · have := hd p h2
    have := ho_zero h p h1 h2
    omega
theorem ho_outK (h : InvN B F hn n N) {k : Nat} (hk : k < 3) : outK F k = colA (outS F) k (nI 0) hn := by
  rw [col_one (g := fun p => N 7 p - N 8 p) (fun p hp => out_nat h hp) h.1.2 (fun p h1 h2 => by have := ho_zero h p h1 h2; show N 7 p - N 8 p = 0; omega) hk]
  rfl
theorem ho_out (h : InvN B F hn n N) : nI 0 + colA (outS F) 0 (nI 0) hn + colA (outS F) 1 (nI 0) hn + colA (outS F) 2 (nI 0) hn = sumS (F 7) 12 - sumS (F 8) 12 := by
  obtain ⟨d, hd⟩ : ∃ d : Nat → Nat, ∀ p, p < 12 → N 7 p = N 8 p + d p := ⟨fun p => N 7 p - N 8 p, fun p hp => by
    have := h.p hp
    show N 7 p = N 8 p + (N 7 p - N 8 p)
    omega⟩
  have ho : ∀ p, p < 12 → outS F p = nI (d p) := fun p hp => by
    have := hd p hp
    rw [out_nat h hp]
    congr 1
    omega
  rw [col_three (g := d) ho h.1.2 (fun p h1 h2 => by have := hd p h2; have := ho_zero h p h1 h2; omega), sum12 (f := outS F) (g := d) ho, sum12 (f := F 7) (g := N 7) (fun _ hp => h.F7 hp), sum12 (f := F 8) (g := N 8) (fun _ hp => h.F8 hp), pk_sub ?_]
  · congr 1
    rw [hd 0 (by decide), hd 1 (by decide), hd 2 (by decide), hd 3 (by decide), hd 4 (by decide), hd 5 (by decide), hd 6 (by decide), hd 7 (by decide), hd 8 (by decide), hd 9 (by decide), hd 10 (by decide), hd 11 (by decide)]
    omega
  · rw [hd 0 (by decide), hd 1 (by decide), hd 2 (by decide), hd 3 (by decide), hd 4 (by decide), hd 5 (by decide), hd 6 (by decide), hd 7 (by decide), hd 8 (by decide), hd 9 (by decide), hd 10 (by decide), hd 11 (by decide)]
    omega
theorem ho_five (h : InvN B F hn n N) (hB : B < 2 ^ 26) : sumS (F 10) 12 = sumS (F 5) 3 + sumS (F 6) 3 + (sumS (F 10) 12 - sumS (F 8) 12) := by
  obtain ⟨a, b, -, e8, e56, -⟩ := share_nat h hB
  rw [e56, ← e8, Int32.add_comm, Int32.sub_add_cancel]
theorem ho_corks (h : InvN B F hn n N) (hB : B < 2 ^ 26) {p : Nat} (hp : p < 12) : ¬ corksS F p < 0 := by
  have := h.p hp
  rw [corks_nat h hp]; exact nI_pos (by omega)
theorem ho_8 (h : InvN B F hn n N) (hB : B < 2 ^ 26) {p : Nat} (hp : p < 12) : ¬ F 7 p - F 9 p < 0 := by
  have := h.p hp
  rw [h.F7 hp, h.F9 hp, pk_sub (by omega)]; exact nI_pos (by omega)
theorem ho_9 (h : InvN B F hn n N) (hB : B < 2 ^ 26) {p : Nat} (hp : p < 12) : ¬ F 10 p - F 8 p < 0 := by
  have := h.p hp
  rw [h.F10 hp, h.F8 hp, pk_sub (by omega)]; exact nI_pos (by omega)
theorem ho_w9 (h : InvN B F hn n N) {p : Nat} (hp : p < 12) : ¬ nI 9 < F 11 p := by
  have := h.p hp
  rw [h.F11 hp]; exact nI_nlt (by omega) (by omega)
theorem ho_why (h : InvN B F hn n N) {p : Nat} (hp : p < 12) : whyC F p = nI 1 ↔ F 11 p = 0 := by
  have hq := h.p hp
  unfold whyC
  rw [h.F11 hp]
  by_cases c : N 11 p = 0
  · rw [c, if_neg (by decide)]
    exact ⟨fun _ => by decide, fun _ => rfl⟩
  · rw [if_pos ((nI_0lt (by omega)).mpr (by omega))]
    constructor
    · intro z
      exfalso
      split at z
      · split at z <;> exact absurd z (by decide)
      · split at z <;> exact absurd z (by decide)
    · intro z
      exact absurd ((nI_e0 (by omega)).mp z) c
theorem ho_full (h : InvN B F hn n N) (hB : B < 2 ^ 26) (hE : EB F) {k : Nat} (hk : k < 3) : ¬ F 2 k < F 3 k + outK F k ∧ ¬ nI 20 < F 2 k := by
  obtain ⟨b, f, e2, hb, -, -, -, ho, e3, q1, q2⟩ := free_nat h (by omega) hE hk
  rw [e2, e3, ho, nI_add]
  exact ⟨nI_nlt q2 (by omega), nI_nlt hb (by omega)⟩
theorem ho_sent (hS : SL C F) (hC : C < 2 ^ 31) : ¬ F 0 2 < F 0 3 := by
  obtain ⟨y, x, e1, e2, h1, h2⟩ := hS
  rw [e1, e2]; exact nI_nlt h1 (by omega)
theorem ho_under (h : InvN B F hn n N) : ¬ nI 40 < F 0 4 := by
  rw [h.2.1.1]; exact nI_nlt h.2.1.2 (by decide)
theorem mx0_le {a b : Nat} (ha : a < 2 ^ 30) (hb : b < 2 ^ 30) (h : a ≤ b) : mx0 (nI a - nI b) = nI 0 := by
  unfold mx0
  rw [if_neg (show ¬ nI 0 < nI a - nI b from Int32.not_lt.mpr ((dif_le ha hb).mpr h))]
theorem ho_need (h : InvN B F hn n N) (hB : B < 2 ^ 26) {j : Nat} (hj : j < 4) (hp : 0 < needC F j) : ¬ F 11 (j * 3 + 0) + F 11 (j * 3 + 1) + F 11 (j * 3 + 2) ≤ 0 := by
  have p0 := h.p (p := j * 3 + 0) (by omega)
  have p1 := h.p (p := j * 3 + 1) (by omega)
  have p2 := h.p (p := j * 3 + 2) (by omega)
  unfold needC at hp
  rw [corks_nat h (by omega), corks_nat h (by omega), corks_nat h (by omega)] at hp
  rw [h.F11 (by omega), h.F11 (by omega), h.F11 (by omega)] at hp ⊢
  rw [nI_add, nI_add]
  by_cases c : N 11 (j * 3 + 0) + N 11 (j * 3 + 1) + N 11 (j * 3 + 2) = 0
  · exfalso
    rw [mx0_le (by omega) (by omega) (by omega), mx0_le (by omega) (by omega) (by omega), mx0_le (by omega) (by omega) (by omega)] at hp
    exact absurd hp (by decide)
  · exact nI_nle (by omega) (by omega)
theorem ho_ne (F : FF) : ∀ (k h : Nat) (f m : Int32), (f = -1 ∨ ∃ j, j < h ∧ f = nI j ∧ 0 < needC F j) → 0 ≤ m → (neC F k h f m = -1 ∨ ∃ j, j < h + k ∧ neC F k h f m = nI j ∧ 0 < needC F j)
  | 0, h, f, m, hf, _ => hf
  | k + 1, h, f, m, hf, hm => by
    unfold neC
    split
    · have := ho_ne F k (h + 1) f m (hf.elim Or.inl (fun ⟨j, a, b, c⟩ => Or.inr ⟨j, by omega, b, c⟩)) hm
      rw [show h + 1 + k = h + (k + 1) by omega] at this
      exact this
    · rename_i c
      have hlt : 0 < needC F h := Int32.lt_of_le_of_lt hm (Int32.not_le.mp c)
      have := ho_ne F k (h + 1) (nI h) (needC F h) (Or.inr ⟨h, by omega, rfl, hlt⟩) (Int32.le_of_lt hlt)
      rw [show h + 1 + k = h + (k + 1) by omega] at this
      exact this
/-- what would() asks -/
theorem sum_le {f g : Nat → Nat} (h : ∀ p, p < 12 → f p ≤ g p) : f 0 + f 1 + f 2 + f 3 + f 4 + f 5 + f 6 + f 7 + f 8 + f 9 + f 10 + f 11 ≤ g 0 + g 1 + g 2 + g 3 + g 4 + g 5 + g 6 + g 7 + g 8 + g 9 + g 10 + g 11 := by
  have := h 0 (by decide); have := h 1 (by decide); have := h 2 (by decide); have := h 3 (by decide); have := h 4 (by decide); have := h 5 (by decide)
  have := h 6 (by decide); have := h 7 (by decide); have := h 8 (by decide); have := h 9 (by decide); have := h 10 (by decide); have := h 11 (by decide)
  omega
theorem IY.fore {i : Nat} (h : IY i F) (hi : i ≤ 50) {m : Nat} (hm : m ≤ 60) {w : Nat} (hw : w < 4) : ¬ foreC F (ticksC m F) w < 0 := by
  obtain ⟨hY, hL⟩ := h.pass hi hm
  obtain ⟨⟨hn, n, N, h1⟩, -, hS, -⟩ := h
  obtain ⟨⟨hn', n', N', h1'⟩, -, hS', -⟩ := hY
  generalize ticksC m F = G at *
  rcases (show w = 0 ∨ w = 1 ∨ w = 2 ∨ w = 3 by omega) with rfl | rfl | rfl | rfl
  · show ¬ sumS (G 10) 12 - sumS (F 10) 12 < 0
    have q : ∀ p, p < 12 → N 10 p ≤ N' 10 p := fun p hp => by
      have := hL.1 p hp
      rw [h1.n10 (by omega) hp, h1'.n10 (by omega) hp] at this
      exact this
    have b0 := h1'.p (p := 0) (by decide); have b1 := h1'.p (p := 1) (by decide); have b2 := h1'.p (p := 2) (by decide); have b3 := h1'.p (p := 3) (by decide)
    have b4 := h1'.p (p := 4) (by decide); have b5 := h1'.p (p := 5) (by decide); have b6 := h1'.p (p := 6) (by decide); have b7 := h1'.p (p := 7) (by decide)
    have b8 := h1'.p (p := 8) (by decide); have b9 := h1'.p (p := 9) (by decide); have b10 := h1'.p (p := 10) (by decide); have b11 := h1'.p (p := 11) (by decide)
    rw [sum12 (f := G 10) (g := N' 10) (fun _ hp => h1'.F10 hp), sum12 (f := F 10) (g := N 10) (fun _ hp => h1.F10 hp), pk_sub (sum_le q)]
    exact nI_pos (by omega)
  · show ¬ (nI 0 + G 5 0 + G 5 1 + G 5 2) - (nI 0 + F 5 0 + F 5 1 + F 5 2) < 0
    have q : ∀ k, k < 3 → N 5 k ≤ N' 5 k := fun k hk => by
      have := hL.2.1 k hk
      rw [h1.n5 (by omega) hk, h1'.n5 (by omega) hk] at this
      exact this
    have q0 := q 0 (by decide); have q1 := q 1 (by decide); have q2 := q 2 (by decide)
    have b0 := h1'.b3 (by omega) (k := 0) (by decide); have b1 := h1'.b3 (by omega) (k := 1) (by decide); have b2 := h1'.b3 (by omega) (k := 2) (by decide)
    rw [h1.F5 (p := 0) (by decide), h1.F5 (p := 1) (by decide), h1.F5 (p := 2) (by decide), h1'.F5 (p := 0) (by decide), h1'.F5 (p := 1) (by decide), h1'.F5 (p := 2) (by decide)]
    rw [nI_add, nI_add, nI_add, nI_add, nI_add, nI_add, pk_sub (by omega)]
    exact nI_pos (by omega)
  · show ¬ sumS (G 11) 12 < 0
    have b0 := h1'.p (p := 0) (by decide); have b1 := h1'.p (p := 1) (by decide); have b2 := h1'.p (p := 2) (by decide); have b3 := h1'.p (p := 3) (by decide)
    have b4 := h1'.p (p := 4) (by decide); have b5 := h1'.p (p := 5) (by decide); have b6 := h1'.p (p := 6) (by decide); have b7 := h1'.p (p := 7) (by decide)
    have b8 := h1'.p (p := 8) (by decide); have b9 := h1'.p (p := 9) (by decide); have b10 := h1'.p (p := 10) (by decide); have b11 := h1'.p (p := 11) (by decide)
    rw [sum12 (f := G 11) (g := N' 11) (fun _ hp => h1'.F11 hp)]
    exact nI_pos (by omega)
  · show ¬ G 0 3 - F 0 3 < 0
    obtain ⟨y, x, e1, e2, s1, s2⟩ := hS
    obtain ⟨y', x', e1', e2', s1', s2'⟩ := hS'
    have q := hL.2.2
    rw [e2, e2', nN_nI (by omega), nN_nI (by omega)] at q
    rw [e2, e2', pk_sub q]
    exact nI_pos (by omega)
theorem still_in : ∀ (k t : Nat) (F : FF), t + k ≤ 1000 → (stillR k t F).1 = -1 ∨ ∃ j, t ≤ j ∧ j < t + k ∧ (stillR k t F).1 = nI j
  | 0, _, _, _ => Or.inl rfl
  | k + 1, t, F, h => by
    unfold stillR
    split
    · exact Or.inr ⟨t, Nat.le_refl _, by omega, rfl⟩
    · rcases still_in k (t + 1) (tickC F) (by omega) with z | ⟨j, a, b, c⟩
      · exact Or.inl z
      · exact Or.inr ⟨j, by omega, by omega, c⟩
theorem still_0 (F : FF) : (stillR 201 0 F).1 = 0 ↔ F 0 4 = 0 := by
  unfold stillR
  split
  · rename_i c
    exact ⟨fun _ => c, fun _ => rfl⟩
  · rename_i c
    refine ⟨fun z => ?_, fun z => absurd z c⟩
    rcases still_in 200 1 (tickC F) (by decide) with q | ⟨j, a, b, e⟩
    · exact absurd (q.symm.trans z) (by decide)
    · exact absurd ((nI_e0 (by omega)).mp (e.symm.trans z)) (by omega)
theorem still_rng (F : FF) : ¬ (stillR 201 0 F).1 < -1 ∧ ¬ nI 200 < (stillR 201 0 F).1 := by
  rcases still_in 201 0 F (by decide) with q | ⟨j, a, b, e⟩
  · rw [q]; exact ⟨by decide, by decide⟩
  · rw [e]
    exact ⟨fun z => nI_pos (n := j) (by omega) (Int32.lt_trans z (by decide)), nI_nlt (by omega) (by decide)⟩
end HO
