theorem quot_fin {f : FP.Core.Fmt} {s t : Bool} {c d : Nat} {q r : Int} (hd : ¬ d = 0) : FP.Core.quotient f (.fin s c q) (.fin t d r) = FP.Core.roundRatio f (s != t) c d (q - r) := if_neg hd
theorem enc_fin {f : FP.Core.Fmt} {s : Bool} {c : Nat} {q : Int} (h : ¬ c < f.tails) : FP.Core.encode f (.fin s c q) = FP.Core.assemble f s ((q - f.qmin).toNat + 1) (c - f.tails) := if_neg h
theorem u64_nat (n : Nat) : (UInt64.ofNat n).toNat = n % 18446744073709551616 := rfl
theorem ci_gt {a b : Int} (h : b < a) : compare a b = .gt := by
  show compareOfLessAndEq a b = _
  unfold compareOfLessAndEq
  rw [if_neg (by omega), if_neg (by omega)]
theorem ci_lt {a b : Int} (h : a < b) : compare a b = .lt := by
  show compareOfLessAndEq a b = _
  unfold compareOfLessAndEq
  rw [if_pos h]
theorem vf_fin {x : UInt64} {s : Bool} {c : Nat} {q : Int} (h : V64 x = .fin s c q) : vf_n64 x := by
  have h1 : FP.Core.fieldE FP.Core.b64 x.toNat ≠ 2047 := by
    intro e
    unfold V64 FP.Core.val64 FP.Core.decode at h
    rw [if_pos (show FP.Core.fieldE FP.Core.b64 x.toNat = FP.Core.b64.exps - 1 from e)] at h
    split at h <;> cases h
  have h2 : x.toNat / 4503599627370496 % 2048 ≠ 2047 := h1
  unfold vf_n64
  rw [UInt64.le_iff_toNat_le, UInt64.toNat_and]
  show x.toNat &&& (2 ^ 63 - 1) ≤ 9218868437227405312
  rw [Nat.and_two_pow_sub_one_eq_mod]
  omega
theorem inU (c : Nat) (q e : Int) : 0 < c → 0 < FP.Core.inUnits c q e := fun h => Nat.mul_pos h (Nat.two_pow_pos _)
theorem cmp_0 {x : UInt64} {c : Nat} {q : Int} (h : V64 x = .fin false c q) (hc : 0 < c) : FP.dcmp x 0 = some .gt := by
  show FP.Core.order (FP.Core.val64 x) (FP.Core.val64 0) = _
  rw [show FP.Core.val64 x = _ from h, show FP.Core.val64 0 = _ from v64_0]
  show some (compare ((FP.Core.inUnits c q (min q (-1074)) : Nat) : Int) ((0 * _ : Nat) : Int)) = _
  rw [Nat.zero_mul]
  have := inU c q (min q (-1074)) hc
  rw [ci_gt (by omega)]
theorem cmp_1lt {x : UInt64} {c : Nat} {q : Int} (h : V64 x = .fin false c q) (h2 : c < 9007199254740992) (hq : q < -52) : FP.dcmp x 0x3ff0000000000000 = some .lt := by
  show FP.Core.order (FP.Core.val64 x) (FP.Core.val64 0x3ff0000000000000) = _
  rw [show FP.Core.val64 x = _ from h, show FP.Core.val64 0x3ff0000000000000 = _ from v64_1]
  show some (compare ((c * 2 ^ (q - min q (-52)).toNat : Nat) : Int) ((4503599627370496 * 2 ^ (-52 - min q (-52)).toNat : Nat) : Int)) = _
  have e1 : min q (-52) = q := by omega
  have e2 : (q - q).toNat = 0 := by omega
  obtain ⟨k, hk⟩ : ∃ k, (-52 - q).toNat = k + 1 := ⟨(-52 - q).toNat - 1, by omega⟩
  rw [e1, e2, hk, Nat.pow_succ]
  have := Nat.two_pow_pos k
  rw [ci_lt (by omega)]
theorem cmp_1ge {x : UInt64} {c : Nat} (h : V64 x = .fin false c (-52)) (h1 : 4503599627370496 ≤ c) : FP.dcmp x 0x3ff0000000000000 = some .eq ∨ FP.dcmp x 0x3ff0000000000000 = some .gt := by
  have e : FP.dcmp x 0x3ff0000000000000 = some (compare (c : Int) 4503599627370496) := by
    show FP.Core.order (FP.Core.val64 x) (FP.Core.val64 0x3ff0000000000000) = _
    rw [show FP.Core.val64 x = _ from h, show FP.Core.val64 0x3ff0000000000000 = _ from v64_1]
    show some (compare ((c * 1 : Nat) : Int) ((4503599627370496 * 1 : Nat) : Int)) = _
    rw [Nat.mul_one]
    rfl
  rw [e]
  rcases Nat.lt_or_ge 4503599627370496 c with q | q
  · exact Or.inr (by rw [ci_gt (by omega)])
  · exact Or.inl (by rw [show c = 4503599627370496 by omega]; rfl)
theorem bits_of {x : UInt64} {c j : Nat} (h : V64 x = .fin false c (-52 - (j : Int))) (h1 : 4503599627370496 ≤ c) (hj : j ≤ 1000) : x.toNat = (1023 - j) * 4503599627370496 + (c - 4503599627370496) := by
  have hf := FP.Core.val64_fits x
  rw [show FP.Core.val64 x = _ from h] at hf
  obtain ⟨h2, h3, h4⟩ := fits64_out hf
  have e := FP.Core.of64_val64 (a := x) (by rw [show FP.Core.val64 x = _ from h]; intro q; cases q)
  rw [show FP.Core.val64 x = _ from h] at e
  have e2 : FP.Core.encode FP.Core.b64 (.fin false c (-52 - (j : Int))) = (1023 - j) * 4503599627370496 + (c - 4503599627370496) := by
    rw [enc_fin (by rw [b64_tails]; omega), b64_tails, b64_qmin]
    unfold FP.Core.assemble
    rw [b64_tails, show (-52 - (j : Int) - -1074).toNat + 1 = 1023 - j by omega]
    simp
  have e3 : x.toNat = (UInt64.ofNat (FP.Core.encode FP.Core.b64 (.fin false c (-52 - (j : Int))))).toNat := by
    rw [show UInt64.ofNat (FP.Core.encode FP.Core.b64 (.fin false c (-52 - (j : Int)))) = x from e]
  rw [e3, e2, u64_nat]
  omega
theorem v_i2d {a : Nat} (h0 : 0 < a) (h : a < 2 ^ 31) : V64 (FP.i2d (nI a)) = .fin false (a * 2 ^ (52 - a.log2)) ((a.log2 : Int) - 52) := by
  show FP.Core.val64 (FP.Core.i2d (nI a)) = _
  rw [FP.Core.val64_i2d, nI_toInt h]
  obtain ⟨l1, l2, l3⟩ := log_in h0 (by omega)
  have hz : FP.Core.ofInt (a : Int) = .fin false a 0 := by
    unfold FP.Core.ofInt
    rw [decide_eq_false (by omega), Int.natAbs_natCast]
  rw [hz]
  refine (?_ : FP.Core.roundRatio FP.Core.b64 false a 1 0 = _)
  refine FP.Core.roundRatio_exact FP.Core.good_b64 (by decide) (fits64 l2 l3 (by omega) (by omega)) ?_
  rw [show ((0 : Int) - ((a.log2 : Int) - 52)).toNat = 52 - a.log2 by omega, show (((a.log2 : Int) - 52) - (0 : Int)).toNat = 0 by omega]
  simp
theorem v_i2d0 : V64 (FP.i2d (nI 0)) = .fin false 0 (-1074) := by decide +kernel
theorem v_div0 {b : Nat} (h0 : 0 < b) (h : b < 2 ^ 31) : FP.ddiv (FP.i2d (nI 0)) (FP.i2d (nI b)) = 0 := by
  have e : V64 (FP.ddiv (FP.i2d (nI 0)) (FP.i2d (nI b))) = .fin false 0 (-1074) := by
    show FP.Core.val64 (FP.Core.ddiv (FP.Core.i2d (nI 0)) (FP.Core.i2d (nI b))) = _
    rw [FP.Core.val64_ddiv, show FP.Core.val64 (FP.Core.i2d (nI 0)) = _ from v_i2d0, show FP.Core.val64 (FP.Core.i2d (nI b)) = _ from v_i2d h0 h]
    rw [quot_fin (Nat.ne_of_gt (Nat.mul_pos h0 (Nat.two_pow_pos (52 - b.log2))))]
    rfl
  exact FP.Core.val64_inj (by rw [show FP.Core.val64 (FP.ddiv (FP.i2d (nI 0)) (FP.i2d (nI b))) = _ from e]; intro q; cases q) (e.trans v64_0.symm)
theorem v_div {a b : Nat} (h0 : 0 < a) (hab : a ≤ b) (h : b < 2 ^ 31) : ∃ (c j : Nat), V64 (FP.ddiv (FP.i2d (nI a)) (FP.i2d (nI b))) = .fin false c (-52 - (j : Int)) ∧ 4503599627370496 ≤ c ∧ c < 9007199254740992 ∧ j ≤ 31 := by
  have e : V64 (FP.ddiv (FP.i2d (nI a)) (FP.i2d (nI b))) = FP.Core.roundRatio FP.Core.b64 false a b 0 := by
    show FP.Core.val64 (FP.Core.ddiv (FP.Core.i2d (nI a)) (FP.Core.i2d (nI b))) = _
    rw [FP.Core.val64_ddiv, show FP.Core.val64 (FP.Core.i2d (nI a)) = _ from v_i2d h0 (by omega), show FP.Core.val64 (FP.Core.i2d (nI b)) = _ from v_i2d (by omega) h]
    have hB := Nat.mul_pos (show 0 < b by omega) (Nat.two_pow_pos (52 - b.log2))
    rw [quot_fin (Nat.ne_of_gt hB)]
    obtain ⟨la, -, -⟩ := log_in h0 (by omega)
    obtain ⟨lb, -, -⟩ := log_in (show 0 < b by omega) (by omega)
    refine (?_ : FP.Core.roundRatio FP.Core.b64 false (a * 2 ^ (52 - a.log2)) (b * 2 ^ (52 - b.log2)) ((a.log2 : Int) - 52 - ((b.log2 : Int) - 52)) = _)
    refine FP.Core.roundRatio_congr hB (by omega) ?_
    have e1 : (52 - a.log2) + (((a.log2 : Int) - 52 - ((b.log2 : Int) - 52)) - 0).toNat = (52 - b.log2) + ((0 : Int) - ((a.log2 : Int) - 52 - ((b.log2 : Int) - 52))).toNat := by omega
    have e2 : a * 2 ^ (52 - a.log2) * b * 2 ^ (((a.log2 : Int) - 52 - ((b.log2 : Int) - 52)) - 0).toNat = a * b * 2 ^ ((52 - a.log2) + (((a.log2 : Int) - 52 - ((b.log2 : Int) - 52)) - 0).toNat) := by
      rw [Nat.pow_add]
      ac_rfl
    have e3 : a * (b * 2 ^ (52 - b.log2)) * 2 ^ ((0 : Int) - ((a.log2 : Int) - 52 - ((b.log2 : Int) - 52))).toNat = a * b * 2 ^ ((52 - b.log2) + ((0 : Int) - ((a.log2 : Int) - 52 - ((b.log2 : Int) - 52))).toNat) := by
      rw [Nat.pow_add]
      ac_rfl
    rw [e2, e3, e1]
  rw [e]
  have hb0 : 0 < b := by omega
  obtain ⟨s1, s2⟩ := FP.Core.leading_spec h0 hb0
  generalize hk : FP.Core.leading a b = k at s1 s2
  have k1 : k < 1 := FP.Core.lt_of_below s1 (by show a * 1 < b * 2; omega)
  have k2 : -31 < k + 1 := FP.Core.lt_of_below (show ¬ FP.Core.Below a b (-31) from by show ¬ a * 2147483648 < b * 1; omega) s2
  have hq : FP.Core.quantum FP.Core.b64 a b 0 = k - 52 := by
    unfold FP.Core.quantum
    rw [hk, b64_qmin, show (FP.Core.b64.p : Int) = 53 from rfl]
    omega
  unfold FP.Core.roundRatio
  rw [if_neg (by omega), hq]
  unfold FP.Core.roundAt
  have hD := FP.Core.unitsDen_pos hb0 0 (k - 52)
  have b1 : FP.Core.unitsNum a 0 (k - 52) < 2 ^ 53 * FP.Core.unitsDen b 0 (k - 52) := (FP.Core.units_below a b 0 (k - 52) 53).mpr (by rw [show k - 52 - 0 + ((53 : Nat) : Int) = k + 1 by omega]; exact s2)
  have b2 : ¬ FP.Core.unitsNum a 0 (k - 52) < 2 ^ 52 * FP.Core.unitsDen b 0 (k - 52) := fun z => s1 (by have := (FP.Core.units_below a b 0 (k - 52) 52).mp z; rw [show k - 52 - 0 + ((52 : Nat) : Int) = k by omega] at this; exact this)
  have n1 : 4503599627370496 ≤ FP.Core.nearest (FP.Core.unitsNum a 0 (k - 52)) (FP.Core.unitsDen b 0 (k - 52)) := FP.Core.nearest_ge hD (by omega)
  have n2 : FP.Core.nearest (FP.Core.unitsNum a 0 (k - 52)) (FP.Core.unitsDen b 0 (k - 52)) ≤ 9007199254740992 := FP.Core.nearest_le hD (by omega)
  have n3 : k = 0 → FP.Core.nearest (FP.Core.unitsNum a 0 (k - 52)) (FP.Core.unitsDen b 0 (k - 52)) ≤ 4503599627370496 := fun z => FP.Core.nearest_le hD (by subst z; show a * 4503599627370496 ≤ 4503599627370496 * (b * 1); omega)
  generalize FP.Core.nearest (FP.Core.unitsNum a 0 (k - 52)) (FP.Core.unitsDen b 0 (k - 52)) = N at n1 n2 n3
  unfold FP.Core.settle FP.Core.bound
  rw [b64_p, b64_qmax, b64_tails]
  by_cases hN : N < 9007199254740992
  · rw [if_pos hN, if_pos (by omega)]
    exact ⟨N, (-k).toNat, by congr 1; omega, n1, hN, by omega⟩
  · rw [if_neg hN, if_pos (by omega)]
    have hk0 : k ≠ 0 := fun z => by have := n3 z; omega
    exact ⟨4503599627370496, (-k).toNat - 1, by congr 1; omega, by omega, by omega, by omega⟩
