/-! the bits of a share: what doubling, taking one away and scaling do to a double between 0 and 1 -/
abbrev V64 (x : UInt64) : FP.Core.Datum := FP.Core.val64 x
theorem b64_qmin : FP.Core.Fmt.qmin FP.Core.b64 = -1074 := by decide
theorem b64_qmax : FP.Core.Fmt.qmax FP.Core.b64 = 971 := by decide
theorem b64_tails : FP.Core.Fmt.tails FP.Core.b64 = 4503599627370496 := by decide
theorem b64_p : (2 : Nat) ^ FP.Core.b64.p = 9007199254740992 := by decide
theorem fits64 {s : Bool} {c : Nat} {q : Int} (h1 : 4503599627370496 ≤ c) (h2 : c < 9007199254740992) (h3 : -1074 ≤ q) (h4 : q ≤ 971) : FP.Core.fits FP.Core.b64 (.fin s c q) := by
  refine ⟨?_, ?_, ?_, Or.inr ?_⟩
  · rw [b64_p]; exact h2
  · rw [b64_qmin]; exact h3
  · rw [b64_qmax]; exact h4
  · rw [b64_tails]; exact h1
theorem fits64_out {s : Bool} {c : Nat} {q : Int} (h : FP.Core.fits FP.Core.b64 (.fin s c q)) : c < 9007199254740992 ∧ -1074 ≤ q ∧ q ≤ 971 := by
  obtain ⟨h1, h2, h3, h4⟩ := h
  rw [b64_p] at h1
  rw [b64_qmin] at h2
  rw [b64_qmax] at h3
  exact ⟨h1, h2, h3⟩
theorem v64_2 : V64 0x4000000000000000 = .fin false 4503599627370496 (-51) := by decide +kernel
theorem v64_1 : V64 0x3ff0000000000000 = .fin false 4503599627370496 (-52) := by decide +kernel
theorem v64_u : V64 4841369599423283200 = .fin false 4503599627370496 0 := by decide +kernel
theorem v64_0 : V64 0 = .fin false 0 (-1074) := by decide +kernel
theorem v64_nan {x : UInt64} (h : V64 x ≠ .nan) : FP.Core.decode FP.Core.b64 x.toNat ≠ .nan := h
theorem round64 {c A : Nat} {e q : Int} (h1 : 4503599627370496 ≤ c) (h2 : c < 9007199254740992) (h3 : -1074 ≤ q) (h4 : q ≤ 971) {k : Nat} (hk : q = e + k) (hA : A = c * 2 ^ k) : FP.Core.round FP.Core.b64 (.fin false A e) = .fin false c q := by
  show FP.Core.roundRatio FP.Core.b64 false A 1 e = _
  refine FP.Core.roundRatio_exact FP.Core.good_b64 (by decide) (fits64 h1 h2 h3 h4) ?_
  have e1 : (e - q).toNat = 0 := by omega
  have e2 : (q - e).toNat = k := by omega
  rw [e1, e2, hA]
  simp
theorem v_dbl {x : UInt64} {c : Nat} {q : Int} (h : V64 x = .fin false c q) (h1 : 4503599627370496 ≤ c) (hq : q < 971) : V64 (FP.dmul x 0x4000000000000000) = .fin false c (q + 1) := by
  have hf := FP.Core.val64_fits x
  rw [show FP.Core.val64 x = .fin false c q from h] at hf
  obtain ⟨h2, h3, h4⟩ := fits64_out hf
  show FP.Core.val64 (FP.Core.dmul x 0x4000000000000000) = _
  rw [FP.Core.val64_dmul, show FP.Core.val64 x = .fin false c q from h, show FP.Core.val64 0x4000000000000000 = _ from v64_2]
  show FP.Core.round FP.Core.b64 (.fin false (c * 4503599627370496) (q + -51)) = _
  exact round64 h1 h2 (by omega) (by omega) (k := 52) (by omega) rfl
/-- what is left above one, times 2^52 -/
theorem v_sub {x : UInt64} {c : Nat} (h : V64 x = .fin false c (-52)) (h1 : 4503599627370496 ≤ c) : V64 (FP.dsub x 0x3ff0000000000000) = FP.Core.round FP.Core.b64 (.fin false (c - 4503599627370496) (-52)) := by
  show FP.Core.val64 (FP.Core.dsub x 0x3ff0000000000000) = _
  rw [FP.Core.val64_dsub, show FP.Core.val64 x = .fin false c (-52) from h, show FP.Core.val64 0x3ff0000000000000 = _ from v64_1]
  have hm : min (-52 : Int) (-52) = -52 := by decide
  have hv : FP.Core.sumUnits false c (-52) true 4503599627370496 (-52) (min (-52) (-52)) = ((c - 4503599627370496 : Nat) : Int) := by
    rw [hm]
    show ((c * 1 : Nat) : Int) + -((4503599627370496 * 1 : Nat) : Int) = _
    omega
  show FP.Core.round FP.Core.b64 (.fin (FP.Core.sumSign false true (FP.Core.sumUnits false c (-52) true 4503599627370496 (-52) (min (-52) (-52)))) (FP.Core.sumUnits false c (-52) true 4503599627370496 (-52) (min (-52) (-52))).natAbs (min (-52) (-52))) = _
  rw [hv, hm]
  have hs : FP.Core.sumSign false true ((c - 4503599627370496 : Nat) : Int) = false := by
    unfold FP.Core.sumSign
    split
    · rfl
    · exact decide_eq_false (by omega)
  rw [hs, Int.natAbs_natCast]
theorem log_in {f : Nat} (h0 : 0 < f) (h : f < 4503599627370496) : f.log2 ≤ 51 ∧ 4503599627370496 ≤ f * 2 ^ (52 - f.log2) ∧ f * 2 ^ (52 - f.log2) < 9007199254740992 := by
  have hl : f.log2 < 52 := (Nat.log2_lt (by omega)).mpr h
  have ha : 2 ^ f.log2 ≤ f := Nat.log2_self_le (by omega)
  have hb : f < 2 ^ (f.log2 + 1) := Nat.lt_log2_self
  have e1 : 2 ^ f.log2 * 2 ^ (52 - f.log2) = 4503599627370496 := by
    rw [← Nat.pow_add, show f.log2 + (52 - f.log2) = 52 by omega]
  have e2 : 2 ^ (f.log2 + 1) * 2 ^ (52 - f.log2) = 9007199254740992 := by
    rw [← Nat.pow_add, show f.log2 + 1 + (52 - f.log2) = 53 by omega]
  refine ⟨by omega, ?_, ?_⟩
  · rw [← e1]; exact Nat.mul_le_mul_right _ ha
  · rw [← e2]; exact Nat.mul_lt_mul_of_pos_right hb (Nat.two_pow_pos _)
theorem v_frac {x : UInt64} {c : Nat} (h : V64 x = .fin false c (-52)) (h1 : 4503599627370496 ≤ c) : FP.d2l (FP.dmul (FP.dsub x 0x3ff0000000000000) 4841369599423283200) = Int64.ofNat (c - 4503599627370496) ∧ V64 (FP.dsub x 0x3ff0000000000000) ≠ .nan ∧ V64 (FP.dmul (FP.dsub x 0x3ff0000000000000) 4841369599423283200) ≠ .nan := by
  have hf := FP.Core.val64_fits x
  rw [show FP.Core.val64 x = .fin false c (-52) from h] at hf
  obtain ⟨h2, h3, h4⟩ := fits64_out hf
  have hs := v_sub h h1
  generalize hF : c - 4503599627370496 = f at hs
  have hf52 : f < 4503599627370496 := by omega
  generalize FP.dsub x 0x3ff0000000000000 = y at hs
  have hm : V64 (FP.dmul y 4841369599423283200) = FP.Core.round FP.Core.b64 (FP.Core.exactProduct (V64 y) (.fin false 4503599627370496 0)) := by
    show FP.Core.val64 (FP.Core.dmul y 4841369599423283200) = _
    rw [FP.Core.val64_dmul, show FP.Core.val64 4841369599423283200 = _ from v64_u]
  generalize FP.dmul y 4841369599423283200 = z at hm
  have hd : FP.d2l z = FP.Core.toL (V64 z) := rfl
  by_cases h0 : f = 0
  · subst h0
    have e1 : V64 y = .fin false 0 (-1074) := by rw [hs]; rfl
    have e2 : V64 z = .fin false 0 (-1074) := by rw [hm, e1]; rfl
    refine ⟨?_, (by rw [e1]; intro q; cases q), (by rw [e2]; intro q; cases q)⟩
    rw [hd, e2]
    decide +kernel
  · obtain ⟨l1, l2, l3⟩ := log_in (by omega) hf52
    have e1 : V64 y = .fin false (f * 2 ^ (52 - f.log2)) ((f.log2 : Int) - 104) := by
      rw [hs]
      refine (?_ : FP.Core.roundRatio FP.Core.b64 false f 1 (-52) = _)
      refine FP.Core.roundRatio_exact FP.Core.good_b64 (by decide) (fits64 l2 l3 (by omega) (by omega)) ?_
      rw [show ((-52 : Int) - ((f.log2 : Int) - 104)).toNat = 52 - f.log2 by omega, show (((f.log2 : Int) - 104) - (-52 : Int)).toNat = 0 by omega]
      simp
    have e2 : V64 z = .fin false (f * 2 ^ (52 - f.log2)) ((f.log2 : Int) - 52) := by
      rw [hm, e1]
      show FP.Core.round FP.Core.b64 (.fin false (f * 2 ^ (52 - f.log2) * 4503599627370496) ((f.log2 : Int) - 104 + 0)) = _
      exact round64 l2 l3 (by omega) (by omega) (k := 52) (by omega) rfl
    refine ⟨?_, (by rw [e1]; intro q; cases q), (by rw [e2]; intro q; cases q)⟩
    rw [hd, e2]
    show Int64.ofInt (max _ (min _ (FP.Core.truncate false (f * 2 ^ (52 - f.log2)) ((f.log2 : Int) - 52)))) = _
    have ht : FP.Core.truncate false (f * 2 ^ (52 - f.log2)) ((f.log2 : Int) - 52) = (f : Int) := by
      unfold FP.Core.truncate
      rw [show ((f.log2 : Int) - 52).toNat = 0 by omega, show (-((f.log2 : Int) - 52)).toNat = 52 - f.log2 by omega]
      show ((f * 2 ^ (52 - f.log2) * 1 / 2 ^ (52 - f.log2) : Nat) : Int) = _
      rw [Nat.mul_one, Nat.mul_div_cancel _ (Nat.two_pow_pos _)]
    rw [ht, show min ((2 : Int) ^ 63 - 1) (f : Int) = f by omega, show max (-(2 : Int) ^ 63) (f : Int) = f by omega]
    exact Int64.ofInt_eq_ofNat
