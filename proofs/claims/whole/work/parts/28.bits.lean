theorem shl52 : ∀ n, n < 1024 → Int64.ofNat n <<< ((nI 52).toInt64 &&& 63) = Int64.ofNat (n * 4503599627370496) := by decide +kernel
theorem l_pred {n : Nat} (h : 0 < n) : Int64.ofNat n - 1 = Int64.ofNat (n - 1) := by
  have e : Int64.ofNat n = Int64.ofNat (n - 1) + Int64.ofNat 1 := by rw [← Int64.ofNat_add, show n - 1 + 1 = n by omega]
  rw [e]
  exact Int64.add_sub_cancel _ _
theorem vf_of {x : UInt64} (h : V64 x ≠ .nan) : vf_n64 x := by
  cases e : V64 x with
  | nan => exact absurd e h
  | fin s c q => exact vf_fin e
  | inf s =>
    have h2 : FP.Core.fieldT FP.Core.b64 x.toNat = 0 ∧ FP.Core.fieldE FP.Core.b64 x.toNat = 2047 := by
      unfold V64 FP.Core.val64 FP.Core.decode at e
      split at e
      · rename_i q
        split at e
        · rename_i q2
          exact ⟨q2, q⟩
        · cases e
      · split at e <;> cases e
    have h3 : x.toNat % 4503599627370496 = 0 := h2.1
    have h4 : x.toNat / 4503599627370496 % 2048 = 2047 := h2.2
    unfold vf_n64
    rw [UInt64.le_iff_toNat_le, UInt64.toNat_and]
    show x.toNat &&& (2 ^ 63 - 1) ≤ 9218868437227405312
    rw [Nat.and_two_pow_sub_one_eq_mod]
    omega
theorem share_sum {x y : UInt64} {c j : Nat} (h : V64 x = .fin false c (-52 - (j : Int))) (hy : V64 y = .fin false c (-52)) (h1 : 4503599627370496 ≤ c) (hj : j ≤ 1000) : Int64.ofNat (1023 - j) <<< ((nI 52).toInt64 &&& 63) + FP.d2l (FP.dmul (FP.dsub y 0x3ff0000000000000) 4841369599423283200) = Int64.ofNat x.toNat := by
  rw [(v_frac hy h1).1, shl52 _ (by omega), ← Int64.ofNat_add, bits_of h h1 hj]
abbrev rmX4_shareBits : Room := { frames := 0, cells := 0, slots := 0, locals := 0 }
set_option maxHeartbeats 4000000 in
set_option maxRecDepth 100000 in
theorem mX4_shareBits_pos (l : Launch) (K : KT) {x : UInt64} {c j : Nat} (h : V64 x = .fin false c (-52 - (j : Int))) (h1 : 4503599627370496 ≤ c) (hj : j ≤ 1000) : Ct l K yX4_shareBits wsX4_shareBits rmX4_shareBits [.double x] [] (some (.long (Int64.ofNat x.toNat))) [] := by
  refine CtP_of (cc := cX4_shareBits) (nL := 8) (rt := some .long) (own := RX4) (lv0 := [(0, .double x)]) (by decide) rfl (Nat.le_of_ble_eq_true rfl) rfl rfl ?_
  intro G C0 hF _
  have cl289 : Cond.constantLong RX4 289 1023 ∈ wsX4_shareBits := by decide +kernel
  have cd293 : Cond.constantDouble RX4 293 4841369599423283200 ∈ wsX4_shareBits := by decide +kernel
  have cd291 : Cond.constantDouble RX4 291 4611686018427387904 ∈ wsX4_shareBits := by decide +kernel
  have hgt : 0 < Op.cmpValue (FP.dcmp x 0) .g := by rw [cmp_0 h (by omega)]; decide
  have hc2 : c < 9007199254740992 := by
    have hf := FP.Core.val64_fits x
    rw [show FP.Core.val64 x = _ from h] at hf
    exact (fits64_out hf).1
  have lp : ∀ (q i : Nat) (y : UInt64), i + q = j → V64 y = .fin false c (-52 - (q : Int)) → J G [] [(6, .int (nI (i + 1))), (4, .long (Int64.ofNat (1023 - i))), (2, .double y), (0, .double x)] 0 0 18 [] := by
    intro q
    induction q with
    | zero =>
      intro i y hq hy
      have hge : 0 ≤ Op.cmpValue (FP.dcmp y 0x3ff0000000000000) .g := by rcases cmp_1ge (x := y) (by simpa using hy) h1 with e | e <;> (rw [e]; decide)
      refine J_il C0 0 dX4_shareBits_18 (kk := ?_)
      refine J_si C0 1023 dX4_shareBits_20 (kk := ?_)
      refine J_icmpgeN C0 50 (by omega) (by omega) dX4_shareBits_23 (kt := fun c1 => ?_) (kf := fun c1 => ?_)
      · exfalso; omega
      · refine J_dln C0 2 dX4_shareBits_26 (kk := ?_)
        refine J_dc1 C0 dX4_shareBits_27 ?_
        refine J_dcmp C0 dX4_shareBits_28 (kk := ?_)
        refine J_ifge C0 50 dX4_shareBits_29 (kt := fun c2 => ?_) (kf := fun c2 => ?_)
        · refine J_dln C0 2 dX4_shareBits_50 (kk := ?_)
          refine J_dc1 C0 dX4_shareBits_51 ?_
          refine J_dsub C0 dX4_shareBits_52 (vf_of (v_frac (by simpa using hy) h1).2.1) (kk := ?_)
          refine J_ldd C0 cd293 dX4_shareBits_53 ?_
          refine J_dmul C0 dX4_shareBits_56 (vf_of (v_frac (by simpa using hy) h1).2.2) (kk := ?_)
          refine J_d2l C0 dX4_shareBits_57 ?_
          refine J_ls C0 [(6, .long (FP.d2l (FP.dmul (FP.dsub y 0x3ff0000000000000) 4841369599423283200))), (4, .long (Int64.ofNat (1023 - i))), (2, .double y), (0, .double x)] dX4_shareBits_58 (kk := ?_)
          refine J_ll C0 1 dX4_shareBits_60 (kk := ?_)
          refine J_bi C0 52 dX4_shareBits_62 (kk := ?_)
          refine J_lshl C0 dX4_shareBits_64 rfl (kk := ?_)
          refine J_ll C0 0 dX4_shareBits_65 (kk := ?_)
          refine J_ladd C0 dX4_shareBits_67 ?_
          exact J_lret C0 hF dX4_shareBits_68 ⟨by rw [show i = j by omega]; exact congrArg (fun z => some (Value.long z)) (share_sum h (by simpa using hy) h1 hj), rfl⟩
        · exact absurd hge c2
    | succ q ih =>
      intro i y hq hy
      have hlt : ¬ 0 ≤ Op.cmpValue (FP.dcmp y 0x3ff0000000000000) .g := by rw [cmp_1lt hy hc2 (by omega)]; decide
      have hy2 : V64 (FP.dmul y 4611686018427387904) = .fin false c (-52 - (q : Int)) := by
        have e := v_dbl hy h1 (by omega)
        rw [show (-52 - ((q + 1 : Nat) : Int) + 1) = -52 - (q : Int) by omega] at e
        exact e
      refine J_il C0 0 dX4_shareBits_18 (kk := ?_)
      refine J_si C0 1023 dX4_shareBits_20 (kk := ?_)
      refine J_icmpgeN C0 50 (by omega) (by omega) dX4_shareBits_23 (kt := fun c1 => ?_) (kf := fun c1 => ?_)
      · exfalso; omega
      · refine J_dln C0 2 dX4_shareBits_26 (kk := ?_)
        refine J_dc1 C0 dX4_shareBits_27 ?_
        refine J_dcmp C0 dX4_shareBits_28 (kk := ?_)
        refine J_ifge C0 50 dX4_shareBits_29 (kt := fun c2 => ?_) (kf := fun c2 => ?_)
        · exact absurd c2 hlt
        · refine J_dln C0 2 dX4_shareBits_32 (kk := ?_)
          refine J_ldd C0 cd291 dX4_shareBits_33 ?_
          refine J_dmul C0 dX4_shareBits_36 (vf_fin hy2) (kk := ?_)
          refine J_dsn C0 [(2, .double (FP.dmul y 4611686018427387904)), (6, .int (nI (i + 1))), (4, .long (Int64.ofNat (1023 - i))), (0, .double x)] dX4_shareBits_37 (kk := ?_)
          refine J_ll C0 2 dX4_shareBits_38 (kk := ?_)
          refine J_lc C0 dX4_shareBits_40 (v := 1) rfl ?_
          refine J_lsub C0 dX4_shareBits_41 ?_
          refine J_ls C0 [(4, .long ((Int64.ofNat (1023 - i)) - 1)), (2, .double (FP.dmul y 4611686018427387904)), (6, .int (nI (i + 1))), (0, .double x)] dX4_shareBits_42 (kk := ?_)
          refine J_iincN C0 2 [(6, .int (nI (i + 1 + 1))), (4, .long ((Int64.ofNat (1023 - i)) - 1)), (2, .double (FP.dmul y 4611686018427387904)), (0, .double x)] dX4_shareBits_44 (kk := ?_)
          refine J_goto C0 18 dX4_shareBits_47 (kk := ?_)
          refine J_lv [0, 1, 2, 3] rfl ?_
          rw [l_pred (by omega), show 1023 - i - 1 = 1023 - (i + 1) by omega]
          exact ih (i + 1) _ (by omega) hy2
  refine J_dln C0 0 dX4_shareBits_0 (kk := ?_)
  refine J_dc0 C0 dX4_shareBits_1 ?_
  refine J_dcmp C0 dX4_shareBits_2 (kk := ?_)
  refine J_ifgt C0 8 dX4_shareBits_3 (kt := fun c1 => ?_) (kf := fun c1 => ?_)
  · refine J_dln C0 0 dX4_shareBits_8 (kk := ?_)
    refine J_dsn C0 [(2, .double x), (0, .double x)] dX4_shareBits_9 (kk := ?_)
    refine J_ldl C0 cl289 dX4_shareBits_10 ?_
    refine J_ls C0 [(4, .long 1023), (2, .double x), (0, .double x)] dX4_shareBits_13 (kk := ?_)
    refine J_ic C0 1 dX4_shareBits_15 (kk := ?_)
    refine J_is C0 [(6, .int (nI 1)), (4, .long 1023), (2, .double x), (0, .double x)] dX4_shareBits_16 (kk := ?_)
    exact J_lv [0, 1, 2, 3] rfl (lp j 0 x (by omega) h)
  · exact absurd hgt c1

set_option maxHeartbeats 4000000 in
set_option maxRecDepth 100000 in
theorem mX4_shareBits_0 (l : Launch) (K : KT)  : Ct l K yX4_shareBits wsX4_shareBits rmX4_shareBits [.double 0] [] (some (.long 0)) [] := by
  refine CtP_of (cc := cX4_shareBits) (nL := 8) (rt := some .long) (own := RX4) (lv0 := [(0, .double 0)]) (by decide) rfl (Nat.le_of_ble_eq_true rfl) rfl rfl ?_
  intro G C0 hF _
  have hgt : ¬ 0 < Op.cmpValue (FP.dcmp 0 0) .g := by decide +kernel
  refine J_dln C0 0 dX4_shareBits_0 (kk := ?_)
  refine J_dc0 C0 dX4_shareBits_1 ?_
  refine J_dcmp C0 dX4_shareBits_2 (kk := ?_)
  refine J_ifgt C0 8 dX4_shareBits_3 (kt := fun c1 => ?_) (kf := fun c1 => ?_)
  · exact absurd c1 hgt
  · refine J_lc C0 dX4_shareBits_6 (v := 0) rfl ?_
    exact J_lret C0 hF dX4_shareBits_7 ⟨rfl, rfl⟩

