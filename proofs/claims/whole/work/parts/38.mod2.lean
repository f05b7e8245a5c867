/-! the reference's letters -/
def outR (F : FF) (k : Nat) : Nat → Int32
  | 0 => nI 0
  | h + 1 => outR F k h + outS F (3 * h + k)
theorem outR_K {B hn n : Nat} {F : FF} {N : Nat → Nat → Nat} (hv : InvN B F hn n N) {k : Nat} (hk : k < 3) : outR F k hn = outK F k := by
  have h4 := hv.1.2
  have z : ∀ h, hn ≤ h → h < 4 → outS F (3 * h + k) = 0 := fun h h1 h2 => by
    have a := hv.2.2.2.2.2.1 (3 * h + k) (by omega) (by omega)
    rw [out_nat hv (by omega), a.1, Nat.zero_sub]
    rfl
  have e : ∀ d, hn + d ≤ 4 → outR F k (hn + d) = outR F k hn := by
    intro d
    induction d with
    | zero => intro _; rfl
    | succ d ih =>
      intro hd
      show outR F k (hn + d) + outS F (3 * (hn + d) + k) = _
      rw [ih (by omega), z (hn + d) (by omega) (by omega), Int32.add_zero]
  have e4 := e (4 - hn) (by omega)
  rw [show hn + (4 - hn) = 4 by omega] at e4
  rw [← e4]
  show nI 0 + outS F (3 * 0 + k) + outS F (3 * 1 + k) + outS F (3 * 2 + k) + outS F (3 * 3 + k) = outK F k
  unfold outK outS
  rw [show 3 * 0 + k = k by omega, show 3 * 1 + k = k + 3 by omega, show 3 * 2 + k = k + 3 + 3 by omega, show 3 * 3 + k = k + 3 + 3 + 3 by omega]
abbrev rmX5_outIn : Room := { frames := 3, cells := 0, slots := 0, locals := 66 }
set_option maxHeartbeats 4000000 in
set_option maxRecDepth 100000 in
theorem mX5_outIn (l : Launch) (K : KT) (a : Nat → Nat) (F : FF) (g P L : Nat → Int32) (M : FF) {B hn n : Nat} {N : Nat → Nat → Nat} (hv : InvN B F hn n N) {k : Nat} (hk : k < 3) : Ct l K yX5_outIn wsX5_outIn rmX5_outIn [.ref (a 0), .int (nI k)] [modR K a (flat F) g P L M] (some (.int (outK F k))) [modR K a (flat F) g P L M] := by
  refine CtP_of (cc := cX5_outIn) (nL := 4) (rt := some .int) (own := RX5) (lv0 := [(0, .ref (a 0)), (1, .int (nI k))]) (by decide) rfl (Nat.le_of_ble_eq_true rfl) rfl rfl ?_
  intro G C0 hF _
  have eh := hv.1.1
  have h4 := hv.1.2
  have f7 : Cond.fieldLink RX5 7 "CorkPermitsModel" "s" "[I" ∈ wsX5_outIn := by decide +kernel
  have iX5 : ∀ w ∈ u_ws RX5 TX5 13, w ∈ wsX5_outIn := by decide +kernel
  have lp : ∀ (q h : Nat), h + q = hn → J G [modR K a (flat F) g P L M] [(3, .int (nI h)), (2, .int (outR F k h)), (1, .int (nI k)), (0, .ref (a 0))] 0 0 4 [] := by
    intro q
    induction q with
    | zero =>
      intro h hq
      refine J_iln C0 0 dX5_outIn_4 (kk := ?_)
      refine J_aln C0 3 dX5_outIn_5 (kk := ?_)
      refine J_get C0 iX5 0 0 0 f7 dX5_outIn_6 (kk := ?_)
      refine J_ic C0 1 dX5_outIn_9 (kk := ?_)
      refine J_iald C0 0 1 283 dX5_outIn_10 (by omega) (v := (nI hn)) (hv := (flat_0 F (j := 1) (by decide)).trans eh) (kk := ?_)
      refine J_icmpgeN C0 29 (by omega) (by omega) dX5_outIn_11 (kt := fun c1 => ?_) (kf := fun c1 => ?_)
      · refine J_iln C0 1 dX5_outIn_29 (kk := ?_)
        exact J_iret C0 hF dX5_outIn_30 ⟨by rw [← outR_K hv hk, show hn = h by omega], rfl⟩
      · exfalso; omega
    | succ q ih =>
      intro h hq
      refine J_iln C0 0 dX5_outIn_4 (kk := ?_)
      refine J_aln C0 3 dX5_outIn_5 (kk := ?_)
      refine J_get C0 iX5 0 0 0 f7 dX5_outIn_6 (kk := ?_)
      refine J_ic C0 1 dX5_outIn_9 (kk := ?_)
      refine J_iald C0 0 1 283 dX5_outIn_10 (by omega) (v := (nI hn)) (hv := (flat_0 F (j := 1) (by decide)).trans eh) (kk := ?_)
      refine J_icmpgeN C0 29 (by omega) (by omega) dX5_outIn_11 (kt := fun c1 => ?_) (kf := fun c1 => ?_)
      · exfalso; omega
      · refine J_iln C0 1 dX5_outIn_14 (kk := ?_)
        refine J_aln C0 3 dX5_outIn_15 (kk := ?_)
        refine J_iln C0 0 dX5_outIn_16 (kk := ?_)
        refine J_iln C0 2 dX5_outIn_17 (kk := ?_)
        refine J_callVd C0 (mX5_outOf l K a F g P L M (h := h) (k := k) (by omega) (by omega)) [] [modR K a (flat F) g P L M] gX5_outIn_X5_outOf dX5_outIn_18 2 0 (kk := ?_)
        show J G _ _ _ _ _ [.int (outS F (3 * h + k)), .int (outR F k h)]
        refine J_iadd C0 dX5_outIn_21 ?_
        refine J_isn C0 [(2, .int ((outR F k h) + (outS F (3 * h + k)))), (3, .int (nI h)), (1, .int (nI k)), (0, .ref (a 0))] dX5_outIn_22 (kk := ?_)
        refine J_iincN C0 1 [(3, .int (nI (h + 1))), (2, .int ((outR F k h) + (outS F (3 * h + k)))), (1, .int (nI k)), (0, .ref (a 0))] dX5_outIn_23 (kk := ?_)
        refine J_goto C0 4 dX5_outIn_26 (kk := ?_)
        exact J_lv [0, 1, 2, 3] rfl (ih (h + 1) (by omega))
  refine J_ic C0 0 dX5_outIn_0 (kk := ?_)
  refine J_isn C0 [(2, .int (nI 0)), (0, .ref (a 0)), (1, .int (nI k))] dX5_outIn_1 (kk := ?_)
  refine J_ic C0 0 dX5_outIn_2 (kk := ?_)
  refine J_isn C0 [(3, .int (nI 0)), (2, .int (nI 0)), (0, .ref (a 0)), (1, .int (nI k))] dX5_outIn_3 (kk := ?_)
  exact J_lv [0, 1, 3, 2] rfl (lp hn 0 (by omega))

abbrev rmX5_free : Room := { frames := 4, cells := 0, slots := 0, locals := 89 }
set_option maxHeartbeats 4000000 in
set_option maxRecDepth 100000 in
theorem mX5_free (l : Launch) (K : KT) (a : Nat → Nat) (F : FF) (g P L : Nat → Int32) (M : FF) {B hn n : Nat} {N : Nat → Nat → Nat} (hv : InvN B F hn n N) {k : Nat} (hk : k < 3) : Ct l K yX5_free wsX5_free rmX5_free [.ref (a 0), .int (nI k)] [modR K a (flat F) g P L M] (some (.int (freeS F k))) [modR K a (flat F) g P L M] := by
  refine CtP_of (cc := cX5_free) (nL := 2) (rt := some .int) (own := RX5) (lv0 := [(0, .ref (a 0)), (1, .int (nI k))]) (by decide) rfl (Nat.le_of_ble_eq_true rfl) rfl rfl ?_
  intro G C0 hF _
  refine J_aln C0 0 dX5_free_0 (kk := ?_)
  refine J_iln C0 1 dX5_free_1 (kk := ?_)
  refine J_ic C0 0 dX5_free_2 (kk := ?_)
  refine J_callVd C0 (mX5_ofKind l K a F g P L M (k := k) (w := 0) (by omega) (by omega)) [] [modR K a (flat F) g P L M] gX5_free_X5_ofKind dX5_free_3 2 0 (kk := ?_)
  show J G _ _ _ _ _ [.int (F 2 k)]
  refine J_aln C0 0 dX5_free_6 (kk := ?_)
  refine J_iln C0 1 dX5_free_7 (kk := ?_)
  refine J_ic C0 1 dX5_free_8 (kk := ?_)
  refine J_callVd C0 (mX5_ofKind l K a F g P L M (k := k) (w := 1) (by omega) (by omega)) [] [modR K a (flat F) g P L M] gX5_free_X5_ofKind dX5_free_9 2 0 (kk := ?_)
  show J G _ _ _ _ _ [.int (F 3 k), .int (F 2 k)]
  refine J_isub C0 dX5_free_12 ?_
  refine J_aln C0 0 dX5_free_13 (kk := ?_)
  refine J_iln C0 1 dX5_free_14 (kk := ?_)
  refine J_callVd C0 (mX5_outIn l K a F g P L M hv (k := k) (by omega)) [] [modR K a (flat F) g P L M] gX5_free_X5_outIn dX5_free_15 1 0 (kk := ?_)
  show J G _ _ _ _ _ [.int (outK F k), .int ((F 2 k) - (F 3 k))]
  refine J_isub C0 dX5_free_18 ?_
  exact J_iret C0 hF dX5_free_19 ⟨rfl, rfl⟩

abbrev rmX5_canLend : Room := { frames := 5, cells := 0, slots := 0, locals := 110 }
set_option maxHeartbeats 4000000 in
set_option maxRecDepth 100000 in
theorem mX5_canLend (l : Launch) (K : KT) (a : Nat → Nat) (F : FF) (g P L : Nat → Int32) (M : FF) {B hn n : Nat} {N : Nat → Nat → Nat} (hv : InvN B F hn n N) {k : Nat} (hk : k < 3) : Ct l K yX5_canLend wsX5_canLend rmX5_canLend [.ref (a 0), .int (nI k)] [modR K a (flat F) g P L M] (some (.int (if canLendS F k then nI 1 else nI 0))) [modR K a (flat F) g P L M] := by
  refine CtP_of (cc := cX5_canLend) (nL := 2) (rt := some .boolean) (own := RX5) (lv0 := [(0, .ref (a 0)), (1, .int (nI k))]) (by decide) rfl (Nat.le_of_ble_eq_true rfl) rfl rfl ?_
  intro G C0 hF _
  refine J_aln C0 0 dX5_canLend_0 (kk := ?_)
  refine J_iln C0 1 dX5_canLend_1 (kk := ?_)
  refine J_callVd C0 (mX5_free l K a F g P L M hv (k := k) (by omega)) [] [modR K a (flat F) g P L M] gX5_canLend_X5_free dX5_canLend_2 1 0 (kk := ?_)
  show J G _ _ _ _ _ [.int (freeS F k)]
  refine J_ifle C0 19 dX5_canLend_5 (kt := fun c1 => ?_) (kf := fun c1 => ?_)
  · refine J_ic C0 0 dX5_canLend_19 (kk := ?_)
    exact J_zret C0 hF dX5_canLend_20 (by decide) ⟨by simp only [roomS, canLendS, c1, not_false_eq_true, not_true_eq_false, and_true, true_and, and_false, false_and, and_self, or_true, true_or, or_false, false_or, if_true, if_false, ite_true, ite_false], rfl⟩
  · refine J_aln C0 0 dX5_canLend_8 (kk := ?_)
    refine J_callVd C0 (mX5_hasRoom l K a F g P L M) [] [modR K a (flat F) g P L M] gX5_canLend_X5_hasRoom dX5_canLend_9 0 0 (kk := ?_)
    show J G _ _ _ _ _ [.int (if roomS F then nI 1 else nI 0)]
    refine J_ifeqB C0 19 dX5_canLend_12 (kt := fun c2 => ?_) (kf := fun c2 => ?_)
    · refine J_ic C0 0 dX5_canLend_19 (kk := ?_)
      exact J_zret C0 hF dX5_canLend_20 (by decide) ⟨by simp only [roomS, canLendS, c1, c2, not_false_eq_true, not_true_eq_false, and_true, true_and, and_false, false_and, and_self, or_true, true_or, or_false, false_or, if_true, if_false, ite_true, ite_false], rfl⟩
    · refine J_ic C0 1 dX5_canLend_15 (kk := ?_)
      refine J_goto C0 20 dX5_canLend_16 (kk := ?_)
      exact J_zret C0 hF dX5_canLend_20 (by decide) ⟨by simp only [roomS, canLendS, c1, c2, not_false_eq_true, not_true_eq_false, and_true, true_and, and_false, false_and, and_self, or_true, true_or, or_false, false_or, if_true, if_false, ite_true, ite_false], rfl⟩

abbrev rmX5_sends : Room := { frames := 0, cells := 0, slots := 0, locals := 0 }
set_option maxHeartbeats 4000000 in
set_option maxRecDepth 100000 in
theorem mX5_sends (l : Launch) (K : KT) (a : Nat → Nat) (F : FF) (g P L : Nat → Int32) (M : FF) {n : Nat} (hn : F 0 4 = nI n) (h40 : n < 40) {h k : Nat} (hh : h < 4) (hk : k < 3) (so nu : Int32) : Ct l K yX5_sends wsX5_sends rmX5_sends [.ref (a 0), .int so, .int (nI h), .int (nI k), .int nu] [modR K a (flat F) g P L M] none [modR K a (flat (sendS F n so (nI (3 * h + k)) nu)) g P L M] := by
  refine CtP_of (cc := cX5_sends) (nL := 6) (rt := none) (own := RX5) (lv0 := [(0, .ref (a 0)), (1, .int so), (2, .int (nI h)), (3, .int (nI k)), (4, .int nu)]) (by decide) rfl (Nat.le_of_ble_eq_true rfl) rfl rfl ?_
  intro G C0 hF _
  have f7 : Cond.fieldLink RX5 7 "CorkPermitsModel" "s" "[I" ∈ wsX5_sends := by decide +kernel
  have iX5 : ∀ w ∈ u_ws RX5 TX5 13, w ∈ wsX5_sends := by decide +kernel
  refine J_aln C0 0 dX5_sends_0 (kk := ?_)
  refine J_get C0 iX5 0 0 0 f7 dX5_sends_1 (kk := ?_)
  refine J_ic C0 2 dX5_sends_4 (kk := ?_)
  refine J_dup2 C0 dX5_sends_5 (kk := ?_)
  refine J_iald C0 0 1 283 dX5_sends_6 (by omega) (v := (F 0 2)) (hv := (flat_0 F (j := 2) (by decide)).trans rfl) (kk := ?_)
  refine J_ic C0 1 dX5_sends_7 (kk := ?_)
  refine J_iadd C0 dX5_sends_8 ?_
  refine J_iast C0 0 1 283 [modR K a (flat (u2 F 0 2 ((F 0 2) + (nI 1)))) g P L M] dX5_sends_9 (by omega) (hb2 := by exact congrArg (fun f => [modR K a f g P L M]) (flat_u0 F (j := 2) (by decide) ((F 0 2) + (nI 1)))) (kk := ?_)
  refine J_aln C0 0 dX5_sends_10 (kk := ?_)
  refine J_get C0 iX5 0 0 0 f7 dX5_sends_11 (kk := ?_)
  refine J_bi C0 6 dX5_sends_14 (kk := ?_)
  refine J_iald C0 0 1 283 dX5_sends_16 (by omega) (v := (F 1 1)) (hv := (flat_1 (u2 F 0 2 ((F 0 2) + (nI 1))) (j := 6) (c := 1) (by omega) (by omega)).trans rfl) (kk := ?_)
  refine J_ifle C0 48 dX5_sends_17 (kt := fun c1 => ?_) (kf := fun c1 => ?_)
  · refine J_bi C0 83 dX5_sends_48 (kk := ?_)
    refine J_ic C0 5 dX5_sends_50 (kk := ?_)
    refine J_aln C0 0 dX5_sends_51 (kk := ?_)
    refine J_get C0 iX5 0 0 0 f7 dX5_sends_52 (kk := ?_)
    refine J_ic C0 4 dX5_sends_55 (kk := ?_)
    refine J_iald C0 0 1 283 dX5_sends_56 (by omega) (v := (nI n)) (hv := (flat_0 (u2 F 0 2 ((F 0 2) + (nI 1))) (j := 4) (by decide)).trans hn) (kk := ?_)
    refine J_imulN C0 dX5_sends_57 ?_
    refine J_iaddN C0 dX5_sends_58 ?_
    refine J_is C0 [(5, .int (nI (83 + (5 * n)))), (0, .ref (a 0)), (1, .int so), (2, .int (nI h)), (3, .int (nI k)), (4, .int nu)] dX5_sends_59 (kk := ?_)
    refine J_aln C0 1 dX5_sends_61 (kk := ?_)
    refine J_get C0 iX5 0 0 0 f7 dX5_sends_62 (kk := ?_)
    refine J_il C0 0 dX5_sends_65 (kk := ?_)
    refine J_ic C0 0 dX5_sends_67 (kk := ?_)
    refine J_iaddN C0 dX5_sends_68 ?_
    refine J_iln C0 2 dX5_sends_69 (kk := ?_)
    refine J_iast C0 0 1 283 [modR K a (upd (flat (u2 F 0 2 ((F 0 2) + (nI 1)))) (83 + (5 * n) + 0) so) g P L M] dX5_sends_70 (by omega) (kk := ?_)
    refine J_aln C0 1 dX5_sends_71 (kk := ?_)
    refine J_get C0 iX5 0 0 0 f7 dX5_sends_72 (kk := ?_)
    refine J_il C0 0 dX5_sends_75 (kk := ?_)
    refine J_ic C0 1 dX5_sends_77 (kk := ?_)
    refine J_iaddN C0 dX5_sends_78 ?_
    refine J_iln C0 3 dX5_sends_79 (kk := ?_)
    refine J_iast C0 0 1 283 [modR K a (upd (upd (flat (u2 F 0 2 ((F 0 2) + (nI 1)))) (83 + (5 * n) + 0) so) (83 + (5 * n) + 1) (nI h)) g P L M] dX5_sends_80 (by omega) (kk := ?_)
    refine J_aln C0 1 dX5_sends_81 (kk := ?_)
    refine J_get C0 iX5 0 0 0 f7 dX5_sends_82 (kk := ?_)
    refine J_il C0 0 dX5_sends_85 (kk := ?_)
    refine J_ic C0 2 dX5_sends_87 (kk := ?_)
    refine J_iaddN C0 dX5_sends_88 ?_
    refine J_iln C0 4 dX5_sends_89 (kk := ?_)
    refine J_iast C0 0 1 283 [modR K a (upd (upd (upd (flat (u2 F 0 2 ((F 0 2) + (nI 1)))) (83 + (5 * n) + 0) so) (83 + (5 * n) + 1) (nI h)) (83 + (5 * n) + 2) (nI k)) g P L M] dX5_sends_90 (by omega) (kk := ?_)
    refine J_aln C0 1 dX5_sends_91 (kk := ?_)
    refine J_get C0 iX5 0 0 0 f7 dX5_sends_92 (kk := ?_)
    refine J_il C0 0 dX5_sends_95 (kk := ?_)
    refine J_ic C0 3 dX5_sends_97 (kk := ?_)
    refine J_iaddN C0 dX5_sends_98 ?_
    refine J_il C0 5 dX5_sends_99 (kk := ?_)
    refine J_iast C0 0 1 283 [modR K a (upd (upd (upd (upd (flat (u2 F 0 2 ((F 0 2) + (nI 1)))) (83 + (5 * n) + 0) so) (83 + (5 * n) + 1) (nI h)) (83 + (5 * n) + 2) (nI k)) (83 + (5 * n) + 3) nu) g P L M] dX5_sends_101 (by omega) (kk := ?_)
    refine J_aln C0 1 dX5_sends_102 (kk := ?_)
    refine J_get C0 iX5 0 0 0 f7 dX5_sends_103 (kk := ?_)
    refine J_il C0 0 dX5_sends_106 (kk := ?_)
    refine J_ic C0 4 dX5_sends_108 (kk := ?_)
    refine J_iaddN C0 dX5_sends_109 ?_
    refine J_aln C0 1 dX5_sends_110 (kk := ?_)
    refine J_get C0 iX5 0 0 0 f7 dX5_sends_111 (kk := ?_)
    refine J_ic C0 0 dX5_sends_114 (kk := ?_)
    refine J_iald C0 0 1 283 dX5_sends_115 (by omega) (v := (F 0 0)) (hv := (upd_n (by omega)).trans ((upd_n (by omega)).trans ((upd_n (by omega)).trans ((upd_n (by omega)).trans ((flat_0 (u2 F 0 2 ((F 0 2) + (nI 1))) (j := 0) (by decide)).trans rfl))))) (kk := ?_)
    refine J_aln C0 1 dX5_sends_116 (kk := ?_)
    refine J_get C0 iX5 0 0 0 f7 dX5_sends_117 (kk := ?_)
    refine J_ic C0 5 dX5_sends_120 (kk := ?_)
    refine J_iald C0 0 1 283 dX5_sends_121 (by omega) (v := (F 1 0)) (hv := (upd_n (by omega)).trans ((upd_n (by omega)).trans ((upd_n (by omega)).trans ((upd_n (by omega)).trans ((flat_1 (u2 F 0 2 ((F 0 2) + (nI 1))) (j := 5) (c := 0) (by omega) (by omega)).trans rfl))))) (kk := ?_)
    refine J_iadd C0 dX5_sends_122 ?_
    refine J_iast C0 0 1 283 [modR K a (flat (u2 (u2 (u2 (u2 (u2 F 0 2 ((F 0 2) + (nI 1))) 12 n so) 13 n (nI (3 * h + k))) 14 n nu) 15 n ((F 0 0) + (F 1 0)))) g P L M] dX5_sends_123 (by omega) (hb2 := by exact congrArg (fun f => [modR K a f g P L M]) (flat_ul (u2 F 0 2 ((F 0 2) + (nI 1))) (q := n) (h := h) (k := k) (by omega) (by omega) (by omega) so nu ((F 0 0) + (F 1 0)))) (kk := ?_)
    refine J_aln C0 1 dX5_sends_124 (kk := ?_)
    refine J_get C0 iX5 0 0 0 f7 dX5_sends_125 (kk := ?_)
    refine J_ic C0 4 dX5_sends_128 (kk := ?_)
    refine J_dup2 C0 dX5_sends_129 (kk := ?_)
    refine J_iald C0 0 1 283 dX5_sends_130 (by omega) (v := (nI n)) (hv := (flat_0 (u2 (u2 (u2 (u2 (u2 F 0 2 ((F 0 2) + (nI 1))) 12 n so) 13 n (nI (3 * h + k))) 14 n nu) 15 n ((F 0 0) + (F 1 0))) (j := 4) (by decide)).trans hn) (kk := ?_)
    refine J_ic C0 1 dX5_sends_131 (kk := ?_)
    refine J_iaddN C0 dX5_sends_132 ?_
    refine J_iast C0 0 1 283 [modR K a (flat (u2 (u2 (u2 (u2 (u2 (u2 F 0 2 ((F 0 2) + (nI 1))) 12 n so) 13 n (nI (3 * h + k))) 14 n nu) 15 n ((F 0 0) + (F 1 0))) 0 4 (nI (n + 1)))) g P L M] dX5_sends_133 (by omega) (hb2 := by exact congrArg (fun f => [modR K a f g P L M]) (flat_u0 (u2 (u2 (u2 (u2 (u2 F 0 2 ((F 0 2) + (nI 1))) 12 n so) 13 n (nI (3 * h + k))) 14 n nu) 15 n ((F 0 0) + (F 1 0))) (j := 4) (by decide) (nI (n + 1)))) (kk := ?_)
    exact J_vret C0 hF dX5_sends_134 ⟨rfl, by simp only [sendS, sendG, c1, not_false_eq_true, not_true_eq_false, and_true, true_and, and_false, false_and, and_self, or_true, true_or, or_false, false_or, if_true, if_false, ite_true, ite_false, eq_self]⟩
  · refine J_aln C0 0 dX5_sends_20 (kk := ?_)
    refine J_get C0 iX5 0 0 0 f7 dX5_sends_21 (kk := ?_)
    refine J_ic C0 2 dX5_sends_24 (kk := ?_)
    refine J_iald C0 0 1 283 dX5_sends_25 (by omega) (v := ((F 0 2) + (nI 1))) (hv := (flat_0 (u2 F 0 2 ((F 0 2) + (nI 1))) (j := 2) (by decide)).trans rfl) (kk := ?_)
    refine J_aln C0 0 dX5_sends_26 (kk := ?_)
    refine J_get C0 iX5 0 0 0 f7 dX5_sends_27 (kk := ?_)
    refine J_bi C0 6 dX5_sends_30 (kk := ?_)
    refine J_iald C0 0 1 283 dX5_sends_32 (by omega) (v := (F 1 1)) (hv := (flat_1 (u2 F 0 2 ((F 0 2) + (nI 1))) (j := 6) (c := 1) (by omega) (by omega)).trans rfl) (kk := ?_)
    refine J_irem C0 dX5_sends_33 (by exact nz_nle (by assumption)) ?_
    refine J_ifne C0 48 dX5_sends_34 (kt := fun c2 => ?_) (kf := fun c2 => ?_)
    · refine J_bi C0 83 dX5_sends_48 (kk := ?_)
      refine J_ic C0 5 dX5_sends_50 (kk := ?_)
      refine J_aln C0 0 dX5_sends_51 (kk := ?_)
      refine J_get C0 iX5 0 0 0 f7 dX5_sends_52 (kk := ?_)
      refine J_ic C0 4 dX5_sends_55 (kk := ?_)
      refine J_iald C0 0 1 283 dX5_sends_56 (by omega) (v := (nI n)) (hv := (flat_0 (u2 F 0 2 ((F 0 2) + (nI 1))) (j := 4) (by decide)).trans hn) (kk := ?_)
      refine J_imulN C0 dX5_sends_57 ?_
      refine J_iaddN C0 dX5_sends_58 ?_
      refine J_is C0 [(5, .int (nI (83 + (5 * n)))), (0, .ref (a 0)), (1, .int so), (2, .int (nI h)), (3, .int (nI k)), (4, .int nu)] dX5_sends_59 (kk := ?_)
      refine J_aln C0 1 dX5_sends_61 (kk := ?_)
      refine J_get C0 iX5 0 0 0 f7 dX5_sends_62 (kk := ?_)
      refine J_il C0 0 dX5_sends_65 (kk := ?_)
      refine J_ic C0 0 dX5_sends_67 (kk := ?_)
      refine J_iaddN C0 dX5_sends_68 ?_
      refine J_iln C0 2 dX5_sends_69 (kk := ?_)
      refine J_iast C0 0 1 283 [modR K a (upd (flat (u2 F 0 2 ((F 0 2) + (nI 1)))) (83 + (5 * n) + 0) so) g P L M] dX5_sends_70 (by omega) (kk := ?_)
      refine J_aln C0 1 dX5_sends_71 (kk := ?_)
      refine J_get C0 iX5 0 0 0 f7 dX5_sends_72 (kk := ?_)
      refine J_il C0 0 dX5_sends_75 (kk := ?_)
      refine J_ic C0 1 dX5_sends_77 (kk := ?_)
      refine J_iaddN C0 dX5_sends_78 ?_
      refine J_iln C0 3 dX5_sends_79 (kk := ?_)
      refine J_iast C0 0 1 283 [modR K a (upd (upd (flat (u2 F 0 2 ((F 0 2) + (nI 1)))) (83 + (5 * n) + 0) so) (83 + (5 * n) + 1) (nI h)) g P L M] dX5_sends_80 (by omega) (kk := ?_)
      refine J_aln C0 1 dX5_sends_81 (kk := ?_)
      refine J_get C0 iX5 0 0 0 f7 dX5_sends_82 (kk := ?_)
      refine J_il C0 0 dX5_sends_85 (kk := ?_)
      refine J_ic C0 2 dX5_sends_87 (kk := ?_)
      refine J_iaddN C0 dX5_sends_88 ?_
      refine J_iln C0 4 dX5_sends_89 (kk := ?_)
      refine J_iast C0 0 1 283 [modR K a (upd (upd (upd (flat (u2 F 0 2 ((F 0 2) + (nI 1)))) (83 + (5 * n) + 0) so) (83 + (5 * n) + 1) (nI h)) (83 + (5 * n) + 2) (nI k)) g P L M] dX5_sends_90 (by omega) (kk := ?_)
      refine J_aln C0 1 dX5_sends_91 (kk := ?_)
      refine J_get C0 iX5 0 0 0 f7 dX5_sends_92 (kk := ?_)
      refine J_il C0 0 dX5_sends_95 (kk := ?_)
      refine J_ic C0 3 dX5_sends_97 (kk := ?_)
      refine J_iaddN C0 dX5_sends_98 ?_
      refine J_il C0 5 dX5_sends_99 (kk := ?_)
      refine J_iast C0 0 1 283 [modR K a (upd (upd (upd (upd (flat (u2 F 0 2 ((F 0 2) + (nI 1)))) (83 + (5 * n) + 0) so) (83 + (5 * n) + 1) (nI h)) (83 + (5 * n) + 2) (nI k)) (83 + (5 * n) + 3) nu) g P L M] dX5_sends_101 (by omega) (kk := ?_)
      refine J_aln C0 1 dX5_sends_102 (kk := ?_)
      refine J_get C0 iX5 0 0 0 f7 dX5_sends_103 (kk := ?_)
      refine J_il C0 0 dX5_sends_106 (kk := ?_)
      refine J_ic C0 4 dX5_sends_108 (kk := ?_)
      refine J_iaddN C0 dX5_sends_109 ?_
      refine J_aln C0 1 dX5_sends_110 (kk := ?_)
      refine J_get C0 iX5 0 0 0 f7 dX5_sends_111 (kk := ?_)
      refine J_ic C0 0 dX5_sends_114 (kk := ?_)
      refine J_iald C0 0 1 283 dX5_sends_115 (by omega) (v := (F 0 0)) (hv := (upd_n (by omega)).trans ((upd_n (by omega)).trans ((upd_n (by omega)).trans ((upd_n (by omega)).trans ((flat_0 (u2 F 0 2 ((F 0 2) + (nI 1))) (j := 0) (by decide)).trans rfl))))) (kk := ?_)
      refine J_aln C0 1 dX5_sends_116 (kk := ?_)
      refine J_get C0 iX5 0 0 0 f7 dX5_sends_117 (kk := ?_)
      refine J_ic C0 5 dX5_sends_120 (kk := ?_)
      refine J_iald C0 0 1 283 dX5_sends_121 (by omega) (v := (F 1 0)) (hv := (upd_n (by omega)).trans ((upd_n (by omega)).trans ((upd_n (by omega)).trans ((upd_n (by omega)).trans ((flat_1 (u2 F 0 2 ((F 0 2) + (nI 1))) (j := 5) (c := 0) (by omega) (by omega)).trans rfl))))) (kk := ?_)
      refine J_iadd C0 dX5_sends_122 ?_
      refine J_iast C0 0 1 283 [modR K a (flat (u2 (u2 (u2 (u2 (u2 F 0 2 ((F 0 2) + (nI 1))) 12 n so) 13 n (nI (3 * h + k))) 14 n nu) 15 n ((F 0 0) + (F 1 0)))) g P L M] dX5_sends_123 (by omega) (hb2 := by exact congrArg (fun f => [modR K a f g P L M]) (flat_ul (u2 F 0 2 ((F 0 2) + (nI 1))) (q := n) (h := h) (k := k) (by omega) (by omega) (by omega) so nu ((F 0 0) + (F 1 0)))) (kk := ?_)
      refine J_aln C0 1 dX5_sends_124 (kk := ?_)
      refine J_get C0 iX5 0 0 0 f7 dX5_sends_125 (kk := ?_)
      refine J_ic C0 4 dX5_sends_128 (kk := ?_)
      refine J_dup2 C0 dX5_sends_129 (kk := ?_)
      refine J_iald C0 0 1 283 dX5_sends_130 (by omega) (v := (nI n)) (hv := (flat_0 (u2 (u2 (u2 (u2 (u2 F 0 2 ((F 0 2) + (nI 1))) 12 n so) 13 n (nI (3 * h + k))) 14 n nu) 15 n ((F 0 0) + (F 1 0))) (j := 4) (by decide)).trans hn) (kk := ?_)
      refine J_ic C0 1 dX5_sends_131 (kk := ?_)
      refine J_iaddN C0 dX5_sends_132 ?_
      refine J_iast C0 0 1 283 [modR K a (flat (u2 (u2 (u2 (u2 (u2 (u2 F 0 2 ((F 0 2) + (nI 1))) 12 n so) 13 n (nI (3 * h + k))) 14 n nu) 15 n ((F 0 0) + (F 1 0))) 0 4 (nI (n + 1)))) g P L M] dX5_sends_133 (by omega) (hb2 := by exact congrArg (fun f => [modR K a f g P L M]) (flat_u0 (u2 (u2 (u2 (u2 (u2 F 0 2 ((F 0 2) + (nI 1))) 12 n so) 13 n (nI (3 * h + k))) 14 n nu) 15 n ((F 0 0) + (F 1 0))) (j := 4) (by decide) (nI (n + 1)))) (kk := ?_)
      exact J_vret C0 hF dX5_sends_134 ⟨rfl, by simp only [sendS, sendG, c1, c2, not_false_eq_true, not_true_eq_false, and_true, true_and, and_false, false_and, and_self, or_true, true_or, or_false, false_or, if_true, if_false, ite_true, ite_false, eq_self]⟩
    · refine J_aln C0 0 dX5_sends_37 (kk := ?_)
      refine J_get C0 iX5 0 0 0 f7 dX5_sends_38 (kk := ?_)
      refine J_ic C0 3 dX5_sends_41 (kk := ?_)
      refine J_dup2 C0 dX5_sends_42 (kk := ?_)
      refine J_iald C0 0 1 283 dX5_sends_43 (by omega) (v := (F 0 3)) (hv := (flat_0 (u2 F 0 2 ((F 0 2) + (nI 1))) (j := 3) (by decide)).trans rfl) (kk := ?_)
      refine J_ic C0 1 dX5_sends_44 (kk := ?_)
      refine J_iadd C0 dX5_sends_45 ?_
      refine J_iast C0 0 1 283 [modR K a (flat (u2 (u2 F 0 2 ((F 0 2) + (nI 1))) 0 3 ((F 0 3) + (nI 1)))) g P L M] dX5_sends_46 (by omega) (hb2 := by exact congrArg (fun f => [modR K a f g P L M]) (flat_u0 (u2 F 0 2 ((F 0 2) + (nI 1))) (j := 3) (by decide) ((F 0 3) + (nI 1)))) (kk := ?_)
      exact J_vret C0 hF dX5_sends_47 ⟨rfl, by simp only [sendS, sendG, c1, c2, not_false_eq_true, not_true_eq_false, and_true, true_and, and_false, false_and, and_self, or_true, true_or, or_false, false_or, if_true, if_false, ite_true, ite_false, eq_self]⟩

abbrev rmX5_lendsOne : Room := { frames := 2, cells := 0, slots := 0, locals := 44 }
set_option maxHeartbeats 4000000 in
set_option maxRecDepth 100000 in
theorem mX5_lendsOne (l : Launch) (K : KT) (a : Nat → Nat) (F : FF) (g P L : Nat → Int32) (M : FF) {n : Nat} (hn : F 0 4 = nI n) (h40 : n < 40) {h k : Nat} (hh : h < 4) (hk : k < 3) : Ct l K yX5_lendsOne wsX5_lendsOne rmX5_lendsOne [.ref (a 0), .int (nI h), .int (nI k)] [modR K a (flat F) g P L M] none [modR K a (flat (lendS F n (3 * h + k))) g P L M] := by
  refine CtP_of (cc := cX5_lendsOne) (nL := 3) (rt := none) (own := RX5) (lv0 := [(0, .ref (a 0)), (1, .int (nI h)), (2, .int (nI k))]) (by decide) rfl (Nat.le_of_ble_eq_true rfl) rfl rfl ?_
  intro G C0 hF _
  have f7 : Cond.fieldLink RX5 7 "CorkPermitsModel" "s" "[I" ∈ wsX5_lendsOne := by decide +kernel
  have iX5 : ∀ w ∈ u_ws RX5 TX5 13, w ∈ wsX5_lendsOne := by decide +kernel
  refine J_aln C0 0 dX5_lendsOne_0 (kk := ?_)
  refine J_get C0 iX5 0 0 0 f7 dX5_lendsOne_1 (kk := ?_)
  refine J_iln C0 1 dX5_lendsOne_4 (kk := ?_)
  refine J_iln C0 2 dX5_lendsOne_5 (kk := ?_)
  refine J_callSd C0 (mX5_at l K (h := h) (k := k)) [modR K a (flat F) g P L M] [modR K a (flat F) g P L M] gX5_lendsOne_X5_at dX5_lendsOne_6 2 (kk := ?_)
  show J G _ _ _ _ _ [.int (nI (23 + 5 * (3 * h + k))), .ref (a 1)]
  refine J_ic C0 0 dX5_lendsOne_9 (kk := ?_)
  refine J_iaddN C0 dX5_lendsOne_10 ?_
  refine J_dup2 C0 dX5_lendsOne_11 (kk := ?_)
  refine J_iald C0 0 1 283 dX5_lendsOne_12 (by omega) (v := (F 7 (3 * h + k))) (hv := (flat_p F (j := 23 + 5 * (3 * h + k) + 0) (p := 3 * h + k) (c := 0) (by omega) (by omega) (by omega)).trans rfl) (kk := ?_)
  refine J_ic C0 1 dX5_lendsOne_13 (kk := ?_)
  refine J_iadd C0 dX5_lendsOne_14 ?_
  refine J_iast C0 0 1 283 [modR K a (flat (u2 F 7 (3 * h + k) ((F 7 (3 * h + k)) + (nI 1)))) g P L M] dX5_lendsOne_15 (by omega) (hb2 := by exact congrArg (fun f => [modR K a f g P L M]) (flat_up F (j := 23 + 5 * (3 * h + k) + 0) (q := 3 * h + k) (d := 0) (by omega) (by omega) (by omega) ((F 7 (3 * h + k)) + (nI 1)))) (kk := ?_)
  refine J_aln C0 0 dX5_lendsOne_16 (kk := ?_)
  refine J_ic C0 0 dX5_lendsOne_17 (kk := ?_)
  refine J_iln C0 1 dX5_lendsOne_18 (kk := ?_)
  refine J_iln C0 2 dX5_lendsOne_19 (kk := ?_)
  refine J_aln C0 0 dX5_lendsOne_20 (kk := ?_)
  refine J_iln C0 1 dX5_lendsOne_21 (kk := ?_)
  refine J_iln C0 2 dX5_lendsOne_22 (kk := ?_)
  refine J_ic C0 0 dX5_lendsOne_23 (kk := ?_)
  refine J_callVd C0 (mX5_of l K a (u2 F 7 (3 * h + k) ((F 7 (3 * h + k)) + (nI 1))) g P L M (h := h) (k := k) (w := 0) (by omega) (by omega) (by omega)) [] [modR K a (flat (u2 F 7 (3 * h + k) ((F 7 (3 * h + k)) + (nI 1)))) g P L M] gX5_lendsOne_X5_of dX5_lendsOne_24 3 0 (kk := ?_)
  show J G _ _ _ _ _ [.int ((u2 F 7 (3 * h + k) ((F 7 (3 * h + k)) + (nI 1))) 7 (3 * h + k)), .int (nI k), .int (nI h), .int (nI 0), .ref (a 0)]
  rw [u2_s]
  refine J_callVd C0 (mX5_sends l K a (u2 F 7 (3 * h + k) ((F 7 (3 * h + k)) + (nI 1))) g P L M (n := n) hn h40 (h := h) (k := k) (by omega) (by omega) (nI 0) ((F 7 (3 * h + k)) + (nI 1))) [] [modR K a (flat (sendS (u2 F 7 (3 * h + k) ((F 7 (3 * h + k)) + (nI 1))) n (nI 0) (nI (3 * h + k)) ((F 7 (3 * h + k)) + (nI 1)))) g P L M] gX5_lendsOne_X5_sends dX5_lendsOne_27 4 0 (kk := ?_)
  show J G _ _ _ _ _ []
  exact J_vret C0 hF dX5_lendsOne_30 ⟨rfl, rfl⟩

abbrev rmX5_asks : Room := { frames := 2, cells := 0, slots := 0, locals := 44 }
set_option maxHeartbeats 4000000 in
set_option maxRecDepth 100000 in
theorem mX5_asks (l : Launch) (K : KT) (a : Nat → Nat) (F : FF) (g P L : Nat → Int32) (M : FF) {n : Nat} (hn : F 0 4 = nI n) (h40 : n < 40) {h k : Nat} (hh : h < 4) (hk : k < 3) : Ct l K yX5_asks wsX5_asks rmX5_asks [.ref (a 0), .int (nI h), .int (nI k)] [modR K a (flat F) g P L M] none [modR K a (flat (askS F n (3 * h + k))) g P L M] := by
  refine CtP_of (cc := cX5_asks) (nL := 3) (rt := none) (own := RX5) (lv0 := [(0, .ref (a 0)), (1, .int (nI h)), (2, .int (nI k))]) (by decide) rfl (Nat.le_of_ble_eq_true rfl) rfl rfl ?_
  intro G C0 hF _
  refine J_aln C0 0 dX5_asks_0 (kk := ?_)
  refine J_ic C0 2 dX5_asks_1 (kk := ?_)
  refine J_iln C0 1 dX5_asks_2 (kk := ?_)
  refine J_iln C0 2 dX5_asks_3 (kk := ?_)
  refine J_aln C0 0 dX5_asks_4 (kk := ?_)
  refine J_iln C0 1 dX5_asks_5 (kk := ?_)
  refine J_iln C0 2 dX5_asks_6 (kk := ?_)
  refine J_ic C0 0 dX5_asks_7 (kk := ?_)
  refine J_callVd C0 (mX5_of l K a F g P L M (h := h) (k := k) (w := 0) (by omega) (by omega) (by omega)) [] [modR K a (flat F) g P L M] gX5_asks_X5_of dX5_asks_8 3 0 (kk := ?_)
  show J G _ _ _ _ _ [.int (F 7 (3 * h + k)), .int (nI k), .int (nI h), .int (nI 2), .ref (a 0)]
  refine J_callVd C0 (mX5_sends l K a F g P L M (n := n) hn h40 (h := h) (k := k) (by omega) (by omega) (nI 2) (F 7 (3 * h + k))) [] [modR K a (flat (sendS F n (nI 2) (nI (3 * h + k)) (F 7 (3 * h + k)))) g P L M] gX5_asks_X5_sends dX5_asks_11 4 0 (kk := ?_)
  show J G _ _ _ _ _ []
  exact J_vret C0 hF dX5_asks_14 ⟨rfl, rfl⟩

abbrev rmX5_drinks : Room := { frames := 0, cells := 0, slots := 0, locals := 0 }
set_option maxHeartbeats 4000000 in
set_option maxRecDepth 100000 in
theorem mX5_drinks (l : Launch) (K : KT) (a : Nat → Nat) (F : FF) (g P L : Nat → Int32) (M : FF) {k : Nat} (hk : k < 3) : Ct l K yX5_drinks wsX5_drinks rmX5_drinks [.ref (a 0), .int (nI k)] [modR K a (flat F) g P L M] none [modR K a (flat (drinkS F k)) g P L M] := by
  refine CtP_of (cc := cX5_drinks) (nL := 2) (rt := none) (own := RX5) (lv0 := [(0, .ref (a 0)), (1, .int (nI k))]) (by decide) rfl (Nat.le_of_ble_eq_true rfl) rfl rfl ?_
  intro G C0 hF _
  have f7 : Cond.fieldLink RX5 7 "CorkPermitsModel" "s" "[I" ∈ wsX5_drinks := by decide +kernel
  have iX5 : ∀ w ∈ u_ws RX5 TX5 13, w ∈ wsX5_drinks := by decide +kernel
  refine J_aln C0 0 dX5_drinks_0 (kk := ?_)
  refine J_get C0 iX5 0 0 0 f7 dX5_drinks_1 (kk := ?_)
  refine J_bi C0 8 dX5_drinks_4 (kk := ?_)
  refine J_ic C0 5 dX5_drinks_6 (kk := ?_)
  refine J_iln C0 1 dX5_drinks_7 (kk := ?_)
  refine J_imulN C0 dX5_drinks_8 ?_
  refine J_iaddN C0 dX5_drinks_9 ?_
  refine J_ic C0 1 dX5_drinks_10 (kk := ?_)
  refine J_iaddN C0 dX5_drinks_11 ?_
  refine J_dup2 C0 dX5_drinks_12 (kk := ?_)
  refine J_iald C0 0 1 283 dX5_drinks_13 (by omega) (v := (F 3 k)) (hv := (flat_k F (j := 8 + (5 * k) + 1) (k := k) (c := 1) (by omega) (by omega) (by omega)).trans rfl) (kk := ?_)
  refine J_ic C0 1 dX5_drinks_14 (kk := ?_)
  refine J_isub C0 dX5_drinks_15 ?_
  refine J_iast C0 0 1 283 [modR K a (flat (u2 F 3 k ((F 3 k) - (nI 1)))) g P L M] dX5_drinks_16 (by omega) (hb2 := by exact congrArg (fun f => [modR K a f g P L M]) (flat_uk F (j := 8 + (5 * k) + 1) (q := k) (d := 1) (by omega) (by omega) (by omega) ((F 3 k) - (nI 1)))) (kk := ?_)
  refine J_aln C0 0 dX5_drinks_17 (kk := ?_)
  refine J_get C0 iX5 0 0 0 f7 dX5_drinks_18 (kk := ?_)
  refine J_bi C0 8 dX5_drinks_21 (kk := ?_)
  refine J_ic C0 5 dX5_drinks_23 (kk := ?_)
  refine J_iln C0 1 dX5_drinks_24 (kk := ?_)
  refine J_imulN C0 dX5_drinks_25 ?_
  refine J_iaddN C0 dX5_drinks_26 ?_
  refine J_ic C0 2 dX5_drinks_27 (kk := ?_)
  refine J_iaddN C0 dX5_drinks_28 ?_
  refine J_dup2 C0 dX5_drinks_29 (kk := ?_)
  refine J_iald C0 0 1 283 dX5_drinks_30 (by omega) (v := (F 4 k)) (hv := (flat_k (u2 F 3 k ((F 3 k) - (nI 1))) (j := 8 + (5 * k) + 2) (k := k) (c := 2) (by omega) (by omega) (by omega)).trans rfl) (kk := ?_)
  refine J_ic C0 1 dX5_drinks_31 (kk := ?_)
  refine J_iadd C0 dX5_drinks_32 ?_
  refine J_iast C0 0 1 283 [modR K a (flat (u2 (u2 F 3 k ((F 3 k) - (nI 1))) 4 k ((F 4 k) + (nI 1)))) g P L M] dX5_drinks_33 (by omega) (hb2 := by exact congrArg (fun f => [modR K a f g P L M]) (flat_uk (u2 F 3 k ((F 3 k) - (nI 1))) (j := 8 + (5 * k) + 2) (q := k) (d := 2) (by omega) (by omega) (by omega) ((F 4 k) + (nI 1)))) (kk := ?_)
  exact J_vret C0 hF dX5_drinks_34 ⟨rfl, rfl⟩

def shR (f : Nat → Int32) (lo j : Nat) : Nat → Int32 := fun i => if lo ≤ i ∧ i < j then f (i + 5) else f i
theorem shR_0 (f : Nat → Int32) (lo : Nat) : shR f lo lo = f := by
  funext i
  unfold shR
  rw [if_neg (by omega)]
theorem shR_low {f : Nat → Int32} {lo j i : Nat} (h : i < lo) : shR f lo j i = f i := by
  unfold shR
  rw [if_neg (by omega)]
theorem shR_up {f : Nat → Int32} {lo j : Nat} (h : lo ≤ j) : upd (shR f lo j) j (shR f lo j (j + 5)) = shR f lo (j + 1) := by
  funext i
  by_cases c : i = j
  · subst c
    rw [upd_s]
    unfold shR
    rw [if_neg (by omega), if_pos (by omega)]
  · rw [upd_n c]
    unfold shR
    by_cases d : lo ≤ i ∧ i < j
    · rw [if_pos d, if_pos (by omega)]
    · rw [if_neg d, if_neg (by omega)]
theorem shR_rm (F : FF) {n r : Nat} (h40 : n ≤ 40) (hr : r < n) : shR (flat (u2 F 0 4 (nI (n - 1)))) (83 + 5 * r) (83 + 5 * (n - 1)) = flat (rmS F n r) := by
  have low : ∀ i, i ≠ 0 → u2 F 0 4 (nI (n - 1)) i = F i := fun i h => u2_i h
  refine flat_ext (fun j h => ?_) (fun c h => ?_) (fun k c hk h => ?_) (fun p c hp h => ?_) (fun q c hq h => ?_) (fun j h => ?_)
  · rw [shR_low (by omega), flat_0 _ h]
    by_cases e : j = 4
    · subst e; rw [rm_04, u2_s]
    · rw [rm_0 F n r e, u2_12, if_neg (by omega)]
  · rw [shR_low (by omega), flat_1 _ rfl h, low _ (by decide), rm_far F n r (by decide) (by decide)]
  · rw [shR_low (by omega), flat_k _ rfl hk h, low _ (by omega), rm_far F n r (by omega) (by omega)]
  · rw [shR_low (by omega), flat_p _ rfl hp h, low _ (by omega), rm_far F n r (by omega) (by omega)]
  · have key : ∀ i, 12 ≤ i → i < 16 → rmS F n r i q = if r ≤ q ∧ q + 1 < n then F i (q + 1) else F i q := fun i h1 h2 => by rw [rm_let F n r h1 h2, cpy_at]
    have lt : ∀ s, letF (u2 F 0 4 (nI (n - 1))) c s = letF F c s := fun s => letF_u2 (by decide)
    unfold shR
    by_cases e : r ≤ q ∧ q + 1 < n
    · rw [if_pos (by omega), show 83 + 5 * q + c + 5 = 83 + 5 * (q + 1) + c by omega, flat_l _ rfl (by omega) h, lt]
      simp only [letF, key 12 (by decide) (by decide), key 13 (by decide) (by decide), key 14 (by decide) (by decide), key 15 (by decide) (by decide), if_pos e]
    · rw [if_neg (by omega), flat_l _ rfl hq h, lt]
      simp only [letF, key 12 (by decide) (by decide), key 13 (by decide) (by decide), key 14 (by decide) (by decide), key 15 (by decide) (by decide), if_neg e]
  · unfold shR
    rw [if_neg (by omega), flat_b _ h]
abbrev rmX5_takesOut : Room := { frames := 0, cells := 0, slots := 0, locals := 0 }
set_option maxHeartbeats 4000000 in
set_option maxRecDepth 100000 in
theorem mX5_takesOut (l : Launch) (K : KT) (a : Nat → Nat) (F : FF) (g P L : Nat → Int32) (M : FF) {n r : Nat} (hn : F 0 4 = nI n) (h40 : n ≤ 40) (hr : r < n) : Ct l K yX5_takesOut wsX5_takesOut rmX5_takesOut [.ref (a 0), .int (nI r)] [modR K a (flat F) g P L M] none [modR K a (flat (rmS F n r)) g P L M] := by
  refine CtP_of (cc := cX5_takesOut) (nL := 3) (rt := none) (own := RX5) (lv0 := [(0, .ref (a 0)), (1, .int (nI r))]) (by decide) rfl (Nat.le_of_ble_eq_true rfl) rfl rfl ?_
  intro G C0 hF _
  have f7 : Cond.fieldLink RX5 7 "CorkPermitsModel" "s" "[I" ∈ wsX5_takesOut := by decide +kernel
  have iX5 : ∀ w ∈ u_ws RX5 TX5 13, w ∈ wsX5_takesOut := by decide +kernel
  have lp : ∀ (q j : Nat), j + q = 83 + 5 * (n - 1) → 83 + 5 * r ≤ j → J G [modR K a (shR (flat (u2 F 0 4 (nI (n - 1)))) (83 + 5 * r) j) g P L M] [(2, .int (nI j)), (1, .int (nI r)), (0, .ref (a 0))] 0 0 17 [] := by
    intro q
    induction q with
    | zero =>
      intro j hq h1
      refine J_iln C0 0 dX5_takesOut_17 (kk := ?_)
      refine J_bi C0 83 dX5_takesOut_18 (kk := ?_)
      refine J_ic C0 5 dX5_takesOut_20 (kk := ?_)
      refine J_aln C0 2 dX5_takesOut_21 (kk := ?_)
      refine J_get C0 iX5 0 0 0 f7 dX5_takesOut_22 (kk := ?_)
      refine J_ic C0 4 dX5_takesOut_25 (kk := ?_)
      refine J_iald C0 0 1 283 dX5_takesOut_26 (by omega) (v := nI (n - 1)) (hv := (shR_low (by omega)).trans ((flat_0 _ (by decide)).trans (u2_s _ _ _ _))) (kk := ?_)
      refine J_imulN C0 dX5_takesOut_27 ?_
      refine J_iaddN C0 dX5_takesOut_28 ?_
      refine J_icmpgeN C0 52 (by omega) (by omega) dX5_takesOut_29 (kt := fun c1 => ?_) (kf := fun c1 => ?_)
      · exact J_vret C0 hF dX5_takesOut_52 ⟨rfl, by rw [← shR_rm F h40 hr, show 83 + 5 * (n - 1) = j by omega]⟩
      · exfalso; omega
    | succ q ih =>
      intro j hq h1
      refine J_iln C0 0 dX5_takesOut_17 (kk := ?_)
      refine J_bi C0 83 dX5_takesOut_18 (kk := ?_)
      refine J_ic C0 5 dX5_takesOut_20 (kk := ?_)
      refine J_aln C0 2 dX5_takesOut_21 (kk := ?_)
      refine J_get C0 iX5 0 0 0 f7 dX5_takesOut_22 (kk := ?_)
      refine J_ic C0 4 dX5_takesOut_25 (kk := ?_)
      refine J_iald C0 0 1 283 dX5_takesOut_26 (by omega) (v := nI (n - 1)) (hv := (shR_low (by omega)).trans ((flat_0 _ (by decide)).trans (u2_s _ _ _ _))) (kk := ?_)
      refine J_imulN C0 dX5_takesOut_27 ?_
      refine J_iaddN C0 dX5_takesOut_28 ?_
      refine J_icmpgeN C0 52 (by omega) (by omega) dX5_takesOut_29 (kt := fun c1 => ?_) (kf := fun c1 => ?_)
      · exfalso; omega
      · refine J_aln C0 2 dX5_takesOut_32 (kk := ?_)
        refine J_get C0 iX5 0 0 0 f7 dX5_takesOut_33 (kk := ?_)
        refine J_iln C0 0 dX5_takesOut_36 (kk := ?_)
        refine J_aln C0 2 dX5_takesOut_37 (kk := ?_)
        refine J_get C0 iX5 0 0 0 f7 dX5_takesOut_38 (kk := ?_)
        refine J_iln C0 0 dX5_takesOut_41 (kk := ?_)
        refine J_ic C0 5 dX5_takesOut_42 (kk := ?_)
        refine J_iaddN C0 dX5_takesOut_43 ?_
        refine J_iald C0 0 1 283 dX5_takesOut_44 (by omega) (kk := ?_)
        refine J_iast C0 0 1 283 ([modR K a (shR (flat (u2 F 0 4 (nI (n - 1)))) (83 + 5 * r) (j + 1)) g P L M]) dX5_takesOut_45 (by omega) (hb2 := by exact congrArg (fun f => [modR K a f g P L M]) (shR_up h1)) (kk := ?_)
        refine J_iincN C0 0 [(2, .int (nI (j + 1))), (1, .int (nI r)), (0, .ref (a 0))] dX5_takesOut_46 (kk := ?_)
        refine J_goto C0 17 dX5_takesOut_49 (kk := ?_)
        exact ih (j + 1) (by omega) (by omega)
  refine J_aln C0 0 dX5_takesOut_0 (kk := ?_)
  refine J_get C0 iX5 0 0 0 f7 dX5_takesOut_1 (kk := ?_)
  refine J_ic C0 4 dX5_takesOut_4 (kk := ?_)
  refine J_dup2 C0 dX5_takesOut_5 (kk := ?_)
  refine J_iald C0 0 1 283 dX5_takesOut_6 (by omega) (v := (nI n)) (hv := (flat_0 F (j := 4) (by decide)).trans hn) (kk := ?_)
  refine J_ic C0 1 dX5_takesOut_7 (kk := ?_)
  refine J_isubN C0 (by omega) dX5_takesOut_8 ?_
  refine J_iast C0 0 1 283 [modR K a (flat (u2 F 0 4 (nI (n - 1)))) g P L M] dX5_takesOut_9 (by omega) (hb2 := by exact congrArg (fun f => [modR K a f g P L M]) (flat_u0 F (j := 4) (by decide) (nI (n - 1)))) (kk := ?_)
  refine J_bi C0 83 dX5_takesOut_10 (kk := ?_)
  refine J_ic C0 5 dX5_takesOut_12 (kk := ?_)
  refine J_iln C0 1 dX5_takesOut_13 (kk := ?_)
  refine J_imulN C0 dX5_takesOut_14 ?_
  refine J_iaddN C0 dX5_takesOut_15 ?_
  refine J_isn C0 [(2, .int (nI (83 + (5 * r)))), (0, .ref (a 0)), (1, .int (nI r))] dX5_takesOut_16 (kk := ?_)
  rw [← shR_0 (flat (u2 F 0 4 (nI (n - 1)))) (83 + 5 * r)]; exact J_lv [0, 2, 1] rfl (lp (5 * (n - 1 - r)) (83 + 5 * r) (by omega) (by omega))

abbrev rmX5_accounts : Room := { frames := 2, cells := 0, slots := 0, locals := 44 }
set_option maxHeartbeats 4000000 in
set_option maxRecDepth 100000 in
theorem mX5_accounts (l : Launch) (K : KT) (a : Nat → Nat) (F : FF) (g P L : Nat → Int32) (M : FF) {h k : Nat} (hh : h < 4) (hk : k < 3) (nu ar : Int32) : Ct l K yX5_accounts wsX5_accounts rmX5_accounts [.ref (a 0), .int (nI h), .int (nI k), .int nu, .int ar] [modR K a (flat F) g P L M] none [modR K a (flat (accR F k (3 * h + k) nu ar)) g P L M] := by
  refine CtP_of (cc := cX5_accounts) (nL := 6) (rt := none) (own := RX5) (lv0 := [(0, .ref (a 0)), (1, .int (nI h)), (2, .int (nI k)), (3, .int nu), (4, .int ar)]) (by decide) rfl (Nat.le_of_ble_eq_true rfl) rfl rfl ?_
  intro G C0 hF _
  have f7 : Cond.fieldLink RX5 7 "CorkPermitsModel" "s" "[I" ∈ wsX5_accounts := by decide +kernel
  have iX5 : ∀ w ∈ u_ws RX5 TX5 13, w ∈ wsX5_accounts := by decide +kernel
  refine J_iln C0 3 dX5_accounts_0 (kk := ?_)
  refine J_aln C0 0 dX5_accounts_1 (kk := ?_)
  refine J_iln C0 1 dX5_accounts_2 (kk := ?_)
  refine J_iln C0 2 dX5_accounts_3 (kk := ?_)
  refine J_ic C0 1 dX5_accounts_4 (kk := ?_)
  refine J_callVd C0 (mX5_of l K a F g P L M (h := h) (k := k) (w := 1) (by omega) (by omega) (by omega)) [] [modR K a (flat F) g P L M] gX5_accounts_X5_of dX5_accounts_5 3 0 (kk := ?_)
  show J G _ _ _ _ _ [.int (F 8 (3 * h + k)), .int nu]
  refine J_isub C0 dX5_accounts_8 ?_
  refine J_is C0 [(5, .int (nu - (F 8 (3 * h + k)))), (0, .ref (a 0)), (1, .int (nI h)), (2, .int (nI k)), (3, .int nu), (4, .int ar)] dX5_accounts_9 (kk := ?_)
  refine J_il C0 0 dX5_accounts_11 (kk := ?_)
  refine J_ifle C0 86 dX5_accounts_13 (kt := fun c1 => ?_) (kf := fun c1 => ?_)
  · exact J_vret C0 hF dX5_accounts_86 ⟨rfl, by simp only [accR, c1, not_false_eq_true, not_true_eq_false, and_true, true_and, and_false, false_and, and_self, or_true, true_or, or_false, false_or, if_true, if_false, ite_true, ite_false, eq_self]⟩
  · refine J_aln C0 1 dX5_accounts_16 (kk := ?_)
    refine J_get C0 iX5 0 0 0 f7 dX5_accounts_17 (kk := ?_)
    refine J_bi C0 8 dX5_accounts_20 (kk := ?_)
    refine J_ic C0 5 dX5_accounts_22 (kk := ?_)
    refine J_iln C0 3 dX5_accounts_23 (kk := ?_)
    refine J_imulN C0 dX5_accounts_24 ?_
    refine J_iaddN C0 dX5_accounts_25 ?_
    refine J_ic C0 4 dX5_accounts_26 (kk := ?_)
    refine J_iaddN C0 dX5_accounts_27 ?_
    refine J_dup2 C0 dX5_accounts_28 (kk := ?_)
    refine J_iald C0 0 1 283 dX5_accounts_29 (by omega) (v := (F 6 k)) (hv := (flat_k F (j := 8 + (5 * k) + 4) (k := k) (c := 4) (by omega) (by omega) (by omega)).trans rfl) (kk := ?_)
    refine J_il C0 0 dX5_accounts_30 (kk := ?_)
    refine J_il C0 5 dX5_accounts_32 (kk := ?_)
    refine J_isub C0 dX5_accounts_34 ?_
    refine J_iadd C0 dX5_accounts_35 ?_
    refine J_iast C0 0 1 283 [modR K a (flat (u2 F 6 k ((F 6 k) + ((nu - (F 8 (3 * h + k))) - ar)))) g P L M] dX5_accounts_36 (by omega) (hb2 := by exact congrArg (fun f => [modR K a f g P L M]) (flat_uk F (j := 8 + (5 * k) + 4) (q := k) (d := 4) (by omega) (by omega) (by omega) ((F 6 k) + ((nu - (F 8 (3 * h + k))) - ar)))) (kk := ?_)
    refine J_aln C0 1 dX5_accounts_37 (kk := ?_)
    refine J_get C0 iX5 0 0 0 f7 dX5_accounts_38 (kk := ?_)
    refine J_bi C0 8 dX5_accounts_41 (kk := ?_)
    refine J_ic C0 5 dX5_accounts_43 (kk := ?_)
    refine J_iln C0 3 dX5_accounts_44 (kk := ?_)
    refine J_imulN C0 dX5_accounts_45 ?_
    refine J_iaddN C0 dX5_accounts_46 ?_
    refine J_ic C0 3 dX5_accounts_47 (kk := ?_)
    refine J_iaddN C0 dX5_accounts_48 ?_
    refine J_dup2 C0 dX5_accounts_49 (kk := ?_)
    refine J_iald C0 0 1 283 dX5_accounts_50 (by omega) (v := (F 5 k)) (hv := (flat_k (u2 F 6 k ((F 6 k) + ((nu - (F 8 (3 * h + k))) - ar))) (j := 8 + (5 * k) + 3) (k := k) (c := 3) (by omega) (by omega) (by omega)).trans rfl) (kk := ?_)
    refine J_il C0 5 dX5_accounts_51 (kk := ?_)
    refine J_iadd C0 dX5_accounts_53 ?_
    refine J_iast C0 0 1 283 [modR K a (flat (u2 (u2 F 6 k ((F 6 k) + ((nu - (F 8 (3 * h + k))) - ar))) 5 k ((F 5 k) + ar))) g P L M] dX5_accounts_54 (by omega) (hb2 := by exact congrArg (fun f => [modR K a f g P L M]) (flat_uk (u2 F 6 k ((F 6 k) + ((nu - (F 8 (3 * h + k))) - ar))) (j := 8 + (5 * k) + 3) (q := k) (d := 3) (by omega) (by omega) (by omega) ((F 5 k) + ar))) (kk := ?_)
    refine J_aln C0 1 dX5_accounts_55 (kk := ?_)
    refine J_get C0 iX5 0 0 0 f7 dX5_accounts_56 (kk := ?_)
    refine J_bi C0 8 dX5_accounts_59 (kk := ?_)
    refine J_ic C0 5 dX5_accounts_61 (kk := ?_)
    refine J_iln C0 3 dX5_accounts_62 (kk := ?_)
    refine J_imulN C0 dX5_accounts_63 ?_
    refine J_iaddN C0 dX5_accounts_64 ?_
    refine J_ic C0 1 dX5_accounts_65 (kk := ?_)
    refine J_iaddN C0 dX5_accounts_66 ?_
    refine J_dup2 C0 dX5_accounts_67 (kk := ?_)
    refine J_iald C0 0 1 283 dX5_accounts_68 (by omega) (v := (F 3 k)) (hv := (flat_k (u2 (u2 F 6 k ((F 6 k) + ((nu - (F 8 (3 * h + k))) - ar))) 5 k ((F 5 k) + ar)) (j := 8 + (5 * k) + 1) (k := k) (c := 1) (by omega) (by omega) (by omega)).trans rfl) (kk := ?_)
    refine J_il C0 5 dX5_accounts_69 (kk := ?_)
    refine J_iadd C0 dX5_accounts_71 ?_
    refine J_iast C0 0 1 283 [modR K a (flat (u2 (u2 (u2 F 6 k ((F 6 k) + ((nu - (F 8 (3 * h + k))) - ar))) 5 k ((F 5 k) + ar)) 3 k ((F 3 k) + ar))) g P L M] dX5_accounts_72 (by omega) (hb2 := by exact congrArg (fun f => [modR K a f g P L M]) (flat_uk (u2 (u2 F 6 k ((F 6 k) + ((nu - (F 8 (3 * h + k))) - ar))) 5 k ((F 5 k) + ar)) (j := 8 + (5 * k) + 1) (q := k) (d := 1) (by omega) (by omega) (by omega) ((F 3 k) + ar))) (kk := ?_)
    refine J_aln C0 1 dX5_accounts_73 (kk := ?_)
    refine J_get C0 iX5 0 0 0 f7 dX5_accounts_74 (kk := ?_)
    refine J_iln C0 2 dX5_accounts_77 (kk := ?_)
    refine J_iln C0 3 dX5_accounts_78 (kk := ?_)
    refine J_callSd C0 (mX5_at l K (h := h) (k := k)) [modR K a (flat (u2 (u2 (u2 F 6 k ((F 6 k) + ((nu - (F 8 (3 * h + k))) - ar))) 5 k ((F 5 k) + ar)) 3 k ((F 3 k) + ar))) g P L M] [modR K a (flat (u2 (u2 (u2 F 6 k ((F 6 k) + ((nu - (F 8 (3 * h + k))) - ar))) 5 k ((F 5 k) + ar)) 3 k ((F 3 k) + ar))) g P L M] gX5_accounts_X5_at dX5_accounts_79 2 (kk := ?_)
    show J G _ _ _ _ _ [.int (nI (23 + 5 * (3 * h + k))), .ref (a 1)]
    refine J_ic C0 1 dX5_accounts_82 (kk := ?_)
    refine J_iaddN C0 dX5_accounts_83 ?_
    refine J_iln C0 4 dX5_accounts_84 (kk := ?_)
    refine J_iast C0 0 1 283 [modR K a (flat (u2 (u2 (u2 (u2 F 6 k ((F 6 k) + ((nu - (F 8 (3 * h + k))) - ar))) 5 k ((F 5 k) + ar)) 3 k ((F 3 k) + ar)) 8 (3 * h + k) nu)) g P L M] dX5_accounts_85 (by omega) (hb2 := by exact congrArg (fun f => [modR K a f g P L M]) (flat_up (u2 (u2 (u2 F 6 k ((F 6 k) + ((nu - (F 8 (3 * h + k))) - ar))) 5 k ((F 5 k) + ar)) 3 k ((F 3 k) + ar)) (j := 23 + 5 * (3 * h + k) + 1) (q := 3 * h + k) (d := 1) (by omega) (by omega) (by omega) nu)) (kk := ?_)
    exact J_vret C0 hF dX5_accounts_86 ⟨rfl, by simp only [accR, c1, not_false_eq_true, not_true_eq_false, and_true, true_and, and_false, false_and, and_self, or_true, true_or, or_false, false_or, if_true, if_false, ite_true, ite_false, eq_self]⟩

