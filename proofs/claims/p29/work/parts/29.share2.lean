theorem vf_of {x : UInt64} (h : V64 x ≠ .nan) : vf_n64 x := by
  cases e : V64 x with
  | nan => exact absurd e h
  | fin s c q => exact vf_fin e
  | inf s =>
    have h2 : FP.Core.fieldT FP.Core.b64 x.toNat = 0 ∧ FP.Core.fieldE FP.Core.b64 x.toNat = 2047 := by
      unfold V64 FP.Core.val64 FP.Core.decode at e
      split at e
      · rename_i q
        split at e
        · rename_i q2
          exact ⟨q2, q⟩
        · cases e
      · split at e <;> cases e
    have h3 : x.toNat % 4503599627370496 = 0 := h2.1
    have h4 : x.toNat / 4503599627370496 % 2048 = 2047 := h2.2
    unfold vf_n64
    rw [UInt64.le_iff_toNat_le, UInt64.toNat_and]
    show x.toNat &&& (2 ^ 63 - 1) ≤ 9218868437227405312
    rw [Nat.and_two_pow_sub_one_eq_mod]
    omega
def shareN (a b : Nat) : UInt64 := if b = 0 then 0x3ff0000000000000 else FP.ddiv (FP.i2d (nI a)) (FP.i2d (nI b))
theorem share_vf {a b : Nat} (hb : ¬ b = 0) (hab : a ≤ b) (h31 : b < 2 ^ 31) : vf_n64 (FP.ddiv (FP.i2d (nI a)) (FP.i2d (nI b))) := by
  by_cases ha : a = 0
  · subst ha
    rw [v_div0 (by omega) h31]
    exact vf_fin v64_0
  · obtain ⟨c, j, e, -⟩ := v_div (a := a) (b := b) (by omega) hab h31
    exact vf_fin e
abbrev rmX4_arrivedShare : Room := { frames := 1, cells := 0, slots := 0, locals := 25 }
set_option maxHeartbeats 4000000 in
set_option maxRecDepth 100000 in
theorem mX4_arrivedShare_one (l : Launch) (K : KT) (b nA aA : Nat → Nat) (d e : Nat → Nat → Nat) (F Ga : FF) (D S : Nat → FF) (T : FF) {a9 b9 : Nat} (ha9 : sumS (F 5) 3 = nI a9) (hb9 : sumS (F 8) 12 = nI b9) (hab : a9 ≤ b9) (h31 : b9 < 2 ^ 31) (hc : b9 = 0) : Ct l K yX4_arrivedShare wsX4_arrivedShare rmX4_arrivedShare [.ref (b 0)] (corkW K b nA aA d e F Ga D S T) (some (.double (shareN a9 b9))) (corkW K b nA aA d e F Ga D S T) := by
  refine CtP_of (cc := cX4_arrivedShare) (nL := 2) (rt := some .double) (own := RX4) (lv0 := [(0, .ref (b 0))]) (by decide) rfl (Nat.le_of_ble_eq_true rfl) rfl rfl ?_
  intro G C0 hF _
  have hs : ¬ 0 < sumS (F 8) 12 := by rw [hb9, hc]; decide
  have f12 : Cond.fieldLink RX4 12 "CorkPermits" "now" "LCorkPermits$Cellar;" ∈ wsX4_arrivedShare := by decide +kernel
  have iX4 : ∀ w ∈ u_ws RX4 TX4 6, w ∈ wsX4_arrivedShare := by decide +kernel
  have f193 : Cond.fieldLink RX4 193 "CorkPermits$Cellar" "accounted" "[I" ∈ wsX4_arrivedShare := by decide +kernel
  have iX0 : ∀ w ∈ u_ws RX0 TX0 14, w ∈ wsX4_arrivedShare := by decide +kernel
  refine J_aln C0 0 dX4_arrivedShare_0 (kk := ?_)
  refine J_get C0 iX4 0 0 0 f12 dX4_arrivedShare_1 (kk := ?_)
  refine J_get C0 iX0 1 0 9 f193 dX4_arrivedShare_4 (kk := ?_)
  refine J_perm (permI [0, 2, 3, 4, 5, 6, 7, 8, 9, 10, 1] 11 rfl (by decide +kernel) rfl : List.Perm _ ([mainW K b (nA 0) (aA 0) (fun i => some (d i 0)) (fun i => some (e i 0)) T, celW K aA Ga, celW K (d 0) (D 0), celW K (d 1) (D 1), celW K (e 0) (S 0), celW K (e 1) (S 1), celW K (e 2) (S 2), celW K (e 3) (S 3), celW K (e 4) (S 4), celW K (e 5) (S 5), celW K nA F])) ?_
  refine J_callSd C0 (mX4_total l K (blk := celW K nA F) (k := 8) (ad := nA 8) (n := 12) (f := F 8) rfl (by omega)) [mainW K b (nA 0) (aA 0) (fun i => some (d i 0)) (fun i => some (e i 0)) T, celW K aA Ga, celW K (d 0) (D 0), celW K (d 1) (D 1), celW K (e 0) (S 0), celW K (e 1) (S 1), celW K (e 2) (S 2), celW K (e 3) (S 3), celW K (e 4) (S 4), celW K (e 5) (S 5)] [mainW K b (nA 0) (aA 0) (fun i => some (d i 0)) (fun i => some (e i 0)) T, celW K aA Ga, celW K (d 0) (D 0), celW K (d 1) (D 1), celW K (e 0) (S 0), celW K (e 1) (S 1), celW K (e 2) (S 2), celW K (e 3) (S 3), celW K (e 4) (S 4), celW K (e 5) (S 5), celW K nA F] gX4_arrivedShare_X4_total dX4_arrivedShare_7 1 (kk := ?_)
  refine J_perm (permI [0, 10, 1, 2, 3, 4, 5, 6, 7, 8, 9] 11 rfl (by decide +kernel) rfl : List.Perm _ (corkW K b nA aA d e F Ga D S T)) ?_
  show J G _ _ _ _ _ [.int (sumS (F 8) 12)]
  refine J_isn C0 [(1, .int (sumS (F 8) 12)), (0, .ref (b 0))] dX4_arrivedShare_10 (kk := ?_)
  refine J_iln C0 0 dX4_arrivedShare_11 (kk := ?_)
  refine J_ifgt C0 17 dX4_arrivedShare_12 (kt := fun c1 => ?_) (kf := fun c1 => ?_)
  · exact absurd c1 hs
  · refine J_dc1 C0 dX4_arrivedShare_15 ?_
    exact J_dret C0 hF dX4_arrivedShare_16 ⟨by unfold shareN; rw [if_pos hc], rfl⟩

set_option maxHeartbeats 4000000 in
set_option maxRecDepth 100000 in
theorem mX4_arrivedShare_div (l : Launch) (K : KT) (b nA aA : Nat → Nat) (d e : Nat → Nat → Nat) (F Ga : FF) (D S : Nat → FF) (T : FF) {a9 b9 : Nat} (ha9 : sumS (F 5) 3 = nI a9) (hb9 : sumS (F 8) 12 = nI b9) (hab : a9 ≤ b9) (h31 : b9 < 2 ^ 31) (hc : ¬ b9 = 0) : Ct l K yX4_arrivedShare wsX4_arrivedShare rmX4_arrivedShare [.ref (b 0)] (corkW K b nA aA d e F Ga D S T) (some (.double (shareN a9 b9))) (corkW K b nA aA d e F Ga D S T) := by
  refine CtP_of (cc := cX4_arrivedShare) (nL := 2) (rt := some .double) (own := RX4) (lv0 := [(0, .ref (b 0))]) (by decide) rfl (Nat.le_of_ble_eq_true rfl) rfl rfl ?_
  intro G C0 hF _
  have hs : 0 < sumS (F 8) 12 := by rw [hb9]; exact (nI_ltI (a := 0) (by decide) h31).mpr (by omega)
  have hv : vf_n64 (FP.ddiv (FP.i2d (sumS (F 5) 3)) (FP.i2d (sumS (F 8) 12))) := by rw [ha9, hb9]; exact share_vf hc hab h31
  have f12 : Cond.fieldLink RX4 12 "CorkPermits" "now" "LCorkPermits$Cellar;" ∈ wsX4_arrivedShare := by decide +kernel
  have iX4 : ∀ w ∈ u_ws RX4 TX4 6, w ∈ wsX4_arrivedShare := by decide +kernel
  have f193 : Cond.fieldLink RX4 193 "CorkPermits$Cellar" "accounted" "[I" ∈ wsX4_arrivedShare := by decide +kernel
  have iX0 : ∀ w ∈ u_ws RX0 TX0 14, w ∈ wsX4_arrivedShare := by decide +kernel
  have f199 : Cond.fieldLink RX4 199 "CorkPermits$Cellar" "arrived" "[I" ∈ wsX4_arrivedShare := by decide +kernel
  refine J_aln C0 0 dX4_arrivedShare_0 (kk := ?_)
  refine J_get C0 iX4 0 0 0 f12 dX4_arrivedShare_1 (kk := ?_)
  refine J_get C0 iX0 1 0 9 f193 dX4_arrivedShare_4 (kk := ?_)
  refine J_perm (permI [0, 2, 3, 4, 5, 6, 7, 8, 9, 10, 1] 11 rfl (by decide +kernel) rfl : List.Perm _ ([mainW K b (nA 0) (aA 0) (fun i => some (d i 0)) (fun i => some (e i 0)) T, celW K aA Ga, celW K (d 0) (D 0), celW K (d 1) (D 1), celW K (e 0) (S 0), celW K (e 1) (S 1), celW K (e 2) (S 2), celW K (e 3) (S 3), celW K (e 4) (S 4), celW K (e 5) (S 5), celW K nA F])) ?_
  refine J_callSd C0 (mX4_total l K (blk := celW K nA F) (k := 8) (ad := nA 8) (n := 12) (f := F 8) rfl (by omega)) [mainW K b (nA 0) (aA 0) (fun i => some (d i 0)) (fun i => some (e i 0)) T, celW K aA Ga, celW K (d 0) (D 0), celW K (d 1) (D 1), celW K (e 0) (S 0), celW K (e 1) (S 1), celW K (e 2) (S 2), celW K (e 3) (S 3), celW K (e 4) (S 4), celW K (e 5) (S 5)] [mainW K b (nA 0) (aA 0) (fun i => some (d i 0)) (fun i => some (e i 0)) T, celW K aA Ga, celW K (d 0) (D 0), celW K (d 1) (D 1), celW K (e 0) (S 0), celW K (e 1) (S 1), celW K (e 2) (S 2), celW K (e 3) (S 3), celW K (e 4) (S 4), celW K (e 5) (S 5), celW K nA F] gX4_arrivedShare_X4_total dX4_arrivedShare_7 1 (kk := ?_)
  refine J_perm (permI [0, 10, 1, 2, 3, 4, 5, 6, 7, 8, 9] 11 rfl (by decide +kernel) rfl : List.Perm _ (corkW K b nA aA d e F Ga D S T)) ?_
  show J G _ _ _ _ _ [.int (sumS (F 8) 12)]
  refine J_isn C0 [(1, .int (sumS (F 8) 12)), (0, .ref (b 0))] dX4_arrivedShare_10 (kk := ?_)
  refine J_iln C0 0 dX4_arrivedShare_11 (kk := ?_)
  refine J_ifgt C0 17 dX4_arrivedShare_12 (kt := fun c1 => ?_) (kf := fun c1 => ?_)
  · refine J_aln C0 1 dX4_arrivedShare_17 (kk := ?_)
    refine J_get C0 iX4 0 0 0 f12 dX4_arrivedShare_18 (kk := ?_)
    refine J_get C0 iX0 1 0 6 f199 dX4_arrivedShare_21 (kk := ?_)
    refine J_perm (permI [0, 2, 3, 4, 5, 6, 7, 8, 9, 10, 1] 11 rfl (by decide +kernel) rfl : List.Perm _ ([mainW K b (nA 0) (aA 0) (fun i => some (d i 0)) (fun i => some (e i 0)) T, celW K aA Ga, celW K (d 0) (D 0), celW K (d 1) (D 1), celW K (e 0) (S 0), celW K (e 1) (S 1), celW K (e 2) (S 2), celW K (e 3) (S 3), celW K (e 4) (S 4), celW K (e 5) (S 5), celW K nA F])) ?_
    refine J_callSd C0 (mX4_total l K (blk := celW K nA F) (k := 5) (ad := nA 5) (n := 3) (f := F 5) rfl (by omega)) [mainW K b (nA 0) (aA 0) (fun i => some (d i 0)) (fun i => some (e i 0)) T, celW K aA Ga, celW K (d 0) (D 0), celW K (d 1) (D 1), celW K (e 0) (S 0), celW K (e 1) (S 1), celW K (e 2) (S 2), celW K (e 3) (S 3), celW K (e 4) (S 4), celW K (e 5) (S 5)] [mainW K b (nA 0) (aA 0) (fun i => some (d i 0)) (fun i => some (e i 0)) T, celW K aA Ga, celW K (d 0) (D 0), celW K (d 1) (D 1), celW K (e 0) (S 0), celW K (e 1) (S 1), celW K (e 2) (S 2), celW K (e 3) (S 3), celW K (e 4) (S 4), celW K (e 5) (S 5), celW K nA F] gX4_arrivedShare_X4_total dX4_arrivedShare_24 1 (kk := ?_)
    refine J_perm (permI [0, 10, 1, 2, 3, 4, 5, 6, 7, 8, 9] 11 rfl (by decide +kernel) rfl : List.Perm _ (corkW K b nA aA d e F Ga D S T)) ?_
    show J G _ _ _ _ _ [.int (sumS (F 5) 3)]
    refine J_i2d C0 dX4_arrivedShare_27 ?_
    refine J_iln C0 0 dX4_arrivedShare_28 (kk := ?_)
    refine J_i2d C0 dX4_arrivedShare_29 ?_
    refine J_ddiv C0 dX4_arrivedShare_30 hv (kk := ?_)
    exact J_dret C0 hF dX4_arrivedShare_31 ⟨by unfold shareN; rw [if_neg hc, ha9, hb9], rfl⟩
  · exact absurd hs c1

theorem mX4_arrivedShare (l : Launch) (K : KT) (b nA aA : Nat → Nat) (d e : Nat → Nat → Nat) (F Ga : FF) (D S : Nat → FF) (T : FF) {a9 b9 : Nat} (ha9 : sumS (F 5) 3 = nI a9) (hb9 : sumS (F 8) 12 = nI b9) (hab : a9 ≤ b9) (h31 : b9 < 2 ^ 31) : Ct l K yX4_arrivedShare wsX4_arrivedShare rmX4_arrivedShare [.ref (b 0)] (corkW K b nA aA d e F Ga D S T) (some (.double (shareN a9 b9))) (corkW K b nA aA d e F Ga D S T) := by
  by_cases hc : b9 = 0
  · exact mX4_arrivedShare_one l K b nA aA d e F Ga D S T ha9 hb9 hab h31 hc
  · exact mX4_arrivedShare_div l K b nA aA d e F Ga D S T ha9 hb9 hab h31 hc
