abbrev rmX4_pass : Room := { frames := 5, cells := 0, slots := 0, locals := 119 }
set_option maxHeartbeats 4000000 in
set_option maxRecDepth 100000 in
theorem mX4_pass (l : Launch) (K : KT) (b nA aA : Nat → Nat) (d e : Nat → Nat → Nat) (F Ga : FF) (D S : Nat → FF) (T : FF) {k : Nat} (h6 : k ≤ 6) (hk : T 0 0 = nI k) (hSh : Sh F) {t : Nat} (ht1 : 1 ≤ t) (ht : t ≤ 60) (hc : F 0 0 + nI t ≤ nI 9999) : Ct l K yX4_pass wsX4_pass rmX4_pass [.ref (b 0), .int (nI t)] (corkW K b nA aA d e F Ga D S T) (some (.int (sumS (ticksC t F 10) 12 - sumS (F 10) 12))) (corkW K b nA aA d (pushE k e) (ticksC t F) Ga D (pushS k S F) (pushT k T)) := by
  refine CtP_of (cc := cX4_pass) (nL := 3) (rt := some .int) (own := RX4) (lv0 := [(0, .ref (b 0)), (1, .int (nI t))]) (by decide) rfl (Nat.le_of_ble_eq_true rfl) rfl rfl ?_
  intro G C0 hF _
  have f12 : Cond.fieldLink RX4 12 "CorkPermits" "now" "LCorkPermits$Cellar;" ∈ wsX4_pass := by decide +kernel
  have iX4 : ∀ w ∈ u_ws RX4 TX4 6, w ∈ wsX4_pass := by decide +kernel
  have f116 : Cond.fieldLink RX4 116 "CorkPermits$Cellar" "time" "I" ∈ wsX4_pass := by decide +kernel
  have iX0 : ∀ w ∈ u_ws RX0 TX0 14, w ∈ wsX4_pass := by decide +kernel
  have f30 : Cond.fieldLink RX4 30 "CorkPermits" "history" "LCorkPermits$History;" ∈ wsX4_pass := by decide +kernel
  have f119 : Cond.fieldLink RX4 119 "CorkPermits$Cellar" "poured" "[I" ∈ wsX4_pass := by decide +kernel
  refine J_iln C0 1 dX4_pass_0 (kk := ?_)
  refine J_callSd C0 (mX4_requireTicks l K (k := t) (by omega) (by omega)) [mainW K b (nA 0) (aA 0) (fun i => some (d i 0)) (fun i => some (e i 0)) T, celW K nA F, celW K aA Ga, celW K (d 0) (D 0), celW K (d 1) (D 1), celW K (e 0) (S 0), celW K (e 1) (S 1), celW K (e 2) (S 2), celW K (e 3) (S 3), celW K (e 4) (S 4), celW K (e 5) (S 5)] (corkW K b nA aA d e F Ga D S T) gX4_pass_X4_requireTicks dX4_pass_1 1 (kk := ?_)
  show J G _ _ _ _ _ []
  refine J_aln C0 0 dX4_pass_4 (kk := ?_)
  refine J_get C0 iX4 0 0 0 f12 dX4_pass_5 (kk := ?_)
  refine J_get C0 iX0 1 0 0 f116 dX4_pass_8 (kk := ?_)
  refine J_iln C0 1 dX4_pass_11 (kk := ?_)
  refine J_iadd C0 dX4_pass_12 ?_
  refine J_si C0 9999 dX4_pass_13 (kk := ?_)
  refine J_icmple C0 27 dX4_pass_16 (kt := fun c1 => ?_) (kf := fun c1 => ?_)
  · refine J_aln C0 0 dX4_pass_27 (kk := ?_)
    refine J_get C0 iX4 0 0 4 f30 dX4_pass_28 (kk := ?_)
    refine J_aln C0 0 dX4_pass_31 (kk := ?_)
    refine J_get C0 iX4 0 0 0 f12 dX4_pass_32 (kk := ?_)
    refine J_callVd C0 (mX2_push l K b nA aA d e F Ga D S T (k := k) h6 hk) [] (corkW K b nA aA d (pushE k e) F Ga D (pushS k S F) (pushT k T)) gX4_pass_X2_push dX4_pass_35 1 3 (kk := ?_)
    show J G _ _ _ _ _ []
    refine J_aln C0 0 dX4_pass_38 (kk := ?_)
    refine J_get C0 iX4 0 0 0 f12 dX4_pass_39 (kk := ?_)
    refine J_get C0 iX0 1 0 11 f119 dX4_pass_42 (kk := ?_)
    refine J_perm (permI [0, 2, 3, 4, 5, 6, 7, 8, 9, 10, 1] 11 rfl (by decide +kernel) rfl : List.Perm _ ([mainW K b (nA 0) (aA 0) (fun i => some (d i 0)) (fun i => some (pushE k e i 0)) (pushT k T), celW K aA Ga, celW K (d 0) (D 0), celW K (d 1) (D 1), celW K (pushE k e 0) (pushS k S F 0), celW K (pushE k e 1) (pushS k S F 1), celW K (pushE k e 2) (pushS k S F 2), celW K (pushE k e 3) (pushS k S F 3), celW K (pushE k e 4) (pushS k S F 4), celW K (pushE k e 5) (pushS k S F 5), celW K nA F])) ?_
    refine J_callSd C0 (mX4_total l K (blk := celW K nA F) (k := 10) (ad := nA 10) (n := 12) (f := F 10) rfl (by omega)) [mainW K b (nA 0) (aA 0) (fun i => some (d i 0)) (fun i => some (pushE k e i 0)) (pushT k T), celW K aA Ga, celW K (d 0) (D 0), celW K (d 1) (D 1), celW K (pushE k e 0) (pushS k S F 0), celW K (pushE k e 1) (pushS k S F 1), celW K (pushE k e 2) (pushS k S F 2), celW K (pushE k e 3) (pushS k S F 3), celW K (pushE k e 4) (pushS k S F 4), celW K (pushE k e 5) (pushS k S F 5)] [mainW K b (nA 0) (aA 0) (fun i => some (d i 0)) (fun i => some (pushE k e i 0)) (pushT k T), celW K aA Ga, celW K (d 0) (D 0), celW K (d 1) (D 1), celW K (pushE k e 0) (pushS k S F 0), celW K (pushE k e 1) (pushS k S F 1), celW K (pushE k e 2) (pushS k S F 2), celW K (pushE k e 3) (pushS k S F 3), celW K (pushE k e 4) (pushS k S F 4), celW K (pushE k e 5) (pushS k S F 5), celW K nA F] gX4_pass_X4_total dX4_pass_45 1 (kk := ?_)
    refine J_perm (permI [0, 10, 1, 2, 3, 4, 5, 6, 7, 8, 9] 11 rfl (by decide +kernel) rfl : List.Perm _ (corkW K b nA aA d (pushE k e) F Ga D (pushS k S F) (pushT k T))) ?_
    show J G _ _ _ _ _ [.int (sumS (F 10) 12)]
    refine J_isn C0 [(2, .int (sumS (F 10) 12)), (0, .ref (b 0)), (1, .int (nI t))] dX4_pass_48 (kk := ?_)
    refine J_aln C0 1 dX4_pass_49 (kk := ?_)
    refine J_get C0 iX4 0 0 0 f12 dX4_pass_50 (kk := ?_)
    refine J_iln C0 2 dX4_pass_53 (kk := ?_)
    refine J_perm (permI [0, 2, 3, 4, 5, 6, 7, 8, 9, 10, 1] 11 rfl (by decide +kernel) rfl : List.Perm _ ([mainW K b (nA 0) (aA 0) (fun i => some (d i 0)) (fun i => some (pushE k e i 0)) (pushT k T), celW K aA Ga, celW K (d 0) (D 0), celW K (d 1) (D 1), celW K (pushE k e 0) (pushS k S F 0), celW K (pushE k e 1) (pushS k S F 1), celW K (pushE k e 2) (pushS k S F 2), celW K (pushE k e 3) (pushS k S F 3), celW K (pushE k e 4) (pushS k S F 4), celW K (pushE k e 5) (pushS k S F 5), celW K nA F])) ?_
    refine J_callVd C0 (mX0_letGoBy l K nA (F := F) hSh (t := t) (by omega)) [mainW K b (nA 0) (aA 0) (fun i => some (d i 0)) (fun i => some (pushE k e i 0)) (pushT k T), celW K aA Ga, celW K (d 0) (D 0), celW K (d 1) (D 1), celW K (pushE k e 0) (pushS k S F 0), celW K (pushE k e 1) (pushS k S F 1), celW K (pushE k e 2) (pushS k S F 2), celW K (pushE k e 3) (pushS k S F 3), celW K (pushE k e 4) (pushS k S F 4), celW K (pushE k e 5) (pushS k S F 5)] [mainW K b (nA 0) (aA 0) (fun i => some (d i 0)) (fun i => some (pushE k e i 0)) (pushT k T), celW K aA Ga, celW K (d 0) (D 0), celW K (d 1) (D 1), celW K (pushE k e 0) (pushS k S F 0), celW K (pushE k e 1) (pushS k S F 1), celW K (pushE k e 2) (pushS k S F 2), celW K (pushE k e 3) (pushS k S F 3), celW K (pushE k e 4) (pushS k S F 4), celW K (pushE k e 5) (pushS k S F 5), celW K nA (ticksC t F)] gX4_pass_X0_letGoBy dX4_pass_54 1 0 (kk := ?_)
    refine J_perm (permI [0, 10, 1, 2, 3, 4, 5, 6, 7, 8, 9] 11 rfl (by decide +kernel) rfl : List.Perm _ (corkW K b nA aA d (pushE k e) (ticksC t F) Ga D (pushS k S F) (pushT k T))) ?_
    show J G _ _ _ _ _ []
    refine J_aln C0 1 dX4_pass_57 (kk := ?_)
    refine J_get C0 iX4 0 0 0 f12 dX4_pass_58 (kk := ?_)
    refine J_get C0 iX0 1 0 11 f119 dX4_pass_61 (kk := ?_)
    refine J_perm (permI [0, 2, 3, 4, 5, 6, 7, 8, 9, 10, 1] 11 rfl (by decide +kernel) rfl : List.Perm _ ([mainW K b (nA 0) (aA 0) (fun i => some (d i 0)) (fun i => some (pushE k e i 0)) (pushT k T), celW K aA Ga, celW K (d 0) (D 0), celW K (d 1) (D 1), celW K (pushE k e 0) (pushS k S F 0), celW K (pushE k e 1) (pushS k S F 1), celW K (pushE k e 2) (pushS k S F 2), celW K (pushE k e 3) (pushS k S F 3), celW K (pushE k e 4) (pushS k S F 4), celW K (pushE k e 5) (pushS k S F 5), celW K nA (ticksC t F)])) ?_
    refine J_callSd C0 (mX4_total l K (blk := celW K nA (ticksC t F)) (k := 10) (ad := nA 10) (n := 12) (f := (ticksC t F) 10) rfl (by omega)) [mainW K b (nA 0) (aA 0) (fun i => some (d i 0)) (fun i => some (pushE k e i 0)) (pushT k T), celW K aA Ga, celW K (d 0) (D 0), celW K (d 1) (D 1), celW K (pushE k e 0) (pushS k S F 0), celW K (pushE k e 1) (pushS k S F 1), celW K (pushE k e 2) (pushS k S F 2), celW K (pushE k e 3) (pushS k S F 3), celW K (pushE k e 4) (pushS k S F 4), celW K (pushE k e 5) (pushS k S F 5)] [mainW K b (nA 0) (aA 0) (fun i => some (d i 0)) (fun i => some (pushE k e i 0)) (pushT k T), celW K aA Ga, celW K (d 0) (D 0), celW K (d 1) (D 1), celW K (pushE k e 0) (pushS k S F 0), celW K (pushE k e 1) (pushS k S F 1), celW K (pushE k e 2) (pushS k S F 2), celW K (pushE k e 3) (pushS k S F 3), celW K (pushE k e 4) (pushS k S F 4), celW K (pushE k e 5) (pushS k S F 5), celW K nA (ticksC t F)] gX4_pass_X4_total dX4_pass_64 1 (kk := ?_)
    refine J_perm (permI [0, 10, 1, 2, 3, 4, 5, 6, 7, 8, 9] 11 rfl (by decide +kernel) rfl : List.Perm _ (corkW K b nA aA d (pushE k e) (ticksC t F) Ga D (pushS k S F) (pushT k T))) ?_
    show J G _ _ _ _ _ [.int (sumS ((ticksC t F) 10) 12)]
    refine J_iln C0 0 dX4_pass_67 (kk := ?_)
    refine J_isub C0 dX4_pass_68 ?_
    exact J_iret C0 hF dX4_pass_69 ⟨rfl, rfl⟩
  · exact absurd hc c1

abbrev rmX4_hidden : Room := { frames := 1, cells := 0, slots := 0, locals := 25 }
set_option maxHeartbeats 4000000 in
set_option maxRecDepth 100000 in
theorem mX4_hidden (l : Launch) (K : KT) (b nA aA : Nat → Nat) (d e : Nat → Nat → Nat) (F Ga : FF) (D S : Nat → FF) (T : FF) : Ct l K yX4_hidden wsX4_hidden rmX4_hidden [.ref (b 0)] (corkW K b nA aA d e F Ga D S T) (some (.int (sumS (F 10) 12 - sumS (F 8) 12))) (corkW K b nA aA d e F Ga D S T) := by
  refine CtP_of (cc := cX4_hidden) (nL := 1) (rt := some .int) (own := RX4) (lv0 := [(0, .ref (b 0))]) (by decide) rfl (Nat.le_of_ble_eq_true rfl) rfl rfl ?_
  intro G C0 hF _
  have f12 : Cond.fieldLink RX4 12 "CorkPermits" "now" "LCorkPermits$Cellar;" ∈ wsX4_hidden := by decide +kernel
  have iX4 : ∀ w ∈ u_ws RX4 TX4 6, w ∈ wsX4_hidden := by decide +kernel
  have f119 : Cond.fieldLink RX4 119 "CorkPermits$Cellar" "poured" "[I" ∈ wsX4_hidden := by decide +kernel
  have iX0 : ∀ w ∈ u_ws RX0 TX0 14, w ∈ wsX4_hidden := by decide +kernel
  have f193 : Cond.fieldLink RX4 193 "CorkPermits$Cellar" "accounted" "[I" ∈ wsX4_hidden := by decide +kernel
  refine J_aln C0 0 dX4_hidden_0 (kk := ?_)
  refine J_get C0 iX4 0 0 0 f12 dX4_hidden_1 (kk := ?_)
  refine J_get C0 iX0 1 0 11 f119 dX4_hidden_4 (kk := ?_)
  refine J_perm (permI [0, 2, 3, 4, 5, 6, 7, 8, 9, 10, 1] 11 rfl (by decide +kernel) rfl : List.Perm _ ([mainW K b (nA 0) (aA 0) (fun i => some (d i 0)) (fun i => some (e i 0)) T, celW K aA Ga, celW K (d 0) (D 0), celW K (d 1) (D 1), celW K (e 0) (S 0), celW K (e 1) (S 1), celW K (e 2) (S 2), celW K (e 3) (S 3), celW K (e 4) (S 4), celW K (e 5) (S 5), celW K nA F])) ?_
  refine J_callSd C0 (mX4_total l K (blk := celW K nA F) (k := 10) (ad := nA 10) (n := 12) (f := F 10) rfl (by omega)) [mainW K b (nA 0) (aA 0) (fun i => some (d i 0)) (fun i => some (e i 0)) T, celW K aA Ga, celW K (d 0) (D 0), celW K (d 1) (D 1), celW K (e 0) (S 0), celW K (e 1) (S 1), celW K (e 2) (S 2), celW K (e 3) (S 3), celW K (e 4) (S 4), celW K (e 5) (S 5)] [mainW K b (nA 0) (aA 0) (fun i => some (d i 0)) (fun i => some (e i 0)) T, celW K aA Ga, celW K (d 0) (D 0), celW K (d 1) (D 1), celW K (e 0) (S 0), celW K (e 1) (S 1), celW K (e 2) (S 2), celW K (e 3) (S 3), celW K (e 4) (S 4), celW K (e 5) (S 5), celW K nA F] gX4_hidden_X4_total dX4_hidden_7 1 (kk := ?_)
  refine J_perm (permI [0, 10, 1, 2, 3, 4, 5, 6, 7, 8, 9] 11 rfl (by decide +kernel) rfl : List.Perm _ (corkW K b nA aA d e F Ga D S T)) ?_
  show J G _ _ _ _ _ [.int (sumS (F 10) 12)]
  refine J_aln C0 0 dX4_hidden_10 (kk := ?_)
  refine J_get C0 iX4 0 0 0 f12 dX4_hidden_11 (kk := ?_)
  refine J_get C0 iX0 1 0 9 f193 dX4_hidden_14 (kk := ?_)
  refine J_perm (permI [0, 2, 3, 4, 5, 6, 7, 8, 9, 10, 1] 11 rfl (by decide +kernel) rfl : List.Perm _ ([mainW K b (nA 0) (aA 0) (fun i => some (d i 0)) (fun i => some (e i 0)) T, celW K aA Ga, celW K (d 0) (D 0), celW K (d 1) (D 1), celW K (e 0) (S 0), celW K (e 1) (S 1), celW K (e 2) (S 2), celW K (e 3) (S 3), celW K (e 4) (S 4), celW K (e 5) (S 5), celW K nA F])) ?_
  refine J_callSd C0 (mX4_total l K (blk := celW K nA F) (k := 8) (ad := nA 8) (n := 12) (f := F 8) rfl (by omega)) [mainW K b (nA 0) (aA 0) (fun i => some (d i 0)) (fun i => some (e i 0)) T, celW K aA Ga, celW K (d 0) (D 0), celW K (d 1) (D 1), celW K (e 0) (S 0), celW K (e 1) (S 1), celW K (e 2) (S 2), celW K (e 3) (S 3), celW K (e 4) (S 4), celW K (e 5) (S 5)] [mainW K b (nA 0) (aA 0) (fun i => some (d i 0)) (fun i => some (e i 0)) T, celW K aA Ga, celW K (d 0) (D 0), celW K (d 1) (D 1), celW K (e 0) (S 0), celW K (e 1) (S 1), celW K (e 2) (S 2), celW K (e 3) (S 3), celW K (e 4) (S 4), celW K (e 5) (S 5), celW K nA F] gX4_hidden_X4_total dX4_hidden_17 1 (kk := ?_)
  refine J_perm (permI [0, 10, 1, 2, 3, 4, 5, 6, 7, 8, 9] 11 rfl (by decide +kernel) rfl : List.Perm _ (corkW K b nA aA d e F Ga D S T)) ?_
  show J G _ _ _ _ _ [.int (sumS (F 8) 12), .int (sumS (F 10) 12)]
  refine J_isub C0 dX4_hidden_20 ?_
  exact J_iret C0 hF dX4_hidden_21 ⟨rfl, rfl⟩

def countC (F T : FF) : Nat → Int32
  | 0 => F 0 0
  | 1 => F 0 1
  | 2 => F 0 4
  | 3 => F 0 2
  | 4 => F 0 3
  | 5 => sumS (F 10) 12
  | 6 => sumS (F 5) 3
  | 7 => sumS (F 6) 3
  | 8 => sumS (F 11) 12
  | 9 => sumS (F 3) 3
  | 10 => sumS (F 7) 12 - sumS (F 8) 12
  | _ => T 0 0
abbrev rmX4_countNumber : Room := { frames := 1, cells := 0, slots := 0, locals := 25 }
set_option maxHeartbeats 4000000 in
set_option maxRecDepth 100000 in
theorem mX4_countNumber_0 (l : Launch) (K : KT) (b nA aA : Nat → Nat) (d e : Nat → Nat → Nat) (F Ga : FF) (D S : Nat → FF) (T : FF) : Ct l K yX4_countNumber wsX4_countNumber rmX4_countNumber [.ref (b 0), .int (nI 0)] (corkW K b nA aA d e F Ga D S T) (some (.int (countC F T 0))) (corkW K b nA aA d e F Ga D S T) := by
  refine CtP_of (cc := cX4_countNumber) (nL := 2) (rt := some .int) (own := RX4) (lv0 := [(0, .ref (b 0)), (1, .int (nI 0))]) (by decide) rfl (Nat.le_of_ble_eq_true rfl) rfl rfl ?_
  intro G C0 hF _
  have f12 : Cond.fieldLink RX4 12 "CorkPermits" "now" "LCorkPermits$Cellar;" ∈ wsX4_countNumber := by decide +kernel
  have iX4 : ∀ w ∈ u_ws RX4 TX4 6, w ∈ wsX4_countNumber := by decide +kernel
  have f116 : Cond.fieldLink RX4 116 "CorkPermits$Cellar" "time" "I" ∈ wsX4_countNumber := by decide +kernel
  have iX0 : ∀ w ∈ u_ws RX0 TX0 14, w ∈ wsX4_countNumber := by decide +kernel
  refine J_iln C0 1 dX4_countNumber_0 (kk := ?_)
  refine J_tin C0 60 dX4_countNumber_1 (kk := ?_)
  refine J_aln C0 0 dX4_countNumber_60 (kk := ?_)
  refine J_get C0 iX4 0 0 0 f12 dX4_countNumber_61 (kk := ?_)
  refine J_get C0 iX0 1 0 0 f116 dX4_countNumber_64 (kk := ?_)
  exact J_iret C0 hF dX4_countNumber_67 ⟨rfl, rfl⟩

set_option maxHeartbeats 4000000 in
set_option maxRecDepth 100000 in
theorem mX4_countNumber_1 (l : Launch) (K : KT) (b nA aA : Nat → Nat) (d e : Nat → Nat → Nat) (F Ga : FF) (D S : Nat → FF) (T : FF) : Ct l K yX4_countNumber wsX4_countNumber rmX4_countNumber [.ref (b 0), .int (nI 1)] (corkW K b nA aA d e F Ga D S T) (some (.int (countC F T 1))) (corkW K b nA aA d e F Ga D S T) := by
  refine CtP_of (cc := cX4_countNumber) (nL := 2) (rt := some .int) (own := RX4) (lv0 := [(0, .ref (b 0)), (1, .int (nI 1))]) (by decide) rfl (Nat.le_of_ble_eq_true rfl) rfl rfl ?_
  intro G C0 hF _
  have f12 : Cond.fieldLink RX4 12 "CorkPermits" "now" "LCorkPermits$Cellar;" ∈ wsX4_countNumber := by decide +kernel
  have iX4 : ∀ w ∈ u_ws RX4 TX4 6, w ∈ wsX4_countNumber := by decide +kernel
  have f41 : Cond.fieldLink RX4 41 "CorkPermits$Cellar" "houses" "I" ∈ wsX4_countNumber := by decide +kernel
  have iX0 : ∀ w ∈ u_ws RX0 TX0 14, w ∈ wsX4_countNumber := by decide +kernel
  refine J_iln C0 1 dX4_countNumber_0 (kk := ?_)
  refine J_tin C0 68 dX4_countNumber_1 (kk := ?_)
  refine J_aln C0 0 dX4_countNumber_68 (kk := ?_)
  refine J_get C0 iX4 0 0 0 f12 dX4_countNumber_69 (kk := ?_)
  refine J_get C0 iX0 1 0 1 f41 dX4_countNumber_72 (kk := ?_)
  exact J_iret C0 hF dX4_countNumber_75 ⟨rfl, rfl⟩

set_option maxHeartbeats 4000000 in
set_option maxRecDepth 100000 in
theorem mX4_countNumber_2 (l : Launch) (K : KT) (b nA aA : Nat → Nat) (d e : Nat → Nat → Nat) (F Ga : FF) (D S : Nat → FF) (T : FF) : Ct l K yX4_countNumber wsX4_countNumber rmX4_countNumber [.ref (b 0), .int (nI 2)] (corkW K b nA aA d e F Ga D S T) (some (.int (countC F T 2))) (corkW K b nA aA d e F Ga D S T) := by
  refine CtP_of (cc := cX4_countNumber) (nL := 2) (rt := some .int) (own := RX4) (lv0 := [(0, .ref (b 0)), (1, .int (nI 2))]) (by decide) rfl (Nat.le_of_ble_eq_true rfl) rfl rfl ?_
  intro G C0 hF _
  have f12 : Cond.fieldLink RX4 12 "CorkPermits" "now" "LCorkPermits$Cellar;" ∈ wsX4_countNumber := by decide +kernel
  have iX4 : ∀ w ∈ u_ws RX4 TX4 6, w ∈ wsX4_countNumber := by decide +kernel
  have f88 : Cond.fieldLink RX4 88 "CorkPermits$Cellar" "post" "LCorkPermits$Post;" ∈ wsX4_countNumber := by decide +kernel
  have iX0 : ∀ w ∈ u_ws RX0 TX0 14, w ∈ wsX4_countNumber := by decide +kernel
  have f101 : Cond.fieldLink RX4 101 "CorkPermits$Post" "underWay" "I" ∈ wsX4_countNumber := by decide +kernel
  have iX3 : ∀ w ∈ u_ws RX3 TX3 7, w ∈ wsX4_countNumber := by decide +kernel
  refine J_iln C0 1 dX4_countNumber_0 (kk := ?_)
  refine J_tin C0 76 dX4_countNumber_1 (kk := ?_)
  refine J_aln C0 0 dX4_countNumber_76 (kk := ?_)
  refine J_get C0 iX4 0 0 0 f12 dX4_countNumber_77 (kk := ?_)
  refine J_get C0 iX0 1 0 13 f88 dX4_countNumber_80 (kk := ?_)
  refine J_get C0 iX3 1 12 2 f101 dX4_countNumber_83 (kk := ?_)
  exact J_iret C0 hF dX4_countNumber_86 ⟨rfl, rfl⟩

set_option maxHeartbeats 4000000 in
set_option maxRecDepth 100000 in
theorem mX4_countNumber_3 (l : Launch) (K : KT) (b nA aA : Nat → Nat) (d e : Nat → Nat → Nat) (F Ga : FF) (D S : Nat → FF) (T : FF) : Ct l K yX4_countNumber wsX4_countNumber rmX4_countNumber [.ref (b 0), .int (nI 3)] (corkW K b nA aA d e F Ga D S T) (some (.int (countC F T 3))) (corkW K b nA aA d e F Ga D S T) := by
  refine CtP_of (cc := cX4_countNumber) (nL := 2) (rt := some .int) (own := RX4) (lv0 := [(0, .ref (b 0)), (1, .int (nI 3))]) (by decide) rfl (Nat.le_of_ble_eq_true rfl) rfl rfl ?_
  intro G C0 hF _
  have f12 : Cond.fieldLink RX4 12 "CorkPermits" "now" "LCorkPermits$Cellar;" ∈ wsX4_countNumber := by decide +kernel
  have iX4 : ∀ w ∈ u_ws RX4 TX4 6, w ∈ wsX4_countNumber := by decide +kernel
  have f88 : Cond.fieldLink RX4 88 "CorkPermits$Cellar" "post" "LCorkPermits$Post;" ∈ wsX4_countNumber := by decide +kernel
  have iX0 : ∀ w ∈ u_ws RX0 TX0 14, w ∈ wsX4_countNumber := by decide +kernel
  have f266 : Cond.fieldLink RX4 266 "CorkPermits$Post" "sent" "I" ∈ wsX4_countNumber := by decide +kernel
  have iX3 : ∀ w ∈ u_ws RX3 TX3 7, w ∈ wsX4_countNumber := by decide +kernel
  refine J_iln C0 1 dX4_countNumber_0 (kk := ?_)
  refine J_tin C0 87 dX4_countNumber_1 (kk := ?_)
  refine J_aln C0 0 dX4_countNumber_87 (kk := ?_)
  refine J_get C0 iX4 0 0 0 f12 dX4_countNumber_88 (kk := ?_)
  refine J_get C0 iX0 1 0 13 f88 dX4_countNumber_91 (kk := ?_)
  refine J_get C0 iX3 1 12 0 f266 dX4_countNumber_94 (kk := ?_)
  exact J_iret C0 hF dX4_countNumber_97 ⟨rfl, rfl⟩

set_option maxHeartbeats 4000000 in
set_option maxRecDepth 100000 in
theorem mX4_countNumber_4 (l : Launch) (K : KT) (b nA aA : Nat → Nat) (d e : Nat → Nat → Nat) (F Ga : FF) (D S : Nat → FF) (T : FF) : Ct l K yX4_countNumber wsX4_countNumber rmX4_countNumber [.ref (b 0), .int (nI 4)] (corkW K b nA aA d e F Ga D S T) (some (.int (countC F T 4))) (corkW K b nA aA d e F Ga D S T) := by
  refine CtP_of (cc := cX4_countNumber) (nL := 2) (rt := some .int) (own := RX4) (lv0 := [(0, .ref (b 0)), (1, .int (nI 4))]) (by decide) rfl (Nat.le_of_ble_eq_true rfl) rfl rfl ?_
  intro G C0 hF _
  have f12 : Cond.fieldLink RX4 12 "CorkPermits" "now" "LCorkPermits$Cellar;" ∈ wsX4_countNumber := by decide +kernel
  have iX4 : ∀ w ∈ u_ws RX4 TX4 6, w ∈ wsX4_countNumber := by decide +kernel
  have f88 : Cond.fieldLink RX4 88 "CorkPermits$Cellar" "post" "LCorkPermits$Post;" ∈ wsX4_countNumber := by decide +kernel
  have iX0 : ∀ w ∈ u_ws RX0 TX0 14, w ∈ wsX4_countNumber := by decide +kernel
  have f269 : Cond.fieldLink RX4 269 "CorkPermits$Post" "lost" "I" ∈ wsX4_countNumber := by decide +kernel
  have iX3 : ∀ w ∈ u_ws RX3 TX3 7, w ∈ wsX4_countNumber := by decide +kernel
  refine J_iln C0 1 dX4_countNumber_0 (kk := ?_)
  refine J_tin C0 98 dX4_countNumber_1 (kk := ?_)
  refine J_aln C0 0 dX4_countNumber_98 (kk := ?_)
  refine J_get C0 iX4 0 0 0 f12 dX4_countNumber_99 (kk := ?_)
  refine J_get C0 iX0 1 0 13 f88 dX4_countNumber_102 (kk := ?_)
  refine J_get C0 iX3 1 12 1 f269 dX4_countNumber_105 (kk := ?_)
  exact J_iret C0 hF dX4_countNumber_108 ⟨rfl, rfl⟩

set_option maxHeartbeats 4000000 in
set_option maxRecDepth 100000 in
theorem mX4_countNumber_5 (l : Launch) (K : KT) (b nA aA : Nat → Nat) (d e : Nat → Nat → Nat) (F Ga : FF) (D S : Nat → FF) (T : FF) : Ct l K yX4_countNumber wsX4_countNumber rmX4_countNumber [.ref (b 0), .int (nI 5)] (corkW K b nA aA d e F Ga D S T) (some (.int (countC F T 5))) (corkW K b nA aA d e F Ga D S T) := by
  refine CtP_of (cc := cX4_countNumber) (nL := 2) (rt := some .int) (own := RX4) (lv0 := [(0, .ref (b 0)), (1, .int (nI 5))]) (by decide) rfl (Nat.le_of_ble_eq_true rfl) rfl rfl ?_
  intro G C0 hF _
  have f12 : Cond.fieldLink RX4 12 "CorkPermits" "now" "LCorkPermits$Cellar;" ∈ wsX4_countNumber := by decide +kernel
  have iX4 : ∀ w ∈ u_ws RX4 TX4 6, w ∈ wsX4_countNumber := by decide +kernel
  have f119 : Cond.fieldLink RX4 119 "CorkPermits$Cellar" "poured" "[I" ∈ wsX4_countNumber := by decide +kernel
  have iX0 : ∀ w ∈ u_ws RX0 TX0 14, w ∈ wsX4_countNumber := by decide +kernel
  refine J_iln C0 1 dX4_countNumber_0 (kk := ?_)
  refine J_tin C0 109 dX4_countNumber_1 (kk := ?_)
  refine J_aln C0 0 dX4_countNumber_109 (kk := ?_)
  refine J_get C0 iX4 0 0 0 f12 dX4_countNumber_110 (kk := ?_)
  refine J_get C0 iX0 1 0 11 f119 dX4_countNumber_113 (kk := ?_)
  refine J_perm (permI [0, 2, 3, 4, 5, 6, 7, 8, 9, 10, 1] 11 rfl (by decide +kernel) rfl : List.Perm _ ([mainW K b (nA 0) (aA 0) (fun i => some (d i 0)) (fun i => some (e i 0)) T, celW K aA Ga, celW K (d 0) (D 0), celW K (d 1) (D 1), celW K (e 0) (S 0), celW K (e 1) (S 1), celW K (e 2) (S 2), celW K (e 3) (S 3), celW K (e 4) (S 4), celW K (e 5) (S 5), celW K nA F])) ?_
  refine J_callSd C0 (mX4_total l K (blk := celW K nA F) (k := 10) (ad := nA 10) (n := 12) (f := F 10) rfl (by omega)) [mainW K b (nA 0) (aA 0) (fun i => some (d i 0)) (fun i => some (e i 0)) T, celW K aA Ga, celW K (d 0) (D 0), celW K (d 1) (D 1), celW K (e 0) (S 0), celW K (e 1) (S 1), celW K (e 2) (S 2), celW K (e 3) (S 3), celW K (e 4) (S 4), celW K (e 5) (S 5)] [mainW K b (nA 0) (aA 0) (fun i => some (d i 0)) (fun i => some (e i 0)) T, celW K aA Ga, celW K (d 0) (D 0), celW K (d 1) (D 1), celW K (e 0) (S 0), celW K (e 1) (S 1), celW K (e 2) (S 2), celW K (e 3) (S 3), celW K (e 4) (S 4), celW K (e 5) (S 5), celW K nA F] gX4_countNumber_X4_total dX4_countNumber_116 1 (kk := ?_)
  refine J_perm (permI [0, 10, 1, 2, 3, 4, 5, 6, 7, 8, 9] 11 rfl (by decide +kernel) rfl : List.Perm _ (corkW K b nA aA d e F Ga D S T)) ?_
  show J G _ _ _ _ _ [.int (sumS (F 10) 12)]
  exact J_iret C0 hF dX4_countNumber_119 ⟨rfl, rfl⟩

set_option maxHeartbeats 4000000 in
set_option maxRecDepth 100000 in
theorem mX4_countNumber_6 (l : Launch) (K : KT) (b nA aA : Nat → Nat) (d e : Nat → Nat → Nat) (F Ga : FF) (D S : Nat → FF) (T : FF) : Ct l K yX4_countNumber wsX4_countNumber rmX4_countNumber [.ref (b 0), .int (nI 6)] (corkW K b nA aA d e F Ga D S T) (some (.int (countC F T 6))) (corkW K b nA aA d e F Ga D S T) := by
  refine CtP_of (cc := cX4_countNumber) (nL := 2) (rt := some .int) (own := RX4) (lv0 := [(0, .ref (b 0)), (1, .int (nI 6))]) (by decide) rfl (Nat.le_of_ble_eq_true rfl) rfl rfl ?_
  intro G C0 hF _
  have f12 : Cond.fieldLink RX4 12 "CorkPermits" "now" "LCorkPermits$Cellar;" ∈ wsX4_countNumber := by decide +kernel
  have iX4 : ∀ w ∈ u_ws RX4 TX4 6, w ∈ wsX4_countNumber := by decide +kernel
  have f199 : Cond.fieldLink RX4 199 "CorkPermits$Cellar" "arrived" "[I" ∈ wsX4_countNumber := by decide +kernel
  have iX0 : ∀ w ∈ u_ws RX0 TX0 14, w ∈ wsX4_countNumber := by decide +kernel
  refine J_iln C0 1 dX4_countNumber_0 (kk := ?_)
  refine J_tin C0 120 dX4_countNumber_1 (kk := ?_)
  refine J_aln C0 0 dX4_countNumber_120 (kk := ?_)
  refine J_get C0 iX4 0 0 0 f12 dX4_countNumber_121 (kk := ?_)
  refine J_get C0 iX0 1 0 6 f199 dX4_countNumber_124 (kk := ?_)
  refine J_perm (permI [0, 2, 3, 4, 5, 6, 7, 8, 9, 10, 1] 11 rfl (by decide +kernel) rfl : List.Perm _ ([mainW K b (nA 0) (aA 0) (fun i => some (d i 0)) (fun i => some (e i 0)) T, celW K aA Ga, celW K (d 0) (D 0), celW K (d 1) (D 1), celW K (e 0) (S 0), celW K (e 1) (S 1), celW K (e 2) (S 2), celW K (e 3) (S 3), celW K (e 4) (S 4), celW K (e 5) (S 5), celW K nA F])) ?_
  refine J_callSd C0 (mX4_total l K (blk := celW K nA F) (k := 5) (ad := nA 5) (n := 3) (f := F 5) rfl (by omega)) [mainW K b (nA 0) (aA 0) (fun i => some (d i 0)) (fun i => some (e i 0)) T, celW K aA Ga, celW K (d 0) (D 0), celW K (d 1) (D 1), celW K (e 0) (S 0), celW K (e 1) (S 1), celW K (e 2) (S 2), celW K (e 3) (S 3), celW K (e 4) (S 4), celW K (e 5) (S 5)] [mainW K b (nA 0) (aA 0) (fun i => some (d i 0)) (fun i => some (e i 0)) T, celW K aA Ga, celW K (d 0) (D 0), celW K (d 1) (D 1), celW K (e 0) (S 0), celW K (e 1) (S 1), celW K (e 2) (S 2), celW K (e 3) (S 3), celW K (e 4) (S 4), celW K (e 5) (S 5), celW K nA F] gX4_countNumber_X4_total dX4_countNumber_127 1 (kk := ?_)
  refine J_perm (permI [0, 10, 1, 2, 3, 4, 5, 6, 7, 8, 9] 11 rfl (by decide +kernel) rfl : List.Perm _ (corkW K b nA aA d e F Ga D S T)) ?_
  show J G _ _ _ _ _ [.int (sumS (F 5) 3)]
  exact J_iret C0 hF dX4_countNumber_130 ⟨rfl, rfl⟩

set_option maxHeartbeats 4000000 in
set_option maxRecDepth 100000 in
theorem mX4_countNumber_7 (l : Launch) (K : KT) (b nA aA : Nat → Nat) (d e : Nat → Nat → Nat) (F Ga : FF) (D S : Nat → FF) (T : FF) : Ct l K yX4_countNumber wsX4_countNumber rmX4_countNumber [.ref (b 0), .int (nI 7)] (corkW K b nA aA d e F Ga D S T) (some (.int (countC F T 7))) (corkW K b nA aA d e F Ga D S T) := by
  refine CtP_of (cc := cX4_countNumber) (nL := 2) (rt := some .int) (own := RX4) (lv0 := [(0, .ref (b 0)), (1, .int (nI 7))]) (by decide) rfl (Nat.le_of_ble_eq_true rfl) rfl rfl ?_
  intro G C0 hF _
  have f12 : Cond.fieldLink RX4 12 "CorkPermits" "now" "LCorkPermits$Cellar;" ∈ wsX4_countNumber := by decide +kernel
  have iX4 : ∀ w ∈ u_ws RX4 TX4 6, w ∈ wsX4_countNumber := by decide +kernel
  have f272 : Cond.fieldLink RX4 272 "CorkPermits$Cellar" "knownLost" "[I" ∈ wsX4_countNumber := by decide +kernel
  have iX0 : ∀ w ∈ u_ws RX0 TX0 14, w ∈ wsX4_countNumber := by decide +kernel
  refine J_iln C0 1 dX4_countNumber_0 (kk := ?_)
  refine J_tin C0 131 dX4_countNumber_1 (kk := ?_)
  refine J_aln C0 0 dX4_countNumber_131 (kk := ?_)
  refine J_get C0 iX4 0 0 0 f12 dX4_countNumber_132 (kk := ?_)
  refine J_get C0 iX0 1 0 7 f272 dX4_countNumber_135 (kk := ?_)
  refine J_perm (permI [0, 2, 3, 4, 5, 6, 7, 8, 9, 10, 1] 11 rfl (by decide +kernel) rfl : List.Perm _ ([mainW K b (nA 0) (aA 0) (fun i => some (d i 0)) (fun i => some (e i 0)) T, celW K aA Ga, celW K (d 0) (D 0), celW K (d 1) (D 1), celW K (e 0) (S 0), celW K (e 1) (S 1), celW K (e 2) (S 2), celW K (e 3) (S 3), celW K (e 4) (S 4), celW K (e 5) (S 5), celW K nA F])) ?_
  refine J_callSd C0 (mX4_total l K (blk := celW K nA F) (k := 6) (ad := nA 6) (n := 3) (f := F 6) rfl (by omega)) [mainW K b (nA 0) (aA 0) (fun i => some (d i 0)) (fun i => some (e i 0)) T, celW K aA Ga, celW K (d 0) (D 0), celW K (d 1) (D 1), celW K (e 0) (S 0), celW K (e 1) (S 1), celW K (e 2) (S 2), celW K (e 3) (S 3), celW K (e 4) (S 4), celW K (e 5) (S 5)] [mainW K b (nA 0) (aA 0) (fun i => some (d i 0)) (fun i => some (e i 0)) T, celW K aA Ga, celW K (d 0) (D 0), celW K (d 1) (D 1), celW K (e 0) (S 0), celW K (e 1) (S 1), celW K (e 2) (S 2), celW K (e 3) (S 3), celW K (e 4) (S 4), celW K (e 5) (S 5), celW K nA F] gX4_countNumber_X4_total dX4_countNumber_138 1 (kk := ?_)
  refine J_perm (permI [0, 10, 1, 2, 3, 4, 5, 6, 7, 8, 9] 11 rfl (by decide +kernel) rfl : List.Perm _ (corkW K b nA aA d e F Ga D S T)) ?_
  show J G _ _ _ _ _ [.int (sumS (F 6) 3)]
  exact J_iret C0 hF dX4_countNumber_141 ⟨rfl, rfl⟩

set_option maxHeartbeats 4000000 in
set_option maxRecDepth 100000 in
theorem mX4_countNumber_8 (l : Launch) (K : KT) (b nA aA : Nat → Nat) (d e : Nat → Nat → Nat) (F Ga : FF) (D S : Nat → FF) (T : FF) : Ct l K yX4_countNumber wsX4_countNumber rmX4_countNumber [.ref (b 0), .int (nI 8)] (corkW K b nA aA d e F Ga D S T) (some (.int (countC F T 8))) (corkW K b nA aA d e F Ga D S T) := by
  refine CtP_of (cc := cX4_countNumber) (nL := 2) (rt := some .int) (own := RX4) (lv0 := [(0, .ref (b 0)), (1, .int (nI 8))]) (by decide) rfl (Nat.le_of_ble_eq_true rfl) rfl rfl ?_
  intro G C0 hF _
  have f12 : Cond.fieldLink RX4 12 "CorkPermits" "now" "LCorkPermits$Cellar;" ∈ wsX4_countNumber := by decide +kernel
  have iX4 : ∀ w ∈ u_ws RX4 TX4 6, w ∈ wsX4_countNumber := by decide +kernel
  have f107 : Cond.fieldLink RX4 107 "CorkPermits$Cellar" "waiting" "[I" ∈ wsX4_countNumber := by decide +kernel
  have iX0 : ∀ w ∈ u_ws RX0 TX0 14, w ∈ wsX4_countNumber := by decide +kernel
  refine J_iln C0 1 dX4_countNumber_0 (kk := ?_)
  refine J_tin C0 142 dX4_countNumber_1 (kk := ?_)
  refine J_aln C0 0 dX4_countNumber_142 (kk := ?_)
  refine J_get C0 iX4 0 0 0 f12 dX4_countNumber_143 (kk := ?_)
  refine J_get C0 iX0 1 0 12 f107 dX4_countNumber_146 (kk := ?_)
  refine J_perm (permI [0, 2, 3, 4, 5, 6, 7, 8, 9, 10, 1] 11 rfl (by decide +kernel) rfl : List.Perm _ ([mainW K b (nA 0) (aA 0) (fun i => some (d i 0)) (fun i => some (e i 0)) T, celW K aA Ga, celW K (d 0) (D 0), celW K (d 1) (D 1), celW K (e 0) (S 0), celW K (e 1) (S 1), celW K (e 2) (S 2), celW K (e 3) (S 3), celW K (e 4) (S 4), celW K (e 5) (S 5), celW K nA F])) ?_
  refine J_callSd C0 (mX4_total l K (blk := celW K nA F) (k := 11) (ad := nA 11) (n := 12) (f := F 11) rfl (by omega)) [mainW K b (nA 0) (aA 0) (fun i => some (d i 0)) (fun i => some (e i 0)) T, celW K aA Ga, celW K (d 0) (D 0), celW K (d 1) (D 1), celW K (e 0) (S 0), celW K (e 1) (S 1), celW K (e 2) (S 2), celW K (e 3) (S 3), celW K (e 4) (S 4), celW K (e 5) (S 5)] [mainW K b (nA 0) (aA 0) (fun i => some (d i 0)) (fun i => some (e i 0)) T, celW K aA Ga, celW K (d 0) (D 0), celW K (d 1) (D 1), celW K (e 0) (S 0), celW K (e 1) (S 1), celW K (e 2) (S 2), celW K (e 3) (S 3), celW K (e 4) (S 4), celW K (e 5) (S 5), celW K nA F] gX4_countNumber_X4_total dX4_countNumber_149 1 (kk := ?_)
  refine J_perm (permI [0, 10, 1, 2, 3, 4, 5, 6, 7, 8, 9] 11 rfl (by decide +kernel) rfl : List.Perm _ (corkW K b nA aA d e F Ga D S T)) ?_
  show J G _ _ _ _ _ [.int (sumS (F 11) 12)]
  exact J_iret C0 hF dX4_countNumber_152 ⟨rfl, rfl⟩

set_option maxHeartbeats 4000000 in
set_option maxRecDepth 100000 in
theorem mX4_countNumber_9 (l : Launch) (K : KT) (b nA aA : Nat → Nat) (d e : Nat → Nat → Nat) (F Ga : FF) (D S : Nat → FF) (T : FF) : Ct l K yX4_countNumber wsX4_countNumber rmX4_countNumber [.ref (b 0), .int (nI 9)] (corkW K b nA aA d e F Ga D S T) (some (.int (countC F T 9))) (corkW K b nA aA d e F Ga D S T) := by
  refine CtP_of (cc := cX4_countNumber) (nL := 2) (rt := some .int) (own := RX4) (lv0 := [(0, .ref (b 0)), (1, .int (nI 9))]) (by decide) rfl (Nat.le_of_ble_eq_true rfl) rfl rfl ?_
  intro G C0 hF _
  have f12 : Cond.fieldLink RX4 12 "CorkPermits" "now" "LCorkPermits$Cellar;" ∈ wsX4_countNumber := by decide +kernel
  have iX4 : ∀ w ∈ u_ws RX4 TX4 6, w ∈ wsX4_countNumber := by decide +kernel
  have f59 : Cond.fieldLink RX4 59 "CorkPermits$Cellar" "full" "[I" ∈ wsX4_countNumber := by decide +kernel
  have iX0 : ∀ w ∈ u_ws RX0 TX0 14, w ∈ wsX4_countNumber := by decide +kernel
  refine J_iln C0 1 dX4_countNumber_0 (kk := ?_)
  refine J_tin C0 153 dX4_countNumber_1 (kk := ?_)
  refine J_aln C0 0 dX4_countNumber_153 (kk := ?_)
  refine J_get C0 iX4 0 0 0 f12 dX4_countNumber_154 (kk := ?_)
  refine J_get C0 iX0 1 0 4 f59 dX4_countNumber_157 (kk := ?_)
  refine J_perm (permI [0, 2, 3, 4, 5, 6, 7, 8, 9, 10, 1] 11 rfl (by decide +kernel) rfl : List.Perm _ ([mainW K b (nA 0) (aA 0) (fun i => some (d i 0)) (fun i => some (e i 0)) T, celW K aA Ga, celW K (d 0) (D 0), celW K (d 1) (D 1), celW K (e 0) (S 0), celW K (e 1) (S 1), celW K (e 2) (S 2), celW K (e 3) (S 3), celW K (e 4) (S 4), celW K (e 5) (S 5), celW K nA F])) ?_
  refine J_callSd C0 (mX4_total l K (blk := celW K nA F) (k := 3) (ad := nA 3) (n := 3) (f := F 3) rfl (by omega)) [mainW K b (nA 0) (aA 0) (fun i => some (d i 0)) (fun i => some (e i 0)) T, celW K aA Ga, celW K (d 0) (D 0), celW K (d 1) (D 1), celW K (e 0) (S 0), celW K (e 1) (S 1), celW K (e 2) (S 2), celW K (e 3) (S 3), celW K (e 4) (S 4), celW K (e 5) (S 5)] [mainW K b (nA 0) (aA 0) (fun i => some (d i 0)) (fun i => some (e i 0)) T, celW K aA Ga, celW K (d 0) (D 0), celW K (d 1) (D 1), celW K (e 0) (S 0), celW K (e 1) (S 1), celW K (e 2) (S 2), celW K (e 3) (S 3), celW K (e 4) (S 4), celW K (e 5) (S 5), celW K nA F] gX4_countNumber_X4_total dX4_countNumber_160 1 (kk := ?_)
  refine J_perm (permI [0, 10, 1, 2, 3, 4, 5, 6, 7, 8, 9] 11 rfl (by decide +kernel) rfl : List.Perm _ (corkW K b nA aA d e F Ga D S T)) ?_
  show J G _ _ _ _ _ [.int (sumS (F 3) 3)]
  exact J_iret C0 hF dX4_countNumber_163 ⟨rfl, rfl⟩

set_option maxHeartbeats 4000000 in
set_option maxRecDepth 100000 in
theorem mX4_countNumber_10 (l : Launch) (K : KT) (b nA aA : Nat → Nat) (d e : Nat → Nat → Nat) (F Ga : FF) (D S : Nat → FF) (T : FF) : Ct l K yX4_countNumber wsX4_countNumber rmX4_countNumber [.ref (b 0), .int (nI 10)] (corkW K b nA aA d e F Ga D S T) (some (.int (countC F T 10))) (corkW K b nA aA d e F Ga D S T) := by
  refine CtP_of (cc := cX4_countNumber) (nL := 2) (rt := some .int) (own := RX4) (lv0 := [(0, .ref (b 0)), (1, .int (nI 10))]) (by decide) rfl (Nat.le_of_ble_eq_true rfl) rfl rfl ?_
  intro G C0 hF _
  have f12 : Cond.fieldLink RX4 12 "CorkPermits" "now" "LCorkPermits$Cellar;" ∈ wsX4_countNumber := by decide +kernel
  have iX4 : ∀ w ∈ u_ws RX4 TX4 6, w ∈ wsX4_countNumber := by decide +kernel
  have f275 : Cond.fieldLink RX4 275 "CorkPermits$Cellar" "lent" "[I" ∈ wsX4_countNumber := by decide +kernel
  have iX0 : ∀ w ∈ u_ws RX0 TX0 14, w ∈ wsX4_countNumber := by decide +kernel
  have f193 : Cond.fieldLink RX4 193 "CorkPermits$Cellar" "accounted" "[I" ∈ wsX4_countNumber := by decide +kernel
  refine J_iln C0 1 dX4_countNumber_0 (kk := ?_)
  refine J_tin C0 164 dX4_countNumber_1 (kk := ?_)
  refine J_aln C0 0 dX4_countNumber_164 (kk := ?_)
  refine J_get C0 iX4 0 0 0 f12 dX4_countNumber_165 (kk := ?_)
  refine J_get C0 iX0 1 0 8 f275 dX4_countNumber_168 (kk := ?_)
  refine J_perm (permI [0, 2, 3, 4, 5, 6, 7, 8, 9, 10, 1] 11 rfl (by decide +kernel) rfl : List.Perm _ ([mainW K b (nA 0) (aA 0) (fun i => some (d i 0)) (fun i => some (e i 0)) T, celW K aA Ga, celW K (d 0) (D 0), celW K (d 1) (D 1), celW K (e 0) (S 0), celW K (e 1) (S 1), celW K (e 2) (S 2), celW K (e 3) (S 3), celW K (e 4) (S 4), celW K (e 5) (S 5), celW K nA F])) ?_
  refine J_callSd C0 (mX4_total l K (blk := celW K nA F) (k := 7) (ad := nA 7) (n := 12) (f := F 7) rfl (by omega)) [mainW K b (nA 0) (aA 0) (fun i => some (d i 0)) (fun i => some (e i 0)) T, celW K aA Ga, celW K (d 0) (D 0), celW K (d 1) (D 1), celW K (e 0) (S 0), celW K (e 1) (S 1), celW K (e 2) (S 2), celW K (e 3) (S 3), celW K (e 4) (S 4), celW K (e 5) (S 5)] [mainW K b (nA 0) (aA 0) (fun i => some (d i 0)) (fun i => some (e i 0)) T, celW K aA Ga, celW K (d 0) (D 0), celW K (d 1) (D 1), celW K (e 0) (S 0), celW K (e 1) (S 1), celW K (e 2) (S 2), celW K (e 3) (S 3), celW K (e 4) (S 4), celW K (e 5) (S 5), celW K nA F] gX4_countNumber_X4_total dX4_countNumber_171 1 (kk := ?_)
  refine J_perm (permI [0, 10, 1, 2, 3, 4, 5, 6, 7, 8, 9] 11 rfl (by decide +kernel) rfl : List.Perm _ (corkW K b nA aA d e F Ga D S T)) ?_
  show J G _ _ _ _ _ [.int (sumS (F 7) 12)]
  refine J_aln C0 0 dX4_countNumber_174 (kk := ?_)
  refine J_get C0 iX4 0 0 0 f12 dX4_countNumber_175 (kk := ?_)
  refine J_get C0 iX0 1 0 9 f193 dX4_countNumber_178 (kk := ?_)
  refine J_perm (permI [0, 2, 3, 4, 5, 6, 7, 8, 9, 10, 1] 11 rfl (by decide +kernel) rfl : List.Perm _ ([mainW K b (nA 0) (aA 0) (fun i => some (d i 0)) (fun i => some (e i 0)) T, celW K aA Ga, celW K (d 0) (D 0), celW K (d 1) (D 1), celW K (e 0) (S 0), celW K (e 1) (S 1), celW K (e 2) (S 2), celW K (e 3) (S 3), celW K (e 4) (S 4), celW K (e 5) (S 5), celW K nA F])) ?_
  refine J_callSd C0 (mX4_total l K (blk := celW K nA F) (k := 8) (ad := nA 8) (n := 12) (f := F 8) rfl (by omega)) [mainW K b (nA 0) (aA 0) (fun i => some (d i 0)) (fun i => some (e i 0)) T, celW K aA Ga, celW K (d 0) (D 0), celW K (d 1) (D 1), celW K (e 0) (S 0), celW K (e 1) (S 1), celW K (e 2) (S 2), celW K (e 3) (S 3), celW K (e 4) (S 4), celW K (e 5) (S 5)] [mainW K b (nA 0) (aA 0) (fun i => some (d i 0)) (fun i => some (e i 0)) T, celW K aA Ga, celW K (d 0) (D 0), celW K (d 1) (D 1), celW K (e 0) (S 0), celW K (e 1) (S 1), celW K (e 2) (S 2), celW K (e 3) (S 3), celW K (e 4) (S 4), celW K (e 5) (S 5), celW K nA F] gX4_countNumber_X4_total dX4_countNumber_181 1 (kk := ?_)
  refine J_perm (permI [0, 10, 1, 2, 3, 4, 5, 6, 7, 8, 9] 11 rfl (by decide +kernel) rfl : List.Perm _ (corkW K b nA aA d e F Ga D S T)) ?_
  show J G _ _ _ _ _ [.int (sumS (F 8) 12), .int (sumS (F 7) 12)]
  refine J_isub C0 dX4_countNumber_184 ?_
  exact J_iret C0 hF dX4_countNumber_185 ⟨rfl, rfl⟩

set_option maxHeartbeats 4000000 in
set_option maxRecDepth 100000 in
theorem mX4_countNumber_11 (l : Launch) (K : KT) (b nA aA : Nat → Nat) (d e : Nat → Nat → Nat) (F Ga : FF) (D S : Nat → FF) (T : FF) : Ct l K yX4_countNumber wsX4_countNumber rmX4_countNumber [.ref (b 0), .int (nI 11)] (corkW K b nA aA d e F Ga D S T) (some (.int (countC F T 11))) (corkW K b nA aA d e F Ga D S T) := by
  refine CtP_of (cc := cX4_countNumber) (nL := 2) (rt := some .int) (own := RX4) (lv0 := [(0, .ref (b 0)), (1, .int (nI 11))]) (by decide) rfl (Nat.le_of_ble_eq_true rfl) rfl rfl ?_
  intro G C0 hF _
  have f30 : Cond.fieldLink RX4 30 "CorkPermits" "history" "LCorkPermits$History;" ∈ wsX4_countNumber := by decide +kernel
  have iX4 : ∀ w ∈ u_ws RX4 TX4 6, w ∈ wsX4_countNumber := by decide +kernel
  have f166 : Cond.fieldLink RX4 166 "CorkPermits$History" "size" "I" ∈ wsX4_countNumber := by decide +kernel
  have iX2 : ∀ w ∈ u_ws RX2 TX2 2, w ∈ wsX4_countNumber := by decide +kernel
  refine J_iln C0 1 dX4_countNumber_0 (kk := ?_)
  refine J_tout C0 186 dX4_countNumber_1 (by decide) (kk := ?_)
  refine J_aln C0 0 dX4_countNumber_186 (kk := ?_)
  refine J_get C0 iX4 0 0 4 f30 dX4_countNumber_187 (kk := ?_)
  refine J_get C0 iX2 0 3 1 f166 dX4_countNumber_190 (kk := ?_)
  exact J_iret C0 hF dX4_countNumber_193 ⟨rfl, rfl⟩

theorem mX4_countNumber (l : Launch) (K : KT) (b nA aA : Nat → Nat) (d e : Nat → Nat → Nat) (F Ga : FF) (D S : Nat → FF) (T : FF) {w : Nat} (hw : w < 12) : Ct l K yX4_countNumber wsX4_countNumber rmX4_countNumber [.ref (b 0), .int (nI w)] (corkW K b nA aA d e F Ga D S T) (some (.int (countC F T w))) (corkW K b nA aA d e F Ga D S T) := by
  rcases (show w = 0 ∨ w = 1 ∨ w = 2 ∨ w = 3 ∨ w = 4 ∨ w = 5 ∨ w = 6 ∨ w = 7 ∨ w = 8 ∨ w = 9 ∨ w = 10 ∨ w = 11 by omega) with rfl | rfl | rfl | rfl | rfl | rfl | rfl | rfl | rfl | rfl | rfl | rfl
  · exact mX4_countNumber_0 l K b nA aA d e F Ga D S T
  · exact mX4_countNumber_1 l K b nA aA d e F Ga D S T
  · exact mX4_countNumber_2 l K b nA aA d e F Ga D S T
  · exact mX4_countNumber_3 l K b nA aA d e F Ga D S T
  · exact mX4_countNumber_4 l K b nA aA d e F Ga D S T
  · exact mX4_countNumber_5 l K b nA aA d e F Ga D S T
  · exact mX4_countNumber_6 l K b nA aA d e F Ga D S T
  · exact mX4_countNumber_7 l K b nA aA d e F Ga D S T
  · exact mX4_countNumber_8 l K b nA aA d e F Ga D S T
  · exact mX4_countNumber_9 l K b nA aA d e F Ga D S T
  · exact mX4_countNumber_10 l K b nA aA d e F Ga D S T
  · exact mX4_countNumber_11 l K b nA aA d e F Ga D S T
def foreC (F Ga : FF) : Nat → Int32
  | 0 => sumS (Ga 10) 12 - sumS (F 10) 12
  | 1 => sumS (Ga 5) 3 - sumS (F 5) 3
  | 2 => sumS (Ga 11) 12
  | _ => Ga 0 3 - F 0 3
abbrev rmX4_forecastNumber : Room := { frames := 1, cells := 0, slots := 0, locals := 25 }
set_option maxHeartbeats 4000000 in
set_option maxRecDepth 100000 in
theorem mX4_forecastNumber_0 (l : Launch) (K : KT) (b nA aA : Nat → Nat) (d e : Nat → Nat → Nat) (F Ga : FF) (D S : Nat → FF) (T : FF) : Ct l K yX4_forecastNumber wsX4_forecastNumber rmX4_forecastNumber [.ref (b 0), .int (nI 0)] (corkW K b nA aA d e F Ga D S T) (some (.int (foreC F Ga 0))) (corkW K b nA aA d e F Ga D S T) := by
  refine CtP_of (cc := cX4_forecastNumber) (nL := 2) (rt := some .int) (own := RX4) (lv0 := [(0, .ref (b 0)), (1, .int (nI 0))]) (by decide) rfl (Nat.le_of_ble_eq_true rfl) rfl rfl ?_
  intro G C0 hF _
  have f16 : Cond.fieldLink RX4 16 "CorkPermits" "ahead" "LCorkPermits$Cellar;" ∈ wsX4_forecastNumber := by decide +kernel
  have iX4 : ∀ w ∈ u_ws RX4 TX4 6, w ∈ wsX4_forecastNumber := by decide +kernel
  have f119 : Cond.fieldLink RX4 119 "CorkPermits$Cellar" "poured" "[I" ∈ wsX4_forecastNumber := by decide +kernel
  have iX0 : ∀ w ∈ u_ws RX0 TX0 14, w ∈ wsX4_forecastNumber := by decide +kernel
  have f12 : Cond.fieldLink RX4 12 "CorkPermits" "now" "LCorkPermits$Cellar;" ∈ wsX4_forecastNumber := by decide +kernel
  refine J_iln C0 1 dX4_forecastNumber_0 (kk := ?_)
  refine J_tin C0 28 dX4_forecastNumber_1 (kk := ?_)
  refine J_aln C0 0 dX4_forecastNumber_28 (kk := ?_)
  refine J_get C0 iX4 0 0 1 f16 dX4_forecastNumber_29 (kk := ?_)
  refine J_get C0 iX0 2 0 11 f119 dX4_forecastNumber_32 (kk := ?_)
  refine J_perm (permI [0, 1, 3, 4, 5, 6, 7, 8, 9, 10, 2] 11 rfl (by decide +kernel) rfl : List.Perm _ ([mainW K b (nA 0) (aA 0) (fun i => some (d i 0)) (fun i => some (e i 0)) T, celW K nA F, celW K (d 0) (D 0), celW K (d 1) (D 1), celW K (e 0) (S 0), celW K (e 1) (S 1), celW K (e 2) (S 2), celW K (e 3) (S 3), celW K (e 4) (S 4), celW K (e 5) (S 5), celW K aA Ga])) ?_
  refine J_callSd C0 (mX4_total l K (blk := celW K aA Ga) (k := 10) (ad := aA 10) (n := 12) (f := Ga 10) rfl (by omega)) [mainW K b (nA 0) (aA 0) (fun i => some (d i 0)) (fun i => some (e i 0)) T, celW K nA F, celW K (d 0) (D 0), celW K (d 1) (D 1), celW K (e 0) (S 0), celW K (e 1) (S 1), celW K (e 2) (S 2), celW K (e 3) (S 3), celW K (e 4) (S 4), celW K (e 5) (S 5)] [mainW K b (nA 0) (aA 0) (fun i => some (d i 0)) (fun i => some (e i 0)) T, celW K nA F, celW K (d 0) (D 0), celW K (d 1) (D 1), celW K (e 0) (S 0), celW K (e 1) (S 1), celW K (e 2) (S 2), celW K (e 3) (S 3), celW K (e 4) (S 4), celW K (e 5) (S 5), celW K aA Ga] gX4_forecastNumber_X4_total dX4_forecastNumber_35 1 (kk := ?_)
  refine J_perm (permI [0, 1, 10, 2, 3, 4, 5, 6, 7, 8, 9] 11 rfl (by decide +kernel) rfl : List.Perm _ (corkW K b nA aA d e F Ga D S T)) ?_
  show J G _ _ _ _ _ [.int (sumS (Ga 10) 12)]
  refine J_aln C0 0 dX4_forecastNumber_38 (kk := ?_)
  refine J_get C0 iX4 0 0 0 f12 dX4_forecastNumber_39 (kk := ?_)
  refine J_get C0 iX0 1 0 11 f119 dX4_forecastNumber_42 (kk := ?_)
  refine J_perm (permI [0, 2, 3, 4, 5, 6, 7, 8, 9, 10, 1] 11 rfl (by decide +kernel) rfl : List.Perm _ ([mainW K b (nA 0) (aA 0) (fun i => some (d i 0)) (fun i => some (e i 0)) T, celW K aA Ga, celW K (d 0) (D 0), celW K (d 1) (D 1), celW K (e 0) (S 0), celW K (e 1) (S 1), celW K (e 2) (S 2), celW K (e 3) (S 3), celW K (e 4) (S 4), celW K (e 5) (S 5), celW K nA F])) ?_
  refine J_callSd C0 (mX4_total l K (blk := celW K nA F) (k := 10) (ad := nA 10) (n := 12) (f := F 10) rfl (by omega)) [mainW K b (nA 0) (aA 0) (fun i => some (d i 0)) (fun i => some (e i 0)) T, celW K aA Ga, celW K (d 0) (D 0), celW K (d 1) (D 1), celW K (e 0) (S 0), celW K (e 1) (S 1), celW K (e 2) (S 2), celW K (e 3) (S 3), celW K (e 4) (S 4), celW K (e 5) (S 5)] [mainW K b (nA 0) (aA 0) (fun i => some (d i 0)) (fun i => some (e i 0)) T, celW K aA Ga, celW K (d 0) (D 0), celW K (d 1) (D 1), celW K (e 0) (S 0), celW K (e 1) (S 1), celW K (e 2) (S 2), celW K (e 3) (S 3), celW K (e 4) (S 4), celW K (e 5) (S 5), celW K nA F] gX4_forecastNumber_X4_total dX4_forecastNumber_45 1 (kk := ?_)
  refine J_perm (permI [0, 10, 1, 2, 3, 4, 5, 6, 7, 8, 9] 11 rfl (by decide +kernel) rfl : List.Perm _ (corkW K b nA aA d e F Ga D S T)) ?_
  show J G _ _ _ _ _ [.int (sumS (F 10) 12), .int (sumS (Ga 10) 12)]
  refine J_isub C0 dX4_forecastNumber_48 ?_
  exact J_iret C0 hF dX4_forecastNumber_49 ⟨rfl, rfl⟩

set_option maxHeartbeats 4000000 in
set_option maxRecDepth 100000 in
theorem mX4_forecastNumber_1 (l : Launch) (K : KT) (b nA aA : Nat → Nat) (d e : Nat → Nat → Nat) (F Ga : FF) (D S : Nat → FF) (T : FF) : Ct l K yX4_forecastNumber wsX4_forecastNumber rmX4_forecastNumber [.ref (b 0), .int (nI 1)] (corkW K b nA aA d e F Ga D S T) (some (.int (foreC F Ga 1))) (corkW K b nA aA d e F Ga D S T) := by
  refine CtP_of (cc := cX4_forecastNumber) (nL := 2) (rt := some .int) (own := RX4) (lv0 := [(0, .ref (b 0)), (1, .int (nI 1))]) (by decide) rfl (Nat.le_of_ble_eq_true rfl) rfl rfl ?_
  intro G C0 hF _
  have f16 : Cond.fieldLink RX4 16 "CorkPermits" "ahead" "LCorkPermits$Cellar;" ∈ wsX4_forecastNumber := by decide +kernel
  have iX4 : ∀ w ∈ u_ws RX4 TX4 6, w ∈ wsX4_forecastNumber := by decide +kernel
  have f199 : Cond.fieldLink RX4 199 "CorkPermits$Cellar" "arrived" "[I" ∈ wsX4_forecastNumber := by decide +kernel
  have iX0 : ∀ w ∈ u_ws RX0 TX0 14, w ∈ wsX4_forecastNumber := by decide +kernel
  have f12 : Cond.fieldLink RX4 12 "CorkPermits" "now" "LCorkPermits$Cellar;" ∈ wsX4_forecastNumber := by decide +kernel
  refine J_iln C0 1 dX4_forecastNumber_0 (kk := ?_)
  refine J_tin C0 50 dX4_forecastNumber_1 (kk := ?_)
  refine J_aln C0 0 dX4_forecastNumber_50 (kk := ?_)
  refine J_get C0 iX4 0 0 1 f16 dX4_forecastNumber_51 (kk := ?_)
  refine J_get C0 iX0 2 0 6 f199 dX4_forecastNumber_54 (kk := ?_)
  refine J_perm (permI [0, 1, 3, 4, 5, 6, 7, 8, 9, 10, 2] 11 rfl (by decide +kernel) rfl : List.Perm _ ([mainW K b (nA 0) (aA 0) (fun i => some (d i 0)) (fun i => some (e i 0)) T, celW K nA F, celW K (d 0) (D 0), celW K (d 1) (D 1), celW K (e 0) (S 0), celW K (e 1) (S 1), celW K (e 2) (S 2), celW K (e 3) (S 3), celW K (e 4) (S 4), celW K (e 5) (S 5), celW K aA Ga])) ?_
  refine J_callSd C0 (mX4_total l K (blk := celW K aA Ga) (k := 5) (ad := aA 5) (n := 3) (f := Ga 5) rfl (by omega)) [mainW K b (nA 0) (aA 0) (fun i => some (d i 0)) (fun i => some (e i 0)) T, celW K nA F, celW K (d 0) (D 0), celW K (d 1) (D 1), celW K (e 0) (S 0), celW K (e 1) (S 1), celW K (e 2) (S 2), celW K (e 3) (S 3), celW K (e 4) (S 4), celW K (e 5) (S 5)] [mainW K b (nA 0) (aA 0) (fun i => some (d i 0)) (fun i => some (e i 0)) T, celW K nA F, celW K (d 0) (D 0), celW K (d 1) (D 1), celW K (e 0) (S 0), celW K (e 1) (S 1), celW K (e 2) (S 2), celW K (e 3) (S 3), celW K (e 4) (S 4), celW K (e 5) (S 5), celW K aA Ga] gX4_forecastNumber_X4_total dX4_forecastNumber_57 1 (kk := ?_)
  refine J_perm (permI [0, 1, 10, 2, 3, 4, 5, 6, 7, 8, 9] 11 rfl (by decide +kernel) rfl : List.Perm _ (corkW K b nA aA d e F Ga D S T)) ?_
  show J G _ _ _ _ _ [.int (sumS (Ga 5) 3)]
  refine J_aln C0 0 dX4_forecastNumber_60 (kk := ?_)
  refine J_get C0 iX4 0 0 0 f12 dX4_forecastNumber_61 (kk := ?_)
  refine J_get C0 iX0 1 0 6 f199 dX4_forecastNumber_64 (kk := ?_)
  refine J_perm (permI [0, 2, 3, 4, 5, 6, 7, 8, 9, 10, 1] 11 rfl (by decide +kernel) rfl : List.Perm _ ([mainW K b (nA 0) (aA 0) (fun i => some (d i 0)) (fun i => some (e i 0)) T, celW K aA Ga, celW K (d 0) (D 0), celW K (d 1) (D 1), celW K (e 0) (S 0), celW K (e 1) (S 1), celW K (e 2) (S 2), celW K (e 3) (S 3), celW K (e 4) (S 4), celW K (e 5) (S 5), celW K nA F])) ?_
  refine J_callSd C0 (mX4_total l K (blk := celW K nA F) (k := 5) (ad := nA 5) (n := 3) (f := F 5) rfl (by omega)) [mainW K b (nA 0) (aA 0) (fun i => some (d i 0)) (fun i => some (e i 0)) T, celW K aA Ga, celW K (d 0) (D 0), celW K (d 1) (D 1), celW K (e 0) (S 0), celW K (e 1) (S 1), celW K (e 2) (S 2), celW K (e 3) (S 3), celW K (e 4) (S 4), celW K (e 5) (S 5)] [mainW K b (nA 0) (aA 0) (fun i => some (d i 0)) (fun i => some (e i 0)) T, celW K aA Ga, celW K (d 0) (D 0), celW K (d 1) (D 1), celW K (e 0) (S 0), celW K (e 1) (S 1), celW K (e 2) (S 2), celW K (e 3) (S 3), celW K (e 4) (S 4), celW K (e 5) (S 5), celW K nA F] gX4_forecastNumber_X4_total dX4_forecastNumber_67 1 (kk := ?_)
  refine J_perm (permI [0, 10, 1, 2, 3, 4, 5, 6, 7, 8, 9] 11 rfl (by decide +kernel) rfl : List.Perm _ (corkW K b nA aA d e F Ga D S T)) ?_
  show J G _ _ _ _ _ [.int (sumS (F 5) 3), .int (sumS (Ga 5) 3)]
  refine J_isub C0 dX4_forecastNumber_70 ?_
  exact J_iret C0 hF dX4_forecastNumber_71 ⟨rfl, rfl⟩

set_option maxHeartbeats 4000000 in
set_option maxRecDepth 100000 in
theorem mX4_forecastNumber_2 (l : Launch) (K : KT) (b nA aA : Nat → Nat) (d e : Nat → Nat → Nat) (F Ga : FF) (D S : Nat → FF) (T : FF) : Ct l K yX4_forecastNumber wsX4_forecastNumber rmX4_forecastNumber [.ref (b 0), .int (nI 2)] (corkW K b nA aA d e F Ga D S T) (some (.int (foreC F Ga 2))) (corkW K b nA aA d e F Ga D S T) := by
  refine CtP_of (cc := cX4_forecastNumber) (nL := 2) (rt := some .int) (own := RX4) (lv0 := [(0, .ref (b 0)), (1, .int (nI 2))]) (by decide) rfl (Nat.le_of_ble_eq_true rfl) rfl rfl ?_
  intro G C0 hF _
  have f16 : Cond.fieldLink RX4 16 "CorkPermits" "ahead" "LCorkPermits$Cellar;" ∈ wsX4_forecastNumber := by decide +kernel
  have iX4 : ∀ w ∈ u_ws RX4 TX4 6, w ∈ wsX4_forecastNumber := by decide +kernel
  have f107 : Cond.fieldLink RX4 107 "CorkPermits$Cellar" "waiting" "[I" ∈ wsX4_forecastNumber := by decide +kernel
  have iX0 : ∀ w ∈ u_ws RX0 TX0 14, w ∈ wsX4_forecastNumber := by decide +kernel
  refine J_iln C0 1 dX4_forecastNumber_0 (kk := ?_)
  refine J_tin C0 72 dX4_forecastNumber_1 (kk := ?_)
  refine J_aln C0 0 dX4_forecastNumber_72 (kk := ?_)
  refine J_get C0 iX4 0 0 1 f16 dX4_forecastNumber_73 (kk := ?_)
  refine J_get C0 iX0 2 0 12 f107 dX4_forecastNumber_76 (kk := ?_)
  refine J_perm (permI [0, 1, 3, 4, 5, 6, 7, 8, 9, 10, 2] 11 rfl (by decide +kernel) rfl : List.Perm _ ([mainW K b (nA 0) (aA 0) (fun i => some (d i 0)) (fun i => some (e i 0)) T, celW K nA F, celW K (d 0) (D 0), celW K (d 1) (D 1), celW K (e 0) (S 0), celW K (e 1) (S 1), celW K (e 2) (S 2), celW K (e 3) (S 3), celW K (e 4) (S 4), celW K (e 5) (S 5), celW K aA Ga])) ?_
  refine J_callSd C0 (mX4_total l K (blk := celW K aA Ga) (k := 11) (ad := aA 11) (n := 12) (f := Ga 11) rfl (by omega)) [mainW K b (nA 0) (aA 0) (fun i => some (d i 0)) (fun i => some (e i 0)) T, celW K nA F, celW K (d 0) (D 0), celW K (d 1) (D 1), celW K (e 0) (S 0), celW K (e 1) (S 1), celW K (e 2) (S 2), celW K (e 3) (S 3), celW K (e 4) (S 4), celW K (e 5) (S 5)] [mainW K b (nA 0) (aA 0) (fun i => some (d i 0)) (fun i => some (e i 0)) T, celW K nA F, celW K (d 0) (D 0), celW K (d 1) (D 1), celW K (e 0) (S 0), celW K (e 1) (S 1), celW K (e 2) (S 2), celW K (e 3) (S 3), celW K (e 4) (S 4), celW K (e 5) (S 5), celW K aA Ga] gX4_forecastNumber_X4_total dX4_forecastNumber_79 1 (kk := ?_)
  refine J_perm (permI [0, 1, 10, 2, 3, 4, 5, 6, 7, 8, 9] 11 rfl (by decide +kernel) rfl : List.Perm _ (corkW K b nA aA d e F Ga D S T)) ?_
  show J G _ _ _ _ _ [.int (sumS (Ga 11) 12)]
  exact J_iret C0 hF dX4_forecastNumber_82 ⟨rfl, rfl⟩

set_option maxHeartbeats 4000000 in
set_option maxRecDepth 100000 in
theorem mX4_forecastNumber_3 (l : Launch) (K : KT) (b nA aA : Nat → Nat) (d e : Nat → Nat → Nat) (F Ga : FF) (D S : Nat → FF) (T : FF) : Ct l K yX4_forecastNumber wsX4_forecastNumber rmX4_forecastNumber [.ref (b 0), .int (nI 3)] (corkW K b nA aA d e F Ga D S T) (some (.int (foreC F Ga 3))) (corkW K b nA aA d e F Ga D S T) := by
  refine CtP_of (cc := cX4_forecastNumber) (nL := 2) (rt := some .int) (own := RX4) (lv0 := [(0, .ref (b 0)), (1, .int (nI 3))]) (by decide) rfl (Nat.le_of_ble_eq_true rfl) rfl rfl ?_
  intro G C0 hF _
  have f16 : Cond.fieldLink RX4 16 "CorkPermits" "ahead" "LCorkPermits$Cellar;" ∈ wsX4_forecastNumber := by decide +kernel
  have iX4 : ∀ w ∈ u_ws RX4 TX4 6, w ∈ wsX4_forecastNumber := by decide +kernel
  have f88 : Cond.fieldLink RX4 88 "CorkPermits$Cellar" "post" "LCorkPermits$Post;" ∈ wsX4_forecastNumber := by decide +kernel
  have iX0 : ∀ w ∈ u_ws RX0 TX0 14, w ∈ wsX4_forecastNumber := by decide +kernel
  have f269 : Cond.fieldLink RX4 269 "CorkPermits$Post" "lost" "I" ∈ wsX4_forecastNumber := by decide +kernel
  have iX3 : ∀ w ∈ u_ws RX3 TX3 7, w ∈ wsX4_forecastNumber := by decide +kernel
  have f12 : Cond.fieldLink RX4 12 "CorkPermits" "now" "LCorkPermits$Cellar;" ∈ wsX4_forecastNumber := by decide +kernel
  refine J_iln C0 1 dX4_forecastNumber_0 (kk := ?_)
  refine J_tout C0 83 dX4_forecastNumber_1 (by decide) (kk := ?_)
  refine J_aln C0 0 dX4_forecastNumber_83 (kk := ?_)
  refine J_get C0 iX4 0 0 1 f16 dX4_forecastNumber_84 (kk := ?_)
  refine J_get C0 iX0 2 0 13 f88 dX4_forecastNumber_87 (kk := ?_)
  refine J_get C0 iX3 2 12 1 f269 dX4_forecastNumber_90 (kk := ?_)
  refine J_aln C0 0 dX4_forecastNumber_93 (kk := ?_)
  refine J_get C0 iX4 0 0 0 f12 dX4_forecastNumber_94 (kk := ?_)
  refine J_get C0 iX0 1 0 13 f88 dX4_forecastNumber_97 (kk := ?_)
  refine J_get C0 iX3 1 12 1 f269 dX4_forecastNumber_100 (kk := ?_)
  refine J_isub C0 dX4_forecastNumber_103 ?_
  exact J_iret C0 hF dX4_forecastNumber_104 ⟨rfl, rfl⟩

theorem mX4_forecastNumber (l : Launch) (K : KT) (b nA aA : Nat → Nat) (d e : Nat → Nat → Nat) (F Ga : FF) (D S : Nat → FF) (T : FF) {w : Nat} (hw : w < 4) : Ct l K yX4_forecastNumber wsX4_forecastNumber rmX4_forecastNumber [.ref (b 0), .int (nI w)] (corkW K b nA aA d e F Ga D S T) (some (.int (foreC F Ga w))) (corkW K b nA aA d e F Ga D S T) := by
  rcases (show w = 0 ∨ w = 1 ∨ w = 2 ∨ w = 3 by omega) with rfl | rfl | rfl | rfl
  · exact mX4_forecastNumber_0 l K b nA aA d e F Ga D S T
  · exact mX4_forecastNumber_1 l K b nA aA d e F Ga D S T
  · exact mX4_forecastNumber_2 l K b nA aA d e F Ga D S T
  · exact mX4_forecastNumber_3 l K b nA aA d e F Ga D S T
abbrev rmX4_count : Room := { frames := 2, cells := 0, slots := 0, locals := 46 }
set_option maxHeartbeats 4000000 in
set_option maxRecDepth 100000 in
theorem mX4_count (l : Launch) (K : KT) (b nA aA : Nat → Nat) (d e : Nat → Nat → Nat) (F Ga : FF) (D S : Nat → FF) (T : FF) {w : Nat} (hw : w < 12) : Ct l K yX4_count wsX4_count rmX4_count [.ref (b 0), .int (nI w)] (corkW K b nA aA d e F Ga D S T) (some (.int (countC F T w))) (corkW K b nA aA d e F Ga D S T) := by
  refine CtP_of (cc := cX4_count) (nL := 2) (rt := some .int) (own := RX4) (lv0 := [(0, .ref (b 0)), (1, .int (nI w))]) (by decide) rfl (Nat.le_of_ble_eq_true rfl) rfl rfl ?_
  intro G C0 hF _
  refine J_iln C0 1 dX4_count_0 (kk := ?_)
  refine J_bi C0 12 dX4_count_1 (kk := ?_)
  refine J_callSd C0 (mX4_requireWhat l K (k := w) (c := 12) (by omega) (by omega)) [mainW K b (nA 0) (aA 0) (fun i => some (d i 0)) (fun i => some (e i 0)) T, celW K nA F, celW K aA Ga, celW K (d 0) (D 0), celW K (d 1) (D 1), celW K (e 0) (S 0), celW K (e 1) (S 1), celW K (e 2) (S 2), celW K (e 3) (S 3), celW K (e 4) (S 4), celW K (e 5) (S 5)] (corkW K b nA aA d e F Ga D S T) gX4_count_X4_requireWhat dX4_count_3 2 (kk := ?_)
  show J G _ _ _ _ _ []
  refine J_aln C0 0 dX4_count_6 (kk := ?_)
  refine J_iln C0 1 dX4_count_7 (kk := ?_)
  refine J_callVd C0 (mX4_countNumber l K b nA aA d e F Ga D S T (w := w) (by omega)) [] (corkW K b nA aA d e F Ga D S T) gX4_count_X4_countNumber dX4_count_8 1 0 (kk := ?_)
  show J G _ _ _ _ _ [.int (countC F T w)]
  exact J_iret C0 hF dX4_count_11 ⟨rfl, rfl⟩

abbrev rmX4_lookAhead : Room := { frames := 5, cells := 0, slots := 0, locals := 119 }
set_option maxHeartbeats 4000000 in
set_option maxRecDepth 100000 in
theorem mX4_lookAhead (l : Launch) (K : KT) (b nA aA : Nat → Nat) (d e : Nat → Nat → Nat) (F Ga : FF) (D S : Nat → FF) (T : FF) (hSh : Sh F) {t : Nat} (ht : t ≤ 60) : Ct l K yX4_lookAhead wsX4_lookAhead rmX4_lookAhead [.ref (b 0), .int (nI t)] (corkW K b nA aA d e F Ga D S T) none (corkW K b nA aA d e F (ticksC t F) D S T) := by
  refine CtP_of (cc := cX4_lookAhead) (nL := 2) (rt := none) (own := RX4) (lv0 := [(0, .ref (b 0)), (1, .int (nI t))]) (by decide) rfl (Nat.le_of_ble_eq_true rfl) rfl rfl ?_
  intro G C0 hF _
  have f16 : Cond.fieldLink RX4 16 "CorkPermits" "ahead" "LCorkPermits$Cellar;" ∈ wsX4_lookAhead := by decide +kernel
  have iX4 : ∀ w ∈ u_ws RX4 TX4 6, w ∈ wsX4_lookAhead := by decide +kernel
  have f12 : Cond.fieldLink RX4 12 "CorkPermits" "now" "LCorkPermits$Cellar;" ∈ wsX4_lookAhead := by decide +kernel
  refine J_aln C0 0 dX4_lookAhead_0 (kk := ?_)
  refine J_get C0 iX4 0 0 1 f16 dX4_lookAhead_1 (kk := ?_)
  refine J_aln C0 0 dX4_lookAhead_4 (kk := ?_)
  refine J_get C0 iX4 0 0 0 f12 dX4_lookAhead_5 (kk := ?_)
  refine J_perm (permI [0, 3, 4, 5, 6, 7, 8, 9, 10, 2, 1] 11 rfl (by decide +kernel) rfl : List.Perm _ ([mainW K b (nA 0) (aA 0) (fun i => some (d i 0)) (fun i => some (e i 0)) T, celW K (d 0) (D 0), celW K (d 1) (D 1), celW K (e 0) (S 0), celW K (e 1) (S 1), celW K (e 2) (S 2), celW K (e 3) (S 3), celW K (e 4) (S 4), celW K (e 5) (S 5), celW K aA Ga, celW K nA F])) ?_
  refine J_callVd C0 (mX0_copyFrom l K aA nA Ga F) [mainW K b (nA 0) (aA 0) (fun i => some (d i 0)) (fun i => some (e i 0)) T, celW K (d 0) (D 0), celW K (d 1) (D 1), celW K (e 0) (S 0), celW K (e 1) (S 1), celW K (e 2) (S 2), celW K (e 3) (S 3), celW K (e 4) (S 4), celW K (e 5) (S 5)] [mainW K b (nA 0) (aA 0) (fun i => some (d i 0)) (fun i => some (e i 0)) T, celW K (d 0) (D 0), celW K (d 1) (D 1), celW K (e 0) (S 0), celW K (e 1) (S 1), celW K (e 2) (S 2), celW K (e 3) (S 3), celW K (e 4) (S 4), celW K (e 5) (S 5), celW K aA F, celW K nA F] gX4_lookAhead_X0_copyFrom dX4_lookAhead_8 1 0 (kk := ?_)
  refine J_perm (permI [0, 10, 9, 1, 2, 3, 4, 5, 6, 7, 8] 11 rfl (by decide +kernel) rfl : List.Perm _ (corkW K b nA aA d e F F D S T)) ?_
  show J G _ _ _ _ _ []
  refine J_aln C0 0 dX4_lookAhead_11 (kk := ?_)
  refine J_get C0 iX4 0 0 1 f16 dX4_lookAhead_12 (kk := ?_)
  refine J_iln C0 1 dX4_lookAhead_15 (kk := ?_)
  refine J_perm (permI [0, 1, 3, 4, 5, 6, 7, 8, 9, 10, 2] 11 rfl (by decide +kernel) rfl : List.Perm _ ([mainW K b (nA 0) (aA 0) (fun i => some (d i 0)) (fun i => some (e i 0)) T, celW K nA F, celW K (d 0) (D 0), celW K (d 1) (D 1), celW K (e 0) (S 0), celW K (e 1) (S 1), celW K (e 2) (S 2), celW K (e 3) (S 3), celW K (e 4) (S 4), celW K (e 5) (S 5), celW K aA F])) ?_
  refine J_callVd C0 (mX0_letGoBy l K aA (F := F) hSh (t := t) (by omega)) [mainW K b (nA 0) (aA 0) (fun i => some (d i 0)) (fun i => some (e i 0)) T, celW K nA F, celW K (d 0) (D 0), celW K (d 1) (D 1), celW K (e 0) (S 0), celW K (e 1) (S 1), celW K (e 2) (S 2), celW K (e 3) (S 3), celW K (e 4) (S 4), celW K (e 5) (S 5)] [mainW K b (nA 0) (aA 0) (fun i => some (d i 0)) (fun i => some (e i 0)) T, celW K nA F, celW K (d 0) (D 0), celW K (d 1) (D 1), celW K (e 0) (S 0), celW K (e 1) (S 1), celW K (e 2) (S 2), celW K (e 3) (S 3), celW K (e 4) (S 4), celW K (e 5) (S 5), celW K aA (ticksC t F)] gX4_lookAhead_X0_letGoBy dX4_lookAhead_16 1 0 (kk := ?_)
  refine J_perm (permI [0, 1, 10, 2, 3, 4, 5, 6, 7, 8, 9] 11 rfl (by decide +kernel) rfl : List.Perm _ (corkW K b nA aA d e F (ticksC t F) D S T)) ?_
  show J G _ _ _ _ _ []
  exact J_vret C0 hF dX4_lookAhead_19 ⟨rfl, rfl⟩

abbrev rmX4_ifPassed : Room := { frames := 6, cells := 0, slots := 0, locals := 140 }
set_option maxHeartbeats 4000000 in
set_option maxRecDepth 100000 in
theorem mX4_ifPassed (l : Launch) (K : KT) (b nA aA : Nat → Nat) (d e : Nat → Nat → Nat) (F Ga : FF) (D S : Nat → FF) (T : FF) (hSh : Sh F) {t : Nat} (ht1 : 1 ≤ t) (ht : t ≤ 60) {w : Nat} (hw : w < 4) : Ct l K yX4_ifPassed wsX4_ifPassed rmX4_ifPassed [.ref (b 0), .int (nI t), .int (nI w)] (corkW K b nA aA d e F Ga D S T) (some (.int (foreC F (ticksC t F) w))) (corkW K b nA aA d e F (ticksC t F) D S T) := by
  refine CtP_of (cc := cX4_ifPassed) (nL := 3) (rt := some .int) (own := RX4) (lv0 := [(0, .ref (b 0)), (1, .int (nI t)), (2, .int (nI w))]) (by decide) rfl (Nat.le_of_ble_eq_true rfl) rfl rfl ?_
  intro G C0 hF _
  refine J_iln C0 1 dX4_ifPassed_0 (kk := ?_)
  refine J_callSd C0 (mX4_requireTicks l K (k := t) (by omega) (by omega)) [mainW K b (nA 0) (aA 0) (fun i => some (d i 0)) (fun i => some (e i 0)) T, celW K nA F, celW K aA Ga, celW K (d 0) (D 0), celW K (d 1) (D 1), celW K (e 0) (S 0), celW K (e 1) (S 1), celW K (e 2) (S 2), celW K (e 3) (S 3), celW K (e 4) (S 4), celW K (e 5) (S 5)] (corkW K b nA aA d e F Ga D S T) gX4_ifPassed_X4_requireTicks dX4_ifPassed_1 1 (kk := ?_)
  show J G _ _ _ _ _ []
  refine J_iln C0 2 dX4_ifPassed_4 (kk := ?_)
  refine J_ic C0 4 dX4_ifPassed_5 (kk := ?_)
  refine J_callSd C0 (mX4_requireWhat l K (k := w) (c := 4) (by omega) (by omega)) [mainW K b (nA 0) (aA 0) (fun i => some (d i 0)) (fun i => some (e i 0)) T, celW K nA F, celW K aA Ga, celW K (d 0) (D 0), celW K (d 1) (D 1), celW K (e 0) (S 0), celW K (e 1) (S 1), celW K (e 2) (S 2), celW K (e 3) (S 3), celW K (e 4) (S 4), celW K (e 5) (S 5)] (corkW K b nA aA d e F Ga D S T) gX4_ifPassed_X4_requireWhat dX4_ifPassed_6 2 (kk := ?_)
  show J G _ _ _ _ _ []
  refine J_aln C0 0 dX4_ifPassed_9 (kk := ?_)
  refine J_iln C0 1 dX4_ifPassed_10 (kk := ?_)
  refine J_callVd C0 (mX4_lookAhead l K b nA aA d e F Ga D S T hSh (t := t) (by omega)) [] (corkW K b nA aA d e F (ticksC t F) D S T) gX4_ifPassed_X4_lookAhead dX4_ifPassed_11 1 0 (kk := ?_)
  show J G _ _ _ _ _ []
  refine J_aln C0 0 dX4_ifPassed_14 (kk := ?_)
  refine J_iln C0 2 dX4_ifPassed_15 (kk := ?_)
  refine J_callVd C0 (mX4_forecastNumber l K b nA aA d e F (ticksC t F) D S T (w := w) (by omega)) [] (corkW K b nA aA d e F (ticksC t F) D S T) gX4_ifPassed_X4_forecastNumber dX4_ifPassed_16 1 0 (kk := ?_)
  show J G _ _ _ _ _ [.int (foreC F (ticksC t F) w)]
  exact J_iret C0 hF dX4_ifPassed_19 ⟨rfl, rfl⟩

def stillR : Nat → Nat → FF → Int32 × FF
  | 0, _, F => (-1, F)
  | k + 1, t, F => if F 0 4 = 0 then (nI t, F) else stillR k (t + 1) (tickC F)
abbrev rmX4_stillIn : Room := { frames := 5, cells := 0, slots := 0, locals := 119 }
set_option maxHeartbeats 4000000 in
set_option maxRecDepth 100000 in
theorem mX4_stillIn (l : Launch) (K : KT) (b nA aA : Nat → Nat) (d e : Nat → Nat → Nat) (F Ga : FF) (D S : Nat → FF) (T : FF) (hSh : Sh F) : Ct l K yX4_stillIn wsX4_stillIn rmX4_stillIn [.ref (b 0)] (corkW K b nA aA d e F Ga D S T) (some (.int (stillR 201 0 F).1)) (corkW K b nA aA d e F (stillR 201 0 F).2 D S T) := by
  refine CtP_of (cc := cX4_stillIn) (nL := 2) (rt := some .int) (own := RX4) (lv0 := [(0, .ref (b 0))]) (by decide) rfl (Nat.le_of_ble_eq_true rfl) rfl rfl ?_
  intro G C0 hF _
  have f16 : Cond.fieldLink RX4 16 "CorkPermits" "ahead" "LCorkPermits$Cellar;" ∈ wsX4_stillIn := by decide +kernel
  have iX4 : ∀ w ∈ u_ws RX4 TX4 6, w ∈ wsX4_stillIn := by decide +kernel
  have f88 : Cond.fieldLink RX4 88 "CorkPermits$Cellar" "post" "LCorkPermits$Post;" ∈ wsX4_stillIn := by decide +kernel
  have iX0 : ∀ w ∈ u_ws RX0 TX0 14, w ∈ wsX4_stillIn := by decide +kernel
  have f101 : Cond.fieldLink RX4 101 "CorkPermits$Post" "underWay" "I" ∈ wsX4_stillIn := by decide +kernel
  have iX3 : ∀ w ∈ u_ws RX3 TX3 7, w ∈ wsX4_stillIn := by decide +kernel
  have f12 : Cond.fieldLink RX4 12 "CorkPermits" "now" "LCorkPermits$Cellar;" ∈ wsX4_stillIn := by decide +kernel
  have lp : ∀ (k t : Nat) (Ga : FF), t + k = 201 → Sh Ga → stillR k t Ga = stillR 201 0 F → J G (corkW K b nA aA d e F Ga D S T) [(1, .int (nI t)), (0, .ref (b 0))] 0 0 13 [] := by
    generalize hTF : stillR 201 0 F = TF at hF ⊢
    clear hSh hTF
    intro k
    induction k with
    | zero =>
      intro t Ga hk hSh hT
      have ht : t = 201 := by omega
      subst ht
      refine J_iln C0 0 dX4_stillIn_13 (kk := ?_)
      refine J_si C0 200 dX4_stillIn_14 (kk := ?_)
      refine J_icmpgtN C0 49 (by omega) (by omega) dX4_stillIn_17 (kt := fun c1 => ?_) (kf := fun c1 => ?_)
      · refine J_icm1 C0 dX4_stillIn_49 ?_
        exact J_iret C0 hF dX4_stillIn_50 ⟨congrArg (fun z => some (Value.int z)) (congrArg Prod.fst hT), congrArg (fun z => (corkW K b nA aA d e F z D S T)) (congrArg Prod.snd hT)⟩
      · exfalso; omega
    | succ k ih =>
      intro t Ga hk hSh hT
      refine J_iln C0 0 dX4_stillIn_13 (kk := ?_)
      refine J_si C0 200 dX4_stillIn_14 (kk := ?_)
      refine J_icmpgtN C0 49 (by omega) (by omega) dX4_stillIn_17 (kt := fun c1 => ?_) (kf := fun c1 => ?_)
      · exfalso; omega
      · refine J_aln C0 1 dX4_stillIn_20 (kk := ?_)
        refine J_get C0 iX4 0 0 1 f16 dX4_stillIn_21 (kk := ?_)
        refine J_get C0 iX0 2 0 13 f88 dX4_stillIn_24 (kk := ?_)
        refine J_get C0 iX3 2 12 2 f101 dX4_stillIn_27 (kk := ?_)
        refine J_ifne C0 35 dX4_stillIn_30 (kt := fun c2 => ?_) (kf := fun c2 => ?_)
        · refine J_aln C0 1 dX4_stillIn_35 (kk := ?_)
          refine J_get C0 iX4 0 0 1 f16 dX4_stillIn_36 (kk := ?_)
          refine J_ic C0 1 dX4_stillIn_39 (kk := ?_)
          refine J_perm (permI [0, 1, 3, 4, 5, 6, 7, 8, 9, 10, 2] 11 rfl (by decide +kernel) rfl : List.Perm _ ([mainW K b (nA 0) (aA 0) (fun i => some (d i 0)) (fun i => some (e i 0)) T, celW K nA F, celW K (d 0) (D 0), celW K (d 1) (D 1), celW K (e 0) (S 0), celW K (e 1) (S 1), celW K (e 2) (S 2), celW K (e 3) (S 3), celW K (e 4) (S 4), celW K (e 5) (S 5), celW K aA Ga])) ?_
          refine J_callVd C0 (mX0_letGoBy l K aA (F := Ga) hSh (t := 1) (by omega)) [mainW K b (nA 0) (aA 0) (fun i => some (d i 0)) (fun i => some (e i 0)) T, celW K nA F, celW K (d 0) (D 0), celW K (d 1) (D 1), celW K (e 0) (S 0), celW K (e 1) (S 1), celW K (e 2) (S 2), celW K (e 3) (S 3), celW K (e 4) (S 4), celW K (e 5) (S 5)] [mainW K b (nA 0) (aA 0) (fun i => some (d i 0)) (fun i => some (e i 0)) T, celW K nA F, celW K (d 0) (D 0), celW K (d 1) (D 1), celW K (e 0) (S 0), celW K (e 1) (S 1), celW K (e 2) (S 2), celW K (e 3) (S 3), celW K (e 4) (S 4), celW K (e 5) (S 5), celW K aA (ticksC 1 Ga)] gX4_stillIn_X0_letGoBy dX4_stillIn_40 1 0 (kk := ?_)
          refine J_perm (permI [0, 1, 10, 2, 3, 4, 5, 6, 7, 8, 9] 11 rfl (by decide +kernel) rfl : List.Perm _ (corkW K b nA aA d e F (ticksC 1 Ga) D S T)) ?_
          show J G _ _ _ _ _ []
          refine J_iincN C0 0 [(1, .int (nI (t + 1))), (0, .ref (b 0))] dX4_stillIn_43 (kk := ?_)
          refine J_goto C0 13 dX4_stillIn_46 (kk := ?_)
          exact J_lv [0, 1] rfl (ih (t + 1) (tickC Ga) (by omega) (sh_tickC hSh) (by rw [← hT]; show _ = if Ga 0 4 = 0 then _ else _; rw [if_neg c2]))
        · refine J_iln C0 0 dX4_stillIn_33 (kk := ?_)
          exact J_iret C0 hF dX4_stillIn_34 (by rw [show stillR (k + 1) t Ga = (nI t, Ga) from if_pos c2] at hT; exact ⟨congrArg (fun z => some (Value.int z)) (congrArg Prod.fst hT), congrArg (fun z => (corkW K b nA aA d e F z D S T)) (congrArg Prod.snd hT)⟩)
  refine J_aln C0 0 dX4_stillIn_0 (kk := ?_)
  refine J_get C0 iX4 0 0 1 f16 dX4_stillIn_1 (kk := ?_)
  refine J_aln C0 0 dX4_stillIn_4 (kk := ?_)
  refine J_get C0 iX4 0 0 0 f12 dX4_stillIn_5 (kk := ?_)
  refine J_perm (permI [0, 3, 4, 5, 6, 7, 8, 9, 10, 2, 1] 11 rfl (by decide +kernel) rfl : List.Perm _ ([mainW K b (nA 0) (aA 0) (fun i => some (d i 0)) (fun i => some (e i 0)) T, celW K (d 0) (D 0), celW K (d 1) (D 1), celW K (e 0) (S 0), celW K (e 1) (S 1), celW K (e 2) (S 2), celW K (e 3) (S 3), celW K (e 4) (S 4), celW K (e 5) (S 5), celW K aA Ga, celW K nA F])) ?_
  refine J_callVd C0 (mX0_copyFrom l K aA nA Ga F) [mainW K b (nA 0) (aA 0) (fun i => some (d i 0)) (fun i => some (e i 0)) T, celW K (d 0) (D 0), celW K (d 1) (D 1), celW K (e 0) (S 0), celW K (e 1) (S 1), celW K (e 2) (S 2), celW K (e 3) (S 3), celW K (e 4) (S 4), celW K (e 5) (S 5)] [mainW K b (nA 0) (aA 0) (fun i => some (d i 0)) (fun i => some (e i 0)) T, celW K (d 0) (D 0), celW K (d 1) (D 1), celW K (e 0) (S 0), celW K (e 1) (S 1), celW K (e 2) (S 2), celW K (e 3) (S 3), celW K (e 4) (S 4), celW K (e 5) (S 5), celW K aA F, celW K nA F] gX4_stillIn_X0_copyFrom dX4_stillIn_8 1 0 (kk := ?_)
  refine J_perm (permI [0, 10, 9, 1, 2, 3, 4, 5, 6, 7, 8] 11 rfl (by decide +kernel) rfl : List.Perm _ (corkW K b nA aA d e F F D S T)) ?_
  show J G _ _ _ _ _ []
  refine J_ic C0 0 dX4_stillIn_11 (kk := ?_)
  refine J_isn C0 [(1, .int (nI 0)), (0, .ref (b 0))] dX4_stillIn_12 (kk := ?_)
  exact J_lv [0, 1] rfl (lp 201 0 F (by omega) hSh rfl)

