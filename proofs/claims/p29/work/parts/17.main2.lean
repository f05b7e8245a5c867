abbrev rmX4_bottles : Room := { frames := 4, cells := 0, slots := 0, locals := 103 }
set_option maxHeartbeats 4000000 in
set_option maxRecDepth 100000 in
theorem mX4_bottles (l : Launch) (K : KT) (b nA aA : Nat → Nat) (d e : Nat → Nat → Nat) (F Ga : FF) (D S : Nat → FF) (T : FF) {k : Nat} (h6 : k ≤ 6) (hk : T 0 0 = nI k) {c : Nat} (hc3 : c < 3) {m : Nat} (hm : m ≤ 20) (hc : F 3 c + outK F c ≤ nI m) : Ct l K yX4_bottles wsX4_bottles rmX4_bottles [.ref (b 0), .int (nI c), .int (nI m)] (corkW K b nA aA d e F Ga D S T) (some (.int (F 2 c))) (corkW K b nA aA d (pushE k e) (u2 F 2 c (nI m)) Ga D (pushS k S F) (pushT k T)) := by
  refine CtP_of (cc := cX4_bottles) (nL := 4) (rt := some .int) (own := RX4) (lv0 := [(0, .ref (b 0)), (1, .int (nI c)), (2, .int (nI m))]) (by decide) rfl (Nat.le_of_ble_eq_true rfl) rfl rfl ?_
  intro G C0 hF _
  have f12 : Cond.fieldLink RX4 12 "CorkPermits" "now" "LCorkPermits$Cellar;" ∈ wsX4_bottles := by decide +kernel
  have iX4 : ∀ w ∈ u_ws RX4 TX4 6, w ∈ wsX4_bottles := by decide +kernel
  have f59 : Cond.fieldLink RX4 59 "CorkPermits$Cellar" "full" "[I" ∈ wsX4_bottles := by decide +kernel
  have iX0 : ∀ w ∈ u_ws RX0 TX0 14, w ∈ wsX4_bottles := by decide +kernel
  have f30 : Cond.fieldLink RX4 30 "CorkPermits" "history" "LCorkPermits$History;" ∈ wsX4_bottles := by decide +kernel
  have f67 : Cond.fieldLink RX4 67 "CorkPermits$Cellar" "bottles" "[I" ∈ wsX4_bottles := by decide +kernel
  refine J_iln C0 1 dX4_bottles_0 (kk := ?_)
  refine J_callSd C0 (mX4_requireKind l K (k := c) (by omega)) [mainW K b (nA 0) (aA 0) (fun i => some (d i 0)) (fun i => some (e i 0)) T, celW K nA F, celW K aA Ga, celW K (d 0) (D 0), celW K (d 1) (D 1), celW K (e 0) (S 0), celW K (e 1) (S 1), celW K (e 2) (S 2), celW K (e 3) (S 3), celW K (e 4) (S 4), celW K (e 5) (S 5)] (corkW K b nA aA d e F Ga D S T) gX4_bottles_X4_requireKind dX4_bottles_1 1 (kk := ?_)
  show J G _ _ _ _ _ []
  refine J_iln C0 2 dX4_bottles_4 (kk := ?_)
  refine J_ifltN C0 (by omega) dX4_bottles_5 14 (kk := ?_)
  refine J_iln C0 2 dX4_bottles_8 (kk := ?_)
  refine J_bi C0 20 dX4_bottles_9 (kk := ?_)
  refine J_icmpleN C0 22 (by omega) (by omega) dX4_bottles_11 (kt := fun c2 => ?_) (kf := fun c2 => ?_)
  · refine J_iln C0 2 dX4_bottles_22 (kk := ?_)
    refine J_aln C0 0 dX4_bottles_23 (kk := ?_)
    refine J_get C0 iX4 0 0 0 f12 dX4_bottles_24 (kk := ?_)
    refine J_get C0 iX0 1 0 4 f59 dX4_bottles_27 (kk := ?_)
    refine J_iln C0 1 dX4_bottles_30 (kk := ?_)
    refine J_iald C0 1 3 3 dX4_bottles_31 (by omega) (kk := ?_)
    refine J_aln C0 0 dX4_bottles_32 (kk := ?_)
    refine J_get C0 iX4 0 0 0 f12 dX4_bottles_33 (kk := ?_)
    refine J_iln C0 1 dX4_bottles_36 (kk := ?_)
    refine J_perm (permI [0, 2, 3, 4, 5, 6, 7, 8, 9, 10, 1] 11 rfl (by decide +kernel) rfl : List.Perm _ ([mainW K b (nA 0) (aA 0) (fun i => some (d i 0)) (fun i => some (e i 0)) T, celW K aA Ga, celW K (d 0) (D 0), celW K (d 1) (D 1), celW K (e 0) (S 0), celW K (e 1) (S 1), celW K (e 2) (S 2), celW K (e 3) (S 3), celW K (e 4) (S 4), celW K (e 5) (S 5), celW K nA F])) ?_
    refine J_callVd C0 (mX0_outOfKind l K nA F (k := c) (by omega)) [mainW K b (nA 0) (aA 0) (fun i => some (d i 0)) (fun i => some (e i 0)) T, celW K aA Ga, celW K (d 0) (D 0), celW K (d 1) (D 1), celW K (e 0) (S 0), celW K (e 1) (S 1), celW K (e 2) (S 2), celW K (e 3) (S 3), celW K (e 4) (S 4), celW K (e 5) (S 5)] [mainW K b (nA 0) (aA 0) (fun i => some (d i 0)) (fun i => some (e i 0)) T, celW K aA Ga, celW K (d 0) (D 0), celW K (d 1) (D 1), celW K (e 0) (S 0), celW K (e 1) (S 1), celW K (e 2) (S 2), celW K (e 3) (S 3), celW K (e 4) (S 4), celW K (e 5) (S 5), celW K nA F] gX4_bottles_X0_outOfKind dX4_bottles_37 1 0 (kk := ?_)
    refine J_perm (permI [0, 10, 1, 2, 3, 4, 5, 6, 7, 8, 9] 11 rfl (by decide +kernel) rfl : List.Perm _ (corkW K b nA aA d e F Ga D S T)) ?_
    show J G _ _ _ _ _ [.int (outK F c), .int (F 3 c), .int (nI m)]
    refine J_iadd C0 dX4_bottles_40 ?_
    refine J_icmpge C0 52 dX4_bottles_41 (kt := fun c3 => ?_) (kf := fun c3 => ?_)
    · refine J_aln C0 0 dX4_bottles_52 (kk := ?_)
      refine J_get C0 iX4 0 0 4 f30 dX4_bottles_53 (kk := ?_)
      refine J_aln C0 0 dX4_bottles_56 (kk := ?_)
      refine J_get C0 iX4 0 0 0 f12 dX4_bottles_57 (kk := ?_)
      refine J_callVd C0 (mX2_push l K b nA aA d e F Ga D S T (k := k) h6 hk) [] (corkW K b nA aA d (pushE k e) F Ga D (pushS k S F) (pushT k T)) gX4_bottles_X2_push dX4_bottles_60 1 3 (kk := ?_)
      show J G _ _ _ _ _ []
      refine J_aln C0 0 dX4_bottles_63 (kk := ?_)
      refine J_get C0 iX4 0 0 0 f12 dX4_bottles_64 (kk := ?_)
      refine J_get C0 iX0 1 0 3 f67 dX4_bottles_67 (kk := ?_)
      refine J_iln C0 1 dX4_bottles_70 (kk := ?_)
      refine J_iald C0 1 2 3 dX4_bottles_71 (by omega) (kk := ?_)
      refine J_isn C0 [(3, .int (F 2 c)), (0, .ref (b 0)), (1, .int (nI c)), (2, .int (nI m))] dX4_bottles_72 (kk := ?_)
      refine J_aln C0 1 dX4_bottles_73 (kk := ?_)
      refine J_get C0 iX4 0 0 0 f12 dX4_bottles_74 (kk := ?_)
      refine J_get C0 iX0 1 0 3 f67 dX4_bottles_77 (kk := ?_)
      refine J_iln C0 2 dX4_bottles_80 (kk := ?_)
      refine J_iln C0 3 dX4_bottles_81 (kk := ?_)
      refine J_iast C0 1 2 3 (corkW K b nA aA d (pushE k e) (u2 F 2 c (nI m)) Ga D (pushS k S F) (pushT k T)) dX4_bottles_82 (by omega) (kk := ?_)
      refine J_iln C0 0 dX4_bottles_83 (kk := ?_)
      exact J_iret C0 hF dX4_bottles_84 ⟨rfl, rfl⟩
    · exact absurd hc c3
  · exfalso; omega

abbrev rmX4_lend : Room := { frames := 4, cells := 0, slots := 0, locals := 103 }
set_option maxHeartbeats 4000000 in
set_option maxRecDepth 100000 in
theorem mX4_lend (l : Launch) (K : KT) (b nA aA : Nat → Nat) (d e : Nat → Nat → Nat) (F Ga : FF) (D S : Nat → FF) (T : FF) {k : Nat} (h6 : k ≤ 6) (hk : T 0 0 = nI k) {h c : Nat} (hh : h < 4) (hc3 : c < 3) (hp : isPl F (nI h) (nI c)) {n : Nat} (hn : F 0 4 = nI n) (h40 : n ≤ 40) (hc : canLendS F c) : Ct l K yX4_lend wsX4_lend rmX4_lend [.ref (b 0), .int (nI h), .int (nI c)] (corkW K b nA aA d e F Ga D S T) (some (.int (outS (lendS F n (h * 3 + c)) (h * 3 + c)))) (corkW K b nA aA d (pushE k e) (lendS F n (h * 3 + c)) Ga D (pushS k S F) (pushT k T)) := by
  refine CtP_of (cc := cX4_lend) (nL := 3) (rt := some .int) (own := RX4) (lv0 := [(0, .ref (b 0)), (1, .int (nI h)), (2, .int (nI c))]) (by decide) rfl (Nat.le_of_ble_eq_true rfl) rfl rfl ?_
  intro G C0 hF _
  have f12 : Cond.fieldLink RX4 12 "CorkPermits" "now" "LCorkPermits$Cellar;" ∈ wsX4_lend := by decide +kernel
  have iX4 : ∀ w ∈ u_ws RX4 TX4 6, w ∈ wsX4_lend := by decide +kernel
  have f30 : Cond.fieldLink RX4 30 "CorkPermits" "history" "LCorkPermits$History;" ∈ wsX4_lend := by decide +kernel
  refine J_aln C0 0 dX4_lend_0 (kk := ?_)
  refine J_iln C0 1 dX4_lend_1 (kk := ?_)
  refine J_iln C0 2 dX4_lend_2 (kk := ?_)
  refine J_callVd C0 (mX4_requirePlace l K b nA aA d e F Ga D S T (x := nI h) (y := nI c) hp) [] (corkW K b nA aA d e F Ga D S T) gX4_lend_X4_requirePlace dX4_lend_3 2 0 (kk := ?_)
  show J G _ _ _ _ _ []
  refine J_aln C0 0 dX4_lend_6 (kk := ?_)
  refine J_get C0 iX4 0 0 0 f12 dX4_lend_7 (kk := ?_)
  refine J_iln C0 2 dX4_lend_10 (kk := ?_)
  refine J_perm (permI [0, 2, 3, 4, 5, 6, 7, 8, 9, 10, 1] 11 rfl (by decide +kernel) rfl : List.Perm _ ([mainW K b (nA 0) (aA 0) (fun i => some (d i 0)) (fun i => some (e i 0)) T, celW K aA Ga, celW K (d 0) (D 0), celW K (d 1) (D 1), celW K (e 0) (S 0), celW K (e 1) (S 1), celW K (e 2) (S 2), celW K (e 3) (S 3), celW K (e 4) (S 4), celW K (e 5) (S 5), celW K nA F])) ?_
  refine J_callVd C0 (mX0_canLend l K nA F (k := c) (by omega)) [mainW K b (nA 0) (aA 0) (fun i => some (d i 0)) (fun i => some (e i 0)) T, celW K aA Ga, celW K (d 0) (D 0), celW K (d 1) (D 1), celW K (e 0) (S 0), celW K (e 1) (S 1), celW K (e 2) (S 2), celW K (e 3) (S 3), celW K (e 4) (S 4), celW K (e 5) (S 5)] [mainW K b (nA 0) (aA 0) (fun i => some (d i 0)) (fun i => some (e i 0)) T, celW K aA Ga, celW K (d 0) (D 0), celW K (d 1) (D 1), celW K (e 0) (S 0), celW K (e 1) (S 1), celW K (e 2) (S 2), celW K (e 3) (S 3), celW K (e 4) (S 4), celW K (e 5) (S 5), celW K nA F] gX4_lend_X0_canLend dX4_lend_11 1 0 (kk := ?_)
  refine J_perm (permI [0, 10, 1, 2, 3, 4, 5, 6, 7, 8, 9] 11 rfl (by decide +kernel) rfl : List.Perm _ (corkW K b nA aA d e F Ga D S T)) ?_
  show J G _ _ _ _ _ [.int (if canLendS F c then nI 1 else nI 0)]
  refine J_ifneB C0 25 dX4_lend_14 (kt := fun c1 => ?_) (kf := fun c1 => ?_)
  · refine J_aln C0 0 dX4_lend_25 (kk := ?_)
    refine J_get C0 iX4 0 0 4 f30 dX4_lend_26 (kk := ?_)
    refine J_aln C0 0 dX4_lend_29 (kk := ?_)
    refine J_get C0 iX4 0 0 0 f12 dX4_lend_30 (kk := ?_)
    refine J_callVd C0 (mX2_push l K b nA aA d e F Ga D S T (k := k) h6 hk) [] (corkW K b nA aA d (pushE k e) F Ga D (pushS k S F) (pushT k T)) gX4_lend_X2_push dX4_lend_33 1 3 (kk := ?_)
    show J G _ _ _ _ _ []
    refine J_aln C0 0 dX4_lend_36 (kk := ?_)
    refine J_get C0 iX4 0 0 0 f12 dX4_lend_37 (kk := ?_)
    refine J_iln C0 1 dX4_lend_40 (kk := ?_)
    refine J_iln C0 2 dX4_lend_41 (kk := ?_)
    refine J_callSd C0 (mX4_placeOf l K h c) [mainW K b (nA 0) (aA 0) (fun i => some (d i 0)) (fun i => some (pushE k e i 0)) (pushT k T), celW K nA F, celW K aA Ga, celW K (d 0) (D 0), celW K (d 1) (D 1), celW K (pushE k e 0) (pushS k S F 0), celW K (pushE k e 1) (pushS k S F 1), celW K (pushE k e 2) (pushS k S F 2), celW K (pushE k e 3) (pushS k S F 3), celW K (pushE k e 4) (pushS k S F 4), celW K (pushE k e 5) (pushS k S F 5)] (corkW K b nA aA d (pushE k e) F Ga D (pushS k S F) (pushT k T)) gX4_lend_X4_placeOf dX4_lend_42 2 (kk := ?_)
    show J G _ _ _ _ _ [.int (nI (h * 3 + c)), .ref (nA 0)]
    refine J_perm (permI [0, 2, 3, 4, 5, 6, 7, 8, 9, 10, 1] 11 rfl (by decide +kernel) rfl : List.Perm _ ([mainW K b (nA 0) (aA 0) (fun i => some (d i 0)) (fun i => some (pushE k e i 0)) (pushT k T), celW K aA Ga, celW K (d 0) (D 0), celW K (d 1) (D 1), celW K (pushE k e 0) (pushS k S F 0), celW K (pushE k e 1) (pushS k S F 1), celW K (pushE k e 2) (pushS k S F 2), celW K (pushE k e 3) (pushS k S F 3), celW K (pushE k e 4) (pushS k S F 4), celW K (pushE k e 5) (pushS k S F 5), celW K nA F])) ?_
    refine J_callVd C0 (mX0_lendCork l K nA F (n := n) hn (room_lt hn hc.2 h40) (p := h * 3 + c) (by omega)) [mainW K b (nA 0) (aA 0) (fun i => some (d i 0)) (fun i => some (pushE k e i 0)) (pushT k T), celW K aA Ga, celW K (d 0) (D 0), celW K (d 1) (D 1), celW K (pushE k e 0) (pushS k S F 0), celW K (pushE k e 1) (pushS k S F 1), celW K (pushE k e 2) (pushS k S F 2), celW K (pushE k e 3) (pushS k S F 3), celW K (pushE k e 4) (pushS k S F 4), celW K (pushE k e 5) (pushS k S F 5)] [mainW K b (nA 0) (aA 0) (fun i => some (d i 0)) (fun i => some (pushE k e i 0)) (pushT k T), celW K aA Ga, celW K (d 0) (D 0), celW K (d 1) (D 1), celW K (pushE k e 0) (pushS k S F 0), celW K (pushE k e 1) (pushS k S F 1), celW K (pushE k e 2) (pushS k S F 2), celW K (pushE k e 3) (pushS k S F 3), celW K (pushE k e 4) (pushS k S F 4), celW K (pushE k e 5) (pushS k S F 5), celW K nA (lendS F n (h * 3 + c))] gX4_lend_X0_lendCork dX4_lend_45 1 0 (kk := ?_)
    refine J_perm (permI [0, 10, 1, 2, 3, 4, 5, 6, 7, 8, 9] 11 rfl (by decide +kernel) rfl : List.Perm _ (corkW K b nA aA d (pushE k e) (lendS F n (h * 3 + c)) Ga D (pushS k S F) (pushT k T))) ?_
    show J G _ _ _ _ _ []
    refine J_aln C0 0 dX4_lend_48 (kk := ?_)
    refine J_get C0 iX4 0 0 0 f12 dX4_lend_49 (kk := ?_)
    refine J_iln C0 1 dX4_lend_52 (kk := ?_)
    refine J_iln C0 2 dX4_lend_53 (kk := ?_)
    refine J_callSd C0 (mX4_placeOf l K h c) [mainW K b (nA 0) (aA 0) (fun i => some (d i 0)) (fun i => some (pushE k e i 0)) (pushT k T), celW K nA (lendS F n (h * 3 + c)), celW K aA Ga, celW K (d 0) (D 0), celW K (d 1) (D 1), celW K (pushE k e 0) (pushS k S F 0), celW K (pushE k e 1) (pushS k S F 1), celW K (pushE k e 2) (pushS k S F 2), celW K (pushE k e 3) (pushS k S F 3), celW K (pushE k e 4) (pushS k S F 4), celW K (pushE k e 5) (pushS k S F 5)] (corkW K b nA aA d (pushE k e) (lendS F n (h * 3 + c)) Ga D (pushS k S F) (pushT k T)) gX4_lend_X4_placeOf dX4_lend_54 2 (kk := ?_)
    show J G _ _ _ _ _ [.int (nI (h * 3 + c)), .ref (nA 0)]
    refine J_perm (permI [0, 2, 3, 4, 5, 6, 7, 8, 9, 10, 1] 11 rfl (by decide +kernel) rfl : List.Perm _ ([mainW K b (nA 0) (aA 0) (fun i => some (d i 0)) (fun i => some (pushE k e i 0)) (pushT k T), celW K aA Ga, celW K (d 0) (D 0), celW K (d 1) (D 1), celW K (pushE k e 0) (pushS k S F 0), celW K (pushE k e 1) (pushS k S F 1), celW K (pushE k e 2) (pushS k S F 2), celW K (pushE k e 3) (pushS k S F 3), celW K (pushE k e 4) (pushS k S F 4), celW K (pushE k e 5) (pushS k S F 5), celW K nA (lendS F n (h * 3 + c))])) ?_
    refine J_callVd C0 (mX0_out l K nA (lendS F n (h * 3 + c)) (p := h * 3 + c) (by omega)) [mainW K b (nA 0) (aA 0) (fun i => some (d i 0)) (fun i => some (pushE k e i 0)) (pushT k T), celW K aA Ga, celW K (d 0) (D 0), celW K (d 1) (D 1), celW K (pushE k e 0) (pushS k S F 0), celW K (pushE k e 1) (pushS k S F 1), celW K (pushE k e 2) (pushS k S F 2), celW K (pushE k e 3) (pushS k S F 3), celW K (pushE k e 4) (pushS k S F 4), celW K (pushE k e 5) (pushS k S F 5)] [mainW K b (nA 0) (aA 0) (fun i => some (d i 0)) (fun i => some (pushE k e i 0)) (pushT k T), celW K aA Ga, celW K (d 0) (D 0), celW K (d 1) (D 1), celW K (pushE k e 0) (pushS k S F 0), celW K (pushE k e 1) (pushS k S F 1), celW K (pushE k e 2) (pushS k S F 2), celW K (pushE k e 3) (pushS k S F 3), celW K (pushE k e 4) (pushS k S F 4), celW K (pushE k e 5) (pushS k S F 5), celW K nA (lendS F n (h * 3 + c))] gX4_lend_X0_out dX4_lend_57 1 0 (kk := ?_)
    refine J_perm (permI [0, 10, 1, 2, 3, 4, 5, 6, 7, 8, 9] 11 rfl (by decide +kernel) rfl : List.Perm _ (corkW K b nA aA d (pushE k e) (lendS F n (h * 3 + c)) Ga D (pushS k S F) (pushT k T))) ?_
    show J G _ _ _ _ _ [.int (outS (lendS F n (h * 3 + c)) (h * 3 + c))]
    exact J_iret C0 hF dX4_lend_60 ⟨rfl, rfl⟩
  · exact absurd hc c1

abbrev rmX4_ask : Room := { frames := 4, cells := 0, slots := 0, locals := 103 }
set_option maxHeartbeats 4000000 in
set_option maxRecDepth 100000 in
theorem mX4_ask (l : Launch) (K : KT) (b nA aA : Nat → Nat) (d e : Nat → Nat → Nat) (F Ga : FF) (D S : Nat → FF) (T : FF) {k : Nat} (h6 : k ≤ 6) (hk : T 0 0 = nI k) {h c : Nat} (hh : h < 4) (hc3 : c < 3) (hp : isPl F (nI h) (nI c)) {n : Nat} (hn : F 0 4 = nI n) (h40 : n ≤ 40) (hc : roomS F) : Ct l K yX4_ask wsX4_ask rmX4_ask [.ref (b 0), .int (nI h), .int (nI c)] (corkW K b nA aA d e F Ga D S T) (some (.int (askS F n (h * 3 + c) 0 4))) (corkW K b nA aA d (pushE k e) (askS F n (h * 3 + c)) Ga D (pushS k S F) (pushT k T)) := by
  refine CtP_of (cc := cX4_ask) (nL := 3) (rt := some .int) (own := RX4) (lv0 := [(0, .ref (b 0)), (1, .int (nI h)), (2, .int (nI c))]) (by decide) rfl (Nat.le_of_ble_eq_true rfl) rfl rfl ?_
  intro G C0 hF _
  have f12 : Cond.fieldLink RX4 12 "CorkPermits" "now" "LCorkPermits$Cellar;" ∈ wsX4_ask := by decide +kernel
  have iX4 : ∀ w ∈ u_ws RX4 TX4 6, w ∈ wsX4_ask := by decide +kernel
  have f88 : Cond.fieldLink RX4 88 "CorkPermits$Cellar" "post" "LCorkPermits$Post;" ∈ wsX4_ask := by decide +kernel
  have iX0 : ∀ w ∈ u_ws RX0 TX0 14, w ∈ wsX4_ask := by decide +kernel
  have f30 : Cond.fieldLink RX4 30 "CorkPermits" "history" "LCorkPermits$History;" ∈ wsX4_ask := by decide +kernel
  have f101 : Cond.fieldLink RX4 101 "CorkPermits$Post" "underWay" "I" ∈ wsX4_ask := by decide +kernel
  have iX3 : ∀ w ∈ u_ws RX3 TX3 7, w ∈ wsX4_ask := by decide +kernel
  refine J_aln C0 0 dX4_ask_0 (kk := ?_)
  refine J_iln C0 1 dX4_ask_1 (kk := ?_)
  refine J_iln C0 2 dX4_ask_2 (kk := ?_)
  refine J_callVd C0 (mX4_requirePlace l K b nA aA d e F Ga D S T (x := nI h) (y := nI c) hp) [] (corkW K b nA aA d e F Ga D S T) gX4_ask_X4_requirePlace dX4_ask_3 2 0 (kk := ?_)
  show J G _ _ _ _ _ []
  refine J_aln C0 0 dX4_ask_6 (kk := ?_)
  refine J_get C0 iX4 0 0 0 f12 dX4_ask_7 (kk := ?_)
  refine J_get C0 iX0 1 0 13 f88 dX4_ask_10 (kk := ?_)
  refine J_perm (permI [0, 2, 3, 4, 5, 6, 7, 8, 9, 10, 1] 11 rfl (by decide +kernel) rfl : List.Perm _ ([mainW K b (nA 0) (aA 0) (fun i => some (d i 0)) (fun i => some (e i 0)) T, celW K aA Ga, celW K (d 0) (D 0), celW K (d 1) (D 1), celW K (e 0) (S 0), celW K (e 1) (S 1), celW K (e 2) (S 2), celW K (e 3) (S 3), celW K (e 4) (S 4), celW K (e 5) (S 5), celW K nA F])) ?_
  refine J_callVd C0 (mX3_hasRoom l K nA F) [mainW K b (nA 0) (aA 0) (fun i => some (d i 0)) (fun i => some (e i 0)) T, celW K aA Ga, celW K (d 0) (D 0), celW K (d 1) (D 1), celW K (e 0) (S 0), celW K (e 1) (S 1), celW K (e 2) (S 2), celW K (e 3) (S 3), celW K (e 4) (S 4), celW K (e 5) (S 5)] [mainW K b (nA 0) (aA 0) (fun i => some (d i 0)) (fun i => some (e i 0)) T, celW K aA Ga, celW K (d 0) (D 0), celW K (d 1) (D 1), celW K (e 0) (S 0), celW K (e 1) (S 1), celW K (e 2) (S 2), celW K (e 3) (S 3), celW K (e 4) (S 4), celW K (e 5) (S 5), celW K nA F] gX4_ask_X3_hasRoom dX4_ask_13 0 12 (kk := ?_)
  refine J_perm (permI [0, 10, 1, 2, 3, 4, 5, 6, 7, 8, 9] 11 rfl (by decide +kernel) rfl : List.Perm _ (corkW K b nA aA d e F Ga D S T)) ?_
  show J G _ _ _ _ _ [.int (if roomS F then nI 1 else nI 0)]
  refine J_ifneB C0 27 dX4_ask_16 (kt := fun c1 => ?_) (kf := fun c1 => ?_)
  · refine J_aln C0 0 dX4_ask_27 (kk := ?_)
    refine J_get C0 iX4 0 0 4 f30 dX4_ask_28 (kk := ?_)
    refine J_aln C0 0 dX4_ask_31 (kk := ?_)
    refine J_get C0 iX4 0 0 0 f12 dX4_ask_32 (kk := ?_)
    refine J_callVd C0 (mX2_push l K b nA aA d e F Ga D S T (k := k) h6 hk) [] (corkW K b nA aA d (pushE k e) F Ga D (pushS k S F) (pushT k T)) gX4_ask_X2_push dX4_ask_35 1 3 (kk := ?_)
    show J G _ _ _ _ _ []
    refine J_aln C0 0 dX4_ask_38 (kk := ?_)
    refine J_get C0 iX4 0 0 0 f12 dX4_ask_39 (kk := ?_)
    refine J_iln C0 1 dX4_ask_42 (kk := ?_)
    refine J_iln C0 2 dX4_ask_43 (kk := ?_)
    refine J_callSd C0 (mX4_placeOf l K h c) [mainW K b (nA 0) (aA 0) (fun i => some (d i 0)) (fun i => some (pushE k e i 0)) (pushT k T), celW K nA F, celW K aA Ga, celW K (d 0) (D 0), celW K (d 1) (D 1), celW K (pushE k e 0) (pushS k S F 0), celW K (pushE k e 1) (pushS k S F 1), celW K (pushE k e 2) (pushS k S F 2), celW K (pushE k e 3) (pushS k S F 3), celW K (pushE k e 4) (pushS k S F 4), celW K (pushE k e 5) (pushS k S F 5)] (corkW K b nA aA d (pushE k e) F Ga D (pushS k S F) (pushT k T)) gX4_ask_X4_placeOf dX4_ask_44 2 (kk := ?_)
    show J G _ _ _ _ _ [.int (nI (h * 3 + c)), .ref (nA 0)]
    refine J_perm (permI [0, 2, 3, 4, 5, 6, 7, 8, 9, 10, 1] 11 rfl (by decide +kernel) rfl : List.Perm _ ([mainW K b (nA 0) (aA 0) (fun i => some (d i 0)) (fun i => some (pushE k e i 0)) (pushT k T), celW K aA Ga, celW K (d 0) (D 0), celW K (d 1) (D 1), celW K (pushE k e 0) (pushS k S F 0), celW K (pushE k e 1) (pushS k S F 1), celW K (pushE k e 2) (pushS k S F 2), celW K (pushE k e 3) (pushS k S F 3), celW K (pushE k e 4) (pushS k S F 4), celW K (pushE k e 5) (pushS k S F 5), celW K nA F])) ?_
    refine J_callVd C0 (mX0_sendQuestion l K nA F (n := n) hn (room_lt hn hc h40) (p := h * 3 + c) (by omega)) [mainW K b (nA 0) (aA 0) (fun i => some (d i 0)) (fun i => some (pushE k e i 0)) (pushT k T), celW K aA Ga, celW K (d 0) (D 0), celW K (d 1) (D 1), celW K (pushE k e 0) (pushS k S F 0), celW K (pushE k e 1) (pushS k S F 1), celW K (pushE k e 2) (pushS k S F 2), celW K (pushE k e 3) (pushS k S F 3), celW K (pushE k e 4) (pushS k S F 4), celW K (pushE k e 5) (pushS k S F 5)] [mainW K b (nA 0) (aA 0) (fun i => some (d i 0)) (fun i => some (pushE k e i 0)) (pushT k T), celW K aA Ga, celW K (d 0) (D 0), celW K (d 1) (D 1), celW K (pushE k e 0) (pushS k S F 0), celW K (pushE k e 1) (pushS k S F 1), celW K (pushE k e 2) (pushS k S F 2), celW K (pushE k e 3) (pushS k S F 3), celW K (pushE k e 4) (pushS k S F 4), celW K (pushE k e 5) (pushS k S F 5), celW K nA (askS F n (h * 3 + c))] gX4_ask_X0_sendQuestion dX4_ask_47 1 0 (kk := ?_)
    refine J_perm (permI [0, 10, 1, 2, 3, 4, 5, 6, 7, 8, 9] 11 rfl (by decide +kernel) rfl : List.Perm _ (corkW K b nA aA d (pushE k e) (askS F n (h * 3 + c)) Ga D (pushS k S F) (pushT k T))) ?_
    show J G _ _ _ _ _ []
    refine J_aln C0 0 dX4_ask_50 (kk := ?_)
    refine J_get C0 iX4 0 0 0 f12 dX4_ask_51 (kk := ?_)
    refine J_get C0 iX0 1 0 13 f88 dX4_ask_54 (kk := ?_)
    refine J_get C0 iX3 1 12 2 f101 dX4_ask_57 (kk := ?_)
    exact J_iret C0 hF dX4_ask_60 ⟨rfl, rfl⟩
  · exact absurd hc c1

abbrev rmX4_want : Room := { frames := 4, cells := 0, slots := 0, locals := 103 }
set_option maxHeartbeats 4000000 in
set_option maxRecDepth 100000 in
theorem mX4_want (l : Launch) (K : KT) (b nA aA : Nat → Nat) (d e : Nat → Nat → Nat) (F Ga : FF) (D S : Nat → FF) (T : FF) {k : Nat} (h6 : k ≤ 6) (hk : T 0 0 = nI k) {h c : Nat} (hh : h < 4) (hc3 : c < 3) (hp : isPl F (nI h) (nI c)) (hc : ¬ nI 9 ≤ F 11 (h * 3 + c)) : Ct l K yX4_want wsX4_want rmX4_want [.ref (b 0), .int (nI h), .int (nI c)] (corkW K b nA aA d e F Ga D S T) (some (.int (F 11 (h * 3 + c) + nI 1))) (corkW K b nA aA d (pushE k e) (u2 F 11 (h * 3 + c) (F 11 (h * 3 + c) + nI 1)) Ga D (pushS k S F) (pushT k T)) := by
  refine CtP_of (cc := cX4_want) (nL := 3) (rt := some .int) (own := RX4) (lv0 := [(0, .ref (b 0)), (1, .int (nI h)), (2, .int (nI c))]) (by decide) rfl (Nat.le_of_ble_eq_true rfl) rfl rfl ?_
  intro G C0 hF _
  have f12 : Cond.fieldLink RX4 12 "CorkPermits" "now" "LCorkPermits$Cellar;" ∈ wsX4_want := by decide +kernel
  have iX4 : ∀ w ∈ u_ws RX4 TX4 6, w ∈ wsX4_want := by decide +kernel
  have f30 : Cond.fieldLink RX4 30 "CorkPermits" "history" "LCorkPermits$History;" ∈ wsX4_want := by decide +kernel
  have f107 : Cond.fieldLink RX4 107 "CorkPermits$Cellar" "waiting" "[I" ∈ wsX4_want := by decide +kernel
  have iX0 : ∀ w ∈ u_ws RX0 TX0 14, w ∈ wsX4_want := by decide +kernel
  refine J_aln C0 0 dX4_want_0 (kk := ?_)
  refine J_iln C0 1 dX4_want_1 (kk := ?_)
  refine J_iln C0 2 dX4_want_2 (kk := ?_)
  refine J_callVd C0 (mX4_requirePlace l K b nA aA d e F Ga D S T (x := nI h) (y := nI c) hp) [] (corkW K b nA aA d e F Ga D S T) gX4_want_X4_requirePlace dX4_want_3 2 0 (kk := ?_)
  show J G _ _ _ _ _ []
  refine J_aln C0 0 dX4_want_6 (kk := ?_)
  refine J_get C0 iX4 0 0 0 f12 dX4_want_7 (kk := ?_)
  refine J_iln C0 1 dX4_want_10 (kk := ?_)
  refine J_iln C0 2 dX4_want_11 (kk := ?_)
  refine J_callSd C0 (mX4_placeOf l K h c) [mainW K b (nA 0) (aA 0) (fun i => some (d i 0)) (fun i => some (e i 0)) T, celW K nA F, celW K aA Ga, celW K (d 0) (D 0), celW K (d 1) (D 1), celW K (e 0) (S 0), celW K (e 1) (S 1), celW K (e 2) (S 2), celW K (e 3) (S 3), celW K (e 4) (S 4), celW K (e 5) (S 5)] (corkW K b nA aA d e F Ga D S T) gX4_want_X4_placeOf dX4_want_12 2 (kk := ?_)
  show J G _ _ _ _ _ [.int (nI (h * 3 + c)), .ref (nA 0)]
  refine J_perm (permI [0, 2, 3, 4, 5, 6, 7, 8, 9, 10, 1] 11 rfl (by decide +kernel) rfl : List.Perm _ ([mainW K b (nA 0) (aA 0) (fun i => some (d i 0)) (fun i => some (e i 0)) T, celW K aA Ga, celW K (d 0) (D 0), celW K (d 1) (D 1), celW K (e 0) (S 0), celW K (e 1) (S 1), celW K (e 2) (S 2), celW K (e 3) (S 3), celW K (e 4) (S 4), celW K (e 5) (S 5), celW K nA F])) ?_
  refine J_callVd C0 (mX0_canWait l K nA F (p := h * 3 + c) (by omega)) [mainW K b (nA 0) (aA 0) (fun i => some (d i 0)) (fun i => some (e i 0)) T, celW K aA Ga, celW K (d 0) (D 0), celW K (d 1) (D 1), celW K (e 0) (S 0), celW K (e 1) (S 1), celW K (e 2) (S 2), celW K (e 3) (S 3), celW K (e 4) (S 4), celW K (e 5) (S 5)] [mainW K b (nA 0) (aA 0) (fun i => some (d i 0)) (fun i => some (e i 0)) T, celW K aA Ga, celW K (d 0) (D 0), celW K (d 1) (D 1), celW K (e 0) (S 0), celW K (e 1) (S 1), celW K (e 2) (S 2), celW K (e 3) (S 3), celW K (e 4) (S 4), celW K (e 5) (S 5), celW K nA F] gX4_want_X0_canWait dX4_want_15 1 0 (kk := ?_)
  refine J_perm (permI [0, 10, 1, 2, 3, 4, 5, 6, 7, 8, 9] 11 rfl (by decide +kernel) rfl : List.Perm _ (corkW K b nA aA d e F Ga D S T)) ?_
  show J G _ _ _ _ _ [.int (if ¬ nI 9 ≤ F 11 (h * 3 + c) then nI 1 else nI 0)]
  refine J_ifneB C0 29 dX4_want_18 (kt := fun c1 => ?_) (kf := fun c1 => ?_)
  · refine J_aln C0 0 dX4_want_29 (kk := ?_)
    refine J_get C0 iX4 0 0 4 f30 dX4_want_30 (kk := ?_)
    refine J_aln C0 0 dX4_want_33 (kk := ?_)
    refine J_get C0 iX4 0 0 0 f12 dX4_want_34 (kk := ?_)
    refine J_callVd C0 (mX2_push l K b nA aA d e F Ga D S T (k := k) h6 hk) [] (corkW K b nA aA d (pushE k e) F Ga D (pushS k S F) (pushT k T)) gX4_want_X2_push dX4_want_37 1 3 (kk := ?_)
    show J G _ _ _ _ _ []
    refine J_aln C0 0 dX4_want_40 (kk := ?_)
    refine J_get C0 iX4 0 0 0 f12 dX4_want_41 (kk := ?_)
    refine J_get C0 iX0 1 0 12 f107 dX4_want_44 (kk := ?_)
    refine J_iln C0 1 dX4_want_47 (kk := ?_)
    refine J_iln C0 2 dX4_want_48 (kk := ?_)
    refine J_callSd C0 (mX4_placeOf l K h c) [mainW K b (nA 0) (aA 0) (fun i => some (d i 0)) (fun i => some (pushE k e i 0)) (pushT k T), celW K nA F, celW K aA Ga, celW K (d 0) (D 0), celW K (d 1) (D 1), celW K (pushE k e 0) (pushS k S F 0), celW K (pushE k e 1) (pushS k S F 1), celW K (pushE k e 2) (pushS k S F 2), celW K (pushE k e 3) (pushS k S F 3), celW K (pushE k e 4) (pushS k S F 4), celW K (pushE k e 5) (pushS k S F 5)] (corkW K b nA aA d (pushE k e) F Ga D (pushS k S F) (pushT k T)) gX4_want_X4_placeOf dX4_want_49 2 (kk := ?_)
    show J G _ _ _ _ _ [.int (nI (h * 3 + c)), .ref (nA 11)]
    refine J_dup2 C0 dX4_want_52 (kk := ?_)
    refine J_iald C0 1 11 12 dX4_want_53 (by omega) (kk := ?_)
    refine J_ic C0 1 dX4_want_54 (kk := ?_)
    refine J_iadd C0 dX4_want_55 ?_
    refine J_iast C0 1 11 12 (corkW K b nA aA d (pushE k e) (u2 F 11 (h * 3 + c) ((F 11 (h * 3 + c)) + (nI 1))) Ga D (pushS k S F) (pushT k T)) dX4_want_56 (by omega) (kk := ?_)
    refine J_aln C0 0 dX4_want_57 (kk := ?_)
    refine J_get C0 iX4 0 0 0 f12 dX4_want_58 (kk := ?_)
    refine J_get C0 iX0 1 0 12 f107 dX4_want_61 (kk := ?_)
    refine J_iln C0 1 dX4_want_64 (kk := ?_)
    refine J_iln C0 2 dX4_want_65 (kk := ?_)
    refine J_callSd C0 (mX4_placeOf l K h c) [mainW K b (nA 0) (aA 0) (fun i => some (d i 0)) (fun i => some (pushE k e i 0)) (pushT k T), celW K nA (u2 F 11 (h * 3 + c) ((F 11 (h * 3 + c)) + (nI 1))), celW K aA Ga, celW K (d 0) (D 0), celW K (d 1) (D 1), celW K (pushE k e 0) (pushS k S F 0), celW K (pushE k e 1) (pushS k S F 1), celW K (pushE k e 2) (pushS k S F 2), celW K (pushE k e 3) (pushS k S F 3), celW K (pushE k e 4) (pushS k S F 4), celW K (pushE k e 5) (pushS k S F 5)] (corkW K b nA aA d (pushE k e) (u2 F 11 (h * 3 + c) ((F 11 (h * 3 + c)) + (nI 1))) Ga D (pushS k S F) (pushT k T)) gX4_want_X4_placeOf dX4_want_66 2 (kk := ?_)
    show J G _ _ _ _ _ [.int (nI (h * 3 + c)), .ref (nA 11)]
    refine J_iald C0 1 11 12 dX4_want_69 (by omega) (v := ((F 11 (h * 3 + c)) + (nI 1))) (hv := by first | rfl | exact u2_s _ _ _ _ | simp [u2, upd]) (kk := ?_)
    exact J_iret C0 hF dX4_want_70 ⟨rfl, rfl⟩
  · exact absurd hc c1

abbrev rmX4_drink : Room := { frames := 4, cells := 0, slots := 0, locals := 103 }
set_option maxHeartbeats 4000000 in
set_option maxRecDepth 100000 in
theorem mX4_drink (l : Launch) (K : KT) (b nA aA : Nat → Nat) (d e : Nat → Nat → Nat) (F Ga : FF) (D S : Nat → FF) (T : FF) {k : Nat} (h6 : k ≤ 6) (hk : T 0 0 = nI k) {c : Nat} (hc3 : c < 3) (hc : 0 < F 3 c) : Ct l K yX4_drink wsX4_drink rmX4_drink [.ref (b 0), .int (nI c)] (corkW K b nA aA d e F Ga D S T) (some (.int (drinkS F c 3 c))) (corkW K b nA aA d (pushE k e) (drinkS F c) Ga D (pushS k S F) (pushT k T)) := by
  refine CtP_of (cc := cX4_drink) (nL := 2) (rt := some .int) (own := RX4) (lv0 := [(0, .ref (b 0)), (1, .int (nI c))]) (by decide) rfl (Nat.le_of_ble_eq_true rfl) rfl rfl ?_
  intro G C0 hF _
  have f12 : Cond.fieldLink RX4 12 "CorkPermits" "now" "LCorkPermits$Cellar;" ∈ wsX4_drink := by decide +kernel
  have iX4 : ∀ w ∈ u_ws RX4 TX4 6, w ∈ wsX4_drink := by decide +kernel
  have f59 : Cond.fieldLink RX4 59 "CorkPermits$Cellar" "full" "[I" ∈ wsX4_drink := by decide +kernel
  have iX0 : ∀ w ∈ u_ws RX0 TX0 14, w ∈ wsX4_drink := by decide +kernel
  have f30 : Cond.fieldLink RX4 30 "CorkPermits" "history" "LCorkPermits$History;" ∈ wsX4_drink := by decide +kernel
  refine J_iln C0 1 dX4_drink_0 (kk := ?_)
  refine J_callSd C0 (mX4_requireKind l K (k := c) (by omega)) [mainW K b (nA 0) (aA 0) (fun i => some (d i 0)) (fun i => some (e i 0)) T, celW K nA F, celW K aA Ga, celW K (d 0) (D 0), celW K (d 1) (D 1), celW K (e 0) (S 0), celW K (e 1) (S 1), celW K (e 2) (S 2), celW K (e 3) (S 3), celW K (e 4) (S 4), celW K (e 5) (S 5)] (corkW K b nA aA d e F Ga D S T) gX4_drink_X4_requireKind dX4_drink_1 1 (kk := ?_)
  show J G _ _ _ _ _ []
  refine J_aln C0 0 dX4_drink_4 (kk := ?_)
  refine J_get C0 iX4 0 0 0 f12 dX4_drink_5 (kk := ?_)
  refine J_get C0 iX0 1 0 4 f59 dX4_drink_8 (kk := ?_)
  refine J_iln C0 1 dX4_drink_11 (kk := ?_)
  refine J_iald C0 1 3 3 dX4_drink_12 (by omega) (kk := ?_)
  refine J_ifgt C0 24 dX4_drink_13 (kt := fun c1 => ?_) (kf := fun c1 => ?_)
  · refine J_aln C0 0 dX4_drink_24 (kk := ?_)
    refine J_get C0 iX4 0 0 4 f30 dX4_drink_25 (kk := ?_)
    refine J_aln C0 0 dX4_drink_28 (kk := ?_)
    refine J_get C0 iX4 0 0 0 f12 dX4_drink_29 (kk := ?_)
    refine J_callVd C0 (mX2_push l K b nA aA d e F Ga D S T (k := k) h6 hk) [] (corkW K b nA aA d (pushE k e) F Ga D (pushS k S F) (pushT k T)) gX4_drink_X2_push dX4_drink_32 1 3 (kk := ?_)
    show J G _ _ _ _ _ []
    refine J_aln C0 0 dX4_drink_35 (kk := ?_)
    refine J_get C0 iX4 0 0 0 f12 dX4_drink_36 (kk := ?_)
    refine J_iln C0 1 dX4_drink_39 (kk := ?_)
    refine J_perm (permI [0, 2, 3, 4, 5, 6, 7, 8, 9, 10, 1] 11 rfl (by decide +kernel) rfl : List.Perm _ ([mainW K b (nA 0) (aA 0) (fun i => some (d i 0)) (fun i => some (pushE k e i 0)) (pushT k T), celW K aA Ga, celW K (d 0) (D 0), celW K (d 1) (D 1), celW K (pushE k e 0) (pushS k S F 0), celW K (pushE k e 1) (pushS k S F 1), celW K (pushE k e 2) (pushS k S F 2), celW K (pushE k e 3) (pushS k S F 3), celW K (pushE k e 4) (pushS k S F 4), celW K (pushE k e 5) (pushS k S F 5), celW K nA F])) ?_
    refine J_callVd C0 (mX0_emptyBottle l K nA F (k := c) (by omega)) [mainW K b (nA 0) (aA 0) (fun i => some (d i 0)) (fun i => some (pushE k e i 0)) (pushT k T), celW K aA Ga, celW K (d 0) (D 0), celW K (d 1) (D 1), celW K (pushE k e 0) (pushS k S F 0), celW K (pushE k e 1) (pushS k S F 1), celW K (pushE k e 2) (pushS k S F 2), celW K (pushE k e 3) (pushS k S F 3), celW K (pushE k e 4) (pushS k S F 4), celW K (pushE k e 5) (pushS k S F 5)] [mainW K b (nA 0) (aA 0) (fun i => some (d i 0)) (fun i => some (pushE k e i 0)) (pushT k T), celW K aA Ga, celW K (d 0) (D 0), celW K (d 1) (D 1), celW K (pushE k e 0) (pushS k S F 0), celW K (pushE k e 1) (pushS k S F 1), celW K (pushE k e 2) (pushS k S F 2), celW K (pushE k e 3) (pushS k S F 3), celW K (pushE k e 4) (pushS k S F 4), celW K (pushE k e 5) (pushS k S F 5), celW K nA (drinkS F c)] gX4_drink_X0_emptyBottle dX4_drink_40 1 0 (kk := ?_)
    refine J_perm (permI [0, 10, 1, 2, 3, 4, 5, 6, 7, 8, 9] 11 rfl (by decide +kernel) rfl : List.Perm _ (corkW K b nA aA d (pushE k e) (drinkS F c) Ga D (pushS k S F) (pushT k T))) ?_
    show J G _ _ _ _ _ []
    refine J_aln C0 0 dX4_drink_43 (kk := ?_)
    refine J_get C0 iX4 0 0 0 f12 dX4_drink_44 (kk := ?_)
    refine J_get C0 iX0 1 0 4 f59 dX4_drink_47 (kk := ?_)
    refine J_iln C0 1 dX4_drink_50 (kk := ?_)
    refine J_iald C0 1 3 3 dX4_drink_51 (by omega) (kk := ?_)
    exact J_iret C0 hF dX4_drink_52 ⟨rfl, rfl⟩
  · exact absurd hc c1

abbrev rmX4_append : Room := { frames := 0, cells := 0, slots := 0, locals := 0 }
set_option maxHeartbeats 4000000 in
set_option maxRecDepth 100000 in
theorem mX4_append (l : Launch) (K : KT) (b nA aA : Nat → Nat) (d e : Nat → Nat → Nat) (F Ga : FF) (D S : Nat → FF) (T : FF) {x : Int32} (hx1 : ¬ x < nI 33) (hx2 : x ≤ nI 126) {n : Nat} (hl : T 0 1 = nI n) (h60 : n < 60) : Ct l K yX4_append wsX4_append rmX4_append [.ref (b 0), .int x] (corkW K b nA aA d e F Ga D S T) (some (.int (nI (n + 1)))) (corkW K b nA aA d e F Ga D S (u2 (u2 T 2 n x) 0 1 (nI (n + 1)))) := by
  refine CtP_of (cc := cX4_append) (nL := 2) (rt := some .int) (own := RX4) (lv0 := [(0, .ref (b 0)), (1, .int x)]) (by decide) rfl (Nat.le_of_ble_eq_true rfl) rfl rfl ?_
  intro G C0 hF _
  have f37 : Cond.fieldLink RX4 37 "CorkPermits" "text" "LCorkPermits$DayText;" ∈ wsX4_append := by decide +kernel
  have iX4 : ∀ w ∈ u_ws RX4 TX4 6, w ∈ wsX4_append := by decide +kernel
  have f141 : Cond.fieldLink RX4 141 "CorkPermits$DayText" "length" "I" ∈ wsX4_append := by decide +kernel
  have iX1 : ∀ w ∈ u_ws RX1 TX1 2, w ∈ wsX4_append := by decide +kernel
  have f144 : Cond.fieldLink RX4 144 "CorkPermits$DayText" "codes" "[I" ∈ wsX4_append := by decide +kernel
  refine J_iln C0 1 dX4_append_0 (kk := ?_)
  refine J_bi C0 33 dX4_append_1 (kk := ?_)
  refine J_icmplt C0 12 dX4_append_3 (kt := fun c1 => ?_) (kf := fun c1 => ?_)
  · exact absurd c1 hx1
  · refine J_iln C0 1 dX4_append_6 (kk := ?_)
    refine J_bi C0 126 dX4_append_7 (kk := ?_)
    refine J_icmple C0 20 dX4_append_9 (kt := fun c2 => ?_) (kf := fun c2 => ?_)
    · refine J_aln C0 0 dX4_append_20 (kk := ?_)
      refine J_get C0 iX4 0 0 5 f37 dX4_append_21 (kk := ?_)
      refine J_get C0 iX1 0 5 1 f141 dX4_append_24 (v := .int (nI n)) (hv := congrArg (fun z => some (Value.int z)) hl) (kk := ?_)
      refine J_bi C0 60 dX4_append_27 (kk := ?_)
      refine J_icmpltN C0 40 (by omega) (by omega) dX4_append_29 (kt := fun c3 => ?_) (kf := fun c3 => ?_)
      · refine J_aln C0 0 dX4_append_40 (kk := ?_)
        refine J_get C0 iX4 0 0 5 f37 dX4_append_41 (kk := ?_)
        refine J_get C0 iX1 0 5 0 f144 dX4_append_44 (kk := ?_)
        refine J_aln C0 0 dX4_append_47 (kk := ?_)
        refine J_get C0 iX4 0 0 5 f37 dX4_append_48 (kk := ?_)
        refine J_get C0 iX1 0 5 1 f141 dX4_append_51 (v := .int (nI n)) (hv := congrArg (fun z => some (Value.int z)) hl) (kk := ?_)
        refine J_iln C0 1 dX4_append_54 (kk := ?_)
        refine J_iast C0 0 6 60 (corkW K b nA aA d e F Ga D S (u2 T 2 n x)) dX4_append_55 (by omega) (kk := ?_)
        refine J_aln C0 0 dX4_append_56 (kk := ?_)
        refine J_get C0 iX4 0 0 5 f37 dX4_append_57 (kk := ?_)
        refine J_dup C0 dX4_append_60 (kk := ?_)
        refine J_get C0 iX1 0 5 1 f141 dX4_append_61 (v := .int (nI n)) (hv := congrArg (fun z => some (Value.int z)) hl) (kk := ?_)
        refine J_ic C0 1 dX4_append_64 (kk := ?_)
        refine J_iaddN C0 dX4_append_65 ?_
        refine J_put C0 iX1 tyX1_ok nmX1 0 5 1 (corkW K b nA aA d e F Ga D S (u2 (u2 T 2 n x) 0 1 (nI (n + 1)))) f141 dX4_append_66 (hd := rfl) (kk := ?_)
        refine J_aln C0 0 dX4_append_69 (kk := ?_)
        refine J_get C0 iX4 0 0 5 f37 dX4_append_70 (kk := ?_)
        refine J_get C0 iX1 0 5 1 f141 dX4_append_73 (v := .int (nI (n + 1))) (hv := rfl) (kk := ?_)
        exact J_iret C0 hF dX4_append_76 ⟨rfl, rfl⟩
      · exfalso; omega
    · exact absurd hx2 c2

abbrev rmX4_clearBuffer : Room := { frames := 0, cells := 0, slots := 0, locals := 0 }
set_option maxHeartbeats 4000000 in
set_option maxRecDepth 100000 in
theorem mX4_clearBuffer (l : Launch) (K : KT) (b nA aA : Nat → Nat) (d e : Nat → Nat → Nat) (F Ga : FF) (D S : Nat → FF) (T : FF) : Ct l K yX4_clearBuffer wsX4_clearBuffer rmX4_clearBuffer [.ref (b 0)] (corkW K b nA aA d e F Ga D S T) (some (.int (T 0 1))) (corkW K b nA aA d e F Ga D S (u2 T 0 1 (nI 0))) := by
  refine CtP_of (cc := cX4_clearBuffer) (nL := 2) (rt := some .int) (own := RX4) (lv0 := [(0, .ref (b 0))]) (by decide) rfl (Nat.le_of_ble_eq_true rfl) rfl rfl ?_
  intro G C0 hF _
  have f37 : Cond.fieldLink RX4 37 "CorkPermits" "text" "LCorkPermits$DayText;" ∈ wsX4_clearBuffer := by decide +kernel
  have iX4 : ∀ w ∈ u_ws RX4 TX4 6, w ∈ wsX4_clearBuffer := by decide +kernel
  have f141 : Cond.fieldLink RX4 141 "CorkPermits$DayText" "length" "I" ∈ wsX4_clearBuffer := by decide +kernel
  have iX1 : ∀ w ∈ u_ws RX1 TX1 2, w ∈ wsX4_clearBuffer := by decide +kernel
  refine J_aln C0 0 dX4_clearBuffer_0 (kk := ?_)
  refine J_get C0 iX4 0 0 5 f37 dX4_clearBuffer_1 (kk := ?_)
  refine J_get C0 iX1 0 5 1 f141 dX4_clearBuffer_4 (kk := ?_)
  refine J_isn C0 [(1, .int (T 0 1)), (0, .ref (b 0))] dX4_clearBuffer_7 (kk := ?_)
  refine J_aln C0 1 dX4_clearBuffer_8 (kk := ?_)
  refine J_get C0 iX4 0 0 5 f37 dX4_clearBuffer_9 (kk := ?_)
  refine J_ic C0 0 dX4_clearBuffer_12 (kk := ?_)
  refine J_put C0 iX1 tyX1_ok nmX1 0 5 1 (corkW K b nA aA d e F Ga D S (u2 T 0 1 (nI 0))) f141 dX4_clearBuffer_13 (hd := rfl) (kk := ?_)
  refine J_iln C0 0 dX4_clearBuffer_16 (kk := ?_)
  exact J_iret C0 hF dX4_clearBuffer_17 ⟨rfl, rfl⟩

abbrev rmX4_firstError : Room := { frames := 3, cells := 0, slots := 0, locals := 63 }
set_option maxHeartbeats 4000000 in
set_option maxRecDepth 100000 in
theorem mX4_firstError (l : Launch) (K : KT) (b nA aA : Nat → Nat) (d e : Nat → Nat → Nat) (F Ga : FF) (D S : Nat → FF) (T : FF) {n : Nat} (hn : T 0 1 = nI n) (h60 : n ≤ 60) : Ct l K yX4_firstError wsX4_firstError rmX4_firstError [.ref (b 0)] (corkW K b nA aA d e F Ga D S T) (some (.int (nI (fwGo T n 0)))) (corkW K b nA aA d e F Ga D S T) := by
  refine CtP_of (cc := cX4_firstError) (nL := 1) (rt := some .int) (own := RX4) (lv0 := [(0, .ref (b 0))]) (by decide) rfl (Nat.le_of_ble_eq_true rfl) rfl rfl ?_
  intro G C0 hF _
  have f37 : Cond.fieldLink RX4 37 "CorkPermits" "text" "LCorkPermits$DayText;" ∈ wsX4_firstError := by decide +kernel
  have iX4 : ∀ w ∈ u_ws RX4 TX4 6, w ∈ wsX4_firstError := by decide +kernel
  refine J_aln C0 0 dX4_firstError_0 (kk := ?_)
  refine J_get C0 iX4 0 0 5 f37 dX4_firstError_1 (kk := ?_)
  refine J_perm (permI [1, 2, 3, 4, 5, 6, 7, 8, 9, 10, 0] 11 rfl (by decide +kernel) rfl : List.Perm _ ([celW K nA F, celW K aA Ga, celW K (d 0) (D 0), celW K (d 1) (D 1), celW K (e 0) (S 0), celW K (e 1) (S 1), celW K (e 2) (S 2), celW K (e 3) (S 3), celW K (e 4) (S 4), celW K (e 5) (S 5), mainW K b (nA 0) (aA 0) (fun i => some (d i 0)) (fun i => some (e i 0)) T])) ?_
  refine J_callVd C0 (mX1_firstWrongSign l K b (nA 0) (aA 0) (fun i => some (d i 0)) (fun i => some (e i 0)) T hn h60) [celW K nA F, celW K aA Ga, celW K (d 0) (D 0), celW K (d 1) (D 1), celW K (e 0) (S 0), celW K (e 1) (S 1), celW K (e 2) (S 2), celW K (e 3) (S 3), celW K (e 4) (S 4), celW K (e 5) (S 5)] [celW K nA F, celW K aA Ga, celW K (d 0) (D 0), celW K (d 1) (D 1), celW K (e 0) (S 0), celW K (e 1) (S 1), celW K (e 2) (S 2), celW K (e 3) (S 3), celW K (e 4) (S 4), celW K (e 5) (S 5), mainW K b (nA 0) (aA 0) (fun i => some (d i 0)) (fun i => some (e i 0)) T] gX4_firstError_X1_firstWrongSign dX4_firstError_4 0 5 (kk := ?_)
  refine J_perm (permI [10, 0, 1, 2, 3, 4, 5, 6, 7, 8, 9] 11 rfl (by decide +kernel) rfl : List.Perm _ (corkW K b nA aA d e F Ga D S T)) ?_
  show J G _ _ _ _ _ [.int (nI (fwGo T n 0))]
  exact J_iret C0 hF dX4_firstError_7 ⟨rfl, rfl⟩

abbrev rmX4_keep : Room := { frames := 3, cells := 0, slots := 0, locals := 82 }
set_option maxHeartbeats 4000000 in
set_option maxRecDepth 100000 in
theorem mX4_keep_0 (l : Launch) (K : KT) (b nA aA : Nat → Nat) (d e : Nat → Nat → Nat) (F Ga : FF) (D S : Nat → FF) (T : FF) : Ct l K yX4_keep wsX4_keep rmX4_keep [.ref (b 0), .int (nI 0)] (corkW K b nA aA d e F Ga D S T) (some (.int (F 0 0))) (corkW K b nA aA d e F Ga (va_up D 0 F) S (u2 T 1 0 (nI 1))) := by
  refine CtP_of (cc := cX4_keep) (nL := 2) (rt := some .int) (own := RX4) (lv0 := [(0, .ref (b 0)), (1, .int (nI 0))]) (by decide) rfl (Nat.le_of_ble_eq_true rfl) rfl rfl ?_
  intro G C0 hF _
  have f19 : Cond.fieldLink RX4 19 "CorkPermits" "slots" "[LCorkPermits$Cellar;" ∈ wsX4_keep := by decide +kernel
  have iX4 : ∀ w ∈ u_ws RX4 TX4 6, w ∈ wsX4_keep := by decide +kernel
  have f12 : Cond.fieldLink RX4 12 "CorkPermits" "now" "LCorkPermits$Cellar;" ∈ wsX4_keep := by decide +kernel
  have f23 : Cond.fieldLink RX4 23 "CorkPermits" "slotTaken" "[Z" ∈ wsX4_keep := by decide +kernel
  have f116 : Cond.fieldLink RX4 116 "CorkPermits$Cellar" "time" "I" ∈ wsX4_keep := by decide +kernel
  have iX0 : ∀ w ∈ u_ws RX0 TX0 14, w ∈ wsX4_keep := by decide +kernel
  refine J_iln C0 1 dX4_keep_0 (kk := ?_)
  refine J_callSd C0 (mX4_requireSlot l K (k := 0) (by omega)) [mainW K b (nA 0) (aA 0) (fun i => some (d i 0)) (fun i => some (e i 0)) T, celW K nA F, celW K aA Ga, celW K (d 0) (D 0), celW K (d 1) (D 1), celW K (e 0) (S 0), celW K (e 1) (S 1), celW K (e 2) (S 2), celW K (e 3) (S 3), celW K (e 4) (S 4), celW K (e 5) (S 5)] (corkW K b nA aA d e F Ga D S T) gX4_keep_X4_requireSlot dX4_keep_1 1 (kk := ?_)
  show J G _ _ _ _ _ []
  refine J_aln C0 0 dX4_keep_4 (kk := ?_)
  refine J_get C0 iX4 0 0 2 f19 dX4_keep_5 (kk := ?_)
  refine J_iln C0 1 dX4_keep_8 (kk := ?_)
  refine J_aald C0 0 1 2 dX4_keep_9 (by omega) (r := d 0 0) (kk := ?_)
  refine J_aln C0 0 dX4_keep_10 (kk := ?_)
  refine J_get C0 iX4 0 0 0 f12 dX4_keep_11 (kk := ?_)
  refine J_perm (permI [0, 2, 4, 5, 6, 7, 8, 9, 10, 3, 1] 11 rfl (by decide +kernel) rfl : List.Perm _ ([mainW K b (nA 0) (aA 0) (fun i => some (d i 0)) (fun i => some (e i 0)) T, celW K aA Ga, celW K (d 1) (D 1), celW K (e 0) (S 0), celW K (e 1) (S 1), celW K (e 2) (S 2), celW K (e 3) (S 3), celW K (e 4) (S 4), celW K (e 5) (S 5), celW K (d 0) (D 0), celW K nA F])) ?_
  refine J_callVd C0 (mX0_copyFrom l K (d 0) nA (D 0) F) [mainW K b (nA 0) (aA 0) (fun i => some (d i 0)) (fun i => some (e i 0)) T, celW K aA Ga, celW K (d 1) (D 1), celW K (e 0) (S 0), celW K (e 1) (S 1), celW K (e 2) (S 2), celW K (e 3) (S 3), celW K (e 4) (S 4), celW K (e 5) (S 5)] [mainW K b (nA 0) (aA 0) (fun i => some (d i 0)) (fun i => some (e i 0)) T, celW K aA Ga, celW K (d 1) (D 1), celW K (e 0) (S 0), celW K (e 1) (S 1), celW K (e 2) (S 2), celW K (e 3) (S 3), celW K (e 4) (S 4), celW K (e 5) (S 5), celW K (d 0) F, celW K nA F] gX4_keep_X0_copyFrom dX4_keep_14 1 0 (kk := ?_)
  refine J_perm (permI [0, 10, 1, 9, 2, 3, 4, 5, 6, 7, 8] 11 rfl (by decide +kernel) rfl : List.Perm _ (corkW K b nA aA d e F Ga (va_up D 0 F) S T)) ?_
  show J G _ _ _ _ _ []
  refine J_aln C0 0 dX4_keep_17 (kk := ?_)
  refine J_get C0 iX4 0 0 3 f23 dX4_keep_18 (kk := ?_)
  refine J_iln C0 1 dX4_keep_21 (kk := ?_)
  refine J_ic C0 1 dX4_keep_22 (kk := ?_)
  refine J_zast C0 0 2 2 (corkW K b nA aA d e F Ga (va_up D 0 F) S (u2 T 1 0 (nI 1))) dX4_keep_23 (by omega) rfl (kk := ?_)
  refine J_aln C0 0 dX4_keep_24 (kk := ?_)
  refine J_get C0 iX4 0 0 0 f12 dX4_keep_25 (kk := ?_)
  refine J_get C0 iX0 1 0 0 f116 dX4_keep_28 (kk := ?_)
  exact J_iret C0 hF dX4_keep_31 ⟨rfl, rfl⟩

set_option maxHeartbeats 4000000 in
set_option maxRecDepth 100000 in
theorem mX4_keep_1 (l : Launch) (K : KT) (b nA aA : Nat → Nat) (d e : Nat → Nat → Nat) (F Ga : FF) (D S : Nat → FF) (T : FF) : Ct l K yX4_keep wsX4_keep rmX4_keep [.ref (b 0), .int (nI 1)] (corkW K b nA aA d e F Ga D S T) (some (.int (F 0 0))) (corkW K b nA aA d e F Ga (va_up D 1 F) S (u2 T 1 1 (nI 1))) := by
  refine CtP_of (cc := cX4_keep) (nL := 2) (rt := some .int) (own := RX4) (lv0 := [(0, .ref (b 0)), (1, .int (nI 1))]) (by decide) rfl (Nat.le_of_ble_eq_true rfl) rfl rfl ?_
  intro G C0 hF _
  have f19 : Cond.fieldLink RX4 19 "CorkPermits" "slots" "[LCorkPermits$Cellar;" ∈ wsX4_keep := by decide +kernel
  have iX4 : ∀ w ∈ u_ws RX4 TX4 6, w ∈ wsX4_keep := by decide +kernel
  have f12 : Cond.fieldLink RX4 12 "CorkPermits" "now" "LCorkPermits$Cellar;" ∈ wsX4_keep := by decide +kernel
  have f23 : Cond.fieldLink RX4 23 "CorkPermits" "slotTaken" "[Z" ∈ wsX4_keep := by decide +kernel
  have f116 : Cond.fieldLink RX4 116 "CorkPermits$Cellar" "time" "I" ∈ wsX4_keep := by decide +kernel
  have iX0 : ∀ w ∈ u_ws RX0 TX0 14, w ∈ wsX4_keep := by decide +kernel
  refine J_iln C0 1 dX4_keep_0 (kk := ?_)
  refine J_callSd C0 (mX4_requireSlot l K (k := 1) (by omega)) [mainW K b (nA 0) (aA 0) (fun i => some (d i 0)) (fun i => some (e i 0)) T, celW K nA F, celW K aA Ga, celW K (d 0) (D 0), celW K (d 1) (D 1), celW K (e 0) (S 0), celW K (e 1) (S 1), celW K (e 2) (S 2), celW K (e 3) (S 3), celW K (e 4) (S 4), celW K (e 5) (S 5)] (corkW K b nA aA d e F Ga D S T) gX4_keep_X4_requireSlot dX4_keep_1 1 (kk := ?_)
  show J G _ _ _ _ _ []
  refine J_aln C0 0 dX4_keep_4 (kk := ?_)
  refine J_get C0 iX4 0 0 2 f19 dX4_keep_5 (kk := ?_)
  refine J_iln C0 1 dX4_keep_8 (kk := ?_)
  refine J_aald C0 0 1 2 dX4_keep_9 (by omega) (r := d 1 0) (kk := ?_)
  refine J_aln C0 0 dX4_keep_10 (kk := ?_)
  refine J_get C0 iX4 0 0 0 f12 dX4_keep_11 (kk := ?_)
  refine J_perm (permI [0, 2, 3, 5, 6, 7, 8, 9, 10, 4, 1] 11 rfl (by decide +kernel) rfl : List.Perm _ ([mainW K b (nA 0) (aA 0) (fun i => some (d i 0)) (fun i => some (e i 0)) T, celW K aA Ga, celW K (d 0) (D 0), celW K (e 0) (S 0), celW K (e 1) (S 1), celW K (e 2) (S 2), celW K (e 3) (S 3), celW K (e 4) (S 4), celW K (e 5) (S 5), celW K (d 1) (D 1), celW K nA F])) ?_
  refine J_callVd C0 (mX0_copyFrom l K (d 1) nA (D 1) F) [mainW K b (nA 0) (aA 0) (fun i => some (d i 0)) (fun i => some (e i 0)) T, celW K aA Ga, celW K (d 0) (D 0), celW K (e 0) (S 0), celW K (e 1) (S 1), celW K (e 2) (S 2), celW K (e 3) (S 3), celW K (e 4) (S 4), celW K (e 5) (S 5)] [mainW K b (nA 0) (aA 0) (fun i => some (d i 0)) (fun i => some (e i 0)) T, celW K aA Ga, celW K (d 0) (D 0), celW K (e 0) (S 0), celW K (e 1) (S 1), celW K (e 2) (S 2), celW K (e 3) (S 3), celW K (e 4) (S 4), celW K (e 5) (S 5), celW K (d 1) F, celW K nA F] gX4_keep_X0_copyFrom dX4_keep_14 1 0 (kk := ?_)
  refine J_perm (permI [0, 10, 1, 2, 9, 3, 4, 5, 6, 7, 8] 11 rfl (by decide +kernel) rfl : List.Perm _ (corkW K b nA aA d e F Ga (va_up D 1 F) S T)) ?_
  show J G _ _ _ _ _ []
  refine J_aln C0 0 dX4_keep_17 (kk := ?_)
  refine J_get C0 iX4 0 0 3 f23 dX4_keep_18 (kk := ?_)
  refine J_iln C0 1 dX4_keep_21 (kk := ?_)
  refine J_ic C0 1 dX4_keep_22 (kk := ?_)
  refine J_zast C0 0 2 2 (corkW K b nA aA d e F Ga (va_up D 1 F) S (u2 T 1 1 (nI 1))) dX4_keep_23 (by omega) rfl (kk := ?_)
  refine J_aln C0 0 dX4_keep_24 (kk := ?_)
  refine J_get C0 iX4 0 0 0 f12 dX4_keep_25 (kk := ?_)
  refine J_get C0 iX0 1 0 0 f116 dX4_keep_28 (kk := ?_)
  exact J_iret C0 hF dX4_keep_31 ⟨rfl, rfl⟩

abbrev rmX4_goBack : Room := { frames := 4, cells := 0, slots := 0, locals := 103 }
set_option maxHeartbeats 4000000 in
set_option maxRecDepth 100000 in
theorem mX4_goBack_0 (l : Launch) (K : KT) (b nA aA : Nat → Nat) (d e : Nat → Nat → Nat) (F Ga : FF) (D S : Nat → FF) (T : FF) {k : Nat} (h6 : k ≤ 6) (hk : T 0 0 = nI k) (hc : ¬ T 1 0 = 0) : Ct l K yX4_goBack wsX4_goBack rmX4_goBack [.ref (b 0), .int (nI 0)] (corkW K b nA aA d e F Ga D S T) (some (.int (D 0 0 0))) (corkW K b nA aA d (pushE k e) (D 0) Ga D (pushS k S F) (pushT k T)) := by
  refine CtP_of (cc := cX4_goBack) (nL := 2) (rt := some .int) (own := RX4) (lv0 := [(0, .ref (b 0)), (1, .int (nI 0))]) (by decide) rfl (Nat.le_of_ble_eq_true rfl) rfl rfl ?_
  intro G C0 hF _
  have f23 : Cond.fieldLink RX4 23 "CorkPermits" "slotTaken" "[Z" ∈ wsX4_goBack := by decide +kernel
  have iX4 : ∀ w ∈ u_ws RX4 TX4 6, w ∈ wsX4_goBack := by decide +kernel
  have f30 : Cond.fieldLink RX4 30 "CorkPermits" "history" "LCorkPermits$History;" ∈ wsX4_goBack := by decide +kernel
  have f12 : Cond.fieldLink RX4 12 "CorkPermits" "now" "LCorkPermits$Cellar;" ∈ wsX4_goBack := by decide +kernel
  have f19 : Cond.fieldLink RX4 19 "CorkPermits" "slots" "[LCorkPermits$Cellar;" ∈ wsX4_goBack := by decide +kernel
  have f116 : Cond.fieldLink RX4 116 "CorkPermits$Cellar" "time" "I" ∈ wsX4_goBack := by decide +kernel
  have iX0 : ∀ w ∈ u_ws RX0 TX0 14, w ∈ wsX4_goBack := by decide +kernel
  refine J_iln C0 1 dX4_goBack_0 (kk := ?_)
  refine J_callSd C0 (mX4_requireSlot l K (k := 0) (by omega)) [mainW K b (nA 0) (aA 0) (fun i => some (d i 0)) (fun i => some (e i 0)) T, celW K nA F, celW K aA Ga, celW K (d 0) (D 0), celW K (d 1) (D 1), celW K (e 0) (S 0), celW K (e 1) (S 1), celW K (e 2) (S 2), celW K (e 3) (S 3), celW K (e 4) (S 4), celW K (e 5) (S 5)] (corkW K b nA aA d e F Ga D S T) gX4_goBack_X4_requireSlot dX4_goBack_1 1 (kk := ?_)
  show J G _ _ _ _ _ []
  refine J_aln C0 0 dX4_goBack_4 (kk := ?_)
  refine J_get C0 iX4 0 0 3 f23 dX4_goBack_5 (kk := ?_)
  refine J_iln C0 1 dX4_goBack_8 (kk := ?_)
  refine J_zald C0 0 2 2 dX4_goBack_9 (by omega) (kk := ?_)
  refine J_ifne C0 21 dX4_goBack_10 (kt := fun c1 => ?_) (kf := fun c1 => ?_)
  · refine J_aln C0 0 dX4_goBack_21 (kk := ?_)
    refine J_get C0 iX4 0 0 4 f30 dX4_goBack_22 (kk := ?_)
    refine J_aln C0 0 dX4_goBack_25 (kk := ?_)
    refine J_get C0 iX4 0 0 0 f12 dX4_goBack_26 (kk := ?_)
    refine J_callVd C0 (mX2_push l K b nA aA d e F Ga D S T (k := k) h6 hk) [] (corkW K b nA aA d (pushE k e) F Ga D (pushS k S F) (pushT k T)) gX4_goBack_X2_push dX4_goBack_29 1 3 (kk := ?_)
    show J G _ _ _ _ _ []
    refine J_aln C0 0 dX4_goBack_32 (kk := ?_)
    refine J_get C0 iX4 0 0 0 f12 dX4_goBack_33 (kk := ?_)
    refine J_aln C0 0 dX4_goBack_36 (kk := ?_)
    refine J_get C0 iX4 0 0 2 f19 dX4_goBack_37 (kk := ?_)
    refine J_iln C0 1 dX4_goBack_40 (kk := ?_)
    refine J_aald C0 0 1 2 dX4_goBack_41 (by omega) (r := d 0 0) (kk := ?_)
    refine J_perm (permI [0, 2, 4, 5, 6, 7, 8, 9, 10, 1, 3] 11 rfl (by decide +kernel) rfl : List.Perm _ ([mainW K b (nA 0) (aA 0) (fun i => some (d i 0)) (fun i => some (pushE k e i 0)) (pushT k T), celW K aA Ga, celW K (d 1) (D 1), celW K (pushE k e 0) (pushS k S F 0), celW K (pushE k e 1) (pushS k S F 1), celW K (pushE k e 2) (pushS k S F 2), celW K (pushE k e 3) (pushS k S F 3), celW K (pushE k e 4) (pushS k S F 4), celW K (pushE k e 5) (pushS k S F 5), celW K nA F, celW K (d 0) (D 0)])) ?_
    refine J_callVd C0 (mX0_copyFrom l K nA (d 0) F (D 0)) [mainW K b (nA 0) (aA 0) (fun i => some (d i 0)) (fun i => some (pushE k e i 0)) (pushT k T), celW K aA Ga, celW K (d 1) (D 1), celW K (pushE k e 0) (pushS k S F 0), celW K (pushE k e 1) (pushS k S F 1), celW K (pushE k e 2) (pushS k S F 2), celW K (pushE k e 3) (pushS k S F 3), celW K (pushE k e 4) (pushS k S F 4), celW K (pushE k e 5) (pushS k S F 5)] [mainW K b (nA 0) (aA 0) (fun i => some (d i 0)) (fun i => some (pushE k e i 0)) (pushT k T), celW K aA Ga, celW K (d 1) (D 1), celW K (pushE k e 0) (pushS k S F 0), celW K (pushE k e 1) (pushS k S F 1), celW K (pushE k e 2) (pushS k S F 2), celW K (pushE k e 3) (pushS k S F 3), celW K (pushE k e 4) (pushS k S F 4), celW K (pushE k e 5) (pushS k S F 5), celW K nA (D 0), celW K (d 0) (D 0)] gX4_goBack_X0_copyFrom dX4_goBack_42 1 0 (kk := ?_)
    refine J_perm (permI [0, 9, 1, 10, 2, 3, 4, 5, 6, 7, 8] 11 rfl (by decide +kernel) rfl : List.Perm _ (corkW K b nA aA d (pushE k e) (D 0) Ga D (pushS k S F) (pushT k T))) ?_
    show J G _ _ _ _ _ []
    refine J_aln C0 0 dX4_goBack_45 (kk := ?_)
    refine J_get C0 iX4 0 0 0 f12 dX4_goBack_46 (kk := ?_)
    refine J_get C0 iX0 1 0 0 f116 dX4_goBack_49 (kk := ?_)
    exact J_iret C0 hF dX4_goBack_52 ⟨rfl, rfl⟩
  · exact absurd c1 hc

set_option maxHeartbeats 4000000 in
set_option maxRecDepth 100000 in
theorem mX4_goBack_1 (l : Launch) (K : KT) (b nA aA : Nat → Nat) (d e : Nat → Nat → Nat) (F Ga : FF) (D S : Nat → FF) (T : FF) {k : Nat} (h6 : k ≤ 6) (hk : T 0 0 = nI k) (hc : ¬ T 1 1 = 0) : Ct l K yX4_goBack wsX4_goBack rmX4_goBack [.ref (b 0), .int (nI 1)] (corkW K b nA aA d e F Ga D S T) (some (.int (D 1 0 0))) (corkW K b nA aA d (pushE k e) (D 1) Ga D (pushS k S F) (pushT k T)) := by
  refine CtP_of (cc := cX4_goBack) (nL := 2) (rt := some .int) (own := RX4) (lv0 := [(0, .ref (b 0)), (1, .int (nI 1))]) (by decide) rfl (Nat.le_of_ble_eq_true rfl) rfl rfl ?_
  intro G C0 hF _
  have f23 : Cond.fieldLink RX4 23 "CorkPermits" "slotTaken" "[Z" ∈ wsX4_goBack := by decide +kernel
  have iX4 : ∀ w ∈ u_ws RX4 TX4 6, w ∈ wsX4_goBack := by decide +kernel
  have f30 : Cond.fieldLink RX4 30 "CorkPermits" "history" "LCorkPermits$History;" ∈ wsX4_goBack := by decide +kernel
  have f12 : Cond.fieldLink RX4 12 "CorkPermits" "now" "LCorkPermits$Cellar;" ∈ wsX4_goBack := by decide +kernel
  have f19 : Cond.fieldLink RX4 19 "CorkPermits" "slots" "[LCorkPermits$Cellar;" ∈ wsX4_goBack := by decide +kernel
  have f116 : Cond.fieldLink RX4 116 "CorkPermits$Cellar" "time" "I" ∈ wsX4_goBack := by decide +kernel
  have iX0 : ∀ w ∈ u_ws RX0 TX0 14, w ∈ wsX4_goBack := by decide +kernel
  refine J_iln C0 1 dX4_goBack_0 (kk := ?_)
  refine J_callSd C0 (mX4_requireSlot l K (k := 1) (by omega)) [mainW K b (nA 0) (aA 0) (fun i => some (d i 0)) (fun i => some (e i 0)) T, celW K nA F, celW K aA Ga, celW K (d 0) (D 0), celW K (d 1) (D 1), celW K (e 0) (S 0), celW K (e 1) (S 1), celW K (e 2) (S 2), celW K (e 3) (S 3), celW K (e 4) (S 4), celW K (e 5) (S 5)] (corkW K b nA aA d e F Ga D S T) gX4_goBack_X4_requireSlot dX4_goBack_1 1 (kk := ?_)
  show J G _ _ _ _ _ []
  refine J_aln C0 0 dX4_goBack_4 (kk := ?_)
  refine J_get C0 iX4 0 0 3 f23 dX4_goBack_5 (kk := ?_)
  refine J_iln C0 1 dX4_goBack_8 (kk := ?_)
  refine J_zald C0 0 2 2 dX4_goBack_9 (by omega) (kk := ?_)
  refine J_ifne C0 21 dX4_goBack_10 (kt := fun c1 => ?_) (kf := fun c1 => ?_)
  · refine J_aln C0 0 dX4_goBack_21 (kk := ?_)
    refine J_get C0 iX4 0 0 4 f30 dX4_goBack_22 (kk := ?_)
    refine J_aln C0 0 dX4_goBack_25 (kk := ?_)
    refine J_get C0 iX4 0 0 0 f12 dX4_goBack_26 (kk := ?_)
    refine J_callVd C0 (mX2_push l K b nA aA d e F Ga D S T (k := k) h6 hk) [] (corkW K b nA aA d (pushE k e) F Ga D (pushS k S F) (pushT k T)) gX4_goBack_X2_push dX4_goBack_29 1 3 (kk := ?_)
    show J G _ _ _ _ _ []
    refine J_aln C0 0 dX4_goBack_32 (kk := ?_)
    refine J_get C0 iX4 0 0 0 f12 dX4_goBack_33 (kk := ?_)
    refine J_aln C0 0 dX4_goBack_36 (kk := ?_)
    refine J_get C0 iX4 0 0 2 f19 dX4_goBack_37 (kk := ?_)
    refine J_iln C0 1 dX4_goBack_40 (kk := ?_)
    refine J_aald C0 0 1 2 dX4_goBack_41 (by omega) (r := d 1 0) (kk := ?_)
    refine J_perm (permI [0, 2, 3, 5, 6, 7, 8, 9, 10, 1, 4] 11 rfl (by decide +kernel) rfl : List.Perm _ ([mainW K b (nA 0) (aA 0) (fun i => some (d i 0)) (fun i => some (pushE k e i 0)) (pushT k T), celW K aA Ga, celW K (d 0) (D 0), celW K (pushE k e 0) (pushS k S F 0), celW K (pushE k e 1) (pushS k S F 1), celW K (pushE k e 2) (pushS k S F 2), celW K (pushE k e 3) (pushS k S F 3), celW K (pushE k e 4) (pushS k S F 4), celW K (pushE k e 5) (pushS k S F 5), celW K nA F, celW K (d 1) (D 1)])) ?_
    refine J_callVd C0 (mX0_copyFrom l K nA (d 1) F (D 1)) [mainW K b (nA 0) (aA 0) (fun i => some (d i 0)) (fun i => some (pushE k e i 0)) (pushT k T), celW K aA Ga, celW K (d 0) (D 0), celW K (pushE k e 0) (pushS k S F 0), celW K (pushE k e 1) (pushS k S F 1), celW K (pushE k e 2) (pushS k S F 2), celW K (pushE k e 3) (pushS k S F 3), celW K (pushE k e 4) (pushS k S F 4), celW K (pushE k e 5) (pushS k S F 5)] [mainW K b (nA 0) (aA 0) (fun i => some (d i 0)) (fun i => some (pushE k e i 0)) (pushT k T), celW K aA Ga, celW K (d 0) (D 0), celW K (pushE k e 0) (pushS k S F 0), celW K (pushE k e 1) (pushS k S F 1), celW K (pushE k e 2) (pushS k S F 2), celW K (pushE k e 3) (pushS k S F 3), celW K (pushE k e 4) (pushS k S F 4), celW K (pushE k e 5) (pushS k S F 5), celW K nA (D 1), celW K (d 1) (D 1)] gX4_goBack_X0_copyFrom dX4_goBack_42 1 0 (kk := ?_)
    refine J_perm (permI [0, 9, 1, 2, 10, 3, 4, 5, 6, 7, 8] 11 rfl (by decide +kernel) rfl : List.Perm _ (corkW K b nA aA d (pushE k e) (D 1) Ga D (pushS k S F) (pushT k T))) ?_
    show J G _ _ _ _ _ []
    refine J_aln C0 0 dX4_goBack_45 (kk := ?_)
    refine J_get C0 iX4 0 0 0 f12 dX4_goBack_46 (kk := ?_)
    refine J_get C0 iX0 1 0 0 f116 dX4_goBack_49 (kk := ?_)
    exact J_iret C0 hF dX4_goBack_52 ⟨rfl, rfl⟩
  · exact absurd c1 hc

abbrev rmX4_undo : Room := { frames := 4, cells := 0, slots := 0, locals := 103 }
set_option maxHeartbeats 4000000 in
set_option maxRecDepth 100000 in
theorem mX4_undo (l : Launch) (K : KT) (b nA aA : Nat → Nat) (d e : Nat → Nat → Nat) (F Ga : FF) (D S : Nat → FF) (T : FF) {k : Nat} (h6 : k < 6) (hk : T 0 0 = nI (k + 1)) : Ct l K yX4_undo wsX4_undo rmX4_undo [.ref (b 0)] (corkW K b nA aA d e F Ga D S T) (some (.int (nI k))) (corkW K b nA aA d e (S k) Ga D S (u2 T 0 0 (nI k))) := by
  refine CtP_of (cc := cX4_undo) (nL := 1) (rt := some .int) (own := RX4) (lv0 := [(0, .ref (b 0))]) (by decide) rfl (Nat.le_of_ble_eq_true rfl) rfl rfl ?_
  intro G C0 hF _
  have f30 : Cond.fieldLink RX4 30 "CorkPermits" "history" "LCorkPermits$History;" ∈ wsX4_undo := by decide +kernel
  have iX4 : ∀ w ∈ u_ws RX4 TX4 6, w ∈ wsX4_undo := by decide +kernel
  have f166 : Cond.fieldLink RX4 166 "CorkPermits$History" "size" "I" ∈ wsX4_undo := by decide +kernel
  have iX2 : ∀ w ∈ u_ws RX2 TX2 2, w ∈ wsX4_undo := by decide +kernel
  have f12 : Cond.fieldLink RX4 12 "CorkPermits" "now" "LCorkPermits$Cellar;" ∈ wsX4_undo := by decide +kernel
  refine J_aln C0 0 dX4_undo_0 (kk := ?_)
  refine J_get C0 iX4 0 0 4 f30 dX4_undo_1 (kk := ?_)
  refine J_get C0 iX2 0 3 1 f166 dX4_undo_4 (v := .int (nI (k + 1))) (hv := congrArg (fun z => some (Value.int z)) hk) (kk := ?_)
  refine J_ifgtN C0 18 (by omega) dX4_undo_7 (kt := fun c1 => ?_) (kf := fun c1 => ?_)
  · refine J_aln C0 0 dX4_undo_18 (kk := ?_)
    refine J_get C0 iX4 0 0 4 f30 dX4_undo_19 (kk := ?_)
    refine J_aln C0 0 dX4_undo_22 (kk := ?_)
    refine J_get C0 iX4 0 0 0 f12 dX4_undo_23 (kk := ?_)
    refine J_callVd C0 (mX2_popInto l K b nA aA d e F Ga D S T (k := k) h6 hk) [] (corkW K b nA aA d e (S k) Ga D S (u2 T 0 0 (nI k))) gX4_undo_X2_popInto dX4_undo_26 1 3 (kk := ?_)
    show J G _ _ _ _ _ []
    refine J_aln C0 0 dX4_undo_29 (kk := ?_)
    refine J_get C0 iX4 0 0 4 f30 dX4_undo_30 (kk := ?_)
    refine J_get C0 iX2 0 3 1 f166 dX4_undo_33 (v := .int (nI k)) (hv := congrArg (fun z => some (Value.int z)) rfl) (kk := ?_)
    exact J_iret C0 hF dX4_undo_36 ⟨rfl, rfl⟩
  · exfalso; omega

abbrev rmX4_kind : Room := { frames := 3, cells := 0, slots := 0, locals := 66 }
set_option maxHeartbeats 4000000 in
set_option maxRecDepth 100000 in
theorem mX4_kind (l : Launch) (K : KT) (b nA aA : Nat → Nat) (d e : Nat → Nat → Nat) (F Ga : FF) (D S : Nat → FF) (T : FF) {c : Nat} (hc3 : c < 3) {w : Nat} (hw : w < 7) : Ct l K yX4_kind wsX4_kind rmX4_kind [.ref (b 0), .int (nI c), .int (nI w)] (corkW K b nA aA d e F Ga D S T) (some (.int (kindC F c w))) (corkW K b nA aA d e F Ga D S T) := by
  refine CtP_of (cc := cX4_kind) (nL := 3) (rt := some .int) (own := RX4) (lv0 := [(0, .ref (b 0)), (1, .int (nI c)), (2, .int (nI w))]) (by decide) rfl (Nat.le_of_ble_eq_true rfl) rfl rfl ?_
  intro G C0 hF _
  have f12 : Cond.fieldLink RX4 12 "CorkPermits" "now" "LCorkPermits$Cellar;" ∈ wsX4_kind := by decide +kernel
  have iX4 : ∀ w ∈ u_ws RX4 TX4 6, w ∈ wsX4_kind := by decide +kernel
  refine J_iln C0 1 dX4_kind_0 (kk := ?_)
  refine J_callSd C0 (mX4_requireKind l K (k := c) (by omega)) [mainW K b (nA 0) (aA 0) (fun i => some (d i 0)) (fun i => some (e i 0)) T, celW K nA F, celW K aA Ga, celW K (d 0) (D 0), celW K (d 1) (D 1), celW K (e 0) (S 0), celW K (e 1) (S 1), celW K (e 2) (S 2), celW K (e 3) (S 3), celW K (e 4) (S 4), celW K (e 5) (S 5)] (corkW K b nA aA d e F Ga D S T) gX4_kind_X4_requireKind dX4_kind_1 1 (kk := ?_)
  show J G _ _ _ _ _ []
  refine J_iln C0 2 dX4_kind_4 (kk := ?_)
  refine J_bi C0 7 dX4_kind_5 (kk := ?_)
  refine J_callSd C0 (mX4_requireWhat l K (k := w) (c := 7) (by omega) (by omega)) [mainW K b (nA 0) (aA 0) (fun i => some (d i 0)) (fun i => some (e i 0)) T, celW K nA F, celW K aA Ga, celW K (d 0) (D 0), celW K (d 1) (D 1), celW K (e 0) (S 0), celW K (e 1) (S 1), celW K (e 2) (S 2), celW K (e 3) (S 3), celW K (e 4) (S 4), celW K (e 5) (S 5)] (corkW K b nA aA d e F Ga D S T) gX4_kind_X4_requireWhat dX4_kind_7 2 (kk := ?_)
  show J G _ _ _ _ _ []
  refine J_aln C0 0 dX4_kind_10 (kk := ?_)
  refine J_get C0 iX4 0 0 0 f12 dX4_kind_11 (kk := ?_)
  refine J_iln C0 1 dX4_kind_14 (kk := ?_)
  refine J_iln C0 2 dX4_kind_15 (kk := ?_)
  refine J_perm (permI [0, 2, 3, 4, 5, 6, 7, 8, 9, 10, 1] 11 rfl (by decide +kernel) rfl : List.Perm _ ([mainW K b (nA 0) (aA 0) (fun i => some (d i 0)) (fun i => some (e i 0)) T, celW K aA Ga, celW K (d 0) (D 0), celW K (d 1) (D 1), celW K (e 0) (S 0), celW K (e 1) (S 1), celW K (e 2) (S 2), celW K (e 3) (S 3), celW K (e 4) (S 4), celW K (e 5) (S 5), celW K nA F])) ?_
  refine J_callVd C0 (mX0_kindNumber l K nA F (k := c) (by omega) (w := w) (by omega)) [mainW K b (nA 0) (aA 0) (fun i => some (d i 0)) (fun i => some (e i 0)) T, celW K aA Ga, celW K (d 0) (D 0), celW K (d 1) (D 1), celW K (e 0) (S 0), celW K (e 1) (S 1), celW K (e 2) (S 2), celW K (e 3) (S 3), celW K (e 4) (S 4), celW K (e 5) (S 5)] [mainW K b (nA 0) (aA 0) (fun i => some (d i 0)) (fun i => some (e i 0)) T, celW K aA Ga, celW K (d 0) (D 0), celW K (d 1) (D 1), celW K (e 0) (S 0), celW K (e 1) (S 1), celW K (e 2) (S 2), celW K (e 3) (S 3), celW K (e 4) (S 4), celW K (e 5) (S 5), celW K nA F] gX4_kind_X0_kindNumber dX4_kind_16 2 0 (kk := ?_)
  refine J_perm (permI [0, 10, 1, 2, 3, 4, 5, 6, 7, 8, 9] 11 rfl (by decide +kernel) rfl : List.Perm _ (corkW K b nA aA d e F Ga D S T)) ?_
  show J G _ _ _ _ _ [.int (kindC F c w)]
  exact J_iret C0 hF dX4_kind_19 ⟨rfl, rfl⟩

abbrev rmX4_houseOf : Room := { frames := 3, cells := 0, slots := 0, locals := 64 }
set_option maxHeartbeats 4000000 in
set_option maxRecDepth 100000 in
theorem mX4_houseOf (l : Launch) (K : KT) (b nA aA : Nat → Nat) (d e : Nat → Nat → Nat) (F Ga : FF) (D S : Nat → FF) (T : FF) {h c : Nat} (hh : h < 4) (hc3 : c < 3) (hp : isPl F (nI h) (nI c)) {w : Nat} (hw : w < 10) : Ct l K yX4_houseOf wsX4_houseOf rmX4_houseOf [.ref (b 0), .int (nI h), .int (nI c), .int (nI w)] (corkW K b nA aA d e F Ga D S T) (some (.int (placeC F (h * 3 + c) w))) (corkW K b nA aA d e F Ga D S T) := by
  refine CtP_of (cc := cX4_houseOf) (nL := 4) (rt := some .int) (own := RX4) (lv0 := [(0, .ref (b 0)), (1, .int (nI h)), (2, .int (nI c)), (3, .int (nI w))]) (by decide) rfl (Nat.le_of_ble_eq_true rfl) rfl rfl ?_
  intro G C0 hF _
  have f12 : Cond.fieldLink RX4 12 "CorkPermits" "now" "LCorkPermits$Cellar;" ∈ wsX4_houseOf := by decide +kernel
  have iX4 : ∀ w ∈ u_ws RX4 TX4 6, w ∈ wsX4_houseOf := by decide +kernel
  refine J_aln C0 0 dX4_houseOf_0 (kk := ?_)
  refine J_iln C0 1 dX4_houseOf_1 (kk := ?_)
  refine J_iln C0 2 dX4_houseOf_2 (kk := ?_)
  refine J_callVd C0 (mX4_requirePlace l K b nA aA d e F Ga D S T (x := nI h) (y := nI c) hp) [] (corkW K b nA aA d e F Ga D S T) gX4_houseOf_X4_requirePlace dX4_houseOf_3 2 0 (kk := ?_)
  show J G _ _ _ _ _ []
  refine J_iln C0 3 dX4_houseOf_6 (kk := ?_)
  refine J_bi C0 10 dX4_houseOf_7 (kk := ?_)
  refine J_callSd C0 (mX4_requireWhat l K (k := w) (c := 10) (by omega) (by omega)) [mainW K b (nA 0) (aA 0) (fun i => some (d i 0)) (fun i => some (e i 0)) T, celW K nA F, celW K aA Ga, celW K (d 0) (D 0), celW K (d 1) (D 1), celW K (e 0) (S 0), celW K (e 1) (S 1), celW K (e 2) (S 2), celW K (e 3) (S 3), celW K (e 4) (S 4), celW K (e 5) (S 5)] (corkW K b nA aA d e F Ga D S T) gX4_houseOf_X4_requireWhat dX4_houseOf_9 2 (kk := ?_)
  show J G _ _ _ _ _ []
  refine J_aln C0 0 dX4_houseOf_12 (kk := ?_)
  refine J_get C0 iX4 0 0 0 f12 dX4_houseOf_13 (kk := ?_)
  refine J_iln C0 1 dX4_houseOf_16 (kk := ?_)
  refine J_iln C0 2 dX4_houseOf_17 (kk := ?_)
  refine J_callSd C0 (mX4_placeOf l K h c) [mainW K b (nA 0) (aA 0) (fun i => some (d i 0)) (fun i => some (e i 0)) T, celW K nA F, celW K aA Ga, celW K (d 0) (D 0), celW K (d 1) (D 1), celW K (e 0) (S 0), celW K (e 1) (S 1), celW K (e 2) (S 2), celW K (e 3) (S 3), celW K (e 4) (S 4), celW K (e 5) (S 5)] (corkW K b nA aA d e F Ga D S T) gX4_houseOf_X4_placeOf dX4_houseOf_18 2 (kk := ?_)
  show J G _ _ _ _ _ [.int (nI (h * 3 + c)), .ref (nA 0)]
  refine J_iln C0 3 dX4_houseOf_21 (kk := ?_)
  refine J_perm (permI [0, 2, 3, 4, 5, 6, 7, 8, 9, 10, 1] 11 rfl (by decide +kernel) rfl : List.Perm _ ([mainW K b (nA 0) (aA 0) (fun i => some (d i 0)) (fun i => some (e i 0)) T, celW K aA Ga, celW K (d 0) (D 0), celW K (d 1) (D 1), celW K (e 0) (S 0), celW K (e 1) (S 1), celW K (e 2) (S 2), celW K (e 3) (S 3), celW K (e 4) (S 4), celW K (e 5) (S 5), celW K nA F])) ?_
  refine J_callVd C0 (mX0_placeNumber l K nA F (p := h * 3 + c) (by omega) (w := w) (by omega)) [mainW K b (nA 0) (aA 0) (fun i => some (d i 0)) (fun i => some (e i 0)) T, celW K aA Ga, celW K (d 0) (D 0), celW K (d 1) (D 1), celW K (e 0) (S 0), celW K (e 1) (S 1), celW K (e 2) (S 2), celW K (e 3) (S 3), celW K (e 4) (S 4), celW K (e 5) (S 5)] [mainW K b (nA 0) (aA 0) (fun i => some (d i 0)) (fun i => some (e i 0)) T, celW K aA Ga, celW K (d 0) (D 0), celW K (d 1) (D 1), celW K (e 0) (S 0), celW K (e 1) (S 1), celW K (e 2) (S 2), celW K (e 3) (S 3), celW K (e 4) (S 4), celW K (e 5) (S 5), celW K nA F] gX4_houseOf_X0_placeNumber dX4_houseOf_22 2 0 (kk := ?_)
  refine J_perm (permI [0, 10, 1, 2, 3, 4, 5, 6, 7, 8, 9] 11 rfl (by decide +kernel) rfl : List.Perm _ (corkW K b nA aA d e F Ga D S T)) ?_
  show J G _ _ _ _ _ [.int (placeC F (h * 3 + c) w)]
  exact J_iret C0 hF dX4_houseOf_25 ⟨rfl, rfl⟩

abbrev rmX4_letter : Room := { frames := 1, cells := 0, slots := 0, locals := 22 }
set_option maxHeartbeats 4000000 in
set_option maxRecDepth 100000 in
theorem mX4_letter (l : Launch) (K : KT) (b nA aA : Nat → Nat) (d e : Nat → Nat → Nat) (F Ga : FF) (D S : Nat → FF) (T : FF) {n : Nat} (hn : F 0 4 = nI n) (h40 : n ≤ 40) {r w : Nat} (hr : r < 2 ^ 31) (hw : w < 5) : Ct l K yX4_letter wsX4_letter rmX4_letter [.ref (b 0), .int (nI r), .int (nI w)] (corkW K b nA aA d e F Ga D S T) (some (.int (letC F n r w))) (corkW K b nA aA d e F Ga D S T) := by
  refine CtP_of (cc := cX4_letter) (nL := 3) (rt := some .int) (own := RX4) (lv0 := [(0, .ref (b 0)), (1, .int (nI r)), (2, .int (nI w))]) (by decide) rfl (Nat.le_of_ble_eq_true rfl) rfl rfl ?_
  intro G C0 hF _
  have f12 : Cond.fieldLink RX4 12 "CorkPermits" "now" "LCorkPermits$Cellar;" ∈ wsX4_letter := by decide +kernel
  have iX4 : ∀ w ∈ u_ws RX4 TX4 6, w ∈ wsX4_letter := by decide +kernel
  have f88 : Cond.fieldLink RX4 88 "CorkPermits$Cellar" "post" "LCorkPermits$Post;" ∈ wsX4_letter := by decide +kernel
  have iX0 : ∀ w ∈ u_ws RX0 TX0 14, w ∈ wsX4_letter := by decide +kernel
  refine J_iln C0 1 dX4_letter_0 (kk := ?_)
  refine J_ifgeN C0 12 (by omega) dX4_letter_1 (kk := ?_)
  refine J_iln C0 2 dX4_letter_12 (kk := ?_)
  refine J_ic C0 5 dX4_letter_13 (kk := ?_)
  refine J_callSd C0 (mX4_requireWhat l K (k := w) (c := 5) (by omega) (by omega)) [mainW K b (nA 0) (aA 0) (fun i => some (d i 0)) (fun i => some (e i 0)) T, celW K nA F, celW K aA Ga, celW K (d 0) (D 0), celW K (d 1) (D 1), celW K (e 0) (S 0), celW K (e 1) (S 1), celW K (e 2) (S 2), celW K (e 3) (S 3), celW K (e 4) (S 4), celW K (e 5) (S 5)] (corkW K b nA aA d e F Ga D S T) gX4_letter_X4_requireWhat dX4_letter_14 2 (kk := ?_)
  show J G _ _ _ _ _ []
  refine J_aln C0 0 dX4_letter_17 (kk := ?_)
  refine J_get C0 iX4 0 0 0 f12 dX4_letter_18 (kk := ?_)
  refine J_get C0 iX0 1 0 13 f88 dX4_letter_21 (kk := ?_)
  refine J_iln C0 1 dX4_letter_24 (kk := ?_)
  refine J_iln C0 2 dX4_letter_25 (kk := ?_)
  refine J_perm (permI [0, 2, 3, 4, 5, 6, 7, 8, 9, 10, 1] 11 rfl (by decide +kernel) rfl : List.Perm _ ([mainW K b (nA 0) (aA 0) (fun i => some (d i 0)) (fun i => some (e i 0)) T, celW K aA Ga, celW K (d 0) (D 0), celW K (d 1) (D 1), celW K (e 0) (S 0), celW K (e 1) (S 1), celW K (e 2) (S 2), celW K (e 3) (S 3), celW K (e 4) (S 4), celW K (e 5) (S 5), celW K nA F])) ?_
  refine J_callVd C0 (mX3_letterNumber l K nA F (n := n) hn h40 (r := r) (by omega) (w := w) (by omega)) [mainW K b (nA 0) (aA 0) (fun i => some (d i 0)) (fun i => some (e i 0)) T, celW K aA Ga, celW K (d 0) (D 0), celW K (d 1) (D 1), celW K (e 0) (S 0), celW K (e 1) (S 1), celW K (e 2) (S 2), celW K (e 3) (S 3), celW K (e 4) (S 4), celW K (e 5) (S 5)] [mainW K b (nA 0) (aA 0) (fun i => some (d i 0)) (fun i => some (e i 0)) T, celW K aA Ga, celW K (d 0) (D 0), celW K (d 1) (D 1), celW K (e 0) (S 0), celW K (e 1) (S 1), celW K (e 2) (S 2), celW K (e 3) (S 3), celW K (e 4) (S 4), celW K (e 5) (S 5), celW K nA F] gX4_letter_X3_letterNumber dX4_letter_26 2 12 (kk := ?_)
  refine J_perm (permI [0, 10, 1, 2, 3, 4, 5, 6, 7, 8, 9] 11 rfl (by decide +kernel) rfl : List.Perm _ (corkW K b nA aA d e F Ga D S T)) ?_
  show J G _ _ _ _ _ [.int (letC F n r w)]
  exact J_iret C0 hF dX4_letter_29 ⟨rfl, rfl⟩

abbrev rmX4_setting : Room := { frames := 1, cells := 0, slots := 0, locals := 20 }
set_option maxHeartbeats 4000000 in
set_option maxRecDepth 100000 in
theorem mX4_setting (l : Launch) (K : KT) (b nA aA : Nat → Nat) (d e : Nat → Nat → Nat) (F Ga : FF) (D S : Nat → FF) (T : FF) {c : Nat} (hc3 : c < 3) : Ct l K yX4_setting wsX4_setting rmX4_setting [.ref (b 0), .int (nI c)] (corkW K b nA aA d e F Ga D S T) (some (.int (F 1 c))) (corkW K b nA aA d e F Ga D S T) := by
  refine CtP_of (cc := cX4_setting) (nL := 2) (rt := some .int) (own := RX4) (lv0 := [(0, .ref (b 0)), (1, .int (nI c))]) (by decide) rfl (Nat.le_of_ble_eq_true rfl) rfl rfl ?_
  intro G C0 hF _
  have f12 : Cond.fieldLink RX4 12 "CorkPermits" "now" "LCorkPermits$Cellar;" ∈ wsX4_setting := by decide +kernel
  have iX4 : ∀ w ∈ u_ws RX4 TX4 6, w ∈ wsX4_setting := by decide +kernel
  have f138 : Cond.fieldLink RX4 138 "CorkPermits$Cellar" "settings" "[I" ∈ wsX4_setting := by decide +kernel
  have iX0 : ∀ w ∈ u_ws RX0 TX0 14, w ∈ wsX4_setting := by decide +kernel
  refine J_iln C0 1 dX4_setting_0 (kk := ?_)
  refine J_callSd C0 (mX4_requireSetting l K (k := c) (by omega)) [mainW K b (nA 0) (aA 0) (fun i => some (d i 0)) (fun i => some (e i 0)) T, celW K nA F, celW K aA Ga, celW K (d 0) (D 0), celW K (d 1) (D 1), celW K (e 0) (S 0), celW K (e 1) (S 1), celW K (e 2) (S 2), celW K (e 3) (S 3), celW K (e 4) (S 4), celW K (e 5) (S 5)] (corkW K b nA aA d e F Ga D S T) gX4_setting_X4_requireSetting dX4_setting_1 1 (kk := ?_)
  show J G _ _ _ _ _ []
  refine J_aln C0 0 dX4_setting_4 (kk := ?_)
  refine J_get C0 iX4 0 0 0 f12 dX4_setting_5 (kk := ?_)
  refine J_get C0 iX0 1 0 2 f138 dX4_setting_8 (kk := ?_)
  refine J_iln C0 1 dX4_setting_11 (kk := ?_)
  refine J_iald C0 1 1 3 dX4_setting_12 (by omega) (kk := ?_)
  exact J_iret C0 hF dX4_setting_13 ⟨rfl, rfl⟩

