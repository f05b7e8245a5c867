abbrev rmtX4_bottles : Room := { frames := 7, cells := 1, slots := 6, locals := 110 }
set_option maxHeartbeats 4000000 in
set_option maxRecDepth 100000 in
theorem tX4_bottles_kind (l : Launch) (hst : l.stackTraces = false) (K : KT) (b nA aA : Nat → Nat) (d e : Nat → Nat → Nat) (F Ga : FF) (D S : Nat → FF) (T : FF) {x : Int32} (hx : x < 0 ∨ nI 3 ≤ x) (y : Int32) : CtT l K yX4_bottles wsX4_bottles rmtX4_bottles [.ref (b 0), .int x, .int y] (corkW K b nA aA d e F Ga D S T) "java/lang/IndexOutOfBoundsException" := by
  refine CtT_of (cc := cX4_bottles) (nL := 4) (rt := some .int) (own := RX4) (lv0 := [(0, .ref (b 0)), (1, .int x), (2, .int y)]) hst (by decide) rfl (Nat.le_of_ble_eq_true rfl) rfl rfl ?_
  intro G C0 hF
  refine J_iln C0 1 dX4_bottles_0 (kk := ?_)
  exact J_callTS C0 hF (tX4_requireKind l hst K hx) (corkW K b nA aA d e F Ga D S T) gX4_bottles_X4_requireKind dX4_bottles_1 1

set_option maxHeartbeats 4000000 in
set_option maxRecDepth 100000 in
theorem tX4_bottles_many (l : Launch) (hst : l.stackTraces = false) (K : KT) (b nA aA : Nat → Nat) (d e : Nat → Nat → Nat) (F Ga : FF) (D S : Nat → FF) (T : FF) {c : Nat} (hc3 : c < 3) {x : Int32} (hx : x < 0 ∨ nI 20 < x) : CtT l K yX4_bottles wsX4_bottles rmtX4_bottles [.ref (b 0), .int (nI c), .int x] (corkW K b nA aA d e F Ga D S T) "java/lang/IllegalArgumentException" := by
  refine CtT_of (cc := cX4_bottles) (nL := 4) (rt := some .int) (own := RX4) (lv0 := [(0, .ref (b 0)), (1, .int (nI c)), (2, .int x)]) hst (by decide) rfl (Nat.le_of_ble_eq_true rfl) rfl rfl ?_
  intro G C0 hF
  have ek56 : Cond.classLink RX4 56 "java/lang/IllegalArgumentException" ∈ wsX4_bottles := by decide +kernel
  have ei56 : Cond.initialized "java/lang/IllegalArgumentException" ∈ wsX4_bottles := by decide +kernel
  have eg56 : ∀ w ∈ (vx_at0 RX4 58 "java/lang/IllegalArgumentException" ["java/lang/RuntimeException", "java/lang/Exception"]).filter goodWord, w ∈ wsX4_bottles := fun w hw => by simp only [wsX4_bottles, List.mem_cons, List.mem_append, hw, or_true, true_or]
  refine J_iln C0 1 dX4_bottles_0 (kk := ?_)
  refine J_callSd C0 (mX4_requireKind l K (k := c) (by omega)) [mainW K b (nA 0) (aA 0) (fun i => some (d i 0)) (fun i => some (e i 0)) T, celW K nA F, celW K aA Ga, celW K (d 0) (D 0), celW K (d 1) (D 1), celW K (e 0) (S 0), celW K (e 1) (S 1), celW K (e 2) (S 2), celW K (e 3) (S 3), celW K (e 4) (S 4), celW K (e 5) (S 5)] (corkW K b nA aA d e F Ga D S T) gX4_bottles_X4_requireKind dX4_bottles_1 1 (kk := ?_)
  show J G _ _ _ _ _ []
  refine J_iln C0 2 dX4_bottles_4 (kk := ?_)
  refine J_iflt C0 14 dX4_bottles_5 (kt := fun c1 => ?_) (kf := fun c1 => ?_)
  · exact J_throw0 C0 hF ["java/lang/RuntimeException", "java/lang/Exception"] ek56 ei56 eg56 (by decide) atB_X4_56 atA_X4_56 dX4_bottles_14 dX4_bottles_17 dX4_bottles_18 dX4_bottles_21
  · refine J_iln C0 2 dX4_bottles_8 (kk := ?_)
    refine J_bi C0 20 dX4_bottles_9 (kk := ?_)
    refine J_icmple C0 22 dX4_bottles_11 (kt := fun c2 => ?_) (kf := fun c2 => ?_)
    · exact hx.elim (fun q => absurd q c1) (fun q => absurd q (Int32.not_lt.mpr c2))
    · exact J_throw0 C0 hF ["java/lang/RuntimeException", "java/lang/Exception"] ek56 ei56 eg56 (by decide) atB_X4_56 atA_X4_56 dX4_bottles_14 dX4_bottles_17 dX4_bottles_18 dX4_bottles_21

set_option maxHeartbeats 4000000 in
set_option maxRecDepth 100000 in
theorem tX4_bottles_state (l : Launch) (hst : l.stackTraces = false) (K : KT) (b nA aA : Nat → Nat) (d e : Nat → Nat → Nat) (F Ga : FF) (D S : Nat → FF) (T : FF) {c : Nat} (hc3 : c < 3) {m : Nat} (hm : m ≤ 20) (hc : ¬ F 3 c + outK F c ≤ nI m) : CtT l K yX4_bottles wsX4_bottles rmtX4_bottles [.ref (b 0), .int (nI c), .int (nI m)] (corkW K b nA aA d e F Ga D S T) "java/lang/IllegalStateException" := by
  refine CtT_of (cc := cX4_bottles) (nL := 4) (rt := some .int) (own := RX4) (lv0 := [(0, .ref (b 0)), (1, .int (nI c)), (2, .int (nI m))]) hst (by decide) rfl (Nat.le_of_ble_eq_true rfl) rfl rfl ?_
  intro G C0 hF
  have f12 : Cond.fieldLink RX4 12 "CorkPermits" "now" "LCorkPermits$Cellar;" ∈ wsX4_bottles := by decide +kernel
  have iX4 : ∀ w ∈ u_ws RX4 TX4 6, w ∈ wsX4_bottles := by decide +kernel
  have f59 : Cond.fieldLink RX4 59 "CorkPermits$Cellar" "full" "[I" ∈ wsX4_bottles := by decide +kernel
  have iX0 : ∀ w ∈ u_ws RX0 TX0 14, w ∈ wsX4_bottles := by decide +kernel
  have ek45 : Cond.classLink RX4 45 "java/lang/IllegalStateException" ∈ wsX4_bottles := by decide +kernel
  have ei45 : Cond.initialized "java/lang/IllegalStateException" ∈ wsX4_bottles := by decide +kernel
  have eg45 : ∀ w ∈ (vx_at0 RX4 47 "java/lang/IllegalStateException" ["java/lang/RuntimeException", "java/lang/Exception"]).filter goodWord, w ∈ wsX4_bottles := fun w hw => by simp only [wsX4_bottles, List.mem_cons, List.mem_append, hw, or_true, true_or]
  refine J_iln C0 1 dX4_bottles_0 (kk := ?_)
  refine J_callSd C0 (mX4_requireKind l K (k := c) (by omega)) [mainW K b (nA 0) (aA 0) (fun i => some (d i 0)) (fun i => some (e i 0)) T, celW K nA F, celW K aA Ga, celW K (d 0) (D 0), celW K (d 1) (D 1), celW K (e 0) (S 0), celW K (e 1) (S 1), celW K (e 2) (S 2), celW K (e 3) (S 3), celW K (e 4) (S 4), celW K (e 5) (S 5)] (corkW K b nA aA d e F Ga D S T) gX4_bottles_X4_requireKind dX4_bottles_1 1 (kk := ?_)
  show J G _ _ _ _ _ []
  refine J_iln C0 2 dX4_bottles_4 (kk := ?_)
  refine J_ifltN C0 (by omega) dX4_bottles_5 14 (kk := ?_)
  refine J_iln C0 2 dX4_bottles_8 (kk := ?_)
  refine J_bi C0 20 dX4_bottles_9 (kk := ?_)
  refine J_icmpleN C0 22 (by omega) (by omega) dX4_bottles_11 (kt := fun c2 => ?_) (kf := fun c2 => ?_)
  · refine J_iln C0 2 dX4_bottles_22 (kk := ?_)
    refine J_aln C0 0 dX4_bottles_23 (kk := ?_)
    refine J_get C0 iX4 0 0 0 f12 dX4_bottles_24 (kk := ?_)
    refine J_get C0 iX0 1 0 4 f59 dX4_bottles_27 (kk := ?_)
    refine J_iln C0 1 dX4_bottles_30 (kk := ?_)
    refine J_iald C0 1 3 3 dX4_bottles_31 (by omega) (kk := ?_)
    refine J_aln C0 0 dX4_bottles_32 (kk := ?_)
    refine J_get C0 iX4 0 0 0 f12 dX4_bottles_33 (kk := ?_)
    refine J_iln C0 1 dX4_bottles_36 (kk := ?_)
    refine J_perm (permI [0, 2, 3, 4, 5, 6, 7, 8, 9, 10, 1] 11 rfl (by decide +kernel) rfl : List.Perm _ ([mainW K b (nA 0) (aA 0) (fun i => some (d i 0)) (fun i => some (e i 0)) T, celW K aA Ga, celW K (d 0) (D 0), celW K (d 1) (D 1), celW K (e 0) (S 0), celW K (e 1) (S 1), celW K (e 2) (S 2), celW K (e 3) (S 3), celW K (e 4) (S 4), celW K (e 5) (S 5), celW K nA F])) ?_
    refine J_callVd C0 (mX0_outOfKind l K nA F (k := c) (by omega)) [mainW K b (nA 0) (aA 0) (fun i => some (d i 0)) (fun i => some (e i 0)) T, celW K aA Ga, celW K (d 0) (D 0), celW K (d 1) (D 1), celW K (e 0) (S 0), celW K (e 1) (S 1), celW K (e 2) (S 2), celW K (e 3) (S 3), celW K (e 4) (S 4), celW K (e 5) (S 5)] [mainW K b (nA 0) (aA 0) (fun i => some (d i 0)) (fun i => some (e i 0)) T, celW K aA Ga, celW K (d 0) (D 0), celW K (d 1) (D 1), celW K (e 0) (S 0), celW K (e 1) (S 1), celW K (e 2) (S 2), celW K (e 3) (S 3), celW K (e 4) (S 4), celW K (e 5) (S 5), celW K nA F] gX4_bottles_X0_outOfKind dX4_bottles_37 1 0 (kk := ?_)
    refine J_perm (permI [0, 10, 1, 2, 3, 4, 5, 6, 7, 8, 9] 11 rfl (by decide +kernel) rfl : List.Perm _ (corkW K b nA aA d e F Ga D S T)) ?_
    show J G _ _ _ _ _ [.int (outK F c), .int (F 3 c), .int (nI m)]
    refine J_iadd C0 dX4_bottles_40 ?_
    refine J_icmpge C0 52 dX4_bottles_41 (kt := fun c3 => ?_) (kf := fun c3 => ?_)
    · exact absurd c3 hc
    · exact J_throw0 C0 hF ["java/lang/RuntimeException", "java/lang/Exception"] ek45 ei45 eg45 (by decide) atB_X4_45 atA_X4_45 dX4_bottles_44 dX4_bottles_47 dX4_bottles_48 dX4_bottles_51
  · exfalso; omega

abbrev rmtX4_lend : Room := { frames := 7, cells := 1, slots := 6, locals := 112 }
set_option maxHeartbeats 4000000 in
set_option maxRecDepth 100000 in
theorem tX4_lend_pl (l : Launch) (hst : l.stackTraces = false) (K : KT) (b nA aA : Nat → Nat) (d e : Nat → Nat → Nat) (F Ga : FF) (D S : Nat → FF) (T : FF) {x y : Int32} (hp : ¬ isPl F x y) : CtT l K yX4_lend wsX4_lend rmtX4_lend [.ref (b 0), .int x, .int y] (corkW K b nA aA d e F Ga D S T) "java/lang/IndexOutOfBoundsException" := by
  refine CtT_of (cc := cX4_lend) (nL := 3) (rt := some .int) (own := RX4) (lv0 := [(0, .ref (b 0)), (1, .int x), (2, .int y)]) hst (by decide) rfl (Nat.le_of_ble_eq_true rfl) rfl rfl ?_
  intro G C0 hF
  refine J_aln C0 0 dX4_lend_0 (kk := ?_)
  refine J_iln C0 1 dX4_lend_1 (kk := ?_)
  refine J_iln C0 2 dX4_lend_2 (kk := ?_)
  exact J_callTV C0 hF (tX4_requirePlace l hst K b nA aA d e F Ga D S T (x := x) (y := y) hp) [] gX4_lend_X4_requirePlace dX4_lend_3 2 0

set_option maxHeartbeats 4000000 in
set_option maxRecDepth 100000 in
theorem tX4_lend_state (l : Launch) (hst : l.stackTraces = false) (K : KT) (b nA aA : Nat → Nat) (d e : Nat → Nat → Nat) (F Ga : FF) (D S : Nat → FF) (T : FF) {h c : Nat} (hh : h < 4) (hc3 : c < 3) (hp : isPl F (nI h) (nI c)) (hc : ¬ canLendS F c) : CtT l K yX4_lend wsX4_lend rmtX4_lend [.ref (b 0), .int (nI h), .int (nI c)] (corkW K b nA aA d e F Ga D S T) "java/lang/IllegalStateException" := by
  refine CtT_of (cc := cX4_lend) (nL := 3) (rt := some .int) (own := RX4) (lv0 := [(0, .ref (b 0)), (1, .int (nI h)), (2, .int (nI c))]) hst (by decide) rfl (Nat.le_of_ble_eq_true rfl) rfl rfl ?_
  intro G C0 hF
  have f12 : Cond.fieldLink RX4 12 "CorkPermits" "now" "LCorkPermits$Cellar;" ∈ wsX4_lend := by decide +kernel
  have iX4 : ∀ w ∈ u_ws RX4 TX4 6, w ∈ wsX4_lend := by decide +kernel
  have ek45 : Cond.classLink RX4 45 "java/lang/IllegalStateException" ∈ wsX4_lend := by decide +kernel
  have ei45 : Cond.initialized "java/lang/IllegalStateException" ∈ wsX4_lend := by decide +kernel
  have eg45 : ∀ w ∈ (vx_at0 RX4 47 "java/lang/IllegalStateException" ["java/lang/RuntimeException", "java/lang/Exception"]).filter goodWord, w ∈ wsX4_lend := fun w hw => by simp only [wsX4_lend, List.mem_cons, List.mem_append, hw, or_true, true_or]
  refine J_aln C0 0 dX4_lend_0 (kk := ?_)
  refine J_iln C0 1 dX4_lend_1 (kk := ?_)
  refine J_iln C0 2 dX4_lend_2 (kk := ?_)
  refine J_callVd C0 (mX4_requirePlace l K b nA aA d e F Ga D S T (x := nI h) (y := nI c) hp) [] (corkW K b nA aA d e F Ga D S T) gX4_lend_X4_requirePlace dX4_lend_3 2 0 (kk := ?_)
  show J G _ _ _ _ _ []
  refine J_aln C0 0 dX4_lend_6 (kk := ?_)
  refine J_get C0 iX4 0 0 0 f12 dX4_lend_7 (kk := ?_)
  refine J_iln C0 2 dX4_lend_10 (kk := ?_)
  refine J_perm (permI [0, 2, 3, 4, 5, 6, 7, 8, 9, 10, 1] 11 rfl (by decide +kernel) rfl : List.Perm _ ([mainW K b (nA 0) (aA 0) (fun i => some (d i 0)) (fun i => some (e i 0)) T, celW K aA Ga, celW K (d 0) (D 0), celW K (d 1) (D 1), celW K (e 0) (S 0), celW K (e 1) (S 1), celW K (e 2) (S 2), celW K (e 3) (S 3), celW K (e 4) (S 4), celW K (e 5) (S 5), celW K nA F])) ?_
  refine J_callVd C0 (mX0_canLend l K nA F (k := c) (by omega)) [mainW K b (nA 0) (aA 0) (fun i => some (d i 0)) (fun i => some (e i 0)) T, celW K aA Ga, celW K (d 0) (D 0), celW K (d 1) (D 1), celW K (e 0) (S 0), celW K (e 1) (S 1), celW K (e 2) (S 2), celW K (e 3) (S 3), celW K (e 4) (S 4), celW K (e 5) (S 5)] [mainW K b (nA 0) (aA 0) (fun i => some (d i 0)) (fun i => some (e i 0)) T, celW K aA Ga, celW K (d 0) (D 0), celW K (d 1) (D 1), celW K (e 0) (S 0), celW K (e 1) (S 1), celW K (e 2) (S 2), celW K (e 3) (S 3), celW K (e 4) (S 4), celW K (e 5) (S 5), celW K nA F] gX4_lend_X0_canLend dX4_lend_11 1 0 (kk := ?_)
  refine J_perm (permI [0, 10, 1, 2, 3, 4, 5, 6, 7, 8, 9] 11 rfl (by decide +kernel) rfl : List.Perm _ (corkW K b nA aA d e F Ga D S T)) ?_
  show J G _ _ _ _ _ [.int (if canLendS F c then nI 1 else nI 0)]
  refine J_ifneB C0 25 dX4_lend_14 (kt := fun c1 => ?_) (kf := fun c1 => ?_)
  · exact absurd c1 hc
  · exact J_throw0 C0 hF ["java/lang/RuntimeException", "java/lang/Exception"] ek45 ei45 eg45 (by decide) atB_X4_45 atA_X4_45 dX4_lend_17 dX4_lend_20 dX4_lend_21 dX4_lend_24

abbrev rmtX4_ask : Room := { frames := 7, cells := 1, slots := 6, locals := 112 }
set_option maxHeartbeats 4000000 in
set_option maxRecDepth 100000 in
theorem tX4_ask_pl (l : Launch) (hst : l.stackTraces = false) (K : KT) (b nA aA : Nat → Nat) (d e : Nat → Nat → Nat) (F Ga : FF) (D S : Nat → FF) (T : FF) {x y : Int32} (hp : ¬ isPl F x y) : CtT l K yX4_ask wsX4_ask rmtX4_ask [.ref (b 0), .int x, .int y] (corkW K b nA aA d e F Ga D S T) "java/lang/IndexOutOfBoundsException" := by
  refine CtT_of (cc := cX4_ask) (nL := 3) (rt := some .int) (own := RX4) (lv0 := [(0, .ref (b 0)), (1, .int x), (2, .int y)]) hst (by decide) rfl (Nat.le_of_ble_eq_true rfl) rfl rfl ?_
  intro G C0 hF
  refine J_aln C0 0 dX4_ask_0 (kk := ?_)
  refine J_iln C0 1 dX4_ask_1 (kk := ?_)
  refine J_iln C0 2 dX4_ask_2 (kk := ?_)
  exact J_callTV C0 hF (tX4_requirePlace l hst K b nA aA d e F Ga D S T (x := x) (y := y) hp) [] gX4_ask_X4_requirePlace dX4_ask_3 2 0

set_option maxHeartbeats 4000000 in
set_option maxRecDepth 100000 in
theorem tX4_ask_state (l : Launch) (hst : l.stackTraces = false) (K : KT) (b nA aA : Nat → Nat) (d e : Nat → Nat → Nat) (F Ga : FF) (D S : Nat → FF) (T : FF) {h c : Nat} (hh : h < 4) (hc3 : c < 3) (hp : isPl F (nI h) (nI c)) (hc : ¬ roomS F) : CtT l K yX4_ask wsX4_ask rmtX4_ask [.ref (b 0), .int (nI h), .int (nI c)] (corkW K b nA aA d e F Ga D S T) "java/lang/IllegalStateException" := by
  refine CtT_of (cc := cX4_ask) (nL := 3) (rt := some .int) (own := RX4) (lv0 := [(0, .ref (b 0)), (1, .int (nI h)), (2, .int (nI c))]) hst (by decide) rfl (Nat.le_of_ble_eq_true rfl) rfl rfl ?_
  intro G C0 hF
  have f12 : Cond.fieldLink RX4 12 "CorkPermits" "now" "LCorkPermits$Cellar;" ∈ wsX4_ask := by decide +kernel
  have iX4 : ∀ w ∈ u_ws RX4 TX4 6, w ∈ wsX4_ask := by decide +kernel
  have f88 : Cond.fieldLink RX4 88 "CorkPermits$Cellar" "post" "LCorkPermits$Post;" ∈ wsX4_ask := by decide +kernel
  have iX0 : ∀ w ∈ u_ws RX0 TX0 14, w ∈ wsX4_ask := by decide +kernel
  have ek45 : Cond.classLink RX4 45 "java/lang/IllegalStateException" ∈ wsX4_ask := by decide +kernel
  have ei45 : Cond.initialized "java/lang/IllegalStateException" ∈ wsX4_ask := by decide +kernel
  have eg45 : ∀ w ∈ (vx_at0 RX4 47 "java/lang/IllegalStateException" ["java/lang/RuntimeException", "java/lang/Exception"]).filter goodWord, w ∈ wsX4_ask := fun w hw => by simp only [wsX4_ask, List.mem_cons, List.mem_append, hw, or_true, true_or]
  refine J_aln C0 0 dX4_ask_0 (kk := ?_)
  refine J_iln C0 1 dX4_ask_1 (kk := ?_)
  refine J_iln C0 2 dX4_ask_2 (kk := ?_)
  refine J_callVd C0 (mX4_requirePlace l K b nA aA d e F Ga D S T (x := nI h) (y := nI c) hp) [] (corkW K b nA aA d e F Ga D S T) gX4_ask_X4_requirePlace dX4_ask_3 2 0 (kk := ?_)
  show J G _ _ _ _ _ []
  refine J_aln C0 0 dX4_ask_6 (kk := ?_)
  refine J_get C0 iX4 0 0 0 f12 dX4_ask_7 (kk := ?_)
  refine J_get C0 iX0 1 0 13 f88 dX4_ask_10 (kk := ?_)
  refine J_perm (permI [0, 2, 3, 4, 5, 6, 7, 8, 9, 10, 1] 11 rfl (by decide +kernel) rfl : List.Perm _ ([mainW K b (nA 0) (aA 0) (fun i => some (d i 0)) (fun i => some (e i 0)) T, celW K aA Ga, celW K (d 0) (D 0), celW K (d 1) (D 1), celW K (e 0) (S 0), celW K (e 1) (S 1), celW K (e 2) (S 2), celW K (e 3) (S 3), celW K (e 4) (S 4), celW K (e 5) (S 5), celW K nA F])) ?_
  refine J_callVd C0 (mX3_hasRoom l K nA F) [mainW K b (nA 0) (aA 0) (fun i => some (d i 0)) (fun i => some (e i 0)) T, celW K aA Ga, celW K (d 0) (D 0), celW K (d 1) (D 1), celW K (e 0) (S 0), celW K (e 1) (S 1), celW K (e 2) (S 2), celW K (e 3) (S 3), celW K (e 4) (S 4), celW K (e 5) (S 5)] [mainW K b (nA 0) (aA 0) (fun i => some (d i 0)) (fun i => some (e i 0)) T, celW K aA Ga, celW K (d 0) (D 0), celW K (d 1) (D 1), celW K (e 0) (S 0), celW K (e 1) (S 1), celW K (e 2) (S 2), celW K (e 3) (S 3), celW K (e 4) (S 4), celW K (e 5) (S 5), celW K nA F] gX4_ask_X3_hasRoom dX4_ask_13 0 12 (kk := ?_)
  refine J_perm (permI [0, 10, 1, 2, 3, 4, 5, 6, 7, 8, 9] 11 rfl (by decide +kernel) rfl : List.Perm _ (corkW K b nA aA d e F Ga D S T)) ?_
  show J G _ _ _ _ _ [.int (if roomS F then nI 1 else nI 0)]
  refine J_ifneB C0 27 dX4_ask_16 (kt := fun c1 => ?_) (kf := fun c1 => ?_)
  · exact absurd c1 hc
  · exact J_throw0 C0 hF ["java/lang/RuntimeException", "java/lang/Exception"] ek45 ei45 eg45 (by decide) atB_X4_45 atA_X4_45 dX4_ask_19 dX4_ask_22 dX4_ask_23 dX4_ask_26

abbrev rmtX4_want : Room := { frames := 7, cells := 1, slots := 6, locals := 112 }
set_option maxHeartbeats 4000000 in
set_option maxRecDepth 100000 in
theorem tX4_want_pl (l : Launch) (hst : l.stackTraces = false) (K : KT) (b nA aA : Nat → Nat) (d e : Nat → Nat → Nat) (F Ga : FF) (D S : Nat → FF) (T : FF) {x y : Int32} (hp : ¬ isPl F x y) : CtT l K yX4_want wsX4_want rmtX4_want [.ref (b 0), .int x, .int y] (corkW K b nA aA d e F Ga D S T) "java/lang/IndexOutOfBoundsException" := by
  refine CtT_of (cc := cX4_want) (nL := 3) (rt := some .int) (own := RX4) (lv0 := [(0, .ref (b 0)), (1, .int x), (2, .int y)]) hst (by decide) rfl (Nat.le_of_ble_eq_true rfl) rfl rfl ?_
  intro G C0 hF
  refine J_aln C0 0 dX4_want_0 (kk := ?_)
  refine J_iln C0 1 dX4_want_1 (kk := ?_)
  refine J_iln C0 2 dX4_want_2 (kk := ?_)
  exact J_callTV C0 hF (tX4_requirePlace l hst K b nA aA d e F Ga D S T (x := x) (y := y) hp) [] gX4_want_X4_requirePlace dX4_want_3 2 0

set_option maxHeartbeats 4000000 in
set_option maxRecDepth 100000 in
theorem tX4_want_state (l : Launch) (hst : l.stackTraces = false) (K : KT) (b nA aA : Nat → Nat) (d e : Nat → Nat → Nat) (F Ga : FF) (D S : Nat → FF) (T : FF) {h c : Nat} (hh : h < 4) (hc3 : c < 3) (hp : isPl F (nI h) (nI c)) (hc : ¬ ¬ nI 9 ≤ F 11 (h * 3 + c)) : CtT l K yX4_want wsX4_want rmtX4_want [.ref (b 0), .int (nI h), .int (nI c)] (corkW K b nA aA d e F Ga D S T) "java/lang/IllegalStateException" := by
  refine CtT_of (cc := cX4_want) (nL := 3) (rt := some .int) (own := RX4) (lv0 := [(0, .ref (b 0)), (1, .int (nI h)), (2, .int (nI c))]) hst (by decide) rfl (Nat.le_of_ble_eq_true rfl) rfl rfl ?_
  intro G C0 hF
  have f12 : Cond.fieldLink RX4 12 "CorkPermits" "now" "LCorkPermits$Cellar;" ∈ wsX4_want := by decide +kernel
  have iX4 : ∀ w ∈ u_ws RX4 TX4 6, w ∈ wsX4_want := by decide +kernel
  have ek45 : Cond.classLink RX4 45 "java/lang/IllegalStateException" ∈ wsX4_want := by decide +kernel
  have ei45 : Cond.initialized "java/lang/IllegalStateException" ∈ wsX4_want := by decide +kernel
  have eg45 : ∀ w ∈ (vx_at0 RX4 47 "java/lang/IllegalStateException" ["java/lang/RuntimeException", "java/lang/Exception"]).filter goodWord, w ∈ wsX4_want := fun w hw => by simp only [wsX4_want, List.mem_cons, List.mem_append, hw, or_true, true_or]
  refine J_aln C0 0 dX4_want_0 (kk := ?_)
  refine J_iln C0 1 dX4_want_1 (kk := ?_)
  refine J_iln C0 2 dX4_want_2 (kk := ?_)
  refine J_callVd C0 (mX4_requirePlace l K b nA aA d e F Ga D S T (x := nI h) (y := nI c) hp) [] (corkW K b nA aA d e F Ga D S T) gX4_want_X4_requirePlace dX4_want_3 2 0 (kk := ?_)
  show J G _ _ _ _ _ []
  refine J_aln C0 0 dX4_want_6 (kk := ?_)
  refine J_get C0 iX4 0 0 0 f12 dX4_want_7 (kk := ?_)
  refine J_iln C0 1 dX4_want_10 (kk := ?_)
  refine J_iln C0 2 dX4_want_11 (kk := ?_)
  refine J_callSd C0 (mX4_placeOf l K h c) [mainW K b (nA 0) (aA 0) (fun i => some (d i 0)) (fun i => some (e i 0)) T, celW K nA F, celW K aA Ga, celW K (d 0) (D 0), celW K (d 1) (D 1), celW K (e 0) (S 0), celW K (e 1) (S 1), celW K (e 2) (S 2), celW K (e 3) (S 3), celW K (e 4) (S 4), celW K (e 5) (S 5)] (corkW K b nA aA d e F Ga D S T) gX4_want_X4_placeOf dX4_want_12 2 (kk := ?_)
  show J G _ _ _ _ _ [.int (nI (h * 3 + c)), .ref (nA 0)]
  refine J_perm (permI [0, 2, 3, 4, 5, 6, 7, 8, 9, 10, 1] 11 rfl (by decide +kernel) rfl : List.Perm _ ([mainW K b (nA 0) (aA 0) (fun i => some (d i 0)) (fun i => some (e i 0)) T, celW K aA Ga, celW K (d 0) (D 0), celW K (d 1) (D 1), celW K (e 0) (S 0), celW K (e 1) (S 1), celW K (e 2) (S 2), celW K (e 3) (S 3), celW K (e 4) (S 4), celW K (e 5) (S 5), celW K nA F])) ?_
  refine J_callVd C0 (mX0_canWait l K nA F (p := h * 3 + c) (by omega)) [mainW K b (nA 0) (aA 0) (fun i => some (d i 0)) (fun i => some (e i 0)) T, celW K aA Ga, celW K (d 0) (D 0), celW K (d 1) (D 1), celW K (e 0) (S 0), celW K (e 1) (S 1), celW K (e 2) (S 2), celW K (e 3) (S 3), celW K (e 4) (S 4), celW K (e 5) (S 5)] [mainW K b (nA 0) (aA 0) (fun i => some (d i 0)) (fun i => some (e i 0)) T, celW K aA Ga, celW K (d 0) (D 0), celW K (d 1) (D 1), celW K (e 0) (S 0), celW K (e 1) (S 1), celW K (e 2) (S 2), celW K (e 3) (S 3), celW K (e 4) (S 4), celW K (e 5) (S 5), celW K nA F] gX4_want_X0_canWait dX4_want_15 1 0 (kk := ?_)
  refine J_perm (permI [0, 10, 1, 2, 3, 4, 5, 6, 7, 8, 9] 11 rfl (by decide +kernel) rfl : List.Perm _ (corkW K b nA aA d e F Ga D S T)) ?_
  show J G _ _ _ _ _ [.int (if ¬ nI 9 ≤ F 11 (h * 3 + c) then nI 1 else nI 0)]
  refine J_ifneB C0 29 dX4_want_18 (kt := fun c1 => ?_) (kf := fun c1 => ?_)
  · exact absurd c1 hc
  · exact J_throw0 C0 hF ["java/lang/RuntimeException", "java/lang/Exception"] ek45 ei45 eg45 (by decide) atB_X4_45 atA_X4_45 dX4_want_21 dX4_want_24 dX4_want_25 dX4_want_28

abbrev rmtX4_drink : Room := { frames := 7, cells := 1, slots := 6, locals := 110 }
set_option maxHeartbeats 4000000 in
set_option maxRecDepth 100000 in
theorem tX4_drink_kind (l : Launch) (hst : l.stackTraces = false) (K : KT) (b nA aA : Nat → Nat) (d e : Nat → Nat → Nat) (F Ga : FF) (D S : Nat → FF) (T : FF) {x : Int32} (hx : x < 0 ∨ nI 3 ≤ x) : CtT l K yX4_drink wsX4_drink rmtX4_drink [.ref (b 0), .int x] (corkW K b nA aA d e F Ga D S T) "java/lang/IndexOutOfBoundsException" := by
  refine CtT_of (cc := cX4_drink) (nL := 2) (rt := some .int) (own := RX4) (lv0 := [(0, .ref (b 0)), (1, .int x)]) hst (by decide) rfl (Nat.le_of_ble_eq_true rfl) rfl rfl ?_
  intro G C0 hF
  refine J_iln C0 1 dX4_drink_0 (kk := ?_)
  exact J_callTS C0 hF (tX4_requireKind l hst K hx) (corkW K b nA aA d e F Ga D S T) gX4_drink_X4_requireKind dX4_drink_1 1

set_option maxHeartbeats 4000000 in
set_option maxRecDepth 100000 in
theorem tX4_drink_state (l : Launch) (hst : l.stackTraces = false) (K : KT) (b nA aA : Nat → Nat) (d e : Nat → Nat → Nat) (F Ga : FF) (D S : Nat → FF) (T : FF) {c : Nat} (hc3 : c < 3) (hc : ¬ 0 < F 3 c) : CtT l K yX4_drink wsX4_drink rmtX4_drink [.ref (b 0), .int (nI c)] (corkW K b nA aA d e F Ga D S T) "java/lang/IllegalStateException" := by
  refine CtT_of (cc := cX4_drink) (nL := 2) (rt := some .int) (own := RX4) (lv0 := [(0, .ref (b 0)), (1, .int (nI c))]) hst (by decide) rfl (Nat.le_of_ble_eq_true rfl) rfl rfl ?_
  intro G C0 hF
  have f12 : Cond.fieldLink RX4 12 "CorkPermits" "now" "LCorkPermits$Cellar;" ∈ wsX4_drink := by decide +kernel
  have iX4 : ∀ w ∈ u_ws RX4 TX4 6, w ∈ wsX4_drink := by decide +kernel
  have f59 : Cond.fieldLink RX4 59 "CorkPermits$Cellar" "full" "[I" ∈ wsX4_drink := by decide +kernel
  have iX0 : ∀ w ∈ u_ws RX0 TX0 14, w ∈ wsX4_drink := by decide +kernel
  have ek45 : Cond.classLink RX4 45 "java/lang/IllegalStateException" ∈ wsX4_drink := by decide +kernel
  have ei45 : Cond.initialized "java/lang/IllegalStateException" ∈ wsX4_drink := by decide +kernel
  have eg45 : ∀ w ∈ (vx_at0 RX4 47 "java/lang/IllegalStateException" ["java/lang/RuntimeException", "java/lang/Exception"]).filter goodWord, w ∈ wsX4_drink := fun w hw => by simp only [wsX4_drink, List.mem_cons, List.mem_append, hw, or_true, true_or]
  refine J_iln C0 1 dX4_drink_0 (kk := ?_)
  refine J_callSd C0 (mX4_requireKind l K (k := c) (by omega)) [mainW K b (nA 0) (aA 0) (fun i => some (d i 0)) (fun i => some (e i 0)) T, celW K nA F, celW K aA Ga, celW K (d 0) (D 0), celW K (d 1) (D 1), celW K (e 0) (S 0), celW K (e 1) (S 1), celW K (e 2) (S 2), celW K (e 3) (S 3), celW K (e 4) (S 4), celW K (e 5) (S 5)] (corkW K b nA aA d e F Ga D S T) gX4_drink_X4_requireKind dX4_drink_1 1 (kk := ?_)
  show J G _ _ _ _ _ []
  refine J_aln C0 0 dX4_drink_4 (kk := ?_)
  refine J_get C0 iX4 0 0 0 f12 dX4_drink_5 (kk := ?_)
  refine J_get C0 iX0 1 0 4 f59 dX4_drink_8 (kk := ?_)
  refine J_iln C0 1 dX4_drink_11 (kk := ?_)
  refine J_iald C0 1 3 3 dX4_drink_12 (by omega) (kk := ?_)
  refine J_ifgt C0 24 dX4_drink_13 (kt := fun c1 => ?_) (kf := fun c1 => ?_)
  · exact absurd c1 hc
  · exact J_throw0 C0 hF ["java/lang/RuntimeException", "java/lang/Exception"] ek45 ei45 eg45 (by decide) atB_X4_45 atA_X4_45 dX4_drink_16 dX4_drink_19 dX4_drink_20 dX4_drink_23

abbrev rmtX4_pass : Room := { frames := 7, cells := 1, slots := 6, locals := 110 }
set_option maxHeartbeats 4000000 in
set_option maxRecDepth 100000 in
theorem tX4_pass_ticks (l : Launch) (hst : l.stackTraces = false) (K : KT) (b nA aA : Nat → Nat) (d e : Nat → Nat → Nat) (F Ga : FF) (D S : Nat → FF) (T : FF) {x : Int32} (hx : x < nI 1 ∨ nI 60 < x) : CtT l K yX4_pass wsX4_pass rmtX4_pass [.ref (b 0), .int x] (corkW K b nA aA d e F Ga D S T) "java/lang/IllegalArgumentException" := by
  refine CtT_of (cc := cX4_pass) (nL := 3) (rt := some .int) (own := RX4) (lv0 := [(0, .ref (b 0)), (1, .int x)]) hst (by decide) rfl (Nat.le_of_ble_eq_true rfl) rfl rfl ?_
  intro G C0 hF
  refine J_iln C0 1 dX4_pass_0 (kk := ?_)
  exact J_callTS C0 hF (tX4_requireTicks l hst K hx) (corkW K b nA aA d e F Ga D S T) gX4_pass_X4_requireTicks dX4_pass_1 1

set_option maxHeartbeats 4000000 in
set_option maxRecDepth 100000 in
theorem tX4_pass_state (l : Launch) (hst : l.stackTraces = false) (K : KT) (b nA aA : Nat → Nat) (d e : Nat → Nat → Nat) (F Ga : FF) (D S : Nat → FF) (T : FF) {t : Nat} (ht1 : 1 ≤ t) (ht : t ≤ 60) (hc : ¬ F 0 0 + nI t ≤ nI 9999) : CtT l K yX4_pass wsX4_pass rmtX4_pass [.ref (b 0), .int (nI t)] (corkW K b nA aA d e F Ga D S T) "java/lang/IllegalStateException" := by
  refine CtT_of (cc := cX4_pass) (nL := 3) (rt := some .int) (own := RX4) (lv0 := [(0, .ref (b 0)), (1, .int (nI t))]) hst (by decide) rfl (Nat.le_of_ble_eq_true rfl) rfl rfl ?_
  intro G C0 hF
  have f12 : Cond.fieldLink RX4 12 "CorkPermits" "now" "LCorkPermits$Cellar;" ∈ wsX4_pass := by decide +kernel
  have iX4 : ∀ w ∈ u_ws RX4 TX4 6, w ∈ wsX4_pass := by decide +kernel
  have f116 : Cond.fieldLink RX4 116 "CorkPermits$Cellar" "time" "I" ∈ wsX4_pass := by decide +kernel
  have iX0 : ∀ w ∈ u_ws RX0 TX0 14, w ∈ wsX4_pass := by decide +kernel
  have ek45 : Cond.classLink RX4 45 "java/lang/IllegalStateException" ∈ wsX4_pass := by decide +kernel
  have ei45 : Cond.initialized "java/lang/IllegalStateException" ∈ wsX4_pass := by decide +kernel
  have eg45 : ∀ w ∈ (vx_at0 RX4 47 "java/lang/IllegalStateException" ["java/lang/RuntimeException", "java/lang/Exception"]).filter goodWord, w ∈ wsX4_pass := fun w hw => by simp only [wsX4_pass, List.mem_cons, List.mem_append, hw, or_true, true_or]
  refine J_iln C0 1 dX4_pass_0 (kk := ?_)
  refine J_callSd C0 (mX4_requireTicks l K (k := t) (by omega) (by omega)) [mainW K b (nA 0) (aA 0) (fun i => some (d i 0)) (fun i => some (e i 0)) T, celW K nA F, celW K aA Ga, celW K (d 0) (D 0), celW K (d 1) (D 1), celW K (e 0) (S 0), celW K (e 1) (S 1), celW K (e 2) (S 2), celW K (e 3) (S 3), celW K (e 4) (S 4), celW K (e 5) (S 5)] (corkW K b nA aA d e F Ga D S T) gX4_pass_X4_requireTicks dX4_pass_1 1 (kk := ?_)
  show J G _ _ _ _ _ []
  refine J_aln C0 0 dX4_pass_4 (kk := ?_)
  refine J_get C0 iX4 0 0 0 f12 dX4_pass_5 (kk := ?_)
  refine J_get C0 iX0 1 0 0 f116 dX4_pass_8 (kk := ?_)
  refine J_iln C0 1 dX4_pass_11 (kk := ?_)
  refine J_iadd C0 dX4_pass_12 ?_
  refine J_si C0 9999 dX4_pass_13 (kk := ?_)
  refine J_icmple C0 27 dX4_pass_16 (kt := fun c1 => ?_) (kf := fun c1 => ?_)
  · exact absurd c1 hc
  · exact J_throw0 C0 hF ["java/lang/RuntimeException", "java/lang/Exception"] ek45 ei45 eg45 (by decide) atB_X4_45 atA_X4_45 dX4_pass_19 dX4_pass_22 dX4_pass_23 dX4_pass_26

abbrev rmtX4_append : Room := { frames := 6, cells := 1, slots := 6, locals := 90 }
set_option maxHeartbeats 4000000 in
set_option maxRecDepth 100000 in
theorem tX4_append_code (l : Launch) (hst : l.stackTraces = false) (K : KT) (b nA aA : Nat → Nat) (d e : Nat → Nat → Nat) (F Ga : FF) (D S : Nat → FF) (T : FF) {x : Int32} (hx : x < nI 33 ∨ nI 126 < x) : CtT l K yX4_append wsX4_append rmtX4_append [.ref (b 0), .int x] (corkW K b nA aA d e F Ga D S T) "java/lang/IllegalArgumentException" := by
  refine CtT_of (cc := cX4_append) (nL := 2) (rt := some .int) (own := RX4) (lv0 := [(0, .ref (b 0)), (1, .int x)]) hst (by decide) rfl (Nat.le_of_ble_eq_true rfl) rfl rfl ?_
  intro G C0 hF
  have ek56 : Cond.classLink RX4 56 "java/lang/IllegalArgumentException" ∈ wsX4_append := by decide +kernel
  have ei56 : Cond.initialized "java/lang/IllegalArgumentException" ∈ wsX4_append := by decide +kernel
  have eg56 : ∀ w ∈ (vx_at0 RX4 58 "java/lang/IllegalArgumentException" ["java/lang/RuntimeException", "java/lang/Exception"]).filter goodWord, w ∈ wsX4_append := fun w hw => by simp only [wsX4_append, List.mem_cons, List.mem_append, hw, or_true, true_or]
  refine J_iln C0 1 dX4_append_0 (kk := ?_)
  refine J_bi C0 33 dX4_append_1 (kk := ?_)
  refine J_icmplt C0 12 dX4_append_3 (kt := fun c1 => ?_) (kf := fun c1 => ?_)
  · exact J_throw0 C0 hF ["java/lang/RuntimeException", "java/lang/Exception"] ek56 ei56 eg56 (by decide) atB_X4_56 atA_X4_56 dX4_append_12 dX4_append_15 dX4_append_16 dX4_append_19
  · refine J_iln C0 1 dX4_append_6 (kk := ?_)
    refine J_bi C0 126 dX4_append_7 (kk := ?_)
    refine J_icmple C0 20 dX4_append_9 (kt := fun c2 => ?_) (kf := fun c2 => ?_)
    · exact hx.elim (fun q => absurd q c1) (fun q => absurd q (Int32.not_lt.mpr c2))
    · exact J_throw0 C0 hF ["java/lang/RuntimeException", "java/lang/Exception"] ek56 ei56 eg56 (by decide) atB_X4_56 atA_X4_56 dX4_append_12 dX4_append_15 dX4_append_16 dX4_append_19

set_option maxHeartbeats 4000000 in
set_option maxRecDepth 100000 in
theorem tX4_append_state (l : Launch) (hst : l.stackTraces = false) (K : KT) (b nA aA : Nat → Nat) (d e : Nat → Nat → Nat) (F Ga : FF) (D S : Nat → FF) (T : FF) {x : Int32} (hx1 : ¬ x < nI 33) (hx2 : x ≤ nI 126) (hc : ¬ T 0 1 < nI 60) : CtT l K yX4_append wsX4_append rmtX4_append [.ref (b 0), .int x] (corkW K b nA aA d e F Ga D S T) "java/lang/IllegalStateException" := by
  refine CtT_of (cc := cX4_append) (nL := 2) (rt := some .int) (own := RX4) (lv0 := [(0, .ref (b 0)), (1, .int x)]) hst (by decide) rfl (Nat.le_of_ble_eq_true rfl) rfl rfl ?_
  intro G C0 hF
  have f37 : Cond.fieldLink RX4 37 "CorkPermits" "text" "LCorkPermits$DayText;" ∈ wsX4_append := by decide +kernel
  have iX4 : ∀ w ∈ u_ws RX4 TX4 6, w ∈ wsX4_append := by decide +kernel
  have f141 : Cond.fieldLink RX4 141 "CorkPermits$DayText" "length" "I" ∈ wsX4_append := by decide +kernel
  have iX1 : ∀ w ∈ u_ws RX1 TX1 2, w ∈ wsX4_append := by decide +kernel
  have ek45 : Cond.classLink RX4 45 "java/lang/IllegalStateException" ∈ wsX4_append := by decide +kernel
  have ei45 : Cond.initialized "java/lang/IllegalStateException" ∈ wsX4_append := by decide +kernel
  have eg45 : ∀ w ∈ (vx_at0 RX4 47 "java/lang/IllegalStateException" ["java/lang/RuntimeException", "java/lang/Exception"]).filter goodWord, w ∈ wsX4_append := fun w hw => by simp only [wsX4_append, List.mem_cons, List.mem_append, hw, or_true, true_or]
  refine J_iln C0 1 dX4_append_0 (kk := ?_)
  refine J_bi C0 33 dX4_append_1 (kk := ?_)
  refine J_icmplt C0 12 dX4_append_3 (kt := fun c1 => ?_) (kf := fun c1 => ?_)
  · exact absurd c1 hx1
  · refine J_iln C0 1 dX4_append_6 (kk := ?_)
    refine J_bi C0 126 dX4_append_7 (kk := ?_)
    refine J_icmple C0 20 dX4_append_9 (kt := fun c2 => ?_) (kf := fun c2 => ?_)
    · refine J_aln C0 0 dX4_append_20 (kk := ?_)
      refine J_get C0 iX4 0 0 5 f37 dX4_append_21 (kk := ?_)
      refine J_get C0 iX1 0 5 1 f141 dX4_append_24 (kk := ?_)
      refine J_bi C0 60 dX4_append_27 (kk := ?_)
      refine J_icmplt C0 40 dX4_append_29 (kt := fun c3 => ?_) (kf := fun c3 => ?_)
      · exact absurd c3 hc
      · exact J_throw0 C0 hF ["java/lang/RuntimeException", "java/lang/Exception"] ek45 ei45 eg45 (by decide) atB_X4_45 atA_X4_45 dX4_append_32 dX4_append_35 dX4_append_36 dX4_append_39
    · exact absurd hx2 c2

abbrev rmtX4_keep : Room := { frames := 7, cells := 1, slots := 6, locals := 110 }
set_option maxHeartbeats 4000000 in
set_option maxRecDepth 100000 in
theorem tX4_keep_slot (l : Launch) (hst : l.stackTraces = false) (K : KT) (b nA aA : Nat → Nat) (d e : Nat → Nat → Nat) (F Ga : FF) (D S : Nat → FF) (T : FF) {x : Int32} (hx : x < 0 ∨ nI 2 ≤ x) : CtT l K yX4_keep wsX4_keep rmtX4_keep [.ref (b 0), .int x] (corkW K b nA aA d e F Ga D S T) "java/lang/IllegalArgumentException" := by
  refine CtT_of (cc := cX4_keep) (nL := 2) (rt := some .int) (own := RX4) (lv0 := [(0, .ref (b 0)), (1, .int x)]) hst (by decide) rfl (Nat.le_of_ble_eq_true rfl) rfl rfl ?_
  intro G C0 hF
  refine J_iln C0 1 dX4_keep_0 (kk := ?_)
  exact J_callTS C0 hF (tX4_requireSlot l hst K hx) (corkW K b nA aA d e F Ga D S T) gX4_keep_X4_requireSlot dX4_keep_1 1

abbrev rmtX4_goBack : Room := { frames := 7, cells := 1, slots := 6, locals := 110 }
set_option maxHeartbeats 4000000 in
set_option maxRecDepth 100000 in
theorem tX4_goBack_slot (l : Launch) (hst : l.stackTraces = false) (K : KT) (b nA aA : Nat → Nat) (d e : Nat → Nat → Nat) (F Ga : FF) (D S : Nat → FF) (T : FF) {x : Int32} (hx : x < 0 ∨ nI 2 ≤ x) : CtT l K yX4_goBack wsX4_goBack rmtX4_goBack [.ref (b 0), .int x] (corkW K b nA aA d e F Ga D S T) "java/lang/IllegalArgumentException" := by
  refine CtT_of (cc := cX4_goBack) (nL := 2) (rt := some .int) (own := RX4) (lv0 := [(0, .ref (b 0)), (1, .int x)]) hst (by decide) rfl (Nat.le_of_ble_eq_true rfl) rfl rfl ?_
  intro G C0 hF
  refine J_iln C0 1 dX4_goBack_0 (kk := ?_)
  exact J_callTS C0 hF (tX4_requireSlot l hst K hx) (corkW K b nA aA d e F Ga D S T) gX4_goBack_X4_requireSlot dX4_goBack_1 1

set_option maxHeartbeats 4000000 in
set_option maxRecDepth 100000 in
theorem tX4_goBack_state_0 (l : Launch) (hst : l.stackTraces = false) (K : KT) (b nA aA : Nat → Nat) (d e : Nat → Nat → Nat) (F Ga : FF) (D S : Nat → FF) (T : FF) (hc : T 1 0 = 0) : CtT l K yX4_goBack wsX4_goBack rmtX4_goBack [.ref (b 0), .int (nI 0)] (corkW K b nA aA d e F Ga D S T) "java/lang/IllegalStateException" := by
  refine CtT_of (cc := cX4_goBack) (nL := 2) (rt := some .int) (own := RX4) (lv0 := [(0, .ref (b 0)), (1, .int (nI 0))]) hst (by decide) rfl (Nat.le_of_ble_eq_true rfl) rfl rfl ?_
  intro G C0 hF
  have f23 : Cond.fieldLink RX4 23 "CorkPermits" "slotTaken" "[Z" ∈ wsX4_goBack := by decide +kernel
  have iX4 : ∀ w ∈ u_ws RX4 TX4 6, w ∈ wsX4_goBack := by decide +kernel
  have ek45 : Cond.classLink RX4 45 "java/lang/IllegalStateException" ∈ wsX4_goBack := by decide +kernel
  have ei45 : Cond.initialized "java/lang/IllegalStateException" ∈ wsX4_goBack := by decide +kernel
  have eg45 : ∀ w ∈ (vx_at0 RX4 47 "java/lang/IllegalStateException" ["java/lang/RuntimeException", "java/lang/Exception"]).filter goodWord, w ∈ wsX4_goBack := fun w hw => by simp only [wsX4_goBack, List.mem_cons, List.mem_append, hw, or_true, true_or]
  refine J_iln C0 1 dX4_goBack_0 (kk := ?_)
  refine J_callSd C0 (mX4_requireSlot l K (k := 0) (by omega)) [mainW K b (nA 0) (aA 0) (fun i => some (d i 0)) (fun i => some (e i 0)) T, celW K nA F, celW K aA Ga, celW K (d 0) (D 0), celW K (d 1) (D 1), celW K (e 0) (S 0), celW K (e 1) (S 1), celW K (e 2) (S 2), celW K (e 3) (S 3), celW K (e 4) (S 4), celW K (e 5) (S 5)] (corkW K b nA aA d e F Ga D S T) gX4_goBack_X4_requireSlot dX4_goBack_1 1 (kk := ?_)
  show J G _ _ _ _ _ []
  refine J_aln C0 0 dX4_goBack_4 (kk := ?_)
  refine J_get C0 iX4 0 0 3 f23 dX4_goBack_5 (kk := ?_)
  refine J_iln C0 1 dX4_goBack_8 (kk := ?_)
  refine J_zald C0 0 2 2 dX4_goBack_9 (by omega) (kk := ?_)
  refine J_ifne C0 21 dX4_goBack_10 (kt := fun c1 => ?_) (kf := fun c1 => ?_)
  · exact absurd hc c1
  · exact J_throw0 C0 hF ["java/lang/RuntimeException", "java/lang/Exception"] ek45 ei45 eg45 (by decide) atB_X4_45 atA_X4_45 dX4_goBack_13 dX4_goBack_16 dX4_goBack_17 dX4_goBack_20

set_option maxHeartbeats 4000000 in
set_option maxRecDepth 100000 in
theorem tX4_goBack_state_1 (l : Launch) (hst : l.stackTraces = false) (K : KT) (b nA aA : Nat → Nat) (d e : Nat → Nat → Nat) (F Ga : FF) (D S : Nat → FF) (T : FF) (hc : T 1 1 = 0) : CtT l K yX4_goBack wsX4_goBack rmtX4_goBack [.ref (b 0), .int (nI 1)] (corkW K b nA aA d e F Ga D S T) "java/lang/IllegalStateException" := by
  refine CtT_of (cc := cX4_goBack) (nL := 2) (rt := some .int) (own := RX4) (lv0 := [(0, .ref (b 0)), (1, .int (nI 1))]) hst (by decide) rfl (Nat.le_of_ble_eq_true rfl) rfl rfl ?_
  intro G C0 hF
  have f23 : Cond.fieldLink RX4 23 "CorkPermits" "slotTaken" "[Z" ∈ wsX4_goBack := by decide +kernel
  have iX4 : ∀ w ∈ u_ws RX4 TX4 6, w ∈ wsX4_goBack := by decide +kernel
  have ek45 : Cond.classLink RX4 45 "java/lang/IllegalStateException" ∈ wsX4_goBack := by decide +kernel
  have ei45 : Cond.initialized "java/lang/IllegalStateException" ∈ wsX4_goBack := by decide +kernel
  have eg45 : ∀ w ∈ (vx_at0 RX4 47 "java/lang/IllegalStateException" ["java/lang/RuntimeException", "java/lang/Exception"]).filter goodWord, w ∈ wsX4_goBack := fun w hw => by simp only [wsX4_goBack, List.mem_cons, List.mem_append, hw, or_true, true_or]
  refine J_iln C0 1 dX4_goBack_0 (kk := ?_)
  refine J_callSd C0 (mX4_requireSlot l K (k := 1) (by omega)) [mainW K b (nA 0) (aA 0) (fun i => some (d i 0)) (fun i => some (e i 0)) T, celW K nA F, celW K aA Ga, celW K (d 0) (D 0), celW K (d 1) (D 1), celW K (e 0) (S 0), celW K (e 1) (S 1), celW K (e 2) (S 2), celW K (e 3) (S 3), celW K (e 4) (S 4), celW K (e 5) (S 5)] (corkW K b nA aA d e F Ga D S T) gX4_goBack_X4_requireSlot dX4_goBack_1 1 (kk := ?_)
  show J G _ _ _ _ _ []
  refine J_aln C0 0 dX4_goBack_4 (kk := ?_)
  refine J_get C0 iX4 0 0 3 f23 dX4_goBack_5 (kk := ?_)
  refine J_iln C0 1 dX4_goBack_8 (kk := ?_)
  refine J_zald C0 0 2 2 dX4_goBack_9 (by omega) (kk := ?_)
  refine J_ifne C0 21 dX4_goBack_10 (kt := fun c1 => ?_) (kf := fun c1 => ?_)
  · exact absurd hc c1
  · exact J_throw0 C0 hF ["java/lang/RuntimeException", "java/lang/Exception"] ek45 ei45 eg45 (by decide) atB_X4_45 atA_X4_45 dX4_goBack_13 dX4_goBack_16 dX4_goBack_17 dX4_goBack_20

abbrev rmtX4_undo : Room := { frames := 6, cells := 1, slots := 6, locals := 90 }
set_option maxHeartbeats 4000000 in
set_option maxRecDepth 100000 in
theorem tX4_undo (l : Launch) (hst : l.stackTraces = false) (K : KT) (b nA aA : Nat → Nat) (d e : Nat → Nat → Nat) (F Ga : FF) (D S : Nat → FF) (T : FF) (hc : ¬ 0 < T 0 0) : CtT l K yX4_undo wsX4_undo rmtX4_undo [.ref (b 0)] (corkW K b nA aA d e F Ga D S T) "java/lang/IllegalStateException" := by
  refine CtT_of (cc := cX4_undo) (nL := 1) (rt := some .int) (own := RX4) (lv0 := [(0, .ref (b 0))]) hst (by decide) rfl (Nat.le_of_ble_eq_true rfl) rfl rfl ?_
  intro G C0 hF
  have f30 : Cond.fieldLink RX4 30 "CorkPermits" "history" "LCorkPermits$History;" ∈ wsX4_undo := by decide +kernel
  have iX4 : ∀ w ∈ u_ws RX4 TX4 6, w ∈ wsX4_undo := by decide +kernel
  have f166 : Cond.fieldLink RX4 166 "CorkPermits$History" "size" "I" ∈ wsX4_undo := by decide +kernel
  have iX2 : ∀ w ∈ u_ws RX2 TX2 2, w ∈ wsX4_undo := by decide +kernel
  have ek45 : Cond.classLink RX4 45 "java/lang/IllegalStateException" ∈ wsX4_undo := by decide +kernel
  have ei45 : Cond.initialized "java/lang/IllegalStateException" ∈ wsX4_undo := by decide +kernel
  have eg45 : ∀ w ∈ (vx_at0 RX4 47 "java/lang/IllegalStateException" ["java/lang/RuntimeException", "java/lang/Exception"]).filter goodWord, w ∈ wsX4_undo := fun w hw => by simp only [wsX4_undo, List.mem_cons, List.mem_append, hw, or_true, true_or]
  refine J_aln C0 0 dX4_undo_0 (kk := ?_)
  refine J_get C0 iX4 0 0 4 f30 dX4_undo_1 (kk := ?_)
  refine J_get C0 iX2 0 3 1 f166 dX4_undo_4 (kk := ?_)
  refine J_ifgt C0 18 dX4_undo_7 (kt := fun c1 => ?_) (kf := fun c1 => ?_)
  · exact absurd c1 hc
  · exact J_throw0 C0 hF ["java/lang/RuntimeException", "java/lang/Exception"] ek45 ei45 eg45 (by decide) atB_X4_45 atA_X4_45 dX4_undo_10 dX4_undo_13 dX4_undo_14 dX4_undo_17

abbrev rmtX4_kind : Room := { frames := 7, cells := 1, slots := 6, locals := 111 }
set_option maxHeartbeats 4000000 in
set_option maxRecDepth 100000 in
theorem tX4_kind_kind (l : Launch) (hst : l.stackTraces = false) (K : KT) (b nA aA : Nat → Nat) (d e : Nat → Nat → Nat) (F Ga : FF) (D S : Nat → FF) (T : FF) {x : Int32} (hx : x < 0 ∨ nI 3 ≤ x) (z : Int32) : CtT l K yX4_kind wsX4_kind rmtX4_kind [.ref (b 0), .int x, .int z] (corkW K b nA aA d e F Ga D S T) "java/lang/IndexOutOfBoundsException" := by
  refine CtT_of (cc := cX4_kind) (nL := 3) (rt := some .int) (own := RX4) (lv0 := [(0, .ref (b 0)), (1, .int x), (2, .int z)]) hst (by decide) rfl (Nat.le_of_ble_eq_true rfl) rfl rfl ?_
  intro G C0 hF
  refine J_iln C0 1 dX4_kind_0 (kk := ?_)
  exact J_callTS C0 hF (tX4_requireKind l hst K hx) (corkW K b nA aA d e F Ga D S T) gX4_kind_X4_requireKind dX4_kind_1 1

set_option maxHeartbeats 4000000 in
set_option maxRecDepth 100000 in
theorem tX4_kind_what (l : Launch) (hst : l.stackTraces = false) (K : KT) (b nA aA : Nat → Nat) (d e : Nat → Nat → Nat) (F Ga : FF) (D S : Nat → FF) (T : FF) {c : Nat} (hc3 : c < 3) {x : Int32} (hx : x < 0 ∨ nI 7 ≤ x) : CtT l K yX4_kind wsX4_kind rmtX4_kind [.ref (b 0), .int (nI c), .int x] (corkW K b nA aA d e F Ga D S T) "java/lang/IllegalArgumentException" := by
  refine CtT_of (cc := cX4_kind) (nL := 3) (rt := some .int) (own := RX4) (lv0 := [(0, .ref (b 0)), (1, .int (nI c)), (2, .int x)]) hst (by decide) rfl (Nat.le_of_ble_eq_true rfl) rfl rfl ?_
  intro G C0 hF
  refine J_iln C0 1 dX4_kind_0 (kk := ?_)
  refine J_callSd C0 (mX4_requireKind l K (k := c) (by omega)) [mainW K b (nA 0) (aA 0) (fun i => some (d i 0)) (fun i => some (e i 0)) T, celW K nA F, celW K aA Ga, celW K (d 0) (D 0), celW K (d 1) (D 1), celW K (e 0) (S 0), celW K (e 1) (S 1), celW K (e 2) (S 2), celW K (e 3) (S 3), celW K (e 4) (S 4), celW K (e 5) (S 5)] (corkW K b nA aA d e F Ga D S T) gX4_kind_X4_requireKind dX4_kind_1 1 (kk := ?_)
  show J G _ _ _ _ _ []
  refine J_iln C0 2 dX4_kind_4 (kk := ?_)
  refine J_bi C0 7 dX4_kind_5 (kk := ?_)
  exact J_callTS C0 hF (tX4_requireWhat l hst K hx) (corkW K b nA aA d e F Ga D S T) gX4_kind_X4_requireWhat dX4_kind_7 2

abbrev rmtX4_houseOf : Room := { frames := 7, cells := 1, slots := 6, locals := 112 }
set_option maxHeartbeats 4000000 in
set_option maxRecDepth 100000 in
theorem tX4_houseOf_pl (l : Launch) (hst : l.stackTraces = false) (K : KT) (b nA aA : Nat → Nat) (d e : Nat → Nat → Nat) (F Ga : FF) (D S : Nat → FF) (T : FF) {x y : Int32} (hp : ¬ isPl F x y) (z : Int32) : CtT l K yX4_houseOf wsX4_houseOf rmtX4_houseOf [.ref (b 0), .int x, .int y, .int z] (corkW K b nA aA d e F Ga D S T) "java/lang/IndexOutOfBoundsException" := by
  refine CtT_of (cc := cX4_houseOf) (nL := 4) (rt := some .int) (own := RX4) (lv0 := [(0, .ref (b 0)), (1, .int x), (2, .int y), (3, .int z)]) hst (by decide) rfl (Nat.le_of_ble_eq_true rfl) rfl rfl ?_
  intro G C0 hF
  refine J_aln C0 0 dX4_houseOf_0 (kk := ?_)
  refine J_iln C0 1 dX4_houseOf_1 (kk := ?_)
  refine J_iln C0 2 dX4_houseOf_2 (kk := ?_)
  exact J_callTV C0 hF (tX4_requirePlace l hst K b nA aA d e F Ga D S T (x := x) (y := y) hp) [] gX4_houseOf_X4_requirePlace dX4_houseOf_3 2 0

set_option maxHeartbeats 4000000 in
set_option maxRecDepth 100000 in
theorem tX4_houseOf_what (l : Launch) (hst : l.stackTraces = false) (K : KT) (b nA aA : Nat → Nat) (d e : Nat → Nat → Nat) (F Ga : FF) (D S : Nat → FF) (T : FF) {h c : Nat} (hh : h < 4) (hc3 : c < 3) (hp : isPl F (nI h) (nI c)) {x : Int32} (hx : x < 0 ∨ nI 10 ≤ x) : CtT l K yX4_houseOf wsX4_houseOf rmtX4_houseOf [.ref (b 0), .int (nI h), .int (nI c), .int x] (corkW K b nA aA d e F Ga D S T) "java/lang/IllegalArgumentException" := by
  refine CtT_of (cc := cX4_houseOf) (nL := 4) (rt := some .int) (own := RX4) (lv0 := [(0, .ref (b 0)), (1, .int (nI h)), (2, .int (nI c)), (3, .int x)]) hst (by decide) rfl (Nat.le_of_ble_eq_true rfl) rfl rfl ?_
  intro G C0 hF
  refine J_aln C0 0 dX4_houseOf_0 (kk := ?_)
  refine J_iln C0 1 dX4_houseOf_1 (kk := ?_)
  refine J_iln C0 2 dX4_houseOf_2 (kk := ?_)
  refine J_callVd C0 (mX4_requirePlace l K b nA aA d e F Ga D S T (x := nI h) (y := nI c) hp) [] (corkW K b nA aA d e F Ga D S T) gX4_houseOf_X4_requirePlace dX4_houseOf_3 2 0 (kk := ?_)
  show J G _ _ _ _ _ []
  refine J_iln C0 3 dX4_houseOf_6 (kk := ?_)
  refine J_bi C0 10 dX4_houseOf_7 (kk := ?_)
  exact J_callTS C0 hF (tX4_requireWhat l hst K hx) (corkW K b nA aA d e F Ga D S T) gX4_houseOf_X4_requireWhat dX4_houseOf_9 2

abbrev rmtX4_letter : Room := { frames := 7, cells := 1, slots := 6, locals := 111 }
set_option maxHeartbeats 4000000 in
set_option maxRecDepth 100000 in
theorem tX4_letter_rank (l : Launch) (hst : l.stackTraces = false) (K : KT) (b nA aA : Nat → Nat) (d e : Nat → Nat → Nat) (F Ga : FF) (D S : Nat → FF) (T : FF) {x : Int32} (hx : ¬ 0 ≤ x) (z : Int32) : CtT l K yX4_letter wsX4_letter rmtX4_letter [.ref (b 0), .int x, .int z] (corkW K b nA aA d e F Ga D S T) "java/lang/IllegalArgumentException" := by
  refine CtT_of (cc := cX4_letter) (nL := 3) (rt := some .int) (own := RX4) (lv0 := [(0, .ref (b 0)), (1, .int x), (2, .int z)]) hst (by decide) rfl (Nat.le_of_ble_eq_true rfl) rfl rfl ?_
  intro G C0 hF
  have ek56 : Cond.classLink RX4 56 "java/lang/IllegalArgumentException" ∈ wsX4_letter := by decide +kernel
  have ei56 : Cond.initialized "java/lang/IllegalArgumentException" ∈ wsX4_letter := by decide +kernel
  have eg56 : ∀ w ∈ (vx_at0 RX4 58 "java/lang/IllegalArgumentException" ["java/lang/RuntimeException", "java/lang/Exception"]).filter goodWord, w ∈ wsX4_letter := fun w hw => by simp only [wsX4_letter, List.mem_cons, List.mem_append, hw, or_true, true_or]
  refine J_iln C0 1 dX4_letter_0 (kk := ?_)
  refine J_ifge C0 12 dX4_letter_1 (kt := fun c1 => ?_) (kf := fun c1 => ?_)
  · exact absurd c1 hx
  · exact J_throw0 C0 hF ["java/lang/RuntimeException", "java/lang/Exception"] ek56 ei56 eg56 (by decide) atB_X4_56 atA_X4_56 dX4_letter_4 dX4_letter_7 dX4_letter_8 dX4_letter_11

set_option maxHeartbeats 4000000 in
set_option maxRecDepth 100000 in
theorem tX4_letter_what (l : Launch) (hst : l.stackTraces = false) (K : KT) (b nA aA : Nat → Nat) (d e : Nat → Nat → Nat) (F Ga : FF) (D S : Nat → FF) (T : FF) {r : Nat} (hr : r < 2 ^ 31) {x : Int32} (hx : x < 0 ∨ nI 5 ≤ x) : CtT l K yX4_letter wsX4_letter rmtX4_letter [.ref (b 0), .int (nI r), .int x] (corkW K b nA aA d e F Ga D S T) "java/lang/IllegalArgumentException" := by
  refine CtT_of (cc := cX4_letter) (nL := 3) (rt := some .int) (own := RX4) (lv0 := [(0, .ref (b 0)), (1, .int (nI r)), (2, .int x)]) hst (by decide) rfl (Nat.le_of_ble_eq_true rfl) rfl rfl ?_
  intro G C0 hF
  refine J_iln C0 1 dX4_letter_0 (kk := ?_)
  refine J_ifgeN C0 12 (by omega) dX4_letter_1 (kk := ?_)
  refine J_iln C0 2 dX4_letter_12 (kk := ?_)
  refine J_ic C0 5 dX4_letter_13 (kk := ?_)
  exact J_callTS C0 hF (tX4_requireWhat l hst K hx) (corkW K b nA aA d e F Ga D S T) gX4_letter_X4_requireWhat dX4_letter_14 2

abbrev rmtX4_count : Room := { frames := 7, cells := 1, slots := 6, locals := 111 }
set_option maxHeartbeats 4000000 in
set_option maxRecDepth 100000 in
theorem tX4_count (l : Launch) (hst : l.stackTraces = false) (K : KT) (b nA aA : Nat → Nat) (d e : Nat → Nat → Nat) (F Ga : FF) (D S : Nat → FF) (T : FF) {x : Int32} (hx : x < 0 ∨ nI 12 ≤ x) : CtT l K yX4_count wsX4_count rmtX4_count [.ref (b 0), .int x] (corkW K b nA aA d e F Ga D S T) "java/lang/IllegalArgumentException" := by
  refine CtT_of (cc := cX4_count) (nL := 2) (rt := some .int) (own := RX4) (lv0 := [(0, .ref (b 0)), (1, .int x)]) hst (by decide) rfl (Nat.le_of_ble_eq_true rfl) rfl rfl ?_
  intro G C0 hF
  refine J_iln C0 1 dX4_count_0 (kk := ?_)
  refine J_bi C0 12 dX4_count_1 (kk := ?_)
  exact J_callTS C0 hF (tX4_requireWhat l hst K hx) (corkW K b nA aA d e F Ga D S T) gX4_count_X4_requireWhat dX4_count_3 2

abbrev rmtX4_setting : Room := { frames := 7, cells := 1, slots := 6, locals := 110 }
set_option maxHeartbeats 4000000 in
set_option maxRecDepth 100000 in
theorem tX4_setting (l : Launch) (hst : l.stackTraces = false) (K : KT) (b nA aA : Nat → Nat) (d e : Nat → Nat → Nat) (F Ga : FF) (D S : Nat → FF) (T : FF) {x : Int32} (hx : x < 0 ∨ nI 3 ≤ x) : CtT l K yX4_setting wsX4_setting rmtX4_setting [.ref (b 0), .int x] (corkW K b nA aA d e F Ga D S T) "java/lang/IndexOutOfBoundsException" := by
  refine CtT_of (cc := cX4_setting) (nL := 2) (rt := some .int) (own := RX4) (lv0 := [(0, .ref (b 0)), (1, .int x)]) hst (by decide) rfl (Nat.le_of_ble_eq_true rfl) rfl rfl ?_
  intro G C0 hF
  refine J_iln C0 1 dX4_setting_0 (kk := ?_)
  exact J_callTS C0 hF (tX4_requireSetting l hst K hx) (corkW K b nA aA d e F Ga D S T) gX4_setting_X4_requireSetting dX4_setting_1 1

abbrev rmtX4_ifPassed : Room := { frames := 7, cells := 1, slots := 6, locals := 111 }
set_option maxHeartbeats 4000000 in
set_option maxRecDepth 100000 in
theorem tX4_ifPassed_ticks (l : Launch) (hst : l.stackTraces = false) (K : KT) (b nA aA : Nat → Nat) (d e : Nat → Nat → Nat) (F Ga : FF) (D S : Nat → FF) (T : FF) {x : Int32} (hx : x < nI 1 ∨ nI 60 < x) (z : Int32) : CtT l K yX4_ifPassed wsX4_ifPassed rmtX4_ifPassed [.ref (b 0), .int x, .int z] (corkW K b nA aA d e F Ga D S T) "java/lang/IllegalArgumentException" := by
  refine CtT_of (cc := cX4_ifPassed) (nL := 3) (rt := some .int) (own := RX4) (lv0 := [(0, .ref (b 0)), (1, .int x), (2, .int z)]) hst (by decide) rfl (Nat.le_of_ble_eq_true rfl) rfl rfl ?_
  intro G C0 hF
  refine J_iln C0 1 dX4_ifPassed_0 (kk := ?_)
  exact J_callTS C0 hF (tX4_requireTicks l hst K hx) (corkW K b nA aA d e F Ga D S T) gX4_ifPassed_X4_requireTicks dX4_ifPassed_1 1

set_option maxHeartbeats 4000000 in
set_option maxRecDepth 100000 in
theorem tX4_ifPassed_what (l : Launch) (hst : l.stackTraces = false) (K : KT) (b nA aA : Nat → Nat) (d e : Nat → Nat → Nat) (F Ga : FF) (D S : Nat → FF) (T : FF) {t : Nat} (ht1 : 1 ≤ t) (ht : t ≤ 60) {x : Int32} (hx : x < 0 ∨ nI 4 ≤ x) : CtT l K yX4_ifPassed wsX4_ifPassed rmtX4_ifPassed [.ref (b 0), .int (nI t), .int x] (corkW K b nA aA d e F Ga D S T) "java/lang/IllegalArgumentException" := by
  refine CtT_of (cc := cX4_ifPassed) (nL := 3) (rt := some .int) (own := RX4) (lv0 := [(0, .ref (b 0)), (1, .int (nI t)), (2, .int x)]) hst (by decide) rfl (Nat.le_of_ble_eq_true rfl) rfl rfl ?_
  intro G C0 hF
  refine J_iln C0 1 dX4_ifPassed_0 (kk := ?_)
  refine J_callSd C0 (mX4_requireTicks l K (k := t) (by omega) (by omega)) [mainW K b (nA 0) (aA 0) (fun i => some (d i 0)) (fun i => some (e i 0)) T, celW K nA F, celW K aA Ga, celW K (d 0) (D 0), celW K (d 1) (D 1), celW K (e 0) (S 0), celW K (e 1) (S 1), celW K (e 2) (S 2), celW K (e 3) (S 3), celW K (e 4) (S 4), celW K (e 5) (S 5)] (corkW K b nA aA d e F Ga D S T) gX4_ifPassed_X4_requireTicks dX4_ifPassed_1 1 (kk := ?_)
  show J G _ _ _ _ _ []
  refine J_iln C0 2 dX4_ifPassed_4 (kk := ?_)
  refine J_ic C0 4 dX4_ifPassed_5 (kk := ?_)
  exact J_callTS C0 hF (tX4_requireWhat l hst K hx) (corkW K b nA aA d e F Ga D S T) gX4_ifPassed_X4_requireWhat dX4_ifPassed_6 2

abbrev rmtX4_set : Room := { frames := 7, cells := 1, slots := 6, locals := 110 }
set_option maxHeartbeats 4000000 in
set_option maxRecDepth 100000 in
theorem tX4_set_setting (l : Launch) (hst : l.stackTraces = false) (K : KT) (b nA aA : Nat → Nat) (d e : Nat → Nat → Nat) (F Ga : FF) (D S : Nat → FF) (T : FF) {x : Int32} (hx : x < 0 ∨ nI 3 ≤ x) (z : Int32) : CtT l K yX4_set wsX4_set rmtX4_set [.ref (b 0), .int x, .int z] (corkW K b nA aA d e F Ga D S T) "java/lang/IndexOutOfBoundsException" := by
  refine CtT_of (cc := cX4_set) (nL := 4) (rt := some .int) (own := RX4) (lv0 := [(0, .ref (b 0)), (1, .int x), (2, .int z)]) hst (by decide) rfl (Nat.le_of_ble_eq_true rfl) rfl rfl ?_
  intro G C0 hF
  refine J_iln C0 1 dX4_set_0 (kk := ?_)
  exact J_callTS C0 hF (tX4_requireSetting l hst K hx) (corkW K b nA aA d e F Ga D S T) gX4_set_X4_requireSetting dX4_set_1 1

