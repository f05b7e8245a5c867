set_option maxHeartbeats 4000000 in
set_option maxRecDepth 100000 in
theorem mX4_doOrder_l_ok (l : Launch) (K : KT) (b nA aA : Nat → Nat) (d e : Nat → Nat → Nat) (F Ga : FF) (D S : Nat → FF) (T : FF) {n : Nat} (hn : T 0 1 = nI n) (h60 : n ≤ 60) {i : Nat} (hi : i < 900) (hn116 : ¬ signS T n i = nI 116) (hn100 : ¬ signS T n i = nI 100) (ho : signS T n i = nI 108) (hp : isPl F (digS T n (i + 1)) (digS T n (i + 2))) {h c : Nat} (hh : h < 4) (hc3 : c < 3) (ha : (digS T n (i + 1)) = nI h) (hb : (digS T n (i + 2)) = nI c) {m : Nat} (hm : F 0 4 = nI m) (m40 : m ≤ 40) (hc : canLendS F c) : Ct l K yX4_doOrder wsX4_doOrder rmX4_doOrder [.ref (b 0), .int (nI i)] (corkW K b nA aA d e F Ga D S T) (some (.int (nI 1))) (corkW K b nA aA d e (lendS F m (h * 3 + c)) Ga D S T) := by
  refine CtP_of (cc := cX4_doOrder) (nL := 5) (rt := some .boolean) (own := RX4) (lv0 := [(0, .ref (b 0)), (1, .int (nI i))]) (by decide) rfl (Nat.le_of_ble_eq_true rfl) rfl rfl ?_
  intro G C0 hF _
  have f37 : Cond.fieldLink RX4 37 "CorkPermits" "text" "LCorkPermits$DayText;" ∈ wsX4_doOrder := by decide +kernel
  have iX4 : ∀ w ∈ u_ws RX4 TX4 6, w ∈ wsX4_doOrder := by decide +kernel
  refine J_aln C0 0 dX4_doOrder_0 (kk := ?_)
  refine J_get C0 iX4 0 0 5 f37 dX4_doOrder_1 (kk := ?_)
  refine J_iln C0 1 dX4_doOrder_4 (kk := ?_)
  refine J_perm (permI [1, 2, 3, 4, 5, 6, 7, 8, 9, 10, 0] 11 rfl (by decide +kernel) rfl : List.Perm _ ([celW K nA F, celW K aA Ga, celW K (d 0) (D 0), celW K (d 1) (D 1), celW K (e 0) (S 0), celW K (e 1) (S 1), celW K (e 2) (S 2), celW K (e 3) (S 3), celW K (e 4) (S 4), celW K (e 5) (S 5), mainW K b (nA 0) (aA 0) (fun i => some (d i 0)) (fun i => some (e i 0)) T])) ?_
  refine J_callVd C0 (mX1_sign l K b (nA 0) (aA 0) (fun i => some (d i 0)) (fun i => some (e i 0)) T hn h60 (i := i) (by omega)) [celW K nA F, celW K aA Ga, celW K (d 0) (D 0), celW K (d 1) (D 1), celW K (e 0) (S 0), celW K (e 1) (S 1), celW K (e 2) (S 2), celW K (e 3) (S 3), celW K (e 4) (S 4), celW K (e 5) (S 5)] [celW K nA F, celW K aA Ga, celW K (d 0) (D 0), celW K (d 1) (D 1), celW K (e 0) (S 0), celW K (e 1) (S 1), celW K (e 2) (S 2), celW K (e 3) (S 3), celW K (e 4) (S 4), celW K (e 5) (S 5), mainW K b (nA 0) (aA 0) (fun i => some (d i 0)) (fun i => some (e i 0)) T] gX4_doOrder_X1_sign dX4_doOrder_5 1 5 (kk := ?_)
  refine J_perm (permI [10, 0, 1, 2, 3, 4, 5, 6, 7, 8, 9] 11 rfl (by decide +kernel) rfl : List.Perm _ (corkW K b nA aA d e F Ga D S T)) ?_
  show J G _ _ _ _ _ [.int (signS T n i)]
  refine J_isn C0 [(2, .int (signS T n i)), (0, .ref (b 0)), (1, .int (nI i))] dX4_doOrder_8 (kk := ?_)
  refine J_aln C0 1 dX4_doOrder_9 (kk := ?_)
  refine J_get C0 iX4 0 0 5 f37 dX4_doOrder_10 (kk := ?_)
  refine J_iln C0 2 dX4_doOrder_13 (kk := ?_)
  refine J_ic C0 1 dX4_doOrder_14 (kk := ?_)
  refine J_iaddN C0 dX4_doOrder_15 ?_
  refine J_perm (permI [1, 2, 3, 4, 5, 6, 7, 8, 9, 10, 0] 11 rfl (by decide +kernel) rfl : List.Perm _ ([celW K nA F, celW K aA Ga, celW K (d 0) (D 0), celW K (d 1) (D 1), celW K (e 0) (S 0), celW K (e 1) (S 1), celW K (e 2) (S 2), celW K (e 3) (S 3), celW K (e 4) (S 4), celW K (e 5) (S 5), mainW K b (nA 0) (aA 0) (fun i => some (d i 0)) (fun i => some (e i 0)) T])) ?_
  refine J_callVd C0 (mX1_digit l K b (nA 0) (aA 0) (fun i => some (d i 0)) (fun i => some (e i 0)) T hn h60 (i := i + 1) (by omega)) [celW K nA F, celW K aA Ga, celW K (d 0) (D 0), celW K (d 1) (D 1), celW K (e 0) (S 0), celW K (e 1) (S 1), celW K (e 2) (S 2), celW K (e 3) (S 3), celW K (e 4) (S 4), celW K (e 5) (S 5)] [celW K nA F, celW K aA Ga, celW K (d 0) (D 0), celW K (d 1) (D 1), celW K (e 0) (S 0), celW K (e 1) (S 1), celW K (e 2) (S 2), celW K (e 3) (S 3), celW K (e 4) (S 4), celW K (e 5) (S 5), mainW K b (nA 0) (aA 0) (fun i => some (d i 0)) (fun i => some (e i 0)) T] gX4_doOrder_X1_digit dX4_doOrder_16 1 5 (kk := ?_)
  refine J_perm (permI [10, 0, 1, 2, 3, 4, 5, 6, 7, 8, 9] 11 rfl (by decide +kernel) rfl : List.Perm _ (corkW K b nA aA d e F Ga D S T)) ?_
  show J G _ _ _ _ _ [.int (digS T n (i + 1))]
  refine J_isn C0 [(3, .int (digS T n (i + 1))), (2, .int (signS T n i)), (0, .ref (b 0)), (1, .int (nI i))] dX4_doOrder_19 (kk := ?_)
  refine J_iln C0 1 dX4_doOrder_20 (kk := ?_)
  refine J_bi C0 116 dX4_doOrder_21 (kk := ?_)
  refine J_icmpne C0 32 dX4_doOrder_23 (kt := fun c1 => ?_) (kf := fun c1 => ?_)
  · refine J_iln C0 1 dX4_doOrder_32 (kk := ?_)
    refine J_bi C0 100 dX4_doOrder_33 (kk := ?_)
    refine J_icmpne C0 44 dX4_doOrder_35 (kt := fun c2 => ?_) (kf := fun c2 => ?_)
    · refine J_aln C0 2 dX4_doOrder_44 (kk := ?_)
      refine J_get C0 iX4 0 0 5 f37 dX4_doOrder_45 (kk := ?_)
      refine J_iln C0 3 dX4_doOrder_48 (kk := ?_)
      refine J_ic C0 2 dX4_doOrder_49 (kk := ?_)
      refine J_iaddN C0 dX4_doOrder_50 ?_
      refine J_perm (permI [1, 2, 3, 4, 5, 6, 7, 8, 9, 10, 0] 11 rfl (by decide +kernel) rfl : List.Perm _ ([celW K nA F, celW K aA Ga, celW K (d 0) (D 0), celW K (d 1) (D 1), celW K (e 0) (S 0), celW K (e 1) (S 1), celW K (e 2) (S 2), celW K (e 3) (S 3), celW K (e 4) (S 4), celW K (e 5) (S 5), mainW K b (nA 0) (aA 0) (fun i => some (d i 0)) (fun i => some (e i 0)) T])) ?_
      refine J_callVd C0 (mX1_digit l K b (nA 0) (aA 0) (fun i => some (d i 0)) (fun i => some (e i 0)) T hn h60 (i := i + 2) (by omega)) [celW K nA F, celW K aA Ga, celW K (d 0) (D 0), celW K (d 1) (D 1), celW K (e 0) (S 0), celW K (e 1) (S 1), celW K (e 2) (S 2), celW K (e 3) (S 3), celW K (e 4) (S 4), celW K (e 5) (S 5)] [celW K nA F, celW K aA Ga, celW K (d 0) (D 0), celW K (d 1) (D 1), celW K (e 0) (S 0), celW K (e 1) (S 1), celW K (e 2) (S 2), celW K (e 3) (S 3), celW K (e 4) (S 4), celW K (e 5) (S 5), mainW K b (nA 0) (aA 0) (fun i => some (d i 0)) (fun i => some (e i 0)) T] gX4_doOrder_X1_digit dX4_doOrder_51 1 5 (kk := ?_)
      refine J_perm (permI [10, 0, 1, 2, 3, 4, 5, 6, 7, 8, 9] 11 rfl (by decide +kernel) rfl : List.Perm _ (corkW K b nA aA d e F Ga D S T)) ?_
      show J G _ _ _ _ _ [.int (digS T n (i + 2))]
      refine J_is C0 [(4, .int (digS T n (i + 2))), (3, .int (digS T n (i + 1))), (2, .int (signS T n i)), (0, .ref (b 0)), (1, .int (nI i))] dX4_doOrder_54 (kk := ?_)
      refine J_aln C0 3 dX4_doOrder_56 (kk := ?_)
      refine J_iln C0 1 dX4_doOrder_57 (kk := ?_)
      refine J_il C0 0 dX4_doOrder_58 (kk := ?_)
      refine J_callVd C0 (mX4_isPlace l K b nA aA d e F Ga D S T (digS T n (i + 1)) (digS T n (i + 2))) [] (corkW K b nA aA d e F Ga D S T) gX4_doOrder_X4_isPlace dX4_doOrder_60 2 0 (kk := ?_)
      show J G _ _ _ _ _ [.int (if isPl F (digS T n (i + 1)) (digS T n (i + 2)) then nI 1 else nI 0)]
      refine J_ifneB C0 68 dX4_doOrder_63 (kt := fun c3 => ?_) (kf := fun c3 => ?_)
      · refine J_iln C0 2 dX4_doOrder_68 (kk := ?_)
        refine J_lsw C0 104 dX4_doOrder_69 (by rw [ho]; decide) (kk := ?_)
        refine J_aln C0 3 dX4_doOrder_104 (kk := ?_)
        refine J_iln C0 1 dX4_doOrder_105 (kk := ?_)
        refine J_il C0 0 dX4_doOrder_106 (kk := ?_)
        refine J_callSd C0 (placeOfR l K ha hb) [mainW K b (nA 0) (aA 0) (fun i => some (d i 0)) (fun i => some (e i 0)) T, celW K nA F, celW K aA Ga, celW K (d 0) (D 0), celW K (d 1) (D 1), celW K (e 0) (S 0), celW K (e 1) (S 1), celW K (e 2) (S 2), celW K (e 3) (S 3), celW K (e 4) (S 4), celW K (e 5) (S 5)] (corkW K b nA aA d e F Ga D S T) gX4_doOrder_X4_placeOf dX4_doOrder_108 2 (kk := ?_)
        show J G _ _ _ _ _ [.int (nI (h * 3 + c)), .ref (b 0)]
        refine J_il C0 0 dX4_doOrder_111 (kk := ?_)
        refine J_callVd C0 (lendR l K b nA aA d e F Ga D S T (p := h * 3 + c) (by omega) hc3 hm m40 hc hb) [] (corkW K b nA aA d e (lendS F m (h * 3 + c)) Ga D S T) gX4_doOrder_X4_lendInText dX4_doOrder_113 2 0 (kk := ?_)
        show J G _ _ _ _ _ [.int (nI 1)]
        exact J_zret C0 hF dX4_doOrder_116 (by decide) ⟨rfl, rfl⟩
      · exact absurd hp c3
    · exact absurd c2 hn100
  · exact absurd c1 hn116

set_option maxHeartbeats 4000000 in
set_option maxRecDepth 100000 in
theorem mX4_doOrder_l_no (l : Launch) (K : KT) (b nA aA : Nat → Nat) (d e : Nat → Nat → Nat) (F Ga : FF) (D S : Nat → FF) (T : FF) {n : Nat} (hn : T 0 1 = nI n) (h60 : n ≤ 60) {i : Nat} (hi : i < 900) (hn116 : ¬ signS T n i = nI 116) (hn100 : ¬ signS T n i = nI 100) (ho : signS T n i = nI 108) (hp : isPl F (digS T n (i + 1)) (digS T n (i + 2))) {h c : Nat} (hh : h < 4) (hc3 : c < 3) (ha : (digS T n (i + 1)) = nI h) (hb : (digS T n (i + 2)) = nI c) (hc : ¬ canLendS F c) : Ct l K yX4_doOrder wsX4_doOrder rmX4_doOrder [.ref (b 0), .int (nI i)] (corkW K b nA aA d e F Ga D S T) (some (.int (nI 0))) (corkW K b nA aA d e F Ga D S T) := by
  refine CtP_of (cc := cX4_doOrder) (nL := 5) (rt := some .boolean) (own := RX4) (lv0 := [(0, .ref (b 0)), (1, .int (nI i))]) (by decide) rfl (Nat.le_of_ble_eq_true rfl) rfl rfl ?_
  intro G C0 hF _
  have f37 : Cond.fieldLink RX4 37 "CorkPermits" "text" "LCorkPermits$DayText;" ∈ wsX4_doOrder := by decide +kernel
  have iX4 : ∀ w ∈ u_ws RX4 TX4 6, w ∈ wsX4_doOrder := by decide +kernel
  refine J_aln C0 0 dX4_doOrder_0 (kk := ?_)
  refine J_get C0 iX4 0 0 5 f37 dX4_doOrder_1 (kk := ?_)
  refine J_iln C0 1 dX4_doOrder_4 (kk := ?_)
  refine J_perm (permI [1, 2, 3, 4, 5, 6, 7, 8, 9, 10, 0] 11 rfl (by decide +kernel) rfl : List.Perm _ ([celW K nA F, celW K aA Ga, celW K (d 0) (D 0), celW K (d 1) (D 1), celW K (e 0) (S 0), celW K (e 1) (S 1), celW K (e 2) (S 2), celW K (e 3) (S 3), celW K (e 4) (S 4), celW K (e 5) (S 5), mainW K b (nA 0) (aA 0) (fun i => some (d i 0)) (fun i => some (e i 0)) T])) ?_
  refine J_callVd C0 (mX1_sign l K b (nA 0) (aA 0) (fun i => some (d i 0)) (fun i => some (e i 0)) T hn h60 (i := i) (by omega)) [celW K nA F, celW K aA Ga, celW K (d 0) (D 0), celW K (d 1) (D 1), celW K (e 0) (S 0), celW K (e 1) (S 1), celW K (e 2) (S 2), celW K (e 3) (S 3), celW K (e 4) (S 4), celW K (e 5) (S 5)] [celW K nA F, celW K aA Ga, celW K (d 0) (D 0), celW K (d 1) (D 1), celW K (e 0) (S 0), celW K (e 1) (S 1), celW K (e 2) (S 2), celW K (e 3) (S 3), celW K (e 4) (S 4), celW K (e 5) (S 5), mainW K b (nA 0) (aA 0) (fun i => some (d i 0)) (fun i => some (e i 0)) T] gX4_doOrder_X1_sign dX4_doOrder_5 1 5 (kk := ?_)
  refine J_perm (permI [10, 0, 1, 2, 3, 4, 5, 6, 7, 8, 9] 11 rfl (by decide +kernel) rfl : List.Perm _ (corkW K b nA aA d e F Ga D S T)) ?_
  show J G _ _ _ _ _ [.int (signS T n i)]
  refine J_isn C0 [(2, .int (signS T n i)), (0, .ref (b 0)), (1, .int (nI i))] dX4_doOrder_8 (kk := ?_)
  refine J_aln C0 1 dX4_doOrder_9 (kk := ?_)
  refine J_get C0 iX4 0 0 5 f37 dX4_doOrder_10 (kk := ?_)
  refine J_iln C0 2 dX4_doOrder_13 (kk := ?_)
  refine J_ic C0 1 dX4_doOrder_14 (kk := ?_)
  refine J_iaddN C0 dX4_doOrder_15 ?_
  refine J_perm (permI [1, 2, 3, 4, 5, 6, 7, 8, 9, 10, 0] 11 rfl (by decide +kernel) rfl : List.Perm _ ([celW K nA F, celW K aA Ga, celW K (d 0) (D 0), celW K (d 1) (D 1), celW K (e 0) (S 0), celW K (e 1) (S 1), celW K (e 2) (S 2), celW K (e 3) (S 3), celW K (e 4) (S 4), celW K (e 5) (S 5), mainW K b (nA 0) (aA 0) (fun i => some (d i 0)) (fun i => some (e i 0)) T])) ?_
  refine J_callVd C0 (mX1_digit l K b (nA 0) (aA 0) (fun i => some (d i 0)) (fun i => some (e i 0)) T hn h60 (i := i + 1) (by omega)) [celW K nA F, celW K aA Ga, celW K (d 0) (D 0), celW K (d 1) (D 1), celW K (e 0) (S 0), celW K (e 1) (S 1), celW K (e 2) (S 2), celW K (e 3) (S 3), celW K (e 4) (S 4), celW K (e 5) (S 5)] [celW K nA F, celW K aA Ga, celW K (d 0) (D 0), celW K (d 1) (D 1), celW K (e 0) (S 0), celW K (e 1) (S 1), celW K (e 2) (S 2), celW K (e 3) (S 3), celW K (e 4) (S 4), celW K (e 5) (S 5), mainW K b (nA 0) (aA 0) (fun i => some (d i 0)) (fun i => some (e i 0)) T] gX4_doOrder_X1_digit dX4_doOrder_16 1 5 (kk := ?_)
  refine J_perm (permI [10, 0, 1, 2, 3, 4, 5, 6, 7, 8, 9] 11 rfl (by decide +kernel) rfl : List.Perm _ (corkW K b nA aA d e F Ga D S T)) ?_
  show J G _ _ _ _ _ [.int (digS T n (i + 1))]
  refine J_isn C0 [(3, .int (digS T n (i + 1))), (2, .int (signS T n i)), (0, .ref (b 0)), (1, .int (nI i))] dX4_doOrder_19 (kk := ?_)
  refine J_iln C0 1 dX4_doOrder_20 (kk := ?_)
  refine J_bi C0 116 dX4_doOrder_21 (kk := ?_)
  refine J_icmpne C0 32 dX4_doOrder_23 (kt := fun c1 => ?_) (kf := fun c1 => ?_)
  · refine J_iln C0 1 dX4_doOrder_32 (kk := ?_)
    refine J_bi C0 100 dX4_doOrder_33 (kk := ?_)
    refine J_icmpne C0 44 dX4_doOrder_35 (kt := fun c2 => ?_) (kf := fun c2 => ?_)
    · refine J_aln C0 2 dX4_doOrder_44 (kk := ?_)
      refine J_get C0 iX4 0 0 5 f37 dX4_doOrder_45 (kk := ?_)
      refine J_iln C0 3 dX4_doOrder_48 (kk := ?_)
      refine J_ic C0 2 dX4_doOrder_49 (kk := ?_)
      refine J_iaddN C0 dX4_doOrder_50 ?_
      refine J_perm (permI [1, 2, 3, 4, 5, 6, 7, 8, 9, 10, 0] 11 rfl (by decide +kernel) rfl : List.Perm _ ([celW K nA F, celW K aA Ga, celW K (d 0) (D 0), celW K (d 1) (D 1), celW K (e 0) (S 0), celW K (e 1) (S 1), celW K (e 2) (S 2), celW K (e 3) (S 3), celW K (e 4) (S 4), celW K (e 5) (S 5), mainW K b (nA 0) (aA 0) (fun i => some (d i 0)) (fun i => some (e i 0)) T])) ?_
      refine J_callVd C0 (mX1_digit l K b (nA 0) (aA 0) (fun i => some (d i 0)) (fun i => some (e i 0)) T hn h60 (i := i + 2) (by omega)) [celW K nA F, celW K aA Ga, celW K (d 0) (D 0), celW K (d 1) (D 1), celW K (e 0) (S 0), celW K (e 1) (S 1), celW K (e 2) (S 2), celW K (e 3) (S 3), celW K (e 4) (S 4), celW K (e 5) (S 5)] [celW K nA F, celW K aA Ga, celW K (d 0) (D 0), celW K (d 1) (D 1), celW K (e 0) (S 0), celW K (e 1) (S 1), celW K (e 2) (S 2), celW K (e 3) (S 3), celW K (e 4) (S 4), celW K (e 5) (S 5), mainW K b (nA 0) (aA 0) (fun i => some (d i 0)) (fun i => some (e i 0)) T] gX4_doOrder_X1_digit dX4_doOrder_51 1 5 (kk := ?_)
      refine J_perm (permI [10, 0, 1, 2, 3, 4, 5, 6, 7, 8, 9] 11 rfl (by decide +kernel) rfl : List.Perm _ (corkW K b nA aA d e F Ga D S T)) ?_
      show J G _ _ _ _ _ [.int (digS T n (i + 2))]
      refine J_is C0 [(4, .int (digS T n (i + 2))), (3, .int (digS T n (i + 1))), (2, .int (signS T n i)), (0, .ref (b 0)), (1, .int (nI i))] dX4_doOrder_54 (kk := ?_)
      refine J_aln C0 3 dX4_doOrder_56 (kk := ?_)
      refine J_iln C0 1 dX4_doOrder_57 (kk := ?_)
      refine J_il C0 0 dX4_doOrder_58 (kk := ?_)
      refine J_callVd C0 (mX4_isPlace l K b nA aA d e F Ga D S T (digS T n (i + 1)) (digS T n (i + 2))) [] (corkW K b nA aA d e F Ga D S T) gX4_doOrder_X4_isPlace dX4_doOrder_60 2 0 (kk := ?_)
      show J G _ _ _ _ _ [.int (if isPl F (digS T n (i + 1)) (digS T n (i + 2)) then nI 1 else nI 0)]
      refine J_ifneB C0 68 dX4_doOrder_63 (kt := fun c3 => ?_) (kf := fun c3 => ?_)
      · refine J_iln C0 2 dX4_doOrder_68 (kk := ?_)
        refine J_lsw C0 104 dX4_doOrder_69 (by rw [ho]; decide) (kk := ?_)
        refine J_aln C0 3 dX4_doOrder_104 (kk := ?_)
        refine J_iln C0 1 dX4_doOrder_105 (kk := ?_)
        refine J_il C0 0 dX4_doOrder_106 (kk := ?_)
        refine J_callSd C0 (placeOfR l K ha hb) [mainW K b (nA 0) (aA 0) (fun i => some (d i 0)) (fun i => some (e i 0)) T, celW K nA F, celW K aA Ga, celW K (d 0) (D 0), celW K (d 1) (D 1), celW K (e 0) (S 0), celW K (e 1) (S 1), celW K (e 2) (S 2), celW K (e 3) (S 3), celW K (e 4) (S 4), celW K (e 5) (S 5)] (corkW K b nA aA d e F Ga D S T) gX4_doOrder_X4_placeOf dX4_doOrder_108 2 (kk := ?_)
        show J G _ _ _ _ _ [.int (nI (h * 3 + c)), .ref (b 0)]
        refine J_il C0 0 dX4_doOrder_111 (kk := ?_)
        refine J_callVd C0 (lendR0 l K b nA aA d e F Ga D S T (p := h * 3 + c) (by omega) hc3 hc hb) [] (corkW K b nA aA d e F Ga D S T) gX4_doOrder_X4_lendInText dX4_doOrder_113 2 0 (kk := ?_)
        show J G _ _ _ _ _ [.int (nI 0)]
        exact J_zret C0 hF dX4_doOrder_116 (by decide) ⟨rfl, rfl⟩
      · exact absurd hp c3
    · exact absurd c2 hn100
  · exact absurd c1 hn116

set_option maxHeartbeats 4000000 in
set_option maxRecDepth 100000 in
theorem mX4_doOrder_q_ok (l : Launch) (K : KT) (b nA aA : Nat → Nat) (d e : Nat → Nat → Nat) (F Ga : FF) (D S : Nat → FF) (T : FF) {n : Nat} (hn : T 0 1 = nI n) (h60 : n ≤ 60) {i : Nat} (hi : i < 900) (hn116 : ¬ signS T n i = nI 116) (hn100 : ¬ signS T n i = nI 100) (ho : signS T n i = nI 113) (hp : isPl F (digS T n (i + 1)) (digS T n (i + 2))) {h c : Nat} (hh : h < 4) (hc3 : c < 3) (ha : (digS T n (i + 1)) = nI h) (hb : (digS T n (i + 2)) = nI c) {m : Nat} (hm : F 0 4 = nI m) (m40 : m ≤ 40) (hc : roomS F) : Ct l K yX4_doOrder wsX4_doOrder rmX4_doOrder [.ref (b 0), .int (nI i)] (corkW K b nA aA d e F Ga D S T) (some (.int (nI 1))) (corkW K b nA aA d e (askS F m (h * 3 + c)) Ga D S T) := by
  refine CtP_of (cc := cX4_doOrder) (nL := 5) (rt := some .boolean) (own := RX4) (lv0 := [(0, .ref (b 0)), (1, .int (nI i))]) (by decide) rfl (Nat.le_of_ble_eq_true rfl) rfl rfl ?_
  intro G C0 hF _
  have f37 : Cond.fieldLink RX4 37 "CorkPermits" "text" "LCorkPermits$DayText;" ∈ wsX4_doOrder := by decide +kernel
  have iX4 : ∀ w ∈ u_ws RX4 TX4 6, w ∈ wsX4_doOrder := by decide +kernel
  refine J_aln C0 0 dX4_doOrder_0 (kk := ?_)
  refine J_get C0 iX4 0 0 5 f37 dX4_doOrder_1 (kk := ?_)
  refine J_iln C0 1 dX4_doOrder_4 (kk := ?_)
  refine J_perm (permI [1, 2, 3, 4, 5, 6, 7, 8, 9, 10, 0] 11 rfl (by decide +kernel) rfl : List.Perm _ ([celW K nA F, celW K aA Ga, celW K (d 0) (D 0), celW K (d 1) (D 1), celW K (e 0) (S 0), celW K (e 1) (S 1), celW K (e 2) (S 2), celW K (e 3) (S 3), celW K (e 4) (S 4), celW K (e 5) (S 5), mainW K b (nA 0) (aA 0) (fun i => some (d i 0)) (fun i => some (e i 0)) T])) ?_
  refine J_callVd C0 (mX1_sign l K b (nA 0) (aA 0) (fun i => some (d i 0)) (fun i => some (e i 0)) T hn h60 (i := i) (by omega)) [celW K nA F, celW K aA Ga, celW K (d 0) (D 0), celW K (d 1) (D 1), celW K (e 0) (S 0), celW K (e 1) (S 1), celW K (e 2) (S 2), celW K (e 3) (S 3), celW K (e 4) (S 4), celW K (e 5) (S 5)] [celW K nA F, celW K aA Ga, celW K (d 0) (D 0), celW K (d 1) (D 1), celW K (e 0) (S 0), celW K (e 1) (S 1), celW K (e 2) (S 2), celW K (e 3) (S 3), celW K (e 4) (S 4), celW K (e 5) (S 5), mainW K b (nA 0) (aA 0) (fun i => some (d i 0)) (fun i => some (e i 0)) T] gX4_doOrder_X1_sign dX4_doOrder_5 1 5 (kk := ?_)
  refine J_perm (permI [10, 0, 1, 2, 3, 4, 5, 6, 7, 8, 9] 11 rfl (by decide +kernel) rfl : List.Perm _ (corkW K b nA aA d e F Ga D S T)) ?_
  show J G _ _ _ _ _ [.int (signS T n i)]
  refine J_isn C0 [(2, .int (signS T n i)), (0, .ref (b 0)), (1, .int (nI i))] dX4_doOrder_8 (kk := ?_)
  refine J_aln C0 1 dX4_doOrder_9 (kk := ?_)
  refine J_get C0 iX4 0 0 5 f37 dX4_doOrder_10 (kk := ?_)
  refine J_iln C0 2 dX4_doOrder_13 (kk := ?_)
  refine J_ic C0 1 dX4_doOrder_14 (kk := ?_)
  refine J_iaddN C0 dX4_doOrder_15 ?_
  refine J_perm (permI [1, 2, 3, 4, 5, 6, 7, 8, 9, 10, 0] 11 rfl (by decide +kernel) rfl : List.Perm _ ([celW K nA F, celW K aA Ga, celW K (d 0) (D 0), celW K (d 1) (D 1), celW K (e 0) (S 0), celW K (e 1) (S 1), celW K (e 2) (S 2), celW K (e 3) (S 3), celW K (e 4) (S 4), celW K (e 5) (S 5), mainW K b (nA 0) (aA 0) (fun i => some (d i 0)) (fun i => some (e i 0)) T])) ?_
  refine J_callVd C0 (mX1_digit l K b (nA 0) (aA 0) (fun i => some (d i 0)) (fun i => some (e i 0)) T hn h60 (i := i + 1) (by omega)) [celW K nA F, celW K aA Ga, celW K (d 0) (D 0), celW K (d 1) (D 1), celW K (e 0) (S 0), celW K (e 1) (S 1), celW K (e 2) (S 2), celW K (e 3) (S 3), celW K (e 4) (S 4), celW K (e 5) (S 5)] [celW K nA F, celW K aA Ga, celW K (d 0) (D 0), celW K (d 1) (D 1), celW K (e 0) (S 0), celW K (e 1) (S 1), celW K (e 2) (S 2), celW K (e 3) (S 3), celW K (e 4) (S 4), celW K (e 5) (S 5), mainW K b (nA 0) (aA 0) (fun i => some (d i 0)) (fun i => some (e i 0)) T] gX4_doOrder_X1_digit dX4_doOrder_16 1 5 (kk := ?_)
  refine J_perm (permI [10, 0, 1, 2, 3, 4, 5, 6, 7, 8, 9] 11 rfl (by decide +kernel) rfl : List.Perm _ (corkW K b nA aA d e F Ga D S T)) ?_
  show J G _ _ _ _ _ [.int (digS T n (i + 1))]
  refine J_isn C0 [(3, .int (digS T n (i + 1))), (2, .int (signS T n i)), (0, .ref (b 0)), (1, .int (nI i))] dX4_doOrder_19 (kk := ?_)
  refine J_iln C0 1 dX4_doOrder_20 (kk := ?_)
  refine J_bi C0 116 dX4_doOrder_21 (kk := ?_)
  refine J_icmpne C0 32 dX4_doOrder_23 (kt := fun c1 => ?_) (kf := fun c1 => ?_)
  · refine J_iln C0 1 dX4_doOrder_32 (kk := ?_)
    refine J_bi C0 100 dX4_doOrder_33 (kk := ?_)
    refine J_icmpne C0 44 dX4_doOrder_35 (kt := fun c2 => ?_) (kf := fun c2 => ?_)
    · refine J_aln C0 2 dX4_doOrder_44 (kk := ?_)
      refine J_get C0 iX4 0 0 5 f37 dX4_doOrder_45 (kk := ?_)
      refine J_iln C0 3 dX4_doOrder_48 (kk := ?_)
      refine J_ic C0 2 dX4_doOrder_49 (kk := ?_)
      refine J_iaddN C0 dX4_doOrder_50 ?_
      refine J_perm (permI [1, 2, 3, 4, 5, 6, 7, 8, 9, 10, 0] 11 rfl (by decide +kernel) rfl : List.Perm _ ([celW K nA F, celW K aA Ga, celW K (d 0) (D 0), celW K (d 1) (D 1), celW K (e 0) (S 0), celW K (e 1) (S 1), celW K (e 2) (S 2), celW K (e 3) (S 3), celW K (e 4) (S 4), celW K (e 5) (S 5), mainW K b (nA 0) (aA 0) (fun i => some (d i 0)) (fun i => some (e i 0)) T])) ?_
      refine J_callVd C0 (mX1_digit l K b (nA 0) (aA 0) (fun i => some (d i 0)) (fun i => some (e i 0)) T hn h60 (i := i + 2) (by omega)) [celW K nA F, celW K aA Ga, celW K (d 0) (D 0), celW K (d 1) (D 1), celW K (e 0) (S 0), celW K (e 1) (S 1), celW K (e 2) (S 2), celW K (e 3) (S 3), celW K (e 4) (S 4), celW K (e 5) (S 5)] [celW K nA F, celW K aA Ga, celW K (d 0) (D 0), celW K (d 1) (D 1), celW K (e 0) (S 0), celW K (e 1) (S 1), celW K (e 2) (S 2), celW K (e 3) (S 3), celW K (e 4) (S 4), celW K (e 5) (S 5), mainW K b (nA 0) (aA 0) (fun i => some (d i 0)) (fun i => some (e i 0)) T] gX4_doOrder_X1_digit dX4_doOrder_51 1 5 (kk := ?_)
      refine J_perm (permI [10, 0, 1, 2, 3, 4, 5, 6, 7, 8, 9] 11 rfl (by decide +kernel) rfl : List.Perm _ (corkW K b nA aA d e F Ga D S T)) ?_
      show J G _ _ _ _ _ [.int (digS T n (i + 2))]
      refine J_is C0 [(4, .int (digS T n (i + 2))), (3, .int (digS T n (i + 1))), (2, .int (signS T n i)), (0, .ref (b 0)), (1, .int (nI i))] dX4_doOrder_54 (kk := ?_)
      refine J_aln C0 3 dX4_doOrder_56 (kk := ?_)
      refine J_iln C0 1 dX4_doOrder_57 (kk := ?_)
      refine J_il C0 0 dX4_doOrder_58 (kk := ?_)
      refine J_callVd C0 (mX4_isPlace l K b nA aA d e F Ga D S T (digS T n (i + 1)) (digS T n (i + 2))) [] (corkW K b nA aA d e F Ga D S T) gX4_doOrder_X4_isPlace dX4_doOrder_60 2 0 (kk := ?_)
      show J G _ _ _ _ _ [.int (if isPl F (digS T n (i + 1)) (digS T n (i + 2)) then nI 1 else nI 0)]
      refine J_ifneB C0 68 dX4_doOrder_63 (kt := fun c3 => ?_) (kf := fun c3 => ?_)
      · refine J_iln C0 2 dX4_doOrder_68 (kk := ?_)
        refine J_lsw C0 117 dX4_doOrder_69 (by rw [ho]; decide) (kk := ?_)
        refine J_aln C0 3 dX4_doOrder_117 (kk := ?_)
        refine J_iln C0 1 dX4_doOrder_118 (kk := ?_)
        refine J_il C0 0 dX4_doOrder_119 (kk := ?_)
        refine J_callSd C0 (placeOfR l K ha hb) [mainW K b (nA 0) (aA 0) (fun i => some (d i 0)) (fun i => some (e i 0)) T, celW K nA F, celW K aA Ga, celW K (d 0) (D 0), celW K (d 1) (D 1), celW K (e 0) (S 0), celW K (e 1) (S 1), celW K (e 2) (S 2), celW K (e 3) (S 3), celW K (e 4) (S 4), celW K (e 5) (S 5)] (corkW K b nA aA d e F Ga D S T) gX4_doOrder_X4_placeOf dX4_doOrder_121 2 (kk := ?_)
        show J G _ _ _ _ _ [.int (nI (h * 3 + c)), .ref (b 0)]
        refine J_callVd C0 (mX4_askInText_ok l K b nA aA d e F Ga D S T (p := h * 3 + c) (by omega) hm m40 hc) [] (corkW K b nA aA d e (askS F m (h * 3 + c)) Ga D S T) gX4_doOrder_X4_askInText dX4_doOrder_124 1 0 (kk := ?_)
        show J G _ _ _ _ _ [.int (nI 1)]
        exact J_zret C0 hF dX4_doOrder_127 (by decide) ⟨rfl, rfl⟩
      · exact absurd hp c3
    · exact absurd c2 hn100
  · exact absurd c1 hn116

set_option maxHeartbeats 4000000 in
set_option maxRecDepth 100000 in
theorem mX4_doOrder_q_no (l : Launch) (K : KT) (b nA aA : Nat → Nat) (d e : Nat → Nat → Nat) (F Ga : FF) (D S : Nat → FF) (T : FF) {n : Nat} (hn : T 0 1 = nI n) (h60 : n ≤ 60) {i : Nat} (hi : i < 900) (hn116 : ¬ signS T n i = nI 116) (hn100 : ¬ signS T n i = nI 100) (ho : signS T n i = nI 113) (hp : isPl F (digS T n (i + 1)) (digS T n (i + 2))) {h c : Nat} (hh : h < 4) (hc3 : c < 3) (ha : (digS T n (i + 1)) = nI h) (hb : (digS T n (i + 2)) = nI c) (hc : ¬ roomS F) : Ct l K yX4_doOrder wsX4_doOrder rmX4_doOrder [.ref (b 0), .int (nI i)] (corkW K b nA aA d e F Ga D S T) (some (.int (nI 0))) (corkW K b nA aA d e F Ga D S T) := by
  refine CtP_of (cc := cX4_doOrder) (nL := 5) (rt := some .boolean) (own := RX4) (lv0 := [(0, .ref (b 0)), (1, .int (nI i))]) (by decide) rfl (Nat.le_of_ble_eq_true rfl) rfl rfl ?_
  intro G C0 hF _
  have f37 : Cond.fieldLink RX4 37 "CorkPermits" "text" "LCorkPermits$DayText;" ∈ wsX4_doOrder := by decide +kernel
  have iX4 : ∀ w ∈ u_ws RX4 TX4 6, w ∈ wsX4_doOrder := by decide +kernel
  refine J_aln C0 0 dX4_doOrder_0 (kk := ?_)
  refine J_get C0 iX4 0 0 5 f37 dX4_doOrder_1 (kk := ?_)
  refine J_iln C0 1 dX4_doOrder_4 (kk := ?_)
  refine J_perm (permI [1, 2, 3, 4, 5, 6, 7, 8, 9, 10, 0] 11 rfl (by decide +kernel) rfl : List.Perm _ ([celW K nA F, celW K aA Ga, celW K (d 0) (D 0), celW K (d 1) (D 1), celW K (e 0) (S 0), celW K (e 1) (S 1), celW K (e 2) (S 2), celW K (e 3) (S 3), celW K (e 4) (S 4), celW K (e 5) (S 5), mainW K b (nA 0) (aA 0) (fun i => some (d i 0)) (fun i => some (e i 0)) T])) ?_
  refine J_callVd C0 (mX1_sign l K b (nA 0) (aA 0) (fun i => some (d i 0)) (fun i => some (e i 0)) T hn h60 (i := i) (by omega)) [celW K nA F, celW K aA Ga, celW K (d 0) (D 0), celW K (d 1) (D 1), celW K (e 0) (S 0), celW K (e 1) (S 1), celW K (e 2) (S 2), celW K (e 3) (S 3), celW K (e 4) (S 4), celW K (e 5) (S 5)] [celW K nA F, celW K aA Ga, celW K (d 0) (D 0), celW K (d 1) (D 1), celW K (e 0) (S 0), celW K (e 1) (S 1), celW K (e 2) (S 2), celW K (e 3) (S 3), celW K (e 4) (S 4), celW K (e 5) (S 5), mainW K b (nA 0) (aA 0) (fun i => some (d i 0)) (fun i => some (e i 0)) T] gX4_doOrder_X1_sign dX4_doOrder_5 1 5 (kk := ?_)
  refine J_perm (permI [10, 0, 1, 2, 3, 4, 5, 6, 7, 8, 9] 11 rfl (by decide +kernel) rfl : List.Perm _ (corkW K b nA aA d e F Ga D S T)) ?_
  show J G _ _ _ _ _ [.int (signS T n i)]
  refine J_isn C0 [(2, .int (signS T n i)), (0, .ref (b 0)), (1, .int (nI i))] dX4_doOrder_8 (kk := ?_)
  refine J_aln C0 1 dX4_doOrder_9 (kk := ?_)
  refine J_get C0 iX4 0 0 5 f37 dX4_doOrder_10 (kk := ?_)
  refine J_iln C0 2 dX4_doOrder_13 (kk := ?_)
  refine J_ic C0 1 dX4_doOrder_14 (kk := ?_)
  refine J_iaddN C0 dX4_doOrder_15 ?_
  refine J_perm (permI [1, 2, 3, 4, 5, 6, 7, 8, 9, 10, 0] 11 rfl (by decide +kernel) rfl : List.Perm _ ([celW K nA F, celW K aA Ga, celW K (d 0) (D 0), celW K (d 1) (D 1), celW K (e 0) (S 0), celW K (e 1) (S 1), celW K (e 2) (S 2), celW K (e 3) (S 3), celW K (e 4) (S 4), celW K (e 5) (S 5), mainW K b (nA 0) (aA 0) (fun i => some (d i 0)) (fun i => some (e i 0)) T])) ?_
  refine J_callVd C0 (mX1_digit l K b (nA 0) (aA 0) (fun i => some (d i 0)) (fun i => some (e i 0)) T hn h60 (i := i + 1) (by omega)) [celW K nA F, celW K aA Ga, celW K (d 0) (D 0), celW K (d 1) (D 1), celW K (e 0) (S 0), celW K (e 1) (S 1), celW K (e 2) (S 2), celW K (e 3) (S 3), celW K (e 4) (S 4), celW K (e 5) (S 5)] [celW K nA F, celW K aA Ga, celW K (d 0) (D 0), celW K (d 1) (D 1), celW K (e 0) (S 0), celW K (e 1) (S 1), celW K (e 2) (S 2), celW K (e 3) (S 3), celW K (e 4) (S 4), celW K (e 5) (S 5), mainW K b (nA 0) (aA 0) (fun i => some (d i 0)) (fun i => some (e i 0)) T] gX4_doOrder_X1_digit dX4_doOrder_16 1 5 (kk := ?_)
  refine J_perm (permI [10, 0, 1, 2, 3, 4, 5, 6, 7, 8, 9] 11 rfl (by decide +kernel) rfl : List.Perm _ (corkW K b nA aA d e F Ga D S T)) ?_
  show J G _ _ _ _ _ [.int (digS T n (i + 1))]
  refine J_isn C0 [(3, .int (digS T n (i + 1))), (2, .int (signS T n i)), (0, .ref (b 0)), (1, .int (nI i))] dX4_doOrder_19 (kk := ?_)
  refine J_iln C0 1 dX4_doOrder_20 (kk := ?_)
  refine J_bi C0 116 dX4_doOrder_21 (kk := ?_)
  refine J_icmpne C0 32 dX4_doOrder_23 (kt := fun c1 => ?_) (kf := fun c1 => ?_)
  · refine J_iln C0 1 dX4_doOrder_32 (kk := ?_)
    refine J_bi C0 100 dX4_doOrder_33 (kk := ?_)
    refine J_icmpne C0 44 dX4_doOrder_35 (kt := fun c2 => ?_) (kf := fun c2 => ?_)
    · refine J_aln C0 2 dX4_doOrder_44 (kk := ?_)
      refine J_get C0 iX4 0 0 5 f37 dX4_doOrder_45 (kk := ?_)
      refine J_iln C0 3 dX4_doOrder_48 (kk := ?_)
      refine J_ic C0 2 dX4_doOrder_49 (kk := ?_)
      refine J_iaddN C0 dX4_doOrder_50 ?_
      refine J_perm (permI [1, 2, 3, 4, 5, 6, 7, 8, 9, 10, 0] 11 rfl (by decide +kernel) rfl : List.Perm _ ([celW K nA F, celW K aA Ga, celW K (d 0) (D 0), celW K (d 1) (D 1), celW K (e 0) (S 0), celW K (e 1) (S 1), celW K (e 2) (S 2), celW K (e 3) (S 3), celW K (e 4) (S 4), celW K (e 5) (S 5), mainW K b (nA 0) (aA 0) (fun i => some (d i 0)) (fun i => some (e i 0)) T])) ?_
      refine J_callVd C0 (mX1_digit l K b (nA 0) (aA 0) (fun i => some (d i 0)) (fun i => some (e i 0)) T hn h60 (i := i + 2) (by omega)) [celW K nA F, celW K aA Ga, celW K (d 0) (D 0), celW K (d 1) (D 1), celW K (e 0) (S 0), celW K (e 1) (S 1), celW K (e 2) (S 2), celW K (e 3) (S 3), celW K (e 4) (S 4), celW K (e 5) (S 5)] [celW K nA F, celW K aA Ga, celW K (d 0) (D 0), celW K (d 1) (D 1), celW K (e 0) (S 0), celW K (e 1) (S 1), celW K (e 2) (S 2), celW K (e 3) (S 3), celW K (e 4) (S 4), celW K (e 5) (S 5), mainW K b (nA 0) (aA 0) (fun i => some (d i 0)) (fun i => some (e i 0)) T] gX4_doOrder_X1_digit dX4_doOrder_51 1 5 (kk := ?_)
      refine J_perm (permI [10, 0, 1, 2, 3, 4, 5, 6, 7, 8, 9] 11 rfl (by decide +kernel) rfl : List.Perm _ (corkW K b nA aA d e F Ga D S T)) ?_
      show J G _ _ _ _ _ [.int (digS T n (i + 2))]
      refine J_is C0 [(4, .int (digS T n (i + 2))), (3, .int (digS T n (i + 1))), (2, .int (signS T n i)), (0, .ref (b 0)), (1, .int (nI i))] dX4_doOrder_54 (kk := ?_)
      refine J_aln C0 3 dX4_doOrder_56 (kk := ?_)
      refine J_iln C0 1 dX4_doOrder_57 (kk := ?_)
      refine J_il C0 0 dX4_doOrder_58 (kk := ?_)
      refine J_callVd C0 (mX4_isPlace l K b nA aA d e F Ga D S T (digS T n (i + 1)) (digS T n (i + 2))) [] (corkW K b nA aA d e F Ga D S T) gX4_doOrder_X4_isPlace dX4_doOrder_60 2 0 (kk := ?_)
      show J G _ _ _ _ _ [.int (if isPl F (digS T n (i + 1)) (digS T n (i + 2)) then nI 1 else nI 0)]
      refine J_ifneB C0 68 dX4_doOrder_63 (kt := fun c3 => ?_) (kf := fun c3 => ?_)
      · refine J_iln C0 2 dX4_doOrder_68 (kk := ?_)
        refine J_lsw C0 117 dX4_doOrder_69 (by rw [ho]; decide) (kk := ?_)
        refine J_aln C0 3 dX4_doOrder_117 (kk := ?_)
        refine J_iln C0 1 dX4_doOrder_118 (kk := ?_)
        refine J_il C0 0 dX4_doOrder_119 (kk := ?_)
        refine J_callSd C0 (placeOfR l K ha hb) [mainW K b (nA 0) (aA 0) (fun i => some (d i 0)) (fun i => some (e i 0)) T, celW K nA F, celW K aA Ga, celW K (d 0) (D 0), celW K (d 1) (D 1), celW K (e 0) (S 0), celW K (e 1) (S 1), celW K (e 2) (S 2), celW K (e 3) (S 3), celW K (e 4) (S 4), celW K (e 5) (S 5)] (corkW K b nA aA d e F Ga D S T) gX4_doOrder_X4_placeOf dX4_doOrder_121 2 (kk := ?_)
        show J G _ _ _ _ _ [.int (nI (h * 3 + c)), .ref (b 0)]
        refine J_callVd C0 (mX4_askInText_no l K b nA aA d e F Ga D S T (p := h * 3 + c) (by omega) hc) [] (corkW K b nA aA d e F Ga D S T) gX4_doOrder_X4_askInText dX4_doOrder_124 1 0 (kk := ?_)
        show J G _ _ _ _ _ [.int (nI 0)]
        exact J_zret C0 hF dX4_doOrder_127 (by decide) ⟨rfl, rfl⟩
      · exact absurd hp c3
    · exact absurd c2 hn100
  · exact absurd c1 hn116

set_option maxHeartbeats 4000000 in
set_option maxRecDepth 100000 in
theorem mX4_doOrder_w_ok (l : Launch) (K : KT) (b nA aA : Nat → Nat) (d e : Nat → Nat → Nat) (F Ga : FF) (D S : Nat → FF) (T : FF) {n : Nat} (hn : T 0 1 = nI n) (h60 : n ≤ 60) {i : Nat} (hi : i < 900) (hn116 : ¬ signS T n i = nI 116) (hn100 : ¬ signS T n i = nI 100) (ho : signS T n i = nI 119) (hp : isPl F (digS T n (i + 1)) (digS T n (i + 2))) {h c : Nat} (hh : h < 4) (hc3 : c < 3) (ha : (digS T n (i + 1)) = nI h) (hb : (digS T n (i + 2)) = nI c) (hc : ¬ nI 9 ≤ F 11 (h * 3 + c)) : Ct l K yX4_doOrder wsX4_doOrder rmX4_doOrder [.ref (b 0), .int (nI i)] (corkW K b nA aA d e F Ga D S T) (some (.int (nI 1))) (corkW K b nA aA d e (u2 F 11 (h * 3 + c) (F 11 (h * 3 + c) + nI 1)) Ga D S T) := by
  refine CtP_of (cc := cX4_doOrder) (nL := 5) (rt := some .boolean) (own := RX4) (lv0 := [(0, .ref (b 0)), (1, .int (nI i))]) (by decide) rfl (Nat.le_of_ble_eq_true rfl) rfl rfl ?_
  intro G C0 hF _
  have f37 : Cond.fieldLink RX4 37 "CorkPermits" "text" "LCorkPermits$DayText;" ∈ wsX4_doOrder := by decide +kernel
  have iX4 : ∀ w ∈ u_ws RX4 TX4 6, w ∈ wsX4_doOrder := by decide +kernel
  refine J_aln C0 0 dX4_doOrder_0 (kk := ?_)
  refine J_get C0 iX4 0 0 5 f37 dX4_doOrder_1 (kk := ?_)
  refine J_iln C0 1 dX4_doOrder_4 (kk := ?_)
  refine J_perm (permI [1, 2, 3, 4, 5, 6, 7, 8, 9, 10, 0] 11 rfl (by decide +kernel) rfl : List.Perm _ ([celW K nA F, celW K aA Ga, celW K (d 0) (D 0), celW K (d 1) (D 1), celW K (e 0) (S 0), celW K (e 1) (S 1), celW K (e 2) (S 2), celW K (e 3) (S 3), celW K (e 4) (S 4), celW K (e 5) (S 5), mainW K b (nA 0) (aA 0) (fun i => some (d i 0)) (fun i => some (e i 0)) T])) ?_
  refine J_callVd C0 (mX1_sign l K b (nA 0) (aA 0) (fun i => some (d i 0)) (fun i => some (e i 0)) T hn h60 (i := i) (by omega)) [celW K nA F, celW K aA Ga, celW K (d 0) (D 0), celW K (d 1) (D 1), celW K (e 0) (S 0), celW K (e 1) (S 1), celW K (e 2) (S 2), celW K (e 3) (S 3), celW K (e 4) (S 4), celW K (e 5) (S 5)] [celW K nA F, celW K aA Ga, celW K (d 0) (D 0), celW K (d 1) (D 1), celW K (e 0) (S 0), celW K (e 1) (S 1), celW K (e 2) (S 2), celW K (e 3) (S 3), celW K (e 4) (S 4), celW K (e 5) (S 5), mainW K b (nA 0) (aA 0) (fun i => some (d i 0)) (fun i => some (e i 0)) T] gX4_doOrder_X1_sign dX4_doOrder_5 1 5 (kk := ?_)
  refine J_perm (permI [10, 0, 1, 2, 3, 4, 5, 6, 7, 8, 9] 11 rfl (by decide +kernel) rfl : List.Perm _ (corkW K b nA aA d e F Ga D S T)) ?_
  show J G _ _ _ _ _ [.int (signS T n i)]
  refine J_isn C0 [(2, .int (signS T n i)), (0, .ref (b 0)), (1, .int (nI i))] dX4_doOrder_8 (kk := ?_)
  refine J_aln C0 1 dX4_doOrder_9 (kk := ?_)
  refine J_get C0 iX4 0 0 5 f37 dX4_doOrder_10 (kk := ?_)
  refine J_iln C0 2 dX4_doOrder_13 (kk := ?_)
  refine J_ic C0 1 dX4_doOrder_14 (kk := ?_)
  refine J_iaddN C0 dX4_doOrder_15 ?_
  refine J_perm (permI [1, 2, 3, 4, 5, 6, 7, 8, 9, 10, 0] 11 rfl (by decide +kernel) rfl : List.Perm _ ([celW K nA F, celW K aA Ga, celW K (d 0) (D 0), celW K (d 1) (D 1), celW K (e 0) (S 0), celW K (e 1) (S 1), celW K (e 2) (S 2), celW K (e 3) (S 3), celW K (e 4) (S 4), celW K (e 5) (S 5), mainW K b (nA 0) (aA 0) (fun i => some (d i 0)) (fun i => some (e i 0)) T])) ?_
  refine J_callVd C0 (mX1_digit l K b (nA 0) (aA 0) (fun i => some (d i 0)) (fun i => some (e i 0)) T hn h60 (i := i + 1) (by omega)) [celW K nA F, celW K aA Ga, celW K (d 0) (D 0), celW K (d 1) (D 1), celW K (e 0) (S 0), celW K (e 1) (S 1), celW K (e 2) (S 2), celW K (e 3) (S 3), celW K (e 4) (S 4), celW K (e 5) (S 5)] [celW K nA F, celW K aA Ga, celW K (d 0) (D 0), celW K (d 1) (D 1), celW K (e 0) (S 0), celW K (e 1) (S 1), celW K (e 2) (S 2), celW K (e 3) (S 3), celW K (e 4) (S 4), celW K (e 5) (S 5), mainW K b (nA 0) (aA 0) (fun i => some (d i 0)) (fun i => some (e i 0)) T] gX4_doOrder_X1_digit dX4_doOrder_16 1 5 (kk := ?_)
  refine J_perm (permI [10, 0, 1, 2, 3, 4, 5, 6, 7, 8, 9] 11 rfl (by decide +kernel) rfl : List.Perm _ (corkW K b nA aA d e F Ga D S T)) ?_
  show J G _ _ _ _ _ [.int (digS T n (i + 1))]
  refine J_isn C0 [(3, .int (digS T n (i + 1))), (2, .int (signS T n i)), (0, .ref (b 0)), (1, .int (nI i))] dX4_doOrder_19 (kk := ?_)
  refine J_iln C0 1 dX4_doOrder_20 (kk := ?_)
  refine J_bi C0 116 dX4_doOrder_21 (kk := ?_)
  refine J_icmpne C0 32 dX4_doOrder_23 (kt := fun c1 => ?_) (kf := fun c1 => ?_)
  · refine J_iln C0 1 dX4_doOrder_32 (kk := ?_)
    refine J_bi C0 100 dX4_doOrder_33 (kk := ?_)
    refine J_icmpne C0 44 dX4_doOrder_35 (kt := fun c2 => ?_) (kf := fun c2 => ?_)
    · refine J_aln C0 2 dX4_doOrder_44 (kk := ?_)
      refine J_get C0 iX4 0 0 5 f37 dX4_doOrder_45 (kk := ?_)
      refine J_iln C0 3 dX4_doOrder_48 (kk := ?_)
      refine J_ic C0 2 dX4_doOrder_49 (kk := ?_)
      refine J_iaddN C0 dX4_doOrder_50 ?_
      refine J_perm (permI [1, 2, 3, 4, 5, 6, 7, 8, 9, 10, 0] 11 rfl (by decide +kernel) rfl : List.Perm _ ([celW K nA F, celW K aA Ga, celW K (d 0) (D 0), celW K (d 1) (D 1), celW K (e 0) (S 0), celW K (e 1) (S 1), celW K (e 2) (S 2), celW K (e 3) (S 3), celW K (e 4) (S 4), celW K (e 5) (S 5), mainW K b (nA 0) (aA 0) (fun i => some (d i 0)) (fun i => some (e i 0)) T])) ?_
      refine J_callVd C0 (mX1_digit l K b (nA 0) (aA 0) (fun i => some (d i 0)) (fun i => some (e i 0)) T hn h60 (i := i + 2) (by omega)) [celW K nA F, celW K aA Ga, celW K (d 0) (D 0), celW K (d 1) (D 1), celW K (e 0) (S 0), celW K (e 1) (S 1), celW K (e 2) (S 2), celW K (e 3) (S 3), celW K (e 4) (S 4), celW K (e 5) (S 5)] [celW K nA F, celW K aA Ga, celW K (d 0) (D 0), celW K (d 1) (D 1), celW K (e 0) (S 0), celW K (e 1) (S 1), celW K (e 2) (S 2), celW K (e 3) (S 3), celW K (e 4) (S 4), celW K (e 5) (S 5), mainW K b (nA 0) (aA 0) (fun i => some (d i 0)) (fun i => some (e i 0)) T] gX4_doOrder_X1_digit dX4_doOrder_51 1 5 (kk := ?_)
      refine J_perm (permI [10, 0, 1, 2, 3, 4, 5, 6, 7, 8, 9] 11 rfl (by decide +kernel) rfl : List.Perm _ (corkW K b nA aA d e F Ga D S T)) ?_
      show J G _ _ _ _ _ [.int (digS T n (i + 2))]
      refine J_is C0 [(4, .int (digS T n (i + 2))), (3, .int (digS T n (i + 1))), (2, .int (signS T n i)), (0, .ref (b 0)), (1, .int (nI i))] dX4_doOrder_54 (kk := ?_)
      refine J_aln C0 3 dX4_doOrder_56 (kk := ?_)
      refine J_iln C0 1 dX4_doOrder_57 (kk := ?_)
      refine J_il C0 0 dX4_doOrder_58 (kk := ?_)
      refine J_callVd C0 (mX4_isPlace l K b nA aA d e F Ga D S T (digS T n (i + 1)) (digS T n (i + 2))) [] (corkW K b nA aA d e F Ga D S T) gX4_doOrder_X4_isPlace dX4_doOrder_60 2 0 (kk := ?_)
      show J G _ _ _ _ _ [.int (if isPl F (digS T n (i + 1)) (digS T n (i + 2)) then nI 1 else nI 0)]
      refine J_ifneB C0 68 dX4_doOrder_63 (kt := fun c3 => ?_) (kf := fun c3 => ?_)
      · refine J_iln C0 2 dX4_doOrder_68 (kk := ?_)
        refine J_lsw C0 128 dX4_doOrder_69 (by rw [ho]; decide) (kk := ?_)
        refine J_aln C0 3 dX4_doOrder_128 (kk := ?_)
        refine J_iln C0 1 dX4_doOrder_129 (kk := ?_)
        refine J_il C0 0 dX4_doOrder_130 (kk := ?_)
        refine J_callSd C0 (placeOfR l K ha hb) [mainW K b (nA 0) (aA 0) (fun i => some (d i 0)) (fun i => some (e i 0)) T, celW K nA F, celW K aA Ga, celW K (d 0) (D 0), celW K (d 1) (D 1), celW K (e 0) (S 0), celW K (e 1) (S 1), celW K (e 2) (S 2), celW K (e 3) (S 3), celW K (e 4) (S 4), celW K (e 5) (S 5)] (corkW K b nA aA d e F Ga D S T) gX4_doOrder_X4_placeOf dX4_doOrder_132 2 (kk := ?_)
        show J G _ _ _ _ _ [.int (nI (h * 3 + c)), .ref (b 0)]
        refine J_callVd C0 (mX4_wantInText_ok l K b nA aA d e F Ga D S T (p := h * 3 + c) (by omega) hc) [] (corkW K b nA aA d e (u2 F 11 (h * 3 + c) (F 11 (h * 3 + c) + nI 1)) Ga D S T) gX4_doOrder_X4_wantInText dX4_doOrder_135 1 0 (kk := ?_)
        show J G _ _ _ _ _ [.int (nI 1)]
        exact J_zret C0 hF dX4_doOrder_138 (by decide) ⟨rfl, rfl⟩
      · exact absurd hp c3
    · exact absurd c2 hn100
  · exact absurd c1 hn116

set_option maxHeartbeats 4000000 in
set_option maxRecDepth 100000 in
theorem mX4_doOrder_w_no (l : Launch) (K : KT) (b nA aA : Nat → Nat) (d e : Nat → Nat → Nat) (F Ga : FF) (D S : Nat → FF) (T : FF) {n : Nat} (hn : T 0 1 = nI n) (h60 : n ≤ 60) {i : Nat} (hi : i < 900) (hn116 : ¬ signS T n i = nI 116) (hn100 : ¬ signS T n i = nI 100) (ho : signS T n i = nI 119) (hp : isPl F (digS T n (i + 1)) (digS T n (i + 2))) {h c : Nat} (hh : h < 4) (hc3 : c < 3) (ha : (digS T n (i + 1)) = nI h) (hb : (digS T n (i + 2)) = nI c) (hc : ¬ ¬ nI 9 ≤ F 11 (h * 3 + c)) : Ct l K yX4_doOrder wsX4_doOrder rmX4_doOrder [.ref (b 0), .int (nI i)] (corkW K b nA aA d e F Ga D S T) (some (.int (nI 0))) (corkW K b nA aA d e F Ga D S T) := by
  refine CtP_of (cc := cX4_doOrder) (nL := 5) (rt := some .boolean) (own := RX4) (lv0 := [(0, .ref (b 0)), (1, .int (nI i))]) (by decide) rfl (Nat.le_of_ble_eq_true rfl) rfl rfl ?_
  intro G C0 hF _
  have f37 : Cond.fieldLink RX4 37 "CorkPermits" "text" "LCorkPermits$DayText;" ∈ wsX4_doOrder := by decide +kernel
  have iX4 : ∀ w ∈ u_ws RX4 TX4 6, w ∈ wsX4_doOrder := by decide +kernel
  refine J_aln C0 0 dX4_doOrder_0 (kk := ?_)
  refine J_get C0 iX4 0 0 5 f37 dX4_doOrder_1 (kk := ?_)
  refine J_iln C0 1 dX4_doOrder_4 (kk := ?_)
  refine J_perm (permI [1, 2, 3, 4, 5, 6, 7, 8, 9, 10, 0] 11 rfl (by decide +kernel) rfl : List.Perm _ ([celW K nA F, celW K aA Ga, celW K (d 0) (D 0), celW K (d 1) (D 1), celW K (e 0) (S 0), celW K (e 1) (S 1), celW K (e 2) (S 2), celW K (e 3) (S 3), celW K (e 4) (S 4), celW K (e 5) (S 5), mainW K b (nA 0) (aA 0) (fun i => some (d i 0)) (fun i => some (e i 0)) T])) ?_
  refine J_callVd C0 (mX1_sign l K b (nA 0) (aA 0) (fun i => some (d i 0)) (fun i => some (e i 0)) T hn h60 (i := i) (by omega)) [celW K nA F, celW K aA Ga, celW K (d 0) (D 0), celW K (d 1) (D 1), celW K (e 0) (S 0), celW K (e 1) (S 1), celW K (e 2) (S 2), celW K (e 3) (S 3), celW K (e 4) (S 4), celW K (e 5) (S 5)] [celW K nA F, celW K aA Ga, celW K (d 0) (D 0), celW K (d 1) (D 1), celW K (e 0) (S 0), celW K (e 1) (S 1), celW K (e 2) (S 2), celW K (e 3) (S 3), celW K (e 4) (S 4), celW K (e 5) (S 5), mainW K b (nA 0) (aA 0) (fun i => some (d i 0)) (fun i => some (e i 0)) T] gX4_doOrder_X1_sign dX4_doOrder_5 1 5 (kk := ?_)
  refine J_perm (permI [10, 0, 1, 2, 3, 4, 5, 6, 7, 8, 9] 11 rfl (by decide +kernel) rfl : List.Perm _ (corkW K b nA aA d e F Ga D S T)) ?_
  show J G _ _ _ _ _ [.int (signS T n i)]
  refine J_isn C0 [(2, .int (signS T n i)), (0, .ref (b 0)), (1, .int (nI i))] dX4_doOrder_8 (kk := ?_)
  refine J_aln C0 1 dX4_doOrder_9 (kk := ?_)
  refine J_get C0 iX4 0 0 5 f37 dX4_doOrder_10 (kk := ?_)
  refine J_iln C0 2 dX4_doOrder_13 (kk := ?_)
  refine J_ic C0 1 dX4_doOrder_14 (kk := ?_)
  refine J_iaddN C0 dX4_doOrder_15 ?_
  refine J_perm (permI [1, 2, 3, 4, 5, 6, 7, 8, 9, 10, 0] 11 rfl (by decide +kernel) rfl : List.Perm _ ([celW K nA F, celW K aA Ga, celW K (d 0) (D 0), celW K (d 1) (D 1), celW K (e 0) (S 0), celW K (e 1) (S 1), celW K (e 2) (S 2), celW K (e 3) (S 3), celW K (e 4) (S 4), celW K (e 5) (S 5), mainW K b (nA 0) (aA 0) (fun i => some (d i 0)) (fun i => some (e i 0)) T])) ?_
  refine J_callVd C0 (mX1_digit l K b (nA 0) (aA 0) (fun i => some (d i 0)) (fun i => some (e i 0)) T hn h60 (i := i + 1) (by omega)) [celW K nA F, celW K aA Ga, celW K (d 0) (D 0), celW K (d 1) (D 1), celW K (e 0) (S 0), celW K (e 1) (S 1), celW K (e 2) (S 2), celW K (e 3) (S 3), celW K (e 4) (S 4), celW K (e 5) (S 5)] [celW K nA F, celW K aA Ga, celW K (d 0) (D 0), celW K (d 1) (D 1), celW K (e 0) (S 0), celW K (e 1) (S 1), celW K (e 2) (S 2), celW K (e 3) (S 3), celW K (e 4) (S 4), celW K (e 5) (S 5), mainW K b (nA 0) (aA 0) (fun i => some (d i 0)) (fun i => some (e i 0)) T] gX4_doOrder_X1_digit dX4_doOrder_16 1 5 (kk := ?_)
  refine J_perm (permI [10, 0, 1, 2, 3, 4, 5, 6, 7, 8, 9] 11 rfl (by decide +kernel) rfl : List.Perm _ (corkW K b nA aA d e F Ga D S T)) ?_
  show J G _ _ _ _ _ [.int (digS T n (i + 1))]
  refine J_isn C0 [(3, .int (digS T n (i + 1))), (2, .int (signS T n i)), (0, .ref (b 0)), (1, .int (nI i))] dX4_doOrder_19 (kk := ?_)
  refine J_iln C0 1 dX4_doOrder_20 (kk := ?_)
  refine J_bi C0 116 dX4_doOrder_21 (kk := ?_)
  refine J_icmpne C0 32 dX4_doOrder_23 (kt := fun c1 => ?_) (kf := fun c1 => ?_)
  · refine J_iln C0 1 dX4_doOrder_32 (kk := ?_)
    refine J_bi C0 100 dX4_doOrder_33 (kk := ?_)
    refine J_icmpne C0 44 dX4_doOrder_35 (kt := fun c2 => ?_) (kf := fun c2 => ?_)
    · refine J_aln C0 2 dX4_doOrder_44 (kk := ?_)
      refine J_get C0 iX4 0 0 5 f37 dX4_doOrder_45 (kk := ?_)
      refine J_iln C0 3 dX4_doOrder_48 (kk := ?_)
      refine J_ic C0 2 dX4_doOrder_49 (kk := ?_)
      refine J_iaddN C0 dX4_doOrder_50 ?_
      refine J_perm (permI [1, 2, 3, 4, 5, 6, 7, 8, 9, 10, 0] 11 rfl (by decide +kernel) rfl : List.Perm _ ([celW K nA F, celW K aA Ga, celW K (d 0) (D 0), celW K (d 1) (D 1), celW K (e 0) (S 0), celW K (e 1) (S 1), celW K (e 2) (S 2), celW K (e 3) (S 3), celW K (e 4) (S 4), celW K (e 5) (S 5), mainW K b (nA 0) (aA 0) (fun i => some (d i 0)) (fun i => some (e i 0)) T])) ?_
      refine J_callVd C0 (mX1_digit l K b (nA 0) (aA 0) (fun i => some (d i 0)) (fun i => some (e i 0)) T hn h60 (i := i + 2) (by omega)) [celW K nA F, celW K aA Ga, celW K (d 0) (D 0), celW K (d 1) (D 1), celW K (e 0) (S 0), celW K (e 1) (S 1), celW K (e 2) (S 2), celW K (e 3) (S 3), celW K (e 4) (S 4), celW K (e 5) (S 5)] [celW K nA F, celW K aA Ga, celW K (d 0) (D 0), celW K (d 1) (D 1), celW K (e 0) (S 0), celW K (e 1) (S 1), celW K (e 2) (S 2), celW K (e 3) (S 3), celW K (e 4) (S 4), celW K (e 5) (S 5), mainW K b (nA 0) (aA 0) (fun i => some (d i 0)) (fun i => some (e i 0)) T] gX4_doOrder_X1_digit dX4_doOrder_51 1 5 (kk := ?_)
      refine J_perm (permI [10, 0, 1, 2, 3, 4, 5, 6, 7, 8, 9] 11 rfl (by decide +kernel) rfl : List.Perm _ (corkW K b nA aA d e F Ga D S T)) ?_
      show J G _ _ _ _ _ [.int (digS T n (i + 2))]
      refine J_is C0 [(4, .int (digS T n (i + 2))), (3, .int (digS T n (i + 1))), (2, .int (signS T n i)), (0, .ref (b 0)), (1, .int (nI i))] dX4_doOrder_54 (kk := ?_)
      refine J_aln C0 3 dX4_doOrder_56 (kk := ?_)
      refine J_iln C0 1 dX4_doOrder_57 (kk := ?_)
      refine J_il C0 0 dX4_doOrder_58 (kk := ?_)
      refine J_callVd C0 (mX4_isPlace l K b nA aA d e F Ga D S T (digS T n (i + 1)) (digS T n (i + 2))) [] (corkW K b nA aA d e F Ga D S T) gX4_doOrder_X4_isPlace dX4_doOrder_60 2 0 (kk := ?_)
      show J G _ _ _ _ _ [.int (if isPl F (digS T n (i + 1)) (digS T n (i + 2)) then nI 1 else nI 0)]
      refine J_ifneB C0 68 dX4_doOrder_63 (kt := fun c3 => ?_) (kf := fun c3 => ?_)
      · refine J_iln C0 2 dX4_doOrder_68 (kk := ?_)
        refine J_lsw C0 128 dX4_doOrder_69 (by rw [ho]; decide) (kk := ?_)
        refine J_aln C0 3 dX4_doOrder_128 (kk := ?_)
        refine J_iln C0 1 dX4_doOrder_129 (kk := ?_)
        refine J_il C0 0 dX4_doOrder_130 (kk := ?_)
        refine J_callSd C0 (placeOfR l K ha hb) [mainW K b (nA 0) (aA 0) (fun i => some (d i 0)) (fun i => some (e i 0)) T, celW K nA F, celW K aA Ga, celW K (d 0) (D 0), celW K (d 1) (D 1), celW K (e 0) (S 0), celW K (e 1) (S 1), celW K (e 2) (S 2), celW K (e 3) (S 3), celW K (e 4) (S 4), celW K (e 5) (S 5)] (corkW K b nA aA d e F Ga D S T) gX4_doOrder_X4_placeOf dX4_doOrder_132 2 (kk := ?_)
        show J G _ _ _ _ _ [.int (nI (h * 3 + c)), .ref (b 0)]
        refine J_callVd C0 (mX4_wantInText_no l K b nA aA d e F Ga D S T (p := h * 3 + c) (by omega) hc) [] (corkW K b nA aA d e F Ga D S T) gX4_doOrder_X4_wantInText dX4_doOrder_135 1 0 (kk := ?_)
        show J G _ _ _ _ _ [.int (nI 0)]
        exact J_zret C0 hF dX4_doOrder_138 (by decide) ⟨rfl, rfl⟩
      · exact absurd hp c3
    · exact absurd c2 hn100
  · exact absurd c1 hn116

set_option maxHeartbeats 4000000 in
set_option maxRecDepth 100000 in
theorem mX4_doOrder_other (l : Launch) (K : KT) (b nA aA : Nat → Nat) (d e : Nat → Nat → Nat) (F Ga : FF) (D S : Nat → FF) (T : FF) {n : Nat} (hn : T 0 1 = nI n) (h60 : n ≤ 60) {i : Nat} (hi : i < 900) (hn116 : ¬ signS T n i = nI 116) (hn100 : ¬ signS T n i = nI 100) (hn108 : ¬ signS T n i = nI 108) (hn113 : ¬ signS T n i = nI 113) (hn119 : ¬ signS T n i = nI 119) (hp : isPl F (digS T n (i + 1)) (digS T n (i + 2))) : Ct l K yX4_doOrder wsX4_doOrder rmX4_doOrder [.ref (b 0), .int (nI i)] (corkW K b nA aA d e F Ga D S T) (some (.int (nI 0))) (corkW K b nA aA d e F Ga D S T) := by
  refine CtP_of (cc := cX4_doOrder) (nL := 5) (rt := some .boolean) (own := RX4) (lv0 := [(0, .ref (b 0)), (1, .int (nI i))]) (by decide) rfl (Nat.le_of_ble_eq_true rfl) rfl rfl ?_
  intro G C0 hF _
  have f37 : Cond.fieldLink RX4 37 "CorkPermits" "text" "LCorkPermits$DayText;" ∈ wsX4_doOrder := by decide +kernel
  have iX4 : ∀ w ∈ u_ws RX4 TX4 6, w ∈ wsX4_doOrder := by decide +kernel
  refine J_aln C0 0 dX4_doOrder_0 (kk := ?_)
  refine J_get C0 iX4 0 0 5 f37 dX4_doOrder_1 (kk := ?_)
  refine J_iln C0 1 dX4_doOrder_4 (kk := ?_)
  refine J_perm (permI [1, 2, 3, 4, 5, 6, 7, 8, 9, 10, 0] 11 rfl (by decide +kernel) rfl : List.Perm _ ([celW K nA F, celW K aA Ga, celW K (d 0) (D 0), celW K (d 1) (D 1), celW K (e 0) (S 0), celW K (e 1) (S 1), celW K (e 2) (S 2), celW K (e 3) (S 3), celW K (e 4) (S 4), celW K (e 5) (S 5), mainW K b (nA 0) (aA 0) (fun i => some (d i 0)) (fun i => some (e i 0)) T])) ?_
  refine J_callVd C0 (mX1_sign l K b (nA 0) (aA 0) (fun i => some (d i 0)) (fun i => some (e i 0)) T hn h60 (i := i) (by omega)) [celW K nA F, celW K aA Ga, celW K (d 0) (D 0), celW K (d 1) (D 1), celW K (e 0) (S 0), celW K (e 1) (S 1), celW K (e 2) (S 2), celW K (e 3) (S 3), celW K (e 4) (S 4), celW K (e 5) (S 5)] [celW K nA F, celW K aA Ga, celW K (d 0) (D 0), celW K (d 1) (D 1), celW K (e 0) (S 0), celW K (e 1) (S 1), celW K (e 2) (S 2), celW K (e 3) (S 3), celW K (e 4) (S 4), celW K (e 5) (S 5), mainW K b (nA 0) (aA 0) (fun i => some (d i 0)) (fun i => some (e i 0)) T] gX4_doOrder_X1_sign dX4_doOrder_5 1 5 (kk := ?_)
  refine J_perm (permI [10, 0, 1, 2, 3, 4, 5, 6, 7, 8, 9] 11 rfl (by decide +kernel) rfl : List.Perm _ (corkW K b nA aA d e F Ga D S T)) ?_
  show J G _ _ _ _ _ [.int (signS T n i)]
  refine J_isn C0 [(2, .int (signS T n i)), (0, .ref (b 0)), (1, .int (nI i))] dX4_doOrder_8 (kk := ?_)
  refine J_aln C0 1 dX4_doOrder_9 (kk := ?_)
  refine J_get C0 iX4 0 0 5 f37 dX4_doOrder_10 (kk := ?_)
  refine J_iln C0 2 dX4_doOrder_13 (kk := ?_)
  refine J_ic C0 1 dX4_doOrder_14 (kk := ?_)
  refine J_iaddN C0 dX4_doOrder_15 ?_
  refine J_perm (permI [1, 2, 3, 4, 5, 6, 7, 8, 9, 10, 0] 11 rfl (by decide +kernel) rfl : List.Perm _ ([celW K nA F, celW K aA Ga, celW K (d 0) (D 0), celW K (d 1) (D 1), celW K (e 0) (S 0), celW K (e 1) (S 1), celW K (e 2) (S 2), celW K (e 3) (S 3), celW K (e 4) (S 4), celW K (e 5) (S 5), mainW K b (nA 0) (aA 0) (fun i => some (d i 0)) (fun i => some (e i 0)) T])) ?_
  refine J_callVd C0 (mX1_digit l K b (nA 0) (aA 0) (fun i => some (d i 0)) (fun i => some (e i 0)) T hn h60 (i := i + 1) (by omega)) [celW K nA F, celW K aA Ga, celW K (d 0) (D 0), celW K (d 1) (D 1), celW K (e 0) (S 0), celW K (e 1) (S 1), celW K (e 2) (S 2), celW K (e 3) (S 3), celW K (e 4) (S 4), celW K (e 5) (S 5)] [celW K nA F, celW K aA Ga, celW K (d 0) (D 0), celW K (d 1) (D 1), celW K (e 0) (S 0), celW K (e 1) (S 1), celW K (e 2) (S 2), celW K (e 3) (S 3), celW K (e 4) (S 4), celW K (e 5) (S 5), mainW K b (nA 0) (aA 0) (fun i => some (d i 0)) (fun i => some (e i 0)) T] gX4_doOrder_X1_digit dX4_doOrder_16 1 5 (kk := ?_)
  refine J_perm (permI [10, 0, 1, 2, 3, 4, 5, 6, 7, 8, 9] 11 rfl (by decide +kernel) rfl : List.Perm _ (corkW K b nA aA d e F Ga D S T)) ?_
  show J G _ _ _ _ _ [.int (digS T n (i + 1))]
  refine J_isn C0 [(3, .int (digS T n (i + 1))), (2, .int (signS T n i)), (0, .ref (b 0)), (1, .int (nI i))] dX4_doOrder_19 (kk := ?_)
  refine J_iln C0 1 dX4_doOrder_20 (kk := ?_)
  refine J_bi C0 116 dX4_doOrder_21 (kk := ?_)
  refine J_icmpne C0 32 dX4_doOrder_23 (kt := fun c1 => ?_) (kf := fun c1 => ?_)
  · refine J_iln C0 1 dX4_doOrder_32 (kk := ?_)
    refine J_bi C0 100 dX4_doOrder_33 (kk := ?_)
    refine J_icmpne C0 44 dX4_doOrder_35 (kt := fun c2 => ?_) (kf := fun c2 => ?_)
    · refine J_aln C0 2 dX4_doOrder_44 (kk := ?_)
      refine J_get C0 iX4 0 0 5 f37 dX4_doOrder_45 (kk := ?_)
      refine J_iln C0 3 dX4_doOrder_48 (kk := ?_)
      refine J_ic C0 2 dX4_doOrder_49 (kk := ?_)
      refine J_iaddN C0 dX4_doOrder_50 ?_
      refine J_perm (permI [1, 2, 3, 4, 5, 6, 7, 8, 9, 10, 0] 11 rfl (by decide +kernel) rfl : List.Perm _ ([celW K nA F, celW K aA Ga, celW K (d 0) (D 0), celW K (d 1) (D 1), celW K (e 0) (S 0), celW K (e 1) (S 1), celW K (e 2) (S 2), celW K (e 3) (S 3), celW K (e 4) (S 4), celW K (e 5) (S 5), mainW K b (nA 0) (aA 0) (fun i => some (d i 0)) (fun i => some (e i 0)) T])) ?_
      refine J_callVd C0 (mX1_digit l K b (nA 0) (aA 0) (fun i => some (d i 0)) (fun i => some (e i 0)) T hn h60 (i := i + 2) (by omega)) [celW K nA F, celW K aA Ga, celW K (d 0) (D 0), celW K (d 1) (D 1), celW K (e 0) (S 0), celW K (e 1) (S 1), celW K (e 2) (S 2), celW K (e 3) (S 3), celW K (e 4) (S 4), celW K (e 5) (S 5)] [celW K nA F, celW K aA Ga, celW K (d 0) (D 0), celW K (d 1) (D 1), celW K (e 0) (S 0), celW K (e 1) (S 1), celW K (e 2) (S 2), celW K (e 3) (S 3), celW K (e 4) (S 4), celW K (e 5) (S 5), mainW K b (nA 0) (aA 0) (fun i => some (d i 0)) (fun i => some (e i 0)) T] gX4_doOrder_X1_digit dX4_doOrder_51 1 5 (kk := ?_)
      refine J_perm (permI [10, 0, 1, 2, 3, 4, 5, 6, 7, 8, 9] 11 rfl (by decide +kernel) rfl : List.Perm _ (corkW K b nA aA d e F Ga D S T)) ?_
      show J G _ _ _ _ _ [.int (digS T n (i + 2))]
      refine J_is C0 [(4, .int (digS T n (i + 2))), (3, .int (digS T n (i + 1))), (2, .int (signS T n i)), (0, .ref (b 0)), (1, .int (nI i))] dX4_doOrder_54 (kk := ?_)
      refine J_aln C0 3 dX4_doOrder_56 (kk := ?_)
      refine J_iln C0 1 dX4_doOrder_57 (kk := ?_)
      refine J_il C0 0 dX4_doOrder_58 (kk := ?_)
      refine J_callVd C0 (mX4_isPlace l K b nA aA d e F Ga D S T (digS T n (i + 1)) (digS T n (i + 2))) [] (corkW K b nA aA d e F Ga D S T) gX4_doOrder_X4_isPlace dX4_doOrder_60 2 0 (kk := ?_)
      show J G _ _ _ _ _ [.int (if isPl F (digS T n (i + 1)) (digS T n (i + 2)) then nI 1 else nI 0)]
      refine J_ifneB C0 68 dX4_doOrder_63 (kt := fun c3 => ?_) (kf := fun c3 => ?_)
      · refine J_iln C0 2 dX4_doOrder_68 (kk := ?_)
        refine J_lsw C0 139 dX4_doOrder_69 (by show Op.lookupswitch.offset [(108, 35), (113, 48), (119, 59)] 70 (signS T n i).toInt = _; rw [lv_osw hn108 (by decide), lv_osw hn113 (by decide), lv_osw hn119 (by decide)]; rfl) (kk := ?_)
        refine J_ic C0 0 dX4_doOrder_139 (kk := ?_)
        exact J_zret C0 hF dX4_doOrder_140 (by decide) ⟨rfl, rfl⟩
      · exact absurd hp c3
    · exact absurd c2 hn100
  · exact absurd c1 hn116

theorem dig_of {T : FF} {n j : Nat} (h : ¬ digS T n j < 0) : ∃ t, t ≤ 9 ∧ digS T n j = nI t := by
  unfold digS at h ⊢
  split at h
  · rename_i q
    rw [if_pos q]
    have h0 : ¬ signS T n j < 0 := fun z => q.1 (Int32.lt_trans z (by decide))
    obtain ⟨s, hs, e⟩ := nI_of h0
    rw [e] at q ⊢
    have a : ¬ s < 48 := fun z => q.1 ((nI_ltI hs (by decide)).mpr z)
    have b : ¬ 57 < s := fun z => q.2 ((nI_ltI (by decide) hs).mpr z)
    refine ⟨s - 48, by omega, ?_⟩
    have e2 : nI s = nI (s - 48) + nI 48 := by rw [nI_add]; congr 1; omega
    rw [e2]
    exact Int32.add_sub_cancel _ _
  · exact absurd (by decide : (-1 : Int32) < 0) h
theorem mX4_doOrder (l : Launch) (K : KT) (b nA aA : Nat → Nat) (d e : Nat → Nat → Nat) (F Ga : FF) (D S : Nat → FF) (T : FF) (hSh : Sh F) {n : Nat} (hn : T 0 1 = nI n) (h60 : n ≤ 60) {i : Nat} (hi : i < 900) : Ct l K yX4_doOrder wsX4_doOrder rmX4_doOrder [.ref (b 0), .int (nI i)] (corkW K b nA aA d e F Ga D S T) (some (ordB F (ordC F (signS T n i) (digS T n (i + 1)) (digS T n (i + 2)))).1) (corkW K b nA aA d e (ordB F (ordC F (signS T n i) (digS T n (i + 1)) (digS T n (i + 2)))).2 Ga D S T) := by
  by_cases h116 : signS T n i = nI 116
  · by_cases h1 : digS T n (i + 1) < nI 1
    · have e2 : ordC F (signS T n i) (digS T n (i + 1)) (digS T n (i + 2)) = none := by unfold ordC; rw [if_pos h116, if_pos h1]
      rw [e2]
      exact mX4_doOrder_t_low l K b nA aA d e F Ga D S T hn h60 hi h116 h1
    · by_cases h2 : F 0 0 + digS T n (i + 1) ≤ nI 9999
      · obtain ⟨t, ht, hx⟩ := dig_of (T := T) (n := n) (j := i + 1) (fun q => h1 (Int32.lt_trans q (by decide)))
        have e2 : ordC F (signS T n i) (digS T n (i + 1)) (digS T n (i + 2)) = some (ticksC t F) := by unfold ordC; rw [if_pos h116, if_neg h1, if_pos h2, hx, nN_nI (by omega)]
        rw [hx] at h1 h2
        have ht1 : 1 ≤ t := Nat.le_of_not_lt (fun z => h1 ((nI_ltI (by omega) (by decide)).mpr z))
        rw [e2]
        exact mX4_doOrder_t_ok l K b nA aA d e F Ga D S T hn h60 hi h116 hSh ht1 (by omega) h2 hx
      · have e2 : ordC F (signS T n i) (digS T n (i + 1)) (digS T n (i + 2)) = none := by unfold ordC; rw [if_pos h116, if_neg h1, if_neg h2]
        rw [e2]
        exact mX4_doOrder_t_late l K b nA aA d e F Ga D S T hn h60 hi h116 h1 h2
  by_cases h100 : signS T n i = nI 100
  · by_cases h1 : digS T n (i + 1) < 0
    · have e2 : ordC F (signS T n i) (digS T n (i + 1)) (digS T n (i + 2)) = none := by unfold ordC; rw [if_neg h116, if_pos h100, if_pos h1]
      rw [e2]
      exact mX4_doOrder_d_low l K b nA aA d e F Ga D S T hn h60 hi h116 h100 h1
    by_cases h2 : nI 3 ≤ digS T n (i + 1)
    · have e2 : ordC F (signS T n i) (digS T n (i + 1)) (digS T n (i + 2)) = none := by unfold ordC; rw [if_neg h116, if_pos h100, if_neg h1, if_pos h2]
      rw [e2]
      exact mX4_doOrder_d_high l K b nA aA d e F Ga D S T hn h60 hi h116 h100 h1 h2
    obtain ⟨c, hc, hx⟩ := dig_of h1
    have hc3 : c < 3 := by
      rw [hx] at h2
      exact Nat.lt_of_not_le (fun z => h2 (nI_le z (by omega)))
    by_cases h3 : 0 < F 3 c
    · have e2 : ordC F (signS T n i) (digS T n (i + 1)) (digS T n (i + 2)) = some (drinkS F c) := by unfold ordC; rw [if_neg h116, if_pos h100, if_neg h1, if_neg h2, hx, nN_nI (by omega), if_pos h3]
      rw [e2]
      exact mX4_doOrder_d_ok l K b nA aA d e F Ga D S T hn h60 hi h116 h100 hc3 h3 hx
    · have e2 : ordC F (signS T n i) (digS T n (i + 1)) (digS T n (i + 2)) = none := by unfold ordC; rw [if_neg h116, if_pos h100, if_neg h1, if_neg h2, hx, nN_nI (by omega), if_neg h3]
      rw [e2]
      exact mX4_doOrder_d_none l K b nA aA d e F Ga D S T hn h60 hi h116 h100 hc3 h3 hx
  by_cases hp : isPl F (digS T n (i + 1)) (digS T n (i + 2))
  · obtain ⟨hn', h4, eh⟩ := hSh.1
    obtain ⟨h, c, hh, hc3, ha, hb⟩ := isPl_of eh h4 hp
    obtain ⟨m, m40, hm⟩ := hSh.2.1
    have eN : nN (F 0 4) = m := by rw [hm]; exact nN_nI (by omega)
    have e1 : ordC F (signS T n i) (digS T n (i + 1)) (digS T n (i + 2)) = (if signS T n i = nI 108 then (if canLendS F c then some (lendS F m (h * 3 + c)) else none) else if signS T n i = nI 113 then (if roomS F then some (askS F m (h * 3 + c)) else none) else if signS T n i = nI 119 then (if ¬ nI 9 ≤ F 11 (h * 3 + c) then some (u2 F 11 (h * 3 + c) (F 11 (h * 3 + c) + nI 1)) else none) else none) := by
      unfold ordC
      rw [if_neg h116, if_neg h100, if_pos hp, ha, hb, nN_nI (by omega), nN_nI (by omega), eN]
    rw [e1]
    by_cases h108 : signS T n i = nI 108
    · by_cases hc : canLendS F c
      · rw [if_pos h108, if_pos hc]
        exact mX4_doOrder_l_ok l K b nA aA d e F Ga D S T hn h60 hi h116 h100 h108 hp (by omega) hc3 ha hb hm m40 hc
      · rw [if_pos h108, if_neg hc]
        exact mX4_doOrder_l_no l K b nA aA d e F Ga D S T hn h60 hi h116 h100 h108 hp (by omega) hc3 ha hb hc
    by_cases h113 : signS T n i = nI 113
    · by_cases hc : roomS F
      · rw [if_neg h108, if_pos h113, if_pos hc]
        exact mX4_doOrder_q_ok l K b nA aA d e F Ga D S T hn h60 hi h116 h100 h113 hp (by omega) hc3 ha hb hm m40 hc
      · rw [if_neg h108, if_pos h113, if_neg hc]
        exact mX4_doOrder_q_no l K b nA aA d e F Ga D S T hn h60 hi h116 h100 h113 hp (by omega) hc3 ha hb hc
    by_cases h119 : signS T n i = nI 119
    · by_cases hc : ¬ nI 9 ≤ F 11 (h * 3 + c)
      · rw [if_neg h108, if_neg h113, if_pos h119, if_pos hc]
        exact mX4_doOrder_w_ok l K b nA aA d e F Ga D S T hn h60 hi h116 h100 h119 hp (by omega) hc3 ha hb hc
      · rw [if_neg h108, if_neg h113, if_pos h119, if_neg hc]
        exact mX4_doOrder_w_no l K b nA aA d e F Ga D S T hn h60 hi h116 h100 h119 hp (by omega) hc3 ha hb hc
    rw [if_neg h108, if_neg h113, if_neg h119]
    exact mX4_doOrder_other l K b nA aA d e F Ga D S T hn h60 hi h116 h100 h108 h113 h119 hp
  · have e2 : ordC F (signS T n i) (digS T n (i + 1)) (digS T n (i + 2)) = none := by unfold ordC; rw [if_neg h116, if_neg h100, if_neg hp]
    rw [e2]
    exact mX4_doOrder_place l K b nA aA d e F Ga D S T hn h60 hi h116 h100 hp
theorem sh_ordC {F H : FF} (h : Sh F) {o x y : Int32} (e : ordC F o x y = some H) : Sh H := by
  unfold ordC at e
  obtain ⟨m, m40, hm⟩ := h.2.1
  have eN : nN (F 0 4) = m := by rw [hm]; exact nN_nI (by omega)
  split at e
  · split at e
    · cases e
    · split at e
      · cases e
        exact sh_ticksC _ h
      · cases e
  · split at e
    · split at e
      · cases e
      · split at e
        · cases e
        · split at e
          · cases e
            exact sh_u2 (sh_u2 h (by omega) (by omega) (by omega)) (by omega) (by omega) (by omega)
          · cases e
    · split at e
      · rename_i hp
        obtain ⟨hn', h4, eh⟩ := h.1
        obtain ⟨a, c, hh, hc3, ha, hb⟩ := isPl_of eh h4 hp
        subst ha
        subst hb
        rw [nN_nI (by omega), nN_nI (by omega), eN] at e
        split at e
        · split at e
          · rename_i hc
            cases e
            exact sh_lendS h hm (room_lt hm hc.2 m40) (by omega)
          · cases e
        · split at e
          · split at e
            · rename_i hc
              cases e
              exact sh_askS h hm (room_lt hm hc m40) (by omega)
            · cases e
          · split at e
            · split at e
              · cases e
                exact sh_u2 h (by omega) (by omega) (by omega)
              · cases e
            · cases e
      · cases e
