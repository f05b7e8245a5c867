def shareN (a b : Nat) : UInt64 := if b = 0 then 0x3ff0000000000000 else FP.ddiv (FP.i2d (nI a)) (FP.i2d (nI b))
theorem mX4_shareBits (l : Launch) (K : KT) {a b : Nat} (hab : a ≤ b) (h31 : b < 2 ^ 31) : Ct l K yX4_shareBits wsX4_shareBits rmX4_shareBits [.double (shareN a b)] [] (some (.long (Int64.ofNat (shareN a b).toNat))) [] := by
  unfold shareN
  by_cases hb : b = 0
  · rw [if_pos hb]
    exact mX4_shareBits_pos l K (c := 4503599627370496) (j := 0) v64_1 (by omega) (by omega)
  · rw [if_neg hb]
    by_cases ha : a = 0
    · subst ha
      rw [v_div0 (by omega) h31]
      exact mX4_shareBits_0 l K
    · obtain ⟨c, j, e, c1, c2, hj⟩ := v_div (a := a) (b := b) (by omega) hab h31
      exact mX4_shareBits_pos l K e c1 (by omega)
theorem share_vf {a b : Nat} (hb : ¬ b = 0) (hab : a ≤ b) (h31 : b < 2 ^ 31) : vf_n64 (FP.ddiv (FP.i2d (nI a)) (FP.i2d (nI b))) := by
  by_cases ha : a = 0
  · subst ha
    rw [v_div0 (by omega) h31]
    exact vf_fin v64_0
  · obtain ⟨c, j, e, -⟩ := v_div (a := a) (b := b) (by omega) hab h31
    exact vf_fin e
abbrev rmX4_arrivedShare : Room := { frames := 1, cells := 0, slots := 0, locals := 25 }
set_option maxHeartbeats 4000000 in
set_option maxRecDepth 100000 in
theorem mX4_arrivedShare_one (l : Launch) (K : KT) (b nA aA : Nat → Nat) (d e : Nat → Nat → Nat) (F Ga : FF) (D S : Nat → FF) (T : FF) {a9 b9 : Nat} (ha9 : sumS (F 5) 3 = nI a9) (hb9 : sumS (F 8) 12 = nI b9) (hab : a9 ≤ b9) (h31 : b9 < 2 ^ 31) (hc : b9 = 0) : Ct l K yX4_arrivedShare wsX4_arrivedShare rmX4_arrivedShare [.ref (b 0)] (corkW K b nA aA d e F Ga D S T) (some (.double (shareN a9 b9))) (corkW K b nA aA d e F Ga D S T) := by
  refine CtP_of (cc := cX4_arrivedShare) (nL := 2) (rt := some .double) (own := RX4) (lv0 := [(0, .ref (b 0))]) (by decide) rfl (Nat.le_of_ble_eq_true rfl) rfl rfl ?_
  intro G C0 hF _
  have hs : ¬ 0 < sumS (F 8) 12 := by rw [hb9, hc]; decide
  have f12 : Cond.fieldLink RX4 12 "CorkPermits" "now" "LCorkPermits$Cellar;" ∈ wsX4_arrivedShare := by decide +kernel
  have iX4 : ∀ w ∈ u_ws RX4 TX4 6, w ∈ wsX4_arrivedShare := by decide +kernel
  have f193 : Cond.fieldLink RX4 193 "CorkPermits$Cellar" "accounted" "[I" ∈ wsX4_arrivedShare := by decide +kernel
  have iX0 : ∀ w ∈ u_ws RX0 TX0 14, w ∈ wsX4_arrivedShare := by decide +kernel
  refine J_aln C0 0 dX4_arrivedShare_0 (kk := ?_)
  refine J_get C0 iX4 0 0 0 f12 dX4_arrivedShare_1 (kk := ?_)
  refine J_get C0 iX0 1 0 9 f193 dX4_arrivedShare_4 (kk := ?_)
  refine J_perm (permI [0, 2, 3, 4, 5, 6, 7, 8, 9, 10, 1] 11 rfl (by decide +kernel) rfl : List.Perm _ ([mainW K b (nA 0) (aA 0) (fun i => some (d i 0)) (fun i => some (e i 0)) T, celW K aA Ga, celW K (d 0) (D 0), celW K (d 1) (D 1), celW K (e 0) (S 0), celW K (e 1) (S 1), celW K (e 2) (S 2), celW K (e 3) (S 3), celW K (e 4) (S 4), celW K (e 5) (S 5), celW K nA F])) ?_
  refine J_callSd C0 (mX4_total l K (blk := celW K nA F) (k := 8) (ad := nA 8) (n := 12) (f := F 8) rfl (by omega)) [mainW K b (nA 0) (aA 0) (fun i => some (d i 0)) (fun i => some (e i 0)) T, celW K aA Ga, celW K (d 0) (D 0), celW K (d 1) (D 1), celW K (e 0) (S 0), celW K (e 1) (S 1), celW K (e 2) (S 2), celW K (e 3) (S 3), celW K (e 4) (S 4), celW K (e 5) (S 5)] [mainW K b (nA 0) (aA 0) (fun i => some (d i 0)) (fun i => some (e i 0)) T, celW K aA Ga, celW K (d 0) (D 0), celW K (d 1) (D 1), celW K (e 0) (S 0), celW K (e 1) (S 1), celW K (e 2) (S 2), celW K (e 3) (S 3), celW K (e 4) (S 4), celW K (e 5) (S 5), celW K nA F] gX4_arrivedShare_X4_total dX4_arrivedShare_7 1 (kk := ?_)
  refine J_perm (permI [0, 10, 1, 2, 3, 4, 5, 6, 7, 8, 9] 11 rfl (by decide +kernel) rfl : List.Perm _ (corkW K b nA aA d e F Ga D S T)) ?_
  show J G _ _ _ _ _ [.int (sumS (F 8) 12)]
  refine J_isn C0 [(1, .int (sumS (F 8) 12)), (0, .ref (b 0))] dX4_arrivedShare_10 (kk := ?_)
  refine J_iln C0 0 dX4_arrivedShare_11 (kk := ?_)
  refine J_ifgt C0 17 dX4_arrivedShare_12 (kt := fun c1 => ?_) (kf := fun c1 => ?_)
  · exact absurd c1 hs
  · refine J_dc1 C0 dX4_arrivedShare_15 ?_
    exact J_dret C0 hF dX4_arrivedShare_16 ⟨by unfold shareN; rw [if_pos hc], rfl⟩

set_option maxHeartbeats 4000000 in
set_option maxRecDepth 100000 in
theorem mX4_arrivedShare_div (l : Launch) (K : KT) (b nA aA : Nat → Nat) (d e : Nat → Nat → Nat) (F Ga : FF) (D S : Nat → FF) (T : FF) {a9 b9 : Nat} (ha9 : sumS (F 5) 3 = nI a9) (hb9 : sumS (F 8) 12 = nI b9) (hab : a9 ≤ b9) (h31 : b9 < 2 ^ 31) (hc : ¬ b9 = 0) : Ct l K yX4_arrivedShare wsX4_arrivedShare rmX4_arrivedShare [.ref (b 0)] (corkW K b nA aA d e F Ga D S T) (some (.double (shareN a9 b9))) (corkW K b nA aA d e F Ga D S T) := by
  refine CtP_of (cc := cX4_arrivedShare) (nL := 2) (rt := some .double) (own := RX4) (lv0 := [(0, .ref (b 0))]) (by decide) rfl (Nat.le_of_ble_eq_true rfl) rfl rfl ?_
  intro G C0 hF _
  have hs : 0 < sumS (F 8) 12 := by rw [hb9]; exact (nI_ltI (a := 0) (by decide) h31).mpr (by omega)
  have hv : vf_n64 (FP.ddiv (FP.i2d (sumS (F 5) 3)) (FP.i2d (sumS (F 8) 12))) := by rw [ha9, hb9]; exact share_vf hc hab h31
  have f12 : Cond.fieldLink RX4 12 "CorkPermits" "now" "LCorkPermits$Cellar;" ∈ wsX4_arrivedShare := by decide +kernel
  have iX4 : ∀ w ∈ u_ws RX4 TX4 6, w ∈ wsX4_arrivedShare := by decide +kernel
  have f193 : Cond.fieldLink RX4 193 "CorkPermits$Cellar" "accounted" "[I" ∈ wsX4_arrivedShare := by decide +kernel
  have iX0 : ∀ w ∈ u_ws RX0 TX0 14, w ∈ wsX4_arrivedShare := by decide +kernel
  have f199 : Cond.fieldLink RX4 199 "CorkPermits$Cellar" "arrived" "[I" ∈ wsX4_arrivedShare := by decide +kernel
  refine J_aln C0 0 dX4_arrivedShare_0 (kk := ?_)
  refine J_get C0 iX4 0 0 0 f12 dX4_arrivedShare_1 (kk := ?_)
  refine J_get C0 iX0 1 0 9 f193 dX4_arrivedShare_4 (kk := ?_)
  refine J_perm (permI [0, 2, 3, 4, 5, 6, 7, 8, 9, 10, 1] 11 rfl (by decide +kernel) rfl : List.Perm _ ([mainW K b (nA 0) (aA 0) (fun i => some (d i 0)) (fun i => some (e i 0)) T, celW K aA Ga, celW K (d 0) (D 0), celW K (d 1) (D 1), celW K (e 0) (S 0), celW K (e 1) (S 1), celW K (e 2) (S 2), celW K (e 3) (S 3), celW K (e 4) (S 4), celW K (e 5) (S 5), celW K nA F])) ?_
  refine J_callSd C0 (mX4_total l K (blk := celW K nA F) (k := 8) (ad := nA 8) (n := 12) (f := F 8) rfl (by omega)) [mainW K b (nA 0) (aA 0) (fun i => some (d i 0)) (fun i => some (e i 0)) T, celW K aA Ga, celW K (d 0) (D 0), celW K (d 1) (D 1), celW K (e 0) (S 0), celW K (e 1) (S 1), celW K (e 2) (S 2), celW K (e 3) (S 3), celW K (e 4) (S 4), celW K (e 5) (S 5)] [mainW K b (nA 0) (aA 0) (fun i => some (d i 0)) (fun i => some (e i 0)) T, celW K aA Ga, celW K (d 0) (D 0), celW K (d 1) (D 1), celW K (e 0) (S 0), celW K (e 1) (S 1), celW K (e 2) (S 2), celW K (e 3) (S 3), celW K (e 4) (S 4), celW K (e 5) (S 5), celW K nA F] gX4_arrivedShare_X4_total dX4_arrivedShare_7 1 (kk := ?_)
  refine J_perm (permI [0, 10, 1, 2, 3, 4, 5, 6, 7, 8, 9] 11 rfl (by decide +kernel) rfl : List.Perm _ (corkW K b nA aA d e F Ga D S T)) ?_
  show J G _ _ _ _ _ [.int (sumS (F 8) 12)]
  refine J_isn C0 [(1, .int (sumS (F 8) 12)), (0, .ref (b 0))] dX4_arrivedShare_10 (kk := ?_)
  refine J_iln C0 0 dX4_arrivedShare_11 (kk := ?_)
  refine J_ifgt C0 17 dX4_arrivedShare_12 (kt := fun c1 => ?_) (kf := fun c1 => ?_)
  · refine J_aln C0 1 dX4_arrivedShare_17 (kk := ?_)
    refine J_get C0 iX4 0 0 0 f12 dX4_arrivedShare_18 (kk := ?_)
    refine J_get C0 iX0 1 0 6 f199 dX4_arrivedShare_21 (kk := ?_)
    refine J_perm (permI [0, 2, 3, 4, 5, 6, 7, 8, 9, 10, 1] 11 rfl (by decide +kernel) rfl : List.Perm _ ([mainW K b (nA 0) (aA 0) (fun i => some (d i 0)) (fun i => some (e i 0)) T, celW K aA Ga, celW K (d 0) (D 0), celW K (d 1) (D 1), celW K (e 0) (S 0), celW K (e 1) (S 1), celW K (e 2) (S 2), celW K (e 3) (S 3), celW K (e 4) (S 4), celW K (e 5) (S 5), celW K nA F])) ?_
    refine J_callSd C0 (mX4_total l K (blk := celW K nA F) (k := 5) (ad := nA 5) (n := 3) (f := F 5) rfl (by omega)) [mainW K b (nA 0) (aA 0) (fun i => some (d i 0)) (fun i => some (e i 0)) T, celW K aA Ga, celW K (d 0) (D 0), celW K (d 1) (D 1), celW K (e 0) (S 0), celW K (e 1) (S 1), celW K (e 2) (S 2), celW K (e 3) (S 3), celW K (e 4) (S 4), celW K (e 5) (S 5)] [mainW K b (nA 0) (aA 0) (fun i => some (d i 0)) (fun i => some (e i 0)) T, celW K aA Ga, celW K (d 0) (D 0), celW K (d 1) (D 1), celW K (e 0) (S 0), celW K (e 1) (S 1), celW K (e 2) (S 2), celW K (e 3) (S 3), celW K (e 4) (S 4), celW K (e 5) (S 5), celW K nA F] gX4_arrivedShare_X4_total dX4_arrivedShare_24 1 (kk := ?_)
    refine J_perm (permI [0, 10, 1, 2, 3, 4, 5, 6, 7, 8, 9] 11 rfl (by decide +kernel) rfl : List.Perm _ (corkW K b nA aA d e F Ga D S T)) ?_
    show J G _ _ _ _ _ [.int (sumS (F 5) 3)]
    refine J_i2d C0 dX4_arrivedShare_27 ?_
    refine J_iln C0 0 dX4_arrivedShare_28 (kk := ?_)
    refine J_i2d C0 dX4_arrivedShare_29 ?_
    refine J_ddiv C0 dX4_arrivedShare_30 hv (kk := ?_)
    exact J_dret C0 hF dX4_arrivedShare_31 ⟨by unfold shareN; rw [if_neg hc, ha9, hb9], rfl⟩
  · exact absurd hs c1

theorem mX4_arrivedShare (l : Launch) (K : KT) (b nA aA : Nat → Nat) (d e : Nat → Nat → Nat) (F Ga : FF) (D S : Nat → FF) (T : FF) {a9 b9 : Nat} (ha9 : sumS (F 5) 3 = nI a9) (hb9 : sumS (F 8) 12 = nI b9) (hab : a9 ≤ b9) (h31 : b9 < 2 ^ 31) : Ct l K yX4_arrivedShare wsX4_arrivedShare rmX4_arrivedShare [.ref (b 0)] (corkW K b nA aA d e F Ga D S T) (some (.double (shareN a9 b9))) (corkW K b nA aA d e F Ga D S T) := by
  by_cases hc : b9 = 0
  · exact mX4_arrivedShare_one l K b nA aA d e F Ga D S T ha9 hb9 hab h31 hc
  · exact mX4_arrivedShare_div l K b nA aA d e F Ga D S T ha9 hb9 hab h31 hc
def digL (F T : FF) (n hn nt a b : Nat) : Int64 :=
  mixF (T 2) nt 0 (mixL (mixL (mixL (mixL (foreL F hn (mix2 (letC F n) 5 10 0 (mix2 (placeC F) 10 (hn * 3) 0 (mix2 (kindC F) 7 3 0 (mixF (F 1) 3 0 (mixF (countC F T) 12 0 3253)))))) (Int64.ofNat (shareN a b).toNat)) (slotL (T 1 0))) (slotL (T 1 1))) (nI nt).toInt64)
abbrev rmX4_digest : Room := { frames := 7, cells := 0, slots := 0, locals := 165 }
set_option maxHeartbeats 4000000 in
set_option maxRecDepth 100000 in
theorem mX4_digest (l : Launch) (K : KT) (b nA aA : Nat → Nat) (d e : Nat → Nat → Nat) (F Ga : FF) (D S : Nat → FF) (T : FF) (hSh : Sh F) {n hn nt : Nat} (hm : F 0 4 = nI n) (h40 : n ≤ 40) (eh : F 0 1 = nI hn) (h4 : hn ≤ 4) (ht : T 0 1 = nI nt) (h60 : nt ≤ 60) {a9 b9 : Nat} (ha9 : sumS (F 5) 3 = nI a9) (hb9 : sumS (F 8) 12 = nI b9) (hab : a9 ≤ b9) (h31 : b9 < 2 ^ 31) : Ct l K yX4_digest wsX4_digest rmX4_digest [.ref (b 0)] (corkW K b nA aA d e F Ga D S T) (some (.long (digL F T n hn nt a9 b9))) (corkW K b nA aA d e F (stillR 201 0 F).2 D S T) := by
  refine CtP_of (cc := cX4_digest) (nL := 3) (rt := some .long) (own := RX4) (lv0 := [(0, .ref (b 0))]) (by decide) rfl (Nat.le_of_ble_eq_true rfl) rfl rfl ?_
  intro G C0 hF _
  have cl202 : Cond.constantLong RX4 202 3253 ∈ wsX4_digest := by decide +kernel
  refine J_ldl C0 cl202 dX4_digest_0 ?_
  refine J_lsn C0 [(1, .long 3253), (0, .ref (b 0))] dX4_digest_3 (kk := ?_)
  refine J_aln C0 1 dX4_digest_4 (kk := ?_)
  refine J_lln C0 0 dX4_digest_5 (kk := ?_)
  refine J_callVd C0 (mX4_mixCounts l K b nA aA d e F Ga D S T 3253) [] (corkW K b nA aA d e F Ga D S T) gX4_digest_X4_mixCounts dX4_digest_6 1 0 (kk := ?_)
  show J G _ _ _ _ _ [.long (mixF (F 1) 3 0 (mixF (countC F T) 12 0 3253))]
  refine J_lsn C0 [(1, .long (mixF (F 1) 3 0 (mixF (countC F T) 12 0 3253))), (0, .ref (b 0))] dX4_digest_9 (kk := ?_)
  refine J_aln C0 1 dX4_digest_10 (kk := ?_)
  refine J_lln C0 0 dX4_digest_11 (kk := ?_)
  refine J_callVd C0 (mX4_mixKinds l K b nA aA d e F Ga D S T (mixF (F 1) 3 0 (mixF (countC F T) 12 0 3253))) [] (corkW K b nA aA d e F Ga D S T) gX4_digest_X4_mixKinds dX4_digest_12 1 0 (kk := ?_)
  show J G _ _ _ _ _ [.long (mix2 (kindC F) 7 3 0 (mixF (F 1) 3 0 (mixF (countC F T) 12 0 3253)))]
  refine J_lsn C0 [(1, .long (mix2 (kindC F) 7 3 0 (mixF (F 1) 3 0 (mixF (countC F T) 12 0 3253)))), (0, .ref (b 0))] dX4_digest_15 (kk := ?_)
  refine J_aln C0 1 dX4_digest_16 (kk := ?_)
  refine J_lln C0 0 dX4_digest_17 (kk := ?_)
  refine J_callVd C0 (mX4_mixHouses l K b nA aA d e F Ga D S T (hn := hn) eh h4 (mix2 (kindC F) 7 3 0 (mixF (F 1) 3 0 (mixF (countC F T) 12 0 3253)))) [] (corkW K b nA aA d e F Ga D S T) gX4_digest_X4_mixHouses dX4_digest_18 1 0 (kk := ?_)
  show J G _ _ _ _ _ [.long (mix2 (placeC F) 10 (hn * 3) 0 (mix2 (kindC F) 7 3 0 (mixF (F 1) 3 0 (mixF (countC F T) 12 0 3253))))]
  refine J_lsn C0 [(1, .long (mix2 (placeC F) 10 (hn * 3) 0 (mix2 (kindC F) 7 3 0 (mixF (F 1) 3 0 (mixF (countC F T) 12 0 3253))))), (0, .ref (b 0))] dX4_digest_21 (kk := ?_)
  refine J_aln C0 1 dX4_digest_22 (kk := ?_)
  refine J_lln C0 0 dX4_digest_23 (kk := ?_)
  refine J_callVd C0 (mX4_mixLetters l K b nA aA d e F Ga D S T (n := n) hm h40 (mix2 (placeC F) 10 (hn * 3) 0 (mix2 (kindC F) 7 3 0 (mixF (F 1) 3 0 (mixF (countC F T) 12 0 3253))))) [] (corkW K b nA aA d e F Ga D S T) gX4_digest_X4_mixLetters dX4_digest_24 1 0 (kk := ?_)
  show J G _ _ _ _ _ [.long (mix2 (letC F n) 5 10 0 (mix2 (placeC F) 10 (hn * 3) 0 (mix2 (kindC F) 7 3 0 (mixF (F 1) 3 0 (mixF (countC F T) 12 0 3253)))))]
  refine J_lsn C0 [(1, .long (mix2 (letC F n) 5 10 0 (mix2 (placeC F) 10 (hn * 3) 0 (mix2 (kindC F) 7 3 0 (mixF (F 1) 3 0 (mixF (countC F T) 12 0 3253)))))), (0, .ref (b 0))] dX4_digest_27 (kk := ?_)
  refine J_aln C0 1 dX4_digest_28 (kk := ?_)
  refine J_lln C0 0 dX4_digest_29 (kk := ?_)
  refine J_callVd C0 (mX4_mixForecasts l K b nA aA d e F Ga D S T hSh (hn := hn) eh h4 (mix2 (letC F n) 5 10 0 (mix2 (placeC F) 10 (hn * 3) 0 (mix2 (kindC F) 7 3 0 (mixF (F 1) 3 0 (mixF (countC F T) 12 0 3253)))))) [] (corkW K b nA aA d e F ((stillR 201 0 F).2) D S T) gX4_digest_X4_mixForecasts dX4_digest_30 1 0 (kk := ?_)
  show J G _ _ _ _ _ [.long (foreL F hn (mix2 (letC F n) 5 10 0 (mix2 (placeC F) 10 (hn * 3) 0 (mix2 (kindC F) 7 3 0 (mixF (F 1) 3 0 (mixF (countC F T) 12 0 3253))))))]
  refine J_lsn C0 [(1, .long (foreL F hn (mix2 (letC F n) 5 10 0 (mix2 (placeC F) 10 (hn * 3) 0 (mix2 (kindC F) 7 3 0 (mixF (F 1) 3 0 (mixF (countC F T) 12 0 3253))))))), (0, .ref (b 0))] dX4_digest_33 (kk := ?_)
  refine J_lln C0 0 dX4_digest_34 (kk := ?_)
  refine J_aln C0 1 dX4_digest_35 (kk := ?_)
  refine J_callVd C0 (mX4_arrivedShare l K b nA aA d e F ((stillR 201 0 F).2) D S T ha9 hb9 hab h31) [] (corkW K b nA aA d e F ((stillR 201 0 F).2) D S T) gX4_digest_X4_arrivedShare dX4_digest_36 0 0 (kk := ?_)
  show J G _ _ _ _ _ [.double (shareN a9 b9), .long (foreL F hn (mix2 (letC F n) 5 10 0 (mix2 (placeC F) 10 (hn * 3) 0 (mix2 (kindC F) 7 3 0 (mixF (F 1) 3 0 (mixF (countC F T) 12 0 3253))))))]
  refine J_callSd C0 (mX4_shareBits l K (a := a9) (b := b9) hab h31) [mainW K b (nA 0) (aA 0) (fun i => some (d i 0)) (fun i => some (e i 0)) T, celW K nA F, celW K aA ((stillR 201 0 F).2), celW K (d 0) (D 0), celW K (d 1) (D 1), celW K (e 0) (S 0), celW K (e 1) (S 1), celW K (e 2) (S 2), celW K (e 3) (S 3), celW K (e 4) (S 4), celW K (e 5) (S 5)] (corkW K b nA aA d e F ((stillR 201 0 F).2) D S T) gX4_digest_X4_shareBits dX4_digest_39 1 (kk := ?_)
  show J G _ _ _ _ _ [.long (Int64.ofNat (shareN a9 b9).toNat), .long (foreL F hn (mix2 (letC F n) 5 10 0 (mix2 (placeC F) 10 (hn * 3) 0 (mix2 (kindC F) 7 3 0 (mixF (F 1) 3 0 (mixF (countC F T) 12 0 3253))))))]
  refine J_callSd C0 (mX4_mix l K (foreL F hn (mix2 (letC F n) 5 10 0 (mix2 (placeC F) 10 (hn * 3) 0 (mix2 (kindC F) 7 3 0 (mixF (F 1) 3 0 (mixF (countC F T) 12 0 3253)))))) (Int64.ofNat (shareN a9 b9).toNat)) [mainW K b (nA 0) (aA 0) (fun i => some (d i 0)) (fun i => some (e i 0)) T, celW K nA F, celW K aA ((stillR 201 0 F).2), celW K (d 0) (D 0), celW K (d 1) (D 1), celW K (e 0) (S 0), celW K (e 1) (S 1), celW K (e 2) (S 2), celW K (e 3) (S 3), celW K (e 4) (S 4), celW K (e 5) (S 5)] (corkW K b nA aA d e F ((stillR 201 0 F).2) D S T) gX4_digest_X4_mix dX4_digest_42 2 (kk := ?_)
  show J G _ _ _ _ _ [.long (mixL (foreL F hn (mix2 (letC F n) 5 10 0 (mix2 (placeC F) 10 (hn * 3) 0 (mix2 (kindC F) 7 3 0 (mixF (F 1) 3 0 (mixF (countC F T) 12 0 3253)))))) (Int64.ofNat (shareN a9 b9).toNat))]
  refine J_lsn C0 [(1, .long (mixL (foreL F hn (mix2 (letC F n) 5 10 0 (mix2 (placeC F) 10 (hn * 3) 0 (mix2 (kindC F) 7 3 0 (mixF (F 1) 3 0 (mixF (countC F T) 12 0 3253)))))) (Int64.ofNat (shareN a9 b9).toNat))), (0, .ref (b 0))] dX4_digest_45 (kk := ?_)
  refine J_aln C0 1 dX4_digest_46 (kk := ?_)
  refine J_lln C0 0 dX4_digest_47 (kk := ?_)
  refine J_callVd C0 (mX4_mixSlots l K b nA aA d e F ((stillR 201 0 F).2) D S T (mixL (foreL F hn (mix2 (letC F n) 5 10 0 (mix2 (placeC F) 10 (hn * 3) 0 (mix2 (kindC F) 7 3 0 (mixF (F 1) 3 0 (mixF (countC F T) 12 0 3253)))))) (Int64.ofNat (shareN a9 b9).toNat))) [] (corkW K b nA aA d e F ((stillR 201 0 F).2) D S T) gX4_digest_X4_mixSlots dX4_digest_48 1 0 (kk := ?_)
  show J G _ _ _ _ _ [.long (mixL (mixL (mixL (foreL F hn (mix2 (letC F n) 5 10 0 (mix2 (placeC F) 10 (hn * 3) 0 (mix2 (kindC F) 7 3 0 (mixF (F 1) 3 0 (mixF (countC F T) 12 0 3253)))))) (Int64.ofNat (shareN a9 b9).toNat)) (slotL (T 1 0))) (slotL (T 1 1)))]
  refine J_lsn C0 [(1, .long (mixL (mixL (mixL (foreL F hn (mix2 (letC F n) 5 10 0 (mix2 (placeC F) 10 (hn * 3) 0 (mix2 (kindC F) 7 3 0 (mixF (F 1) 3 0 (mixF (countC F T) 12 0 3253)))))) (Int64.ofNat (shareN a9 b9).toNat)) (slotL (T 1 0))) (slotL (T 1 1)))), (0, .ref (b 0))] dX4_digest_51 (kk := ?_)
  refine J_aln C0 1 dX4_digest_52 (kk := ?_)
  refine J_lln C0 0 dX4_digest_53 (kk := ?_)
  refine J_callVd C0 (mX4_mixText l K b nA aA d e F ((stillR 201 0 F).2) D S T (n := nt) ht h60 (mixL (mixL (mixL (foreL F hn (mix2 (letC F n) 5 10 0 (mix2 (placeC F) 10 (hn * 3) 0 (mix2 (kindC F) 7 3 0 (mixF (F 1) 3 0 (mixF (countC F T) 12 0 3253)))))) (Int64.ofNat (shareN a9 b9).toNat)) (slotL (T 1 0))) (slotL (T 1 1)))) [] (corkW K b nA aA d e F ((stillR 201 0 F).2) D S T) gX4_digest_X4_mixText dX4_digest_54 1 0 (kk := ?_)
  show J G _ _ _ _ _ [.long (mixF (T 2) nt 0 (mixL (mixL (mixL (mixL (foreL F hn (mix2 (letC F n) 5 10 0 (mix2 (placeC F) 10 (hn * 3) 0 (mix2 (kindC F) 7 3 0 (mixF (F 1) 3 0 (mixF (countC F T) 12 0 3253)))))) (Int64.ofNat (shareN a9 b9).toNat)) (slotL (T 1 0))) (slotL (T 1 1))) (nI nt).toInt64))]
  exact J_lret C0 hF dX4_digest_57 ⟨rfl, rfl⟩

