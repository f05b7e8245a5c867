def neC (F : FF) : Nat → Nat → Int32 → Int32 → Int32
  | 0, _, f, _ => f
  | k + 1, h, f, m => if needC F h ≤ m then neC F k (h + 1) f m else neC F k (h + 1) (nI h) (needC F h)
abbrev rmX4_neediest : Room := { frames := 2, cells := 0, slots := 0, locals := 45 }
set_option maxHeartbeats 4000000 in
set_option maxRecDepth 100000 in
theorem mX4_neediest (l : Launch) (K : KT) (b nA aA : Nat → Nat) (d e : Nat → Nat → Nat) (F Ga : FF) (D S : Nat → FF) (T : FF) {hn : Nat} (eh : F 0 1 = nI hn) (h4 : hn ≤ 4) : Ct l K yX4_neediest wsX4_neediest rmX4_neediest [.ref (b 0)] (corkW K b nA aA d e F Ga D S T) (some (.int (neC F hn 0 (-1) (nI 0)))) (corkW K b nA aA d e F Ga D S T) := by
  refine CtP_of (cc := cX4_neediest) (nL := 5) (rt := some .int) (own := RX4) (lv0 := [(0, .ref (b 0))]) (by decide) rfl (Nat.le_of_ble_eq_true rfl) rfl rfl ?_
  intro G C0 hF _
  have f12 : Cond.fieldLink RX4 12 "CorkPermits" "now" "LCorkPermits$Cellar;" ∈ wsX4_neediest := by decide +kernel
  have iX4 : ∀ w ∈ u_ws RX4 TX4 6, w ∈ wsX4_neediest := by decide +kernel
  have f41 : Cond.fieldLink RX4 41 "CorkPermits$Cellar" "houses" "I" ∈ wsX4_neediest := by decide +kernel
  have iX0 : ∀ w ∈ u_ws RX0 TX0 14, w ∈ wsX4_neediest := by decide +kernel
  have lp : ∀ (k h : Nat) (f m : Int32), h + k = hn → neC F k h f m = neC F hn 0 (-1) (nI 0) → J G (corkW K b nA aA d e F Ga D S T) [(3, .int (nI h)), (2, .int m), (1, .int f), (0, .ref (b 0))] 0 0 6 [] := by
    generalize hTF : neC F hn 0 (-1) (nI 0) = TF at hF ⊢
    clear hTF
    intro k
    induction k with
    | zero =>
      intro h f m hk hT
      refine J_iln C0 0 dX4_neediest_6 (kk := ?_)
      refine J_aln C0 3 dX4_neediest_7 (kk := ?_)
      refine J_get C0 iX4 0 0 0 f12 dX4_neediest_8 (kk := ?_)
      refine J_get C0 iX0 1 0 1 f41 dX4_neediest_11 (v := .int (nI hn)) (hv := congrArg (fun z => some (Value.int z)) eh) (kk := ?_)
      refine J_icmpgeN C0 49 (by omega) (by omega) dX4_neediest_14 (kt := fun c1 => ?_) (kf := fun c1 => ?_)
      · refine J_iln C0 2 dX4_neediest_49 (kk := ?_)
        exact J_iret C0 hF dX4_neediest_50 ⟨congrArg (fun z => some (Value.int z)) hT, rfl⟩
      · exfalso; omega
    | succ k ih =>
      intro h f m hk hT
      refine J_iln C0 0 dX4_neediest_6 (kk := ?_)
      refine J_aln C0 3 dX4_neediest_7 (kk := ?_)
      refine J_get C0 iX4 0 0 0 f12 dX4_neediest_8 (kk := ?_)
      refine J_get C0 iX0 1 0 1 f41 dX4_neediest_11 (v := .int (nI hn)) (hv := congrArg (fun z => some (Value.int z)) eh) (kk := ?_)
      refine J_icmpgeN C0 49 (by omega) (by omega) dX4_neediest_14 (kt := fun c1 => ?_) (kf := fun c1 => ?_)
      · exfalso; omega
      · refine J_iln C0 0 dX4_neediest_17 (kk := ?_)
        refine J_ic C0 4 dX4_neediest_18 (kk := ?_)
        refine J_icmpgeN C0 49 (by omega) (by omega) dX4_neediest_19 (kt := fun c2 => ?_) (kf := fun c2 => ?_)
        · exfalso; omega
        · refine J_aln C0 3 dX4_neediest_22 (kk := ?_)
          refine J_get C0 iX4 0 0 0 f12 dX4_neediest_23 (kk := ?_)
          refine J_iln C0 0 dX4_neediest_26 (kk := ?_)
          refine J_perm (permI [0, 2, 3, 4, 5, 6, 7, 8, 9, 10, 1] 11 rfl (by decide +kernel) rfl : List.Perm _ ([mainW K b (nA 0) (aA 0) (fun i => some (d i 0)) (fun i => some (e i 0)) T, celW K aA Ga, celW K (d 0) (D 0), celW K (d 1) (D 1), celW K (e 0) (S 0), celW K (e 1) (S 1), celW K (e 2) (S 2), celW K (e 3) (S 3), celW K (e 4) (S 4), celW K (e 5) (S 5), celW K nA F])) ?_
          refine J_callVd C0 (mX0_needOf l K nA F (h := h) (by omega)) [mainW K b (nA 0) (aA 0) (fun i => some (d i 0)) (fun i => some (e i 0)) T, celW K aA Ga, celW K (d 0) (D 0), celW K (d 1) (D 1), celW K (e 0) (S 0), celW K (e 1) (S 1), celW K (e 2) (S 2), celW K (e 3) (S 3), celW K (e 4) (S 4), celW K (e 5) (S 5)] [mainW K b (nA 0) (aA 0) (fun i => some (d i 0)) (fun i => some (e i 0)) T, celW K aA Ga, celW K (d 0) (D 0), celW K (d 1) (D 1), celW K (e 0) (S 0), celW K (e 1) (S 1), celW K (e 2) (S 2), celW K (e 3) (S 3), celW K (e 4) (S 4), celW K (e 5) (S 5), celW K nA F] gX4_neediest_X0_needOf dX4_neediest_27 1 0 (kk := ?_)
          refine J_perm (permI [0, 10, 1, 2, 3, 4, 5, 6, 7, 8, 9] 11 rfl (by decide +kernel) rfl : List.Perm _ (corkW K b nA aA d e F Ga D S T)) ?_
          show J G _ _ _ _ _ [.int (needC F h)]
          refine J_is C0 [(4, .int (needC F h)), (3, .int (nI h)), (2, .int m), (1, .int f), (0, .ref (b 0))] dX4_neediest_30 (kk := ?_)
          refine J_il C0 0 dX4_neediest_32 (kk := ?_)
          refine J_iln C0 2 dX4_neediest_34 (kk := ?_)
          refine J_icmple C0 43 dX4_neediest_35 (kt := fun c3 => ?_) (kf := fun c3 => ?_)
          · refine J_iincN C0 1 [(3, .int (nI (h + 1))), (4, .int (needC F h)), (2, .int m), (1, .int f), (0, .ref (b 0))] dX4_neediest_43 (kk := ?_)
            refine J_goto C0 6 dX4_neediest_46 (kk := ?_)
            exact J_lv [0, 2, 3, 4] rfl (ih (h + 1) f m (by omega) (by rw [← hT]; show _ = if needC F h ≤ m then _ else _; rw [if_pos c3]))
          · refine J_il C0 0 dX4_neediest_38 (kk := ?_)
            refine J_isn C0 [(2, .int (needC F h)), (4, .int (needC F h)), (3, .int (nI h)), (1, .int f), (0, .ref (b 0))] dX4_neediest_40 (kk := ?_)
            refine J_iln C0 2 dX4_neediest_41 (kk := ?_)
            refine J_isn C0 [(1, .int (nI h)), (2, .int (needC F h)), (4, .int (needC F h)), (3, .int (nI h)), (0, .ref (b 0))] dX4_neediest_42 (kk := ?_)
            refine J_iincN C0 3 [(3, .int (nI (h + 1))), (1, .int (nI h)), (2, .int (needC F h)), (4, .int (needC F h)), (0, .ref (b 0))] dX4_neediest_43 (kk := ?_)
            refine J_goto C0 6 dX4_neediest_46 (kk := ?_)
            exact J_lv [0, 2, 1, 4] rfl (ih (h + 1) (nI h) (needC F h) (by omega) (by rw [← hT]; show _ = if needC F h ≤ m then _ else _; rw [if_neg c3]))
  refine J_icm1 C0 dX4_neediest_0 ?_
  refine J_isn C0 [(1, .int (-1)), (0, .ref (b 0))] dX4_neediest_1 (kk := ?_)
  refine J_ic C0 0 dX4_neediest_2 (kk := ?_)
  refine J_isn C0 [(2, .int (nI 0)), (1, .int (-1)), (0, .ref (b 0))] dX4_neediest_3 (kk := ?_)
  refine J_ic C0 0 dX4_neediest_4 (kk := ?_)
  refine J_isn C0 [(3, .int (nI 0)), (2, .int (nI 0)), (1, .int (-1)), (0, .ref (b 0))] dX4_neediest_5 (kk := ?_)
  exact J_lv [0, 1, 2, 3] rfl (lp hn 0 (-1) (nI 0) (by omega) rfl)

abbrev rmX4_passInText : Room := { frames := 5, cells := 0, slots := 0, locals := 119 }
set_option maxHeartbeats 4000000 in
set_option maxRecDepth 100000 in
theorem mX4_passInText_ok (l : Launch) (K : KT) (b nA aA : Nat → Nat) (d e : Nat → Nat → Nat) (F Ga : FF) (D S : Nat → FF) (T : FF) (hSh : Sh F) {t : Nat} (ht1 : 1 ≤ t) (ht : t ≤ 60) (hc : F 0 0 + nI t ≤ nI 9999) : Ct l K yX4_passInText wsX4_passInText rmX4_passInText [.ref (b 0), .int (nI t)] (corkW K b nA aA d e F Ga D S T) (some (.int (nI 1))) (corkW K b nA aA d e (ticksC t F) Ga D S T) := by
  refine CtP_of (cc := cX4_passInText) (nL := 2) (rt := some .boolean) (own := RX4) (lv0 := [(0, .ref (b 0)), (1, .int (nI t))]) (by decide) rfl (Nat.le_of_ble_eq_true rfl) rfl rfl ?_
  intro G C0 hF _
  have f12 : Cond.fieldLink RX4 12 "CorkPermits" "now" "LCorkPermits$Cellar;" ∈ wsX4_passInText := by decide +kernel
  have iX4 : ∀ w ∈ u_ws RX4 TX4 6, w ∈ wsX4_passInText := by decide +kernel
  have f116 : Cond.fieldLink RX4 116 "CorkPermits$Cellar" "time" "I" ∈ wsX4_passInText := by decide +kernel
  have iX0 : ∀ w ∈ u_ws RX0 TX0 14, w ∈ wsX4_passInText := by decide +kernel
  refine J_iln C0 1 dX4_passInText_0 (kk := ?_)
  refine J_ic C0 1 dX4_passInText_1 (kk := ?_)
  refine J_icmpltN C0 20 (by omega) (by omega) dX4_passInText_2 (kt := fun c1 => ?_) (kf := fun c1 => ?_)
  · exfalso; omega
  · refine J_aln C0 0 dX4_passInText_5 (kk := ?_)
    refine J_get C0 iX4 0 0 0 f12 dX4_passInText_6 (kk := ?_)
    refine J_get C0 iX0 1 0 0 f116 dX4_passInText_9 (kk := ?_)
    refine J_iln C0 1 dX4_passInText_12 (kk := ?_)
    refine J_iadd C0 dX4_passInText_13 ?_
    refine J_si C0 9999 dX4_passInText_14 (kk := ?_)
    refine J_icmple C0 22 dX4_passInText_17 (kt := fun c2 => ?_) (kf := fun c2 => ?_)
    · refine J_aln C0 0 dX4_passInText_22 (kk := ?_)
      refine J_get C0 iX4 0 0 0 f12 dX4_passInText_23 (kk := ?_)
      refine J_iln C0 1 dX4_passInText_26 (kk := ?_)
      refine J_perm (permI [0, 2, 3, 4, 5, 6, 7, 8, 9, 10, 1] 11 rfl (by decide +kernel) rfl : List.Perm _ ([mainW K b (nA 0) (aA 0) (fun i => some (d i 0)) (fun i => some (e i 0)) T, celW K aA Ga, celW K (d 0) (D 0), celW K (d 1) (D 1), celW K (e 0) (S 0), celW K (e 1) (S 1), celW K (e 2) (S 2), celW K (e 3) (S 3), celW K (e 4) (S 4), celW K (e 5) (S 5), celW K nA F])) ?_
      refine J_callVd C0 (mX0_letGoBy l K nA (F := F) hSh (t := t) (by omega)) [mainW K b (nA 0) (aA 0) (fun i => some (d i 0)) (fun i => some (e i 0)) T, celW K aA Ga, celW K (d 0) (D 0), celW K (d 1) (D 1), celW K (e 0) (S 0), celW K (e 1) (S 1), celW K (e 2) (S 2), celW K (e 3) (S 3), celW K (e 4) (S 4), celW K (e 5) (S 5)] [mainW K b (nA 0) (aA 0) (fun i => some (d i 0)) (fun i => some (e i 0)) T, celW K aA Ga, celW K (d 0) (D 0), celW K (d 1) (D 1), celW K (e 0) (S 0), celW K (e 1) (S 1), celW K (e 2) (S 2), celW K (e 3) (S 3), celW K (e 4) (S 4), celW K (e 5) (S 5), celW K nA (ticksC t F)] gX4_passInText_X0_letGoBy dX4_passInText_27 1 0 (kk := ?_)
      refine J_perm (permI [0, 10, 1, 2, 3, 4, 5, 6, 7, 8, 9] 11 rfl (by decide +kernel) rfl : List.Perm _ (corkW K b nA aA d e (ticksC t F) Ga D S T)) ?_
      show J G _ _ _ _ _ []
      refine J_ic C0 1 dX4_passInText_30 (kk := ?_)
      exact J_zret C0 hF dX4_passInText_31 (by decide) ⟨rfl, rfl⟩
    · exact absurd hc c2

set_option maxHeartbeats 4000000 in
set_option maxRecDepth 100000 in
theorem mX4_passInText_low (l : Launch) (K : KT) (b nA aA : Nat → Nat) (d e : Nat → Nat → Nat) (F Ga : FF) (D S : Nat → FF) (T : FF) {x : Int32} (hc : x < nI 1) : Ct l K yX4_passInText wsX4_passInText rmX4_passInText [.ref (b 0), .int x] (corkW K b nA aA d e F Ga D S T) (some (.int (nI 0))) (corkW K b nA aA d e F Ga D S T) := by
  refine CtP_of (cc := cX4_passInText) (nL := 2) (rt := some .boolean) (own := RX4) (lv0 := [(0, .ref (b 0)), (1, .int x)]) (by decide) rfl (Nat.le_of_ble_eq_true rfl) rfl rfl ?_
  intro G C0 hF _
  refine J_iln C0 1 dX4_passInText_0 (kk := ?_)
  refine J_ic C0 1 dX4_passInText_1 (kk := ?_)
  refine J_icmplt C0 20 dX4_passInText_2 (kt := fun c1 => ?_) (kf := fun c1 => ?_)
  · refine J_ic C0 0 dX4_passInText_20 (kk := ?_)
    exact J_zret C0 hF dX4_passInText_21 (by decide) ⟨rfl, rfl⟩
  · exact absurd hc c1

set_option maxHeartbeats 4000000 in
set_option maxRecDepth 100000 in
theorem mX4_passInText_late (l : Launch) (K : KT) (b nA aA : Nat → Nat) (d e : Nat → Nat → Nat) (F Ga : FF) (D S : Nat → FF) (T : FF) {x : Int32} (hx : ¬ x < nI 1) (hc : ¬ F 0 0 + x ≤ nI 9999) : Ct l K yX4_passInText wsX4_passInText rmX4_passInText [.ref (b 0), .int x] (corkW K b nA aA d e F Ga D S T) (some (.int (nI 0))) (corkW K b nA aA d e F Ga D S T) := by
  refine CtP_of (cc := cX4_passInText) (nL := 2) (rt := some .boolean) (own := RX4) (lv0 := [(0, .ref (b 0)), (1, .int x)]) (by decide) rfl (Nat.le_of_ble_eq_true rfl) rfl rfl ?_
  intro G C0 hF _
  have f12 : Cond.fieldLink RX4 12 "CorkPermits" "now" "LCorkPermits$Cellar;" ∈ wsX4_passInText := by decide +kernel
  have iX4 : ∀ w ∈ u_ws RX4 TX4 6, w ∈ wsX4_passInText := by decide +kernel
  have f116 : Cond.fieldLink RX4 116 "CorkPermits$Cellar" "time" "I" ∈ wsX4_passInText := by decide +kernel
  have iX0 : ∀ w ∈ u_ws RX0 TX0 14, w ∈ wsX4_passInText := by decide +kernel
  refine J_iln C0 1 dX4_passInText_0 (kk := ?_)
  refine J_ic C0 1 dX4_passInText_1 (kk := ?_)
  refine J_icmplt C0 20 dX4_passInText_2 (kt := fun c1 => ?_) (kf := fun c1 => ?_)
  · exact absurd c1 hx
  · refine J_aln C0 0 dX4_passInText_5 (kk := ?_)
    refine J_get C0 iX4 0 0 0 f12 dX4_passInText_6 (kk := ?_)
    refine J_get C0 iX0 1 0 0 f116 dX4_passInText_9 (kk := ?_)
    refine J_iln C0 1 dX4_passInText_12 (kk := ?_)
    refine J_iadd C0 dX4_passInText_13 ?_
    refine J_si C0 9999 dX4_passInText_14 (kk := ?_)
    refine J_icmple C0 22 dX4_passInText_17 (kt := fun c2 => ?_) (kf := fun c2 => ?_)
    · exact absurd c2 hc
    · refine J_ic C0 0 dX4_passInText_20 (kk := ?_)
      exact J_zret C0 hF dX4_passInText_21 (by decide) ⟨rfl, rfl⟩

abbrev rmX4_drinkInText : Room := { frames := 1, cells := 0, slots := 0, locals := 21 }
set_option maxHeartbeats 4000000 in
set_option maxRecDepth 100000 in
theorem mX4_drinkInText_ok (l : Launch) (K : KT) (b nA aA : Nat → Nat) (d e : Nat → Nat → Nat) (F Ga : FF) (D S : Nat → FF) (T : FF) {c : Nat} (hc3 : c < 3) (hc : 0 < F 3 c) : Ct l K yX4_drinkInText wsX4_drinkInText rmX4_drinkInText [.ref (b 0), .int (nI c)] (corkW K b nA aA d e F Ga D S T) (some (.int (nI 1))) (corkW K b nA aA d e (drinkS F c) Ga D S T) := by
  refine CtP_of (cc := cX4_drinkInText) (nL := 2) (rt := some .boolean) (own := RX4) (lv0 := [(0, .ref (b 0)), (1, .int (nI c))]) (by decide) rfl (Nat.le_of_ble_eq_true rfl) rfl rfl ?_
  intro G C0 hF _
  have f12 : Cond.fieldLink RX4 12 "CorkPermits" "now" "LCorkPermits$Cellar;" ∈ wsX4_drinkInText := by decide +kernel
  have iX4 : ∀ w ∈ u_ws RX4 TX4 6, w ∈ wsX4_drinkInText := by decide +kernel
  have f59 : Cond.fieldLink RX4 59 "CorkPermits$Cellar" "full" "[I" ∈ wsX4_drinkInText := by decide +kernel
  have iX0 : ∀ w ∈ u_ws RX0 TX0 14, w ∈ wsX4_drinkInText := by decide +kernel
  refine J_iln C0 1 dX4_drinkInText_0 (kk := ?_)
  refine J_ifltN C0 (by omega) dX4_drinkInText_1 21 (kk := ?_)
  refine J_iln C0 1 dX4_drinkInText_4 (kk := ?_)
  refine J_ic C0 3 dX4_drinkInText_5 (kk := ?_)
  refine J_icmpgeN C0 21 (by omega) (by omega) dX4_drinkInText_6 (kt := fun c2 => ?_) (kf := fun c2 => ?_)
  · exfalso; omega
  · refine J_aln C0 0 dX4_drinkInText_9 (kk := ?_)
    refine J_get C0 iX4 0 0 0 f12 dX4_drinkInText_10 (kk := ?_)
    refine J_get C0 iX0 1 0 4 f59 dX4_drinkInText_13 (kk := ?_)
    refine J_iln C0 1 dX4_drinkInText_16 (kk := ?_)
    refine J_iald C0 1 3 3 dX4_drinkInText_17 (by omega) (kk := ?_)
    refine J_ifgt C0 23 dX4_drinkInText_18 (kt := fun c3 => ?_) (kf := fun c3 => ?_)
    · refine J_aln C0 0 dX4_drinkInText_23 (kk := ?_)
      refine J_get C0 iX4 0 0 0 f12 dX4_drinkInText_24 (kk := ?_)
      refine J_iln C0 1 dX4_drinkInText_27 (kk := ?_)
      refine J_perm (permI [0, 2, 3, 4, 5, 6, 7, 8, 9, 10, 1] 11 rfl (by decide +kernel) rfl : List.Perm _ ([mainW K b (nA 0) (aA 0) (fun i => some (d i 0)) (fun i => some (e i 0)) T, celW K aA Ga, celW K (d 0) (D 0), celW K (d 1) (D 1), celW K (e 0) (S 0), celW K (e 1) (S 1), celW K (e 2) (S 2), celW K (e 3) (S 3), celW K (e 4) (S 4), celW K (e 5) (S 5), celW K nA F])) ?_
      refine J_callVd C0 (mX0_emptyBottle l K nA F (k := c) (by omega)) [mainW K b (nA 0) (aA 0) (fun i => some (d i 0)) (fun i => some (e i 0)) T, celW K aA Ga, celW K (d 0) (D 0), celW K (d 1) (D 1), celW K (e 0) (S 0), celW K (e 1) (S 1), celW K (e 2) (S 2), celW K (e 3) (S 3), celW K (e 4) (S 4), celW K (e 5) (S 5)] [mainW K b (nA 0) (aA 0) (fun i => some (d i 0)) (fun i => some (e i 0)) T, celW K aA Ga, celW K (d 0) (D 0), celW K (d 1) (D 1), celW K (e 0) (S 0), celW K (e 1) (S 1), celW K (e 2) (S 2), celW K (e 3) (S 3), celW K (e 4) (S 4), celW K (e 5) (S 5), celW K nA (drinkS F c)] gX4_drinkInText_X0_emptyBottle dX4_drinkInText_28 1 0 (kk := ?_)
      refine J_perm (permI [0, 10, 1, 2, 3, 4, 5, 6, 7, 8, 9] 11 rfl (by decide +kernel) rfl : List.Perm _ (corkW K b nA aA d e (drinkS F c) Ga D S T)) ?_
      show J G _ _ _ _ _ []
      refine J_ic C0 1 dX4_drinkInText_31 (kk := ?_)
      exact J_zret C0 hF dX4_drinkInText_32 (by decide) ⟨rfl, rfl⟩
    · exact absurd hc c3

set_option maxHeartbeats 4000000 in
set_option maxRecDepth 100000 in
theorem mX4_drinkInText_none (l : Launch) (K : KT) (b nA aA : Nat → Nat) (d e : Nat → Nat → Nat) (F Ga : FF) (D S : Nat → FF) (T : FF) {c : Nat} (hc3 : c < 3) (hc : ¬ 0 < F 3 c) : Ct l K yX4_drinkInText wsX4_drinkInText rmX4_drinkInText [.ref (b 0), .int (nI c)] (corkW K b nA aA d e F Ga D S T) (some (.int (nI 0))) (corkW K b nA aA d e F Ga D S T) := by
  refine CtP_of (cc := cX4_drinkInText) (nL := 2) (rt := some .boolean) (own := RX4) (lv0 := [(0, .ref (b 0)), (1, .int (nI c))]) (by decide) rfl (Nat.le_of_ble_eq_true rfl) rfl rfl ?_
  intro G C0 hF _
  have f12 : Cond.fieldLink RX4 12 "CorkPermits" "now" "LCorkPermits$Cellar;" ∈ wsX4_drinkInText := by decide +kernel
  have iX4 : ∀ w ∈ u_ws RX4 TX4 6, w ∈ wsX4_drinkInText := by decide +kernel
  have f59 : Cond.fieldLink RX4 59 "CorkPermits$Cellar" "full" "[I" ∈ wsX4_drinkInText := by decide +kernel
  have iX0 : ∀ w ∈ u_ws RX0 TX0 14, w ∈ wsX4_drinkInText := by decide +kernel
  refine J_iln C0 1 dX4_drinkInText_0 (kk := ?_)
  refine J_ifltN C0 (by omega) dX4_drinkInText_1 21 (kk := ?_)
  refine J_iln C0 1 dX4_drinkInText_4 (kk := ?_)
  refine J_ic C0 3 dX4_drinkInText_5 (kk := ?_)
  refine J_icmpgeN C0 21 (by omega) (by omega) dX4_drinkInText_6 (kt := fun c2 => ?_) (kf := fun c2 => ?_)
  · exfalso; omega
  · refine J_aln C0 0 dX4_drinkInText_9 (kk := ?_)
    refine J_get C0 iX4 0 0 0 f12 dX4_drinkInText_10 (kk := ?_)
    refine J_get C0 iX0 1 0 4 f59 dX4_drinkInText_13 (kk := ?_)
    refine J_iln C0 1 dX4_drinkInText_16 (kk := ?_)
    refine J_iald C0 1 3 3 dX4_drinkInText_17 (by omega) (kk := ?_)
    refine J_ifgt C0 23 dX4_drinkInText_18 (kt := fun c3 => ?_) (kf := fun c3 => ?_)
    · exact absurd c3 hc
    · refine J_ic C0 0 dX4_drinkInText_21 (kk := ?_)
      exact J_zret C0 hF dX4_drinkInText_22 (by decide) ⟨rfl, rfl⟩

set_option maxHeartbeats 4000000 in
set_option maxRecDepth 100000 in
theorem mX4_drinkInText_low (l : Launch) (K : KT) (b nA aA : Nat → Nat) (d e : Nat → Nat → Nat) (F Ga : FF) (D S : Nat → FF) (T : FF) {x : Int32} (hc : x < 0) : Ct l K yX4_drinkInText wsX4_drinkInText rmX4_drinkInText [.ref (b 0), .int x] (corkW K b nA aA d e F Ga D S T) (some (.int (nI 0))) (corkW K b nA aA d e F Ga D S T) := by
  refine CtP_of (cc := cX4_drinkInText) (nL := 2) (rt := some .boolean) (own := RX4) (lv0 := [(0, .ref (b 0)), (1, .int x)]) (by decide) rfl (Nat.le_of_ble_eq_true rfl) rfl rfl ?_
  intro G C0 hF _
  refine J_iln C0 1 dX4_drinkInText_0 (kk := ?_)
  refine J_iflt C0 21 dX4_drinkInText_1 (kt := fun c1 => ?_) (kf := fun c1 => ?_)
  · refine J_ic C0 0 dX4_drinkInText_21 (kk := ?_)
    exact J_zret C0 hF dX4_drinkInText_22 (by decide) ⟨rfl, rfl⟩
  · exact absurd hc c1

set_option maxHeartbeats 4000000 in
set_option maxRecDepth 100000 in
theorem mX4_drinkInText_high (l : Launch) (K : KT) (b nA aA : Nat → Nat) (d e : Nat → Nat → Nat) (F Ga : FF) (D S : Nat → FF) (T : FF) {x : Int32} (hx : ¬ x < 0) (hc : nI 3 ≤ x) : Ct l K yX4_drinkInText wsX4_drinkInText rmX4_drinkInText [.ref (b 0), .int x] (corkW K b nA aA d e F Ga D S T) (some (.int (nI 0))) (corkW K b nA aA d e F Ga D S T) := by
  refine CtP_of (cc := cX4_drinkInText) (nL := 2) (rt := some .boolean) (own := RX4) (lv0 := [(0, .ref (b 0)), (1, .int x)]) (by decide) rfl (Nat.le_of_ble_eq_true rfl) rfl rfl ?_
  intro G C0 hF _
  refine J_iln C0 1 dX4_drinkInText_0 (kk := ?_)
  refine J_iflt C0 21 dX4_drinkInText_1 (kt := fun c1 => ?_) (kf := fun c1 => ?_)
  · exact absurd c1 hx
  · refine J_iln C0 1 dX4_drinkInText_4 (kk := ?_)
    refine J_ic C0 3 dX4_drinkInText_5 (kk := ?_)
    refine J_icmpge C0 21 dX4_drinkInText_6 (kt := fun c2 => ?_) (kf := fun c2 => ?_)
    · refine J_ic C0 0 dX4_drinkInText_21 (kk := ?_)
      exact J_zret C0 hF dX4_drinkInText_22 (by decide) ⟨rfl, rfl⟩
    · exact absurd hc c2

abbrev rmX4_lendInText : Room := { frames := 3, cells := 0, slots := 0, locals := 69 }
set_option maxHeartbeats 4000000 in
set_option maxRecDepth 100000 in
theorem mX4_lendInText_ok (l : Launch) (K : KT) (b nA aA : Nat → Nat) (d e : Nat → Nat → Nat) (F Ga : FF) (D S : Nat → FF) (T : FF) {p c : Nat} (hp12 : p < 12) (hc3 : c < 3) {m : Nat} (hm : F 0 4 = nI m) (m40 : m ≤ 40) (hc : canLendS F c) : Ct l K yX4_lendInText wsX4_lendInText rmX4_lendInText [.ref (b 0), .int (nI p), .int (nI c)] (corkW K b nA aA d e F Ga D S T) (some (.int (nI 1))) (corkW K b nA aA d e (lendS F m p) Ga D S T) := by
  refine CtP_of (cc := cX4_lendInText) (nL := 3) (rt := some .boolean) (own := RX4) (lv0 := [(0, .ref (b 0)), (1, .int (nI p)), (2, .int (nI c))]) (by decide) rfl (Nat.le_of_ble_eq_true rfl) rfl rfl ?_
  intro G C0 hF _
  have f12 : Cond.fieldLink RX4 12 "CorkPermits" "now" "LCorkPermits$Cellar;" ∈ wsX4_lendInText := by decide +kernel
  have iX4 : ∀ w ∈ u_ws RX4 TX4 6, w ∈ wsX4_lendInText := by decide +kernel
  refine J_aln C0 0 dX4_lendInText_0 (kk := ?_)
  refine J_get C0 iX4 0 0 0 f12 dX4_lendInText_1 (kk := ?_)
  refine J_iln C0 2 dX4_lendInText_4 (kk := ?_)
  refine J_perm (permI [0, 2, 3, 4, 5, 6, 7, 8, 9, 10, 1] 11 rfl (by decide +kernel) rfl : List.Perm _ ([mainW K b (nA 0) (aA 0) (fun i => some (d i 0)) (fun i => some (e i 0)) T, celW K aA Ga, celW K (d 0) (D 0), celW K (d 1) (D 1), celW K (e 0) (S 0), celW K (e 1) (S 1), celW K (e 2) (S 2), celW K (e 3) (S 3), celW K (e 4) (S 4), celW K (e 5) (S 5), celW K nA F])) ?_
  refine J_callVd C0 (mX0_canLend l K nA F (k := c) (by omega)) [mainW K b (nA 0) (aA 0) (fun i => some (d i 0)) (fun i => some (e i 0)) T, celW K aA Ga, celW K (d 0) (D 0), celW K (d 1) (D 1), celW K (e 0) (S 0), celW K (e 1) (S 1), celW K (e 2) (S 2), celW K (e 3) (S 3), celW K (e 4) (S 4), celW K (e 5) (S 5)] [mainW K b (nA 0) (aA 0) (fun i => some (d i 0)) (fun i => some (e i 0)) T, celW K aA Ga, celW K (d 0) (D 0), celW K (d 1) (D 1), celW K (e 0) (S 0), celW K (e 1) (S 1), celW K (e 2) (S 2), celW K (e 3) (S 3), celW K (e 4) (S 4), celW K (e 5) (S 5), celW K nA F] gX4_lendInText_X0_canLend dX4_lendInText_5 1 0 (kk := ?_)
  refine J_perm (permI [0, 10, 1, 2, 3, 4, 5, 6, 7, 8, 9] 11 rfl (by decide +kernel) rfl : List.Perm _ (corkW K b nA aA d e F Ga D S T)) ?_
  show J G _ _ _ _ _ [.int (if canLendS F c then nI 1 else nI 0)]
  refine J_ifneB C0 13 dX4_lendInText_8 (kt := fun c1 => ?_) (kf := fun c1 => ?_)
  · refine J_aln C0 0 dX4_lendInText_13 (kk := ?_)
    refine J_get C0 iX4 0 0 0 f12 dX4_lendInText_14 (kk := ?_)
    refine J_iln C0 1 dX4_lendInText_17 (kk := ?_)
    refine J_perm (permI [0, 2, 3, 4, 5, 6, 7, 8, 9, 10, 1] 11 rfl (by decide +kernel) rfl : List.Perm _ ([mainW K b (nA 0) (aA 0) (fun i => some (d i 0)) (fun i => some (e i 0)) T, celW K aA Ga, celW K (d 0) (D 0), celW K (d 1) (D 1), celW K (e 0) (S 0), celW K (e 1) (S 1), celW K (e 2) (S 2), celW K (e 3) (S 3), celW K (e 4) (S 4), celW K (e 5) (S 5), celW K nA F])) ?_
    refine J_callVd C0 (mX0_lendCork l K nA F (n := m) hm (room_lt hm hc.2 m40) (p := p) (by omega)) [mainW K b (nA 0) (aA 0) (fun i => some (d i 0)) (fun i => some (e i 0)) T, celW K aA Ga, celW K (d 0) (D 0), celW K (d 1) (D 1), celW K (e 0) (S 0), celW K (e 1) (S 1), celW K (e 2) (S 2), celW K (e 3) (S 3), celW K (e 4) (S 4), celW K (e 5) (S 5)] [mainW K b (nA 0) (aA 0) (fun i => some (d i 0)) (fun i => some (e i 0)) T, celW K aA Ga, celW K (d 0) (D 0), celW K (d 1) (D 1), celW K (e 0) (S 0), celW K (e 1) (S 1), celW K (e 2) (S 2), celW K (e 3) (S 3), celW K (e 4) (S 4), celW K (e 5) (S 5), celW K nA (lendS F m p)] gX4_lendInText_X0_lendCork dX4_lendInText_18 1 0 (kk := ?_)
    refine J_perm (permI [0, 10, 1, 2, 3, 4, 5, 6, 7, 8, 9] 11 rfl (by decide +kernel) rfl : List.Perm _ (corkW K b nA aA d e (lendS F m p) Ga D S T)) ?_
    show J G _ _ _ _ _ []
    refine J_ic C0 1 dX4_lendInText_21 (kk := ?_)
    exact J_zret C0 hF dX4_lendInText_22 (by decide) ⟨rfl, rfl⟩
  · exact absurd hc c1

set_option maxHeartbeats 4000000 in
set_option maxRecDepth 100000 in
theorem mX4_lendInText_no (l : Launch) (K : KT) (b nA aA : Nat → Nat) (d e : Nat → Nat → Nat) (F Ga : FF) (D S : Nat → FF) (T : FF) {p c : Nat} (hp12 : p < 12) (hc3 : c < 3) (hc : ¬ canLendS F c) : Ct l K yX4_lendInText wsX4_lendInText rmX4_lendInText [.ref (b 0), .int (nI p), .int (nI c)] (corkW K b nA aA d e F Ga D S T) (some (.int (nI 0))) (corkW K b nA aA d e F Ga D S T) := by
  refine CtP_of (cc := cX4_lendInText) (nL := 3) (rt := some .boolean) (own := RX4) (lv0 := [(0, .ref (b 0)), (1, .int (nI p)), (2, .int (nI c))]) (by decide) rfl (Nat.le_of_ble_eq_true rfl) rfl rfl ?_
  intro G C0 hF _
  have f12 : Cond.fieldLink RX4 12 "CorkPermits" "now" "LCorkPermits$Cellar;" ∈ wsX4_lendInText := by decide +kernel
  have iX4 : ∀ w ∈ u_ws RX4 TX4 6, w ∈ wsX4_lendInText := by decide +kernel
  refine J_aln C0 0 dX4_lendInText_0 (kk := ?_)
  refine J_get C0 iX4 0 0 0 f12 dX4_lendInText_1 (kk := ?_)
  refine J_iln C0 2 dX4_lendInText_4 (kk := ?_)
  refine J_perm (permI [0, 2, 3, 4, 5, 6, 7, 8, 9, 10, 1] 11 rfl (by decide +kernel) rfl : List.Perm _ ([mainW K b (nA 0) (aA 0) (fun i => some (d i 0)) (fun i => some (e i 0)) T, celW K aA Ga, celW K (d 0) (D 0), celW K (d 1) (D 1), celW K (e 0) (S 0), celW K (e 1) (S 1), celW K (e 2) (S 2), celW K (e 3) (S 3), celW K (e 4) (S 4), celW K (e 5) (S 5), celW K nA F])) ?_
  refine J_callVd C0 (mX0_canLend l K nA F (k := c) (by omega)) [mainW K b (nA 0) (aA 0) (fun i => some (d i 0)) (fun i => some (e i 0)) T, celW K aA Ga, celW K (d 0) (D 0), celW K (d 1) (D 1), celW K (e 0) (S 0), celW K (e 1) (S 1), celW K (e 2) (S 2), celW K (e 3) (S 3), celW K (e 4) (S 4), celW K (e 5) (S 5)] [mainW K b (nA 0) (aA 0) (fun i => some (d i 0)) (fun i => some (e i 0)) T, celW K aA Ga, celW K (d 0) (D 0), celW K (d 1) (D 1), celW K (e 0) (S 0), celW K (e 1) (S 1), celW K (e 2) (S 2), celW K (e 3) (S 3), celW K (e 4) (S 4), celW K (e 5) (S 5), celW K nA F] gX4_lendInText_X0_canLend dX4_lendInText_5 1 0 (kk := ?_)
  refine J_perm (permI [0, 10, 1, 2, 3, 4, 5, 6, 7, 8, 9] 11 rfl (by decide +kernel) rfl : List.Perm _ (corkW K b nA aA d e F Ga D S T)) ?_
  show J G _ _ _ _ _ [.int (if canLendS F c then nI 1 else nI 0)]
  refine J_ifneB C0 13 dX4_lendInText_8 (kt := fun c1 => ?_) (kf := fun c1 => ?_)
  · exact absurd c1 hc
  · refine J_ic C0 0 dX4_lendInText_11 (kk := ?_)
    exact J_zret C0 hF dX4_lendInText_12 (by decide) ⟨rfl, rfl⟩

abbrev rmX4_askInText : Room := { frames := 3, cells := 0, slots := 0, locals := 69 }
set_option maxHeartbeats 4000000 in
set_option maxRecDepth 100000 in
theorem mX4_askInText_ok (l : Launch) (K : KT) (b nA aA : Nat → Nat) (d e : Nat → Nat → Nat) (F Ga : FF) (D S : Nat → FF) (T : FF) {p : Nat} (hp12 : p < 12) {m : Nat} (hm : F 0 4 = nI m) (m40 : m ≤ 40) (hc : roomS F) : Ct l K yX4_askInText wsX4_askInText rmX4_askInText [.ref (b 0), .int (nI p)] (corkW K b nA aA d e F Ga D S T) (some (.int (nI 1))) (corkW K b nA aA d e (askS F m p) Ga D S T) := by
  refine CtP_of (cc := cX4_askInText) (nL := 2) (rt := some .boolean) (own := RX4) (lv0 := [(0, .ref (b 0)), (1, .int (nI p))]) (by decide) rfl (Nat.le_of_ble_eq_true rfl) rfl rfl ?_
  intro G C0 hF _
  have f12 : Cond.fieldLink RX4 12 "CorkPermits" "now" "LCorkPermits$Cellar;" ∈ wsX4_askInText := by decide +kernel
  have iX4 : ∀ w ∈ u_ws RX4 TX4 6, w ∈ wsX4_askInText := by decide +kernel
  have f88 : Cond.fieldLink RX4 88 "CorkPermits$Cellar" "post" "LCorkPermits$Post;" ∈ wsX4_askInText := by decide +kernel
  have iX0 : ∀ w ∈ u_ws RX0 TX0 14, w ∈ wsX4_askInText := by decide +kernel
  refine J_aln C0 0 dX4_askInText_0 (kk := ?_)
  refine J_get C0 iX4 0 0 0 f12 dX4_askInText_1 (kk := ?_)
  refine J_get C0 iX0 1 0 13 f88 dX4_askInText_4 (kk := ?_)
  refine J_perm (permI [0, 2, 3, 4, 5, 6, 7, 8, 9, 10, 1] 11 rfl (by decide +kernel) rfl : List.Perm _ ([mainW K b (nA 0) (aA 0) (fun i => some (d i 0)) (fun i => some (e i 0)) T, celW K aA Ga, celW K (d 0) (D 0), celW K (d 1) (D 1), celW K (e 0) (S 0), celW K (e 1) (S 1), celW K (e 2) (S 2), celW K (e 3) (S 3), celW K (e 4) (S 4), celW K (e 5) (S 5), celW K nA F])) ?_
  refine J_callVd C0 (mX3_hasRoom l K nA F) [mainW K b (nA 0) (aA 0) (fun i => some (d i 0)) (fun i => some (e i 0)) T, celW K aA Ga, celW K (d 0) (D 0), celW K (d 1) (D 1), celW K (e 0) (S 0), celW K (e 1) (S 1), celW K (e 2) (S 2), celW K (e 3) (S 3), celW K (e 4) (S 4), celW K (e 5) (S 5)] [mainW K b (nA 0) (aA 0) (fun i => some (d i 0)) (fun i => some (e i 0)) T, celW K aA Ga, celW K (d 0) (D 0), celW K (d 1) (D 1), celW K (e 0) (S 0), celW K (e 1) (S 1), celW K (e 2) (S 2), celW K (e 3) (S 3), celW K (e 4) (S 4), celW K (e 5) (S 5), celW K nA F] gX4_askInText_X3_hasRoom dX4_askInText_7 0 12 (kk := ?_)
  refine J_perm (permI [0, 10, 1, 2, 3, 4, 5, 6, 7, 8, 9] 11 rfl (by decide +kernel) rfl : List.Perm _ (corkW K b nA aA d e F Ga D S T)) ?_
  show J G _ _ _ _ _ [.int (if roomS F then nI 1 else nI 0)]
  refine J_ifneB C0 15 dX4_askInText_10 (kt := fun c1 => ?_) (kf := fun c1 => ?_)
  · refine J_aln C0 0 dX4_askInText_15 (kk := ?_)
    refine J_get C0 iX4 0 0 0 f12 dX4_askInText_16 (kk := ?_)
    refine J_iln C0 1 dX4_askInText_19 (kk := ?_)
    refine J_perm (permI [0, 2, 3, 4, 5, 6, 7, 8, 9, 10, 1] 11 rfl (by decide +kernel) rfl : List.Perm _ ([mainW K b (nA 0) (aA 0) (fun i => some (d i 0)) (fun i => some (e i 0)) T, celW K aA Ga, celW K (d 0) (D 0), celW K (d 1) (D 1), celW K (e 0) (S 0), celW K (e 1) (S 1), celW K (e 2) (S 2), celW K (e 3) (S 3), celW K (e 4) (S 4), celW K (e 5) (S 5), celW K nA F])) ?_
    refine J_callVd C0 (mX0_sendQuestion l K nA F (n := m) hm (room_lt hm hc m40) (p := p) (by omega)) [mainW K b (nA 0) (aA 0) (fun i => some (d i 0)) (fun i => some (e i 0)) T, celW K aA Ga, celW K (d 0) (D 0), celW K (d 1) (D 1), celW K (e 0) (S 0), celW K (e 1) (S 1), celW K (e 2) (S 2), celW K (e 3) (S 3), celW K (e 4) (S 4), celW K (e 5) (S 5)] [mainW K b (nA 0) (aA 0) (fun i => some (d i 0)) (fun i => some (e i 0)) T, celW K aA Ga, celW K (d 0) (D 0), celW K (d 1) (D 1), celW K (e 0) (S 0), celW K (e 1) (S 1), celW K (e 2) (S 2), celW K (e 3) (S 3), celW K (e 4) (S 4), celW K (e 5) (S 5), celW K nA (askS F m p)] gX4_askInText_X0_sendQuestion dX4_askInText_20 1 0 (kk := ?_)
    refine J_perm (permI [0, 10, 1, 2, 3, 4, 5, 6, 7, 8, 9] 11 rfl (by decide +kernel) rfl : List.Perm _ (corkW K b nA aA d e (askS F m p) Ga D S T)) ?_
    show J G _ _ _ _ _ []
    refine J_ic C0 1 dX4_askInText_23 (kk := ?_)
    exact J_zret C0 hF dX4_askInText_24 (by decide) ⟨rfl, rfl⟩
  · exact absurd hc c1

set_option maxHeartbeats 4000000 in
set_option maxRecDepth 100000 in
theorem mX4_askInText_no (l : Launch) (K : KT) (b nA aA : Nat → Nat) (d e : Nat → Nat → Nat) (F Ga : FF) (D S : Nat → FF) (T : FF) {p : Nat} (hp12 : p < 12) (hc : ¬ roomS F) : Ct l K yX4_askInText wsX4_askInText rmX4_askInText [.ref (b 0), .int (nI p)] (corkW K b nA aA d e F Ga D S T) (some (.int (nI 0))) (corkW K b nA aA d e F Ga D S T) := by
  refine CtP_of (cc := cX4_askInText) (nL := 2) (rt := some .boolean) (own := RX4) (lv0 := [(0, .ref (b 0)), (1, .int (nI p))]) (by decide) rfl (Nat.le_of_ble_eq_true rfl) rfl rfl ?_
  intro G C0 hF _
  have f12 : Cond.fieldLink RX4 12 "CorkPermits" "now" "LCorkPermits$Cellar;" ∈ wsX4_askInText := by decide +kernel
  have iX4 : ∀ w ∈ u_ws RX4 TX4 6, w ∈ wsX4_askInText := by decide +kernel
  have f88 : Cond.fieldLink RX4 88 "CorkPermits$Cellar" "post" "LCorkPermits$Post;" ∈ wsX4_askInText := by decide +kernel
  have iX0 : ∀ w ∈ u_ws RX0 TX0 14, w ∈ wsX4_askInText := by decide +kernel
  refine J_aln C0 0 dX4_askInText_0 (kk := ?_)
  refine J_get C0 iX4 0 0 0 f12 dX4_askInText_1 (kk := ?_)
  refine J_get C0 iX0 1 0 13 f88 dX4_askInText_4 (kk := ?_)
  refine J_perm (permI [0, 2, 3, 4, 5, 6, 7, 8, 9, 10, 1] 11 rfl (by decide +kernel) rfl : List.Perm _ ([mainW K b (nA 0) (aA 0) (fun i => some (d i 0)) (fun i => some (e i 0)) T, celW K aA Ga, celW K (d 0) (D 0), celW K (d 1) (D 1), celW K (e 0) (S 0), celW K (e 1) (S 1), celW K (e 2) (S 2), celW K (e 3) (S 3), celW K (e 4) (S 4), celW K (e 5) (S 5), celW K nA F])) ?_
  refine J_callVd C0 (mX3_hasRoom l K nA F) [mainW K b (nA 0) (aA 0) (fun i => some (d i 0)) (fun i => some (e i 0)) T, celW K aA Ga, celW K (d 0) (D 0), celW K (d 1) (D 1), celW K (e 0) (S 0), celW K (e 1) (S 1), celW K (e 2) (S 2), celW K (e 3) (S 3), celW K (e 4) (S 4), celW K (e 5) (S 5)] [mainW K b (nA 0) (aA 0) (fun i => some (d i 0)) (fun i => some (e i 0)) T, celW K aA Ga, celW K (d 0) (D 0), celW K (d 1) (D 1), celW K (e 0) (S 0), celW K (e 1) (S 1), celW K (e 2) (S 2), celW K (e 3) (S 3), celW K (e 4) (S 4), celW K (e 5) (S 5), celW K nA F] gX4_askInText_X3_hasRoom dX4_askInText_7 0 12 (kk := ?_)
  refine J_perm (permI [0, 10, 1, 2, 3, 4, 5, 6, 7, 8, 9] 11 rfl (by decide +kernel) rfl : List.Perm _ (corkW K b nA aA d e F Ga D S T)) ?_
  show J G _ _ _ _ _ [.int (if roomS F then nI 1 else nI 0)]
  refine J_ifneB C0 15 dX4_askInText_10 (kt := fun c1 => ?_) (kf := fun c1 => ?_)
  · exact absurd c1 hc
  · refine J_ic C0 0 dX4_askInText_13 (kk := ?_)
    exact J_zret C0 hF dX4_askInText_14 (by decide) ⟨rfl, rfl⟩

abbrev rmX4_wantInText : Room := { frames := 1, cells := 0, slots := 0, locals := 21 }
set_option maxHeartbeats 4000000 in
set_option maxRecDepth 100000 in
theorem mX4_wantInText_ok (l : Launch) (K : KT) (b nA aA : Nat → Nat) (d e : Nat → Nat → Nat) (F Ga : FF) (D S : Nat → FF) (T : FF) {p : Nat} (hp12 : p < 12) (hc : ¬ nI 9 ≤ F 11 p) : Ct l K yX4_wantInText wsX4_wantInText rmX4_wantInText [.ref (b 0), .int (nI p)] (corkW K b nA aA d e F Ga D S T) (some (.int (nI 1))) (corkW K b nA aA d e (u2 F 11 p (F 11 p + nI 1)) Ga D S T) := by
  refine CtP_of (cc := cX4_wantInText) (nL := 2) (rt := some .boolean) (own := RX4) (lv0 := [(0, .ref (b 0)), (1, .int (nI p))]) (by decide) rfl (Nat.le_of_ble_eq_true rfl) rfl rfl ?_
  intro G C0 hF _
  have f12 : Cond.fieldLink RX4 12 "CorkPermits" "now" "LCorkPermits$Cellar;" ∈ wsX4_wantInText := by decide +kernel
  have iX4 : ∀ w ∈ u_ws RX4 TX4 6, w ∈ wsX4_wantInText := by decide +kernel
  have f107 : Cond.fieldLink RX4 107 "CorkPermits$Cellar" "waiting" "[I" ∈ wsX4_wantInText := by decide +kernel
  have iX0 : ∀ w ∈ u_ws RX0 TX0 14, w ∈ wsX4_wantInText := by decide +kernel
  refine J_aln C0 0 dX4_wantInText_0 (kk := ?_)
  refine J_get C0 iX4 0 0 0 f12 dX4_wantInText_1 (kk := ?_)
  refine J_iln C0 1 dX4_wantInText_4 (kk := ?_)
  refine J_perm (permI [0, 2, 3, 4, 5, 6, 7, 8, 9, 10, 1] 11 rfl (by decide +kernel) rfl : List.Perm _ ([mainW K b (nA 0) (aA 0) (fun i => some (d i 0)) (fun i => some (e i 0)) T, celW K aA Ga, celW K (d 0) (D 0), celW K (d 1) (D 1), celW K (e 0) (S 0), celW K (e 1) (S 1), celW K (e 2) (S 2), celW K (e 3) (S 3), celW K (e 4) (S 4), celW K (e 5) (S 5), celW K nA F])) ?_
  refine J_callVd C0 (mX0_canWait l K nA F (p := p) (by omega)) [mainW K b (nA 0) (aA 0) (fun i => some (d i 0)) (fun i => some (e i 0)) T, celW K aA Ga, celW K (d 0) (D 0), celW K (d 1) (D 1), celW K (e 0) (S 0), celW K (e 1) (S 1), celW K (e 2) (S 2), celW K (e 3) (S 3), celW K (e 4) (S 4), celW K (e 5) (S 5)] [mainW K b (nA 0) (aA 0) (fun i => some (d i 0)) (fun i => some (e i 0)) T, celW K aA Ga, celW K (d 0) (D 0), celW K (d 1) (D 1), celW K (e 0) (S 0), celW K (e 1) (S 1), celW K (e 2) (S 2), celW K (e 3) (S 3), celW K (e 4) (S 4), celW K (e 5) (S 5), celW K nA F] gX4_wantInText_X0_canWait dX4_wantInText_5 1 0 (kk := ?_)
  refine J_perm (permI [0, 10, 1, 2, 3, 4, 5, 6, 7, 8, 9] 11 rfl (by decide +kernel) rfl : List.Perm _ (corkW K b nA aA d e F Ga D S T)) ?_
  show J G _ _ _ _ _ [.int (if ¬ nI 9 ≤ F 11 p then nI 1 else nI 0)]
  refine J_ifneB C0 13 dX4_wantInText_8 (kt := fun c1 => ?_) (kf := fun c1 => ?_)
  · refine J_aln C0 0 dX4_wantInText_13 (kk := ?_)
    refine J_get C0 iX4 0 0 0 f12 dX4_wantInText_14 (kk := ?_)
    refine J_get C0 iX0 1 0 12 f107 dX4_wantInText_17 (kk := ?_)
    refine J_iln C0 1 dX4_wantInText_20 (kk := ?_)
    refine J_dup2 C0 dX4_wantInText_21 (kk := ?_)
    refine J_iald C0 1 11 12 dX4_wantInText_22 (by omega) (kk := ?_)
    refine J_ic C0 1 dX4_wantInText_23 (kk := ?_)
    refine J_iadd C0 dX4_wantInText_24 ?_
    refine J_iast C0 1 11 12 (corkW K b nA aA d e (u2 F 11 p ((F 11 p) + (nI 1))) Ga D S T) dX4_wantInText_25 (by omega) (kk := ?_)
    refine J_ic C0 1 dX4_wantInText_26 (kk := ?_)
    exact J_zret C0 hF dX4_wantInText_27 (by decide) ⟨rfl, rfl⟩
  · exact absurd hc c1

set_option maxHeartbeats 4000000 in
set_option maxRecDepth 100000 in
theorem mX4_wantInText_no (l : Launch) (K : KT) (b nA aA : Nat → Nat) (d e : Nat → Nat → Nat) (F Ga : FF) (D S : Nat → FF) (T : FF) {p : Nat} (hp12 : p < 12) (hc : ¬ ¬ nI 9 ≤ F 11 p) : Ct l K yX4_wantInText wsX4_wantInText rmX4_wantInText [.ref (b 0), .int (nI p)] (corkW K b nA aA d e F Ga D S T) (some (.int (nI 0))) (corkW K b nA aA d e F Ga D S T) := by
  refine CtP_of (cc := cX4_wantInText) (nL := 2) (rt := some .boolean) (own := RX4) (lv0 := [(0, .ref (b 0)), (1, .int (nI p))]) (by decide) rfl (Nat.le_of_ble_eq_true rfl) rfl rfl ?_
  intro G C0 hF _
  have f12 : Cond.fieldLink RX4 12 "CorkPermits" "now" "LCorkPermits$Cellar;" ∈ wsX4_wantInText := by decide +kernel
  have iX4 : ∀ w ∈ u_ws RX4 TX4 6, w ∈ wsX4_wantInText := by decide +kernel
  refine J_aln C0 0 dX4_wantInText_0 (kk := ?_)
  refine J_get C0 iX4 0 0 0 f12 dX4_wantInText_1 (kk := ?_)
  refine J_iln C0 1 dX4_wantInText_4 (kk := ?_)
  refine J_perm (permI [0, 2, 3, 4, 5, 6, 7, 8, 9, 10, 1] 11 rfl (by decide +kernel) rfl : List.Perm _ ([mainW K b (nA 0) (aA 0) (fun i => some (d i 0)) (fun i => some (e i 0)) T, celW K aA Ga, celW K (d 0) (D 0), celW K (d 1) (D 1), celW K (e 0) (S 0), celW K (e 1) (S 1), celW K (e 2) (S 2), celW K (e 3) (S 3), celW K (e 4) (S 4), celW K (e 5) (S 5), celW K nA F])) ?_
  refine J_callVd C0 (mX0_canWait l K nA F (p := p) (by omega)) [mainW K b (nA 0) (aA 0) (fun i => some (d i 0)) (fun i => some (e i 0)) T, celW K aA Ga, celW K (d 0) (D 0), celW K (d 1) (D 1), celW K (e 0) (S 0), celW K (e 1) (S 1), celW K (e 2) (S 2), celW K (e 3) (S 3), celW K (e 4) (S 4), celW K (e 5) (S 5)] [mainW K b (nA 0) (aA 0) (fun i => some (d i 0)) (fun i => some (e i 0)) T, celW K aA Ga, celW K (d 0) (D 0), celW K (d 1) (D 1), celW K (e 0) (S 0), celW K (e 1) (S 1), celW K (e 2) (S 2), celW K (e 3) (S 3), celW K (e 4) (S 4), celW K (e 5) (S 5), celW K nA F] gX4_wantInText_X0_canWait dX4_wantInText_5 1 0 (kk := ?_)
  refine J_perm (permI [0, 10, 1, 2, 3, 4, 5, 6, 7, 8, 9] 11 rfl (by decide +kernel) rfl : List.Perm _ (corkW K b nA aA d e F Ga D S T)) ?_
  show J G _ _ _ _ _ [.int (if ¬ nI 9 ≤ F 11 p then nI 1 else nI 0)]
  refine J_ifneB C0 13 dX4_wantInText_8 (kt := fun c1 => ?_) (kf := fun c1 => ?_)
  · exact absurd c1 hc
  · refine J_ic C0 0 dX4_wantInText_11 (kk := ?_)
    exact J_zret C0 hF dX4_wantInText_12 (by decide) ⟨rfl, rfl⟩

/-- what an order of a text does; none where it does nothing -/
def ordC (F : FF) (o x y : Int32) : Option FF :=
  if o = nI 116 then (if x < nI 1 then none else if F 0 0 + x ≤ nI 9999 then some (ticksC (nN x) F) else none)
  else if o = nI 100 then (if x < 0 then none else if nI 3 ≤ x then none else if 0 < F 3 (nN x) then some (drinkS F (nN x)) else none)
  else if isPl F x y then
    (if o = nI 108 then (if canLendS F (nN y) then some (lendS F (nN (F 0 4)) (nN x * 3 + nN y)) else none)
     else if o = nI 113 then (if roomS F then some (askS F (nN (F 0 4)) (nN x * 3 + nN y)) else none)
     else if o = nI 119 then (if ¬ nI 9 ≤ F 11 (nN x * 3 + nN y) then some (u2 F 11 (nN x * 3 + nN y) (F 11 (nN x * 3 + nN y) + nI 1)) else none)
     else none)
  else none
def ordB (F : FF) (r : Option FF) : Value × FF := match r with
  | none => (.int (nI 0), F)
  | some H => (.int (nI 1), H)
abbrev rmX4_doOrder : Room := { frames := 6, cells := 0, slots := 0, locals := 140 }
theorem placeOfR (l : Launch) (K : KT) {x y : Int32} {h c : Nat} (ha : x = nI h) (hb : y = nI c) : Ct l K yX4_placeOf wsX4_placeOf rmX4_placeOf [.int x, .int y] [] (some (.int (nI (h * 3 + c)))) [] := by
  subst ha
  subst hb
  exact mX4_placeOf l K h c
theorem passR (l : Launch) (K : KT) (b nA aA : Nat → Nat) (d e : Nat → Nat → Nat) (F Ga : FF) (D S : Nat → FF) (T : FF) (hSh : Sh F) {t : Nat} (ht1 : 1 ≤ t) (ht : t ≤ 60) (hc : F 0 0 + nI t ≤ nI 9999) {x : Int32} (hx : x = nI t) : Ct l K yX4_passInText wsX4_passInText rmX4_passInText [.ref (b 0), .int x] (corkW K b nA aA d e F Ga D S T) (some (.int (nI 1))) (corkW K b nA aA d e (ticksC t F) Ga D S T) := by
  subst hx
  exact mX4_passInText_ok l K b nA aA d e F Ga D S T hSh ht1 ht hc
theorem drinkR (l : Launch) (K : KT) (b nA aA : Nat → Nat) (d e : Nat → Nat → Nat) (F Ga : FF) (D S : Nat → FF) (T : FF) {c : Nat} (hc3 : c < 3) (hc : 0 < F 3 c) {x : Int32} (hx : x = nI c) : Ct l K yX4_drinkInText wsX4_drinkInText rmX4_drinkInText [.ref (b 0), .int x] (corkW K b nA aA d e F Ga D S T) (some (.int (nI 1))) (corkW K b nA aA d e (drinkS F c) Ga D S T) := by
  subst hx
  exact mX4_drinkInText_ok l K b nA aA d e F Ga D S T hc3 hc
theorem drinkR0 (l : Launch) (K : KT) (b nA aA : Nat → Nat) (d e : Nat → Nat → Nat) (F Ga : FF) (D S : Nat → FF) (T : FF) {c : Nat} (hc3 : c < 3) (hc : ¬ 0 < F 3 c) {x : Int32} (hx : x = nI c) : Ct l K yX4_drinkInText wsX4_drinkInText rmX4_drinkInText [.ref (b 0), .int x] (corkW K b nA aA d e F Ga D S T) (some (.int (nI 0))) (corkW K b nA aA d e F Ga D S T) := by
  subst hx
  exact mX4_drinkInText_none l K b nA aA d e F Ga D S T hc3 hc
theorem lendR (l : Launch) (K : KT) (b nA aA : Nat → Nat) (d e : Nat → Nat → Nat) (F Ga : FF) (D S : Nat → FF) (T : FF) {p c : Nat} (hp12 : p < 12) (hc3 : c < 3) {m : Nat} (hm : F 0 4 = nI m) (m40 : m ≤ 40) (hc : canLendS F c) {y : Int32} (hy : y = nI c) : Ct l K yX4_lendInText wsX4_lendInText rmX4_lendInText [.ref (b 0), .int (nI p), .int y] (corkW K b nA aA d e F Ga D S T) (some (.int (nI 1))) (corkW K b nA aA d e (lendS F m p) Ga D S T) := by
  subst hy
  exact mX4_lendInText_ok l K b nA aA d e F Ga D S T hp12 hc3 hm m40 hc
theorem lendR0 (l : Launch) (K : KT) (b nA aA : Nat → Nat) (d e : Nat → Nat → Nat) (F Ga : FF) (D S : Nat → FF) (T : FF) {p c : Nat} (hp12 : p < 12) (hc3 : c < 3) (hc : ¬ canLendS F c) {y : Int32} (hy : y = nI c) : Ct l K yX4_lendInText wsX4_lendInText rmX4_lendInText [.ref (b 0), .int (nI p), .int y] (corkW K b nA aA d e F Ga D S T) (some (.int (nI 0))) (corkW K b nA aA d e F Ga D S T) := by
  subst hy
  exact mX4_lendInText_no l K b nA aA d e F Ga D S T hp12 hc3 hc
set_option maxHeartbeats 4000000 in
set_option maxRecDepth 100000 in
theorem mX4_doOrder_t_ok (l : Launch) (K : KT) (b nA aA : Nat → Nat) (d e : Nat → Nat → Nat) (F Ga : FF) (D S : Nat → FF) (T : FF) {n : Nat} (hn : T 0 1 = nI n) (h60 : n ≤ 60) {i : Nat} (hi : i < 900) (ho : signS T n i = nI 116) (hSh : Sh F) {t : Nat} (ht1 : 1 ≤ t) (ht : t ≤ 60) (hc : F 0 0 + nI t ≤ nI 9999) (hx : digS T n (i + 1) = nI t) : Ct l K yX4_doOrder wsX4_doOrder rmX4_doOrder [.ref (b 0), .int (nI i)] (corkW K b nA aA d e F Ga D S T) (some (.int (nI 1))) (corkW K b nA aA d e (ticksC t F) Ga D S T) := by
  refine CtP_of (cc := cX4_doOrder) (nL := 5) (rt := some .boolean) (own := RX4) (lv0 := [(0, .ref (b 0)), (1, .int (nI i))]) (by decide) rfl (Nat.le_of_ble_eq_true rfl) rfl rfl ?_
  intro G C0 hF _
  have f37 : Cond.fieldLink RX4 37 "CorkPermits" "text" "LCorkPermits$DayText;" ∈ wsX4_doOrder := by decide +kernel
  have iX4 : ∀ w ∈ u_ws RX4 TX4 6, w ∈ wsX4_doOrder := by decide +kernel
  refine J_aln C0 0 dX4_doOrder_0 (kk := ?_)
  refine J_get C0 iX4 0 0 5 f37 dX4_doOrder_1 (kk := ?_)
  refine J_iln C0 1 dX4_doOrder_4 (kk := ?_)
  refine J_perm (permI [1, 2, 3, 4, 5, 6, 7, 8, 9, 10, 0] 11 rfl (by decide +kernel) rfl : List.Perm _ ([celW K nA F, celW K aA Ga, celW K (d 0) (D 0), celW K (d 1) (D 1), celW K (e 0) (S 0), celW K (e 1) (S 1), celW K (e 2) (S 2), celW K (e 3) (S 3), celW K (e 4) (S 4), celW K (e 5) (S 5), mainW K b (nA 0) (aA 0) (fun i => some (d i 0)) (fun i => some (e i 0)) T])) ?_
  refine J_callVd C0 (mX1_sign l K b (nA 0) (aA 0) (fun i => some (d i 0)) (fun i => some (e i 0)) T hn h60 (i := i) (by omega)) [celW K nA F, celW K aA Ga, celW K (d 0) (D 0), celW K (d 1) (D 1), celW K (e 0) (S 0), celW K (e 1) (S 1), celW K (e 2) (S 2), celW K (e 3) (S 3), celW K (e 4) (S 4), celW K (e 5) (S 5)] [celW K nA F, celW K aA Ga, celW K (d 0) (D 0), celW K (d 1) (D 1), celW K (e 0) (S 0), celW K (e 1) (S 1), celW K (e 2) (S 2), celW K (e 3) (S 3), celW K (e 4) (S 4), celW K (e 5) (S 5), mainW K b (nA 0) (aA 0) (fun i => some (d i 0)) (fun i => some (e i 0)) T] gX4_doOrder_X1_sign dX4_doOrder_5 1 5 (kk := ?_)
  refine J_perm (permI [10, 0, 1, 2, 3, 4, 5, 6, 7, 8, 9] 11 rfl (by decide +kernel) rfl : List.Perm _ (corkW K b nA aA d e F Ga D S T)) ?_
  show J G _ _ _ _ _ [.int (signS T n i)]
  refine J_isn C0 [(2, .int (signS T n i)), (0, .ref (b 0)), (1, .int (nI i))] dX4_doOrder_8 (kk := ?_)
  refine J_aln C0 1 dX4_doOrder_9 (kk := ?_)
  refine J_get C0 iX4 0 0 5 f37 dX4_doOrder_10 (kk := ?_)
  refine J_iln C0 2 dX4_doOrder_13 (kk := ?_)
  refine J_ic C0 1 dX4_doOrder_14 (kk := ?_)
  refine J_iaddN C0 dX4_doOrder_15 ?_
  refine J_perm (permI [1, 2, 3, 4, 5, 6, 7, 8, 9, 10, 0] 11 rfl (by decide +kernel) rfl : List.Perm _ ([celW K nA F, celW K aA Ga, celW K (d 0) (D 0), celW K (d 1) (D 1), celW K (e 0) (S 0), celW K (e 1) (S 1), celW K (e 2) (S 2), celW K (e 3) (S 3), celW K (e 4) (S 4), celW K (e 5) (S 5), mainW K b (nA 0) (aA 0) (fun i => some (d i 0)) (fun i => some (e i 0)) T])) ?_
  refine J_callVd C0 (mX1_digit l K b (nA 0) (aA 0) (fun i => some (d i 0)) (fun i => some (e i 0)) T hn h60 (i := i + 1) (by omega)) [celW K nA F, celW K aA Ga, celW K (d 0) (D 0), celW K (d 1) (D 1), celW K (e 0) (S 0), celW K (e 1) (S 1), celW K (e 2) (S 2), celW K (e 3) (S 3), celW K (e 4) (S 4), celW K (e 5) (S 5)] [celW K nA F, celW K aA Ga, celW K (d 0) (D 0), celW K (d 1) (D 1), celW K (e 0) (S 0), celW K (e 1) (S 1), celW K (e 2) (S 2), celW K (e 3) (S 3), celW K (e 4) (S 4), celW K (e 5) (S 5), mainW K b (nA 0) (aA 0) (fun i => some (d i 0)) (fun i => some (e i 0)) T] gX4_doOrder_X1_digit dX4_doOrder_16 1 5 (kk := ?_)
  refine J_perm (permI [10, 0, 1, 2, 3, 4, 5, 6, 7, 8, 9] 11 rfl (by decide +kernel) rfl : List.Perm _ (corkW K b nA aA d e F Ga D S T)) ?_
  show J G _ _ _ _ _ [.int (digS T n (i + 1))]
  refine J_isn C0 [(3, .int (digS T n (i + 1))), (2, .int (signS T n i)), (0, .ref (b 0)), (1, .int (nI i))] dX4_doOrder_19 (kk := ?_)
  refine J_iln C0 1 dX4_doOrder_20 (kk := ?_)
  refine J_bi C0 116 dX4_doOrder_21 (kk := ?_)
  refine J_icmpne C0 32 dX4_doOrder_23 (kt := fun c1 => ?_) (kf := fun c1 => ?_)
  · exact absurd ho c1
  · refine J_aln C0 2 dX4_doOrder_26 (kk := ?_)
    refine J_iln C0 0 dX4_doOrder_27 (kk := ?_)
    refine J_callVd C0 (passR l K b nA aA d e F Ga D S T hSh ht1 ht hc hx) [] (corkW K b nA aA d e (ticksC t F) Ga D S T) gX4_doOrder_X4_passInText dX4_doOrder_28 1 0 (kk := ?_)
    show J G _ _ _ _ _ [.int (nI 1)]
    exact J_zret C0 hF dX4_doOrder_31 (by decide) ⟨rfl, rfl⟩

set_option maxHeartbeats 4000000 in
set_option maxRecDepth 100000 in
theorem mX4_doOrder_t_low (l : Launch) (K : KT) (b nA aA : Nat → Nat) (d e : Nat → Nat → Nat) (F Ga : FF) (D S : Nat → FF) (T : FF) {n : Nat} (hn : T 0 1 = nI n) (h60 : n ≤ 60) {i : Nat} (hi : i < 900) (ho : signS T n i = nI 116) (hc : (digS T n (i + 1)) < nI 1) : Ct l K yX4_doOrder wsX4_doOrder rmX4_doOrder [.ref (b 0), .int (nI i)] (corkW K b nA aA d e F Ga D S T) (some (.int (nI 0))) (corkW K b nA aA d e F Ga D S T) := by
  refine CtP_of (cc := cX4_doOrder) (nL := 5) (rt := some .boolean) (own := RX4) (lv0 := [(0, .ref (b 0)), (1, .int (nI i))]) (by decide) rfl (Nat.le_of_ble_eq_true rfl) rfl rfl ?_
  intro G C0 hF _
  have f37 : Cond.fieldLink RX4 37 "CorkPermits" "text" "LCorkPermits$DayText;" ∈ wsX4_doOrder := by decide +kernel
  have iX4 : ∀ w ∈ u_ws RX4 TX4 6, w ∈ wsX4_doOrder := by decide +kernel
  refine J_aln C0 0 dX4_doOrder_0 (kk := ?_)
  refine J_get C0 iX4 0 0 5 f37 dX4_doOrder_1 (kk := ?_)
  refine J_iln C0 1 dX4_doOrder_4 (kk := ?_)
  refine J_perm (permI [1, 2, 3, 4, 5, 6, 7, 8, 9, 10, 0] 11 rfl (by decide +kernel) rfl : List.Perm _ ([celW K nA F, celW K aA Ga, celW K (d 0) (D 0), celW K (d 1) (D 1), celW K (e 0) (S 0), celW K (e 1) (S 1), celW K (e 2) (S 2), celW K (e 3) (S 3), celW K (e 4) (S 4), celW K (e 5) (S 5), mainW K b (nA 0) (aA 0) (fun i => some (d i 0)) (fun i => some (e i 0)) T])) ?_
  refine J_callVd C0 (mX1_sign l K b (nA 0) (aA 0) (fun i => some (d i 0)) (fun i => some (e i 0)) T hn h60 (i := i) (by omega)) [celW K nA F, celW K aA Ga, celW K (d 0) (D 0), celW K (d 1) (D 1), celW K (e 0) (S 0), celW K (e 1) (S 1), celW K (e 2) (S 2), celW K (e 3) (S 3), celW K (e 4) (S 4), celW K (e 5) (S 5)] [celW K nA F, celW K aA Ga, celW K (d 0) (D 0), celW K (d 1) (D 1), celW K (e 0) (S 0), celW K (e 1) (S 1), celW K (e 2) (S 2), celW K (e 3) (S 3), celW K (e 4) (S 4), celW K (e 5) (S 5), mainW K b (nA 0) (aA 0) (fun i => some (d i 0)) (fun i => some (e i 0)) T] gX4_doOrder_X1_sign dX4_doOrder_5 1 5 (kk := ?_)
  refine J_perm (permI [10, 0, 1, 2, 3, 4, 5, 6, 7, 8, 9] 11 rfl (by decide +kernel) rfl : List.Perm _ (corkW K b nA aA d e F Ga D S T)) ?_
  show J G _ _ _ _ _ [.int (signS T n i)]
  refine J_isn C0 [(2, .int (signS T n i)), (0, .ref (b 0)), (1, .int (nI i))] dX4_doOrder_8 (kk := ?_)
  refine J_aln C0 1 dX4_doOrder_9 (kk := ?_)
  refine J_get C0 iX4 0 0 5 f37 dX4_doOrder_10 (kk := ?_)
  refine J_iln C0 2 dX4_doOrder_13 (kk := ?_)
  refine J_ic C0 1 dX4_doOrder_14 (kk := ?_)
  refine J_iaddN C0 dX4_doOrder_15 ?_
  refine J_perm (permI [1, 2, 3, 4, 5, 6, 7, 8, 9, 10, 0] 11 rfl (by decide +kernel) rfl : List.Perm _ ([celW K nA F, celW K aA Ga, celW K (d 0) (D 0), celW K (d 1) (D 1), celW K (e 0) (S 0), celW K (e 1) (S 1), celW K (e 2) (S 2), celW K (e 3) (S 3), celW K (e 4) (S 4), celW K (e 5) (S 5), mainW K b (nA 0) (aA 0) (fun i => some (d i 0)) (fun i => some (e i 0)) T])) ?_
  refine J_callVd C0 (mX1_digit l K b (nA 0) (aA 0) (fun i => some (d i 0)) (fun i => some (e i 0)) T hn h60 (i := i + 1) (by omega)) [celW K nA F, celW K aA Ga, celW K (d 0) (D 0), celW K (d 1) (D 1), celW K (e 0) (S 0), celW K (e 1) (S 1), celW K (e 2) (S 2), celW K (e 3) (S 3), celW K (e 4) (S 4), celW K (e 5) (S 5)] [celW K nA F, celW K aA Ga, celW K (d 0) (D 0), celW K (d 1) (D 1), celW K (e 0) (S 0), celW K (e 1) (S 1), celW K (e 2) (S 2), celW K (e 3) (S 3), celW K (e 4) (S 4), celW K (e 5) (S 5), mainW K b (nA 0) (aA 0) (fun i => some (d i 0)) (fun i => some (e i 0)) T] gX4_doOrder_X1_digit dX4_doOrder_16 1 5 (kk := ?_)
  refine J_perm (permI [10, 0, 1, 2, 3, 4, 5, 6, 7, 8, 9] 11 rfl (by decide +kernel) rfl : List.Perm _ (corkW K b nA aA d e F Ga D S T)) ?_
  show J G _ _ _ _ _ [.int (digS T n (i + 1))]
  refine J_isn C0 [(3, .int (digS T n (i + 1))), (2, .int (signS T n i)), (0, .ref (b 0)), (1, .int (nI i))] dX4_doOrder_19 (kk := ?_)
  refine J_iln C0 1 dX4_doOrder_20 (kk := ?_)
  refine J_bi C0 116 dX4_doOrder_21 (kk := ?_)
  refine J_icmpne C0 32 dX4_doOrder_23 (kt := fun c1 => ?_) (kf := fun c1 => ?_)
  · exact absurd ho c1
  · refine J_aln C0 2 dX4_doOrder_26 (kk := ?_)
    refine J_iln C0 0 dX4_doOrder_27 (kk := ?_)
    refine J_callVd C0 (mX4_passInText_low l K b nA aA d e F Ga D S T hc) [] (corkW K b nA aA d e F Ga D S T) gX4_doOrder_X4_passInText dX4_doOrder_28 1 0 (kk := ?_)
    show J G _ _ _ _ _ [.int (nI 0)]
    exact J_zret C0 hF dX4_doOrder_31 (by decide) ⟨rfl, rfl⟩

set_option maxHeartbeats 4000000 in
set_option maxRecDepth 100000 in
theorem mX4_doOrder_t_late (l : Launch) (K : KT) (b nA aA : Nat → Nat) (d e : Nat → Nat → Nat) (F Ga : FF) (D S : Nat → FF) (T : FF) {n : Nat} (hn : T 0 1 = nI n) (h60 : n ≤ 60) {i : Nat} (hi : i < 900) (ho : signS T n i = nI 116) (hx : ¬ (digS T n (i + 1)) < nI 1) (hc : ¬ F 0 0 + (digS T n (i + 1)) ≤ nI 9999) : Ct l K yX4_doOrder wsX4_doOrder rmX4_doOrder [.ref (b 0), .int (nI i)] (corkW K b nA aA d e F Ga D S T) (some (.int (nI 0))) (corkW K b nA aA d e F Ga D S T) := by
  refine CtP_of (cc := cX4_doOrder) (nL := 5) (rt := some .boolean) (own := RX4) (lv0 := [(0, .ref (b 0)), (1, .int (nI i))]) (by decide) rfl (Nat.le_of_ble_eq_true rfl) rfl rfl ?_
  intro G C0 hF _
  have f37 : Cond.fieldLink RX4 37 "CorkPermits" "text" "LCorkPermits$DayText;" ∈ wsX4_doOrder := by decide +kernel
  have iX4 : ∀ w ∈ u_ws RX4 TX4 6, w ∈ wsX4_doOrder := by decide +kernel
  refine J_aln C0 0 dX4_doOrder_0 (kk := ?_)
  refine J_get C0 iX4 0 0 5 f37 dX4_doOrder_1 (kk := ?_)
  refine J_iln C0 1 dX4_doOrder_4 (kk := ?_)
  refine J_perm (permI [1, 2, 3, 4, 5, 6, 7, 8, 9, 10, 0] 11 rfl (by decide +kernel) rfl : List.Perm _ ([celW K nA F, celW K aA Ga, celW K (d 0) (D 0), celW K (d 1) (D 1), celW K (e 0) (S 0), celW K (e 1) (S 1), celW K (e 2) (S 2), celW K (e 3) (S 3), celW K (e 4) (S 4), celW K (e 5) (S 5), mainW K b (nA 0) (aA 0) (fun i => some (d i 0)) (fun i => some (e i 0)) T])) ?_
  refine J_callVd C0 (mX1_sign l K b (nA 0) (aA 0) (fun i => some (d i 0)) (fun i => some (e i 0)) T hn h60 (i := i) (by omega)) [celW K nA F, celW K aA Ga, celW K (d 0) (D 0), celW K (d 1) (D 1), celW K (e 0) (S 0), celW K (e 1) (S 1), celW K (e 2) (S 2), celW K (e 3) (S 3), celW K (e 4) (S 4), celW K (e 5) (S 5)] [celW K nA F, celW K aA Ga, celW K (d 0) (D 0), celW K (d 1) (D 1), celW K (e 0) (S 0), celW K (e 1) (S 1), celW K (e 2) (S 2), celW K (e 3) (S 3), celW K (e 4) (S 4), celW K (e 5) (S 5), mainW K b (nA 0) (aA 0) (fun i => some (d i 0)) (fun i => some (e i 0)) T] gX4_doOrder_X1_sign dX4_doOrder_5 1 5 (kk := ?_)
  refine J_perm (permI [10, 0, 1, 2, 3, 4, 5, 6, 7, 8, 9] 11 rfl (by decide +kernel) rfl : List.Perm _ (corkW K b nA aA d e F Ga D S T)) ?_
  show J G _ _ _ _ _ [.int (signS T n i)]
  refine J_isn C0 [(2, .int (signS T n i)), (0, .ref (b 0)), (1, .int (nI i))] dX4_doOrder_8 (kk := ?_)
  refine J_aln C0 1 dX4_doOrder_9 (kk := ?_)
  refine J_get C0 iX4 0 0 5 f37 dX4_doOrder_10 (kk := ?_)
  refine J_iln C0 2 dX4_doOrder_13 (kk := ?_)
  refine J_ic C0 1 dX4_doOrder_14 (kk := ?_)
  refine J_iaddN C0 dX4_doOrder_15 ?_
  refine J_perm (permI [1, 2, 3, 4, 5, 6, 7, 8, 9, 10, 0] 11 rfl (by decide +kernel) rfl : List.Perm _ ([celW K nA F, celW K aA Ga, celW K (d 0) (D 0), celW K (d 1) (D 1), celW K (e 0) (S 0), celW K (e 1) (S 1), celW K (e 2) (S 2), celW K (e 3) (S 3), celW K (e 4) (S 4), celW K (e 5) (S 5), mainW K b (nA 0) (aA 0) (fun i => some (d i 0)) (fun i => some (e i 0)) T])) ?_
  refine J_callVd C0 (mX1_digit l K b (nA 0) (aA 0) (fun i => some (d i 0)) (fun i => some (e i 0)) T hn h60 (i := i + 1) (by omega)) [celW K nA F, celW K aA Ga, celW K (d 0) (D 0), celW K (d 1) (D 1), celW K (e 0) (S 0), celW K (e 1) (S 1), celW K (e 2) (S 2), celW K (e 3) (S 3), celW K (e 4) (S 4), celW K (e 5) (S 5)] [celW K nA F, celW K aA Ga, celW K (d 0) (D 0), celW K (d 1) (D 1), celW K (e 0) (S 0), celW K (e 1) (S 1), celW K (e 2) (S 2), celW K (e 3) (S 3), celW K (e 4) (S 4), celW K (e 5) (S 5), mainW K b (nA 0) (aA 0) (fun i => some (d i 0)) (fun i => some (e i 0)) T] gX4_doOrder_X1_digit dX4_doOrder_16 1 5 (kk := ?_)
  refine J_perm (permI [10, 0, 1, 2, 3, 4, 5, 6, 7, 8, 9] 11 rfl (by decide +kernel) rfl : List.Perm _ (corkW K b nA aA d e F Ga D S T)) ?_
  show J G _ _ _ _ _ [.int (digS T n (i + 1))]
  refine J_isn C0 [(3, .int (digS T n (i + 1))), (2, .int (signS T n i)), (0, .ref (b 0)), (1, .int (nI i))] dX4_doOrder_19 (kk := ?_)
  refine J_iln C0 1 dX4_doOrder_20 (kk := ?_)
  refine J_bi C0 116 dX4_doOrder_21 (kk := ?_)
  refine J_icmpne C0 32 dX4_doOrder_23 (kt := fun c1 => ?_) (kf := fun c1 => ?_)
  · exact absurd ho c1
  · refine J_aln C0 2 dX4_doOrder_26 (kk := ?_)
    refine J_iln C0 0 dX4_doOrder_27 (kk := ?_)
    refine J_callVd C0 (mX4_passInText_late l K b nA aA d e F Ga D S T hx hc) [] (corkW K b nA aA d e F Ga D S T) gX4_doOrder_X4_passInText dX4_doOrder_28 1 0 (kk := ?_)
    show J G _ _ _ _ _ [.int (nI 0)]
    exact J_zret C0 hF dX4_doOrder_31 (by decide) ⟨rfl, rfl⟩

set_option maxHeartbeats 4000000 in
set_option maxRecDepth 100000 in
theorem mX4_doOrder_d_ok (l : Launch) (K : KT) (b nA aA : Nat → Nat) (d e : Nat → Nat → Nat) (F Ga : FF) (D S : Nat → FF) (T : FF) {n : Nat} (hn : T 0 1 = nI n) (h60 : n ≤ 60) {i : Nat} (hi : i < 900) (hn116 : ¬ signS T n i = nI 116) (ho : signS T n i = nI 100) {c : Nat} (hc3 : c < 3) (hc : 0 < F 3 c) (hx : (digS T n (i + 1)) = nI c) : Ct l K yX4_doOrder wsX4_doOrder rmX4_doOrder [.ref (b 0), .int (nI i)] (corkW K b nA aA d e F Ga D S T) (some (.int (nI 1))) (corkW K b nA aA d e (drinkS F c) Ga D S T) := by
  refine CtP_of (cc := cX4_doOrder) (nL := 5) (rt := some .boolean) (own := RX4) (lv0 := [(0, .ref (b 0)), (1, .int (nI i))]) (by decide) rfl (Nat.le_of_ble_eq_true rfl) rfl rfl ?_
  intro G C0 hF _
  have f37 : Cond.fieldLink RX4 37 "CorkPermits" "text" "LCorkPermits$DayText;" ∈ wsX4_doOrder := by decide +kernel
  have iX4 : ∀ w ∈ u_ws RX4 TX4 6, w ∈ wsX4_doOrder := by decide +kernel
  refine J_aln C0 0 dX4_doOrder_0 (kk := ?_)
  refine J_get C0 iX4 0 0 5 f37 dX4_doOrder_1 (kk := ?_)
  refine J_iln C0 1 dX4_doOrder_4 (kk := ?_)
  refine J_perm (permI [1, 2, 3, 4, 5, 6, 7, 8, 9, 10, 0] 11 rfl (by decide +kernel) rfl : List.Perm _ ([celW K nA F, celW K aA Ga, celW K (d 0) (D 0), celW K (d 1) (D 1), celW K (e 0) (S 0), celW K (e 1) (S 1), celW K (e 2) (S 2), celW K (e 3) (S 3), celW K (e 4) (S 4), celW K (e 5) (S 5), mainW K b (nA 0) (aA 0) (fun i => some (d i 0)) (fun i => some (e i 0)) T])) ?_
  refine J_callVd C0 (mX1_sign l K b (nA 0) (aA 0) (fun i => some (d i 0)) (fun i => some (e i 0)) T hn h60 (i := i) (by omega)) [celW K nA F, celW K aA Ga, celW K (d 0) (D 0), celW K (d 1) (D 1), celW K (e 0) (S 0), celW K (e 1) (S 1), celW K (e 2) (S 2), celW K (e 3) (S 3), celW K (e 4) (S 4), celW K (e 5) (S 5)] [celW K nA F, celW K aA Ga, celW K (d 0) (D 0), celW K (d 1) (D 1), celW K (e 0) (S 0), celW K (e 1) (S 1), celW K (e 2) (S 2), celW K (e 3) (S 3), celW K (e 4) (S 4), celW K (e 5) (S 5), mainW K b (nA 0) (aA 0) (fun i => some (d i 0)) (fun i => some (e i 0)) T] gX4_doOrder_X1_sign dX4_doOrder_5 1 5 (kk := ?_)
  refine J_perm (permI [10, 0, 1, 2, 3, 4, 5, 6, 7, 8, 9] 11 rfl (by decide +kernel) rfl : List.Perm _ (corkW K b nA aA d e F Ga D S T)) ?_
  show J G _ _ _ _ _ [.int (signS T n i)]
  refine J_isn C0 [(2, .int (signS T n i)), (0, .ref (b 0)), (1, .int (nI i))] dX4_doOrder_8 (kk := ?_)
  refine J_aln C0 1 dX4_doOrder_9 (kk := ?_)
  refine J_get C0 iX4 0 0 5 f37 dX4_doOrder_10 (kk := ?_)
  refine J_iln C0 2 dX4_doOrder_13 (kk := ?_)
  refine J_ic C0 1 dX4_doOrder_14 (kk := ?_)
  refine J_iaddN C0 dX4_doOrder_15 ?_
  refine J_perm (permI [1, 2, 3, 4, 5, 6, 7, 8, 9, 10, 0] 11 rfl (by decide +kernel) rfl : List.Perm _ ([celW K nA F, celW K aA Ga, celW K (d 0) (D 0), celW K (d 1) (D 1), celW K (e 0) (S 0), celW K (e 1) (S 1), celW K (e 2) (S 2), celW K (e 3) (S 3), celW K (e 4) (S 4), celW K (e 5) (S 5), mainW K b (nA 0) (aA 0) (fun i => some (d i 0)) (fun i => some (e i 0)) T])) ?_
  refine J_callVd C0 (mX1_digit l K b (nA 0) (aA 0) (fun i => some (d i 0)) (fun i => some (e i 0)) T hn h60 (i := i + 1) (by omega)) [celW K nA F, celW K aA Ga, celW K (d 0) (D 0), celW K (d 1) (D 1), celW K (e 0) (S 0), celW K (e 1) (S 1), celW K (e 2) (S 2), celW K (e 3) (S 3), celW K (e 4) (S 4), celW K (e 5) (S 5)] [celW K nA F, celW K aA Ga, celW K (d 0) (D 0), celW K (d 1) (D 1), celW K (e 0) (S 0), celW K (e 1) (S 1), celW K (e 2) (S 2), celW K (e 3) (S 3), celW K (e 4) (S 4), celW K (e 5) (S 5), mainW K b (nA 0) (aA 0) (fun i => some (d i 0)) (fun i => some (e i 0)) T] gX4_doOrder_X1_digit dX4_doOrder_16 1 5 (kk := ?_)
  refine J_perm (permI [10, 0, 1, 2, 3, 4, 5, 6, 7, 8, 9] 11 rfl (by decide +kernel) rfl : List.Perm _ (corkW K b nA aA d e F Ga D S T)) ?_
  show J G _ _ _ _ _ [.int (digS T n (i + 1))]
  refine J_isn C0 [(3, .int (digS T n (i + 1))), (2, .int (signS T n i)), (0, .ref (b 0)), (1, .int (nI i))] dX4_doOrder_19 (kk := ?_)
  refine J_iln C0 1 dX4_doOrder_20 (kk := ?_)
  refine J_bi C0 116 dX4_doOrder_21 (kk := ?_)
  refine J_icmpne C0 32 dX4_doOrder_23 (kt := fun c1 => ?_) (kf := fun c1 => ?_)
  · refine J_iln C0 1 dX4_doOrder_32 (kk := ?_)
    refine J_bi C0 100 dX4_doOrder_33 (kk := ?_)
    refine J_icmpne C0 44 dX4_doOrder_35 (kt := fun c2 => ?_) (kf := fun c2 => ?_)
    · exact absurd ho c2
    · refine J_aln C0 2 dX4_doOrder_38 (kk := ?_)
      refine J_iln C0 0 dX4_doOrder_39 (kk := ?_)
      refine J_callVd C0 (drinkR l K b nA aA d e F Ga D S T hc3 hc hx) [] (corkW K b nA aA d e (drinkS F c) Ga D S T) gX4_doOrder_X4_drinkInText dX4_doOrder_40 1 0 (kk := ?_)
      show J G _ _ _ _ _ [.int (nI 1)]
      exact J_zret C0 hF dX4_doOrder_43 (by decide) ⟨rfl, rfl⟩
  · exact absurd c1 hn116

set_option maxHeartbeats 4000000 in
set_option maxRecDepth 100000 in
theorem mX4_doOrder_d_none (l : Launch) (K : KT) (b nA aA : Nat → Nat) (d e : Nat → Nat → Nat) (F Ga : FF) (D S : Nat → FF) (T : FF) {n : Nat} (hn : T 0 1 = nI n) (h60 : n ≤ 60) {i : Nat} (hi : i < 900) (hn116 : ¬ signS T n i = nI 116) (ho : signS T n i = nI 100) {c : Nat} (hc3 : c < 3) (hc : ¬ 0 < F 3 c) (hx : (digS T n (i + 1)) = nI c) : Ct l K yX4_doOrder wsX4_doOrder rmX4_doOrder [.ref (b 0), .int (nI i)] (corkW K b nA aA d e F Ga D S T) (some (.int (nI 0))) (corkW K b nA aA d e F Ga D S T) := by
  refine CtP_of (cc := cX4_doOrder) (nL := 5) (rt := some .boolean) (own := RX4) (lv0 := [(0, .ref (b 0)), (1, .int (nI i))]) (by decide) rfl (Nat.le_of_ble_eq_true rfl) rfl rfl ?_
  intro G C0 hF _
  have f37 : Cond.fieldLink RX4 37 "CorkPermits" "text" "LCorkPermits$DayText;" ∈ wsX4_doOrder := by decide +kernel
  have iX4 : ∀ w ∈ u_ws RX4 TX4 6, w ∈ wsX4_doOrder := by decide +kernel
  refine J_aln C0 0 dX4_doOrder_0 (kk := ?_)
  refine J_get C0 iX4 0 0 5 f37 dX4_doOrder_1 (kk := ?_)
  refine J_iln C0 1 dX4_doOrder_4 (kk := ?_)
  refine J_perm (permI [1, 2, 3, 4, 5, 6, 7, 8, 9, 10, 0] 11 rfl (by decide +kernel) rfl : List.Perm _ ([celW K nA F, celW K aA Ga, celW K (d 0) (D 0), celW K (d 1) (D 1), celW K (e 0) (S 0), celW K (e 1) (S 1), celW K (e 2) (S 2), celW K (e 3) (S 3), celW K (e 4) (S 4), celW K (e 5) (S 5), mainW K b (nA 0) (aA 0) (fun i => some (d i 0)) (fun i => some (e i 0)) T])) ?_
  refine J_callVd C0 (mX1_sign l K b (nA 0) (aA 0) (fun i => some (d i 0)) (fun i => some (e i 0)) T hn h60 (i := i) (by omega)) [celW K nA F, celW K aA Ga, celW K (d 0) (D 0), celW K (d 1) (D 1), celW K (e 0) (S 0), celW K (e 1) (S 1), celW K (e 2) (S 2), celW K (e 3) (S 3), celW K (e 4) (S 4), celW K (e 5) (S 5)] [celW K nA F, celW K aA Ga, celW K (d 0) (D 0), celW K (d 1) (D 1), celW K (e 0) (S 0), celW K (e 1) (S 1), celW K (e 2) (S 2), celW K (e 3) (S 3), celW K (e 4) (S 4), celW K (e 5) (S 5), mainW K b (nA 0) (aA 0) (fun i => some (d i 0)) (fun i => some (e i 0)) T] gX4_doOrder_X1_sign dX4_doOrder_5 1 5 (kk := ?_)
  refine J_perm (permI [10, 0, 1, 2, 3, 4, 5, 6, 7, 8, 9] 11 rfl (by decide +kernel) rfl : List.Perm _ (corkW K b nA aA d e F Ga D S T)) ?_
  show J G _ _ _ _ _ [.int (signS T n i)]
  refine J_isn C0 [(2, .int (signS T n i)), (0, .ref (b 0)), (1, .int (nI i))] dX4_doOrder_8 (kk := ?_)
  refine J_aln C0 1 dX4_doOrder_9 (kk := ?_)
  refine J_get C0 iX4 0 0 5 f37 dX4_doOrder_10 (kk := ?_)
  refine J_iln C0 2 dX4_doOrder_13 (kk := ?_)
  refine J_ic C0 1 dX4_doOrder_14 (kk := ?_)
  refine J_iaddN C0 dX4_doOrder_15 ?_
  refine J_perm (permI [1, 2, 3, 4, 5, 6, 7, 8, 9, 10, 0] 11 rfl (by decide +kernel) rfl : List.Perm _ ([celW K nA F, celW K aA Ga, celW K (d 0) (D 0), celW K (d 1) (D 1), celW K (e 0) (S 0), celW K (e 1) (S 1), celW K (e 2) (S 2), celW K (e 3) (S 3), celW K (e 4) (S 4), celW K (e 5) (S 5), mainW K b (nA 0) (aA 0) (fun i => some (d i 0)) (fun i => some (e i 0)) T])) ?_
  refine J_callVd C0 (mX1_digit l K b (nA 0) (aA 0) (fun i => some (d i 0)) (fun i => some (e i 0)) T hn h60 (i := i + 1) (by omega)) [celW K nA F, celW K aA Ga, celW K (d 0) (D 0), celW K (d 1) (D 1), celW K (e 0) (S 0), celW K (e 1) (S 1), celW K (e 2) (S 2), celW K (e 3) (S 3), celW K (e 4) (S 4), celW K (e 5) (S 5)] [celW K nA F, celW K aA Ga, celW K (d 0) (D 0), celW K (d 1) (D 1), celW K (e 0) (S 0), celW K (e 1) (S 1), celW K (e 2) (S 2), celW K (e 3) (S 3), celW K (e 4) (S 4), celW K (e 5) (S 5), mainW K b (nA 0) (aA 0) (fun i => some (d i 0)) (fun i => some (e i 0)) T] gX4_doOrder_X1_digit dX4_doOrder_16 1 5 (kk := ?_)
  refine J_perm (permI [10, 0, 1, 2, 3, 4, 5, 6, 7, 8, 9] 11 rfl (by decide +kernel) rfl : List.Perm _ (corkW K b nA aA d e F Ga D S T)) ?_
  show J G _ _ _ _ _ [.int (digS T n (i + 1))]
  refine J_isn C0 [(3, .int (digS T n (i + 1))), (2, .int (signS T n i)), (0, .ref (b 0)), (1, .int (nI i))] dX4_doOrder_19 (kk := ?_)
  refine J_iln C0 1 dX4_doOrder_20 (kk := ?_)
  refine J_bi C0 116 dX4_doOrder_21 (kk := ?_)
  refine J_icmpne C0 32 dX4_doOrder_23 (kt := fun c1 => ?_) (kf := fun c1 => ?_)
  · refine J_iln C0 1 dX4_doOrder_32 (kk := ?_)
    refine J_bi C0 100 dX4_doOrder_33 (kk := ?_)
    refine J_icmpne C0 44 dX4_doOrder_35 (kt := fun c2 => ?_) (kf := fun c2 => ?_)
    · exact absurd ho c2
    · refine J_aln C0 2 dX4_doOrder_38 (kk := ?_)
      refine J_iln C0 0 dX4_doOrder_39 (kk := ?_)
      refine J_callVd C0 (drinkR0 l K b nA aA d e F Ga D S T hc3 hc hx) [] (corkW K b nA aA d e F Ga D S T) gX4_doOrder_X4_drinkInText dX4_doOrder_40 1 0 (kk := ?_)
      show J G _ _ _ _ _ [.int (nI 0)]
      exact J_zret C0 hF dX4_doOrder_43 (by decide) ⟨rfl, rfl⟩
  · exact absurd c1 hn116

set_option maxHeartbeats 4000000 in
set_option maxRecDepth 100000 in
theorem mX4_doOrder_d_low (l : Launch) (K : KT) (b nA aA : Nat → Nat) (d e : Nat → Nat → Nat) (F Ga : FF) (D S : Nat → FF) (T : FF) {n : Nat} (hn : T 0 1 = nI n) (h60 : n ≤ 60) {i : Nat} (hi : i < 900) (hn116 : ¬ signS T n i = nI 116) (ho : signS T n i = nI 100) (hc : (digS T n (i + 1)) < 0) : Ct l K yX4_doOrder wsX4_doOrder rmX4_doOrder [.ref (b 0), .int (nI i)] (corkW K b nA aA d e F Ga D S T) (some (.int (nI 0))) (corkW K b nA aA d e F Ga D S T) := by
  refine CtP_of (cc := cX4_doOrder) (nL := 5) (rt := some .boolean) (own := RX4) (lv0 := [(0, .ref (b 0)), (1, .int (nI i))]) (by decide) rfl (Nat.le_of_ble_eq_true rfl) rfl rfl ?_
  intro G C0 hF _
  have f37 : Cond.fieldLink RX4 37 "CorkPermits" "text" "LCorkPermits$DayText;" ∈ wsX4_doOrder := by decide +kernel
  have iX4 : ∀ w ∈ u_ws RX4 TX4 6, w ∈ wsX4_doOrder := by decide +kernel
  refine J_aln C0 0 dX4_doOrder_0 (kk := ?_)
  refine J_get C0 iX4 0 0 5 f37 dX4_doOrder_1 (kk := ?_)
  refine J_iln C0 1 dX4_doOrder_4 (kk := ?_)
  refine J_perm (permI [1, 2, 3, 4, 5, 6, 7, 8, 9, 10, 0] 11 rfl (by decide +kernel) rfl : List.Perm _ ([celW K nA F, celW K aA Ga, celW K (d 0) (D 0), celW K (d 1) (D 1), celW K (e 0) (S 0), celW K (e 1) (S 1), celW K (e 2) (S 2), celW K (e 3) (S 3), celW K (e 4) (S 4), celW K (e 5) (S 5), mainW K b (nA 0) (aA 0) (fun i => some (d i 0)) (fun i => some (e i 0)) T])) ?_
  refine J_callVd C0 (mX1_sign l K b (nA 0) (aA 0) (fun i => some (d i 0)) (fun i => some (e i 0)) T hn h60 (i := i) (by omega)) [celW K nA F, celW K aA Ga, celW K (d 0) (D 0), celW K (d 1) (D 1), celW K (e 0) (S 0), celW K (e 1) (S 1), celW K (e 2) (S 2), celW K (e 3) (S 3), celW K (e 4) (S 4), celW K (e 5) (S 5)] [celW K nA F, celW K aA Ga, celW K (d 0) (D 0), celW K (d 1) (D 1), celW K (e 0) (S 0), celW K (e 1) (S 1), celW K (e 2) (S 2), celW K (e 3) (S 3), celW K (e 4) (S 4), celW K (e 5) (S 5), mainW K b (nA 0) (aA 0) (fun i => some (d i 0)) (fun i => some (e i 0)) T] gX4_doOrder_X1_sign dX4_doOrder_5 1 5 (kk := ?_)
  refine J_perm (permI [10, 0, 1, 2, 3, 4, 5, 6, 7, 8, 9] 11 rfl (by decide +kernel) rfl : List.Perm _ (corkW K b nA aA d e F Ga D S T)) ?_
  show J G _ _ _ _ _ [.int (signS T n i)]
  refine J_isn C0 [(2, .int (signS T n i)), (0, .ref (b 0)), (1, .int (nI i))] dX4_doOrder_8 (kk := ?_)
  refine J_aln C0 1 dX4_doOrder_9 (kk := ?_)
  refine J_get C0 iX4 0 0 5 f37 dX4_doOrder_10 (kk := ?_)
  refine J_iln C0 2 dX4_doOrder_13 (kk := ?_)
  refine J_ic C0 1 dX4_doOrder_14 (kk := ?_)
  refine J_iaddN C0 dX4_doOrder_15 ?_
  refine J_perm (permI [1, 2, 3, 4, 5, 6, 7, 8, 9, 10, 0] 11 rfl (by decide +kernel) rfl : List.Perm _ ([celW K nA F, celW K aA Ga, celW K (d 0) (D 0), celW K (d 1) (D 1), celW K (e 0) (S 0), celW K (e 1) (S 1), celW K (e 2) (S 2), celW K (e 3) (S 3), celW K (e 4) (S 4), celW K (e 5) (S 5), mainW K b (nA 0) (aA 0) (fun i => some (d i 0)) (fun i => some (e i 0)) T])) ?_
  refine J_callVd C0 (mX1_digit l K b (nA 0) (aA 0) (fun i => some (d i 0)) (fun i => some (e i 0)) T hn h60 (i := i + 1) (by omega)) [celW K nA F, celW K aA Ga, celW K (d 0) (D 0), celW K (d 1) (D 1), celW K (e 0) (S 0), celW K (e 1) (S 1), celW K (e 2) (S 2), celW K (e 3) (S 3), celW K (e 4) (S 4), celW K (e 5) (S 5)] [celW K nA F, celW K aA Ga, celW K (d 0) (D 0), celW K (d 1) (D 1), celW K (e 0) (S 0), celW K (e 1) (S 1), celW K (e 2) (S 2), celW K (e 3) (S 3), celW K (e 4) (S 4), celW K (e 5) (S 5), mainW K b (nA 0) (aA 0) (fun i => some (d i 0)) (fun i => some (e i 0)) T] gX4_doOrder_X1_digit dX4_doOrder_16 1 5 (kk := ?_)
  refine J_perm (permI [10, 0, 1, 2, 3, 4, 5, 6, 7, 8, 9] 11 rfl (by decide +kernel) rfl : List.Perm _ (corkW K b nA aA d e F Ga D S T)) ?_
  show J G _ _ _ _ _ [.int (digS T n (i + 1))]
  refine J_isn C0 [(3, .int (digS T n (i + 1))), (2, .int (signS T n i)), (0, .ref (b 0)), (1, .int (nI i))] dX4_doOrder_19 (kk := ?_)
  refine J_iln C0 1 dX4_doOrder_20 (kk := ?_)
  refine J_bi C0 116 dX4_doOrder_21 (kk := ?_)
  refine J_icmpne C0 32 dX4_doOrder_23 (kt := fun c1 => ?_) (kf := fun c1 => ?_)
  · refine J_iln C0 1 dX4_doOrder_32 (kk := ?_)
    refine J_bi C0 100 dX4_doOrder_33 (kk := ?_)
    refine J_icmpne C0 44 dX4_doOrder_35 (kt := fun c2 => ?_) (kf := fun c2 => ?_)
    · exact absurd ho c2
    · refine J_aln C0 2 dX4_doOrder_38 (kk := ?_)
      refine J_iln C0 0 dX4_doOrder_39 (kk := ?_)
      refine J_callVd C0 (mX4_drinkInText_low l K b nA aA d e F Ga D S T hc) [] (corkW K b nA aA d e F Ga D S T) gX4_doOrder_X4_drinkInText dX4_doOrder_40 1 0 (kk := ?_)
      show J G _ _ _ _ _ [.int (nI 0)]
      exact J_zret C0 hF dX4_doOrder_43 (by decide) ⟨rfl, rfl⟩
  · exact absurd c1 hn116

set_option maxHeartbeats 4000000 in
set_option maxRecDepth 100000 in
theorem mX4_doOrder_d_high (l : Launch) (K : KT) (b nA aA : Nat → Nat) (d e : Nat → Nat → Nat) (F Ga : FF) (D S : Nat → FF) (T : FF) {n : Nat} (hn : T 0 1 = nI n) (h60 : n ≤ 60) {i : Nat} (hi : i < 900) (hn116 : ¬ signS T n i = nI 116) (ho : signS T n i = nI 100) (hx : ¬ (digS T n (i + 1)) < 0) (hc : nI 3 ≤ (digS T n (i + 1))) : Ct l K yX4_doOrder wsX4_doOrder rmX4_doOrder [.ref (b 0), .int (nI i)] (corkW K b nA aA d e F Ga D S T) (some (.int (nI 0))) (corkW K b nA aA d e F Ga D S T) := by
  refine CtP_of (cc := cX4_doOrder) (nL := 5) (rt := some .boolean) (own := RX4) (lv0 := [(0, .ref (b 0)), (1, .int (nI i))]) (by decide) rfl (Nat.le_of_ble_eq_true rfl) rfl rfl ?_
  intro G C0 hF _
  have f37 : Cond.fieldLink RX4 37 "CorkPermits" "text" "LCorkPermits$DayText;" ∈ wsX4_doOrder := by decide +kernel
  have iX4 : ∀ w ∈ u_ws RX4 TX4 6, w ∈ wsX4_doOrder := by decide +kernel
  refine J_aln C0 0 dX4_doOrder_0 (kk := ?_)
  refine J_get C0 iX4 0 0 5 f37 dX4_doOrder_1 (kk := ?_)
  refine J_iln C0 1 dX4_doOrder_4 (kk := ?_)
  refine J_perm (permI [1, 2, 3, 4, 5, 6, 7, 8, 9, 10, 0] 11 rfl (by decide +kernel) rfl : List.Perm _ ([celW K nA F, celW K aA Ga, celW K (d 0) (D 0), celW K (d 1) (D 1), celW K (e 0) (S 0), celW K (e 1) (S 1), celW K (e 2) (S 2), celW K (e 3) (S 3), celW K (e 4) (S 4), celW K (e 5) (S 5), mainW K b (nA 0) (aA 0) (fun i => some (d i 0)) (fun i => some (e i 0)) T])) ?_
  refine J_callVd C0 (mX1_sign l K b (nA 0) (aA 0) (fun i => some (d i 0)) (fun i => some (e i 0)) T hn h60 (i := i) (by omega)) [celW K nA F, celW K aA Ga, celW K (d 0) (D 0), celW K (d 1) (D 1), celW K (e 0) (S 0), celW K (e 1) (S 1), celW K (e 2) (S 2), celW K (e 3) (S 3), celW K (e 4) (S 4), celW K (e 5) (S 5)] [celW K nA F, celW K aA Ga, celW K (d 0) (D 0), celW K (d 1) (D 1), celW K (e 0) (S 0), celW K (e 1) (S 1), celW K (e 2) (S 2), celW K (e 3) (S 3), celW K (e 4) (S 4), celW K (e 5) (S 5), mainW K b (nA 0) (aA 0) (fun i => some (d i 0)) (fun i => some (e i 0)) T] gX4_doOrder_X1_sign dX4_doOrder_5 1 5 (kk := ?_)
  refine J_perm (permI [10, 0, 1, 2, 3, 4, 5, 6, 7, 8, 9] 11 rfl (by decide +kernel) rfl : List.Perm _ (corkW K b nA aA d e F Ga D S T)) ?_
  show J G _ _ _ _ _ [.int (signS T n i)]
  refine J_isn C0 [(2, .int (signS T n i)), (0, .ref (b 0)), (1, .int (nI i))] dX4_doOrder_8 (kk := ?_)
  refine J_aln C0 1 dX4_doOrder_9 (kk := ?_)
  refine J_get C0 iX4 0 0 5 f37 dX4_doOrder_10 (kk := ?_)
  refine J_iln C0 2 dX4_doOrder_13 (kk := ?_)
  refine J_ic C0 1 dX4_doOrder_14 (kk := ?_)
  refine J_iaddN C0 dX4_doOrder_15 ?_
  refine J_perm (permI [1, 2, 3, 4, 5, 6, 7, 8, 9, 10, 0] 11 rfl (by decide +kernel) rfl : List.Perm _ ([celW K nA F, celW K aA Ga, celW K (d 0) (D 0), celW K (d 1) (D 1), celW K (e 0) (S 0), celW K (e 1) (S 1), celW K (e 2) (S 2), celW K (e 3) (S 3), celW K (e 4) (S 4), celW K (e 5) (S 5), mainW K b (nA 0) (aA 0) (fun i => some (d i 0)) (fun i => some (e i 0)) T])) ?_
  refine J_callVd C0 (mX1_digit l K b (nA 0) (aA 0) (fun i => some (d i 0)) (fun i => some (e i 0)) T hn h60 (i := i + 1) (by omega)) [celW K nA F, celW K aA Ga, celW K (d 0) (D 0), celW K (d 1) (D 1), celW K (e 0) (S 0), celW K (e 1) (S 1), celW K (e 2) (S 2), celW K (e 3) (S 3), celW K (e 4) (S 4), celW K (e 5) (S 5)] [celW K nA F, celW K aA Ga, celW K (d 0) (D 0), celW K (d 1) (D 1), celW K (e 0) (S 0), celW K (e 1) (S 1), celW K (e 2) (S 2), celW K (e 3) (S 3), celW K (e 4) (S 4), celW K (e 5) (S 5), mainW K b (nA 0) (aA 0) (fun i => some (d i 0)) (fun i => some (e i 0)) T] gX4_doOrder_X1_digit dX4_doOrder_16 1 5 (kk := ?_)
  refine J_perm (permI [10, 0, 1, 2, 3, 4, 5, 6, 7, 8, 9] 11 rfl (by decide +kernel) rfl : List.Perm _ (corkW K b nA aA d e F Ga D S T)) ?_
  show J G _ _ _ _ _ [.int (digS T n (i + 1))]
  refine J_isn C0 [(3, .int (digS T n (i + 1))), (2, .int (signS T n i)), (0, .ref (b 0)), (1, .int (nI i))] dX4_doOrder_19 (kk := ?_)
  refine J_iln C0 1 dX4_doOrder_20 (kk := ?_)
  refine J_bi C0 116 dX4_doOrder_21 (kk := ?_)
  refine J_icmpne C0 32 dX4_doOrder_23 (kt := fun c1 => ?_) (kf := fun c1 => ?_)
  · refine J_iln C0 1 dX4_doOrder_32 (kk := ?_)
    refine J_bi C0 100 dX4_doOrder_33 (kk := ?_)
    refine J_icmpne C0 44 dX4_doOrder_35 (kt := fun c2 => ?_) (kf := fun c2 => ?_)
    · exact absurd ho c2
    · refine J_aln C0 2 dX4_doOrder_38 (kk := ?_)
      refine J_iln C0 0 dX4_doOrder_39 (kk := ?_)
      refine J_callVd C0 (mX4_drinkInText_high l K b nA aA d e F Ga D S T hx hc) [] (corkW K b nA aA d e F Ga D S T) gX4_doOrder_X4_drinkInText dX4_doOrder_40 1 0 (kk := ?_)
      show J G _ _ _ _ _ [.int (nI 0)]
      exact J_zret C0 hF dX4_doOrder_43 (by decide) ⟨rfl, rfl⟩
  · exact absurd c1 hn116

set_option maxHeartbeats 4000000 in
set_option maxRecDepth 100000 in
theorem mX4_doOrder_place (l : Launch) (K : KT) (b nA aA : Nat → Nat) (d e : Nat → Nat → Nat) (F Ga : FF) (D S : Nat → FF) (T : FF) {n : Nat} (hn : T 0 1 = nI n) (h60 : n ≤ 60) {i : Nat} (hi : i < 900) (hn116 : ¬ signS T n i = nI 116) (hn100 : ¬ signS T n i = nI 100) (hp : ¬ isPl F (digS T n (i + 1)) (digS T n (i + 2))) : Ct l K yX4_doOrder wsX4_doOrder rmX4_doOrder [.ref (b 0), .int (nI i)] (corkW K b nA aA d e F Ga D S T) (some (.int (nI 0))) (corkW K b nA aA d e F Ga D S T) := by
  refine CtP_of (cc := cX4_doOrder) (nL := 5) (rt := some .boolean) (own := RX4) (lv0 := [(0, .ref (b 0)), (1, .int (nI i))]) (by decide) rfl (Nat.le_of_ble_eq_true rfl) rfl rfl ?_
  intro G C0 hF _
  have f37 : Cond.fieldLink RX4 37 "CorkPermits" "text" "LCorkPermits$DayText;" ∈ wsX4_doOrder := by decide +kernel
  have iX4 : ∀ w ∈ u_ws RX4 TX4 6, w ∈ wsX4_doOrder := by decide +kernel
  refine J_aln C0 0 dX4_doOrder_0 (kk := ?_)
  refine J_get C0 iX4 0 0 5 f37 dX4_doOrder_1 (kk := ?_)
  refine J_iln C0 1 dX4_doOrder_4 (kk := ?_)
  refine J_perm (permI [1, 2, 3, 4, 5, 6, 7, 8, 9, 10, 0] 11 rfl (by decide +kernel) rfl : List.Perm _ ([celW K nA F, celW K aA Ga, celW K (d 0) (D 0), celW K (d 1) (D 1), celW K (e 0) (S 0), celW K (e 1) (S 1), celW K (e 2) (S 2), celW K (e 3) (S 3), celW K (e 4) (S 4), celW K (e 5) (S 5), mainW K b (nA 0) (aA 0) (fun i => some (d i 0)) (fun i => some (e i 0)) T])) ?_
  refine J_callVd C0 (mX1_sign l K b (nA 0) (aA 0) (fun i => some (d i 0)) (fun i => some (e i 0)) T hn h60 (i := i) (by omega)) [celW K nA F, celW K aA Ga, celW K (d 0) (D 0), celW K (d 1) (D 1), celW K (e 0) (S 0), celW K (e 1) (S 1), celW K (e 2) (S 2), celW K (e 3) (S 3), celW K (e 4) (S 4), celW K (e 5) (S 5)] [celW K nA F, celW K aA Ga, celW K (d 0) (D 0), celW K (d 1) (D 1), celW K (e 0) (S 0), celW K (e 1) (S 1), celW K (e 2) (S 2), celW K (e 3) (S 3), celW K (e 4) (S 4), celW K (e 5) (S 5), mainW K b (nA 0) (aA 0) (fun i => some (d i 0)) (fun i => some (e i 0)) T] gX4_doOrder_X1_sign dX4_doOrder_5 1 5 (kk := ?_)
  refine J_perm (permI [10, 0, 1, 2, 3, 4, 5, 6, 7, 8, 9] 11 rfl (by decide +kernel) rfl : List.Perm _ (corkW K b nA aA d e F Ga D S T)) ?_
  show J G _ _ _ _ _ [.int (signS T n i)]
  refine J_isn C0 [(2, .int (signS T n i)), (0, .ref (b 0)), (1, .int (nI i))] dX4_doOrder_8 (kk := ?_)
  refine J_aln C0 1 dX4_doOrder_9 (kk := ?_)
  refine J_get C0 iX4 0 0 5 f37 dX4_doOrder_10 (kk := ?_)
  refine J_iln C0 2 dX4_doOrder_13 (kk := ?_)
  refine J_ic C0 1 dX4_doOrder_14 (kk := ?_)
  refine J_iaddN C0 dX4_doOrder_15 ?_
  refine J_perm (permI [1, 2, 3, 4, 5, 6, 7, 8, 9, 10, 0] 11 rfl (by decide +kernel) rfl : List.Perm _ ([celW K nA F, celW K aA Ga, celW K (d 0) (D 0), celW K (d 1) (D 1), celW K (e 0) (S 0), celW K (e 1) (S 1), celW K (e 2) (S 2), celW K (e 3) (S 3), celW K (e 4) (S 4), celW K (e 5) (S 5), mainW K b (nA 0) (aA 0) (fun i => some (d i 0)) (fun i => some (e i 0)) T])) ?_
  refine J_callVd C0 (mX1_digit l K b (nA 0) (aA 0) (fun i => some (d i 0)) (fun i => some (e i 0)) T hn h60 (i := i + 1) (by omega)) [celW K nA F, celW K aA Ga, celW K (d 0) (D 0), celW K (d 1) (D 1), celW K (e 0) (S 0), celW K (e 1) (S 1), celW K (e 2) (S 2), celW K (e 3) (S 3), celW K (e 4) (S 4), celW K (e 5) (S 5)] [celW K nA F, celW K aA Ga, celW K (d 0) (D 0), celW K (d 1) (D 1), celW K (e 0) (S 0), celW K (e 1) (S 1), celW K (e 2) (S 2), celW K (e 3) (S 3), celW K (e 4) (S 4), celW K (e 5) (S 5), mainW K b (nA 0) (aA 0) (fun i => some (d i 0)) (fun i => some (e i 0)) T] gX4_doOrder_X1_digit dX4_doOrder_16 1 5 (kk := ?_)
  refine J_perm (permI [10, 0, 1, 2, 3, 4, 5, 6, 7, 8, 9] 11 rfl (by decide +kernel) rfl : List.Perm _ (corkW K b nA aA d e F Ga D S T)) ?_
  show J G _ _ _ _ _ [.int (digS T n (i + 1))]
  refine J_isn C0 [(3, .int (digS T n (i + 1))), (2, .int (signS T n i)), (0, .ref (b 0)), (1, .int (nI i))] dX4_doOrder_19 (kk := ?_)
  refine J_iln C0 1 dX4_doOrder_20 (kk := ?_)
  refine J_bi C0 116 dX4_doOrder_21 (kk := ?_)
  refine J_icmpne C0 32 dX4_doOrder_23 (kt := fun c1 => ?_) (kf := fun c1 => ?_)
  · refine J_iln C0 1 dX4_doOrder_32 (kk := ?_)
    refine J_bi C0 100 dX4_doOrder_33 (kk := ?_)
    refine J_icmpne C0 44 dX4_doOrder_35 (kt := fun c2 => ?_) (kf := fun c2 => ?_)
    · refine J_aln C0 2 dX4_doOrder_44 (kk := ?_)
      refine J_get C0 iX4 0 0 5 f37 dX4_doOrder_45 (kk := ?_)
      refine J_iln C0 3 dX4_doOrder_48 (kk := ?_)
      refine J_ic C0 2 dX4_doOrder_49 (kk := ?_)
      refine J_iaddN C0 dX4_doOrder_50 ?_
      refine J_perm (permI [1, 2, 3, 4, 5, 6, 7, 8, 9, 10, 0] 11 rfl (by decide +kernel) rfl : List.Perm _ ([celW K nA F, celW K aA Ga, celW K (d 0) (D 0), celW K (d 1) (D 1), celW K (e 0) (S 0), celW K (e 1) (S 1), celW K (e 2) (S 2), celW K (e 3) (S 3), celW K (e 4) (S 4), celW K (e 5) (S 5), mainW K b (nA 0) (aA 0) (fun i => some (d i 0)) (fun i => some (e i 0)) T])) ?_
      refine J_callVd C0 (mX1_digit l K b (nA 0) (aA 0) (fun i => some (d i 0)) (fun i => some (e i 0)) T hn h60 (i := i + 2) (by omega)) [celW K nA F, celW K aA Ga, celW K (d 0) (D 0), celW K (d 1) (D 1), celW K (e 0) (S 0), celW K (e 1) (S 1), celW K (e 2) (S 2), celW K (e 3) (S 3), celW K (e 4) (S 4), celW K (e 5) (S 5)] [celW K nA F, celW K aA Ga, celW K (d 0) (D 0), celW K (d 1) (D 1), celW K (e 0) (S 0), celW K (e 1) (S 1), celW K (e 2) (S 2), celW K (e 3) (S 3), celW K (e 4) (S 4), celW K (e 5) (S 5), mainW K b (nA 0) (aA 0) (fun i => some (d i 0)) (fun i => some (e i 0)) T] gX4_doOrder_X1_digit dX4_doOrder_51 1 5 (kk := ?_)
      refine J_perm (permI [10, 0, 1, 2, 3, 4, 5, 6, 7, 8, 9] 11 rfl (by decide +kernel) rfl : List.Perm _ (corkW K b nA aA d e F Ga D S T)) ?_
      show J G _ _ _ _ _ [.int (digS T n (i + 2))]
      refine J_is C0 [(4, .int (digS T n (i + 2))), (3, .int (digS T n (i + 1))), (2, .int (signS T n i)), (0, .ref (b 0)), (1, .int (nI i))] dX4_doOrder_54 (kk := ?_)
      refine J_aln C0 3 dX4_doOrder_56 (kk := ?_)
      refine J_iln C0 1 dX4_doOrder_57 (kk := ?_)
      refine J_il C0 0 dX4_doOrder_58 (kk := ?_)
      refine J_callVd C0 (mX4_isPlace l K b nA aA d e F Ga D S T (digS T n (i + 1)) (digS T n (i + 2))) [] (corkW K b nA aA d e F Ga D S T) gX4_doOrder_X4_isPlace dX4_doOrder_60 2 0 (kk := ?_)
      show J G _ _ _ _ _ [.int (if isPl F (digS T n (i + 1)) (digS T n (i + 2)) then nI 1 else nI 0)]
      refine J_ifneB C0 68 dX4_doOrder_63 (kt := fun c3 => ?_) (kf := fun c3 => ?_)
      · exact absurd c3 hp
      · refine J_ic C0 0 dX4_doOrder_66 (kk := ?_)
        exact J_zret C0 hF dX4_doOrder_67 (by decide) ⟨rfl, rfl⟩
    · exact absurd c2 hn100
  · exact absurd c1 hn116

