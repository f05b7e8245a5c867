/-! the specs of the leaves, in the words of F -/
def outS (F : FF) (p : Nat) : Int32 := F 7 p - F 8 p
def corksS (F : FF) (p : Nat) : Int32 := F 9 p - F 10 p
def outK (F : FF) (k : Nat) : Int32 := nI 0 + (F 7 k - F 8 k) + (F 7 (k + 3) - F 8 (k + 3)) + (F 7 (k + 3 + 3) - F 8 (k + 3 + 3)) + (F 7 (k + 3 + 3 + 3) - F 8 (k + 3 + 3 + 3))
def freeS (F : FF) (k : Nat) : Int32 := F 2 k - F 3 k - outK F k
abbrev roomS (F : FF) : Prop := ¬ nI 40 ≤ F 0 4
abbrev canLendS (F : FF) (k : Nat) : Prop := ¬ freeS F k ≤ 0 ∧ roomS F
abbrev rmX0_out : Room := { frames := 0, cells := 0, slots := 0, locals := 0 }
set_option maxHeartbeats 4000000 in
set_option maxRecDepth 100000 in
theorem mX0_out (l : Launch) (K : KT) (a : Nat → Nat) (F : FF) {p : Nat} (hp : p < 12) : Ct l K yX0_out wsX0_out rmX0_out [.ref (a 0), .int (nI p)] [celW K a F] (some (.int (outS F p))) [celW K a F] := by
  refine CtP_of (cc := cX0_out) (nL := 2) (rt := some .int) (own := RX0) (lv0 := [(0, .ref (a 0)), (1, .int (nI p))]) (by decide) rfl (Nat.le_of_ble_eq_true rfl) rfl rfl ?_
  intro G C0 hF _
  have f30 : Cond.fieldLink RX0 30 "CorkPermits$Cellar" "lent" "[I" ∈ wsX0_out := by decide +kernel
  have iX0 : ∀ w ∈ u_ws RX0 TX0 14, w ∈ wsX0_out := by decide +kernel
  have f33 : Cond.fieldLink RX0 33 "CorkPermits$Cellar" "accounted" "[I" ∈ wsX0_out := by decide +kernel
  refine J_aln C0 0 dX0_out_0 (kk := ?_)
  refine J_get C0 iX0 0 0 8 f30 dX0_out_1 (kk := ?_)
  refine J_iln C0 1 dX0_out_4 (kk := ?_)
  refine J_iald C0 0 7 12 dX0_out_5 (by omega) (kk := ?_)
  refine J_aln C0 0 dX0_out_6 (kk := ?_)
  refine J_get C0 iX0 0 0 9 f33 dX0_out_7 (kk := ?_)
  refine J_iln C0 1 dX0_out_10 (kk := ?_)
  refine J_iald C0 0 8 12 dX0_out_11 (by omega) (kk := ?_)
  refine J_isub C0 dX0_out_12 ?_
  exact J_iret C0 hF dX0_out_13 ⟨rfl, rfl⟩

abbrev rmX0_corks : Room := { frames := 0, cells := 0, slots := 0, locals := 0 }
set_option maxHeartbeats 4000000 in
set_option maxRecDepth 100000 in
theorem mX0_corks (l : Launch) (K : KT) (a : Nat → Nat) (F : FF) {p : Nat} (hp : p < 12) : Ct l K yX0_corks wsX0_corks rmX0_corks [.ref (a 0), .int (nI p)] [celW K a F] (some (.int (corksS F p))) [celW K a F] := by
  refine CtP_of (cc := cX0_corks) (nL := 2) (rt := some .int) (own := RX0) (lv0 := [(0, .ref (a 0)), (1, .int (nI p))]) (by decide) rfl (Nat.le_of_ble_eq_true rfl) rfl rfl ?_
  intro G C0 hF _
  have f36 : Cond.fieldLink RX0 36 "CorkPermits$Cellar" "told" "[I" ∈ wsX0_corks := by decide +kernel
  have iX0 : ∀ w ∈ u_ws RX0 TX0 14, w ∈ wsX0_corks := by decide +kernel
  have f39 : Cond.fieldLink RX0 39 "CorkPermits$Cellar" "poured" "[I" ∈ wsX0_corks := by decide +kernel
  refine J_aln C0 0 dX0_corks_0 (kk := ?_)
  refine J_get C0 iX0 0 0 10 f36 dX0_corks_1 (kk := ?_)
  refine J_iln C0 1 dX0_corks_4 (kk := ?_)
  refine J_iald C0 0 9 12 dX0_corks_5 (by omega) (kk := ?_)
  refine J_aln C0 0 dX0_corks_6 (kk := ?_)
  refine J_get C0 iX0 0 0 11 f39 dX0_corks_7 (kk := ?_)
  refine J_iln C0 1 dX0_corks_10 (kk := ?_)
  refine J_iald C0 0 10 12 dX0_corks_11 (by omega) (kk := ?_)
  refine J_isub C0 dX0_corks_12 ?_
  exact J_iret C0 hF dX0_corks_13 ⟨rfl, rfl⟩

abbrev rmX3_hasRoom : Room := { frames := 0, cells := 0, slots := 0, locals := 0 }
set_option maxHeartbeats 4000000 in
set_option maxRecDepth 100000 in
theorem mX3_hasRoom (l : Launch) (K : KT) (a : Nat → Nat) (F : FF) : Ct l K yX3_hasRoom wsX3_hasRoom rmX3_hasRoom [.ref (a 12)] [celW K a F] (some (.int (if roomS F then nI 1 else nI 0))) [celW K a F] := by
  refine CtP_of (cc := cX3_hasRoom) (nL := 1) (rt := some .boolean) (own := RX3) (lv0 := [(0, .ref (a 12))]) (by decide) rfl (Nat.le_of_ble_eq_true rfl) rfl rfl ?_
  intro G C0 hF _
  have f24 : Cond.fieldLink RX3 24 "CorkPermits$Post" "underWay" "I" ∈ wsX3_hasRoom := by decide +kernel
  have iX3 : ∀ w ∈ u_ws RX3 TX3 7, w ∈ wsX3_hasRoom := by decide +kernel
  refine J_aln C0 0 dX3_hasRoom_0 (kk := ?_)
  refine J_get C0 iX3 0 12 2 f24 dX3_hasRoom_1 (kk := ?_)
  refine J_bi C0 40 dX3_hasRoom_4 (kk := ?_)
  refine J_icmpge C0 13 dX3_hasRoom_6 (kt := fun c1 => ?_) (kf := fun c1 => ?_)
  · refine J_ic C0 0 dX3_hasRoom_13 (kk := ?_)
    exact J_zret C0 hF dX3_hasRoom_14 (by decide) ⟨by simp only [roomS, canLendS, c1, not_false_eq_true, not_true_eq_false, and_true, true_and, and_false, false_and, and_self, or_true, true_or, or_false, false_or, if_true, if_false, ite_true, ite_false], rfl⟩
  · refine J_ic C0 1 dX3_hasRoom_9 (kk := ?_)
    refine J_goto C0 14 dX3_hasRoom_10 (kk := ?_)
    exact J_zret C0 hF dX3_hasRoom_14 (by decide) ⟨by simp only [roomS, canLendS, c1, not_false_eq_true, not_true_eq_false, and_true, true_and, and_false, false_and, and_self, or_true, true_or, or_false, false_or, if_true, if_false, ite_true, ite_false], rfl⟩

abbrev rmX0_canWait : Room := { frames := 0, cells := 0, slots := 0, locals := 0 }
set_option maxHeartbeats 4000000 in
set_option maxRecDepth 100000 in
theorem mX0_canWait (l : Launch) (K : KT) (a : Nat → Nat) (F : FF) {p : Nat} (hp : p < 12) : Ct l K yX0_canWait wsX0_canWait rmX0_canWait [.ref (a 0), .int (nI p)] [celW K a F] (some (.int (if ¬ nI 9 ≤ F 11 p then nI 1 else nI 0))) [celW K a F] := by
  refine CtP_of (cc := cX0_canWait) (nL := 2) (rt := some .boolean) (own := RX0) (lv0 := [(0, .ref (a 0)), (1, .int (nI p))]) (by decide) rfl (Nat.le_of_ble_eq_true rfl) rfl rfl ?_
  intro G C0 hF _
  have f42 : Cond.fieldLink RX0 42 "CorkPermits$Cellar" "waiting" "[I" ∈ wsX0_canWait := by decide +kernel
  have iX0 : ∀ w ∈ u_ws RX0 TX0 14, w ∈ wsX0_canWait := by decide +kernel
  refine J_aln C0 0 dX0_canWait_0 (kk := ?_)
  refine J_get C0 iX0 0 0 12 f42 dX0_canWait_1 (kk := ?_)
  refine J_iln C0 1 dX0_canWait_4 (kk := ?_)
  refine J_iald C0 0 11 12 dX0_canWait_5 (by omega) (kk := ?_)
  refine J_bi C0 9 dX0_canWait_6 (kk := ?_)
  refine J_icmpge C0 15 dX0_canWait_8 (kt := fun c1 => ?_) (kf := fun c1 => ?_)
  · refine J_ic C0 0 dX0_canWait_15 (kk := ?_)
    exact J_zret C0 hF dX0_canWait_16 (by decide) ⟨by simp only [roomS, canLendS, c1, not_false_eq_true, not_true_eq_false, and_true, true_and, and_false, false_and, and_self, or_true, true_or, or_false, false_or, if_true, if_false, ite_true, ite_false], rfl⟩
  · refine J_ic C0 1 dX0_canWait_11 (kk := ?_)
    refine J_goto C0 16 dX0_canWait_12 (kk := ?_)
    exact J_zret C0 hF dX0_canWait_16 (by decide) ⟨by simp only [roomS, canLendS, c1, not_false_eq_true, not_true_eq_false, and_true, true_and, and_false, false_and, and_self, or_true, true_or, or_false, false_or, if_true, if_false, ite_true, ite_false], rfl⟩

abbrev rmX0_outOfKind : Room := { frames := 0, cells := 0, slots := 0, locals := 0 }
set_option maxHeartbeats 4000000 in
set_option maxRecDepth 100000 in
theorem mX0_outOfKind (l : Launch) (K : KT) (a : Nat → Nat) (F : FF) {k : Nat} (hk : k < 3) : Ct l K yX0_outOfKind wsX0_outOfKind rmX0_outOfKind [.ref (a 0), .int (nI k)] [celW K a F] (some (.int (outK F k))) [celW K a F] := by
  refine CtP_of (cc := cX0_outOfKind) (nL := 4) (rt := some .int) (own := RX0) (lv0 := [(0, .ref (a 0)), (1, .int (nI k))]) (by decide) rfl (Nat.le_of_ble_eq_true rfl) rfl rfl ?_
  intro G C0 hF _
  have f30 : Cond.fieldLink RX0 30 "CorkPermits$Cellar" "lent" "[I" ∈ wsX0_outOfKind := by decide +kernel
  have iX0 : ∀ w ∈ u_ws RX0 TX0 14, w ∈ wsX0_outOfKind := by decide +kernel
  have f33 : Cond.fieldLink RX0 33 "CorkPermits$Cellar" "accounted" "[I" ∈ wsX0_outOfKind := by decide +kernel
  refine J_ic C0 0 dX0_outOfKind_0 (kk := ?_)
  refine J_isn C0 [(2, .int (nI 0)), (0, .ref (a 0)), (1, .int (nI k))] dX0_outOfKind_1 (kk := ?_)
  refine J_iln C0 2 dX0_outOfKind_2 (kk := ?_)
  refine J_isn C0 [(3, .int (nI k)), (2, .int (nI 0)), (0, .ref (a 0)), (1, .int (nI k))] dX0_outOfKind_3 (kk := ?_)
  refine J_iln C0 0 dX0_outOfKind_4 (kk := ?_)
  refine J_bi C0 12 dX0_outOfKind_5 (kk := ?_)
  refine J_icmpgeN C0 32 (by omega) (by omega) dX0_outOfKind_7 (kt := fun c1 => ?_) (kf := fun c1 => ?_)
  · exfalso; omega
  · refine J_iln C0 1 dX0_outOfKind_10 (kk := ?_)
    refine J_aln C0 2 dX0_outOfKind_11 (kk := ?_)
    refine J_get C0 iX0 0 0 8 f30 dX0_outOfKind_12 (kk := ?_)
    refine J_iln C0 0 dX0_outOfKind_15 (kk := ?_)
    refine J_iald C0 0 7 12 dX0_outOfKind_16 (by omega) (kk := ?_)
    refine J_aln C0 2 dX0_outOfKind_17 (kk := ?_)
    refine J_get C0 iX0 0 0 9 f33 dX0_outOfKind_18 (kk := ?_)
    refine J_iln C0 0 dX0_outOfKind_21 (kk := ?_)
    refine J_iald C0 0 8 12 dX0_outOfKind_22 (by omega) (kk := ?_)
    refine J_isub C0 dX0_outOfKind_23 ?_
    refine J_iadd C0 dX0_outOfKind_24 ?_
    refine J_isn C0 [(2, .int ((nI 0) + ((F 7 k) - (F 8 k)))), (3, .int (nI k)), (0, .ref (a 0)), (1, .int (nI k))] dX0_outOfKind_25 (kk := ?_)
    refine J_iincN C0 1 [(3, .int (nI (k + 3))), (2, .int ((nI 0) + ((F 7 k) - (F 8 k)))), (0, .ref (a 0)), (1, .int (nI k))] dX0_outOfKind_26 (kk := ?_)
    refine J_goto C0 4 dX0_outOfKind_29 (kk := ?_)
    refine J_iln C0 0 dX0_outOfKind_4 (kk := ?_)
    refine J_bi C0 12 dX0_outOfKind_5 (kk := ?_)
    refine J_icmpgeN C0 32 (by omega) (by omega) dX0_outOfKind_7 (kt := fun c2 => ?_) (kf := fun c2 => ?_)
    · exfalso; omega
    · refine J_iln C0 1 dX0_outOfKind_10 (kk := ?_)
      refine J_aln C0 2 dX0_outOfKind_11 (kk := ?_)
      refine J_get C0 iX0 0 0 8 f30 dX0_outOfKind_12 (kk := ?_)
      refine J_iln C0 0 dX0_outOfKind_15 (kk := ?_)
      refine J_iald C0 0 7 12 dX0_outOfKind_16 (by omega) (kk := ?_)
      refine J_aln C0 2 dX0_outOfKind_17 (kk := ?_)
      refine J_get C0 iX0 0 0 9 f33 dX0_outOfKind_18 (kk := ?_)
      refine J_iln C0 0 dX0_outOfKind_21 (kk := ?_)
      refine J_iald C0 0 8 12 dX0_outOfKind_22 (by omega) (kk := ?_)
      refine J_isub C0 dX0_outOfKind_23 ?_
      refine J_iadd C0 dX0_outOfKind_24 ?_
      refine J_isn C0 [(2, .int (((nI 0) + ((F 7 k) - (F 8 k))) + ((F 7 (k + 3)) - (F 8 (k + 3))))), (3, .int (nI (k + 3))), (0, .ref (a 0)), (1, .int (nI k))] dX0_outOfKind_25 (kk := ?_)
      refine J_iincN C0 1 [(3, .int (nI (k + 3 + 3))), (2, .int (((nI 0) + ((F 7 k) - (F 8 k))) + ((F 7 (k + 3)) - (F 8 (k + 3))))), (0, .ref (a 0)), (1, .int (nI k))] dX0_outOfKind_26 (kk := ?_)
      refine J_goto C0 4 dX0_outOfKind_29 (kk := ?_)
      refine J_iln C0 0 dX0_outOfKind_4 (kk := ?_)
      refine J_bi C0 12 dX0_outOfKind_5 (kk := ?_)
      refine J_icmpgeN C0 32 (by omega) (by omega) dX0_outOfKind_7 (kt := fun c3 => ?_) (kf := fun c3 => ?_)
      · exfalso; omega
      · refine J_iln C0 1 dX0_outOfKind_10 (kk := ?_)
        refine J_aln C0 2 dX0_outOfKind_11 (kk := ?_)
        refine J_get C0 iX0 0 0 8 f30 dX0_outOfKind_12 (kk := ?_)
        refine J_iln C0 0 dX0_outOfKind_15 (kk := ?_)
        refine J_iald C0 0 7 12 dX0_outOfKind_16 (by omega) (kk := ?_)
        refine J_aln C0 2 dX0_outOfKind_17 (kk := ?_)
        refine J_get C0 iX0 0 0 9 f33 dX0_outOfKind_18 (kk := ?_)
        refine J_iln C0 0 dX0_outOfKind_21 (kk := ?_)
        refine J_iald C0 0 8 12 dX0_outOfKind_22 (by omega) (kk := ?_)
        refine J_isub C0 dX0_outOfKind_23 ?_
        refine J_iadd C0 dX0_outOfKind_24 ?_
        refine J_isn C0 [(2, .int ((((nI 0) + ((F 7 k) - (F 8 k))) + ((F 7 (k + 3)) - (F 8 (k + 3)))) + ((F 7 (k + 3 + 3)) - (F 8 (k + 3 + 3))))), (3, .int (nI (k + 3 + 3))), (0, .ref (a 0)), (1, .int (nI k))] dX0_outOfKind_25 (kk := ?_)
        refine J_iincN C0 1 [(3, .int (nI (k + 3 + 3 + 3))), (2, .int ((((nI 0) + ((F 7 k) - (F 8 k))) + ((F 7 (k + 3)) - (F 8 (k + 3)))) + ((F 7 (k + 3 + 3)) - (F 8 (k + 3 + 3))))), (0, .ref (a 0)), (1, .int (nI k))] dX0_outOfKind_26 (kk := ?_)
        refine J_goto C0 4 dX0_outOfKind_29 (kk := ?_)
        refine J_iln C0 0 dX0_outOfKind_4 (kk := ?_)
        refine J_bi C0 12 dX0_outOfKind_5 (kk := ?_)
        refine J_icmpgeN C0 32 (by omega) (by omega) dX0_outOfKind_7 (kt := fun c4 => ?_) (kf := fun c4 => ?_)
        · exfalso; omega
        · refine J_iln C0 1 dX0_outOfKind_10 (kk := ?_)
          refine J_aln C0 2 dX0_outOfKind_11 (kk := ?_)
          refine J_get C0 iX0 0 0 8 f30 dX0_outOfKind_12 (kk := ?_)
          refine J_iln C0 0 dX0_outOfKind_15 (kk := ?_)
          refine J_iald C0 0 7 12 dX0_outOfKind_16 (by omega) (kk := ?_)
          refine J_aln C0 2 dX0_outOfKind_17 (kk := ?_)
          refine J_get C0 iX0 0 0 9 f33 dX0_outOfKind_18 (kk := ?_)
          refine J_iln C0 0 dX0_outOfKind_21 (kk := ?_)
          refine J_iald C0 0 8 12 dX0_outOfKind_22 (by omega) (kk := ?_)
          refine J_isub C0 dX0_outOfKind_23 ?_
          refine J_iadd C0 dX0_outOfKind_24 ?_
          refine J_isn C0 [(2, .int (((((nI 0) + ((F 7 k) - (F 8 k))) + ((F 7 (k + 3)) - (F 8 (k + 3)))) + ((F 7 (k + 3 + 3)) - (F 8 (k + 3 + 3)))) + ((F 7 (k + 3 + 3 + 3)) - (F 8 (k + 3 + 3 + 3))))), (3, .int (nI (k + 3 + 3 + 3))), (0, .ref (a 0)), (1, .int (nI k))] dX0_outOfKind_25 (kk := ?_)
          refine J_iincN C0 1 [(3, .int (nI (k + 3 + 3 + 3 + 3))), (2, .int (((((nI 0) + ((F 7 k) - (F 8 k))) + ((F 7 (k + 3)) - (F 8 (k + 3)))) + ((F 7 (k + 3 + 3)) - (F 8 (k + 3 + 3)))) + ((F 7 (k + 3 + 3 + 3)) - (F 8 (k + 3 + 3 + 3))))), (0, .ref (a 0)), (1, .int (nI k))] dX0_outOfKind_26 (kk := ?_)
          refine J_goto C0 4 dX0_outOfKind_29 (kk := ?_)
          refine J_iln C0 0 dX0_outOfKind_4 (kk := ?_)
          refine J_bi C0 12 dX0_outOfKind_5 (kk := ?_)
          refine J_icmpgeN C0 32 (by omega) (by omega) dX0_outOfKind_7 (kt := fun c5 => ?_) (kf := fun c5 => ?_)
          · refine J_iln C0 1 dX0_outOfKind_32 (kk := ?_)
            exact J_iret C0 hF dX0_outOfKind_33 ⟨rfl, rfl⟩
          · exfalso; omega

abbrev rmX0_freeBottles : Room := { frames := 1, cells := 0, slots := 0, locals := 23 }
set_option maxHeartbeats 4000000 in
set_option maxRecDepth 100000 in
theorem mX0_freeBottles (l : Launch) (K : KT) (a : Nat → Nat) (F : FF) {k : Nat} (hk : k < 3) : Ct l K yX0_freeBottles wsX0_freeBottles rmX0_freeBottles [.ref (a 0), .int (nI k)] [celW K a F] (some (.int (freeS F k))) [celW K a F] := by
  refine CtP_of (cc := cX0_freeBottles) (nL := 2) (rt := some .int) (own := RX0) (lv0 := [(0, .ref (a 0)), (1, .int (nI k))]) (by decide) rfl (Nat.le_of_ble_eq_true rfl) rfl rfl ?_
  intro G C0 hF _
  have f15 : Cond.fieldLink RX0 15 "CorkPermits$Cellar" "bottles" "[I" ∈ wsX0_freeBottles := by decide +kernel
  have iX0 : ∀ w ∈ u_ws RX0 TX0 14, w ∈ wsX0_freeBottles := by decide +kernel
  have f18 : Cond.fieldLink RX0 18 "CorkPermits$Cellar" "full" "[I" ∈ wsX0_freeBottles := by decide +kernel
  refine J_aln C0 0 dX0_freeBottles_0 (kk := ?_)
  refine J_get C0 iX0 0 0 3 f15 dX0_freeBottles_1 (kk := ?_)
  refine J_iln C0 1 dX0_freeBottles_4 (kk := ?_)
  refine J_iald C0 0 2 3 dX0_freeBottles_5 (by omega) (kk := ?_)
  refine J_aln C0 0 dX0_freeBottles_6 (kk := ?_)
  refine J_get C0 iX0 0 0 4 f18 dX0_freeBottles_7 (kk := ?_)
  refine J_iln C0 1 dX0_freeBottles_10 (kk := ?_)
  refine J_iald C0 0 3 3 dX0_freeBottles_11 (by omega) (kk := ?_)
  refine J_isub C0 dX0_freeBottles_12 ?_
  refine J_aln C0 0 dX0_freeBottles_13 (kk := ?_)
  refine J_iln C0 1 dX0_freeBottles_14 (kk := ?_)
  refine J_callVd C0 (mX0_outOfKind l K a F (k := k) (by omega)) [] [celW K a F] gX0_freeBottles_X0_outOfKind dX0_freeBottles_15 1 0 (kk := ?_)
  show J G _ _ _ _ _ [.int (outK F k), .int ((F 2 k) - (F 3 k))]
  refine J_isub C0 dX0_freeBottles_18 ?_
  exact J_iret C0 hF dX0_freeBottles_19 ⟨rfl, rfl⟩

abbrev rmX0_canLend : Room := { frames := 2, cells := 0, slots := 0, locals := 44 }
set_option maxHeartbeats 4000000 in
set_option maxRecDepth 100000 in
theorem mX0_canLend (l : Launch) (K : KT) (a : Nat → Nat) (F : FF) {k : Nat} (hk : k < 3) : Ct l K yX0_canLend wsX0_canLend rmX0_canLend [.ref (a 0), .int (nI k)] [celW K a F] (some (.int (if canLendS F k then nI 1 else nI 0))) [celW K a F] := by
  refine CtP_of (cc := cX0_canLend) (nL := 2) (rt := some .boolean) (own := RX0) (lv0 := [(0, .ref (a 0)), (1, .int (nI k))]) (by decide) rfl (Nat.le_of_ble_eq_true rfl) rfl rfl ?_
  intro G C0 hF _
  have f48 : Cond.fieldLink RX0 48 "CorkPermits$Cellar" "post" "LCorkPermits$Post;" ∈ wsX0_canLend := by decide +kernel
  have iX0 : ∀ w ∈ u_ws RX0 TX0 14, w ∈ wsX0_canLend := by decide +kernel
  refine J_aln C0 0 dX0_canLend_0 (kk := ?_)
  refine J_iln C0 1 dX0_canLend_1 (kk := ?_)
  refine J_callVd C0 (mX0_freeBottles l K a F (k := k) (by omega)) [] [celW K a F] gX0_canLend_X0_freeBottles dX0_canLend_2 1 0 (kk := ?_)
  show J G _ _ _ _ _ [.int (freeS F k)]
  refine J_ifle C0 22 dX0_canLend_5 (kt := fun c1 => ?_) (kf := fun c1 => ?_)
  · refine J_ic C0 0 dX0_canLend_22 (kk := ?_)
    exact J_zret C0 hF dX0_canLend_23 (by decide) ⟨by simp only [roomS, canLendS, c1, not_false_eq_true, not_true_eq_false, and_true, true_and, and_false, false_and, and_self, or_true, true_or, or_false, false_or, if_true, if_false, ite_true, ite_false], rfl⟩
  · refine J_aln C0 0 dX0_canLend_8 (kk := ?_)
    refine J_get C0 iX0 0 0 13 f48 dX0_canLend_9 (kk := ?_)
    refine J_callVd C0 (mX3_hasRoom l K a F) [] [celW K a F] gX0_canLend_X3_hasRoom dX0_canLend_12 0 12 (kk := ?_)
    show J G _ _ _ _ _ [.int (if roomS F then nI 1 else nI 0)]
    refine J_ifeqB C0 22 dX0_canLend_15 (kt := fun c2 => ?_) (kf := fun c2 => ?_)
    · refine J_ic C0 0 dX0_canLend_22 (kk := ?_)
      exact J_zret C0 hF dX0_canLend_23 (by decide) ⟨by simp only [roomS, canLendS, c1, c2, not_false_eq_true, not_true_eq_false, and_true, true_and, and_false, false_and, and_self, or_true, true_or, or_false, false_or, if_true, if_false, ite_true, ite_false], rfl⟩
    · refine J_ic C0 1 dX0_canLend_18 (kk := ?_)
      refine J_goto C0 23 dX0_canLend_19 (kk := ?_)
      exact J_zret C0 hF dX0_canLend_23 (by decide) ⟨by simp only [roomS, canLendS, c1, c2, not_false_eq_true, not_true_eq_false, and_true, true_and, and_false, false_and, and_self, or_true, true_or, or_false, false_or, if_true, if_false, ite_true, ite_false], rfl⟩

