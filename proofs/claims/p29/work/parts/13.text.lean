/-! the buffer, read as a day -/
def signS (T : FF) (n i : Nat) : Int32 := if i < n then T 2 i else -1
def digS (T : FF) (n i : Nat) : Int32 := if ¬ signS T n i < nI 48 ∧ ¬ nI 57 < signS T n i then signS T n i - nI 48 else -1
def olS (T : FF) (n i : Nat) : Nat := if signS T n i = nI 100 ∨ signS T n i = nI 116 then 2 else 3
def awO (c : Int32) : Nat := if c = nI 100 then 2 else if c = nI 108 then 1 else if c = nI 113 then 1 else if c = nI 116 then 3 else if c = nI 119 then 1 else 4
def awS (w : Nat) (c : Int32) : Nat := if w = 0 then awO c else if w = 1 then (if ¬ c < nI 48 ∧ ¬ nI 51 < c then 2 else 4) else if w = 2 then (if ¬ c < nI 48 ∧ ¬ nI 50 < c then 0 else 4) else if w = 3 then (if ¬ c < nI 49 ∧ ¬ nI 57 < c then 0 else 4) else 4
def wv (w : Nat) : Int32 := if w < 4 then nI w else -1
def awAt (T : FF) : Nat → Nat
  | 0 => 0
  | i + 1 => awS (awAt T i) (T 2 i)
def fwGo (T : FF) : Nat → Nat → Nat
  | 0, i => i
  | k + 1, i => if awAt T (i + 1) = 4 then i else fwGo T k (i + 1)
theorem awO_le (c : Int32) : awO c ≤ 4 := by unfold awO; (repeat' split) <;> omega
theorem awS_le (w : Nat) (c : Int32) : awS w c ≤ 4 := by
  unfold awS
  have := awO_le c
  repeat' split
  all_goals omega
theorem awAt_le (T : FF) : ∀ i, awAt T i ≤ 4
  | 0 => Nat.zero_le _
  | i + 1 => awS_le _ _
theorem wv_m1 {w : Nat} (h : w ≤ 4) : wv w = -1 ↔ w = 4 := by
  rcases (show w = 0 ∨ w = 1 ∨ w = 2 ∨ w = 3 ∨ w = 4 by omega) with rfl | rfl | rfl | rfl | rfl <;> decide
theorem wv_0 {w : Nat} (h : w ≤ 4) : wv w = 0 ↔ w = 0 := by
  rcases (show w = 0 ∨ w = 1 ∨ w = 2 ∨ w = 3 ∨ w = 4 by omega) with rfl | rfl | rfl | rfl | rfl <;> decide
abbrev rmX1_sign : Room := { frames := 0, cells := 0, slots := 0, locals := 0 }
set_option maxHeartbeats 4000000 in
set_option maxRecDepth 100000 in
theorem mX1_sign (l : Launch) (K : KT) (b : Nat → Nat) (nw ah : Nat) (sl hs : Nat → Option Nat) (T : FF) {n : Nat} (hn : T 0 1 = nI n) (h60 : n ≤ 60) {i : Nat} (hi : i < 1000) : Ct l K yX1_sign wsX1_sign rmX1_sign [.ref (b 5), .int (nI i)] [mainW K b nw ah sl hs T] (some (.int (signS T n i))) [mainW K b nw ah sl hs T] := by
  refine CtP_of (cc := cX1_sign) (nL := 2) (rt := some .int) (own := RX1) (lv0 := [(0, .ref (b 5)), (1, .int (nI i))]) (by decide) rfl (Nat.le_of_ble_eq_true rfl) rfl rfl ?_
  intro G C0 hF _
  have f15 : Cond.fieldLink RX1 15 "CorkPermits$DayText" "length" "I" ∈ wsX1_sign := by decide +kernel
  have iX1 : ∀ w ∈ u_ws RX1 TX1 2, w ∈ wsX1_sign := by decide +kernel
  have f9 : Cond.fieldLink RX1 9 "CorkPermits$DayText" "codes" "[I" ∈ wsX1_sign := by decide +kernel
  refine J_iln C0 1 dX1_sign_0 (kk := ?_)
  refine J_ifltN C0 (by omega) dX1_sign_1 27 (kk := ?_)
  refine J_iln C0 1 dX1_sign_4 (kk := ?_)
  refine J_aln C0 0 dX1_sign_5 (kk := ?_)
  refine J_get C0 iX1 0 5 1 f15 dX1_sign_6 (v := .int (nI n)) (hv := congrArg (fun z => some (Value.int z)) hn) (kk := ?_)
  refine J_icmpgeN C0 27 (by omega) (by omega) dX1_sign_9 (kt := fun c2 => ?_) (kf := fun c2 => ?_)
  · refine J_icm1 C0 dX1_sign_27 ?_
    exact J_iret C0 hF dX1_sign_28 ⟨by unfold signS; first | (rw [if_pos (by omega)]; done) | (rw [if_neg (by omega)]; done), rfl⟩
  · refine J_iln C0 1 dX1_sign_12 (kk := ?_)
    refine J_bi C0 60 dX1_sign_13 (kk := ?_)
    refine J_icmpgeN C0 27 (by omega) (by omega) dX1_sign_15 (kt := fun c3 => ?_) (kf := fun c3 => ?_)
    · exfalso; omega
    · refine J_aln C0 0 dX1_sign_18 (kk := ?_)
      refine J_get C0 iX1 0 5 0 f9 dX1_sign_19 (kk := ?_)
      refine J_iln C0 1 dX1_sign_22 (kk := ?_)
      refine J_iald C0 0 6 60 dX1_sign_23 (by omega) (kk := ?_)
      refine J_goto C0 28 dX1_sign_24 (kk := ?_)
      exact J_iret C0 hF dX1_sign_28 ⟨by unfold signS; first | (rw [if_pos (by omega)]; done) | (rw [if_neg (by omega)]; done), rfl⟩

abbrev rmX1_digit : Room := { frames := 1, cells := 0, slots := 0, locals := 21 }
set_option maxHeartbeats 4000000 in
set_option maxRecDepth 100000 in
theorem mX1_digit (l : Launch) (K : KT) (b : Nat → Nat) (nw ah : Nat) (sl hs : Nat → Option Nat) (T : FF) {n : Nat} (hn : T 0 1 = nI n) (h60 : n ≤ 60) {i : Nat} (hi : i < 1000) : Ct l K yX1_digit wsX1_digit rmX1_digit [.ref (b 5), .int (nI i)] [mainW K b nw ah sl hs T] (some (.int (digS T n i))) [mainW K b nw ah sl hs T] := by
  refine CtP_of (cc := cX1_digit) (nL := 3) (rt := some .int) (own := RX1) (lv0 := [(0, .ref (b 5)), (1, .int (nI i))]) (by decide) rfl (Nat.le_of_ble_eq_true rfl) rfl rfl ?_
  intro G C0 hF _
  refine J_aln C0 0 dX1_digit_0 (kk := ?_)
  refine J_iln C0 1 dX1_digit_1 (kk := ?_)
  refine J_callVd C0 (mX1_sign l K b nw ah sl hs T hn h60 (i := i) (by omega)) [] [mainW K b nw ah sl hs T] gX1_digit_X1_sign dX1_digit_2 1 5 (kk := ?_)
  show J G _ _ _ _ _ [.int (signS T n i)]
  refine J_isn C0 [(2, .int (signS T n i)), (0, .ref (b 5)), (1, .int (nI i))] dX1_digit_5 (kk := ?_)
  refine J_iln C0 0 dX1_digit_6 (kk := ?_)
  refine J_bi C0 48 dX1_digit_7 (kk := ?_)
  refine J_icmplt C0 25 dX1_digit_9 (kt := fun c1 => ?_) (kf := fun c1 => ?_)
  · refine J_icm1 C0 dX1_digit_25 ?_
    exact J_iret C0 hF dX1_digit_26 ⟨by simp only [digS, c1, not_false_eq_true, not_true_eq_false, and_true, true_and, and_false, false_and, and_self, or_true, true_or, or_false, false_or, if_true, if_false, ite_true, ite_false, eq_self], rfl⟩
  · refine J_iln C0 0 dX1_digit_12 (kk := ?_)
    refine J_bi C0 57 dX1_digit_13 (kk := ?_)
    refine J_icmpgt C0 25 dX1_digit_15 (kt := fun c2 => ?_) (kf := fun c2 => ?_)
    · refine J_icm1 C0 dX1_digit_25 ?_
      exact J_iret C0 hF dX1_digit_26 ⟨by simp only [digS, c1, c2, not_false_eq_true, not_true_eq_false, and_true, true_and, and_false, false_and, and_self, or_true, true_or, or_false, false_or, if_true, if_false, ite_true, ite_false, eq_self], rfl⟩
    · refine J_iln C0 0 dX1_digit_18 (kk := ?_)
      refine J_bi C0 48 dX1_digit_19 (kk := ?_)
      refine J_isub C0 dX1_digit_21 ?_
      refine J_goto C0 26 dX1_digit_22 (kk := ?_)
      exact J_iret C0 hF dX1_digit_26 ⟨by simp only [digS, c1, c2, not_false_eq_true, not_true_eq_false, and_true, true_and, and_false, false_and, and_self, or_true, true_or, or_false, false_or, if_true, if_false, ite_true, ite_false, eq_self], rfl⟩

abbrev rmX1_orderLength : Room := { frames := 1, cells := 0, slots := 0, locals := 21 }
set_option maxHeartbeats 4000000 in
set_option maxRecDepth 100000 in
theorem mX1_orderLength (l : Launch) (K : KT) (b : Nat → Nat) (nw ah : Nat) (sl hs : Nat → Option Nat) (T : FF) {n : Nat} (hn : T 0 1 = nI n) (h60 : n ≤ 60) {i : Nat} (hi : i < 1000) : Ct l K yX1_orderLength wsX1_orderLength rmX1_orderLength [.ref (b 5), .int (nI i)] [mainW K b nw ah sl hs T] (some (.int (nI (olS T n i)))) [mainW K b nw ah sl hs T] := by
  refine CtP_of (cc := cX1_orderLength) (nL := 3) (rt := some .int) (own := RX1) (lv0 := [(0, .ref (b 5)), (1, .int (nI i))]) (by decide) rfl (Nat.le_of_ble_eq_true rfl) rfl rfl ?_
  intro G C0 hF _
  refine J_aln C0 0 dX1_orderLength_0 (kk := ?_)
  refine J_iln C0 1 dX1_orderLength_1 (kk := ?_)
  refine J_callVd C0 (mX1_sign l K b nw ah sl hs T hn h60 (i := i) (by omega)) [] [mainW K b nw ah sl hs T] gX1_orderLength_X1_sign dX1_orderLength_2 1 5 (kk := ?_)
  show J G _ _ _ _ _ [.int (signS T n i)]
  refine J_isn C0 [(2, .int (signS T n i)), (0, .ref (b 5)), (1, .int (nI i))] dX1_orderLength_5 (kk := ?_)
  refine J_iln C0 0 dX1_orderLength_6 (kk := ?_)
  refine J_bi C0 100 dX1_orderLength_7 (kk := ?_)
  refine J_icmpeq C0 18 dX1_orderLength_9 (kt := fun c1 => ?_) (kf := fun c1 => ?_)
  · refine J_ic C0 2 dX1_orderLength_18 (kk := ?_)
    refine J_goto C0 23 dX1_orderLength_19 (kk := ?_)
    exact J_iret C0 hF dX1_orderLength_23 ⟨by unfold olS; rw [if_pos (Or.inl c1)], rfl⟩
  · refine J_iln C0 0 dX1_orderLength_12 (kk := ?_)
    refine J_bi C0 116 dX1_orderLength_13 (kk := ?_)
    refine J_icmpne C0 22 dX1_orderLength_15 (kt := fun c2 => ?_) (kf := fun c2 => ?_)
    · refine J_ic C0 3 dX1_orderLength_22 (kk := ?_)
      exact J_iret C0 hF dX1_orderLength_23 ⟨by unfold olS; rw [if_neg (fun q => q.elim c1 c2)], rfl⟩
    · refine J_ic C0 2 dX1_orderLength_18 (kk := ?_)
      refine J_goto C0 23 dX1_orderLength_19 (kk := ?_)
      exact J_iret C0 hF dX1_orderLength_23 ⟨by unfold olS; rw [if_pos (Or.inr c2)], rfl⟩

abbrev rmX1_awaitedInOrder : Room := { frames := 0, cells := 0, slots := 0, locals := 0 }
set_option maxHeartbeats 4000000 in
set_option maxRecDepth 100000 in
theorem mX1_awaitedInOrder (l : Launch) (K : KT) (c : Int32) : Ct l K yX1_awaitedInOrder wsX1_awaitedInOrder rmX1_awaitedInOrder [.int c] [] (some (.int (wv (awO c)))) [] := by
  refine CtP_of (cc := cX1_awaitedInOrder) (nL := 1) (rt := some .int) (own := RX1) (lv0 := [(0, .int c)]) (by decide) rfl (Nat.le_of_ble_eq_true rfl) rfl rfl ?_
  intro G C0 hF _
  refine J_iln C0 0 dX1_awaitedInOrder_0 (kk := ?_)
  by_cases h100 : c = nI 100
  · subst h100
    refine J_lsw C0 54 dX1_awaitedInOrder_1 (by decide) (kk := ?_)
    refine J_ic C0 2 dX1_awaitedInOrder_54 (kk := ?_)
    exact J_iret C0 hF dX1_awaitedInOrder_55 ⟨by decide, rfl⟩
  by_cases h108 : c = nI 108
  · subst h108
    refine J_lsw C0 52 dX1_awaitedInOrder_1 (by decide) (kk := ?_)
    refine J_ic C0 1 dX1_awaitedInOrder_52 (kk := ?_)
    exact J_iret C0 hF dX1_awaitedInOrder_53 ⟨by decide, rfl⟩
  by_cases h113 : c = nI 113
  · subst h113
    refine J_lsw C0 52 dX1_awaitedInOrder_1 (by decide) (kk := ?_)
    refine J_ic C0 1 dX1_awaitedInOrder_52 (kk := ?_)
    exact J_iret C0 hF dX1_awaitedInOrder_53 ⟨by decide, rfl⟩
  by_cases h116 : c = nI 116
  · subst h116
    refine J_lsw C0 56 dX1_awaitedInOrder_1 (by decide) (kk := ?_)
    refine J_ic C0 3 dX1_awaitedInOrder_56 (kk := ?_)
    exact J_iret C0 hF dX1_awaitedInOrder_57 ⟨by decide, rfl⟩
  by_cases h119 : c = nI 119
  · subst h119
    refine J_lsw C0 52 dX1_awaitedInOrder_1 (by decide) (kk := ?_)
    refine J_ic C0 1 dX1_awaitedInOrder_52 (kk := ?_)
    exact J_iret C0 hF dX1_awaitedInOrder_53 ⟨by decide, rfl⟩
  refine J_lsw C0 58 dX1_awaitedInOrder_1 (by show Op.lookupswitch.offset [(100, 53), (108, 51), (113, 51), (116, 55), (119, 51)] 57 c.toInt = _; rw [lv_osw h100 (by decide), lv_osw h108 (by decide), lv_osw h113 (by decide), lv_osw h116 (by decide), lv_osw h119 (by decide)]; rfl) (kk := ?_)
  refine J_icm1 C0 dX1_awaitedInOrder_58 ?_
  exact J_iret C0 hF dX1_awaitedInOrder_59 ⟨by unfold awO; rw [if_neg h100, if_neg h108, if_neg h113, if_neg h116, if_neg h119]; rfl, rfl⟩

abbrev rmX1_awaitedAfter : Room := { frames := 1, cells := 0, slots := 0, locals := 20 }
set_option maxHeartbeats 4000000 in
set_option maxRecDepth 100000 in
theorem mX1_awaitedAfter_0 (l : Launch) (K : KT) (c : Int32) : Ct l K yX1_awaitedAfter wsX1_awaitedAfter rmX1_awaitedAfter [.int (nI 0), .int c] [] (some (.int (wv (awS 0 c)))) [] := by
  refine CtP_of (cc := cX1_awaitedAfter) (nL := 2) (rt := some .int) (own := RX1) (lv0 := [(0, .int (nI 0)), (1, .int c)]) (by decide) rfl (Nat.le_of_ble_eq_true rfl) rfl rfl ?_
  intro G C0 hF _
  refine J_iln C0 0 dX1_awaitedAfter_0 (kk := ?_)
  refine J_tin C0 32 dX1_awaitedAfter_1 (kk := ?_)
  refine J_iln C0 1 dX1_awaitedAfter_32 (kk := ?_)
  refine J_callSd C0 (mX1_awaitedInOrder l K c) [] [] gX1_awaitedAfter_X1_awaitedInOrder dX1_awaitedAfter_33 1 (kk := ?_)
  show J G _ _ _ _ _ [.int (wv (awO c))]
  exact J_iret C0 hF dX1_awaitedAfter_36 ⟨rfl, rfl⟩

set_option maxHeartbeats 4000000 in
set_option maxRecDepth 100000 in
theorem mX1_awaitedAfter_1 (l : Launch) (K : KT) (c : Int32) : Ct l K yX1_awaitedAfter wsX1_awaitedAfter rmX1_awaitedAfter [.int (nI 1), .int c] [] (some (.int (wv (awS 1 c)))) [] := by
  refine CtP_of (cc := cX1_awaitedAfter) (nL := 2) (rt := some .int) (own := RX1) (lv0 := [(0, .int (nI 1)), (1, .int c)]) (by decide) rfl (Nat.le_of_ble_eq_true rfl) rfl rfl ?_
  intro G C0 hF _
  refine J_iln C0 0 dX1_awaitedAfter_0 (kk := ?_)
  refine J_tin C0 37 dX1_awaitedAfter_1 (kk := ?_)
  refine J_iln C0 1 dX1_awaitedAfter_37 (kk := ?_)
  refine J_bi C0 48 dX1_awaitedAfter_38 (kk := ?_)
  refine J_icmplt C0 53 dX1_awaitedAfter_40 (kt := fun c1 => ?_) (kf := fun c1 => ?_)
  · refine J_icm1 C0 dX1_awaitedAfter_53 ?_
    exact J_iret C0 hF dX1_awaitedAfter_54 ⟨by rw [show awS 1 c = (if ¬ c < nI 48 ∧ ¬ nI 51 < c then 2 else 4) from rfl]; simp only [c1, not_false_eq_true, not_true_eq_false, and_true, true_and, and_false, false_and, and_self, or_true, true_or, or_false, false_or, if_true, if_false, ite_true, ite_false, eq_self]; first | done | rfl, rfl⟩
  · refine J_iln C0 1 dX1_awaitedAfter_43 (kk := ?_)
    refine J_bi C0 51 dX1_awaitedAfter_44 (kk := ?_)
    refine J_icmpgt C0 53 dX1_awaitedAfter_46 (kt := fun c2 => ?_) (kf := fun c2 => ?_)
    · refine J_icm1 C0 dX1_awaitedAfter_53 ?_
      exact J_iret C0 hF dX1_awaitedAfter_54 ⟨by rw [show awS 1 c = (if ¬ c < nI 48 ∧ ¬ nI 51 < c then 2 else 4) from rfl]; simp only [c1, c2, not_false_eq_true, not_true_eq_false, and_true, true_and, and_false, false_and, and_self, or_true, true_or, or_false, false_or, if_true, if_false, ite_true, ite_false, eq_self]; first | done | rfl, rfl⟩
    · refine J_ic C0 2 dX1_awaitedAfter_49 (kk := ?_)
      refine J_goto C0 54 dX1_awaitedAfter_50 (kk := ?_)
      exact J_iret C0 hF dX1_awaitedAfter_54 ⟨by rw [show awS 1 c = (if ¬ c < nI 48 ∧ ¬ nI 51 < c then 2 else 4) from rfl]; simp only [c1, c2, not_false_eq_true, not_true_eq_false, and_true, true_and, and_false, false_and, and_self, or_true, true_or, or_false, false_or, if_true, if_false, ite_true, ite_false, eq_self]; first | done | rfl, rfl⟩

set_option maxHeartbeats 4000000 in
set_option maxRecDepth 100000 in
theorem mX1_awaitedAfter_2 (l : Launch) (K : KT) (c : Int32) : Ct l K yX1_awaitedAfter wsX1_awaitedAfter rmX1_awaitedAfter [.int (nI 2), .int c] [] (some (.int (wv (awS 2 c)))) [] := by
  refine CtP_of (cc := cX1_awaitedAfter) (nL := 2) (rt := some .int) (own := RX1) (lv0 := [(0, .int (nI 2)), (1, .int c)]) (by decide) rfl (Nat.le_of_ble_eq_true rfl) rfl rfl ?_
  intro G C0 hF _
  refine J_iln C0 0 dX1_awaitedAfter_0 (kk := ?_)
  refine J_tin C0 55 dX1_awaitedAfter_1 (kk := ?_)
  refine J_iln C0 1 dX1_awaitedAfter_55 (kk := ?_)
  refine J_bi C0 48 dX1_awaitedAfter_56 (kk := ?_)
  refine J_icmplt C0 71 dX1_awaitedAfter_58 (kt := fun c1 => ?_) (kf := fun c1 => ?_)
  · refine J_icm1 C0 dX1_awaitedAfter_71 ?_
    exact J_iret C0 hF dX1_awaitedAfter_72 ⟨by rw [show awS 2 c = (if ¬ c < nI 48 ∧ ¬ nI 50 < c then 0 else 4) from rfl]; simp only [c1, not_false_eq_true, not_true_eq_false, and_true, true_and, and_false, false_and, and_self, or_true, true_or, or_false, false_or, if_true, if_false, ite_true, ite_false, eq_self]; first | done | rfl, rfl⟩
  · refine J_iln C0 1 dX1_awaitedAfter_61 (kk := ?_)
    refine J_bi C0 50 dX1_awaitedAfter_62 (kk := ?_)
    refine J_icmpgt C0 71 dX1_awaitedAfter_64 (kt := fun c2 => ?_) (kf := fun c2 => ?_)
    · refine J_icm1 C0 dX1_awaitedAfter_71 ?_
      exact J_iret C0 hF dX1_awaitedAfter_72 ⟨by rw [show awS 2 c = (if ¬ c < nI 48 ∧ ¬ nI 50 < c then 0 else 4) from rfl]; simp only [c1, c2, not_false_eq_true, not_true_eq_false, and_true, true_and, and_false, false_and, and_self, or_true, true_or, or_false, false_or, if_true, if_false, ite_true, ite_false, eq_self]; first | done | rfl, rfl⟩
    · refine J_ic C0 0 dX1_awaitedAfter_67 (kk := ?_)
      refine J_goto C0 72 dX1_awaitedAfter_68 (kk := ?_)
      exact J_iret C0 hF dX1_awaitedAfter_72 ⟨by rw [show awS 2 c = (if ¬ c < nI 48 ∧ ¬ nI 50 < c then 0 else 4) from rfl]; simp only [c1, c2, not_false_eq_true, not_true_eq_false, and_true, true_and, and_false, false_and, and_self, or_true, true_or, or_false, false_or, if_true, if_false, ite_true, ite_false, eq_self]; first | done | rfl, rfl⟩

set_option maxHeartbeats 4000000 in
set_option maxRecDepth 100000 in
theorem mX1_awaitedAfter_3 (l : Launch) (K : KT) (c : Int32) : Ct l K yX1_awaitedAfter wsX1_awaitedAfter rmX1_awaitedAfter [.int (nI 3), .int c] [] (some (.int (wv (awS 3 c)))) [] := by
  refine CtP_of (cc := cX1_awaitedAfter) (nL := 2) (rt := some .int) (own := RX1) (lv0 := [(0, .int (nI 3)), (1, .int c)]) (by decide) rfl (Nat.le_of_ble_eq_true rfl) rfl rfl ?_
  intro G C0 hF _
  refine J_iln C0 0 dX1_awaitedAfter_0 (kk := ?_)
  refine J_tin C0 73 dX1_awaitedAfter_1 (kk := ?_)
  refine J_iln C0 1 dX1_awaitedAfter_73 (kk := ?_)
  refine J_bi C0 49 dX1_awaitedAfter_74 (kk := ?_)
  refine J_icmplt C0 89 dX1_awaitedAfter_76 (kt := fun c1 => ?_) (kf := fun c1 => ?_)
  · refine J_icm1 C0 dX1_awaitedAfter_89 ?_
    exact J_iret C0 hF dX1_awaitedAfter_90 ⟨by rw [show awS 3 c = (if ¬ c < nI 49 ∧ ¬ nI 57 < c then 0 else 4) from rfl]; simp only [c1, not_false_eq_true, not_true_eq_false, and_true, true_and, and_false, false_and, and_self, or_true, true_or, or_false, false_or, if_true, if_false, ite_true, ite_false, eq_self]; first | done | rfl, rfl⟩
  · refine J_iln C0 1 dX1_awaitedAfter_79 (kk := ?_)
    refine J_bi C0 57 dX1_awaitedAfter_80 (kk := ?_)
    refine J_icmpgt C0 89 dX1_awaitedAfter_82 (kt := fun c2 => ?_) (kf := fun c2 => ?_)
    · refine J_icm1 C0 dX1_awaitedAfter_89 ?_
      exact J_iret C0 hF dX1_awaitedAfter_90 ⟨by rw [show awS 3 c = (if ¬ c < nI 49 ∧ ¬ nI 57 < c then 0 else 4) from rfl]; simp only [c1, c2, not_false_eq_true, not_true_eq_false, and_true, true_and, and_false, false_and, and_self, or_true, true_or, or_false, false_or, if_true, if_false, ite_true, ite_false, eq_self]; first | done | rfl, rfl⟩
    · refine J_ic C0 0 dX1_awaitedAfter_85 (kk := ?_)
      refine J_goto C0 90 dX1_awaitedAfter_86 (kk := ?_)
      exact J_iret C0 hF dX1_awaitedAfter_90 ⟨by rw [show awS 3 c = (if ¬ c < nI 49 ∧ ¬ nI 57 < c then 0 else 4) from rfl]; simp only [c1, c2, not_false_eq_true, not_true_eq_false, and_true, true_and, and_false, false_and, and_self, or_true, true_or, or_false, false_or, if_true, if_false, ite_true, ite_false, eq_self]; first | done | rfl, rfl⟩

set_option maxHeartbeats 4000000 in
set_option maxRecDepth 100000 in
theorem mX1_awaitedAfter_4 (l : Launch) (K : KT) (c : Int32) : Ct l K yX1_awaitedAfter wsX1_awaitedAfter rmX1_awaitedAfter [.int (-1), .int c] [] (some (.int (wv (awS 4 c)))) [] := by
  refine CtP_of (cc := cX1_awaitedAfter) (nL := 2) (rt := some .int) (own := RX1) (lv0 := [(0, .int (-1)), (1, .int c)]) (by decide) rfl (Nat.le_of_ble_eq_true rfl) rfl rfl ?_
  intro G C0 hF _
  refine J_iln C0 0 dX1_awaitedAfter_0 (kk := ?_)
  refine J_tout C0 91 dX1_awaitedAfter_1 (by decide) (kk := ?_)
  refine J_icm1 C0 dX1_awaitedAfter_91 ?_
  exact J_iret C0 hF dX1_awaitedAfter_92 ⟨rfl, rfl⟩

theorem mX1_awaitedAfter (l : Launch) (K : KT) {w : Nat} (hw : w ≤ 4) (c : Int32) : Ct l K yX1_awaitedAfter wsX1_awaitedAfter rmX1_awaitedAfter [.int (wv w), .int c] [] (some (.int (wv (awS w c)))) [] := by
  rcases (show w = 0 ∨ w = 1 ∨ w = 2 ∨ w = 3 ∨ w = 4 by omega) with rfl | rfl | rfl | rfl | rfl
  · exact mX1_awaitedAfter_0 l K c
  · exact mX1_awaitedAfter_1 l K c
  · exact mX1_awaitedAfter_2 l K c
  · exact mX1_awaitedAfter_3 l K c
  · exact mX1_awaitedAfter_4 l K c
abbrev rmX1_firstWrongSign : Room := { frames := 2, cells := 0, slots := 0, locals := 41 }
set_option maxHeartbeats 4000000 in
set_option maxRecDepth 100000 in
theorem mX1_firstWrongSign (l : Launch) (K : KT) (b : Nat → Nat) (nw ah : Nat) (sl hs : Nat → Option Nat) (T : FF) {n : Nat} (hn : T 0 1 = nI n) (h60 : n ≤ 60) : Ct l K yX1_firstWrongSign wsX1_firstWrongSign rmX1_firstWrongSign [.ref (b 5)] [mainW K b nw ah sl hs T] (some (.int (nI (fwGo T n 0)))) [mainW K b nw ah sl hs T] := by
  refine CtP_of (cc := cX1_firstWrongSign) (nL := 3) (rt := some .int) (own := RX1) (lv0 := [(0, .ref (b 5))]) (by decide) rfl (Nat.le_of_ble_eq_true rfl) rfl rfl ?_
  intro G C0 hF _
  have f15 : Cond.fieldLink RX1 15 "CorkPermits$DayText" "length" "I" ∈ wsX1_firstWrongSign := by decide +kernel
  have iX1 : ∀ w ∈ u_ws RX1 TX1 2, w ∈ wsX1_firstWrongSign := by decide +kernel
  have lp : ∀ (k i : Nat), i + k = n → fwGo T k i = fwGo T n 0 → J G [mainW K b nw ah sl hs T] [(2, .int (nI i)), (1, .int (wv (awAt T i))), (0, .ref (b 5))] 0 0 4 [] := by
    intro k
    induction k with
    | zero =>
      intro i hk hT
      refine J_iln C0 0 dX1_firstWrongSign_4 (kk := ?_)
      refine J_aln C0 2 dX1_firstWrongSign_5 (kk := ?_)
      refine J_get C0 iX1 0 5 1 f15 dX1_firstWrongSign_6 (v := .int (nI n)) (hv := congrArg (fun z => some (Value.int z)) hn) (kk := ?_)
      refine J_icmpgeN C0 35 (by omega) (by omega) dX1_firstWrongSign_9 (kt := fun c1 => ?_) (kf := fun c1 => ?_)
      · refine J_aln C0 2 dX1_firstWrongSign_35 (kk := ?_)
        refine J_get C0 iX1 0 5 1 f15 dX1_firstWrongSign_36 (v := .int (nI n)) (hv := congrArg (fun z => some (Value.int z)) hn) (kk := ?_)
        exact J_iret C0 hF dX1_firstWrongSign_39 ⟨by rw [← hT, show n = i by omega]; rfl, rfl⟩
      · exfalso; omega
    | succ k ih =>
      intro i hk hT
      have eaw : wv (awAt T (i + 1)) = wv (awS (awAt T i) (signS T n i)) := by unfold signS; rw [if_pos (by omega)]; rfl
      refine J_iln C0 0 dX1_firstWrongSign_4 (kk := ?_)
      refine J_aln C0 2 dX1_firstWrongSign_5 (kk := ?_)
      refine J_get C0 iX1 0 5 1 f15 dX1_firstWrongSign_6 (v := .int (nI n)) (hv := congrArg (fun z => some (Value.int z)) hn) (kk := ?_)
      refine J_icmpgeN C0 35 (by omega) (by omega) dX1_firstWrongSign_9 (kt := fun c1 => ?_) (kf := fun c1 => ?_)
      · exfalso; omega
      · refine J_iln C0 1 dX1_firstWrongSign_12 (kk := ?_)
        refine J_aln C0 2 dX1_firstWrongSign_13 (kk := ?_)
        refine J_iln C0 0 dX1_firstWrongSign_14 (kk := ?_)
        refine J_callVd C0 (mX1_sign l K b nw ah sl hs T hn h60 (i := i) (by omega)) [] [mainW K b nw ah sl hs T] gX1_firstWrongSign_X1_sign dX1_firstWrongSign_15 1 5 (kk := ?_)
        show J G _ _ _ _ _ [.int (signS T n i), .int (wv (awAt T i))]
        refine J_callSd C0 (mX1_awaitedAfter l K (awAt_le T i) (signS T n i)) [mainW K b nw ah sl hs T] [mainW K b nw ah sl hs T] gX1_firstWrongSign_X1_awaitedAfter dX1_firstWrongSign_18 2 (kk := ?_)
        show J G _ _ _ _ _ [.int (wv (awS (awAt T i) (signS T n i)))]
        refine J_isn C0 [(1, .int (wv (awS (awAt T i) (signS T n i)))), (2, .int (nI i)), (0, .ref (b 5))] dX1_firstWrongSign_21 (kk := ?_)
        refine J_iln C0 0 dX1_firstWrongSign_22 (kk := ?_)
        refine J_icm1 C0 dX1_firstWrongSign_23 ?_
        refine J_icmpne C0 29 dX1_firstWrongSign_24 (kt := fun c2 => ?_) (kf := fun c2 => ?_)
        · refine J_iincN C0 1 [(2, .int (nI (i + 1))), (1, .int (wv (awS (awAt T i) (signS T n i)))), (0, .ref (b 5))] dX1_firstWrongSign_29 (kk := ?_)
          refine J_goto C0 4 dX1_firstWrongSign_32 (kk := ?_)
          rw [← eaw]
          exact J_lv [0, 1, 2] rfl (ih (i + 1) (by omega) (by rw [← hT]; show _ = (if awAt T (i + 1) = 4 then i else fwGo T k (i + 1)); rw [if_neg (fun q => c2 (by rw [← eaw]; exact (wv_m1 (awAt_le T (i + 1))).mpr q))]))
        · refine J_iln C0 1 dX1_firstWrongSign_27 (kk := ?_)
          exact J_iret C0 hF dX1_firstWrongSign_28 ⟨by rw [← hT]; show _ = some (Value.int (nI (if awAt T (i + 1) = 4 then i else fwGo T k (i + 1)))); rw [if_pos ((wv_m1 (awAt_le T (i + 1))).mp (by rw [eaw]; exact c2))], rfl⟩
  refine J_ic C0 0 dX1_firstWrongSign_0 (kk := ?_)
  refine J_isn C0 [(1, .int (nI 0)), (0, .ref (b 5))] dX1_firstWrongSign_1 (kk := ?_)
  refine J_ic C0 0 dX1_firstWrongSign_2 (kk := ?_)
  refine J_isn C0 [(2, .int (nI 0)), (1, .int (nI 0)), (0, .ref (b 5))] dX1_firstWrongSign_3 (kk := ?_)
  exact J_lv [0, 1, 2] rfl (lp n 0 (by omega) rfl)

abbrev rmX1_isDay : Room := { frames := 2, cells := 0, slots := 0, locals := 41 }
set_option maxHeartbeats 4000000 in
set_option maxRecDepth 100000 in
theorem mX1_isDay (l : Launch) (K : KT) (b : Nat → Nat) (nw ah : Nat) (sl hs : Nat → Option Nat) (T : FF) {n : Nat} (hn : T 0 1 = nI n) (h60 : n ≤ 60) : Ct l K yX1_isDay wsX1_isDay rmX1_isDay [.ref (b 5)] [mainW K b nw ah sl hs T] (some (.int (if ¬ n = 0 ∧ awAt T n = 0 then nI 1 else nI 0))) [mainW K b nw ah sl hs T] := by
  refine CtP_of (cc := cX1_isDay) (nL := 3) (rt := some .boolean) (own := RX1) (lv0 := [(0, .ref (b 5))]) (by decide) rfl (Nat.le_of_ble_eq_true rfl) rfl rfl ?_
  intro G C0 hF _
  have f15 : Cond.fieldLink RX1 15 "CorkPermits$DayText" "length" "I" ∈ wsX1_isDay := by decide +kernel
  have iX1 : ∀ w ∈ u_ws RX1 TX1 2, w ∈ wsX1_isDay := by decide +kernel
  have lp : ∀ (k i : Nat), i + k = n → J G [mainW K b nw ah sl hs T] [(2, .int (nI i)), (1, .int (wv (awAt T i))), (0, .ref (b 5))] 0 0 4 [] := by
    intro k
    induction k with
    | zero =>
      intro i hk
      refine J_iln C0 0 dX1_isDay_4 (kk := ?_)
      refine J_aln C0 2 dX1_isDay_5 (kk := ?_)
      refine J_get C0 iX1 0 5 1 f15 dX1_isDay_6 (v := .int (nI n)) (hv := congrArg (fun z => some (Value.int z)) hn) (kk := ?_)
      refine J_icmpgeN C0 28 (by omega) (by omega) dX1_isDay_9 (kt := fun c1 => ?_) (kf := fun c1 => ?_)
      · refine J_aln C0 2 dX1_isDay_28 (kk := ?_)
        refine J_get C0 iX1 0 5 1 f15 dX1_isDay_29 (v := .int (nI n)) (hv := congrArg (fun z => some (Value.int z)) hn) (kk := ?_)
        refine J_ifleN C0 43 (by omega) dX1_isDay_32 (kt := fun c2 => ?_) (kf := fun c2 => ?_)
        · refine J_ic C0 0 dX1_isDay_43 (kk := ?_)
          exact J_zret C0 hF dX1_isDay_44 (by decide) ⟨by rw [if_neg (fun q => q.1 c2)], rfl⟩
        · refine J_iln C0 1 dX1_isDay_35 (kk := ?_)
          refine J_ifne C0 43 dX1_isDay_36 (kt := fun c3 => ?_) (kf := fun c3 => ?_)
          · refine J_ic C0 0 dX1_isDay_43 (kk := ?_)
            exact J_zret C0 hF dX1_isDay_44 (by decide) ⟨by rw [if_neg (fun q => c3 ((wv_0 (awAt_le T i)).mpr (by rw [show i = n by omega]; exact q.2)))], rfl⟩
          · refine J_ic C0 1 dX1_isDay_39 (kk := ?_)
            refine J_goto C0 44 dX1_isDay_40 (kk := ?_)
            exact J_zret C0 hF dX1_isDay_44 (by decide) ⟨by rw [if_pos (⟨c2, by rw [show n = i by omega]; exact (wv_0 (awAt_le T i)).mp c3⟩)], rfl⟩
      · exfalso; omega
    | succ k ih =>
      intro i hk
      have eaw : wv (awAt T (i + 1)) = wv (awS (awAt T i) (signS T n i)) := by unfold signS; rw [if_pos (by omega)]; rfl
      refine J_iln C0 0 dX1_isDay_4 (kk := ?_)
      refine J_aln C0 2 dX1_isDay_5 (kk := ?_)
      refine J_get C0 iX1 0 5 1 f15 dX1_isDay_6 (v := .int (nI n)) (hv := congrArg (fun z => some (Value.int z)) hn) (kk := ?_)
      refine J_icmpgeN C0 28 (by omega) (by omega) dX1_isDay_9 (kt := fun c1 => ?_) (kf := fun c1 => ?_)
      · exfalso; omega
      · refine J_iln C0 1 dX1_isDay_12 (kk := ?_)
        refine J_aln C0 2 dX1_isDay_13 (kk := ?_)
        refine J_iln C0 0 dX1_isDay_14 (kk := ?_)
        refine J_callVd C0 (mX1_sign l K b nw ah sl hs T hn h60 (i := i) (by omega)) [] [mainW K b nw ah sl hs T] gX1_isDay_X1_sign dX1_isDay_15 1 5 (kk := ?_)
        show J G _ _ _ _ _ [.int (signS T n i), .int (wv (awAt T i))]
        refine J_callSd C0 (mX1_awaitedAfter l K (awAt_le T i) (signS T n i)) [mainW K b nw ah sl hs T] [mainW K b nw ah sl hs T] gX1_isDay_X1_awaitedAfter dX1_isDay_18 2 (kk := ?_)
        show J G _ _ _ _ _ [.int (wv (awS (awAt T i) (signS T n i)))]
        refine J_isn C0 [(1, .int (wv (awS (awAt T i) (signS T n i)))), (2, .int (nI i)), (0, .ref (b 5))] dX1_isDay_21 (kk := ?_)
        refine J_iincN C0 1 [(2, .int (nI (i + 1))), (1, .int (wv (awS (awAt T i) (signS T n i)))), (0, .ref (b 5))] dX1_isDay_22 (kk := ?_)
        refine J_goto C0 4 dX1_isDay_25 (kk := ?_)
        rw [← eaw]
        exact J_lv [0, 1, 2] rfl (ih (i + 1) (by omega))
  refine J_ic C0 0 dX1_isDay_0 (kk := ?_)
  refine J_isn C0 [(1, .int (nI 0)), (0, .ref (b 5))] dX1_isDay_1 (kk := ?_)
  refine J_ic C0 0 dX1_isDay_2 (kk := ?_)
  refine J_isn C0 [(2, .int (nI 0)), (1, .int (nI 0)), (0, .ref (b 5))] dX1_isDay_3 (kk := ?_)
  exact J_lv [0, 1, 2] rfl (lp n 0 (by omega))

