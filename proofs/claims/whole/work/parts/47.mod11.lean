theorem still_0 {F : FF} {k t : Nat} (h : F 0 4 = 0) : (stillR (k + 1) t F).1 = nI t := by
  unfold stillR
  rw [if_pos h]
theorem still_1 {F : FF} {t : Nat} (h : ¬ F 0 4 = 0) : (stillR 1 t F).1 = -1 := by
  unfold stillR
  rw [if_neg h]
  rfl
theorem still_s {F : FF} {k t : Nat} (h : ¬ F 0 4 = 0) : stillR (k + 1) t F = stillR k (t + 1) (tickC F) := by
  conv => lhs; unfold stillR
  rw [if_neg h]
abbrev rmX5_still : Room := { frames := 7, cells := 0, slots := 0, locals := 154 }
set_option maxHeartbeats 4000000 in
set_option maxRecDepth 100000 in
theorem mX5_still (l : Launch) (K : KT) (a : Nat → Nat) (F : FF) (g P L : Nat → Int32) (M : FF) {B hn n : Nat} {N : Nat → Nat → Nat} (hv : InvN B F hn n N) (hB : B + 4000 < 2 ^ 30) : Ct l K yX5_still wsX5_still rmX5_still [.ref (a 0)] [modR K a (flat F) g P L M] (some (.int (stillR 201 0 F).1)) [modR K a (flat F) (cpR (flat F) g 0 0) P L M] := by
  refine CtP_of (cc := cX5_still) (nL := 3) (rt := some .int) (own := RX5) (lv0 := [(0, .ref (a 0))]) (by decide) rfl (Nat.le_of_ble_eq_true rfl) rfl rfl ?_
  intro G C0 hF _
  have f7 : Cond.fieldLink RX5 7 "CorkPermitsModel" "s" "[I" ∈ wsX5_still := by decide +kernel
  have iX5 : ∀ w ∈ u_ws RX5 TX5 13, w ∈ wsX5_still := by decide +kernel
  have f13 : Cond.fieldLink RX5 13 "CorkPermitsModel" "aside" "[I" ∈ wsX5_still := by decide +kernel
  have lp : ∀ (k t : Nat) (F1 : FF) (n : Nat) (N : Nat → Nat → Nat), InvN (B + 12 * t) F1 hn n N → k + t = 200 → (stillR (k + 1) t F1).1 = (stillR 201 0 F).1 → J G [modR K a (flat F1) (cpR (flat F) g 0 0) P L M] [(1, .int (nI t)), (0, .ref (a 0))] 0 0 15 [] := by
    generalize hR : (stillR 201 0 F).1 = R at hF ⊢
    intro k
    induction k with
    | zero =>
      intro t F1 n N hv1 hq hT
      have en := hv1.2.1.1
      have n40 := hv1.2.1.2
      have ht : t = 200 := by omega
      subst ht
      refine J_iln C0 0 dX5_still_15 (kk := ?_)
      refine J_si C0 200 dX5_still_16 (kk := ?_)
      refine J_icmpgeN C0 42 (by omega) (by omega) dX5_still_19 (kt := fun c1 => ?_) (kf := fun c1 => ?_)
      · refine J_aln C0 1 dX5_still_42 (kk := ?_)
        refine J_get C0 iX5 0 0 0 f7 dX5_still_43 (kk := ?_)
        refine J_ic C0 4 dX5_still_46 (kk := ?_)
        refine J_iald C0 0 1 283 dX5_still_47 (by omega) (v := (nI n)) (hv := (flat_0 F1 (j := 4) (by decide)).trans en) (kk := ?_)
        refine J_ifneN C0 55 (by omega) dX5_still_48 (kt := fun c2 => ?_) (kf := fun c2 => ?_)
        · refine J_icm1 C0 dX5_still_55 ?_
          refine J_isn C0 [(2, .int (-1)), (1, .int (nI 200)), (0, .ref (a 0))] dX5_still_56 (kk := ?_)
          refine J_aln C0 2 dX5_still_57 (kk := ?_)
          refine J_get C0 iX5 0 0 1 f13 dX5_still_58 (kk := ?_)
          refine J_ic C0 0 dX5_still_61 (kk := ?_)
          refine J_aln C0 2 dX5_still_62 (kk := ?_)
          refine J_get C0 iX5 0 0 0 f7 dX5_still_63 (kk := ?_)
          refine J_ic C0 0 dX5_still_66 (kk := ?_)
          refine J_callSd C0 (cp_GS l K a F1 g P L M (D := F)) [] [modR K a (flat F) (cpR (flat F) g 0 0) P L M] gX5_still_X5_copies dX5_still_67 4 (kk := ?_)
          show J G _ _ _ _ _ []
          refine J_iln C0 0 dX5_still_70 (kk := ?_)
          first
          | (exfalso; omega)
          | exact J_iret C0 hF dX5_still_71 ⟨by rw [← hT, still_0 (by rw [en]; exact (nI_e0 (by omega)).mpr (by omega))], rfl⟩
          | exact J_iret C0 hF dX5_still_71 ⟨by rw [← hT, still_1 (by rw [en]; exact fun z => absurd ((nI_e0 (by omega)).mp z) (by omega))], rfl⟩
        · refine J_iln C0 0 dX5_still_51 (kk := ?_)
          refine J_goto C0 56 dX5_still_52 (kk := ?_)
          refine J_isn C0 [(2, .int (nI 200)), (1, .int (nI 200)), (0, .ref (a 0))] dX5_still_56 (kk := ?_)
          refine J_aln C0 2 dX5_still_57 (kk := ?_)
          refine J_get C0 iX5 0 0 1 f13 dX5_still_58 (kk := ?_)
          refine J_ic C0 0 dX5_still_61 (kk := ?_)
          refine J_aln C0 2 dX5_still_62 (kk := ?_)
          refine J_get C0 iX5 0 0 0 f7 dX5_still_63 (kk := ?_)
          refine J_ic C0 0 dX5_still_66 (kk := ?_)
          refine J_callSd C0 (cp_GS l K a F1 g P L M (D := F)) [] [modR K a (flat F) (cpR (flat F) g 0 0) P L M] gX5_still_X5_copies dX5_still_67 4 (kk := ?_)
          show J G _ _ _ _ _ []
          refine J_iln C0 0 dX5_still_70 (kk := ?_)
          first
          | (exfalso; omega)
          | exact J_iret C0 hF dX5_still_71 ⟨by rw [← hT, still_0 (by rw [en]; exact (nI_e0 (by omega)).mpr (by omega))], rfl⟩
          | exact J_iret C0 hF dX5_still_71 ⟨by rw [← hT, still_1 (by rw [en]; exact fun z => absurd ((nI_e0 (by omega)).mp z) (by omega))], rfl⟩
      · exfalso; omega
    | succ k ih =>
      intro t F1 n N hv1 hq hT
      have en := hv1.2.1.1
      have n40 := hv1.2.1.2
      refine J_iln C0 0 dX5_still_15 (kk := ?_)
      refine J_si C0 200 dX5_still_16 (kk := ?_)
      refine J_icmpgeN C0 42 (by omega) (by omega) dX5_still_19 (kt := fun c1 => ?_) (kf := fun c1 => ?_)
      · exfalso; omega
      · refine J_aln C0 1 dX5_still_22 (kk := ?_)
        refine J_get C0 iX5 0 0 0 f7 dX5_still_23 (kk := ?_)
        refine J_ic C0 4 dX5_still_26 (kk := ?_)
        refine J_iald C0 0 1 283 dX5_still_27 (by omega) (v := (nI n)) (hv := (flat_0 F1 (j := 4) (by decide)).trans en) (kk := ?_)
        refine J_ifleN C0 42 (by omega) dX5_still_28 (kt := fun c2 => ?_) (kf := fun c2 => ?_)
        · refine J_aln C0 1 dX5_still_42 (kk := ?_)
          refine J_get C0 iX5 0 0 0 f7 dX5_still_43 (kk := ?_)
          refine J_ic C0 4 dX5_still_46 (kk := ?_)
          refine J_iald C0 0 1 283 dX5_still_47 (by omega) (v := (nI n)) (hv := (flat_0 F1 (j := 4) (by decide)).trans en) (kk := ?_)
          refine J_ifneN C0 55 (by omega) dX5_still_48 (kt := fun c3 => ?_) (kf := fun c3 => ?_)
          · refine J_icm1 C0 dX5_still_55 ?_
            refine J_isn C0 [(2, .int (-1)), (1, .int (nI t)), (0, .ref (a 0))] dX5_still_56 (kk := ?_)
            refine J_aln C0 2 dX5_still_57 (kk := ?_)
            refine J_get C0 iX5 0 0 1 f13 dX5_still_58 (kk := ?_)
            refine J_ic C0 0 dX5_still_61 (kk := ?_)
            refine J_aln C0 2 dX5_still_62 (kk := ?_)
            refine J_get C0 iX5 0 0 0 f7 dX5_still_63 (kk := ?_)
            refine J_ic C0 0 dX5_still_66 (kk := ?_)
            refine J_callSd C0 (cp_GS l K a F1 g P L M (D := F)) [] [modR K a (flat F) (cpR (flat F) g 0 0) P L M] gX5_still_X5_copies dX5_still_67 4 (kk := ?_)
            show J G _ _ _ _ _ []
            refine J_iln C0 0 dX5_still_70 (kk := ?_)
            first
            | (exfalso; omega)
            | exact J_iret C0 hF dX5_still_71 ⟨by rw [← hT, still_0 (by rw [en]; exact (nI_e0 (by omega)).mpr (by omega))], rfl⟩
            | exact J_iret C0 hF dX5_still_71 ⟨by rw [← hT, still_1 (by rw [en]; exact fun z => absurd ((nI_e0 (by omega)).mp z) (by omega))], rfl⟩
          · refine J_iln C0 0 dX5_still_51 (kk := ?_)
            refine J_goto C0 56 dX5_still_52 (kk := ?_)
            refine J_isn C0 [(2, .int (nI t)), (1, .int (nI t)), (0, .ref (a 0))] dX5_still_56 (kk := ?_)
            refine J_aln C0 2 dX5_still_57 (kk := ?_)
            refine J_get C0 iX5 0 0 1 f13 dX5_still_58 (kk := ?_)
            refine J_ic C0 0 dX5_still_61 (kk := ?_)
            refine J_aln C0 2 dX5_still_62 (kk := ?_)
            refine J_get C0 iX5 0 0 0 f7 dX5_still_63 (kk := ?_)
            refine J_ic C0 0 dX5_still_66 (kk := ?_)
            refine J_callSd C0 (cp_GS l K a F1 g P L M (D := F)) [] [modR K a (flat F) (cpR (flat F) g 0 0) P L M] gX5_still_X5_copies dX5_still_67 4 (kk := ?_)
            show J G _ _ _ _ _ []
            refine J_iln C0 0 dX5_still_70 (kk := ?_)
            first
            | (exfalso; omega)
            | exact J_iret C0 hF dX5_still_71 ⟨by rw [← hT, still_0 (by rw [en]; exact (nI_e0 (by omega)).mpr (by omega))], rfl⟩
            | exact J_iret C0 hF dX5_still_71 ⟨by rw [← hT, still_1 (by rw [en]; exact fun z => absurd ((nI_e0 (by omega)).mp z) (by omega))], rfl⟩
        · refine J_aln C0 1 dX5_still_31 (kk := ?_)
          refine J_callVd C0 (mX5_tick l K a F1 (cpR (flat F) g 0 0) P L M hv1 (by omega)) [] [modR K a (flat (tickC F1)) (cpR (flat F) g 0 0) P L M] gX5_still_X5_tick dX5_still_32 0 0 (kk := ?_)
          show J G _ _ _ _ _ [.int (sumS (tickC F1 10) 12 - sumS (F1 10) 12)]
          refine J_isn C0 [(2, .int (sumS (tickC F1 10) 12 - sumS (F1 10) 12)), (1, .int (nI t)), (0, .ref (a 0))] dX5_still_35 (kk := ?_)
          refine J_iincN C0 1 [(1, .int (nI (t + 1))), (2, .int (sumS (tickC F1 10) 12 - sumS (F1 10) 12)), (0, .ref (a 0))] dX5_still_36 (kk := ?_)
          refine J_goto C0 15 dX5_still_39 (kk := ?_)
          obtain ⟨n2, N2, hv2⟩ := hv1.tick (by omega)
          exact J_lv [0, 2] rfl (ih (t + 1) (tickC F1) n2 N2 (by rw [show B + 12 * (t + 1) = B + 12 * t + 12 by omega]; exact hv2) (by omega) (by rw [← hT, still_s (F := F1) (by rw [en]; exact fun z => absurd ((nI_e0 (by omega)).mp z) (by omega))]))
  refine J_aln C0 0 dX5_still_0 (kk := ?_)
  refine J_get C0 iX5 0 0 0 f7 dX5_still_1 (kk := ?_)
  refine J_ic C0 0 dX5_still_4 (kk := ?_)
  refine J_aln C0 0 dX5_still_5 (kk := ?_)
  refine J_get C0 iX5 0 0 1 f13 dX5_still_6 (kk := ?_)
  refine J_ic C0 0 dX5_still_9 (kk := ?_)
  refine J_callSd C0 (cp_SG l K a F g P L M) [] [modR K a (flat F) (cpR (flat F) g 0 0) P L M] gX5_still_X5_copies dX5_still_10 4 (kk := ?_)
  show J G _ _ _ _ _ []
  refine J_ic C0 0 dX5_still_13 (kk := ?_)
  refine J_isn C0 [(1, .int (nI 0)), (0, .ref (a 0))] dX5_still_14 (kk := ?_)
  exact J_lv [0, 1] rfl (lp 200 0 F n N hv (by omega) rfl)

abbrev rmX5_stillIn : Room := { frames := 8, cells := 0, slots := 0, locals := 176 }
set_option maxHeartbeats 4000000 in
set_option maxRecDepth 100000 in
theorem mX5_stillIn (l : Launch) (K : KT) (a : Nat → Nat) (F : FF) (g P L : Nat → Int32) (M : FF) {B hn n : Nat} {N : Nat → Nat → Nat} (hv : InvN B F hn n N) (hB : B + 4000 < 2 ^ 30) : Ct l K yX5_stillIn wsX5_stillIn rmX5_stillIn [.ref (a 0)] [modR K a (flat F) g P L M] (some (.int (stillR 201 0 F).1)) [modR K a (flat F) (cpR (flat F) g 0 0) P L (u2 M 0 2 (nI 0))] := by
  refine CtP_of (cc := cX5_stillIn) (nL := 1) (rt := some .int) (own := RX5) (lv0 := [(0, .ref (a 0))]) (by decide) rfl (Nat.le_of_ble_eq_true rfl) rfl rfl ?_
  intro G C0 hF _
  have f28 : Cond.fieldLink RX5 28 "CorkPermitsModel" "thrown" "I" ∈ wsX5_stillIn := by decide +kernel
  have iX5 : ∀ w ∈ u_ws RX5 TX5 13, w ∈ wsX5_stillIn := by decide +kernel
  refine J_aln C0 0 dX5_stillIn_0 (kk := ?_)
  refine J_ic C0 0 dX5_stillIn_1 (kk := ?_)
  refine J_put C0 iX5 tyX5_ok nmX5 0 0 8 [modR K a (flat F) g P L (u2 M 0 2 (nI 0))] f28 dX5_stillIn_2 (hd := rfl) (kk := ?_)
  refine J_aln C0 0 dX5_stillIn_5 (kk := ?_)
  refine J_callVd C0 (mX5_still l K a F g P L (u2 M 0 2 (nI 0)) hv (by omega)) [] [modR K a (flat F) (cpR (flat F) g 0 0) P L (u2 M 0 2 (nI 0))] gX5_stillIn_X5_still dX5_stillIn_6 0 0 (kk := ?_)
  show J G _ _ _ _ _ [.int ((stillR 201 0 F).1)]
  exact J_iret C0 hF dX5_stillIn_9 ⟨rfl, rfl⟩

abbrev rmX5_unknown : Room := { frames := 3, cells := 0, slots := 0, locals := 67 }
set_option maxHeartbeats 4000000 in
set_option maxRecDepth 100000 in
theorem mX5_unknown (l : Launch) (K : KT) (a : Nat → Nat) (F : FF) (g P L : Nat → Int32) (M : FF) {B hn n : Nat} {N : Nat → Nat → Nat} (hv : InvN B F hn n N) : Ct l K yX5_unknown wsX5_unknown rmX5_unknown [.ref (a 0)] [modR K a (flat F) g P L M] (some (.int (sumS (F 10) 12 - sumS (F 8) 12))) [modR K a (flat F) g P L M] := by
  refine CtP_of (cc := cX5_unknown) (nL := 1) (rt := some .int) (own := RX5) (lv0 := [(0, .ref (a 0))]) (by decide) rfl (Nat.le_of_ble_eq_true rfl) rfl rfl ?_
  intro G C0 hF _
  refine J_aln C0 0 dX5_unknown_0 (kk := ?_)
  refine J_ic C0 3 dX5_unknown_1 (kk := ?_)
  refine J_callVd C0 (mX5_ofPairs l K a F g P L M hv (w := 3) (by omega)) [] [modR K a (flat F) g P L M] gX5_unknown_X5_ofPairs dX5_unknown_2 1 0 (kk := ?_)
  show J G _ _ _ _ _ [.int (sumS (F 10) 12)]
  refine J_aln C0 0 dX5_unknown_5 (kk := ?_)
  refine J_ic C0 1 dX5_unknown_6 (kk := ?_)
  refine J_callVd C0 (mX5_ofPairs l K a F g P L M hv (w := 1) (by omega)) [] [modR K a (flat F) g P L M] gX5_unknown_X5_ofPairs dX5_unknown_7 1 0 (kk := ?_)
  show J G _ _ _ _ _ [.int (sumS (F 8) 12), .int (sumS (F 10) 12)]
  refine J_isub C0 dX5_unknown_10 ?_
  exact J_iret C0 hF dX5_unknown_11 ⟨rfl, rfl⟩

abbrev rmX5_hidden : Room := { frames := 4, cells := 0, slots := 0, locals := 87 }
set_option maxHeartbeats 4000000 in
set_option maxRecDepth 100000 in
theorem mX5_hidden (l : Launch) (K : KT) (a : Nat → Nat) (F : FF) (g P L : Nat → Int32) (M : FF) {B hn n : Nat} {N : Nat → Nat → Nat} (hv : InvN B F hn n N) : Ct l K yX5_hidden wsX5_hidden rmX5_hidden [.ref (a 0)] [modR K a (flat F) g P L M] (some (.int (sumS (F 10) 12 - sumS (F 8) 12))) [modR K a (flat F) g P L (u2 M 0 2 (nI 0))] := by
  refine CtP_of (cc := cX5_hidden) (nL := 1) (rt := some .int) (own := RX5) (lv0 := [(0, .ref (a 0))]) (by decide) rfl (Nat.le_of_ble_eq_true rfl) rfl rfl ?_
  intro G C0 hF _
  have f28 : Cond.fieldLink RX5 28 "CorkPermitsModel" "thrown" "I" ∈ wsX5_hidden := by decide +kernel
  have iX5 : ∀ w ∈ u_ws RX5 TX5 13, w ∈ wsX5_hidden := by decide +kernel
  refine J_aln C0 0 dX5_hidden_0 (kk := ?_)
  refine J_ic C0 0 dX5_hidden_1 (kk := ?_)
  refine J_put C0 iX5 tyX5_ok nmX5 0 0 8 [modR K a (flat F) g P L (u2 M 0 2 (nI 0))] f28 dX5_hidden_2 (hd := rfl) (kk := ?_)
  refine J_aln C0 0 dX5_hidden_5 (kk := ?_)
  refine J_callVd C0 (mX5_unknown l K a F g P L (u2 M 0 2 (nI 0)) hv) [] [modR K a (flat F) g P L (u2 M 0 2 (nI 0))] gX5_hidden_X5_unknown dX5_hidden_6 0 0 (kk := ?_)
  show J G _ _ _ _ _ [.int (sumS (F 10) 12 - sumS (F 8) 12)]
  exact J_iret C0 hF dX5_hidden_9 ⟨rfl, rfl⟩

def needR (F : FF) (h : Nat) : Int32 := nI 0 + mx0 (F 11 (3 * h + 0) - corksS F (3 * h + 0)) + mx0 (F 11 (3 * h + 1) - corksS F (3 * h + 1)) + mx0 (F 11 (3 * h + 2) - corksS F (3 * h + 2))
theorem needR_eq (F : FF) (h : Nat) : needR F h = needC F h := by
  unfold needC
  rw [Nat.mul_comm h 3]
  rfl
theorem z00 : nI 0 + nI 0 = nI 0 := by decide
theorem mx0_p {x : Int32} (h : ¬ x ≤ 0) : mx0 x = x := if_pos (Int32.not_le.mp h)
theorem mx0_n {x : Int32} (h : x ≤ 0) : mx0 x = nI 0 := if_neg (Int32.not_lt.mpr h)
abbrev rmX5_wants : Room := { frames := 3, cells := 0, slots := 0, locals := 66 }
set_option maxHeartbeats 4000000 in
set_option maxRecDepth 100000 in
theorem mX5_wants (l : Launch) (K : KT) (a : Nat → Nat) (F : FF) (g P L : Nat → Int32) (M : FF) {h : Nat} (hh : h < 4) : Ct l K yX5_wants wsX5_wants rmX5_wants [.ref (a 0), .int (nI h)] [modR K a (flat F) g P L M] (some (.int (needC F h))) [modR K a (flat F) g P L M] := by
  refine CtP_of (cc := cX5_wants) (nL := 5) (rt := some .int) (own := RX5) (lv0 := [(0, .ref (a 0)), (1, .int (nI h))]) (by decide) rfl (Nat.le_of_ble_eq_true rfl) rfl rfl ?_
  intro G C0 hF _
  refine J_ic C0 0 dX5_wants_0 (kk := ?_)
  refine J_isn C0 [(2, .int (nI 0)), (0, .ref (a 0)), (1, .int (nI h))] dX5_wants_1 (kk := ?_)
  refine J_ic C0 0 dX5_wants_2 (kk := ?_)
  refine J_isn C0 [(3, .int (nI 0)), (2, .int (nI 0)), (0, .ref (a 0)), (1, .int (nI h))] dX5_wants_3 (kk := ?_)
  refine J_iln C0 0 dX5_wants_4 (kk := ?_)
  refine J_ic C0 3 dX5_wants_5 (kk := ?_)
  refine J_icmpgeN C0 45 (by omega) (by omega) dX5_wants_6 (kt := fun c1 => ?_) (kf := fun c1 => ?_)
  · exfalso; omega
  · refine J_aln C0 2 dX5_wants_9 (kk := ?_)
    refine J_iln C0 3 dX5_wants_10 (kk := ?_)
    refine J_iln C0 0 dX5_wants_11 (kk := ?_)
    refine J_ic C0 4 dX5_wants_12 (kk := ?_)
    refine J_callVd C0 (mX5_of l K a F g P L M (h := h) (k := 0) (w := 4) (by omega) (by omega) (by omega)) [] [modR K a (flat F) g P L M] gX5_wants_X5_of dX5_wants_13 3 0 (kk := ?_)
    show J G _ _ _ _ _ [.int (F 11 (3 * h + 0))]
    refine J_aln C0 2 dX5_wants_16 (kk := ?_)
    refine J_iln C0 3 dX5_wants_17 (kk := ?_)
    refine J_iln C0 0 dX5_wants_18 (kk := ?_)
    refine J_callVd C0 (mX5_corks l K a F g P L M (h := h) (k := 0) (by omega) (by omega)) [] [modR K a (flat F) g P L M] gX5_wants_X5_corks dX5_wants_19 2 0 (kk := ?_)
    show J G _ _ _ _ _ [.int (corksS F (3 * h + 0)), .int (F 11 (3 * h + 0))]
    refine J_isub C0 dX5_wants_22 ?_
    refine J_is C0 [(4, .int ((F 11 (3 * h + 0)) - (corksS F (3 * h + 0)))), (3, .int (nI 0)), (2, .int (nI 0)), (0, .ref (a 0)), (1, .int (nI h))] dX5_wants_23 (kk := ?_)
    refine J_iln C0 2 dX5_wants_25 (kk := ?_)
    refine J_il C0 0 dX5_wants_26 (kk := ?_)
    refine J_ifle C0 36 dX5_wants_28 (kt := fun c2 => ?_) (kf := fun c2 => ?_)
    · refine J_ic C0 0 dX5_wants_36 (kk := ?_)
      refine J_iaddN C0 dX5_wants_37 ?_
      refine J_isn C0 [(2, .int (nI 0)), (4, .int ((F 11 (3 * h + 0)) - (corksS F (3 * h + 0)))), (3, .int (nI 0)), (0, .ref (a 0)), (1, .int (nI h))] dX5_wants_38 (kk := ?_)
      refine J_iincN C0 2 [(3, .int (nI 1)), (2, .int (nI 0)), (4, .int ((F 11 (3 * h + 0)) - (corksS F (3 * h + 0)))), (0, .ref (a 0)), (1, .int (nI h))] dX5_wants_39 (kk := ?_)
      refine J_goto C0 4 dX5_wants_42 (kk := ?_)
      refine J_iln C0 0 dX5_wants_4 (kk := ?_)
      refine J_ic C0 3 dX5_wants_5 (kk := ?_)
      refine J_icmpgeN C0 45 (by omega) (by omega) dX5_wants_6 (kt := fun c3 => ?_) (kf := fun c3 => ?_)
      · exfalso; omega
      · refine J_aln C0 3 dX5_wants_9 (kk := ?_)
        refine J_iln C0 4 dX5_wants_10 (kk := ?_)
        refine J_iln C0 0 dX5_wants_11 (kk := ?_)
        refine J_ic C0 4 dX5_wants_12 (kk := ?_)
        refine J_callVd C0 (mX5_of l K a F g P L M (h := h) (k := 1) (w := 4) (by omega) (by omega) (by omega)) [] [modR K a (flat F) g P L M] gX5_wants_X5_of dX5_wants_13 3 0 (kk := ?_)
        show J G _ _ _ _ _ [.int (F 11 (3 * h + 1))]
        refine J_aln C0 3 dX5_wants_16 (kk := ?_)
        refine J_iln C0 4 dX5_wants_17 (kk := ?_)
        refine J_iln C0 0 dX5_wants_18 (kk := ?_)
        refine J_callVd C0 (mX5_corks l K a F g P L M (h := h) (k := 1) (by omega) (by omega)) [] [modR K a (flat F) g P L M] gX5_wants_X5_corks dX5_wants_19 2 0 (kk := ?_)
        show J G _ _ _ _ _ [.int (corksS F (3 * h + 1)), .int (F 11 (3 * h + 1))]
        refine J_isub C0 dX5_wants_22 ?_
        refine J_is C0 [(4, .int ((F 11 (3 * h + 1)) - (corksS F (3 * h + 1)))), (3, .int (nI 1)), (2, .int (nI 0)), (0, .ref (a 0)), (1, .int (nI h))] dX5_wants_23 (kk := ?_)
        refine J_iln C0 2 dX5_wants_25 (kk := ?_)
        refine J_il C0 0 dX5_wants_26 (kk := ?_)
        refine J_ifle C0 36 dX5_wants_28 (kt := fun c4 => ?_) (kf := fun c4 => ?_)
        · refine J_ic C0 0 dX5_wants_36 (kk := ?_)
          refine J_iaddN C0 dX5_wants_37 ?_
          refine J_isn C0 [(2, .int (nI 0)), (4, .int ((F 11 (3 * h + 1)) - (corksS F (3 * h + 1)))), (3, .int (nI 1)), (0, .ref (a 0)), (1, .int (nI h))] dX5_wants_38 (kk := ?_)
          refine J_iincN C0 2 [(3, .int (nI 2)), (2, .int (nI 0)), (4, .int ((F 11 (3 * h + 1)) - (corksS F (3 * h + 1)))), (0, .ref (a 0)), (1, .int (nI h))] dX5_wants_39 (kk := ?_)
          refine J_goto C0 4 dX5_wants_42 (kk := ?_)
          refine J_iln C0 0 dX5_wants_4 (kk := ?_)
          refine J_ic C0 3 dX5_wants_5 (kk := ?_)
          refine J_icmpgeN C0 45 (by omega) (by omega) dX5_wants_6 (kt := fun c5 => ?_) (kf := fun c5 => ?_)
          · exfalso; omega
          · refine J_aln C0 3 dX5_wants_9 (kk := ?_)
            refine J_iln C0 4 dX5_wants_10 (kk := ?_)
            refine J_iln C0 0 dX5_wants_11 (kk := ?_)
            refine J_ic C0 4 dX5_wants_12 (kk := ?_)
            refine J_callVd C0 (mX5_of l K a F g P L M (h := h) (k := 2) (w := 4) (by omega) (by omega) (by omega)) [] [modR K a (flat F) g P L M] gX5_wants_X5_of dX5_wants_13 3 0 (kk := ?_)
            show J G _ _ _ _ _ [.int (F 11 (3 * h + 2))]
            refine J_aln C0 3 dX5_wants_16 (kk := ?_)
            refine J_iln C0 4 dX5_wants_17 (kk := ?_)
            refine J_iln C0 0 dX5_wants_18 (kk := ?_)
            refine J_callVd C0 (mX5_corks l K a F g P L M (h := h) (k := 2) (by omega) (by omega)) [] [modR K a (flat F) g P L M] gX5_wants_X5_corks dX5_wants_19 2 0 (kk := ?_)
            show J G _ _ _ _ _ [.int (corksS F (3 * h + 2)), .int (F 11 (3 * h + 2))]
            refine J_isub C0 dX5_wants_22 ?_
            refine J_is C0 [(4, .int ((F 11 (3 * h + 2)) - (corksS F (3 * h + 2)))), (3, .int (nI 2)), (2, .int (nI 0)), (0, .ref (a 0)), (1, .int (nI h))] dX5_wants_23 (kk := ?_)
            refine J_iln C0 2 dX5_wants_25 (kk := ?_)
            refine J_il C0 0 dX5_wants_26 (kk := ?_)
            refine J_ifle C0 36 dX5_wants_28 (kt := fun c6 => ?_) (kf := fun c6 => ?_)
            · refine J_ic C0 0 dX5_wants_36 (kk := ?_)
              refine J_iaddN C0 dX5_wants_37 ?_
              refine J_isn C0 [(2, .int (nI 0)), (4, .int ((F 11 (3 * h + 2)) - (corksS F (3 * h + 2)))), (3, .int (nI 2)), (0, .ref (a 0)), (1, .int (nI h))] dX5_wants_38 (kk := ?_)
              refine J_iincN C0 2 [(3, .int (nI 3)), (2, .int (nI 0)), (4, .int ((F 11 (3 * h + 2)) - (corksS F (3 * h + 2)))), (0, .ref (a 0)), (1, .int (nI h))] dX5_wants_39 (kk := ?_)
              refine J_goto C0 4 dX5_wants_42 (kk := ?_)
              refine J_iln C0 0 dX5_wants_4 (kk := ?_)
              refine J_ic C0 3 dX5_wants_5 (kk := ?_)
              refine J_icmpgeN C0 45 (by omega) (by omega) dX5_wants_6 (kt := fun c7 => ?_) (kf := fun c7 => ?_)
              · refine J_iln C0 1 dX5_wants_45 (kk := ?_)
                exact J_iret C0 hF dX5_wants_46 ⟨by rw [← needR_eq]; unfold needR; rw [mx0_n c2, mx0_n c4, mx0_n c6]; try simp only [z00], rfl⟩
              · exfalso; omega
            · refine J_il C0 0 dX5_wants_31 (kk := ?_)
              refine J_goto C0 37 dX5_wants_33 (kk := ?_)
              refine J_iadd C0 dX5_wants_37 ?_
              refine J_isn C0 [(2, .int ((nI 0) + ((F 11 (3 * h + 2)) - (corksS F (3 * h + 2))))), (4, .int ((F 11 (3 * h + 2)) - (corksS F (3 * h + 2)))), (3, .int (nI 2)), (0, .ref (a 0)), (1, .int (nI h))] dX5_wants_38 (kk := ?_)
              refine J_iincN C0 2 [(3, .int (nI 3)), (2, .int ((nI 0) + ((F 11 (3 * h + 2)) - (corksS F (3 * h + 2))))), (4, .int ((F 11 (3 * h + 2)) - (corksS F (3 * h + 2)))), (0, .ref (a 0)), (1, .int (nI h))] dX5_wants_39 (kk := ?_)
              refine J_goto C0 4 dX5_wants_42 (kk := ?_)
              refine J_iln C0 0 dX5_wants_4 (kk := ?_)
              refine J_ic C0 3 dX5_wants_5 (kk := ?_)
              refine J_icmpgeN C0 45 (by omega) (by omega) dX5_wants_6 (kt := fun c8 => ?_) (kf := fun c8 => ?_)
              · refine J_iln C0 1 dX5_wants_45 (kk := ?_)
                exact J_iret C0 hF dX5_wants_46 ⟨by rw [← needR_eq]; unfold needR; rw [mx0_n c2, mx0_n c4, mx0_p c6]; try simp only [z00], rfl⟩
              · exfalso; omega
        · refine J_il C0 0 dX5_wants_31 (kk := ?_)
          refine J_goto C0 37 dX5_wants_33 (kk := ?_)
          refine J_iadd C0 dX5_wants_37 ?_
          refine J_isn C0 [(2, .int ((nI 0) + ((F 11 (3 * h + 1)) - (corksS F (3 * h + 1))))), (4, .int ((F 11 (3 * h + 1)) - (corksS F (3 * h + 1)))), (3, .int (nI 1)), (0, .ref (a 0)), (1, .int (nI h))] dX5_wants_38 (kk := ?_)
          refine J_iincN C0 2 [(3, .int (nI 2)), (2, .int ((nI 0) + ((F 11 (3 * h + 1)) - (corksS F (3 * h + 1))))), (4, .int ((F 11 (3 * h + 1)) - (corksS F (3 * h + 1)))), (0, .ref (a 0)), (1, .int (nI h))] dX5_wants_39 (kk := ?_)
          refine J_goto C0 4 dX5_wants_42 (kk := ?_)
          refine J_iln C0 0 dX5_wants_4 (kk := ?_)
          refine J_ic C0 3 dX5_wants_5 (kk := ?_)
          refine J_icmpgeN C0 45 (by omega) (by omega) dX5_wants_6 (kt := fun c9 => ?_) (kf := fun c9 => ?_)
          · exfalso; omega
          · refine J_aln C0 3 dX5_wants_9 (kk := ?_)
            refine J_iln C0 4 dX5_wants_10 (kk := ?_)
            refine J_iln C0 0 dX5_wants_11 (kk := ?_)
            refine J_ic C0 4 dX5_wants_12 (kk := ?_)
            refine J_callVd C0 (mX5_of l K a F g P L M (h := h) (k := 2) (w := 4) (by omega) (by omega) (by omega)) [] [modR K a (flat F) g P L M] gX5_wants_X5_of dX5_wants_13 3 0 (kk := ?_)
            show J G _ _ _ _ _ [.int (F 11 (3 * h + 2))]
            refine J_aln C0 3 dX5_wants_16 (kk := ?_)
            refine J_iln C0 4 dX5_wants_17 (kk := ?_)
            refine J_iln C0 0 dX5_wants_18 (kk := ?_)
            refine J_callVd C0 (mX5_corks l K a F g P L M (h := h) (k := 2) (by omega) (by omega)) [] [modR K a (flat F) g P L M] gX5_wants_X5_corks dX5_wants_19 2 0 (kk := ?_)
            show J G _ _ _ _ _ [.int (corksS F (3 * h + 2)), .int (F 11 (3 * h + 2))]
            refine J_isub C0 dX5_wants_22 ?_
            refine J_is C0 [(4, .int ((F 11 (3 * h + 2)) - (corksS F (3 * h + 2)))), (3, .int (nI 2)), (2, .int ((nI 0) + ((F 11 (3 * h + 1)) - (corksS F (3 * h + 1))))), (0, .ref (a 0)), (1, .int (nI h))] dX5_wants_23 (kk := ?_)
            refine J_iln C0 2 dX5_wants_25 (kk := ?_)
            refine J_il C0 0 dX5_wants_26 (kk := ?_)
            refine J_ifle C0 36 dX5_wants_28 (kt := fun c10 => ?_) (kf := fun c10 => ?_)
            · refine J_ic C0 0 dX5_wants_36 (kk := ?_)
              refine J_iadd C0 dX5_wants_37 ?_
              refine J_isn C0 [(2, .int (((nI 0) + ((F 11 (3 * h + 1)) - (corksS F (3 * h + 1)))) + (nI 0))), (4, .int ((F 11 (3 * h + 2)) - (corksS F (3 * h + 2)))), (3, .int (nI 2)), (0, .ref (a 0)), (1, .int (nI h))] dX5_wants_38 (kk := ?_)
              refine J_iincN C0 2 [(3, .int (nI 3)), (2, .int (((nI 0) + ((F 11 (3 * h + 1)) - (corksS F (3 * h + 1)))) + (nI 0))), (4, .int ((F 11 (3 * h + 2)) - (corksS F (3 * h + 2)))), (0, .ref (a 0)), (1, .int (nI h))] dX5_wants_39 (kk := ?_)
              refine J_goto C0 4 dX5_wants_42 (kk := ?_)
              refine J_iln C0 0 dX5_wants_4 (kk := ?_)
              refine J_ic C0 3 dX5_wants_5 (kk := ?_)
              refine J_icmpgeN C0 45 (by omega) (by omega) dX5_wants_6 (kt := fun c11 => ?_) (kf := fun c11 => ?_)
              · refine J_iln C0 1 dX5_wants_45 (kk := ?_)
                exact J_iret C0 hF dX5_wants_46 ⟨by rw [← needR_eq]; unfold needR; rw [mx0_n c2, mx0_p c4, mx0_n c10]; try simp only [z00], rfl⟩
              · exfalso; omega
            · refine J_il C0 0 dX5_wants_31 (kk := ?_)
              refine J_goto C0 37 dX5_wants_33 (kk := ?_)
              refine J_iadd C0 dX5_wants_37 ?_
              refine J_isn C0 [(2, .int (((nI 0) + ((F 11 (3 * h + 1)) - (corksS F (3 * h + 1)))) + ((F 11 (3 * h + 2)) - (corksS F (3 * h + 2))))), (4, .int ((F 11 (3 * h + 2)) - (corksS F (3 * h + 2)))), (3, .int (nI 2)), (0, .ref (a 0)), (1, .int (nI h))] dX5_wants_38 (kk := ?_)
              refine J_iincN C0 2 [(3, .int (nI 3)), (2, .int (((nI 0) + ((F 11 (3 * h + 1)) - (corksS F (3 * h + 1)))) + ((F 11 (3 * h + 2)) - (corksS F (3 * h + 2))))), (4, .int ((F 11 (3 * h + 2)) - (corksS F (3 * h + 2)))), (0, .ref (a 0)), (1, .int (nI h))] dX5_wants_39 (kk := ?_)
              refine J_goto C0 4 dX5_wants_42 (kk := ?_)
              refine J_iln C0 0 dX5_wants_4 (kk := ?_)
              refine J_ic C0 3 dX5_wants_5 (kk := ?_)
              refine J_icmpgeN C0 45 (by omega) (by omega) dX5_wants_6 (kt := fun c12 => ?_) (kf := fun c12 => ?_)
              · refine J_iln C0 1 dX5_wants_45 (kk := ?_)
                exact J_iret C0 hF dX5_wants_46 ⟨by rw [← needR_eq]; unfold needR; rw [mx0_n c2, mx0_p c4, mx0_p c10]; try simp only [z00], rfl⟩
              · exfalso; omega
    · refine J_il C0 0 dX5_wants_31 (kk := ?_)
      refine J_goto C0 37 dX5_wants_33 (kk := ?_)
      refine J_iadd C0 dX5_wants_37 ?_
      refine J_isn C0 [(2, .int ((nI 0) + ((F 11 (3 * h + 0)) - (corksS F (3 * h + 0))))), (4, .int ((F 11 (3 * h + 0)) - (corksS F (3 * h + 0)))), (3, .int (nI 0)), (0, .ref (a 0)), (1, .int (nI h))] dX5_wants_38 (kk := ?_)
      refine J_iincN C0 2 [(3, .int (nI 1)), (2, .int ((nI 0) + ((F 11 (3 * h + 0)) - (corksS F (3 * h + 0))))), (4, .int ((F 11 (3 * h + 0)) - (corksS F (3 * h + 0)))), (0, .ref (a 0)), (1, .int (nI h))] dX5_wants_39 (kk := ?_)
      refine J_goto C0 4 dX5_wants_42 (kk := ?_)
      refine J_iln C0 0 dX5_wants_4 (kk := ?_)
      refine J_ic C0 3 dX5_wants_5 (kk := ?_)
      refine J_icmpgeN C0 45 (by omega) (by omega) dX5_wants_6 (kt := fun c13 => ?_) (kf := fun c13 => ?_)
      · exfalso; omega
      · refine J_aln C0 3 dX5_wants_9 (kk := ?_)
        refine J_iln C0 4 dX5_wants_10 (kk := ?_)
        refine J_iln C0 0 dX5_wants_11 (kk := ?_)
        refine J_ic C0 4 dX5_wants_12 (kk := ?_)
        refine J_callVd C0 (mX5_of l K a F g P L M (h := h) (k := 1) (w := 4) (by omega) (by omega) (by omega)) [] [modR K a (flat F) g P L M] gX5_wants_X5_of dX5_wants_13 3 0 (kk := ?_)
        show J G _ _ _ _ _ [.int (F 11 (3 * h + 1))]
        refine J_aln C0 3 dX5_wants_16 (kk := ?_)
        refine J_iln C0 4 dX5_wants_17 (kk := ?_)
        refine J_iln C0 0 dX5_wants_18 (kk := ?_)
        refine J_callVd C0 (mX5_corks l K a F g P L M (h := h) (k := 1) (by omega) (by omega)) [] [modR K a (flat F) g P L M] gX5_wants_X5_corks dX5_wants_19 2 0 (kk := ?_)
        show J G _ _ _ _ _ [.int (corksS F (3 * h + 1)), .int (F 11 (3 * h + 1))]
        refine J_isub C0 dX5_wants_22 ?_
        refine J_is C0 [(4, .int ((F 11 (3 * h + 1)) - (corksS F (3 * h + 1)))), (3, .int (nI 1)), (2, .int ((nI 0) + ((F 11 (3 * h + 0)) - (corksS F (3 * h + 0))))), (0, .ref (a 0)), (1, .int (nI h))] dX5_wants_23 (kk := ?_)
        refine J_iln C0 2 dX5_wants_25 (kk := ?_)
        refine J_il C0 0 dX5_wants_26 (kk := ?_)
        refine J_ifle C0 36 dX5_wants_28 (kt := fun c14 => ?_) (kf := fun c14 => ?_)
        · refine J_ic C0 0 dX5_wants_36 (kk := ?_)
          refine J_iadd C0 dX5_wants_37 ?_
          refine J_isn C0 [(2, .int (((nI 0) + ((F 11 (3 * h + 0)) - (corksS F (3 * h + 0)))) + (nI 0))), (4, .int ((F 11 (3 * h + 1)) - (corksS F (3 * h + 1)))), (3, .int (nI 1)), (0, .ref (a 0)), (1, .int (nI h))] dX5_wants_38 (kk := ?_)
          refine J_iincN C0 2 [(3, .int (nI 2)), (2, .int (((nI 0) + ((F 11 (3 * h + 0)) - (corksS F (3 * h + 0)))) + (nI 0))), (4, .int ((F 11 (3 * h + 1)) - (corksS F (3 * h + 1)))), (0, .ref (a 0)), (1, .int (nI h))] dX5_wants_39 (kk := ?_)
          refine J_goto C0 4 dX5_wants_42 (kk := ?_)
          refine J_iln C0 0 dX5_wants_4 (kk := ?_)
          refine J_ic C0 3 dX5_wants_5 (kk := ?_)
          refine J_icmpgeN C0 45 (by omega) (by omega) dX5_wants_6 (kt := fun c15 => ?_) (kf := fun c15 => ?_)
          · exfalso; omega
          · refine J_aln C0 3 dX5_wants_9 (kk := ?_)
            refine J_iln C0 4 dX5_wants_10 (kk := ?_)
            refine J_iln C0 0 dX5_wants_11 (kk := ?_)
            refine J_ic C0 4 dX5_wants_12 (kk := ?_)
            refine J_callVd C0 (mX5_of l K a F g P L M (h := h) (k := 2) (w := 4) (by omega) (by omega) (by omega)) [] [modR K a (flat F) g P L M] gX5_wants_X5_of dX5_wants_13 3 0 (kk := ?_)
            show J G _ _ _ _ _ [.int (F 11 (3 * h + 2))]
            refine J_aln C0 3 dX5_wants_16 (kk := ?_)
            refine J_iln C0 4 dX5_wants_17 (kk := ?_)
            refine J_iln C0 0 dX5_wants_18 (kk := ?_)
            refine J_callVd C0 (mX5_corks l K a F g P L M (h := h) (k := 2) (by omega) (by omega)) [] [modR K a (flat F) g P L M] gX5_wants_X5_corks dX5_wants_19 2 0 (kk := ?_)
            show J G _ _ _ _ _ [.int (corksS F (3 * h + 2)), .int (F 11 (3 * h + 2))]
            refine J_isub C0 dX5_wants_22 ?_
            refine J_is C0 [(4, .int ((F 11 (3 * h + 2)) - (corksS F (3 * h + 2)))), (3, .int (nI 2)), (2, .int (((nI 0) + ((F 11 (3 * h + 0)) - (corksS F (3 * h + 0)))) + (nI 0))), (0, .ref (a 0)), (1, .int (nI h))] dX5_wants_23 (kk := ?_)
            refine J_iln C0 2 dX5_wants_25 (kk := ?_)
            refine J_il C0 0 dX5_wants_26 (kk := ?_)
            refine J_ifle C0 36 dX5_wants_28 (kt := fun c16 => ?_) (kf := fun c16 => ?_)
            · refine J_ic C0 0 dX5_wants_36 (kk := ?_)
              refine J_iadd C0 dX5_wants_37 ?_
              refine J_isn C0 [(2, .int ((((nI 0) + ((F 11 (3 * h + 0)) - (corksS F (3 * h + 0)))) + (nI 0)) + (nI 0))), (4, .int ((F 11 (3 * h + 2)) - (corksS F (3 * h + 2)))), (3, .int (nI 2)), (0, .ref (a 0)), (1, .int (nI h))] dX5_wants_38 (kk := ?_)
              refine J_iincN C0 2 [(3, .int (nI 3)), (2, .int ((((nI 0) + ((F 11 (3 * h + 0)) - (corksS F (3 * h + 0)))) + (nI 0)) + (nI 0))), (4, .int ((F 11 (3 * h + 2)) - (corksS F (3 * h + 2)))), (0, .ref (a 0)), (1, .int (nI h))] dX5_wants_39 (kk := ?_)
              refine J_goto C0 4 dX5_wants_42 (kk := ?_)
              refine J_iln C0 0 dX5_wants_4 (kk := ?_)
              refine J_ic C0 3 dX5_wants_5 (kk := ?_)
              refine J_icmpgeN C0 45 (by omega) (by omega) dX5_wants_6 (kt := fun c17 => ?_) (kf := fun c17 => ?_)
              · refine J_iln C0 1 dX5_wants_45 (kk := ?_)
                exact J_iret C0 hF dX5_wants_46 ⟨by rw [← needR_eq]; unfold needR; rw [mx0_p c2, mx0_n c14, mx0_n c16]; try simp only [z00], rfl⟩
              · exfalso; omega
            · refine J_il C0 0 dX5_wants_31 (kk := ?_)
              refine J_goto C0 37 dX5_wants_33 (kk := ?_)
              refine J_iadd C0 dX5_wants_37 ?_
              refine J_isn C0 [(2, .int ((((nI 0) + ((F 11 (3 * h + 0)) - (corksS F (3 * h + 0)))) + (nI 0)) + ((F 11 (3 * h + 2)) - (corksS F (3 * h + 2))))), (4, .int ((F 11 (3 * h + 2)) - (corksS F (3 * h + 2)))), (3, .int (nI 2)), (0, .ref (a 0)), (1, .int (nI h))] dX5_wants_38 (kk := ?_)
              refine J_iincN C0 2 [(3, .int (nI 3)), (2, .int ((((nI 0) + ((F 11 (3 * h + 0)) - (corksS F (3 * h + 0)))) + (nI 0)) + ((F 11 (3 * h + 2)) - (corksS F (3 * h + 2))))), (4, .int ((F 11 (3 * h + 2)) - (corksS F (3 * h + 2)))), (0, .ref (a 0)), (1, .int (nI h))] dX5_wants_39 (kk := ?_)
              refine J_goto C0 4 dX5_wants_42 (kk := ?_)
              refine J_iln C0 0 dX5_wants_4 (kk := ?_)
              refine J_ic C0 3 dX5_wants_5 (kk := ?_)
              refine J_icmpgeN C0 45 (by omega) (by omega) dX5_wants_6 (kt := fun c18 => ?_) (kf := fun c18 => ?_)
              · refine J_iln C0 1 dX5_wants_45 (kk := ?_)
                exact J_iret C0 hF dX5_wants_46 ⟨by rw [← needR_eq]; unfold needR; rw [mx0_p c2, mx0_n c14, mx0_p c16]; try simp only [z00], rfl⟩
              · exfalso; omega
        · refine J_il C0 0 dX5_wants_31 (kk := ?_)
          refine J_goto C0 37 dX5_wants_33 (kk := ?_)
          refine J_iadd C0 dX5_wants_37 ?_
          refine J_isn C0 [(2, .int (((nI 0) + ((F 11 (3 * h + 0)) - (corksS F (3 * h + 0)))) + ((F 11 (3 * h + 1)) - (corksS F (3 * h + 1))))), (4, .int ((F 11 (3 * h + 1)) - (corksS F (3 * h + 1)))), (3, .int (nI 1)), (0, .ref (a 0)), (1, .int (nI h))] dX5_wants_38 (kk := ?_)
          refine J_iincN C0 2 [(3, .int (nI 2)), (2, .int (((nI 0) + ((F 11 (3 * h + 0)) - (corksS F (3 * h + 0)))) + ((F 11 (3 * h + 1)) - (corksS F (3 * h + 1))))), (4, .int ((F 11 (3 * h + 1)) - (corksS F (3 * h + 1)))), (0, .ref (a 0)), (1, .int (nI h))] dX5_wants_39 (kk := ?_)
          refine J_goto C0 4 dX5_wants_42 (kk := ?_)
          refine J_iln C0 0 dX5_wants_4 (kk := ?_)
          refine J_ic C0 3 dX5_wants_5 (kk := ?_)
          refine J_icmpgeN C0 45 (by omega) (by omega) dX5_wants_6 (kt := fun c19 => ?_) (kf := fun c19 => ?_)
          · exfalso; omega
          · refine J_aln C0 3 dX5_wants_9 (kk := ?_)
            refine J_iln C0 4 dX5_wants_10 (kk := ?_)
            refine J_iln C0 0 dX5_wants_11 (kk := ?_)
            refine J_ic C0 4 dX5_wants_12 (kk := ?_)
            refine J_callVd C0 (mX5_of l K a F g P L M (h := h) (k := 2) (w := 4) (by omega) (by omega) (by omega)) [] [modR K a (flat F) g P L M] gX5_wants_X5_of dX5_wants_13 3 0 (kk := ?_)
            show J G _ _ _ _ _ [.int (F 11 (3 * h + 2))]
            refine J_aln C0 3 dX5_wants_16 (kk := ?_)
            refine J_iln C0 4 dX5_wants_17 (kk := ?_)
            refine J_iln C0 0 dX5_wants_18 (kk := ?_)
            refine J_callVd C0 (mX5_corks l K a F g P L M (h := h) (k := 2) (by omega) (by omega)) [] [modR K a (flat F) g P L M] gX5_wants_X5_corks dX5_wants_19 2 0 (kk := ?_)
            show J G _ _ _ _ _ [.int (corksS F (3 * h + 2)), .int (F 11 (3 * h + 2))]
            refine J_isub C0 dX5_wants_22 ?_
            refine J_is C0 [(4, .int ((F 11 (3 * h + 2)) - (corksS F (3 * h + 2)))), (3, .int (nI 2)), (2, .int (((nI 0) + ((F 11 (3 * h + 0)) - (corksS F (3 * h + 0)))) + ((F 11 (3 * h + 1)) - (corksS F (3 * h + 1))))), (0, .ref (a 0)), (1, .int (nI h))] dX5_wants_23 (kk := ?_)
            refine J_iln C0 2 dX5_wants_25 (kk := ?_)
            refine J_il C0 0 dX5_wants_26 (kk := ?_)
            refine J_ifle C0 36 dX5_wants_28 (kt := fun c20 => ?_) (kf := fun c20 => ?_)
            · refine J_ic C0 0 dX5_wants_36 (kk := ?_)
              refine J_iadd C0 dX5_wants_37 ?_
              refine J_isn C0 [(2, .int ((((nI 0) + ((F 11 (3 * h + 0)) - (corksS F (3 * h + 0)))) + ((F 11 (3 * h + 1)) - (corksS F (3 * h + 1)))) + (nI 0))), (4, .int ((F 11 (3 * h + 2)) - (corksS F (3 * h + 2)))), (3, .int (nI 2)), (0, .ref (a 0)), (1, .int (nI h))] dX5_wants_38 (kk := ?_)
              refine J_iincN C0 2 [(3, .int (nI 3)), (2, .int ((((nI 0) + ((F 11 (3 * h + 0)) - (corksS F (3 * h + 0)))) + ((F 11 (3 * h + 1)) - (corksS F (3 * h + 1)))) + (nI 0))), (4, .int ((F 11 (3 * h + 2)) - (corksS F (3 * h + 2)))), (0, .ref (a 0)), (1, .int (nI h))] dX5_wants_39 (kk := ?_)
              refine J_goto C0 4 dX5_wants_42 (kk := ?_)
              refine J_iln C0 0 dX5_wants_4 (kk := ?_)
              refine J_ic C0 3 dX5_wants_5 (kk := ?_)
              refine J_icmpgeN C0 45 (by omega) (by omega) dX5_wants_6 (kt := fun c21 => ?_) (kf := fun c21 => ?_)
              · refine J_iln C0 1 dX5_wants_45 (kk := ?_)
                exact J_iret C0 hF dX5_wants_46 ⟨by rw [← needR_eq]; unfold needR; rw [mx0_p c2, mx0_p c14, mx0_n c20]; try simp only [z00], rfl⟩
              · exfalso; omega
            · refine J_il C0 0 dX5_wants_31 (kk := ?_)
              refine J_goto C0 37 dX5_wants_33 (kk := ?_)
              refine J_iadd C0 dX5_wants_37 ?_
              refine J_isn C0 [(2, .int ((((nI 0) + ((F 11 (3 * h + 0)) - (corksS F (3 * h + 0)))) + ((F 11 (3 * h + 1)) - (corksS F (3 * h + 1)))) + ((F 11 (3 * h + 2)) - (corksS F (3 * h + 2))))), (4, .int ((F 11 (3 * h + 2)) - (corksS F (3 * h + 2)))), (3, .int (nI 2)), (0, .ref (a 0)), (1, .int (nI h))] dX5_wants_38 (kk := ?_)
              refine J_iincN C0 2 [(3, .int (nI 3)), (2, .int ((((nI 0) + ((F 11 (3 * h + 0)) - (corksS F (3 * h + 0)))) + ((F 11 (3 * h + 1)) - (corksS F (3 * h + 1)))) + ((F 11 (3 * h + 2)) - (corksS F (3 * h + 2))))), (4, .int ((F 11 (3 * h + 2)) - (corksS F (3 * h + 2)))), (0, .ref (a 0)), (1, .int (nI h))] dX5_wants_39 (kk := ?_)
              refine J_goto C0 4 dX5_wants_42 (kk := ?_)
              refine J_iln C0 0 dX5_wants_4 (kk := ?_)
              refine J_ic C0 3 dX5_wants_5 (kk := ?_)
              refine J_icmpgeN C0 45 (by omega) (by omega) dX5_wants_6 (kt := fun c22 => ?_) (kf := fun c22 => ?_)
              · refine J_iln C0 1 dX5_wants_45 (kk := ?_)
                exact J_iret C0 hF dX5_wants_46 ⟨by rw [← needR_eq]; unfold needR; rw [mx0_p c2, mx0_p c14, mx0_p c20]; try simp only [z00], rfl⟩
              · exfalso; omega

abbrev rmX5_needy : Room := { frames := 4, cells := 0, slots := 0, locals := 90 }
set_option maxHeartbeats 4000000 in
set_option maxRecDepth 100000 in
theorem mX5_needy (l : Launch) (K : KT) (a : Nat → Nat) (F : FF) (g P L : Nat → Int32) (M : FF) {B hn n : Nat} {N : Nat → Nat → Nat} (hv : InvN B F hn n N) : Ct l K yX5_needy wsX5_needy rmX5_needy [.ref (a 0)] [modR K a (flat F) g P L M] (some (.int (neC F hn 0 (-1) (nI 0)))) [modR K a (flat F) g P L M] := by
  refine CtP_of (cc := cX5_needy) (nL := 4) (rt := some .int) (own := RX5) (lv0 := [(0, .ref (a 0))]) (by decide) rfl (Nat.le_of_ble_eq_true rfl) rfl rfl ?_
  intro G C0 hF _
  have eh := hv.1.1
  have h4 := hv.1.2
  have f7 : Cond.fieldLink RX5 7 "CorkPermitsModel" "s" "[I" ∈ wsX5_needy := by decide +kernel
  have iX5 : ∀ w ∈ u_ws RX5 TX5 13, w ∈ wsX5_needy := by decide +kernel
  have lp : ∀ (q h : Nat) (found most : Int32), h + q = hn → neC F q h found most = neC F hn 0 (-1) (nI 0) → J G [modR K a (flat F) g P L M] [(3, .int (nI h)), (2, .int most), (1, .int found), (0, .ref (a 0))] 0 0 6 [] := by
    generalize hR : neC F hn 0 (-1) (nI 0) = R at hF ⊢
    intro q
    induction q with
    | zero =>
      intro h found most hq hT
      refine J_iln C0 0 dX5_needy_6 (kk := ?_)
      refine J_aln C0 3 dX5_needy_7 (kk := ?_)
      refine J_get C0 iX5 0 0 0 f7 dX5_needy_8 (kk := ?_)
      refine J_ic C0 1 dX5_needy_11 (kk := ?_)
      refine J_iald C0 0 1 283 dX5_needy_12 (by omega) (v := (nI hn)) (hv := (flat_0 F (j := 1) (by decide)).trans eh) (kk := ?_)
      refine J_icmpgeN C0 56 (by omega) (by omega) dX5_needy_13 (kt := fun c1 => ?_) (kf := fun c1 => ?_)
      · refine J_iln C0 2 dX5_needy_56 (kk := ?_)
        exact J_iret C0 hF dX5_needy_57 ⟨congrArg (fun z => some (Value.int z)) hT, rfl⟩
      · exfalso; omega
    | succ q ih =>
      intro h found most hq hT
      refine J_iln C0 0 dX5_needy_6 (kk := ?_)
      refine J_aln C0 3 dX5_needy_7 (kk := ?_)
      refine J_get C0 iX5 0 0 0 f7 dX5_needy_8 (kk := ?_)
      refine J_ic C0 1 dX5_needy_11 (kk := ?_)
      refine J_iald C0 0 1 283 dX5_needy_12 (by omega) (v := (nI hn)) (hv := (flat_0 F (j := 1) (by decide)).trans eh) (kk := ?_)
      refine J_icmpgeN C0 56 (by omega) (by omega) dX5_needy_13 (kt := fun c1 => ?_) (kf := fun c1 => ?_)
      · exfalso; omega
      · refine J_aln C0 3 dX5_needy_16 (kk := ?_)
        refine J_iln C0 0 dX5_needy_17 (kk := ?_)
        refine J_callVd C0 (mX5_wants l K a F g P L M (h := h) (by omega)) [] [modR K a (flat F) g P L M] gX5_needy_X5_wants dX5_needy_18 1 0 (kk := ?_)
        show J G _ _ _ _ _ [.int (needC F h)]
        refine J_iln C0 1 dX5_needy_21 (kk := ?_)
        refine J_icmple C0 29 dX5_needy_22 (kt := fun c2 => ?_) (kf := fun c2 => ?_)
        · refine J_iln C0 2 dX5_needy_29 (kk := ?_)
          refine J_isn C0 [(1, .int found), (3, .int (nI h)), (2, .int most), (0, .ref (a 0))] dX5_needy_30 (kk := ?_)
          refine J_aln C0 3 dX5_needy_31 (kk := ?_)
          refine J_iln C0 1 dX5_needy_32 (kk := ?_)
          refine J_callVd C0 (mX5_wants l K a F g P L M (h := h) (by omega)) [] [modR K a (flat F) g P L M] gX5_needy_X5_wants dX5_needy_33 1 0 (kk := ?_)
          show J G _ _ _ _ _ [.int (needC F h)]
          refine J_iln C0 2 dX5_needy_36 (kk := ?_)
          refine J_icmple C0 48 dX5_needy_37 (kt := fun c3 => ?_) (kf := fun c3 => ?_)
          · refine J_iln C0 2 dX5_needy_48 (kk := ?_)
            refine J_isn C0 [(2, .int most), (1, .int found), (3, .int (nI h)), (0, .ref (a 0))] dX5_needy_49 (kk := ?_)
            refine J_iincN C0 2 [(3, .int (nI (h + 1))), (2, .int most), (1, .int found), (0, .ref (a 0))] dX5_needy_50 (kk := ?_)
            refine J_goto C0 6 dX5_needy_53 (kk := ?_)
            exact J_lv [0, 1, 2, 3] rfl (ih (h + 1) found most (by omega) (by rw [← hT]; show _ = (if _ then _ else _); rw [if_pos c2]))
          · exact absurd c2 c3
        · refine J_iln C0 0 dX5_needy_25 (kk := ?_)
          refine J_goto C0 30 dX5_needy_26 (kk := ?_)
          refine J_isn C0 [(1, .int (nI h)), (3, .int (nI h)), (2, .int most), (0, .ref (a 0))] dX5_needy_30 (kk := ?_)
          refine J_aln C0 3 dX5_needy_31 (kk := ?_)
          refine J_iln C0 1 dX5_needy_32 (kk := ?_)
          refine J_callVd C0 (mX5_wants l K a F g P L M (h := h) (by omega)) [] [modR K a (flat F) g P L M] gX5_needy_X5_wants dX5_needy_33 1 0 (kk := ?_)
          show J G _ _ _ _ _ [.int (needC F h)]
          refine J_iln C0 2 dX5_needy_36 (kk := ?_)
          refine J_icmple C0 48 dX5_needy_37 (kt := fun c4 => ?_) (kf := fun c4 => ?_)
          · exact absurd c4 c2
          · refine J_aln C0 3 dX5_needy_40 (kk := ?_)
            refine J_iln C0 1 dX5_needy_41 (kk := ?_)
            refine J_callVd C0 (mX5_wants l K a F g P L M (h := h) (by omega)) [] [modR K a (flat F) g P L M] gX5_needy_X5_wants dX5_needy_42 1 0 (kk := ?_)
            show J G _ _ _ _ _ [.int (needC F h)]
            refine J_goto C0 49 dX5_needy_45 (kk := ?_)
            refine J_isn C0 [(2, .int (needC F h)), (1, .int (nI h)), (3, .int (nI h)), (0, .ref (a 0))] dX5_needy_49 (kk := ?_)
            refine J_iincN C0 2 [(3, .int (nI (h + 1))), (2, .int (needC F h)), (1, .int (nI h)), (0, .ref (a 0))] dX5_needy_50 (kk := ?_)
            refine J_goto C0 6 dX5_needy_53 (kk := ?_)
            exact J_lv [0, 1, 2, 3] rfl (ih (h + 1) (nI h) (needC F h) (by omega) (by rw [← hT]; show _ = (if _ then _ else _); rw [if_neg c2]))
  refine J_icm1 C0 dX5_needy_0 ?_
  refine J_isn C0 [(1, .int (-1)), (0, .ref (a 0))] dX5_needy_1 (kk := ?_)
  refine J_ic C0 0 dX5_needy_2 (kk := ?_)
  refine J_isn C0 [(2, .int (nI 0)), (1, .int (-1)), (0, .ref (a 0))] dX5_needy_3 (kk := ?_)
  refine J_ic C0 0 dX5_needy_4 (kk := ?_)
  refine J_isn C0 [(3, .int (nI 0)), (2, .int (nI 0)), (1, .int (-1)), (0, .ref (a 0))] dX5_needy_5 (kk := ?_)
  exact J_lv [0, 1, 2, 3] rfl (lp hn 0 (-1) (nI 0) (by omega) rfl)

abbrev rmX5_neediest : Room := { frames := 5, cells := 0, slots := 0, locals := 113 }
set_option maxHeartbeats 4000000 in
set_option maxRecDepth 100000 in
theorem mX5_neediest (l : Launch) (K : KT) (a : Nat → Nat) (F : FF) (g P L : Nat → Int32) (M : FF) {B hn n : Nat} {N : Nat → Nat → Nat} (hv : InvN B F hn n N) : Ct l K yX5_neediest wsX5_neediest rmX5_neediest [.ref (a 0)] [modR K a (flat F) g P L M] (some (.int (neC F hn 0 (-1) (nI 0)))) [modR K a (flat F) g P L (u2 M 0 2 (nI 0))] := by
  refine CtP_of (cc := cX5_neediest) (nL := 1) (rt := some .int) (own := RX5) (lv0 := [(0, .ref (a 0))]) (by decide) rfl (Nat.le_of_ble_eq_true rfl) rfl rfl ?_
  intro G C0 hF _
  have f28 : Cond.fieldLink RX5 28 "CorkPermitsModel" "thrown" "I" ∈ wsX5_neediest := by decide +kernel
  have iX5 : ∀ w ∈ u_ws RX5 TX5 13, w ∈ wsX5_neediest := by decide +kernel
  refine J_aln C0 0 dX5_neediest_0 (kk := ?_)
  refine J_ic C0 0 dX5_neediest_1 (kk := ?_)
  refine J_put C0 iX5 tyX5_ok nmX5 0 0 8 [modR K a (flat F) g P L (u2 M 0 2 (nI 0))] f28 dX5_neediest_2 (hd := rfl) (kk := ?_)
  refine J_aln C0 0 dX5_neediest_5 (kk := ?_)
  refine J_callVd C0 (mX5_needy l K a F g P L (u2 M 0 2 (nI 0)) hv) [] [modR K a (flat F) g P L (u2 M 0 2 (nI 0))] gX5_neediest_X5_needy dX5_neediest_6 0 0 (kk := ?_)
  show J G _ _ _ _ _ [.int (neC F hn 0 (-1) (nI 0))]
  exact J_iret C0 hF dX5_neediest_9 ⟨rfl, rfl⟩

theorem share_nat {B hn n : Nat} {F : FF} {N : Nat → Nat → Nat} (hv : InvN B F hn n N) (hB : B < 2 ^ 26) : ∃ a b : Nat, sumS (F 5) 3 = nI a ∧ sumS (F 8) 12 = nI b ∧ sumS (F 5) 3 + sumS (F 6) 3 = nI b ∧ a ≤ b ∧ b < 2 ^ 31 := by
  have f5 : ∀ k, k < 3 → F 5 k = nI (N 5 k) := fun k hk => hv.F5 hk
  have f6 : ∀ k, k < 3 → F 6 k = nI (N 6 k) := fun k hk => hv.F6 hk
  have f8 : ∀ p, p < 12 → F 8 p = nI (N 8 p) := fun p hp => hv.F8 hp
  have k0 := hv.2.2.2.2.2.2.2.2 0 (by decide)
  have k1 := hv.2.2.2.2.2.2.2.2 1 (by decide)
  have k2 := hv.2.2.2.2.2.2.2.2 2 (by decide)
  have b8 : ∀ p, p < 12 → N 8 p ≤ B := fun p hp => by have := hv.p hp; omega
  have q0 := b8 0 (by decide); have q1 := b8 1 (by decide); have q2 := b8 2 (by decide); have q3 := b8 3 (by decide); have q4 := b8 4 (by decide); have q5 := b8 5 (by decide)
  have q6 := b8 6 (by decide); have q7 := b8 7 (by decide); have q8 := b8 8 (by decide); have q9 := b8 9 (by decide); have q10 := b8 10 (by decide); have q11 := b8 11 (by decide)
  unfold s8 at k0 k1 k2
  simp only [Nat.reduceAdd] at k0 k1 k2
  refine ⟨N 5 0 + N 5 1 + N 5 2, N 5 0 + N 5 1 + N 5 2 + (N 6 0 + N 6 1 + N 6 2), ?_, ?_, ?_, by omega, by omega⟩
  · show nI 0 + F 5 0 + F 5 1 + F 5 2 = _
    rw [f5 0 (by decide), f5 1 (by decide), f5 2 (by decide), nI_add, nI_add, nI_add]
    congr 1
    omega
  · show nI 0 + F 8 0 + F 8 1 + F 8 2 + F 8 3 + F 8 4 + F 8 5 + F 8 6 + F 8 7 + F 8 8 + F 8 9 + F 8 10 + F 8 11 = _
    rw [f8 0 (by decide), f8 1 (by decide), f8 2 (by decide), f8 3 (by decide), f8 4 (by decide), f8 5 (by decide), f8 6 (by decide), f8 7 (by decide), f8 8 (by decide), f8 9 (by decide), f8 10 (by decide), f8 11 (by decide)]
    simp only [nI_add]
    congr 1
    omega
  · show nI 0 + F 5 0 + F 5 1 + F 5 2 + (nI 0 + F 6 0 + F 6 1 + F 6 2) = _
    rw [f5 0 (by decide), f5 1 (by decide), f5 2 (by decide), f6 0 (by decide), f6 1 (by decide), f6 2 (by decide)]
    simp only [nI_add]
    congr 1
    omega
theorem v_share {a b : Nat} (hab : a ≤ b) (h31 : b < 2 ^ 31) : ∃ (c : Nat) (q : Int), V64 (shareN a b) = .fin false c q := by
  unfold shareN
  by_cases hb : b = 0
  · rw [if_pos hb]; exact ⟨_, _, v64_1⟩
  · rw [if_neg hb]
    by_cases ha : a = 0
    · subst ha
      rw [v_div0 (by omega) h31]
      exact ⟨_, _, v64_0⟩
    · obtain ⟨c, j, e, -⟩ := v_div (a := a) (b := b) (by omega) hab h31
      exact ⟨_, _, e⟩
theorem ci_eq (a : Int) : compare a a = .eq := by
  show compareOfLessAndEq a a = _
  unfold compareOfLessAndEq
  rw [if_neg (by omega), if_pos rfl]
theorem cmp_self {x : UInt64} {s : Bool} {c : Nat} {q : Int} (h : V64 x = .fin s c q) : FP.dcmp x x = some .eq := by
  show FP.Core.order (FP.Core.val64 x) (FP.Core.val64 x) = _
  rw [show FP.Core.val64 x = _ from h]
  show some (compare _ _) = _
  rw [ci_eq]
abbrev rmX5_share : Room := { frames := 2, cells := 0, slots := 0, locals := 45 }
set_option maxHeartbeats 4000000 in
set_option maxRecDepth 100000 in
theorem mX5_share_one (l : Launch) (K : KT) (a : Nat → Nat) (F : FF) (g P L : Nat → Int32) (M : FF) {a9 b9 : Nat} (ha9 : sumS (F 5) 3 = nI a9) (hb9 : sumS (F 5) 3 + sumS (F 6) 3 = nI b9) (hab : a9 ≤ b9) (h31 : b9 < 2 ^ 31) (hc : b9 = 0) : Ct l K yX5_share wsX5_share rmX5_share [.ref (a 0)] [modR K a (flat F) g P L M] (some (.double (shareN a9 b9))) [modR K a (flat F) g P L M] := by
  refine CtP_of (cc := cX5_share) (nL := 3) (rt := some .double) (own := RX5) (lv0 := [(0, .ref (a 0))]) (by decide) rfl (Nat.le_of_ble_eq_true rfl) rfl rfl ?_
  intro G C0 hF _
  have hs : sumS (F 5) 3 + sumS (F 6) 3 = 0 := by rw [hb9, hc]; rfl
  refine J_aln C0 0 dX5_share_0 (kk := ?_)
  refine J_ic C0 3 dX5_share_1 (kk := ?_)
  refine J_callVd C0 (mX5_ofKinds_3 l K a F g P L M) [] [modR K a (flat F) g P L M] gX5_share_X5_ofKinds dX5_share_2 1 0 (kk := ?_)
  show J G _ _ _ _ _ [.int (sumS (F 5) 3)]
  refine J_isn C0 [(1, .int (sumS (F 5) 3)), (0, .ref (a 0))] dX5_share_5 (kk := ?_)
  refine J_iln C0 0 dX5_share_6 (kk := ?_)
  refine J_aln C0 1 dX5_share_7 (kk := ?_)
  refine J_ic C0 4 dX5_share_8 (kk := ?_)
  refine J_callVd C0 (mX5_ofKinds_4 l K a F g P L M) [] [modR K a (flat F) g P L M] gX5_share_X5_ofKinds dX5_share_9 1 0 (kk := ?_)
  show J G _ _ _ _ _ [.int (sumS (F 6) 3), .int (sumS (F 5) 3)]
  refine J_iadd C0 dX5_share_12 ?_
  refine J_isn C0 [(2, .int ((sumS (F 5) 3) + (sumS (F 6) 3))), (1, .int (sumS (F 5) 3)), (0, .ref (a 0))] dX5_share_13 (kk := ?_)
  refine J_iln C0 0 dX5_share_14 (kk := ?_)
  refine J_ifne C0 22 dX5_share_15 (kt := fun c1 => ?_) (kf := fun c1 => ?_)
  · exact absurd hs c1
  · refine J_dc1 C0 dX5_share_18 ?_
    refine J_goto C0 27 dX5_share_19 (kk := ?_)
    exact J_dret C0 hF dX5_share_27 ⟨by unfold shareN; rw [if_pos hc], rfl⟩

set_option maxHeartbeats 4000000 in
set_option maxRecDepth 100000 in
theorem mX5_share_div (l : Launch) (K : KT) (a : Nat → Nat) (F : FF) (g P L : Nat → Int32) (M : FF) {a9 b9 : Nat} (ha9 : sumS (F 5) 3 = nI a9) (hb9 : sumS (F 5) 3 + sumS (F 6) 3 = nI b9) (hab : a9 ≤ b9) (h31 : b9 < 2 ^ 31) (hc : ¬ b9 = 0) : Ct l K yX5_share wsX5_share rmX5_share [.ref (a 0)] [modR K a (flat F) g P L M] (some (.double (shareN a9 b9))) [modR K a (flat F) g P L M] := by
  refine CtP_of (cc := cX5_share) (nL := 3) (rt := some .double) (own := RX5) (lv0 := [(0, .ref (a 0))]) (by decide) rfl (Nat.le_of_ble_eq_true rfl) rfl rfl ?_
  intro G C0 hF _
  have hs : ¬ sumS (F 5) 3 + sumS (F 6) 3 = 0 := by rw [hb9]; exact fun z => hc ((nI_e0 h31).mp z)
  have hvf : vf_n64 (FP.ddiv (FP.i2d (sumS (F 5) 3)) (FP.i2d (sumS (F 5) 3 + sumS (F 6) 3))) := by rw [ha9] at hb9 ⊢; rw [hb9]; exact share_vf hc hab h31
  refine J_aln C0 0 dX5_share_0 (kk := ?_)
  refine J_ic C0 3 dX5_share_1 (kk := ?_)
  refine J_callVd C0 (mX5_ofKinds_3 l K a F g P L M) [] [modR K a (flat F) g P L M] gX5_share_X5_ofKinds dX5_share_2 1 0 (kk := ?_)
  show J G _ _ _ _ _ [.int (sumS (F 5) 3)]
  refine J_isn C0 [(1, .int (sumS (F 5) 3)), (0, .ref (a 0))] dX5_share_5 (kk := ?_)
  refine J_iln C0 0 dX5_share_6 (kk := ?_)
  refine J_aln C0 1 dX5_share_7 (kk := ?_)
  refine J_ic C0 4 dX5_share_8 (kk := ?_)
  refine J_callVd C0 (mX5_ofKinds_4 l K a F g P L M) [] [modR K a (flat F) g P L M] gX5_share_X5_ofKinds dX5_share_9 1 0 (kk := ?_)
  show J G _ _ _ _ _ [.int (sumS (F 6) 3), .int (sumS (F 5) 3)]
  refine J_iadd C0 dX5_share_12 ?_
  refine J_isn C0 [(2, .int ((sumS (F 5) 3) + (sumS (F 6) 3))), (1, .int (sumS (F 5) 3)), (0, .ref (a 0))] dX5_share_13 (kk := ?_)
  refine J_iln C0 0 dX5_share_14 (kk := ?_)
  refine J_ifne C0 22 dX5_share_15 (kt := fun c1 => ?_) (kf := fun c1 => ?_)
  · refine J_iln C0 1 dX5_share_22 (kk := ?_)
    refine J_i2d C0 dX5_share_23 ?_
    refine J_iln C0 0 dX5_share_24 (kk := ?_)
    refine J_i2d C0 dX5_share_25 ?_
    refine J_ddiv C0 dX5_share_26 hvf (kk := ?_)
    exact J_dret C0 hF dX5_share_27 ⟨by unfold shareN; rw [if_neg hc, hb9, ha9], rfl⟩
  · exact absurd c1 hs

theorem mX5_share (l : Launch) (K : KT) (a : Nat → Nat) (F : FF) (g P L : Nat → Int32) (M : FF) {a9 b9 : Nat} (ha9 : sumS (F 5) 3 = nI a9) (hb9 : sumS (F 5) 3 + sumS (F 6) 3 = nI b9) (hab : a9 ≤ b9) (h31 : b9 < 2 ^ 31) : Ct l K yX5_share wsX5_share rmX5_share [.ref (a 0)] [modR K a (flat F) g P L M] (some (.double (shareN a9 b9))) [modR K a (flat F) g P L M] := by
  by_cases hc : b9 = 0
  · exact mX5_share_one l K a F g P L M ha9 hb9 hab h31 hc
  · exact mX5_share_div l K a F g P L M ha9 hb9 hab h31 hc
abbrev rmX5_arrivedShare : Room := { frames := 3, cells := 0, slots := 0, locals := 67 }
set_option maxHeartbeats 4000000 in
set_option maxRecDepth 100000 in
theorem mX5_arrivedShare (l : Launch) (K : KT) (a : Nat → Nat) (F : FF) (g P L : Nat → Int32) (M : FF) {a9 b9 : Nat} (ha9 : sumS (F 5) 3 = nI a9) (hb9 : sumS (F 5) 3 + sumS (F 6) 3 = nI b9) (hab : a9 ≤ b9) (h31 : b9 < 2 ^ 31) : Ct l K yX5_arrivedShare wsX5_arrivedShare rmX5_arrivedShare [.ref (a 0)] [modR K a (flat F) g P L M] (some (.double (shareN a9 b9))) [modR K a (flat F) g P L (u2 M 0 2 (nI 0))] := by
  refine CtP_of (cc := cX5_arrivedShare) (nL := 1) (rt := some .double) (own := RX5) (lv0 := [(0, .ref (a 0))]) (by decide) rfl (Nat.le_of_ble_eq_true rfl) rfl rfl ?_
  intro G C0 hF _
  have f28 : Cond.fieldLink RX5 28 "CorkPermitsModel" "thrown" "I" ∈ wsX5_arrivedShare := by decide +kernel
  have iX5 : ∀ w ∈ u_ws RX5 TX5 13, w ∈ wsX5_arrivedShare := by decide +kernel
  refine J_aln C0 0 dX5_arrivedShare_0 (kk := ?_)
  refine J_ic C0 0 dX5_arrivedShare_1 (kk := ?_)
  refine J_put C0 iX5 tyX5_ok nmX5 0 0 8 [modR K a (flat F) g P L (u2 M 0 2 (nI 0))] f28 dX5_arrivedShare_2 (hd := rfl) (kk := ?_)
  refine J_aln C0 0 dX5_arrivedShare_5 (kk := ?_)
  refine J_callVd C0 (mX5_share l K a F g P L (u2 M 0 2 (nI 0)) ha9 hb9 hab h31) [] [modR K a (flat F) g P L (u2 M 0 2 (nI 0))] gX5_arrivedShare_X5_share dX5_arrivedShare_6 0 0 (kk := ?_)
  show J G _ _ _ _ _ [.double (shareN a9 b9)]
  exact J_dret C0 hF dX5_arrivedShare_9 ⟨rfl, rfl⟩

