abbrev rmX5_kindTold : Room := { frames := 5, cells := 0, slots := 0, locals := 110 }
set_option maxHeartbeats 4000000 in
set_option maxRecDepth 100000 in
theorem mX5_kindTold_0 (l : Launch) (K : KT) (a : Nat → Nat) (F : FF) (g P L : Nat → Int32) (M : FF) {B hn n : Nat} {N : Nat → Nat → Nat} (hv : InvN B F hn n N) {k : Nat} (hk : k < 3) : Ct l K yX5_kindTold wsX5_kindTold rmX5_kindTold [.ref (a 0), .int (nI k), .int (nI 0)] [modR K a (flat F) g P L M] (some (.int (kindC F k 0))) [modR K a (flat F) g P L M] := by
  refine CtP_of (cc := cX5_kindTold) (nL := 3) (rt := some .int) (own := RX5) (lv0 := [(0, .ref (a 0)), (1, .int (nI k)), (2, .int (nI 0))]) (by decide) rfl (Nat.le_of_ble_eq_true rfl) rfl rfl ?_
  intro G C0 hF _
  refine J_iln C0 2 dX5_kindTold_0 (kk := ?_)
  refine J_tin C0 32 dX5_kindTold_1 (kk := ?_)
  refine J_aln C0 0 dX5_kindTold_32 (kk := ?_)
  refine J_iln C0 1 dX5_kindTold_33 (kk := ?_)
  refine J_iln C0 2 dX5_kindTold_34 (kk := ?_)
  refine J_callVd C0 (mX5_ofKind l K a F g P L M (k := k) (w := 0) (by omega) (by omega)) [] [modR K a (flat F) g P L M] gX5_kindTold_X5_ofKind dX5_kindTold_35 2 0 (kk := ?_)
  show J G _ _ _ _ _ [.int (F 2 k)]
  exact J_iret C0 hF dX5_kindTold_38 ⟨rfl, rfl⟩

set_option maxHeartbeats 4000000 in
set_option maxRecDepth 100000 in
theorem mX5_kindTold_1 (l : Launch) (K : KT) (a : Nat → Nat) (F : FF) (g P L : Nat → Int32) (M : FF) {B hn n : Nat} {N : Nat → Nat → Nat} (hv : InvN B F hn n N) {k : Nat} (hk : k < 3) : Ct l K yX5_kindTold wsX5_kindTold rmX5_kindTold [.ref (a 0), .int (nI k), .int (nI 1)] [modR K a (flat F) g P L M] (some (.int (kindC F k 1))) [modR K a (flat F) g P L M] := by
  refine CtP_of (cc := cX5_kindTold) (nL := 3) (rt := some .int) (own := RX5) (lv0 := [(0, .ref (a 0)), (1, .int (nI k)), (2, .int (nI 1))]) (by decide) rfl (Nat.le_of_ble_eq_true rfl) rfl rfl ?_
  intro G C0 hF _
  refine J_iln C0 2 dX5_kindTold_0 (kk := ?_)
  refine J_tin C0 32 dX5_kindTold_1 (kk := ?_)
  refine J_aln C0 0 dX5_kindTold_32 (kk := ?_)
  refine J_iln C0 1 dX5_kindTold_33 (kk := ?_)
  refine J_iln C0 2 dX5_kindTold_34 (kk := ?_)
  refine J_callVd C0 (mX5_ofKind l K a F g P L M (k := k) (w := 1) (by omega) (by omega)) [] [modR K a (flat F) g P L M] gX5_kindTold_X5_ofKind dX5_kindTold_35 2 0 (kk := ?_)
  show J G _ _ _ _ _ [.int (F 3 k)]
  exact J_iret C0 hF dX5_kindTold_38 ⟨rfl, rfl⟩

set_option maxHeartbeats 4000000 in
set_option maxRecDepth 100000 in
theorem mX5_kindTold_2 (l : Launch) (K : KT) (a : Nat → Nat) (F : FF) (g P L : Nat → Int32) (M : FF) {B hn n : Nat} {N : Nat → Nat → Nat} (hv : InvN B F hn n N) {k : Nat} (hk : k < 3) : Ct l K yX5_kindTold wsX5_kindTold rmX5_kindTold [.ref (a 0), .int (nI k), .int (nI 2)] [modR K a (flat F) g P L M] (some (.int (kindC F k 2))) [modR K a (flat F) g P L M] := by
  refine CtP_of (cc := cX5_kindTold) (nL := 3) (rt := some .int) (own := RX5) (lv0 := [(0, .ref (a 0)), (1, .int (nI k)), (2, .int (nI 2))]) (by decide) rfl (Nat.le_of_ble_eq_true rfl) rfl rfl ?_
  intro G C0 hF _
  refine J_iln C0 2 dX5_kindTold_0 (kk := ?_)
  refine J_tin C0 39 dX5_kindTold_1 (kk := ?_)
  refine J_aln C0 0 dX5_kindTold_39 (kk := ?_)
  refine J_iln C0 1 dX5_kindTold_40 (kk := ?_)
  refine J_callVd C0 (mX5_outIn l K a F g P L M hv (k := k) (by omega)) [] [modR K a (flat F) g P L M] gX5_kindTold_X5_outIn dX5_kindTold_41 1 0 (kk := ?_)
  show J G _ _ _ _ _ [.int (outK F k)]
  exact J_iret C0 hF dX5_kindTold_44 ⟨rfl, rfl⟩

set_option maxHeartbeats 4000000 in
set_option maxRecDepth 100000 in
theorem mX5_kindTold_3 (l : Launch) (K : KT) (a : Nat → Nat) (F : FF) (g P L : Nat → Int32) (M : FF) {B hn n : Nat} {N : Nat → Nat → Nat} (hv : InvN B F hn n N) {k : Nat} (hk : k < 3) : Ct l K yX5_kindTold wsX5_kindTold rmX5_kindTold [.ref (a 0), .int (nI k), .int (nI 3)] [modR K a (flat F) g P L M] (some (.int (kindC F k 3))) [modR K a (flat F) g P L M] := by
  refine CtP_of (cc := cX5_kindTold) (nL := 3) (rt := some .int) (own := RX5) (lv0 := [(0, .ref (a 0)), (1, .int (nI k)), (2, .int (nI 3))]) (by decide) rfl (Nat.le_of_ble_eq_true rfl) rfl rfl ?_
  intro G C0 hF _
  refine J_iln C0 2 dX5_kindTold_0 (kk := ?_)
  refine J_tin C0 45 dX5_kindTold_1 (kk := ?_)
  refine J_aln C0 0 dX5_kindTold_45 (kk := ?_)
  refine J_iln C0 1 dX5_kindTold_46 (kk := ?_)
  refine J_callVd C0 (mX5_free l K a F g P L M hv (k := k) (by omega)) [] [modR K a (flat F) g P L M] gX5_kindTold_X5_free dX5_kindTold_47 1 0 (kk := ?_)
  show J G _ _ _ _ _ [.int (freeS F k)]
  exact J_iret C0 hF dX5_kindTold_50 ⟨rfl, rfl⟩

set_option maxHeartbeats 4000000 in
set_option maxRecDepth 100000 in
theorem mX5_kindTold_4 (l : Launch) (K : KT) (a : Nat → Nat) (F : FF) (g P L : Nat → Int32) (M : FF) {B hn n : Nat} {N : Nat → Nat → Nat} (hv : InvN B F hn n N) {k : Nat} (hk : k < 3) : Ct l K yX5_kindTold wsX5_kindTold rmX5_kindTold [.ref (a 0), .int (nI k), .int (nI 4)] [modR K a (flat F) g P L M] (some (.int (kindC F k 4))) [modR K a (flat F) g P L M] := by
  refine CtP_of (cc := cX5_kindTold) (nL := 3) (rt := some .int) (own := RX5) (lv0 := [(0, .ref (a 0)), (1, .int (nI k)), (2, .int (nI 4))]) (by decide) rfl (Nat.le_of_ble_eq_true rfl) rfl rfl ?_
  intro G C0 hF _
  refine J_iln C0 2 dX5_kindTold_0 (kk := ?_)
  refine J_tout C0 51 dX5_kindTold_1 (by decide) (kk := ?_)
  refine J_aln C0 0 dX5_kindTold_51 (kk := ?_)
  refine J_iln C0 1 dX5_kindTold_52 (kk := ?_)
  refine J_iln C0 2 dX5_kindTold_53 (kk := ?_)
  refine J_ic C0 2 dX5_kindTold_54 (kk := ?_)
  refine J_isubN C0 (by omega) dX5_kindTold_55 ?_
  refine J_callVd C0 (mX5_ofKind l K a F g P L M (k := k) (w := 2) (by omega) (by omega)) [] [modR K a (flat F) g P L M] gX5_kindTold_X5_ofKind dX5_kindTold_56 2 0 (kk := ?_)
  show J G _ _ _ _ _ [.int (F 4 k)]
  exact J_iret C0 hF dX5_kindTold_59 ⟨rfl, rfl⟩

set_option maxHeartbeats 4000000 in
set_option maxRecDepth 100000 in
theorem mX5_kindTold_5 (l : Launch) (K : KT) (a : Nat → Nat) (F : FF) (g P L : Nat → Int32) (M : FF) {B hn n : Nat} {N : Nat → Nat → Nat} (hv : InvN B F hn n N) {k : Nat} (hk : k < 3) : Ct l K yX5_kindTold wsX5_kindTold rmX5_kindTold [.ref (a 0), .int (nI k), .int (nI 5)] [modR K a (flat F) g P L M] (some (.int (kindC F k 5))) [modR K a (flat F) g P L M] := by
  refine CtP_of (cc := cX5_kindTold) (nL := 3) (rt := some .int) (own := RX5) (lv0 := [(0, .ref (a 0)), (1, .int (nI k)), (2, .int (nI 5))]) (by decide) rfl (Nat.le_of_ble_eq_true rfl) rfl rfl ?_
  intro G C0 hF _
  refine J_iln C0 2 dX5_kindTold_0 (kk := ?_)
  refine J_tout C0 51 dX5_kindTold_1 (by decide) (kk := ?_)
  refine J_aln C0 0 dX5_kindTold_51 (kk := ?_)
  refine J_iln C0 1 dX5_kindTold_52 (kk := ?_)
  refine J_iln C0 2 dX5_kindTold_53 (kk := ?_)
  refine J_ic C0 2 dX5_kindTold_54 (kk := ?_)
  refine J_isubN C0 (by omega) dX5_kindTold_55 ?_
  refine J_callVd C0 (mX5_ofKind l K a F g P L M (k := k) (w := 3) (by omega) (by omega)) [] [modR K a (flat F) g P L M] gX5_kindTold_X5_ofKind dX5_kindTold_56 2 0 (kk := ?_)
  show J G _ _ _ _ _ [.int (F 5 k)]
  exact J_iret C0 hF dX5_kindTold_59 ⟨rfl, rfl⟩

set_option maxHeartbeats 4000000 in
set_option maxRecDepth 100000 in
theorem mX5_kindTold_6 (l : Launch) (K : KT) (a : Nat → Nat) (F : FF) (g P L : Nat → Int32) (M : FF) {B hn n : Nat} {N : Nat → Nat → Nat} (hv : InvN B F hn n N) {k : Nat} (hk : k < 3) : Ct l K yX5_kindTold wsX5_kindTold rmX5_kindTold [.ref (a 0), .int (nI k), .int (nI 6)] [modR K a (flat F) g P L M] (some (.int (kindC F k 6))) [modR K a (flat F) g P L M] := by
  refine CtP_of (cc := cX5_kindTold) (nL := 3) (rt := some .int) (own := RX5) (lv0 := [(0, .ref (a 0)), (1, .int (nI k)), (2, .int (nI 6))]) (by decide) rfl (Nat.le_of_ble_eq_true rfl) rfl rfl ?_
  intro G C0 hF _
  refine J_iln C0 2 dX5_kindTold_0 (kk := ?_)
  refine J_tout C0 51 dX5_kindTold_1 (by decide) (kk := ?_)
  refine J_aln C0 0 dX5_kindTold_51 (kk := ?_)
  refine J_iln C0 1 dX5_kindTold_52 (kk := ?_)
  refine J_iln C0 2 dX5_kindTold_53 (kk := ?_)
  refine J_ic C0 2 dX5_kindTold_54 (kk := ?_)
  refine J_isubN C0 (by omega) dX5_kindTold_55 ?_
  refine J_callVd C0 (mX5_ofKind l K a F g P L M (k := k) (w := 4) (by omega) (by omega)) [] [modR K a (flat F) g P L M] gX5_kindTold_X5_ofKind dX5_kindTold_56 2 0 (kk := ?_)
  show J G _ _ _ _ _ [.int (F 6 k)]
  exact J_iret C0 hF dX5_kindTold_59 ⟨rfl, rfl⟩

theorem mX5_kindTold (l : Launch) (K : KT) (a : Nat → Nat) (F : FF) (g P L : Nat → Int32) (M : FF) {B hn n : Nat} {N : Nat → Nat → Nat} (hv : InvN B F hn n N) {k : Nat} (hk : k < 3) {w : Nat} (hw : w < 7) : Ct l K yX5_kindTold wsX5_kindTold rmX5_kindTold [.ref (a 0), .int (nI k), .int (nI w)] [modR K a (flat F) g P L M] (some (.int (kindC F k w))) [modR K a (flat F) g P L M] := by
  rcases (show w = 0 ∨ w = 1 ∨ w = 2 ∨ w = 3 ∨ w = 4 ∨ w = 5 ∨ w = 6 by omega) with rfl | rfl | rfl | rfl | rfl | rfl | rfl
  · exact mX5_kindTold_0 l K a F g P L M hv hk
  · exact mX5_kindTold_1 l K a F g P L M hv hk
  · exact mX5_kindTold_2 l K a F g P L M hv hk
  · exact mX5_kindTold_3 l K a F g P L M hv hk
  · exact mX5_kindTold_4 l K a F g P L M hv hk
  · exact mX5_kindTold_5 l K a F g P L M hv hk
  · exact mX5_kindTold_6 l K a F g P L M hv hk
abbrev rmX5_kind : Room := { frames := 6, cells := 0, slots := 0, locals := 132 }
set_option maxHeartbeats 4000000 in
set_option maxRecDepth 100000 in
theorem mX5_kind (l : Launch) (K : KT) (a : Nat → Nat) (F : FF) (g P L : Nat → Int32) (M : FF) {B hn n : Nat} {N : Nat → Nat → Nat} (hv : InvN B F hn n N) {k : Nat} (hk : k < 3) {w : Nat} (hw : w < 7) : Ct l K yX5_kind wsX5_kind rmX5_kind [.ref (a 0), .int (nI k), .int (nI w)] [modR K a (flat F) g P L M] (some (.int (kindC F k w))) [modR K a (flat F) g P L (u2 M 0 2 (nI 0))] := by
  refine CtP_of (cc := cX5_kind) (nL := 3) (rt := some .int) (own := RX5) (lv0 := [(0, .ref (a 0)), (1, .int (nI k)), (2, .int (nI w))]) (by decide) rfl (Nat.le_of_ble_eq_true rfl) rfl rfl ?_
  intro G C0 hF _
  have f28 : Cond.fieldLink RX5 28 "CorkPermitsModel" "thrown" "I" ∈ wsX5_kind := by decide +kernel
  have iX5 : ∀ w ∈ u_ws RX5 TX5 13, w ∈ wsX5_kind := by decide +kernel
  refine J_aln C0 0 dX5_kind_0 (kk := ?_)
  refine J_ic C0 0 dX5_kind_1 (kk := ?_)
  refine J_put C0 iX5 tyX5_ok nmX5 0 0 8 [modR K a (flat F) g P L (u2 M 0 2 (nI 0))] f28 dX5_kind_2 (hd := rfl) (kk := ?_)
  refine J_iln C0 1 dX5_kind_5 (kk := ?_)
  refine J_callSd C0 (mX5_isKind_y l K (x := nI k) (inN_y (v := k) (lo := 0) (hi := 2) (by omega) (by omega) (by omega))) [modR K a (flat F) g P L (u2 M 0 2 (nI 0))] [modR K a (flat F) g P L (u2 M 0 2 (nI 0))] gX5_kind_X5_isKind dX5_kind_6 1 (kk := ?_)
  show J G _ _ _ _ _ [.int (nI 1)]
  refine J_ifneN C0 18 (by omega) dX5_kind_9 (kt := fun c1 => ?_) (kf := fun c1 => ?_)
  · refine J_iln C0 2 dX5_kind_18 (kk := ?_)
    refine J_ic C0 0 dX5_kind_19 (kk := ?_)
    refine J_bi C0 6 dX5_kind_20 (kk := ?_)
    refine J_callSd C0 (mX5_in_y l K (x := nI w) (lo := nI 0) (hi := nI 6) (inN_y (v := w) (lo := 0) (hi := 6) (by omega) (by omega) (by omega)).1 (inN_y (v := w) (lo := 0) (hi := 6) (by omega) (by omega) (by omega)).2) [modR K a (flat F) g P L (u2 M 0 2 (nI 0))] [modR K a (flat F) g P L (u2 M 0 2 (nI 0))] gX5_kind_X5_in dX5_kind_22 3 (kk := ?_)
    show J G _ _ _ _ _ [.int (nI 1)]
    refine J_ifeqN C0 37 (by omega) dX5_kind_25 (kt := fun c2 => ?_) (kf := fun c2 => ?_)
    · exact absurd c2 c1
    · refine J_aln C0 0 dX5_kind_28 (kk := ?_)
      refine J_iln C0 1 dX5_kind_29 (kk := ?_)
      refine J_iln C0 2 dX5_kind_30 (kk := ?_)
      refine J_callVd C0 (mX5_kindTold l K a F g P L (u2 M 0 2 (nI 0)) hv (k := k) (by omega) (w := w) (by omega)) [] [modR K a (flat F) g P L (u2 M 0 2 (nI 0))] gX5_kind_X5_kindTold dX5_kind_31 2 0 (kk := ?_)
      show J G _ _ _ _ _ [.int (kindC F k w)]
      refine J_goto C0 42 dX5_kind_34 (kk := ?_)
      exact J_iret C0 hF dX5_kind_42 ⟨rfl, rfl⟩
  · exfalso; omega

set_option maxHeartbeats 4000000 in
set_option maxRecDepth 100000 in
theorem mX5_kind_kind (l : Launch) (K : KT) (a : Nat → Nat) (F : FF) (g P L : Nat → Int32) (M : FF) {x : Int32} (hx : ¬ (¬ x < nI 0 ∧ ¬ nI 2 < x)) (y : Int32) : Ct l K yX5_kind wsX5_kind rmX5_kind [.ref (a 0), .int x, .int y] [modR K a (flat F) g P L M] (some (.int (nI 0))) [modR K a (flat F) g P L (u2 (u2 M 0 2 (nI 0)) 0 2 (nI 1))] := by
  refine CtP_of (cc := cX5_kind) (nL := 3) (rt := some .int) (own := RX5) (lv0 := [(0, .ref (a 0)), (1, .int x), (2, .int y)]) (by decide) rfl (Nat.le_of_ble_eq_true rfl) rfl rfl ?_
  intro G C0 hF _
  have f28 : Cond.fieldLink RX5 28 "CorkPermitsModel" "thrown" "I" ∈ wsX5_kind := by decide +kernel
  have iX5 : ∀ w ∈ u_ws RX5 TX5 13, w ∈ wsX5_kind := by decide +kernel
  refine J_aln C0 0 dX5_kind_0 (kk := ?_)
  refine J_ic C0 0 dX5_kind_1 (kk := ?_)
  refine J_put C0 iX5 tyX5_ok nmX5 0 0 8 [modR K a (flat F) g P L (u2 M 0 2 (nI 0))] f28 dX5_kind_2 (hd := rfl) (kk := ?_)
  refine J_iln C0 1 dX5_kind_5 (kk := ?_)
  refine J_callSd C0 (mX5_isKind_n l K (x := x) hx) [modR K a (flat F) g P L (u2 M 0 2 (nI 0))] [modR K a (flat F) g P L (u2 M 0 2 (nI 0))] gX5_kind_X5_isKind dX5_kind_6 1 (kk := ?_)
  show J G _ _ _ _ _ [.int (nI 0)]
  refine J_ifneN C0 18 (by omega) dX5_kind_9 (kt := fun c1 => ?_) (kf := fun c1 => ?_)
  · exfalso; omega
  · refine J_aln C0 0 dX5_kind_12 (kk := ?_)
    refine J_ic C0 1 dX5_kind_13 (kk := ?_)
    refine J_callVd C0 (mX5_fails l K a F g P L (u2 M 0 2 (nI 0)) (nI 1)) [] [modR K a (flat F) g P L (u2 (u2 M 0 2 (nI 0)) 0 2 (nI 1))] gX5_kind_X5_fails dX5_kind_14 1 0 (kk := ?_)
    show J G _ _ _ _ _ [.int (nI 0)]
    exact J_iret C0 hF dX5_kind_17 ⟨rfl, rfl⟩

set_option maxHeartbeats 4000000 in
set_option maxRecDepth 100000 in
theorem mX5_kind_what (l : Launch) (K : KT) (a : Nat → Nat) (F : FF) (g P L : Nat → Int32) (M : FF) {k : Nat} (hk : k < 3) {y : Int32} (hy : ¬ (¬ y < nI 0 ∧ ¬ nI 6 < y)) : Ct l K yX5_kind wsX5_kind rmX5_kind [.ref (a 0), .int (nI k), .int y] [modR K a (flat F) g P L M] (some (.int (nI 0))) [modR K a (flat F) g P L (u2 (u2 M 0 2 (nI 0)) 0 2 (nI 2))] := by
  refine CtP_of (cc := cX5_kind) (nL := 3) (rt := some .int) (own := RX5) (lv0 := [(0, .ref (a 0)), (1, .int (nI k)), (2, .int y)]) (by decide) rfl (Nat.le_of_ble_eq_true rfl) rfl rfl ?_
  intro G C0 hF _
  have f28 : Cond.fieldLink RX5 28 "CorkPermitsModel" "thrown" "I" ∈ wsX5_kind := by decide +kernel
  have iX5 : ∀ w ∈ u_ws RX5 TX5 13, w ∈ wsX5_kind := by decide +kernel
  refine J_aln C0 0 dX5_kind_0 (kk := ?_)
  refine J_ic C0 0 dX5_kind_1 (kk := ?_)
  refine J_put C0 iX5 tyX5_ok nmX5 0 0 8 [modR K a (flat F) g P L (u2 M 0 2 (nI 0))] f28 dX5_kind_2 (hd := rfl) (kk := ?_)
  refine J_iln C0 1 dX5_kind_5 (kk := ?_)
  refine J_callSd C0 (mX5_isKind_y l K (x := nI k) (inN_y (v := k) (lo := 0) (hi := 2) (by omega) (by omega) (by omega))) [modR K a (flat F) g P L (u2 M 0 2 (nI 0))] [modR K a (flat F) g P L (u2 M 0 2 (nI 0))] gX5_kind_X5_isKind dX5_kind_6 1 (kk := ?_)
  show J G _ _ _ _ _ [.int (nI 1)]
  refine J_ifneN C0 18 (by omega) dX5_kind_9 (kt := fun c1 => ?_) (kf := fun c1 => ?_)
  · refine J_iln C0 2 dX5_kind_18 (kk := ?_)
    refine J_ic C0 0 dX5_kind_19 (kk := ?_)
    refine J_bi C0 6 dX5_kind_20 (kk := ?_)
    refine J_callSd C0 (mX5_in_n l K (x := y) (lo := nI 0) (hi := nI 6) hy) [modR K a (flat F) g P L (u2 M 0 2 (nI 0))] [modR K a (flat F) g P L (u2 M 0 2 (nI 0))] gX5_kind_X5_in dX5_kind_22 3 (kk := ?_)
    show J G _ _ _ _ _ [.int (nI 0)]
    refine J_ifeqN C0 37 (by omega) dX5_kind_25 (kt := fun c2 => ?_) (kf := fun c2 => ?_)
    · refine J_aln C0 0 dX5_kind_37 (kk := ?_)
      refine J_ic C0 2 dX5_kind_38 (kk := ?_)
      refine J_callVd C0 (mX5_fails l K a F g P L (u2 M 0 2 (nI 0)) (nI 2)) [] [modR K a (flat F) g P L (u2 (u2 M 0 2 (nI 0)) 0 2 (nI 2))] gX5_kind_X5_fails dX5_kind_39 1 0 (kk := ?_)
      show J G _ _ _ _ _ [.int (nI 0)]
      exact J_iret C0 hF dX5_kind_42 ⟨rfl, rfl⟩
    · exfalso; omega
  · exfalso; omega

abbrev rmX5_pairTold : Room := { frames := 4, cells := 0, slots := 0, locals := 88 }
set_option maxHeartbeats 4000000 in
set_option maxRecDepth 100000 in
theorem mX5_pairTold_0 (l : Launch) (K : KT) (a : Nat → Nat) (F : FF) (g P L : Nat → Int32) (M : FF) {B hn n : Nat} {N : Nat → Nat → Nat} (hv : InvN B F hn n N) (hB : B < 2 ^ 30) {h k : Nat} (hh : h < 4) (hk : k < 3) : Ct l K yX5_pairTold wsX5_pairTold rmX5_pairTold [.ref (a 0), .int (nI h), .int (nI k), .int (nI 0)] [modR K a (flat F) g P L M] (some (.int (placeC F (3 * h + k) 0))) [modR K a (flat F) g P L M] := by
  refine CtP_of (cc := cX5_pairTold) (nL := 4) (rt := some .int) (own := RX5) (lv0 := [(0, .ref (a 0)), (1, .int (nI h)), (2, .int (nI k)), (3, .int (nI 0))]) (by decide) rfl (Nat.le_of_ble_eq_true rfl) rfl rfl ?_
  intro G C0 hF _
  refine J_iln C0 3 dX5_pairTold_0 (kk := ?_)
  refine J_tin C0 52 dX5_pairTold_1 (kk := ?_)
  refine J_aln C0 0 dX5_pairTold_52 (kk := ?_)
  refine J_iln C0 1 dX5_pairTold_53 (kk := ?_)
  refine J_iln C0 2 dX5_pairTold_54 (kk := ?_)
  refine J_iln C0 3 dX5_pairTold_55 (kk := ?_)
  refine J_callVd C0 (mX5_of l K a F g P L M (h := h) (k := k) (w := 0) (by omega) (by omega) (by omega)) [] [modR K a (flat F) g P L M] gX5_pairTold_X5_of dX5_pairTold_56 3 0 (kk := ?_)
  show J G _ _ _ _ _ [.int (F 7 (3 * h + k))]
  exact J_iret C0 hF dX5_pairTold_59 ⟨rfl, rfl⟩

set_option maxHeartbeats 4000000 in
set_option maxRecDepth 100000 in
theorem mX5_pairTold_1 (l : Launch) (K : KT) (a : Nat → Nat) (F : FF) (g P L : Nat → Int32) (M : FF) {B hn n : Nat} {N : Nat → Nat → Nat} (hv : InvN B F hn n N) (hB : B < 2 ^ 30) {h k : Nat} (hh : h < 4) (hk : k < 3) : Ct l K yX5_pairTold wsX5_pairTold rmX5_pairTold [.ref (a 0), .int (nI h), .int (nI k), .int (nI 1)] [modR K a (flat F) g P L M] (some (.int (placeC F (3 * h + k) 1))) [modR K a (flat F) g P L M] := by
  refine CtP_of (cc := cX5_pairTold) (nL := 4) (rt := some .int) (own := RX5) (lv0 := [(0, .ref (a 0)), (1, .int (nI h)), (2, .int (nI k)), (3, .int (nI 1))]) (by decide) rfl (Nat.le_of_ble_eq_true rfl) rfl rfl ?_
  intro G C0 hF _
  refine J_iln C0 3 dX5_pairTold_0 (kk := ?_)
  refine J_tin C0 52 dX5_pairTold_1 (kk := ?_)
  refine J_aln C0 0 dX5_pairTold_52 (kk := ?_)
  refine J_iln C0 1 dX5_pairTold_53 (kk := ?_)
  refine J_iln C0 2 dX5_pairTold_54 (kk := ?_)
  refine J_iln C0 3 dX5_pairTold_55 (kk := ?_)
  refine J_callVd C0 (mX5_of l K a F g P L M (h := h) (k := k) (w := 1) (by omega) (by omega) (by omega)) [] [modR K a (flat F) g P L M] gX5_pairTold_X5_of dX5_pairTold_56 3 0 (kk := ?_)
  show J G _ _ _ _ _ [.int (F 8 (3 * h + k))]
  exact J_iret C0 hF dX5_pairTold_59 ⟨rfl, rfl⟩

set_option maxHeartbeats 4000000 in
set_option maxRecDepth 100000 in
theorem mX5_pairTold_2 (l : Launch) (K : KT) (a : Nat → Nat) (F : FF) (g P L : Nat → Int32) (M : FF) {B hn n : Nat} {N : Nat → Nat → Nat} (hv : InvN B F hn n N) (hB : B < 2 ^ 30) {h k : Nat} (hh : h < 4) (hk : k < 3) : Ct l K yX5_pairTold wsX5_pairTold rmX5_pairTold [.ref (a 0), .int (nI h), .int (nI k), .int (nI 2)] [modR K a (flat F) g P L M] (some (.int (placeC F (3 * h + k) 2))) [modR K a (flat F) g P L M] := by
  refine CtP_of (cc := cX5_pairTold) (nL := 4) (rt := some .int) (own := RX5) (lv0 := [(0, .ref (a 0)), (1, .int (nI h)), (2, .int (nI k)), (3, .int (nI 2))]) (by decide) rfl (Nat.le_of_ble_eq_true rfl) rfl rfl ?_
  intro G C0 hF _
  refine J_iln C0 3 dX5_pairTold_0 (kk := ?_)
  refine J_tin C0 60 dX5_pairTold_1 (kk := ?_)
  refine J_aln C0 0 dX5_pairTold_60 (kk := ?_)
  refine J_iln C0 1 dX5_pairTold_61 (kk := ?_)
  refine J_iln C0 2 dX5_pairTold_62 (kk := ?_)
  refine J_callVd C0 (mX5_outOf l K a F g P L M (h := h) (k := k) (by omega) (by omega)) [] [modR K a (flat F) g P L M] gX5_pairTold_X5_outOf dX5_pairTold_63 2 0 (kk := ?_)
  show J G _ _ _ _ _ [.int (outS F (3 * h + k))]
  exact J_iret C0 hF dX5_pairTold_66 ⟨rfl, rfl⟩

set_option maxHeartbeats 4000000 in
set_option maxRecDepth 100000 in
theorem mX5_pairTold_3 (l : Launch) (K : KT) (a : Nat → Nat) (F : FF) (g P L : Nat → Int32) (M : FF) {B hn n : Nat} {N : Nat → Nat → Nat} (hv : InvN B F hn n N) (hB : B < 2 ^ 30) {h k : Nat} (hh : h < 4) (hk : k < 3) : Ct l K yX5_pairTold wsX5_pairTold rmX5_pairTold [.ref (a 0), .int (nI h), .int (nI k), .int (nI 3)] [modR K a (flat F) g P L M] (some (.int (placeC F (3 * h + k) 3))) [modR K a (flat F) g P L M] := by
  refine CtP_of (cc := cX5_pairTold) (nL := 4) (rt := some .int) (own := RX5) (lv0 := [(0, .ref (a 0)), (1, .int (nI h)), (2, .int (nI k)), (3, .int (nI 3))]) (by decide) rfl (Nat.le_of_ble_eq_true rfl) rfl rfl ?_
  intro G C0 hF _
  refine J_iln C0 3 dX5_pairTold_0 (kk := ?_)
  refine J_tin C0 67 dX5_pairTold_1 (kk := ?_)
  refine J_aln C0 0 dX5_pairTold_67 (kk := ?_)
  refine J_iln C0 1 dX5_pairTold_68 (kk := ?_)
  refine J_iln C0 2 dX5_pairTold_69 (kk := ?_)
  refine J_iln C0 3 dX5_pairTold_70 (kk := ?_)
  refine J_ic C0 1 dX5_pairTold_71 (kk := ?_)
  refine J_isubN C0 (by omega) dX5_pairTold_72 ?_
  refine J_callVd C0 (mX5_of l K a F g P L M (h := h) (k := k) (w := 2) (by omega) (by omega) (by omega)) [] [modR K a (flat F) g P L M] gX5_pairTold_X5_of dX5_pairTold_73 3 0 (kk := ?_)
  show J G _ _ _ _ _ [.int (F 9 (3 * h + k))]
  exact J_iret C0 hF dX5_pairTold_76 ⟨rfl, rfl⟩

set_option maxHeartbeats 4000000 in
set_option maxRecDepth 100000 in
theorem mX5_pairTold_4 (l : Launch) (K : KT) (a : Nat → Nat) (F : FF) (g P L : Nat → Int32) (M : FF) {B hn n : Nat} {N : Nat → Nat → Nat} (hv : InvN B F hn n N) (hB : B < 2 ^ 30) {h k : Nat} (hh : h < 4) (hk : k < 3) : Ct l K yX5_pairTold wsX5_pairTold rmX5_pairTold [.ref (a 0), .int (nI h), .int (nI k), .int (nI 4)] [modR K a (flat F) g P L M] (some (.int (placeC F (3 * h + k) 4))) [modR K a (flat F) g P L M] := by
  refine CtP_of (cc := cX5_pairTold) (nL := 4) (rt := some .int) (own := RX5) (lv0 := [(0, .ref (a 0)), (1, .int (nI h)), (2, .int (nI k)), (3, .int (nI 4))]) (by decide) rfl (Nat.le_of_ble_eq_true rfl) rfl rfl ?_
  intro G C0 hF _
  refine J_iln C0 3 dX5_pairTold_0 (kk := ?_)
  refine J_tin C0 67 dX5_pairTold_1 (kk := ?_)
  refine J_aln C0 0 dX5_pairTold_67 (kk := ?_)
  refine J_iln C0 1 dX5_pairTold_68 (kk := ?_)
  refine J_iln C0 2 dX5_pairTold_69 (kk := ?_)
  refine J_iln C0 3 dX5_pairTold_70 (kk := ?_)
  refine J_ic C0 1 dX5_pairTold_71 (kk := ?_)
  refine J_isubN C0 (by omega) dX5_pairTold_72 ?_
  refine J_callVd C0 (mX5_of l K a F g P L M (h := h) (k := k) (w := 3) (by omega) (by omega) (by omega)) [] [modR K a (flat F) g P L M] gX5_pairTold_X5_of dX5_pairTold_73 3 0 (kk := ?_)
  show J G _ _ _ _ _ [.int (F 10 (3 * h + k))]
  exact J_iret C0 hF dX5_pairTold_76 ⟨rfl, rfl⟩

set_option maxHeartbeats 4000000 in
set_option maxRecDepth 100000 in
theorem mX5_pairTold_5 (l : Launch) (K : KT) (a : Nat → Nat) (F : FF) (g P L : Nat → Int32) (M : FF) {B hn n : Nat} {N : Nat → Nat → Nat} (hv : InvN B F hn n N) (hB : B < 2 ^ 30) {h k : Nat} (hh : h < 4) (hk : k < 3) : Ct l K yX5_pairTold wsX5_pairTold rmX5_pairTold [.ref (a 0), .int (nI h), .int (nI k), .int (nI 5)] [modR K a (flat F) g P L M] (some (.int (placeC F (3 * h + k) 5))) [modR K a (flat F) g P L M] := by
  refine CtP_of (cc := cX5_pairTold) (nL := 4) (rt := some .int) (own := RX5) (lv0 := [(0, .ref (a 0)), (1, .int (nI h)), (2, .int (nI k)), (3, .int (nI 5))]) (by decide) rfl (Nat.le_of_ble_eq_true rfl) rfl rfl ?_
  intro G C0 hF _
  refine J_iln C0 3 dX5_pairTold_0 (kk := ?_)
  refine J_tin C0 77 dX5_pairTold_1 (kk := ?_)
  refine J_aln C0 0 dX5_pairTold_77 (kk := ?_)
  refine J_iln C0 1 dX5_pairTold_78 (kk := ?_)
  refine J_iln C0 2 dX5_pairTold_79 (kk := ?_)
  refine J_callVd C0 (mX5_corks l K a F g P L M (h := h) (k := k) (by omega) (by omega)) [] [modR K a (flat F) g P L M] gX5_pairTold_X5_corks dX5_pairTold_80 2 0 (kk := ?_)
  show J G _ _ _ _ _ [.int (corksS F (3 * h + k))]
  exact J_iret C0 hF dX5_pairTold_83 ⟨rfl, rfl⟩

set_option maxHeartbeats 4000000 in
set_option maxRecDepth 100000 in
theorem mX5_pairTold_6 (l : Launch) (K : KT) (a : Nat → Nat) (F : FF) (g P L : Nat → Int32) (M : FF) {B hn n : Nat} {N : Nat → Nat → Nat} (hv : InvN B F hn n N) (hB : B < 2 ^ 30) {h k : Nat} (hh : h < 4) (hk : k < 3) : Ct l K yX5_pairTold wsX5_pairTold rmX5_pairTold [.ref (a 0), .int (nI h), .int (nI k), .int (nI 6)] [modR K a (flat F) g P L M] (some (.int (placeC F (3 * h + k) 6))) [modR K a (flat F) g P L M] := by
  refine CtP_of (cc := cX5_pairTold) (nL := 4) (rt := some .int) (own := RX5) (lv0 := [(0, .ref (a 0)), (1, .int (nI h)), (2, .int (nI k)), (3, .int (nI 6))]) (by decide) rfl (Nat.le_of_ble_eq_true rfl) rfl rfl ?_
  intro G C0 hF _
  refine J_iln C0 3 dX5_pairTold_0 (kk := ?_)
  refine J_tin C0 84 dX5_pairTold_1 (kk := ?_)
  refine J_aln C0 0 dX5_pairTold_84 (kk := ?_)
  refine J_iln C0 1 dX5_pairTold_85 (kk := ?_)
  refine J_iln C0 2 dX5_pairTold_86 (kk := ?_)
  refine J_ic C0 4 dX5_pairTold_87 (kk := ?_)
  refine J_callVd C0 (mX5_of l K a F g P L M (h := h) (k := k) (w := 4) (by omega) (by omega) (by omega)) [] [modR K a (flat F) g P L M] gX5_pairTold_X5_of dX5_pairTold_88 3 0 (kk := ?_)
  show J G _ _ _ _ _ [.int (F 11 (3 * h + k))]
  exact J_iret C0 hF dX5_pairTold_91 ⟨rfl, rfl⟩

set_option maxHeartbeats 4000000 in
set_option maxRecDepth 100000 in
theorem mX5_pairTold_7 (l : Launch) (K : KT) (a : Nat → Nat) (F : FF) (g P L : Nat → Int32) (M : FF) {B hn n : Nat} {N : Nat → Nat → Nat} (hv : InvN B F hn n N) (hB : B < 2 ^ 30) {h k : Nat} (hh : h < 4) (hk : k < 3) : Ct l K yX5_pairTold wsX5_pairTold rmX5_pairTold [.ref (a 0), .int (nI h), .int (nI k), .int (nI 7)] [modR K a (flat F) g P L M] (some (.int (placeC F (3 * h + k) 7))) [modR K a (flat F) g P L M] := by
  refine CtP_of (cc := cX5_pairTold) (nL := 4) (rt := some .int) (own := RX5) (lv0 := [(0, .ref (a 0)), (1, .int (nI h)), (2, .int (nI k)), (3, .int (nI 7))]) (by decide) rfl (Nat.le_of_ble_eq_true rfl) rfl rfl ?_
  intro G C0 hF _
  refine J_iln C0 3 dX5_pairTold_0 (kk := ?_)
  refine J_tin C0 92 dX5_pairTold_1 (kk := ?_)
  refine J_aln C0 0 dX5_pairTold_92 (kk := ?_)
  refine J_iln C0 1 dX5_pairTold_93 (kk := ?_)
  refine J_iln C0 2 dX5_pairTold_94 (kk := ?_)
  refine J_callVd C0 (mX5_why l K a F g P L M hv hB (h := h) (k := k) (by omega) (by omega)) [] [modR K a (flat F) g P L M] gX5_pairTold_X5_why dX5_pairTold_95 2 0 (kk := ?_)
  show J G _ _ _ _ _ [.int (whyC F (3 * h + k))]
  exact J_iret C0 hF dX5_pairTold_98 ⟨rfl, rfl⟩

set_option maxHeartbeats 4000000 in
set_option maxRecDepth 100000 in
theorem mX5_pairTold_8 (l : Launch) (K : KT) (a : Nat → Nat) (F : FF) (g P L : Nat → Int32) (M : FF) {B hn n : Nat} {N : Nat → Nat → Nat} (hv : InvN B F hn n N) (hB : B < 2 ^ 30) {h k : Nat} (hh : h < 4) (hk : k < 3) : Ct l K yX5_pairTold wsX5_pairTold rmX5_pairTold [.ref (a 0), .int (nI h), .int (nI k), .int (nI 8)] [modR K a (flat F) g P L M] (some (.int (placeC F (3 * h + k) 8))) [modR K a (flat F) g P L M] := by
  refine CtP_of (cc := cX5_pairTold) (nL := 4) (rt := some .int) (own := RX5) (lv0 := [(0, .ref (a 0)), (1, .int (nI h)), (2, .int (nI k)), (3, .int (nI 8))]) (by decide) rfl (Nat.le_of_ble_eq_true rfl) rfl rfl ?_
  intro G C0 hF _
  refine J_iln C0 3 dX5_pairTold_0 (kk := ?_)
  refine J_tin C0 99 dX5_pairTold_1 (kk := ?_)
  refine J_aln C0 0 dX5_pairTold_99 (kk := ?_)
  refine J_iln C0 1 dX5_pairTold_100 (kk := ?_)
  refine J_iln C0 2 dX5_pairTold_101 (kk := ?_)
  refine J_ic C0 0 dX5_pairTold_102 (kk := ?_)
  refine J_callVd C0 (mX5_of l K a F g P L M (h := h) (k := k) (w := 0) (by omega) (by omega) (by omega)) [] [modR K a (flat F) g P L M] gX5_pairTold_X5_of dX5_pairTold_103 3 0 (kk := ?_)
  show J G _ _ _ _ _ [.int (F 7 (3 * h + k))]
  refine J_aln C0 0 dX5_pairTold_106 (kk := ?_)
  refine J_iln C0 1 dX5_pairTold_107 (kk := ?_)
  refine J_iln C0 2 dX5_pairTold_108 (kk := ?_)
  refine J_ic C0 2 dX5_pairTold_109 (kk := ?_)
  refine J_callVd C0 (mX5_of l K a F g P L M (h := h) (k := k) (w := 2) (by omega) (by omega) (by omega)) [] [modR K a (flat F) g P L M] gX5_pairTold_X5_of dX5_pairTold_110 3 0 (kk := ?_)
  show J G _ _ _ _ _ [.int (F 9 (3 * h + k)), .int (F 7 (3 * h + k))]
  refine J_isub C0 dX5_pairTold_113 ?_
  exact J_iret C0 hF dX5_pairTold_114 ⟨rfl, rfl⟩

set_option maxHeartbeats 4000000 in
set_option maxRecDepth 100000 in
theorem mX5_pairTold_9 (l : Launch) (K : KT) (a : Nat → Nat) (F : FF) (g P L : Nat → Int32) (M : FF) {B hn n : Nat} {N : Nat → Nat → Nat} (hv : InvN B F hn n N) (hB : B < 2 ^ 30) {h k : Nat} (hh : h < 4) (hk : k < 3) : Ct l K yX5_pairTold wsX5_pairTold rmX5_pairTold [.ref (a 0), .int (nI h), .int (nI k), .int (nI 9)] [modR K a (flat F) g P L M] (some (.int (placeC F (3 * h + k) 9))) [modR K a (flat F) g P L M] := by
  refine CtP_of (cc := cX5_pairTold) (nL := 4) (rt := some .int) (own := RX5) (lv0 := [(0, .ref (a 0)), (1, .int (nI h)), (2, .int (nI k)), (3, .int (nI 9))]) (by decide) rfl (Nat.le_of_ble_eq_true rfl) rfl rfl ?_
  intro G C0 hF _
  refine J_iln C0 3 dX5_pairTold_0 (kk := ?_)
  refine J_tout C0 115 dX5_pairTold_1 (by decide) (kk := ?_)
  refine J_aln C0 0 dX5_pairTold_115 (kk := ?_)
  refine J_iln C0 1 dX5_pairTold_116 (kk := ?_)
  refine J_iln C0 2 dX5_pairTold_117 (kk := ?_)
  refine J_ic C0 3 dX5_pairTold_118 (kk := ?_)
  refine J_callVd C0 (mX5_of l K a F g P L M (h := h) (k := k) (w := 3) (by omega) (by omega) (by omega)) [] [modR K a (flat F) g P L M] gX5_pairTold_X5_of dX5_pairTold_119 3 0 (kk := ?_)
  show J G _ _ _ _ _ [.int (F 10 (3 * h + k))]
  refine J_aln C0 0 dX5_pairTold_122 (kk := ?_)
  refine J_iln C0 1 dX5_pairTold_123 (kk := ?_)
  refine J_iln C0 2 dX5_pairTold_124 (kk := ?_)
  refine J_ic C0 1 dX5_pairTold_125 (kk := ?_)
  refine J_callVd C0 (mX5_of l K a F g P L M (h := h) (k := k) (w := 1) (by omega) (by omega) (by omega)) [] [modR K a (flat F) g P L M] gX5_pairTold_X5_of dX5_pairTold_126 3 0 (kk := ?_)
  show J G _ _ _ _ _ [.int (F 8 (3 * h + k)), .int (F 10 (3 * h + k))]
  refine J_isub C0 dX5_pairTold_129 ?_
  exact J_iret C0 hF dX5_pairTold_130 ⟨rfl, rfl⟩

theorem mX5_pairTold (l : Launch) (K : KT) (a : Nat → Nat) (F : FF) (g P L : Nat → Int32) (M : FF) {B hn n : Nat} {N : Nat → Nat → Nat} (hv : InvN B F hn n N) (hB : B < 2 ^ 30) {h k : Nat} (hh : h < 4) (hk : k < 3) {w : Nat} (hw : w < 10) : Ct l K yX5_pairTold wsX5_pairTold rmX5_pairTold [.ref (a 0), .int (nI h), .int (nI k), .int (nI w)] [modR K a (flat F) g P L M] (some (.int (placeC F (3 * h + k) w))) [modR K a (flat F) g P L M] := by
  rcases (show w = 0 ∨ w = 1 ∨ w = 2 ∨ w = 3 ∨ w = 4 ∨ w = 5 ∨ w = 6 ∨ w = 7 ∨ w = 8 ∨ w = 9 by omega) with rfl | rfl | rfl | rfl | rfl | rfl | rfl | rfl | rfl | rfl
  · exact mX5_pairTold_0 l K a F g P L M hv hB hh hk
  · exact mX5_pairTold_1 l K a F g P L M hv hB hh hk
  · exact mX5_pairTold_2 l K a F g P L M hv hB hh hk
  · exact mX5_pairTold_3 l K a F g P L M hv hB hh hk
  · exact mX5_pairTold_4 l K a F g P L M hv hB hh hk
  · exact mX5_pairTold_5 l K a F g P L M hv hB hh hk
  · exact mX5_pairTold_6 l K a F g P L M hv hB hh hk
  · exact mX5_pairTold_7 l K a F g P L M hv hB hh hk
  · exact mX5_pairTold_8 l K a F g P L M hv hB hh hk
  · exact mX5_pairTold_9 l K a F g P L M hv hB hh hk
abbrev rmX5_houseOf : Room := { frames := 5, cells := 0, slots := 0, locals := 111 }
set_option maxHeartbeats 4000000 in
set_option maxRecDepth 100000 in
theorem mX5_houseOf (l : Launch) (K : KT) (a : Nat → Nat) (F : FF) (g P L : Nat → Int32) (M : FF) {B hn n : Nat} {N : Nat → Nat → Nat} (hv : InvN B F hn n N) (hB : B < 2 ^ 30) {h k : Nat} (hh : h < 4) (hk : k < 3) (hp : isPr F (nI h) (nI k)) {w : Nat} (hw : w < 10) : Ct l K yX5_houseOf wsX5_houseOf rmX5_houseOf [.ref (a 0), .int (nI h), .int (nI k), .int (nI w)] [modR K a (flat F) g P L M] (some (.int (placeC F (3 * h + k) w))) [modR K a (flat F) g P L (u2 M 0 2 (nI 0))] := by
  refine CtP_of (cc := cX5_houseOf) (nL := 4) (rt := some .int) (own := RX5) (lv0 := [(0, .ref (a 0)), (1, .int (nI h)), (2, .int (nI k)), (3, .int (nI w))]) (by decide) rfl (Nat.le_of_ble_eq_true rfl) rfl rfl ?_
  intro G C0 hF _
  have f28 : Cond.fieldLink RX5 28 "CorkPermitsModel" "thrown" "I" ∈ wsX5_houseOf := by decide +kernel
  have iX5 : ∀ w ∈ u_ws RX5 TX5 13, w ∈ wsX5_houseOf := by decide +kernel
  refine J_aln C0 0 dX5_houseOf_0 (kk := ?_)
  refine J_ic C0 0 dX5_houseOf_1 (kk := ?_)
  refine J_put C0 iX5 tyX5_ok nmX5 0 0 8 [modR K a (flat F) g P L (u2 M 0 2 (nI 0))] f28 dX5_houseOf_2 (hd := rfl) (kk := ?_)
  refine J_aln C0 0 dX5_houseOf_5 (kk := ?_)
  refine J_iln C0 1 dX5_houseOf_6 (kk := ?_)
  refine J_iln C0 2 dX5_houseOf_7 (kk := ?_)
  refine J_callVd C0 (mX5_isPair_y l K a F g P L (u2 M 0 2 (nI 0)) (x := nI h) (y := nI k) hp) [] [modR K a (flat F) g P L (u2 M 0 2 (nI 0))] gX5_houseOf_X5_isPair dX5_houseOf_8 2 0 (kk := ?_)
  show J G _ _ _ _ _ [.int (nI 1)]
  refine J_ifneN C0 20 (by omega) dX5_houseOf_11 (kt := fun c1 => ?_) (kf := fun c1 => ?_)
  · refine J_iln C0 3 dX5_houseOf_20 (kk := ?_)
    refine J_ic C0 0 dX5_houseOf_21 (kk := ?_)
    refine J_bi C0 9 dX5_houseOf_22 (kk := ?_)
    refine J_callSd C0 (mX5_in_y l K (x := nI w) (lo := nI 0) (hi := nI 9) (inN_y (v := w) (lo := 0) (hi := 9) (by omega) (by omega) (by omega)).1 (inN_y (v := w) (lo := 0) (hi := 9) (by omega) (by omega) (by omega)).2) [modR K a (flat F) g P L (u2 M 0 2 (nI 0))] [modR K a (flat F) g P L (u2 M 0 2 (nI 0))] gX5_houseOf_X5_in dX5_houseOf_24 3 (kk := ?_)
    show J G _ _ _ _ _ [.int (nI 1)]
    refine J_ifeqN C0 40 (by omega) dX5_houseOf_27 (kt := fun c2 => ?_) (kf := fun c2 => ?_)
    · exact absurd c2 c1
    · refine J_aln C0 0 dX5_houseOf_30 (kk := ?_)
      refine J_iln C0 1 dX5_houseOf_31 (kk := ?_)
      refine J_iln C0 2 dX5_houseOf_32 (kk := ?_)
      refine J_iln C0 3 dX5_houseOf_33 (kk := ?_)
      refine J_callVd C0 (mX5_pairTold l K a F g P L (u2 M 0 2 (nI 0)) hv hB (h := h) (k := k) (by omega) (by omega) (w := w) (by omega)) [] [modR K a (flat F) g P L (u2 M 0 2 (nI 0))] gX5_houseOf_X5_pairTold dX5_houseOf_34 3 0 (kk := ?_)
      show J G _ _ _ _ _ [.int (placeC F (3 * h + k) w)]
      refine J_goto C0 45 dX5_houseOf_37 (kk := ?_)
      exact J_iret C0 hF dX5_houseOf_45 ⟨rfl, rfl⟩
  · exfalso; omega

set_option maxHeartbeats 4000000 in
set_option maxRecDepth 100000 in
theorem mX5_houseOf_pl (l : Launch) (K : KT) (a : Nat → Nat) (F : FF) (g P L : Nat → Int32) (M : FF) {x y : Int32} (hp : ¬ isPr F x y) (z : Int32) : Ct l K yX5_houseOf wsX5_houseOf rmX5_houseOf [.ref (a 0), .int x, .int y, .int z] [modR K a (flat F) g P L M] (some (.int (nI 0))) [modR K a (flat F) g P L (u2 (u2 M 0 2 (nI 0)) 0 2 (nI 1))] := by
  refine CtP_of (cc := cX5_houseOf) (nL := 4) (rt := some .int) (own := RX5) (lv0 := [(0, .ref (a 0)), (1, .int x), (2, .int y), (3, .int z)]) (by decide) rfl (Nat.le_of_ble_eq_true rfl) rfl rfl ?_
  intro G C0 hF _
  have f28 : Cond.fieldLink RX5 28 "CorkPermitsModel" "thrown" "I" ∈ wsX5_houseOf := by decide +kernel
  have iX5 : ∀ w ∈ u_ws RX5 TX5 13, w ∈ wsX5_houseOf := by decide +kernel
  refine J_aln C0 0 dX5_houseOf_0 (kk := ?_)
  refine J_ic C0 0 dX5_houseOf_1 (kk := ?_)
  refine J_put C0 iX5 tyX5_ok nmX5 0 0 8 [modR K a (flat F) g P L (u2 M 0 2 (nI 0))] f28 dX5_houseOf_2 (hd := rfl) (kk := ?_)
  refine J_aln C0 0 dX5_houseOf_5 (kk := ?_)
  refine J_iln C0 1 dX5_houseOf_6 (kk := ?_)
  refine J_iln C0 2 dX5_houseOf_7 (kk := ?_)
  refine J_callVd C0 (mX5_isPair_n l K a F g P L (u2 M 0 2 (nI 0)) (x := x) (y := y) hp) [] [modR K a (flat F) g P L (u2 M 0 2 (nI 0))] gX5_houseOf_X5_isPair dX5_houseOf_8 2 0 (kk := ?_)
  show J G _ _ _ _ _ [.int (nI 0)]
  refine J_ifneN C0 20 (by omega) dX5_houseOf_11 (kt := fun c1 => ?_) (kf := fun c1 => ?_)
  · exfalso; omega
  · refine J_aln C0 0 dX5_houseOf_14 (kk := ?_)
    refine J_ic C0 1 dX5_houseOf_15 (kk := ?_)
    refine J_callVd C0 (mX5_fails l K a F g P L (u2 M 0 2 (nI 0)) (nI 1)) [] [modR K a (flat F) g P L (u2 (u2 M 0 2 (nI 0)) 0 2 (nI 1))] gX5_houseOf_X5_fails dX5_houseOf_16 1 0 (kk := ?_)
    show J G _ _ _ _ _ [.int (nI 0)]
    exact J_iret C0 hF dX5_houseOf_19 ⟨rfl, rfl⟩

set_option maxHeartbeats 4000000 in
set_option maxRecDepth 100000 in
theorem mX5_houseOf_what (l : Launch) (K : KT) (a : Nat → Nat) (F : FF) (g P L : Nat → Int32) (M : FF) {h k : Nat} (hh : h < 4) (hk : k < 3) (hp : isPr F (nI h) (nI k)) {z : Int32} (hz : ¬ (¬ z < nI 0 ∧ ¬ nI 9 < z)) : Ct l K yX5_houseOf wsX5_houseOf rmX5_houseOf [.ref (a 0), .int (nI h), .int (nI k), .int z] [modR K a (flat F) g P L M] (some (.int (nI 0))) [modR K a (flat F) g P L (u2 (u2 M 0 2 (nI 0)) 0 2 (nI 2))] := by
  refine CtP_of (cc := cX5_houseOf) (nL := 4) (rt := some .int) (own := RX5) (lv0 := [(0, .ref (a 0)), (1, .int (nI h)), (2, .int (nI k)), (3, .int z)]) (by decide) rfl (Nat.le_of_ble_eq_true rfl) rfl rfl ?_
  intro G C0 hF _
  have f28 : Cond.fieldLink RX5 28 "CorkPermitsModel" "thrown" "I" ∈ wsX5_houseOf := by decide +kernel
  have iX5 : ∀ w ∈ u_ws RX5 TX5 13, w ∈ wsX5_houseOf := by decide +kernel
  refine J_aln C0 0 dX5_houseOf_0 (kk := ?_)
  refine J_ic C0 0 dX5_houseOf_1 (kk := ?_)
  refine J_put C0 iX5 tyX5_ok nmX5 0 0 8 [modR K a (flat F) g P L (u2 M 0 2 (nI 0))] f28 dX5_houseOf_2 (hd := rfl) (kk := ?_)
  refine J_aln C0 0 dX5_houseOf_5 (kk := ?_)
  refine J_iln C0 1 dX5_houseOf_6 (kk := ?_)
  refine J_iln C0 2 dX5_houseOf_7 (kk := ?_)
  refine J_callVd C0 (mX5_isPair_y l K a F g P L (u2 M 0 2 (nI 0)) (x := nI h) (y := nI k) hp) [] [modR K a (flat F) g P L (u2 M 0 2 (nI 0))] gX5_houseOf_X5_isPair dX5_houseOf_8 2 0 (kk := ?_)
  show J G _ _ _ _ _ [.int (nI 1)]
  refine J_ifneN C0 20 (by omega) dX5_houseOf_11 (kt := fun c1 => ?_) (kf := fun c1 => ?_)
  · refine J_iln C0 3 dX5_houseOf_20 (kk := ?_)
    refine J_ic C0 0 dX5_houseOf_21 (kk := ?_)
    refine J_bi C0 9 dX5_houseOf_22 (kk := ?_)
    refine J_callSd C0 (mX5_in_n l K (x := z) (lo := nI 0) (hi := nI 9) hz) [modR K a (flat F) g P L (u2 M 0 2 (nI 0))] [modR K a (flat F) g P L (u2 M 0 2 (nI 0))] gX5_houseOf_X5_in dX5_houseOf_24 3 (kk := ?_)
    show J G _ _ _ _ _ [.int (nI 0)]
    refine J_ifeqN C0 40 (by omega) dX5_houseOf_27 (kt := fun c2 => ?_) (kf := fun c2 => ?_)
    · refine J_aln C0 0 dX5_houseOf_40 (kk := ?_)
      refine J_ic C0 2 dX5_houseOf_41 (kk := ?_)
      refine J_callVd C0 (mX5_fails l K a F g P L (u2 M 0 2 (nI 0)) (nI 2)) [] [modR K a (flat F) g P L (u2 (u2 M 0 2 (nI 0)) 0 2 (nI 2))] gX5_houseOf_X5_fails dX5_houseOf_42 1 0 (kk := ?_)
      show J G _ _ _ _ _ [.int (nI 0)]
      exact J_iret C0 hF dX5_houseOf_45 ⟨rfl, rfl⟩
    · exfalso; omega
  · exfalso; omega

abbrev rmX5_letterTold : Room := { frames := 0, cells := 0, slots := 0, locals := 0 }
set_option maxHeartbeats 4000000 in
set_option maxRecDepth 100000 in
theorem mX5_letterTold_0 (l : Launch) (K : KT) (a : Nat → Nat) (F : FF) (g P L : Nat → Int32) (M : FF) {n r : Nat} (en : F 0 4 = nI n) (h40 : n ≤ 40) (hr : r < 2 ^ 31) : Ct l K yX5_letterTold wsX5_letterTold rmX5_letterTold [.ref (a 0), .int (nI r), .int (nI 0)] [modR K a (flat F) g P L M] (some (.int (letC F n r 0))) [modR K a (flat F) g P L M] := by
  refine CtP_of (cc := cX5_letterTold) (nL := 3) (rt := some .int) (own := RX5) (lv0 := [(0, .ref (a 0)), (1, .int (nI r)), (2, .int (nI 0))]) (by decide) rfl (Nat.le_of_ble_eq_true rfl) rfl rfl ?_
  intro G C0 hF _
  have f7 : Cond.fieldLink RX5 7 "CorkPermitsModel" "s" "[I" ∈ wsX5_letterTold := by decide +kernel
  have iX5 : ∀ w ∈ u_ws RX5 TX5 13, w ∈ wsX5_letterTold := by decide +kernel
  refine J_iln C0 1 dX5_letterTold_0 (kk := ?_)
  refine J_aln C0 0 dX5_letterTold_1 (kk := ?_)
  refine J_get C0 iX5 0 0 0 f7 dX5_letterTold_2 (kk := ?_)
  refine J_ic C0 4 dX5_letterTold_5 (kk := ?_)
  refine J_iald C0 0 1 283 dX5_letterTold_6 (by omega) (v := (nI n)) (hv := (flat_0 F (j := 4) (by decide)).trans en) (kk := ?_)
  refine J_icmpgeN C0 26 (by omega) (by omega) dX5_letterTold_7 (kt := fun c1 => ?_) (kf := fun c1 => ?_)
  · refine J_icm1 C0 dX5_letterTold_26 ?_
    exact J_iret C0 hF dX5_letterTold_27 ⟨by unfold letC; rw [if_neg (by omega)]; try rfl, rfl⟩
  · refine J_aln C0 0 dX5_letterTold_10 (kk := ?_)
    refine J_get C0 iX5 0 0 0 f7 dX5_letterTold_11 (kk := ?_)
    refine J_bi C0 83 dX5_letterTold_14 (kk := ?_)
    refine J_ic C0 5 dX5_letterTold_16 (kk := ?_)
    refine J_iln C0 1 dX5_letterTold_17 (kk := ?_)
    refine J_imulN C0 dX5_letterTold_18 ?_
    refine J_iaddN C0 dX5_letterTold_19 ?_
    refine J_iln C0 2 dX5_letterTold_20 (kk := ?_)
    refine J_iaddN C0 dX5_letterTold_21 ?_
    refine J_iald C0 0 1 283 dX5_letterTold_22 (by omega) (v := (F 12 r)) (hv := (flat_l F (j := 83 + (5 * r) + 0) (r := r) (c := 0) (by omega) (by omega) (by omega)).trans rfl) (kk := ?_)
    refine J_goto C0 27 dX5_letterTold_23 (kk := ?_)
    exact J_iret C0 hF dX5_letterTold_27 ⟨by unfold letC; rw [if_pos c1]; try rfl, rfl⟩

set_option maxHeartbeats 4000000 in
set_option maxRecDepth 100000 in
theorem mX5_letterTold_1 (l : Launch) (K : KT) (a : Nat → Nat) (F : FF) (g P L : Nat → Int32) (M : FF) {n r : Nat} (en : F 0 4 = nI n) (h40 : n ≤ 40) (hr : r < 2 ^ 31) : Ct l K yX5_letterTold wsX5_letterTold rmX5_letterTold [.ref (a 0), .int (nI r), .int (nI 1)] [modR K a (flat F) g P L M] (some (.int (letC F n r 1))) [modR K a (flat F) g P L M] := by
  refine CtP_of (cc := cX5_letterTold) (nL := 3) (rt := some .int) (own := RX5) (lv0 := [(0, .ref (a 0)), (1, .int (nI r)), (2, .int (nI 1))]) (by decide) rfl (Nat.le_of_ble_eq_true rfl) rfl rfl ?_
  intro G C0 hF _
  have f7 : Cond.fieldLink RX5 7 "CorkPermitsModel" "s" "[I" ∈ wsX5_letterTold := by decide +kernel
  have iX5 : ∀ w ∈ u_ws RX5 TX5 13, w ∈ wsX5_letterTold := by decide +kernel
  refine J_iln C0 1 dX5_letterTold_0 (kk := ?_)
  refine J_aln C0 0 dX5_letterTold_1 (kk := ?_)
  refine J_get C0 iX5 0 0 0 f7 dX5_letterTold_2 (kk := ?_)
  refine J_ic C0 4 dX5_letterTold_5 (kk := ?_)
  refine J_iald C0 0 1 283 dX5_letterTold_6 (by omega) (v := (nI n)) (hv := (flat_0 F (j := 4) (by decide)).trans en) (kk := ?_)
  refine J_icmpgeN C0 26 (by omega) (by omega) dX5_letterTold_7 (kt := fun c1 => ?_) (kf := fun c1 => ?_)
  · refine J_icm1 C0 dX5_letterTold_26 ?_
    exact J_iret C0 hF dX5_letterTold_27 ⟨by unfold letC; rw [if_neg (by omega)]; try rfl, rfl⟩
  · refine J_aln C0 0 dX5_letterTold_10 (kk := ?_)
    refine J_get C0 iX5 0 0 0 f7 dX5_letterTold_11 (kk := ?_)
    refine J_bi C0 83 dX5_letterTold_14 (kk := ?_)
    refine J_ic C0 5 dX5_letterTold_16 (kk := ?_)
    refine J_iln C0 1 dX5_letterTold_17 (kk := ?_)
    refine J_imulN C0 dX5_letterTold_18 ?_
    refine J_iaddN C0 dX5_letterTold_19 ?_
    refine J_iln C0 2 dX5_letterTold_20 (kk := ?_)
    refine J_iaddN C0 dX5_letterTold_21 ?_
    refine J_iald C0 0 1 283 dX5_letterTold_22 (by omega) (v := (letF F 1 r)) (hv := (flat_l F (j := 83 + (5 * r) + 1) (r := r) (c := 1) (by omega) (by omega) (by omega)).trans rfl) (kk := ?_)
    refine J_goto C0 27 dX5_letterTold_23 (kk := ?_)
    exact J_iret C0 hF dX5_letterTold_27 ⟨by unfold letC; rw [if_pos c1]; try rfl, rfl⟩

set_option maxHeartbeats 4000000 in
set_option maxRecDepth 100000 in
theorem mX5_letterTold_2 (l : Launch) (K : KT) (a : Nat → Nat) (F : FF) (g P L : Nat → Int32) (M : FF) {n r : Nat} (en : F 0 4 = nI n) (h40 : n ≤ 40) (hr : r < 2 ^ 31) : Ct l K yX5_letterTold wsX5_letterTold rmX5_letterTold [.ref (a 0), .int (nI r), .int (nI 2)] [modR K a (flat F) g P L M] (some (.int (letC F n r 2))) [modR K a (flat F) g P L M] := by
  refine CtP_of (cc := cX5_letterTold) (nL := 3) (rt := some .int) (own := RX5) (lv0 := [(0, .ref (a 0)), (1, .int (nI r)), (2, .int (nI 2))]) (by decide) rfl (Nat.le_of_ble_eq_true rfl) rfl rfl ?_
  intro G C0 hF _
  have f7 : Cond.fieldLink RX5 7 "CorkPermitsModel" "s" "[I" ∈ wsX5_letterTold := by decide +kernel
  have iX5 : ∀ w ∈ u_ws RX5 TX5 13, w ∈ wsX5_letterTold := by decide +kernel
  refine J_iln C0 1 dX5_letterTold_0 (kk := ?_)
  refine J_aln C0 0 dX5_letterTold_1 (kk := ?_)
  refine J_get C0 iX5 0 0 0 f7 dX5_letterTold_2 (kk := ?_)
  refine J_ic C0 4 dX5_letterTold_5 (kk := ?_)
  refine J_iald C0 0 1 283 dX5_letterTold_6 (by omega) (v := (nI n)) (hv := (flat_0 F (j := 4) (by decide)).trans en) (kk := ?_)
  refine J_icmpgeN C0 26 (by omega) (by omega) dX5_letterTold_7 (kt := fun c1 => ?_) (kf := fun c1 => ?_)
  · refine J_icm1 C0 dX5_letterTold_26 ?_
    exact J_iret C0 hF dX5_letterTold_27 ⟨by unfold letC; rw [if_neg (by omega)]; try rfl, rfl⟩
  · refine J_aln C0 0 dX5_letterTold_10 (kk := ?_)
    refine J_get C0 iX5 0 0 0 f7 dX5_letterTold_11 (kk := ?_)
    refine J_bi C0 83 dX5_letterTold_14 (kk := ?_)
    refine J_ic C0 5 dX5_letterTold_16 (kk := ?_)
    refine J_iln C0 1 dX5_letterTold_17 (kk := ?_)
    refine J_imulN C0 dX5_letterTold_18 ?_
    refine J_iaddN C0 dX5_letterTold_19 ?_
    refine J_iln C0 2 dX5_letterTold_20 (kk := ?_)
    refine J_iaddN C0 dX5_letterTold_21 ?_
    refine J_iald C0 0 1 283 dX5_letterTold_22 (by omega) (v := (letF F 2 r)) (hv := (flat_l F (j := 83 + (5 * r) + 2) (r := r) (c := 2) (by omega) (by omega) (by omega)).trans rfl) (kk := ?_)
    refine J_goto C0 27 dX5_letterTold_23 (kk := ?_)
    exact J_iret C0 hF dX5_letterTold_27 ⟨by unfold letC; rw [if_pos c1]; try rfl, rfl⟩

set_option maxHeartbeats 4000000 in
set_option maxRecDepth 100000 in
theorem mX5_letterTold_3 (l : Launch) (K : KT) (a : Nat → Nat) (F : FF) (g P L : Nat → Int32) (M : FF) {n r : Nat} (en : F 0 4 = nI n) (h40 : n ≤ 40) (hr : r < 2 ^ 31) : Ct l K yX5_letterTold wsX5_letterTold rmX5_letterTold [.ref (a 0), .int (nI r), .int (nI 3)] [modR K a (flat F) g P L M] (some (.int (letC F n r 3))) [modR K a (flat F) g P L M] := by
  refine CtP_of (cc := cX5_letterTold) (nL := 3) (rt := some .int) (own := RX5) (lv0 := [(0, .ref (a 0)), (1, .int (nI r)), (2, .int (nI 3))]) (by decide) rfl (Nat.le_of_ble_eq_true rfl) rfl rfl ?_
  intro G C0 hF _
  have f7 : Cond.fieldLink RX5 7 "CorkPermitsModel" "s" "[I" ∈ wsX5_letterTold := by decide +kernel
  have iX5 : ∀ w ∈ u_ws RX5 TX5 13, w ∈ wsX5_letterTold := by decide +kernel
  refine J_iln C0 1 dX5_letterTold_0 (kk := ?_)
  refine J_aln C0 0 dX5_letterTold_1 (kk := ?_)
  refine J_get C0 iX5 0 0 0 f7 dX5_letterTold_2 (kk := ?_)
  refine J_ic C0 4 dX5_letterTold_5 (kk := ?_)
  refine J_iald C0 0 1 283 dX5_letterTold_6 (by omega) (v := (nI n)) (hv := (flat_0 F (j := 4) (by decide)).trans en) (kk := ?_)
  refine J_icmpgeN C0 26 (by omega) (by omega) dX5_letterTold_7 (kt := fun c1 => ?_) (kf := fun c1 => ?_)
  · refine J_icm1 C0 dX5_letterTold_26 ?_
    exact J_iret C0 hF dX5_letterTold_27 ⟨by unfold letC; rw [if_neg (by omega)]; try rfl, rfl⟩
  · refine J_aln C0 0 dX5_letterTold_10 (kk := ?_)
    refine J_get C0 iX5 0 0 0 f7 dX5_letterTold_11 (kk := ?_)
    refine J_bi C0 83 dX5_letterTold_14 (kk := ?_)
    refine J_ic C0 5 dX5_letterTold_16 (kk := ?_)
    refine J_iln C0 1 dX5_letterTold_17 (kk := ?_)
    refine J_imulN C0 dX5_letterTold_18 ?_
    refine J_iaddN C0 dX5_letterTold_19 ?_
    refine J_iln C0 2 dX5_letterTold_20 (kk := ?_)
    refine J_iaddN C0 dX5_letterTold_21 ?_
    refine J_iald C0 0 1 283 dX5_letterTold_22 (by omega) (v := (F 14 r)) (hv := (flat_l F (j := 83 + (5 * r) + 3) (r := r) (c := 3) (by omega) (by omega) (by omega)).trans rfl) (kk := ?_)
    refine J_goto C0 27 dX5_letterTold_23 (kk := ?_)
    exact J_iret C0 hF dX5_letterTold_27 ⟨by unfold letC; rw [if_pos c1]; try rfl, rfl⟩

set_option maxHeartbeats 4000000 in
set_option maxRecDepth 100000 in
theorem mX5_letterTold_4 (l : Launch) (K : KT) (a : Nat → Nat) (F : FF) (g P L : Nat → Int32) (M : FF) {n r : Nat} (en : F 0 4 = nI n) (h40 : n ≤ 40) (hr : r < 2 ^ 31) : Ct l K yX5_letterTold wsX5_letterTold rmX5_letterTold [.ref (a 0), .int (nI r), .int (nI 4)] [modR K a (flat F) g P L M] (some (.int (letC F n r 4))) [modR K a (flat F) g P L M] := by
  refine CtP_of (cc := cX5_letterTold) (nL := 3) (rt := some .int) (own := RX5) (lv0 := [(0, .ref (a 0)), (1, .int (nI r)), (2, .int (nI 4))]) (by decide) rfl (Nat.le_of_ble_eq_true rfl) rfl rfl ?_
  intro G C0 hF _
  have f7 : Cond.fieldLink RX5 7 "CorkPermitsModel" "s" "[I" ∈ wsX5_letterTold := by decide +kernel
  have iX5 : ∀ w ∈ u_ws RX5 TX5 13, w ∈ wsX5_letterTold := by decide +kernel
  refine J_iln C0 1 dX5_letterTold_0 (kk := ?_)
  refine J_aln C0 0 dX5_letterTold_1 (kk := ?_)
  refine J_get C0 iX5 0 0 0 f7 dX5_letterTold_2 (kk := ?_)
  refine J_ic C0 4 dX5_letterTold_5 (kk := ?_)
  refine J_iald C0 0 1 283 dX5_letterTold_6 (by omega) (v := (nI n)) (hv := (flat_0 F (j := 4) (by decide)).trans en) (kk := ?_)
  refine J_icmpgeN C0 26 (by omega) (by omega) dX5_letterTold_7 (kt := fun c1 => ?_) (kf := fun c1 => ?_)
  · refine J_icm1 C0 dX5_letterTold_26 ?_
    exact J_iret C0 hF dX5_letterTold_27 ⟨by unfold letC; rw [if_neg (by omega)]; try rfl, rfl⟩
  · refine J_aln C0 0 dX5_letterTold_10 (kk := ?_)
    refine J_get C0 iX5 0 0 0 f7 dX5_letterTold_11 (kk := ?_)
    refine J_bi C0 83 dX5_letterTold_14 (kk := ?_)
    refine J_ic C0 5 dX5_letterTold_16 (kk := ?_)
    refine J_iln C0 1 dX5_letterTold_17 (kk := ?_)
    refine J_imulN C0 dX5_letterTold_18 ?_
    refine J_iaddN C0 dX5_letterTold_19 ?_
    refine J_iln C0 2 dX5_letterTold_20 (kk := ?_)
    refine J_iaddN C0 dX5_letterTold_21 ?_
    refine J_iald C0 0 1 283 dX5_letterTold_22 (by omega) (v := (F 15 r)) (hv := (flat_l F (j := 83 + (5 * r) + 4) (r := r) (c := 4) (by omega) (by omega) (by omega)).trans rfl) (kk := ?_)
    refine J_goto C0 27 dX5_letterTold_23 (kk := ?_)
    exact J_iret C0 hF dX5_letterTold_27 ⟨by unfold letC; rw [if_pos c1]; try rfl, rfl⟩

theorem mX5_letterTold (l : Launch) (K : KT) (a : Nat → Nat) (F : FF) (g P L : Nat → Int32) (M : FF) {n r : Nat} (en : F 0 4 = nI n) (h40 : n ≤ 40) (hr : r < 2 ^ 31) {w : Nat} (hw : w < 5) : Ct l K yX5_letterTold wsX5_letterTold rmX5_letterTold [.ref (a 0), .int (nI r), .int (nI w)] [modR K a (flat F) g P L M] (some (.int (letC F n r w))) [modR K a (flat F) g P L M] := by
  rcases (show w = 0 ∨ w = 1 ∨ w = 2 ∨ w = 3 ∨ w = 4 by omega) with rfl | rfl | rfl | rfl | rfl
  · exact mX5_letterTold_0 l K a F g P L M en h40 hr
  · exact mX5_letterTold_1 l K a F g P L M en h40 hr
  · exact mX5_letterTold_2 l K a F g P L M en h40 hr
  · exact mX5_letterTold_3 l K a F g P L M en h40 hr
  · exact mX5_letterTold_4 l K a F g P L M en h40 hr
abbrev rmX5_letter : Room := { frames := 1, cells := 0, slots := 0, locals := 22 }
set_option maxHeartbeats 4000000 in
set_option maxRecDepth 100000 in
theorem mX5_letter (l : Launch) (K : KT) (a : Nat → Nat) (F : FF) (g P L : Nat → Int32) (M : FF) {B hn n : Nat} {N : Nat → Nat → Nat} (hv : InvN B F hn n N) {r w : Nat} (hr : r < 2 ^ 31) (hw : w < 5) : Ct l K yX5_letter wsX5_letter rmX5_letter [.ref (a 0), .int (nI r), .int (nI w)] [modR K a (flat F) g P L M] (some (.int (letC F n r w))) [modR K a (flat F) g P L (u2 M 0 2 (nI 0))] := by
  refine CtP_of (cc := cX5_letter) (nL := 3) (rt := some .int) (own := RX5) (lv0 := [(0, .ref (a 0)), (1, .int (nI r)), (2, .int (nI w))]) (by decide) rfl (Nat.le_of_ble_eq_true rfl) rfl rfl ?_
  intro G C0 hF _
  have f28 : Cond.fieldLink RX5 28 "CorkPermitsModel" "thrown" "I" ∈ wsX5_letter := by decide +kernel
  have iX5 : ∀ w ∈ u_ws RX5 TX5 13, w ∈ wsX5_letter := by decide +kernel
  refine J_aln C0 0 dX5_letter_0 (kk := ?_)
  refine J_ic C0 0 dX5_letter_1 (kk := ?_)
  refine J_put C0 iX5 tyX5_ok nmX5 0 0 8 [modR K a (flat F) g P L (u2 M 0 2 (nI 0))] f28 dX5_letter_2 (hd := rfl) (kk := ?_)
  refine J_iln C0 1 dX5_letter_5 (kk := ?_)
  refine J_ifltN C0 (by omega) dX5_letter_6 27 (kk := ?_)
  refine J_iln C0 2 dX5_letter_9 (kk := ?_)
  refine J_ic C0 0 dX5_letter_10 (kk := ?_)
  refine J_ic C0 4 dX5_letter_11 (kk := ?_)
  refine J_callSd C0 (mX5_in_y l K (x := nI w) (lo := nI 0) (hi := nI 4) (inN_y (v := w) (lo := 0) (hi := 4) (by omega) (by omega) (by omega)).1 (inN_y (v := w) (lo := 0) (hi := 4) (by omega) (by omega) (by omega)).2) [modR K a (flat F) g P L (u2 M 0 2 (nI 0))] [modR K a (flat F) g P L (u2 M 0 2 (nI 0))] gX5_letter_X5_in dX5_letter_12 3 (kk := ?_)
  show J G _ _ _ _ _ [.int (nI 1)]
  refine J_ifeqN C0 27 (by omega) dX5_letter_15 (kt := fun c2 => ?_) (kf := fun c2 => ?_)
  · exfalso; omega
  · refine J_aln C0 0 dX5_letter_18 (kk := ?_)
    refine J_iln C0 1 dX5_letter_19 (kk := ?_)
    refine J_iln C0 2 dX5_letter_20 (kk := ?_)
    refine J_callVd C0 (mX5_letterTold l K a F g P L (u2 M 0 2 (nI 0)) (n := n) (r := r) hv.2.1.1 hv.2.1.2 (by omega) (w := w) (by omega)) [] [modR K a (flat F) g P L (u2 M 0 2 (nI 0))] gX5_letter_X5_letterTold dX5_letter_21 2 0 (kk := ?_)
    show J G _ _ _ _ _ [.int (letC F n r w)]
    refine J_goto C0 32 dX5_letter_24 (kk := ?_)
    exact J_iret C0 hF dX5_letter_32 ⟨rfl, rfl⟩

set_option maxHeartbeats 4000000 in
set_option maxRecDepth 100000 in
theorem mX5_letter_rank (l : Launch) (K : KT) (a : Nat → Nat) (F : FF) (g P L : Nat → Int32) (M : FF) {x : Int32} (hx : x < 0) (y : Int32) : Ct l K yX5_letter wsX5_letter rmX5_letter [.ref (a 0), .int x, .int y] [modR K a (flat F) g P L M] (some (.int (nI 0))) [modR K a (flat F) g P L (u2 (u2 M 0 2 (nI 0)) 0 2 (nI 1))] := by
  refine CtP_of (cc := cX5_letter) (nL := 3) (rt := some .int) (own := RX5) (lv0 := [(0, .ref (a 0)), (1, .int x), (2, .int y)]) (by decide) rfl (Nat.le_of_ble_eq_true rfl) rfl rfl ?_
  intro G C0 hF _
  have f28 : Cond.fieldLink RX5 28 "CorkPermitsModel" "thrown" "I" ∈ wsX5_letter := by decide +kernel
  have iX5 : ∀ w ∈ u_ws RX5 TX5 13, w ∈ wsX5_letter := by decide +kernel
  refine J_aln C0 0 dX5_letter_0 (kk := ?_)
  refine J_ic C0 0 dX5_letter_1 (kk := ?_)
  refine J_put C0 iX5 tyX5_ok nmX5 0 0 8 [modR K a (flat F) g P L (u2 M 0 2 (nI 0))] f28 dX5_letter_2 (hd := rfl) (kk := ?_)
  refine J_iln C0 1 dX5_letter_5 (kk := ?_)
  refine J_iflt C0 27 dX5_letter_6 (kt := fun c1 => ?_) (kf := fun c1 => ?_)
  · refine J_aln C0 0 dX5_letter_27 (kk := ?_)
    refine J_ic C0 1 dX5_letter_28 (kk := ?_)
    refine J_callVd C0 (mX5_fails l K a F g P L (u2 M 0 2 (nI 0)) (nI 1)) [] [modR K a (flat F) g P L (u2 (u2 M 0 2 (nI 0)) 0 2 (nI 1))] gX5_letter_X5_fails dX5_letter_29 1 0 (kk := ?_)
    show J G _ _ _ _ _ [.int (nI 0)]
    exact J_iret C0 hF dX5_letter_32 ⟨rfl, rfl⟩
  · exact absurd hx c1

set_option maxHeartbeats 4000000 in
set_option maxRecDepth 100000 in
theorem mX5_letter_what (l : Launch) (K : KT) (a : Nat → Nat) (F : FF) (g P L : Nat → Int32) (M : FF) {x : Int32} (hx : ¬ x < 0) {y : Int32} (hy : ¬ (¬ y < nI 0 ∧ ¬ nI 4 < y)) : Ct l K yX5_letter wsX5_letter rmX5_letter [.ref (a 0), .int x, .int y] [modR K a (flat F) g P L M] (some (.int (nI 0))) [modR K a (flat F) g P L (u2 (u2 M 0 2 (nI 0)) 0 2 (nI 1))] := by
  refine CtP_of (cc := cX5_letter) (nL := 3) (rt := some .int) (own := RX5) (lv0 := [(0, .ref (a 0)), (1, .int x), (2, .int y)]) (by decide) rfl (Nat.le_of_ble_eq_true rfl) rfl rfl ?_
  intro G C0 hF _
  have f28 : Cond.fieldLink RX5 28 "CorkPermitsModel" "thrown" "I" ∈ wsX5_letter := by decide +kernel
  have iX5 : ∀ w ∈ u_ws RX5 TX5 13, w ∈ wsX5_letter := by decide +kernel
  refine J_aln C0 0 dX5_letter_0 (kk := ?_)
  refine J_ic C0 0 dX5_letter_1 (kk := ?_)
  refine J_put C0 iX5 tyX5_ok nmX5 0 0 8 [modR K a (flat F) g P L (u2 M 0 2 (nI 0))] f28 dX5_letter_2 (hd := rfl) (kk := ?_)
  refine J_iln C0 1 dX5_letter_5 (kk := ?_)
  refine J_iflt C0 27 dX5_letter_6 (kt := fun c1 => ?_) (kf := fun c1 => ?_)
  · exact absurd c1 hx
  · refine J_iln C0 2 dX5_letter_9 (kk := ?_)
    refine J_ic C0 0 dX5_letter_10 (kk := ?_)
    refine J_ic C0 4 dX5_letter_11 (kk := ?_)
    refine J_callSd C0 (mX5_in_n l K (x := y) (lo := nI 0) (hi := nI 4) hy) [modR K a (flat F) g P L (u2 M 0 2 (nI 0))] [modR K a (flat F) g P L (u2 M 0 2 (nI 0))] gX5_letter_X5_in dX5_letter_12 3 (kk := ?_)
    show J G _ _ _ _ _ [.int (nI 0)]
    refine J_ifeqN C0 27 (by omega) dX5_letter_15 (kt := fun c2 => ?_) (kf := fun c2 => ?_)
    · refine J_aln C0 0 dX5_letter_27 (kk := ?_)
      refine J_ic C0 1 dX5_letter_28 (kk := ?_)
      refine J_callVd C0 (mX5_fails l K a F g P L (u2 M 0 2 (nI 0)) (nI 1)) [] [modR K a (flat F) g P L (u2 (u2 M 0 2 (nI 0)) 0 2 (nI 1))] gX5_letter_X5_fails dX5_letter_29 1 0 (kk := ?_)
      show J G _ _ _ _ _ [.int (nI 0)]
      exact J_iret C0 hF dX5_letter_32 ⟨rfl, rfl⟩
    · exfalso; omega

abbrev rmX5_ofKinds : Room := { frames := 1, cells := 0, slots := 0, locals := 22 }
set_option maxHeartbeats 4000000 in
set_option maxRecDepth 100000 in
theorem mX5_ofKinds_1 (l : Launch) (K : KT) (a : Nat → Nat) (F : FF) (g P L : Nat → Int32) (M : FF) : Ct l K yX5_ofKinds wsX5_ofKinds rmX5_ofKinds [.ref (a 0), .int (nI 1)] [modR K a (flat F) g P L M] (some (.int (sumS (F 3) 3))) [modR K a (flat F) g P L M] := by
  refine CtP_of (cc := cX5_ofKinds) (nL := 4) (rt := some .int) (own := RX5) (lv0 := [(0, .ref (a 0)), (1, .int (nI 1))]) (by decide) rfl (Nat.le_of_ble_eq_true rfl) rfl rfl ?_
  intro G C0 hF _
  refine J_ic C0 0 dX5_ofKinds_0 (kk := ?_)
  refine J_isn C0 [(2, .int (nI 0)), (0, .ref (a 0)), (1, .int (nI 1))] dX5_ofKinds_1 (kk := ?_)
  refine J_ic C0 0 dX5_ofKinds_2 (kk := ?_)
  refine J_isn C0 [(3, .int (nI 0)), (2, .int (nI 0)), (0, .ref (a 0)), (1, .int (nI 1))] dX5_ofKinds_3 (kk := ?_)
  refine J_iln C0 0 dX5_ofKinds_4 (kk := ?_)
  refine J_ic C0 3 dX5_ofKinds_5 (kk := ?_)
  refine J_icmpgeN C0 24 (by omega) (by omega) dX5_ofKinds_6 (kt := fun c1 => ?_) (kf := fun c1 => ?_)
  · exfalso; omega
  · refine J_iln C0 1 dX5_ofKinds_9 (kk := ?_)
    refine J_aln C0 2 dX5_ofKinds_10 (kk := ?_)
    refine J_iln C0 0 dX5_ofKinds_11 (kk := ?_)
    refine J_iln C0 3 dX5_ofKinds_12 (kk := ?_)
    refine J_callVd C0 (mX5_ofKind l K a F g P L M (k := 0) (w := 1) (by omega) (by omega)) [] [modR K a (flat F) g P L M] gX5_ofKinds_X5_ofKind dX5_ofKinds_13 2 0 (kk := ?_)
    show J G _ _ _ _ _ [.int (F 3 0), .int (nI 0)]
    refine J_iadd C0 dX5_ofKinds_16 ?_
    refine J_isn C0 [(2, .int ((nI 0) + (F 3 0))), (3, .int (nI 0)), (0, .ref (a 0)), (1, .int (nI 1))] dX5_ofKinds_17 (kk := ?_)
    refine J_iincN C0 1 [(3, .int (nI 1)), (2, .int ((nI 0) + (F 3 0))), (0, .ref (a 0)), (1, .int (nI 1))] dX5_ofKinds_18 (kk := ?_)
    refine J_goto C0 4 dX5_ofKinds_21 (kk := ?_)
    refine J_iln C0 0 dX5_ofKinds_4 (kk := ?_)
    refine J_ic C0 3 dX5_ofKinds_5 (kk := ?_)
    refine J_icmpgeN C0 24 (by omega) (by omega) dX5_ofKinds_6 (kt := fun c2 => ?_) (kf := fun c2 => ?_)
    · exfalso; omega
    · refine J_iln C0 1 dX5_ofKinds_9 (kk := ?_)
      refine J_aln C0 2 dX5_ofKinds_10 (kk := ?_)
      refine J_iln C0 0 dX5_ofKinds_11 (kk := ?_)
      refine J_iln C0 3 dX5_ofKinds_12 (kk := ?_)
      refine J_callVd C0 (mX5_ofKind l K a F g P L M (k := 1) (w := 1) (by omega) (by omega)) [] [modR K a (flat F) g P L M] gX5_ofKinds_X5_ofKind dX5_ofKinds_13 2 0 (kk := ?_)
      show J G _ _ _ _ _ [.int (F 3 1), .int ((nI 0) + (F 3 0))]
      refine J_iadd C0 dX5_ofKinds_16 ?_
      refine J_isn C0 [(2, .int (((nI 0) + (F 3 0)) + (F 3 1))), (3, .int (nI 1)), (0, .ref (a 0)), (1, .int (nI 1))] dX5_ofKinds_17 (kk := ?_)
      refine J_iincN C0 1 [(3, .int (nI 2)), (2, .int (((nI 0) + (F 3 0)) + (F 3 1))), (0, .ref (a 0)), (1, .int (nI 1))] dX5_ofKinds_18 (kk := ?_)
      refine J_goto C0 4 dX5_ofKinds_21 (kk := ?_)
      refine J_iln C0 0 dX5_ofKinds_4 (kk := ?_)
      refine J_ic C0 3 dX5_ofKinds_5 (kk := ?_)
      refine J_icmpgeN C0 24 (by omega) (by omega) dX5_ofKinds_6 (kt := fun c3 => ?_) (kf := fun c3 => ?_)
      · exfalso; omega
      · refine J_iln C0 1 dX5_ofKinds_9 (kk := ?_)
        refine J_aln C0 2 dX5_ofKinds_10 (kk := ?_)
        refine J_iln C0 0 dX5_ofKinds_11 (kk := ?_)
        refine J_iln C0 3 dX5_ofKinds_12 (kk := ?_)
        refine J_callVd C0 (mX5_ofKind l K a F g P L M (k := 2) (w := 1) (by omega) (by omega)) [] [modR K a (flat F) g P L M] gX5_ofKinds_X5_ofKind dX5_ofKinds_13 2 0 (kk := ?_)
        show J G _ _ _ _ _ [.int (F 3 2), .int (((nI 0) + (F 3 0)) + (F 3 1))]
        refine J_iadd C0 dX5_ofKinds_16 ?_
        refine J_isn C0 [(2, .int ((((nI 0) + (F 3 0)) + (F 3 1)) + (F 3 2))), (3, .int (nI 2)), (0, .ref (a 0)), (1, .int (nI 1))] dX5_ofKinds_17 (kk := ?_)
        refine J_iincN C0 1 [(3, .int (nI 3)), (2, .int ((((nI 0) + (F 3 0)) + (F 3 1)) + (F 3 2))), (0, .ref (a 0)), (1, .int (nI 1))] dX5_ofKinds_18 (kk := ?_)
        refine J_goto C0 4 dX5_ofKinds_21 (kk := ?_)
        refine J_iln C0 0 dX5_ofKinds_4 (kk := ?_)
        refine J_ic C0 3 dX5_ofKinds_5 (kk := ?_)
        refine J_icmpgeN C0 24 (by omega) (by omega) dX5_ofKinds_6 (kt := fun c4 => ?_) (kf := fun c4 => ?_)
        · refine J_iln C0 1 dX5_ofKinds_24 (kk := ?_)
          exact J_iret C0 hF dX5_ofKinds_25 ⟨rfl, rfl⟩
        · exfalso; omega

set_option maxHeartbeats 4000000 in
set_option maxRecDepth 100000 in
theorem mX5_ofKinds_3 (l : Launch) (K : KT) (a : Nat → Nat) (F : FF) (g P L : Nat → Int32) (M : FF) : Ct l K yX5_ofKinds wsX5_ofKinds rmX5_ofKinds [.ref (a 0), .int (nI 3)] [modR K a (flat F) g P L M] (some (.int (sumS (F 5) 3))) [modR K a (flat F) g P L M] := by
  refine CtP_of (cc := cX5_ofKinds) (nL := 4) (rt := some .int) (own := RX5) (lv0 := [(0, .ref (a 0)), (1, .int (nI 3))]) (by decide) rfl (Nat.le_of_ble_eq_true rfl) rfl rfl ?_
  intro G C0 hF _
  refine J_ic C0 0 dX5_ofKinds_0 (kk := ?_)
  refine J_isn C0 [(2, .int (nI 0)), (0, .ref (a 0)), (1, .int (nI 3))] dX5_ofKinds_1 (kk := ?_)
  refine J_ic C0 0 dX5_ofKinds_2 (kk := ?_)
  refine J_isn C0 [(3, .int (nI 0)), (2, .int (nI 0)), (0, .ref (a 0)), (1, .int (nI 3))] dX5_ofKinds_3 (kk := ?_)
  refine J_iln C0 0 dX5_ofKinds_4 (kk := ?_)
  refine J_ic C0 3 dX5_ofKinds_5 (kk := ?_)
  refine J_icmpgeN C0 24 (by omega) (by omega) dX5_ofKinds_6 (kt := fun c1 => ?_) (kf := fun c1 => ?_)
  · exfalso; omega
  · refine J_iln C0 1 dX5_ofKinds_9 (kk := ?_)
    refine J_aln C0 2 dX5_ofKinds_10 (kk := ?_)
    refine J_iln C0 0 dX5_ofKinds_11 (kk := ?_)
    refine J_iln C0 3 dX5_ofKinds_12 (kk := ?_)
    refine J_callVd C0 (mX5_ofKind l K a F g P L M (k := 0) (w := 3) (by omega) (by omega)) [] [modR K a (flat F) g P L M] gX5_ofKinds_X5_ofKind dX5_ofKinds_13 2 0 (kk := ?_)
    show J G _ _ _ _ _ [.int (F 5 0), .int (nI 0)]
    refine J_iadd C0 dX5_ofKinds_16 ?_
    refine J_isn C0 [(2, .int ((nI 0) + (F 5 0))), (3, .int (nI 0)), (0, .ref (a 0)), (1, .int (nI 3))] dX5_ofKinds_17 (kk := ?_)
    refine J_iincN C0 1 [(3, .int (nI 1)), (2, .int ((nI 0) + (F 5 0))), (0, .ref (a 0)), (1, .int (nI 3))] dX5_ofKinds_18 (kk := ?_)
    refine J_goto C0 4 dX5_ofKinds_21 (kk := ?_)
    refine J_iln C0 0 dX5_ofKinds_4 (kk := ?_)
    refine J_ic C0 3 dX5_ofKinds_5 (kk := ?_)
    refine J_icmpgeN C0 24 (by omega) (by omega) dX5_ofKinds_6 (kt := fun c2 => ?_) (kf := fun c2 => ?_)
    · exfalso; omega
    · refine J_iln C0 1 dX5_ofKinds_9 (kk := ?_)
      refine J_aln C0 2 dX5_ofKinds_10 (kk := ?_)
      refine J_iln C0 0 dX5_ofKinds_11 (kk := ?_)
      refine J_iln C0 3 dX5_ofKinds_12 (kk := ?_)
      refine J_callVd C0 (mX5_ofKind l K a F g P L M (k := 1) (w := 3) (by omega) (by omega)) [] [modR K a (flat F) g P L M] gX5_ofKinds_X5_ofKind dX5_ofKinds_13 2 0 (kk := ?_)
      show J G _ _ _ _ _ [.int (F 5 1), .int ((nI 0) + (F 5 0))]
      refine J_iadd C0 dX5_ofKinds_16 ?_
      refine J_isn C0 [(2, .int (((nI 0) + (F 5 0)) + (F 5 1))), (3, .int (nI 1)), (0, .ref (a 0)), (1, .int (nI 3))] dX5_ofKinds_17 (kk := ?_)
      refine J_iincN C0 1 [(3, .int (nI 2)), (2, .int (((nI 0) + (F 5 0)) + (F 5 1))), (0, .ref (a 0)), (1, .int (nI 3))] dX5_ofKinds_18 (kk := ?_)
      refine J_goto C0 4 dX5_ofKinds_21 (kk := ?_)
      refine J_iln C0 0 dX5_ofKinds_4 (kk := ?_)
      refine J_ic C0 3 dX5_ofKinds_5 (kk := ?_)
      refine J_icmpgeN C0 24 (by omega) (by omega) dX5_ofKinds_6 (kt := fun c3 => ?_) (kf := fun c3 => ?_)
      · exfalso; omega
      · refine J_iln C0 1 dX5_ofKinds_9 (kk := ?_)
        refine J_aln C0 2 dX5_ofKinds_10 (kk := ?_)
        refine J_iln C0 0 dX5_ofKinds_11 (kk := ?_)
        refine J_iln C0 3 dX5_ofKinds_12 (kk := ?_)
        refine J_callVd C0 (mX5_ofKind l K a F g P L M (k := 2) (w := 3) (by omega) (by omega)) [] [modR K a (flat F) g P L M] gX5_ofKinds_X5_ofKind dX5_ofKinds_13 2 0 (kk := ?_)
        show J G _ _ _ _ _ [.int (F 5 2), .int (((nI 0) + (F 5 0)) + (F 5 1))]
        refine J_iadd C0 dX5_ofKinds_16 ?_
        refine J_isn C0 [(2, .int ((((nI 0) + (F 5 0)) + (F 5 1)) + (F 5 2))), (3, .int (nI 2)), (0, .ref (a 0)), (1, .int (nI 3))] dX5_ofKinds_17 (kk := ?_)
        refine J_iincN C0 1 [(3, .int (nI 3)), (2, .int ((((nI 0) + (F 5 0)) + (F 5 1)) + (F 5 2))), (0, .ref (a 0)), (1, .int (nI 3))] dX5_ofKinds_18 (kk := ?_)
        refine J_goto C0 4 dX5_ofKinds_21 (kk := ?_)
        refine J_iln C0 0 dX5_ofKinds_4 (kk := ?_)
        refine J_ic C0 3 dX5_ofKinds_5 (kk := ?_)
        refine J_icmpgeN C0 24 (by omega) (by omega) dX5_ofKinds_6 (kt := fun c4 => ?_) (kf := fun c4 => ?_)
        · refine J_iln C0 1 dX5_ofKinds_24 (kk := ?_)
          exact J_iret C0 hF dX5_ofKinds_25 ⟨rfl, rfl⟩
        · exfalso; omega

set_option maxHeartbeats 4000000 in
set_option maxRecDepth 100000 in
theorem mX5_ofKinds_4 (l : Launch) (K : KT) (a : Nat → Nat) (F : FF) (g P L : Nat → Int32) (M : FF) : Ct l K yX5_ofKinds wsX5_ofKinds rmX5_ofKinds [.ref (a 0), .int (nI 4)] [modR K a (flat F) g P L M] (some (.int (sumS (F 6) 3))) [modR K a (flat F) g P L M] := by
  refine CtP_of (cc := cX5_ofKinds) (nL := 4) (rt := some .int) (own := RX5) (lv0 := [(0, .ref (a 0)), (1, .int (nI 4))]) (by decide) rfl (Nat.le_of_ble_eq_true rfl) rfl rfl ?_
  intro G C0 hF _
  refine J_ic C0 0 dX5_ofKinds_0 (kk := ?_)
  refine J_isn C0 [(2, .int (nI 0)), (0, .ref (a 0)), (1, .int (nI 4))] dX5_ofKinds_1 (kk := ?_)
  refine J_ic C0 0 dX5_ofKinds_2 (kk := ?_)
  refine J_isn C0 [(3, .int (nI 0)), (2, .int (nI 0)), (0, .ref (a 0)), (1, .int (nI 4))] dX5_ofKinds_3 (kk := ?_)
  refine J_iln C0 0 dX5_ofKinds_4 (kk := ?_)
  refine J_ic C0 3 dX5_ofKinds_5 (kk := ?_)
  refine J_icmpgeN C0 24 (by omega) (by omega) dX5_ofKinds_6 (kt := fun c1 => ?_) (kf := fun c1 => ?_)
  · exfalso; omega
  · refine J_iln C0 1 dX5_ofKinds_9 (kk := ?_)
    refine J_aln C0 2 dX5_ofKinds_10 (kk := ?_)
    refine J_iln C0 0 dX5_ofKinds_11 (kk := ?_)
    refine J_iln C0 3 dX5_ofKinds_12 (kk := ?_)
    refine J_callVd C0 (mX5_ofKind l K a F g P L M (k := 0) (w := 4) (by omega) (by omega)) [] [modR K a (flat F) g P L M] gX5_ofKinds_X5_ofKind dX5_ofKinds_13 2 0 (kk := ?_)
    show J G _ _ _ _ _ [.int (F 6 0), .int (nI 0)]
    refine J_iadd C0 dX5_ofKinds_16 ?_
    refine J_isn C0 [(2, .int ((nI 0) + (F 6 0))), (3, .int (nI 0)), (0, .ref (a 0)), (1, .int (nI 4))] dX5_ofKinds_17 (kk := ?_)
    refine J_iincN C0 1 [(3, .int (nI 1)), (2, .int ((nI 0) + (F 6 0))), (0, .ref (a 0)), (1, .int (nI 4))] dX5_ofKinds_18 (kk := ?_)
    refine J_goto C0 4 dX5_ofKinds_21 (kk := ?_)
    refine J_iln C0 0 dX5_ofKinds_4 (kk := ?_)
    refine J_ic C0 3 dX5_ofKinds_5 (kk := ?_)
    refine J_icmpgeN C0 24 (by omega) (by omega) dX5_ofKinds_6 (kt := fun c2 => ?_) (kf := fun c2 => ?_)
    · exfalso; omega
    · refine J_iln C0 1 dX5_ofKinds_9 (kk := ?_)
      refine J_aln C0 2 dX5_ofKinds_10 (kk := ?_)
      refine J_iln C0 0 dX5_ofKinds_11 (kk := ?_)
      refine J_iln C0 3 dX5_ofKinds_12 (kk := ?_)
      refine J_callVd C0 (mX5_ofKind l K a F g P L M (k := 1) (w := 4) (by omega) (by omega)) [] [modR K a (flat F) g P L M] gX5_ofKinds_X5_ofKind dX5_ofKinds_13 2 0 (kk := ?_)
      show J G _ _ _ _ _ [.int (F 6 1), .int ((nI 0) + (F 6 0))]
      refine J_iadd C0 dX5_ofKinds_16 ?_
      refine J_isn C0 [(2, .int (((nI 0) + (F 6 0)) + (F 6 1))), (3, .int (nI 1)), (0, .ref (a 0)), (1, .int (nI 4))] dX5_ofKinds_17 (kk := ?_)
      refine J_iincN C0 1 [(3, .int (nI 2)), (2, .int (((nI 0) + (F 6 0)) + (F 6 1))), (0, .ref (a 0)), (1, .int (nI 4))] dX5_ofKinds_18 (kk := ?_)
      refine J_goto C0 4 dX5_ofKinds_21 (kk := ?_)
      refine J_iln C0 0 dX5_ofKinds_4 (kk := ?_)
      refine J_ic C0 3 dX5_ofKinds_5 (kk := ?_)
      refine J_icmpgeN C0 24 (by omega) (by omega) dX5_ofKinds_6 (kt := fun c3 => ?_) (kf := fun c3 => ?_)
      · exfalso; omega
      · refine J_iln C0 1 dX5_ofKinds_9 (kk := ?_)
        refine J_aln C0 2 dX5_ofKinds_10 (kk := ?_)
        refine J_iln C0 0 dX5_ofKinds_11 (kk := ?_)
        refine J_iln C0 3 dX5_ofKinds_12 (kk := ?_)
        refine J_callVd C0 (mX5_ofKind l K a F g P L M (k := 2) (w := 4) (by omega) (by omega)) [] [modR K a (flat F) g P L M] gX5_ofKinds_X5_ofKind dX5_ofKinds_13 2 0 (kk := ?_)
        show J G _ _ _ _ _ [.int (F 6 2), .int (((nI 0) + (F 6 0)) + (F 6 1))]
        refine J_iadd C0 dX5_ofKinds_16 ?_
        refine J_isn C0 [(2, .int ((((nI 0) + (F 6 0)) + (F 6 1)) + (F 6 2))), (3, .int (nI 2)), (0, .ref (a 0)), (1, .int (nI 4))] dX5_ofKinds_17 (kk := ?_)
        refine J_iincN C0 1 [(3, .int (nI 3)), (2, .int ((((nI 0) + (F 6 0)) + (F 6 1)) + (F 6 2))), (0, .ref (a 0)), (1, .int (nI 4))] dX5_ofKinds_18 (kk := ?_)
        refine J_goto C0 4 dX5_ofKinds_21 (kk := ?_)
        refine J_iln C0 0 dX5_ofKinds_4 (kk := ?_)
        refine J_ic C0 3 dX5_ofKinds_5 (kk := ?_)
        refine J_icmpgeN C0 24 (by omega) (by omega) dX5_ofKinds_6 (kt := fun c4 => ?_) (kf := fun c4 => ?_)
        · refine J_iln C0 1 dX5_ofKinds_24 (kk := ?_)
          exact J_iret C0 hF dX5_ofKinds_25 ⟨rfl, rfl⟩
        · exfalso; omega

theorem sum_out {B hn n : Nat} {F : FF} {N : Nat → Nat → Nat} (hv : InvN B F hn n N) {w : Nat} (hw : w < 5) : sumS (F (7 + w)) (3 * hn) = sumS (F (7 + w)) 12 := by
  have h4 := hv.1.2
  have z : ∀ p, 3 * hn ≤ p → p < 12 → F (7 + w) p = 0 := fun p h1 h2 => by
    have hz := hv.2.2.2.2.2.1 p h1 h2
    have hq := hv.p h2
    rcases (show w = 0 ∨ w = 1 ∨ w = 2 ∨ w = 3 ∨ w = 4 by omega) with rfl | rfl | rfl | rfl | rfl
    · exact (hv.F7 h2).trans (by rw [hz.1]; rfl)
    · exact (hv.F8 h2).trans (by rw [show N 8 p = 0 by omega]; rfl)
    · exact (hv.F9 h2).trans (by rw [show N 9 p = 0 by omega]; rfl)
    · exact (hv.F10 h2).trans (by rw [show N 10 p = 0 by omega]; rfl)
    · exact (hv.F11 h2).trans (by rw [hz.2]; rfl)
  have e : ∀ d, 3 * hn + d ≤ 12 → sumS (F (7 + w)) (3 * hn + d) = sumS (F (7 + w)) (3 * hn) := by
    intro d
    induction d with
    | zero => intro _; rfl
    | succ d ih =>
      intro hd
      show sumS (F (7 + w)) (3 * hn + d) + F (7 + w) (3 * hn + d) = _
      rw [ih (by omega), z _ (by omega) (by omega), Int32.add_zero]
  have := e (12 - 3 * hn) (by omega)
  rw [show 3 * hn + (12 - 3 * hn) = 12 by omega] at this
  exact this.symm
abbrev rmX5_ofPairs : Room := { frames := 2, cells := 0, slots := 0, locals := 44 }
set_option maxHeartbeats 4000000 in
set_option maxRecDepth 100000 in
theorem mX5_ofPairs (l : Launch) (K : KT) (a : Nat → Nat) (F : FF) (g P L : Nat → Int32) (M : FF) {B hn n : Nat} {N : Nat → Nat → Nat} (hv : InvN B F hn n N) {w : Nat} (hw : w < 5) : Ct l K yX5_ofPairs wsX5_ofPairs rmX5_ofPairs [.ref (a 0), .int (nI w)] [modR K a (flat F) g P L M] (some (.int (sumS (F (7 + w)) 12))) [modR K a (flat F) g P L M] := by
  refine CtP_of (cc := cX5_ofPairs) (nL := 4) (rt := some .int) (own := RX5) (lv0 := [(0, .ref (a 0)), (1, .int (nI w))]) (by decide) rfl (Nat.le_of_ble_eq_true rfl) rfl rfl ?_
  intro G C0 hF _
  have eh := hv.1.1
  have h4 := hv.1.2
  have f7 : Cond.fieldLink RX5 7 "CorkPermitsModel" "s" "[I" ∈ wsX5_ofPairs := by decide +kernel
  have iX5 : ∀ w ∈ u_ws RX5 TX5 13, w ∈ wsX5_ofPairs := by decide +kernel
  have lp : ∀ (q p : Nat), p + q = 3 * hn → J G [modR K a (flat F) g P L M] [(3, .int (nI p)), (2, .int (sumS (F (7 + w)) p)), (1, .int (nI w)), (0, .ref (a 0))] 0 0 4 [] := by
    intro q
    induction q with
    | zero =>
      intro p hq
      refine J_iln C0 0 dX5_ofPairs_4 (kk := ?_)
      refine J_ic C0 3 dX5_ofPairs_5 (kk := ?_)
      refine J_aln C0 3 dX5_ofPairs_6 (kk := ?_)
      refine J_get C0 iX5 0 0 0 f7 dX5_ofPairs_7 (kk := ?_)
      refine J_ic C0 1 dX5_ofPairs_10 (kk := ?_)
      refine J_iald C0 0 1 283 dX5_ofPairs_11 (by omega) (v := (nI hn)) (hv := (flat_0 F (j := 1) (by decide)).trans eh) (kk := ?_)
      refine J_imulN C0 dX5_ofPairs_12 ?_
      refine J_icmpgeN C0 36 (by omega) (by omega) dX5_ofPairs_13 (kt := fun c1 => ?_) (kf := fun c1 => ?_)
      · refine J_iln C0 1 dX5_ofPairs_36 (kk := ?_)
        exact J_iret C0 hF dX5_ofPairs_37 ⟨by rw [← sum_out hv hw, show 3 * hn = p by omega], rfl⟩
      · exfalso; omega
    | succ q ih =>
      intro p hq
      obtain ⟨h, k, hk, rfl⟩ : ∃ h k, k < 3 ∧ p = 3 * h + k := ⟨p / 3, p % 3, by omega, by omega⟩
      have hh : h < 4 := by omega
      refine J_iln C0 0 dX5_ofPairs_4 (kk := ?_)
      refine J_ic C0 3 dX5_ofPairs_5 (kk := ?_)
      refine J_aln C0 3 dX5_ofPairs_6 (kk := ?_)
      refine J_get C0 iX5 0 0 0 f7 dX5_ofPairs_7 (kk := ?_)
      refine J_ic C0 1 dX5_ofPairs_10 (kk := ?_)
      refine J_iald C0 0 1 283 dX5_ofPairs_11 (by omega) (v := (nI hn)) (hv := (flat_0 F (j := 1) (by decide)).trans eh) (kk := ?_)
      refine J_imulN C0 dX5_ofPairs_12 ?_
      refine J_icmpgeN C0 36 (by omega) (by omega) dX5_ofPairs_13 (kt := fun c1 => ?_) (kf := fun c1 => ?_)
      · exfalso; omega
      · refine J_iln C0 1 dX5_ofPairs_16 (kk := ?_)
        refine J_aln C0 3 dX5_ofPairs_17 (kk := ?_)
        refine J_iln C0 0 dX5_ofPairs_18 (kk := ?_)
        refine J_ic C0 3 dX5_ofPairs_19 (kk := ?_)
        refine J_idivV C0 (v := h) (by omega) (by omega) (by omega) (by omega) dX5_ofPairs_20 ?_
        refine J_iln C0 0 dX5_ofPairs_21 (kk := ?_)
        refine J_ic C0 3 dX5_ofPairs_22 (kk := ?_)
        refine J_iremV C0 (v := k) (by omega) (by omega) (by omega) (by omega) dX5_ofPairs_23 ?_
        refine J_iln C0 2 dX5_ofPairs_24 (kk := ?_)
        refine J_callVd C0 (mX5_of l K a F g P L M (h := h) (k := k) (w := w) (by omega) (by omega) (by omega)) [] [modR K a (flat F) g P L M] gX5_ofPairs_X5_of dX5_ofPairs_25 3 0 (kk := ?_)
        show J G _ _ _ _ _ [.int (F (7 + w) (3 * h + k)), .int (sumS (F (7 + w)) (3 * h + k))]
        refine J_iadd C0 dX5_ofPairs_28 ?_
        refine J_isn C0 [(2, .int ((sumS (F (7 + w)) (3 * h + k)) + (F (7 + w) (3 * h + k)))), (3, .int (nI (3 * h + k))), (1, .int (nI w)), (0, .ref (a 0))] dX5_ofPairs_29 (kk := ?_)
        refine J_iincN C0 1 [(3, .int (nI (3 * h + k + 1))), (2, .int ((sumS (F (7 + w)) (3 * h + k)) + (F (7 + w) (3 * h + k)))), (1, .int (nI w)), (0, .ref (a 0))] dX5_ofPairs_30 (kk := ?_)
        refine J_goto C0 4 dX5_ofPairs_33 (kk := ?_)
        exact J_lv [0, 1, 2, 3] rfl (ih (3 * h + k + 1) (by omega))
  refine J_ic C0 0 dX5_ofPairs_0 (kk := ?_)
  refine J_isn C0 [(2, .int (nI 0)), (0, .ref (a 0)), (1, .int (nI w))] dX5_ofPairs_1 (kk := ?_)
  refine J_ic C0 0 dX5_ofPairs_2 (kk := ?_)
  refine J_isn C0 [(3, .int (nI 0)), (2, .int (nI 0)), (0, .ref (a 0)), (1, .int (nI w))] dX5_ofPairs_3 (kk := ?_)
  exact J_lv [0, 1, 3, 2] rfl (lp (3 * hn) 0 (by omega))

abbrev rmX5_counted : Room := { frames := 3, cells := 0, slots := 0, locals := 67 }
set_option maxHeartbeats 4000000 in
set_option maxRecDepth 100000 in
theorem mX5_counted_0 (l : Launch) (K : KT) (a : Nat → Nat) (F : FF) (g P L : Nat → Int32) (M : FF) {B hn n : Nat} {N : Nat → Nat → Nat} (hv : InvN B F hn n N) : Ct l K yX5_counted wsX5_counted rmX5_counted [.ref (a 0), .int (nI 0)] [modR K a (flat F) g P L M] (some (.int (countC F M 0))) [modR K a (flat F) g P L M] := by
  refine CtP_of (cc := cX5_counted) (nL := 2) (rt := some .int) (own := RX5) (lv0 := [(0, .ref (a 0)), (1, .int (nI 0))]) (by decide) rfl (Nat.le_of_ble_eq_true rfl) rfl rfl ?_
  intro G C0 hF _
  have f7 : Cond.fieldLink RX5 7 "CorkPermitsModel" "s" "[I" ∈ wsX5_counted := by decide +kernel
  have iX5 : ∀ w ∈ u_ws RX5 TX5 13, w ∈ wsX5_counted := by decide +kernel
  refine J_iln C0 1 dX5_counted_0 (kk := ?_)
  refine J_tin C0 60 dX5_counted_1 (kk := ?_)
  refine J_aln C0 0 dX5_counted_60 (kk := ?_)
  refine J_get C0 iX5 0 0 0 f7 dX5_counted_61 (kk := ?_)
  refine J_ic C0 0 dX5_counted_64 (kk := ?_)
  refine J_iald C0 0 1 283 dX5_counted_65 (by omega) (v := (F 0 0)) (hv := (flat_0 F (j := 0) (by decide)).trans rfl) (kk := ?_)
  exact J_iret C0 hF dX5_counted_66 ⟨rfl, rfl⟩

set_option maxHeartbeats 4000000 in
set_option maxRecDepth 100000 in
theorem mX5_counted_1 (l : Launch) (K : KT) (a : Nat → Nat) (F : FF) (g P L : Nat → Int32) (M : FF) {B hn n : Nat} {N : Nat → Nat → Nat} (hv : InvN B F hn n N) : Ct l K yX5_counted wsX5_counted rmX5_counted [.ref (a 0), .int (nI 1)] [modR K a (flat F) g P L M] (some (.int (countC F M 1))) [modR K a (flat F) g P L M] := by
  refine CtP_of (cc := cX5_counted) (nL := 2) (rt := some .int) (own := RX5) (lv0 := [(0, .ref (a 0)), (1, .int (nI 1))]) (by decide) rfl (Nat.le_of_ble_eq_true rfl) rfl rfl ?_
  intro G C0 hF _
  have f7 : Cond.fieldLink RX5 7 "CorkPermitsModel" "s" "[I" ∈ wsX5_counted := by decide +kernel
  have iX5 : ∀ w ∈ u_ws RX5 TX5 13, w ∈ wsX5_counted := by decide +kernel
  refine J_iln C0 1 dX5_counted_0 (kk := ?_)
  refine J_tin C0 67 dX5_counted_1 (kk := ?_)
  refine J_aln C0 0 dX5_counted_67 (kk := ?_)
  refine J_get C0 iX5 0 0 0 f7 dX5_counted_68 (kk := ?_)
  refine J_ic C0 1 dX5_counted_71 (kk := ?_)
  refine J_iald C0 0 1 283 dX5_counted_72 (by omega) (v := (F 0 1)) (hv := (flat_0 F (j := 1) (by decide)).trans rfl) (kk := ?_)
  exact J_iret C0 hF dX5_counted_73 ⟨rfl, rfl⟩

set_option maxHeartbeats 4000000 in
set_option maxRecDepth 100000 in
theorem mX5_counted_2 (l : Launch) (K : KT) (a : Nat → Nat) (F : FF) (g P L : Nat → Int32) (M : FF) {B hn n : Nat} {N : Nat → Nat → Nat} (hv : InvN B F hn n N) : Ct l K yX5_counted wsX5_counted rmX5_counted [.ref (a 0), .int (nI 2)] [modR K a (flat F) g P L M] (some (.int (countC F M 2))) [modR K a (flat F) g P L M] := by
  refine CtP_of (cc := cX5_counted) (nL := 2) (rt := some .int) (own := RX5) (lv0 := [(0, .ref (a 0)), (1, .int (nI 2))]) (by decide) rfl (Nat.le_of_ble_eq_true rfl) rfl rfl ?_
  intro G C0 hF _
  have f7 : Cond.fieldLink RX5 7 "CorkPermitsModel" "s" "[I" ∈ wsX5_counted := by decide +kernel
  have iX5 : ∀ w ∈ u_ws RX5 TX5 13, w ∈ wsX5_counted := by decide +kernel
  refine J_iln C0 1 dX5_counted_0 (kk := ?_)
  refine J_tin C0 74 dX5_counted_1 (kk := ?_)
  refine J_aln C0 0 dX5_counted_74 (kk := ?_)
  refine J_get C0 iX5 0 0 0 f7 dX5_counted_75 (kk := ?_)
  refine J_ic C0 4 dX5_counted_78 (kk := ?_)
  refine J_iald C0 0 1 283 dX5_counted_79 (by omega) (v := (F 0 4)) (hv := (flat_0 F (j := 4) (by decide)).trans rfl) (kk := ?_)
  exact J_iret C0 hF dX5_counted_80 ⟨rfl, rfl⟩

set_option maxHeartbeats 4000000 in
set_option maxRecDepth 100000 in
theorem mX5_counted_3 (l : Launch) (K : KT) (a : Nat → Nat) (F : FF) (g P L : Nat → Int32) (M : FF) {B hn n : Nat} {N : Nat → Nat → Nat} (hv : InvN B F hn n N) : Ct l K yX5_counted wsX5_counted rmX5_counted [.ref (a 0), .int (nI 3)] [modR K a (flat F) g P L M] (some (.int (countC F M 3))) [modR K a (flat F) g P L M] := by
  refine CtP_of (cc := cX5_counted) (nL := 2) (rt := some .int) (own := RX5) (lv0 := [(0, .ref (a 0)), (1, .int (nI 3))]) (by decide) rfl (Nat.le_of_ble_eq_true rfl) rfl rfl ?_
  intro G C0 hF _
  have f7 : Cond.fieldLink RX5 7 "CorkPermitsModel" "s" "[I" ∈ wsX5_counted := by decide +kernel
  have iX5 : ∀ w ∈ u_ws RX5 TX5 13, w ∈ wsX5_counted := by decide +kernel
  refine J_iln C0 1 dX5_counted_0 (kk := ?_)
  refine J_tin C0 81 dX5_counted_1 (kk := ?_)
  refine J_aln C0 0 dX5_counted_81 (kk := ?_)
  refine J_get C0 iX5 0 0 0 f7 dX5_counted_82 (kk := ?_)
  refine J_ic C0 2 dX5_counted_85 (kk := ?_)
  refine J_iald C0 0 1 283 dX5_counted_86 (by omega) (v := (F 0 2)) (hv := (flat_0 F (j := 2) (by decide)).trans rfl) (kk := ?_)
  exact J_iret C0 hF dX5_counted_87 ⟨rfl, rfl⟩

set_option maxHeartbeats 4000000 in
set_option maxRecDepth 100000 in
theorem mX5_counted_4 (l : Launch) (K : KT) (a : Nat → Nat) (F : FF) (g P L : Nat → Int32) (M : FF) {B hn n : Nat} {N : Nat → Nat → Nat} (hv : InvN B F hn n N) : Ct l K yX5_counted wsX5_counted rmX5_counted [.ref (a 0), .int (nI 4)] [modR K a (flat F) g P L M] (some (.int (countC F M 4))) [modR K a (flat F) g P L M] := by
  refine CtP_of (cc := cX5_counted) (nL := 2) (rt := some .int) (own := RX5) (lv0 := [(0, .ref (a 0)), (1, .int (nI 4))]) (by decide) rfl (Nat.le_of_ble_eq_true rfl) rfl rfl ?_
  intro G C0 hF _
  have f7 : Cond.fieldLink RX5 7 "CorkPermitsModel" "s" "[I" ∈ wsX5_counted := by decide +kernel
  have iX5 : ∀ w ∈ u_ws RX5 TX5 13, w ∈ wsX5_counted := by decide +kernel
  refine J_iln C0 1 dX5_counted_0 (kk := ?_)
  refine J_tin C0 88 dX5_counted_1 (kk := ?_)
  refine J_aln C0 0 dX5_counted_88 (kk := ?_)
  refine J_get C0 iX5 0 0 0 f7 dX5_counted_89 (kk := ?_)
  refine J_ic C0 3 dX5_counted_92 (kk := ?_)
  refine J_iald C0 0 1 283 dX5_counted_93 (by omega) (v := (F 0 3)) (hv := (flat_0 F (j := 3) (by decide)).trans rfl) (kk := ?_)
  exact J_iret C0 hF dX5_counted_94 ⟨rfl, rfl⟩

set_option maxHeartbeats 4000000 in
set_option maxRecDepth 100000 in
theorem mX5_counted_5 (l : Launch) (K : KT) (a : Nat → Nat) (F : FF) (g P L : Nat → Int32) (M : FF) {B hn n : Nat} {N : Nat → Nat → Nat} (hv : InvN B F hn n N) : Ct l K yX5_counted wsX5_counted rmX5_counted [.ref (a 0), .int (nI 5)] [modR K a (flat F) g P L M] (some (.int (countC F M 5))) [modR K a (flat F) g P L M] := by
  refine CtP_of (cc := cX5_counted) (nL := 2) (rt := some .int) (own := RX5) (lv0 := [(0, .ref (a 0)), (1, .int (nI 5))]) (by decide) rfl (Nat.le_of_ble_eq_true rfl) rfl rfl ?_
  intro G C0 hF _
  refine J_iln C0 1 dX5_counted_0 (kk := ?_)
  refine J_tin C0 95 dX5_counted_1 (kk := ?_)
  refine J_aln C0 0 dX5_counted_95 (kk := ?_)
  refine J_ic C0 3 dX5_counted_96 (kk := ?_)
  refine J_callVd C0 (mX5_ofPairs l K a F g P L M hv (w := 3) (by omega)) [] [modR K a (flat F) g P L M] gX5_counted_X5_ofPairs dX5_counted_97 1 0 (kk := ?_)
  show J G _ _ _ _ _ [.int (sumS (F 10) 12)]
  exact J_iret C0 hF dX5_counted_100 ⟨rfl, rfl⟩

set_option maxHeartbeats 4000000 in
set_option maxRecDepth 100000 in
theorem mX5_counted_6 (l : Launch) (K : KT) (a : Nat → Nat) (F : FF) (g P L : Nat → Int32) (M : FF) {B hn n : Nat} {N : Nat → Nat → Nat} (hv : InvN B F hn n N) : Ct l K yX5_counted wsX5_counted rmX5_counted [.ref (a 0), .int (nI 6)] [modR K a (flat F) g P L M] (some (.int (countC F M 6))) [modR K a (flat F) g P L M] := by
  refine CtP_of (cc := cX5_counted) (nL := 2) (rt := some .int) (own := RX5) (lv0 := [(0, .ref (a 0)), (1, .int (nI 6))]) (by decide) rfl (Nat.le_of_ble_eq_true rfl) rfl rfl ?_
  intro G C0 hF _
  refine J_iln C0 1 dX5_counted_0 (kk := ?_)
  refine J_tin C0 101 dX5_counted_1 (kk := ?_)
  refine J_aln C0 0 dX5_counted_101 (kk := ?_)
  refine J_ic C0 3 dX5_counted_102 (kk := ?_)
  refine J_callVd C0 (mX5_ofKinds_3 l K a F g P L M) [] [modR K a (flat F) g P L M] gX5_counted_X5_ofKinds dX5_counted_103 1 0 (kk := ?_)
  show J G _ _ _ _ _ [.int (sumS (F 5) 3)]
  exact J_iret C0 hF dX5_counted_106 ⟨rfl, rfl⟩

set_option maxHeartbeats 4000000 in
set_option maxRecDepth 100000 in
theorem mX5_counted_7 (l : Launch) (K : KT) (a : Nat → Nat) (F : FF) (g P L : Nat → Int32) (M : FF) {B hn n : Nat} {N : Nat → Nat → Nat} (hv : InvN B F hn n N) : Ct l K yX5_counted wsX5_counted rmX5_counted [.ref (a 0), .int (nI 7)] [modR K a (flat F) g P L M] (some (.int (countC F M 7))) [modR K a (flat F) g P L M] := by
  refine CtP_of (cc := cX5_counted) (nL := 2) (rt := some .int) (own := RX5) (lv0 := [(0, .ref (a 0)), (1, .int (nI 7))]) (by decide) rfl (Nat.le_of_ble_eq_true rfl) rfl rfl ?_
  intro G C0 hF _
  refine J_iln C0 1 dX5_counted_0 (kk := ?_)
  refine J_tin C0 107 dX5_counted_1 (kk := ?_)
  refine J_aln C0 0 dX5_counted_107 (kk := ?_)
  refine J_ic C0 4 dX5_counted_108 (kk := ?_)
  refine J_callVd C0 (mX5_ofKinds_4 l K a F g P L M) [] [modR K a (flat F) g P L M] gX5_counted_X5_ofKinds dX5_counted_109 1 0 (kk := ?_)
  show J G _ _ _ _ _ [.int (sumS (F 6) 3)]
  exact J_iret C0 hF dX5_counted_112 ⟨rfl, rfl⟩

set_option maxHeartbeats 4000000 in
set_option maxRecDepth 100000 in
theorem mX5_counted_8 (l : Launch) (K : KT) (a : Nat → Nat) (F : FF) (g P L : Nat → Int32) (M : FF) {B hn n : Nat} {N : Nat → Nat → Nat} (hv : InvN B F hn n N) : Ct l K yX5_counted wsX5_counted rmX5_counted [.ref (a 0), .int (nI 8)] [modR K a (flat F) g P L M] (some (.int (countC F M 8))) [modR K a (flat F) g P L M] := by
  refine CtP_of (cc := cX5_counted) (nL := 2) (rt := some .int) (own := RX5) (lv0 := [(0, .ref (a 0)), (1, .int (nI 8))]) (by decide) rfl (Nat.le_of_ble_eq_true rfl) rfl rfl ?_
  intro G C0 hF _
  refine J_iln C0 1 dX5_counted_0 (kk := ?_)
  refine J_tin C0 113 dX5_counted_1 (kk := ?_)
  refine J_aln C0 0 dX5_counted_113 (kk := ?_)
  refine J_ic C0 4 dX5_counted_114 (kk := ?_)
  refine J_callVd C0 (mX5_ofPairs l K a F g P L M hv (w := 4) (by omega)) [] [modR K a (flat F) g P L M] gX5_counted_X5_ofPairs dX5_counted_115 1 0 (kk := ?_)
  show J G _ _ _ _ _ [.int (sumS (F 11) 12)]
  exact J_iret C0 hF dX5_counted_118 ⟨rfl, rfl⟩

set_option maxHeartbeats 4000000 in
set_option maxRecDepth 100000 in
theorem mX5_counted_9 (l : Launch) (K : KT) (a : Nat → Nat) (F : FF) (g P L : Nat → Int32) (M : FF) {B hn n : Nat} {N : Nat → Nat → Nat} (hv : InvN B F hn n N) : Ct l K yX5_counted wsX5_counted rmX5_counted [.ref (a 0), .int (nI 9)] [modR K a (flat F) g P L M] (some (.int (countC F M 9))) [modR K a (flat F) g P L M] := by
  refine CtP_of (cc := cX5_counted) (nL := 2) (rt := some .int) (own := RX5) (lv0 := [(0, .ref (a 0)), (1, .int (nI 9))]) (by decide) rfl (Nat.le_of_ble_eq_true rfl) rfl rfl ?_
  intro G C0 hF _
  refine J_iln C0 1 dX5_counted_0 (kk := ?_)
  refine J_tin C0 119 dX5_counted_1 (kk := ?_)
  refine J_aln C0 0 dX5_counted_119 (kk := ?_)
  refine J_ic C0 1 dX5_counted_120 (kk := ?_)
  refine J_callVd C0 (mX5_ofKinds_1 l K a F g P L M) [] [modR K a (flat F) g P L M] gX5_counted_X5_ofKinds dX5_counted_121 1 0 (kk := ?_)
  show J G _ _ _ _ _ [.int (sumS (F 3) 3)]
  exact J_iret C0 hF dX5_counted_124 ⟨rfl, rfl⟩

set_option maxHeartbeats 4000000 in
set_option maxRecDepth 100000 in
theorem mX5_counted_10 (l : Launch) (K : KT) (a : Nat → Nat) (F : FF) (g P L : Nat → Int32) (M : FF) {B hn n : Nat} {N : Nat → Nat → Nat} (hv : InvN B F hn n N) : Ct l K yX5_counted wsX5_counted rmX5_counted [.ref (a 0), .int (nI 10)] [modR K a (flat F) g P L M] (some (.int (countC F M 10))) [modR K a (flat F) g P L M] := by
  refine CtP_of (cc := cX5_counted) (nL := 2) (rt := some .int) (own := RX5) (lv0 := [(0, .ref (a 0)), (1, .int (nI 10))]) (by decide) rfl (Nat.le_of_ble_eq_true rfl) rfl rfl ?_
  intro G C0 hF _
  refine J_iln C0 1 dX5_counted_0 (kk := ?_)
  refine J_tin C0 125 dX5_counted_1 (kk := ?_)
  refine J_aln C0 0 dX5_counted_125 (kk := ?_)
  refine J_ic C0 0 dX5_counted_126 (kk := ?_)
  refine J_callVd C0 (mX5_ofPairs l K a F g P L M hv (w := 0) (by omega)) [] [modR K a (flat F) g P L M] gX5_counted_X5_ofPairs dX5_counted_127 1 0 (kk := ?_)
  show J G _ _ _ _ _ [.int (sumS (F 7) 12)]
  refine J_aln C0 0 dX5_counted_130 (kk := ?_)
  refine J_ic C0 1 dX5_counted_131 (kk := ?_)
  refine J_callVd C0 (mX5_ofPairs l K a F g P L M hv (w := 1) (by omega)) [] [modR K a (flat F) g P L M] gX5_counted_X5_ofPairs dX5_counted_132 1 0 (kk := ?_)
  show J G _ _ _ _ _ [.int (sumS (F 8) 12), .int (sumS (F 7) 12)]
  refine J_isub C0 dX5_counted_135 ?_
  exact J_iret C0 hF dX5_counted_136 ⟨rfl, rfl⟩

set_option maxHeartbeats 4000000 in
set_option maxRecDepth 100000 in
theorem mX5_counted_11 (l : Launch) (K : KT) (a : Nat → Nat) (F : FF) (g P L : Nat → Int32) (M : FF) {B hn n : Nat} {N : Nat → Nat → Nat} (hv : InvN B F hn n N) : Ct l K yX5_counted wsX5_counted rmX5_counted [.ref (a 0), .int (nI 11)] [modR K a (flat F) g P L M] (some (.int (countC F M 11))) [modR K a (flat F) g P L M] := by
  refine CtP_of (cc := cX5_counted) (nL := 2) (rt := some .int) (own := RX5) (lv0 := [(0, .ref (a 0)), (1, .int (nI 11))]) (by decide) rfl (Nat.le_of_ble_eq_true rfl) rfl rfl ?_
  intro G C0 hF _
  have f32 : Cond.fieldLink RX5 32 "CorkPermitsModel" "saved" "I" ∈ wsX5_counted := by decide +kernel
  have iX5 : ∀ w ∈ u_ws RX5 TX5 13, w ∈ wsX5_counted := by decide +kernel
  refine J_iln C0 1 dX5_counted_0 (kk := ?_)
  refine J_tout C0 137 dX5_counted_1 (by decide) (kk := ?_)
  refine J_aln C0 0 dX5_counted_137 (kk := ?_)
  refine J_get C0 iX5 0 0 3 f32 dX5_counted_138 (kk := ?_)
  exact J_iret C0 hF dX5_counted_141 ⟨rfl, rfl⟩

theorem mX5_counted (l : Launch) (K : KT) (a : Nat → Nat) (F : FF) (g P L : Nat → Int32) (M : FF) {B hn n : Nat} {N : Nat → Nat → Nat} (hv : InvN B F hn n N) {w : Nat} (hw : w < 12) : Ct l K yX5_counted wsX5_counted rmX5_counted [.ref (a 0), .int (nI w)] [modR K a (flat F) g P L M] (some (.int (countC F M w))) [modR K a (flat F) g P L M] := by
  rcases (show w = 0 ∨ w = 1 ∨ w = 2 ∨ w = 3 ∨ w = 4 ∨ w = 5 ∨ w = 6 ∨ w = 7 ∨ w = 8 ∨ w = 9 ∨ w = 10 ∨ w = 11 by omega) with rfl | rfl | rfl | rfl | rfl | rfl | rfl | rfl | rfl | rfl | rfl | rfl
  · exact mX5_counted_0 l K a F g P L M hv
  · exact mX5_counted_1 l K a F g P L M hv
  · exact mX5_counted_2 l K a F g P L M hv
  · exact mX5_counted_3 l K a F g P L M hv
  · exact mX5_counted_4 l K a F g P L M hv
  · exact mX5_counted_5 l K a F g P L M hv
  · exact mX5_counted_6 l K a F g P L M hv
  · exact mX5_counted_7 l K a F g P L M hv
  · exact mX5_counted_8 l K a F g P L M hv
  · exact mX5_counted_9 l K a F g P L M hv
  · exact mX5_counted_10 l K a F g P L M hv
  · exact mX5_counted_11 l K a F g P L M hv
abbrev rmX5_count : Room := { frames := 4, cells := 0, slots := 0, locals := 88 }
set_option maxHeartbeats 4000000 in
set_option maxRecDepth 100000 in
theorem mX5_count (l : Launch) (K : KT) (a : Nat → Nat) (F : FF) (g P L : Nat → Int32) (M : FF) {B hn n : Nat} {N : Nat → Nat → Nat} (hv : InvN B F hn n N) {w : Nat} (hw : w < 12) : Ct l K yX5_count wsX5_count rmX5_count [.ref (a 0), .int (nI w)] [modR K a (flat F) g P L M] (some (.int (countC F (u2 M 0 2 (nI 0)) w))) [modR K a (flat F) g P L (u2 M 0 2 (nI 0))] := by
  refine CtP_of (cc := cX5_count) (nL := 2) (rt := some .int) (own := RX5) (lv0 := [(0, .ref (a 0)), (1, .int (nI w))]) (by decide) rfl (Nat.le_of_ble_eq_true rfl) rfl rfl ?_
  intro G C0 hF _
  have f28 : Cond.fieldLink RX5 28 "CorkPermitsModel" "thrown" "I" ∈ wsX5_count := by decide +kernel
  have iX5 : ∀ w ∈ u_ws RX5 TX5 13, w ∈ wsX5_count := by decide +kernel
  refine J_aln C0 0 dX5_count_0 (kk := ?_)
  refine J_ic C0 0 dX5_count_1 (kk := ?_)
  refine J_put C0 iX5 tyX5_ok nmX5 0 0 8 [modR K a (flat F) g P L (u2 M 0 2 (nI 0))] f28 dX5_count_2 (hd := rfl) (kk := ?_)
  refine J_iln C0 1 dX5_count_5 (kk := ?_)
  refine J_ic C0 0 dX5_count_6 (kk := ?_)
  refine J_bi C0 11 dX5_count_7 (kk := ?_)
  refine J_callSd C0 (mX5_in_y l K (x := nI w) (lo := nI 0) (hi := nI 11) (inN_y (v := w) (lo := 0) (hi := 11) (by omega) (by omega) (by omega)).1 (inN_y (v := w) (lo := 0) (hi := 11) (by omega) (by omega) (by omega)).2) [modR K a (flat F) g P L (u2 M 0 2 (nI 0))] [modR K a (flat F) g P L (u2 M 0 2 (nI 0))] gX5_count_X5_in dX5_count_9 3 (kk := ?_)
  show J G _ _ _ _ _ [.int (nI 1)]
  refine J_ifeqN C0 23 (by omega) dX5_count_12 (kt := fun c1 => ?_) (kf := fun c1 => ?_)
  · exfalso; omega
  · refine J_aln C0 0 dX5_count_15 (kk := ?_)
    refine J_iln C0 1 dX5_count_16 (kk := ?_)
    refine J_callVd C0 (mX5_counted l K a F g P L (u2 M 0 2 (nI 0)) hv (w := w) (by omega)) [] [modR K a (flat F) g P L (u2 M 0 2 (nI 0))] gX5_count_X5_counted dX5_count_17 1 0 (kk := ?_)
    show J G _ _ _ _ _ [.int (countC F (u2 M 0 2 (nI 0)) w)]
    refine J_goto C0 28 dX5_count_20 (kk := ?_)
    exact J_iret C0 hF dX5_count_28 ⟨rfl, rfl⟩

set_option maxHeartbeats 4000000 in
set_option maxRecDepth 100000 in
theorem mX5_count_no (l : Launch) (K : KT) (a : Nat → Nat) (F : FF) (g P L : Nat → Int32) (M : FF) {x : Int32} (hx : ¬ (¬ x < nI 0 ∧ ¬ nI 11 < x)) : Ct l K yX5_count wsX5_count rmX5_count [.ref (a 0), .int x] [modR K a (flat F) g P L M] (some (.int (nI 0))) [modR K a (flat F) g P L (u2 (u2 M 0 2 (nI 0)) 0 2 (nI 1))] := by
  refine CtP_of (cc := cX5_count) (nL := 2) (rt := some .int) (own := RX5) (lv0 := [(0, .ref (a 0)), (1, .int x)]) (by decide) rfl (Nat.le_of_ble_eq_true rfl) rfl rfl ?_
  intro G C0 hF _
  have f28 : Cond.fieldLink RX5 28 "CorkPermitsModel" "thrown" "I" ∈ wsX5_count := by decide +kernel
  have iX5 : ∀ w ∈ u_ws RX5 TX5 13, w ∈ wsX5_count := by decide +kernel
  refine J_aln C0 0 dX5_count_0 (kk := ?_)
  refine J_ic C0 0 dX5_count_1 (kk := ?_)
  refine J_put C0 iX5 tyX5_ok nmX5 0 0 8 [modR K a (flat F) g P L (u2 M 0 2 (nI 0))] f28 dX5_count_2 (hd := rfl) (kk := ?_)
  refine J_iln C0 1 dX5_count_5 (kk := ?_)
  refine J_ic C0 0 dX5_count_6 (kk := ?_)
  refine J_bi C0 11 dX5_count_7 (kk := ?_)
  refine J_callSd C0 (mX5_in_n l K (x := x) (lo := nI 0) (hi := nI 11) hx) [modR K a (flat F) g P L (u2 M 0 2 (nI 0))] [modR K a (flat F) g P L (u2 M 0 2 (nI 0))] gX5_count_X5_in dX5_count_9 3 (kk := ?_)
  show J G _ _ _ _ _ [.int (nI 0)]
  refine J_ifeqN C0 23 (by omega) dX5_count_12 (kt := fun c1 => ?_) (kf := fun c1 => ?_)
  · refine J_aln C0 0 dX5_count_23 (kk := ?_)
    refine J_ic C0 1 dX5_count_24 (kk := ?_)
    refine J_callVd C0 (mX5_fails l K a F g P L (u2 M 0 2 (nI 0)) (nI 1)) [] [modR K a (flat F) g P L (u2 (u2 M 0 2 (nI 0)) 0 2 (nI 1))] gX5_count_X5_fails dX5_count_25 1 0 (kk := ?_)
    show J G _ _ _ _ _ [.int (nI 0)]
    exact J_iret C0 hF dX5_count_28 ⟨rfl, rfl⟩
  · exfalso; omega

abbrev rmX5_setting : Room := { frames := 1, cells := 0, slots := 0, locals := 22 }
set_option maxHeartbeats 4000000 in
set_option maxRecDepth 100000 in
theorem mX5_setting (l : Launch) (K : KT) (a : Nat → Nat) (F : FF) (g P L : Nat → Int32) (M : FF) {c : Nat} (hc3 : c < 3) : Ct l K yX5_setting wsX5_setting rmX5_setting [.ref (a 0), .int (nI c)] [modR K a (flat F) g P L M] (some (.int (F 1 c))) [modR K a (flat F) g P L (u2 M 0 2 (nI 0))] := by
  refine CtP_of (cc := cX5_setting) (nL := 2) (rt := some .int) (own := RX5) (lv0 := [(0, .ref (a 0)), (1, .int (nI c))]) (by decide) rfl (Nat.le_of_ble_eq_true rfl) rfl rfl ?_
  intro G C0 hF _
  have f28 : Cond.fieldLink RX5 28 "CorkPermitsModel" "thrown" "I" ∈ wsX5_setting := by decide +kernel
  have iX5 : ∀ w ∈ u_ws RX5 TX5 13, w ∈ wsX5_setting := by decide +kernel
  have f7 : Cond.fieldLink RX5 7 "CorkPermitsModel" "s" "[I" ∈ wsX5_setting := by decide +kernel
  refine J_aln C0 0 dX5_setting_0 (kk := ?_)
  refine J_ic C0 0 dX5_setting_1 (kk := ?_)
  refine J_put C0 iX5 tyX5_ok nmX5 0 0 8 [modR K a (flat F) g P L (u2 M 0 2 (nI 0))] f28 dX5_setting_2 (hd := rfl) (kk := ?_)
  refine J_iln C0 1 dX5_setting_5 (kk := ?_)
  refine J_ic C0 0 dX5_setting_6 (kk := ?_)
  refine J_ic C0 2 dX5_setting_7 (kk := ?_)
  refine J_callSd C0 (mX5_in_y l K (x := nI c) (lo := nI 0) (hi := nI 2) (inN_y (v := c) (lo := 0) (hi := 2) (by omega) (by omega) (by omega)).1 (inN_y (v := c) (lo := 0) (hi := 2) (by omega) (by omega) (by omega)).2) [modR K a (flat F) g P L (u2 M 0 2 (nI 0))] [modR K a (flat F) g P L (u2 M 0 2 (nI 0))] gX5_setting_X5_in dX5_setting_8 3 (kk := ?_)
  show J G _ _ _ _ _ [.int (nI 1)]
  refine J_ifeqN C0 25 (by omega) dX5_setting_11 (kt := fun c1 => ?_) (kf := fun c1 => ?_)
  · exfalso; omega
  · refine J_aln C0 0 dX5_setting_14 (kk := ?_)
    refine J_get C0 iX5 0 0 0 f7 dX5_setting_15 (kk := ?_)
    refine J_ic C0 5 dX5_setting_18 (kk := ?_)
    refine J_iln C0 1 dX5_setting_19 (kk := ?_)
    refine J_iaddN C0 dX5_setting_20 ?_
    refine J_iald C0 0 1 283 dX5_setting_21 (by omega) (v := (F 1 c)) (hv := (flat_1 F (j := 5 + c) (c := c) (by omega) (by omega)).trans rfl) (kk := ?_)
    refine J_goto C0 30 dX5_setting_22 (kk := ?_)
    exact J_iret C0 hF dX5_setting_30 ⟨rfl, rfl⟩

set_option maxHeartbeats 4000000 in
set_option maxRecDepth 100000 in
theorem mX5_setting_no (l : Launch) (K : KT) (a : Nat → Nat) (F : FF) (g P L : Nat → Int32) (M : FF) {x : Int32} (hx : ¬ (¬ x < nI 0 ∧ ¬ nI 2 < x)) : Ct l K yX5_setting wsX5_setting rmX5_setting [.ref (a 0), .int x] [modR K a (flat F) g P L M] (some (.int (nI 0))) [modR K a (flat F) g P L (u2 (u2 M 0 2 (nI 0)) 0 2 (nI 1))] := by
  refine CtP_of (cc := cX5_setting) (nL := 2) (rt := some .int) (own := RX5) (lv0 := [(0, .ref (a 0)), (1, .int x)]) (by decide) rfl (Nat.le_of_ble_eq_true rfl) rfl rfl ?_
  intro G C0 hF _
  have f28 : Cond.fieldLink RX5 28 "CorkPermitsModel" "thrown" "I" ∈ wsX5_setting := by decide +kernel
  have iX5 : ∀ w ∈ u_ws RX5 TX5 13, w ∈ wsX5_setting := by decide +kernel
  refine J_aln C0 0 dX5_setting_0 (kk := ?_)
  refine J_ic C0 0 dX5_setting_1 (kk := ?_)
  refine J_put C0 iX5 tyX5_ok nmX5 0 0 8 [modR K a (flat F) g P L (u2 M 0 2 (nI 0))] f28 dX5_setting_2 (hd := rfl) (kk := ?_)
  refine J_iln C0 1 dX5_setting_5 (kk := ?_)
  refine J_ic C0 0 dX5_setting_6 (kk := ?_)
  refine J_ic C0 2 dX5_setting_7 (kk := ?_)
  refine J_callSd C0 (mX5_in_n l K (x := x) (lo := nI 0) (hi := nI 2) hx) [modR K a (flat F) g P L (u2 M 0 2 (nI 0))] [modR K a (flat F) g P L (u2 M 0 2 (nI 0))] gX5_setting_X5_in dX5_setting_8 3 (kk := ?_)
  show J G _ _ _ _ _ [.int (nI 0)]
  refine J_ifeqN C0 25 (by omega) dX5_setting_11 (kt := fun c1 => ?_) (kf := fun c1 => ?_)
  · refine J_aln C0 0 dX5_setting_25 (kk := ?_)
    refine J_ic C0 1 dX5_setting_26 (kk := ?_)
    refine J_callVd C0 (mX5_fails l K a F g P L (u2 M 0 2 (nI 0)) (nI 1)) [] [modR K a (flat F) g P L (u2 (u2 M 0 2 (nI 0)) 0 2 (nI 1))] gX5_setting_X5_fails dX5_setting_27 1 0 (kk := ?_)
    show J G _ _ _ _ _ [.int (nI 0)]
    exact J_iret C0 hF dX5_setting_30 ⟨rfl, rfl⟩
  · exfalso; omega

abbrev rmX5_passed : Room := { frames := 8, cells := 0, slots := 0, locals := 177 }
set_option maxHeartbeats 4000000 in
set_option maxRecDepth 100000 in
theorem mX5_passed_0 (l : Launch) (K : KT) (a : Nat → Nat) (F : FF) (g P L : Nat → Int32) (M : FF) {B hn n : Nat} {N : Nat → Nat → Nat} (hv : InvN B F hn n N) {t : Nat} (ht : t ≤ 100) (hB : B + 2000 < 2 ^ 30) : Ct l K yX5_passed wsX5_passed rmX5_passed [.ref (a 0), .int (nI t), .int (nI 0)] [modR K a (flat F) g P L M] (some (.int (foreC F (ticksC t F) 0))) [modR K a (flat F) (cpR (flat F) g 0 0) P L M] := by
  refine CtP_of (cc := cX5_passed) (nL := 6) (rt := some .int) (own := RX5) (lv0 := [(0, .ref (a 0)), (1, .int (nI t)), (2, .int (nI 0))]) (by decide) rfl (Nat.le_of_ble_eq_true rfl) rfl rfl ?_
  intro G C0 hF _
  obtain ⟨n2, N2, hv2⟩ := InvN.ticks t B hv (by omega)
  have f7 : Cond.fieldLink RX5 7 "CorkPermitsModel" "s" "[I" ∈ wsX5_passed := by decide +kernel
  have iX5 : ∀ w ∈ u_ws RX5 TX5 13, w ∈ wsX5_passed := by decide +kernel
  have f13 : Cond.fieldLink RX5 13 "CorkPermitsModel" "aside" "[I" ∈ wsX5_passed := by decide +kernel
  refine J_aln C0 0 dX5_passed_0 (kk := ?_)
  refine J_get C0 iX5 0 0 0 f7 dX5_passed_1 (kk := ?_)
  refine J_ic C0 0 dX5_passed_4 (kk := ?_)
  refine J_aln C0 0 dX5_passed_5 (kk := ?_)
  refine J_get C0 iX5 0 0 1 f13 dX5_passed_6 (kk := ?_)
  refine J_ic C0 0 dX5_passed_9 (kk := ?_)
  refine J_callSd C0 (cp_SG l K a F g P L M) [] [modR K a (flat F) (cpR (flat F) g 0 0) P L M] gX5_passed_X5_copies dX5_passed_10 4 (kk := ?_)
  show J G _ _ _ _ _ []
  refine J_aln C0 0 dX5_passed_13 (kk := ?_)
  refine J_ic C0 3 dX5_passed_14 (kk := ?_)
  refine J_callVd C0 (mX5_ofKinds_3 l K a F (cpR (flat F) g 0 0) P L M) [] [modR K a (flat F) (cpR (flat F) g 0 0) P L M] gX5_passed_X5_ofKinds dX5_passed_15 1 0 (kk := ?_)
  show J G _ _ _ _ _ [.int (sumS (F 5) 3)]
  refine J_isn C0 [(3, .int (sumS (F 5) 3)), (0, .ref (a 0)), (1, .int (nI t)), (2, .int (nI 0))] dX5_passed_18 (kk := ?_)
  refine J_aln C0 1 dX5_passed_19 (kk := ?_)
  refine J_iln C0 2 dX5_passed_20 (kk := ?_)
  refine J_callVd C0 (mX5_ticks l K a F (cpR (flat F) g 0 0) P L M hv (t := t) (by omega) (by omega)) [] [modR K a (flat (ticksC t F)) (cpR (flat F) g 0 0) P L M] gX5_passed_X5_ticks dX5_passed_21 1 0 (kk := ?_)
  show J G _ _ _ _ _ [.int (sumS (ticksC t F 10) 12 - sumS (F 10) 12)]
  refine J_is C0 [(4, .int (sumS (ticksC t F 10) 12 - sumS (F 10) 12)), (3, .int (sumS (F 5) 3)), (0, .ref (a 0)), (1, .int (nI t)), (2, .int (nI 0))] dX5_passed_24 (kk := ?_)
  refine J_iln C0 4 dX5_passed_26 (kk := ?_)
  refine J_ifneN C0 35 (by omega) dX5_passed_27 (kt := fun c1 => ?_) (kf := fun c1 => ?_)
  · exfalso; omega
  · refine J_il C0 0 dX5_passed_30 (kk := ?_)
    refine J_goto C0 76 dX5_passed_32 (kk := ?_)
    refine J_is C0 [(5, .int (sumS (ticksC t F 10) 12 - sumS (F 10) 12)), (4, .int (sumS (ticksC t F 10) 12 - sumS (F 10) 12)), (3, .int (sumS (F 5) 3)), (0, .ref (a 0)), (1, .int (nI t)), (2, .int (nI 0))] dX5_passed_76 (kk := ?_)
    refine J_aln C0 3 dX5_passed_78 (kk := ?_)
    refine J_get C0 iX5 0 0 1 f13 dX5_passed_79 (kk := ?_)
    refine J_ic C0 0 dX5_passed_82 (kk := ?_)
    refine J_aln C0 3 dX5_passed_83 (kk := ?_)
    refine J_get C0 iX5 0 0 0 f7 dX5_passed_84 (kk := ?_)
    refine J_ic C0 0 dX5_passed_87 (kk := ?_)
    refine J_callSd C0 (cp_GS l K a (ticksC t F) g P L M (D := F)) [] [modR K a (flat F) (cpR (flat F) g 0 0) P L M] gX5_passed_X5_copies dX5_passed_88 4 (kk := ?_)
    show J G _ _ _ _ _ []
    refine J_il C0 0 dX5_passed_91 (kk := ?_)
    exact J_iret C0 hF dX5_passed_93 ⟨rfl, rfl⟩

set_option maxHeartbeats 4000000 in
set_option maxRecDepth 100000 in
theorem mX5_passed_1 (l : Launch) (K : KT) (a : Nat → Nat) (F : FF) (g P L : Nat → Int32) (M : FF) {B hn n : Nat} {N : Nat → Nat → Nat} (hv : InvN B F hn n N) {t : Nat} (ht : t ≤ 100) (hB : B + 2000 < 2 ^ 30) : Ct l K yX5_passed wsX5_passed rmX5_passed [.ref (a 0), .int (nI t), .int (nI 1)] [modR K a (flat F) g P L M] (some (.int (foreC F (ticksC t F) 1))) [modR K a (flat F) (cpR (flat F) g 0 0) P L M] := by
  refine CtP_of (cc := cX5_passed) (nL := 6) (rt := some .int) (own := RX5) (lv0 := [(0, .ref (a 0)), (1, .int (nI t)), (2, .int (nI 1))]) (by decide) rfl (Nat.le_of_ble_eq_true rfl) rfl rfl ?_
  intro G C0 hF _
  obtain ⟨n2, N2, hv2⟩ := InvN.ticks t B hv (by omega)
  have f7 : Cond.fieldLink RX5 7 "CorkPermitsModel" "s" "[I" ∈ wsX5_passed := by decide +kernel
  have iX5 : ∀ w ∈ u_ws RX5 TX5 13, w ∈ wsX5_passed := by decide +kernel
  have f13 : Cond.fieldLink RX5 13 "CorkPermitsModel" "aside" "[I" ∈ wsX5_passed := by decide +kernel
  refine J_aln C0 0 dX5_passed_0 (kk := ?_)
  refine J_get C0 iX5 0 0 0 f7 dX5_passed_1 (kk := ?_)
  refine J_ic C0 0 dX5_passed_4 (kk := ?_)
  refine J_aln C0 0 dX5_passed_5 (kk := ?_)
  refine J_get C0 iX5 0 0 1 f13 dX5_passed_6 (kk := ?_)
  refine J_ic C0 0 dX5_passed_9 (kk := ?_)
  refine J_callSd C0 (cp_SG l K a F g P L M) [] [modR K a (flat F) (cpR (flat F) g 0 0) P L M] gX5_passed_X5_copies dX5_passed_10 4 (kk := ?_)
  show J G _ _ _ _ _ []
  refine J_aln C0 0 dX5_passed_13 (kk := ?_)
  refine J_ic C0 3 dX5_passed_14 (kk := ?_)
  refine J_callVd C0 (mX5_ofKinds_3 l K a F (cpR (flat F) g 0 0) P L M) [] [modR K a (flat F) (cpR (flat F) g 0 0) P L M] gX5_passed_X5_ofKinds dX5_passed_15 1 0 (kk := ?_)
  show J G _ _ _ _ _ [.int (sumS (F 5) 3)]
  refine J_isn C0 [(3, .int (sumS (F 5) 3)), (0, .ref (a 0)), (1, .int (nI t)), (2, .int (nI 1))] dX5_passed_18 (kk := ?_)
  refine J_aln C0 1 dX5_passed_19 (kk := ?_)
  refine J_iln C0 2 dX5_passed_20 (kk := ?_)
  refine J_callVd C0 (mX5_ticks l K a F (cpR (flat F) g 0 0) P L M hv (t := t) (by omega) (by omega)) [] [modR K a (flat (ticksC t F)) (cpR (flat F) g 0 0) P L M] gX5_passed_X5_ticks dX5_passed_21 1 0 (kk := ?_)
  show J G _ _ _ _ _ [.int (sumS (ticksC t F 10) 12 - sumS (F 10) 12)]
  refine J_is C0 [(4, .int (sumS (ticksC t F 10) 12 - sumS (F 10) 12)), (3, .int (sumS (F 5) 3)), (0, .ref (a 0)), (1, .int (nI t)), (2, .int (nI 1))] dX5_passed_24 (kk := ?_)
  refine J_iln C0 4 dX5_passed_26 (kk := ?_)
  refine J_ifneN C0 35 (by omega) dX5_passed_27 (kt := fun c1 => ?_) (kf := fun c1 => ?_)
  · refine J_iln C0 4 dX5_passed_35 (kk := ?_)
    refine J_ic C0 1 dX5_passed_36 (kk := ?_)
    refine J_icmpneN C0 50 (by omega) (by omega) dX5_passed_37 (kt := fun c2 => ?_) (kf := fun c2 => ?_)
    · exfalso; omega
    · refine J_aln C0 2 dX5_passed_40 (kk := ?_)
      refine J_ic C0 3 dX5_passed_41 (kk := ?_)
      refine J_callVd C0 (mX5_ofKinds_3 l K a (ticksC t F) (cpR (flat F) g 0 0) P L M) [] [modR K a (flat (ticksC t F)) (cpR (flat F) g 0 0) P L M] gX5_passed_X5_ofKinds dX5_passed_42 1 0 (kk := ?_)
      show J G _ _ _ _ _ [.int (sumS ((ticksC t F) 5) 3)]
      refine J_iln C0 1 dX5_passed_45 (kk := ?_)
      refine J_isub C0 dX5_passed_46 ?_
      refine J_goto C0 76 dX5_passed_47 (kk := ?_)
      refine J_is C0 [(5, .int ((sumS ((ticksC t F) 5) 3) - (sumS (F 5) 3))), (4, .int (sumS (ticksC t F 10) 12 - sumS (F 10) 12)), (3, .int (sumS (F 5) 3)), (0, .ref (a 0)), (1, .int (nI t)), (2, .int (nI 1))] dX5_passed_76 (kk := ?_)
      refine J_aln C0 3 dX5_passed_78 (kk := ?_)
      refine J_get C0 iX5 0 0 1 f13 dX5_passed_79 (kk := ?_)
      refine J_ic C0 0 dX5_passed_82 (kk := ?_)
      refine J_aln C0 3 dX5_passed_83 (kk := ?_)
      refine J_get C0 iX5 0 0 0 f7 dX5_passed_84 (kk := ?_)
      refine J_ic C0 0 dX5_passed_87 (kk := ?_)
      refine J_callSd C0 (cp_GS l K a (ticksC t F) g P L M (D := F)) [] [modR K a (flat F) (cpR (flat F) g 0 0) P L M] gX5_passed_X5_copies dX5_passed_88 4 (kk := ?_)
      show J G _ _ _ _ _ []
      refine J_il C0 0 dX5_passed_91 (kk := ?_)
      exact J_iret C0 hF dX5_passed_93 ⟨rfl, rfl⟩
  · exfalso; omega

set_option maxHeartbeats 4000000 in
set_option maxRecDepth 100000 in
theorem mX5_passed_2 (l : Launch) (K : KT) (a : Nat → Nat) (F : FF) (g P L : Nat → Int32) (M : FF) {B hn n : Nat} {N : Nat → Nat → Nat} (hv : InvN B F hn n N) {t : Nat} (ht : t ≤ 100) (hB : B + 2000 < 2 ^ 30) : Ct l K yX5_passed wsX5_passed rmX5_passed [.ref (a 0), .int (nI t), .int (nI 2)] [modR K a (flat F) g P L M] (some (.int (foreC F (ticksC t F) 2))) [modR K a (flat F) (cpR (flat F) g 0 0) P L M] := by
  refine CtP_of (cc := cX5_passed) (nL := 6) (rt := some .int) (own := RX5) (lv0 := [(0, .ref (a 0)), (1, .int (nI t)), (2, .int (nI 2))]) (by decide) rfl (Nat.le_of_ble_eq_true rfl) rfl rfl ?_
  intro G C0 hF _
  obtain ⟨n2, N2, hv2⟩ := InvN.ticks t B hv (by omega)
  have f7 : Cond.fieldLink RX5 7 "CorkPermitsModel" "s" "[I" ∈ wsX5_passed := by decide +kernel
  have iX5 : ∀ w ∈ u_ws RX5 TX5 13, w ∈ wsX5_passed := by decide +kernel
  have f13 : Cond.fieldLink RX5 13 "CorkPermitsModel" "aside" "[I" ∈ wsX5_passed := by decide +kernel
  refine J_aln C0 0 dX5_passed_0 (kk := ?_)
  refine J_get C0 iX5 0 0 0 f7 dX5_passed_1 (kk := ?_)
  refine J_ic C0 0 dX5_passed_4 (kk := ?_)
  refine J_aln C0 0 dX5_passed_5 (kk := ?_)
  refine J_get C0 iX5 0 0 1 f13 dX5_passed_6 (kk := ?_)
  refine J_ic C0 0 dX5_passed_9 (kk := ?_)
  refine J_callSd C0 (cp_SG l K a F g P L M) [] [modR K a (flat F) (cpR (flat F) g 0 0) P L M] gX5_passed_X5_copies dX5_passed_10 4 (kk := ?_)
  show J G _ _ _ _ _ []
  refine J_aln C0 0 dX5_passed_13 (kk := ?_)
  refine J_ic C0 3 dX5_passed_14 (kk := ?_)
  refine J_callVd C0 (mX5_ofKinds_3 l K a F (cpR (flat F) g 0 0) P L M) [] [modR K a (flat F) (cpR (flat F) g 0 0) P L M] gX5_passed_X5_ofKinds dX5_passed_15 1 0 (kk := ?_)
  show J G _ _ _ _ _ [.int (sumS (F 5) 3)]
  refine J_isn C0 [(3, .int (sumS (F 5) 3)), (0, .ref (a 0)), (1, .int (nI t)), (2, .int (nI 2))] dX5_passed_18 (kk := ?_)
  refine J_aln C0 1 dX5_passed_19 (kk := ?_)
  refine J_iln C0 2 dX5_passed_20 (kk := ?_)
  refine J_callVd C0 (mX5_ticks l K a F (cpR (flat F) g 0 0) P L M hv (t := t) (by omega) (by omega)) [] [modR K a (flat (ticksC t F)) (cpR (flat F) g 0 0) P L M] gX5_passed_X5_ticks dX5_passed_21 1 0 (kk := ?_)
  show J G _ _ _ _ _ [.int (sumS (ticksC t F 10) 12 - sumS (F 10) 12)]
  refine J_is C0 [(4, .int (sumS (ticksC t F 10) 12 - sumS (F 10) 12)), (3, .int (sumS (F 5) 3)), (0, .ref (a 0)), (1, .int (nI t)), (2, .int (nI 2))] dX5_passed_24 (kk := ?_)
  refine J_iln C0 4 dX5_passed_26 (kk := ?_)
  refine J_ifneN C0 35 (by omega) dX5_passed_27 (kt := fun c1 => ?_) (kf := fun c1 => ?_)
  · refine J_iln C0 4 dX5_passed_35 (kk := ?_)
    refine J_ic C0 1 dX5_passed_36 (kk := ?_)
    refine J_icmpneN C0 50 (by omega) (by omega) dX5_passed_37 (kt := fun c2 => ?_) (kf := fun c2 => ?_)
    · refine J_iln C0 4 dX5_passed_50 (kk := ?_)
      refine J_ic C0 2 dX5_passed_51 (kk := ?_)
      refine J_icmpneN C0 63 (by omega) (by omega) dX5_passed_52 (kt := fun c3 => ?_) (kf := fun c3 => ?_)
      · exfalso; omega
      · refine J_aln C0 2 dX5_passed_55 (kk := ?_)
        refine J_ic C0 4 dX5_passed_56 (kk := ?_)
        refine J_callVd C0 (mX5_ofPairs l K a (ticksC t F) (cpR (flat F) g 0 0) P L M hv2 (w := 4) (by omega)) [] [modR K a (flat (ticksC t F)) (cpR (flat F) g 0 0) P L M] gX5_passed_X5_ofPairs dX5_passed_57 1 0 (kk := ?_)
        show J G _ _ _ _ _ [.int (sumS ((ticksC t F) 11) 12)]
        refine J_goto C0 76 dX5_passed_60 (kk := ?_)
        refine J_is C0 [(5, .int (sumS ((ticksC t F) 11) 12)), (4, .int (sumS (ticksC t F 10) 12 - sumS (F 10) 12)), (3, .int (sumS (F 5) 3)), (0, .ref (a 0)), (1, .int (nI t)), (2, .int (nI 2))] dX5_passed_76 (kk := ?_)
        refine J_aln C0 3 dX5_passed_78 (kk := ?_)
        refine J_get C0 iX5 0 0 1 f13 dX5_passed_79 (kk := ?_)
        refine J_ic C0 0 dX5_passed_82 (kk := ?_)
        refine J_aln C0 3 dX5_passed_83 (kk := ?_)
        refine J_get C0 iX5 0 0 0 f7 dX5_passed_84 (kk := ?_)
        refine J_ic C0 0 dX5_passed_87 (kk := ?_)
        refine J_callSd C0 (cp_GS l K a (ticksC t F) g P L M (D := F)) [] [modR K a (flat F) (cpR (flat F) g 0 0) P L M] gX5_passed_X5_copies dX5_passed_88 4 (kk := ?_)
        show J G _ _ _ _ _ []
        refine J_il C0 0 dX5_passed_91 (kk := ?_)
        exact J_iret C0 hF dX5_passed_93 ⟨rfl, rfl⟩
    · exfalso; omega
  · exfalso; omega

set_option maxHeartbeats 4000000 in
set_option maxRecDepth 100000 in
theorem mX5_passed_3 (l : Launch) (K : KT) (a : Nat → Nat) (F : FF) (g P L : Nat → Int32) (M : FF) {B hn n : Nat} {N : Nat → Nat → Nat} (hv : InvN B F hn n N) {t : Nat} (ht : t ≤ 100) (hB : B + 2000 < 2 ^ 30) : Ct l K yX5_passed wsX5_passed rmX5_passed [.ref (a 0), .int (nI t), .int (nI 3)] [modR K a (flat F) g P L M] (some (.int (foreC F (ticksC t F) 3))) [modR K a (flat F) (cpR (flat F) g 0 0) P L M] := by
  refine CtP_of (cc := cX5_passed) (nL := 6) (rt := some .int) (own := RX5) (lv0 := [(0, .ref (a 0)), (1, .int (nI t)), (2, .int (nI 3))]) (by decide) rfl (Nat.le_of_ble_eq_true rfl) rfl rfl ?_
  intro G C0 hF _
  obtain ⟨n2, N2, hv2⟩ := InvN.ticks t B hv (by omega)
  have f7 : Cond.fieldLink RX5 7 "CorkPermitsModel" "s" "[I" ∈ wsX5_passed := by decide +kernel
  have iX5 : ∀ w ∈ u_ws RX5 TX5 13, w ∈ wsX5_passed := by decide +kernel
  have f13 : Cond.fieldLink RX5 13 "CorkPermitsModel" "aside" "[I" ∈ wsX5_passed := by decide +kernel
  refine J_aln C0 0 dX5_passed_0 (kk := ?_)
  refine J_get C0 iX5 0 0 0 f7 dX5_passed_1 (kk := ?_)
  refine J_ic C0 0 dX5_passed_4 (kk := ?_)
  refine J_aln C0 0 dX5_passed_5 (kk := ?_)
  refine J_get C0 iX5 0 0 1 f13 dX5_passed_6 (kk := ?_)
  refine J_ic C0 0 dX5_passed_9 (kk := ?_)
  refine J_callSd C0 (cp_SG l K a F g P L M) [] [modR K a (flat F) (cpR (flat F) g 0 0) P L M] gX5_passed_X5_copies dX5_passed_10 4 (kk := ?_)
  show J G _ _ _ _ _ []
  refine J_aln C0 0 dX5_passed_13 (kk := ?_)
  refine J_ic C0 3 dX5_passed_14 (kk := ?_)
  refine J_callVd C0 (mX5_ofKinds_3 l K a F (cpR (flat F) g 0 0) P L M) [] [modR K a (flat F) (cpR (flat F) g 0 0) P L M] gX5_passed_X5_ofKinds dX5_passed_15 1 0 (kk := ?_)
  show J G _ _ _ _ _ [.int (sumS (F 5) 3)]
  refine J_isn C0 [(3, .int (sumS (F 5) 3)), (0, .ref (a 0)), (1, .int (nI t)), (2, .int (nI 3))] dX5_passed_18 (kk := ?_)
  refine J_aln C0 1 dX5_passed_19 (kk := ?_)
  refine J_iln C0 2 dX5_passed_20 (kk := ?_)
  refine J_callVd C0 (mX5_ticks l K a F (cpR (flat F) g 0 0) P L M hv (t := t) (by omega) (by omega)) [] [modR K a (flat (ticksC t F)) (cpR (flat F) g 0 0) P L M] gX5_passed_X5_ticks dX5_passed_21 1 0 (kk := ?_)
  show J G _ _ _ _ _ [.int (sumS (ticksC t F 10) 12 - sumS (F 10) 12)]
  refine J_is C0 [(4, .int (sumS (ticksC t F 10) 12 - sumS (F 10) 12)), (3, .int (sumS (F 5) 3)), (0, .ref (a 0)), (1, .int (nI t)), (2, .int (nI 3))] dX5_passed_24 (kk := ?_)
  refine J_iln C0 4 dX5_passed_26 (kk := ?_)
  refine J_ifneN C0 35 (by omega) dX5_passed_27 (kt := fun c1 => ?_) (kf := fun c1 => ?_)
  · refine J_iln C0 4 dX5_passed_35 (kk := ?_)
    refine J_ic C0 1 dX5_passed_36 (kk := ?_)
    refine J_icmpneN C0 50 (by omega) (by omega) dX5_passed_37 (kt := fun c2 => ?_) (kf := fun c2 => ?_)
    · refine J_iln C0 4 dX5_passed_50 (kk := ?_)
      refine J_ic C0 2 dX5_passed_51 (kk := ?_)
      refine J_icmpneN C0 63 (by omega) (by omega) dX5_passed_52 (kt := fun c3 => ?_) (kf := fun c3 => ?_)
      · refine J_aln C0 2 dX5_passed_63 (kk := ?_)
        refine J_get C0 iX5 0 0 0 f7 dX5_passed_64 (kk := ?_)
        refine J_ic C0 3 dX5_passed_67 (kk := ?_)
        refine J_iald C0 0 1 283 dX5_passed_68 (by omega) (v := ((ticksC t F) 0 3)) (hv := (flat_0 (ticksC t F) (j := 3) (by decide)).trans rfl) (kk := ?_)
        refine J_aln C0 2 dX5_passed_69 (kk := ?_)
        refine J_get C0 iX5 0 0 1 f13 dX5_passed_70 (kk := ?_)
        refine J_ic C0 3 dX5_passed_73 (kk := ?_)
        refine J_iald C0 0 2 283 dX5_passed_74 (by omega) (kk := ?_)
        refine J_isub C0 dX5_passed_75 ?_
        refine J_is C0 [(5, .int (((ticksC t F) 0 3) - ((cpR (flat F) g 0 0) 3))), (4, .int (sumS (ticksC t F 10) 12 - sumS (F 10) 12)), (3, .int (sumS (F 5) 3)), (0, .ref (a 0)), (1, .int (nI t)), (2, .int (nI 3))] dX5_passed_76 (kk := ?_)
        refine J_aln C0 3 dX5_passed_78 (kk := ?_)
        refine J_get C0 iX5 0 0 1 f13 dX5_passed_79 (kk := ?_)
        refine J_ic C0 0 dX5_passed_82 (kk := ?_)
        refine J_aln C0 3 dX5_passed_83 (kk := ?_)
        refine J_get C0 iX5 0 0 0 f7 dX5_passed_84 (kk := ?_)
        refine J_ic C0 0 dX5_passed_87 (kk := ?_)
        refine J_callSd C0 (cp_GS l K a (ticksC t F) g P L M (D := F)) [] [modR K a (flat F) (cpR (flat F) g 0 0) P L M] gX5_passed_X5_copies dX5_passed_88 4 (kk := ?_)
        show J G _ _ _ _ _ []
        refine J_il C0 0 dX5_passed_91 (kk := ?_)
        exact J_iret C0 hF dX5_passed_93 ⟨rfl, rfl⟩
      · exfalso; omega
    · exfalso; omega
  · exfalso; omega

theorem mX5_passed (l : Launch) (K : KT) (a : Nat → Nat) (F : FF) (g P L : Nat → Int32) (M : FF) {B hn n : Nat} {N : Nat → Nat → Nat} (hv : InvN B F hn n N) {t : Nat} (ht : t ≤ 100) (hB : B + 2000 < 2 ^ 30) {w : Nat} (hw : w < 4) : Ct l K yX5_passed wsX5_passed rmX5_passed [.ref (a 0), .int (nI t), .int (nI w)] [modR K a (flat F) g P L M] (some (.int (foreC F (ticksC t F) w))) [modR K a (flat F) (cpR (flat F) g 0 0) P L M] := by
  rcases (show w = 0 ∨ w = 1 ∨ w = 2 ∨ w = 3 by omega) with rfl | rfl | rfl | rfl
  · exact mX5_passed_0 l K a F g P L M hv ht hB
  · exact mX5_passed_1 l K a F g P L M hv ht hB
  · exact mX5_passed_2 l K a F g P L M hv ht hB
  · exact mX5_passed_3 l K a F g P L M hv ht hB
abbrev rmX5_ifPassed : Room := { frames := 9, cells := 0, slots := 0, locals := 202 }
set_option maxHeartbeats 4000000 in
set_option maxRecDepth 100000 in
theorem mX5_ifPassed (l : Launch) (K : KT) (a : Nat → Nat) (F : FF) (g P L : Nat → Int32) (M : FF) {B hn n : Nat} {N : Nat → Nat → Nat} (hv : InvN B F hn n N) {t : Nat} (ht1 : 1 ≤ t) (ht : t ≤ 60) (hB : B + 2000 < 2 ^ 30) {w : Nat} (hw : w < 4) : Ct l K yX5_ifPassed wsX5_ifPassed rmX5_ifPassed [.ref (a 0), .int (nI t), .int (nI w)] [modR K a (flat F) g P L M] (some (.int (foreC F (ticksC t F) w))) [modR K a (flat F) (cpR (flat F) g 0 0) P L (u2 M 0 2 (nI 0))] := by
  refine CtP_of (cc := cX5_ifPassed) (nL := 3) (rt := some .int) (own := RX5) (lv0 := [(0, .ref (a 0)), (1, .int (nI t)), (2, .int (nI w))]) (by decide) rfl (Nat.le_of_ble_eq_true rfl) rfl rfl ?_
  intro G C0 hF _
  have f28 : Cond.fieldLink RX5 28 "CorkPermitsModel" "thrown" "I" ∈ wsX5_ifPassed := by decide +kernel
  have iX5 : ∀ w ∈ u_ws RX5 TX5 13, w ∈ wsX5_ifPassed := by decide +kernel
  refine J_aln C0 0 dX5_ifPassed_0 (kk := ?_)
  refine J_ic C0 0 dX5_ifPassed_1 (kk := ?_)
  refine J_put C0 iX5 tyX5_ok nmX5 0 0 8 [modR K a (flat F) g P L (u2 M 0 2 (nI 0))] f28 dX5_ifPassed_2 (hd := rfl) (kk := ?_)
  refine J_iln C0 1 dX5_ifPassed_5 (kk := ?_)
  refine J_ic C0 1 dX5_ifPassed_6 (kk := ?_)
  refine J_bi C0 60 dX5_ifPassed_7 (kk := ?_)
  refine J_callSd C0 (mX5_in_y l K (x := nI t) (lo := nI 1) (hi := nI 60) (inN_y (v := t) (lo := 1) (hi := 60) (by omega) (by omega) (by omega)).1 (inN_y (v := t) (lo := 1) (hi := 60) (by omega) (by omega) (by omega)).2) [modR K a (flat F) g P L (u2 M 0 2 (nI 0))] [modR K a (flat F) g P L (u2 M 0 2 (nI 0))] gX5_ifPassed_X5_in dX5_ifPassed_9 3 (kk := ?_)
  show J G _ _ _ _ _ [.int (nI 1)]
  refine J_ifeqN C0 33 (by omega) dX5_ifPassed_12 (kt := fun c1 => ?_) (kf := fun c1 => ?_)
  · exfalso; omega
  · refine J_iln C0 2 dX5_ifPassed_15 (kk := ?_)
    refine J_ic C0 0 dX5_ifPassed_16 (kk := ?_)
    refine J_ic C0 3 dX5_ifPassed_17 (kk := ?_)
    refine J_callSd C0 (mX5_in_y l K (x := nI w) (lo := nI 0) (hi := nI 3) (inN_y (v := w) (lo := 0) (hi := 3) (by omega) (by omega) (by omega)).1 (inN_y (v := w) (lo := 0) (hi := 3) (by omega) (by omega) (by omega)).2) [modR K a (flat F) g P L (u2 M 0 2 (nI 0))] [modR K a (flat F) g P L (u2 M 0 2 (nI 0))] gX5_ifPassed_X5_in dX5_ifPassed_18 3 (kk := ?_)
    show J G _ _ _ _ _ [.int (nI 1)]
    refine J_ifeqN C0 33 (by omega) dX5_ifPassed_21 (kt := fun c2 => ?_) (kf := fun c2 => ?_)
    · exact absurd c2 c1
    · refine J_aln C0 0 dX5_ifPassed_24 (kk := ?_)
      refine J_iln C0 1 dX5_ifPassed_25 (kk := ?_)
      refine J_iln C0 2 dX5_ifPassed_26 (kk := ?_)
      refine J_callVd C0 (mX5_passed l K a F g P L (u2 M 0 2 (nI 0)) hv (t := t) (by omega) hB (w := w) (by omega)) [] [modR K a (flat F) (cpR (flat F) g 0 0) P L (u2 M 0 2 (nI 0))] gX5_ifPassed_X5_passed dX5_ifPassed_27 2 0 (kk := ?_)
      show J G _ _ _ _ _ [.int (foreC F (ticksC t F) w)]
      refine J_goto C0 38 dX5_ifPassed_30 (kk := ?_)
      exact J_iret C0 hF dX5_ifPassed_38 ⟨rfl, rfl⟩

set_option maxHeartbeats 4000000 in
set_option maxRecDepth 100000 in
theorem mX5_ifPassed_ticks (l : Launch) (K : KT) (a : Nat → Nat) (F : FF) (g P L : Nat → Int32) (M : FF) {x : Int32} (hx : ¬ (¬ x < nI 1 ∧ ¬ nI 60 < x)) (y : Int32) : Ct l K yX5_ifPassed wsX5_ifPassed rmX5_ifPassed [.ref (a 0), .int x, .int y] [modR K a (flat F) g P L M] (some (.int (nI 0))) [modR K a (flat F) g P L (u2 (u2 M 0 2 (nI 0)) 0 2 (nI 1))] := by
  refine CtP_of (cc := cX5_ifPassed) (nL := 3) (rt := some .int) (own := RX5) (lv0 := [(0, .ref (a 0)), (1, .int x), (2, .int y)]) (by decide) rfl (Nat.le_of_ble_eq_true rfl) rfl rfl ?_
  intro G C0 hF _
  have f28 : Cond.fieldLink RX5 28 "CorkPermitsModel" "thrown" "I" ∈ wsX5_ifPassed := by decide +kernel
  have iX5 : ∀ w ∈ u_ws RX5 TX5 13, w ∈ wsX5_ifPassed := by decide +kernel
  refine J_aln C0 0 dX5_ifPassed_0 (kk := ?_)
  refine J_ic C0 0 dX5_ifPassed_1 (kk := ?_)
  refine J_put C0 iX5 tyX5_ok nmX5 0 0 8 [modR K a (flat F) g P L (u2 M 0 2 (nI 0))] f28 dX5_ifPassed_2 (hd := rfl) (kk := ?_)
  refine J_iln C0 1 dX5_ifPassed_5 (kk := ?_)
  refine J_ic C0 1 dX5_ifPassed_6 (kk := ?_)
  refine J_bi C0 60 dX5_ifPassed_7 (kk := ?_)
  refine J_callSd C0 (mX5_in_n l K (x := x) (lo := nI 1) (hi := nI 60) hx) [modR K a (flat F) g P L (u2 M 0 2 (nI 0))] [modR K a (flat F) g P L (u2 M 0 2 (nI 0))] gX5_ifPassed_X5_in dX5_ifPassed_9 3 (kk := ?_)
  show J G _ _ _ _ _ [.int (nI 0)]
  refine J_ifeqN C0 33 (by omega) dX5_ifPassed_12 (kt := fun c1 => ?_) (kf := fun c1 => ?_)
  · refine J_aln C0 0 dX5_ifPassed_33 (kk := ?_)
    refine J_ic C0 1 dX5_ifPassed_34 (kk := ?_)
    refine J_callVd C0 (mX5_fails l K a F g P L (u2 M 0 2 (nI 0)) (nI 1)) [] [modR K a (flat F) g P L (u2 (u2 M 0 2 (nI 0)) 0 2 (nI 1))] gX5_ifPassed_X5_fails dX5_ifPassed_35 1 0 (kk := ?_)
    show J G _ _ _ _ _ [.int (nI 0)]
    exact J_iret C0 hF dX5_ifPassed_38 ⟨rfl, rfl⟩
  · exfalso; omega

set_option maxHeartbeats 4000000 in
set_option maxRecDepth 100000 in
theorem mX5_ifPassed_what (l : Launch) (K : KT) (a : Nat → Nat) (F : FF) (g P L : Nat → Int32) (M : FF) {t : Nat} (ht1 : 1 ≤ t) (ht : t ≤ 60) {y : Int32} (hy : ¬ (¬ y < nI 0 ∧ ¬ nI 3 < y)) : Ct l K yX5_ifPassed wsX5_ifPassed rmX5_ifPassed [.ref (a 0), .int (nI t), .int y] [modR K a (flat F) g P L M] (some (.int (nI 0))) [modR K a (flat F) g P L (u2 (u2 M 0 2 (nI 0)) 0 2 (nI 1))] := by
  refine CtP_of (cc := cX5_ifPassed) (nL := 3) (rt := some .int) (own := RX5) (lv0 := [(0, .ref (a 0)), (1, .int (nI t)), (2, .int y)]) (by decide) rfl (Nat.le_of_ble_eq_true rfl) rfl rfl ?_
  intro G C0 hF _
  have f28 : Cond.fieldLink RX5 28 "CorkPermitsModel" "thrown" "I" ∈ wsX5_ifPassed := by decide +kernel
  have iX5 : ∀ w ∈ u_ws RX5 TX5 13, w ∈ wsX5_ifPassed := by decide +kernel
  refine J_aln C0 0 dX5_ifPassed_0 (kk := ?_)
  refine J_ic C0 0 dX5_ifPassed_1 (kk := ?_)
  refine J_put C0 iX5 tyX5_ok nmX5 0 0 8 [modR K a (flat F) g P L (u2 M 0 2 (nI 0))] f28 dX5_ifPassed_2 (hd := rfl) (kk := ?_)
  refine J_iln C0 1 dX5_ifPassed_5 (kk := ?_)
  refine J_ic C0 1 dX5_ifPassed_6 (kk := ?_)
  refine J_bi C0 60 dX5_ifPassed_7 (kk := ?_)
  refine J_callSd C0 (mX5_in_y l K (x := nI t) (lo := nI 1) (hi := nI 60) (inN_y (v := t) (lo := 1) (hi := 60) (by omega) (by omega) (by omega)).1 (inN_y (v := t) (lo := 1) (hi := 60) (by omega) (by omega) (by omega)).2) [modR K a (flat F) g P L (u2 M 0 2 (nI 0))] [modR K a (flat F) g P L (u2 M 0 2 (nI 0))] gX5_ifPassed_X5_in dX5_ifPassed_9 3 (kk := ?_)
  show J G _ _ _ _ _ [.int (nI 1)]
  refine J_ifeqN C0 33 (by omega) dX5_ifPassed_12 (kt := fun c1 => ?_) (kf := fun c1 => ?_)
  · exfalso; omega
  · refine J_iln C0 2 dX5_ifPassed_15 (kk := ?_)
    refine J_ic C0 0 dX5_ifPassed_16 (kk := ?_)
    refine J_ic C0 3 dX5_ifPassed_17 (kk := ?_)
    refine J_callSd C0 (mX5_in_n l K (x := y) (lo := nI 0) (hi := nI 3) hy) [modR K a (flat F) g P L (u2 M 0 2 (nI 0))] [modR K a (flat F) g P L (u2 M 0 2 (nI 0))] gX5_ifPassed_X5_in dX5_ifPassed_18 3 (kk := ?_)
    show J G _ _ _ _ _ [.int (nI 0)]
    refine J_ifeqN C0 33 (by omega) dX5_ifPassed_21 (kt := fun c2 => ?_) (kf := fun c2 => ?_)
    · refine J_aln C0 0 dX5_ifPassed_33 (kk := ?_)
      refine J_ic C0 1 dX5_ifPassed_34 (kk := ?_)
      refine J_callVd C0 (mX5_fails l K a F g P L (u2 M 0 2 (nI 0)) (nI 1)) [] [modR K a (flat F) g P L (u2 (u2 M 0 2 (nI 0)) 0 2 (nI 1))] gX5_ifPassed_X5_fails dX5_ifPassed_35 1 0 (kk := ?_)
      show J G _ _ _ _ _ [.int (nI 0)]
      exact J_iret C0 hF dX5_ifPassed_38 ⟨rfl, rfl⟩
    · exfalso; omega

