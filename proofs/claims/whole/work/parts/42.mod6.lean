theorem CtP.mono {l : Launch} {K : KT} {y : MethodName} {ws : List Cond} {rm : Room} {as : List Value} {w0 : List va_W} {P1 P2 : Option Value → List va_W → Prop} (h : CtP l K y ws rm as w0 P1) (hP : ∀ r w, P1 r w → P2 r w) : CtP l K y ws rm as w0 P2 := by
  intro sz p e ha hc hk s m args below hf happ hpre hk2
  obtain ⟨n, o, h1, h2, h3, ⟨rv, w1, e1, hp, hr⟩, hfr⟩ := h sz p e ha hc hk s m args below hf happ hpre hk2
  exact ⟨n, o, h1, h2, h3, ⟨rv, w1, e1, hP _ _ hp, hr⟩, hfr⟩
abbrev rmX5_here : Room := { frames := 0, cells := 0, slots := 0, locals := 0 }
set_option maxHeartbeats 4000000 in
set_option maxRecDepth 100000 in
theorem mX5_here (l : Launch) (K : KT) (a : Nat → Nat) (F : FF) (g P L : Nat → Int32) (M : FF) {m s : Nat} (hm : M 0 1 = nI m) (h60 : m ≤ 60) (hs : M 0 3 = nI s) (hs2 : s < 2000) : Ct l K yX5_here wsX5_here rmX5_here [.ref (a 0)] [modR K a (flat F) g P L M] (some (.int (signS M m s))) [modR K a (flat F) g P L M] := by
  refine CtP_of (cc := cX5_here) (nL := 1) (rt := some .int) (own := RX5) (lv0 := [(0, .ref (a 0))]) (by decide) rfl (Nat.le_of_ble_eq_true rfl) rfl rfl ?_
  intro G C0 hF _
  have f137 : Cond.fieldLink RX5 137 "CorkPermitsModel" "spot" "I" ∈ wsX5_here := by decide +kernel
  have iX5 : ∀ w ∈ u_ws RX5 TX5 13, w ∈ wsX5_here := by decide +kernel
  have f134 : Cond.fieldLink RX5 134 "CorkPermitsModel" "length" "I" ∈ wsX5_here := by decide +kernel
  have f25 : Cond.fieldLink RX5 25 "CorkPermitsModel" "text" "[I" ∈ wsX5_here := by decide +kernel
  refine J_aln C0 0 dX5_here_0 (kk := ?_)
  refine J_get C0 iX5 0 0 9 f137 dX5_here_1 (v := .int (nI s)) (hv := congrArg (fun z => some (Value.int z)) hs) (kk := ?_)
  refine J_aln C0 0 dX5_here_4 (kk := ?_)
  refine J_get C0 iX5 0 0 7 f134 dX5_here_5 (v := .int (nI m)) (hv := congrArg (fun z => some (Value.int z)) hm) (kk := ?_)
  refine J_icmpgeN C0 23 (by omega) (by omega) dX5_here_8 (kt := fun c1 => ?_) (kf := fun c1 => ?_)
  · refine J_icm1 C0 dX5_here_23 ?_
    exact J_iret C0 hF dX5_here_24 ⟨by unfold signS; rw [if_neg (by omega)], rfl⟩
  · refine J_aln C0 0 dX5_here_11 (kk := ?_)
    refine J_get C0 iX5 0 0 6 f25 dX5_here_12 (kk := ?_)
    refine J_aln C0 0 dX5_here_15 (kk := ?_)
    refine J_get C0 iX5 0 0 9 f137 dX5_here_16 (v := .int (nI s)) (hv := congrArg (fun z => some (Value.int z)) hs) (kk := ?_)
    refine J_iald C0 0 6 60 dX5_here_19 (by omega) (kk := ?_)
    refine J_goto C0 24 dX5_here_20 (kk := ?_)
    exact J_iret C0 hF dX5_here_24 ⟨by unfold signS; rw [if_pos c1], rfl⟩

abbrev dIn (M : FF) (m i lo hi : Nat) : Prop := ¬ signS M m i < nI (48 + lo) ∧ ¬ nI (48 + hi) < signS M m i
abbrev rmX5_takesDigit : Room := { frames := 1, cells := 0, slots := 0, locals := 22 }
set_option maxHeartbeats 4000000 in
set_option maxRecDepth 100000 in
theorem mX5_takesDigit_y (l : Launch) (K : KT) (a : Nat → Nat) (F : FF) (g P L : Nat → Int32) (M : FF) {m s : Nat} (hm : M 0 1 = nI m) (h60 : m ≤ 60) (hs : M 0 3 = nI s) (hs2 : s < 1500) {lo hi : Nat} (hlo : lo < 10) (hhi : hi < 10) (hd : dIn M m s lo hi) : Ct l K yX5_takesDigit wsX5_takesDigit rmX5_takesDigit [.ref (a 0), .int (nI lo), .int (nI hi)] [modR K a (flat F) g P L M] (some (.int (nI 1))) [modR K a (flat F) g P L (u2 M 0 3 (nI (s + 1)))] := by
  refine CtP_of (cc := cX5_takesDigit) (nL := 4) (rt := some .boolean) (own := RX5) (lv0 := [(0, .ref (a 0)), (1, .int (nI lo)), (2, .int (nI hi))]) (by decide) rfl (Nat.le_of_ble_eq_true rfl) rfl rfl ?_
  intro G C0 hF _
  have f137 : Cond.fieldLink RX5 137 "CorkPermitsModel" "spot" "I" ∈ wsX5_takesDigit := by decide +kernel
  have iX5 : ∀ w ∈ u_ws RX5 TX5 13, w ∈ wsX5_takesDigit := by decide +kernel
  refine J_aln C0 0 dX5_takesDigit_0 (kk := ?_)
  refine J_callVd C0 (mX5_here l K a F g P L M (m := m) (s := s) hm h60 hs (by omega)) [] [modR K a (flat F) g P L M] gX5_takesDigit_X5_here dX5_takesDigit_1 0 0 (kk := ?_)
  show J G _ _ _ _ _ [.int (signS M m s)]
  refine J_bi C0 48 dX5_takesDigit_4 (kk := ?_)
  refine J_iln C0 1 dX5_takesDigit_6 (kk := ?_)
  refine J_iaddN C0 dX5_takesDigit_7 ?_
  refine J_bi C0 48 dX5_takesDigit_8 (kk := ?_)
  refine J_iln C0 2 dX5_takesDigit_10 (kk := ?_)
  refine J_iaddN C0 dX5_takesDigit_11 ?_
  refine J_callSd C0 (mX5_in_y l K (x := signS M m s) (lo := nI (48 + lo)) (hi := nI (48 + hi)) hd.1 hd.2) [modR K a (flat F) g P L M] [modR K a (flat F) g P L M] gX5_takesDigit_X5_in dX5_takesDigit_12 3 (kk := ?_)
  show J G _ _ _ _ _ [.int (nI 1)]
  refine J_isn C0 [(3, .int (nI 1)), (0, .ref (a 0)), (1, .int (nI lo)), (2, .int (nI hi))] dX5_takesDigit_15 (kk := ?_)
  refine J_aln C0 1 dX5_takesDigit_16 (kk := ?_)
  refine J_dup C0 dX5_takesDigit_17 (kk := ?_)
  refine J_get C0 iX5 0 0 9 f137 dX5_takesDigit_18 (v := .int (nI s)) (hv := congrArg (fun z => some (Value.int z)) hs) (kk := ?_)
  refine J_iln C0 0 dX5_takesDigit_21 (kk := ?_)
  refine J_ifeqN C0 29 (by omega) dX5_takesDigit_22 (kt := fun c1 => ?_) (kf := fun c1 => ?_)
  · exfalso; omega
  · refine J_ic C0 1 dX5_takesDigit_25 (kk := ?_)
    refine J_goto C0 30 dX5_takesDigit_26 (kk := ?_)
    refine J_iaddN C0 dX5_takesDigit_30 ?_
    refine J_put C0 iX5 tyX5_ok nmX5 0 0 9 [modR K a (flat F) g P L (u2 M 0 3 (nI (s + 1)))] f137 dX5_takesDigit_31 (hd := rfl) (kk := ?_)
    refine J_iln C0 0 dX5_takesDigit_34 (kk := ?_)
    exact J_zret C0 hF dX5_takesDigit_35 (by decide) ⟨rfl, rfl⟩

set_option maxHeartbeats 4000000 in
set_option maxRecDepth 100000 in
theorem mX5_takesDigit_n (l : Launch) (K : KT) (a : Nat → Nat) (F : FF) (g P L : Nat → Int32) (M : FF) {m s : Nat} (hm : M 0 1 = nI m) (h60 : m ≤ 60) (hs : M 0 3 = nI s) (hs2 : s < 1500) {lo hi : Nat} (hlo : lo < 10) (hhi : hi < 10) (hd : ¬ dIn M m s lo hi) : Ct l K yX5_takesDigit wsX5_takesDigit rmX5_takesDigit [.ref (a 0), .int (nI lo), .int (nI hi)] [modR K a (flat F) g P L M] (some (.int (nI 0))) [modR K a (flat F) g P L (u2 M 0 3 (nI (s)))] := by
  refine CtP_of (cc := cX5_takesDigit) (nL := 4) (rt := some .boolean) (own := RX5) (lv0 := [(0, .ref (a 0)), (1, .int (nI lo)), (2, .int (nI hi))]) (by decide) rfl (Nat.le_of_ble_eq_true rfl) rfl rfl ?_
  intro G C0 hF _
  have f137 : Cond.fieldLink RX5 137 "CorkPermitsModel" "spot" "I" ∈ wsX5_takesDigit := by decide +kernel
  have iX5 : ∀ w ∈ u_ws RX5 TX5 13, w ∈ wsX5_takesDigit := by decide +kernel
  refine J_aln C0 0 dX5_takesDigit_0 (kk := ?_)
  refine J_callVd C0 (mX5_here l K a F g P L M (m := m) (s := s) hm h60 hs (by omega)) [] [modR K a (flat F) g P L M] gX5_takesDigit_X5_here dX5_takesDigit_1 0 0 (kk := ?_)
  show J G _ _ _ _ _ [.int (signS M m s)]
  refine J_bi C0 48 dX5_takesDigit_4 (kk := ?_)
  refine J_iln C0 1 dX5_takesDigit_6 (kk := ?_)
  refine J_iaddN C0 dX5_takesDigit_7 ?_
  refine J_bi C0 48 dX5_takesDigit_8 (kk := ?_)
  refine J_iln C0 2 dX5_takesDigit_10 (kk := ?_)
  refine J_iaddN C0 dX5_takesDigit_11 ?_
  refine J_callSd C0 (mX5_in_n l K (x := signS M m s) (lo := nI (48 + lo)) (hi := nI (48 + hi)) hd) [modR K a (flat F) g P L M] [modR K a (flat F) g P L M] gX5_takesDigit_X5_in dX5_takesDigit_12 3 (kk := ?_)
  show J G _ _ _ _ _ [.int (nI 0)]
  refine J_isn C0 [(3, .int (nI 0)), (0, .ref (a 0)), (1, .int (nI lo)), (2, .int (nI hi))] dX5_takesDigit_15 (kk := ?_)
  refine J_aln C0 1 dX5_takesDigit_16 (kk := ?_)
  refine J_dup C0 dX5_takesDigit_17 (kk := ?_)
  refine J_get C0 iX5 0 0 9 f137 dX5_takesDigit_18 (v := .int (nI s)) (hv := congrArg (fun z => some (Value.int z)) hs) (kk := ?_)
  refine J_iln C0 0 dX5_takesDigit_21 (kk := ?_)
  refine J_ifeqN C0 29 (by omega) dX5_takesDigit_22 (kt := fun c1 => ?_) (kf := fun c1 => ?_)
  · refine J_ic C0 0 dX5_takesDigit_29 (kk := ?_)
    refine J_iaddN C0 dX5_takesDigit_30 ?_
    refine J_put C0 iX5 tyX5_ok nmX5 0 0 9 [modR K a (flat F) g P L (u2 M 0 3 (nI (s + 0)))] f137 dX5_takesDigit_31 (hd := rfl) (kk := ?_)
    refine J_iln C0 0 dX5_takesDigit_34 (kk := ?_)
    exact J_zret C0 hF dX5_takesDigit_35 (by decide) ⟨rfl, rfl⟩
  · exfalso; omega

abbrev rmX5_takesPair : Room := { frames := 2, cells := 0, slots := 0, locals := 45 }
set_option maxHeartbeats 4000000 in
set_option maxRecDepth 100000 in
theorem mX5_takesPair_n (l : Launch) (K : KT) (a : Nat → Nat) (F : FF) (g P L : Nat → Int32) (M : FF) {m s : Nat} (hm : M 0 1 = nI m) (h60 : m ≤ 60) (hs : M 0 3 = nI s) (hs2 : s < 1200) (h1 : ¬ dIn M m s 0 3) : Ct l K yX5_takesPair wsX5_takesPair rmX5_takesPair [.ref (a 0)] [modR K a (flat F) g P L M] (some (.int (nI 0))) [modR K a (flat F) g P L (u2 (u2 M 0 5 (signS M m s - nI 48)) 0 3 (nI s))] := by
  refine CtP_of (cc := cX5_takesPair) (nL := 1) (rt := some .boolean) (own := RX5) (lv0 := [(0, .ref (a 0))]) (by decide) rfl (Nat.le_of_ble_eq_true rfl) rfl rfl ?_
  intro G C0 hF _
  have f143 : Cond.fieldLink RX5 143 "CorkPermitsModel" "first" "I" ∈ wsX5_takesPair := by decide +kernel
  have iX5 : ∀ w ∈ u_ws RX5 TX5 13, w ∈ wsX5_takesPair := by decide +kernel
  refine J_aln C0 0 dX5_takesPair_0 (kk := ?_)
  refine J_aln C0 0 dX5_takesPair_1 (kk := ?_)
  refine J_callVd C0 (mX5_here l K a F g P L M (m := m) (s := s) hm h60 hs (by omega)) [] [modR K a (flat F) g P L M] gX5_takesPair_X5_here dX5_takesPair_2 0 0 (kk := ?_)
  show J G _ _ _ _ _ [.int (signS M m s), .ref (a 0)]
  refine J_bi C0 48 dX5_takesPair_5 (kk := ?_)
  refine J_isub C0 dX5_takesPair_7 ?_
  refine J_put C0 iX5 tyX5_ok nmX5 0 0 11 [modR K a (flat F) g P L (u2 M 0 5 ((signS M m s) - (nI 48)))] f143 dX5_takesPair_8 (hd := rfl) (kk := ?_)
  refine J_aln C0 0 dX5_takesPair_11 (kk := ?_)
  refine J_ic C0 0 dX5_takesPair_12 (kk := ?_)
  refine J_ic C0 3 dX5_takesPair_13 (kk := ?_)
  refine J_callVd C0 (mX5_takesDigit_n l K a F g P L (u2 M 0 5 ((signS M m s) - (nI 48))) (m := m) (s := s) hm h60 hs (by omega) (lo := 0) (hi := 3) (by omega) (by omega) h1) [] [modR K a (flat F) g P L (u2 (u2 M 0 5 ((signS M m s) - (nI 48))) 0 3 (nI s))] gX5_takesPair_X5_takesDigit dX5_takesPair_14 2 0 (kk := ?_)
  show J G _ _ _ _ _ [.int (nI 0)]
  refine J_ifneN C0 22 (by omega) dX5_takesPair_17 (kt := fun c1 => ?_) (kf := fun c1 => ?_)
  · exfalso; omega
  · refine J_ic C0 0 dX5_takesPair_20 (kk := ?_)
    exact J_zret C0 hF dX5_takesPair_21 (by decide) ⟨rfl, rfl⟩

set_option maxHeartbeats 4000000 in
set_option maxRecDepth 100000 in
theorem mX5_takesPair_yn (l : Launch) (K : KT) (a : Nat → Nat) (F : FF) (g P L : Nat → Int32) (M : FF) {m s : Nat} (hm : M 0 1 = nI m) (h60 : m ≤ 60) (hs : M 0 3 = nI s) (hs2 : s < 1200) (h1 : dIn M m s 0 3) (h2 : ¬ dIn M m (s + 1) 0 2) : Ct l K yX5_takesPair wsX5_takesPair rmX5_takesPair [.ref (a 0)] [modR K a (flat F) g P L M] (some (.int (nI 0))) [modR K a (flat F) g P L (u2 (u2 (u2 (u2 M 0 5 (signS M m s - nI 48)) 0 3 (nI (s + 1))) 0 6 (signS M m (s + 1) - nI 48)) 0 3 (nI (s + 1)))] := by
  refine CtP_of (cc := cX5_takesPair) (nL := 1) (rt := some .boolean) (own := RX5) (lv0 := [(0, .ref (a 0))]) (by decide) rfl (Nat.le_of_ble_eq_true rfl) rfl rfl ?_
  intro G C0 hF _
  have f143 : Cond.fieldLink RX5 143 "CorkPermitsModel" "first" "I" ∈ wsX5_takesPair := by decide +kernel
  have iX5 : ∀ w ∈ u_ws RX5 TX5 13, w ∈ wsX5_takesPair := by decide +kernel
  have f149 : Cond.fieldLink RX5 149 "CorkPermitsModel" "second" "I" ∈ wsX5_takesPair := by decide +kernel
  refine J_aln C0 0 dX5_takesPair_0 (kk := ?_)
  refine J_aln C0 0 dX5_takesPair_1 (kk := ?_)
  refine J_callVd C0 (mX5_here l K a F g P L M (m := m) (s := s) hm h60 hs (by omega)) [] [modR K a (flat F) g P L M] gX5_takesPair_X5_here dX5_takesPair_2 0 0 (kk := ?_)
  show J G _ _ _ _ _ [.int (signS M m s), .ref (a 0)]
  refine J_bi C0 48 dX5_takesPair_5 (kk := ?_)
  refine J_isub C0 dX5_takesPair_7 ?_
  refine J_put C0 iX5 tyX5_ok nmX5 0 0 11 [modR K a (flat F) g P L (u2 M 0 5 ((signS M m s) - (nI 48)))] f143 dX5_takesPair_8 (hd := rfl) (kk := ?_)
  refine J_aln C0 0 dX5_takesPair_11 (kk := ?_)
  refine J_ic C0 0 dX5_takesPair_12 (kk := ?_)
  refine J_ic C0 3 dX5_takesPair_13 (kk := ?_)
  refine J_callVd C0 (mX5_takesDigit_y l K a F g P L (u2 M 0 5 ((signS M m s) - (nI 48))) (m := m) (s := s) hm h60 hs (by omega) (lo := 0) (hi := 3) (by omega) (by omega) h1) [] [modR K a (flat F) g P L (u2 (u2 M 0 5 ((signS M m s) - (nI 48))) 0 3 (nI (s + 1)))] gX5_takesPair_X5_takesDigit dX5_takesPair_14 2 0 (kk := ?_)
  show J G _ _ _ _ _ [.int (nI 1)]
  refine J_ifneN C0 22 (by omega) dX5_takesPair_17 (kt := fun c1 => ?_) (kf := fun c1 => ?_)
  · refine J_aln C0 0 dX5_takesPair_22 (kk := ?_)
    refine J_aln C0 0 dX5_takesPair_23 (kk := ?_)
    refine J_callVd C0 (mX5_here l K a F g P L (u2 (u2 M 0 5 ((signS M m s) - (nI 48))) 0 3 (nI (s + 1))) (m := m) (s := s + 1) hm h60 rfl (by omega)) [] [modR K a (flat F) g P L (u2 (u2 M 0 5 ((signS M m s) - (nI 48))) 0 3 (nI (s + 1)))] gX5_takesPair_X5_here dX5_takesPair_24 0 0 (kk := ?_)
    show J G _ _ _ _ _ [.int (signS M m (s + 1)), .ref (a 0)]
    refine J_bi C0 48 dX5_takesPair_27 (kk := ?_)
    refine J_isub C0 dX5_takesPair_29 ?_
    refine J_put C0 iX5 tyX5_ok nmX5 0 0 12 [modR K a (flat F) g P L (u2 (u2 (u2 M 0 5 ((signS M m s) - (nI 48))) 0 3 (nI (s + 1))) 0 6 ((signS M m (s + 1)) - (nI 48)))] f149 dX5_takesPair_30 (hd := rfl) (kk := ?_)
    refine J_aln C0 0 dX5_takesPair_33 (kk := ?_)
    refine J_ic C0 0 dX5_takesPair_34 (kk := ?_)
    refine J_ic C0 2 dX5_takesPair_35 (kk := ?_)
    refine J_callVd C0 (mX5_takesDigit_n l K a F g P L (u2 (u2 (u2 M 0 5 ((signS M m s) - (nI 48))) 0 3 (nI (s + 1))) 0 6 ((signS M m (s + 1)) - (nI 48))) (m := m) (s := s + 1) hm h60 rfl (by omega) (lo := 0) (hi := 2) (by omega) (by omega) h2) [] [modR K a (flat F) g P L (u2 (u2 (u2 (u2 M 0 5 ((signS M m s) - (nI 48))) 0 3 (nI (s + 1))) 0 6 ((signS M m (s + 1)) - (nI 48))) 0 3 (nI (s + 1)))] gX5_takesPair_X5_takesDigit dX5_takesPair_36 2 0 (kk := ?_)
    show J G _ _ _ _ _ [.int (nI 0)]
    exact J_zret C0 hF dX5_takesPair_39 (by decide) ⟨rfl, rfl⟩
  · exfalso; omega

set_option maxHeartbeats 4000000 in
set_option maxRecDepth 100000 in
theorem mX5_takesPair_yy (l : Launch) (K : KT) (a : Nat → Nat) (F : FF) (g P L : Nat → Int32) (M : FF) {m s : Nat} (hm : M 0 1 = nI m) (h60 : m ≤ 60) (hs : M 0 3 = nI s) (hs2 : s < 1200) (h1 : dIn M m s 0 3) (h2 : dIn M m (s + 1) 0 2) : Ct l K yX5_takesPair wsX5_takesPair rmX5_takesPair [.ref (a 0)] [modR K a (flat F) g P L M] (some (.int (nI 1))) [modR K a (flat F) g P L (u2 (u2 (u2 (u2 M 0 5 (signS M m s - nI 48)) 0 3 (nI (s + 1))) 0 6 (signS M m (s + 1) - nI 48)) 0 3 (nI (s + 2)))] := by
  refine CtP_of (cc := cX5_takesPair) (nL := 1) (rt := some .boolean) (own := RX5) (lv0 := [(0, .ref (a 0))]) (by decide) rfl (Nat.le_of_ble_eq_true rfl) rfl rfl ?_
  intro G C0 hF _
  have f143 : Cond.fieldLink RX5 143 "CorkPermitsModel" "first" "I" ∈ wsX5_takesPair := by decide +kernel
  have iX5 : ∀ w ∈ u_ws RX5 TX5 13, w ∈ wsX5_takesPair := by decide +kernel
  have f149 : Cond.fieldLink RX5 149 "CorkPermitsModel" "second" "I" ∈ wsX5_takesPair := by decide +kernel
  refine J_aln C0 0 dX5_takesPair_0 (kk := ?_)
  refine J_aln C0 0 dX5_takesPair_1 (kk := ?_)
  refine J_callVd C0 (mX5_here l K a F g P L M (m := m) (s := s) hm h60 hs (by omega)) [] [modR K a (flat F) g P L M] gX5_takesPair_X5_here dX5_takesPair_2 0 0 (kk := ?_)
  show J G _ _ _ _ _ [.int (signS M m s), .ref (a 0)]
  refine J_bi C0 48 dX5_takesPair_5 (kk := ?_)
  refine J_isub C0 dX5_takesPair_7 ?_
  refine J_put C0 iX5 tyX5_ok nmX5 0 0 11 [modR K a (flat F) g P L (u2 M 0 5 ((signS M m s) - (nI 48)))] f143 dX5_takesPair_8 (hd := rfl) (kk := ?_)
  refine J_aln C0 0 dX5_takesPair_11 (kk := ?_)
  refine J_ic C0 0 dX5_takesPair_12 (kk := ?_)
  refine J_ic C0 3 dX5_takesPair_13 (kk := ?_)
  refine J_callVd C0 (mX5_takesDigit_y l K a F g P L (u2 M 0 5 ((signS M m s) - (nI 48))) (m := m) (s := s) hm h60 hs (by omega) (lo := 0) (hi := 3) (by omega) (by omega) h1) [] [modR K a (flat F) g P L (u2 (u2 M 0 5 ((signS M m s) - (nI 48))) 0 3 (nI (s + 1)))] gX5_takesPair_X5_takesDigit dX5_takesPair_14 2 0 (kk := ?_)
  show J G _ _ _ _ _ [.int (nI 1)]
  refine J_ifneN C0 22 (by omega) dX5_takesPair_17 (kt := fun c1 => ?_) (kf := fun c1 => ?_)
  · refine J_aln C0 0 dX5_takesPair_22 (kk := ?_)
    refine J_aln C0 0 dX5_takesPair_23 (kk := ?_)
    refine J_callVd C0 (mX5_here l K a F g P L (u2 (u2 M 0 5 ((signS M m s) - (nI 48))) 0 3 (nI (s + 1))) (m := m) (s := s + 1) hm h60 rfl (by omega)) [] [modR K a (flat F) g P L (u2 (u2 M 0 5 ((signS M m s) - (nI 48))) 0 3 (nI (s + 1)))] gX5_takesPair_X5_here dX5_takesPair_24 0 0 (kk := ?_)
    show J G _ _ _ _ _ [.int (signS M m (s + 1)), .ref (a 0)]
    refine J_bi C0 48 dX5_takesPair_27 (kk := ?_)
    refine J_isub C0 dX5_takesPair_29 ?_
    refine J_put C0 iX5 tyX5_ok nmX5 0 0 12 [modR K a (flat F) g P L (u2 (u2 (u2 M 0 5 ((signS M m s) - (nI 48))) 0 3 (nI (s + 1))) 0 6 ((signS M m (s + 1)) - (nI 48)))] f149 dX5_takesPair_30 (hd := rfl) (kk := ?_)
    refine J_aln C0 0 dX5_takesPair_33 (kk := ?_)
    refine J_ic C0 0 dX5_takesPair_34 (kk := ?_)
    refine J_ic C0 2 dX5_takesPair_35 (kk := ?_)
    refine J_callVd C0 (mX5_takesDigit_y l K a F g P L (u2 (u2 (u2 M 0 5 ((signS M m s) - (nI 48))) 0 3 (nI (s + 1))) 0 6 ((signS M m (s + 1)) - (nI 48))) (m := m) (s := s + 1) hm h60 rfl (by omega) (lo := 0) (hi := 2) (by omega) (by omega) h2) [] [modR K a (flat F) g P L (u2 (u2 (u2 (u2 M 0 5 ((signS M m s) - (nI 48))) 0 3 (nI (s + 1))) 0 6 ((signS M m (s + 1)) - (nI 48))) 0 3 (nI (s + 2)))] gX5_takesPair_X5_takesDigit dX5_takesPair_36 2 0 (kk := ?_)
    show J G _ _ _ _ _ [.int (nI 1)]
    exact J_zret C0 hF dX5_takesPair_39 (by decide) ⟨rfl, rfl⟩
  · exfalso; omega

abbrev rmX5_takesOrder : Room := { frames := 3, cells := 0, slots := 0, locals := 65 }
set_option maxHeartbeats 4000000 in
set_option maxRecDepth 100000 in
theorem mX5_takesOrder_108_n (l : Launch) (K : KT) (a : Nat → Nat) (F : FF) (g P L : Nat → Int32) (M : FF) {m s : Nat} (hm : M 0 1 = nI m) (h60 : m ≤ 60) (hs : M 0 3 = nI s) (hs2 : s < 1000) (ho : signS M m s = nI 108) (h1 : ¬ dIn M m (s + 1) 0 3) : Ct l K yX5_takesOrder wsX5_takesOrder rmX5_takesOrder [.ref (a 0)] [modR K a (flat F) g P L M] (some (.int (nI 0))) [modR K a (flat F) g P L (u2 (u2 (u2 (u2 M 0 4 (signS M m s)) 0 3 (nI (s + 1))) 0 5 (signS M m (s + 1) - nI 48)) 0 3 (nI (s + 1)))] := by
  refine CtP_of (cc := cX5_takesOrder) (nL := 1) (rt := some .boolean) (own := RX5) (lv0 := [(0, .ref (a 0))]) (by decide) rfl (Nat.le_of_ble_eq_true rfl) rfl rfl ?_
  intro G C0 hF _
  have f152 : Cond.fieldLink RX5 152 "CorkPermitsModel" "order" "I" ∈ wsX5_takesOrder := by decide +kernel
  have iX5 : ∀ w ∈ u_ws RX5 TX5 13, w ∈ wsX5_takesOrder := by decide +kernel
  have f137 : Cond.fieldLink RX5 137 "CorkPermitsModel" "spot" "I" ∈ wsX5_takesOrder := by decide +kernel
  refine J_aln C0 0 dX5_takesOrder_0 (kk := ?_)
  refine J_aln C0 0 dX5_takesOrder_1 (kk := ?_)
  refine J_callVd C0 (mX5_here l K a F g P L M (m := m) (s := s) hm h60 hs (by omega)) [] [modR K a (flat F) g P L M] gX5_takesOrder_X5_here dX5_takesOrder_2 0 0 (kk := ?_)
  show J G _ _ _ _ _ [.int (signS M m s), .ref (a 0)]
  refine J_put C0 iX5 tyX5_ok nmX5 0 0 10 [modR K a (flat F) g P L (u2 M 0 4 (signS M m s))] f152 dX5_takesOrder_5 (hd := rfl) (kk := ?_)
  refine J_aln C0 0 dX5_takesOrder_8 (kk := ?_)
  refine J_get C0 iX5 0 0 10 f152 dX5_takesOrder_9 (v := .int (signS M m s)) (hv := rfl) (kk := ?_)
  refine J_lsw C0 64 dX5_takesOrder_12 (by rw [ho]; decide) (kk := ?_)
  refine J_aln C0 0 dX5_takesOrder_64 (kk := ?_)
  refine J_dup C0 dX5_takesOrder_65 (kk := ?_)
  refine J_get C0 iX5 0 0 9 f137 dX5_takesOrder_66 (v := .int (nI s)) (hv := congrArg (fun z => some (Value.int z)) hs) (kk := ?_)
  refine J_ic C0 1 dX5_takesOrder_69 (kk := ?_)
  refine J_iaddN C0 dX5_takesOrder_70 ?_
  refine J_put C0 iX5 tyX5_ok nmX5 0 0 9 [modR K a (flat F) g P L (u2 (u2 M 0 4 (signS M m s)) 0 3 (nI (s + 1)))] f137 dX5_takesOrder_71 (hd := rfl) (kk := ?_)
  refine J_aln C0 0 dX5_takesOrder_74 (kk := ?_)
  refine J_callVd C0 (mX5_takesPair_n l K a F g P L (u2 (u2 M 0 4 (signS M m s)) 0 3 (nI (s + 1))) (m := m) (s := s + 1) hm h60 rfl (by omega) h1) [] [modR K a (flat F) g P L (u2 (u2 (u2 (u2 M 0 4 (signS M m s)) 0 3 (nI (s + 1))) 0 5 (signS M m (s + 1) - nI 48)) 0 3 (nI (s + 1)))] gX5_takesOrder_X5_takesPair dX5_takesOrder_75 0 0 (kk := ?_)
  show J G _ _ _ _ _ [.int (nI 0)]
  exact J_zret C0 hF dX5_takesOrder_78 (by decide) ⟨rfl, rfl⟩

set_option maxHeartbeats 4000000 in
set_option maxRecDepth 100000 in
theorem mX5_takesOrder_108_yn (l : Launch) (K : KT) (a : Nat → Nat) (F : FF) (g P L : Nat → Int32) (M : FF) {m s : Nat} (hm : M 0 1 = nI m) (h60 : m ≤ 60) (hs : M 0 3 = nI s) (hs2 : s < 1000) (ho : signS M m s = nI 108) (h1 : dIn M m (s + 1) 0 3) (h2 : ¬ dIn M m (s + 2) 0 2) : Ct l K yX5_takesOrder wsX5_takesOrder rmX5_takesOrder [.ref (a 0)] [modR K a (flat F) g P L M] (some (.int (nI 0))) [modR K a (flat F) g P L (u2 (u2 (u2 (u2 (u2 (u2 M 0 4 (signS M m s)) 0 3 (nI (s + 1))) 0 5 (signS M m (s + 1) - nI 48)) 0 3 (nI (s + 2))) 0 6 (signS M m (s + 2) - nI 48)) 0 3 (nI (s + 2)))] := by
  refine CtP_of (cc := cX5_takesOrder) (nL := 1) (rt := some .boolean) (own := RX5) (lv0 := [(0, .ref (a 0))]) (by decide) rfl (Nat.le_of_ble_eq_true rfl) rfl rfl ?_
  intro G C0 hF _
  have f152 : Cond.fieldLink RX5 152 "CorkPermitsModel" "order" "I" ∈ wsX5_takesOrder := by decide +kernel
  have iX5 : ∀ w ∈ u_ws RX5 TX5 13, w ∈ wsX5_takesOrder := by decide +kernel
  have f137 : Cond.fieldLink RX5 137 "CorkPermitsModel" "spot" "I" ∈ wsX5_takesOrder := by decide +kernel
  refine J_aln C0 0 dX5_takesOrder_0 (kk := ?_)
  refine J_aln C0 0 dX5_takesOrder_1 (kk := ?_)
  refine J_callVd C0 (mX5_here l K a F g P L M (m := m) (s := s) hm h60 hs (by omega)) [] [modR K a (flat F) g P L M] gX5_takesOrder_X5_here dX5_takesOrder_2 0 0 (kk := ?_)
  show J G _ _ _ _ _ [.int (signS M m s), .ref (a 0)]
  refine J_put C0 iX5 tyX5_ok nmX5 0 0 10 [modR K a (flat F) g P L (u2 M 0 4 (signS M m s))] f152 dX5_takesOrder_5 (hd := rfl) (kk := ?_)
  refine J_aln C0 0 dX5_takesOrder_8 (kk := ?_)
  refine J_get C0 iX5 0 0 10 f152 dX5_takesOrder_9 (v := .int (signS M m s)) (hv := rfl) (kk := ?_)
  refine J_lsw C0 64 dX5_takesOrder_12 (by rw [ho]; decide) (kk := ?_)
  refine J_aln C0 0 dX5_takesOrder_64 (kk := ?_)
  refine J_dup C0 dX5_takesOrder_65 (kk := ?_)
  refine J_get C0 iX5 0 0 9 f137 dX5_takesOrder_66 (v := .int (nI s)) (hv := congrArg (fun z => some (Value.int z)) hs) (kk := ?_)
  refine J_ic C0 1 dX5_takesOrder_69 (kk := ?_)
  refine J_iaddN C0 dX5_takesOrder_70 ?_
  refine J_put C0 iX5 tyX5_ok nmX5 0 0 9 [modR K a (flat F) g P L (u2 (u2 M 0 4 (signS M m s)) 0 3 (nI (s + 1)))] f137 dX5_takesOrder_71 (hd := rfl) (kk := ?_)
  refine J_aln C0 0 dX5_takesOrder_74 (kk := ?_)
  refine J_callVd C0 (mX5_takesPair_yn l K a F g P L (u2 (u2 M 0 4 (signS M m s)) 0 3 (nI (s + 1))) (m := m) (s := s + 1) hm h60 rfl (by omega) h1 h2) [] [modR K a (flat F) g P L (u2 (u2 (u2 (u2 (u2 (u2 M 0 4 (signS M m s)) 0 3 (nI (s + 1))) 0 5 (signS M m (s + 1) - nI 48)) 0 3 (nI (s + 2))) 0 6 (signS M m (s + 2) - nI 48)) 0 3 (nI (s + 2)))] gX5_takesOrder_X5_takesPair dX5_takesOrder_75 0 0 (kk := ?_)
  show J G _ _ _ _ _ [.int (nI 0)]
  exact J_zret C0 hF dX5_takesOrder_78 (by decide) ⟨rfl, rfl⟩

set_option maxHeartbeats 4000000 in
set_option maxRecDepth 100000 in
theorem mX5_takesOrder_108_yy (l : Launch) (K : KT) (a : Nat → Nat) (F : FF) (g P L : Nat → Int32) (M : FF) {m s : Nat} (hm : M 0 1 = nI m) (h60 : m ≤ 60) (hs : M 0 3 = nI s) (hs2 : s < 1000) (ho : signS M m s = nI 108) (h1 : dIn M m (s + 1) 0 3) (h2 : dIn M m (s + 2) 0 2) : Ct l K yX5_takesOrder wsX5_takesOrder rmX5_takesOrder [.ref (a 0)] [modR K a (flat F) g P L M] (some (.int (nI 1))) [modR K a (flat F) g P L (u2 (u2 (u2 (u2 (u2 (u2 M 0 4 (signS M m s)) 0 3 (nI (s + 1))) 0 5 (signS M m (s + 1) - nI 48)) 0 3 (nI (s + 2))) 0 6 (signS M m (s + 2) - nI 48)) 0 3 (nI (s + 3)))] := by
  refine CtP_of (cc := cX5_takesOrder) (nL := 1) (rt := some .boolean) (own := RX5) (lv0 := [(0, .ref (a 0))]) (by decide) rfl (Nat.le_of_ble_eq_true rfl) rfl rfl ?_
  intro G C0 hF _
  have f152 : Cond.fieldLink RX5 152 "CorkPermitsModel" "order" "I" ∈ wsX5_takesOrder := by decide +kernel
  have iX5 : ∀ w ∈ u_ws RX5 TX5 13, w ∈ wsX5_takesOrder := by decide +kernel
  have f137 : Cond.fieldLink RX5 137 "CorkPermitsModel" "spot" "I" ∈ wsX5_takesOrder := by decide +kernel
  refine J_aln C0 0 dX5_takesOrder_0 (kk := ?_)
  refine J_aln C0 0 dX5_takesOrder_1 (kk := ?_)
  refine J_callVd C0 (mX5_here l K a F g P L M (m := m) (s := s) hm h60 hs (by omega)) [] [modR K a (flat F) g P L M] gX5_takesOrder_X5_here dX5_takesOrder_2 0 0 (kk := ?_)
  show J G _ _ _ _ _ [.int (signS M m s), .ref (a 0)]
  refine J_put C0 iX5 tyX5_ok nmX5 0 0 10 [modR K a (flat F) g P L (u2 M 0 4 (signS M m s))] f152 dX5_takesOrder_5 (hd := rfl) (kk := ?_)
  refine J_aln C0 0 dX5_takesOrder_8 (kk := ?_)
  refine J_get C0 iX5 0 0 10 f152 dX5_takesOrder_9 (v := .int (signS M m s)) (hv := rfl) (kk := ?_)
  refine J_lsw C0 64 dX5_takesOrder_12 (by rw [ho]; decide) (kk := ?_)
  refine J_aln C0 0 dX5_takesOrder_64 (kk := ?_)
  refine J_dup C0 dX5_takesOrder_65 (kk := ?_)
  refine J_get C0 iX5 0 0 9 f137 dX5_takesOrder_66 (v := .int (nI s)) (hv := congrArg (fun z => some (Value.int z)) hs) (kk := ?_)
  refine J_ic C0 1 dX5_takesOrder_69 (kk := ?_)
  refine J_iaddN C0 dX5_takesOrder_70 ?_
  refine J_put C0 iX5 tyX5_ok nmX5 0 0 9 [modR K a (flat F) g P L (u2 (u2 M 0 4 (signS M m s)) 0 3 (nI (s + 1)))] f137 dX5_takesOrder_71 (hd := rfl) (kk := ?_)
  refine J_aln C0 0 dX5_takesOrder_74 (kk := ?_)
  refine J_callVd C0 (mX5_takesPair_yy l K a F g P L (u2 (u2 M 0 4 (signS M m s)) 0 3 (nI (s + 1))) (m := m) (s := s + 1) hm h60 rfl (by omega) h1 h2) [] [modR K a (flat F) g P L (u2 (u2 (u2 (u2 (u2 (u2 M 0 4 (signS M m s)) 0 3 (nI (s + 1))) 0 5 (signS M m (s + 1) - nI 48)) 0 3 (nI (s + 2))) 0 6 (signS M m (s + 2) - nI 48)) 0 3 (nI (s + 3)))] gX5_takesOrder_X5_takesPair dX5_takesOrder_75 0 0 (kk := ?_)
  show J G _ _ _ _ _ [.int (nI 1)]
  exact J_zret C0 hF dX5_takesOrder_78 (by decide) ⟨rfl, rfl⟩

set_option maxHeartbeats 4000000 in
set_option maxRecDepth 100000 in
theorem mX5_takesOrder_113_n (l : Launch) (K : KT) (a : Nat → Nat) (F : FF) (g P L : Nat → Int32) (M : FF) {m s : Nat} (hm : M 0 1 = nI m) (h60 : m ≤ 60) (hs : M 0 3 = nI s) (hs2 : s < 1000) (ho : signS M m s = nI 113) (h1 : ¬ dIn M m (s + 1) 0 3) : Ct l K yX5_takesOrder wsX5_takesOrder rmX5_takesOrder [.ref (a 0)] [modR K a (flat F) g P L M] (some (.int (nI 0))) [modR K a (flat F) g P L (u2 (u2 (u2 (u2 M 0 4 (signS M m s)) 0 3 (nI (s + 1))) 0 5 (signS M m (s + 1) - nI 48)) 0 3 (nI (s + 1)))] := by
  refine CtP_of (cc := cX5_takesOrder) (nL := 1) (rt := some .boolean) (own := RX5) (lv0 := [(0, .ref (a 0))]) (by decide) rfl (Nat.le_of_ble_eq_true rfl) rfl rfl ?_
  intro G C0 hF _
  have f152 : Cond.fieldLink RX5 152 "CorkPermitsModel" "order" "I" ∈ wsX5_takesOrder := by decide +kernel
  have iX5 : ∀ w ∈ u_ws RX5 TX5 13, w ∈ wsX5_takesOrder := by decide +kernel
  have f137 : Cond.fieldLink RX5 137 "CorkPermitsModel" "spot" "I" ∈ wsX5_takesOrder := by decide +kernel
  refine J_aln C0 0 dX5_takesOrder_0 (kk := ?_)
  refine J_aln C0 0 dX5_takesOrder_1 (kk := ?_)
  refine J_callVd C0 (mX5_here l K a F g P L M (m := m) (s := s) hm h60 hs (by omega)) [] [modR K a (flat F) g P L M] gX5_takesOrder_X5_here dX5_takesOrder_2 0 0 (kk := ?_)
  show J G _ _ _ _ _ [.int (signS M m s), .ref (a 0)]
  refine J_put C0 iX5 tyX5_ok nmX5 0 0 10 [modR K a (flat F) g P L (u2 M 0 4 (signS M m s))] f152 dX5_takesOrder_5 (hd := rfl) (kk := ?_)
  refine J_aln C0 0 dX5_takesOrder_8 (kk := ?_)
  refine J_get C0 iX5 0 0 10 f152 dX5_takesOrder_9 (v := .int (signS M m s)) (hv := rfl) (kk := ?_)
  refine J_lsw C0 64 dX5_takesOrder_12 (by rw [ho]; decide) (kk := ?_)
  refine J_aln C0 0 dX5_takesOrder_64 (kk := ?_)
  refine J_dup C0 dX5_takesOrder_65 (kk := ?_)
  refine J_get C0 iX5 0 0 9 f137 dX5_takesOrder_66 (v := .int (nI s)) (hv := congrArg (fun z => some (Value.int z)) hs) (kk := ?_)
  refine J_ic C0 1 dX5_takesOrder_69 (kk := ?_)
  refine J_iaddN C0 dX5_takesOrder_70 ?_
  refine J_put C0 iX5 tyX5_ok nmX5 0 0 9 [modR K a (flat F) g P L (u2 (u2 M 0 4 (signS M m s)) 0 3 (nI (s + 1)))] f137 dX5_takesOrder_71 (hd := rfl) (kk := ?_)
  refine J_aln C0 0 dX5_takesOrder_74 (kk := ?_)
  refine J_callVd C0 (mX5_takesPair_n l K a F g P L (u2 (u2 M 0 4 (signS M m s)) 0 3 (nI (s + 1))) (m := m) (s := s + 1) hm h60 rfl (by omega) h1) [] [modR K a (flat F) g P L (u2 (u2 (u2 (u2 M 0 4 (signS M m s)) 0 3 (nI (s + 1))) 0 5 (signS M m (s + 1) - nI 48)) 0 3 (nI (s + 1)))] gX5_takesOrder_X5_takesPair dX5_takesOrder_75 0 0 (kk := ?_)
  show J G _ _ _ _ _ [.int (nI 0)]
  exact J_zret C0 hF dX5_takesOrder_78 (by decide) ⟨rfl, rfl⟩

set_option maxHeartbeats 4000000 in
set_option maxRecDepth 100000 in
theorem mX5_takesOrder_113_yn (l : Launch) (K : KT) (a : Nat → Nat) (F : FF) (g P L : Nat → Int32) (M : FF) {m s : Nat} (hm : M 0 1 = nI m) (h60 : m ≤ 60) (hs : M 0 3 = nI s) (hs2 : s < 1000) (ho : signS M m s = nI 113) (h1 : dIn M m (s + 1) 0 3) (h2 : ¬ dIn M m (s + 2) 0 2) : Ct l K yX5_takesOrder wsX5_takesOrder rmX5_takesOrder [.ref (a 0)] [modR K a (flat F) g P L M] (some (.int (nI 0))) [modR K a (flat F) g P L (u2 (u2 (u2 (u2 (u2 (u2 M 0 4 (signS M m s)) 0 3 (nI (s + 1))) 0 5 (signS M m (s + 1) - nI 48)) 0 3 (nI (s + 2))) 0 6 (signS M m (s + 2) - nI 48)) 0 3 (nI (s + 2)))] := by
  refine CtP_of (cc := cX5_takesOrder) (nL := 1) (rt := some .boolean) (own := RX5) (lv0 := [(0, .ref (a 0))]) (by decide) rfl (Nat.le_of_ble_eq_true rfl) rfl rfl ?_
  intro G C0 hF _
  have f152 : Cond.fieldLink RX5 152 "CorkPermitsModel" "order" "I" ∈ wsX5_takesOrder := by decide +kernel
  have iX5 : ∀ w ∈ u_ws RX5 TX5 13, w ∈ wsX5_takesOrder := by decide +kernel
  have f137 : Cond.fieldLink RX5 137 "CorkPermitsModel" "spot" "I" ∈ wsX5_takesOrder := by decide +kernel
  refine J_aln C0 0 dX5_takesOrder_0 (kk := ?_)
  refine J_aln C0 0 dX5_takesOrder_1 (kk := ?_)
  refine J_callVd C0 (mX5_here l K a F g P L M (m := m) (s := s) hm h60 hs (by omega)) [] [modR K a (flat F) g P L M] gX5_takesOrder_X5_here dX5_takesOrder_2 0 0 (kk := ?_)
  show J G _ _ _ _ _ [.int (signS M m s), .ref (a 0)]
  refine J_put C0 iX5 tyX5_ok nmX5 0 0 10 [modR K a (flat F) g P L (u2 M 0 4 (signS M m s))] f152 dX5_takesOrder_5 (hd := rfl) (kk := ?_)
  refine J_aln C0 0 dX5_takesOrder_8 (kk := ?_)
  refine J_get C0 iX5 0 0 10 f152 dX5_takesOrder_9 (v := .int (signS M m s)) (hv := rfl) (kk := ?_)
  refine J_lsw C0 64 dX5_takesOrder_12 (by rw [ho]; decide) (kk := ?_)
  refine J_aln C0 0 dX5_takesOrder_64 (kk := ?_)
  refine J_dup C0 dX5_takesOrder_65 (kk := ?_)
  refine J_get C0 iX5 0 0 9 f137 dX5_takesOrder_66 (v := .int (nI s)) (hv := congrArg (fun z => some (Value.int z)) hs) (kk := ?_)
  refine J_ic C0 1 dX5_takesOrder_69 (kk := ?_)
  refine J_iaddN C0 dX5_takesOrder_70 ?_
  refine J_put C0 iX5 tyX5_ok nmX5 0 0 9 [modR K a (flat F) g P L (u2 (u2 M 0 4 (signS M m s)) 0 3 (nI (s + 1)))] f137 dX5_takesOrder_71 (hd := rfl) (kk := ?_)
  refine J_aln C0 0 dX5_takesOrder_74 (kk := ?_)
  refine J_callVd C0 (mX5_takesPair_yn l K a F g P L (u2 (u2 M 0 4 (signS M m s)) 0 3 (nI (s + 1))) (m := m) (s := s + 1) hm h60 rfl (by omega) h1 h2) [] [modR K a (flat F) g P L (u2 (u2 (u2 (u2 (u2 (u2 M 0 4 (signS M m s)) 0 3 (nI (s + 1))) 0 5 (signS M m (s + 1) - nI 48)) 0 3 (nI (s + 2))) 0 6 (signS M m (s + 2) - nI 48)) 0 3 (nI (s + 2)))] gX5_takesOrder_X5_takesPair dX5_takesOrder_75 0 0 (kk := ?_)
  show J G _ _ _ _ _ [.int (nI 0)]
  exact J_zret C0 hF dX5_takesOrder_78 (by decide) ⟨rfl, rfl⟩

set_option maxHeartbeats 4000000 in
set_option maxRecDepth 100000 in
theorem mX5_takesOrder_113_yy (l : Launch) (K : KT) (a : Nat → Nat) (F : FF) (g P L : Nat → Int32) (M : FF) {m s : Nat} (hm : M 0 1 = nI m) (h60 : m ≤ 60) (hs : M 0 3 = nI s) (hs2 : s < 1000) (ho : signS M m s = nI 113) (h1 : dIn M m (s + 1) 0 3) (h2 : dIn M m (s + 2) 0 2) : Ct l K yX5_takesOrder wsX5_takesOrder rmX5_takesOrder [.ref (a 0)] [modR K a (flat F) g P L M] (some (.int (nI 1))) [modR K a (flat F) g P L (u2 (u2 (u2 (u2 (u2 (u2 M 0 4 (signS M m s)) 0 3 (nI (s + 1))) 0 5 (signS M m (s + 1) - nI 48)) 0 3 (nI (s + 2))) 0 6 (signS M m (s + 2) - nI 48)) 0 3 (nI (s + 3)))] := by
  refine CtP_of (cc := cX5_takesOrder) (nL := 1) (rt := some .boolean) (own := RX5) (lv0 := [(0, .ref (a 0))]) (by decide) rfl (Nat.le_of_ble_eq_true rfl) rfl rfl ?_
  intro G C0 hF _
  have f152 : Cond.fieldLink RX5 152 "CorkPermitsModel" "order" "I" ∈ wsX5_takesOrder := by decide +kernel
  have iX5 : ∀ w ∈ u_ws RX5 TX5 13, w ∈ wsX5_takesOrder := by decide +kernel
  have f137 : Cond.fieldLink RX5 137 "CorkPermitsModel" "spot" "I" ∈ wsX5_takesOrder := by decide +kernel
  refine J_aln C0 0 dX5_takesOrder_0 (kk := ?_)
  refine J_aln C0 0 dX5_takesOrder_1 (kk := ?_)
  refine J_callVd C0 (mX5_here l K a F g P L M (m := m) (s := s) hm h60 hs (by omega)) [] [modR K a (flat F) g P L M] gX5_takesOrder_X5_here dX5_takesOrder_2 0 0 (kk := ?_)
  show J G _ _ _ _ _ [.int (signS M m s), .ref (a 0)]
  refine J_put C0 iX5 tyX5_ok nmX5 0 0 10 [modR K a (flat F) g P L (u2 M 0 4 (signS M m s))] f152 dX5_takesOrder_5 (hd := rfl) (kk := ?_)
  refine J_aln C0 0 dX5_takesOrder_8 (kk := ?_)
  refine J_get C0 iX5 0 0 10 f152 dX5_takesOrder_9 (v := .int (signS M m s)) (hv := rfl) (kk := ?_)
  refine J_lsw C0 64 dX5_takesOrder_12 (by rw [ho]; decide) (kk := ?_)
  refine J_aln C0 0 dX5_takesOrder_64 (kk := ?_)
  refine J_dup C0 dX5_takesOrder_65 (kk := ?_)
  refine J_get C0 iX5 0 0 9 f137 dX5_takesOrder_66 (v := .int (nI s)) (hv := congrArg (fun z => some (Value.int z)) hs) (kk := ?_)
  refine J_ic C0 1 dX5_takesOrder_69 (kk := ?_)
  refine J_iaddN C0 dX5_takesOrder_70 ?_
  refine J_put C0 iX5 tyX5_ok nmX5 0 0 9 [modR K a (flat F) g P L (u2 (u2 M 0 4 (signS M m s)) 0 3 (nI (s + 1)))] f137 dX5_takesOrder_71 (hd := rfl) (kk := ?_)
  refine J_aln C0 0 dX5_takesOrder_74 (kk := ?_)
  refine J_callVd C0 (mX5_takesPair_yy l K a F g P L (u2 (u2 M 0 4 (signS M m s)) 0 3 (nI (s + 1))) (m := m) (s := s + 1) hm h60 rfl (by omega) h1 h2) [] [modR K a (flat F) g P L (u2 (u2 (u2 (u2 (u2 (u2 M 0 4 (signS M m s)) 0 3 (nI (s + 1))) 0 5 (signS M m (s + 1) - nI 48)) 0 3 (nI (s + 2))) 0 6 (signS M m (s + 2) - nI 48)) 0 3 (nI (s + 3)))] gX5_takesOrder_X5_takesPair dX5_takesOrder_75 0 0 (kk := ?_)
  show J G _ _ _ _ _ [.int (nI 1)]
  exact J_zret C0 hF dX5_takesOrder_78 (by decide) ⟨rfl, rfl⟩

set_option maxHeartbeats 4000000 in
set_option maxRecDepth 100000 in
theorem mX5_takesOrder_119_n (l : Launch) (K : KT) (a : Nat → Nat) (F : FF) (g P L : Nat → Int32) (M : FF) {m s : Nat} (hm : M 0 1 = nI m) (h60 : m ≤ 60) (hs : M 0 3 = nI s) (hs2 : s < 1000) (ho : signS M m s = nI 119) (h1 : ¬ dIn M m (s + 1) 0 3) : Ct l K yX5_takesOrder wsX5_takesOrder rmX5_takesOrder [.ref (a 0)] [modR K a (flat F) g P L M] (some (.int (nI 0))) [modR K a (flat F) g P L (u2 (u2 (u2 (u2 M 0 4 (signS M m s)) 0 3 (nI (s + 1))) 0 5 (signS M m (s + 1) - nI 48)) 0 3 (nI (s + 1)))] := by
  refine CtP_of (cc := cX5_takesOrder) (nL := 1) (rt := some .boolean) (own := RX5) (lv0 := [(0, .ref (a 0))]) (by decide) rfl (Nat.le_of_ble_eq_true rfl) rfl rfl ?_
  intro G C0 hF _
  have f152 : Cond.fieldLink RX5 152 "CorkPermitsModel" "order" "I" ∈ wsX5_takesOrder := by decide +kernel
  have iX5 : ∀ w ∈ u_ws RX5 TX5 13, w ∈ wsX5_takesOrder := by decide +kernel
  have f137 : Cond.fieldLink RX5 137 "CorkPermitsModel" "spot" "I" ∈ wsX5_takesOrder := by decide +kernel
  refine J_aln C0 0 dX5_takesOrder_0 (kk := ?_)
  refine J_aln C0 0 dX5_takesOrder_1 (kk := ?_)
  refine J_callVd C0 (mX5_here l K a F g P L M (m := m) (s := s) hm h60 hs (by omega)) [] [modR K a (flat F) g P L M] gX5_takesOrder_X5_here dX5_takesOrder_2 0 0 (kk := ?_)
  show J G _ _ _ _ _ [.int (signS M m s), .ref (a 0)]
  refine J_put C0 iX5 tyX5_ok nmX5 0 0 10 [modR K a (flat F) g P L (u2 M 0 4 (signS M m s))] f152 dX5_takesOrder_5 (hd := rfl) (kk := ?_)
  refine J_aln C0 0 dX5_takesOrder_8 (kk := ?_)
  refine J_get C0 iX5 0 0 10 f152 dX5_takesOrder_9 (v := .int (signS M m s)) (hv := rfl) (kk := ?_)
  refine J_lsw C0 64 dX5_takesOrder_12 (by rw [ho]; decide) (kk := ?_)
  refine J_aln C0 0 dX5_takesOrder_64 (kk := ?_)
  refine J_dup C0 dX5_takesOrder_65 (kk := ?_)
  refine J_get C0 iX5 0 0 9 f137 dX5_takesOrder_66 (v := .int (nI s)) (hv := congrArg (fun z => some (Value.int z)) hs) (kk := ?_)
  refine J_ic C0 1 dX5_takesOrder_69 (kk := ?_)
  refine J_iaddN C0 dX5_takesOrder_70 ?_
  refine J_put C0 iX5 tyX5_ok nmX5 0 0 9 [modR K a (flat F) g P L (u2 (u2 M 0 4 (signS M m s)) 0 3 (nI (s + 1)))] f137 dX5_takesOrder_71 (hd := rfl) (kk := ?_)
  refine J_aln C0 0 dX5_takesOrder_74 (kk := ?_)
  refine J_callVd C0 (mX5_takesPair_n l K a F g P L (u2 (u2 M 0 4 (signS M m s)) 0 3 (nI (s + 1))) (m := m) (s := s + 1) hm h60 rfl (by omega) h1) [] [modR K a (flat F) g P L (u2 (u2 (u2 (u2 M 0 4 (signS M m s)) 0 3 (nI (s + 1))) 0 5 (signS M m (s + 1) - nI 48)) 0 3 (nI (s + 1)))] gX5_takesOrder_X5_takesPair dX5_takesOrder_75 0 0 (kk := ?_)
  show J G _ _ _ _ _ [.int (nI 0)]
  exact J_zret C0 hF dX5_takesOrder_78 (by decide) ⟨rfl, rfl⟩

set_option maxHeartbeats 4000000 in
set_option maxRecDepth 100000 in
theorem mX5_takesOrder_119_yn (l : Launch) (K : KT) (a : Nat → Nat) (F : FF) (g P L : Nat → Int32) (M : FF) {m s : Nat} (hm : M 0 1 = nI m) (h60 : m ≤ 60) (hs : M 0 3 = nI s) (hs2 : s < 1000) (ho : signS M m s = nI 119) (h1 : dIn M m (s + 1) 0 3) (h2 : ¬ dIn M m (s + 2) 0 2) : Ct l K yX5_takesOrder wsX5_takesOrder rmX5_takesOrder [.ref (a 0)] [modR K a (flat F) g P L M] (some (.int (nI 0))) [modR K a (flat F) g P L (u2 (u2 (u2 (u2 (u2 (u2 M 0 4 (signS M m s)) 0 3 (nI (s + 1))) 0 5 (signS M m (s + 1) - nI 48)) 0 3 (nI (s + 2))) 0 6 (signS M m (s + 2) - nI 48)) 0 3 (nI (s + 2)))] := by
  refine CtP_of (cc := cX5_takesOrder) (nL := 1) (rt := some .boolean) (own := RX5) (lv0 := [(0, .ref (a 0))]) (by decide) rfl (Nat.le_of_ble_eq_true rfl) rfl rfl ?_
  intro G C0 hF _
  have f152 : Cond.fieldLink RX5 152 "CorkPermitsModel" "order" "I" ∈ wsX5_takesOrder := by decide +kernel
  have iX5 : ∀ w ∈ u_ws RX5 TX5 13, w ∈ wsX5_takesOrder := by decide +kernel
  have f137 : Cond.fieldLink RX5 137 "CorkPermitsModel" "spot" "I" ∈ wsX5_takesOrder := by decide +kernel
  refine J_aln C0 0 dX5_takesOrder_0 (kk := ?_)
  refine J_aln C0 0 dX5_takesOrder_1 (kk := ?_)
  refine J_callVd C0 (mX5_here l K a F g P L M (m := m) (s := s) hm h60 hs (by omega)) [] [modR K a (flat F) g P L M] gX5_takesOrder_X5_here dX5_takesOrder_2 0 0 (kk := ?_)
  show J G _ _ _ _ _ [.int (signS M m s), .ref (a 0)]
  refine J_put C0 iX5 tyX5_ok nmX5 0 0 10 [modR K a (flat F) g P L (u2 M 0 4 (signS M m s))] f152 dX5_takesOrder_5 (hd := rfl) (kk := ?_)
  refine J_aln C0 0 dX5_takesOrder_8 (kk := ?_)
  refine J_get C0 iX5 0 0 10 f152 dX5_takesOrder_9 (v := .int (signS M m s)) (hv := rfl) (kk := ?_)
  refine J_lsw C0 64 dX5_takesOrder_12 (by rw [ho]; decide) (kk := ?_)
  refine J_aln C0 0 dX5_takesOrder_64 (kk := ?_)
  refine J_dup C0 dX5_takesOrder_65 (kk := ?_)
  refine J_get C0 iX5 0 0 9 f137 dX5_takesOrder_66 (v := .int (nI s)) (hv := congrArg (fun z => some (Value.int z)) hs) (kk := ?_)
  refine J_ic C0 1 dX5_takesOrder_69 (kk := ?_)
  refine J_iaddN C0 dX5_takesOrder_70 ?_
  refine J_put C0 iX5 tyX5_ok nmX5 0 0 9 [modR K a (flat F) g P L (u2 (u2 M 0 4 (signS M m s)) 0 3 (nI (s + 1)))] f137 dX5_takesOrder_71 (hd := rfl) (kk := ?_)
  refine J_aln C0 0 dX5_takesOrder_74 (kk := ?_)
  refine J_callVd C0 (mX5_takesPair_yn l K a F g P L (u2 (u2 M 0 4 (signS M m s)) 0 3 (nI (s + 1))) (m := m) (s := s + 1) hm h60 rfl (by omega) h1 h2) [] [modR K a (flat F) g P L (u2 (u2 (u2 (u2 (u2 (u2 M 0 4 (signS M m s)) 0 3 (nI (s + 1))) 0 5 (signS M m (s + 1) - nI 48)) 0 3 (nI (s + 2))) 0 6 (signS M m (s + 2) - nI 48)) 0 3 (nI (s + 2)))] gX5_takesOrder_X5_takesPair dX5_takesOrder_75 0 0 (kk := ?_)
  show J G _ _ _ _ _ [.int (nI 0)]
  exact J_zret C0 hF dX5_takesOrder_78 (by decide) ⟨rfl, rfl⟩

set_option maxHeartbeats 4000000 in
set_option maxRecDepth 100000 in
theorem mX5_takesOrder_119_yy (l : Launch) (K : KT) (a : Nat → Nat) (F : FF) (g P L : Nat → Int32) (M : FF) {m s : Nat} (hm : M 0 1 = nI m) (h60 : m ≤ 60) (hs : M 0 3 = nI s) (hs2 : s < 1000) (ho : signS M m s = nI 119) (h1 : dIn M m (s + 1) 0 3) (h2 : dIn M m (s + 2) 0 2) : Ct l K yX5_takesOrder wsX5_takesOrder rmX5_takesOrder [.ref (a 0)] [modR K a (flat F) g P L M] (some (.int (nI 1))) [modR K a (flat F) g P L (u2 (u2 (u2 (u2 (u2 (u2 M 0 4 (signS M m s)) 0 3 (nI (s + 1))) 0 5 (signS M m (s + 1) - nI 48)) 0 3 (nI (s + 2))) 0 6 (signS M m (s + 2) - nI 48)) 0 3 (nI (s + 3)))] := by
  refine CtP_of (cc := cX5_takesOrder) (nL := 1) (rt := some .boolean) (own := RX5) (lv0 := [(0, .ref (a 0))]) (by decide) rfl (Nat.le_of_ble_eq_true rfl) rfl rfl ?_
  intro G C0 hF _
  have f152 : Cond.fieldLink RX5 152 "CorkPermitsModel" "order" "I" ∈ wsX5_takesOrder := by decide +kernel
  have iX5 : ∀ w ∈ u_ws RX5 TX5 13, w ∈ wsX5_takesOrder := by decide +kernel
  have f137 : Cond.fieldLink RX5 137 "CorkPermitsModel" "spot" "I" ∈ wsX5_takesOrder := by decide +kernel
  refine J_aln C0 0 dX5_takesOrder_0 (kk := ?_)
  refine J_aln C0 0 dX5_takesOrder_1 (kk := ?_)
  refine J_callVd C0 (mX5_here l K a F g P L M (m := m) (s := s) hm h60 hs (by omega)) [] [modR K a (flat F) g P L M] gX5_takesOrder_X5_here dX5_takesOrder_2 0 0 (kk := ?_)
  show J G _ _ _ _ _ [.int (signS M m s), .ref (a 0)]
  refine J_put C0 iX5 tyX5_ok nmX5 0 0 10 [modR K a (flat F) g P L (u2 M 0 4 (signS M m s))] f152 dX5_takesOrder_5 (hd := rfl) (kk := ?_)
  refine J_aln C0 0 dX5_takesOrder_8 (kk := ?_)
  refine J_get C0 iX5 0 0 10 f152 dX5_takesOrder_9 (v := .int (signS M m s)) (hv := rfl) (kk := ?_)
  refine J_lsw C0 64 dX5_takesOrder_12 (by rw [ho]; decide) (kk := ?_)
  refine J_aln C0 0 dX5_takesOrder_64 (kk := ?_)
  refine J_dup C0 dX5_takesOrder_65 (kk := ?_)
  refine J_get C0 iX5 0 0 9 f137 dX5_takesOrder_66 (v := .int (nI s)) (hv := congrArg (fun z => some (Value.int z)) hs) (kk := ?_)
  refine J_ic C0 1 dX5_takesOrder_69 (kk := ?_)
  refine J_iaddN C0 dX5_takesOrder_70 ?_
  refine J_put C0 iX5 tyX5_ok nmX5 0 0 9 [modR K a (flat F) g P L (u2 (u2 M 0 4 (signS M m s)) 0 3 (nI (s + 1)))] f137 dX5_takesOrder_71 (hd := rfl) (kk := ?_)
  refine J_aln C0 0 dX5_takesOrder_74 (kk := ?_)
  refine J_callVd C0 (mX5_takesPair_yy l K a F g P L (u2 (u2 M 0 4 (signS M m s)) 0 3 (nI (s + 1))) (m := m) (s := s + 1) hm h60 rfl (by omega) h1 h2) [] [modR K a (flat F) g P L (u2 (u2 (u2 (u2 (u2 (u2 M 0 4 (signS M m s)) 0 3 (nI (s + 1))) 0 5 (signS M m (s + 1) - nI 48)) 0 3 (nI (s + 2))) 0 6 (signS M m (s + 2) - nI 48)) 0 3 (nI (s + 3)))] gX5_takesOrder_X5_takesPair dX5_takesOrder_75 0 0 (kk := ?_)
  show J G _ _ _ _ _ [.int (nI 1)]
  exact J_zret C0 hF dX5_takesOrder_78 (by decide) ⟨rfl, rfl⟩

set_option maxHeartbeats 4000000 in
set_option maxRecDepth 100000 in
theorem mX5_takesOrder_100_n (l : Launch) (K : KT) (a : Nat → Nat) (F : FF) (g P L : Nat → Int32) (M : FF) {m s : Nat} (hm : M 0 1 = nI m) (h60 : m ≤ 60) (hs : M 0 3 = nI s) (hs2 : s < 1000) (ho : signS M m s = nI 100) (h1 : ¬ dIn M m (s + 1) 0 2) : Ct l K yX5_takesOrder wsX5_takesOrder rmX5_takesOrder [.ref (a 0)] [modR K a (flat F) g P L M] (some (.int (nI 0))) [modR K a (flat F) g P L (u2 (u2 (u2 (u2 M 0 4 (signS M m s)) 0 3 (nI (s + 1))) 0 5 (signS M m (s + 1) - nI 48)) 0 3 (nI (s + 1)))] := by
  refine CtP_of (cc := cX5_takesOrder) (nL := 1) (rt := some .boolean) (own := RX5) (lv0 := [(0, .ref (a 0))]) (by decide) rfl (Nat.le_of_ble_eq_true rfl) rfl rfl ?_
  intro G C0 hF _
  have f152 : Cond.fieldLink RX5 152 "CorkPermitsModel" "order" "I" ∈ wsX5_takesOrder := by decide +kernel
  have iX5 : ∀ w ∈ u_ws RX5 TX5 13, w ∈ wsX5_takesOrder := by decide +kernel
  have f137 : Cond.fieldLink RX5 137 "CorkPermitsModel" "spot" "I" ∈ wsX5_takesOrder := by decide +kernel
  have f143 : Cond.fieldLink RX5 143 "CorkPermitsModel" "first" "I" ∈ wsX5_takesOrder := by decide +kernel
  refine J_aln C0 0 dX5_takesOrder_0 (kk := ?_)
  refine J_aln C0 0 dX5_takesOrder_1 (kk := ?_)
  refine J_callVd C0 (mX5_here l K a F g P L M (m := m) (s := s) hm h60 hs (by omega)) [] [modR K a (flat F) g P L M] gX5_takesOrder_X5_here dX5_takesOrder_2 0 0 (kk := ?_)
  show J G _ _ _ _ _ [.int (signS M m s), .ref (a 0)]
  refine J_put C0 iX5 tyX5_ok nmX5 0 0 10 [modR K a (flat F) g P L (u2 M 0 4 (signS M m s))] f152 dX5_takesOrder_5 (hd := rfl) (kk := ?_)
  refine J_aln C0 0 dX5_takesOrder_8 (kk := ?_)
  refine J_get C0 iX5 0 0 10 f152 dX5_takesOrder_9 (v := .int (signS M m s)) (hv := rfl) (kk := ?_)
  refine J_lsw C0 79 dX5_takesOrder_12 (by rw [ho]; decide) (kk := ?_)
  refine J_aln C0 0 dX5_takesOrder_79 (kk := ?_)
  refine J_dup C0 dX5_takesOrder_80 (kk := ?_)
  refine J_get C0 iX5 0 0 9 f137 dX5_takesOrder_81 (v := .int (nI s)) (hv := congrArg (fun z => some (Value.int z)) hs) (kk := ?_)
  refine J_ic C0 1 dX5_takesOrder_84 (kk := ?_)
  refine J_iaddN C0 dX5_takesOrder_85 ?_
  refine J_put C0 iX5 tyX5_ok nmX5 0 0 9 [modR K a (flat F) g P L (u2 (u2 M 0 4 (signS M m s)) 0 3 (nI (s + 1)))] f137 dX5_takesOrder_86 (hd := rfl) (kk := ?_)
  refine J_aln C0 0 dX5_takesOrder_89 (kk := ?_)
  refine J_aln C0 0 dX5_takesOrder_90 (kk := ?_)
  refine J_callVd C0 (mX5_here l K a F g P L (u2 (u2 M 0 4 (signS M m s)) 0 3 (nI (s + 1))) (m := m) (s := s + 1) hm h60 rfl (by omega)) [] [modR K a (flat F) g P L (u2 (u2 M 0 4 (signS M m s)) 0 3 (nI (s + 1)))] gX5_takesOrder_X5_here dX5_takesOrder_91 0 0 (kk := ?_)
  show J G _ _ _ _ _ [.int (signS M m (s + 1)), .ref (a 0)]
  refine J_bi C0 48 dX5_takesOrder_94 (kk := ?_)
  refine J_isub C0 dX5_takesOrder_96 ?_
  refine J_put C0 iX5 tyX5_ok nmX5 0 0 11 [modR K a (flat F) g P L (u2 (u2 (u2 M 0 4 (signS M m s)) 0 3 (nI (s + 1))) 0 5 ((signS M m (s + 1)) - (nI 48)))] f143 dX5_takesOrder_97 (hd := rfl) (kk := ?_)
  refine J_aln C0 0 dX5_takesOrder_100 (kk := ?_)
  refine J_ic C0 0 dX5_takesOrder_101 (kk := ?_)
  refine J_ic C0 2 dX5_takesOrder_102 (kk := ?_)
  refine J_callVd C0 (mX5_takesDigit_n l K a F g P L (u2 (u2 (u2 M 0 4 (signS M m s)) 0 3 (nI (s + 1))) 0 5 ((signS M m (s + 1)) - (nI 48))) (m := m) (s := s + 1) hm h60 rfl (by omega) (lo := 0) (hi := 2) (by omega) (by omega) h1) [] [modR K a (flat F) g P L (u2 (u2 (u2 (u2 M 0 4 (signS M m s)) 0 3 (nI (s + 1))) 0 5 ((signS M m (s + 1)) - (nI 48))) 0 3 (nI (s + 1)))] gX5_takesOrder_X5_takesDigit dX5_takesOrder_103 2 0 (kk := ?_)
  show J G _ _ _ _ _ [.int (nI 0)]
  exact J_zret C0 hF dX5_takesOrder_106 (by decide) ⟨rfl, rfl⟩

set_option maxHeartbeats 4000000 in
set_option maxRecDepth 100000 in
theorem mX5_takesOrder_100_y (l : Launch) (K : KT) (a : Nat → Nat) (F : FF) (g P L : Nat → Int32) (M : FF) {m s : Nat} (hm : M 0 1 = nI m) (h60 : m ≤ 60) (hs : M 0 3 = nI s) (hs2 : s < 1000) (ho : signS M m s = nI 100) (h1 : dIn M m (s + 1) 0 2) : Ct l K yX5_takesOrder wsX5_takesOrder rmX5_takesOrder [.ref (a 0)] [modR K a (flat F) g P L M] (some (.int (nI 1))) [modR K a (flat F) g P L (u2 (u2 (u2 (u2 M 0 4 (signS M m s)) 0 3 (nI (s + 1))) 0 5 (signS M m (s + 1) - nI 48)) 0 3 (nI (s + 2)))] := by
  refine CtP_of (cc := cX5_takesOrder) (nL := 1) (rt := some .boolean) (own := RX5) (lv0 := [(0, .ref (a 0))]) (by decide) rfl (Nat.le_of_ble_eq_true rfl) rfl rfl ?_
  intro G C0 hF _
  have f152 : Cond.fieldLink RX5 152 "CorkPermitsModel" "order" "I" ∈ wsX5_takesOrder := by decide +kernel
  have iX5 : ∀ w ∈ u_ws RX5 TX5 13, w ∈ wsX5_takesOrder := by decide +kernel
  have f137 : Cond.fieldLink RX5 137 "CorkPermitsModel" "spot" "I" ∈ wsX5_takesOrder := by decide +kernel
  have f143 : Cond.fieldLink RX5 143 "CorkPermitsModel" "first" "I" ∈ wsX5_takesOrder := by decide +kernel
  refine J_aln C0 0 dX5_takesOrder_0 (kk := ?_)
  refine J_aln C0 0 dX5_takesOrder_1 (kk := ?_)
  refine J_callVd C0 (mX5_here l K a F g P L M (m := m) (s := s) hm h60 hs (by omega)) [] [modR K a (flat F) g P L M] gX5_takesOrder_X5_here dX5_takesOrder_2 0 0 (kk := ?_)
  show J G _ _ _ _ _ [.int (signS M m s), .ref (a 0)]
  refine J_put C0 iX5 tyX5_ok nmX5 0 0 10 [modR K a (flat F) g P L (u2 M 0 4 (signS M m s))] f152 dX5_takesOrder_5 (hd := rfl) (kk := ?_)
  refine J_aln C0 0 dX5_takesOrder_8 (kk := ?_)
  refine J_get C0 iX5 0 0 10 f152 dX5_takesOrder_9 (v := .int (signS M m s)) (hv := rfl) (kk := ?_)
  refine J_lsw C0 79 dX5_takesOrder_12 (by rw [ho]; decide) (kk := ?_)
  refine J_aln C0 0 dX5_takesOrder_79 (kk := ?_)
  refine J_dup C0 dX5_takesOrder_80 (kk := ?_)
  refine J_get C0 iX5 0 0 9 f137 dX5_takesOrder_81 (v := .int (nI s)) (hv := congrArg (fun z => some (Value.int z)) hs) (kk := ?_)
  refine J_ic C0 1 dX5_takesOrder_84 (kk := ?_)
  refine J_iaddN C0 dX5_takesOrder_85 ?_
  refine J_put C0 iX5 tyX5_ok nmX5 0 0 9 [modR K a (flat F) g P L (u2 (u2 M 0 4 (signS M m s)) 0 3 (nI (s + 1)))] f137 dX5_takesOrder_86 (hd := rfl) (kk := ?_)
  refine J_aln C0 0 dX5_takesOrder_89 (kk := ?_)
  refine J_aln C0 0 dX5_takesOrder_90 (kk := ?_)
  refine J_callVd C0 (mX5_here l K a F g P L (u2 (u2 M 0 4 (signS M m s)) 0 3 (nI (s + 1))) (m := m) (s := s + 1) hm h60 rfl (by omega)) [] [modR K a (flat F) g P L (u2 (u2 M 0 4 (signS M m s)) 0 3 (nI (s + 1)))] gX5_takesOrder_X5_here dX5_takesOrder_91 0 0 (kk := ?_)
  show J G _ _ _ _ _ [.int (signS M m (s + 1)), .ref (a 0)]
  refine J_bi C0 48 dX5_takesOrder_94 (kk := ?_)
  refine J_isub C0 dX5_takesOrder_96 ?_
  refine J_put C0 iX5 tyX5_ok nmX5 0 0 11 [modR K a (flat F) g P L (u2 (u2 (u2 M 0 4 (signS M m s)) 0 3 (nI (s + 1))) 0 5 ((signS M m (s + 1)) - (nI 48)))] f143 dX5_takesOrder_97 (hd := rfl) (kk := ?_)
  refine J_aln C0 0 dX5_takesOrder_100 (kk := ?_)
  refine J_ic C0 0 dX5_takesOrder_101 (kk := ?_)
  refine J_ic C0 2 dX5_takesOrder_102 (kk := ?_)
  refine J_callVd C0 (mX5_takesDigit_y l K a F g P L (u2 (u2 (u2 M 0 4 (signS M m s)) 0 3 (nI (s + 1))) 0 5 ((signS M m (s + 1)) - (nI 48))) (m := m) (s := s + 1) hm h60 rfl (by omega) (lo := 0) (hi := 2) (by omega) (by omega) h1) [] [modR K a (flat F) g P L (u2 (u2 (u2 (u2 M 0 4 (signS M m s)) 0 3 (nI (s + 1))) 0 5 ((signS M m (s + 1)) - (nI 48))) 0 3 (nI (s + 2)))] gX5_takesOrder_X5_takesDigit dX5_takesOrder_103 2 0 (kk := ?_)
  show J G _ _ _ _ _ [.int (nI 1)]
  exact J_zret C0 hF dX5_takesOrder_106 (by decide) ⟨rfl, rfl⟩

set_option maxHeartbeats 4000000 in
set_option maxRecDepth 100000 in
theorem mX5_takesOrder_116_n (l : Launch) (K : KT) (a : Nat → Nat) (F : FF) (g P L : Nat → Int32) (M : FF) {m s : Nat} (hm : M 0 1 = nI m) (h60 : m ≤ 60) (hs : M 0 3 = nI s) (hs2 : s < 1000) (ho : signS M m s = nI 116) (h1 : ¬ dIn M m (s + 1) 1 9) : Ct l K yX5_takesOrder wsX5_takesOrder rmX5_takesOrder [.ref (a 0)] [modR K a (flat F) g P L M] (some (.int (nI 0))) [modR K a (flat F) g P L (u2 (u2 (u2 (u2 M 0 4 (signS M m s)) 0 3 (nI (s + 1))) 0 5 (signS M m (s + 1) - nI 48)) 0 3 (nI (s + 1)))] := by
  refine CtP_of (cc := cX5_takesOrder) (nL := 1) (rt := some .boolean) (own := RX5) (lv0 := [(0, .ref (a 0))]) (by decide) rfl (Nat.le_of_ble_eq_true rfl) rfl rfl ?_
  intro G C0 hF _
  have f152 : Cond.fieldLink RX5 152 "CorkPermitsModel" "order" "I" ∈ wsX5_takesOrder := by decide +kernel
  have iX5 : ∀ w ∈ u_ws RX5 TX5 13, w ∈ wsX5_takesOrder := by decide +kernel
  have f137 : Cond.fieldLink RX5 137 "CorkPermitsModel" "spot" "I" ∈ wsX5_takesOrder := by decide +kernel
  have f143 : Cond.fieldLink RX5 143 "CorkPermitsModel" "first" "I" ∈ wsX5_takesOrder := by decide +kernel
  refine J_aln C0 0 dX5_takesOrder_0 (kk := ?_)
  refine J_aln C0 0 dX5_takesOrder_1 (kk := ?_)
  refine J_callVd C0 (mX5_here l K a F g P L M (m := m) (s := s) hm h60 hs (by omega)) [] [modR K a (flat F) g P L M] gX5_takesOrder_X5_here dX5_takesOrder_2 0 0 (kk := ?_)
  show J G _ _ _ _ _ [.int (signS M m s), .ref (a 0)]
  refine J_put C0 iX5 tyX5_ok nmX5 0 0 10 [modR K a (flat F) g P L (u2 M 0 4 (signS M m s))] f152 dX5_takesOrder_5 (hd := rfl) (kk := ?_)
  refine J_aln C0 0 dX5_takesOrder_8 (kk := ?_)
  refine J_get C0 iX5 0 0 10 f152 dX5_takesOrder_9 (v := .int (signS M m s)) (hv := rfl) (kk := ?_)
  refine J_lsw C0 107 dX5_takesOrder_12 (by rw [ho]; decide) (kk := ?_)
  refine J_aln C0 0 dX5_takesOrder_107 (kk := ?_)
  refine J_dup C0 dX5_takesOrder_108 (kk := ?_)
  refine J_get C0 iX5 0 0 9 f137 dX5_takesOrder_109 (v := .int (nI s)) (hv := congrArg (fun z => some (Value.int z)) hs) (kk := ?_)
  refine J_ic C0 1 dX5_takesOrder_112 (kk := ?_)
  refine J_iaddN C0 dX5_takesOrder_113 ?_
  refine J_put C0 iX5 tyX5_ok nmX5 0 0 9 [modR K a (flat F) g P L (u2 (u2 M 0 4 (signS M m s)) 0 3 (nI (s + 1)))] f137 dX5_takesOrder_114 (hd := rfl) (kk := ?_)
  refine J_aln C0 0 dX5_takesOrder_117 (kk := ?_)
  refine J_aln C0 0 dX5_takesOrder_118 (kk := ?_)
  refine J_callVd C0 (mX5_here l K a F g P L (u2 (u2 M 0 4 (signS M m s)) 0 3 (nI (s + 1))) (m := m) (s := s + 1) hm h60 rfl (by omega)) [] [modR K a (flat F) g P L (u2 (u2 M 0 4 (signS M m s)) 0 3 (nI (s + 1)))] gX5_takesOrder_X5_here dX5_takesOrder_119 0 0 (kk := ?_)
  show J G _ _ _ _ _ [.int (signS M m (s + 1)), .ref (a 0)]
  refine J_bi C0 48 dX5_takesOrder_122 (kk := ?_)
  refine J_isub C0 dX5_takesOrder_124 ?_
  refine J_put C0 iX5 tyX5_ok nmX5 0 0 11 [modR K a (flat F) g P L (u2 (u2 (u2 M 0 4 (signS M m s)) 0 3 (nI (s + 1))) 0 5 ((signS M m (s + 1)) - (nI 48)))] f143 dX5_takesOrder_125 (hd := rfl) (kk := ?_)
  refine J_aln C0 0 dX5_takesOrder_128 (kk := ?_)
  refine J_ic C0 1 dX5_takesOrder_129 (kk := ?_)
  refine J_bi C0 9 dX5_takesOrder_130 (kk := ?_)
  refine J_callVd C0 (mX5_takesDigit_n l K a F g P L (u2 (u2 (u2 M 0 4 (signS M m s)) 0 3 (nI (s + 1))) 0 5 ((signS M m (s + 1)) - (nI 48))) (m := m) (s := s + 1) hm h60 rfl (by omega) (lo := 1) (hi := 9) (by omega) (by omega) h1) [] [modR K a (flat F) g P L (u2 (u2 (u2 (u2 M 0 4 (signS M m s)) 0 3 (nI (s + 1))) 0 5 ((signS M m (s + 1)) - (nI 48))) 0 3 (nI (s + 1)))] gX5_takesOrder_X5_takesDigit dX5_takesOrder_132 2 0 (kk := ?_)
  show J G _ _ _ _ _ [.int (nI 0)]
  exact J_zret C0 hF dX5_takesOrder_135 (by decide) ⟨rfl, rfl⟩

set_option maxHeartbeats 4000000 in
set_option maxRecDepth 100000 in
theorem mX5_takesOrder_116_y (l : Launch) (K : KT) (a : Nat → Nat) (F : FF) (g P L : Nat → Int32) (M : FF) {m s : Nat} (hm : M 0 1 = nI m) (h60 : m ≤ 60) (hs : M 0 3 = nI s) (hs2 : s < 1000) (ho : signS M m s = nI 116) (h1 : dIn M m (s + 1) 1 9) : Ct l K yX5_takesOrder wsX5_takesOrder rmX5_takesOrder [.ref (a 0)] [modR K a (flat F) g P L M] (some (.int (nI 1))) [modR K a (flat F) g P L (u2 (u2 (u2 (u2 M 0 4 (signS M m s)) 0 3 (nI (s + 1))) 0 5 (signS M m (s + 1) - nI 48)) 0 3 (nI (s + 2)))] := by
  refine CtP_of (cc := cX5_takesOrder) (nL := 1) (rt := some .boolean) (own := RX5) (lv0 := [(0, .ref (a 0))]) (by decide) rfl (Nat.le_of_ble_eq_true rfl) rfl rfl ?_
  intro G C0 hF _
  have f152 : Cond.fieldLink RX5 152 "CorkPermitsModel" "order" "I" ∈ wsX5_takesOrder := by decide +kernel
  have iX5 : ∀ w ∈ u_ws RX5 TX5 13, w ∈ wsX5_takesOrder := by decide +kernel
  have f137 : Cond.fieldLink RX5 137 "CorkPermitsModel" "spot" "I" ∈ wsX5_takesOrder := by decide +kernel
  have f143 : Cond.fieldLink RX5 143 "CorkPermitsModel" "first" "I" ∈ wsX5_takesOrder := by decide +kernel
  refine J_aln C0 0 dX5_takesOrder_0 (kk := ?_)
  refine J_aln C0 0 dX5_takesOrder_1 (kk := ?_)
  refine J_callVd C0 (mX5_here l K a F g P L M (m := m) (s := s) hm h60 hs (by omega)) [] [modR K a (flat F) g P L M] gX5_takesOrder_X5_here dX5_takesOrder_2 0 0 (kk := ?_)
  show J G _ _ _ _ _ [.int (signS M m s), .ref (a 0)]
  refine J_put C0 iX5 tyX5_ok nmX5 0 0 10 [modR K a (flat F) g P L (u2 M 0 4 (signS M m s))] f152 dX5_takesOrder_5 (hd := rfl) (kk := ?_)
  refine J_aln C0 0 dX5_takesOrder_8 (kk := ?_)
  refine J_get C0 iX5 0 0 10 f152 dX5_takesOrder_9 (v := .int (signS M m s)) (hv := rfl) (kk := ?_)
  refine J_lsw C0 107 dX5_takesOrder_12 (by rw [ho]; decide) (kk := ?_)
  refine J_aln C0 0 dX5_takesOrder_107 (kk := ?_)
  refine J_dup C0 dX5_takesOrder_108 (kk := ?_)
  refine J_get C0 iX5 0 0 9 f137 dX5_takesOrder_109 (v := .int (nI s)) (hv := congrArg (fun z => some (Value.int z)) hs) (kk := ?_)
  refine J_ic C0 1 dX5_takesOrder_112 (kk := ?_)
  refine J_iaddN C0 dX5_takesOrder_113 ?_
  refine J_put C0 iX5 tyX5_ok nmX5 0 0 9 [modR K a (flat F) g P L (u2 (u2 M 0 4 (signS M m s)) 0 3 (nI (s + 1)))] f137 dX5_takesOrder_114 (hd := rfl) (kk := ?_)
  refine J_aln C0 0 dX5_takesOrder_117 (kk := ?_)
  refine J_aln C0 0 dX5_takesOrder_118 (kk := ?_)
  refine J_callVd C0 (mX5_here l K a F g P L (u2 (u2 M 0 4 (signS M m s)) 0 3 (nI (s + 1))) (m := m) (s := s + 1) hm h60 rfl (by omega)) [] [modR K a (flat F) g P L (u2 (u2 M 0 4 (signS M m s)) 0 3 (nI (s + 1)))] gX5_takesOrder_X5_here dX5_takesOrder_119 0 0 (kk := ?_)
  show J G _ _ _ _ _ [.int (signS M m (s + 1)), .ref (a 0)]
  refine J_bi C0 48 dX5_takesOrder_122 (kk := ?_)
  refine J_isub C0 dX5_takesOrder_124 ?_
  refine J_put C0 iX5 tyX5_ok nmX5 0 0 11 [modR K a (flat F) g P L (u2 (u2 (u2 M 0 4 (signS M m s)) 0 3 (nI (s + 1))) 0 5 ((signS M m (s + 1)) - (nI 48)))] f143 dX5_takesOrder_125 (hd := rfl) (kk := ?_)
  refine J_aln C0 0 dX5_takesOrder_128 (kk := ?_)
  refine J_ic C0 1 dX5_takesOrder_129 (kk := ?_)
  refine J_bi C0 9 dX5_takesOrder_130 (kk := ?_)
  refine J_callVd C0 (mX5_takesDigit_y l K a F g P L (u2 (u2 (u2 M 0 4 (signS M m s)) 0 3 (nI (s + 1))) 0 5 ((signS M m (s + 1)) - (nI 48))) (m := m) (s := s + 1) hm h60 rfl (by omega) (lo := 1) (hi := 9) (by omega) (by omega) h1) [] [modR K a (flat F) g P L (u2 (u2 (u2 (u2 M 0 4 (signS M m s)) 0 3 (nI (s + 1))) 0 5 ((signS M m (s + 1)) - (nI 48))) 0 3 (nI (s + 2)))] gX5_takesOrder_X5_takesDigit dX5_takesOrder_132 2 0 (kk := ?_)
  show J G _ _ _ _ _ [.int (nI 1)]
  exact J_zret C0 hF dX5_takesOrder_135 (by decide) ⟨rfl, rfl⟩

set_option maxHeartbeats 4000000 in
set_option maxRecDepth 100000 in
theorem mX5_takesOrder_no (l : Launch) (K : KT) (a : Nat → Nat) (F : FF) (g P L : Nat → Int32) (M : FF) {m s : Nat} (hm : M 0 1 = nI m) (h60 : m ≤ 60) (hs : M 0 3 = nI s) (hs2 : s < 1000) (h100 : ¬ signS M m s = nI 100) (h108 : ¬ signS M m s = nI 108) (h113 : ¬ signS M m s = nI 113) (h116 : ¬ signS M m s = nI 116) (h119 : ¬ signS M m s = nI 119) : Ct l K yX5_takesOrder wsX5_takesOrder rmX5_takesOrder [.ref (a 0)] [modR K a (flat F) g P L M] (some (.int (nI 0))) [modR K a (flat F) g P L (u2 M 0 4 (signS M m s))] := by
  refine CtP_of (cc := cX5_takesOrder) (nL := 1) (rt := some .boolean) (own := RX5) (lv0 := [(0, .ref (a 0))]) (by decide) rfl (Nat.le_of_ble_eq_true rfl) rfl rfl ?_
  intro G C0 hF _
  have f152 : Cond.fieldLink RX5 152 "CorkPermitsModel" "order" "I" ∈ wsX5_takesOrder := by decide +kernel
  have iX5 : ∀ w ∈ u_ws RX5 TX5 13, w ∈ wsX5_takesOrder := by decide +kernel
  refine J_aln C0 0 dX5_takesOrder_0 (kk := ?_)
  refine J_aln C0 0 dX5_takesOrder_1 (kk := ?_)
  refine J_callVd C0 (mX5_here l K a F g P L M (m := m) (s := s) hm h60 hs (by omega)) [] [modR K a (flat F) g P L M] gX5_takesOrder_X5_here dX5_takesOrder_2 0 0 (kk := ?_)
  show J G _ _ _ _ _ [.int (signS M m s), .ref (a 0)]
  refine J_put C0 iX5 tyX5_ok nmX5 0 0 10 [modR K a (flat F) g P L (u2 M 0 4 (signS M m s))] f152 dX5_takesOrder_5 (hd := rfl) (kk := ?_)
  refine J_aln C0 0 dX5_takesOrder_8 (kk := ?_)
  refine J_get C0 iX5 0 0 10 f152 dX5_takesOrder_9 (v := .int (signS M m s)) (hv := rfl) (kk := ?_)
  refine J_lsw C0 136 dX5_takesOrder_12 (by show Op.lookupswitch.offset [(100, 67), (108, 52), (113, 52), (116, 95), (119, 52)] 124 (signS M m s).toInt = _; rw [lv_osw h100 (by decide), lv_osw h108 (by decide), lv_osw h113 (by decide), lv_osw h116 (by decide), lv_osw h119 (by decide)]; rfl) (kk := ?_)
  refine J_ic C0 0 dX5_takesOrder_136 (kk := ?_)
  exact J_zret C0 hF dX5_takesOrder_137 (by decide) ⟨rfl, rfl⟩

theorem ab_ft {s : Nat} (h : ((false, s) : Bool × Nat).1 = true) : False := Bool.noConfusion h
theorem ab_tf {s : Nat} (h : ((true, s) : Bool × Nat).1 = false) : False := Bool.noConfusion h
def prO (M : FF) (m s : Nat) : Bool × Nat :=
  if signS M m s = nI 108 ∨ signS M m s = nI 113 ∨ signS M m s = nI 119 then (if dIn M m (s + 1) 0 3 then (if dIn M m (s + 2) 0 2 then (true, s + 3) else (false, s + 2)) else (false, s + 1))
  else if signS M m s = nI 100 then (if dIn M m (s + 1) 0 2 then (true, s + 2) else (false, s + 1))
  else if signS M m s = nI 116 then (if dIn M m (s + 1) 1 9 then (true, s + 2) else (false, s + 1))
  else (false, s)
/-- the text and what is saved stay -/
def Kp (M M' : FF) : Prop := (∀ i, i ≠ 0 → M' i = M i) ∧ ∀ j, j < 3 → M' 0 j = M 0 j
theorem Kp.rf (M : FF) : Kp M M := ⟨fun _ _ => rfl, fun _ _ => rfl⟩
theorem Kp.u {M M' : FF} (h : Kp M M') {j : Nat} {x : Int32} (hj : 3 ≤ j) : Kp M (u2 M' 0 j x) := ⟨fun i hi => (u2_i hi).trans (h.1 i hi), fun k hk => by rw [u2_12, if_neg (by omega)]; exact h.2 k hk⟩
theorem Kp.tr {M M' M2 : FF} (h : Kp M M') (h2 : Kp M' M2) : Kp M M2 := ⟨fun i hi => (h2.1 i hi).trans (h.1 i hi), fun k hk => (h2.2 k hk).trans (h.2 k hk)⟩
theorem Kp.sign {M M' : FF} (h : Kp M M') (m s : Nat) : signS M' m s = signS M m s := by unfold signS; rw [h.1 2 (by decide)]
def TOpost (M : FF) (m s : Nat) (M' : FF) : Prop := Kp M M' ∧ M' 0 3 = nI (prO M m s).2 ∧ M' 0 4 = signS M m s ∧ ((prO M m s).1 = true → M' 0 5 = signS M m (s + 1) - nI 48 ∧ ((signS M m s = nI 108 ∨ signS M m s = nI 113 ∨ signS M m s = nI 119) → M' 0 6 = signS M m (s + 2) - nI 48))
theorem mX5_takesOrder (l : Launch) (K : KT) (a : Nat → Nat) (F : FF) (g P L : Nat → Int32) (M : FF) {m s : Nat} (hm : M 0 1 = nI m) (h60 : m ≤ 60) (hs : M 0 3 = nI s) (hs2 : s < 1000) : CtP l K yX5_takesOrder wsX5_takesOrder rmX5_takesOrder [.ref (a 0)] [modR K a (flat F) g P L M] (fun r w => ∃ M', r = some (.int (if (prO M m s).1 = true then nI 1 else nI 0)) ∧ w = [modR K a (flat F) g P L M'] ∧ TOpost M m s M') := by
  have d100 : ¬ (nI 100 = nI 108 ∨ nI 100 = nI 113 ∨ nI 100 = nI 119) := by decide
  have d116 : ¬ (nI 116 = nI 108 ∨ nI 116 = nI 113 ∨ nI 116 = nI 119) := by decide
  have d116b : ¬ nI 116 = nI 100 := by decide
  by_cases h108 : signS M m s = nI 108
  · have c0 : signS M m s = nI 108 ∨ signS M m s = nI 113 ∨ signS M m s = nI 119 := by exact Or.inl h108
    by_cases h1 : dIn M m (s + 1) 0 3
    · by_cases h2 : dIn M m (s + 2) 0 2
      · have hp : prO M m s = (true, s + 3) := by unfold prO; rw [if_pos c0, if_pos h1, if_pos h2]
        refine (mX5_takesOrder_108_yy l K a F g P L M hm h60 hs hs2 h108 h1 h2).mono (fun r w h => ⟨_, h.1.trans (by rw [hp]; rfl), h.2, (((((((Kp.rf M).u (by decide)).u (by decide)).u (by decide)).u (by decide)).u (by decide)).u (by decide)), by rw [hp]; rfl, rfl, fun _ => ⟨rfl, fun _ => rfl⟩⟩)
      · have hp : prO M m s = (false, s + 2) := by unfold prO; rw [if_pos c0, if_pos h1, if_neg h2]
        refine (mX5_takesOrder_108_yn l K a F g P L M hm h60 hs hs2 h108 h1 h2).mono (fun r w h => ⟨_, h.1.trans (by rw [hp]; rfl), h.2, (((((((Kp.rf M).u (by decide)).u (by decide)).u (by decide)).u (by decide)).u (by decide)).u (by decide)), by rw [hp]; rfl, rfl, fun z => (ab_ft (hp ▸ z)).elim⟩)
    · have hp : prO M m s = (false, s + 1) := by unfold prO; rw [if_pos c0, if_neg h1]
      refine (mX5_takesOrder_108_n l K a F g P L M hm h60 hs hs2 h108 h1).mono (fun r w h => ⟨_, h.1.trans (by rw [hp]; rfl), h.2, (((((Kp.rf M).u (by decide)).u (by decide)).u (by decide)).u (by decide)), by rw [hp]; rfl, rfl, fun z => (ab_ft (hp ▸ z)).elim⟩)
  by_cases h113 : signS M m s = nI 113
  · have c0 : signS M m s = nI 108 ∨ signS M m s = nI 113 ∨ signS M m s = nI 119 := by exact Or.inr (Or.inl h113)
    by_cases h1 : dIn M m (s + 1) 0 3
    · by_cases h2 : dIn M m (s + 2) 0 2
      · have hp : prO M m s = (true, s + 3) := by unfold prO; rw [if_pos c0, if_pos h1, if_pos h2]
        refine (mX5_takesOrder_113_yy l K a F g P L M hm h60 hs hs2 h113 h1 h2).mono (fun r w h => ⟨_, h.1.trans (by rw [hp]; rfl), h.2, (((((((Kp.rf M).u (by decide)).u (by decide)).u (by decide)).u (by decide)).u (by decide)).u (by decide)), by rw [hp]; rfl, rfl, fun _ => ⟨rfl, fun _ => rfl⟩⟩)
      · have hp : prO M m s = (false, s + 2) := by unfold prO; rw [if_pos c0, if_pos h1, if_neg h2]
        refine (mX5_takesOrder_113_yn l K a F g P L M hm h60 hs hs2 h113 h1 h2).mono (fun r w h => ⟨_, h.1.trans (by rw [hp]; rfl), h.2, (((((((Kp.rf M).u (by decide)).u (by decide)).u (by decide)).u (by decide)).u (by decide)).u (by decide)), by rw [hp]; rfl, rfl, fun z => (ab_ft (hp ▸ z)).elim⟩)
    · have hp : prO M m s = (false, s + 1) := by unfold prO; rw [if_pos c0, if_neg h1]
      refine (mX5_takesOrder_113_n l K a F g P L M hm h60 hs hs2 h113 h1).mono (fun r w h => ⟨_, h.1.trans (by rw [hp]; rfl), h.2, (((((Kp.rf M).u (by decide)).u (by decide)).u (by decide)).u (by decide)), by rw [hp]; rfl, rfl, fun z => (ab_ft (hp ▸ z)).elim⟩)
  by_cases h119 : signS M m s = nI 119
  · have c0 : signS M m s = nI 108 ∨ signS M m s = nI 113 ∨ signS M m s = nI 119 := by exact Or.inr (Or.inr h119)
    by_cases h1 : dIn M m (s + 1) 0 3
    · by_cases h2 : dIn M m (s + 2) 0 2
      · have hp : prO M m s = (true, s + 3) := by unfold prO; rw [if_pos c0, if_pos h1, if_pos h2]
        refine (mX5_takesOrder_119_yy l K a F g P L M hm h60 hs hs2 h119 h1 h2).mono (fun r w h => ⟨_, h.1.trans (by rw [hp]; rfl), h.2, (((((((Kp.rf M).u (by decide)).u (by decide)).u (by decide)).u (by decide)).u (by decide)).u (by decide)), by rw [hp]; rfl, rfl, fun _ => ⟨rfl, fun _ => rfl⟩⟩)
      · have hp : prO M m s = (false, s + 2) := by unfold prO; rw [if_pos c0, if_pos h1, if_neg h2]
        refine (mX5_takesOrder_119_yn l K a F g P L M hm h60 hs hs2 h119 h1 h2).mono (fun r w h => ⟨_, h.1.trans (by rw [hp]; rfl), h.2, (((((((Kp.rf M).u (by decide)).u (by decide)).u (by decide)).u (by decide)).u (by decide)).u (by decide)), by rw [hp]; rfl, rfl, fun z => (ab_ft (hp ▸ z)).elim⟩)
    · have hp : prO M m s = (false, s + 1) := by unfold prO; rw [if_pos c0, if_neg h1]
      refine (mX5_takesOrder_119_n l K a F g P L M hm h60 hs hs2 h119 h1).mono (fun r w h => ⟨_, h.1.trans (by rw [hp]; rfl), h.2, (((((Kp.rf M).u (by decide)).u (by decide)).u (by decide)).u (by decide)), by rw [hp]; rfl, rfl, fun z => (ab_ft (hp ▸ z)).elim⟩)
  have c0 : ¬ (signS M m s = nI 108 ∨ signS M m s = nI 113 ∨ signS M m s = nI 119) := fun z => z.elim h108 (fun z => z.elim h113 h119)
  by_cases h100 : signS M m s = nI 100
  · by_cases h1 : dIn M m (s + 1) 0 2
    · have hp : prO M m s = (true, s + 2) := by unfold prO; rw [if_neg c0, if_pos h100, if_pos h1]
      refine (mX5_takesOrder_100_y l K a F g P L M hm h60 hs hs2 h100 h1).mono (fun r w h => ⟨_, h.1.trans (by rw [hp]; rfl), h.2, (((((Kp.rf M).u (by decide)).u (by decide)).u (by decide)).u (by decide)), by rw [hp]; rfl, rfl, fun _ => ⟨rfl, fun z => absurd z c0⟩⟩)
    · have hp : prO M m s = (false, s + 1) := by unfold prO; rw [if_neg c0, if_pos h100, if_neg h1]
      refine (mX5_takesOrder_100_n l K a F g P L M hm h60 hs hs2 h100 h1).mono (fun r w h => ⟨_, h.1.trans (by rw [hp]; rfl), h.2, (((((Kp.rf M).u (by decide)).u (by decide)).u (by decide)).u (by decide)), by rw [hp]; rfl, rfl, fun z => (ab_ft (hp ▸ z)).elim⟩)
  by_cases h116 : signS M m s = nI 116
  · by_cases h1 : dIn M m (s + 1) 1 9
    · have hp : prO M m s = (true, s + 2) := by unfold prO; rw [if_neg c0, if_neg h100, if_pos h116, if_pos h1]
      refine (mX5_takesOrder_116_y l K a F g P L M hm h60 hs hs2 h116 h1).mono (fun r w h => ⟨_, h.1.trans (by rw [hp]; rfl), h.2, (((((Kp.rf M).u (by decide)).u (by decide)).u (by decide)).u (by decide)), by rw [hp]; rfl, rfl, fun _ => ⟨rfl, fun z => absurd z c0⟩⟩)
    · have hp : prO M m s = (false, s + 1) := by unfold prO; rw [if_neg c0, if_neg h100, if_pos h116, if_neg h1]
      refine (mX5_takesOrder_116_n l K a F g P L M hm h60 hs hs2 h116 h1).mono (fun r w h => ⟨_, h.1.trans (by rw [hp]; rfl), h.2, (((((Kp.rf M).u (by decide)).u (by decide)).u (by decide)).u (by decide)), by rw [hp]; rfl, rfl, fun z => (ab_ft (hp ▸ z)).elim⟩)
  have hp : prO M m s = (false, s) := by unfold prO; rw [if_neg c0, if_neg h100, if_neg h116]
  refine (mX5_takesOrder_no l K a F g P L M hm h60 hs hs2 h100 h108 h113 h116 h119).mono (fun r w h => ⟨_, h.1.trans (by rw [hp]; rfl), h.2, ((Kp.rf M).u (by decide)), by rw [hp]; exact hs, rfl, fun z => (ab_ft (hp ▸ z)).elim⟩)
