/-! what the calls ask of their arguments -/
theorem mX5_isKind_y (l : Launch) (K : KT) {x : Int32} (h : ¬ x < nI 0 ∧ ¬ nI 2 < x) : Ct l K yX5_isKind wsX5_isKind rmX5_isKind [.int x] [] (some (.int (nI 1))) [] := by
  have q := mX5_isKind l K x
  rwa [if_pos h] at q
theorem mX5_isKind_n (l : Launch) (K : KT) {x : Int32} (h : ¬ (¬ x < nI 0 ∧ ¬ nI 2 < x)) : Ct l K yX5_isKind wsX5_isKind rmX5_isKind [.int x] [] (some (.int (nI 0))) [] := by
  have q := mX5_isKind l K x
  rwa [if_neg h] at q
theorem mX5_isPair_y (l : Launch) (K : KT) (a : Nat → Nat) (F : FF) (g P L : Nat → Int32) (M : FF) {x y : Int32} (h : isPr F x y) : Ct l K yX5_isPair wsX5_isPair rmX5_isPair [.ref (a 0), .int x, .int y] [modR K a (flat F) g P L M] (some (.int (nI 1))) [modR K a (flat F) g P L M] := by
  have q := mX5_isPair l K a F g P L M x y
  rwa [if_pos h] at q
theorem mX5_isPair_n (l : Launch) (K : KT) (a : Nat → Nat) (F : FF) (g P L : Nat → Int32) (M : FF) {x y : Int32} (h : ¬ isPr F x y) : Ct l K yX5_isPair wsX5_isPair rmX5_isPair [.ref (a 0), .int x, .int y] [modR K a (flat F) g P L M] (some (.int (nI 0))) [modR K a (flat F) g P L M] := by
  have q := mX5_isPair l K a F g P L M x y
  rwa [if_neg h] at q
theorem mX5_hasRoom_y (l : Launch) (K : KT) (a : Nat → Nat) (F : FF) (g P L : Nat → Int32) (M : FF) (h : roomS F) : Ct l K yX5_hasRoom wsX5_hasRoom rmX5_hasRoom [.ref (a 0)] [modR K a (flat F) g P L M] (some (.int (nI 1))) [modR K a (flat F) g P L M] := by
  have q := mX5_hasRoom l K a F g P L M 
  rwa [if_pos h] at q
theorem mX5_hasRoom_n (l : Launch) (K : KT) (a : Nat → Nat) (F : FF) (g P L : Nat → Int32) (M : FF) (h : ¬ roomS F) : Ct l K yX5_hasRoom wsX5_hasRoom rmX5_hasRoom [.ref (a 0)] [modR K a (flat F) g P L M] (some (.int (nI 0))) [modR K a (flat F) g P L M] := by
  have q := mX5_hasRoom l K a F g P L M 
  rwa [if_neg h] at q
theorem mX5_canLend_y (l : Launch) (K : KT) (a : Nat → Nat) (F : FF) (g P L : Nat → Int32) (M : FF) {B hn n : Nat} {N : Nat → Nat → Nat} (hv : InvN B F hn n N) {k : Nat} (hk : k < 3) (h : canLendS F k) : Ct l K yX5_canLend wsX5_canLend rmX5_canLend [.ref (a 0), .int (nI k)] [modR K a (flat F) g P L M] (some (.int (nI 1))) [modR K a (flat F) g P L M] := by
  have q := mX5_canLend l K a F g P L M hv hk
  rwa [if_pos h] at q
theorem mX5_canLend_n (l : Launch) (K : KT) (a : Nat → Nat) (F : FF) (g P L : Nat → Int32) (M : FF) {B hn n : Nat} {N : Nat → Nat → Nat} (hv : InvN B F hn n N) {k : Nat} (hk : k < 3) (h : ¬ canLendS F k) : Ct l K yX5_canLend wsX5_canLend rmX5_canLend [.ref (a 0), .int (nI k)] [modR K a (flat F) g P L M] (some (.int (nI 0))) [modR K a (flat F) g P L M] := by
  have q := mX5_canLend l K a F g P L M hv hk
  rwa [if_neg h] at q
theorem inN_y {v lo hi : Nat} (h1 : lo ≤ v) (h2 : v ≤ hi) (h3 : hi < 2 ^ 31) : ¬ nI v < nI lo ∧ ¬ nI hi < nI v := ⟨nI_nlt h1 (by omega), nI_nlt h2 (by omega)⟩
theorem flat_zero {B hn n : Nat} {F : FF} {N : Nat → Nat → Nat} (hv : InvN B F hn n N) {j : Nat} (h1 : 23 + 15 * hn ≤ j) (h2 : j < 83) : flat F j = 0 := by
  have h4 := hv.1.2
  obtain ⟨p, c, hc, e⟩ : ∃ p c, c < 5 ∧ j = 23 + 5 * p + c := ⟨(j - 23) / 5, (j - 23) % 5, by omega, by omega⟩
  have hp : p < 12 := by omega
  rw [flat_p F e hp hc]
  have hz := hv.2.2.2.2.2.1 p (by omega) hp
  have hq := hv.p hp
  rcases (show c = 0 ∨ c = 1 ∨ c = 2 ∨ c = 3 ∨ c = 4 by omega) with rfl | rfl | rfl | rfl | rfl
  · rw [hv.F7 hp, hz.1]; rfl
  · rw [hv.F8 hp, show N 8 p = 0 by omega]; rfl
  · rw [hv.F9 hp, show N 9 p = 0 by omega]; rfl
  · rw [hv.F10 hp, show N 10 p = 0 by omega]; rfl
  · rw [hv.F11 hp, hz.2]; rfl
theorem upd_same {f : Nat → Int32} {j : Nat} {x : Int32} (h : f j = x) : upd f j x = f := by
  funext i
  by_cases c : i = j
  · rw [c, upd_s, h]
  · rw [upd_n c]
abbrev rmX5_house : Room := { frames := 2, cells := 0, slots := 0, locals := 45 }
set_option maxHeartbeats 4000000 in
set_option maxRecDepth 100000 in
theorem mX5_house (l : Launch) (K : KT) (a : Nat → Nat) (F : FF) (g P L : Nat → Int32) (M : FF) {B hn n : Nat} {N : Nat → Nat → Nat} (hv : InvN B F hn n N) {kk : Nat} (h6 : kk ≤ 6) (hkk : M 0 0 = nI kk) (h4 : hn < 4) : Ct l K yX5_house wsX5_house rmX5_house [.ref (a 0)] [modR K a (flat F) g P L M] (some (.int (nI hn))) [modR K a (flat (u2 F 0 1 (nI (hn + 1)))) g (pSv kk P (flat F)) L (pushT kk (u2 M 0 2 (nI 0)))] := by
  refine CtP_of (cc := cX5_house) (nL := 2) (rt := some .int) (own := RX5) (lv0 := [(0, .ref (a 0))]) (by decide) rfl (Nat.le_of_ble_eq_true rfl) rfl rfl ?_
  intro G C0 hF _
  have eh := hv.1.1
  have f7 : Cond.fieldLink RX5 7 "CorkPermitsModel" "s" "[I" ∈ wsX5_house := by decide +kernel
  have iX5 : ∀ w ∈ u_ws RX5 TX5 13, w ∈ wsX5_house := by decide +kernel
  have f28 : Cond.fieldLink RX5 28 "CorkPermitsModel" "thrown" "I" ∈ wsX5_house := by decide +kernel
  have lp : ∀ (q j : Nat), j + q = 38 + 15 * hn → 23 + 15 * hn ≤ j → J G [modR K a (flat F) g (pSv kk P (flat F)) L (pushT kk (u2 M 0 2 (nI 0)))] [(1, .int (nI j)), (0, .ref (a 0))] 0 0 36 [] := by
    intro q
    induction q with
    | zero =>
      intro j hq h1
      refine J_iln C0 0 dX5_house_36 (kk := ?_)
      refine J_aln C0 1 dX5_house_37 (kk := ?_)
      refine J_get C0 iX5 0 0 0 f7 dX5_house_38 (kk := ?_)
      refine J_ic C0 1 dX5_house_41 (kk := ?_)
      refine J_iald C0 0 1 283 dX5_house_42 (by omega) (v := (nI hn)) (hv := (flat_0 F (j := 1) (by decide)).trans eh) (kk := ?_)
      refine J_ic C0 1 dX5_house_43 (kk := ?_)
      refine J_iaddN C0 dX5_house_44 ?_
      refine J_ic C0 0 dX5_house_45 (kk := ?_)
      refine J_callSd C0 (mX5_at l K (h := hn + 1) (k := 0)) [modR K a (flat F) g (pSv kk P (flat F)) L (pushT kk (u2 M 0 2 (nI 0)))] [modR K a (flat F) g (pSv kk P (flat F)) L (pushT kk (u2 M 0 2 (nI 0)))] gX5_house_X5_at dX5_house_46 2 (kk := ?_)
      show J G _ _ _ _ _ [.int (nI (23 + 5 * (3 * (hn + 1) + 0))), .int (nI j)]
      refine J_icmpgeN C0 65 (by omega) (by omega) dX5_house_49 (kt := fun c1 => ?_) (kf := fun c1 => ?_)
      · refine J_aln C0 1 dX5_house_65 (kk := ?_)
        refine J_get C0 iX5 0 0 0 f7 dX5_house_66 (kk := ?_)
        refine J_ic C0 1 dX5_house_69 (kk := ?_)
        refine J_dup2 C0 dX5_house_70 (kk := ?_)
        refine J_iald C0 0 1 283 dX5_house_71 (by omega) (v := (nI hn)) (hv := (flat_0 F (j := 1) (by decide)).trans eh) (kk := ?_)
        refine J_ic C0 1 dX5_house_72 (kk := ?_)
        refine J_iaddN C0 dX5_house_73 ?_
        refine J_iast C0 0 1 283 [modR K a (flat (u2 F 0 1 (nI (hn + 1)))) g (pSv kk P (flat F)) L (pushT kk (u2 M 0 2 (nI 0)))] dX5_house_74 (by omega) (hb2 := by exact congrArg (fun f => [modR K a f g (pSv kk P (flat F)) L (pushT kk (u2 M 0 2 (nI 0)))]) (flat_u0 F (j := 1) (by decide) (nI (hn + 1)))) (kk := ?_)
        refine J_aln C0 1 dX5_house_75 (kk := ?_)
        refine J_get C0 iX5 0 0 0 f7 dX5_house_76 (kk := ?_)
        refine J_ic C0 1 dX5_house_79 (kk := ?_)
        refine J_iald C0 0 1 283 dX5_house_80 (by omega) (v := (nI (hn + 1))) (hv := (flat_0 (u2 F 0 1 (nI (hn + 1))) (j := 1) (by decide)).trans rfl) (kk := ?_)
        refine J_ic C0 1 dX5_house_81 (kk := ?_)
        refine J_isubN C0 (by omega) dX5_house_82 ?_
        exact J_iret C0 hF dX5_house_83 ⟨rfl, rfl⟩
      · exfalso; omega
    | succ q ih =>
      intro j hq h1
      refine J_iln C0 0 dX5_house_36 (kk := ?_)
      refine J_aln C0 1 dX5_house_37 (kk := ?_)
      refine J_get C0 iX5 0 0 0 f7 dX5_house_38 (kk := ?_)
      refine J_ic C0 1 dX5_house_41 (kk := ?_)
      refine J_iald C0 0 1 283 dX5_house_42 (by omega) (v := (nI hn)) (hv := (flat_0 F (j := 1) (by decide)).trans eh) (kk := ?_)
      refine J_ic C0 1 dX5_house_43 (kk := ?_)
      refine J_iaddN C0 dX5_house_44 ?_
      refine J_ic C0 0 dX5_house_45 (kk := ?_)
      refine J_callSd C0 (mX5_at l K (h := hn + 1) (k := 0)) [modR K a (flat F) g (pSv kk P (flat F)) L (pushT kk (u2 M 0 2 (nI 0)))] [modR K a (flat F) g (pSv kk P (flat F)) L (pushT kk (u2 M 0 2 (nI 0)))] gX5_house_X5_at dX5_house_46 2 (kk := ?_)
      show J G _ _ _ _ _ [.int (nI (23 + 5 * (3 * (hn + 1) + 0))), .int (nI j)]
      refine J_icmpgeN C0 65 (by omega) (by omega) dX5_house_49 (kt := fun c1 => ?_) (kf := fun c1 => ?_)
      · exfalso; omega
      · refine J_aln C0 1 dX5_house_52 (kk := ?_)
        refine J_get C0 iX5 0 0 0 f7 dX5_house_53 (kk := ?_)
        refine J_iln C0 0 dX5_house_56 (kk := ?_)
        refine J_ic C0 0 dX5_house_57 (kk := ?_)
        refine J_iast C0 0 1 283 ([modR K a (flat F) g (pSv kk P (flat F)) L (pushT kk (u2 M 0 2 (nI 0)))]) dX5_house_58 (by omega) (hb2 := by exact congrArg (fun f => [modR K a f g (pSv kk P (flat F)) L (pushT kk (u2 M 0 2 (nI 0)))]) (upd_same (flat_zero hv (by omega) (by omega)))) (kk := ?_)
        refine J_iincN C0 0 [(1, .int (nI (j + 1))), (0, .ref (a 0))] dX5_house_59 (kk := ?_)
        refine J_goto C0 36 dX5_house_62 (kk := ?_)
        exact ih (j + 1) (by omega) (by omega)
  refine J_aln C0 0 dX5_house_0 (kk := ?_)
  refine J_ic C0 0 dX5_house_1 (kk := ?_)
  refine J_put C0 iX5 tyX5_ok nmX5 0 0 8 [modR K a (flat F) g P L (u2 M 0 2 (nI 0))] f28 dX5_house_2 (hd := rfl) (kk := ?_)
  refine J_aln C0 0 dX5_house_5 (kk := ?_)
  refine J_get C0 iX5 0 0 0 f7 dX5_house_6 (kk := ?_)
  refine J_ic C0 1 dX5_house_9 (kk := ?_)
  refine J_iald C0 0 1 283 dX5_house_10 (by omega) (v := (nI hn)) (hv := (flat_0 F (j := 1) (by decide)).trans eh) (kk := ?_)
  refine J_ic C0 4 dX5_house_11 (kk := ?_)
  refine J_icmpneN C0 21 (by omega) (by omega) dX5_house_12 (kt := fun c1 => ?_) (kf := fun c1 => ?_)
  · refine J_aln C0 0 dX5_house_21 (kk := ?_)
    refine J_callVd C0 (mX5_saves l K a F g P L (u2 M 0 2 (nI 0)) (k := kk) h6 hkk) [] [modR K a (flat F) g (pSv kk P (flat F)) L (pushT kk (u2 M 0 2 (nI 0)))] gX5_house_X5_saves dX5_house_22 0 0 (kk := ?_)
    show J G _ _ _ _ _ []
    refine J_aln C0 0 dX5_house_25 (kk := ?_)
    refine J_get C0 iX5 0 0 0 f7 dX5_house_26 (kk := ?_)
    refine J_ic C0 1 dX5_house_29 (kk := ?_)
    refine J_iald C0 0 1 283 dX5_house_30 (by omega) (v := (nI hn)) (hv := (flat_0 F (j := 1) (by decide)).trans eh) (kk := ?_)
    refine J_ic C0 0 dX5_house_31 (kk := ?_)
    refine J_callSd C0 (mX5_at l K (h := hn) (k := 0)) [modR K a (flat F) g (pSv kk P (flat F)) L (pushT kk (u2 M 0 2 (nI 0)))] [modR K a (flat F) g (pSv kk P (flat F)) L (pushT kk (u2 M 0 2 (nI 0)))] gX5_house_X5_at dX5_house_32 2 (kk := ?_)
    show J G _ _ _ _ _ [.int (nI (23 + 5 * (3 * hn + 0)))]
    refine J_isn C0 [(1, .int (nI (23 + 5 * (3 * hn + 0)))), (0, .ref (a 0))] dX5_house_35 (kk := ?_)
    rw [show 23 + 5 * (3 * hn + 0) = 23 + 15 * hn by omega]; exact J_lv [0, 1] rfl (lp 15 (23 + 15 * hn) (by omega) (by omega))
  · exfalso; omega

set_option maxHeartbeats 4000000 in
set_option maxRecDepth 100000 in
theorem mX5_house_no (l : Launch) (K : KT) (a : Nat → Nat) (F : FF) (g P L : Nat → Int32) (M : FF) (hc : F 0 1 = nI 4) : Ct l K yX5_house wsX5_house rmX5_house [.ref (a 0)] [modR K a (flat F) g P L M] (some (.int (nI 0))) [modR K a (flat F) g P L (u2 (u2 M 0 2 (nI 0)) 0 2 (nI 1))] := by
  refine CtP_of (cc := cX5_house) (nL := 2) (rt := some .int) (own := RX5) (lv0 := [(0, .ref (a 0))]) (by decide) rfl (Nat.le_of_ble_eq_true rfl) rfl rfl ?_
  intro G C0 hF _
  have f28 : Cond.fieldLink RX5 28 "CorkPermitsModel" "thrown" "I" ∈ wsX5_house := by decide +kernel
  have iX5 : ∀ w ∈ u_ws RX5 TX5 13, w ∈ wsX5_house := by decide +kernel
  have f7 : Cond.fieldLink RX5 7 "CorkPermitsModel" "s" "[I" ∈ wsX5_house := by decide +kernel
  refine J_aln C0 0 dX5_house_0 (kk := ?_)
  refine J_ic C0 0 dX5_house_1 (kk := ?_)
  refine J_put C0 iX5 tyX5_ok nmX5 0 0 8 [modR K a (flat F) g P L (u2 M 0 2 (nI 0))] f28 dX5_house_2 (hd := rfl) (kk := ?_)
  refine J_aln C0 0 dX5_house_5 (kk := ?_)
  refine J_get C0 iX5 0 0 0 f7 dX5_house_6 (kk := ?_)
  refine J_ic C0 1 dX5_house_9 (kk := ?_)
  refine J_iald C0 0 1 283 dX5_house_10 (by omega) (v := (F 0 1)) (hv := (flat_0 F (j := 1) (by decide)).trans rfl) (kk := ?_)
  refine J_ic C0 4 dX5_house_11 (kk := ?_)
  refine J_icmpne C0 21 dX5_house_12 (kt := fun c1 => ?_) (kf := fun c1 => ?_)
  · exact absurd hc c1
  · refine J_aln C0 0 dX5_house_15 (kk := ?_)
    refine J_ic C0 1 dX5_house_16 (kk := ?_)
    refine J_callVd C0 (mX5_fails l K a F g P L (u2 M 0 2 (nI 0)) (nI 1)) [] [modR K a (flat F) g P L (u2 (u2 M 0 2 (nI 0)) 0 2 (nI 1))] gX5_house_X5_fails dX5_house_17 1 0 (kk := ?_)
    show J G _ _ _ _ _ [.int (nI 0)]
    exact J_iret C0 hF dX5_house_20 ⟨rfl, rfl⟩

abbrev rmX5_bottles : Room := { frames := 4, cells := 0, slots := 0, locals := 89 }
set_option maxHeartbeats 4000000 in
set_option maxRecDepth 100000 in
theorem mX5_bottles (l : Launch) (K : KT) (a : Nat → Nat) (F : FF) (g P L : Nat → Int32) (M : FF) {B hn n : Nat} {N : Nat → Nat → Nat} (hv : InvN B F hn n N) {kk : Nat} (h6 : kk ≤ 6) (hkk : M 0 0 = nI kk) {k : Nat} (hk : k < 3) {b : Nat} (hb : b ≤ 20) (hc : F 3 k + outK F k ≤ nI b) : Ct l K yX5_bottles wsX5_bottles rmX5_bottles [.ref (a 0), .int (nI k), .int (nI b)] [modR K a (flat F) g P L M] (some (.int (F 2 k))) [modR K a (flat (u2 F 2 k (nI b))) g (pSv kk P (flat F)) L (pushT kk (u2 M 0 2 (nI 0)))] := by
  refine CtP_of (cc := cX5_bottles) (nL := 4) (rt := some .int) (own := RX5) (lv0 := [(0, .ref (a 0)), (1, .int (nI k)), (2, .int (nI b))]) (by decide) rfl (Nat.le_of_ble_eq_true rfl) rfl rfl ?_
  intro G C0 hF _
  have f28 : Cond.fieldLink RX5 28 "CorkPermitsModel" "thrown" "I" ∈ wsX5_bottles := by decide +kernel
  have iX5 : ∀ w ∈ u_ws RX5 TX5 13, w ∈ wsX5_bottles := by decide +kernel
  have f7 : Cond.fieldLink RX5 7 "CorkPermitsModel" "s" "[I" ∈ wsX5_bottles := by decide +kernel
  refine J_aln C0 0 dX5_bottles_0 (kk := ?_)
  refine J_ic C0 0 dX5_bottles_1 (kk := ?_)
  refine J_put C0 iX5 tyX5_ok nmX5 0 0 8 [modR K a (flat F) g P L (u2 M 0 2 (nI 0))] f28 dX5_bottles_2 (hd := rfl) (kk := ?_)
  refine J_iln C0 1 dX5_bottles_5 (kk := ?_)
  refine J_callSd C0 (mX5_isKind_y l K (x := nI k) (inN_y (v := k) (lo := 0) (hi := 2) (by omega) (by omega) (by omega))) [modR K a (flat F) g P L (u2 M 0 2 (nI 0))] [modR K a (flat F) g P L (u2 M 0 2 (nI 0))] gX5_bottles_X5_isKind dX5_bottles_6 1 (kk := ?_)
  show J G _ _ _ _ _ [.int (nI 1)]
  refine J_ifneN C0 18 (by omega) dX5_bottles_9 (kt := fun c1 => ?_) (kf := fun c1 => ?_)
  · refine J_iln C0 2 dX5_bottles_18 (kk := ?_)
    refine J_ic C0 0 dX5_bottles_19 (kk := ?_)
    refine J_bi C0 20 dX5_bottles_20 (kk := ?_)
    refine J_callSd C0 (mX5_in_y l K (x := nI b) (lo := nI 0) (hi := nI 20) (inN_y (v := b) (lo := 0) (hi := 20) (by omega) (by omega) (by omega)).1 (inN_y (v := b) (lo := 0) (hi := 20) (by omega) (by omega) (by omega)).2) [modR K a (flat F) g P L (u2 M 0 2 (nI 0))] [modR K a (flat F) g P L (u2 M 0 2 (nI 0))] gX5_bottles_X5_in dX5_bottles_22 3 (kk := ?_)
    show J G _ _ _ _ _ [.int (nI 1)]
    refine J_ifneN C0 34 (by omega) dX5_bottles_25 (kt := fun c2 => ?_) (kf := fun c2 => ?_)
    · refine J_iln C0 2 dX5_bottles_34 (kk := ?_)
      refine J_aln C0 0 dX5_bottles_35 (kk := ?_)
      refine J_iln C0 1 dX5_bottles_36 (kk := ?_)
      refine J_ic C0 1 dX5_bottles_37 (kk := ?_)
      refine J_callVd C0 (mX5_ofKind l K a F g P L (u2 M 0 2 (nI 0)) (k := k) (w := 1) (by omega) (by omega)) [] [modR K a (flat F) g P L (u2 M 0 2 (nI 0))] gX5_bottles_X5_ofKind dX5_bottles_38 2 0 (kk := ?_)
      show J G _ _ _ _ _ [.int (F 3 k), .int (nI b)]
      refine J_aln C0 0 dX5_bottles_41 (kk := ?_)
      refine J_iln C0 1 dX5_bottles_42 (kk := ?_)
      refine J_callVd C0 (mX5_outIn l K a F g P L (u2 M 0 2 (nI 0)) hv (k := k) (by omega)) [] [modR K a (flat F) g P L (u2 M 0 2 (nI 0))] gX5_bottles_X5_outIn dX5_bottles_43 1 0 (kk := ?_)
      show J G _ _ _ _ _ [.int (outK F k), .int (F 3 k), .int (nI b)]
      refine J_iadd C0 dX5_bottles_46 ?_
      refine J_icmpge C0 56 dX5_bottles_47 (kt := fun c3 => ?_) (kf := fun c3 => ?_)
      · refine J_aln C0 0 dX5_bottles_56 (kk := ?_)
        refine J_callVd C0 (mX5_saves l K a F g P L (u2 M 0 2 (nI 0)) (k := kk) h6 hkk) [] [modR K a (flat F) g (pSv kk P (flat F)) L (pushT kk (u2 M 0 2 (nI 0)))] gX5_bottles_X5_saves dX5_bottles_57 0 0 (kk := ?_)
        show J G _ _ _ _ _ []
        refine J_aln C0 0 dX5_bottles_60 (kk := ?_)
        refine J_iln C0 1 dX5_bottles_61 (kk := ?_)
        refine J_ic C0 0 dX5_bottles_62 (kk := ?_)
        refine J_callVd C0 (mX5_ofKind l K a F g (pSv kk P (flat F)) L (pushT kk (u2 M 0 2 (nI 0))) (k := k) (w := 0) (by omega) (by omega)) [] [modR K a (flat F) g (pSv kk P (flat F)) L (pushT kk (u2 M 0 2 (nI 0)))] gX5_bottles_X5_ofKind dX5_bottles_63 2 0 (kk := ?_)
        show J G _ _ _ _ _ [.int (F 2 k)]
        refine J_isn C0 [(3, .int (F 2 k)), (0, .ref (a 0)), (1, .int (nI k)), (2, .int (nI b))] dX5_bottles_66 (kk := ?_)
        refine J_aln C0 1 dX5_bottles_67 (kk := ?_)
        refine J_get C0 iX5 0 0 0 f7 dX5_bottles_68 (kk := ?_)
        refine J_bi C0 8 dX5_bottles_71 (kk := ?_)
        refine J_ic C0 5 dX5_bottles_73 (kk := ?_)
        refine J_iln C0 2 dX5_bottles_74 (kk := ?_)
        refine J_imulN C0 dX5_bottles_75 ?_
        refine J_iaddN C0 dX5_bottles_76 ?_
        refine J_ic C0 0 dX5_bottles_77 (kk := ?_)
        refine J_iaddN C0 dX5_bottles_78 ?_
        refine J_iln C0 3 dX5_bottles_79 (kk := ?_)
        refine J_iast C0 0 1 283 [modR K a (flat (u2 F 2 k (nI b))) g (pSv kk P (flat F)) L (pushT kk (u2 M 0 2 (nI 0)))] dX5_bottles_80 (by omega) (hb2 := by exact congrArg (fun f => [modR K a f g (pSv kk P (flat F)) L (pushT kk (u2 M 0 2 (nI 0)))]) (flat_uk F (j := 8 + (5 * k) + 0) (q := k) (d := 0) (by omega) (by omega) (by omega) (nI b))) (kk := ?_)
        refine J_iln C0 0 dX5_bottles_81 (kk := ?_)
        exact J_iret C0 hF dX5_bottles_82 ⟨rfl, rfl⟩
      · exact absurd hc c3
    · exact absurd c2 c1
  · exfalso; omega

set_option maxHeartbeats 4000000 in
set_option maxRecDepth 100000 in
theorem mX5_bottles_kind (l : Launch) (K : KT) (a : Nat → Nat) (F : FF) (g P L : Nat → Int32) (M : FF) {x : Int32} (hx : ¬ (¬ x < nI 0 ∧ ¬ nI 2 < x)) (y : Int32) : Ct l K yX5_bottles wsX5_bottles rmX5_bottles [.ref (a 0), .int x, .int y] [modR K a (flat F) g P L M] (some (.int (nI 0))) [modR K a (flat F) g P L (u2 (u2 M 0 2 (nI 0)) 0 2 (nI 1))] := by
  refine CtP_of (cc := cX5_bottles) (nL := 4) (rt := some .int) (own := RX5) (lv0 := [(0, .ref (a 0)), (1, .int x), (2, .int y)]) (by decide) rfl (Nat.le_of_ble_eq_true rfl) rfl rfl ?_
  intro G C0 hF _
  have f28 : Cond.fieldLink RX5 28 "CorkPermitsModel" "thrown" "I" ∈ wsX5_bottles := by decide +kernel
  have iX5 : ∀ w ∈ u_ws RX5 TX5 13, w ∈ wsX5_bottles := by decide +kernel
  refine J_aln C0 0 dX5_bottles_0 (kk := ?_)
  refine J_ic C0 0 dX5_bottles_1 (kk := ?_)
  refine J_put C0 iX5 tyX5_ok nmX5 0 0 8 [modR K a (flat F) g P L (u2 M 0 2 (nI 0))] f28 dX5_bottles_2 (hd := rfl) (kk := ?_)
  refine J_iln C0 1 dX5_bottles_5 (kk := ?_)
  refine J_callSd C0 (mX5_isKind_n l K (x := x) hx) [modR K a (flat F) g P L (u2 M 0 2 (nI 0))] [modR K a (flat F) g P L (u2 M 0 2 (nI 0))] gX5_bottles_X5_isKind dX5_bottles_6 1 (kk := ?_)
  show J G _ _ _ _ _ [.int (nI 0)]
  refine J_ifneN C0 18 (by omega) dX5_bottles_9 (kt := fun c1 => ?_) (kf := fun c1 => ?_)
  · exfalso; omega
  · refine J_aln C0 0 dX5_bottles_12 (kk := ?_)
    refine J_ic C0 1 dX5_bottles_13 (kk := ?_)
    refine J_callVd C0 (mX5_fails l K a F g P L (u2 M 0 2 (nI 0)) (nI 1)) [] [modR K a (flat F) g P L (u2 (u2 M 0 2 (nI 0)) 0 2 (nI 1))] gX5_bottles_X5_fails dX5_bottles_14 1 0 (kk := ?_)
    show J G _ _ _ _ _ [.int (nI 0)]
    exact J_iret C0 hF dX5_bottles_17 ⟨rfl, rfl⟩

set_option maxHeartbeats 4000000 in
set_option maxRecDepth 100000 in
theorem mX5_bottles_many (l : Launch) (K : KT) (a : Nat → Nat) (F : FF) (g P L : Nat → Int32) (M : FF) {k : Nat} (hk : k < 3) {y : Int32} (hy : ¬ (¬ y < nI 0 ∧ ¬ nI 20 < y)) : Ct l K yX5_bottles wsX5_bottles rmX5_bottles [.ref (a 0), .int (nI k), .int y] [modR K a (flat F) g P L M] (some (.int (nI 0))) [modR K a (flat F) g P L (u2 (u2 M 0 2 (nI 0)) 0 2 (nI 2))] := by
  refine CtP_of (cc := cX5_bottles) (nL := 4) (rt := some .int) (own := RX5) (lv0 := [(0, .ref (a 0)), (1, .int (nI k)), (2, .int y)]) (by decide) rfl (Nat.le_of_ble_eq_true rfl) rfl rfl ?_
  intro G C0 hF _
  have f28 : Cond.fieldLink RX5 28 "CorkPermitsModel" "thrown" "I" ∈ wsX5_bottles := by decide +kernel
  have iX5 : ∀ w ∈ u_ws RX5 TX5 13, w ∈ wsX5_bottles := by decide +kernel
  refine J_aln C0 0 dX5_bottles_0 (kk := ?_)
  refine J_ic C0 0 dX5_bottles_1 (kk := ?_)
  refine J_put C0 iX5 tyX5_ok nmX5 0 0 8 [modR K a (flat F) g P L (u2 M 0 2 (nI 0))] f28 dX5_bottles_2 (hd := rfl) (kk := ?_)
  refine J_iln C0 1 dX5_bottles_5 (kk := ?_)
  refine J_callSd C0 (mX5_isKind_y l K (x := nI k) (inN_y (v := k) (lo := 0) (hi := 2) (by omega) (by omega) (by omega))) [modR K a (flat F) g P L (u2 M 0 2 (nI 0))] [modR K a (flat F) g P L (u2 M 0 2 (nI 0))] gX5_bottles_X5_isKind dX5_bottles_6 1 (kk := ?_)
  show J G _ _ _ _ _ [.int (nI 1)]
  refine J_ifneN C0 18 (by omega) dX5_bottles_9 (kt := fun c1 => ?_) (kf := fun c1 => ?_)
  · refine J_iln C0 2 dX5_bottles_18 (kk := ?_)
    refine J_ic C0 0 dX5_bottles_19 (kk := ?_)
    refine J_bi C0 20 dX5_bottles_20 (kk := ?_)
    refine J_callSd C0 (mX5_in_n l K (x := y) (lo := nI 0) (hi := nI 20) hy) [modR K a (flat F) g P L (u2 M 0 2 (nI 0))] [modR K a (flat F) g P L (u2 M 0 2 (nI 0))] gX5_bottles_X5_in dX5_bottles_22 3 (kk := ?_)
    show J G _ _ _ _ _ [.int (nI 0)]
    refine J_ifneN C0 34 (by omega) dX5_bottles_25 (kt := fun c2 => ?_) (kf := fun c2 => ?_)
    · exfalso; omega
    · refine J_aln C0 0 dX5_bottles_28 (kk := ?_)
      refine J_ic C0 2 dX5_bottles_29 (kk := ?_)
      refine J_callVd C0 (mX5_fails l K a F g P L (u2 M 0 2 (nI 0)) (nI 2)) [] [modR K a (flat F) g P L (u2 (u2 M 0 2 (nI 0)) 0 2 (nI 2))] gX5_bottles_X5_fails dX5_bottles_30 1 0 (kk := ?_)
      show J G _ _ _ _ _ [.int (nI 0)]
      exact J_iret C0 hF dX5_bottles_33 ⟨rfl, rfl⟩
  · exfalso; omega

set_option maxHeartbeats 4000000 in
set_option maxRecDepth 100000 in
theorem mX5_bottles_state (l : Launch) (K : KT) (a : Nat → Nat) (F : FF) (g P L : Nat → Int32) (M : FF) {B hn n : Nat} {N : Nat → Nat → Nat} (hv : InvN B F hn n N) {k : Nat} (hk : k < 3) {b : Nat} (hb : b ≤ 20) (hc : ¬ F 3 k + outK F k ≤ nI b) : Ct l K yX5_bottles wsX5_bottles rmX5_bottles [.ref (a 0), .int (nI k), .int (nI b)] [modR K a (flat F) g P L M] (some (.int (nI 0))) [modR K a (flat F) g P L (u2 (u2 M 0 2 (nI 0)) 0 2 (nI 3))] := by
  refine CtP_of (cc := cX5_bottles) (nL := 4) (rt := some .int) (own := RX5) (lv0 := [(0, .ref (a 0)), (1, .int (nI k)), (2, .int (nI b))]) (by decide) rfl (Nat.le_of_ble_eq_true rfl) rfl rfl ?_
  intro G C0 hF _
  have f28 : Cond.fieldLink RX5 28 "CorkPermitsModel" "thrown" "I" ∈ wsX5_bottles := by decide +kernel
  have iX5 : ∀ w ∈ u_ws RX5 TX5 13, w ∈ wsX5_bottles := by decide +kernel
  refine J_aln C0 0 dX5_bottles_0 (kk := ?_)
  refine J_ic C0 0 dX5_bottles_1 (kk := ?_)
  refine J_put C0 iX5 tyX5_ok nmX5 0 0 8 [modR K a (flat F) g P L (u2 M 0 2 (nI 0))] f28 dX5_bottles_2 (hd := rfl) (kk := ?_)
  refine J_iln C0 1 dX5_bottles_5 (kk := ?_)
  refine J_callSd C0 (mX5_isKind_y l K (x := nI k) (inN_y (v := k) (lo := 0) (hi := 2) (by omega) (by omega) (by omega))) [modR K a (flat F) g P L (u2 M 0 2 (nI 0))] [modR K a (flat F) g P L (u2 M 0 2 (nI 0))] gX5_bottles_X5_isKind dX5_bottles_6 1 (kk := ?_)
  show J G _ _ _ _ _ [.int (nI 1)]
  refine J_ifneN C0 18 (by omega) dX5_bottles_9 (kt := fun c1 => ?_) (kf := fun c1 => ?_)
  · refine J_iln C0 2 dX5_bottles_18 (kk := ?_)
    refine J_ic C0 0 dX5_bottles_19 (kk := ?_)
    refine J_bi C0 20 dX5_bottles_20 (kk := ?_)
    refine J_callSd C0 (mX5_in_y l K (x := nI b) (lo := nI 0) (hi := nI 20) (inN_y (v := b) (lo := 0) (hi := 20) (by omega) (by omega) (by omega)).1 (inN_y (v := b) (lo := 0) (hi := 20) (by omega) (by omega) (by omega)).2) [modR K a (flat F) g P L (u2 M 0 2 (nI 0))] [modR K a (flat F) g P L (u2 M 0 2 (nI 0))] gX5_bottles_X5_in dX5_bottles_22 3 (kk := ?_)
    show J G _ _ _ _ _ [.int (nI 1)]
    refine J_ifneN C0 34 (by omega) dX5_bottles_25 (kt := fun c2 => ?_) (kf := fun c2 => ?_)
    · refine J_iln C0 2 dX5_bottles_34 (kk := ?_)
      refine J_aln C0 0 dX5_bottles_35 (kk := ?_)
      refine J_iln C0 1 dX5_bottles_36 (kk := ?_)
      refine J_ic C0 1 dX5_bottles_37 (kk := ?_)
      refine J_callVd C0 (mX5_ofKind l K a F g P L (u2 M 0 2 (nI 0)) (k := k) (w := 1) (by omega) (by omega)) [] [modR K a (flat F) g P L (u2 M 0 2 (nI 0))] gX5_bottles_X5_ofKind dX5_bottles_38 2 0 (kk := ?_)
      show J G _ _ _ _ _ [.int (F 3 k), .int (nI b)]
      refine J_aln C0 0 dX5_bottles_41 (kk := ?_)
      refine J_iln C0 1 dX5_bottles_42 (kk := ?_)
      refine J_callVd C0 (mX5_outIn l K a F g P L (u2 M 0 2 (nI 0)) hv (k := k) (by omega)) [] [modR K a (flat F) g P L (u2 M 0 2 (nI 0))] gX5_bottles_X5_outIn dX5_bottles_43 1 0 (kk := ?_)
      show J G _ _ _ _ _ [.int (outK F k), .int (F 3 k), .int (nI b)]
      refine J_iadd C0 dX5_bottles_46 ?_
      refine J_icmpge C0 56 dX5_bottles_47 (kt := fun c3 => ?_) (kf := fun c3 => ?_)
      · exact absurd c3 hc
      · refine J_aln C0 0 dX5_bottles_50 (kk := ?_)
        refine J_ic C0 3 dX5_bottles_51 (kk := ?_)
        refine J_callVd C0 (mX5_fails l K a F g P L (u2 M 0 2 (nI 0)) (nI 3)) [] [modR K a (flat F) g P L (u2 (u2 M 0 2 (nI 0)) 0 2 (nI 3))] gX5_bottles_X5_fails dX5_bottles_52 1 0 (kk := ?_)
        show J G _ _ _ _ _ [.int (nI 0)]
        exact J_iret C0 hF dX5_bottles_55 ⟨rfl, rfl⟩
    · exact absurd c2 c1
  · exfalso; omega

abbrev rmX5_lend : Room := { frames := 6, cells := 0, slots := 0, locals := 131 }
set_option maxHeartbeats 4000000 in
set_option maxRecDepth 100000 in
theorem mX5_lend (l : Launch) (K : KT) (a : Nat → Nat) (F : FF) (g P L : Nat → Int32) (M : FF) {B hn n : Nat} {N : Nat → Nat → Nat} (hv : InvN B F hn n N) {kk : Nat} (h6 : kk ≤ 6) (hkk : M 0 0 = nI kk) {h k : Nat} (hh : h < 4) (hk : k < 3) (hp : isPr F (nI h) (nI k)) (hc : canLendS F k) : Ct l K yX5_lend wsX5_lend rmX5_lend [.ref (a 0), .int (nI h), .int (nI k)] [modR K a (flat F) g P L M] (some (.int (outS (lendS F n (3 * h + k)) (3 * h + k)))) [modR K a (flat (lendS F n (3 * h + k))) g (pSv kk P (flat F)) L (pushT kk (u2 M 0 2 (nI 0)))] := by
  refine CtP_of (cc := cX5_lend) (nL := 3) (rt := some .int) (own := RX5) (lv0 := [(0, .ref (a 0)), (1, .int (nI h)), (2, .int (nI k))]) (by decide) rfl (Nat.le_of_ble_eq_true rfl) rfl rfl ?_
  intro G C0 hF _
  have f28 : Cond.fieldLink RX5 28 "CorkPermitsModel" "thrown" "I" ∈ wsX5_lend := by decide +kernel
  have iX5 : ∀ w ∈ u_ws RX5 TX5 13, w ∈ wsX5_lend := by decide +kernel
  refine J_aln C0 0 dX5_lend_0 (kk := ?_)
  refine J_ic C0 0 dX5_lend_1 (kk := ?_)
  refine J_put C0 iX5 tyX5_ok nmX5 0 0 8 [modR K a (flat F) g P L (u2 M 0 2 (nI 0))] f28 dX5_lend_2 (hd := rfl) (kk := ?_)
  refine J_aln C0 0 dX5_lend_5 (kk := ?_)
  refine J_iln C0 1 dX5_lend_6 (kk := ?_)
  refine J_iln C0 2 dX5_lend_7 (kk := ?_)
  refine J_callVd C0 (mX5_isPair_y l K a F g P L (u2 M 0 2 (nI 0)) (x := nI h) (y := nI k) hp) [] [modR K a (flat F) g P L (u2 M 0 2 (nI 0))] gX5_lend_X5_isPair dX5_lend_8 2 0 (kk := ?_)
  show J G _ _ _ _ _ [.int (nI 1)]
  refine J_ifneN C0 20 (by omega) dX5_lend_11 (kt := fun c1 => ?_) (kf := fun c1 => ?_)
  · refine J_aln C0 0 dX5_lend_20 (kk := ?_)
    refine J_iln C0 2 dX5_lend_21 (kk := ?_)
    refine J_callVd C0 (mX5_canLend_y l K a F g P L (u2 M 0 2 (nI 0)) hv (k := k) (by omega) hc) [] [modR K a (flat F) g P L (u2 M 0 2 (nI 0))] gX5_lend_X5_canLend dX5_lend_22 1 0 (kk := ?_)
    show J G _ _ _ _ _ [.int (nI 1)]
    refine J_ifneN C0 34 (by omega) dX5_lend_25 (kt := fun c2 => ?_) (kf := fun c2 => ?_)
    · refine J_aln C0 0 dX5_lend_34 (kk := ?_)
      refine J_callVd C0 (mX5_saves l K a F g P L (u2 M 0 2 (nI 0)) (k := kk) h6 hkk) [] [modR K a (flat F) g (pSv kk P (flat F)) L (pushT kk (u2 M 0 2 (nI 0)))] gX5_lend_X5_saves dX5_lend_35 0 0 (kk := ?_)
      show J G _ _ _ _ _ []
      refine J_aln C0 0 dX5_lend_38 (kk := ?_)
      refine J_iln C0 1 dX5_lend_39 (kk := ?_)
      refine J_iln C0 2 dX5_lend_40 (kk := ?_)
      refine J_callVd C0 (mX5_lendsOne l K a F g (pSv kk P (flat F)) L (pushT kk (u2 M 0 2 (nI 0))) (n := n) hv.2.1.1 (room_lt hv.2.1.1 hc.2 hv.2.1.2) (h := h) (k := k) (by omega) (by omega)) [] [modR K a (flat (lendS F n (3 * h + k))) g (pSv kk P (flat F)) L (pushT kk (u2 M 0 2 (nI 0)))] gX5_lend_X5_lendsOne dX5_lend_41 2 0 (kk := ?_)
      show J G _ _ _ _ _ []
      refine J_aln C0 0 dX5_lend_44 (kk := ?_)
      refine J_iln C0 1 dX5_lend_45 (kk := ?_)
      refine J_iln C0 2 dX5_lend_46 (kk := ?_)
      refine J_callVd C0 (mX5_outOf l K a (lendS F n (3 * h + k)) g (pSv kk P (flat F)) L (pushT kk (u2 M 0 2 (nI 0))) (h := h) (k := k) (by omega) (by omega)) [] [modR K a (flat (lendS F n (3 * h + k))) g (pSv kk P (flat F)) L (pushT kk (u2 M 0 2 (nI 0)))] gX5_lend_X5_outOf dX5_lend_47 2 0 (kk := ?_)
      show J G _ _ _ _ _ [.int (outS (lendS F n (3 * h + k)) (3 * h + k))]
      exact J_iret C0 hF dX5_lend_50 ⟨rfl, rfl⟩
    · exact absurd c2 c1
  · exfalso; omega

set_option maxHeartbeats 4000000 in
set_option maxRecDepth 100000 in
theorem mX5_lend_pl (l : Launch) (K : KT) (a : Nat → Nat) (F : FF) (g P L : Nat → Int32) (M : FF) {x y : Int32} (hp : ¬ isPr F x y) : Ct l K yX5_lend wsX5_lend rmX5_lend [.ref (a 0), .int x, .int y] [modR K a (flat F) g P L M] (some (.int (nI 0))) [modR K a (flat F) g P L (u2 (u2 M 0 2 (nI 0)) 0 2 (nI 1))] := by
  refine CtP_of (cc := cX5_lend) (nL := 3) (rt := some .int) (own := RX5) (lv0 := [(0, .ref (a 0)), (1, .int x), (2, .int y)]) (by decide) rfl (Nat.le_of_ble_eq_true rfl) rfl rfl ?_
  intro G C0 hF _
  have f28 : Cond.fieldLink RX5 28 "CorkPermitsModel" "thrown" "I" ∈ wsX5_lend := by decide +kernel
  have iX5 : ∀ w ∈ u_ws RX5 TX5 13, w ∈ wsX5_lend := by decide +kernel
  refine J_aln C0 0 dX5_lend_0 (kk := ?_)
  refine J_ic C0 0 dX5_lend_1 (kk := ?_)
  refine J_put C0 iX5 tyX5_ok nmX5 0 0 8 [modR K a (flat F) g P L (u2 M 0 2 (nI 0))] f28 dX5_lend_2 (hd := rfl) (kk := ?_)
  refine J_aln C0 0 dX5_lend_5 (kk := ?_)
  refine J_iln C0 1 dX5_lend_6 (kk := ?_)
  refine J_iln C0 2 dX5_lend_7 (kk := ?_)
  refine J_callVd C0 (mX5_isPair_n l K a F g P L (u2 M 0 2 (nI 0)) (x := x) (y := y) hp) [] [modR K a (flat F) g P L (u2 M 0 2 (nI 0))] gX5_lend_X5_isPair dX5_lend_8 2 0 (kk := ?_)
  show J G _ _ _ _ _ [.int (nI 0)]
  refine J_ifneN C0 20 (by omega) dX5_lend_11 (kt := fun c1 => ?_) (kf := fun c1 => ?_)
  · exfalso; omega
  · refine J_aln C0 0 dX5_lend_14 (kk := ?_)
    refine J_ic C0 1 dX5_lend_15 (kk := ?_)
    refine J_callVd C0 (mX5_fails l K a F g P L (u2 M 0 2 (nI 0)) (nI 1)) [] [modR K a (flat F) g P L (u2 (u2 M 0 2 (nI 0)) 0 2 (nI 1))] gX5_lend_X5_fails dX5_lend_16 1 0 (kk := ?_)
    show J G _ _ _ _ _ [.int (nI 0)]
    exact J_iret C0 hF dX5_lend_19 ⟨rfl, rfl⟩

set_option maxHeartbeats 4000000 in
set_option maxRecDepth 100000 in
theorem mX5_lend_state (l : Launch) (K : KT) (a : Nat → Nat) (F : FF) (g P L : Nat → Int32) (M : FF) {B hn n : Nat} {N : Nat → Nat → Nat} (hv : InvN B F hn n N) {h k : Nat} (hh : h < 4) (hk : k < 3) (hp : isPr F (nI h) (nI k)) (hc : ¬ canLendS F k) : Ct l K yX5_lend wsX5_lend rmX5_lend [.ref (a 0), .int (nI h), .int (nI k)] [modR K a (flat F) g P L M] (some (.int (nI 0))) [modR K a (flat F) g P L (u2 (u2 M 0 2 (nI 0)) 0 2 (nI 2))] := by
  refine CtP_of (cc := cX5_lend) (nL := 3) (rt := some .int) (own := RX5) (lv0 := [(0, .ref (a 0)), (1, .int (nI h)), (2, .int (nI k))]) (by decide) rfl (Nat.le_of_ble_eq_true rfl) rfl rfl ?_
  intro G C0 hF _
  have f28 : Cond.fieldLink RX5 28 "CorkPermitsModel" "thrown" "I" ∈ wsX5_lend := by decide +kernel
  have iX5 : ∀ w ∈ u_ws RX5 TX5 13, w ∈ wsX5_lend := by decide +kernel
  refine J_aln C0 0 dX5_lend_0 (kk := ?_)
  refine J_ic C0 0 dX5_lend_1 (kk := ?_)
  refine J_put C0 iX5 tyX5_ok nmX5 0 0 8 [modR K a (flat F) g P L (u2 M 0 2 (nI 0))] f28 dX5_lend_2 (hd := rfl) (kk := ?_)
  refine J_aln C0 0 dX5_lend_5 (kk := ?_)
  refine J_iln C0 1 dX5_lend_6 (kk := ?_)
  refine J_iln C0 2 dX5_lend_7 (kk := ?_)
  refine J_callVd C0 (mX5_isPair_y l K a F g P L (u2 M 0 2 (nI 0)) (x := nI h) (y := nI k) hp) [] [modR K a (flat F) g P L (u2 M 0 2 (nI 0))] gX5_lend_X5_isPair dX5_lend_8 2 0 (kk := ?_)
  show J G _ _ _ _ _ [.int (nI 1)]
  refine J_ifneN C0 20 (by omega) dX5_lend_11 (kt := fun c1 => ?_) (kf := fun c1 => ?_)
  · refine J_aln C0 0 dX5_lend_20 (kk := ?_)
    refine J_iln C0 2 dX5_lend_21 (kk := ?_)
    refine J_callVd C0 (mX5_canLend_n l K a F g P L (u2 M 0 2 (nI 0)) hv (k := k) (by omega) hc) [] [modR K a (flat F) g P L (u2 M 0 2 (nI 0))] gX5_lend_X5_canLend dX5_lend_22 1 0 (kk := ?_)
    show J G _ _ _ _ _ [.int (nI 0)]
    refine J_ifneN C0 34 (by omega) dX5_lend_25 (kt := fun c2 => ?_) (kf := fun c2 => ?_)
    · exfalso; omega
    · refine J_aln C0 0 dX5_lend_28 (kk := ?_)
      refine J_ic C0 2 dX5_lend_29 (kk := ?_)
      refine J_callVd C0 (mX5_fails l K a F g P L (u2 M 0 2 (nI 0)) (nI 2)) [] [modR K a (flat F) g P L (u2 (u2 M 0 2 (nI 0)) 0 2 (nI 2))] gX5_lend_X5_fails dX5_lend_30 1 0 (kk := ?_)
      show J G _ _ _ _ _ [.int (nI 0)]
      exact J_iret C0 hF dX5_lend_33 ⟨rfl, rfl⟩
  · exfalso; omega

abbrev rmX5_ask : Room := { frames := 3, cells := 0, slots := 0, locals := 66 }
set_option maxHeartbeats 4000000 in
set_option maxRecDepth 100000 in
theorem mX5_ask (l : Launch) (K : KT) (a : Nat → Nat) (F : FF) (g P L : Nat → Int32) (M : FF) {B hn n : Nat} {N : Nat → Nat → Nat} (hv : InvN B F hn n N) {kk : Nat} (h6 : kk ≤ 6) (hkk : M 0 0 = nI kk) {h k : Nat} (hh : h < 4) (hk : k < 3) (hp : isPr F (nI h) (nI k)) (hc : roomS F) : Ct l K yX5_ask wsX5_ask rmX5_ask [.ref (a 0), .int (nI h), .int (nI k)] [modR K a (flat F) g P L M] (some (.int (askS F n (3 * h + k) 0 4))) [modR K a (flat (askS F n (3 * h + k))) g (pSv kk P (flat F)) L (pushT kk (u2 M 0 2 (nI 0)))] := by
  refine CtP_of (cc := cX5_ask) (nL := 3) (rt := some .int) (own := RX5) (lv0 := [(0, .ref (a 0)), (1, .int (nI h)), (2, .int (nI k))]) (by decide) rfl (Nat.le_of_ble_eq_true rfl) rfl rfl ?_
  intro G C0 hF _
  have f28 : Cond.fieldLink RX5 28 "CorkPermitsModel" "thrown" "I" ∈ wsX5_ask := by decide +kernel
  have iX5 : ∀ w ∈ u_ws RX5 TX5 13, w ∈ wsX5_ask := by decide +kernel
  have f7 : Cond.fieldLink RX5 7 "CorkPermitsModel" "s" "[I" ∈ wsX5_ask := by decide +kernel
  refine J_aln C0 0 dX5_ask_0 (kk := ?_)
  refine J_ic C0 0 dX5_ask_1 (kk := ?_)
  refine J_put C0 iX5 tyX5_ok nmX5 0 0 8 [modR K a (flat F) g P L (u2 M 0 2 (nI 0))] f28 dX5_ask_2 (hd := rfl) (kk := ?_)
  refine J_aln C0 0 dX5_ask_5 (kk := ?_)
  refine J_iln C0 1 dX5_ask_6 (kk := ?_)
  refine J_iln C0 2 dX5_ask_7 (kk := ?_)
  refine J_callVd C0 (mX5_isPair_y l K a F g P L (u2 M 0 2 (nI 0)) (x := nI h) (y := nI k) hp) [] [modR K a (flat F) g P L (u2 M 0 2 (nI 0))] gX5_ask_X5_isPair dX5_ask_8 2 0 (kk := ?_)
  show J G _ _ _ _ _ [.int (nI 1)]
  refine J_ifneN C0 20 (by omega) dX5_ask_11 (kt := fun c1 => ?_) (kf := fun c1 => ?_)
  · refine J_aln C0 0 dX5_ask_20 (kk := ?_)
    refine J_callVd C0 (mX5_hasRoom_y l K a F g P L (u2 M 0 2 (nI 0)) hc) [] [modR K a (flat F) g P L (u2 M 0 2 (nI 0))] gX5_ask_X5_hasRoom dX5_ask_21 0 0 (kk := ?_)
    show J G _ _ _ _ _ [.int (nI 1)]
    refine J_ifneN C0 33 (by omega) dX5_ask_24 (kt := fun c2 => ?_) (kf := fun c2 => ?_)
    · refine J_aln C0 0 dX5_ask_33 (kk := ?_)
      refine J_callVd C0 (mX5_saves l K a F g P L (u2 M 0 2 (nI 0)) (k := kk) h6 hkk) [] [modR K a (flat F) g (pSv kk P (flat F)) L (pushT kk (u2 M 0 2 (nI 0)))] gX5_ask_X5_saves dX5_ask_34 0 0 (kk := ?_)
      show J G _ _ _ _ _ []
      refine J_aln C0 0 dX5_ask_37 (kk := ?_)
      refine J_iln C0 1 dX5_ask_38 (kk := ?_)
      refine J_iln C0 2 dX5_ask_39 (kk := ?_)
      refine J_callVd C0 (mX5_asks l K a F g (pSv kk P (flat F)) L (pushT kk (u2 M 0 2 (nI 0))) (n := n) hv.2.1.1 (room_lt hv.2.1.1 hc hv.2.1.2) (h := h) (k := k) (by omega) (by omega)) [] [modR K a (flat (askS F n (3 * h + k))) g (pSv kk P (flat F)) L (pushT kk (u2 M 0 2 (nI 0)))] gX5_ask_X5_asks dX5_ask_40 2 0 (kk := ?_)
      show J G _ _ _ _ _ []
      refine J_aln C0 0 dX5_ask_43 (kk := ?_)
      refine J_get C0 iX5 0 0 0 f7 dX5_ask_44 (kk := ?_)
      refine J_ic C0 4 dX5_ask_47 (kk := ?_)
      refine J_iald C0 0 1 283 dX5_ask_48 (by omega) (v := ((askS F n (3 * h + k)) 0 4)) (hv := (flat_0 (askS F n (3 * h + k)) (j := 4) (by decide)).trans rfl) (kk := ?_)
      exact J_iret C0 hF dX5_ask_49 ⟨rfl, rfl⟩
    · exact absurd c2 c1
  · exfalso; omega

set_option maxHeartbeats 4000000 in
set_option maxRecDepth 100000 in
theorem mX5_ask_pl (l : Launch) (K : KT) (a : Nat → Nat) (F : FF) (g P L : Nat → Int32) (M : FF) {x y : Int32} (hp : ¬ isPr F x y) : Ct l K yX5_ask wsX5_ask rmX5_ask [.ref (a 0), .int x, .int y] [modR K a (flat F) g P L M] (some (.int (nI 0))) [modR K a (flat F) g P L (u2 (u2 M 0 2 (nI 0)) 0 2 (nI 1))] := by
  refine CtP_of (cc := cX5_ask) (nL := 3) (rt := some .int) (own := RX5) (lv0 := [(0, .ref (a 0)), (1, .int x), (2, .int y)]) (by decide) rfl (Nat.le_of_ble_eq_true rfl) rfl rfl ?_
  intro G C0 hF _
  have f28 : Cond.fieldLink RX5 28 "CorkPermitsModel" "thrown" "I" ∈ wsX5_ask := by decide +kernel
  have iX5 : ∀ w ∈ u_ws RX5 TX5 13, w ∈ wsX5_ask := by decide +kernel
  refine J_aln C0 0 dX5_ask_0 (kk := ?_)
  refine J_ic C0 0 dX5_ask_1 (kk := ?_)
  refine J_put C0 iX5 tyX5_ok nmX5 0 0 8 [modR K a (flat F) g P L (u2 M 0 2 (nI 0))] f28 dX5_ask_2 (hd := rfl) (kk := ?_)
  refine J_aln C0 0 dX5_ask_5 (kk := ?_)
  refine J_iln C0 1 dX5_ask_6 (kk := ?_)
  refine J_iln C0 2 dX5_ask_7 (kk := ?_)
  refine J_callVd C0 (mX5_isPair_n l K a F g P L (u2 M 0 2 (nI 0)) (x := x) (y := y) hp) [] [modR K a (flat F) g P L (u2 M 0 2 (nI 0))] gX5_ask_X5_isPair dX5_ask_8 2 0 (kk := ?_)
  show J G _ _ _ _ _ [.int (nI 0)]
  refine J_ifneN C0 20 (by omega) dX5_ask_11 (kt := fun c1 => ?_) (kf := fun c1 => ?_)
  · exfalso; omega
  · refine J_aln C0 0 dX5_ask_14 (kk := ?_)
    refine J_ic C0 1 dX5_ask_15 (kk := ?_)
    refine J_callVd C0 (mX5_fails l K a F g P L (u2 M 0 2 (nI 0)) (nI 1)) [] [modR K a (flat F) g P L (u2 (u2 M 0 2 (nI 0)) 0 2 (nI 1))] gX5_ask_X5_fails dX5_ask_16 1 0 (kk := ?_)
    show J G _ _ _ _ _ [.int (nI 0)]
    exact J_iret C0 hF dX5_ask_19 ⟨rfl, rfl⟩

set_option maxHeartbeats 4000000 in
set_option maxRecDepth 100000 in
theorem mX5_ask_state (l : Launch) (K : KT) (a : Nat → Nat) (F : FF) (g P L : Nat → Int32) (M : FF) {h k : Nat} (hh : h < 4) (hk : k < 3) (hp : isPr F (nI h) (nI k)) (hc : ¬ roomS F) : Ct l K yX5_ask wsX5_ask rmX5_ask [.ref (a 0), .int (nI h), .int (nI k)] [modR K a (flat F) g P L M] (some (.int (nI 0))) [modR K a (flat F) g P L (u2 (u2 M 0 2 (nI 0)) 0 2 (nI 2))] := by
  refine CtP_of (cc := cX5_ask) (nL := 3) (rt := some .int) (own := RX5) (lv0 := [(0, .ref (a 0)), (1, .int (nI h)), (2, .int (nI k))]) (by decide) rfl (Nat.le_of_ble_eq_true rfl) rfl rfl ?_
  intro G C0 hF _
  have f28 : Cond.fieldLink RX5 28 "CorkPermitsModel" "thrown" "I" ∈ wsX5_ask := by decide +kernel
  have iX5 : ∀ w ∈ u_ws RX5 TX5 13, w ∈ wsX5_ask := by decide +kernel
  refine J_aln C0 0 dX5_ask_0 (kk := ?_)
  refine J_ic C0 0 dX5_ask_1 (kk := ?_)
  refine J_put C0 iX5 tyX5_ok nmX5 0 0 8 [modR K a (flat F) g P L (u2 M 0 2 (nI 0))] f28 dX5_ask_2 (hd := rfl) (kk := ?_)
  refine J_aln C0 0 dX5_ask_5 (kk := ?_)
  refine J_iln C0 1 dX5_ask_6 (kk := ?_)
  refine J_iln C0 2 dX5_ask_7 (kk := ?_)
  refine J_callVd C0 (mX5_isPair_y l K a F g P L (u2 M 0 2 (nI 0)) (x := nI h) (y := nI k) hp) [] [modR K a (flat F) g P L (u2 M 0 2 (nI 0))] gX5_ask_X5_isPair dX5_ask_8 2 0 (kk := ?_)
  show J G _ _ _ _ _ [.int (nI 1)]
  refine J_ifneN C0 20 (by omega) dX5_ask_11 (kt := fun c1 => ?_) (kf := fun c1 => ?_)
  · refine J_aln C0 0 dX5_ask_20 (kk := ?_)
    refine J_callVd C0 (mX5_hasRoom_n l K a F g P L (u2 M 0 2 (nI 0)) hc) [] [modR K a (flat F) g P L (u2 M 0 2 (nI 0))] gX5_ask_X5_hasRoom dX5_ask_21 0 0 (kk := ?_)
    show J G _ _ _ _ _ [.int (nI 0)]
    refine J_ifneN C0 33 (by omega) dX5_ask_24 (kt := fun c2 => ?_) (kf := fun c2 => ?_)
    · exfalso; omega
    · refine J_aln C0 0 dX5_ask_27 (kk := ?_)
      refine J_ic C0 2 dX5_ask_28 (kk := ?_)
      refine J_callVd C0 (mX5_fails l K a F g P L (u2 M 0 2 (nI 0)) (nI 2)) [] [modR K a (flat F) g P L (u2 (u2 M 0 2 (nI 0)) 0 2 (nI 2))] gX5_ask_X5_fails dX5_ask_29 1 0 (kk := ?_)
      show J G _ _ _ _ _ [.int (nI 0)]
      exact J_iret C0 hF dX5_ask_32 ⟨rfl, rfl⟩
  · exfalso; omega

abbrev rmX5_want : Room := { frames := 3, cells := 0, slots := 0, locals := 65 }
set_option maxHeartbeats 4000000 in
set_option maxRecDepth 100000 in
theorem mX5_want (l : Launch) (K : KT) (a : Nat → Nat) (F : FF) (g P L : Nat → Int32) (M : FF) {kk : Nat} (h6 : kk ≤ 6) (hkk : M 0 0 = nI kk) {h k : Nat} (hh : h < 4) (hk : k < 3) (hp : isPr F (nI h) (nI k)) (hc : ¬ F 11 (3 * h + k) = nI 9) : Ct l K yX5_want wsX5_want rmX5_want [.ref (a 0), .int (nI h), .int (nI k)] [modR K a (flat F) g P L M] (some (.int (F 11 (3 * h + k) + nI 1))) [modR K a (flat (u2 F 11 (3 * h + k) (F 11 (3 * h + k) + nI 1))) g (pSv kk P (flat F)) L (pushT kk (u2 M 0 2 (nI 0)))] := by
  refine CtP_of (cc := cX5_want) (nL := 3) (rt := some .int) (own := RX5) (lv0 := [(0, .ref (a 0)), (1, .int (nI h)), (2, .int (nI k))]) (by decide) rfl (Nat.le_of_ble_eq_true rfl) rfl rfl ?_
  intro G C0 hF _
  have f28 : Cond.fieldLink RX5 28 "CorkPermitsModel" "thrown" "I" ∈ wsX5_want := by decide +kernel
  have iX5 : ∀ w ∈ u_ws RX5 TX5 13, w ∈ wsX5_want := by decide +kernel
  have f7 : Cond.fieldLink RX5 7 "CorkPermitsModel" "s" "[I" ∈ wsX5_want := by decide +kernel
  refine J_aln C0 0 dX5_want_0 (kk := ?_)
  refine J_ic C0 0 dX5_want_1 (kk := ?_)
  refine J_put C0 iX5 tyX5_ok nmX5 0 0 8 [modR K a (flat F) g P L (u2 M 0 2 (nI 0))] f28 dX5_want_2 (hd := rfl) (kk := ?_)
  refine J_aln C0 0 dX5_want_5 (kk := ?_)
  refine J_iln C0 1 dX5_want_6 (kk := ?_)
  refine J_iln C0 2 dX5_want_7 (kk := ?_)
  refine J_callVd C0 (mX5_isPair_y l K a F g P L (u2 M 0 2 (nI 0)) (x := nI h) (y := nI k) hp) [] [modR K a (flat F) g P L (u2 M 0 2 (nI 0))] gX5_want_X5_isPair dX5_want_8 2 0 (kk := ?_)
  show J G _ _ _ _ _ [.int (nI 1)]
  refine J_ifneN C0 20 (by omega) dX5_want_11 (kt := fun c1 => ?_) (kf := fun c1 => ?_)
  · refine J_aln C0 0 dX5_want_20 (kk := ?_)
    refine J_iln C0 1 dX5_want_21 (kk := ?_)
    refine J_iln C0 2 dX5_want_22 (kk := ?_)
    refine J_ic C0 4 dX5_want_23 (kk := ?_)
    refine J_callVd C0 (mX5_of l K a F g P L (u2 M 0 2 (nI 0)) (h := h) (k := k) (w := 4) (by omega) (by omega) (by omega)) [] [modR K a (flat F) g P L (u2 M 0 2 (nI 0))] gX5_want_X5_of dX5_want_24 3 0 (kk := ?_)
    show J G _ _ _ _ _ [.int (F 11 (3 * h + k))]
    refine J_bi C0 9 dX5_want_27 (kk := ?_)
    refine J_icmpne C0 38 dX5_want_29 (kt := fun c2 => ?_) (kf := fun c2 => ?_)
    · refine J_aln C0 0 dX5_want_38 (kk := ?_)
      refine J_callVd C0 (mX5_saves l K a F g P L (u2 M 0 2 (nI 0)) (k := kk) h6 hkk) [] [modR K a (flat F) g (pSv kk P (flat F)) L (pushT kk (u2 M 0 2 (nI 0)))] gX5_want_X5_saves dX5_want_39 0 0 (kk := ?_)
      show J G _ _ _ _ _ []
      refine J_aln C0 0 dX5_want_42 (kk := ?_)
      refine J_get C0 iX5 0 0 0 f7 dX5_want_43 (kk := ?_)
      refine J_iln C0 1 dX5_want_46 (kk := ?_)
      refine J_iln C0 2 dX5_want_47 (kk := ?_)
      refine J_callSd C0 (mX5_at l K (h := h) (k := k)) [modR K a (flat F) g (pSv kk P (flat F)) L (pushT kk (u2 M 0 2 (nI 0)))] [modR K a (flat F) g (pSv kk P (flat F)) L (pushT kk (u2 M 0 2 (nI 0)))] gX5_want_X5_at dX5_want_48 2 (kk := ?_)
      show J G _ _ _ _ _ [.int (nI (23 + 5 * (3 * h + k))), .ref (a 1)]
      refine J_ic C0 4 dX5_want_51 (kk := ?_)
      refine J_iaddN C0 dX5_want_52 ?_
      refine J_dup2 C0 dX5_want_53 (kk := ?_)
      refine J_iald C0 0 1 283 dX5_want_54 (by omega) (v := (F 11 (3 * h + k))) (hv := (flat_p F (j := 23 + 5 * (3 * h + k) + 4) (p := 3 * h + k) (c := 4) (by omega) (by omega) (by omega)).trans rfl) (kk := ?_)
      refine J_ic C0 1 dX5_want_55 (kk := ?_)
      refine J_iadd C0 dX5_want_56 ?_
      refine J_iast C0 0 1 283 [modR K a (flat (u2 F 11 (3 * h + k) ((F 11 (3 * h + k)) + (nI 1)))) g (pSv kk P (flat F)) L (pushT kk (u2 M 0 2 (nI 0)))] dX5_want_57 (by omega) (hb2 := by exact congrArg (fun f => [modR K a f g (pSv kk P (flat F)) L (pushT kk (u2 M 0 2 (nI 0)))]) (flat_up F (j := 23 + 5 * (3 * h + k) + 4) (q := 3 * h + k) (d := 4) (by omega) (by omega) (by omega) ((F 11 (3 * h + k)) + (nI 1)))) (kk := ?_)
      refine J_aln C0 0 dX5_want_58 (kk := ?_)
      refine J_iln C0 1 dX5_want_59 (kk := ?_)
      refine J_iln C0 2 dX5_want_60 (kk := ?_)
      refine J_ic C0 4 dX5_want_61 (kk := ?_)
      refine J_callVd C0 (mX5_of l K a (u2 F 11 (3 * h + k) ((F 11 (3 * h + k)) + (nI 1))) g (pSv kk P (flat F)) L (pushT kk (u2 M 0 2 (nI 0))) (h := h) (k := k) (w := 4) (by omega) (by omega) (by omega)) [] [modR K a (flat (u2 F 11 (3 * h + k) ((F 11 (3 * h + k)) + (nI 1)))) g (pSv kk P (flat F)) L (pushT kk (u2 M 0 2 (nI 0)))] gX5_want_X5_of dX5_want_62 3 0 (kk := ?_)
      show J G _ _ _ _ _ [.int ((u2 F 11 (3 * h + k) ((F 11 (3 * h + k)) + (nI 1))) 11 (3 * h + k))]
      rw [u2_s]
      exact J_iret C0 hF dX5_want_65 ⟨rfl, rfl⟩
    · exact absurd c2 hc
  · exfalso; omega

set_option maxHeartbeats 4000000 in
set_option maxRecDepth 100000 in
theorem mX5_want_pl (l : Launch) (K : KT) (a : Nat → Nat) (F : FF) (g P L : Nat → Int32) (M : FF) {x y : Int32} (hp : ¬ isPr F x y) : Ct l K yX5_want wsX5_want rmX5_want [.ref (a 0), .int x, .int y] [modR K a (flat F) g P L M] (some (.int (nI 0))) [modR K a (flat F) g P L (u2 (u2 M 0 2 (nI 0)) 0 2 (nI 1))] := by
  refine CtP_of (cc := cX5_want) (nL := 3) (rt := some .int) (own := RX5) (lv0 := [(0, .ref (a 0)), (1, .int x), (2, .int y)]) (by decide) rfl (Nat.le_of_ble_eq_true rfl) rfl rfl ?_
  intro G C0 hF _
  have f28 : Cond.fieldLink RX5 28 "CorkPermitsModel" "thrown" "I" ∈ wsX5_want := by decide +kernel
  have iX5 : ∀ w ∈ u_ws RX5 TX5 13, w ∈ wsX5_want := by decide +kernel
  refine J_aln C0 0 dX5_want_0 (kk := ?_)
  refine J_ic C0 0 dX5_want_1 (kk := ?_)
  refine J_put C0 iX5 tyX5_ok nmX5 0 0 8 [modR K a (flat F) g P L (u2 M 0 2 (nI 0))] f28 dX5_want_2 (hd := rfl) (kk := ?_)
  refine J_aln C0 0 dX5_want_5 (kk := ?_)
  refine J_iln C0 1 dX5_want_6 (kk := ?_)
  refine J_iln C0 2 dX5_want_7 (kk := ?_)
  refine J_callVd C0 (mX5_isPair_n l K a F g P L (u2 M 0 2 (nI 0)) (x := x) (y := y) hp) [] [modR K a (flat F) g P L (u2 M 0 2 (nI 0))] gX5_want_X5_isPair dX5_want_8 2 0 (kk := ?_)
  show J G _ _ _ _ _ [.int (nI 0)]
  refine J_ifneN C0 20 (by omega) dX5_want_11 (kt := fun c1 => ?_) (kf := fun c1 => ?_)
  · exfalso; omega
  · refine J_aln C0 0 dX5_want_14 (kk := ?_)
    refine J_ic C0 1 dX5_want_15 (kk := ?_)
    refine J_callVd C0 (mX5_fails l K a F g P L (u2 M 0 2 (nI 0)) (nI 1)) [] [modR K a (flat F) g P L (u2 (u2 M 0 2 (nI 0)) 0 2 (nI 1))] gX5_want_X5_fails dX5_want_16 1 0 (kk := ?_)
    show J G _ _ _ _ _ [.int (nI 0)]
    exact J_iret C0 hF dX5_want_19 ⟨rfl, rfl⟩

set_option maxHeartbeats 4000000 in
set_option maxRecDepth 100000 in
theorem mX5_want_state (l : Launch) (K : KT) (a : Nat → Nat) (F : FF) (g P L : Nat → Int32) (M : FF) {h k : Nat} (hh : h < 4) (hk : k < 3) (hp : isPr F (nI h) (nI k)) (hc : F 11 (3 * h + k) = nI 9) : Ct l K yX5_want wsX5_want rmX5_want [.ref (a 0), .int (nI h), .int (nI k)] [modR K a (flat F) g P L M] (some (.int (nI 0))) [modR K a (flat F) g P L (u2 (u2 M 0 2 (nI 0)) 0 2 (nI 2))] := by
  refine CtP_of (cc := cX5_want) (nL := 3) (rt := some .int) (own := RX5) (lv0 := [(0, .ref (a 0)), (1, .int (nI h)), (2, .int (nI k))]) (by decide) rfl (Nat.le_of_ble_eq_true rfl) rfl rfl ?_
  intro G C0 hF _
  have f28 : Cond.fieldLink RX5 28 "CorkPermitsModel" "thrown" "I" ∈ wsX5_want := by decide +kernel
  have iX5 : ∀ w ∈ u_ws RX5 TX5 13, w ∈ wsX5_want := by decide +kernel
  refine J_aln C0 0 dX5_want_0 (kk := ?_)
  refine J_ic C0 0 dX5_want_1 (kk := ?_)
  refine J_put C0 iX5 tyX5_ok nmX5 0 0 8 [modR K a (flat F) g P L (u2 M 0 2 (nI 0))] f28 dX5_want_2 (hd := rfl) (kk := ?_)
  refine J_aln C0 0 dX5_want_5 (kk := ?_)
  refine J_iln C0 1 dX5_want_6 (kk := ?_)
  refine J_iln C0 2 dX5_want_7 (kk := ?_)
  refine J_callVd C0 (mX5_isPair_y l K a F g P L (u2 M 0 2 (nI 0)) (x := nI h) (y := nI k) hp) [] [modR K a (flat F) g P L (u2 M 0 2 (nI 0))] gX5_want_X5_isPair dX5_want_8 2 0 (kk := ?_)
  show J G _ _ _ _ _ [.int (nI 1)]
  refine J_ifneN C0 20 (by omega) dX5_want_11 (kt := fun c1 => ?_) (kf := fun c1 => ?_)
  · refine J_aln C0 0 dX5_want_20 (kk := ?_)
    refine J_iln C0 1 dX5_want_21 (kk := ?_)
    refine J_iln C0 2 dX5_want_22 (kk := ?_)
    refine J_ic C0 4 dX5_want_23 (kk := ?_)
    refine J_callVd C0 (mX5_of l K a F g P L (u2 M 0 2 (nI 0)) (h := h) (k := k) (w := 4) (by omega) (by omega) (by omega)) [] [modR K a (flat F) g P L (u2 M 0 2 (nI 0))] gX5_want_X5_of dX5_want_24 3 0 (kk := ?_)
    show J G _ _ _ _ _ [.int (F 11 (3 * h + k))]
    refine J_bi C0 9 dX5_want_27 (kk := ?_)
    refine J_icmpne C0 38 dX5_want_29 (kt := fun c2 => ?_) (kf := fun c2 => ?_)
    · exact absurd hc c2
    · refine J_aln C0 0 dX5_want_32 (kk := ?_)
      refine J_ic C0 2 dX5_want_33 (kk := ?_)
      refine J_callVd C0 (mX5_fails l K a F g P L (u2 M 0 2 (nI 0)) (nI 2)) [] [modR K a (flat F) g P L (u2 (u2 M 0 2 (nI 0)) 0 2 (nI 2))] gX5_want_X5_fails dX5_want_34 1 0 (kk := ?_)
      show J G _ _ _ _ _ [.int (nI 0)]
      exact J_iret C0 hF dX5_want_37 ⟨rfl, rfl⟩
  · exfalso; omega

abbrev rmX5_drink : Room := { frames := 2, cells := 0, slots := 0, locals := 45 }
set_option maxHeartbeats 4000000 in
set_option maxRecDepth 100000 in
theorem mX5_drink (l : Launch) (K : KT) (a : Nat → Nat) (F : FF) (g P L : Nat → Int32) (M : FF) {kk : Nat} (h6 : kk ≤ 6) (hkk : M 0 0 = nI kk) {k : Nat} (hk : k < 3) (hc : ¬ F 3 k = 0) : Ct l K yX5_drink wsX5_drink rmX5_drink [.ref (a 0), .int (nI k)] [modR K a (flat F) g P L M] (some (.int (drinkS F k 3 k))) [modR K a (flat (drinkS F k)) g (pSv kk P (flat F)) L (pushT kk (u2 M 0 2 (nI 0)))] := by
  refine CtP_of (cc := cX5_drink) (nL := 2) (rt := some .int) (own := RX5) (lv0 := [(0, .ref (a 0)), (1, .int (nI k))]) (by decide) rfl (Nat.le_of_ble_eq_true rfl) rfl rfl ?_
  intro G C0 hF _
  have f28 : Cond.fieldLink RX5 28 "CorkPermitsModel" "thrown" "I" ∈ wsX5_drink := by decide +kernel
  have iX5 : ∀ w ∈ u_ws RX5 TX5 13, w ∈ wsX5_drink := by decide +kernel
  refine J_aln C0 0 dX5_drink_0 (kk := ?_)
  refine J_ic C0 0 dX5_drink_1 (kk := ?_)
  refine J_put C0 iX5 tyX5_ok nmX5 0 0 8 [modR K a (flat F) g P L (u2 M 0 2 (nI 0))] f28 dX5_drink_2 (hd := rfl) (kk := ?_)
  refine J_iln C0 1 dX5_drink_5 (kk := ?_)
  refine J_callSd C0 (mX5_isKind_y l K (x := nI k) (inN_y (v := k) (lo := 0) (hi := 2) (by omega) (by omega) (by omega))) [modR K a (flat F) g P L (u2 M 0 2 (nI 0))] [modR K a (flat F) g P L (u2 M 0 2 (nI 0))] gX5_drink_X5_isKind dX5_drink_6 1 (kk := ?_)
  show J G _ _ _ _ _ [.int (nI 1)]
  refine J_ifneN C0 18 (by omega) dX5_drink_9 (kt := fun c1 => ?_) (kf := fun c1 => ?_)
  · refine J_aln C0 0 dX5_drink_18 (kk := ?_)
    refine J_iln C0 1 dX5_drink_19 (kk := ?_)
    refine J_ic C0 1 dX5_drink_20 (kk := ?_)
    refine J_callVd C0 (mX5_ofKind l K a F g P L (u2 M 0 2 (nI 0)) (k := k) (w := 1) (by omega) (by omega)) [] [modR K a (flat F) g P L (u2 M 0 2 (nI 0))] gX5_drink_X5_ofKind dX5_drink_21 2 0 (kk := ?_)
    show J G _ _ _ _ _ [.int (F 3 k)]
    refine J_ifne C0 33 dX5_drink_24 (kt := fun c2 => ?_) (kf := fun c2 => ?_)
    · refine J_aln C0 0 dX5_drink_33 (kk := ?_)
      refine J_callVd C0 (mX5_saves l K a F g P L (u2 M 0 2 (nI 0)) (k := kk) h6 hkk) [] [modR K a (flat F) g (pSv kk P (flat F)) L (pushT kk (u2 M 0 2 (nI 0)))] gX5_drink_X5_saves dX5_drink_34 0 0 (kk := ?_)
      show J G _ _ _ _ _ []
      refine J_aln C0 0 dX5_drink_37 (kk := ?_)
      refine J_iln C0 1 dX5_drink_38 (kk := ?_)
      refine J_callVd C0 (mX5_drinks l K a F g (pSv kk P (flat F)) L (pushT kk (u2 M 0 2 (nI 0))) (k := k) (by omega)) [] [modR K a (flat (drinkS F k)) g (pSv kk P (flat F)) L (pushT kk (u2 M 0 2 (nI 0)))] gX5_drink_X5_drinks dX5_drink_39 1 0 (kk := ?_)
      show J G _ _ _ _ _ []
      refine J_aln C0 0 dX5_drink_42 (kk := ?_)
      refine J_iln C0 1 dX5_drink_43 (kk := ?_)
      refine J_ic C0 1 dX5_drink_44 (kk := ?_)
      refine J_callVd C0 (mX5_ofKind l K a (drinkS F k) g (pSv kk P (flat F)) L (pushT kk (u2 M 0 2 (nI 0))) (k := k) (w := 1) (by omega) (by omega)) [] [modR K a (flat (drinkS F k)) g (pSv kk P (flat F)) L (pushT kk (u2 M 0 2 (nI 0)))] gX5_drink_X5_ofKind dX5_drink_45 2 0 (kk := ?_)
      show J G _ _ _ _ _ [.int ((drinkS F k) 3 k)]
      exact J_iret C0 hF dX5_drink_48 ⟨rfl, rfl⟩
    · exact absurd c2 hc
  · exfalso; omega

set_option maxHeartbeats 4000000 in
set_option maxRecDepth 100000 in
theorem mX5_drink_kind (l : Launch) (K : KT) (a : Nat → Nat) (F : FF) (g P L : Nat → Int32) (M : FF) {x : Int32} (hx : ¬ (¬ x < nI 0 ∧ ¬ nI 2 < x)) : Ct l K yX5_drink wsX5_drink rmX5_drink [.ref (a 0), .int x] [modR K a (flat F) g P L M] (some (.int (nI 0))) [modR K a (flat F) g P L (u2 (u2 M 0 2 (nI 0)) 0 2 (nI 1))] := by
  refine CtP_of (cc := cX5_drink) (nL := 2) (rt := some .int) (own := RX5) (lv0 := [(0, .ref (a 0)), (1, .int x)]) (by decide) rfl (Nat.le_of_ble_eq_true rfl) rfl rfl ?_
  intro G C0 hF _
  have f28 : Cond.fieldLink RX5 28 "CorkPermitsModel" "thrown" "I" ∈ wsX5_drink := by decide +kernel
  have iX5 : ∀ w ∈ u_ws RX5 TX5 13, w ∈ wsX5_drink := by decide +kernel
  refine J_aln C0 0 dX5_drink_0 (kk := ?_)
  refine J_ic C0 0 dX5_drink_1 (kk := ?_)
  refine J_put C0 iX5 tyX5_ok nmX5 0 0 8 [modR K a (flat F) g P L (u2 M 0 2 (nI 0))] f28 dX5_drink_2 (hd := rfl) (kk := ?_)
  refine J_iln C0 1 dX5_drink_5 (kk := ?_)
  refine J_callSd C0 (mX5_isKind_n l K (x := x) hx) [modR K a (flat F) g P L (u2 M 0 2 (nI 0))] [modR K a (flat F) g P L (u2 M 0 2 (nI 0))] gX5_drink_X5_isKind dX5_drink_6 1 (kk := ?_)
  show J G _ _ _ _ _ [.int (nI 0)]
  refine J_ifneN C0 18 (by omega) dX5_drink_9 (kt := fun c1 => ?_) (kf := fun c1 => ?_)
  · exfalso; omega
  · refine J_aln C0 0 dX5_drink_12 (kk := ?_)
    refine J_ic C0 1 dX5_drink_13 (kk := ?_)
    refine J_callVd C0 (mX5_fails l K a F g P L (u2 M 0 2 (nI 0)) (nI 1)) [] [modR K a (flat F) g P L (u2 (u2 M 0 2 (nI 0)) 0 2 (nI 1))] gX5_drink_X5_fails dX5_drink_14 1 0 (kk := ?_)
    show J G _ _ _ _ _ [.int (nI 0)]
    exact J_iret C0 hF dX5_drink_17 ⟨rfl, rfl⟩

set_option maxHeartbeats 4000000 in
set_option maxRecDepth 100000 in
theorem mX5_drink_state (l : Launch) (K : KT) (a : Nat → Nat) (F : FF) (g P L : Nat → Int32) (M : FF) {k : Nat} (hk : k < 3) (hc : F 3 k = 0) : Ct l K yX5_drink wsX5_drink rmX5_drink [.ref (a 0), .int (nI k)] [modR K a (flat F) g P L M] (some (.int (nI 0))) [modR K a (flat F) g P L (u2 (u2 M 0 2 (nI 0)) 0 2 (nI 2))] := by
  refine CtP_of (cc := cX5_drink) (nL := 2) (rt := some .int) (own := RX5) (lv0 := [(0, .ref (a 0)), (1, .int (nI k))]) (by decide) rfl (Nat.le_of_ble_eq_true rfl) rfl rfl ?_
  intro G C0 hF _
  have f28 : Cond.fieldLink RX5 28 "CorkPermitsModel" "thrown" "I" ∈ wsX5_drink := by decide +kernel
  have iX5 : ∀ w ∈ u_ws RX5 TX5 13, w ∈ wsX5_drink := by decide +kernel
  refine J_aln C0 0 dX5_drink_0 (kk := ?_)
  refine J_ic C0 0 dX5_drink_1 (kk := ?_)
  refine J_put C0 iX5 tyX5_ok nmX5 0 0 8 [modR K a (flat F) g P L (u2 M 0 2 (nI 0))] f28 dX5_drink_2 (hd := rfl) (kk := ?_)
  refine J_iln C0 1 dX5_drink_5 (kk := ?_)
  refine J_callSd C0 (mX5_isKind_y l K (x := nI k) (inN_y (v := k) (lo := 0) (hi := 2) (by omega) (by omega) (by omega))) [modR K a (flat F) g P L (u2 M 0 2 (nI 0))] [modR K a (flat F) g P L (u2 M 0 2 (nI 0))] gX5_drink_X5_isKind dX5_drink_6 1 (kk := ?_)
  show J G _ _ _ _ _ [.int (nI 1)]
  refine J_ifneN C0 18 (by omega) dX5_drink_9 (kt := fun c1 => ?_) (kf := fun c1 => ?_)
  · refine J_aln C0 0 dX5_drink_18 (kk := ?_)
    refine J_iln C0 1 dX5_drink_19 (kk := ?_)
    refine J_ic C0 1 dX5_drink_20 (kk := ?_)
    refine J_callVd C0 (mX5_ofKind l K a F g P L (u2 M 0 2 (nI 0)) (k := k) (w := 1) (by omega) (by omega)) [] [modR K a (flat F) g P L (u2 M 0 2 (nI 0))] gX5_drink_X5_ofKind dX5_drink_21 2 0 (kk := ?_)
    show J G _ _ _ _ _ [.int (F 3 k)]
    refine J_ifne C0 33 dX5_drink_24 (kt := fun c2 => ?_) (kf := fun c2 => ?_)
    · exact absurd hc c2
    · refine J_aln C0 0 dX5_drink_27 (kk := ?_)
      refine J_ic C0 2 dX5_drink_28 (kk := ?_)
      refine J_callVd C0 (mX5_fails l K a F g P L (u2 M 0 2 (nI 0)) (nI 2)) [] [modR K a (flat F) g P L (u2 (u2 M 0 2 (nI 0)) 0 2 (nI 2))] gX5_drink_X5_fails dX5_drink_29 1 0 (kk := ?_)
      show J G _ _ _ _ _ [.int (nI 0)]
      exact J_iret C0 hF dX5_drink_32 ⟨rfl, rfl⟩
  · exfalso; omega

abbrev rmX5_pass : Room := { frames := 8, cells := 0, slots := 0, locals := 177 }
set_option maxHeartbeats 4000000 in
set_option maxRecDepth 100000 in
theorem mX5_pass (l : Launch) (K : KT) (a : Nat → Nat) (F : FF) (g P L : Nat → Int32) (M : FF) {B hn n : Nat} {N : Nat → Nat → Nat} (hv : InvN B F hn n N) {kk : Nat} (h6 : kk ≤ 6) (hkk : M 0 0 = nI kk) {t : Nat} (ht1 : 1 ≤ t) (ht : t ≤ 60) (hB : B + 1000 < 2 ^ 30) (hc : F 0 0 + nI t ≤ nI 9999) : Ct l K yX5_pass wsX5_pass rmX5_pass [.ref (a 0), .int (nI t)] [modR K a (flat F) g P L M] (some (.int (sumS (ticksC t F 10) 12 - sumS (F 10) 12))) [modR K a (flat (ticksC t F)) g (pSv kk P (flat F)) L (pushT kk (u2 M 0 2 (nI 0)))] := by
  refine CtP_of (cc := cX5_pass) (nL := 2) (rt := some .int) (own := RX5) (lv0 := [(0, .ref (a 0)), (1, .int (nI t))]) (by decide) rfl (Nat.le_of_ble_eq_true rfl) rfl rfl ?_
  intro G C0 hF _
  have f28 : Cond.fieldLink RX5 28 "CorkPermitsModel" "thrown" "I" ∈ wsX5_pass := by decide +kernel
  have iX5 : ∀ w ∈ u_ws RX5 TX5 13, w ∈ wsX5_pass := by decide +kernel
  have f7 : Cond.fieldLink RX5 7 "CorkPermitsModel" "s" "[I" ∈ wsX5_pass := by decide +kernel
  refine J_aln C0 0 dX5_pass_0 (kk := ?_)
  refine J_ic C0 0 dX5_pass_1 (kk := ?_)
  refine J_put C0 iX5 tyX5_ok nmX5 0 0 8 [modR K a (flat F) g P L (u2 M 0 2 (nI 0))] f28 dX5_pass_2 (hd := rfl) (kk := ?_)
  refine J_iln C0 1 dX5_pass_5 (kk := ?_)
  refine J_ic C0 1 dX5_pass_6 (kk := ?_)
  refine J_bi C0 60 dX5_pass_7 (kk := ?_)
  refine J_callSd C0 (mX5_in_y l K (x := nI t) (lo := nI 1) (hi := nI 60) (inN_y (v := t) (lo := 1) (hi := 60) (by omega) (by omega) (by omega)).1 (inN_y (v := t) (lo := 1) (hi := 60) (by omega) (by omega) (by omega)).2) [modR K a (flat F) g P L (u2 M 0 2 (nI 0))] [modR K a (flat F) g P L (u2 M 0 2 (nI 0))] gX5_pass_X5_in dX5_pass_9 3 (kk := ?_)
  show J G _ _ _ _ _ [.int (nI 1)]
  refine J_ifneN C0 21 (by omega) dX5_pass_12 (kt := fun c1 => ?_) (kf := fun c1 => ?_)
  · refine J_aln C0 0 dX5_pass_21 (kk := ?_)
    refine J_get C0 iX5 0 0 0 f7 dX5_pass_22 (kk := ?_)
    refine J_ic C0 0 dX5_pass_25 (kk := ?_)
    refine J_iald C0 0 1 283 dX5_pass_26 (by omega) (v := (F 0 0)) (hv := (flat_0 F (j := 0) (by decide)).trans rfl) (kk := ?_)
    refine J_iln C0 1 dX5_pass_27 (kk := ?_)
    refine J_iadd C0 dX5_pass_28 ?_
    refine J_si C0 9999 dX5_pass_29 (kk := ?_)
    refine J_icmple C0 41 dX5_pass_32 (kt := fun c2 => ?_) (kf := fun c2 => ?_)
    · refine J_aln C0 0 dX5_pass_41 (kk := ?_)
      refine J_callVd C0 (mX5_saves l K a F g P L (u2 M 0 2 (nI 0)) (k := kk) h6 hkk) [] [modR K a (flat F) g (pSv kk P (flat F)) L (pushT kk (u2 M 0 2 (nI 0)))] gX5_pass_X5_saves dX5_pass_42 0 0 (kk := ?_)
      show J G _ _ _ _ _ []
      refine J_aln C0 0 dX5_pass_45 (kk := ?_)
      refine J_iln C0 1 dX5_pass_46 (kk := ?_)
      refine J_callVd C0 (mX5_ticks l K a F g (pSv kk P (flat F)) L (pushT kk (u2 M 0 2 (nI 0))) hv (t := t) (by omega) (by omega)) [] [modR K a (flat (ticksC t F)) g (pSv kk P (flat F)) L (pushT kk (u2 M 0 2 (nI 0)))] gX5_pass_X5_ticks dX5_pass_47 1 0 (kk := ?_)
      show J G _ _ _ _ _ [.int (sumS (ticksC t F 10) 12 - sumS (F 10) 12)]
      exact J_iret C0 hF dX5_pass_50 ⟨rfl, rfl⟩
    · exact absurd hc c2
  · exfalso; omega

set_option maxHeartbeats 4000000 in
set_option maxRecDepth 100000 in
theorem mX5_pass_ticks (l : Launch) (K : KT) (a : Nat → Nat) (F : FF) (g P L : Nat → Int32) (M : FF) {x : Int32} (hx : ¬ (¬ x < nI 1 ∧ ¬ nI 60 < x)) : Ct l K yX5_pass wsX5_pass rmX5_pass [.ref (a 0), .int x] [modR K a (flat F) g P L M] (some (.int (nI 0))) [modR K a (flat F) g P L (u2 (u2 M 0 2 (nI 0)) 0 2 (nI 1))] := by
  refine CtP_of (cc := cX5_pass) (nL := 2) (rt := some .int) (own := RX5) (lv0 := [(0, .ref (a 0)), (1, .int x)]) (by decide) rfl (Nat.le_of_ble_eq_true rfl) rfl rfl ?_
  intro G C0 hF _
  have f28 : Cond.fieldLink RX5 28 "CorkPermitsModel" "thrown" "I" ∈ wsX5_pass := by decide +kernel
  have iX5 : ∀ w ∈ u_ws RX5 TX5 13, w ∈ wsX5_pass := by decide +kernel
  refine J_aln C0 0 dX5_pass_0 (kk := ?_)
  refine J_ic C0 0 dX5_pass_1 (kk := ?_)
  refine J_put C0 iX5 tyX5_ok nmX5 0 0 8 [modR K a (flat F) g P L (u2 M 0 2 (nI 0))] f28 dX5_pass_2 (hd := rfl) (kk := ?_)
  refine J_iln C0 1 dX5_pass_5 (kk := ?_)
  refine J_ic C0 1 dX5_pass_6 (kk := ?_)
  refine J_bi C0 60 dX5_pass_7 (kk := ?_)
  refine J_callSd C0 (mX5_in_n l K (x := x) (lo := nI 1) (hi := nI 60) hx) [modR K a (flat F) g P L (u2 M 0 2 (nI 0))] [modR K a (flat F) g P L (u2 M 0 2 (nI 0))] gX5_pass_X5_in dX5_pass_9 3 (kk := ?_)
  show J G _ _ _ _ _ [.int (nI 0)]
  refine J_ifneN C0 21 (by omega) dX5_pass_12 (kt := fun c1 => ?_) (kf := fun c1 => ?_)
  · exfalso; omega
  · refine J_aln C0 0 dX5_pass_15 (kk := ?_)
    refine J_ic C0 1 dX5_pass_16 (kk := ?_)
    refine J_callVd C0 (mX5_fails l K a F g P L (u2 M 0 2 (nI 0)) (nI 1)) [] [modR K a (flat F) g P L (u2 (u2 M 0 2 (nI 0)) 0 2 (nI 1))] gX5_pass_X5_fails dX5_pass_17 1 0 (kk := ?_)
    show J G _ _ _ _ _ [.int (nI 0)]
    exact J_iret C0 hF dX5_pass_20 ⟨rfl, rfl⟩

set_option maxHeartbeats 4000000 in
set_option maxRecDepth 100000 in
theorem mX5_pass_state (l : Launch) (K : KT) (a : Nat → Nat) (F : FF) (g P L : Nat → Int32) (M : FF) {t : Nat} (ht1 : 1 ≤ t) (ht : t ≤ 60) (hc : ¬ F 0 0 + nI t ≤ nI 9999) : Ct l K yX5_pass wsX5_pass rmX5_pass [.ref (a 0), .int (nI t)] [modR K a (flat F) g P L M] (some (.int (nI 0))) [modR K a (flat F) g P L (u2 (u2 M 0 2 (nI 0)) 0 2 (nI 2))] := by
  refine CtP_of (cc := cX5_pass) (nL := 2) (rt := some .int) (own := RX5) (lv0 := [(0, .ref (a 0)), (1, .int (nI t))]) (by decide) rfl (Nat.le_of_ble_eq_true rfl) rfl rfl ?_
  intro G C0 hF _
  have f28 : Cond.fieldLink RX5 28 "CorkPermitsModel" "thrown" "I" ∈ wsX5_pass := by decide +kernel
  have iX5 : ∀ w ∈ u_ws RX5 TX5 13, w ∈ wsX5_pass := by decide +kernel
  have f7 : Cond.fieldLink RX5 7 "CorkPermitsModel" "s" "[I" ∈ wsX5_pass := by decide +kernel
  refine J_aln C0 0 dX5_pass_0 (kk := ?_)
  refine J_ic C0 0 dX5_pass_1 (kk := ?_)
  refine J_put C0 iX5 tyX5_ok nmX5 0 0 8 [modR K a (flat F) g P L (u2 M 0 2 (nI 0))] f28 dX5_pass_2 (hd := rfl) (kk := ?_)
  refine J_iln C0 1 dX5_pass_5 (kk := ?_)
  refine J_ic C0 1 dX5_pass_6 (kk := ?_)
  refine J_bi C0 60 dX5_pass_7 (kk := ?_)
  refine J_callSd C0 (mX5_in_y l K (x := nI t) (lo := nI 1) (hi := nI 60) (inN_y (v := t) (lo := 1) (hi := 60) (by omega) (by omega) (by omega)).1 (inN_y (v := t) (lo := 1) (hi := 60) (by omega) (by omega) (by omega)).2) [modR K a (flat F) g P L (u2 M 0 2 (nI 0))] [modR K a (flat F) g P L (u2 M 0 2 (nI 0))] gX5_pass_X5_in dX5_pass_9 3 (kk := ?_)
  show J G _ _ _ _ _ [.int (nI 1)]
  refine J_ifneN C0 21 (by omega) dX5_pass_12 (kt := fun c1 => ?_) (kf := fun c1 => ?_)
  · refine J_aln C0 0 dX5_pass_21 (kk := ?_)
    refine J_get C0 iX5 0 0 0 f7 dX5_pass_22 (kk := ?_)
    refine J_ic C0 0 dX5_pass_25 (kk := ?_)
    refine J_iald C0 0 1 283 dX5_pass_26 (by omega) (v := (F 0 0)) (hv := (flat_0 F (j := 0) (by decide)).trans rfl) (kk := ?_)
    refine J_iln C0 1 dX5_pass_27 (kk := ?_)
    refine J_iadd C0 dX5_pass_28 ?_
    refine J_si C0 9999 dX5_pass_29 (kk := ?_)
    refine J_icmple C0 41 dX5_pass_32 (kt := fun c2 => ?_) (kf := fun c2 => ?_)
    · exact absurd c2 hc
    · refine J_aln C0 0 dX5_pass_35 (kk := ?_)
      refine J_ic C0 2 dX5_pass_36 (kk := ?_)
      refine J_callVd C0 (mX5_fails l K a F g P L (u2 M 0 2 (nI 0)) (nI 2)) [] [modR K a (flat F) g P L (u2 (u2 M 0 2 (nI 0)) 0 2 (nI 2))] gX5_pass_X5_fails dX5_pass_37 1 0 (kk := ?_)
      show J G _ _ _ _ _ [.int (nI 0)]
      exact J_iret C0 hF dX5_pass_40 ⟨rfl, rfl⟩
  · exfalso; omega

abbrev rmX5_set : Room := { frames := 2, cells := 0, slots := 0, locals := 45 }
set_option maxHeartbeats 4000000 in
set_option maxRecDepth 100000 in
theorem mX5_set_0 (l : Launch) (K : KT) (a : Nat → Nat) (F : FF) (g P L : Nat → Int32) (M : FF) {kk : Nat} (h6 : kk ≤ 6) (hkk : M 0 0 = nI kk) {x : Int32} (hx : ¬ x < nI 1) (hy : ¬ nI 9 < x) : Ct l K yX5_set wsX5_set rmX5_set [.ref (a 0), .int (nI 0), .int x] [modR K a (flat F) g P L M] (some (.int (F 1 0))) [modR K a (flat (u2 F 1 0 x)) g (pSv kk P (flat F)) L (pushT kk (u2 M 0 2 (nI 0)))] := by
  refine CtP_of (cc := cX5_set) (nL := 4) (rt := some .int) (own := RX5) (lv0 := [(0, .ref (a 0)), (1, .int (nI 0)), (2, .int x)]) (by decide) rfl (Nat.le_of_ble_eq_true rfl) rfl rfl ?_
  intro G C0 hF _
  have f28 : Cond.fieldLink RX5 28 "CorkPermitsModel" "thrown" "I" ∈ wsX5_set := by decide +kernel
  have iX5 : ∀ w ∈ u_ws RX5 TX5 13, w ∈ wsX5_set := by decide +kernel
  have f7 : Cond.fieldLink RX5 7 "CorkPermitsModel" "s" "[I" ∈ wsX5_set := by decide +kernel
  refine J_aln C0 0 dX5_set_0 (kk := ?_)
  refine J_ic C0 0 dX5_set_1 (kk := ?_)
  refine J_put C0 iX5 tyX5_ok nmX5 0 0 8 [modR K a (flat F) g P L (u2 M 0 2 (nI 0))] f28 dX5_set_2 (hd := rfl) (kk := ?_)
  refine J_iln C0 1 dX5_set_5 (kk := ?_)
  refine J_ic C0 0 dX5_set_6 (kk := ?_)
  refine J_ic C0 2 dX5_set_7 (kk := ?_)
  refine J_callSd C0 (mX5_in_y l K (x := nI 0) (lo := nI 0) (hi := nI 2) (inN_y (v := 0) (lo := 0) (hi := 2) (by omega) (by omega) (by omega)).1 (inN_y (v := 0) (lo := 0) (hi := 2) (by omega) (by omega) (by omega)).2) [modR K a (flat F) g P L (u2 M 0 2 (nI 0))] [modR K a (flat F) g P L (u2 M 0 2 (nI 0))] gX5_set_X5_in dX5_set_8 3 (kk := ?_)
  show J G _ _ _ _ _ [.int (nI 1)]
  refine J_ifneN C0 20 (by omega) dX5_set_11 (kt := fun c1 => ?_) (kf := fun c1 => ?_)
  · refine J_iln C0 2 dX5_set_20 (kk := ?_)
    refine J_iln C0 1 dX5_set_21 (kk := ?_)
    refine J_ifneN C0 29 (by omega) dX5_set_22 (kt := fun c2 => ?_) (kf := fun c2 => ?_)
    · exfalso; omega
    · refine J_ic C0 1 dX5_set_25 (kk := ?_)
      refine J_goto C0 30 dX5_set_26 (kk := ?_)
      refine J_iln C0 1 dX5_set_30 (kk := ?_)
      refine J_ic C0 1 dX5_set_31 (kk := ?_)
      refine J_icmpneN C0 40 (by omega) (by omega) dX5_set_32 (kt := fun c3 => ?_) (kf := fun c3 => ?_)
      · refine J_bi C0 9 dX5_set_40 (kk := ?_)
        refine J_callSd C0 (mX5_in_y l K (x := x) (lo := nI 1) (hi := nI 9) hx hy) [modR K a (flat F) g P L (u2 M 0 2 (nI 0))] [modR K a (flat F) g P L (u2 M 0 2 (nI 0))] gX5_set_X5_in dX5_set_42 3 (kk := ?_)
        show J G _ _ _ _ _ [.int (nI 1)]
        refine J_ifneN C0 54 (by omega) dX5_set_45 (kt := fun c4 => ?_) (kf := fun c4 => ?_)
        · refine J_aln C0 0 dX5_set_54 (kk := ?_)
          refine J_callVd C0 (mX5_saves l K a F g P L (u2 M 0 2 (nI 0)) (k := kk) h6 hkk) [] [modR K a (flat F) g (pSv kk P (flat F)) L (pushT kk (u2 M 0 2 (nI 0)))] gX5_set_X5_saves dX5_set_55 0 0 (kk := ?_)
          show J G _ _ _ _ _ []
          refine J_aln C0 0 dX5_set_58 (kk := ?_)
          refine J_get C0 iX5 0 0 0 f7 dX5_set_59 (kk := ?_)
          refine J_ic C0 5 dX5_set_62 (kk := ?_)
          refine J_iln C0 1 dX5_set_63 (kk := ?_)
          refine J_iaddN C0 dX5_set_64 ?_
          refine J_iald C0 0 1 283 dX5_set_65 (by omega) (v := (F 1 0)) (hv := (flat_1 F (j := 5) (c := 0) (by omega) (by omega)).trans rfl) (kk := ?_)
          refine J_isn C0 [(3, .int (F 1 0)), (0, .ref (a 0)), (1, .int (nI 0)), (2, .int x)] dX5_set_66 (kk := ?_)
          refine J_aln C0 1 dX5_set_67 (kk := ?_)
          refine J_get C0 iX5 0 0 0 f7 dX5_set_68 (kk := ?_)
          refine J_ic C0 5 dX5_set_71 (kk := ?_)
          refine J_iln C0 2 dX5_set_72 (kk := ?_)
          refine J_iaddN C0 dX5_set_73 ?_
          refine J_iln C0 3 dX5_set_74 (kk := ?_)
          refine J_iast C0 0 1 283 [modR K a (flat (u2 F 1 0 x)) g (pSv kk P (flat F)) L (pushT kk (u2 M 0 2 (nI 0)))] dX5_set_75 (by omega) (hb2 := by exact congrArg (fun f => [modR K a f g (pSv kk P (flat F)) L (pushT kk (u2 M 0 2 (nI 0)))]) (flat_u1 F (j := 5) (d := 0) (by omega) (by omega) x)) (kk := ?_)
          refine J_iln C0 0 dX5_set_76 (kk := ?_)
          exact J_iret C0 hF dX5_set_77 ⟨rfl, rfl⟩
        · exact absurd c4 c1
      · exfalso; omega
  · exfalso; omega

set_option maxHeartbeats 4000000 in
set_option maxRecDepth 100000 in
theorem mX5_set_0_value (l : Launch) (K : KT) (a : Nat → Nat) (F : FF) (g P L : Nat → Int32) (M : FF) {x : Int32} (hx : ¬ (¬ x < nI 1 ∧ ¬ nI 9 < x)) : Ct l K yX5_set wsX5_set rmX5_set [.ref (a 0), .int (nI 0), .int x] [modR K a (flat F) g P L M] (some (.int (nI 0))) [modR K a (flat F) g P L (u2 (u2 M 0 2 (nI 0)) 0 2 (nI 2))] := by
  refine CtP_of (cc := cX5_set) (nL := 4) (rt := some .int) (own := RX5) (lv0 := [(0, .ref (a 0)), (1, .int (nI 0)), (2, .int x)]) (by decide) rfl (Nat.le_of_ble_eq_true rfl) rfl rfl ?_
  intro G C0 hF _
  have f28 : Cond.fieldLink RX5 28 "CorkPermitsModel" "thrown" "I" ∈ wsX5_set := by decide +kernel
  have iX5 : ∀ w ∈ u_ws RX5 TX5 13, w ∈ wsX5_set := by decide +kernel
  refine J_aln C0 0 dX5_set_0 (kk := ?_)
  refine J_ic C0 0 dX5_set_1 (kk := ?_)
  refine J_put C0 iX5 tyX5_ok nmX5 0 0 8 [modR K a (flat F) g P L (u2 M 0 2 (nI 0))] f28 dX5_set_2 (hd := rfl) (kk := ?_)
  refine J_iln C0 1 dX5_set_5 (kk := ?_)
  refine J_ic C0 0 dX5_set_6 (kk := ?_)
  refine J_ic C0 2 dX5_set_7 (kk := ?_)
  refine J_callSd C0 (mX5_in_y l K (x := nI 0) (lo := nI 0) (hi := nI 2) (inN_y (v := 0) (lo := 0) (hi := 2) (by omega) (by omega) (by omega)).1 (inN_y (v := 0) (lo := 0) (hi := 2) (by omega) (by omega) (by omega)).2) [modR K a (flat F) g P L (u2 M 0 2 (nI 0))] [modR K a (flat F) g P L (u2 M 0 2 (nI 0))] gX5_set_X5_in dX5_set_8 3 (kk := ?_)
  show J G _ _ _ _ _ [.int (nI 1)]
  refine J_ifneN C0 20 (by omega) dX5_set_11 (kt := fun c1 => ?_) (kf := fun c1 => ?_)
  · refine J_iln C0 2 dX5_set_20 (kk := ?_)
    refine J_iln C0 1 dX5_set_21 (kk := ?_)
    refine J_ifneN C0 29 (by omega) dX5_set_22 (kt := fun c2 => ?_) (kf := fun c2 => ?_)
    · exfalso; omega
    · refine J_ic C0 1 dX5_set_25 (kk := ?_)
      refine J_goto C0 30 dX5_set_26 (kk := ?_)
      refine J_iln C0 1 dX5_set_30 (kk := ?_)
      refine J_ic C0 1 dX5_set_31 (kk := ?_)
      refine J_icmpneN C0 40 (by omega) (by omega) dX5_set_32 (kt := fun c3 => ?_) (kf := fun c3 => ?_)
      · refine J_bi C0 9 dX5_set_40 (kk := ?_)
        refine J_callSd C0 (mX5_in_n l K (x := x) (lo := nI 1) (hi := nI 9) hx) [modR K a (flat F) g P L (u2 M 0 2 (nI 0))] [modR K a (flat F) g P L (u2 M 0 2 (nI 0))] gX5_set_X5_in dX5_set_42 3 (kk := ?_)
        show J G _ _ _ _ _ [.int (nI 0)]
        refine J_ifneN C0 54 (by omega) dX5_set_45 (kt := fun c4 => ?_) (kf := fun c4 => ?_)
        · exact absurd c2 c4
        · refine J_aln C0 0 dX5_set_48 (kk := ?_)
          refine J_ic C0 2 dX5_set_49 (kk := ?_)
          refine J_callVd C0 (mX5_fails l K a F g P L (u2 M 0 2 (nI 0)) (nI 2)) [] [modR K a (flat F) g P L (u2 (u2 M 0 2 (nI 0)) 0 2 (nI 2))] gX5_set_X5_fails dX5_set_50 1 0 (kk := ?_)
          show J G _ _ _ _ _ [.int (nI 0)]
          exact J_iret C0 hF dX5_set_53 ⟨rfl, rfl⟩
      · exfalso; omega
  · exfalso; omega

set_option maxHeartbeats 4000000 in
set_option maxRecDepth 100000 in
theorem mX5_set_1 (l : Launch) (K : KT) (a : Nat → Nat) (F : FF) (g P L : Nat → Int32) (M : FF) {kk : Nat} (h6 : kk ≤ 6) (hkk : M 0 0 = nI kk) {x : Int32} (hx : ¬ x < nI 0) (hy : ¬ nI 99 < x) : Ct l K yX5_set wsX5_set rmX5_set [.ref (a 0), .int (nI 1), .int x] [modR K a (flat F) g P L M] (some (.int (F 1 1))) [modR K a (flat (u2 F 1 1 x)) g (pSv kk P (flat F)) L (pushT kk (u2 M 0 2 (nI 0)))] := by
  refine CtP_of (cc := cX5_set) (nL := 4) (rt := some .int) (own := RX5) (lv0 := [(0, .ref (a 0)), (1, .int (nI 1)), (2, .int x)]) (by decide) rfl (Nat.le_of_ble_eq_true rfl) rfl rfl ?_
  intro G C0 hF _
  have f28 : Cond.fieldLink RX5 28 "CorkPermitsModel" "thrown" "I" ∈ wsX5_set := by decide +kernel
  have iX5 : ∀ w ∈ u_ws RX5 TX5 13, w ∈ wsX5_set := by decide +kernel
  have f7 : Cond.fieldLink RX5 7 "CorkPermitsModel" "s" "[I" ∈ wsX5_set := by decide +kernel
  refine J_aln C0 0 dX5_set_0 (kk := ?_)
  refine J_ic C0 0 dX5_set_1 (kk := ?_)
  refine J_put C0 iX5 tyX5_ok nmX5 0 0 8 [modR K a (flat F) g P L (u2 M 0 2 (nI 0))] f28 dX5_set_2 (hd := rfl) (kk := ?_)
  refine J_iln C0 1 dX5_set_5 (kk := ?_)
  refine J_ic C0 0 dX5_set_6 (kk := ?_)
  refine J_ic C0 2 dX5_set_7 (kk := ?_)
  refine J_callSd C0 (mX5_in_y l K (x := nI 1) (lo := nI 0) (hi := nI 2) (inN_y (v := 1) (lo := 0) (hi := 2) (by omega) (by omega) (by omega)).1 (inN_y (v := 1) (lo := 0) (hi := 2) (by omega) (by omega) (by omega)).2) [modR K a (flat F) g P L (u2 M 0 2 (nI 0))] [modR K a (flat F) g P L (u2 M 0 2 (nI 0))] gX5_set_X5_in dX5_set_8 3 (kk := ?_)
  show J G _ _ _ _ _ [.int (nI 1)]
  refine J_ifneN C0 20 (by omega) dX5_set_11 (kt := fun c1 => ?_) (kf := fun c1 => ?_)
  · refine J_iln C0 2 dX5_set_20 (kk := ?_)
    refine J_iln C0 1 dX5_set_21 (kk := ?_)
    refine J_ifneN C0 29 (by omega) dX5_set_22 (kt := fun c2 => ?_) (kf := fun c2 => ?_)
    · refine J_ic C0 0 dX5_set_29 (kk := ?_)
      refine J_iln C0 1 dX5_set_30 (kk := ?_)
      refine J_ic C0 1 dX5_set_31 (kk := ?_)
      refine J_icmpneN C0 40 (by omega) (by omega) dX5_set_32 (kt := fun c3 => ?_) (kf := fun c3 => ?_)
      · exfalso; omega
      · refine J_bi C0 99 dX5_set_35 (kk := ?_)
        refine J_goto C0 42 dX5_set_37 (kk := ?_)
        refine J_callSd C0 (mX5_in_y l K (x := x) (lo := nI 0) (hi := nI 99) hx hy) [modR K a (flat F) g P L (u2 M 0 2 (nI 0))] [modR K a (flat F) g P L (u2 M 0 2 (nI 0))] gX5_set_X5_in dX5_set_42 3 (kk := ?_)
        show J G _ _ _ _ _ [.int (nI 1)]
        refine J_ifneN C0 54 (by omega) dX5_set_45 (kt := fun c4 => ?_) (kf := fun c4 => ?_)
        · refine J_aln C0 0 dX5_set_54 (kk := ?_)
          refine J_callVd C0 (mX5_saves l K a F g P L (u2 M 0 2 (nI 0)) (k := kk) h6 hkk) [] [modR K a (flat F) g (pSv kk P (flat F)) L (pushT kk (u2 M 0 2 (nI 0)))] gX5_set_X5_saves dX5_set_55 0 0 (kk := ?_)
          show J G _ _ _ _ _ []
          refine J_aln C0 0 dX5_set_58 (kk := ?_)
          refine J_get C0 iX5 0 0 0 f7 dX5_set_59 (kk := ?_)
          refine J_ic C0 5 dX5_set_62 (kk := ?_)
          refine J_iln C0 1 dX5_set_63 (kk := ?_)
          refine J_iaddN C0 dX5_set_64 ?_
          refine J_iald C0 0 1 283 dX5_set_65 (by omega) (v := (F 1 1)) (hv := (flat_1 F (j := 6) (c := 1) (by omega) (by omega)).trans rfl) (kk := ?_)
          refine J_isn C0 [(3, .int (F 1 1)), (0, .ref (a 0)), (1, .int (nI 1)), (2, .int x)] dX5_set_66 (kk := ?_)
          refine J_aln C0 1 dX5_set_67 (kk := ?_)
          refine J_get C0 iX5 0 0 0 f7 dX5_set_68 (kk := ?_)
          refine J_ic C0 5 dX5_set_71 (kk := ?_)
          refine J_iln C0 2 dX5_set_72 (kk := ?_)
          refine J_iaddN C0 dX5_set_73 ?_
          refine J_iln C0 3 dX5_set_74 (kk := ?_)
          refine J_iast C0 0 1 283 [modR K a (flat (u2 F 1 1 x)) g (pSv kk P (flat F)) L (pushT kk (u2 M 0 2 (nI 0)))] dX5_set_75 (by omega) (hb2 := by exact congrArg (fun f => [modR K a f g (pSv kk P (flat F)) L (pushT kk (u2 M 0 2 (nI 0)))]) (flat_u1 F (j := 6) (d := 1) (by omega) (by omega) x)) (kk := ?_)
          refine J_iln C0 0 dX5_set_76 (kk := ?_)
          exact J_iret C0 hF dX5_set_77 ⟨rfl, rfl⟩
        · exact absurd c4 c1
    · exact absurd c2 c1
  · exfalso; omega

set_option maxHeartbeats 4000000 in
set_option maxRecDepth 100000 in
theorem mX5_set_1_value (l : Launch) (K : KT) (a : Nat → Nat) (F : FF) (g P L : Nat → Int32) (M : FF) {x : Int32} (hx : ¬ (¬ x < nI 0 ∧ ¬ nI 99 < x)) : Ct l K yX5_set wsX5_set rmX5_set [.ref (a 0), .int (nI 1), .int x] [modR K a (flat F) g P L M] (some (.int (nI 0))) [modR K a (flat F) g P L (u2 (u2 M 0 2 (nI 0)) 0 2 (nI 2))] := by
  refine CtP_of (cc := cX5_set) (nL := 4) (rt := some .int) (own := RX5) (lv0 := [(0, .ref (a 0)), (1, .int (nI 1)), (2, .int x)]) (by decide) rfl (Nat.le_of_ble_eq_true rfl) rfl rfl ?_
  intro G C0 hF _
  have f28 : Cond.fieldLink RX5 28 "CorkPermitsModel" "thrown" "I" ∈ wsX5_set := by decide +kernel
  have iX5 : ∀ w ∈ u_ws RX5 TX5 13, w ∈ wsX5_set := by decide +kernel
  refine J_aln C0 0 dX5_set_0 (kk := ?_)
  refine J_ic C0 0 dX5_set_1 (kk := ?_)
  refine J_put C0 iX5 tyX5_ok nmX5 0 0 8 [modR K a (flat F) g P L (u2 M 0 2 (nI 0))] f28 dX5_set_2 (hd := rfl) (kk := ?_)
  refine J_iln C0 1 dX5_set_5 (kk := ?_)
  refine J_ic C0 0 dX5_set_6 (kk := ?_)
  refine J_ic C0 2 dX5_set_7 (kk := ?_)
  refine J_callSd C0 (mX5_in_y l K (x := nI 1) (lo := nI 0) (hi := nI 2) (inN_y (v := 1) (lo := 0) (hi := 2) (by omega) (by omega) (by omega)).1 (inN_y (v := 1) (lo := 0) (hi := 2) (by omega) (by omega) (by omega)).2) [modR K a (flat F) g P L (u2 M 0 2 (nI 0))] [modR K a (flat F) g P L (u2 M 0 2 (nI 0))] gX5_set_X5_in dX5_set_8 3 (kk := ?_)
  show J G _ _ _ _ _ [.int (nI 1)]
  refine J_ifneN C0 20 (by omega) dX5_set_11 (kt := fun c1 => ?_) (kf := fun c1 => ?_)
  · refine J_iln C0 2 dX5_set_20 (kk := ?_)
    refine J_iln C0 1 dX5_set_21 (kk := ?_)
    refine J_ifneN C0 29 (by omega) dX5_set_22 (kt := fun c2 => ?_) (kf := fun c2 => ?_)
    · refine J_ic C0 0 dX5_set_29 (kk := ?_)
      refine J_iln C0 1 dX5_set_30 (kk := ?_)
      refine J_ic C0 1 dX5_set_31 (kk := ?_)
      refine J_icmpneN C0 40 (by omega) (by omega) dX5_set_32 (kt := fun c3 => ?_) (kf := fun c3 => ?_)
      · exfalso; omega
      · refine J_bi C0 99 dX5_set_35 (kk := ?_)
        refine J_goto C0 42 dX5_set_37 (kk := ?_)
        refine J_callSd C0 (mX5_in_n l K (x := x) (lo := nI 0) (hi := nI 99) hx) [modR K a (flat F) g P L (u2 M 0 2 (nI 0))] [modR K a (flat F) g P L (u2 M 0 2 (nI 0))] gX5_set_X5_in dX5_set_42 3 (kk := ?_)
        show J G _ _ _ _ _ [.int (nI 0)]
        refine J_ifneN C0 54 (by omega) dX5_set_45 (kt := fun c4 => ?_) (kf := fun c4 => ?_)
        · exfalso; omega
        · refine J_aln C0 0 dX5_set_48 (kk := ?_)
          refine J_ic C0 2 dX5_set_49 (kk := ?_)
          refine J_callVd C0 (mX5_fails l K a F g P L (u2 M 0 2 (nI 0)) (nI 2)) [] [modR K a (flat F) g P L (u2 (u2 M 0 2 (nI 0)) 0 2 (nI 2))] gX5_set_X5_fails dX5_set_50 1 0 (kk := ?_)
          show J G _ _ _ _ _ [.int (nI 0)]
          exact J_iret C0 hF dX5_set_53 ⟨rfl, rfl⟩
    · exact absurd c2 c1
  · exfalso; omega

set_option maxHeartbeats 4000000 in
set_option maxRecDepth 100000 in
theorem mX5_set_2 (l : Launch) (K : KT) (a : Nat → Nat) (F : FF) (g P L : Nat → Int32) (M : FF) {kk : Nat} (h6 : kk ≤ 6) (hkk : M 0 0 = nI kk) {x : Int32} (hx : ¬ x < nI 0) (hy : ¬ nI 9 < x) : Ct l K yX5_set wsX5_set rmX5_set [.ref (a 0), .int (nI 2), .int x] [modR K a (flat F) g P L M] (some (.int (F 1 2))) [modR K a (flat (u2 F 1 2 x)) g (pSv kk P (flat F)) L (pushT kk (u2 M 0 2 (nI 0)))] := by
  refine CtP_of (cc := cX5_set) (nL := 4) (rt := some .int) (own := RX5) (lv0 := [(0, .ref (a 0)), (1, .int (nI 2)), (2, .int x)]) (by decide) rfl (Nat.le_of_ble_eq_true rfl) rfl rfl ?_
  intro G C0 hF _
  have f28 : Cond.fieldLink RX5 28 "CorkPermitsModel" "thrown" "I" ∈ wsX5_set := by decide +kernel
  have iX5 : ∀ w ∈ u_ws RX5 TX5 13, w ∈ wsX5_set := by decide +kernel
  have f7 : Cond.fieldLink RX5 7 "CorkPermitsModel" "s" "[I" ∈ wsX5_set := by decide +kernel
  refine J_aln C0 0 dX5_set_0 (kk := ?_)
  refine J_ic C0 0 dX5_set_1 (kk := ?_)
  refine J_put C0 iX5 tyX5_ok nmX5 0 0 8 [modR K a (flat F) g P L (u2 M 0 2 (nI 0))] f28 dX5_set_2 (hd := rfl) (kk := ?_)
  refine J_iln C0 1 dX5_set_5 (kk := ?_)
  refine J_ic C0 0 dX5_set_6 (kk := ?_)
  refine J_ic C0 2 dX5_set_7 (kk := ?_)
  refine J_callSd C0 (mX5_in_y l K (x := nI 2) (lo := nI 0) (hi := nI 2) (inN_y (v := 2) (lo := 0) (hi := 2) (by omega) (by omega) (by omega)).1 (inN_y (v := 2) (lo := 0) (hi := 2) (by omega) (by omega) (by omega)).2) [modR K a (flat F) g P L (u2 M 0 2 (nI 0))] [modR K a (flat F) g P L (u2 M 0 2 (nI 0))] gX5_set_X5_in dX5_set_8 3 (kk := ?_)
  show J G _ _ _ _ _ [.int (nI 1)]
  refine J_ifneN C0 20 (by omega) dX5_set_11 (kt := fun c1 => ?_) (kf := fun c1 => ?_)
  · refine J_iln C0 2 dX5_set_20 (kk := ?_)
    refine J_iln C0 1 dX5_set_21 (kk := ?_)
    refine J_ifneN C0 29 (by omega) dX5_set_22 (kt := fun c2 => ?_) (kf := fun c2 => ?_)
    · refine J_ic C0 0 dX5_set_29 (kk := ?_)
      refine J_iln C0 1 dX5_set_30 (kk := ?_)
      refine J_ic C0 1 dX5_set_31 (kk := ?_)
      refine J_icmpneN C0 40 (by omega) (by omega) dX5_set_32 (kt := fun c3 => ?_) (kf := fun c3 => ?_)
      · refine J_bi C0 9 dX5_set_40 (kk := ?_)
        refine J_callSd C0 (mX5_in_y l K (x := x) (lo := nI 0) (hi := nI 9) hx hy) [modR K a (flat F) g P L (u2 M 0 2 (nI 0))] [modR K a (flat F) g P L (u2 M 0 2 (nI 0))] gX5_set_X5_in dX5_set_42 3 (kk := ?_)
        show J G _ _ _ _ _ [.int (nI 1)]
        refine J_ifneN C0 54 (by omega) dX5_set_45 (kt := fun c4 => ?_) (kf := fun c4 => ?_)
        · refine J_aln C0 0 dX5_set_54 (kk := ?_)
          refine J_callVd C0 (mX5_saves l K a F g P L (u2 M 0 2 (nI 0)) (k := kk) h6 hkk) [] [modR K a (flat F) g (pSv kk P (flat F)) L (pushT kk (u2 M 0 2 (nI 0)))] gX5_set_X5_saves dX5_set_55 0 0 (kk := ?_)
          show J G _ _ _ _ _ []
          refine J_aln C0 0 dX5_set_58 (kk := ?_)
          refine J_get C0 iX5 0 0 0 f7 dX5_set_59 (kk := ?_)
          refine J_ic C0 5 dX5_set_62 (kk := ?_)
          refine J_iln C0 1 dX5_set_63 (kk := ?_)
          refine J_iaddN C0 dX5_set_64 ?_
          refine J_iald C0 0 1 283 dX5_set_65 (by omega) (v := (F 1 2)) (hv := (flat_1 F (j := 7) (c := 2) (by omega) (by omega)).trans rfl) (kk := ?_)
          refine J_isn C0 [(3, .int (F 1 2)), (0, .ref (a 0)), (1, .int (nI 2)), (2, .int x)] dX5_set_66 (kk := ?_)
          refine J_aln C0 1 dX5_set_67 (kk := ?_)
          refine J_get C0 iX5 0 0 0 f7 dX5_set_68 (kk := ?_)
          refine J_ic C0 5 dX5_set_71 (kk := ?_)
          refine J_iln C0 2 dX5_set_72 (kk := ?_)
          refine J_iaddN C0 dX5_set_73 ?_
          refine J_iln C0 3 dX5_set_74 (kk := ?_)
          refine J_iast C0 0 1 283 [modR K a (flat (u2 F 1 2 x)) g (pSv kk P (flat F)) L (pushT kk (u2 M 0 2 (nI 0)))] dX5_set_75 (by omega) (hb2 := by exact congrArg (fun f => [modR K a f g (pSv kk P (flat F)) L (pushT kk (u2 M 0 2 (nI 0)))]) (flat_u1 F (j := 7) (d := 2) (by omega) (by omega) x)) (kk := ?_)
          refine J_iln C0 0 dX5_set_76 (kk := ?_)
          exact J_iret C0 hF dX5_set_77 ⟨rfl, rfl⟩
        · exact absurd c4 c1
      · exfalso; omega
    · exfalso; omega
  · exfalso; omega

set_option maxHeartbeats 4000000 in
set_option maxRecDepth 100000 in
theorem mX5_set_2_value (l : Launch) (K : KT) (a : Nat → Nat) (F : FF) (g P L : Nat → Int32) (M : FF) {x : Int32} (hx : ¬ (¬ x < nI 0 ∧ ¬ nI 9 < x)) : Ct l K yX5_set wsX5_set rmX5_set [.ref (a 0), .int (nI 2), .int x] [modR K a (flat F) g P L M] (some (.int (nI 0))) [modR K a (flat F) g P L (u2 (u2 M 0 2 (nI 0)) 0 2 (nI 2))] := by
  refine CtP_of (cc := cX5_set) (nL := 4) (rt := some .int) (own := RX5) (lv0 := [(0, .ref (a 0)), (1, .int (nI 2)), (2, .int x)]) (by decide) rfl (Nat.le_of_ble_eq_true rfl) rfl rfl ?_
  intro G C0 hF _
  have f28 : Cond.fieldLink RX5 28 "CorkPermitsModel" "thrown" "I" ∈ wsX5_set := by decide +kernel
  have iX5 : ∀ w ∈ u_ws RX5 TX5 13, w ∈ wsX5_set := by decide +kernel
  refine J_aln C0 0 dX5_set_0 (kk := ?_)
  refine J_ic C0 0 dX5_set_1 (kk := ?_)
  refine J_put C0 iX5 tyX5_ok nmX5 0 0 8 [modR K a (flat F) g P L (u2 M 0 2 (nI 0))] f28 dX5_set_2 (hd := rfl) (kk := ?_)
  refine J_iln C0 1 dX5_set_5 (kk := ?_)
  refine J_ic C0 0 dX5_set_6 (kk := ?_)
  refine J_ic C0 2 dX5_set_7 (kk := ?_)
  refine J_callSd C0 (mX5_in_y l K (x := nI 2) (lo := nI 0) (hi := nI 2) (inN_y (v := 2) (lo := 0) (hi := 2) (by omega) (by omega) (by omega)).1 (inN_y (v := 2) (lo := 0) (hi := 2) (by omega) (by omega) (by omega)).2) [modR K a (flat F) g P L (u2 M 0 2 (nI 0))] [modR K a (flat F) g P L (u2 M 0 2 (nI 0))] gX5_set_X5_in dX5_set_8 3 (kk := ?_)
  show J G _ _ _ _ _ [.int (nI 1)]
  refine J_ifneN C0 20 (by omega) dX5_set_11 (kt := fun c1 => ?_) (kf := fun c1 => ?_)
  · refine J_iln C0 2 dX5_set_20 (kk := ?_)
    refine J_iln C0 1 dX5_set_21 (kk := ?_)
    refine J_ifneN C0 29 (by omega) dX5_set_22 (kt := fun c2 => ?_) (kf := fun c2 => ?_)
    · refine J_ic C0 0 dX5_set_29 (kk := ?_)
      refine J_iln C0 1 dX5_set_30 (kk := ?_)
      refine J_ic C0 1 dX5_set_31 (kk := ?_)
      refine J_icmpneN C0 40 (by omega) (by omega) dX5_set_32 (kt := fun c3 => ?_) (kf := fun c3 => ?_)
      · refine J_bi C0 9 dX5_set_40 (kk := ?_)
        refine J_callSd C0 (mX5_in_n l K (x := x) (lo := nI 0) (hi := nI 9) hx) [modR K a (flat F) g P L (u2 M 0 2 (nI 0))] [modR K a (flat F) g P L (u2 M 0 2 (nI 0))] gX5_set_X5_in dX5_set_42 3 (kk := ?_)
        show J G _ _ _ _ _ [.int (nI 0)]
        refine J_ifneN C0 54 (by omega) dX5_set_45 (kt := fun c4 => ?_) (kf := fun c4 => ?_)
        · exfalso; omega
        · refine J_aln C0 0 dX5_set_48 (kk := ?_)
          refine J_ic C0 2 dX5_set_49 (kk := ?_)
          refine J_callVd C0 (mX5_fails l K a F g P L (u2 M 0 2 (nI 0)) (nI 2)) [] [modR K a (flat F) g P L (u2 (u2 M 0 2 (nI 0)) 0 2 (nI 2))] gX5_set_X5_fails dX5_set_50 1 0 (kk := ?_)
          show J G _ _ _ _ _ [.int (nI 0)]
          exact J_iret C0 hF dX5_set_53 ⟨rfl, rfl⟩
      · exfalso; omega
    · exfalso; omega
  · exfalso; omega

set_option maxHeartbeats 4000000 in
set_option maxRecDepth 100000 in
theorem mX5_set_setting (l : Launch) (K : KT) (a : Nat → Nat) (F : FF) (g P L : Nat → Int32) (M : FF) {y : Int32} (hx : ¬ (¬ y < nI 0 ∧ ¬ nI 2 < y)) (z : Int32) : Ct l K yX5_set wsX5_set rmX5_set [.ref (a 0), .int y, .int z] [modR K a (flat F) g P L M] (some (.int (nI 0))) [modR K a (flat F) g P L (u2 (u2 M 0 2 (nI 0)) 0 2 (nI 1))] := by
  refine CtP_of (cc := cX5_set) (nL := 4) (rt := some .int) (own := RX5) (lv0 := [(0, .ref (a 0)), (1, .int y), (2, .int z)]) (by decide) rfl (Nat.le_of_ble_eq_true rfl) rfl rfl ?_
  intro G C0 hF _
  have f28 : Cond.fieldLink RX5 28 "CorkPermitsModel" "thrown" "I" ∈ wsX5_set := by decide +kernel
  have iX5 : ∀ w ∈ u_ws RX5 TX5 13, w ∈ wsX5_set := by decide +kernel
  refine J_aln C0 0 dX5_set_0 (kk := ?_)
  refine J_ic C0 0 dX5_set_1 (kk := ?_)
  refine J_put C0 iX5 tyX5_ok nmX5 0 0 8 [modR K a (flat F) g P L (u2 M 0 2 (nI 0))] f28 dX5_set_2 (hd := rfl) (kk := ?_)
  refine J_iln C0 1 dX5_set_5 (kk := ?_)
  refine J_ic C0 0 dX5_set_6 (kk := ?_)
  refine J_ic C0 2 dX5_set_7 (kk := ?_)
  refine J_callSd C0 (mX5_in_n l K (x := y) (lo := nI 0) (hi := nI 2) hx) [modR K a (flat F) g P L (u2 M 0 2 (nI 0))] [modR K a (flat F) g P L (u2 M 0 2 (nI 0))] gX5_set_X5_in dX5_set_8 3 (kk := ?_)
  show J G _ _ _ _ _ [.int (nI 0)]
  refine J_ifneN C0 20 (by omega) dX5_set_11 (kt := fun c1 => ?_) (kf := fun c1 => ?_)
  · exfalso; omega
  · refine J_aln C0 0 dX5_set_14 (kk := ?_)
    refine J_ic C0 1 dX5_set_15 (kk := ?_)
    refine J_callVd C0 (mX5_fails l K a F g P L (u2 M 0 2 (nI 0)) (nI 1)) [] [modR K a (flat F) g P L (u2 (u2 M 0 2 (nI 0)) 0 2 (nI 1))] gX5_set_X5_fails dX5_set_16 1 0 (kk := ?_)
    show J G _ _ _ _ _ [.int (nI 0)]
    exact J_iret C0 hF dX5_set_19 ⟨rfl, rfl⟩

abbrev rmX5_append : Room := { frames := 1, cells := 0, slots := 0, locals := 22 }
set_option maxHeartbeats 4000000 in
set_option maxRecDepth 100000 in
theorem mX5_append (l : Launch) (K : KT) (a : Nat → Nat) (F : FF) (g P L : Nat → Int32) (M : FF) {x : Int32} (hx : ¬ x < nI 33) (hy : ¬ nI 126 < x) {m : Nat} (hm : M 0 1 = nI m) (h60 : m < 60) : Ct l K yX5_append wsX5_append rmX5_append [.ref (a 0), .int x] [modR K a (flat F) g P L M] (some (.int (nI (m + 1)))) [modR K a (flat F) g P L (u2 (u2 (u2 M 0 2 (nI 0)) 2 m x) 0 1 (nI (m + 1)))] := by
  refine CtP_of (cc := cX5_append) (nL := 2) (rt := some .int) (own := RX5) (lv0 := [(0, .ref (a 0)), (1, .int x)]) (by decide) rfl (Nat.le_of_ble_eq_true rfl) rfl rfl ?_
  intro G C0 hF _
  have f28 : Cond.fieldLink RX5 28 "CorkPermitsModel" "thrown" "I" ∈ wsX5_append := by decide +kernel
  have iX5 : ∀ w ∈ u_ws RX5 TX5 13, w ∈ wsX5_append := by decide +kernel
  have f134 : Cond.fieldLink RX5 134 "CorkPermitsModel" "length" "I" ∈ wsX5_append := by decide +kernel
  have f25 : Cond.fieldLink RX5 25 "CorkPermitsModel" "text" "[I" ∈ wsX5_append := by decide +kernel
  refine J_aln C0 0 dX5_append_0 (kk := ?_)
  refine J_ic C0 0 dX5_append_1 (kk := ?_)
  refine J_put C0 iX5 tyX5_ok nmX5 0 0 8 [modR K a (flat F) g P L (u2 M 0 2 (nI 0))] f28 dX5_append_2 (hd := rfl) (kk := ?_)
  refine J_iln C0 1 dX5_append_5 (kk := ?_)
  refine J_bi C0 33 dX5_append_6 (kk := ?_)
  refine J_bi C0 126 dX5_append_8 (kk := ?_)
  refine J_callSd C0 (mX5_in_y l K (x := x) (lo := nI 33) (hi := nI 126) hx hy) [modR K a (flat F) g P L (u2 M 0 2 (nI 0))] [modR K a (flat F) g P L (u2 M 0 2 (nI 0))] gX5_append_X5_in dX5_append_10 3 (kk := ?_)
  show J G _ _ _ _ _ [.int (nI 1)]
  refine J_ifneN C0 22 (by omega) dX5_append_13 (kt := fun c1 => ?_) (kf := fun c1 => ?_)
  · refine J_aln C0 0 dX5_append_22 (kk := ?_)
    refine J_get C0 iX5 0 0 7 f134 dX5_append_23 (v := .int (nI m)) (hv := congrArg (fun z => some (Value.int z)) hm) (kk := ?_)
    refine J_bi C0 60 dX5_append_26 (kk := ?_)
    refine J_icmpneN C0 37 (by omega) (by omega) dX5_append_28 (kt := fun c2 => ?_) (kf := fun c2 => ?_)
    · refine J_aln C0 0 dX5_append_37 (kk := ?_)
      refine J_get C0 iX5 0 0 6 f25 dX5_append_38 (kk := ?_)
      refine J_aln C0 0 dX5_append_41 (kk := ?_)
      refine J_get C0 iX5 0 0 7 f134 dX5_append_42 (v := .int (nI m)) (hv := congrArg (fun z => some (Value.int z)) hm) (kk := ?_)
      refine J_iln C0 1 dX5_append_45 (kk := ?_)
      refine J_iast C0 0 6 60 [modR K a (flat F) g P L (u2 (u2 M 0 2 (nI 0)) 2 m x)] dX5_append_46 (by omega) (kk := ?_)
      refine J_aln C0 0 dX5_append_47 (kk := ?_)
      refine J_dup C0 dX5_append_48 (kk := ?_)
      refine J_get C0 iX5 0 0 7 f134 dX5_append_49 (v := .int (nI m)) (hv := congrArg (fun z => some (Value.int z)) hm) (kk := ?_)
      refine J_ic C0 1 dX5_append_52 (kk := ?_)
      refine J_iaddN C0 dX5_append_53 ?_
      refine J_put C0 iX5 tyX5_ok nmX5 0 0 7 [modR K a (flat F) g P L (u2 (u2 (u2 M 0 2 (nI 0)) 2 m x) 0 1 (nI (m + 1)))] f134 dX5_append_54 (hd := rfl) (kk := ?_)
      refine J_aln C0 0 dX5_append_57 (kk := ?_)
      refine J_get C0 iX5 0 0 7 f134 dX5_append_58 (v := .int (nI (m + 1))) (hv := rfl) (kk := ?_)
      exact J_iret C0 hF dX5_append_61 ⟨rfl, rfl⟩
    · exfalso; omega
  · exfalso; omega

set_option maxHeartbeats 4000000 in
set_option maxRecDepth 100000 in
theorem mX5_append_code (l : Launch) (K : KT) (a : Nat → Nat) (F : FF) (g P L : Nat → Int32) (M : FF) {x : Int32} (hx : ¬ (¬ x < nI 33 ∧ ¬ nI 126 < x)) : Ct l K yX5_append wsX5_append rmX5_append [.ref (a 0), .int x] [modR K a (flat F) g P L M] (some (.int (nI 0))) [modR K a (flat F) g P L (u2 (u2 M 0 2 (nI 0)) 0 2 (nI 1))] := by
  refine CtP_of (cc := cX5_append) (nL := 2) (rt := some .int) (own := RX5) (lv0 := [(0, .ref (a 0)), (1, .int x)]) (by decide) rfl (Nat.le_of_ble_eq_true rfl) rfl rfl ?_
  intro G C0 hF _
  have f28 : Cond.fieldLink RX5 28 "CorkPermitsModel" "thrown" "I" ∈ wsX5_append := by decide +kernel
  have iX5 : ∀ w ∈ u_ws RX5 TX5 13, w ∈ wsX5_append := by decide +kernel
  refine J_aln C0 0 dX5_append_0 (kk := ?_)
  refine J_ic C0 0 dX5_append_1 (kk := ?_)
  refine J_put C0 iX5 tyX5_ok nmX5 0 0 8 [modR K a (flat F) g P L (u2 M 0 2 (nI 0))] f28 dX5_append_2 (hd := rfl) (kk := ?_)
  refine J_iln C0 1 dX5_append_5 (kk := ?_)
  refine J_bi C0 33 dX5_append_6 (kk := ?_)
  refine J_bi C0 126 dX5_append_8 (kk := ?_)
  refine J_callSd C0 (mX5_in_n l K (x := x) (lo := nI 33) (hi := nI 126) hx) [modR K a (flat F) g P L (u2 M 0 2 (nI 0))] [modR K a (flat F) g P L (u2 M 0 2 (nI 0))] gX5_append_X5_in dX5_append_10 3 (kk := ?_)
  show J G _ _ _ _ _ [.int (nI 0)]
  refine J_ifneN C0 22 (by omega) dX5_append_13 (kt := fun c1 => ?_) (kf := fun c1 => ?_)
  · exfalso; omega
  · refine J_aln C0 0 dX5_append_16 (kk := ?_)
    refine J_ic C0 1 dX5_append_17 (kk := ?_)
    refine J_callVd C0 (mX5_fails l K a F g P L (u2 M 0 2 (nI 0)) (nI 1)) [] [modR K a (flat F) g P L (u2 (u2 M 0 2 (nI 0)) 0 2 (nI 1))] gX5_append_X5_fails dX5_append_18 1 0 (kk := ?_)
    show J G _ _ _ _ _ [.int (nI 0)]
    exact J_iret C0 hF dX5_append_21 ⟨rfl, rfl⟩

set_option maxHeartbeats 4000000 in
set_option maxRecDepth 100000 in
theorem mX5_append_state (l : Launch) (K : KT) (a : Nat → Nat) (F : FF) (g P L : Nat → Int32) (M : FF) {x : Int32} (hx : ¬ x < nI 33) (hy : ¬ nI 126 < x) (hc : M 0 1 = nI 60) : Ct l K yX5_append wsX5_append rmX5_append [.ref (a 0), .int x] [modR K a (flat F) g P L M] (some (.int (nI 0))) [modR K a (flat F) g P L (u2 (u2 M 0 2 (nI 0)) 0 2 (nI 2))] := by
  refine CtP_of (cc := cX5_append) (nL := 2) (rt := some .int) (own := RX5) (lv0 := [(0, .ref (a 0)), (1, .int x)]) (by decide) rfl (Nat.le_of_ble_eq_true rfl) rfl rfl ?_
  intro G C0 hF _
  have f28 : Cond.fieldLink RX5 28 "CorkPermitsModel" "thrown" "I" ∈ wsX5_append := by decide +kernel
  have iX5 : ∀ w ∈ u_ws RX5 TX5 13, w ∈ wsX5_append := by decide +kernel
  have f134 : Cond.fieldLink RX5 134 "CorkPermitsModel" "length" "I" ∈ wsX5_append := by decide +kernel
  refine J_aln C0 0 dX5_append_0 (kk := ?_)
  refine J_ic C0 0 dX5_append_1 (kk := ?_)
  refine J_put C0 iX5 tyX5_ok nmX5 0 0 8 [modR K a (flat F) g P L (u2 M 0 2 (nI 0))] f28 dX5_append_2 (hd := rfl) (kk := ?_)
  refine J_iln C0 1 dX5_append_5 (kk := ?_)
  refine J_bi C0 33 dX5_append_6 (kk := ?_)
  refine J_bi C0 126 dX5_append_8 (kk := ?_)
  refine J_callSd C0 (mX5_in_y l K (x := x) (lo := nI 33) (hi := nI 126) hx hy) [modR K a (flat F) g P L (u2 M 0 2 (nI 0))] [modR K a (flat F) g P L (u2 M 0 2 (nI 0))] gX5_append_X5_in dX5_append_10 3 (kk := ?_)
  show J G _ _ _ _ _ [.int (nI 1)]
  refine J_ifneN C0 22 (by omega) dX5_append_13 (kt := fun c1 => ?_) (kf := fun c1 => ?_)
  · refine J_aln C0 0 dX5_append_22 (kk := ?_)
    refine J_get C0 iX5 0 0 7 f134 dX5_append_23 (v := .int (M 0 1)) (hv := rfl) (kk := ?_)
    refine J_bi C0 60 dX5_append_26 (kk := ?_)
    refine J_icmpne C0 37 dX5_append_28 (kt := fun c2 => ?_) (kf := fun c2 => ?_)
    · exact absurd hc c2
    · refine J_aln C0 0 dX5_append_31 (kk := ?_)
      refine J_ic C0 2 dX5_append_32 (kk := ?_)
      refine J_callVd C0 (mX5_fails l K a F g P L (u2 M 0 2 (nI 0)) (nI 2)) [] [modR K a (flat F) g P L (u2 (u2 M 0 2 (nI 0)) 0 2 (nI 2))] gX5_append_X5_fails dX5_append_33 1 0 (kk := ?_)
      show J G _ _ _ _ _ [.int (nI 0)]
      exact J_iret C0 hF dX5_append_36 ⟨rfl, rfl⟩
  · exfalso; omega

abbrev rmX5_clearBuffer : Room := { frames := 0, cells := 0, slots := 0, locals := 0 }
set_option maxHeartbeats 4000000 in
set_option maxRecDepth 100000 in
theorem mX5_clearBuffer (l : Launch) (K : KT) (a : Nat → Nat) (F : FF) (g P L : Nat → Int32) (M : FF) : Ct l K yX5_clearBuffer wsX5_clearBuffer rmX5_clearBuffer [.ref (a 0)] [modR K a (flat F) g P L M] (some (.int (M 0 1))) [modR K a (flat F) g P L (u2 (u2 M 0 2 (nI 0)) 0 1 (nI 0))] := by
  refine CtP_of (cc := cX5_clearBuffer) (nL := 2) (rt := some .int) (own := RX5) (lv0 := [(0, .ref (a 0))]) (by decide) rfl (Nat.le_of_ble_eq_true rfl) rfl rfl ?_
  intro G C0 hF _
  have f28 : Cond.fieldLink RX5 28 "CorkPermitsModel" "thrown" "I" ∈ wsX5_clearBuffer := by decide +kernel
  have iX5 : ∀ w ∈ u_ws RX5 TX5 13, w ∈ wsX5_clearBuffer := by decide +kernel
  have f134 : Cond.fieldLink RX5 134 "CorkPermitsModel" "length" "I" ∈ wsX5_clearBuffer := by decide +kernel
  refine J_aln C0 0 dX5_clearBuffer_0 (kk := ?_)
  refine J_ic C0 0 dX5_clearBuffer_1 (kk := ?_)
  refine J_put C0 iX5 tyX5_ok nmX5 0 0 8 [modR K a (flat F) g P L (u2 M 0 2 (nI 0))] f28 dX5_clearBuffer_2 (hd := rfl) (kk := ?_)
  refine J_aln C0 0 dX5_clearBuffer_5 (kk := ?_)
  refine J_get C0 iX5 0 0 7 f134 dX5_clearBuffer_6 (v := .int (M 0 1)) (hv := rfl) (kk := ?_)
  refine J_isn C0 [(1, .int (M 0 1)), (0, .ref (a 0))] dX5_clearBuffer_9 (kk := ?_)
  refine J_aln C0 1 dX5_clearBuffer_10 (kk := ?_)
  refine J_ic C0 0 dX5_clearBuffer_11 (kk := ?_)
  refine J_put C0 iX5 tyX5_ok nmX5 0 0 7 [modR K a (flat F) g P L (u2 (u2 M 0 2 (nI 0)) 0 1 (nI 0))] f134 dX5_clearBuffer_12 (hd := rfl) (kk := ?_)
  refine J_iln C0 0 dX5_clearBuffer_15 (kk := ?_)
  exact J_iret C0 hF dX5_clearBuffer_16 ⟨rfl, rfl⟩

abbrev rmX5_keep : Room := { frames := 1, cells := 0, slots := 0, locals := 24 }
set_option maxHeartbeats 4000000 in
set_option maxRecDepth 100000 in
theorem mX5_keep_0 (l : Launch) (K : KT) (a : Nat → Nat) (F : FF) (g P L : Nat → Int32) (M : FF) : Ct l K yX5_keep wsX5_keep rmX5_keep [.ref (a 0), .int (nI 0)] [modR K a (flat F) g P L M] (some (.int (F 0 0))) [modR K a (flat F) g P (cpR (flat F) L 0 (283 * 0)) (u2 (u2 M 0 2 (nI 0)) 1 0 (nI 1))] := by
  refine CtP_of (cc := cX5_keep) (nL := 2) (rt := some .int) (own := RX5) (lv0 := [(0, .ref (a 0)), (1, .int (nI 0))]) (by decide) rfl (Nat.le_of_ble_eq_true rfl) rfl rfl ?_
  intro G C0 hF _
  have f28 : Cond.fieldLink RX5 28 "CorkPermitsModel" "thrown" "I" ∈ wsX5_keep := by decide +kernel
  have iX5 : ∀ w ∈ u_ws RX5 TX5 13, w ∈ wsX5_keep := by decide +kernel
  have f7 : Cond.fieldLink RX5 7 "CorkPermitsModel" "s" "[I" ∈ wsX5_keep := by decide +kernel
  have f19 : Cond.fieldLink RX5 19 "CorkPermitsModel" "slots" "[I" ∈ wsX5_keep := by decide +kernel
  have f22 : Cond.fieldLink RX5 22 "CorkPermitsModel" "has" "[I" ∈ wsX5_keep := by decide +kernel
  refine J_aln C0 0 dX5_keep_0 (kk := ?_)
  refine J_ic C0 0 dX5_keep_1 (kk := ?_)
  refine J_put C0 iX5 tyX5_ok nmX5 0 0 8 [modR K a (flat F) g P L (u2 M 0 2 (nI 0))] f28 dX5_keep_2 (hd := rfl) (kk := ?_)
  refine J_iln C0 1 dX5_keep_5 (kk := ?_)
  refine J_ic C0 0 dX5_keep_6 (kk := ?_)
  refine J_ic C0 1 dX5_keep_7 (kk := ?_)
  refine J_callSd C0 (mX5_in_y l K (x := nI 0) (lo := nI 0) (hi := nI 1) (inN_y (v := 0) (lo := 0) (hi := 1) (by omega) (by omega) (by omega)).1 (inN_y (v := 0) (lo := 0) (hi := 1) (by omega) (by omega) (by omega)).2) [modR K a (flat F) g P L (u2 M 0 2 (nI 0))] [modR K a (flat F) g P L (u2 M 0 2 (nI 0))] gX5_keep_X5_in dX5_keep_8 3 (kk := ?_)
  show J G _ _ _ _ _ [.int (nI 1)]
  refine J_ifneN C0 20 (by omega) dX5_keep_11 (kt := fun c1 => ?_) (kf := fun c1 => ?_)
  · refine J_aln C0 0 dX5_keep_20 (kk := ?_)
    refine J_get C0 iX5 0 0 0 f7 dX5_keep_21 (kk := ?_)
    refine J_ic C0 0 dX5_keep_24 (kk := ?_)
    refine J_aln C0 0 dX5_keep_25 (kk := ?_)
    refine J_get C0 iX5 0 0 4 f19 dX5_keep_26 (kk := ?_)
    refine J_si C0 283 dX5_keep_29 (kk := ?_)
    refine J_iln C0 1 dX5_keep_32 (kk := ?_)
    refine J_imulN C0 dX5_keep_33 ?_
    refine J_callSd C0 (cp_SL l K a F g P L (u2 M 0 2 (nI 0)) (k := 0) (by omega)) [] [modR K a (flat F) g P (cpR (flat F) L 0 (283 * 0)) (u2 M 0 2 (nI 0))] gX5_keep_X5_copies dX5_keep_34 4 (kk := ?_)
    show J G _ _ _ _ _ []
    refine J_aln C0 0 dX5_keep_37 (kk := ?_)
    refine J_get C0 iX5 0 0 5 f22 dX5_keep_38 (kk := ?_)
    refine J_iln C0 1 dX5_keep_41 (kk := ?_)
    refine J_ic C0 1 dX5_keep_42 (kk := ?_)
    refine J_iast C0 0 5 2 [modR K a (flat F) g P (cpR (flat F) L 0 (283 * 0)) (u2 (u2 M 0 2 (nI 0)) 1 0 (nI 1))] dX5_keep_43 (by omega) (kk := ?_)
    refine J_aln C0 0 dX5_keep_44 (kk := ?_)
    refine J_get C0 iX5 0 0 0 f7 dX5_keep_45 (kk := ?_)
    refine J_ic C0 0 dX5_keep_48 (kk := ?_)
    refine J_iald C0 0 1 283 dX5_keep_49 (by omega) (v := (F 0 0)) (hv := (flat_0 F (j := 0) (by decide)).trans rfl) (kk := ?_)
    exact J_iret C0 hF dX5_keep_50 ⟨rfl, rfl⟩
  · exfalso; omega

set_option maxHeartbeats 4000000 in
set_option maxRecDepth 100000 in
theorem mX5_keep_1 (l : Launch) (K : KT) (a : Nat → Nat) (F : FF) (g P L : Nat → Int32) (M : FF) : Ct l K yX5_keep wsX5_keep rmX5_keep [.ref (a 0), .int (nI 1)] [modR K a (flat F) g P L M] (some (.int (F 0 0))) [modR K a (flat F) g P (cpR (flat F) L 0 (283 * 1)) (u2 (u2 M 0 2 (nI 0)) 1 1 (nI 1))] := by
  refine CtP_of (cc := cX5_keep) (nL := 2) (rt := some .int) (own := RX5) (lv0 := [(0, .ref (a 0)), (1, .int (nI 1))]) (by decide) rfl (Nat.le_of_ble_eq_true rfl) rfl rfl ?_
  intro G C0 hF _
  have f28 : Cond.fieldLink RX5 28 "CorkPermitsModel" "thrown" "I" ∈ wsX5_keep := by decide +kernel
  have iX5 : ∀ w ∈ u_ws RX5 TX5 13, w ∈ wsX5_keep := by decide +kernel
  have f7 : Cond.fieldLink RX5 7 "CorkPermitsModel" "s" "[I" ∈ wsX5_keep := by decide +kernel
  have f19 : Cond.fieldLink RX5 19 "CorkPermitsModel" "slots" "[I" ∈ wsX5_keep := by decide +kernel
  have f22 : Cond.fieldLink RX5 22 "CorkPermitsModel" "has" "[I" ∈ wsX5_keep := by decide +kernel
  refine J_aln C0 0 dX5_keep_0 (kk := ?_)
  refine J_ic C0 0 dX5_keep_1 (kk := ?_)
  refine J_put C0 iX5 tyX5_ok nmX5 0 0 8 [modR K a (flat F) g P L (u2 M 0 2 (nI 0))] f28 dX5_keep_2 (hd := rfl) (kk := ?_)
  refine J_iln C0 1 dX5_keep_5 (kk := ?_)
  refine J_ic C0 0 dX5_keep_6 (kk := ?_)
  refine J_ic C0 1 dX5_keep_7 (kk := ?_)
  refine J_callSd C0 (mX5_in_y l K (x := nI 1) (lo := nI 0) (hi := nI 1) (inN_y (v := 1) (lo := 0) (hi := 1) (by omega) (by omega) (by omega)).1 (inN_y (v := 1) (lo := 0) (hi := 1) (by omega) (by omega) (by omega)).2) [modR K a (flat F) g P L (u2 M 0 2 (nI 0))] [modR K a (flat F) g P L (u2 M 0 2 (nI 0))] gX5_keep_X5_in dX5_keep_8 3 (kk := ?_)
  show J G _ _ _ _ _ [.int (nI 1)]
  refine J_ifneN C0 20 (by omega) dX5_keep_11 (kt := fun c1 => ?_) (kf := fun c1 => ?_)
  · refine J_aln C0 0 dX5_keep_20 (kk := ?_)
    refine J_get C0 iX5 0 0 0 f7 dX5_keep_21 (kk := ?_)
    refine J_ic C0 0 dX5_keep_24 (kk := ?_)
    refine J_aln C0 0 dX5_keep_25 (kk := ?_)
    refine J_get C0 iX5 0 0 4 f19 dX5_keep_26 (kk := ?_)
    refine J_si C0 283 dX5_keep_29 (kk := ?_)
    refine J_iln C0 1 dX5_keep_32 (kk := ?_)
    refine J_imulN C0 dX5_keep_33 ?_
    refine J_callSd C0 (cp_SL l K a F g P L (u2 M 0 2 (nI 0)) (k := 1) (by omega)) [] [modR K a (flat F) g P (cpR (flat F) L 0 (283 * 1)) (u2 M 0 2 (nI 0))] gX5_keep_X5_copies dX5_keep_34 4 (kk := ?_)
    show J G _ _ _ _ _ []
    refine J_aln C0 0 dX5_keep_37 (kk := ?_)
    refine J_get C0 iX5 0 0 5 f22 dX5_keep_38 (kk := ?_)
    refine J_iln C0 1 dX5_keep_41 (kk := ?_)
    refine J_ic C0 1 dX5_keep_42 (kk := ?_)
    refine J_iast C0 0 5 2 [modR K a (flat F) g P (cpR (flat F) L 0 (283 * 1)) (u2 (u2 M 0 2 (nI 0)) 1 1 (nI 1))] dX5_keep_43 (by omega) (kk := ?_)
    refine J_aln C0 0 dX5_keep_44 (kk := ?_)
    refine J_get C0 iX5 0 0 0 f7 dX5_keep_45 (kk := ?_)
    refine J_ic C0 0 dX5_keep_48 (kk := ?_)
    refine J_iald C0 0 1 283 dX5_keep_49 (by omega) (v := (F 0 0)) (hv := (flat_0 F (j := 0) (by decide)).trans rfl) (kk := ?_)
    exact J_iret C0 hF dX5_keep_50 ⟨rfl, rfl⟩
  · exfalso; omega

set_option maxHeartbeats 4000000 in
set_option maxRecDepth 100000 in
theorem mX5_keep_slot (l : Launch) (K : KT) (a : Nat → Nat) (F : FF) (g P L : Nat → Int32) (M : FF) {x : Int32} (hx : ¬ (¬ x < nI 0 ∧ ¬ nI 1 < x)) : Ct l K yX5_keep wsX5_keep rmX5_keep [.ref (a 0), .int x] [modR K a (flat F) g P L M] (some (.int (nI 0))) [modR K a (flat F) g P L (u2 (u2 M 0 2 (nI 0)) 0 2 (nI 1))] := by
  refine CtP_of (cc := cX5_keep) (nL := 2) (rt := some .int) (own := RX5) (lv0 := [(0, .ref (a 0)), (1, .int x)]) (by decide) rfl (Nat.le_of_ble_eq_true rfl) rfl rfl ?_
  intro G C0 hF _
  have f28 : Cond.fieldLink RX5 28 "CorkPermitsModel" "thrown" "I" ∈ wsX5_keep := by decide +kernel
  have iX5 : ∀ w ∈ u_ws RX5 TX5 13, w ∈ wsX5_keep := by decide +kernel
  refine J_aln C0 0 dX5_keep_0 (kk := ?_)
  refine J_ic C0 0 dX5_keep_1 (kk := ?_)
  refine J_put C0 iX5 tyX5_ok nmX5 0 0 8 [modR K a (flat F) g P L (u2 M 0 2 (nI 0))] f28 dX5_keep_2 (hd := rfl) (kk := ?_)
  refine J_iln C0 1 dX5_keep_5 (kk := ?_)
  refine J_ic C0 0 dX5_keep_6 (kk := ?_)
  refine J_ic C0 1 dX5_keep_7 (kk := ?_)
  refine J_callSd C0 (mX5_in_n l K (x := x) (lo := nI 0) (hi := nI 1) hx) [modR K a (flat F) g P L (u2 M 0 2 (nI 0))] [modR K a (flat F) g P L (u2 M 0 2 (nI 0))] gX5_keep_X5_in dX5_keep_8 3 (kk := ?_)
  show J G _ _ _ _ _ [.int (nI 0)]
  refine J_ifneN C0 20 (by omega) dX5_keep_11 (kt := fun c1 => ?_) (kf := fun c1 => ?_)
  · exfalso; omega
  · refine J_aln C0 0 dX5_keep_14 (kk := ?_)
    refine J_ic C0 1 dX5_keep_15 (kk := ?_)
    refine J_callVd C0 (mX5_fails l K a F g P L (u2 M 0 2 (nI 0)) (nI 1)) [] [modR K a (flat F) g P L (u2 (u2 M 0 2 (nI 0)) 0 2 (nI 1))] gX5_keep_X5_fails dX5_keep_16 1 0 (kk := ?_)
    show J G _ _ _ _ _ [.int (nI 0)]
    exact J_iret C0 hF dX5_keep_19 ⟨rfl, rfl⟩

abbrev rmX5_goBack : Room := { frames := 2, cells := 0, slots := 0, locals := 45 }
set_option maxHeartbeats 4000000 in
set_option maxRecDepth 100000 in
theorem mX5_goBack_0 (l : Launch) (K : KT) (a : Nat → Nat) (F : FF) (g P L : Nat → Int32) (M : FF) {kk : Nat} (h6 : kk ≤ 6) (hkk : M 0 0 = nI kk) {D : FF} (hD : ∀ j, j < 283 → L (283 * 0 + j) = flat D j) (hc : ¬ M 1 0 = 0) : Ct l K yX5_goBack wsX5_goBack rmX5_goBack [.ref (a 0), .int (nI 0)] [modR K a (flat F) g P L M] (some (.int (D 0 0))) [modR K a (flat D) g (pSv kk P (flat F)) L (pushT kk (u2 M 0 2 (nI 0)))] := by
  refine CtP_of (cc := cX5_goBack) (nL := 2) (rt := some .int) (own := RX5) (lv0 := [(0, .ref (a 0)), (1, .int (nI 0))]) (by decide) rfl (Nat.le_of_ble_eq_true rfl) rfl rfl ?_
  intro G C0 hF _
  have f28 : Cond.fieldLink RX5 28 "CorkPermitsModel" "thrown" "I" ∈ wsX5_goBack := by decide +kernel
  have iX5 : ∀ w ∈ u_ws RX5 TX5 13, w ∈ wsX5_goBack := by decide +kernel
  have f22 : Cond.fieldLink RX5 22 "CorkPermitsModel" "has" "[I" ∈ wsX5_goBack := by decide +kernel
  have f19 : Cond.fieldLink RX5 19 "CorkPermitsModel" "slots" "[I" ∈ wsX5_goBack := by decide +kernel
  have f7 : Cond.fieldLink RX5 7 "CorkPermitsModel" "s" "[I" ∈ wsX5_goBack := by decide +kernel
  refine J_aln C0 0 dX5_goBack_0 (kk := ?_)
  refine J_ic C0 0 dX5_goBack_1 (kk := ?_)
  refine J_put C0 iX5 tyX5_ok nmX5 0 0 8 [modR K a (flat F) g P L (u2 M 0 2 (nI 0))] f28 dX5_goBack_2 (hd := rfl) (kk := ?_)
  refine J_iln C0 1 dX5_goBack_5 (kk := ?_)
  refine J_ic C0 0 dX5_goBack_6 (kk := ?_)
  refine J_ic C0 1 dX5_goBack_7 (kk := ?_)
  refine J_callSd C0 (mX5_in_y l K (x := nI 0) (lo := nI 0) (hi := nI 1) (inN_y (v := 0) (lo := 0) (hi := 1) (by omega) (by omega) (by omega)).1 (inN_y (v := 0) (lo := 0) (hi := 1) (by omega) (by omega) (by omega)).2) [modR K a (flat F) g P L (u2 M 0 2 (nI 0))] [modR K a (flat F) g P L (u2 M 0 2 (nI 0))] gX5_goBack_X5_in dX5_goBack_8 3 (kk := ?_)
  show J G _ _ _ _ _ [.int (nI 1)]
  refine J_ifneN C0 20 (by omega) dX5_goBack_11 (kt := fun c1 => ?_) (kf := fun c1 => ?_)
  · refine J_aln C0 0 dX5_goBack_20 (kk := ?_)
    refine J_get C0 iX5 0 0 5 f22 dX5_goBack_21 (kk := ?_)
    refine J_iln C0 1 dX5_goBack_24 (kk := ?_)
    refine J_iald C0 0 5 2 dX5_goBack_25 (by omega) (kk := ?_)
    refine J_ifne C0 35 dX5_goBack_26 (kt := fun c2 => ?_) (kf := fun c2 => ?_)
    · refine J_aln C0 0 dX5_goBack_35 (kk := ?_)
      refine J_callVd C0 (mX5_saves l K a F g P L (u2 M 0 2 (nI 0)) (k := kk) h6 hkk) [] [modR K a (flat F) g (pSv kk P (flat F)) L (pushT kk (u2 M 0 2 (nI 0)))] gX5_goBack_X5_saves dX5_goBack_36 0 0 (kk := ?_)
      show J G _ _ _ _ _ []
      refine J_aln C0 0 dX5_goBack_39 (kk := ?_)
      refine J_get C0 iX5 0 0 4 f19 dX5_goBack_40 (kk := ?_)
      refine J_si C0 283 dX5_goBack_43 (kk := ?_)
      refine J_iln C0 1 dX5_goBack_46 (kk := ?_)
      refine J_imulN C0 dX5_goBack_47 ?_
      refine J_aln C0 0 dX5_goBack_48 (kk := ?_)
      refine J_get C0 iX5 0 0 0 f7 dX5_goBack_49 (kk := ?_)
      refine J_ic C0 0 dX5_goBack_52 (kk := ?_)
      refine J_callSd C0 (cp_LS l K a F g (pSv kk P (flat F)) L (pushT kk (u2 M 0 2 (nI 0))) (k := 0) (by omega) (D := D) hD) [] [modR K a (flat D) g (pSv kk P (flat F)) L (pushT kk (u2 M 0 2 (nI 0)))] gX5_goBack_X5_copies dX5_goBack_53 4 (kk := ?_)
      show J G _ _ _ _ _ []
      refine J_aln C0 0 dX5_goBack_56 (kk := ?_)
      refine J_get C0 iX5 0 0 0 f7 dX5_goBack_57 (kk := ?_)
      refine J_ic C0 0 dX5_goBack_60 (kk := ?_)
      refine J_iald C0 0 1 283 dX5_goBack_61 (by omega) (v := (D 0 0)) (hv := (flat_0 D (j := 0) (by decide)).trans rfl) (kk := ?_)
      exact J_iret C0 hF dX5_goBack_62 ⟨rfl, rfl⟩
    · exact absurd c2 hc
  · exfalso; omega

set_option maxHeartbeats 4000000 in
set_option maxRecDepth 100000 in
theorem mX5_goBack_state_0 (l : Launch) (K : KT) (a : Nat → Nat) (F : FF) (g P L : Nat → Int32) (M : FF) (hc : M 1 0 = 0) : Ct l K yX5_goBack wsX5_goBack rmX5_goBack [.ref (a 0), .int (nI 0)] [modR K a (flat F) g P L M] (some (.int (nI 0))) [modR K a (flat F) g P L (u2 (u2 M 0 2 (nI 0)) 0 2 (nI 2))] := by
  refine CtP_of (cc := cX5_goBack) (nL := 2) (rt := some .int) (own := RX5) (lv0 := [(0, .ref (a 0)), (1, .int (nI 0))]) (by decide) rfl (Nat.le_of_ble_eq_true rfl) rfl rfl ?_
  intro G C0 hF _
  have f28 : Cond.fieldLink RX5 28 "CorkPermitsModel" "thrown" "I" ∈ wsX5_goBack := by decide +kernel
  have iX5 : ∀ w ∈ u_ws RX5 TX5 13, w ∈ wsX5_goBack := by decide +kernel
  have f22 : Cond.fieldLink RX5 22 "CorkPermitsModel" "has" "[I" ∈ wsX5_goBack := by decide +kernel
  refine J_aln C0 0 dX5_goBack_0 (kk := ?_)
  refine J_ic C0 0 dX5_goBack_1 (kk := ?_)
  refine J_put C0 iX5 tyX5_ok nmX5 0 0 8 [modR K a (flat F) g P L (u2 M 0 2 (nI 0))] f28 dX5_goBack_2 (hd := rfl) (kk := ?_)
  refine J_iln C0 1 dX5_goBack_5 (kk := ?_)
  refine J_ic C0 0 dX5_goBack_6 (kk := ?_)
  refine J_ic C0 1 dX5_goBack_7 (kk := ?_)
  refine J_callSd C0 (mX5_in_y l K (x := nI 0) (lo := nI 0) (hi := nI 1) (inN_y (v := 0) (lo := 0) (hi := 1) (by omega) (by omega) (by omega)).1 (inN_y (v := 0) (lo := 0) (hi := 1) (by omega) (by omega) (by omega)).2) [modR K a (flat F) g P L (u2 M 0 2 (nI 0))] [modR K a (flat F) g P L (u2 M 0 2 (nI 0))] gX5_goBack_X5_in dX5_goBack_8 3 (kk := ?_)
  show J G _ _ _ _ _ [.int (nI 1)]
  refine J_ifneN C0 20 (by omega) dX5_goBack_11 (kt := fun c1 => ?_) (kf := fun c1 => ?_)
  · refine J_aln C0 0 dX5_goBack_20 (kk := ?_)
    refine J_get C0 iX5 0 0 5 f22 dX5_goBack_21 (kk := ?_)
    refine J_iln C0 1 dX5_goBack_24 (kk := ?_)
    refine J_iald C0 0 5 2 dX5_goBack_25 (by omega) (kk := ?_)
    refine J_ifne C0 35 dX5_goBack_26 (kt := fun c2 => ?_) (kf := fun c2 => ?_)
    · exact absurd hc c2
    · refine J_aln C0 0 dX5_goBack_29 (kk := ?_)
      refine J_ic C0 2 dX5_goBack_30 (kk := ?_)
      refine J_callVd C0 (mX5_fails l K a F g P L (u2 M 0 2 (nI 0)) (nI 2)) [] [modR K a (flat F) g P L (u2 (u2 M 0 2 (nI 0)) 0 2 (nI 2))] gX5_goBack_X5_fails dX5_goBack_31 1 0 (kk := ?_)
      show J G _ _ _ _ _ [.int (nI 0)]
      exact J_iret C0 hF dX5_goBack_34 ⟨rfl, rfl⟩
  · exfalso; omega

set_option maxHeartbeats 4000000 in
set_option maxRecDepth 100000 in
theorem mX5_goBack_1 (l : Launch) (K : KT) (a : Nat → Nat) (F : FF) (g P L : Nat → Int32) (M : FF) {kk : Nat} (h6 : kk ≤ 6) (hkk : M 0 0 = nI kk) {D : FF} (hD : ∀ j, j < 283 → L (283 * 1 + j) = flat D j) (hc : ¬ M 1 1 = 0) : Ct l K yX5_goBack wsX5_goBack rmX5_goBack [.ref (a 0), .int (nI 1)] [modR K a (flat F) g P L M] (some (.int (D 0 0))) [modR K a (flat D) g (pSv kk P (flat F)) L (pushT kk (u2 M 0 2 (nI 0)))] := by
  refine CtP_of (cc := cX5_goBack) (nL := 2) (rt := some .int) (own := RX5) (lv0 := [(0, .ref (a 0)), (1, .int (nI 1))]) (by decide) rfl (Nat.le_of_ble_eq_true rfl) rfl rfl ?_
  intro G C0 hF _
  have f28 : Cond.fieldLink RX5 28 "CorkPermitsModel" "thrown" "I" ∈ wsX5_goBack := by decide +kernel
  have iX5 : ∀ w ∈ u_ws RX5 TX5 13, w ∈ wsX5_goBack := by decide +kernel
  have f22 : Cond.fieldLink RX5 22 "CorkPermitsModel" "has" "[I" ∈ wsX5_goBack := by decide +kernel
  have f19 : Cond.fieldLink RX5 19 "CorkPermitsModel" "slots" "[I" ∈ wsX5_goBack := by decide +kernel
  have f7 : Cond.fieldLink RX5 7 "CorkPermitsModel" "s" "[I" ∈ wsX5_goBack := by decide +kernel
  refine J_aln C0 0 dX5_goBack_0 (kk := ?_)
  refine J_ic C0 0 dX5_goBack_1 (kk := ?_)
  refine J_put C0 iX5 tyX5_ok nmX5 0 0 8 [modR K a (flat F) g P L (u2 M 0 2 (nI 0))] f28 dX5_goBack_2 (hd := rfl) (kk := ?_)
  refine J_iln C0 1 dX5_goBack_5 (kk := ?_)
  refine J_ic C0 0 dX5_goBack_6 (kk := ?_)
  refine J_ic C0 1 dX5_goBack_7 (kk := ?_)
  refine J_callSd C0 (mX5_in_y l K (x := nI 1) (lo := nI 0) (hi := nI 1) (inN_y (v := 1) (lo := 0) (hi := 1) (by omega) (by omega) (by omega)).1 (inN_y (v := 1) (lo := 0) (hi := 1) (by omega) (by omega) (by omega)).2) [modR K a (flat F) g P L (u2 M 0 2 (nI 0))] [modR K a (flat F) g P L (u2 M 0 2 (nI 0))] gX5_goBack_X5_in dX5_goBack_8 3 (kk := ?_)
  show J G _ _ _ _ _ [.int (nI 1)]
  refine J_ifneN C0 20 (by omega) dX5_goBack_11 (kt := fun c1 => ?_) (kf := fun c1 => ?_)
  · refine J_aln C0 0 dX5_goBack_20 (kk := ?_)
    refine J_get C0 iX5 0 0 5 f22 dX5_goBack_21 (kk := ?_)
    refine J_iln C0 1 dX5_goBack_24 (kk := ?_)
    refine J_iald C0 0 5 2 dX5_goBack_25 (by omega) (kk := ?_)
    refine J_ifne C0 35 dX5_goBack_26 (kt := fun c2 => ?_) (kf := fun c2 => ?_)
    · refine J_aln C0 0 dX5_goBack_35 (kk := ?_)
      refine J_callVd C0 (mX5_saves l K a F g P L (u2 M 0 2 (nI 0)) (k := kk) h6 hkk) [] [modR K a (flat F) g (pSv kk P (flat F)) L (pushT kk (u2 M 0 2 (nI 0)))] gX5_goBack_X5_saves dX5_goBack_36 0 0 (kk := ?_)
      show J G _ _ _ _ _ []
      refine J_aln C0 0 dX5_goBack_39 (kk := ?_)
      refine J_get C0 iX5 0 0 4 f19 dX5_goBack_40 (kk := ?_)
      refine J_si C0 283 dX5_goBack_43 (kk := ?_)
      refine J_iln C0 1 dX5_goBack_46 (kk := ?_)
      refine J_imulN C0 dX5_goBack_47 ?_
      refine J_aln C0 0 dX5_goBack_48 (kk := ?_)
      refine J_get C0 iX5 0 0 0 f7 dX5_goBack_49 (kk := ?_)
      refine J_ic C0 0 dX5_goBack_52 (kk := ?_)
      refine J_callSd C0 (cp_LS l K a F g (pSv kk P (flat F)) L (pushT kk (u2 M 0 2 (nI 0))) (k := 1) (by omega) (D := D) hD) [] [modR K a (flat D) g (pSv kk P (flat F)) L (pushT kk (u2 M 0 2 (nI 0)))] gX5_goBack_X5_copies dX5_goBack_53 4 (kk := ?_)
      show J G _ _ _ _ _ []
      refine J_aln C0 0 dX5_goBack_56 (kk := ?_)
      refine J_get C0 iX5 0 0 0 f7 dX5_goBack_57 (kk := ?_)
      refine J_ic C0 0 dX5_goBack_60 (kk := ?_)
      refine J_iald C0 0 1 283 dX5_goBack_61 (by omega) (v := (D 0 0)) (hv := (flat_0 D (j := 0) (by decide)).trans rfl) (kk := ?_)
      exact J_iret C0 hF dX5_goBack_62 ⟨rfl, rfl⟩
    · exact absurd c2 hc
  · exfalso; omega

set_option maxHeartbeats 4000000 in
set_option maxRecDepth 100000 in
theorem mX5_goBack_state_1 (l : Launch) (K : KT) (a : Nat → Nat) (F : FF) (g P L : Nat → Int32) (M : FF) (hc : M 1 1 = 0) : Ct l K yX5_goBack wsX5_goBack rmX5_goBack [.ref (a 0), .int (nI 1)] [modR K a (flat F) g P L M] (some (.int (nI 0))) [modR K a (flat F) g P L (u2 (u2 M 0 2 (nI 0)) 0 2 (nI 2))] := by
  refine CtP_of (cc := cX5_goBack) (nL := 2) (rt := some .int) (own := RX5) (lv0 := [(0, .ref (a 0)), (1, .int (nI 1))]) (by decide) rfl (Nat.le_of_ble_eq_true rfl) rfl rfl ?_
  intro G C0 hF _
  have f28 : Cond.fieldLink RX5 28 "CorkPermitsModel" "thrown" "I" ∈ wsX5_goBack := by decide +kernel
  have iX5 : ∀ w ∈ u_ws RX5 TX5 13, w ∈ wsX5_goBack := by decide +kernel
  have f22 : Cond.fieldLink RX5 22 "CorkPermitsModel" "has" "[I" ∈ wsX5_goBack := by decide +kernel
  refine J_aln C0 0 dX5_goBack_0 (kk := ?_)
  refine J_ic C0 0 dX5_goBack_1 (kk := ?_)
  refine J_put C0 iX5 tyX5_ok nmX5 0 0 8 [modR K a (flat F) g P L (u2 M 0 2 (nI 0))] f28 dX5_goBack_2 (hd := rfl) (kk := ?_)
  refine J_iln C0 1 dX5_goBack_5 (kk := ?_)
  refine J_ic C0 0 dX5_goBack_6 (kk := ?_)
  refine J_ic C0 1 dX5_goBack_7 (kk := ?_)
  refine J_callSd C0 (mX5_in_y l K (x := nI 1) (lo := nI 0) (hi := nI 1) (inN_y (v := 1) (lo := 0) (hi := 1) (by omega) (by omega) (by omega)).1 (inN_y (v := 1) (lo := 0) (hi := 1) (by omega) (by omega) (by omega)).2) [modR K a (flat F) g P L (u2 M 0 2 (nI 0))] [modR K a (flat F) g P L (u2 M 0 2 (nI 0))] gX5_goBack_X5_in dX5_goBack_8 3 (kk := ?_)
  show J G _ _ _ _ _ [.int (nI 1)]
  refine J_ifneN C0 20 (by omega) dX5_goBack_11 (kt := fun c1 => ?_) (kf := fun c1 => ?_)
  · refine J_aln C0 0 dX5_goBack_20 (kk := ?_)
    refine J_get C0 iX5 0 0 5 f22 dX5_goBack_21 (kk := ?_)
    refine J_iln C0 1 dX5_goBack_24 (kk := ?_)
    refine J_iald C0 0 5 2 dX5_goBack_25 (by omega) (kk := ?_)
    refine J_ifne C0 35 dX5_goBack_26 (kt := fun c2 => ?_) (kf := fun c2 => ?_)
    · exact absurd hc c2
    · refine J_aln C0 0 dX5_goBack_29 (kk := ?_)
      refine J_ic C0 2 dX5_goBack_30 (kk := ?_)
      refine J_callVd C0 (mX5_fails l K a F g P L (u2 M 0 2 (nI 0)) (nI 2)) [] [modR K a (flat F) g P L (u2 (u2 M 0 2 (nI 0)) 0 2 (nI 2))] gX5_goBack_X5_fails dX5_goBack_31 1 0 (kk := ?_)
      show J G _ _ _ _ _ [.int (nI 0)]
      exact J_iret C0 hF dX5_goBack_34 ⟨rfl, rfl⟩
  · exfalso; omega

set_option maxHeartbeats 4000000 in
set_option maxRecDepth 100000 in
theorem mX5_goBack_slot (l : Launch) (K : KT) (a : Nat → Nat) (F : FF) (g P L : Nat → Int32) (M : FF) {x : Int32} (hx : ¬ (¬ x < nI 0 ∧ ¬ nI 1 < x)) : Ct l K yX5_goBack wsX5_goBack rmX5_goBack [.ref (a 0), .int x] [modR K a (flat F) g P L M] (some (.int (nI 0))) [modR K a (flat F) g P L (u2 (u2 M 0 2 (nI 0)) 0 2 (nI 1))] := by
  refine CtP_of (cc := cX5_goBack) (nL := 2) (rt := some .int) (own := RX5) (lv0 := [(0, .ref (a 0)), (1, .int x)]) (by decide) rfl (Nat.le_of_ble_eq_true rfl) rfl rfl ?_
  intro G C0 hF _
  have f28 : Cond.fieldLink RX5 28 "CorkPermitsModel" "thrown" "I" ∈ wsX5_goBack := by decide +kernel
  have iX5 : ∀ w ∈ u_ws RX5 TX5 13, w ∈ wsX5_goBack := by decide +kernel
  refine J_aln C0 0 dX5_goBack_0 (kk := ?_)
  refine J_ic C0 0 dX5_goBack_1 (kk := ?_)
  refine J_put C0 iX5 tyX5_ok nmX5 0 0 8 [modR K a (flat F) g P L (u2 M 0 2 (nI 0))] f28 dX5_goBack_2 (hd := rfl) (kk := ?_)
  refine J_iln C0 1 dX5_goBack_5 (kk := ?_)
  refine J_ic C0 0 dX5_goBack_6 (kk := ?_)
  refine J_ic C0 1 dX5_goBack_7 (kk := ?_)
  refine J_callSd C0 (mX5_in_n l K (x := x) (lo := nI 0) (hi := nI 1) hx) [modR K a (flat F) g P L (u2 M 0 2 (nI 0))] [modR K a (flat F) g P L (u2 M 0 2 (nI 0))] gX5_goBack_X5_in dX5_goBack_8 3 (kk := ?_)
  show J G _ _ _ _ _ [.int (nI 0)]
  refine J_ifneN C0 20 (by omega) dX5_goBack_11 (kt := fun c1 => ?_) (kf := fun c1 => ?_)
  · exfalso; omega
  · refine J_aln C0 0 dX5_goBack_14 (kk := ?_)
    refine J_ic C0 1 dX5_goBack_15 (kk := ?_)
    refine J_callVd C0 (mX5_fails l K a F g P L (u2 M 0 2 (nI 0)) (nI 1)) [] [modR K a (flat F) g P L (u2 (u2 M 0 2 (nI 0)) 0 2 (nI 1))] gX5_goBack_X5_fails dX5_goBack_16 1 0 (kk := ?_)
    show J G _ _ _ _ _ [.int (nI 0)]
    exact J_iret C0 hF dX5_goBack_19 ⟨rfl, rfl⟩

abbrev rmX5_undo : Room := { frames := 1, cells := 0, slots := 0, locals := 24 }
set_option maxHeartbeats 4000000 in
set_option maxRecDepth 100000 in
theorem mX5_undo (l : Launch) (K : KT) (a : Nat → Nat) (F : FF) (g P L : Nat → Int32) (M : FF) {k : Nat} (h6 : k < 6) (hk : M 0 0 = nI (k + 1)) {D : FF} (hD : ∀ j, j < 283 → P (283 * k + j) = flat D j) : Ct l K yX5_undo wsX5_undo rmX5_undo [.ref (a 0)] [modR K a (flat F) g P L M] (some (.int (nI k))) [modR K a (flat D) g P L (u2 (u2 M 0 2 (nI 0)) 0 0 (nI k))] := by
  refine CtP_of (cc := cX5_undo) (nL := 1) (rt := some .int) (own := RX5) (lv0 := [(0, .ref (a 0))]) (by decide) rfl (Nat.le_of_ble_eq_true rfl) rfl rfl ?_
  intro G C0 hF _
  have f28 : Cond.fieldLink RX5 28 "CorkPermitsModel" "thrown" "I" ∈ wsX5_undo := by decide +kernel
  have iX5 : ∀ w ∈ u_ws RX5 TX5 13, w ∈ wsX5_undo := by decide +kernel
  have f32 : Cond.fieldLink RX5 32 "CorkPermitsModel" "saved" "I" ∈ wsX5_undo := by decide +kernel
  have f16 : Cond.fieldLink RX5 16 "CorkPermitsModel" "past" "[I" ∈ wsX5_undo := by decide +kernel
  have f7 : Cond.fieldLink RX5 7 "CorkPermitsModel" "s" "[I" ∈ wsX5_undo := by decide +kernel
  refine J_aln C0 0 dX5_undo_0 (kk := ?_)
  refine J_ic C0 0 dX5_undo_1 (kk := ?_)
  refine J_put C0 iX5 tyX5_ok nmX5 0 0 8 [modR K a (flat F) g P L (u2 M 0 2 (nI 0))] f28 dX5_undo_2 (hd := rfl) (kk := ?_)
  refine J_aln C0 0 dX5_undo_5 (kk := ?_)
  refine J_get C0 iX5 0 0 3 f32 dX5_undo_6 (v := .int (nI (k + 1))) (hv := congrArg (fun z => some (Value.int z)) hk) (kk := ?_)
  refine J_ifneN C0 18 (by omega) dX5_undo_9 (kt := fun c1 => ?_) (kf := fun c1 => ?_)
  · refine J_aln C0 0 dX5_undo_18 (kk := ?_)
    refine J_dup C0 dX5_undo_19 (kk := ?_)
    refine J_get C0 iX5 0 0 3 f32 dX5_undo_20 (v := .int (nI (k + 1))) (hv := congrArg (fun z => some (Value.int z)) hk) (kk := ?_)
    refine J_ic C0 1 dX5_undo_23 (kk := ?_)
    refine J_isubN C0 (by omega) dX5_undo_24 ?_
    refine J_put C0 iX5 tyX5_ok nmX5 0 0 3 [modR K a (flat F) g P L (u2 (u2 M 0 2 (nI 0)) 0 0 (nI (k + 1 - 1)))] f32 dX5_undo_25 (hd := rfl) (kk := ?_)
    refine J_aln C0 0 dX5_undo_28 (kk := ?_)
    refine J_get C0 iX5 0 0 2 f16 dX5_undo_29 (kk := ?_)
    refine J_si C0 283 dX5_undo_32 (kk := ?_)
    refine J_aln C0 0 dX5_undo_35 (kk := ?_)
    refine J_get C0 iX5 0 0 3 f32 dX5_undo_36 (v := .int (nI (k + 1 - 1))) (hv := rfl) (kk := ?_)
    refine J_imulN C0 dX5_undo_39 ?_
    refine J_aln C0 0 dX5_undo_40 (kk := ?_)
    refine J_get C0 iX5 0 0 0 f7 dX5_undo_41 (kk := ?_)
    refine J_ic C0 0 dX5_undo_44 (kk := ?_)
    refine J_callSd C0 (cp_PS l K a F g P L (u2 (u2 M 0 2 (nI 0)) 0 0 (nI (k + 1 - 1))) (k := k) (by omega) (D := D) hD) [] [modR K a (flat D) g P L (u2 (u2 M 0 2 (nI 0)) 0 0 (nI (k + 1 - 1)))] gX5_undo_X5_copies dX5_undo_45 4 (kk := ?_)
    show J G _ _ _ _ _ []
    refine J_aln C0 0 dX5_undo_48 (kk := ?_)
    refine J_get C0 iX5 0 0 3 f32 dX5_undo_49 (v := .int (nI (k + 1 - 1))) (hv := rfl) (kk := ?_)
    exact J_iret C0 hF dX5_undo_52 ⟨rfl, rfl⟩
  · exfalso; omega

set_option maxHeartbeats 4000000 in
set_option maxRecDepth 100000 in
theorem mX5_undo_no (l : Launch) (K : KT) (a : Nat → Nat) (F : FF) (g P L : Nat → Int32) (M : FF) (hc : M 0 0 = 0) : Ct l K yX5_undo wsX5_undo rmX5_undo [.ref (a 0)] [modR K a (flat F) g P L M] (some (.int (nI 0))) [modR K a (flat F) g P L (u2 (u2 M 0 2 (nI 0)) 0 2 (nI 1))] := by
  refine CtP_of (cc := cX5_undo) (nL := 1) (rt := some .int) (own := RX5) (lv0 := [(0, .ref (a 0))]) (by decide) rfl (Nat.le_of_ble_eq_true rfl) rfl rfl ?_
  intro G C0 hF _
  have f28 : Cond.fieldLink RX5 28 "CorkPermitsModel" "thrown" "I" ∈ wsX5_undo := by decide +kernel
  have iX5 : ∀ w ∈ u_ws RX5 TX5 13, w ∈ wsX5_undo := by decide +kernel
  have f32 : Cond.fieldLink RX5 32 "CorkPermitsModel" "saved" "I" ∈ wsX5_undo := by decide +kernel
  refine J_aln C0 0 dX5_undo_0 (kk := ?_)
  refine J_ic C0 0 dX5_undo_1 (kk := ?_)
  refine J_put C0 iX5 tyX5_ok nmX5 0 0 8 [modR K a (flat F) g P L (u2 M 0 2 (nI 0))] f28 dX5_undo_2 (hd := rfl) (kk := ?_)
  refine J_aln C0 0 dX5_undo_5 (kk := ?_)
  refine J_get C0 iX5 0 0 3 f32 dX5_undo_6 (v := .int (M 0 0)) (hv := rfl) (kk := ?_)
  refine J_ifne C0 18 dX5_undo_9 (kt := fun c1 => ?_) (kf := fun c1 => ?_)
  · exact absurd hc c1
  · refine J_aln C0 0 dX5_undo_12 (kk := ?_)
    refine J_ic C0 1 dX5_undo_13 (kk := ?_)
    refine J_callVd C0 (mX5_fails l K a F g P L (u2 M 0 2 (nI 0)) (nI 1)) [] [modR K a (flat F) g P L (u2 (u2 M 0 2 (nI 0)) 0 2 (nI 1))] gX5_undo_X5_fails dX5_undo_14 1 0 (kk := ?_)
    show J G _ _ _ _ _ [.int (nI 0)]
    exact J_iret C0 hF dX5_undo_17 ⟨rfl, rfl⟩

