abbrev rmX4_requireKind : Room := { frames := 0, cells := 0, slots := 0, locals := 0 }
abbrev rmtX4_requireKind : Room := { frames := 6, cells := 1, slots := 6, locals := 90 }
set_option maxHeartbeats 4000000 in
set_option maxRecDepth 100000 in
theorem mX4_requireKind (l : Launch) (K : KT) {k : Nat} (hk : k < 3) : Ct l K yX4_requireKind wsX4_requireKind rmX4_requireKind [.int (nI k)] [] none [] := by
  refine CtP_of (cc := cX4_requireKind) (nL := 1) (rt := none) (own := RX4) (lv0 := [(0, .int (nI k))]) (by decide) rfl (Nat.le_of_ble_eq_true rfl) rfl rfl ?_
  intro G C0 hF _
  refine J_iln C0 0 dX4_requireKind_0 (kk := ?_)
  refine J_ifltN C0 (by omega) dX4_requireKind_1 9 (kk := ?_)
  refine J_iln C0 0 dX4_requireKind_4 (kk := ?_)
  refine J_ic C0 3 dX4_requireKind_5 (kk := ?_)
  refine J_icmpltN C0 17 (by omega) (by omega) dX4_requireKind_6 (kt := fun c2 => ?_) (kf := fun c2 => ?_)
  · exact J_vret C0 hF dX4_requireKind_17 ⟨rfl, rfl⟩
  · exfalso; omega

set_option maxHeartbeats 4000000 in
set_option maxRecDepth 100000 in
theorem tX4_requireKind (l : Launch) (hst : l.stackTraces = false) (K : KT) {x : Int32} (hx : x < 0 ∨ nI 3 ≤ x) : CtT l K yX4_requireKind wsX4_requireKind rmtX4_requireKind [.int x] [] "java/lang/IndexOutOfBoundsException" := by
  refine CtT_of (cc := cX4_requireKind) (nL := 1) (rt := none) (own := RX4) (lv0 := [(0, .int x)]) hst (by decide) rfl (Nat.le_of_ble_eq_true rfl) rfl rfl ?_
  intro G C0 hF
  have ek238 : Cond.classLink RX4 238 "java/lang/IndexOutOfBoundsException" ∈ wsX4_requireKind := by decide +kernel
  have ei238 : Cond.initialized "java/lang/IndexOutOfBoundsException" ∈ wsX4_requireKind := by decide +kernel
  have eg238 : ∀ w ∈ (vx_at0 RX4 240 "java/lang/IndexOutOfBoundsException" ["java/lang/RuntimeException", "java/lang/Exception"]).filter goodWord, w ∈ wsX4_requireKind := fun w hw => by simp only [wsX4_requireKind, List.mem_cons, List.mem_append, hw, or_true, true_or]
  refine J_iln C0 0 dX4_requireKind_0 (kk := ?_)
  refine J_iflt C0 9 dX4_requireKind_1 (kt := fun c1 => ?_) (kf := fun c1 => ?_)
  · exact J_throw0 C0 hF ["java/lang/RuntimeException", "java/lang/Exception"] ek238 ei238 eg238 (by decide) atB_X4_238 atA_X4_238 dX4_requireKind_9 dX4_requireKind_12 dX4_requireKind_13 dX4_requireKind_16
  · refine J_iln C0 0 dX4_requireKind_4 (kk := ?_)
    refine J_ic C0 3 dX4_requireKind_5 (kk := ?_)
    refine J_icmplt C0 17 dX4_requireKind_6 (kt := fun c2 => ?_) (kf := fun c2 => ?_)
    · exact hx.elim (fun q => absurd q c1) (fun q => absurd c2 (Int32.not_lt.mpr q))
    · exact J_throw0 C0 hF ["java/lang/RuntimeException", "java/lang/Exception"] ek238 ei238 eg238 (by decide) atB_X4_238 atA_X4_238 dX4_requireKind_9 dX4_requireKind_12 dX4_requireKind_13 dX4_requireKind_16

abbrev rmX4_requireSetting : Room := { frames := 0, cells := 0, slots := 0, locals := 0 }
abbrev rmtX4_requireSetting : Room := { frames := 6, cells := 1, slots := 6, locals := 90 }
set_option maxHeartbeats 4000000 in
set_option maxRecDepth 100000 in
theorem mX4_requireSetting (l : Launch) (K : KT) {k : Nat} (hk : k < 3) : Ct l K yX4_requireSetting wsX4_requireSetting rmX4_requireSetting [.int (nI k)] [] none [] := by
  refine CtP_of (cc := cX4_requireSetting) (nL := 1) (rt := none) (own := RX4) (lv0 := [(0, .int (nI k))]) (by decide) rfl (Nat.le_of_ble_eq_true rfl) rfl rfl ?_
  intro G C0 hF _
  refine J_iln C0 0 dX4_requireSetting_0 (kk := ?_)
  refine J_ifltN C0 (by omega) dX4_requireSetting_1 9 (kk := ?_)
  refine J_iln C0 0 dX4_requireSetting_4 (kk := ?_)
  refine J_ic C0 3 dX4_requireSetting_5 (kk := ?_)
  refine J_icmpltN C0 17 (by omega) (by omega) dX4_requireSetting_6 (kt := fun c2 => ?_) (kf := fun c2 => ?_)
  · exact J_vret C0 hF dX4_requireSetting_17 ⟨rfl, rfl⟩
  · exfalso; omega

set_option maxHeartbeats 4000000 in
set_option maxRecDepth 100000 in
theorem tX4_requireSetting (l : Launch) (hst : l.stackTraces = false) (K : KT) {x : Int32} (hx : x < 0 ∨ nI 3 ≤ x) : CtT l K yX4_requireSetting wsX4_requireSetting rmtX4_requireSetting [.int x] [] "java/lang/IndexOutOfBoundsException" := by
  refine CtT_of (cc := cX4_requireSetting) (nL := 1) (rt := none) (own := RX4) (lv0 := [(0, .int x)]) hst (by decide) rfl (Nat.le_of_ble_eq_true rfl) rfl rfl ?_
  intro G C0 hF
  have ek238 : Cond.classLink RX4 238 "java/lang/IndexOutOfBoundsException" ∈ wsX4_requireSetting := by decide +kernel
  have ei238 : Cond.initialized "java/lang/IndexOutOfBoundsException" ∈ wsX4_requireSetting := by decide +kernel
  have eg238 : ∀ w ∈ (vx_at0 RX4 240 "java/lang/IndexOutOfBoundsException" ["java/lang/RuntimeException", "java/lang/Exception"]).filter goodWord, w ∈ wsX4_requireSetting := fun w hw => by simp only [wsX4_requireSetting, List.mem_cons, List.mem_append, hw, or_true, true_or]
  refine J_iln C0 0 dX4_requireSetting_0 (kk := ?_)
  refine J_iflt C0 9 dX4_requireSetting_1 (kt := fun c1 => ?_) (kf := fun c1 => ?_)
  · exact J_throw0 C0 hF ["java/lang/RuntimeException", "java/lang/Exception"] ek238 ei238 eg238 (by decide) atB_X4_238 atA_X4_238 dX4_requireSetting_9 dX4_requireSetting_12 dX4_requireSetting_13 dX4_requireSetting_16
  · refine J_iln C0 0 dX4_requireSetting_4 (kk := ?_)
    refine J_ic C0 3 dX4_requireSetting_5 (kk := ?_)
    refine J_icmplt C0 17 dX4_requireSetting_6 (kt := fun c2 => ?_) (kf := fun c2 => ?_)
    · exact hx.elim (fun q => absurd q c1) (fun q => absurd c2 (Int32.not_lt.mpr q))
    · exact J_throw0 C0 hF ["java/lang/RuntimeException", "java/lang/Exception"] ek238 ei238 eg238 (by decide) atB_X4_238 atA_X4_238 dX4_requireSetting_9 dX4_requireSetting_12 dX4_requireSetting_13 dX4_requireSetting_16

abbrev rmX4_requireSlot : Room := { frames := 0, cells := 0, slots := 0, locals := 0 }
abbrev rmtX4_requireSlot : Room := { frames := 6, cells := 1, slots := 6, locals := 90 }
set_option maxHeartbeats 4000000 in
set_option maxRecDepth 100000 in
theorem mX4_requireSlot (l : Launch) (K : KT) {k : Nat} (hk : k < 2) : Ct l K yX4_requireSlot wsX4_requireSlot rmX4_requireSlot [.int (nI k)] [] none [] := by
  refine CtP_of (cc := cX4_requireSlot) (nL := 1) (rt := none) (own := RX4) (lv0 := [(0, .int (nI k))]) (by decide) rfl (Nat.le_of_ble_eq_true rfl) rfl rfl ?_
  intro G C0 hF _
  refine J_iln C0 0 dX4_requireSlot_0 (kk := ?_)
  refine J_ifltN C0 (by omega) dX4_requireSlot_1 9 (kk := ?_)
  refine J_iln C0 0 dX4_requireSlot_4 (kk := ?_)
  refine J_ic C0 2 dX4_requireSlot_5 (kk := ?_)
  refine J_icmpltN C0 17 (by omega) (by omega) dX4_requireSlot_6 (kt := fun c2 => ?_) (kf := fun c2 => ?_)
  · exact J_vret C0 hF dX4_requireSlot_17 ⟨rfl, rfl⟩
  · exfalso; omega

set_option maxHeartbeats 4000000 in
set_option maxRecDepth 100000 in
theorem tX4_requireSlot (l : Launch) (hst : l.stackTraces = false) (K : KT) {x : Int32} (hx : x < 0 ∨ nI 2 ≤ x) : CtT l K yX4_requireSlot wsX4_requireSlot rmtX4_requireSlot [.int x] [] "java/lang/IllegalArgumentException" := by
  refine CtT_of (cc := cX4_requireSlot) (nL := 1) (rt := none) (own := RX4) (lv0 := [(0, .int x)]) hst (by decide) rfl (Nat.le_of_ble_eq_true rfl) rfl rfl ?_
  intro G C0 hF
  have ek56 : Cond.classLink RX4 56 "java/lang/IllegalArgumentException" ∈ wsX4_requireSlot := by decide +kernel
  have ei56 : Cond.initialized "java/lang/IllegalArgumentException" ∈ wsX4_requireSlot := by decide +kernel
  have eg56 : ∀ w ∈ (vx_at0 RX4 58 "java/lang/IllegalArgumentException" ["java/lang/RuntimeException", "java/lang/Exception"]).filter goodWord, w ∈ wsX4_requireSlot := fun w hw => by simp only [wsX4_requireSlot, List.mem_cons, List.mem_append, hw, or_true, true_or]
  refine J_iln C0 0 dX4_requireSlot_0 (kk := ?_)
  refine J_iflt C0 9 dX4_requireSlot_1 (kt := fun c1 => ?_) (kf := fun c1 => ?_)
  · exact J_throw0 C0 hF ["java/lang/RuntimeException", "java/lang/Exception"] ek56 ei56 eg56 (by decide) atB_X4_56 atA_X4_56 dX4_requireSlot_9 dX4_requireSlot_12 dX4_requireSlot_13 dX4_requireSlot_16
  · refine J_iln C0 0 dX4_requireSlot_4 (kk := ?_)
    refine J_ic C0 2 dX4_requireSlot_5 (kk := ?_)
    refine J_icmplt C0 17 dX4_requireSlot_6 (kt := fun c2 => ?_) (kf := fun c2 => ?_)
    · exact hx.elim (fun q => absurd q c1) (fun q => absurd c2 (Int32.not_lt.mpr q))
    · exact J_throw0 C0 hF ["java/lang/RuntimeException", "java/lang/Exception"] ek56 ei56 eg56 (by decide) atB_X4_56 atA_X4_56 dX4_requireSlot_9 dX4_requireSlot_12 dX4_requireSlot_13 dX4_requireSlot_16

abbrev rmX4_requireTicks : Room := { frames := 0, cells := 0, slots := 0, locals := 0 }
abbrev rmtX4_requireTicks : Room := { frames := 6, cells := 1, slots := 6, locals := 90 }
set_option maxHeartbeats 4000000 in
set_option maxRecDepth 100000 in
theorem mX4_requireTicks (l : Launch) (K : KT) {k : Nat} (hk : 1 ≤ k) (hk2 : k ≤ 60) : Ct l K yX4_requireTicks wsX4_requireTicks rmX4_requireTicks [.int (nI k)] [] none [] := by
  refine CtP_of (cc := cX4_requireTicks) (nL := 1) (rt := none) (own := RX4) (lv0 := [(0, .int (nI k))]) (by decide) rfl (Nat.le_of_ble_eq_true rfl) rfl rfl ?_
  intro G C0 hF _
  refine J_iln C0 0 dX4_requireTicks_0 (kk := ?_)
  refine J_ic C0 1 dX4_requireTicks_1 (kk := ?_)
  refine J_icmpltN C0 11 (by omega) (by omega) dX4_requireTicks_2 (kt := fun c1 => ?_) (kf := fun c1 => ?_)
  · exfalso; omega
  · refine J_iln C0 0 dX4_requireTicks_5 (kk := ?_)
    refine J_bi C0 60 dX4_requireTicks_6 (kk := ?_)
    refine J_icmpleN C0 19 (by omega) (by omega) dX4_requireTicks_8 (kt := fun c2 => ?_) (kf := fun c2 => ?_)
    · exact J_vret C0 hF dX4_requireTicks_19 ⟨rfl, rfl⟩
    · exfalso; omega

set_option maxHeartbeats 4000000 in
set_option maxRecDepth 100000 in
theorem tX4_requireTicks (l : Launch) (hst : l.stackTraces = false) (K : KT) {x : Int32} (hx : x < nI 1 ∨ nI 60 < x) : CtT l K yX4_requireTicks wsX4_requireTicks rmtX4_requireTicks [.int x] [] "java/lang/IllegalArgumentException" := by
  refine CtT_of (cc := cX4_requireTicks) (nL := 1) (rt := none) (own := RX4) (lv0 := [(0, .int x)]) hst (by decide) rfl (Nat.le_of_ble_eq_true rfl) rfl rfl ?_
  intro G C0 hF
  have ek56 : Cond.classLink RX4 56 "java/lang/IllegalArgumentException" ∈ wsX4_requireTicks := by decide +kernel
  have ei56 : Cond.initialized "java/lang/IllegalArgumentException" ∈ wsX4_requireTicks := by decide +kernel
  have eg56 : ∀ w ∈ (vx_at0 RX4 58 "java/lang/IllegalArgumentException" ["java/lang/RuntimeException", "java/lang/Exception"]).filter goodWord, w ∈ wsX4_requireTicks := fun w hw => by simp only [wsX4_requireTicks, List.mem_cons, List.mem_append, hw, or_true, true_or]
  refine J_iln C0 0 dX4_requireTicks_0 (kk := ?_)
  refine J_ic C0 1 dX4_requireTicks_1 (kk := ?_)
  refine J_icmplt C0 11 dX4_requireTicks_2 (kt := fun c1 => ?_) (kf := fun c1 => ?_)
  · exact J_throw0 C0 hF ["java/lang/RuntimeException", "java/lang/Exception"] ek56 ei56 eg56 (by decide) atB_X4_56 atA_X4_56 dX4_requireTicks_11 dX4_requireTicks_14 dX4_requireTicks_15 dX4_requireTicks_18
  · refine J_iln C0 0 dX4_requireTicks_5 (kk := ?_)
    refine J_bi C0 60 dX4_requireTicks_6 (kk := ?_)
    refine J_icmple C0 19 dX4_requireTicks_8 (kt := fun c2 => ?_) (kf := fun c2 => ?_)
    · exact hx.elim (fun q => absurd q c1) (fun q => absurd q (Int32.not_lt.mpr c2))
    · exact J_throw0 C0 hF ["java/lang/RuntimeException", "java/lang/Exception"] ek56 ei56 eg56 (by decide) atB_X4_56 atA_X4_56 dX4_requireTicks_11 dX4_requireTicks_14 dX4_requireTicks_15 dX4_requireTicks_18

abbrev rmX4_requireWhat : Room := { frames := 0, cells := 0, slots := 0, locals := 0 }
abbrev rmtX4_requireWhat : Room := { frames := 6, cells := 1, slots := 6, locals := 90 }
set_option maxHeartbeats 4000000 in
set_option maxRecDepth 100000 in
theorem mX4_requireWhat (l : Launch) (K : KT) {k c : Nat} (hk : k < c) (hc : c ≤ 20) : Ct l K yX4_requireWhat wsX4_requireWhat rmX4_requireWhat [.int (nI k), .int (nI c)] [] none [] := by
  refine CtP_of (cc := cX4_requireWhat) (nL := 2) (rt := none) (own := RX4) (lv0 := [(0, .int (nI k)), (1, .int (nI c))]) (by decide) rfl (Nat.le_of_ble_eq_true rfl) rfl rfl ?_
  intro G C0 hF _
  refine J_iln C0 0 dX4_requireWhat_0 (kk := ?_)
  refine J_ifltN C0 (by omega) dX4_requireWhat_1 9 (kk := ?_)
  refine J_iln C0 0 dX4_requireWhat_4 (kk := ?_)
  refine J_iln C0 1 dX4_requireWhat_5 (kk := ?_)
  refine J_icmpltN C0 17 (by omega) (by omega) dX4_requireWhat_6 (kt := fun c2 => ?_) (kf := fun c2 => ?_)
  · exact J_vret C0 hF dX4_requireWhat_17 ⟨rfl, rfl⟩
  · exfalso; omega

set_option maxHeartbeats 4000000 in
set_option maxRecDepth 100000 in
theorem tX4_requireWhat (l : Launch) (hst : l.stackTraces = false) (K : KT) {x y : Int32} (hx : x < 0 ∨ y ≤ x) : CtT l K yX4_requireWhat wsX4_requireWhat rmtX4_requireWhat [.int x, .int y] [] "java/lang/IllegalArgumentException" := by
  refine CtT_of (cc := cX4_requireWhat) (nL := 2) (rt := none) (own := RX4) (lv0 := [(0, .int x), (1, .int y)]) hst (by decide) rfl (Nat.le_of_ble_eq_true rfl) rfl rfl ?_
  intro G C0 hF
  have ek56 : Cond.classLink RX4 56 "java/lang/IllegalArgumentException" ∈ wsX4_requireWhat := by decide +kernel
  have ei56 : Cond.initialized "java/lang/IllegalArgumentException" ∈ wsX4_requireWhat := by decide +kernel
  have eg56 : ∀ w ∈ (vx_at0 RX4 58 "java/lang/IllegalArgumentException" ["java/lang/RuntimeException", "java/lang/Exception"]).filter goodWord, w ∈ wsX4_requireWhat := fun w hw => by simp only [wsX4_requireWhat, List.mem_cons, List.mem_append, hw, or_true, true_or]
  refine J_iln C0 0 dX4_requireWhat_0 (kk := ?_)
  refine J_iflt C0 9 dX4_requireWhat_1 (kt := fun c1 => ?_) (kf := fun c1 => ?_)
  · exact J_throw0 C0 hF ["java/lang/RuntimeException", "java/lang/Exception"] ek56 ei56 eg56 (by decide) atB_X4_56 atA_X4_56 dX4_requireWhat_9 dX4_requireWhat_12 dX4_requireWhat_13 dX4_requireWhat_16
  · refine J_iln C0 0 dX4_requireWhat_4 (kk := ?_)
    refine J_iln C0 1 dX4_requireWhat_5 (kk := ?_)
    refine J_icmplt C0 17 dX4_requireWhat_6 (kt := fun c2 => ?_) (kf := fun c2 => ?_)
    · exact hx.elim (fun q => absurd q c1) (fun q => absurd c2 (Int32.not_lt.mpr q))
    · exact J_throw0 C0 hF ["java/lang/RuntimeException", "java/lang/Exception"] ek56 ei56 eg56 (by decide) atB_X4_56 atA_X4_56 dX4_requireWhat_9 dX4_requireWhat_12 dX4_requireWhat_13 dX4_requireWhat_16

abbrev isPl (F : FF) (x y : Int32) : Prop := ¬ x < 0 ∧ ¬ F 0 1 ≤ x ∧ ¬ nI 4 ≤ x ∧ ¬ y < 0 ∧ ¬ nI 3 ≤ y
abbrev rmX4_isPlace : Room := { frames := 0, cells := 0, slots := 0, locals := 0 }
set_option maxHeartbeats 4000000 in
set_option maxRecDepth 100000 in
theorem mX4_isPlace (l : Launch) (K : KT) (b nA aA : Nat → Nat) (d e : Nat → Nat → Nat) (F Ga : FF) (D S : Nat → FF) (T : FF) (x y : Int32) : Ct l K yX4_isPlace wsX4_isPlace rmX4_isPlace [.ref (b 0), .int x, .int y] (corkW K b nA aA d e F Ga D S T) (some (.int (if isPl F x y then nI 1 else nI 0))) (corkW K b nA aA d e F Ga D S T) := by
  refine CtP_of (cc := cX4_isPlace) (nL := 3) (rt := some .boolean) (own := RX4) (lv0 := [(0, .ref (b 0)), (1, .int x), (2, .int y)]) (by decide) rfl (Nat.le_of_ble_eq_true rfl) rfl rfl ?_
  intro G C0 hF _
  have f12 : Cond.fieldLink RX4 12 "CorkPermits" "now" "LCorkPermits$Cellar;" ∈ wsX4_isPlace := by decide +kernel
  have iX4 : ∀ w ∈ u_ws RX4 TX4 6, w ∈ wsX4_isPlace := by decide +kernel
  have f41 : Cond.fieldLink RX4 41 "CorkPermits$Cellar" "houses" "I" ∈ wsX4_isPlace := by decide +kernel
  have iX0 : ∀ w ∈ u_ws RX0 TX0 14, w ∈ wsX4_isPlace := by decide +kernel
  refine J_iln C0 1 dX4_isPlace_0 (kk := ?_)
  refine J_iflt C0 33 dX4_isPlace_1 (kt := fun c1 => ?_) (kf := fun c1 => ?_)
  · refine J_ic C0 0 dX4_isPlace_33 (kk := ?_)
    exact J_zret C0 hF dX4_isPlace_34 (by decide) ⟨by simp only [isPl, c1, not_false_eq_true, not_true_eq_false, and_true, true_and, and_false, false_and, and_self, or_true, true_or, or_false, false_or, if_true, if_false, ite_true, ite_false, eq_self], rfl⟩
  · refine J_iln C0 1 dX4_isPlace_4 (kk := ?_)
    refine J_aln C0 0 dX4_isPlace_5 (kk := ?_)
    refine J_get C0 iX4 0 0 0 f12 dX4_isPlace_6 (kk := ?_)
    refine J_get C0 iX0 1 0 1 f41 dX4_isPlace_9 (kk := ?_)
    refine J_icmpge C0 33 dX4_isPlace_12 (kt := fun c2 => ?_) (kf := fun c2 => ?_)
    · refine J_ic C0 0 dX4_isPlace_33 (kk := ?_)
      exact J_zret C0 hF dX4_isPlace_34 (by decide) ⟨by simp only [isPl, c1, c2, not_false_eq_true, not_true_eq_false, and_true, true_and, and_false, false_and, and_self, or_true, true_or, or_false, false_or, if_true, if_false, ite_true, ite_false, eq_self], rfl⟩
    · refine J_iln C0 1 dX4_isPlace_15 (kk := ?_)
      refine J_ic C0 4 dX4_isPlace_16 (kk := ?_)
      refine J_icmpge C0 33 dX4_isPlace_17 (kt := fun c3 => ?_) (kf := fun c3 => ?_)
      · refine J_ic C0 0 dX4_isPlace_33 (kk := ?_)
        exact J_zret C0 hF dX4_isPlace_34 (by decide) ⟨by simp only [isPl, c1, c2, c3, not_false_eq_true, not_true_eq_false, and_true, true_and, and_false, false_and, and_self, or_true, true_or, or_false, false_or, if_true, if_false, ite_true, ite_false, eq_self], rfl⟩
      · refine J_iln C0 2 dX4_isPlace_20 (kk := ?_)
        refine J_iflt C0 33 dX4_isPlace_21 (kt := fun c4 => ?_) (kf := fun c4 => ?_)
        · refine J_ic C0 0 dX4_isPlace_33 (kk := ?_)
          exact J_zret C0 hF dX4_isPlace_34 (by decide) ⟨by simp only [isPl, c1, c2, c3, c4, not_false_eq_true, not_true_eq_false, and_true, true_and, and_false, false_and, and_self, or_true, true_or, or_false, false_or, if_true, if_false, ite_true, ite_false, eq_self], rfl⟩
        · refine J_iln C0 2 dX4_isPlace_24 (kk := ?_)
          refine J_ic C0 3 dX4_isPlace_25 (kk := ?_)
          refine J_icmpge C0 33 dX4_isPlace_26 (kt := fun c5 => ?_) (kf := fun c5 => ?_)
          · refine J_ic C0 0 dX4_isPlace_33 (kk := ?_)
            exact J_zret C0 hF dX4_isPlace_34 (by decide) ⟨by simp only [isPl, c1, c2, c3, c4, c5, not_false_eq_true, not_true_eq_false, and_true, true_and, and_false, false_and, and_self, or_true, true_or, or_false, false_or, if_true, if_false, ite_true, ite_false, eq_self], rfl⟩
          · refine J_ic C0 1 dX4_isPlace_29 (kk := ?_)
            refine J_goto C0 34 dX4_isPlace_30 (kk := ?_)
            exact J_zret C0 hF dX4_isPlace_34 (by decide) ⟨by simp only [isPl, c1, c2, c3, c4, c5, not_false_eq_true, not_true_eq_false, and_true, true_and, and_false, false_and, and_self, or_true, true_or, or_false, false_or, if_true, if_false, ite_true, ite_false, eq_self], rfl⟩

abbrev rmX4_requirePlace : Room := { frames := 1, cells := 0, slots := 0, locals := 22 }
set_option maxHeartbeats 4000000 in
set_option maxRecDepth 100000 in
theorem mX4_requirePlace (l : Launch) (K : KT) (b nA aA : Nat → Nat) (d e : Nat → Nat → Nat) (F Ga : FF) (D S : Nat → FF) (T : FF) {x y : Int32} (hp : isPl F x y) : Ct l K yX4_requirePlace wsX4_requirePlace rmX4_requirePlace [.ref (b 0), .int x, .int y] (corkW K b nA aA d e F Ga D S T) none (corkW K b nA aA d e F Ga D S T) := by
  refine CtP_of (cc := cX4_requirePlace) (nL := 3) (rt := none) (own := RX4) (lv0 := [(0, .ref (b 0)), (1, .int x), (2, .int y)]) (by decide) rfl (Nat.le_of_ble_eq_true rfl) rfl rfl ?_
  intro G C0 hF _
  refine J_aln C0 0 dX4_requirePlace_0 (kk := ?_)
  refine J_iln C0 1 dX4_requirePlace_1 (kk := ?_)
  refine J_iln C0 2 dX4_requirePlace_2 (kk := ?_)
  refine J_callVd C0 (mX4_isPlace l K b nA aA d e F Ga D S T x y) [] (corkW K b nA aA d e F Ga D S T) gX4_requirePlace_X4_isPlace dX4_requirePlace_3 2 0 (kk := ?_)
  show J G _ _ _ _ _ [.int (if isPl F x y then nI 1 else nI 0)]
  refine J_ifneB C0 17 dX4_requirePlace_6 (kt := fun c1 => ?_) (kf := fun c1 => ?_)
  · exact J_vret C0 hF dX4_requirePlace_17 ⟨rfl, rfl⟩
  · exact absurd hp c1

abbrev rmtX4_requirePlace : Room := { frames := 6, cells := 1, slots := 6, locals := 90 }
set_option maxHeartbeats 4000000 in
set_option maxRecDepth 100000 in
theorem tX4_requirePlace (l : Launch) (hst : l.stackTraces = false) (K : KT) (b nA aA : Nat → Nat) (d e : Nat → Nat → Nat) (F Ga : FF) (D S : Nat → FF) (T : FF) {x y : Int32} (hp : ¬ isPl F x y) : CtT l K yX4_requirePlace wsX4_requirePlace rmtX4_requirePlace [.ref (b 0), .int x, .int y] (corkW K b nA aA d e F Ga D S T) "java/lang/IndexOutOfBoundsException" := by
  refine CtT_of (cc := cX4_requirePlace) (nL := 3) (rt := none) (own := RX4) (lv0 := [(0, .ref (b 0)), (1, .int x), (2, .int y)]) hst (by decide) rfl (Nat.le_of_ble_eq_true rfl) rfl rfl ?_
  intro G C0 hF
  have ek238 : Cond.classLink RX4 238 "java/lang/IndexOutOfBoundsException" ∈ wsX4_requirePlace := by decide +kernel
  have ei238 : Cond.initialized "java/lang/IndexOutOfBoundsException" ∈ wsX4_requirePlace := by decide +kernel
  have eg238 : ∀ w ∈ (vx_at0 RX4 240 "java/lang/IndexOutOfBoundsException" ["java/lang/RuntimeException", "java/lang/Exception"]).filter goodWord, w ∈ wsX4_requirePlace := fun w hw => by simp only [wsX4_requirePlace, List.mem_cons, List.mem_append, hw, or_true, true_or]
  refine J_aln C0 0 dX4_requirePlace_0 (kk := ?_)
  refine J_iln C0 1 dX4_requirePlace_1 (kk := ?_)
  refine J_iln C0 2 dX4_requirePlace_2 (kk := ?_)
  refine J_callVd C0 (mX4_isPlace l K b nA aA d e F Ga D S T x y) [] (corkW K b nA aA d e F Ga D S T) gX4_requirePlace_X4_isPlace dX4_requirePlace_3 2 0 (kk := ?_)
  show J G _ _ _ _ _ [.int (if isPl F x y then nI 1 else nI 0)]
  refine J_ifneB C0 17 dX4_requirePlace_6 (kt := fun c1 => ?_) (kf := fun c1 => ?_)
  · exact absurd c1 hp
  · exact J_throw0 C0 hF ["java/lang/RuntimeException", "java/lang/Exception"] ek238 ei238 eg238 (by decide) atB_X4_238 atA_X4_238 dX4_requirePlace_9 dX4_requirePlace_12 dX4_requirePlace_13 dX4_requirePlace_16

theorem isPl_nat {F : FF} {h k hn : Nat} (e : F 0 1 = nI hn) (h4 : hn ≤ 4) : isPl F (nI h) (nI k) → h < 2 ^ 31 → k < 2 ^ 31 → h < hn ∧ k < 3 := by
  intro hp h1 h2
  obtain ⟨a, b, c, d, f⟩ := hp
  rw [e] at b
  refine ⟨?_, ?_⟩
  · rcases Nat.lt_or_ge h hn with q | q
    · exact q
    · exact absurd (nI_le q h1) b
  · rcases Nat.lt_or_ge k 3 with q | q
    · exact q
    · exact absurd (nI_le q h2) f
theorem isPl_of {F : FF} {x y : Int32} {hn : Nat} (e : F 0 1 = nI hn) (h4 : hn ≤ 4) (hp : isPl F x y) : ∃ h k, h < hn ∧ k < 3 ∧ x = nI h ∧ y = nI k := by
  obtain ⟨h, h1, rfl⟩ := nI_of hp.1
  obtain ⟨k, h2, rfl⟩ := nI_of hp.2.2.2.1
  obtain ⟨a, b⟩ := isPl_nat e h4 hp h1 h2
  exact ⟨h, k, a, b, rfl, rfl⟩
theorem isPl_mk {F : FF} {h k hn : Nat} (e : F 0 1 = nI hn) (h4 : hn ≤ 4) (hh : h < hn) (hk : k < 3) : isPl F (nI h) (nI k) :=
  ⟨nI_pos (by omega), by rw [e]; exact nI_ge hh (by omega), nI_ge (by omega) (by omega), nI_pos (by omega), nI_ge hk (by omega)⟩
abbrev rmX4_house : Room := { frames := 4, cells := 0, slots := 0, locals := 103 }
set_option maxHeartbeats 4000000 in
set_option maxRecDepth 100000 in
theorem mX4_house (l : Launch) (K : KT) (b nA aA : Nat → Nat) (d e : Nat → Nat → Nat) (F Ga : FF) (D S : Nat → FF) (T : FF) {k : Nat} (h6 : k ≤ 6) (hk : T 0 0 = nI k) {hn : Nat} (eh : F 0 1 = nI hn) (h4 : hn < 4) : Ct l K yX4_house wsX4_house rmX4_house [.ref (b 0)] (corkW K b nA aA d e F Ga D S T) (some (.int (nI hn))) (corkW K b nA aA d (pushE k e) (u2 F 0 1 (nI (hn + 1))) Ga D (pushS k S F) (pushT k T)) := by
  refine CtP_of (cc := cX4_house) (nL := 1) (rt := some .int) (own := RX4) (lv0 := [(0, .ref (b 0))]) (by decide) rfl (Nat.le_of_ble_eq_true rfl) rfl rfl ?_
  intro G C0 hF _
  have f12 : Cond.fieldLink RX4 12 "CorkPermits" "now" "LCorkPermits$Cellar;" ∈ wsX4_house := by decide +kernel
  have iX4 : ∀ w ∈ u_ws RX4 TX4 6, w ∈ wsX4_house := by decide +kernel
  have f41 : Cond.fieldLink RX4 41 "CorkPermits$Cellar" "houses" "I" ∈ wsX4_house := by decide +kernel
  have iX0 : ∀ w ∈ u_ws RX0 TX0 14, w ∈ wsX4_house := by decide +kernel
  have f30 : Cond.fieldLink RX4 30 "CorkPermits" "history" "LCorkPermits$History;" ∈ wsX4_house := by decide +kernel
  refine J_aln C0 0 dX4_house_0 (kk := ?_)
  refine J_get C0 iX4 0 0 0 f12 dX4_house_1 (kk := ?_)
  refine J_get C0 iX0 1 0 1 f41 dX4_house_4 (v := .int (nI hn)) (hv := congrArg (fun z => some (Value.int z)) eh) (kk := ?_)
  refine J_ic C0 4 dX4_house_7 (kk := ?_)
  refine J_icmpltN C0 19 (by omega) (by omega) dX4_house_8 (kt := fun c1 => ?_) (kf := fun c1 => ?_)
  · refine J_aln C0 0 dX4_house_19 (kk := ?_)
    refine J_get C0 iX4 0 0 4 f30 dX4_house_20 (kk := ?_)
    refine J_aln C0 0 dX4_house_23 (kk := ?_)
    refine J_get C0 iX4 0 0 0 f12 dX4_house_24 (kk := ?_)
    refine J_callVd C0 (mX2_push l K b nA aA d e F Ga D S T (k := k) h6 hk) [] (corkW K b nA aA d (pushE k e) F Ga D (pushS k S F) (pushT k T)) gX4_house_X2_push dX4_house_27 1 3 (kk := ?_)
    show J G _ _ _ _ _ []
    refine J_aln C0 0 dX4_house_30 (kk := ?_)
    refine J_get C0 iX4 0 0 0 f12 dX4_house_31 (kk := ?_)
    refine J_dup C0 dX4_house_34 (kk := ?_)
    refine J_get C0 iX0 1 0 1 f41 dX4_house_35 (v := .int (nI hn)) (hv := congrArg (fun z => some (Value.int z)) eh) (kk := ?_)
    refine J_ic C0 1 dX4_house_38 (kk := ?_)
    refine J_iaddN C0 dX4_house_39 ?_
    refine J_put C0 iX0 tyX0_ok nmX0 1 0 1 (corkW K b nA aA d (pushE k e) (u2 F 0 1 (nI (hn + 1))) Ga D (pushS k S F) (pushT k T)) f41 dX4_house_40 (hd := rfl) (kk := ?_)
    refine J_aln C0 0 dX4_house_43 (kk := ?_)
    refine J_get C0 iX4 0 0 0 f12 dX4_house_44 (kk := ?_)
    refine J_get C0 iX0 1 0 1 f41 dX4_house_47 (v := .int (nI (hn + 1))) (hv := rfl) (kk := ?_)
    refine J_ic C0 1 dX4_house_50 (kk := ?_)
    refine J_isubN C0 (by omega) dX4_house_51 ?_
    exact J_iret C0 hF dX4_house_52 ⟨rfl, rfl⟩
  · exfalso; omega

abbrev rmtX4_house : Room := { frames := 6, cells := 1, slots := 6, locals := 90 }
set_option maxHeartbeats 4000000 in
set_option maxRecDepth 100000 in
theorem tX4_house (l : Launch) (hst : l.stackTraces = false) (K : KT) (b nA aA : Nat → Nat) (d e : Nat → Nat → Nat) (F Ga : FF) (D S : Nat → FF) (T : FF) (h4 : ¬ F 0 1 < nI 4) : CtT l K yX4_house wsX4_house rmtX4_house [.ref (b 0)] (corkW K b nA aA d e F Ga D S T) "java/lang/IllegalStateException" := by
  refine CtT_of (cc := cX4_house) (nL := 1) (rt := some .int) (own := RX4) (lv0 := [(0, .ref (b 0))]) hst (by decide) rfl (Nat.le_of_ble_eq_true rfl) rfl rfl ?_
  intro G C0 hF
  have f12 : Cond.fieldLink RX4 12 "CorkPermits" "now" "LCorkPermits$Cellar;" ∈ wsX4_house := by decide +kernel
  have iX4 : ∀ w ∈ u_ws RX4 TX4 6, w ∈ wsX4_house := by decide +kernel
  have f41 : Cond.fieldLink RX4 41 "CorkPermits$Cellar" "houses" "I" ∈ wsX4_house := by decide +kernel
  have iX0 : ∀ w ∈ u_ws RX0 TX0 14, w ∈ wsX4_house := by decide +kernel
  have ek45 : Cond.classLink RX4 45 "java/lang/IllegalStateException" ∈ wsX4_house := by decide +kernel
  have ei45 : Cond.initialized "java/lang/IllegalStateException" ∈ wsX4_house := by decide +kernel
  have eg45 : ∀ w ∈ (vx_at0 RX4 47 "java/lang/IllegalStateException" ["java/lang/RuntimeException", "java/lang/Exception"]).filter goodWord, w ∈ wsX4_house := fun w hw => by simp only [wsX4_house, List.mem_cons, List.mem_append, hw, or_true, true_or]
  refine J_aln C0 0 dX4_house_0 (kk := ?_)
  refine J_get C0 iX4 0 0 0 f12 dX4_house_1 (kk := ?_)
  refine J_get C0 iX0 1 0 1 f41 dX4_house_4 (kk := ?_)
  refine J_ic C0 4 dX4_house_7 (kk := ?_)
  refine J_icmplt C0 19 dX4_house_8 (kt := fun c1 => ?_) (kf := fun c1 => ?_)
  · exact absurd c1 h4
  · exact J_throw0 C0 hF ["java/lang/RuntimeException", "java/lang/Exception"] ek45 ei45 eg45 (by decide) atB_X4_45 atA_X4_45 dX4_house_11 dX4_house_14 dX4_house_15 dX4_house_18

