abbrev rmX5_firstError : Room := { frames := 5, cells := 0, slots := 0, locals := 106 }
set_option maxHeartbeats 4000000 in
set_option maxRecDepth 100000 in
theorem mX5_firstError (l : Launch) (K : KT) (a : Nat → Nat) (F : FF) (g P L : Nat → Int32) (M : FF) {m : Nat} (hm : M 0 1 = nI m) (h60 : m ≤ 60) : CtP l K yX5_firstError wsX5_firstError rmX5_firstError [.ref (a 0)] [modR K a (flat F) g P L M] (fun r w => ∃ M', r = some (.int (nI (fwGo M m 0))) ∧ w = [modR K a (flat F) g P L M'] ∧ Kp (u2 M 0 2 (nI 0)) M') := by
  refine CtP_of (cc := cX5_firstError) (nL := 1) (rt := some .int) (own := RX5) (lv0 := [(0, .ref (a 0))]) (by decide) rfl (Nat.le_of_ble_eq_true rfl) rfl rfl ?_
  intro G C0 hF _
  have iX5 : ∀ w ∈ u_ws RX5 TX5 13, w ∈ wsX5_firstError := by decide +kernel
  have f28 : Cond.fieldLink RX5 28 "CorkPermitsModel" "thrown" "I" ∈ wsX5_firstError := by decide +kernel
  have f137 : Cond.fieldLink RX5 137 "CorkPermitsModel" "spot" "I" ∈ wsX5_firstError := by decide +kernel
  have f134 : Cond.fieldLink RX5 134 "CorkPermitsModel" "length" "I" ∈ wsX5_firstError := by decide +kernel
  refine J_aln C0 0 dX5_firstError_0 (kk := ?_)
  refine J_ic C0 0 dX5_firstError_1 (kk := ?_)
  refine J_put C0 iX5 tyX5_ok nmX5 0 0 8 [modR K a (flat F) g P L (u2 M 0 2 (nI 0))] f28 dX5_firstError_2 (hd := rfl) (kk := ?_)
  refine J_aln C0 0 dX5_firstError_5 (kk := ?_)
  refine J_callV C0 (wr := []) (mX5_isDay l K a F g P L (u2 M 0 2 (nI 0)) (m := m) hm h60) rfl gX5_firstError_X5_isDay dX5_firstError_6 0 0 (kk := fun rv w1 hw => ?_)
  obtain ⟨M2, rfl, rfl, hK, hb⟩ := hw
  have ea : ∀ i, awAt (u2 M 0 2 (nI 0)) i = awAt M i := by
    intro i
    induction i with
    | zero => rfl
    | succ i ih => show awS (awAt (u2 M 0 2 (nI 0)) i) _ = awS (awAt M i) _; rw [ih]; rfl
  have ef : ∀ k i, fwGo (u2 M 0 2 (nI 0)) k i = fwGo M k i := by
    intro k
    induction k with
    | zero => intro i; rfl
    | succ k ih => intro i; show (if _ then _ else _) = (if _ then _ else _); rw [ea, ih]
  rw [ea, ef] at hb
  rw [ea]
  by_cases hy : (¬ m = 0 ∧ awAt M m = 0)
  · rw [if_pos hy]
    show J G _ _ _ _ _ [.int (nI 1)]
    refine J_ifeqN C0 19 (by omega) dX5_firstError_9 (kt := fun c => ?_) (kf := fun _ => ?_)
    · exfalso; omega
    · refine J_aln C0 0 dX5_firstError_12 (kk := ?_)
      refine J_get C0 iX5 0 0 7 f134 dX5_firstError_13 (v := .int (nI m)) (hv := congrArg (fun z => some (Value.int z)) ((hK.2 1 (by decide)).trans hm)) (kk := ?_)
      refine J_goto C0 23 dX5_firstError_16 (kk := ?_)
      have e : fwGo M m 0 = m := by
        refine fw_go (Nat.le_refl m) (fun i hi => ?_) (fun z => by omega) m 0 (by omega) (by omega)
        intro z
        have := aw_4 z (m - i)
        rw [show i + (m - i) = m by omega, hy.2] at this
        exact absurd this (by decide)
      exact J_iret C0 hF dX5_firstError_23 ⟨M2, by rw [e], rfl, hK⟩
  · rw [if_neg hy]
    show J G _ _ _ _ _ [.int (nI 0)]
    refine J_ifeqN C0 19 (by omega) dX5_firstError_9 (kt := fun _ => ?_) (kf := fun c => ?_)
    · refine J_aln C0 0 dX5_firstError_19 (kk := ?_)
      refine J_get C0 iX5 0 0 9 f137 dX5_firstError_20 (v := .int (nI (fwGo M m 0))) (hv := congrArg (fun z => some (Value.int z)) (hb hy)) (kk := ?_)
      exact J_iret C0 hF dX5_firstError_23 ⟨M2, rfl, rfl, hK⟩
    · exfalso; omega
/-! the orders -/
theorem pr_of {B hn n : Nat} {F : FF} {N : Nat → Nat → Nat} (hv : InvN B F hn n N) {x y : Int32} (hp : isPr F x y) : ∃ h k, h < hn ∧ k < 3 ∧ x = nI h ∧ y = nI k := by
  have h4 := hv.1.2
  obtain ⟨h, hh, rfl⟩ := nI_of hp.1.1
  obtain ⟨k, hk, rfl⟩ := nI_of hp.2.1
  have a1 := hp.1.2
  have a2 := hp.2.2
  rw [hv.1.1] at a1
  refine ⟨h, k, ?_, ?_, rfl, rfl⟩
  · rcases Nat.eq_zero_or_pos hn with z | z
    · subst z
      exact absurd (Int32.lt_of_lt_of_le (by decide : nI 0 - nI 1 < 0) (nI_pos' hh)) a1
    · rw [pk_sub (by omega)] at a1
      rcases Nat.lt_or_ge (hn - 1) h with c | c
      · exact absurd (nI_lt c hh) a1
      · omega
  · rcases Nat.lt_or_ge 2 k with c | c
    · exact absurd (nI_lt c hk) a2
    · omega
theorem pr_mk {B hn n : Nat} {F : FF} {N : Nat → Nat → Nat} (hv : InvN B F hn n N) {h k : Nat} (hh : h < hn) (hk : k < 3) : isPr F (nI h) (nI k) := by
  have h4 := hv.1.2
  refine ⟨⟨nI_nlt (a := h) (b := 0) (by omega) (by omega), ?_⟩, nI_nlt (a := k) (b := 0) (by omega) (by omega), nI_nlt (by omega) (by omega)⟩
  rw [hv.1.1, pk_sub (by omega)]
  exact nI_nlt (by omega) (by omega)
theorem pl_pr {B hn n : Nat} {F : FF} {N : Nat → Nat → Nat} (hv : InvN B F hn n N) {x y : Int32} : isPl F x y ↔ isPr F x y := by
  constructor
  · intro h
    obtain ⟨h, k, h1, h2, rfl, rfl⟩ := isPl_of hv.1.1 hv.1.2 h
    exact pr_mk hv h1 h2
  · intro h
    obtain ⟨h, k, h1, h2, rfl, rfl⟩ := pr_of hv h
    exact isPl_mk hv.1.1 hv.1.2 h1 h2
section OR
variable {B hn n : Nat} {F : FF} {N : Nat → Nat → Nat}
theorem nN_s {n : Nat} (h : n < 2 ^ 31) : nN (nI n) = n := nN_nI h
theorem ord_l (hv : InvN B F hn n N) {h k : Nat} (hh : h < 4) (hk : k < 3) : ordC F (nI 108) (nI h) (nI k) = if isPr F (nI h) (nI k) ∧ canLendS F k then some (lendS F n (3 * h + k)) else none := by
  unfold ordC
  rw [if_neg (by decide), if_neg (by decide), nN_s (by omega), nN_s (by omega), hv.nn, Nat.mul_comm h 3, if_pos rfl]
  by_cases c : isPr F (nI h) (nI k)
  · rw [if_pos ((pl_pr hv).mpr c)]
    by_cases c2 : canLendS F k
    · rw [if_pos c2, if_pos ⟨c, c2⟩]
    · rw [if_neg c2, if_neg (fun z => c2 z.2)]
  · rw [if_neg (fun z => c ((pl_pr hv).mp z)), if_neg (fun z => c z.1)]
theorem ord_q (hv : InvN B F hn n N) {h k : Nat} (hh : h < 4) (hk : k < 3) : ordC F (nI 113) (nI h) (nI k) = if isPr F (nI h) (nI k) ∧ roomS F then some (askS F n (3 * h + k)) else none := by
  unfold ordC
  rw [if_neg (by decide), if_neg (by decide), nN_s (by omega), nN_s (by omega), hv.nn, Nat.mul_comm h 3, if_neg (show ¬ nI 113 = nI 108 by decide), if_pos (show nI 113 = nI 113 from rfl)]
  by_cases c : isPr F (nI h) (nI k)
  · rw [if_pos ((pl_pr hv).mpr c)]
    by_cases c2 : roomS F
    · rw [if_pos c2, if_pos ⟨c, c2⟩]
    · rw [if_neg c2, if_neg (fun z => c2 z.2)]
  · rw [if_neg (fun z => c ((pl_pr hv).mp z)), if_neg (fun z => c z.1)]
theorem ord_w (hv : InvN B F hn n N) {h k : Nat} (hh : h < 4) (hk : k < 3) : ordC F (nI 119) (nI h) (nI k) = if isPr F (nI h) (nI k) ∧ ¬ nI 9 ≤ F 11 (3 * h + k) then some (u2 F 11 (3 * h + k) (F 11 (3 * h + k) + nI 1)) else none := by
  unfold ordC
  rw [if_neg (by decide), if_neg (by decide), nN_s (by omega), nN_s (by omega), Nat.mul_comm h 3, if_neg (show ¬ nI 119 = nI 108 by decide), if_neg (show ¬ nI 119 = nI 113 by decide), if_pos (show nI 119 = nI 119 from rfl)]
  by_cases c : isPr F (nI h) (nI k)
  · rw [if_pos ((pl_pr hv).mpr c)]
    by_cases c2 : ¬ nI 9 ≤ F 11 (3 * h + k)
    · rw [if_pos c2, if_pos ⟨c, c2⟩]
    · rw [if_neg c2, if_neg (fun z => c2 z.2)]
  · rw [if_neg (fun z => c ((pl_pr hv).mp z)), if_neg (fun z => c z.1)]
theorem ord_d {c : Nat} (hc : c < 3) (y : Int32) : ordC F (nI 100) (nI c) y = if ¬ F 3 c ≤ 0 then some (drinkS F c) else none := by
  unfold ordC
  rw [if_neg (by decide), if_pos rfl, if_neg (nI_pos (by omega)), if_neg (nI_ge hc (by decide)), nN_s (by omega)]
  by_cases q : 0 < F 3 c
  · rw [if_pos q, if_pos (Int32.not_le.mpr q)]
  · rw [if_neg q, if_neg (fun z => q (Int32.not_le.mp z))]
theorem ord_t {t : Nat} (h1 : 1 ≤ t) (h9 : t ≤ 9) (y : Int32) : ordC F (nI 116) (nI t) y = if F 0 0 + nI t ≤ nI 9999 then some (ticksC t F) else none := by
  unfold ordC
  rw [if_pos rfl, if_neg (nI_nlt h1 (by omega)), nN_s (by omega)]
end OR
/-- an order as the descent leaves it -/
def OrdOK (o x y : Int32) : Prop := ((o = nI 108 ∨ o = nI 113 ∨ o = nI 119) ∧ ∃ h k : Nat, h < 4 ∧ k < 3 ∧ x = nI h ∧ y = nI k) ∨ (o = nI 100 ∧ ∃ c : Nat, c < 3 ∧ x = nI c) ∨ (o = nI 116 ∧ ∃ t : Nat, 1 ≤ t ∧ t ≤ 9 ∧ x = nI t)
abbrev rmX5_mayDo : Room := { frames := 6, cells := 0, slots := 0, locals := 131 }
set_option maxHeartbeats 4000000 in
set_option maxRecDepth 100000 in
theorem mX5_mayDo_l (l : Launch) (K : KT) (a : Nat → Nat) (F : FF) (g P L : Nat → Int32) (M : FF) {B hn n : Nat} {N : Nat → Nat → Nat} (hv : InvN B F hn n N) {h k : Nat} (hh : h < 4) (hk : k < 3) (hx : M 0 5 = nI h) (hy : M 0 6 = nI k) (ho : M 0 4 = nI 108) : Ct l K yX5_mayDo wsX5_mayDo rmX5_mayDo [.ref (a 0)] [modR K a (flat F) g P L M] (some (.int (if isPr F (nI h) (nI k) ∧ canLendS F k then nI 1 else nI 0))) [modR K a (flat F) g P L M] := by
  refine CtP_of (cc := cX5_mayDo) (nL := 1) (rt := some .boolean) (own := RX5) (lv0 := [(0, .ref (a 0))]) (by decide) rfl (Nat.le_of_ble_eq_true rfl) rfl rfl ?_
  intro G C0 hF _
  have f152 : Cond.fieldLink RX5 152 "CorkPermitsModel" "order" "I" ∈ wsX5_mayDo := by decide +kernel
  have iX5 : ∀ w ∈ u_ws RX5 TX5 13, w ∈ wsX5_mayDo := by decide +kernel
  have f143 : Cond.fieldLink RX5 143 "CorkPermitsModel" "first" "I" ∈ wsX5_mayDo := by decide +kernel
  have f149 : Cond.fieldLink RX5 149 "CorkPermitsModel" "second" "I" ∈ wsX5_mayDo := by decide +kernel
  refine J_aln C0 0 dX5_mayDo_0 (kk := ?_)
  refine J_get C0 iX5 0 0 10 f152 dX5_mayDo_1 (kk := ?_)
  refine J_lsw C0 48 dX5_mayDo_4 (by rw [ho]; decide) (kk := ?_)
  refine J_aln C0 0 dX5_mayDo_48 (kk := ?_)
  refine J_aln C0 0 dX5_mayDo_49 (kk := ?_)
  refine J_get C0 iX5 0 0 11 f143 dX5_mayDo_50 (v := .int (nI h)) (hv := congrArg (fun z => some (Value.int z)) hx) (kk := ?_)
  refine J_aln C0 0 dX5_mayDo_53 (kk := ?_)
  refine J_get C0 iX5 0 0 12 f149 dX5_mayDo_54 (v := .int (nI k)) (hv := congrArg (fun z => some (Value.int z)) hy) (kk := ?_)
  refine J_callVd C0 (mX5_isPair l K a F g P L M (nI h) (nI k)) [] [modR K a (flat F) g P L M] gX5_mayDo_X5_isPair dX5_mayDo_57 2 0 (kk := ?_)
  show J G _ _ _ _ _ [.int (if isPr F (nI h) (nI k) then nI 1 else nI 0)]
  refine J_ifeqB C0 78 dX5_mayDo_60 (kt := fun c1 => ?_) (kf := fun c1 => ?_)
  · refine J_ic C0 0 dX5_mayDo_78 (kk := ?_)
    exact J_zret C0 hF dX5_mayDo_79 (by decide) ⟨by rw [if_neg (fun z => c1 z.1)], rfl⟩
  · refine J_aln C0 0 dX5_mayDo_63 (kk := ?_)
    refine J_aln C0 0 dX5_mayDo_64 (kk := ?_)
    refine J_get C0 iX5 0 0 12 f149 dX5_mayDo_65 (v := .int (nI k)) (hv := congrArg (fun z => some (Value.int z)) hy) (kk := ?_)
    refine J_callVd C0 (mX5_canLend l K a F g P L M hv (k := k) (by omega)) [] [modR K a (flat F) g P L M] gX5_mayDo_X5_canLend dX5_mayDo_68 1 0 (kk := ?_)
    show J G _ _ _ _ _ [.int (if canLendS F k then nI 1 else nI 0)]
    refine J_ifeqB C0 78 dX5_mayDo_71 (kt := fun c2 => ?_) (kf := fun c2 => ?_)
    · refine J_ic C0 0 dX5_mayDo_78 (kk := ?_)
      exact J_zret C0 hF dX5_mayDo_79 (by decide) ⟨by rw [if_neg (fun z => c2 z.2)], rfl⟩
    · refine J_ic C0 1 dX5_mayDo_74 (kk := ?_)
      refine J_goto C0 79 dX5_mayDo_75 (kk := ?_)
      exact J_zret C0 hF dX5_mayDo_79 (by decide) ⟨by rw [if_pos ⟨c1, c2⟩], rfl⟩

set_option maxHeartbeats 4000000 in
set_option maxRecDepth 100000 in
theorem mX5_mayDo_q (l : Launch) (K : KT) (a : Nat → Nat) (F : FF) (g P L : Nat → Int32) (M : FF) {h k : Nat} (hh : h < 4) (hk : k < 3) (hx : M 0 5 = nI h) (hy : M 0 6 = nI k) (ho : M 0 4 = nI 113) : Ct l K yX5_mayDo wsX5_mayDo rmX5_mayDo [.ref (a 0)] [modR K a (flat F) g P L M] (some (.int (if isPr F (nI h) (nI k) ∧ roomS F then nI 1 else nI 0))) [modR K a (flat F) g P L M] := by
  refine CtP_of (cc := cX5_mayDo) (nL := 1) (rt := some .boolean) (own := RX5) (lv0 := [(0, .ref (a 0))]) (by decide) rfl (Nat.le_of_ble_eq_true rfl) rfl rfl ?_
  intro G C0 hF _
  have f152 : Cond.fieldLink RX5 152 "CorkPermitsModel" "order" "I" ∈ wsX5_mayDo := by decide +kernel
  have iX5 : ∀ w ∈ u_ws RX5 TX5 13, w ∈ wsX5_mayDo := by decide +kernel
  have f143 : Cond.fieldLink RX5 143 "CorkPermitsModel" "first" "I" ∈ wsX5_mayDo := by decide +kernel
  have f149 : Cond.fieldLink RX5 149 "CorkPermitsModel" "second" "I" ∈ wsX5_mayDo := by decide +kernel
  refine J_aln C0 0 dX5_mayDo_0 (kk := ?_)
  refine J_get C0 iX5 0 0 10 f152 dX5_mayDo_1 (kk := ?_)
  refine J_lsw C0 80 dX5_mayDo_4 (by rw [ho]; decide) (kk := ?_)
  refine J_aln C0 0 dX5_mayDo_80 (kk := ?_)
  refine J_aln C0 0 dX5_mayDo_81 (kk := ?_)
  refine J_get C0 iX5 0 0 11 f143 dX5_mayDo_82 (v := .int (nI h)) (hv := congrArg (fun z => some (Value.int z)) hx) (kk := ?_)
  refine J_aln C0 0 dX5_mayDo_85 (kk := ?_)
  refine J_get C0 iX5 0 0 12 f149 dX5_mayDo_86 (v := .int (nI k)) (hv := congrArg (fun z => some (Value.int z)) hy) (kk := ?_)
  refine J_callVd C0 (mX5_isPair l K a F g P L M (nI h) (nI k)) [] [modR K a (flat F) g P L M] gX5_mayDo_X5_isPair dX5_mayDo_89 2 0 (kk := ?_)
  show J G _ _ _ _ _ [.int (if isPr F (nI h) (nI k) then nI 1 else nI 0)]
  refine J_ifeqB C0 106 dX5_mayDo_92 (kt := fun c1 => ?_) (kf := fun c1 => ?_)
  · refine J_ic C0 0 dX5_mayDo_106 (kk := ?_)
    exact J_zret C0 hF dX5_mayDo_107 (by decide) ⟨by rw [if_neg (fun z => c1 z.1)], rfl⟩
  · refine J_aln C0 0 dX5_mayDo_95 (kk := ?_)
    refine J_callVd C0 (mX5_hasRoom l K a F g P L M) [] [modR K a (flat F) g P L M] gX5_mayDo_X5_hasRoom dX5_mayDo_96 0 0 (kk := ?_)
    show J G _ _ _ _ _ [.int (if roomS F then nI 1 else nI 0)]
    refine J_ifeqB C0 106 dX5_mayDo_99 (kt := fun c2 => ?_) (kf := fun c2 => ?_)
    · refine J_ic C0 0 dX5_mayDo_106 (kk := ?_)
      exact J_zret C0 hF dX5_mayDo_107 (by decide) ⟨by rw [if_neg (fun z => c2 z.2)], rfl⟩
    · refine J_ic C0 1 dX5_mayDo_102 (kk := ?_)
      refine J_goto C0 107 dX5_mayDo_103 (kk := ?_)
      exact J_zret C0 hF dX5_mayDo_107 (by decide) ⟨by rw [if_pos ⟨c1, c2⟩], rfl⟩

set_option maxHeartbeats 4000000 in
set_option maxRecDepth 100000 in
theorem mX5_mayDo_w (l : Launch) (K : KT) (a : Nat → Nat) (F : FF) (g P L : Nat → Int32) (M : FF) {h k : Nat} (hh : h < 4) (hk : k < 3) (hx : M 0 5 = nI h) (hy : M 0 6 = nI k) (ho : M 0 4 = nI 119) : Ct l K yX5_mayDo wsX5_mayDo rmX5_mayDo [.ref (a 0)] [modR K a (flat F) g P L M] (some (.int (if isPr F (nI h) (nI k) ∧ ¬ nI 9 ≤ F 11 (3 * h + k) then nI 1 else nI 0))) [modR K a (flat F) g P L M] := by
  refine CtP_of (cc := cX5_mayDo) (nL := 1) (rt := some .boolean) (own := RX5) (lv0 := [(0, .ref (a 0))]) (by decide) rfl (Nat.le_of_ble_eq_true rfl) rfl rfl ?_
  intro G C0 hF _
  have f152 : Cond.fieldLink RX5 152 "CorkPermitsModel" "order" "I" ∈ wsX5_mayDo := by decide +kernel
  have iX5 : ∀ w ∈ u_ws RX5 TX5 13, w ∈ wsX5_mayDo := by decide +kernel
  have f143 : Cond.fieldLink RX5 143 "CorkPermitsModel" "first" "I" ∈ wsX5_mayDo := by decide +kernel
  have f149 : Cond.fieldLink RX5 149 "CorkPermitsModel" "second" "I" ∈ wsX5_mayDo := by decide +kernel
  refine J_aln C0 0 dX5_mayDo_0 (kk := ?_)
  refine J_get C0 iX5 0 0 10 f152 dX5_mayDo_1 (kk := ?_)
  refine J_lsw C0 108 dX5_mayDo_4 (by rw [ho]; decide) (kk := ?_)
  refine J_aln C0 0 dX5_mayDo_108 (kk := ?_)
  refine J_aln C0 0 dX5_mayDo_109 (kk := ?_)
  refine J_get C0 iX5 0 0 11 f143 dX5_mayDo_110 (v := .int (nI h)) (hv := congrArg (fun z => some (Value.int z)) hx) (kk := ?_)
  refine J_aln C0 0 dX5_mayDo_113 (kk := ?_)
  refine J_get C0 iX5 0 0 12 f149 dX5_mayDo_114 (v := .int (nI k)) (hv := congrArg (fun z => some (Value.int z)) hy) (kk := ?_)
  refine J_callVd C0 (mX5_isPair l K a F g P L M (nI h) (nI k)) [] [modR K a (flat F) g P L M] gX5_mayDo_X5_isPair dX5_mayDo_117 2 0 (kk := ?_)
  show J G _ _ _ _ _ [.int (if isPr F (nI h) (nI k) then nI 1 else nI 0)]
  refine J_ifeqB C0 145 dX5_mayDo_120 (kt := fun c1 => ?_) (kf := fun c1 => ?_)
  · refine J_ic C0 0 dX5_mayDo_145 (kk := ?_)
    exact J_zret C0 hF dX5_mayDo_146 (by decide) ⟨by rw [if_neg (fun z => c1 z.1)], rfl⟩
  · refine J_aln C0 0 dX5_mayDo_123 (kk := ?_)
    refine J_aln C0 0 dX5_mayDo_124 (kk := ?_)
    refine J_get C0 iX5 0 0 11 f143 dX5_mayDo_125 (v := .int (nI h)) (hv := congrArg (fun z => some (Value.int z)) hx) (kk := ?_)
    refine J_aln C0 0 dX5_mayDo_128 (kk := ?_)
    refine J_get C0 iX5 0 0 12 f149 dX5_mayDo_129 (v := .int (nI k)) (hv := congrArg (fun z => some (Value.int z)) hy) (kk := ?_)
    refine J_ic C0 4 dX5_mayDo_132 (kk := ?_)
    refine J_callVd C0 (mX5_of l K a F g P L M (h := h) (k := k) (w := 4) (by omega) (by omega) (by omega)) [] [modR K a (flat F) g P L M] gX5_mayDo_X5_of dX5_mayDo_133 3 0 (kk := ?_)
    show J G _ _ _ _ _ [.int (F 11 (3 * h + k))]
    refine J_bi C0 9 dX5_mayDo_136 (kk := ?_)
    refine J_icmpge C0 145 dX5_mayDo_138 (kt := fun c2 => ?_) (kf := fun c2 => ?_)
    · refine J_ic C0 0 dX5_mayDo_145 (kk := ?_)
      exact J_zret C0 hF dX5_mayDo_146 (by decide) ⟨by rw [if_neg (fun z => z.2 c2)], rfl⟩
    · refine J_ic C0 1 dX5_mayDo_141 (kk := ?_)
      refine J_goto C0 146 dX5_mayDo_142 (kk := ?_)
      exact J_zret C0 hF dX5_mayDo_146 (by decide) ⟨by rw [if_pos ⟨c1, c2⟩], rfl⟩

set_option maxHeartbeats 4000000 in
set_option maxRecDepth 100000 in
theorem mX5_mayDo_d (l : Launch) (K : KT) (a : Nat → Nat) (F : FF) (g P L : Nat → Int32) (M : FF) {k : Nat} (hk : k < 3) (hx : M 0 5 = nI k) (ho : M 0 4 = nI 100) : Ct l K yX5_mayDo wsX5_mayDo rmX5_mayDo [.ref (a 0)] [modR K a (flat F) g P L M] (some (.int (if ¬ F 3 k ≤ 0 then nI 1 else nI 0))) [modR K a (flat F) g P L M] := by
  refine CtP_of (cc := cX5_mayDo) (nL := 1) (rt := some .boolean) (own := RX5) (lv0 := [(0, .ref (a 0))]) (by decide) rfl (Nat.le_of_ble_eq_true rfl) rfl rfl ?_
  intro G C0 hF _
  have f152 : Cond.fieldLink RX5 152 "CorkPermitsModel" "order" "I" ∈ wsX5_mayDo := by decide +kernel
  have iX5 : ∀ w ∈ u_ws RX5 TX5 13, w ∈ wsX5_mayDo := by decide +kernel
  have f143 : Cond.fieldLink RX5 143 "CorkPermitsModel" "first" "I" ∈ wsX5_mayDo := by decide +kernel
  refine J_aln C0 0 dX5_mayDo_0 (kk := ?_)
  refine J_get C0 iX5 0 0 10 f152 dX5_mayDo_1 (kk := ?_)
  refine J_lsw C0 147 dX5_mayDo_4 (by rw [ho]; decide) (kk := ?_)
  refine J_aln C0 0 dX5_mayDo_147 (kk := ?_)
  refine J_aln C0 0 dX5_mayDo_148 (kk := ?_)
  refine J_get C0 iX5 0 0 11 f143 dX5_mayDo_149 (v := .int (nI k)) (hv := congrArg (fun z => some (Value.int z)) hx) (kk := ?_)
  refine J_ic C0 1 dX5_mayDo_152 (kk := ?_)
  refine J_callVd C0 (mX5_ofKind l K a F g P L M (k := k) (w := 1) (by omega) (by omega)) [] [modR K a (flat F) g P L M] gX5_mayDo_X5_ofKind dX5_mayDo_153 2 0 (kk := ?_)
  show J G _ _ _ _ _ [.int (F 3 k)]
  refine J_ifle C0 163 dX5_mayDo_156 (kt := fun c1 => ?_) (kf := fun c1 => ?_)
  · refine J_ic C0 0 dX5_mayDo_163 (kk := ?_)
    exact J_zret C0 hF dX5_mayDo_164 (by decide) ⟨by rw [if_neg (fun z => z c1)], rfl⟩
  · refine J_ic C0 1 dX5_mayDo_159 (kk := ?_)
    refine J_goto C0 164 dX5_mayDo_160 (kk := ?_)
    exact J_zret C0 hF dX5_mayDo_164 (by decide) ⟨by rw [if_pos c1], rfl⟩

set_option maxHeartbeats 4000000 in
set_option maxRecDepth 100000 in
theorem mX5_mayDo_t (l : Launch) (K : KT) (a : Nat → Nat) (F : FF) (g P L : Nat → Int32) (M : FF) {t : Nat} (ht1 : 1 ≤ t) (ht : t ≤ 9) (hx : M 0 5 = nI t) (ho : M 0 4 = nI 116) : Ct l K yX5_mayDo wsX5_mayDo rmX5_mayDo [.ref (a 0)] [modR K a (flat F) g P L M] (some (.int (if ¬ nI 9999 < F 0 0 + nI t then nI 1 else nI 0))) [modR K a (flat F) g P L M] := by
  refine CtP_of (cc := cX5_mayDo) (nL := 1) (rt := some .boolean) (own := RX5) (lv0 := [(0, .ref (a 0))]) (by decide) rfl (Nat.le_of_ble_eq_true rfl) rfl rfl ?_
  intro G C0 hF _
  have f152 : Cond.fieldLink RX5 152 "CorkPermitsModel" "order" "I" ∈ wsX5_mayDo := by decide +kernel
  have iX5 : ∀ w ∈ u_ws RX5 TX5 13, w ∈ wsX5_mayDo := by decide +kernel
  have f7 : Cond.fieldLink RX5 7 "CorkPermitsModel" "s" "[I" ∈ wsX5_mayDo := by decide +kernel
  have f143 : Cond.fieldLink RX5 143 "CorkPermitsModel" "first" "I" ∈ wsX5_mayDo := by decide +kernel
  refine J_aln C0 0 dX5_mayDo_0 (kk := ?_)
  refine J_get C0 iX5 0 0 10 f152 dX5_mayDo_1 (kk := ?_)
  refine J_lsw C0 165 dX5_mayDo_4 (by rw [ho]; decide) (kk := ?_)
  refine J_aln C0 0 dX5_mayDo_165 (kk := ?_)
  refine J_get C0 iX5 0 0 0 f7 dX5_mayDo_166 (kk := ?_)
  refine J_ic C0 0 dX5_mayDo_169 (kk := ?_)
  refine J_iald C0 0 1 283 dX5_mayDo_170 (by omega) (v := (F 0 0)) (hv := (flat_0 F (j := 0) (by decide)).trans rfl) (kk := ?_)
  refine J_aln C0 0 dX5_mayDo_171 (kk := ?_)
  refine J_get C0 iX5 0 0 11 f143 dX5_mayDo_172 (v := .int (nI t)) (hv := congrArg (fun z => some (Value.int z)) hx) (kk := ?_)
  refine J_iadd C0 dX5_mayDo_175 ?_
  refine J_si C0 9999 dX5_mayDo_176 (kk := ?_)
  refine J_icmpgt C0 186 dX5_mayDo_179 (kt := fun c1 => ?_) (kf := fun c1 => ?_)
  · refine J_ic C0 0 dX5_mayDo_186 (kk := ?_)
    exact J_zret C0 hF dX5_mayDo_187 (by decide) ⟨by rw [if_neg (fun z => z c1)], rfl⟩
  · refine J_ic C0 1 dX5_mayDo_182 (kk := ?_)
    refine J_goto C0 187 dX5_mayDo_183 (kk := ?_)
    exact J_zret C0 hF dX5_mayDo_187 (by decide) ⟨by rw [if_pos c1], rfl⟩

abbrev rmX5_does : Room := { frames := 8, cells := 0, slots := 0, locals := 177 }
set_option maxHeartbeats 4000000 in
set_option maxRecDepth 100000 in
theorem mX5_does_l (l : Launch) (K : KT) (a : Nat → Nat) (F : FF) (g P L : Nat → Int32) (M : FF) {n : Nat} (hn : F 0 4 = nI n) (h40 : n < 40) {h k : Nat} (hh : h < 4) (hk : k < 3) (hx : M 0 5 = nI h) (hy : M 0 6 = nI k) (ho : M 0 4 = nI 108) : Ct l K yX5_does wsX5_does rmX5_does [.ref (a 0)] [modR K a (flat F) g P L M] none [modR K a (flat (lendS F n (3 * h + k))) g P L M] := by
  refine CtP_of (cc := cX5_does) (nL := 2) (rt := none) (own := RX5) (lv0 := [(0, .ref (a 0))]) (by decide) rfl (Nat.le_of_ble_eq_true rfl) rfl rfl ?_
  intro G C0 hF _
  have f152 : Cond.fieldLink RX5 152 "CorkPermitsModel" "order" "I" ∈ wsX5_does := by decide +kernel
  have iX5 : ∀ w ∈ u_ws RX5 TX5 13, w ∈ wsX5_does := by decide +kernel
  have f143 : Cond.fieldLink RX5 143 "CorkPermitsModel" "first" "I" ∈ wsX5_does := by decide +kernel
  have f149 : Cond.fieldLink RX5 149 "CorkPermitsModel" "second" "I" ∈ wsX5_does := by decide +kernel
  refine J_ic C0 0 dX5_does_0 (kk := ?_)
  refine J_isn C0 [(1, .int (nI 0)), (0, .ref (a 0))] dX5_does_1 (kk := ?_)
  refine J_aln C0 1 dX5_does_2 (kk := ?_)
  refine J_get C0 iX5 0 0 10 f152 dX5_does_3 (kk := ?_)
  refine J_lsw C0 48 dX5_does_6 (by rw [ho]; decide) (kk := ?_)
  refine J_aln C0 1 dX5_does_48 (kk := ?_)
  refine J_aln C0 1 dX5_does_49 (kk := ?_)
  refine J_get C0 iX5 0 0 11 f143 dX5_does_50 (v := .int (nI h)) (hv := congrArg (fun z => some (Value.int z)) hx) (kk := ?_)
  refine J_aln C0 1 dX5_does_53 (kk := ?_)
  refine J_get C0 iX5 0 0 12 f149 dX5_does_54 (v := .int (nI k)) (hv := congrArg (fun z => some (Value.int z)) hy) (kk := ?_)
  refine J_callVd C0 (mX5_lendsOne l K a F g P L M (n := n) hn h40 (h := h) (k := k) (by omega) (by omega)) [] [modR K a (flat (lendS F n (3 * h + k))) g P L M] gX5_does_X5_lendsOne dX5_does_57 2 0 (kk := ?_)
  show J G _ _ _ _ _ []
  refine J_goto C0 123 dX5_does_60 (kk := ?_)
  exact J_vret C0 hF dX5_does_123 ⟨rfl, rfl⟩

set_option maxHeartbeats 4000000 in
set_option maxRecDepth 100000 in
theorem mX5_does_q (l : Launch) (K : KT) (a : Nat → Nat) (F : FF) (g P L : Nat → Int32) (M : FF) {n : Nat} (hn : F 0 4 = nI n) (h40 : n < 40) {h k : Nat} (hh : h < 4) (hk : k < 3) (hx : M 0 5 = nI h) (hy : M 0 6 = nI k) (ho : M 0 4 = nI 113) : Ct l K yX5_does wsX5_does rmX5_does [.ref (a 0)] [modR K a (flat F) g P L M] none [modR K a (flat (askS F n (3 * h + k))) g P L M] := by
  refine CtP_of (cc := cX5_does) (nL := 2) (rt := none) (own := RX5) (lv0 := [(0, .ref (a 0))]) (by decide) rfl (Nat.le_of_ble_eq_true rfl) rfl rfl ?_
  intro G C0 hF _
  have f152 : Cond.fieldLink RX5 152 "CorkPermitsModel" "order" "I" ∈ wsX5_does := by decide +kernel
  have iX5 : ∀ w ∈ u_ws RX5 TX5 13, w ∈ wsX5_does := by decide +kernel
  have f143 : Cond.fieldLink RX5 143 "CorkPermitsModel" "first" "I" ∈ wsX5_does := by decide +kernel
  have f149 : Cond.fieldLink RX5 149 "CorkPermitsModel" "second" "I" ∈ wsX5_does := by decide +kernel
  refine J_ic C0 0 dX5_does_0 (kk := ?_)
  refine J_isn C0 [(1, .int (nI 0)), (0, .ref (a 0))] dX5_does_1 (kk := ?_)
  refine J_aln C0 1 dX5_does_2 (kk := ?_)
  refine J_get C0 iX5 0 0 10 f152 dX5_does_3 (kk := ?_)
  refine J_lsw C0 63 dX5_does_6 (by rw [ho]; decide) (kk := ?_)
  refine J_aln C0 1 dX5_does_63 (kk := ?_)
  refine J_aln C0 1 dX5_does_64 (kk := ?_)
  refine J_get C0 iX5 0 0 11 f143 dX5_does_65 (v := .int (nI h)) (hv := congrArg (fun z => some (Value.int z)) hx) (kk := ?_)
  refine J_aln C0 1 dX5_does_68 (kk := ?_)
  refine J_get C0 iX5 0 0 12 f149 dX5_does_69 (v := .int (nI k)) (hv := congrArg (fun z => some (Value.int z)) hy) (kk := ?_)
  refine J_callVd C0 (mX5_asks l K a F g P L M (n := n) hn h40 (h := h) (k := k) (by omega) (by omega)) [] [modR K a (flat (askS F n (3 * h + k))) g P L M] gX5_does_X5_asks dX5_does_72 2 0 (kk := ?_)
  show J G _ _ _ _ _ []
  refine J_goto C0 123 dX5_does_75 (kk := ?_)
  exact J_vret C0 hF dX5_does_123 ⟨rfl, rfl⟩

set_option maxHeartbeats 4000000 in
set_option maxRecDepth 100000 in
theorem mX5_does_w (l : Launch) (K : KT) (a : Nat → Nat) (F : FF) (g P L : Nat → Int32) (M : FF) {h k : Nat} (hh : h < 4) (hk : k < 3) (hx : M 0 5 = nI h) (hy : M 0 6 = nI k) (ho : M 0 4 = nI 119) : Ct l K yX5_does wsX5_does rmX5_does [.ref (a 0)] [modR K a (flat F) g P L M] none [modR K a (flat (u2 F 11 (3 * h + k) (F 11 (3 * h + k) + nI 1))) g P L M] := by
  refine CtP_of (cc := cX5_does) (nL := 2) (rt := none) (own := RX5) (lv0 := [(0, .ref (a 0))]) (by decide) rfl (Nat.le_of_ble_eq_true rfl) rfl rfl ?_
  intro G C0 hF _
  have f152 : Cond.fieldLink RX5 152 "CorkPermitsModel" "order" "I" ∈ wsX5_does := by decide +kernel
  have iX5 : ∀ w ∈ u_ws RX5 TX5 13, w ∈ wsX5_does := by decide +kernel
  have f7 : Cond.fieldLink RX5 7 "CorkPermitsModel" "s" "[I" ∈ wsX5_does := by decide +kernel
  have f143 : Cond.fieldLink RX5 143 "CorkPermitsModel" "first" "I" ∈ wsX5_does := by decide +kernel
  have f149 : Cond.fieldLink RX5 149 "CorkPermitsModel" "second" "I" ∈ wsX5_does := by decide +kernel
  refine J_ic C0 0 dX5_does_0 (kk := ?_)
  refine J_isn C0 [(1, .int (nI 0)), (0, .ref (a 0))] dX5_does_1 (kk := ?_)
  refine J_aln C0 1 dX5_does_2 (kk := ?_)
  refine J_get C0 iX5 0 0 10 f152 dX5_does_3 (kk := ?_)
  refine J_lsw C0 78 dX5_does_6 (by rw [ho]; decide) (kk := ?_)
  refine J_aln C0 1 dX5_does_78 (kk := ?_)
  refine J_get C0 iX5 0 0 0 f7 dX5_does_79 (kk := ?_)
  refine J_aln C0 1 dX5_does_82 (kk := ?_)
  refine J_get C0 iX5 0 0 11 f143 dX5_does_83 (v := .int (nI h)) (hv := congrArg (fun z => some (Value.int z)) hx) (kk := ?_)
  refine J_aln C0 1 dX5_does_86 (kk := ?_)
  refine J_get C0 iX5 0 0 12 f149 dX5_does_87 (v := .int (nI k)) (hv := congrArg (fun z => some (Value.int z)) hy) (kk := ?_)
  refine J_callSd C0 (mX5_at l K (h := h) (k := k)) [modR K a (flat F) g P L M] [modR K a (flat F) g P L M] gX5_does_X5_at dX5_does_90 2 (kk := ?_)
  show J G _ _ _ _ _ [.int (nI (23 + 5 * (3 * h + k))), .ref (a 1)]
  refine J_ic C0 4 dX5_does_93 (kk := ?_)
  refine J_iaddN C0 dX5_does_94 ?_
  refine J_dup2 C0 dX5_does_95 (kk := ?_)
  refine J_iald C0 0 1 283 dX5_does_96 (by omega) (v := (F 11 (3 * h + k))) (hv := (flat_p F (j := 23 + 5 * (3 * h + k) + 4) (p := 3 * h + k) (c := 4) (by omega) (by omega) (by omega)).trans rfl) (kk := ?_)
  refine J_ic C0 1 dX5_does_97 (kk := ?_)
  refine J_iadd C0 dX5_does_98 ?_
  refine J_iast C0 0 1 283 [modR K a (flat (u2 F 11 (3 * h + k) ((F 11 (3 * h + k)) + (nI 1)))) g P L M] dX5_does_99 (by omega) (hb2 := by exact congrArg (fun f => [modR K a f g P L M]) (flat_up F (j := 23 + 5 * (3 * h + k) + 4) (q := 3 * h + k) (d := 4) (by omega) (by omega) (by omega) ((F 11 (3 * h + k)) + (nI 1)))) (kk := ?_)
  refine J_goto C0 123 dX5_does_100 (kk := ?_)
  exact J_vret C0 hF dX5_does_123 ⟨rfl, rfl⟩

set_option maxHeartbeats 4000000 in
set_option maxRecDepth 100000 in
theorem mX5_does_d (l : Launch) (K : KT) (a : Nat → Nat) (F : FF) (g P L : Nat → Int32) (M : FF) {k : Nat} (hk : k < 3) (hx : M 0 5 = nI k) (ho : M 0 4 = nI 100) : Ct l K yX5_does wsX5_does rmX5_does [.ref (a 0)] [modR K a (flat F) g P L M] none [modR K a (flat (drinkS F k)) g P L M] := by
  refine CtP_of (cc := cX5_does) (nL := 2) (rt := none) (own := RX5) (lv0 := [(0, .ref (a 0))]) (by decide) rfl (Nat.le_of_ble_eq_true rfl) rfl rfl ?_
  intro G C0 hF _
  have f152 : Cond.fieldLink RX5 152 "CorkPermitsModel" "order" "I" ∈ wsX5_does := by decide +kernel
  have iX5 : ∀ w ∈ u_ws RX5 TX5 13, w ∈ wsX5_does := by decide +kernel
  have f143 : Cond.fieldLink RX5 143 "CorkPermitsModel" "first" "I" ∈ wsX5_does := by decide +kernel
  refine J_ic C0 0 dX5_does_0 (kk := ?_)
  refine J_isn C0 [(1, .int (nI 0)), (0, .ref (a 0))] dX5_does_1 (kk := ?_)
  refine J_aln C0 1 dX5_does_2 (kk := ?_)
  refine J_get C0 iX5 0 0 10 f152 dX5_does_3 (kk := ?_)
  refine J_lsw C0 103 dX5_does_6 (by rw [ho]; decide) (kk := ?_)
  refine J_aln C0 1 dX5_does_103 (kk := ?_)
  refine J_aln C0 1 dX5_does_104 (kk := ?_)
  refine J_get C0 iX5 0 0 11 f143 dX5_does_105 (v := .int (nI k)) (hv := congrArg (fun z => some (Value.int z)) hx) (kk := ?_)
  refine J_callVd C0 (mX5_drinks l K a F g P L M (k := k) (by omega)) [] [modR K a (flat (drinkS F k)) g P L M] gX5_does_X5_drinks dX5_does_108 1 0 (kk := ?_)
  show J G _ _ _ _ _ []
  refine J_goto C0 123 dX5_does_111 (kk := ?_)
  exact J_vret C0 hF dX5_does_123 ⟨rfl, rfl⟩

set_option maxHeartbeats 4000000 in
set_option maxRecDepth 100000 in
theorem mX5_does_t (l : Launch) (K : KT) (a : Nat → Nat) (F : FF) (g P L : Nat → Int32) (M : FF) {B hn n : Nat} {N : Nat → Nat → Nat} (hv : InvN B F hn n N) {t : Nat} (ht1 : 1 ≤ t) (ht : t ≤ 9) (hB : B + 1000 < 2 ^ 30) (hx : M 0 5 = nI t) (ho : M 0 4 = nI 116) : Ct l K yX5_does wsX5_does rmX5_does [.ref (a 0)] [modR K a (flat F) g P L M] none [modR K a (flat (ticksC t F)) g P L M] := by
  refine CtP_of (cc := cX5_does) (nL := 2) (rt := none) (own := RX5) (lv0 := [(0, .ref (a 0))]) (by decide) rfl (Nat.le_of_ble_eq_true rfl) rfl rfl ?_
  intro G C0 hF _
  have f152 : Cond.fieldLink RX5 152 "CorkPermitsModel" "order" "I" ∈ wsX5_does := by decide +kernel
  have iX5 : ∀ w ∈ u_ws RX5 TX5 13, w ∈ wsX5_does := by decide +kernel
  have f143 : Cond.fieldLink RX5 143 "CorkPermitsModel" "first" "I" ∈ wsX5_does := by decide +kernel
  refine J_ic C0 0 dX5_does_0 (kk := ?_)
  refine J_isn C0 [(1, .int (nI 0)), (0, .ref (a 0))] dX5_does_1 (kk := ?_)
  refine J_aln C0 1 dX5_does_2 (kk := ?_)
  refine J_get C0 iX5 0 0 10 f152 dX5_does_3 (kk := ?_)
  refine J_lsw C0 114 dX5_does_6 (by rw [ho]; decide) (kk := ?_)
  refine J_aln C0 1 dX5_does_114 (kk := ?_)
  refine J_aln C0 1 dX5_does_115 (kk := ?_)
  refine J_get C0 iX5 0 0 11 f143 dX5_does_116 (v := .int (nI t)) (hv := congrArg (fun z => some (Value.int z)) hx) (kk := ?_)
  refine J_callVd C0 (mX5_ticks l K a F g P L M hv (t := t) (by omega) (by omega)) [] [modR K a (flat (ticksC t F)) g P L M] gX5_does_X5_ticks dX5_does_119 1 0 (kk := ?_)
  show J G _ _ _ _ _ [.int (sumS (ticksC t F 10) 12 - sumS (F 10) 12)]
  refine J_isn C0 [(1, .int (sumS (ticksC t F 10) 12 - sumS (F 10) 12)), (0, .ref (a 0))] dX5_does_122 (kk := ?_)
  exact J_vret C0 hF dX5_does_123 ⟨rfl, rfl⟩

theorem mX5_mayDo (l : Launch) (K : KT) (a : Nat → Nat) (F : FF) (g P L : Nat → Int32) (M : FF) {B hn n : Nat} {N : Nat → Nat → Nat} (hv : InvN B F hn n N) (hO : OrdOK (M 0 4) (M 0 5) (M 0 6)) : Ct l K yX5_mayDo wsX5_mayDo rmX5_mayDo [.ref (a 0)] [modR K a (flat F) g P L M] (some (.int (if (ordC F (M 0 4) (M 0 5) (M 0 6)).isSome = true then nI 1 else nI 0))) [modR K a (flat F) g P L M] := by
  have key : ∀ (p : Prop) [Decidable p] (X : FF), ((if p then some X else none : Option FF).isSome = true) = p := fun p _ X => by
    by_cases c : p
    · rw [if_pos c]; exact propext ⟨fun _ => c, fun _ => rfl⟩
    · rw [if_neg c]; exact propext ⟨fun z => absurd z (by decide), fun z => absurd z c⟩
  rcases hO with ⟨ho, h, k, hh, hk, hx, hy⟩ | ⟨ho, c, hc, hx⟩ | ⟨ho, t, ht1, ht, hx⟩
  · rcases ho with ho | ho | ho
    · have q := mX5_mayDo_l l K a F g P L M hv hh hk hx hy ho
      have e : ((ordC F (M 0 4) (M 0 5) (M 0 6)).isSome = true) = (isPr F (nI h) (nI k) ∧ canLendS F k) := by rw [ho, hx, hy, ord_l hv hh hk, key]
      simp only [e]
      exact q
    · have q := mX5_mayDo_q l K a F g P L M hh hk hx hy ho
      have e : ((ordC F (M 0 4) (M 0 5) (M 0 6)).isSome = true) = (isPr F (nI h) (nI k) ∧ roomS F) := by rw [ho, hx, hy, ord_q hv hh hk, key]
      simp only [e]
      exact q
    · have q := mX5_mayDo_w l K a F g P L M hh hk hx hy ho
      have e : ((ordC F (M 0 4) (M 0 5) (M 0 6)).isSome = true) = (isPr F (nI h) (nI k) ∧ ¬ nI 9 ≤ F 11 (3 * h + k)) := by rw [ho, hx, hy, ord_w hv hh hk, key]
      simp only [e]
      exact q
  · have q := mX5_mayDo_d l K a F g P L M hc hx ho
    have e : ((ordC F (M 0 4) (M 0 5) (M 0 6)).isSome = true) = (¬ F 3 c ≤ 0) := by rw [ho, hx, ord_d hc, key]
    simp only [e]
    exact q
  · have q := mX5_mayDo_t l K a F g P L M ht1 ht hx ho
    have e : ((ordC F (M 0 4) (M 0 5) (M 0 6)).isSome = true) = (¬ nI 9999 < F 0 0 + nI t) := by rw [ho, hx, ord_t ht1 ht, key]; exact propext Int32.not_lt.symm
    simp only [e]
    exact q
theorem some_if {p : Prop} [Decidable p] {X H : FF} (h : (if p then some X else none : Option FF) = some H) : p ∧ X = H := by
  by_cases c : p
  · rw [if_pos c] at h; exact ⟨c, Option.some.inj h⟩
  · rw [if_neg c] at h; cases h
theorem InvN.want {B hn n : Nat} {F : FF} {N : Nat → Nat → Nat} (h : InvN B F hn n N) {p : Nat} (hp : p < 3 * hn) (hc : ¬ nI 9 ≤ F 11 p) : ∃ N', InvN B (u2 F 11 p (F 11 p + nI 1)) hn n N' := by
  have h4 := h.1.2
  have hp12 : p < 12 := by omega
  have e11 := h.F11 hp12
  have q11 := h.p hp12
  have hc9 : N 11 p < 9 := by
    rw [e11] at hc
    rcases Nat.lt_or_ge (N 11 p) 9 with c | c
    · exact c
    · exact absurd (nI_le c (by omega)) hc
  obtain ⟨⟨eh, h4⟩, ⟨en, n40⟩, hd, hR, hP, hZ, hL, hM, hK⟩ := h
  have a : ∀ i, i ≠ 11 → ups N 11 p (N 11 p + 1) i = N i := fun i x => ups_n x
  refine ⟨_, ⟨(h0_u (by decide)).trans eh, h4⟩, ⟨(h0_u (by decide)).trans en, n40⟩, by rw [hd_u (by decide)]; exact hd, hR.up (v := N 11 p + 1) (by rw [e11, nI_add]), ?_, ?_, ?_, ?_, ?_⟩
  · intro q hq2
    have h1 := hP q hq2
    rw [a 8 (by decide), a 9 (by decide), a 10 (by decide), a 7 (by decide), ups_i]
    by_cases c2 : q = p
    · subst c2; rw [if_pos rfl]; omega
    · rw [if_neg c2]; exact h1
  · intro q a1 a2
    have h1 := hZ q a1 a2
    rw [a 7 (by decide), ups_o (by omega)]
    exact h1
  · intro r hr
    rw [a 12 (by decide), a 13 (by decide)]; exact hL r hr
  · intro r hr
    rw [a 12 (by decide), a 13 (by decide), a 14 (by decide), a 7 (by decide), a 10 (by decide)]; exact hM r hr
  · intro k hk
    rw [s8_i (by decide), a 3 (by decide), a 5 (by decide), a 6 (by decide)]; exact hK k hk
theorem InvN.drink {B hn n : Nat} {F : FF} {N : Nat → Nat → Nat} (h : InvN B F hn n N) (hB : B < 2 ^ 28) {c : Nat} (hc : c < 3) (hf : 0 < F 3 c) : ∃ N', InvN B (drinkS F c) hn n N' := by
  have e3 := h.F3 hc
  obtain ⟨⟨eh, h4⟩, ⟨en, n40⟩, hd, hR, hP, hZ, hL, hM, hK⟩ := h
  have k0 := hK c hc
  have b3 : N 3 c < 2 ^ 31 := by
    have p1 := hP c (by omega)
    have p2 := hP (c + 3) (by omega)
    have p3 := hP (c + 6) (by omega)
    have p4 := hP (c + 9) (by omega)
    unfold s8 at k0
    omega
  have h3 : 0 < N 3 c := by
    rw [e3] at hf
    exact (nI_0lt b3).mp hf
  have a : ∀ i, i ≠ 3 → ups N 3 c (N 3 c - 1) i = N i := fun i x => ups_n x
  refine ⟨_, ⟨by unfold drinkS; rw [h0_u (by decide), h0_u (by decide)]; exact eh, h4⟩, ⟨by unfold drinkS; rw [h0_u (by decide), h0_u (by decide)]; exact en, n40⟩, by unfold drinkS; rw [hd_u (by decide), hd_u (by decide)]; exact hd, (hR.up (v := N 3 c - 1) (by rw [e3, pk_sub (by omega)])).out (by omega), ?_, ?_, ?_, ?_, ?_⟩
  · intro q hq2
    rw [a 8 (by decide), a 9 (by decide), a 10 (by decide), a 7 (by decide), a 11 (by decide)]; exact hP q hq2
  · intro q a1 a2
    rw [a 7 (by decide), a 11 (by decide)]; exact hZ q a1 a2
  · intro r hr
    rw [a 12 (by decide), a 13 (by decide)]; exact hL r hr
  · intro r hr
    rw [a 12 (by decide), a 13 (by decide), a 14 (by decide), a 7 (by decide), a 10 (by decide)]; exact hM r hr
  · intro k hk
    have h1 := hK k hk
    rw [s8_i (by decide), a 5 (by decide), a 6 (by decide), ups_i]
    by_cases c2 : k = c
    · subst c2; rw [if_pos rfl]; omega
    · rw [if_neg c2]; exact h1
/-- what an order leaves keeps what holds -/
theorem InvN.ord {B hn n : Nat} {F H : FF} {N : Nat → Nat → Nat} (hv : InvN B F hn n N) (hB : B + 1000 < 2 ^ 28) {o x y : Int32} (hO : OrdOK o x y) (h : ordC F o x y = some H) : ∃ n' N', InvN (B + 108) H hn n' N' := by
  have h4 := hv.1.2
  rcases hO with ⟨ho, h', k, hh, hk, rfl, rfl⟩ | ⟨rfl, c, hc, rfl⟩ | ⟨rfl, t, ht1, ht, rfl⟩
  · rcases ho with rfl | rfl | rfl
    · rw [ord_l hv hh hk] at h
      obtain ⟨⟨hp, hc⟩, rfl⟩ := some_if h
      obtain ⟨h2, k2, q1, q2, e1, e2⟩ := pr_of hv hp
      have e1 := (nI_eq (by omega) (by omega)).mp e1
      obtain ⟨n', N', -, h3⟩ := hv.lend (by omega) (p := 3 * h' + k) (by omega) (room_lt hv.2.1.1 hc.2 hv.2.1.2)
      exact ⟨n', N', h3.mono (by omega)⟩
    · rw [ord_q hv hh hk] at h
      obtain ⟨⟨hp, hc⟩, rfl⟩ := some_if h
      obtain ⟨h2, k2, q1, q2, e1, e2⟩ := pr_of hv hp
      have e1 := (nI_eq (by omega) (by omega)).mp e1
      obtain ⟨n', N', -, h3⟩ := hv.ask (p := 3 * h' + k) (by omega) (room_lt hv.2.1.1 hc hv.2.1.2)
      exact ⟨n', N', h3.mono (by omega)⟩
    · rw [ord_w hv hh hk] at h
      obtain ⟨⟨hp, hc⟩, rfl⟩ := some_if h
      obtain ⟨h2, k2, q1, q2, e1, e2⟩ := pr_of hv hp
      have e1 := (nI_eq (by omega) (by omega)).mp e1
      obtain ⟨N', h3⟩ := hv.want (p := 3 * h' + k) (by omega) hc
      exact ⟨n, N', h3.mono (by omega)⟩
  · rw [ord_d hc] at h
    obtain ⟨hc2, rfl⟩ := some_if h
    obtain ⟨N', h3⟩ := hv.drink (by omega) hc (Int32.not_le.mp hc2)
    exact ⟨n, N', h3.mono (by omega)⟩
  · rw [ord_t ht1 ht] at h
    obtain ⟨hc2, rfl⟩ := some_if h
    obtain ⟨n', N', h3⟩ := InvN.ticks t B hv (by omega)
    exact ⟨n', N', h3.mono (by omega)⟩
theorem mX5_does (l : Launch) (K : KT) (a : Nat → Nat) (F : FF) (g P L : Nat → Int32) (M : FF) {B hn n : Nat} {N : Nat → Nat → Nat} (hv : InvN B F hn n N) (hB : B + 1000 < 2 ^ 30) (hO : OrdOK (M 0 4) (M 0 5) (M 0 6)) {H : FF} (hH : ordC F (M 0 4) (M 0 5) (M 0 6) = some H) : Ct l K yX5_does wsX5_does rmX5_does [.ref (a 0)] [modR K a (flat F) g P L M] none [modR K a (flat H) g P L M] := by
  rcases hO with ⟨ho, h, k, hh, hk, hx, hy⟩ | ⟨ho, c, hc, hx⟩ | ⟨ho, t, ht1, ht, hx⟩
  · rcases ho with ho | ho | ho
    · rw [ho, hx, hy, ord_l hv hh hk] at hH
      obtain ⟨⟨hp, hc⟩, rfl⟩ := some_if hH
      exact mX5_does_l l K a F g P L M hv.2.1.1 (room_lt hv.2.1.1 hc.2 hv.2.1.2) hh hk hx hy ho
    · rw [ho, hx, hy, ord_q hv hh hk] at hH
      obtain ⟨⟨hp, hc⟩, rfl⟩ := some_if hH
      exact mX5_does_q l K a F g P L M hv.2.1.1 (room_lt hv.2.1.1 hc hv.2.1.2) hh hk hx hy ho
    · rw [ho, hx, hy, ord_w hv hh hk] at hH
      obtain ⟨⟨hp, hc⟩, rfl⟩ := some_if hH
      exact mX5_does_w l K a F g P L M hh hk hx hy ho
  · rw [ho, hx, ord_d hc] at hH
    obtain ⟨hc2, rfl⟩ := some_if hH
    exact mX5_does_d l K a F g P L M hc hx ho
  · rw [ho, hx, ord_t ht1 ht] at hH
    obtain ⟨hc2, rfl⟩ := some_if hH
    exact mX5_does_t l K a F g P L M hv ht1 ht hB hx ho
