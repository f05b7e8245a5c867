theorem mX4_doOrder2 (l : Launch) (K : KT) (b nA aA : Nat → Nat) (d e : Nat → Nat → Nat) (F Ga : FF) (D S : Nat → FF) (T : FF) (hSh : Sh F) {n : Nat} (hn : T 0 1 = nI n) (h60 : n ≤ 60) {i : Nat} (hi : i < 900) : Ct l K yX4_doOrder wsX4_doOrder rmX4_doOrder [.ref (b 0), .int (nI i)] (corkW K b nA aA d e F Ga D S T) (some (.int (if (ordC F (signS T n i) (digS T n (i + 1)) (digS T n (i + 2))).isSome = true then nI 1 else nI 0))) (corkW K b nA aA d e ((ordC F (signS T n i) (digS T n (i + 1)) (digS T n (i + 2))).getD F) Ga D S T) := by
  have h := mX4_doOrder l K b nA aA d e F Ga D S T hSh hn h60 hi
  generalize ordC F (signS T n i) (digS T n (i + 1)) (digS T n (i + 2)) = r at h ⊢
  cases r <;> exact h
def runR (T : FF) (n : Nat) : Nat → Nat → Nat → FF → Nat × FF
  | 0, _, dn, F => (dn, F)
  | q + 1, i, dn, F => if i < n ∧ (ordC F (signS T n i) (digS T n (i + 1)) (digS T n (i + 2))).isSome = true then runR T n q (i + olS T n i) (dn + 1) ((ordC F (signS T n i) (digS T n (i + 1)) (digS T n (i + 2))).getD F) else (dn, F)
theorem pushT_01 {T : FF} {k n : Nat} (hn : T 0 1 = nI n) : pushT k T 0 1 = nI n := by
  unfold pushT
  split <;> simp [u2_12, hn]
theorem olS_in (T : FF) (n i : Nat) : 2 ≤ olS T n i ∧ olS T n i ≤ 3 := by
  unfold olS
  split <;> omega
theorem sh_getD {F : FF} (h : Sh F) (o x y : Int32) : Sh ((ordC F o x y).getD F) := by
  cases e : ordC F o x y with
  | none => exact h
  | some H => exact sh_ordC h e
abbrev rmX4_run : Room := { frames := 7, cells := 0, slots := 0, locals := 164 }
set_option maxHeartbeats 4000000 in
set_option maxRecDepth 100000 in
theorem mX4_run (l : Launch) (K : KT) (b nA aA : Nat → Nat) (d e : Nat → Nat → Nat) (F Ga : FF) (D S : Nat → FF) (T : FF) {k : Nat} (h6 : k ≤ 6) (hk : T 0 0 = nI k) (hSh : Sh F) {n : Nat} (hn : T 0 1 = nI n) (h60 : n ≤ 60) (hday : ¬ n = 0 ∧ awAt T n = 0) : Ct l K yX4_run wsX4_run rmX4_run [.ref (b 0)] (corkW K b nA aA d e F Ga D S T) (some (.int (nI (runR (pushT k T) n (n + 1) 0 0 F).1))) (corkW K b nA aA d (pushE k e) (runR (pushT k T) n (n + 1) 0 0 F).2 Ga D (pushS k S F) (u2 (pushT k T) 0 1 (nI 0))) := by
  refine CtP_of (cc := cX4_run) (nL := 3) (rt := some .int) (own := RX4) (lv0 := [(0, .ref (b 0))]) (by decide) rfl (Nat.le_of_ble_eq_true rfl) rfl rfl ?_
  intro G C0 hF _
  have f37 : Cond.fieldLink RX4 37 "CorkPermits" "text" "LCorkPermits$DayText;" ∈ wsX4_run := by decide +kernel
  have iX4 : ∀ w ∈ u_ws RX4 TX4 6, w ∈ wsX4_run := by decide +kernel
  have f141 : Cond.fieldLink RX4 141 "CorkPermits$DayText" "length" "I" ∈ wsX4_run := by decide +kernel
  have iX1 : ∀ w ∈ u_ws RX1 TX1 2, w ∈ wsX4_run := by decide +kernel
  have f30 : Cond.fieldLink RX4 30 "CorkPermits" "history" "LCorkPermits$History;" ∈ wsX4_run := by decide +kernel
  have f12 : Cond.fieldLink RX4 12 "CorkPermits" "now" "LCorkPermits$Cellar;" ∈ wsX4_run := by decide +kernel
  have lp : ∀ (q i dn : Nat) (F1 : FF), n < i + q → i ≤ 63 → dn ≤ i → Sh F1 → runR (pushT k T) n q i dn F1 = (runR (pushT k T) n (n + 1) 0 0 F) → J G (corkW K b nA aA d (pushE k e) F1 Ga D (pushS k S F) (pushT k T)) [(2, .int (nI i)), (1, .int (nI dn)), (0, .ref (b 0))] 0 0 33 [] := by
    generalize hTF : (runR (pushT k T) n (n + 1) 0 0 F) = TF at hF ⊢
    clear hTF hSh
    replace hn := pushT_01 (k := k) hn
    intro q
    induction q with
    | zero =>
      intro i dn F1 hq hi hdn hSh hT
      refine J_iln C0 0 dX4_run_33 (kk := ?_)
      refine J_aln C0 2 dX4_run_34 (kk := ?_)
      refine J_get C0 iX4 0 0 5 f37 dX4_run_35 (kk := ?_)
      refine J_get C0 iX1 0 5 1 f141 dX4_run_38 (v := .int (nI n)) (hv := congrArg (fun z => some (Value.int z)) hn) (kk := ?_)
      refine J_icmpgeN C0 69 (by omega) (by omega) dX4_run_41 (kt := fun c1 => ?_) (kf := fun c1 => ?_)
      · refine J_aln C0 2 dX4_run_69 (kk := ?_)
        refine J_get C0 iX4 0 0 5 f37 dX4_run_70 (kk := ?_)
        refine J_ic C0 0 dX4_run_73 (kk := ?_)
        refine J_put C0 iX1 tyX1_ok nmX1 0 5 1 (corkW K b nA aA d (pushE k e) F1 Ga D (pushS k S F) (u2 (pushT k T) 0 1 (nI 0))) f141 dX4_run_74 (hd := rfl) (kk := ?_)
        refine J_iln C0 1 dX4_run_77 (kk := ?_)
        exact J_iret C0 hF dX4_run_78 ⟨congrArg (fun z => some (Value.int (nI z))) (congrArg Prod.fst hT), congrArg (fun z => (corkW K b nA aA d (pushE k e) z Ga D (pushS k S F) (u2 (pushT k T) 0 1 (nI 0)))) (congrArg Prod.snd hT)⟩
      · exfalso; omega
    | succ q ih =>
      intro i dn F1 hq hi hdn hSh hT
      refine J_iln C0 0 dX4_run_33 (kk := ?_)
      refine J_aln C0 2 dX4_run_34 (kk := ?_)
      refine J_get C0 iX4 0 0 5 f37 dX4_run_35 (kk := ?_)
      refine J_get C0 iX1 0 5 1 f141 dX4_run_38 (v := .int (nI n)) (hv := congrArg (fun z => some (Value.int z)) hn) (kk := ?_)
      refine J_icmpgeN C0 69 (by omega) (by omega) dX4_run_41 (kt := fun c1 => ?_) (kf := fun c1 => ?_)
      · refine J_aln C0 2 dX4_run_69 (kk := ?_)
        refine J_get C0 iX4 0 0 5 f37 dX4_run_70 (kk := ?_)
        refine J_ic C0 0 dX4_run_73 (kk := ?_)
        refine J_put C0 iX1 tyX1_ok nmX1 0 5 1 (corkW K b nA aA d (pushE k e) F1 Ga D (pushS k S F) (u2 (pushT k T) 0 1 (nI 0))) f141 dX4_run_74 (hd := rfl) (kk := ?_)
        refine J_iln C0 1 dX4_run_77 (kk := ?_)
        rw [show runR (pushT k T) n (q + 1) i dn F1 = (dn, F1) from if_neg (fun z => absurd z.1 (Nat.not_lt.mpr c1))] at hT
        exact J_iret C0 hF dX4_run_78 ⟨congrArg (fun z => some (Value.int (nI z))) (congrArg Prod.fst hT), congrArg (fun z => (corkW K b nA aA d (pushE k e) z Ga D (pushS k S F) (u2 (pushT k T) 0 1 (nI 0)))) (congrArg Prod.snd hT)⟩
      · refine J_aln C0 2 dX4_run_44 (kk := ?_)
        refine J_iln C0 0 dX4_run_45 (kk := ?_)
        refine J_callVd C0 (mX4_doOrder2 l K b nA aA d (pushE k e) F1 Ga D (pushS k S F) (pushT k T) hSh hn h60 (i := i) (by omega)) [] (corkW K b nA aA d (pushE k e) ((ordC F1 (signS (pushT k T) n i) (digS (pushT k T) n (i + 1)) (digS (pushT k T) n (i + 2))).getD F1) Ga D (pushS k S F) (pushT k T)) gX4_run_X4_doOrder dX4_run_46 1 0 (kk := ?_)
        show J G _ _ _ _ _ [.int (if (ordC F1 (signS (pushT k T) n i) (digS (pushT k T) n (i + 1)) (digS (pushT k T) n (i + 2))).isSome = true then nI 1 else nI 0)]
        refine J_ifeqB C0 69 dX4_run_49 (kt := fun c2 => ?_) (kf := fun c2 => ?_)
        · refine J_aln C0 2 dX4_run_69 (kk := ?_)
          refine J_get C0 iX4 0 0 5 f37 dX4_run_70 (kk := ?_)
          refine J_ic C0 0 dX4_run_73 (kk := ?_)
          refine J_put C0 iX1 tyX1_ok nmX1 0 5 1 (corkW K b nA aA d (pushE k e) ((ordC F1 (signS (pushT k T) n i) (digS (pushT k T) n (i + 1)) (digS (pushT k T) n (i + 2))).getD F1) Ga D (pushS k S F) (u2 (pushT k T) 0 1 (nI 0))) f141 dX4_run_74 (hd := rfl) (kk := ?_)
          refine J_iln C0 1 dX4_run_77 (kk := ?_)
          have e0 : (ordC F1 (signS (pushT k T) n i) (digS (pushT k T) n (i + 1)) (digS (pushT k T) n (i + 2))).getD F1 = F1 := by
            rw [Option.not_isSome_iff_eq_none.mp c2]
            rfl
          rw [show runR (pushT k T) n (q + 1) i dn F1 = (dn, F1) from if_neg (fun z => c2 z.2)] at hT
          rw [e0]
          exact J_iret C0 hF dX4_run_78 ⟨congrArg (fun z => some (Value.int (nI z))) (congrArg Prod.fst hT), congrArg (fun z => (corkW K b nA aA d (pushE k e) z Ga D (pushS k S F) (u2 (pushT k T) 0 1 (nI 0)))) (congrArg Prod.snd hT)⟩
        · refine J_iincN C0 1 [(1, .int (nI (dn + 1))), (2, .int (nI i)), (0, .ref (b 0))] dX4_run_52 (kk := ?_)
          refine J_iln C0 1 dX4_run_55 (kk := ?_)
          refine J_aln C0 2 dX4_run_56 (kk := ?_)
          refine J_get C0 iX4 0 0 5 f37 dX4_run_57 (kk := ?_)
          refine J_iln C0 1 dX4_run_60 (kk := ?_)
          refine J_perm (permI [1, 2, 3, 4, 5, 6, 7, 8, 9, 10, 0] 11 rfl (by decide +kernel) rfl : List.Perm _ ([celW K nA ((ordC F1 (signS (pushT k T) n i) (digS (pushT k T) n (i + 1)) (digS (pushT k T) n (i + 2))).getD F1), celW K aA Ga, celW K (d 0) (D 0), celW K (d 1) (D 1), celW K (pushE k e 0) (pushS k S F 0), celW K (pushE k e 1) (pushS k S F 1), celW K (pushE k e 2) (pushS k S F 2), celW K (pushE k e 3) (pushS k S F 3), celW K (pushE k e 4) (pushS k S F 4), celW K (pushE k e 5) (pushS k S F 5), mainW K b (nA 0) (aA 0) (fun i => some (d i 0)) (fun i => some (pushE k e i 0)) (pushT k T)])) ?_
          refine J_callVd C0 (mX1_orderLength l K b (nA 0) (aA 0) (fun i => some (d i 0)) (fun i => some (pushE k e i 0)) (pushT k T) hn h60 (i := i) (by omega)) [celW K nA ((ordC F1 (signS (pushT k T) n i) (digS (pushT k T) n (i + 1)) (digS (pushT k T) n (i + 2))).getD F1), celW K aA Ga, celW K (d 0) (D 0), celW K (d 1) (D 1), celW K (pushE k e 0) (pushS k S F 0), celW K (pushE k e 1) (pushS k S F 1), celW K (pushE k e 2) (pushS k S F 2), celW K (pushE k e 3) (pushS k S F 3), celW K (pushE k e 4) (pushS k S F 4), celW K (pushE k e 5) (pushS k S F 5)] [celW K nA ((ordC F1 (signS (pushT k T) n i) (digS (pushT k T) n (i + 1)) (digS (pushT k T) n (i + 2))).getD F1), celW K aA Ga, celW K (d 0) (D 0), celW K (d 1) (D 1), celW K (pushE k e 0) (pushS k S F 0), celW K (pushE k e 1) (pushS k S F 1), celW K (pushE k e 2) (pushS k S F 2), celW K (pushE k e 3) (pushS k S F 3), celW K (pushE k e 4) (pushS k S F 4), celW K (pushE k e 5) (pushS k S F 5), mainW K b (nA 0) (aA 0) (fun i => some (d i 0)) (fun i => some (pushE k e i 0)) (pushT k T)] gX4_run_X1_orderLength dX4_run_61 1 5 (kk := ?_)
          refine J_perm (permI [10, 0, 1, 2, 3, 4, 5, 6, 7, 8, 9] 11 rfl (by decide +kernel) rfl : List.Perm _ (corkW K b nA aA d (pushE k e) ((ordC F1 (signS (pushT k T) n i) (digS (pushT k T) n (i + 1)) (digS (pushT k T) n (i + 2))).getD F1) Ga D (pushS k S F) (pushT k T))) ?_
          show J G _ _ _ _ _ [.int (nI (olS (pushT k T) n i)), .int (nI i)]
          refine J_iaddN C0 dX4_run_64 ?_
          refine J_isn C0 [(2, .int (nI (i + (olS (pushT k T) n i)))), (1, .int (nI (dn + 1))), (0, .ref (b 0))] dX4_run_65 (kk := ?_)
          refine J_goto C0 33 dX4_run_66 (kk := ?_)
          exact J_lv [0, 1, 2] rfl (ih (i + olS (pushT k T) n i) (dn + 1) ((ordC F1 (signS (pushT k T) n i) (digS (pushT k T) n (i + 1)) (digS (pushT k T) n (i + 2))).getD F1) (by have := olS_in (pushT k T) n i; omega) (by have := olS_in (pushT k T) n i; omega) (by have := olS_in (pushT k T) n i; omega) (sh_getD hSh _ _ _) (by rw [← hT]; exact (if_pos ⟨c1, c2⟩ : runR (pushT k T) n (q + 1) i dn F1 = _).symm))
  refine J_aln C0 0 dX4_run_0 (kk := ?_)
  refine J_get C0 iX4 0 0 5 f37 dX4_run_1 (kk := ?_)
  refine J_perm (permI [1, 2, 3, 4, 5, 6, 7, 8, 9, 10, 0] 11 rfl (by decide +kernel) rfl : List.Perm _ ([celW K nA F, celW K aA Ga, celW K (d 0) (D 0), celW K (d 1) (D 1), celW K (e 0) (S 0), celW K (e 1) (S 1), celW K (e 2) (S 2), celW K (e 3) (S 3), celW K (e 4) (S 4), celW K (e 5) (S 5), mainW K b (nA 0) (aA 0) (fun i => some (d i 0)) (fun i => some (e i 0)) T])) ?_
  refine J_callVd C0 (mX1_isDay l K b (nA 0) (aA 0) (fun i => some (d i 0)) (fun i => some (e i 0)) T hn h60) [celW K nA F, celW K aA Ga, celW K (d 0) (D 0), celW K (d 1) (D 1), celW K (e 0) (S 0), celW K (e 1) (S 1), celW K (e 2) (S 2), celW K (e 3) (S 3), celW K (e 4) (S 4), celW K (e 5) (S 5)] [celW K nA F, celW K aA Ga, celW K (d 0) (D 0), celW K (d 1) (D 1), celW K (e 0) (S 0), celW K (e 1) (S 1), celW K (e 2) (S 2), celW K (e 3) (S 3), celW K (e 4) (S 4), celW K (e 5) (S 5), mainW K b (nA 0) (aA 0) (fun i => some (d i 0)) (fun i => some (e i 0)) T] gX4_run_X1_isDay dX4_run_4 0 5 (kk := ?_)
  refine J_perm (permI [10, 0, 1, 2, 3, 4, 5, 6, 7, 8, 9] 11 rfl (by decide +kernel) rfl : List.Perm _ (corkW K b nA aA d e F Ga D S T)) ?_
  show J G _ _ _ _ _ [.int (if ¬ n = 0 ∧ awAt T n = 0 then nI 1 else nI 0)]
  refine J_ifneB C0 18 dX4_run_7 (kt := fun c1 => ?_) (kf := fun c1 => ?_)
  · refine J_aln C0 0 dX4_run_18 (kk := ?_)
    refine J_get C0 iX4 0 0 4 f30 dX4_run_19 (kk := ?_)
    refine J_aln C0 0 dX4_run_22 (kk := ?_)
    refine J_get C0 iX4 0 0 0 f12 dX4_run_23 (kk := ?_)
    refine J_callVd C0 (mX2_push l K b nA aA d e F Ga D S T (k := k) h6 hk) [] (corkW K b nA aA d (pushE k e) F Ga D (pushS k S F) (pushT k T)) gX4_run_X2_push dX4_run_26 1 3 (kk := ?_)
    show J G _ _ _ _ _ []
    refine J_ic C0 0 dX4_run_29 (kk := ?_)
    refine J_isn C0 [(1, .int (nI 0)), (0, .ref (b 0))] dX4_run_30 (kk := ?_)
    refine J_ic C0 0 dX4_run_31 (kk := ?_)
    refine J_isn C0 [(2, .int (nI 0)), (1, .int (nI 0)), (0, .ref (b 0))] dX4_run_32 (kk := ?_)
    exact J_lv [0, 1, 2] rfl (lp (n + 1) 0 0 F (by omega) (by omega) (by omega) hSh rfl)
  · exact absurd hday c1

abbrev rmtX4_run : Room := { frames := 6, cells := 1, slots := 6, locals := 90 }
set_option maxHeartbeats 4000000 in
set_option maxRecDepth 100000 in
theorem tX4_run (l : Launch) (hst : l.stackTraces = false) (K : KT) (b nA aA : Nat → Nat) (d e : Nat → Nat → Nat) (F Ga : FF) (D S : Nat → FF) (T : FF) {n : Nat} (hn : T 0 1 = nI n) (h60 : n ≤ 60) (hday : ¬ (¬ n = 0 ∧ awAt T n = 0)) : CtT l K yX4_run wsX4_run rmtX4_run [.ref (b 0)] (corkW K b nA aA d e F Ga D S T) "java/lang/IllegalArgumentException" := by
  refine CtT_of (cc := cX4_run) (nL := 3) (rt := some .int) (own := RX4) (lv0 := [(0, .ref (b 0))]) hst (by decide) rfl (Nat.le_of_ble_eq_true rfl) rfl rfl ?_
  intro G C0 hF
  have f37 : Cond.fieldLink RX4 37 "CorkPermits" "text" "LCorkPermits$DayText;" ∈ wsX4_run := by decide +kernel
  have iX4 : ∀ w ∈ u_ws RX4 TX4 6, w ∈ wsX4_run := by decide +kernel
  have ek56 : Cond.classLink RX4 56 "java/lang/IllegalArgumentException" ∈ wsX4_run := by decide +kernel
  have ei56 : Cond.initialized "java/lang/IllegalArgumentException" ∈ wsX4_run := by decide +kernel
  have eg56 : ∀ w ∈ (vx_at0 RX4 58 "java/lang/IllegalArgumentException" ["java/lang/RuntimeException", "java/lang/Exception"]).filter goodWord, w ∈ wsX4_run := fun w hw => by simp only [wsX4_run, List.mem_cons, List.mem_append, hw, or_true, true_or]
  refine J_aln C0 0 dX4_run_0 (kk := ?_)
  refine J_get C0 iX4 0 0 5 f37 dX4_run_1 (kk := ?_)
  refine J_perm (permI [1, 2, 3, 4, 5, 6, 7, 8, 9, 10, 0] 11 rfl (by decide +kernel) rfl : List.Perm _ ([celW K nA F, celW K aA Ga, celW K (d 0) (D 0), celW K (d 1) (D 1), celW K (e 0) (S 0), celW K (e 1) (S 1), celW K (e 2) (S 2), celW K (e 3) (S 3), celW K (e 4) (S 4), celW K (e 5) (S 5), mainW K b (nA 0) (aA 0) (fun i => some (d i 0)) (fun i => some (e i 0)) T])) ?_
  refine J_callVd C0 (mX1_isDay l K b (nA 0) (aA 0) (fun i => some (d i 0)) (fun i => some (e i 0)) T hn h60) [celW K nA F, celW K aA Ga, celW K (d 0) (D 0), celW K (d 1) (D 1), celW K (e 0) (S 0), celW K (e 1) (S 1), celW K (e 2) (S 2), celW K (e 3) (S 3), celW K (e 4) (S 4), celW K (e 5) (S 5)] [celW K nA F, celW K aA Ga, celW K (d 0) (D 0), celW K (d 1) (D 1), celW K (e 0) (S 0), celW K (e 1) (S 1), celW K (e 2) (S 2), celW K (e 3) (S 3), celW K (e 4) (S 4), celW K (e 5) (S 5), mainW K b (nA 0) (aA 0) (fun i => some (d i 0)) (fun i => some (e i 0)) T] gX4_run_X1_isDay dX4_run_4 0 5 (kk := ?_)
  refine J_perm (permI [10, 0, 1, 2, 3, 4, 5, 6, 7, 8, 9] 11 rfl (by decide +kernel) rfl : List.Perm _ (corkW K b nA aA d e F Ga D S T)) ?_
  show J G _ _ _ _ _ [.int (if ¬ n = 0 ∧ awAt T n = 0 then nI 1 else nI 0)]
  refine J_ifneB C0 18 dX4_run_7 (kt := fun c1 => ?_) (kf := fun c1 => ?_)
  · exact absurd c1 hday
  · exact J_throw0 C0 hF ["java/lang/RuntimeException", "java/lang/Exception"] ek56 ei56 eg56 (by decide) atB_X4_56 atA_X4_56 dX4_run_10 dX4_run_13 dX4_run_14 dX4_run_17

