/-! the law's start: the first state, what the tables say, the object made -/
theorem inv_0 : InvN 0 cel0 0 0 (fun _ _ => 0) := by
  refine ⟨⟨by decide, by decide⟩, ⟨by decide, by decide⟩, by decide, fun i k h1 h2 h3 h4 => ?_, fun p hp => ⟨Nat.le_refl _, Nat.le_refl _, Nat.le_refl _, Nat.le_refl _, Nat.zero_le _⟩, fun p h1 h2 => ⟨rfl, rfl⟩, fun r hr => ⟨(by show (0 : Nat) < 4; decide), (by show (0 : Nat) < 12; decide)⟩, fun r hr => absurd hr (Nat.not_lt_zero r), fun k hk => ⟨Nat.le_refl _, rfl⟩⟩
  unfold cel0
  rw [if_neg (by omega), if_neg (by omega)]
  rfl
theorem eb_0 : EB cel0 := by
  intro k hk
  refine ⟨4, ?_, by decide, ?_⟩
  · rcases (show k = 0 ∨ k = 1 ∨ k = 2 by omega) with rfl | rfl | rfl <;> rfl
  · rcases (show k = 0 ∨ k = 1 ∨ k = 2 by omega) with rfl | rfl | rfl <;> decide
theorem iy_0 : IY 0 cel0 := ⟨⟨0, 0, _, inv_0⟩, eb_0, ⟨0, 0, by decide, by decide, Nat.le_refl _, Nat.le_refl _⟩, 0, by decide, Nat.le_refl _⟩
theorem sr_0 : SR 0 0 0 cel0 (va_up (fun _ => cel0) 0 cel0) (fun _ => cel0) (u2 (fun _ _ => 0) 1 0 (nI 1)) :=
  ⟨iy_0, ⟨by decide, rfl⟩, ⟨by decide, rfl⟩, fun j hj => absurd hj (Nat.not_lt_zero j), u2_s _ _ _ _, by rw [up_s]; exact iy_0⟩
theorem arr_of {args : Array Value} {s : State} {ty : FieldType} (h : (Cond.arrayClass ty).before args s = true) : ∃ cA : ClassId, ArrOfT s cA ty ∧ s.vm.findClass ("[" ++ ty.toString) = some cA := by
  obtain ⟨c, k, comp, h1, h2, h3⟩ := Cond.arrayClass_spec h
  exact ⟨c, fun n z => ⟨fun k h => (by cases h), k, h2, comp, h3⟩, h1⟩
theorem arrO_of {args : Array Value} {s : State} {C : String} (h : (Cond.arrayOver (.object C)).before args s = true) : ∃ cA : ClassId, ArrOfT s cA (.object C) ∧ va_RA s cA (.object C) := by
  obtain ⟨comp, c, k, h1, h2, h3, h4, h5⟩ := Cond.arrayOver_spec h
  exact ⟨c, fun n z => ⟨fun k h => (by cases h), k, h3, comp, h4⟩, k, comp, h3, h4, h1, h5⟩
theorem start_K {args : Array Value} {s : State} (hts : ∀ w ∈ lw_tbl, w.before args s = true) : ∃ K : KT, KK K s := by
  obtain ⟨c0, iS0, hKn0⟩ := u_known (C := RX0) (T := TX0) (N := 14) (n := 14) hts inX0 (hts (.instantiable RX0 14) (by decide +kernel))
  obtain ⟨c1, iS1, hKn1⟩ := u_known (C := RX1) (T := TX1) (N := 2) (n := 2) hts inX1 (hts (.instantiable RX1 2) (by decide +kernel))
  obtain ⟨c2, iS2, hKn2⟩ := u_known (C := RX2) (T := TX2) (N := 2) (n := 2) hts inX2 (hts (.instantiable RX2 2) (by decide +kernel))
  obtain ⟨c3, iS3, hKn3⟩ := u_known (C := RX3) (T := TX3) (N := 7) (n := 7) hts inX3 (hts (.instantiable RX3 7) (by decide +kernel))
  obtain ⟨c4, iS4, hKn4⟩ := u_known (C := RX4) (T := TX4) (N := 6) (n := 6) hts inX4 (hts (.instantiable RX4 6) (by decide +kernel))
  obtain ⟨dC, dI, hKc⟩ : ∃ (dC : Nat → ClassId) (dI : Nat → Nat → Nat), ∀ (k : Nat) (q : vw_C), vwCl[k]? = some q → u_Kn s q.1 q.2.1 q.2.2 (dC k) (dI k) := by
    refine ⟨fun k => if k = 0 then c0 else if k = 1 then c1 else if k = 2 then c2 else if k = 3 then c3 else c4, fun k => if k = 0 then iS0 else if k = 1 then iS1 else if k = 2 then iS2 else if k = 3 then iS3 else iS4, ?_⟩
    intro k q hq
    match k, hq with
    | 0, hq => cases hq; exact hKn0
    | 1, hq => cases hq; exact hKn1
    | 2, hq => cases hq; exact hKn2
    | 3, hq => cases hq; exact hKn3
    | 4, hq => cases hq; exact hKn4
    | k + 5, hq => simp [vwCl] at hq
  obtain ⟨aI, rI, nI'⟩ := arr_of (hts (.arrayClass .int) (by decide +kernel))
  obtain ⟨aZ, rZ, nZ⟩ := arr_of (hts (.arrayClass .boolean) (by decide +kernel))
  have hao := hts (.arrayOver (.object RX0)) (by decide +kernel)
  obtain ⟨aO, rO, nO⟩ := arrO_of hao
  refine ⟨((dC, dI), aI, aZ, aO, aI), ⟨hKc, fun k q hq => ?_⟩, fun q hq => ?_, va_AO.of hao⟩
  · match k, hq with
    | 0, hq => cases hq; exact ⟨rI, nI'⟩
    | 1, hq => cases hq; exact ⟨rZ, nZ⟩
    | 2, hq => cases hq; exact ⟨rO, nO⟩
    | k + 3, hq => simp at hq
  · rcases List.mem_cons.mp hq with rfl | hq
    · exact va_Nw.of rfl (hts (.methodLinkNest RX4 11 yX0_init RX4) (by decide +kernel))
    rcases List.mem_cons.mp hq with rfl | hq
    · exact va_Nw.of rfl (hts (.methodLinkNest RX4 36 yX1_init RX4) (by decide +kernel))
    rcases List.mem_cons.mp hq with rfl | hq
    · exact va_Nw.of rfl (hts (.methodLinkNest RX0 151 yX4_placeOf RX4) (by decide +kernel))
    rcases List.mem_cons.mp hq with rfl | hq
    · exact va_Nw.of rfl (hts (.methodLinkNest RX0 47 yX3_init RX4) (by decide +kernel))
    rcases List.mem_cons.mp hq with rfl | hq
    · exact va_Nw.of rfl (hts (.methodLinkNest RX2 17 yX0_init RX4) (by decide +kernel))
    · cases hq
theorem start_X {args : Array Value} {s : State} (hts : ∀ w ∈ lw_tbl, w.before args s = true) (hgv : (Jvm.Cond.and given_1 narrow_1).before args s = true) : ∃ tl tg, WX tl tg (fun q => s.heap.size ≤ q) s := by
  have hs := flat_of_before _ hgv
  have hA : ∀ a : Nat, a < s.heap.size → ¬ (fun q : Nat => s.heap.size ≤ q) a := fun a h => Nat.not_le.mpr h
  obtain ⟨tl, el, hl⟩ := va_Tof (tm := .static "CorkPermits" "LEAST_VALUE" "[I") (ty := .int) (N := 3) (f := fun j => .int (leastV j)) (A := fun q => s.heap.size ≤ q) (by decide) (hs (.arrayOf (.static "CorkPermits" "LEAST_VALUE" "[I") .int) (by decide +kernel)) (va_eqt (hs (.eq (.length (.static "CorkPermits" "LEAST_VALUE" "[I")) (.int (Int32.ofNat 3))) (by decide +kernel))) (fun j hj => by
    rcases (show j = 0 ∨ j = 1 ∨ j = 2 by omega) with rfl | rfl | rfl
    · exact va_eqt (hs (.eq (.elem (.static "CorkPermits" "LEAST_VALUE" "[I") (.int (Int32.ofNat 0))) (.int (leastV 0))) (by decide +kernel))
    · exact va_eqt (hs (.eq (.elem (.static "CorkPermits" "LEAST_VALUE" "[I") (.int (Int32.ofNat 1))) (.int (leastV 1))) (by decide +kernel))
    · exact va_eqt (hs (.eq (.elem (.static "CorkPermits" "LEAST_VALUE" "[I") (.int (Int32.ofNat 2))) (.int (leastV 2))) (by decide +kernel))) hA
  obtain ⟨tg, eg, hg⟩ := va_Tof (tm := .static "CorkPermits" "GREATEST_VALUE" "[I") (ty := .int) (N := 3) (f := fun j => .int (mostV j)) (A := fun q => s.heap.size ≤ q) (by decide) (hs (.arrayOf (.static "CorkPermits" "GREATEST_VALUE" "[I") .int) (by decide +kernel)) (va_eqt (hs (.eq (.length (.static "CorkPermits" "GREATEST_VALUE" "[I")) (.int (Int32.ofNat 3))) (by decide +kernel))) (fun j hj => by
    rcases (show j = 0 ∨ j = 1 ∨ j = 2 by omega) with rfl | rfl | rfl
    · exact va_eqt (hs (.eq (.elem (.static "CorkPermits" "GREATEST_VALUE" "[I") (.int (Int32.ofNat 0))) (.int (mostV 0))) (by decide +kernel))
    · exact va_eqt (hs (.eq (.elem (.static "CorkPermits" "GREATEST_VALUE" "[I") (.int (Int32.ofNat 1))) (.int (mostV 1))) (by decide +kernel))
    · exact va_eqt (hs (.eq (.elem (.static "CorkPermits" "GREATEST_VALUE" "[I") (.int (Int32.ofNat 2))) (.int (mostV 2))) (by decide +kernel))) hA
  have hi4 := hts (.initialized "CorkPermits") (by decide +kernel)
  have hiT := hts (.initialized "java/lang/Throwable") (by decide +kernel)
  refine ⟨tl, tg, ⟨?_, ?_, fun E hE => ?_, fun Y hY => ?_⟩, ⟨?_, ?_, hl, hg⟩, fun pr hp => ?_⟩
  · exact vx_Zqof (hts (.laysStatic "java/lang/Throwable" "UNASSIGNED_STACK" "[Ljava/lang/StackTraceElement;") (by decide +kernel)) hiT (hs (.isRef (.static "java/lang/Throwable" "UNASSIGNED_STACK" "[Ljava/lang/StackTraceElement;")) (by decide +kernel)) hA
  · exact vx_Zqof (hts (.laysStatic "java/lang/Throwable" "SUPPRESSED_SENTINEL" "Ljava/util/List;") (by decide +kernel)) hiT (hs (.isRef (.static "java/lang/Throwable" "SUPPRESSED_SENTINEL" "Ljava/util/List;")) (by decide +kernel)) hA
  · rcases List.mem_cons.mp hE with rfl | hE
    · exact va_Nw.of rfl (hts (.castable "java/lang/IllegalStateException" "java/lang/IllegalStateException") (by decide +kernel))
    rcases List.mem_cons.mp hE with rfl | hE
    · exact va_Nw.of rfl (hts (.castable "java/lang/IllegalArgumentException" "java/lang/IllegalArgumentException") (by decide +kernel))
    rcases List.mem_cons.mp hE with rfl | hE
    · exact va_Nw.of rfl (hts (.castable "java/lang/IndexOutOfBoundsException" "java/lang/IndexOutOfBoundsException") (by decide +kernel))
    · cases hE
  · rcases List.mem_cons.mp hY with rfl | hY
    · exact va_Nw.of rfl (hts (.declares (Bundle.init0 "java/lang/RuntimeException")) (by decide +kernel))
    rcases List.mem_cons.mp hY with rfl | hY
    · exact va_Nw.of rfl (hts (.declares (Bundle.init0 "java/lang/Exception")) (by decide +kernel))
    rcases List.mem_cons.mp hY with rfl | hY
    · exact va_Nw.of rfl (hts (.declares (Bundle.init0 Bundle.tN)) (by decide +kernel))
    · cases hY
  · exact va_Zof (hts (.laysStatic "CorkPermits" "LEAST_VALUE" "[I") (by decide +kernel)) hi4 el hA
  · exact va_Zof (hts (.laysStatic "CorkPermits" "GREATEST_VALUE" "[I") (by decide +kernel)) hi4 eg hA
  · rcases List.mem_cons.mp hp with rfl | hp
    · exact va_Nc.of (hs (.not (.castable "java/lang/IllegalArgumentException" "java/lang/IndexOutOfBoundsException")) (by decide +kernel))
    rcases List.mem_cons.mp hp with rfl | hp
    · exact va_Nc.of (hs (.not (.castable "java/lang/IllegalStateException" "java/lang/IndexOutOfBoundsException")) (by decide +kernel))
    rcases List.mem_cons.mp hp with rfl | hp
    · exact va_Nc.of (hs (.not (.castable "java/lang/IllegalStateException" "java/lang/IllegalArgumentException")) (by decide +kernel))
    · cases hp
set_option maxHeartbeats 4000000 in
set_option maxRecDepth 100000 in
theorem law_start {K : KT} {l : Launch} {G : JC} {tl tg t Ln : Nat} {xs : Nat → Int32} (C0 : Cx G K l cL_law 13 RL wsL_law room_1) (hX : FnlV G tl tg t Ln xs) (hLn : Ln < 2 ^ 31) (hst : l.stackTraces = false) (hE : ∀ (bs : List va_W) (lv : List (Nat × Value)) (c s : Nat), c ≤ 690000 → s ≤ 6900000 → J G bs lv c s 404 [.int (nI 1)]) : J G [] [(0, .ref t)] 0 0 0 [] := by
  have a1 : Cond.classLink RL 10 RX4 ∈ wsL_law := by decide +kernel
  have a2 : Cond.instantiable RX4 6 ∈ wsL_law := by decide +kernel
  have a3 : Cond.initialized RX4 ∈ wsL_law := by decide +kernel
  have a4 : Cond.methodLink RL 149 yX4_init ∈ wsL_law := by decide +kernel
  have a5 : Cond.instanceMethod yX4_init ∈ wsL_law := by decide +kernel
  have hY := iy_0
  have hSh := hY.sh
  refine J_new C0 inlX4 _ tyX4_ok a1 a2 a3 [.null, .null, .null, .null, .null, .null] (fun j hj => by rcases (show j = 0 ∨ j = 1 ∨ j = 2 ∨ j = 3 ∨ j = 4 ∨ j = 5 by omega) with rfl | rfl | rfl | rfl | rfl | rfl <;> rfl) dL_law_0 (ci := 4) (kk := fun q0 => ?_)
  show J G [[(q0, .inr (4, [.null, .null, .null, .null, .null, .null]))]] _ _ _ _ _
  refine J_dup C0 dL_law_3 (kk := ?_)
  refine J_callI C0 (ret := none) (rest := [.ref q0]) (wr := []) (mX4_init l K q0) rfl gL_law_X4_init a3 a4 a5 dL_law_4 0 (kk := fun rv w1 h1 => ?_)
  obtain ⟨rfl, b, nA, aA, d, e, rfl, rfl⟩ := h1
  show J G (corkW K b nA aA d e cel0 cel0 (fun _ => cel0) (fun _ => cel0) (fun _ _ => 0)) _ _ _ _ [.ref (b 0)]
  refine J_widen C0 (c2 := 200) (s2 := 3000) (by decide) (by decide) ?_
  refine J_asn C0 [(1, .ref (b 0)), (0, .ref t)] dL_law_7 (kk := ?_)
  refine J_aln C0 0 dL_law_8 (kk := ?_)
  refine J_callWPd C0 hX.x (k_holds l K b nA aA d e cel0 cel0 (fun _ => cel0) (fun _ => cel0) (fun _ _ => 0) tl tg hY (by decide)) gL_law_L_holds dL_law_9 1 (kk := ?_)
  show J G _ _ _ _ _ [.int (nI 1)]
  refine J_ifeq C0 54 dL_law_12 (kt := fun c => absurd c (by decide)) (kf := fun _ => ?_)
  refine J_aln C0 0 dL_law_15 (kk := ?_)
  refine J_ic C0 0 dL_law_16 (kk := ?_)
  refine J_callWP C0 hX.x (mL_would l hst K b nA aA d e cel0 cel0 (fun _ => cel0) (fun _ => cel0) (fun _ _ => 0) tl tg hY (by decide) (nI 0)) [] gL_law_L_would dL_law_17 2 (kk := fun rv w1 h1 => ?_)
  obtain ⟨rfl, Gw, rfl⟩ := h1
  show J G (corkW K b nA aA d e cel0 Gw (fun _ => cel0) (fun _ => cel0) (fun _ _ => 0)) _ _ _ _ [.int (nI 1)]
  refine J_ifeq C0 54 dL_law_20 (kt := fun c => absurd c (by decide)) (kf := fun _ => ?_)
  refine J_aln C0 0 dL_law_23 (kk := ?_)
  refine J_callWHd C0 hX.x (k_undo_t l K b nA aA d e cel0 Gw (fun _ => cel0) (fun _ => cel0) (fun _ _ => 0) tl tg hst (by decide)) gL_law_L_undo dL_law_24 1 (kk := ?_)
  show J G _ _ _ _ _ [.int (-103)]
  refine J_biv C0 (-103) dL_law_27 (kk := ?_)
  refine J_icmpne C0 54 dL_law_29 (kt := fun c => absurd (show ((-103) : Int32) = -103 from rfl) c) (kf := fun _ => ?_)
  refine J_aln C0 0 dL_law_32 (kk := ?_)
  refine J_ic C0 1 dL_law_33 (kk := ?_)
  refine J_callWHd C0 hX.x (k_goBack_s l K b nA aA d e cel0 Gw (fun _ => cel0) (fun _ => cel0) (fun _ _ => 0) tl tg hst rfl) gL_law_L_goBack dL_law_34 2 (kk := ?_)
  show J G _ _ _ _ _ [.int (-103)]
  refine J_biv C0 (-103) dL_law_37 (kk := ?_)
  refine J_icmpne C0 54 dL_law_39 (kt := fun c => absurd (show ((-103) : Int32) = -103 from rfl) c) (kf := fun _ => ?_)
  refine J_aln C0 0 dL_law_42 (kk := ?_)
  refine J_ic C0 0 dL_law_43 (kk := ?_)
  refine J_callWHd C0 hX.x (k_keep l K b nA aA d e cel0 Gw (fun _ => cel0) (fun _ => cel0) (fun _ _ => 0) tl tg) gL_law_L_keep dL_law_44 2 (kk := ?_)
  show J G _ _ _ _ _ [.int (cel0 0 0)]
  refine J_ifne C0 54 dL_law_47 (kt := fun c => absurd (show cel0 0 0 = 0 from by decide) c) (kf := fun _ => ?_)
  refine J_ic C0 1 dL_law_50 (kk := ?_)
  refine J_goto C0 55 dL_law_51 (kk := ?_)
  refine J_isn C0 [(2, .int (nI 1)), (1, .ref (b 0)), (0, .ref t)] dL_law_55 (kk := ?_)
  refine J_aln C0 1 dL_law_56 (kk := ?_)
  refine J_callWPd C0 hX.x (k_look l K b nA aA d e cel0 Gw (va_up (fun _ => cel0) 0 cel0) (fun _ => cel0) (u2 (fun _ _ => 0) 1 0 (nI 1)) tl tg hSh) gL_law_L_look dL_law_57 1 (kk := ?_)
  show J G _ _ _ _ _ [.long (lookO cel0)]
  refine J_lsn C0 [(3, .long (lookO cel0)), (2, .int (nI 1)), (1, .ref (b 0)), (0, .ref t)] dL_law_60 (kk := ?_)
  refine J_ic C0 0 dL_law_61 (kk := ?_)
  refine J_is C0 [(5, .int (nI 0)), (3, .long (lookO cel0)), (2, .int (nI 1)), (1, .ref (b 0)), (0, .ref t)] dL_law_62 (kk := ?_)
  refine J_lv [0, 2, 1, 3, 4] (lv2 := [(5, .int (nI 0)), (2, .int (nI 1)), (3, .long (lookO (va_up (fun _ => cel0) 0 cel0 0))), (1, .ref (b 0)), (0, .ref t)]) (by rw [up_s]; rfl) ?_
  exact law_loop C0 hX hLn hst hE 44 0 rfl 0 0 _ _ _ _ _ _ _ _ (by decide) (by decide) sr_0
