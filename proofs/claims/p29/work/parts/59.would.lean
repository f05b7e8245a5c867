/-! would(): what ticks would bring, when all is still -/
abbrev rmL_would : Room := { frames := 10, cells := 1, slots := 6, locals := 300 }
def WouldP (K : KT) (b nA aA : Nat → Nat) (d e : Nat → Nat → Nat) (F : FF) (D S : Nat → FF) (T : FF) (r : Option Value) (w : List va_W) : Prop := r = some (.int (nI 1)) ∧ ∃ Ga, w = corkW K b nA aA d e F Ga D S T
set_option maxHeartbeats 4000000 in
set_option maxRecDepth 100000 in
theorem mL_would (l : Launch) (hst : l.stackTraces = false) (K : KT) (b nA aA : Nat → Nat) (d e : Nat → Nat → Nat) (F Ga : FF) (D S : Nat → FF) (T : FF) (tl tg : Nat) {i : Nat} (hY : IY i F) (hi : i ≤ 50) (x : Int32) : CtWP l K yL_would wsL_would rmL_would [.ref (b 0), .int x] (corkW K b nA aA d e F Ga D S T) (WouldP K b nA aA d e F D S T) tl tg := by
  refine CtWP_of (cc := cL_would) (nL := 7) (rt := some .boolean) (own := RL) (lv0 := [(0, .ref (b 0)), (1, .int x)]) (by decide) rfl (Nat.le_of_ble_eq_true rfl) rfl rfl ?_
  intro G C0 hF hX
  have hSh := hY.sh
  have t72 : ∀ (Gw : FF) (bd v m : Nat) (td : Int32), J G (corkW K b nA aA d e F Gw D S T) [(6, .int (nI bd)), (5, .int ((stillR 201 0 F).1)), (4, .int td), (3, .int (nI v)), (2, .int (nI m)), (0, .ref (b 0)), (1, .int x)] 1 6 72 [] := by
    intro Gw bd v m td
    refine J_il C0 1 dL_would_72 (kk := ?_)
    refine J_icm1 C0 dL_would_74 (kk := ?_)
    refine J_icmplt C0 116 dL_would_75 (kt := fun c => absurd c ((still_rng F).1)) (kf := fun _ => ?_)
    refine J_il C0 1 dL_would_78 (kk := ?_)
    refine J_si C0 200 dL_would_80 (kk := ?_)
    refine J_icmpgt C0 116 dL_would_83 (kt := fun c => absurd c ((still_rng F).2)) (kf := fun _ => ?_)
    refine J_il C0 1 dL_would_86 (kk := ?_)
    by_cases hz : F 0 4 = 0
    · refine J_ifne C0 95 dL_would_88 (kt := fun c => absurd ((still_0 F).mpr hz) c) (kf := fun _ => ?_)
      refine J_ic C0 1 dL_would_91 (kk := ?_)
      refine J_goto C0 96 dL_would_92 (kk := ?_)
      refine J_aln C0 5 dL_would_96 (kk := ?_)
      refine J_ic C0 2 dL_would_97 (kk := ?_)
      refine J_callVz C0 (mX4_count l K b nA aA d e F Gw D S T (w := 2) (by decide)) gL_would_X4_count dL_would_98 1 (kk := ?_)
      show J G _ _ _ _ _ [.int (F 0 4), .int (nI 1)]
      refine J_ifne C0 108 dL_would_101 (kt := fun c => absurd hz c) (kf := fun _ => ?_)
      refine J_ic C0 1 dL_would_104 (kk := ?_)
      refine J_goto C0 109 dL_would_105 (kk := ?_)
      refine J_icmpne C0 116 dL_would_109 (kt := fun c => absurd (by decide) c) (kf := fun _ => ?_)
      refine J_ic C0 1 dL_would_112 (kk := ?_)
      refine J_goto C0 117 dL_would_113 (kk := ?_)
      exact J_zret C0 hF dL_would_117 (by decide) ⟨rfl, Gw, rfl⟩
    · refine J_ifne C0 95 dL_would_88 (kt := fun _ => ?_) (kf := fun c => absurd c (fun q => hz ((still_0 F).mp q)))
      refine J_ic C0 0 dL_would_95 (kk := ?_)
      refine J_aln C0 5 dL_would_96 (kk := ?_)
      refine J_ic C0 2 dL_would_97 (kk := ?_)
      refine J_callVz C0 (mX4_count l K b nA aA d e F Gw D S T (w := 2) (by decide)) gL_would_X4_count dL_would_98 1 (kk := ?_)
      show J G _ _ _ _ _ [.int (F 0 4), .int (nI 0)]
      refine J_ifne C0 108 dL_would_101 (kt := fun _ => ?_) (kf := fun c => absurd c hz)
      refine J_ic C0 0 dL_would_108 (kk := ?_)
      refine J_icmpne C0 116 dL_would_109 (kt := fun c => absurd (by decide) c) (kf := fun _ => ?_)
      refine J_ic C0 1 dL_would_112 (kk := ?_)
      refine J_goto C0 117 dL_would_113 (kk := ?_)
      exact J_zret C0 hF dL_would_117 (by decide) ⟨rfl, Gw, rfl⟩
  refine J_iln C0 1 dL_would_0 (kk := ?_)
  refine J_bi C0 62 dL_would_1 (kk := ?_)
  refine J_callSd C0 (mL_low l K x (k := 62) (by omega) (by omega)) (corkW K b nA aA d e F Ga D S T) (corkW K b nA aA d e F Ga D S T) gL_would_L_low dL_would_3 2 (hbs := (List.append_nil _).symm) (hb1 := List.append_nil _) (kk := ?_)
  show J G _ _ _ _ _ [.int (nI (lowS x 62))]
  refine J_isn C0 [(2, .int (nI (lowS x 62))), (0, .ref (b 0)), (1, .int x)] dL_would_6 (kk := ?_)
  refine J_iln C0 2 dL_would_7 (kk := ?_)
  refine J_bi C0 6 dL_would_8 (kk := ?_)
  refine J_ishr C0 dL_would_10 (kk := ?_)
  refine J_ic C0 5 dL_would_11 (kk := ?_)
  refine J_callSd C0 (mL_low l K (x >>> (nI 6 &&& 31)) (k := 5) (by omega) (by omega)) (corkW K b nA aA d e F Ga D S T) (corkW K b nA aA d e F Ga D S T) gL_would_L_low dL_would_12 2 (hbs := (List.append_nil _).symm) (hb1 := List.append_nil _) (kk := ?_)
  show J G _ _ _ _ _ [.int (nI (lowS (x >>> (nI 6 &&& 31)) 5))]
  refine J_isn C0 [(3, .int (nI (lowS (x >>> (nI 6 &&& 31)) 5))), (2, .int (nI (lowS x 62))), (0, .ref (b 0)), (1, .int x)] dL_would_15 (kk := ?_)
  have hm := lowS_lt x (k := 62) (by decide)
  have hv := lowS_lt (x >>> (nI 6 &&& 31)) (k := 5) (by decide)
  generalize lowS x 62 = m at hm ⊢
  generalize lowS (x >>> (nI 6 &&& 31)) 5 = v at hv ⊢
  rcases (show m = 0 ∨ m = 61 ∨ (1 ≤ m ∧ m ≤ 60 ∧ v = 4) ∨ (1 ≤ m ∧ m ≤ 60 ∧ v < 4) by omega) with rfl | rfl | ⟨m1, m60, rfl⟩ | ⟨m1, m60, v4⟩
  · refine J_aln C0 2 dL_would_16 (kk := ?_)
    refine J_iln C0 1 dL_would_17 (kk := ?_)
    refine J_iln C0 0 dL_would_18 (kk := ?_)
    refine J_callWHd C0 hX (k_ifPassed_t l K b nA aA d e F Ga D S T tl tg hst (t := 0) (by decide) (by decide) (nI v)) gL_would_L_ifPassed dL_would_19 3 (kk := ?_)
    show J G _ _ _ _ _ [.int (-102)]
    refine J_is C0 [(4, .int (-102)), (3, .int (nI v)), (2, .int (nI 0)), (0, .ref (b 0)), (1, .int x)] dL_would_22 (kk := ?_)
    refine J_aln C0 3 dL_would_24 (kk := ?_)
    refine J_callVz C0 (mX4_stillIn l K b nA aA d e F Ga D S T hSh) gL_would_X4_stillIn dL_would_25 0 (kk := ?_)
    show J G _ _ _ _ _ [.int ((stillR 201 0 F).1)]
    refine J_is C0 [(5, .int ((stillR 201 0 F).1)), (4, .int (-102)), (3, .int (nI v)), (2, .int (nI 0)), (0, .ref (b 0)), (1, .int x)] dL_would_28 (kk := ?_)
    refine J_iln C0 3 dL_would_30 (kk := ?_)
    refine J_ifeq C0 45 dL_would_31 (kt := fun _ => ?_) (kf := fun c => absurd (by decide) c)
    refine J_ic C0 1 dL_would_45 (kk := ?_)
    refine J_goto C0 50 dL_would_46 (kk := ?_)
    refine J_is C0 [(6, .int (nI 1)), (5, .int ((stillR 201 0 F).1)), (4, .int (-102)), (3, .int (nI v)), (2, .int (nI 0)), (0, .ref (b 0)), (1, .int x)] dL_would_50 (kk := ?_)
    refine J_il C0 0 dL_would_52 (kk := ?_)
    refine J_ifeq C0 67 dL_would_54 (kt := fun c => absurd c (by decide)) (kf := fun _ => ?_)
    refine J_il C0 2 dL_would_57 (kk := ?_)
    refine J_biv C0 (-102) dL_would_59 (kk := ?_)
    refine J_icmpne C0 116 dL_would_61 (kt := fun c => absurd (show (-102 : Int32) = -102 from rfl) c) (kf := fun _ => ?_)
    refine J_goto C0 72 dL_would_64 (kk := ?_)
    exact t72 _ _ _ _ _
  · refine J_aln C0 2 dL_would_16 (kk := ?_)
    refine J_iln C0 1 dL_would_17 (kk := ?_)
    refine J_iln C0 0 dL_would_18 (kk := ?_)
    refine J_callWHd C0 hX (k_ifPassed_t l K b nA aA d e F Ga D S T tl tg hst (t := 61) (by decide) (by decide) (nI v)) gL_would_L_ifPassed dL_would_19 3 (kk := ?_)
    show J G _ _ _ _ _ [.int (-102)]
    refine J_is C0 [(4, .int (-102)), (3, .int (nI v)), (2, .int (nI 61)), (0, .ref (b 0)), (1, .int x)] dL_would_22 (kk := ?_)
    refine J_aln C0 3 dL_would_24 (kk := ?_)
    refine J_callVz C0 (mX4_stillIn l K b nA aA d e F Ga D S T hSh) gL_would_X4_stillIn dL_would_25 0 (kk := ?_)
    show J G _ _ _ _ _ [.int ((stillR 201 0 F).1)]
    refine J_is C0 [(5, .int ((stillR 201 0 F).1)), (4, .int (-102)), (3, .int (nI v)), (2, .int (nI 61)), (0, .ref (b 0)), (1, .int x)] dL_would_28 (kk := ?_)
    refine J_iln C0 3 dL_would_30 (kk := ?_)
    refine J_ifeq C0 45 dL_would_31 (kt := fun c => absurd c (by decide)) (kf := fun _ => ?_)
    refine J_iln C0 3 dL_would_34 (kk := ?_)
    refine J_bi C0 61 dL_would_35 (kk := ?_)
    refine J_icmpeq C0 45 dL_would_37 (kt := fun _ => ?_) (kf := fun c => absurd (by decide) c)
    refine J_ic C0 1 dL_would_45 (kk := ?_)
    refine J_goto C0 50 dL_would_46 (kk := ?_)
    refine J_is C0 [(6, .int (nI 1)), (5, .int ((stillR 201 0 F).1)), (4, .int (-102)), (3, .int (nI v)), (2, .int (nI 61)), (0, .ref (b 0)), (1, .int x)] dL_would_50 (kk := ?_)
    refine J_il C0 0 dL_would_52 (kk := ?_)
    refine J_ifeq C0 67 dL_would_54 (kt := fun c => absurd c (by decide)) (kf := fun _ => ?_)
    refine J_il C0 2 dL_would_57 (kk := ?_)
    refine J_biv C0 (-102) dL_would_59 (kk := ?_)
    refine J_icmpne C0 116 dL_would_61 (kt := fun c => absurd (show (-102 : Int32) = -102 from rfl) c) (kf := fun _ => ?_)
    refine J_goto C0 72 dL_would_64 (kk := ?_)
    exact t72 _ _ _ _ _
  · refine J_aln C0 2 dL_would_16 (kk := ?_)
    refine J_iln C0 1 dL_would_17 (kk := ?_)
    refine J_iln C0 0 dL_would_18 (kk := ?_)
    refine J_callWHd C0 hX (k_ifPassed_w l K b nA aA d e F Ga D S T tl tg hst (t := m) m1 m60) gL_would_L_ifPassed dL_would_19 3 (kk := ?_)
    show J G _ _ _ _ _ [.int (-102)]
    refine J_is C0 [(4, .int (-102)), (3, .int (nI 4)), (2, .int (nI m)), (0, .ref (b 0)), (1, .int x)] dL_would_22 (kk := ?_)
    refine J_aln C0 3 dL_would_24 (kk := ?_)
    refine J_callVz C0 (mX4_stillIn l K b nA aA d e F Ga D S T hSh) gL_would_X4_stillIn dL_would_25 0 (kk := ?_)
    show J G _ _ _ _ _ [.int ((stillR 201 0 F).1)]
    refine J_is C0 [(5, .int ((stillR 201 0 F).1)), (4, .int (-102)), (3, .int (nI 4)), (2, .int (nI m)), (0, .ref (b 0)), (1, .int x)] dL_would_28 (kk := ?_)
    refine J_iln C0 3 dL_would_30 (kk := ?_)
    refine J_ifeq C0 45 dL_would_31 (kt := fun c => absurd c (nI_ne0 (n := m) (by omega) (by omega))) (kf := fun _ => ?_)
    refine J_iln C0 3 dL_would_34 (kk := ?_)
    refine J_bi C0 61 dL_would_35 (kk := ?_)
    refine J_icmpeqN C0 45 (by omega) (by omega) dL_would_37 (kt := fun c => False.elim (by omega)) (kf := fun _ => ?_)
    refine J_iln C0 2 dL_would_40 (kk := ?_)
    refine J_ic C0 4 dL_would_41 (kk := ?_)
    refine J_icmpne C0 49 dL_would_42 (kt := fun c => absurd (by decide) c) (kf := fun _ => ?_)
    refine J_ic C0 1 dL_would_45 (kk := ?_)
    refine J_goto C0 50 dL_would_46 (kk := ?_)
    refine J_is C0 [(6, .int (nI 1)), (5, .int ((stillR 201 0 F).1)), (4, .int (-102)), (3, .int (nI 4)), (2, .int (nI m)), (0, .ref (b 0)), (1, .int x)] dL_would_50 (kk := ?_)
    refine J_il C0 0 dL_would_52 (kk := ?_)
    refine J_ifeq C0 67 dL_would_54 (kt := fun c => absurd c (by decide)) (kf := fun _ => ?_)
    refine J_il C0 2 dL_would_57 (kk := ?_)
    refine J_biv C0 (-102) dL_would_59 (kk := ?_)
    refine J_icmpne C0 116 dL_would_61 (kt := fun c => absurd (show (-102 : Int32) = -102 from rfl) c) (kf := fun _ => ?_)
    refine J_goto C0 72 dL_would_64 (kk := ?_)
    exact t72 _ _ _ _ _
  · refine J_aln C0 2 dL_would_16 (kk := ?_)
    refine J_iln C0 1 dL_would_17 (kk := ?_)
    refine J_iln C0 0 dL_would_18 (kk := ?_)
    refine J_callWHd C0 hX (k_ifPassed l K b nA aA d e F Ga D S T tl tg hSh (t := m) (w := v) m1 m60 v4) gL_would_L_ifPassed dL_would_19 3 (kk := ?_)
    show J G _ _ _ _ _ [.int (foreC F (ticksC m F) v)]
    refine J_is C0 [(4, .int (foreC F (ticksC m F) v)), (3, .int (nI v)), (2, .int (nI m)), (0, .ref (b 0)), (1, .int x)] dL_would_22 (kk := ?_)
    refine J_aln C0 3 dL_would_24 (kk := ?_)
    refine J_callVz C0 (mX4_stillIn l K b nA aA d e F (ticksC m F) D S T hSh) gL_would_X4_stillIn dL_would_25 0 (kk := ?_)
    show J G _ _ _ _ _ [.int ((stillR 201 0 F).1)]
    refine J_is C0 [(5, .int ((stillR 201 0 F).1)), (4, .int (foreC F (ticksC m F) v)), (3, .int (nI v)), (2, .int (nI m)), (0, .ref (b 0)), (1, .int x)] dL_would_28 (kk := ?_)
    refine J_iln C0 3 dL_would_30 (kk := ?_)
    refine J_ifeq C0 45 dL_would_31 (kt := fun c => absurd c (nI_ne0 (n := m) (by omega) (by omega))) (kf := fun _ => ?_)
    refine J_iln C0 3 dL_would_34 (kk := ?_)
    refine J_bi C0 61 dL_would_35 (kk := ?_)
    refine J_icmpeqN C0 45 (by omega) (by omega) dL_would_37 (kt := fun c => False.elim (by omega)) (kf := fun _ => ?_)
    refine J_iln C0 2 dL_would_40 (kk := ?_)
    refine J_ic C0 4 dL_would_41 (kk := ?_)
    refine J_icmpneN C0 49 (by omega) (by omega) dL_would_42 (kt := fun _ => ?_) (kf := fun c => False.elim (by omega))
    refine J_ic C0 0 dL_would_49 (kk := ?_)
    refine J_is C0 [(6, .int (nI 0)), (5, .int ((stillR 201 0 F).1)), (4, .int (foreC F (ticksC m F) v)), (3, .int (nI v)), (2, .int (nI m)), (0, .ref (b 0)), (1, .int x)] dL_would_50 (kk := ?_)
    refine J_il C0 0 dL_would_52 (kk := ?_)
    refine J_ifeq C0 67 dL_would_54 (kt := fun _ => ?_) (kf := fun c => absurd (by decide) c)
    refine J_il C0 2 dL_would_67 (kk := ?_)
    refine J_iflt C0 116 dL_would_69 (kt := fun c => absurd c (hY.fore hi m60 v4)) (kf := fun _ => ?_)
    exact t72 _ _ _ _ _
