abbrev rmX4_mixForecasts : Room := { frames := 6, cells := 0, slots := 0, locals := 140 }
def foreL (F : FF) (hn : Nat) (h : Int64) : Int64 := mixL (mixL (mixL (mixF (foreC F (ticksC 12 F)) 4 0 h) (stillR 201 0 F).1.toInt64) (sumS (F 10) 12 - sumS (F 8) 12).toInt64) (neC F hn 0 (-1) (nI 0)).toInt64
set_option maxHeartbeats 4000000 in
set_option maxRecDepth 100000 in
theorem mX4_mixForecasts (l : Launch) (K : KT) (b nA aA : Nat → Nat) (d e : Nat → Nat → Nat) (F Ga : FF) (D S : Nat → FF) (T : FF) (hSh : Sh F) {hn : Nat} (eh : F 0 1 = nI hn) (h4 : hn ≤ 4) (h0 : Int64) : Ct l K yX4_mixForecasts wsX4_mixForecasts rmX4_mixForecasts [.ref (b 0), .long h0] (corkW K b nA aA d e F Ga D S T) (some (.long (foreL F hn h0))) (corkW K b nA aA d e F (stillR 201 0 F).2 D S T) := by
  refine CtP_of (cc := cX4_mixForecasts) (nL := 6) (rt := some .long) (own := RX4) (lv0 := [(0, .ref (b 0)), (1, .long h0)]) (by decide) rfl (Nat.le_of_ble_eq_true rfl) rfl rfl ?_
  intro G C0 hF _
  have l1 : ∀ (q w : Nat) (h : Int64) , w + q = 4 → J G (corkW K b nA aA d e F (ticksC 12 F) D S T) [(5, .int (nI 4)), (3, .long (mixF (foreC F (ticksC 12 F)) q w h)), (1, .long h0), (0, .ref (b 0))] 0 0 35 [] → J G (corkW K b nA aA d e F (ticksC 12 F) D S T) [(5, .int (nI w)), (3, .long h), (1, .long h0), (0, .ref (b 0))] 0 0 11 [] := by
    intro q
    induction q with
    | zero =>
      intro w h hq hk
      have hw : w = 4 := by omega
      subst hw
      refine J_il C0 0 dX4_mixForecasts_11 (kk := ?_)
      refine J_ic C0 4 dX4_mixForecasts_13 (kk := ?_)
      refine J_icmpgeN C0 35 (by omega) (by omega) dX4_mixForecasts_14 (kt := fun c1 => ?_) (kf := fun c1 => ?_)
      · exact J_lv [0, 1, 2, 3] rfl hk
      · exfalso; omega
    | succ q ih =>
      intro w h hq hk
      refine J_il C0 0 dX4_mixForecasts_11 (kk := ?_)
      refine J_ic C0 4 dX4_mixForecasts_13 (kk := ?_)
      refine J_icmpgeN C0 35 (by omega) (by omega) dX4_mixForecasts_14 (kt := fun c1 => ?_) (kf := fun c1 => ?_)
      · exfalso; omega
      · refine J_lln C0 1 dX4_mixForecasts_17 (kk := ?_)
        refine J_aln C0 3 dX4_mixForecasts_18 (kk := ?_)
        refine J_il C0 0 dX4_mixForecasts_19 (kk := ?_)
        refine J_callVd C0 (mX4_forecastNumber l K b nA aA d e F (ticksC 12 F) D S T (w := w) (by omega)) [] (corkW K b nA aA d e F (ticksC 12 F) D S T) gX4_mixForecasts_X4_forecastNumber dX4_mixForecasts_21 1 0 (kk := ?_)
        show J G _ _ _ _ _ [.int (foreC F (ticksC 12 F) w), .long h]
        refine J_i2l C0 dX4_mixForecasts_24 ?_
        refine J_callSd C0 (mX4_mix l K h ((foreC F (ticksC 12 F) w).toInt64)) [mainW K b (nA 0) (aA 0) (fun i => some (d i 0)) (fun i => some (e i 0)) T, celW K nA F, celW K aA (ticksC 12 F), celW K (d 0) (D 0), celW K (d 1) (D 1), celW K (e 0) (S 0), celW K (e 1) (S 1), celW K (e 2) (S 2), celW K (e 3) (S 3), celW K (e 4) (S 4), celW K (e 5) (S 5)] (corkW K b nA aA d e F (ticksC 12 F) D S T) gX4_mixForecasts_X4_mix dX4_mixForecasts_25 2 (kk := ?_)
        show J G _ _ _ _ _ [.long (mixL h ((foreC F (ticksC 12 F) w).toInt64))]
        refine J_lsn C0 [(3, .long (mixL h ((foreC F (ticksC 12 F) w).toInt64))), (5, .int (nI w)), (1, .long h0), (0, .ref (b 0))] dX4_mixForecasts_28 (kk := ?_)
        refine J_iincN C0 1 [(5, .int (nI (w + 1))), (3, .long (mixL h ((foreC F (ticksC 12 F) w).toInt64))), (1, .long h0), (0, .ref (b 0))] dX4_mixForecasts_29 (kk := ?_)
        refine J_goto C0 11 dX4_mixForecasts_32 (kk := ?_)
        exact J_lv [0, 1, 2, 3] rfl (ih (w + 1) (mixL h ((foreC F (ticksC 12 F) w).toInt64)) (by omega) hk)
  refine J_lln C0 1 dX4_mixForecasts_0 (kk := ?_)
  refine J_lsn C0 [(3, .long h0), (0, .ref (b 0)), (1, .long h0)] dX4_mixForecasts_1 (kk := ?_)
  refine J_aln C0 1 dX4_mixForecasts_2 (kk := ?_)
  refine J_bi C0 12 dX4_mixForecasts_3 (kk := ?_)
  refine J_callVd C0 (mX4_lookAhead l K b nA aA d e F Ga D S T hSh (t := 12) (by omega)) [] (corkW K b nA aA d e F (ticksC 12 F) D S T) gX4_mixForecasts_X4_lookAhead dX4_mixForecasts_5 1 0 (kk := ?_)
  show J G _ _ _ _ _ []
  refine J_ic C0 0 dX4_mixForecasts_8 (kk := ?_)
  refine J_is C0 [(5, .int (nI 0)), (3, .long h0), (0, .ref (b 0)), (1, .long h0)] dX4_mixForecasts_9 (kk := ?_)
  refine J_lv [0, 1, 3, 2] rfl (l1 4 0 h0 rfl ?_)
  refine J_lln C0 1 dX4_mixForecasts_35 (kk := ?_)
  refine J_aln C0 3 dX4_mixForecasts_36 (kk := ?_)
  refine J_callVd C0 (mX4_stillIn l K b nA aA d e F (ticksC 12 F) D S T hSh) [] (corkW K b nA aA d e F ((stillR 201 0 F).2) D S T) gX4_mixForecasts_X4_stillIn dX4_mixForecasts_37 0 0 (kk := ?_)
  show J G _ _ _ _ _ [.int ((stillR 201 0 F).1), .long (mixF (foreC F (ticksC 12 F)) 4 0 h0)]
  refine J_i2l C0 dX4_mixForecasts_40 ?_
  refine J_callSd C0 (mX4_mix l K (mixF (foreC F (ticksC 12 F)) 4 0 h0) (((stillR 201 0 F).1).toInt64)) [mainW K b (nA 0) (aA 0) (fun i => some (d i 0)) (fun i => some (e i 0)) T, celW K nA F, celW K aA ((stillR 201 0 F).2), celW K (d 0) (D 0), celW K (d 1) (D 1), celW K (e 0) (S 0), celW K (e 1) (S 1), celW K (e 2) (S 2), celW K (e 3) (S 3), celW K (e 4) (S 4), celW K (e 5) (S 5)] (corkW K b nA aA d e F ((stillR 201 0 F).2) D S T) gX4_mixForecasts_X4_mix dX4_mixForecasts_41 2 (kk := ?_)
  show J G _ _ _ _ _ [.long (mixL (mixF (foreC F (ticksC 12 F)) 4 0 h0) (((stillR 201 0 F).1).toInt64))]
  refine J_lsn C0 [(3, .long (mixL (mixF (foreC F (ticksC 12 F)) 4 0 h0) (((stillR 201 0 F).1).toInt64))), (5, .int (nI 4)), (1, .long h0), (0, .ref (b 0))] dX4_mixForecasts_44 (kk := ?_)
  refine J_lln C0 0 dX4_mixForecasts_45 (kk := ?_)
  refine J_aln C0 3 dX4_mixForecasts_46 (kk := ?_)
  refine J_callVd C0 (mX4_hidden l K b nA aA d e F ((stillR 201 0 F).2) D S T) [] (corkW K b nA aA d e F ((stillR 201 0 F).2) D S T) gX4_mixForecasts_X4_hidden dX4_mixForecasts_47 0 0 (kk := ?_)
  show J G _ _ _ _ _ [.int (sumS (F 10) 12 - sumS (F 8) 12), .long (mixL (mixF (foreC F (ticksC 12 F)) 4 0 h0) (((stillR 201 0 F).1).toInt64))]
  refine J_i2l C0 dX4_mixForecasts_50 ?_
  refine J_callSd C0 (mX4_mix l K (mixL (mixF (foreC F (ticksC 12 F)) 4 0 h0) (((stillR 201 0 F).1).toInt64)) ((sumS (F 10) 12 - sumS (F 8) 12).toInt64)) [mainW K b (nA 0) (aA 0) (fun i => some (d i 0)) (fun i => some (e i 0)) T, celW K nA F, celW K aA ((stillR 201 0 F).2), celW K (d 0) (D 0), celW K (d 1) (D 1), celW K (e 0) (S 0), celW K (e 1) (S 1), celW K (e 2) (S 2), celW K (e 3) (S 3), celW K (e 4) (S 4), celW K (e 5) (S 5)] (corkW K b nA aA d e F ((stillR 201 0 F).2) D S T) gX4_mixForecasts_X4_mix dX4_mixForecasts_51 2 (kk := ?_)
  show J G _ _ _ _ _ [.long (mixL (mixL (mixF (foreC F (ticksC 12 F)) 4 0 h0) (((stillR 201 0 F).1).toInt64)) ((sumS (F 10) 12 - sumS (F 8) 12).toInt64))]
  refine J_lsn C0 [(3, .long (mixL (mixL (mixF (foreC F (ticksC 12 F)) 4 0 h0) (((stillR 201 0 F).1).toInt64)) ((sumS (F 10) 12 - sumS (F 8) 12).toInt64))), (5, .int (nI 4)), (1, .long h0), (0, .ref (b 0))] dX4_mixForecasts_54 (kk := ?_)
  refine J_lln C0 0 dX4_mixForecasts_55 (kk := ?_)
  refine J_aln C0 3 dX4_mixForecasts_56 (kk := ?_)
  refine J_callVd C0 (mX4_neediest l K b nA aA d e F ((stillR 201 0 F).2) D S T (hn := hn) eh h4) [] (corkW K b nA aA d e F ((stillR 201 0 F).2) D S T) gX4_mixForecasts_X4_neediest dX4_mixForecasts_57 0 0 (kk := ?_)
  show J G _ _ _ _ _ [.int (neC F hn 0 (-1) (nI 0)), .long (mixL (mixL (mixF (foreC F (ticksC 12 F)) 4 0 h0) (((stillR 201 0 F).1).toInt64)) ((sumS (F 10) 12 - sumS (F 8) 12).toInt64))]
  refine J_i2l C0 dX4_mixForecasts_60 ?_
  refine J_callSd C0 (mX4_mix l K (mixL (mixL (mixF (foreC F (ticksC 12 F)) 4 0 h0) (((stillR 201 0 F).1).toInt64)) ((sumS (F 10) 12 - sumS (F 8) 12).toInt64)) ((neC F hn 0 (-1) (nI 0)).toInt64)) [mainW K b (nA 0) (aA 0) (fun i => some (d i 0)) (fun i => some (e i 0)) T, celW K nA F, celW K aA ((stillR 201 0 F).2), celW K (d 0) (D 0), celW K (d 1) (D 1), celW K (e 0) (S 0), celW K (e 1) (S 1), celW K (e 2) (S 2), celW K (e 3) (S 3), celW K (e 4) (S 4), celW K (e 5) (S 5)] (corkW K b nA aA d e F ((stillR 201 0 F).2) D S T) gX4_mixForecasts_X4_mix dX4_mixForecasts_61 2 (kk := ?_)
  show J G _ _ _ _ _ [.long (mixL (mixL (mixL (mixF (foreC F (ticksC 12 F)) 4 0 h0) (((stillR 201 0 F).1).toInt64)) ((sumS (F 10) 12 - sumS (F 8) 12).toInt64)) ((neC F hn 0 (-1) (nI 0)).toInt64))]
  exact J_lret C0 hF dX4_mixForecasts_64 ⟨rfl, rfl⟩

