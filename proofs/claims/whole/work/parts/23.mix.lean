section JM
variable {K : KT} {l : Launch} {cc : ByteArray} {nL : Nat} {own : String} {Ts : List Cond} {rm : Room} {G : JC} {bs : List va_W} {lv : List (Nat × Value)} {cells slots pc : Nat} {st : List Value}

theorem J_ldl (C0 : Cx G K l cc nL own Ts rm) {index : Nat} {v : Int64} (hcn : Cond.constantLong own index v ∈ Ts) (hdg : decode cc pc = .ok (.ldc2_w index, 3)) (kk : J G bs lv cells slots (pc + 3) (.long v :: st)) : J G bs lv cells slots (pc) (st) := by
  obtain ⟨K, A, H0, nL', p, l, e, R, s, m, args, below, meth, c, Q⟩ := G
  obtain ⟨rfl, rfl, rfl, rfl, hx, hb, hml, ho, hts, ⟨hK, hN⟩, hA⟩ := C0
  intro H locs ls hP hD hS hl
  exact lv_ldc2 hx hb ho (hts _ hcn) hdg (kk H locs ls hP hD hS hl)
theorem J_ldd (C0 : Cx G K l cc nL own Ts rm) {index : Nat} {v : UInt64} (hcn : Cond.constantDouble own index v ∈ Ts) (hdg : decode cc pc = .ok (.ldc2_w index, 3)) (kk : J G bs lv cells slots (pc + 3) (.double v :: st)) : J G bs lv cells slots (pc) (st) := by
  obtain ⟨K, A, H0, nL', p, l, e, R, s, m, args, below, meth, c, Q⟩ := G
  obtain ⟨rfl, rfl, rfl, rfl, hx, hb, hml, ho, hts, ⟨hK, hN⟩, hA⟩ := C0
  intro H locs ls hP hD hS hl
  exact lv_ldc2d hx hb ho (hts _ hcn) hdg (kk H locs ls hP hD hS hl)
theorem J_lshl (C0 : Cx G K l cc nL own Ts rm) {x v : Int64} {y : Int32} (hdg : decode cc pc = .ok (.lshl, 1)) (hv : x <<< (y.toInt64 &&& 63) = v) (kk : J G bs lv cells slots (pc + 1) (.long v :: st)) : J G bs lv cells slots (pc) (.int y :: .long x :: st) := by
  obtain ⟨K, A, H0, nL', p, l, e, R, s, m, args, below, meth, c, Q⟩ := G
  obtain ⟨rfl, rfl, rfl, rfl, hx, hb, hml, ho, hts, ⟨hK, hN⟩, hA⟩ := C0
  intro H locs ls hP hD hS hl
  exact lv_lshl hx hb hdg hv (kk H locs ls hP hD hS hl)
end JM
def mixL (h v : Int64) : Int64 := 31 * h + v
def mixF (g : Nat → Int32) : Nat → Nat → Int64 → Int64
  | 0, _, h => h
  | q + 1, i, h => mixF g q (i + 1) (mixL h (g i).toInt64)
def mix2 (g : Nat → Nat → Int32) (m : Nat) : Nat → Nat → Int64 → Int64
  | 0, _, h => h
  | q + 1, i, h => mix2 g m q (i + 1) (mixF (g i) m 0 h)
abbrev rmX4_mix : Room := { frames := 0, cells := 0, slots := 0, locals := 0 }
set_option maxHeartbeats 4000000 in
set_option maxRecDepth 100000 in
theorem mX4_mix (l : Launch) (K : KT) (h v : Int64) : Ct l K yX4_mix wsX4_mix rmX4_mix [.long h, .long v] [] (some (.long (mixL h v))) [] := by
  refine CtP_of (cc := cX4_mix) (nL := 4) (rt := some .long) (own := RX4) (lv0 := [(0, .long h), (2, .long v)]) (by decide) rfl (Nat.le_of_ble_eq_true rfl) rfl rfl ?_
  intro G C0 hF _
  have cl278 : Cond.constantLong RX4 278 31 ∈ wsX4_mix := by decide +kernel
  refine J_ldl C0 cl278 dX4_mix_0 ?_
  refine J_lln C0 0 dX4_mix_3 (kk := ?_)
  refine J_lmul C0 dX4_mix_4 ?_
  refine J_lln C0 1 dX4_mix_5 (kk := ?_)
  refine J_ladd C0 dX4_mix_6 ?_
  exact J_lret C0 hF dX4_mix_7 ⟨rfl, rfl⟩

abbrev rmX4_mixCounts : Room := { frames := 2, cells := 0, slots := 0, locals := 46 }
set_option maxHeartbeats 4000000 in
set_option maxRecDepth 100000 in
theorem mX4_mixCounts (l : Launch) (K : KT) (b nA aA : Nat → Nat) (d e : Nat → Nat → Nat) (F Ga : FF) (D S : Nat → FF) (T : FF) (h0 : Int64) : Ct l K yX4_mixCounts wsX4_mixCounts rmX4_mixCounts [.ref (b 0), .long h0] (corkW K b nA aA d e F Ga D S T) (some (.long (mixF (F 1) 3 0 (mixF (countC F T) 12 0 h0)))) (corkW K b nA aA d e F Ga D S T) := by
  refine CtP_of (cc := cX4_mixCounts) (nL := 6) (rt := some .long) (own := RX4) (lv0 := [(0, .ref (b 0)), (1, .long h0)]) (by decide) rfl (Nat.le_of_ble_eq_true rfl) rfl rfl ?_
  intro G C0 hF _
  have f12 : Cond.fieldLink RX4 12 "CorkPermits" "now" "LCorkPermits$Cellar;" ∈ wsX4_mixCounts := by decide +kernel
  have iX4 : ∀ w ∈ u_ws RX4 TX4 6, w ∈ wsX4_mixCounts := by decide +kernel
  have f138 : Cond.fieldLink RX4 138 "CorkPermits$Cellar" "settings" "[I" ∈ wsX4_mixCounts := by decide +kernel
  have iX0 : ∀ w ∈ u_ws RX0 TX0 14, w ∈ wsX4_mixCounts := by decide +kernel
  have l1 : ∀ (q w : Nat) (h : Int64) , w + q = 12 → J G (corkW K b nA aA d e F Ga D S T) [(5, .int (nI 12)), (3, .long (mixF (countC F T) q w h)), (1, .long h0), (0, .ref (b 0))] 0 0 30 [] → J G (corkW K b nA aA d e F Ga D S T) [(5, .int (nI w)), (3, .long h), (1, .long h0), (0, .ref (b 0))] 0 0 5 [] := by
    intro q
    induction q with
    | zero =>
      intro w h hq hk
      have hw : w = 12 := by omega
      subst hw
      refine J_il C0 0 dX4_mixCounts_5 (kk := ?_)
      refine J_bi C0 12 dX4_mixCounts_7 (kk := ?_)
      refine J_icmpgeN C0 30 (by omega) (by omega) dX4_mixCounts_9 (kt := fun c1 => ?_) (kf := fun c1 => ?_)
      · exact J_lv [0, 1, 2, 3] rfl hk
      · exfalso; omega
    | succ q ih =>
      intro w h hq hk
      refine J_il C0 0 dX4_mixCounts_5 (kk := ?_)
      refine J_bi C0 12 dX4_mixCounts_7 (kk := ?_)
      refine J_icmpgeN C0 30 (by omega) (by omega) dX4_mixCounts_9 (kt := fun c1 => ?_) (kf := fun c1 => ?_)
      · exfalso; omega
      · refine J_lln C0 1 dX4_mixCounts_12 (kk := ?_)
        refine J_aln C0 3 dX4_mixCounts_13 (kk := ?_)
        refine J_il C0 0 dX4_mixCounts_14 (kk := ?_)
        refine J_callVd C0 (mX4_countNumber l K b nA aA d e F Ga D S T (w := w) (by omega)) [] (corkW K b nA aA d e F Ga D S T) gX4_mixCounts_X4_countNumber dX4_mixCounts_16 1 0 (kk := ?_)
        show J G _ _ _ _ _ [.int (countC F T w), .long h]
        refine J_i2l C0 dX4_mixCounts_19 ?_
        refine J_callSd C0 (mX4_mix l K h ((countC F T w).toInt64)) [mainW K b (nA 0) (aA 0) (fun i => some (d i 0)) (fun i => some (e i 0)) T, celW K nA F, celW K aA Ga, celW K (d 0) (D 0), celW K (d 1) (D 1), celW K (e 0) (S 0), celW K (e 1) (S 1), celW K (e 2) (S 2), celW K (e 3) (S 3), celW K (e 4) (S 4), celW K (e 5) (S 5)] (corkW K b nA aA d e F Ga D S T) gX4_mixCounts_X4_mix dX4_mixCounts_20 2 (kk := ?_)
        show J G _ _ _ _ _ [.long (mixL h ((countC F T w).toInt64))]
        refine J_lsn C0 [(3, .long (mixL h ((countC F T w).toInt64))), (5, .int (nI w)), (1, .long h0), (0, .ref (b 0))] dX4_mixCounts_23 (kk := ?_)
        refine J_iincN C0 1 [(5, .int (nI (w + 1))), (3, .long (mixL h ((countC F T w).toInt64))), (1, .long h0), (0, .ref (b 0))] dX4_mixCounts_24 (kk := ?_)
        refine J_goto C0 5 dX4_mixCounts_27 (kk := ?_)
        exact J_lv [0, 1, 2, 3] rfl (ih (w + 1) (mixL h ((countC F T w).toInt64)) (by omega) hk)
  have l2 : ∀ (q w : Nat) (h : Int64) , w + q = 3 → J G (corkW K b nA aA d e F Ga D S T) [(5, .int (nI 3)), (3, .long (mixF (F 1) q w h)), (1, .long h0), (0, .ref (b 0))] 0 0 61 [] → J G (corkW K b nA aA d e F Ga D S T) [(5, .int (nI w)), (3, .long h), (1, .long h0), (0, .ref (b 0))] 0 0 33 [] := by
    intro q
    induction q with
    | zero =>
      intro w h hq hk
      have hw : w = 3 := by omega
      subst hw
      refine J_il C0 0 dX4_mixCounts_33 (kk := ?_)
      refine J_ic C0 3 dX4_mixCounts_35 (kk := ?_)
      refine J_icmpgeN C0 61 (by omega) (by omega) dX4_mixCounts_36 (kt := fun c1 => ?_) (kf := fun c1 => ?_)
      · exact J_lv [0, 1, 2, 3] rfl hk
      · exfalso; omega
    | succ q ih =>
      intro w h hq hk
      refine J_il C0 0 dX4_mixCounts_33 (kk := ?_)
      refine J_ic C0 3 dX4_mixCounts_35 (kk := ?_)
      refine J_icmpgeN C0 61 (by omega) (by omega) dX4_mixCounts_36 (kt := fun c1 => ?_) (kf := fun c1 => ?_)
      · exfalso; omega
      · refine J_lln C0 1 dX4_mixCounts_39 (kk := ?_)
        refine J_aln C0 3 dX4_mixCounts_40 (kk := ?_)
        refine J_get C0 iX4 0 0 0 f12 dX4_mixCounts_41 (kk := ?_)
        refine J_get C0 iX0 1 0 2 f138 dX4_mixCounts_44 (kk := ?_)
        refine J_il C0 0 dX4_mixCounts_47 (kk := ?_)
        refine J_iald C0 1 1 3 dX4_mixCounts_49 (by omega) (kk := ?_)
        refine J_i2l C0 dX4_mixCounts_50 ?_
        refine J_callSd C0 (mX4_mix l K h ((F 1 w).toInt64)) [mainW K b (nA 0) (aA 0) (fun i => some (d i 0)) (fun i => some (e i 0)) T, celW K nA F, celW K aA Ga, celW K (d 0) (D 0), celW K (d 1) (D 1), celW K (e 0) (S 0), celW K (e 1) (S 1), celW K (e 2) (S 2), celW K (e 3) (S 3), celW K (e 4) (S 4), celW K (e 5) (S 5)] (corkW K b nA aA d e F Ga D S T) gX4_mixCounts_X4_mix dX4_mixCounts_51 2 (kk := ?_)
        show J G _ _ _ _ _ [.long (mixL h ((F 1 w).toInt64))]
        refine J_lsn C0 [(3, .long (mixL h ((F 1 w).toInt64))), (5, .int (nI w)), (1, .long h0), (0, .ref (b 0))] dX4_mixCounts_54 (kk := ?_)
        refine J_iincN C0 1 [(5, .int (nI (w + 1))), (3, .long (mixL h ((F 1 w).toInt64))), (1, .long h0), (0, .ref (b 0))] dX4_mixCounts_55 (kk := ?_)
        refine J_goto C0 33 dX4_mixCounts_58 (kk := ?_)
        exact J_lv [0, 1, 2, 3] rfl (ih (w + 1) (mixL h ((F 1 w).toInt64)) (by omega) hk)
  refine J_lln C0 1 dX4_mixCounts_0 (kk := ?_)
  refine J_lsn C0 [(3, .long h0), (0, .ref (b 0)), (1, .long h0)] dX4_mixCounts_1 (kk := ?_)
  refine J_ic C0 0 dX4_mixCounts_2 (kk := ?_)
  refine J_is C0 [(5, .int (nI 0)), (3, .long h0), (0, .ref (b 0)), (1, .long h0)] dX4_mixCounts_3 (kk := ?_)
  refine J_lv [0, 1, 3, 2] rfl (l1 12 0 h0 rfl ?_)
  refine J_ic C0 0 dX4_mixCounts_30 (kk := ?_)
  refine J_is C0 [(5, .int (nI 0)), (3, .long (mixF (countC F T) 12 0 h0)), (1, .long h0), (0, .ref (b 0))] dX4_mixCounts_31 (kk := ?_)
  refine J_lv [0, 1, 2, 3] rfl (l2 3 0 _ rfl ?_)
  refine J_lln C0 1 dX4_mixCounts_61 (kk := ?_)
  exact J_lret C0 hF dX4_mixCounts_62 ⟨rfl, rfl⟩

abbrev rmX4_mixKinds : Room := { frames := 3, cells := 0, slots := 0, locals := 66 }
set_option maxHeartbeats 4000000 in
set_option maxRecDepth 100000 in
theorem mX4_mixKinds (l : Launch) (K : KT) (b nA aA : Nat → Nat) (d e : Nat → Nat → Nat) (F Ga : FF) (D S : Nat → FF) (T : FF) (h0 : Int64) : Ct l K yX4_mixKinds wsX4_mixKinds rmX4_mixKinds [.ref (b 0), .long h0] (corkW K b nA aA d e F Ga D S T) (some (.long (mix2 (kindC F) 7 3 0 h0))) (corkW K b nA aA d e F Ga D S T) := by
  refine CtP_of (cc := cX4_mixKinds) (nL := 7) (rt := some .long) (own := RX4) (lv0 := [(0, .ref (b 0)), (1, .long h0)]) (by decide) rfl (Nat.le_of_ble_eq_true rfl) rfl rfl ?_
  intro G C0 hF _
  have f12 : Cond.fieldLink RX4 12 "CorkPermits" "now" "LCorkPermits$Cellar;" ∈ wsX4_mixKinds := by decide +kernel
  have iX4 : ∀ w ∈ u_ws RX4 TX4 6, w ∈ wsX4_mixKinds := by decide +kernel
  have li : ∀ (q w : Nat) (h : Int64) (i : Nat), i < 3 → w + q = 7 → J G (corkW K b nA aA d e F Ga D S T) [(6, .int (nI 7)), (5, .int (nI i)), (3, .long (mixF ((kindC F) i) q w h)), (1, .long h0), (0, .ref (b 0))] 0 0 44 [] → J G (corkW K b nA aA d e F Ga D S T) [(6, .int (nI w)), (5, .int (nI i)), (3, .long h), (1, .long h0), (0, .ref (b 0))] 0 0 14 [] := by
    intro q
    induction q with
    | zero =>
      intro w h i hi hq hk
      have hw : w = 7 := by omega
      subst hw
      refine J_il C0 0 dX4_mixKinds_14 (kk := ?_)
      refine J_bi C0 7 dX4_mixKinds_16 (kk := ?_)
      refine J_icmpgeN C0 44 (by omega) (by omega) dX4_mixKinds_18 (kt := fun c1 => ?_) (kf := fun c1 => ?_)
      · exact J_lv [0, 1, 2, 3, 4] rfl hk
      · exfalso; omega
    | succ q ih =>
      intro w h i hi hq hk
      refine J_il C0 0 dX4_mixKinds_14 (kk := ?_)
      refine J_bi C0 7 dX4_mixKinds_16 (kk := ?_)
      refine J_icmpgeN C0 44 (by omega) (by omega) dX4_mixKinds_18 (kt := fun c1 => ?_) (kf := fun c1 => ?_)
      · exfalso; omega
      · refine J_lln C0 2 dX4_mixKinds_21 (kk := ?_)
        refine J_aln C0 4 dX4_mixKinds_22 (kk := ?_)
        refine J_get C0 iX4 0 0 0 f12 dX4_mixKinds_23 (kk := ?_)
        refine J_il C0 1 dX4_mixKinds_26 (kk := ?_)
        refine J_il C0 0 dX4_mixKinds_28 (kk := ?_)
        refine J_perm (permI [0, 2, 3, 4, 5, 6, 7, 8, 9, 10, 1] 11 rfl (by decide +kernel) rfl : List.Perm _ ([mainW K b (nA 0) (aA 0) (fun i => some (d i 0)) (fun i => some (e i 0)) T, celW K aA Ga, celW K (d 0) (D 0), celW K (d 1) (D 1), celW K (e 0) (S 0), celW K (e 1) (S 1), celW K (e 2) (S 2), celW K (e 3) (S 3), celW K (e 4) (S 4), celW K (e 5) (S 5), celW K nA F])) ?_
        refine J_callVd C0 (mX0_kindNumber l K nA F (k := i) (by omega) (w := w) (by omega)) [mainW K b (nA 0) (aA 0) (fun i => some (d i 0)) (fun i => some (e i 0)) T, celW K aA Ga, celW K (d 0) (D 0), celW K (d 1) (D 1), celW K (e 0) (S 0), celW K (e 1) (S 1), celW K (e 2) (S 2), celW K (e 3) (S 3), celW K (e 4) (S 4), celW K (e 5) (S 5)] [mainW K b (nA 0) (aA 0) (fun i => some (d i 0)) (fun i => some (e i 0)) T, celW K aA Ga, celW K (d 0) (D 0), celW K (d 1) (D 1), celW K (e 0) (S 0), celW K (e 1) (S 1), celW K (e 2) (S 2), celW K (e 3) (S 3), celW K (e 4) (S 4), celW K (e 5) (S 5), celW K nA F] gX4_mixKinds_X0_kindNumber dX4_mixKinds_30 2 0 (kk := ?_)
        refine J_perm (permI [0, 10, 1, 2, 3, 4, 5, 6, 7, 8, 9] 11 rfl (by decide +kernel) rfl : List.Perm _ (corkW K b nA aA d e F Ga D S T)) ?_
        show J G _ _ _ _ _ [.int (kindC F i w), .long h]
        refine J_i2l C0 dX4_mixKinds_33 ?_
        refine J_callSd C0 (mX4_mix l K h ((kindC F i w).toInt64)) [mainW K b (nA 0) (aA 0) (fun i => some (d i 0)) (fun i => some (e i 0)) T, celW K nA F, celW K aA Ga, celW K (d 0) (D 0), celW K (d 1) (D 1), celW K (e 0) (S 0), celW K (e 1) (S 1), celW K (e 2) (S 2), celW K (e 3) (S 3), celW K (e 4) (S 4), celW K (e 5) (S 5)] (corkW K b nA aA d e F Ga D S T) gX4_mixKinds_X4_mix dX4_mixKinds_34 2 (kk := ?_)
        show J G _ _ _ _ _ [.long (mixL h ((kindC F i w).toInt64))]
        refine J_lsn C0 [(3, .long (mixL h ((kindC F i w).toInt64))), (6, .int (nI w)), (5, .int (nI i)), (1, .long h0), (0, .ref (b 0))] dX4_mixKinds_37 (kk := ?_)
        refine J_iincN C0 1 [(6, .int (nI (w + 1))), (3, .long (mixL h ((kindC F i w).toInt64))), (5, .int (nI i)), (1, .long h0), (0, .ref (b 0))] dX4_mixKinds_38 (kk := ?_)
        refine J_goto C0 14 dX4_mixKinds_41 (kk := ?_)
        exact J_lv [0, 2, 1, 3, 4] rfl (ih (w + 1) (mixL h ((kindC F i w).toInt64)) i hi (by omega) hk)
  have lo : ∀ (q i : Nat) (h : Int64), i + q = 3 → J G (corkW K b nA aA d e F Ga D S T) [(5, .int (nI 3)), (3, .long (mix2 (kindC F) 7 q i h)), (1, .long h0), (0, .ref (b 0))] 0 0 50 [] → J G (corkW K b nA aA d e F Ga D S T) [(5, .int (nI i)), (3, .long h), (1, .long h0), (0, .ref (b 0))] 0 0 5 [] := by
    intro q
    induction q with
    | zero =>
      intro i h hq hk
      have hw : i = 3 := by omega
      subst hw
      refine J_il C0 0 dX4_mixKinds_5 (kk := ?_)
      refine J_ic C0 3 dX4_mixKinds_7 (kk := ?_)
      refine J_icmpgeN C0 50 (by omega) (by omega) dX4_mixKinds_8 (kt := fun c1 => ?_) (kf := fun c1 => ?_)
      · exact J_lv [0, 1, 2, 3] rfl hk
      · exfalso; omega
    | succ q ih =>
      intro i h hq hk
      refine J_il C0 0 dX4_mixKinds_5 (kk := ?_)
      refine J_ic C0 3 dX4_mixKinds_7 (kk := ?_)
      refine J_icmpgeN C0 50 (by omega) (by omega) dX4_mixKinds_8 (kt := fun c1 => ?_) (kf := fun c1 => ?_)
      · exfalso; omega
      · refine J_ic C0 0 dX4_mixKinds_11 (kk := ?_)
        refine J_is C0 [(6, .int (nI 0)), (5, .int (nI i)), (3, .long h), (1, .long h0), (0, .ref (b 0))] dX4_mixKinds_12 (kk := ?_)
        refine J_lv [0, 1, 2, 3, 4] rfl (li 7 0 h i (by omega) rfl ?_)
        refine J_iincN C0 1 [(5, .int (nI (i + 1))), (6, .int (nI 7)), (3, .long (mixF ((kindC F) i) 7 0 h)), (1, .long h0), (0, .ref (b 0))] dX4_mixKinds_44 (kk := ?_)
        refine J_goto C0 5 dX4_mixKinds_47 (kk := ?_)
        exact J_lv [0, 2, 3, 4] rfl (ih (i + 1) _ (by omega) hk)
  refine J_lln C0 1 dX4_mixKinds_0 (kk := ?_)
  refine J_lsn C0 [(3, .long h0), (0, .ref (b 0)), (1, .long h0)] dX4_mixKinds_1 (kk := ?_)
  refine J_ic C0 0 dX4_mixKinds_2 (kk := ?_)
  refine J_is C0 [(5, .int (nI 0)), (3, .long h0), (0, .ref (b 0)), (1, .long h0)] dX4_mixKinds_3 (kk := ?_)
  refine J_lv [0, 1, 3, 2] rfl (lo 3 0 h0 (by omega) ?_)
  refine J_lln C0 1 dX4_mixKinds_50 (kk := ?_)
  exact J_lret C0 hF dX4_mixKinds_51 ⟨rfl, rfl⟩

abbrev rmX4_mixHouses : Room := { frames := 3, cells := 0, slots := 0, locals := 64 }
set_option maxHeartbeats 4000000 in
set_option maxRecDepth 100000 in
theorem mX4_mixHouses (l : Launch) (K : KT) (b nA aA : Nat → Nat) (d e : Nat → Nat → Nat) (F Ga : FF) (D S : Nat → FF) (T : FF) {hn : Nat} (eh : F 0 1 = nI hn) (h4 : hn ≤ 4) (h0 : Int64) : Ct l K yX4_mixHouses wsX4_mixHouses rmX4_mixHouses [.ref (b 0), .long h0] (corkW K b nA aA d e F Ga D S T) (some (.long (mix2 (placeC F) 10 (hn * 3) 0 h0))) (corkW K b nA aA d e F Ga D S T) := by
  refine CtP_of (cc := cX4_mixHouses) (nL := 7) (rt := some .long) (own := RX4) (lv0 := [(0, .ref (b 0)), (1, .long h0)]) (by decide) rfl (Nat.le_of_ble_eq_true rfl) rfl rfl ?_
  intro G C0 hF _
  have f12 : Cond.fieldLink RX4 12 "CorkPermits" "now" "LCorkPermits$Cellar;" ∈ wsX4_mixHouses := by decide +kernel
  have iX4 : ∀ w ∈ u_ws RX4 TX4 6, w ∈ wsX4_mixHouses := by decide +kernel
  have f41 : Cond.fieldLink RX4 41 "CorkPermits$Cellar" "houses" "I" ∈ wsX4_mixHouses := by decide +kernel
  have iX0 : ∀ w ∈ u_ws RX0 TX0 14, w ∈ wsX4_mixHouses := by decide +kernel
  have li : ∀ (q w : Nat) (h : Int64) (i : Nat), i < 12 → w + q = 10 → J G (corkW K b nA aA d e F Ga D S T) [(6, .int (nI 10)), (5, .int (nI i)), (3, .long (mixF ((placeC F) i) q w h)), (1, .long h0), (0, .ref (b 0))] 0 0 59 [] → J G (corkW K b nA aA d e F Ga D S T) [(6, .int (nI w)), (5, .int (nI i)), (3, .long h), (1, .long h0), (0, .ref (b 0))] 0 0 29 [] := by
    intro q
    induction q with
    | zero =>
      intro w h i hi hq hk
      have hw : w = 10 := by omega
      subst hw
      refine J_il C0 0 dX4_mixHouses_29 (kk := ?_)
      refine J_bi C0 10 dX4_mixHouses_31 (kk := ?_)
      refine J_icmpgeN C0 59 (by omega) (by omega) dX4_mixHouses_33 (kt := fun c1 => ?_) (kf := fun c1 => ?_)
      · exact J_lv [0, 1, 2, 3, 4] rfl hk
      · exfalso; omega
    | succ q ih =>
      intro w h i hi hq hk
      refine J_il C0 0 dX4_mixHouses_29 (kk := ?_)
      refine J_bi C0 10 dX4_mixHouses_31 (kk := ?_)
      refine J_icmpgeN C0 59 (by omega) (by omega) dX4_mixHouses_33 (kt := fun c1 => ?_) (kf := fun c1 => ?_)
      · exfalso; omega
      · refine J_lln C0 2 dX4_mixHouses_36 (kk := ?_)
        refine J_aln C0 4 dX4_mixHouses_37 (kk := ?_)
        refine J_get C0 iX4 0 0 0 f12 dX4_mixHouses_38 (kk := ?_)
        refine J_il C0 1 dX4_mixHouses_41 (kk := ?_)
        refine J_il C0 0 dX4_mixHouses_43 (kk := ?_)
        refine J_perm (permI [0, 2, 3, 4, 5, 6, 7, 8, 9, 10, 1] 11 rfl (by decide +kernel) rfl : List.Perm _ ([mainW K b (nA 0) (aA 0) (fun i => some (d i 0)) (fun i => some (e i 0)) T, celW K aA Ga, celW K (d 0) (D 0), celW K (d 1) (D 1), celW K (e 0) (S 0), celW K (e 1) (S 1), celW K (e 2) (S 2), celW K (e 3) (S 3), celW K (e 4) (S 4), celW K (e 5) (S 5), celW K nA F])) ?_
        refine J_callVd C0 (mX0_placeNumber l K nA F (p := i) (by omega) (w := w) (by omega)) [mainW K b (nA 0) (aA 0) (fun i => some (d i 0)) (fun i => some (e i 0)) T, celW K aA Ga, celW K (d 0) (D 0), celW K (d 1) (D 1), celW K (e 0) (S 0), celW K (e 1) (S 1), celW K (e 2) (S 2), celW K (e 3) (S 3), celW K (e 4) (S 4), celW K (e 5) (S 5)] [mainW K b (nA 0) (aA 0) (fun i => some (d i 0)) (fun i => some (e i 0)) T, celW K aA Ga, celW K (d 0) (D 0), celW K (d 1) (D 1), celW K (e 0) (S 0), celW K (e 1) (S 1), celW K (e 2) (S 2), celW K (e 3) (S 3), celW K (e 4) (S 4), celW K (e 5) (S 5), celW K nA F] gX4_mixHouses_X0_placeNumber dX4_mixHouses_45 2 0 (kk := ?_)
        refine J_perm (permI [0, 10, 1, 2, 3, 4, 5, 6, 7, 8, 9] 11 rfl (by decide +kernel) rfl : List.Perm _ (corkW K b nA aA d e F Ga D S T)) ?_
        show J G _ _ _ _ _ [.int (placeC F i w), .long h]
        refine J_i2l C0 dX4_mixHouses_48 ?_
        refine J_callSd C0 (mX4_mix l K h ((placeC F i w).toInt64)) [mainW K b (nA 0) (aA 0) (fun i => some (d i 0)) (fun i => some (e i 0)) T, celW K nA F, celW K aA Ga, celW K (d 0) (D 0), celW K (d 1) (D 1), celW K (e 0) (S 0), celW K (e 1) (S 1), celW K (e 2) (S 2), celW K (e 3) (S 3), celW K (e 4) (S 4), celW K (e 5) (S 5)] (corkW K b nA aA d e F Ga D S T) gX4_mixHouses_X4_mix dX4_mixHouses_49 2 (kk := ?_)
        show J G _ _ _ _ _ [.long (mixL h ((placeC F i w).toInt64))]
        refine J_lsn C0 [(3, .long (mixL h ((placeC F i w).toInt64))), (6, .int (nI w)), (5, .int (nI i)), (1, .long h0), (0, .ref (b 0))] dX4_mixHouses_52 (kk := ?_)
        refine J_iincN C0 1 [(6, .int (nI (w + 1))), (3, .long (mixL h ((placeC F i w).toInt64))), (5, .int (nI i)), (1, .long h0), (0, .ref (b 0))] dX4_mixHouses_53 (kk := ?_)
        refine J_goto C0 29 dX4_mixHouses_56 (kk := ?_)
        exact J_lv [0, 2, 1, 3, 4] rfl (ih (w + 1) (mixL h ((placeC F i w).toInt64)) i hi (by omega) hk)
  have lo : ∀ (q i : Nat) (h : Int64), i + q = hn * 3 → J G (corkW K b nA aA d e F Ga D S T) [(5, .int (nI (hn * 3))), (3, .long (mix2 (placeC F) 10 q i h)), (1, .long h0), (0, .ref (b 0))] 0 0 65 [] → J G (corkW K b nA aA d e F Ga D S T) [(5, .int (nI i)), (3, .long h), (1, .long h0), (0, .ref (b 0))] 0 0 5 [] := by
    intro q
    induction q with
    | zero =>
      intro i h hq hk
      have hw : i = hn * 3 := by omega
      subst hw
      refine J_il C0 0 dX4_mixHouses_5 (kk := ?_)
      refine J_aln C0 3 dX4_mixHouses_7 (kk := ?_)
      refine J_get C0 iX4 0 0 0 f12 dX4_mixHouses_8 (kk := ?_)
      refine J_get C0 iX0 1 0 1 f41 dX4_mixHouses_11 (v := .int (nI hn)) (hv := congrArg (fun z => some (Value.int z)) eh) (kk := ?_)
      refine J_ic C0 3 dX4_mixHouses_14 (kk := ?_)
      refine J_imulN C0 dX4_mixHouses_15 ?_
      refine J_icmpgeN C0 65 (by omega) (by omega) dX4_mixHouses_16 (kt := fun c1 => ?_) (kf := fun c1 => ?_)
      · exact J_lv [0, 1, 2, 3] rfl hk
      · exfalso; omega
    | succ q ih =>
      intro i h hq hk
      refine J_il C0 0 dX4_mixHouses_5 (kk := ?_)
      refine J_aln C0 3 dX4_mixHouses_7 (kk := ?_)
      refine J_get C0 iX4 0 0 0 f12 dX4_mixHouses_8 (kk := ?_)
      refine J_get C0 iX0 1 0 1 f41 dX4_mixHouses_11 (v := .int (nI hn)) (hv := congrArg (fun z => some (Value.int z)) eh) (kk := ?_)
      refine J_ic C0 3 dX4_mixHouses_14 (kk := ?_)
      refine J_imulN C0 dX4_mixHouses_15 ?_
      refine J_icmpgeN C0 65 (by omega) (by omega) dX4_mixHouses_16 (kt := fun c1 => ?_) (kf := fun c1 => ?_)
      · exfalso; omega
      · refine J_il C0 0 dX4_mixHouses_19 (kk := ?_)
        refine J_bi C0 12 dX4_mixHouses_21 (kk := ?_)
        refine J_icmpgeN C0 65 (by omega) (by omega) dX4_mixHouses_23 (kt := fun c2 => ?_) (kf := fun c2 => ?_)
        · exfalso; omega
        · refine J_ic C0 0 dX4_mixHouses_26 (kk := ?_)
          refine J_is C0 [(6, .int (nI 0)), (5, .int (nI i)), (3, .long h), (1, .long h0), (0, .ref (b 0))] dX4_mixHouses_27 (kk := ?_)
          refine J_lv [0, 1, 2, 3, 4] rfl (li 10 0 h i (by omega) rfl ?_)
          refine J_iincN C0 1 [(5, .int (nI (i + 1))), (6, .int (nI 10)), (3, .long (mixF ((placeC F) i) 10 0 h)), (1, .long h0), (0, .ref (b 0))] dX4_mixHouses_59 (kk := ?_)
          refine J_goto C0 5 dX4_mixHouses_62 (kk := ?_)
          exact J_lv [0, 2, 3, 4] rfl (ih (i + 1) _ (by omega) hk)
  refine J_lln C0 1 dX4_mixHouses_0 (kk := ?_)
  refine J_lsn C0 [(3, .long h0), (0, .ref (b 0)), (1, .long h0)] dX4_mixHouses_1 (kk := ?_)
  refine J_ic C0 0 dX4_mixHouses_2 (kk := ?_)
  refine J_is C0 [(5, .int (nI 0)), (3, .long h0), (0, .ref (b 0)), (1, .long h0)] dX4_mixHouses_3 (kk := ?_)
  refine J_lv [0, 1, 3, 2] rfl (lo (hn * 3) 0 h0 (by omega) ?_)
  refine J_lln C0 1 dX4_mixHouses_65 (kk := ?_)
  exact J_lret C0 hF dX4_mixHouses_66 ⟨rfl, rfl⟩

abbrev rmX4_mixLetters : Room := { frames := 1, cells := 0, slots := 0, locals := 23 }
set_option maxHeartbeats 4000000 in
set_option maxRecDepth 100000 in
theorem mX4_mixLetters (l : Launch) (K : KT) (b nA aA : Nat → Nat) (d e : Nat → Nat → Nat) (F Ga : FF) (D S : Nat → FF) (T : FF) {n : Nat} (hn : F 0 4 = nI n) (h40 : n ≤ 40) (h0 : Int64) : Ct l K yX4_mixLetters wsX4_mixLetters rmX4_mixLetters [.ref (b 0), .long h0] (corkW K b nA aA d e F Ga D S T) (some (.long (mix2 (letC F n) 5 10 0 h0))) (corkW K b nA aA d e F Ga D S T) := by
  refine CtP_of (cc := cX4_mixLetters) (nL := 7) (rt := some .long) (own := RX4) (lv0 := [(0, .ref (b 0)), (1, .long h0)]) (by decide) rfl (Nat.le_of_ble_eq_true rfl) rfl rfl ?_
  intro G C0 hF _
  have f12 : Cond.fieldLink RX4 12 "CorkPermits" "now" "LCorkPermits$Cellar;" ∈ wsX4_mixLetters := by decide +kernel
  have iX4 : ∀ w ∈ u_ws RX4 TX4 6, w ∈ wsX4_mixLetters := by decide +kernel
  have f88 : Cond.fieldLink RX4 88 "CorkPermits$Cellar" "post" "LCorkPermits$Post;" ∈ wsX4_mixLetters := by decide +kernel
  have iX0 : ∀ w ∈ u_ws RX0 TX0 14, w ∈ wsX4_mixLetters := by decide +kernel
  have li : ∀ (q w : Nat) (h : Int64) (i : Nat), i < 10 → w + q = 5 → J G (corkW K b nA aA d e F Ga D S T) [(6, .int (nI 5)), (5, .int (nI i)), (3, .long (mixF ((letC F n) i) q w h)), (1, .long h0), (0, .ref (b 0))] 0 0 47 [] → J G (corkW K b nA aA d e F Ga D S T) [(6, .int (nI w)), (5, .int (nI i)), (3, .long h), (1, .long h0), (0, .ref (b 0))] 0 0 15 [] := by
    intro q
    induction q with
    | zero =>
      intro w h i hi hq hk
      have hw : w = 5 := by omega
      subst hw
      refine J_il C0 0 dX4_mixLetters_15 (kk := ?_)
      refine J_ic C0 5 dX4_mixLetters_17 (kk := ?_)
      refine J_icmpgeN C0 47 (by omega) (by omega) dX4_mixLetters_18 (kt := fun c1 => ?_) (kf := fun c1 => ?_)
      · exact J_lv [0, 1, 2, 3, 4] rfl hk
      · exfalso; omega
    | succ q ih =>
      intro w h i hi hq hk
      refine J_il C0 0 dX4_mixLetters_15 (kk := ?_)
      refine J_ic C0 5 dX4_mixLetters_17 (kk := ?_)
      refine J_icmpgeN C0 47 (by omega) (by omega) dX4_mixLetters_18 (kt := fun c1 => ?_) (kf := fun c1 => ?_)
      · exfalso; omega
      · refine J_lln C0 2 dX4_mixLetters_21 (kk := ?_)
        refine J_aln C0 4 dX4_mixLetters_22 (kk := ?_)
        refine J_get C0 iX4 0 0 0 f12 dX4_mixLetters_23 (kk := ?_)
        refine J_get C0 iX0 1 0 13 f88 dX4_mixLetters_26 (kk := ?_)
        refine J_il C0 1 dX4_mixLetters_29 (kk := ?_)
        refine J_il C0 0 dX4_mixLetters_31 (kk := ?_)
        refine J_perm (permI [0, 2, 3, 4, 5, 6, 7, 8, 9, 10, 1] 11 rfl (by decide +kernel) rfl : List.Perm _ ([mainW K b (nA 0) (aA 0) (fun i => some (d i 0)) (fun i => some (e i 0)) T, celW K aA Ga, celW K (d 0) (D 0), celW K (d 1) (D 1), celW K (e 0) (S 0), celW K (e 1) (S 1), celW K (e 2) (S 2), celW K (e 3) (S 3), celW K (e 4) (S 4), celW K (e 5) (S 5), celW K nA F])) ?_
        refine J_callVd C0 (mX3_letterNumber l K nA F (n := n) hn h40 (r := i) (by omega) (w := w) (by omega)) [mainW K b (nA 0) (aA 0) (fun i => some (d i 0)) (fun i => some (e i 0)) T, celW K aA Ga, celW K (d 0) (D 0), celW K (d 1) (D 1), celW K (e 0) (S 0), celW K (e 1) (S 1), celW K (e 2) (S 2), celW K (e 3) (S 3), celW K (e 4) (S 4), celW K (e 5) (S 5)] [mainW K b (nA 0) (aA 0) (fun i => some (d i 0)) (fun i => some (e i 0)) T, celW K aA Ga, celW K (d 0) (D 0), celW K (d 1) (D 1), celW K (e 0) (S 0), celW K (e 1) (S 1), celW K (e 2) (S 2), celW K (e 3) (S 3), celW K (e 4) (S 4), celW K (e 5) (S 5), celW K nA F] gX4_mixLetters_X3_letterNumber dX4_mixLetters_33 2 12 (kk := ?_)
        refine J_perm (permI [0, 10, 1, 2, 3, 4, 5, 6, 7, 8, 9] 11 rfl (by decide +kernel) rfl : List.Perm _ (corkW K b nA aA d e F Ga D S T)) ?_
        show J G _ _ _ _ _ [.int (letC F n i w), .long h]
        refine J_i2l C0 dX4_mixLetters_36 ?_
        refine J_callSd C0 (mX4_mix l K h ((letC F n i w).toInt64)) [mainW K b (nA 0) (aA 0) (fun i => some (d i 0)) (fun i => some (e i 0)) T, celW K nA F, celW K aA Ga, celW K (d 0) (D 0), celW K (d 1) (D 1), celW K (e 0) (S 0), celW K (e 1) (S 1), celW K (e 2) (S 2), celW K (e 3) (S 3), celW K (e 4) (S 4), celW K (e 5) (S 5)] (corkW K b nA aA d e F Ga D S T) gX4_mixLetters_X4_mix dX4_mixLetters_37 2 (kk := ?_)
        show J G _ _ _ _ _ [.long (mixL h ((letC F n i w).toInt64))]
        refine J_lsn C0 [(3, .long (mixL h ((letC F n i w).toInt64))), (6, .int (nI w)), (5, .int (nI i)), (1, .long h0), (0, .ref (b 0))] dX4_mixLetters_40 (kk := ?_)
        refine J_iincN C0 1 [(6, .int (nI (w + 1))), (3, .long (mixL h ((letC F n i w).toInt64))), (5, .int (nI i)), (1, .long h0), (0, .ref (b 0))] dX4_mixLetters_41 (kk := ?_)
        refine J_goto C0 15 dX4_mixLetters_44 (kk := ?_)
        exact J_lv [0, 2, 1, 3, 4] rfl (ih (w + 1) (mixL h ((letC F n i w).toInt64)) i hi (by omega) hk)
  have lo : ∀ (q i : Nat) (h : Int64), i + q = 10 → J G (corkW K b nA aA d e F Ga D S T) [(5, .int (nI 10)), (3, .long (mix2 (letC F n) 5 q i h)), (1, .long h0), (0, .ref (b 0))] 0 0 53 [] → J G (corkW K b nA aA d e F Ga D S T) [(5, .int (nI i)), (3, .long h), (1, .long h0), (0, .ref (b 0))] 0 0 5 [] := by
    intro q
    induction q with
    | zero =>
      intro i h hq hk
      have hw : i = 10 := by omega
      subst hw
      refine J_il C0 0 dX4_mixLetters_5 (kk := ?_)
      refine J_bi C0 10 dX4_mixLetters_7 (kk := ?_)
      refine J_icmpgeN C0 53 (by omega) (by omega) dX4_mixLetters_9 (kt := fun c1 => ?_) (kf := fun c1 => ?_)
      · exact J_lv [0, 1, 2, 3] rfl hk
      · exfalso; omega
    | succ q ih =>
      intro i h hq hk
      refine J_il C0 0 dX4_mixLetters_5 (kk := ?_)
      refine J_bi C0 10 dX4_mixLetters_7 (kk := ?_)
      refine J_icmpgeN C0 53 (by omega) (by omega) dX4_mixLetters_9 (kt := fun c1 => ?_) (kf := fun c1 => ?_)
      · exfalso; omega
      · refine J_ic C0 0 dX4_mixLetters_12 (kk := ?_)
        refine J_is C0 [(6, .int (nI 0)), (5, .int (nI i)), (3, .long h), (1, .long h0), (0, .ref (b 0))] dX4_mixLetters_13 (kk := ?_)
        refine J_lv [0, 1, 2, 3, 4] rfl (li 5 0 h i (by omega) rfl ?_)
        refine J_iincN C0 1 [(5, .int (nI (i + 1))), (6, .int (nI 5)), (3, .long (mixF ((letC F n) i) 5 0 h)), (1, .long h0), (0, .ref (b 0))] dX4_mixLetters_47 (kk := ?_)
        refine J_goto C0 5 dX4_mixLetters_50 (kk := ?_)
        exact J_lv [0, 2, 3, 4] rfl (ih (i + 1) _ (by omega) hk)
  refine J_lln C0 1 dX4_mixLetters_0 (kk := ?_)
  refine J_lsn C0 [(3, .long h0), (0, .ref (b 0)), (1, .long h0)] dX4_mixLetters_1 (kk := ?_)
  refine J_ic C0 0 dX4_mixLetters_2 (kk := ?_)
  refine J_is C0 [(5, .int (nI 0)), (3, .long h0), (0, .ref (b 0)), (1, .long h0)] dX4_mixLetters_3 (kk := ?_)
  refine J_lv [0, 1, 3, 2] rfl (lo 10 0 h0 (by omega) ?_)
  refine J_lln C0 1 dX4_mixLetters_53 (kk := ?_)
  exact J_lret C0 hF dX4_mixLetters_54 ⟨rfl, rfl⟩

abbrev rmX4_mixSlots : Room := { frames := 1, cells := 0, slots := 0, locals := 23 }
def slotL (x : Int32) : Int64 := if x = 0 then 0 else 1
set_option maxHeartbeats 4000000 in
set_option maxRecDepth 100000 in
theorem mX4_mixSlots (l : Launch) (K : KT) (b nA aA : Nat → Nat) (d e : Nat → Nat → Nat) (F Ga : FF) (D S : Nat → FF) (T : FF) (h0 : Int64) : Ct l K yX4_mixSlots wsX4_mixSlots rmX4_mixSlots [.ref (b 0), .long h0] (corkW K b nA aA d e F Ga D S T) (some (.long (mixL (mixL h0 (slotL (T 1 0))) (slotL (T 1 1))))) (corkW K b nA aA d e F Ga D S T) := by
  refine CtP_of (cc := cX4_mixSlots) (nL := 6) (rt := some .long) (own := RX4) (lv0 := [(0, .ref (b 0)), (1, .long h0)]) (by decide) rfl (Nat.le_of_ble_eq_true rfl) rfl rfl ?_
  intro G C0 hF _
  have f23 : Cond.fieldLink RX4 23 "CorkPermits" "slotTaken" "[Z" ∈ wsX4_mixSlots := by decide +kernel
  have iX4 : ∀ w ∈ u_ws RX4 TX4 6, w ∈ wsX4_mixSlots := by decide +kernel
  refine J_lln C0 1 dX4_mixSlots_0 (kk := ?_)
  refine J_lsn C0 [(3, .long h0), (0, .ref (b 0)), (1, .long h0)] dX4_mixSlots_1 (kk := ?_)
  refine J_ic C0 0 dX4_mixSlots_2 (kk := ?_)
  refine J_is C0 [(5, .int (nI 0)), (3, .long h0), (0, .ref (b 0)), (1, .long h0)] dX4_mixSlots_3 (kk := ?_)
  refine J_il C0 0 dX4_mixSlots_5 (kk := ?_)
  refine J_ic C0 2 dX4_mixSlots_7 (kk := ?_)
  refine J_icmpgeN C0 37 (by omega) (by omega) dX4_mixSlots_8 (kt := fun c1 => ?_) (kf := fun c1 => ?_)
  · exfalso; omega
  · refine J_lln C0 1 dX4_mixSlots_11 (kk := ?_)
    refine J_aln C0 2 dX4_mixSlots_12 (kk := ?_)
    refine J_get C0 iX4 0 0 3 f23 dX4_mixSlots_13 (kk := ?_)
    refine J_il C0 0 dX4_mixSlots_16 (kk := ?_)
    refine J_zald C0 0 2 2 dX4_mixSlots_18 (by omega) (kk := ?_)
    refine J_ifeq C0 26 dX4_mixSlots_19 (kt := fun c2 => ?_) (kf := fun c2 => ?_)
    · refine J_lc C0 dX4_mixSlots_26 (v := 0) rfl ?_
      refine J_callSd C0 (mX4_mix l K h0 0) [mainW K b (nA 0) (aA 0) (fun i => some (d i 0)) (fun i => some (e i 0)) T, celW K nA F, celW K aA Ga, celW K (d 0) (D 0), celW K (d 1) (D 1), celW K (e 0) (S 0), celW K (e 1) (S 1), celW K (e 2) (S 2), celW K (e 3) (S 3), celW K (e 4) (S 4), celW K (e 5) (S 5)] (corkW K b nA aA d e F Ga D S T) gX4_mixSlots_X4_mix dX4_mixSlots_27 2 (kk := ?_)
      show J G _ _ _ _ _ [.long (mixL h0 0)]
      refine J_lsn C0 [(3, .long (mixL h0 0)), (5, .int (nI 0)), (0, .ref (b 0)), (1, .long h0)] dX4_mixSlots_30 (kk := ?_)
      refine J_iincN C0 1 [(5, .int (nI 1)), (3, .long (mixL h0 0)), (0, .ref (b 0)), (1, .long h0)] dX4_mixSlots_31 (kk := ?_)
      refine J_goto C0 5 dX4_mixSlots_34 (kk := ?_)
      refine J_il C0 0 dX4_mixSlots_5 (kk := ?_)
      refine J_ic C0 2 dX4_mixSlots_7 (kk := ?_)
      refine J_icmpgeN C0 37 (by omega) (by omega) dX4_mixSlots_8 (kt := fun c3 => ?_) (kf := fun c3 => ?_)
      · exfalso; omega
      · refine J_lln C0 1 dX4_mixSlots_11 (kk := ?_)
        refine J_aln C0 2 dX4_mixSlots_12 (kk := ?_)
        refine J_get C0 iX4 0 0 3 f23 dX4_mixSlots_13 (kk := ?_)
        refine J_il C0 0 dX4_mixSlots_16 (kk := ?_)
        refine J_zald C0 0 2 2 dX4_mixSlots_18 (by omega) (kk := ?_)
        refine J_ifeq C0 26 dX4_mixSlots_19 (kt := fun c4 => ?_) (kf := fun c4 => ?_)
        · refine J_lc C0 dX4_mixSlots_26 (v := 0) rfl ?_
          refine J_callSd C0 (mX4_mix l K (mixL h0 0) 0) [mainW K b (nA 0) (aA 0) (fun i => some (d i 0)) (fun i => some (e i 0)) T, celW K nA F, celW K aA Ga, celW K (d 0) (D 0), celW K (d 1) (D 1), celW K (e 0) (S 0), celW K (e 1) (S 1), celW K (e 2) (S 2), celW K (e 3) (S 3), celW K (e 4) (S 4), celW K (e 5) (S 5)] (corkW K b nA aA d e F Ga D S T) gX4_mixSlots_X4_mix dX4_mixSlots_27 2 (kk := ?_)
          show J G _ _ _ _ _ [.long (mixL (mixL h0 0) 0)]
          refine J_lsn C0 [(3, .long (mixL (mixL h0 0) 0)), (5, .int (nI 1)), (0, .ref (b 0)), (1, .long h0)] dX4_mixSlots_30 (kk := ?_)
          refine J_iincN C0 1 [(5, .int (nI 2)), (3, .long (mixL (mixL h0 0) 0)), (0, .ref (b 0)), (1, .long h0)] dX4_mixSlots_31 (kk := ?_)
          refine J_goto C0 5 dX4_mixSlots_34 (kk := ?_)
          refine J_il C0 0 dX4_mixSlots_5 (kk := ?_)
          refine J_ic C0 2 dX4_mixSlots_7 (kk := ?_)
          refine J_icmpgeN C0 37 (by omega) (by omega) dX4_mixSlots_8 (kt := fun c5 => ?_) (kf := fun c5 => ?_)
          · refine J_lln C0 1 dX4_mixSlots_37 (kk := ?_)
            exact J_lret C0 hF dX4_mixSlots_38 ⟨by simp only [slotL, if_pos, if_neg, c1, c2, c3, c4, c5, if_true, if_false, not_true, not_false_eq_true]; try rfl, rfl⟩
          · exfalso; omega
        · refine J_lc C0 dX4_mixSlots_22 (v := 1) rfl ?_
          refine J_goto C0 27 dX4_mixSlots_23 (kk := ?_)
          refine J_callSd C0 (mX4_mix l K (mixL h0 0) 1) [mainW K b (nA 0) (aA 0) (fun i => some (d i 0)) (fun i => some (e i 0)) T, celW K nA F, celW K aA Ga, celW K (d 0) (D 0), celW K (d 1) (D 1), celW K (e 0) (S 0), celW K (e 1) (S 1), celW K (e 2) (S 2), celW K (e 3) (S 3), celW K (e 4) (S 4), celW K (e 5) (S 5)] (corkW K b nA aA d e F Ga D S T) gX4_mixSlots_X4_mix dX4_mixSlots_27 2 (kk := ?_)
          show J G _ _ _ _ _ [.long (mixL (mixL h0 0) 1)]
          refine J_lsn C0 [(3, .long (mixL (mixL h0 0) 1)), (5, .int (nI 1)), (0, .ref (b 0)), (1, .long h0)] dX4_mixSlots_30 (kk := ?_)
          refine J_iincN C0 1 [(5, .int (nI 2)), (3, .long (mixL (mixL h0 0) 1)), (0, .ref (b 0)), (1, .long h0)] dX4_mixSlots_31 (kk := ?_)
          refine J_goto C0 5 dX4_mixSlots_34 (kk := ?_)
          refine J_il C0 0 dX4_mixSlots_5 (kk := ?_)
          refine J_ic C0 2 dX4_mixSlots_7 (kk := ?_)
          refine J_icmpgeN C0 37 (by omega) (by omega) dX4_mixSlots_8 (kt := fun c6 => ?_) (kf := fun c6 => ?_)
          · refine J_lln C0 1 dX4_mixSlots_37 (kk := ?_)
            exact J_lret C0 hF dX4_mixSlots_38 ⟨by simp only [slotL, if_pos, if_neg, c1, c2, c3, c4, c6, if_true, if_false, not_true, not_false_eq_true]; try rfl, rfl⟩
          · exfalso; omega
    · refine J_lc C0 dX4_mixSlots_22 (v := 1) rfl ?_
      refine J_goto C0 27 dX4_mixSlots_23 (kk := ?_)
      refine J_callSd C0 (mX4_mix l K h0 1) [mainW K b (nA 0) (aA 0) (fun i => some (d i 0)) (fun i => some (e i 0)) T, celW K nA F, celW K aA Ga, celW K (d 0) (D 0), celW K (d 1) (D 1), celW K (e 0) (S 0), celW K (e 1) (S 1), celW K (e 2) (S 2), celW K (e 3) (S 3), celW K (e 4) (S 4), celW K (e 5) (S 5)] (corkW K b nA aA d e F Ga D S T) gX4_mixSlots_X4_mix dX4_mixSlots_27 2 (kk := ?_)
      show J G _ _ _ _ _ [.long (mixL h0 1)]
      refine J_lsn C0 [(3, .long (mixL h0 1)), (5, .int (nI 0)), (0, .ref (b 0)), (1, .long h0)] dX4_mixSlots_30 (kk := ?_)
      refine J_iincN C0 1 [(5, .int (nI 1)), (3, .long (mixL h0 1)), (0, .ref (b 0)), (1, .long h0)] dX4_mixSlots_31 (kk := ?_)
      refine J_goto C0 5 dX4_mixSlots_34 (kk := ?_)
      refine J_il C0 0 dX4_mixSlots_5 (kk := ?_)
      refine J_ic C0 2 dX4_mixSlots_7 (kk := ?_)
      refine J_icmpgeN C0 37 (by omega) (by omega) dX4_mixSlots_8 (kt := fun c7 => ?_) (kf := fun c7 => ?_)
      · exfalso; omega
      · refine J_lln C0 1 dX4_mixSlots_11 (kk := ?_)
        refine J_aln C0 2 dX4_mixSlots_12 (kk := ?_)
        refine J_get C0 iX4 0 0 3 f23 dX4_mixSlots_13 (kk := ?_)
        refine J_il C0 0 dX4_mixSlots_16 (kk := ?_)
        refine J_zald C0 0 2 2 dX4_mixSlots_18 (by omega) (kk := ?_)
        refine J_ifeq C0 26 dX4_mixSlots_19 (kt := fun c8 => ?_) (kf := fun c8 => ?_)
        · refine J_lc C0 dX4_mixSlots_26 (v := 0) rfl ?_
          refine J_callSd C0 (mX4_mix l K (mixL h0 1) 0) [mainW K b (nA 0) (aA 0) (fun i => some (d i 0)) (fun i => some (e i 0)) T, celW K nA F, celW K aA Ga, celW K (d 0) (D 0), celW K (d 1) (D 1), celW K (e 0) (S 0), celW K (e 1) (S 1), celW K (e 2) (S 2), celW K (e 3) (S 3), celW K (e 4) (S 4), celW K (e 5) (S 5)] (corkW K b nA aA d e F Ga D S T) gX4_mixSlots_X4_mix dX4_mixSlots_27 2 (kk := ?_)
          show J G _ _ _ _ _ [.long (mixL (mixL h0 1) 0)]
          refine J_lsn C0 [(3, .long (mixL (mixL h0 1) 0)), (5, .int (nI 1)), (0, .ref (b 0)), (1, .long h0)] dX4_mixSlots_30 (kk := ?_)
          refine J_iincN C0 1 [(5, .int (nI 2)), (3, .long (mixL (mixL h0 1) 0)), (0, .ref (b 0)), (1, .long h0)] dX4_mixSlots_31 (kk := ?_)
          refine J_goto C0 5 dX4_mixSlots_34 (kk := ?_)
          refine J_il C0 0 dX4_mixSlots_5 (kk := ?_)
          refine J_ic C0 2 dX4_mixSlots_7 (kk := ?_)
          refine J_icmpgeN C0 37 (by omega) (by omega) dX4_mixSlots_8 (kt := fun c9 => ?_) (kf := fun c9 => ?_)
          · refine J_lln C0 1 dX4_mixSlots_37 (kk := ?_)
            exact J_lret C0 hF dX4_mixSlots_38 ⟨by simp only [slotL, if_pos, if_neg, c1, c2, c7, c8, c9, if_true, if_false, not_true, not_false_eq_true]; try rfl, rfl⟩
          · exfalso; omega
        · refine J_lc C0 dX4_mixSlots_22 (v := 1) rfl ?_
          refine J_goto C0 27 dX4_mixSlots_23 (kk := ?_)
          refine J_callSd C0 (mX4_mix l K (mixL h0 1) 1) [mainW K b (nA 0) (aA 0) (fun i => some (d i 0)) (fun i => some (e i 0)) T, celW K nA F, celW K aA Ga, celW K (d 0) (D 0), celW K (d 1) (D 1), celW K (e 0) (S 0), celW K (e 1) (S 1), celW K (e 2) (S 2), celW K (e 3) (S 3), celW K (e 4) (S 4), celW K (e 5) (S 5)] (corkW K b nA aA d e F Ga D S T) gX4_mixSlots_X4_mix dX4_mixSlots_27 2 (kk := ?_)
          show J G _ _ _ _ _ [.long (mixL (mixL h0 1) 1)]
          refine J_lsn C0 [(3, .long (mixL (mixL h0 1) 1)), (5, .int (nI 1)), (0, .ref (b 0)), (1, .long h0)] dX4_mixSlots_30 (kk := ?_)
          refine J_iincN C0 1 [(5, .int (nI 2)), (3, .long (mixL (mixL h0 1) 1)), (0, .ref (b 0)), (1, .long h0)] dX4_mixSlots_31 (kk := ?_)
          refine J_goto C0 5 dX4_mixSlots_34 (kk := ?_)
          refine J_il C0 0 dX4_mixSlots_5 (kk := ?_)
          refine J_ic C0 2 dX4_mixSlots_7 (kk := ?_)
          refine J_icmpgeN C0 37 (by omega) (by omega) dX4_mixSlots_8 (kt := fun c10 => ?_) (kf := fun c10 => ?_)
          · refine J_lln C0 1 dX4_mixSlots_37 (kk := ?_)
            exact J_lret C0 hF dX4_mixSlots_38 ⟨by simp only [slotL, if_pos, if_neg, c1, c2, c7, c8, c10, if_true, if_false, not_true, not_false_eq_true]; try rfl, rfl⟩
          · exfalso; omega

abbrev rmX4_mixText : Room := { frames := 1, cells := 0, slots := 0, locals := 23 }
set_option maxHeartbeats 4000000 in
set_option maxRecDepth 100000 in
theorem mX4_mixText (l : Launch) (K : KT) (b nA aA : Nat → Nat) (d e : Nat → Nat → Nat) (F Ga : FF) (D S : Nat → FF) (T : FF) {n : Nat} (hn : T 0 1 = nI n) (h60 : n ≤ 60) (h0 : Int64) : Ct l K yX4_mixText wsX4_mixText rmX4_mixText [.ref (b 0), .long h0] (corkW K b nA aA d e F Ga D S T) (some (.long (mixF (T 2) n 0 (mixL h0 (nI n).toInt64)))) (corkW K b nA aA d e F Ga D S T) := by
  refine CtP_of (cc := cX4_mixText) (nL := 6) (rt := some .long) (own := RX4) (lv0 := [(0, .ref (b 0)), (1, .long h0)]) (by decide) rfl (Nat.le_of_ble_eq_true rfl) rfl rfl ?_
  intro G C0 hF _
  have f37 : Cond.fieldLink RX4 37 "CorkPermits" "text" "LCorkPermits$DayText;" ∈ wsX4_mixText := by decide +kernel
  have iX4 : ∀ w ∈ u_ws RX4 TX4 6, w ∈ wsX4_mixText := by decide +kernel
  have f141 : Cond.fieldLink RX4 141 "CorkPermits$DayText" "length" "I" ∈ wsX4_mixText := by decide +kernel
  have iX1 : ∀ w ∈ u_ws RX1 TX1 2, w ∈ wsX4_mixText := by decide +kernel
  have f144 : Cond.fieldLink RX4 144 "CorkPermits$DayText" "codes" "[I" ∈ wsX4_mixText := by decide +kernel
  have l1 : ∀ (q w : Nat) (h : Int64) , w + q = n → J G (corkW K b nA aA d e F Ga D S T) [(5, .int (nI n)), (3, .long (mixF (T 2) q w h)), (1, .long h0), (0, .ref (b 0))] 0 0 57 [] → J G (corkW K b nA aA d e F Ga D S T) [(5, .int (nI w)), (3, .long h), (1, .long h0), (0, .ref (b 0))] 0 0 16 [] := by
    intro q
    induction q with
    | zero =>
      intro w h hq hk
      have hw : n = w := by omega
      subst hw
      refine J_il C0 0 dX4_mixText_16 (kk := ?_)
      refine J_aln C0 3 dX4_mixText_18 (kk := ?_)
      refine J_get C0 iX4 0 0 5 f37 dX4_mixText_19 (kk := ?_)
      refine J_get C0 iX1 0 5 1 f141 dX4_mixText_22 (v := .int (nI n)) (hv := congrArg (fun z => some (Value.int z)) hn) (kk := ?_)
      refine J_icmpgeN C0 57 (by omega) (by omega) dX4_mixText_25 (kt := fun c1 => ?_) (kf := fun c1 => ?_)
      · exact J_lv [0, 1, 2, 3] rfl hk
      · exfalso; omega
    | succ q ih =>
      intro w h hq hk
      refine J_il C0 0 dX4_mixText_16 (kk := ?_)
      refine J_aln C0 3 dX4_mixText_18 (kk := ?_)
      refine J_get C0 iX4 0 0 5 f37 dX4_mixText_19 (kk := ?_)
      refine J_get C0 iX1 0 5 1 f141 dX4_mixText_22 (v := .int (nI n)) (hv := congrArg (fun z => some (Value.int z)) hn) (kk := ?_)
      refine J_icmpgeN C0 57 (by omega) (by omega) dX4_mixText_25 (kt := fun c1 => ?_) (kf := fun c1 => ?_)
      · exfalso; omega
      · refine J_il C0 0 dX4_mixText_28 (kk := ?_)
        refine J_bi C0 60 dX4_mixText_30 (kk := ?_)
        refine J_icmpgeN C0 57 (by omega) (by omega) dX4_mixText_32 (kt := fun c2 => ?_) (kf := fun c2 => ?_)
        · exfalso; omega
        · refine J_lln C0 1 dX4_mixText_35 (kk := ?_)
          refine J_aln C0 3 dX4_mixText_36 (kk := ?_)
          refine J_get C0 iX4 0 0 5 f37 dX4_mixText_37 (kk := ?_)
          refine J_get C0 iX1 0 5 0 f144 dX4_mixText_40 (kk := ?_)
          refine J_il C0 0 dX4_mixText_43 (kk := ?_)
          refine J_iald C0 0 6 60 dX4_mixText_45 (by omega) (kk := ?_)
          refine J_i2l C0 dX4_mixText_46 ?_
          refine J_callSd C0 (mX4_mix l K h ((T 2 w).toInt64)) [mainW K b (nA 0) (aA 0) (fun i => some (d i 0)) (fun i => some (e i 0)) T, celW K nA F, celW K aA Ga, celW K (d 0) (D 0), celW K (d 1) (D 1), celW K (e 0) (S 0), celW K (e 1) (S 1), celW K (e 2) (S 2), celW K (e 3) (S 3), celW K (e 4) (S 4), celW K (e 5) (S 5)] (corkW K b nA aA d e F Ga D S T) gX4_mixText_X4_mix dX4_mixText_47 2 (kk := ?_)
          show J G _ _ _ _ _ [.long (mixL h ((T 2 w).toInt64))]
          refine J_lsn C0 [(3, .long (mixL h ((T 2 w).toInt64))), (5, .int (nI w)), (1, .long h0), (0, .ref (b 0))] dX4_mixText_50 (kk := ?_)
          refine J_iincN C0 1 [(5, .int (nI (w + 1))), (3, .long (mixL h ((T 2 w).toInt64))), (1, .long h0), (0, .ref (b 0))] dX4_mixText_51 (kk := ?_)
          refine J_goto C0 16 dX4_mixText_54 (kk := ?_)
          exact J_lv [0, 1, 2, 3] rfl (ih (w + 1) (mixL h ((T 2 w).toInt64)) (by omega) hk)
  refine J_lln C0 1 dX4_mixText_0 (kk := ?_)
  refine J_aln C0 0 dX4_mixText_1 (kk := ?_)
  refine J_get C0 iX4 0 0 5 f37 dX4_mixText_2 (kk := ?_)
  refine J_get C0 iX1 0 5 1 f141 dX4_mixText_5 (v := .int (nI n)) (hv := congrArg (fun z => some (Value.int z)) hn) (kk := ?_)
  refine J_i2l C0 dX4_mixText_8 ?_
  refine J_callSd C0 (mX4_mix l K h0 ((nI n).toInt64)) [mainW K b (nA 0) (aA 0) (fun i => some (d i 0)) (fun i => some (e i 0)) T, celW K nA F, celW K aA Ga, celW K (d 0) (D 0), celW K (d 1) (D 1), celW K (e 0) (S 0), celW K (e 1) (S 1), celW K (e 2) (S 2), celW K (e 3) (S 3), celW K (e 4) (S 4), celW K (e 5) (S 5)] (corkW K b nA aA d e F Ga D S T) gX4_mixText_X4_mix dX4_mixText_9 2 (kk := ?_)
  show J G _ _ _ _ _ [.long (mixL h0 ((nI n).toInt64))]
  refine J_lsn C0 [(3, .long (mixL h0 ((nI n).toInt64))), (0, .ref (b 0)), (1, .long h0)] dX4_mixText_12 (kk := ?_)
  refine J_ic C0 0 dX4_mixText_13 (kk := ?_)
  refine J_is C0 [(5, .int (nI 0)), (3, .long (mixL h0 ((nI n).toInt64))), (0, .ref (b 0)), (1, .long h0)] dX4_mixText_14 (kk := ?_)
  refine J_lv [0, 1, 3, 2] rfl (l1 n 0 _ (by omega) ?_)
  refine J_lln C0 1 dX4_mixText_57 (kk := ?_)
  exact J_lret C0 hF dX4_mixText_58 ⟨rfl, rfl⟩

