section JM
variable {K : KT} {l : Launch} {cc : ByteArray} {nL : Nat} {own : String} {Ts : List Cond} {rm : Room} {G : JC} {bs : List va_W} {lv : List (Nat × Value)} {cells slots pc : Nat} {st : List Value}

theorem J_ldl (C0 : Cx G K l cc nL own Ts rm) {index : Nat} {v : Int64} (hcn : Cond.constantLong own index v ∈ Ts) (hdg : decode cc pc = .ok (.ldc2_w index, 3)) (kk : J G bs lv cells slots (pc + 3) (.long v :: st)) : J G bs lv cells slots (pc) (st) := by
  obtain ⟨K, A, H0, nL', p, l, e, R, s, m, args, below, meth, c, Q⟩ := G
  obtain ⟨rfl, rfl, rfl, rfl, hx, hb, hml, ho, hts, ⟨hK, hN⟩, hA⟩ := C0
  intro H locs ls hP hD hS hl
  exact lv_ldc2 hx hb ho (hts _ hcn) hdg (kk H locs ls hP hD hS hl)
theorem J_ldd (C0 : Cx G K l cc nL own Ts rm) {index : Nat} {v : UInt64} (hcn : Cond.constantDouble own index v ∈ Ts) (hdg : decode cc pc = .ok (.ldc2_w index, 3)) (kk : J G bs lv cells slots (pc + 3) (.double v :: st)) : J G bs lv cells slots (pc) (st) := by
  obtain ⟨K, A, H0, nL', p, l, e, R, s, m, args, below, meth, c, Q⟩ := G
  obtain ⟨rfl, rfl, rfl, rfl, hx, hb, hml, ho, hts, ⟨hK, hN⟩, hA⟩ := C0
  intro H locs ls hP hD hS hl
  exact lv_ldc2d hx hb ho (hts _ hcn) hdg (kk H locs ls hP hD hS hl)
theorem J_lshl (C0 : Cx G K l cc nL own Ts rm) {x v : Int64} {y : Int32} (hdg : decode cc pc = .ok (.lshl, 1)) (hv : x <<< (y.toInt64 &&& 63) = v) (kk : J G bs lv cells slots (pc + 1) (.long v :: st)) : J G bs lv cells slots (pc) (.int y :: .long x :: st) := by
  obtain ⟨K, A, H0, nL', p, l, e, R, s, m, args, below, meth, c, Q⟩ := G
  obtain ⟨rfl, rfl, rfl, rfl, hx, hb, hml, ho, hts, ⟨hK, hN⟩, hA⟩ := C0
  intro H locs ls hP hD hS hl
  exact lv_lshl hx hb hdg hv (kk H locs ls hP hD hS hl)
end JM
def mixL (h v : Int64) : Int64 := 31 * h + v
def mixF (g : Nat → Int32) : Nat → Nat → Int64 → Int64
  | 0, _, h => h
  | q + 1, i, h => mixF g q (i + 1) (mixL h (g i).toInt64)
def mix2 (g : Nat → Nat → Int32) (m : Nat) : Nat → Nat → Int64 → Int64
  | 0, _, h => h
  | q + 1, i, h => mix2 g m q (i + 1) (mixF (g i) m 0 h)
abbrev rmX4_mix : Room := { frames := 0, cells := 0, slots := 0, locals := 0 }
set_option maxHeartbeats 4000000 in
set_option maxRecDepth 100000 in
theorem mX4_mix (l : Launch) (K : KT) (h v : Int64) : Ct l K yX4_mix wsX4_mix rmX4_mix [.long h, .long v] [] (some (.long (mixL h v))) [] := by
  refine CtP_of (cc := cX4_mix) (nL := 4) (rt := some .long) (own := RX4) (lv0 := [(0, .long h), (2, .long v)]) (by decide) rfl (Nat.le_of_ble_eq_true rfl) rfl rfl ?_
  intro G C0 hF _
  have cl278 : Cond.constantLong RX4 278 31 ∈ wsX4_mix := by decide +kernel
  refine J_ldl C0 cl278 dX4_mix_0 ?_
  refine J_lln C0 0 dX4_mix_3 (kk := ?_)
  refine J_lmul C0 dX4_mix_4 ?_
  refine J_lln C0 1 dX4_mix_5 (kk := ?_)
  refine J_ladd C0 dX4_mix_6 ?_
  exact J_lret C0 hF dX4_mix_7 ⟨rfl, rfl⟩

abbrev rmX4_mixCounts : Room := { frames := 2, cells := 0, slots := 0, locals := 46 }
set_option maxHeartbeats 4000000 in
set_option maxRecDepth 100000 in
theorem mX4_mixCounts (l : Launch) (K : KT) (b nA aA : Nat → Nat) (d e : Nat → Nat → Nat) (F Ga : FF) (D S : Nat → FF) (T : FF) (h0 : Int64) : Ct l K yX4_mixCounts wsX4_mixCounts rmX4_mixCounts [.ref (b 0), .long h0] (corkW K b nA aA d e F Ga D S T) (some (.long (mixF (F 1) 3 0 (mixF (countC F T) 12 0 h0)))) (corkW K b nA aA d e F Ga D S T) := by
  refine CtP_of (cc := cX4_mixCounts) (nL := 6) (rt := some .long) (own := RX4) (lv0 := [(0, .ref (b 0)), (1, .long h0)]) (by decide) rfl (Nat.le_of_ble_eq_true rfl) rfl rfl ?_
  intro G C0 hF _
  have f12 : Cond.fieldLink RX4 12 "CorkPermits" "now" "LCorkPermits$Cellar;" ∈ wsX4_mixCounts := by decide +kernel
  have iX4 : ∀ w ∈ u_ws RX4 TX4 6, w ∈ wsX4_mixCounts := by decide +kernel
  have f138 : Cond.fieldLink RX4 138 "CorkPermits$Cellar" "settings" "[I" ∈ wsX4_mixCounts := by decide +kernel
  have iX0 : ∀ w ∈ u_ws RX0 TX0 14, w ∈ wsX4_mixCounts := by decide +kernel
  have l1 : ∀ (q w : Nat) (h : Int64) , w + q = 12 → J G (corkW K b nA aA d e F Ga D S T) [(5, .int (nI 12)), (3, .long (mixF (countC F T) q w h)), (1, .long h0), (0, .ref (b 0))] 0 0 30 [] → J G (corkW K b nA aA d e F Ga D S T) [(5, .int (nI w)), (3, .long h), (1, .long h0), (0, .ref (b 0))] 0 0 5 [] := by
    intro q
    induction q with
    | zero =>
      intro w h hq hk
      have hw : w = 12 := by omega
      subst hw
      refine J_il C0 0 dX4_mixCounts_5 (kk := ?_)
      refine J_bi C0 12 dX4_mixCounts_7 (kk := ?_)
      refine J_icmpgeN C0 30 (by omega) (by omega) dX4_mixCounts_9 (kt := fun c1 => ?_) (kf := fun c1 => ?_)
      · exact J_lv [0, 1, 2, 3] rfl hk
      · exfalso; omega
    | succ q ih =>
      intro w h hq hk
      refine J_il C0 0 dX4_mixCounts_5 (kk := ?_)
      refine J_bi C0 12 dX4_mixCounts_7 (kk := ?_)
      refine J_icmpgeN C0 30 (by omega) (by omega) dX4_mixCounts_9 (kt := fun c1 => ?_) (kf := fun c1 => ?_)
      · exfalso; omega
      · refine J_lln C0 1 dX4_mixCounts_12 (kk := ?_)
        refine J_aln C0 3 dX4_mixCounts_13 (kk := ?_)
        refine J_il C0 0 dX4_mixCounts_14 (kk := ?_)
        refine J_callVd C0 (mX4_countNumber l K b nA aA d e F Ga D S T (w := w) (by omega)) [] (corkW K b nA aA d e F Ga D S T) gX4_mixCounts_X4_countNumber dX4_mixCounts_16 1 0 (kk := ?_)
        show J G _ _ _ _ _ [.int (countC F T w), .long h]
        refine J_i2l C0 dX4_mixCounts_19 ?_
        refine J_callSd C0 (mX4_mix l K h ((countC F T w).toInt64)) [mainW K b (nA 0) (aA 0) (fun i => some (d i 0)) (fun i => some (e i 0)) T, celW K nA F, celW K aA Ga, celW K (d 0) (D 0), celW K (d 1) (D 1), celW K (e 0) (S 0), celW K (e 1) (S 1), celW K (e 2) (S 2), celW K (e 3) (S 3), celW K (e 4) (S 4), celW K (e 5) (S 5)] (corkW K b nA aA d e F Ga D S T) gX4_mixCounts_X4_mix dX4_mixCounts_20 2 (kk := ?_)
        show J G _ _ _ _ _ [.long (mixL h ((countC F T w).toInt64))]
        refine J_lsn C0 [(3, .long (mixL h ((countC F T w).toInt64))), (5, .int (nI w)), (1, .long h0), (0, .ref (b 0))] dX4_mixCounts_23 (kk := ?_)
        refine J_iincN C0 1 [(5, .int (nI (w + 1))), (3, .long (mixL h ((countC F T w).toInt64))), (1, .long h0), (0, .ref (b 0))] dX4_mixCounts_24 (kk := ?_)
        refine J_goto C0 5 dX4_mixCounts_27 (kk := ?_)
        exact J_lv [0, 1, 2, 3] rfl (ih (w + 1) (mixL h ((countC F T w).toInt64)) (by omega) hk)
  have l2 : ∀ (q w : Nat) (h : Int64) , w + q = 3 → J G (corkW K b nA aA d e F Ga D S T) [(5, .int (nI 3)), (3, .long (mixF (F 1) q w h)), (1, .long h0), (0, .ref (b 0))] 0 0 61 [] → J G (corkW K b nA aA d e F Ga D S T) [(5, .int (nI w)), (3, .long h), (1, .long h0), (0, .ref (b 0))] 0 0 33 [] := by
    intro q
    induction q with
    | zero =>
      intro w h hq hk
      have hw : w = 3 := by omega
      subst hw
      refine J_il C0 0 dX4_mixCounts_33 (kk := ?_)
      refine J_ic C0 3 dX4_mixCounts_35 (kk := ?_)
      refine J_icmpgeN C0 61 (by omega) (by omega) dX4_mixCounts_36 (kt := fun c1 => ?_) (kf := fun c1 => ?_)
      · exact J_lv [0, 1, 2, 3] rfl hk
      · exfalso; omega
    | succ q ih =>
      intro w h hq hk
      refine J_il C0 0 dX4_mixCounts_33 (kk := ?_)
      refine J_ic C0 3 dX4_mixCounts_35 (kk := ?_)
      refine J_icmpgeN C0 61 (by omega) (by omega) dX4_mixCounts_36 (kt := fun c1 => ?_) (kf := fun c1 => ?_)
      · exfalso; omega
      · refine J_lln C0 1 dX4_mixCounts_39 (kk := ?_)
        refine J_aln C0 3 dX4_mixCounts_40 (kk := ?_)
        refine J_get C0 iX4 0 0 0 f12 dX4_mixCounts_41 (kk := ?_)
        refine J_get C0 iX0 1 0 2 f138 dX4_mixCounts_44 (kk := ?_)
        refine J_il C0 0 dX4_mixCounts_47 (kk := ?_)
        refine J_iald C0 1 1 3 dX4_mixCounts_49 (by omega) (kk := ?_)
        refine J_i2l C0 dX4_mixCounts_50 ?_
        refine J_callSd C0 (mX4_mix l K h ((F 1 w).toInt64)) [mainW K b (nA 0) (aA 0) (fun i => some (d i 0)) (fun i => some (e i 0)) T, celW K nA F, celW K aA Ga, celW K (d 0) (D 0), celW K (d 1) (D 1), celW K (e 0) (S 0), celW K (e 1) (S 1), celW K (e 2) (S 2), celW K (e 3) (S 3), celW K (e 4) (S 4), celW K (e 5) (S 5)] (corkW K b nA aA d e F Ga D S T) gX4_mixCounts_X4_mix dX4_mixCounts_51 2 (kk := ?_)
        show J G _ _ _ _ _ [.long (mixL h ((F 1 w).toInt64))]
        refine J_lsn C0 [(3, .long (mixL h ((F 1 w).toInt64))), (5, .int (nI w)), (1, .long h0), (0, .ref (b 0))] dX4_mixCounts_54 (kk := ?_)
        refine J_iincN C0 1 [(5, .int (nI (w + 1))), (3, .long (mixL h ((F 1 w).toInt64))), (1, .long h0), (0, .ref (b 0))] dX4_mixCounts_55 (kk := ?_)
        refine J_goto C0 33 dX4_mixCounts_58 (kk := ?_)
        exact J_lv [0, 1, 2, 3] rfl (ih (w + 1) (mixL h ((F 1 w).toInt64)) (by omega) hk)
  refine J_lln C0 1 dX4_mixCounts_0 (kk := ?_)
  refine J_lsn C0 [(3, .long h0), (0, .ref (b 0)), (1, .long h0)] dX4_mixCounts_1 (kk := ?_)
  refine J_ic C0 0 dX4_mixCounts_2 (kk := ?_)
  refine J_is C0 [(5, .int (nI 0)), (3, .long h0), (0, .ref (b 0)), (1, .long h0)] dX4_mixCounts_3 (kk := ?_)
  refine J_lv [0, 1, 3, 2] rfl (l1 12 0 h0 rfl ?_)
  refine J_ic C0 0 dX4_mixCounts_30 (kk := ?_)
  refine J_is C0 [(5, .int (nI 0)), (3, .long (mixF (countC F T) 12 0 h0)), (1, .long h0), (0, .ref (b 0))] dX4_mixCounts_31 (kk := ?_)
  refine J_lv [0, 1, 2, 3] rfl (l2 3 0 _ rfl ?_)
  refine J_lln C0 1 dX4_mixCounts_61 (kk := ?_)
  exact J_lret C0 hF dX4_mixCounts_62 ⟨rfl, rfl⟩

