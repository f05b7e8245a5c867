/-! look(): a hash of all that counts, a function of F alone -/
def mixT (F : FF) (n : Nat) : Nat → Nat → Int64 → Int64
  | 0, _, h => h
  | q + 1, r, h => mixT F n q (r + 1) (mixL (mixL (mixL h (letC F n r 0).toInt64) (letC F n r 3).toInt64) (letC F n r 4).toInt64)
def lookK (F : FF) (k : Nat) : Int32 := kindC F (k / 7) (k % 7)
def lookH (F : FF) (k : Nat) : Int32 := placeC F (k / 30 * 3 + k / 10 % 3) (k % 10)
def lookL (F : FF) (hn n : Nat) : Int64 := mixL (mixL (mixL (mixT F n n 0 (mixF (lookH F) (30 * hn) 0 (mixF (lookK F) 21 0 (mixF (countC F (fun _ _ => 0)) 11 0 269)))) (F 1 0).toInt64) (F 1 1).toInt64) (F 1 2).toInt64
theorem look_T (F T : FF) (h : Int64) : mixF (countC F T) 11 0 h = mixF (countC F (fun _ _ => 0)) 11 0 h := rfl
abbrev rmL_look : Room := { frames := 10, cells := 0, slots := 0, locals := 300 }
set_option maxHeartbeats 4000000 in
set_option maxRecDepth 100000 in
theorem mL_look (l : Launch) (K : KT) (b nA aA : Nat → Nat) (d e : Nat → Nat → Nat) (F Ga : FF) (D S : Nat → FF) (T : FF) (tl tg : Nat) {hn n : Nat} (eh : F 0 1 = nI hn) (h4 : hn ≤ 4) (en : F 0 4 = nI n) (n40 : n ≤ 40) : CtW l K yL_look wsL_look rmL_look [.ref (b 0)] (corkW K b nA aA d e F Ga D S T) (some (.long (lookL F hn n))) (corkW K b nA aA d e F Ga D S T) tl tg := by
  refine CtWP_of (cc := cL_look) (nL := 4) (rt := some .long) (own := RL) (lv0 := [(0, .ref (b 0))]) (by decide) rfl (Nat.le_of_ble_eq_true rfl) rfl rfl ?_
  intro G C0 hF hX
  have cl72 : Cond.constantLong RL 72 269 ∈ wsL_look := by decide +kernel
  have cl74 : Cond.constantLong RL 74 31 ∈ wsL_look := by decide +kernel
  have l1 : ∀ (q w : Nat) (h : Int64), w + q = 11 → J G (corkW K b nA aA d e F Ga D S T) [(3, .int (nI 11)), (1, .long (mixF (countC F T) q w h)), (0, .ref (b 0))] 0 0 31 [] → J G (corkW K b nA aA d e F Ga D S T) [(3, .int (nI w)), (1, .long h), (0, .ref (b 0))] 0 0 6 [] := by
    intro q
    induction q with
    | zero =>
      intro w h hq hk
      have hw : w = 11 := by omega
      subst hw
      refine J_iln C0 0 dL_look_6 (kk := ?_)
      refine J_bi C0 11 dL_look_7 (kk := ?_)
      refine J_icmpge C0 31 dL_look_9 (kt := fun _ => ?_) (kf := fun c => absurd (by decide) c)
      exact J_lv [0, 1, 2] rfl hk
    | succ q ih =>
      intro w h hq hk
      refine J_iln C0 0 dL_look_6 (kk := ?_)
      refine J_bi C0 11 dL_look_7 (kk := ?_)
      refine J_icmpgeN C0 31 (by omega) (by omega) dL_look_9 (kt := fun c => False.elim (by omega)) (kf := fun _ => ?_)
      refine J_ldl C0 cl74 dL_look_12 ?_
      refine J_lln C0 1 dL_look_15 (kk := ?_)
      refine J_lmul C0 dL_look_16 ?_
      refine J_aln C0 2 dL_look_17 (kk := ?_)
      refine J_iln C0 0 dL_look_18 (kk := ?_)
      refine J_callVz C0 (mX4_count l K b nA aA d e F Ga D S T (w := w) (by omega)) gL_look_X4_count dL_look_19 1 (kk := ?_)
      show J G _ _ _ _ _ [.int (countC F T w), .long (31 * h)]
      refine J_i2l C0 dL_look_22 (kk := ?_)
      refine J_ladd C0 dL_look_23 ?_
      refine J_lsn C0 [(1, .long ((31 * h) + ((countC F T w).toInt64))), (3, .int (nI w)), (0, .ref (b 0))] dL_look_24 (kk := ?_)
      refine J_iincN C0 1 [(3, .int (nI (w + 1))), (1, .long ((31 * h) + ((countC F T w).toInt64))), (0, .ref (b 0))] dL_look_25 (kk := ?_)
      refine J_goto C0 6 dL_look_28 (kk := ?_)
      exact J_lv [0, 1, 2] rfl (ih (w + 1) _ (by omega) hk)
  have l2 : ∀ (q w : Nat) (h : Int64), w + q = 21 → J G (corkW K b nA aA d e F Ga D S T) [(3, .int (nI 21)), (1, .long (mixF (lookK F) q w h)), (0, .ref (b 0))] 0 0 65 [] → J G (corkW K b nA aA d e F Ga D S T) [(3, .int (nI w)), (1, .long h), (0, .ref (b 0))] 0 0 33 [] := by
    intro q
    induction q with
    | zero =>
      intro w h hq hk
      have hw : w = 21 := by omega
      subst hw
      refine J_iln C0 0 dL_look_33 (kk := ?_)
      refine J_bi C0 21 dL_look_34 (kk := ?_)
      refine J_icmpge C0 65 dL_look_36 (kt := fun _ => ?_) (kf := fun c => absurd (by decide) c)
      exact J_lv [0, 1, 2] rfl hk
    | succ q ih =>
      intro w h hq hk
      refine J_iln C0 0 dL_look_33 (kk := ?_)
      refine J_bi C0 21 dL_look_34 (kk := ?_)
      refine J_icmpgeN C0 65 (by omega) (by omega) dL_look_36 (kt := fun c => False.elim (by omega)) (kf := fun _ => ?_)
      refine J_ldl C0 cl74 dL_look_39 ?_
      refine J_lln C0 1 dL_look_42 (kk := ?_)
      refine J_lmul C0 dL_look_43 ?_
      refine J_aln C0 2 dL_look_44 (kk := ?_)
      refine J_iln C0 0 dL_look_45 (kk := ?_)
      refine J_bi C0 7 dL_look_46 (kk := ?_)
      refine J_idivN C0 (by omega) (by omega) (by omega) dL_look_48 (kk := ?_)
      refine J_iln C0 0 dL_look_49 (kk := ?_)
      refine J_bi C0 7 dL_look_50 (kk := ?_)
      refine J_iremN C0 (by omega) (by omega) (by omega) dL_look_52 (kk := ?_)
      refine J_callWHd C0 hX (k_kind l K b nA aA d e F Ga D S T tl tg (c := (w / 7)) (w := (w % 7)) (by omega) (by omega)) gL_look_L_kind dL_look_53 3 (kk := ?_)
      show J G _ _ _ _ _ [.int (kindC F (w / 7) (w % 7)), .long (31 * h)]
      refine J_i2l C0 dL_look_56 (kk := ?_)
      refine J_ladd C0 dL_look_57 ?_
      refine J_lsn C0 [(1, .long ((31 * h) + ((kindC F (w / 7) (w % 7)).toInt64))), (3, .int (nI w)), (0, .ref (b 0))] dL_look_58 (kk := ?_)
      refine J_iincN C0 1 [(3, .int (nI (w + 1))), (1, .long ((31 * h) + ((kindC F (w / 7) (w % 7)).toInt64))), (0, .ref (b 0))] dL_look_59 (kk := ?_)
      refine J_goto C0 33 dL_look_62 (kk := ?_)
      exact J_lv [0, 1, 2] rfl (ih (w + 1) _ (by omega) hk)
  have l3 : ∀ (q w : Nat) (h : Int64), w + q = 30 * hn → J G (corkW K b nA aA d e F Ga D S T) [(3, .int (nI (30 * hn))), (1, .long (mixF (lookH F) q w h)), (0, .ref (b 0))] 0 0 111 [] → J G (corkW K b nA aA d e F Ga D S T) [(3, .int (nI w)), (1, .long h), (0, .ref (b 0))] 0 0 67 [] := by
    intro q
    induction q with
    | zero =>
      intro w h hq hk
      have hw : w = 30 * hn := by omega
      rw [hw]
      refine J_iln C0 0 dL_look_67 (kk := ?_)
      refine J_bi C0 30 dL_look_68 (kk := ?_)
      refine J_aln C0 2 dL_look_70 (kk := ?_)
      refine J_ic C0 1 dL_look_71 (kk := ?_)
      refine J_callVz C0 (mX4_count l K b nA aA d e F Ga D S T (w := 1) (by decide)) gL_look_X4_count dL_look_72 1 (kk := ?_)
      show J G _ _ _ _ _ [.int (F 0 1), .int (nI 30), .int (nI (30 * hn))]
      refine J_int C0 eh ?_
      refine J_imulN C0 dL_look_75 (kk := ?_)
      refine J_icmpgeN C0 111 (by omega) (by omega) dL_look_76 (kt := fun _ => ?_) (kf := fun c => False.elim (by omega))
      exact J_lv [0, 1, 2] rfl hk
    | succ q ih =>
      intro w h hq hk
      refine J_iln C0 0 dL_look_67 (kk := ?_)
      refine J_bi C0 30 dL_look_68 (kk := ?_)
      refine J_aln C0 2 dL_look_70 (kk := ?_)
      refine J_ic C0 1 dL_look_71 (kk := ?_)
      refine J_callVz C0 (mX4_count l K b nA aA d e F Ga D S T (w := 1) (by decide)) gL_look_X4_count dL_look_72 1 (kk := ?_)
      show J G _ _ _ _ _ [.int (F 0 1), .int (nI 30), .int (nI w)]
      refine J_int C0 eh ?_
      refine J_imulN C0 dL_look_75 (kk := ?_)
      refine J_icmpgeN C0 111 (by omega) (by omega) dL_look_76 (kt := fun c => False.elim (by omega)) (kf := fun _ => ?_)
      refine J_ldl C0 cl74 dL_look_79 ?_
      refine J_lln C0 1 dL_look_82 (kk := ?_)
      refine J_lmul C0 dL_look_83 ?_
      refine J_aln C0 2 dL_look_84 (kk := ?_)
      refine J_iln C0 0 dL_look_85 (kk := ?_)
      refine J_bi C0 30 dL_look_86 (kk := ?_)
      refine J_idivN C0 (by omega) (by omega) (by omega) dL_look_88 (kk := ?_)
      refine J_iln C0 0 dL_look_89 (kk := ?_)
      refine J_bi C0 10 dL_look_90 (kk := ?_)
      refine J_idivN C0 (by omega) (by omega) (by omega) dL_look_92 (kk := ?_)
      refine J_ic C0 3 dL_look_93 (kk := ?_)
      refine J_iremN C0 (by omega) (by omega) (by omega) dL_look_94 (kk := ?_)
      refine J_iln C0 0 dL_look_95 (kk := ?_)
      refine J_bi C0 10 dL_look_96 (kk := ?_)
      refine J_iremN C0 (by omega) (by omega) (by omega) dL_look_98 (kk := ?_)
      refine J_callWHd C0 hX (k_houseOf l K b nA aA d e F Ga D S T tl tg eh h4 (h := (w / 30)) (c := ((w / 10) % 3)) (w := (w % 10)) (by omega) (by omega) (by omega)) gL_look_L_houseOf dL_look_99 4 (kk := ?_)
      show J G _ _ _ _ _ [.int (placeC F ((w / 30) * 3 + ((w / 10) % 3)) (w % 10)), .long (31 * h)]
      refine J_i2l C0 dL_look_102 (kk := ?_)
      refine J_ladd C0 dL_look_103 ?_
      refine J_lsn C0 [(1, .long ((31 * h) + ((placeC F ((w / 30) * 3 + ((w / 10) % 3)) (w % 10)).toInt64))), (3, .int (nI w)), (0, .ref (b 0))] dL_look_104 (kk := ?_)
      refine J_iincN C0 1 [(3, .int (nI (w + 1))), (1, .long ((31 * h) + ((placeC F ((w / 30) * 3 + ((w / 10) % 3)) (w % 10)).toInt64))), (0, .ref (b 0))] dL_look_105 (kk := ?_)
      refine J_goto C0 67 dL_look_108 (kk := ?_)
      exact J_lv [0, 1, 2] rfl (ih (w + 1) _ (by omega) hk)
  have l4 : ∀ (q w : Nat) (h : Int64), w + q = n → J G (corkW K b nA aA d e F Ga D S T) [(3, .int (nI n)), (1, .long (mixT F n q w h)), (0, .ref (b 0))] 0 0 166 [] → J G (corkW K b nA aA d e F Ga D S T) [(3, .int (nI w)), (1, .long h), (0, .ref (b 0))] 0 0 113 [] := by
    intro q
    induction q with
    | zero =>
      intro w h hq hk
      have hw : w = n := by omega
      rw [hw]
      refine J_iln C0 0 dL_look_113 (kk := ?_)
      refine J_aln C0 2 dL_look_114 (kk := ?_)
      refine J_ic C0 2 dL_look_115 (kk := ?_)
      refine J_callVz C0 (mX4_count l K b nA aA d e F Ga D S T (w := 2) (by decide)) gL_look_X4_count dL_look_116 1 (kk := ?_)
      show J G _ _ _ _ _ [.int (F 0 4), .int (nI n)]
      refine J_int C0 en ?_
      refine J_icmpgeN C0 166 (by omega) (by omega) dL_look_119 (kt := fun _ => ?_) (kf := fun c => False.elim (by omega))
      exact J_lv [0, 1, 2] rfl hk
    | succ q ih =>
      intro w h hq hk
      refine J_iln C0 0 dL_look_113 (kk := ?_)
      refine J_aln C0 2 dL_look_114 (kk := ?_)
      refine J_ic C0 2 dL_look_115 (kk := ?_)
      refine J_callVz C0 (mX4_count l K b nA aA d e F Ga D S T (w := 2) (by decide)) gL_look_X4_count dL_look_116 1 (kk := ?_)
      show J G _ _ _ _ _ [.int (F 0 4), .int (nI w)]
      refine J_int C0 en ?_
      refine J_icmpgeN C0 166 (by omega) (by omega) dL_look_119 (kt := fun c => False.elim (by omega)) (kf := fun _ => ?_)
      refine J_ldl C0 cl74 dL_look_122 ?_
      refine J_ldl C0 cl74 dL_look_125 ?_
      refine J_ldl C0 cl74 dL_look_128 ?_
      refine J_lln C0 1 dL_look_131 (kk := ?_)
      refine J_lmul C0 dL_look_132 ?_
      refine J_aln C0 2 dL_look_133 (kk := ?_)
      refine J_iln C0 0 dL_look_134 (kk := ?_)
      refine J_ic C0 0 dL_look_135 (kk := ?_)
      refine J_callWHd C0 hX (k_letter l K b nA aA d e F Ga D S T tl tg en n40 (r := w) (w := 0) (by omega) (by omega)) gL_look_L_letter dL_look_136 3 (kk := ?_)
      show J G _ _ _ _ _ [.int (letC F n w 0), .long (31 * h), .long 31, .long 31]
      refine J_i2l C0 dL_look_139 (kk := ?_)
      refine J_ladd C0 dL_look_140 ?_
      refine J_lmul C0 dL_look_141 ?_
      refine J_aln C0 2 dL_look_142 (kk := ?_)
      refine J_iln C0 0 dL_look_143 (kk := ?_)
      refine J_ic C0 3 dL_look_144 (kk := ?_)
      refine J_callWHd C0 hX (k_letter l K b nA aA d e F Ga D S T tl tg en n40 (r := w) (w := 3) (by omega) (by omega)) gL_look_L_letter dL_look_145 3 (kk := ?_)
      show J G _ _ _ _ _ [.int (letC F n w 3), .long (31 * ((31 * h) + ((letC F n w 0).toInt64))), .long 31]
      refine J_i2l C0 dL_look_148 (kk := ?_)
      refine J_ladd C0 dL_look_149 ?_
      refine J_lmul C0 dL_look_150 ?_
      refine J_aln C0 2 dL_look_151 (kk := ?_)
      refine J_iln C0 0 dL_look_152 (kk := ?_)
      refine J_ic C0 4 dL_look_153 (kk := ?_)
      refine J_callWHd C0 hX (k_letter l K b nA aA d e F Ga D S T tl tg en n40 (r := w) (w := 4) (by omega) (by omega)) gL_look_L_letter dL_look_154 3 (kk := ?_)
      show J G _ _ _ _ _ [.int (letC F n w 4), .long (31 * ((31 * ((31 * h) + ((letC F n w 0).toInt64))) + ((letC F n w 3).toInt64)))]
      refine J_i2l C0 dL_look_157 (kk := ?_)
      refine J_ladd C0 dL_look_158 ?_
      refine J_lsn C0 [(1, .long ((31 * ((31 * ((31 * h) + ((letC F n w 0).toInt64))) + ((letC F n w 3).toInt64))) + ((letC F n w 4).toInt64))), (3, .int (nI w)), (0, .ref (b 0))] dL_look_159 (kk := ?_)
      refine J_iincN C0 1 [(3, .int (nI (w + 1))), (1, .long ((31 * ((31 * ((31 * h) + ((letC F n w 0).toInt64))) + ((letC F n w 3).toInt64))) + ((letC F n w 4).toInt64))), (0, .ref (b 0))] dL_look_160 (kk := ?_)
      refine J_goto C0 113 dL_look_163 (kk := ?_)
      exact J_lv [0, 1, 2] rfl (ih (w + 1) _ (by omega) hk)
  refine J_ldl C0 cl72 dL_look_0 ?_
  refine J_lsn C0 [(1, .long 269), (0, .ref (b 0))] dL_look_3 (kk := ?_)
  refine J_ic C0 0 dL_look_4 (kk := ?_)
  refine J_isn C0 [(3, .int (nI 0)), (1, .long 269), (0, .ref (b 0))] dL_look_5 (kk := ?_)
  refine J_lv [0, 1, 2] (lv2 := [(3, .int (nI 0)), (1, .long 269), (0, .ref (b 0))]) (kk := ?_)
  refine l1 11 0 269 rfl ?_
  rw [look_T]
  refine J_ic C0 0 dL_look_31 (kk := ?_)
  refine J_isn C0 [(3, .int (nI 0)), (1, .long (mixF (countC F (fun _ _ => 0)) 11 0 269)), (0, .ref (b 0))] dL_look_32 (kk := ?_)
  refine J_lv [0, 1, 2] (lv2 := [(3, .int (nI 0)), (1, .long (mixF (countC F (fun _ _ => 0)) 11 0 269)), (0, .ref (b 0))]) (kk := ?_)
  refine l2 21 0 _ rfl ?_
  refine J_ic C0 0 dL_look_65 (kk := ?_)
  refine J_isn C0 [(3, .int (nI 0)), (1, .long (mixF (lookK F) 21 0 (mixF (countC F (fun _ _ => 0)) 11 0 269))), (0, .ref (b 0))] dL_look_66 (kk := ?_)
  refine J_lv [0, 1, 2] (lv2 := [(3, .int (nI 0)), (1, .long (mixF (lookK F) 21 0 (mixF (countC F (fun _ _ => 0)) 11 0 269))), (0, .ref (b 0))]) (kk := ?_)
  refine l3 (30 * hn) 0 _ (Nat.zero_add _) ?_
  refine J_ic C0 0 dL_look_111 (kk := ?_)
  refine J_isn C0 [(3, .int (nI 0)), (1, .long (mixF (lookH F) (30 * hn) 0 (mixF (lookK F) 21 0 (mixF (countC F (fun _ _ => 0)) 11 0 269)))), (0, .ref (b 0))] dL_look_112 (kk := ?_)
  refine J_lv [0, 1, 2] (lv2 := [(3, .int (nI 0)), (1, .long (mixF (lookH F) (30 * hn) 0 (mixF (lookK F) 21 0 (mixF (countC F (fun _ _ => 0)) 11 0 269)))), (0, .ref (b 0))]) (kk := ?_)
  refine l4 n 0 _ (Nat.zero_add _) ?_
  refine J_ldl C0 cl74 dL_look_166 ?_
  refine J_ldl C0 cl74 dL_look_169 ?_
  refine J_ldl C0 cl74 dL_look_172 ?_
  refine J_lln C0 1 dL_look_175 (kk := ?_)
  refine J_lmul C0 dL_look_176 ?_
  refine J_aln C0 2 dL_look_177 (kk := ?_)
  refine J_ic C0 0 dL_look_178 (kk := ?_)
  refine J_callVz C0 (mX4_setting l K b nA aA d e F Ga D S T (c := 0) (by decide)) gL_look_X4_setting dL_look_179 1 (kk := ?_)
  show J G _ _ _ _ _ [.int (F 1 0), .long (31 * (mixT F n n 0 (mixF (lookH F) (30 * hn) 0 (mixF (lookK F) 21 0 (mixF (countC F (fun _ _ => 0)) 11 0 269))))), .long 31, .long 31]
  refine J_i2l C0 dL_look_182 (kk := ?_)
  refine J_ladd C0 dL_look_183 ?_
  refine J_lmul C0 dL_look_184 ?_
  refine J_aln C0 2 dL_look_185 (kk := ?_)
  refine J_ic C0 1 dL_look_186 (kk := ?_)
  refine J_callVz C0 (mX4_setting l K b nA aA d e F Ga D S T (c := 1) (by decide)) gL_look_X4_setting dL_look_187 1 (kk := ?_)
  show J G _ _ _ _ _ [.int (F 1 1), .long (31 * ((31 * (mixT F n n 0 (mixF (lookH F) (30 * hn) 0 (mixF (lookK F) 21 0 (mixF (countC F (fun _ _ => 0)) 11 0 269))))) + ((F 1 0).toInt64))), .long 31]
  refine J_i2l C0 dL_look_190 (kk := ?_)
  refine J_ladd C0 dL_look_191 ?_
  refine J_lmul C0 dL_look_192 ?_
  refine J_aln C0 2 dL_look_193 (kk := ?_)
  refine J_ic C0 2 dL_look_194 (kk := ?_)
  refine J_callVz C0 (mX4_setting l K b nA aA d e F Ga D S T (c := 2) (by decide)) gL_look_X4_setting dL_look_195 1 (kk := ?_)
  show J G _ _ _ _ _ [.int (F 1 2), .long (31 * ((31 * ((31 * (mixT F n n 0 (mixF (lookH F) (30 * hn) 0 (mixF (lookK F) 21 0 (mixF (countC F (fun _ _ => 0)) 11 0 269))))) + ((F 1 0).toInt64))) + ((F 1 1).toInt64)))]
  refine J_i2l C0 dL_look_198 (kk := ?_)
  refine J_ladd C0 dL_look_199 ?_
  exact J_lret C0 hF dL_look_200 ⟨rfl, rfl⟩
