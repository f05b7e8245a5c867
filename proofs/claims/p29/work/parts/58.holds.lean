/-! holds(): each comparison by what holds of the state -/
abbrev rmL_holds : Room := { frames := 10, cells := 0, slots := 0, locals := 300 }
set_option maxHeartbeats 4000000 in
set_option maxRecDepth 100000 in
theorem mL_holds (l : Launch) (K : KT) (b nA aA : Nat → Nat) (d e : Nat → Nat → Nat) (F Ga : FF) (D S : Nat → FF) (T : FF) (tl tg : Nat) {B C hn n : Nat} {N : Nat → Nat → Nat} (h : InvN B F hn n N) (hB : B < 2 ^ 26) (hE : EB F) (hS : SL C F) (hC : C < 2 ^ 26) : CtW l K yL_holds wsL_holds rmL_holds [.ref (b 0)] (corkW K b nA aA d e F Ga D S T) (some (.int (nI 1))) (corkW K b nA aA d e F Ga D S T) tl tg := by
  refine CtWP_of (cc := cL_holds) (nL := 9) (rt := some .boolean) (own := RL) (lv0 := [(0, .ref (b 0))]) (by decide) rfl (Nat.le_of_ble_eq_true rfl) rfl rfl ?_
  intro G C0 hF hX
  have eh := h.1.1
  have h4 := h.1.2
  obtain ⟨a9, b9, ha, hb, -, hab, h31⟩ := share_nat h hB
  have inner : ∀ (k : Nat) (w o f hd : Int32), k < 3 → ∀ (q j : Nat), j + q = hn → J G (corkW K b nA aA d e F Ga D S T) [(8, .int (nI hn)), (7, .int (colA (outS F) k (nI 0) hn)), (1, .int (colA (F 11) k w hn)), (4, .int (colA (hidF F) k hd hn)), (5, .int (nI 1)), (2, .int o), (3, .int f), (6, .int (nI k)), (0, .ref (b 0))] 0 0 226 [] → J G (corkW K b nA aA d e F Ga D S T) [(8, .int (nI j)), (7, .int (colA (outS F) k (nI 0) j)), (1, .int (colA (F 11) k w j)), (4, .int (colA (hidF F) k hd j)), (5, .int (nI 1)), (2, .int o), (3, .int f), (6, .int (nI k)), (0, .ref (b 0))] 0 0 32 [] := by
    intro k w o f hd hk q
    induction q with
    | zero =>
      intro j hq hK
      have hj : j = hn := by omega
      rw [hj]
      refine J_il C0 0 dL_holds_32 (kk := ?_)
      refine J_aln C0 8 dL_holds_34 (kk := ?_)
      refine J_ic C0 1 dL_holds_35 (kk := ?_)
      refine J_callVz C0 (mX4_count l K b nA aA d e F Ga D S T (w := 1) (by decide)) gL_holds_X4_count dL_holds_36 1 (kk := ?_)
      show J G _ _ _ _ _ [.int (F 0 1), .int (nI hn)]
      refine J_int C0 eh ?_
      refine J_icmpgeN C0 226 (by omega) (by omega) dL_holds_39 (kt := fun _ => ?_) (kf := fun c => False.elim (by omega))
      exact hK
    | succ q ih =>
      intro j hq hK
      have hp : j * 3 + k < 12 := by omega
      have t198 : J G (corkW K b nA aA d e F Ga D S T) [(4, .int ((colA (hidF F) k hd j) + (hidF F (j * 3 + k)))), (1, .int ((colA (F 11) k w j) + (F 11 (j * 3 + k)))), (7, .int ((colA (outS F) k (nI 0) j) + (outS F (j * 3 + k)))), (8, .int (nI j)), (5, .int (nI 1)), (2, .int o), (3, .int f), (6, .int (nI k)), (0, .ref (b 0))] 0 0 198 [] := by
        refine J_aln C0 8 dL_holds_198 (kk := ?_)
        refine J_il C0 3 dL_holds_199 (kk := ?_)
        refine J_il C0 7 dL_holds_201 (kk := ?_)
        refine J_bi C0 6 dL_holds_203 (kk := ?_)
        refine J_callWHd C0 hX (k_houseOf l K b nA aA d e F Ga D S T tl tg eh h4 (h := j) (c := k) (w := 6) (by omega) (by omega) (by decide)) gL_holds_L_houseOf dL_holds_205 4 (kk := ?_)
        show J G _ _ _ _ _ [.int (F 11 (j * 3 + k))]
        refine J_bi C0 9 dL_holds_208 (kk := ?_)
        refine J_icmpgt C0 217 dL_holds_210 (kt := fun c => absurd c (ho_w9 h hp)) (kf := fun _ => ?_)
        refine J_ic C0 1 dL_holds_213 (kk := ?_)
        refine J_goto C0 218 dL_holds_214 (kk := ?_)
        refine J_is C0 [(5, .int (nI 1)), (4, .int ((colA (hidF F) k hd j) + (hidF F (j * 3 + k)))), (1, .int ((colA (F 11) k w j) + (F 11 (j * 3 + k)))), (7, .int ((colA (outS F) k (nI 0) j) + (outS F (j * 3 + k)))), (8, .int (nI j)), (2, .int o), (3, .int f), (6, .int (nI k)), (0, .ref (b 0))] dL_holds_218 (kk := ?_)
        refine J_iincN C0 4 [(8, .int (nI (j + 1))), (5, .int (nI 1)), (4, .int ((colA (hidF F) k hd j) + (hidF F (j * 3 + k)))), (1, .int ((colA (F 11) k w j) + (F 11 (j * 3 + k)))), (7, .int ((colA (outS F) k (nI 0) j) + (outS F (j * 3 + k)))), (2, .int o), (3, .int f), (6, .int (nI k)), (0, .ref (b 0))] dL_holds_220 (kk := ?_)
        refine J_goto C0 32 dL_holds_223 (kk := ?_)
        exact J_lv [0, 4, 3, 2, 1, 5, 6, 7, 8] rfl (ih (j + 1) (by omega) hK)
      refine J_il C0 0 dL_holds_32 (kk := ?_)
      refine J_aln C0 8 dL_holds_34 (kk := ?_)
      refine J_ic C0 1 dL_holds_35 (kk := ?_)
      refine J_callVz C0 (mX4_count l K b nA aA d e F Ga D S T (w := 1) (by decide)) gL_holds_X4_count dL_holds_36 1 (kk := ?_)
      show J G _ _ _ _ _ [.int (F 0 1), .int (nI j)]
      refine J_int C0 eh ?_
      refine J_icmpgeN C0 226 (by omega) (by omega) dL_holds_39 (kt := fun c => False.elim (by omega)) (kf := fun _ => ?_)
      refine J_il C0 1 dL_holds_42 (kk := ?_)
      refine J_aln C0 8 dL_holds_44 (kk := ?_)
      refine J_il C0 0 dL_holds_45 (kk := ?_)
      refine J_il C0 7 dL_holds_47 (kk := ?_)
      refine J_ic C0 2 dL_holds_49 (kk := ?_)
      refine J_callWHd C0 hX (k_houseOf l K b nA aA d e F Ga D S T tl tg eh h4 (h := j) (c := k) (w := 2) (by omega) (by omega) (by decide)) gL_holds_L_houseOf dL_holds_50 4 (kk := ?_)
      show J G _ _ _ _ _ [.int (outS F (j * 3 + k)), .int (colA (outS F) k (nI 0) j)]
      refine J_iadd C0 dL_holds_53 (kk := ?_)
      refine J_is C0 [(7, .int ((colA (outS F) k (nI 0) j) + (outS F (j * 3 + k)))), (8, .int (nI j)), (1, .int (colA (F 11) k w j)), (4, .int (colA (hidF F) k hd j)), (5, .int (nI 1)), (2, .int o), (3, .int f), (6, .int (nI k)), (0, .ref (b 0))] dL_holds_54 (kk := ?_)
      refine J_iln C0 2 dL_holds_56 (kk := ?_)
      refine J_aln C0 8 dL_holds_57 (kk := ?_)
      refine J_il C0 1 dL_holds_58 (kk := ?_)
      refine J_il C0 7 dL_holds_60 (kk := ?_)
      refine J_bi C0 6 dL_holds_62 (kk := ?_)
      refine J_callWHd C0 hX (k_houseOf l K b nA aA d e F Ga D S T tl tg eh h4 (h := j) (c := k) (w := 6) (by omega) (by omega) (by decide)) gL_holds_L_houseOf dL_holds_64 4 (kk := ?_)
      show J G _ _ _ _ _ [.int (F 11 (j * 3 + k)), .int (colA (F 11) k w j)]
      refine J_iadd C0 dL_holds_67 (kk := ?_)
      refine J_isn C0 [(1, .int ((colA (F 11) k w j) + (F 11 (j * 3 + k)))), (7, .int ((colA (outS F) k (nI 0) j) + (outS F (j * 3 + k)))), (8, .int (nI j)), (4, .int (colA (hidF F) k hd j)), (5, .int (nI 1)), (2, .int o), (3, .int f), (6, .int (nI k)), (0, .ref (b 0))] dL_holds_68 (kk := ?_)
      refine J_il C0 3 dL_holds_69 (kk := ?_)
      refine J_aln C0 8 dL_holds_71 (kk := ?_)
      refine J_il C0 2 dL_holds_72 (kk := ?_)
      refine J_il C0 7 dL_holds_74 (kk := ?_)
      refine J_bi C0 9 dL_holds_76 (kk := ?_)
      refine J_callWHd C0 hX (k_houseOf l K b nA aA d e F Ga D S T tl tg eh h4 (h := j) (c := k) (w := 9) (by omega) (by omega) (by decide)) gL_holds_L_houseOf dL_holds_78 4 (kk := ?_)
      show J G _ _ _ _ _ [.int (hidF F (j * 3 + k)), .int (colA (hidF F) k hd j)]
      refine J_iadd C0 dL_holds_81 (kk := ?_)
      refine J_is C0 [(4, .int ((colA (hidF F) k hd j) + (hidF F (j * 3 + k)))), (1, .int ((colA (F 11) k w j) + (F 11 (j * 3 + k)))), (7, .int ((colA (outS F) k (nI 0) j) + (outS F (j * 3 + k)))), (8, .int (nI j)), (5, .int (nI 1)), (2, .int o), (3, .int f), (6, .int (nI k)), (0, .ref (b 0))] dL_holds_82 (kk := ?_)
      refine J_il C0 4 dL_holds_84 (kk := ?_)
      refine J_ifeq C0 217 dL_holds_86 (kt := fun c => absurd c (by decide)) (kf := fun _ => ?_)
      refine J_aln C0 8 dL_holds_89 (kk := ?_)
      refine J_il C0 3 dL_holds_90 (kk := ?_)
      refine J_il C0 7 dL_holds_92 (kk := ?_)
      refine J_ic C0 5 dL_holds_94 (kk := ?_)
      refine J_callWHd C0 hX (k_houseOf l K b nA aA d e F Ga D S T tl tg eh h4 (h := j) (c := k) (w := 5) (by omega) (by omega) (by decide)) gL_holds_L_houseOf dL_holds_95 4 (kk := ?_)
      show J G _ _ _ _ _ [.int (corksS F (j * 3 + k))]
      refine J_aln C0 8 dL_holds_98 (kk := ?_)
      refine J_il C0 3 dL_holds_99 (kk := ?_)
      refine J_il C0 7 dL_holds_101 (kk := ?_)
      refine J_ic C0 3 dL_holds_103 (kk := ?_)
      refine J_callWHd C0 hX (k_houseOf l K b nA aA d e F Ga D S T tl tg eh h4 (h := j) (c := k) (w := 3) (by omega) (by omega) (by decide)) gL_holds_L_houseOf dL_holds_104 4 (kk := ?_)
      show J G _ _ _ _ _ [.int (F 9 (j * 3 + k)), .int (corksS F (j * 3 + k))]
      refine J_aln C0 8 dL_holds_107 (kk := ?_)
      refine J_il C0 3 dL_holds_108 (kk := ?_)
      refine J_il C0 7 dL_holds_110 (kk := ?_)
      refine J_ic C0 4 dL_holds_112 (kk := ?_)
      refine J_callWHd C0 hX (k_houseOf l K b nA aA d e F Ga D S T tl tg eh h4 (h := j) (c := k) (w := 4) (by omega) (by omega) (by decide)) gL_holds_L_houseOf dL_holds_113 4 (kk := ?_)
      show J G _ _ _ _ _ [.int (F 10 (j * 3 + k)), .int (F 9 (j * 3 + k)), .int (corksS F (j * 3 + k))]
      refine J_isub C0 dL_holds_116 (kk := ?_)
      refine J_icmpne C0 217 dL_holds_117 (kt := fun c => absurd (show corksS F (j * 3 + k) = F 9 (j * 3 + k) - F 10 (j * 3 + k) from rfl) c) (kf := fun _ => ?_)
      refine J_aln C0 8 dL_holds_120 (kk := ?_)
      refine J_il C0 3 dL_holds_121 (kk := ?_)
      refine J_il C0 7 dL_holds_123 (kk := ?_)
      refine J_ic C0 5 dL_holds_125 (kk := ?_)
      refine J_callWHd C0 hX (k_houseOf l K b nA aA d e F Ga D S T tl tg eh h4 (h := j) (c := k) (w := 5) (by omega) (by omega) (by decide)) gL_holds_L_houseOf dL_holds_126 4 (kk := ?_)
      show J G _ _ _ _ _ [.int (corksS F (j * 3 + k))]
      refine J_iflt C0 217 dL_holds_129 (kt := fun c => absurd c (ho_corks h hB hp)) (kf := fun _ => ?_)
      refine J_aln C0 8 dL_holds_132 (kk := ?_)
      refine J_il C0 3 dL_holds_133 (kk := ?_)
      refine J_il C0 7 dL_holds_135 (kk := ?_)
      refine J_bi C0 8 dL_holds_137 (kk := ?_)
      refine J_callWHd C0 hX (k_houseOf l K b nA aA d e F Ga D S T tl tg eh h4 (h := j) (c := k) (w := 8) (by omega) (by omega) (by decide)) gL_holds_L_houseOf dL_holds_139 4 (kk := ?_)
      show J G _ _ _ _ _ [.int (F 7 (j * 3 + k) - F 9 (j * 3 + k))]
      refine J_iflt C0 217 dL_holds_142 (kt := fun c => absurd c (ho_8 h hB hp)) (kf := fun _ => ?_)
      refine J_aln C0 8 dL_holds_145 (kk := ?_)
      refine J_il C0 3 dL_holds_146 (kk := ?_)
      refine J_il C0 7 dL_holds_148 (kk := ?_)
      refine J_bi C0 9 dL_holds_150 (kk := ?_)
      refine J_callWHd C0 hX (k_houseOf l K b nA aA d e F Ga D S T tl tg eh h4 (h := j) (c := k) (w := 9) (by omega) (by omega) (by decide)) gL_holds_L_houseOf dL_holds_152 4 (kk := ?_)
      show J G _ _ _ _ _ [.int (hidF F (j * 3 + k))]
      refine J_iflt C0 217 dL_holds_155 (kt := fun c => absurd c (ho_9 h hB hp)) (kf := fun _ => ?_)
      by_cases hz : F 11 (j * 3 + k) = 0
      · refine J_aln C0 8 dL_holds_158 (kk := ?_)
        refine J_il C0 3 dL_holds_159 (kk := ?_)
        refine J_il C0 7 dL_holds_161 (kk := ?_)
        refine J_bi C0 7 dL_holds_163 (kk := ?_)
        refine J_callWHd C0 hX (k_houseOf l K b nA aA d e F Ga D S T tl tg eh h4 (h := j) (c := k) (w := 7) (by omega) (by omega) (by decide)) gL_holds_L_houseOf dL_holds_165 4 (kk := ?_)
        show J G _ _ _ _ _ [.int (whyC F (j * 3 + k))]
        refine J_ic C0 1 dL_holds_168 (kk := ?_)
        refine J_icmpne C0 176 dL_holds_169 (kt := fun c => absurd ((ho_why h hp).mpr hz) c) (kf := fun _ => ?_)
        refine J_ic C0 1 dL_holds_172 (kk := ?_)
        refine J_goto C0 177 dL_holds_173 (kk := ?_)
        refine J_aln C0 8 dL_holds_177 (kk := ?_)
        refine J_il C0 3 dL_holds_178 (kk := ?_)
        refine J_il C0 7 dL_holds_180 (kk := ?_)
        refine J_bi C0 6 dL_holds_182 (kk := ?_)
        refine J_callWHd C0 hX (k_houseOf l K b nA aA d e F Ga D S T tl tg eh h4 (h := j) (c := k) (w := 6) (by omega) (by omega) (by decide)) gL_holds_L_houseOf dL_holds_184 4 (kk := ?_)
        show J G _ _ _ _ _ [.int (F 11 (j * 3 + k)), .int (nI 1)]
        refine J_ifne C0 194 dL_holds_187 (kt := fun c => absurd hz c) (kf := fun _ => ?_)
        refine J_ic C0 1 dL_holds_190 (kk := ?_)
        refine J_goto C0 195 dL_holds_191 (kk := ?_)
        refine J_icmpne C0 217 dL_holds_195 (kt := fun c => absurd (by decide) c) (kf := fun _ => ?_)
        exact t198
      · refine J_aln C0 8 dL_holds_158 (kk := ?_)
        refine J_il C0 3 dL_holds_159 (kk := ?_)
        refine J_il C0 7 dL_holds_161 (kk := ?_)
        refine J_bi C0 7 dL_holds_163 (kk := ?_)
        refine J_callWHd C0 hX (k_houseOf l K b nA aA d e F Ga D S T tl tg eh h4 (h := j) (c := k) (w := 7) (by omega) (by omega) (by decide)) gL_holds_L_houseOf dL_holds_165 4 (kk := ?_)
        show J G _ _ _ _ _ [.int (whyC F (j * 3 + k))]
        refine J_ic C0 1 dL_holds_168 (kk := ?_)
        refine J_icmpne C0 176 dL_holds_169 (kt := fun _ => ?_) (kf := fun c => absurd c (fun z => hz ((ho_why h hp).mp z)))
        refine J_ic C0 0 dL_holds_176 (kk := ?_)
        refine J_aln C0 8 dL_holds_177 (kk := ?_)
        refine J_il C0 3 dL_holds_178 (kk := ?_)
        refine J_il C0 7 dL_holds_180 (kk := ?_)
        refine J_bi C0 6 dL_holds_182 (kk := ?_)
        refine J_callWHd C0 hX (k_houseOf l K b nA aA d e F Ga D S T tl tg eh h4 (h := j) (c := k) (w := 6) (by omega) (by omega) (by decide)) gL_holds_L_houseOf dL_holds_184 4 (kk := ?_)
        show J G _ _ _ _ _ [.int (F 11 (j * 3 + k)), .int (nI 0)]
        refine J_ifne C0 194 dL_holds_187 (kt := fun _ => ?_) (kf := fun c => absurd c hz)
        refine J_ic C0 0 dL_holds_194 (kk := ?_)
        refine J_icmpne C0 217 dL_holds_195 (kt := fun c => absurd (by decide) c) (kf := fun _ => ?_)
        exact t198
  have outer : ∀ (k : Nat) (w o f hd : Int32), k < 3 → J G (corkW K b nA aA d e F Ga D S T) [(6, .int (nI (k + 1))), (1, .int (colA (F 11) k w hn)), (2, .int (o + colA (outS F) k (nI 0) hn)), (3, .int (f + F 3 k)), (4, .int (colA (hidF F) k hd hn)), (5, .int (nI 1)), (0, .ref (b 0))] 0 0 15 [] → J G (corkW K b nA aA d e F Ga D S T) [(6, .int (nI k)), (1, .int w), (2, .int o), (3, .int f), (4, .int hd), (5, .int (nI 1)), (0, .ref (b 0))] 0 0 15 [] := by
    intro k w o f hd hk hK
    refine J_il C0 0 dL_holds_15 (kk := ?_)
    refine J_ic C0 3 dL_holds_17 (kk := ?_)
    refine J_icmpgeN C0 336 (by omega) (by omega) dL_holds_18 (kt := fun c => False.elim (by omega)) (kf := fun _ => ?_)
    refine J_il C0 5 dL_holds_21 (kk := ?_)
    refine J_ifeq C0 336 dL_holds_23 (kt := fun c => absurd c (by decide)) (kf := fun _ => ?_)
    refine J_ic C0 0 dL_holds_26 (kk := ?_)
    refine J_is C0 [(7, .int (nI 0)), (6, .int (nI k)), (1, .int w), (2, .int o), (3, .int f), (4, .int hd), (5, .int (nI 1)), (0, .ref (b 0))] dL_holds_27 (kk := ?_)
    refine J_ic C0 0 dL_holds_29 (kk := ?_)
    refine J_is C0 [(8, .int (nI 0)), (7, .int (nI 0)), (6, .int (nI k)), (1, .int w), (2, .int o), (3, .int f), (4, .int hd), (5, .int (nI 1)), (0, .ref (b 0))] dL_holds_30 (kk := ?_)
    refine J_lv [0, 1, 3, 6, 7, 4, 5, 2, 8] rfl (inner k w o f hd hk hn 0 (Nat.zero_add _) ?_)
    refine J_iln C0 5 dL_holds_226 (kk := ?_)
    refine J_il C0 1 dL_holds_227 (kk := ?_)
    refine J_iadd C0 dL_holds_229 (kk := ?_)
    refine J_isn C0 [(2, .int (o + (colA (outS F) k (nI 0) hn))), (8, .int (nI hn)), (7, .int (colA (outS F) k (nI 0) hn)), (1, .int (colA (F 11) k w hn)), (4, .int (colA (hidF F) k hd hn)), (5, .int (nI 1)), (3, .int f), (6, .int (nI k)), (0, .ref (b 0))] dL_holds_230 (kk := ?_)
    refine J_iln C0 6 dL_holds_231 (kk := ?_)
    refine J_aln C0 8 dL_holds_232 (kk := ?_)
    refine J_il C0 7 dL_holds_233 (kk := ?_)
    refine J_ic C0 1 dL_holds_235 (kk := ?_)
    refine J_callWHd C0 hX (k_kind l K b nA aA d e F Ga D S T tl tg (c := k) (w := 1) (by omega) (by decide)) gL_holds_L_kind dL_holds_236 3 (kk := ?_)
    show J G _ _ _ _ _ [.int (F 3 k), .int f]
    refine J_iadd C0 dL_holds_239 (kk := ?_)
    refine J_isn C0 [(3, .int (f + (F 3 k))), (2, .int (o + (colA (outS F) k (nI 0) hn))), (8, .int (nI hn)), (7, .int (colA (outS F) k (nI 0) hn)), (1, .int (colA (F 11) k w hn)), (4, .int (colA (hidF F) k hd hn)), (5, .int (nI 1)), (6, .int (nI k)), (0, .ref (b 0))] dL_holds_240 (kk := ?_)
    refine J_il C0 6 dL_holds_241 (kk := ?_)
    refine J_ifeq C0 327 dL_holds_243 (kt := fun c => absurd c (by decide)) (kf := fun _ => ?_)
    refine J_aln C0 8 dL_holds_246 (kk := ?_)
    refine J_il C0 7 dL_holds_247 (kk := ?_)
    refine J_ic C0 1 dL_holds_249 (kk := ?_)
    refine J_callWHd C0 hX (k_kind l K b nA aA d e F Ga D S T tl tg (c := k) (w := 1) (by omega) (by decide)) gL_holds_L_kind dL_holds_250 3 (kk := ?_)
    show J G _ _ _ _ _ [.int (F 3 k)]
    refine J_aln C0 8 dL_holds_253 (kk := ?_)
    refine J_il C0 7 dL_holds_254 (kk := ?_)
    refine J_ic C0 2 dL_holds_256 (kk := ?_)
    refine J_callWHd C0 hX (k_kind l K b nA aA d e F Ga D S T tl tg (c := k) (w := 2) (by omega) (by decide)) gL_holds_L_kind dL_holds_257 3 (kk := ?_)
    show J G _ _ _ _ _ [.int (outK F k), .int (F 3 k)]
    refine J_iadd C0 dL_holds_260 (kk := ?_)
    refine J_aln C0 8 dL_holds_261 (kk := ?_)
    refine J_il C0 7 dL_holds_262 (kk := ?_)
    refine J_ic C0 0 dL_holds_264 (kk := ?_)
    refine J_callWHd C0 hX (k_kind l K b nA aA d e F Ga D S T tl tg (c := k) (w := 0) (by omega) (by decide)) gL_holds_L_kind dL_holds_265 3 (kk := ?_)
    show J G _ _ _ _ _ [.int (F 2 k), .int ((F 3 k) + (outK F k))]
    refine J_icmpgt C0 327 dL_holds_268 (kt := fun c => absurd c ((ho_full h hB hE hk).1)) (kf := fun _ => ?_)
    refine J_aln C0 8 dL_holds_271 (kk := ?_)
    refine J_il C0 7 dL_holds_272 (kk := ?_)
    refine J_ic C0 0 dL_holds_274 (kk := ?_)
    refine J_callWHd C0 hX (k_kind l K b nA aA d e F Ga D S T tl tg (c := k) (w := 0) (by omega) (by decide)) gL_holds_L_kind dL_holds_275 3 (kk := ?_)
    show J G _ _ _ _ _ [.int (F 2 k)]
    refine J_bi C0 20 dL_holds_278 (kk := ?_)
    refine J_icmpgt C0 327 dL_holds_280 (kt := fun c => absurd c ((ho_full h hB hE hk).2)) (kf := fun _ => ?_)
    refine J_aln C0 8 dL_holds_283 (kk := ?_)
    refine J_il C0 7 dL_holds_284 (kk := ?_)
    refine J_ic C0 2 dL_holds_286 (kk := ?_)
    refine J_callWHd C0 hX (k_kind l K b nA aA d e F Ga D S T tl tg (c := k) (w := 2) (by omega) (by decide)) gL_holds_L_kind dL_holds_287 3 (kk := ?_)
    show J G _ _ _ _ _ [.int (outK F k)]
    refine J_il C0 3 dL_holds_290 (kk := ?_)
    refine J_icmpne C0 327 dL_holds_292 (kt := fun c => absurd (ho_outK h hk) c) (kf := fun _ => ?_)
    refine J_aln C0 8 dL_holds_295 (kk := ?_)
    refine J_il C0 7 dL_holds_296 (kk := ?_)
    refine J_ic C0 3 dL_holds_298 (kk := ?_)
    refine J_callWHd C0 hX (k_kind l K b nA aA d e F Ga D S T tl tg (c := k) (w := 3) (by omega) (by decide)) gL_holds_L_kind dL_holds_299 3 (kk := ?_)
    show J G _ _ _ _ _ [.int (freeS F k)]
    refine J_aln C0 8 dL_holds_302 (kk := ?_)
    refine J_il C0 7 dL_holds_303 (kk := ?_)
    refine J_ic C0 0 dL_holds_305 (kk := ?_)
    refine J_callWHd C0 hX (k_kind l K b nA aA d e F Ga D S T tl tg (c := k) (w := 0) (by omega) (by decide)) gL_holds_L_kind dL_holds_306 3 (kk := ?_)
    show J G _ _ _ _ _ [.int (F 2 k), .int (freeS F k)]
    refine J_aln C0 8 dL_holds_309 (kk := ?_)
    refine J_il C0 7 dL_holds_310 (kk := ?_)
    refine J_ic C0 1 dL_holds_312 (kk := ?_)
    refine J_callWHd C0 hX (k_kind l K b nA aA d e F Ga D S T tl tg (c := k) (w := 1) (by omega) (by decide)) gL_holds_L_kind dL_holds_313 3 (kk := ?_)
    show J G _ _ _ _ _ [.int (F 3 k), .int (F 2 k), .int (freeS F k)]
    refine J_isub C0 dL_holds_316 (kk := ?_)
    refine J_il C0 3 dL_holds_317 (kk := ?_)
    refine J_isub C0 dL_holds_319 (kk := ?_)
    refine J_icmpne C0 327 dL_holds_320 (kt := fun c => absurd (show freeS F k = F 2 k - F 3 k - colA (outS F) k (nI 0) hn from by rw [← ho_outK h hk]; rfl) c) (kf := fun _ => ?_)
    refine J_ic C0 1 dL_holds_323 (kk := ?_)
    refine J_goto C0 328 dL_holds_324 (kk := ?_)
    refine J_is C0 [(5, .int (nI 1)), (3, .int (f + (F 3 k))), (2, .int (o + (colA (outS F) k (nI 0) hn))), (8, .int (nI hn)), (7, .int (colA (outS F) k (nI 0) hn)), (1, .int (colA (F 11) k w hn)), (4, .int (colA (hidF F) k hd hn)), (6, .int (nI k)), (0, .ref (b 0))] dL_holds_328 (kk := ?_)
    refine J_iincN C0 7 [(6, .int (nI (k + 1))), (5, .int (nI 1)), (3, .int (f + (F 3 k))), (2, .int (o + (colA (outS F) k (nI 0) hn))), (8, .int (nI hn)), (7, .int (colA (outS F) k (nI 0) hn)), (1, .int (colA (F 11) k w hn)), (4, .int (colA (hidF F) k hd hn)), (0, .ref (b 0))] dL_holds_330 (kk := ?_)
    refine J_goto C0 15 dL_holds_333 (kk := ?_)
    exact J_lv [0, 6, 3, 2, 7, 1, 8] rfl hK
  refine J_ic C0 0 dL_holds_0 (kk := ?_)
  refine J_isn C0 [(1, .int (nI 0)), (0, .ref (b 0))] dL_holds_1 (kk := ?_)
  refine J_ic C0 0 dL_holds_2 (kk := ?_)
  refine J_isn C0 [(2, .int (nI 0)), (1, .int (nI 0)), (0, .ref (b 0))] dL_holds_3 (kk := ?_)
  refine J_ic C0 0 dL_holds_4 (kk := ?_)
  refine J_isn C0 [(3, .int (nI 0)), (2, .int (nI 0)), (1, .int (nI 0)), (0, .ref (b 0))] dL_holds_5 (kk := ?_)
  refine J_ic C0 0 dL_holds_6 (kk := ?_)
  refine J_is C0 [(4, .int (nI 0)), (3, .int (nI 0)), (2, .int (nI 0)), (1, .int (nI 0)), (0, .ref (b 0))] dL_holds_7 (kk := ?_)
  refine J_ic C0 1 dL_holds_9 (kk := ?_)
  refine J_is C0 [(5, .int (nI 1)), (4, .int (nI 0)), (3, .int (nI 0)), (2, .int (nI 0)), (1, .int (nI 0)), (0, .ref (b 0))] dL_holds_10 (kk := ?_)
  refine J_ic C0 0 dL_holds_12 (kk := ?_)
  refine J_is C0 [(6, .int (nI 0)), (5, .int (nI 1)), (4, .int (nI 0)), (3, .int (nI 0)), (2, .int (nI 0)), (1, .int (nI 0)), (0, .ref (b 0))] dL_holds_13 (kk := ?_)
  refine J_lv [0, 5, 4, 3, 2, 1, 6] rfl (outer 0 (nI 0) (nI 0) (nI 0) (nI 0) (by decide) ?_)
  refine outer 1 _ _ _ _ (by decide) ?_
  refine outer 2 _ _ _ _ (by decide) ?_
  have t473 : J G (corkW K b nA aA d e F Ga D S T) [(6, .int (nI 3)), (1, .int (colA (F 11) 2 (colA (F 11) 1 (colA (F 11) 0 (nI 0) hn) hn) hn)), (2, .int (nI 0 + colA (outS F) 0 (nI 0) hn + colA (outS F) 1 (nI 0) hn + colA (outS F) 2 (nI 0) hn)), (3, .int (nI 0 + F 3 0 + F 3 1 + F 3 2)), (4, .int (colA (hidF F) 2 (colA (hidF F) 1 (colA (hidF F) 0 (nI 0) hn) hn) hn)), (5, .int (nI 1)), (0, .ref (b 0))] 0 0 473 [] := by
    refine J_aln C0 6 dL_holds_473 (kk := ?_)
    refine J_callVz C0 (mX4_arrivedShare l K b nA aA d e F Ga D S T ha hb hab h31) gL_holds_X4_arrivedShare dL_holds_474 0 (kk := ?_)
    show J G _ _ _ _ _ [.double (shareN a9 b9)]
    refine J_dc0 C0 dL_holds_477 (kk := ?_)
    refine J_dcmp C0 dL_holds_478 (kk := ?_)
    refine J_iflt C0 495 dL_holds_479 (kt := fun c => absurd c ((share_1 hab h31).1)) (kf := fun _ => ?_)
    refine J_aln C0 6 dL_holds_482 (kk := ?_)
    refine J_callVz C0 (mX4_arrivedShare l K b nA aA d e F Ga D S T ha hb hab h31) gL_holds_X4_arrivedShare dL_holds_483 0 (kk := ?_)
    show J G _ _ _ _ _ [.double (shareN a9 b9)]
    refine J_dc1 C0 dL_holds_486 (kk := ?_)
    refine J_dcmp C0 dL_holds_487 (kk := ?_)
    refine J_ifgt C0 495 dL_holds_488 (kt := fun c => absurd c ((share_1 hab h31).2)) (kf := fun _ => ?_)
    refine J_ic C0 1 dL_holds_491 (kk := ?_)
    refine J_goto C0 496 dL_holds_492 (kk := ?_)
    exact J_zret C0 hF dL_holds_496 (by decide) ⟨rfl, rfl⟩
  refine J_il C0 0 dL_holds_15 (kk := ?_)
  refine J_ic C0 3 dL_holds_17 (kk := ?_)
  refine J_icmpge C0 336 dL_holds_18 (kt := fun _ => ?_) (kf := fun c => absurd (by decide) c)
  refine J_il C0 5 dL_holds_336 (kk := ?_)
  refine J_ifeq C0 495 dL_holds_338 (kt := fun c => absurd c (by decide)) (kf := fun _ => ?_)
  refine J_iln C0 1 dL_holds_341 (kk := ?_)
  refine J_aln C0 6 dL_holds_342 (kk := ?_)
  refine J_bi C0 8 dL_holds_343 (kk := ?_)
  refine J_callVz C0 (mX4_count l K b nA aA d e F Ga D S T (w := 8) (by decide)) gL_holds_X4_count dL_holds_345 1 (kk := ?_)
  show J G _ _ _ _ _ [.int (sumS (F 11) 12), .int (colA (F 11) 2 (colA (F 11) 1 (colA (F 11) 0 (nI 0) hn) hn) hn)]
  refine J_icmpne C0 495 dL_holds_348 (kt := fun c => absurd (ho_waits h) c) (kf := fun _ => ?_)
  refine J_iln C0 2 dL_holds_351 (kk := ?_)
  refine J_aln C0 6 dL_holds_352 (kk := ?_)
  refine J_bi C0 10 dL_holds_353 (kk := ?_)
  refine J_callVz C0 (mX4_count l K b nA aA d e F Ga D S T (w := 10) (by decide)) gL_holds_X4_count dL_holds_355 1 (kk := ?_)
  show J G _ _ _ _ _ [.int (sumS (F 7) 12 - sumS (F 8) 12), .int (nI 0 + colA (outS F) 0 (nI 0) hn + colA (outS F) 1 (nI 0) hn + colA (outS F) 2 (nI 0) hn)]
  refine J_icmpne C0 495 dL_holds_358 (kt := fun c => absurd (ho_out h) c) (kf := fun _ => ?_)
  refine J_iln C0 3 dL_holds_361 (kk := ?_)
  refine J_aln C0 6 dL_holds_362 (kk := ?_)
  refine J_bi C0 9 dL_holds_363 (kk := ?_)
  refine J_callVz C0 (mX4_count l K b nA aA d e F Ga D S T (w := 9) (by decide)) gL_holds_X4_count dL_holds_365 1 (kk := ?_)
  show J G _ _ _ _ _ [.int (sumS (F 3) 3), .int (nI 0 + F 3 0 + F 3 1 + F 3 2)]
  refine J_icmpne C0 495 dL_holds_368 (kt := fun c => absurd (show nI 0 + F 3 0 + F 3 1 + F 3 2 = sumS (F 3) 3 from rfl) c) (kf := fun _ => ?_)
  refine J_il C0 4 dL_holds_371 (kk := ?_)
  refine J_aln C0 6 dL_holds_373 (kk := ?_)
  refine J_callVz C0 (mX4_hidden l K b nA aA d e F Ga D S T) gL_holds_X4_hidden dL_holds_374 0 (kk := ?_)
  show J G _ _ _ _ _ [.int (sumS (F 10) 12 - sumS (F 8) 12), .int (colA (hidF F) 2 (colA (hidF F) 1 (colA (hidF F) 0 (nI 0) hn) hn) hn)]
  refine J_icmpne C0 495 dL_holds_377 (kt := fun c => absurd (ho_hidden h) c) (kf := fun _ => ?_)
  refine J_aln C0 6 dL_holds_380 (kk := ?_)
  refine J_ic C0 5 dL_holds_381 (kk := ?_)
  refine J_callVz C0 (mX4_count l K b nA aA d e F Ga D S T (w := 5) (by decide)) gL_holds_X4_count dL_holds_382 1 (kk := ?_)
  show J G _ _ _ _ _ [.int (sumS (F 10) 12)]
  refine J_aln C0 6 dL_holds_385 (kk := ?_)
  refine J_bi C0 6 dL_holds_386 (kk := ?_)
  refine J_callVz C0 (mX4_count l K b nA aA d e F Ga D S T (w := 6) (by decide)) gL_holds_X4_count dL_holds_388 1 (kk := ?_)
  show J G _ _ _ _ _ [.int (sumS (F 5) 3), .int (sumS (F 10) 12)]
  refine J_aln C0 6 dL_holds_391 (kk := ?_)
  refine J_bi C0 7 dL_holds_392 (kk := ?_)
  refine J_callVz C0 (mX4_count l K b nA aA d e F Ga D S T (w := 7) (by decide)) gL_holds_X4_count dL_holds_394 1 (kk := ?_)
  show J G _ _ _ _ _ [.int (sumS (F 6) 3), .int (sumS (F 5) 3), .int (sumS (F 10) 12)]
  refine J_iadd C0 dL_holds_397 (kk := ?_)
  refine J_il C0 4 dL_holds_398 (kk := ?_)
  refine J_iadd C0 dL_holds_400 (kk := ?_)
  refine J_icmpne C0 495 dL_holds_401 (kt := fun c => absurd (show sumS (F 10) 12 = sumS (F 5) 3 + sumS (F 6) 3 + colA (hidF F) 2 (colA (hidF F) 1 (colA (hidF F) 0 (nI 0) hn) hn) hn from by rw [ho_hidden h]; exact ho_five h hB) c) (kf := fun _ => ?_)
  refine J_aln C0 6 dL_holds_404 (kk := ?_)
  refine J_ic C0 2 dL_holds_405 (kk := ?_)
  refine J_callVz C0 (mX4_count l K b nA aA d e F Ga D S T (w := 2) (by decide)) gL_holds_X4_count dL_holds_406 1 (kk := ?_)
  show J G _ _ _ _ _ [.int (F 0 4)]
  refine J_bi C0 40 dL_holds_409 (kk := ?_)
  refine J_icmpgt C0 495 dL_holds_411 (kt := fun c => absurd c (ho_under h)) (kf := fun _ => ?_)
  refine J_aln C0 6 dL_holds_414 (kk := ?_)
  refine J_ic C0 4 dL_holds_415 (kk := ?_)
  refine J_callVz C0 (mX4_count l K b nA aA d e F Ga D S T (w := 4) (by decide)) gL_holds_X4_count dL_holds_416 1 (kk := ?_)
  show J G _ _ _ _ _ [.int (F 0 3)]
  refine J_aln C0 6 dL_holds_419 (kk := ?_)
  refine J_ic C0 3 dL_holds_420 (kk := ?_)
  refine J_callVz C0 (mX4_count l K b nA aA d e F Ga D S T (w := 3) (by decide)) gL_holds_X4_count dL_holds_421 1 (kk := ?_)
  show J G _ _ _ _ _ [.int (F 0 2), .int (F 0 3)]
  refine J_icmpgt C0 495 dL_holds_424 (kt := fun c => absurd c (ho_sent hS (by omega))) (kf := fun _ => ?_)
  rcases ho_ne F hn 0 (-1) (nI 0) (Or.inl rfl) (by decide) with en | ⟨j, hj, en, hpos⟩
  · refine J_aln C0 6 dL_holds_427 (kk := ?_)
    refine J_callVz C0 (mX4_neediest l K b nA aA d e F Ga D S T eh h4) gL_holds_X4_neediest dL_holds_428 0 (kk := ?_)
    show J G _ _ _ _ _ [.int (neC F hn 0 (-1) (nI 0))]
    refine J_icm1 C0 dL_holds_431 (kk := ?_)
    refine J_icmpeq C0 473 dL_holds_432 (kt := fun _ => ?_) (kf := fun c => absurd en c)
    exact t473
  · have hj : j < hn := by omega
    refine J_aln C0 6 dL_holds_427 (kk := ?_)
    refine J_callVz C0 (mX4_neediest l K b nA aA d e F Ga D S T eh h4) gL_holds_X4_neediest dL_holds_428 0 (kk := ?_)
    show J G _ _ _ _ _ [.int (neC F hn 0 (-1) (nI 0))]
    refine J_int C0 en ?_
    refine J_icm1 C0 dL_holds_431 (kk := ?_)
    refine J_icmpeq C0 473 dL_holds_432 (kt := fun c => absurd c (fun z => nI_pos (n := j) (by omega) (by rw [z]; decide))) (kf := fun _ => ?_)
    refine J_aln C0 6 dL_holds_435 (kk := ?_)
    refine J_aln C0 6 dL_holds_436 (kk := ?_)
    refine J_callVz C0 (mX4_neediest l K b nA aA d e F Ga D S T eh h4) gL_holds_X4_neediest dL_holds_437 0 (kk := ?_)
    show J G _ _ _ _ _ [.int (neC F hn 0 (-1) (nI 0)), .ref (b 0)]
    refine J_int C0 en ?_
    refine J_ic C0 0 dL_holds_440 (kk := ?_)
    refine J_bi C0 6 dL_holds_441 (kk := ?_)
    refine J_callWHd C0 hX (k_houseOf l K b nA aA d e F Ga D S T tl tg eh h4 (h := j) (c := 0) (w := 6) (by omega) (by omega) (by decide)) gL_holds_L_houseOf dL_holds_443 4 (kk := ?_)
    show J G _ _ _ _ _ [.int (F 11 (j * 3 + 0))]
    refine J_aln C0 6 dL_holds_446 (kk := ?_)
    refine J_aln C0 6 dL_holds_447 (kk := ?_)
    refine J_callVz C0 (mX4_neediest l K b nA aA d e F Ga D S T eh h4) gL_holds_X4_neediest dL_holds_448 0 (kk := ?_)
    show J G _ _ _ _ _ [.int (neC F hn 0 (-1) (nI 0)), .ref (b 0), .int (F 11 (j * 3 + 0))]
    refine J_int C0 en ?_
    refine J_ic C0 1 dL_holds_451 (kk := ?_)
    refine J_bi C0 6 dL_holds_452 (kk := ?_)
    refine J_callWHd C0 hX (k_houseOf l K b nA aA d e F Ga D S T tl tg eh h4 (h := j) (c := 1) (w := 6) (by omega) (by omega) (by decide)) gL_holds_L_houseOf dL_holds_454 4 (kk := ?_)
    show J G _ _ _ _ _ [.int (F 11 (j * 3 + 1)), .int (F 11 (j * 3 + 0))]
    refine J_iadd C0 dL_holds_457 (kk := ?_)
    refine J_aln C0 6 dL_holds_458 (kk := ?_)
    refine J_aln C0 6 dL_holds_459 (kk := ?_)
    refine J_callVz C0 (mX4_neediest l K b nA aA d e F Ga D S T eh h4) gL_holds_X4_neediest dL_holds_460 0 (kk := ?_)
    show J G _ _ _ _ _ [.int (neC F hn 0 (-1) (nI 0)), .ref (b 0), .int ((F 11 (j * 3 + 0)) + (F 11 (j * 3 + 1)))]
    refine J_int C0 en ?_
    refine J_ic C0 2 dL_holds_463 (kk := ?_)
    refine J_bi C0 6 dL_holds_464 (kk := ?_)
    refine J_callWHd C0 hX (k_houseOf l K b nA aA d e F Ga D S T tl tg eh h4 (h := j) (c := 2) (w := 6) (by omega) (by omega) (by decide)) gL_holds_L_houseOf dL_holds_466 4 (kk := ?_)
    show J G _ _ _ _ _ [.int (F 11 (j * 3 + 2)), .int ((F 11 (j * 3 + 0)) + (F 11 (j * 3 + 1)))]
    refine J_iadd C0 dL_holds_469 (kk := ?_)
    refine J_ifle C0 495 dL_holds_470 (kt := fun c => absurd c (ho_need h hB (by omega) hpos)) (kf := fun _ => ?_)
    exact t473
