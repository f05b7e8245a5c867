/-! goes(): one act on a house and a kind, or on a kind -/
theorem out_lend (F : FF) (n p : Nat) : outS (lendS F n p) p = outS F p + nI 1 := by
  have e7 : lendS F n p 7 = u2 F 7 p (F 7 p + nI 1) 7 := by
    show sendG _ _ _ _ _ _ _ 7 = _
    rw [send_far (by decide) (by decide)]
  have e8 : lendS F n p 8 = F 8 := by
    show sendG _ _ _ _ _ _ _ 8 = _
    rw [send_far (by decide) (by decide), u2_i (by decide)]
  unfold outS
  rw [e7, e8, u2_s, Int32.sub_eq_add_neg, Int32.sub_eq_add_neg, Int32.add_assoc, Int32.add_comm (nI 1), ← Int32.add_assoc]
theorem ask_let {F : FF} {n : Nat} (en : F 0 4 = nI n) (p : Nat) : askS F n p 0 4 = nI (n + 1) - (askS F n p 0 3 - F 0 3) := by
  unfold askS sendS sendG
  split
  · have e4 : u2 (u2 F 0 2 (F 0 2 + nI 1)) 0 3 (F 0 3 + nI 1) 0 4 = F 0 4 := by rw [u2_12, if_neg (by decide), u2_12, if_neg (by decide)]
    rw [e4, u2_s, en, Int32.add_comm (F 0 3), Int32.add_sub_cancel, pk_sub (by omega)]
    congr 1
  · have e3 : ∀ (a b c d x : Int32), u2 (u2 (u2 (u2 (u2 (u2 F 0 2 x) 12 n a) 13 n b) 14 n c) 15 n d) 0 4 (nI (n + 1)) 0 3 = F 0 3 := fun a b c d x => by simp [u2_12]
    rw [e3, u2_s, Int32.sub_self, Int32.sub_zero]
theorem drink_3 (F : FF) (c : Nat) : drinkS F c 3 c = F 3 c - nI 1 := by
  unfold drinkS
  rw [u2_i (by decide), u2_s]
abbrev rmL_goes : Room := { frames := 10, cells := 1, slots := 6, locals := 300 }
set_option maxHeartbeats 4000000 in
set_option maxRecDepth 100000 in
theorem mL_goes (l : Launch) (hst : l.stackTraces = false) (K : KT) (b nA aA : Nat → Nat) (d e : Nat → Nat → Nat) (F Ga : FF) (D S : Nat → FF) (T : FF) (tl tg : Nat) {i k nt : Nat} (hR : SR i k nt F D S T) (hi : i ≤ 50) {g : Nat} (hg : g < 11) (y : Int32) : CtWP l K yL_goes wsL_goes rmL_goes [.ref (b 0), .int (nI g), .int y] (corkW K b nA aA d e F Ga D S T) (ActP K b nA aA d i k F D) tl tg := by
  refine CtWP_of (cc := cL_goes) (nL := 11) (rt := some .boolean) (own := RL) (lv0 := [(0, .ref (b 0)), (1, .int (nI g)), (2, .int y)]) (by decide) rfl (Nat.le_of_ble_eq_true rfl) rfl rfl ?_
  intro G C0 hF hX
  obtain ⟨hY, ⟨k6, ek⟩, ⟨nt60, ent⟩, hS, hT1, hD⟩ := id hR
  obtain ⟨⟨hn, n, N, hv⟩, hE, -⟩ := id hY
  have eh := hv.1.1
  have h4 := hv.1.2
  have en := hv.2.1.1
  have n40 := hv.2.1.2
  have t_lend : ∀ (hh kk nn : Nat) (fr : Int32), g < 4 → hh ≤ hn → kk ≤ 3 → ((nn = 1 ∧ (hh = hn ∨ kk = 3)) ∨ (nn = 0 ∧ hh < hn ∧ kk < 3)) → (kk < 3 → fr = freeS F kk) → J G (corkW K b nA aA d e F Ga D S T) [(7, .int (nI n)), (6, .int fr), (5, .int (nI nn)), (4, .int (nI kk)), (3, .int (nI hh)), (0, .ref (b 0)), (1, .int (nI g)), (2, .int y)] 0 0 69 [] := by
    intro hh kk nn fr hgg h1 h2 hno hfr
    rcases hno with ⟨rfl, hno⟩ | ⟨rfl, h3, h5⟩
    · refine J_iln C0 6 dL_goes_69 (kk := ?_)
      refine J_ic C0 4 dL_goes_70 (kk := ?_)
      refine J_icmpgeN C0 140 (by omega) (by omega) dL_goes_71 (kt := fun c => False.elim (by omega)) (kf := fun _ => ?_)
      refine J_il C0 2 dL_goes_74 (kk := ?_)
      refine J_ifeq C0 83 dL_goes_76 (kt := fun c => absurd c (by decide)) (kf := fun _ => ?_)
      refine J_ic C0 0 dL_goes_79 (kk := ?_)
      refine J_goto C0 91 dL_goes_80 (kk := ?_)
      refine J_is C0 [(8, .int (nI 0)), (7, .int (nI n)), (6, .int fr), (5, .int (nI 1)), (4, .int (nI kk)), (3, .int (nI hh)), (0, .ref (b 0)), (1, .int (nI g)), (2, .int y)] dL_goes_91 (kk := ?_)
      refine J_aln C0 6 dL_goes_93 (kk := ?_)
      refine J_iln C0 5 dL_goes_94 (kk := ?_)
      refine J_il C0 4 dL_goes_95 (kk := ?_)
      refine J_callWHd C0 hX (k_lend_i l K b nA aA d e F Ga D S T tl tg hst (no_pl eh h4 (by omega) (by omega) hno)) gL_goes_L_lend dL_goes_97 3 (kk := ?_)
      show J G _ _ _ _ _ [.int (-101)]
      refine J_il C0 3 dL_goes_100 (kk := ?_)
      refine J_ifeq C0 110 dL_goes_102 (kt := fun c => absurd c (by decide)) (kf := fun _ => ?_)
      refine J_biv C0 (-101) dL_goes_105 (kk := ?_)
      refine J_goto C0 131 dL_goes_107 (kk := ?_)
      refine J_icmpne C0 138 dL_goes_131 (kt := fun c => absurd (show ((-101) : Int32) = -101 from rfl) c) (kf := fun _ => ?_)
      refine J_ic C0 1 dL_goes_134 (kk := ?_)
      refine J_goto C0 139 dL_goes_135 (kk := ?_)
      exact J_zret C0 hF dL_goes_139 (by decide) hR.thrown0
    · have hfr := hfr h5
      obtain ⟨bb, f, e2, hb, hs, hf20, hff, -⟩ := free_nat hv (by omega) hE h5
      by_cases hc : canLendS F kk
      · have h0 : ¬ fr = 0 := fun z => hc.1 (by rw [← hfr, z]; decide)
        have hn40 := room_lt en hc.2 n40
        refine J_iln C0 6 dL_goes_69 (kk := ?_)
        refine J_ic C0 4 dL_goes_70 (kk := ?_)
        refine J_icmpgeN C0 140 (by omega) (by omega) dL_goes_71 (kt := fun c => False.elim (by omega)) (kf := fun _ => ?_)
        refine J_il C0 2 dL_goes_74 (kk := ?_)
        refine J_ifeq C0 83 dL_goes_76 (kt := fun _ => ?_) (kf := fun c => absurd (by decide) c)
        refine J_aln C0 5 dL_goes_83 (kk := ?_)
        refine J_iln C0 4 dL_goes_84 (kk := ?_)
        refine J_il C0 3 dL_goes_85 (kk := ?_)
        refine J_ic C0 2 dL_goes_87 (kk := ?_)
        refine J_callWHd C0 hX (k_houseOf l K b nA aA d e F Ga D S T tl tg eh h4 (h := hh) (c := kk) (w := 2) (by omega) (by omega) (by decide)) gL_goes_L_houseOf dL_goes_88 4 (kk := ?_)
        show J G _ _ _ _ _ [.int (outS F (hh * 3 + kk))]
        refine J_is C0 [(8, .int (outS F (hh * 3 + kk))), (7, .int (nI n)), (6, .int fr), (5, .int (nI 0)), (4, .int (nI kk)), (3, .int (nI hh)), (0, .ref (b 0)), (1, .int (nI g)), (2, .int y)] dL_goes_91 (kk := ?_)
        refine J_aln C0 6 dL_goes_93 (kk := ?_)
        refine J_iln C0 5 dL_goes_94 (kk := ?_)
        refine J_il C0 4 dL_goes_95 (kk := ?_)
        refine J_callWHd C0 hX (k_lend l K b nA aA d e F Ga D S T tl tg k6 ek eh h4 h3 h5 en n40 hc) gL_goes_L_lend dL_goes_97 3 (kk := ?_)
        show J G _ _ _ _ _ [.int (outS (lendS F n (hh * 3 + kk)) (hh * 3 + kk))]
        refine J_il C0 3 dL_goes_100 (kk := ?_)
        refine J_ifeq C0 110 dL_goes_102 (kt := fun _ => ?_) (kf := fun c => absurd (by decide) c)
        refine J_il C0 2 dL_goes_110 (kk := ?_)
        refine J_ifeq C0 122 dL_goes_112 (kt := fun c => absurd c h0) (kf := fun _ => ?_)
        refine J_il C0 1 dL_goes_115 (kk := ?_)
        refine J_bi C0 40 dL_goes_117 (kk := ?_)
        refine J_icmpneN C0 127 (by omega) (by omega) dL_goes_119 (kt := fun _ => ?_) (kf := fun c => False.elim (by omega))
        refine J_il C0 0 dL_goes_127 (kk := ?_)
        refine J_ic C0 1 dL_goes_129 (kk := ?_)
        refine J_iadd C0 dL_goes_130 (kk := ?_)
        refine J_icmpne C0 138 dL_goes_131 (kt := fun c => absurd (out_lend F n (hh * 3 + kk)) c) (kf := fun _ => ?_)
        refine J_ic C0 1 dL_goes_134 (kk := ?_)
        refine J_goto C0 139 dL_goes_135 (kk := ?_)
        exact J_zret C0 hF dL_goes_139 (by decide) (hR.done0 (hY.lend hi hv (p := hh * 3 + kk) (by omega) (by rw [show (hh * 3 + kk) % 3 = kk by omega]; exact hc)))
      · by_cases h0 : fr = 0
        · refine J_iln C0 6 dL_goes_69 (kk := ?_)
          refine J_ic C0 4 dL_goes_70 (kk := ?_)
          refine J_icmpgeN C0 140 (by omega) (by omega) dL_goes_71 (kt := fun c => False.elim (by omega)) (kf := fun _ => ?_)
          refine J_il C0 2 dL_goes_74 (kk := ?_)
          refine J_ifeq C0 83 dL_goes_76 (kt := fun _ => ?_) (kf := fun c => absurd (by decide) c)
          refine J_aln C0 5 dL_goes_83 (kk := ?_)
          refine J_iln C0 4 dL_goes_84 (kk := ?_)
          refine J_il C0 3 dL_goes_85 (kk := ?_)
          refine J_ic C0 2 dL_goes_87 (kk := ?_)
          refine J_callWHd C0 hX (k_houseOf l K b nA aA d e F Ga D S T tl tg eh h4 (h := hh) (c := kk) (w := 2) (by omega) (by omega) (by decide)) gL_goes_L_houseOf dL_goes_88 4 (kk := ?_)
          show J G _ _ _ _ _ [.int (outS F (hh * 3 + kk))]
          refine J_is C0 [(8, .int (outS F (hh * 3 + kk))), (7, .int (nI n)), (6, .int fr), (5, .int (nI 0)), (4, .int (nI kk)), (3, .int (nI hh)), (0, .ref (b 0)), (1, .int (nI g)), (2, .int y)] dL_goes_91 (kk := ?_)
          refine J_aln C0 6 dL_goes_93 (kk := ?_)
          refine J_iln C0 5 dL_goes_94 (kk := ?_)
          refine J_il C0 4 dL_goes_95 (kk := ?_)
          refine J_callWHd C0 hX (k_lend_s l K b nA aA d e F Ga D S T tl tg hst eh h4 h3 h5 hc) gL_goes_L_lend dL_goes_97 3 (kk := ?_)
          show J G _ _ _ _ _ [.int (-103)]
          refine J_il C0 3 dL_goes_100 (kk := ?_)
          refine J_ifeq C0 110 dL_goes_102 (kt := fun _ => ?_) (kf := fun c => absurd (by decide) c)
          refine J_il C0 2 dL_goes_110 (kk := ?_)
          refine J_ifeq C0 122 dL_goes_112 (kt := fun _ => ?_) (kf := fun c => absurd h0 c)
          refine J_biv C0 (-103) dL_goes_122 (kk := ?_)
          refine J_goto C0 131 dL_goes_124 (kk := ?_)
          refine J_icmpne C0 138 dL_goes_131 (kt := fun c => absurd (show ((-103) : Int32) = -103 from rfl) c) (kf := fun _ => ?_)
          refine J_ic C0 1 dL_goes_134 (kk := ?_)
          refine J_goto C0 139 dL_goes_135 (kk := ?_)
          exact J_zret C0 hF dL_goes_139 (by decide) hR.thrown0
        · have hn40 : n = 40 := by
            rcases Nat.lt_or_ge n 40 with z | z
            · exact absurd ⟨fun q => h0 (by rw [hfr, hff] at *; rcases Nat.eq_zero_or_pos f with r | r; rw [r]; rfl; exact absurd q (nI_nle r (by omega))), by unfold roomS; rw [en]; exact nI_ge z (by decide)⟩ hc
            · omega
          refine J_iln C0 6 dL_goes_69 (kk := ?_)
          refine J_ic C0 4 dL_goes_70 (kk := ?_)
          refine J_icmpgeN C0 140 (by omega) (by omega) dL_goes_71 (kt := fun c => False.elim (by omega)) (kf := fun _ => ?_)
          refine J_il C0 2 dL_goes_74 (kk := ?_)
          refine J_ifeq C0 83 dL_goes_76 (kt := fun _ => ?_) (kf := fun c => absurd (by decide) c)
          refine J_aln C0 5 dL_goes_83 (kk := ?_)
          refine J_iln C0 4 dL_goes_84 (kk := ?_)
          refine J_il C0 3 dL_goes_85 (kk := ?_)
          refine J_ic C0 2 dL_goes_87 (kk := ?_)
          refine J_callWHd C0 hX (k_houseOf l K b nA aA d e F Ga D S T tl tg eh h4 (h := hh) (c := kk) (w := 2) (by omega) (by omega) (by decide)) gL_goes_L_houseOf dL_goes_88 4 (kk := ?_)
          show J G _ _ _ _ _ [.int (outS F (hh * 3 + kk))]
          refine J_is C0 [(8, .int (outS F (hh * 3 + kk))), (7, .int (nI n)), (6, .int fr), (5, .int (nI 0)), (4, .int (nI kk)), (3, .int (nI hh)), (0, .ref (b 0)), (1, .int (nI g)), (2, .int y)] dL_goes_91 (kk := ?_)
          refine J_aln C0 6 dL_goes_93 (kk := ?_)
          refine J_iln C0 5 dL_goes_94 (kk := ?_)
          refine J_il C0 4 dL_goes_95 (kk := ?_)
          refine J_callWHd C0 hX (k_lend_s l K b nA aA d e F Ga D S T tl tg hst eh h4 h3 h5 hc) gL_goes_L_lend dL_goes_97 3 (kk := ?_)
          show J G _ _ _ _ _ [.int (-103)]
          refine J_il C0 3 dL_goes_100 (kk := ?_)
          refine J_ifeq C0 110 dL_goes_102 (kt := fun _ => ?_) (kf := fun c => absurd (by decide) c)
          refine J_il C0 2 dL_goes_110 (kk := ?_)
          refine J_ifeq C0 122 dL_goes_112 (kt := fun c => absurd c h0) (kf := fun _ => ?_)
          refine J_il C0 1 dL_goes_115 (kk := ?_)
          refine J_bi C0 40 dL_goes_117 (kk := ?_)
          refine J_icmpneN C0 127 (by omega) (by omega) dL_goes_119 (kt := fun c => False.elim (by omega)) (kf := fun _ => ?_)
          refine J_biv C0 (-103) dL_goes_122 (kk := ?_)
          refine J_goto C0 131 dL_goes_124 (kk := ?_)
          refine J_icmpne C0 138 dL_goes_131 (kt := fun c => absurd (show ((-103) : Int32) = -103 from rfl) c) (kf := fun _ => ?_)
          refine J_ic C0 1 dL_goes_134 (kk := ?_)
          refine J_goto C0 139 dL_goes_135 (kk := ?_)
          exact J_zret C0 hF dL_goes_139 (by decide) hR.thrown0
  have t_ask : ∀ (hh kk nn : Nat) (fr : Int32), (4 ≤ g ∧ g < 6) → hh ≤ hn → kk ≤ 3 → ((nn = 1 ∧ (hh = hn ∨ kk = 3)) ∨ (nn = 0 ∧ hh < hn ∧ kk < 3)) → (kk < 3 → fr = freeS F kk) → J G (corkW K b nA aA d e F Ga D S T) [(7, .int (nI n)), (6, .int fr), (5, .int (nI nn)), (4, .int (nI kk)), (3, .int (nI hh)), (0, .ref (b 0)), (1, .int (nI g)), (2, .int y)] 0 0 69 [] := by
    intro hh kk nn fr hgg h1 h2 hno hfr
    rcases hno with ⟨rfl, hno⟩ | ⟨rfl, h3, h5⟩
    · refine J_iln C0 6 dL_goes_69 (kk := ?_)
      refine J_ic C0 4 dL_goes_70 (kk := ?_)
      refine J_icmpgeN C0 140 (by omega) (by omega) dL_goes_71 (kt := fun _ => ?_) (kf := fun c => False.elim (by omega))
      refine J_iln C0 6 dL_goes_140 (kk := ?_)
      refine J_bi C0 6 dL_goes_141 (kk := ?_)
      refine J_icmpgeN C0 208 (by omega) (by omega) dL_goes_143 (kt := fun c => False.elim (by omega)) (kf := fun _ => ?_)
      refine J_aln C0 5 dL_goes_146 (kk := ?_)
      refine J_ic C0 4 dL_goes_147 (kk := ?_)
      refine J_callVz C0 (mX4_count l K b nA aA d e F Ga D S T (w := 4) (by decide)) gL_goes_X4_count dL_goes_148 1 (kk := ?_)
      show J G _ _ _ _ _ [.int (F 0 3)]
      refine J_is C0 [(8, .int (F 0 3)), (7, .int (nI n)), (6, .int fr), (5, .int (nI 1)), (4, .int (nI kk)), (3, .int (nI hh)), (0, .ref (b 0)), (1, .int (nI g)), (2, .int y)] dL_goes_151 (kk := ?_)
      refine J_aln C0 6 dL_goes_153 (kk := ?_)
      refine J_iln C0 5 dL_goes_154 (kk := ?_)
      refine J_il C0 4 dL_goes_155 (kk := ?_)
      refine J_callWHd C0 hX (k_ask_i l K b nA aA d e F Ga D S T tl tg hst (no_pl eh h4 (by omega) (by omega) hno)) gL_goes_L_ask dL_goes_157 3 (kk := ?_)
      show J G _ _ _ _ _ [.int (-101)]
      refine J_is C0 [(9, .int (-101)), (8, .int (F 0 3)), (7, .int (nI n)), (6, .int fr), (5, .int (nI 1)), (4, .int (nI kk)), (3, .int (nI hh)), (0, .ref (b 0)), (1, .int (nI g)), (2, .int y)] dL_goes_160 (kk := ?_)
      refine J_il C0 0 dL_goes_162 (kk := ?_)
      refine J_il C0 4 dL_goes_164 (kk := ?_)
      refine J_ifeq C0 174 dL_goes_166 (kt := fun c => absurd c (by decide)) (kf := fun _ => ?_)
      refine J_biv C0 (-101) dL_goes_169 (kk := ?_)
      refine J_goto C0 199 dL_goes_171 (kk := ?_)
      refine J_icmpne C0 206 dL_goes_199 (kt := fun c => absurd (show ((-101) : Int32) = -101 from rfl) c) (kf := fun _ => ?_)
      refine J_ic C0 1 dL_goes_202 (kk := ?_)
      refine J_goto C0 207 dL_goes_203 (kk := ?_)
      exact J_zret C0 hF dL_goes_207 (by decide) hR.thrown0
    · by_cases hc : roomS F
      · have hn40 := room_lt en hc n40
        refine J_iln C0 6 dL_goes_69 (kk := ?_)
        refine J_ic C0 4 dL_goes_70 (kk := ?_)
        refine J_icmpgeN C0 140 (by omega) (by omega) dL_goes_71 (kt := fun _ => ?_) (kf := fun c => False.elim (by omega))
        refine J_iln C0 6 dL_goes_140 (kk := ?_)
        refine J_bi C0 6 dL_goes_141 (kk := ?_)
        refine J_icmpgeN C0 208 (by omega) (by omega) dL_goes_143 (kt := fun c => False.elim (by omega)) (kf := fun _ => ?_)
        refine J_aln C0 5 dL_goes_146 (kk := ?_)
        refine J_ic C0 4 dL_goes_147 (kk := ?_)
        refine J_callVz C0 (mX4_count l K b nA aA d e F Ga D S T (w := 4) (by decide)) gL_goes_X4_count dL_goes_148 1 (kk := ?_)
        show J G _ _ _ _ _ [.int (F 0 3)]
        refine J_is C0 [(8, .int (F 0 3)), (7, .int (nI n)), (6, .int fr), (5, .int (nI 0)), (4, .int (nI kk)), (3, .int (nI hh)), (0, .ref (b 0)), (1, .int (nI g)), (2, .int y)] dL_goes_151 (kk := ?_)
        refine J_aln C0 6 dL_goes_153 (kk := ?_)
        refine J_iln C0 5 dL_goes_154 (kk := ?_)
        refine J_il C0 4 dL_goes_155 (kk := ?_)
        refine J_callWHd C0 hX (k_ask l K b nA aA d e F Ga D S T tl tg k6 ek eh h4 h3 h5 en n40 hc) gL_goes_L_ask dL_goes_157 3 (kk := ?_)
        show J G _ _ _ _ _ [.int (askS F n (hh * 3 + kk) 0 4)]
        refine J_is C0 [(9, .int (askS F n (hh * 3 + kk) 0 4)), (8, .int (F 0 3)), (7, .int (nI n)), (6, .int fr), (5, .int (nI 0)), (4, .int (nI kk)), (3, .int (nI hh)), (0, .ref (b 0)), (1, .int (nI g)), (2, .int y)] dL_goes_160 (kk := ?_)
        refine J_il C0 0 dL_goes_162 (kk := ?_)
        refine J_il C0 4 dL_goes_164 (kk := ?_)
        refine J_ifeq C0 174 dL_goes_166 (kt := fun _ => ?_) (kf := fun c => absurd (by decide) c)
        refine J_il C0 2 dL_goes_174 (kk := ?_)
        refine J_bi C0 40 dL_goes_176 (kk := ?_)
        refine J_icmpneN C0 186 (by omega) (by omega) dL_goes_178 (kt := fun _ => ?_) (kf := fun c => False.elim (by omega))
        refine J_il C0 2 dL_goes_186 (kk := ?_)
        refine J_ic C0 1 dL_goes_188 (kk := ?_)
        refine J_iaddN C0 dL_goes_189 (kk := ?_)
        refine J_aln C0 7 dL_goes_190 (kk := ?_)
        refine J_ic C0 4 dL_goes_191 (kk := ?_)
        refine J_callVz C0 (mX4_count l K b nA aA d (pushE k e) (askS F n (hh * 3 + kk)) Ga D (pushS k S F) (pushT k T) (w := 4) (by decide)) gL_goes_X4_count dL_goes_192 1 (kk := ?_)
        show J G _ _ _ _ _ [.int ((askS F n (hh * 3 + kk)) 0 3), .int (nI (n + 1)), .int (askS F n (hh * 3 + kk) 0 4)]
        refine J_il C0 1 dL_goes_195 (kk := ?_)
        refine J_isub C0 dL_goes_197 (kk := ?_)
        refine J_isub C0 dL_goes_198 (kk := ?_)
        refine J_icmpne C0 206 dL_goes_199 (kt := fun c => absurd (ask_let en (hh * 3 + kk)) c) (kf := fun _ => ?_)
        refine J_ic C0 1 dL_goes_202 (kk := ?_)
        refine J_goto C0 207 dL_goes_203 (kk := ?_)
        exact J_zret C0 hF dL_goes_207 (by decide) (hR.done0 (hY.ask hi hv (p := hh * 3 + kk) (by omega) hc))
      · have hn40 : n = 40 := by
          rcases Nat.lt_or_ge n 40 with z | z
          · exact absurd (by unfold roomS; rw [en]; exact nI_ge z (by decide)) hc
          · omega
        refine J_iln C0 6 dL_goes_69 (kk := ?_)
        refine J_ic C0 4 dL_goes_70 (kk := ?_)
        refine J_icmpgeN C0 140 (by omega) (by omega) dL_goes_71 (kt := fun _ => ?_) (kf := fun c => False.elim (by omega))
        refine J_iln C0 6 dL_goes_140 (kk := ?_)
        refine J_bi C0 6 dL_goes_141 (kk := ?_)
        refine J_icmpgeN C0 208 (by omega) (by omega) dL_goes_143 (kt := fun c => False.elim (by omega)) (kf := fun _ => ?_)
        refine J_aln C0 5 dL_goes_146 (kk := ?_)
        refine J_ic C0 4 dL_goes_147 (kk := ?_)
        refine J_callVz C0 (mX4_count l K b nA aA d e F Ga D S T (w := 4) (by decide)) gL_goes_X4_count dL_goes_148 1 (kk := ?_)
        show J G _ _ _ _ _ [.int (F 0 3)]
        refine J_is C0 [(8, .int (F 0 3)), (7, .int (nI n)), (6, .int fr), (5, .int (nI 0)), (4, .int (nI kk)), (3, .int (nI hh)), (0, .ref (b 0)), (1, .int (nI g)), (2, .int y)] dL_goes_151 (kk := ?_)
        refine J_aln C0 6 dL_goes_153 (kk := ?_)
        refine J_iln C0 5 dL_goes_154 (kk := ?_)
        refine J_il C0 4 dL_goes_155 (kk := ?_)
        refine J_callWHd C0 hX (k_ask_s l K b nA aA d e F Ga D S T tl tg hst eh h4 h3 h5 hc) gL_goes_L_ask dL_goes_157 3 (kk := ?_)
        show J G _ _ _ _ _ [.int (-103)]
        refine J_is C0 [(9, .int (-103)), (8, .int (F 0 3)), (7, .int (nI n)), (6, .int fr), (5, .int (nI 0)), (4, .int (nI kk)), (3, .int (nI hh)), (0, .ref (b 0)), (1, .int (nI g)), (2, .int y)] dL_goes_160 (kk := ?_)
        refine J_il C0 0 dL_goes_162 (kk := ?_)
        refine J_il C0 4 dL_goes_164 (kk := ?_)
        refine J_ifeq C0 174 dL_goes_166 (kt := fun _ => ?_) (kf := fun c => absurd (by decide) c)
        refine J_il C0 2 dL_goes_174 (kk := ?_)
        refine J_bi C0 40 dL_goes_176 (kk := ?_)
        refine J_icmpneN C0 186 (by omega) (by omega) dL_goes_178 (kt := fun c => False.elim (by omega)) (kf := fun _ => ?_)
        refine J_biv C0 (-103) dL_goes_181 (kk := ?_)
        refine J_goto C0 199 dL_goes_183 (kk := ?_)
        refine J_icmpne C0 206 dL_goes_199 (kt := fun c => absurd (show ((-103) : Int32) = -103 from rfl) c) (kf := fun _ => ?_)
        refine J_ic C0 1 dL_goes_202 (kk := ?_)
        refine J_goto C0 207 dL_goes_203 (kk := ?_)
        exact J_zret C0 hF dL_goes_207 (by decide) hR.thrown0
  have t_want : ∀ (hh kk nn : Nat) (fr : Int32), (6 ≤ g ∧ g < 9) → hh ≤ hn → kk ≤ 3 → ((nn = 1 ∧ (hh = hn ∨ kk = 3)) ∨ (nn = 0 ∧ hh < hn ∧ kk < 3)) → (kk < 3 → fr = freeS F kk) → J G (corkW K b nA aA d e F Ga D S T) [(7, .int (nI n)), (6, .int fr), (5, .int (nI nn)), (4, .int (nI kk)), (3, .int (nI hh)), (0, .ref (b 0)), (1, .int (nI g)), (2, .int y)] 0 0 69 [] := by
    intro hh kk nn fr hgg h1 h2 hno hfr
    rcases hno with ⟨rfl, hno⟩ | ⟨rfl, h3, h5⟩
    · refine J_iln C0 6 dL_goes_69 (kk := ?_)
      refine J_ic C0 4 dL_goes_70 (kk := ?_)
      refine J_icmpgeN C0 140 (by omega) (by omega) dL_goes_71 (kt := fun _ => ?_) (kf := fun c => False.elim (by omega))
      refine J_iln C0 6 dL_goes_140 (kk := ?_)
      refine J_bi C0 6 dL_goes_141 (kk := ?_)
      refine J_icmpgeN C0 208 (by omega) (by omega) dL_goes_143 (kt := fun _ => ?_) (kf := fun c => False.elim (by omega))
      refine J_iln C0 6 dL_goes_208 (kk := ?_)
      refine J_bi C0 9 dL_goes_209 (kk := ?_)
      refine J_icmpgeN C0 276 (by omega) (by omega) dL_goes_211 (kt := fun c => False.elim (by omega)) (kf := fun _ => ?_)
      refine J_il C0 2 dL_goes_214 (kk := ?_)
      refine J_ifeq C0 223 dL_goes_216 (kt := fun c => absurd c (by decide)) (kf := fun _ => ?_)
      refine J_ic C0 0 dL_goes_219 (kk := ?_)
      refine J_goto C0 232 dL_goes_220 (kk := ?_)
      refine J_is C0 [(8, .int (nI 0)), (7, .int (nI n)), (6, .int fr), (5, .int (nI 1)), (4, .int (nI kk)), (3, .int (nI hh)), (0, .ref (b 0)), (1, .int (nI g)), (2, .int y)] dL_goes_232 (kk := ?_)
      refine J_aln C0 6 dL_goes_234 (kk := ?_)
      refine J_iln C0 5 dL_goes_235 (kk := ?_)
      refine J_il C0 4 dL_goes_236 (kk := ?_)
      refine J_callWHd C0 hX (k_want_i l K b nA aA d e F Ga D S T tl tg hst (no_pl eh h4 (by omega) (by omega) hno)) gL_goes_L_want dL_goes_238 3 (kk := ?_)
      show J G _ _ _ _ _ [.int (-101)]
      refine J_il C0 3 dL_goes_241 (kk := ?_)
      refine J_ifeq C0 251 dL_goes_243 (kt := fun c => absurd c (by decide)) (kf := fun _ => ?_)
      refine J_biv C0 (-101) dL_goes_246 (kk := ?_)
      refine J_goto C0 267 dL_goes_248 (kk := ?_)
      refine J_icmpne C0 274 dL_goes_267 (kt := fun c => absurd (show ((-101) : Int32) = -101 from rfl) c) (kf := fun _ => ?_)
      refine J_ic C0 1 dL_goes_270 (kk := ?_)
      refine J_goto C0 275 dL_goes_271 (kk := ?_)
      exact J_zret C0 hF dL_goes_275 (by decide) hR.thrown0
    · have hw9 := ho_w9 hv (p := hh * 3 + kk) (by omega)
      by_cases hc : nI 9 ≤ F 11 (hh * 3 + kk)
      · have h9 : F 11 (hh * 3 + kk) = nI 9 := Int32.le_antisymm (Int32.not_lt.mp hw9) hc
        refine J_iln C0 6 dL_goes_69 (kk := ?_)
        refine J_ic C0 4 dL_goes_70 (kk := ?_)
        refine J_icmpgeN C0 140 (by omega) (by omega) dL_goes_71 (kt := fun _ => ?_) (kf := fun c => False.elim (by omega))
        refine J_iln C0 6 dL_goes_140 (kk := ?_)
        refine J_bi C0 6 dL_goes_141 (kk := ?_)
        refine J_icmpgeN C0 208 (by omega) (by omega) dL_goes_143 (kt := fun _ => ?_) (kf := fun c => False.elim (by omega))
        refine J_iln C0 6 dL_goes_208 (kk := ?_)
        refine J_bi C0 9 dL_goes_209 (kk := ?_)
        refine J_icmpgeN C0 276 (by omega) (by omega) dL_goes_211 (kt := fun c => False.elim (by omega)) (kf := fun _ => ?_)
        refine J_il C0 2 dL_goes_214 (kk := ?_)
        refine J_ifeq C0 223 dL_goes_216 (kt := fun _ => ?_) (kf := fun c => absurd (by decide) c)
        refine J_aln C0 5 dL_goes_223 (kk := ?_)
        refine J_iln C0 4 dL_goes_224 (kk := ?_)
        refine J_il C0 3 dL_goes_225 (kk := ?_)
        refine J_bi C0 6 dL_goes_227 (kk := ?_)
        refine J_callWHd C0 hX (k_houseOf l K b nA aA d e F Ga D S T tl tg eh h4 (h := hh) (c := kk) (w := 6) (by omega) (by omega) (by decide)) gL_goes_L_houseOf dL_goes_229 4 (kk := ?_)
        show J G _ _ _ _ _ [.int (F 11 (hh * 3 + kk))]
        refine J_is C0 [(8, .int (F 11 (hh * 3 + kk))), (7, .int (nI n)), (6, .int fr), (5, .int (nI 0)), (4, .int (nI kk)), (3, .int (nI hh)), (0, .ref (b 0)), (1, .int (nI g)), (2, .int y)] dL_goes_232 (kk := ?_)
        refine J_aln C0 6 dL_goes_234 (kk := ?_)
        refine J_iln C0 5 dL_goes_235 (kk := ?_)
        refine J_il C0 4 dL_goes_236 (kk := ?_)
        refine J_callWHd C0 hX (k_want_s l K b nA aA d e F Ga D S T tl tg hst eh h4 h3 h5 hc) gL_goes_L_want dL_goes_238 3 (kk := ?_)
        show J G _ _ _ _ _ [.int (-103)]
        refine J_il C0 3 dL_goes_241 (kk := ?_)
        refine J_ifeq C0 251 dL_goes_243 (kt := fun _ => ?_) (kf := fun c => absurd (by decide) c)
        refine J_il C0 0 dL_goes_251 (kk := ?_)
        refine J_bi C0 9 dL_goes_253 (kk := ?_)
        refine J_icmpne C0 263 dL_goes_255 (kt := fun c => absurd h9 c) (kf := fun _ => ?_)
        refine J_biv C0 (-103) dL_goes_258 (kk := ?_)
        refine J_goto C0 267 dL_goes_260 (kk := ?_)
        refine J_icmpne C0 274 dL_goes_267 (kt := fun c => absurd (show ((-103) : Int32) = -103 from rfl) c) (kf := fun _ => ?_)
        refine J_ic C0 1 dL_goes_270 (kk := ?_)
        refine J_goto C0 275 dL_goes_271 (kk := ?_)
        exact J_zret C0 hF dL_goes_275 (by decide) hR.thrown0
      · have h9 : ¬ F 11 (hh * 3 + kk) = nI 9 := fun z => hc (by rw [z]; exact Int32.le_refl _)
        refine J_iln C0 6 dL_goes_69 (kk := ?_)
        refine J_ic C0 4 dL_goes_70 (kk := ?_)
        refine J_icmpgeN C0 140 (by omega) (by omega) dL_goes_71 (kt := fun _ => ?_) (kf := fun c => False.elim (by omega))
        refine J_iln C0 6 dL_goes_140 (kk := ?_)
        refine J_bi C0 6 dL_goes_141 (kk := ?_)
        refine J_icmpgeN C0 208 (by omega) (by omega) dL_goes_143 (kt := fun _ => ?_) (kf := fun c => False.elim (by omega))
        refine J_iln C0 6 dL_goes_208 (kk := ?_)
        refine J_bi C0 9 dL_goes_209 (kk := ?_)
        refine J_icmpgeN C0 276 (by omega) (by omega) dL_goes_211 (kt := fun c => False.elim (by omega)) (kf := fun _ => ?_)
        refine J_il C0 2 dL_goes_214 (kk := ?_)
        refine J_ifeq C0 223 dL_goes_216 (kt := fun _ => ?_) (kf := fun c => absurd (by decide) c)
        refine J_aln C0 5 dL_goes_223 (kk := ?_)
        refine J_iln C0 4 dL_goes_224 (kk := ?_)
        refine J_il C0 3 dL_goes_225 (kk := ?_)
        refine J_bi C0 6 dL_goes_227 (kk := ?_)
        refine J_callWHd C0 hX (k_houseOf l K b nA aA d e F Ga D S T tl tg eh h4 (h := hh) (c := kk) (w := 6) (by omega) (by omega) (by decide)) gL_goes_L_houseOf dL_goes_229 4 (kk := ?_)
        show J G _ _ _ _ _ [.int (F 11 (hh * 3 + kk))]
        refine J_is C0 [(8, .int (F 11 (hh * 3 + kk))), (7, .int (nI n)), (6, .int fr), (5, .int (nI 0)), (4, .int (nI kk)), (3, .int (nI hh)), (0, .ref (b 0)), (1, .int (nI g)), (2, .int y)] dL_goes_232 (kk := ?_)
        refine J_aln C0 6 dL_goes_234 (kk := ?_)
        refine J_iln C0 5 dL_goes_235 (kk := ?_)
        refine J_il C0 4 dL_goes_236 (kk := ?_)
        refine J_callWHd C0 hX (k_want l K b nA aA d e F Ga D S T tl tg k6 ek eh h4 h3 h5 hc) gL_goes_L_want dL_goes_238 3 (kk := ?_)
        show J G _ _ _ _ _ [.int (F 11 (hh * 3 + kk) + nI 1)]
        refine J_il C0 3 dL_goes_241 (kk := ?_)
        refine J_ifeq C0 251 dL_goes_243 (kt := fun _ => ?_) (kf := fun c => absurd (by decide) c)
        refine J_il C0 0 dL_goes_251 (kk := ?_)
        refine J_bi C0 9 dL_goes_253 (kk := ?_)
        refine J_icmpne C0 263 dL_goes_255 (kt := fun _ => ?_) (kf := fun c => absurd c h9)
        refine J_il C0 0 dL_goes_263 (kk := ?_)
        refine J_ic C0 1 dL_goes_265 (kk := ?_)
        refine J_iadd C0 dL_goes_266 (kk := ?_)
        refine J_icmpne C0 274 dL_goes_267 (kt := fun c => absurd (show F 11 (hh * 3 + kk) + nI 1 = F 11 (hh * 3 + kk) + nI 1 from rfl) c) (kf := fun _ => ?_)
        refine J_ic C0 1 dL_goes_270 (kk := ?_)
        refine J_goto C0 275 dL_goes_271 (kk := ?_)
        exact J_zret C0 hF dL_goes_275 (by decide) (hR.done0 (hY.want hv (p := hh * 3 + kk) (by omega) hc))
  have t_drink : ∀ (hh kk nn : Nat) (fr : Int32), g = 9 → hh ≤ hn → kk ≤ 3 → ((nn = 1 ∧ (hh = hn ∨ kk = 3)) ∨ (nn = 0 ∧ hh < hn ∧ kk < 3)) → (kk < 3 → fr = freeS F kk) → J G (corkW K b nA aA d e F Ga D S T) [(7, .int (nI n)), (6, .int fr), (5, .int (nI nn)), (4, .int (nI kk)), (3, .int (nI hh)), (0, .ref (b 0)), (1, .int (nI g)), (2, .int y)] 0 0 69 [] := by
    intro hh kk nn fr hgg h1 h2 hno hfr
    subst hgg
    by_cases h3 : kk = 3
    · subst h3
      refine J_iln C0 6 dL_goes_69 (kk := ?_)
      refine J_ic C0 4 dL_goes_70 (kk := ?_)
      refine J_icmpge C0 140 dL_goes_71 (kt := fun _ => ?_) (kf := fun c => absurd (by decide) c)
      refine J_iln C0 6 dL_goes_140 (kk := ?_)
      refine J_bi C0 6 dL_goes_141 (kk := ?_)
      refine J_icmpge C0 208 dL_goes_143 (kt := fun _ => ?_) (kf := fun c => absurd (by decide) c)
      refine J_iln C0 6 dL_goes_208 (kk := ?_)
      refine J_bi C0 9 dL_goes_209 (kk := ?_)
      refine J_icmpge C0 276 dL_goes_211 (kt := fun _ => ?_) (kf := fun c => absurd (by decide) c)
      refine J_iln C0 6 dL_goes_276 (kk := ?_)
      refine J_bi C0 9 dL_goes_277 (kk := ?_)
      refine J_icmpne C0 341 dL_goes_279 (kt := fun c => absurd (by decide) c) (kf := fun _ => ?_)
      refine J_il C0 3 dL_goes_282 (kk := ?_)
      refine J_ic C0 3 dL_goes_284 (kk := ?_)
      refine J_icmpne C0 292 dL_goes_285 (kt := fun c => absurd (by decide) c) (kf := fun _ => ?_)
      refine J_ic C0 0 dL_goes_288 (kk := ?_)
      refine J_goto C0 299 dL_goes_289 (kk := ?_)
      refine J_is C0 [(8, .int (nI 0)), (7, .int (nI n)), (6, .int fr), (5, .int (nI nn)), (4, .int (nI 3)), (3, .int (nI hh)), (0, .ref (b 0)), (1, .int (nI 9)), (2, .int y)] dL_goes_299 (kk := ?_)
      refine J_aln C0 6 dL_goes_301 (kk := ?_)
      refine J_il C0 4 dL_goes_302 (kk := ?_)
      refine J_callWHd C0 hX (k_drink_i l K b nA aA d e F Ga D S T tl tg hst) gL_goes_L_drink dL_goes_304 2 (kk := ?_)
      show J G _ _ _ _ _ [.int (-101)]
      refine J_il C0 4 dL_goes_307 (kk := ?_)
      refine J_ic C0 3 dL_goes_309 (kk := ?_)
      refine J_icmpne C0 318 dL_goes_310 (kt := fun c => absurd (by decide) c) (kf := fun _ => ?_)
      refine J_biv C0 (-101) dL_goes_313 (kk := ?_)
      refine J_goto C0 332 dL_goes_315 (kk := ?_)
      refine J_icmpne C0 339 dL_goes_332 (kt := fun c => absurd (show ((-101) : Int32) = -101 from rfl) c) (kf := fun _ => ?_)
      refine J_ic C0 1 dL_goes_335 (kk := ?_)
      refine J_goto C0 340 dL_goes_336 (kk := ?_)
      exact J_zret C0 hF dL_goes_340 (by decide) hR.thrown0
    · have h5 : kk < 3 := by omega
      by_cases hc : 0 < F 3 kk
      · have h0 : ¬ F 3 kk = 0 := fun z => by rw [z] at hc; exact absurd hc (by decide)
        refine J_iln C0 6 dL_goes_69 (kk := ?_)
        refine J_ic C0 4 dL_goes_70 (kk := ?_)
        refine J_icmpge C0 140 dL_goes_71 (kt := fun _ => ?_) (kf := fun c => absurd (by decide) c)
        refine J_iln C0 6 dL_goes_140 (kk := ?_)
        refine J_bi C0 6 dL_goes_141 (kk := ?_)
        refine J_icmpge C0 208 dL_goes_143 (kt := fun _ => ?_) (kf := fun c => absurd (by decide) c)
        refine J_iln C0 6 dL_goes_208 (kk := ?_)
        refine J_bi C0 9 dL_goes_209 (kk := ?_)
        refine J_icmpge C0 276 dL_goes_211 (kt := fun _ => ?_) (kf := fun c => absurd (by decide) c)
        refine J_iln C0 6 dL_goes_276 (kk := ?_)
        refine J_bi C0 9 dL_goes_277 (kk := ?_)
        refine J_icmpne C0 341 dL_goes_279 (kt := fun c => absurd (by decide) c) (kf := fun _ => ?_)
        refine J_il C0 3 dL_goes_282 (kk := ?_)
        refine J_ic C0 3 dL_goes_284 (kk := ?_)
        refine J_icmpneN C0 292 (by omega) (by omega) dL_goes_285 (kt := fun _ => ?_) (kf := fun c => False.elim (by omega))
        refine J_aln C0 5 dL_goes_292 (kk := ?_)
        refine J_il C0 3 dL_goes_293 (kk := ?_)
        refine J_ic C0 1 dL_goes_295 (kk := ?_)
        refine J_callWHd C0 hX (k_kind l K b nA aA d e F Ga D S T tl tg (c := kk) (w := 1) (by omega) (by decide)) gL_goes_L_kind dL_goes_296 3 (kk := ?_)
        show J G _ _ _ _ _ [.int (F 3 kk)]
        refine J_is C0 [(8, .int (F 3 kk)), (7, .int (nI n)), (6, .int fr), (5, .int (nI nn)), (4, .int (nI kk)), (3, .int (nI hh)), (0, .ref (b 0)), (1, .int (nI 9)), (2, .int y)] dL_goes_299 (kk := ?_)
        refine J_aln C0 6 dL_goes_301 (kk := ?_)
        refine J_il C0 4 dL_goes_302 (kk := ?_)
        refine J_callWHd C0 hX (k_drink l K b nA aA d e F Ga D S T tl tg k6 ek h5 hc) gL_goes_L_drink dL_goes_304 2 (kk := ?_)
        show J G _ _ _ _ _ [.int (drinkS F kk 3 kk)]
        refine J_il C0 4 dL_goes_307 (kk := ?_)
        refine J_ic C0 3 dL_goes_309 (kk := ?_)
        refine J_icmpneN C0 318 (by omega) (by omega) dL_goes_310 (kt := fun _ => ?_) (kf := fun c => False.elim (by omega))
        refine J_il C0 0 dL_goes_318 (kk := ?_)
        refine J_ifne C0 328 dL_goes_320 (kt := fun _ => ?_) (kf := fun c => absurd c h0)
        refine J_il C0 0 dL_goes_328 (kk := ?_)
        refine J_ic C0 1 dL_goes_330 (kk := ?_)
        refine J_isub C0 dL_goes_331 (kk := ?_)
        refine J_icmpne C0 339 dL_goes_332 (kt := fun c => absurd (drink_3 F kk) c) (kf := fun _ => ?_)
        refine J_ic C0 1 dL_goes_335 (kk := ?_)
        refine J_goto C0 340 dL_goes_336 (kk := ?_)
        exact J_zret C0 hF dL_goes_340 (by decide) (hR.done0 (hY.drink hi h5 hc))
      · have h0 : F 3 kk = 0 := by
          have b3 := hv.b3 (by omega) h5
          rw [hv.F3 h5] at hc ⊢
          rcases Nat.eq_zero_or_pos (N 3 kk) with z | z
          · rw [z]; rfl
          · exact absurd ((nI_0lt (by omega)).mpr z) hc
        refine J_iln C0 6 dL_goes_69 (kk := ?_)
        refine J_ic C0 4 dL_goes_70 (kk := ?_)
        refine J_icmpge C0 140 dL_goes_71 (kt := fun _ => ?_) (kf := fun c => absurd (by decide) c)
        refine J_iln C0 6 dL_goes_140 (kk := ?_)
        refine J_bi C0 6 dL_goes_141 (kk := ?_)
        refine J_icmpge C0 208 dL_goes_143 (kt := fun _ => ?_) (kf := fun c => absurd (by decide) c)
        refine J_iln C0 6 dL_goes_208 (kk := ?_)
        refine J_bi C0 9 dL_goes_209 (kk := ?_)
        refine J_icmpge C0 276 dL_goes_211 (kt := fun _ => ?_) (kf := fun c => absurd (by decide) c)
        refine J_iln C0 6 dL_goes_276 (kk := ?_)
        refine J_bi C0 9 dL_goes_277 (kk := ?_)
        refine J_icmpne C0 341 dL_goes_279 (kt := fun c => absurd (by decide) c) (kf := fun _ => ?_)
        refine J_il C0 3 dL_goes_282 (kk := ?_)
        refine J_ic C0 3 dL_goes_284 (kk := ?_)
        refine J_icmpneN C0 292 (by omega) (by omega) dL_goes_285 (kt := fun _ => ?_) (kf := fun c => False.elim (by omega))
        refine J_aln C0 5 dL_goes_292 (kk := ?_)
        refine J_il C0 3 dL_goes_293 (kk := ?_)
        refine J_ic C0 1 dL_goes_295 (kk := ?_)
        refine J_callWHd C0 hX (k_kind l K b nA aA d e F Ga D S T tl tg (c := kk) (w := 1) (by omega) (by decide)) gL_goes_L_kind dL_goes_296 3 (kk := ?_)
        show J G _ _ _ _ _ [.int (F 3 kk)]
        refine J_is C0 [(8, .int (F 3 kk)), (7, .int (nI n)), (6, .int fr), (5, .int (nI nn)), (4, .int (nI kk)), (3, .int (nI hh)), (0, .ref (b 0)), (1, .int (nI 9)), (2, .int y)] dL_goes_299 (kk := ?_)
        refine J_aln C0 6 dL_goes_301 (kk := ?_)
        refine J_il C0 4 dL_goes_302 (kk := ?_)
        refine J_callWHd C0 hX (k_drink_s l K b nA aA d e F Ga D S T tl tg hst h5 hc) gL_goes_L_drink dL_goes_304 2 (kk := ?_)
        show J G _ _ _ _ _ [.int (-103)]
        refine J_il C0 4 dL_goes_307 (kk := ?_)
        refine J_ic C0 3 dL_goes_309 (kk := ?_)
        refine J_icmpneN C0 318 (by omega) (by omega) dL_goes_310 (kt := fun _ => ?_) (kf := fun c => False.elim (by omega))
        refine J_il C0 0 dL_goes_318 (kk := ?_)
        refine J_ifne C0 328 dL_goes_320 (kt := fun c => absurd h0 c) (kf := fun _ => ?_)
        refine J_biv C0 (-103) dL_goes_323 (kk := ?_)
        refine J_goto C0 332 dL_goes_325 (kk := ?_)
        refine J_icmpne C0 339 dL_goes_332 (kt := fun c => absurd (show ((-103) : Int32) = -103 from rfl) c) (kf := fun _ => ?_)
        refine J_ic C0 1 dL_goes_335 (kk := ?_)
        refine J_goto C0 340 dL_goes_336 (kk := ?_)
        exact J_zret C0 hF dL_goes_340 (by decide) hR.thrown0
  have t_bottles : ∀ (hh kk nn : Nat) (fr : Int32), g = 10 → hh ≤ hn → kk ≤ 3 → ((nn = 1 ∧ (hh = hn ∨ kk = 3)) ∨ (nn = 0 ∧ hh < hn ∧ kk < 3)) → (kk < 3 → fr = freeS F kk) → J G (corkW K b nA aA d e F Ga D S T) [(7, .int (nI n)), (6, .int fr), (5, .int (nI nn)), (4, .int (nI kk)), (3, .int (nI hh)), (0, .ref (b 0)), (1, .int (nI g)), (2, .int y)] 0 0 69 [] := by
    intro hh kk nn fr hgg h1 h2 hno hfr
    subst hgg
    have hm22 := lowS_lt (y >>> (nI 6 &&& 31)) (k := 22) (by decide)
    refine J_iln C0 6 dL_goes_69 (kk := ?_)
    refine J_ic C0 4 dL_goes_70 (kk := ?_)
    refine J_icmpge C0 140 dL_goes_71 (kt := fun _ => ?_) (kf := fun c => absurd (by decide) c)
    refine J_iln C0 6 dL_goes_140 (kk := ?_)
    refine J_bi C0 6 dL_goes_141 (kk := ?_)
    refine J_icmpge C0 208 dL_goes_143 (kt := fun _ => ?_) (kf := fun c => absurd (by decide) c)
    refine J_iln C0 6 dL_goes_208 (kk := ?_)
    refine J_bi C0 9 dL_goes_209 (kk := ?_)
    refine J_icmpge C0 276 dL_goes_211 (kt := fun _ => ?_) (kf := fun c => absurd (by decide) c)
    refine J_iln C0 6 dL_goes_276 (kk := ?_)
    refine J_bi C0 9 dL_goes_277 (kk := ?_)
    refine J_icmpne C0 341 dL_goes_279 (kt := fun _ => ?_) (kf := fun c => absurd c (by decide))
    refine J_iln C0 7 dL_goes_341 (kk := ?_)
    refine J_bi C0 6 dL_goes_342 (kk := ?_)
    refine J_ishr C0 dL_goes_344 (kk := ?_)
    refine J_bi C0 22 dL_goes_345 (kk := ?_)
    refine J_callSd C0 (mL_low l K (y >>> (nI 6 &&& 31)) (k := 22) (by omega) (by omega)) (corkW K b nA aA d e F Ga D S T) (corkW K b nA aA d e F Ga D S T) gL_goes_L_low dL_goes_347 2 (hbs := (List.append_nil _).symm) (hb1 := List.append_nil _) (kk := ?_)
    show J G _ _ _ _ _ [.int (nI (lowS (y >>> (nI 6 &&& 31)) 22))]
    generalize lowS (y >>> (nI 6 &&& 31)) 22 = mm at hm22 ⊢
    by_cases h3 : kk = 3
    · subst h3
      refine J_is C0 [(8, .int (nI mm)), (7, .int (nI n)), (6, .int fr), (5, .int (nI nn)), (4, .int (nI 3)), (3, .int (nI hh)), (0, .ref (b 0)), (1, .int (nI 10)), (2, .int y)] dL_goes_350 (kk := ?_)
      refine J_il C0 4 dL_goes_352 (kk := ?_)
      refine J_ic C0 3 dL_goes_354 (kk := ?_)
      refine J_icmpne C0 362 dL_goes_355 (kt := fun c => absurd (by decide) c) (kf := fun _ => ?_)
      refine J_ic C0 0 dL_goes_358 (kk := ?_)
      refine J_goto C0 377 dL_goes_359 (kk := ?_)
      refine J_is C0 [(9, .int (nI 0)), (8, .int (nI mm)), (7, .int (nI n)), (6, .int fr), (5, .int (nI nn)), (4, .int (nI 3)), (3, .int (nI hh)), (0, .ref (b 0)), (1, .int (nI 10)), (2, .int y)] dL_goes_377 (kk := ?_)
      refine J_il C0 5 dL_goes_379 (kk := ?_)
      refine J_ic C0 3 dL_goes_381 (kk := ?_)
      refine J_icmpne C0 389 dL_goes_382 (kt := fun c => absurd (by decide) c) (kf := fun _ => ?_)
      refine J_ic C0 0 dL_goes_385 (kk := ?_)
      refine J_goto C0 396 dL_goes_386 (kk := ?_)
      refine J_is C0 [(10, .int (nI 0)), (9, .int (nI 0)), (8, .int (nI mm)), (7, .int (nI n)), (6, .int fr), (5, .int (nI nn)), (4, .int (nI 3)), (3, .int (nI hh)), (0, .ref (b 0)), (1, .int (nI 10)), (2, .int y)] dL_goes_396 (kk := ?_)
      refine J_aln C0 8 dL_goes_398 (kk := ?_)
      refine J_il C0 6 dL_goes_399 (kk := ?_)
      refine J_il C0 2 dL_goes_401 (kk := ?_)
      refine J_callWHd C0 hX (k_bottles_i l K b nA aA d e F Ga D S T tl tg hst (nI mm)) gL_goes_L_bottles dL_goes_403 3 (kk := ?_)
      show J G _ _ _ _ _ [.int (-101)]
      refine J_il C0 6 dL_goes_406 (kk := ?_)
      refine J_ic C0 3 dL_goes_408 (kk := ?_)
      refine J_icmpne C0 417 dL_goes_409 (kt := fun c => absurd (by decide) c) (kf := fun _ => ?_)
      refine J_biv C0 (-101) dL_goes_412 (kk := ?_)
      refine J_goto C0 443 dL_goes_414 (kk := ?_)
      refine J_icmpne C0 450 dL_goes_443 (kt := fun c => absurd (show ((-101) : Int32) = -101 from rfl) c) (kf := fun _ => ?_)
      refine J_ic C0 1 dL_goes_446 (kk := ?_)
      refine J_goto C0 451 dL_goes_447 (kk := ?_)
      exact J_zret C0 hF dL_goes_451 (by decide) hR.thrown0
    · have h5 : kk < 3 := by omega
      by_cases m21 : mm = 21
      · subst m21
        refine J_is C0 [(8, .int (nI 21)), (7, .int (nI n)), (6, .int fr), (5, .int (nI nn)), (4, .int (nI kk)), (3, .int (nI hh)), (0, .ref (b 0)), (1, .int (nI 10)), (2, .int y)] dL_goes_350 (kk := ?_)
        refine J_il C0 4 dL_goes_352 (kk := ?_)
        refine J_ic C0 3 dL_goes_354 (kk := ?_)
        refine J_icmpneN C0 362 (by omega) (by omega) dL_goes_355 (kt := fun _ => ?_) (kf := fun c => False.elim (by omega))
        refine J_aln C0 6 dL_goes_362 (kk := ?_)
        refine J_il C0 4 dL_goes_363 (kk := ?_)
        refine J_ic C0 1 dL_goes_365 (kk := ?_)
        refine J_callWHd C0 hX (k_kind l K b nA aA d e F Ga D S T tl tg (c := kk) (w := 1) (by omega) (by decide)) gL_goes_L_kind dL_goes_366 3 (kk := ?_)
        show J G _ _ _ _ _ [.int (F 3 kk)]
        refine J_aln C0 6 dL_goes_369 (kk := ?_)
        refine J_il C0 4 dL_goes_370 (kk := ?_)
        refine J_ic C0 2 dL_goes_372 (kk := ?_)
        refine J_callWHd C0 hX (k_kind l K b nA aA d e F Ga D S T tl tg (c := kk) (w := 2) (by omega) (by decide)) gL_goes_L_kind dL_goes_373 3 (kk := ?_)
        show J G _ _ _ _ _ [.int (outK F kk), .int (F 3 kk)]
        refine J_iadd C0 dL_goes_376 (kk := ?_)
        refine J_is C0 [(9, .int ((F 3 kk) + (outK F kk))), (8, .int (nI 21)), (7, .int (nI n)), (6, .int fr), (5, .int (nI nn)), (4, .int (nI kk)), (3, .int (nI hh)), (0, .ref (b 0)), (1, .int (nI 10)), (2, .int y)] dL_goes_377 (kk := ?_)
        refine J_il C0 5 dL_goes_379 (kk := ?_)
        refine J_ic C0 3 dL_goes_381 (kk := ?_)
        refine J_icmpneN C0 389 (by omega) (by omega) dL_goes_382 (kt := fun _ => ?_) (kf := fun c => False.elim (by omega))
        refine J_aln C0 7 dL_goes_389 (kk := ?_)
        refine J_il C0 5 dL_goes_390 (kk := ?_)
        refine J_ic C0 0 dL_goes_392 (kk := ?_)
        refine J_callWHd C0 hX (k_kind l K b nA aA d e F Ga D S T tl tg (c := kk) (w := 0) (by omega) (by decide)) gL_goes_L_kind dL_goes_393 3 (kk := ?_)
        show J G _ _ _ _ _ [.int (F 2 kk)]
        refine J_is C0 [(10, .int (F 2 kk)), (9, .int ((F 3 kk) + (outK F kk))), (8, .int (nI 21)), (7, .int (nI n)), (6, .int fr), (5, .int (nI nn)), (4, .int (nI kk)), (3, .int (nI hh)), (0, .ref (b 0)), (1, .int (nI 10)), (2, .int y)] dL_goes_396 (kk := ?_)
        refine J_aln C0 8 dL_goes_398 (kk := ?_)
        refine J_il C0 6 dL_goes_399 (kk := ?_)
        refine J_il C0 2 dL_goes_401 (kk := ?_)
        refine J_callWHd C0 hX (k_bottles_m l K b nA aA d e F Ga D S T tl tg hst h5) gL_goes_L_bottles dL_goes_403 3 (kk := ?_)
        show J G _ _ _ _ _ [.int (-102)]
        refine J_il C0 6 dL_goes_406 (kk := ?_)
        refine J_ic C0 3 dL_goes_408 (kk := ?_)
        refine J_icmpneN C0 417 (by omega) (by omega) dL_goes_409 (kt := fun _ => ?_) (kf := fun c => False.elim (by omega))
        refine J_il C0 2 dL_goes_417 (kk := ?_)
        refine J_bi C0 21 dL_goes_419 (kk := ?_)
        refine J_icmpne C0 429 dL_goes_421 (kt := fun c => absurd (by decide) c) (kf := fun _ => ?_)
        refine J_biv C0 (-102) dL_goes_424 (kk := ?_)
        refine J_goto C0 443 dL_goes_426 (kk := ?_)
        refine J_icmpne C0 450 dL_goes_443 (kt := fun c => absurd (show ((-102) : Int32) = -102 from rfl) c) (kf := fun _ => ?_)
        refine J_ic C0 1 dL_goes_446 (kk := ?_)
        refine J_goto C0 451 dL_goes_447 (kk := ?_)
        exact J_zret C0 hF dL_goes_451 (by decide) hR.thrown0
      · by_cases hc : F 3 kk + outK F kk ≤ nI mm
        · refine J_is C0 [(8, .int (nI mm)), (7, .int (nI n)), (6, .int fr), (5, .int (nI nn)), (4, .int (nI kk)), (3, .int (nI hh)), (0, .ref (b 0)), (1, .int (nI 10)), (2, .int y)] dL_goes_350 (kk := ?_)
          refine J_il C0 4 dL_goes_352 (kk := ?_)
          refine J_ic C0 3 dL_goes_354 (kk := ?_)
          refine J_icmpneN C0 362 (by omega) (by omega) dL_goes_355 (kt := fun _ => ?_) (kf := fun c => False.elim (by omega))
          refine J_aln C0 6 dL_goes_362 (kk := ?_)
          refine J_il C0 4 dL_goes_363 (kk := ?_)
          refine J_ic C0 1 dL_goes_365 (kk := ?_)
          refine J_callWHd C0 hX (k_kind l K b nA aA d e F Ga D S T tl tg (c := kk) (w := 1) (by omega) (by decide)) gL_goes_L_kind dL_goes_366 3 (kk := ?_)
          show J G _ _ _ _ _ [.int (F 3 kk)]
          refine J_aln C0 6 dL_goes_369 (kk := ?_)
          refine J_il C0 4 dL_goes_370 (kk := ?_)
          refine J_ic C0 2 dL_goes_372 (kk := ?_)
          refine J_callWHd C0 hX (k_kind l K b nA aA d e F Ga D S T tl tg (c := kk) (w := 2) (by omega) (by decide)) gL_goes_L_kind dL_goes_373 3 (kk := ?_)
          show J G _ _ _ _ _ [.int (outK F kk), .int (F 3 kk)]
          refine J_iadd C0 dL_goes_376 (kk := ?_)
          refine J_is C0 [(9, .int ((F 3 kk) + (outK F kk))), (8, .int (nI mm)), (7, .int (nI n)), (6, .int fr), (5, .int (nI nn)), (4, .int (nI kk)), (3, .int (nI hh)), (0, .ref (b 0)), (1, .int (nI 10)), (2, .int y)] dL_goes_377 (kk := ?_)
          refine J_il C0 5 dL_goes_379 (kk := ?_)
          refine J_ic C0 3 dL_goes_381 (kk := ?_)
          refine J_icmpneN C0 389 (by omega) (by omega) dL_goes_382 (kt := fun _ => ?_) (kf := fun c => False.elim (by omega))
          refine J_aln C0 7 dL_goes_389 (kk := ?_)
          refine J_il C0 5 dL_goes_390 (kk := ?_)
          refine J_ic C0 0 dL_goes_392 (kk := ?_)
          refine J_callWHd C0 hX (k_kind l K b nA aA d e F Ga D S T tl tg (c := kk) (w := 0) (by omega) (by decide)) gL_goes_L_kind dL_goes_393 3 (kk := ?_)
          show J G _ _ _ _ _ [.int (F 2 kk)]
          refine J_is C0 [(10, .int (F 2 kk)), (9, .int ((F 3 kk) + (outK F kk))), (8, .int (nI mm)), (7, .int (nI n)), (6, .int fr), (5, .int (nI nn)), (4, .int (nI kk)), (3, .int (nI hh)), (0, .ref (b 0)), (1, .int (nI 10)), (2, .int y)] dL_goes_396 (kk := ?_)
          refine J_aln C0 8 dL_goes_398 (kk := ?_)
          refine J_il C0 6 dL_goes_399 (kk := ?_)
          refine J_il C0 2 dL_goes_401 (kk := ?_)
          refine J_callWHd C0 hX (k_bottles l K b nA aA d e F Ga D S T tl tg k6 ek h5 (m := mm) (by omega) hc) gL_goes_L_bottles dL_goes_403 3 (kk := ?_)
          show J G _ _ _ _ _ [.int (F 2 kk)]
          refine J_il C0 6 dL_goes_406 (kk := ?_)
          refine J_ic C0 3 dL_goes_408 (kk := ?_)
          refine J_icmpneN C0 417 (by omega) (by omega) dL_goes_409 (kt := fun _ => ?_) (kf := fun c => False.elim (by omega))
          refine J_il C0 2 dL_goes_417 (kk := ?_)
          refine J_bi C0 21 dL_goes_419 (kk := ?_)
          refine J_icmpneN C0 429 (by omega) (by omega) dL_goes_421 (kt := fun _ => ?_) (kf := fun c => False.elim (by omega))
          refine J_il C0 2 dL_goes_429 (kk := ?_)
          refine J_il C0 1 dL_goes_431 (kk := ?_)
          refine J_icmpge C0 441 dL_goes_433 (kt := fun _ => ?_) (kf := fun c => absurd hc c)
          refine J_il C0 0 dL_goes_441 (kk := ?_)
          refine J_icmpne C0 450 dL_goes_443 (kt := fun c => absurd (show F 2 kk = F 2 kk from rfl) c) (kf := fun _ => ?_)
          refine J_ic C0 1 dL_goes_446 (kk := ?_)
          refine J_goto C0 451 dL_goes_447 (kk := ?_)
          exact J_zret C0 hF dL_goes_451 (by decide) (hR.done0 (hY.bottles hi h5 (by omega) hc))
        · refine J_is C0 [(8, .int (nI mm)), (7, .int (nI n)), (6, .int fr), (5, .int (nI nn)), (4, .int (nI kk)), (3, .int (nI hh)), (0, .ref (b 0)), (1, .int (nI 10)), (2, .int y)] dL_goes_350 (kk := ?_)
          refine J_il C0 4 dL_goes_352 (kk := ?_)
          refine J_ic C0 3 dL_goes_354 (kk := ?_)
          refine J_icmpneN C0 362 (by omega) (by omega) dL_goes_355 (kt := fun _ => ?_) (kf := fun c => False.elim (by omega))
          refine J_aln C0 6 dL_goes_362 (kk := ?_)
          refine J_il C0 4 dL_goes_363 (kk := ?_)
          refine J_ic C0 1 dL_goes_365 (kk := ?_)
          refine J_callWHd C0 hX (k_kind l K b nA aA d e F Ga D S T tl tg (c := kk) (w := 1) (by omega) (by decide)) gL_goes_L_kind dL_goes_366 3 (kk := ?_)
          show J G _ _ _ _ _ [.int (F 3 kk)]
          refine J_aln C0 6 dL_goes_369 (kk := ?_)
          refine J_il C0 4 dL_goes_370 (kk := ?_)
          refine J_ic C0 2 dL_goes_372 (kk := ?_)
          refine J_callWHd C0 hX (k_kind l K b nA aA d e F Ga D S T tl tg (c := kk) (w := 2) (by omega) (by decide)) gL_goes_L_kind dL_goes_373 3 (kk := ?_)
          show J G _ _ _ _ _ [.int (outK F kk), .int (F 3 kk)]
          refine J_iadd C0 dL_goes_376 (kk := ?_)
          refine J_is C0 [(9, .int ((F 3 kk) + (outK F kk))), (8, .int (nI mm)), (7, .int (nI n)), (6, .int fr), (5, .int (nI nn)), (4, .int (nI kk)), (3, .int (nI hh)), (0, .ref (b 0)), (1, .int (nI 10)), (2, .int y)] dL_goes_377 (kk := ?_)
          refine J_il C0 5 dL_goes_379 (kk := ?_)
          refine J_ic C0 3 dL_goes_381 (kk := ?_)
          refine J_icmpneN C0 389 (by omega) (by omega) dL_goes_382 (kt := fun _ => ?_) (kf := fun c => False.elim (by omega))
          refine J_aln C0 7 dL_goes_389 (kk := ?_)
          refine J_il C0 5 dL_goes_390 (kk := ?_)
          refine J_ic C0 0 dL_goes_392 (kk := ?_)
          refine J_callWHd C0 hX (k_kind l K b nA aA d e F Ga D S T tl tg (c := kk) (w := 0) (by omega) (by decide)) gL_goes_L_kind dL_goes_393 3 (kk := ?_)
          show J G _ _ _ _ _ [.int (F 2 kk)]
          refine J_is C0 [(10, .int (F 2 kk)), (9, .int ((F 3 kk) + (outK F kk))), (8, .int (nI mm)), (7, .int (nI n)), (6, .int fr), (5, .int (nI nn)), (4, .int (nI kk)), (3, .int (nI hh)), (0, .ref (b 0)), (1, .int (nI 10)), (2, .int y)] dL_goes_396 (kk := ?_)
          refine J_aln C0 8 dL_goes_398 (kk := ?_)
          refine J_il C0 6 dL_goes_399 (kk := ?_)
          refine J_il C0 2 dL_goes_401 (kk := ?_)
          refine J_callWHd C0 hX (k_bottles_s l K b nA aA d e F Ga D S T tl tg hst h5 (m := mm) (by omega) hc) gL_goes_L_bottles dL_goes_403 3 (kk := ?_)
          show J G _ _ _ _ _ [.int (-103)]
          refine J_il C0 6 dL_goes_406 (kk := ?_)
          refine J_ic C0 3 dL_goes_408 (kk := ?_)
          refine J_icmpneN C0 417 (by omega) (by omega) dL_goes_409 (kt := fun _ => ?_) (kf := fun c => False.elim (by omega))
          refine J_il C0 2 dL_goes_417 (kk := ?_)
          refine J_bi C0 21 dL_goes_419 (kk := ?_)
          refine J_icmpneN C0 429 (by omega) (by omega) dL_goes_421 (kt := fun _ => ?_) (kf := fun c => False.elim (by omega))
          refine J_il C0 2 dL_goes_429 (kk := ?_)
          refine J_il C0 1 dL_goes_431 (kk := ?_)
          refine J_icmpge C0 441 dL_goes_433 (kt := fun c => absurd c hc) (kf := fun _ => ?_)
          refine J_biv C0 (-103) dL_goes_436 (kk := ?_)
          refine J_goto C0 443 dL_goes_438 (kk := ?_)
          refine J_icmpne C0 450 dL_goes_443 (kt := fun c => absurd (show ((-103) : Int32) = -103 from rfl) c) (kf := fun _ => ?_)
          refine J_ic C0 1 dL_goes_446 (kk := ?_)
          refine J_goto C0 451 dL_goes_447 (kk := ?_)
          exact J_zret C0 hF dL_goes_451 (by decide) hR.thrown0
  have t69 : ∀ (hh kk nn : Nat) (fr : Int32), hh ≤ hn → kk ≤ 3 → ((nn = 1 ∧ (hh = hn ∨ kk = 3)) ∨ (nn = 0 ∧ hh < hn ∧ kk < 3)) → (kk < 3 → fr = freeS F kk) → J G (corkW K b nA aA d e F Ga D S T) [(7, .int (nI n)), (6, .int fr), (5, .int (nI nn)), (4, .int (nI kk)), (3, .int (nI hh)), (0, .ref (b 0)), (1, .int (nI g)), (2, .int y)] 0 0 69 [] := by
    intro hh kk nn fr h1 h2 hno hfr
    rcases (show g < 4 ∨ (4 ≤ g ∧ g < 6) ∨ (6 ≤ g ∧ g < 9) ∨ g = 9 ∨ g = 10 by omega) with q | q | q | q | q
    · exact t_lend hh kk nn fr q h1 h2 hno hfr
    · exact t_ask hh kk nn fr q h1 h2 hno hfr
    · exact t_want hh kk nn fr q h1 h2 hno hfr
    · exact t_drink hh kk nn fr q h1 h2 hno hfr
    · exact t_bottles hh kk nn fr q h1 h2 hno hfr
  refine J_iln C0 2 dL_goes_0 (kk := ?_)
  refine J_aln C0 0 dL_goes_1 (kk := ?_)
  refine J_ic C0 1 dL_goes_2 (kk := ?_)
  refine J_callVz C0 (mX4_count l K b nA aA d e F Ga D S T (w := 1) (by decide)) gL_goes_X4_count dL_goes_3 1 (kk := ?_)
  show J G _ _ _ _ _ [.int (F 0 1), .int y]
  refine J_int C0 eh ?_
  refine J_ic C0 1 dL_goes_6 (kk := ?_)
  refine J_iaddN C0 dL_goes_7 (kk := ?_)
  refine J_callSd C0 (mL_low l K y (k := (hn + 1)) (by omega) (by omega)) (corkW K b nA aA d e F Ga D S T) (corkW K b nA aA d e F Ga D S T) gL_goes_L_low dL_goes_8 2 (hbs := (List.append_nil _).symm) (hb1 := List.append_nil _) (kk := ?_)
  show J G _ _ _ _ _ [.int (nI (lowS y (hn + 1)))]
  refine J_isn C0 [(3, .int (nI (lowS y (hn + 1)))), (0, .ref (b 0)), (1, .int (nI g)), (2, .int y)] dL_goes_11 (kk := ?_)
  refine J_iln C0 3 dL_goes_12 (kk := ?_)
  refine J_ic C0 3 dL_goes_13 (kk := ?_)
  refine J_ishr C0 dL_goes_14 (kk := ?_)
  refine J_ic C0 4 dL_goes_15 (kk := ?_)
  refine J_callSd C0 (mL_low l K (y >>> (nI 3 &&& 31)) (k := 4) (by omega) (by omega)) (corkW K b nA aA d e F Ga D S T) (corkW K b nA aA d e F Ga D S T) gL_goes_L_low dL_goes_16 2 (hbs := (List.append_nil _).symm) (hb1 := List.append_nil _) (kk := ?_)
  show J G _ _ _ _ _ [.int (nI (lowS (y >>> (nI 3 &&& 31)) 4))]
  refine J_is C0 [(4, .int (nI (lowS (y >>> (nI 3 &&& 31)) 4))), (3, .int (nI (lowS y (hn + 1)))), (0, .ref (b 0)), (1, .int (nI g)), (2, .int y)] dL_goes_19 (kk := ?_)
  have h1 := lowS_lt y (k := hn + 1) (by omega)
  have h2 := lowS_lt (y >>> (nI 3 &&& 31)) (k := 4) (by decide)
  generalize lowS y (hn + 1) = hh at h1 ⊢
  generalize lowS (y >>> (nI 3 &&& 31)) 4 = kk at h2 ⊢
  by_cases k3 : kk = 3
  · subst k3
    by_cases hq : hh = hn
    · refine J_iln C0 1 dL_goes_21 (kk := ?_)
      refine J_aln C0 2 dL_goes_22 (kk := ?_)
      refine J_ic C0 1 dL_goes_23 (kk := ?_)
      refine J_callVz C0 (mX4_count l K b nA aA d e F Ga D S T (w := 1) (by decide)) gL_goes_X4_count dL_goes_24 1 (kk := ?_)
      show J G _ _ _ _ _ [.int (F 0 1), .int (nI hh)]
      refine J_int C0 eh ?_
      refine J_icmpeqN C0 36 (by omega) (by omega) dL_goes_27 (kt := fun _ => ?_) (kf := fun c => False.elim (by omega))
      refine J_ic C0 1 dL_goes_36 (kk := ?_)
      refine J_goto C0 41 dL_goes_37 (kk := ?_)
      refine J_is C0 [(5, .int (nI 1)), (4, .int (nI 3)), (3, .int (nI hh)), (0, .ref (b 0)), (1, .int (nI g)), (2, .int y)] dL_goes_41 (kk := ?_)
      refine J_il C0 1 dL_goes_43 (kk := ?_)
      refine J_ic C0 3 dL_goes_45 (kk := ?_)
      refine J_icmpne C0 53 dL_goes_46 (kt := fun c => absurd (by decide) c) (kf := fun _ => ?_)
      refine J_ic C0 0 dL_goes_49 (kk := ?_)
      refine J_goto C0 60 dL_goes_50 (kk := ?_)
      refine J_is C0 [(6, .int (nI 0)), (5, .int (nI 1)), (4, .int (nI 3)), (3, .int (nI hh)), (0, .ref (b 0)), (1, .int (nI g)), (2, .int y)] dL_goes_60 (kk := ?_)
      refine J_aln C0 4 dL_goes_62 (kk := ?_)
      refine J_ic C0 2 dL_goes_63 (kk := ?_)
      refine J_callVz C0 (mX4_count l K b nA aA d e F Ga D S T (w := 2) (by decide)) gL_goes_X4_count dL_goes_64 1 (kk := ?_)
      show J G _ _ _ _ _ [.int (F 0 4)]
      refine J_int C0 en ?_
      refine J_is C0 [(7, .int (nI n)), (6, .int (nI 0)), (5, .int (nI 1)), (4, .int (nI 3)), (3, .int (nI hh)), (0, .ref (b 0)), (1, .int (nI g)), (2, .int y)] dL_goes_67 (kk := ?_)
      exact t69 hh 3 1 _ (by omega) (by omega) (Or.inl ⟨rfl, Or.inr rfl⟩) (fun z => by omega)
    · refine J_iln C0 1 dL_goes_21 (kk := ?_)
      refine J_aln C0 2 dL_goes_22 (kk := ?_)
      refine J_ic C0 1 dL_goes_23 (kk := ?_)
      refine J_callVz C0 (mX4_count l K b nA aA d e F Ga D S T (w := 1) (by decide)) gL_goes_X4_count dL_goes_24 1 (kk := ?_)
      show J G _ _ _ _ _ [.int (F 0 1), .int (nI hh)]
      refine J_int C0 eh ?_
      refine J_icmpeqN C0 36 (by omega) (by omega) dL_goes_27 (kt := fun c => False.elim (by omega)) (kf := fun _ => ?_)
      refine J_il C0 0 dL_goes_30 (kk := ?_)
      refine J_ic C0 3 dL_goes_32 (kk := ?_)
      refine J_icmpne C0 40 dL_goes_33 (kt := fun c => absurd (by decide) c) (kf := fun _ => ?_)
      refine J_ic C0 1 dL_goes_36 (kk := ?_)
      refine J_goto C0 41 dL_goes_37 (kk := ?_)
      refine J_is C0 [(5, .int (nI 1)), (4, .int (nI 3)), (3, .int (nI hh)), (0, .ref (b 0)), (1, .int (nI g)), (2, .int y)] dL_goes_41 (kk := ?_)
      refine J_il C0 1 dL_goes_43 (kk := ?_)
      refine J_ic C0 3 dL_goes_45 (kk := ?_)
      refine J_icmpne C0 53 dL_goes_46 (kt := fun c => absurd (by decide) c) (kf := fun _ => ?_)
      refine J_ic C0 0 dL_goes_49 (kk := ?_)
      refine J_goto C0 60 dL_goes_50 (kk := ?_)
      refine J_is C0 [(6, .int (nI 0)), (5, .int (nI 1)), (4, .int (nI 3)), (3, .int (nI hh)), (0, .ref (b 0)), (1, .int (nI g)), (2, .int y)] dL_goes_60 (kk := ?_)
      refine J_aln C0 4 dL_goes_62 (kk := ?_)
      refine J_ic C0 2 dL_goes_63 (kk := ?_)
      refine J_callVz C0 (mX4_count l K b nA aA d e F Ga D S T (w := 2) (by decide)) gL_goes_X4_count dL_goes_64 1 (kk := ?_)
      show J G _ _ _ _ _ [.int (F 0 4)]
      refine J_int C0 en ?_
      refine J_is C0 [(7, .int (nI n)), (6, .int (nI 0)), (5, .int (nI 1)), (4, .int (nI 3)), (3, .int (nI hh)), (0, .ref (b 0)), (1, .int (nI g)), (2, .int y)] dL_goes_67 (kk := ?_)
      exact t69 hh 3 1 _ (by omega) (by omega) (Or.inl ⟨rfl, Or.inr rfl⟩) (fun z => by omega)
  · by_cases hq : hh = hn
    · refine J_iln C0 1 dL_goes_21 (kk := ?_)
      refine J_aln C0 2 dL_goes_22 (kk := ?_)
      refine J_ic C0 1 dL_goes_23 (kk := ?_)
      refine J_callVz C0 (mX4_count l K b nA aA d e F Ga D S T (w := 1) (by decide)) gL_goes_X4_count dL_goes_24 1 (kk := ?_)
      show J G _ _ _ _ _ [.int (F 0 1), .int (nI hh)]
      refine J_int C0 eh ?_
      refine J_icmpeqN C0 36 (by omega) (by omega) dL_goes_27 (kt := fun _ => ?_) (kf := fun c => False.elim (by omega))
      refine J_ic C0 1 dL_goes_36 (kk := ?_)
      refine J_goto C0 41 dL_goes_37 (kk := ?_)
      refine J_is C0 [(5, .int (nI 1)), (4, .int (nI kk)), (3, .int (nI hh)), (0, .ref (b 0)), (1, .int (nI g)), (2, .int y)] dL_goes_41 (kk := ?_)
      refine J_il C0 1 dL_goes_43 (kk := ?_)
      refine J_ic C0 3 dL_goes_45 (kk := ?_)
      refine J_icmpneN C0 53 (by omega) (by omega) dL_goes_46 (kt := fun _ => ?_) (kf := fun c => False.elim (by omega))
      refine J_aln C0 3 dL_goes_53 (kk := ?_)
      refine J_il C0 1 dL_goes_54 (kk := ?_)
      refine J_ic C0 3 dL_goes_56 (kk := ?_)
      refine J_callWHd C0 hX (k_kind l K b nA aA d e F Ga D S T tl tg (c := kk) (w := 3) (by omega) (by decide)) gL_goes_L_kind dL_goes_57 3 (kk := ?_)
      show J G _ _ _ _ _ [.int (freeS F kk)]
      refine J_is C0 [(6, .int (freeS F kk)), (5, .int (nI 1)), (4, .int (nI kk)), (3, .int (nI hh)), (0, .ref (b 0)), (1, .int (nI g)), (2, .int y)] dL_goes_60 (kk := ?_)
      refine J_aln C0 4 dL_goes_62 (kk := ?_)
      refine J_ic C0 2 dL_goes_63 (kk := ?_)
      refine J_callVz C0 (mX4_count l K b nA aA d e F Ga D S T (w := 2) (by decide)) gL_goes_X4_count dL_goes_64 1 (kk := ?_)
      show J G _ _ _ _ _ [.int (F 0 4)]
      refine J_int C0 en ?_
      refine J_is C0 [(7, .int (nI n)), (6, .int (freeS F kk)), (5, .int (nI 1)), (4, .int (nI kk)), (3, .int (nI hh)), (0, .ref (b 0)), (1, .int (nI g)), (2, .int y)] dL_goes_67 (kk := ?_)
      exact t69 hh kk 1 _ (by omega) (by omega) (Or.inl ⟨rfl, Or.inl hq⟩) (fun _ => rfl)
    · refine J_iln C0 1 dL_goes_21 (kk := ?_)
      refine J_aln C0 2 dL_goes_22 (kk := ?_)
      refine J_ic C0 1 dL_goes_23 (kk := ?_)
      refine J_callVz C0 (mX4_count l K b nA aA d e F Ga D S T (w := 1) (by decide)) gL_goes_X4_count dL_goes_24 1 (kk := ?_)
      show J G _ _ _ _ _ [.int (F 0 1), .int (nI hh)]
      refine J_int C0 eh ?_
      refine J_icmpeqN C0 36 (by omega) (by omega) dL_goes_27 (kt := fun c => False.elim (by omega)) (kf := fun _ => ?_)
      refine J_il C0 0 dL_goes_30 (kk := ?_)
      refine J_ic C0 3 dL_goes_32 (kk := ?_)
      refine J_icmpneN C0 40 (by omega) (by omega) dL_goes_33 (kt := fun _ => ?_) (kf := fun c => False.elim (by omega))
      refine J_ic C0 0 dL_goes_40 (kk := ?_)
      refine J_is C0 [(5, .int (nI 0)), (4, .int (nI kk)), (3, .int (nI hh)), (0, .ref (b 0)), (1, .int (nI g)), (2, .int y)] dL_goes_41 (kk := ?_)
      refine J_il C0 1 dL_goes_43 (kk := ?_)
      refine J_ic C0 3 dL_goes_45 (kk := ?_)
      refine J_icmpneN C0 53 (by omega) (by omega) dL_goes_46 (kt := fun _ => ?_) (kf := fun c => False.elim (by omega))
      refine J_aln C0 3 dL_goes_53 (kk := ?_)
      refine J_il C0 1 dL_goes_54 (kk := ?_)
      refine J_ic C0 3 dL_goes_56 (kk := ?_)
      refine J_callWHd C0 hX (k_kind l K b nA aA d e F Ga D S T tl tg (c := kk) (w := 3) (by omega) (by decide)) gL_goes_L_kind dL_goes_57 3 (kk := ?_)
      show J G _ _ _ _ _ [.int (freeS F kk)]
      refine J_is C0 [(6, .int (freeS F kk)), (5, .int (nI 0)), (4, .int (nI kk)), (3, .int (nI hh)), (0, .ref (b 0)), (1, .int (nI g)), (2, .int y)] dL_goes_60 (kk := ?_)
      refine J_aln C0 4 dL_goes_62 (kk := ?_)
      refine J_ic C0 2 dL_goes_63 (kk := ?_)
      refine J_callVz C0 (mX4_count l K b nA aA d e F Ga D S T (w := 2) (by decide)) gL_goes_X4_count dL_goes_64 1 (kk := ?_)
      show J G _ _ _ _ _ [.int (F 0 4)]
      refine J_int C0 en ?_
      refine J_is C0 [(7, .int (nI n)), (6, .int (freeS F kk)), (5, .int (nI 0)), (4, .int (nI kk)), (3, .int (nI hh)), (0, .ref (b 0)), (1, .int (nI g)), (2, .int y)] dL_goes_67 (kk := ?_)
      exact t69 hh kk 0 _ (by omega) (by omega) (Or.inr ⟨rfl, by omega, by omega⟩) (fun _ => rfl)
