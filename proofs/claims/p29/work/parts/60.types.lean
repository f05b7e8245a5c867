/-! types(): a text of at most 19 characters -/
def TT (T T' : FF) (m : Nat) : Prop := T' 0 1 = nI m ∧ T' 0 0 = T 0 0 ∧ T' 1 = T 1
theorem TT.app {T T' : FF} {m : Nat} (h : TT T T' m) (x : Int32) : TT T (u2 (u2 T' 2 m x) 0 1 (nI (m + 1))) (m + 1) :=
  ⟨u2_s _ _ _ _, by rw [u2_12, if_neg (by decide), u2_i (by decide)]; exact h.2.1, by rw [u2_i (by decide), u2_i (by decide)]; exact h.2.2⟩
abbrev rmL_types : Room := { frames := 10, cells := 0, slots := 0, locals := 300 }
def TypesP (K : KT) (b nA aA : Nat → Nat) (d e : Nat → Nat → Nat) (F Ga : FF) (D S : Nat → FF) (T : FF) (r : Option Value) (w : List va_W) : Prop := r = some (.int (nI 1)) ∧ ∃ T' m, m ≤ 19 ∧ TT T T' m ∧ w = corkW K b nA aA d e F Ga D S T'
set_option maxHeartbeats 4000000 in
set_option maxRecDepth 100000 in
theorem mL_types (l : Launch) (K : KT) (b nA aA : Nat → Nat) (d e : Nat → Nat → Nat) (F Ga : FF) (D S : Nat → FF) (T : FF) (tl tg : Nat) {nt : Nat} (ht : T 0 1 = nI nt) (ht60 : nt ≤ 60) (x : Int32) : CtWP l K yL_types wsL_types rmL_types [.ref (b 0), .int x] (corkW K b nA aA d e F Ga D S T) (TypesP K b nA aA d e F Ga D S T) tl tg := by
  refine CtWP_of (cc := cL_types) (nL := 7) (rt := some .boolean) (own := RL) (lv0 := [(0, .ref (b 0)), (1, .int x)]) (by decide) rfl (Nat.le_of_ble_eq_true rfl) rfl rfl ?_
  intro G C0 hF hX
  have hn7 := lowS_lt x (k := 7) (by decide)
  have loop : ∀ (n q j m : Nat) (T1 : FF), n < 7 → j + q = n → TT T T1 m → m ≤ 3 * j → J G (corkW K b nA aA d e F Ga D S T1) [(4, .int (nI j)), (3, .int (nI 1)), (2, .int (nI n)), (0, .ref (b 0)), (1, .int x)] 0 0 23 [] := by
    intro n q
    induction q with
    | zero =>
      intro j m T1 hn hq hT1 hm
      have hj : j = n := by omega
      rw [hj]
      refine J_il C0 0 dL_types_23 (kk := ?_)
      refine J_iln C0 2 dL_types_25 (kk := ?_)
      refine J_icmpgeN C0 232 (by omega) (by omega) dL_types_26 (kt := fun _ => ?_) (kf := fun c => False.elim (by omega))
      refine J_iln C0 1 dL_types_232 (kk := ?_)
      refine J_ifeq C0 261 dL_types_233 (kt := fun c => absurd c (by decide)) (kf := fun _ => ?_)
      refine J_iln C0 4 dL_types_236 (kk := ?_)
      refine J_bi C0 26 dL_types_237 (kk := ?_)
      refine J_ishr C0 dL_types_239 (kk := ?_)
      refine J_bi C0 6 dL_types_240 (kk := ?_)
      refine J_callSd C0 (mL_low l K (x >>> (nI 26 &&& 31)) (k := 6) (by omega) (by omega)) (corkW K b nA aA d e F Ga D S T1) (corkW K b nA aA d e F Ga D S T1) gL_types_L_low dL_types_242 2 (hbs := (List.append_nil _).symm) (hb1 := List.append_nil _) (kk := ?_)
      show J G _ _ _ _ _ [.int (nI (lowS (x >>> (nI 26 &&& 31)) 6))]
      have hz6 := lowS_lt (x >>> (nI 26 &&& 31)) (k := 6) (by decide)
      generalize lowS (x >>> (nI 26 &&& 31)) 6 = z at hz6 ⊢
      by_cases hz : z = 0
      · refine J_ifgt C0 257 dL_types_245 (kt := fun c => absurd c (show ¬ 0 < nI z from by rw [hz]; decide)) (kf := fun _ => ?_)
        refine J_aln C0 3 dL_types_248 (kk := ?_)
        refine J_bi C0 119 dL_types_249 (kk := ?_)
        refine J_callWHd C0 hX (k_append l K b nA aA d e F Ga D S T1 tl tg (x := nI 119) (n := m) (nI_nlt (by omega) (by omega)) (nI_le (by omega) (by omega)) hT1.1 (by omega)) gL_types_L_append dL_types_251 2 (kk := ?_)
        show J G _ _ _ _ _ [.int (nI (m + 1))]
        refine J_ifle C0 261 dL_types_254 (kt := fun c => absurd c (nI_nle (n := m + 1) (by omega) (by omega))) (kf := fun _ => ?_)
        refine J_ic C0 1 dL_types_257 (kk := ?_)
        refine J_goto C0 262 dL_types_258 (kk := ?_)
        exact J_zret C0 hF dL_types_262 (by decide) ⟨rfl, _, m + 1, by omega, hT1.app (nI 119), rfl⟩
      · have hz0 : 0 < nI z := (nI_0lt (by omega)).mpr (by omega)
        refine J_ifgt C0 257 dL_types_245 (kt := fun _ => ?_) (kf := fun c => absurd hz0 c)
        refine J_ic C0 1 dL_types_257 (kk := ?_)
        refine J_goto C0 262 dL_types_258 (kk := ?_)
        exact J_zret C0 hF dL_types_262 (by decide) ⟨rfl, T1, m, by omega, hT1, rfl⟩
    | succ q ih =>
      intro j m T1 hn hq hT1 hm
      refine J_il C0 0 dL_types_23 (kk := ?_)
      refine J_iln C0 2 dL_types_25 (kk := ?_)
      refine J_icmpgeN C0 232 (by omega) (by omega) dL_types_26 (kt := fun c => False.elim (by omega)) (kf := fun _ => ?_)
      refine J_iln C0 4 dL_types_29 (kk := ?_)
      refine J_ic C0 3 dL_types_30 (kk := ?_)
      refine J_ic C0 3 dL_types_31 (kk := ?_)
      refine J_il C0 0 dL_types_32 (kk := ?_)
      refine J_imulN C0 dL_types_34 (kk := ?_)
      refine J_iaddN C0 dL_types_35 (kk := ?_)
      refine J_ishr C0 dL_types_36 (kk := ?_)
      refine J_is C0 [(5, .int (x >>> (nI (3 + (3 * j)) &&& 31))), (4, .int (nI j)), (3, .int (nI 1)), (2, .int (nI n)), (0, .ref (b 0)), (1, .int x)] dL_types_37 (kk := ?_)
      generalize x >>> (nI (3 + (3 * j)) &&& 31) = y
      refine J_il C0 0 dL_types_39 (kk := ?_)
      refine J_bi C0 9 dL_types_41 (kk := ?_)
      refine J_callSd C0 (mL_low l K y (k := 9) (by omega) (by omega)) (corkW K b nA aA d e F Ga D S T1) (corkW K b nA aA d e F Ga D S T1) gL_types_L_low dL_types_43 2 (hbs := (List.append_nil _).symm) (hb1 := List.append_nil _) (kk := ?_)
      show J G _ _ _ _ _ [.int (nI (lowS y 9))]
      refine J_is C0 [(6, .int (nI (lowS y 9))), (5, .int y), (4, .int (nI j)), (3, .int (nI 1)), (2, .int (nI n)), (0, .ref (b 0)), (1, .int x)] dL_types_46 (kk := ?_)
      have hw9 := lowS_lt y (k := 9) (by decide)
      generalize lowS y 9 = wy at hw9 ⊢
      have t214 : ∀ (T2 : FF) (m2 c : Nat) (lv3 : List (Nat × Value)), TT T T2 m2 → m2 ≤ 3 * j + 2 → 33 ≤ c → c ≤ 126 → lv3 = [(6, .int (nI wy)), (5, .int y), (4, .int (nI j)), (3, .int (nI 1)), (2, .int (nI n)), (0, .ref (b 0)), (1, .int x)] → J G (corkW K b nA aA d e F Ga D S T2) lv3 0 0 214 [.int (nI c), .ref (b 0)] := by
        intro T2 m2 c lv3 hT2 hm2 c1 c2 hlv
        subst hlv
        refine J_callWHd C0 hX (k_append l K b nA aA d e F Ga D S T2 tl tg (x := nI c) (n := m2) (nI_nlt (by omega) (by omega)) (nI_le (by omega) (by omega)) hT2.1 (by omega)) gL_types_L_append dL_types_214 2 (kk := ?_)
        show J G _ _ _ _ _ [.int (nI (m2 + 1))]
        refine J_ifle C0 224 dL_types_217 (kt := fun c => absurd c (nI_nle (n := m2 + 1) (by omega) (by omega))) (kf := fun _ => ?_)
        refine J_ic C0 1 dL_types_220 (kk := ?_)
        refine J_goto C0 225 dL_types_221 (kk := ?_)
        refine J_isn C0 [(3, .int (nI 1)), (6, .int (nI wy)), (5, .int y), (4, .int (nI j)), (2, .int (nI n)), (0, .ref (b 0)), (1, .int x)] dL_types_225 (kk := ?_)
        refine J_iincN C0 3 [(4, .int (nI (j + 1))), (3, .int (nI 1)), (6, .int (nI wy)), (5, .int y), (2, .int (nI n)), (0, .ref (b 0)), (1, .int x)] dL_types_226 (kk := ?_)
        refine J_goto C0 23 dL_types_229 (kk := ?_)
        exact J_lv [0, 1, 4, 5, 6] rfl (ih (j + 1) (m2 + 1) _ hn (by omega) (hT2.app (nI c)) (by omega))
      have t158 : ∀ (T2 : FF) (m2 : Nat), TT T T2 m2 → m2 ≤ 3 * j + 2 → J G (corkW K b nA aA d e F Ga D S T2) [(6, .int (nI wy)), (5, .int y), (4, .int (nI j)), (3, .int (nI 1)), (2, .int (nI n)), (0, .ref (b 0)), (1, .int x)] 0 0 158 [] := by
        intro T2 m2 hT2 hm2
        by_cases w6 : wy = 6 ∨ wy < 6
        · have t173 : J G (corkW K b nA aA d e F Ga D S T2) [(6, .int (nI wy)), (5, .int y), (4, .int (nI j)), (3, .int (nI 1)), (2, .int (nI n)), (0, .ref (b 0)), (1, .int x)] 0 0 173 [.ref (b 0)] := by
            refine J_bi C0 48 dL_types_173 (kk := ?_)
            refine J_il C0 1 dL_types_175 (kk := ?_)
            refine J_ic C0 4 dL_types_177 (kk := ?_)
            refine J_ishr C0 dL_types_178 (kk := ?_)
            refine J_iln C0 6 dL_types_179 (kk := ?_)
            refine J_bi C0 20 dL_types_180 (kk := ?_)
            refine J_ishr C0 dL_types_182 (kk := ?_)
            refine J_bi C0 17 dL_types_183 (kk := ?_)
            refine J_callSd C0 (mL_low l K (x >>> (nI 20 &&& 31)) (k := 17) (by omega) (by omega)) (corkW K b nA aA d e F Ga D S T2) (corkW K b nA aA d e F Ga D S T2) gL_types_L_low dL_types_185 2 (hbs := (List.append_nil _).symm) (hb1 := List.append_nil _) (kk := ?_)
            show J G _ _ _ _ _ [.int (nI (lowS (x >>> (nI 20 &&& 31)) 17)), .int (y >>> (nI 4 &&& 31)), .int (nI 48), .ref (b 0)]
            have h17 := lowS_lt (x >>> (nI 20 &&& 31)) (k := 17) (by decide)
            generalize lowS (x >>> (nI 20 &&& 31)) 17 = u at h17 ⊢
            by_cases hu : u = 0
            · refine J_ifne C0 195 dL_types_188 (kt := fun c => absurd (show nI u = 0 from by rw [hu]; rfl) c) (kf := fun _ => ?_)
              refine J_ic C0 4 dL_types_191 (kk := ?_)
              refine J_goto C0 196 dL_types_192 (kk := ?_)
              refine J_callSd C0 (mL_low l K (y >>> (nI 4 &&& 31)) (k := 4) (by omega) (by omega)) (corkW K b nA aA d e F Ga D S T2) (corkW K b nA aA d e F Ga D S T2) gL_types_L_low dL_types_196 2 (hbs := (List.append_nil _).symm) (hb1 := List.append_nil _) (kk := ?_)
              show J G _ _ _ _ _ [.int (nI (lowS (y >>> (nI 4 &&& 31)) 4)), .int (nI 48), .ref (b 0)]
              refine J_iaddN C0 dL_types_199 (kk := ?_)
              refine J_goto C0 214 dL_types_200 (kk := ?_)
              have h4 := lowS_lt (y >>> (nI 4 &&& 31)) (k := 4) (by decide)
              exact t214 T2 m2 _ _ hT2 hm2 (by omega) (by omega) rfl
            · refine J_ifne C0 195 dL_types_188 (kt := fun _ => ?_) (kf := fun c => absurd c (nI_ne0 (n := u) (by omega) (by omega)))
              refine J_ic C0 3 dL_types_195 (kk := ?_)
              refine J_callSd C0 (mL_low l K (y >>> (nI 4 &&& 31)) (k := 3) (by omega) (by omega)) (corkW K b nA aA d e F Ga D S T2) (corkW K b nA aA d e F Ga D S T2) gL_types_L_low dL_types_196 2 (hbs := (List.append_nil _).symm) (hb1 := List.append_nil _) (kk := ?_)
              show J G _ _ _ _ _ [.int (nI (lowS (y >>> (nI 4 &&& 31)) 3)), .int (nI 48), .ref (b 0)]
              refine J_iaddN C0 dL_types_199 (kk := ?_)
              refine J_goto C0 214 dL_types_200 (kk := ?_)
              have h4 := lowS_lt (y >>> (nI 4 &&& 31)) (k := 3) (by decide)
              exact t214 T2 m2 _ _ hT2 hm2 (by omega) (by omega) rfl
          by_cases w66 : wy = 6
          · refine J_aln C0 5 dL_types_158 (kk := ?_)
            refine J_il C0 0 dL_types_159 (kk := ?_)
            refine J_bi C0 6 dL_types_161 (kk := ?_)
            refine J_icmpeqN C0 173 (by omega) (by omega) dL_types_163 (kt := fun _ => ?_) (kf := fun c => False.elim (by omega))
            exact t173
          · refine J_aln C0 5 dL_types_158 (kk := ?_)
            refine J_il C0 0 dL_types_159 (kk := ?_)
            refine J_bi C0 6 dL_types_161 (kk := ?_)
            refine J_icmpeqN C0 173 (by omega) (by omega) dL_types_163 (kt := fun c => False.elim (by omega)) (kf := fun _ => ?_)
            refine J_il C0 0 dL_types_166 (kk := ?_)
            refine J_bi C0 6 dL_types_168 (kk := ?_)
            refine J_icmpgeN C0 203 (by omega) (by omega) dL_types_170 (kt := fun c => False.elim (by omega)) (kf := fun _ => ?_)
            exact t173
        · refine J_aln C0 5 dL_types_158 (kk := ?_)
          refine J_il C0 0 dL_types_159 (kk := ?_)
          refine J_bi C0 6 dL_types_161 (kk := ?_)
          refine J_icmpeqN C0 173 (by omega) (by omega) dL_types_163 (kt := fun c => False.elim (by omega)) (kf := fun _ => ?_)
          refine J_il C0 0 dL_types_166 (kk := ?_)
          refine J_bi C0 6 dL_types_168 (kk := ?_)
          refine J_icmpgeN C0 203 (by omega) (by omega) dL_types_170 (kt := fun _ => ?_) (kf := fun c => False.elim (by omega))
          refine J_bi C0 49 dL_types_203 (kk := ?_)
          refine J_il C0 1 dL_types_205 (kk := ?_)
          refine J_ic C0 1 dL_types_207 (kk := ?_)
          refine J_ishr C0 dL_types_208 (kk := ?_)
          refine J_ic C0 5 dL_types_209 (kk := ?_)
          refine J_callSd C0 (mL_low l K (y >>> (nI 1 &&& 31)) (k := 5) (by omega) (by omega)) (corkW K b nA aA d e F Ga D S T2) (corkW K b nA aA d e F Ga D S T2) gL_types_L_low dL_types_210 2 (hbs := (List.append_nil _).symm) (hb1 := List.append_nil _) (kk := ?_)
          show J G _ _ _ _ _ [.int (nI (lowS (y >>> (nI 1 &&& 31)) 5)), .int (nI 49), .ref (b 0)]
          refine J_iaddN C0 dL_types_213 (kk := ?_)
          have h5 := lowS_lt (y >>> (nI 1 &&& 31)) (k := 5) (by decide)
          exact t214 T2 m2 _ _ hT2 hm2 (by omega) (by omega) rfl
      have t118 : ∀ (c : Nat), 33 ≤ c → c ≤ 126 → J G (corkW K b nA aA d e F Ga D S T1) [(6, .int (nI wy)), (5, .int y), (4, .int (nI j)), (3, .int (nI 1)), (2, .int (nI n)), (0, .ref (b 0)), (1, .int x)] 0 0 118 [.int (nI c), .ref (b 0)] := by
        intro c c1 c2
        refine J_callWHd C0 hX (k_append l K b nA aA d e F Ga D S T1 tl tg (x := nI c) (n := m) (nI_nlt (by omega) (by omega)) (nI_le (by omega) (by omega)) hT1.1 (by omega)) gL_types_L_append dL_types_118 2 (kk := ?_)
        show J G _ _ _ _ _ [.int (nI (m + 1))]
        refine J_ifle C0 128 dL_types_121 (kt := fun c => absurd c (nI_nle (n := m + 1) (by omega) (by omega))) (kf := fun _ => ?_)
        refine J_ic C0 1 dL_types_124 (kk := ?_)
        refine J_goto C0 129 dL_types_125 (kk := ?_)
        refine J_isn C0 [(3, .int (nI 1)), (6, .int (nI wy)), (5, .int y), (4, .int (nI j)), (2, .int (nI n)), (0, .ref (b 0)), (1, .int x)] dL_types_129 (kk := ?_)
        refine J_iln C0 0 dL_types_130 (kk := ?_)
        refine J_ifeq C0 224 dL_types_131 (kt := fun c => absurd c (by decide)) (kf := fun _ => ?_)
        refine J_il C0 1 dL_types_134 (kk := ?_)
        refine J_ic C0 5 dL_types_136 (kk := ?_)
        have hA := hT1.app (nI c)
        generalize hT3 : u2 (u2 T1 2 m (nI c)) 0 1 (nI (m + 1)) = T3 at hA ⊢
        by_cases w5 : 5 < wy
        · refine J_icmpgtN C0 158 (by omega) (by omega) dL_types_137 (kt := fun _ => ?_) (kf := fun c => False.elim (by omega))
          exact J_lv [1, 2, 3, 0, 4, 5, 6] rfl (t158 T3 (m + 1) hA (by omega))
        · have hT3 := hA
          have h3 := lowS_lt (y >>> (nI 2 &&& 31)) (k := 3) (by decide)
          refine J_icmpgtN C0 158 (by omega) (by omega) dL_types_137 (kt := fun c => False.elim (by omega)) (kf := fun _ => ?_)
          refine J_aln C0 5 dL_types_140 (kk := ?_)
          refine J_bi C0 48 dL_types_141 (kk := ?_)
          refine J_il C0 2 dL_types_143 (kk := ?_)
          refine J_ic C0 2 dL_types_145 (kk := ?_)
          refine J_ishr C0 dL_types_146 (kk := ?_)
          refine J_ic C0 3 dL_types_147 (kk := ?_)
          refine J_callSd C0 (mL_low l K (y >>> (nI 2 &&& 31)) (k := 3) (by omega) (by omega)) (corkW K b nA aA d e F Ga D S T3) (corkW K b nA aA d e F Ga D S T3) gL_types_L_low dL_types_148 2 (hbs := (List.append_nil _).symm) (hb1 := List.append_nil _) (kk := ?_)
          show J G _ _ _ _ _ [.int (nI (lowS (y >>> (nI 2 &&& 31)) 3)), .int (nI 48), .ref (b 0)]
          refine J_iaddN C0 dL_types_151 (kk := ?_)
          refine J_callWHd C0 hX (k_append l K b nA aA d e F Ga D S T3 tl tg (x := nI (48 + (lowS (y >>> (nI 2 &&& 31)) 3))) (n := (m + 1)) (nI_nlt (by omega) (by omega)) (nI_le (by omega) (by omega)) hT3.1 (by omega)) gL_types_L_append dL_types_152 2 (kk := ?_)
          show J G _ _ _ _ _ [.int (nI ((m + 1) + 1))]
          refine J_ifle C0 224 dL_types_155 (kt := fun c => absurd c (nI_nle (n := m + 1 + 1) (by omega) (by omega))) (kf := fun _ => ?_)
          exact J_lv [1, 2, 3, 0, 4, 5, 6] rfl (t158 _ (m + 1 + 1) (hA.app _) (by omega))
      refine J_iln C0 3 dL_types_48 (kk := ?_)
      refine J_ifeq C0 128 dL_types_49 (kt := fun c => absurd c (by decide)) (kf := fun _ => ?_)
      refine J_aln C0 5 dL_types_52 (kk := ?_)
      refine J_iln C0 6 dL_types_53 (kk := ?_)
      refine J_bi C0 24 dL_types_54 (kk := ?_)
      refine J_ishr C0 dL_types_56 (kk := ?_)
      refine J_bi C0 13 dL_types_57 (kk := ?_)
      refine J_callSd C0 (mL_low l K (x >>> (nI 24 &&& 31)) (k := 13) (by omega) (by omega)) (corkW K b nA aA d e F Ga D S T1) (corkW K b nA aA d e F Ga D S T1) gL_types_L_low dL_types_59 2 (hbs := (List.append_nil _).symm) (hb1 := List.append_nil _) (kk := ?_)
      show J G _ _ _ _ _ [.int (nI (lowS (x >>> (nI 24 &&& 31)) 13)), .ref (b 0)]
      have h13 := lowS_lt (x >>> (nI 24 &&& 31)) (k := 13) (by decide)
      generalize lowS (x >>> (nI 24 &&& 31)) 13 = u at h13 ⊢
      by_cases hu : u = 0
      · refine J_ifne C0 70 dL_types_62 (kt := fun c => absurd (show nI u = 0 from by rw [hu]; rfl) c) (kf := fun _ => ?_)
        refine J_bi C0 118 dL_types_65 (kk := ?_)
        refine J_goto C0 118 dL_types_67 (kk := ?_)
        exact t118 118 (by decide) (by decide)
      rcases (show wy < 2 ∨ wy = 2 ∨ (2 < wy ∧ wy < 6) ∨ wy = 6 ∨ 6 < wy by omega) with q1 | q1 | q1 | q1 | q1
      · refine J_ifne C0 70 dL_types_62 (kt := fun _ => ?_) (kf := fun c => absurd c (nI_ne0 (n := u) (by omega) (by omega)))
        refine J_il C0 0 dL_types_70 (kk := ?_)
        refine J_ic C0 2 dL_types_72 (kk := ?_)
        refine J_icmpgeN C0 81 (by omega) (by omega) dL_types_73 (kt := fun c => False.elim (by omega)) (kf := fun _ => ?_)
        refine J_bi C0 108 dL_types_76 (kk := ?_)
        refine J_goto C0 118 dL_types_78 (kk := ?_)
        exact t118 108 (by decide) (by decide)
      · refine J_ifne C0 70 dL_types_62 (kt := fun _ => ?_) (kf := fun c => absurd c (nI_ne0 (n := u) (by omega) (by omega)))
        refine J_il C0 0 dL_types_70 (kk := ?_)
        refine J_ic C0 2 dL_types_72 (kk := ?_)
        refine J_icmpgeN C0 81 (by omega) (by omega) dL_types_73 (kt := fun _ => ?_) (kf := fun c => False.elim (by omega))
        refine J_il C0 0 dL_types_81 (kk := ?_)
        refine J_ic C0 2 dL_types_83 (kk := ?_)
        refine J_icmpneN C0 92 (by omega) (by omega) dL_types_84 (kt := fun c => False.elim (by omega)) (kf := fun _ => ?_)
        refine J_bi C0 113 dL_types_87 (kk := ?_)
        refine J_goto C0 118 dL_types_89 (kk := ?_)
        exact t118 113 (by decide) (by decide)
      · refine J_ifne C0 70 dL_types_62 (kt := fun _ => ?_) (kf := fun c => absurd c (nI_ne0 (n := u) (by omega) (by omega)))
        refine J_il C0 0 dL_types_70 (kk := ?_)
        refine J_ic C0 2 dL_types_72 (kk := ?_)
        refine J_icmpgeN C0 81 (by omega) (by omega) dL_types_73 (kt := fun _ => ?_) (kf := fun c => False.elim (by omega))
        refine J_il C0 0 dL_types_81 (kk := ?_)
        refine J_ic C0 2 dL_types_83 (kk := ?_)
        refine J_icmpneN C0 92 (by omega) (by omega) dL_types_84 (kt := fun _ => ?_) (kf := fun c => False.elim (by omega))
        refine J_il C0 0 dL_types_92 (kk := ?_)
        refine J_bi C0 6 dL_types_94 (kk := ?_)
        refine J_icmpgeN C0 104 (by omega) (by omega) dL_types_96 (kt := fun c => False.elim (by omega)) (kf := fun _ => ?_)
        refine J_bi C0 119 dL_types_99 (kk := ?_)
        refine J_goto C0 118 dL_types_101 (kk := ?_)
        exact t118 119 (by decide) (by decide)
      · refine J_ifne C0 70 dL_types_62 (kt := fun _ => ?_) (kf := fun c => absurd c (nI_ne0 (n := u) (by omega) (by omega)))
        refine J_il C0 0 dL_types_70 (kk := ?_)
        refine J_ic C0 2 dL_types_72 (kk := ?_)
        refine J_icmpgeN C0 81 (by omega) (by omega) dL_types_73 (kt := fun _ => ?_) (kf := fun c => False.elim (by omega))
        refine J_il C0 0 dL_types_81 (kk := ?_)
        refine J_ic C0 2 dL_types_83 (kk := ?_)
        refine J_icmpneN C0 92 (by omega) (by omega) dL_types_84 (kt := fun _ => ?_) (kf := fun c => False.elim (by omega))
        refine J_il C0 0 dL_types_92 (kk := ?_)
        refine J_bi C0 6 dL_types_94 (kk := ?_)
        refine J_icmpgeN C0 104 (by omega) (by omega) dL_types_96 (kt := fun _ => ?_) (kf := fun c => False.elim (by omega))
        refine J_il C0 0 dL_types_104 (kk := ?_)
        refine J_bi C0 6 dL_types_106 (kk := ?_)
        refine J_icmpneN C0 116 (by omega) (by omega) dL_types_108 (kt := fun c => False.elim (by omega)) (kf := fun _ => ?_)
        refine J_bi C0 100 dL_types_111 (kk := ?_)
        refine J_goto C0 118 dL_types_113 (kk := ?_)
        exact t118 100 (by decide) (by decide)
      · refine J_ifne C0 70 dL_types_62 (kt := fun _ => ?_) (kf := fun c => absurd c (nI_ne0 (n := u) (by omega) (by omega)))
        refine J_il C0 0 dL_types_70 (kk := ?_)
        refine J_ic C0 2 dL_types_72 (kk := ?_)
        refine J_icmpgeN C0 81 (by omega) (by omega) dL_types_73 (kt := fun _ => ?_) (kf := fun c => False.elim (by omega))
        refine J_il C0 0 dL_types_81 (kk := ?_)
        refine J_ic C0 2 dL_types_83 (kk := ?_)
        refine J_icmpneN C0 92 (by omega) (by omega) dL_types_84 (kt := fun _ => ?_) (kf := fun c => False.elim (by omega))
        refine J_il C0 0 dL_types_92 (kk := ?_)
        refine J_bi C0 6 dL_types_94 (kk := ?_)
        refine J_icmpgeN C0 104 (by omega) (by omega) dL_types_96 (kt := fun _ => ?_) (kf := fun c => False.elim (by omega))
        refine J_il C0 0 dL_types_104 (kk := ?_)
        refine J_bi C0 6 dL_types_106 (kk := ?_)
        refine J_icmpneN C0 116 (by omega) (by omega) dL_types_108 (kt := fun _ => ?_) (kf := fun c => False.elim (by omega))
        refine J_bi C0 116 dL_types_116 (kk := ?_)
        exact t118 116 (by decide) (by decide)
  refine J_iln C0 1 dL_types_0 (kk := ?_)
  refine J_bi C0 7 dL_types_1 (kk := ?_)
  refine J_callSd C0 (mL_low l K x (k := 7) (by omega) (by omega)) (corkW K b nA aA d e F Ga D S T) (corkW K b nA aA d e F Ga D S T) gL_types_L_low dL_types_3 2 (hbs := (List.append_nil _).symm) (hb1 := List.append_nil _) (kk := ?_)
  show J G _ _ _ _ _ [.int (nI (lowS x 7))]
  refine J_isn C0 [(2, .int (nI (lowS x 7))), (0, .ref (b 0)), (1, .int x)] dL_types_6 (kk := ?_)
  refine J_aln C0 1 dL_types_7 (kk := ?_)
  refine J_callVz C0 (mX4_clearBuffer l K b nA aA d e F Ga D S T) gL_types_X4_clearBuffer dL_types_8 0 (kk := ?_)
  show J G _ _ _ _ _ [.int (T 0 1)]
  refine J_int C0 ht ?_
  refine J_iflt C0 18 dL_types_11 (kt := fun c => absurd c (nI_pos (n := nt) (by omega))) (kf := fun _ => ?_)
  refine J_ic C0 1 dL_types_14 (kk := ?_)
  refine J_goto C0 19 dL_types_15 (kk := ?_)
  refine J_isn C0 [(3, .int (nI 1)), (2, .int (nI (lowS x 7))), (0, .ref (b 0)), (1, .int x)] dL_types_19 (kk := ?_)
  refine J_ic C0 0 dL_types_20 (kk := ?_)
  refine J_is C0 [(4, .int (nI 0)), (3, .int (nI 1)), (2, .int (nI (lowS x 7))), (0, .ref (b 0)), (1, .int x)] dL_types_21 (kk := ?_)
  refine J_lv [0, 1, 2, 3, 4] rfl (loop _ _ 0 0 _ hn7 (Nat.zero_add _) ⟨u2_s _ _ _ _, ?_, ?_⟩ (Nat.le_refl _))
  · rw [u2_12, if_neg (by decide)]
  · rw [u2_i (by decide)]
