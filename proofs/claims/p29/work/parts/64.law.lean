/-! the law: its loop over the states, its start -/
def lookO (F : FF) : Int64 := lookL F (nN (F 0 1)) (nN (F 0 4))
theorem k_look (l : Launch) (K : KT) (b nA aA : Nat → Nat) (d e : Nat → Nat → Nat) (F Ga : FF) (D S : Nat → FF) (T : FF) (tl tg : Nat) (hSh : Sh F) : CtW l K yL_look wsL_look rmL_look [.ref (b 0)] (corkW K b nA aA d e F Ga D S T) (some (.long (lookO F))) (corkW K b nA aA d e F Ga D S T) tl tg := by
  obtain ⟨⟨hn, h4, eh⟩, ⟨n, n40, en⟩, -⟩ := hSh
  have h := mL_look l K b nA aA d e F Ga D S T tl tg eh h4 en n40
  unfold lookO
  rw [eh, en, nN_nI (by omega), nN_nI (by omega)]
  exact h
theorem k_holds (l : Launch) (K : KT) (b nA aA : Nat → Nat) (d e : Nat → Nat → Nat) (F Ga : FF) (D S : Nat → FF) (T : FF) (tl tg : Nat) {i : Nat} (hY : IY i F) (hi : i ≤ 50) : CtW l K yL_holds wsL_holds rmL_holds [.ref (b 0)] (corkW K b nA aA d e F Ga D S T) (some (.int (nI 1))) (corkW K b nA aA d e F Ga D S T) tl tg := by
  obtain ⟨⟨hn, n, N, h⟩, hE, hS, -⟩ := hY
  exact mL_holds l K b nA aA d e F Ga D S T tl tg h (by omega) hE hS (by omega)
theorem lg_same (x : Int64) : lg_cmp x x = 0 := by
  unfold lg_cmp
  simp
theorem J_widen {K : KT} {l : Launch} {cc : ByteArray} {nL : Nat} {own : String} {Ts : List Cond} {rm : Room} {G : JC} {bs : List va_W} {lv : List (Nat × Value)} {cells slots pc : Nat} {st : List Value} (C0 : Cx G K l cc nL own Ts rm) {c2 s2 : Nat} (h1 : cells ≤ c2) (h2 : slots ≤ s2) (kk : J G bs lv c2 s2 pc st) : J G bs lv cells slots pc st := by
  obtain ⟨K, A, H0, nL', p, l, e, R, s, m, args, below, meth, c, Q⟩ := G
  intro H locs ls hP hD hS hl
  exact W.widen h1 h2 (kk H locs ls hP hD hS hl)
/-- the head of the loop, with it acts done -/
def LK (G : JC) (K : KT) (b nA aA : Nat → Nat) (d : Nat → Nat → Nat) (t it C S0 : Nat) : Prop := ∀ (k nt : Nat) (e : Nat → Nat → Nat) (F Ga : FF) (D S : Nat → FF) (T : FF) (c s : Nat), c ≤ C → s ≤ S0 → SR it k nt F D S T → J G (corkW K b nA aA d e F Ga D S T) [(5, .int (nI it)), (2, .int (nI 1)), (3, .long (lookO (D 0))), (1, .ref (b 0)), (0, .ref t)] c s 64 []
theorem SR.undo {i k nt : Nat} {F : FF} {D S : Nat → FF} {T : FF} (h : SR i (k + 1) nt F D S T) : SR i k nt (S k) D S (u2 T 0 0 (nI k)) := by
  obtain ⟨a1, ⟨a2, a3⟩, ⟨a4, a4'⟩, a5, a6, a7⟩ := h
  exact ⟨a5 k (by omega), ⟨by omega, u2_s _ _ _ _⟩, ⟨a4, by rw [u2_12, if_neg (by decide)]; exact a4'⟩, fun j hj => a5 j (by omega), by rw [u2_i (by decide)]; exact a6, a7⟩
theorem SR.goBack {i k nt : Nat} {F : FF} {D S : Nat → FF} {T : FF} (h : SR i k nt F D S T) : SR i (pushN k) nt (D 0) D (pushS k S F) (pushT k T) := by
  obtain ⟨a1, ⟨a2, a3⟩, ⟨a4, a4'⟩, a5, a6, a7⟩ := h
  refine ⟨a7, ⟨pushN_le k, pushT_00 T⟩, ⟨a4, (pushT_0 k T (by decide)).trans a4'⟩, fun j hj => ?_, by rw [pushT_2 k T (by decide)]; exact a6, a7⟩
  unfold pushN at hj
  unfold pushS
  by_cases c : k < 6
  · rw [if_pos c] at hj ⊢
    by_cases q : j = k
    · rw [q, up_s]; exact a1
    · rw [up_n q]; exact a5 j (by omega)
  · rw [if_neg c] at hj ⊢
    by_cases q : j = 5
    · rw [q, up_s]; exact a1
    · rw [up_n q, show rotA S j = S (j + 1) from if_pos (by omega)]
      exact a5 (j + 1) (by omega)
theorem SR.keep {i k nt : Nat} {F : FF} {D S : Nat → FF} {T : FF} (h : SR i k nt F D S T) : SR i k nt F (va_up D 0 F) S (u2 T 1 0 (nI 1)) := by
  obtain ⟨a1, ⟨a2, a3⟩, ⟨a4, a4'⟩, a5, a6, a7⟩ := h
  exact ⟨a1, ⟨a2, by rw [u2_i (by decide)]; exact a3⟩, ⟨a4, by rw [u2_i (by decide)]; exact a4'⟩, a5, u2_s _ _ _ _, by rw [up_s]; exact a1⟩
theorem SR.t10 {i k nt : Nat} {F : FF} {D S : Nat → FF} {T : FF} (h : SR i k nt F D S T) : ¬ T 1 0 = 0 := fun z => by
  rw [h.2.2.2.2.1] at z
  exact absurd z (by decide)
theorem SR.tk {i k nt : Nat} {F : FF} {D S : Nat → FF} {T : FF} (h : SR i k nt F D S T) : T 0 0 = nI k := h.2.1.2
theorem IY.t0 {i : Nat} {F : FF} (h : IY i F) (hi : i ≤ 50) : ¬ F 0 0 < 0 := by
  obtain ⟨-, -, -, t, e, h1⟩ := h
  rw [e]; exact nI_pos (by omega)
set_option maxHeartbeats 4000000 in
set_option maxRecDepth 100000 in
theorem w_333 {K : KT} {l : Launch} {G : JC} {tl tg t Ln : Nat} {xs : Nat → Int32} {b nA aA : Nat → Nat} {d : Nat → Nat → Nat} (C0 : Cx G K l cL_law 13 RL wsL_law room_1) (hX : FnlV G tl tg t Ln xs) (hLn : Ln < 2 ^ 31) (hst : l.stackTraces = false) {it : Nat} (hit : it < 44) {C S0 : Nat} (hK : LK G K b nA aA d t (it + 1) C S0) (hC : C ≤ 690000) (hS0 : S0 ≤ 6900000) (k nt : Nat) (e : Nat → Nat → Nat) (F Ga : FF) (D S : Nat → FF) (T : FF) (c s : Nat) (hc : c + 2 ≤ C) (hs : s + 12 ≤ S0) (hR : SR (it + 1) k nt F D S T) : J G (corkW K b nA aA d e F Ga D S T) [(5, .int (nI it)), (2, .int (nI 1)), (3, .long (lookO (D 0))), (1, .ref (b 0)), (0, .ref t)] c s 333 [] := by
  have hi : it + 1 ≤ 50 := by omega
  have hY := hR.1
  have hSh := hY.sh
  have ek := hR.tk
  refine J_iln C0 1 dL_law_333 (kk := ?_)
  refine J_ifeq C0 382 dL_law_334 (kt := fun c => absurd c (by decide)) (kf := fun _ => ?_)
  refine J_il C0 0 dL_law_337 (kk := ?_)
  refine J_bi C0 11 dL_law_339 (kk := ?_)
  refine J_iremN C0 (by omega) (by omega) (by omega) dL_law_341 (kk := ?_)
  refine J_bi C0 10 dL_law_342 (kk := ?_)
  by_cases h11 : it % 11 = 10
  · refine J_icmpneN C0 382 (by omega) (by omega) dL_law_344 (kt := fun c => False.elim (by omega)) (kf := fun _ => ?_)
    refine J_aln C0 3 dL_law_347 (kk := ?_)
    refine J_bi C0 11 dL_law_348 (kk := ?_)
    refine J_callVz C0 (mX4_count l K b nA aA d e F Ga D S T (w := 11) (by decide)) gL_law_X4_count dL_law_350 1 (hf := ⟨by show c + 0 + 0 ≤ 700929; omega, by show s + 0 + 0 ≤ 6998680; omega⟩) (kk := ?_)
    show J G _ _ _ _ _ [.int (T 0 0)]
    refine J_widen C0 (c2 := c + 0) (s2 := s + 0) (Nat.le_refl _) (Nat.le_refl _) ?_
    refine J_int C0 ek ?_
    refine J_is C0 [(12, .int (nI k)), (5, .int (nI it)), (2, .int (nI 1)), (3, .long (lookO (D 0))), (1, .ref (b 0)), (0, .ref t)] dL_law_353 (kk := ?_)
    refine J_aln C0 4 dL_law_355 (kk := ?_)
    rcases Nat.eq_zero_or_pos k with hk0 | hk0
    · refine J_callWHd C0 hX.x (k_undo_t l K b nA aA d e F Ga D S T tl tg hst (by rw [ek, hk0]; decide)) gL_law_L_undo dL_law_356 1 (hf := ⟨by show c + 0 + 1 ≤ 700929; omega, by show s + 0 + 6 ≤ 6998680; omega⟩) (kk := ?_)
      show J G _ _ _ _ _ [.int (-103)]
      refine J_widen C0 (c2 := c + 1) (s2 := s + 6) (Nat.le_refl _) (Nat.le_refl _) ?_
      refine J_il C0 0 dL_law_359 (kk := ?_)
      refine J_ifne C0 369 dL_law_361 (kt := fun c => absurd (show nI k = 0 from by rw [hk0]; rfl) c) (kf := fun _ => ?_)
      refine J_biv C0 (-103) dL_law_364 (kk := ?_)
      refine J_goto C0 373 dL_law_366 (kk := ?_)
      refine J_icmpne C0 380 dL_law_373 (kt := fun c => absurd (show ((-103) : Int32) = -103 from rfl) c) (kf := fun _ => ?_)
      refine J_ic C0 1 dL_law_376 (kk := ?_)
      refine J_goto C0 381 dL_law_377 (kk := ?_)
      refine J_isn C0 [(2, .int (nI 1)), (12, .int (nI k)), (5, .int (nI it)), (3, .long (lookO (D 0))), (1, .ref (b 0)), (0, .ref t)] dL_law_381 (kk := ?_)
      refine J_iincN C0 2 [(5, .int (nI (it + 1))), (2, .int (nI 1)), (12, .int (nI k)), (3, .long (lookO (D 0))), (1, .ref (b 0)), (0, .ref t)] dL_law_382 (kk := ?_)
      refine J_goto C0 64 dL_law_385 (kk := ?_)
      refine J_lv [0, 1, 3, 4, 5] rfl ?_
      exact hK _ _ _ _ _ _ _ _ _ _ (by omega) (by omega) hR
    · obtain ⟨k2, rfl⟩ : ∃ k2, k = k2 + 1 := ⟨k - 1, by omega⟩
      have k6 := hR.2.1.1
      refine J_callWHd C0 hX.x (k_undo l K b nA aA d e F Ga D S T tl tg (k := k2) (by omega) ek) gL_law_L_undo dL_law_356 1 (hf := ⟨by show c + 0 + 1 ≤ 700929; omega, by show s + 0 + 6 ≤ 6998680; omega⟩) (kk := ?_)
      show J G _ _ _ _ _ [.int (nI k2)]
      refine J_widen C0 (c2 := c + 1) (s2 := s + 6) (Nat.le_refl _) (Nat.le_refl _) ?_
      refine J_il C0 0 dL_law_359 (kk := ?_)
      refine J_ifne C0 369 dL_law_361 (kt := fun _ => ?_) (kf := fun c => absurd c (nI_ne0 (n := k2 + 1) (by omega) (by omega)))
      refine J_il C0 0 dL_law_369 (kk := ?_)
      refine J_ic C0 1 dL_law_371 (kk := ?_)
      refine J_isub C0 dL_law_372 (kk := ?_)
      refine J_icmpne C0 380 dL_law_373 (kt := fun c => absurd (show nI k2 = nI (k2 + 1) - nI 1 from by rw [pk_sub (by omega)]; rfl) c) (kf := fun _ => ?_)
      refine J_ic C0 1 dL_law_376 (kk := ?_)
      refine J_goto C0 381 dL_law_377 (kk := ?_)
      refine J_isn C0 [(2, .int (nI 1)), (12, .int (nI (k2 + 1))), (5, .int (nI it)), (3, .long (lookO (D 0))), (1, .ref (b 0)), (0, .ref t)] dL_law_381 (kk := ?_)
      refine J_iincN C0 2 [(5, .int (nI (it + 1))), (2, .int (nI 1)), (12, .int (nI (k2 + 1))), (3, .long (lookO (D 0))), (1, .ref (b 0)), (0, .ref t)] dL_law_382 (kk := ?_)
      refine J_goto C0 64 dL_law_385 (kk := ?_)
      refine J_lv [0, 1, 3, 4, 5] rfl ?_
      exact hK _ _ _ _ _ _ _ _ _ _ (by omega) (by omega) hR.undo
  · refine J_icmpneN C0 382 (by omega) (by omega) dL_law_344 (kt := fun _ => ?_) (kf := fun c => False.elim (by omega))
    refine J_iincN C0 0 [(5, .int (nI (it + 1))), (2, .int (nI 1)), (3, .long (lookO (D 0))), (1, .ref (b 0)), (0, .ref t)] dL_law_382 (kk := ?_)
    refine J_goto C0 64 dL_law_385 (kk := ?_)
    refine J_lv [0, 1, 2, 3, 4] rfl ?_
    exact hK _ _ _ _ _ _ _ _ _ _ (by omega) (by omega) hR
set_option maxHeartbeats 4000000 in
set_option maxRecDepth 100000 in
theorem w_271 {K : KT} {l : Launch} {G : JC} {tl tg t Ln : Nat} {xs : Nat → Int32} {b nA aA : Nat → Nat} {d : Nat → Nat → Nat} (C0 : Cx G K l cL_law 13 RL wsL_law room_1) (hX : FnlV G tl tg t Ln xs) (hLn : Ln < 2 ^ 31) (hst : l.stackTraces = false) {it : Nat} (hit : it < 44) {C S0 : Nat} (hK : LK G K b nA aA d t (it + 1) C S0) (hC : C ≤ 690000) (hS0 : S0 ≤ 6900000) (k nt : Nat) (e : Nat → Nat → Nat) (F Ga : FF) (D S : Nat → FF) (T : FF) (c s : Nat) (hc : c + 6 ≤ C) (hs : s + 36 ≤ S0) (hR : SR (it + 1) k nt F D S T) : J G (corkW K b nA aA d e F Ga D S T) [(5, .int (nI it)), (2, .int (nI 1)), (3, .long (lookO (D 0))), (1, .ref (b 0)), (0, .ref t)] c s 271 [] := by
  have hi : it + 1 ≤ 50 := by omega
  have hY := hR.1
  have hSh := hY.sh
  have ek := hR.tk
  refine J_iln C0 1 dL_law_271 (kk := ?_)
  refine J_ifeq C0 333 dL_law_272 (kt := fun c => absurd c (by decide)) (kf := fun _ => ?_)
  refine J_il C0 0 dL_law_275 (kk := ?_)
  refine J_bi C0 15 dL_law_277 (kk := ?_)
  refine J_iremN C0 (by omega) (by omega) (by omega) dL_law_279 (kk := ?_)
  refine J_bi C0 14 dL_law_280 (kk := ?_)
  by_cases h15 : it % 15 = 14
  · have k6 := hR.2.1.1
    have hG := hR.goBack
    obtain ⟨k2, hk2⟩ : ∃ k2, pushN k = k2 + 1 := by
      unfold pushN
      split
      · exact ⟨k, rfl⟩
      · exact ⟨5, rfl⟩
    have hpl := pushN_le k
    rw [hk2] at hG
    refine J_icmpneN C0 333 (by omega) (by omega) dL_law_282 (kt := fun c => False.elim (by omega)) (kf := fun _ => ?_)
    refine J_aln C0 3 dL_law_285 (kk := ?_)
    refine J_ic C0 0 dL_law_286 (kk := ?_)
    refine J_callWHd C0 hX.x (k_goBack l K b nA aA d e F Ga D S T tl tg k6 ek hR.t10) gL_law_L_goBack dL_law_287 2 (hf := ⟨by show c + 0 + 1 ≤ 700929; omega, by show s + 0 + 6 ≤ 6998680; omega⟩) (kk := ?_)
    show J G _ _ _ _ _ [.int (D 0 0 0)]
    refine J_widen C0 (c2 := c + 1) (s2 := s + 6) (Nat.le_refl _) (Nat.le_refl _) ?_
    refine J_iflt C0 326 dL_law_290 (kt := fun c => absurd c (hG.1.t0 hi)) (kf := fun _ => ?_)
    refine J_aln C0 3 dL_law_293 (kk := ?_)
    refine J_callWPd C0 hX.x (k_look l K b nA aA d (pushE k e) (D 0) Ga D (pushS k S F) (pushT k T) tl tg hG.1.sh) gL_law_L_look dL_law_294 1 (hf := ⟨by show c + 1 + 0 ≤ 700929; omega, by show s + 6 + 0 ≤ 6998680; omega⟩) (kk := ?_)
    show J G _ _ _ _ _ [.long (lookO (D 0))]
    refine J_widen C0 (c2 := c + 1) (s2 := s + 6) (Nat.le_refl _) (Nat.le_refl _) ?_
    refine J_lln C0 2 dL_law_297 (kk := ?_)
    refine J_lcmp C0 dL_law_298 (kk := ?_)
    refine J_ifne C0 326 dL_law_299 (kt := fun c => absurd (lg_same _) c) (kf := fun _ => ?_)
    refine J_aln C0 3 dL_law_302 (kk := ?_)
    generalize hS2 : pushS k S F = S2 at hG ⊢
    generalize hT2 : pushT k T = T2 at hG ⊢
    have hU := hG.undo
    have ek2 := hG.tk
    have k26 := hG.2.1.1
    refine J_callWHd C0 hX.x (k_undo l K b nA aA d (pushE k e) (D 0) Ga D S2 T2 tl tg (k := k2) (by omega) ek2) gL_law_L_undo dL_law_303 1 (hf := ⟨by show c + 1 + 1 ≤ 700929; omega, by show s + 6 + 6 ≤ 6998680; omega⟩) (kk := ?_)
    show J G _ _ _ _ _ [.int (nI k2)]
    refine J_widen C0 (c2 := c + 2) (s2 := s + 12) (Nat.le_refl _) (Nat.le_refl _) ?_
    refine J_iflt C0 326 dL_law_306 (kt := fun c => absurd c (nI_pos (n := k2) (by omega))) (kf := fun _ => ?_)
    refine J_aln C0 3 dL_law_309 (kk := ?_)
    generalize hF3 : S2 k2 = F3 at hU ⊢
    generalize hT3 : u2 T2 0 0 (nI k2) = T3 at hU ⊢
    have hKp := hU.keep
    refine J_ic C0 0 dL_law_310 (kk := ?_)
    refine J_callWHd C0 hX.x (k_keep l K b nA aA d (pushE k e) F3 Ga D S2 T3 tl tg) gL_law_L_keep dL_law_311 2 (hf := ⟨by show c + 2 + 1 ≤ 700929; omega, by show s + 12 + 6 ≤ 6998680; omega⟩) (kk := ?_)
    show J G _ _ _ _ _ [.int (F3 0 0)]
    refine J_widen C0 (c2 := c + 3) (s2 := s + 18) (Nat.le_refl _) (Nat.le_refl _) ?_
    refine J_aln C0 3 dL_law_314 (kk := ?_)
    refine J_ic C0 0 dL_law_315 (kk := ?_)
    refine J_callVz C0 (mX4_count l K b nA aA d (pushE k e) F3 Ga (va_up D 0 F3) S2 (u2 T3 1 0 (nI 1)) (w := 0) (by decide)) gL_law_X4_count dL_law_316 1 (hf := ⟨by show c + 3 + 0 ≤ 700929; omega, by show s + 18 + 0 ≤ 6998680; omega⟩) (kk := ?_)
    show J G _ _ _ _ _ [.int (F3 0 0), .int (F3 0 0)]
    refine J_widen C0 (c2 := c + 3) (s2 := s + 18) (Nat.le_refl _) (Nat.le_refl _) ?_
    refine J_icmpne C0 326 dL_law_319 (kt := fun c => absurd (show F3 0 0 = F3 0 0 from rfl) c) (kf := fun _ => ?_)
    refine J_ic C0 1 dL_law_322 (kk := ?_)
    refine J_goto C0 327 dL_law_323 (kk := ?_)
    refine J_isn C0 [(2, .int (nI 1)), (5, .int (nI it)), (3, .long (lookO (D 0))), (1, .ref (b 0)), (0, .ref t)] dL_law_327 (kk := ?_)
    refine J_aln C0 3 dL_law_328 (kk := ?_)
    refine J_callWPd C0 hX.x (k_look l K b nA aA d (pushE k e) F3 Ga (va_up D 0 F3) S2 (u2 T3 1 0 (nI 1)) tl tg hU.1.sh) gL_law_L_look dL_law_329 1 (hf := ⟨by show c + 3 + 0 ≤ 700929; omega, by show s + 18 + 0 ≤ 6998680; omega⟩) (kk := ?_)
    show J G _ _ _ _ _ [.long (lookO F3)]
    refine J_widen C0 (c2 := c + 3) (s2 := s + 18) (Nat.le_refl _) (Nat.le_refl _) ?_
    refine J_lsn C0 [(3, .long (lookO F3)), (2, .int (nI 1)), (5, .int (nI it)), (1, .ref (b 0)), (0, .ref t)] dL_law_332 (kk := ?_)
    refine J_lv [2, 1, 0, 3, 4] (lv2 := [(5, .int (nI it)), (2, .int (nI 1)), (3, .long (lookO (va_up D 0 F3 0))), (1, .ref (b 0)), (0, .ref t)]) (by rw [up_s]; rfl) ?_
    exact w_333 C0 hX hLn hst hit hK hC hS0 _ _ _ _ _ _ _ _ _ _ (by omega) (by omega) hKp
  · refine J_icmpneN C0 333 (by omega) (by omega) dL_law_282 (kt := fun _ => ?_) (kf := fun c => False.elim (by omega))
    refine J_lv [0, 1, 2, 3, 4] rfl ?_
    exact w_333 C0 hX hLn hst hit hK hC hS0 _ _ _ _ _ _ _ _ _ _ (by omega) (by omega) hR
set_option maxHeartbeats 4000000 in
set_option maxRecDepth 100000 in
theorem w_221 {K : KT} {l : Launch} {G : JC} {tl tg t Ln : Nat} {xs : Nat → Int32} {b nA aA : Nat → Nat} {d : Nat → Nat → Nat} (C0 : Cx G K l cL_law 13 RL wsL_law room_1) (hX : FnlV G tl tg t Ln xs) (hLn : Ln < 2 ^ 31) (hst : l.stackTraces = false) {it : Nat} (hit : it < 44) {C S0 : Nat} (hK : LK G K b nA aA d t (it + 1) C S0) (hC : C ≤ 690000) (hS0 : S0 ≤ 6900000) (k nt : Nat) (e : Nat → Nat → Nat) (F Ga : FF) (D S : Nat → FF) (T : FF) (c s : Nat) (k0 : Nat) (F0 : FF) (y : Int32) (hk0 : k0 ≤ 6) (hc : c + 8 ≤ C) (hs : s + 48 ≤ S0) (hR : SR (it + 1) k nt F D S T) (hd : (k = k0 ∧ F = F0) ∨ (k = pushN k0 ∧ (k0 < 6 → S k0 = F0))) : J G (corkW K b nA aA d e F Ga D S T) [(11, .int (nI k)), (10, .int (nI k0)), (8, .long (lookO F0)), (7, .int y), (5, .int (nI it)), (2, .int (nI 1)), (3, .long (lookO (D 0))), (1, .ref (b 0)), (0, .ref t)] c s 221 [] := by
  have hi : it + 1 ≤ 50 := by omega
  have hY := hR.1
  have hSh := hY.sh
  have ek := hR.tk
  refine J_iln C0 5 dL_law_221 (kk := ?_)
  refine J_ifeq C0 271 dL_law_222 (kt := fun c => absurd c (by decide)) (kf := fun _ => ?_)
  refine J_il C0 0 dL_law_225 (kk := ?_)
  refine J_il C0 1 dL_law_227 (kk := ?_)
  refine J_ic C0 1 dL_law_229 (kk := ?_)
  refine J_iaddN C0 dL_law_230 (kk := ?_)
  have k6 := hR.2.1.1
  by_cases hne : k = k0 + 1
  · have h06 : k0 < 6 := by omega
    have hSk : S k0 = F0 := by
      rcases hd with ⟨a, -⟩ | ⟨-, a⟩
      · omega
      · exact a h06
    subst hne
    refine J_icmpneN C0 271 (by omega) (by omega) dL_law_231 (kt := fun c => False.elim (by omega)) (kf := fun _ => ?_)
    refine J_il C0 3 dL_law_234 (kk := ?_)
    refine J_bi C0 8 dL_law_236 (kk := ?_)
    refine J_ishr C0 dL_law_238 (kk := ?_)
    refine J_ic C0 3 dL_law_239 (kk := ?_)
    refine J_callSd C0 (mL_low l K (y >>> (nI 8 &&& 31)) (k := 3) (by omega) (by omega)) (corkW K b nA aA d e F Ga D S T) (corkW K b nA aA d e F Ga D S T) gL_law_L_low dL_law_240 2 (hbs := (List.append_nil _).symm) (hb1 := List.append_nil _) (hf := ⟨by show c + 0 + 0 ≤ 700929; omega, by show s + 0 + 0 ≤ 6998680; omega⟩) (kk := ?_)
    show J G _ _ _ _ _ [.int (nI (lowS (y >>> (nI 8 &&& 31)) 3))]
    refine J_widen C0 (c2 := c + 0) (s2 := s + 0) (Nat.le_refl _) (Nat.le_refl _) ?_
    have h3 := lowS_lt (y >>> (nI 8 &&& 31)) (k := 3) (by decide)
    generalize lowS (y >>> (nI 8 &&& 31)) 3 = u at h3 ⊢
    by_cases hu : u = 0
    · have hU := hR.undo
      refine J_ifne C0 271 dL_law_243 (kt := fun c => absurd (show nI u = 0 from by rw [hu]; rfl) c) (kf := fun _ => ?_)
      refine J_aln C0 7 dL_law_246 (kk := ?_)
      refine J_callWHd C0 hX.x (k_undo l K b nA aA d e F Ga D S T tl tg (k := k0) h06 ek) gL_law_L_undo dL_law_247 1 (hf := ⟨by show c + 0 + 1 ≤ 700929; omega, by show s + 0 + 6 ≤ 6998680; omega⟩) (kk := ?_)
      show J G _ _ _ _ _ [.int (nI k0)]
      refine J_widen C0 (c2 := c + 1) (s2 := s + 6) (Nat.le_refl _) (Nat.le_refl _) ?_
      refine J_il C0 1 dL_law_250 (kk := ?_)
      refine J_icmpneN C0 269 (by omega) (by omega) dL_law_252 (kt := fun c => False.elim (by omega)) (kf := fun _ => ?_)
      refine J_aln C0 7 dL_law_255 (kk := ?_)
      refine J_callWPd C0 hX.x (k_look l K b nA aA d e (S k0) Ga D S (u2 T 0 0 (nI k0)) tl tg hU.1.sh) gL_law_L_look dL_law_256 1 (hf := ⟨by show c + 1 + 0 ≤ 700929; omega, by show s + 6 + 0 ≤ 6998680; omega⟩) (kk := ?_)
      show J G _ _ _ _ _ [.long (lookO (S k0))]
      refine J_widen C0 (c2 := c + 1) (s2 := s + 6) (Nat.le_refl _) (Nat.le_refl _) ?_
      refine J_ll C0 2 dL_law_259 (kk := ?_)
      refine J_lcmp C0 dL_law_261 (kk := ?_)
      refine J_ifne C0 269 dL_law_262 (kt := fun c => absurd (show lg_cmp (lookO (S k0)) (lookO F0) = 0 from by rw [hSk]; exact lg_same _) c) (kf := fun _ => ?_)
      refine J_ic C0 1 dL_law_265 (kk := ?_)
      refine J_goto C0 270 dL_law_266 (kk := ?_)
      refine J_isn C0 [(2, .int (nI 1)), (11, .int (nI (k0 + 1))), (10, .int (nI k0)), (8, .long (lookO F0)), (7, .int y), (5, .int (nI it)), (3, .long (lookO (D 0))), (1, .ref (b 0)), (0, .ref t)] dL_law_270 (kk := ?_)
      refine J_lv [5, 0, 6, 7, 8] rfl ?_
      exact w_271 C0 hX hLn hst hit hK hC hS0 _ _ _ _ _ _ _ _ _ _ (by omega) (by omega) hU
    · refine J_ifne C0 271 dL_law_243 (kt := fun _ => ?_) (kf := fun c => absurd c (nI_ne0 (n := u) (by omega) (by omega)))
      refine J_lv [4, 5, 6, 7, 8] rfl ?_
      exact w_271 C0 hX hLn hst hit hK hC hS0 _ _ _ _ _ _ _ _ _ _ (by omega) (by omega) hR
  · refine J_icmpneN C0 271 (by omega) (by omega) dL_law_231 (kt := fun _ => ?_) (kf := fun c => False.elim (by omega))
    refine J_lv [4, 5, 6, 7, 8] rfl ?_
    exact w_271 C0 hX hLn hst hit hK hC hS0 _ _ _ _ _ _ _ _ _ _ (by omega) (by omega) hR
set_option maxHeartbeats 4000000 in
set_option maxRecDepth 100000 in
theorem w_170 {K : KT} {l : Launch} {G : JC} {tl tg t Ln : Nat} {xs : Nat → Int32} {b nA aA : Nat → Nat} {d : Nat → Nat → Nat} (C0 : Cx G K l cL_law 13 RL wsL_law room_1) (hX : FnlV G tl tg t Ln xs) (hLn : Ln < 2 ^ 31) (hst : l.stackTraces = false) {it : Nat} (hit : it < 44) {C S0 : Nat} (hK : LK G K b nA aA d t (it + 1) C S0) (hC : C ≤ 690000) (hS0 : S0 ≤ 6900000) (k nt : Nat) (e : Nat → Nat → Nat) (F Ga : FF) (D S : Nat → FF) (T : FF) (c s : Nat) (k0 : Nat) (F0 : FF) (y : Int32) (hk0 : k0 ≤ 6) (hc : c + 8 ≤ C) (hs : s + 48 ≤ S0) (hR : SR (it + 1) k nt F D S T) (hd : ((k = k0 ∧ F = F0) ∨ (k = pushN k0 ∧ (k0 < 6 → S k0 = F0)))) : J G (corkW K b nA aA d e F Ga D S T) [(10, .int (nI k0)), (8, .long (lookO F0)), (7, .int y), (5, .int (nI it)), (2, .int (nI 1)), (3, .long (lookO (D 0))), (1, .ref (b 0)), (0, .ref t)] c s 170 [] := by
  have hi : it + 1 ≤ 50 := by omega
  have hY := hR.1
  have hSh := hY.sh
  have ek := hR.tk
  refine J_aln C0 6 dL_law_170 (kk := ?_)
  refine J_bi C0 11 dL_law_171 (kk := ?_)
  refine J_callVz C0 (mX4_count l K b nA aA d e F Ga D S T (w := 11) (by decide)) gL_law_X4_count dL_law_173 1 (hf := ⟨by show c + 0 + 0 ≤ 700929; omega, by show s + 0 + 0 ≤ 6998680; omega⟩) (kk := ?_)
  show J G _ _ _ _ _ [.int (T 0 0)]
  refine J_widen C0 (c2 := c + 0) (s2 := s + 0) (Nat.le_refl _) (Nat.le_refl _) ?_
  refine J_int C0 ek ?_
  refine J_is C0 [(11, .int (nI k)), (10, .int (nI k0)), (8, .long (lookO F0)), (7, .int y), (5, .int (nI it)), (2, .int (nI 1)), (3, .long (lookO (D 0))), (1, .ref (b 0)), (0, .ref t)] dL_law_176 (kk := ?_)
  refine J_iln C0 5 dL_law_178 (kk := ?_)
  refine J_ifeq C0 219 dL_law_179 (kt := fun c => absurd c (by decide)) (kf := fun _ => ?_)
  refine J_il C0 0 dL_law_182 (kk := ?_)
  refine J_il C0 1 dL_law_184 (kk := ?_)
  have k6 := hR.2.1.1
  by_cases hkk : k = k0
  · by_cases k06 : k0 = 6
    · refine J_icmpneN C0 206 (by omega) (by omega) dL_law_186 (kt := fun c => False.elim (by omega)) (kf := fun _ => ?_)
      refine J_il C0 1 dL_law_189 (kk := ?_)
      refine J_bi C0 6 dL_law_191 (kk := ?_)
      refine J_icmpeqN C0 215 (by omega) (by omega) dL_law_193 (kt := fun _ => ?_) (kf := fun c => False.elim (by omega))
      refine J_ic C0 1 dL_law_215 (kk := ?_)
      refine J_goto C0 220 dL_law_216 (kk := ?_)
      refine J_isn C0 [(2, .int (nI 1)), (11, .int (nI k)), (10, .int (nI k0)), (8, .long (lookO F0)), (7, .int y), (5, .int (nI it)), (3, .long (lookO (D 0))), (1, .ref (b 0)), (0, .ref t)] dL_law_220 (kk := ?_)
      refine J_lv [1, 2, 3, 4, 5, 0, 6, 7, 8] rfl ?_
      exact w_221 C0 hX hLn hst hit hK hC hS0 _ _ _ _ _ _ _ _ _ _ k0 F0 y hk0 (by omega) (by omega) hR hd
    · have hF : F = F0 := by
        rcases hd with ⟨-, a⟩ | ⟨a, -⟩
        · exact a
        · unfold pushN at a
          rw [if_pos (by omega)] at a
          omega
      refine J_icmpneN C0 206 (by omega) (by omega) dL_law_186 (kt := fun c => False.elim (by omega)) (kf := fun _ => ?_)
      refine J_il C0 1 dL_law_189 (kk := ?_)
      refine J_bi C0 6 dL_law_191 (kk := ?_)
      refine J_icmpeqN C0 215 (by omega) (by omega) dL_law_193 (kt := fun c => False.elim (by omega)) (kf := fun _ => ?_)
      refine J_aln C0 7 dL_law_196 (kk := ?_)
      refine J_callWPd C0 hX.x (k_look l K b nA aA d e F Ga D S T tl tg hSh) gL_law_L_look dL_law_197 1 (hf := ⟨by show c + 0 + 0 ≤ 700929; omega, by show s + 0 + 0 ≤ 6998680; omega⟩) (kk := ?_)
      show J G _ _ _ _ _ [.long (lookO F)]
      refine J_widen C0 (c2 := c + 0) (s2 := s + 0) (Nat.le_refl _) (Nat.le_refl _) ?_
      refine J_ll C0 2 dL_law_200 (kk := ?_)
      refine J_lcmp C0 dL_law_202 (kk := ?_)
      refine J_ifeq C0 215 dL_law_203 (kt := fun _ => ?_) (kf := fun c => absurd (show lg_cmp (lookO F) (lookO F0) = 0 from by rw [hF]; exact lg_same _) c)
      refine J_ic C0 1 dL_law_215 (kk := ?_)
      refine J_goto C0 220 dL_law_216 (kk := ?_)
      refine J_isn C0 [(2, .int (nI 1)), (11, .int (nI k)), (10, .int (nI k0)), (8, .long (lookO F0)), (7, .int y), (5, .int (nI it)), (3, .long (lookO (D 0))), (1, .ref (b 0)), (0, .ref t)] dL_law_220 (kk := ?_)
      refine J_lv [1, 2, 3, 4, 5, 0, 6, 7, 8] rfl ?_
      exact w_221 C0 hX hLn hst hit hK hC hS0 _ _ _ _ _ _ _ _ _ _ k0 F0 y hk0 (by omega) (by omega) hR hd
  · have hk1 : k = k0 + 1 := by
      rcases hd with ⟨a, -⟩ | ⟨a, -⟩
      · omega
      · unfold pushN at a
        split at a <;> omega
    refine J_icmpneN C0 206 (by omega) (by omega) dL_law_186 (kt := fun _ => ?_) (kf := fun c => False.elim (by omega))
    refine J_il C0 0 dL_law_206 (kk := ?_)
    refine J_il C0 1 dL_law_208 (kk := ?_)
    refine J_ic C0 1 dL_law_210 (kk := ?_)
    refine J_iaddN C0 dL_law_211 (kk := ?_)
    refine J_icmpneN C0 219 (by omega) (by omega) dL_law_212 (kt := fun c => False.elim (by omega)) (kf := fun _ => ?_)
    refine J_ic C0 1 dL_law_215 (kk := ?_)
    refine J_goto C0 220 dL_law_216 (kk := ?_)
    refine J_isn C0 [(2, .int (nI 1)), (11, .int (nI k)), (10, .int (nI k0)), (8, .long (lookO F0)), (7, .int y), (5, .int (nI it)), (3, .long (lookO (D 0))), (1, .ref (b 0)), (0, .ref t)] dL_law_220 (kk := ?_)
    refine J_lv [1, 2, 3, 4, 5, 0, 6, 7, 8] rfl ?_
    exact w_221 C0 hX hLn hst hit hK hC hS0 _ _ _ _ _ _ _ _ _ _ k0 F0 y hk0 (by omega) (by omega) hR hd
set_option maxHeartbeats 4000000 in
set_option maxRecDepth 100000 in
theorem w_132 {K : KT} {l : Launch} {G : JC} {tl tg t Ln : Nat} {xs : Nat → Int32} {b nA aA : Nat → Nat} {d : Nat → Nat → Nat} (C0 : Cx G K l cL_law 13 RL wsL_law room_1) (hX : FnlV G tl tg t Ln xs) (hLn : Ln < 2 ^ 31) (hst : l.stackTraces = false) {it : Nat} (hit : it < 44) {C S0 : Nat} (hK : LK G K b nA aA d t (it + 1) C S0) (hC : C ≤ 690000) (hS0 : S0 ≤ 6900000) (k nt : Nat) (e : Nat → Nat → Nat) (F Ga : FF) (D S : Nat → FF) (T : FF) (c s : Nat) (k0 : Nat) (F0 : FF) (y : Int32) (hk0 : k0 ≤ 6) (hc : c + 9 ≤ C) (hs : s + 54 ≤ S0) (hR : SR (it + 1) k nt F D S T) (hd : ((k = k0 ∧ F = F0) ∨ (k = pushN k0 ∧ (k0 < 6 → S k0 = F0)))) : J G (corkW K b nA aA d e F Ga D S T) [(10, .int (nI k0)), (8, .long (lookO F0)), (7, .int y), (5, .int (nI it)), (2, .int (nI 1)), (3, .long (lookO (D 0))), (1, .ref (b 0)), (0, .ref t)] c s 132 [] := by
  have hi : it + 1 ≤ 50 := by omega
  have hY := hR.1
  have hSh := hY.sh
  have ek := hR.tk
  have t164 : ∀ (Ga : FF) (c s : Nat), c + 8 ≤ C → s + 48 ≤ S0 → J G (corkW K b nA aA d e F Ga D S T) [(10, .int (nI k0)), (8, .long (lookO F0)), (7, .int y), (5, .int (nI it)), (2, .int (nI 1)), (3, .long (lookO (D 0))), (1, .ref (b 0)), (0, .ref t)] c s 164 [] := by
    intro Ga c s hc hs
    refine J_ic C0 1 dL_law_164 (kk := ?_)
    refine J_goto C0 169 dL_law_165 (kk := ?_)
    refine J_isn C0 [(2, .int (nI 1)), (10, .int (nI k0)), (8, .long (lookO F0)), (7, .int y), (5, .int (nI it)), (3, .long (lookO (D 0))), (1, .ref (b 0)), (0, .ref t)] dL_law_169 (kk := ?_)
    refine J_lv [1, 2, 3, 4, 0, 5, 6, 7] rfl ?_
    exact w_170 C0 hX hLn hst hit hK hC hS0 _ _ _ _ _ _ _ _ _ _ k0 F0 y hk0 (by omega) (by omega) hR hd
  have t146 : ∀ (c s : Nat), c + 9 ≤ C → s + 54 ≤ S0 → J G (corkW K b nA aA d e F Ga D S T) [(10, .int (nI k0)), (8, .long (lookO F0)), (7, .int y), (5, .int (nI it)), (2, .int (nI 1)), (3, .long (lookO (D 0))), (1, .ref (b 0)), (0, .ref t)] c s 146 [] := by
    intro c s hc hs
    refine J_il C0 3 dL_law_146 (kk := ?_)
    refine J_bi C0 8 dL_law_148 (kk := ?_)
    refine J_iremN C0 (by omega) (by omega) (by omega) dL_law_150 (kk := ?_)
    refine J_ic C0 4 dL_law_151 (kk := ?_)
    by_cases h8 : it % 8 = 4
    · refine J_icmpneN C0 164 (by omega) (by omega) dL_law_152 (kt := fun c => False.elim (by omega)) (kf := fun _ => ?_)
      refine J_aln C0 6 dL_law_155 (kk := ?_)
      refine J_il C0 2 dL_law_156 (kk := ?_)
      refine J_callWP C0 hX.x (mL_would l hst K b nA aA d e F Ga D S T tl tg hY hi y) [] gL_law_L_would dL_law_158 2 (hf := ⟨by show c + 0 + 1 ≤ 700929; omega, by show s + 0 + 6 ≤ 6998680; omega⟩) (kk := fun rv w1 h1 => ?_)
      obtain ⟨rfl, Gw, rfl⟩ := h1
      show J G (corkW K b nA aA d e F Gw D S T) _ _ _ _ [.int (nI 1)]
      refine J_widen C0 (c2 := c + 1) (s2 := s + 6) (Nat.le_refl _) (Nat.le_refl _) ?_
      refine J_ifeq C0 168 dL_law_161 (kt := fun c => absurd c (by decide)) (kf := fun _ => ?_)
      exact t164 Gw _ _ (by omega) (by omega)
    · refine J_icmpneN C0 164 (by omega) (by omega) dL_law_152 (kt := fun _ => ?_) (kf := fun c => False.elim (by omega))
      exact t164 Ga _ _ (by omega) (by omega)
  refine J_il C0 3 dL_law_132 (kk := ?_)
  refine J_ic C0 3 dL_law_134 (kk := ?_)
  refine J_iremN C0 (by omega) (by omega) (by omega) dL_law_135 (kk := ?_)
  by_cases h3 : it % 3 = 0
  · refine J_ifgt C0 146 dL_law_136 (kt := fun c => absurd c (show ¬ 0 < nI (it % 3) from by rw [h3]; decide)) (kf := fun _ => ?_)
    refine J_aln C0 6 dL_law_139 (kk := ?_)
    refine J_callWPd C0 hX.x (k_holds l K b nA aA d e F Ga D S T tl tg hY hi) gL_law_L_holds dL_law_140 1 (hf := ⟨by show c + 0 + 0 ≤ 700929; omega, by show s + 0 + 0 ≤ 6998680; omega⟩) (kk := ?_)
    show J G _ _ _ _ _ [.int (nI 1)]
    refine J_widen C0 (c2 := c + 0) (s2 := s + 0) (Nat.le_refl _) (Nat.le_refl _) ?_
    refine J_ifeq C0 168 dL_law_143 (kt := fun c => absurd c (by decide)) (kf := fun _ => ?_)
    exact t146 _ _ (by omega) (by omega)
  · refine J_ifgt C0 146 dL_law_136 (kt := fun _ => ?_) (kf := fun c => absurd (show 0 < nI (it % 3) from (nI_0lt (by omega)).mpr (by omega)) c)
    exact t146 _ _ (by omega) (by omega)
set_option maxHeartbeats 4000000 in
set_option maxRecDepth 100000 in
theorem w_95 {K : KT} {l : Launch} {G : JC} {tl tg t Ln : Nat} {xs : Nat → Int32} {b nA aA : Nat → Nat} {d : Nat → Nat → Nat} (C0 : Cx G K l cL_law 13 RL wsL_law room_1) (hX : FnlV G tl tg t Ln xs) (hLn : Ln < 2 ^ 31) (hst : l.stackTraces = false) {it : Nat} (hit : it < 44) {C S0 : Nat} (hK : LK G K b nA aA d t (it + 1) C S0) (hC : C ≤ 690000) (hS0 : S0 ≤ 6900000) (k nt : Nat) (e : Nat → Nat → Nat) (F Ga : FF) (D S : Nat → FF) (T : FF) (c s : Nat) (x : Int32) (hc : c + 11 ≤ C) (hs : s + 66 ≤ S0) (hR : SR it k nt F D S T) : J G (corkW K b nA aA d e F Ga D S T) [(6, .int x), (5, .int (nI it)), (2, .int (nI 1)), (3, .long (lookO (D 0))), (1, .ref (b 0)), (0, .ref t)] c s 95 [] := by
  have hi : it ≤ 50 := by omega
  have hY := hR.1
  have hSh := hY.sh
  have ek := hR.tk
  refine J_aln C0 5 dL_law_95 (kk := ?_)
  refine J_ic C0 2 dL_law_96 (kk := ?_)
  refine J_il C0 1 dL_law_97 (kk := ?_)
  refine J_imulN C0 dL_law_99 (kk := ?_)
  refine J_ic C0 1 dL_law_100 (kk := ?_)
  refine J_iaddN C0 dL_law_101 (kk := ?_)
  refine J_callLot C0 hX (mL_lot l K (t := t) (Ln := Ln) (k := ((2 * it) + 1)) (xs := xs) hLn (by omega)) gL_law_L_lot dL_law_102 2 (hf := ⟨by show c + 0 + 0 ≤ 700929; omega, by show s + 0 + 0 ≤ 6998680; omega⟩) (kk := fun rv w1 h1 => ?_)
  obtain ⟨⟨y, rfl⟩, rfl⟩ := h1
  rw [List.append_nil]
  show J G _ _ _ _ _ [.int y]
  refine J_widen C0 (c2 := c + 0) (s2 := s + 0) (Nat.le_refl _) (Nat.le_refl _) ?_
  refine J_is C0 [(7, .int y), (6, .int x), (5, .int (nI it)), (2, .int (nI 1)), (3, .long (lookO (D 0))), (1, .ref (b 0)), (0, .ref t)] dL_law_105 (kk := ?_)
  refine J_aln C0 5 dL_law_107 (kk := ?_)
  refine J_callWPd C0 hX.x (k_look l K b nA aA d e F Ga D S T tl tg hSh) gL_law_L_look dL_law_108 1 (hf := ⟨by show c + 0 + 0 ≤ 700929; omega, by show s + 0 + 0 ≤ 6998680; omega⟩) (kk := ?_)
  show J G _ _ _ _ _ [.long (lookO F)]
  refine J_widen C0 (c2 := c + 0) (s2 := s + 0) (Nat.le_refl _) (Nat.le_refl _) ?_
  refine J_ls C0 [(8, .long (lookO F)), (7, .int y), (6, .int x), (5, .int (nI it)), (2, .int (nI 1)), (3, .long (lookO (D 0))), (1, .ref (b 0)), (0, .ref t)] dL_law_111 (kk := ?_)
  refine J_aln C0 6 dL_law_113 (kk := ?_)
  refine J_bi C0 11 dL_law_114 (kk := ?_)
  refine J_callVz C0 (mX4_count l K b nA aA d e F Ga D S T (w := 11) (by decide)) gL_law_X4_count dL_law_116 1 (hf := ⟨by show c + 0 + 0 ≤ 700929; omega, by show s + 0 + 0 ≤ 6998680; omega⟩) (kk := ?_)
  show J G _ _ _ _ _ [.int (T 0 0)]
  refine J_widen C0 (c2 := c + 0) (s2 := s + 0) (Nat.le_refl _) (Nat.le_refl _) ?_
  refine J_int C0 ek ?_
  refine J_is C0 [(10, .int (nI k)), (8, .long (lookO F)), (7, .int y), (6, .int x), (5, .int (nI it)), (2, .int (nI 1)), (3, .long (lookO (D 0))), (1, .ref (b 0)), (0, .ref t)] dL_law_119 (kk := ?_)
  refine J_aln C0 7 dL_law_121 (kk := ?_)
  refine J_il C0 3 dL_law_122 (kk := ?_)
  refine J_il C0 2 dL_law_124 (kk := ?_)
  refine J_callWP C0 hX.x (mL_acts l hst K b nA aA d e F Ga D S T tl tg hR hi x y) [] gL_law_L_acts dL_law_126 3 (hf := ⟨by show c + 0 + 2 ≤ 700929; omega, by show s + 0 + 12 ≤ 6998680; omega⟩) (kk := fun rv w1 h1 => ?_)
  obtain ⟨rfl, e', F', Ga', S', T', k', nt', rfl, hR', hd⟩ := h1
  show J G (corkW K b nA aA d e' F' Ga' D S' T') _ _ _ _ [.int (nI 1)]
  refine J_widen C0 (c2 := c + 2) (s2 := s + 12) (Nat.le_refl _) (Nat.le_refl _) ?_
  refine J_ifeq C0 168 dL_law_129 (kt := fun c => absurd c (by decide)) (kf := fun _ => ?_)
  refine J_lv [0, 1, 2, 4, 5, 6, 7, 8] rfl ?_
  exact w_132 C0 hX hLn hst hit hK hC hS0 _ _ _ _ _ _ _ _ _ _ k F y hR.2.1.1 (by omega) (by omega) hR' hd
set_option maxHeartbeats 4000000 in
set_option maxRecDepth 100000 in
theorem w_64 {K : KT} {l : Launch} {G : JC} {tl tg t Ln : Nat} {xs : Nat → Int32} {b nA aA : Nat → Nat} {d : Nat → Nat → Nat} (C0 : Cx G K l cL_law 13 RL wsL_law room_1) (hX : FnlV G tl tg t Ln xs) (hLn : Ln < 2 ^ 31) (hst : l.stackTraces = false) {it : Nat} (hit : it < 44) {C S0 : Nat} (hK : LK G K b nA aA d t (it + 1) C S0) (hC : C ≤ 690000) (hS0 : S0 ≤ 6900000) (k nt : Nat) (e : Nat → Nat → Nat) (F Ga : FF) (D S : Nat → FF) (T : FF) (c s : Nat) (hc : c + 11 ≤ C) (hs : s + 66 ≤ S0) (hR : SR it k nt F D S T) : J G (corkW K b nA aA d e F Ga D S T) [(5, .int (nI it)), (2, .int (nI 1)), (3, .long (lookO (D 0))), (1, .ref (b 0)), (0, .ref t)] c s 64 [] := by
  have hi : it ≤ 50 := by omega
  have hY := hR.1
  have hSh := hY.sh
  have ek := hR.tk
  refine J_il C0 0 dL_law_64 (kk := ?_)
  refine J_bi C0 44 dL_law_66 (kk := ?_)
  refine J_icmpgeN C0 388 (by omega) (by omega) dL_law_68 (kt := fun c => False.elim (by omega)) (kf := fun _ => ?_)
  refine J_iln C0 1 dL_law_71 (kk := ?_)
  refine J_ifeq C0 388 dL_law_72 (kt := fun c => absurd c (by decide)) (kf := fun _ => ?_)
  refine J_il C0 0 dL_law_75 (kk := ?_)
  refine J_ic C0 2 dL_law_77 (kk := ?_)
  by_cases h2 : it < 2
  · refine J_icmpgeN C0 85 (by omega) (by omega) dL_law_78 (kt := fun c => False.elim (by omega)) (kf := fun _ => ?_)
    refine J_ic C0 0 dL_law_81 (kk := ?_)
    refine J_goto C0 93 dL_law_82 (kk := ?_)
    refine J_is C0 [(6, .int (nI 0)), (5, .int (nI it)), (2, .int (nI 1)), (3, .long (lookO (D 0))), (1, .ref (b 0)), (0, .ref t)] dL_law_93 (kk := ?_)
    refine J_lv [0, 1, 2, 3, 4, 5] rfl ?_
    exact w_95 C0 hX hLn hst hit hK hC hS0 _ _ _ _ _ _ _ _ _ _ _ (by omega) (by omega) hR
  · refine J_icmpgeN C0 85 (by omega) (by omega) dL_law_78 (kt := fun _ => ?_) (kf := fun c => False.elim (by omega))
    refine J_aln C0 4 dL_law_85 (kk := ?_)
    refine J_ic C0 2 dL_law_86 (kk := ?_)
    refine J_il C0 0 dL_law_87 (kk := ?_)
    refine J_imulN C0 dL_law_89 (kk := ?_)
    refine J_callLot C0 hX (mL_lot l K (t := t) (Ln := Ln) (k := (2 * it)) (xs := xs) hLn (by omega)) gL_law_L_lot dL_law_90 2 (hf := ⟨by show c + 0 + 0 ≤ 700929; omega, by show s + 0 + 0 ≤ 6998680; omega⟩) (kk := fun rv w1 h1 => ?_)
    obtain ⟨⟨x, rfl⟩, rfl⟩ := h1
    rw [List.append_nil]
    show J G _ _ _ _ _ [.int x]
    refine J_widen C0 (c2 := c + 0) (s2 := s + 0) (Nat.le_refl _) (Nat.le_refl _) ?_
    refine J_is C0 [(6, .int x), (5, .int (nI it)), (2, .int (nI 1)), (3, .long (lookO (D 0))), (1, .ref (b 0)), (0, .ref t)] dL_law_93 (kk := ?_)
    refine J_lv [0, 1, 2, 3, 4, 5] rfl ?_
    exact w_95 C0 hX hLn hst hit hK hC hS0 _ _ _ _ _ _ _ _ _ _ x (by omega) (by omega) hR
set_option maxHeartbeats 4000000 in
set_option maxRecDepth 100000 in
theorem law_end {K : KT} {l : Launch} {G : JC} {tl tg t Ln : Nat} {xs : Nat → Int32} {b nA aA : Nat → Nat} {d : Nat → Nat → Nat} (C0 : Cx G K l cL_law 13 RL wsL_law room_1) (hX : FnlV G tl tg t Ln xs) (hLn : Ln < 2 ^ 31) (hst : l.stackTraces = false) (hE : ∀ (bs : List va_W) (lv : List (Nat × Value)) (c s : Nat), c ≤ 690000 → s ≤ 6900000 → J G bs lv c s 404 [.int (nI 1)]) (k nt : Nat) (e : Nat → Nat → Nat) (F Ga : FF) (D S : Nat → FF) (T : FF) (c s : Nat) (hc : c ≤ 690000) (hs : s ≤ 6900000) (hR : SR 44 k nt F D S T) : J G (corkW K b nA aA d e F Ga D S T) [(5, .int (nI 44)), (2, .int (nI 1)), (3, .long (lookO (D 0))), (1, .ref (b 0)), (0, .ref t)] c s 64 [] := by
  have hY := hR.1
  refine J_il C0 0 dL_law_64 (kk := ?_)
  refine J_bi C0 44 dL_law_66 (kk := ?_)
  refine J_icmpge C0 388 dL_law_68 (kt := fun _ => ?_) (kf := fun c => absurd (by decide) c)
  refine J_iln C0 1 dL_law_388 (kk := ?_)
  refine J_ifeq C0 403 dL_law_389 (kt := fun c => absurd c (by decide)) (kf := fun _ => ?_)
  refine J_aln C0 3 dL_law_392 (kk := ?_)
  refine J_callWPd C0 hX.x (k_holds l K b nA aA d e F Ga D S T tl tg hY (by decide)) gL_law_L_holds dL_law_393 1 (hf := ⟨by show c + 0 + 0 ≤ 700929; omega, by show s + 0 + 0 ≤ 6998680; omega⟩) (kk := ?_)
  show J G _ _ _ _ _ [.int (nI 1)]
  refine J_widen C0 (c2 := c + 0) (s2 := s + 0) (Nat.le_refl _) (Nat.le_refl _) ?_
  refine J_ifeq C0 403 dL_law_396 (kt := fun c => absurd c (by decide)) (kf := fun _ => ?_)
  refine J_ic C0 1 dL_law_399 (kk := ?_)
  refine J_goto C0 404 dL_law_400 (kk := ?_)
  exact hE _ _ _ _ (by omega) (by omega)
theorem law_loop {K : KT} {l : Launch} {G : JC} {tl tg t Ln : Nat} {xs : Nat → Int32} {b nA aA : Nat → Nat} {d : Nat → Nat → Nat} (C0 : Cx G K l cL_law 13 RL wsL_law room_1) (hX : FnlV G tl tg t Ln xs) (hLn : Ln < 2 ^ 31) (hst : l.stackTraces = false) (hE : ∀ (bs : List va_W) (lv : List (Nat × Value)) (c s : Nat), c ≤ 690000 → s ≤ 6900000 → J G bs lv c s 404 [.int (nI 1)]) : ∀ (q it : Nat), it + q = 44 → LK G K b nA aA d t it (1000 + 20 * it) (20000 + 120 * it) := by
  intro q
  induction q with
  | zero =>
    intro it hq k nt e F Ga D S T c s h1 h2 hR
    have hit : it = 44 := by omega
    subst hit
    exact law_end C0 hX hLn hst hE k nt e F Ga D S T c s (by omega) (by omega) hR
  | succ q ih =>
    intro it hq k nt e F Ga D S T c s h1 h2 hR
    exact w_64 C0 hX hLn hst (show it < 44 by omega) (ih (it + 1) (by omega)) (by omega) (by omega) k nt e F Ga D S T c s (by omega) (by omega) hR
