theorem iterT_10 : ∀ (k : Nat) (x : FF × Nat), (iterT k x).1 10 = x.1 10
  | 0, _ => rfl
  | k + 1, x => by
    show (iterT k (stepT x)).1 10 = _
    rw [iterT_10 k (stepT x)]
    unfold stepT
    split
    · show readC (rmS x.1 (nN (x.1 0 4)) x.2) (nN (x.1 0 4) - 1) (nN (x.1 12 x.2)) (nN (x.1 13 x.2)) (x.1 14 x.2) 10 = x.1 10
      rw [read_far _ _ _ _ _ (by decide) (by decide) (by decide) (by decide) (by decide) (by decide) (by decide), rm_far _ _ _ (by decide) (by decide)]
    · rfl
theorem take_10 (F : FF) : takeC F 10 = F 10 := iterT_10 _ _
theorem lendStep_10 (F : FF) (p : Nat) : lendStep F p 10 = F 10 := by
  unfold lendStep
  split
  · show sendG _ _ _ _ _ _ _ 10 = _
    rw [send_far (by decide) (by decide), u2_i (by decide)]
  · rfl
theorem iterL_10 : ∀ (k p : Nat) (F : FF), iterL k p F 10 = F 10
  | 0, _, _ => rfl
  | k + 1, p, F => by
    show iterL k (p + 1) (lendStep F p) 10 = _
    rw [iterL_10 k (p + 1) (lendStep F p), lendStep_10]
theorem lends_10 (F : FF) : lendsC F 10 = F 10 := iterL_10 _ _ _
theorem tick_10 (F : FF) : tickC F 10 = poursC (takeC (u2 F 0 0 (F 0 0 + nI 1))) 10 := lends_10 _
theorem take_F10 (F : FF) : takeC (u2 F 0 0 (F 0 0 + nI 1)) 10 = F 10 := by rw [take_10, u2_i (by decide)]
theorem tele (a b c : Int32) : b - a + (c - b) = c - a := by
  rw [Int32.sub_eq_add_neg, Int32.sub_eq_add_neg, Int32.sub_eq_add_neg, Int32.add_comm (b + -a), Int32.add_assoc c, ← Int32.add_assoc (-b), Int32.add_left_neg, Int32.zero_add]
abbrev rmX5_tick : Room := { frames := 6, cells := 0, slots := 0, locals := 133 }
set_option maxHeartbeats 4000000 in
set_option maxRecDepth 100000 in
theorem mX5_tick (l : Launch) (K : KT) (a : Nat → Nat) (F : FF) (g P L : Nat → Int32) (M : FF) {B hn n : Nat} {N : Nat → Nat → Nat} (hv : InvN B F hn n N) (hB : B + 12 < 2 ^ 30) : Ct l K yX5_tick wsX5_tick rmX5_tick [.ref (a 0)] [modR K a (flat F) g P L M] (some (.int (sumS (tickC F 10) 12 - sumS (F 10) 12))) [modR K a (flat (tickC F)) g P L M] := by
  refine CtP_of (cc := cX5_tick) (nL := 2) (rt := some .int) (own := RX5) (lv0 := [(0, .ref (a 0))]) (by decide) rfl (Nat.le_of_ble_eq_true rfl) rfl rfl ?_
  intro G C0 hF _
  have hv0 := hv.u (i := 0) (j := 0) (x := F 0 0 + nI 1) (by omega)
  obtain ⟨n1, N1, hv1⟩ := hv0.take (by omega)
  obtain ⟨n2, N2, hv2⟩ : ∃ n2 N2, InvN B (poursC (takeC (u2 F 0 0 (F 0 0 + nI 1)))) hn n2 N2 := InvN.itP (by omega) 12 0 hv1 (by omega)
  have f7 : Cond.fieldLink RX5 7 "CorkPermitsModel" "s" "[I" ∈ wsX5_tick := by decide +kernel
  have iX5 : ∀ w ∈ u_ws RX5 TX5 13, w ∈ wsX5_tick := by decide +kernel
  refine J_aln C0 0 dX5_tick_0 (kk := ?_)
  refine J_get C0 iX5 0 0 0 f7 dX5_tick_1 (kk := ?_)
  refine J_ic C0 0 dX5_tick_4 (kk := ?_)
  refine J_dup2 C0 dX5_tick_5 (kk := ?_)
  refine J_iald C0 0 1 283 dX5_tick_6 (by omega) (v := (F 0 0)) (hv := (flat_0 F (j := 0) (by decide)).trans rfl) (kk := ?_)
  refine J_ic C0 1 dX5_tick_7 (kk := ?_)
  refine J_iadd C0 dX5_tick_8 ?_
  refine J_iast C0 0 1 283 [modR K a (flat (u2 F 0 0 ((F 0 0) + (nI 1)))) g P L M] dX5_tick_9 (by omega) (hb2 := by exact congrArg (fun f => [modR K a f g P L M]) (flat_u0 F (j := 0) (by decide) ((F 0 0) + (nI 1)))) (kk := ?_)
  refine J_aln C0 0 dX5_tick_10 (kk := ?_)
  refine J_callVd C0 (mX5_allArrive l K a (u2 F 0 0 ((F 0 0) + (nI 1))) g P L M hv0 (by omega)) [] [modR K a (flat (takeC (u2 F 0 0 ((F 0 0) + (nI 1))))) g P L M] gX5_tick_X5_allArrive dX5_tick_11 0 0 (kk := ?_)
  show J G _ _ _ _ _ []
  refine J_aln C0 0 dX5_tick_14 (kk := ?_)
  refine J_callVd C0 (mX5_pours l K a (takeC (u2 F 0 0 ((F 0 0) + (nI 1)))) g P L M hv1 (by omega)) [] [modR K a (flat (poursC (takeC (u2 F 0 0 ((F 0 0) + (nI 1)))))) g P L M] gX5_tick_X5_pours dX5_tick_15 0 0 (kk := ?_)
  show J G _ _ _ _ _ [.int (sumS (poursC (takeC (u2 F 0 0 ((F 0 0) + (nI 1)))) 10) 12 - sumS ((takeC (u2 F 0 0 ((F 0 0) + (nI 1)))) 10) 12)]
  refine J_isn C0 [(1, .int (sumS (poursC (takeC (u2 F 0 0 ((F 0 0) + (nI 1)))) 10) 12 - sumS ((takeC (u2 F 0 0 ((F 0 0) + (nI 1)))) 10) 12)), (0, .ref (a 0))] dX5_tick_18 (kk := ?_)
  refine J_aln C0 1 dX5_tick_19 (kk := ?_)
  refine J_get C0 iX5 0 0 0 f7 dX5_tick_20 (kk := ?_)
  refine J_bi C0 7 dX5_tick_23 (kk := ?_)
  refine J_iald C0 0 1 283 dX5_tick_25 (by omega) (v := ((poursC (takeC (u2 F 0 0 ((F 0 0) + (nI 1))))) 1 2)) (hv := (flat_1 (poursC (takeC (u2 F 0 0 ((F 0 0) + (nI 1))))) (j := 7) (c := 2) (by omega) (by omega)).trans rfl) (kk := ?_)
  refine J_ifle C0 33 dX5_tick_26 (kt := fun c1 => ?_) (kf := fun c1 => ?_)
  · refine J_iln C0 0 dX5_tick_33 (kk := ?_)
    exact J_iret C0 hF dX5_tick_34 ⟨congrArg (fun z => some (Value.int z)) (by rw [tick_10, take_F10]), congrArg (fun z => [modR K a (flat z) g P L M]) (lends_no hv2 (by omega) c1).symm⟩
  · refine J_aln C0 1 dX5_tick_29 (kk := ?_)
    refine J_callVd C0 (mX5_lendsAll l K a (poursC (takeC (u2 F 0 0 ((F 0 0) + (nI 1))))) g P L M hv2 hB) [] [modR K a (flat (lendsC (poursC (takeC (u2 F 0 0 ((F 0 0) + (nI 1))))))) g P L M] gX5_tick_X5_lendsAll dX5_tick_30 0 0 (kk := ?_)
    show J G _ _ _ _ _ []
    refine J_iln C0 0 dX5_tick_33 (kk := ?_)
    exact J_iret C0 hF dX5_tick_34 ⟨congrArg (fun z => some (Value.int z)) (by rw [tick_10, take_F10]), rfl⟩

abbrev rmX5_ticks : Room := { frames := 7, cells := 0, slots := 0, locals := 154 }
set_option maxHeartbeats 4000000 in
set_option maxRecDepth 100000 in
theorem mX5_ticks (l : Launch) (K : KT) (a : Nat → Nat) (F : FF) (g P L : Nat → Int32) (M : FF) {B hn n : Nat} {N : Nat → Nat → Nat} (hv : InvN B F hn n N) {t : Nat} (ht : t ≤ 1000) (hB : B + 12 * t < 2 ^ 30) : Ct l K yX5_ticks wsX5_ticks rmX5_ticks [.ref (a 0), .int (nI t)] [modR K a (flat F) g P L M] (some (.int (sumS (ticksC t F 10) 12 - sumS (F 10) 12))) [modR K a (flat (ticksC t F)) g P L M] := by
  refine CtP_of (cc := cX5_ticks) (nL := 4) (rt := some .int) (own := RX5) (lv0 := [(0, .ref (a 0)), (1, .int (nI t))]) (by decide) rfl (Nat.le_of_ble_eq_true rfl) rfl rfl ?_
  intro G C0 hF _
  have lp : ∀ (k j B : Nat) (F1 : FF) (n : Nat) (N : Nat → Nat → Nat), InvN B F1 hn n N → B + 12 * k < 2 ^ 30 → j + k = t → ticksC k F1 = ticksC t F → J G [modR K a (flat F1) g P L M] [(3, .int (nI j)), (2, .int (sumS (F1 10) 12 - sumS (F 10) 12)), (1, .int (nI t)), (0, .ref (a 0))] 0 0 4 [] := by
    generalize hTF : ticksC t F = TF at hF ⊢
    generalize hSF : sumS (F 10) 12 = SF at hF ⊢
    clear hv hTF hSF hB
    intro k
    induction k with
    | zero =>
      intro j B F n N hv hB hq hT
      have hT : F = TF := hT
      refine J_iln C0 0 dX5_ticks_4 (kk := ?_)
      refine J_iln C0 2 dX5_ticks_5 (kk := ?_)
      refine J_icmpgeN C0 22 (by omega) (by omega) dX5_ticks_6 (kt := fun c1 => ?_) (kf := fun c1 => ?_)
      · refine J_iln C0 1 dX5_ticks_22 (kk := ?_)
        exact J_iret C0 hF dX5_ticks_23 ⟨by rw [← hT], congrArg (fun z => [modR K a (flat z) g P L M]) hT⟩
      · exfalso; omega
    | succ k ih =>
      intro j B F n N hv hB hq hT
      refine J_iln C0 0 dX5_ticks_4 (kk := ?_)
      refine J_iln C0 2 dX5_ticks_5 (kk := ?_)
      refine J_icmpgeN C0 22 (by omega) (by omega) dX5_ticks_6 (kt := fun c1 => ?_) (kf := fun c1 => ?_)
      · exfalso; omega
      · refine J_iln C0 1 dX5_ticks_9 (kk := ?_)
        refine J_aln C0 3 dX5_ticks_10 (kk := ?_)
        refine J_callVd C0 (mX5_tick l K a F g P L M hv (by omega)) [] [modR K a (flat (tickC F)) g P L M] gX5_ticks_X5_tick dX5_ticks_11 0 0 (kk := ?_)
        show J G _ _ _ _ _ [.int (sumS (tickC F 10) 12 - sumS (F 10) 12), .int (sumS (F 10) 12 - SF)]
        refine J_iadd C0 dX5_ticks_14 ?_
        refine J_isn C0 [(2, .int ((sumS (F 10) 12 - SF) + (sumS (tickC F 10) 12 - sumS (F 10) 12))), (3, .int (nI j)), (1, .int (nI t)), (0, .ref (a 0))] dX5_ticks_15 (kk := ?_)
        refine J_iincN C0 1 [(3, .int (nI (j + 1))), (2, .int ((sumS (F 10) 12 - SF) + (sumS (tickC F 10) 12 - sumS (F 10) 12))), (1, .int (nI t)), (0, .ref (a 0))] dX5_ticks_16 (kk := ?_)
        refine J_goto C0 4 dX5_ticks_19 (kk := ?_)
        obtain ⟨n2, N2, hv2⟩ := hv.tick (by omega)
        rw [tele]
        exact J_lv [0, 1, 2, 3] rfl (ih (j + 1) (B + 12) (tickC F) n2 N2 hv2 (by omega) (by omega) hT)
  refine J_ic C0 0 dX5_ticks_0 (kk := ?_)
  refine J_isn C0 [(2, .int (nI 0)), (0, .ref (a 0)), (1, .int (nI t))] dX5_ticks_1 (kk := ?_)
  refine J_ic C0 0 dX5_ticks_2 (kk := ?_)
  refine J_isn C0 [(3, .int (nI 0)), (2, .int (nI 0)), (0, .ref (a 0)), (1, .int (nI t))] dX5_ticks_3 (kk := ?_)
  have e0 : nI 0 = sumS (F 10) 12 - sumS (F 10) 12 := (Int32.sub_self _).symm
  refine J_lv [0, 1, 3, 2] (show lv_pick _ _ = [(3, .int (nI 0)), (2, .int (sumS (F 10) 12 - sumS (F 10) 12)), (1, .int (nI t)), (0, .ref (a 0))] by rw [← e0]; rfl) ?_
  exact lp t 0 B F n N hv (by omega) (by omega) rfl

/-! copies -/
def cpJ (f g : Nat → Int32) (at_ by_ j : Nat) : Nat → Int32 := fun i => if by_ ≤ i ∧ i < by_ + j then f (i - by_ + at_) else g i
abbrev cpR (f g : Nat → Int32) (at_ by_ : Nat) : Nat → Int32 := cpJ f g at_ by_ 283
theorem cpJ_up {f g : Nat → Int32} {at_ by_ j : Nat} : upd (cpJ f g at_ by_ j) (by_ + j) (f (at_ + j)) = cpJ f g at_ by_ (j + 1) := by
  funext i
  by_cases c : i = by_ + j
  · subst c
    rw [upd_s]
    unfold cpJ
    rw [if_pos (by omega)]
    congr 1
    omega
  · rw [upd_n c]
    unfold cpJ
    by_cases d : by_ ≤ i ∧ i < by_ + j
    · rw [if_pos d, if_pos (by omega)]
    · rw [if_neg d, if_neg (by omega)]
theorem cpJ_0 (f g : Nat → Int32) (at_ by_ : Nat) : cpJ f g at_ by_ 0 = g := by
  funext i
  unfold cpJ
  rw [if_neg (by omega)]
abbrev rmX5_copies : Room := { frames := 0, cells := 0, slots := 0, locals := 0 }
set_option maxHeartbeats 4000000 in
set_option maxRecDepth 100000 in
theorem mX5_copies (l : Launch) (K : KT) {blk : va_W} {k1 k2 a1 a2 n1 n2 at_ by_ : Nat} {f g : Nat → Int32} (hk1 : blk[k1]? = some (a1, .inl (kI K, n1, .inl f))) (hk2 : blk[k2]? = some (a2, .inl (kI K, n2, .inl g))) (hne : k1 ≠ k2) (h1 : at_ + 283 ≤ n1) (h2 : by_ + 283 ≤ n2) (hn1 : n1 < 10000) (hn2 : n2 < 10000) : Ct l K yX5_copies wsX5_copies rmX5_copies [.ref a1, .int (nI at_), .ref a2, .int (nI by_)] [blk] none [blk.set k2 (a2, .inl (kI K, n2, .inl (cpR f g at_ by_)))] := by
  refine CtP_of (cc := cX5_copies) (nL := 5) (rt := none) (own := RX5) (lv0 := [(0, .ref a1), (1, .int (nI at_)), (2, .ref a2), (3, .int (nI by_))]) (by decide) rfl (Nat.le_of_ble_eq_true rfl) rfl rfl ?_
  intro G C0 hF _
  have hlen : k2 < blk.length := (List.getElem?_eq_some_iff.mp hk2).1
  have lp : ∀ (q j : Nat), j + q = 283 → J G [blk.set k2 (a2, .inl (kI K, n2, .inl (cpJ f g at_ by_ j)))] [(4, .int (nI j)), (0, .ref a1), (1, .int (nI at_)), (2, .ref a2), (3, .int (nI by_))] 0 0 3 [] := by
    intro q
    induction q with
    | zero =>
      intro j hq
      refine J_il C0 0 dX5_copies_3 (kk := ?_)
      refine J_si C0 283 dX5_copies_5 (kk := ?_)
      refine J_icmpgeN C0 29 (by omega) (by omega) dX5_copies_8 (kt := fun c1 => ?_) (kf := fun c1 => ?_)
      · exact J_vret C0 hF dX5_copies_29 ⟨rfl, by rw [show j = 283 by omega]⟩
      · exfalso; omega
    | succ q ih =>
      intro j hq
      refine J_il C0 0 dX5_copies_3 (kk := ?_)
      refine J_si C0 283 dX5_copies_5 (kk := ?_)
      refine J_icmpgeN C0 29 (by omega) (by omega) dX5_copies_8 (kt := fun c1 => ?_) (kf := fun c1 => ?_)
      · exfalso; omega
      · refine J_aln C0 3 dX5_copies_11 (kk := ?_)
        refine J_iln C0 4 dX5_copies_12 (kk := ?_)
        refine J_il C0 0 dX5_copies_13 (kk := ?_)
        refine J_iaddN C0 dX5_copies_15 ?_
        refine J_aln C0 1 dX5_copies_16 (kk := ?_)
        refine J_iln C0 2 dX5_copies_17 (kk := ?_)
        refine J_il C0 0 dX5_copies_18 (kk := ?_)
        refine J_iaddN C0 dX5_copies_20 ?_
        refine J_iald C0 0 k1 n1 dX5_copies_21 (by omega) (hn := by omega) (hk := by rw [List.getElem?_set_ne (Ne.symm hne)]; exact hk1) (kk := ?_)
        refine J_iast C0 0 k2 n2 [blk.set k2 (a2, .inl (kI K, n2, .inl (cpJ f g at_ by_ (j + 1))))] dX5_copies_22 (by omega) (hn := by omega) (hk := by rw [List.getElem?_set_self hlen]) (hb2 := by
          show [(blk.set k2 (a2, .inl (kI K, n2, .inl (cpJ f g at_ by_ j)))).set k2 (a2, .inl (kI K, n2, .inl (upd (cpJ f g at_ by_ j) (by_ + j) (f (at_ + j)))))] = _
          rw [List.set_set, cpJ_up]) (kk := ?_)
        refine J_iincN C0 0 [(4, .int (nI (j + 1))), (0, .ref a1), (1, .int (nI at_)), (2, .ref a2), (3, .int (nI by_))] dX5_copies_23 (kk := ?_)
        refine J_goto C0 3 dX5_copies_26 (kk := ?_)
        exact ih (j + 1) (by omega)
  have h0 := lp 283 0 (by omega)
  rw [cpJ_0] at h0
  have e0 : blk.set k2 (a2, .inl (kI K, n2, .inl g)) = blk := by
    refine List.ext_getElem? fun i => ?_
    by_cases c : i = k2
    · subst c; rw [List.getElem?_set_self hlen, hk2]
    · rw [List.getElem?_set_ne (Ne.symm c)]
  rw [e0] at h0
  refine J_ic C0 0 dX5_copies_0 (kk := ?_)
  refine J_is C0 [(4, .int (nI 0)), (0, .ref a1), (1, .int (nI at_)), (2, .ref a2), (3, .int (nI by_))] dX5_copies_1 (kk := ?_)
  exact h0
theorem cp_SP (l : Launch) (K : KT) (a : Nat → Nat) (F : FF) (g P L : Nat → Int32) (M : FF) {k : Nat} (hk : k < 6) : Ct l K yX5_copies wsX5_copies rmX5_copies [.ref (a 1), .int (nI 0), .ref (a 3), .int (nI (283 * k))] [modR K a (flat F) g P L M] none [modR K a (flat F) g (cpR (flat F) P 0 (283 * k)) L M] := mX5_copies l K (k1 := 1) (k2 := 3) rfl rfl (by decide) (by decide) (by omega) (by decide) (by decide)
theorem cp_SL (l : Launch) (K : KT) (a : Nat → Nat) (F : FF) (g P L : Nat → Int32) (M : FF) {k : Nat} (hk : k < 2) : Ct l K yX5_copies wsX5_copies rmX5_copies [.ref (a 1), .int (nI 0), .ref (a 4), .int (nI (283 * k))] [modR K a (flat F) g P L M] none [modR K a (flat F) g P (cpR (flat F) L 0 (283 * k)) M] := mX5_copies l K (k1 := 1) (k2 := 4) rfl rfl (by decide) (by decide) (by omega) (by decide) (by decide)
theorem cp_SG (l : Launch) (K : KT) (a : Nat → Nat) (F : FF) (g P L : Nat → Int32) (M : FF) : Ct l K yX5_copies wsX5_copies rmX5_copies [.ref (a 1), .int (nI 0), .ref (a 2), .int (nI 0)] [modR K a (flat F) g P L M] none [modR K a (flat F) (cpR (flat F) g 0 0) P L M] := mX5_copies l K (k1 := 1) (k2 := 2) rfl rfl (by decide) (by decide) (by decide) (by decide) (by decide)
theorem cp_row {f : Nat → Int32} {F D : FF} {o : Nat} (h : ∀ j, j < 283 → f (o + j) = flat D j) : cpR f (flat F) o 0 = flat D := by
  funext i
  unfold cpR cpJ
  by_cases c : i < 283
  · rw [if_pos (by omega), ← h i c]
    congr 1
    omega
  · rw [if_neg (by omega), flat_b _ (by omega), flat_b _ (by omega)]
theorem cp_LS (l : Launch) (K : KT) (a : Nat → Nat) (F : FF) (g P L : Nat → Int32) (M : FF) {k : Nat} (hk : k < 2) {D : FF} (hD : ∀ j, j < 283 → L (283 * k + j) = flat D j) : Ct l K yX5_copies wsX5_copies rmX5_copies [.ref (a 4), .int (nI (283 * k)), .ref (a 1), .int (nI 0)] [modR K a (flat F) g P L M] none [modR K a (flat D) g P L M] := by
  have h := mX5_copies l K (blk := modR K a (flat F) g P L M) (k1 := 4) (k2 := 1) (at_ := 283 * k) (by_ := 0) rfl rfl (by decide) (by omega) (by decide) (by decide) (by decide)
  rw [cp_row hD] at h
  exact h
theorem cp_PS (l : Launch) (K : KT) (a : Nat → Nat) (F : FF) (g P L : Nat → Int32) (M : FF) {k : Nat} (hk : k < 6) {D : FF} (hD : ∀ j, j < 283 → P (283 * k + j) = flat D j) : Ct l K yX5_copies wsX5_copies rmX5_copies [.ref (a 3), .int (nI (283 * k)), .ref (a 1), .int (nI 0)] [modR K a (flat F) g P L M] none [modR K a (flat D) g P L M] := by
  have h := mX5_copies l K (blk := modR K a (flat F) g P L M) (k1 := 3) (k2 := 1) (at_ := 283 * k) (by_ := 0) rfl rfl (by decide) (by omega) (by decide) (by decide) (by decide)
  rw [cp_row hD] at h
  exact h
theorem cp_G0 (F : FF) (g : Nat → Int32) : ∀ j, j < 283 → cpR (flat F) g 0 0 (0 + j) = flat F j := by
  intro j hj
  unfold cpR cpJ
  rw [if_pos (by omega)]
  congr 1
  omega
theorem cp_GS (l : Launch) (K : KT) (a : Nat → Nat) (F : FF) (g P L : Nat → Int32) (M : FF) {D : FF} : Ct l K yX5_copies wsX5_copies rmX5_copies [.ref (a 2), .int (nI 0), .ref (a 1), .int (nI 0)] [modR K a (flat F) (cpR (flat D) g 0 0) P L M] none [modR K a (flat D) (cpR (flat D) g 0 0) P L M] := by
  have h := mX5_copies l K (blk := modR K a (flat F) (cpR (flat D) g 0 0) P L M) (k1 := 2) (k2 := 1) (at_ := 0) (by_ := 0) rfl rfl (by decide) (by decide) (by decide) (by decide) (by decide)
  rw [cp_row (cp_G0 D g)] at h
  exact h
def shP (P : Nat → Int32) (j : Nat) : Nat → Int32 := fun i => if i < j then P (i + 283) else P i
theorem shP_up {P : Nat → Int32} {j : Nat} : upd (shP P j) j (shP P j (j + 283)) = shP P (j + 1) := by
  funext i
  by_cases c : i = j
  · subst c
    rw [upd_s]
    unfold shP
    rw [if_neg (by omega), if_pos (by omega)]
  · rw [upd_n c]
    unfold shP
    by_cases d : i < j
    · rw [if_pos d, if_pos (by omega)]
    · rw [if_neg d, if_neg (by omega)]
theorem shP_0 (P : Nat → Int32) : shP P 0 = P := by
  funext i
  unfold shP
  rw [if_neg (by omega)]
def pSv (k : Nat) (P f : Nat → Int32) : Nat → Int32 := if k < 6 then cpR f P 0 (283 * k) else cpR f (shP P 1415) 0 (283 * 5)
abbrev rmX5_saves : Room := { frames := 1, cells := 0, slots := 0, locals := 24 }
set_option maxHeartbeats 4000000 in
set_option maxRecDepth 100000 in
theorem mX5_saves_lt (l : Launch) (K : KT) (a : Nat → Nat) (F : FF) (g P L : Nat → Int32) (M : FF) {k : Nat} (h6 : k < 6) (hk : M 0 0 = nI k) : Ct l K yX5_saves wsX5_saves rmX5_saves [.ref (a 0)] [modR K a (flat F) g P L M] none [modR K a (flat F) g (pSv k P (flat F)) L (pushT k M)] := by
  refine CtP_of (cc := cX5_saves) (nL := 2) (rt := none) (own := RX5) (lv0 := [(0, .ref (a 0))]) (by decide) rfl (Nat.le_of_ble_eq_true rfl) rfl rfl ?_
  intro G C0 hF _
  have f32 : Cond.fieldLink RX5 32 "CorkPermitsModel" "saved" "I" ∈ wsX5_saves := by decide +kernel
  have iX5 : ∀ w ∈ u_ws RX5 TX5 13, w ∈ wsX5_saves := by decide +kernel
  have f7 : Cond.fieldLink RX5 7 "CorkPermitsModel" "s" "[I" ∈ wsX5_saves := by decide +kernel
  have f16 : Cond.fieldLink RX5 16 "CorkPermitsModel" "past" "[I" ∈ wsX5_saves := by decide +kernel
  refine J_aln C0 0 dX5_saves_0 (kk := ?_)
  refine J_get C0 iX5 0 0 3 f32 dX5_saves_1 (v := .int (nI k)) (hv := congrArg (fun z => some (Value.int z)) hk) (kk := ?_)
  refine J_bi C0 6 dX5_saves_4 (kk := ?_)
  refine J_icmpneN C0 50 (by omega) (by omega) dX5_saves_6 (kt := fun c1 => ?_) (kf := fun c1 => ?_)
  · refine J_aln C0 0 dX5_saves_50 (kk := ?_)
    refine J_get C0 iX5 0 0 0 f7 dX5_saves_51 (kk := ?_)
    refine J_ic C0 0 dX5_saves_54 (kk := ?_)
    refine J_aln C0 0 dX5_saves_55 (kk := ?_)
    refine J_get C0 iX5 0 0 2 f16 dX5_saves_56 (kk := ?_)
    refine J_si C0 283 dX5_saves_59 (kk := ?_)
    refine J_aln C0 0 dX5_saves_62 (kk := ?_)
    refine J_get C0 iX5 0 0 3 f32 dX5_saves_63 (v := .int (nI k)) (hv := congrArg (fun z => some (Value.int z)) hk) (kk := ?_)
    refine J_imulN C0 dX5_saves_66 ?_
    refine J_callSd C0 (cp_SP l K a F g P L M (k := k) (by omega)) [] [modR K a (flat F) g (cpR (flat F) P 0 (283 * k)) L M] gX5_saves_X5_copies dX5_saves_67 4 (kk := ?_)
    show J G _ _ _ _ _ []
    refine J_aln C0 0 dX5_saves_70 (kk := ?_)
    refine J_dup C0 dX5_saves_71 (kk := ?_)
    refine J_get C0 iX5 0 0 3 f32 dX5_saves_72 (v := .int (nI k)) (hv := congrArg (fun z => some (Value.int z)) hk) (kk := ?_)
    refine J_ic C0 1 dX5_saves_75 (kk := ?_)
    refine J_iaddN C0 dX5_saves_76 ?_
    refine J_put C0 iX5 tyX5_ok nmX5 0 0 3 [modR K a (flat F) g (cpR (flat F) P 0 (283 * k)) L (u2 M 0 0 (nI (k + 1)))] f32 dX5_saves_77 (hd := rfl) (kk := ?_)
    exact J_vret C0 hF dX5_saves_80 ⟨rfl, by unfold pSv pushT; rw [if_pos h6, if_pos h6]⟩
  · exfalso; omega

set_option maxHeartbeats 4000000 in
set_option maxRecDepth 100000 in
theorem mX5_saves_6 (l : Launch) (K : KT) (a : Nat → Nat) (F : FF) (g P L : Nat → Int32) (M : FF) (hk : M 0 0 = nI 6) : Ct l K yX5_saves wsX5_saves rmX5_saves [.ref (a 0)] [modR K a (flat F) g P L M] none [modR K a (flat F) g (pSv 6 P (flat F)) L (pushT 6 M)] := by
  refine CtP_of (cc := cX5_saves) (nL := 2) (rt := none) (own := RX5) (lv0 := [(0, .ref (a 0))]) (by decide) rfl (Nat.le_of_ble_eq_true rfl) rfl rfl ?_
  intro G C0 hF _
  have f32 : Cond.fieldLink RX5 32 "CorkPermitsModel" "saved" "I" ∈ wsX5_saves := by decide +kernel
  have iX5 : ∀ w ∈ u_ws RX5 TX5 13, w ∈ wsX5_saves := by decide +kernel
  have f7 : Cond.fieldLink RX5 7 "CorkPermitsModel" "s" "[I" ∈ wsX5_saves := by decide +kernel
  have f16 : Cond.fieldLink RX5 16 "CorkPermitsModel" "past" "[I" ∈ wsX5_saves := by decide +kernel
  have lp : ∀ (q j : Nat), j + q = 1415 → J G [modR K a (flat F) g (shP P j) L M] [(1, .int (nI j)), (0, .ref (a 0))] 0 0 11 [] := by
    intro q
    induction q with
    | zero =>
      intro j hq
      refine J_iln C0 0 dX5_saves_11 (kk := ?_)
      refine J_si C0 1415 dX5_saves_12 (kk := ?_)
      refine J_icmpgeN C0 40 (by omega) (by omega) dX5_saves_15 (kt := fun c1 => ?_) (kf := fun c1 => ?_)
      · rw [show shP P j = shP P 1415 by rw [show j = 1415 by omega]]
        refine J_aln C0 1 dX5_saves_40 (kk := ?_)
        refine J_dup C0 dX5_saves_41 (kk := ?_)
        refine J_get C0 iX5 0 0 3 f32 dX5_saves_42 (v := .int (nI 6)) (hv := congrArg (fun z => some (Value.int z)) hk) (kk := ?_)
        refine J_ic C0 1 dX5_saves_45 (kk := ?_)
        refine J_isubN C0 (by omega) dX5_saves_46 ?_
        refine J_put C0 iX5 tyX5_ok nmX5 0 0 3 [modR K a (flat F) g (shP P 1415) L (u2 M 0 0 (nI 5))] f32 dX5_saves_47 (hd := rfl) (kk := ?_)
        refine J_aln C0 1 dX5_saves_50 (kk := ?_)
        refine J_get C0 iX5 0 0 0 f7 dX5_saves_51 (kk := ?_)
        refine J_ic C0 0 dX5_saves_54 (kk := ?_)
        refine J_aln C0 1 dX5_saves_55 (kk := ?_)
        refine J_get C0 iX5 0 0 2 f16 dX5_saves_56 (kk := ?_)
        refine J_si C0 283 dX5_saves_59 (kk := ?_)
        refine J_aln C0 1 dX5_saves_62 (kk := ?_)
        refine J_get C0 iX5 0 0 3 f32 dX5_saves_63 (v := .int (nI 5)) (hv := rfl) (kk := ?_)
        refine J_imulN C0 dX5_saves_66 ?_
        refine J_callSd C0 (cp_SP l K a F g (shP P 1415) L (u2 M 0 0 (nI 5)) (k := 5) (by omega)) [] [modR K a (flat F) g (cpR (flat F) (shP P 1415) 0 (283 * 5)) L (u2 M 0 0 (nI 5))] gX5_saves_X5_copies dX5_saves_67 4 (kk := ?_)
        show J G _ _ _ _ _ []
        refine J_aln C0 1 dX5_saves_70 (kk := ?_)
        refine J_dup C0 dX5_saves_71 (kk := ?_)
        refine J_get C0 iX5 0 0 3 f32 dX5_saves_72 (v := .int (nI 5)) (hv := rfl) (kk := ?_)
        refine J_ic C0 1 dX5_saves_75 (kk := ?_)
        refine J_iaddN C0 dX5_saves_76 ?_
        refine J_put C0 iX5 tyX5_ok nmX5 0 0 3 [modR K a (flat F) g (cpR (flat F) (shP P 1415) 0 (283 * 5)) L (u2 (u2 M 0 0 (nI 5)) 0 0 (nI 6))] f32 dX5_saves_77 (hd := rfl) (kk := ?_)
        exact J_vret C0 hF dX5_saves_80 ⟨rfl, rfl⟩
      · exfalso; omega
    | succ q ih =>
      intro j hq
      refine J_iln C0 0 dX5_saves_11 (kk := ?_)
      refine J_si C0 1415 dX5_saves_12 (kk := ?_)
      refine J_icmpgeN C0 40 (by omega) (by omega) dX5_saves_15 (kt := fun c1 => ?_) (kf := fun c1 => ?_)
      · exfalso; omega
      · refine J_aln C0 1 dX5_saves_18 (kk := ?_)
        refine J_get C0 iX5 0 0 2 f16 dX5_saves_19 (kk := ?_)
        refine J_iln C0 0 dX5_saves_22 (kk := ?_)
        refine J_aln C0 1 dX5_saves_23 (kk := ?_)
        refine J_get C0 iX5 0 0 2 f16 dX5_saves_24 (kk := ?_)
        refine J_iln C0 0 dX5_saves_27 (kk := ?_)
        refine J_si C0 283 dX5_saves_28 (kk := ?_)
        refine J_iaddN C0 dX5_saves_31 ?_
        refine J_iald C0 0 3 1698 dX5_saves_32 (by omega) (kk := ?_)
        refine J_iast C0 0 3 1698 ([modR K a (flat F) g (shP P (j + 1)) L M]) dX5_saves_33 (by omega) (hb2 := by exact congrArg (fun z => [modR K a (flat F) g z L M]) shP_up) (kk := ?_)
        refine J_iincN C0 0 [(1, .int (nI (j + 1))), (0, .ref (a 0))] dX5_saves_34 (kk := ?_)
        refine J_goto C0 11 dX5_saves_37 (kk := ?_)
        exact ih (j + 1) (by omega)
  refine J_aln C0 0 dX5_saves_0 (kk := ?_)
  refine J_get C0 iX5 0 0 3 f32 dX5_saves_1 (v := .int (nI 6)) (hv := congrArg (fun z => some (Value.int z)) hk) (kk := ?_)
  refine J_bi C0 6 dX5_saves_4 (kk := ?_)
  refine J_icmpneN C0 50 (by omega) (by omega) dX5_saves_6 (kt := fun c1 => ?_) (kf := fun c1 => ?_)
  · exfalso; omega
  · refine J_ic C0 0 dX5_saves_9 (kk := ?_)
    refine J_isn C0 [(1, .int (nI 0)), (0, .ref (a 0))] dX5_saves_10 (kk := ?_)
    have h0 := lp 1415 0 (by omega)
    rw [shP_0] at h0
    exact J_lv [0, 1] rfl h0

theorem mX5_saves (l : Launch) (K : KT) (a : Nat → Nat) (F : FF) (g P L : Nat → Int32) (M : FF) {k : Nat} (h6 : k ≤ 6) (hk : M 0 0 = nI k) : Ct l K yX5_saves wsX5_saves rmX5_saves [.ref (a 0)] [modR K a (flat F) g P L M] none [modR K a (flat F) g (pSv k P (flat F)) L (pushT k M)] := by
  by_cases c : k < 6
  · exact mX5_saves_lt l K a F g P L M c hk
  · have e : k = 6 := by omega
    subst e
    exact mX5_saves_6 l K a F g P L M hk
