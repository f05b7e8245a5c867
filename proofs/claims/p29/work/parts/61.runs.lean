/-! the state between acts; runs(): does what is typed -/
theorem aw_cg {M M' : FF} (h : M' 2 = M 2) : ∀ i, awAt M' i = awAt M i
  | 0 => rfl
  | i + 1 => by
    show awS (awAt M' i) (M' 2 i) = awS (awAt M i) (M 2 i)
    rw [aw_cg h i, h]
theorem pushT_2 (k : Nat) (M : FF) {i : Nat} (h : i ≠ 0) : pushT k M i = M i := by
  unfold pushT
  split
  · exact u2_i h
  · rw [u2_i h, u2_i h]
theorem pushT_0 (k : Nat) (M : FF) {j : Nat} (h : j ≠ 0) : pushT k M 0 j = M 0 j := by
  unfold pushT
  split <;> simp [u2_12, h]
theorem pushT_00 {k : Nat} (M : FF) : pushT k M 0 0 = nI (pushN k) := by
  unfold pushT pushN
  split
  · exact u2_s M 0 0 _
  · exact u2_s _ 0 0 _
theorem pushN_le (k : Nat) : pushN k ≤ 6 := by unfold pushN; split <;> omega
theorem up_s {α : Type} (f : Nat → α) (k : Nat) (v : α) : va_up f k v k = v := by simp [va_up]
theorem up_n {α : Type} {f : Nat → α} {k j : Nat} {v : α} (h : j ≠ k) : va_up f k v j = f j := by simp [va_up, h]
/-- the state: i acts were done at most, k states are saved, nt characters stand in the buffer -/
def SR (i k nt : Nat) (F : FF) (D S : Nat → FF) (T : FF) : Prop := IY i F ∧ (k ≤ 6 ∧ T 0 0 = nI k) ∧ (nt ≤ 60 ∧ T 0 1 = nI nt) ∧ (∀ j, j < k → IY i (S j)) ∧ T 1 0 = nI 1 ∧ IY i (D 0)
/-- an act's end: it threw and changed nothing, or it saved what was before -/
def ActP (K : KT) (b nA aA : Nat → Nat) (d : Nat → Nat → Nat) (i k : Nat) (F : FF) (D : Nat → FF) (r : Option Value) (w : List va_W) : Prop := r = some (.int (nI 1)) ∧ ∃ (e' : Nat → Nat → Nat) (F' Ga' : FF) (S' : Nat → FF) (T' : FF) (k' nt' : Nat), w = corkW K b nA aA d e' F' Ga' D S' T' ∧ SR (i + 1) k' nt' F' D S' T' ∧ ((k' = k ∧ F' = F) ∨ (k' = pushN k ∧ (k < 6 → S' k = F)))
section SR
variable {K : KT} {b nA aA : Nat → Nat} {d e : Nat → Nat → Nat} {i k nt : Nat} {F F' Ga : FF} {D S : Nat → FF} {T T' : FF}
theorem SR.thrown (h : SR i k nt F D S T) {nt' : Nat} (h0 : T' 0 0 = T 0 0) (h60 : nt' ≤ 60) (h1 : T' 0 1 = nI nt') (h2 : T' 1 = T 1) : ActP K b nA aA d i k F D (some (.int (nI 1))) (corkW K b nA aA d e F Ga D S T') := by
  obtain ⟨a1, ⟨a2, a3⟩, a4, a5, a6, a7⟩ := h
  exact ⟨rfl, e, F, Ga, S, T', k, nt', rfl, ⟨a1.mono (by omega), ⟨a2, h0.trans a3⟩, ⟨h60, h1⟩, fun j hj => (a5 j hj).mono (by omega), by rw [h2]; exact a6, a7.mono (by omega)⟩, Or.inl ⟨rfl, rfl⟩⟩
theorem SR.done (h : SR i k nt F D S T) (hF : IY (i + 1) F') {nt' : Nat} (h0 : T' 0 0 = nI (pushN k)) (h60 : nt' ≤ 60) (h1 : T' 0 1 = nI nt') (h2 : T' 1 = T 1) : ActP K b nA aA d i k F D (some (.int (nI 1))) (corkW K b nA aA d (pushE k e) F' Ga D (pushS k S F) T') := by
  obtain ⟨a1, ⟨a2, a3⟩, a4, a5, a6, a7⟩ := h
  refine ⟨rfl, _, F', Ga, _, T', pushN k, nt', rfl, ⟨hF, ⟨pushN_le k, h0⟩, ⟨h60, h1⟩, fun j hj => ?_, by rw [h2]; exact a6, a7.mono (by omega)⟩, Or.inr ⟨rfl, fun h6 => ?_⟩⟩
  · unfold pushN at hj
    unfold pushS
    by_cases c : k < 6
    · rw [if_pos c] at hj ⊢
      by_cases q : j = k
      · rw [q, up_s]; exact a1.mono (by omega)
      · rw [up_n q]; exact (a5 j (by omega)).mono (by omega)
    · rw [if_neg c] at hj ⊢
      by_cases q : j = 5
      · rw [q, up_s]; exact a1.mono (by omega)
      · rw [up_n q, show rotA S j = S (j + 1) from if_pos (by omega)]
        exact (a5 (j + 1) (by omega)).mono (by omega)
  · unfold pushS
    rw [if_pos h6, up_s]
theorem SR.done0 (h : SR i k nt F D S T) (hF : IY (i + 1) F') : ActP K b nA aA d i k F D (some (.int (nI 1))) (corkW K b nA aA d (pushE k e) F' Ga D (pushS k S F) (pushT k T)) :=
  h.done hF (pushT_00 T) h.2.2.1.1 ((pushT_0 k T (by decide)).trans h.2.2.1.2) (pushT_2 k T (by decide))
theorem SR.thrown0 (h : SR i k nt F D S T) : ActP K b nA aA d i k F D (some (.int (nI 1))) (corkW K b nA aA d e F Ga D S T) :=
  h.thrown rfl h.2.2.1.1 h.2.2.1.2 rfl
end SR
abbrev rmL_runs : Room := { frames := 11, cells := 1, slots := 6, locals := 340 }
set_option maxHeartbeats 4000000 in
set_option maxRecDepth 100000 in
theorem mL_runs (l : Launch) (hst : l.stackTraces = false) (K : KT) (b nA aA : Nat → Nat) (d e : Nat → Nat → Nat) (F Ga : FF) (D S : Nat → FF) (T : FF) (tl tg : Nat) {i k nt : Nat} (hR : SR i k nt F D S T) (hi : i ≤ 50) (x : Int32) : CtWP l K yL_runs wsL_runs rmL_runs [.ref (b 0), .int x] (corkW K b nA aA d e F Ga D S T) (ActP K b nA aA d i k F D) tl tg := by
  refine CtWP_of (cc := cL_runs) (nL := 7) (rt := some .boolean) (own := RL) (lv0 := [(0, .ref (b 0)), (1, .int x)]) (by decide) rfl (Nat.le_of_ble_eq_true rfl) rfl rfl ?_
  intro G C0 hF hX
  obtain ⟨hY, ⟨k6, ek⟩, ⟨nt60, ent⟩, hS, hT1, hD⟩ := id hR
  have hSh := hY.sh
  refine J_aln C0 0 dL_runs_0 (kk := ?_)
  refine J_bi C0 11 dL_runs_1 (kk := ?_)
  refine J_callVz C0 (mX4_count l K b nA aA d e F Ga D S T (w := 11) (by decide)) gL_runs_X4_count dL_runs_3 1 (kk := ?_)
  show J G _ _ _ _ _ [.int (T 0 0)]
  refine J_int C0 ek ?_
  refine J_isn C0 [(2, .int (nI k)), (0, .ref (b 0)), (1, .int x)] dL_runs_6 (kk := ?_)
  refine J_aln C0 1 dL_runs_7 (kk := ?_)
  refine J_iln C0 2 dL_runs_8 (kk := ?_)
  refine J_callWP C0 hX (mL_types l K b nA aA d e F Ga D S T tl tg ent nt60 x) [] gL_runs_L_types dL_runs_9 2 (kk := fun rv w1 h1 => ?_)
  obtain ⟨rfl, T1, m, hm, hT, rfl⟩ := h1
  show J G (corkW K b nA aA d e F Ga D S T1) _ _ _ _ [.int (nI 1)]
  refine J_isn C0 [(3, .int (nI 1)), (2, .int (nI k)), (0, .ref (b 0)), (1, .int x)] dL_runs_12 (kk := ?_)
  refine J_aln C0 2 dL_runs_13 (kk := ?_)
  refine J_callVz C0 (mX4_firstError l K b nA aA d e F Ga D S T1 hT.1 (by omega)) gL_runs_X4_firstError dL_runs_14 0 (kk := ?_)
  show J G _ _ _ _ _ [.int (nI (fwGo T1 m 0))]
  refine J_is C0 [(4, .int (nI (fwGo T1 m 0))), (3, .int (nI 1)), (2, .int (nI k)), (0, .ref (b 0)), (1, .int x)] dL_runs_17 (kk := ?_)
  have hfw := fw_le T1 m 0
  by_cases hday : ¬ m = 0 ∧ awAt T1 m = 0
  · refine J_aln C0 3 dL_runs_19 (kk := ?_)
    refine J_callWHd C0 hX (k_run l K b nA aA d e F Ga D S T1 tl tg k6 (hT.2.1.trans ek) hSh hT.1 (by omega) hday) gL_runs_L_run dL_runs_20 1 (kk := ?_)
    show J G _ _ _ _ _ [.int (nI (runR (pushT k T1) m (m + 1) 0 0 F).1)]
    refine J_is C0 [(5, .int (nI (runR (pushT k T1) m (m + 1) 0 0 F).1)), (4, .int (nI (fwGo T1 m 0))), (3, .int (nI 1)), (2, .int (nI k)), (0, .ref (b 0)), (1, .int x)] dL_runs_23 (kk := ?_)
    have hd2 : awAt (pushT k T1) m = 0 := by rw [aw_cg (pushT_2 k T1 (by decide))]; exact hday.2
    obtain ⟨hY2, hdn⟩ := hY.run hi hm hd2
    have hfm : fwGo T1 m 0 = m := fw_day hday.2 m 0 (Nat.zero_add _)
    generalize hr : runR (pushT k T1) m (m + 1) 0 0 F = rr at hY2 hdn ⊢
    obtain ⟨dn, F2⟩ := rr
    have hY2 : IY (i + 1) F2 := hY2
    have hdn : 2 * dn ≤ m := hdn
    show J G (corkW K b nA aA d (pushE k e) F2 Ga D (pushS k S F) (u2 (pushT k T1) 0 1 (nI 0))) [(5, .int (nI dn)), (4, .int (nI (fwGo T1 m 0))), (3, .int (nI 1)), (2, .int (nI k)), (0, .ref (b 0)), (1, .int x)] _ _ _ []
    refine J_aln C0 4 dL_runs_25 (kk := ?_)
    refine J_callVz C0 (mX4_clearBuffer l K b nA aA d (pushE k e) F2 Ga D (pushS k S F) (u2 (pushT k T1) 0 1 (nI 0))) gL_runs_X4_clearBuffer dL_runs_26 0 (kk := ?_)
    show J G _ _ _ _ _ [.int (nI 0)]
    refine J_is C0 [(6, .int (nI 0)), (5, .int (nI dn)), (4, .int (nI (fwGo T1 m 0))), (3, .int (nI 1)), (2, .int (nI k)), (0, .ref (b 0)), (1, .int x)] dL_runs_29 (kk := ?_)
    have e00 : u2 (u2 (pushT k T1) 0 1 (nI 0)) 0 1 (nI 0) 0 0 = nI (pushN k) := by rw [u2_12, if_neg (by decide), u2_12, if_neg (by decide)]; exact pushT_00 T1
    have e01 : u2 (u2 (pushT k T1) 0 1 (nI 0)) 0 1 (nI 0) 0 1 = nI 0 := u2_s _ _ _ _
    have e1 : u2 (u2 (pushT k T1) 0 1 (nI 0)) 0 1 (nI 0) 1 = T 1 := by rw [u2_i (by decide), u2_i (by decide), pushT_2 k T1 (by decide)]; exact hT.2.2
    generalize u2 (u2 (pushT k T1) 0 1 (nI 0)) 0 1 (nI 0) = T2 at e00 e01 e1 ⊢
    refine J_iln C0 3 dL_runs_31 (kk := ?_)
    refine J_ifeq C0 108 dL_runs_32 (kt := fun c => absurd c (by decide)) (kf := fun _ => ?_)
    refine J_il C0 1 dL_runs_35 (kk := ?_)
    refine J_biv C0 (-102) dL_runs_37 (kk := ?_)
    refine J_icmpne C0 62 dL_runs_39 (kt := fun _ => ?_) (kf := fun c => absurd c (fun z => nI_pos (n := dn) (by omega) (by rw [z]; decide)))
    refine J_il C0 1 dL_runs_62 (kk := ?_)
    refine J_iflt C0 108 dL_runs_64 (kt := fun c => absurd c (nI_pos (n := dn) (by omega))) (kf := fun _ => ?_)
    refine J_il C0 0 dL_runs_67 (kk := ?_)
    refine J_ifne C0 108 dL_runs_69 (kt := fun c => absurd (by decide) c) (kf := fun _ => ?_)
    refine J_ic C0 2 dL_runs_72 (kk := ?_)
    refine J_il C0 1 dL_runs_73 (kk := ?_)
    refine J_imulN C0 dL_runs_75 (kk := ?_)
    refine J_il C0 2 dL_runs_76 (kk := ?_)
    refine J_icmpgtN C0 108 (by omega) (by omega) dL_runs_78 (kt := fun c => False.elim (by omega)) (kf := fun _ => ?_)
    refine J_aln C0 5 dL_runs_81 (kk := ?_)
    refine J_bi C0 11 dL_runs_82 (kk := ?_)
    refine J_callVz C0 (mX4_count l K b nA aA d (pushE k e) F2 Ga D (pushS k S F) T2 (w := 11) (by decide)) gL_runs_X4_count dL_runs_84 1 (kk := ?_)
    show J G _ _ _ _ _ [.int (T2 0 0)]
    refine J_int C0 e00 ?_
    refine J_iln C0 4 dL_runs_87 (kk := ?_)
    refine J_bi C0 6 dL_runs_88 (kk := ?_)
    have hpl := pushN_le k
    by_cases c6 : k < 6
    · have hpn : pushN k = k + 1 := if_pos c6
      refine J_icmpgeN C0 99 (by omega) (by omega) dL_runs_90 (kt := fun c => False.elim (by omega)) (kf := fun _ => ?_)
      refine J_iln C0 4 dL_runs_93 (kk := ?_)
      refine J_ic C0 1 dL_runs_94 (kk := ?_)
      refine J_iaddN C0 dL_runs_95 (kk := ?_)
      refine J_goto C0 101 dL_runs_96 (kk := ?_)
      refine J_icmpneN C0 108 (by omega) (by omega) dL_runs_101 (kt := fun c => False.elim (by omega)) (kf := fun _ => ?_)
      refine J_ic C0 1 dL_runs_104 (kk := ?_)
      refine J_goto C0 109 dL_runs_105 (kk := ?_)
      exact J_zret C0 hF dL_runs_109 (by decide) (hR.done hY2 e00 (by decide) e01 e1)
    · have hpn : pushN k = 6 := if_neg c6
      refine J_icmpgeN C0 99 (by omega) (by omega) dL_runs_90 (kt := fun _ => ?_) (kf := fun c => False.elim (by omega))
      refine J_bi C0 6 dL_runs_99 (kk := ?_)
      refine J_icmpneN C0 108 (by omega) (by omega) dL_runs_101 (kt := fun c => False.elim (by omega)) (kf := fun _ => ?_)
      refine J_ic C0 1 dL_runs_104 (kk := ?_)
      refine J_goto C0 109 dL_runs_105 (kk := ?_)
      exact J_zret C0 hF dL_runs_109 (by decide) (hR.done hY2 e00 (by decide) e01 e1)
  · refine J_aln C0 3 dL_runs_19 (kk := ?_)
    refine J_callWHd C0 hX (k_run_t l K b nA aA d e F Ga D S T1 tl tg hst hT.1 (by omega) hday) gL_runs_L_run dL_runs_20 1 (kk := ?_)
    show J G _ _ _ _ _ [.int (-102)]
    refine J_is C0 [(5, .int (-102)), (4, .int (nI (fwGo T1 m 0))), (3, .int (nI 1)), (2, .int (nI k)), (0, .ref (b 0)), (1, .int x)] dL_runs_23 (kk := ?_)
    refine J_aln C0 4 dL_runs_25 (kk := ?_)
    refine J_callVz C0 (mX4_clearBuffer l K b nA aA d e F Ga D S T1) gL_runs_X4_clearBuffer dL_runs_26 0 (kk := ?_)
    show J G _ _ _ _ _ [.int (T1 0 1)]
    refine J_int C0 hT.1 ?_
    have e00 : u2 T1 0 1 (nI 0) 0 0 = nI k := by rw [u2_12, if_neg (by decide)]; exact hT.2.1.trans ek
    have e01 : u2 T1 0 1 (nI 0) 0 1 = nI 0 := u2_s _ _ _ _
    have e1 : u2 T1 0 1 (nI 0) 1 = T 1 := by rw [u2_i (by decide)]; exact hT.2.2
    generalize u2 T1 0 1 (nI 0) = T2 at e00 e01 e1 ⊢
    refine J_is C0 [(6, .int (nI m)), (5, .int (-102)), (4, .int (nI (fwGo T1 m 0))), (3, .int (nI 1)), (2, .int (nI k)), (0, .ref (b 0)), (1, .int x)] dL_runs_29 (kk := ?_)
    refine J_iln C0 3 dL_runs_31 (kk := ?_)
    refine J_ifeq C0 108 dL_runs_32 (kt := fun c => absurd c (by decide)) (kf := fun _ => ?_)
    refine J_il C0 1 dL_runs_35 (kk := ?_)
    refine J_biv C0 (-102) dL_runs_37 (kk := ?_)
    refine J_icmpne C0 62 dL_runs_39 (kt := fun c => absurd (show (-102 : Int32) = -102 from rfl) c) (kf := fun _ => ?_)
    refine J_il C0 2 dL_runs_42 (kk := ?_)
    refine J_il C0 0 dL_runs_44 (kk := ?_)
    refine J_icmpgtN C0 108 (by omega) (by omega) dL_runs_46 (kt := fun c => False.elim (by omega)) (kf := fun _ => ?_)
    refine J_aln C0 5 dL_runs_49 (kk := ?_)
    refine J_bi C0 11 dL_runs_50 (kk := ?_)
    refine J_callVz C0 (mX4_count l K b nA aA d e F Ga D S T2 (w := 11) (by decide)) gL_runs_X4_count dL_runs_52 1 (kk := ?_)
    show J G _ _ _ _ _ [.int (T2 0 0)]
    refine J_int C0 e00 ?_
    refine J_iln C0 4 dL_runs_55 (kk := ?_)
    refine J_icmpneN C0 108 (by omega) (by omega) dL_runs_56 (kt := fun c => False.elim (by omega)) (kf := fun _ => ?_)
    refine J_goto C0 104 dL_runs_59 (kk := ?_)
    refine J_ic C0 1 dL_runs_104 (kk := ?_)
    refine J_goto C0 109 dL_runs_105 (kk := ?_)
    exact J_zret C0 hF dL_runs_109 (by decide) (hR.thrown (e00.trans ek.symm) (by decide) e01 e1)
