/-! the descent reads what the automaton reads -/
theorem aw_4 {M : FF} {j : Nat} (h : awAt M j = 4) : ∀ d, awAt M (j + d) = 4
  | 0 => h
  | d + 1 => by
    show awS (awAt M (j + d)) _ = 4
    rw [aw_4 h d]
    rfl
theorem sg_in {M : FF} {m i : Nat} (h : i < m) : signS M m i = M 2 i := if_pos h
theorem sg_out {M : FF} {m i : Nat} (h : ¬ i < m) : signS M m i = -1 := if_neg h
theorem dIn_lt {M : FF} {m i lo hi : Nat} (hlo : lo ≤ 1) (h : dIn M m i lo hi) : i < m := by
  rcases Nat.lt_or_ge i m with c | c
  · exact c
  · have h1 := h.1
    rw [sg_out (by omega)] at h1
    rcases (show lo = 0 ∨ lo = 1 by omega) with rfl | rfl <;> exact absurd (by decide) h1
theorem aw_1 {M : FF} {m i : Nat} (hi : i < m) (h : awAt M i = 1) : awAt M (i + 1) = if dIn M m i 0 3 then 2 else 4 := by
  show awS (awAt M i) (M 2 i) = _
  rw [h]
  show (if _ then _ else _) = _
  rw [← sg_in (M := M) hi]
  rfl
theorem aw_2 {M : FF} {m i : Nat} (hi : i < m) (h : awAt M i = 2) : awAt M (i + 1) = if dIn M m i 0 2 then 0 else 4 := by
  show awS (awAt M i) (M 2 i) = _
  rw [h]
  show (if _ then _ else _) = _
  rw [← sg_in (M := M) hi]
  rfl
theorem aw_3 {M : FF} {m i : Nat} (hi : i < m) (h : awAt M i = 3) : awAt M (i + 1) = if dIn M m i 1 9 then 0 else 4 := by
  show awS (awAt M i) (M 2 i) = _
  rw [h]
  show (if _ then _ else _) = _
  rw [← sg_in (M := M) hi]
  rfl
theorem aw_0 {M : FF} {m i : Nat} (hi : i < m) (h : awAt M i = 0) : awAt M (i + 1) = awO (signS M m i) := by
  show awS (awAt M i) (M 2 i) = _
  rw [h, ← sg_in (M := M) hi]
  rfl
def Cl (M : FF) (s : Nat) : Prop := ∀ i, i ≤ s → awAt M i ≠ 4
theorem Cl.up {M : FF} {s : Nat} (h : Cl M s) (h2 : awAt M (s + 1) ≠ 4) : Cl M (s + 1) := fun i hi => by
  rcases Nat.lt_or_ge i (s + 1) with c | c
  · exact h i (by omega)
  · rw [show i = s + 1 by omega]; exact h2
theorem bad_end {M : FF} {m j : Nat} (h : awAt M (j + 1) = 4) (hj : j < m) : awAt M m ≠ 0 := by
  have := aw_4 h (m - (j + 1))
  rw [show j + 1 + (m - (j + 1)) = m by omega] at this
  rw [this]
  decide
/-- an order read at a place where one may begin -/
theorem prO_ok {M : FF} {m s : Nat} (hs : s ≤ m) (h0 : awAt M s = 0) (hc : Cl M s) :
    ((prO M m s).1 = true → s < (prO M m s).2 ∧ (prO M m s).2 ≤ m ∧ awAt M (prO M m s).2 = 0 ∧ Cl M (prO M m s).2) ∧
    ((prO M m s).1 = false → (prO M m s).2 ≤ m ∧ Cl M (prO M m s).2 ∧ ((prO M m s).2 < m → awAt M ((prO M m s).2 + 1) = 4) ∧ (awAt M m ≠ 0 ∨ s = m)) := by
  unfold prO
  by_cases c0 : signS M m s = nI 108 ∨ signS M m s = nI 113 ∨ signS M m s = nI 119
  · rw [if_pos c0]
    have hl : s < m := by
      rcases Nat.lt_or_ge s m with c | c
      · exact c
      · rw [sg_out (by omega)] at c0
        exact absurd c0 (by decide)
    have a1 : awAt M (s + 1) = 1 := by
      rw [aw_0 hl h0]
      rcases c0 with c | c | c <;> rw [c] <;> decide
    have c1 : Cl M (s + 1) := hc.up (by rw [a1]; decide)
    by_cases h1 : dIn M m (s + 1) 0 3
    · rw [if_pos h1]
      have l1 := dIn_lt (by decide) h1
      have a2 : awAt M (s + 2) = 2 := by rw [aw_1 l1 a1, if_pos h1]
      have c2 : Cl M (s + 2) := c1.up (by rw [a2]; decide)
      by_cases h2 : dIn M m (s + 2) 0 2
      · rw [if_pos h2]
        have l2 := dIn_lt (by decide) h2
        have a3 : awAt M (s + 3) = 0 := by rw [aw_2 l2 a2, if_pos h2]
        exact ⟨fun _ => ⟨by show s < s + 3; omega, l2, a3, c2.up (by rw [a3]; decide)⟩, fun z => (ab_tf z).elim⟩
      · rw [if_neg h2]
        refine ⟨fun z => (ab_ft z).elim, fun _ => ⟨l1, c2, fun z => by rw [aw_2 z a2, if_neg h2], Or.inl ?_⟩⟩
        rcases Nat.lt_or_ge (s + 2) m with c | c
        · exact bad_end (j := s + 2) (by rw [aw_2 c a2, if_neg h2]) c
        · rw [show m = s + 2 by omega, a2]; decide
    · rw [if_neg h1]
      refine ⟨fun z => (ab_ft z).elim, fun _ => ⟨hl, c1, fun z => by rw [aw_1 z a1, if_neg h1], Or.inl ?_⟩⟩
      rcases Nat.lt_or_ge (s + 1) m with c | c
      · exact bad_end (j := s + 1) (by rw [aw_1 c a1, if_neg h1]) c
      · rw [show m = s + 1 by omega, a1]; decide
  · rw [if_neg c0]
    by_cases c1 : signS M m s = nI 100
    · rw [if_pos c1]
      have hl : s < m := by
        rcases Nat.lt_or_ge s m with c | c
        · exact c
        · rw [sg_out (by omega)] at c1; exact absurd c1 (by decide)
      have a1 : awAt M (s + 1) = 2 := by rw [aw_0 hl h0, c1]; decide
      have k1 : Cl M (s + 1) := hc.up (by rw [a1]; decide)
      by_cases h1 : dIn M m (s + 1) 0 2
      · rw [if_pos h1]
        have l1 := dIn_lt (by decide) h1
        have a2 : awAt M (s + 2) = 0 := by rw [aw_2 l1 a1, if_pos h1]
        exact ⟨fun _ => ⟨by show s < s + 2; omega, l1, a2, k1.up (by rw [a2]; decide)⟩, fun z => (ab_tf z).elim⟩
      · rw [if_neg h1]
        refine ⟨fun z => (ab_ft z).elim, fun _ => ⟨hl, k1, fun z => by rw [aw_2 z a1, if_neg h1], Or.inl ?_⟩⟩
        rcases Nat.lt_or_ge (s + 1) m with c | c
        · exact bad_end (j := s + 1) (by rw [aw_2 c a1, if_neg h1]) c
        · rw [show m = s + 1 by omega, a1]; decide
    · rw [if_neg c1]
      by_cases c2 : signS M m s = nI 116
      · rw [if_pos c2]
        have hl : s < m := by
          rcases Nat.lt_or_ge s m with c | c
          · exact c
          · rw [sg_out (by omega)] at c2; exact absurd c2 (by decide)
        have a1 : awAt M (s + 1) = 3 := by rw [aw_0 hl h0, c2]; decide
        have k1 : Cl M (s + 1) := hc.up (by rw [a1]; decide)
        by_cases h1 : dIn M m (s + 1) 1 9
        · rw [if_pos h1]
          have l1 := dIn_lt (by decide) h1
          have a2 : awAt M (s + 2) = 0 := by rw [aw_3 l1 a1, if_pos h1]
          exact ⟨fun _ => ⟨by show s < s + 2; omega, l1, a2, k1.up (by rw [a2]; decide)⟩, fun z => (ab_tf z).elim⟩
        · rw [if_neg h1]
          refine ⟨fun z => (ab_ft z).elim, fun _ => ⟨hl, k1, fun z => by rw [aw_3 z a1, if_neg h1], Or.inl ?_⟩⟩
          rcases Nat.lt_or_ge (s + 1) m with c | c
          · exact bad_end (j := s + 1) (by rw [aw_3 c a1, if_neg h1]) c
          · rw [show m = s + 1 by omega, a1]; decide
      · rw [if_neg c2]
        have a1 : s < m → awAt M (s + 1) = 4 := fun hl => by
          rw [aw_0 hl h0]
          unfold awO
          rw [if_neg c1, if_neg (fun z => c0 (Or.inl z)), if_neg (fun z => c0 (Or.inr (Or.inl z))), if_neg c2, if_neg (fun z => c0 (Or.inr (Or.inr z)))]
        refine ⟨fun z => (ab_ft z).elim, fun _ => ⟨hs, hc, a1, ?_⟩⟩
        rcases Nat.lt_or_ge s m with c | c
        · exact Or.inl (bad_end (a1 c) c)
        · exact Or.inr (by omega)
theorem fw_go {M : FF} {m j : Nat} (hj : j ≤ m) (hc : Cl M j) (hb : j < m → awAt M (j + 1) = 4) : ∀ k i, i + k = m → i ≤ j → fwGo M k i = j
  | 0, i, hk, hi => by show i = j; omega
  | k + 1, i, hk, hi => by
    show (if awAt M (i + 1) = 4 then i else fwGo M k (i + 1)) = j
    by_cases c : awAt M (i + 1) = 4
    · rw [if_pos c]
      rcases Nat.lt_or_ge i j with d | d
      · exact absurd c (hc (i + 1) (by omega))
      · omega
    · rw [if_neg c]
      refine fw_go hj hc hb k (i + 1) (by omega) ?_
      rcases Nat.lt_or_ge i j with d | d
      · omega
      · exact absurd (by rw [show i = j by omega]; exact hb (by omega)) c
abbrev rmX5_isDay : Room := { frames := 4, cells := 0, slots := 0, locals := 85 }
set_option maxHeartbeats 4000000 in
set_option maxRecDepth 100000 in
theorem mX5_isDay (l : Launch) (K : KT) (a : Nat → Nat) (F : FF) (g P L : Nat → Int32) (M : FF) {m : Nat} (hm : M 0 1 = nI m) (h60 : m ≤ 60) : CtP l K yX5_isDay wsX5_isDay rmX5_isDay [.ref (a 0)] [modR K a (flat F) g P L M] (fun r w => ∃ M', r = some (.int (if (¬ m = 0 ∧ awAt M m = 0) then nI 1 else nI 0)) ∧ w = [modR K a (flat F) g P L M'] ∧ Kp M M' ∧ (¬ (¬ m = 0 ∧ awAt M m = 0) → M' 0 3 = nI (fwGo M m 0))) := by
  refine CtP_of (cc := cX5_isDay) (nL := 2) (rt := some .boolean) (own := RX5) (lv0 := [(0, .ref (a 0))]) (by decide) rfl (Nat.le_of_ble_eq_true rfl) rfl rfl ?_
  intro G C0 hF _
  have iX5 : ∀ w ∈ u_ws RX5 TX5 13, w ∈ wsX5_isDay := by decide +kernel
  have f137 : Cond.fieldLink RX5 137 "CorkPermitsModel" "spot" "I" ∈ wsX5_isDay := by decide +kernel
  have f134 : Cond.fieldLink RX5 134 "CorkPermitsModel" "length" "I" ∈ wsX5_isDay := by decide +kernel
  have lp : ∀ (q s : Nat) (b : Bool) (M1 : FF), m ≤ s + q → Kp M M1 → M1 0 3 = nI s → s ≤ m → Cl M s → (b = true → 0 < s ∧ awAt M s = 0) → (b = false → (s < m → awAt M (s + 1) = 4) ∧ (awAt M m ≠ 0 ∨ m = 0)) → J G [modR K a (flat F) g P L M1] [(1, .int (if b = true then nI 1 else nI 0)), (0, .ref (a 0))] 0 0 10 [] := by
    intro q
    induction q with
    | zero =>
      intro s b M1 hq hK hs hsm hc ht hf
      cases b with
      | false =>
        refine J_iln C0 0 dX5_isDay_10 (kk := ?_)
        refine J_ifeq C0 33 dX5_isDay_11 (kt := fun _ => ?_) (kf := fun c => absurd rfl c)
        refine J_iln C0 0 dX5_isDay_33 (kk := ?_)
        have hn : ¬ (¬ m = 0 ∧ awAt M m = 0) := fun z => (hf rfl).2.elim (fun y => y z.2) (fun y => z.1 y)
        exact J_zret C0 hF dX5_isDay_34 (by decide) ⟨M1, by rw [if_neg hn]; rfl, rfl, hK, fun _ => by rw [fw_go hsm hc (hf rfl).1 m 0 (by omega) (by omega)]; exact hs⟩
      | true =>
        have e := ht rfl
        refine J_iln C0 0 dX5_isDay_10 (kk := ?_)
        refine J_ifeq C0 33 dX5_isDay_11 (kt := fun c => absurd c (by decide)) (kf := fun _ => ?_)
        refine J_aln C0 1 dX5_isDay_14 (kk := ?_)
        refine J_get C0 iX5 0 0 9 f137 dX5_isDay_15 (v := .int (nI s)) (hv := congrArg (fun z => some (Value.int z)) hs) (kk := ?_)
        refine J_aln C0 1 dX5_isDay_18 (kk := ?_)
        refine J_get C0 iX5 0 0 7 f134 dX5_isDay_19 (v := .int (nI m)) (hv := congrArg (fun z => some (Value.int z)) ((hK.2 1 (by decide)).trans hm)) (kk := ?_)
        refine J_icmpgeN C0 33 (by omega) (by omega) dX5_isDay_22 (kt := fun _ => ?_) (kf := fun c => ?_)
        · refine J_iln C0 0 dX5_isDay_33 (kk := ?_)
          have hy : (¬ m = 0 ∧ awAt M m = 0) := ⟨by omega, by rw [show m = s by omega]; exact e.2⟩
          exact J_zret C0 hF dX5_isDay_34 (by decide) ⟨M1, by rw [if_pos hy]; rfl, rfl, hK, fun z => absurd hy z⟩
        · exfalso; omega
    | succ q ih =>
      intro s b M1 hq hK hs hsm hc ht hf
      cases b with
      | false =>
        refine J_iln C0 0 dX5_isDay_10 (kk := ?_)
        refine J_ifeq C0 33 dX5_isDay_11 (kt := fun _ => ?_) (kf := fun c => absurd rfl c)
        refine J_iln C0 0 dX5_isDay_33 (kk := ?_)
        have hn : ¬ (¬ m = 0 ∧ awAt M m = 0) := fun z => (hf rfl).2.elim (fun y => y z.2) (fun y => z.1 y)
        exact J_zret C0 hF dX5_isDay_34 (by decide) ⟨M1, by rw [if_neg hn]; rfl, rfl, hK, fun _ => by rw [fw_go hsm hc (hf rfl).1 m 0 (by omega) (by omega)]; exact hs⟩
      | true =>
        have e := ht rfl
        refine J_iln C0 0 dX5_isDay_10 (kk := ?_)
        refine J_ifeq C0 33 dX5_isDay_11 (kt := fun c => absurd c (by decide)) (kf := fun _ => ?_)
        refine J_aln C0 1 dX5_isDay_14 (kk := ?_)
        refine J_get C0 iX5 0 0 9 f137 dX5_isDay_15 (v := .int (nI s)) (hv := congrArg (fun z => some (Value.int z)) hs) (kk := ?_)
        refine J_aln C0 1 dX5_isDay_18 (kk := ?_)
        refine J_get C0 iX5 0 0 7 f134 dX5_isDay_19 (v := .int (nI m)) (hv := congrArg (fun z => some (Value.int z)) ((hK.2 1 (by decide)).trans hm)) (kk := ?_)
        refine J_icmpgeN C0 33 (by omega) (by omega) dX5_isDay_22 (kt := fun _ => ?_) (kf := fun c => ?_)
        · refine J_iln C0 0 dX5_isDay_33 (kk := ?_)
          have hy : (¬ m = 0 ∧ awAt M m = 0) := ⟨by omega, by rw [show m = s by omega]; exact e.2⟩
          exact J_zret C0 hF dX5_isDay_34 (by decide) ⟨M1, by rw [if_pos hy]; rfl, rfl, hK, fun z => absurd hy z⟩
        · refine J_aln C0 1 dX5_isDay_25 (kk := ?_)
          refine J_callV C0 (wr := []) (mX5_takesOrder l K a F g P L M1 (m := m) (s := s) ((hK.2 1 (by decide)).trans hm) h60 hs (by omega)) rfl gX5_isDay_X5_takesOrder dX5_isDay_26 0 0 (kk := fun rv w1 hw => ?_)
          obtain ⟨M2, rfl, rfl, hT⟩ := hw
          have ep : prO M1 m s = prO M m s := by unfold prO dIn; simp only [hK.sign]
          rw [ep]
          unfold TOpost at hT
          rw [ep] at hT
          have hp := prO_ok hsm e.2 hc
          show J G _ _ _ _ _ [.int (if (prO M m s).1 = true then nI 1 else nI 0)]
          refine J_isn C0 [(1, .int (if (prO M m s).1 = true then nI 1 else nI 0)), (0, .ref (a 0))] dX5_isDay_29 (kk := ?_)
          refine J_goto C0 10 dX5_isDay_30 (kk := ?_)
          cases hb : (prO M m s).1 with
          | true =>
            have h2 := hp.1 hb
            exact ih (prO M m s).2 true M2 (by omega) (hK.tr hT.1) hT.2.1 h2.2.1 h2.2.2.2 (fun _ => ⟨by omega, h2.2.2.1⟩) (fun z => absurd z (by decide))
          | false =>
            have h2 := hp.2 hb
            have hge : s ≤ (prO M m s).2 := by unfold prO; (repeat' split) <;> simp
            rcases Nat.lt_or_ge s (prO M m s).2 with y | y
            · exact ih (prO M m s).2 false M2 (by omega) (hK.tr hT.1) hT.2.1 h2.1 h2.2.1 (fun z => absurd z (by decide)) (fun _ => ⟨h2.2.2.1, h2.2.2.2.elim Or.inl (fun z => by omega)⟩)
            · have es : (prO M m s).2 = s := by omega
              rw [es] at h2 hT
              have e4 := h2.2.2.1 (by omega)
              refine J_iln C0 0 dX5_isDay_10 (kk := ?_)
              refine J_ifeq C0 33 dX5_isDay_11 (kt := fun _ => ?_) (kf := fun c => absurd rfl c)
              refine J_iln C0 0 dX5_isDay_33 (kk := ?_)
              have hn : ¬ (¬ m = 0 ∧ awAt M m = 0) := fun z => bad_end e4 (by omega) z.2
              exact J_zret C0 hF dX5_isDay_34 (by decide) ⟨M2, by rw [if_neg hn]; rfl, rfl, hK.tr hT.1, fun _ => by rw [fw_go hsm hc (fun _ => e4) m 0 (by omega) (by omega)]; exact hT.2.1⟩
  refine J_aln C0 0 dX5_isDay_0 (kk := ?_)
  refine J_ic C0 0 dX5_isDay_1 (kk := ?_)
  refine J_put C0 iX5 tyX5_ok nmX5 0 0 9 [modR K a (flat F) g P L (u2 M 0 3 (nI 0))] f137 dX5_isDay_2 (hd := rfl) (kk := ?_)
  refine J_aln C0 0 dX5_isDay_5 (kk := ?_)
  refine J_callV C0 (wr := []) (mX5_takesOrder l K a F g P L (u2 M 0 3 (nI 0)) (m := m) (s := 0) hm h60 rfl (by omega)) rfl gX5_isDay_X5_takesOrder dX5_isDay_6 0 0 (kk := fun rv w1 hw => ?_)
  obtain ⟨M2, rfl, rfl, hT⟩ := hw
  have hK0 : Kp M (u2 M 0 3 (nI 0)) := (Kp.rf M).u (by decide)
  have ep : prO (u2 M 0 3 (nI 0)) m 0 = prO M m 0 := by unfold prO dIn; simp only [hK0.sign]
  rw [ep]
  unfold TOpost at hT
  rw [ep] at hT
  have hc0 : Cl M 0 := fun i hi => by rw [show i = 0 by omega]; exact (by decide : (0 : Nat) ≠ 4)
  have hp := prO_ok (M := M) (m := m) (s := 0) (by omega) rfl hc0
  show J G _ _ _ _ _ [.int (if (prO M m 0).1 = true then nI 1 else nI 0)]
  refine J_isn C0 [(1, .int (if (prO M m 0).1 = true then nI 1 else nI 0)), (0, .ref (a 0))] dX5_isDay_9 (kk := ?_)
  cases hb : (prO M m 0).1 with
  | true =>
    have h2 := hp.1 hb
    exact lp m (prO M m 0).2 true M2 (by omega) (hK0.tr hT.1) hT.2.1 h2.2.1 h2.2.2.2 (fun _ => ⟨by omega, h2.2.2.1⟩) (fun z => absurd z (by decide))
  | false =>
    have h2 := hp.2 hb
    exact lp m (prO M m 0).2 false M2 (by omega) (hK0.tr hT.1) hT.2.1 h2.1 h2.2.1 (fun z => absurd z (by decide)) (fun _ => ⟨h2.2.2.1, h2.2.2.2.elim Or.inl (fun z => Or.inr z.symm)⟩)
