abbrev rmX5_run : Room := { frames := 9, cells := 0, slots := 0, locals := 198 }
theorem aw_cg {M M' : FF} (h : M' 2 = M 2) : ∀ i, awAt M' i = awAt M i
  | 0 => rfl
  | i + 1 => by
    show awS (awAt M' i) (M' 2 i) = awS (awAt M i) (M 2 i)
    rw [aw_cg h i, h]
theorem sg_cg {M M' : FF} (h : M' 2 = M 2) (m i : Nat) : signS M' m i = signS M m i := by unfold signS; rw [h]
theorem dg_cg {M M' : FF} (h : M' 2 = M 2) (m i : Nat) : digS M' m i = digS M m i := by unfold digS; rw [sg_cg h]
theorem ol_cg {M M' : FF} (h : M' 2 = M 2) (m i : Nat) : olS M' m i = olS M m i := by unfold olS; rw [sg_cg h]
theorem pushT_2 (k : Nat) (M : FF) {i : Nat} (h : i ≠ 0) : pushT k M i = M i := by
  unfold pushT
  split
  · exact u2_i h
  · rw [u2_i h, u2_i h]
theorem pushT_0 (k : Nat) (M : FF) {j : Nat} (h : j ≠ 0) : pushT k M 0 j = M 0 j := by
  unfold pushT
  split <;> simp [u2_12, h]
theorem runR_cg {M M' : FF} (h : M' 2 = M 2) (m : Nat) : ∀ q i dn F, runR M' m q i dn F = runR M m q i dn F
  | 0, _, _, _ => rfl
  | q + 1, i, dn, F => by
    unfold runR
    rw [sg_cg h, dg_cg h, dg_cg h, ol_cg h]
    split
    · exact runR_cg h m q _ _ _
    · rfl
/-- a digit that the descent takes -/
theorem dig_val {M : FF} {m i lo hi : Nat} (hlo : lo ≤ 1) (hhi : hi ≤ 9) (h : dIn M m i lo hi) : ∃ t, lo ≤ t ∧ t ≤ hi ∧ signS M m i - nI 48 = nI t ∧ digS M m i = nI t := by
  have h0 : ¬ signS M m i < 0 := fun z => h.1 (Int32.lt_trans z (by rcases (show lo = 0 ∨ lo = 1 by omega) with rfl | rfl <;> decide))
  obtain ⟨s, hs, e⟩ := nI_of h0
  have h1 := h.1
  have h2 := h.2
  rw [e] at h1 h2
  have a : ¬ s < 48 + lo := fun z => h1 ((nI_ltI hs (by omega)).mpr z)
  have b : ¬ 48 + hi < s := fun z => h2 ((nI_ltI (by omega) hs).mpr z)
  have e2 : signS M m i - nI 48 = nI (s - 48) := by rw [e, pk_sub (by omega)]
  refine ⟨s - 48, by omega, by omega, e2, ?_⟩
  unfold digS
  rw [if_pos ⟨fun z => a (by have := (nI_ltI hs (by decide)).mp (e ▸ z); omega), fun z => b (by have := (nI_ltI (by decide) hs).mp (e ▸ z); omega)⟩, e2]
theorem prO_dig {M : FF} {m s : Nat} (h : (prO M m s).1 = true) : (prO M m s).2 = s + olS M m s ∧ ∃ x : Int32, signS M m (s + 1) - nI 48 = x ∧ digS M m (s + 1) = x ∧
    ((∃ y : Int32, (signS M m s = nI 108 ∨ signS M m s = nI 113 ∨ signS M m s = nI 119) ∧ signS M m (s + 2) - nI 48 = y ∧ digS M m (s + 2) = y ∧ OrdOK (signS M m s) x y) ∨ (¬ (signS M m s = nI 108 ∨ signS M m s = nI 113 ∨ signS M m s = nI 119) ∧ ∀ y, OrdOK (signS M m s) x y)) := by
  unfold prO at h ⊢
  by_cases c0 : signS M m s = nI 108 ∨ signS M m s = nI 113 ∨ signS M m s = nI 119
  · rw [if_pos c0] at h ⊢
    by_cases h1 : dIn M m (s + 1) 0 3
    · rw [if_pos h1] at h ⊢
      by_cases h2 : dIn M m (s + 2) 0 2
      · rw [if_pos h2]
        obtain ⟨t1, -, b1, e1, f1⟩ := dig_val (by decide) (by decide) h1
        obtain ⟨t2, -, b2, e2, f2⟩ := dig_val (by decide) (by decide) h2
        refine ⟨?_, nI t1, e1, f1, Or.inl ⟨nI t2, c0, e2, f2, Or.inl ⟨c0, t1, t2, by omega, by omega, rfl, rfl⟩⟩⟩
        unfold olS
        rw [if_neg]
        rintro (z | z) <;> rw [z] at c0 <;> exact absurd c0 (by decide)
      · rw [if_neg h2] at h; exact (ab_ft h).elim
    · rw [if_neg h1] at h; exact (ab_ft h).elim
  · rw [if_neg c0] at h ⊢
    by_cases c1 : signS M m s = nI 100
    · rw [if_pos c1] at h ⊢
      by_cases h1 : dIn M m (s + 1) 0 2
      · rw [if_pos h1]
        obtain ⟨t1, -, b1, e1, f1⟩ := dig_val (by decide) (by decide) h1
        refine ⟨?_, nI t1, e1, f1, Or.inr ⟨c0, fun y => Or.inr (Or.inl ⟨c1, t1, by omega, rfl⟩)⟩⟩
        unfold olS
        rw [if_pos (Or.inl c1)]
      · rw [if_neg h1] at h; exact (ab_ft h).elim
    · rw [if_neg c1] at h ⊢
      by_cases c2 : signS M m s = nI 116
      · rw [if_pos c2] at h ⊢
        by_cases h1 : dIn M m (s + 1) 1 9
        · rw [if_pos h1]
          obtain ⟨t1, a1, b1, e1, f1⟩ := dig_val (by decide) (by decide) h1
          refine ⟨?_, nI t1, e1, f1, Or.inr ⟨c0, fun y => Or.inr (Or.inr ⟨c2, t1, a1, by omega, rfl⟩)⟩⟩
          unfold olS
          rw [if_pos (Or.inr c2)]
        · rw [if_neg h1] at h; exact (ab_ft h).elim
      · rw [if_neg c2] at h; exact (ab_ft h).elim
theorem ordC_y {F : FF} {o x y y' : Int32} (h : ¬ (o = nI 108 ∨ o = nI 113 ∨ o = nI 119)) : ordC F o x y = ordC F o x y' := by
  unfold ordC
  split
  · rfl
  · split
    · rfl
    · have c1 : ¬ o = nI 108 := fun z => h (Or.inl z)
      have c2 : ¬ o = nI 113 := fun z => h (Or.inr (Or.inl z))
      have c3 : ¬ o = nI 119 := fun z => h (Or.inr (Or.inr z))
      simp only [if_neg c1, if_neg c2, if_neg c3]
      split <;> split <;> rfl
set_option maxHeartbeats 4000000 in
set_option maxRecDepth 100000 in
theorem mX5_run (l : Launch) (K : KT) (a : Nat → Nat) (F : FF) (g P L : Nat → Int32) (M : FF) {B hn n : Nat} {N : Nat → Nat → Nat} (hv : InvN B F hn n N) {kk : Nat} (h6 : kk ≤ 6) (hkk : M 0 0 = nI kk) (hB : B + 10000 < 2 ^ 28) {m : Nat} (hm : M 0 1 = nI m) (h60 : m ≤ 60) (hday : ¬ m = 0 ∧ awAt M m = 0) : CtP l K yX5_run wsX5_run rmX5_run [.ref (a 0)] [modR K a (flat F) g P L M] (fun r w => ∃ M' n' N', r = some (.int (nI (runR M m (m + 1) 0 0 F).1)) ∧ w = [modR K a (flat (runR M m (m + 1) 0 0 F).2) g (pSv kk P (flat F)) L (u2 M' 0 1 (nI 0))] ∧ Kp (pushT kk (u2 M 0 2 (nI 0))) M' ∧ InvN (B + 7000) (runR M m (m + 1) 0 0 F).2 hn n' N') := by
  refine CtP_of (cc := cX5_run) (nL := 3) (rt := some .int) (own := RX5) (lv0 := [(0, .ref (a 0))]) (by decide) rfl (Nat.le_of_ble_eq_true rfl) rfl rfl ?_
  intro G C0 hF _
  have iX5 : ∀ w ∈ u_ws RX5 TX5 13, w ∈ wsX5_run := by decide +kernel
  have f28 : Cond.fieldLink RX5 28 "CorkPermitsModel" "thrown" "I" ∈ wsX5_run := by decide +kernel
  have f137 : Cond.fieldLink RX5 137 "CorkPermitsModel" "spot" "I" ∈ wsX5_run := by decide +kernel
  have f134 : Cond.fieldLink RX5 134 "CorkPermitsModel" "length" "I" ∈ wsX5_run := by decide +kernel
  have hcl : ∀ s, s ≤ m → Cl M s := fun s hs i hi z => by
    have := aw_4 z (m - i)
    rw [show i + (m - i) = m by omega, hday.2] at this
    exact absurd this (by decide)
  have endd : ∀ (dn : Nat) (F1 M1 : FF) (v : Nat) (lv : List (Nat × Value)) (n1 : Nat) (N1 : Nat → Nat → Nat), lv = [(2, .int (nI v)), (1, .int (nI dn)), (0, .ref (a 0))] → Kp (pushT kk (u2 M 0 2 (nI 0))) M1 → InvN (B + 7000) F1 hn n1 N1 → (dn, F1) = runR M m (m + 1) 0 0 F → J G [modR K a (flat F1) g (pSv kk P (flat F)) L M1] lv 0 0 80 [] := by
    intro dn F1 M1 v lv n1 N1 hlv hK hv1 hT
    subst hlv
    refine J_aln C0 2 dX5_run_80 (kk := ?_)
    refine J_ic C0 0 dX5_run_81 (kk := ?_)
    refine J_put C0 iX5 tyX5_ok nmX5 0 0 7 [modR K a (flat F1) g (pSv kk P (flat F)) L (u2 M1 0 1 (nI 0))] f134 dX5_run_82 (hd := rfl) (kk := ?_)
    refine J_iln C0 1 dX5_run_85 (kk := ?_)
    refine J_iret C0 hF dX5_run_86 ⟨M1, n1, N1, ?_, ?_, hK, ?_⟩
    · rw [← hT]
    · rw [← hT]
    · rw [← hT]; exact hv1
  have lp : ∀ (q s dn : Nat) (F1 M1 : FF) (n1 : Nat) (N1 : Nat → Nat → Nat), m < s + q → s ≤ m → awAt M s = 0 → dn ≤ s → Kp (pushT kk (u2 M 0 2 (nI 0))) M1 → M1 0 3 = nI s → InvN (B + 108 * dn) F1 hn n1 N1 → runR M m q s dn F1 = runR M m (m + 1) 0 0 F → J G [modR K a (flat F1) g (pSv kk P (flat F)) L M1] [(2, .int (nI 1)), (1, .int (nI dn)), (0, .ref (a 0))] 0 0 31 [] := by
    intro q
    induction q with
    | zero => intro s dn F1 M1 n1 N1 hq hs; omega
    | succ q ih =>
      intro s dn F1 M1 n1 N1 hq hsm h0 hdn hK hs hv1 hT
      have k1 : M1 0 1 = nI m := (hK.2 1 (by decide)).trans ((pushT_0 kk (u2 M 0 2 (nI 0)) (by decide)).trans hm)
      have k2 : M1 2 = M 2 := (hK.1 2 (by decide)).trans (pushT_2 kk (u2 M 0 2 (nI 0)) (by decide))
      refine J_iln C0 0 dX5_run_31 (kk := ?_)
      refine J_ifeqN C0 80 (by omega) dX5_run_32 (kt := fun c => ?_) (kf := fun _ => ?_)
      · exfalso; omega
      refine J_aln C0 2 dX5_run_35 (kk := ?_)
      refine J_get C0 iX5 0 0 9 f137 dX5_run_36 (v := .int (nI s)) (hv := congrArg (fun z => some (Value.int z)) hs) (kk := ?_)
      refine J_aln C0 2 dX5_run_39 (kk := ?_)
      refine J_get C0 iX5 0 0 7 f134 dX5_run_40 (v := .int (nI m)) (hv := congrArg (fun z => some (Value.int z)) k1) (kk := ?_)
      refine J_icmpgeN C0 80 (by omega) (by omega) dX5_run_43 (kt := fun c => ?_) (kf := fun c => ?_)
      · refine endd dn F1 M1 1 _ n1 N1 rfl hK (hv1.mono (by omega)) ?_
        rw [← hT]
        unfold runR
        rw [if_neg (fun z => by omega)]
      refine J_aln C0 2 dX5_run_46 (kk := ?_)
      refine J_callV C0 (wr := []) (mX5_takesOrder l K a F1 g (pSv kk P (flat F)) L M1 (m := m) (s := s) k1 h60 hs (by omega)) rfl gX5_run_X5_takesOrder dX5_run_47 0 0 (kk := fun rv w1 hw => ?_)
      obtain ⟨M2, rfl, rfl, hTO⟩ := hw
      have ep : prO M1 m s = prO M m s := by unfold prO dIn; simp only [sg_cg k2]
      unfold TOpost at hTO
      rw [ep] at hTO ⊢
      rw [sg_cg k2, sg_cg k2, sg_cg k2] at hTO
      have hp := prO_ok hsm h0 (hcl s hsm)
      have hb : (prO M m s).1 = true := by
        cases e : (prO M m s).1 with
        | true => rfl
        | false => exact absurd hday.2 ((hp.2 e).2.2.2.elim id (fun z => by omega))
      have hp1 := hp.1 hb
      obtain ⟨es, x, ex, fx, hxy⟩ := prO_dig hb
      rw [hb]
      show J G _ _ _ _ _ [.int (nI 1)]
      refine J_ifeqN C0 64 (by omega) dX5_run_50 (kt := fun c => ?_) (kf := fun _ => ?_)
      · exfalso; omega
      have hO : OrdOK (M2 0 4) (M2 0 5) (M2 0 6) ∧ ordC F1 (M2 0 4) (M2 0 5) (M2 0 6) = ordC F1 (signS M m s) (digS M m (s + 1)) (digS M m (s + 2)) := by
        rw [hTO.2.2.1, (hTO.2.2.2 hb).1, ex, fx]
        rcases hxy with ⟨y, c, ey, fy, hok⟩ | ⟨c, hok⟩
        · rw [(hTO.2.2.2 hb).2 c, ey, fy]
          exact ⟨hok, rfl⟩
        · exact ⟨hok _, ordC_y c⟩
      have hbb : B + 108 * dn + 1000 < 2 ^ 28 := by omega
      refine J_aln C0 2 dX5_run_53 (kk := ?_)
      refine J_callVd C0 (mX5_mayDo l K a F1 g (pSv kk P (flat F)) L M2 hv1 hO.1) [] [modR K a (flat F1) g (pSv kk P (flat F)) L M2] gX5_run_X5_mayDo dX5_run_54 0 0 (kk := ?_)
      rw [hO.2]
      show J G _ _ _ _ _ [.int (if (ordC F1 (signS M m s) (digS M m (s + 1)) (digS M m (s + 2))).isSome = true then nI 1 else nI 0)]
      cases eH : ordC F1 (signS M m s) (digS M m (s + 1)) (digS M m (s + 2)) with
      | none =>
        rw [if_neg (by decide)]
        refine J_ifeqN C0 64 (by omega) dX5_run_57 (kt := fun _ => ?_) (kf := fun c => ?_)
        · refine J_ic C0 0 dX5_run_64 (kk := ?_)
          refine J_isn C0 [(2, .int (nI 0)), (1, .int (nI dn)), (0, .ref (a 0))] dX5_run_65 (kk := ?_)
          refine J_iln C0 0 dX5_run_66 (kk := ?_)
          refine J_ifeqN C0 31 (by omega) dX5_run_67 (kt := fun _ => ?_) (kf := fun c => ?_)
          · refine J_iln C0 0 dX5_run_31 (kk := ?_)
            refine J_ifeqN C0 80 (by omega) dX5_run_32 (kt := fun _ => ?_) (kf := fun c => ?_)
            · refine endd dn F1 M2 0 _ n1 N1 rfl (hK.tr hTO.1) (hv1.mono (by omega)) ?_
              rw [← hT]
              unfold runR
              rw [if_neg (fun z => by rw [eH] at z; exact absurd z.2 (by decide))]
            · exfalso; omega
          · exfalso; omega
        · exfalso; omega
      | some H =>
        rw [if_pos (show (some H : Option FF).isSome = true from rfl)]
        refine J_ifeqN C0 64 (by omega) dX5_run_57 (kt := fun c => ?_) (kf := fun _ => ?_)
        · exfalso; omega
        refine J_ic C0 1 dX5_run_60 (kk := ?_)
        refine J_goto C0 65 dX5_run_61 (kk := ?_)
        refine J_isn C0 [(2, .int (nI 1)), (1, .int (nI dn)), (0, .ref (a 0))] dX5_run_65 (kk := ?_)
        refine J_iln C0 0 dX5_run_66 (kk := ?_)
        refine J_ifeqN C0 31 (by omega) dX5_run_67 (kt := fun c => ?_) (kf := fun _ => ?_)
        · exfalso; omega
        refine J_aln C0 2 dX5_run_70 (kk := ?_)
        refine J_callVd C0 (mX5_does l K a F1 g (pSv kk P (flat F)) L M2 hv1 (by omega) hO.1 (H := H) (by rw [hO.2]; exact eH)) [] [modR K a (flat H) g (pSv kk P (flat F)) L M2] gX5_run_X5_does dX5_run_71 0 0 (kk := ?_)
        show J G _ _ _ _ _ []
        refine J_iincN C0 1 [(1, .int (nI (dn + 1))), (2, .int (nI 1)), (0, .ref (a 0))] dX5_run_74 (kk := ?_)
        refine J_goto C0 31 dX5_run_77 (kk := ?_)
        obtain ⟨n2, N2, hv2⟩ := hv1.ord hbb hO.1 (by rw [hO.2]; exact eH)
        have ho2 := olS_in M m s
        refine J_lv [1, 0, 2] rfl (ih (prO M m s).2 (dn + 1) H M2 n2 N2 (by omega) hp1.2.1 hp1.2.2.1 (by omega) (hK.tr hTO.1) hTO.2.1 (hv2.mono (by omega)) ?_)
        rw [← hT, es]
        conv => rhs; unfold runR
        rw [if_pos ⟨by omega, by rw [eH]; rfl⟩, eH]
        rfl
  refine J_aln C0 0 dX5_run_0 (kk := ?_)
  refine J_ic C0 0 dX5_run_1 (kk := ?_)
  refine J_put C0 iX5 tyX5_ok nmX5 0 0 8 [modR K a (flat F) g P L (u2 M 0 2 (nI 0))] f28 dX5_run_2 (hd := rfl) (kk := ?_)
  refine J_aln C0 0 dX5_run_5 (kk := ?_)
  refine J_callV C0 (wr := []) (mX5_isDay l K a F g P L (u2 M 0 2 (nI 0)) (m := m) hm h60) rfl gX5_run_X5_isDay dX5_run_6 0 0 (kk := fun rv w1 hw => ?_)
  obtain ⟨M2, rfl, rfl, hK, -⟩ := hw
  rw [aw_cg (M := M) (M' := (u2 M 0 2 (nI 0))) rfl, if_pos hday]
  show J G _ _ _ _ _ [.int (nI 1)]
  refine J_ifneN C0 18 (by omega) dX5_run_9 (kt := fun _ => ?_) (kf := fun c => ?_)
  · refine J_aln C0 0 dX5_run_18 (kk := ?_)
    refine J_callVd C0 (mX5_saves l K a F g P L M2 (k := kk) h6 ((hK.2 0 (by decide)).trans hkk)) [] [modR K a (flat F) g (pSv kk P (flat F)) L (pushT kk M2)] gX5_run_X5_saves dX5_run_19 0 0 (kk := ?_)
    show J G _ _ _ _ _ []
    refine J_aln C0 0 dX5_run_22 (kk := ?_)
    refine J_ic C0 0 dX5_run_23 (kk := ?_)
    refine J_put C0 iX5 tyX5_ok nmX5 0 0 9 [modR K a (flat F) g (pSv kk P (flat F)) L (u2 (pushT kk M2) 0 3 (nI 0))] f137 dX5_run_24 (hd := rfl) (kk := ?_)
    refine J_ic C0 0 dX5_run_27 (kk := ?_)
    refine J_isn C0 [(1, .int (nI 0)), (0, .ref (a 0))] dX5_run_28 (kk := ?_)
    refine J_ic C0 1 dX5_run_29 (kk := ?_)
    refine J_isn C0 [(2, .int (nI 1)), (1, .int (nI 0)), (0, .ref (a 0))] dX5_run_30 (kk := ?_)
    have hK2 : Kp (pushT kk (u2 M 0 2 (nI 0))) (u2 (pushT kk M2) 0 3 (nI 0)) := by
      refine Kp.u ⟨fun i hi => ?_, fun j hj => ?_⟩ (by decide)
      · rw [pushT_2 kk M2 hi, pushT_2 kk (u2 M 0 2 (nI 0)) hi, hK.1 i hi]
      · rcases (show j = 0 ∨ j ≠ 0 by omega) with z | z
        · subst z
          unfold pushT
          split <;> rfl
        · rw [pushT_0 kk M2 z, pushT_0 kk (u2 M 0 2 (nI 0)) z, hK.2 j hj]
    exact lp (m + 1) 0 0 F _ n N (by omega) (by omega) rfl (by omega) hK2 rfl hv rfl
  · exfalso; omega
set_option maxHeartbeats 4000000 in
set_option maxRecDepth 100000 in
theorem mX5_run_no (l : Launch) (K : KT) (a : Nat → Nat) (F : FF) (g P L : Nat → Int32) (M : FF) {m : Nat} (hm : M 0 1 = nI m) (h60 : m ≤ 60) (hday : ¬ (¬ m = 0 ∧ awAt M m = 0)) : CtP l K yX5_run wsX5_run rmX5_run [.ref (a 0)] [modR K a (flat F) g P L M] (fun r w => ∃ M', r = some (.int (nI 0)) ∧ w = [modR K a (flat F) g P L (u2 M' 0 2 (nI 1))] ∧ Kp (u2 M 0 2 (nI 0)) M') := by
  refine CtP_of (cc := cX5_run) (nL := 3) (rt := some .int) (own := RX5) (lv0 := [(0, .ref (a 0))]) (by decide) rfl (Nat.le_of_ble_eq_true rfl) rfl rfl ?_
  intro G C0 hF _
  have iX5 : ∀ w ∈ u_ws RX5 TX5 13, w ∈ wsX5_run := by decide +kernel
  have f28 : Cond.fieldLink RX5 28 "CorkPermitsModel" "thrown" "I" ∈ wsX5_run := by decide +kernel
  refine J_aln C0 0 dX5_run_0 (kk := ?_)
  refine J_ic C0 0 dX5_run_1 (kk := ?_)
  refine J_put C0 iX5 tyX5_ok nmX5 0 0 8 [modR K a (flat F) g P L (u2 M 0 2 (nI 0))] f28 dX5_run_2 (hd := rfl) (kk := ?_)
  refine J_aln C0 0 dX5_run_5 (kk := ?_)
  refine J_callV C0 (wr := []) (mX5_isDay l K a F g P L (u2 M 0 2 (nI 0)) (m := m) hm h60) rfl gX5_run_X5_isDay dX5_run_6 0 0 (kk := fun rv w1 hw => ?_)
  obtain ⟨M2, rfl, rfl, hK, -⟩ := hw
  rw [aw_cg (M := M) (M' := (u2 M 0 2 (nI 0))) rfl, if_neg hday]
  show J G _ _ _ _ _ [.int (nI 0)]
  refine J_ifneN C0 18 (by omega) dX5_run_9 (kt := fun c => ?_) (kf := fun _ => ?_)
  · exact absurd rfl c
  · refine J_aln C0 0 dX5_run_12 (kk := ?_)
    refine J_ic C0 1 dX5_run_13 (kk := ?_)
    refine J_callVd C0 (mX5_fails l K a F g P L M2 (nI 1)) [] [modR K a (flat F) g P L (u2 M2 0 2 (nI 1))] gX5_run_X5_fails dX5_run_14 1 0 (kk := ?_)
    show J G _ _ _ _ _ [.int (nI 0)]
    exact J_iret C0 hF dX5_run_17 ⟨M2, rfl, rfl, hK⟩
