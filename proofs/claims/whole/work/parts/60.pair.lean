/-! each call: what the class does and what the reference does are the same -/
theorem rngLH (lo hi : Nat) (hh : hi < 2 ^ 30) (hl : lo < 2 ^ 30) (x : Int32) : (∃ t, lo ≤ t ∧ t ≤ hi ∧ x = nI t) ∨ ((x < nI lo ∨ nI hi < x) ∧ ¬ (¬ x < nI lo ∧ ¬ nI hi < x)) := by
  by_cases h1 : x < nI lo
  · exact Or.inr ⟨Or.inl h1, fun z => z.1 h1⟩
  · by_cases h2 : nI hi < x
    · exact Or.inr ⟨Or.inr h2, fun z => z.2 h2⟩
    · by_cases h0 : x < 0
      · refine absurd ?_ h1
        rcases Nat.eq_zero_or_pos lo with q | q
        · rw [q]; exact h0
        · exact Int32.lt_trans h0 ((nI_ltI (a := 0) (by decide) (by omega)).mpr q)
      · obtain ⟨j, hj, rfl⟩ := nI_of h0
        refine Or.inl ⟨j, ?_, ?_, rfl⟩
        · exact Nat.not_lt.mp fun z => h1 ((nI_ltI hj (by omega)).mpr z)
        · exact Nat.not_lt.mp fun z => h2 ((nI_ltI (by omega) hj).mpr z)
theorem rngI (m : Nat) (hm : m + 1 < 2 ^ 30) (x : Int32) : (∃ j, j < m + 1 ∧ x = nI j) ∨ ((x < 0 ∨ nI (m + 1) ≤ x) ∧ ¬ (¬ x < nI 0 ∧ ¬ nI m < x)) := by
  rcases rngLH 0 m (by omega) (by decide) x with ⟨t, -, h, rfl⟩ | ⟨h1, h2⟩
  · exact Or.inl ⟨t, by omega, rfl⟩
  · refine Or.inr ⟨?_, h2⟩
    rcases h1 with h | h
    · exact Or.inl h
    · refine Or.inr (Int32.not_lt.mp fun z => ?_)
      have h0 : ¬ x < 0 := fun q => by
        have : x < nI m := Int32.lt_of_lt_of_le q (Int32.not_lt.mp (nI_pos (by omega)))
        exact Int32.lt_irrefl (Int32.lt_trans this h)
      obtain ⟨j, hj, rfl⟩ := nI_of h0
      have a1 := (nI_ltI (by omega) hj).mp h
      have a2 := (nI_ltI hj (by omega)).mp z
      omega
def PairW (l : Launch) (K : KT) (yL : MethodName) (wsL : List Cond) (y5 : MethodName) (ws5 : List Cond) (rm5 : Room) (ps : List Value) (tl tg o : Nat) (b nA aA a : Nat → Nat) (d e : Nat → Nat → Nat) (F Ga : FF) (D S : Nat → FF) (T : FF) (g P L : Nat → Int32) (M : FF) (lf : Nat → Int64) (B : Nat) : Prop :=
  ∃ (k : Nat) (v : Int32) (lf1 : Nat → Int64) (e1 : Nat → Nat → Nat) (F1 Ga1 : FF) (D1 S1 : Nat → FF) (T1 : FF) (Φ : FF → (Nat → Int32) → (Nat → Int32) → (Nat → Int32) → FF → Prop), k < 4 ∧
    CtW l K yL wsL rmL (.ref (b 0) :: (ps ++ [.ref o])) (outW K o lf :: corkW K b nA aA d e F Ga D S T) (some (.int (nI k))) (outW K o lf1 :: corkW K b nA aA d e1 F1 Ga1 D1 S1 T1) tl tg ∧
    CtP l K y5 ws5 rm5 (.ref (a 0) :: ps) [modR K a (flat F) g P L M] (fun r w => ∃ F2 g1 P1 L1 M1, r = some (.int v) ∧ w = [modR K a (flat F2) g1 P1 L1 M1] ∧ M1 0 2 = nI k ∧ Φ F2 g1 P1 L1 M1) ∧
    (k = 0 → lf1 0 = v.toInt64) ∧ ∀ F2 g2 P2 L2 M2, Φ F2 g2 P2 L2 M2 → F2 = F1 ∧ ∃ k' nt', Rel (B + 7000) k' nt' F1 D1 S1 T1 P2 L2 M2
theorem updL_0 (lf : Nat → Int64) (x : Int64) : vp_updL lf 0 x 0 = x := by simp [vp_updL]
section PW
variable {l : Launch} {K : KT} {yL : MethodName} {wsL : List Cond} {y5 : MethodName} {ws5 : List Cond} {rm5 : Room} {ps : List Value} {tl tg o : Nat} {b nA aA a : Nat → Nat} {d e : Nat → Nat → Nat} {F Ga : FF} {D S : Nat → FF} {T : FF} {g P L : Nat → Int32} {M : FF} {lf : Nat → Int64} {B k nt : Nat}
theorem PairW.mk1 {j : Nat} (hj : j < 4) {v : Int32} {lf1 : Nat → Int64} {e1 : Nat → Nat → Nat} {F1 Ga1 : FF} {D1 S1 : Nat → FF} {T1 : FF} {g1 P1 L1 : Nat → Int32} {M1 : FF}
    (hW : CtW l K yL wsL rmL (.ref (b 0) :: (ps ++ [.ref o])) (outW K o lf :: corkW K b nA aA d e F Ga D S T) (some (.int (nI j))) (outW K o lf1 :: corkW K b nA aA d e1 F1 Ga1 D1 S1 T1) tl tg)
    (hm : Ct l K y5 ws5 rm5 (.ref (a 0) :: ps) [modR K a (flat F) g P L M] (some (.int v)) [modR K a (flat F1) g1 P1 L1 M1]) (h2 : M1 0 2 = nI j) (hv : j = 0 → lf1 0 = v.toInt64) {k' nt' : Nat} (hR : Rel (B + 7000) k' nt' F1 D1 S1 T1 P1 L1 M1) :
    PairW l K yL wsL y5 ws5 rm5 ps tl tg o b nA aA a d e F Ga D S T g P L M lf B :=
  ⟨j, v, lf1, e1, F1, Ga1, D1, S1, T1, fun F2 g2 P2 L2 M2 => F2 = F1 ∧ P2 = P1 ∧ L2 = L1 ∧ M2 = M1, hj, hW, CtP.mono hm (fun r w h => by
    obtain ⟨rfl, rfl⟩ := h
    exact ⟨F1, g1, P1, L1, M1, rfl, rfl, h2, rfl, rfl, rfl, rfl⟩), hv, fun F2 g2 P2 L2 M2 h => by
    obtain ⟨rfl, rfl, rfl, rfl⟩ := h
    exact ⟨rfl, k', nt', hR⟩⟩
theorem PairW.thr (j : Nat) (hj : j < 4) (h0 : j ≠ 0) (hR : Rel B k nt F D S T P L M)
    (hW : CtW l K yL wsL rmL (.ref (b 0) :: (ps ++ [.ref o])) (outW K o lf :: corkW K b nA aA d e F Ga D S T) (some (.int (nI j))) (outW K o lf :: corkW K b nA aA d e F Ga D S T) tl tg)
    (hm : Ct l K y5 ws5 rm5 (.ref (a 0) :: ps) [modR K a (flat F) g P L M] (some (.int (nI 0))) [modR K a (flat F) g P L (u2 (u2 M 0 2 (nI 0)) 0 2 (nI j))]) :
    PairW l K yL wsL y5 ws5 rm5 ps tl tg o b nA aA a d e F Ga D S T g P L M lf B :=
  PairW.mk1 hj hW hm (u2_s _ _ _ _) (fun z => absurd z h0) (hR.ke (Ke.th2 M _ _))
theorem PairW.sv {v : Int32} {F1 Ga1 : FF} {g1 : Nat → Int32} (hR : Rel B k nt F D S T P L M) (hI : IE (B + 7000) F1)
    (hW : CtW l K yL wsL rmL (.ref (b 0) :: (ps ++ [.ref o])) (outW K o lf :: corkW K b nA aA d e F Ga D S T) (some (.int (nI 0))) (outW K o (vp_updL lf 0 v.toInt64) :: corkW K b nA aA d (pushE k e) F1 Ga1 D (pushS k S F) (pushT k T)) tl tg)
    (hm : Ct l K y5 ws5 rm5 (.ref (a 0) :: ps) [modR K a (flat F) g P L M] (some (.int v)) [modR K a (flat F1) g1 (pSv k P (flat F)) L (pushT k (u2 M 0 2 (nI 0)))]) :
    PairW l K yL wsL y5 ws5 rm5 ps tl tg o b nA aA a d e F Ga D S T g P L M lf B :=
  PairW.mk1 (by decide) hW hm (push_02 k M _) (fun _ => updL_0 _ _) (hR.save hI _)
theorem PairW.rd {v : Int32} {Ga1 : FF} {g1 : Nat → Int32} (hR : Rel B k nt F D S T P L M)
    (hW : CtW l K yL wsL rmL (.ref (b 0) :: (ps ++ [.ref o])) (outW K o lf :: corkW K b nA aA d e F Ga D S T) (some (.int (nI 0))) (outW K o (vp_updL lf 0 v.toInt64) :: corkW K b nA aA d e F Ga1 D S T) tl tg)
    (hm : Ct l K y5 ws5 rm5 (.ref (a 0) :: ps) [modR K a (flat F) g P L M] (some (.int v)) [modR K a (flat F) g1 P L (u2 M 0 2 (nI 0))]) :
    PairW l K yL wsL y5 ws5 rm5 ps tl tg o b nA aA a d e F Ga D S T g P L M lf B :=
  PairW.mk1 (by decide) hW hm (u2_s _ _ _ _) (fun _ => updL_0 _ _) (hR.ke (Ke.th M _))
theorem pr_house (hst : l.stackTraces = false) (hR : Rel B k nt F D S T P L M) (hB : B < 2 ^ 26) : PairW l K yL_house wsL_house yX5_house wsX5_house rmX5_house [] tl tg o b nA aA a d e F Ga D S T g P L M lf B := by
  obtain ⟨⟨hn, n, N, hv⟩, hs, hp, hd⟩ := id hR
  by_cases c : hn < 4
  · exact PairW.sv hR ⟨hn + 1, n, N, (hv.house c).mono (by omega)⟩ (wL_house l lf rfl ⟨by decide, by decide, by decide, by decide⟩ (CtL.of tl tg (mX4_house l K b nA aA d e F Ga D S T hs.1.1 hs.1.2.1 hv.1.1 c))) (mX5_house l K a F g P L M hv hs.1.1 hs.1.2.2 c)
  · have e4 : F 0 1 = nI 4 := by rw [hv.1.1]; congr 1; have := hv.1.2; omega
    exact PairW.thr 1 (by decide) (by decide) hR (wL_house_t1 l lf rfl ⟨by decide, by decide, by decide, by decide⟩ (CtTL.of tl tg (tX4_house l hst K b nA aA d e F Ga D S T (by rw [e4]; decide)))) (mX5_house_no l K a F g P L M e4)
theorem pr_bottles (hst : l.stackTraces = false) (hR : Rel B k nt F D S T P L M) (hB : B < 2 ^ 26) (x1 x2 : Int32) : PairW l K yL_bottles wsL_bottles yX5_bottles wsX5_bottles rmX5_bottles [.int x1, .int x2] tl tg o b nA aA a d e F Ga D S T g P L M lf B := by
  obtain ⟨⟨hn, n, N, hv⟩, hs, hp, hd⟩ := id hR
  rcases rngI 2 (by decide) x1 with ⟨c, hc, rfl⟩ | ⟨h1, h2⟩
  · rcases rngLH 0 20 (by decide) (by decide) x2 with ⟨m, -, hm, rfl⟩ | ⟨h1, h2⟩
    · by_cases q : F 3 c + outK F c ≤ nI m
      · exact PairW.sv hR ⟨hn, n, N, (hv.u (Or.inr (Or.inr (Or.inl rfl)))).mono (by omega)⟩ (wL_bottles l _ _ lf rfl ⟨by decide, by decide, by decide, by decide⟩ (CtL.of tl tg (mX4_bottles l K b nA aA d e F Ga D S T hs.1.1 hs.1.2.1 hc hm q))) (mX5_bottles l K a F g P L M hv hs.1.1 hs.1.2.2 hc hm q)
      · exact PairW.thr 3 (by decide) (by decide) hR (wL_bottles_t3 l _ _ lf rfl ⟨by decide, by decide, by decide, by decide⟩ (CtTL.of tl tg (tX4_bottles_state l hst K b nA aA d e F Ga D S T hc hm q))) (mX5_bottles_state l K a F g P L M hv hc hm q)
    · exact PairW.thr 2 (by decide) (by decide) hR (wL_bottles_t2 l _ _ lf rfl ⟨by decide, by decide, by decide, by decide⟩ (CtTL.of tl tg (tX4_bottles_many l hst K b nA aA d e F Ga D S T hc h1))) (mX5_bottles_many l K a F g P L M hc h2)
  · exact PairW.thr 1 (by decide) (by decide) hR (wL_bottles_t1 l _ _ lf rfl ⟨by decide, by decide, by decide, by decide⟩ (CtTL.of tl tg (tX4_bottles_kind l hst K b nA aA d e F Ga D S T h1 _))) (mX5_bottles_kind l K a F g P L M h2 _)
theorem pr_lend (hst : l.stackTraces = false) (hR : Rel B k nt F D S T P L M) (hB : B < 2 ^ 26) (x1 x2 : Int32) : PairW l K yL_lend wsL_lend yX5_lend wsX5_lend rmX5_lend [.int x1, .int x2] tl tg o b nA aA a d e F Ga D S T g P L M lf B := by
  obtain ⟨⟨hn, n, N, hv⟩, hs, hp, hd⟩ := id hR
  by_cases q : isPl F x1 x2
  · have q2 := (pl_pr hv).mp q
    obtain ⟨h, c, hh, hc, rfl, rfl⟩ := pr_of hv q2
    have h4 : h < 4 := by have := hv.1.2; omega
    have ep : 3 * h + c = h * 3 + c := by omega
    by_cases z : canLendS F c
    · obtain ⟨n', N', -, hv'⟩ := hv.lend (by omega) (p := h * 3 + c) (by omega) (room_lt hv.2.1.1 z.2 hv.2.1.2)
      have hm := mX5_lend l K a F g P L M hv hs.1.1 hs.1.2.2 h4 hc q2 z
      rw [ep] at hm
      exact PairW.sv hR ⟨hn, n', N', hv'.mono (by omega)⟩ (wL_lend l _ _ lf rfl ⟨by decide, by decide, by decide, by decide⟩ (CtL.of tl tg (mX4_lend l K b nA aA d e F Ga D S T hs.1.1 hs.1.2.1 h4 hc q hv.2.1.1 hv.2.1.2 z))) hm
    · exact PairW.thr 2 (by decide) (by decide) hR (wL_lend_t2 l _ _ lf rfl ⟨by decide, by decide, by decide, by decide⟩ (CtTL.of tl tg (tX4_lend_state l hst K b nA aA d e F Ga D S T h4 hc q z))) (mX5_lend_state l K a F g P L M hv h4 hc q2 z)
  · exact PairW.thr 1 (by decide) (by decide) hR (wL_lend_t1 l _ _ lf rfl ⟨by decide, by decide, by decide, by decide⟩ (CtTL.of tl tg (tX4_lend_pl l hst K b nA aA d e F Ga D S T q))) (mX5_lend_pl l K a F g P L M (fun z => q ((pl_pr hv).mpr z)))
theorem pr_ask (hst : l.stackTraces = false) (hR : Rel B k nt F D S T P L M) (hB : B < 2 ^ 26) (x1 x2 : Int32) : PairW l K yL_ask wsL_ask yX5_ask wsX5_ask rmX5_ask [.int x1, .int x2] tl tg o b nA aA a d e F Ga D S T g P L M lf B := by
  obtain ⟨⟨hn, n, N, hv⟩, hs, hp, hd⟩ := id hR
  by_cases q : isPl F x1 x2
  · have q2 := (pl_pr hv).mp q
    obtain ⟨h, c, hh, hc, rfl, rfl⟩ := pr_of hv q2
    have h4 : h < 4 := by have := hv.1.2; omega
    have ep : 3 * h + c = h * 3 + c := by omega
    by_cases z : roomS F
    · obtain ⟨n', N', -, hv'⟩ := hv.ask (p := h * 3 + c) (by omega) (room_lt hv.2.1.1 z hv.2.1.2)
      have hm := mX5_ask l K a F g P L M hv hs.1.1 hs.1.2.2 h4 hc q2 z
      rw [ep] at hm
      exact PairW.sv hR ⟨hn, n', N', hv'.mono (by omega)⟩ (wL_ask l _ _ lf rfl ⟨by decide, by decide, by decide, by decide⟩ (CtL.of tl tg (mX4_ask l K b nA aA d e F Ga D S T hs.1.1 hs.1.2.1 h4 hc q hv.2.1.1 hv.2.1.2 z))) hm
    · exact PairW.thr 2 (by decide) (by decide) hR (wL_ask_t2 l _ _ lf rfl ⟨by decide, by decide, by decide, by decide⟩ (CtTL.of tl tg (tX4_ask_state l hst K b nA aA d e F Ga D S T h4 hc q z))) (mX5_ask_state l K a F g P L M h4 hc q2 z)
  · exact PairW.thr 1 (by decide) (by decide) hR (wL_ask_t1 l _ _ lf rfl ⟨by decide, by decide, by decide, by decide⟩ (CtTL.of tl tg (tX4_ask_pl l hst K b nA aA d e F Ga D S T q))) (mX5_ask_pl l K a F g P L M (fun z => q ((pl_pr hv).mpr z)))
theorem pr_want (hst : l.stackTraces = false) (hR : Rel B k nt F D S T P L M) (hB : B < 2 ^ 26) (x1 x2 : Int32) : PairW l K yL_want wsL_want yX5_want wsX5_want rmX5_want [.int x1, .int x2] tl tg o b nA aA a d e F Ga D S T g P L M lf B := by
  obtain ⟨⟨hn, n, N, hv⟩, hs, hp, hd⟩ := id hR
  by_cases q : isPl F x1 x2
  · have q2 := (pl_pr hv).mp q
    obtain ⟨h, c, hh, hc, rfl, rfl⟩ := pr_of hv q2
    have h4 : h < 4 := by have := hv.1.2; omega
    have ep : 3 * h + c = h * 3 + c := by omega
    have hN := (hv.p (p := h * 3 + c) (by omega)).2.2.2.2
    have eF : F 11 (h * 3 + c) = nI (N 11 (h * 3 + c)) := hv.F11 (by omega)
    by_cases z : N 11 (h * 3 + c) = 9
    · rw [z] at eF
      have hm := mX5_want_state l K a F g P L M h4 hc q2 (by rw [ep]; exact eF)
      exact PairW.thr 2 (by decide) (by decide) hR (wL_want_t2 l _ _ lf rfl ⟨by decide, by decide, by decide, by decide⟩ (CtTL.of tl tg (tX4_want_state l hst K b nA aA d e F Ga D S T h4 hc q (by rw [eF]; decide)))) hm
    · have z1 : ¬ nI 9 ≤ F 11 (h * 3 + c) := by
        rw [eF]
        exact Int32.not_le.mpr ((nI_ltI (by omega) (by decide)).mpr (by omega))
      have z2 : ¬ F 11 (h * 3 + c) = nI 9 := by
        rw [eF]
        exact fun w => z ((nI_eq (by omega) (by decide)).mp w)
      obtain ⟨N', hv'⟩ := hv.want (p := h * 3 + c) (by omega) z1
      have hm := mX5_want l K a F g P L M hs.1.1 hs.1.2.2 h4 hc q2 (by rw [ep]; exact z2)
      rw [ep] at hm
      exact PairW.sv hR ⟨hn, n, N', hv'.mono (by omega)⟩ (wL_want l _ _ lf rfl ⟨by decide, by decide, by decide, by decide⟩ (CtL.of tl tg (mX4_want l K b nA aA d e F Ga D S T hs.1.1 hs.1.2.1 h4 hc q z1))) hm
  · exact PairW.thr 1 (by decide) (by decide) hR (wL_want_t1 l _ _ lf rfl ⟨by decide, by decide, by decide, by decide⟩ (CtTL.of tl tg (tX4_want_pl l hst K b nA aA d e F Ga D S T q))) (mX5_want_pl l K a F g P L M (fun z => q ((pl_pr hv).mpr z)))
theorem full_lt {B hn n : Nat} {F : FF} {N : Nat → Nat → Nat} (hv : InvN B F hn n N) (hB : B < 2 ^ 26) {c : Nat} (hc : c < 3) : N 3 c ≤ N 5 c ∧ N 5 c + N 6 c = s8 N c ∧ s8 N c ≤ 4 * B := by
  have h := hv.2.2.2.2.2.2.2.2 c hc
  refine ⟨h.1, h.2, ?_⟩
  have a1 := hv.p (p := c) (by omega)
  have a2 := hv.p (p := c + 3) (by omega)
  have a3 := hv.p (p := c + 6) (by omega)
  have a4 := hv.p (p := c + 9) (by omega)
  unfold s8
  omega
theorem pr_drink (hst : l.stackTraces = false) (hR : Rel B k nt F D S T P L M) (hB : B < 2 ^ 26) (x1 : Int32) : PairW l K yL_drink wsL_drink yX5_drink wsX5_drink rmX5_drink [.int x1] tl tg o b nA aA a d e F Ga D S T g P L M lf B := by
  obtain ⟨⟨hn, n, N, hv⟩, hs, hp, hd⟩ := id hR
  rcases rngI 2 (by decide) x1 with ⟨c, hc, rfl⟩ | ⟨h1, h2⟩
  · have hf := full_lt hv hB hc
    have eF := hv.F3 hc
    by_cases z : N 3 c = 0
    · rw [z] at eF
      exact PairW.thr 2 (by decide) (by decide) hR (wL_drink_t2 l _ lf rfl ⟨by decide, by decide, by decide, by decide⟩ (CtTL.of tl tg (tX4_drink_state l hst K b nA aA d e F Ga D S T hc (by rw [eF]; decide)))) (mX5_drink_state l K a F g P L M hc eF)
    · have z1 : 0 < F 3 c := by rw [eF]; exact (nI_0lt (by omega)).mpr (by omega)
      have z2 : ¬ F 3 c = 0 := by rw [eF]; exact fun w => z ((nI_e0 (by omega)).mp w)
      obtain ⟨N', hv'⟩ := hv.drink (by omega) hc z1
      exact PairW.sv hR ⟨hn, n, N', hv'.mono (by omega)⟩ (wL_drink l _ lf rfl ⟨by decide, by decide, by decide, by decide⟩ (CtL.of tl tg (mX4_drink l K b nA aA d e F Ga D S T hs.1.1 hs.1.2.1 hc z1))) (mX5_drink l K a F g P L M hs.1.1 hs.1.2.2 hc z2)
  · exact PairW.thr 1 (by decide) (by decide) hR (wL_drink_t1 l _ lf rfl ⟨by decide, by decide, by decide, by decide⟩ (CtTL.of tl tg (tX4_drink_kind l hst K b nA aA d e F Ga D S T h1))) (mX5_drink_kind l K a F g P L M h2)
theorem pr_pass (hst : l.stackTraces = false) (hR : Rel B k nt F D S T P L M) (hB : B < 2 ^ 26) (x1 : Int32) : PairW l K yL_pass wsL_pass yX5_pass wsX5_pass rmX5_pass [.int x1] tl tg o b nA aA a d e F Ga D S T g P L M lf B := by
  obtain ⟨⟨hn, n, N, hv⟩, hs, hp, hd⟩ := id hR
  rcases rngLH 1 60 (by decide) (by decide) x1 with ⟨t, t1, t2, rfl⟩ | ⟨h1, h2⟩
  · by_cases z : F 0 0 + nI t ≤ nI 9999
    · obtain ⟨n', N', hv'⟩ := InvN.ticks t B hv (by omega)
      exact PairW.sv hR ⟨hn, n', N', hv'.mono (by omega)⟩ (wL_pass l _ lf rfl ⟨by decide, by decide, by decide, by decide⟩ (CtL.of tl tg (mX4_pass l K b nA aA d e F Ga D S T hs.1.1 hs.1.2.1 hv.sh t1 t2 z))) (mX5_pass l K a F g P L M hv hs.1.1 hs.1.2.2 t1 t2 (by omega) z)
    · exact PairW.thr 2 (by decide) (by decide) hR (wL_pass_t2 l _ lf rfl ⟨by decide, by decide, by decide, by decide⟩ (CtTL.of tl tg (tX4_pass_state l hst K b nA aA d e F Ga D S T t1 t2 z))) (mX5_pass_state l K a F g P L M t1 t2 z)
  · exact PairW.thr 1 (by decide) (by decide) hR (wL_pass_t1 l _ lf rfl ⟨by decide, by decide, by decide, by decide⟩ (CtTL.of tl tg (tX4_pass_ticks l hst K b nA aA d e F Ga D S T h1))) (mX5_pass_ticks l K a F g P L M h2)
theorem pr_set (hst : l.stackTraces = false) (hR : Rel B k nt F D S T P L M) (hB : B < 2 ^ 26) (x1 x2 : Int32) : PairW l K yL_set wsL_set yX5_set wsX5_set rmX5_set [.int x1, .int x2] tl tg o b nA aA a d e F Ga D S T g P L M lf B := by
  obtain ⟨⟨hn, n, N, hv⟩, hs, hp, hd⟩ := id hR
  rcases rngI 2 (by decide) x1 with ⟨c, hc, rfl⟩ | ⟨h1, h2⟩
  · rcases (show c = 0 ∨ c = 1 ∨ c = 2 by omega) with rfl | rfl | rfl
    · by_cases z : ¬ x2 < nI 1 ∧ ¬ nI 9 < x2
      · exact PairW.sv hR ⟨hn, n, N, (hv.u (Or.inr (Or.inl ⟨rfl, Or.inr (fun w => z.1 (by rw [w]; decide))⟩))).mono (by omega)⟩ (wL_set l _ _ lf rfl ⟨by decide, by decide, by decide, by decide⟩ (mX4_set l K b nA aA d e F Ga D S T hs.1.1 hs.1.2.1 hc z.1 (Int32.not_lt.mp z.2) tl tg)) (mX5_set_0 l K a F g P L M hs.1.1 hs.1.2.2 z.1 z.2)
      · exact PairW.thr 2 (by decide) (by decide) hR (wL_set_t2 l _ _ lf rfl ⟨by decide, by decide, by decide, by decide⟩ (tX4_set_value l hst K b nA aA d e F Ga D S T hc (by by_cases w : x2 < nI 1; exact Or.inl w; exact Or.inr (Classical.not_not.mp fun u => z ⟨w, u⟩)) tl tg)) (mX5_set_0_value l K a F g P L M z)
    · by_cases z : ¬ x2 < nI 0 ∧ ¬ nI 99 < x2
      · exact PairW.sv hR ⟨hn, n, N, (hv.u (Or.inr (Or.inl ⟨rfl, Or.inl (by decide)⟩))).mono (by omega)⟩ (wL_set l _ _ lf rfl ⟨by decide, by decide, by decide, by decide⟩ (mX4_set l K b nA aA d e F Ga D S T hs.1.1 hs.1.2.1 hc z.1 (Int32.not_lt.mp z.2) tl tg)) (mX5_set_1 l K a F g P L M hs.1.1 hs.1.2.2 z.1 z.2)
      · exact PairW.thr 2 (by decide) (by decide) hR (wL_set_t2 l _ _ lf rfl ⟨by decide, by decide, by decide, by decide⟩ (tX4_set_value l hst K b nA aA d e F Ga D S T hc (by by_cases w : x2 < nI 0; exact Or.inl w; exact Or.inr (Classical.not_not.mp fun u => z ⟨w, u⟩)) tl tg)) (mX5_set_1_value l K a F g P L M z)
    · by_cases z : ¬ x2 < nI 0 ∧ ¬ nI 9 < x2
      · exact PairW.sv hR ⟨hn, n, N, (hv.u (Or.inr (Or.inl ⟨rfl, Or.inl (by decide)⟩))).mono (by omega)⟩ (wL_set l _ _ lf rfl ⟨by decide, by decide, by decide, by decide⟩ (mX4_set l K b nA aA d e F Ga D S T hs.1.1 hs.1.2.1 hc z.1 (Int32.not_lt.mp z.2) tl tg)) (mX5_set_2 l K a F g P L M hs.1.1 hs.1.2.2 z.1 z.2)
      · exact PairW.thr 2 (by decide) (by decide) hR (wL_set_t2 l _ _ lf rfl ⟨by decide, by decide, by decide, by decide⟩ (tX4_set_value l hst K b nA aA d e F Ga D S T hc (by by_cases w : x2 < nI 0; exact Or.inl w; exact Or.inr (Classical.not_not.mp fun u => z ⟨w, u⟩)) tl tg)) (mX5_set_2_value l K a F g P L M z)
  · exact PairW.thr 1 (by decide) (by decide) hR (wL_set_t1 l _ _ lf rfl ⟨by decide, by decide, by decide, by decide⟩ (CtTL.of tl tg (tX4_set_setting l hst K b nA aA d e F Ga D S T h1 _))) (mX5_set_setting l K a F g P L M h2 _)
theorem pr_append (hst : l.stackTraces = false) (hR : Rel B k nt F D S T P L M) (hB : B < 2 ^ 26) (x1 : Int32) : PairW l K yL_append wsL_append yX5_append wsX5_append rmX5_append [.int x1] tl tg o b nA aA a d e F Ga D S T g P L M lf B := by
  obtain ⟨⟨hn, n, N, hv⟩, hs, hp, hd⟩ := id hR
  by_cases z : ¬ x1 < nI 33 ∧ ¬ nI 126 < x1
  · by_cases w : nt < 60
    · refine PairW.mk1 (by decide) (wL_append l _ lf rfl ⟨by decide, by decide, by decide, by decide⟩ (CtL.of tl tg (mX4_append l K b nA aA d e F Ga D S T z.1 (Int32.not_lt.mp z.2) hs.2.1.2.1 w))) (mX5_append l K a F g P L M z.1 z.2 hs.2.1.2.2 w) ?_ (fun _ => updL_0 _ _) (k' := k) (nt' := nt + 1) (Rel.mono (B := B) ⟨hR.1, ((hs.ke (Ke.th M (nI 0))).app nt x1).len (by omega), hp, ?_⟩ (by omega))
      · rw [u2_12, if_neg (by decide), u2_i (by decide), u2_s]
      · exact hd.one (by rw [u2_i (by decide), u2_i (by decide), u2_i (by decide)])
    · have e6 : nt = 60 := by have := hs.2.1.1; omega
      subst e6
      exact PairW.thr 2 (by decide) (by decide) hR (wL_append_t2 l _ lf rfl ⟨by decide, by decide, by decide, by decide⟩ (CtTL.of tl tg (tX4_append_state l hst K b nA aA d e F Ga D S T z.1 (Int32.not_lt.mp z.2) (by rw [hs.2.1.2.1]; decide)))) (mX5_append_state l K a F g P L M z.1 z.2 hs.2.1.2.2)
  · exact PairW.thr 1 (by decide) (by decide) hR (wL_append_t1 l _ lf rfl ⟨by decide, by decide, by decide, by decide⟩ (CtTL.of tl tg (tX4_append_code l hst K b nA aA d e F Ga D S T (by by_cases w : x1 < nI 33; exact Or.inl w; exact Or.inr (Classical.not_not.mp fun u => z ⟨w, u⟩))))) (mX5_append_code l K a F g P L M z)
theorem pr_keep (hst : l.stackTraces = false) (hR : Rel B k nt F D S T P L M) (hB : B < 2 ^ 26) (x1 : Int32) : PairW l K yL_keep wsL_keep yX5_keep wsX5_keep rmX5_keep [.int x1] tl tg o b nA aA a d e F Ga D S T g P L M lf B := by
  obtain ⟨⟨hn, n, N, hv⟩, hs, hp, hd⟩ := id hR
  rcases rngI 1 (by decide) x1 with ⟨c, hc, rfl⟩ | ⟨h1, h2⟩
  · rcases (show c = 0 ∨ c = 1 by omega) with rfl | rfl
    · exact PairW.mk1 (by decide) (wL_keep l _ lf rfl ⟨by decide, by decide, by decide, by decide⟩ (CtL.of tl tg (mX4_keep_0 l K b nA aA d e F Ga D S T))) (mX5_keep_0 l K a F g P L M) (by rw [u2_12, if_neg (by decide), u2_s]) (fun _ => updL_0 _ _) (k' := k) (nt' := nt) (Rel.mono (B := B) ⟨hR.1, (hs.ke (Ke.th M (nI 0))).tak 0, hp, (hd.ke (Ke.th M (nI 0))).keep hR.1 (by decide)⟩ (by omega))
    · exact PairW.mk1 (by decide) (wL_keep l _ lf rfl ⟨by decide, by decide, by decide, by decide⟩ (CtL.of tl tg (mX4_keep_1 l K b nA aA d e F Ga D S T))) (mX5_keep_1 l K a F g P L M) (by rw [u2_12, if_neg (by decide), u2_s]) (fun _ => updL_0 _ _) (k' := k) (nt' := nt) (Rel.mono (B := B) ⟨hR.1, (hs.ke (Ke.th M (nI 0))).tak 1, hp, (hd.ke (Ke.th M (nI 0))).keep hR.1 (by decide)⟩ (by omega))
  · exact PairW.thr 1 (by decide) (by decide) hR (wL_keep_t1 l _ lf rfl ⟨by decide, by decide, by decide, by decide⟩ (CtTL.of tl tg (tX4_keep_slot l hst K b nA aA d e F Ga D S T h1))) (mX5_keep_slot l K a F g P L M h2)
theorem pr_goBack (hst : l.stackTraces = false) (hR : Rel B k nt F D S T P L M) (hB : B < 2 ^ 26) (x1 : Int32) : PairW l K yL_goBack wsL_goBack yX5_goBack wsX5_goBack rmX5_goBack [.int x1] tl tg o b nA aA a d e F Ga D S T g P L M lf B := by
  obtain ⟨⟨hn, n, N, hv⟩, hs, hp, hd⟩ := id hR
  have e1 : ∀ i, T 1 i = M 1 i := fun i => by rw [hs.2.2.1]
  rcases rngI 1 (by decide) x1 with ⟨c, hc, rfl⟩ | ⟨h1, h2⟩
  · rcases (show c = 0 ∨ c = 1 by omega) with rfl | rfl
    · by_cases z : M 1 0 = 0
      · exact PairW.thr 2 (by decide) (by decide) hR (wL_goBack_t2 l _ lf rfl ⟨by decide, by decide, by decide, by decide⟩ (CtTL.of tl tg (tX4_goBack_state_0 l hst K b nA aA d e F Ga D S T (by rw [e1]; exact z)))) (mX5_goBack_state_0 l K a F g P L M z)
      · exact PairW.sv hR ((hd 0 (by decide) z).2.mono (by omega)) (wL_goBack l _ lf rfl ⟨by decide, by decide, by decide, by decide⟩ (CtL.of tl tg (mX4_goBack_0 l K b nA aA d e F Ga D S T hs.1.1 hs.1.2.1 (by rw [e1]; exact z)))) (mX5_goBack_0 l K a F g P L M hs.1.1 hs.1.2.2 (hd 0 (by decide) z).1 z)
    · by_cases z : M 1 1 = 0
      · exact PairW.thr 2 (by decide) (by decide) hR (wL_goBack_t2 l _ lf rfl ⟨by decide, by decide, by decide, by decide⟩ (CtTL.of tl tg (tX4_goBack_state_1 l hst K b nA aA d e F Ga D S T (by rw [e1]; exact z)))) (mX5_goBack_state_1 l K a F g P L M z)
      · exact PairW.sv hR ((hd 1 (by decide) z).2.mono (by omega)) (wL_goBack l _ lf rfl ⟨by decide, by decide, by decide, by decide⟩ (CtL.of tl tg (mX4_goBack_1 l K b nA aA d e F Ga D S T hs.1.1 hs.1.2.1 (by rw [e1]; exact z)))) (mX5_goBack_1 l K a F g P L M hs.1.1 hs.1.2.2 (hd 1 (by decide) z).1 z)
  · exact PairW.thr 1 (by decide) (by decide) hR (wL_goBack_t1 l _ lf rfl ⟨by decide, by decide, by decide, by decide⟩ (CtTL.of tl tg (tX4_goBack_slot l hst K b nA aA d e F Ga D S T h1))) (mX5_goBack_slot l K a F g P L M h2)
theorem pr_undo (hst : l.stackTraces = false) (hR : Rel B k nt F D S T P L M) (hB : B < 2 ^ 26) : PairW l K yL_undo wsL_undo yX5_undo wsX5_undo rmX5_undo [] tl tg o b nA aA a d e F Ga D S T g P L M lf B := by
  obtain ⟨⟨hn, n, N, hv⟩, hs, hp, hd⟩ := id hR
  rcases k with _ | k
  · exact PairW.thr 1 (by decide) (by decide) hR (wL_undo_t1 l lf rfl ⟨by decide, by decide, by decide, by decide⟩ (CtTL.of tl tg (tX4_undo l hst K b nA aA d e F Ga D S T (by rw [hs.1.2.1]; decide)))) (mX5_undo_no l K a F g P L M hs.1.2.2)
  · have h6 : k < 6 := by have := hs.1.1; omega
    have hk := hp k (by omega)
    refine PairW.mk1 (by decide) (wL_undo l lf rfl ⟨by decide, by decide, by decide, by decide⟩ (CtL.of tl tg (mX4_undo l K b nA aA d e F Ga D S T h6 hs.1.2.1))) (mX5_undo l K a F g P L M h6 hs.1.2.2 hk.1) ?_ (fun _ => updL_0 _ _) (k' := k) (nt' := nt) (Rel.mono (B := B) ⟨hk.2, (hs.ke (Ke.th M (nI 0))).sav (by omega), fun i hi => hp i (by omega), ?_⟩ (by omega))
    · rw [u2_12, if_neg (by decide), u2_s]
    · exact hd.one (by rw [u2_i (by decide), u2_i (by decide)])
theorem pr_kind (hst : l.stackTraces = false) (hR : Rel B k nt F D S T P L M) (hB : B < 2 ^ 26) (x1 x2 : Int32) : PairW l K yL_kind wsL_kind yX5_kind wsX5_kind rmX5_kind [.int x1, .int x2] tl tg o b nA aA a d e F Ga D S T g P L M lf B := by
  obtain ⟨⟨hn, n, N, hv⟩, hs, hp, hd⟩ := id hR
  rcases rngI 2 (by decide) x1 with ⟨c, hc, rfl⟩ | ⟨h1, h2⟩
  · rcases rngI 6 (by decide) x2 with ⟨w, hw, rfl⟩ | ⟨h1, h2⟩
    · exact PairW.rd hR (wL_kind l _ _ lf rfl ⟨by decide, by decide, by decide, by decide⟩ (CtL.of tl tg (mX4_kind l K b nA aA d e F Ga D S T hc hw))) (mX5_kind l K a F g P L M hv hc hw)
    · exact PairW.thr 2 (by decide) (by decide) hR (wL_kind_t2 l _ _ lf rfl ⟨by decide, by decide, by decide, by decide⟩ (CtTL.of tl tg (tX4_kind_what l hst K b nA aA d e F Ga D S T hc h1))) (mX5_kind_what l K a F g P L M hc h2)
  · exact PairW.thr 1 (by decide) (by decide) hR (wL_kind_t1 l _ _ lf rfl ⟨by decide, by decide, by decide, by decide⟩ (CtTL.of tl tg (tX4_kind_kind l hst K b nA aA d e F Ga D S T h1 _))) (mX5_kind_kind l K a F g P L M h2 _)
theorem pr_houseOf (hst : l.stackTraces = false) (hR : Rel B k nt F D S T P L M) (hB : B < 2 ^ 26) (x1 x2 x3 : Int32) : PairW l K yL_houseOf wsL_houseOf yX5_houseOf wsX5_houseOf rmX5_houseOf [.int x1, .int x2, .int x3] tl tg o b nA aA a d e F Ga D S T g P L M lf B := by
  obtain ⟨⟨hn, n, N, hv⟩, hs, hp, hd⟩ := id hR
  by_cases q : isPl F x1 x2
  · have q2 := (pl_pr hv).mp q
    obtain ⟨h, c, hh, hc, rfl, rfl⟩ := pr_of hv q2
    have h4 : h < 4 := by have := hv.1.2; omega
    have ep : 3 * h + c = h * 3 + c := by omega
    rcases rngI 9 (by decide) x3 with ⟨w, hw, rfl⟩ | ⟨h1, h2⟩
    · have hm := mX5_houseOf l K a F g P L M hv (by omega) h4 hc q2 hw
      rw [ep] at hm
      exact PairW.rd hR (wL_houseOf l _ _ _ lf rfl ⟨by decide, by decide, by decide, by decide⟩ (CtL.of tl tg (mX4_houseOf l K b nA aA d e F Ga D S T h4 hc q hw))) hm
    · exact PairW.thr 2 (by decide) (by decide) hR (wL_houseOf_t2 l _ _ _ lf rfl ⟨by decide, by decide, by decide, by decide⟩ (CtTL.of tl tg (tX4_houseOf_what l hst K b nA aA d e F Ga D S T h4 hc q h1))) (mX5_houseOf_what l K a F g P L M h4 hc q2 h2)
  · exact PairW.thr 1 (by decide) (by decide) hR (wL_houseOf_t1 l _ _ _ lf rfl ⟨by decide, by decide, by decide, by decide⟩ (CtTL.of tl tg (tX4_houseOf_pl l hst K b nA aA d e F Ga D S T q _))) (mX5_houseOf_pl l K a F g P L M (fun z => q ((pl_pr hv).mpr z)) _)
theorem pr_letter (hst : l.stackTraces = false) (hR : Rel B k nt F D S T P L M) (hB : B < 2 ^ 26) (x1 x2 : Int32) : PairW l K yL_letter wsL_letter yX5_letter wsX5_letter rmX5_letter [.int x1, .int x2] tl tg o b nA aA a d e F Ga D S T g P L M lf B := by
  obtain ⟨⟨hn, n, N, hv⟩, hs, hp, hd⟩ := id hR
  by_cases q : x1 < 0
  · exact PairW.thr 1 (by decide) (by decide) hR (wL_letter_t1 l _ _ lf rfl ⟨by decide, by decide, by decide, by decide⟩ (CtTL.of tl tg (tX4_letter_rank l hst K b nA aA d e F Ga D S T (Int32.not_le.mpr q) _))) (mX5_letter_rank l K a F g P L M q _)
  · rcases rngI 4 (by decide) x2 with ⟨w, hw, rfl⟩ | ⟨h1, h2⟩
    · obtain ⟨r, hr, rfl⟩ := nI_of q
      exact PairW.rd hR (wL_letter l _ _ lf rfl ⟨by decide, by decide, by decide, by decide⟩ (CtL.of tl tg (mX4_letter l K b nA aA d e F Ga D S T hv.2.1.1 hv.2.1.2 hr hw))) (mX5_letter l K a F g P L M hv hr hw)
    · have hm := mX5_letter_what l K a F g P L M q h2
      obtain ⟨r, hr, rfl⟩ := nI_of q
      exact PairW.thr 1 (by decide) (by decide) hR (wL_letter_t1 l _ _ lf rfl ⟨by decide, by decide, by decide, by decide⟩ (CtTL.of tl tg (tX4_letter_what l hst K b nA aA d e F Ga D S T hr h1))) hm
theorem pr_count (hst : l.stackTraces = false) (hR : Rel B k nt F D S T P L M) (hB : B < 2 ^ 26) (x1 : Int32) : PairW l K yL_count wsL_count yX5_count wsX5_count rmX5_count [.int x1] tl tg o b nA aA a d e F Ga D S T g P L M lf B := by
  obtain ⟨⟨hn, n, N, hv⟩, hs, hp, hd⟩ := id hR
  rcases rngI 11 (by decide) x1 with ⟨w, hw, rfl⟩ | ⟨h1, h2⟩
  · have ec : countC F (u2 M 0 2 (nI 0)) = countC F T := (countC_cg (by rw [(Ke.th M (nI 0)).1, hs.1.2.1, hs.1.2.2]) F).symm
    have hm := mX5_count l K a F g P L M hv hw
    rw [ec] at hm
    exact PairW.rd hR (wL_count l _ lf rfl ⟨by decide, by decide, by decide, by decide⟩ (CtL.of tl tg (mX4_count l K b nA aA d e F Ga D S T hw))) hm
  · exact PairW.thr 1 (by decide) (by decide) hR (wL_count_t1 l _ lf rfl ⟨by decide, by decide, by decide, by decide⟩ (CtTL.of tl tg (tX4_count l hst K b nA aA d e F Ga D S T h1))) (mX5_count_no l K a F g P L M h2)
theorem pr_setting (hst : l.stackTraces = false) (hR : Rel B k nt F D S T P L M) (hB : B < 2 ^ 26) (x1 : Int32) : PairW l K yL_setting wsL_setting yX5_setting wsX5_setting rmX5_setting [.int x1] tl tg o b nA aA a d e F Ga D S T g P L M lf B := by
  rcases rngI 2 (by decide) x1 with ⟨w, hw, rfl⟩ | ⟨h1, h2⟩
  · exact PairW.rd hR (wL_setting l _ lf rfl ⟨by decide, by decide, by decide, by decide⟩ (CtL.of tl tg (mX4_setting l K b nA aA d e F Ga D S T hw))) (mX5_setting l K a F g P L M hw)
  · exact PairW.thr 1 (by decide) (by decide) hR (wL_setting_t1 l _ lf rfl ⟨by decide, by decide, by decide, by decide⟩ (CtTL.of tl tg (tX4_setting l hst K b nA aA d e F Ga D S T h1))) (mX5_setting_no l K a F g P L M h2)
theorem pr_ifPassed (hst : l.stackTraces = false) (hR : Rel B k nt F D S T P L M) (hB : B < 2 ^ 26) (x1 x2 : Int32) : PairW l K yL_ifPassed wsL_ifPassed yX5_ifPassed wsX5_ifPassed rmX5_ifPassed [.int x1, .int x2] tl tg o b nA aA a d e F Ga D S T g P L M lf B := by
  obtain ⟨⟨hn, n, N, hv⟩, hs, hp, hd⟩ := id hR
  rcases rngLH 1 60 (by decide) (by decide) x1 with ⟨t, t1, t2, rfl⟩ | ⟨h1, h2⟩
  · rcases rngI 3 (by decide) x2 with ⟨w, hw, rfl⟩ | ⟨h1, h2⟩
    · exact PairW.rd hR (wL_ifPassed l _ _ lf rfl ⟨by decide, by decide, by decide, by decide⟩ (CtL.of tl tg (mX4_ifPassed l K b nA aA d e F Ga D S T hv.sh t1 t2 hw))) (mX5_ifPassed l K a F g P L M hv t1 t2 (by omega) hw)
    · exact PairW.thr 1 (by decide) (by decide) hR (wL_ifPassed_t1 l _ _ lf rfl ⟨by decide, by decide, by decide, by decide⟩ (CtTL.of tl tg (tX4_ifPassed_what l hst K b nA aA d e F Ga D S T t1 t2 h1))) (mX5_ifPassed_what l K a F g P L M t1 t2 h2)
  · exact PairW.thr 1 (by decide) (by decide) hR (wL_ifPassed_t1 l _ _ lf rfl ⟨by decide, by decide, by decide, by decide⟩ (CtTL.of tl tg (tX4_ifPassed_ticks l hst K b nA aA d e F Ga D S T h1 _))) (mX5_ifPassed_ticks l K a F g P L M h2 _)
theorem pr_run (hst : l.stackTraces = false) (hR : Rel B k nt F D S T P L M) (hB : B < 2 ^ 26) : PairW l K yL_run wsL_run yX5_run wsX5_run rmX5_run [] tl tg o b nA aA a d e F Ga D S T g P L M lf B := by
  obtain ⟨⟨hn, n, N, hv⟩, hs, hp, hd⟩ := id hR
  have ea : awAt T nt = awAt M nt := aw_cg hs.2.2.2.1 nt
  by_cases z : ¬ nt = 0 ∧ awAt M nt = 0
  · have hW := wL_run (K := K) (o := o) l lf (w0 := corkW K b nA aA d e F Ga D S T) rfl ⟨by decide, by decide, by decide, by decide⟩ (CtL.of tl tg (mX4_run l K b nA aA d e F Ga D S T hs.1.1 hs.1.2.1 hv.sh hs.2.1.2.1 hs.2.1.1 (by rw [ea]; exact z)))
    have hm := mX5_run l K a F g P L M hv hs.1.1 hs.1.2.2 (by omega) hs.2.1.2.2 hs.2.1.1 z
    have er : runR (pushT k T) nt (nt + 1) 0 0 F = runR M nt (nt + 1) 0 0 F := runR_cg ((pushT_2 k T (by decide)).trans hs.2.2.2.1) nt _ _ _ _
    rw [er] at hW
    refine ⟨0, _, _, _, _, _, _, _, _, fun F2 g2 P2 L2 M2 => F2 = (runR M nt (nt + 1) 0 0 F).2 ∧ P2 = pSv k P (flat F) ∧ L2 = L ∧ ∃ M' n' N', M2 = u2 M' 0 1 (nI 0) ∧ Kp (pushT k (u2 M 0 2 (nI 0))) M' ∧ InvN (B + 7000) (runR M nt (nt + 1) 0 0 F).2 hn n' N', by decide, hW, CtP.mono hm (fun r w h => ?_), fun _ => updL_0 _ _, fun F2 g2 P2 L2 M2 h => ?_⟩
    · obtain ⟨M', n', N', rfl, rfl, hk, hi⟩ := h
      refine ⟨_, _, _, _, _, rfl, rfl, ?_, rfl, rfl, rfl, M', n', N', rfl, hk, hi⟩
      rw [u2_12, if_neg (by decide), hk.2 2 (by decide)]
      exact push_02 k M _
    · obtain ⟨rfl, rfl, rfl, M', n', N', rfl, hk, hi⟩ := h
      refine ⟨rfl, pushN k, 0, ⟨hn, n', N', hi⟩, (((hs.ke (Ke.th M (nI 0))).push).ke (Ke.kp hk)).len (by decide), (hp.push hR.1 hs.1.1).mono (by omega), (hd.mono (by omega)).one ?_⟩
      rw [u2_i (by decide), hk.1 1 (by decide), pushT_2 k _ (by decide), u2_i (by decide)]
  · refine ⟨1, nI 0, lf, e, F, Ga, D, S, T, fun F2 g2 P2 L2 M2 => F2 = F ∧ P2 = P ∧ L2 = L ∧ ∃ M', M2 = u2 M' 0 2 (nI 1) ∧ Kp (u2 M 0 2 (nI 0)) M', by decide, wL_run_t1 (K := K) (o := o) l lf (w0 := corkW K b nA aA d e F Ga D S T) rfl ⟨by decide, by decide, by decide, by decide⟩ (CtTL.of tl tg (tX4_run l hst K b nA aA d e F Ga D S T hs.2.1.2.1 hs.2.1.1 (by rw [ea]; exact z))), CtP.mono (mX5_run_no l K a F g P L M hs.2.1.2.2 hs.2.1.1 z) (fun r w h => ?_), fun z => absurd z (by decide), fun F2 g2 P2 L2 M2 h => ?_⟩
    · obtain ⟨M', rfl, rfl, hk⟩ := h
      exact ⟨_, _, _, _, _, rfl, rfl, u2_s _ _ _ _, rfl, rfl, rfl, M', rfl, hk⟩
    · obtain ⟨rfl, rfl, rfl, M', rfl, hk⟩ := h
      exact ⟨rfl, k, nt, hR.ke (((Ke.th M (nI 0)).tr (Ke.kp hk)).tr (Ke.th M' _))⟩
end PW
