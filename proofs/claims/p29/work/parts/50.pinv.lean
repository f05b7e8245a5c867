/-! the property's own bounds: bottles, letters sent and lost, what only grows; a tick keeps them -/
def q4 (f : Nat → Int32) (k : Nat) : Nat := nN (f k) + nN (f (k + 3)) + nN (f (k + 6)) + nN (f (k + 9))
def EB (F : FF) : Prop := ∀ k, k < 3 → ∃ b : Nat, F 2 k = nI b ∧ b ≤ 20 ∧ nN (F 3 k) + q4 (F 7) k ≤ b + q4 (F 8) k
def SL (C : Nat) (F : FF) : Prop := ∃ y x : Nat, F 0 2 = nI y ∧ F 0 3 = nI x ∧ x ≤ y ∧ y ≤ C
def Lf (F G : FF) : Prop := (∀ p, p < 12 → nN (F 10 p) ≤ nN (G 10 p)) ∧ (∀ k, k < 3 → nN (F 5 k) ≤ nN (G 5 k)) ∧ nN (F 0 3) ≤ nN (G 0 3)
section PV
variable {B C hn n : Nat} {F G : FF} {N : Nat → Nat → Nat}
theorem Lf.rf (F : FF) : Lf F F := ⟨fun _ _ => Nat.le_refl _, fun _ _ => Nat.le_refl _, Nat.le_refl _⟩
theorem Lf.tr {F G H : FF} (h : Lf F G) (g : Lf G H) : Lf F H := ⟨fun p hp => Nat.le_trans (h.1 p hp) (g.1 p hp), fun k hk => Nat.le_trans (h.2.1 k hk) (g.2.1 k hk), Nat.le_trans h.2.2 g.2.2⟩
theorem Lf.cg (e10 : G 10 = F 10) (e5 : G 5 = F 5) (e3 : G 0 3 = F 0 3) : Lf F G := ⟨fun p _ => by rw [e10]; exact Nat.le_refl _, fun k _ => by rw [e5]; exact Nat.le_refl _, by rw [e3]; exact Nat.le_refl _⟩
theorem EB.cg (h : EB F) (e2 : G 2 = F 2) (e3 : G 3 = F 3) (e7 : G 7 = F 7) (e8 : G 8 = F 8) : EB G := by
  intro k hk
  rw [e2, e3, e7, e8]
  exact h k hk
theorem SL.cg (h : SL C F) (e2 : G 0 2 = F 0 2) (e3 : G 0 3 = F 0 3) : SL C G := by
  unfold SL
  rw [e2, e3]
  exact h
theorem SL.mono (h : SL C F) {D : Nat} (hC : C ≤ D) : SL D F := by
  obtain ⟨y, x, e1, e2, h1, h2⟩ := h
  exact ⟨y, x, e1, e2, h1, by omega⟩
theorem sl_send (h : SL C F) (hC : C + 1 < 2 ^ 31) {m : Nat} {so pl nu ar lo : Int32} : SL (C + 1) (sendG F m so pl nu ar lo) ∧ nN (F 0 3) ≤ nN (sendG F m so pl nu ar lo 0 3) := by
  obtain ⟨y, x, e1, e2, h1, h2⟩ := h
  unfold sendG
  split
  · refine ⟨⟨y + 1, x + 1, Eq.trans (b := F 0 2 + nI 1) (by simp [u2_12]) (by rw [e1, nI_add]), Eq.trans (b := F 0 3 + nI 1) (by simp [u2_12]) (by rw [e2, nI_add]), by omega, by omega⟩, ?_⟩
    rw [u2_s, e2, nI_add, nN_nI (by omega), nN_nI (by omega)]
    omega
  · refine ⟨⟨y + 1, x, Eq.trans (b := F 0 2 + nI 1) (by simp [u2_12]) (by rw [e1, nI_add]), Eq.trans (b := F 0 3) (by simp [u2_12]) e2, by omega, by omega⟩, ?_⟩
    refine Nat.le_of_eq (congrArg nN ?_)
    simp [u2_12]
theorem InvN.b3 (h : InvN B F hn n N) (hB : B < 2 ^ 28) {k : Nat} (hk : k < 3) : N 3 k ≤ 4 * B ∧ N 5 k ≤ 4 * B ∧ N 6 k ≤ 4 * B := by
  have h1 := h.2.2.2.2.2.2.2.2 k hk
  have p1 := h.p (p := k) (by omega)
  have p2 := h.p (p := k + 3) (by omega)
  have p3 := h.p (p := k + 6) (by omega)
  have p4 := h.p (p := k + 9) (by omega)
  unfold s8 at h1
  omega
theorem InvN.n7 (h : InvN B F hn n N) (hB : B < 2 ^ 28) {p : Nat} (hp : p < 12) : nN (F 7 p) = N 7 p := by
  have := h.p hp
  rw [h.F7 hp]; exact nN_nI (by omega)
theorem InvN.n8 (h : InvN B F hn n N) (hB : B < 2 ^ 28) {p : Nat} (hp : p < 12) : nN (F 8 p) = N 8 p := by
  have := h.p hp
  rw [h.F8 hp]; exact nN_nI (by omega)
theorem InvN.n10 (h : InvN B F hn n N) (hB : B < 2 ^ 28) {p : Nat} (hp : p < 12) : nN (F 10 p) = N 10 p := by
  have := h.p hp
  rw [h.F10 hp]; exact nN_nI (by omega)
theorem InvN.n3 (h : InvN B F hn n N) (hB : B < 2 ^ 28) {k : Nat} (hk : k < 3) : nN (F 3 k) = N 3 k := by
  have := h.b3 hB hk
  rw [h.F3 hk]; exact nN_nI (by omega)
theorem InvN.n5 (h : InvN B F hn n N) (hB : B < 2 ^ 28) {k : Nat} (hk : k < 3) : nN (F 5 k) = N 5 k := by
  have := h.b3 hB hk
  rw [h.F5 hk]; exact nN_nI (by omega)
theorem lost_8 (h : InvN B F hn n N) (hB : B < 2 ^ 28) {p nu : Nat} (hp : p < 12) (h10 : nu ≤ N 10 p) (r : Nat) : nN (F 8 r) ≤ nN (lostC F p (nI nu) 8 r) := by
  have hq := h.p hp
  unfold lostC
  rw [h.F8 hp]
  by_cases c : nu ≤ N 8 p
  · rw [if_pos (nI_le c (by omega))]
    exact Nat.le_refl _
  · rw [if_neg (nI_ge (Nat.lt_of_not_le c) (by omega)), u2_12]
    by_cases e : r = p
    · rw [if_pos ⟨rfl, e⟩, e, h.F8 hp, nN_nI (by omega), nN_nI (by omega)]
      omega
    · rw [if_neg (fun z => e z.2), u2_i (by decide)]
      exact Nat.le_refl _
theorem eb_lost (h : InvN B F hn n N) (hB : B < 2 ^ 28) (hE : EB F) {p nu : Nat} (hp : p < 12) (h10 : nu ≤ N 10 p) : EB (lostC F p (nI nu)) := by
  intro k hk
  obtain ⟨b, e2, hb, hle⟩ := hE k hk
  have a0 := lost_8 h hB hp h10 k
  have a1 := lost_8 h hB hp h10 (k + 3)
  have a2 := lost_8 h hB hp h10 (k + 6)
  have a3 := lost_8 h hB hp h10 (k + 9)
  refine ⟨b, by rw [lost_far _ _ _ (by decide) (by decide)]; exact e2, hb, ?_⟩
  rw [lost_far F p (nI nu) (i := 3) (by decide) (by decide), lost_far F p (nI nu) (i := 7) (by decide) (by decide)]
  unfold q4 at hle ⊢
  omega
theorem pour_no (h : InvN B F hn n N) (hB : B < 2 ^ 28) {p nu : Nat} (hp : p < 12) (c : nu ≤ N 8 p) : pourC F p (nI nu) = F := by
  have hq := h.p hp
  unfold pourC
  rw [h.F8 hp, if_pos (nI_le c (by omega))]
theorem pour_8 (h : InvN B F hn n N) (hB : B < 2 ^ 28) {p nu : Nat} (hp : p < 12) (h10 : nu ≤ N 10 p) (c : N 8 p < nu) (r : Nat) : pourC F p (nI nu) 8 r = if r = p then nI nu else F 8 r := by
  have hq := h.p hp
  unfold pourC
  rw [if_neg (by rw [h.F8 hp]; exact nI_ge c (by omega)), u2_12]
  by_cases e : r = p
  · rw [if_pos ⟨rfl, e⟩, if_pos e]
  · rw [if_neg (fun z => e z.2), if_neg e, u2_i (by decide), u2_i (by decide)]
    unfold lostC
    split
    · rfl
    · rw [u2_12, if_neg (fun z => e z.2), u2_i (by decide)]
theorem pour_3 (h : InvN B F hn n N) (hB : B < 2 ^ 28) {p nu : Nat} (hp : p < 12) (h10 : nu ≤ N 10 p) (c : N 8 p < nu) (k : Nat) : pourC F p (nI nu) 3 k = if k = p % 3 then F 3 k + nI 1 else F 3 k := by
  have hq := h.p hp
  unfold pourC
  rw [if_neg (by rw [h.F8 hp]; exact nI_ge c (by omega)), u2_i (by decide), u2_12]
  by_cases e : k = p % 3
  · rw [if_pos ⟨rfl, e⟩, if_pos e, e, lost_far _ _ _ (by decide) (by decide)]
  · rw [if_neg (fun z => e z.2), if_neg e, u2_i (by decide), lost_far _ _ _ (by decide) (by decide)]
theorem pour_5 (h : InvN B F hn n N) (hB : B < 2 ^ 28) {p nu : Nat} (hp : p < 12) (h10 : nu ≤ N 10 p) {k : Nat} (hk : k < 3) : nN (F 5 k) ≤ nN (pourC F p (nI nu) 5 k) := by
  have hq := h.p hp
  have hb := h.b3 hB hk
  by_cases c : nu ≤ N 8 p
  · rw [pour_no h hB hp c]; exact Nat.le_refl _
  · have e : pourC F p (nI nu) 5 k = if k = p % 3 then F 5 k + nI 1 else F 5 k := by
      unfold pourC
      rw [if_neg (by rw [h.F8 hp]; exact nI_ge (Nat.lt_of_not_le c) (by omega)), u2_i (by decide), u2_i (by decide), u2_12]
      by_cases e : k = p % 3
      · rw [if_pos ⟨rfl, e⟩, if_pos e, e, lost_far _ _ _ (by decide) (by decide)]
      · rw [if_neg (fun z => e z.2), if_neg e, lost_far _ _ _ (by decide) (by decide)]
    rw [e]
    split
    · rw [h.F5 hk, nI_add, nN_nI (by omega), nN_nI (by omega)]; omega
    · exact Nat.le_refl _
theorem eb_pour (h : InvN B F hn n N) (hB : B < 2 ^ 28) (hE : EB F) {p nu : Nat} (hp : p < 12) (h10 : nu ≤ N 10 p) : EB (pourC F p (nI nu)) := by
  have hq := h.p hp
  by_cases c : nu ≤ N 8 p
  · rw [pour_no h hB hp c]; exact hE
  · have c := Nat.lt_of_not_le c
    intro k hk
    obtain ⟨b, e2, hb, hle⟩ := hE k hk
    have hb3 := h.b3 hB hk
    have e8 : ∀ r, nN (pourC F p (nI nu) 8 r) = if r = p then nu else nN (F 8 r) := fun r => by
      rw [pour_8 h hB hp h10 c r]
      split
      · exact nN_nI (by omega)
      · rfl
    have ep := h.n8 hB hp
    refine ⟨b, by rw [pour_far _ _ _ (by decide) (by decide) (by decide) (by decide)]; exact e2, hb, ?_⟩
    rw [pour_far F p (nI nu) (i := 7) (by decide) (by decide) (by decide) (by decide), pour_3 h hB hp h10 c k]
    have z0 := e8 k
    have z1 := e8 (k + 3)
    have z2 := e8 (k + 6)
    have z3 := e8 (k + 9)
    unfold q4 at hle ⊢
    by_cases e : k = p % 3
    · rw [if_pos e, h.F3 hk, nI_add, nN_nI (by omega)]
      rw [h.F3 hk, nN_nI (by omega)] at hle
      rcases (show p = k ∨ p = k + 3 ∨ p = k + 6 ∨ p = k + 9 by omega) with q | q | q | q
      · rw [if_pos (by omega)] at z0
        rw [if_neg (by omega)] at z1 z2 z3
        rw [q] at ep c
        omega
      · rw [if_pos (by omega)] at z1
        rw [if_neg (by omega)] at z0 z2 z3
        rw [q] at ep c
        omega
      · rw [if_pos (by omega)] at z2
        rw [if_neg (by omega)] at z0 z1 z3
        rw [q] at ep c
        omega
      · rw [if_pos (by omega)] at z3
        rw [if_neg (by omega)] at z0 z1 z2
        rw [q] at ep c
        omega
    · rw [if_neg e]
      rw [if_neg (by omega)] at z0 z1 z2 z3
      omega
/-- bottles that are free, as a natural -/
theorem free_nat (h : InvN B F hn n N) (hB : B < 2 ^ 28) (hE : EB F) {k : Nat} (hk : k < 3) : ∃ b f : Nat, F 2 k = nI b ∧ b ≤ 20 ∧ nN (F 3 k) + q4 (F 7) k + f = b + q4 (F 8) k ∧ f ≤ 20 ∧ freeS F k = nI f ∧ outK F k = nI (q4 (F 7) k - q4 (F 8) k) ∧ F 3 k = nI (nN (F 3 k)) ∧ q4 (F 8) k ≤ q4 (F 7) k ∧ nN (F 3 k) + (q4 (F 7) k - q4 (F 8) k) ≤ b := by
  obtain ⟨b, e2, hb, hle⟩ := hE k hk
  have p0 := h.p (p := k) (by omega)
  have p1 := h.p (p := k + 3) (by omega)
  have p2 := h.p (p := k + 6) (by omega)
  have p3 := h.p (p := k + 9) (by omega)
  have e7 : q4 (F 7) k = N 7 k + N 7 (k + 3) + N 7 (k + 6) + N 7 (k + 9) := by
    unfold q4
    rw [h.n7 hB (by omega), h.n7 hB (by omega), h.n7 hB (by omega), h.n7 hB (by omega)]
  have e8 : q4 (F 8) k = N 8 k + N 8 (k + 3) + N 8 (k + 6) + N 8 (k + 9) := by
    unfold q4
    rw [h.n8 hB (by omega), h.n8 hB (by omega), h.n8 hB (by omega), h.n8 hB (by omega)]
  have e3 := h.n3 hB hk
  have ho : outK F k = nI (q4 (F 7) k - q4 (F 8) k) := by
    show nI 0 + outS F k + outS F (k + 3) + outS F (k + 6) + outS F (k + 9) = _
    rw [out_nat h (by omega), out_nat h (by omega), out_nat h (by omega), out_nat h (by omega), nI_add, nI_add, nI_add, nI_add, e7, e8]
    congr 1
    omega
  have h3 : F 3 k = nI (nN (F 3 k)) := by rw [e3]; exact h.F3 hk
  refine ⟨b, b + q4 (F 8) k - nN (F 3 k) - q4 (F 7) k, e2, hb, by omega, by omega, ?_, ho, h3, by omega, by omega⟩
  unfold freeS
  rw [ho, e2, h3, pk_sub (by omega), pk_sub (by omega), ← h3]
  congr 1
  omega
theorem eb_lend (h : InvN B F hn n N) (hB : B < 2 ^ 28) (hE : EB F) {p m : Nat} (hp : p < 12) (hc : ¬ freeS F (p % 3) ≤ 0) : EB (lendS F m p) := by
  have far : ∀ i, i ≠ 0 → i < 12 → i ≠ 7 → lendS F m p i = F i := fun i a b c => by
    show sendG _ _ _ _ _ _ _ i = _
    rw [send_far a b, u2_i c]
  have e7 : ∀ r, r < 12 → nN (lendS F m p 7 r) = if r = p then nN (F 7 r) + 1 else nN (F 7 r) := fun r hr => by
    have : lendS F m p 7 = u2 F 7 p (F 7 p + nI 1) 7 := by
      show sendG _ _ _ _ _ _ _ 7 = _
      rw [send_far (by decide) (by decide)]
    rw [this, u2_12]
    have hr2 := h.p hr
    by_cases e : r = p
    · rw [if_pos ⟨rfl, e⟩, if_pos e, ← e, h.F7 hr, nI_add, nN_nI (by omega), nN_nI (by omega)]
    · rw [if_neg (fun z => e z.2), if_neg e]
  intro k hk
  obtain ⟨b, f, e2, hb, hs, -, hf, -⟩ := free_nat h hB hE hk
  refine ⟨b, by rw [far 2 (by decide) (by decide) (by decide)]; exact e2, hb, ?_⟩
  rw [far 3 (by decide) (by decide) (by decide), far 8 (by decide) (by decide) (by decide)]
  have z0 := e7 k (by omega)
  have z1 := e7 (k + 3) (by omega)
  have z2 := e7 (k + 6) (by omega)
  have z3 := e7 (k + 9) (by omega)
  by_cases e : k = p % 3
  · have f0 : 0 < f := by
      rcases Nat.eq_zero_or_pos f with z | z
      · rw [← e, hf, z] at hc; exact absurd (by decide) hc
      · exact z
    unfold q4 at hs ⊢
    rcases (show p = k ∨ p = k + 3 ∨ p = k + 6 ∨ p = k + 9 by omega) with q | q | q | q
    · rw [if_pos (by omega)] at z0
      rw [if_neg (by omega)] at z1 z2 z3
      omega
    · rw [if_pos (by omega)] at z1
      rw [if_neg (by omega)] at z0 z2 z3
      omega
    · rw [if_pos (by omega)] at z2
      rw [if_neg (by omega)] at z0 z1 z3
      omega
    · rw [if_pos (by omega)] at z3
      rw [if_neg (by omega)] at z0 z1 z2
      omega
  · rw [if_neg (by omega)] at z0 z1 z2 z3
    unfold q4 at hs ⊢
    omega
theorem eb_send (hE : EB F) {m : Nat} {so pl nu ar lo : Int32} : EB (sendG F m so pl nu ar lo) :=
  hE.cg (send_far (by decide) (by decide)) (send_far (by decide) (by decide)) (send_far (by decide) (by decide)) (send_far (by decide) (by decide))
theorem lf_send (h : SL C F) (hC : C + 1 < 2 ^ 31) {m : Nat} {so pl nu ar lo : Int32} : Lf F (sendG F m so pl nu ar lo) :=
  ⟨fun p _ => by rw [send_far (by decide) (by decide)]; exact Nat.le_refl _, fun k _ => by rw [send_far (by decide) (by decide)]; exact Nat.le_refl _, (sl_send h hC).2⟩
/-- a letter read -/
theorem read_x (h : InvN B F hn n N) (hB : B < 2 ^ 28) (hE : EB F) (hS : SL C F) (hC : C + 1 < 2 ^ 31) {r : Nat} (hr : r < n) : EB (readC (rmS F n r) (n - 1) (N 12 r) (N 13 r) (F 14 r)) ∧ SL (C + 1) (readC (rmS F n r) (n - 1) (N 12 r) (N 13 r) (F 14 r)) ∧ Lf F (readC (rmS F n r) (n - 1) (N 12 r) (N 13 r) (F 14 r)) := by
  have n40 := h.2.1.2
  have hl := h.2.2.2.2.2.2.1 r (by omega)
  have hm := h.2.2.2.2.2.2.2.1 r hr
  rw [h.F14 (show r < 40 by omega)]
  obtain ⟨N1, e7, e10, h1⟩ := h.rm hr
  have hE1 : EB (rmS F n r) := hE.cg (rm_far F n r (by decide) (by decide)) (rm_far F n r (by decide) (by decide)) (rm_far F n r (by decide) (by decide)) (rm_far F n r (by decide) (by decide))
  have hS1 : SL C (rmS F n r) := hS.cg (rm_0 F n r (by decide)) (rm_0 F n r (by decide))
  have hL1 : Lf F (rmS F n r) := Lf.cg (rm_far F n r (by decide) (by decide)) (rm_far F n r (by decide) (by decide)) (rm_0 F n r (by decide))
  have hp : N 13 r < 12 := hl.2
  generalize rmS F n r = R at h1 hE1 hS1 hL1 ⊢
  rcases (show N 12 r = 0 ∨ N 12 r = 1 ∨ N 12 r = 2 ∨ N 12 r = 3 by omega) with q | q | q | q
  · rw [q]
    show EB (tellS R (N 13 r) (nI (N 14 r))) ∧ SL (C + 1) (tellS R (N 13 r) (nI (N 14 r))) ∧ Lf F (tellS R (N 13 r) (nI (N 14 r)))
    exact ⟨hE1.cg (tell_far _ _ _ (by decide)) (tell_far _ _ _ (by decide)) (tell_far _ _ _ (by decide)) (tell_far _ _ _ (by decide)), (hS1.cg (by rw [tell_0]) (by rw [tell_0])).mono (by omega), hL1.tr (Lf.cg (tell_far _ _ _ (by decide)) (tell_far _ _ _ (by decide)) (by rw [tell_0]))⟩
  · rw [q]
    have h10 : N 14 r ≤ N1 10 (N 13 r) := by rw [e10]; exact hm.2.2 (Or.inl q)
    show EB (pourC R (N 13 r) (nI (N 14 r))) ∧ SL (C + 1) (pourC R (N 13 r) (nI (N 14 r))) ∧ Lf F (pourC R (N 13 r) (nI (N 14 r)))
    refine ⟨eb_pour h1 hB hE1 hp h10, (hS1.cg (by rw [pour_0]) (by rw [pour_0])).mono (by omega), hL1.tr ⟨fun p _ => ?_, fun k hk => pour_5 h1 hB hp h10 hk, by rw [pour_0]; exact Nat.le_refl _⟩⟩
    rw [pour_far _ _ _ (by decide) (by decide) (by decide) (by decide)]; exact Nat.le_refl _
  · rw [q]
    show EB (sendS (tellS R (N 13 r) (nI (N 14 r))) (n - 1) (nI 3) (nI (N 13 r)) (tellS R (N 13 r) (nI (N 14 r)) 10 (N 13 r))) ∧ SL (C + 1) (sendS (tellS R (N 13 r) (nI (N 14 r))) (n - 1) (nI 3) (nI (N 13 r)) (tellS R (N 13 r) (nI (N 14 r)) 10 (N 13 r))) ∧ Lf F (sendS (tellS R (N 13 r) (nI (N 14 r))) (n - 1) (nI 3) (nI (N 13 r)) (tellS R (N 13 r) (nI (N 14 r)) 10 (N 13 r)))
    have hE2 : EB (tellS R (N 13 r) (nI (N 14 r))) := hE1.cg (tell_far _ _ _ (by decide)) (tell_far _ _ _ (by decide)) (tell_far _ _ _ (by decide)) (tell_far _ _ _ (by decide))
    have hS2 : SL C (tellS R (N 13 r) (nI (N 14 r))) := hS1.cg (by rw [tell_0]) (by rw [tell_0])
    have hL2 : Lf F (tellS R (N 13 r) (nI (N 14 r))) := hL1.tr (Lf.cg (tell_far _ _ _ (by decide)) (tell_far _ _ _ (by decide)) (by rw [tell_0]))
    exact ⟨eb_send hE2, (sl_send hS2 hC).1, hL2.tr (lf_send hS2 hC)⟩
  · rw [q]
    have h10 : N 14 r ≤ N1 10 (N 13 r) := by rw [e10]; exact hm.2.2 (Or.inr q)
    show EB (lostC R (N 13 r) (nI (N 14 r))) ∧ SL (C + 1) (lostC R (N 13 r) (nI (N 14 r))) ∧ Lf F (lostC R (N 13 r) (nI (N 14 r)))
    exact ⟨eb_lost h1 hB hE1 hp h10, (hS1.cg (by rw [lost_0]) (by rw [lost_0])).mono (by omega), hL1.tr (Lf.cg (lost_far _ _ _ (by decide) (by decide)) (lost_far _ _ _ (by decide) (by decide)) (by rw [lost_0]))⟩
theorem itT_x (hB : B < 2 ^ 28) : ∀ (k r C : Nat) {F : FF} {n : Nat} {N : Nat → Nat → Nat}, InvN B F hn n N → EB F → SL C F → C + k < 2 ^ 30 → r + k ≤ n → (∃ n' N', InvN B (iterT k (F, r)).1 hn n' N') ∧ EB (iterT k (F, r)).1 ∧ SL (C + k) (iterT k (F, r)).1 ∧ Lf F (iterT k (F, r)).1
  | 0, _, _, F, n, N, h, hE, hS, _, _ => ⟨⟨n, N, h⟩, hE, hS, Lf.rf F⟩
  | k + 1, r, C, F, n, N, h, hE, hS, hC, hk => by
    show (∃ n' N', InvN B (iterT k (stepT (F, r))).1 hn n' N') ∧ EB (iterT k (stepT (F, r))).1 ∧ SL (C + (k + 1)) (iterT k (stepT (F, r))).1 ∧ Lf F (iterT k (stepT (F, r))).1
    by_cases c : F 15 r = F 0 0
    · rw [step_eq h (by omega) c]
      obtain ⟨n', N', hn', h2⟩ := h.read (by omega) (r := r) (by omega)
      obtain ⟨hE2, hS2, hL2⟩ := read_x h hB hE hS (by omega) (r := r) (by omega)
      obtain ⟨i1, i2, i3, i4⟩ := itT_x hB k r (C + 1) h2 hE2 hS2 (by omega) (by omega)
      exact ⟨i1, i2, i3.mono (by omega), hL2.tr i4⟩
    · rw [stepT_neg c]
      obtain ⟨i1, i2, i3, i4⟩ := itT_x hB k (r + 1) C h hE hS (by omega) (by omega)
      exact ⟨i1, i2, i3.mono (by omega), i4⟩
theorem pstep_x (h : InvN B F hn n N) (hB : B < 2 ^ 28) (hE : EB F) (hS : SL C F) (hC : C + 1 < 2 ^ 30) {p : Nat} (hp : p < 12) : EB (pourStep F p) ∧ SL (C + 1) (pourStep F p) ∧ Lf F (pourStep F p) := by
  have hq := h.p hp
  unfold pourStep
  split
  · generalize nN (F 0 4) = m
    have hE2 : EB (u2 (u2 F 11 p (F 11 p - nI 1)) 10 p (F 10 p + nI 1)) := hE.cg (by rw [u2_i (by decide), u2_i (by decide)]) (by rw [u2_i (by decide), u2_i (by decide)]) (by rw [u2_i (by decide), u2_i (by decide)]) (by rw [u2_i (by decide), u2_i (by decide)])
    have hS2 : SL C (u2 (u2 F 11 p (F 11 p - nI 1)) 10 p (F 10 p + nI 1)) := hS.cg (by rw [u2_i (by decide), u2_i (by decide)]) (by rw [u2_i (by decide), u2_i (by decide)])
    have hL2 : Lf F (u2 (u2 F 11 p (F 11 p - nI 1)) 10 p (F 10 p + nI 1)) := by
      refine ⟨fun r hr => ?_, fun k _ => by rw [u2_i (by decide), u2_i (by decide)]; exact Nat.le_refl _, by rw [u2_i (by decide), u2_i (by decide)]; exact Nat.le_refl _⟩
      rw [u2_12]
      by_cases e : r = p
      · rw [if_pos ⟨rfl, e⟩, e, h.F10 hp, nI_add, nN_nI (by omega), nN_nI (by omega)]; omega
      · rw [if_neg (fun z => e z.2), u2_i (by decide)]; exact Nat.le_refl _
    exact ⟨eb_send hE2, (sl_send hS2 (by omega)).1, hL2.tr (lf_send hS2 (by omega))⟩
  · exact ⟨hE, hS.mono (by omega), Lf.rf F⟩
theorem lend_x (h : InvN B F hn n N) (hB : B < 2 ^ 28) (hE : EB F) (hS : SL C F) (hC : C + 1 < 2 ^ 30) {p m : Nat} (hp : p < 12) (hc : ¬ freeS F (p % 3) ≤ 0) : EB (lendS F m p) ∧ SL (C + 1) (lendS F m p) ∧ Lf F (lendS F m p) := by
  have hS2 : SL C (u2 F 7 p (F 7 p + nI 1)) := hS.cg (by rw [u2_i (by decide)]) (by rw [u2_i (by decide)])
  have hL2 : Lf F (u2 F 7 p (F 7 p + nI 1)) := Lf.cg (u2_i (by decide)) (u2_i (by decide)) (by rw [u2_i (by decide)])
  exact ⟨eb_lend h hB hE hp hc, (sl_send hS2 (by omega)).1, hL2.tr (lf_send hS2 (by omega))⟩
theorem lstep_x (h : InvN B F hn n N) (hB : B < 2 ^ 28) (hE : EB F) (hS : SL C F) (hC : C + 1 < 2 ^ 30) {p : Nat} (hp : p < 12) : EB (lendStep F p) ∧ SL (C + 1) (lendStep F p) ∧ Lf F (lendStep F p) := by
  unfold lendStep
  split
  · rename_i c
    exact lend_x h hB hE hS hC hp c.2.1
  · exact ⟨hE, hS.mono (by omega), Lf.rf F⟩
theorem itP_x (hB : B < 2 ^ 28) : ∀ (k p C : Nat) {F : FF} {n : Nat} {N : Nat → Nat → Nat}, InvN B F hn n N → EB F → SL C F → C + k < 2 ^ 29 → p + k ≤ 12 → (∃ n' N', InvN B (iterP k p F) hn n' N') ∧ EB (iterP k p F) ∧ SL (C + k) (iterP k p F) ∧ Lf F (iterP k p F)
  | 0, _, _, F, n, N, h, hE, hS, _, _ => ⟨⟨n, N, h⟩, hE, hS, Lf.rf F⟩
  | k + 1, p, C, F, n, N, h, hE, hS, hC, hk => by
    obtain ⟨n', N', h2⟩ := h.pstep (by omega) (p := p) (by omega)
    obtain ⟨hE2, hS2, hL2⟩ := pstep_x h hB hE hS (by omega) (p := p) (by omega)
    obtain ⟨i1, i2, i3, i4⟩ := itP_x hB k (p + 1) (C + 1) h2 hE2 hS2 (by omega) (by omega)
    exact ⟨i1, i2, i3.mono (by omega), hL2.tr i4⟩
theorem itL_x : ∀ (k p B C : Nat) {F : FF} {n : Nat} {N : Nat → Nat → Nat}, InvN B F hn n N → EB F → SL C F → B + k < 2 ^ 28 → C + k < 2 ^ 29 → p + k ≤ 3 * hn → hn ≤ 4 → (∃ n' N', InvN (B + k) (iterL k p F) hn n' N') ∧ EB (iterL k p F) ∧ SL (C + k) (iterL k p F) ∧ Lf F (iterL k p F)
  | 0, _, _, _, F, n, N, h, hE, hS, _, _, _, _ => ⟨⟨n, N, h⟩, hE, hS, Lf.rf F⟩
  | k + 1, p, B, C, F, n, N, h, hE, hS, hB, hC, hk, h4 => by
    obtain ⟨n', N', h2⟩ := h.lstep (by omega) (p := p) (by omega)
    obtain ⟨hE2, hS2, hL2⟩ := lstep_x h (by omega) hE hS (by omega) (p := p) (by omega)
    obtain ⟨⟨n2, N2, i1⟩, i2, i3, i4⟩ := itL_x k (p + 1) (B + 1) (C + 1) h2 hE2 hS2 (by omega) (by omega) (by omega) h4
    exact ⟨⟨n2, N2, i1.mono (by omega)⟩, i2, i3.mono (by omega), hL2.tr i4⟩
theorem tick_x (h : InvN B F hn n N) (hE : EB F) (hS : SL C F) (hB : B + 12 < 2 ^ 28) (hC : C + 64 < 2 ^ 29) : (∃ n' N', InvN (B + 12) (tickC F) hn n' N') ∧ EB (tickC F) ∧ SL (C + 64) (tickC F) ∧ Lf F (tickC F) := by
  have h0 := h.u (i := 0) (j := 0) (x := F 0 0 + nI 1) (by omega)
  have hE0 : EB (u2 F 0 0 (F 0 0 + nI 1)) := hE.cg (u2_i (by decide)) (u2_i (by decide)) (u2_i (by decide)) (u2_i (by decide))
  have hS0 : SL C (u2 F 0 0 (F 0 0 + nI 1)) := hS.cg (by rw [u2_12, if_neg (by decide)]) (by rw [u2_12, if_neg (by decide)])
  have hL0 : Lf F (u2 F 0 0 (F 0 0 + nI 1)) := Lf.cg (u2_i (by decide)) (u2_i (by decide)) (by rw [u2_12, if_neg (by decide)])
  have n40 := h.2.1.2
  have h4 := h.1.2
  unfold tickC takeC
  rw [h0.nn]
  obtain ⟨⟨n1, N1, h1⟩, hE1, hS1, hL1⟩ := itT_x (by omega) n 0 C h0 hE0 hS0 (by omega) (by omega)
  obtain ⟨⟨n2, N2, h2⟩, hE2, hS2, hL2⟩ := itP_x (by omega) 12 0 (C + n) h1 hE1 hS1 (by omega) (by omega)
  unfold lendsC poursC
  rw [nN_h h2.1.1 h2.1.2]
  obtain ⟨⟨n3, N3, h3⟩, hE3, hS3, hL3⟩ := itL_x (hn * 3) 0 B (C + n + 12) h2 hE2 hS2 (by omega) (by omega) (by omega) h4
  exact ⟨⟨n3, N3, h3.mono (by omega)⟩, hE3, hS3.mono (by omega), ((hL0.tr hL1).tr hL2).tr hL3⟩
theorem ticks_x : ∀ (t B C : Nat) {F : FF} {n : Nat} {N : Nat → Nat → Nat}, InvN B F hn n N → EB F → SL C F → B + 12 * t < 2 ^ 28 → C + 64 * t < 2 ^ 29 → (∃ n' N', InvN (B + 12 * t) (ticksC t F) hn n' N') ∧ EB (ticksC t F) ∧ SL (C + 64 * t) (ticksC t F) ∧ Lf F (ticksC t F)
  | 0, _, _, F, n, N, h, hE, hS, _, _ => ⟨⟨n, N, h⟩, hE, hS, Lf.rf F⟩
  | t + 1, B, C, F, n, N, h, hE, hS, hB, hC => by
    obtain ⟨⟨n1, N1, h1⟩, hE1, hS1, hL1⟩ := tick_x h hE hS (by omega) (by omega)
    obtain ⟨⟨n2, N2, h2⟩, hE2, hS2, hL2⟩ := ticks_x t (B + 12) (C + 64) h1 hE1 hS1 (by omega) (by omega)
    exact ⟨⟨n2, N2, h2.mono (by omega)⟩, hE2, hS2.mono (by omega), hL1.tr hL2⟩
/-- the time -/
theorem itT_00 : ∀ (k : Nat) (x : FF × Nat), (iterT k x).1 0 0 = x.1 0 0
  | 0, _ => rfl
  | k + 1, x => by
    show (iterT k (stepT x)).1 0 0 = _
    rw [itT_00 k]
    unfold stepT
    split
    · show readC _ _ _ _ _ 0 0 = _
      rw [read_00, rm_0 _ _ _ (by decide)]
    · rfl
theorem itP_00 : ∀ (k p : Nat) (F : FF), iterP k p F 0 0 = F 0 0
  | 0, _, _ => rfl
  | k + 1, p, F => by
    show iterP k (p + 1) (pourStep F p) 0 0 = _
    rw [itP_00 k]
    unfold pourStep
    split
    · show sendG _ _ _ _ _ _ _ 0 0 = _
      rw [send_00, u2_i (by decide), u2_i (by decide)]
    · rfl
theorem itL_00 : ∀ (k p : Nat) (F : FF), iterL k p F 0 0 = F 0 0
  | 0, _, _ => rfl
  | k + 1, p, F => by
    show iterL k (p + 1) (lendStep F p) 0 0 = _
    rw [itL_00 k]
    unfold lendStep
    split
    · show sendG _ _ _ _ _ _ _ 0 0 = _
      rw [send_00, u2_i (by decide)]
    · rfl
theorem tick_00 (F : FF) : tickC F 0 0 = F 0 0 + nI 1 := by
  unfold tickC lendsC poursC takeC
  rw [itL_00, itP_00, itT_00]
  show u2 F 0 0 (F 0 0 + nI 1) 0 0 = _
  exact u2_s _ _ _ _
theorem ticks_00 : ∀ (t : Nat) (F : FF), ticksC t F 0 0 = F 0 0 + nI t
  | 0, F => (Int32.add_zero _).symm
  | t + 1, F => by
    show ticksC t (tickC F) 0 0 = _
    rw [ticks_00 t, tick_00, Int32.add_assoc, nI_add, Nat.add_comm 1 t]
end PV
