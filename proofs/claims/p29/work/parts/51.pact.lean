/-! acts keep what holds; orders of a text (want, drink, house, share_nat as in whole) -/
theorem InvN.want {B hn n : Nat} {F : FF} {N : Nat → Nat → Nat} (h : InvN B F hn n N) {p : Nat} (hp : p < 3 * hn) (hc : ¬ nI 9 ≤ F 11 p) : ∃ N', InvN B (u2 F 11 p (F 11 p + nI 1)) hn n N' := by
  have h4 := h.1.2
  have hp12 : p < 12 := by omega
  have e11 := h.F11 hp12
  have q11 := h.p hp12
  have hc9 : N 11 p < 9 := by
    rw [e11] at hc
    rcases Nat.lt_or_ge (N 11 p) 9 with c | c
    · exact c
    · exact absurd (nI_le c (by omega)) hc
  obtain ⟨⟨eh, h4⟩, ⟨en, n40⟩, hd, hR, hP, hZ, hL, hM, hK⟩ := h
  have a : ∀ i, i ≠ 11 → ups N 11 p (N 11 p + 1) i = N i := fun i x => ups_n x
  refine ⟨_, ⟨(h0_u (by decide)).trans eh, h4⟩, ⟨(h0_u (by decide)).trans en, n40⟩, by rw [hd_u (by decide)]; exact hd, hR.up (v := N 11 p + 1) (by rw [e11, nI_add]), ?_, ?_, ?_, ?_, ?_⟩
  · intro q hq2
    have h1 := hP q hq2
    rw [a 8 (by decide), a 9 (by decide), a 10 (by decide), a 7 (by decide), ups_i]
    by_cases c2 : q = p
    · subst c2; rw [if_pos rfl]; omega
    · rw [if_neg c2]; exact h1
  · intro q a1 a2
    have h1 := hZ q a1 a2
    rw [a 7 (by decide), ups_o (by omega)]
    exact h1
  · intro r hr
    rw [a 12 (by decide), a 13 (by decide)]; exact hL r hr
  · intro r hr
    rw [a 12 (by decide), a 13 (by decide), a 14 (by decide), a 7 (by decide), a 10 (by decide)]; exact hM r hr
  · intro k hk
    rw [s8_i (by decide), a 3 (by decide), a 5 (by decide), a 6 (by decide)]; exact hK k hk
theorem InvN.drink {B hn n : Nat} {F : FF} {N : Nat → Nat → Nat} (h : InvN B F hn n N) (hB : B < 2 ^ 28) {c : Nat} (hc : c < 3) (hf : 0 < F 3 c) : ∃ N', InvN B (drinkS F c) hn n N' := by
  have e3 := h.F3 hc
  obtain ⟨⟨eh, h4⟩, ⟨en, n40⟩, hd, hR, hP, hZ, hL, hM, hK⟩ := h
  have k0 := hK c hc
  have b3 : N 3 c < 2 ^ 31 := by
    have p1 := hP c (by omega)
    have p2 := hP (c + 3) (by omega)
    have p3 := hP (c + 6) (by omega)
    have p4 := hP (c + 9) (by omega)
    unfold s8 at k0
    omega
  have h3 : 0 < N 3 c := by
    rw [e3] at hf
    exact (nI_0lt b3).mp hf
  have a : ∀ i, i ≠ 3 → ups N 3 c (N 3 c - 1) i = N i := fun i x => ups_n x
  refine ⟨_, ⟨by unfold drinkS; rw [h0_u (by decide), h0_u (by decide)]; exact eh, h4⟩, ⟨by unfold drinkS; rw [h0_u (by decide), h0_u (by decide)]; exact en, n40⟩, by unfold drinkS; rw [hd_u (by decide), hd_u (by decide)]; exact hd, (hR.up (v := N 3 c - 1) (by rw [e3, pk_sub (by omega)])).out (by omega), ?_, ?_, ?_, ?_, ?_⟩
  · intro q hq2
    rw [a 8 (by decide), a 9 (by decide), a 10 (by decide), a 7 (by decide), a 11 (by decide)]; exact hP q hq2
  · intro q a1 a2
    rw [a 7 (by decide), a 11 (by decide)]; exact hZ q a1 a2
  · intro r hr
    rw [a 12 (by decide), a 13 (by decide)]; exact hL r hr
  · intro r hr
    rw [a 12 (by decide), a 13 (by decide), a 14 (by decide), a 7 (by decide), a 10 (by decide)]; exact hM r hr
  · intro k hk
    have h1 := hK k hk
    rw [s8_i (by decide), a 5 (by decide), a 6 (by decide), ups_i]
    by_cases c2 : k = c
    · subst c2; rw [if_pos rfl]; omega
    · rw [if_neg c2]; exact h1
theorem InvN.house {B hn n : Nat} {F : FF} {N : Nat → Nat → Nat} (h : InvN B F hn n N) (h4 : hn < 4) : InvN B (u2 F 0 1 (nI (hn + 1))) (hn + 1) n N :=
  ⟨⟨u2_s _ _ _ _, by omega⟩, ⟨by rw [u2_12, if_neg (by decide)]; exact h.2.1.1, h.2.1.2⟩, by rw [u2_i (by decide)]; exact h.2.2.1, h.2.2.2.1.out (Or.inl (by decide)), h.2.2.2.2.1, fun p h1 h2 => h.2.2.2.2.2.1 p (by omega) h2, h.2.2.2.2.2.2.1, fun r hr => ⟨by have := (h.2.2.2.2.2.2.2.1 r hr).1; omega, (h.2.2.2.2.2.2.2.1 r hr).2⟩, h.2.2.2.2.2.2.2.2⟩
theorem share_nat {B hn n : Nat} {F : FF} {N : Nat → Nat → Nat} (hv : InvN B F hn n N) (hB : B < 2 ^ 26) : ∃ a b : Nat, sumS (F 5) 3 = nI a ∧ sumS (F 8) 12 = nI b ∧ sumS (F 5) 3 + sumS (F 6) 3 = nI b ∧ a ≤ b ∧ b < 2 ^ 31 := by
  have f5 : ∀ k, k < 3 → F 5 k = nI (N 5 k) := fun k hk => hv.F5 hk
  have f6 : ∀ k, k < 3 → F 6 k = nI (N 6 k) := fun k hk => hv.F6 hk
  have f8 : ∀ p, p < 12 → F 8 p = nI (N 8 p) := fun p hp => hv.F8 hp
  have k0 := hv.2.2.2.2.2.2.2.2 0 (by decide)
  have k1 := hv.2.2.2.2.2.2.2.2 1 (by decide)
  have k2 := hv.2.2.2.2.2.2.2.2 2 (by decide)
  have b8 : ∀ p, p < 12 → N 8 p ≤ B := fun p hp => by have := hv.p hp; omega
  have q0 := b8 0 (by decide); have q1 := b8 1 (by decide); have q2 := b8 2 (by decide); have q3 := b8 3 (by decide); have q4 := b8 4 (by decide); have q5 := b8 5 (by decide)
  have q6 := b8 6 (by decide); have q7 := b8 7 (by decide); have q8 := b8 8 (by decide); have q9 := b8 9 (by decide); have q10 := b8 10 (by decide); have q11 := b8 11 (by decide)
  unfold s8 at k0 k1 k2
  simp only [Nat.reduceAdd] at k0 k1 k2
  refine ⟨N 5 0 + N 5 1 + N 5 2, N 5 0 + N 5 1 + N 5 2 + (N 6 0 + N 6 1 + N 6 2), ?_, ?_, ?_, by omega, by omega⟩
  · show nI 0 + F 5 0 + F 5 1 + F 5 2 = _
    rw [f5 0 (by decide), f5 1 (by decide), f5 2 (by decide), nI_add, nI_add, nI_add]
    congr 1
    omega
  · show nI 0 + F 8 0 + F 8 1 + F 8 2 + F 8 3 + F 8 4 + F 8 5 + F 8 6 + F 8 7 + F 8 8 + F 8 9 + F 8 10 + F 8 11 = _
    rw [f8 0 (by decide), f8 1 (by decide), f8 2 (by decide), f8 3 (by decide), f8 4 (by decide), f8 5 (by decide), f8 6 (by decide), f8 7 (by decide), f8 8 (by decide), f8 9 (by decide), f8 10 (by decide), f8 11 (by decide)]
    simp only [nI_add]
    congr 1
    omega
  · show nI 0 + F 5 0 + F 5 1 + F 5 2 + (nI 0 + F 6 0 + F 6 1 + F 6 2) = _
    rw [f5 0 (by decide), f5 1 (by decide), f5 2 (by decide), f6 0 (by decide), f6 1 (by decide), f6 2 (by decide)]
    simp only [nI_add]
    congr 1
    omega
/-- what holds of a state after i acts -/
def IY (i : Nat) (F : FF) : Prop := (∃ hn n N, InvN (20000 * i) F hn n N) ∧ EB F ∧ SL (20000 * i) F ∧ ∃ t, F 0 0 = nI t ∧ t ≤ 100 * i
section PA
variable {i : Nat} {F : FF}
theorem IY.mono (h : IY i F) {j : Nat} (hij : i ≤ j) : IY j F := by
  obtain ⟨⟨hn, n, N, h1⟩, h2, h3, t, h4, h5⟩ := h
  exact ⟨⟨hn, n, N, h1.mono (by omega)⟩, h2, h3.mono (by omega), t, h4, by omega⟩
theorem IY.sh (h : IY i F) : Sh F := by
  obtain ⟨⟨hn, n, N, h1⟩, -⟩ := h
  exact h1.sh
theorem IY.house (h : IY i F) {hn : Nat} (e : F 0 1 = nI hn) (h4 : hn < 4) : IY (i + 1) (u2 F 0 1 (nI (hn + 1))) := by
  obtain ⟨⟨hm, n, N, h1⟩, h2, h3, t, h5, h6⟩ := h
  have e2 : hm = hn := (nI_eq (by have := h1.1.2; omega) (by omega)).mp (h1.1.1.symm.trans e)
  subst e2
  refine ⟨⟨_, n, N, (h1.house h4).mono (by omega)⟩, h2.cg (u2_i (by decide)) (u2_i (by decide)) (u2_i (by decide)) (u2_i (by decide)), (h3.cg (by rw [u2_12, if_neg (by decide)]) (by rw [u2_12, if_neg (by decide)])).mono (by omega), t, by rw [u2_12, if_neg (by decide)]; exact h5, by omega⟩
theorem IY.bottles (h : IY i F) (hi : i ≤ 50) {c m : Nat} (hc : c < 3) (hm : m ≤ 20) (hle : F 3 c + outK F c ≤ nI m) : IY (i + 1) (u2 F 2 c (nI m)) := by
  obtain ⟨⟨hn, n, N, h1⟩, h2, h3, t, h5, h6⟩ := h
  refine ⟨⟨hn, n, N, (h1.u (by omega)).mono (by omega)⟩, ?_, (h3.cg (by rw [u2_i (by decide)]) (by rw [u2_i (by decide)])).mono (by omega), t, by rw [u2_i (by decide)]; exact h5, by omega⟩
  intro k hk
  rw [u2_i (k := 3) (by decide), u2_i (k := 7) (by decide), u2_i (k := 8) (by decide), u2_12]
  by_cases e : k = c
  · subst e
    obtain ⟨b, f, -, hb, -, -, -, ho, e3, q1, q2⟩ := free_nat h1 (by omega) h2 hk
    rw [e3, ho, nI_add] at hle
    have := (nI_leI (by omega) (by omega)).mp hle
    exact ⟨m, if_pos ⟨rfl, rfl⟩, hm, by omega⟩
  · rw [if_neg (fun z => e z.2)]
    exact h2 k hk
theorem IY.set (h : IY i F) {c : Nat} {x : Int32} (hx : c ≠ 0 ∨ x ≠ 0) : IY (i + 1) (u2 F 1 c x) := by
  obtain ⟨⟨hn, n, N, h1⟩, h2, h3, t, h5, h6⟩ := h
  exact ⟨⟨hn, n, N, (h1.u (Or.inr (Or.inl ⟨rfl, hx⟩))).mono (by omega)⟩, h2.cg (u2_i (by decide)) (u2_i (by decide)) (u2_i (by decide)) (u2_i (by decide)), (h3.cg (by rw [u2_i (by decide)]) (by rw [u2_i (by decide)])).mono (by omega), t, by rw [u2_i (by decide)]; exact h5, by omega⟩
theorem eb_drink {B hn n : Nat} {N : Nat → Nat → Nat} (h : InvN B F hn n N) (hB : B < 2 ^ 28) (hE : EB F) {c : Nat} (hc : c < 3) (hf : 0 < F 3 c) : EB (drinkS F c) := by
  intro k hk
  obtain ⟨b, e2, hb, hle⟩ := hE k hk
  have e3 : ∀ r, drinkS F c 3 r = if r = c then F 3 c - nI 1 else F 3 r := fun r => by
    unfold drinkS
    rw [u2_i (by decide), u2_12]
    by_cases e : r = c
    · rw [if_pos ⟨rfl, e⟩, if_pos e]
    · rw [if_neg (fun z => e z.2), if_neg e]
  have far : ∀ j, j ≠ 3 → j ≠ 4 → drinkS F c j = F j := fun j a b => by
    unfold drinkS
    rw [u2_i b, u2_i a]
  refine ⟨b, by rw [far 2 (by decide) (by decide)]; exact e2, hb, ?_⟩
  rw [far 7 (by decide) (by decide), far 8 (by decide) (by decide), e3]
  split
  · rename_i e
    subst e
    have b3 := h.b3 hB hk
    rw [h.F3 hk] at hf hle ⊢
    have := (nI_0lt (by omega)).mp hf
    rw [nN_nI (by omega)] at hle
    rw [pk_sub (by omega), nN_nI (by omega)]
    omega
  · exact hle
theorem IY.drink (h : IY i F) (hi : i ≤ 50) {c : Nat} (hc : c < 3) (hf : 0 < F 3 c) : IY (i + 1) (drinkS F c) := by
  obtain ⟨⟨hn, n, N, h1⟩, h2, h3, t, h5, h6⟩ := h
  obtain ⟨N', h7⟩ := h1.drink (by omega) hc hf
  have far : ∀ j, j ≠ 3 → j ≠ 4 → drinkS F c j = F j := fun j a b => by
    unfold drinkS
    rw [u2_i b, u2_i a]
  exact ⟨⟨hn, n, N', h7.mono (by omega)⟩, eb_drink h1 (by omega) h2 hc hf, (h3.cg (by rw [far 0 (by decide) (by decide)]) (by rw [far 0 (by decide) (by decide)])).mono (by omega), t, by rw [far 0 (by decide) (by decide)]; exact h5, by omega⟩
theorem IY.want (h : IY i F) {hn n p : Nat} {N : Nat → Nat → Nat} (h1 : InvN (20000 * i) F hn n N) (hp : p < 3 * hn) (hc : ¬ nI 9 ≤ F 11 p) : IY (i + 1) (u2 F 11 p (F 11 p + nI 1)) := by
  obtain ⟨-, h2, h3, t, h5, h6⟩ := h
  obtain ⟨N', h7⟩ := h1.want hp hc
  exact ⟨⟨hn, n, N', h7.mono (by omega)⟩, h2.cg (u2_i (by decide)) (u2_i (by decide)) (u2_i (by decide)) (u2_i (by decide)), (h3.cg (by rw [u2_i (by decide)]) (by rw [u2_i (by decide)])).mono (by omega), t, by rw [u2_i (by decide)]; exact h5, by omega⟩
theorem lend_00 (F : FF) (n p : Nat) : lendS F n p 0 0 = F 0 0 := by
  show sendG _ _ _ _ _ _ _ 0 0 = _
  rw [send_00, u2_i (by decide)]
theorem ask_00 (F : FF) (n p : Nat) : askS F n p 0 0 = F 0 0 := by
  show sendG _ _ _ _ _ _ _ 0 0 = _
  rw [send_00]
theorem IY.lend (h : IY i F) (hi : i ≤ 50) {hn n p : Nat} {N : Nat → Nat → Nat} (h1 : InvN (20000 * i) F hn n N) (hp : p < 3 * hn) (hc : canLendS F (p % 3)) : IY (i + 1) (lendS F n p) := by
  obtain ⟨-, h2, h3, t, h5, h6⟩ := h
  have h4 := h1.1.2
  obtain ⟨n', N', -, h7⟩ := h1.lend (by omega) hp (room_lt h1.2.1.1 hc.2 h1.2.1.2)
  obtain ⟨q1, q2, -⟩ := lend_x h1 (by omega) h2 h3 (by omega) (m := n) (show p < 12 by omega) hc.1
  exact ⟨⟨hn, n', N', h7.mono (by omega)⟩, q1, q2.mono (by omega), t, (lend_00 F n p).trans h5, by omega⟩
theorem IY.ask (h : IY i F) (hi : i ≤ 50) {hn n p : Nat} {N : Nat → Nat → Nat} (h1 : InvN (20000 * i) F hn n N) (hp : p < 3 * hn) (hc : roomS F) : IY (i + 1) (askS F n p) := by
  obtain ⟨-, h2, h3, t, h5, h6⟩ := h
  obtain ⟨n', N', -, h7⟩ := h1.ask hp (room_lt h1.2.1.1 hc h1.2.1.2)
  exact ⟨⟨hn, n', N', h7.mono (by omega)⟩, eb_send h2, (sl_send h3 (by omega)).1.mono (by omega), t, (ask_00 F n p).trans h5, by omega⟩
theorem IY.pass (h : IY i F) (hi : i ≤ 50) {m : Nat} (hm : m ≤ 60) : IY (i + 1) (ticksC m F) ∧ Lf F (ticksC m F) := by
  obtain ⟨⟨hn, n, N, h1⟩, h2, h3, t, h5, h6⟩ := h
  obtain ⟨⟨n', N', q1⟩, q2, q3, q4⟩ := ticks_x m _ _ h1 h2 h3 (by omega) (by omega)
  exact ⟨⟨⟨hn, n', N', q1.mono (by omega)⟩, q2, q3.mono (by omega), t + m, by rw [ticks_00, h5, nI_add], by omega⟩, q4⟩
/-- an order of a text -/
theorem ord_x {B C hn n : Nat} {N : Nat → Nat → Nat} {H : FF} {o x y : Int32} (h : InvN B F hn n N) (hE : EB F) (hS : SL C F) (hB : B + 1000 < 2 ^ 28) (hC : C + 1000 < 2 ^ 29) (hx : x < 0 ∨ ∃ t, t ≤ 9 ∧ x = nI t) (e : ordC F o x y = some H) : (∃ n' N', InvN (B + 108) H hn n' N') ∧ EB H ∧ SL (C + 576) H ∧ ∃ s, s ≤ 9 ∧ H 0 0 = F 0 0 + nI s := by
  have h4 := h.1.2
  have z0 : F 0 0 = F 0 0 + nI 0 := (Int32.add_zero _).symm
  unfold ordC at e
  split at e
  · split at e
    · cases e
    · rename_i c1
      split at e
      · have e := Option.some.inj e
        subst e
        obtain ⟨t, ht, rfl⟩ := hx.resolve_left (fun z => c1 (Int32.lt_trans z (by decide)))
        rw [nN_nI (by omega)]
        obtain ⟨⟨n', N', q1⟩, q2, q3, -⟩ := ticks_x t B C h hE hS (by omega) (by omega)
        exact ⟨⟨n', N', q1.mono (by omega)⟩, q2, q3.mono (by omega), t, ht, ticks_00 t F⟩
      · cases e
  · split at e
    · split at e
      · cases e
      · rename_i c1
        split at e
        · cases e
        · rename_i c2
          split at e
          · rename_i c3
            have e := Option.some.inj e
            subst e
            obtain ⟨t, ht, rfl⟩ := hx.resolve_left c1
            have t3 : t < 3 := Nat.not_le.mp (fun z => c2 (nI_le z (by omega)))
            rw [nN_nI (by omega)] at c3 ⊢
            obtain ⟨N', q1⟩ := h.drink (by omega) t3 c3
            have far : ∀ j, j ≠ 3 → j ≠ 4 → drinkS F t j = F j := fun j a b => by
              unfold drinkS
              rw [u2_i b, u2_i a]
            exact ⟨⟨n, N', q1.mono (by omega)⟩, eb_drink h (by omega) hE t3 c3, (hS.cg (by rw [far 0 (by decide) (by decide)]) (by rw [far 0 (by decide) (by decide)])).mono (by omega), 0, by omega, by rw [far 0 (by decide) (by decide)]; exact z0⟩
          · cases e
    · split at e
      · rename_i hp
        obtain ⟨h', k, q1, q2, rfl, rfl⟩ := isPl_of h.1.1 h.1.2 hp
        rw [nN_nI (n := h') (by omega), nN_nI (n := k) (by omega), h.nn] at e
        have e3 : (h' * 3 + k) % 3 = k := by omega
        split at e
        · split at e
          · rename_i c
            have e := Option.some.inj e
            subst e
            obtain ⟨n', N', -, q3⟩ := h.lend (by omega) (p := h' * 3 + k) (by omega) (room_lt h.2.1.1 c.2 h.2.1.2)
            obtain ⟨r1, r2, -⟩ := lend_x h (by omega) hE hS (by omega) (m := n) (p := h' * 3 + k) (by omega) (by rw [e3]; exact c.1)
            exact ⟨⟨n', N', q3.mono (by omega)⟩, r1, r2.mono (by omega), 0, by omega, (lend_00 _ _ _).trans z0⟩
          · cases e
        · split at e
          · split at e
            · rename_i c
              have e := Option.some.inj e
              subst e
              obtain ⟨n', N', -, q3⟩ := h.ask (p := h' * 3 + k) (by omega) (room_lt h.2.1.1 c h.2.1.2)
              exact ⟨⟨n', N', q3.mono (by omega)⟩, eb_send hE, (sl_send hS (by omega)).1.mono (by omega), 0, by omega, (ask_00 _ _ _).trans z0⟩
            · cases e
          · split at e
            · split at e
              · rename_i c
                have e := Option.some.inj e
                subst e
                obtain ⟨N', q3⟩ := h.want (p := h' * 3 + k) (by omega) c
                exact ⟨⟨n, N', q3.mono (by omega)⟩, hE.cg (u2_i (by decide)) (u2_i (by decide)) (u2_i (by decide)) (u2_i (by decide)), (hS.cg (by rw [u2_i (by decide)]) (by rw [u2_i (by decide)])).mono (by omega), 0, by omega, by rw [u2_i (by decide)]; exact z0⟩
              · cases e
            · cases e
      · cases e
end PA
/-! a text that is a day -/
theorem aw_4 {M : FF} {j : Nat} (h : awAt M j = 4) : ∀ d, awAt M (j + d) = 4
  | 0 => h
  | d + 1 => by
    show awS (awAt M (j + d)) _ = 4
    rw [aw_4 h d]
    rfl
theorem awS_1 (c : Int32) : awS 1 c = 2 ∨ awS 1 c = 4 := by
  unfold awS
  rw [if_neg (by decide), if_pos rfl]
  split
  · exact Or.inl rfl
  · exact Or.inr rfl
theorem awS_2 (c : Int32) : awS 2 c = 0 ∨ awS 2 c = 4 := by
  unfold awS
  rw [if_neg (by decide), if_neg (by decide), if_pos rfl]
  split
  · exact Or.inl rfl
  · exact Or.inr rfl
theorem awS_3 (c : Int32) : awS 3 c = 0 ∨ awS 3 c = 4 := by
  unfold awS
  rw [if_neg (by decide), if_neg (by decide), if_neg (by decide), if_pos rfl]
  split
  · exact Or.inl rfl
  · exact Or.inr rfl
theorem awO_dt {c : Int32} (h : c = nI 100 ∨ c = nI 116) : awO c = 2 ∨ awO c = 3 := by
  rcases h with rfl | rfl
  · exact Or.inl (by decide)
  · exact Or.inr (by decide)
theorem awO_lqw {c : Int32} (h : ¬ (c = nI 100 ∨ c = nI 116)) : awO c = 1 ∨ awO c = 4 := by
  unfold awO
  rw [if_neg (fun z => h (Or.inl z))]
  split
  · exact Or.inl rfl
  · split
    · exact Or.inl rfl
    · rw [if_neg (fun z => h (Or.inr z))]
      split
      · exact Or.inl rfl
      · exact Or.inr rfl
section DY
variable {T : FF} {m : Nat}
theorem day_n4 (hd : awAt T m = 0) {j : Nat} (hj : j ≤ m) : awAt T j ≠ 4 := fun z => by
  have := aw_4 z (m - j)
  rw [show j + (m - j) = m by omega, hd] at this
  exact absurd this (by decide)
theorem day_step (hd : awAt T m = 0) {i : Nat} (hi : i < m) (h0 : awAt T i = 0) : i + olS T m i ≤ m ∧ awAt T (i + olS T m i) = 0 := by
  have s1 : awAt T (i + 1) = awO (T 2 i) := by
    show awS (awAt T i) (T 2 i) = _
    rw [h0]
    rfl
  have s2 : awAt T (i + 2) = awS (awAt T (i + 1)) (T 2 (i + 1)) := rfl
  have s3 : awAt T (i + 3) = awS (awAt T (i + 2)) (T 2 (i + 2)) := rfl
  have es : signS T m i = T 2 i := if_pos hi
  unfold olS
  rw [es]
  by_cases c : T 2 i = nI 100 ∨ T 2 i = nI 116
  · rw [if_pos c]
    have v := awO_dt c
    rw [← s1] at v
    have h1 : i + 1 ≠ m := fun z => by
      rw [z, hd] at v
      rcases v with v | v <;> exact absurd v (by decide)
    refine ⟨by omega, ?_⟩
    have k2 := day_n4 hd (j := i + 2) (by omega)
    rw [s2] at k2 ⊢
    rcases v with v | v
    · rw [v] at k2 ⊢
      exact (awS_2 _).resolve_right k2
    · rw [v] at k2 ⊢
      exact (awS_3 _).resolve_right k2
  · rw [if_neg c]
    have v := awO_lqw c
    rw [← s1] at v
    have v := v.resolve_right (day_n4 hd (by omega))
    have h1 : i + 1 ≠ m := fun z => by
      rw [z, hd] at v
      exact absurd v (by decide)
    have v2 : awAt T (i + 2) = 2 := by
      have k2 := day_n4 hd (j := i + 2) (by omega)
      rw [s2, v] at k2 ⊢
      exact (awS_1 _).resolve_right k2
    have h2 : i + 2 ≠ m := fun z => by
      rw [z, hd] at v2
      exact absurd v2 (by decide)
    refine ⟨by omega, ?_⟩
    have k3 := day_n4 hd (j := i + 3) (by omega)
    rw [s3, v2] at k3 ⊢
    exact (awS_2 _).resolve_right k3
theorem fw_day (hd : awAt T m = 0) : ∀ k i, i + k = m → fwGo T k i = m
  | 0, i, h => by
    show i = m
    omega
  | k + 1, i, h => by
    unfold fwGo
    rw [if_neg (day_n4 hd (by omega))]
    exact fw_day hd k (i + 1) (by omega)
theorem fw_le (T : FF) : ∀ k i, fwGo T k i ≤ i + k
  | 0, i => Nat.le_refl i
  | k + 1, i => by
    unfold fwGo
    split
    · omega
    · have := fw_le T k (i + 1)
      omega
theorem dig_x (T : FF) (m i : Nat) : digS T m i < 0 ∨ ∃ t, t ≤ 9 ∧ digS T m i = nI t := by
  by_cases c : digS T m i < 0
  · exact Or.inl c
  · exact Or.inr (dig_of c)
theorem run_x (hday : awAt T m = 0) {B C τ hn : Nat} (hm : m ≤ 60) (hB : B + 10000 < 2 ^ 28) (hC : C + 40000 < 2 ^ 29) : ∀ (q i dn : Nat) (F : FF), i ≤ m → awAt T i = 0 → 2 * dn ≤ i → (∃ n N, InvN (B + 108 * dn) F hn n N) → EB F → SL (C + 576 * dn) F → (∃ t, F 0 0 = nI t ∧ t ≤ τ + 9 * dn) →
    2 * (runR T m q i dn F).1 ≤ m ∧ (∃ n N, InvN (B + 108 * (runR T m q i dn F).1) (runR T m q i dn F).2 hn n N) ∧ EB (runR T m q i dn F).2 ∧ SL (C + 576 * (runR T m q i dn F).1) (runR T m q i dn F).2 ∧ ∃ t, (runR T m q i dn F).2 0 0 = nI t ∧ t ≤ τ + 9 * (runR T m q i dn F).1
  | 0, i, dn, F, hi, _, hdn, h1, h2, h3, h4 => by
    unfold runR
    exact ⟨Nat.le_trans hdn hi, h1, h2, h3, h4⟩
  | q + 1, i, dn, F, hi, h0, hdn, h1, h2, h3, h4 => by
    unfold runR
    split
    · rename_i c
      obtain ⟨c1, c2⟩ := c
      obtain ⟨H, eH⟩ := Option.isSome_iff_exists.mp c2
      rw [eH]
      obtain ⟨n, N, h1⟩ := h1
      obtain ⟨t, h4, h5⟩ := h4
      obtain ⟨⟨n', N', q1⟩, q2, q3, s, hs, q4⟩ := ord_x h1 h2 h3 (by omega) (by omega) (dig_x T m (i + 1)) eH
      obtain ⟨d1, d2⟩ := day_step hday c1 h0
      have o2 := olS_in T m i
      exact run_x hday hm hB hC q (i + olS T m i) (dn + 1) H d1 d2 (by omega) ⟨n', N', q1.mono (by omega)⟩ q2 (q3.mono (by omega)) ⟨t + s, by rw [q4, h4, nI_add], by omega⟩
    · exact ⟨Nat.le_trans hdn hi, h1, h2, h3, h4⟩
end DY
theorem IY.run {i : Nat} {F : FF} (h : IY i F) (hi : i ≤ 50) {T : FF} {m : Nat} (hm : m ≤ 19) (hday : awAt T m = 0) : IY (i + 1) (runR T m (m + 1) 0 0 F).2 ∧ 2 * (runR T m (m + 1) 0 0 F).1 ≤ m := by
  obtain ⟨⟨hn, n, N, h1⟩, h2, h3, t, h5, h6⟩ := h
  obtain ⟨q1, ⟨n', N', q2⟩, q3, q4, t', q5, q6⟩ := run_x (T := T) hday (B := 20000 * i) (C := 20000 * i) (τ := 100 * i) (hn := hn) (by omega) (by omega) (by omega) (m + 1) 0 0 F (by omega) rfl (by omega) ⟨n, N, h1⟩ h2 h3 ⟨t, h5, h6⟩
  exact ⟨⟨⟨hn, n', N', q2.mono (by omega)⟩, q3, q4.mono (by omega), t', q5, by omega⟩, q1⟩
