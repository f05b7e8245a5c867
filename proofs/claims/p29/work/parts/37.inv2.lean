/-! a tick keeps what holds; the class's loops are the reference's -/
section IV2
variable {B : Nat} {F : FF} {hn n : Nat} {N : Nat → Nat → Nat}
theorem sub_pos {a b : Nat} (hb : b ≤ a) (ha : a < 2 ^ 30) : (0 < nI a - nI b ↔ b < a) ∧ (nI a - nI b = 0 ↔ a = b) := by
  rw [pk_sub hb]
  constructor
  · constructor
    · intro h
      rcases Nat.lt_or_ge b a with c | c
      · exact c
      · rw [show a - b = 0 by omega] at h; exact absurd h (by decide)
    · intro h; exact nI_lt (a := 0) (by omega) (by omega)
  · constructor
    · intro h
      have := (nI_eq (a := a - b) (b := 0) (by omega) (by omega)).mp h
      omega
    · intro h; rw [show a - b = 0 by omega]; rfl
theorem out_nat (h : InvN B F hn n N) {p : Nat} (hp : p < 12) : outS F p = nI (N 7 p - N 8 p) := by
  have := h.p hp
  unfold outS
  rw [h.F7 hp, h.F8 hp, pk_sub (by omega)]
theorem corks_nat (h : InvN B F hn n N) {p : Nat} (hp : p < 12) : corksS F p = nI (N 9 p - N 10 p) := by
  have := h.p hp
  unfold corksS
  rw [h.F9 hp, h.F10 hp, pk_sub (by omega)]
theorem nI_0lt {a : Nat} (ha : a < 2 ^ 31) : 0 < nI a ↔ 0 < a := nI_ltI (a := 0) (by omega) ha
theorem nI_e0 {a : Nat} (ha : a < 2 ^ 31) : nI a = 0 ↔ a = 0 := nI_eq (b := 0) ha (by omega)
def whyR (F : FF) (p : Nat) : Int32 := if F 11 p = 0 then nI 1 else if corksS F p = 0 then (if outS F p = 0 then nI 2 else nI 3) else if roomS F then nI 0 else nI 4
theorem why_eq (h : InvN B F hn n N) (hB : B < 2 ^ 30) {p : Nat} (hp : p < 12) : whyR F p = whyC F p := by
  have hq := h.p hp
  unfold whyR whyC
  rw [h.F11 hp, corks_nat h hp, out_nat h hp]
  by_cases c : N 11 p = 0
  · rw [if_pos ((nI_e0 (by omega)).mpr c), if_neg (fun z => by have := (nI_0lt (by omega)).mp z; omega)]
  · rw [if_neg (fun z => c ((nI_e0 (by omega)).mp z)), if_pos ((nI_0lt (by omega)).mpr (by omega))]
    by_cases c2 : N 9 p - N 10 p = 0
    · have k2 : ¬ 0 < nI (N 9 p - N 10 p) := fun z => by have := (nI_0lt (by omega)).mp z; omega
      rw [if_pos ((nI_e0 (by omega)).mpr c2), if_neg k2]
      by_cases c3 : N 7 p - N 8 p = 0
      · have k3 : ¬ 0 < nI (N 7 p - N 8 p) := fun z => by have := (nI_0lt (by omega)).mp z; omega
        rw [if_pos ((nI_e0 (by omega)).mpr c3), if_neg k3]
      · rw [if_neg (fun z => c3 ((nI_e0 (by omega)).mp z)), if_pos ((nI_0lt (by omega)).mpr (by omega))]
    · rw [if_neg (fun z => c2 ((nI_e0 (by omega)).mp z)), if_pos ((nI_0lt (by omega)).mpr (by omega))]
theorem why_0 (h : InvN B F hn n N) (hB : B < 2 ^ 30) {p : Nat} (hp : p < 12) (hw : whyC F p = 0) : 0 < N 11 p ∧ N 10 p < N 9 p ∧ n < 40 ∧ p < 3 * hn := by
  have hq := h.p hp
  have hr := why_room hw
  unfold whyC at hw
  rw [h.F11 hp, corks_nat h hp] at hw
  have e1 : 0 < N 11 p := by
    rcases Nat.eq_zero_or_pos (N 11 p) with z | z
    · rw [if_neg (fun q => by have := (nI_0lt (by omega)).mp q; omega)] at hw; exact absurd hw (by decide)
    · exact z
  rw [if_pos ((nI_0lt (by omega)).mpr e1)] at hw
  have e2 : 0 < N 9 p - N 10 p := by
    rcases Nat.eq_zero_or_pos (N 9 p - N 10 p) with z | z
    · rw [if_neg (fun q => by have := (nI_0lt (by omega)).mp q; omega)] at hw
      split at hw <;> exact absurd hw (by decide)
    · exact z
  refine ⟨e1, by omega, room_lt h.2.1.1 hr h.2.1.2, ?_⟩
  rcases Nat.lt_or_ge p (3 * hn) with c | c
  · exact c
  · have := h.2.2.2.2.2.1 p c hp; omega
theorem InvN.nn (h : InvN B F hn n N) : nN (F 0 4) = n := by rw [h.2.1.1]; exact nN_nI (by have := h.2.1.2; omega)
theorem InvN.pstep (h : InvN B F hn n N) (hB : B < 2 ^ 30) {p : Nat} (hp : p < 12) : ∃ n' N', InvN B (pourStep F p) hn n' N' := by
  unfold pourStep
  by_cases c : whyC F p = 0
  · rw [if_pos c, h.nn]
    obtain ⟨w1, w2, w3, w4⟩ := why_0 h hB hp c
    have hq := h.p hp
    have e10 := h.F10 hp
    have e11 := h.F11 hp
    have h2 : InvN B (u2 (u2 F 11 p (F 11 p - nI 1)) 10 p (F 10 p + nI 1)) hn n (ups (ups N 11 p (N 11 p - 1)) 10 p (N 10 p + 1)) := by
      obtain ⟨⟨eh, h4⟩, ⟨en, n40⟩, hd, hR, hP, hZ, hL, hM, hK⟩ := h
      have a : ∀ i, i ≠ 11 → i ≠ 10 → ups (ups N 11 p (N 11 p - 1)) 10 p (N 10 p + 1) i = N i := fun i x y => by rw [ups_n y, ups_n x]
      have a10 : ∀ q, ups (ups N 11 p (N 11 p - 1)) 10 p (N 10 p + 1) 10 q = if q = p then N 10 p + 1 else N 10 q := fun q => by rw [ups_i, ups_n (by decide)]
      have a11 : ∀ q, ups (ups N 11 p (N 11 p - 1)) 10 p (N 10 p + 1) 11 q = if q = p then N 11 p - 1 else N 11 q := fun q => by rw [ups_n (by decide), ups_i]
      refine ⟨⟨by rw [h0_u (by decide), h0_u (by decide)]; exact eh, h4⟩, ⟨by rw [h0_u (by decide), h0_u (by decide)]; exact en, n40⟩, by rw [hd_u (by decide), hd_u (by decide)]; exact hd, (hR.up (by rw [e11, pk_sub (by omega)])).up (by rw [e10, nI_add]), ?_, ?_, ?_, ?_, ?_⟩
      · intro q hq2
        have h1 := hP q hq2
        rw [a 8 (by decide) (by decide), a 9 (by decide) (by decide), a 7 (by decide) (by decide), a10, a11]
        by_cases c2 : q = p
        · subst c2; rw [if_pos rfl, if_pos rfl]; omega
        · rw [if_neg c2, if_neg c2]; exact h1
      · intro q a1 a2
        have h1 := hZ q a1 a2
        rw [a 7 (by decide) (by decide), a11]
        split <;> omega
      · intro r hr
        rw [a 12 (by decide) (by decide), a 13 (by decide) (by decide)]; exact hL r hr
      · intro r hr
        have h1 := hM r hr
        rw [a 12 (by decide) (by decide), a 13 (by decide) (by decide), a 14 (by decide) (by decide), a 7 (by decide) (by decide), a10]
        refine ⟨h1.1, h1.2.1, fun z => ?_⟩
        have := h1.2.2 z
        split
        · rename_i y; rw [y] at this; omega
        · exact this
      · intro k hk
        rw [s8_i (by decide), s8_i (by decide), a 3 (by decide) (by decide), a 5 (by decide) (by decide), a 6 (by decide) (by decide)]; exact hK k hk
    obtain ⟨n', N', -, -, -, h3⟩ := h2.send w3 (so := 1) (p := p) (nu := N 10 p + 1) (by decide) w4 (fun z => by omega) (fun _ => by rw [ups_s]; omega) (ar := (u2 (u2 F 11 p (F 11 p - nI 1)) 10 p (F 10 p + nI 1)) 0 0 + (u2 (u2 F 11 p (F 11 p - nI 1)) 10 p (F 10 p + nI 1)) 1 0) (lo := (u2 (u2 F 11 p (F 11 p - nI 1)) 10 p (F 10 p + nI 1)) 1 1)
    refine ⟨n', N', ?_⟩
    rw [← nI_add, ← e10] at h3
    exact h3
  · rw [if_neg c]; exact ⟨n, N, h⟩
theorem InvN.lend (h : InvN B F hn n N) (hB : B < 2 ^ 30) {p : Nat} (hp : p < 3 * hn) (h40 : n < 40) : ∃ n' N', (n' = n ∨ n' = n + 1) ∧ InvN (B + 1) (lendS F n p) hn n' N' := by
  have h4 := h.1.2
  have hp12 : p < 12 := by omega
  have hq := h.p hp12
  have e7 := h.F7 hp12
  have h2 : InvN (B + 1) (u2 F 7 p (F 7 p + nI 1)) hn n (ups N 7 p (N 7 p + 1)) := by
    obtain ⟨⟨eh, h4⟩, ⟨en, n40⟩, hd, hR, hP, hZ, hL, hM, hK⟩ := h
    have a : ∀ i, i ≠ 7 → ups N 7 p (N 7 p + 1) i = N i := fun i x => ups_n x
    refine ⟨⟨(h0_u (by decide)).trans eh, h4⟩, ⟨(h0_u (by decide)).trans en, n40⟩, by rw [hd_u (by decide)]; exact hd, hR.up (by rw [e7, nI_add]), ?_, ?_, ?_, ?_, ?_⟩
    · intro q hq2
      have h1 := hP q hq2
      rw [a 8 (by decide), a 9 (by decide), a 10 (by decide), a 11 (by decide), ups_i]
      by_cases c2 : q = p
      · subst c2; rw [if_pos rfl]; omega
      · rw [if_neg c2]; omega
    · intro q a1 a2
      have h1 := hZ q a1 a2
      rw [a 11 (by decide), ups_o (by omega)]
      exact h1
    · intro r hr
      rw [a 12 (by decide), a 13 (by decide)]; exact hL r hr
    · intro r hr
      have h1 := hM r hr
      rw [a 12 (by decide), a 13 (by decide), a 14 (by decide), a 10 (by decide), ups_i]
      refine ⟨h1.1, fun z => ?_, h1.2.2⟩
      have := h1.2.1 z
      split
      · rename_i y; rw [y] at this; omega
      · exact this
    · intro k hk
      rw [s8_i (by decide), a 3 (by decide), a 5 (by decide), a 6 (by decide)]; exact hK k hk
  obtain ⟨n', N', hn', -, -, h3⟩ := h2.send h40 (so := 0) (p := p) (nu := N 7 p + 1) (by decide) hp (fun _ => by rw [ups_s]; omega) (fun z => by omega) (ar := (u2 F 7 p (F 7 p + nI 1)) 0 0 + (u2 F 7 p (F 7 p + nI 1)) 1 0) (lo := (u2 F 7 p (F 7 p + nI 1)) 1 1)
  refine ⟨n', N', hn', ?_⟩
  rw [← nI_add, ← e7] at h3
  exact h3
theorem InvN.ask (h : InvN B F hn n N) {p : Nat} (hp : p < 3 * hn) (h40 : n < 40) : ∃ n' N', (n' = n ∨ n' = n + 1) ∧ InvN B (askS F n p) hn n' N' := by
  have h4 := h.1.2
  obtain ⟨n', N', hn', -, -, h3⟩ := h.send h40 (so := 2) (p := p) (nu := N 7 p) (by decide) hp (fun _ => Nat.le_refl _) (fun z => by omega) (ar := F 0 0 + F 1 0) (lo := F 1 1)
  refine ⟨n', N', hn', ?_⟩
  rw [← h.F7 (show p < 12 by omega)] at h3
  exact h3
theorem InvN.lstep (h : InvN B F hn n N) (hB : B < 2 ^ 30) {p : Nat} (hp : p < 3 * hn) : ∃ n' N', InvN (B + 1) (lendStep F p) hn n' N' := by
  unfold lendStep
  split
  · rename_i c
    rw [h.nn]
    obtain ⟨n', N', -, h3⟩ := h.lend hB hp (room_lt h.2.1.1 c.2.2 h.2.1.2)
    exact ⟨n', N', h3⟩
  · exact ⟨n, N, h.mono (by omega)⟩
theorem InvN.itP (hB : B < 2 ^ 30) : ∀ (k p : Nat) {F : FF} {n : Nat} {N : Nat → Nat → Nat}, InvN B F hn n N → p + k ≤ 12 → ∃ n' N', InvN B (iterP k p F) hn n' N'
  | 0, _, _, n, N, h, _ => ⟨n, N, h⟩
  | k + 1, p, _, _, _, h, hk => by
    obtain ⟨n', N', h2⟩ := h.pstep hB (p := p) (by omega)
    exact InvN.itP hB k (p + 1) h2 (by omega)
theorem InvN.itL : ∀ (k p B : Nat) {F : FF} {n : Nat} {N : Nat → Nat → Nat}, InvN B F hn n N → B + k < 2 ^ 30 → p + k ≤ 3 * hn → ∃ n' N', InvN (B + k) (iterL k p F) hn n' N'
  | 0, _, _, _, n, N, h, _, _ => ⟨n, N, h⟩
  | k + 1, p, B, _, _, _, h, hB, hk => by
    obtain ⟨n', N', h2⟩ := h.lstep (by omega) (p := p) (by omega)
    obtain ⟨n2, N2, h3⟩ := InvN.itL k (p + 1) (B + 1) h2 (by omega) (by omega)
    exact ⟨n2, N2, by rw [show B + (k + 1) = B + 1 + k by omega]; exact h3⟩
/-- a letter read -/
theorem InvN.read (h : InvN B F hn n N) (hB : B < 2 ^ 30) {r : Nat} (hr : r < n) : ∃ n' N', (n' = n - 1 ∨ n' = n) ∧ InvN B (readC (rmS F n r) (n - 1) (N 12 r) (N 13 r) (F 14 r)) hn n' N' := by
  have n40 := h.2.1.2
  have h4 := h.1.2
  have hl := h.2.2.2.2.2.2.1 r (by omega)
  have hm := h.2.2.2.2.2.2.2.1 r hr
  rw [h.F14 (show r < 40 by omega)]
  obtain ⟨N1, e7, e10, h1⟩ := h.rm hr
  have hp : N 13 r < 12 := hl.2
  rcases (show N 12 r = 0 ∨ N 12 r = 1 ∨ N 12 r = 2 ∨ N 12 r = 3 by omega) with q | q | q | q
  · rw [q]
    obtain ⟨N2, -, -, h2⟩ := h1.tell hB hp (nu := N 14 r) (by rw [e7]; exact hm.2.1 (Or.inl q))
    exact ⟨n - 1, N2, Or.inl rfl, h2⟩
  · rw [q]
    obtain ⟨N2, -, -, h2⟩ := h1.pour hB hp (nu := N 14 r) (by rw [e10]; exact hm.2.2 (Or.inl q))
    exact ⟨n - 1, N2, Or.inl rfl, h2⟩
  · rw [q]
    obtain ⟨N2, f7, f10, h2⟩ := h1.tell hB hp (nu := N 14 r) (by rw [e7]; exact hm.2.1 (Or.inr q))
    have e : tellS (rmS F n r) (N 13 r) (nI (N 14 r)) 10 (N 13 r) = nI (N2 10 (N 13 r)) := h2.F10 hp
    show ∃ n' N', (n' = n - 1 ∨ n' = n) ∧ InvN B (sendS (tellS (rmS F n r) (N 13 r) (nI (N 14 r))) (n - 1) (nI 3) (nI (N 13 r)) (tellS (rmS F n r) (N 13 r) (nI (N 14 r)) 10 (N 13 r))) hn n' N'
    rw [e]
    obtain ⟨n', N', hn', -, -, h3⟩ := h2.send (by omega) (so := 3) (p := N 13 r) (nu := N2 10 (N 13 r)) (by decide) hm.1 (fun z => by omega) (fun _ => Nat.le_refl _) (ar := tellS (rmS F n r) (N 13 r) (nI (N 14 r)) 0 0 + tellS (rmS F n r) (N 13 r) (nI (N 14 r)) 1 0) (lo := tellS (rmS F n r) (N 13 r) (nI (N 14 r)) 1 1)
    exact ⟨n', N', by omega, h3⟩
  · rw [q]
    obtain ⟨N2, -, -, -, -, -, h2⟩ := h1.lost hB hp (nu := N 14 r) (by rw [e10]; exact hm.2.2 (Or.inr q))
    exact ⟨n - 1, N2, Or.inl rfl, h2⟩
theorem step_eq (h : InvN B F hn n N) {r : Nat} (hr : r < n) (c : F 15 r = F 0 0) : stepT (F, r) = (readC (rmS F n r) (n - 1) (N 12 r) (N 13 r) (F 14 r), r) := by
  have n40 := h.2.1.2
  have hl := h.2.2.2.2.2.2.1 r (by omega)
  exact stepT_pos c h.2.1.1 h.2.1.2 (h.F12 (by omega)) hl.1 (h.F13 (by omega)) hl.2
theorem InvN.itT (hB : B < 2 ^ 30) : ∀ (k r : Nat) {F : FF} {n : Nat} {N : Nat → Nat → Nat}, InvN B F hn n N → r + k ≤ n → ∃ n' N', InvN B (iterT k (F, r)).1 hn n' N'
  | 0, _, _, n, N, h, _ => ⟨n, N, h⟩
  | k + 1, r, F, n, N, h, hk => by
    show ∃ n' N', InvN B (iterT k (stepT (F, r))).1 hn n' N'
    by_cases c : F 15 r = F 0 0
    · rw [step_eq h (by omega) c]
      obtain ⟨n', N', hn', h2⟩ := h.read hB (r := r) (by omega)
      exact InvN.itT hB k r h2 (by omega)
    · rw [stepT_neg c]
      exact InvN.itT hB k (r + 1) h (by omega)
theorem InvN.take (h : InvN B F hn n N) (hB : B < 2 ^ 30) : ∃ n' N', InvN B (takeC F) hn n' N' := by
  unfold takeC
  rw [h.nn]
  exact InvN.itT hB n 0 h (by omega)
theorem nN_h {F : FF} {hn : Nat} (h : F 0 1 = nI hn) (h4 : hn ≤ 4) : nN (F 0 1) = hn := by rw [h]; exact nN_nI (by omega)
theorem InvN.tick (h : InvN B F hn n N) (hB : B + 12 < 2 ^ 30) : ∃ n' N', InvN (B + 12) (tickC F) hn n' N' := by
  unfold tickC
  obtain ⟨n1, N1, h1⟩ := (h.u (i := 0) (j := 0) (x := F 0 0 + nI 1) (by omega)).take (by omega)
  obtain ⟨n2, N2, h2⟩ := InvN.itP (by omega) 12 0 h1 (by omega)
  unfold lendsC poursC
  rw [nN_h h2.1.1 h2.1.2]
  obtain ⟨n3, N3, h3⟩ := InvN.itL (hn * 3) 0 B h2 (by have := h2.1.2; omega) (by omega)
  exact ⟨n3, N3, h3.mono (by have := h2.1.2; omega)⟩
theorem InvN.ticks : ∀ (t B : Nat) {F : FF} {n : Nat} {N : Nat → Nat → Nat}, InvN B F hn n N → B + 12 * t < 2 ^ 30 → ∃ n' N', InvN (B + 12 * t) (ticksC t F) hn n' N'
  | 0, _, _, n, N, h, _ => ⟨n, N, h⟩
  | t + 1, B, _, _, _, h, hB => by
    obtain ⟨n', N', h2⟩ := h.tick (by omega)
    obtain ⟨n2, N2, h3⟩ := InvN.ticks t (B + 12) h2 (by omega)
    exact ⟨n2, N2, by rw [show B + 12 * (t + 1) = B + 12 + 12 * t by omega]; exact h3⟩
/-- beyond the houses nothing pours -/
theorem pourStep_out (h : InvN B F hn n N) {p : Nat} (h1 : 3 * hn ≤ p) (h2 : p < 12) : pourStep F p = F := by
  have hz := h.2.2.2.2.2.1 p h1 h2
  have e : whyC F p = nI 1 := by
    unfold whyC
    rw [h.F11 h2, hz.2, if_neg (by decide)]
  unfold pourStep
  rw [e, if_neg (by decide)]
theorem iterP_out (hB : B < 2 ^ 30) : ∀ (k p : Nat) {F : FF} {n : Nat} {N : Nat → Nat → Nat}, InvN B F hn n N → 3 * hn ≤ p → p + k ≤ 12 → iterP k p F = F
  | 0, _, _, _, _, _, _, _ => rfl
  | k + 1, p, F, n, N, h, h1, h2 => by
    show iterP k (p + 1) (pourStep F p) = F
    rw [pourStep_out h h1 (by omega)]
    exact iterP_out hB k (p + 1) h (by omega) (by omega)
theorem iterP_add : ∀ (k j p : Nat) (F : FF), iterP (k + j) p F = iterP j (p + k) (iterP k p F)
  | 0, j, p, F => by rw [Nat.zero_add]; rfl
  | k + 1, j, p, F => by
    rw [show k + 1 + j = (k + j) + 1 by omega]
    show iterP (k + j) (p + 1) (pourStep F p) = _
    rw [iterP_add k j (p + 1), show p + 1 + k = p + (k + 1) by omega]
    rfl
theorem pours_eq (h : InvN B F hn n N) (hB : B < 2 ^ 30) : poursC F = iterP (3 * hn) 0 F := by
  have h4 := h.1.2
  unfold poursC
  rw [show 12 = 3 * hn + (12 - 3 * hn) by omega, iterP_add]
  obtain ⟨n', N', h2⟩ := InvN.itP hB (3 * hn) 0 h (by omega)
  rw [show 0 + 3 * hn = 3 * hn by omega]
  exact iterP_out hB _ _ h2 (by omega) (by omega)
theorem lendStep_no (h : InvN B F hn n N) (hB : B < 2 ^ 30) (h2 : F 1 2 ≤ 0) {p : Nat} (hp : p < 12) : lendStep F p = F := by
  have hq := h.p hp
  unfold lendStep
  rw [if_neg]
  intro z
  refine z.1 (Int32.le_trans h2 ?_)
  rw [out_nat h hp]
  exact nI_le (a := 0) (by omega) (by omega)
theorem lends_no (h : InvN B F hn n N) (hB : B < 2 ^ 30) (h2 : F 1 2 ≤ 0) : lendsC F = F := by
  have h4 := h.1.2
  unfold lendsC
  rw [nN_h h.1.1 h.1.2]
  have : ∀ k p, p + k ≤ 12 → iterL k p F = F := by
    intro k
    induction k with
    | zero => intro p _; rfl
    | succ k ih =>
      intro p hk
      show iterL k (p + 1) (lendStep F p) = F
      rw [lendStep_no h hB h2 (by omega)]
      exact ih (p + 1) (by omega)
  exact this _ _ (by omega)
/-- sums over a row where one place changes -/
theorem sumS_upd {f : Nat → Int32} {p m : Nat} {x : Int32} : sumS (upd f p x) m = if p < m then sumS f m + (x - f p) else sumS f m := by
  induction m with
  | zero => rfl
  | succ m ih =>
    show sumS (upd f p x) m + upd f p x m = _
    rw [ih]
    by_cases c : p < m
    · rw [if_pos c, if_pos (by omega), upd_n (by omega)]
      show _ = sumS f m + f m + (x - f p)
      rw [Int32.add_assoc, Int32.add_assoc, Int32.add_comm (x - f p)]
    · rw [if_neg c]
      by_cases c2 : m = p
      · subst c2
        rw [if_pos (by omega), upd_s]
        show _ = sumS f m + f m + (x - f m)
        rw [Int32.add_assoc, Int32.sub_eq_add_neg, Int32.add_comm x, ← Int32.add_assoc (f m), Int32.add_right_neg, Int32.zero_add]
      · rw [if_neg (by omega), upd_n c2]
        rfl
theorem pour_10 (F : FF) (p : Nat) : pourStep F p 10 = if whyC F p = 0 then upd (F 10) p (F 10 p + nI 1) else F 10 := by
  unfold pourStep
  split
  · show sendG _ _ _ _ _ _ _ 10 = _
    rw [send_far (by decide) (by decide), u2_e, u2_i (by decide)]
  · rfl
theorem pour_sum (F : FF) {p : Nat} (hp : p < 12) : sumS (pourStep F p 10) 12 = sumS (F 10) 12 + (if whyC F p = 0 then nI 1 else nI 0) := by
  rw [pour_10]
  split
  · rw [sumS_upd, if_pos hp, Int32.add_comm (F 10 p), Int32.add_sub_cancel]
  · exact (Int32.add_zero _).symm
/-- rows that a letter read and a cork lent leave alone -/
theorem tell_far (F : FF) (p : Nat) (nu : Int32) {i : Nat} (h : i ≠ 9) : tellS F p nu i = F i := u2_i h
theorem lost_far (F : FF) (p : Nat) (nu : Int32) {i : Nat} (h : i ≠ 6) (h2 : i ≠ 8) : lostC F p nu i = F i := by
  unfold lostC
  split
  · rfl
  · rw [u2_i h2, u2_i h]
theorem pour_far (F : FF) (p : Nat) (nu : Int32) {i : Nat} (h : i ≠ 6) (h2 : i ≠ 8) (h3 : i ≠ 5) (h4 : i ≠ 3) : pourC F p nu i = F i := by
  unfold pourC
  split
  · rfl
  · rw [u2_i h2, u2_i h4, u2_i h3, lost_far _ _ _ h h2]
theorem read_far (F : FF) (n so p : Nat) (nu : Int32) {i : Nat} (h0 : i ≠ 0) (h : i ≠ 6) (h2 : i ≠ 8) (h3 : i ≠ 5) (h4 : i ≠ 3) (h9 : i ≠ 9) (h12 : i < 12) : readC F n so p nu i = F i := by
  unfold readC
  split
  · exact tell_far _ _ _ h9
  · split
    · exact pour_far _ _ _ h h2 h3 h4
    · split
      · show sendG _ _ _ _ _ _ _ i = _
        rw [send_far h0 h12, tell_far _ _ _ h9]
      · exact lost_far _ _ _ h h2
theorem read_00 (F : FF) (n so p : Nat) (nu : Int32) : readC F n so p nu 0 0 = F 0 0 := by
  unfold readC
  split
  · rw [tell_0]
  · split
    · rw [pour_0]
    · split
      · show sendG _ _ _ _ _ _ _ 0 0 = _
        rw [send_00, tell_0]
      · rw [lost_0]
theorem send_15 (F : FF) (n : Nat) (so pl nu ar lo : Int32) : (sendG F n so pl nu ar lo 15 = F 15 ∧ sendG F n so pl nu ar lo 0 4 = F 0 4) ∨ sendG F n so pl nu ar lo 15 = upd (F 15) n ar := by
  unfold sendG
  split
  · exact Or.inl ⟨by rw [u2_i (by decide), u2_i (by decide)], by rw [u2_12, if_neg (by decide), u2_12, if_neg (by decide)]⟩
  · exact Or.inr (by rw [u2_i (by decide), u2_e, u2_i (by decide), u2_i (by decide), u2_i (by decide), u2_i (by decide)])
theorem read_15 (F : FF) (n so p : Nat) (nu : Int32) : (readC F n so p nu 15 = F 15 ∧ readC F n so p nu 0 4 = F 0 4) ∨ readC F n so p nu 15 = upd (F 15) n (F 0 0 + F 1 0) := by
  unfold readC
  split
  · exact Or.inl ⟨tell_far _ _ _ (by decide), by rw [tell_0]⟩
  · split
    · exact Or.inl ⟨pour_far _ _ _ (by decide) (by decide) (by decide) (by decide), by rw [pour_0]⟩
    · split
      · rcases send_15 (tellS F p nu) n (nI 3) (nI p) (tellS F p nu 10 p) (tellS F p nu 0 0 + tellS F p nu 1 0) (tellS F p nu 1 1) with q | q
        · exact Or.inl ⟨q.1.trans (tell_far _ _ _ (by decide)), q.2.trans (by rw [tell_0])⟩
        · refine Or.inr (q.trans ?_)
          rw [tell_far _ _ _ (by decide), tell_0, tell_far _ _ _ (by decide)]
      · exact Or.inl ⟨lost_far _ _ _ (by decide) (by decide), by rw [lost_0]⟩
theorem add_ne {x d : Int32} (h : d ≠ 0) : x + d ≠ x := by
  intro z
  apply h
  have e : x + d - x = d := by rw [Int32.add_comm]; exact Int32.add_sub_cancel _ _
  rw [← e, z]
  exact Int32.sub_self _
/-- behind the class's steps lie letters that don't arrive now -/
def Late (F : FF) (m n : Nat) : Prop := ∀ j, m ≤ j → j < n → F 15 j ≠ F 0 0
theorem late_read (h : InvN B F hn n N) {r m : Nat} (hr : r < n) (hm : r < m) (hL : Late F m n) {n' : Nat} (hn' : n' = n - 1 ∨ n' = n) (e' : readC (rmS F n r) (n - 1) (N 12 r) (N 13 r) (F 14 r) 0 4 = nI n') : Late (readC (rmS F n r) (n - 1) (N 12 r) (N 13 r) (F 14 r)) (m - 1) n' := by
  intro j h1 h2
  have hd := h.2.2.1
  have n40 := h.2.1.2
  rw [read_00, rm_0 F n r (by decide)]
  have old : j + 1 < n → rmS F n r 15 j ≠ F 0 0 := fun c => by
    rw [rm_let F n r (by decide) (by decide), cpy_at, if_pos (by omega)]
    exact hL (j + 1) (by omega) (by omega)
  rcases read_15 (rmS F n r) (n - 1) (N 12 r) (N 13 r) (F 14 r) with q | q
  · have e2 : n - 1 = n' := (nI_eq (by omega) (by omega)).mp ((rm_04 F n r).symm.trans (q.2.symm.trans e'))
    rw [q.1]
    exact old (by omega)
  · rw [q]
    by_cases c : j = n - 1
    · rw [c, upd_s, rm_0 F n r (by decide), rm_far F n r (by decide) (by decide)]
      exact add_ne hd
    · rw [upd_n c]
      exact old (by omega)
end IV2
