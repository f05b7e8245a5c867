/-! what holds of every state: the numbers as naturals, and how they stand to each other -/
def Rp (F : FF) (N : Nat → Nat → Nat) : Prop := ∀ i k, 3 ≤ i → i < 15 → i ≠ 4 → k < lenF i → F i k = nI (N i k)
def ups (N : Nat → Nat → Nat) (i j v : Nat) : Nat → Nat → Nat := fun a b => if a = i ∧ b = j then v else N a b
theorem ups_n {N : Nat → Nat → Nat} {i j v a : Nat} (h : a ≠ i) : ups N i j v a = N a := by
  funext b
  unfold ups
  rw [if_neg (fun z => h z.1)]
theorem ups_i {N : Nat → Nat → Nat} {i j v b : Nat} : ups N i j v i b = if b = j then v else N i b := by
  unfold ups
  by_cases h : b = j
  · rw [if_pos ⟨rfl, h⟩, if_pos h]
  · rw [if_neg (fun z => h z.2), if_neg h]
theorem ups_s {N : Nat → Nat → Nat} {i j v : Nat} : ups N i j v i j = v := by rw [ups_i, if_pos rfl]
theorem ups_o {N : Nat → Nat → Nat} {i j v b : Nat} (h : b ≠ j) : ups N i j v i b = N i b := by rw [ups_i, if_neg h]
theorem Rp.up {F : FF} {N : Nat → Nat → Nat} (h : Rp F N) {i j : Nat} {x : Int32} {v : Nat} (e : x = nI v) : Rp (u2 F i j x) (ups N i j v) := by
  intro a k h1 h2 h3 h4
  rw [u2_12]
  unfold ups
  by_cases c : a = i ∧ k = j
  · rw [if_pos c, if_pos c]; exact e
  · rw [if_neg c, if_neg c]; exact h a k h1 h2 h3 h4
theorem Rp.out {F : FF} {N : Nat → Nat → Nat} (h : Rp F N) {i j : Nat} {x : Int32} (hi : i < 3 ∨ i = 4 ∨ 15 ≤ i) : Rp (u2 F i j x) N := by
  intro a k h1 h2 h3 h4
  rw [u2_i (by omega)]
  exact h a k h1 h2 h3 h4
def s8 (N : Nat → Nat → Nat) (k : Nat) : Nat := N 8 k + N 8 (k + 3) + N 8 (k + 6) + N 8 (k + 9)
theorem s8_up {N : Nat → Nat → Nat} {p v : Nat} (hp : p < 12) : s8 (ups N 8 p v) (p % 3) + N 8 p = s8 N (p % 3) + v := by
  rcases (show p = 0 ∨ p = 1 ∨ p = 2 ∨ p = 3 ∨ p = 4 ∨ p = 5 ∨ p = 6 ∨ p = 7 ∨ p = 8 ∨ p = 9 ∨ p = 10 ∨ p = 11 by omega) with rfl | rfl | rfl | rfl | rfl | rfl | rfl | rfl | rfl | rfl | rfl | rfl <;> simp [s8, ups] <;> omega
theorem s8_ne {N : Nat → Nat → Nat} {p v k : Nat} (hk : k < 3) (h : k ≠ p % 3) : s8 (ups N 8 p v) k = s8 N k := by
  unfold s8
  rw [ups_o (by omega), ups_o (by omega), ups_o (by omega), ups_o (by omega)]
theorem s8_i {N : Nat → Nat → Nat} {i j v k : Nat} (h : (8 : Nat) ≠ i) : s8 (ups N i j v) k = s8 N k := by
  unfold s8
  rw [ups_n h]
def IP (B : Nat) (N : Nat → Nat → Nat) : Prop := ∀ p, p < 12 → N 8 p ≤ N 10 p ∧ N 10 p ≤ N 9 p ∧ N 9 p ≤ N 7 p ∧ N 7 p ≤ B ∧ N 11 p ≤ 9
def IZ (N : Nat → Nat → Nat) (hn : Nat) : Prop := ∀ p, 3 * hn ≤ p → p < 12 → N 7 p = 0 ∧ N 11 p = 0
def IL (N : Nat → Nat → Nat) : Prop := ∀ r, r < 40 → N 12 r < 4 ∧ N 13 r < 12
def IM (N : Nat → Nat → Nat) (hn n : Nat) : Prop := ∀ r, r < n → N 13 r < 3 * hn ∧ ((N 12 r = 0 ∨ N 12 r = 2) → N 14 r ≤ N 7 (N 13 r)) ∧ ((N 12 r = 1 ∨ N 12 r = 3) → N 14 r ≤ N 10 (N 13 r))
def IK (N : Nat → Nat → Nat) : Prop := ∀ k, k < 3 → N 3 k ≤ N 5 k ∧ N 5 k + N 6 k = s8 N k
def InvN (B : Nat) (F : FF) (hn n : Nat) (N : Nat → Nat → Nat) : Prop := (F 0 1 = nI hn ∧ hn ≤ 4) ∧ (F 0 4 = nI n ∧ n ≤ 40) ∧ ¬ F 1 0 = 0 ∧ Rp F N ∧ IP B N ∧ IZ N hn ∧ IL N ∧ IM N hn n ∧ IK N
def Inv (B : Nat) (F : FF) (hn n : Nat) : Prop := ∃ N, InvN B F hn n N
section IV
variable {B : Nat} {F : FF} {hn n : Nat} {N : Nat → Nat → Nat}
theorem InvN.at (h : InvN B F hn n N) {i k : Nat} (h1 : 3 ≤ i) (h2 : i < 15) (h3 : i ≠ 4) (h4 : k < lenF i) : F i k = nI (N i k) := h.2.2.2.1 i k h1 h2 h3 h4
theorem InvN.sh (h : InvN B F hn n N) : Sh F :=
  ⟨⟨hn, h.1.2, h.1.1⟩, ⟨n, h.2.1.2, h.2.1.1⟩, fun r hr => ⟨⟨N 12 r, (h.2.2.2.2.2.2.1 r hr).1, h.at (by decide) (by decide) (by decide) hr⟩, N 13 r, (h.2.2.2.2.2.2.1 r hr).2, h.at (by decide) (by decide) (by decide) hr⟩⟩
theorem InvN.p (h : InvN B F hn n N) {p : Nat} (hp : p < 12) : N 8 p ≤ N 10 p ∧ N 10 p ≤ N 9 p ∧ N 9 p ≤ N 7 p ∧ N 7 p ≤ B ∧ N 11 p ≤ 9 := h.2.2.2.2.1 p hp
theorem InvN.F7 (h : InvN B F hn n N) {p : Nat} (hp : p < 12) : F 7 p = nI (N 7 p) := h.at (by decide) (by decide) (by decide) hp
theorem InvN.F8 (h : InvN B F hn n N) {p : Nat} (hp : p < 12) : F 8 p = nI (N 8 p) := h.at (by decide) (by decide) (by decide) hp
theorem InvN.F9 (h : InvN B F hn n N) {p : Nat} (hp : p < 12) : F 9 p = nI (N 9 p) := h.at (by decide) (by decide) (by decide) hp
theorem InvN.F10 (h : InvN B F hn n N) {p : Nat} (hp : p < 12) : F 10 p = nI (N 10 p) := h.at (by decide) (by decide) (by decide) hp
theorem InvN.F11 (h : InvN B F hn n N) {p : Nat} (hp : p < 12) : F 11 p = nI (N 11 p) := h.at (by decide) (by decide) (by decide) hp
theorem InvN.F3 (h : InvN B F hn n N) {p : Nat} (hp : p < 3) : F 3 p = nI (N 3 p) := h.at (by decide) (by decide) (by decide) hp
theorem InvN.F5 (h : InvN B F hn n N) {p : Nat} (hp : p < 3) : F 5 p = nI (N 5 p) := h.at (by decide) (by decide) (by decide) hp
theorem InvN.F6 (h : InvN B F hn n N) {p : Nat} (hp : p < 3) : F 6 p = nI (N 6 p) := h.at (by decide) (by decide) (by decide) hp
theorem InvN.F12 (h : InvN B F hn n N) {p : Nat} (hp : p < 40) : F 12 p = nI (N 12 p) := h.at (by decide) (by decide) (by decide) hp
theorem InvN.F13 (h : InvN B F hn n N) {p : Nat} (hp : p < 40) : F 13 p = nI (N 13 p) := h.at (by decide) (by decide) (by decide) hp
theorem InvN.F14 (h : InvN B F hn n N) {p : Nat} (hp : p < 40) : F 14 p = nI (N 14 p) := h.at (by decide) (by decide) (by decide) hp
theorem InvN.mono (h : InvN B F hn n N) {C : Nat} (hC : B ≤ C) : InvN C F hn n N :=
  ⟨h.1, h.2.1, h.2.2.1, h.2.2.2.1, fun p hp => by have := h.p hp; omega, h.2.2.2.2.2⟩
theorem Inv.mono (h : Inv B F hn n) {C : Nat} (hC : B ≤ C) : Inv C F hn n := ⟨_, h.choose_spec.mono hC⟩
theorem InvN.u (h : InvN B F hn n N) {i j : Nat} {x : Int32} (hi : (i = 0 ∧ j ≠ 1 ∧ j ≠ 4) ∨ (i = 1 ∧ (j ≠ 0 ∨ x ≠ 0)) ∨ i = 2 ∨ i = 4 ∨ 15 ≤ i) : InvN B (u2 F i j x) hn n N := by
  have e0 : ∀ k, (k = 1 ∨ k = 4) → u2 F i j x 0 k = F 0 k := fun k hk => by
    rw [u2_12, if_neg (by rcases hk with rfl | rfl <;> omega)]
  refine ⟨⟨(e0 1 (Or.inl rfl)).trans h.1.1, h.1.2⟩, ⟨(e0 4 (Or.inr rfl)).trans h.2.1.1, h.2.1.2⟩, ?_, h.2.2.2.1.out (by omega), h.2.2.2.2⟩
  rw [u2_12]
  by_cases c : 1 = i ∧ 0 = j
  · rw [if_pos c]
    rcases hi with q | q | q | q | q
    · omega
    · rcases q.2 with z | z
      · exact absurd c.2.symm z
      · exact z
    all_goals omega
  · rw [if_neg c]; exact h.2.2.1
theorem hd_u {i j : Nat} {x : Int32} (h : i ≠ 1) : u2 F i j x 1 0 = F 1 0 := by rw [u2_12, if_neg (by omega)]
theorem h0_u {i j k : Nat} {x : Int32} (h : i ≠ 0) : u2 F i j x 0 k = F 0 k := by rw [u2_12, if_neg (by omega)]
/-- one letter more -/
theorem InvN.send (h : InvN B F hn n N) (h40 : n < 40) {so p nu : Nat} (hso : so < 4) (hp : p < 3 * hn) (h7 : (so = 0 ∨ so = 2) → nu ≤ N 7 p) (h10 : (so = 1 ∨ so = 3) → nu ≤ N 10 p) {ar lo : Int32} :
    ∃ n' N', (n' = n ∨ n' = n + 1) ∧ N' 7 = N 7 ∧ N' 10 = N 10 ∧ InvN B (sendG F n (nI so) (nI p) (nI nu) ar lo) hn n' N' := by
  have h4 := h.1.2
  unfold sendG
  split
  · exact ⟨n, N, Or.inl rfl, rfl, rfl, (h.u (by omega)).u (by omega)⟩
  · obtain ⟨⟨eh, _⟩, ⟨en, _⟩, hd, hR, hP, hZ, hL, hM, hK⟩ := h
    refine ⟨n + 1, ups (ups (ups N 12 n so) 13 n p) 14 n nu, Or.inr rfl, ?_, ?_, ⟨?_, h4⟩, ⟨rfl, by omega⟩, ?_, ?_, ?_, ?_, ?_, ?_, ?_⟩
    · rw [ups_n (by decide), ups_n (by decide), ups_n (by decide)]
    · rw [ups_n (by decide), ups_n (by decide), ups_n (by decide)]
    · rw [u2_12, if_neg (by omega), h0_u (by decide), h0_u (by decide), h0_u (by decide), h0_u (by decide), u2_12, if_neg (by omega)]; exact eh
    · rw [hd_u (by decide), hd_u (by decide), hd_u (by decide), hd_u (by decide), hd_u (by decide), hd_u (by decide)]; exact hd
    · exact ((((hR.out (by omega)).up rfl).up rfl).up rfl |>.out (by omega)).out (by omega)
    · intro q hq
      have := hP q hq
      rw [ups_n (by decide), ups_n (by decide), ups_n (by decide), ups_n (by decide), ups_n (by decide), ups_n (by decide), ups_n (by decide), ups_n (by decide), ups_n (by decide), ups_n (by decide), ups_n (by decide), ups_n (by decide), ups_n (by decide), ups_n (by decide), ups_n (by decide)]
      exact this
    · intro q hq hq2
      have := hZ q hq hq2
      rw [ups_n (by decide), ups_n (by decide), ups_n (by decide), ups_n (by decide), ups_n (by decide), ups_n (by decide)]
      exact this
    · intro r hr
      have := hL r hr
      have a12 : ups (ups (ups N 12 n so) 13 n p) 14 n nu 12 r = if r = n then so else N 12 r := by
        rw [ups_n (by decide), ups_n (by decide), ups_i]
      have a13 : ups (ups (ups N 12 n so) 13 n p) 14 n nu 13 r = if r = n then p else N 13 r := by
        rw [ups_n (by decide), ups_i, ups_n (by decide)]
      rw [a12, a13]
      split
      · omega
      · exact this
    · intro r hr
      have a12 : ups (ups (ups N 12 n so) 13 n p) 14 n nu 12 r = if r = n then so else N 12 r := by
        rw [ups_n (by decide), ups_n (by decide), ups_i]
      have a13 : ups (ups (ups N 12 n so) 13 n p) 14 n nu 13 r = if r = n then p else N 13 r := by
        rw [ups_n (by decide), ups_i, ups_n (by decide)]
      have a14 : ups (ups (ups N 12 n so) 13 n p) 14 n nu 14 r = if r = n then nu else N 14 r := by
        rw [ups_i, ups_n (by decide), ups_n (by decide)]
      have a7 : ups (ups (ups N 12 n so) 13 n p) 14 n nu 7 = N 7 := by rw [ups_n (by decide), ups_n (by decide), ups_n (by decide)]
      have a10 : ups (ups (ups N 12 n so) 13 n p) 14 n nu 10 = N 10 := by rw [ups_n (by decide), ups_n (by decide), ups_n (by decide)]
      rw [a12, a13, a14, a7, a10]
      by_cases c : r = n
      · simp only [if_pos c]
        exact ⟨hp, h7, h10⟩
      · simp only [if_neg c]
        exact hM r (by omega)
    · intro k hk
      have := hK k hk
      rw [s8_i (by decide), s8_i (by decide), s8_i (by decide)]
      rw [ups_n (by decide), ups_n (by decide), ups_n (by decide), ups_n (by decide), ups_n (by decide), ups_n (by decide), ups_n (by decide), ups_n (by decide), ups_n (by decide)]
      exact this
/-- a letter told: the greatest number -/
theorem InvN.tell (h : InvN B F hn n N) (hB : B < 2 ^ 30) {p nu : Nat} (hp : p < 12) (h7 : nu ≤ N 7 p) : ∃ N', N' 7 = N 7 ∧ N' 10 = N 10 ∧ InvN B (tellS F p (nI nu)) hn n N' := by
  have hq := h.p hp
  have e9 := h.F9 hp
  obtain ⟨⟨eh, h4⟩, ⟨en, n40⟩, hd, hR, hP, hZ, hL, hM, hK⟩ := h
  refine ⟨ups N 9 p (if N 9 p < nu then nu else N 9 p), ups_n (by decide), ups_n (by decide), ⟨(h0_u (by decide)).trans eh, h4⟩, ⟨(h0_u (by decide)).trans en, n40⟩, by unfold tellS; rw [hd_u (by decide)]; exact hd, ?_, ?_, ?_, ?_, ?_, ?_⟩
  · refine hR.up ?_
    rw [e9]
    by_cases c : N 9 p < nu
    · rw [if_pos c, if_pos ((nI_ltI (by omega) (by omega)).mpr c)]
    · rw [if_neg c, if_neg (fun z => c ((nI_ltI (by omega) (by omega)).mp z))]
  · intro q hq2
    have h1 := hP q hq2
    have z : ∀ i, i ≠ 9 → ups N 9 p (if N 9 p < nu then nu else N 9 p) i = N i := fun i x => ups_n x
    rw [z 8 (by decide), z 10 (by decide), z 7 (by decide), z 11 (by decide), ups_i]
    by_cases c : q = p
    · subst c
      rw [if_pos rfl]
      split <;> omega
    · rw [if_neg c]; exact h1
  · intro q h1 h2
    rw [ups_n (by decide), ups_n (by decide)]
    exact hZ q h1 h2
  · intro r hr
    rw [ups_n (by decide), ups_n (by decide)]
    exact hL r hr
  · intro r hr
    rw [ups_n (by decide), ups_n (by decide), ups_n (by decide), ups_n (by decide), ups_n (by decide)]
    exact hM r hr
  · intro k hk
    rw [s8_i (by decide), ups_n (by decide), ups_n (by decide), ups_n (by decide)]
    exact hK k hk
theorem InvN.lost (h : InvN B F hn n N) (hB : B < 2 ^ 30) {p nu : Nat} (hp : p < 12) (h10 : nu ≤ N 10 p) : ∃ N', N' 7 = N 7 ∧ N' 10 = N 10 ∧ N' 3 = N 3 ∧ N' 5 = N 5 ∧ N' 8 = (ups N 8 p (if nu ≤ N 8 p then N 8 p else nu)) 8 ∧ InvN B (lostC F p (nI nu)) hn n N' := by
  have hq := h.p hp
  have e8 := h.F8 hp
  have e6 := h.F6 (p := p % 3) (by omega)
  unfold lostC
  rw [e8]
  by_cases c : nu ≤ N 8 p
  · rw [if_pos (nI_le c (by omega)), if_pos c]
    refine ⟨N, rfl, rfl, rfl, rfl, ?_, h⟩
    funext b
    rw [ups_i]
    split
    · rename_i z; rw [z]
    · rfl
  · rw [if_neg (nI_ge (Nat.lt_of_not_le c) (by omega)), if_neg c]
    obtain ⟨⟨eh, h4⟩, ⟨en, n40⟩, hd, hR, hP, hZ, hL, hM, hK⟩ := h
    refine ⟨ups (ups N 6 (p % 3) (N 6 (p % 3) + (nu - N 8 p))) 8 p nu, ?_, ?_, ?_, ?_, ?_, ⟨by rw [h0_u (by decide), h0_u (by decide)]; exact eh, h4⟩, ⟨by rw [h0_u (by decide), h0_u (by decide)]; exact en, n40⟩, by rw [hd_u (by decide), hd_u (by decide)]; exact hd, ?_, ?_, ?_, ?_, ?_, ?_⟩
    · rw [ups_n (by decide), ups_n (by decide)]
    · rw [ups_n (by decide), ups_n (by decide)]
    · rw [ups_n (by decide), ups_n (by decide)]
    · rw [ups_n (by decide), ups_n (by decide)]
    · funext b; rw [ups_i, ups_i, ups_n (by decide)]
    · refine (hR.up ?_).up rfl
      rw [e6, pk_sub (by omega), nI_add]
    · intro q hq2
      have h1 := hP q hq2
      rw [ups_i, ups_n (by decide), ups_n (by decide), ups_n (by decide), ups_n (by decide), ups_n (by decide), ups_n (by decide), ups_n (by decide), ups_n (by decide), ups_n (by decide)]
      by_cases c2 : q = p
      · subst c2
        rw [if_pos rfl]
        omega
      · rw [if_neg c2]; exact h1
    · intro q h1 h2
      rw [ups_n (by decide), ups_n (by decide), ups_n (by decide), ups_n (by decide)]
      exact hZ q h1 h2
    · intro r hr
      rw [ups_n (by decide), ups_n (by decide), ups_n (by decide), ups_n (by decide)]
      exact hL r hr
    · intro r hr
      rw [ups_n (by decide), ups_n (by decide), ups_n (by decide), ups_n (by decide), ups_n (by decide), ups_n (by decide), ups_n (by decide), ups_n (by decide), ups_n (by decide), ups_n (by decide)]
      exact hM r hr
    · intro k hk
      have h1 := hK k hk
      have a3 : ups (ups N 6 (p % 3) (N 6 (p % 3) + (nu - N 8 p))) 8 p nu 3 = N 3 := by rw [ups_n (by decide), ups_n (by decide)]
      have a5 : ups (ups N 6 (p % 3) (N 6 (p % 3) + (nu - N 8 p))) 8 p nu 5 = N 5 := by rw [ups_n (by decide), ups_n (by decide)]
      have a6 : ups (ups N 6 (p % 3) (N 6 (p % 3) + (nu - N 8 p))) 8 p nu 6 k = if k = p % 3 then N 6 (p % 3) + (nu - N 8 p) else N 6 k := by rw [ups_n (by decide), ups_i]
      rw [a3, a5, a6]
      by_cases c2 : k = p % 3
      · subst c2
        rw [if_pos rfl]
        have h2 := s8_up (N := ups N 6 (p % 3) (N 6 (p % 3) + (nu - N 8 p))) (v := nu) hp
        rw [s8_i (i := 6) (by decide), ups_n (a := 8) (i := 6) (by decide)] at h2
        omega
      · rw [if_neg c2, s8_ne hk c2, s8_i (by decide)]
        exact h1
/-- what the reference makes of a pour or an answer -/
def accR (F : FF) (k p : Nat) (nu ar : Int32) : FF := if nu - F 8 p ≤ 0 then F else u2 (u2 (u2 (u2 F 6 k (F 6 k + (nu - F 8 p - ar))) 5 k (F 5 k + ar)) 3 k (F 3 k + ar)) 8 p nu
theorem u2_same {i j : Nat} : u2 F i j (F i j) = F := by
  funext a b
  rw [u2_12]
  split
  · rename_i c; rw [c.1, c.2]
  · rfl
theorem u2_sw {i j k l : Nat} {x y : Int32} (h : i ≠ k ∨ j ≠ l) : u2 (u2 F i j x) k l y = u2 (u2 F k l y) i j x := by
  funext a b
  simp only [u2_12]
  by_cases c : a = k ∧ b = l
  · rw [if_pos c, if_neg (by omega), if_pos c]
  · rw [if_neg c, if_neg c]
theorem u2_tw {i j : Nat} {x y : Int32} : u2 (u2 F i j x) i j y = u2 F i j y := by
  funext a b
  simp only [u2_12]
  split <;> rfl
theorem dif_le {a b : Nat} (ha : a < 2 ^ 30) (hb : b < 2 ^ 30) : nI a - nI b ≤ 0 ↔ a ≤ b := by
  constructor
  · intro h
    rcases Nat.lt_or_ge b a with c | c
    · rw [pk_sub (Nat.le_of_lt c)] at h
      exact absurd h (nI_ge (a := 0) (b := a - b) (by omega) (by omega))
    · exact c
  · intro h
    rcases Nat.lt_or_ge a b with c | c
    · have e : nI a - nI b = -(nI (b - a)) := by
        rw [← pk_sub h]; exact (Int32.neg_sub).symm
      rw [e]
      have h1 : (0 : Int32) < nI (b - a) := nI_lt (a := 0) (by omega) (by omega)
      rw [Int32.le_iff_toInt_le, Int32.toInt_neg, nI_toInt (by omega)]
      show Int.bmod _ _ ≤ 0
      rw [Int.bmod_eq_of_le (by omega) (by omega)]
      omega
    · rw [pk_sub c, show a - b = 0 by omega]; exact Int32.le_refl _
theorem acc_lost (h : InvN B F hn n N) (hB : B < 2 ^ 30) {p nu : Nat} (hp : p < 12) (h10 : nu ≤ N 10 p) : accR F (p % 3) p (nI nu) (nI 0) = lostC F p (nI nu) := by
  have hq := h.p hp
  unfold accR lostC
  rw [h.F8 hp]
  by_cases c : nu ≤ N 8 p
  · rw [if_pos ((dif_le (by omega) (by omega)).mpr c), if_pos (nI_le c (by omega))]
  · rw [if_neg (fun z => c ((dif_le (by omega) (by omega)).mp z)), if_neg (nI_ge (Nat.lt_of_not_le c) (by omega))]
    have z : ∀ x : Int32, x + nI 0 = x := fun x => Int32.add_zero x
    have z2 : ∀ x : Int32, x - nI 0 = x := fun x => Int32.sub_zero x
    rw [z, z, z2]
    congr 1
    rw [show F 5 (p % 3) = (u2 F 6 (p % 3) (F 6 (p % 3) + (nI nu - nI (N 8 p)))) 5 (p % 3) by rw [u2_i (by decide)], u2_same]
    rw [show F 3 (p % 3) = (u2 F 6 (p % 3) (F 6 (p % 3) + (nI nu - nI (N 8 p)))) 3 (p % 3) by rw [u2_i (by decide)], u2_same]
theorem acc_pour (h : InvN B F hn n N) (hB : B < 2 ^ 30) {p nu : Nat} (hp : p < 12) (h10 : nu ≤ N 10 p) : accR F (p % 3) p (nI nu) (nI 1) = pourC F p (nI nu) := by
  have hq := h.p hp
  unfold accR pourC
  rw [h.F8 hp]
  by_cases c : nu ≤ N 8 p
  · rw [if_pos ((dif_le (by omega) (by omega)).mpr c), if_pos (nI_le c (by omega))]
  · rw [if_neg (fun z => c ((dif_le (by omega) (by omega)).mp z)), if_neg (nI_ge (Nat.lt_of_not_le c) (by omega))]
    have e1 : nI nu - nI 1 = nI (nu - 1) := pk_sub (by omega)
    have e2 : nI nu - nI (N 8 p) - nI 1 = nI (nu - 1 - N 8 p) := by rw [pk_sub (by omega), pk_sub (by omega)]; congr 1; omega
    rw [e1, e2]
    unfold lostC
    rw [h.F8 hp]
    by_cases c2 : nu - 1 ≤ N 8 p
    · rw [if_pos (nI_le c2 (by omega))]
      rw [show nu - 1 - N 8 p = 0 by omega, show F 6 (p % 3) + nI 0 = F 6 (p % 3) from Int32.add_zero _, u2_same]
    · rw [if_neg (nI_ge (Nat.lt_of_not_le c2) (by omega)), pk_sub (by omega)]
      have r5 : ∀ (x y : Int32), u2 (u2 F 6 (p % 3) x) 8 p y 5 (p % 3) = F 5 (p % 3) := fun x y => by rw [u2_i (by decide), u2_i (by decide)]
      have r3 : ∀ (x y : Int32), u2 (u2 F 6 (p % 3) x) 8 p y 3 (p % 3) = F 3 (p % 3) := fun x y => by rw [u2_i (by decide), u2_i (by decide)]
      rw [r5, r3]
      rw [u2_sw (F := u2 F 6 (p % 3) (F 6 (p % 3) + nI (nu - 1 - N 8 p))) (i := 8) (k := 5) (Or.inl (by decide)), u2_sw (i := 8) (k := 3) (Or.inl (by decide)), u2_tw]
theorem InvN.pour (h : InvN B F hn n N) (hB : B < 2 ^ 30) {p nu : Nat} (hp : p < 12) (h10 : nu ≤ N 10 p) : ∃ N', N' 7 = N 7 ∧ N' 10 = N 10 ∧ InvN B (pourC F p (nI nu)) hn n N' := by
  have hq := h.p hp
  have e8 := h.F8 hp
  unfold pourC
  rw [e8]
  by_cases c : nu ≤ N 8 p
  · rw [if_pos (nI_le c (by omega))]
    exact ⟨N, rfl, rfl, h⟩
  · rw [if_neg (nI_ge (Nat.lt_of_not_le c) (by omega)), show nI nu - nI 1 = nI (nu - 1) from pk_sub (by omega)]
    obtain ⟨N1, f7, f10, f3, f5, f8, h1⟩ := h.lost hB hp (nu := nu - 1) (by omega)
    have g8 : N1 8 p = if nu - 1 ≤ N 8 p then N 8 p else nu - 1 := by rw [f8, ups_s]
    have g8' : N1 8 p = nu - 1 := by rw [g8]; split <;> omega
    generalize hG : lostC F p (nI (nu - 1)) = G at h1 ⊢
    have k5 := h1.F5 (p := p % 3) (by omega)
    have k3 := h1.F3 (p := p % 3) (by omega)
    obtain ⟨⟨eh, h4⟩, ⟨en, n40⟩, hd, hR, hP, hZ, hL, hM, hK⟩ := h1
    refine ⟨ups (ups (ups N1 5 (p % 3) (N1 5 (p % 3) + 1)) 3 (p % 3) (N1 3 (p % 3) + 1)) 8 p nu, ?_, ?_, ⟨by rw [h0_u (by decide), h0_u (by decide), h0_u (by decide)]; exact eh, h4⟩, ⟨by rw [h0_u (by decide), h0_u (by decide), h0_u (by decide)]; exact en, n40⟩, by rw [hd_u (by decide), hd_u (by decide), hd_u (by decide)]; exact hd, ?_, ?_, ?_, ?_, ?_, ?_⟩
    · rw [ups_n (by decide), ups_n (by decide), ups_n (by decide)]; exact f7
    · rw [ups_n (by decide), ups_n (by decide), ups_n (by decide)]; exact f10
    · exact ((hR.up (by rw [k5, nI_add])).up (by rw [k3, nI_add])).up rfl
    · intro q hq2
      have h2 := hP q hq2
      rw [ups_i]
      rw [ups_n (by decide), ups_n (by decide), ups_n (by decide), ups_n (by decide), ups_n (by decide), ups_n (by decide), ups_n (by decide), ups_n (by decide), ups_n (by decide), ups_n (by decide), ups_n (by decide), ups_n (by decide), ups_n (by decide), ups_n (by decide)]
      by_cases c2 : q = p
      · subst c2
        rw [if_pos rfl]
        rw [f10] at h2 ⊢
        omega
      · rw [if_neg c2]; exact h2
    · intro q a1 a2
      rw [ups_n (by decide), ups_n (by decide), ups_n (by decide), ups_n (by decide), ups_n (by decide), ups_n (by decide)]
      exact hZ q a1 a2
    · intro r hr
      rw [ups_n (by decide), ups_n (by decide), ups_n (by decide), ups_n (by decide), ups_n (by decide), ups_n (by decide)]
      exact hL r hr
    · intro r hr
      have a : ∀ i, i ≠ 5 → i ≠ 3 → i ≠ 8 → ups (ups (ups N1 5 (p % 3) (N1 5 (p % 3) + 1)) 3 (p % 3) (N1 3 (p % 3) + 1)) 8 p nu i = N1 i := fun i x y z => by rw [ups_n z, ups_n y, ups_n x]
      rw [a 13 (by decide) (by decide) (by decide), a 12 (by decide) (by decide) (by decide), a 14 (by decide) (by decide) (by decide), a 7 (by decide) (by decide) (by decide), a 10 (by decide) (by decide) (by decide)]
      exact hM r hr
    · intro k hk
      have h2 := hK k hk
      have a3 : ups (ups (ups N1 5 (p % 3) (N1 5 (p % 3) + 1)) 3 (p % 3) (N1 3 (p % 3) + 1)) 8 p nu 3 k = if k = p % 3 then N1 3 (p % 3) + 1 else N1 3 k := by rw [ups_n (by decide), ups_i, ups_n (by decide)]
      have a5 : ups (ups (ups N1 5 (p % 3) (N1 5 (p % 3) + 1)) 3 (p % 3) (N1 3 (p % 3) + 1)) 8 p nu 5 k = if k = p % 3 then N1 5 (p % 3) + 1 else N1 5 k := by rw [ups_n (by decide), ups_n (by decide), ups_i]
      have a6 : ups (ups (ups N1 5 (p % 3) (N1 5 (p % 3) + 1)) 3 (p % 3) (N1 3 (p % 3) + 1)) 8 p nu 6 k = N1 6 k := by rw [ups_n (by decide), ups_n (by decide), ups_n (by decide)]
      rw [a3, a5, a6]
      by_cases c2 : k = p % 3
      · subst c2
        rw [if_pos rfl, if_pos rfl]
        have h3 := s8_up (N := ups (ups N1 5 (p % 3) (N1 5 (p % 3) + 1)) 3 (p % 3) (N1 3 (p % 3) + 1)) (v := nu) hp
        rw [s8_i (i := 3) (by decide), s8_i (i := 5) (by decide), ups_n (a := 8) (i := 3) (by decide), ups_n (a := 8) (i := 5) (by decide)] at h3
        omega
      · rw [if_neg c2, if_neg c2, s8_ne hk c2, s8_i (by decide), s8_i (by decide)]
        exact h2
/-- a letter taken out -/
theorem InvN.rm (h : InvN B F hn n N) {r : Nat} (hr : r < n) : ∃ N', N' 7 = N 7 ∧ N' 10 = N 10 ∧ InvN B (rmS F n r) hn (n - 1) N' := by
  obtain ⟨⟨eh, h4⟩, ⟨en, n40⟩, hd, hR, hP, hZ, hL, hM, hK⟩ := h
  have low : ∀ i, i ≠ 0 → i < 12 → rmS F n r i = F i := fun i a b => rm_far F n r a b
  refine ⟨fun i k => if 12 ≤ i ∧ (r ≤ k ∧ k + 1 < n) then N i (k + 1) else N i k, ?_, ?_, ⟨(rm_0 F n r (by decide)).trans eh, h4⟩, ⟨rm_04 F n r, by omega⟩, by rw [low 1 (by decide) (by decide)]; exact hd, ?_, ?_, ?_, ?_, ?_, ?_⟩
  · funext k; show (if _ then _ else _) = _; rw [if_neg (by omega)]
  · funext k; show (if _ then _ else _) = _; rw [if_neg (by omega)]
  · intro i k a1 a2 a3 a4
    by_cases c : 12 ≤ i
    · rw [rm_let F n r c (by omega), cpy_at]
      have e40 : lenF i = 40 := by unfold lenF; rw [if_neg (by omega), if_neg (by omega), if_neg (by omega)]
      rw [e40] at a4
      by_cases c2 : r ≤ k ∧ k + 1 < n
      · rw [if_pos c2]; show _ = nI (if _ then _ else _); rw [if_pos ⟨c, c2⟩]; exact hR i (k + 1) a1 a2 a3 (by rw [e40]; omega)
      · rw [if_neg c2]; show _ = nI (if _ then _ else _); rw [if_neg (fun z => c2 z.2)]; exact hR i k a1 a2 a3 (by rw [e40]; omega)
    · rw [low i (by omega) (by omega)]; show _ = nI (if _ then _ else _); rw [if_neg (fun z => c z.1)]; exact hR i k a1 a2 a3 a4
  · intro p hp
    have := hP p hp
    simp only [show ¬ 12 ≤ 7 by decide, show ¬ 12 ≤ 8 by decide, show ¬ 12 ≤ 9 by decide, show ¬ 12 ≤ 10 by decide, show ¬ 12 ≤ 11 by decide, false_and, if_false]
    exact this
  · intro p h1 h2
    have := hZ p h1 h2
    simp only [show ¬ 12 ≤ 7 by decide, show ¬ 12 ≤ 11 by decide, false_and, if_false]
    exact this
  · intro k hk
    simp only [show 12 ≤ 12 by decide, show 12 ≤ 13 by decide, true_and]
    by_cases c : r ≤ k ∧ k + 1 < n
    · rw [if_pos c, if_pos c]; exact hL (k + 1) (by omega)
    · rw [if_neg c, if_neg c]; exact hL k hk
  · intro k hk
    simp only [show 12 ≤ 12 by decide, show 12 ≤ 13 by decide, show 12 ≤ 14 by decide, show ¬ 12 ≤ 7 by decide, show ¬ 12 ≤ 10 by decide, false_and, if_false, true_and]
    by_cases c : r ≤ k ∧ k + 1 < n
    · rw [if_pos c, if_pos c, if_pos c]; exact hM (k + 1) (by omega)
    · rw [if_neg c, if_neg c, if_neg c]; exact hM k (by omega)
  · intro k hk
    have := hK k hk
    simp only [s8, show ¬ 12 ≤ 3 by decide, show ¬ 12 ≤ 5 by decide, show ¬ 12 ≤ 6 by decide, show ¬ 12 ≤ 8 by decide, false_and, if_false]
    exact this
end IV
