/-! the shape that keeps the machine within its rows; ticks, as the class does them -/
def nN (x : Int32) : Nat := x.toNatClampNeg
theorem nN_nI {n : Nat} (h : n < 2 ^ 31) : nN (nI n) = n := nI_clamp h
def Sh (F : FF) : Prop := (∃ h, h ≤ 4 ∧ F 0 1 = nI h) ∧ (∃ n, n ≤ 40 ∧ F 0 4 = nI n) ∧ ∀ r, r < 40 → (∃ so, so < 4 ∧ F 12 r = nI so) ∧ (∃ p, p < 12 ∧ F 13 r = nI p)
theorem sh_congr {F G : FF} (h : Sh F) (e1 : G 0 1 = F 0 1) (e4 : G 0 4 = F 0 4) (e12 : G 12 = F 12) (e13 : G 13 = F 13) : Sh G := by
  obtain ⟨a, b, c⟩ := h
  exact ⟨by rw [e1]; exact a, by rw [e4]; exact b, by rw [e12, e13]; exact c⟩
theorem sh_u2 {F : FF} (h : Sh F) {i j : Nat} {x : Int32} (h0 : i = 0 → j ≠ 1 ∧ j ≠ 4) (h12 : i ≠ 12) (h13 : i ≠ 13) : Sh (u2 F i j x) := by
  refine sh_congr h ?_ ?_ (u2_i (Ne.symm h12)) (u2_i (Ne.symm h13))
  · rw [u2_12, if_neg (fun q => (h0 q.1.symm).1 q.2.symm)]
  · rw [u2_12, if_neg (fun q => (h0 q.1.symm).2 q.2.symm)]
theorem sh_send {F : FF} (h : Sh F) {n so p : Nat} (hn : F 0 4 = nI n) (h40 : n < 40) (hso : so < 4) (hp : p < 12) {nu ar lo : Int32} : Sh (sendG F n (nI so) (nI p) nu ar lo) := by
  obtain ⟨a, b, c⟩ := h
  unfold sendG
  split
  · exact (sh_u2 (sh_u2 ⟨a, b, c⟩ (by omega) (by omega) (by omega)) (by omega) (by omega) (by omega))
  · refine ⟨?_, ⟨n + 1, by omega, by simp [u2_12]⟩, fun r hr => ⟨?_, ?_⟩⟩
    · simpa [u2_12] using a
    · by_cases e : r = n
      · exact ⟨so, hso, by simp [u2_12, e]⟩
      · simpa [u2_12, e] using (c r hr).1
    · by_cases e : r = n
      · exact ⟨p, hp, by simp [u2_12, e]⟩
      · simpa [u2_12, e] using (c r hr).2
theorem send_let {F : FF} {n : Nat} (hn : F 0 4 = nI n) {so pl nu ar lo : Int32} : sendG F n so pl nu ar lo 0 4 = nI n ∨ sendG F n so pl nu ar lo 0 4 = nI (n + 1) := by
  unfold sendG
  split
  · exact Or.inl (by simp [u2_12, hn])
  · exact Or.inr (by simp [u2_12])
theorem send_far {F : FF} {n : Nat} {so pl nu ar lo : Int32} {i : Nat} (h0 : i ≠ 0) (h1 : i < 12) : sendG F n so pl nu ar lo i = F i := by
  unfold sendG
  split
  · rw [u2_i h0, u2_i h0]
  · rw [u2_i h0, u2_i (by omega), u2_i (by omega), u2_i (by omega), u2_i (by omega), u2_i h0]
theorem send_01 {F : FF} {n : Nat} {so pl nu ar lo : Int32} : sendG F n so pl nu ar lo 0 1 = F 0 1 := by
  unfold sendG
  split <;> simp [u2_12]
theorem send_00 {F : FF} {n : Nat} {so pl nu ar lo : Int32} : sendG F n so pl nu ar lo 0 0 = F 0 0 := by
  unfold sendG
  split <;> simp [u2_12]
theorem uF_12 {F : FF} {i k : Nat} {f : Nat → Int32} : uF F i f k = if k = i then f else F k := rfl
theorem rm_04 (F : FF) (n r : Nat) : rmS F n r 0 4 = nI (n - 1) := rfl
theorem rm_0 (F : FF) (n r : Nat) {j : Nat} (hj : j ≠ 4) : rmS F n r 0 j = F 0 j := by
  show upd (F 0) 4 _ j = _
  rw [upd_n hj]
theorem rm_far (F : FF) (n r : Nat) {i : Nat} (h0 : i ≠ 0) (h1 : i < 12) : rmS F n r i = F i := by
  unfold rmS
  rw [u2_i h0]
  simp only [uF_12]
  rw [if_neg (by omega), if_neg (by omega), if_neg (by omega), if_neg (by omega)]
theorem rm_let (F : FF) (n r : Nat) {i : Nat} (h : 12 ≤ i) (h2 : i < 16) : rmS F n r i = va_cpy (F i) (F i) (r + 1) r (n - r - 1) := by
  unfold rmS
  rw [u2_i (by omega)]
  rcases (show i = 12 ∨ i = 13 ∨ i = 14 ∨ i = 15 by omega) with rfl | rfl | rfl | rfl <;> rfl
theorem cpy_at {f : Nat → Int32} {r n j : Nat} : va_cpy f f (r + 1) r (n - r - 1) j = if r ≤ j ∧ j + 1 < n then f (j + 1) else f j := by
  unfold va_cpy
  by_cases h : r ≤ j ∧ j + 1 < n
  · rw [if_pos h, if_pos (by omega), show r + 1 + (j - r) = j + 1 by omega]
  · rw [if_neg h, if_neg (by omega)]
theorem sh_rm {F : FF} (h : Sh F) {n r : Nat} (h40 : n ≤ 40) : Sh (rmS F n r) := by
  obtain ⟨a, b, c⟩ := h
  refine ⟨by rw [rm_0 F n r (by decide)]; exact a, ⟨n - 1, by omega, rfl⟩, fun j hj => ?_⟩
  rw [rm_let F n r (by decide) (by decide), rm_let F n r (by decide) (by decide), cpy_at, cpy_at]
  by_cases q : r ≤ j ∧ j + 1 < n
  · rw [if_pos q, if_pos q]
    exact c (j + 1) (by omega)
  · rw [if_neg q, if_neg q]
    exact c j hj
theorem sh_tell {F : FF} (h : Sh F) {p : Nat} {nu : Int32} : Sh (tellS F p nu) := (sh_u2 h) (by omega) (by omega) (by omega)
theorem sh_lost {F : FF} (h : Sh F) {p : Nat} {nu : Int32} : Sh (lostC F p nu) := by
  unfold lostC
  split
  · exact h
  · exact (sh_u2 ((sh_u2 h) (by omega) (by omega) (by omega))) (by omega) (by omega) (by omega)
theorem sh_pour {F : FF} (h : Sh F) {p : Nat} {nu : Int32} : Sh (pourC F p nu) := by
  unfold pourC
  split
  · exact h
  · exact (sh_u2 ((sh_u2 ((sh_u2 (sh_lost h)) (by omega) (by omega) (by omega))) (by omega) (by omega) (by omega))) (by omega) (by omega) (by omega)
theorem lost_0 (F : FF) (p : Nat) (nu : Int32) : lostC F p nu 0 = F 0 := by
  unfold lostC
  split
  · rfl
  · rw [u2_i (by decide), u2_i (by decide)]
theorem pour_0 (F : FF) (p : Nat) (nu : Int32) : pourC F p nu 0 = F 0 := by
  unfold pourC
  split
  · rfl
  · rw [u2_i (by decide), u2_i (by decide), u2_i (by decide), lost_0]
theorem tell_0 (F : FF) (p : Nat) (nu : Int32) : tellS F p nu 0 = F 0 := u2_i (by decide)
theorem sh_read {F : FF} (h : Sh F) {n so p : Nat} (hn : F 0 4 = nI n) (h40 : n < 40) (hp : p < 12) {nu : Int32} : Sh (readC F n so p nu) := by
  unfold readC
  split
  · exact (sh_tell h)
  · split
    · exact (sh_pour h)
    · split
      · exact sh_send (sh_tell h) (so := 3) (by rw [tell_0]; exact hn) h40 (by decide) hp
      · exact (sh_lost h)
theorem read_let {F : FF} {n so p : Nat} (hn : F 0 4 = nI n) {nu : Int32} : readC F n so p nu 0 4 = nI n ∨ readC F n so p nu 0 4 = nI (n + 1) := by
  unfold readC
  split
  · exact Or.inl (by rw [tell_0]; exact hn)
  · split
    · exact Or.inl (by rw [pour_0]; exact hn)
    · split
      · exact send_let (by rw [tell_0]; exact hn)
      · exact Or.inl (by rw [lost_0]; exact hn)
theorem read_01 {F : FF} {n so p : Nat} {nu : Int32} : readC F n so p nu 0 1 = F 0 1 := by
  unfold readC
  split
  · rw [tell_0]
  · split
    · rw [pour_0]
    · split
      · show sendG _ _ _ _ _ _ _ 0 1 = _
        rw [send_01, tell_0]
      · rw [lost_0]
/-- the letters that arrive: one look -/
def stepT (x : FF × Nat) : FF × Nat := if x.1 15 x.2 = x.1 0 0 then (readC (rmS x.1 (nN (x.1 0 4)) x.2) (nN (x.1 0 4) - 1) (nN (x.1 12 x.2)) (nN (x.1 13 x.2)) (x.1 14 x.2), x.2) else (x.1, x.2 + 1)
def iterT : Nat → FF × Nat → FF × Nat
  | 0, x => x
  | k + 1, x => iterT k (stepT x)
def takeC (F : FF) : FF := (iterT (nN (F 0 4)) (F, 0)).1
theorem stepT_neg {F : FF} {r : Nat} (c : ¬ F 15 r = F 0 0) : stepT (F, r) = (F, r + 1) := if_neg c
theorem stepT_pos {F : FF} {r n so p : Nat} (c : F 15 r = F 0 0) (hn : F 0 4 = nI n) (h40 : n ≤ 40) (eso : F 12 r = nI so) (hso : so < 4) (ep : F 13 r = nI p) (hp : p < 12) : stepT (F, r) = (readC (rmS F n r) (n - 1) so p (F 14 r), r) := by
  unfold stepT
  simp only [c, if_true, hn, eso, ep]
  rw [nN_nI (by omega), nN_nI (by omega), nN_nI (by omega)]
/-- a house pours, if it can -/
def pourStep (F : FF) (p : Nat) : FF := if whyC F p = 0 then sendS (u2 (u2 F 11 p (F 11 p - nI 1)) 10 p (F 10 p + nI 1)) (nN (F 0 4)) (nI 1) (nI p) (F 10 p + nI 1) else F
def iterP : Nat → Nat → FF → FF
  | 0, _, F => F
  | k + 1, p, F => iterP k (p + 1) (pourStep F p)
def poursC (F : FF) : FF := iterP 12 0 F
/-- a cork is lent by itself -/
def lendStep (F : FF) (p : Nat) : FF := if ¬ F 1 2 ≤ outS F p ∧ canLendS F (p % 3) then lendS F (nN (F 0 4)) p else F
def iterL : Nat → Nat → FF → FF
  | 0, _, F => F
  | k + 1, p, F => iterL k (p + 1) (lendStep F p)
def lendsC (F : FF) : FF := iterL (nN (F 0 1) * 3) 0 F
def tickC (F : FF) : FF := lendsC (poursC (takeC (u2 F 0 0 (F 0 0 + nI 1))))
def ticksC : Nat → FF → FF
  | 0, F => F
  | t + 1, F => ticksC t (tickC F)
theorem room_lt {F : FF} {n : Nat} (hn : F 0 4 = nI n) (h : roomS F) (h40 : n ≤ 40) : n < 40 := by
  rcases Nat.lt_or_ge n 40 with q | q
  · exact q
  · exact absurd (by rw [hn]; exact nI_le q (by omega)) h
theorem why_room {F : FF} {p : Nat} (h : whyC F p = 0) : roomS F := by
  unfold whyC at h
  split at h
  · split at h
    · split at h
      · assumption
      · exact absurd h (by decide)
    · split at h <;> exact absurd h (by decide)
  · exact absurd h (by decide)
theorem sh_pourStep {F : FF} (h : Sh F) {p : Nat} (hp : p < 12) : Sh (pourStep F p) := by
  unfold pourStep
  split
  · rename_i hw
    obtain ⟨n, h40, hn⟩ := h.2.1
    have hr := room_lt hn (why_room hw) h40
    rw [hn, nN_nI (by omega)]
    exact sh_send (F := u2 (u2 F 11 p (F 11 p - nI 1)) 10 p (F 10 p + nI 1)) (sh_u2 (sh_u2 h (by omega) (by omega) (by omega)) (by omega) (by omega) (by omega)) (so := 1) hn hr (by decide) hp
  · exact h
theorem sh_lendS {F : FF} (h : Sh F) {n p : Nat} (hn : F 0 4 = nI n) (h40 : n < 40) (hp : p < 12) : Sh (lendS F n p) := sh_send (sh_u2 h (i := 7) (by omega) (by omega) (by omega)) (so := 0) hn h40 (by decide) hp
theorem sh_askS {F : FF} (h : Sh F) {n p : Nat} (hn : F 0 4 = nI n) (h40 : n < 40) (hp : p < 12) : Sh (askS F n p) := sh_send h (so := 2) hn h40 (by decide) hp
theorem sh_lendStep {F : FF} (h : Sh F) {p : Nat} (hp : p < 12) : Sh (lendStep F p) := by
  unfold lendStep
  split
  · rename_i hw
    obtain ⟨n, h40, hn⟩ := h.2.1
    have hr := room_lt hn hw.2.2 h40
    rw [hn, nN_nI (by omega)]
    exact (sh_lendS h) hn hr hp
  · exact h
theorem lendStep_01 (F : FF) (p : Nat) : lendStep F p 0 1 = F 0 1 := by
  unfold lendStep
  split
  · unfold lendS
    show sendG _ _ _ _ _ _ _ 0 1 = _
    rw [send_01]; rfl
  · rfl
theorem sh_iterP : ∀ (k p : Nat) (F : FF), Sh F → p + k ≤ 12 → Sh (iterP k p F)
  | 0, _, _, h, _ => h
  | k + 1, p, F, h, hk => sh_iterP k (p + 1) _ ((sh_pourStep h) (by omega)) (by omega)
theorem sh_iterL : ∀ (k p : Nat) (F : FF), Sh F → p + k ≤ 12 → Sh (iterL k p F)
  | 0, _, _, h, _ => h
  | k + 1, p, F, h, hk => sh_iterL k (p + 1) _ ((sh_lendStep h) (by omega)) (by omega)
theorem sh_stepT {F : FF} (h : Sh F) {r : Nat} (hr : r < nN (F 0 4)) : Sh (stepT (F, r)).1 ∧ nN (F 0 4) - r ≤ nN ((stepT (F, r)).1 0 4) - (stepT (F, r)).2 + 1 ∧ (stepT (F, r)).2 ≤ r + 1 := by
  obtain ⟨n, h40, hn⟩ := h.2.1
  have e : nN (F 0 4) = n := by rw [hn]; exact nN_nI (by omega)
  rw [e] at hr ⊢
  by_cases c : F 15 r = F 0 0
  · obtain ⟨⟨so, hso, eso⟩, p, hp, ep⟩ := h.2.2 r (by omega)
    rw [stepT_pos c hn h40 eso hso ep hp]
    refine ⟨sh_read (sh_rm h h40) (rm_04 F n r) (by omega) hp, ?_, Nat.le_succ r⟩
    rcases read_let (F := rmS F n r) (n := n - 1) (so := so) (p := p) (nu := F 14 r) (rm_04 F n r) with q | q
    · show n - r ≤ nN (readC _ _ _ _ _ 0 4) - r + 1
      rw [q, nN_nI (by omega)]; omega
    · show n - r ≤ nN (readC _ _ _ _ _ 0 4) - r + 1
      rw [q, nN_nI (by omega)]; omega
  · rw [stepT_neg c]
    refine ⟨h, ?_, Nat.le_refl _⟩
    show n - r ≤ nN (F 0 4) - (r + 1) + 1
    rw [e]; omega
theorem sh_iterT : ∀ (k r : Nat) (F : FF), Sh F → k ≤ nN (F 0 4) - r → Sh (iterT k (F, r)).1
  | 0, _, _, h, _ => h
  | k + 1, r, F, h, hk => by
    have q := sh_stepT h (r := r) (by omega)
    have e : iterT (k + 1) (F, r) = iterT k ((stepT (F, r)).1, (stepT (F, r)).2) := rfl
    rw [e]
    exact sh_iterT k _ _ q.1 (by omega)
theorem sh_takeC {F : FF} (h : Sh F) : Sh (takeC F) := sh_iterT _ 0 F h (by omega)
theorem sh_tickC {F : FF} (h : Sh F) : Sh (tickC F) := by
  have h1 : Sh (poursC (takeC (u2 F 0 0 (F 0 0 + nI 1)))) := sh_iterP 12 0 _ (sh_takeC ((sh_u2 h) (by omega) (by omega) (by omega))) (by decide)
  obtain ⟨hh, h4, e⟩ := h1.1
  refine sh_iterL _ 0 _ h1 ?_
  rw [e, nN_nI (by omega)]
  omega
theorem sh_ticksC : ∀ (t : Nat) {F : FF}, Sh F → Sh (ticksC t F)
  | 0, _, h => h
  | t + 1, _, h => sh_ticksC t (sh_tickC h)
