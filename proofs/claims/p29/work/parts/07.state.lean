/-! the state in mathematical words; what the cells are -/
abbrev FF : Type := Nat → Nat → Int32
def u2 (F : FF) (i j : Nat) (x : Int32) : FF := fun k => if k = i then upd (F k) j x else F k
def uF (F : FF) (i : Nat) (f : Nat → Int32) : FF := fun k => if k = i then f else F k
theorem nz_nle {x : Int32} (h : ¬ x ≤ 0) : ¬ x = 0 := fun e => h (by rw [e]; decide)
theorem upd_s (f : Nat → Int32) (p : Nat) (x : Int32) : upd f p x p = x := by simp [upd]
theorem upd_n {f : Nat → Int32} {p q : Nat} {x : Int32} (h : q ≠ p) : upd f p x q = f q := by simp [upd, h]
theorem u2_s (F : FF) (i p : Nat) (x : Int32) : u2 F i p x i p = x := by simp [u2, upd]
theorem u2_i {F : FF} {i k p : Nat} {x : Int32} (h : k ≠ i) : u2 F i p x k = F k := by simp [u2, h]
theorem u2_e {F : FF} {i p : Nat} {x : Int32} : u2 F i p x i = upd (F i) p x := by simp [u2]
/-- a cellar of the class, with its post: 17 cells -/
def celW (K : KT) (a : Nat → Nat) (F : FF) : va_W := [(a 0, .inr (0, [.int (F 0 0), .int (F 0 1), .ref (a 1), .ref (a 2), .ref (a 3), .ref (a 4), .ref (a 5), .ref (a 6), .ref (a 7), .ref (a 8), .ref (a 9), .ref (a 10), .ref (a 11), .ref (a 12)])), (a 1, .inl (kI K, 3, .inl (F 1))), (a 2, .inl (kI K, 3, .inl (F 2))), (a 3, .inl (kI K, 3, .inl (F 3))), (a 4, .inl (kI K, 3, .inl (F 4))), (a 5, .inl (kI K, 3, .inl (F 5))), (a 6, .inl (kI K, 3, .inl (F 6))), (a 7, .inl (kI K, 12, .inl (F 7))), (a 8, .inl (kI K, 12, .inl (F 8))), (a 9, .inl (kI K, 12, .inl (F 9))), (a 10, .inl (kI K, 12, .inl (F 10))), (a 11, .inl (kI K, 12, .inl (F 11))), (a 12, .inr (3, [.int (F 0 2), .int (F 0 3), .int (F 0 4), .ref (a 13), .ref (a 14), .ref (a 15), .ref (a 16)])), (a 13, .inl (kI K, 40, .inl (F 12))), (a 14, .inl (kI K, 40, .inl (F 13))), (a 15, .inl (kI K, 40, .inl (F 14))), (a 16, .inl (kI K, 40, .inl (F 15)))]
/-- the reference's one row of 283 -/
def flat (F : FF) : Nat → Int32 := fun k => if k < 5 then F 0 k else if k < 8 then F 1 (k - 5) else if k < 23 then F (2 + (k - 8) % 5) ((k - 8) / 5) else if k < 83 then F (7 + (k - 23) % 5) ((k - 23) / 5) else if k < 283 then (if (k - 83) % 5 = 0 then F 12 ((k - 83) / 5) else if (k - 83) % 5 = 1 then F 13 ((k - 83) / 5) / nI 3 else if (k - 83) % 5 = 2 then F 13 ((k - 83) / 5) - F 13 ((k - 83) / 5) / nI 3 * nI 3 else if (k - 83) % 5 = 3 then F 14 ((k - 83) / 5) else F 15 ((k - 83) / 5)) else 0
/-- the reference: its object and six rows; M 0: saved, length, thrown, spot, order, first, second; M 2 aside, M 3 past, M 4 slots, M 5 has, M 6 text -/
def modW (K : KT) (a : Nat → Nat) (F M : FF) : va_W := [(a 0, .inr (5, [.ref (a 1), .ref (a 2), .ref (a 3), .int (M 0 0), .ref (a 4), .ref (a 5), .ref (a 6), .int (M 0 1), .int (M 0 2), .int (M 0 3), .int (M 0 4), .int (M 0 5), .int (M 0 6)])), (a 1, .inl (kI K, 283, .inl (flat F))), (a 2, .inl (kI K, 283, .inl (M 2))), (a 3, .inl (kI K, 1698, .inl (M 3))), (a 4, .inl (kI K, 566, .inl (M 4))), (a 5, .inl (kI K, 2, .inl (M 5))), (a 6, .inl (kI K, 60, .inl (M 6)))]
/-- the class but for its cellars: T 0: saved, length; T 1 taken, T 2 codes -/
def mainW (K : KT) (b : Nat → Nat) (nw ah : Nat) (sl hs : Nat → Option Nat) (T : FF) : va_W := [(b 0, .inr (4, [.ref nw, .ref ah, .ref (b 1), .ref (b 2), .ref (b 3), .ref (b 5)])), (b 1, .inl (kO K, 2, .inr (.inr (.inr (.inr sl))))), (b 2, .inl (kZ K, 2, .inl (T 1))), (b 3, .inr (2, [.ref (b 4), .int (T 0 0)])), (b 4, .inl (kO K, 6, .inr (.inr (.inr (.inr hs))))), (b 5, .inr (1, [.ref (b 6), .int (T 0 1)])), (b 6, .inl (kI K, 60, .inl (T 2)))]
def rotA {α : Type} (e : Nat → α) : Nat → α := fun i => if i < 5 then e (i + 1) else if i = 5 then e 0 else e i
/-- the class whole: b its own cells, nA now, aA ahead, d the slots, e the saved states -/
def corkW (K : KT) (b nA aA : Nat → Nat) (d e : Nat → Nat → Nat) (F Ga : FF) (D S : Nat → FF) (T : FF) : List va_W := [mainW K b (nA 0) (aA 0) (fun i => some (d i 0)) (fun i => some (e i 0)) T, celW K nA F, celW K aA Ga, celW K (d 0) (D 0), celW K (d 1) (D 1), celW K (e 0) (S 0), celW K (e 1) (S 1), celW K (e 2) (S 2), celW K (e 3) (S 3), celW K (e 4) (S 4), celW K (e 5) (S 5)]
theorem va_up_some (f : Nat → Nat) (j r : Nat) : va_up (fun i => some (f i)) j (some r) = fun i => some (va_up f j r i) := by
  funext i
  by_cases h : i = j
  · simp [va_up, h]
  · simp [va_up, h]
theorem flat_0 (F : FF) {j : Nat} (h : j < 5) : flat F j = F 0 j := by simp [flat, h]
theorem flat_1 (F : FF) {j c : Nat} (hj : j = 5 + c) (h : c < 3) : flat F j = F 1 c := by
  subst hj
  have h1 : ¬ 5 + c < 5 := by omega
  have h2 : 5 + c < 8 := by omega
  simp only [flat, h1, h2, if_false, if_true]
  rw [show 5 + c - 5 = c by omega]
theorem flat_k (F : FF) {j k c : Nat} (hj : j = 8 + 5 * k + c) (hk : k < 3) (h : c < 5) : flat F j = F (2 + c) k := by
  subst hj
  have h1 : ¬ 8 + 5 * k + c < 5 := by omega
  have h2 : ¬ 8 + 5 * k + c < 8 := by omega
  have h3 : 8 + 5 * k + c < 23 := by omega
  simp only [flat, h1, h2, h3, if_false, if_true]
  rw [show (8 + 5 * k + c - 8) % 5 = c by omega, show (8 + 5 * k + c - 8) / 5 = k by omega]
theorem flat_p (F : FF) {j p c : Nat} (hj : j = 23 + 5 * p + c) (hp : p < 12) (h : c < 5) : flat F j = F (7 + c) p := by
  subst hj
  have h1 : ¬ 23 + 5 * p + c < 5 := by omega
  have h2 : ¬ 23 + 5 * p + c < 8 := by omega
  have h3 : ¬ 23 + 5 * p + c < 23 := by omega
  have h4 : 23 + 5 * p + c < 83 := by omega
  simp only [flat, h1, h2, h3, h4, if_false, if_true]
  rw [show (23 + 5 * p + c - 23) % 5 = c by omega, show (23 + 5 * p + c - 23) / 5 = p by omega]
def letF (F : FF) (c r : Nat) : Int32 := if c = 0 then F 12 r else if c = 1 then F 13 r / nI 3 else if c = 2 then F 13 r - F 13 r / nI 3 * nI 3 else if c = 3 then F 14 r else F 15 r
theorem flat_l (F : FF) {j r c : Nat} (hj : j = 83 + 5 * r + c) (hr : r < 40) (h : c < 5) : flat F j = letF F c r := by
  subst hj
  have h1 : ¬ 83 + 5 * r + c < 5 := by omega
  have h2 : ¬ 83 + 5 * r + c < 8 := by omega
  have h3 : ¬ 83 + 5 * r + c < 23 := by omega
  have h4 : ¬ 83 + 5 * r + c < 83 := by omega
  have h5 : 83 + 5 * r + c < 283 := by omega
  simp only [flat, letF, h1, h2, h3, h4, h5, if_false, if_true]
  rw [show (83 + 5 * r + c - 83) % 5 = c by omega, show (83 + 5 * r + c - 83) / 5 = r by omega]
/-- every place of the row is one of these -/
theorem flat_cases {P : Nat → Prop} (h0 : ∀ j, j < 5 → P j) (h1 : ∀ c, c < 3 → P (5 + c)) (hk : ∀ k c, k < 3 → c < 5 → P (8 + 5 * k + c)) (hp : ∀ p c, p < 12 → c < 5 → P (23 + 5 * p + c)) (hl : ∀ r c, r < 40 → c < 5 → P (83 + 5 * r + c)) (hb : ∀ j, 283 ≤ j → P j) : ∀ j, P j := by
  intro j
  by_cases a0 : j < 5
  · exact h0 j a0
  by_cases a1 : j < 8
  · have := h1 (j - 5) (by omega)
    rwa [show 5 + (j - 5) = j by omega] at this
  by_cases a2 : j < 23
  · have := hk ((j - 8) / 5) ((j - 8) % 5) (by omega) (by omega)
    rwa [show 8 + 5 * ((j - 8) / 5) + (j - 8) % 5 = j by omega] at this
  by_cases a3 : j < 83
  · have := hp ((j - 23) / 5) ((j - 23) % 5) (by omega) (by omega)
    rwa [show 23 + 5 * ((j - 23) / 5) + (j - 23) % 5 = j by omega] at this
  by_cases a4 : j < 283
  · have := hl ((j - 83) / 5) ((j - 83) % 5) (by omega) (by omega)
    rwa [show 83 + 5 * ((j - 83) / 5) + (j - 83) % 5 = j by omega] at this
  exact hb j (by omega)
theorem flat_b (F : FF) {j : Nat} (h : 283 ≤ j) : flat F j = 0 := by
  have h1 : ¬ j < 5 := by omega
  have h2 : ¬ j < 8 := by omega
  have h3 : ¬ j < 23 := by omega
  have h4 : ¬ j < 83 := by omega
  have h5 : ¬ j < 283 := by omega
  simp only [flat, h1, h2, h3, h4, h5, if_false]
/-- two rows that read alike are one -/
theorem flat_ext {g : Nat → Int32} {F : FF} (h0 : ∀ j, j < 5 → g j = F 0 j) (h1 : ∀ c, c < 3 → g (5 + c) = F 1 c) (hk : ∀ k c, k < 3 → c < 5 → g (8 + 5 * k + c) = F (2 + c) k) (hp : ∀ p c, p < 12 → c < 5 → g (23 + 5 * p + c) = F (7 + c) p) (hl : ∀ r c, r < 40 → c < 5 → g (83 + 5 * r + c) = letF F c r) (hb : ∀ j, 283 ≤ j → g j = 0) : g = flat F := by
  funext j
  revert j
  refine flat_cases (fun j h => ?_) (fun c h => ?_) (fun k c hk2 h => ?_) (fun p c hp2 h => ?_) (fun r c hr h => ?_) (fun j h => ?_)
  · rw [flat_0 F h]; exact h0 j h
  · rw [flat_1 F rfl h]; exact h1 c h
  · rw [flat_k F rfl hk2 h]; exact hk k c hk2 h
  · rw [flat_p F rfl hp2 h]; exact hp p c hp2 h
  · rw [flat_l F rfl hr h]; exact hl r c hr h
  · rw [flat_b F h]; exact hb j h
theorem u2_12 {F : FF} {i j k l : Nat} {x : Int32} : u2 F i j x k l = if k = i ∧ l = j then x else F k l := by
  by_cases h : k = i
  · subst h
    by_cases h2 : l = j
    · subst h2; simp [u2, upd]
    · simp [u2, upd, h2]
  · simp [u2, h]
theorem letF_u2 {F : FF} {i j c r : Nat} {x : Int32} (h : i < 12) : letF (u2 F i j x) c r = letF F c r := by
  have e : ∀ k, 12 ≤ k → u2 F i j x k = F k := fun k hk => u2_i (by omega)
  simp only [letF, e 12 (by omega), e 13 (by omega), e 14 (by omega), e 15 (by omega)]
theorem flat_u0 (F : FF) {j : Nat} (h : j < 5) (x : Int32) : upd (flat F) j x = flat (u2 F 0 j x) := by
  refine flat_ext (fun i hi => ?_) (fun c hc => ?_) (fun k c hk hc => ?_) (fun p c hp hc => ?_) (fun r c hr hc => ?_) (fun i hi => ?_)
  · rw [u2_12]
    by_cases e : i = j
    · subst e; simp [upd]
    · simp [upd, e, flat_0 F hi]
  · rw [upd_n (by omega), flat_1 F rfl hc, u2_i (by omega)]
  · rw [upd_n (by omega), flat_k F rfl hk hc, u2_i (by omega)]
  · rw [upd_n (by omega), flat_p F rfl hp hc, u2_i (by omega)]
  · rw [upd_n (by omega), flat_l F rfl hr hc, letF_u2 (by omega)]
  · rw [upd_n (by omega), flat_b F hi]
theorem flat_u1 (F : FF) {j d : Nat} (hj : j = 5 + d) (h : d < 3) (x : Int32) : upd (flat F) j x = flat (u2 F 1 d x) := by
  subst hj
  refine flat_ext (fun i hi => ?_) (fun c hc => ?_) (fun k c hk hc => ?_) (fun p c hp hc => ?_) (fun r c hr hc => ?_) (fun i hi => ?_)
  · rw [upd_n (by omega), flat_0 F hi, u2_i (by omega)]
  · rw [u2_12]
    by_cases e : c = d
    · subst e; simp [upd]
    · rw [upd_n (by omega), flat_1 F rfl hc]; simp [e]
  · rw [upd_n (by omega), flat_k F rfl hk hc, u2_i (by omega)]
  · rw [upd_n (by omega), flat_p F rfl hp hc, u2_i (by omega)]
  · rw [upd_n (by omega), flat_l F rfl hr hc, letF_u2 (by omega)]
  · rw [upd_n (by omega), flat_b F hi]
theorem flat_uk (F : FF) {j q d : Nat} (hj : j = 8 + 5 * q + d) (hq : q < 3) (h : d < 5) (x : Int32) : upd (flat F) j x = flat (u2 F (2 + d) q x) := by
  subst hj
  refine flat_ext (fun i hi => ?_) (fun c hc => ?_) (fun k c hk hc => ?_) (fun p c hp hc => ?_) (fun r c hr hc => ?_) (fun i hi => ?_)
  · rw [upd_n (by omega), flat_0 F hi, u2_i (by omega)]
  · rw [upd_n (by omega), flat_1 F rfl hc, u2_i (by omega)]
  · rw [u2_12]
    by_cases e : c = d ∧ k = q
    · obtain ⟨e1, e2⟩ := e
      subst e1; subst e2; simp [upd]
    · rw [upd_n (by omega), flat_k F rfl hk hc, if_neg (by omega)]
  · rw [upd_n (by omega), flat_p F rfl hp hc, u2_i (by omega)]
  · rw [upd_n (by omega), flat_l F rfl hr hc, letF_u2 (by omega)]
  · rw [upd_n (by omega), flat_b F hi]
theorem flat_up (F : FF) {j q d : Nat} (hj : j = 23 + 5 * q + d) (hq : q < 12) (h : d < 5) (x : Int32) : upd (flat F) j x = flat (u2 F (7 + d) q x) := by
  subst hj
  refine flat_ext (fun i hi => ?_) (fun c hc => ?_) (fun k c hk hc => ?_) (fun p c hp hc => ?_) (fun r c hr hc => ?_) (fun i hi => ?_)
  · rw [upd_n (by omega), flat_0 F hi, u2_i (by omega)]
  · rw [upd_n (by omega), flat_1 F rfl hc, u2_i (by omega)]
  · rw [upd_n (by omega), flat_k F rfl hk hc, u2_i (by omega)]
  · rw [u2_12]
    by_cases e : c = d ∧ p = q
    · obtain ⟨e1, e2⟩ := e
      subst e1; subst e2; simp [upd]
    · rw [upd_n (by omega), flat_p F rfl hp hc, if_neg (by omega)]
  · rw [upd_n (by omega), flat_l F rfl hr hc, letF_u2 (by omega)]
  · rw [upd_n (by omega), flat_b F hi]
/-- a letter's five numbers, one behind the other -/
theorem flat_ul (F : FF) {q h k : Nat} (hq : q < 40) (hh : h < 4) (hk3 : k < 3) (so nu wh : Int32) : upd (upd (upd (upd (upd (flat F) (83 + 5 * q + 0) so) (83 + 5 * q + 1) (nI h)) (83 + 5 * q + 2) (nI k)) (83 + 5 * q + 3) nu) (83 + 5 * q + 4) wh = flat (u2 (u2 (u2 (u2 F 12 q so) 13 q (nI (3 * h + k))) 14 q nu) 15 q wh) := by
  have out : ∀ j, (j < 83 + 5 * q ∨ 83 + 5 * q + 5 ≤ j) → upd (upd (upd (upd (upd (flat F) (83 + 5 * q + 0) so) (83 + 5 * q + 1) (nI h)) (83 + 5 * q + 2) (nI k)) (83 + 5 * q + 3) nu) (83 + 5 * q + 4) wh j = flat F j := fun j hj => by
    rw [upd_n (by omega), upd_n (by omega), upd_n (by omega), upd_n (by omega), upd_n (by omega)]
  have e : ∀ i, i < 12 → (u2 (u2 (u2 (u2 F 12 q so) 13 q (nI (3 * h + k))) 14 q nu) 15 q wh) i = F i := fun i hi => by
    rw [u2_i (by omega), u2_i (by omega), u2_i (by omega), u2_i (by omega)]
  refine flat_ext (fun i hi => ?_) (fun c hc => ?_) (fun k c hk hc => ?_) (fun p c hp hc => ?_) (fun r c hr hc => ?_) (fun i hi => ?_)
  · rw [out _ (by omega), flat_0 F hi, e 0 (by omega)]
  · rw [out _ (by omega), flat_1 F rfl hc, e 1 (by omega)]
  · rw [out _ (by omega), flat_k F rfl hk hc, e _ (by omega)]
  · rw [out _ (by omega), flat_p F rfl hp hc, e _ (by omega)]
  · by_cases er : r = q
    · subst er
      have d1 : nI (3 * h + k) / nI 3 = nI h := by rw [pk_div (by omega) (by omega) (by omega)]; congr 1; omega
      have d2 : nI (3 * h + k) - nI (3 * h + k) / nI 3 * nI 3 = nI k := by rw [pk_rem (by omega) (by omega) (by omega)]; congr 1; omega
      rcases (show c = 0 ∨ c = 1 ∨ c = 2 ∨ c = 3 ∨ c = 4 by omega) with rfl | rfl | rfl | rfl | rfl
      · rw [upd_n (by omega), upd_n (by omega), upd_n (by omega), upd_n (by omega), upd_s]; simp [letF, u2_12]
      · rw [upd_n (by omega), upd_n (by omega), upd_n (by omega), upd_s]; simp [letF, u2_12, d1]
      · rw [upd_n (by omega), upd_n (by omega), upd_s]; simp [letF, u2_12, d2]
      · rw [upd_n (by omega), upd_s]; simp [letF, u2_12]
      · rw [upd_s]; simp [letF, u2_12]
    · rw [out _ (by omega), flat_l F rfl hr hc]
      simp [letF, u2_12, er]
  · rw [out _ (by omega), flat_b F hi]
