/-! the class's state and the reference's, side by side -/
def IE (B : Nat) (F : FF) : Prop := ∃ hn n N, InvN B F hn n N
theorem IE.mono {B C : Nat} {F : FF} (h : IE B F) (hC : B ≤ C) : IE C F := by
  obtain ⟨hn, n, N, h⟩ := h
  exact ⟨hn, n, N, h.mono hC⟩
def RS (T M : FF) (k nt : Nat) : Prop := (k ≤ 6 ∧ T 0 0 = nI k ∧ M 0 0 = nI k) ∧ (nt ≤ 60 ∧ T 0 1 = nI nt ∧ M 0 1 = nI nt) ∧ T 1 = M 1 ∧ T 2 = M 2 ∧ ∀ i, i < 2 → M 1 i = nI 0 ∨ M 1 i = nI 1
def Ke (M M' : FF) : Prop := M' 0 0 = M 0 0 ∧ M' 0 1 = M 0 1 ∧ M' 1 = M 1 ∧ M' 2 = M 2
section RL
variable {B k nt : Nat} {F T M M' : FF} {D S : Nat → FF} {P L : Nat → Int32}
theorem Ke.rf (M : FF) : Ke M M := ⟨rfl, rfl, rfl, rfl⟩
theorem Ke.tr {M M' M2 : FF} (h : Ke M M') (h2 : Ke M' M2) : Ke M M2 := ⟨h2.1.trans h.1, h2.2.1.trans h.2.1, h2.2.2.1.trans h.2.2.1, h2.2.2.2.trans h.2.2.2⟩
theorem Ke.th (M : FF) (x : Int32) : Ke M (u2 M 0 2 x) := ⟨by rw [u2_12, if_neg (by decide)], by rw [u2_12, if_neg (by decide)], u2_i (by decide), u2_i (by decide)⟩
theorem Ke.th2 (M : FF) (x y : Int32) : Ke M (u2 (u2 M 0 2 x) 0 2 y) := (Ke.th M x).tr (Ke.th _ y)
theorem Ke.kp (h : Kp M M') : Ke M M' := ⟨h.2 0 (by decide), h.2 1 (by decide), h.1 1 (by decide), h.1 2 (by decide)⟩
theorem RS.ke (h : RS T M k nt) (q : Ke M M') : RS T M' k nt := ⟨⟨h.1.1, h.1.2.1, q.1.trans h.1.2.2⟩, ⟨h.2.1.1, h.2.1.2.1, q.2.1.trans h.2.1.2.2⟩, h.2.2.1.trans q.2.2.1.symm, h.2.2.2.1.trans q.2.2.2.symm, fun i hi => by rw [q.2.2.1]; exact h.2.2.2.2 i hi⟩
theorem pushT_00 (h6 : k ≤ 6) (M : FF) : pushT k M 0 0 = nI (pushN k) := by
  unfold pushT pushN
  split
  · exact u2_s M 0 0 _
  · exact u2_s _ 0 0 _
theorem pushN_le (k : Nat) : pushN k ≤ 6 := by unfold pushN; split <;> omega
theorem RS.push (h : RS T M k nt) : RS (pushT k T) (pushT k M) (pushN k) nt :=
  ⟨⟨pushN_le k, pushT_00 h.1.1 T, pushT_00 h.1.1 M⟩, ⟨h.2.1.1, (pushT_0 k T (by decide)).trans h.2.1.2.1, (pushT_0 k M (by decide)).trans h.2.1.2.2⟩, by rw [pushT_2 k T (by decide), pushT_2 k M (by decide)]; exact h.2.2.1, by rw [pushT_2 k T (by decide), pushT_2 k M (by decide)]; exact h.2.2.2.1, fun i hi => by rw [pushT_2 k M (by decide)]; exact h.2.2.2.2 i hi⟩
theorem RS.len (h : RS T M k nt) {m : Nat} (hm : m ≤ 60) : RS (u2 T 0 1 (nI m)) (u2 M 0 1 (nI m)) k m :=
  ⟨⟨h.1.1, by rw [u2_12, if_neg (by decide)]; exact h.1.2.1, by rw [u2_12, if_neg (by decide)]; exact h.1.2.2⟩, ⟨hm, u2_s _ _ _ _, u2_s _ _ _ _⟩, by rw [u2_i (by decide), u2_i (by decide)]; exact h.2.2.1, by rw [u2_i (by decide), u2_i (by decide)]; exact h.2.2.2.1, fun i hi => by rw [u2_i (by decide)]; exact h.2.2.2.2 i hi⟩
theorem RS.app (h : RS T M k nt) (m : Nat) (x : Int32) : RS (u2 T 2 m x) (u2 M 2 m x) k nt :=
  ⟨⟨h.1.1, by rw [u2_i (by decide)]; exact h.1.2.1, by rw [u2_i (by decide)]; exact h.1.2.2⟩, ⟨h.2.1.1, by rw [u2_i (by decide)]; exact h.2.1.2.1, by rw [u2_i (by decide)]; exact h.2.1.2.2⟩, by rw [u2_i (by decide), u2_i (by decide)]; exact h.2.2.1, by rw [u2_e, u2_e, h.2.2.2.1], fun i hi => by rw [u2_i (by decide)]; exact h.2.2.2.2 i hi⟩
theorem RS.sav (h : RS T M k nt) {m : Nat} (hm : m ≤ 6) : RS (u2 T 0 0 (nI m)) (u2 M 0 0 (nI m)) m nt :=
  ⟨⟨hm, u2_s _ _ _ _, u2_s _ _ _ _⟩, ⟨h.2.1.1, by rw [u2_12, if_neg (by decide)]; exact h.2.1.2.1, by rw [u2_12, if_neg (by decide)]; exact h.2.1.2.2⟩, by rw [u2_i (by decide), u2_i (by decide)]; exact h.2.2.1, by rw [u2_i (by decide), u2_i (by decide)]; exact h.2.2.2.1, fun i hi => by rw [u2_i (by decide)]; exact h.2.2.2.2 i hi⟩
theorem RS.tak (h : RS T M k nt) (c : Nat) : RS (u2 T 1 c (nI 1)) (u2 M 1 c (nI 1)) k nt :=
  ⟨⟨h.1.1, by rw [u2_i (by decide)]; exact h.1.2.1, by rw [u2_i (by decide)]; exact h.1.2.2⟩, ⟨h.2.1.1, by rw [u2_i (by decide)]; exact h.2.1.2.1, by rw [u2_i (by decide)]; exact h.2.1.2.2⟩, by rw [u2_e, u2_e, h.2.2.1], by rw [u2_i (by decide), u2_i (by decide)]; exact h.2.2.2.1, fun i hi => by
    rw [u2_12]
    by_cases e : i = c
    · rw [if_pos ⟨rfl, e⟩]; exact Or.inr rfl
    · rw [if_neg (fun z => e z.2)]; exact h.2.2.2.2 i hi⟩
def RP (B k : Nat) (S : Nat → FF) (P : Nat → Int32) : Prop := ∀ i, i < k → (∀ j, j < 283 → P (283 * i + j) = flat (S i) j) ∧ IE B (S i)
def RD (B : Nat) (M : FF) (D : Nat → FF) (L : Nat → Int32) : Prop := ∀ i, i < 2 → ¬ M 1 i = 0 → (∀ j, j < 283 → L (283 * i + j) = flat (D i) j) ∧ IE B (D i)
theorem RP.mono (h : RP B k S P) {C : Nat} (hC : B ≤ C) : RP C k S P := fun i hi => ⟨(h i hi).1, (h i hi).2.mono hC⟩
theorem RD.mono (h : RD B M D L) {C : Nat} (hC : B ≤ C) : RD C M D L := fun i hi hm => ⟨(h i hi hm).1, (h i hi hm).2.mono hC⟩
theorem RD.ke (h : RD B M D L) (q : Ke M M') : RD B M' D L := fun i hi hm => h i hi (by rw [← q.2.2.1]; exact hm)
theorem RD.one (h : RD B M D L) (q : M' 1 = M 1) : RD B M' D L := fun i hi hm => h i hi (by rw [← q]; exact hm)
theorem up_s {α : Type} (f : Nat → α) (k : Nat) (v : α) : va_up f k v k = v := by simp [va_up]
theorem up_n {α : Type} {f : Nat → α} {k j : Nat} {v : α} (h : j ≠ k) : va_up f k v j = f j := by simp [va_up, h]
theorem cp_in {f g : Nat → Int32} {o j : Nat} (hj : j < 283) : cpR f g 0 o (o + j) = f j := by
  show cpJ f g 0 o 283 (o + j) = f j
  unfold cpJ
  rw [if_pos (by omega)]
  congr 1
  omega
theorem cp_out {f g : Nat → Int32} {o i : Nat} (h : i < o ∨ o + 283 ≤ i) : cpR f g 0 o i = g i := by
  show cpJ f g 0 o 283 i = g i
  unfold cpJ
  rw [if_neg (by omega)]
theorem RP.push (h : RP B k S P) (hF : IE B F) (h6 : k ≤ 6) : RP B (pushN k) (pushS k S F) (pSv k P (flat F)) := by
  intro i hi
  unfold pushN at hi
  unfold pushS pSv
  by_cases c : k < 6
  · rw [if_pos c] at hi
    rw [if_pos c, if_pos c]
    by_cases e : i = k
    · subst e
      rw [up_s]
      exact ⟨fun j hj => cp_in hj, hF⟩
    · rw [up_n e]
      exact ⟨fun j hj => by rw [cp_out (by omega)]; exact (h i (by omega)).1 j hj, (h i (by omega)).2⟩
  · rw [if_neg c] at hi
    rw [if_neg c, if_neg c]
    by_cases e : i = 5
    · subst e
      rw [up_s]
      exact ⟨fun j hj => cp_in hj, hF⟩
    · rw [up_n e]
      have e2 : rotA S i = S (i + 1) := by unfold rotA; rw [if_pos (by omega)]
      rw [e2]
      refine ⟨fun j hj => ?_, (h (i + 1) (by omega)).2⟩
      rw [cp_out (by omega)]
      unfold shP
      rw [if_pos (by omega), ← (h (i + 1) (by omega)).1 j hj]
      congr 1
      omega
theorem RD.keep (h : RD B M D L) (hF : IE B F) {c : Nat} (hc : c < 2) : RD B (u2 M 1 c (nI 1)) (va_up D c F) (cpR (flat F) L 0 (283 * c)) := by
  intro i hi hm
  by_cases e : i = c
  · subst e
    rw [up_s]
    exact ⟨fun j hj => cp_in hj, hF⟩
  · rw [up_n e]
    rw [u2_12, if_neg (fun z => e z.2)] at hm
    exact ⟨fun j hj => by rw [cp_out (by omega)]; exact (h i hi hm).1 j hj, (h i hi hm).2⟩
def Rel (B k nt : Nat) (F : FF) (D S : Nat → FF) (T : FF) (P L : Nat → Int32) (M : FF) : Prop := IE B F ∧ RS T M k nt ∧ RP B k S P ∧ RD B M D L
theorem Rel.mono (h : Rel B k nt F D S T P L M) {C : Nat} (hC : B ≤ C) : Rel C k nt F D S T P L M := ⟨h.1.mono hC, h.2.1, h.2.2.1.mono hC, h.2.2.2.mono hC⟩
/-- nothing changed but the code of what is thrown -/
theorem Rel.ke (h : Rel B k nt F D S T P L M) (q : Ke M M') : Rel (B + 7000) k nt F D S T P L M' := (show Rel B k nt F D S T P L M' from ⟨h.1, h.2.1.ke q, h.2.2.1, h.2.2.2.ke q⟩).mono (by omega)
/-- a change, with what was before saved -/
theorem Rel.save (h : Rel B k nt F D S T P L M) {F1 : FF} (hF : IE (B + 7000) F1) (x : Int32) : Rel (B + 7000) (pushN k) nt F1 D (pushS k S F) (pushT k T) (pSv k P (flat F)) L (pushT k (u2 M 0 2 x)) :=
  ⟨hF, (h.2.1.ke (Ke.th M x)).push, (h.2.2.1.push h.1 h.2.1.1.1).mono (by omega), (h.2.2.2.one ((pushT_2 k _ (by decide)).trans (u2_i (by decide)))).mono (by omega)⟩
theorem push_02 (k : Nat) (M : FF) (x : Int32) : pushT k (u2 M 0 2 x) 0 2 = x := (pushT_0 k _ (by decide)).trans (u2_s _ _ _ _)
end RL
theorem countC_cg {T M : FF} (h0 : T 0 0 = M 0 0) (F : FF) : countC F T = countC F M := by
  funext w
  unfold countC
  split <;> first | rfl | exact h0
theorem fw_cg {M M' : FF} (h : M' 2 = M 2) : ∀ k i, fwGo M' k i = fwGo M k i
  | 0, _ => rfl
  | k + 1, i => by
    unfold fwGo
    rw [aw_cg h, fw_cg h]
theorem digL_cg {T M : FF} (h0 : T 0 0 = M 0 0) (h1 : T 1 = M 1) (h2 : T 2 = M 2) (F : FF) (n hn nt a b : Nat) : digL F T n hn nt a b = digL F M n hn nt a b := by
  unfold digL
  rw [countC_cg h0, h1, h2]
theorem InvN.house {B hn n : Nat} {F : FF} {N : Nat → Nat → Nat} (h : InvN B F hn n N) (h4 : hn < 4) : InvN B (u2 F 0 1 (nI (hn + 1))) (hn + 1) n N :=
  ⟨⟨u2_s _ _ _ _, by omega⟩, ⟨by rw [u2_12, if_neg (by decide)]; exact h.2.1.1, h.2.1.2⟩, by rw [u2_i (by decide)]; exact h.2.2.1, h.2.2.2.1.out (Or.inl (by decide)), h.2.2.2.2.1, fun p h1 h2 => h.2.2.2.2.2.1 p (by omega) h2, h.2.2.2.2.2.2.1, fun r hr => ⟨by have := (h.2.2.2.2.2.2.2.1 r hr).1; omega, (h.2.2.2.2.2.2.2.1 r hr).2⟩, h.2.2.2.2.2.2.2.2⟩
theorem sum_nI {f : Nat → Int32} {g : Nat → Nat} : ∀ m, (∀ j, j < m → f j = nI (g j)) → ∃ s, sumS f m = nI s ∧ (∀ c, (∀ j, j < m → g j ≤ c) → s ≤ m * c) := by
  intro m
  induction m with
  | zero => exact fun _ => ⟨0, rfl, fun _ _ => by omega⟩
  | succ m ih =>
    intro h
    obtain ⟨s, e, hs⟩ := ih (fun j hj => h j (by omega))
    refine ⟨s + g m, ?_, fun c hc => ?_⟩
    · show sumS f m + f m = _
      rw [e, h m (by omega)]
      exact nI_add _ _
    · have h1 := hs c (fun j hj => hc j (by omega))
      have h2 := hc m (by omega)
      rw [Nat.succ_mul]
      omega
