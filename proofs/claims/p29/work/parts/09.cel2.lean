/-! sending, taking out, accounts: specs in the words of F; n is how many letters are under way -/
def iremS (x y : Int32) : Int32 := x - x / y * y
def sendG (F : FF) (n : Nat) (so pl nu ar lo : Int32) : FF := if ¬ lo ≤ 0 ∧ (F 0 2 + nI 1) - (F 0 2 + nI 1) / lo * lo = 0 then u2 (u2 F 0 2 (F 0 2 + nI 1)) 0 3 (F 0 3 + nI 1) else u2 (u2 (u2 (u2 (u2 (u2 F 0 2 (F 0 2 + nI 1)) 12 n so) 13 n pl) 14 n nu) 15 n ar) 0 4 (nI (n + 1))
abbrev sendS (F : FF) (n : Nat) (so pl nu : Int32) : FF := sendG F n so pl nu (F 0 0 + F 1 0) (F 1 1)
def lendS (F : FF) (n p : Nat) : FF := sendS (u2 F 7 p (F 7 p + nI 1)) n (nI 0) (nI p) (F 7 p + nI 1)
def askS (F : FF) (n p : Nat) : FF := sendS F n (nI 2) (nI p) (F 7 p)
def drinkS (F : FF) (k : Nat) : FF := u2 (u2 F 3 k (F 3 k - nI 1)) 4 k (F 4 k + nI 1)
def rmS (F : FF) (n r : Nat) : FF := u2 (uF (uF (uF (uF F 12 (va_cpy (F 12) (F 12) (r + 1) r (n - r - 1))) 13 (va_cpy (F 13) (F 13) (r + 1) r (n - r - 1))) 14 (va_cpy (F 14) (F 14) (r + 1) r (n - r - 1))) 15 (va_cpy (F 15) (F 15) (r + 1) r (n - r - 1))) 0 4 (nI (n - 1))
def tellS (F : FF) (p : Nat) (nu : Int32) : FF := u2 F 9 p (if F 9 p < nu then nu else F 9 p)
def lostC (F : FF) (p : Nat) (nu : Int32) : FF := if nu ≤ F 8 p then F else u2 (u2 F 6 (p % 3) (F 6 (p % 3) + (nu - F 8 p))) 8 p nu
def pourC (F : FF) (p : Nat) (nu : Int32) : FF := if nu ≤ F 8 p then F else u2 (u2 (u2 (lostC F p (nu - nI 1)) 5 (p % 3) (lostC F p (nu - nI 1) 5 (p % 3) + nI 1)) 3 (p % 3) (lostC F p (nu - nI 1) 3 (p % 3) + nI 1)) 8 p nu
def readC (F : FF) (n so p : Nat) (nu : Int32) : FF := if so = 0 then tellS F p nu else if so = 1 then pourC F p nu else if so = 2 then sendS (tellS F p nu) n (nI 3) (nI p) (tellS F p nu 10 p) else lostC F p nu
def whyC (F : FF) (p : Nat) : Int32 := if 0 < F 11 p then (if 0 < corksS F p then (if roomS F then nI 0 else nI 4) else (if 0 < outS F p then nI 3 else nI 2)) else nI 1
abbrev rmX3_send : Room := { frames := 0, cells := 0, slots := 0, locals := 0 }
set_option maxHeartbeats 4000000 in
set_option maxRecDepth 100000 in
theorem mX3_send (l : Launch) (K : KT) (a : Nat → Nat) (F : FF) {n : Nat} (hn : F 0 4 = nI n) (h40 : n < 40) (so pl nu ar lo : Int32) : Ct l K yX3_send wsX3_send rmX3_send [.ref (a 12), .int so, .int pl, .int nu, .int ar, .int lo] [celW K a F] none [celW K a (sendG F n so pl nu ar lo)] := by
  refine CtP_of (cc := cX3_send) (nL := 6) (rt := none) (own := RX3) (lv0 := [(0, .ref (a 12)), (1, .int so), (2, .int pl), (3, .int nu), (4, .int ar), (5, .int lo)]) (by decide) rfl (Nat.le_of_ble_eq_true rfl) rfl rfl ?_
  intro G C0 hF _
  have f28 : Cond.fieldLink RX3 28 "CorkPermits$Post" "sent" "I" ∈ wsX3_send := by decide +kernel
  have iX3 : ∀ w ∈ u_ws RX3 TX3 7, w ∈ wsX3_send := by decide +kernel
  have f24 : Cond.fieldLink RX3 24 "CorkPermits$Post" "underWay" "I" ∈ wsX3_send := by decide +kernel
  have f9 : Cond.fieldLink RX3 9 "CorkPermits$Post" "sorts" "[I" ∈ wsX3_send := by decide +kernel
  have f15 : Cond.fieldLink RX3 15 "CorkPermits$Post" "places" "[I" ∈ wsX3_send := by decide +kernel
  have f18 : Cond.fieldLink RX3 18 "CorkPermits$Post" "numbers" "[I" ∈ wsX3_send := by decide +kernel
  have f21 : Cond.fieldLink RX3 21 "CorkPermits$Post" "arrivals" "[I" ∈ wsX3_send := by decide +kernel
  have f31 : Cond.fieldLink RX3 31 "CorkPermits$Post" "lost" "I" ∈ wsX3_send := by decide +kernel
  refine J_aln C0 0 dX3_send_0 (kk := ?_)
  refine J_dup C0 dX3_send_1 (kk := ?_)
  refine J_get C0 iX3 0 12 0 f28 dX3_send_2 (kk := ?_)
  refine J_ic C0 1 dX3_send_5 (kk := ?_)
  refine J_iadd C0 dX3_send_6 ?_
  refine J_put C0 iX3 tyX3_ok nmX3 0 12 0 [celW K a (u2 F 0 2 ((F 0 2) + (nI 1)))] f28 dX3_send_7 (hd := rfl) (kk := ?_)
  refine J_il C0 5 dX3_send_10 (kk := ?_)
  refine J_ifle C0 38 dX3_send_12 (kt := fun c1 => ?_) (kf := fun c1 => ?_)
  · refine J_aln C0 0 dX3_send_38 (kk := ?_)
    refine J_get C0 iX3 0 12 2 f24 dX3_send_39 (v := .int (nI n)) (hv := congrArg (fun z => some (Value.int z)) hn) (kk := ?_)
    refine J_bi C0 40 dX3_send_42 (kk := ?_)
    refine J_icmpgeN C0 98 (by omega) (by omega) dX3_send_44 (kt := fun c2 => ?_) (kf := fun c2 => ?_)
    · exfalso; omega
    · refine J_aln C0 0 dX3_send_47 (kk := ?_)
      refine J_get C0 iX3 0 12 3 f9 dX3_send_48 (kk := ?_)
      refine J_aln C0 0 dX3_send_51 (kk := ?_)
      refine J_get C0 iX3 0 12 2 f24 dX3_send_52 (v := .int (nI n)) (hv := congrArg (fun z => some (Value.int z)) hn) (kk := ?_)
      refine J_iln C0 1 dX3_send_55 (kk := ?_)
      refine J_iast C0 0 13 40 [celW K a (u2 (u2 F 0 2 ((F 0 2) + (nI 1))) 12 n so)] dX3_send_56 (by omega) (kk := ?_)
      refine J_aln C0 0 dX3_send_57 (kk := ?_)
      refine J_get C0 iX3 0 12 4 f15 dX3_send_58 (kk := ?_)
      refine J_aln C0 0 dX3_send_61 (kk := ?_)
      refine J_get C0 iX3 0 12 2 f24 dX3_send_62 (v := .int (nI n)) (hv := congrArg (fun z => some (Value.int z)) hn) (kk := ?_)
      refine J_iln C0 2 dX3_send_65 (kk := ?_)
      refine J_iast C0 0 14 40 [celW K a (u2 (u2 (u2 F 0 2 ((F 0 2) + (nI 1))) 12 n so) 13 n pl)] dX3_send_66 (by omega) (kk := ?_)
      refine J_aln C0 0 dX3_send_67 (kk := ?_)
      refine J_get C0 iX3 0 12 5 f18 dX3_send_68 (kk := ?_)
      refine J_aln C0 0 dX3_send_71 (kk := ?_)
      refine J_get C0 iX3 0 12 2 f24 dX3_send_72 (v := .int (nI n)) (hv := congrArg (fun z => some (Value.int z)) hn) (kk := ?_)
      refine J_iln C0 3 dX3_send_75 (kk := ?_)
      refine J_iast C0 0 15 40 [celW K a (u2 (u2 (u2 (u2 F 0 2 ((F 0 2) + (nI 1))) 12 n so) 13 n pl) 14 n nu)] dX3_send_76 (by omega) (kk := ?_)
      refine J_aln C0 0 dX3_send_77 (kk := ?_)
      refine J_get C0 iX3 0 12 6 f21 dX3_send_78 (kk := ?_)
      refine J_aln C0 0 dX3_send_81 (kk := ?_)
      refine J_get C0 iX3 0 12 2 f24 dX3_send_82 (v := .int (nI n)) (hv := congrArg (fun z => some (Value.int z)) hn) (kk := ?_)
      refine J_il C0 4 dX3_send_85 (kk := ?_)
      refine J_iast C0 0 16 40 [celW K a (u2 (u2 (u2 (u2 (u2 F 0 2 ((F 0 2) + (nI 1))) 12 n so) 13 n pl) 14 n nu) 15 n ar)] dX3_send_87 (by omega) (kk := ?_)
      refine J_aln C0 0 dX3_send_88 (kk := ?_)
      refine J_dup C0 dX3_send_89 (kk := ?_)
      refine J_get C0 iX3 0 12 2 f24 dX3_send_90 (v := .int (nI n)) (hv := congrArg (fun z => some (Value.int z)) hn) (kk := ?_)
      refine J_ic C0 1 dX3_send_93 (kk := ?_)
      refine J_iaddN C0 dX3_send_94 ?_
      refine J_put C0 iX3 tyX3_ok nmX3 0 12 2 [celW K a (u2 (u2 (u2 (u2 (u2 (u2 F 0 2 ((F 0 2) + (nI 1))) 12 n so) 13 n pl) 14 n nu) 15 n ar) 0 4 (nI (n + 1)))] f24 dX3_send_95 (hd := rfl) (kk := ?_)
      exact J_vret C0 hF dX3_send_98 ⟨rfl, by simp only [sendG, c1, c2, not_false_eq_true, not_true_eq_false, and_true, true_and, and_false, false_and, and_self, or_true, true_or, or_false, false_or, if_true, if_false, ite_true, ite_false, eq_self]⟩
  · refine J_aln C0 0 dX3_send_15 (kk := ?_)
    refine J_get C0 iX3 0 12 0 f28 dX3_send_16 (v := .int ((F 0 2) + (nI 1))) (hv := rfl) (kk := ?_)
    refine J_il C0 5 dX3_send_19 (kk := ?_)
    refine J_irem C0 dX3_send_21 (by exact nz_nle (by assumption)) ?_
    refine J_ifne C0 38 dX3_send_22 (kt := fun c3 => ?_) (kf := fun c3 => ?_)
    · refine J_aln C0 0 dX3_send_38 (kk := ?_)
      refine J_get C0 iX3 0 12 2 f24 dX3_send_39 (v := .int (nI n)) (hv := congrArg (fun z => some (Value.int z)) hn) (kk := ?_)
      refine J_bi C0 40 dX3_send_42 (kk := ?_)
      refine J_icmpgeN C0 98 (by omega) (by omega) dX3_send_44 (kt := fun c4 => ?_) (kf := fun c4 => ?_)
      · exfalso; omega
      · refine J_aln C0 0 dX3_send_47 (kk := ?_)
        refine J_get C0 iX3 0 12 3 f9 dX3_send_48 (kk := ?_)
        refine J_aln C0 0 dX3_send_51 (kk := ?_)
        refine J_get C0 iX3 0 12 2 f24 dX3_send_52 (v := .int (nI n)) (hv := congrArg (fun z => some (Value.int z)) hn) (kk := ?_)
        refine J_iln C0 1 dX3_send_55 (kk := ?_)
        refine J_iast C0 0 13 40 [celW K a (u2 (u2 F 0 2 ((F 0 2) + (nI 1))) 12 n so)] dX3_send_56 (by omega) (kk := ?_)
        refine J_aln C0 0 dX3_send_57 (kk := ?_)
        refine J_get C0 iX3 0 12 4 f15 dX3_send_58 (kk := ?_)
        refine J_aln C0 0 dX3_send_61 (kk := ?_)
        refine J_get C0 iX3 0 12 2 f24 dX3_send_62 (v := .int (nI n)) (hv := congrArg (fun z => some (Value.int z)) hn) (kk := ?_)
        refine J_iln C0 2 dX3_send_65 (kk := ?_)
        refine J_iast C0 0 14 40 [celW K a (u2 (u2 (u2 F 0 2 ((F 0 2) + (nI 1))) 12 n so) 13 n pl)] dX3_send_66 (by omega) (kk := ?_)
        refine J_aln C0 0 dX3_send_67 (kk := ?_)
        refine J_get C0 iX3 0 12 5 f18 dX3_send_68 (kk := ?_)
        refine J_aln C0 0 dX3_send_71 (kk := ?_)
        refine J_get C0 iX3 0 12 2 f24 dX3_send_72 (v := .int (nI n)) (hv := congrArg (fun z => some (Value.int z)) hn) (kk := ?_)
        refine J_iln C0 3 dX3_send_75 (kk := ?_)
        refine J_iast C0 0 15 40 [celW K a (u2 (u2 (u2 (u2 F 0 2 ((F 0 2) + (nI 1))) 12 n so) 13 n pl) 14 n nu)] dX3_send_76 (by omega) (kk := ?_)
        refine J_aln C0 0 dX3_send_77 (kk := ?_)
        refine J_get C0 iX3 0 12 6 f21 dX3_send_78 (kk := ?_)
        refine J_aln C0 0 dX3_send_81 (kk := ?_)
        refine J_get C0 iX3 0 12 2 f24 dX3_send_82 (v := .int (nI n)) (hv := congrArg (fun z => some (Value.int z)) hn) (kk := ?_)
        refine J_il C0 4 dX3_send_85 (kk := ?_)
        refine J_iast C0 0 16 40 [celW K a (u2 (u2 (u2 (u2 (u2 F 0 2 ((F 0 2) + (nI 1))) 12 n so) 13 n pl) 14 n nu) 15 n ar)] dX3_send_87 (by omega) (kk := ?_)
        refine J_aln C0 0 dX3_send_88 (kk := ?_)
        refine J_dup C0 dX3_send_89 (kk := ?_)
        refine J_get C0 iX3 0 12 2 f24 dX3_send_90 (v := .int (nI n)) (hv := congrArg (fun z => some (Value.int z)) hn) (kk := ?_)
        refine J_ic C0 1 dX3_send_93 (kk := ?_)
        refine J_iaddN C0 dX3_send_94 ?_
        refine J_put C0 iX3 tyX3_ok nmX3 0 12 2 [celW K a (u2 (u2 (u2 (u2 (u2 (u2 F 0 2 ((F 0 2) + (nI 1))) 12 n so) 13 n pl) 14 n nu) 15 n ar) 0 4 (nI (n + 1)))] f24 dX3_send_95 (hd := rfl) (kk := ?_)
        exact J_vret C0 hF dX3_send_98 ⟨rfl, by simp only [sendG, c1, c3, c4, not_false_eq_true, not_true_eq_false, and_true, true_and, and_false, false_and, and_self, or_true, true_or, or_false, false_or, if_true, if_false, ite_true, ite_false, eq_self]⟩
    · refine J_aln C0 0 dX3_send_25 (kk := ?_)
      refine J_dup C0 dX3_send_26 (kk := ?_)
      refine J_get C0 iX3 0 12 1 f31 dX3_send_27 (v := .int (F 0 3)) (hv := rfl) (kk := ?_)
      refine J_ic C0 1 dX3_send_30 (kk := ?_)
      refine J_iadd C0 dX3_send_31 ?_
      refine J_put C0 iX3 tyX3_ok nmX3 0 12 1 [celW K a (u2 (u2 F 0 2 ((F 0 2) + (nI 1))) 0 3 ((F 0 3) + (nI 1)))] f31 dX3_send_32 (hd := rfl) (kk := ?_)
      refine J_goto C0 98 dX3_send_35 (kk := ?_)
      exact J_vret C0 hF dX3_send_98 ⟨rfl, by simp only [sendG, c1, c3, not_false_eq_true, not_true_eq_false, and_true, true_and, and_false, false_and, and_self, or_true, true_or, or_false, false_or, if_true, if_false, ite_true, ite_false, eq_self]⟩

abbrev rmX0_sendLetter : Room := { frames := 1, cells := 0, slots := 0, locals := 25 }
set_option maxHeartbeats 4000000 in
set_option maxRecDepth 100000 in
theorem mX0_sendLetter (l : Launch) (K : KT) (a : Nat → Nat) (F : FF) {n : Nat} (hn : F 0 4 = nI n) (h40 : n < 40) (so pl nu : Int32) : Ct l K yX0_sendLetter wsX0_sendLetter rmX0_sendLetter [.ref (a 0), .int so, .int pl, .int nu] [celW K a F] none [celW K a (sendS F n so pl nu)] := by
  refine CtP_of (cc := cX0_sendLetter) (nL := 4) (rt := none) (own := RX0) (lv0 := [(0, .ref (a 0)), (1, .int so), (2, .int pl), (3, .int nu)]) (by decide) rfl (Nat.le_of_ble_eq_true rfl) rfl rfl ?_
  intro G C0 hF _
  have f48 : Cond.fieldLink RX0 48 "CorkPermits$Cellar" "post" "LCorkPermits$Post;" ∈ wsX0_sendLetter := by decide +kernel
  have iX0 : ∀ w ∈ u_ws RX0 TX0 14, w ∈ wsX0_sendLetter := by decide +kernel
  have f52 : Cond.fieldLink RX0 52 "CorkPermits$Cellar" "time" "I" ∈ wsX0_sendLetter := by decide +kernel
  have f9 : Cond.fieldLink RX0 9 "CorkPermits$Cellar" "settings" "[I" ∈ wsX0_sendLetter := by decide +kernel
  refine J_aln C0 0 dX0_sendLetter_0 (kk := ?_)
  refine J_get C0 iX0 0 0 13 f48 dX0_sendLetter_1 (kk := ?_)
  refine J_iln C0 1 dX0_sendLetter_4 (kk := ?_)
  refine J_iln C0 2 dX0_sendLetter_5 (kk := ?_)
  refine J_iln C0 3 dX0_sendLetter_6 (kk := ?_)
  refine J_aln C0 0 dX0_sendLetter_7 (kk := ?_)
  refine J_get C0 iX0 0 0 0 f52 dX0_sendLetter_8 (kk := ?_)
  refine J_aln C0 0 dX0_sendLetter_11 (kk := ?_)
  refine J_get C0 iX0 0 0 2 f9 dX0_sendLetter_12 (kk := ?_)
  refine J_ic C0 0 dX0_sendLetter_15 (kk := ?_)
  refine J_iald C0 0 1 3 dX0_sendLetter_16 (by omega) (kk := ?_)
  refine J_iadd C0 dX0_sendLetter_17 ?_
  refine J_aln C0 0 dX0_sendLetter_18 (kk := ?_)
  refine J_get C0 iX0 0 0 2 f9 dX0_sendLetter_19 (kk := ?_)
  refine J_ic C0 1 dX0_sendLetter_22 (kk := ?_)
  refine J_iald C0 0 1 3 dX0_sendLetter_23 (by omega) (kk := ?_)
  refine J_callVd C0 (mX3_send l K a F (n := n) hn h40 so pl nu ((F 0 0) + (F 1 0)) (F 1 1)) [] [celW K a (sendG F n so pl nu ((F 0 0) + (F 1 0)) (F 1 1))] gX0_sendLetter_X3_send dX0_sendLetter_24 5 12 (kk := ?_)
  show J G _ _ _ _ _ []
  exact J_vret C0 hF dX0_sendLetter_27 ⟨rfl, rfl⟩

abbrev rmX0_lendCork : Room := { frames := 2, cells := 0, slots := 0, locals := 48 }
set_option maxHeartbeats 4000000 in
set_option maxRecDepth 100000 in
theorem mX0_lendCork (l : Launch) (K : KT) (a : Nat → Nat) (F : FF) {n : Nat} (hn : F 0 4 = nI n) (h40 : n < 40) {p : Nat} (hp : p < 12) : Ct l K yX0_lendCork wsX0_lendCork rmX0_lendCork [.ref (a 0), .int (nI p)] [celW K a F] none [celW K a (lendS F n p)] := by
  refine CtP_of (cc := cX0_lendCork) (nL := 2) (rt := none) (own := RX0) (lv0 := [(0, .ref (a 0)), (1, .int (nI p))]) (by decide) rfl (Nat.le_of_ble_eq_true rfl) rfl rfl ?_
  intro G C0 hF _
  have f30 : Cond.fieldLink RX0 30 "CorkPermits$Cellar" "lent" "[I" ∈ wsX0_lendCork := by decide +kernel
  have iX0 : ∀ w ∈ u_ws RX0 TX0 14, w ∈ wsX0_lendCork := by decide +kernel
  refine J_aln C0 0 dX0_lendCork_0 (kk := ?_)
  refine J_get C0 iX0 0 0 8 f30 dX0_lendCork_1 (kk := ?_)
  refine J_iln C0 1 dX0_lendCork_4 (kk := ?_)
  refine J_dup2 C0 dX0_lendCork_5 (kk := ?_)
  refine J_iald C0 0 7 12 dX0_lendCork_6 (by omega) (kk := ?_)
  refine J_ic C0 1 dX0_lendCork_7 (kk := ?_)
  refine J_iadd C0 dX0_lendCork_8 ?_
  refine J_iast C0 0 7 12 [celW K a (u2 F 7 p ((F 7 p) + (nI 1)))] dX0_lendCork_9 (by omega) (kk := ?_)
  refine J_aln C0 0 dX0_lendCork_10 (kk := ?_)
  refine J_ic C0 0 dX0_lendCork_11 (kk := ?_)
  refine J_iln C0 1 dX0_lendCork_12 (kk := ?_)
  refine J_aln C0 0 dX0_lendCork_13 (kk := ?_)
  refine J_get C0 iX0 0 0 8 f30 dX0_lendCork_14 (kk := ?_)
  refine J_iln C0 1 dX0_lendCork_17 (kk := ?_)
  refine J_iald C0 0 7 12 dX0_lendCork_18 (by omega) (v := ((F 7 p) + (nI 1))) (hv := by first | rfl | exact u2_s _ _ _ _ | simp [u2, upd]) (kk := ?_)
  refine J_callVd C0 (mX0_sendLetter l K a (u2 F 7 p ((F 7 p) + (nI 1))) (n := n) hn h40 (nI 0) (nI p) ((F 7 p) + (nI 1))) [] [celW K a (sendS (u2 F 7 p ((F 7 p) + (nI 1))) n (nI 0) (nI p) ((F 7 p) + (nI 1)))] gX0_lendCork_X0_sendLetter dX0_lendCork_19 3 0 (kk := ?_)
  show J G _ _ _ _ _ []
  exact J_vret C0 hF dX0_lendCork_22 ⟨rfl, rfl⟩

abbrev rmX0_sendQuestion : Room := { frames := 2, cells := 0, slots := 0, locals := 48 }
set_option maxHeartbeats 4000000 in
set_option maxRecDepth 100000 in
theorem mX0_sendQuestion (l : Launch) (K : KT) (a : Nat → Nat) (F : FF) {n : Nat} (hn : F 0 4 = nI n) (h40 : n < 40) {p : Nat} (hp : p < 12) : Ct l K yX0_sendQuestion wsX0_sendQuestion rmX0_sendQuestion [.ref (a 0), .int (nI p)] [celW K a F] none [celW K a (askS F n p)] := by
  refine CtP_of (cc := cX0_sendQuestion) (nL := 2) (rt := none) (own := RX0) (lv0 := [(0, .ref (a 0)), (1, .int (nI p))]) (by decide) rfl (Nat.le_of_ble_eq_true rfl) rfl rfl ?_
  intro G C0 hF _
  have f30 : Cond.fieldLink RX0 30 "CorkPermits$Cellar" "lent" "[I" ∈ wsX0_sendQuestion := by decide +kernel
  have iX0 : ∀ w ∈ u_ws RX0 TX0 14, w ∈ wsX0_sendQuestion := by decide +kernel
  refine J_aln C0 0 dX0_sendQuestion_0 (kk := ?_)
  refine J_ic C0 2 dX0_sendQuestion_1 (kk := ?_)
  refine J_iln C0 1 dX0_sendQuestion_2 (kk := ?_)
  refine J_aln C0 0 dX0_sendQuestion_3 (kk := ?_)
  refine J_get C0 iX0 0 0 8 f30 dX0_sendQuestion_4 (kk := ?_)
  refine J_iln C0 1 dX0_sendQuestion_7 (kk := ?_)
  refine J_iald C0 0 7 12 dX0_sendQuestion_8 (by omega) (kk := ?_)
  refine J_callVd C0 (mX0_sendLetter l K a F (n := n) hn h40 (nI 2) (nI p) (F 7 p)) [] [celW K a (sendS F n (nI 2) (nI p) (F 7 p))] gX0_sendQuestion_X0_sendLetter dX0_sendQuestion_9 3 0 (kk := ?_)
  show J G _ _ _ _ _ []
  exact J_vret C0 hF dX0_sendQuestion_12 ⟨rfl, rfl⟩

abbrev rmX0_emptyBottle : Room := { frames := 0, cells := 0, slots := 0, locals := 0 }
set_option maxHeartbeats 4000000 in
set_option maxRecDepth 100000 in
theorem mX0_emptyBottle (l : Launch) (K : KT) (a : Nat → Nat) (F : FF) {k : Nat} (hk : k < 3) : Ct l K yX0_emptyBottle wsX0_emptyBottle rmX0_emptyBottle [.ref (a 0), .int (nI k)] [celW K a F] none [celW K a (drinkS F k)] := by
  refine CtP_of (cc := cX0_emptyBottle) (nL := 2) (rt := none) (own := RX0) (lv0 := [(0, .ref (a 0)), (1, .int (nI k))]) (by decide) rfl (Nat.le_of_ble_eq_true rfl) rfl rfl ?_
  intro G C0 hF _
  have f18 : Cond.fieldLink RX0 18 "CorkPermits$Cellar" "full" "[I" ∈ wsX0_emptyBottle := by decide +kernel
  have iX0 : ∀ w ∈ u_ws RX0 TX0 14, w ∈ wsX0_emptyBottle := by decide +kernel
  have f21 : Cond.fieldLink RX0 21 "CorkPermits$Cellar" "drunk" "[I" ∈ wsX0_emptyBottle := by decide +kernel
  refine J_aln C0 0 dX0_emptyBottle_0 (kk := ?_)
  refine J_get C0 iX0 0 0 4 f18 dX0_emptyBottle_1 (kk := ?_)
  refine J_iln C0 1 dX0_emptyBottle_4 (kk := ?_)
  refine J_dup2 C0 dX0_emptyBottle_5 (kk := ?_)
  refine J_iald C0 0 3 3 dX0_emptyBottle_6 (by omega) (kk := ?_)
  refine J_ic C0 1 dX0_emptyBottle_7 (kk := ?_)
  refine J_isub C0 dX0_emptyBottle_8 ?_
  refine J_iast C0 0 3 3 [celW K a (u2 F 3 k ((F 3 k) - (nI 1)))] dX0_emptyBottle_9 (by omega) (kk := ?_)
  refine J_aln C0 0 dX0_emptyBottle_10 (kk := ?_)
  refine J_get C0 iX0 0 0 5 f21 dX0_emptyBottle_11 (kk := ?_)
  refine J_iln C0 1 dX0_emptyBottle_14 (kk := ?_)
  refine J_dup2 C0 dX0_emptyBottle_15 (kk := ?_)
  refine J_iald C0 0 4 3 dX0_emptyBottle_16 (by omega) (v := (F 4 k)) (hv := rfl) (kk := ?_)
  refine J_ic C0 1 dX0_emptyBottle_17 (kk := ?_)
  refine J_iadd C0 dX0_emptyBottle_18 ?_
  refine J_iast C0 0 4 3 [celW K a (u2 (u2 F 3 k ((F 3 k) - (nI 1))) 4 k ((F 4 k) + (nI 1)))] dX0_emptyBottle_19 (by omega) (kk := ?_)
  exact J_vret C0 hF dX0_emptyBottle_20 ⟨rfl, rfl⟩

abbrev rmX3_remove : Room := { frames := 1, cells := 0, slots := 0, locals := 40 }
set_option maxHeartbeats 4000000 in
set_option maxRecDepth 100000 in
theorem mX3_remove (l : Launch) (K : KT) (a : Nat → Nat) (F : FF) {n r : Nat} (hn : F 0 4 = nI n) (h40 : n ≤ 40) (hr : r < n) : Ct l K yX3_remove wsX3_remove rmX3_remove [.ref (a 12), .int (nI r)] [celW K a F] none [celW K a (rmS F n r)] := by
  refine CtP_of (cc := cX3_remove) (nL := 3) (rt := none) (own := RX3) (lv0 := [(0, .ref (a 12)), (1, .int (nI r))]) (by decide) rfl (Nat.le_of_ble_eq_true rfl) rfl rfl ?_
  intro G C0 hF _
  have f24 : Cond.fieldLink RX3 24 "CorkPermits$Post" "underWay" "I" ∈ wsX3_remove := by decide +kernel
  have iX3 : ∀ w ∈ u_ws RX3 TX3 7, w ∈ wsX3_remove := by decide +kernel
  have f9 : Cond.fieldLink RX3 9 "CorkPermits$Post" "sorts" "[I" ∈ wsX3_remove := by decide +kernel
  have ac34 : Cond.methodLink RX3 34 arraycopyName ∈ wsX3_remove := by decide +kernel
  have acn : Cond.native arraycopyName ∈ wsX3_remove := by decide +kernel
  have acs : Cond.static arraycopyName ∈ wsX3_remove := by decide +kernel
  have aci : Cond.initialized "java/lang/System" ∈ wsX3_remove := by decide +kernel
  have f15 : Cond.fieldLink RX3 15 "CorkPermits$Post" "places" "[I" ∈ wsX3_remove := by decide +kernel
  have f18 : Cond.fieldLink RX3 18 "CorkPermits$Post" "numbers" "[I" ∈ wsX3_remove := by decide +kernel
  have f21 : Cond.fieldLink RX3 21 "CorkPermits$Post" "arrivals" "[I" ∈ wsX3_remove := by decide +kernel
  refine J_iln C0 1 dX3_remove_0 (kk := ?_)
  refine J_ifltN C0 (by omega) dX3_remove_1 12 (kk := ?_)
  refine J_iln C0 1 dX3_remove_4 (kk := ?_)
  refine J_aln C0 0 dX3_remove_5 (kk := ?_)
  refine J_get C0 iX3 0 12 2 f24 dX3_remove_6 (v := .int (nI n)) (hv := congrArg (fun z => some (Value.int z)) hn) (kk := ?_)
  refine J_icmpltN C0 13 (by omega) (by omega) dX3_remove_9 (kt := fun c2 => ?_) (kf := fun c2 => ?_)
  · refine J_aln C0 0 dX3_remove_13 (kk := ?_)
    refine J_get C0 iX3 0 12 2 f24 dX3_remove_14 (v := .int (nI n)) (hv := congrArg (fun z => some (Value.int z)) hn) (kk := ?_)
    refine J_iln C0 1 dX3_remove_17 (kk := ?_)
    refine J_isubN C0 (by omega) dX3_remove_18 ?_
    refine J_ic C0 1 dX3_remove_19 (kk := ?_)
    refine J_isubN C0 (by omega) dX3_remove_20 ?_
    refine J_isn C0 [(2, .int (nI (n - r - 1))), (0, .ref (a 12)), (1, .int (nI r))] dX3_remove_21 (kk := ?_)
    refine J_aln C0 1 dX3_remove_22 (kk := ?_)
    refine J_get C0 iX3 0 12 3 f9 dX3_remove_23 (kk := ?_)
    refine J_iln C0 2 dX3_remove_26 (kk := ?_)
    refine J_ic C0 1 dX3_remove_27 (kk := ?_)
    refine J_iaddN C0 dX3_remove_28 ?_
    refine J_aln C0 1 dX3_remove_29 (kk := ?_)
    refine J_get C0 iX3 0 12 3 f9 dX3_remove_30 (kk := ?_)
    refine J_iln C0 2 dX3_remove_33 (kk := ?_)
    refine J_iln C0 0 dX3_remove_34 (kk := ?_)
    refine J_copyi C0 0 13 0 13 40 40 [celW K a (uF F 12 (va_cpy (F 12) (F 12) (r + 1) r (n - r - 1)))] ac34 acn acs aci dX3_remove_35 (by omega) (by omega) (kk := ?_)
    refine J_aln C0 1 dX3_remove_38 (kk := ?_)
    refine J_get C0 iX3 0 12 4 f15 dX3_remove_39 (kk := ?_)
    refine J_iln C0 2 dX3_remove_42 (kk := ?_)
    refine J_ic C0 1 dX3_remove_43 (kk := ?_)
    refine J_iaddN C0 dX3_remove_44 ?_
    refine J_aln C0 1 dX3_remove_45 (kk := ?_)
    refine J_get C0 iX3 0 12 4 f15 dX3_remove_46 (kk := ?_)
    refine J_iln C0 2 dX3_remove_49 (kk := ?_)
    refine J_iln C0 0 dX3_remove_50 (kk := ?_)
    refine J_copyi C0 0 14 0 14 40 40 [celW K a (uF (uF F 12 (va_cpy (F 12) (F 12) (r + 1) r (n - r - 1))) 13 (va_cpy (F 13) (F 13) (r + 1) r (n - r - 1)))] ac34 acn acs aci dX3_remove_51 (by omega) (by omega) (kk := ?_)
    refine J_aln C0 1 dX3_remove_54 (kk := ?_)
    refine J_get C0 iX3 0 12 5 f18 dX3_remove_55 (kk := ?_)
    refine J_iln C0 2 dX3_remove_58 (kk := ?_)
    refine J_ic C0 1 dX3_remove_59 (kk := ?_)
    refine J_iaddN C0 dX3_remove_60 ?_
    refine J_aln C0 1 dX3_remove_61 (kk := ?_)
    refine J_get C0 iX3 0 12 5 f18 dX3_remove_62 (kk := ?_)
    refine J_iln C0 2 dX3_remove_65 (kk := ?_)
    refine J_iln C0 0 dX3_remove_66 (kk := ?_)
    refine J_copyi C0 0 15 0 15 40 40 [celW K a (uF (uF (uF F 12 (va_cpy (F 12) (F 12) (r + 1) r (n - r - 1))) 13 (va_cpy (F 13) (F 13) (r + 1) r (n - r - 1))) 14 (va_cpy (F 14) (F 14) (r + 1) r (n - r - 1)))] ac34 acn acs aci dX3_remove_67 (by omega) (by omega) (kk := ?_)
    refine J_aln C0 1 dX3_remove_70 (kk := ?_)
    refine J_get C0 iX3 0 12 6 f21 dX3_remove_71 (kk := ?_)
    refine J_iln C0 2 dX3_remove_74 (kk := ?_)
    refine J_ic C0 1 dX3_remove_75 (kk := ?_)
    refine J_iaddN C0 dX3_remove_76 ?_
    refine J_aln C0 1 dX3_remove_77 (kk := ?_)
    refine J_get C0 iX3 0 12 6 f21 dX3_remove_78 (kk := ?_)
    refine J_iln C0 2 dX3_remove_81 (kk := ?_)
    refine J_iln C0 0 dX3_remove_82 (kk := ?_)
    refine J_copyi C0 0 16 0 16 40 40 [celW K a (uF (uF (uF (uF F 12 (va_cpy (F 12) (F 12) (r + 1) r (n - r - 1))) 13 (va_cpy (F 13) (F 13) (r + 1) r (n - r - 1))) 14 (va_cpy (F 14) (F 14) (r + 1) r (n - r - 1))) 15 (va_cpy (F 15) (F 15) (r + 1) r (n - r - 1)))] ac34 acn acs aci dX3_remove_83 (by omega) (by omega) (kk := ?_)
    refine J_aln C0 1 dX3_remove_86 (kk := ?_)
    refine J_dup C0 dX3_remove_87 (kk := ?_)
    refine J_get C0 iX3 0 12 2 f24 dX3_remove_88 (v := .int (nI n)) (hv := congrArg (fun z => some (Value.int z)) hn) (kk := ?_)
    refine J_ic C0 1 dX3_remove_91 (kk := ?_)
    refine J_isubN C0 (by omega) dX3_remove_92 ?_
    refine J_put C0 iX3 tyX3_ok nmX3 0 12 2 [celW K a (u2 (uF (uF (uF (uF F 12 (va_cpy (F 12) (F 12) (r + 1) r (n - r - 1))) 13 (va_cpy (F 13) (F 13) (r + 1) r (n - r - 1))) 14 (va_cpy (F 14) (F 14) (r + 1) r (n - r - 1))) 15 (va_cpy (F 15) (F 15) (r + 1) r (n - r - 1))) 0 4 (nI (n - 1)))] f24 dX3_remove_93 (hd := rfl) (kk := ?_)
    exact J_vret C0 hF dX3_remove_96 ⟨rfl, rfl⟩
  · exfalso; omega

abbrev rmX0_tellHouse : Room := { frames := 1, cells := 0, slots := 0, locals := 21 }
set_option maxHeartbeats 4000000 in
set_option maxRecDepth 100000 in
theorem mX0_tellHouse (l : Launch) (K : KT) (a : Nat → Nat) (F : FF) {p : Nat} (hp : p < 12) (nu : Int32) : Ct l K yX0_tellHouse wsX0_tellHouse rmX0_tellHouse [.ref (a 0), .int (nI p), .int nu] [celW K a F] none [celW K a (tellS F p nu)] := by
  refine CtP_of (cc := cX0_tellHouse) (nL := 3) (rt := none) (own := RX0) (lv0 := [(0, .ref (a 0)), (1, .int (nI p)), (2, .int nu)]) (by decide) rfl (Nat.le_of_ble_eq_true rfl) rfl rfl ?_
  intro G C0 hF _
  have f36 : Cond.fieldLink RX0 36 "CorkPermits$Cellar" "told" "[I" ∈ wsX0_tellHouse := by decide +kernel
  have iX0 : ∀ w ∈ u_ws RX0 TX0 14, w ∈ wsX0_tellHouse := by decide +kernel
  have mx129 : Cond.methodLink RX0 129 Lib.Math.max.name ∈ wsX0_tellHouse := by decide +kernel
  have mxs : Cond.static Lib.Math.max.name ∈ wsX0_tellHouse := by decide +kernel
  have mxi : Cond.initialized "java/lang/Math" ∈ wsX0_tellHouse := by decide +kernel
  have mxc : Cond.code Lib.Math.max.name Lib.Math.max.code 2 (some .int) ∈ wsX0_tellHouse := by first | exact List.mem_of_getElem? (i := 0) rfl | decide +kernel
  refine J_aln C0 0 dX0_tellHouse_0 (kk := ?_)
  refine J_get C0 iX0 0 0 10 f36 dX0_tellHouse_1 (kk := ?_)
  refine J_iln C0 1 dX0_tellHouse_4 (kk := ?_)
  refine J_aln C0 0 dX0_tellHouse_5 (kk := ?_)
  refine J_get C0 iX0 0 0 10 f36 dX0_tellHouse_6 (kk := ?_)
  refine J_iln C0 1 dX0_tellHouse_9 (kk := ?_)
  refine J_iald C0 0 9 12 dX0_tellHouse_10 (by omega) (kk := ?_)
  refine J_iln C0 2 dX0_tellHouse_11 (kk := ?_)
  refine J_mmax C0 mx129 mxs mxi mxc dX0_tellHouse_12 (kk := ?_)
  refine J_iast C0 0 9 12 [celW K a (u2 F 9 p (if F 9 p < nu then nu else F 9 p))] dX0_tellHouse_15 (by omega) (kk := ?_)
  exact J_vret C0 hF dX0_tellHouse_16 ⟨rfl, rfl⟩

abbrev rmX0_accountForLost : Room := { frames := 0, cells := 0, slots := 0, locals := 0 }
set_option maxHeartbeats 4000000 in
set_option maxRecDepth 100000 in
theorem mX0_accountForLost (l : Launch) (K : KT) (a : Nat → Nat) (F : FF) {p : Nat} (hp : p < 12) (nu : Int32) : Ct l K yX0_accountForLost wsX0_accountForLost rmX0_accountForLost [.ref (a 0), .int (nI p), .int nu] [celW K a F] none [celW K a (lostC F p nu)] := by
  refine CtP_of (cc := cX0_accountForLost) (nL := 3) (rt := none) (own := RX0) (lv0 := [(0, .ref (a 0)), (1, .int (nI p)), (2, .int nu)]) (by decide) rfl (Nat.le_of_ble_eq_true rfl) rfl rfl ?_
  intro G C0 hF _
  have f33 : Cond.fieldLink RX0 33 "CorkPermits$Cellar" "accounted" "[I" ∈ wsX0_accountForLost := by decide +kernel
  have iX0 : ∀ w ∈ u_ws RX0 TX0 14, w ∈ wsX0_accountForLost := by decide +kernel
  have f27 : Cond.fieldLink RX0 27 "CorkPermits$Cellar" "knownLost" "[I" ∈ wsX0_accountForLost := by decide +kernel
  refine J_iln C0 2 dX0_accountForLost_0 (kk := ?_)
  refine J_aln C0 0 dX0_accountForLost_1 (kk := ?_)
  refine J_get C0 iX0 0 0 9 f33 dX0_accountForLost_2 (kk := ?_)
  refine J_iln C0 1 dX0_accountForLost_5 (kk := ?_)
  refine J_iald C0 0 8 12 dX0_accountForLost_6 (by omega) (kk := ?_)
  refine J_icmple C0 36 dX0_accountForLost_7 (kt := fun c1 => ?_) (kf := fun c1 => ?_)
  · exact J_vret C0 hF dX0_accountForLost_36 ⟨rfl, by simp only [lostC, c1, not_false_eq_true, not_true_eq_false, and_true, true_and, and_false, false_and, and_self, or_true, true_or, or_false, false_or, if_true, if_false, ite_true, ite_false, eq_self]⟩
  · refine J_aln C0 0 dX0_accountForLost_10 (kk := ?_)
    refine J_get C0 iX0 0 0 7 f27 dX0_accountForLost_11 (kk := ?_)
    refine J_iln C0 1 dX0_accountForLost_14 (kk := ?_)
    refine J_ic C0 3 dX0_accountForLost_15 (kk := ?_)
    refine J_iremN C0 (by omega) (by omega) (by omega) dX0_accountForLost_16 ?_
    refine J_dup2 C0 dX0_accountForLost_17 (kk := ?_)
    refine J_iald C0 0 6 3 dX0_accountForLost_18 (by omega) (kk := ?_)
    refine J_iln C0 2 dX0_accountForLost_19 (kk := ?_)
    refine J_aln C0 0 dX0_accountForLost_20 (kk := ?_)
    refine J_get C0 iX0 0 0 9 f33 dX0_accountForLost_21 (kk := ?_)
    refine J_iln C0 1 dX0_accountForLost_24 (kk := ?_)
    refine J_iald C0 0 8 12 dX0_accountForLost_25 (by omega) (kk := ?_)
    refine J_isub C0 dX0_accountForLost_26 ?_
    refine J_iadd C0 dX0_accountForLost_27 ?_
    refine J_iast C0 0 6 3 [celW K a (u2 F 6 (p % 3) ((F 6 (p % 3)) + (nu - (F 8 p))))] dX0_accountForLost_28 (by omega) (kk := ?_)
    refine J_aln C0 0 dX0_accountForLost_29 (kk := ?_)
    refine J_get C0 iX0 0 0 9 f33 dX0_accountForLost_30 (kk := ?_)
    refine J_iln C0 1 dX0_accountForLost_33 (kk := ?_)
    refine J_iln C0 2 dX0_accountForLost_34 (kk := ?_)
    refine J_iast C0 0 8 12 [celW K a (u2 (u2 F 6 (p % 3) ((F 6 (p % 3)) + (nu - (F 8 p)))) 8 p nu)] dX0_accountForLost_35 (by omega) (kk := ?_)
    exact J_vret C0 hF dX0_accountForLost_36 ⟨rfl, by simp only [lostC, c1, not_false_eq_true, not_true_eq_false, and_true, true_and, and_false, false_and, and_self, or_true, true_or, or_false, false_or, if_true, if_false, ite_true, ite_false, eq_self]⟩

abbrev rmX0_accountForPour : Room := { frames := 1, cells := 0, slots := 0, locals := 22 }
set_option maxHeartbeats 4000000 in
set_option maxRecDepth 100000 in
theorem mX0_accountForPour (l : Launch) (K : KT) (a : Nat → Nat) (F : FF) {p : Nat} (hp : p < 12) (nu : Int32) : Ct l K yX0_accountForPour wsX0_accountForPour rmX0_accountForPour [.ref (a 0), .int (nI p), .int nu] [celW K a F] none [celW K a (pourC F p nu)] := by
  refine CtP_of (cc := cX0_accountForPour) (nL := 4) (rt := none) (own := RX0) (lv0 := [(0, .ref (a 0)), (1, .int (nI p)), (2, .int nu)]) (by decide) rfl (Nat.le_of_ble_eq_true rfl) rfl rfl ?_
  intro G C0 hF _
  have f33 : Cond.fieldLink RX0 33 "CorkPermits$Cellar" "accounted" "[I" ∈ wsX0_accountForPour := by decide +kernel
  have iX0 : ∀ w ∈ u_ws RX0 TX0 14, w ∈ wsX0_accountForPour := by decide +kernel
  have f24 : Cond.fieldLink RX0 24 "CorkPermits$Cellar" "arrived" "[I" ∈ wsX0_accountForPour := by decide +kernel
  have f18 : Cond.fieldLink RX0 18 "CorkPermits$Cellar" "full" "[I" ∈ wsX0_accountForPour := by decide +kernel
  refine J_iln C0 2 dX0_accountForPour_0 (kk := ?_)
  refine J_aln C0 0 dX0_accountForPour_1 (kk := ?_)
  refine J_get C0 iX0 0 0 9 f33 dX0_accountForPour_2 (kk := ?_)
  refine J_iln C0 1 dX0_accountForPour_5 (kk := ?_)
  refine J_iald C0 0 8 12 dX0_accountForPour_6 (by omega) (kk := ?_)
  refine J_icmple C0 49 dX0_accountForPour_7 (kt := fun c1 => ?_) (kf := fun c1 => ?_)
  · exact J_vret C0 hF dX0_accountForPour_49 ⟨rfl, by simp only [pourC, c1, not_false_eq_true, not_true_eq_false, and_true, true_and, and_false, false_and, and_self, or_true, true_or, or_false, false_or, if_true, if_false, ite_true, ite_false, eq_self]⟩
  · refine J_aln C0 0 dX0_accountForPour_10 (kk := ?_)
    refine J_iln C0 1 dX0_accountForPour_11 (kk := ?_)
    refine J_iln C0 2 dX0_accountForPour_12 (kk := ?_)
    refine J_ic C0 1 dX0_accountForPour_13 (kk := ?_)
    refine J_isub C0 dX0_accountForPour_14 ?_
    refine J_callVd C0 (mX0_accountForLost l K a F (p := p) (by omega) (nu - (nI 1))) [] [celW K a (lostC F p (nu - (nI 1)))] gX0_accountForPour_X0_accountForLost dX0_accountForPour_15 2 0 (kk := ?_)
    show J G _ _ _ _ _ []
    refine J_iln C0 1 dX0_accountForPour_18 (kk := ?_)
    refine J_ic C0 3 dX0_accountForPour_19 (kk := ?_)
    refine J_iremN C0 (by omega) (by omega) (by omega) dX0_accountForPour_20 ?_
    refine J_isn C0 [(3, .int (nI (p % 3))), (0, .ref (a 0)), (1, .int (nI p)), (2, .int nu)] dX0_accountForPour_21 (kk := ?_)
    refine J_aln C0 1 dX0_accountForPour_22 (kk := ?_)
    refine J_get C0 iX0 0 0 6 f24 dX0_accountForPour_23 (kk := ?_)
    refine J_iln C0 0 dX0_accountForPour_26 (kk := ?_)
    refine J_dup2 C0 dX0_accountForPour_27 (kk := ?_)
    refine J_iald C0 0 5 3 dX0_accountForPour_28 (by omega) (kk := ?_)
    refine J_ic C0 1 dX0_accountForPour_29 (kk := ?_)
    refine J_iadd C0 dX0_accountForPour_30 ?_
    refine J_iast C0 0 5 3 [celW K a (u2 (lostC F p (nu - (nI 1))) 5 (p % 3) (((lostC F p (nu - (nI 1))) 5 (p % 3)) + (nI 1)))] dX0_accountForPour_31 (by omega) (kk := ?_)
    refine J_aln C0 1 dX0_accountForPour_32 (kk := ?_)
    refine J_get C0 iX0 0 0 4 f18 dX0_accountForPour_33 (kk := ?_)
    refine J_iln C0 0 dX0_accountForPour_36 (kk := ?_)
    refine J_dup2 C0 dX0_accountForPour_37 (kk := ?_)
    refine J_iald C0 0 3 3 dX0_accountForPour_38 (by omega) (v := ((lostC F p (nu - (nI 1))) 3 (p % 3))) (hv := rfl) (kk := ?_)
    refine J_ic C0 1 dX0_accountForPour_39 (kk := ?_)
    refine J_iadd C0 dX0_accountForPour_40 ?_
    refine J_iast C0 0 3 3 [celW K a (u2 (u2 (lostC F p (nu - (nI 1))) 5 (p % 3) (((lostC F p (nu - (nI 1))) 5 (p % 3)) + (nI 1))) 3 (p % 3) (((lostC F p (nu - (nI 1))) 3 (p % 3)) + (nI 1)))] dX0_accountForPour_41 (by omega) (kk := ?_)
    refine J_aln C0 1 dX0_accountForPour_42 (kk := ?_)
    refine J_get C0 iX0 0 0 9 f33 dX0_accountForPour_43 (kk := ?_)
    refine J_iln C0 2 dX0_accountForPour_46 (kk := ?_)
    refine J_iln C0 3 dX0_accountForPour_47 (kk := ?_)
    refine J_iast C0 0 8 12 [celW K a (u2 (u2 (u2 (lostC F p (nu - (nI 1))) 5 (p % 3) (((lostC F p (nu - (nI 1))) 5 (p % 3)) + (nI 1))) 3 (p % 3) (((lostC F p (nu - (nI 1))) 3 (p % 3)) + (nI 1))) 8 p nu)] dX0_accountForPour_48 (by omega) (kk := ?_)
    exact J_vret C0 hF dX0_accountForPour_49 ⟨rfl, by simp only [pourC, c1, not_false_eq_true, not_true_eq_false, and_true, true_and, and_false, false_and, and_self, or_true, true_or, or_false, false_or, if_true, if_false, ite_true, ite_false, eq_self]⟩

abbrev rmX0_readLetter : Room := { frames := 2, cells := 0, slots := 0, locals := 48 }
set_option maxHeartbeats 4000000 in
set_option maxRecDepth 100000 in
theorem mX0_readLetter_0 (l : Launch) (K : KT) (a : Nat → Nat) (F : FF) {n : Nat} (hn : F 0 4 = nI n) (h40 : n < 40) {p : Nat} (hp : p < 12) (nu : Int32) : Ct l K yX0_readLetter wsX0_readLetter rmX0_readLetter [.ref (a 0), .int (nI 0), .int (nI p), .int nu] [celW K a F] none [celW K a (readC F n 0 p nu)] := by
  refine CtP_of (cc := cX0_readLetter) (nL := 4) (rt := none) (own := RX0) (lv0 := [(0, .ref (a 0)), (1, .int (nI 0)), (2, .int (nI p)), (3, .int nu)]) (by decide) rfl (Nat.le_of_ble_eq_true rfl) rfl rfl ?_
  intro G C0 hF _
  refine J_iln C0 1 dX0_readLetter_0 (kk := ?_)
  refine J_tin C0 28 dX0_readLetter_1 (kk := ?_)
  refine J_aln C0 0 dX0_readLetter_28 (kk := ?_)
  refine J_iln C0 2 dX0_readLetter_29 (kk := ?_)
  refine J_iln C0 3 dX0_readLetter_30 (kk := ?_)
  refine J_callVd C0 (mX0_tellHouse l K a F (p := p) (by omega) nu) [] [celW K a (tellS F p nu)] gX0_readLetter_X0_tellHouse dX0_readLetter_31 2 0 (kk := ?_)
  show J G _ _ _ _ _ []
  refine J_goto C0 73 dX0_readLetter_34 (kk := ?_)
  exact J_vret C0 hF dX0_readLetter_73 ⟨rfl, rfl⟩

set_option maxHeartbeats 4000000 in
set_option maxRecDepth 100000 in
theorem mX0_readLetter_1 (l : Launch) (K : KT) (a : Nat → Nat) (F : FF) {n : Nat} (hn : F 0 4 = nI n) (h40 : n < 40) {p : Nat} (hp : p < 12) (nu : Int32) : Ct l K yX0_readLetter wsX0_readLetter rmX0_readLetter [.ref (a 0), .int (nI 1), .int (nI p), .int nu] [celW K a F] none [celW K a (readC F n 1 p nu)] := by
  refine CtP_of (cc := cX0_readLetter) (nL := 4) (rt := none) (own := RX0) (lv0 := [(0, .ref (a 0)), (1, .int (nI 1)), (2, .int (nI p)), (3, .int nu)]) (by decide) rfl (Nat.le_of_ble_eq_true rfl) rfl rfl ?_
  intro G C0 hF _
  refine J_iln C0 1 dX0_readLetter_0 (kk := ?_)
  refine J_tin C0 58 dX0_readLetter_1 (kk := ?_)
  refine J_aln C0 0 dX0_readLetter_58 (kk := ?_)
  refine J_iln C0 2 dX0_readLetter_59 (kk := ?_)
  refine J_iln C0 3 dX0_readLetter_60 (kk := ?_)
  refine J_callVd C0 (mX0_accountForPour l K a F (p := p) (by omega) nu) [] [celW K a (pourC F p nu)] gX0_readLetter_X0_accountForPour dX0_readLetter_61 2 0 (kk := ?_)
  show J G _ _ _ _ _ []
  refine J_goto C0 73 dX0_readLetter_64 (kk := ?_)
  exact J_vret C0 hF dX0_readLetter_73 ⟨rfl, rfl⟩

set_option maxHeartbeats 4000000 in
set_option maxRecDepth 100000 in
theorem mX0_readLetter_2 (l : Launch) (K : KT) (a : Nat → Nat) (F : FF) {n : Nat} (hn : F 0 4 = nI n) (h40 : n < 40) {p : Nat} (hp : p < 12) (nu : Int32) : Ct l K yX0_readLetter wsX0_readLetter rmX0_readLetter [.ref (a 0), .int (nI 2), .int (nI p), .int nu] [celW K a F] none [celW K a (readC F n 2 p nu)] := by
  refine CtP_of (cc := cX0_readLetter) (nL := 4) (rt := none) (own := RX0) (lv0 := [(0, .ref (a 0)), (1, .int (nI 2)), (2, .int (nI p)), (3, .int nu)]) (by decide) rfl (Nat.le_of_ble_eq_true rfl) rfl rfl ?_
  intro G C0 hF _
  have f39 : Cond.fieldLink RX0 39 "CorkPermits$Cellar" "poured" "[I" ∈ wsX0_readLetter := by decide +kernel
  have iX0 : ∀ w ∈ u_ws RX0 TX0 14, w ∈ wsX0_readLetter := by decide +kernel
  refine J_iln C0 1 dX0_readLetter_0 (kk := ?_)
  refine J_tin C0 37 dX0_readLetter_1 (kk := ?_)
  refine J_aln C0 0 dX0_readLetter_37 (kk := ?_)
  refine J_iln C0 2 dX0_readLetter_38 (kk := ?_)
  refine J_iln C0 3 dX0_readLetter_39 (kk := ?_)
  refine J_callVd C0 (mX0_tellHouse l K a F (p := p) (by omega) nu) [] [celW K a (tellS F p nu)] gX0_readLetter_X0_tellHouse dX0_readLetter_40 2 0 (kk := ?_)
  show J G _ _ _ _ _ []
  refine J_aln C0 0 dX0_readLetter_43 (kk := ?_)
  refine J_ic C0 3 dX0_readLetter_44 (kk := ?_)
  refine J_iln C0 2 dX0_readLetter_45 (kk := ?_)
  refine J_aln C0 0 dX0_readLetter_46 (kk := ?_)
  refine J_get C0 iX0 0 0 11 f39 dX0_readLetter_47 (kk := ?_)
  refine J_iln C0 2 dX0_readLetter_50 (kk := ?_)
  refine J_iald C0 0 10 12 dX0_readLetter_51 (by omega) (kk := ?_)
  refine J_callVd C0 (mX0_sendLetter l K a (tellS F p nu) (n := n) hn h40 (nI 3) (nI p) ((tellS F p nu) 10 p)) [] [celW K a (sendS (tellS F p nu) n (nI 3) (nI p) ((tellS F p nu) 10 p))] gX0_readLetter_X0_sendLetter dX0_readLetter_52 3 0 (kk := ?_)
  show J G _ _ _ _ _ []
  refine J_goto C0 73 dX0_readLetter_55 (kk := ?_)
  exact J_vret C0 hF dX0_readLetter_73 ⟨rfl, rfl⟩

set_option maxHeartbeats 4000000 in
set_option maxRecDepth 100000 in
theorem mX0_readLetter_3 (l : Launch) (K : KT) (a : Nat → Nat) (F : FF) {n : Nat} (hn : F 0 4 = nI n) (h40 : n < 40) {p : Nat} (hp : p < 12) (nu : Int32) : Ct l K yX0_readLetter wsX0_readLetter rmX0_readLetter [.ref (a 0), .int (nI 3), .int (nI p), .int nu] [celW K a F] none [celW K a (readC F n 3 p nu)] := by
  refine CtP_of (cc := cX0_readLetter) (nL := 4) (rt := none) (own := RX0) (lv0 := [(0, .ref (a 0)), (1, .int (nI 3)), (2, .int (nI p)), (3, .int nu)]) (by decide) rfl (Nat.le_of_ble_eq_true rfl) rfl rfl ?_
  intro G C0 hF _
  refine J_iln C0 1 dX0_readLetter_0 (kk := ?_)
  refine J_tout C0 67 dX0_readLetter_1 (by decide) (kk := ?_)
  refine J_aln C0 0 dX0_readLetter_67 (kk := ?_)
  refine J_iln C0 2 dX0_readLetter_68 (kk := ?_)
  refine J_iln C0 3 dX0_readLetter_69 (kk := ?_)
  refine J_callVd C0 (mX0_accountForLost l K a F (p := p) (by omega) nu) [] [celW K a (lostC F p nu)] gX0_readLetter_X0_accountForLost dX0_readLetter_70 2 0 (kk := ?_)
  show J G _ _ _ _ _ []
  exact J_vret C0 hF dX0_readLetter_73 ⟨rfl, rfl⟩

theorem mX0_readLetter (l : Launch) (K : KT) (a : Nat → Nat) (F : FF) {n : Nat} (hn : F 0 4 = nI n) (h40 : n < 40) {p : Nat} (hp : p < 12) (nu : Int32) {so : Nat} (hso : so < 4) : Ct l K yX0_readLetter wsX0_readLetter rmX0_readLetter [.ref (a 0), .int (nI so), .int (nI p), .int nu] [celW K a F] none [celW K a (readC F n so p nu)] := by
  rcases (show so = 0 ∨ so = 1 ∨ so = 2 ∨ so = 3 by omega) with rfl | rfl | rfl | rfl
  · exact mX0_readLetter_0 l K a F hn h40 hp nu
  · exact mX0_readLetter_1 l K a F hn h40 hp nu
  · exact mX0_readLetter_2 l K a F hn h40 hp nu
  · exact mX0_readLetter_3 l K a F hn h40 hp nu
abbrev rmX0_whyNoPour : Room := { frames := 1, cells := 0, slots := 0, locals := 21 }
set_option maxHeartbeats 4000000 in
set_option maxRecDepth 100000 in
theorem mX0_whyNoPour (l : Launch) (K : KT) (a : Nat → Nat) (F : FF) {p : Nat} (hp : p < 12) : Ct l K yX0_whyNoPour wsX0_whyNoPour rmX0_whyNoPour [.ref (a 0), .int (nI p)] [celW K a F] (some (.int (whyC F p))) [celW K a F] := by
  refine CtP_of (cc := cX0_whyNoPour) (nL := 2) (rt := some .int) (own := RX0) (lv0 := [(0, .ref (a 0)), (1, .int (nI p))]) (by decide) rfl (Nat.le_of_ble_eq_true rfl) rfl rfl ?_
  intro G C0 hF _
  have f42 : Cond.fieldLink RX0 42 "CorkPermits$Cellar" "waiting" "[I" ∈ wsX0_whyNoPour := by decide +kernel
  have iX0 : ∀ w ∈ u_ws RX0 TX0 14, w ∈ wsX0_whyNoPour := by decide +kernel
  have f48 : Cond.fieldLink RX0 48 "CorkPermits$Cellar" "post" "LCorkPermits$Post;" ∈ wsX0_whyNoPour := by decide +kernel
  refine J_aln C0 0 dX0_whyNoPour_0 (kk := ?_)
  refine J_get C0 iX0 0 0 12 f42 dX0_whyNoPour_1 (kk := ?_)
  refine J_iln C0 1 dX0_whyNoPour_4 (kk := ?_)
  refine J_iald C0 0 11 12 dX0_whyNoPour_5 (by omega) (kk := ?_)
  refine J_ifgt C0 11 dX0_whyNoPour_6 (kt := fun c1 => ?_) (kf := fun c1 => ?_)
  · refine J_aln C0 0 dX0_whyNoPour_11 (kk := ?_)
    refine J_iln C0 1 dX0_whyNoPour_12 (kk := ?_)
    refine J_callVd C0 (mX0_corks l K a F (p := p) (by omega)) [] [celW K a F] gX0_whyNoPour_X0_corks dX0_whyNoPour_13 1 0 (kk := ?_)
    show J G _ _ _ _ _ [.int (corksS F p)]
    refine J_ifgt C0 33 dX0_whyNoPour_16 (kt := fun c2 => ?_) (kf := fun c2 => ?_)
    · refine J_aln C0 0 dX0_whyNoPour_33 (kk := ?_)
      refine J_get C0 iX0 0 0 13 f48 dX0_whyNoPour_34 (kk := ?_)
      refine J_callVd C0 (mX3_hasRoom l K a F) [] [celW K a F] gX0_whyNoPour_X3_hasRoom dX0_whyNoPour_37 0 12 (kk := ?_)
      show J G _ _ _ _ _ [.int (if roomS F then nI 1 else nI 0)]
      refine J_ifeqB C0 47 dX0_whyNoPour_40 (kt := fun c3 => ?_) (kf := fun c3 => ?_)
      · refine J_ic C0 4 dX0_whyNoPour_47 (kk := ?_)
        exact J_iret C0 hF dX0_whyNoPour_48 ⟨by simp only [whyC, roomS, canLendS, c1, c2, c3, not_false_eq_true, not_true_eq_false, and_true, true_and, and_false, false_and, and_self, or_true, true_or, or_false, false_or, if_true, if_false, ite_true, ite_false, eq_self], rfl⟩
      · refine J_ic C0 0 dX0_whyNoPour_43 (kk := ?_)
        refine J_goto C0 48 dX0_whyNoPour_44 (kk := ?_)
        exact J_iret C0 hF dX0_whyNoPour_48 ⟨by simp only [whyC, roomS, canLendS, c1, c2, c3, not_false_eq_true, not_true_eq_false, and_true, true_and, and_false, false_and, and_self, or_true, true_or, or_false, false_or, if_true, if_false, ite_true, ite_false, eq_self], rfl⟩
    · refine J_aln C0 0 dX0_whyNoPour_19 (kk := ?_)
      refine J_iln C0 1 dX0_whyNoPour_20 (kk := ?_)
      refine J_callVd C0 (mX0_out l K a F (p := p) (by omega)) [] [celW K a F] gX0_whyNoPour_X0_out dX0_whyNoPour_21 1 0 (kk := ?_)
      show J G _ _ _ _ _ [.int (outS F p)]
      refine J_ifgt C0 31 dX0_whyNoPour_24 (kt := fun c4 => ?_) (kf := fun c4 => ?_)
      · refine J_ic C0 3 dX0_whyNoPour_31 (kk := ?_)
        exact J_iret C0 hF dX0_whyNoPour_32 ⟨by simp only [whyC, roomS, canLendS, c1, c2, c4, not_false_eq_true, not_true_eq_false, and_true, true_and, and_false, false_and, and_self, or_true, true_or, or_false, false_or, if_true, if_false, ite_true, ite_false, eq_self], rfl⟩
      · refine J_ic C0 2 dX0_whyNoPour_27 (kk := ?_)
        refine J_goto C0 32 dX0_whyNoPour_28 (kk := ?_)
        exact J_iret C0 hF dX0_whyNoPour_32 ⟨by simp only [whyC, roomS, canLendS, c1, c2, c4, not_false_eq_true, not_true_eq_false, and_true, true_and, and_false, false_and, and_self, or_true, true_or, or_false, false_or, if_true, if_false, ite_true, ite_false, eq_self], rfl⟩
  · refine J_ic C0 1 dX0_whyNoPour_9 (kk := ?_)
    exact J_iret C0 hF dX0_whyNoPour_10 ⟨by simp only [whyC, roomS, canLendS, c1, not_false_eq_true, not_true_eq_false, and_true, true_and, and_false, false_and, and_self, or_true, true_or, or_false, false_or, if_true, if_false, ite_true, ite_false, eq_self], rfl⟩

