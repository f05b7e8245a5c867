abbrev rmX0_takeInLetters : Room := { frames := 3, cells := 0, slots := 0, locals := 71 }
set_option maxHeartbeats 4000000 in
set_option maxRecDepth 100000 in
theorem mX0_takeInLetters (l : Launch) (K : KT) (a : Nat → Nat) {F : FF} (hSh : Sh F) : Ct l K yX0_takeInLetters wsX0_takeInLetters rmX0_takeInLetters [.ref (a 0)] [celW K a F] none [celW K a (takeC F)] := by
  refine CtP_of (cc := cX0_takeInLetters) (nL := 7) (rt := none) (own := RX0) (lv0 := [(0, .ref (a 0))]) (by decide) rfl (Nat.le_of_ble_eq_true rfl) rfl rfl ?_
  intro G C0 hF _
  obtain ⟨n, h40, hn⟩ := hSh.2.1
  have eN : nN (F 0 4) = n := by rw [hn]; exact nN_nI (by omega)
  have f48 : Cond.fieldLink RX0 48 "CorkPermits$Cellar" "post" "LCorkPermits$Post;" ∈ wsX0_takeInLetters := by decide +kernel
  have iX0 : ∀ w ∈ u_ws RX0 TX0 14, w ∈ wsX0_takeInLetters := by decide +kernel
  have f100 : Cond.fieldLink RX0 100 "CorkPermits$Post" "arrivals" "[I" ∈ wsX0_takeInLetters := by decide +kernel
  have iX3 : ∀ w ∈ u_ws RX3 TX3 7, w ∈ wsX0_takeInLetters := by decide +kernel
  have f52 : Cond.fieldLink RX0 52 "CorkPermits$Cellar" "time" "I" ∈ wsX0_takeInLetters := by decide +kernel
  have f103 : Cond.fieldLink RX0 103 "CorkPermits$Post" "sorts" "[I" ∈ wsX0_takeInLetters := by decide +kernel
  have f106 : Cond.fieldLink RX0 106 "CorkPermits$Post" "places" "[I" ∈ wsX0_takeInLetters := by decide +kernel
  have f109 : Cond.fieldLink RX0 109 "CorkPermits$Post" "numbers" "[I" ∈ wsX0_takeInLetters := by decide +kernel
  have f97 : Cond.fieldLink RX0 97 "CorkPermits$Post" "underWay" "I" ∈ wsX0_takeInLetters := by decide +kernel
  have lp : ∀ (k s r : Nat) (F1 : FF), s + k = n → n ≤ 40 → Sh F1 → r ≤ s → n - s ≤ nN (F1 0 4) - r → (iterT k (F1, r)).1 = takeC F → J G [celW K a F1] [(3, .int (nI s)), (2, .int (nI r)), (1, .int (nI n)), (0, .ref (a 0))] 0 0 12 [] := by
    clear hn eN
    generalize hTF : takeC F = TF at hF ⊢
    clear hSh h40
    generalize hm0 : n = m
    intro k
    clear hm0
    induction k with
    | zero =>
      intro s r F hk hm hSh hrs hcnt hT
      obtain ⟨n, h40, hn⟩ := hSh.2.1
      refine J_iln C0 0 dX0_takeInLetters_12 (kk := ?_)
      refine J_iln C0 2 dX0_takeInLetters_13 (kk := ?_)
      refine J_icmpgeN C0 102 (by omega) (by omega) dX0_takeInLetters_14 (kt := fun c1 => ?_) (kf := fun c1 => ?_)
      · exact J_vret C0 hF dX0_takeInLetters_102 ⟨rfl, congrArg (fun z => [celW K a z]) hT⟩
      · exfalso; omega
    | succ k ih =>
      intro s r F hk hm hSh hrs hcnt hT
      obtain ⟨n, h40, hn⟩ := hSh.2.1
      have eN : nN (F 0 4) = n := by rw [hn]; exact nN_nI (by omega)
      rw [eN] at hcnt
      have hr : r < n := by omega
      obtain ⟨⟨so, hso, eso⟩, p, hp, ep⟩ := hSh.2.2 r (by omega)
      refine J_iln C0 0 dX0_takeInLetters_12 (kk := ?_)
      refine J_iln C0 2 dX0_takeInLetters_13 (kk := ?_)
      refine J_icmpgeN C0 102 (by omega) (by omega) dX0_takeInLetters_14 (kt := fun c1 => ?_) (kf := fun c1 => ?_)
      · exfalso; omega
      · refine J_iln C0 1 dX0_takeInLetters_17 (kk := ?_)
        refine J_bi C0 40 dX0_takeInLetters_18 (kk := ?_)
        refine J_icmpgeN C0 102 (by omega) (by omega) dX0_takeInLetters_20 (kt := fun c2 => ?_) (kf := fun c2 => ?_)
        · exfalso; omega
        · refine J_aln C0 3 dX0_takeInLetters_23 (kk := ?_)
          refine J_get C0 iX0 0 0 13 f48 dX0_takeInLetters_24 (kk := ?_)
          refine J_get C0 iX3 0 12 6 f100 dX0_takeInLetters_27 (kk := ?_)
          refine J_iln C0 1 dX0_takeInLetters_30 (kk := ?_)
          refine J_iald C0 0 16 40 dX0_takeInLetters_31 (by omega) (kk := ?_)
          refine J_aln C0 3 dX0_takeInLetters_32 (kk := ?_)
          refine J_get C0 iX0 0 0 0 f52 dX0_takeInLetters_33 (kk := ?_)
          refine J_icmpne C0 93 dX0_takeInLetters_36 (kt := fun c3 => ?_) (kf := fun c3 => ?_)
          · refine J_iincN C0 1 [(2, .int (nI (r + 1))), (3, .int (nI s)), (1, .int (nI m)), (0, .ref (a 0))] dX0_takeInLetters_93 (kk := ?_)
            refine J_iincN C0 1 [(3, .int (nI (s + 1))), (2, .int (nI (r + 1))), (1, .int (nI m)), (0, .ref (a 0))] dX0_takeInLetters_96 (kk := ?_)
            refine J_goto C0 12 dX0_takeInLetters_99 (kk := ?_)
            exact J_lv [0, 1, 2, 3] rfl (ih (s + 1) (r + 1) F (by omega) hm hSh (by omega) (by omega) (by rw [← hT]; show _ = (iterT k (stepT (F, r))).1; rw [stepT_neg c3]))
          · refine J_aln C0 3 dX0_takeInLetters_39 (kk := ?_)
            refine J_get C0 iX0 0 0 13 f48 dX0_takeInLetters_40 (kk := ?_)
            refine J_get C0 iX3 0 12 3 f103 dX0_takeInLetters_43 (kk := ?_)
            refine J_iln C0 1 dX0_takeInLetters_46 (kk := ?_)
            refine J_iald C0 0 13 40 dX0_takeInLetters_47 (by omega) (v := (nI so)) (hv := eso) (kk := ?_)
            refine J_is C0 [(4, .int (nI so)), (3, .int (nI s)), (2, .int (nI r)), (1, .int (nI m)), (0, .ref (a 0))] dX0_takeInLetters_48 (kk := ?_)
            refine J_aln C0 4 dX0_takeInLetters_50 (kk := ?_)
            refine J_get C0 iX0 0 0 13 f48 dX0_takeInLetters_51 (kk := ?_)
            refine J_get C0 iX3 0 12 4 f106 dX0_takeInLetters_54 (kk := ?_)
            refine J_iln C0 2 dX0_takeInLetters_57 (kk := ?_)
            refine J_iald C0 0 14 40 dX0_takeInLetters_58 (by omega) (v := (nI p)) (hv := ep) (kk := ?_)
            refine J_is C0 [(5, .int (nI p)), (4, .int (nI so)), (3, .int (nI s)), (2, .int (nI r)), (1, .int (nI m)), (0, .ref (a 0))] dX0_takeInLetters_59 (kk := ?_)
            refine J_aln C0 5 dX0_takeInLetters_61 (kk := ?_)
            refine J_get C0 iX0 0 0 13 f48 dX0_takeInLetters_62 (kk := ?_)
            refine J_get C0 iX3 0 12 5 f109 dX0_takeInLetters_65 (kk := ?_)
            refine J_iln C0 3 dX0_takeInLetters_68 (kk := ?_)
            refine J_iald C0 0 15 40 dX0_takeInLetters_69 (by omega) (kk := ?_)
            refine J_is C0 [(6, .int (F 14 r)), (5, .int (nI p)), (4, .int (nI so)), (3, .int (nI s)), (2, .int (nI r)), (1, .int (nI m)), (0, .ref (a 0))] dX0_takeInLetters_70 (kk := ?_)
            refine J_aln C0 6 dX0_takeInLetters_72 (kk := ?_)
            refine J_get C0 iX0 0 0 13 f48 dX0_takeInLetters_73 (kk := ?_)
            refine J_iln C0 4 dX0_takeInLetters_76 (kk := ?_)
            refine J_callVd C0 (mX3_remove l K a F (n := n) (r := r) hn h40 hr) [] [celW K a (rmS F n r)] gX0_takeInLetters_X3_remove dX0_takeInLetters_77 1 12 (kk := ?_)
            show J G _ _ _ _ _ []
            refine J_aln C0 6 dX0_takeInLetters_80 (kk := ?_)
            refine J_il C0 2 dX0_takeInLetters_81 (kk := ?_)
            refine J_il C0 1 dX0_takeInLetters_83 (kk := ?_)
            refine J_il C0 0 dX0_takeInLetters_85 (kk := ?_)
            refine J_callVd C0 (mX0_readLetter l K a (rmS F n r) (n := n - 1) (p := p) (rm_04 F n r) (by omega) hp (F 14 r) hso) [] [celW K a (readC (rmS F n r) (n - 1) so p (F 14 r))] gX0_takeInLetters_X0_readLetter dX0_takeInLetters_87 3 0 (kk := ?_)
            show J G _ _ _ _ _ []
            refine J_goto C0 96 dX0_takeInLetters_90 (kk := ?_)
            refine J_iincN C0 3 [(3, .int (nI (s + 1))), (6, .int (F 14 r)), (5, .int (nI p)), (4, .int (nI so)), (2, .int (nI r)), (1, .int (nI m)), (0, .ref (a 0))] dX0_takeInLetters_96 (kk := ?_)
            refine J_goto C0 12 dX0_takeInLetters_99 (kk := ?_)
            exact J_lv [0, 4, 5, 6] rfl (ih (s + 1) r (readC (rmS F n r) (n - 1) so p (F 14 r)) (by omega) hm (sh_read (sh_rm hSh h40) (rm_04 F n r) (by omega) hp) (by omega) (by rcases read_let (F := rmS F n r) (n := n - 1) (so := so) (p := p) (nu := F 14 r) (rm_04 F n r) with q | q <;> (rw [q, nN_nI (by omega)]; omega)) (by rw [← hT]; show _ = (iterT k (stepT (F, r))).1; rw [stepT_pos c3 hn h40 eso hso ep hp]))
  refine J_aln C0 0 dX0_takeInLetters_0 (kk := ?_)
  refine J_get C0 iX0 0 0 13 f48 dX0_takeInLetters_1 (kk := ?_)
  refine J_get C0 iX3 0 12 2 f97 dX0_takeInLetters_4 (v := .int (nI n)) (hv := congrArg (fun z => some (Value.int z)) hn) (kk := ?_)
  refine J_isn C0 [(1, .int (nI n)), (0, .ref (a 0))] dX0_takeInLetters_7 (kk := ?_)
  refine J_ic C0 0 dX0_takeInLetters_8 (kk := ?_)
  refine J_isn C0 [(2, .int (nI 0)), (1, .int (nI n)), (0, .ref (a 0))] dX0_takeInLetters_9 (kk := ?_)
  refine J_ic C0 0 dX0_takeInLetters_10 (kk := ?_)
  refine J_isn C0 [(3, .int (nI 0)), (2, .int (nI 0)), (1, .int (nI n)), (0, .ref (a 0))] dX0_takeInLetters_11 (kk := ?_)
  exact J_lv [0, 1, 2, 3] rfl (lp n 0 0 F (by omega) h40 hSh (by omega) (by rw [eN]; omega) (by unfold takeC; rw [eN]))

abbrev rmX0_letHousesPour : Room := { frames := 2, cells := 0, slots := 0, locals := 48 }
set_option maxHeartbeats 4000000 in
set_option maxRecDepth 100000 in
theorem mX0_letHousesPour (l : Launch) (K : KT) (a : Nat → Nat) {F : FF} (hSh : Sh F) : Ct l K yX0_letHousesPour wsX0_letHousesPour rmX0_letHousesPour [.ref (a 0)] [celW K a F] none [celW K a (poursC F)] := by
  refine CtP_of (cc := cX0_letHousesPour) (nL := 2) (rt := none) (own := RX0) (lv0 := [(0, .ref (a 0))]) (by decide) rfl (Nat.le_of_ble_eq_true rfl) rfl rfl ?_
  intro G C0 hF _
  have f42 : Cond.fieldLink RX0 42 "CorkPermits$Cellar" "waiting" "[I" ∈ wsX0_letHousesPour := by decide +kernel
  have iX0 : ∀ w ∈ u_ws RX0 TX0 14, w ∈ wsX0_letHousesPour := by decide +kernel
  have f39 : Cond.fieldLink RX0 39 "CorkPermits$Cellar" "poured" "[I" ∈ wsX0_letHousesPour := by decide +kernel
  have lp : ∀ (k p : Nat) (F1 : FF), p + k = 12 → Sh F1 → iterP k p F1 = poursC F → J G [celW K a F1] [(1, .int (nI p)), (0, .ref (a 0))] 0 0 2 [] := by
    generalize hTF : poursC F = TF at hF ⊢
    clear hSh
    intro k
    induction k with
    | zero =>
      intro p F hk hSh hT
      have hp12 : p = 12 := by omega
      subst hp12
      refine J_iln C0 0 dX0_letHousesPour_2 (kk := ?_)
      refine J_bi C0 12 dX0_letHousesPour_3 (kk := ?_)
      refine J_icmpgeN C0 54 (by omega) (by omega) dX0_letHousesPour_5 (kt := fun c1 => ?_) (kf := fun c1 => ?_)
      · exact J_vret C0 hF dX0_letHousesPour_54 ⟨rfl, congrArg (fun z => [celW K a z]) hT⟩
      · exfalso; omega
    | succ k ih =>
      intro p F hk hSh hT
      obtain ⟨n, h40, hn⟩ := hSh.2.1
      refine J_iln C0 0 dX0_letHousesPour_2 (kk := ?_)
      refine J_bi C0 12 dX0_letHousesPour_3 (kk := ?_)
      refine J_icmpgeN C0 54 (by omega) (by omega) dX0_letHousesPour_5 (kt := fun c1 => ?_) (kf := fun c1 => ?_)
      · exfalso; omega
      · refine J_aln C0 1 dX0_letHousesPour_8 (kk := ?_)
        refine J_iln C0 0 dX0_letHousesPour_9 (kk := ?_)
        refine J_callVd C0 (mX0_whyNoPour l K a F (p := p) (by omega)) [] [celW K a F] gX0_letHousesPour_X0_whyNoPour dX0_letHousesPour_10 1 0 (kk := ?_)
        show J G _ _ _ _ _ [.int (whyC F p)]
        refine J_ifne C0 48 dX0_letHousesPour_13 (kt := fun c2 => ?_) (kf := fun c2 => ?_)
        · refine J_iincN C0 0 [(1, .int (nI (p + 1))), (0, .ref (a 0))] dX0_letHousesPour_48 (kk := ?_)
          refine J_goto C0 2 dX0_letHousesPour_51 (kk := ?_)
          exact J_lv [0, 1] rfl (ih (p + 1) F (by omega) hSh (by rw [← hT]; show _ = iterP k (p + 1) (pourStep F p); unfold pourStep; rw [if_neg c2]))
        · refine J_aln C0 1 dX0_letHousesPour_16 (kk := ?_)
          refine J_get C0 iX0 0 0 12 f42 dX0_letHousesPour_17 (kk := ?_)
          refine J_iln C0 0 dX0_letHousesPour_20 (kk := ?_)
          refine J_dup2 C0 dX0_letHousesPour_21 (kk := ?_)
          refine J_iald C0 0 11 12 dX0_letHousesPour_22 (by omega) (kk := ?_)
          refine J_ic C0 1 dX0_letHousesPour_23 (kk := ?_)
          refine J_isub C0 dX0_letHousesPour_24 ?_
          refine J_iast C0 0 11 12 [celW K a (u2 F 11 p ((F 11 p) - (nI 1)))] dX0_letHousesPour_25 (by omega) (kk := ?_)
          refine J_aln C0 1 dX0_letHousesPour_26 (kk := ?_)
          refine J_get C0 iX0 0 0 11 f39 dX0_letHousesPour_27 (kk := ?_)
          refine J_iln C0 0 dX0_letHousesPour_30 (kk := ?_)
          refine J_dup2 C0 dX0_letHousesPour_31 (kk := ?_)
          refine J_iald C0 0 10 12 dX0_letHousesPour_32 (by omega) (v := (F 10 p)) (hv := rfl) (kk := ?_)
          refine J_ic C0 1 dX0_letHousesPour_33 (kk := ?_)
          refine J_iadd C0 dX0_letHousesPour_34 ?_
          refine J_iast C0 0 10 12 [celW K a (u2 (u2 F 11 p ((F 11 p) - (nI 1))) 10 p ((F 10 p) + (nI 1)))] dX0_letHousesPour_35 (by omega) (kk := ?_)
          refine J_aln C0 1 dX0_letHousesPour_36 (kk := ?_)
          refine J_ic C0 1 dX0_letHousesPour_37 (kk := ?_)
          refine J_iln C0 0 dX0_letHousesPour_38 (kk := ?_)
          refine J_aln C0 1 dX0_letHousesPour_39 (kk := ?_)
          refine J_get C0 iX0 0 0 11 f39 dX0_letHousesPour_40 (kk := ?_)
          refine J_iln C0 0 dX0_letHousesPour_43 (kk := ?_)
          refine J_iald C0 0 10 12 dX0_letHousesPour_44 (by omega) (v := ((F 10 p) + (nI 1))) (hv := by first | rfl | exact u2_s _ _ _ _ | simp [u2, upd]) (kk := ?_)
          refine J_callVd C0 (mX0_sendLetter l K a (u2 (u2 F 11 p ((F 11 p) - (nI 1))) 10 p ((F 10 p) + (nI 1))) (n := n) hn (room_lt hn (why_room c2) h40) (nI 1) (nI p) ((F 10 p) + (nI 1))) [] [celW K a (sendS (u2 (u2 F 11 p ((F 11 p) - (nI 1))) 10 p ((F 10 p) + (nI 1))) n (nI 1) (nI p) ((F 10 p) + (nI 1)))] gX0_letHousesPour_X0_sendLetter dX0_letHousesPour_45 3 0 (kk := ?_)
          show J G _ _ _ _ _ []
          refine J_iincN C0 0 [(1, .int (nI (p + 1))), (0, .ref (a 0))] dX0_letHousesPour_48 (kk := ?_)
          refine J_goto C0 2 dX0_letHousesPour_51 (kk := ?_)
          exact J_lv [0, 1] rfl (ih (p + 1) (sendS (u2 (u2 F 11 p ((F 11 p) - (nI 1))) 10 p ((F 10 p) + (nI 1))) n (nI 1) (nI p) ((F 10 p) + (nI 1))) (by omega) (by have := sh_pourStep hSh (p := p) (by omega); unfold pourStep at this; rw [if_pos c2, hn, nN_nI (by omega)] at this; exact this) (by rw [← hT]; show _ = iterP k (p + 1) (pourStep F p); unfold pourStep; rw [if_pos c2, hn, nN_nI (by omega)]))
  refine J_ic C0 0 dX0_letHousesPour_0 (kk := ?_)
  refine J_isn C0 [(1, .int (nI 0)), (0, .ref (a 0))] dX0_letHousesPour_1 (kk := ?_)
  exact J_lv [0, 1] rfl (lp 12 0 F (by omega) hSh rfl)

abbrev rmX0_lendByItself : Room := { frames := 3, cells := 0, slots := 0, locals := 69 }
set_option maxHeartbeats 4000000 in
set_option maxRecDepth 100000 in
theorem mX0_lendByItself (l : Launch) (K : KT) (a : Nat → Nat) {F : FF} (hSh : Sh F) : Ct l K yX0_lendByItself wsX0_lendByItself rmX0_lendByItself [.ref (a 0)] [celW K a F] none [celW K a (lendsC F)] := by
  refine CtP_of (cc := cX0_lendByItself) (nL := 2) (rt := none) (own := RX0) (lv0 := [(0, .ref (a 0))]) (by decide) rfl (Nat.le_of_ble_eq_true rfl) rfl rfl ?_
  intro G C0 hF _
  obtain ⟨h, h4, hh⟩ := hSh.1
  have f56 : Cond.fieldLink RX0 56 "CorkPermits$Cellar" "houses" "I" ∈ wsX0_lendByItself := by decide +kernel
  have iX0 : ∀ w ∈ u_ws RX0 TX0 14, w ∈ wsX0_lendByItself := by decide +kernel
  have f9 : Cond.fieldLink RX0 9 "CorkPermits$Cellar" "settings" "[I" ∈ wsX0_lendByItself := by decide +kernel
  have lp : ∀ (k p : Nat) (F1 : FF), p + k = h * 3 → Sh F1 → F1 0 1 = nI h → iterL k p F1 = lendsC F → J G [celW K a F1] [(1, .int (nI p)), (0, .ref (a 0))] 0 0 2 [] := by
    generalize hTF : lendsC F = TF at hF ⊢
    clear hSh hh
    intro k
    induction k with
    | zero =>
      intro p F hk hSh hh hT
      refine J_iln C0 0 dX0_lendByItself_2 (kk := ?_)
      refine J_aln C0 1 dX0_lendByItself_3 (kk := ?_)
      refine J_get C0 iX0 0 0 1 f56 dX0_lendByItself_4 (v := .int (nI h)) (hv := congrArg (fun z => some (Value.int z)) hh) (kk := ?_)
      refine J_ic C0 3 dX0_lendByItself_7 (kk := ?_)
      refine J_imulN C0 dX0_lendByItself_8 ?_
      refine J_icmpgeN C0 53 (by omega) (by omega) dX0_lendByItself_9 (kt := fun c1 => ?_) (kf := fun c1 => ?_)
      · exact J_vret C0 hF dX0_lendByItself_53 ⟨rfl, congrArg (fun z => [celW K a z]) hT⟩
      · exfalso; omega
    | succ k ih =>
      intro p F hk hSh hh hT
      obtain ⟨n, h40, hn⟩ := hSh.2.1
      refine J_iln C0 0 dX0_lendByItself_2 (kk := ?_)
      refine J_aln C0 1 dX0_lendByItself_3 (kk := ?_)
      refine J_get C0 iX0 0 0 1 f56 dX0_lendByItself_4 (v := .int (nI h)) (hv := congrArg (fun z => some (Value.int z)) hh) (kk := ?_)
      refine J_ic C0 3 dX0_lendByItself_7 (kk := ?_)
      refine J_imulN C0 dX0_lendByItself_8 ?_
      refine J_icmpgeN C0 53 (by omega) (by omega) dX0_lendByItself_9 (kt := fun c1 => ?_) (kf := fun c1 => ?_)
      · exfalso; omega
      · refine J_iln C0 0 dX0_lendByItself_12 (kk := ?_)
        refine J_bi C0 12 dX0_lendByItself_13 (kk := ?_)
        refine J_icmpgeN C0 53 (by omega) (by omega) dX0_lendByItself_15 (kt := fun c2 => ?_) (kf := fun c2 => ?_)
        · exfalso; omega
        · refine J_aln C0 1 dX0_lendByItself_18 (kk := ?_)
          refine J_iln C0 0 dX0_lendByItself_19 (kk := ?_)
          refine J_callVd C0 (mX0_out l K a F (p := p) (by omega)) [] [celW K a F] gX0_lendByItself_X0_out dX0_lendByItself_20 1 0 (kk := ?_)
          show J G _ _ _ _ _ [.int (outS F p)]
          refine J_aln C0 1 dX0_lendByItself_23 (kk := ?_)
          refine J_get C0 iX0 0 0 2 f9 dX0_lendByItself_24 (kk := ?_)
          refine J_ic C0 2 dX0_lendByItself_27 (kk := ?_)
          refine J_iald C0 0 1 3 dX0_lendByItself_28 (by omega) (kk := ?_)
          refine J_icmpge C0 47 dX0_lendByItself_29 (kt := fun c3 => ?_) (kf := fun c3 => ?_)
          · refine J_iincN C0 0 [(1, .int (nI (p + 1))), (0, .ref (a 0))] dX0_lendByItself_47 (kk := ?_)
            refine J_goto C0 2 dX0_lendByItself_50 (kk := ?_)
            exact J_lv [0, 1] rfl (ih (p + 1) F (by omega) hSh hh (by rw [← hT]; show _ = iterL k (p + 1) (lendStep F p); unfold lendStep; rw [if_neg (fun q => q.1 c3)]))
          · refine J_aln C0 1 dX0_lendByItself_32 (kk := ?_)
            refine J_iln C0 0 dX0_lendByItself_33 (kk := ?_)
            refine J_ic C0 3 dX0_lendByItself_34 (kk := ?_)
            refine J_iremN C0 (by omega) (by omega) (by omega) dX0_lendByItself_35 ?_
            refine J_callVd C0 (mX0_canLend l K a F (k := p % 3) (by omega)) [] [celW K a F] gX0_lendByItself_X0_canLend dX0_lendByItself_36 1 0 (kk := ?_)
            show J G _ _ _ _ _ [.int (if canLendS F (p % 3) then nI 1 else nI 0)]
            refine J_ifeqB C0 47 dX0_lendByItself_39 (kt := fun c4 => ?_) (kf := fun c4 => ?_)
            · refine J_iincN C0 0 [(1, .int (nI (p + 1))), (0, .ref (a 0))] dX0_lendByItself_47 (kk := ?_)
              refine J_goto C0 2 dX0_lendByItself_50 (kk := ?_)
              exact J_lv [0, 1] rfl (ih (p + 1) F (by omega) hSh hh (by rw [← hT]; show _ = iterL k (p + 1) (lendStep F p); unfold lendStep; rw [if_neg (fun q => c4 q.2)]))
            · refine J_aln C0 1 dX0_lendByItself_42 (kk := ?_)
              refine J_iln C0 0 dX0_lendByItself_43 (kk := ?_)
              refine J_callVd C0 (mX0_lendCork l K a F (n := n) hn (room_lt hn c4.2 h40) (p := p) (by omega)) [] [celW K a (lendS F n p)] gX0_lendByItself_X0_lendCork dX0_lendByItself_44 1 0 (kk := ?_)
              show J G _ _ _ _ _ []
              refine J_iincN C0 0 [(1, .int (nI (p + 1))), (0, .ref (a 0))] dX0_lendByItself_47 (kk := ?_)
              refine J_goto C0 2 dX0_lendByItself_50 (kk := ?_)
              exact J_lv [0, 1] rfl (ih (p + 1) (lendS F n p) (by omega) (by have := sh_lendStep hSh (p := p) (by omega); unfold lendStep at this; rw [if_pos ⟨c3, c4⟩, hn, nN_nI (by omega)] at this; exact this) (by have := lendStep_01 F p; unfold lendStep at this; rw [if_pos ⟨c3, c4⟩, hn, nN_nI (by omega)] at this; rw [this]; exact hh) (by rw [← hT]; show _ = iterL k (p + 1) (lendStep F p); unfold lendStep; rw [if_pos ⟨c3, c4⟩, hn, nN_nI (by omega)]))
  refine J_ic C0 0 dX0_lendByItself_0 (kk := ?_)
  refine J_isn C0 [(1, .int (nI 0)), (0, .ref (a 0))] dX0_lendByItself_1 (kk := ?_)
  exact J_lv [0, 1] rfl (lp (h * 3) 0 F (by omega) hSh hh (by unfold lendsC; rw [hh, nN_nI (by omega)]))

abbrev rmX0_letGoBy : Room := { frames := 4, cells := 0, slots := 0, locals := 97 }
set_option maxHeartbeats 4000000 in
set_option maxRecDepth 100000 in
theorem mX0_letGoBy (l : Launch) (K : KT) (a : Nat → Nat) {F : FF} (hSh : Sh F) {t : Nat} (ht : t ≤ 100000) : Ct l K yX0_letGoBy wsX0_letGoBy rmX0_letGoBy [.ref (a 0), .int (nI t)] [celW K a F] none [celW K a (ticksC t F)] := by
  refine CtP_of (cc := cX0_letGoBy) (nL := 3) (rt := none) (own := RX0) (lv0 := [(0, .ref (a 0)), (1, .int (nI t))]) (by decide) rfl (Nat.le_of_ble_eq_true rfl) rfl rfl ?_
  intro G C0 hF _
  have f52 : Cond.fieldLink RX0 52 "CorkPermits$Cellar" "time" "I" ∈ wsX0_letGoBy := by decide +kernel
  have iX0 : ∀ w ∈ u_ws RX0 TX0 14, w ∈ wsX0_letGoBy := by decide +kernel
  have lp : ∀ (k g : Nat) (F1 : FF), g + k = t → Sh F1 → ticksC k F1 = ticksC t F → J G [celW K a F1] [(2, .int (nI g)), (1, .int (nI t)), (0, .ref (a 0))] 0 0 2 [] := by
    generalize hTF : ticksC t F = TF at hF ⊢
    clear hSh
    intro k
    induction k with
    | zero =>
      intro g F hk hSh hT
      refine J_iln C0 0 dX0_letGoBy_2 (kk := ?_)
      refine J_iln C0 1 dX0_letGoBy_3 (kk := ?_)
      refine J_icmpgeN C0 35 (by omega) (by omega) dX0_letGoBy_4 (kt := fun c1 => ?_) (kf := fun c1 => ?_)
      · exact J_vret C0 hF dX0_letGoBy_35 ⟨rfl, congrArg (fun z => [celW K a z]) hT⟩
      · exfalso; omega
    | succ k ih =>
      intro g F hk hSh hT
      have hSh1 := sh_u2 hSh (i := 0) (j := 0) (x := F 0 0 + nI 1) (by omega) (by omega) (by omega)
      have hSh2 := sh_takeC hSh1
      have hSh3 : Sh (poursC (takeC (u2 F 0 0 (F 0 0 + nI 1)))) := sh_iterP 12 0 _ hSh2 (by decide)
      refine J_iln C0 0 dX0_letGoBy_2 (kk := ?_)
      refine J_iln C0 1 dX0_letGoBy_3 (kk := ?_)
      refine J_icmpgeN C0 35 (by omega) (by omega) dX0_letGoBy_4 (kt := fun c1 => ?_) (kf := fun c1 => ?_)
      · exfalso; omega
      · refine J_aln C0 2 dX0_letGoBy_7 (kk := ?_)
        refine J_dup C0 dX0_letGoBy_8 (kk := ?_)
        refine J_get C0 iX0 0 0 0 f52 dX0_letGoBy_9 (kk := ?_)
        refine J_ic C0 1 dX0_letGoBy_12 (kk := ?_)
        refine J_iadd C0 dX0_letGoBy_13 ?_
        refine J_put C0 iX0 tyX0_ok nmX0 0 0 0 [celW K a (u2 F 0 0 ((F 0 0) + (nI 1)))] f52 dX0_letGoBy_14 (hd := rfl) (kk := ?_)
        refine J_aln C0 2 dX0_letGoBy_17 (kk := ?_)
        refine J_callVd C0 (mX0_takeInLetters l K a (F := (u2 F 0 0 ((F 0 0) + (nI 1)))) hSh1) [] [celW K a (takeC (u2 F 0 0 ((F 0 0) + (nI 1))))] gX0_letGoBy_X0_takeInLetters dX0_letGoBy_18 0 0 (kk := ?_)
        show J G _ _ _ _ _ []
        refine J_aln C0 2 dX0_letGoBy_21 (kk := ?_)
        refine J_callVd C0 (mX0_letHousesPour l K a (F := (takeC (u2 F 0 0 ((F 0 0) + (nI 1))))) hSh2) [] [celW K a (poursC (takeC (u2 F 0 0 ((F 0 0) + (nI 1)))))] gX0_letGoBy_X0_letHousesPour dX0_letGoBy_22 0 0 (kk := ?_)
        show J G _ _ _ _ _ []
        refine J_aln C0 2 dX0_letGoBy_25 (kk := ?_)
        refine J_callVd C0 (mX0_lendByItself l K a (F := (poursC (takeC (u2 F 0 0 ((F 0 0) + (nI 1)))))) hSh3) [] [celW K a (lendsC (poursC (takeC (u2 F 0 0 ((F 0 0) + (nI 1))))))] gX0_letGoBy_X0_lendByItself dX0_letGoBy_26 0 0 (kk := ?_)
        show J G _ _ _ _ _ []
        refine J_iincN C0 0 [(2, .int (nI (g + 1))), (1, .int (nI t)), (0, .ref (a 0))] dX0_letGoBy_29 (kk := ?_)
        refine J_goto C0 2 dX0_letGoBy_32 (kk := ?_)
        exact J_lv [0, 1, 2] rfl (ih (g + 1) (lendsC (poursC (takeC (u2 F 0 0 ((F 0 0) + (nI 1)))))) (by omega) (sh_tickC hSh) hT)
  refine J_ic C0 0 dX0_letGoBy_0 (kk := ?_)
  refine J_isn C0 [(2, .int (nI 0)), (0, .ref (a 0)), (1, .int (nI t))] dX0_letGoBy_1 (kk := ?_)
  exact J_lv [0, 2, 1] rfl (lp t 0 F (by omega) hSh rfl)

