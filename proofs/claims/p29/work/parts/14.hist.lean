theorem J_eqw {G : JC} {bs bs2 : List va_W} {lv : List (Nat × Value)} {cells slots pc : Nat} {st : List Value} (h : bs = bs2) (kk : J G bs2 lv cells slots pc st) : J G bs lv cells slots pc st := h ▸ kk
abbrev rmX2_dropOldest : Room := { frames := 0, cells := 0, slots := 0, locals := 0 }
theorem drop_eq (e : Nat → Nat → Nat) : (va_up (va_up (va_up (va_up (va_up (va_up (fun i => some (e i 0)) 0 (some (e 1 0))) 1 (some (e 2 0))) 2 (some (e 3 0))) 3 (some (e 4 0))) 4 (some (e 5 0))) 5 (some (e 0 0))) = fun i => some (rotA e i 0) := by
  funext i
  by_cases h : i < 6
  · rcases (show i = 0 ∨ i = 1 ∨ i = 2 ∨ i = 3 ∨ i = 4 ∨ i = 5 by omega) with rfl | rfl | rfl | rfl | rfl | rfl <;> rfl
  · have h1 : ¬ i < 5 := by omega
    have h2 : ¬ i = 5 := by omega
    simp only [va_up, rotA, h1, h2, if_false]
    repeat' rw [if_neg (by omega)]
set_option maxHeartbeats 4000000 in
set_option maxRecDepth 100000 in
theorem mX2_dropOldest (l : Launch) (K : KT) (b nA aA : Nat → Nat) (d e : Nat → Nat → Nat) (F Ga : FF) (D S : Nat → FF) (T : FF) : Ct l K yX2_dropOldest wsX2_dropOldest rmX2_dropOldest [.ref (b 3)] (corkW K b nA aA d e F Ga D S T) none (corkW K b nA aA d (rotA e) F Ga D (rotA S) (u2 T 0 0 (nI 5))) := by
  refine CtP_of (cc := cX2_dropOldest) (nL := 3) (rt := none) (own := RX2) (lv0 := [(0, .ref (b 3))]) (by decide) rfl (Nat.le_of_ble_eq_true rfl) rfl rfl ?_
  intro G C0 hF _
  have f11 : Cond.fieldLink RX2 11 "CorkPermits$History" "states" "[LCorkPermits$Cellar;" ∈ wsX2_dropOldest := by decide +kernel
  have iX2 : ∀ w ∈ u_ws RX2 TX2 2, w ∈ wsX2_dropOldest := by decide +kernel
  have f18 : Cond.fieldLink RX2 18 "CorkPermits$History" "size" "I" ∈ wsX2_dropOldest := by decide +kernel
  refine J_aln C0 0 dX2_dropOldest_0 (kk := ?_)
  refine J_get C0 iX2 0 3 0 f11 dX2_dropOldest_1 (kk := ?_)
  refine J_ic C0 0 dX2_dropOldest_4 (kk := ?_)
  refine J_aald C0 0 4 6 dX2_dropOldest_5 (by omega) (r := e 0 0) (kk := ?_)
  refine J_asn C0 [(1, .ref (e 0 0)), (0, .ref (b 3))] dX2_dropOldest_6 (kk := ?_)
  refine J_ic C0 1 dX2_dropOldest_7 (kk := ?_)
  refine J_isn C0 [(2, .int (nI 1)), (1, .ref (e 0 0)), (0, .ref (b 3))] dX2_dropOldest_8 (kk := ?_)
  refine J_iln C0 0 dX2_dropOldest_9 (kk := ?_)
  refine J_bi C0 6 dX2_dropOldest_10 (kk := ?_)
  refine J_icmpgeN C0 35 (by omega) (by omega) dX2_dropOldest_12 (kt := fun c1 => ?_) (kf := fun c1 => ?_)
  · exfalso; omega
  · refine J_aln C0 2 dX2_dropOldest_15 (kk := ?_)
    refine J_get C0 iX2 0 3 0 f11 dX2_dropOldest_16 (kk := ?_)
    refine J_iln C0 0 dX2_dropOldest_19 (kk := ?_)
    refine J_ic C0 1 dX2_dropOldest_20 (kk := ?_)
    refine J_isubN C0 (by omega) dX2_dropOldest_21 ?_
    refine J_aln C0 2 dX2_dropOldest_22 (kk := ?_)
    refine J_get C0 iX2 0 3 0 f11 dX2_dropOldest_23 (kk := ?_)
    refine J_iln C0 0 dX2_dropOldest_26 (kk := ?_)
    refine J_aald C0 0 4 6 dX2_dropOldest_27 (by omega) (r := e 1 0) (kk := ?_)
    refine J_aast C0 0 4 6 0 6 [mainW K b (nA 0) (aA 0) (fun i => some (d i 0)) (va_up (fun i => some (e i 0)) 0 (some (e 1 0))) T, celW K nA F, celW K aA Ga, celW K (d 0) (D 0), celW K (d 1) (D 1), celW K (e 0) (S 0), celW K (e 1) (S 1), celW K (e 2) (S 2), celW K (e 3) (S 3), celW K (e 4) (S 4), celW K (e 5) (S 5)] dX2_dropOldest_28 (by omega) (kk := ?_)
    refine J_iincN C0 0 [(2, .int (nI 2)), (1, .ref (e 0 0)), (0, .ref (b 3))] dX2_dropOldest_29 (kk := ?_)
    refine J_goto C0 9 dX2_dropOldest_32 (kk := ?_)
    refine J_iln C0 0 dX2_dropOldest_9 (kk := ?_)
    refine J_bi C0 6 dX2_dropOldest_10 (kk := ?_)
    refine J_icmpgeN C0 35 (by omega) (by omega) dX2_dropOldest_12 (kt := fun c2 => ?_) (kf := fun c2 => ?_)
    · exfalso; omega
    · refine J_aln C0 2 dX2_dropOldest_15 (kk := ?_)
      refine J_get C0 iX2 0 3 0 f11 dX2_dropOldest_16 (kk := ?_)
      refine J_iln C0 0 dX2_dropOldest_19 (kk := ?_)
      refine J_ic C0 1 dX2_dropOldest_20 (kk := ?_)
      refine J_isubN C0 (by omega) dX2_dropOldest_21 ?_
      refine J_aln C0 2 dX2_dropOldest_22 (kk := ?_)
      refine J_get C0 iX2 0 3 0 f11 dX2_dropOldest_23 (kk := ?_)
      refine J_iln C0 0 dX2_dropOldest_26 (kk := ?_)
      refine J_aald C0 0 4 6 dX2_dropOldest_27 (by omega) (r := e 2 0) (kk := ?_)
      refine J_aast C0 0 4 7 0 6 [mainW K b (nA 0) (aA 0) (fun i => some (d i 0)) (va_up (va_up (fun i => some (e i 0)) 0 (some (e 1 0))) 1 (some (e 2 0))) T, celW K nA F, celW K aA Ga, celW K (d 0) (D 0), celW K (d 1) (D 1), celW K (e 0) (S 0), celW K (e 1) (S 1), celW K (e 2) (S 2), celW K (e 3) (S 3), celW K (e 4) (S 4), celW K (e 5) (S 5)] dX2_dropOldest_28 (by omega) (kk := ?_)
      refine J_iincN C0 0 [(2, .int (nI 3)), (1, .ref (e 0 0)), (0, .ref (b 3))] dX2_dropOldest_29 (kk := ?_)
      refine J_goto C0 9 dX2_dropOldest_32 (kk := ?_)
      refine J_iln C0 0 dX2_dropOldest_9 (kk := ?_)
      refine J_bi C0 6 dX2_dropOldest_10 (kk := ?_)
      refine J_icmpgeN C0 35 (by omega) (by omega) dX2_dropOldest_12 (kt := fun c3 => ?_) (kf := fun c3 => ?_)
      · exfalso; omega
      · refine J_aln C0 2 dX2_dropOldest_15 (kk := ?_)
        refine J_get C0 iX2 0 3 0 f11 dX2_dropOldest_16 (kk := ?_)
        refine J_iln C0 0 dX2_dropOldest_19 (kk := ?_)
        refine J_ic C0 1 dX2_dropOldest_20 (kk := ?_)
        refine J_isubN C0 (by omega) dX2_dropOldest_21 ?_
        refine J_aln C0 2 dX2_dropOldest_22 (kk := ?_)
        refine J_get C0 iX2 0 3 0 f11 dX2_dropOldest_23 (kk := ?_)
        refine J_iln C0 0 dX2_dropOldest_26 (kk := ?_)
        refine J_aald C0 0 4 6 dX2_dropOldest_27 (by omega) (r := e 3 0) (kk := ?_)
        refine J_aast C0 0 4 8 0 6 [mainW K b (nA 0) (aA 0) (fun i => some (d i 0)) (va_up (va_up (va_up (fun i => some (e i 0)) 0 (some (e 1 0))) 1 (some (e 2 0))) 2 (some (e 3 0))) T, celW K nA F, celW K aA Ga, celW K (d 0) (D 0), celW K (d 1) (D 1), celW K (e 0) (S 0), celW K (e 1) (S 1), celW K (e 2) (S 2), celW K (e 3) (S 3), celW K (e 4) (S 4), celW K (e 5) (S 5)] dX2_dropOldest_28 (by omega) (kk := ?_)
        refine J_iincN C0 0 [(2, .int (nI 4)), (1, .ref (e 0 0)), (0, .ref (b 3))] dX2_dropOldest_29 (kk := ?_)
        refine J_goto C0 9 dX2_dropOldest_32 (kk := ?_)
        refine J_iln C0 0 dX2_dropOldest_9 (kk := ?_)
        refine J_bi C0 6 dX2_dropOldest_10 (kk := ?_)
        refine J_icmpgeN C0 35 (by omega) (by omega) dX2_dropOldest_12 (kt := fun c4 => ?_) (kf := fun c4 => ?_)
        · exfalso; omega
        · refine J_aln C0 2 dX2_dropOldest_15 (kk := ?_)
          refine J_get C0 iX2 0 3 0 f11 dX2_dropOldest_16 (kk := ?_)
          refine J_iln C0 0 dX2_dropOldest_19 (kk := ?_)
          refine J_ic C0 1 dX2_dropOldest_20 (kk := ?_)
          refine J_isubN C0 (by omega) dX2_dropOldest_21 ?_
          refine J_aln C0 2 dX2_dropOldest_22 (kk := ?_)
          refine J_get C0 iX2 0 3 0 f11 dX2_dropOldest_23 (kk := ?_)
          refine J_iln C0 0 dX2_dropOldest_26 (kk := ?_)
          refine J_aald C0 0 4 6 dX2_dropOldest_27 (by omega) (r := e 4 0) (kk := ?_)
          refine J_aast C0 0 4 9 0 6 [mainW K b (nA 0) (aA 0) (fun i => some (d i 0)) (va_up (va_up (va_up (va_up (fun i => some (e i 0)) 0 (some (e 1 0))) 1 (some (e 2 0))) 2 (some (e 3 0))) 3 (some (e 4 0))) T, celW K nA F, celW K aA Ga, celW K (d 0) (D 0), celW K (d 1) (D 1), celW K (e 0) (S 0), celW K (e 1) (S 1), celW K (e 2) (S 2), celW K (e 3) (S 3), celW K (e 4) (S 4), celW K (e 5) (S 5)] dX2_dropOldest_28 (by omega) (kk := ?_)
          refine J_iincN C0 0 [(2, .int (nI 5)), (1, .ref (e 0 0)), (0, .ref (b 3))] dX2_dropOldest_29 (kk := ?_)
          refine J_goto C0 9 dX2_dropOldest_32 (kk := ?_)
          refine J_iln C0 0 dX2_dropOldest_9 (kk := ?_)
          refine J_bi C0 6 dX2_dropOldest_10 (kk := ?_)
          refine J_icmpgeN C0 35 (by omega) (by omega) dX2_dropOldest_12 (kt := fun c5 => ?_) (kf := fun c5 => ?_)
          · exfalso; omega
          · refine J_aln C0 2 dX2_dropOldest_15 (kk := ?_)
            refine J_get C0 iX2 0 3 0 f11 dX2_dropOldest_16 (kk := ?_)
            refine J_iln C0 0 dX2_dropOldest_19 (kk := ?_)
            refine J_ic C0 1 dX2_dropOldest_20 (kk := ?_)
            refine J_isubN C0 (by omega) dX2_dropOldest_21 ?_
            refine J_aln C0 2 dX2_dropOldest_22 (kk := ?_)
            refine J_get C0 iX2 0 3 0 f11 dX2_dropOldest_23 (kk := ?_)
            refine J_iln C0 0 dX2_dropOldest_26 (kk := ?_)
            refine J_aald C0 0 4 6 dX2_dropOldest_27 (by omega) (r := e 5 0) (kk := ?_)
            refine J_aast C0 0 4 10 0 6 [mainW K b (nA 0) (aA 0) (fun i => some (d i 0)) (va_up (va_up (va_up (va_up (va_up (fun i => some (e i 0)) 0 (some (e 1 0))) 1 (some (e 2 0))) 2 (some (e 3 0))) 3 (some (e 4 0))) 4 (some (e 5 0))) T, celW K nA F, celW K aA Ga, celW K (d 0) (D 0), celW K (d 1) (D 1), celW K (e 0) (S 0), celW K (e 1) (S 1), celW K (e 2) (S 2), celW K (e 3) (S 3), celW K (e 4) (S 4), celW K (e 5) (S 5)] dX2_dropOldest_28 (by omega) (kk := ?_)
            refine J_iincN C0 0 [(2, .int (nI 6)), (1, .ref (e 0 0)), (0, .ref (b 3))] dX2_dropOldest_29 (kk := ?_)
            refine J_goto C0 9 dX2_dropOldest_32 (kk := ?_)
            refine J_iln C0 0 dX2_dropOldest_9 (kk := ?_)
            refine J_bi C0 6 dX2_dropOldest_10 (kk := ?_)
            refine J_icmpgeN C0 35 (by omega) (by omega) dX2_dropOldest_12 (kt := fun c6 => ?_) (kf := fun c6 => ?_)
            · refine J_aln C0 2 dX2_dropOldest_35 (kk := ?_)
              refine J_get C0 iX2 0 3 0 f11 dX2_dropOldest_36 (kk := ?_)
              refine J_ic C0 5 dX2_dropOldest_39 (kk := ?_)
              refine J_aln C0 1 dX2_dropOldest_40 (kk := ?_)
              refine J_aast C0 0 4 5 0 6 [mainW K b (nA 0) (aA 0) (fun i => some (d i 0)) (va_up (va_up (va_up (va_up (va_up (va_up (fun i => some (e i 0)) 0 (some (e 1 0))) 1 (some (e 2 0))) 2 (some (e 3 0))) 3 (some (e 4 0))) 4 (some (e 5 0))) 5 (some (e 0 0))) T, celW K nA F, celW K aA Ga, celW K (d 0) (D 0), celW K (d 1) (D 1), celW K (e 0) (S 0), celW K (e 1) (S 1), celW K (e 2) (S 2), celW K (e 3) (S 3), celW K (e 4) (S 4), celW K (e 5) (S 5)] dX2_dropOldest_41 (by omega) (kk := ?_)
              refine J_aln C0 2 dX2_dropOldest_42 (kk := ?_)
              refine J_ic C0 5 dX2_dropOldest_43 (kk := ?_)
              refine J_put C0 iX2 tyX2_ok nmX2 0 3 1 [mainW K b (nA 0) (aA 0) (fun i => some (d i 0)) (va_up (va_up (va_up (va_up (va_up (va_up (fun i => some (e i 0)) 0 (some (e 1 0))) 1 (some (e 2 0))) 2 (some (e 3 0))) 3 (some (e 4 0))) 4 (some (e 5 0))) 5 (some (e 0 0))) (u2 T 0 0 (nI 5)), celW K nA F, celW K aA Ga, celW K (d 0) (D 0), celW K (d 1) (D 1), celW K (e 0) (S 0), celW K (e 1) (S 1), celW K (e 2) (S 2), celW K (e 3) (S 3), celW K (e 4) (S 4), celW K (e 5) (S 5)] f18 dX2_dropOldest_44 (hd := rfl) (kk := ?_)
              refine J_eqw (congrArg (fun z => [mainW K b (nA 0) (aA 0) (fun i => some (d i 0)) z (u2 T 0 0 (nI 5)), celW K nA F, celW K aA Ga, celW K (d 0) (D 0), celW K (d 1) (D 1), celW K (e 0) (S 0), celW K (e 1) (S 1), celW K (e 2) (S 2), celW K (e 3) (S 3), celW K (e 4) (S 4), celW K (e 5) (S 5)]) (drop_eq e)) ?_
              refine J_perm (permI [0, 1, 2, 3, 4, 6, 7, 8, 9, 10, 5] 11 rfl (by decide +kernel) rfl : List.Perm _ (corkW K b nA aA d (rotA e) F Ga D (rotA S) (u2 T 0 0 (nI 5)))) ?_
              exact J_vret C0 hF dX2_dropOldest_47 ⟨rfl, rfl⟩
            · exfalso; omega

abbrev rmX2_push : Room := { frames := 3, cells := 0, slots := 0, locals := 82 }
def pushE {α : Type} (k : Nat) (e : Nat → α) : Nat → α := if k < 6 then e else rotA e
def pushS (k : Nat) (S : Nat → FF) (F : FF) : Nat → FF := if k < 6 then va_up S k F else va_up (rotA S) 5 F
def pushN (k : Nat) : Nat := if k < 6 then k + 1 else 6
def pushT (k : Nat) (T : FF) : FF := if k < 6 then u2 T 0 0 (nI (k + 1)) else u2 (u2 T 0 0 (nI 5)) 0 0 (nI 6)
set_option maxHeartbeats 4000000 in
set_option maxRecDepth 100000 in
theorem mX2_push_0 (l : Launch) (K : KT) (b nA aA : Nat → Nat) (d e : Nat → Nat → Nat) (F Ga : FF) (D S : Nat → FF) (T : FF) (hk : T 0 0 = nI 0) : Ct l K yX2_push wsX2_push rmX2_push [.ref (b 3), .ref (nA 0)] (corkW K b nA aA d e F Ga D S T) none (corkW K b nA aA d (pushE 0 e) F Ga D (pushS 0 S F) (pushT 0 T)) := by
  refine CtP_of (cc := cX2_push) (nL := 2) (rt := none) (own := RX2) (lv0 := [(0, .ref (b 3)), (1, .ref (nA 0))]) (by decide) rfl (Nat.le_of_ble_eq_true rfl) rfl rfl ?_
  intro G C0 hF _
  have f18 : Cond.fieldLink RX2 18 "CorkPermits$History" "size" "I" ∈ wsX2_push := by decide +kernel
  have iX2 : ∀ w ∈ u_ws RX2 TX2 2, w ∈ wsX2_push := by decide +kernel
  have f11 : Cond.fieldLink RX2 11 "CorkPermits$History" "states" "[LCorkPermits$Cellar;" ∈ wsX2_push := by decide +kernel
  refine J_aln C0 0 dX2_push_0 (kk := ?_)
  refine J_get C0 iX2 0 3 1 f18 dX2_push_1 (v := .int (nI 0)) (hv := congrArg (fun z => some (Value.int z)) hk) (kk := ?_)
  refine J_bi C0 6 dX2_push_4 (kk := ?_)
  refine J_icmpltN C0 13 (by omega) (by omega) dX2_push_6 (kt := fun c1 => ?_) (kf := fun c1 => ?_)
  · refine J_aln C0 0 dX2_push_13 (kk := ?_)
    refine J_get C0 iX2 0 3 0 f11 dX2_push_14 (kk := ?_)
    refine J_aln C0 0 dX2_push_17 (kk := ?_)
    refine J_get C0 iX2 0 3 1 f18 dX2_push_18 (v := .int (nI 0)) (hv := congrArg (fun z => some (Value.int z)) hk) (kk := ?_)
    refine J_aald C0 0 4 6 dX2_push_21 (by omega) (r := e 0 0) (kk := ?_)
    refine J_aln C0 1 dX2_push_22 (kk := ?_)
    refine J_perm (permI [0, 2, 3, 4, 6, 7, 8, 9, 10, 5, 1] 11 rfl (by decide +kernel) rfl : List.Perm _ ([mainW K b (nA 0) (aA 0) (fun i => some (d i 0)) (fun i => some (e i 0)) T, celW K aA Ga, celW K (d 0) (D 0), celW K (d 1) (D 1), celW K (e 1) (S 1), celW K (e 2) (S 2), celW K (e 3) (S 3), celW K (e 4) (S 4), celW K (e 5) (S 5), celW K (e 0) (S 0), celW K nA F])) ?_
    refine J_callVd C0 (mX0_copyFrom l K (e 0) nA (S 0) F) [mainW K b (nA 0) (aA 0) (fun i => some (d i 0)) (fun i => some (e i 0)) T, celW K aA Ga, celW K (d 0) (D 0), celW K (d 1) (D 1), celW K (e 1) (S 1), celW K (e 2) (S 2), celW K (e 3) (S 3), celW K (e 4) (S 4), celW K (e 5) (S 5)] [mainW K b (nA 0) (aA 0) (fun i => some (d i 0)) (fun i => some (e i 0)) T, celW K aA Ga, celW K (d 0) (D 0), celW K (d 1) (D 1), celW K (e 1) (S 1), celW K (e 2) (S 2), celW K (e 3) (S 3), celW K (e 4) (S 4), celW K (e 5) (S 5), celW K (e 0) F, celW K nA F] gX2_push_X0_copyFrom dX2_push_23 1 0 (kk := ?_)
    refine J_perm (permI [0, 10, 1, 2, 3, 9, 4, 5, 6, 7, 8] 11 rfl (by decide +kernel) rfl : List.Perm _ (corkW K b nA aA d e F Ga D (va_up S 0 F) T)) ?_
    show J G _ _ _ _ _ []
    refine J_aln C0 0 dX2_push_26 (kk := ?_)
    refine J_dup C0 dX2_push_27 (kk := ?_)
    refine J_get C0 iX2 0 3 1 f18 dX2_push_28 (v := .int (nI 0)) (hv := congrArg (fun z => some (Value.int z)) hk) (kk := ?_)
    refine J_ic C0 1 dX2_push_31 (kk := ?_)
    refine J_iaddN C0 dX2_push_32 ?_
    refine J_put C0 iX2 tyX2_ok nmX2 0 3 1 (corkW K b nA aA d e F Ga D (va_up S 0 F) (u2 T 0 0 (nI 1))) f18 dX2_push_33 (hd := rfl) (kk := ?_)
    exact J_vret C0 hF dX2_push_36 ⟨rfl, rfl⟩
  · exfalso; omega

set_option maxHeartbeats 4000000 in
set_option maxRecDepth 100000 in
theorem mX2_push_1 (l : Launch) (K : KT) (b nA aA : Nat → Nat) (d e : Nat → Nat → Nat) (F Ga : FF) (D S : Nat → FF) (T : FF) (hk : T 0 0 = nI 1) : Ct l K yX2_push wsX2_push rmX2_push [.ref (b 3), .ref (nA 0)] (corkW K b nA aA d e F Ga D S T) none (corkW K b nA aA d (pushE 1 e) F Ga D (pushS 1 S F) (pushT 1 T)) := by
  refine CtP_of (cc := cX2_push) (nL := 2) (rt := none) (own := RX2) (lv0 := [(0, .ref (b 3)), (1, .ref (nA 0))]) (by decide) rfl (Nat.le_of_ble_eq_true rfl) rfl rfl ?_
  intro G C0 hF _
  have f18 : Cond.fieldLink RX2 18 "CorkPermits$History" "size" "I" ∈ wsX2_push := by decide +kernel
  have iX2 : ∀ w ∈ u_ws RX2 TX2 2, w ∈ wsX2_push := by decide +kernel
  have f11 : Cond.fieldLink RX2 11 "CorkPermits$History" "states" "[LCorkPermits$Cellar;" ∈ wsX2_push := by decide +kernel
  refine J_aln C0 0 dX2_push_0 (kk := ?_)
  refine J_get C0 iX2 0 3 1 f18 dX2_push_1 (v := .int (nI 1)) (hv := congrArg (fun z => some (Value.int z)) hk) (kk := ?_)
  refine J_bi C0 6 dX2_push_4 (kk := ?_)
  refine J_icmpltN C0 13 (by omega) (by omega) dX2_push_6 (kt := fun c1 => ?_) (kf := fun c1 => ?_)
  · refine J_aln C0 0 dX2_push_13 (kk := ?_)
    refine J_get C0 iX2 0 3 0 f11 dX2_push_14 (kk := ?_)
    refine J_aln C0 0 dX2_push_17 (kk := ?_)
    refine J_get C0 iX2 0 3 1 f18 dX2_push_18 (v := .int (nI 1)) (hv := congrArg (fun z => some (Value.int z)) hk) (kk := ?_)
    refine J_aald C0 0 4 6 dX2_push_21 (by omega) (r := e 1 0) (kk := ?_)
    refine J_aln C0 1 dX2_push_22 (kk := ?_)
    refine J_perm (permI [0, 2, 3, 4, 5, 7, 8, 9, 10, 6, 1] 11 rfl (by decide +kernel) rfl : List.Perm _ ([mainW K b (nA 0) (aA 0) (fun i => some (d i 0)) (fun i => some (e i 0)) T, celW K aA Ga, celW K (d 0) (D 0), celW K (d 1) (D 1), celW K (e 0) (S 0), celW K (e 2) (S 2), celW K (e 3) (S 3), celW K (e 4) (S 4), celW K (e 5) (S 5), celW K (e 1) (S 1), celW K nA F])) ?_
    refine J_callVd C0 (mX0_copyFrom l K (e 1) nA (S 1) F) [mainW K b (nA 0) (aA 0) (fun i => some (d i 0)) (fun i => some (e i 0)) T, celW K aA Ga, celW K (d 0) (D 0), celW K (d 1) (D 1), celW K (e 0) (S 0), celW K (e 2) (S 2), celW K (e 3) (S 3), celW K (e 4) (S 4), celW K (e 5) (S 5)] [mainW K b (nA 0) (aA 0) (fun i => some (d i 0)) (fun i => some (e i 0)) T, celW K aA Ga, celW K (d 0) (D 0), celW K (d 1) (D 1), celW K (e 0) (S 0), celW K (e 2) (S 2), celW K (e 3) (S 3), celW K (e 4) (S 4), celW K (e 5) (S 5), celW K (e 1) F, celW K nA F] gX2_push_X0_copyFrom dX2_push_23 1 0 (kk := ?_)
    refine J_perm (permI [0, 10, 1, 2, 3, 4, 9, 5, 6, 7, 8] 11 rfl (by decide +kernel) rfl : List.Perm _ (corkW K b nA aA d e F Ga D (va_up S 1 F) T)) ?_
    show J G _ _ _ _ _ []
    refine J_aln C0 0 dX2_push_26 (kk := ?_)
    refine J_dup C0 dX2_push_27 (kk := ?_)
    refine J_get C0 iX2 0 3 1 f18 dX2_push_28 (v := .int (nI 1)) (hv := congrArg (fun z => some (Value.int z)) hk) (kk := ?_)
    refine J_ic C0 1 dX2_push_31 (kk := ?_)
    refine J_iaddN C0 dX2_push_32 ?_
    refine J_put C0 iX2 tyX2_ok nmX2 0 3 1 (corkW K b nA aA d e F Ga D (va_up S 1 F) (u2 T 0 0 (nI 2))) f18 dX2_push_33 (hd := rfl) (kk := ?_)
    exact J_vret C0 hF dX2_push_36 ⟨rfl, rfl⟩
  · exfalso; omega

set_option maxHeartbeats 4000000 in
set_option maxRecDepth 100000 in
theorem mX2_push_2 (l : Launch) (K : KT) (b nA aA : Nat → Nat) (d e : Nat → Nat → Nat) (F Ga : FF) (D S : Nat → FF) (T : FF) (hk : T 0 0 = nI 2) : Ct l K yX2_push wsX2_push rmX2_push [.ref (b 3), .ref (nA 0)] (corkW K b nA aA d e F Ga D S T) none (corkW K b nA aA d (pushE 2 e) F Ga D (pushS 2 S F) (pushT 2 T)) := by
  refine CtP_of (cc := cX2_push) (nL := 2) (rt := none) (own := RX2) (lv0 := [(0, .ref (b 3)), (1, .ref (nA 0))]) (by decide) rfl (Nat.le_of_ble_eq_true rfl) rfl rfl ?_
  intro G C0 hF _
  have f18 : Cond.fieldLink RX2 18 "CorkPermits$History" "size" "I" ∈ wsX2_push := by decide +kernel
  have iX2 : ∀ w ∈ u_ws RX2 TX2 2, w ∈ wsX2_push := by decide +kernel
  have f11 : Cond.fieldLink RX2 11 "CorkPermits$History" "states" "[LCorkPermits$Cellar;" ∈ wsX2_push := by decide +kernel
  refine J_aln C0 0 dX2_push_0 (kk := ?_)
  refine J_get C0 iX2 0 3 1 f18 dX2_push_1 (v := .int (nI 2)) (hv := congrArg (fun z => some (Value.int z)) hk) (kk := ?_)
  refine J_bi C0 6 dX2_push_4 (kk := ?_)
  refine J_icmpltN C0 13 (by omega) (by omega) dX2_push_6 (kt := fun c1 => ?_) (kf := fun c1 => ?_)
  · refine J_aln C0 0 dX2_push_13 (kk := ?_)
    refine J_get C0 iX2 0 3 0 f11 dX2_push_14 (kk := ?_)
    refine J_aln C0 0 dX2_push_17 (kk := ?_)
    refine J_get C0 iX2 0 3 1 f18 dX2_push_18 (v := .int (nI 2)) (hv := congrArg (fun z => some (Value.int z)) hk) (kk := ?_)
    refine J_aald C0 0 4 6 dX2_push_21 (by omega) (r := e 2 0) (kk := ?_)
    refine J_aln C0 1 dX2_push_22 (kk := ?_)
    refine J_perm (permI [0, 2, 3, 4, 5, 6, 8, 9, 10, 7, 1] 11 rfl (by decide +kernel) rfl : List.Perm _ ([mainW K b (nA 0) (aA 0) (fun i => some (d i 0)) (fun i => some (e i 0)) T, celW K aA Ga, celW K (d 0) (D 0), celW K (d 1) (D 1), celW K (e 0) (S 0), celW K (e 1) (S 1), celW K (e 3) (S 3), celW K (e 4) (S 4), celW K (e 5) (S 5), celW K (e 2) (S 2), celW K nA F])) ?_
    refine J_callVd C0 (mX0_copyFrom l K (e 2) nA (S 2) F) [mainW K b (nA 0) (aA 0) (fun i => some (d i 0)) (fun i => some (e i 0)) T, celW K aA Ga, celW K (d 0) (D 0), celW K (d 1) (D 1), celW K (e 0) (S 0), celW K (e 1) (S 1), celW K (e 3) (S 3), celW K (e 4) (S 4), celW K (e 5) (S 5)] [mainW K b (nA 0) (aA 0) (fun i => some (d i 0)) (fun i => some (e i 0)) T, celW K aA Ga, celW K (d 0) (D 0), celW K (d 1) (D 1), celW K (e 0) (S 0), celW K (e 1) (S 1), celW K (e 3) (S 3), celW K (e 4) (S 4), celW K (e 5) (S 5), celW K (e 2) F, celW K nA F] gX2_push_X0_copyFrom dX2_push_23 1 0 (kk := ?_)
    refine J_perm (permI [0, 10, 1, 2, 3, 4, 5, 9, 6, 7, 8] 11 rfl (by decide +kernel) rfl : List.Perm _ (corkW K b nA aA d e F Ga D (va_up S 2 F) T)) ?_
    show J G _ _ _ _ _ []
    refine J_aln C0 0 dX2_push_26 (kk := ?_)
    refine J_dup C0 dX2_push_27 (kk := ?_)
    refine J_get C0 iX2 0 3 1 f18 dX2_push_28 (v := .int (nI 2)) (hv := congrArg (fun z => some (Value.int z)) hk) (kk := ?_)
    refine J_ic C0 1 dX2_push_31 (kk := ?_)
    refine J_iaddN C0 dX2_push_32 ?_
    refine J_put C0 iX2 tyX2_ok nmX2 0 3 1 (corkW K b nA aA d e F Ga D (va_up S 2 F) (u2 T 0 0 (nI 3))) f18 dX2_push_33 (hd := rfl) (kk := ?_)
    exact J_vret C0 hF dX2_push_36 ⟨rfl, rfl⟩
  · exfalso; omega

set_option maxHeartbeats 4000000 in
set_option maxRecDepth 100000 in
theorem mX2_push_3 (l : Launch) (K : KT) (b nA aA : Nat → Nat) (d e : Nat → Nat → Nat) (F Ga : FF) (D S : Nat → FF) (T : FF) (hk : T 0 0 = nI 3) : Ct l K yX2_push wsX2_push rmX2_push [.ref (b 3), .ref (nA 0)] (corkW K b nA aA d e F Ga D S T) none (corkW K b nA aA d (pushE 3 e) F Ga D (pushS 3 S F) (pushT 3 T)) := by
  refine CtP_of (cc := cX2_push) (nL := 2) (rt := none) (own := RX2) (lv0 := [(0, .ref (b 3)), (1, .ref (nA 0))]) (by decide) rfl (Nat.le_of_ble_eq_true rfl) rfl rfl ?_
  intro G C0 hF _
  have f18 : Cond.fieldLink RX2 18 "CorkPermits$History" "size" "I" ∈ wsX2_push := by decide +kernel
  have iX2 : ∀ w ∈ u_ws RX2 TX2 2, w ∈ wsX2_push := by decide +kernel
  have f11 : Cond.fieldLink RX2 11 "CorkPermits$History" "states" "[LCorkPermits$Cellar;" ∈ wsX2_push := by decide +kernel
  refine J_aln C0 0 dX2_push_0 (kk := ?_)
  refine J_get C0 iX2 0 3 1 f18 dX2_push_1 (v := .int (nI 3)) (hv := congrArg (fun z => some (Value.int z)) hk) (kk := ?_)
  refine J_bi C0 6 dX2_push_4 (kk := ?_)
  refine J_icmpltN C0 13 (by omega) (by omega) dX2_push_6 (kt := fun c1 => ?_) (kf := fun c1 => ?_)
  · refine J_aln C0 0 dX2_push_13 (kk := ?_)
    refine J_get C0 iX2 0 3 0 f11 dX2_push_14 (kk := ?_)
    refine J_aln C0 0 dX2_push_17 (kk := ?_)
    refine J_get C0 iX2 0 3 1 f18 dX2_push_18 (v := .int (nI 3)) (hv := congrArg (fun z => some (Value.int z)) hk) (kk := ?_)
    refine J_aald C0 0 4 6 dX2_push_21 (by omega) (r := e 3 0) (kk := ?_)
    refine J_aln C0 1 dX2_push_22 (kk := ?_)
    refine J_perm (permI [0, 2, 3, 4, 5, 6, 7, 9, 10, 8, 1] 11 rfl (by decide +kernel) rfl : List.Perm _ ([mainW K b (nA 0) (aA 0) (fun i => some (d i 0)) (fun i => some (e i 0)) T, celW K aA Ga, celW K (d 0) (D 0), celW K (d 1) (D 1), celW K (e 0) (S 0), celW K (e 1) (S 1), celW K (e 2) (S 2), celW K (e 4) (S 4), celW K (e 5) (S 5), celW K (e 3) (S 3), celW K nA F])) ?_
    refine J_callVd C0 (mX0_copyFrom l K (e 3) nA (S 3) F) [mainW K b (nA 0) (aA 0) (fun i => some (d i 0)) (fun i => some (e i 0)) T, celW K aA Ga, celW K (d 0) (D 0), celW K (d 1) (D 1), celW K (e 0) (S 0), celW K (e 1) (S 1), celW K (e 2) (S 2), celW K (e 4) (S 4), celW K (e 5) (S 5)] [mainW K b (nA 0) (aA 0) (fun i => some (d i 0)) (fun i => some (e i 0)) T, celW K aA Ga, celW K (d 0) (D 0), celW K (d 1) (D 1), celW K (e 0) (S 0), celW K (e 1) (S 1), celW K (e 2) (S 2), celW K (e 4) (S 4), celW K (e 5) (S 5), celW K (e 3) F, celW K nA F] gX2_push_X0_copyFrom dX2_push_23 1 0 (kk := ?_)
    refine J_perm (permI [0, 10, 1, 2, 3, 4, 5, 6, 9, 7, 8] 11 rfl (by decide +kernel) rfl : List.Perm _ (corkW K b nA aA d e F Ga D (va_up S 3 F) T)) ?_
    show J G _ _ _ _ _ []
    refine J_aln C0 0 dX2_push_26 (kk := ?_)
    refine J_dup C0 dX2_push_27 (kk := ?_)
    refine J_get C0 iX2 0 3 1 f18 dX2_push_28 (v := .int (nI 3)) (hv := congrArg (fun z => some (Value.int z)) hk) (kk := ?_)
    refine J_ic C0 1 dX2_push_31 (kk := ?_)
    refine J_iaddN C0 dX2_push_32 ?_
    refine J_put C0 iX2 tyX2_ok nmX2 0 3 1 (corkW K b nA aA d e F Ga D (va_up S 3 F) (u2 T 0 0 (nI 4))) f18 dX2_push_33 (hd := rfl) (kk := ?_)
    exact J_vret C0 hF dX2_push_36 ⟨rfl, rfl⟩
  · exfalso; omega

set_option maxHeartbeats 4000000 in
set_option maxRecDepth 100000 in
theorem mX2_push_4 (l : Launch) (K : KT) (b nA aA : Nat → Nat) (d e : Nat → Nat → Nat) (F Ga : FF) (D S : Nat → FF) (T : FF) (hk : T 0 0 = nI 4) : Ct l K yX2_push wsX2_push rmX2_push [.ref (b 3), .ref (nA 0)] (corkW K b nA aA d e F Ga D S T) none (corkW K b nA aA d (pushE 4 e) F Ga D (pushS 4 S F) (pushT 4 T)) := by
  refine CtP_of (cc := cX2_push) (nL := 2) (rt := none) (own := RX2) (lv0 := [(0, .ref (b 3)), (1, .ref (nA 0))]) (by decide) rfl (Nat.le_of_ble_eq_true rfl) rfl rfl ?_
  intro G C0 hF _
  have f18 : Cond.fieldLink RX2 18 "CorkPermits$History" "size" "I" ∈ wsX2_push := by decide +kernel
  have iX2 : ∀ w ∈ u_ws RX2 TX2 2, w ∈ wsX2_push := by decide +kernel
  have f11 : Cond.fieldLink RX2 11 "CorkPermits$History" "states" "[LCorkPermits$Cellar;" ∈ wsX2_push := by decide +kernel
  refine J_aln C0 0 dX2_push_0 (kk := ?_)
  refine J_get C0 iX2 0 3 1 f18 dX2_push_1 (v := .int (nI 4)) (hv := congrArg (fun z => some (Value.int z)) hk) (kk := ?_)
  refine J_bi C0 6 dX2_push_4 (kk := ?_)
  refine J_icmpltN C0 13 (by omega) (by omega) dX2_push_6 (kt := fun c1 => ?_) (kf := fun c1 => ?_)
  · refine J_aln C0 0 dX2_push_13 (kk := ?_)
    refine J_get C0 iX2 0 3 0 f11 dX2_push_14 (kk := ?_)
    refine J_aln C0 0 dX2_push_17 (kk := ?_)
    refine J_get C0 iX2 0 3 1 f18 dX2_push_18 (v := .int (nI 4)) (hv := congrArg (fun z => some (Value.int z)) hk) (kk := ?_)
    refine J_aald C0 0 4 6 dX2_push_21 (by omega) (r := e 4 0) (kk := ?_)
    refine J_aln C0 1 dX2_push_22 (kk := ?_)
    refine J_perm (permI [0, 2, 3, 4, 5, 6, 7, 8, 10, 9, 1] 11 rfl (by decide +kernel) rfl : List.Perm _ ([mainW K b (nA 0) (aA 0) (fun i => some (d i 0)) (fun i => some (e i 0)) T, celW K aA Ga, celW K (d 0) (D 0), celW K (d 1) (D 1), celW K (e 0) (S 0), celW K (e 1) (S 1), celW K (e 2) (S 2), celW K (e 3) (S 3), celW K (e 5) (S 5), celW K (e 4) (S 4), celW K nA F])) ?_
    refine J_callVd C0 (mX0_copyFrom l K (e 4) nA (S 4) F) [mainW K b (nA 0) (aA 0) (fun i => some (d i 0)) (fun i => some (e i 0)) T, celW K aA Ga, celW K (d 0) (D 0), celW K (d 1) (D 1), celW K (e 0) (S 0), celW K (e 1) (S 1), celW K (e 2) (S 2), celW K (e 3) (S 3), celW K (e 5) (S 5)] [mainW K b (nA 0) (aA 0) (fun i => some (d i 0)) (fun i => some (e i 0)) T, celW K aA Ga, celW K (d 0) (D 0), celW K (d 1) (D 1), celW K (e 0) (S 0), celW K (e 1) (S 1), celW K (e 2) (S 2), celW K (e 3) (S 3), celW K (e 5) (S 5), celW K (e 4) F, celW K nA F] gX2_push_X0_copyFrom dX2_push_23 1 0 (kk := ?_)
    refine J_perm (permI [0, 10, 1, 2, 3, 4, 5, 6, 7, 9, 8] 11 rfl (by decide +kernel) rfl : List.Perm _ (corkW K b nA aA d e F Ga D (va_up S 4 F) T)) ?_
    show J G _ _ _ _ _ []
    refine J_aln C0 0 dX2_push_26 (kk := ?_)
    refine J_dup C0 dX2_push_27 (kk := ?_)
    refine J_get C0 iX2 0 3 1 f18 dX2_push_28 (v := .int (nI 4)) (hv := congrArg (fun z => some (Value.int z)) hk) (kk := ?_)
    refine J_ic C0 1 dX2_push_31 (kk := ?_)
    refine J_iaddN C0 dX2_push_32 ?_
    refine J_put C0 iX2 tyX2_ok nmX2 0 3 1 (corkW K b nA aA d e F Ga D (va_up S 4 F) (u2 T 0 0 (nI 5))) f18 dX2_push_33 (hd := rfl) (kk := ?_)
    exact J_vret C0 hF dX2_push_36 ⟨rfl, rfl⟩
  · exfalso; omega

set_option maxHeartbeats 4000000 in
set_option maxRecDepth 100000 in
theorem mX2_push_5 (l : Launch) (K : KT) (b nA aA : Nat → Nat) (d e : Nat → Nat → Nat) (F Ga : FF) (D S : Nat → FF) (T : FF) (hk : T 0 0 = nI 5) : Ct l K yX2_push wsX2_push rmX2_push [.ref (b 3), .ref (nA 0)] (corkW K b nA aA d e F Ga D S T) none (corkW K b nA aA d (pushE 5 e) F Ga D (pushS 5 S F) (pushT 5 T)) := by
  refine CtP_of (cc := cX2_push) (nL := 2) (rt := none) (own := RX2) (lv0 := [(0, .ref (b 3)), (1, .ref (nA 0))]) (by decide) rfl (Nat.le_of_ble_eq_true rfl) rfl rfl ?_
  intro G C0 hF _
  have f18 : Cond.fieldLink RX2 18 "CorkPermits$History" "size" "I" ∈ wsX2_push := by decide +kernel
  have iX2 : ∀ w ∈ u_ws RX2 TX2 2, w ∈ wsX2_push := by decide +kernel
  have f11 : Cond.fieldLink RX2 11 "CorkPermits$History" "states" "[LCorkPermits$Cellar;" ∈ wsX2_push := by decide +kernel
  refine J_aln C0 0 dX2_push_0 (kk := ?_)
  refine J_get C0 iX2 0 3 1 f18 dX2_push_1 (v := .int (nI 5)) (hv := congrArg (fun z => some (Value.int z)) hk) (kk := ?_)
  refine J_bi C0 6 dX2_push_4 (kk := ?_)
  refine J_icmpltN C0 13 (by omega) (by omega) dX2_push_6 (kt := fun c1 => ?_) (kf := fun c1 => ?_)
  · refine J_aln C0 0 dX2_push_13 (kk := ?_)
    refine J_get C0 iX2 0 3 0 f11 dX2_push_14 (kk := ?_)
    refine J_aln C0 0 dX2_push_17 (kk := ?_)
    refine J_get C0 iX2 0 3 1 f18 dX2_push_18 (v := .int (nI 5)) (hv := congrArg (fun z => some (Value.int z)) hk) (kk := ?_)
    refine J_aald C0 0 4 6 dX2_push_21 (by omega) (r := e 5 0) (kk := ?_)
    refine J_aln C0 1 dX2_push_22 (kk := ?_)
    refine J_perm (permI [0, 2, 3, 4, 5, 6, 7, 8, 9, 10, 1] 11 rfl (by decide +kernel) rfl : List.Perm _ ([mainW K b (nA 0) (aA 0) (fun i => some (d i 0)) (fun i => some (e i 0)) T, celW K aA Ga, celW K (d 0) (D 0), celW K (d 1) (D 1), celW K (e 0) (S 0), celW K (e 1) (S 1), celW K (e 2) (S 2), celW K (e 3) (S 3), celW K (e 4) (S 4), celW K (e 5) (S 5), celW K nA F])) ?_
    refine J_callVd C0 (mX0_copyFrom l K (e 5) nA (S 5) F) [mainW K b (nA 0) (aA 0) (fun i => some (d i 0)) (fun i => some (e i 0)) T, celW K aA Ga, celW K (d 0) (D 0), celW K (d 1) (D 1), celW K (e 0) (S 0), celW K (e 1) (S 1), celW K (e 2) (S 2), celW K (e 3) (S 3), celW K (e 4) (S 4)] [mainW K b (nA 0) (aA 0) (fun i => some (d i 0)) (fun i => some (e i 0)) T, celW K aA Ga, celW K (d 0) (D 0), celW K (d 1) (D 1), celW K (e 0) (S 0), celW K (e 1) (S 1), celW K (e 2) (S 2), celW K (e 3) (S 3), celW K (e 4) (S 4), celW K (e 5) F, celW K nA F] gX2_push_X0_copyFrom dX2_push_23 1 0 (kk := ?_)
    refine J_perm (permI [0, 10, 1, 2, 3, 4, 5, 6, 7, 8, 9] 11 rfl (by decide +kernel) rfl : List.Perm _ (corkW K b nA aA d e F Ga D (va_up S 5 F) T)) ?_
    show J G _ _ _ _ _ []
    refine J_aln C0 0 dX2_push_26 (kk := ?_)
    refine J_dup C0 dX2_push_27 (kk := ?_)
    refine J_get C0 iX2 0 3 1 f18 dX2_push_28 (v := .int (nI 5)) (hv := congrArg (fun z => some (Value.int z)) hk) (kk := ?_)
    refine J_ic C0 1 dX2_push_31 (kk := ?_)
    refine J_iaddN C0 dX2_push_32 ?_
    refine J_put C0 iX2 tyX2_ok nmX2 0 3 1 (corkW K b nA aA d e F Ga D (va_up S 5 F) (u2 T 0 0 (nI 6))) f18 dX2_push_33 (hd := rfl) (kk := ?_)
    exact J_vret C0 hF dX2_push_36 ⟨rfl, rfl⟩
  · exfalso; omega

set_option maxHeartbeats 4000000 in
set_option maxRecDepth 100000 in
theorem mX2_push_6 (l : Launch) (K : KT) (b nA aA : Nat → Nat) (d e : Nat → Nat → Nat) (F Ga : FF) (D S : Nat → FF) (T : FF) (hk : T 0 0 = nI 6) : Ct l K yX2_push wsX2_push rmX2_push [.ref (b 3), .ref (nA 0)] (corkW K b nA aA d e F Ga D S T) none (corkW K b nA aA d (pushE 6 e) F Ga D (pushS 6 S F) (pushT 6 T)) := by
  refine CtP_of (cc := cX2_push) (nL := 2) (rt := none) (own := RX2) (lv0 := [(0, .ref (b 3)), (1, .ref (nA 0))]) (by decide) rfl (Nat.le_of_ble_eq_true rfl) rfl rfl ?_
  intro G C0 hF _
  have f18 : Cond.fieldLink RX2 18 "CorkPermits$History" "size" "I" ∈ wsX2_push := by decide +kernel
  have iX2 : ∀ w ∈ u_ws RX2 TX2 2, w ∈ wsX2_push := by decide +kernel
  have f11 : Cond.fieldLink RX2 11 "CorkPermits$History" "states" "[LCorkPermits$Cellar;" ∈ wsX2_push := by decide +kernel
  refine J_aln C0 0 dX2_push_0 (kk := ?_)
  refine J_get C0 iX2 0 3 1 f18 dX2_push_1 (v := .int (nI 6)) (hv := congrArg (fun z => some (Value.int z)) hk) (kk := ?_)
  refine J_bi C0 6 dX2_push_4 (kk := ?_)
  refine J_icmpltN C0 13 (by omega) (by omega) dX2_push_6 (kt := fun c1 => ?_) (kf := fun c1 => ?_)
  · exfalso; omega
  · refine J_aln C0 0 dX2_push_9 (kk := ?_)
    refine J_callVd C0 (mX2_dropOldest l K b nA aA d e F Ga D S T) [] (corkW K b nA aA d (rotA e) F Ga D (rotA S) (u2 T 0 0 (nI 5))) gX2_push_X2_dropOldest dX2_push_10 0 3 (kk := ?_)
    show J G _ _ _ _ _ []
    refine J_aln C0 0 dX2_push_13 (kk := ?_)
    refine J_get C0 iX2 0 3 0 f11 dX2_push_14 (kk := ?_)
    refine J_aln C0 0 dX2_push_17 (kk := ?_)
    refine J_get C0 iX2 0 3 1 f18 dX2_push_18 (v := .int (nI 5)) (hv := rfl) (kk := ?_)
    refine J_aald C0 0 4 6 dX2_push_21 (by omega) (r := rotA e 5 0) (kk := ?_)
    refine J_aln C0 1 dX2_push_22 (kk := ?_)
    refine J_perm (permI [0, 2, 3, 4, 5, 6, 7, 8, 9, 10, 1] 11 rfl (by decide +kernel) rfl : List.Perm _ ([mainW K b (nA 0) (aA 0) (fun i => some (d i 0)) (fun i => some (rotA e i 0)) (u2 T 0 0 (nI 5)), celW K aA Ga, celW K (d 0) (D 0), celW K (d 1) (D 1), celW K (rotA e 0) (rotA S 0), celW K (rotA e 1) (rotA S 1), celW K (rotA e 2) (rotA S 2), celW K (rotA e 3) (rotA S 3), celW K (rotA e 4) (rotA S 4), celW K (rotA e 5) (rotA S 5), celW K nA F])) ?_
    refine J_callVd C0 (mX0_copyFrom l K (rotA e 5) nA (rotA S 5) F) [mainW K b (nA 0) (aA 0) (fun i => some (d i 0)) (fun i => some (rotA e i 0)) (u2 T 0 0 (nI 5)), celW K aA Ga, celW K (d 0) (D 0), celW K (d 1) (D 1), celW K (rotA e 0) (rotA S 0), celW K (rotA e 1) (rotA S 1), celW K (rotA e 2) (rotA S 2), celW K (rotA e 3) (rotA S 3), celW K (rotA e 4) (rotA S 4)] [mainW K b (nA 0) (aA 0) (fun i => some (d i 0)) (fun i => some (rotA e i 0)) (u2 T 0 0 (nI 5)), celW K aA Ga, celW K (d 0) (D 0), celW K (d 1) (D 1), celW K (rotA e 0) (rotA S 0), celW K (rotA e 1) (rotA S 1), celW K (rotA e 2) (rotA S 2), celW K (rotA e 3) (rotA S 3), celW K (rotA e 4) (rotA S 4), celW K (rotA e 5) F, celW K nA F] gX2_push_X0_copyFrom dX2_push_23 1 0 (kk := ?_)
    refine J_perm (permI [0, 10, 1, 2, 3, 4, 5, 6, 7, 8, 9] 11 rfl (by decide +kernel) rfl : List.Perm _ (corkW K b nA aA d (rotA e) F Ga D (va_up (rotA S) 5 F) (u2 T 0 0 (nI 5)))) ?_
    show J G _ _ _ _ _ []
    refine J_aln C0 0 dX2_push_26 (kk := ?_)
    refine J_dup C0 dX2_push_27 (kk := ?_)
    refine J_get C0 iX2 0 3 1 f18 dX2_push_28 (v := .int (nI 5)) (hv := rfl) (kk := ?_)
    refine J_ic C0 1 dX2_push_31 (kk := ?_)
    refine J_iaddN C0 dX2_push_32 ?_
    refine J_put C0 iX2 tyX2_ok nmX2 0 3 1 (corkW K b nA aA d (rotA e) F Ga D (va_up (rotA S) 5 F) (u2 (u2 T 0 0 (nI 5)) 0 0 (nI 6))) f18 dX2_push_33 (hd := rfl) (kk := ?_)
    exact J_vret C0 hF dX2_push_36 ⟨rfl, rfl⟩

theorem mX2_push (l : Launch) (K : KT) (b nA aA : Nat → Nat) (d e : Nat → Nat → Nat) (F Ga : FF) (D S : Nat → FF) (T : FF) {k : Nat} (h6 : k ≤ 6) (hk : T 0 0 = nI k) : Ct l K yX2_push wsX2_push rmX2_push [.ref (b 3), .ref (nA 0)] (corkW K b nA aA d e F Ga D S T) none (corkW K b nA aA d (pushE k e) F Ga D (pushS k S F) (pushT k T)) := by
  rcases (show k = 0 ∨ k = 1 ∨ k = 2 ∨ k = 3 ∨ k = 4 ∨ k = 5 ∨ k = 6 by omega) with rfl | rfl | rfl | rfl | rfl | rfl | rfl
  · exact mX2_push_0 l K b nA aA d e F Ga D S T hk
  · exact mX2_push_1 l K b nA aA d e F Ga D S T hk
  · exact mX2_push_2 l K b nA aA d e F Ga D S T hk
  · exact mX2_push_3 l K b nA aA d e F Ga D S T hk
  · exact mX2_push_4 l K b nA aA d e F Ga D S T hk
  · exact mX2_push_5 l K b nA aA d e F Ga D S T hk
  · exact mX2_push_6 l K b nA aA d e F Ga D S T hk
abbrev rmX2_popInto : Room := { frames := 3, cells := 0, slots := 0, locals := 82 }
set_option maxHeartbeats 4000000 in
set_option maxRecDepth 100000 in
theorem mX2_popInto_1 (l : Launch) (K : KT) (b nA aA : Nat → Nat) (d e : Nat → Nat → Nat) (F Ga : FF) (D S : Nat → FF) (T : FF) (hk : T 0 0 = nI 1) : Ct l K yX2_popInto wsX2_popInto rmX2_popInto [.ref (b 3), .ref (nA 0)] (corkW K b nA aA d e F Ga D S T) none (corkW K b nA aA d e (S 0) Ga D S (u2 T 0 0 (nI 0))) := by
  refine CtP_of (cc := cX2_popInto) (nL := 2) (rt := none) (own := RX2) (lv0 := [(0, .ref (b 3)), (1, .ref (nA 0))]) (by decide) rfl (Nat.le_of_ble_eq_true rfl) rfl rfl ?_
  intro G C0 hF _
  have f18 : Cond.fieldLink RX2 18 "CorkPermits$History" "size" "I" ∈ wsX2_popInto := by decide +kernel
  have iX2 : ∀ w ∈ u_ws RX2 TX2 2, w ∈ wsX2_popInto := by decide +kernel
  have f11 : Cond.fieldLink RX2 11 "CorkPermits$History" "states" "[LCorkPermits$Cellar;" ∈ wsX2_popInto := by decide +kernel
  refine J_aln C0 0 dX2_popInto_0 (kk := ?_)
  refine J_get C0 iX2 0 3 1 f18 dX2_popInto_1 (v := .int (nI 1)) (hv := congrArg (fun z => some (Value.int z)) hk) (kk := ?_)
  refine J_ifleN C0 39 (by omega) dX2_popInto_4 (kt := fun c1 => ?_) (kf := fun c1 => ?_)
  · exfalso; omega
  · refine J_aln C0 0 dX2_popInto_7 (kk := ?_)
    refine J_get C0 iX2 0 3 1 f18 dX2_popInto_8 (v := .int (nI 1)) (hv := congrArg (fun z => some (Value.int z)) hk) (kk := ?_)
    refine J_bi C0 6 dX2_popInto_11 (kk := ?_)
    refine J_icmpgtN C0 39 (by omega) (by omega) dX2_popInto_13 (kt := fun c2 => ?_) (kf := fun c2 => ?_)
    · exfalso; omega
    · refine J_aln C0 0 dX2_popInto_16 (kk := ?_)
      refine J_dup C0 dX2_popInto_17 (kk := ?_)
      refine J_get C0 iX2 0 3 1 f18 dX2_popInto_18 (v := .int (nI 1)) (hv := congrArg (fun z => some (Value.int z)) hk) (kk := ?_)
      refine J_ic C0 1 dX2_popInto_21 (kk := ?_)
      refine J_isubN C0 (by omega) dX2_popInto_22 ?_
      refine J_put C0 iX2 tyX2_ok nmX2 0 3 1 (corkW K b nA aA d e F Ga D S (u2 T 0 0 (nI 0))) f18 dX2_popInto_23 (hd := rfl) (kk := ?_)
      refine J_aln C0 1 dX2_popInto_26 (kk := ?_)
      refine J_aln C0 0 dX2_popInto_27 (kk := ?_)
      refine J_get C0 iX2 0 3 0 f11 dX2_popInto_28 (kk := ?_)
      refine J_aln C0 0 dX2_popInto_31 (kk := ?_)
      refine J_get C0 iX2 0 3 1 f18 dX2_popInto_32 (v := .int (nI 0)) (hv := rfl) (kk := ?_)
      refine J_aald C0 0 4 6 dX2_popInto_35 (by omega) (r := e 0 0) (kk := ?_)
      refine J_perm (permI [0, 2, 3, 4, 6, 7, 8, 9, 10, 1, 5] 11 rfl (by decide +kernel) rfl : List.Perm _ ([mainW K b (nA 0) (aA 0) (fun i => some (d i 0)) (fun i => some (e i 0)) (u2 T 0 0 (nI 0)), celW K aA Ga, celW K (d 0) (D 0), celW K (d 1) (D 1), celW K (e 1) (S 1), celW K (e 2) (S 2), celW K (e 3) (S 3), celW K (e 4) (S 4), celW K (e 5) (S 5), celW K nA F, celW K (e 0) (S 0)])) ?_
      refine J_callVd C0 (mX0_copyFrom l K nA (e 0) F (S 0)) [mainW K b (nA 0) (aA 0) (fun i => some (d i 0)) (fun i => some (e i 0)) (u2 T 0 0 (nI 0)), celW K aA Ga, celW K (d 0) (D 0), celW K (d 1) (D 1), celW K (e 1) (S 1), celW K (e 2) (S 2), celW K (e 3) (S 3), celW K (e 4) (S 4), celW K (e 5) (S 5)] [mainW K b (nA 0) (aA 0) (fun i => some (d i 0)) (fun i => some (e i 0)) (u2 T 0 0 (nI 0)), celW K aA Ga, celW K (d 0) (D 0), celW K (d 1) (D 1), celW K (e 1) (S 1), celW K (e 2) (S 2), celW K (e 3) (S 3), celW K (e 4) (S 4), celW K (e 5) (S 5), celW K nA (S 0), celW K (e 0) (S 0)] gX2_popInto_X0_copyFrom dX2_popInto_36 1 0 (kk := ?_)
      refine J_perm (permI [0, 9, 1, 2, 3, 10, 4, 5, 6, 7, 8] 11 rfl (by decide +kernel) rfl : List.Perm _ (corkW K b nA aA d e (S 0) Ga D S (u2 T 0 0 (nI 0)))) ?_
      show J G _ _ _ _ _ []
      exact J_vret C0 hF dX2_popInto_39 ⟨rfl, rfl⟩

set_option maxHeartbeats 4000000 in
set_option maxRecDepth 100000 in
theorem mX2_popInto_2 (l : Launch) (K : KT) (b nA aA : Nat → Nat) (d e : Nat → Nat → Nat) (F Ga : FF) (D S : Nat → FF) (T : FF) (hk : T 0 0 = nI 2) : Ct l K yX2_popInto wsX2_popInto rmX2_popInto [.ref (b 3), .ref (nA 0)] (corkW K b nA aA d e F Ga D S T) none (corkW K b nA aA d e (S 1) Ga D S (u2 T 0 0 (nI 1))) := by
  refine CtP_of (cc := cX2_popInto) (nL := 2) (rt := none) (own := RX2) (lv0 := [(0, .ref (b 3)), (1, .ref (nA 0))]) (by decide) rfl (Nat.le_of_ble_eq_true rfl) rfl rfl ?_
  intro G C0 hF _
  have f18 : Cond.fieldLink RX2 18 "CorkPermits$History" "size" "I" ∈ wsX2_popInto := by decide +kernel
  have iX2 : ∀ w ∈ u_ws RX2 TX2 2, w ∈ wsX2_popInto := by decide +kernel
  have f11 : Cond.fieldLink RX2 11 "CorkPermits$History" "states" "[LCorkPermits$Cellar;" ∈ wsX2_popInto := by decide +kernel
  refine J_aln C0 0 dX2_popInto_0 (kk := ?_)
  refine J_get C0 iX2 0 3 1 f18 dX2_popInto_1 (v := .int (nI 2)) (hv := congrArg (fun z => some (Value.int z)) hk) (kk := ?_)
  refine J_ifleN C0 39 (by omega) dX2_popInto_4 (kt := fun c1 => ?_) (kf := fun c1 => ?_)
  · exfalso; omega
  · refine J_aln C0 0 dX2_popInto_7 (kk := ?_)
    refine J_get C0 iX2 0 3 1 f18 dX2_popInto_8 (v := .int (nI 2)) (hv := congrArg (fun z => some (Value.int z)) hk) (kk := ?_)
    refine J_bi C0 6 dX2_popInto_11 (kk := ?_)
    refine J_icmpgtN C0 39 (by omega) (by omega) dX2_popInto_13 (kt := fun c2 => ?_) (kf := fun c2 => ?_)
    · exfalso; omega
    · refine J_aln C0 0 dX2_popInto_16 (kk := ?_)
      refine J_dup C0 dX2_popInto_17 (kk := ?_)
      refine J_get C0 iX2 0 3 1 f18 dX2_popInto_18 (v := .int (nI 2)) (hv := congrArg (fun z => some (Value.int z)) hk) (kk := ?_)
      refine J_ic C0 1 dX2_popInto_21 (kk := ?_)
      refine J_isubN C0 (by omega) dX2_popInto_22 ?_
      refine J_put C0 iX2 tyX2_ok nmX2 0 3 1 (corkW K b nA aA d e F Ga D S (u2 T 0 0 (nI 1))) f18 dX2_popInto_23 (hd := rfl) (kk := ?_)
      refine J_aln C0 1 dX2_popInto_26 (kk := ?_)
      refine J_aln C0 0 dX2_popInto_27 (kk := ?_)
      refine J_get C0 iX2 0 3 0 f11 dX2_popInto_28 (kk := ?_)
      refine J_aln C0 0 dX2_popInto_31 (kk := ?_)
      refine J_get C0 iX2 0 3 1 f18 dX2_popInto_32 (v := .int (nI 1)) (hv := rfl) (kk := ?_)
      refine J_aald C0 0 4 6 dX2_popInto_35 (by omega) (r := e 1 0) (kk := ?_)
      refine J_perm (permI [0, 2, 3, 4, 5, 7, 8, 9, 10, 1, 6] 11 rfl (by decide +kernel) rfl : List.Perm _ ([mainW K b (nA 0) (aA 0) (fun i => some (d i 0)) (fun i => some (e i 0)) (u2 T 0 0 (nI 1)), celW K aA Ga, celW K (d 0) (D 0), celW K (d 1) (D 1), celW K (e 0) (S 0), celW K (e 2) (S 2), celW K (e 3) (S 3), celW K (e 4) (S 4), celW K (e 5) (S 5), celW K nA F, celW K (e 1) (S 1)])) ?_
      refine J_callVd C0 (mX0_copyFrom l K nA (e 1) F (S 1)) [mainW K b (nA 0) (aA 0) (fun i => some (d i 0)) (fun i => some (e i 0)) (u2 T 0 0 (nI 1)), celW K aA Ga, celW K (d 0) (D 0), celW K (d 1) (D 1), celW K (e 0) (S 0), celW K (e 2) (S 2), celW K (e 3) (S 3), celW K (e 4) (S 4), celW K (e 5) (S 5)] [mainW K b (nA 0) (aA 0) (fun i => some (d i 0)) (fun i => some (e i 0)) (u2 T 0 0 (nI 1)), celW K aA Ga, celW K (d 0) (D 0), celW K (d 1) (D 1), celW K (e 0) (S 0), celW K (e 2) (S 2), celW K (e 3) (S 3), celW K (e 4) (S 4), celW K (e 5) (S 5), celW K nA (S 1), celW K (e 1) (S 1)] gX2_popInto_X0_copyFrom dX2_popInto_36 1 0 (kk := ?_)
      refine J_perm (permI [0, 9, 1, 2, 3, 4, 10, 5, 6, 7, 8] 11 rfl (by decide +kernel) rfl : List.Perm _ (corkW K b nA aA d e (S 1) Ga D S (u2 T 0 0 (nI 1)))) ?_
      show J G _ _ _ _ _ []
      exact J_vret C0 hF dX2_popInto_39 ⟨rfl, rfl⟩

set_option maxHeartbeats 4000000 in
set_option maxRecDepth 100000 in
theorem mX2_popInto_3 (l : Launch) (K : KT) (b nA aA : Nat → Nat) (d e : Nat → Nat → Nat) (F Ga : FF) (D S : Nat → FF) (T : FF) (hk : T 0 0 = nI 3) : Ct l K yX2_popInto wsX2_popInto rmX2_popInto [.ref (b 3), .ref (nA 0)] (corkW K b nA aA d e F Ga D S T) none (corkW K b nA aA d e (S 2) Ga D S (u2 T 0 0 (nI 2))) := by
  refine CtP_of (cc := cX2_popInto) (nL := 2) (rt := none) (own := RX2) (lv0 := [(0, .ref (b 3)), (1, .ref (nA 0))]) (by decide) rfl (Nat.le_of_ble_eq_true rfl) rfl rfl ?_
  intro G C0 hF _
  have f18 : Cond.fieldLink RX2 18 "CorkPermits$History" "size" "I" ∈ wsX2_popInto := by decide +kernel
  have iX2 : ∀ w ∈ u_ws RX2 TX2 2, w ∈ wsX2_popInto := by decide +kernel
  have f11 : Cond.fieldLink RX2 11 "CorkPermits$History" "states" "[LCorkPermits$Cellar;" ∈ wsX2_popInto := by decide +kernel
  refine J_aln C0 0 dX2_popInto_0 (kk := ?_)
  refine J_get C0 iX2 0 3 1 f18 dX2_popInto_1 (v := .int (nI 3)) (hv := congrArg (fun z => some (Value.int z)) hk) (kk := ?_)
  refine J_ifleN C0 39 (by omega) dX2_popInto_4 (kt := fun c1 => ?_) (kf := fun c1 => ?_)
  · exfalso; omega
  · refine J_aln C0 0 dX2_popInto_7 (kk := ?_)
    refine J_get C0 iX2 0 3 1 f18 dX2_popInto_8 (v := .int (nI 3)) (hv := congrArg (fun z => some (Value.int z)) hk) (kk := ?_)
    refine J_bi C0 6 dX2_popInto_11 (kk := ?_)
    refine J_icmpgtN C0 39 (by omega) (by omega) dX2_popInto_13 (kt := fun c2 => ?_) (kf := fun c2 => ?_)
    · exfalso; omega
    · refine J_aln C0 0 dX2_popInto_16 (kk := ?_)
      refine J_dup C0 dX2_popInto_17 (kk := ?_)
      refine J_get C0 iX2 0 3 1 f18 dX2_popInto_18 (v := .int (nI 3)) (hv := congrArg (fun z => some (Value.int z)) hk) (kk := ?_)
      refine J_ic C0 1 dX2_popInto_21 (kk := ?_)
      refine J_isubN C0 (by omega) dX2_popInto_22 ?_
      refine J_put C0 iX2 tyX2_ok nmX2 0 3 1 (corkW K b nA aA d e F Ga D S (u2 T 0 0 (nI 2))) f18 dX2_popInto_23 (hd := rfl) (kk := ?_)
      refine J_aln C0 1 dX2_popInto_26 (kk := ?_)
      refine J_aln C0 0 dX2_popInto_27 (kk := ?_)
      refine J_get C0 iX2 0 3 0 f11 dX2_popInto_28 (kk := ?_)
      refine J_aln C0 0 dX2_popInto_31 (kk := ?_)
      refine J_get C0 iX2 0 3 1 f18 dX2_popInto_32 (v := .int (nI 2)) (hv := rfl) (kk := ?_)
      refine J_aald C0 0 4 6 dX2_popInto_35 (by omega) (r := e 2 0) (kk := ?_)
      refine J_perm (permI [0, 2, 3, 4, 5, 6, 8, 9, 10, 1, 7] 11 rfl (by decide +kernel) rfl : List.Perm _ ([mainW K b (nA 0) (aA 0) (fun i => some (d i 0)) (fun i => some (e i 0)) (u2 T 0 0 (nI 2)), celW K aA Ga, celW K (d 0) (D 0), celW K (d 1) (D 1), celW K (e 0) (S 0), celW K (e 1) (S 1), celW K (e 3) (S 3), celW K (e 4) (S 4), celW K (e 5) (S 5), celW K nA F, celW K (e 2) (S 2)])) ?_
      refine J_callVd C0 (mX0_copyFrom l K nA (e 2) F (S 2)) [mainW K b (nA 0) (aA 0) (fun i => some (d i 0)) (fun i => some (e i 0)) (u2 T 0 0 (nI 2)), celW K aA Ga, celW K (d 0) (D 0), celW K (d 1) (D 1), celW K (e 0) (S 0), celW K (e 1) (S 1), celW K (e 3) (S 3), celW K (e 4) (S 4), celW K (e 5) (S 5)] [mainW K b (nA 0) (aA 0) (fun i => some (d i 0)) (fun i => some (e i 0)) (u2 T 0 0 (nI 2)), celW K aA Ga, celW K (d 0) (D 0), celW K (d 1) (D 1), celW K (e 0) (S 0), celW K (e 1) (S 1), celW K (e 3) (S 3), celW K (e 4) (S 4), celW K (e 5) (S 5), celW K nA (S 2), celW K (e 2) (S 2)] gX2_popInto_X0_copyFrom dX2_popInto_36 1 0 (kk := ?_)
      refine J_perm (permI [0, 9, 1, 2, 3, 4, 5, 10, 6, 7, 8] 11 rfl (by decide +kernel) rfl : List.Perm _ (corkW K b nA aA d e (S 2) Ga D S (u2 T 0 0 (nI 2)))) ?_
      show J G _ _ _ _ _ []
      exact J_vret C0 hF dX2_popInto_39 ⟨rfl, rfl⟩

set_option maxHeartbeats 4000000 in
set_option maxRecDepth 100000 in
theorem mX2_popInto_4 (l : Launch) (K : KT) (b nA aA : Nat → Nat) (d e : Nat → Nat → Nat) (F Ga : FF) (D S : Nat → FF) (T : FF) (hk : T 0 0 = nI 4) : Ct l K yX2_popInto wsX2_popInto rmX2_popInto [.ref (b 3), .ref (nA 0)] (corkW K b nA aA d e F Ga D S T) none (corkW K b nA aA d e (S 3) Ga D S (u2 T 0 0 (nI 3))) := by
  refine CtP_of (cc := cX2_popInto) (nL := 2) (rt := none) (own := RX2) (lv0 := [(0, .ref (b 3)), (1, .ref (nA 0))]) (by decide) rfl (Nat.le_of_ble_eq_true rfl) rfl rfl ?_
  intro G C0 hF _
  have f18 : Cond.fieldLink RX2 18 "CorkPermits$History" "size" "I" ∈ wsX2_popInto := by decide +kernel
  have iX2 : ∀ w ∈ u_ws RX2 TX2 2, w ∈ wsX2_popInto := by decide +kernel
  have f11 : Cond.fieldLink RX2 11 "CorkPermits$History" "states" "[LCorkPermits$Cellar;" ∈ wsX2_popInto := by decide +kernel
  refine J_aln C0 0 dX2_popInto_0 (kk := ?_)
  refine J_get C0 iX2 0 3 1 f18 dX2_popInto_1 (v := .int (nI 4)) (hv := congrArg (fun z => some (Value.int z)) hk) (kk := ?_)
  refine J_ifleN C0 39 (by omega) dX2_popInto_4 (kt := fun c1 => ?_) (kf := fun c1 => ?_)
  · exfalso; omega
  · refine J_aln C0 0 dX2_popInto_7 (kk := ?_)
    refine J_get C0 iX2 0 3 1 f18 dX2_popInto_8 (v := .int (nI 4)) (hv := congrArg (fun z => some (Value.int z)) hk) (kk := ?_)
    refine J_bi C0 6 dX2_popInto_11 (kk := ?_)
    refine J_icmpgtN C0 39 (by omega) (by omega) dX2_popInto_13 (kt := fun c2 => ?_) (kf := fun c2 => ?_)
    · exfalso; omega
    · refine J_aln C0 0 dX2_popInto_16 (kk := ?_)
      refine J_dup C0 dX2_popInto_17 (kk := ?_)
      refine J_get C0 iX2 0 3 1 f18 dX2_popInto_18 (v := .int (nI 4)) (hv := congrArg (fun z => some (Value.int z)) hk) (kk := ?_)
      refine J_ic C0 1 dX2_popInto_21 (kk := ?_)
      refine J_isubN C0 (by omega) dX2_popInto_22 ?_
      refine J_put C0 iX2 tyX2_ok nmX2 0 3 1 (corkW K b nA aA d e F Ga D S (u2 T 0 0 (nI 3))) f18 dX2_popInto_23 (hd := rfl) (kk := ?_)
      refine J_aln C0 1 dX2_popInto_26 (kk := ?_)
      refine J_aln C0 0 dX2_popInto_27 (kk := ?_)
      refine J_get C0 iX2 0 3 0 f11 dX2_popInto_28 (kk := ?_)
      refine J_aln C0 0 dX2_popInto_31 (kk := ?_)
      refine J_get C0 iX2 0 3 1 f18 dX2_popInto_32 (v := .int (nI 3)) (hv := rfl) (kk := ?_)
      refine J_aald C0 0 4 6 dX2_popInto_35 (by omega) (r := e 3 0) (kk := ?_)
      refine J_perm (permI [0, 2, 3, 4, 5, 6, 7, 9, 10, 1, 8] 11 rfl (by decide +kernel) rfl : List.Perm _ ([mainW K b (nA 0) (aA 0) (fun i => some (d i 0)) (fun i => some (e i 0)) (u2 T 0 0 (nI 3)), celW K aA Ga, celW K (d 0) (D 0), celW K (d 1) (D 1), celW K (e 0) (S 0), celW K (e 1) (S 1), celW K (e 2) (S 2), celW K (e 4) (S 4), celW K (e 5) (S 5), celW K nA F, celW K (e 3) (S 3)])) ?_
      refine J_callVd C0 (mX0_copyFrom l K nA (e 3) F (S 3)) [mainW K b (nA 0) (aA 0) (fun i => some (d i 0)) (fun i => some (e i 0)) (u2 T 0 0 (nI 3)), celW K aA Ga, celW K (d 0) (D 0), celW K (d 1) (D 1), celW K (e 0) (S 0), celW K (e 1) (S 1), celW K (e 2) (S 2), celW K (e 4) (S 4), celW K (e 5) (S 5)] [mainW K b (nA 0) (aA 0) (fun i => some (d i 0)) (fun i => some (e i 0)) (u2 T 0 0 (nI 3)), celW K aA Ga, celW K (d 0) (D 0), celW K (d 1) (D 1), celW K (e 0) (S 0), celW K (e 1) (S 1), celW K (e 2) (S 2), celW K (e 4) (S 4), celW K (e 5) (S 5), celW K nA (S 3), celW K (e 3) (S 3)] gX2_popInto_X0_copyFrom dX2_popInto_36 1 0 (kk := ?_)
      refine J_perm (permI [0, 9, 1, 2, 3, 4, 5, 6, 10, 7, 8] 11 rfl (by decide +kernel) rfl : List.Perm _ (corkW K b nA aA d e (S 3) Ga D S (u2 T 0 0 (nI 3)))) ?_
      show J G _ _ _ _ _ []
      exact J_vret C0 hF dX2_popInto_39 ⟨rfl, rfl⟩

set_option maxHeartbeats 4000000 in
set_option maxRecDepth 100000 in
theorem mX2_popInto_5 (l : Launch) (K : KT) (b nA aA : Nat → Nat) (d e : Nat → Nat → Nat) (F Ga : FF) (D S : Nat → FF) (T : FF) (hk : T 0 0 = nI 5) : Ct l K yX2_popInto wsX2_popInto rmX2_popInto [.ref (b 3), .ref (nA 0)] (corkW K b nA aA d e F Ga D S T) none (corkW K b nA aA d e (S 4) Ga D S (u2 T 0 0 (nI 4))) := by
  refine CtP_of (cc := cX2_popInto) (nL := 2) (rt := none) (own := RX2) (lv0 := [(0, .ref (b 3)), (1, .ref (nA 0))]) (by decide) rfl (Nat.le_of_ble_eq_true rfl) rfl rfl ?_
  intro G C0 hF _
  have f18 : Cond.fieldLink RX2 18 "CorkPermits$History" "size" "I" ∈ wsX2_popInto := by decide +kernel
  have iX2 : ∀ w ∈ u_ws RX2 TX2 2, w ∈ wsX2_popInto := by decide +kernel
  have f11 : Cond.fieldLink RX2 11 "CorkPermits$History" "states" "[LCorkPermits$Cellar;" ∈ wsX2_popInto := by decide +kernel
  refine J_aln C0 0 dX2_popInto_0 (kk := ?_)
  refine J_get C0 iX2 0 3 1 f18 dX2_popInto_1 (v := .int (nI 5)) (hv := congrArg (fun z => some (Value.int z)) hk) (kk := ?_)
  refine J_ifleN C0 39 (by omega) dX2_popInto_4 (kt := fun c1 => ?_) (kf := fun c1 => ?_)
  · exfalso; omega
  · refine J_aln C0 0 dX2_popInto_7 (kk := ?_)
    refine J_get C0 iX2 0 3 1 f18 dX2_popInto_8 (v := .int (nI 5)) (hv := congrArg (fun z => some (Value.int z)) hk) (kk := ?_)
    refine J_bi C0 6 dX2_popInto_11 (kk := ?_)
    refine J_icmpgtN C0 39 (by omega) (by omega) dX2_popInto_13 (kt := fun c2 => ?_) (kf := fun c2 => ?_)
    · exfalso; omega
    · refine J_aln C0 0 dX2_popInto_16 (kk := ?_)
      refine J_dup C0 dX2_popInto_17 (kk := ?_)
      refine J_get C0 iX2 0 3 1 f18 dX2_popInto_18 (v := .int (nI 5)) (hv := congrArg (fun z => some (Value.int z)) hk) (kk := ?_)
      refine J_ic C0 1 dX2_popInto_21 (kk := ?_)
      refine J_isubN C0 (by omega) dX2_popInto_22 ?_
      refine J_put C0 iX2 tyX2_ok nmX2 0 3 1 (corkW K b nA aA d e F Ga D S (u2 T 0 0 (nI 4))) f18 dX2_popInto_23 (hd := rfl) (kk := ?_)
      refine J_aln C0 1 dX2_popInto_26 (kk := ?_)
      refine J_aln C0 0 dX2_popInto_27 (kk := ?_)
      refine J_get C0 iX2 0 3 0 f11 dX2_popInto_28 (kk := ?_)
      refine J_aln C0 0 dX2_popInto_31 (kk := ?_)
      refine J_get C0 iX2 0 3 1 f18 dX2_popInto_32 (v := .int (nI 4)) (hv := rfl) (kk := ?_)
      refine J_aald C0 0 4 6 dX2_popInto_35 (by omega) (r := e 4 0) (kk := ?_)
      refine J_perm (permI [0, 2, 3, 4, 5, 6, 7, 8, 10, 1, 9] 11 rfl (by decide +kernel) rfl : List.Perm _ ([mainW K b (nA 0) (aA 0) (fun i => some (d i 0)) (fun i => some (e i 0)) (u2 T 0 0 (nI 4)), celW K aA Ga, celW K (d 0) (D 0), celW K (d 1) (D 1), celW K (e 0) (S 0), celW K (e 1) (S 1), celW K (e 2) (S 2), celW K (e 3) (S 3), celW K (e 5) (S 5), celW K nA F, celW K (e 4) (S 4)])) ?_
      refine J_callVd C0 (mX0_copyFrom l K nA (e 4) F (S 4)) [mainW K b (nA 0) (aA 0) (fun i => some (d i 0)) (fun i => some (e i 0)) (u2 T 0 0 (nI 4)), celW K aA Ga, celW K (d 0) (D 0), celW K (d 1) (D 1), celW K (e 0) (S 0), celW K (e 1) (S 1), celW K (e 2) (S 2), celW K (e 3) (S 3), celW K (e 5) (S 5)] [mainW K b (nA 0) (aA 0) (fun i => some (d i 0)) (fun i => some (e i 0)) (u2 T 0 0 (nI 4)), celW K aA Ga, celW K (d 0) (D 0), celW K (d 1) (D 1), celW K (e 0) (S 0), celW K (e 1) (S 1), celW K (e 2) (S 2), celW K (e 3) (S 3), celW K (e 5) (S 5), celW K nA (S 4), celW K (e 4) (S 4)] gX2_popInto_X0_copyFrom dX2_popInto_36 1 0 (kk := ?_)
      refine J_perm (permI [0, 9, 1, 2, 3, 4, 5, 6, 7, 10, 8] 11 rfl (by decide +kernel) rfl : List.Perm _ (corkW K b nA aA d e (S 4) Ga D S (u2 T 0 0 (nI 4)))) ?_
      show J G _ _ _ _ _ []
      exact J_vret C0 hF dX2_popInto_39 ⟨rfl, rfl⟩

set_option maxHeartbeats 4000000 in
set_option maxRecDepth 100000 in
theorem mX2_popInto_6 (l : Launch) (K : KT) (b nA aA : Nat → Nat) (d e : Nat → Nat → Nat) (F Ga : FF) (D S : Nat → FF) (T : FF) (hk : T 0 0 = nI 6) : Ct l K yX2_popInto wsX2_popInto rmX2_popInto [.ref (b 3), .ref (nA 0)] (corkW K b nA aA d e F Ga D S T) none (corkW K b nA aA d e (S 5) Ga D S (u2 T 0 0 (nI 5))) := by
  refine CtP_of (cc := cX2_popInto) (nL := 2) (rt := none) (own := RX2) (lv0 := [(0, .ref (b 3)), (1, .ref (nA 0))]) (by decide) rfl (Nat.le_of_ble_eq_true rfl) rfl rfl ?_
  intro G C0 hF _
  have f18 : Cond.fieldLink RX2 18 "CorkPermits$History" "size" "I" ∈ wsX2_popInto := by decide +kernel
  have iX2 : ∀ w ∈ u_ws RX2 TX2 2, w ∈ wsX2_popInto := by decide +kernel
  have f11 : Cond.fieldLink RX2 11 "CorkPermits$History" "states" "[LCorkPermits$Cellar;" ∈ wsX2_popInto := by decide +kernel
  refine J_aln C0 0 dX2_popInto_0 (kk := ?_)
  refine J_get C0 iX2 0 3 1 f18 dX2_popInto_1 (v := .int (nI 6)) (hv := congrArg (fun z => some (Value.int z)) hk) (kk := ?_)
  refine J_ifleN C0 39 (by omega) dX2_popInto_4 (kt := fun c1 => ?_) (kf := fun c1 => ?_)
  · exfalso; omega
  · refine J_aln C0 0 dX2_popInto_7 (kk := ?_)
    refine J_get C0 iX2 0 3 1 f18 dX2_popInto_8 (v := .int (nI 6)) (hv := congrArg (fun z => some (Value.int z)) hk) (kk := ?_)
    refine J_bi C0 6 dX2_popInto_11 (kk := ?_)
    refine J_icmpgtN C0 39 (by omega) (by omega) dX2_popInto_13 (kt := fun c2 => ?_) (kf := fun c2 => ?_)
    · exfalso; omega
    · refine J_aln C0 0 dX2_popInto_16 (kk := ?_)
      refine J_dup C0 dX2_popInto_17 (kk := ?_)
      refine J_get C0 iX2 0 3 1 f18 dX2_popInto_18 (v := .int (nI 6)) (hv := congrArg (fun z => some (Value.int z)) hk) (kk := ?_)
      refine J_ic C0 1 dX2_popInto_21 (kk := ?_)
      refine J_isubN C0 (by omega) dX2_popInto_22 ?_
      refine J_put C0 iX2 tyX2_ok nmX2 0 3 1 (corkW K b nA aA d e F Ga D S (u2 T 0 0 (nI 5))) f18 dX2_popInto_23 (hd := rfl) (kk := ?_)
      refine J_aln C0 1 dX2_popInto_26 (kk := ?_)
      refine J_aln C0 0 dX2_popInto_27 (kk := ?_)
      refine J_get C0 iX2 0 3 0 f11 dX2_popInto_28 (kk := ?_)
      refine J_aln C0 0 dX2_popInto_31 (kk := ?_)
      refine J_get C0 iX2 0 3 1 f18 dX2_popInto_32 (v := .int (nI 5)) (hv := rfl) (kk := ?_)
      refine J_aald C0 0 4 6 dX2_popInto_35 (by omega) (r := e 5 0) (kk := ?_)
      refine J_perm (permI [0, 2, 3, 4, 5, 6, 7, 8, 9, 1, 10] 11 rfl (by decide +kernel) rfl : List.Perm _ ([mainW K b (nA 0) (aA 0) (fun i => some (d i 0)) (fun i => some (e i 0)) (u2 T 0 0 (nI 5)), celW K aA Ga, celW K (d 0) (D 0), celW K (d 1) (D 1), celW K (e 0) (S 0), celW K (e 1) (S 1), celW K (e 2) (S 2), celW K (e 3) (S 3), celW K (e 4) (S 4), celW K nA F, celW K (e 5) (S 5)])) ?_
      refine J_callVd C0 (mX0_copyFrom l K nA (e 5) F (S 5)) [mainW K b (nA 0) (aA 0) (fun i => some (d i 0)) (fun i => some (e i 0)) (u2 T 0 0 (nI 5)), celW K aA Ga, celW K (d 0) (D 0), celW K (d 1) (D 1), celW K (e 0) (S 0), celW K (e 1) (S 1), celW K (e 2) (S 2), celW K (e 3) (S 3), celW K (e 4) (S 4)] [mainW K b (nA 0) (aA 0) (fun i => some (d i 0)) (fun i => some (e i 0)) (u2 T 0 0 (nI 5)), celW K aA Ga, celW K (d 0) (D 0), celW K (d 1) (D 1), celW K (e 0) (S 0), celW K (e 1) (S 1), celW K (e 2) (S 2), celW K (e 3) (S 3), celW K (e 4) (S 4), celW K nA (S 5), celW K (e 5) (S 5)] gX2_popInto_X0_copyFrom dX2_popInto_36 1 0 (kk := ?_)
      refine J_perm (permI [0, 9, 1, 2, 3, 4, 5, 6, 7, 8, 10] 11 rfl (by decide +kernel) rfl : List.Perm _ (corkW K b nA aA d e (S 5) Ga D S (u2 T 0 0 (nI 5)))) ?_
      show J G _ _ _ _ _ []
      exact J_vret C0 hF dX2_popInto_39 ⟨rfl, rfl⟩

theorem mX2_popInto (l : Launch) (K : KT) (b nA aA : Nat → Nat) (d e : Nat → Nat → Nat) (F Ga : FF) (D S : Nat → FF) (T : FF) {k : Nat} (h6 : k < 6) (hk : T 0 0 = nI (k + 1)) : Ct l K yX2_popInto wsX2_popInto rmX2_popInto [.ref (b 3), .ref (nA 0)] (corkW K b nA aA d e F Ga D S T) none (corkW K b nA aA d e (S k) Ga D S (u2 T 0 0 (nI k))) := by
  rcases (show k = 0 ∨ k = 1 ∨ k = 2 ∨ k = 3 ∨ k = 4 ∨ k = 5 by omega) with rfl | rfl | rfl | rfl | rfl | rfl
  · exact mX2_popInto_1 l K b nA aA d e F Ga D S T hk
  · exact mX2_popInto_2 l K b nA aA d e F Ga D S T hk
  · exact mX2_popInto_3 l K b nA aA d e F Ga D S T hk
  · exact mX2_popInto_4 l K b nA aA d e F Ga D S T hk
  · exact mX2_popInto_5 l K b nA aA d e F Ga D S T hk
  · exact mX2_popInto_6 l K b nA aA d e F Ga D S T hk
