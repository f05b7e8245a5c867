/-! arrivals -/
theorem iterT_s {s : Nat} (hs : 0 < s) (x : FF × Nat) : (iterT s x).1 = (iterT (s - 1) (stepT x)).1 := by
  obtain ⟨t, rfl⟩ : ∃ t, s = t + 1 := ⟨s - 1, by omega⟩
  rfl
theorem letF_1 {F : FF} {r h k : Nat} (e : F 13 r = nI (3 * h + k)) (hh : h < 4) (hk : k < 3) : letF F 1 r = nI h := by
  show F 13 r / nI 3 = _
  rw [e, pk_div (by omega) (by omega) (by omega)]
  congr 1
  omega
theorem letF_2 {F : FF} {r h k : Nat} (e : F 13 r = nI (3 * h + k)) (hh : h < 4) (hk : k < 3) : letF F 2 r = nI k := by
  show F 13 r - F 13 r / nI 3 * nI 3 = _
  rw [e, pk_rem (by omega) (by omega) (by omega)]
  congr 1
  omega
abbrev rmX5_arrives : Room := { frames := 3, cells := 0, slots := 0, locals := 69 }
set_option maxHeartbeats 4000000 in
set_option maxRecDepth 100000 in
theorem mX5_arrives_0 (l : Launch) (K : KT) (a : Nat → Nat) (F : FF) (g P L : Nat → Int32) (M : FF) {n r h k nu : Nat} (en : F 0 4 = nI n) (h40 : n ≤ 40) (hr : r < n) (hh : h < 4) (hk : k < 3) (e13 : F 13 r = nI (3 * h + k)) (e14 : F 14 r = nI nu) (e12 : F 12 r = nI 0) : Ct l K yX5_arrives wsX5_arrives rmX5_arrives [.ref (a 0), .int (nI r)] [modR K a (flat F) g P L M] none [modR K a (flat (tellS (rmS F n r) (3 * h + k) (nI nu))) g P L M] := by
  refine CtP_of (cc := cX5_arrives) (nL := 7) (rt := none) (own := RX5) (lv0 := [(0, .ref (a 0)), (1, .int (nI r))]) (by decide) rfl (Nat.le_of_ble_eq_true rfl) rfl rfl ?_
  intro G C0 hF _
  have f7 : Cond.fieldLink RX5 7 "CorkPermitsModel" "s" "[I" ∈ wsX5_arrives := by decide +kernel
  have iX5 : ∀ w ∈ u_ws RX5 TX5 13, w ∈ wsX5_arrives := by decide +kernel
  refine J_bi C0 83 dX5_arrives_0 (kk := ?_)
  refine J_ic C0 5 dX5_arrives_2 (kk := ?_)
  refine J_iln C0 1 dX5_arrives_3 (kk := ?_)
  refine J_imulN C0 dX5_arrives_4 ?_
  refine J_iaddN C0 dX5_arrives_5 ?_
  refine J_isn C0 [(2, .int (nI (83 + (5 * r)))), (0, .ref (a 0)), (1, .int (nI r))] dX5_arrives_6 (kk := ?_)
  refine J_aln C0 1 dX5_arrives_7 (kk := ?_)
  refine J_get C0 iX5 0 0 0 f7 dX5_arrives_8 (kk := ?_)
  refine J_iln C0 0 dX5_arrives_11 (kk := ?_)
  refine J_ic C0 0 dX5_arrives_12 (kk := ?_)
  refine J_iaddN C0 dX5_arrives_13 ?_
  refine J_iald C0 0 1 283 dX5_arrives_14 (by omega) (v := (nI 0)) (hv := (flat_l F (j := 83 + (5 * r) + 0) (r := r) (c := 0) (by omega) (by omega) (by omega)).trans e12) (kk := ?_)
  refine J_isn C0 [(3, .int (nI 0)), (2, .int (nI (83 + (5 * r)))), (0, .ref (a 0)), (1, .int (nI r))] dX5_arrives_15 (kk := ?_)
  refine J_aln C0 2 dX5_arrives_16 (kk := ?_)
  refine J_get C0 iX5 0 0 0 f7 dX5_arrives_17 (kk := ?_)
  refine J_iln C0 1 dX5_arrives_20 (kk := ?_)
  refine J_ic C0 1 dX5_arrives_21 (kk := ?_)
  refine J_iaddN C0 dX5_arrives_22 ?_
  refine J_iald C0 0 1 283 dX5_arrives_23 (by omega) (v := (nI h)) (hv := (flat_l F (j := 83 + (5 * r) + 1) (r := r) (c := 1) (by omega) (by omega) (by omega)).trans (letF_1 e13 hh hk)) (kk := ?_)
  refine J_is C0 [(4, .int (nI h)), (3, .int (nI 0)), (2, .int (nI (83 + (5 * r)))), (0, .ref (a 0)), (1, .int (nI r))] dX5_arrives_24 (kk := ?_)
  refine J_aln C0 3 dX5_arrives_26 (kk := ?_)
  refine J_get C0 iX5 0 0 0 f7 dX5_arrives_27 (kk := ?_)
  refine J_iln C0 2 dX5_arrives_30 (kk := ?_)
  refine J_ic C0 2 dX5_arrives_31 (kk := ?_)
  refine J_iaddN C0 dX5_arrives_32 ?_
  refine J_iald C0 0 1 283 dX5_arrives_33 (by omega) (v := (nI k)) (hv := (flat_l F (j := 83 + (5 * r) + 2) (r := r) (c := 2) (by omega) (by omega) (by omega)).trans (letF_2 e13 hh hk)) (kk := ?_)
  refine J_is C0 [(5, .int (nI k)), (4, .int (nI h)), (3, .int (nI 0)), (2, .int (nI (83 + (5 * r)))), (0, .ref (a 0)), (1, .int (nI r))] dX5_arrives_34 (kk := ?_)
  refine J_aln C0 4 dX5_arrives_36 (kk := ?_)
  refine J_get C0 iX5 0 0 0 f7 dX5_arrives_37 (kk := ?_)
  refine J_iln C0 3 dX5_arrives_40 (kk := ?_)
  refine J_ic C0 3 dX5_arrives_41 (kk := ?_)
  refine J_iaddN C0 dX5_arrives_42 ?_
  refine J_iald C0 0 1 283 dX5_arrives_43 (by omega) (v := (nI nu)) (hv := (flat_l F (j := 83 + (5 * r) + 3) (r := r) (c := 3) (by omega) (by omega) (by omega)).trans e14) (kk := ?_)
  refine J_is C0 [(6, .int (nI nu)), (5, .int (nI k)), (4, .int (nI h)), (3, .int (nI 0)), (2, .int (nI (83 + (5 * r)))), (0, .ref (a 0)), (1, .int (nI r))] dX5_arrives_44 (kk := ?_)
  refine J_aln C0 5 dX5_arrives_46 (kk := ?_)
  refine J_iln C0 6 dX5_arrives_47 (kk := ?_)
  refine J_callVd C0 (mX5_takesOut l K a F g P L M (n := n) (r := r) en h40 hr) [] [modR K a (flat (rmS F n r)) g P L M] gX5_arrives_X5_takesOut dX5_arrives_48 1 0 (kk := ?_)
  show J G _ _ _ _ _ []
  refine J_iln C0 3 dX5_arrives_51 (kk := ?_)
  refine J_ic C0 1 dX5_arrives_52 (kk := ?_)
  refine J_icmpeqN C0 61 (by omega) (by omega) dX5_arrives_53 (kt := fun c1 => ?_) (kf := fun c1 => ?_)
  · exfalso; omega
  · refine J_iln C0 3 dX5_arrives_56 (kk := ?_)
    refine J_ic C0 3 dX5_arrives_57 (kk := ?_)
    refine J_icmpneN C0 82 (by omega) (by omega) dX5_arrives_58 (kt := fun c2 => ?_) (kf := fun c2 => ?_)
    · refine J_aln C0 5 dX5_arrives_82 (kk := ?_)
      refine J_get C0 iX5 0 0 0 f7 dX5_arrives_83 (kk := ?_)
      refine J_il C0 2 dX5_arrives_86 (kk := ?_)
      refine J_il C0 1 dX5_arrives_88 (kk := ?_)
      refine J_callSd C0 (mX5_at l K (h := h) (k := k)) [modR K a (flat (rmS F n r)) g P L M] [modR K a (flat (rmS F n r)) g P L M] gX5_arrives_X5_at dX5_arrives_90 2 (kk := ?_)
      show J G _ _ _ _ _ [.int (nI (23 + 5 * (3 * h + k))), .ref (a 1)]
      refine J_ic C0 2 dX5_arrives_93 (kk := ?_)
      refine J_iaddN C0 dX5_arrives_94 ?_
      refine J_il C0 0 dX5_arrives_95 (kk := ?_)
      refine J_aln C0 5 dX5_arrives_97 (kk := ?_)
      refine J_il C0 2 dX5_arrives_98 (kk := ?_)
      refine J_il C0 1 dX5_arrives_100 (kk := ?_)
      refine J_ic C0 2 dX5_arrives_102 (kk := ?_)
      refine J_callVd C0 (mX5_of l K a (rmS F n r) g P L M (h := h) (k := k) (w := 2) (by omega) (by omega) (by omega)) [] [modR K a (flat (rmS F n r)) g P L M] gX5_arrives_X5_of dX5_arrives_103 3 0 (kk := ?_)
      show J G _ _ _ _ _ [.int ((rmS F n r) 9 (3 * h + k)), .int (nI nu), .int (nI (23 + 5 * (3 * h + k) + 2)), .ref (a 1)]
      refine J_icmple C0 114 dX5_arrives_106 (kt := fun c3 => ?_) (kf := fun c3 => ?_)
      · refine J_aln C0 5 dX5_arrives_114 (kk := ?_)
        refine J_il C0 2 dX5_arrives_115 (kk := ?_)
        refine J_il C0 1 dX5_arrives_117 (kk := ?_)
        refine J_ic C0 2 dX5_arrives_119 (kk := ?_)
        refine J_callVd C0 (mX5_of l K a (rmS F n r) g P L M (h := h) (k := k) (w := 2) (by omega) (by omega) (by omega)) [] [modR K a (flat (rmS F n r)) g P L M] gX5_arrives_X5_of dX5_arrives_120 3 0 (kk := ?_)
        show J G _ _ _ _ _ [.int ((rmS F n r) 9 (3 * h + k)), .int (nI (23 + 5 * (3 * h + k) + 2)), .ref (a 1)]
        refine J_iast C0 0 1 283 [modR K a (flat (u2 (rmS F n r) 9 (3 * h + k) ((rmS F n r) 9 (3 * h + k)))) g P L M] dX5_arrives_123 (by omega) (hb2 := by exact congrArg (fun f => [modR K a f g P L M]) (flat_up (rmS F n r) (j := 23 + 5 * (3 * h + k) + 2) (q := 3 * h + k) (d := 2) (by omega) (by omega) (by omega) ((rmS F n r) 9 (3 * h + k)))) (kk := ?_)
        refine J_iln C0 3 dX5_arrives_124 (kk := ?_)
        refine J_ic C0 2 dX5_arrives_125 (kk := ?_)
        refine J_icmpneN C0 147 (by omega) (by omega) dX5_arrives_126 (kt := fun c4 => ?_) (kf := fun c4 => ?_)
        · exact J_vret C0 hF dX5_arrives_147 ⟨rfl, by unfold tellS; rw [if_neg (Int32.not_lt.mpr c3)]; try rfl⟩
        · exfalso; omega
      · refine J_il C0 0 dX5_arrives_109 (kk := ?_)
        refine J_goto C0 123 dX5_arrives_111 (kk := ?_)
        refine J_iast C0 0 1 283 [modR K a (flat (u2 (rmS F n r) 9 (3 * h + k) (nI nu))) g P L M] dX5_arrives_123 (by omega) (hb2 := by exact congrArg (fun f => [modR K a f g P L M]) (flat_up (rmS F n r) (j := 23 + 5 * (3 * h + k) + 2) (q := 3 * h + k) (d := 2) (by omega) (by omega) (by omega) (nI nu))) (kk := ?_)
        refine J_iln C0 3 dX5_arrives_124 (kk := ?_)
        refine J_ic C0 2 dX5_arrives_125 (kk := ?_)
        refine J_icmpneN C0 147 (by omega) (by omega) dX5_arrives_126 (kt := fun c5 => ?_) (kf := fun c5 => ?_)
        · exact J_vret C0 hF dX5_arrives_147 ⟨rfl, by unfold tellS; rw [if_pos (Int32.not_le.mp c3)]; try rfl⟩
        · exfalso; omega
    · exfalso; omega

set_option maxHeartbeats 4000000 in
set_option maxRecDepth 100000 in
theorem mX5_arrives_1 (l : Launch) (K : KT) (a : Nat → Nat) (F : FF) (g P L : Nat → Int32) (M : FF) {n r h k nu : Nat} (en : F 0 4 = nI n) (h40 : n ≤ 40) (hr : r < n) (hh : h < 4) (hk : k < 3) (e13 : F 13 r = nI (3 * h + k)) (e14 : F 14 r = nI nu) (e12 : F 12 r = nI 1) : Ct l K yX5_arrives wsX5_arrives rmX5_arrives [.ref (a 0), .int (nI r)] [modR K a (flat F) g P L M] none [modR K a (flat (accR (rmS F n r) k (3 * h + k) (nI nu) (nI 1))) g P L M] := by
  refine CtP_of (cc := cX5_arrives) (nL := 7) (rt := none) (own := RX5) (lv0 := [(0, .ref (a 0)), (1, .int (nI r))]) (by decide) rfl (Nat.le_of_ble_eq_true rfl) rfl rfl ?_
  intro G C0 hF _
  have f7 : Cond.fieldLink RX5 7 "CorkPermitsModel" "s" "[I" ∈ wsX5_arrives := by decide +kernel
  have iX5 : ∀ w ∈ u_ws RX5 TX5 13, w ∈ wsX5_arrives := by decide +kernel
  refine J_bi C0 83 dX5_arrives_0 (kk := ?_)
  refine J_ic C0 5 dX5_arrives_2 (kk := ?_)
  refine J_iln C0 1 dX5_arrives_3 (kk := ?_)
  refine J_imulN C0 dX5_arrives_4 ?_
  refine J_iaddN C0 dX5_arrives_5 ?_
  refine J_isn C0 [(2, .int (nI (83 + (5 * r)))), (0, .ref (a 0)), (1, .int (nI r))] dX5_arrives_6 (kk := ?_)
  refine J_aln C0 1 dX5_arrives_7 (kk := ?_)
  refine J_get C0 iX5 0 0 0 f7 dX5_arrives_8 (kk := ?_)
  refine J_iln C0 0 dX5_arrives_11 (kk := ?_)
  refine J_ic C0 0 dX5_arrives_12 (kk := ?_)
  refine J_iaddN C0 dX5_arrives_13 ?_
  refine J_iald C0 0 1 283 dX5_arrives_14 (by omega) (v := (nI 1)) (hv := (flat_l F (j := 83 + (5 * r) + 0) (r := r) (c := 0) (by omega) (by omega) (by omega)).trans e12) (kk := ?_)
  refine J_isn C0 [(3, .int (nI 1)), (2, .int (nI (83 + (5 * r)))), (0, .ref (a 0)), (1, .int (nI r))] dX5_arrives_15 (kk := ?_)
  refine J_aln C0 2 dX5_arrives_16 (kk := ?_)
  refine J_get C0 iX5 0 0 0 f7 dX5_arrives_17 (kk := ?_)
  refine J_iln C0 1 dX5_arrives_20 (kk := ?_)
  refine J_ic C0 1 dX5_arrives_21 (kk := ?_)
  refine J_iaddN C0 dX5_arrives_22 ?_
  refine J_iald C0 0 1 283 dX5_arrives_23 (by omega) (v := (nI h)) (hv := (flat_l F (j := 83 + (5 * r) + 1) (r := r) (c := 1) (by omega) (by omega) (by omega)).trans (letF_1 e13 hh hk)) (kk := ?_)
  refine J_is C0 [(4, .int (nI h)), (3, .int (nI 1)), (2, .int (nI (83 + (5 * r)))), (0, .ref (a 0)), (1, .int (nI r))] dX5_arrives_24 (kk := ?_)
  refine J_aln C0 3 dX5_arrives_26 (kk := ?_)
  refine J_get C0 iX5 0 0 0 f7 dX5_arrives_27 (kk := ?_)
  refine J_iln C0 2 dX5_arrives_30 (kk := ?_)
  refine J_ic C0 2 dX5_arrives_31 (kk := ?_)
  refine J_iaddN C0 dX5_arrives_32 ?_
  refine J_iald C0 0 1 283 dX5_arrives_33 (by omega) (v := (nI k)) (hv := (flat_l F (j := 83 + (5 * r) + 2) (r := r) (c := 2) (by omega) (by omega) (by omega)).trans (letF_2 e13 hh hk)) (kk := ?_)
  refine J_is C0 [(5, .int (nI k)), (4, .int (nI h)), (3, .int (nI 1)), (2, .int (nI (83 + (5 * r)))), (0, .ref (a 0)), (1, .int (nI r))] dX5_arrives_34 (kk := ?_)
  refine J_aln C0 4 dX5_arrives_36 (kk := ?_)
  refine J_get C0 iX5 0 0 0 f7 dX5_arrives_37 (kk := ?_)
  refine J_iln C0 3 dX5_arrives_40 (kk := ?_)
  refine J_ic C0 3 dX5_arrives_41 (kk := ?_)
  refine J_iaddN C0 dX5_arrives_42 ?_
  refine J_iald C0 0 1 283 dX5_arrives_43 (by omega) (v := (nI nu)) (hv := (flat_l F (j := 83 + (5 * r) + 3) (r := r) (c := 3) (by omega) (by omega) (by omega)).trans e14) (kk := ?_)
  refine J_is C0 [(6, .int (nI nu)), (5, .int (nI k)), (4, .int (nI h)), (3, .int (nI 1)), (2, .int (nI (83 + (5 * r)))), (0, .ref (a 0)), (1, .int (nI r))] dX5_arrives_44 (kk := ?_)
  refine J_aln C0 5 dX5_arrives_46 (kk := ?_)
  refine J_iln C0 6 dX5_arrives_47 (kk := ?_)
  refine J_callVd C0 (mX5_takesOut l K a F g P L M (n := n) (r := r) en h40 hr) [] [modR K a (flat (rmS F n r)) g P L M] gX5_arrives_X5_takesOut dX5_arrives_48 1 0 (kk := ?_)
  show J G _ _ _ _ _ []
  refine J_iln C0 3 dX5_arrives_51 (kk := ?_)
  refine J_ic C0 1 dX5_arrives_52 (kk := ?_)
  refine J_icmpeqN C0 61 (by omega) (by omega) dX5_arrives_53 (kt := fun c1 => ?_) (kf := fun c1 => ?_)
  · refine J_aln C0 5 dX5_arrives_61 (kk := ?_)
    refine J_il C0 2 dX5_arrives_62 (kk := ?_)
    refine J_il C0 1 dX5_arrives_64 (kk := ?_)
    refine J_il C0 0 dX5_arrives_66 (kk := ?_)
    refine J_iln C0 3 dX5_arrives_68 (kk := ?_)
    refine J_ic C0 1 dX5_arrives_69 (kk := ?_)
    refine J_icmpneN C0 77 (by omega) (by omega) dX5_arrives_70 (kt := fun c2 => ?_) (kf := fun c2 => ?_)
    · exfalso; omega
    · refine J_ic C0 1 dX5_arrives_73 (kk := ?_)
      refine J_goto C0 78 dX5_arrives_74 (kk := ?_)
      refine J_callVd C0 (mX5_accounts l K a (rmS F n r) g P L M (h := h) (k := k) (by omega) (by omega) (nI nu) (nI 1)) [] [modR K a (flat (accR (rmS F n r) k (3 * h + k) (nI nu) (nI 1))) g P L M] gX5_arrives_X5_accounts dX5_arrives_78 4 0 (kk := ?_)
      show J G _ _ _ _ _ []
      exact J_vret C0 hF dX5_arrives_81 ⟨rfl, rfl⟩
  · exfalso; omega

set_option maxHeartbeats 4000000 in
set_option maxRecDepth 100000 in
theorem mX5_arrives_2 (l : Launch) (K : KT) (a : Nat → Nat) (F : FF) (g P L : Nat → Int32) (M : FF) {n r h k nu : Nat} (en : F 0 4 = nI n) (h40 : n ≤ 40) (hr : r < n) (hh : h < 4) (hk : k < 3) (e13 : F 13 r = nI (3 * h + k)) (e14 : F 14 r = nI nu) (e12 : F 12 r = nI 2) : Ct l K yX5_arrives wsX5_arrives rmX5_arrives [.ref (a 0), .int (nI r)] [modR K a (flat F) g P L M] none [modR K a (flat (sendS (tellS (rmS F n r) (3 * h + k) (nI nu)) (n - 1) (nI 3) (nI (3 * h + k)) (tellS (rmS F n r) (3 * h + k) (nI nu) 10 (3 * h + k)))) g P L M] := by
  refine CtP_of (cc := cX5_arrives) (nL := 7) (rt := none) (own := RX5) (lv0 := [(0, .ref (a 0)), (1, .int (nI r))]) (by decide) rfl (Nat.le_of_ble_eq_true rfl) rfl rfl ?_
  intro G C0 hF _
  have f7 : Cond.fieldLink RX5 7 "CorkPermitsModel" "s" "[I" ∈ wsX5_arrives := by decide +kernel
  have iX5 : ∀ w ∈ u_ws RX5 TX5 13, w ∈ wsX5_arrives := by decide +kernel
  refine J_bi C0 83 dX5_arrives_0 (kk := ?_)
  refine J_ic C0 5 dX5_arrives_2 (kk := ?_)
  refine J_iln C0 1 dX5_arrives_3 (kk := ?_)
  refine J_imulN C0 dX5_arrives_4 ?_
  refine J_iaddN C0 dX5_arrives_5 ?_
  refine J_isn C0 [(2, .int (nI (83 + (5 * r)))), (0, .ref (a 0)), (1, .int (nI r))] dX5_arrives_6 (kk := ?_)
  refine J_aln C0 1 dX5_arrives_7 (kk := ?_)
  refine J_get C0 iX5 0 0 0 f7 dX5_arrives_8 (kk := ?_)
  refine J_iln C0 0 dX5_arrives_11 (kk := ?_)
  refine J_ic C0 0 dX5_arrives_12 (kk := ?_)
  refine J_iaddN C0 dX5_arrives_13 ?_
  refine J_iald C0 0 1 283 dX5_arrives_14 (by omega) (v := (nI 2)) (hv := (flat_l F (j := 83 + (5 * r) + 0) (r := r) (c := 0) (by omega) (by omega) (by omega)).trans e12) (kk := ?_)
  refine J_isn C0 [(3, .int (nI 2)), (2, .int (nI (83 + (5 * r)))), (0, .ref (a 0)), (1, .int (nI r))] dX5_arrives_15 (kk := ?_)
  refine J_aln C0 2 dX5_arrives_16 (kk := ?_)
  refine J_get C0 iX5 0 0 0 f7 dX5_arrives_17 (kk := ?_)
  refine J_iln C0 1 dX5_arrives_20 (kk := ?_)
  refine J_ic C0 1 dX5_arrives_21 (kk := ?_)
  refine J_iaddN C0 dX5_arrives_22 ?_
  refine J_iald C0 0 1 283 dX5_arrives_23 (by omega) (v := (nI h)) (hv := (flat_l F (j := 83 + (5 * r) + 1) (r := r) (c := 1) (by omega) (by omega) (by omega)).trans (letF_1 e13 hh hk)) (kk := ?_)
  refine J_is C0 [(4, .int (nI h)), (3, .int (nI 2)), (2, .int (nI (83 + (5 * r)))), (0, .ref (a 0)), (1, .int (nI r))] dX5_arrives_24 (kk := ?_)
  refine J_aln C0 3 dX5_arrives_26 (kk := ?_)
  refine J_get C0 iX5 0 0 0 f7 dX5_arrives_27 (kk := ?_)
  refine J_iln C0 2 dX5_arrives_30 (kk := ?_)
  refine J_ic C0 2 dX5_arrives_31 (kk := ?_)
  refine J_iaddN C0 dX5_arrives_32 ?_
  refine J_iald C0 0 1 283 dX5_arrives_33 (by omega) (v := (nI k)) (hv := (flat_l F (j := 83 + (5 * r) + 2) (r := r) (c := 2) (by omega) (by omega) (by omega)).trans (letF_2 e13 hh hk)) (kk := ?_)
  refine J_is C0 [(5, .int (nI k)), (4, .int (nI h)), (3, .int (nI 2)), (2, .int (nI (83 + (5 * r)))), (0, .ref (a 0)), (1, .int (nI r))] dX5_arrives_34 (kk := ?_)
  refine J_aln C0 4 dX5_arrives_36 (kk := ?_)
  refine J_get C0 iX5 0 0 0 f7 dX5_arrives_37 (kk := ?_)
  refine J_iln C0 3 dX5_arrives_40 (kk := ?_)
  refine J_ic C0 3 dX5_arrives_41 (kk := ?_)
  refine J_iaddN C0 dX5_arrives_42 ?_
  refine J_iald C0 0 1 283 dX5_arrives_43 (by omega) (v := (nI nu)) (hv := (flat_l F (j := 83 + (5 * r) + 3) (r := r) (c := 3) (by omega) (by omega) (by omega)).trans e14) (kk := ?_)
  refine J_is C0 [(6, .int (nI nu)), (5, .int (nI k)), (4, .int (nI h)), (3, .int (nI 2)), (2, .int (nI (83 + (5 * r)))), (0, .ref (a 0)), (1, .int (nI r))] dX5_arrives_44 (kk := ?_)
  refine J_aln C0 5 dX5_arrives_46 (kk := ?_)
  refine J_iln C0 6 dX5_arrives_47 (kk := ?_)
  refine J_callVd C0 (mX5_takesOut l K a F g P L M (n := n) (r := r) en h40 hr) [] [modR K a (flat (rmS F n r)) g P L M] gX5_arrives_X5_takesOut dX5_arrives_48 1 0 (kk := ?_)
  show J G _ _ _ _ _ []
  refine J_iln C0 3 dX5_arrives_51 (kk := ?_)
  refine J_ic C0 1 dX5_arrives_52 (kk := ?_)
  refine J_icmpeqN C0 61 (by omega) (by omega) dX5_arrives_53 (kt := fun c1 => ?_) (kf := fun c1 => ?_)
  · exfalso; omega
  · refine J_iln C0 3 dX5_arrives_56 (kk := ?_)
    refine J_ic C0 3 dX5_arrives_57 (kk := ?_)
    refine J_icmpneN C0 82 (by omega) (by omega) dX5_arrives_58 (kt := fun c2 => ?_) (kf := fun c2 => ?_)
    · refine J_aln C0 5 dX5_arrives_82 (kk := ?_)
      refine J_get C0 iX5 0 0 0 f7 dX5_arrives_83 (kk := ?_)
      refine J_il C0 2 dX5_arrives_86 (kk := ?_)
      refine J_il C0 1 dX5_arrives_88 (kk := ?_)
      refine J_callSd C0 (mX5_at l K (h := h) (k := k)) [modR K a (flat (rmS F n r)) g P L M] [modR K a (flat (rmS F n r)) g P L M] gX5_arrives_X5_at dX5_arrives_90 2 (kk := ?_)
      show J G _ _ _ _ _ [.int (nI (23 + 5 * (3 * h + k))), .ref (a 1)]
      refine J_ic C0 2 dX5_arrives_93 (kk := ?_)
      refine J_iaddN C0 dX5_arrives_94 ?_
      refine J_il C0 0 dX5_arrives_95 (kk := ?_)
      refine J_aln C0 5 dX5_arrives_97 (kk := ?_)
      refine J_il C0 2 dX5_arrives_98 (kk := ?_)
      refine J_il C0 1 dX5_arrives_100 (kk := ?_)
      refine J_ic C0 2 dX5_arrives_102 (kk := ?_)
      refine J_callVd C0 (mX5_of l K a (rmS F n r) g P L M (h := h) (k := k) (w := 2) (by omega) (by omega) (by omega)) [] [modR K a (flat (rmS F n r)) g P L M] gX5_arrives_X5_of dX5_arrives_103 3 0 (kk := ?_)
      show J G _ _ _ _ _ [.int ((rmS F n r) 9 (3 * h + k)), .int (nI nu), .int (nI (23 + 5 * (3 * h + k) + 2)), .ref (a 1)]
      refine J_icmple C0 114 dX5_arrives_106 (kt := fun c3 => ?_) (kf := fun c3 => ?_)
      · refine J_aln C0 5 dX5_arrives_114 (kk := ?_)
        refine J_il C0 2 dX5_arrives_115 (kk := ?_)
        refine J_il C0 1 dX5_arrives_117 (kk := ?_)
        refine J_ic C0 2 dX5_arrives_119 (kk := ?_)
        refine J_callVd C0 (mX5_of l K a (rmS F n r) g P L M (h := h) (k := k) (w := 2) (by omega) (by omega) (by omega)) [] [modR K a (flat (rmS F n r)) g P L M] gX5_arrives_X5_of dX5_arrives_120 3 0 (kk := ?_)
        show J G _ _ _ _ _ [.int ((rmS F n r) 9 (3 * h + k)), .int (nI (23 + 5 * (3 * h + k) + 2)), .ref (a 1)]
        refine J_iast C0 0 1 283 [modR K a (flat (u2 (rmS F n r) 9 (3 * h + k) ((rmS F n r) 9 (3 * h + k)))) g P L M] dX5_arrives_123 (by omega) (hb2 := by exact congrArg (fun f => [modR K a f g P L M]) (flat_up (rmS F n r) (j := 23 + 5 * (3 * h + k) + 2) (q := 3 * h + k) (d := 2) (by omega) (by omega) (by omega) ((rmS F n r) 9 (3 * h + k)))) (kk := ?_)
        refine J_iln C0 3 dX5_arrives_124 (kk := ?_)
        refine J_ic C0 2 dX5_arrives_125 (kk := ?_)
        refine J_icmpneN C0 147 (by omega) (by omega) dX5_arrives_126 (kt := fun c4 => ?_) (kf := fun c4 => ?_)
        · exfalso; omega
        · refine J_aln C0 5 dX5_arrives_129 (kk := ?_)
          refine J_ic C0 3 dX5_arrives_130 (kk := ?_)
          refine J_il C0 2 dX5_arrives_131 (kk := ?_)
          refine J_il C0 1 dX5_arrives_133 (kk := ?_)
          refine J_aln C0 5 dX5_arrives_135 (kk := ?_)
          refine J_il C0 2 dX5_arrives_136 (kk := ?_)
          refine J_il C0 1 dX5_arrives_138 (kk := ?_)
          refine J_ic C0 3 dX5_arrives_140 (kk := ?_)
          refine J_callVd C0 (mX5_of l K a (u2 (rmS F n r) 9 (3 * h + k) ((rmS F n r) 9 (3 * h + k))) g P L M (h := h) (k := k) (w := 3) (by omega) (by omega) (by omega)) [] [modR K a (flat (u2 (rmS F n r) 9 (3 * h + k) ((rmS F n r) 9 (3 * h + k)))) g P L M] gX5_arrives_X5_of dX5_arrives_141 3 0 (kk := ?_)
          show J G _ _ _ _ _ [.int ((rmS F n r) 10 (3 * h + k)), .int (nI k), .int (nI h), .int (nI 3), .ref (a 0)]
          refine J_callVd C0 (mX5_sends l K a (u2 (rmS F n r) 9 (3 * h + k) ((rmS F n r) 9 (3 * h + k))) g P L M (n := (n - 1)) (rm_04 F n r) (by omega) (h := h) (k := k) (by omega) (by omega) (nI 3) ((rmS F n r) 10 (3 * h + k))) [] [modR K a (flat (sendS (u2 (rmS F n r) 9 (3 * h + k) ((rmS F n r) 9 (3 * h + k))) (n - 1) (nI 3) (nI (3 * h + k)) ((rmS F n r) 10 (3 * h + k)))) g P L M] gX5_arrives_X5_sends dX5_arrives_144 4 0 (kk := ?_)
          show J G _ _ _ _ _ []
          exact J_vret C0 hF dX5_arrives_147 ⟨rfl, by unfold tellS; rw [if_neg (Int32.not_lt.mpr c3)]; try rfl⟩
      · refine J_il C0 0 dX5_arrives_109 (kk := ?_)
        refine J_goto C0 123 dX5_arrives_111 (kk := ?_)
        refine J_iast C0 0 1 283 [modR K a (flat (u2 (rmS F n r) 9 (3 * h + k) (nI nu))) g P L M] dX5_arrives_123 (by omega) (hb2 := by exact congrArg (fun f => [modR K a f g P L M]) (flat_up (rmS F n r) (j := 23 + 5 * (3 * h + k) + 2) (q := 3 * h + k) (d := 2) (by omega) (by omega) (by omega) (nI nu))) (kk := ?_)
        refine J_iln C0 3 dX5_arrives_124 (kk := ?_)
        refine J_ic C0 2 dX5_arrives_125 (kk := ?_)
        refine J_icmpneN C0 147 (by omega) (by omega) dX5_arrives_126 (kt := fun c5 => ?_) (kf := fun c5 => ?_)
        · exfalso; omega
        · refine J_aln C0 5 dX5_arrives_129 (kk := ?_)
          refine J_ic C0 3 dX5_arrives_130 (kk := ?_)
          refine J_il C0 2 dX5_arrives_131 (kk := ?_)
          refine J_il C0 1 dX5_arrives_133 (kk := ?_)
          refine J_aln C0 5 dX5_arrives_135 (kk := ?_)
          refine J_il C0 2 dX5_arrives_136 (kk := ?_)
          refine J_il C0 1 dX5_arrives_138 (kk := ?_)
          refine J_ic C0 3 dX5_arrives_140 (kk := ?_)
          refine J_callVd C0 (mX5_of l K a (u2 (rmS F n r) 9 (3 * h + k) (nI nu)) g P L M (h := h) (k := k) (w := 3) (by omega) (by omega) (by omega)) [] [modR K a (flat (u2 (rmS F n r) 9 (3 * h + k) (nI nu))) g P L M] gX5_arrives_X5_of dX5_arrives_141 3 0 (kk := ?_)
          show J G _ _ _ _ _ [.int ((rmS F n r) 10 (3 * h + k)), .int (nI k), .int (nI h), .int (nI 3), .ref (a 0)]
          refine J_callVd C0 (mX5_sends l K a (u2 (rmS F n r) 9 (3 * h + k) (nI nu)) g P L M (n := (n - 1)) (rm_04 F n r) (by omega) (h := h) (k := k) (by omega) (by omega) (nI 3) ((rmS F n r) 10 (3 * h + k))) [] [modR K a (flat (sendS (u2 (rmS F n r) 9 (3 * h + k) (nI nu)) (n - 1) (nI 3) (nI (3 * h + k)) ((rmS F n r) 10 (3 * h + k)))) g P L M] gX5_arrives_X5_sends dX5_arrives_144 4 0 (kk := ?_)
          show J G _ _ _ _ _ []
          exact J_vret C0 hF dX5_arrives_147 ⟨rfl, by unfold tellS; rw [if_pos (Int32.not_le.mp c3)]; try rfl⟩
    · exfalso; omega

set_option maxHeartbeats 4000000 in
set_option maxRecDepth 100000 in
theorem mX5_arrives_3 (l : Launch) (K : KT) (a : Nat → Nat) (F : FF) (g P L : Nat → Int32) (M : FF) {n r h k nu : Nat} (en : F 0 4 = nI n) (h40 : n ≤ 40) (hr : r < n) (hh : h < 4) (hk : k < 3) (e13 : F 13 r = nI (3 * h + k)) (e14 : F 14 r = nI nu) (e12 : F 12 r = nI 3) : Ct l K yX5_arrives wsX5_arrives rmX5_arrives [.ref (a 0), .int (nI r)] [modR K a (flat F) g P L M] none [modR K a (flat (accR (rmS F n r) k (3 * h + k) (nI nu) (nI 0))) g P L M] := by
  refine CtP_of (cc := cX5_arrives) (nL := 7) (rt := none) (own := RX5) (lv0 := [(0, .ref (a 0)), (1, .int (nI r))]) (by decide) rfl (Nat.le_of_ble_eq_true rfl) rfl rfl ?_
  intro G C0 hF _
  have f7 : Cond.fieldLink RX5 7 "CorkPermitsModel" "s" "[I" ∈ wsX5_arrives := by decide +kernel
  have iX5 : ∀ w ∈ u_ws RX5 TX5 13, w ∈ wsX5_arrives := by decide +kernel
  refine J_bi C0 83 dX5_arrives_0 (kk := ?_)
  refine J_ic C0 5 dX5_arrives_2 (kk := ?_)
  refine J_iln C0 1 dX5_arrives_3 (kk := ?_)
  refine J_imulN C0 dX5_arrives_4 ?_
  refine J_iaddN C0 dX5_arrives_5 ?_
  refine J_isn C0 [(2, .int (nI (83 + (5 * r)))), (0, .ref (a 0)), (1, .int (nI r))] dX5_arrives_6 (kk := ?_)
  refine J_aln C0 1 dX5_arrives_7 (kk := ?_)
  refine J_get C0 iX5 0 0 0 f7 dX5_arrives_8 (kk := ?_)
  refine J_iln C0 0 dX5_arrives_11 (kk := ?_)
  refine J_ic C0 0 dX5_arrives_12 (kk := ?_)
  refine J_iaddN C0 dX5_arrives_13 ?_
  refine J_iald C0 0 1 283 dX5_arrives_14 (by omega) (v := (nI 3)) (hv := (flat_l F (j := 83 + (5 * r) + 0) (r := r) (c := 0) (by omega) (by omega) (by omega)).trans e12) (kk := ?_)
  refine J_isn C0 [(3, .int (nI 3)), (2, .int (nI (83 + (5 * r)))), (0, .ref (a 0)), (1, .int (nI r))] dX5_arrives_15 (kk := ?_)
  refine J_aln C0 2 dX5_arrives_16 (kk := ?_)
  refine J_get C0 iX5 0 0 0 f7 dX5_arrives_17 (kk := ?_)
  refine J_iln C0 1 dX5_arrives_20 (kk := ?_)
  refine J_ic C0 1 dX5_arrives_21 (kk := ?_)
  refine J_iaddN C0 dX5_arrives_22 ?_
  refine J_iald C0 0 1 283 dX5_arrives_23 (by omega) (v := (nI h)) (hv := (flat_l F (j := 83 + (5 * r) + 1) (r := r) (c := 1) (by omega) (by omega) (by omega)).trans (letF_1 e13 hh hk)) (kk := ?_)
  refine J_is C0 [(4, .int (nI h)), (3, .int (nI 3)), (2, .int (nI (83 + (5 * r)))), (0, .ref (a 0)), (1, .int (nI r))] dX5_arrives_24 (kk := ?_)
  refine J_aln C0 3 dX5_arrives_26 (kk := ?_)
  refine J_get C0 iX5 0 0 0 f7 dX5_arrives_27 (kk := ?_)
  refine J_iln C0 2 dX5_arrives_30 (kk := ?_)
  refine J_ic C0 2 dX5_arrives_31 (kk := ?_)
  refine J_iaddN C0 dX5_arrives_32 ?_
  refine J_iald C0 0 1 283 dX5_arrives_33 (by omega) (v := (nI k)) (hv := (flat_l F (j := 83 + (5 * r) + 2) (r := r) (c := 2) (by omega) (by omega) (by omega)).trans (letF_2 e13 hh hk)) (kk := ?_)
  refine J_is C0 [(5, .int (nI k)), (4, .int (nI h)), (3, .int (nI 3)), (2, .int (nI (83 + (5 * r)))), (0, .ref (a 0)), (1, .int (nI r))] dX5_arrives_34 (kk := ?_)
  refine J_aln C0 4 dX5_arrives_36 (kk := ?_)
  refine J_get C0 iX5 0 0 0 f7 dX5_arrives_37 (kk := ?_)
  refine J_iln C0 3 dX5_arrives_40 (kk := ?_)
  refine J_ic C0 3 dX5_arrives_41 (kk := ?_)
  refine J_iaddN C0 dX5_arrives_42 ?_
  refine J_iald C0 0 1 283 dX5_arrives_43 (by omega) (v := (nI nu)) (hv := (flat_l F (j := 83 + (5 * r) + 3) (r := r) (c := 3) (by omega) (by omega) (by omega)).trans e14) (kk := ?_)
  refine J_is C0 [(6, .int (nI nu)), (5, .int (nI k)), (4, .int (nI h)), (3, .int (nI 3)), (2, .int (nI (83 + (5 * r)))), (0, .ref (a 0)), (1, .int (nI r))] dX5_arrives_44 (kk := ?_)
  refine J_aln C0 5 dX5_arrives_46 (kk := ?_)
  refine J_iln C0 6 dX5_arrives_47 (kk := ?_)
  refine J_callVd C0 (mX5_takesOut l K a F g P L M (n := n) (r := r) en h40 hr) [] [modR K a (flat (rmS F n r)) g P L M] gX5_arrives_X5_takesOut dX5_arrives_48 1 0 (kk := ?_)
  show J G _ _ _ _ _ []
  refine J_iln C0 3 dX5_arrives_51 (kk := ?_)
  refine J_ic C0 1 dX5_arrives_52 (kk := ?_)
  refine J_icmpeqN C0 61 (by omega) (by omega) dX5_arrives_53 (kt := fun c1 => ?_) (kf := fun c1 => ?_)
  · exfalso; omega
  · refine J_iln C0 3 dX5_arrives_56 (kk := ?_)
    refine J_ic C0 3 dX5_arrives_57 (kk := ?_)
    refine J_icmpneN C0 82 (by omega) (by omega) dX5_arrives_58 (kt := fun c2 => ?_) (kf := fun c2 => ?_)
    · exfalso; omega
    · refine J_aln C0 5 dX5_arrives_61 (kk := ?_)
      refine J_il C0 2 dX5_arrives_62 (kk := ?_)
      refine J_il C0 1 dX5_arrives_64 (kk := ?_)
      refine J_il C0 0 dX5_arrives_66 (kk := ?_)
      refine J_iln C0 3 dX5_arrives_68 (kk := ?_)
      refine J_ic C0 1 dX5_arrives_69 (kk := ?_)
      refine J_icmpneN C0 77 (by omega) (by omega) dX5_arrives_70 (kt := fun c3 => ?_) (kf := fun c3 => ?_)
      · refine J_ic C0 0 dX5_arrives_77 (kk := ?_)
        refine J_callVd C0 (mX5_accounts l K a (rmS F n r) g P L M (h := h) (k := k) (by omega) (by omega) (nI nu) (nI 0)) [] [modR K a (flat (accR (rmS F n r) k (3 * h + k) (nI nu) (nI 0))) g P L M] gX5_arrives_X5_accounts dX5_arrives_78 4 0 (kk := ?_)
        show J G _ _ _ _ _ []
        exact J_vret C0 hF dX5_arrives_81 ⟨rfl, rfl⟩
      · exfalso; omega

theorem mX5_arrives (l : Launch) (K : KT) (a : Nat → Nat) (F : FF) (g P L : Nat → Int32) (M : FF) {B hn n : Nat} {N : Nat → Nat → Nat} (hv : InvN B F hn n N) (hB : B < 2 ^ 30) {r : Nat} (hr : r < n) : Ct l K yX5_arrives wsX5_arrives rmX5_arrives [.ref (a 0), .int (nI r)] [modR K a (flat F) g P L M] none [modR K a (flat (readC (rmS F n r) (n - 1) (N 12 r) (N 13 r) (F 14 r))) g P L M] := by
  have n40 := hv.2.1.2
  have hl := hv.2.2.2.2.2.2.1 r (by omega)
  have hm := hv.2.2.2.2.2.2.2.1 r hr
  have h4 := hv.1.2
  have e12 := hv.F12 (show r < 40 by omega)
  have e13 := hv.F13 (show r < 40 by omega)
  have e14 := hv.F14 (show r < 40 by omega)
  obtain ⟨N1, e7, e10, h1⟩ := hv.rm hr
  have ek : N 13 r = 3 * (N 13 r / 3) + N 13 r % 3 := by omega
  have e13' : F 13 r = nI (3 * (N 13 r / 3) + N 13 r % 3) := by rw [← ek]; exact e13
  rcases (show N 12 r = 0 ∨ N 12 r = 1 ∨ N 12 r = 2 ∨ N 12 r = 3 by omega) with q | q | q | q
  · have h := mX5_arrives_0 l K a F g P L M hv.2.1.1 n40 hr (h := N 13 r / 3) (k := N 13 r % 3) (by omega) (by omega) e13' e14 (q ▸ e12)
    rw [← ek] at h
    rw [q, e14]
    exact h
  · have h := mX5_arrives_1 l K a F g P L M hv.2.1.1 n40 hr (h := N 13 r / 3) (k := N 13 r % 3) (by omega) (by omega) e13' e14 (q ▸ e12)
    rw [← ek, acc_pour h1 hB hl.2 (by rw [e10]; exact hm.2.2 (Or.inl q))] at h
    rw [q, e14]
    exact h
  · have h := mX5_arrives_2 l K a F g P L M hv.2.1.1 n40 hr (h := N 13 r / 3) (k := N 13 r % 3) (by omega) (by omega) e13' e14 (q ▸ e12)
    rw [← ek] at h
    rw [q, e14]
    exact h
  · have h := mX5_arrives_3 l K a F g P L M hv.2.1.1 n40 hr (h := N 13 r / 3) (k := N 13 r % 3) (by omega) (by omega) e13' e14 (q ▸ e12)
    rw [← ek, acc_lost h1 hB hl.2 (by rw [e10]; exact hm.2.2 (Or.inr q))] at h
    rw [q, e14]
    exact h
abbrev rmX5_allArrive : Room := { frames := 4, cells := 0, slots := 0, locals := 95 }
set_option maxHeartbeats 4000000 in
set_option maxRecDepth 100000 in
theorem mX5_allArrive (l : Launch) (K : KT) (a : Nat → Nat) (F : FF) (g P L : Nat → Int32) (M : FF) {B hn n : Nat} {N : Nat → Nat → Nat} (hv : InvN B F hn n N) (hB : B < 2 ^ 30) : Ct l K yX5_allArrive wsX5_allArrive rmX5_allArrive [.ref (a 0)] [modR K a (flat F) g P L M] none [modR K a (flat (takeC F)) g P L M] := by
  refine CtP_of (cc := cX5_allArrive) (nL := 2) (rt := none) (own := RX5) (lv0 := [(0, .ref (a 0))]) (by decide) rfl (Nat.le_of_ble_eq_true rfl) rfl rfl ?_
  intro G C0 hF _
  have f7 : Cond.fieldLink RX5 7 "CorkPermitsModel" "s" "[I" ∈ wsX5_allArrive := by decide +kernel
  have iX5 : ∀ w ∈ u_ws RX5 TX5 13, w ∈ wsX5_allArrive := by decide +kernel
  have lp : ∀ (q s r : Nat) (F1 : FF) (n : Nat) (N : Nat → Nat → Nat), InvN B F1 hn n N → s + (n - r) ≤ q → r + s ≤ n → Late F1 (r + s) n → (iterT s (F1, r)).1 = takeC F → J G [modR K a (flat F1) g P L M] [(1, .int (nI r)), (0, .ref (a 0))] 0 0 2 [] := by
    generalize hTF : takeC F = TF at hF ⊢
    clear hv
    intro q
    induction q with
    | zero =>
      intro s r F n N hv hq hrs hL hT
      have en := hv.2.1.1
      have n40 := hv.2.1.2
      refine J_iln C0 0 dX5_allArrive_2 (kk := ?_)
      refine J_aln C0 1 dX5_allArrive_3 (kk := ?_)
      refine J_get C0 iX5 0 0 0 f7 dX5_allArrive_4 (kk := ?_)
      refine J_ic C0 4 dX5_allArrive_7 (kk := ?_)
      refine J_iald C0 0 1 283 dX5_allArrive_8 (by omega) (v := (nI n)) (hv := (flat_0 F (j := 4) (by decide)).trans en) (kk := ?_)
      refine J_icmpgeN C0 48 (by omega) (by omega) dX5_allArrive_9 (kt := fun c1 => ?_) (kf := fun c1 => ?_)
      · exact J_vret C0 hF dX5_allArrive_48 ⟨rfl, congrArg (fun z => [modR K a (flat z) g P L M]) (by rw [← hT, show s = 0 by omega]; rfl)⟩
      · exfalso; omega
    | succ q ih =>
      intro s r F n N hv hq hrs hL hT
      have en := hv.2.1.1
      have n40 := hv.2.1.2
      refine J_iln C0 0 dX5_allArrive_2 (kk := ?_)
      refine J_aln C0 1 dX5_allArrive_3 (kk := ?_)
      refine J_get C0 iX5 0 0 0 f7 dX5_allArrive_4 (kk := ?_)
      refine J_ic C0 4 dX5_allArrive_7 (kk := ?_)
      refine J_iald C0 0 1 283 dX5_allArrive_8 (by omega) (v := (nI n)) (hv := (flat_0 F (j := 4) (by decide)).trans en) (kk := ?_)
      refine J_icmpgeN C0 48 (by omega) (by omega) dX5_allArrive_9 (kt := fun c1 => ?_) (kf := fun c1 => ?_)
      · exact J_vret C0 hF dX5_allArrive_48 ⟨rfl, congrArg (fun z => [modR K a (flat z) g P L M]) (by rw [← hT, show s = 0 by omega]; rfl)⟩
      · refine J_aln C0 1 dX5_allArrive_12 (kk := ?_)
        refine J_get C0 iX5 0 0 0 f7 dX5_allArrive_13 (kk := ?_)
        refine J_bi C0 83 dX5_allArrive_16 (kk := ?_)
        refine J_ic C0 5 dX5_allArrive_18 (kk := ?_)
        refine J_iln C0 0 dX5_allArrive_19 (kk := ?_)
        refine J_imulN C0 dX5_allArrive_20 ?_
        refine J_iaddN C0 dX5_allArrive_21 ?_
        refine J_ic C0 4 dX5_allArrive_22 (kk := ?_)
        refine J_iaddN C0 dX5_allArrive_23 ?_
        refine J_iald C0 0 1 283 dX5_allArrive_24 (by omega) (v := (F 15 r)) (hv := (flat_l F (j := 83 + (5 * r) + 4) (r := r) (c := 4) (by omega) (by omega) (by omega)).trans rfl) (kk := ?_)
        refine J_aln C0 1 dX5_allArrive_25 (kk := ?_)
        refine J_get C0 iX5 0 0 0 f7 dX5_allArrive_26 (kk := ?_)
        refine J_ic C0 0 dX5_allArrive_29 (kk := ?_)
        refine J_iald C0 0 1 283 dX5_allArrive_30 (by omega) (v := (F 0 0)) (hv := (flat_0 F (j := 0) (by decide)).trans rfl) (kk := ?_)
        refine J_icmpne C0 42 dX5_allArrive_31 (kt := fun c2 => ?_) (kf := fun c2 => ?_)
        · refine J_iincN C0 0 [(1, .int (nI (r + 1))), (0, .ref (a 0))] dX5_allArrive_42 (kk := ?_)
          refine J_goto C0 2 dX5_allArrive_45 (kk := ?_)
          rcases Nat.eq_zero_or_pos s with z | z
          · subst z; exact J_lv [0, 1] rfl (ih 0 (r + 1) F n N hv (by omega) (by omega) (fun j h1 h2 => hL j (by omega) h2) hT)
          · exact J_lv [0, 1] rfl (ih (s - 1) (r + 1) F n N hv (by omega) (by omega) (by rw [show r + 1 + (s - 1) = r + s by omega]; exact hL) (by rw [← hT, iterT_s z, stepT_neg c2]))
        · have hs0 : 0 < s := Nat.pos_of_ne_zero (fun z => hL r (by omega) (by omega) c2)
          have hr : r < n := by omega
          refine J_aln C0 1 dX5_allArrive_34 (kk := ?_)
          refine J_iln C0 0 dX5_allArrive_35 (kk := ?_)
          refine J_callVd C0 (mX5_arrives l K a F g P L M hv hB (r := r) hr) [] [modR K a (flat (readC (rmS F n r) (n - 1) (N 12 r) (N 13 r) (F 14 r))) g P L M] gX5_allArrive_X5_arrives dX5_allArrive_36 1 0 (kk := ?_)
          show J G _ _ _ _ _ []
          refine J_goto C0 2 dX5_allArrive_39 (kk := ?_)
          obtain ⟨n2, N2, hn2, hv2⟩ := hv.read hB hr
          have hL2 := late_read hv hr (m := r + (s - 1) + 1) (by omega) (by rw [show r + (s - 1) + 1 = r + s by omega]; exact hL) hn2 hv2.2.1.1
          exact J_lv [0, 1] rfl (ih (s - 1) r _ n2 N2 hv2 (by omega) (by omega) hL2 (by rw [← hT, iterT_s hs0, step_eq hv hr c2]))
  refine J_ic C0 0 dX5_allArrive_0 (kk := ?_)
  refine J_isn C0 [(1, .int (nI 0)), (0, .ref (a 0))] dX5_allArrive_1 (kk := ?_)
  exact J_lv [0, 1] rfl (lp (n + n) n 0 F n N hv (by omega) (by omega) (fun j h1 h2 => by omega) (by unfold takeC; rw [hv.nn]))

abbrev rmX5_why : Room := { frames := 3, cells := 0, slots := 0, locals := 66 }
set_option maxHeartbeats 4000000 in
set_option maxRecDepth 100000 in
theorem mX5_why (l : Launch) (K : KT) (a : Nat → Nat) (F : FF) (g P L : Nat → Int32) (M : FF) {B hn n : Nat} {N : Nat → Nat → Nat} (hv : InvN B F hn n N) (hB : B < 2 ^ 30) {h k : Nat} (hh : h < 4) (hk : k < 3) : Ct l K yX5_why wsX5_why rmX5_why [.ref (a 0), .int (nI h), .int (nI k)] [modR K a (flat F) g P L M] (some (.int (whyC F (3 * h + k)))) [modR K a (flat F) g P L M] := by
  refine CtP_of (cc := cX5_why) (nL := 3) (rt := some .int) (own := RX5) (lv0 := [(0, .ref (a 0)), (1, .int (nI h)), (2, .int (nI k))]) (by decide) rfl (Nat.le_of_ble_eq_true rfl) rfl rfl ?_
  intro G C0 hF _
  have h4 := hv.1.2
  refine J_aln C0 0 dX5_why_0 (kk := ?_)
  refine J_iln C0 1 dX5_why_1 (kk := ?_)
  refine J_iln C0 2 dX5_why_2 (kk := ?_)
  refine J_ic C0 4 dX5_why_3 (kk := ?_)
  refine J_callVd C0 (mX5_of l K a F g P L M (h := h) (k := k) (w := 4) (by omega) (by omega) (by omega)) [] [modR K a (flat F) g P L M] gX5_why_X5_of dX5_why_4 3 0 (kk := ?_)
  show J G _ _ _ _ _ [.int (F 11 (3 * h + k))]
  refine J_ifne C0 12 dX5_why_7 (kt := fun c1 => ?_) (kf := fun c1 => ?_)
  · refine J_aln C0 0 dX5_why_12 (kk := ?_)
    refine J_iln C0 1 dX5_why_13 (kk := ?_)
    refine J_iln C0 2 dX5_why_14 (kk := ?_)
    refine J_callVd C0 (mX5_corks l K a F g P L M (h := h) (k := k) (by omega) (by omega)) [] [modR K a (flat F) g P L M] gX5_why_X5_corks dX5_why_15 2 0 (kk := ?_)
    show J G _ _ _ _ _ [.int (corksS F (3 * h + k))]
    refine J_ifne C0 36 dX5_why_18 (kt := fun c2 => ?_) (kf := fun c2 => ?_)
    · refine J_aln C0 0 dX5_why_36 (kk := ?_)
      refine J_callVd C0 (mX5_hasRoom l K a F g P L M) [] [modR K a (flat F) g P L M] gX5_why_X5_hasRoom dX5_why_37 0 0 (kk := ?_)
      show J G _ _ _ _ _ [.int (if roomS F then nI 1 else nI 0)]
      refine J_ifeqB C0 47 dX5_why_40 (kt := fun c3 => ?_) (kf := fun c3 => ?_)
      · refine J_ic C0 4 dX5_why_47 (kk := ?_)
        exact J_iret C0 hF dX5_why_48 ⟨by rw [← why_eq hv hB (p := 3 * h + k) (by omega)]; simp only [whyR, roomS, c1, c2, c3, not_false_eq_true, not_true_eq_false, and_true, true_and, and_false, false_and, and_self, or_true, true_or, or_false, false_or, if_true, if_false, ite_true, ite_false, eq_self], rfl⟩
      · refine J_ic C0 0 dX5_why_43 (kk := ?_)
        refine J_goto C0 48 dX5_why_44 (kk := ?_)
        exact J_iret C0 hF dX5_why_48 ⟨by rw [← why_eq hv hB (p := 3 * h + k) (by omega)]; simp only [whyR, roomS, c1, c2, c3, not_false_eq_true, not_true_eq_false, and_true, true_and, and_false, false_and, and_self, or_true, true_or, or_false, false_or, if_true, if_false, ite_true, ite_false, eq_self], rfl⟩
    · refine J_aln C0 0 dX5_why_21 (kk := ?_)
      refine J_iln C0 1 dX5_why_22 (kk := ?_)
      refine J_iln C0 2 dX5_why_23 (kk := ?_)
      refine J_callVd C0 (mX5_outOf l K a F g P L M (h := h) (k := k) (by omega) (by omega)) [] [modR K a (flat F) g P L M] gX5_why_X5_outOf dX5_why_24 2 0 (kk := ?_)
      show J G _ _ _ _ _ [.int (outS F (3 * h + k))]
      refine J_ifne C0 34 dX5_why_27 (kt := fun c4 => ?_) (kf := fun c4 => ?_)
      · refine J_ic C0 3 dX5_why_34 (kk := ?_)
        exact J_iret C0 hF dX5_why_35 ⟨by rw [← why_eq hv hB (p := 3 * h + k) (by omega)]; simp only [whyR, roomS, c1, c2, c4, not_false_eq_true, not_true_eq_false, and_true, true_and, and_false, false_and, and_self, or_true, true_or, or_false, false_or, if_true, if_false, ite_true, ite_false, eq_self], rfl⟩
      · refine J_ic C0 2 dX5_why_30 (kk := ?_)
        refine J_goto C0 35 dX5_why_31 (kk := ?_)
        exact J_iret C0 hF dX5_why_35 ⟨by rw [← why_eq hv hB (p := 3 * h + k) (by omega)]; simp only [whyR, roomS, c1, c2, c4, not_false_eq_true, not_true_eq_false, and_true, true_and, and_false, false_and, and_self, or_true, true_or, or_false, false_or, if_true, if_false, ite_true, ite_false, eq_self], rfl⟩
  · refine J_ic C0 1 dX5_why_10 (kk := ?_)
    exact J_iret C0 hF dX5_why_11 ⟨by rw [← why_eq hv hB (p := 3 * h + k) (by omega)]; simp only [whyR, roomS, c1, not_false_eq_true, not_true_eq_false, and_true, true_and, and_false, false_and, and_self, or_true, true_or, or_false, false_or, if_true, if_false, ite_true, ite_false, eq_self], rfl⟩

abbrev rmX5_pours : Room := { frames := 4, cells := 0, slots := 0, locals := 88 }
theorem pk_addsub (x y : Int32) : x + y - x = y := by rw [Int32.add_comm]; exact Int32.add_sub_cancel _ _
set_option maxHeartbeats 4000000 in
set_option maxRecDepth 100000 in
theorem mX5_pours (l : Launch) (K : KT) (a : Nat → Nat) (F : FF) (g P L : Nat → Int32) (M : FF) {B hn n : Nat} {N : Nat → Nat → Nat} (hv : InvN B F hn n N) (hB : B < 2 ^ 30) : Ct l K yX5_pours wsX5_pours rmX5_pours [.ref (a 0)] [modR K a (flat F) g P L M] (some (.int (sumS (poursC F 10) 12 - sumS (F 10) 12))) [modR K a (flat (poursC F)) g P L M] := by
  refine CtP_of (cc := cX5_pours) (nL := 5) (rt := some .int) (own := RX5) (lv0 := [(0, .ref (a 0))]) (by decide) rfl (Nat.le_of_ble_eq_true rfl) rfl rfl ?_
  intro G C0 hF _
  have h4 := hv.1.2
  have f7 : Cond.fieldLink RX5 7 "CorkPermitsModel" "s" "[I" ∈ wsX5_pours := by decide +kernel
  have iX5 : ∀ w ∈ u_ws RX5 TX5 13, w ∈ wsX5_pours := by decide +kernel
  have lp : ∀ (j p c : Nat) (F1 : FF) (n : Nat) (N : Nat → Nat → Nat), InvN B F1 hn n N → p + j = 3 * hn → sumS (F1 10) 12 = sumS (F 10) 12 + nI c → iterP j p F1 = poursC F → J G [modR K a (flat F1) g P L M] [(2, .int (nI p)), (1, .int (nI c)), (0, .ref (a 0))] 0 0 4 [] := by
    generalize hTF : poursC F = TF at hF ⊢
    generalize hSF : sumS (F 10) 12 = SF at hF ⊢
    clear hv hTF hSF
    intro j
    induction j with
    | zero =>
      intro p c F n N hv hq hS hT
      have eh := hv.1.1
      have hT : F = TF := hT
      have hp : p = 3 * hn := by omega
      refine J_iln C0 0 dX5_pours_4 (kk := ?_)
      refine J_ic C0 3 dX5_pours_5 (kk := ?_)
      refine J_aln C0 2 dX5_pours_6 (kk := ?_)
      refine J_get C0 iX5 0 0 0 f7 dX5_pours_7 (kk := ?_)
      refine J_ic C0 1 dX5_pours_10 (kk := ?_)
      refine J_iald C0 0 1 283 dX5_pours_11 (by omega) (v := (nI hn)) (hv := (flat_0 F (j := 1) (by decide)).trans eh) (kk := ?_)
      refine J_imulN C0 dX5_pours_12 ?_
      refine J_icmpgeN C0 94 (by omega) (by omega) dX5_pours_13 (kt := fun c1 => ?_) (kf := fun c1 => ?_)
      · refine J_iln C0 1 dX5_pours_94 (kk := ?_)
        exact J_iret C0 hF dX5_pours_95 ⟨by rw [← hT, hS]; exact congrArg (fun z => some (Value.int z)) (pk_addsub _ _).symm, congrArg (fun z => [modR K a (flat z) g P L M]) hT⟩
      · exfalso; omega
    | succ j ih =>
      intro p c F n N hv hq hS hT
      have eh := hv.1.1
      obtain ⟨h, k, hk, rfl⟩ : ∃ h k, k < 3 ∧ p = 3 * h + k := ⟨p / 3, p % 3, by omega, by omega⟩
      have hh : h < 4 := by omega
      refine J_iln C0 0 dX5_pours_4 (kk := ?_)
      refine J_ic C0 3 dX5_pours_5 (kk := ?_)
      refine J_aln C0 2 dX5_pours_6 (kk := ?_)
      refine J_get C0 iX5 0 0 0 f7 dX5_pours_7 (kk := ?_)
      refine J_ic C0 1 dX5_pours_10 (kk := ?_)
      refine J_iald C0 0 1 283 dX5_pours_11 (by omega) (v := (nI hn)) (hv := (flat_0 F (j := 1) (by decide)).trans eh) (kk := ?_)
      refine J_imulN C0 dX5_pours_12 ?_
      refine J_icmpgeN C0 94 (by omega) (by omega) dX5_pours_13 (kt := fun c1 => ?_) (kf := fun c1 => ?_)
      · exfalso; omega
      · refine J_iln C0 0 dX5_pours_16 (kk := ?_)
        refine J_ic C0 3 dX5_pours_17 (kk := ?_)
        refine J_idivV C0 (v := h) (by omega) (by omega) (by omega) (by omega) dX5_pours_18 ?_
        refine J_isn C0 [(3, .int (nI h)), (2, .int (nI (3 * h + k))), (1, .int (nI c)), (0, .ref (a 0))] dX5_pours_19 (kk := ?_)
        refine J_iln C0 1 dX5_pours_20 (kk := ?_)
        refine J_ic C0 3 dX5_pours_21 (kk := ?_)
        refine J_iremV C0 (v := k) (by omega) (by omega) (by omega) (by omega) dX5_pours_22 ?_
        refine J_is C0 [(4, .int (nI k)), (3, .int (nI h)), (2, .int (nI (3 * h + k))), (1, .int (nI c)), (0, .ref (a 0))] dX5_pours_23 (kk := ?_)
        refine J_aln C0 4 dX5_pours_25 (kk := ?_)
        refine J_iln C0 1 dX5_pours_26 (kk := ?_)
        refine J_il C0 0 dX5_pours_27 (kk := ?_)
        refine J_callVd C0 (mX5_why l K a F g P L M hv hB (h := h) (k := k) (by omega) (by omega)) [] [modR K a (flat F) g P L M] gX5_pours_X5_why dX5_pours_29 2 0 (kk := ?_)
        show J G _ _ _ _ _ [.int (whyC F (3 * h + k))]
        refine J_ifne C0 88 dX5_pours_32 (kt := fun c2 => ?_) (kf := fun c2 => ?_)
        · refine J_iincN C0 2 [(2, .int (nI (3 * h + k + 1))), (4, .int (nI k)), (3, .int (nI h)), (1, .int (nI c)), (0, .ref (a 0))] dX5_pours_88 (kk := ?_)
          refine J_goto C0 4 dX5_pours_91 (kk := ?_)
          have e : pourStep F (3 * h + k) = F := by unfold pourStep; rw [if_neg c2]
          exact J_lv [0, 3, 4] rfl (ih (3 * h + k + 1) c F n N hv (by omega) hS (by rw [← hT]; show _ = iterP j (3 * h + k + 1) (pourStep F (3 * h + k)); rw [e]))
        · refine J_aln C0 4 dX5_pours_35 (kk := ?_)
          refine J_get C0 iX5 0 0 0 f7 dX5_pours_36 (kk := ?_)
          refine J_iln C0 1 dX5_pours_39 (kk := ?_)
          refine J_il C0 0 dX5_pours_40 (kk := ?_)
          refine J_callSd C0 (mX5_at l K (h := h) (k := k)) [modR K a (flat F) g P L M] [modR K a (flat F) g P L M] gX5_pours_X5_at dX5_pours_42 2 (kk := ?_)
          show J G _ _ _ _ _ [.int (nI (23 + 5 * (3 * h + k))), .ref (a 1)]
          refine J_ic C0 4 dX5_pours_45 (kk := ?_)
          refine J_iaddN C0 dX5_pours_46 ?_
          refine J_dup2 C0 dX5_pours_47 (kk := ?_)
          refine J_iald C0 0 1 283 dX5_pours_48 (by omega) (v := (F 11 (3 * h + k))) (hv := (flat_p F (j := 23 + 5 * (3 * h + k) + 4) (p := 3 * h + k) (c := 4) (by omega) (by omega) (by omega)).trans rfl) (kk := ?_)
          refine J_ic C0 1 dX5_pours_49 (kk := ?_)
          refine J_isub C0 dX5_pours_50 ?_
          refine J_iast C0 0 1 283 [modR K a (flat (u2 F 11 (3 * h + k) ((F 11 (3 * h + k)) - (nI 1)))) g P L M] dX5_pours_51 (by omega) (hb2 := by exact congrArg (fun f => [modR K a f g P L M]) (flat_up F (j := 23 + 5 * (3 * h + k) + 4) (q := 3 * h + k) (d := 4) (by omega) (by omega) (by omega) ((F 11 (3 * h + k)) - (nI 1)))) (kk := ?_)
          refine J_aln C0 4 dX5_pours_52 (kk := ?_)
          refine J_get C0 iX5 0 0 0 f7 dX5_pours_53 (kk := ?_)
          refine J_iln C0 1 dX5_pours_56 (kk := ?_)
          refine J_il C0 0 dX5_pours_57 (kk := ?_)
          refine J_callSd C0 (mX5_at l K (h := h) (k := k)) [modR K a (flat (u2 F 11 (3 * h + k) ((F 11 (3 * h + k)) - (nI 1)))) g P L M] [modR K a (flat (u2 F 11 (3 * h + k) ((F 11 (3 * h + k)) - (nI 1)))) g P L M] gX5_pours_X5_at dX5_pours_59 2 (kk := ?_)
          show J G _ _ _ _ _ [.int (nI (23 + 5 * (3 * h + k))), .ref (a 1)]
          refine J_ic C0 3 dX5_pours_62 (kk := ?_)
          refine J_iaddN C0 dX5_pours_63 ?_
          refine J_dup2 C0 dX5_pours_64 (kk := ?_)
          refine J_iald C0 0 1 283 dX5_pours_65 (by omega) (v := (F 10 (3 * h + k))) (hv := (flat_p (u2 F 11 (3 * h + k) ((F 11 (3 * h + k)) - (nI 1))) (j := 23 + 5 * (3 * h + k) + 3) (p := 3 * h + k) (c := 3) (by omega) (by omega) (by omega)).trans rfl) (kk := ?_)
          refine J_ic C0 1 dX5_pours_66 (kk := ?_)
          refine J_iadd C0 dX5_pours_67 ?_
          refine J_iast C0 0 1 283 [modR K a (flat (u2 (u2 F 11 (3 * h + k) ((F 11 (3 * h + k)) - (nI 1))) 10 (3 * h + k) ((F 10 (3 * h + k)) + (nI 1)))) g P L M] dX5_pours_68 (by omega) (hb2 := by exact congrArg (fun f => [modR K a f g P L M]) (flat_up (u2 F 11 (3 * h + k) ((F 11 (3 * h + k)) - (nI 1))) (j := 23 + 5 * (3 * h + k) + 3) (q := 3 * h + k) (d := 3) (by omega) (by omega) (by omega) ((F 10 (3 * h + k)) + (nI 1)))) (kk := ?_)
          refine J_aln C0 4 dX5_pours_69 (kk := ?_)
          refine J_ic C0 1 dX5_pours_70 (kk := ?_)
          refine J_iln C0 1 dX5_pours_71 (kk := ?_)
          refine J_il C0 0 dX5_pours_72 (kk := ?_)
          refine J_aln C0 4 dX5_pours_74 (kk := ?_)
          refine J_iln C0 1 dX5_pours_75 (kk := ?_)
          refine J_il C0 0 dX5_pours_76 (kk := ?_)
          refine J_ic C0 3 dX5_pours_78 (kk := ?_)
          refine J_callVd C0 (mX5_of l K a (u2 (u2 F 11 (3 * h + k) ((F 11 (3 * h + k)) - (nI 1))) 10 (3 * h + k) ((F 10 (3 * h + k)) + (nI 1))) g P L M (h := h) (k := k) (w := 3) (by omega) (by omega) (by omega)) [] [modR K a (flat (u2 (u2 F 11 (3 * h + k) ((F 11 (3 * h + k)) - (nI 1))) 10 (3 * h + k) ((F 10 (3 * h + k)) + (nI 1)))) g P L M] gX5_pours_X5_of dX5_pours_79 3 0 (kk := ?_)
          show J G _ _ _ _ _ [.int ((u2 (u2 F 11 (3 * h + k) ((F 11 (3 * h + k)) - (nI 1))) 10 (3 * h + k) ((F 10 (3 * h + k)) + (nI 1))) 10 (3 * h + k)), .int (nI k), .int (nI h), .int (nI 1), .ref (a 0)]
          rw [u2_s]
          refine J_callVd C0 (mX5_sends l K a (u2 (u2 F 11 (3 * h + k) ((F 11 (3 * h + k)) - (nI 1))) 10 (3 * h + k) ((F 10 (3 * h + k)) + (nI 1))) g P L M (n := n) hv.2.1.1 (why_0 hv hB (show 3 * h + k < 12 by omega) c2).2.2.1 (h := h) (k := k) (by omega) (by omega) (nI 1) ((F 10 (3 * h + k)) + (nI 1))) [] [modR K a (flat (sendS (u2 (u2 F 11 (3 * h + k) ((F 11 (3 * h + k)) - (nI 1))) 10 (3 * h + k) ((F 10 (3 * h + k)) + (nI 1))) n (nI 1) (nI (3 * h + k)) ((F 10 (3 * h + k)) + (nI 1)))) g P L M] gX5_pours_X5_sends dX5_pours_82 4 0 (kk := ?_)
          show J G _ _ _ _ _ []
          refine J_iincN C0 3 [(1, .int (nI (c + 1))), (4, .int (nI k)), (3, .int (nI h)), (2, .int (nI (3 * h + k))), (0, .ref (a 0))] dX5_pours_85 (kk := ?_)
          refine J_iincN C0 3 [(2, .int (nI (3 * h + k + 1))), (1, .int (nI (c + 1))), (4, .int (nI k)), (3, .int (nI h)), (0, .ref (a 0))] dX5_pours_88 (kk := ?_)
          refine J_goto C0 4 dX5_pours_91 (kk := ?_)
          have e : pourStep F (3 * h + k) = (sendS (u2 (u2 F 11 (3 * h + k) ((F 11 (3 * h + k)) - (nI 1))) 10 (3 * h + k) ((F 10 (3 * h + k)) + (nI 1))) n (nI 1) (nI (3 * h + k)) ((F 10 (3 * h + k)) + (nI 1))) := by unfold pourStep; rw [if_pos c2, hv.nn]
          obtain ⟨n2, N2, hv2⟩ := hv.pstep hB (p := 3 * h + k) (by omega)
          have hs2 := pour_sum F (p := 3 * h + k) (by omega)
          rw [e] at hv2 hs2
          exact J_lv [0, 1, 4] rfl (ih (3 * h + k + 1) (c + 1) (sendS (u2 (u2 F 11 (3 * h + k) ((F 11 (3 * h + k)) - (nI 1))) 10 (3 * h + k) ((F 10 (3 * h + k)) + (nI 1))) n (nI 1) (nI (3 * h + k)) ((F 10 (3 * h + k)) + (nI 1))) n2 N2 hv2 (by omega) (by rw [hs2, if_pos c2, hS, Int32.add_assoc, nI_add]) (by rw [← hT]; show _ = iterP j (3 * h + k + 1) (pourStep F (3 * h + k)); rw [e]))
  refine J_ic C0 0 dX5_pours_0 (kk := ?_)
  refine J_isn C0 [(1, .int (nI 0)), (0, .ref (a 0))] dX5_pours_1 (kk := ?_)
  refine J_ic C0 0 dX5_pours_2 (kk := ?_)
  refine J_isn C0 [(2, .int (nI 0)), (1, .int (nI 0)), (0, .ref (a 0))] dX5_pours_3 (kk := ?_)
  exact J_lv [0, 1, 2] rfl (lp (3 * hn) 0 0 F n N hv (by omega) (Int32.add_zero _).symm (pours_eq hv hB).symm)

abbrev rmX5_lendsAll : Room := { frames := 5, cells := 0, slots := 0, locals := 110 }
set_option maxHeartbeats 4000000 in
set_option maxRecDepth 100000 in
theorem mX5_lendsAll (l : Launch) (K : KT) (a : Nat → Nat) (F : FF) (g P L : Nat → Int32) (M : FF) {B hn n : Nat} {N : Nat → Nat → Nat} (hv : InvN B F hn n N) (hB : B + 12 < 2 ^ 30) : Ct l K yX5_lendsAll wsX5_lendsAll rmX5_lendsAll [.ref (a 0)] [modR K a (flat F) g P L M] none [modR K a (flat (lendsC F)) g P L M] := by
  refine CtP_of (cc := cX5_lendsAll) (nL := 4) (rt := none) (own := RX5) (lv0 := [(0, .ref (a 0))]) (by decide) rfl (Nat.le_of_ble_eq_true rfl) rfl rfl ?_
  intro G C0 hF _
  have h4 := hv.1.2
  have f7 : Cond.fieldLink RX5 7 "CorkPermitsModel" "s" "[I" ∈ wsX5_lendsAll := by decide +kernel
  have iX5 : ∀ w ∈ u_ws RX5 TX5 13, w ∈ wsX5_lendsAll := by decide +kernel
  have lp : ∀ (j p : Nat) (F1 : FF) (n : Nat) (N : Nat → Nat → Nat), InvN (B + p) F1 hn n N → p + j = 3 * hn → iterL j p F1 = lendsC F → J G [modR K a (flat F1) g P L M] [(1, .int (nI p)), (0, .ref (a 0))] 0 0 2 [] := by
    generalize hTF : lendsC F = TF at hF ⊢
    clear hv hTF
    intro j
    induction j with
    | zero =>
      intro p F n N hv hq hT
      have eh := hv.1.1
      have hT : F = TF := hT
      have hp : p = 3 * hn := by omega
      refine J_iln C0 0 dX5_lendsAll_2 (kk := ?_)
      refine J_ic C0 3 dX5_lendsAll_3 (kk := ?_)
      refine J_aln C0 1 dX5_lendsAll_4 (kk := ?_)
      refine J_get C0 iX5 0 0 0 f7 dX5_lendsAll_5 (kk := ?_)
      refine J_ic C0 1 dX5_lendsAll_8 (kk := ?_)
      refine J_iald C0 0 1 283 dX5_lendsAll_9 (by omega) (v := (nI hn)) (hv := (flat_0 F (j := 1) (by decide)).trans eh) (kk := ?_)
      refine J_imulN C0 dX5_lendsAll_10 ?_
      refine J_icmpgeN C0 65 (by omega) (by omega) dX5_lendsAll_11 (kt := fun c1 => ?_) (kf := fun c1 => ?_)
      · exact J_vret C0 hF dX5_lendsAll_65 ⟨rfl, congrArg (fun z => [modR K a (flat z) g P L M]) hT⟩
      · exfalso; omega
    | succ j ih =>
      intro p F n N hv hq hT
      have eh := hv.1.1
      obtain ⟨h, k, hk, rfl⟩ : ∃ h k, k < 3 ∧ p = 3 * h + k := ⟨p / 3, p % 3, by omega, by omega⟩
      have hh : h < 4 := by omega
      refine J_iln C0 0 dX5_lendsAll_2 (kk := ?_)
      refine J_ic C0 3 dX5_lendsAll_3 (kk := ?_)
      refine J_aln C0 1 dX5_lendsAll_4 (kk := ?_)
      refine J_get C0 iX5 0 0 0 f7 dX5_lendsAll_5 (kk := ?_)
      refine J_ic C0 1 dX5_lendsAll_8 (kk := ?_)
      refine J_iald C0 0 1 283 dX5_lendsAll_9 (by omega) (v := (nI hn)) (hv := (flat_0 F (j := 1) (by decide)).trans eh) (kk := ?_)
      refine J_imulN C0 dX5_lendsAll_10 ?_
      refine J_icmpgeN C0 65 (by omega) (by omega) dX5_lendsAll_11 (kt := fun c1 => ?_) (kf := fun c1 => ?_)
      · exfalso; omega
      · refine J_iln C0 0 dX5_lendsAll_14 (kk := ?_)
        refine J_ic C0 3 dX5_lendsAll_15 (kk := ?_)
        refine J_idivV C0 (v := h) (by omega) (by omega) (by omega) (by omega) dX5_lendsAll_16 ?_
        refine J_isn C0 [(2, .int (nI h)), (1, .int (nI (3 * h + k))), (0, .ref (a 0))] dX5_lendsAll_17 (kk := ?_)
        refine J_iln C0 1 dX5_lendsAll_18 (kk := ?_)
        refine J_ic C0 3 dX5_lendsAll_19 (kk := ?_)
        refine J_iremV C0 (v := k) (by omega) (by omega) (by omega) (by omega) dX5_lendsAll_20 ?_
        refine J_isn C0 [(3, .int (nI k)), (2, .int (nI h)), (1, .int (nI (3 * h + k))), (0, .ref (a 0))] dX5_lendsAll_21 (kk := ?_)
        refine J_aln C0 3 dX5_lendsAll_22 (kk := ?_)
        refine J_iln C0 1 dX5_lendsAll_23 (kk := ?_)
        refine J_iln C0 0 dX5_lendsAll_24 (kk := ?_)
        refine J_callVd C0 (mX5_outOf l K a F g P L M (h := h) (k := k) (by omega) (by omega)) [] [modR K a (flat F) g P L M] gX5_lendsAll_X5_outOf dX5_lendsAll_25 2 0 (kk := ?_)
        show J G _ _ _ _ _ [.int (outS F (3 * h + k))]
        refine J_aln C0 3 dX5_lendsAll_28 (kk := ?_)
        refine J_get C0 iX5 0 0 0 f7 dX5_lendsAll_29 (kk := ?_)
        refine J_bi C0 7 dX5_lendsAll_32 (kk := ?_)
        refine J_iald C0 0 1 283 dX5_lendsAll_34 (by omega) (v := (F 1 2)) (hv := (flat_1 F (j := 7) (c := 2) (by omega) (by omega)).trans rfl) (kk := ?_)
        refine J_icmpge C0 59 dX5_lendsAll_35 (kt := fun c2 => ?_) (kf := fun c2 => ?_)
        · refine J_iincN C0 2 [(1, .int (nI (3 * h + k + 1))), (3, .int (nI k)), (2, .int (nI h)), (0, .ref (a 0))] dX5_lendsAll_59 (kk := ?_)
          refine J_goto C0 2 dX5_lendsAll_62 (kk := ?_)
          have e : lendStep F (3 * h + k) = F := by unfold lendStep; rw [show (3 * h + k) % 3 = k by omega, if_neg (fun q => q.1 c2)]
          exact J_lv [0, 3] rfl (ih (3 * h + k + 1) F n N (hv.mono (by omega)) (by omega) (by rw [← hT]; show _ = iterL j (3 * h + k + 1) (lendStep F (3 * h + k)); rw [e]))
        · refine J_aln C0 3 dX5_lendsAll_38 (kk := ?_)
          refine J_iln C0 0 dX5_lendsAll_39 (kk := ?_)
          refine J_callVd C0 (mX5_free l K a F g P L M hv (k := k) (by omega)) [] [modR K a (flat F) g P L M] gX5_lendsAll_X5_free dX5_lendsAll_40 1 0 (kk := ?_)
          show J G _ _ _ _ _ [.int (freeS F k)]
          refine J_ifle C0 59 dX5_lendsAll_43 (kt := fun c3 => ?_) (kf := fun c3 => ?_)
          · refine J_iincN C0 2 [(1, .int (nI (3 * h + k + 1))), (3, .int (nI k)), (2, .int (nI h)), (0, .ref (a 0))] dX5_lendsAll_59 (kk := ?_)
            refine J_goto C0 2 dX5_lendsAll_62 (kk := ?_)
            have e : lendStep F (3 * h + k) = F := by unfold lendStep; rw [show (3 * h + k) % 3 = k by omega, if_neg (fun q => q.2.1 c3)]
            exact J_lv [0, 3] rfl (ih (3 * h + k + 1) F n N (hv.mono (by omega)) (by omega) (by rw [← hT]; show _ = iterL j (3 * h + k + 1) (lendStep F (3 * h + k)); rw [e]))
          · refine J_aln C0 3 dX5_lendsAll_46 (kk := ?_)
            refine J_callVd C0 (mX5_hasRoom l K a F g P L M) [] [modR K a (flat F) g P L M] gX5_lendsAll_X5_hasRoom dX5_lendsAll_47 0 0 (kk := ?_)
            show J G _ _ _ _ _ [.int (if roomS F then nI 1 else nI 0)]
            refine J_ifeqB C0 59 dX5_lendsAll_50 (kt := fun c4 => ?_) (kf := fun c4 => ?_)
            · refine J_iincN C0 2 [(1, .int (nI (3 * h + k + 1))), (3, .int (nI k)), (2, .int (nI h)), (0, .ref (a 0))] dX5_lendsAll_59 (kk := ?_)
              refine J_goto C0 2 dX5_lendsAll_62 (kk := ?_)
              have e : lendStep F (3 * h + k) = F := by unfold lendStep; rw [show (3 * h + k) % 3 = k by omega, if_neg (fun q => c4 q.2.2)]
              exact J_lv [0, 3] rfl (ih (3 * h + k + 1) F n N (hv.mono (by omega)) (by omega) (by rw [← hT]; show _ = iterL j (3 * h + k + 1) (lendStep F (3 * h + k)); rw [e]))
            · refine J_aln C0 3 dX5_lendsAll_53 (kk := ?_)
              refine J_iln C0 1 dX5_lendsAll_54 (kk := ?_)
              refine J_iln C0 0 dX5_lendsAll_55 (kk := ?_)
              refine J_callVd C0 (mX5_lendsOne l K a F g P L M (n := n) hv.2.1.1 (room_lt hv.2.1.1 c4 hv.2.1.2) (h := h) (k := k) (by omega) (by omega)) [] [modR K a (flat (lendS F n (3 * h + k))) g P L M] gX5_lendsAll_X5_lendsOne dX5_lendsAll_56 2 0 (kk := ?_)
              show J G _ _ _ _ _ []
              refine J_iincN C0 2 [(1, .int (nI (3 * h + k + 1))), (3, .int (nI k)), (2, .int (nI h)), (0, .ref (a 0))] dX5_lendsAll_59 (kk := ?_)
              refine J_goto C0 2 dX5_lendsAll_62 (kk := ?_)
              have e : lendStep F (3 * h + k) = (lendS F n (3 * h + k)) := by unfold lendStep; rw [show (3 * h + k) % 3 = k by omega, if_pos ⟨c2, c3, c4⟩, hv.nn]
              obtain ⟨n2, N2, hv2⟩ := hv.lstep (by omega) (p := 3 * h + k) (by omega)
              rw [e] at hv2
              exact J_lv [0, 3] rfl (ih (3 * h + k + 1) (lendS F n (3 * h + k)) n2 N2 hv2 (by omega) (by rw [← hT]; show _ = iterL j (3 * h + k + 1) (lendStep F (3 * h + k)); rw [e]))
  refine J_ic C0 0 dX5_lendsAll_0 (kk := ?_)
  refine J_isn C0 [(1, .int (nI 0)), (0, .ref (a 0))] dX5_lendsAll_1 (kk := ?_)
  exact J_lv [0, 1] rfl (lp (3 * hn) 0 F n N hv (by omega) (by unfold lendsC; rw [nN_h hv.1.1 hv.1.2, Nat.mul_comm]))

