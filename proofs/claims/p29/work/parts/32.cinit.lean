abbrev rmX0_init : Room := { frames := 2, cells := 16, slots := 245, locals := 60 }
def cel0 : FF := fun i => if i = 1 then (upd (upd (upd (fun _ => 0) 0 (nI 2)) 1 (nI 0)) 2 (nI 0)) else if i = 2 then (upd (upd (upd (fun _ => 0) 0 (nI 4)) 1 (nI 4)) 2 (nI 4)) else fun _ => 0
set_option maxHeartbeats 4000000 in
set_option maxRecDepth 100000 in
theorem mX0_init (l : Launch) (K : KT) (p : Nat) : CtP l K yX0_init wsX0_init rmX0_init [.ref p] [[(p, .inr (0, [.int 0, .int 0, .null, .null, .null, .null, .null, .null, .null, .null, .null, .null, .null, .null]))]] (fun r w => r = none ∧ ∃ a : Nat → Nat, a 0 = p ∧ w = [celW K a cel0]) := by
  refine CtP_of (cc := cX0_init) (nL := 1) (rt := none) (own := RX0) (lv0 := [(0, .ref p)]) (by decide) rfl (Nat.le_of_ble_eq_true rfl) rfl rfl ?_
  intro G C0 hF hI
  have hI := hI rfl
  have iX0 : ∀ w ∈ u_ws RX0 TX0 14, w ∈ wsX0_init := by decide +kernel
  have iX3 : ∀ w ∈ u_ws RX3 TX3 7, w ∈ wsX0_init := by decide +kernel
  have hac : Cond.arrayClass .int ∈ wsX0_init := by decide +kernel
  have f9 : Cond.fieldLink RX0 9 "CorkPermits$Cellar" "settings" "[I" ∈ wsX0_init := by decide +kernel
  have f15 : Cond.fieldLink RX0 15 "CorkPermits$Cellar" "bottles" "[I" ∈ wsX0_init := by decide +kernel
  have f18 : Cond.fieldLink RX0 18 "CorkPermits$Cellar" "full" "[I" ∈ wsX0_init := by decide +kernel
  have f21 : Cond.fieldLink RX0 21 "CorkPermits$Cellar" "drunk" "[I" ∈ wsX0_init := by decide +kernel
  have f24 : Cond.fieldLink RX0 24 "CorkPermits$Cellar" "arrived" "[I" ∈ wsX0_init := by decide +kernel
  have f27 : Cond.fieldLink RX0 27 "CorkPermits$Cellar" "knownLost" "[I" ∈ wsX0_init := by decide +kernel
  have f30 : Cond.fieldLink RX0 30 "CorkPermits$Cellar" "lent" "[I" ∈ wsX0_init := by decide +kernel
  have f33 : Cond.fieldLink RX0 33 "CorkPermits$Cellar" "accounted" "[I" ∈ wsX0_init := by decide +kernel
  have f36 : Cond.fieldLink RX0 36 "CorkPermits$Cellar" "told" "[I" ∈ wsX0_init := by decide +kernel
  have f39 : Cond.fieldLink RX0 39 "CorkPermits$Cellar" "poured" "[I" ∈ wsX0_init := by decide +kernel
  have f42 : Cond.fieldLink RX0 42 "CorkPermits$Cellar" "waiting" "[I" ∈ wsX0_init := by decide +kernel
  have f48 : Cond.fieldLink RX0 48 "CorkPermits$Cellar" "post" "LCorkPermits$Post;" ∈ wsX0_init := by decide +kernel
  refine J_aln C0 0 dX0_init_0 (kk := ?_)
  refine J_objInit C0 (by decide +kernel) (by decide +kernel) (by decide +kernel) dX0_init_1 (kk := ?_)
  refine J_aln C0 0 dX0_init_4 (kk := ?_)
  refine J_ic C0 3 dX0_init_5 (kk := ?_)
  refine J_newaI C0 dX0_init_6 hac (by decide) (kk := fun r1 => ?_)
  refine J_dup C0 dX0_init_8 (kk := ?_)
  refine J_ic C0 0 dX0_init_9 (kk := ?_)
  refine J_ic C0 2 dX0_init_10 (kk := ?_)
  refine J_iast C0 1 0 3 [[(p, .inr (0, [.int 0, .int 0, .null, .null, .null, .null, .null, .null, .null, .null, .null, .null, .null, .null]))], [(r1, .inl (kI K, 3, .inl (upd (fun _ => 0) 0 (nI 2))))]] dX0_init_11 (by omega) (kk := ?_)
  refine J_dup C0 dX0_init_12 (kk := ?_)
  refine J_ic C0 1 dX0_init_13 (kk := ?_)
  refine J_ic C0 0 dX0_init_14 (kk := ?_)
  refine J_iast C0 1 0 3 [[(p, .inr (0, [.int 0, .int 0, .null, .null, .null, .null, .null, .null, .null, .null, .null, .null, .null, .null]))], [(r1, .inl (kI K, 3, .inl (upd (upd (fun _ => 0) 0 (nI 2)) 1 (nI 0))))]] dX0_init_15 (by omega) (kk := ?_)
  refine J_dup C0 dX0_init_16 (kk := ?_)
  refine J_ic C0 2 dX0_init_17 (kk := ?_)
  refine J_ic C0 0 dX0_init_18 (kk := ?_)
  refine J_iast C0 1 0 3 [[(p, .inr (0, [.int 0, .int 0, .null, .null, .null, .null, .null, .null, .null, .null, .null, .null, .null, .null]))], [(r1, .inl (kI K, 3, .inl (upd (upd (upd (fun _ => 0) 0 (nI 2)) 1 (nI 0)) 2 (nI 0))))]] dX0_init_19 (by omega) (kk := ?_)
  refine J_putF C0 iX0 tyX0_ok nmX0 0 0 2 [[(p, .inr (0, [.int 0, .int 0, .ref r1, .null, .null, .null, .null, .null, .null, .null, .null, .null, .null, .null]))], [(r1, .inl (kI K, 3, .inl (upd (upd (upd (fun _ => 0) 0 (nI 2)) 1 (nI 0)) 2 (nI 0))))]] f9 dX0_init_20 (hI := hI) (hd := rfl) (kk := ?_)
  refine J_aln C0 0 dX0_init_23 (kk := ?_)
  refine J_ic C0 3 dX0_init_24 (kk := ?_)
  refine J_newaI C0 dX0_init_25 hac (by decide) (kk := fun r2 => ?_)
  refine J_dup C0 dX0_init_27 (kk := ?_)
  refine J_ic C0 0 dX0_init_28 (kk := ?_)
  refine J_ic C0 4 dX0_init_29 (kk := ?_)
  refine J_iast C0 2 0 3 [[(p, .inr (0, [.int 0, .int 0, .ref r1, .null, .null, .null, .null, .null, .null, .null, .null, .null, .null, .null]))], [(r1, .inl (kI K, 3, .inl (upd (upd (upd (fun _ => 0) 0 (nI 2)) 1 (nI 0)) 2 (nI 0))))], [(r2, .inl (kI K, 3, .inl (upd (fun _ => 0) 0 (nI 4))))]] dX0_init_30 (by omega) (kk := ?_)
  refine J_dup C0 dX0_init_31 (kk := ?_)
  refine J_ic C0 1 dX0_init_32 (kk := ?_)
  refine J_ic C0 4 dX0_init_33 (kk := ?_)
  refine J_iast C0 2 0 3 [[(p, .inr (0, [.int 0, .int 0, .ref r1, .null, .null, .null, .null, .null, .null, .null, .null, .null, .null, .null]))], [(r1, .inl (kI K, 3, .inl (upd (upd (upd (fun _ => 0) 0 (nI 2)) 1 (nI 0)) 2 (nI 0))))], [(r2, .inl (kI K, 3, .inl (upd (upd (fun _ => 0) 0 (nI 4)) 1 (nI 4))))]] dX0_init_34 (by omega) (kk := ?_)
  refine J_dup C0 dX0_init_35 (kk := ?_)
  refine J_ic C0 2 dX0_init_36 (kk := ?_)
  refine J_ic C0 4 dX0_init_37 (kk := ?_)
  refine J_iast C0 2 0 3 [[(p, .inr (0, [.int 0, .int 0, .ref r1, .null, .null, .null, .null, .null, .null, .null, .null, .null, .null, .null]))], [(r1, .inl (kI K, 3, .inl (upd (upd (upd (fun _ => 0) 0 (nI 2)) 1 (nI 0)) 2 (nI 0))))], [(r2, .inl (kI K, 3, .inl (upd (upd (upd (fun _ => 0) 0 (nI 4)) 1 (nI 4)) 2 (nI 4))))]] dX0_init_38 (by omega) (kk := ?_)
  refine J_putF C0 iX0 tyX0_ok nmX0 0 0 3 [[(p, .inr (0, [.int 0, .int 0, .ref r1, .ref r2, .null, .null, .null, .null, .null, .null, .null, .null, .null, .null]))], [(r1, .inl (kI K, 3, .inl (upd (upd (upd (fun _ => 0) 0 (nI 2)) 1 (nI 0)) 2 (nI 0))))], [(r2, .inl (kI K, 3, .inl (upd (upd (upd (fun _ => 0) 0 (nI 4)) 1 (nI 4)) 2 (nI 4))))]] f15 dX0_init_39 (hI := hI) (hd := rfl) (kk := ?_)
  refine J_aln C0 0 dX0_init_42 (kk := ?_)
  refine J_ic C0 3 dX0_init_43 (kk := ?_)
  refine J_newaI C0 dX0_init_44 hac (by decide) (kk := fun r3 => ?_)
  refine J_putF C0 iX0 tyX0_ok nmX0 0 0 4 [[(p, .inr (0, [.int 0, .int 0, .ref r1, .ref r2, .ref r3, .null, .null, .null, .null, .null, .null, .null, .null, .null]))], [(r1, .inl (kI K, 3, .inl (upd (upd (upd (fun _ => 0) 0 (nI 2)) 1 (nI 0)) 2 (nI 0))))], [(r2, .inl (kI K, 3, .inl (upd (upd (upd (fun _ => 0) 0 (nI 4)) 1 (nI 4)) 2 (nI 4))))], [(r3, .inl (kI K, 3, .inl (fun _ => 0)))]] f18 dX0_init_46 (hI := hI) (hd := rfl) (kk := ?_)
  refine J_aln C0 0 dX0_init_49 (kk := ?_)
  refine J_ic C0 3 dX0_init_50 (kk := ?_)
  refine J_newaI C0 dX0_init_51 hac (by decide) (kk := fun r4 => ?_)
  refine J_putF C0 iX0 tyX0_ok nmX0 0 0 5 [[(p, .inr (0, [.int 0, .int 0, .ref r1, .ref r2, .ref r3, .ref r4, .null, .null, .null, .null, .null, .null, .null, .null]))], [(r1, .inl (kI K, 3, .inl (upd (upd (upd (fun _ => 0) 0 (nI 2)) 1 (nI 0)) 2 (nI 0))))], [(r2, .inl (kI K, 3, .inl (upd (upd (upd (fun _ => 0) 0 (nI 4)) 1 (nI 4)) 2 (nI 4))))], [(r3, .inl (kI K, 3, .inl (fun _ => 0)))], [(r4, .inl (kI K, 3, .inl (fun _ => 0)))]] f21 dX0_init_53 (hI := hI) (hd := rfl) (kk := ?_)
  refine J_aln C0 0 dX0_init_56 (kk := ?_)
  refine J_ic C0 3 dX0_init_57 (kk := ?_)
  refine J_newaI C0 dX0_init_58 hac (by decide) (kk := fun r5 => ?_)
  refine J_putF C0 iX0 tyX0_ok nmX0 0 0 6 [[(p, .inr (0, [.int 0, .int 0, .ref r1, .ref r2, .ref r3, .ref r4, .ref r5, .null, .null, .null, .null, .null, .null, .null]))], [(r1, .inl (kI K, 3, .inl (upd (upd (upd (fun _ => 0) 0 (nI 2)) 1 (nI 0)) 2 (nI 0))))], [(r2, .inl (kI K, 3, .inl (upd (upd (upd (fun _ => 0) 0 (nI 4)) 1 (nI 4)) 2 (nI 4))))], [(r3, .inl (kI K, 3, .inl (fun _ => 0)))], [(r4, .inl (kI K, 3, .inl (fun _ => 0)))], [(r5, .inl (kI K, 3, .inl (fun _ => 0)))]] f24 dX0_init_60 (hI := hI) (hd := rfl) (kk := ?_)
  refine J_aln C0 0 dX0_init_63 (kk := ?_)
  refine J_ic C0 3 dX0_init_64 (kk := ?_)
  refine J_newaI C0 dX0_init_65 hac (by decide) (kk := fun r6 => ?_)
  refine J_putF C0 iX0 tyX0_ok nmX0 0 0 7 [[(p, .inr (0, [.int 0, .int 0, .ref r1, .ref r2, .ref r3, .ref r4, .ref r5, .ref r6, .null, .null, .null, .null, .null, .null]))], [(r1, .inl (kI K, 3, .inl (upd (upd (upd (fun _ => 0) 0 (nI 2)) 1 (nI 0)) 2 (nI 0))))], [(r2, .inl (kI K, 3, .inl (upd (upd (upd (fun _ => 0) 0 (nI 4)) 1 (nI 4)) 2 (nI 4))))], [(r3, .inl (kI K, 3, .inl (fun _ => 0)))], [(r4, .inl (kI K, 3, .inl (fun _ => 0)))], [(r5, .inl (kI K, 3, .inl (fun _ => 0)))], [(r6, .inl (kI K, 3, .inl (fun _ => 0)))]] f27 dX0_init_67 (hI := hI) (hd := rfl) (kk := ?_)
  refine J_aln C0 0 dX0_init_70 (kk := ?_)
  refine J_bi C0 12 dX0_init_71 (kk := ?_)
  refine J_newaI C0 dX0_init_73 hac (by decide) (kk := fun r7 => ?_)
  refine J_putF C0 iX0 tyX0_ok nmX0 0 0 8 [[(p, .inr (0, [.int 0, .int 0, .ref r1, .ref r2, .ref r3, .ref r4, .ref r5, .ref r6, .ref r7, .null, .null, .null, .null, .null]))], [(r1, .inl (kI K, 3, .inl (upd (upd (upd (fun _ => 0) 0 (nI 2)) 1 (nI 0)) 2 (nI 0))))], [(r2, .inl (kI K, 3, .inl (upd (upd (upd (fun _ => 0) 0 (nI 4)) 1 (nI 4)) 2 (nI 4))))], [(r3, .inl (kI K, 3, .inl (fun _ => 0)))], [(r4, .inl (kI K, 3, .inl (fun _ => 0)))], [(r5, .inl (kI K, 3, .inl (fun _ => 0)))], [(r6, .inl (kI K, 3, .inl (fun _ => 0)))], [(r7, .inl (kI K, 12, .inl (fun _ => 0)))]] f30 dX0_init_75 (hI := hI) (hd := rfl) (kk := ?_)
  refine J_aln C0 0 dX0_init_78 (kk := ?_)
  refine J_bi C0 12 dX0_init_79 (kk := ?_)
  refine J_newaI C0 dX0_init_81 hac (by decide) (kk := fun r8 => ?_)
  refine J_putF C0 iX0 tyX0_ok nmX0 0 0 9 [[(p, .inr (0, [.int 0, .int 0, .ref r1, .ref r2, .ref r3, .ref r4, .ref r5, .ref r6, .ref r7, .ref r8, .null, .null, .null, .null]))], [(r1, .inl (kI K, 3, .inl (upd (upd (upd (fun _ => 0) 0 (nI 2)) 1 (nI 0)) 2 (nI 0))))], [(r2, .inl (kI K, 3, .inl (upd (upd (upd (fun _ => 0) 0 (nI 4)) 1 (nI 4)) 2 (nI 4))))], [(r3, .inl (kI K, 3, .inl (fun _ => 0)))], [(r4, .inl (kI K, 3, .inl (fun _ => 0)))], [(r5, .inl (kI K, 3, .inl (fun _ => 0)))], [(r6, .inl (kI K, 3, .inl (fun _ => 0)))], [(r7, .inl (kI K, 12, .inl (fun _ => 0)))], [(r8, .inl (kI K, 12, .inl (fun _ => 0)))]] f33 dX0_init_83 (hI := hI) (hd := rfl) (kk := ?_)
  refine J_aln C0 0 dX0_init_86 (kk := ?_)
  refine J_bi C0 12 dX0_init_87 (kk := ?_)
  refine J_newaI C0 dX0_init_89 hac (by decide) (kk := fun r9 => ?_)
  refine J_putF C0 iX0 tyX0_ok nmX0 0 0 10 [[(p, .inr (0, [.int 0, .int 0, .ref r1, .ref r2, .ref r3, .ref r4, .ref r5, .ref r6, .ref r7, .ref r8, .ref r9, .null, .null, .null]))], [(r1, .inl (kI K, 3, .inl (upd (upd (upd (fun _ => 0) 0 (nI 2)) 1 (nI 0)) 2 (nI 0))))], [(r2, .inl (kI K, 3, .inl (upd (upd (upd (fun _ => 0) 0 (nI 4)) 1 (nI 4)) 2 (nI 4))))], [(r3, .inl (kI K, 3, .inl (fun _ => 0)))], [(r4, .inl (kI K, 3, .inl (fun _ => 0)))], [(r5, .inl (kI K, 3, .inl (fun _ => 0)))], [(r6, .inl (kI K, 3, .inl (fun _ => 0)))], [(r7, .inl (kI K, 12, .inl (fun _ => 0)))], [(r8, .inl (kI K, 12, .inl (fun _ => 0)))], [(r9, .inl (kI K, 12, .inl (fun _ => 0)))]] f36 dX0_init_91 (hI := hI) (hd := rfl) (kk := ?_)
  refine J_aln C0 0 dX0_init_94 (kk := ?_)
  refine J_bi C0 12 dX0_init_95 (kk := ?_)
  refine J_newaI C0 dX0_init_97 hac (by decide) (kk := fun r10 => ?_)
  refine J_putF C0 iX0 tyX0_ok nmX0 0 0 11 [[(p, .inr (0, [.int 0, .int 0, .ref r1, .ref r2, .ref r3, .ref r4, .ref r5, .ref r6, .ref r7, .ref r8, .ref r9, .ref r10, .null, .null]))], [(r1, .inl (kI K, 3, .inl (upd (upd (upd (fun _ => 0) 0 (nI 2)) 1 (nI 0)) 2 (nI 0))))], [(r2, .inl (kI K, 3, .inl (upd (upd (upd (fun _ => 0) 0 (nI 4)) 1 (nI 4)) 2 (nI 4))))], [(r3, .inl (kI K, 3, .inl (fun _ => 0)))], [(r4, .inl (kI K, 3, .inl (fun _ => 0)))], [(r5, .inl (kI K, 3, .inl (fun _ => 0)))], [(r6, .inl (kI K, 3, .inl (fun _ => 0)))], [(r7, .inl (kI K, 12, .inl (fun _ => 0)))], [(r8, .inl (kI K, 12, .inl (fun _ => 0)))], [(r9, .inl (kI K, 12, .inl (fun _ => 0)))], [(r10, .inl (kI K, 12, .inl (fun _ => 0)))]] f39 dX0_init_99 (hI := hI) (hd := rfl) (kk := ?_)
  refine J_aln C0 0 dX0_init_102 (kk := ?_)
  refine J_bi C0 12 dX0_init_103 (kk := ?_)
  refine J_newaI C0 dX0_init_105 hac (by decide) (kk := fun r11 => ?_)
  refine J_putF C0 iX0 tyX0_ok nmX0 0 0 12 [[(p, .inr (0, [.int 0, .int 0, .ref r1, .ref r2, .ref r3, .ref r4, .ref r5, .ref r6, .ref r7, .ref r8, .ref r9, .ref r10, .ref r11, .null]))], [(r1, .inl (kI K, 3, .inl (upd (upd (upd (fun _ => 0) 0 (nI 2)) 1 (nI 0)) 2 (nI 0))))], [(r2, .inl (kI K, 3, .inl (upd (upd (upd (fun _ => 0) 0 (nI 4)) 1 (nI 4)) 2 (nI 4))))], [(r3, .inl (kI K, 3, .inl (fun _ => 0)))], [(r4, .inl (kI K, 3, .inl (fun _ => 0)))], [(r5, .inl (kI K, 3, .inl (fun _ => 0)))], [(r6, .inl (kI K, 3, .inl (fun _ => 0)))], [(r7, .inl (kI K, 12, .inl (fun _ => 0)))], [(r8, .inl (kI K, 12, .inl (fun _ => 0)))], [(r9, .inl (kI K, 12, .inl (fun _ => 0)))], [(r10, .inl (kI K, 12, .inl (fun _ => 0)))], [(r11, .inl (kI K, 12, .inl (fun _ => 0)))]] f42 dX0_init_107 (hI := hI) (hd := rfl) (kk := ?_)
  refine J_aln C0 0 dX0_init_110 (kk := ?_)
  refine J_new C0 iX3 _ tyX3_ok (by decide +kernel) (by decide +kernel) (by decide +kernel) [.int 0, .int 0, .int 0, .null, .null, .null, .null] (fun j hj => by rcases (show j = 0 ∨ j = 1 ∨ j = 2 ∨ j = 3 ∨ j = 4 ∨ j = 5 ∨ j = 6 by omega) with rfl | rfl | rfl | rfl | rfl | rfl | rfl <;> rfl) dX0_init_111 (ci := 3) (kk := fun r12 => ?_)
  refine J_dup C0 dX0_init_114 (kk := ?_)
  refine J_callIN C0 (ret := none) (rest := [.ref r12, .ref p]) (wr := [[(p, .inr (0, [.int 0, .int 0, .ref r1, .ref r2, .ref r3, .ref r4, .ref r5, .ref r6, .ref r7, .ref r8, .ref r9, .ref r10, .ref r11, .null]))], [(r1, .inl (kI K, 3, .inl (upd (upd (upd (fun _ => 0) 0 (nI 2)) 1 (nI 0)) 2 (nI 0))))], [(r2, .inl (kI K, 3, .inl (upd (upd (upd (fun _ => 0) 0 (nI 4)) 1 (nI 4)) 2 (nI 4))))], [(r3, .inl (kI K, 3, .inl (fun _ => 0)))], [(r4, .inl (kI K, 3, .inl (fun _ => 0)))], [(r5, .inl (kI K, 3, .inl (fun _ => 0)))], [(r6, .inl (kI K, 3, .inl (fun _ => 0)))], [(r7, .inl (kI K, 12, .inl (fun _ => 0)))], [(r8, .inl (kI K, 12, .inl (fun _ => 0)))], [(r9, .inl (kI K, 12, .inl (fun _ => 0)))], [(r10, .inl (kI K, 12, .inl (fun _ => 0)))], [(r11, .inl (kI K, 12, .inl (fun _ => 0)))]]) (mX3_init l K r12) rfl gX0_init_X3_init_n47 (by decide +kernel) (by decide +kernel) (by decide +kernel) dX0_init_115 0 (kk := fun rv w1 hw1 => ?_)
  obtain ⟨rfl, q, rfl⟩ := hw1
  show J G _ _ _ _ _ [.ref r12, .ref p]
  refine J_putF C0 iX0 tyX0_ok nmX0 0 0 13 ([[(p, .inr (0, [.int 0, .int 0, .ref r1, .ref r2, .ref r3, .ref r4, .ref r5, .ref r6, .ref r7, .ref r8, .ref r9, .ref r10, .ref r11, .ref r12]))], [(r1, .inl (kI K, 3, .inl (upd (upd (upd (fun _ => 0) 0 (nI 2)) 1 (nI 0)) 2 (nI 0))))], [(r2, .inl (kI K, 3, .inl (upd (upd (upd (fun _ => 0) 0 (nI 4)) 1 (nI 4)) 2 (nI 4))))], [(r3, .inl (kI K, 3, .inl (fun _ => 0)))], [(r4, .inl (kI K, 3, .inl (fun _ => 0)))], [(r5, .inl (kI K, 3, .inl (fun _ => 0)))], [(r6, .inl (kI K, 3, .inl (fun _ => 0)))], [(r7, .inl (kI K, 12, .inl (fun _ => 0)))], [(r8, .inl (kI K, 12, .inl (fun _ => 0)))], [(r9, .inl (kI K, 12, .inl (fun _ => 0)))], [(r10, .inl (kI K, 12, .inl (fun _ => 0)))], [(r11, .inl (kI K, 12, .inl (fun _ => 0)))]] ++ post0 K r12 q) f48 dX0_init_118 (hI := hI) (hd := rfl) (kk := ?_)
  refine J_conv (bs2 := [celW K (fun i => [p, r1, r2, r3, r4, r5, r6, r7, r8, r9, r10, r11, r12, q 0, q 1, q 2, q 3].getD i 0) cel0]) rfl ?_
  exact J_vret C0 hF dX0_init_121 ⟨rfl, _, rfl, rfl⟩
