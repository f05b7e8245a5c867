abbrev rmX1_init : Room := { frames := 1, cells := 1, slots := 60, locals := 40 }
theorem mX1_init (l : Launch) (K : KT) (p : Nat) : CtP l K yX1_init wsX1_init rmX1_init [.ref p] [[(p, .inr (1, [.null, .int 0]))]] (fun r w => r = none ∧ ∃ q, w = [[(p, .inr (1, [.ref q, .int 0])), (q, .inl (kI K, 60, .inl (fun _ => 0)))]]) := by
  refine CtP_of (cc := cX1_init) (nL := 1) (rt := none) (own := RX1) (lv0 := [(0, .ref p)]) (by decide) rfl (Nat.le_of_ble_eq_true rfl) rfl rfl ?_
  intro G C0 hF hI
  have hI := hI rfl
  have iX1 : ∀ w ∈ u_ws RX1 TX1 2, w ∈ wsX1_init := by decide +kernel
  have f9 : Cond.fieldLink RX1 9 "CorkPermits$DayText" "codes" "[I" ∈ wsX1_init := by decide +kernel
  have hac : Cond.arrayClass .int ∈ wsX1_init := by decide +kernel
  refine J_aln C0 0 dX1_init_0 (kk := ?_)
  refine J_objInit C0 (by decide +kernel) (by decide +kernel) (by decide +kernel) dX1_init_1 (kk := ?_)
  refine J_aln C0 0 dX1_init_4 (kk := ?_)
  refine J_bi C0 60 dX1_init_5 (kk := ?_)
  refine J_newaI C0 dX1_init_7 hac (by decide) (kk := fun q => ?_)
  refine J_putF C0 iX1 tyX1_ok nmX1 0 0 0 [[(p, .inr (1, [.ref q, .int 0]))], [(q, .inl (kI K, 60, .inl (fun _ => 0)))]] f9 dX1_init_9 (hI := hI) (hd := rfl) (kk := ?_)
  refine J_conv (bs2 := [[(p, .inr (1, [.ref q, .int 0])), (q, .inl (kI K, 60, .inl (fun _ => 0)))]]) rfl ?_
  exact J_vret C0 hF dX1_init_12 ⟨rfl, _, rfl⟩
