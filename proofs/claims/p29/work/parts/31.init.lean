abbrev rmX3_init : Room := { frames := 1, cells := 4, slots := 160, locals := 40 }
def post0 (K : KT) (p : Nat) (q : Nat → Nat) : List va_W := [[(p, .inr (3, [.int 0, .int 0, .int 0, .ref (q 0), .ref (q 1), .ref (q 2), .ref (q 3)]))], [(q 0, .inl (kI K, 40, .inl (fun _ => 0)))], [(q 1, .inl (kI K, 40, .inl (fun _ => 0)))], [(q 2, .inl (kI K, 40, .inl (fun _ => 0)))], [(q 3, .inl (kI K, 40, .inl (fun _ => 0)))]]
def four (a b c d : Nat) : Nat → Nat := fun i => if i = 0 then a else if i = 1 then b else if i = 2 then c else d
theorem mX3_init (l : Launch) (K : KT) (p : Nat) : CtP l K yX3_init wsX3_init rmX3_init [.ref p] [[(p, .inr (3, [.int 0, .int 0, .int 0, .null, .null, .null, .null]))]] (fun r w => r = none ∧ ∃ q, w = post0 K p q) := by
  refine CtP_of (cc := cX3_init) (nL := 1) (rt := none) (own := RX3) (lv0 := [(0, .ref p)]) (by decide) rfl (Nat.le_of_ble_eq_true rfl) rfl rfl ?_
  intro G C0 hF hI
  have hI := hI rfl
  have iX3 : ∀ w ∈ u_ws RX3 TX3 7, w ∈ wsX3_init := by decide +kernel
  have f9 : Cond.fieldLink RX3 9 "CorkPermits$Post" "sorts" "[I" ∈ wsX3_init := by decide +kernel
  have f15 : Cond.fieldLink RX3 15 "CorkPermits$Post" "places" "[I" ∈ wsX3_init := by decide +kernel
  have f18 : Cond.fieldLink RX3 18 "CorkPermits$Post" "numbers" "[I" ∈ wsX3_init := by decide +kernel
  have f21 : Cond.fieldLink RX3 21 "CorkPermits$Post" "arrivals" "[I" ∈ wsX3_init := by decide +kernel
  have hac : Cond.arrayClass .int ∈ wsX3_init := by decide +kernel
  refine J_aln C0 0 dX3_init_0 (kk := ?_)
  refine J_objInit C0 (by decide +kernel) (by decide +kernel) (by decide +kernel) dX3_init_1 (kk := ?_)
  refine J_aln C0 0 dX3_init_4 (kk := ?_)
  refine J_bi C0 40 dX3_init_5 (kk := ?_)
  refine J_newaI C0 dX3_init_7 hac (by decide) (kk := fun q0 => ?_)
  refine J_putF C0 iX3 tyX3_ok nmX3 0 0 3 [[(p, .inr (3, [.int 0, .int 0, .int 0, .ref q0, .null, .null, .null]))], [(q0, .inl (kI K, 40, .inl (fun _ => 0)))]] f9 dX3_init_9 (hI := hI) (hd := rfl) (kk := ?_)
  refine J_aln C0 0 dX3_init_12 (kk := ?_)
  refine J_bi C0 40 dX3_init_13 (kk := ?_)
  refine J_newaI C0 dX3_init_15 hac (by decide) (kk := fun q1 => ?_)
  refine J_putF C0 iX3 tyX3_ok nmX3 0 0 4 [[(p, .inr (3, [.int 0, .int 0, .int 0, .ref q0, .ref q1, .null, .null]))], [(q0, .inl (kI K, 40, .inl (fun _ => 0)))], [(q1, .inl (kI K, 40, .inl (fun _ => 0)))]] f15 dX3_init_17 (hI := hI) (hd := rfl) (kk := ?_)
  refine J_aln C0 0 dX3_init_20 (kk := ?_)
  refine J_bi C0 40 dX3_init_21 (kk := ?_)
  refine J_newaI C0 dX3_init_23 hac (by decide) (kk := fun q2 => ?_)
  refine J_putF C0 iX3 tyX3_ok nmX3 0 0 5 [[(p, .inr (3, [.int 0, .int 0, .int 0, .ref q0, .ref q1, .ref q2, .null]))], [(q0, .inl (kI K, 40, .inl (fun _ => 0)))], [(q1, .inl (kI K, 40, .inl (fun _ => 0)))], [(q2, .inl (kI K, 40, .inl (fun _ => 0)))]] f18 dX3_init_25 (hI := hI) (hd := rfl) (kk := ?_)
  refine J_aln C0 0 dX3_init_28 (kk := ?_)
  refine J_bi C0 40 dX3_init_29 (kk := ?_)
  refine J_newaI C0 dX3_init_31 hac (by decide) (kk := fun q3 => ?_)
  refine J_putF C0 iX3 tyX3_ok nmX3 0 0 6 (post0 K p (four q0 q1 q2 q3)) f21 dX3_init_33 (hI := hI) (hd := rfl) (kk := ?_)
  exact J_vret C0 hF dX3_init_36 ⟨rfl, _, rfl⟩
