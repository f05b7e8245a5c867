theorem atq_cg {D : va_G} {cl : List vw_C} {a : Nat} {cA : ClassId} {n : Nat} {f g : Nat → Option Nat} {H : Heap} (h : va_at D cl (a, .inl (cA, n, .inr (.inr (.inr (.inr f))))) H) (e : ∀ k, k < n → f k = g k) : va_at D cl (a, .inl (cA, n, .inr (.inr (.inr (.inr g))))) H := by
  have e2 : vp_cell cA (n, .inr (.inr (.inr (.inr f)))) = vp_cell cA (n, .inr (.inr (.inr (.inr g)))) := by
    rw [vp_cell_q, vp_cell_q]
    unfold arrV
    congr 1
    apply Array.ext
    · simp
    · intro i h1 h2
      have hi : i < n := by simpa using h1
      simp [e i hi]
  show H[a]? = some (vp_cell _ _)
  rw [← e2]
  exact h
/-- a row of references changed for one that holds the same within its length -/
theorem J_rfs {K : KT} {l : Launch} {cc : ByteArray} {nL : Nat} {own : String} {Ts : List Cond} {rm : Room} {G : JC} {bs bs2 : List va_W} {lv : List (Nat × Value)} {cells slots pc : Nat} {st : List Value} (C0 : Cx G K l cc nL own Ts rm) (u v : List va_W) {r n : Nat} {f g : Nat → Option Nat} (h : ∀ k, k < n → f k = g k) (e1 : bs = u ++ [(r, .inl (kO K, n, .inr (.inr (.inr (.inr f)))))] :: v := by rfl) (e2 : u ++ [(r, .inl (kO K, n, .inr (.inr (.inr (.inr g)))))] :: v = bs2 := by rfl) (kk : J G bs2 lv cells slots pc st) : J G bs lv cells slots pc st := by
  subst e1
  subst e2
  refine J_cg C0 (fun H hv => cg_mid (fun hb q hq => ?_) hv) ?_ kk
  · simp only [List.mem_singleton] at hq
    subst hq
    exact atq_cg (hb _ List.mem_cons_self) h
  · simp only [List.flatten_append, List.flatten_cons, List.map_append]
    rfl
abbrev rmX2_init : Room := { frames := 3, cells := 103, slots := 1560, locals := 80 }
def six (a b c d e f : Nat → Nat) : Nat → Nat → Nat := fun i => if i = 0 then a else if i = 1 then b else if i = 2 then c else if i = 3 then d else if i = 4 then e else f
def two2 (a b : Nat → Nat) : Nat → Nat → Nat := fun i => if i = 0 then a else b
set_option maxHeartbeats 4000000 in
set_option maxRecDepth 100000 in
theorem mX2_init (l : Launch) (K : KT) (p : Nat) : CtP l K yX2_init wsX2_init rmX2_init [.ref p] [[(p, .inr (2, [.null, .int 0]))]] (fun rv w => rv = none ∧ ∃ (r : Nat) (e : Nat → Nat → Nat), w = [[(p, .inr (2, [.ref r, .int 0]))], [(r, .inl (kO K, 6, .inr (.inr (.inr (.inr (fun i => some (e i 0)))))))], celW K (e 0) cel0, celW K (e 1) cel0, celW K (e 2) cel0, celW K (e 3) cel0, celW K (e 4) cel0, celW K (e 5) cel0]) := by
  refine CtP_of (cc := cX2_init) (nL := 2) (rt := none) (own := RX2) (lv0 := [(0, .ref p)]) (by decide) rfl (Nat.le_of_ble_eq_true rfl) rfl rfl ?_
  intro G C0 hF hI
  have hI := hI rfl
  have iX2 : ∀ w ∈ u_ws RX2 TX2 2, w ∈ wsX2_init := by decide +kernel
  have iX0 : ∀ w ∈ u_ws RX0 TX0 14, w ∈ wsX2_init := by decide +kernel
  have hcl : Cond.classLink RX2 9 RX0 ∈ wsX2_init := by decide +kernel
  have hin : Cond.instantiable RX0 14 ∈ wsX2_init := by decide +kernel
  have hii : Cond.initialized RX0 ∈ wsX2_init := by decide +kernel
  have hn1 : Cond.initialized yX0_init.cls ∈ wsX2_init := by decide +kernel
  have hn2 : (RX2, 17, yX0_init) ∈ nestL := by decide +kernel
  have hn3 : Cond.instanceMethod yX0_init ∈ wsX2_init := by decide +kernel
  have f11 : Cond.fieldLink RX2 11 "CorkPermits$History" "states" "[LCorkPermits$Cellar;" ∈ wsX2_init := by decide +kernel
  refine J_aln C0 0 dX2_init_0 (kk := ?_)
  refine J_objInit C0 (by decide +kernel) (by decide +kernel) (by decide +kernel) dX2_init_1 (kk := ?_)
  refine J_aln C0 0 dX2_init_4 (kk := ?_)
  refine J_bi C0 6 dX2_init_5 (kk := ?_)
  refine J_anew C0 dX2_init_7 hcl (by decide) (kk := fun r => ?_)
  refine J_putF C0 iX2 tyX2_ok nmX2 0 0 0 ([[(p, .inr (2, [.ref r, .int 0]))], [(r, .inl (kO K, 6, .inr (.inr (.inr (.inr (fun _ => none))))))]]) f11 dX2_init_10 (hI := hI) (hd := rfl) (kk := ?_)
  refine J_ic C0 0 dX2_init_13 (kk := ?_)
  refine J_isn C0 [(1, .int (nI 0)), (0, .ref p)] dX2_init_14 (kk := ?_)
  refine J_iln C0 0 dX2_init_15 (kk := ?_)
  refine J_bi C0 6 dX2_init_16 (kk := ?_)
  refine J_icmpgeN C0 40 (by decide) (by decide) dX2_init_18 (kt := fun c => absurd c (by decide)) (kf := fun _ => ?_)
  refine J_aln C0 1 dX2_init_21 (kk := ?_)
  refine J_get C0 iX2 0 0 0 f11 dX2_init_22 (kk := ?_)
  refine J_iln C0 0 dX2_init_25 (kk := ?_)
  refine J_new C0 iX0 _ tyX0_ok hcl hin hii [.int 0, .int 0, .null, .null, .null, .null, .null, .null, .null, .null, .null, .null, .null, .null] (fun j hj => by rcases (show j = 0 ∨ j = 1 ∨ j = 2 ∨ j = 3 ∨ j = 4 ∨ j = 5 ∨ j = 6 ∨ j = 7 ∨ j = 8 ∨ j = 9 ∨ j = 10 ∨ j = 11 ∨ j = 12 ∨ j = 13 by omega) with rfl | rfl | rfl | rfl | rfl | rfl | rfl | rfl | rfl | rfl | rfl | rfl | rfl | rfl <;> rfl) dX2_init_26 (ci := 0) (kk := fun q0 => ?_)
  refine J_dup C0 dX2_init_29 (kk := ?_)
  refine J_callIN C0 (ret := none) (rest := [.ref q0, .int (nI 0), .ref r]) (wr := [[(p, .inr (2, [.ref r, .int 0]))], [(r, .inl (kO K, 6, .inr (.inr (.inr (.inr (fun _ => none))))))]]) (mX0_init l K q0) rfl gX2_init_X0_init_n17 hn1 hn2 hn3 dX2_init_30 0 (kk := fun rv w1 hw1 => ?_)
  obtain ⟨rfl, e0, he0, rfl⟩ := hw1
  subst he0
  show J G _ _ _ _ _ [.ref (e0 0), .int (nI 0), .ref r]
  refine J_aast C0 1 0 2 0 6 ([[(p, .inr (2, [.ref r, .int 0]))], [(r, .inl (kO K, 6, .inr (.inr (.inr (.inr (va_up (fun _ => none) 0 (some (e0 0))))))))], celW K e0 cel0]) dX2_init_33 (by decide) (kk := ?_)
  refine J_iincN C0 0 [(1, .int (nI 1)), (0, .ref p)] dX2_init_34 (kk := ?_)
  refine J_goto C0 15 dX2_init_37 (kk := ?_)
  refine J_iln C0 0 dX2_init_15 (kk := ?_)
  refine J_bi C0 6 dX2_init_16 (kk := ?_)
  refine J_icmpgeN C0 40 (by decide) (by decide) dX2_init_18 (kt := fun c => absurd c (by decide)) (kf := fun _ => ?_)
  refine J_aln C0 1 dX2_init_21 (kk := ?_)
  refine J_get C0 iX2 0 0 0 f11 dX2_init_22 (kk := ?_)
  refine J_iln C0 0 dX2_init_25 (kk := ?_)
  refine J_new C0 iX0 _ tyX0_ok hcl hin hii [.int 0, .int 0, .null, .null, .null, .null, .null, .null, .null, .null, .null, .null, .null, .null] (fun j hj => by rcases (show j = 0 ∨ j = 1 ∨ j = 2 ∨ j = 3 ∨ j = 4 ∨ j = 5 ∨ j = 6 ∨ j = 7 ∨ j = 8 ∨ j = 9 ∨ j = 10 ∨ j = 11 ∨ j = 12 ∨ j = 13 by omega) with rfl | rfl | rfl | rfl | rfl | rfl | rfl | rfl | rfl | rfl | rfl | rfl | rfl | rfl <;> rfl) dX2_init_26 (ci := 0) (kk := fun q1 => ?_)
  refine J_dup C0 dX2_init_29 (kk := ?_)
  refine J_callIN C0 (ret := none) (rest := [.ref q1, .int (nI 1), .ref r]) (wr := [[(p, .inr (2, [.ref r, .int 0]))], [(r, .inl (kO K, 6, .inr (.inr (.inr (.inr (va_up (fun _ => none) 0 (some (e0 0))))))))], celW K e0 cel0]) (mX0_init l K q1) rfl gX2_init_X0_init_n17 hn1 hn2 hn3 dX2_init_30 0 (kk := fun rv w1 hw1 => ?_)
  obtain ⟨rfl, e1, he1, rfl⟩ := hw1
  subst he1
  show J G _ _ _ _ _ [.ref (e1 0), .int (nI 1), .ref r]
  refine J_aast C0 1 0 3 0 6 ([[(p, .inr (2, [.ref r, .int 0]))], [(r, .inl (kO K, 6, .inr (.inr (.inr (.inr (va_up (va_up (fun _ => none) 0 (some (e0 0))) 1 (some (e1 0))))))))], celW K e0 cel0, celW K e1 cel0]) dX2_init_33 (by decide) (kk := ?_)
  refine J_iincN C0 0 [(1, .int (nI 2)), (0, .ref p)] dX2_init_34 (kk := ?_)
  refine J_goto C0 15 dX2_init_37 (kk := ?_)
  refine J_iln C0 0 dX2_init_15 (kk := ?_)
  refine J_bi C0 6 dX2_init_16 (kk := ?_)
  refine J_icmpgeN C0 40 (by decide) (by decide) dX2_init_18 (kt := fun c => absurd c (by decide)) (kf := fun _ => ?_)
  refine J_aln C0 1 dX2_init_21 (kk := ?_)
  refine J_get C0 iX2 0 0 0 f11 dX2_init_22 (kk := ?_)
  refine J_iln C0 0 dX2_init_25 (kk := ?_)
  refine J_new C0 iX0 _ tyX0_ok hcl hin hii [.int 0, .int 0, .null, .null, .null, .null, .null, .null, .null, .null, .null, .null, .null, .null] (fun j hj => by rcases (show j = 0 ∨ j = 1 ∨ j = 2 ∨ j = 3 ∨ j = 4 ∨ j = 5 ∨ j = 6 ∨ j = 7 ∨ j = 8 ∨ j = 9 ∨ j = 10 ∨ j = 11 ∨ j = 12 ∨ j = 13 by omega) with rfl | rfl | rfl | rfl | rfl | rfl | rfl | rfl | rfl | rfl | rfl | rfl | rfl | rfl <;> rfl) dX2_init_26 (ci := 0) (kk := fun q2 => ?_)
  refine J_dup C0 dX2_init_29 (kk := ?_)
  refine J_callIN C0 (ret := none) (rest := [.ref q2, .int (nI 2), .ref r]) (wr := [[(p, .inr (2, [.ref r, .int 0]))], [(r, .inl (kO K, 6, .inr (.inr (.inr (.inr (va_up (va_up (fun _ => none) 0 (some (e0 0))) 1 (some (e1 0))))))))], celW K e0 cel0, celW K e1 cel0]) (mX0_init l K q2) rfl gX2_init_X0_init_n17 hn1 hn2 hn3 dX2_init_30 0 (kk := fun rv w1 hw1 => ?_)
  obtain ⟨rfl, e2, he2, rfl⟩ := hw1
  subst he2
  show J G _ _ _ _ _ [.ref (e2 0), .int (nI 2), .ref r]
  refine J_aast C0 1 0 4 0 6 ([[(p, .inr (2, [.ref r, .int 0]))], [(r, .inl (kO K, 6, .inr (.inr (.inr (.inr (va_up (va_up (va_up (fun _ => none) 0 (some (e0 0))) 1 (some (e1 0))) 2 (some (e2 0))))))))], celW K e0 cel0, celW K e1 cel0, celW K e2 cel0]) dX2_init_33 (by decide) (kk := ?_)
  refine J_iincN C0 0 [(1, .int (nI 3)), (0, .ref p)] dX2_init_34 (kk := ?_)
  refine J_goto C0 15 dX2_init_37 (kk := ?_)
  refine J_iln C0 0 dX2_init_15 (kk := ?_)
  refine J_bi C0 6 dX2_init_16 (kk := ?_)
  refine J_icmpgeN C0 40 (by decide) (by decide) dX2_init_18 (kt := fun c => absurd c (by decide)) (kf := fun _ => ?_)
  refine J_aln C0 1 dX2_init_21 (kk := ?_)
  refine J_get C0 iX2 0 0 0 f11 dX2_init_22 (kk := ?_)
  refine J_iln C0 0 dX2_init_25 (kk := ?_)
  refine J_new C0 iX0 _ tyX0_ok hcl hin hii [.int 0, .int 0, .null, .null, .null, .null, .null, .null, .null, .null, .null, .null, .null, .null] (fun j hj => by rcases (show j = 0 ∨ j = 1 ∨ j = 2 ∨ j = 3 ∨ j = 4 ∨ j = 5 ∨ j = 6 ∨ j = 7 ∨ j = 8 ∨ j = 9 ∨ j = 10 ∨ j = 11 ∨ j = 12 ∨ j = 13 by omega) with rfl | rfl | rfl | rfl | rfl | rfl | rfl | rfl | rfl | rfl | rfl | rfl | rfl | rfl <;> rfl) dX2_init_26 (ci := 0) (kk := fun q3 => ?_)
  refine J_dup C0 dX2_init_29 (kk := ?_)
  refine J_callIN C0 (ret := none) (rest := [.ref q3, .int (nI 3), .ref r]) (wr := [[(p, .inr (2, [.ref r, .int 0]))], [(r, .inl (kO K, 6, .inr (.inr (.inr (.inr (va_up (va_up (va_up (fun _ => none) 0 (some (e0 0))) 1 (some (e1 0))) 2 (some (e2 0))))))))], celW K e0 cel0, celW K e1 cel0, celW K e2 cel0]) (mX0_init l K q3) rfl gX2_init_X0_init_n17 hn1 hn2 hn3 dX2_init_30 0 (kk := fun rv w1 hw1 => ?_)
  obtain ⟨rfl, e3, he3, rfl⟩ := hw1
  subst he3
  show J G _ _ _ _ _ [.ref (e3 0), .int (nI 3), .ref r]
  refine J_aast C0 1 0 5 0 6 ([[(p, .inr (2, [.ref r, .int 0]))], [(r, .inl (kO K, 6, .inr (.inr (.inr (.inr (va_up (va_up (va_up (va_up (fun _ => none) 0 (some (e0 0))) 1 (some (e1 0))) 2 (some (e2 0))) 3 (some (e3 0))))))))], celW K e0 cel0, celW K e1 cel0, celW K e2 cel0, celW K e3 cel0]) dX2_init_33 (by decide) (kk := ?_)
  refine J_iincN C0 0 [(1, .int (nI 4)), (0, .ref p)] dX2_init_34 (kk := ?_)
  refine J_goto C0 15 dX2_init_37 (kk := ?_)
  refine J_iln C0 0 dX2_init_15 (kk := ?_)
  refine J_bi C0 6 dX2_init_16 (kk := ?_)
  refine J_icmpgeN C0 40 (by decide) (by decide) dX2_init_18 (kt := fun c => absurd c (by decide)) (kf := fun _ => ?_)
  refine J_aln C0 1 dX2_init_21 (kk := ?_)
  refine J_get C0 iX2 0 0 0 f11 dX2_init_22 (kk := ?_)
  refine J_iln C0 0 dX2_init_25 (kk := ?_)
  refine J_new C0 iX0 _ tyX0_ok hcl hin hii [.int 0, .int 0, .null, .null, .null, .null, .null, .null, .null, .null, .null, .null, .null, .null] (fun j hj => by rcases (show j = 0 ∨ j = 1 ∨ j = 2 ∨ j = 3 ∨ j = 4 ∨ j = 5 ∨ j = 6 ∨ j = 7 ∨ j = 8 ∨ j = 9 ∨ j = 10 ∨ j = 11 ∨ j = 12 ∨ j = 13 by omega) with rfl | rfl | rfl | rfl | rfl | rfl | rfl | rfl | rfl | rfl | rfl | rfl | rfl | rfl <;> rfl) dX2_init_26 (ci := 0) (kk := fun q4 => ?_)
  refine J_dup C0 dX2_init_29 (kk := ?_)
  refine J_callIN C0 (ret := none) (rest := [.ref q4, .int (nI 4), .ref r]) (wr := [[(p, .inr (2, [.ref r, .int 0]))], [(r, .inl (kO K, 6, .inr (.inr (.inr (.inr (va_up (va_up (va_up (va_up (fun _ => none) 0 (some (e0 0))) 1 (some (e1 0))) 2 (some (e2 0))) 3 (some (e3 0))))))))], celW K e0 cel0, celW K e1 cel0, celW K e2 cel0, celW K e3 cel0]) (mX0_init l K q4) rfl gX2_init_X0_init_n17 hn1 hn2 hn3 dX2_init_30 0 (kk := fun rv w1 hw1 => ?_)
  obtain ⟨rfl, e4, he4, rfl⟩ := hw1
  subst he4
  show J G _ _ _ _ _ [.ref (e4 0), .int (nI 4), .ref r]
  refine J_aast C0 1 0 6 0 6 ([[(p, .inr (2, [.ref r, .int 0]))], [(r, .inl (kO K, 6, .inr (.inr (.inr (.inr (va_up (va_up (va_up (va_up (va_up (fun _ => none) 0 (some (e0 0))) 1 (some (e1 0))) 2 (some (e2 0))) 3 (some (e3 0))) 4 (some (e4 0))))))))], celW K e0 cel0, celW K e1 cel0, celW K e2 cel0, celW K e3 cel0, celW K e4 cel0]) dX2_init_33 (by decide) (kk := ?_)
  refine J_iincN C0 0 [(1, .int (nI 5)), (0, .ref p)] dX2_init_34 (kk := ?_)
  refine J_goto C0 15 dX2_init_37 (kk := ?_)
  refine J_iln C0 0 dX2_init_15 (kk := ?_)
  refine J_bi C0 6 dX2_init_16 (kk := ?_)
  refine J_icmpgeN C0 40 (by decide) (by decide) dX2_init_18 (kt := fun c => absurd c (by decide)) (kf := fun _ => ?_)
  refine J_aln C0 1 dX2_init_21 (kk := ?_)
  refine J_get C0 iX2 0 0 0 f11 dX2_init_22 (kk := ?_)
  refine J_iln C0 0 dX2_init_25 (kk := ?_)
  refine J_new C0 iX0 _ tyX0_ok hcl hin hii [.int 0, .int 0, .null, .null, .null, .null, .null, .null, .null, .null, .null, .null, .null, .null] (fun j hj => by rcases (show j = 0 ∨ j = 1 ∨ j = 2 ∨ j = 3 ∨ j = 4 ∨ j = 5 ∨ j = 6 ∨ j = 7 ∨ j = 8 ∨ j = 9 ∨ j = 10 ∨ j = 11 ∨ j = 12 ∨ j = 13 by omega) with rfl | rfl | rfl | rfl | rfl | rfl | rfl | rfl | rfl | rfl | rfl | rfl | rfl | rfl <;> rfl) dX2_init_26 (ci := 0) (kk := fun q5 => ?_)
  refine J_dup C0 dX2_init_29 (kk := ?_)
  refine J_callIN C0 (ret := none) (rest := [.ref q5, .int (nI 5), .ref r]) (wr := [[(p, .inr (2, [.ref r, .int 0]))], [(r, .inl (kO K, 6, .inr (.inr (.inr (.inr (va_up (va_up (va_up (va_up (va_up (fun _ => none) 0 (some (e0 0))) 1 (some (e1 0))) 2 (some (e2 0))) 3 (some (e3 0))) 4 (some (e4 0))))))))], celW K e0 cel0, celW K e1 cel0, celW K e2 cel0, celW K e3 cel0, celW K e4 cel0]) (mX0_init l K q5) rfl gX2_init_X0_init_n17 hn1 hn2 hn3 dX2_init_30 0 (kk := fun rv w1 hw1 => ?_)
  obtain ⟨rfl, e5, he5, rfl⟩ := hw1
  subst he5
  show J G _ _ _ _ _ [.ref (e5 0), .int (nI 5), .ref r]
  refine J_aast C0 1 0 7 0 6 ([[(p, .inr (2, [.ref r, .int 0]))], [(r, .inl (kO K, 6, .inr (.inr (.inr (.inr (va_up (va_up (va_up (va_up (va_up (va_up (fun _ => none) 0 (some (e0 0))) 1 (some (e1 0))) 2 (some (e2 0))) 3 (some (e3 0))) 4 (some (e4 0))) 5 (some (e5 0))))))))], celW K e0 cel0, celW K e1 cel0, celW K e2 cel0, celW K e3 cel0, celW K e4 cel0, celW K e5 cel0]) dX2_init_33 (by decide) (kk := ?_)
  refine J_iincN C0 0 [(1, .int (nI 6)), (0, .ref p)] dX2_init_34 (kk := ?_)
  refine J_goto C0 15 dX2_init_37 (kk := ?_)
  refine J_iln C0 0 dX2_init_15 (kk := ?_)
  refine J_bi C0 6 dX2_init_16 (kk := ?_)
  refine J_icmpgeN C0 40 (by decide) (by decide) dX2_init_18 (kt := fun _ => ?_) (kf := fun c => absurd c (by decide))
  refine J_rfs C0 [[(p, .inr (2, [.ref r, .int 0]))]] [celW K e0 cel0, celW K e1 cel0, celW K e2 cel0, celW K e3 cel0, celW K e4 cel0, celW K e5 cel0] (n := 6) (f := (va_up (va_up (va_up (va_up (va_up (va_up (fun _ => none) 0 (some (e0 0))) 1 (some (e1 0))) 2 (some (e2 0))) 3 (some (e3 0))) 4 (some (e4 0))) 5 (some (e5 0)))) (g := fun i => some ((six e0 e1 e2 e3 e4 e5) i 0)) (fun k hk => by rcases (show k = 0 ∨ k = 1 ∨ k = 2 ∨ k = 3 ∨ k = 4 ∨ k = 5 by omega) with rfl | rfl | rfl | rfl | rfl | rfl <;> rfl) (kk := ?_)
  exact J_vret C0 hF dX2_init_40 ⟨rfl, r, (six e0 e1 e2 e3 e4 e5), rfl⟩
abbrev rmX4_init : Room := { frames := 4, cells := 176, slots := 2664, locals := 101 }
set_option maxHeartbeats 4000000 in
set_option maxRecDepth 100000 in
theorem mX4_init (l : Launch) (K : KT) (p : Nat) : CtP l K yX4_init wsX4_init rmX4_init [.ref p] [[(p, .inr (4, [.null, .null, .null, .null, .null, .null]))]] (fun rv w => rv = none ∧ ∃ (b nA aA : Nat → Nat) (d e : Nat → Nat → Nat), b 0 = p ∧ w = corkW K b nA aA d e cel0 cel0 (fun _ => cel0) (fun _ => cel0) (fun _ _ => 0)) := by
  refine CtP_of (cc := cX4_init) (nL := 2) (rt := none) (own := RX4) (lv0 := [(0, .ref p)]) (by decide) rfl (Nat.le_of_ble_eq_true rfl) rfl rfl ?_
  intro G C0 hF hI
  have hI := hI rfl
  have iX4 : ∀ w ∈ u_ws RX4 TX4 6, w ∈ wsX4_init := by decide +kernel
  have iX0 : ∀ w ∈ u_ws RX0 TX0 14, w ∈ wsX4_init := by decide +kernel
  have iX2 : ∀ w ∈ u_ws RX2 TX2 2, w ∈ wsX4_init := by decide +kernel
  have iX1 : ∀ w ∈ u_ws RX1 TX1 2, w ∈ wsX4_init := by decide +kernel
  have hcl : Cond.classLink RX4 9 RX0 ∈ wsX4_init := by decide +kernel
  have hin : Cond.instantiable RX0 14 ∈ wsX4_init := by decide +kernel
  have hii : Cond.initialized RX0 ∈ wsX4_init := by decide +kernel
  have hn1 : Cond.initialized yX0_init.cls ∈ wsX4_init := by decide +kernel
  have hn2 : (RX4, 11, yX0_init) ∈ nestL := by decide +kernel
  have hn3 : Cond.instanceMethod yX0_init ∈ wsX4_init := by decide +kernel
  have f12 : Cond.fieldLink RX4 12 "CorkPermits" "now" "LCorkPermits$Cellar;" ∈ wsX4_init := by decide +kernel
  have f16 : Cond.fieldLink RX4 16 "CorkPermits" "ahead" "LCorkPermits$Cellar;" ∈ wsX4_init := by decide +kernel
  have f19 : Cond.fieldLink RX4 19 "CorkPermits" "slots" "[LCorkPermits$Cellar;" ∈ wsX4_init := by decide +kernel
  have f23 : Cond.fieldLink RX4 23 "CorkPermits" "slotTaken" "[Z" ∈ wsX4_init := by decide +kernel
  have f30 : Cond.fieldLink RX4 30 "CorkPermits" "history" "LCorkPermits$History;" ∈ wsX4_init := by decide +kernel
  have f37 : Cond.fieldLink RX4 37 "CorkPermits" "text" "LCorkPermits$DayText;" ∈ wsX4_init := by decide +kernel
  refine J_aln C0 0 dX4_init_0 (kk := ?_)
  refine J_objInit C0 (by decide +kernel) (by decide +kernel) (by decide +kernel) dX4_init_1 (kk := ?_)
  refine J_aln C0 0 dX4_init_4 (kk := ?_)
  refine J_new C0 iX0 _ tyX0_ok hcl hin hii [.int 0, .int 0, .null, .null, .null, .null, .null, .null, .null, .null, .null, .null, .null, .null] (fun j hj => by rcases (show j = 0 ∨ j = 1 ∨ j = 2 ∨ j = 3 ∨ j = 4 ∨ j = 5 ∨ j = 6 ∨ j = 7 ∨ j = 8 ∨ j = 9 ∨ j = 10 ∨ j = 11 ∨ j = 12 ∨ j = 13 by omega) with rfl | rfl | rfl | rfl | rfl | rfl | rfl | rfl | rfl | rfl | rfl | rfl | rfl | rfl <;> rfl) dX4_init_5 (ci := 0) (kk := fun qnA => ?_)
  refine J_dup C0 dX4_init_8 (kk := ?_)
  refine J_callIN C0 (ret := none) (rest := [.ref qnA, .ref p]) (wr := [[(p, .inr (4, [.null, .null, .null, .null, .null, .null]))]]) (mX0_init l K qnA) rfl gX4_init_X0_init_n11 hn1 hn2 hn3 dX4_init_9 0 (kk := fun rv w1 hw1 => ?_)
  obtain ⟨rfl, nA, hnA, rfl⟩ := hw1
  subst hnA
  show J G _ _ _ _ _ [.ref (nA 0), .ref p]
  refine J_putF C0 iX4 tyX4_ok nmX4 0 0 0 ([[(p, .inr (4, [.ref (nA 0), .null, .null, .null, .null, .null]))], celW K nA cel0]) f12 dX4_init_12 (hI := hI) (hd := rfl) (kk := ?_)
  refine J_aln C0 0 dX4_init_15 (kk := ?_)
  refine J_new C0 iX0 _ tyX0_ok hcl hin hii [.int 0, .int 0, .null, .null, .null, .null, .null, .null, .null, .null, .null, .null, .null, .null] (fun j hj => by rcases (show j = 0 ∨ j = 1 ∨ j = 2 ∨ j = 3 ∨ j = 4 ∨ j = 5 ∨ j = 6 ∨ j = 7 ∨ j = 8 ∨ j = 9 ∨ j = 10 ∨ j = 11 ∨ j = 12 ∨ j = 13 by omega) with rfl | rfl | rfl | rfl | rfl | rfl | rfl | rfl | rfl | rfl | rfl | rfl | rfl | rfl <;> rfl) dX4_init_16 (ci := 0) (kk := fun qaA => ?_)
  refine J_dup C0 dX4_init_19 (kk := ?_)
  refine J_callIN C0 (ret := none) (rest := [.ref qaA, .ref p]) (wr := [[(p, .inr (4, [.ref (nA 0), .null, .null, .null, .null, .null]))], celW K nA cel0]) (mX0_init l K qaA) rfl gX4_init_X0_init_n11 hn1 hn2 hn3 dX4_init_20 0 (kk := fun rv w1 hw1 => ?_)
  obtain ⟨rfl, aA, haA, rfl⟩ := hw1
  subst haA
  show J G _ _ _ _ _ [.ref (aA 0), .ref p]
  refine J_putF C0 iX4 tyX4_ok nmX4 0 0 1 ([[(p, .inr (4, [.ref (nA 0), .ref (aA 0), .null, .null, .null, .null]))], celW K nA cel0, celW K aA cel0]) f16 dX4_init_23 (hI := hI) (hd := rfl) (kk := ?_)
  refine J_aln C0 0 dX4_init_26 (kk := ?_)
  refine J_ic C0 2 dX4_init_27 (kk := ?_)
  refine J_anew C0 dX4_init_28 hcl (by decide) (kk := fun sl => ?_)
  refine J_putF C0 iX4 tyX4_ok nmX4 0 0 2 ([[(p, .inr (4, [.ref (nA 0), .ref (aA 0), .ref sl, .null, .null, .null]))], celW K nA cel0, celW K aA cel0, [(sl, .inl (kO K, 2, .inr (.inr (.inr (.inr (fun _ => none))))))]]) f19 dX4_init_31 (hI := hI) (hd := rfl) (kk := ?_)
  refine J_ic C0 0 dX4_init_34 (kk := ?_)
  refine J_isn C0 [(1, .int (nI 0)), (0, .ref p)] dX4_init_35 (kk := ?_)
  refine J_iln C0 0 dX4_init_36 (kk := ?_)
  refine J_ic C0 2 dX4_init_37 (kk := ?_)
  refine J_icmpgeN C0 60 (by decide) (by decide) dX4_init_38 (kt := fun c => absurd c (by decide)) (kf := fun _ => ?_)
  refine J_aln C0 1 dX4_init_41 (kk := ?_)
  refine J_get C0 iX4 0 0 2 f19 dX4_init_42 (kk := ?_)
  refine J_iln C0 0 dX4_init_45 (kk := ?_)
  refine J_new C0 iX0 _ tyX0_ok hcl hin hii [.int 0, .int 0, .null, .null, .null, .null, .null, .null, .null, .null, .null, .null, .null, .null] (fun j hj => by rcases (show j = 0 ∨ j = 1 ∨ j = 2 ∨ j = 3 ∨ j = 4 ∨ j = 5 ∨ j = 6 ∨ j = 7 ∨ j = 8 ∨ j = 9 ∨ j = 10 ∨ j = 11 ∨ j = 12 ∨ j = 13 by omega) with rfl | rfl | rfl | rfl | rfl | rfl | rfl | rfl | rfl | rfl | rfl | rfl | rfl | rfl <;> rfl) dX4_init_46 (ci := 0) (kk := fun qd0 => ?_)
  refine J_dup C0 dX4_init_49 (kk := ?_)
  refine J_callIN C0 (ret := none) (rest := [.ref qd0, .int (nI 0), .ref sl]) (wr := [[(p, .inr (4, [.ref (nA 0), .ref (aA 0), .ref sl, .null, .null, .null]))], celW K nA cel0, celW K aA cel0, [(sl, .inl (kO K, 2, .inr (.inr (.inr (.inr (fun _ => none))))))]]) (mX0_init l K qd0) rfl gX4_init_X0_init_n11 hn1 hn2 hn3 dX4_init_50 0 (kk := fun rv w1 hw1 => ?_)
  obtain ⟨rfl, d0, hd0, rfl⟩ := hw1
  subst hd0
  show J G _ _ _ _ _ [.ref (d0 0), .int (nI 0), .ref sl]
  refine J_aast C0 3 0 4 0 2 ([[(p, .inr (4, [.ref (nA 0), .ref (aA 0), .ref sl, .null, .null, .null]))], celW K nA cel0, celW K aA cel0, [(sl, .inl (kO K, 2, .inr (.inr (.inr (.inr (va_up (fun _ => none) 0 (some (d0 0))))))))], celW K d0 cel0]) dX4_init_53 (by decide) (kk := ?_)
  refine J_iincN C0 0 [(1, .int (nI 1)), (0, .ref p)] dX4_init_54 (kk := ?_)
  refine J_goto C0 36 dX4_init_57 (kk := ?_)
  refine J_iln C0 0 dX4_init_36 (kk := ?_)
  refine J_ic C0 2 dX4_init_37 (kk := ?_)
  refine J_icmpgeN C0 60 (by decide) (by decide) dX4_init_38 (kt := fun c => absurd c (by decide)) (kf := fun _ => ?_)
  refine J_aln C0 1 dX4_init_41 (kk := ?_)
  refine J_get C0 iX4 0 0 2 f19 dX4_init_42 (kk := ?_)
  refine J_iln C0 0 dX4_init_45 (kk := ?_)
  refine J_new C0 iX0 _ tyX0_ok hcl hin hii [.int 0, .int 0, .null, .null, .null, .null, .null, .null, .null, .null, .null, .null, .null, .null] (fun j hj => by rcases (show j = 0 ∨ j = 1 ∨ j = 2 ∨ j = 3 ∨ j = 4 ∨ j = 5 ∨ j = 6 ∨ j = 7 ∨ j = 8 ∨ j = 9 ∨ j = 10 ∨ j = 11 ∨ j = 12 ∨ j = 13 by omega) with rfl | rfl | rfl | rfl | rfl | rfl | rfl | rfl | rfl | rfl | rfl | rfl | rfl | rfl <;> rfl) dX4_init_46 (ci := 0) (kk := fun qd1 => ?_)
  refine J_dup C0 dX4_init_49 (kk := ?_)
  refine J_callIN C0 (ret := none) (rest := [.ref qd1, .int (nI 1), .ref sl]) (wr := [[(p, .inr (4, [.ref (nA 0), .ref (aA 0), .ref sl, .null, .null, .null]))], celW K nA cel0, celW K aA cel0, [(sl, .inl (kO K, 2, .inr (.inr (.inr (.inr (va_up (fun _ => none) 0 (some (d0 0))))))))], celW K d0 cel0]) (mX0_init l K qd1) rfl gX4_init_X0_init_n11 hn1 hn2 hn3 dX4_init_50 0 (kk := fun rv w1 hw1 => ?_)
  obtain ⟨rfl, d1, hd1, rfl⟩ := hw1
  subst hd1
  show J G _ _ _ _ _ [.ref (d1 0), .int (nI 1), .ref sl]
  refine J_aast C0 3 0 5 0 2 ([[(p, .inr (4, [.ref (nA 0), .ref (aA 0), .ref sl, .null, .null, .null]))], celW K nA cel0, celW K aA cel0, [(sl, .inl (kO K, 2, .inr (.inr (.inr (.inr (va_up (va_up (fun _ => none) 0 (some (d0 0))) 1 (some (d1 0))))))))], celW K d0 cel0, celW K d1 cel0]) dX4_init_53 (by decide) (kk := ?_)
  refine J_iincN C0 0 [(1, .int (nI 2)), (0, .ref p)] dX4_init_54 (kk := ?_)
  refine J_goto C0 36 dX4_init_57 (kk := ?_)
  refine J_iln C0 0 dX4_init_36 (kk := ?_)
  refine J_ic C0 2 dX4_init_37 (kk := ?_)
  refine J_icmpgeN C0 60 (by decide) (by decide) dX4_init_38 (kt := fun _ => ?_) (kf := fun c => absurd c (by decide))
  refine J_rfs C0 ([[(p, .inr (4, [.ref (nA 0), .ref (aA 0), .ref sl, .null, .null, .null]))], celW K nA cel0, celW K aA cel0]) [celW K d0 cel0, celW K d1 cel0] (n := 2) (f := (va_up (va_up (fun _ => none) 0 (some (d0 0))) 1 (some (d1 0)))) (g := fun i => some ((two2 d0 d1) i 0)) (fun k hk => by rcases (show k = 0 ∨ k = 1 by omega) with rfl | rfl <;> rfl) (kk := ?_)
  refine J_aln C0 1 dX4_init_60 (kk := ?_)
  refine J_ic C0 2 dX4_init_61 (kk := ?_)
  refine J_newaZ C0 dX4_init_62 (by decide +kernel) (by decide) (kk := fun tk => ?_)
  refine J_putF C0 iX4 tyX4_ok nmX4 0 0 3 ([[(p, .inr (4, [.ref (nA 0), .ref (aA 0), .ref sl, .ref tk, .null, .null]))], celW K nA cel0, celW K aA cel0, [(sl, .inl (kO K, 2, .inr (.inr (.inr (.inr (fun i => some ((two2 d0 d1) i 0)))))))], celW K d0 cel0, celW K d1 cel0, [(tk, .inl (kZ K, 2, .inl (fun _ => 0)))]]) f23 dX4_init_64 (hI := hI) (hd := rfl) (kk := ?_)
  refine J_aln C0 1 dX4_init_67 (kk := ?_)
  refine J_new C0 iX2 _ tyX2_ok (by decide +kernel) (by decide +kernel) (by decide +kernel) [.null, .int 0] (fun j hj => by rcases (show j = 0 ∨ j = 1 by omega) with rfl | rfl <;> rfl) dX4_init_68 (ci := 2) (kk := fun hh => ?_)
  refine J_dup C0 dX4_init_71 (kk := ?_)
  refine J_callI C0 (ret := none) (rest := [.ref hh, .ref p]) (wr := [[(p, .inr (4, [.ref (nA 0), .ref (aA 0), .ref sl, .ref tk, .null, .null]))], celW K nA cel0, celW K aA cel0, [(sl, .inl (kO K, 2, .inr (.inr (.inr (.inr (fun i => some ((two2 d0 d1) i 0)))))))], celW K d0 cel0, celW K d1 cel0, [(tk, .inl (kZ K, 2, .inl (fun _ => 0)))]]) (mX2_init l K hh) rfl gX4_init_X2_init (by decide +kernel) (by decide +kernel) (by decide +kernel) dX4_init_72 0 (kk := fun rv w1 hw1 => ?_)
  obtain ⟨rfl, r, e, rfl⟩ := hw1
  show J G _ _ _ _ _ [.ref hh, .ref p]
  refine J_putF C0 iX4 tyX4_ok nmX4 0 0 4 ([[(p, .inr (4, [.ref (nA 0), .ref (aA 0), .ref sl, .ref tk, .ref hh, .null]))], celW K nA cel0, celW K aA cel0, [(sl, .inl (kO K, 2, .inr (.inr (.inr (.inr (fun i => some ((two2 d0 d1) i 0)))))))], celW K d0 cel0, celW K d1 cel0, [(tk, .inl (kZ K, 2, .inl (fun _ => 0)))], [(hh, .inr (2, [.ref r, .int 0]))], [(r, .inl (kO K, 6, .inr (.inr (.inr (.inr (fun i => some (e i 0)))))))], celW K (e 0) cel0, celW K (e 1) cel0, celW K (e 2) cel0, celW K (e 3) cel0, celW K (e 4) cel0, celW K (e 5) cel0]) f30 dX4_init_75 (hI := hI) (hd := rfl) (kk := ?_)
  refine J_aln C0 1 dX4_init_78 (kk := ?_)
  refine J_new C0 iX1 _ tyX1_ok (by decide +kernel) (by decide +kernel) (by decide +kernel) [.null, .int 0] (fun j hj => by rcases (show j = 0 ∨ j = 1 by omega) with rfl | rfl <;> rfl) dX4_init_79 (ci := 1) (kk := fun tx => ?_)
  refine J_dup C0 dX4_init_82 (kk := ?_)
  refine J_callIN C0 (ret := none) (rest := [.ref tx, .ref p]) (wr := [[(p, .inr (4, [.ref (nA 0), .ref (aA 0), .ref sl, .ref tk, .ref hh, .null]))], celW K nA cel0, celW K aA cel0, [(sl, .inl (kO K, 2, .inr (.inr (.inr (.inr (fun i => some ((two2 d0 d1) i 0)))))))], celW K d0 cel0, celW K d1 cel0, [(tk, .inl (kZ K, 2, .inl (fun _ => 0)))], [(hh, .inr (2, [.ref r, .int 0]))], [(r, .inl (kO K, 6, .inr (.inr (.inr (.inr (fun i => some (e i 0)))))))], celW K (e 0) cel0, celW K (e 1) cel0, celW K (e 2) cel0, celW K (e 3) cel0, celW K (e 4) cel0, celW K (e 5) cel0]) (mX1_init l K tx) rfl gX4_init_X1_init_n36 (by decide +kernel) (by decide +kernel) (by decide +kernel) dX4_init_83 0 (kk := fun rv w1 hw1 => ?_)
  obtain ⟨rfl, q, rfl⟩ := hw1
  show J G _ _ _ _ _ [.ref tx, .ref p]
  refine J_putF C0 iX4 tyX4_ok nmX4 0 0 5 ([[(p, .inr (4, [.ref (nA 0), .ref (aA 0), .ref sl, .ref tk, .ref hh, .ref tx]))], celW K nA cel0, celW K aA cel0, [(sl, .inl (kO K, 2, .inr (.inr (.inr (.inr (fun i => some ((two2 d0 d1) i 0)))))))], celW K d0 cel0, celW K d1 cel0, [(tk, .inl (kZ K, 2, .inl (fun _ => 0)))], [(hh, .inr (2, [.ref r, .int 0]))], [(r, .inl (kO K, 6, .inr (.inr (.inr (.inr (fun i => some (e i 0)))))))], celW K (e 0) cel0, celW K (e 1) cel0, celW K (e 2) cel0, celW K (e 3) cel0, celW K (e 4) cel0, celW K (e 5) cel0, [(tx, .inr (1, [.ref q, .int 0])), (q, .inl (kI K, 60, .inl (fun _ => 0)))]]) f37 dX4_init_86 (hI := hI) (hd := rfl) (kk := ?_)
  refine J_perm (permI [0, 3, 6, 7, 8, 15, 1, 2, 4, 5, 9, 10, 11, 12, 13, 14] 16 rfl (by decide +kernel) rfl : List.Perm _ ([[(p, .inr (4, [.ref (nA 0), .ref (aA 0), .ref sl, .ref tk, .ref hh, .ref tx]))], [(sl, .inl (kO K, 2, .inr (.inr (.inr (.inr (fun i => some ((two2 d0 d1) i 0)))))))], [(tk, .inl (kZ K, 2, .inl (fun _ => 0)))], [(hh, .inr (2, [.ref r, .int 0]))], [(r, .inl (kO K, 6, .inr (.inr (.inr (.inr (fun i => some (e i 0)))))))], [(tx, .inr (1, [.ref q, .int 0])), (q, .inl (kI K, 60, .inl (fun _ => 0)))], celW K nA cel0, celW K aA cel0, celW K d0 cel0, celW K d1 cel0, celW K (e 0) cel0, celW K (e 1) cel0, celW K (e 2) cel0, celW K (e 3) cel0, celW K (e 4) cel0, celW K (e 5) cel0])) ?_
  refine J_conv (bs2 := corkW K (fun i => [p, sl, tk, hh, r, tx, q].getD i 0) nA aA (two2 d0 d1) e cel0 cel0 (fun _ => cel0) (fun _ => cel0) (fun _ _ => 0)) rfl ?_
  exact J_vret C0 hF dX4_init_89 ⟨rfl, _, _, _, _, _, rfl, rfl⟩
