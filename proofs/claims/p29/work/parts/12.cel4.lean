/-! rows that agree within their lengths hold the same cells -/
theorem arrV_cg (cA : ClassId) {n : Nat} {f g : Nat → Int32} (h : ∀ k, k < n → f k = g k) : vp_cell cA (n, .inl f) = vp_cell cA (n, .inl g) := by
  rw [vp_cell_i, vp_cell_i]
  unfold arrV
  congr 1
  apply Array.ext
  · simp
  · intro i h1 h2
    have hi : i < n := by simpa using h1
    simp [h i hi]
def lenF (i : Nat) : Nat := if i = 0 then 5 else if i < 7 then 3 else if i < 12 then 12 else 40
def FEq (F G : FF) : Prop := ∀ i k, i < 16 → k < lenF i → F i k = G i k
theorem at_cg {D : va_G} {cl : List vw_C} {a : Nat} {cA : ClassId} {n : Nat} {f g : Nat → Int32} {H : Heap} (h : va_at D cl (a, .inl (cA, n, .inl f)) H) (e : ∀ k, k < n → f k = g k) : va_at D cl (a, .inl (cA, n, .inl g)) H := by
  show H[a]? = some (vp_cell _ _)
  rw [← arrV_cg cA e]
  exact h
theorem celW_cg {K : KT} {a : Nat → Nat} {F G : FF} (h : FEq F G) {H : Heap} (hv : VP K (celW K a F) H) : VP K (celW K a G) H := by
  have e : ∀ i, i < 16 → ∀ k, k < lenF i → F i k = G i k := fun i hi k hk => h i k hi hk
  intro q hq
  simp only [celW, List.mem_cons, List.not_mem_nil, or_false] at hq
  rcases hq with rfl | rfl | rfl | rfl | rfl | rfl | rfl | rfl | rfl | rfl | rfl | rfl | rfl | rfl | rfl | rfl | rfl
  · have := hv _ (List.mem_of_getElem? (i := 0) rfl)
    rw [e 0 (by decide) 0 (by decide), e 0 (by decide) 1 (by decide)] at this
    exact this
  · exact at_cg (hv _ (List.mem_of_getElem? (i := 1) rfl)) (fun k hk => e 1 (by decide) k hk)
  · exact at_cg (hv _ (List.mem_of_getElem? (i := 2) rfl)) (fun k hk => e 2 (by decide) k hk)
  · exact at_cg (hv _ (List.mem_of_getElem? (i := 3) rfl)) (fun k hk => e 3 (by decide) k hk)
  · exact at_cg (hv _ (List.mem_of_getElem? (i := 4) rfl)) (fun k hk => e 4 (by decide) k hk)
  · exact at_cg (hv _ (List.mem_of_getElem? (i := 5) rfl)) (fun k hk => e 5 (by decide) k hk)
  · exact at_cg (hv _ (List.mem_of_getElem? (i := 6) rfl)) (fun k hk => e 6 (by decide) k hk)
  · exact at_cg (hv _ (List.mem_of_getElem? (i := 7) rfl)) (fun k hk => e 7 (by decide) k hk)
  · exact at_cg (hv _ (List.mem_of_getElem? (i := 8) rfl)) (fun k hk => e 8 (by decide) k hk)
  · exact at_cg (hv _ (List.mem_of_getElem? (i := 9) rfl)) (fun k hk => e 9 (by decide) k hk)
  · exact at_cg (hv _ (List.mem_of_getElem? (i := 10) rfl)) (fun k hk => e 10 (by decide) k hk)
  · exact at_cg (hv _ (List.mem_of_getElem? (i := 11) rfl)) (fun k hk => e 11 (by decide) k hk)
  · have := hv _ (List.mem_of_getElem? (i := 12) rfl)
    rw [e 0 (by decide) 2 (by decide), e 0 (by decide) 3 (by decide), e 0 (by decide) 4 (by decide)] at this
    exact this
  · exact at_cg (hv _ (List.mem_of_getElem? (i := 13) rfl)) (fun k hk => e 12 (by decide) k hk)
  · exact at_cg (hv _ (List.mem_of_getElem? (i := 14) rfl)) (fun k hk => e 13 (by decide) k hk)
  · exact at_cg (hv _ (List.mem_of_getElem? (i := 15) rfl)) (fun k hk => e 14 (by decide) k hk)
  · exact at_cg (hv _ (List.mem_of_getElem? (i := 16) rfl)) (fun k hk => e 15 (by decide) k hk)
theorem J_cg {K : KT} {l : Launch} {cc : ByteArray} {nL : Nat} {own : String} {Ts : List Cond} {rm : Room} {G : JC} {bs bs2 : List va_W} {lv : List (Nat × Value)} {cells slots pc : Nat} {st : List Value} (C0 : Cx G K l cc nL own Ts rm) (hP0 : ∀ H, VP K bs.flatten H → VP K bs2.flatten H) (hA0 : bs.flatten.map Prod.fst = bs2.flatten.map Prod.fst) (kk : J G bs2 lv cells slots pc st) : J G bs lv cells slots pc st := by
  obtain ⟨K, A, H0, nL', p, l, e, R, s, m, args, below, meth, c, Q⟩ := G
  obtain ⟨rfl, rfl, rfl, rfl, hx, hb, hml, ho, hts, hK, hA⟩ := C0
  intro H locs ls hP hD hS hl
  refine kk H locs ls (VP_iff.mp (hP0 H (VP_iff.mpr hP))) ?_ hS hl
  have hD' := VD_iff.mpr hD
  refine VD_iff.mp ⟨by rw [← hA0]; exact hD'.1, fun q hq => ?_⟩
  have h1 : q.1 ∈ bs.flatten.map Prod.fst := by rw [hA0]; exact List.mem_map_of_mem hq
  obtain ⟨q0, h2, h3⟩ := List.mem_map.mp h1
  rw [← h3]
  exact hD'.2 q0 h2
/-- a block somewhere in the world changed for one that holds of the same heaps -/
theorem cg_mid {K : KT} {u v : List va_W} {b c : va_W} {H : Heap} (h : VP K b H → VP K c H) (hv : VP K (u ++ b :: v).flatten H) : VP K (u ++ c :: v).flatten H := by
  intro q hq
  simp only [List.flatten_append, List.flatten_cons, List.mem_append] at hq
  rcases hq with hq | hq | hq
  · exact hv q (by simp only [List.flatten_append, List.flatten_cons, List.mem_append]; exact Or.inl hq)
  · exact h (fun q2 h2 => hv q2 (by simp only [List.flatten_append, List.flatten_cons, List.mem_append]; exact Or.inr (Or.inl h2))) q hq
  · exact hv q (by simp only [List.flatten_append, List.flatten_cons, List.mem_append]; exact Or.inr (Or.inr hq))
theorem J_cel {K : KT} {l : Launch} {cc : ByteArray} {nL : Nat} {own : String} {Ts : List Cond} {rm : Room} {G : JC} {bs bs2 : List va_W} {lv : List (Nat × Value)} {cells slots pc : Nat} {st : List Value} (C0 : Cx G K l cc nL own Ts rm) (u v : List va_W) {a : Nat → Nat} {F F2 : FF} (h : FEq F F2) (e1 : bs = u ++ celW K a F :: v := by rfl) (e2 : u ++ celW K a F2 :: v = bs2 := by rfl) (kk : J G bs2 lv cells slots pc st) : J G bs lv cells slots pc st := by
  subst e1
  subst e2
  refine J_cg C0 (fun H hv => cg_mid (celW_cg h) hv) ?_ kk
  simp only [List.flatten_append, List.flatten_cons, List.map_append]
  rfl
theorem cpy_all {f g : Nat → Int32} {n k : Nat} (h : k < n) : va_cpy f g 0 0 n k = f k := by
  unfold va_cpy
  rw [if_pos (by omega)]
  congr 1
  omega
def sumS (f : Nat → Int32) : Nat → Int32
  | 0 => nI 0
  | n + 1 => sumS f n + f n
def postCpy (F G1 : FF) : FF := (uF (uF (uF (uF (u2 (u2 (u2 F 0 2 (G1 0 2)) 0 3 (G1 0 3)) 0 4 (G1 0 4)) 12 (va_cpy (G1 12) (F 12) 0 0 40)) 13 (va_cpy (G1 13) (F 13) 0 0 40)) 14 (va_cpy (G1 14) (F 14) 0 0 40)) 15 (va_cpy (G1 15) (F 15) 0 0 40))
def celCpy (F G1 : FF) : FF := postCpy (uF (uF (uF (uF (uF (uF (uF (uF (uF (uF (uF (u2 (u2 F 0 0 (G1 0 0)) 0 1 (G1 0 1)) 1 (va_cpy (G1 1) (F 1) 0 0 3)) 2 (va_cpy (G1 2) (F 2) 0 0 3)) 3 (va_cpy (G1 3) (F 3) 0 0 3)) 4 (va_cpy (G1 4) (F 4) 0 0 3)) 5 (va_cpy (G1 5) (F 5) 0 0 3)) 6 (va_cpy (G1 6) (F 6) 0 0 3)) 7 (va_cpy (G1 7) (F 7) 0 0 12)) 8 (va_cpy (G1 8) (F 8) 0 0 12)) 9 (va_cpy (G1 9) (F 9) 0 0 12)) 10 (va_cpy (G1 10) (F 10) 0 0 12)) 11 (va_cpy (G1 11) (F 11) 0 0 12)) G1
theorem celCpy_eq (F G1 : FF) : FEq (celCpy F G1) G1 := by
  intro i k hi hk
  rcases (show i = 0 ∨ i = 1 ∨ i = 2 ∨ i = 3 ∨ i = 4 ∨ i = 5 ∨ i = 6 ∨ i = 7 ∨ i = 8 ∨ i = 9 ∨ i = 10 ∨ i = 11 ∨ i = 12 ∨ i = 13 ∨ i = 14 ∨ i = 15 by omega) with rfl | rfl | rfl | rfl | rfl | rfl | rfl | rfl | rfl | rfl | rfl | rfl | rfl | rfl | rfl | rfl
  · have hk : k < 5 := hk
    rcases (show k = 0 ∨ k = 1 ∨ k = 2 ∨ k = 3 ∨ k = 4 by omega) with rfl | rfl | rfl | rfl | rfl <;> rfl
  all_goals exact cpy_all (show k < lenF _ from hk)
abbrev rmX3_copyFrom : Room := { frames := 1, cells := 0, slots := 0, locals := 40 }
set_option maxHeartbeats 4000000 in
set_option maxRecDepth 100000 in
theorem mX3_copyFrom (l : Launch) (K : KT) (a b : Nat → Nat) (F G1 : FF) : Ct l K yX3_copyFrom wsX3_copyFrom rmX3_copyFrom [.ref (a 12), .ref (b 12)] [celW K a F, celW K b G1] none [celW K a (postCpy F G1), celW K b G1] := by
  refine CtP_of (cc := cX3_copyFrom) (nL := 2) (rt := none) (own := RX3) (lv0 := [(0, .ref (a 12)), (1, .ref (b 12))]) (by decide) rfl (Nat.le_of_ble_eq_true rfl) rfl rfl ?_
  intro G C0 hF _
  have f28 : Cond.fieldLink RX3 28 "CorkPermits$Post" "sent" "I" ∈ wsX3_copyFrom := by decide +kernel
  have iX3 : ∀ w ∈ u_ws RX3 TX3 7, w ∈ wsX3_copyFrom := by decide +kernel
  have f31 : Cond.fieldLink RX3 31 "CorkPermits$Post" "lost" "I" ∈ wsX3_copyFrom := by decide +kernel
  have f24 : Cond.fieldLink RX3 24 "CorkPermits$Post" "underWay" "I" ∈ wsX3_copyFrom := by decide +kernel
  have f9 : Cond.fieldLink RX3 9 "CorkPermits$Post" "sorts" "[I" ∈ wsX3_copyFrom := by decide +kernel
  have ac34 : Cond.methodLink RX3 34 arraycopyName ∈ wsX3_copyFrom := by decide +kernel
  have acn : Cond.native arraycopyName ∈ wsX3_copyFrom := by decide +kernel
  have acs : Cond.static arraycopyName ∈ wsX3_copyFrom := by decide +kernel
  have aci : Cond.initialized "java/lang/System" ∈ wsX3_copyFrom := by decide +kernel
  have f15 : Cond.fieldLink RX3 15 "CorkPermits$Post" "places" "[I" ∈ wsX3_copyFrom := by decide +kernel
  have f18 : Cond.fieldLink RX3 18 "CorkPermits$Post" "numbers" "[I" ∈ wsX3_copyFrom := by decide +kernel
  have f21 : Cond.fieldLink RX3 21 "CorkPermits$Post" "arrivals" "[I" ∈ wsX3_copyFrom := by decide +kernel
  refine J_aln C0 0 dX3_copyFrom_0 (kk := ?_)
  refine J_aln C0 1 dX3_copyFrom_1 (kk := ?_)
  refine J_get C0 iX3 1 12 0 f28 dX3_copyFrom_2 (kk := ?_)
  refine J_put C0 iX3 tyX3_ok nmX3 0 12 0 [celW K a (u2 F 0 2 (G1 0 2)), celW K b G1] f28 dX3_copyFrom_5 (hd := rfl) (kk := ?_)
  refine J_aln C0 0 dX3_copyFrom_8 (kk := ?_)
  refine J_aln C0 1 dX3_copyFrom_9 (kk := ?_)
  refine J_get C0 iX3 1 12 1 f31 dX3_copyFrom_10 (kk := ?_)
  refine J_put C0 iX3 tyX3_ok nmX3 0 12 1 [celW K a (u2 (u2 F 0 2 (G1 0 2)) 0 3 (G1 0 3)), celW K b G1] f31 dX3_copyFrom_13 (hd := rfl) (kk := ?_)
  refine J_aln C0 0 dX3_copyFrom_16 (kk := ?_)
  refine J_aln C0 1 dX3_copyFrom_17 (kk := ?_)
  refine J_get C0 iX3 1 12 2 f24 dX3_copyFrom_18 (kk := ?_)
  refine J_put C0 iX3 tyX3_ok nmX3 0 12 2 [celW K a (u2 (u2 (u2 F 0 2 (G1 0 2)) 0 3 (G1 0 3)) 0 4 (G1 0 4)), celW K b G1] f24 dX3_copyFrom_21 (hd := rfl) (kk := ?_)
  refine J_aln C0 1 dX3_copyFrom_24 (kk := ?_)
  refine J_get C0 iX3 1 12 3 f9 dX3_copyFrom_25 (kk := ?_)
  refine J_ic C0 0 dX3_copyFrom_28 (kk := ?_)
  refine J_aln C0 0 dX3_copyFrom_29 (kk := ?_)
  refine J_get C0 iX3 0 12 3 f9 dX3_copyFrom_30 (kk := ?_)
  refine J_ic C0 0 dX3_copyFrom_33 (kk := ?_)
  refine J_bi C0 40 dX3_copyFrom_34 (kk := ?_)
  refine J_copyi C0 1 13 0 13 40 40 [celW K a (uF (u2 (u2 (u2 F 0 2 (G1 0 2)) 0 3 (G1 0 3)) 0 4 (G1 0 4)) 12 (va_cpy (G1 12) (F 12) 0 0 40)), celW K b G1] ac34 acn acs aci dX3_copyFrom_36 (by omega) (by omega) (kk := ?_)
  refine J_aln C0 1 dX3_copyFrom_39 (kk := ?_)
  refine J_get C0 iX3 1 12 4 f15 dX3_copyFrom_40 (kk := ?_)
  refine J_ic C0 0 dX3_copyFrom_43 (kk := ?_)
  refine J_aln C0 0 dX3_copyFrom_44 (kk := ?_)
  refine J_get C0 iX3 0 12 4 f15 dX3_copyFrom_45 (kk := ?_)
  refine J_ic C0 0 dX3_copyFrom_48 (kk := ?_)
  refine J_bi C0 40 dX3_copyFrom_49 (kk := ?_)
  refine J_copyi C0 1 14 0 14 40 40 [celW K a (uF (uF (u2 (u2 (u2 F 0 2 (G1 0 2)) 0 3 (G1 0 3)) 0 4 (G1 0 4)) 12 (va_cpy (G1 12) (F 12) 0 0 40)) 13 (va_cpy (G1 13) (F 13) 0 0 40)), celW K b G1] ac34 acn acs aci dX3_copyFrom_51 (by omega) (by omega) (kk := ?_)
  refine J_aln C0 1 dX3_copyFrom_54 (kk := ?_)
  refine J_get C0 iX3 1 12 5 f18 dX3_copyFrom_55 (kk := ?_)
  refine J_ic C0 0 dX3_copyFrom_58 (kk := ?_)
  refine J_aln C0 0 dX3_copyFrom_59 (kk := ?_)
  refine J_get C0 iX3 0 12 5 f18 dX3_copyFrom_60 (kk := ?_)
  refine J_ic C0 0 dX3_copyFrom_63 (kk := ?_)
  refine J_bi C0 40 dX3_copyFrom_64 (kk := ?_)
  refine J_copyi C0 1 15 0 15 40 40 [celW K a (uF (uF (uF (u2 (u2 (u2 F 0 2 (G1 0 2)) 0 3 (G1 0 3)) 0 4 (G1 0 4)) 12 (va_cpy (G1 12) (F 12) 0 0 40)) 13 (va_cpy (G1 13) (F 13) 0 0 40)) 14 (va_cpy (G1 14) (F 14) 0 0 40)), celW K b G1] ac34 acn acs aci dX3_copyFrom_66 (by omega) (by omega) (kk := ?_)
  refine J_aln C0 1 dX3_copyFrom_69 (kk := ?_)
  refine J_get C0 iX3 1 12 6 f21 dX3_copyFrom_70 (kk := ?_)
  refine J_ic C0 0 dX3_copyFrom_73 (kk := ?_)
  refine J_aln C0 0 dX3_copyFrom_74 (kk := ?_)
  refine J_get C0 iX3 0 12 6 f21 dX3_copyFrom_75 (kk := ?_)
  refine J_ic C0 0 dX3_copyFrom_78 (kk := ?_)
  refine J_bi C0 40 dX3_copyFrom_79 (kk := ?_)
  refine J_copyi C0 1 16 0 16 40 40 [celW K a (uF (uF (uF (uF (u2 (u2 (u2 F 0 2 (G1 0 2)) 0 3 (G1 0 3)) 0 4 (G1 0 4)) 12 (va_cpy (G1 12) (F 12) 0 0 40)) 13 (va_cpy (G1 13) (F 13) 0 0 40)) 14 (va_cpy (G1 14) (F 14) 0 0 40)) 15 (va_cpy (G1 15) (F 15) 0 0 40)), celW K b G1] ac34 acn acs aci dX3_copyFrom_81 (by omega) (by omega) (kk := ?_)
  exact J_vret C0 hF dX3_copyFrom_84 ⟨rfl, rfl⟩

abbrev rmX0_copyFrom : Room := { frames := 2, cells := 0, slots := 0, locals := 61 }
set_option maxHeartbeats 4000000 in
set_option maxRecDepth 100000 in
theorem mX0_copyFrom (l : Launch) (K : KT) (a b : Nat → Nat) (F G1 : FF) : Ct l K yX0_copyFrom wsX0_copyFrom rmX0_copyFrom [.ref (a 0), .ref (b 0)] [celW K a F, celW K b G1] none [celW K a G1, celW K b G1] := by
  refine CtP_of (cc := cX0_copyFrom) (nL := 2) (rt := none) (own := RX0) (lv0 := [(0, .ref (a 0)), (1, .ref (b 0))]) (by decide) rfl (Nat.le_of_ble_eq_true rfl) rfl rfl ?_
  intro G C0 hF _
  have f52 : Cond.fieldLink RX0 52 "CorkPermits$Cellar" "time" "I" ∈ wsX0_copyFrom := by decide +kernel
  have iX0 : ∀ w ∈ u_ws RX0 TX0 14, w ∈ wsX0_copyFrom := by decide +kernel
  have f56 : Cond.fieldLink RX0 56 "CorkPermits$Cellar" "houses" "I" ∈ wsX0_copyFrom := by decide +kernel
  have f9 : Cond.fieldLink RX0 9 "CorkPermits$Cellar" "settings" "[I" ∈ wsX0_copyFrom := by decide +kernel
  have ac59 : Cond.methodLink RX0 59 arraycopyName ∈ wsX0_copyFrom := by decide +kernel
  have acn : Cond.native arraycopyName ∈ wsX0_copyFrom := by decide +kernel
  have acs : Cond.static arraycopyName ∈ wsX0_copyFrom := by decide +kernel
  have aci : Cond.initialized "java/lang/System" ∈ wsX0_copyFrom := by decide +kernel
  have f15 : Cond.fieldLink RX0 15 "CorkPermits$Cellar" "bottles" "[I" ∈ wsX0_copyFrom := by decide +kernel
  have f18 : Cond.fieldLink RX0 18 "CorkPermits$Cellar" "full" "[I" ∈ wsX0_copyFrom := by decide +kernel
  have f21 : Cond.fieldLink RX0 21 "CorkPermits$Cellar" "drunk" "[I" ∈ wsX0_copyFrom := by decide +kernel
  have f24 : Cond.fieldLink RX0 24 "CorkPermits$Cellar" "arrived" "[I" ∈ wsX0_copyFrom := by decide +kernel
  have f27 : Cond.fieldLink RX0 27 "CorkPermits$Cellar" "knownLost" "[I" ∈ wsX0_copyFrom := by decide +kernel
  have f30 : Cond.fieldLink RX0 30 "CorkPermits$Cellar" "lent" "[I" ∈ wsX0_copyFrom := by decide +kernel
  have f33 : Cond.fieldLink RX0 33 "CorkPermits$Cellar" "accounted" "[I" ∈ wsX0_copyFrom := by decide +kernel
  have f36 : Cond.fieldLink RX0 36 "CorkPermits$Cellar" "told" "[I" ∈ wsX0_copyFrom := by decide +kernel
  have f39 : Cond.fieldLink RX0 39 "CorkPermits$Cellar" "poured" "[I" ∈ wsX0_copyFrom := by decide +kernel
  have f42 : Cond.fieldLink RX0 42 "CorkPermits$Cellar" "waiting" "[I" ∈ wsX0_copyFrom := by decide +kernel
  have f48 : Cond.fieldLink RX0 48 "CorkPermits$Cellar" "post" "LCorkPermits$Post;" ∈ wsX0_copyFrom := by decide +kernel
  refine J_aln C0 0 dX0_copyFrom_0 (kk := ?_)
  refine J_aln C0 1 dX0_copyFrom_1 (kk := ?_)
  refine J_get C0 iX0 1 0 0 f52 dX0_copyFrom_2 (kk := ?_)
  refine J_put C0 iX0 tyX0_ok nmX0 0 0 0 [celW K a (u2 F 0 0 (G1 0 0)), celW K b G1] f52 dX0_copyFrom_5 (hd := rfl) (kk := ?_)
  refine J_aln C0 0 dX0_copyFrom_8 (kk := ?_)
  refine J_aln C0 1 dX0_copyFrom_9 (kk := ?_)
  refine J_get C0 iX0 1 0 1 f56 dX0_copyFrom_10 (kk := ?_)
  refine J_put C0 iX0 tyX0_ok nmX0 0 0 1 [celW K a (u2 (u2 F 0 0 (G1 0 0)) 0 1 (G1 0 1)), celW K b G1] f56 dX0_copyFrom_13 (hd := rfl) (kk := ?_)
  refine J_aln C0 1 dX0_copyFrom_16 (kk := ?_)
  refine J_get C0 iX0 1 0 2 f9 dX0_copyFrom_17 (kk := ?_)
  refine J_ic C0 0 dX0_copyFrom_20 (kk := ?_)
  refine J_aln C0 0 dX0_copyFrom_21 (kk := ?_)
  refine J_get C0 iX0 0 0 2 f9 dX0_copyFrom_22 (kk := ?_)
  refine J_ic C0 0 dX0_copyFrom_25 (kk := ?_)
  refine J_ic C0 3 dX0_copyFrom_26 (kk := ?_)
  refine J_copyi C0 1 1 0 1 3 3 [celW K a (uF (u2 (u2 F 0 0 (G1 0 0)) 0 1 (G1 0 1)) 1 (va_cpy (G1 1) (F 1) 0 0 3)), celW K b G1] ac59 acn acs aci dX0_copyFrom_27 (by omega) (by omega) (kk := ?_)
  refine J_aln C0 1 dX0_copyFrom_30 (kk := ?_)
  refine J_get C0 iX0 1 0 3 f15 dX0_copyFrom_31 (kk := ?_)
  refine J_ic C0 0 dX0_copyFrom_34 (kk := ?_)
  refine J_aln C0 0 dX0_copyFrom_35 (kk := ?_)
  refine J_get C0 iX0 0 0 3 f15 dX0_copyFrom_36 (kk := ?_)
  refine J_ic C0 0 dX0_copyFrom_39 (kk := ?_)
  refine J_ic C0 3 dX0_copyFrom_40 (kk := ?_)
  refine J_copyi C0 1 2 0 2 3 3 [celW K a (uF (uF (u2 (u2 F 0 0 (G1 0 0)) 0 1 (G1 0 1)) 1 (va_cpy (G1 1) (F 1) 0 0 3)) 2 (va_cpy (G1 2) (F 2) 0 0 3)), celW K b G1] ac59 acn acs aci dX0_copyFrom_41 (by omega) (by omega) (kk := ?_)
  refine J_aln C0 1 dX0_copyFrom_44 (kk := ?_)
  refine J_get C0 iX0 1 0 4 f18 dX0_copyFrom_45 (kk := ?_)
  refine J_ic C0 0 dX0_copyFrom_48 (kk := ?_)
  refine J_aln C0 0 dX0_copyFrom_49 (kk := ?_)
  refine J_get C0 iX0 0 0 4 f18 dX0_copyFrom_50 (kk := ?_)
  refine J_ic C0 0 dX0_copyFrom_53 (kk := ?_)
  refine J_ic C0 3 dX0_copyFrom_54 (kk := ?_)
  refine J_copyi C0 1 3 0 3 3 3 [celW K a (uF (uF (uF (u2 (u2 F 0 0 (G1 0 0)) 0 1 (G1 0 1)) 1 (va_cpy (G1 1) (F 1) 0 0 3)) 2 (va_cpy (G1 2) (F 2) 0 0 3)) 3 (va_cpy (G1 3) (F 3) 0 0 3)), celW K b G1] ac59 acn acs aci dX0_copyFrom_55 (by omega) (by omega) (kk := ?_)
  refine J_aln C0 1 dX0_copyFrom_58 (kk := ?_)
  refine J_get C0 iX0 1 0 5 f21 dX0_copyFrom_59 (kk := ?_)
  refine J_ic C0 0 dX0_copyFrom_62 (kk := ?_)
  refine J_aln C0 0 dX0_copyFrom_63 (kk := ?_)
  refine J_get C0 iX0 0 0 5 f21 dX0_copyFrom_64 (kk := ?_)
  refine J_ic C0 0 dX0_copyFrom_67 (kk := ?_)
  refine J_ic C0 3 dX0_copyFrom_68 (kk := ?_)
  refine J_copyi C0 1 4 0 4 3 3 [celW K a (uF (uF (uF (uF (u2 (u2 F 0 0 (G1 0 0)) 0 1 (G1 0 1)) 1 (va_cpy (G1 1) (F 1) 0 0 3)) 2 (va_cpy (G1 2) (F 2) 0 0 3)) 3 (va_cpy (G1 3) (F 3) 0 0 3)) 4 (va_cpy (G1 4) (F 4) 0 0 3)), celW K b G1] ac59 acn acs aci dX0_copyFrom_69 (by omega) (by omega) (kk := ?_)
  refine J_aln C0 1 dX0_copyFrom_72 (kk := ?_)
  refine J_get C0 iX0 1 0 6 f24 dX0_copyFrom_73 (kk := ?_)
  refine J_ic C0 0 dX0_copyFrom_76 (kk := ?_)
  refine J_aln C0 0 dX0_copyFrom_77 (kk := ?_)
  refine J_get C0 iX0 0 0 6 f24 dX0_copyFrom_78 (kk := ?_)
  refine J_ic C0 0 dX0_copyFrom_81 (kk := ?_)
  refine J_ic C0 3 dX0_copyFrom_82 (kk := ?_)
  refine J_copyi C0 1 5 0 5 3 3 [celW K a (uF (uF (uF (uF (uF (u2 (u2 F 0 0 (G1 0 0)) 0 1 (G1 0 1)) 1 (va_cpy (G1 1) (F 1) 0 0 3)) 2 (va_cpy (G1 2) (F 2) 0 0 3)) 3 (va_cpy (G1 3) (F 3) 0 0 3)) 4 (va_cpy (G1 4) (F 4) 0 0 3)) 5 (va_cpy (G1 5) (F 5) 0 0 3)), celW K b G1] ac59 acn acs aci dX0_copyFrom_83 (by omega) (by omega) (kk := ?_)
  refine J_aln C0 1 dX0_copyFrom_86 (kk := ?_)
  refine J_get C0 iX0 1 0 7 f27 dX0_copyFrom_87 (kk := ?_)
  refine J_ic C0 0 dX0_copyFrom_90 (kk := ?_)
  refine J_aln C0 0 dX0_copyFrom_91 (kk := ?_)
  refine J_get C0 iX0 0 0 7 f27 dX0_copyFrom_92 (kk := ?_)
  refine J_ic C0 0 dX0_copyFrom_95 (kk := ?_)
  refine J_ic C0 3 dX0_copyFrom_96 (kk := ?_)
  refine J_copyi C0 1 6 0 6 3 3 [celW K a (uF (uF (uF (uF (uF (uF (u2 (u2 F 0 0 (G1 0 0)) 0 1 (G1 0 1)) 1 (va_cpy (G1 1) (F 1) 0 0 3)) 2 (va_cpy (G1 2) (F 2) 0 0 3)) 3 (va_cpy (G1 3) (F 3) 0 0 3)) 4 (va_cpy (G1 4) (F 4) 0 0 3)) 5 (va_cpy (G1 5) (F 5) 0 0 3)) 6 (va_cpy (G1 6) (F 6) 0 0 3)), celW K b G1] ac59 acn acs aci dX0_copyFrom_97 (by omega) (by omega) (kk := ?_)
  refine J_aln C0 1 dX0_copyFrom_100 (kk := ?_)
  refine J_get C0 iX0 1 0 8 f30 dX0_copyFrom_101 (kk := ?_)
  refine J_ic C0 0 dX0_copyFrom_104 (kk := ?_)
  refine J_aln C0 0 dX0_copyFrom_105 (kk := ?_)
  refine J_get C0 iX0 0 0 8 f30 dX0_copyFrom_106 (kk := ?_)
  refine J_ic C0 0 dX0_copyFrom_109 (kk := ?_)
  refine J_bi C0 12 dX0_copyFrom_110 (kk := ?_)
  refine J_copyi C0 1 7 0 7 12 12 [celW K a (uF (uF (uF (uF (uF (uF (uF (u2 (u2 F 0 0 (G1 0 0)) 0 1 (G1 0 1)) 1 (va_cpy (G1 1) (F 1) 0 0 3)) 2 (va_cpy (G1 2) (F 2) 0 0 3)) 3 (va_cpy (G1 3) (F 3) 0 0 3)) 4 (va_cpy (G1 4) (F 4) 0 0 3)) 5 (va_cpy (G1 5) (F 5) 0 0 3)) 6 (va_cpy (G1 6) (F 6) 0 0 3)) 7 (va_cpy (G1 7) (F 7) 0 0 12)), celW K b G1] ac59 acn acs aci dX0_copyFrom_112 (by omega) (by omega) (kk := ?_)
  refine J_aln C0 1 dX0_copyFrom_115 (kk := ?_)
  refine J_get C0 iX0 1 0 9 f33 dX0_copyFrom_116 (kk := ?_)
  refine J_ic C0 0 dX0_copyFrom_119 (kk := ?_)
  refine J_aln C0 0 dX0_copyFrom_120 (kk := ?_)
  refine J_get C0 iX0 0 0 9 f33 dX0_copyFrom_121 (kk := ?_)
  refine J_ic C0 0 dX0_copyFrom_124 (kk := ?_)
  refine J_bi C0 12 dX0_copyFrom_125 (kk := ?_)
  refine J_copyi C0 1 8 0 8 12 12 [celW K a (uF (uF (uF (uF (uF (uF (uF (uF (u2 (u2 F 0 0 (G1 0 0)) 0 1 (G1 0 1)) 1 (va_cpy (G1 1) (F 1) 0 0 3)) 2 (va_cpy (G1 2) (F 2) 0 0 3)) 3 (va_cpy (G1 3) (F 3) 0 0 3)) 4 (va_cpy (G1 4) (F 4) 0 0 3)) 5 (va_cpy (G1 5) (F 5) 0 0 3)) 6 (va_cpy (G1 6) (F 6) 0 0 3)) 7 (va_cpy (G1 7) (F 7) 0 0 12)) 8 (va_cpy (G1 8) (F 8) 0 0 12)), celW K b G1] ac59 acn acs aci dX0_copyFrom_127 (by omega) (by omega) (kk := ?_)
  refine J_aln C0 1 dX0_copyFrom_130 (kk := ?_)
  refine J_get C0 iX0 1 0 10 f36 dX0_copyFrom_131 (kk := ?_)
  refine J_ic C0 0 dX0_copyFrom_134 (kk := ?_)
  refine J_aln C0 0 dX0_copyFrom_135 (kk := ?_)
  refine J_get C0 iX0 0 0 10 f36 dX0_copyFrom_136 (kk := ?_)
  refine J_ic C0 0 dX0_copyFrom_139 (kk := ?_)
  refine J_bi C0 12 dX0_copyFrom_140 (kk := ?_)
  refine J_copyi C0 1 9 0 9 12 12 [celW K a (uF (uF (uF (uF (uF (uF (uF (uF (uF (u2 (u2 F 0 0 (G1 0 0)) 0 1 (G1 0 1)) 1 (va_cpy (G1 1) (F 1) 0 0 3)) 2 (va_cpy (G1 2) (F 2) 0 0 3)) 3 (va_cpy (G1 3) (F 3) 0 0 3)) 4 (va_cpy (G1 4) (F 4) 0 0 3)) 5 (va_cpy (G1 5) (F 5) 0 0 3)) 6 (va_cpy (G1 6) (F 6) 0 0 3)) 7 (va_cpy (G1 7) (F 7) 0 0 12)) 8 (va_cpy (G1 8) (F 8) 0 0 12)) 9 (va_cpy (G1 9) (F 9) 0 0 12)), celW K b G1] ac59 acn acs aci dX0_copyFrom_142 (by omega) (by omega) (kk := ?_)
  refine J_aln C0 1 dX0_copyFrom_145 (kk := ?_)
  refine J_get C0 iX0 1 0 11 f39 dX0_copyFrom_146 (kk := ?_)
  refine J_ic C0 0 dX0_copyFrom_149 (kk := ?_)
  refine J_aln C0 0 dX0_copyFrom_150 (kk := ?_)
  refine J_get C0 iX0 0 0 11 f39 dX0_copyFrom_151 (kk := ?_)
  refine J_ic C0 0 dX0_copyFrom_154 (kk := ?_)
  refine J_bi C0 12 dX0_copyFrom_155 (kk := ?_)
  refine J_copyi C0 1 10 0 10 12 12 [celW K a (uF (uF (uF (uF (uF (uF (uF (uF (uF (uF (u2 (u2 F 0 0 (G1 0 0)) 0 1 (G1 0 1)) 1 (va_cpy (G1 1) (F 1) 0 0 3)) 2 (va_cpy (G1 2) (F 2) 0 0 3)) 3 (va_cpy (G1 3) (F 3) 0 0 3)) 4 (va_cpy (G1 4) (F 4) 0 0 3)) 5 (va_cpy (G1 5) (F 5) 0 0 3)) 6 (va_cpy (G1 6) (F 6) 0 0 3)) 7 (va_cpy (G1 7) (F 7) 0 0 12)) 8 (va_cpy (G1 8) (F 8) 0 0 12)) 9 (va_cpy (G1 9) (F 9) 0 0 12)) 10 (va_cpy (G1 10) (F 10) 0 0 12)), celW K b G1] ac59 acn acs aci dX0_copyFrom_157 (by omega) (by omega) (kk := ?_)
  refine J_aln C0 1 dX0_copyFrom_160 (kk := ?_)
  refine J_get C0 iX0 1 0 12 f42 dX0_copyFrom_161 (kk := ?_)
  refine J_ic C0 0 dX0_copyFrom_164 (kk := ?_)
  refine J_aln C0 0 dX0_copyFrom_165 (kk := ?_)
  refine J_get C0 iX0 0 0 12 f42 dX0_copyFrom_166 (kk := ?_)
  refine J_ic C0 0 dX0_copyFrom_169 (kk := ?_)
  refine J_bi C0 12 dX0_copyFrom_170 (kk := ?_)
  refine J_copyi C0 1 11 0 11 12 12 [celW K a (uF (uF (uF (uF (uF (uF (uF (uF (uF (uF (uF (u2 (u2 F 0 0 (G1 0 0)) 0 1 (G1 0 1)) 1 (va_cpy (G1 1) (F 1) 0 0 3)) 2 (va_cpy (G1 2) (F 2) 0 0 3)) 3 (va_cpy (G1 3) (F 3) 0 0 3)) 4 (va_cpy (G1 4) (F 4) 0 0 3)) 5 (va_cpy (G1 5) (F 5) 0 0 3)) 6 (va_cpy (G1 6) (F 6) 0 0 3)) 7 (va_cpy (G1 7) (F 7) 0 0 12)) 8 (va_cpy (G1 8) (F 8) 0 0 12)) 9 (va_cpy (G1 9) (F 9) 0 0 12)) 10 (va_cpy (G1 10) (F 10) 0 0 12)) 11 (va_cpy (G1 11) (F 11) 0 0 12)), celW K b G1] ac59 acn acs aci dX0_copyFrom_172 (by omega) (by omega) (kk := ?_)
  refine J_aln C0 0 dX0_copyFrom_175 (kk := ?_)
  refine J_get C0 iX0 0 0 13 f48 dX0_copyFrom_176 (kk := ?_)
  refine J_aln C0 1 dX0_copyFrom_179 (kk := ?_)
  refine J_get C0 iX0 1 0 13 f48 dX0_copyFrom_180 (kk := ?_)
  refine J_callVd C0 (mX3_copyFrom l K a b (uF (uF (uF (uF (uF (uF (uF (uF (uF (uF (uF (u2 (u2 F 0 0 (G1 0 0)) 0 1 (G1 0 1)) 1 (va_cpy (G1 1) (F 1) 0 0 3)) 2 (va_cpy (G1 2) (F 2) 0 0 3)) 3 (va_cpy (G1 3) (F 3) 0 0 3)) 4 (va_cpy (G1 4) (F 4) 0 0 3)) 5 (va_cpy (G1 5) (F 5) 0 0 3)) 6 (va_cpy (G1 6) (F 6) 0 0 3)) 7 (va_cpy (G1 7) (F 7) 0 0 12)) 8 (va_cpy (G1 8) (F 8) 0 0 12)) 9 (va_cpy (G1 9) (F 9) 0 0 12)) 10 (va_cpy (G1 10) (F 10) 0 0 12)) 11 (va_cpy (G1 11) (F 11) 0 0 12)) G1) [] [celW K a (postCpy (uF (uF (uF (uF (uF (uF (uF (uF (uF (uF (uF (u2 (u2 F 0 0 (G1 0 0)) 0 1 (G1 0 1)) 1 (va_cpy (G1 1) (F 1) 0 0 3)) 2 (va_cpy (G1 2) (F 2) 0 0 3)) 3 (va_cpy (G1 3) (F 3) 0 0 3)) 4 (va_cpy (G1 4) (F 4) 0 0 3)) 5 (va_cpy (G1 5) (F 5) 0 0 3)) 6 (va_cpy (G1 6) (F 6) 0 0 3)) 7 (va_cpy (G1 7) (F 7) 0 0 12)) 8 (va_cpy (G1 8) (F 8) 0 0 12)) 9 (va_cpy (G1 9) (F 9) 0 0 12)) 10 (va_cpy (G1 10) (F 10) 0 0 12)) 11 (va_cpy (G1 11) (F 11) 0 0 12)) G1), celW K b G1] gX0_copyFrom_X3_copyFrom dX0_copyFrom_183 1 12 (kk := ?_)
  show J G _ _ _ _ _ []
  refine J_cel C0 [] [celW K b G1] (celCpy_eq F G1) (kk := ?_)
  exact J_vret C0 hF dX0_copyFrom_186 ⟨rfl, rfl⟩

def kindC (F : FF) (k : Nat) : Nat → Int32
  | 0 => F 2 k
  | 1 => F 3 k
  | 2 => outK F k
  | 3 => freeS F k
  | 4 => F 4 k
  | 5 => F 5 k
  | _ => F 6 k
def placeC (F : FF) (p : Nat) : Nat → Int32
  | 0 => F 7 p
  | 1 => F 8 p
  | 2 => outS F p
  | 3 => F 9 p
  | 4 => F 10 p
  | 5 => corksS F p
  | 6 => F 11 p
  | 7 => whyC F p
  | 8 => F 7 p - F 9 p
  | _ => F 10 p - F 8 p
abbrev rmX0_kindNumber : Room := { frames := 2, cells := 0, slots := 0, locals := 44 }
set_option maxHeartbeats 4000000 in
set_option maxRecDepth 100000 in
theorem mX0_kindNumber_0 (l : Launch) (K : KT) (a : Nat → Nat) (F : FF) {k : Nat} (hk : k < 3) : Ct l K yX0_kindNumber wsX0_kindNumber rmX0_kindNumber [.ref (a 0), .int (nI k), .int (nI 0)] [celW K a F] (some (.int (kindC F k 0))) [celW K a F] := by
  refine CtP_of (cc := cX0_kindNumber) (nL := 3) (rt := some .int) (own := RX0) (lv0 := [(0, .ref (a 0)), (1, .int (nI k)), (2, .int (nI 0))]) (by decide) rfl (Nat.le_of_ble_eq_true rfl) rfl rfl ?_
  intro G C0 hF _
  have f15 : Cond.fieldLink RX0 15 "CorkPermits$Cellar" "bottles" "[I" ∈ wsX0_kindNumber := by decide +kernel
  have iX0 : ∀ w ∈ u_ws RX0 TX0 14, w ∈ wsX0_kindNumber := by decide +kernel
  refine J_iln C0 2 dX0_kindNumber_0 (kk := ?_)
  refine J_tin C0 40 dX0_kindNumber_1 (kk := ?_)
  refine J_aln C0 0 dX0_kindNumber_40 (kk := ?_)
  refine J_get C0 iX0 0 0 3 f15 dX0_kindNumber_41 (kk := ?_)
  refine J_iln C0 1 dX0_kindNumber_44 (kk := ?_)
  refine J_iald C0 0 2 3 dX0_kindNumber_45 (by omega) (kk := ?_)
  exact J_iret C0 hF dX0_kindNumber_46 ⟨rfl, rfl⟩

set_option maxHeartbeats 4000000 in
set_option maxRecDepth 100000 in
theorem mX0_kindNumber_1 (l : Launch) (K : KT) (a : Nat → Nat) (F : FF) {k : Nat} (hk : k < 3) : Ct l K yX0_kindNumber wsX0_kindNumber rmX0_kindNumber [.ref (a 0), .int (nI k), .int (nI 1)] [celW K a F] (some (.int (kindC F k 1))) [celW K a F] := by
  refine CtP_of (cc := cX0_kindNumber) (nL := 3) (rt := some .int) (own := RX0) (lv0 := [(0, .ref (a 0)), (1, .int (nI k)), (2, .int (nI 1))]) (by decide) rfl (Nat.le_of_ble_eq_true rfl) rfl rfl ?_
  intro G C0 hF _
  have f18 : Cond.fieldLink RX0 18 "CorkPermits$Cellar" "full" "[I" ∈ wsX0_kindNumber := by decide +kernel
  have iX0 : ∀ w ∈ u_ws RX0 TX0 14, w ∈ wsX0_kindNumber := by decide +kernel
  refine J_iln C0 2 dX0_kindNumber_0 (kk := ?_)
  refine J_tin C0 47 dX0_kindNumber_1 (kk := ?_)
  refine J_aln C0 0 dX0_kindNumber_47 (kk := ?_)
  refine J_get C0 iX0 0 0 4 f18 dX0_kindNumber_48 (kk := ?_)
  refine J_iln C0 1 dX0_kindNumber_51 (kk := ?_)
  refine J_iald C0 0 3 3 dX0_kindNumber_52 (by omega) (kk := ?_)
  exact J_iret C0 hF dX0_kindNumber_53 ⟨rfl, rfl⟩

set_option maxHeartbeats 4000000 in
set_option maxRecDepth 100000 in
theorem mX0_kindNumber_2 (l : Launch) (K : KT) (a : Nat → Nat) (F : FF) {k : Nat} (hk : k < 3) : Ct l K yX0_kindNumber wsX0_kindNumber rmX0_kindNumber [.ref (a 0), .int (nI k), .int (nI 2)] [celW K a F] (some (.int (kindC F k 2))) [celW K a F] := by
  refine CtP_of (cc := cX0_kindNumber) (nL := 3) (rt := some .int) (own := RX0) (lv0 := [(0, .ref (a 0)), (1, .int (nI k)), (2, .int (nI 2))]) (by decide) rfl (Nat.le_of_ble_eq_true rfl) rfl rfl ?_
  intro G C0 hF _
  refine J_iln C0 2 dX0_kindNumber_0 (kk := ?_)
  refine J_tin C0 54 dX0_kindNumber_1 (kk := ?_)
  refine J_aln C0 0 dX0_kindNumber_54 (kk := ?_)
  refine J_iln C0 1 dX0_kindNumber_55 (kk := ?_)
  refine J_callVd C0 (mX0_outOfKind l K a F (k := k) (by omega)) [] [celW K a F] gX0_kindNumber_X0_outOfKind dX0_kindNumber_56 1 0 (kk := ?_)
  show J G _ _ _ _ _ [.int (outK F k)]
  exact J_iret C0 hF dX0_kindNumber_59 ⟨rfl, rfl⟩

set_option maxHeartbeats 4000000 in
set_option maxRecDepth 100000 in
theorem mX0_kindNumber_3 (l : Launch) (K : KT) (a : Nat → Nat) (F : FF) {k : Nat} (hk : k < 3) : Ct l K yX0_kindNumber wsX0_kindNumber rmX0_kindNumber [.ref (a 0), .int (nI k), .int (nI 3)] [celW K a F] (some (.int (kindC F k 3))) [celW K a F] := by
  refine CtP_of (cc := cX0_kindNumber) (nL := 3) (rt := some .int) (own := RX0) (lv0 := [(0, .ref (a 0)), (1, .int (nI k)), (2, .int (nI 3))]) (by decide) rfl (Nat.le_of_ble_eq_true rfl) rfl rfl ?_
  intro G C0 hF _
  refine J_iln C0 2 dX0_kindNumber_0 (kk := ?_)
  refine J_tin C0 60 dX0_kindNumber_1 (kk := ?_)
  refine J_aln C0 0 dX0_kindNumber_60 (kk := ?_)
  refine J_iln C0 1 dX0_kindNumber_61 (kk := ?_)
  refine J_callVd C0 (mX0_freeBottles l K a F (k := k) (by omega)) [] [celW K a F] gX0_kindNumber_X0_freeBottles dX0_kindNumber_62 1 0 (kk := ?_)
  show J G _ _ _ _ _ [.int (freeS F k)]
  exact J_iret C0 hF dX0_kindNumber_65 ⟨rfl, rfl⟩

set_option maxHeartbeats 4000000 in
set_option maxRecDepth 100000 in
theorem mX0_kindNumber_4 (l : Launch) (K : KT) (a : Nat → Nat) (F : FF) {k : Nat} (hk : k < 3) : Ct l K yX0_kindNumber wsX0_kindNumber rmX0_kindNumber [.ref (a 0), .int (nI k), .int (nI 4)] [celW K a F] (some (.int (kindC F k 4))) [celW K a F] := by
  refine CtP_of (cc := cX0_kindNumber) (nL := 3) (rt := some .int) (own := RX0) (lv0 := [(0, .ref (a 0)), (1, .int (nI k)), (2, .int (nI 4))]) (by decide) rfl (Nat.le_of_ble_eq_true rfl) rfl rfl ?_
  intro G C0 hF _
  have f21 : Cond.fieldLink RX0 21 "CorkPermits$Cellar" "drunk" "[I" ∈ wsX0_kindNumber := by decide +kernel
  have iX0 : ∀ w ∈ u_ws RX0 TX0 14, w ∈ wsX0_kindNumber := by decide +kernel
  refine J_iln C0 2 dX0_kindNumber_0 (kk := ?_)
  refine J_tin C0 66 dX0_kindNumber_1 (kk := ?_)
  refine J_aln C0 0 dX0_kindNumber_66 (kk := ?_)
  refine J_get C0 iX0 0 0 5 f21 dX0_kindNumber_67 (kk := ?_)
  refine J_iln C0 1 dX0_kindNumber_70 (kk := ?_)
  refine J_iald C0 0 4 3 dX0_kindNumber_71 (by omega) (kk := ?_)
  exact J_iret C0 hF dX0_kindNumber_72 ⟨rfl, rfl⟩

set_option maxHeartbeats 4000000 in
set_option maxRecDepth 100000 in
theorem mX0_kindNumber_5 (l : Launch) (K : KT) (a : Nat → Nat) (F : FF) {k : Nat} (hk : k < 3) : Ct l K yX0_kindNumber wsX0_kindNumber rmX0_kindNumber [.ref (a 0), .int (nI k), .int (nI 5)] [celW K a F] (some (.int (kindC F k 5))) [celW K a F] := by
  refine CtP_of (cc := cX0_kindNumber) (nL := 3) (rt := some .int) (own := RX0) (lv0 := [(0, .ref (a 0)), (1, .int (nI k)), (2, .int (nI 5))]) (by decide) rfl (Nat.le_of_ble_eq_true rfl) rfl rfl ?_
  intro G C0 hF _
  have f24 : Cond.fieldLink RX0 24 "CorkPermits$Cellar" "arrived" "[I" ∈ wsX0_kindNumber := by decide +kernel
  have iX0 : ∀ w ∈ u_ws RX0 TX0 14, w ∈ wsX0_kindNumber := by decide +kernel
  refine J_iln C0 2 dX0_kindNumber_0 (kk := ?_)
  refine J_tin C0 73 dX0_kindNumber_1 (kk := ?_)
  refine J_aln C0 0 dX0_kindNumber_73 (kk := ?_)
  refine J_get C0 iX0 0 0 6 f24 dX0_kindNumber_74 (kk := ?_)
  refine J_iln C0 1 dX0_kindNumber_77 (kk := ?_)
  refine J_iald C0 0 5 3 dX0_kindNumber_78 (by omega) (kk := ?_)
  exact J_iret C0 hF dX0_kindNumber_79 ⟨rfl, rfl⟩

set_option maxHeartbeats 4000000 in
set_option maxRecDepth 100000 in
theorem mX0_kindNumber_6 (l : Launch) (K : KT) (a : Nat → Nat) (F : FF) {k : Nat} (hk : k < 3) : Ct l K yX0_kindNumber wsX0_kindNumber rmX0_kindNumber [.ref (a 0), .int (nI k), .int (nI 6)] [celW K a F] (some (.int (kindC F k 6))) [celW K a F] := by
  refine CtP_of (cc := cX0_kindNumber) (nL := 3) (rt := some .int) (own := RX0) (lv0 := [(0, .ref (a 0)), (1, .int (nI k)), (2, .int (nI 6))]) (by decide) rfl (Nat.le_of_ble_eq_true rfl) rfl rfl ?_
  intro G C0 hF _
  have f27 : Cond.fieldLink RX0 27 "CorkPermits$Cellar" "knownLost" "[I" ∈ wsX0_kindNumber := by decide +kernel
  have iX0 : ∀ w ∈ u_ws RX0 TX0 14, w ∈ wsX0_kindNumber := by decide +kernel
  refine J_iln C0 2 dX0_kindNumber_0 (kk := ?_)
  refine J_tout C0 80 dX0_kindNumber_1 (by decide) (kk := ?_)
  refine J_aln C0 0 dX0_kindNumber_80 (kk := ?_)
  refine J_get C0 iX0 0 0 7 f27 dX0_kindNumber_81 (kk := ?_)
  refine J_iln C0 1 dX0_kindNumber_84 (kk := ?_)
  refine J_iald C0 0 6 3 dX0_kindNumber_85 (by omega) (kk := ?_)
  exact J_iret C0 hF dX0_kindNumber_86 ⟨rfl, rfl⟩

theorem mX0_kindNumber (l : Launch) (K : KT) (a : Nat → Nat) (F : FF) {k : Nat} (hk : k < 3) {w : Nat} (hw : w < 7) : Ct l K yX0_kindNumber wsX0_kindNumber rmX0_kindNumber [.ref (a 0), .int (nI k), .int (nI w)] [celW K a F] (some (.int (kindC F k w))) [celW K a F] := by
  rcases (show w = 0 ∨ w = 1 ∨ w = 2 ∨ w = 3 ∨ w = 4 ∨ w = 5 ∨ w = 6 by omega) with rfl | rfl | rfl | rfl | rfl | rfl | rfl
  · exact mX0_kindNumber_0 l K a F hk
  · exact mX0_kindNumber_1 l K a F hk
  · exact mX0_kindNumber_2 l K a F hk
  · exact mX0_kindNumber_3 l K a F hk
  · exact mX0_kindNumber_4 l K a F hk
  · exact mX0_kindNumber_5 l K a F hk
  · exact mX0_kindNumber_6 l K a F hk
abbrev rmX0_placeNumber : Room := { frames := 2, cells := 0, slots := 0, locals := 42 }
set_option maxHeartbeats 4000000 in
set_option maxRecDepth 100000 in
theorem mX0_placeNumber_0 (l : Launch) (K : KT) (a : Nat → Nat) (F : FF) {p : Nat} (hp : p < 12) : Ct l K yX0_placeNumber wsX0_placeNumber rmX0_placeNumber [.ref (a 0), .int (nI p), .int (nI 0)] [celW K a F] (some (.int (placeC F p 0))) [celW K a F] := by
  refine CtP_of (cc := cX0_placeNumber) (nL := 3) (rt := some .int) (own := RX0) (lv0 := [(0, .ref (a 0)), (1, .int (nI p)), (2, .int (nI 0))]) (by decide) rfl (Nat.le_of_ble_eq_true rfl) rfl rfl ?_
  intro G C0 hF _
  have f30 : Cond.fieldLink RX0 30 "CorkPermits$Cellar" "lent" "[I" ∈ wsX0_placeNumber := by decide +kernel
  have iX0 : ∀ w ∈ u_ws RX0 TX0 14, w ∈ wsX0_placeNumber := by decide +kernel
  refine J_iln C0 2 dX0_placeNumber_0 (kk := ?_)
  refine J_tin C0 52 dX0_placeNumber_1 (kk := ?_)
  refine J_aln C0 0 dX0_placeNumber_52 (kk := ?_)
  refine J_get C0 iX0 0 0 8 f30 dX0_placeNumber_53 (kk := ?_)
  refine J_iln C0 1 dX0_placeNumber_56 (kk := ?_)
  refine J_iald C0 0 7 12 dX0_placeNumber_57 (by omega) (kk := ?_)
  exact J_iret C0 hF dX0_placeNumber_58 ⟨rfl, rfl⟩

set_option maxHeartbeats 4000000 in
set_option maxRecDepth 100000 in
theorem mX0_placeNumber_1 (l : Launch) (K : KT) (a : Nat → Nat) (F : FF) {p : Nat} (hp : p < 12) : Ct l K yX0_placeNumber wsX0_placeNumber rmX0_placeNumber [.ref (a 0), .int (nI p), .int (nI 1)] [celW K a F] (some (.int (placeC F p 1))) [celW K a F] := by
  refine CtP_of (cc := cX0_placeNumber) (nL := 3) (rt := some .int) (own := RX0) (lv0 := [(0, .ref (a 0)), (1, .int (nI p)), (2, .int (nI 1))]) (by decide) rfl (Nat.le_of_ble_eq_true rfl) rfl rfl ?_
  intro G C0 hF _
  have f33 : Cond.fieldLink RX0 33 "CorkPermits$Cellar" "accounted" "[I" ∈ wsX0_placeNumber := by decide +kernel
  have iX0 : ∀ w ∈ u_ws RX0 TX0 14, w ∈ wsX0_placeNumber := by decide +kernel
  refine J_iln C0 2 dX0_placeNumber_0 (kk := ?_)
  refine J_tin C0 59 dX0_placeNumber_1 (kk := ?_)
  refine J_aln C0 0 dX0_placeNumber_59 (kk := ?_)
  refine J_get C0 iX0 0 0 9 f33 dX0_placeNumber_60 (kk := ?_)
  refine J_iln C0 1 dX0_placeNumber_63 (kk := ?_)
  refine J_iald C0 0 8 12 dX0_placeNumber_64 (by omega) (kk := ?_)
  exact J_iret C0 hF dX0_placeNumber_65 ⟨rfl, rfl⟩

set_option maxHeartbeats 4000000 in
set_option maxRecDepth 100000 in
theorem mX0_placeNumber_2 (l : Launch) (K : KT) (a : Nat → Nat) (F : FF) {p : Nat} (hp : p < 12) : Ct l K yX0_placeNumber wsX0_placeNumber rmX0_placeNumber [.ref (a 0), .int (nI p), .int (nI 2)] [celW K a F] (some (.int (placeC F p 2))) [celW K a F] := by
  refine CtP_of (cc := cX0_placeNumber) (nL := 3) (rt := some .int) (own := RX0) (lv0 := [(0, .ref (a 0)), (1, .int (nI p)), (2, .int (nI 2))]) (by decide) rfl (Nat.le_of_ble_eq_true rfl) rfl rfl ?_
  intro G C0 hF _
  refine J_iln C0 2 dX0_placeNumber_0 (kk := ?_)
  refine J_tin C0 66 dX0_placeNumber_1 (kk := ?_)
  refine J_aln C0 0 dX0_placeNumber_66 (kk := ?_)
  refine J_iln C0 1 dX0_placeNumber_67 (kk := ?_)
  refine J_callVd C0 (mX0_out l K a F (p := p) (by omega)) [] [celW K a F] gX0_placeNumber_X0_out dX0_placeNumber_68 1 0 (kk := ?_)
  show J G _ _ _ _ _ [.int (outS F p)]
  exact J_iret C0 hF dX0_placeNumber_71 ⟨rfl, rfl⟩

set_option maxHeartbeats 4000000 in
set_option maxRecDepth 100000 in
theorem mX0_placeNumber_3 (l : Launch) (K : KT) (a : Nat → Nat) (F : FF) {p : Nat} (hp : p < 12) : Ct l K yX0_placeNumber wsX0_placeNumber rmX0_placeNumber [.ref (a 0), .int (nI p), .int (nI 3)] [celW K a F] (some (.int (placeC F p 3))) [celW K a F] := by
  refine CtP_of (cc := cX0_placeNumber) (nL := 3) (rt := some .int) (own := RX0) (lv0 := [(0, .ref (a 0)), (1, .int (nI p)), (2, .int (nI 3))]) (by decide) rfl (Nat.le_of_ble_eq_true rfl) rfl rfl ?_
  intro G C0 hF _
  have f36 : Cond.fieldLink RX0 36 "CorkPermits$Cellar" "told" "[I" ∈ wsX0_placeNumber := by decide +kernel
  have iX0 : ∀ w ∈ u_ws RX0 TX0 14, w ∈ wsX0_placeNumber := by decide +kernel
  refine J_iln C0 2 dX0_placeNumber_0 (kk := ?_)
  refine J_tin C0 72 dX0_placeNumber_1 (kk := ?_)
  refine J_aln C0 0 dX0_placeNumber_72 (kk := ?_)
  refine J_get C0 iX0 0 0 10 f36 dX0_placeNumber_73 (kk := ?_)
  refine J_iln C0 1 dX0_placeNumber_76 (kk := ?_)
  refine J_iald C0 0 9 12 dX0_placeNumber_77 (by omega) (kk := ?_)
  exact J_iret C0 hF dX0_placeNumber_78 ⟨rfl, rfl⟩

set_option maxHeartbeats 4000000 in
set_option maxRecDepth 100000 in
theorem mX0_placeNumber_4 (l : Launch) (K : KT) (a : Nat → Nat) (F : FF) {p : Nat} (hp : p < 12) : Ct l K yX0_placeNumber wsX0_placeNumber rmX0_placeNumber [.ref (a 0), .int (nI p), .int (nI 4)] [celW K a F] (some (.int (placeC F p 4))) [celW K a F] := by
  refine CtP_of (cc := cX0_placeNumber) (nL := 3) (rt := some .int) (own := RX0) (lv0 := [(0, .ref (a 0)), (1, .int (nI p)), (2, .int (nI 4))]) (by decide) rfl (Nat.le_of_ble_eq_true rfl) rfl rfl ?_
  intro G C0 hF _
  have f39 : Cond.fieldLink RX0 39 "CorkPermits$Cellar" "poured" "[I" ∈ wsX0_placeNumber := by decide +kernel
  have iX0 : ∀ w ∈ u_ws RX0 TX0 14, w ∈ wsX0_placeNumber := by decide +kernel
  refine J_iln C0 2 dX0_placeNumber_0 (kk := ?_)
  refine J_tin C0 79 dX0_placeNumber_1 (kk := ?_)
  refine J_aln C0 0 dX0_placeNumber_79 (kk := ?_)
  refine J_get C0 iX0 0 0 11 f39 dX0_placeNumber_80 (kk := ?_)
  refine J_iln C0 1 dX0_placeNumber_83 (kk := ?_)
  refine J_iald C0 0 10 12 dX0_placeNumber_84 (by omega) (kk := ?_)
  exact J_iret C0 hF dX0_placeNumber_85 ⟨rfl, rfl⟩

set_option maxHeartbeats 4000000 in
set_option maxRecDepth 100000 in
theorem mX0_placeNumber_5 (l : Launch) (K : KT) (a : Nat → Nat) (F : FF) {p : Nat} (hp : p < 12) : Ct l K yX0_placeNumber wsX0_placeNumber rmX0_placeNumber [.ref (a 0), .int (nI p), .int (nI 5)] [celW K a F] (some (.int (placeC F p 5))) [celW K a F] := by
  refine CtP_of (cc := cX0_placeNumber) (nL := 3) (rt := some .int) (own := RX0) (lv0 := [(0, .ref (a 0)), (1, .int (nI p)), (2, .int (nI 5))]) (by decide) rfl (Nat.le_of_ble_eq_true rfl) rfl rfl ?_
  intro G C0 hF _
  refine J_iln C0 2 dX0_placeNumber_0 (kk := ?_)
  refine J_tin C0 86 dX0_placeNumber_1 (kk := ?_)
  refine J_aln C0 0 dX0_placeNumber_86 (kk := ?_)
  refine J_iln C0 1 dX0_placeNumber_87 (kk := ?_)
  refine J_callVd C0 (mX0_corks l K a F (p := p) (by omega)) [] [celW K a F] gX0_placeNumber_X0_corks dX0_placeNumber_88 1 0 (kk := ?_)
  show J G _ _ _ _ _ [.int (corksS F p)]
  exact J_iret C0 hF dX0_placeNumber_91 ⟨rfl, rfl⟩

set_option maxHeartbeats 4000000 in
set_option maxRecDepth 100000 in
theorem mX0_placeNumber_6 (l : Launch) (K : KT) (a : Nat → Nat) (F : FF) {p : Nat} (hp : p < 12) : Ct l K yX0_placeNumber wsX0_placeNumber rmX0_placeNumber [.ref (a 0), .int (nI p), .int (nI 6)] [celW K a F] (some (.int (placeC F p 6))) [celW K a F] := by
  refine CtP_of (cc := cX0_placeNumber) (nL := 3) (rt := some .int) (own := RX0) (lv0 := [(0, .ref (a 0)), (1, .int (nI p)), (2, .int (nI 6))]) (by decide) rfl (Nat.le_of_ble_eq_true rfl) rfl rfl ?_
  intro G C0 hF _
  have f42 : Cond.fieldLink RX0 42 "CorkPermits$Cellar" "waiting" "[I" ∈ wsX0_placeNumber := by decide +kernel
  have iX0 : ∀ w ∈ u_ws RX0 TX0 14, w ∈ wsX0_placeNumber := by decide +kernel
  refine J_iln C0 2 dX0_placeNumber_0 (kk := ?_)
  refine J_tin C0 92 dX0_placeNumber_1 (kk := ?_)
  refine J_aln C0 0 dX0_placeNumber_92 (kk := ?_)
  refine J_get C0 iX0 0 0 12 f42 dX0_placeNumber_93 (kk := ?_)
  refine J_iln C0 1 dX0_placeNumber_96 (kk := ?_)
  refine J_iald C0 0 11 12 dX0_placeNumber_97 (by omega) (kk := ?_)
  exact J_iret C0 hF dX0_placeNumber_98 ⟨rfl, rfl⟩

set_option maxHeartbeats 4000000 in
set_option maxRecDepth 100000 in
theorem mX0_placeNumber_7 (l : Launch) (K : KT) (a : Nat → Nat) (F : FF) {p : Nat} (hp : p < 12) : Ct l K yX0_placeNumber wsX0_placeNumber rmX0_placeNumber [.ref (a 0), .int (nI p), .int (nI 7)] [celW K a F] (some (.int (placeC F p 7))) [celW K a F] := by
  refine CtP_of (cc := cX0_placeNumber) (nL := 3) (rt := some .int) (own := RX0) (lv0 := [(0, .ref (a 0)), (1, .int (nI p)), (2, .int (nI 7))]) (by decide) rfl (Nat.le_of_ble_eq_true rfl) rfl rfl ?_
  intro G C0 hF _
  refine J_iln C0 2 dX0_placeNumber_0 (kk := ?_)
  refine J_tin C0 99 dX0_placeNumber_1 (kk := ?_)
  refine J_aln C0 0 dX0_placeNumber_99 (kk := ?_)
  refine J_iln C0 1 dX0_placeNumber_100 (kk := ?_)
  refine J_callVd C0 (mX0_whyNoPour l K a F (p := p) (by omega)) [] [celW K a F] gX0_placeNumber_X0_whyNoPour dX0_placeNumber_101 1 0 (kk := ?_)
  show J G _ _ _ _ _ [.int (whyC F p)]
  exact J_iret C0 hF dX0_placeNumber_104 ⟨rfl, rfl⟩

set_option maxHeartbeats 4000000 in
set_option maxRecDepth 100000 in
theorem mX0_placeNumber_8 (l : Launch) (K : KT) (a : Nat → Nat) (F : FF) {p : Nat} (hp : p < 12) : Ct l K yX0_placeNumber wsX0_placeNumber rmX0_placeNumber [.ref (a 0), .int (nI p), .int (nI 8)] [celW K a F] (some (.int (placeC F p 8))) [celW K a F] := by
  refine CtP_of (cc := cX0_placeNumber) (nL := 3) (rt := some .int) (own := RX0) (lv0 := [(0, .ref (a 0)), (1, .int (nI p)), (2, .int (nI 8))]) (by decide) rfl (Nat.le_of_ble_eq_true rfl) rfl rfl ?_
  intro G C0 hF _
  have f30 : Cond.fieldLink RX0 30 "CorkPermits$Cellar" "lent" "[I" ∈ wsX0_placeNumber := by decide +kernel
  have iX0 : ∀ w ∈ u_ws RX0 TX0 14, w ∈ wsX0_placeNumber := by decide +kernel
  have f36 : Cond.fieldLink RX0 36 "CorkPermits$Cellar" "told" "[I" ∈ wsX0_placeNumber := by decide +kernel
  refine J_iln C0 2 dX0_placeNumber_0 (kk := ?_)
  refine J_tin C0 105 dX0_placeNumber_1 (kk := ?_)
  refine J_aln C0 0 dX0_placeNumber_105 (kk := ?_)
  refine J_get C0 iX0 0 0 8 f30 dX0_placeNumber_106 (kk := ?_)
  refine J_iln C0 1 dX0_placeNumber_109 (kk := ?_)
  refine J_iald C0 0 7 12 dX0_placeNumber_110 (by omega) (kk := ?_)
  refine J_aln C0 0 dX0_placeNumber_111 (kk := ?_)
  refine J_get C0 iX0 0 0 10 f36 dX0_placeNumber_112 (kk := ?_)
  refine J_iln C0 1 dX0_placeNumber_115 (kk := ?_)
  refine J_iald C0 0 9 12 dX0_placeNumber_116 (by omega) (kk := ?_)
  refine J_isub C0 dX0_placeNumber_117 ?_
  exact J_iret C0 hF dX0_placeNumber_118 ⟨rfl, rfl⟩

set_option maxHeartbeats 4000000 in
set_option maxRecDepth 100000 in
theorem mX0_placeNumber_9 (l : Launch) (K : KT) (a : Nat → Nat) (F : FF) {p : Nat} (hp : p < 12) : Ct l K yX0_placeNumber wsX0_placeNumber rmX0_placeNumber [.ref (a 0), .int (nI p), .int (nI 9)] [celW K a F] (some (.int (placeC F p 9))) [celW K a F] := by
  refine CtP_of (cc := cX0_placeNumber) (nL := 3) (rt := some .int) (own := RX0) (lv0 := [(0, .ref (a 0)), (1, .int (nI p)), (2, .int (nI 9))]) (by decide) rfl (Nat.le_of_ble_eq_true rfl) rfl rfl ?_
  intro G C0 hF _
  have f39 : Cond.fieldLink RX0 39 "CorkPermits$Cellar" "poured" "[I" ∈ wsX0_placeNumber := by decide +kernel
  have iX0 : ∀ w ∈ u_ws RX0 TX0 14, w ∈ wsX0_placeNumber := by decide +kernel
  have f33 : Cond.fieldLink RX0 33 "CorkPermits$Cellar" "accounted" "[I" ∈ wsX0_placeNumber := by decide +kernel
  refine J_iln C0 2 dX0_placeNumber_0 (kk := ?_)
  refine J_tout C0 119 dX0_placeNumber_1 (by decide) (kk := ?_)
  refine J_aln C0 0 dX0_placeNumber_119 (kk := ?_)
  refine J_get C0 iX0 0 0 11 f39 dX0_placeNumber_120 (kk := ?_)
  refine J_iln C0 1 dX0_placeNumber_123 (kk := ?_)
  refine J_iald C0 0 10 12 dX0_placeNumber_124 (by omega) (kk := ?_)
  refine J_aln C0 0 dX0_placeNumber_125 (kk := ?_)
  refine J_get C0 iX0 0 0 9 f33 dX0_placeNumber_126 (kk := ?_)
  refine J_iln C0 1 dX0_placeNumber_129 (kk := ?_)
  refine J_iald C0 0 8 12 dX0_placeNumber_130 (by omega) (kk := ?_)
  refine J_isub C0 dX0_placeNumber_131 ?_
  exact J_iret C0 hF dX0_placeNumber_132 ⟨rfl, rfl⟩

theorem mX0_placeNumber (l : Launch) (K : KT) (a : Nat → Nat) (F : FF) {p : Nat} (hp : p < 12) {w : Nat} (hw : w < 10) : Ct l K yX0_placeNumber wsX0_placeNumber rmX0_placeNumber [.ref (a 0), .int (nI p), .int (nI w)] [celW K a F] (some (.int (placeC F p w))) [celW K a F] := by
  rcases (show w = 0 ∨ w = 1 ∨ w = 2 ∨ w = 3 ∨ w = 4 ∨ w = 5 ∨ w = 6 ∨ w = 7 ∨ w = 8 ∨ w = 9 by omega) with rfl | rfl | rfl | rfl | rfl | rfl | rfl | rfl | rfl | rfl
  · exact mX0_placeNumber_0 l K a F hp
  · exact mX0_placeNumber_1 l K a F hp
  · exact mX0_placeNumber_2 l K a F hp
  · exact mX0_placeNumber_3 l K a F hp
  · exact mX0_placeNumber_4 l K a F hp
  · exact mX0_placeNumber_5 l K a F hp
  · exact mX0_placeNumber_6 l K a F hp
  · exact mX0_placeNumber_7 l K a F hp
  · exact mX0_placeNumber_8 l K a F hp
  · exact mX0_placeNumber_9 l K a F hp
def letC (F : FF) (n r w : Nat) : Int32 := if r < n then letF F w r else -1
abbrev rmX3_letterNumber : Room := { frames := 0, cells := 0, slots := 0, locals := 0 }
set_option maxHeartbeats 4000000 in
set_option maxRecDepth 100000 in
theorem mX3_letterNumber_0 (l : Launch) (K : KT) (a : Nat → Nat) (F : FF) {n r : Nat} (hn : F 0 4 = nI n) (h40 : n ≤ 40) (hr : r < 2 ^ 31) : Ct l K yX3_letterNumber wsX3_letterNumber rmX3_letterNumber [.ref (a 12), .int (nI r), .int (nI 0)] [celW K a F] (some (.int (letC F n r 0))) [celW K a F] := by
  refine CtP_of (cc := cX3_letterNumber) (nL := 3) (rt := some .int) (own := RX3) (lv0 := [(0, .ref (a 12)), (1, .int (nI r)), (2, .int (nI 0))]) (by decide) rfl (Nat.le_of_ble_eq_true rfl) rfl rfl ?_
  intro G C0 hF _
  have f24 : Cond.fieldLink RX3 24 "CorkPermits$Post" "underWay" "I" ∈ wsX3_letterNumber := by decide +kernel
  have iX3 : ∀ w ∈ u_ws RX3 TX3 7, w ∈ wsX3_letterNumber := by decide +kernel
  have f9 : Cond.fieldLink RX3 9 "CorkPermits$Post" "sorts" "[I" ∈ wsX3_letterNumber := by decide +kernel
  refine J_iln C0 1 dX3_letterNumber_0 (kk := ?_)
  refine J_ifltN C0 (by omega) dX3_letterNumber_1 12 (kk := ?_)
  refine J_iln C0 1 dX3_letterNumber_4 (kk := ?_)
  refine J_aln C0 0 dX3_letterNumber_5 (kk := ?_)
  refine J_get C0 iX3 0 12 2 f24 dX3_letterNumber_6 (v := .int (nI n)) (hv := congrArg (fun z => some (Value.int z)) hn) (kk := ?_)
  refine J_icmpltN C0 14 (by omega) (by omega) dX3_letterNumber_9 (kt := fun c2 => ?_) (kf := fun c2 => ?_)
  · refine J_iln C0 2 dX3_letterNumber_14 (kk := ?_)
    refine J_tin C0 44 dX3_letterNumber_15 (kk := ?_)
    refine J_aln C0 0 dX3_letterNumber_44 (kk := ?_)
    refine J_get C0 iX3 0 12 3 f9 dX3_letterNumber_45 (kk := ?_)
    refine J_iln C0 1 dX3_letterNumber_48 (kk := ?_)
    refine J_iald C0 0 13 40 dX3_letterNumber_49 (by omega) (kk := ?_)
    exact J_iret C0 hF dX3_letterNumber_50 ⟨by unfold letC; rw [if_pos c2]; rfl, rfl⟩
  · refine J_icm1 C0 dX3_letterNumber_12 ?_
    exact J_iret C0 hF dX3_letterNumber_13 ⟨by unfold letC; rw [if_neg (Nat.not_lt.mpr c2)], rfl⟩

set_option maxHeartbeats 4000000 in
set_option maxRecDepth 100000 in
theorem mX3_letterNumber_1 (l : Launch) (K : KT) (a : Nat → Nat) (F : FF) {n r : Nat} (hn : F 0 4 = nI n) (h40 : n ≤ 40) (hr : r < 2 ^ 31) : Ct l K yX3_letterNumber wsX3_letterNumber rmX3_letterNumber [.ref (a 12), .int (nI r), .int (nI 1)] [celW K a F] (some (.int (letC F n r 1))) [celW K a F] := by
  refine CtP_of (cc := cX3_letterNumber) (nL := 3) (rt := some .int) (own := RX3) (lv0 := [(0, .ref (a 12)), (1, .int (nI r)), (2, .int (nI 1))]) (by decide) rfl (Nat.le_of_ble_eq_true rfl) rfl rfl ?_
  intro G C0 hF _
  have f24 : Cond.fieldLink RX3 24 "CorkPermits$Post" "underWay" "I" ∈ wsX3_letterNumber := by decide +kernel
  have iX3 : ∀ w ∈ u_ws RX3 TX3 7, w ∈ wsX3_letterNumber := by decide +kernel
  have f15 : Cond.fieldLink RX3 15 "CorkPermits$Post" "places" "[I" ∈ wsX3_letterNumber := by decide +kernel
  refine J_iln C0 1 dX3_letterNumber_0 (kk := ?_)
  refine J_ifltN C0 (by omega) dX3_letterNumber_1 12 (kk := ?_)
  refine J_iln C0 1 dX3_letterNumber_4 (kk := ?_)
  refine J_aln C0 0 dX3_letterNumber_5 (kk := ?_)
  refine J_get C0 iX3 0 12 2 f24 dX3_letterNumber_6 (v := .int (nI n)) (hv := congrArg (fun z => some (Value.int z)) hn) (kk := ?_)
  refine J_icmpltN C0 14 (by omega) (by omega) dX3_letterNumber_9 (kt := fun c2 => ?_) (kf := fun c2 => ?_)
  · refine J_iln C0 2 dX3_letterNumber_14 (kk := ?_)
    refine J_tin C0 51 dX3_letterNumber_15 (kk := ?_)
    refine J_aln C0 0 dX3_letterNumber_51 (kk := ?_)
    refine J_get C0 iX3 0 12 4 f15 dX3_letterNumber_52 (kk := ?_)
    refine J_iln C0 1 dX3_letterNumber_55 (kk := ?_)
    refine J_iald C0 0 14 40 dX3_letterNumber_56 (by omega) (kk := ?_)
    refine J_ic C0 3 dX3_letterNumber_57 (kk := ?_)
    refine J_idiv C0 dX3_letterNumber_58 (by decide) ?_
    exact J_iret C0 hF dX3_letterNumber_59 ⟨by unfold letC; rw [if_pos c2]; rfl, rfl⟩
  · refine J_icm1 C0 dX3_letterNumber_12 ?_
    exact J_iret C0 hF dX3_letterNumber_13 ⟨by unfold letC; rw [if_neg (Nat.not_lt.mpr c2)], rfl⟩

set_option maxHeartbeats 4000000 in
set_option maxRecDepth 100000 in
theorem mX3_letterNumber_2 (l : Launch) (K : KT) (a : Nat → Nat) (F : FF) {n r : Nat} (hn : F 0 4 = nI n) (h40 : n ≤ 40) (hr : r < 2 ^ 31) : Ct l K yX3_letterNumber wsX3_letterNumber rmX3_letterNumber [.ref (a 12), .int (nI r), .int (nI 2)] [celW K a F] (some (.int (letC F n r 2))) [celW K a F] := by
  refine CtP_of (cc := cX3_letterNumber) (nL := 3) (rt := some .int) (own := RX3) (lv0 := [(0, .ref (a 12)), (1, .int (nI r)), (2, .int (nI 2))]) (by decide) rfl (Nat.le_of_ble_eq_true rfl) rfl rfl ?_
  intro G C0 hF _
  have f24 : Cond.fieldLink RX3 24 "CorkPermits$Post" "underWay" "I" ∈ wsX3_letterNumber := by decide +kernel
  have iX3 : ∀ w ∈ u_ws RX3 TX3 7, w ∈ wsX3_letterNumber := by decide +kernel
  have f15 : Cond.fieldLink RX3 15 "CorkPermits$Post" "places" "[I" ∈ wsX3_letterNumber := by decide +kernel
  refine J_iln C0 1 dX3_letterNumber_0 (kk := ?_)
  refine J_ifltN C0 (by omega) dX3_letterNumber_1 12 (kk := ?_)
  refine J_iln C0 1 dX3_letterNumber_4 (kk := ?_)
  refine J_aln C0 0 dX3_letterNumber_5 (kk := ?_)
  refine J_get C0 iX3 0 12 2 f24 dX3_letterNumber_6 (v := .int (nI n)) (hv := congrArg (fun z => some (Value.int z)) hn) (kk := ?_)
  refine J_icmpltN C0 14 (by omega) (by omega) dX3_letterNumber_9 (kt := fun c2 => ?_) (kf := fun c2 => ?_)
  · refine J_iln C0 2 dX3_letterNumber_14 (kk := ?_)
    refine J_tin C0 60 dX3_letterNumber_15 (kk := ?_)
    refine J_aln C0 0 dX3_letterNumber_60 (kk := ?_)
    refine J_get C0 iX3 0 12 4 f15 dX3_letterNumber_61 (kk := ?_)
    refine J_iln C0 1 dX3_letterNumber_64 (kk := ?_)
    refine J_iald C0 0 14 40 dX3_letterNumber_65 (by omega) (kk := ?_)
    refine J_ic C0 3 dX3_letterNumber_66 (kk := ?_)
    refine J_irem C0 dX3_letterNumber_67 (by decide) ?_
    exact J_iret C0 hF dX3_letterNumber_68 ⟨by unfold letC; rw [if_pos c2]; rfl, rfl⟩
  · refine J_icm1 C0 dX3_letterNumber_12 ?_
    exact J_iret C0 hF dX3_letterNumber_13 ⟨by unfold letC; rw [if_neg (Nat.not_lt.mpr c2)], rfl⟩

set_option maxHeartbeats 4000000 in
set_option maxRecDepth 100000 in
theorem mX3_letterNumber_3 (l : Launch) (K : KT) (a : Nat → Nat) (F : FF) {n r : Nat} (hn : F 0 4 = nI n) (h40 : n ≤ 40) (hr : r < 2 ^ 31) : Ct l K yX3_letterNumber wsX3_letterNumber rmX3_letterNumber [.ref (a 12), .int (nI r), .int (nI 3)] [celW K a F] (some (.int (letC F n r 3))) [celW K a F] := by
  refine CtP_of (cc := cX3_letterNumber) (nL := 3) (rt := some .int) (own := RX3) (lv0 := [(0, .ref (a 12)), (1, .int (nI r)), (2, .int (nI 3))]) (by decide) rfl (Nat.le_of_ble_eq_true rfl) rfl rfl ?_
  intro G C0 hF _
  have f24 : Cond.fieldLink RX3 24 "CorkPermits$Post" "underWay" "I" ∈ wsX3_letterNumber := by decide +kernel
  have iX3 : ∀ w ∈ u_ws RX3 TX3 7, w ∈ wsX3_letterNumber := by decide +kernel
  have f18 : Cond.fieldLink RX3 18 "CorkPermits$Post" "numbers" "[I" ∈ wsX3_letterNumber := by decide +kernel
  refine J_iln C0 1 dX3_letterNumber_0 (kk := ?_)
  refine J_ifltN C0 (by omega) dX3_letterNumber_1 12 (kk := ?_)
  refine J_iln C0 1 dX3_letterNumber_4 (kk := ?_)
  refine J_aln C0 0 dX3_letterNumber_5 (kk := ?_)
  refine J_get C0 iX3 0 12 2 f24 dX3_letterNumber_6 (v := .int (nI n)) (hv := congrArg (fun z => some (Value.int z)) hn) (kk := ?_)
  refine J_icmpltN C0 14 (by omega) (by omega) dX3_letterNumber_9 (kt := fun c2 => ?_) (kf := fun c2 => ?_)
  · refine J_iln C0 2 dX3_letterNumber_14 (kk := ?_)
    refine J_tin C0 69 dX3_letterNumber_15 (kk := ?_)
    refine J_aln C0 0 dX3_letterNumber_69 (kk := ?_)
    refine J_get C0 iX3 0 12 5 f18 dX3_letterNumber_70 (kk := ?_)
    refine J_iln C0 1 dX3_letterNumber_73 (kk := ?_)
    refine J_iald C0 0 15 40 dX3_letterNumber_74 (by omega) (kk := ?_)
    exact J_iret C0 hF dX3_letterNumber_75 ⟨by unfold letC; rw [if_pos c2]; rfl, rfl⟩
  · refine J_icm1 C0 dX3_letterNumber_12 ?_
    exact J_iret C0 hF dX3_letterNumber_13 ⟨by unfold letC; rw [if_neg (Nat.not_lt.mpr c2)], rfl⟩

set_option maxHeartbeats 4000000 in
set_option maxRecDepth 100000 in
theorem mX3_letterNumber_4 (l : Launch) (K : KT) (a : Nat → Nat) (F : FF) {n r : Nat} (hn : F 0 4 = nI n) (h40 : n ≤ 40) (hr : r < 2 ^ 31) : Ct l K yX3_letterNumber wsX3_letterNumber rmX3_letterNumber [.ref (a 12), .int (nI r), .int (nI 4)] [celW K a F] (some (.int (letC F n r 4))) [celW K a F] := by
  refine CtP_of (cc := cX3_letterNumber) (nL := 3) (rt := some .int) (own := RX3) (lv0 := [(0, .ref (a 12)), (1, .int (nI r)), (2, .int (nI 4))]) (by decide) rfl (Nat.le_of_ble_eq_true rfl) rfl rfl ?_
  intro G C0 hF _
  have f24 : Cond.fieldLink RX3 24 "CorkPermits$Post" "underWay" "I" ∈ wsX3_letterNumber := by decide +kernel
  have iX3 : ∀ w ∈ u_ws RX3 TX3 7, w ∈ wsX3_letterNumber := by decide +kernel
  have f21 : Cond.fieldLink RX3 21 "CorkPermits$Post" "arrivals" "[I" ∈ wsX3_letterNumber := by decide +kernel
  refine J_iln C0 1 dX3_letterNumber_0 (kk := ?_)
  refine J_ifltN C0 (by omega) dX3_letterNumber_1 12 (kk := ?_)
  refine J_iln C0 1 dX3_letterNumber_4 (kk := ?_)
  refine J_aln C0 0 dX3_letterNumber_5 (kk := ?_)
  refine J_get C0 iX3 0 12 2 f24 dX3_letterNumber_6 (v := .int (nI n)) (hv := congrArg (fun z => some (Value.int z)) hn) (kk := ?_)
  refine J_icmpltN C0 14 (by omega) (by omega) dX3_letterNumber_9 (kt := fun c2 => ?_) (kf := fun c2 => ?_)
  · refine J_iln C0 2 dX3_letterNumber_14 (kk := ?_)
    refine J_tout C0 76 dX3_letterNumber_15 (by decide) (kk := ?_)
    refine J_aln C0 0 dX3_letterNumber_76 (kk := ?_)
    refine J_get C0 iX3 0 12 6 f21 dX3_letterNumber_77 (kk := ?_)
    refine J_iln C0 1 dX3_letterNumber_80 (kk := ?_)
    refine J_iald C0 0 16 40 dX3_letterNumber_81 (by omega) (kk := ?_)
    exact J_iret C0 hF dX3_letterNumber_82 ⟨by unfold letC; rw [if_pos c2]; rfl, rfl⟩
  · refine J_icm1 C0 dX3_letterNumber_12 ?_
    exact J_iret C0 hF dX3_letterNumber_13 ⟨by unfold letC; rw [if_neg (Nat.not_lt.mpr c2)], rfl⟩

theorem mX3_letterNumber (l : Launch) (K : KT) (a : Nat → Nat) (F : FF) {n r : Nat} (hn : F 0 4 = nI n) (h40 : n ≤ 40) (hr : r < 2 ^ 31) {w : Nat} (hw : w < 5) : Ct l K yX3_letterNumber wsX3_letterNumber rmX3_letterNumber [.ref (a 12), .int (nI r), .int (nI w)] [celW K a F] (some (.int (letC F n r w))) [celW K a F] := by
  rcases (show w = 0 ∨ w = 1 ∨ w = 2 ∨ w = 3 ∨ w = 4 by omega) with rfl | rfl | rfl | rfl | rfl
  · exact mX3_letterNumber_0 l K a F hn h40 hr
  · exact mX3_letterNumber_1 l K a F hn h40 hr
  · exact mX3_letterNumber_2 l K a F hn h40 hr
  · exact mX3_letterNumber_3 l K a F hn h40 hr
  · exact mX3_letterNumber_4 l K a F hn h40 hr
abbrev rmX4_placeOf : Room := { frames := 0, cells := 0, slots := 0, locals := 0 }
set_option maxHeartbeats 4000000 in
set_option maxRecDepth 100000 in
theorem mX4_placeOf (l : Launch) (K : KT) (h k : Nat) : Ct l K yX4_placeOf wsX4_placeOf rmX4_placeOf [.int (nI h), .int (nI k)] [] (some (.int (nI (h * 3 + k)))) [] := by
  refine CtP_of (cc := cX4_placeOf) (nL := 2) (rt := some .int) (own := RX4) (lv0 := [(0, .int (nI h)), (1, .int (nI k))]) (by decide) rfl (Nat.le_of_ble_eq_true rfl) rfl rfl ?_
  intro G C0 hF _
  refine J_iln C0 0 dX4_placeOf_0 (kk := ?_)
  refine J_ic C0 3 dX4_placeOf_1 (kk := ?_)
  refine J_imulN C0 dX4_placeOf_2 ?_
  refine J_iln C0 1 dX4_placeOf_3 (kk := ?_)
  refine J_iaddN C0 dX4_placeOf_4 ?_
  exact J_iret C0 hF dX4_placeOf_5 ⟨rfl, rfl⟩

def mx0 (x : Int32) : Int32 := if nI 0 < x then x else nI 0
def needC (F : FF) (h : Nat) : Int32 := nI 0 + mx0 (F 11 (h * 3 + 0) - corksS F (h * 3 + 0)) + mx0 (F 11 (h * 3 + 1) - corksS F (h * 3 + 1)) + mx0 (F 11 (h * 3 + 2) - corksS F (h * 3 + 2))
abbrev rmX0_needOf : Room := { frames := 1, cells := 0, slots := 0, locals := 21 }
set_option maxHeartbeats 4000000 in
set_option maxRecDepth 100000 in
theorem mX0_needOf (l : Launch) (K : KT) (a : Nat → Nat) (F : FF) {h : Nat} (hh : h < 4) : Ct l K yX0_needOf wsX0_needOf rmX0_needOf [.ref (a 0), .int (nI h)] [celW K a F] (some (.int (needC F h))) [celW K a F] := by
  refine CtP_of (cc := cX0_needOf) (nL := 5) (rt := some .int) (own := RX0) (lv0 := [(0, .ref (a 0)), (1, .int (nI h))]) (by decide) rfl (Nat.le_of_ble_eq_true rfl) rfl rfl ?_
  intro G C0 hF _
  have ni151 : Cond.initialized RX4 ∈ wsX0_needOf := by decide +kernel
  have ns151 : Cond.static yX4_placeOf ∈ wsX0_needOf := by decide +kernel
  have f42 : Cond.fieldLink RX0 42 "CorkPermits$Cellar" "waiting" "[I" ∈ wsX0_needOf := by decide +kernel
  have iX0 : ∀ w ∈ u_ws RX0 TX0 14, w ∈ wsX0_needOf := by decide +kernel
  have mx129 : Cond.methodLink RX0 129 Lib.Math.max.name ∈ wsX0_needOf := by decide +kernel
  have mxs : Cond.static Lib.Math.max.name ∈ wsX0_needOf := by decide +kernel
  have mxi : Cond.initialized "java/lang/Math" ∈ wsX0_needOf := by decide +kernel
  have mxc : Cond.code Lib.Math.max.name Lib.Math.max.code 2 (some .int) ∈ wsX0_needOf := by first | exact List.mem_of_getElem? (i := 0) rfl | decide +kernel
  refine J_ic C0 0 dX0_needOf_0 (kk := ?_)
  refine J_isn C0 [(2, .int (nI 0)), (0, .ref (a 0)), (1, .int (nI h))] dX0_needOf_1 (kk := ?_)
  refine J_ic C0 0 dX0_needOf_2 (kk := ?_)
  refine J_isn C0 [(3, .int (nI 0)), (2, .int (nI 0)), (0, .ref (a 0)), (1, .int (nI h))] dX0_needOf_3 (kk := ?_)
  refine J_iln C0 0 dX0_needOf_4 (kk := ?_)
  refine J_ic C0 3 dX0_needOf_5 (kk := ?_)
  refine J_icmpgeN C0 43 (by omega) (by omega) dX0_needOf_6 (kt := fun c1 => ?_) (kf := fun c1 => ?_)
  · exfalso; omega
  · refine J_iln C0 3 dX0_needOf_9 (kk := ?_)
    refine J_iln C0 0 dX0_needOf_10 (kk := ?_)
    refine J_callSNd C0 (mX4_placeOf l K h 0) [celW K a F] [celW K a F] gX0_needOf_X4_placeOf_n151 ni151 (by simp [nestL]) ns151 dX0_needOf_11 2 (kk := ?_)
    show J G _ _ _ _ _ [.int (nI (h * 3 + 0))]
    refine J_is C0 [(4, .int (nI (h * 3 + 0))), (3, .int (nI 0)), (2, .int (nI 0)), (0, .ref (a 0)), (1, .int (nI h))] dX0_needOf_14 (kk := ?_)
    refine J_iln C0 2 dX0_needOf_16 (kk := ?_)
    refine J_ic C0 0 dX0_needOf_17 (kk := ?_)
    refine J_aln C0 3 dX0_needOf_18 (kk := ?_)
    refine J_get C0 iX0 0 0 12 f42 dX0_needOf_19 (kk := ?_)
    refine J_il C0 0 dX0_needOf_22 (kk := ?_)
    refine J_iald C0 0 11 12 dX0_needOf_24 (by omega) (kk := ?_)
    refine J_aln C0 3 dX0_needOf_25 (kk := ?_)
    refine J_il C0 0 dX0_needOf_26 (kk := ?_)
    refine J_callVd C0 (mX0_corks l K a F (p := h * 3 + 0) (by omega)) [] [celW K a F] gX0_needOf_X0_corks dX0_needOf_28 1 0 (kk := ?_)
    show J G _ _ _ _ _ [.int (corksS F (h * 3 + 0)), .int (F 11 (h * 3 + 0)), .int (nI 0), .int (nI 0)]
    refine J_isub C0 dX0_needOf_31 ?_
    refine J_mmax C0 mx129 mxs mxi mxc dX0_needOf_32 (kk := ?_)
    refine J_iadd C0 dX0_needOf_35 ?_
    refine J_isn C0 [(2, .int ((nI 0) + (if nI 0 < (F 11 (h * 3 + 0)) - (corksS F (h * 3 + 0)) then (F 11 (h * 3 + 0)) - (corksS F (h * 3 + 0)) else nI 0))), (4, .int (nI (h * 3 + 0))), (3, .int (nI 0)), (0, .ref (a 0)), (1, .int (nI h))] dX0_needOf_36 (kk := ?_)
    refine J_iincN C0 2 [(3, .int (nI 1)), (2, .int ((nI 0) + (if nI 0 < (F 11 (h * 3 + 0)) - (corksS F (h * 3 + 0)) then (F 11 (h * 3 + 0)) - (corksS F (h * 3 + 0)) else nI 0))), (4, .int (nI (h * 3 + 0))), (0, .ref (a 0)), (1, .int (nI h))] dX0_needOf_37 (kk := ?_)
    refine J_goto C0 4 dX0_needOf_40 (kk := ?_)
    refine J_iln C0 0 dX0_needOf_4 (kk := ?_)
    refine J_ic C0 3 dX0_needOf_5 (kk := ?_)
    refine J_icmpgeN C0 43 (by omega) (by omega) dX0_needOf_6 (kt := fun c2 => ?_) (kf := fun c2 => ?_)
    · exfalso; omega
    · refine J_iln C0 4 dX0_needOf_9 (kk := ?_)
      refine J_iln C0 0 dX0_needOf_10 (kk := ?_)
      refine J_callSNd C0 (mX4_placeOf l K h 1) [celW K a F] [celW K a F] gX0_needOf_X4_placeOf_n151 ni151 (by simp [nestL]) ns151 dX0_needOf_11 2 (kk := ?_)
      show J G _ _ _ _ _ [.int (nI (h * 3 + 1))]
      refine J_is C0 [(4, .int (nI (h * 3 + 1))), (3, .int (nI 1)), (2, .int ((nI 0) + (if nI 0 < (F 11 (h * 3 + 0)) - (corksS F (h * 3 + 0)) then (F 11 (h * 3 + 0)) - (corksS F (h * 3 + 0)) else nI 0))), (0, .ref (a 0)), (1, .int (nI h))] dX0_needOf_14 (kk := ?_)
      refine J_iln C0 2 dX0_needOf_16 (kk := ?_)
      refine J_ic C0 0 dX0_needOf_17 (kk := ?_)
      refine J_aln C0 3 dX0_needOf_18 (kk := ?_)
      refine J_get C0 iX0 0 0 12 f42 dX0_needOf_19 (kk := ?_)
      refine J_il C0 0 dX0_needOf_22 (kk := ?_)
      refine J_iald C0 0 11 12 dX0_needOf_24 (by omega) (kk := ?_)
      refine J_aln C0 3 dX0_needOf_25 (kk := ?_)
      refine J_il C0 0 dX0_needOf_26 (kk := ?_)
      refine J_callVd C0 (mX0_corks l K a F (p := h * 3 + 1) (by omega)) [] [celW K a F] gX0_needOf_X0_corks dX0_needOf_28 1 0 (kk := ?_)
      show J G _ _ _ _ _ [.int (corksS F (h * 3 + 1)), .int (F 11 (h * 3 + 1)), .int (nI 0), .int ((nI 0) + (if nI 0 < (F 11 (h * 3 + 0)) - (corksS F (h * 3 + 0)) then (F 11 (h * 3 + 0)) - (corksS F (h * 3 + 0)) else nI 0))]
      refine J_isub C0 dX0_needOf_31 ?_
      refine J_mmax C0 mx129 mxs mxi mxc dX0_needOf_32 (kk := ?_)
      refine J_iadd C0 dX0_needOf_35 ?_
      refine J_isn C0 [(2, .int (((nI 0) + (if nI 0 < (F 11 (h * 3 + 0)) - (corksS F (h * 3 + 0)) then (F 11 (h * 3 + 0)) - (corksS F (h * 3 + 0)) else nI 0)) + (if nI 0 < (F 11 (h * 3 + 1)) - (corksS F (h * 3 + 1)) then (F 11 (h * 3 + 1)) - (corksS F (h * 3 + 1)) else nI 0))), (4, .int (nI (h * 3 + 1))), (3, .int (nI 1)), (0, .ref (a 0)), (1, .int (nI h))] dX0_needOf_36 (kk := ?_)
      refine J_iincN C0 2 [(3, .int (nI 2)), (2, .int (((nI 0) + (if nI 0 < (F 11 (h * 3 + 0)) - (corksS F (h * 3 + 0)) then (F 11 (h * 3 + 0)) - (corksS F (h * 3 + 0)) else nI 0)) + (if nI 0 < (F 11 (h * 3 + 1)) - (corksS F (h * 3 + 1)) then (F 11 (h * 3 + 1)) - (corksS F (h * 3 + 1)) else nI 0))), (4, .int (nI (h * 3 + 1))), (0, .ref (a 0)), (1, .int (nI h))] dX0_needOf_37 (kk := ?_)
      refine J_goto C0 4 dX0_needOf_40 (kk := ?_)
      refine J_iln C0 0 dX0_needOf_4 (kk := ?_)
      refine J_ic C0 3 dX0_needOf_5 (kk := ?_)
      refine J_icmpgeN C0 43 (by omega) (by omega) dX0_needOf_6 (kt := fun c3 => ?_) (kf := fun c3 => ?_)
      · exfalso; omega
      · refine J_iln C0 4 dX0_needOf_9 (kk := ?_)
        refine J_iln C0 0 dX0_needOf_10 (kk := ?_)
        refine J_callSNd C0 (mX4_placeOf l K h 2) [celW K a F] [celW K a F] gX0_needOf_X4_placeOf_n151 ni151 (by simp [nestL]) ns151 dX0_needOf_11 2 (kk := ?_)
        show J G _ _ _ _ _ [.int (nI (h * 3 + 2))]
        refine J_is C0 [(4, .int (nI (h * 3 + 2))), (3, .int (nI 2)), (2, .int (((nI 0) + (if nI 0 < (F 11 (h * 3 + 0)) - (corksS F (h * 3 + 0)) then (F 11 (h * 3 + 0)) - (corksS F (h * 3 + 0)) else nI 0)) + (if nI 0 < (F 11 (h * 3 + 1)) - (corksS F (h * 3 + 1)) then (F 11 (h * 3 + 1)) - (corksS F (h * 3 + 1)) else nI 0))), (0, .ref (a 0)), (1, .int (nI h))] dX0_needOf_14 (kk := ?_)
        refine J_iln C0 2 dX0_needOf_16 (kk := ?_)
        refine J_ic C0 0 dX0_needOf_17 (kk := ?_)
        refine J_aln C0 3 dX0_needOf_18 (kk := ?_)
        refine J_get C0 iX0 0 0 12 f42 dX0_needOf_19 (kk := ?_)
        refine J_il C0 0 dX0_needOf_22 (kk := ?_)
        refine J_iald C0 0 11 12 dX0_needOf_24 (by omega) (kk := ?_)
        refine J_aln C0 3 dX0_needOf_25 (kk := ?_)
        refine J_il C0 0 dX0_needOf_26 (kk := ?_)
        refine J_callVd C0 (mX0_corks l K a F (p := h * 3 + 2) (by omega)) [] [celW K a F] gX0_needOf_X0_corks dX0_needOf_28 1 0 (kk := ?_)
        show J G _ _ _ _ _ [.int (corksS F (h * 3 + 2)), .int (F 11 (h * 3 + 2)), .int (nI 0), .int (((nI 0) + (if nI 0 < (F 11 (h * 3 + 0)) - (corksS F (h * 3 + 0)) then (F 11 (h * 3 + 0)) - (corksS F (h * 3 + 0)) else nI 0)) + (if nI 0 < (F 11 (h * 3 + 1)) - (corksS F (h * 3 + 1)) then (F 11 (h * 3 + 1)) - (corksS F (h * 3 + 1)) else nI 0))]
        refine J_isub C0 dX0_needOf_31 ?_
        refine J_mmax C0 mx129 mxs mxi mxc dX0_needOf_32 (kk := ?_)
        refine J_iadd C0 dX0_needOf_35 ?_
        refine J_isn C0 [(2, .int ((((nI 0) + (if nI 0 < (F 11 (h * 3 + 0)) - (corksS F (h * 3 + 0)) then (F 11 (h * 3 + 0)) - (corksS F (h * 3 + 0)) else nI 0)) + (if nI 0 < (F 11 (h * 3 + 1)) - (corksS F (h * 3 + 1)) then (F 11 (h * 3 + 1)) - (corksS F (h * 3 + 1)) else nI 0)) + (if nI 0 < (F 11 (h * 3 + 2)) - (corksS F (h * 3 + 2)) then (F 11 (h * 3 + 2)) - (corksS F (h * 3 + 2)) else nI 0))), (4, .int (nI (h * 3 + 2))), (3, .int (nI 2)), (0, .ref (a 0)), (1, .int (nI h))] dX0_needOf_36 (kk := ?_)
        refine J_iincN C0 2 [(3, .int (nI 3)), (2, .int ((((nI 0) + (if nI 0 < (F 11 (h * 3 + 0)) - (corksS F (h * 3 + 0)) then (F 11 (h * 3 + 0)) - (corksS F (h * 3 + 0)) else nI 0)) + (if nI 0 < (F 11 (h * 3 + 1)) - (corksS F (h * 3 + 1)) then (F 11 (h * 3 + 1)) - (corksS F (h * 3 + 1)) else nI 0)) + (if nI 0 < (F 11 (h * 3 + 2)) - (corksS F (h * 3 + 2)) then (F 11 (h * 3 + 2)) - (corksS F (h * 3 + 2)) else nI 0))), (4, .int (nI (h * 3 + 2))), (0, .ref (a 0)), (1, .int (nI h))] dX0_needOf_37 (kk := ?_)
        refine J_goto C0 4 dX0_needOf_40 (kk := ?_)
        refine J_iln C0 0 dX0_needOf_4 (kk := ?_)
        refine J_ic C0 3 dX0_needOf_5 (kk := ?_)
        refine J_icmpgeN C0 43 (by omega) (by omega) dX0_needOf_6 (kt := fun c4 => ?_) (kf := fun c4 => ?_)
        · refine J_iln C0 1 dX0_needOf_43 (kk := ?_)
          exact J_iret C0 hF dX0_needOf_44 ⟨rfl, rfl⟩
        · exfalso; omega

abbrev rmX4_total : Room := { frames := 0, cells := 0, slots := 0, locals := 0 }
set_option maxHeartbeats 4000000 in
set_option maxRecDepth 100000 in
theorem mX4_total (l : Launch) (K : KT) {blk : va_W} {k ad n : Nat} {f : Nat → Int32} (hk : blk[k]? = some (ad, .inl (kI K, n, .inl f))) (hn : n ≤ 100) : Ct l K yX4_total wsX4_total rmX4_total [.ref ad] [blk] (some (.int (sumS f n))) [blk] := by
  refine CtP_of (cc := cX4_total) (nL := 6) (rt := some .int) (own := RX4) (lv0 := [(0, .ref ad)]) (by decide) rfl (Nat.le_of_ble_eq_true rfl) rfl rfl ?_
  intro G C0 hF _
  have lp : ∀ (q i : Nat), i + q = n → J G [blk] [(4, .int (nI i)), (1, .int (sumS f i)), (3, .int (nI n)), (2, .ref ad), (0, .ref ad)] 0 0 10 [] := by
    intro q
    induction q with
    | zero =>
      intro i hq
      refine J_il C0 0 dX4_total_10 (kk := ?_)
      refine J_iln C0 2 dX4_total_12 (kk := ?_)
      refine J_icmpgeN C0 33 (by omega) (by omega) dX4_total_13 (kt := fun c1 => ?_) (kf := fun c1 => ?_)
      · refine J_iln C0 1 dX4_total_33 (kk := ?_)
        exact J_iret C0 hF dX4_total_34 ⟨by rw [show i = n by omega], rfl⟩
      · exfalso; omega
    | succ q ih =>
      intro i hq
      refine J_il C0 0 dX4_total_10 (kk := ?_)
      refine J_iln C0 2 dX4_total_12 (kk := ?_)
      refine J_icmpgeN C0 33 (by omega) (by omega) dX4_total_13 (kt := fun c1 => ?_) (kf := fun c1 => ?_)
      · exfalso; omega
      · refine J_aln C0 3 dX4_total_16 (kk := ?_)
        refine J_il C0 0 dX4_total_17 (kk := ?_)
        refine J_iald C0 0 k n dX4_total_19 (by omega) (hn := by omega) (hk := hk) (kk := ?_)
        refine J_is C0 [(5, .int (f i)), (4, .int (nI i)), (1, .int (sumS f i)), (3, .int (nI n)), (2, .ref ad), (0, .ref ad)] dX4_total_20 (kk := ?_)
        refine J_iln C0 2 dX4_total_22 (kk := ?_)
        refine J_il C0 0 dX4_total_23 (kk := ?_)
        refine J_iadd C0 dX4_total_25 ?_
        refine J_isn C0 [(1, .int ((sumS f i) + (f i))), (5, .int (f i)), (4, .int (nI i)), (3, .int (nI n)), (2, .ref ad), (0, .ref ad)] dX4_total_26 (kk := ?_)
        refine J_iincN C0 2 [(4, .int (nI (i + 1))), (1, .int ((sumS f i) + (f i))), (5, .int (f i)), (3, .int (nI n)), (2, .ref ad), (0, .ref ad)] dX4_total_27 (kk := ?_)
        refine J_goto C0 10 dX4_total_30 (kk := ?_)
        exact J_lv [0, 1, 3, 4, 5] rfl (ih (i + 1) (by omega))
  refine J_ic C0 0 dX4_total_0 (kk := ?_)
  refine J_isn C0 [(1, .int (nI 0)), (0, .ref ad)] dX4_total_1 (kk := ?_)
  refine J_aln C0 1 dX4_total_2 (kk := ?_)
  refine J_asn C0 [(2, .ref ad), (1, .int (nI 0)), (0, .ref ad)] dX4_total_3 (kk := ?_)
  refine J_aln C0 0 dX4_total_4 (kk := ?_)
  refine J_alen C0 0 k dX4_total_5 (hk := hk) (kk := ?_)
  refine J_isn C0 [(3, .int (nI n)), (2, .ref ad), (1, .int (nI 0)), (0, .ref ad)] dX4_total_6 (kk := ?_)
  refine J_ic C0 0 dX4_total_7 (kk := ?_)
  refine J_is C0 [(4, .int (nI 0)), (3, .int (nI n)), (2, .ref ad), (1, .int (nI 0)), (0, .ref ad)] dX4_total_8 (kk := ?_)
  exact J_lv [0, 3, 1, 2, 4] rfl (lp n 0 (by omega))

