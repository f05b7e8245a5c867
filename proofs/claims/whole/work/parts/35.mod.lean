/-! the reference's world: its object and six rows -/
def modR (K : KT) (a : Nat → Nat) (f g P L : Nat → Int32) (M : FF) : va_W := [(a 0, .inr (5, [.ref (a 1), .ref (a 2), .ref (a 3), .int (M 0 0), .ref (a 4), .ref (a 5), .ref (a 6), .int (M 0 1), .int (M 0 2), .int (M 0 3), .int (M 0 4), .int (M 0 5), .int (M 0 6)])), (a 1, .inl (kI K, 283, .inl f)), (a 2, .inl (kI K, 283, .inl g)), (a 3, .inl (kI K, 1698, .inl P)), (a 4, .inl (kI K, 566, .inl L)), (a 5, .inl (kI K, 2, .inl (M 1))), (a 6, .inl (kI K, 60, .inl (M 2)))]
theorem flat_c0 : upd (upd (upd (upd (fun _ => 0) 5 (nI 2)) 8 (nI 4)) 13 (nI 4)) 18 (nI 4) = flat cel0 := by
  refine flat_ext (fun j h => ?_) (fun c h => ?_) (fun k c hk h => ?_) (fun p c hp h => ?_) (fun r c hr h => ?_) (fun j h => ?_)
  · rw [upd_n (by omega), upd_n (by omega), upd_n (by omega), upd_n (by omega)]; rfl
  · rcases (show c = 0 ∨ c = 1 ∨ c = 2 by omega) with rfl | rfl | rfl <;> rfl
  · rcases (show k = 0 ∨ k = 1 ∨ k = 2 by omega) with rfl | rfl | rfl <;> rcases (show c = 0 ∨ c = 1 ∨ c = 2 ∨ c = 3 ∨ c = 4 by omega) with rfl | rfl | rfl | rfl | rfl <;> rfl
  · rw [upd_n (by omega), upd_n (by omega), upd_n (by omega), upd_n (by omega)]
    have e1 : ¬ 7 + c = 1 := by omega
    have e2 : ¬ 7 + c = 2 := by omega
    simp only [cel0, e1, e2, if_false]
  · rw [upd_n (by omega), upd_n (by omega), upd_n (by omega), upd_n (by omega)]
    rcases (show c = 0 ∨ c = 1 ∨ c = 2 ∨ c = 3 ∨ c = 4 by omega) with rfl | rfl | rfl | rfl | rfl <;> first | rfl | exact (by decide : (0 : Int32) = 0 / nI 3) | exact (by decide : (0 : Int32) = 0 - 0 / nI 3 * nI 3)
  · rw [upd_n (by omega), upd_n (by omega), upd_n (by omega), upd_n (by omega)]
section JN5
variable {K : KT} {l : Launch} {cc : ByteArray} {nL : Nat} {own : String} {Ts : List Cond} {rm : Room} {G : JC} {bs : List va_W} {lv : List (Nat × Value)} {cells slots pc : Nat} {st : List Value}

theorem J_newaI2 (C0 : Cx G K l cc nL own Ts rm) {n : Nat} (hdg : decode cc pc = .ok (.newarray .int, 2)) (harr : Cond.arrayClass .int ∈ Ts) (hn : n < 10000) (hcells : cells + 1 ≤ rm.cells := by decide) (hslots : slots + n ≤ rm.slots := by decide) (kk : ∀ q : Nat, J G (bs ++ [[(q, .inl (kI K, n, .inl (fun _ => 0)))]]) lv (cells + 1) (slots + n) (pc + 2) (.ref q :: st)) : J G bs lv cells slots (pc) (.int (nI n) :: st) := by
  obtain ⟨K, A, H0, nL', p, l, e, R, s, m, args, below, meth, c, Q⟩ := G
  obtain ⟨rfl, rfl, rfl, rfl, hx, hb, hml, ho, hts, ⟨hK, hN⟩, hA⟩ := C0
  intro H locs ls hP hD hS hl
  refine va_newaK (atype := .int) hx hb (hts _ harr) rfl hdg rfl (nI_pos (by omega)) (nI_clamp (by omega)) (by show n * 4 ≤ 536870912; omega) hcells hslots rfl fun H1 cA e1 z1 o1 hAr hNm => ?_
  have hc : cA = kI K := Option.some.inj (hNm.symm.trans (hK.2 0 (kI K, .int) rfl).2)
  subst hc
  have hk : ∀ (k : Nat) (x : Nat × va_E), (bs.flatten)[k]? = some x → H1[x.1]? = H[x.1]? := fun k x hx => o1 x.1 ((hP k x hx).lt)
  have ef : (bs ++ [[(H.size, (.inl (kI K, n, .inl (fun _ => 0)) : va_E))]]).flatten = bs.flatten ++ [(H.size, .inl (kI K, n, .inl (fun _ => 0)))] := by simp
  refine kk H.size H1 locs ls ?_ ?_ ⟨Nat.le_trans hS.1 (by omega), fun x h1 h2 => (o1 x (Nat.lt_of_lt_of_le h1 hS.1)).trans (hS.2.1 x h1 h2), hS.2.2⟩ hl
  · rw [ef]
    refine (hP.kept hk).app (fun k x hx => ?_)
    have hz : k < 1 := (List.getElem?_eq_some_iff.mp hx).1
    rw [show k = 0 by omega] at hx
    cases hx
    exact e1
  · rw [ef]
    exact hD.push hP rfl (hA _ hS.1)
theorem J_idivV (C0 : Cx G K l cc nL own Ts rm) {a b v : Nat} (h0 : 0 < b) (ha : a < 2 ^ 31) (hb2 : b < 2 ^ 31) (hv : a / b = v) (hdg : decode cc pc = .ok (.idiv, 1)) (kk : J G bs lv cells slots (pc + 1) (.int (nI v) :: st)) : J G bs lv cells slots (pc) (.int (nI b) :: .int (nI a) :: st) := J_idivN C0 h0 ha hb2 hdg (by rw [hv]; exact kk)
theorem J_iremV (C0 : Cx G K l cc nL own Ts rm) {a b v : Nat} (h0 : 0 < b) (ha : a < 2 ^ 31) (hb2 : b < 2 ^ 31) (hv : a % b = v) (hdg : decode cc pc = .ok (.irem, 1)) (kk : J G bs lv cells slots (pc + 1) (.int (nI v) :: st)) : J G bs lv cells slots (pc) (.int (nI b) :: .int (nI a) :: st) := J_iremN C0 h0 ha hb2 hdg (by rw [hv]; exact kk)
end JN5
abbrev rmX5_init : Room := { frames := 1, cells := 6, slots := 2892, locals := 40 }
set_option maxHeartbeats 4000000 in
set_option maxRecDepth 100000 in
theorem mX5_init (l : Launch) (K : KT) (p : Nat) : CtP l K yX5_init wsX5_init rmX5_init [.ref p] [[(p, .inr (5, [.null, .null, .null, .int 0, .null, .null, .null, .int 0, .int 0, .int 0, .int 0, .int 0, .int 0]))]] (fun rv w => rv = none ∧ ∃ a : Nat → Nat, a 0 = p ∧ w = [modR K a (flat cel0) (fun _ => 0) (fun _ => 0) (fun _ => 0) (fun _ _ => 0)]) := by
  refine CtP_of (cc := cX5_init) (nL := 2) (rt := none) (own := RX5) (lv0 := [(0, .ref p)]) (by decide) rfl (Nat.le_of_ble_eq_true rfl) rfl rfl ?_
  intro G C0 hF hI
  have hI := hI rfl
  have iX5 : ∀ w ∈ u_ws RX5 TX5 13, w ∈ wsX5_init := by decide +kernel
  have hac : Cond.arrayClass .int ∈ wsX5_init := by decide +kernel
  have f7 : Cond.fieldLink RX5 7 "CorkPermitsModel" "s" "[I" ∈ wsX5_init := by decide +kernel
  have f13 : Cond.fieldLink RX5 13 "CorkPermitsModel" "aside" "[I" ∈ wsX5_init := by decide +kernel
  have f16 : Cond.fieldLink RX5 16 "CorkPermitsModel" "past" "[I" ∈ wsX5_init := by decide +kernel
  have f19 : Cond.fieldLink RX5 19 "CorkPermitsModel" "slots" "[I" ∈ wsX5_init := by decide +kernel
  have f22 : Cond.fieldLink RX5 22 "CorkPermitsModel" "has" "[I" ∈ wsX5_init := by decide +kernel
  have f25 : Cond.fieldLink RX5 25 "CorkPermitsModel" "text" "[I" ∈ wsX5_init := by decide +kernel
  refine J_aln C0 0 dX5_init_0 (kk := ?_)
  refine J_objInit C0 (by decide +kernel) (by decide +kernel) (by decide +kernel) dX5_init_1 (kk := ?_)
  refine J_aln C0 0 dX5_init_4 (kk := ?_)
  refine J_si C0 283 dX5_init_5 (kk := ?_)
  refine J_newaI2 C0 dX5_init_8 hac (by decide) (kk := fun r1 => ?_)
  refine J_putF C0 iX5 tyX5_ok nmX5 0 0 0 ([[(p, .inr (5, [.ref r1, .null, .null, .int 0, .null, .null, .null, .int 0, .int 0, .int 0, .int 0, .int 0, .int 0]))], [(r1, .inl (kI K, 283, .inl (fun _ => 0)))]]) f7 dX5_init_10 (hI := hI) (hd := rfl) (kk := ?_)
  refine J_aln C0 0 dX5_init_13 (kk := ?_)
  refine J_si C0 283 dX5_init_14 (kk := ?_)
  refine J_newaI2 C0 dX5_init_17 hac (by decide) (kk := fun r2 => ?_)
  refine J_putF C0 iX5 tyX5_ok nmX5 0 0 1 ([[(p, .inr (5, [.ref r1, .ref r2, .null, .int 0, .null, .null, .null, .int 0, .int 0, .int 0, .int 0, .int 0, .int 0]))], [(r1, .inl (kI K, 283, .inl (fun _ => 0)))], [(r2, .inl (kI K, 283, .inl (fun _ => 0)))]]) f13 dX5_init_19 (hI := hI) (hd := rfl) (kk := ?_)
  refine J_aln C0 0 dX5_init_22 (kk := ?_)
  refine J_si C0 1698 dX5_init_23 (kk := ?_)
  refine J_newaI2 C0 dX5_init_26 hac (by decide) (kk := fun r3 => ?_)
  refine J_putF C0 iX5 tyX5_ok nmX5 0 0 2 ([[(p, .inr (5, [.ref r1, .ref r2, .ref r3, .int 0, .null, .null, .null, .int 0, .int 0, .int 0, .int 0, .int 0, .int 0]))], [(r1, .inl (kI K, 283, .inl (fun _ => 0)))], [(r2, .inl (kI K, 283, .inl (fun _ => 0)))], [(r3, .inl (kI K, 1698, .inl (fun _ => 0)))]]) f16 dX5_init_28 (hI := hI) (hd := rfl) (kk := ?_)
  refine J_aln C0 0 dX5_init_31 (kk := ?_)
  refine J_si C0 566 dX5_init_32 (kk := ?_)
  refine J_newaI2 C0 dX5_init_35 hac (by decide) (kk := fun r4 => ?_)
  refine J_putF C0 iX5 tyX5_ok nmX5 0 0 4 ([[(p, .inr (5, [.ref r1, .ref r2, .ref r3, .int 0, .ref r4, .null, .null, .int 0, .int 0, .int 0, .int 0, .int 0, .int 0]))], [(r1, .inl (kI K, 283, .inl (fun _ => 0)))], [(r2, .inl (kI K, 283, .inl (fun _ => 0)))], [(r3, .inl (kI K, 1698, .inl (fun _ => 0)))], [(r4, .inl (kI K, 566, .inl (fun _ => 0)))]]) f19 dX5_init_37 (hI := hI) (hd := rfl) (kk := ?_)
  refine J_aln C0 0 dX5_init_40 (kk := ?_)
  refine J_ic C0 2 dX5_init_41 (kk := ?_)
  refine J_newaI2 C0 dX5_init_42 hac (by decide) (kk := fun r5 => ?_)
  refine J_putF C0 iX5 tyX5_ok nmX5 0 0 5 ([[(p, .inr (5, [.ref r1, .ref r2, .ref r3, .int 0, .ref r4, .ref r5, .null, .int 0, .int 0, .int 0, .int 0, .int 0, .int 0]))], [(r1, .inl (kI K, 283, .inl (fun _ => 0)))], [(r2, .inl (kI K, 283, .inl (fun _ => 0)))], [(r3, .inl (kI K, 1698, .inl (fun _ => 0)))], [(r4, .inl (kI K, 566, .inl (fun _ => 0)))], [(r5, .inl (kI K, 2, .inl (fun _ => 0)))]]) f22 dX5_init_44 (hI := hI) (hd := rfl) (kk := ?_)
  refine J_aln C0 0 dX5_init_47 (kk := ?_)
  refine J_bi C0 60 dX5_init_48 (kk := ?_)
  refine J_newaI2 C0 dX5_init_50 hac (by decide) (kk := fun r6 => ?_)
  refine J_putF C0 iX5 tyX5_ok nmX5 0 0 6 ([[(p, .inr (5, [.ref r1, .ref r2, .ref r3, .int 0, .ref r4, .ref r5, .ref r6, .int 0, .int 0, .int 0, .int 0, .int 0, .int 0]))], [(r1, .inl (kI K, 283, .inl (fun _ => 0)))], [(r2, .inl (kI K, 283, .inl (fun _ => 0)))], [(r3, .inl (kI K, 1698, .inl (fun _ => 0)))], [(r4, .inl (kI K, 566, .inl (fun _ => 0)))], [(r5, .inl (kI K, 2, .inl (fun _ => 0)))], [(r6, .inl (kI K, 60, .inl (fun _ => 0)))]]) f25 dX5_init_52 (hI := hI) (hd := rfl) (kk := ?_)
  refine J_aln C0 0 dX5_init_55 (kk := ?_)
  refine J_get C0 iX5 0 0 0 f7 dX5_init_56 (kk := ?_)
  refine J_ic C0 5 dX5_init_59 (kk := ?_)
  refine J_ic C0 2 dX5_init_60 (kk := ?_)
  refine J_iast C0 1 0 283 ([[(p, .inr (5, [.ref r1, .ref r2, .ref r3, .int 0, .ref r4, .ref r5, .ref r6, .int 0, .int 0, .int 0, .int 0, .int 0, .int 0]))], [(r1, .inl (kI K, 283, .inl (upd (fun _ => 0) 5 (nI 2))))], [(r2, .inl (kI K, 283, .inl (fun _ => 0)))], [(r3, .inl (kI K, 1698, .inl (fun _ => 0)))], [(r4, .inl (kI K, 566, .inl (fun _ => 0)))], [(r5, .inl (kI K, 2, .inl (fun _ => 0)))], [(r6, .inl (kI K, 60, .inl (fun _ => 0)))]]) dX5_init_61 (by decide) (kk := ?_)
  refine J_ic C0 0 dX5_init_62 (kk := ?_)
  refine J_isn C0 [(1, .int (nI 0)), (0, .ref p)] dX5_init_63 (kk := ?_)
  refine J_iln C0 0 dX5_init_64 (kk := ?_)
  refine J_ic C0 3 dX5_init_65 (kk := ?_)
  refine J_icmpgeN C0 89 (by decide) (by decide) dX5_init_66 (kt := fun c => absurd c (by decide)) (kf := fun _ => ?_)
  refine J_aln C0 1 dX5_init_69 (kk := ?_)
  refine J_get C0 iX5 0 0 0 f7 dX5_init_70 (kk := ?_)
  refine J_bi C0 8 dX5_init_73 (kk := ?_)
  refine J_ic C0 5 dX5_init_75 (kk := ?_)
  refine J_iln C0 0 dX5_init_76 (kk := ?_)
  refine J_imulN C0 dX5_init_77 ?_
  refine J_iaddN C0 dX5_init_78 ?_
  refine J_ic C0 0 dX5_init_79 (kk := ?_)
  refine J_iaddN C0 dX5_init_80 ?_
  refine J_ic C0 4 dX5_init_81 (kk := ?_)
  refine J_iast C0 1 0 283 (j := 8) ([[(p, .inr (5, [.ref r1, .ref r2, .ref r3, .int 0, .ref r4, .ref r5, .ref r6, .int 0, .int 0, .int 0, .int 0, .int 0, .int 0]))], [(r1, .inl (kI K, 283, .inl (upd (upd (fun _ => 0) 5 (nI 2)) 8 (nI 4))))], [(r2, .inl (kI K, 283, .inl (fun _ => 0)))], [(r3, .inl (kI K, 1698, .inl (fun _ => 0)))], [(r4, .inl (kI K, 566, .inl (fun _ => 0)))], [(r5, .inl (kI K, 2, .inl (fun _ => 0)))], [(r6, .inl (kI K, 60, .inl (fun _ => 0)))]]) dX5_init_82 (by decide) (kk := ?_)
  refine J_iincN C0 0 [(1, .int (nI 1)), (0, .ref p)] dX5_init_83 (kk := ?_)
  refine J_goto C0 64 dX5_init_86 (kk := ?_)
  refine J_iln C0 0 dX5_init_64 (kk := ?_)
  refine J_ic C0 3 dX5_init_65 (kk := ?_)
  refine J_icmpgeN C0 89 (by decide) (by decide) dX5_init_66 (kt := fun c => absurd c (by decide)) (kf := fun _ => ?_)
  refine J_aln C0 1 dX5_init_69 (kk := ?_)
  refine J_get C0 iX5 0 0 0 f7 dX5_init_70 (kk := ?_)
  refine J_bi C0 8 dX5_init_73 (kk := ?_)
  refine J_ic C0 5 dX5_init_75 (kk := ?_)
  refine J_iln C0 0 dX5_init_76 (kk := ?_)
  refine J_imulN C0 dX5_init_77 ?_
  refine J_iaddN C0 dX5_init_78 ?_
  refine J_ic C0 0 dX5_init_79 (kk := ?_)
  refine J_iaddN C0 dX5_init_80 ?_
  refine J_ic C0 4 dX5_init_81 (kk := ?_)
  refine J_iast C0 1 0 283 (j := 13) ([[(p, .inr (5, [.ref r1, .ref r2, .ref r3, .int 0, .ref r4, .ref r5, .ref r6, .int 0, .int 0, .int 0, .int 0, .int 0, .int 0]))], [(r1, .inl (kI K, 283, .inl (upd (upd (upd (fun _ => 0) 5 (nI 2)) 8 (nI 4)) 13 (nI 4))))], [(r2, .inl (kI K, 283, .inl (fun _ => 0)))], [(r3, .inl (kI K, 1698, .inl (fun _ => 0)))], [(r4, .inl (kI K, 566, .inl (fun _ => 0)))], [(r5, .inl (kI K, 2, .inl (fun _ => 0)))], [(r6, .inl (kI K, 60, .inl (fun _ => 0)))]]) dX5_init_82 (by decide) (kk := ?_)
  refine J_iincN C0 0 [(1, .int (nI 2)), (0, .ref p)] dX5_init_83 (kk := ?_)
  refine J_goto C0 64 dX5_init_86 (kk := ?_)
  refine J_iln C0 0 dX5_init_64 (kk := ?_)
  refine J_ic C0 3 dX5_init_65 (kk := ?_)
  refine J_icmpgeN C0 89 (by decide) (by decide) dX5_init_66 (kt := fun c => absurd c (by decide)) (kf := fun _ => ?_)
  refine J_aln C0 1 dX5_init_69 (kk := ?_)
  refine J_get C0 iX5 0 0 0 f7 dX5_init_70 (kk := ?_)
  refine J_bi C0 8 dX5_init_73 (kk := ?_)
  refine J_ic C0 5 dX5_init_75 (kk := ?_)
  refine J_iln C0 0 dX5_init_76 (kk := ?_)
  refine J_imulN C0 dX5_init_77 ?_
  refine J_iaddN C0 dX5_init_78 ?_
  refine J_ic C0 0 dX5_init_79 (kk := ?_)
  refine J_iaddN C0 dX5_init_80 ?_
  refine J_ic C0 4 dX5_init_81 (kk := ?_)
  refine J_iast C0 1 0 283 (j := 18) ([[(p, .inr (5, [.ref r1, .ref r2, .ref r3, .int 0, .ref r4, .ref r5, .ref r6, .int 0, .int 0, .int 0, .int 0, .int 0, .int 0]))], [(r1, .inl (kI K, 283, .inl (upd (upd (upd (upd (fun _ => 0) 5 (nI 2)) 8 (nI 4)) 13 (nI 4)) 18 (nI 4))))], [(r2, .inl (kI K, 283, .inl (fun _ => 0)))], [(r3, .inl (kI K, 1698, .inl (fun _ => 0)))], [(r4, .inl (kI K, 566, .inl (fun _ => 0)))], [(r5, .inl (kI K, 2, .inl (fun _ => 0)))], [(r6, .inl (kI K, 60, .inl (fun _ => 0)))]]) dX5_init_82 (by decide) (kk := ?_)
  refine J_iincN C0 0 [(1, .int (nI 3)), (0, .ref p)] dX5_init_83 (kk := ?_)
  refine J_goto C0 64 dX5_init_86 (kk := ?_)
  refine J_iln C0 0 dX5_init_64 (kk := ?_)
  refine J_ic C0 3 dX5_init_65 (kk := ?_)
  refine J_icmpgeN C0 89 (by decide) (by decide) dX5_init_66 (kt := fun _ => ?_) (kf := fun c => absurd c (by decide))
  rw [flat_c0]
  refine J_conv (bs2 := [modR K (fun i => [p, r1, r2, r3, r4, r5, r6].getD i 0) (flat cel0) (fun _ => 0) (fun _ => 0) (fun _ => 0) (fun _ _ => 0)]) rfl ?_
  exact J_vret C0 hF dX5_init_89 ⟨rfl, _, rfl, rfl⟩
abbrev rmX5_in : Room := { frames := 0, cells := 0, slots := 0, locals := 0 }
set_option maxHeartbeats 4000000 in
set_option maxRecDepth 100000 in
theorem mX5_in (l : Launch) (K : KT) (x lo hi : Int32) : Ct l K yX5_in wsX5_in rmX5_in [.int x, .int lo, .int hi] [] (some (.int (if ¬ x < lo ∧ ¬ hi < x then nI 1 else nI 0))) [] := by
  refine CtP_of (cc := cX5_in) (nL := 3) (rt := some .boolean) (own := RX5) (lv0 := [(0, .int x), (1, .int lo), (2, .int hi)]) (by decide) rfl (Nat.le_of_ble_eq_true rfl) rfl rfl ?_
  intro G C0 hF _
  refine J_iln C0 0 dX5_in_0 (kk := ?_)
  refine J_iln C0 1 dX5_in_1 (kk := ?_)
  refine J_icmplt C0 14 dX5_in_2 (kt := fun c1 => ?_) (kf := fun c1 => ?_)
  · refine J_ic C0 0 dX5_in_14 (kk := ?_)
    exact J_zret C0 hF dX5_in_15 (by decide) ⟨by simp only [c1, ← Int32.not_lt, not_false_eq_true, not_true_eq_false, and_true, true_and, and_false, false_and, and_self, or_true, true_or, or_false, false_or, if_true, if_false, ite_true, ite_false], rfl⟩
  · refine J_iln C0 0 dX5_in_5 (kk := ?_)
    refine J_iln C0 2 dX5_in_6 (kk := ?_)
    refine J_icmpgt C0 14 dX5_in_7 (kt := fun c2 => ?_) (kf := fun c2 => ?_)
    · refine J_ic C0 0 dX5_in_14 (kk := ?_)
      exact J_zret C0 hF dX5_in_15 (by decide) ⟨by simp only [c1, c2, ← Int32.not_lt, not_false_eq_true, not_true_eq_false, and_true, true_and, and_false, false_and, and_self, or_true, true_or, or_false, false_or, if_true, if_false, ite_true, ite_false], rfl⟩
    · refine J_ic C0 1 dX5_in_10 (kk := ?_)
      refine J_goto C0 15 dX5_in_11 (kk := ?_)
      exact J_zret C0 hF dX5_in_15 (by decide) ⟨by simp only [c1, c2, ← Int32.not_lt, not_false_eq_true, not_true_eq_false, and_true, true_and, and_false, false_and, and_self, or_true, true_or, or_false, false_or, if_true, if_false, ite_true, ite_false], rfl⟩

theorem mX5_in_y (l : Launch) (K : KT) {x lo hi : Int32} (h1 : ¬ x < lo) (h2 : ¬ hi < x) : Ct l K yX5_in wsX5_in rmX5_in [.int x, .int lo, .int hi] [] (some (.int (nI 1))) [] := by
  have h := mX5_in l K x lo hi
  rwa [if_pos ⟨h1, h2⟩] at h
theorem mX5_in_n (l : Launch) (K : KT) {x lo hi : Int32} (h1 : ¬ (¬ x < lo ∧ ¬ hi < x)) : Ct l K yX5_in wsX5_in rmX5_in [.int x, .int lo, .int hi] [] (some (.int (nI 0))) [] := by
  have h := mX5_in l K x lo hi
  rwa [if_neg h1] at h
abbrev rmX5_isKind : Room := { frames := 1, cells := 0, slots := 0, locals := 22 }
set_option maxHeartbeats 4000000 in
set_option maxRecDepth 100000 in
theorem mX5_isKind (l : Launch) (K : KT) (x : Int32) : Ct l K yX5_isKind wsX5_isKind rmX5_isKind [.int x] [] (some (.int (if ¬ x < nI 0 ∧ ¬ nI 2 < x then nI 1 else nI 0))) [] := by
  refine CtP_of (cc := cX5_isKind) (nL := 1) (rt := some .boolean) (own := RX5) (lv0 := [(0, .int x)]) (by decide) rfl (Nat.le_of_ble_eq_true rfl) rfl rfl ?_
  intro G C0 hF _
  refine J_iln C0 0 dX5_isKind_0 (kk := ?_)
  refine J_ic C0 0 dX5_isKind_1 (kk := ?_)
  refine J_ic C0 2 dX5_isKind_2 (kk := ?_)
  refine J_callSd C0 (mX5_in l K x (nI 0) (nI 2)) [] [] gX5_isKind_X5_in dX5_isKind_3 3 (kk := ?_)
  show J G _ _ _ _ _ [.int (if ¬ x < (nI 0) ∧ ¬ (nI 2) < x then nI 1 else nI 0)]
  exact J_zret C0 hF dX5_isKind_6 (by split <;> decide) ⟨rfl, rfl⟩

abbrev rmX5_isHouse : Room := { frames := 1, cells := 0, slots := 0, locals := 22 }
set_option maxHeartbeats 4000000 in
set_option maxRecDepth 100000 in
theorem mX5_isHouse (l : Launch) (K : KT) (a : Nat → Nat) (F : FF) (g P L : Nat → Int32) (M : FF) (x : Int32) : Ct l K yX5_isHouse wsX5_isHouse rmX5_isHouse [.ref (a 0), .int x] [modR K a (flat F) g P L M] (some (.int (if ¬ x < nI 0 ∧ ¬ (F 0 1 - nI 1) < x then nI 1 else nI 0))) [modR K a (flat F) g P L M] := by
  refine CtP_of (cc := cX5_isHouse) (nL := 2) (rt := some .boolean) (own := RX5) (lv0 := [(0, .ref (a 0)), (1, .int x)]) (by decide) rfl (Nat.le_of_ble_eq_true rfl) rfl rfl ?_
  intro G C0 hF _
  have f7 : Cond.fieldLink RX5 7 "CorkPermitsModel" "s" "[I" ∈ wsX5_isHouse := by decide +kernel
  have iX5 : ∀ w ∈ u_ws RX5 TX5 13, w ∈ wsX5_isHouse := by decide +kernel
  refine J_iln C0 1 dX5_isHouse_0 (kk := ?_)
  refine J_ic C0 0 dX5_isHouse_1 (kk := ?_)
  refine J_aln C0 0 dX5_isHouse_2 (kk := ?_)
  refine J_get C0 iX5 0 0 0 f7 dX5_isHouse_3 (kk := ?_)
  refine J_ic C0 1 dX5_isHouse_6 (kk := ?_)
  refine J_iald C0 0 1 283 dX5_isHouse_7 (by omega) (v := (F 0 1)) (hv := (flat_0 F (j := 1) (by decide)).trans rfl) (kk := ?_)
  refine J_ic C0 1 dX5_isHouse_8 (kk := ?_)
  refine J_isub C0 dX5_isHouse_9 ?_
  refine J_callSd C0 (mX5_in l K x (nI 0) ((F 0 1) - (nI 1))) [modR K a (flat F) g P L M] [modR K a (flat F) g P L M] gX5_isHouse_X5_in dX5_isHouse_10 3 (kk := ?_)
  show J G _ _ _ _ _ [.int (if ¬ x < (nI 0) ∧ ¬ ((F 0 1) - (nI 1)) < x then nI 1 else nI 0)]
  exact J_zret C0 hF dX5_isHouse_13 (by split <;> decide) ⟨rfl, rfl⟩

abbrev isPr (F : FF) (x y : Int32) : Prop := (¬ x < nI 0 ∧ ¬ (F 0 1 - nI 1) < x) ∧ ¬ y < nI 0 ∧ ¬ nI 2 < y
abbrev rmX5_isPair : Room := { frames := 2, cells := 0, slots := 0, locals := 43 }
set_option maxHeartbeats 4000000 in
set_option maxRecDepth 100000 in
theorem mX5_isPair (l : Launch) (K : KT) (a : Nat → Nat) (F : FF) (g P L : Nat → Int32) (M : FF) (x y : Int32) : Ct l K yX5_isPair wsX5_isPair rmX5_isPair [.ref (a 0), .int x, .int y] [modR K a (flat F) g P L M] (some (.int (if isPr F x y then nI 1 else nI 0))) [modR K a (flat F) g P L M] := by
  refine CtP_of (cc := cX5_isPair) (nL := 3) (rt := some .boolean) (own := RX5) (lv0 := [(0, .ref (a 0)), (1, .int x), (2, .int y)]) (by decide) rfl (Nat.le_of_ble_eq_true rfl) rfl rfl ?_
  intro G C0 hF _
  refine J_aln C0 0 dX5_isPair_0 (kk := ?_)
  refine J_iln C0 1 dX5_isPair_1 (kk := ?_)
  refine J_callVd C0 (mX5_isHouse l K a F g P L M x) [] [modR K a (flat F) g P L M] gX5_isPair_X5_isHouse dX5_isPair_2 1 0 (kk := ?_)
  show J G _ _ _ _ _ [.int (if ¬ x < nI 0 ∧ ¬ (F 0 1 - nI 1) < x then nI 1 else nI 0)]
  refine J_ifeqB C0 19 dX5_isPair_5 (kt := fun c1 => ?_) (kf := fun c1 => ?_)
  · refine J_ic C0 0 dX5_isPair_19 (kk := ?_)
    exact J_zret C0 hF dX5_isPair_20 (by decide) ⟨by simp only [isPr, c1, not_false_eq_true, not_true_eq_false, and_true, true_and, and_false, false_and, and_self, or_true, true_or, or_false, false_or, if_true, if_false, ite_true, ite_false, eq_self], rfl⟩
  · refine J_iln C0 2 dX5_isPair_8 (kk := ?_)
    refine J_callSd C0 (mX5_isKind l K y) [modR K a (flat F) g P L M] [modR K a (flat F) g P L M] gX5_isPair_X5_isKind dX5_isPair_9 1 (kk := ?_)
    show J G _ _ _ _ _ [.int (if ¬ y < nI 0 ∧ ¬ nI 2 < y then nI 1 else nI 0)]
    refine J_ifeqB C0 19 dX5_isPair_12 (kt := fun c2 => ?_) (kf := fun c2 => ?_)
    · refine J_ic C0 0 dX5_isPair_19 (kk := ?_)
      exact J_zret C0 hF dX5_isPair_20 (by decide) ⟨by simp only [isPr, c1, c2, not_false_eq_true, not_true_eq_false, and_true, true_and, and_false, false_and, and_self, or_true, true_or, or_false, false_or, if_true, if_false, ite_true, ite_false, eq_self], rfl⟩
    · refine J_ic C0 1 dX5_isPair_15 (kk := ?_)
      refine J_goto C0 20 dX5_isPair_16 (kk := ?_)
      exact J_zret C0 hF dX5_isPair_20 (by decide) ⟨by simp only [isPr, c1, c2, not_false_eq_true, not_true_eq_false, and_true, true_and, and_false, false_and, and_self, or_true, true_or, or_false, false_or, if_true, if_false, ite_true, ite_false, eq_self], rfl⟩

abbrev rmX5_ofKind : Room := { frames := 0, cells := 0, slots := 0, locals := 0 }
set_option maxHeartbeats 4000000 in
set_option maxRecDepth 100000 in
theorem mX5_ofKind (l : Launch) (K : KT) (a : Nat → Nat) (F : FF) (g P L : Nat → Int32) (M : FF) {k w : Nat} (hk : k < 3) (hw : w < 5) : Ct l K yX5_ofKind wsX5_ofKind rmX5_ofKind [.ref (a 0), .int (nI k), .int (nI w)] [modR K a (flat F) g P L M] (some (.int (F (2 + w) k))) [modR K a (flat F) g P L M] := by
  refine CtP_of (cc := cX5_ofKind) (nL := 3) (rt := some .int) (own := RX5) (lv0 := [(0, .ref (a 0)), (1, .int (nI k)), (2, .int (nI w))]) (by decide) rfl (Nat.le_of_ble_eq_true rfl) rfl rfl ?_
  intro G C0 hF _
  have f7 : Cond.fieldLink RX5 7 "CorkPermitsModel" "s" "[I" ∈ wsX5_ofKind := by decide +kernel
  have iX5 : ∀ w ∈ u_ws RX5 TX5 13, w ∈ wsX5_ofKind := by decide +kernel
  refine J_aln C0 0 dX5_ofKind_0 (kk := ?_)
  refine J_get C0 iX5 0 0 0 f7 dX5_ofKind_1 (kk := ?_)
  refine J_bi C0 8 dX5_ofKind_4 (kk := ?_)
  refine J_ic C0 5 dX5_ofKind_6 (kk := ?_)
  refine J_iln C0 1 dX5_ofKind_7 (kk := ?_)
  refine J_imulN C0 dX5_ofKind_8 ?_
  refine J_iaddN C0 dX5_ofKind_9 ?_
  refine J_iln C0 2 dX5_ofKind_10 (kk := ?_)
  refine J_iaddN C0 dX5_ofKind_11 ?_
  refine J_iald C0 0 1 283 dX5_ofKind_12 (by omega) (v := (F (2 + w) k)) (hv := (flat_k F (j := 8 + (5 * k) + w) (k := k) (c := w) (by omega) (by omega) (by omega)).trans rfl) (kk := ?_)
  exact J_iret C0 hF dX5_ofKind_13 ⟨rfl, rfl⟩

abbrev rmX5_at : Room := { frames := 0, cells := 0, slots := 0, locals := 0 }
set_option maxHeartbeats 4000000 in
set_option maxRecDepth 100000 in
theorem mX5_at (l : Launch) (K : KT) {h k : Nat} : Ct l K yX5_at wsX5_at rmX5_at [.int (nI h), .int (nI k)] [] (some (.int (nI (23 + 5 * (3 * h + k))))) [] := by
  refine CtP_of (cc := cX5_at) (nL := 2) (rt := some .int) (own := RX5) (lv0 := [(0, .int (nI h)), (1, .int (nI k))]) (by decide) rfl (Nat.le_of_ble_eq_true rfl) rfl rfl ?_
  intro G C0 hF _
  refine J_bi C0 23 dX5_at_0 (kk := ?_)
  refine J_ic C0 5 dX5_at_2 (kk := ?_)
  refine J_ic C0 3 dX5_at_3 (kk := ?_)
  refine J_iln C0 0 dX5_at_4 (kk := ?_)
  refine J_imulN C0 dX5_at_5 ?_
  refine J_iln C0 1 dX5_at_6 (kk := ?_)
  refine J_iaddN C0 dX5_at_7 ?_
  refine J_imulN C0 dX5_at_8 ?_
  refine J_iaddN C0 dX5_at_9 ?_
  exact J_iret C0 hF dX5_at_10 ⟨rfl, rfl⟩

abbrev rmX5_of : Room := { frames := 1, cells := 0, slots := 0, locals := 21 }
set_option maxHeartbeats 4000000 in
set_option maxRecDepth 100000 in
theorem mX5_of (l : Launch) (K : KT) (a : Nat → Nat) (F : FF) (g P L : Nat → Int32) (M : FF) {h k : Nat} (hh : h < 4) (hk : k < 3) {w : Nat} (hw : w < 5) : Ct l K yX5_of wsX5_of rmX5_of [.ref (a 0), .int (nI h), .int (nI k), .int (nI w)] [modR K a (flat F) g P L M] (some (.int (F (7 + w) (3 * h + k)))) [modR K a (flat F) g P L M] := by
  refine CtP_of (cc := cX5_of) (nL := 4) (rt := some .int) (own := RX5) (lv0 := [(0, .ref (a 0)), (1, .int (nI h)), (2, .int (nI k)), (3, .int (nI w))]) (by decide) rfl (Nat.le_of_ble_eq_true rfl) rfl rfl ?_
  intro G C0 hF _
  have f7 : Cond.fieldLink RX5 7 "CorkPermitsModel" "s" "[I" ∈ wsX5_of := by decide +kernel
  have iX5 : ∀ w ∈ u_ws RX5 TX5 13, w ∈ wsX5_of := by decide +kernel
  refine J_aln C0 0 dX5_of_0 (kk := ?_)
  refine J_get C0 iX5 0 0 0 f7 dX5_of_1 (kk := ?_)
  refine J_iln C0 1 dX5_of_4 (kk := ?_)
  refine J_iln C0 2 dX5_of_5 (kk := ?_)
  refine J_callSd C0 (mX5_at l K (h := h) (k := k)) [modR K a (flat F) g P L M] [modR K a (flat F) g P L M] gX5_of_X5_at dX5_of_6 2 (kk := ?_)
  show J G _ _ _ _ _ [.int (nI (23 + 5 * (3 * h + k))), .ref (a 1)]
  refine J_iln C0 3 dX5_of_9 (kk := ?_)
  refine J_iaddN C0 dX5_of_10 ?_
  refine J_iald C0 0 1 283 dX5_of_11 (by omega) (v := (F (7 + w) (3 * h + k))) (hv := (flat_p F (j := 23 + 5 * (3 * h + k) + w) (p := 3 * h + k) (c := w) (by omega) (by omega) (by omega)).trans rfl) (kk := ?_)
  exact J_iret C0 hF dX5_of_12 ⟨rfl, rfl⟩

abbrev rmX5_outOf : Room := { frames := 2, cells := 0, slots := 0, locals := 44 }
set_option maxHeartbeats 4000000 in
set_option maxRecDepth 100000 in
theorem mX5_outOf (l : Launch) (K : KT) (a : Nat → Nat) (F : FF) (g P L : Nat → Int32) (M : FF) {h k : Nat} (hh : h < 4) (hk : k < 3) : Ct l K yX5_outOf wsX5_outOf rmX5_outOf [.ref (a 0), .int (nI h), .int (nI k)] [modR K a (flat F) g P L M] (some (.int (outS F (3 * h + k)))) [modR K a (flat F) g P L M] := by
  refine CtP_of (cc := cX5_outOf) (nL := 3) (rt := some .int) (own := RX5) (lv0 := [(0, .ref (a 0)), (1, .int (nI h)), (2, .int (nI k))]) (by decide) rfl (Nat.le_of_ble_eq_true rfl) rfl rfl ?_
  intro G C0 hF _
  refine J_aln C0 0 dX5_outOf_0 (kk := ?_)
  refine J_iln C0 1 dX5_outOf_1 (kk := ?_)
  refine J_iln C0 2 dX5_outOf_2 (kk := ?_)
  refine J_ic C0 0 dX5_outOf_3 (kk := ?_)
  refine J_callVd C0 (mX5_of l K a F g P L M (h := h) (k := k) (w := 0) (by omega) (by omega) (by omega)) [] [modR K a (flat F) g P L M] gX5_outOf_X5_of dX5_outOf_4 3 0 (kk := ?_)
  show J G _ _ _ _ _ [.int (F 7 (3 * h + k))]
  refine J_aln C0 0 dX5_outOf_7 (kk := ?_)
  refine J_iln C0 1 dX5_outOf_8 (kk := ?_)
  refine J_iln C0 2 dX5_outOf_9 (kk := ?_)
  refine J_ic C0 1 dX5_outOf_10 (kk := ?_)
  refine J_callVd C0 (mX5_of l K a F g P L M (h := h) (k := k) (w := 1) (by omega) (by omega) (by omega)) [] [modR K a (flat F) g P L M] gX5_outOf_X5_of dX5_outOf_11 3 0 (kk := ?_)
  show J G _ _ _ _ _ [.int (F 8 (3 * h + k)), .int (F 7 (3 * h + k))]
  refine J_isub C0 dX5_outOf_14 ?_
  exact J_iret C0 hF dX5_outOf_15 ⟨rfl, rfl⟩

abbrev rmX5_corks : Room := { frames := 2, cells := 0, slots := 0, locals := 44 }
set_option maxHeartbeats 4000000 in
set_option maxRecDepth 100000 in
theorem mX5_corks (l : Launch) (K : KT) (a : Nat → Nat) (F : FF) (g P L : Nat → Int32) (M : FF) {h k : Nat} (hh : h < 4) (hk : k < 3) : Ct l K yX5_corks wsX5_corks rmX5_corks [.ref (a 0), .int (nI h), .int (nI k)] [modR K a (flat F) g P L M] (some (.int (corksS F (3 * h + k)))) [modR K a (flat F) g P L M] := by
  refine CtP_of (cc := cX5_corks) (nL := 3) (rt := some .int) (own := RX5) (lv0 := [(0, .ref (a 0)), (1, .int (nI h)), (2, .int (nI k))]) (by decide) rfl (Nat.le_of_ble_eq_true rfl) rfl rfl ?_
  intro G C0 hF _
  refine J_aln C0 0 dX5_corks_0 (kk := ?_)
  refine J_iln C0 1 dX5_corks_1 (kk := ?_)
  refine J_iln C0 2 dX5_corks_2 (kk := ?_)
  refine J_ic C0 2 dX5_corks_3 (kk := ?_)
  refine J_callVd C0 (mX5_of l K a F g P L M (h := h) (k := k) (w := 2) (by omega) (by omega) (by omega)) [] [modR K a (flat F) g P L M] gX5_corks_X5_of dX5_corks_4 3 0 (kk := ?_)
  show J G _ _ _ _ _ [.int (F 9 (3 * h + k))]
  refine J_aln C0 0 dX5_corks_7 (kk := ?_)
  refine J_iln C0 1 dX5_corks_8 (kk := ?_)
  refine J_iln C0 2 dX5_corks_9 (kk := ?_)
  refine J_ic C0 3 dX5_corks_10 (kk := ?_)
  refine J_callVd C0 (mX5_of l K a F g P L M (h := h) (k := k) (w := 3) (by omega) (by omega) (by omega)) [] [modR K a (flat F) g P L M] gX5_corks_X5_of dX5_corks_11 3 0 (kk := ?_)
  show J G _ _ _ _ _ [.int (F 10 (3 * h + k)), .int (F 9 (3 * h + k))]
  refine J_isub C0 dX5_corks_14 ?_
  exact J_iret C0 hF dX5_corks_15 ⟨rfl, rfl⟩

abbrev rmX5_hasRoom : Room := { frames := 0, cells := 0, slots := 0, locals := 0 }
set_option maxHeartbeats 4000000 in
set_option maxRecDepth 100000 in
theorem mX5_hasRoom (l : Launch) (K : KT) (a : Nat → Nat) (F : FF) (g P L : Nat → Int32) (M : FF) : Ct l K yX5_hasRoom wsX5_hasRoom rmX5_hasRoom [.ref (a 0)] [modR K a (flat F) g P L M] (some (.int (if roomS F then nI 1 else nI 0))) [modR K a (flat F) g P L M] := by
  refine CtP_of (cc := cX5_hasRoom) (nL := 1) (rt := some .boolean) (own := RX5) (lv0 := [(0, .ref (a 0))]) (by decide) rfl (Nat.le_of_ble_eq_true rfl) rfl rfl ?_
  intro G C0 hF _
  have f7 : Cond.fieldLink RX5 7 "CorkPermitsModel" "s" "[I" ∈ wsX5_hasRoom := by decide +kernel
  have iX5 : ∀ w ∈ u_ws RX5 TX5 13, w ∈ wsX5_hasRoom := by decide +kernel
  refine J_aln C0 0 dX5_hasRoom_0 (kk := ?_)
  refine J_get C0 iX5 0 0 0 f7 dX5_hasRoom_1 (kk := ?_)
  refine J_ic C0 4 dX5_hasRoom_4 (kk := ?_)
  refine J_iald C0 0 1 283 dX5_hasRoom_5 (by omega) (v := (F 0 4)) (hv := (flat_0 F (j := 4) (by decide)).trans rfl) (kk := ?_)
  refine J_bi C0 40 dX5_hasRoom_6 (kk := ?_)
  refine J_icmpge C0 15 dX5_hasRoom_8 (kt := fun c1 => ?_) (kf := fun c1 => ?_)
  · refine J_ic C0 0 dX5_hasRoom_15 (kk := ?_)
    exact J_zret C0 hF dX5_hasRoom_16 (by decide) ⟨by simp only [roomS, c1, not_false_eq_true, not_true_eq_false, and_true, true_and, and_false, false_and, and_self, or_true, true_or, or_false, false_or, if_true, if_false, ite_true, ite_false, eq_self], rfl⟩
  · refine J_ic C0 1 dX5_hasRoom_11 (kk := ?_)
    refine J_goto C0 16 dX5_hasRoom_12 (kk := ?_)
    exact J_zret C0 hF dX5_hasRoom_16 (by decide) ⟨by simp only [roomS, c1, not_false_eq_true, not_true_eq_false, and_true, true_and, and_false, false_and, and_self, or_true, true_or, or_false, false_or, if_true, if_false, ite_true, ite_false, eq_self], rfl⟩

abbrev rmX5_fails : Room := { frames := 0, cells := 0, slots := 0, locals := 0 }
set_option maxHeartbeats 4000000 in
set_option maxRecDepth 100000 in
theorem mX5_fails (l : Launch) (K : KT) (a : Nat → Nat) (F : FF) (g P L : Nat → Int32) (M : FF) (x : Int32) : Ct l K yX5_fails wsX5_fails rmX5_fails [.ref (a 0), .int x] [modR K a (flat F) g P L M] (some (.int (nI 0))) [modR K a (flat F) g P L (u2 M 0 2 x)] := by
  refine CtP_of (cc := cX5_fails) (nL := 2) (rt := some .int) (own := RX5) (lv0 := [(0, .ref (a 0)), (1, .int x)]) (by decide) rfl (Nat.le_of_ble_eq_true rfl) rfl rfl ?_
  intro G C0 hF _
  have f28 : Cond.fieldLink RX5 28 "CorkPermitsModel" "thrown" "I" ∈ wsX5_fails := by decide +kernel
  have iX5 : ∀ w ∈ u_ws RX5 TX5 13, w ∈ wsX5_fails := by decide +kernel
  refine J_aln C0 0 dX5_fails_0 (kk := ?_)
  refine J_iln C0 1 dX5_fails_1 (kk := ?_)
  refine J_put C0 iX5 tyX5_ok nmX5 0 0 8 [modR K a (flat F) g P L (u2 M 0 2 x)] f28 dX5_fails_2 (hd := rfl) (kk := ?_)
  refine J_ic C0 0 dX5_fails_5 (kk := ?_)
  exact J_iret C0 hF dX5_fails_6 ⟨rfl, rfl⟩

abbrev rmX5_thrown : Room := { frames := 0, cells := 0, slots := 0, locals := 0 }
set_option maxHeartbeats 4000000 in
set_option maxRecDepth 100000 in
theorem mX5_thrown (l : Launch) (K : KT) (a : Nat → Nat) (F : FF) (g P L : Nat → Int32) (M : FF) : Ct l K yX5_thrown wsX5_thrown rmX5_thrown [.ref (a 0)] [modR K a (flat F) g P L M] (some (.int (M 0 2))) [modR K a (flat F) g P L M] := by
  refine CtP_of (cc := cX5_thrown) (nL := 1) (rt := some .int) (own := RX5) (lv0 := [(0, .ref (a 0))]) (by decide) rfl (Nat.le_of_ble_eq_true rfl) rfl rfl ?_
  intro G C0 hF _
  have f28 : Cond.fieldLink RX5 28 "CorkPermitsModel" "thrown" "I" ∈ wsX5_thrown := by decide +kernel
  have iX5 : ∀ w ∈ u_ws RX5 TX5 13, w ∈ wsX5_thrown := by decide +kernel
  refine J_aln C0 0 dX5_thrown_0 (kk := ?_)
  refine J_get C0 iX5 0 0 8 f28 dX5_thrown_1 (kk := ?_)
  exact J_iret C0 hF dX5_thrown_4 ⟨rfl, rfl⟩

