/-! low and lot: a number below n, a number of the script or another -/
def lowS (v : Int32) (k : Nat) : Nat := v.toBitVec.toNat % 2 ^ 31 % k
theorem lowS_lt (v : Int32) {k : Nat} (h : 0 < k) : lowS v k < k := Nat.mod_lt _ h
abbrev rmL_low : Room := { frames := 0, cells := 0, slots := 0, locals := 0 }
theorem mL_low (l : Launch) (K : KT) (v : Int32) {k : Nat} (h0 : 0 < k) (hk : k < 2 ^ 31) : Ct l K yL_low wsL_low rmL_low [.int v, .int (nI k)] [] (some (.int (nI (lowS v k)))) [] := by
  refine CtP_of (cc := cL_low) (nL := 2) (rt := some .int) (own := RL) (lv0 := [(0, .int v), (1, .int (nI k))]) (by decide) rfl (Nat.le_of_ble_eq_true rfl) rfl rfl ?_
  intro G C0 hF _
  have c8 : Cond.constant RL 8 2147483647 ∈ wsL_low := by decide +kernel
  refine J_iln C0 0 dL_low_0 (kk := ?_)
  refine J_ldc C0 c8 dL_low_1 (kk := ?_)
  refine J_iand C0 dL_low_3 (kk := ?_)
  refine J_int C0 (pk_and v 31 (by decide)) ?_
  refine J_iln C0 1 dL_low_4 (kk := ?_)
  refine J_iremN C0 h0 (Nat.mod_lt _ (by decide)) hk dL_low_5 (kk := ?_)
  exact J_iret C0 hF dL_low_6 ⟨rfl, rfl⟩
/-- a contract beside the script: t its cell, Ln ints xs -/
def CtS (l : Launch) (K : KT) (y : MethodName) (ws : List Cond) (rm : Room) (as : List Value) (Pst : Option Value → List va_W → Prop) (t Ln : Nat) (xs : Nat → Int32) : Prop :=
  ∀ sz : Nat, Met l y ws rm (fun v U => Pof K as [] sz v U ∧ va_T .int t Ln (fun j => .int (xs j)) (va_A [] sz) U U.heap) (Qof K [] Pst sz) rm.cells rm.slots (va_A [] sz)
def FnlT2 (G : JC) (t Ln : Nat) (xs : Nat → Int32) : Prop := match G with
  | (K, A, H0, nL, p, l, e, R, s, m, args, below, meth, c, Q) => va_T .int t Ln (fun j => .int (xs j)) A s s.heap ∧ H0 = s.heap
theorem CtS_of {l : Launch} {K : KT} {y : MethodName} {ws ws' : List Cond} {rm : Room} {as : List Value} {Pst : Option Value → List va_W → Prop} {t Ln : Nat} {xs : Nat → Int32} {cc : ByteArray} {nL : Nat} {rt : Option FieldType} {own : String} {lv0 : List (Nat × Value)}
    (hy : plainName y.cls = true) (hw : ws = Cond.code y cc nL rt :: ws') (hlen : (lg_sl as).length ≤ nL) (hown : y.cls = own) (hlv : lv_args 0 as = lv0)
    (body : ∀ G : JC, Cx G K l cc nL own ws rm → Fnl G rt rm [] Pst → FnlT2 G t Ln xs → J G [] lv0 0 0 0 []) : CtS l K y ws rm as Pst t Ln xs := by
  intro sz
  refine Met.ofW (cc := cc) (maxL := nL) (ret := rt) hy hw ?_
  intro p e s m args below meth c s₁ B hml hv
  obtain ⟨⟨rfl, hsz, hP, hK, hD⟩, hL⟩ := hv
  subst hsz
  rw [lg_entry_eq]
  exact body (K, va_A [] s.heap.size, s.heap, nL, p, l, e, (headSpec ws rm).room, s, m, as.toArray, below, meth, c, MQ below (Qof K [] Pst s.heap.size) as.toArray s rm.cells rm.slots (va_A [] s.heap.size))
    ⟨rfl, rfl, rfl, rfl, B.exec, B.bytes, hml, by rw [← hown]; exact findClass_of_methodNamed B.named, atoms_spec (ws := ws) B.pre, hK, fun q h => Or.inr h⟩ ⟨B.returns, B.notSynchronized, rfl, rfl, rfl⟩ ⟨hL, rfl⟩
    s.heap [] _ hP hD.self va_S.rf (hlv ▸ lv_entry as hlen)
theorem cts_blind {K : KT} {as : List Value} {t Ln sz : Nat} {xs : Nat → Int32} : FrameBlind (fun v U => Pof K as [] sz v U ∧ va_T .int t Ln (fun j => .int (xs j)) (va_A [] sz) U U.heap) := fun a U g mk q => ⟨pof_blind a U g mk q.1, va_T.moved (u := U) (U := U.calling g mk a) (Vm.Alike.refl U.vm) q.2⟩
/-- what the law's own body keeps: the script too -/
def FnlV (G : JC) (tl tg t Ln : Nat) (xs : Nat → Int32) : Prop := match G with
  | (K, A, H0, nL, p, l, e, R, s, m, args, below, meth, c, Q) => WX tl tg A s ∧ va_T .int t Ln (fun j => .int (xs j)) A s s.heap ∧ H0 = s.heap
theorem FnlV.x {G : JC} {tl tg t Ln : Nat} {xs : Nat → Int32} (h : FnlV G tl tg t Ln xs) : FnlX G tl tg := by
  obtain ⟨K, A, H0, nL', p, l, e, R, s, m, args, below, meth, c, Q⟩ := G
  exact ⟨h.1, h.2.2⟩
section JT
variable {K : KT} {l : Launch} {cc : ByteArray} {nL : Nat} {own : String} {Ts : List Cond} {rm : Room} {G : JC} {bs : List va_W} {lv : List (Nat × Value)} {cells slots pc : Nat} {st : List Value}
theorem J_tlen (C0 : Cx G K l cc nL own Ts rm) {t Ln : Nat} {xs : Nat → Int32} (hX : FnlT2 G t Ln xs) (hdg : decode cc pc = .ok (.arraylength, 1)) (kk : J G bs lv cells slots (pc + 1) (.int (nI Ln) :: st)) : J G bs lv cells slots (pc) (.ref t :: st) := by
  obtain ⟨K, A, H0, nL', p, l, e, R, s, m, args, below, meth, c, Q⟩ := G
  obtain ⟨rfl, rfl, rfl, rfl, hx, hb, hml, ho, hts, ⟨hK, hN⟩, hA⟩ := C0
  obtain ⟨hT, rfl⟩ := hX
  intro H locs ls hP hD hS hl
  exact va_tlen hx hb hT hS rfl hdg (kk H locs ls hP hD hS hl)
theorem J_tld (C0 : Cx G K l cc nL own Ts rm) {t Ln j : Nat} {xs : Nat → Int32} (hX : FnlT2 G t Ln xs) (hL : Ln < 2 ^ 31) (hj : j < Ln) (hdg : decode cc pc = .ok (.iaload, 1)) (kk : J G bs lv cells slots (pc + 1) (.int (xs j) :: st)) : J G bs lv cells slots (pc) (.int (nI j) :: .ref t :: st) := by
  obtain ⟨K, A, H0, nL', p, l, e, R, s, m, args, below, meth, c, Q⟩ := G
  obtain ⟨rfl, rfl, rfl, rfl, hx, hb, hml, ho, hts, ⟨hK, hN⟩, hA⟩ := C0
  obtain ⟨hT, rfl⟩ := hX
  intro H locs ls hP hD hS hl
  exact va_ti hx hb hT hS (vp_in_nI hj hL) (by rw [nI_clamp (Nat.lt_trans hj hL)]) hdg (kk H locs ls hP hD hS hl)
theorem J_callLot (C0 : Cx G K l cc nL own Ts rm) {tl tg t Ln : Nat} {xs : Nat → Int32} (hX : FnlV G tl tg t Ln xs) {index : Nat} {y : MethodName} {bytes : ByteArray} {maxL : Nat} {ret : Option FieldType} {ws ws' : List Cond} {rmc : Room} {As rest : List Value} {Pst : Option Value → List va_W → Prop} (hM : CtS l K y ws rmc As Pst t Ln xs) (hG : GoodIn Ts (va_wsS own index y ws)) (hdg : decode cc pc = .ok (.invokestatic index, 3)) (na : Nat) (hw : ws = Cond.code y bytes maxL ret :: ws' := by rfl) (hd : y.cls ≠ "java/lang/invoke/MethodHandle" ∧ y.cls ≠ "java/lang/invoke/VarHandle" ∧ (parseMethodDescriptor y.desc).map (fun d => d.parameters.length) = some na := by decide +kernel) (hna : As.length = na := by rfl) (hR : rmc.frames + 1 ≤ rm.frames ∧ 8 + (maxL + 11) + rmc.locals ≤ rm.locals := by decide) (hf : cells + rmc.cells ≤ rm.cells ∧ slots + rmc.slots ≤ rm.slots) (hst : st = As.reverse ++ rest := by rfl) (hrs : (rest.map fun v => v.category).sum ≤ 8 := by exact Nat.le_of_ble_eq_true rfl) (kk : ∀ (rv : Option Value) (w1 : List va_W), Pst rv w1 → J G (bs ++ w1) lv (cells + rmc.cells) (slots + rmc.slots) (pc + 3) (rv.toList ++ rest)) : J G bs lv cells slots (pc) (st) := by
  obtain ⟨K, A, H0, nL', p, l, e, R, s, m, args, below, meth, c, Q⟩ := G
  obtain ⟨rfl, rfl, rfl, rfl, hx, hb, hml, ho, hts, ⟨hK, hN⟩, hA⟩ := C0
  obtain ⟨hWX, hT, rfl⟩ := hX
  intro H locs ls hP hD hS hl
  have hP : va_P K.1 vwCl (bs ++ ([] : List va_W)).flatten H := by rw [List.append_nil]; exact hP
  have hD : va_D A (bs ++ ([] : List va_W)).flatten := by rw [List.append_nil]; exact hD
  subst hst
  have hc0 := fl_callee hP hD
  have hF2 : ∀ q, va_A ([] : List va_W).flatten H.size q → A q := fl_free (K := K) hc0.2 hS hA
  exact J_backR (va_runS (As := As) (rest := rest) ⟨hx, hb, hml, ho, hts⟩ (hM H.size) (va_cwS na hts hG hw rfl rfl hd hR) ⟨cts_blind, fun U hU hW => ⟨⟨rfl, by rw [hU], by rw [hU]; exact hc0.1, KK.warm hW ⟨hK, hN⟩, hc0.2.weaken (fun _ _ _ _ => trivial)⟩, by rw [hU]; exact va_T.narrow (va_T.moved hW.alike (va_T.kept hT hS.2.1)) hF2⟩⟩ rfl hna hl.1 rfl (lv_room hrs) hdg hf) hP hD hS hA (fun rv1 w2 hp H1 locs1 hP1 hD1 hS1 => kk rv1 w2 hp H1 locs1 ls hP1 hD1 hS1 hl)
end JT
abbrev rmL_lot : Room := { frames := 0, cells := 0, slots := 0, locals := 0 }
theorem mL_lot (l : Launch) (K : KT) {t Ln k : Nat} {xs : Nat → Int32} (hL : Ln < 2 ^ 31) (hk : k < 2 ^ 31) : CtS l K yL_lot wsL_lot rmL_lot [.ref t, .int (nI k)] (fun r w => (∃ v : Int32, r = some (.int v)) ∧ w = []) t Ln xs := by
  refine CtS_of (cc := cL_lot) (nL := 2) (rt := some .int) (own := RL) (lv0 := [(0, .ref t), (1, .int (nI k))]) (by decide) rfl (Nat.le_of_ble_eq_true rfl) rfl rfl ?_
  intro G C0 hF hX
  have c7 : Cond.constant RL 7 (-1780423317) ∈ wsL_lot := by decide +kernel
  refine J_iln C0 1 dL_lot_0 (kk := ?_)
  refine J_aln C0 0 dL_lot_1 (kk := ?_)
  refine J_tlen C0 hX dL_lot_2 (kk := ?_)
  refine J_icmpgeN C0 12 hk hL dL_lot_3 (kt := fun _ => ?_) (kf := fun c => ?_)
  · refine J_ldc C0 c7 dL_lot_12 (kk := ?_)
    refine J_iln C0 1 dL_lot_14 (kk := ?_)
    refine J_si C0 3911 dL_lot_15 (kk := ?_)
    refine J_iadd C0 dL_lot_18 (kk := ?_)
    refine J_imul C0 dL_lot_19 (kk := ?_)
    refine J_si C0 3677 dL_lot_20 (kk := ?_)
    refine J_iadd C0 dL_lot_23 (kk := ?_)
    exact J_iret C0 hF dL_lot_24 ⟨⟨_, rfl⟩, rfl⟩
  · refine J_aln C0 0 dL_lot_6 (kk := ?_)
    refine J_iln C0 1 dL_lot_7 (kk := ?_)
    refine J_tld C0 hX hL c dL_lot_8 (kk := ?_)
    refine J_goto C0 24 dL_lot_9 (kk := ?_)
    exact J_iret C0 hF dL_lot_24 ⟨⟨_, rfl⟩, rfl⟩
