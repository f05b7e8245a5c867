/-! what throws: contracts that end in an exception, the world as it was -/
def exL : List String := ["java/lang/IllegalStateException", "java/lang/IllegalArgumentException", "java/lang/IndexOutOfBoundsException"]
def supL : List String := ["java/lang/RuntimeException", "java/lang/Exception", Bundle.tN]
/-- the words of a throw that are not good ones -/
def badL (X : String) : List Cond := .castable X X :: supL.map (fun Y => .declares (Bundle.init0 Y))
theorem at0_all {own : String} {ic : Nat} {X : String} {names : List String} {P : Cond → Bool} (h : (Bundle.ownAtoms0 own ic X names).all (fun w => P w || !vx_no w) = true) : ∀ w ∈ vx_at0 own ic X names, P w = true := by
  intro w hw
  obtain ⟨h1, h2⟩ := List.mem_filter.mp hw
  have h3 := List.all_eq_true.mp h w h1
  simpa [h2] using h3
theorem at0_bad {own : String} {ic : Nat} {X : String} {names : List String} (h : (Bundle.ownAtoms0 own ic X names).all (fun w => (goodWord w || decide (w ∈ badL X)) || !vx_no w) = true) : ∀ w ∈ (vx_at0 own ic X names).filter (fun w => !goodWord w), w ∈ badL X := by
  intro w hw
  obtain ⟨h1, h2⟩ := List.mem_filter.mp hw
  have h3 := at0_all (P := fun w => goodWord w || decide (w ∈ badL X)) h w h1
  rw [Bool.not_eq_true'] at h2
  simp only [h2, Bool.false_or, decide_eq_true_eq] at h3
  exact h3
theorem at0_ot {own : String} {ik ic : Nat} {X : String} {names : List String} (h : (Bundle.ownAtoms0 own ic X names).all (fun w => vx_ot w || !vx_no w) = true) : ∀ w ∈ Cond.classLink own ik X :: Cond.initialized X :: vx_at0 own ic X names, vx_ot w = true := by
  intro w hw
  rcases List.mem_cons.mp hw with rfl | hw
  · rfl
  · rcases List.mem_cons.mp hw with rfl | hw
    · rfl
    · exact at0_all h w hw
def EX (A : Nat → Prop) (s : State) : Prop := vx_Zq Bundle.tN "UNASSIGNED_STACK" Bundle.steD A s s.heap ∧ vx_Zq Bundle.tN "SUPPRESSED_SENTINEL" Bundle.listD A s s.heap ∧ (∀ E ∈ exL, va_Nw (.castable E E) s) ∧ ∀ Y ∈ supL, va_Nw (.declares (Bundle.init0 Y)) s
theorem EX.to {A B : Nat → Prop} {s U : State} {H : Heap} {locs : List Loc} (h : EX A s) (hS : va_S A s.heap H locs) (hW : s.WarmedH U.vm) (hU : U.heap = H) (hAB : ∀ q, B q → A q) : EX B U :=
  ⟨by rw [hU]; exact vx_Zq.narrow (vx_Zq.moved hW.alike (vx_Zq.kept h.1 hS.2.1)) hAB, by rw [hU]; exact vx_Zq.narrow (vx_Zq.moved hW.alike (vx_Zq.kept h.2.1 hS.2.1)) hAB, fun E hE => va_Nw.warmC hW (h.2.2.1 E hE), fun Y hY => va_Nw.warmD hW (h.2.2.2 Y hY)⟩
def PofX (K : KT) (as : List Value) (w0 : List va_W) (sz : Nat) : Array Value → State → Prop := fun v U => Pof K as w0 sz v U ∧ EX (va_A w0.flatten sz) U
theorem pofx_blind {K : KT} {as : List Value} {w0 : List va_W} {sz : Nat} : FrameBlind (PofX K as w0 sz) := fun a U g mk q =>
  ⟨pof_blind a U g mk q.1, vx_Zq.moved (u := U) (U := U.calling g mk a) (Vm.Alike.refl U.vm) q.2.1, vx_Zq.moved (u := U) (U := U.calling g mk a) (Vm.Alike.refl U.vm) q.2.2.1, fun E hE => va_Nw.same (u := U) (U := U.calling g mk a) rfl rfl (q.2.2.2.1 E hE), fun Y hY => va_Nw.same (u := U) (U := U.calling g mk a) rfl rfl (q.2.2.2.2 Y hY)⟩
def XCof (K : KT) (w0 : List va_W) (E0 : String) (sz : Nat) : String → State → State → Prop := fun E st t => E = E0 ∧ va_P K.1 vwCl w0.flatten t.heap ∧ va_F (va_A w0.flatten sz) st t
/-- from these arguments and this world the method throws E0, and the world is as it was -/
def CtT (l : Launch) (K : KT) (y : MethodName) (ws : List Cond) (rm : Room) (as : List Value) (w0 : List va_W) (E0 : String) : Prop :=
  ∀ sz : Nat, vx_Met l y ws rm (PofX K as w0 sz) (fun _ _ _ _ => False) (XCof K w0 E0 sz) rm.cells rm.slots (va_A w0.flatten sz)
def FnlT (G : JC) (rm : Room) (w0 : List va_W) (E0 : String) : Prop := match G with
  | (K, A, H0, nL, p, l, e, R, s, m, args, below, meth, c, Q) => meth.locks = false ∧ A = va_A w0.flatten s.heap.size ∧ H0 = s.heap ∧ (∀ x ∈ c.exceptionTable.toList, False) ∧ EX A s ∧ l.stackTraces = false ∧ Q = vx_MQ below (fun _ _ _ _ => False) (XCof K w0 E0 s.heap.size) args s rm.cells rm.slots (va_A w0.flatten s.heap.size)
theorem CtT_of {l : Launch} {K : KT} {y : MethodName} {ws ws' : List Cond} {rm : Room} {as : List Value} {w0 : List va_W} {E0 : String} {cc : ByteArray} {nL : Nat} {rt : Option FieldType} {own : String} {lv0 : List (Nat × Value)} (hst : l.stackTraces = false)
    (hy : plainName y.cls = true) (hw : ws = Cond.code y cc nL rt :: ws') (hlen : (lg_sl as).length ≤ nL) (hown : y.cls = own) (hlv : lv_args 0 as = lv0)
    (body : ∀ G : JC, Cx G K l cc nL own ws rm → FnlT G rm w0 E0 → J G w0 lv0 0 0 0 []) : CtT l K y ws rm as w0 E0 := by
  intro sz
  refine vx_ofW (cc := cc) (maxL := nL) (ret := rt) hy hw ?_
  intro p e s m args below meth c s₁ B hml htab hv
  obtain ⟨⟨rfl, hsz, hP, hK, hD⟩, hE⟩ := hv
  subst hsz
  rw [lg_entry_eq]
  exact body (K, va_A w0.flatten s.heap.size, s.heap, nL, p, l, e, (headSpec ws rm).room, s, m, as.toArray, below, meth, c, vx_MQ below (fun _ _ _ _ => False) (XCof K w0 E0 s.heap.size) as.toArray s rm.cells rm.slots (va_A w0.flatten s.heap.size))
    ⟨rfl, rfl, rfl, rfl, B.exec, B.bytes, hml, by rw [← hown]; exact findClass_of_methodNamed B.named, atoms_spec (ws := ws) B.pre, hK, fun q h => Or.inr h⟩ ⟨B.notSynchronized, rfl, rfl, htab, hE, hst, rfl⟩
    s.heap [] _ hP hD.self va_S.rf (hlv ▸ lv_entry as hlen)
section JT
variable {K : KT} {l : Launch} {cc : ByteArray} {nL : Nat} {own : String} {Ts : List Cond} {rm : Room} {G : JC} {bs : List va_W} {lv : List (Nat × Value)} {cells slots pc : Nat} {st : List Value}

theorem J_throw0 (C0 : Cx G K l cc nL own Ts rm) {w0 : List va_W} {E0 : String} (hF : FnlT G rm w0 E0) {ik ic : Nat} (names : List String) (hk : Cond.classLink own ik E0 ∈ Ts) (hini : Cond.initialized E0 ∈ Ts) (hg : ∀ w ∈ (vx_at0 own ic E0 names).filter goodWord, w ∈ Ts) (hE0 : E0 ∈ exL) (hbad : ∀ w ∈ (vx_at0 own ic E0 names).filter (fun w => !goodWord w), w ∈ badL E0) (hgood : ∀ w ∈ Cond.classLink own ik E0 :: Cond.initialized E0 :: vx_at0 own ic E0 names, vx_ot w = true)
    (d0 : decode cc pc = .ok (.new ik, 3)) (d3 : decode cc (pc + 3) = .ok (.dup, 1)) (d4 : decode cc (pc + 4) = .ok (.invokespecial ic, 3)) (d7 : decode cc (pc + 7) = .ok (.athrow, 1)) (hcls : Bundle.fit E0 = true := by decide +kernel) (hnames : ∀ n ∈ names, Bundle.fit n = true := by decide +kernel)
    (hRf : names.length + 3 < rm.frames := by decide) (hRl : (st.map fun v => v.category).sum + (13 * (names.length + 1) + 42) ≤ rm.locals := by exact Nat.le_of_ble_eq_true rfl) (hRc : cells + 1 ≤ rm.cells := by decide) (hRs : slots + 6 ≤ rm.slots := by decide) (hbs : bs = w0 := by rfl) : J G bs lv cells slots (pc) (st) := by
  obtain ⟨K, A, H0, nL', p, l, e, R, s, m, args, below, meth, c, Q⟩ := G
  obtain ⟨rfl, rfl, rfl, rfl, hx, hb, hml, ho, hts, ⟨hK, hN⟩, hA⟩ := C0
  obtain ⟨hlk, rfl, rfl, htab, hE, hst, rfl⟩ := hF
  intro H locs ls hP hD hS hl
  subst hbs
  refine vx_throw0 hx hb hst ho hcls hnames (hts _ hk) (hts _ hini) (vx_hat (B := badL E0) (fun w hw => hts w (hg w hw)) hbad (fun w hw => ?_)) hgood hE.1 hE.2.1 hS (hl.1.trans hml.symm) d0 d3 d4 d7 (fun x hx => (htab x hx).elim) hRf hRl hRc hRs hlk (fun t hal hsz hsm => ⟨rfl, hP.kept (fun k q hk => hsm q.1 ((hP k q hk).lt)), Nat.le_trans hS.1 hsz, fun q h1 h2 => (hsm q (Nat.lt_of_lt_of_le h1 hS.1)).trans (hS.2.1 q h1 h2)⟩) hS.2.2 hRc hRs
  rcases List.mem_cons.mp hw with rfl | hw
  · exact va_Nw.use rfl (hE.2.2.1 E0 hE0)
  · obtain ⟨Y, hY, rfl⟩ := List.mem_map.mp hw
    exact va_Nw.use rfl (hE.2.2.2 Y hY)
theorem J_passOn {l : Launch} {K : KT} {p : Program} {e : Env} {R : Room} {s : State} {m : MethodId} {args : Array Value} {below : List Frame} {meth : Method} {c : Code} {H : Heap} {locs : List Loc} {ls : Array Slot} {cells slots mc ms pc mc2 ms2 : Nat} {st rest : List Value} {wr w0 : List va_W} {E0 : String} {A : Nat → Prop} (hAe : A = va_A (wr ++ w0).flatten s.heap.size)
    (hr : vx_Run p l e R s m args below meth c H locs cells slots mc ms (F0 m pc ls st) rest (fun _ _ _ => False) (XCof K w0 E0 H.size) (va_A w0.flatten H.size))
    (hP : va_P K.1 vwCl (wr ++ w0).flatten H) (hD : va_D A (wr ++ w0).flatten) (hS : va_S A s.heap H locs) (hA : ∀ q, s.heap.size ≤ q → A q) (htab : ∀ x ∈ c.exceptionTable.toList, False) (hlk : meth.locks = false) (hc : cells + mc ≤ mc2) (hs : slots + ms ≤ ms2) :
    W p l e R s m args below meth c H locs cells slots (vx_MQ below (fun _ _ _ _ => False) (XCof K (wr ++ w0) E0 s.heap.size) args s mc2 ms2 (va_A (wr ++ w0).flatten s.heap.size)) (F0 m pc ls st) := by
  intro T hT X
  rcases hr T hT X with ⟨v, st₀, t, T', L, h0, X', hL, e1, e2, hf, st⟩ | ⟨q, st₀, t, T', L, E, ce, h0, X', hL, e1, e2, ⟨rfl, hP1, hF1⟩, hce, hcv, hcl, st⟩
  · exact hf.elim
  · subst hAe
    have hc0 := fl_callee hP hD
    have hF : ∀ q, va_A w0.flatten H.size q → va_A (wr ++ w0).flatten s.heap.size q := fl_free (K := K) hc0.2 hS hA
    obtain ⟨k1, k2, k3⟩ := vx_keep h0 e1 hS (fun q _ h => hF q h) hF hL hF1
    have hb := fl_back (H1 := T'.heap) hP hD k2 hF (by rw [e1]; exact hP1) hc0.2.self
    obtain ⟨t2, a1, b1⟩ := vx_out (p := p) (l := l) (e := e) (R := R) (s := s) (m := m) (args := args) (below := below) (meth := meth) (c := c) (H := T'.heap) (locs := locs ++ L) (cells := cells + mc) (slots := slots + ms) (ls := ls) (rest := rest) (Qc := fun _ _ _ _ => False) (XC := XCof K (wr ++ w0) E s.heap.size) (pc := pc) (mc := mc2) (ms := ms2) (free := va_A (wr ++ w0).flatten s.heap.size) (fun x hx => (htab x hx).elim) hlk (by rw [e1]; exact hce) hcv hcl (fun t' ht' _ => ⟨rfl, by rw [ht']; exact hb.1, by rw [ht']; exact k3.1, fun q h1 h2 => by rw [ht']; exact k3.2.1 q h1 h2⟩) k3.2.2 hc hs T' rfl X'
    exact ⟨t2, st.trans a1, b1⟩
theorem J_callTV (C0 : Cx G K l cc nL own Ts rm) {index : Nat} {y : MethodName} {bytes : ByteArray} {maxL : Nat} {ret : Option FieldType} {ws ws' : List Cond} {rmc : Room} {As rest : List Value} {w0 w00 : List va_W} {E0 : String} {C : String} {T : u_T} {N ci b : Nat} {fs : List Value} (hF : FnlT G rm w00 E0) (hM : CtT l K y ws rmc (.ref b :: As) w0 E0) (wr : List va_W) (hG : GoodIn Ts (wsV own index C y ws)) (hdg : decode cc pc = .ok (.invokevirtual index, 3)) (na : Nat) (q0 : Nat) (hrecv : (w0.flatten)[q0]? = some (b, .inr (ci, fs)) := by rfl) (hcl : vwCl[ci]? = some (C, T, N) := by rfl) (hw : ws = Cond.code y bytes maxL ret :: ws' := by rfl) (hd : y.cls = C ∧ y.cls ≠ "java/lang/invoke/MethodHandle" ∧ y.cls ≠ "java/lang/invoke/VarHandle" ∧ (parseMethodDescriptor y.desc).map (fun d => d.parameters.length) = some na := by decide +kernel) (hna : As.length = na := by rfl) (hR : rmc.frames + 1 ≤ rm.frames ∧ 8 + (maxL + 11) + rmc.locals ≤ rm.locals := by decide) (hf : cells + rmc.cells ≤ rm.cells ∧ slots + rmc.slots ≤ rm.slots := by decide) (hbs : bs = wr ++ w0 := by rfl) (hw00 : w00 = wr ++ w0 := by rfl) (hst2 : st = As.reverse ++ .ref b :: rest := by rfl) (hrs : (rest.map fun v => v.category).sum ≤ 8 := by exact Nat.le_of_ble_eq_true rfl) : J G bs lv cells slots (pc) (st) := by
  obtain ⟨K, A, H0, nL', p, l, e, R, s, m, args, below, meth, c, Q⟩ := G
  obtain ⟨rfl, rfl, rfl, rfl, hx, hb, hml, ho, hts, ⟨hK, hN⟩, hA⟩ := C0
  obtain ⟨hlk, rfl, rfl, htab, hE, hst, rfl⟩ := hF
  intro H locs ls hP hD hS hl
  subst hw00
  subst hbs
  subst hst2
  have hc0 := fl_callee hP hD
  have hF2 : ∀ q, va_A w0.flatten H.size q → va_A (wr ++ w0).flatten s.heap.size q := fl_free (K := K) hc0.2 hS hA
  exact J_passOn rfl (vx_runV (As := As) (rest := rest) ⟨hx, hb, hml, ho, hts⟩ (hM H.size) (cwV na hts hG hw rfl rfl hd hR) ⟨pofx_blind, va_recv hK hc0.1 hcl hrecv, fun U hU hW => ⟨⟨rfl, by rw [hU], by rw [hU]; exact hc0.1, KK.warm hW ⟨hK, hN⟩, hc0.2.weaken (fun _ _ _ _ => trivial)⟩, hE.to hS hW hU hF2⟩⟩ rfl hna hl.1 rfl (lv_room hrs) hdg hf) hP hD hS hA htab hlk hf.1 hf.2
theorem J_callTS (C0 : Cx G K l cc nL own Ts rm) {index : Nat} {y : MethodName} {bytes : ByteArray} {maxL : Nat} {ret : Option FieldType} {ws ws' : List Cond} {rmc : Room} {As rest : List Value} {w0 w00 : List va_W} {E0 : String}  (hF : FnlT G rm w00 E0) (hM : CtT l K y ws rmc (As) w0 E0) (wr : List va_W) (hG : GoodIn Ts (va_wsS own index y ws)) (hdg : decode cc pc = .ok (.invokestatic index, 3)) (na : Nat) (hw : ws = Cond.code y bytes maxL ret :: ws' := by rfl) (hd : y.cls ≠ "java/lang/invoke/MethodHandle" ∧ y.cls ≠ "java/lang/invoke/VarHandle" ∧ (parseMethodDescriptor y.desc).map (fun d => d.parameters.length) = some na := by decide +kernel) (hna : As.length = na := by rfl) (hR : rmc.frames + 1 ≤ rm.frames ∧ 8 + (maxL + 11) + rmc.locals ≤ rm.locals := by decide) (hf : cells + rmc.cells ≤ rm.cells ∧ slots + rmc.slots ≤ rm.slots := by decide) (hbs : bs = wr ++ w0 := by rfl) (hw00 : w00 = wr ++ w0 := by rfl) (hst2 : st = As.reverse ++ rest := by rfl) (hrs : (rest.map fun v => v.category).sum ≤ 8 := by exact Nat.le_of_ble_eq_true rfl) : J G bs lv cells slots (pc) (st) := by
  obtain ⟨K, A, H0, nL', p, l, e, R, s, m, args, below, meth, c, Q⟩ := G
  obtain ⟨rfl, rfl, rfl, rfl, hx, hb, hml, ho, hts, ⟨hK, hN⟩, hA⟩ := C0
  obtain ⟨hlk, rfl, rfl, htab, hE, hst, rfl⟩ := hF
  intro H locs ls hP hD hS hl
  subst hw00
  subst hbs
  subst hst2
  have hc0 := fl_callee hP hD
  have hF2 : ∀ q, va_A w0.flatten H.size q → va_A (wr ++ w0).flatten s.heap.size q := fl_free (K := K) hc0.2 hS hA
  exact J_passOn rfl (vx_runS (As := As) (rest := rest) ⟨hx, hb, hml, ho, hts⟩ (hM H.size) (va_cwS na hts hG hw rfl rfl hd hR) ⟨pofx_blind, fun U hU hW => ⟨⟨rfl, by rw [hU], by rw [hU]; exact hc0.1, KK.warm hW ⟨hK, hN⟩, hc0.2.weaken (fun _ _ _ _ => trivial)⟩, hE.to hS hW hU hF2⟩⟩ rfl hna hl.1 rfl (lv_room hrs) hdg hf) hP hD hS hA htab hlk hf.1 hf.2
end JT
theorem atB_X4_45 : ∀ w ∈ (vx_at0 RX4 47 "java/lang/IllegalStateException" ["java/lang/RuntimeException", "java/lang/Exception"]).filter (fun w => !goodWord w), w ∈ badL "java/lang/IllegalStateException" := at0_bad (by decide +kernel)
theorem atA_X4_45 : ∀ w ∈ Cond.classLink RX4 45 "java/lang/IllegalStateException" :: Cond.initialized "java/lang/IllegalStateException" :: vx_at0 RX4 47 "java/lang/IllegalStateException" ["java/lang/RuntimeException", "java/lang/Exception"], vx_ot w = true := at0_ot (by decide +kernel)
theorem atB_X4_56 : ∀ w ∈ (vx_at0 RX4 58 "java/lang/IllegalArgumentException" ["java/lang/RuntimeException", "java/lang/Exception"]).filter (fun w => !goodWord w), w ∈ badL "java/lang/IllegalArgumentException" := at0_bad (by decide +kernel)
theorem atA_X4_56 : ∀ w ∈ Cond.classLink RX4 56 "java/lang/IllegalArgumentException" :: Cond.initialized "java/lang/IllegalArgumentException" :: vx_at0 RX4 58 "java/lang/IllegalArgumentException" ["java/lang/RuntimeException", "java/lang/Exception"], vx_ot w = true := at0_ot (by decide +kernel)
theorem atB_X4_238 : ∀ w ∈ (vx_at0 RX4 240 "java/lang/IndexOutOfBoundsException" ["java/lang/RuntimeException", "java/lang/Exception"]).filter (fun w => !goodWord w), w ∈ badL "java/lang/IndexOutOfBoundsException" := at0_bad (by decide +kernel)
theorem atA_X4_238 : ∀ w ∈ Cond.classLink RX4 238 "java/lang/IndexOutOfBoundsException" :: Cond.initialized "java/lang/IndexOutOfBoundsException" :: vx_at0 RX4 240 "java/lang/IndexOutOfBoundsException" ["java/lang/RuntimeException", "java/lang/Exception"], vx_ot w = true := at0_ot (by decide +kernel)
