/-! the law's static methods, a call of the class in a try: contracts, rows -/
theorem Met_ofWH {l : Launch} {y : MethodName} {ws ws' : List Cond} {rm : Room} {Pc : Array Value → State → Prop} {Qc : Array Value → State → Outcome → State → Prop} {mc ms : Nat} {free : Addr → Prop} {cc : ByteArray} {maxL : Nat} {ret : Option FieldType} {hh : List (Nat × Nat × Nat × Nat)}
    (hy : plainName y.cls = true) (hw : ws = Cond.codeWith y cc maxL ret hh :: ws')
    (body : ∀ p e s m args below meth c s₁, BodyLoose p l y (headSpec ws rm) cc maxL ret e s m args below meth c s₁ → c.maxLocals = maxL → c.exceptionTable.toList = tableOf hh → Pc args s →
      W p l e (headSpec ws rm).room s m args below meth c s.heap [] 0 0 (MQ below Qc args s mc ms free) (entryFrame m args maxL)) : Met l y ws rm Pc Qc mc ms free := by
  refine MetFree.of_bodyS (code := cc) (maxLocals := maxL) (ret := ret) hy ?_ ?_
  · intro args s m h hn
    obtain ⟨m9, meth, c, hn9, h1, h2, h3, h4, -, h5, h6, -⟩ := Cond.codeWith_spec (atoms_spec (ws := ws) h _ (by rw [hw]; exact List.mem_cons_self))
    cases hn.symm.trans hn9
    exact ⟨meth, c, h1, h2, h3, h4, h5, h6⟩
  · intro p e s m args below meth c s₁ B hml hP _
    have hh0 : s₁.heap = s.heap := by rw [B.state]; rfl
    have ht : c.exceptionTable.toList = tableOf hh := vx_table (x := y) B (atoms_spec (ws := ws) B.pre _ (by rw [hw]; exact List.mem_cons_self))
    obtain ⟨t, a1, o, b1, b2, b3, b4⟩ := body p e s m args below meth c s₁ B hml ht hP s₁ hh0 (Stand.of_body B)
    exact ⟨t, o, a1, b1, b2, b3, b4⟩
/-- pairs of exceptions of which the first is none of the second -/
def ncL : List (String × String) := [("java/lang/IllegalArgumentException", "java/lang/IndexOutOfBoundsException"), ("java/lang/IllegalStateException", "java/lang/IndexOutOfBoundsException"), ("java/lang/IllegalStateException", "java/lang/IllegalArgumentException")]
def WX (tl tg : Nat) (A : Nat → Prop) (s : State) : Prop := EX A s ∧ LV tl tg A s ∧ ∀ pr ∈ ncL, va_Nc pr.1 pr.2 s
theorem LV.to {A B : Nat → Prop} {s U : State} {H : Heap} {locs : List Loc} {tl tg : Nat} (h : LV tl tg A s) (hS : va_S A s.heap H locs) (hW : s.WarmedH U.vm) (hU : U.heap = H) (hAB : ∀ q, B q → A q) : LV tl tg B U :=
  ⟨by rw [hU]; exact va_Z.narrow (va_Z.moved hW.alike (va_Z.kept h.1 hS.2.1)) hAB, by rw [hU]; exact va_Z.narrow (va_Z.moved hW.alike (va_Z.kept h.2.1 hS.2.1)) hAB, by rw [hU]; exact va_T.narrow (va_T.moved hW.alike (va_T.kept h.2.2.1 hS.2.1)) hAB, by rw [hU]; exact va_T.narrow (va_T.moved hW.alike (va_T.kept h.2.2.2 hS.2.1)) hAB⟩
theorem WX.to {A B : Nat → Prop} {s U : State} {H : Heap} {locs : List Loc} {tl tg : Nat} (h : WX tl tg A s) (hS : va_S A s.heap H locs) (hW : s.WarmedH U.vm) (hU : U.heap = H) (hAB : ∀ q, B q → A q) : WX tl tg B U :=
  ⟨h.1.to hS hW hU hAB, h.2.1.to hS hW hU hAB, fun pr hp => va_Nc.moved hW.alike (h.2.2 pr hp)⟩
theorem LV.call {A : Nat → Prop} {U : State} {tl tg : Nat} (h : LV tl tg A U) (g : JFrame) (mk : MethodId) (a : Array Value) : LV tl tg A (U.calling g mk a) :=
  ⟨va_Z.moved (u := U) (U := U.calling g mk a) (Vm.Alike.refl U.vm) h.1, va_Z.moved (u := U) (U := U.calling g mk a) (Vm.Alike.refl U.vm) h.2.1, va_T.moved (u := U) (U := U.calling g mk a) (Vm.Alike.refl U.vm) h.2.2.1, va_T.moved (u := U) (U := U.calling g mk a) (Vm.Alike.refl U.vm) h.2.2.2⟩
theorem EX.call {A : Nat → Prop} {U : State} (h : EX A U) (g : JFrame) (mk : MethodId) (a : Array Value) : EX A (U.calling g mk a) :=
  ⟨vx_Zq.moved (u := U) (U := U.calling g mk a) (Vm.Alike.refl U.vm) h.1, vx_Zq.moved (u := U) (U := U.calling g mk a) (Vm.Alike.refl U.vm) h.2.1, fun E hE => va_Nw.same (u := U) (U := U.calling g mk a) rfl rfl (h.2.2.1 E hE), fun Y hY => va_Nw.same (u := U) (U := U.calling g mk a) rfl rfl (h.2.2.2 Y hY)⟩
def SX (K : KT) (as : List Value) (w0 : List va_W) (tl tg sz : Nat) : Array Value → State → Prop := fun v U => Pof K as w0 sz v U ∧ WX tl tg (va_A w0.flatten sz) U
theorem sx_blind {K : KT} {as : List Value} {w0 : List va_W} {tl tg sz : Nat} : FrameBlind (SX K as w0 tl tg sz) := fun a U g mk q =>
  ⟨pof_blind a U g mk q.1, q.2.1.call g mk a, q.2.2.1.call g mk a, fun pr hp => va_Nc.moved (u := U) (U := U.calling g mk a) (Vm.Alike.refl U.vm) (q.2.2.2 pr hp)⟩
/-- a contract of a static method of the law: it returns -/
def CtWP (l : Launch) (K : KT) (y : MethodName) (ws : List Cond) (rm : Room) (as : List Value) (w0 : List va_W) (Pst : Option Value → List va_W → Prop) (tl tg : Nat) : Prop :=
  ∀ sz : Nat, Met l y ws rm (SX K as w0 tl tg sz) (Qof K w0 Pst sz) rm.cells rm.slots (va_A w0.flatten sz)
abbrev CtW (l : Launch) (K : KT) (y : MethodName) (ws : List Cond) (rm : Room) (as : List Value) (w0 : List va_W) (rv : Option Value) (w1 : List va_W) (tl tg : Nat) : Prop := CtWP l K y ws rm as w0 (fun r w => r = rv ∧ w = w1) tl tg
theorem CtL.of {l : Launch} {K : KT} {y : MethodName} {ws : List Cond} {rm : Room} {as : List Value} {w0 w1 : List va_W} {rv : Option Value} (tl tg : Nat) (h : Ct l K y ws rm as w0 rv w1) : CtL l K y ws rm as w0 rv w1 tl tg :=
  fun sz p e ha hc hk s m args below hf happ hP hT => h sz p e ha hc hk s m args below hf happ hP.1 hT
theorem CtTL.of {l : Launch} {K : KT} {y : MethodName} {ws : List Cond} {rm : Room} {as : List Value} {w0 : List va_W} {E0 : String} (tl tg : Nat) (h : CtT l K y ws rm as w0 E0) : CtTL l K y ws rm as w0 E0 tl tg :=
  fun sz p e ha hc hk s m args below hf happ hP hT => h sz p e ha hc hk s m args below hf happ hP.1 hT
def FnlW (G : JC) (tl tg : Nat) (hh : List (Nat × Nat × Nat × Nat)) : Prop := match G with
  | (K, A, H0, nL, p, l, e, R, s, m, args, below, meth, c, Q) => WX tl tg A s ∧ H0 = s.heap ∧ c.exceptionTable.toList = tableOf hh
theorem CtWP_ofH {l : Launch} {K : KT} {y : MethodName} {ws ws' : List Cond} {rm : Room} {as : List Value} {w0 : List va_W} {Pst : Option Value → List va_W → Prop} {tl tg : Nat} {cc : ByteArray} {nL : Nat} {rt : Option FieldType} {hh : List (Nat × Nat × Nat × Nat)} {own : String} {lv0 : List (Nat × Value)}
    (hy : plainName y.cls = true) (hw : ws = Cond.codeWith y cc nL rt hh :: ws') (hlen : (lg_sl as).length ≤ nL) (hown : y.cls = own) (hlv : lv_args 0 as = lv0)
    (body : ∀ G : JC, Cx G K l cc nL own ws rm → Fnl G rt rm w0 Pst → FnlW G tl tg hh → J G w0 lv0 0 0 0 []) : CtWP l K y ws rm as w0 Pst tl tg := by
  intro sz
  refine Met_ofWH (cc := cc) (maxL := nL) (ret := rt) (hh := hh) hy hw ?_
  intro p e s m args below meth c s₁ B hml htab hv
  obtain ⟨⟨rfl, hsz, hP, hK, hD⟩, hL⟩ := hv
  subst hsz
  rw [lg_entry_eq]
  exact body (K, va_A w0.flatten s.heap.size, s.heap, nL, p, l, e, (headSpec ws rm).room, s, m, as.toArray, below, meth, c, MQ below (Qof K w0 Pst s.heap.size) as.toArray s rm.cells rm.slots (va_A w0.flatten s.heap.size))
    ⟨rfl, rfl, rfl, rfl, B.exec, B.bytes, hml, by rw [← hown]; exact findClass_of_methodNamed B.named, atoms_spec (ws := ws) B.pre, hK, fun q h => Or.inr h⟩ ⟨B.returns, B.notSynchronized, rfl, rfl, rfl⟩ ⟨hL, rfl, htab⟩
    s.heap [] _ hP hD.self va_S.rf (hlv ▸ lv_entry as hlen)
/-- what the law's methods without a table keep -/
def FnlX (G : JC) (tl tg : Nat) : Prop := match G with
  | (K, A, H0, nL, p, l, e, R, s, m, args, below, meth, c, Q) => WX tl tg A s ∧ H0 = s.heap
theorem FnlW.x {G : JC} {tl tg : Nat} {hh : List (Nat × Nat × Nat × Nat)} (h : FnlW G tl tg hh) : FnlX G tl tg := by
  obtain ⟨K, A, H0, nL', p, l, e, R, s, m, args, below, meth, c, Q⟩ := G
  exact ⟨h.1, h.2.1⟩
theorem CtWP_of {l : Launch} {K : KT} {y : MethodName} {ws ws' : List Cond} {rm : Room} {as : List Value} {w0 : List va_W} {Pst : Option Value → List va_W → Prop} {tl tg : Nat} {cc : ByteArray} {nL : Nat} {rt : Option FieldType} {own : String} {lv0 : List (Nat × Value)}
    (hy : plainName y.cls = true) (hw : ws = Cond.code y cc nL rt :: ws') (hlen : (lg_sl as).length ≤ nL) (hown : y.cls = own) (hlv : lv_args 0 as = lv0)
    (body : ∀ G : JC, Cx G K l cc nL own ws rm → Fnl G rt rm w0 Pst → FnlX G tl tg → J G w0 lv0 0 0 0 []) : CtWP l K y ws rm as w0 Pst tl tg := by
  intro sz
  refine Met.ofW (cc := cc) (maxL := nL) (ret := rt) hy hw ?_
  intro p e s m args below meth c s₁ B hml hv
  obtain ⟨⟨rfl, hsz, hP, hK, hD⟩, hL⟩ := hv
  subst hsz
  rw [lg_entry_eq]
  exact body (K, va_A w0.flatten s.heap.size, s.heap, nL, p, l, e, (headSpec ws rm).room, s, m, as.toArray, below, meth, c, MQ below (Qof K w0 Pst s.heap.size) as.toArray s rm.cells rm.slots (va_A w0.flatten s.heap.size))
    ⟨rfl, rfl, rfl, rfl, B.exec, B.bytes, hml, by rw [← hown]; exact findClass_of_methodNamed B.named, atoms_spec (ws := ws) B.pre, hK, fun q h => Or.inr h⟩ ⟨B.returns, B.notSynchronized, rfl, rfl, rfl⟩ ⟨hL, rfl⟩
    s.heap [] _ hP hD.self va_S.rf (hlv ▸ lv_entry as hlen)
theorem ctl_blind {K : KT} {as : List Value} {w0 : List va_W} {tl tg sz : Nat} : FrameBlind (fun v U => Pof K as w0 sz v U ∧ LV tl tg (va_A w0.flatten sz) U) := fun a U g mk q => ⟨pof_blind a U g mk q.1, q.2.call g mk a⟩
theorem cttl_blind {K : KT} {as : List Value} {w0 : List va_W} {tl tg sz : Nat} : FrameBlind (fun v U => PofX K as w0 sz v U ∧ LV tl tg (va_A w0.flatten sz) U) := fun a U g mk q => ⟨pofx_blind a U g mk q.1, q.2.call g mk a⟩
section JW
variable {K : KT} {l : Launch} {cc : ByteArray} {nL : Nat} {own : String} {Ts : List Cond} {rm : Room} {G : JC} {bs : List va_W} {lv : List (Nat × Value)} {cells slots pc : Nat} {st : List Value}
theorem J_callVL (C0 : Cx G K l cc nL own Ts rm) {tl tg : Nat} {hh : List (Nat × Nat × Nat × Nat)} (hX : FnlW G tl tg hh) {index : Nat} {y : MethodName} {bytes : ByteArray} {maxL : Nat} {ret : Option FieldType} {ws ws' : List Cond} {rmc : Room} {As rest : List Value} {w0 w1 : List va_W} {rv : Option Value} {C : String} {T : u_T} {N ci b : Nat} {fs : List Value} (hM : CtL l K y ws rmc (.ref b :: As) w0 rv w1 tl tg) (wr : List va_W) (hG : GoodIn Ts (wsV own index C y ws)) (hdg : decode cc pc = .ok (.invokevirtual index, 3)) (na : Nat) (q0 : Nat) (hrecv : (w0.flatten)[q0]? = some (b, .inr (ci, fs))) (hcl : vwCl[ci]? = some (C, T, N) := by rfl) (hw : ws = Cond.code y bytes maxL ret :: ws' := by rfl) (hd : y.cls = C ∧ y.cls ≠ "java/lang/invoke/MethodHandle" ∧ y.cls ≠ "java/lang/invoke/VarHandle" ∧ (parseMethodDescriptor y.desc).map (fun d => d.parameters.length) = some na := by decide +kernel) (hna : As.length = na := by rfl) (hR : rmc.frames + 1 ≤ rm.frames ∧ 8 + (maxL + 11) + rmc.locals ≤ rm.locals := by decide) (hf : cells + rmc.cells ≤ rm.cells ∧ slots + rmc.slots ≤ rm.slots := by decide) (hbs : bs = wr ++ w0 := by rfl) (hst : st = As.reverse ++ .ref b :: rest := by rfl) (hrs : (rest.map fun v => v.category).sum ≤ 8 := by exact Nat.le_of_ble_eq_true rfl) (kk : J G (wr ++ w1) lv (cells + rmc.cells) (slots + rmc.slots) (pc + 3) (rv.toList ++ rest)) : J G bs lv cells slots (pc) (st) := by
  obtain ⟨K, A, H0, nL', p, l, e, R, s, m, args, below, meth, c, Q⟩ := G
  obtain ⟨rfl, rfl, rfl, rfl, hx, hb, hml, ho, hts, ⟨hK, hN⟩, hA⟩ := C0
  obtain ⟨hWX, rfl, -⟩ := hX
  intro H locs ls hP hD hS hl
  subst hbs
  subst hst
  have hc0 := fl_callee hP hD
  have hF2 : ∀ q, va_A w0.flatten H.size q → A q := fl_free (K := K) hc0.2 hS hA
  exact J_backR (va_runV (As := As) (rest := rest) ⟨hx, hb, hml, ho, hts⟩ (hM H.size) (cwV na hts hG hw rfl rfl hd hR) ⟨ctl_blind, va_recv hK hc0.1 hcl hrecv, fun U hU hW => ⟨⟨rfl, by rw [hU], by rw [hU]; exact hc0.1, KK.warm hW ⟨hK, hN⟩, hc0.2.weaken (fun _ _ _ _ => trivial)⟩, hWX.2.1.to hS hW hU hF2⟩⟩ rfl hna hl.1 rfl (lv_room hrs) hdg hf) hP hD hS hA (fun rv1 w2 hp H1 locs1 hP1 hD1 hS1 => by
    obtain ⟨rfl, rfl⟩ := hp
    exact kk H1 locs1 ls hP1 hD1 hS1 hl)
theorem J_tryV (C0 : Cx G K l cc nL own Ts rm) {tl tg : Nat} {hh : List (Nat × Nat × Nat × Nat)} (hX : FnlW G tl tg hh) {index : Nat} {y : MethodName} {bytes : ByteArray} {maxL : Nat} {ret : Option FieldType} {ws ws' : List Cond} {rmc : Room} {As rest : List Value} {w0 : List va_W} {E0 : String} {C : String} {T : u_T} {N ci b : Nat} {fs : List Value} (hM : CtTL l K y ws rmc (.ref b :: As) w0 E0 tl tg) (wr : List va_W) (hG : GoodIn Ts (wsV own index C y ws)) (hdg : decode cc pc = .ok (.invokevirtual index, 3)) (na : Nat) (q0 : Nat) (hrecv : (w0.flatten)[q0]? = some (b, .inr (ci, fs)))
    (pre : List ExceptionTableEntry) (x : ExceptionTableEntry) (suf : List ExceptionTableEntry) (hpass : ∀ z ∈ pre, z.catchType ≠ 0 ∧ ∃ nm : String, Cond.classLink own z.catchType nm ∈ Ts ∧ (E0, nm) ∈ ncL) (hlink : Cond.classLink own x.catchType E0 ∈ Ts)
    (hcl : vwCl[ci]? = some (C, T, N) := by rfl) (hw : ws = Cond.code y bytes maxL ret :: ws' := by rfl) (hd : y.cls = C ∧ y.cls ≠ "java/lang/invoke/MethodHandle" ∧ y.cls ≠ "java/lang/invoke/VarHandle" ∧ (parseMethodDescriptor y.desc).map (fun d => d.parameters.length) = some na := by decide +kernel) (hna : As.length = na := by rfl) (hR : rmc.frames + 1 ≤ rm.frames ∧ 8 + (maxL + 11) + rmc.locals ≤ rm.locals := by decide) (hf : cells + rmc.cells ≤ rm.cells ∧ slots + rmc.slots ≤ rm.slots := by decide) (hbs : bs = wr ++ w0 := by rfl) (hst : st = As.reverse ++ .ref b :: rest := by rfl) (hrs : (rest.map fun v => v.category).sum ≤ 8 := by exact Nat.le_of_ble_eq_true rfl)
    (hsplit : tableOf hh = pre ++ x :: suf := by rfl) (hcov : covers x pc = true := by rfl) (hx0 : x.catchType ≠ 0 := by decide) (hE0 : E0 ∈ exL := by decide)
    (kk : ∀ q : Nat, J G (wr ++ w0) lv (cells + rmc.cells) (slots + rmc.slots) x.handlerPc [.ref q]) : J G bs lv cells slots (pc) (st) := by
  obtain ⟨K, A, H0, nL', p, l, e, R, s, m, args, below, meth, c, Q⟩ := G
  obtain ⟨rfl, rfl, rfl, rfl, hx, hb, hml, ho, hts, ⟨hK, hN⟩, hA⟩ := C0
  obtain ⟨hWX, rfl, htab⟩ := hX
  intro H locs ls hP hD hS hl
  subst hbs
  subst hst
  have hc0 := fl_callee hP hD
  have hF2 : ∀ q, va_A w0.flatten H.size q → A q := fl_free (K := K) hc0.2 hS hA
  have hr := vx_runV (l := l) (e := e) (below := below) (meth := meth) (locs := locs) (cells := cells) (slots := slots) (As := As) (rest := rest) ⟨hx, hb, hml, ho, hts⟩ (hM H.size) (cwV na hts hG hw rfl rfl hd hR) ⟨cttl_blind, va_recv hK hc0.1 hcl hrecv, fun U hU hW => ⟨⟨⟨rfl, by rw [hU], by rw [hU]; exact hc0.1, KK.warm hW ⟨hK, hN⟩, hc0.2.weaken (fun _ _ _ _ => trivial)⟩, hWX.1.to hS hW hU hF2⟩, hWX.2.1.to hS hW hU hF2⟩⟩ (g := F0 m pc ls (As.reverse ++ .ref b :: rest)) rfl hna hl.1 rfl (lv_room hrs) hdg hf
  intro T hT X
  rcases hr T hT X with ⟨v, st₀, t, T', L, h0, X', hL, e1, e2, hf, stp⟩ | ⟨q, st₀, t, T', L, E, ce, h0, X', hL, e1, e2, ⟨rfl, hP1, hF1⟩, hce, hcv, hcl2, stp⟩
  · exact hf.elim
  · obtain ⟨k1, k2, k3⟩ := vx_keep h0 e1 hS (fun q _ h => hF2 q h) hF2 hL hF1
    have hb2 := fl_back (H1 := T'.heap) hP hD k2 hF2 (by rw [e1]; exact hP1) hc0.2.self
    obtain ⟨t2, a1, b1⟩ := vx_catch (p := p) (l := l) (e := e) (R := R) (s := s) (m := m) (args := args) (below := below) (meth := meth) (c := c) (H := T'.heap) (locs := locs ++ L) (cells := cells + rmc.cells) (slots := slots + rmc.slots) (Q := Q) (pc := pc) (ls := ls) (rest := rest) (q := q) (ce := ce) ho pre x suf (htab.trans hsplit)
      (fun z hz => by
        obtain ⟨z1, nm, z2, z3⟩ := hpass z hz
        exact Or.inr ⟨z1, nm, hts _ z2, hWX.2.2 _ z3⟩) hcov hx0 (hts _ hlink) (va_Nw.use rfl (hWX.1.2.2.1 E hE0)) (by rw [e1]; exact hce) hcv hcl2 (kk q T'.heap (locs ++ L) ls hb2.1 hb2.2 k3 hl) T' rfl X'
    exact ⟨t2, stp.trans a1, b1⟩
theorem J_biv (C0 : Cx G K l cc nL own Ts rm) {n : Int} (v : Int32) (hdg : decode cc pc = .ok (.bipush n, 2)) (hv : (Int8.ofInt n).toInt32 = v := by decide) (kk : J G bs lv cells slots (pc + 2) (.int v :: st)) : J G bs lv cells slots (pc) (st) := by
  obtain ⟨K, A, H0, nL', p, l, e, R, s, m, args, below, meth, c, Q⟩ := G
  obtain ⟨rfl, rfl, rfl, rfl, hx, hb, hml, ho, hts, ⟨hK, hN⟩, hA⟩ := C0
  intro H locs ls hP hD hS hl
  exact lv_bipush hx hb hdg hv (kk H locs ls hP hD hS hl)
theorem J_ldc (C0 : Cx G K l cc nL own Ts rm) {index : Nat} {v : Int32} (hcn : Cond.constant own index v ∈ Ts) (hdg : decode cc pc = .ok (.ldc index, 2)) (kk : J G bs lv cells slots (pc + 2) (.int v :: st)) : J G bs lv cells slots (pc) (st) := by
  obtain ⟨K, A, H0, nL', p, l, e, R, s, m, args, below, meth, c, Q⟩ := G
  obtain ⟨rfl, rfl, rfl, rfl, hx, hb, hml, ho, hts, ⟨hK, hN⟩, hA⟩ := C0
  intro H locs ls hP hD hS hl
  exact lv_ldc hx hb ho (hts _ hcn) hdg (kk H locs ls hP hD hS hl)
theorem J_ishr (C0 : Cx G K l cc nL own Ts rm) {x y : Int32} (hdg : decode cc pc = .ok (.ishr, 1)) (kk : J G bs lv cells slots (pc + 1) (.int (x >>> (y &&& 31)) :: st)) : J G bs lv cells slots (pc) (.int y :: .int x :: st) := by
  obtain ⟨K, A, H0, nL', p, l, e, R, s, m, args, below, meth, c, Q⟩ := G
  obtain ⟨rfl, rfl, rfl, rfl, hx, hb, hml, ho, hts, ⟨hK, hN⟩, hA⟩ := C0
  intro H locs ls hP hD hS hl
  exact lv_ishr hx hb hdg (kk H locs ls hP hD hS hl)
/-- a number's name changed -/
theorem J_int (C0 : Cx G K l cc nL own Ts rm) {x y : Int32} (h : x = y) (kk : J G bs lv cells slots (pc) (.int y :: st)) : J G bs lv cells slots (pc) (.int x :: st) := h ▸ kk
/-- a call of a law's method without a table -/
theorem J_callWP (C0 : Cx G K l cc nL own Ts rm) {tl tg : Nat} (hX : FnlX G tl tg) {index : Nat} {y : MethodName} {bytes : ByteArray} {maxL : Nat} {ret : Option FieldType} {ws ws' : List Cond} {rmc : Room} {As rest : List Value} {w0 : List va_W} {Pst : Option Value → List va_W → Prop} (hM : CtWP l K y ws rmc As w0 Pst tl tg) (wr : List va_W) (hG : GoodIn Ts (va_wsS own index y ws)) (hdg : decode cc pc = .ok (.invokestatic index, 3)) (na : Nat) (hw : ws = Cond.code y bytes maxL ret :: ws' := by rfl) (hd : y.cls ≠ "java/lang/invoke/MethodHandle" ∧ y.cls ≠ "java/lang/invoke/VarHandle" ∧ (parseMethodDescriptor y.desc).map (fun d => d.parameters.length) = some na := by decide +kernel) (hna : As.length = na := by rfl) (hR : rmc.frames + 1 ≤ rm.frames ∧ 8 + (maxL + 11) + rmc.locals ≤ rm.locals := by decide) (hf : cells + rmc.cells ≤ rm.cells ∧ slots + rmc.slots ≤ rm.slots := by decide) (hbs : bs = wr ++ w0 := by rfl) (hst : st = As.reverse ++ rest := by rfl) (hrs : (rest.map fun v => v.category).sum ≤ 8 := by exact Nat.le_of_ble_eq_true rfl) (kk : ∀ (rv : Option Value) (w1 : List va_W), Pst rv w1 → J G (wr ++ w1) lv (cells + rmc.cells) (slots + rmc.slots) (pc + 3) (rv.toList ++ rest)) : J G bs lv cells slots (pc) (st) := by
  obtain ⟨K, A, H0, nL', p, l, e, R, s, m, args, below, meth, c, Q⟩ := G
  obtain ⟨rfl, rfl, rfl, rfl, hx, hb, hml, ho, hts, ⟨hK, hN⟩, hA⟩ := C0
  obtain ⟨hWX, rfl⟩ := hX
  intro H locs ls hP hD hS hl
  subst hbs
  subst hst
  have hc0 := fl_callee hP hD
  have hF2 : ∀ q, va_A w0.flatten H.size q → A q := fl_free (K := K) hc0.2 hS hA
  exact J_backR (va_runS (As := As) (rest := rest) ⟨hx, hb, hml, ho, hts⟩ (hM H.size) (va_cwS na hts hG hw rfl rfl hd hR) ⟨sx_blind, fun U hU hW => ⟨⟨rfl, by rw [hU], by rw [hU]; exact hc0.1, KK.warm hW ⟨hK, hN⟩, hc0.2.weaken (fun _ _ _ _ => trivial)⟩, hWX.to hS hW hU hF2⟩⟩ rfl hna hl.1 rfl (lv_room hrs) hdg hf) hP hD hS hA (fun rv1 w2 hp H1 locs1 hP1 hD1 hS1 => kk rv1 w2 hp H1 locs1 ls hP1 hD1 hS1 hl)
/-- a call of a law's method with a table -/
theorem J_callWH (C0 : Cx G K l cc nL own Ts rm) {tl tg : Nat} (hX : FnlX G tl tg) {index : Nat} {y : MethodName} {bytes : ByteArray} {maxL : Nat} {ret : Option FieldType} {hh : List (Nat × Nat × Nat × Nat)} {ws ws' : List Cond} {rmc : Room} {As rest : List Value} {w0 : List va_W} {Pst : Option Value → List va_W → Prop} (hM : CtWP l K y ws rmc As w0 Pst tl tg) (wr : List va_W) (hG : GoodIn Ts (va_wsS own index y ws)) (hdg : decode cc pc = .ok (.invokestatic index, 3)) (na : Nat) (hw : ws = Cond.codeWith y bytes maxL ret hh :: ws' := by rfl) (hd : y.cls ≠ "java/lang/invoke/MethodHandle" ∧ y.cls ≠ "java/lang/invoke/VarHandle" ∧ (parseMethodDescriptor y.desc).map (fun d => d.parameters.length) = some na := by decide +kernel) (hna : As.length = na := by rfl) (hR : rmc.frames + 1 ≤ rm.frames ∧ 8 + (maxL + 11) + rmc.locals ≤ rm.locals := by decide) (hf : cells + rmc.cells ≤ rm.cells ∧ slots + rmc.slots ≤ rm.slots := by decide) (hbs : bs = wr ++ w0 := by rfl) (hst : st = As.reverse ++ rest := by rfl) (hrs : (rest.map fun v => v.category).sum ≤ 8 := by exact Nat.le_of_ble_eq_true rfl) (kk : ∀ (rv : Option Value) (w1 : List va_W), Pst rv w1 → J G (wr ++ w1) lv (cells + rmc.cells) (slots + rmc.slots) (pc + 3) (rv.toList ++ rest)) : J G bs lv cells slots (pc) (st) := by
  obtain ⟨K, A, H0, nL', p, l, e, R, s, m, args, below, meth, c, Q⟩ := G
  obtain ⟨rfl, rfl, rfl, rfl, hx, hb, hml, ho, hts, ⟨hK, hN⟩, hA⟩ := C0
  obtain ⟨hWX, rfl⟩ := hX
  intro H locs ls hP hD hS hl
  subst hbs
  subst hst
  have hc0 := fl_callee hP hD
  have hF2 : ∀ q, va_A w0.flatten H.size q → A q := fl_free (K := K) hc0.2 hS hA
  exact J_backR (vx_runSW (As := As) (rest := rest) ⟨hx, hb, hml, ho, hts⟩ (hM H.size) (vx_cwSW na hts hG hw rfl rfl hd hR) ⟨sx_blind, fun U hU hW => ⟨⟨rfl, by rw [hU], by rw [hU]; exact hc0.1, KK.warm hW ⟨hK, hN⟩, hc0.2.weaken (fun _ _ _ _ => trivial)⟩, hWX.to hS hW hU hF2⟩⟩ rfl hna hl.1 rfl (lv_room hrs) hdg hf) hP hD hS hA (fun rv1 w2 hp H1 locs1 hP1 hD1 hS1 => kk rv1 w2 hp H1 locs1 ls hP1 hD1 hS1 hl)
/-- the same where the answer and the world are told -/
theorem J_callWPd (C0 : Cx G K l cc nL own Ts rm) {tl tg : Nat} (hX : FnlX G tl tg) {index : Nat} {y : MethodName} {bytes : ByteArray} {maxL : Nat} {ret : Option FieldType} {ws ws' : List Cond} {rmc : Room} {As rest : List Value} {w0 w1 : List va_W} {rv : Option Value} (hM : CtW l K y ws rmc As w0 rv w1 tl tg) (hG : GoodIn Ts (va_wsS own index y ws)) (hdg : decode cc pc = .ok (.invokestatic index, 3)) (na : Nat) (hw : ws = Cond.code y bytes maxL ret :: ws' := by rfl) (hd : y.cls ≠ "java/lang/invoke/MethodHandle" ∧ y.cls ≠ "java/lang/invoke/VarHandle" ∧ (parseMethodDescriptor y.desc).map (fun d => d.parameters.length) = some na := by decide +kernel) (hna : As.length = na := by rfl) (hR : rmc.frames + 1 ≤ rm.frames ∧ 8 + (maxL + 11) + rmc.locals ≤ rm.locals := by decide) (hf : cells + rmc.cells ≤ rm.cells ∧ slots + rmc.slots ≤ rm.slots := by decide) (hbs : bs = w0 := by rfl) (hst : st = As.reverse ++ rest := by rfl) (hrs : (rest.map fun v => v.category).sum ≤ 8 := by exact Nat.le_of_ble_eq_true rfl) (kk : J G w1 lv (cells + rmc.cells) (slots + rmc.slots) (pc + 3) (rv.toList ++ rest)) : J G bs lv cells slots (pc) (st) := by
  refine J_callWP C0 hX hM [] hG hdg na hw hd hna hR hf hbs hst hrs (fun rv2 w2 h2 => ?_)
  obtain ⟨rfl, rfl⟩ := h2
  exact kk
theorem J_callWHd (C0 : Cx G K l cc nL own Ts rm) {tl tg : Nat} (hX : FnlX G tl tg) {index : Nat} {y : MethodName} {bytes : ByteArray} {maxL : Nat} {ret : Option FieldType} {hh : List (Nat × Nat × Nat × Nat)} {ws ws' : List Cond} {rmc : Room} {As rest : List Value} {w0 w1 : List va_W} {rv : Option Value} (hM : CtW l K y ws rmc As w0 rv w1 tl tg) (hG : GoodIn Ts (va_wsS own index y ws)) (hdg : decode cc pc = .ok (.invokestatic index, 3)) (na : Nat) (hw : ws = Cond.codeWith y bytes maxL ret hh :: ws' := by rfl) (hd : y.cls ≠ "java/lang/invoke/MethodHandle" ∧ y.cls ≠ "java/lang/invoke/VarHandle" ∧ (parseMethodDescriptor y.desc).map (fun d => d.parameters.length) = some na := by decide +kernel) (hna : As.length = na := by rfl) (hR : rmc.frames + 1 ≤ rm.frames ∧ 8 + (maxL + 11) + rmc.locals ≤ rm.locals := by decide) (hf : cells + rmc.cells ≤ rm.cells ∧ slots + rmc.slots ≤ rm.slots := by decide) (hbs : bs = w0 := by rfl) (hst : st = As.reverse ++ rest := by rfl) (hrs : (rest.map fun v => v.category).sum ≤ 8 := by exact Nat.le_of_ble_eq_true rfl) (kk : J G w1 lv (cells + rmc.cells) (slots + rmc.slots) (pc + 3) (rv.toList ++ rest)) : J G bs lv cells slots (pc) (st) := by
  refine J_callWH C0 hX hM [] hG hdg na hw hd hna hR hf hbs hst hrs (fun rv2 w2 h2 => ?_)
  obtain ⟨rfl, rfl⟩ := h2
  exact kk
/-- a call of the class where the answer and the world are told -/
theorem J_callVz (C0 : Cx G K l cc nL own Ts rm) {index : Nat} {y : MethodName} {bytes : ByteArray} {maxL : Nat} {ret : Option FieldType} {ws ws' : List Cond} {rmc : Room} {As rest : List Value} {w0 : List va_W} {rv : Option Value} {w1 : List va_W} {C : String} {T : u_T} {N ci b : Nat} {fs : List Value} (hM : Ct l K y ws rmc (.ref b :: As) w0 rv w1) (hG : GoodIn Ts (wsV own index C y ws)) (hdg : decode cc pc = .ok (.invokevirtual index, 3)) (na : Nat) (hrecv : (w0.flatten)[0]? = some (b, .inr (ci, fs)) := by rfl) (hcl : vwCl[ci]? = some (C, T, N) := by rfl) (hw : ws = Cond.code y bytes maxL ret :: ws' := by rfl) (hd : y.cls = C ∧ y.cls ≠ "java/lang/invoke/MethodHandle" ∧ y.cls ≠ "java/lang/invoke/VarHandle" ∧ (parseMethodDescriptor y.desc).map (fun d => d.parameters.length) = some na := by decide +kernel) (hna : As.length = na := by rfl) (hR : rmc.frames + 1 ≤ rm.frames ∧ 8 + (maxL + 11) + rmc.locals ≤ rm.locals := by decide) (hf : cells + rmc.cells ≤ rm.cells ∧ slots + rmc.slots ≤ rm.slots := by decide) (hbs : bs = w0 := by rfl) (hst : st = As.reverse ++ .ref b :: rest := by rfl) (hrs : (rest.map fun v => v.category).sum ≤ 8 := by exact Nat.le_of_ble_eq_true rfl) (kk : J G w1 lv (cells + rmc.cells) (slots + rmc.slots) (pc + 3) (rv.toList ++ rest)) : J G bs lv cells slots (pc) (st) :=
  J_callVd C0 hM [] w1 hG hdg na 0 hrecv hcl hw hd hna hR hf hbs rfl hst hrs kk
end JW
