def leastV (j : Nat) : Int32 := if j = 0 then nI 1 else nI 0
def mostV (j : Nat) : Int32 := if j = 1 then nI 99 else nI 9
def LV (tl tg : Nat) (A : Nat → Prop) (s : State) : Prop := va_Z "CorkPermits" "LEAST_VALUE" "[I" (.ref tl) A s s.heap ∧ va_Z "CorkPermits" "GREATEST_VALUE" "[I" (.ref tg) A s s.heap ∧ va_T .int tl 3 (fun j => .int (leastV j)) A s s.heap ∧ va_T .int tg 3 (fun j => .int (mostV j)) A s s.heap
def FnlL (G : JC) (tl tg : Nat) : Prop := match G with
  | (K, A, H0, nL, p, l, e, R, s, m, args, below, meth, c, Q) => LV tl tg A s ∧ H0 = s.heap
def CtL (l : Launch) (K : KT) (y : MethodName) (ws : List Cond) (rm : Room) (as : List Value) (w0 : List va_W) (rv : Option Value) (w1 : List va_W) (tl tg : Nat) : Prop :=
  ∀ sz : Nat, Met l y ws rm (fun v U => Pof K as w0 sz v U ∧ LV tl tg (va_A w0.flatten sz) U) (Qof K w0 (fun r w => r = rv ∧ w = w1) sz) rm.cells rm.slots (va_A w0.flatten sz)
def CtTL (l : Launch) (K : KT) (y : MethodName) (ws : List Cond) (rm : Room) (as : List Value) (w0 : List va_W) (E0 : String) (tl tg : Nat) : Prop :=
  ∀ sz : Nat, vx_Met l y ws rm (fun v U => PofX K as w0 sz v U ∧ LV tl tg (va_A w0.flatten sz) U) (fun _ _ _ _ => False) (XCof K w0 E0 sz) rm.cells rm.slots (va_A w0.flatten sz)
theorem CtL_of {l : Launch} {K : KT} {y : MethodName} {ws ws' : List Cond} {rm : Room} {as : List Value} {w0 w1 : List va_W} {rv : Option Value} {tl tg : Nat} {cc : ByteArray} {nL : Nat} {rt : Option FieldType} {own : String} {lv0 : List (Nat × Value)}
    (hy : plainName y.cls = true) (hw : ws = Cond.code y cc nL rt :: ws') (hlen : (lg_sl as).length ≤ nL) (hown : y.cls = own) (hlv : lv_args 0 as = lv0)
    (body : ∀ G : JC, Cx G K l cc nL own ws rm → Fnl G rt rm w0 (fun r w => r = rv ∧ w = w1) → FnlL G tl tg → J G w0 lv0 0 0 0 []) : CtL l K y ws rm as w0 rv w1 tl tg := by
  intro sz
  refine Met.ofW (cc := cc) (maxL := nL) (ret := rt) hy hw ?_
  intro p e s m args below meth c s₁ B hml hv
  obtain ⟨⟨rfl, hsz, hP, hK, hD⟩, hL⟩ := hv
  subst hsz
  rw [lg_entry_eq]
  exact body (K, va_A w0.flatten s.heap.size, s.heap, nL, p, l, e, (headSpec ws rm).room, s, m, as.toArray, below, meth, c, MQ below (Qof K w0 (fun r w => r = rv ∧ w = w1) s.heap.size) as.toArray s rm.cells rm.slots (va_A w0.flatten s.heap.size))
    ⟨rfl, rfl, rfl, rfl, B.exec, B.bytes, hml, by rw [← hown]; exact findClass_of_methodNamed B.named, atoms_spec (ws := ws) B.pre, hK, fun q h => Or.inr h⟩ ⟨B.returns, B.notSynchronized, rfl, rfl, rfl⟩ ⟨hL, rfl⟩
    s.heap [] _ hP hD.self va_S.rf (hlv ▸ lv_entry as hlen)
theorem CtTL_of {l : Launch} {K : KT} {y : MethodName} {ws ws' : List Cond} {rm : Room} {as : List Value} {w0 : List va_W} {E0 : String} {tl tg : Nat} {cc : ByteArray} {nL : Nat} {rt : Option FieldType} {own : String} {lv0 : List (Nat × Value)} (hst : l.stackTraces = false)
    (hy : plainName y.cls = true) (hw : ws = Cond.code y cc nL rt :: ws') (hlen : (lg_sl as).length ≤ nL) (hown : y.cls = own) (hlv : lv_args 0 as = lv0)
    (body : ∀ G : JC, Cx G K l cc nL own ws rm → FnlT G rm w0 E0 → FnlL G tl tg → J G w0 lv0 0 0 0 []) : CtTL l K y ws rm as w0 E0 tl tg := by
  intro sz
  refine vx_ofW (cc := cc) (maxL := nL) (ret := rt) hy hw ?_
  intro p e s m args below meth c s₁ B hml htab hv
  obtain ⟨⟨⟨rfl, hsz, hP, hK, hD⟩, hE⟩, hL⟩ := hv
  subst hsz
  rw [lg_entry_eq]
  exact body (K, va_A w0.flatten s.heap.size, s.heap, nL, p, l, e, (headSpec ws rm).room, s, m, as.toArray, below, meth, c, vx_MQ below (fun _ _ _ _ => False) (XCof K w0 E0 s.heap.size) as.toArray s rm.cells rm.slots (va_A w0.flatten s.heap.size))
    ⟨rfl, rfl, rfl, rfl, B.exec, B.bytes, hml, by rw [← hown]; exact findClass_of_methodNamed B.named, atoms_spec (ws := ws) B.pre, hK, fun q h => Or.inr h⟩ ⟨B.notSynchronized, rfl, rfl, htab, hE, hst, rfl⟩ ⟨hL, rfl⟩
    s.heap [] _ hP hD.self va_S.rf (hlv ▸ lv_entry as hlen)
section JL
variable {K : KT} {l : Launch} {cc : ByteArray} {nL : Nat} {own : String} {Ts : List Cond} {rm : Room} {G : JC} {bs : List va_W} {lv : List (Nat × Value)} {cells slots pc : Nat} {st : List Value}

theorem J_gets_tl (C0 : Cx G K l cc nL own Ts rm) {tl tg index : Nat} (hL : FnlL G tl tg) (hlk : Cond.fieldLink own index "CorkPermits" "LEAST_VALUE" "[I" ∈ Ts) (hdg : decode cc pc = .ok (.getstatic index, 3)) (kk : J G bs lv cells slots (pc + 3) (.ref tl :: st)) : J G bs lv cells slots (pc) (st) := by
  obtain ⟨K, A, H0, nL', p, l, e, R, s, m, args, below, meth, c, Q⟩ := G
  obtain ⟨rfl, rfl, rfl, rfl, hx, hb, hml, ho, hts, ⟨hK, hN⟩, hA⟩ := C0
  obtain ⟨⟨z1, z2, t1, t2⟩, rfl⟩ := hL
  intro H locs ls hP hD hS hl
  exact va_gets hx hb z1 hS ho (hts _ hlk) (fun _ h => h) hdg (kk H locs ls hP hD hS hl)
theorem J_tab_tl (C0 : Cx G K l cc nL own Ts rm) {tl tg j : Nat} (hL : FnlL G tl tg) (hdg : decode cc pc = .ok (.iaload, 1)) (hj : j < 3) (kk : J G bs lv cells slots (pc + 1) (.int (leastV j) :: st)) : J G bs lv cells slots (pc) (.int (nI j) :: .ref tl :: st) := by
  obtain ⟨K, A, H0, nL', p, l, e, R, s, m, args, below, meth, c, Q⟩ := G
  obtain ⟨rfl, rfl, rfl, rfl, hx, hb, hml, ho, hts, ⟨hK, hN⟩, hA⟩ := C0
  obtain ⟨⟨z1, z2, t1, t2⟩, rfl⟩ := hL
  intro H locs ls hP hD hS hl
  exact va_ti hx hb t1 hS (vp_in_nI hj (by decide)) (by rw [nI_clamp (Nat.lt_trans hj (by decide))]) hdg (kk H locs ls hP hD hS hl)
theorem J_gets_tg (C0 : Cx G K l cc nL own Ts rm) {tl tg index : Nat} (hL : FnlL G tl tg) (hlk : Cond.fieldLink own index "CorkPermits" "GREATEST_VALUE" "[I" ∈ Ts) (hdg : decode cc pc = .ok (.getstatic index, 3)) (kk : J G bs lv cells slots (pc + 3) (.ref tg :: st)) : J G bs lv cells slots (pc) (st) := by
  obtain ⟨K, A, H0, nL', p, l, e, R, s, m, args, below, meth, c, Q⟩ := G
  obtain ⟨rfl, rfl, rfl, rfl, hx, hb, hml, ho, hts, ⟨hK, hN⟩, hA⟩ := C0
  obtain ⟨⟨z1, z2, t1, t2⟩, rfl⟩ := hL
  intro H locs ls hP hD hS hl
  exact va_gets hx hb z2 hS ho (hts _ hlk) (fun _ h => h) hdg (kk H locs ls hP hD hS hl)
theorem J_tab_tg (C0 : Cx G K l cc nL own Ts rm) {tl tg j : Nat} (hL : FnlL G tl tg) (hdg : decode cc pc = .ok (.iaload, 1)) (hj : j < 3) (kk : J G bs lv cells slots (pc + 1) (.int (mostV j) :: st)) : J G bs lv cells slots (pc) (.int (nI j) :: .ref tg :: st) := by
  obtain ⟨K, A, H0, nL', p, l, e, R, s, m, args, below, meth, c, Q⟩ := G
  obtain ⟨rfl, rfl, rfl, rfl, hx, hb, hml, ho, hts, ⟨hK, hN⟩, hA⟩ := C0
  obtain ⟨⟨z1, z2, t1, t2⟩, rfl⟩ := hL
  intro H locs ls hP hD hS hl
  exact va_ti hx hb t2 hS (vp_in_nI hj (by decide)) (by rw [nI_clamp (Nat.lt_trans hj (by decide))]) hdg (kk H locs ls hP hD hS hl)
end JL
abbrev rmX4_set : Room := { frames := 4, cells := 0, slots := 0, locals := 103 }
set_option maxHeartbeats 4000000 in
set_option maxRecDepth 100000 in
theorem mX4_set (l : Launch) (K : KT) (b nA aA : Nat → Nat) (d e : Nat → Nat → Nat) (F Ga : FF) (D S : Nat → FF) (T : FF) {k : Nat} (h6 : k ≤ 6) (hk : T 0 0 = nI k) {c : Nat} (hc3 : c < 3) {x : Int32} (h1 : ¬ x < leastV c) (h2 : x ≤ mostV c) (tl tg : Nat) : CtL l K yX4_set wsX4_set rmX4_set [.ref (b 0), .int (nI c), .int x] (corkW K b nA aA d e F Ga D S T) (some (.int (F 1 c))) (corkW K b nA aA d (pushE k e) (u2 F 1 c x) Ga D (pushS k S F) (pushT k T)) tl tg := by
  refine CtL_of (cc := cX4_set) (nL := 4) (rt := some .int) (own := RX4) (lv0 := [(0, .ref (b 0)), (1, .int (nI c)), (2, .int x)]) (by decide) rfl (Nat.le_of_ble_eq_true rfl) rfl rfl ?_
  intro G C0 hF hL
  have fs132 : Cond.fieldLink RX4 132 "CorkPermits" "LEAST_VALUE" "[I" ∈ wsX4_set := by decide +kernel
  have fs135 : Cond.fieldLink RX4 135 "CorkPermits" "GREATEST_VALUE" "[I" ∈ wsX4_set := by decide +kernel
  have f30 : Cond.fieldLink RX4 30 "CorkPermits" "history" "LCorkPermits$History;" ∈ wsX4_set := by decide +kernel
  have iX4 : ∀ w ∈ u_ws RX4 TX4 6, w ∈ wsX4_set := by decide +kernel
  have f12 : Cond.fieldLink RX4 12 "CorkPermits" "now" "LCorkPermits$Cellar;" ∈ wsX4_set := by decide +kernel
  have f138 : Cond.fieldLink RX4 138 "CorkPermits$Cellar" "settings" "[I" ∈ wsX4_set := by decide +kernel
  have iX0 : ∀ w ∈ u_ws RX0 TX0 14, w ∈ wsX4_set := by decide +kernel
  refine J_iln C0 1 dX4_set_0 (kk := ?_)
  refine J_callSd C0 (mX4_requireSetting l K (k := c) (by omega)) [mainW K b (nA 0) (aA 0) (fun i => some (d i 0)) (fun i => some (e i 0)) T, celW K nA F, celW K aA Ga, celW K (d 0) (D 0), celW K (d 1) (D 1), celW K (e 0) (S 0), celW K (e 1) (S 1), celW K (e 2) (S 2), celW K (e 3) (S 3), celW K (e 4) (S 4), celW K (e 5) (S 5)] (corkW K b nA aA d e F Ga D S T) gX4_set_X4_requireSetting dX4_set_1 1 (kk := ?_)
  show J G _ _ _ _ _ []
  refine J_iln C0 2 dX4_set_4 (kk := ?_)
  refine J_gets_tl C0 hL fs132 dX4_set_5 ?_
  refine J_iln C0 1 dX4_set_8 (kk := ?_)
  refine J_tab_tl C0 hL dX4_set_9 (by omega) ?_
  refine J_icmplt C0 22 dX4_set_10 (kt := fun c1 => ?_) (kf := fun c1 => ?_)
  · exact absurd c1 h1
  · refine J_iln C0 2 dX4_set_13 (kk := ?_)
    refine J_gets_tg C0 hL fs135 dX4_set_14 ?_
    refine J_iln C0 1 dX4_set_17 (kk := ?_)
    refine J_tab_tg C0 hL dX4_set_18 (by omega) ?_
    refine J_icmple C0 30 dX4_set_19 (kt := fun c2 => ?_) (kf := fun c2 => ?_)
    · refine J_aln C0 0 dX4_set_30 (kk := ?_)
      refine J_get C0 iX4 0 0 4 f30 dX4_set_31 (kk := ?_)
      refine J_aln C0 0 dX4_set_34 (kk := ?_)
      refine J_get C0 iX4 0 0 0 f12 dX4_set_35 (kk := ?_)
      refine J_callVd C0 (mX2_push l K b nA aA d e F Ga D S T (k := k) h6 hk) [] (corkW K b nA aA d (pushE k e) F Ga D (pushS k S F) (pushT k T)) gX4_set_X2_push dX4_set_38 1 3 (kk := ?_)
      show J G _ _ _ _ _ []
      refine J_aln C0 0 dX4_set_41 (kk := ?_)
      refine J_get C0 iX4 0 0 0 f12 dX4_set_42 (kk := ?_)
      refine J_get C0 iX0 1 0 2 f138 dX4_set_45 (kk := ?_)
      refine J_iln C0 1 dX4_set_48 (kk := ?_)
      refine J_iald C0 1 1 3 dX4_set_49 (by omega) (kk := ?_)
      refine J_isn C0 [(3, .int (F 1 c)), (0, .ref (b 0)), (1, .int (nI c)), (2, .int x)] dX4_set_50 (kk := ?_)
      refine J_aln C0 1 dX4_set_51 (kk := ?_)
      refine J_get C0 iX4 0 0 0 f12 dX4_set_52 (kk := ?_)
      refine J_get C0 iX0 1 0 2 f138 dX4_set_55 (kk := ?_)
      refine J_iln C0 2 dX4_set_58 (kk := ?_)
      refine J_iln C0 3 dX4_set_59 (kk := ?_)
      refine J_iast C0 1 1 3 (corkW K b nA aA d (pushE k e) (u2 F 1 c x) Ga D (pushS k S F) (pushT k T)) dX4_set_60 (by omega) (kk := ?_)
      refine J_iln C0 0 dX4_set_61 (kk := ?_)
      exact J_iret C0 hF dX4_set_62 ⟨rfl, rfl⟩
    · exact absurd h2 c2

set_option maxHeartbeats 4000000 in
set_option maxRecDepth 100000 in
theorem tX4_set_value (l : Launch) (hst : l.stackTraces = false) (K : KT) (b nA aA : Nat → Nat) (d e : Nat → Nat → Nat) (F Ga : FF) (D S : Nat → FF) (T : FF) {c : Nat} (hc3 : c < 3) {x : Int32} (hx : x < leastV c ∨ mostV c < x) (tl tg : Nat) : CtTL l K yX4_set wsX4_set rmtX4_set [.ref (b 0), .int (nI c), .int x] (corkW K b nA aA d e F Ga D S T) "java/lang/IllegalArgumentException" tl tg := by
  refine CtTL_of (cc := cX4_set) (nL := 4) (rt := some .int) (own := RX4) (lv0 := [(0, .ref (b 0)), (1, .int (nI c)), (2, .int x)]) hst (by decide) rfl (Nat.le_of_ble_eq_true rfl) rfl rfl ?_
  intro G C0 hF hL
  have fs132 : Cond.fieldLink RX4 132 "CorkPermits" "LEAST_VALUE" "[I" ∈ wsX4_set := by decide +kernel
  have ek56 : Cond.classLink RX4 56 "java/lang/IllegalArgumentException" ∈ wsX4_set := by decide +kernel
  have ei56 : Cond.initialized "java/lang/IllegalArgumentException" ∈ wsX4_set := by decide +kernel
  have eg56 : ∀ w ∈ (vx_at0 RX4 58 "java/lang/IllegalArgumentException" ["java/lang/RuntimeException", "java/lang/Exception"]).filter goodWord, w ∈ wsX4_set := fun w hw => by simp only [wsX4_set, List.mem_cons, List.mem_append, hw, or_true, true_or]
  have fs135 : Cond.fieldLink RX4 135 "CorkPermits" "GREATEST_VALUE" "[I" ∈ wsX4_set := by decide +kernel
  refine J_iln C0 1 dX4_set_0 (kk := ?_)
  refine J_callSd C0 (mX4_requireSetting l K (k := c) (by omega)) [mainW K b (nA 0) (aA 0) (fun i => some (d i 0)) (fun i => some (e i 0)) T, celW K nA F, celW K aA Ga, celW K (d 0) (D 0), celW K (d 1) (D 1), celW K (e 0) (S 0), celW K (e 1) (S 1), celW K (e 2) (S 2), celW K (e 3) (S 3), celW K (e 4) (S 4), celW K (e 5) (S 5)] (corkW K b nA aA d e F Ga D S T) gX4_set_X4_requireSetting dX4_set_1 1 (kk := ?_)
  show J G _ _ _ _ _ []
  refine J_iln C0 2 dX4_set_4 (kk := ?_)
  refine J_gets_tl C0 hL fs132 dX4_set_5 ?_
  refine J_iln C0 1 dX4_set_8 (kk := ?_)
  refine J_tab_tl C0 hL dX4_set_9 (by omega) ?_
  refine J_icmplt C0 22 dX4_set_10 (kt := fun c1 => ?_) (kf := fun c1 => ?_)
  · exact J_throw0 C0 hF ["java/lang/RuntimeException", "java/lang/Exception"] ek56 ei56 eg56 (by decide) atB_X4_56 atA_X4_56 dX4_set_22 dX4_set_25 dX4_set_26 dX4_set_29
  · refine J_iln C0 2 dX4_set_13 (kk := ?_)
    refine J_gets_tg C0 hL fs135 dX4_set_14 ?_
    refine J_iln C0 1 dX4_set_17 (kk := ?_)
    refine J_tab_tg C0 hL dX4_set_18 (by omega) ?_
    refine J_icmple C0 30 dX4_set_19 (kt := fun c2 => ?_) (kf := fun c2 => ?_)
    · exact hx.elim (fun q => absurd q c1) (fun q => absurd q (Int32.not_lt.mpr c2))
    · exact J_throw0 C0 hF ["java/lang/RuntimeException", "java/lang/Exception"] ek56 ei56 eg56 (by decide) atB_X4_56 atA_X4_56 dX4_set_22 dX4_set_25 dX4_set_26 dX4_set_29

