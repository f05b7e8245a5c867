/-! the walk's words: a world in blocks, the context in one tuple -/
abbrev KT : Type := va_G × ClassId × ClassId × ClassId × ClassId
abbrev kI (K : KT) : ClassId := K.2.1
abbrev kZ (K : KT) : ClassId := K.2.2.1
abbrev kO (K : KT) : ClassId := K.2.2.2.1
abbrev kJ (K : KT) : ClassId := K.2.2.2.2
abbrev kT (K : KT) : List (ClassId × FieldType) := [(kI K, .int), (kZ K, .boolean), (kO K, .object RX0)]
abbrev JC : Type := KT × (Nat → Prop) × Heap × Nat × Program × Launch × Env × Room × State × MethodId × Array Value × List Frame × Method × Code × (State → Prop)
/-- links between nest mates: words that a callee's list can't hold -/
def nestL : List (String × Nat × MethodName) := [(RX4, 11, yX0_init), (RX4, 36, yX1_init), (RX0, 151, yX4_placeOf), (RX0, 47, yX3_init), (RX2, 17, yX0_init)]
def NW (s : State) : Prop := (∀ q ∈ nestL, va_Nw (.methodLinkNest q.1 q.2.1 q.2.2 RX4) s) ∧ va_AO RX0 s
def KK (K : KT) (s : State) : Prop := va_K K.1 vwCl (kT K) s ∧ NW s
theorem KK.warm {K : KT} {s U : State} (hW : s.WarmedH U.vm) (h : KK K s) : KK K U := ⟨va_K.moved hW.alike h.1, fun q hq => va_Nw.warmM hW (h.2.1 q hq), va_AO.moved hW.alike h.2.2⟩
def VP (K : KT) (ws : va_W) (H : Heap) : Prop := ∀ q ∈ ws, va_at K.1 vwCl q H
def VD (A : Nat → Prop) (ws : va_W) : Prop := (ws.map Prod.fst).Nodup ∧ ∀ q ∈ ws, A q.1
theorem VP_iff {K : KT} {ws : va_W} {H : Heap} : VP K ws H ↔ va_P K.1 vwCl ws H := by
  constructor
  · intro h k q hk
    exact h q (List.mem_of_getElem? hk)
  · intro h q hq
    obtain ⟨k, hk⟩ := List.getElem?_of_mem hq
    exact h k q hk
theorem VD_iff {A : Nat → Prop} {ws : va_W} : VD A ws ↔ va_D A ws := by
  constructor
  · intro h
    refine ⟨fun i j p q hi hj hpq => ?_, fun k q hk => h.2 q (List.mem_of_getElem? hk)⟩
    have h1 : (ws.map Prod.fst)[i]? = some p.1 := by rw [List.getElem?_map, hi]; rfl
    have h2 : (ws.map Prod.fst)[j]? = some q.1 := by rw [List.getElem?_map, hj]; rfl
    have hl : i < (ws.map Prod.fst).length := (List.getElem?_eq_some_iff.mp h1).1
    exact (List.getElem?_inj hl h.1).mp (by rw [h1, h2, hpq])
  · intro h
    refine ⟨List.pairwise_iff_getElem.mpr fun i j hi hj hij he => ?_, fun q hq => ?_⟩
    · have hi' : i < ws.length := by simpa using hi
      have hj' : j < ws.length := by simpa using hj
      have he' : ws[i].1 = ws[j].1 := by simpa using he
      have := h.1 i j ws[i] ws[j] (List.getElem?_eq_getElem hi') (List.getElem?_eq_getElem hj') he'
      omega
    · obtain ⟨k, hk⟩ := List.getElem?_of_mem hq
      exact h.2 k q hk
theorem perm_flat {a b : List va_W} (h : a.Perm b) : a.flatten.Perm b.flatten := by
  induction h with
  | nil => exact List.Perm.refl _
  | cons x _ ih =>
    simp only [List.flatten_cons]
    exact List.Perm.append_left _ ih
  | swap x y l =>
    simp only [List.flatten_cons, ← List.append_assoc]
    exact List.Perm.append_right _ List.perm_append_comm
  | trans _ _ h1 h2 => exact h1.trans h2
theorem VP.perm {K : KT} {w v : va_W} {H : Heap} (hp : w.Perm v) (h : VP K w H) : VP K v H := fun q hq => h q (hp.mem_iff.mpr hq)
theorem VD.perm {A : Nat → Prop} {w v : va_W} (hp : w.Perm v) (h : VD A w) : VD A v := ⟨(hp.map Prod.fst).nodup_iff.mp h.1, fun q hq => h.2 q (hp.mem_iff.mpr hq)⟩
theorem permI {bs b2 : List va_W} (is : List Nat) (n : Nat) (hl : bs.length = n) (h1 : is.isPerm (List.range n) = true) (h2 : is.map (fun i => bs[i]?) = b2.map some) : bs.Perm b2 := by
  subst hl
  have h := List.isPerm_iff.mp h1
  have e1 : (List.range bs.length).map (fun i => bs[i]?) = bs.map some := by
    apply List.ext_getElem?
    intro i
    by_cases hi : i < bs.length
    · simp [hi]
    · simp [hi]
  have h3 : (b2.map some).Perm (bs.map some) := by rw [← h2, ← e1]; exact h.map _
  have h4 := (h3.filterMap id)
  have f : ∀ l : List va_W, (l.map some).filterMap id = l := fun l => by rw [List.filterMap_map]; simp
  rw [f, f] at h4
  exact h4.symm
/-- the walk: from this world, these locals, this stack, at this place -/
def J (G : JC) (bs : List va_W) (lv : List (Nat × Value)) (cells slots pc : Nat) (st : List Value) : Prop := match G with
  | (K, A, H0, nL, p, l, e, R, s, m, args, below, meth, c, Q) => ∀ (H : Heap) (locs : List Loc) (ls : Array Slot), va_P K.1 vwCl bs.flatten H → va_D A bs.flatten → va_S A H0 H locs → lv_has ls nL lv → W p l e R s m args below meth c H locs cells slots Q (F0 m pc ls st)
/-- what stays -/
def Cx (G : JC) (K : KT) (l : Launch) (cc : ByteArray) (nL : Nat) (own : String) (Ts : List Cond) (rm : Room) : Prop := match G with
  | (K', A, H0, nL', p, l', e, R, s, m, args, below, meth, c, Q) => K' = K ∧ l' = l ∧ nL' = nL ∧ R = rm ∧ p.tables.exec = Jvm.exec ∧ c.code = cc ∧ c.maxLocals = nL ∧ s.vm.findClass own = some m.cls ∧ (∀ w ∈ Ts, w.before args s = true) ∧ KK K s ∧ ∀ q, H0.size ≤ q → A q
/-- what a method's end is -/
def Qof (K : KT) (w0 : List va_W) (Pst : Option Value → List va_W → Prop) (sz : Nat) : Array Value → State → Outcome → State → Prop := fun _ st oc t =>
  ∃ (rv : Option Value) (w1 : List va_W), oc = .returned rv ∧ Pst rv w1 ∧ va_P K.1 vwCl w1.flatten t.heap ∧ va_D (va_A w0.flatten sz) w1.flatten ∧ va_F (va_A w0.flatten sz) st t
def Pof (K : KT) (as : List Value) (w0 : List va_W) (sz : Nat) : Array Value → State → Prop := va_Pc as (fun U => U.heap.size = sz ∧ va_P K.1 vwCl w0.flatten U.heap ∧ KK K U ∧ va_D (fun _ => True) w0.flatten)
/-- a contract: from these arguments and this world, some answer and world with Pst -/
def CtP (l : Launch) (K : KT) (y : MethodName) (ws : List Cond) (rm : Room) (as : List Value) (w0 : List va_W) (Pst : Option Value → List va_W → Prop) : Prop :=
  ∀ sz : Nat, Met l y ws rm (Pof K as w0 sz) (Qof K w0 Pst sz) rm.cells rm.slots (va_A w0.flatten sz)
abbrev Ct (l : Launch) (K : KT) (y : MethodName) (ws : List Cond) (rm : Room) (as : List Value) (w0 : List va_W) (rv : Option Value) (w1 : List va_W) : Prop := CtP l K y ws rm as w0 (fun r w => r = rv ∧ w = w1)
def Fnl (G : JC) (rt : Option FieldType) (rm : Room) (w0 : List va_W) (Pst : Option Value → List va_W → Prop) : Prop := match G with
  | (K, A, H0, nL, p, l, e, R, s, m, args, below, meth, c, Q) => meth.sig.returnType = rt ∧ meth.locks = false ∧ A = va_A w0.flatten s.heap.size ∧ H0 = s.heap ∧ Q = MQ below (Qof K w0 Pst s.heap.size) args s rm.cells rm.slots (va_A w0.flatten s.heap.size)
/-- the method's own name is <init> -/
def IsInit (G : JC) : Prop := match G with
  | (K, A, H0, nL, p, l, e, R, s, m, args, below, meth, c, Q) => meth.name = "<init>"
theorem CtP_of {l : Launch} {K : KT} {y : MethodName} {ws ws' : List Cond} {rm : Room} {as : List Value} {w0 : List va_W} {Pst : Option Value → List va_W → Prop} {cc : ByteArray} {nL : Nat} {rt : Option FieldType} {own : String} {lv0 : List (Nat × Value)}
    (hy : plainName y.cls = true) (hw : ws = Cond.code y cc nL rt :: ws') (hlen : (lg_sl as).length ≤ nL) (hown : y.cls = own) (hlv : lv_args 0 as = lv0)
    (body : ∀ G : JC, Cx G K l cc nL own ws rm → Fnl G rt rm w0 Pst → (y.name = "<init>" → IsInit G) → J G w0 lv0 0 0 0 []) : CtP l K y ws rm as w0 Pst := by
  intro sz
  refine Met.ofW (cc := cc) (maxL := nL) (ret := rt) hy hw ?_
  intro p e s m args below meth c s₁ B hml hv
  obtain ⟨rfl, hsz, hP, hK, hD⟩ := hv
  subst hsz
  rw [lg_entry_eq]
  exact body (K, va_A w0.flatten s.heap.size, s.heap, nL, p, l, e, (headSpec ws rm).room, s, m, as.toArray, below, meth, c, MQ below (Qof K w0 Pst s.heap.size) as.toArray s rm.cells rm.slots (va_A w0.flatten s.heap.size))
    ⟨rfl, rfl, rfl, rfl, B.exec, B.bytes, hml, by rw [← hown]; exact findClass_of_methodNamed B.named, atoms_spec (ws := ws) B.pre, hK, fun q h => Or.inr h⟩ ⟨B.returns, B.notSynchronized, rfl, rfl, rfl⟩ (fun h => (name_of_methodNamed B.named B.method).1.trans h)
    s.heap [] _ hP hD.self va_S.rf (hlv ▸ lv_entry as hlen)
section JR
variable {K : KT} {l : Launch} {cc : ByteArray} {nL : Nat} {own : String} {Ts : List Cond} {rm : Room} {G : JC} {bs : List va_W} {lv : List (Nat × Value)} {cells slots pc : Nat} {st : List Value}

theorem J_ic (C0 : Cx G K l cc nL own Ts rm) {n : Int} (k : Nat) (hdg : decode cc pc = .ok (.iconst n, 1)) (hv : Int32.ofInt n = nI k := by decide) (kk : J G bs lv cells slots (pc + 1) (.int (nI k) :: st)) : J G bs lv cells slots (pc) (st) := by
  obtain ⟨K, A, H0, nL', p, l, e, R, s, m, args, below, meth, c, Q⟩ := G
  obtain ⟨rfl, rfl, rfl, rfl, hx, hb, hml, ho, hts, ⟨hK, hN⟩, hA⟩ := C0
  intro H locs ls hP hD hS hl
  exact lv_iconst hx hb hdg hv (kk H locs ls hP hD hS hl)
theorem J_icm1 (C0 : Cx G K l cc nL own Ts rm)  (hdg : decode cc pc = .ok (.iconst (-1), 1))  (kk : J G bs lv cells slots (pc + 1) (.int (-1) :: st)) : J G bs lv cells slots (pc) (st) := by
  obtain ⟨K, A, H0, nL', p, l, e, R, s, m, args, below, meth, c, Q⟩ := G
  obtain ⟨rfl, rfl, rfl, rfl, hx, hb, hml, ho, hts, ⟨hK, hN⟩, hA⟩ := C0
  intro H locs ls hP hD hS hl
  exact lv_iconst hx hb hdg (by decide) (kk H locs ls hP hD hS hl)
theorem J_bi (C0 : Cx G K l cc nL own Ts rm) {n : Int} (k : Nat) (hdg : decode cc pc = .ok (.bipush n, 2)) (hv : (Int8.ofInt n).toInt32 = nI k := by decide) (kk : J G bs lv cells slots (pc + 2) (.int (nI k) :: st)) : J G bs lv cells slots (pc) (st) := by
  obtain ⟨K, A, H0, nL', p, l, e, R, s, m, args, below, meth, c, Q⟩ := G
  obtain ⟨rfl, rfl, rfl, rfl, hx, hb, hml, ho, hts, ⟨hK, hN⟩, hA⟩ := C0
  intro H locs ls hP hD hS hl
  exact lv_bipush hx hb hdg hv (kk H locs ls hP hD hS hl)
theorem J_si (C0 : Cx G K l cc nL own Ts rm) {n : Int} (k : Nat) (hdg : decode cc pc = .ok (.sipush n, 3)) (hv : (Int16.ofInt n).toInt32 = nI k := by decide) (kk : J G bs lv cells slots (pc + 3) (.int (nI k) :: st)) : J G bs lv cells slots (pc) (st) := by
  obtain ⟨K, A, H0, nL', p, l, e, R, s, m, args, below, meth, c, Q⟩ := G
  obtain ⟨rfl, rfl, rfl, rfl, hx, hb, hml, ho, hts, ⟨hK, hN⟩, hA⟩ := C0
  intro H locs ls hP hD hS hl
  exact lv_sipush hx hb hdg hv (kk H locs ls hP hD hS hl)
theorem J_lc (C0 : Cx G K l cc nL own Ts rm) {n : Fin 2} {v : Int64} (hdg : decode cc pc = .ok (.lconst n, 1)) (hv : Int64.ofNat (n : Nat) = v) (kk : J G bs lv cells slots (pc + 1) (.long v :: st)) : J G bs lv cells slots (pc) (st) := by
  obtain ⟨K, A, H0, nL', p, l, e, R, s, m, args, below, meth, c, Q⟩ := G
  obtain ⟨rfl, rfl, rfl, rfl, hx, hb, hml, ho, hts, ⟨hK, hN⟩, hA⟩ := C0
  intro H locs ls hP hD hS hl
  exact lv_lconst hx hb hdg hv (kk H locs ls hP hD hS hl)
theorem J_dc0 (C0 : Cx G K l cc nL own Ts rm)  (hdg : decode cc pc = .ok (.dconst 0, 1))  (kk : J G bs lv cells slots (pc + 1) (.double 0 :: st)) : J G bs lv cells slots (pc) (st) := by
  obtain ⟨K, A, H0, nL', p, l, e, R, s, m, args, below, meth, c, Q⟩ := G
  obtain ⟨rfl, rfl, rfl, rfl, hx, hb, hml, ho, hts, ⟨hK, hN⟩, hA⟩ := C0
  intro H locs ls hP hD hS hl
  exact lv_dconst0 hx hb hdg (kk H locs ls hP hD hS hl)
theorem J_dc1 (C0 : Cx G K l cc nL own Ts rm)  (hdg : decode cc pc = .ok (.dconst 1, 1))  (kk : J G bs lv cells slots (pc + 1) (.double 0x3ff0000000000000 :: st)) : J G bs lv cells slots (pc) (st) := by
  obtain ⟨K, A, H0, nL', p, l, e, R, s, m, args, below, meth, c, Q⟩ := G
  obtain ⟨rfl, rfl, rfl, rfl, hx, hb, hml, ho, hts, ⟨hK, hN⟩, hA⟩ := C0
  intro H locs ls hP hD hS hl
  exact lv_dconst1 hx hb hdg (kk H locs ls hP hD hS hl)
theorem J_iln (C0 : Cx G K l cc nL own Ts rm) {k : Fin 4} {i : Nat} {x : Int32} (j : Nat) (hdg : decode cc pc = .ok (.iload_n k, 1)) (hi : (k : Nat) = i := by rfl) (hj : lv[j]? = some (i, .int x) := by rfl) (kk : J G bs lv cells slots (pc + 1) (.int x :: st)) : J G bs lv cells slots (pc) (st) := by
  obtain ⟨K, A, H0, nL', p, l, e, R, s, m, args, below, meth, c, Q⟩ := G
  obtain ⟨rfl, rfl, rfl, rfl, hx, hb, hml, ho, hts, ⟨hK, hN⟩, hA⟩ := C0
  intro H locs ls hP hD hS hl
  exact lv_iload_n hx hb hdg hi (lv_at hl j hj) (kk H locs ls hP hD hS hl)
theorem J_il (C0 : Cx G K l cc nL own Ts rm) {i : Nat} {x : Int32} (j : Nat) (hdg : decode cc pc = .ok (.iload i, 2)) (hj : lv[j]? = some (i, .int x) := by rfl) (kk : J G bs lv cells slots (pc + 2) (.int x :: st)) : J G bs lv cells slots (pc) (st) := by
  obtain ⟨K, A, H0, nL', p, l, e, R, s, m, args, below, meth, c, Q⟩ := G
  obtain ⟨rfl, rfl, rfl, rfl, hx, hb, hml, ho, hts, ⟨hK, hN⟩, hA⟩ := C0
  intro H locs ls hP hD hS hl
  exact lv_iload hx hb hdg (lv_at hl j hj) (kk H locs ls hP hD hS hl)
theorem J_isn (C0 : Cx G K l cc nL own Ts rm) {k : Fin 4} {i : Nat} {x : Int32} (lv' : List (Nat × Value)) (hdg : decode cc pc = .ok (.istore_n k, 1)) (hi : (k : Nat) = i := by rfl) (hn : i < nL := by decide) (hl2 : (i, Value.int x) :: lv.filter (fun q => !(q.1 == i) && !(q.1 + 1 == i && q.2.category == 2)) = lv' := by rfl) (kk : J G bs lv' cells slots (pc + 1) (st)) : J G bs lv cells slots (pc) (.int x :: st) := by
  obtain ⟨K, A, H0, nL', p, l, e, R, s, m, args, below, meth, c, Q⟩ := G
  obtain ⟨rfl, rfl, rfl, rfl, hx, hb, hml, ho, hts, ⟨hK, hN⟩, hA⟩ := C0
  intro H locs ls hP hD hS hl
  exact lv_istore_n hx hb hdg hi hl hn hl2 (fun ls hl => kk H locs ls hP hD hS hl)
theorem J_is (C0 : Cx G K l cc nL own Ts rm) {i : Nat} {x : Int32} (lv' : List (Nat × Value)) (hdg : decode cc pc = .ok (.istore i, 2)) (hn : i < nL := by decide) (hl2 : (i, Value.int x) :: lv.filter (fun q => !(q.1 == i) && !(q.1 + 1 == i && q.2.category == 2)) = lv' := by rfl) (kk : J G bs lv' cells slots (pc + 2) (st)) : J G bs lv cells slots (pc) (.int x :: st) := by
  obtain ⟨K, A, H0, nL', p, l, e, R, s, m, args, below, meth, c, Q⟩ := G
  obtain ⟨rfl, rfl, rfl, rfl, hx, hb, hml, ho, hts, ⟨hK, hN⟩, hA⟩ := C0
  intro H locs ls hP hD hS hl
  exact lv_istore hx hb hdg hl hn hl2 (fun ls hl => kk H locs ls hP hD hS hl)
theorem J_lln (C0 : Cx G K l cc nL own Ts rm) {k : Fin 4} {i : Nat} {x : Int64} (j : Nat) (hdg : decode cc pc = .ok (.lload_n k, 1)) (hi : (k : Nat) = i := by rfl) (hj : lv[j]? = some (i, .long x) := by rfl) (kk : J G bs lv cells slots (pc + 1) (.long x :: st)) : J G bs lv cells slots (pc) (st) := by
  obtain ⟨K, A, H0, nL', p, l, e, R, s, m, args, below, meth, c, Q⟩ := G
  obtain ⟨rfl, rfl, rfl, rfl, hx, hb, hml, ho, hts, ⟨hK, hN⟩, hA⟩ := C0
  intro H locs ls hP hD hS hl
  exact lv_lload_n hx hb hdg hi (lv_at hl j hj) (kk H locs ls hP hD hS hl)
theorem J_ll (C0 : Cx G K l cc nL own Ts rm) {i : Nat} {x : Int64} (j : Nat) (hdg : decode cc pc = .ok (.lload i, 2)) (hj : lv[j]? = some (i, .long x) := by rfl) (kk : J G bs lv cells slots (pc + 2) (.long x :: st)) : J G bs lv cells slots (pc) (st) := by
  obtain ⟨K, A, H0, nL', p, l, e, R, s, m, args, below, meth, c, Q⟩ := G
  obtain ⟨rfl, rfl, rfl, rfl, hx, hb, hml, ho, hts, ⟨hK, hN⟩, hA⟩ := C0
  intro H locs ls hP hD hS hl
  exact lv_lload hx hb hdg (lv_at hl j hj) (kk H locs ls hP hD hS hl)
theorem J_lsn (C0 : Cx G K l cc nL own Ts rm) {k : Fin 4} {i : Nat} {x : Int64} (lv' : List (Nat × Value)) (hdg : decode cc pc = .ok (.lstore_n k, 1)) (hi : (k : Nat) = i := by rfl) (hn : i + 1 < nL := by decide) (hl2 : (i, Value.long x) :: lv.filter (fun q => !(q.1 == i) && (!(q.1 == i + 1) && !(q.1 + 1 == i && q.2.category == 2))) = lv' := by rfl) (kk : J G bs lv' cells slots (pc + 1) (st)) : J G bs lv cells slots (pc) (.long x :: st) := by
  obtain ⟨K, A, H0, nL', p, l, e, R, s, m, args, below, meth, c, Q⟩ := G
  obtain ⟨rfl, rfl, rfl, rfl, hx, hb, hml, ho, hts, ⟨hK, hN⟩, hA⟩ := C0
  intro H locs ls hP hD hS hl
  exact lv_lstore_n hx hb hdg hi hl hn hl2 (fun ls hl => kk H locs ls hP hD hS hl)
theorem J_ls (C0 : Cx G K l cc nL own Ts rm) {i : Nat} {x : Int64} (lv' : List (Nat × Value)) (hdg : decode cc pc = .ok (.lstore i, 2)) (hn : i + 1 < nL := by decide) (hl2 : (i, Value.long x) :: lv.filter (fun q => !(q.1 == i) && (!(q.1 == i + 1) && !(q.1 + 1 == i && q.2.category == 2))) = lv' := by rfl) (kk : J G bs lv' cells slots (pc + 2) (st)) : J G bs lv cells slots (pc) (.long x :: st) := by
  obtain ⟨K, A, H0, nL', p, l, e, R, s, m, args, below, meth, c, Q⟩ := G
  obtain ⟨rfl, rfl, rfl, rfl, hx, hb, hml, ho, hts, ⟨hK, hN⟩, hA⟩ := C0
  intro H locs ls hP hD hS hl
  exact lv_lstore hx hb hdg hl hn hl2 (fun ls hl => kk H locs ls hP hD hS hl)
theorem J_dln (C0 : Cx G K l cc nL own Ts rm) {k : Fin 4} {i : Nat} {x : UInt64} (j : Nat) (hdg : decode cc pc = .ok (.dload_n k, 1)) (hi : (k : Nat) = i := by rfl) (hj : lv[j]? = some (i, .double x) := by rfl) (kk : J G bs lv cells slots (pc + 1) (.double x :: st)) : J G bs lv cells slots (pc) (st) := by
  obtain ⟨K, A, H0, nL', p, l, e, R, s, m, args, below, meth, c, Q⟩ := G
  obtain ⟨rfl, rfl, rfl, rfl, hx, hb, hml, ho, hts, ⟨hK, hN⟩, hA⟩ := C0
  intro H locs ls hP hD hS hl
  exact lv_dload_n hx hb hdg hi (lv_at hl j hj) (kk H locs ls hP hD hS hl)
theorem J_dl (C0 : Cx G K l cc nL own Ts rm) {i : Nat} {x : UInt64} (j : Nat) (hdg : decode cc pc = .ok (.dload i, 2)) (hj : lv[j]? = some (i, .double x) := by rfl) (kk : J G bs lv cells slots (pc + 2) (.double x :: st)) : J G bs lv cells slots (pc) (st) := by
  obtain ⟨K, A, H0, nL', p, l, e, R, s, m, args, below, meth, c, Q⟩ := G
  obtain ⟨rfl, rfl, rfl, rfl, hx, hb, hml, ho, hts, ⟨hK, hN⟩, hA⟩ := C0
  intro H locs ls hP hD hS hl
  exact lv_dload hx hb hdg (lv_at hl j hj) (kk H locs ls hP hD hS hl)
theorem J_dsn (C0 : Cx G K l cc nL own Ts rm) {k : Fin 4} {i : Nat} {x : UInt64} (lv' : List (Nat × Value)) (hdg : decode cc pc = .ok (.dstore_n k, 1)) (hi : (k : Nat) = i := by rfl) (hn : i + 1 < nL := by decide) (hl2 : (i, Value.double x) :: lv.filter (fun q => !(q.1 == i) && (!(q.1 == i + 1) && !(q.1 + 1 == i && q.2.category == 2))) = lv' := by rfl) (kk : J G bs lv' cells slots (pc + 1) (st)) : J G bs lv cells slots (pc) (.double x :: st) := by
  obtain ⟨K, A, H0, nL', p, l, e, R, s, m, args, below, meth, c, Q⟩ := G
  obtain ⟨rfl, rfl, rfl, rfl, hx, hb, hml, ho, hts, ⟨hK, hN⟩, hA⟩ := C0
  intro H locs ls hP hD hS hl
  exact lv_dstore_n hx hb hdg hi hl hn hl2 (fun ls hl => kk H locs ls hP hD hS hl)
theorem J_ds (C0 : Cx G K l cc nL own Ts rm) {i : Nat} {x : UInt64} (lv' : List (Nat × Value)) (hdg : decode cc pc = .ok (.dstore i, 2)) (hn : i + 1 < nL := by decide) (hl2 : (i, Value.double x) :: lv.filter (fun q => !(q.1 == i) && (!(q.1 == i + 1) && !(q.1 + 1 == i && q.2.category == 2))) = lv' := by rfl) (kk : J G bs lv' cells slots (pc + 2) (st)) : J G bs lv cells slots (pc) (.double x :: st) := by
  obtain ⟨K, A, H0, nL', p, l, e, R, s, m, args, below, meth, c, Q⟩ := G
  obtain ⟨rfl, rfl, rfl, rfl, hx, hb, hml, ho, hts, ⟨hK, hN⟩, hA⟩ := C0
  intro H locs ls hP hD hS hl
  exact lv_dstore hx hb hdg hl hn hl2 (fun ls hl => kk H locs ls hP hD hS hl)
theorem J_aln (C0 : Cx G K l cc nL own Ts rm) {k : Fin 4} {i : Nat} {x : Nat} (j : Nat) (hdg : decode cc pc = .ok (.aload_n k, 1)) (hi : (k : Nat) = i := by rfl) (hj : lv[j]? = some (i, .ref x) := by rfl) (kk : J G bs lv cells slots (pc + 1) (.ref x :: st)) : J G bs lv cells slots (pc) (st) := by
  obtain ⟨K, A, H0, nL', p, l, e, R, s, m, args, below, meth, c, Q⟩ := G
  obtain ⟨rfl, rfl, rfl, rfl, hx, hb, hml, ho, hts, ⟨hK, hN⟩, hA⟩ := C0
  intro H locs ls hP hD hS hl
  exact lv_aload_n hx hb hdg hi (lv_at hl j hj) (kk H locs ls hP hD hS hl)
theorem J_al (C0 : Cx G K l cc nL own Ts rm) {i : Nat} {x : Nat} (j : Nat) (hdg : decode cc pc = .ok (.aload i, 2)) (hj : lv[j]? = some (i, .ref x) := by rfl) (kk : J G bs lv cells slots (pc + 2) (.ref x :: st)) : J G bs lv cells slots (pc) (st) := by
  obtain ⟨K, A, H0, nL', p, l, e, R, s, m, args, below, meth, c, Q⟩ := G
  obtain ⟨rfl, rfl, rfl, rfl, hx, hb, hml, ho, hts, ⟨hK, hN⟩, hA⟩ := C0
  intro H locs ls hP hD hS hl
  exact lv_aload hx hb hdg (lv_at hl j hj) (kk H locs ls hP hD hS hl)
theorem J_asn (C0 : Cx G K l cc nL own Ts rm) {k : Fin 4} {i : Nat} {x : Nat} (lv' : List (Nat × Value)) (hdg : decode cc pc = .ok (.astore_n k, 1)) (hi : (k : Nat) = i := by rfl) (hn : i < nL := by decide) (hl2 : (i, Value.ref x) :: lv.filter (fun q => !(q.1 == i) && !(q.1 + 1 == i && q.2.category == 2)) = lv' := by rfl) (kk : J G bs lv' cells slots (pc + 1) (st)) : J G bs lv cells slots (pc) (.ref x :: st) := by
  obtain ⟨K, A, H0, nL', p, l, e, R, s, m, args, below, meth, c, Q⟩ := G
  obtain ⟨rfl, rfl, rfl, rfl, hx, hb, hml, ho, hts, ⟨hK, hN⟩, hA⟩ := C0
  intro H locs ls hP hD hS hl
  exact lv_astore_n hx hb hdg hi hl hn hl2 (fun ls hl => kk H locs ls hP hD hS hl)
theorem J_as (C0 : Cx G K l cc nL own Ts rm) {i : Nat} {x : Nat} (lv' : List (Nat × Value)) (hdg : decode cc pc = .ok (.astore i, 2)) (hn : i < nL := by decide) (hl2 : (i, Value.ref x) :: lv.filter (fun q => !(q.1 == i) && !(q.1 + 1 == i && q.2.category == 2)) = lv' := by rfl) (kk : J G bs lv' cells slots (pc + 2) (st)) : J G bs lv cells slots (pc) (.ref x :: st) := by
  obtain ⟨K, A, H0, nL', p, l, e, R, s, m, args, below, meth, c, Q⟩ := G
  obtain ⟨rfl, rfl, rfl, rfl, hx, hb, hml, ho, hts, ⟨hK, hN⟩, hA⟩ := C0
  intro H locs ls hP hD hS hl
  exact lv_astore hx hb hdg hl hn hl2 (fun ls hl => kk H locs ls hP hD hS hl)
theorem J_iinc (C0 : Cx G K l cc nL own Ts rm) {i : Nat} {n : Int} {x v : Int32} (j : Nat) (lv' : List (Nat × Value)) (hdg : decode cc pc = .ok (.iinc i n, 3)) (hv : x + Int32.ofInt n = v) (hj : lv[j]? = some (i, .int x) := by rfl) (hn : i < nL := by decide) (hl2 : (i, Value.int v) :: lv.filter (fun q => !(q.1 == i) && !(q.1 + 1 == i && q.2.category == 2)) = lv' := by rfl) (kk : J G bs lv' cells slots (pc + 3) (st)) : J G bs lv cells slots (pc) (st) := by
  obtain ⟨K, A, H0, nL', p, l, e, R, s, m, args, below, meth, c, Q⟩ := G
  obtain ⟨rfl, rfl, rfl, rfl, hx, hb, hml, ho, hts, ⟨hK, hN⟩, hA⟩ := C0
  intro H locs ls hP hD hS hl
  exact lv_iinc hx hb hdg hl hj hv hn hl2 (fun ls hl => kk H locs ls hP hD hS hl)
theorem J_iadd (C0 : Cx G K l cc nL own Ts rm) {x y : Int32} (hdg : decode cc pc = .ok (.iadd, 1))  (kk : J G bs lv cells slots (pc + 1) (.int (x + y) :: st)) : J G bs lv cells slots (pc) (.int y :: .int x :: st) := by
  obtain ⟨K, A, H0, nL', p, l, e, R, s, m, args, below, meth, c, Q⟩ := G
  obtain ⟨rfl, rfl, rfl, rfl, hx, hb, hml, ho, hts, ⟨hK, hN⟩, hA⟩ := C0
  intro H locs ls hP hD hS hl
  exact lv_iadd hx hb hdg (kk H locs ls hP hD hS hl)
theorem J_isub (C0 : Cx G K l cc nL own Ts rm) {x y : Int32} (hdg : decode cc pc = .ok (.isub, 1))  (kk : J G bs lv cells slots (pc + 1) (.int (x - y) :: st)) : J G bs lv cells slots (pc) (.int y :: .int x :: st) := by
  obtain ⟨K, A, H0, nL', p, l, e, R, s, m, args, below, meth, c, Q⟩ := G
  obtain ⟨rfl, rfl, rfl, rfl, hx, hb, hml, ho, hts, ⟨hK, hN⟩, hA⟩ := C0
  intro H locs ls hP hD hS hl
  exact lv_isub hx hb hdg (kk H locs ls hP hD hS hl)
theorem J_imul (C0 : Cx G K l cc nL own Ts rm) {x y : Int32} (hdg : decode cc pc = .ok (.imul, 1))  (kk : J G bs lv cells slots (pc + 1) (.int (x * y) :: st)) : J G bs lv cells slots (pc) (.int y :: .int x :: st) := by
  obtain ⟨K, A, H0, nL', p, l, e, R, s, m, args, below, meth, c, Q⟩ := G
  obtain ⟨rfl, rfl, rfl, rfl, hx, hb, hml, ho, hts, ⟨hK, hN⟩, hA⟩ := C0
  intro H locs ls hP hD hS hl
  exact lv_imul hx hb hdg (kk H locs ls hP hD hS hl)
theorem J_iand (C0 : Cx G K l cc nL own Ts rm) {x y : Int32} (hdg : decode cc pc = .ok (.iand, 1))  (kk : J G bs lv cells slots (pc + 1) (.int (x &&& y) :: st)) : J G bs lv cells slots (pc) (.int y :: .int x :: st) := by
  obtain ⟨K, A, H0, nL', p, l, e, R, s, m, args, below, meth, c, Q⟩ := G
  obtain ⟨rfl, rfl, rfl, rfl, hx, hb, hml, ho, hts, ⟨hK, hN⟩, hA⟩ := C0
  intro H locs ls hP hD hS hl
  exact lv_iand hx hb hdg (kk H locs ls hP hD hS hl)
theorem J_idiv (C0 : Cx G K l cc nL own Ts rm) {x y : Int32} (hdg : decode cc pc = .ok (.idiv, 1)) (hne : ¬ y = 0) (kk : J G bs lv cells slots (pc + 1) (.int (x / y) :: st)) : J G bs lv cells slots (pc) (.int y :: .int x :: st) := by
  obtain ⟨K, A, H0, nL', p, l, e, R, s, m, args, below, meth, c, Q⟩ := G
  obtain ⟨rfl, rfl, rfl, rfl, hx, hb, hml, ho, hts, ⟨hK, hN⟩, hA⟩ := C0
  intro H locs ls hP hD hS hl
  exact lv_idiv hx hb hdg hne (kk H locs ls hP hD hS hl)
theorem J_irem (C0 : Cx G K l cc nL own Ts rm) {x y : Int32} (hdg : decode cc pc = .ok (.irem, 1)) (hne : ¬ y = 0) (kk : J G bs lv cells slots (pc + 1) (.int (x - x / y * y) :: st)) : J G bs lv cells slots (pc) (.int y :: .int x :: st) := by
  obtain ⟨K, A, H0, nL', p, l, e, R, s, m, args, below, meth, c, Q⟩ := G
  obtain ⟨rfl, rfl, rfl, rfl, hx, hb, hml, ho, hts, ⟨hK, hN⟩, hA⟩ := C0
  intro H locs ls hP hD hS hl
  exact lv_irem hx hb hdg hne (kk H locs ls hP hD hS hl)
theorem J_ladd (C0 : Cx G K l cc nL own Ts rm) {x y : Int64} (hdg : decode cc pc = .ok (.ladd, 1))  (kk : J G bs lv cells slots (pc + 1) (.long (x + y) :: st)) : J G bs lv cells slots (pc) (.long y :: .long x :: st) := by
  obtain ⟨K, A, H0, nL', p, l, e, R, s, m, args, below, meth, c, Q⟩ := G
  obtain ⟨rfl, rfl, rfl, rfl, hx, hb, hml, ho, hts, ⟨hK, hN⟩, hA⟩ := C0
  intro H locs ls hP hD hS hl
  exact lv_ladd hx hb hdg (kk H locs ls hP hD hS hl)
theorem J_lsub (C0 : Cx G K l cc nL own Ts rm) {x y : Int64} (hdg : decode cc pc = .ok (.lsub, 1))  (kk : J G bs lv cells slots (pc + 1) (.long (x - y) :: st)) : J G bs lv cells slots (pc) (.long y :: .long x :: st) := by
  obtain ⟨K, A, H0, nL', p, l, e, R, s, m, args, below, meth, c, Q⟩ := G
  obtain ⟨rfl, rfl, rfl, rfl, hx, hb, hml, ho, hts, ⟨hK, hN⟩, hA⟩ := C0
  intro H locs ls hP hD hS hl
  exact lv_lsub hx hb hdg (kk H locs ls hP hD hS hl)
theorem J_lmul (C0 : Cx G K l cc nL own Ts rm) {x y : Int64} (hdg : decode cc pc = .ok (.lmul, 1))  (kk : J G bs lv cells slots (pc + 1) (.long (x * y) :: st)) : J G bs lv cells slots (pc) (.long y :: .long x :: st) := by
  obtain ⟨K, A, H0, nL', p, l, e, R, s, m, args, below, meth, c, Q⟩ := G
  obtain ⟨rfl, rfl, rfl, rfl, hx, hb, hml, ho, hts, ⟨hK, hN⟩, hA⟩ := C0
  intro H locs ls hP hD hS hl
  exact lv_lmul hx hb hdg (kk H locs ls hP hD hS hl)
theorem J_i2l (C0 : Cx G K l cc nL own Ts rm) {x : Int32} (hdg : decode cc pc = .ok (.i2l, 1))  (kk : J G bs lv cells slots (pc + 1) (.long x.toInt64 :: st)) : J G bs lv cells slots (pc) (.int x :: st) := by
  obtain ⟨K, A, H0, nL', p, l, e, R, s, m, args, below, meth, c, Q⟩ := G
  obtain ⟨rfl, rfl, rfl, rfl, hx, hb, hml, ho, hts, ⟨hK, hN⟩, hA⟩ := C0
  intro H locs ls hP hD hS hl
  exact lv_i2l hx hb hdg rfl (kk H locs ls hP hD hS hl)
theorem J_dup (C0 : Cx G K l cc nL own Ts rm) {v : Value} (hdg : decode cc pc = .ok (.dup, 1)) (hv : v.category = 1 := by rfl) (kk : J G bs lv cells slots (pc + 1) (v :: v :: st)) : J G bs lv cells slots (pc) (v :: st) := by
  obtain ⟨K, A, H0, nL', p, l, e, R, s, m, args, below, meth, c, Q⟩ := G
  obtain ⟨rfl, rfl, rfl, rfl, hx, hb, hml, ho, hts, ⟨hK, hN⟩, hA⟩ := C0
  intro H locs ls hP hD hS hl
  exact lv_dup hx hb hdg hv (kk H locs ls hP hD hS hl)
theorem J_pop (C0 : Cx G K l cc nL own Ts rm) {v : Value} (hdg : decode cc pc = .ok (.pop, 1)) (hv : v.category = 1 := by rfl) (kk : J G bs lv cells slots (pc + 1) (st)) : J G bs lv cells slots (pc) (v :: st) := by
  obtain ⟨K, A, H0, nL', p, l, e, R, s, m, args, below, meth, c, Q⟩ := G
  obtain ⟨rfl, rfl, rfl, rfl, hx, hb, hml, ho, hts, ⟨hK, hN⟩, hA⟩ := C0
  intro H locs ls hP hD hS hl
  exact lv_pop hx hb hdg hv (kk H locs ls hP hD hS hl)
theorem J_dup2 (C0 : Cx G K l cc nL own Ts rm) {v u : Value} (hdg : decode cc pc = .ok (.dup2, 1)) (hv : v.category = 1 := by rfl) (hu : u.category = 1 := by rfl) (kk : J G bs lv cells slots (pc + 1) (v :: u :: v :: u :: st)) : J G bs lv cells slots (pc) (v :: u :: st) := by
  obtain ⟨K, A, H0, nL', p, l, e, R, s, m, args, below, meth, c, Q⟩ := G
  obtain ⟨rfl, rfl, rfl, rfl, hx, hb, hml, ho, hts, ⟨hK, hN⟩, hA⟩ := C0
  intro H locs ls hP hD hS hl
  exact lv_dup2_11 hx hb hdg hv hu (kk H locs ls hP hD hS hl)
theorem J_i2d (C0 : Cx G K l cc nL own Ts rm) {x : Int32} (hdg : decode cc pc = .ok (.i2d, 1))  (kk : J G bs lv cells slots (pc + 1) (.double (FP.i2d x) :: st)) : J G bs lv cells slots (pc) (.int x :: st) := by
  obtain ⟨K, A, H0, nL', p, l, e, R, s, m, args, below, meth, c, Q⟩ := G
  obtain ⟨rfl, rfl, rfl, rfl, hx, hb, hml, ho, hts, ⟨hK, hN⟩, hA⟩ := C0
  intro H locs ls hP hD hS hl
  exact lv_i2d hx hb hdg (kk H locs ls hP hD hS hl)
theorem J_d2l (C0 : Cx G K l cc nL own Ts rm) {x : UInt64} (hdg : decode cc pc = .ok (.d2l, 1))  (kk : J G bs lv cells slots (pc + 1) (.long (FP.d2l x) :: st)) : J G bs lv cells slots (pc) (.double x :: st) := by
  obtain ⟨K, A, H0, nL', p, l, e, R, s, m, args, below, meth, c, Q⟩ := G
  obtain ⟨rfl, rfl, rfl, rfl, hx, hb, hml, ho, hts, ⟨hK, hN⟩, hA⟩ := C0
  intro H locs ls hP hD hS hl
  exact lv_d2l hx hb hdg (kk H locs ls hP hD hS hl)
theorem J_ddiv (C0 : Cx G K l cc nL own Ts rm) {x y : UInt64} (hdg : decode cc pc = .ok (.ddiv, 1)) (hne : vf_n64 (FP.ddiv x y)) (kk : J G bs lv cells slots (pc + 1) (.double (FP.ddiv x y) :: st)) : J G bs lv cells slots (pc) (.double y :: .double x :: st) := by
  obtain ⟨K, A, H0, nL', p, l, e, R, s, m, args, below, meth, c, Q⟩ := G
  obtain ⟨rfl, rfl, rfl, rfl, hx, hb, hml, ho, hts, ⟨hK, hN⟩, hA⟩ := C0
  intro H locs ls hP hD hS hl
  exact lv_ddiv hx hb hdg hne (kk H locs ls hP hD hS hl)
theorem J_dmul (C0 : Cx G K l cc nL own Ts rm) {x y : UInt64} (hdg : decode cc pc = .ok (.dmul, 1)) (hne : vf_n64 (FP.dmul x y)) (kk : J G bs lv cells slots (pc + 1) (.double (FP.dmul x y) :: st)) : J G bs lv cells slots (pc) (.double y :: .double x :: st) := by
  obtain ⟨K, A, H0, nL', p, l, e, R, s, m, args, below, meth, c, Q⟩ := G
  obtain ⟨rfl, rfl, rfl, rfl, hx, hb, hml, ho, hts, ⟨hK, hN⟩, hA⟩ := C0
  intro H locs ls hP hD hS hl
  exact lv_dmul hx hb hdg hne (kk H locs ls hP hD hS hl)
theorem J_dsub (C0 : Cx G K l cc nL own Ts rm) {x y : UInt64} (hdg : decode cc pc = .ok (.dsub, 1)) (hne : vf_n64 (FP.dsub x y)) (kk : J G bs lv cells slots (pc + 1) (.double (FP.dsub x y) :: st)) : J G bs lv cells slots (pc) (.double y :: .double x :: st) := by
  obtain ⟨K, A, H0, nL', p, l, e, R, s, m, args, below, meth, c, Q⟩ := G
  obtain ⟨rfl, rfl, rfl, rfl, hx, hb, hml, ho, hts, ⟨hK, hN⟩, hA⟩ := C0
  intro H locs ls hP hD hS hl
  exact lv_dsub hx hb hdg hne (kk H locs ls hP hD hS hl)
theorem J_iaddN (C0 : Cx G K l cc nL own Ts rm) {a b : Nat}  (hdg : decode cc pc = .ok (.iadd, 1)) (kk : J G bs lv cells slots (pc + 1) (.int (nI (a + b)) :: st)) : J G bs lv cells slots (pc) (.int (nI b) :: .int (nI a) :: st) := by
  have kk2 := kk
  rw [← nI_add a b] at kk2
  exact J_iadd C0 hdg kk2
theorem J_imulN (C0 : Cx G K l cc nL own Ts rm) {a b : Nat}  (hdg : decode cc pc = .ok (.imul, 1)) (kk : J G bs lv cells slots (pc + 1) (.int (nI (a * b)) :: st)) : J G bs lv cells slots (pc) (.int (nI b) :: .int (nI a) :: st) := by
  have kk2 := kk
  rw [← pk_mul a b] at kk2
  exact J_imul C0 hdg kk2
theorem J_isubN (C0 : Cx G K l cc nL own Ts rm) {a b : Nat} (hab : b ≤ a) (hdg : decode cc pc = .ok (.isub, 1)) (kk : J G bs lv cells slots (pc + 1) (.int (nI (a - b)) :: st)) : J G bs lv cells slots (pc) (.int (nI b) :: .int (nI a) :: st) := by
  have kk2 := kk
  rw [← pk_sub hab] at kk2
  exact J_isub C0 hdg kk2
theorem J_idivN (C0 : Cx G K l cc nL own Ts rm) {a b : Nat} (h0 : 0 < b) (ha : a < 2 ^ 31) (hb2 : b < 2 ^ 31) (hdg : decode cc pc = .ok (.idiv, 1)) (kk : J G bs lv cells slots (pc + 1) (.int (nI (a / b)) :: st)) : J G bs lv cells slots (pc) (.int (nI b) :: .int (nI a) :: st) := by
  have kk2 := kk
  rw [← pk_div ha h0 hb2] at kk2
  exact J_idiv C0 hdg (nI_ne0 h0 hb2) kk2
theorem J_iremN (C0 : Cx G K l cc nL own Ts rm) {a b : Nat} (h0 : 0 < b) (ha : a < 2 ^ 31) (hb2 : b < 2 ^ 31) (hdg : decode cc pc = .ok (.irem, 1)) (kk : J G bs lv cells slots (pc + 1) (.int (nI (a % b)) :: st)) : J G bs lv cells slots (pc) (.int (nI b) :: .int (nI a) :: st) := by
  have kk2 := kk
  rw [← pk_rem ha h0 hb2] at kk2
  exact J_irem C0 hdg (nI_ne0 h0 hb2) kk2
theorem J_iincN (C0 : Cx G K l cc nL own Ts rm) {i a n : Nat} (j : Nat) (lv' : List (Nat × Value)) (hdg : decode cc pc = .ok (.iinc i (n : Int), 3)) (hj : lv[j]? = some (i, .int (nI a)) := by rfl) (hn : i < nL := by decide) (hl2 : (i, Value.int (nI (a + n))) :: lv.filter (fun q => !(q.1 == i) && !(q.1 + 1 == i && q.2.category == 2)) = lv' := by rfl) (kk : J G bs lv' cells slots (pc + 3) (st)) : J G bs lv cells slots (pc) (st) :=
  J_iinc C0 j lv' hdg (by rw [Int32.ofInt_eq_ofNat]; exact nI_add a n) hj hn hl2 kk
theorem J_icmpeq (C0 : Cx G K l cc nL own Ts rm) {x y : Int32} {off : Int} (tgt : Nat) (hdg : decode cc pc = .ok (.if_icmp .eq off, 3)) (ht : (pc : Int) + off = (tgt : Int) := by decide) (kt : x = y → J G bs lv cells slots (tgt) (st)) (kf : ¬ x = y → J G bs lv cells slots (pc + 3) (st)) : J G bs lv cells slots (pc) (.int y :: .int x :: st) := by
  obtain ⟨K, A, H0, nL', p, l, e, R, s, m, args, below, meth, c, Q⟩ := G
  obtain ⟨rfl, rfl, rfl, rfl, hx, hb, hml, ho, hts, ⟨hK, hN⟩, hA⟩ := C0
  intro H locs ls hP hD hS hl
  exact lv_icmp_eq hx hb hdg ht (fun h => kt h H locs ls hP hD hS hl) (fun h => kf h H locs ls hP hD hS hl)
theorem J_ifeq (C0 : Cx G K l cc nL own Ts rm) {x : Int32} {off : Int} (tgt : Nat) (hdg : decode cc pc = .ok (.ifCond .eq off, 3)) (ht : (pc : Int) + off = (tgt : Int) := by decide) (kt : x = 0 → J G bs lv cells slots (tgt) (st)) (kf : ¬ x = 0 → J G bs lv cells slots (pc + 3) (st)) : J G bs lv cells slots (pc) (.int x :: st) := by
  obtain ⟨K, A, H0, nL', p, l, e, R, s, m, args, below, meth, c, Q⟩ := G
  obtain ⟨rfl, rfl, rfl, rfl, hx, hb, hml, ho, hts, ⟨hK, hN⟩, hA⟩ := C0
  intro H locs ls hP hD hS hl
  exact lv_if_eq hx hb hdg ht (fun h => kt h H locs ls hP hD hS hl) (fun h => kf h H locs ls hP hD hS hl)
theorem J_icmpne (C0 : Cx G K l cc nL own Ts rm) {x y : Int32} {off : Int} (tgt : Nat) (hdg : decode cc pc = .ok (.if_icmp .ne off, 3)) (ht : (pc : Int) + off = (tgt : Int) := by decide) (kt : ¬ x = y → J G bs lv cells slots (tgt) (st)) (kf : x = y → J G bs lv cells slots (pc + 3) (st)) : J G bs lv cells slots (pc) (.int y :: .int x :: st) := by
  obtain ⟨K, A, H0, nL', p, l, e, R, s, m, args, below, meth, c, Q⟩ := G
  obtain ⟨rfl, rfl, rfl, rfl, hx, hb, hml, ho, hts, ⟨hK, hN⟩, hA⟩ := C0
  intro H locs ls hP hD hS hl
  exact lv_icmp_ne hx hb hdg ht (fun h => kt h H locs ls hP hD hS hl) (fun h => kf (by first | exact h | exact Classical.not_not.mp h) H locs ls hP hD hS hl)
theorem J_ifne (C0 : Cx G K l cc nL own Ts rm) {x : Int32} {off : Int} (tgt : Nat) (hdg : decode cc pc = .ok (.ifCond .ne off, 3)) (ht : (pc : Int) + off = (tgt : Int) := by decide) (kt : ¬ x = 0 → J G bs lv cells slots (tgt) (st)) (kf : x = 0 → J G bs lv cells slots (pc + 3) (st)) : J G bs lv cells slots (pc) (.int x :: st) := by
  obtain ⟨K, A, H0, nL', p, l, e, R, s, m, args, below, meth, c, Q⟩ := G
  obtain ⟨rfl, rfl, rfl, rfl, hx, hb, hml, ho, hts, ⟨hK, hN⟩, hA⟩ := C0
  intro H locs ls hP hD hS hl
  exact lv_if_ne hx hb hdg ht (fun h => kt h H locs ls hP hD hS hl) (fun h => kf (by first | exact h | exact Classical.not_not.mp h) H locs ls hP hD hS hl)
theorem J_icmplt (C0 : Cx G K l cc nL own Ts rm) {x y : Int32} {off : Int} (tgt : Nat) (hdg : decode cc pc = .ok (.if_icmp .lt off, 3)) (ht : (pc : Int) + off = (tgt : Int) := by decide) (kt : x < y → J G bs lv cells slots (tgt) (st)) (kf : ¬ x < y → J G bs lv cells slots (pc + 3) (st)) : J G bs lv cells slots (pc) (.int y :: .int x :: st) := by
  obtain ⟨K, A, H0, nL', p, l, e, R, s, m, args, below, meth, c, Q⟩ := G
  obtain ⟨rfl, rfl, rfl, rfl, hx, hb, hml, ho, hts, ⟨hK, hN⟩, hA⟩ := C0
  intro H locs ls hP hD hS hl
  exact lv_icmp_lt hx hb hdg ht (fun h => kt h H locs ls hP hD hS hl) (fun h => kf h H locs ls hP hD hS hl)
theorem J_iflt (C0 : Cx G K l cc nL own Ts rm) {x : Int32} {off : Int} (tgt : Nat) (hdg : decode cc pc = .ok (.ifCond .lt off, 3)) (ht : (pc : Int) + off = (tgt : Int) := by decide) (kt : x < 0 → J G bs lv cells slots (tgt) (st)) (kf : ¬ x < 0 → J G bs lv cells slots (pc + 3) (st)) : J G bs lv cells slots (pc) (.int x :: st) := by
  obtain ⟨K, A, H0, nL', p, l, e, R, s, m, args, below, meth, c, Q⟩ := G
  obtain ⟨rfl, rfl, rfl, rfl, hx, hb, hml, ho, hts, ⟨hK, hN⟩, hA⟩ := C0
  intro H locs ls hP hD hS hl
  exact lv_if_lt hx hb hdg ht (fun h => kt h H locs ls hP hD hS hl) (fun h => kf h H locs ls hP hD hS hl)
theorem J_icmpge (C0 : Cx G K l cc nL own Ts rm) {x y : Int32} {off : Int} (tgt : Nat) (hdg : decode cc pc = .ok (.if_icmp .ge off, 3)) (ht : (pc : Int) + off = (tgt : Int) := by decide) (kt : y ≤ x → J G bs lv cells slots (tgt) (st)) (kf : ¬ y ≤ x → J G bs lv cells slots (pc + 3) (st)) : J G bs lv cells slots (pc) (.int y :: .int x :: st) := by
  obtain ⟨K, A, H0, nL', p, l, e, R, s, m, args, below, meth, c, Q⟩ := G
  obtain ⟨rfl, rfl, rfl, rfl, hx, hb, hml, ho, hts, ⟨hK, hN⟩, hA⟩ := C0
  intro H locs ls hP hD hS hl
  exact lv_icmp_ge hx hb hdg ht (fun h => kt h H locs ls hP hD hS hl) (fun h => kf h H locs ls hP hD hS hl)
theorem J_ifge (C0 : Cx G K l cc nL own Ts rm) {x : Int32} {off : Int} (tgt : Nat) (hdg : decode cc pc = .ok (.ifCond .ge off, 3)) (ht : (pc : Int) + off = (tgt : Int) := by decide) (kt : 0 ≤ x → J G bs lv cells slots (tgt) (st)) (kf : ¬ 0 ≤ x → J G bs lv cells slots (pc + 3) (st)) : J G bs lv cells slots (pc) (.int x :: st) := by
  obtain ⟨K, A, H0, nL', p, l, e, R, s, m, args, below, meth, c, Q⟩ := G
  obtain ⟨rfl, rfl, rfl, rfl, hx, hb, hml, ho, hts, ⟨hK, hN⟩, hA⟩ := C0
  intro H locs ls hP hD hS hl
  exact lv_if_ge hx hb hdg ht (fun h => kt h H locs ls hP hD hS hl) (fun h => kf h H locs ls hP hD hS hl)
theorem J_icmpgt (C0 : Cx G K l cc nL own Ts rm) {x y : Int32} {off : Int} (tgt : Nat) (hdg : decode cc pc = .ok (.if_icmp .gt off, 3)) (ht : (pc : Int) + off = (tgt : Int) := by decide) (kt : y < x → J G bs lv cells slots (tgt) (st)) (kf : ¬ y < x → J G bs lv cells slots (pc + 3) (st)) : J G bs lv cells slots (pc) (.int y :: .int x :: st) := by
  obtain ⟨K, A, H0, nL', p, l, e, R, s, m, args, below, meth, c, Q⟩ := G
  obtain ⟨rfl, rfl, rfl, rfl, hx, hb, hml, ho, hts, ⟨hK, hN⟩, hA⟩ := C0
  intro H locs ls hP hD hS hl
  exact lv_icmp_gt hx hb hdg ht (fun h => kt h H locs ls hP hD hS hl) (fun h => kf h H locs ls hP hD hS hl)
theorem J_ifgt (C0 : Cx G K l cc nL own Ts rm) {x : Int32} {off : Int} (tgt : Nat) (hdg : decode cc pc = .ok (.ifCond .gt off, 3)) (ht : (pc : Int) + off = (tgt : Int) := by decide) (kt : 0 < x → J G bs lv cells slots (tgt) (st)) (kf : ¬ 0 < x → J G bs lv cells slots (pc + 3) (st)) : J G bs lv cells slots (pc) (.int x :: st) := by
  obtain ⟨K, A, H0, nL', p, l, e, R, s, m, args, below, meth, c, Q⟩ := G
  obtain ⟨rfl, rfl, rfl, rfl, hx, hb, hml, ho, hts, ⟨hK, hN⟩, hA⟩ := C0
  intro H locs ls hP hD hS hl
  exact lv_if_gt hx hb hdg ht (fun h => kt h H locs ls hP hD hS hl) (fun h => kf h H locs ls hP hD hS hl)
theorem J_icmple (C0 : Cx G K l cc nL own Ts rm) {x y : Int32} {off : Int} (tgt : Nat) (hdg : decode cc pc = .ok (.if_icmp .le off, 3)) (ht : (pc : Int) + off = (tgt : Int) := by decide) (kt : x ≤ y → J G bs lv cells slots (tgt) (st)) (kf : ¬ x ≤ y → J G bs lv cells slots (pc + 3) (st)) : J G bs lv cells slots (pc) (.int y :: .int x :: st) := by
  obtain ⟨K, A, H0, nL', p, l, e, R, s, m, args, below, meth, c, Q⟩ := G
  obtain ⟨rfl, rfl, rfl, rfl, hx, hb, hml, ho, hts, ⟨hK, hN⟩, hA⟩ := C0
  intro H locs ls hP hD hS hl
  exact lv_icmp_le hx hb hdg ht (fun h => kt h H locs ls hP hD hS hl) (fun h => kf h H locs ls hP hD hS hl)
theorem J_ifle (C0 : Cx G K l cc nL own Ts rm) {x : Int32} {off : Int} (tgt : Nat) (hdg : decode cc pc = .ok (.ifCond .le off, 3)) (ht : (pc : Int) + off = (tgt : Int) := by decide) (kt : x ≤ 0 → J G bs lv cells slots (tgt) (st)) (kf : ¬ x ≤ 0 → J G bs lv cells slots (pc + 3) (st)) : J G bs lv cells slots (pc) (.int x :: st) := by
  obtain ⟨K, A, H0, nL', p, l, e, R, s, m, args, below, meth, c, Q⟩ := G
  obtain ⟨rfl, rfl, rfl, rfl, hx, hb, hml, ho, hts, ⟨hK, hN⟩, hA⟩ := C0
  intro H locs ls hP hD hS hl
  exact lv_if_le hx hb hdg ht (fun h => kt h H locs ls hP hD hS hl) (fun h => kf h H locs ls hP hD hS hl)
theorem J_icmpeqN (C0 : Cx G K l cc nL own Ts rm) {a b : Nat} {off : Int} (tgt : Nat) (ha : a < 2 ^ 31) (hb : b < 2 ^ 31) (hdg : decode cc pc = .ok (.if_icmp .eq off, 3)) (ht : (pc : Int) + off = (tgt : Int) := by decide) (kt : a = b → J G bs lv cells slots (tgt) (st)) (kf : ¬ a = b → J G bs lv cells slots (pc + 3) (st)) : J G bs lv cells slots (pc) (.int (nI b) :: .int (nI a) :: st) := by
  exact J_icmpeq C0 tgt hdg ht (fun h => kt ((nI_eq ha hb).mp h)) (fun h => kf (fun q => h ((nI_eq ha hb).mpr q)))
theorem J_icmpneN (C0 : Cx G K l cc nL own Ts rm) {a b : Nat} {off : Int} (tgt : Nat) (ha : a < 2 ^ 31) (hb : b < 2 ^ 31) (hdg : decode cc pc = .ok (.if_icmp .ne off, 3)) (ht : (pc : Int) + off = (tgt : Int) := by decide) (kt : ¬ a = b → J G bs lv cells slots (tgt) (st)) (kf : a = b → J G bs lv cells slots (pc + 3) (st)) : J G bs lv cells slots (pc) (.int (nI b) :: .int (nI a) :: st) := by
  exact J_icmpne C0 tgt hdg ht (fun h => kt (fun q => h ((nI_eq ha hb).mpr q))) (fun h => kf ((nI_eq ha hb).mp h))
theorem J_icmpltN (C0 : Cx G K l cc nL own Ts rm) {a b : Nat} {off : Int} (tgt : Nat) (ha : a < 2 ^ 31) (hb : b < 2 ^ 31) (hdg : decode cc pc = .ok (.if_icmp .lt off, 3)) (ht : (pc : Int) + off = (tgt : Int) := by decide) (kt : a < b → J G bs lv cells slots (tgt) (st)) (kf : b ≤ a → J G bs lv cells slots (pc + 3) (st)) : J G bs lv cells slots (pc) (.int (nI b) :: .int (nI a) :: st) := by
  exact J_icmplt C0 tgt hdg ht (fun h => kt ((nI_ltI ha hb).mp h)) (fun h => kf (Nat.not_lt.mp (fun q => h ((nI_ltI ha hb).mpr q))))
theorem J_icmpgeN (C0 : Cx G K l cc nL own Ts rm) {a b : Nat} {off : Int} (tgt : Nat) (ha : a < 2 ^ 31) (hb : b < 2 ^ 31) (hdg : decode cc pc = .ok (.if_icmp .ge off, 3)) (ht : (pc : Int) + off = (tgt : Int) := by decide) (kt : b ≤ a → J G bs lv cells slots (tgt) (st)) (kf : a < b → J G bs lv cells slots (pc + 3) (st)) : J G bs lv cells slots (pc) (.int (nI b) :: .int (nI a) :: st) := by
  exact J_icmpge C0 tgt hdg ht (fun h => kt ((nI_leI hb ha).mp h)) (fun h => kf (Nat.not_le.mp (fun q => h ((nI_leI hb ha).mpr q))))
theorem J_icmpgtN (C0 : Cx G K l cc nL own Ts rm) {a b : Nat} {off : Int} (tgt : Nat) (ha : a < 2 ^ 31) (hb : b < 2 ^ 31) (hdg : decode cc pc = .ok (.if_icmp .gt off, 3)) (ht : (pc : Int) + off = (tgt : Int) := by decide) (kt : b < a → J G bs lv cells slots (tgt) (st)) (kf : a ≤ b → J G bs lv cells slots (pc + 3) (st)) : J G bs lv cells slots (pc) (.int (nI b) :: .int (nI a) :: st) := by
  exact J_icmpgt C0 tgt hdg ht (fun h => kt ((nI_ltI hb ha).mp h)) (fun h => kf (Nat.not_lt.mp (fun q => h ((nI_ltI hb ha).mpr q))))
theorem J_icmpleN (C0 : Cx G K l cc nL own Ts rm) {a b : Nat} {off : Int} (tgt : Nat) (ha : a < 2 ^ 31) (hb : b < 2 ^ 31) (hdg : decode cc pc = .ok (.if_icmp .le off, 3)) (ht : (pc : Int) + off = (tgt : Int) := by decide) (kt : a ≤ b → J G bs lv cells slots (tgt) (st)) (kf : b < a → J G bs lv cells slots (pc + 3) (st)) : J G bs lv cells slots (pc) (.int (nI b) :: .int (nI a) :: st) := by
  exact J_icmple C0 tgt hdg ht (fun h => kt ((nI_leI ha hb).mp h)) (fun h => kf (Nat.not_le.mp (fun q => h ((nI_leI ha hb).mpr q))))
theorem b01 {P : Prop} [Decidable P] : (if P then nI 1 else nI 0) = (0 : Int32) ↔ ¬ P := by
  by_cases h : P
  · simp only [h, if_true, not_true, iff_false]; decide
  · simp only [h, if_false, not_false_eq_true, iff_true]; decide
theorem J_ifeqB (C0 : Cx G K l cc nL own Ts rm) {P : Prop} [Decidable P] {off : Int} (tgt : Nat) (hdg : decode cc pc = .ok (.ifCond .eq off, 3)) (ht : (pc : Int) + off = (tgt : Int) := by decide) (kt : ¬ P → J G bs lv cells slots (tgt) (st)) (kf : P → J G bs lv cells slots (pc + 3) (st)) : J G bs lv cells slots (pc) (.int (if P then nI 1 else nI 0) :: st) :=
  J_ifeq C0 tgt hdg ht (fun h => kt (b01.mp h)) (fun h => kf (Classical.not_not.mp (fun q => h (b01.mpr q))))
theorem J_ifneB (C0 : Cx G K l cc nL own Ts rm) {P : Prop} [Decidable P] {off : Int} (tgt : Nat) (hdg : decode cc pc = .ok (.ifCond .ne off, 3)) (ht : (pc : Int) + off = (tgt : Int) := by decide) (kt : P → J G bs lv cells slots (tgt) (st)) (kf : ¬ P → J G bs lv cells slots (pc + 3) (st)) : J G bs lv cells slots (pc) (.int (if P then nI 1 else nI 0) :: st) :=
  J_ifne C0 tgt hdg ht (fun h => kt (Classical.not_not.mp (fun q => h (b01.mpr q)))) (fun h => kf (b01.mp h))
theorem J_ifltN (C0 : Cx G K l cc nL own Ts rm) {a : Nat} {off : Int} (ha : a < 2 ^ 31) (hdg : decode cc pc = .ok (.ifCond .lt off, 3)) (tgt : Nat) (ht : (pc : Int) + off = (tgt : Int) := by decide) (kk : J G bs lv cells slots (pc + 3) (st)) : J G bs lv cells slots (pc) (.int (nI a) :: st) := J_iflt C0 tgt hdg ht (fun h => absurd h (nI_pos ha)) (fun _ => kk)
theorem J_ifgeN (C0 : Cx G K l cc nL own Ts rm) {a : Nat} {off : Int} (tgt : Nat) (ha : a < 2 ^ 31) (hdg : decode cc pc = .ok (.ifCond .ge off, 3)) (ht : (pc : Int) + off = (tgt : Int) := by decide) (kk : J G bs lv cells slots (tgt) (st)) : J G bs lv cells slots (pc) (.int (nI a) :: st) := J_ifge C0 tgt hdg ht (fun _ => kk) (fun h => absurd (nI_pos' ha) h)
theorem J_ifeqN (C0 : Cx G K l cc nL own Ts rm) {a : Nat} {off : Int} (tgt : Nat) (ha : a < 2 ^ 31) (hdg : decode cc pc = .ok (.ifCond .eq off, 3)) (ht : (pc : Int) + off = (tgt : Int) := by decide) (kt : a = 0 → J G bs lv cells slots (tgt) (st)) (kf : ¬ a = 0 → J G bs lv cells slots (pc + 3) (st)) : J G bs lv cells slots (pc) (.int (nI a) :: st) := J_ifeq C0 tgt hdg ht (fun h => kt ((nI_eq (b := 0) ha (by decide)).mp h)) (fun h => kf (fun q => h ((nI_eq (b := 0) ha (by decide)).mpr q)))
theorem J_ifneN (C0 : Cx G K l cc nL own Ts rm) {a : Nat} {off : Int} (tgt : Nat) (ha : a < 2 ^ 31) (hdg : decode cc pc = .ok (.ifCond .ne off, 3)) (ht : (pc : Int) + off = (tgt : Int) := by decide) (kt : ¬ a = 0 → J G bs lv cells slots (tgt) (st)) (kf : a = 0 → J G bs lv cells slots (pc + 3) (st)) : J G bs lv cells slots (pc) (.int (nI a) :: st) := J_ifne C0 tgt hdg ht (fun h => kt (fun q => h ((nI_eq (b := 0) ha (by decide)).mpr q))) (fun h => kf ((nI_eq (b := 0) ha (by decide)).mp h))
theorem J_ifgtN (C0 : Cx G K l cc nL own Ts rm) {a : Nat} {off : Int} (tgt : Nat) (ha : a < 2 ^ 31) (hdg : decode cc pc = .ok (.ifCond .gt off, 3)) (ht : (pc : Int) + off = (tgt : Int) := by decide) (kt : ¬ a = 0 → J G bs lv cells slots (tgt) (st)) (kf : a = 0 → J G bs lv cells slots (pc + 3) (st)) : J G bs lv cells slots (pc) (.int (nI a) :: st) := J_ifgt C0 tgt hdg ht (fun h => kt (fun q => absurd h (by rw [q]; decide))) (fun h => kf (by rcases Nat.eq_zero_or_pos a with q | q; exact q; exact absurd ((nI_ltI (a := 0) (by decide) ha).mpr q) h))
theorem J_ifleN (C0 : Cx G K l cc nL own Ts rm) {a : Nat} {off : Int} (tgt : Nat) (ha : a < 2 ^ 31) (hdg : decode cc pc = .ok (.ifCond .le off, 3)) (ht : (pc : Int) + off = (tgt : Int) := by decide) (kt : a = 0 → J G bs lv cells slots (tgt) (st)) (kf : ¬ a = 0 → J G bs lv cells slots (pc + 3) (st)) : J G bs lv cells slots (pc) (.int (nI a) :: st) := J_ifle C0 tgt hdg ht (fun h => kt (by rcases Nat.eq_zero_or_pos a with q | q; exact q; exact absurd h (nI_nle q ha))) (fun h => kf (fun q => h (by rw [q]; decide)))
theorem J_goto (C0 : Cx G K l cc nL own Ts rm) {off : Int} (tgt : Nat) (hdg : decode cc pc = .ok (.goto off, 3)) (ht : (pc : Int) + off = (tgt : Int) := by decide) (kk : J G bs lv cells slots (tgt) (st)) : J G bs lv cells slots (pc) (st) := by
  obtain ⟨K, A, H0, nL', p, l, e, R, s, m, args, below, meth, c, Q⟩ := G
  obtain ⟨rfl, rfl, rfl, rfl, hx, hb, hml, ho, hts, ⟨hK, hN⟩, hA⟩ := C0
  intro H locs ls hP hD hS hl
  exact lv_goto hx hb hdg ht (kk H locs ls hP hD hS hl)
theorem lg_cmp0 {x y : Int64} : lg_cmp x y = 0 ↔ x = y := by
  unfold lg_cmp
  constructor
  · intro h
    split at h
    · exact absurd h (by decide)
    · split at h
      · assumption
      · exact absurd h (by decide)
  · intro h
    subst h
    simp
theorem J_lcmp (C0 : Cx G K l cc nL own Ts rm) {x y : Int64} (hdg : decode cc pc = .ok (.lcmp, 1)) (kk : J G bs lv cells slots (pc + 1) (.int (lg_cmp x y) :: st)) : J G bs lv cells slots (pc) (.long y :: .long x :: st) := by
  obtain ⟨K, A, H0, nL', p, l, e, R, s, m, args, below, meth, c, Q⟩ := G
  obtain ⟨rfl, rfl, rfl, rfl, hx, hb, hml, ho, hts, ⟨hK, hN⟩, hA⟩ := C0
  intro H locs ls hP hD hS hl
  exact W.lcmp hx hb hdg (kk H locs ls hP hD hS hl)
theorem J_dcmp (C0 : Cx G K l cc nL own Ts rm) {x y : UInt64} {op : CmpOp} (hdg : decode cc pc = .ok (.dcmp op, 1)) (kk : J G bs lv cells slots (pc + 1) (.int (Op.cmpValue (FP.dcmp x y) op) :: st)) : J G bs lv cells slots (pc) (.double y :: .double x :: st) := by
  obtain ⟨K, A, H0, nL', p, l, e, R, s, m, args, below, meth, c, Q⟩ := G
  obtain ⟨rfl, rfl, rfl, rfl, hx, hb, hml, ho, hts, ⟨hK, hN⟩, hA⟩ := C0
  intro H locs ls hP hD hS hl
  exact lv_dcmp hx hb hdg (kk H locs ls hP hD hS hl)
theorem J_tin (C0 : Cx G K l cc nL own Ts rm) {x : Nat} {dflt lo hi : Int} {offs : Array Int} {len : Nat} (tgt : Nat) (hdg : decode cc pc = .ok (.tableswitch dflt lo hi offs, len)) (h1 : ¬ (nI x).toInt < lo := by decide) (h2 : ¬ hi < (nI x).toInt := by decide) (hoff : offs[((nI x).toInt - lo).toNat]? = some ((tgt : Int) - (pc : Int)) := by decide) (kk : J G bs lv cells slots (tgt) (st)) : J G bs lv cells slots (pc) (.int (nI x) :: st) := by
  obtain ⟨K, A, H0, nL', p, l, e, R, s, m, args, below, meth, c, Q⟩ := G
  obtain ⟨rfl, rfl, rfl, rfl, hx, hb, hml, ho, hts, ⟨hK, hN⟩, hA⟩ := C0
  intro H locs ls hP hD hS hl
  exact lv_tableIn hx hb hdg h1 h2 hoff (by omega) (kk H locs ls hP hD hS hl)
theorem J_tout (C0 : Cx G K l cc nL own Ts rm) {x : Int32} {dflt lo hi : Int} {offs : Array Int} {len : Nat} (tgt : Nat) (hdg : decode cc pc = .ok (.tableswitch dflt lo hi offs, len)) (h : x.toInt < lo ∨ hi < x.toInt) (ht : (pc : Int) + dflt = (tgt : Int) := by decide) (kk : J G bs lv cells slots (tgt) (st)) : J G bs lv cells slots (pc) (.int x :: st) := by
  obtain ⟨K, A, H0, nL', p, l, e, R, s, m, args, below, meth, c, Q⟩ := G
  obtain ⟨rfl, rfl, rfl, rfl, hx, hb, hml, ho, hts, ⟨hK, hN⟩, hA⟩ := C0
  intro H locs ls hP hD hS hl
  exact lv_tableOut hx hb hdg h ht (kk H locs ls hP hD hS hl)
theorem J_lsw (C0 : Cx G K l cc nL own Ts rm) {x : Int32} {dflt : Int} {ps : Array (Int × Int)} {len : Nat} (tgt : Nat) (hdg : decode cc pc = .ok (.lookupswitch dflt ps, len)) (hoff : Op.lookupswitch.offset ps.toList dflt x.toInt = (tgt : Int) - (pc : Int)) (hp : (ps.toList.zip (ps.toList.drop 1)).all (fun (a, next) => a.1 < next.1) = true := by decide) (kk : J G bs lv cells slots (tgt) (st)) : J G bs lv cells slots (pc) (.int x :: st) := by
  obtain ⟨K, A, H0, nL', p, l, e, R, s, m, args, below, meth, c, Q⟩ := G
  obtain ⟨rfl, rfl, rfl, rfl, hx, hb, hml, ho, hts, ⟨hK, hN⟩, hA⟩ := C0
  intro H locs ls hP hD hS hl
  exact lv_lookup hx hb hdg hp hoff (by omega) (kk H locs ls hP hD hS hl)
theorem fl_mem {bs : List va_W} {q k : Nat} {blk : va_W} {x : Nat × va_E} (hq : bs[q]? = some blk) (hk : blk[k]? = some x) : ∃ i : Nat, (bs.flatten)[i]? = some x := List.getElem?_of_mem (List.mem_flatten.mpr ⟨blk, List.mem_of_getElem? hq, List.mem_of_getElem? hk⟩)
theorem fl_split {bs : List va_W} {q : Nat} {blk : va_W} (hq : bs[q]? = some blk) : ∃ u v, bs = u ++ blk :: v ∧ u.length = q := by
  have h := (List.getElem?_eq_some_iff.mp hq)
  obtain ⟨hl, he⟩ := h
  refine ⟨bs.take q, bs.drop (q + 1), ?_, by simp; omega⟩
  rw [← he, List.getElem_cons_drop, List.take_append_drop]
theorem bl_split {blk : va_W} {k : Nat} {x : Nat × va_E} (hk : blk[k]? = some x) : ∃ u v, blk = u ++ x :: v ∧ u.length = k := by
  obtain ⟨hl, he⟩ := (List.getElem?_eq_some_iff.mp hk)
  refine ⟨blk.take k, blk.drop (k + 1), ?_, by simp; omega⟩
  rw [← he, List.getElem_cons_drop, List.take_append_drop]
theorem fl_set {bs : List va_W} {q k : Nat} {blk : va_W} {x : Nat × va_E} (hq : bs[q]? = some blk) (hk : blk[k]? = some x) : ∃ i : Nat, (bs.flatten)[i]? = some x ∧ ∀ y : Nat × va_E, (bs.set q (blk.set k y)).flatten = bs.flatten.set i y := by
  obtain ⟨u, v, e1, l1⟩ := fl_split hq
  obtain ⟨u2, v2, e2, l2⟩ := bl_split hk
  refine ⟨u.flatten.length + k, ?_, fun y => ?_⟩
  · rw [e1, e2, List.flatten_append, List.flatten_cons, List.getElem?_append_right (by omega), List.append_assoc, List.getElem?_append_right (by omega)]
    rw [show u.flatten.length + k - u.flatten.length - u2.length = 0 by omega]
    simp
  · have s1 : bs.set q (blk.set k y) = u ++ (u2 ++ y :: v2) :: v := by
      rw [e1, e2, List.set_append_right _ _ (by omega), ← l1, Nat.sub_self, List.set_cons_zero, List.set_append_right _ _ (by omega), ← l2, Nat.sub_self, List.set_cons_zero]
    rw [s1, e1, e2, List.flatten_append, List.flatten_cons, List.flatten_append, List.flatten_cons]
    rw [List.set_append_right _ _ (by omega), Nat.add_sub_cancel_left, List.append_assoc, List.append_assoc, List.set_append_right _ _ (by omega), ← l2, Nat.sub_self, List.cons_append, List.cons_append, List.set_cons_zero]
theorem J_get (C0 : Cx G K l cc nL own Ts rm) {C : String} {T : u_T} {N index ci a : Nat} {fs : List Value} {v : Value} {blk : va_W} (hin : ∀ w ∈ u_ws C T N, w ∈ Ts) (q k f : Nat) (hlink : Cond.fieldLink own index (T f).1 (T f).2.1 (T f).2.2.1 ∈ Ts) (hdg : decode cc pc = .ok (.getfield index, 3)) (hq : bs[q]? = some blk := by rfl) (hk : blk[k]? = some (a, .inr (ci, fs)) := by rfl) (hc : vwCl[ci]? = some (C, T, N) := by rfl) (hf : f < N := by decide) (hv : fs[f]? = some v := by rfl) (kk : J G bs lv cells slots (pc + 3) (v :: st)) : J G bs lv cells slots (pc) (.ref a :: st) := by
  obtain ⟨K, A, H0, nL', p, l, e, R, s, m, args, below, meth, c, Q⟩ := G
  obtain ⟨rfl, rfl, rfl, rfl, hx, hb, hml, ho, hts, ⟨hK, hN⟩, hA⟩ := C0
  intro H locs ls hP hD hS hl
  obtain ⟨i, hi⟩ := fl_mem hq hk
  exact va_get (D := K.1) hx hb hts hin ho hK hP i hi hc f hf (hts _ hlink) (fun _ h9 => h9) hv hdg (kk H locs ls hP hD hS hl)
theorem J_put (C0 : Cx G K l cc nL own Ts rm) {C : String} {T : u_T} {N index ci a : Nat} {fs : List Value} {v : Value} {blk : va_W} {ty : FieldType} (hin : ∀ w ∈ u_ws C T N, w ∈ Ts) {ty0 : Nat → FieldType} (hty : ∀ k, k < N → parseFieldDescriptor (T k).2.2.1 = some (ty0 k)) (hnm : ∀ a, a < N → ∀ b, b < N → a ≠ b → (T a).2.1 ≠ (T b).2.1) (q k f : Nat) (bs' : List va_W) (hlink : Cond.fieldLink own index (T f).1 (T f).2.1 (T f).2.2.1 ∈ Ts) (hdg : decode cc pc = .ok (.putfield index, 3)) (hq : bs[q]? = some blk := by rfl) (hk : blk[k]? = some (a, .inr (ci, fs)) := by rfl) (hc : vwCl[ci]? = some (C, T, N) := by rfl) (hf : f < N := by decide) (hfin : (T f).2.2.2 = false := by rfl) (hd : parseFieldDescriptor (T f).2.2.1 = some ty) (hn : narrow ty v = v := by rfl) (hfit : fits ty v = true := by rfl) (hl3 : f < fs.length := by exact Nat.le_of_ble_eq_true rfl) (hb2 : bs.set q (blk.set k (a, .inr (ci, fs.set f v))) = bs' := by rfl) (kk : J G bs' lv cells slots (pc + 3) (st)) : J G bs lv cells slots (pc) (v :: .ref a :: st) := by
  obtain ⟨K, A, H0, nL', p, l, e, R, s, m, args, below, meth, c, Q⟩ := G
  obtain ⟨rfl, rfl, rfl, rfl, hx, hb, hml, ho, hts, ⟨hK, hN⟩, hA⟩ := C0
  intro H locs ls hP hD hS hl
  obtain ⟨i, hi, hset⟩ := fl_set hq hk
  subst hb2
  exact va_put (D := K.1) hx hb hts hin ty0 hty hnm ho hK hP hD hS i hi hc f hf (hts _ hlink) (fun _ h9 => h9) hfin hd hn hfit hl3 hdg (fun H1 locs1 hP1 hD1 hS1 => kk H1 locs1 ls (by rw [hset]; exact hP1) (by rw [hset]; exact hD1) hS1 hl)
theorem J_iald (C0 : Cx G K l cc nL own Ts rm) {a j : Nat} {f : Nat → Int32} {v : Int32} {blk : va_W} (q k n : Nat) (hdg : decode cc pc = .ok (.iaload, 1)) (hj : j < n) (hn : n < 2 ^ 31 := by decide) (hq : bs[q]? = some blk := by rfl) (hk : blk[k]? = some (a, .inl (kI K, n, .inl f)) := by rfl) (hv : f j = v := by rfl) (kk : J G bs lv cells slots (pc + 1) (.int v :: st)) : J G bs lv cells slots (pc) (.int (nI j) :: .ref a :: st) := by
  obtain ⟨K, A, H0, nL', p, l, e, R, s, m, args, below, meth, c, Q⟩ := G
  obtain ⟨rfl, rfl, rfl, rfl, hx, hb, hml, ho, hts, ⟨hK, hN⟩, hA⟩ := C0
  intro H locs ls hP hD hS hl
  obtain ⟨i, hi⟩ := fl_mem hq hk
  subst hv
  refine va_iald (D := K.1) hx hb hK hP i 0 hi rfl (vp_in_nI hj hn) hdg ?_
  rw [nI_clamp (Nat.lt_trans hj hn)]
  exact kk H locs ls hP hD hS hl
theorem J_zald (C0 : Cx G K l cc nL own Ts rm) {a j : Nat} {f : Nat → Int32} {v : Int32} {blk : va_W} (q k n : Nat) (hdg : decode cc pc = .ok (.baload, 1)) (hj : j < n) (hn : n < 2 ^ 31 := by decide) (hq : bs[q]? = some blk := by rfl) (hk : blk[k]? = some (a, .inl (kZ K, n, .inl f)) := by rfl) (hv : f j = v := by rfl) (kk : J G bs lv cells slots (pc + 1) (.int v :: st)) : J G bs lv cells slots (pc) (.int (nI j) :: .ref a :: st) := by
  obtain ⟨K, A, H0, nL', p, l, e, R, s, m, args, below, meth, c, Q⟩ := G
  obtain ⟨rfl, rfl, rfl, rfl, hx, hb, hml, ho, hts, ⟨hK, hN⟩, hA⟩ := C0
  intro H locs ls hP hD hS hl
  obtain ⟨i, hi⟩ := fl_mem hq hk
  subst hv
  refine va_zald (D := K.1) hx hb hK hP i 1 hi rfl (vp_in_nI hj hn) hdg ?_
  rw [nI_clamp (Nat.lt_trans hj hn)]
  exact kk H locs ls hP hD hS hl
theorem J_aald (C0 : Cx G K l cc nL own Ts rm) {a j : Nat} {f : Nat → Option Nat} {r : Nat} {blk : va_W} (q k n : Nat) (hdg : decode cc pc = .ok (.aaload, 1)) (hj : j < n) (hn : n < 2 ^ 31 := by decide) (hq : bs[q]? = some blk := by rfl) (hk : blk[k]? = some (a, .inl (kO K, n, .inr (.inr (.inr (.inr f))))) := by rfl) (hv : f j = some r := by rfl) (kk : J G bs lv cells slots (pc + 1) (.ref r :: st)) : J G bs lv cells slots (pc) (.int (nI j) :: .ref a :: st) := by
  obtain ⟨K, A, H0, nL', p, l, e, R, s, m, args, below, meth, c, Q⟩ := G
  obtain ⟨rfl, rfl, rfl, rfl, hx, hb, hml, ho, hts, ⟨hK, hN⟩, hA⟩ := C0
  intro H locs ls hP hD hS hl
  obtain ⟨i, hi⟩ := fl_mem hq hk
  refine va_aldq (D := K.1) hx hb hK hP i 2 hi rfl (vp_in_nI hj hn) hdg ?_
  rw [nI_clamp (Nat.lt_trans hj hn), hv]
  exact kk H locs ls hP hD hS hl
theorem J_iast (C0 : Cx G K l cc nL own Ts rm) {a j : Nat} {f : Nat → Int32} {x : Int32} {blk : va_W} (q k n : Nat) (bs' : List va_W) (hdg : decode cc pc = .ok (.iastore, 1)) (hj : j < n) (hn : n < 2 ^ 31 := by decide) (hq : bs[q]? = some blk := by rfl) (hk : blk[k]? = some (a, .inl (kI K, n, .inl f)) := by rfl) (hb2 : bs.set q (blk.set k (a, .inl (kI K, n, .inl (upd f j x)))) = bs' := by rfl) (kk : J G bs' lv cells slots (pc + 1) (st)) : J G bs lv cells slots (pc) (.int x :: .int (nI j) :: .ref a :: st) := by
  obtain ⟨K, A, H0, nL', p, l, e, R, s, m, args, below, meth, c, Q⟩ := G
  obtain ⟨rfl, rfl, rfl, rfl, hx, hb, hml, ho, hts, ⟨hK, hN⟩, hA⟩ := C0
  intro H locs ls hP hD hS hl
  obtain ⟨i, hi, hset⟩ := fl_set hq hk
  subst hb2
  refine va_iast (D := K.1) hx hb hK hP hD hS i 0 hi rfl (vp_in_nI hj hn) hdg (fun H1 locs1 hP1 hD1 hS1 => ?_)
  rw [nI_clamp (Nat.lt_trans hj hn)] at hP1 hD1
  exact kk H1 locs1 ls (by rw [hset]; exact hP1) (by rw [hset]; exact hD1) hS1 hl
theorem J_zast (C0 : Cx G K l cc nL own Ts rm) {a j : Nat} {f : Nat → Int32} {x : Int32} {blk : va_W} (q k n : Nat) (bs' : List va_W) (hdg : decode cc pc = .ok (.bastore, 1)) (hj : j < n) (hnr : vp_nar .boolean x = x) (hn : n < 2 ^ 31 := by decide) (hq : bs[q]? = some blk := by rfl) (hk : blk[k]? = some (a, .inl (kZ K, n, .inl f)) := by rfl) (hb2 : bs.set q (blk.set k (a, .inl (kZ K, n, .inl (upd f j x)))) = bs' := by rfl) (kk : J G bs' lv cells slots (pc + 1) (st)) : J G bs lv cells slots (pc) (.int x :: .int (nI j) :: .ref a :: st) := by
  obtain ⟨K, A, H0, nL', p, l, e, R, s, m, args, below, meth, c, Q⟩ := G
  obtain ⟨rfl, rfl, rfl, rfl, hx, hb, hml, ho, hts, ⟨hK, hN⟩, hA⟩ := C0
  intro H locs ls hP hD hS hl
  obtain ⟨i, hi, hset⟩ := fl_set hq hk
  subst hb2
  refine va_zast (D := K.1) hx hb hK hP hD hS i 1 hi rfl (vp_in_nI hj hn) hdg (fun H1 locs1 hP1 hD1 hS1 => ?_)
  rw [nI_clamp (Nat.lt_trans hj hn), hnr] at hP1 hD1
  exact kk H1 locs1 ls (by rw [hset]; exact hP1) (by rw [hset]; exact hD1) hS1 hl
theorem J_aast (C0 : Cx G K l cc nL own Ts rm) {a j r : Nat} {fs : List Value} {f : Nat → Option Nat} {blk blk2 : va_W} (q k q2 k2 n : Nat) (bs' : List va_W) (hdg : decode cc pc = .ok (.aastore, 1)) (hj : j < n) (hn : n < 2 ^ 31 := by decide) (hq : bs[q]? = some blk := by rfl) (hk : blk[k]? = some (a, .inl (kO K, n, .inr (.inr (.inr (.inr f))))) := by rfl) (hq2 : bs[q2]? = some blk2 := by rfl) (hk2 : blk2[k2]? = some (r, .inr (0, fs)) := by rfl) (hb2 : bs.set q (blk.set k (a, .inl (kO K, n, .inr (.inr (.inr (.inr (va_up f j (some r)))))))) = bs' := by rfl) (kk : J G bs' lv cells slots (pc + 1) (st)) : J G bs lv cells slots (pc) (.ref r :: .int (nI j) :: .ref a :: st) := by
  obtain ⟨K, A, H0, nL', p, l, e, R, s, m, args, below, meth, c, Q⟩ := G
  obtain ⟨rfl, rfl, rfl, rfl, hx, hb, hml, ho, hts, ⟨hK, hN⟩, hA⟩ := C0
  intro H locs ls hP hD hS hl
  obtain ⟨i, hi, hset⟩ := fl_set hq hk
  obtain ⟨i2, hi2⟩ := fl_mem hq2 hk2
  subst hb2
  refine va_astq (D := K.1) (r := (RX0, TX0, 14)) hx hb hK hP hD hS i 2 i2 0 hi rfl hi2 rfl (vp_in_nI hj hn) hdg (fun H1 locs1 hP1 hD1 hS1 => ?_)
  rw [nI_clamp (Nat.lt_trans hj hn)] at hP1 hD1
  exact kk H1 locs1 ls (by rw [hset]; exact hP1) (by rw [hset]; exact hD1) hS1 hl
theorem J_alen (C0 : Cx G K l cc nL own Ts rm) {a n : Nat} {f : Nat → Int32} {blk : va_W} (q k : Nat) (hdg : decode cc pc = .ok (.arraylength, 1)) (hq : bs[q]? = some blk := by rfl) (hk : blk[k]? = some (a, .inl (kI K, n, .inl f)) := by rfl) (kk : J G bs lv cells slots (pc + 1) (.int (nI n) :: st)) : J G bs lv cells slots (pc) (.ref a :: st) := by
  obtain ⟨K, A, H0, nL', p, l, e, R, s, m, args, below, meth, c, Q⟩ := G
  obtain ⟨rfl, rfl, rfl, rfl, hx, hb, hml, ho, hts, ⟨hK, hN⟩, hA⟩ := C0
  intro H locs ls hP hD hS hl
  obtain ⟨i, hi⟩ := fl_mem hq hk
  exact va_alen (D := K.1) hx hb hK hP i 0 hi rfl rfl hdg (kk H locs ls hP hD hS hl)
theorem J_copyi (C0 : Cx G K l cc nL own Ts rm) {index a0 a sp dp n : Nat} {f g : Nat → Int32} {blk blk2 : va_W} (q k q2 k2 n0 n1 : Nat) (bs' : List va_W) (hlink : Cond.methodLink own index arraycopyName ∈ Ts) (hnat : Cond.native arraycopyName ∈ Ts) (hstat : Cond.static arraycopyName ∈ Ts) (hini : Cond.initialized "java/lang/System" ∈ Ts) (hdg : decode cc pc = .ok (.invokestatic index, 3)) (h4 : sp + n ≤ n0) (h5 : dp + n ≤ n1) (h0 : n0 < 2 ^ 31 := by decide) (h1 : n1 < 2 ^ 31 := by decide) (hq : bs[q]? = some blk := by rfl) (hk : blk[k]? = some (a0, .inl (kI K, n0, .inl f)) := by rfl) (hq2 : bs[q2]? = some blk2 := by rfl) (hk2 : blk2[k2]? = some (a, .inl (kI K, n1, .inl g)) := by rfl) (hfr : 1 ≤ rm.frames := by decide) (hlo : (st.map fun v => v.category).sum + (nativeFrameWords "java/lang/System" "arraycopy" 5 + 11) ≤ rm.locals := by exact Nat.le_of_ble_eq_true rfl) (hb2 : bs.set q2 (blk2.set k2 (a, .inl (kI K, n1, .inl (va_cpy f g sp dp n)))) = bs' := by rfl) (kk : J G bs' lv cells slots (pc + 3) (st)) : J G bs lv cells slots (pc) (.int (nI n) :: .int (nI dp) :: .ref a :: .int (nI sp) :: .ref a0 :: st) := by
  obtain ⟨K, A, H0, nL', p, l, e, R, s, m, args, below, meth, c, Q⟩ := G
  obtain ⟨rfl, rfl, rfl, rfl, hx, hb, hml, ho, hts, ⟨hK, hN⟩, hA⟩ := C0
  intro H locs ls hP hD hS hl
  obtain ⟨i, hi⟩ := fl_mem hq hk
  obtain ⟨i2, hi2, hset⟩ := fl_set hq2 hk2
  subst hb2
  have cl1 : (nI sp).toNatClampNeg = sp := nI_clamp (by omega)
  have cl2 : (nI dp).toNatClampNeg = dp := nI_clamp (by omega)
  have cl3 : (nI n).toNatClampNeg = n := nI_clamp (by omega)
  refine va_copyi (D := K.1) (ty := .int) hx hb (hml.trans hl.1.symm) ho (hts _ hlink) (hts _ hnat) (hts _ hstat) (hts _ hini) hK hP hD hS i i2 0 0 hi hi2 rfl rfl rfl (nI_pos (by omega)) (nI_pos (by omega)) (nI_pos (by omega)) (by rw [cl1, cl3]; exact h4) (by rw [cl2, cl3]; exact h5) (fun _ _ => rfl) hfr hlo hdg (fun H1 locs1 hP1 hD1 hS1 => ?_)
  rw [cl1, cl2, cl3] at hP1 hD1
  exact kk H1 locs1 ls (by rw [hset]; exact hP1) (by rw [hset]; exact hD1) hS1 hl
theorem J_mmax (C0 : Cx G K l cc nL own Ts rm) {index : Nat} {x y : Int32} (hlink : Cond.methodLink own index Lib.Math.max.name ∈ Ts) (hstat : Cond.static Lib.Math.max.name ∈ Ts) (hini : Cond.initialized "java/lang/Math" ∈ Ts) (hcode : Cond.code Lib.Math.max.name Lib.Math.max.code 2 (some .int) ∈ Ts) (hdg : decode cc pc = .ok (.invokestatic index, 3)) (hfr : 1 ≤ rm.frames := by decide) (hlo : (st.map fun v => v.category).sum + 13 ≤ rm.locals := by exact Nat.le_of_ble_eq_true rfl) (hc : cells ≤ rm.cells := by decide) (hs : slots ≤ rm.slots := by decide) (kk : J G bs lv cells slots (pc + 3) (.int (if x < y then y else x) :: st)) : J G bs lv cells slots (pc) (.int y :: .int x :: st) := by
  obtain ⟨K, A, H0, nL', p, l, e, R, s, m, args, below, meth, c, Q⟩ := G
  obtain ⟨rfl, rfl, rfl, rfl, hx, hb, hml, ho, hts, ⟨hK, hN⟩, hA⟩ := C0
  intro H locs ls hP hD hS hl
  exact va_mmax hx hb (hml.trans hl.1.symm) ho (hts _ hlink) (hts _ hstat) (hts _ hini) (hts _ hcode) hfr hlo hc hs hdg (kk H locs ls hP hD hS hl)
theorem J_perm {bs2 : List va_W} (hp : bs.Perm bs2) (kk : J G bs2 lv cells slots (pc) (st)) : J G bs lv cells slots (pc) (st) := by
  obtain ⟨K, A, H0, nL', p, l, e, R, s, m, args, below, meth, c, Q⟩ := G
  intro H locs ls hP hD hS hl
  exact kk H locs ls (VP_iff.mp ((VP_iff.mpr hP).perm (perm_flat hp))) (VD_iff.mp ((VD_iff.mpr hD).perm (perm_flat hp))) hS hl
theorem J_conv {bs2 : List va_W} (hp : bs.flatten = bs2.flatten) (kk : J G bs2 lv cells slots (pc) (st)) : J G bs lv cells slots (pc) (st) := by
  obtain ⟨K, A, H0, nL', p, l, e, R, s, m, args, below, meth, c, Q⟩ := G
  intro H locs ls hP hD hS hl
  exact kk H locs ls (hp ▸ hP) (hp ▸ hD) hS hl
theorem J_lv {lv2 : List (Nat × Value)} (ks : List Nat) (h : lv_pick lv ks = lv2 := by rfl) (kk : J G bs lv2 cells slots (pc) (st)) : J G bs lv cells slots (pc) (st) := by
  obtain ⟨K, A, H0, nL', p, l, e, R, s, m, args, below, meth, c, Q⟩ := G
  intro H locs ls hP hD hS hl
  exact kk H locs ls hP hD hS (lv_sub hl ks h)
theorem J_iret (C0 : Cx G K l cc nL own Ts rm) {w0 : List va_W} {Pst : Option Value → List va_W → Prop} {v : Int32} (hF : Fnl G (some .int) rm w0 Pst) (hdg : decode cc pc = .ok (.ireturn, 1)) (hp : Pst (some (.int v)) bs) (hc : cells ≤ rm.cells := by decide) (hs : slots ≤ rm.slots := by decide) : J G bs lv cells slots (pc) ([.int v]) := by
  obtain ⟨K, A, H0, nL', p, l, e, R, s, m, args, below, meth, c, Q⟩ := G
  obtain ⟨rfl, rfl, rfl, rfl, hx, hb, hml, ho, hts, ⟨hK, hN⟩, hA⟩ := C0
  intro H locs ls hP hD hS hl
  obtain ⟨hr, hlk, rfl, rfl, rfl⟩ := hF
  refine W.widen hc hs ?_
  exact W.iret hx hb hr (fun t ht hW => ⟨_, _, rfl, hp, by rw [ht]; exact hP, hD, hS.F ht⟩) hS.2.2 hdg hlk
theorem J_lret (C0 : Cx G K l cc nL own Ts rm) {w0 : List va_W} {Pst : Option Value → List va_W → Prop} {v : Int64} (hF : Fnl G (some .long) rm w0 Pst) (hdg : decode cc pc = .ok (.lreturn, 1)) (hp : Pst (some (.long v)) bs) (hc : cells ≤ rm.cells := by decide) (hs : slots ≤ rm.slots := by decide) : J G bs lv cells slots (pc) ([.long v]) := by
  obtain ⟨K, A, H0, nL', p, l, e, R, s, m, args, below, meth, c, Q⟩ := G
  obtain ⟨rfl, rfl, rfl, rfl, hx, hb, hml, ho, hts, ⟨hK, hN⟩, hA⟩ := C0
  intro H locs ls hP hD hS hl
  obtain ⟨hr, hlk, rfl, rfl, rfl⟩ := hF
  refine W.widen hc hs ?_
  exact W.lret hx hb hr (fun t ht hW => ⟨_, _, rfl, hp, by rw [ht]; exact hP, hD, hS.F ht⟩) hS.2.2 hdg hlk
theorem J_dret (C0 : Cx G K l cc nL own Ts rm) {w0 : List va_W} {Pst : Option Value → List va_W → Prop} {v : UInt64} (hF : Fnl G (some .double) rm w0 Pst) (hdg : decode cc pc = .ok (.dreturn, 1)) (hp : Pst (some (.double v)) bs) (hc : cells ≤ rm.cells := by decide) (hs : slots ≤ rm.slots := by decide) : J G bs lv cells slots (pc) ([.double v]) := by
  obtain ⟨K, A, H0, nL', p, l, e, R, s, m, args, below, meth, c, Q⟩ := G
  obtain ⟨rfl, rfl, rfl, rfl, hx, hb, hml, ho, hts, ⟨hK, hN⟩, hA⟩ := C0
  intro H locs ls hP hD hS hl
  obtain ⟨hr, hlk, rfl, rfl, rfl⟩ := hF
  refine W.widen hc hs ?_
  exact W.dret hx hb hr (fun t ht hW => ⟨_, _, rfl, hp, by rw [ht]; exact hP, hD, hS.F ht⟩) hS.2.2 hdg hlk
theorem J_zret (C0 : Cx G K l cc nL own Ts rm) {w0 : List va_W} {Pst : Option Value → List va_W → Prop} {v : Int32} (hF : Fnl G (some .boolean) rm w0 Pst) (hdg : decode cc pc = .ok (.ireturn, 1)) (hn : narrow .boolean (.int v) = .int v) (hp : Pst (some (.int v)) bs) (hc : cells ≤ rm.cells := by decide) (hs : slots ≤ rm.slots := by decide) : J G bs lv cells slots (pc) ([.int v]) := by
  obtain ⟨K, A, H0, nL', p, l, e, R, s, m, args, below, meth, c, Q⟩ := G
  obtain ⟨rfl, rfl, rfl, rfl, hx, hb, hml, ho, hts, ⟨hK, hN⟩, hA⟩ := C0
  intro H locs ls hP hD hS hl
  obtain ⟨hr, hlk, rfl, rfl, rfl⟩ := hF
  refine W.widen hc hs ?_
  exact W.zret hx hb hr hn (fun t ht hW => ⟨_, _, rfl, hp, by rw [ht]; exact hP, hD, hS.F ht⟩) hS.2.2 hdg hlk
theorem J_vret (C0 : Cx G K l cc nL own Ts rm) {w0 : List va_W} {Pst : Option Value → List va_W → Prop} (hF : Fnl G none rm w0 Pst) (hdg : decode cc pc = .ok (.return_, 1)) (hp : Pst none bs) (hc : cells ≤ rm.cells := by decide) (hs : slots ≤ rm.slots := by decide) : J G bs lv cells slots (pc) ([]) := by
  obtain ⟨K, A, H0, nL', p, l, e, R, s, m, args, below, meth, c, Q⟩ := G
  obtain ⟨rfl, rfl, rfl, rfl, hx, hb, hml, ho, hts, ⟨hK, hN⟩, hA⟩ := C0
  intro H locs ls hP hD hS hl
  obtain ⟨hr, hlk, rfl, rfl, rfl⟩ := hF
  refine W.widen hc hs ?_
  exact W.vret hx hb hr (fun t ht hW => ⟨_, _, rfl, hp, by rw [ht]; exact hP, hD, hS.F ht⟩) hS.2.2 hdg hlk
theorem pof_blind {K : KT} {as : List Value} {w0 : List va_W} {sz : Nat} : FrameBlind (Pof K as w0 sz) := fun a U g mk q => by
  obtain ⟨q0, q1, qP, qK, qD⟩ := q
  exact ⟨q0, q1, qP, ⟨va_K.moved (u := U) (U := U.calling g mk a) (Vm.Alike.refl U.vm) qK.1, fun q hq => va_Nw.same (u := U) (U := U.calling g mk a) rfl rfl (qK.2.1 q hq), va_AO.moved (u := U) (U := U.calling g mk a) (Vm.Alike.refl U.vm) qK.2.2⟩, qD⟩
/-- the callee's blocks are some of ours: its start, and what comes back put beside the rest -/
theorem fl_callee {K : KT} {A : Nat → Prop} {wr w0 : List va_W} {H : Heap} (hP : va_P K.1 vwCl (wr ++ w0).flatten H) (hD : va_D A (wr ++ w0).flatten) : va_P K.1 vwCl w0.flatten H ∧ va_D A w0.flatten := by
  have hP := VP_iff.mpr hP
  have hD := VD_iff.mpr hD
  rw [List.flatten_append] at hP hD
  refine ⟨VP_iff.mp fun q hq => hP q (List.mem_append_right _ hq), VD_iff.mp ⟨?_, fun q hq => hD.2 q (List.mem_append_right _ hq)⟩⟩
  have h := hD.1
  rw [List.map_append] at h
  exact (List.nodup_append.mp h).2.1
theorem fl_free {K : KT} {A : Nat → Prop} {w0 : va_W} {H0 H : Heap} {locs : List Loc} (hD : va_D A w0) (hS : va_S A H0 H locs) (hA : ∀ q, H0.size ≤ q → A q) : ∀ q, va_A w0 H.size q → A q := by
  intro q h
  rcases h with ⟨k, e, h⟩ | h
  · exact hD.2 k (q, e) h
  · exact hA q (Nat.le_trans hS.1 h)
theorem fl_back {K : KT} {A : Nat → Prop} {wr w0 w1 : List va_W} {H H1 : Heap} (hP : va_P K.1 vwCl (wr ++ w0).flatten H) (hD : va_D A (wr ++ w0).flatten) (hk : ∀ q : Nat, q < H.size → ¬ va_A w0.flatten H.size q → H1[q]? = H[q]?) (hF : ∀ q, va_A w0.flatten H.size q → A q) (hP1 : va_P K.1 vwCl w1.flatten H1) (hD1 : va_D (va_A w0.flatten H.size) w1.flatten) : va_P K.1 vwCl (wr ++ w1).flatten H1 ∧ va_D A (wr ++ w1).flatten := by
  have hP' := VP_iff.mpr hP
  have hD' := VD_iff.mpr hD
  have hP1' := VP_iff.mpr hP1
  have hD1' := VD_iff.mpr hD1
  rw [List.flatten_append] at hP' hD'
  have hn := hD'.1
  rw [List.map_append] at hn
  obtain ⟨n1, n2, n3⟩ := List.nodup_append.mp hn
  have apart : ∀ q ∈ wr.flatten, q.1 < H.size ∧ ¬ va_A w0.flatten H.size q.1 := by
    intro q hq
    have hl := (hP' q (List.mem_append_left _ hq)).lt
    refine ⟨hl, fun h => ?_⟩
    rcases h with ⟨k, e, h⟩ | h
    · exact n3 q.1 (List.mem_map_of_mem hq) q.1 (List.mem_map.mpr ⟨(q.1, e), List.mem_of_getElem? h, rfl⟩) rfl
    · omega
  refine ⟨VP_iff.mp fun q hq => ?_, VD_iff.mp ⟨?_, fun q hq => ?_⟩⟩
  · rw [List.flatten_append] at hq
    rcases List.mem_append.mp hq with h | h
    · exact (hP' q (List.mem_append_left _ h)).kept (hk q.1 (apart q h).1 (apart q h).2)
    · exact hP1' q h
  · rw [List.flatten_append, List.map_append]
    refine List.nodup_append.mpr ⟨n1, hD1'.1, fun a ha b hb2 hab => ?_⟩
    obtain ⟨x, hx, rfl⟩ := List.mem_map.mp ha
    obtain ⟨y, hy, rfl⟩ := List.mem_map.mp hb2
    exact (apart x hx).2 (by rw [hab]; exact hD1'.2 y hy)
  · rw [List.flatten_append] at hq
    rcases List.mem_append.mp hq with h | h
    · exact hD'.2 q (List.mem_append_left _ h)
    · exact hF q.1 (hD1'.2 q h)
theorem J_backR {l : Launch} {K : KT} {A : Nat → Prop} {H0 : Heap} {p : Program} {e : Env} {R : Room} {s : State} {m : MethodId} {args : Array Value} {below : List Frame} {meth : Method} {c : Code} {Q : State → Prop} {H : Heap} {locs : List Loc} {ls : Array Slot} {cells slots mc ms pc : Nat} {st rest : List Value} {wr w0 : List va_W} {Pst : Option Value → List va_W → Prop} {a : Array Value}
    (hr : va_Run p l e R s m args below meth c H locs cells slots mc ms (F0 m pc ls st) rest (Qof K w0 Pst H.size a) (va_A w0.flatten H.size))
    (hP : va_P K.1 vwCl (wr ++ w0).flatten H) (hD : va_D A (wr ++ w0).flatten) (hS : va_S A H0 H locs) (hA : ∀ q, H0.size ≤ q → A q)
    (kk : ∀ (rv : Option Value) (w1 : List va_W), Pst rv w1 → ∀ (H1 : Heap) (locs1 : List Loc), va_P K.1 vwCl (wr ++ w1).flatten H1 → va_D A (wr ++ w1).flatten → va_S A H0 H1 locs1 → W p l e R s m args below meth c H1 locs1 (cells + mc) (slots + ms) Q (F0 m (pc + 3) ls (rv.toList ++ rest))) :
    W p l e R s m args below meth c H locs cells slots Q (F0 m pc ls st) := by
  intro T hT X
  obtain ⟨v, st₀, t, T', L, h0, X', hL, e1, e2, ⟨rv, w1, hv, hp, hP1, hD1, hz, hk⟩, stp⟩ := hr T hT X
  cases hv
  rw [h0] at hz hk
  have hc0 := fl_callee hP hD
  have hF : ∀ q, va_A w0.flatten H.size q → A q := fl_free (K := K) hc0.2 hS hA
  have hb := fl_back hP hD hk hF hP1 hD1
  obtain ⟨t2, a1, b1⟩ := kk v w1 hp T'.heap (locs ++ L) (by rw [e1]; exact hb.1) hb.2
    ⟨Nat.le_trans hS.1 (by rw [e1]; exact hz), fun q h1 h2 => by rw [e1, hk q (Nat.lt_of_lt_of_le h1 hS.1) (fun z => h2 (hF q z))]; exact hS.2.1 q h1 h2, fun q hq => by
      rcases List.mem_append.mp hq with h | h
      · exact hS.2.2 q h
      · exact hF _ (hL q h)⟩ T' rfl X'
  exact ⟨t2, stp t2 a1, b1⟩
theorem J_callV (C0 : Cx G K l cc nL own Ts rm) {index : Nat} {y : MethodName} {bytes : ByteArray} {maxL : Nat} {ret : Option FieldType} {ws ws' : List Cond} {rmc : Room} {As rest : List Value} {wr w0 : List va_W} {Pst : Option Value → List va_W → Prop} {C : String} {T : u_T} {N ci b : Nat} {fs : List Value} (hM : CtP l K y ws rmc (.ref b :: As) w0 Pst) (hbs : bs = wr ++ w0) (hG : GoodIn Ts (wsV own index C y ws)) (hdg : decode cc pc = .ok (.invokevirtual index, 3)) (na : Nat) (q0 : Nat) (hrecv : (w0.flatten)[q0]? = some (b, .inr (ci, fs)) := by rfl) (hcl : vwCl[ci]? = some (C, T, N) := by rfl) (hw : ws = Cond.code y bytes maxL ret :: ws' := by rfl) (hd : y.cls = C ∧ y.cls ≠ "java/lang/invoke/MethodHandle" ∧ y.cls ≠ "java/lang/invoke/VarHandle" ∧ (parseMethodDescriptor y.desc).map (fun d => d.parameters.length) = some na := by decide +kernel) (hna : As.length = na := by rfl) (hR : rmc.frames + 1 ≤ rm.frames ∧ 8 + (maxL + 11) + rmc.locals ≤ rm.locals := by decide) (hf : cells + rmc.cells ≤ rm.cells ∧ slots + rmc.slots ≤ rm.slots := by decide) (hst : st = As.reverse ++ .ref b :: rest := by rfl) (hrs : (rest.map fun v => v.category).sum ≤ 8 := by exact Nat.le_of_ble_eq_true rfl) (kk : ∀ (rv : Option Value) (w1 : List va_W), Pst rv w1 → J G (wr ++ w1) lv (cells + rmc.cells) (slots + rmc.slots) (pc + 3) (rv.toList ++ rest)) : J G bs lv cells slots (pc) (st) := by
  obtain ⟨K, A, H0, nL', p, l, e, R, s, m, args, below, meth, c, Q⟩ := G
  obtain ⟨rfl, rfl, rfl, rfl, hx, hb, hml, ho, hts, ⟨hK, hN⟩, hA⟩ := C0
  intro H locs ls hP hD hS hl
  subst hbs
  subst hst
  have hc0 := fl_callee hP hD
  exact J_backR (va_runV (As := As) (rest := rest) ⟨hx, hb, hml, ho, hts⟩ (hM H.size) (cwV na hts hG hw rfl rfl hd hR) ⟨pof_blind, va_recv hK hc0.1 hcl hrecv, fun U hU hW => ⟨rfl, by rw [hU], by rw [hU]; exact hc0.1, KK.warm hW ⟨hK, hN⟩, hc0.2.weaken (fun _ _ _ _ => trivial)⟩⟩ rfl hna hl.1 rfl (lv_room hrs) hdg hf) hP hD hS hA (fun rv w1 hp H1 locs1 hP1 hD1 hS1 => kk rv w1 hp H1 locs1 ls hP1 hD1 hS1 hl)
theorem J_callVd (C0 : Cx G K l cc nL own Ts rm) {index : Nat} {y : MethodName} {bytes : ByteArray} {maxL : Nat} {ret : Option FieldType} {ws ws' : List Cond} {rmc : Room} {As rest : List Value} {w0 : List va_W} {rv : Option Value} {w1 : List va_W} {C : String} {T : u_T} {N ci b : Nat} {fs : List Value} (hM : Ct l K y ws rmc (.ref b :: As) w0 rv w1) (wr : List va_W) (bs1 : List va_W) (hG : GoodIn Ts (wsV own index C y ws)) (hdg : decode cc pc = .ok (.invokevirtual index, 3)) (na : Nat) (q0 : Nat) (hrecv : (w0.flatten)[q0]? = some (b, .inr (ci, fs)) := by rfl) (hcl : vwCl[ci]? = some (C, T, N) := by rfl) (hw : ws = Cond.code y bytes maxL ret :: ws' := by rfl) (hd : y.cls = C ∧ y.cls ≠ "java/lang/invoke/MethodHandle" ∧ y.cls ≠ "java/lang/invoke/VarHandle" ∧ (parseMethodDescriptor y.desc).map (fun d => d.parameters.length) = some na := by decide +kernel) (hna : As.length = na := by rfl) (hR : rmc.frames + 1 ≤ rm.frames ∧ 8 + (maxL + 11) + rmc.locals ≤ rm.locals := by decide) (hf : cells + rmc.cells ≤ rm.cells ∧ slots + rmc.slots ≤ rm.slots := by decide) (hbs : bs = wr ++ w0 := by rfl) (hb1 : wr ++ w1 = bs1 := by rfl) (hst : st = As.reverse ++ .ref b :: rest := by rfl) (hrs : (rest.map fun v => v.category).sum ≤ 8 := by exact Nat.le_of_ble_eq_true rfl) (kk : J G bs1 lv (cells + rmc.cells) (slots + rmc.slots) (pc + 3) (rv.toList ++ rest)) : J G bs lv cells slots (pc) (st) := by
  subst hb1
  refine J_callV C0 (wr := wr) (rest := rest) hM hbs hG hdg na q0 hrecv hcl hw hd hna hR hf hst hrs (fun rv2 w2 h2 => ?_)
  obtain ⟨rfl, rfl⟩ := h2
  exact kk
theorem J_callS (C0 : Cx G K l cc nL own Ts rm) {index : Nat} {y : MethodName} {bytes : ByteArray} {maxL : Nat} {ret : Option FieldType} {ws ws' : List Cond} {rmc : Room} {As rest : List Value} {wr w0 : List va_W} {Pst : Option Value → List va_W → Prop}  (hM : CtP l K y ws rmc (As) w0 Pst) (hbs : bs = wr ++ w0) (hG : GoodIn Ts (va_wsS own index y ws)) (hdg : decode cc pc = .ok (.invokestatic index, 3)) (na : Nat) (hw : ws = Cond.code y bytes maxL ret :: ws' := by rfl) (hd : y.cls ≠ "java/lang/invoke/MethodHandle" ∧ y.cls ≠ "java/lang/invoke/VarHandle" ∧ (parseMethodDescriptor y.desc).map (fun d => d.parameters.length) = some na := by decide +kernel) (hna : As.length = na := by rfl) (hR : rmc.frames + 1 ≤ rm.frames ∧ 8 + (maxL + 11) + rmc.locals ≤ rm.locals := by decide) (hf : cells + rmc.cells ≤ rm.cells ∧ slots + rmc.slots ≤ rm.slots := by decide) (hst : st = As.reverse ++ rest := by rfl) (hrs : (rest.map fun v => v.category).sum ≤ 8 := by exact Nat.le_of_ble_eq_true rfl) (kk : ∀ (rv : Option Value) (w1 : List va_W), Pst rv w1 → J G (wr ++ w1) lv (cells + rmc.cells) (slots + rmc.slots) (pc + 3) (rv.toList ++ rest)) : J G bs lv cells slots (pc) (st) := by
  obtain ⟨K, A, H0, nL', p, l, e, R, s, m, args, below, meth, c, Q⟩ := G
  obtain ⟨rfl, rfl, rfl, rfl, hx, hb, hml, ho, hts, ⟨hK, hN⟩, hA⟩ := C0
  intro H locs ls hP hD hS hl
  subst hbs
  subst hst
  have hc0 := fl_callee hP hD
  exact J_backR (va_runS (As := As) (rest := rest) ⟨hx, hb, hml, ho, hts⟩ (hM H.size) (va_cwS na hts hG hw rfl rfl hd hR) ⟨pof_blind, fun U hU hW => ⟨rfl, by rw [hU], by rw [hU]; exact hc0.1, KK.warm hW ⟨hK, hN⟩, hc0.2.weaken (fun _ _ _ _ => trivial)⟩⟩ rfl hna hl.1 rfl (lv_room hrs) hdg hf) hP hD hS hA (fun rv w1 hp H1 locs1 hP1 hD1 hS1 => kk rv w1 hp H1 locs1 ls hP1 hD1 hS1 hl)
theorem J_callSd (C0 : Cx G K l cc nL own Ts rm) {index : Nat} {y : MethodName} {bytes : ByteArray} {maxL : Nat} {ret : Option FieldType} {ws ws' : List Cond} {rmc : Room} {As rest : List Value} {w0 : List va_W} {rv : Option Value} {w1 : List va_W}  (hM : Ct l K y ws rmc (As) w0 rv w1) (wr : List va_W) (bs1 : List va_W) (hG : GoodIn Ts (va_wsS own index y ws)) (hdg : decode cc pc = .ok (.invokestatic index, 3)) (na : Nat) (hw : ws = Cond.code y bytes maxL ret :: ws' := by rfl) (hd : y.cls ≠ "java/lang/invoke/MethodHandle" ∧ y.cls ≠ "java/lang/invoke/VarHandle" ∧ (parseMethodDescriptor y.desc).map (fun d => d.parameters.length) = some na := by decide +kernel) (hna : As.length = na := by rfl) (hR : rmc.frames + 1 ≤ rm.frames ∧ 8 + (maxL + 11) + rmc.locals ≤ rm.locals := by decide) (hf : cells + rmc.cells ≤ rm.cells ∧ slots + rmc.slots ≤ rm.slots := by decide) (hbs : bs = wr ++ w0 := by rfl) (hb1 : wr ++ w1 = bs1 := by rfl) (hst : st = As.reverse ++ rest := by rfl) (hrs : (rest.map fun v => v.category).sum ≤ 8 := by exact Nat.le_of_ble_eq_true rfl) (kk : J G bs1 lv (cells + rmc.cells) (slots + rmc.slots) (pc + 3) (rv.toList ++ rest)) : J G bs lv cells slots (pc) (st) := by
  subst hb1
  refine J_callS C0 (wr := wr) (rest := rest) hM hbs hG hdg na hw hd hna hR hf hst hrs (fun rv2 w2 h2 => ?_)
  obtain ⟨rfl, rfl⟩ := h2
  exact kk
theorem J_callI (C0 : Cx G K l cc nL own Ts rm) {index : Nat} {y : MethodName} {bytes : ByteArray} {maxL : Nat} {ret : Option FieldType} {ws ws' : List Cond} {rmc : Room} {As rest : List Value} {wr w0 : List va_W} {Pst : Option Value → List va_W → Prop} {b : Nat} (hM : CtP l K y ws rmc (.ref b :: As) w0 Pst) (hbs : bs = wr ++ w0) (hG : GoodIn Ts ws) (hini : Cond.initialized y.cls ∈ Ts) (hlk : Cond.methodLink own index y ∈ Ts) (hinst : Cond.instanceMethod y ∈ Ts) (hdg : decode cc pc = .ok (.invokespecial index, 3)) (na : Nat) (hw : ws = Cond.code y bytes maxL none :: ws' := by rfl) (hy1 : y.name = "<init>" := by rfl) (hd : y.cls ≠ "java/lang/invoke/MethodHandle" ∧ y.cls ≠ "java/lang/invoke/VarHandle" ∧ (parseMethodDescriptor y.desc).map (fun d => d.parameters.length) = some na := by decide +kernel) (hna : As.length = na := by rfl) (hR : rmc.frames + 1 ≤ rm.frames ∧ 8 + (maxL + 11) + rmc.locals ≤ rm.locals := by decide) (hf : cells + rmc.cells ≤ rm.cells ∧ slots + rmc.slots ≤ rm.slots := by decide) (hst : st = As.reverse ++ .ref b :: rest := by rfl) (hrs : (rest.map fun v => v.category).sum ≤ 8 := by exact Nat.le_of_ble_eq_true rfl) (kk : ∀ (rv : Option Value) (w1 : List va_W), Pst rv w1 → J G (wr ++ w1) lv (cells + rmc.cells) (slots + rmc.slots) (pc + 3) (rv.toList ++ rest)) : J G bs lv cells slots (pc) (st) := by
  obtain ⟨K, A, H0, nL', p, l, e, R, s, m, args, below, meth, c, Q⟩ := G
  obtain ⟨rfl, rfl, rfl, rfl, hx, hb, hml, ho, hts, ⟨hK, hN⟩, hA⟩ := C0
  intro H locs ls hP hD hS hl
  subst hbs
  subst hst
  have hc0 := fl_callee hP hD
  exact J_backR (va_runI (As := As) (rest := rest) ⟨hx, hb, hml, ho, hts⟩ (hM H.size) (cwI na hts hG hw rfl rfl (hts _ hini) (hts _ hlk) (hts _ hinst) hy1 hd hR) ⟨pof_blind, fun U hU hW => ⟨rfl, by rw [hU], by rw [hU]; exact hc0.1, KK.warm hW ⟨hK, hN⟩, hc0.2.weaken (fun _ _ _ _ => trivial)⟩⟩ rfl hna hl.1 rfl (lv_room hrs) hdg hf) hP hD hS hA (fun rv w1 hp H1 locs1 hP1 hD1 hS1 => kk rv w1 hp H1 locs1 ls hP1 hD1 hS1 hl)
theorem J_callId (C0 : Cx G K l cc nL own Ts rm) {index : Nat} {y : MethodName} {bytes : ByteArray} {maxL : Nat} {ret : Option FieldType} {ws ws' : List Cond} {rmc : Room} {As rest : List Value} {w0 : List va_W} {rv : Option Value} {w1 : List va_W} {b : Nat} (hM : Ct l K y ws rmc (.ref b :: As) w0 rv w1) (wr : List va_W) (bs1 : List va_W) (hG : GoodIn Ts ws) (hini : Cond.initialized y.cls ∈ Ts) (hlk : Cond.methodLink own index y ∈ Ts) (hinst : Cond.instanceMethod y ∈ Ts) (hdg : decode cc pc = .ok (.invokespecial index, 3)) (na : Nat) (hw : ws = Cond.code y bytes maxL none :: ws' := by rfl) (hy1 : y.name = "<init>" := by rfl) (hd : y.cls ≠ "java/lang/invoke/MethodHandle" ∧ y.cls ≠ "java/lang/invoke/VarHandle" ∧ (parseMethodDescriptor y.desc).map (fun d => d.parameters.length) = some na := by decide +kernel) (hna : As.length = na := by rfl) (hR : rmc.frames + 1 ≤ rm.frames ∧ 8 + (maxL + 11) + rmc.locals ≤ rm.locals := by decide) (hf : cells + rmc.cells ≤ rm.cells ∧ slots + rmc.slots ≤ rm.slots := by decide) (hbs : bs = wr ++ w0 := by rfl) (hb1 : wr ++ w1 = bs1 := by rfl) (hst : st = As.reverse ++ .ref b :: rest := by rfl) (hrs : (rest.map fun v => v.category).sum ≤ 8 := by exact Nat.le_of_ble_eq_true rfl) (kk : J G bs1 lv (cells + rmc.cells) (slots + rmc.slots) (pc + 3) (rv.toList ++ rest)) : J G bs lv cells slots (pc) (st) := by
  subst hb1
  refine J_callI C0 (ret := none) (wr := wr) (rest := rest) hM hbs hG hini hlk hinst hdg na hw hy1 hd hna hR hf hst hrs (fun rv2 w2 h2 => ?_)
  obtain ⟨rfl, rfl⟩ := h2
  exact kk
theorem J_callSN (C0 : Cx G K l cc nL own Ts rm) {index : Nat} {y : MethodName} {bytes : ByteArray} {maxL : Nat} {ret : Option FieldType} {ws ws' : List Cond} {rmc : Room} {As rest : List Value} {wr w0 : List va_W} {Pst : Option Value → List va_W → Prop}  (hM : CtP l K y ws rmc (As) w0 Pst) (hbs : bs = wr ++ w0) (hG : GoodIn Ts ws) (hini : Cond.initialized y.cls ∈ Ts) (hlk : (own, index, y) ∈ nestL) (hstt : Cond.static y ∈ Ts) (hdg : decode cc pc = .ok (.invokestatic index, 3)) (na : Nat) (hw : ws = Cond.code y bytes maxL ret :: ws' := by rfl) (hd : y.cls ≠ "java/lang/invoke/MethodHandle" ∧ y.cls ≠ "java/lang/invoke/VarHandle" ∧ (parseMethodDescriptor y.desc).map (fun d => d.parameters.length) = some na := by decide +kernel) (hna : As.length = na := by rfl) (hR : rmc.frames + 1 ≤ rm.frames ∧ 8 + (maxL + 11) + rmc.locals ≤ rm.locals := by decide) (hf : cells + rmc.cells ≤ rm.cells ∧ slots + rmc.slots ≤ rm.slots := by decide) (hst : st = As.reverse ++ rest := by rfl) (hrs : (rest.map fun v => v.category).sum ≤ 8 := by exact Nat.le_of_ble_eq_true rfl) (kk : ∀ (rv : Option Value) (w1 : List va_W), Pst rv w1 → J G (wr ++ w1) lv (cells + rmc.cells) (slots + rmc.slots) (pc + 3) (rv.toList ++ rest)) : J G bs lv cells slots (pc) (st) := by
  obtain ⟨K, A, H0, nL', p, l, e, R, s, m, args, below, meth, c, Q⟩ := G
  obtain ⟨rfl, rfl, rfl, rfl, hx, hb, hml, ho, hts, ⟨hK, hN⟩, hA⟩ := C0
  intro H locs ls hP hD hS hl
  subst hbs
  subst hst
  have hc0 := fl_callee hP hD
  exact J_backR (va_runSN (host := RX4) (As := As) (rest := rest) ⟨hx, hb, hml, ho, hts⟩ (hM H.size) ⟨va_cnB na hts hG hw rfl rfl (hN.1 _ hlk) (hts _ hini) hd hR, hts _ hstt, trivial⟩ ⟨pof_blind, fun U hU hW => ⟨rfl, by rw [hU], by rw [hU]; exact hc0.1, KK.warm hW ⟨hK, hN⟩, hc0.2.weaken (fun _ _ _ _ => trivial)⟩⟩ rfl hna hl.1 rfl (lv_room hrs) hdg hf) hP hD hS hA (fun rv w1 hp H1 locs1 hP1 hD1 hS1 => kk rv w1 hp H1 locs1 ls hP1 hD1 hS1 hl)
theorem J_callSNd (C0 : Cx G K l cc nL own Ts rm) {index : Nat} {y : MethodName} {bytes : ByteArray} {maxL : Nat} {ret : Option FieldType} {ws ws' : List Cond} {rmc : Room} {As rest : List Value} {w0 : List va_W} {rv : Option Value} {w1 : List va_W}  (hM : Ct l K y ws rmc (As) w0 rv w1) (wr : List va_W) (bs1 : List va_W) (hG : GoodIn Ts ws) (hini : Cond.initialized y.cls ∈ Ts) (hlk : (own, index, y) ∈ nestL) (hstt : Cond.static y ∈ Ts) (hdg : decode cc pc = .ok (.invokestatic index, 3)) (na : Nat) (hw : ws = Cond.code y bytes maxL ret :: ws' := by rfl) (hd : y.cls ≠ "java/lang/invoke/MethodHandle" ∧ y.cls ≠ "java/lang/invoke/VarHandle" ∧ (parseMethodDescriptor y.desc).map (fun d => d.parameters.length) = some na := by decide +kernel) (hna : As.length = na := by rfl) (hR : rmc.frames + 1 ≤ rm.frames ∧ 8 + (maxL + 11) + rmc.locals ≤ rm.locals := by decide) (hf : cells + rmc.cells ≤ rm.cells ∧ slots + rmc.slots ≤ rm.slots := by decide) (hbs : bs = wr ++ w0 := by rfl) (hb1 : wr ++ w1 = bs1 := by rfl) (hst : st = As.reverse ++ rest := by rfl) (hrs : (rest.map fun v => v.category).sum ≤ 8 := by exact Nat.le_of_ble_eq_true rfl) (kk : J G bs1 lv (cells + rmc.cells) (slots + rmc.slots) (pc + 3) (rv.toList ++ rest)) : J G bs lv cells slots (pc) (st) := by
  subst hb1
  refine J_callSN C0 (wr := wr) (rest := rest) hM hbs hG hini hlk hstt hdg na hw hd hna hR hf hst hrs (fun rv2 w2 h2 => ?_)
  obtain ⟨rfl, rfl⟩ := h2
  exact kk
theorem J_callIN (C0 : Cx G K l cc nL own Ts rm) {index : Nat} {y : MethodName} {bytes : ByteArray} {maxL : Nat} {ret : Option FieldType} {ws ws' : List Cond} {rmc : Room} {As rest : List Value} {wr w0 : List va_W} {Pst : Option Value → List va_W → Prop} {b : Nat} (hM : CtP l K y ws rmc (.ref b :: As) w0 Pst) (hbs : bs = wr ++ w0) (hG : GoodIn Ts ws) (hini : Cond.initialized y.cls ∈ Ts) (hlk : (own, index, y) ∈ nestL) (hinst : Cond.instanceMethod y ∈ Ts) (hdg : decode cc pc = .ok (.invokespecial index, 3)) (na : Nat) (hw : ws = Cond.code y bytes maxL none :: ws' := by rfl) (hy1 : y.name = "<init>" := by rfl) (hd : y.cls ≠ "java/lang/invoke/MethodHandle" ∧ y.cls ≠ "java/lang/invoke/VarHandle" ∧ (parseMethodDescriptor y.desc).map (fun d => d.parameters.length) = some na := by decide +kernel) (hna : As.length = na := by rfl) (hR : rmc.frames + 1 ≤ rm.frames ∧ 8 + (maxL + 11) + rmc.locals ≤ rm.locals := by decide) (hf : cells + rmc.cells ≤ rm.cells ∧ slots + rmc.slots ≤ rm.slots := by decide) (hst : st = As.reverse ++ .ref b :: rest := by rfl) (hrs : (rest.map fun v => v.category).sum ≤ 8 := by exact Nat.le_of_ble_eq_true rfl) (kk : ∀ (rv : Option Value) (w1 : List va_W), Pst rv w1 → J G (wr ++ w1) lv (cells + rmc.cells) (slots + rmc.slots) (pc + 3) (rv.toList ++ rest)) : J G bs lv cells slots (pc) (st) := by
  obtain ⟨K, A, H0, nL', p, l, e, R, s, m, args, below, meth, c, Q⟩ := G
  obtain ⟨rfl, rfl, rfl, rfl, hx, hb, hml, ho, hts, ⟨hK, hN⟩, hA⟩ := C0
  intro H locs ls hP hD hS hl
  subst hbs
  subst hst
  have hc0 := fl_callee hP hD
  exact J_backR (va_runIN (As := As) (rest := rest) ⟨hx, hb, hml, ho, hts⟩ (hM H.size) ⟨va_cnB na hts hG hw rfl rfl (hN.1 _ hlk) (hts _ hini) hd hR, hy1, hts _ hinst⟩ ⟨pof_blind, fun U hU hW => ⟨rfl, by rw [hU], by rw [hU]; exact hc0.1, KK.warm hW ⟨hK, hN⟩, hc0.2.weaken (fun _ _ _ _ => trivial)⟩⟩ rfl hna hl.1 rfl (lv_room hrs) hdg hf) hP hD hS hA (fun rv w1 hp H1 locs1 hP1 hD1 hS1 => kk rv w1 hp H1 locs1 ls hP1 hD1 hS1 hl)
theorem J_callINd (C0 : Cx G K l cc nL own Ts rm) {index : Nat} {y : MethodName} {bytes : ByteArray} {maxL : Nat} {ret : Option FieldType} {ws ws' : List Cond} {rmc : Room} {As rest : List Value} {w0 : List va_W} {rv : Option Value} {w1 : List va_W} {b : Nat} (hM : Ct l K y ws rmc (.ref b :: As) w0 rv w1) (wr : List va_W) (bs1 : List va_W) (hG : GoodIn Ts ws) (hini : Cond.initialized y.cls ∈ Ts) (hlk : (own, index, y) ∈ nestL) (hinst : Cond.instanceMethod y ∈ Ts) (hdg : decode cc pc = .ok (.invokespecial index, 3)) (na : Nat) (hw : ws = Cond.code y bytes maxL none :: ws' := by rfl) (hy1 : y.name = "<init>" := by rfl) (hd : y.cls ≠ "java/lang/invoke/MethodHandle" ∧ y.cls ≠ "java/lang/invoke/VarHandle" ∧ (parseMethodDescriptor y.desc).map (fun d => d.parameters.length) = some na := by decide +kernel) (hna : As.length = na := by rfl) (hR : rmc.frames + 1 ≤ rm.frames ∧ 8 + (maxL + 11) + rmc.locals ≤ rm.locals := by decide) (hf : cells + rmc.cells ≤ rm.cells ∧ slots + rmc.slots ≤ rm.slots := by decide) (hbs : bs = wr ++ w0 := by rfl) (hb1 : wr ++ w1 = bs1 := by rfl) (hst : st = As.reverse ++ .ref b :: rest := by rfl) (hrs : (rest.map fun v => v.category).sum ≤ 8 := by exact Nat.le_of_ble_eq_true rfl) (kk : J G bs1 lv (cells + rmc.cells) (slots + rmc.slots) (pc + 3) (rv.toList ++ rest)) : J G bs lv cells slots (pc) (st) := by
  subst hb1
  refine J_callIN C0 (ret := none) (wr := wr) (rest := rest) hM hbs hG hini hlk hinst hdg na hw hy1 hd hna hR hf hst hrs (fun rv2 w2 h2 => ?_)
  obtain ⟨rfl, rfl⟩ := h2
  exact kk
end JR
