section JN
variable {K : KT} {l : Launch} {cc : ByteArray} {nL : Nat} {own : String} {Ts : List Cond} {rm : Room} {G : JC} {bs : List va_W} {lv : List (Nat × Value)} {cells slots pc : Nat} {st : List Value}

theorem J_putF (C0 : Cx G K l cc nL own Ts rm) {C : String} {T : u_T} {N index ci a : Nat} {fs : List Value} {v : Value} {blk : va_W} {ty : FieldType} (hin : ∀ w ∈ u_ws C T N, w ∈ Ts) {ty0 : Nat → FieldType} (hty : ∀ k, k < N → parseFieldDescriptor (T k).2.2.1 = some (ty0 k)) (hnm : ∀ a, a < N → ∀ b, b < N → a ≠ b → (T a).2.1 ≠ (T b).2.1) (q k f : Nat) (bs' : List va_W) (hlink : Cond.fieldLink own index (T f).1 (T f).2.1 (T f).2.2.1 ∈ Ts) (hdg : decode cc pc = .ok (.putfield index, 3)) (hq : bs[q]? = some blk := by rfl) (hk : blk[k]? = some (a, .inr (ci, fs)) := by rfl) (hc : vwCl[ci]? = some (C, T, N) := by rfl) (hf : f < N := by decide) (hI : IsInit G) (hdecl : (T f).1 = own := by rfl) (hfin : (T f).2.2.2 = true := by rfl) (hd : parseFieldDescriptor (T f).2.2.1 = some ty) (hn : narrow ty v = v := by rfl) (hfit : fits ty v = true := by rfl) (hl3 : f < fs.length := by exact Nat.le_of_ble_eq_true rfl) (hb2 : bs.set q (blk.set k (a, .inr (ci, fs.set f v))) = bs' := by rfl) (kk : J G bs' lv cells slots (pc + 3) (st)) : J G bs lv cells slots (pc) (v :: .ref a :: st) := by
  obtain ⟨K, A, H0, nL', p, l, e, R, s, m, args, below, meth, c, Q⟩ := G
  obtain ⟨rfl, rfl, rfl, rfl, hx, hb, hml, ho, hts, ⟨hK, hN⟩, hA⟩ := C0
  intro H locs ls hP hD hS hl
  obtain ⟨i, hi, hset⟩ := fl_set hq hk
  subst hb2
  exact va_putF (D := K.1) hx hb hts hin ty0 hty hnm ho hK hP hD hS i hi hc f hf (hts _ hlink) (fun _ h9 => h9) hfin hI hdecl hd hn hfit hl3 hdg (fun H1 locs1 hP1 hD1 hS1 => kk H1 locs1 ls (by rw [hset]; exact hP1) (by rw [hset]; exact hD1) hS1 hl)
theorem J_newaI (C0 : Cx G K l cc nL own Ts rm) {n : Nat} (hdg : decode cc pc = .ok (.newarray .int, 2)) (harr : Cond.arrayClass .int ∈ Ts) (hn : n < 1000) (hcells : cells + 1 ≤ rm.cells := by decide) (hslots : slots + n ≤ rm.slots := by decide) (kk : ∀ q : Nat, J G (bs ++ [[(q, .inl (kI K, n, .inl (fun _ => 0)))]]) lv (cells + 1) (slots + n) (pc + 2) (.ref q :: st)) : J G bs lv cells slots (pc) (.int (nI n) :: st) := by
  obtain ⟨K, A, H0, nL', p, l, e, R, s, m, args, below, meth, c, Q⟩ := G
  obtain ⟨rfl, rfl, rfl, rfl, hx, hb, hml, ho, hts, ⟨hK, hN⟩, hA⟩ := C0
  intro H locs ls hP hD hS hl
  refine va_newaK (atype := .int) hx hb (hts _ harr) rfl hdg rfl (nI_pos (by omega)) (nI_clamp (by omega)) (by show n * 4 ≤ 536870912; omega) hcells hslots rfl fun H1 cA e1 z1 o1 hAr hNm => ?_
  have hc : cA = kI K := Option.some.inj (hNm.symm.trans (hK.2 0 (kI K, .int) rfl).2)
  subst hc
  have hk : ∀ (k : Nat) (x : Nat × va_E), (bs.flatten)[k]? = some x → H1[x.1]? = H[x.1]? := fun k x hx => o1 x.1 ((hP k x hx).lt)
  have ef : (bs ++ [[(H.size, (.inl (kI K, n, .inl (fun _ => 0)) : va_E))]]).flatten = bs.flatten ++ [(H.size, .inl (kI K, n, .inl (fun _ => 0)))] := by simp
  refine kk H.size H1 locs ls ?_ ?_ ⟨Nat.le_trans hS.1 (by omega), fun x h1 h2 => (o1 x (Nat.lt_of_lt_of_le h1 hS.1)).trans (hS.2.1 x h1 h2), hS.2.2⟩ hl
  · rw [ef]
    refine (hP.kept hk).app (fun k x hx => ?_)
    have hz : k < 1 := (List.getElem?_eq_some_iff.mp hx).1
    rw [show k = 0 by omega] at hx
    cases hx
    exact e1
  · rw [ef]
    exact hD.push hP rfl (hA _ hS.1)
theorem J_newaZ (C0 : Cx G K l cc nL own Ts rm) {n : Nat} (hdg : decode cc pc = .ok (.newarray .boolean, 2)) (harr : Cond.arrayClass .boolean ∈ Ts) (hn : n < 1000) (hcells : cells + 1 ≤ rm.cells := by decide) (hslots : slots + n ≤ rm.slots := by decide) (kk : ∀ q : Nat, J G (bs ++ [[(q, .inl (kZ K, n, .inl (fun _ => 0)))]]) lv (cells + 1) (slots + n) (pc + 2) (.ref q :: st)) : J G bs lv cells slots (pc) (.int (nI n) :: st) := by
  obtain ⟨K, A, H0, nL', p, l, e, R, s, m, args, below, meth, c, Q⟩ := G
  obtain ⟨rfl, rfl, rfl, rfl, hx, hb, hml, ho, hts, ⟨hK, hN⟩, hA⟩ := C0
  intro H locs ls hP hD hS hl
  refine va_newaK (atype := .boolean) hx hb (hts _ harr) rfl hdg rfl (nI_pos (by omega)) (nI_clamp (by omega)) (by show n * 1 ≤ 536870912; omega) hcells hslots rfl fun H1 cA e1 z1 o1 hAr hNm => ?_
  have hc : cA = kZ K := Option.some.inj (hNm.symm.trans (hK.2 1 (kZ K, .boolean) rfl).2)
  subst hc
  have hk : ∀ (k : Nat) (x : Nat × va_E), (bs.flatten)[k]? = some x → H1[x.1]? = H[x.1]? := fun k x hx => o1 x.1 ((hP k x hx).lt)
  have ef : (bs ++ [[(H.size, (.inl (kZ K, n, .inl (fun _ => 0)) : va_E))]]).flatten = bs.flatten ++ [(H.size, .inl (kZ K, n, .inl (fun _ => 0)))] := by simp
  refine kk H.size H1 locs ls ?_ ?_ ⟨Nat.le_trans hS.1 (by omega), fun x h1 h2 => (o1 x (Nat.lt_of_lt_of_le h1 hS.1)).trans (hS.2.1 x h1 h2), hS.2.2⟩ hl
  · rw [ef]
    refine (hP.kept hk).app (fun k x hx => ?_)
    have hz : k < 1 := (List.getElem?_eq_some_iff.mp hx).1
    rw [show k = 0 by omega] at hx
    cases hx
    exact e1
  · rw [ef]
    exact hD.push hP rfl (hA _ hS.1)
theorem J_anew (C0 : Cx G K l cc nL own Ts rm) {n index : Nat} (hdg : decode cc pc = .ok (.anewarray index, 3)) (hcl : Cond.classLink own index RX0 ∈ Ts) (hn : n < 1000) (hcells : cells + 1 ≤ rm.cells := by decide) (hslots : slots + n ≤ rm.slots := by decide) (kk : ∀ q : Nat, J G (bs ++ [[(q, .inl (kO K, n, .inr (.inr (.inr (.inr (fun _ => none))))))]]) lv (cells + 1) (slots + n) (pc + 3) (.ref q :: st)) : J G bs lv cells slots (pc) (.int (nI n) :: st) := by
  obtain ⟨K, A, H0, nL', p, l, e, R, s, m, args, below, meth, c, Q⟩ := G
  obtain ⟨rfl, rfl, rfl, rfl, hx, hb, hml, ho, hts, ⟨hK, hN⟩, hA⟩ := C0
  intro H locs ls hP hD hS hl
  refine va_newq hx hb ho (hts _ hcl) hN.2 hK hP hD hS hA (nI_pos (by omega)) (nI_clamp (by omega)) (by omega) hcells hslots hdg fun q cA H1 hK2 hP1 hD1 hS1 => ?_
  obtain ⟨kA, comp, -, -, -, g1⟩ := (hK2.2 3 (cA, .object RX0) rfl).2
  obtain ⟨kB, comp2, -, -, -, g2⟩ := (hK.2 2 (kO K, .object RX0) rfl).2
  have hc : cA = kO K := Option.some.inj (g1.symm.trans g2)
  subst hc
  have ef : (bs ++ [[(q, (.inl (kO K, n, .inr (.inr (.inr (.inr (fun _ => none)))))  : va_E))]]).flatten = bs.flatten ++ [(q, .inl (kO K, n, .inr (.inr (.inr (.inr (fun _ => none))))))] := by simp
  exact kk q H1 locs ls (by rw [ef]; exact hP1) (by rw [ef]; exact hD1) hS1 hl
theorem J_new (C0 : Cx G K l cc nL own Ts rm) {C : String} {T : u_T} {N ci index : Nat} (hin : ∀ w ∈ u_ws C T N, w ∈ Ts) (ty : Nat → FieldType) (hty : ∀ k, k < N → parseFieldDescriptor (T k).2.2.1 = some (ty k)) (hcl : Cond.classLink own index C ∈ Ts) (hinst : Cond.instantiable C N ∈ Ts) (hini : Cond.initialized C ∈ Ts) (fs : List Value) (hfs : ∀ j, j < N → defaultValue (ty j) = vp_V fs j) (hdg : decode cc pc = .ok (.new index, 3)) (hc : vwCl[ci]? = some (C, T, N) := by rfl) (hcells : cells + 1 ≤ rm.cells := by decide) (hslots : slots + N ≤ rm.slots := by decide) (kk : ∀ q : Nat, J G (bs ++ [[(q, .inr (ci, fs))]]) lv (cells + 1) (slots + N) (pc + 3) (.ref q :: st)) : J G bs lv cells slots (pc) (st) := by
  obtain ⟨K, A, H0, nL', p, l, e, R, s, m, args, below, meth, c, Q⟩ := G
  obtain ⟨rfl, rfl, rfl, rfl, hx, hb, hml, ho, hts, ⟨hK, hN⟩, hA⟩ := C0
  intro H locs ls hP hD hS hl
  refine va_new hx hb hts hin ty hty ho (hts _ hcl) (hts _ hinst) (hts _ hini) hK hP hD hS hA hc hfs hcells hslots hdg fun q H1 hP1 hD1 hS1 => ?_
  have ef : (bs ++ [[(q, (.inr (ci, fs) : va_E))]]).flatten = bs.flatten ++ [(q, .inr (ci, fs))] := by simp
  exact kk q H1 locs ls (by rw [ef]; exact hP1) (by rw [ef]; exact hD1) hS1 hl
theorem J_objInit (C0 : Cx G K l cc nL own Ts rm) {a index : Nat} (hlk : Cond.methodLink own index objectInit ∈ Ts) (hinst : Cond.instanceMethod objectInit ∈ Ts) (hcode : Cond.code objectInit ⟨#[0xb1]⟩ 1 none ∈ Ts) (hdg : decode cc pc = .ok (.invokespecial index, 3)) (hfr : 1 ≤ rm.frames := by decide) (hlo : 30 ≤ rm.locals := by decide) (hrs : (st.map fun v => v.category).sum ≤ 8 := by exact Nat.le_of_ble_eq_true rfl) (kk : J G bs lv cells slots (pc + 3) (st)) : J G bs lv cells slots (pc) (.ref a :: st) := by
  obtain ⟨K, A, H0, nL', p, l, e, R, s, m, args, below, meth, c, Q⟩ := G
  obtain ⟨rfl, rfl, rfl, rfl, hx, hb, hml, ho, hts, ⟨hK, hN⟩, hA⟩ := C0
  intro H locs ls hP hD hS hl
  have hm0 : (F0 m pc ls (Value.ref a :: st)).monitorRoom = 0 := rfl
  refine W.objInit hx hb ho (hts _ hlk) (hts _ hinst) (hts _ hcode) rfl (by rw [hml]; exact hl.1) rfl hdg (by omega) (by omega) ?_
  exact kk H locs ls hP hD hS hl
end JN
