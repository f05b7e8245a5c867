section JM
variable {K : KT} {l : Launch} {cc : ByteArray} {nL : Nat} {own : String} {Ts : List Cond} {rm : Room} {G : JC} {bs : List va_W} {lv : List (Nat × Value)} {cells slots pc : Nat} {st : List Value}

theorem J_ldl (C0 : Cx G K l cc nL own Ts rm) {index : Nat} {v : Int64} (hcn : Cond.constantLong own index v ∈ Ts) (hdg : decode cc pc = .ok (.ldc2_w index, 3)) (kk : J G bs lv cells slots (pc + 3) (.long v :: st)) : J G bs lv cells slots (pc) (st) := by
  obtain ⟨K, A, H0, nL', p, l, e, R, s, m, args, below, meth, c, Q⟩ := G
  obtain ⟨rfl, rfl, rfl, rfl, hx, hb, hml, ho, hts, ⟨hK, hN⟩, hA⟩ := C0
  intro H locs ls hP hD hS hl
  exact lv_ldc2 hx hb ho (hts _ hcn) hdg (kk H locs ls hP hD hS hl)
theorem J_ldd (C0 : Cx G K l cc nL own Ts rm) {index : Nat} {v : UInt64} (hcn : Cond.constantDouble own index v ∈ Ts) (hdg : decode cc pc = .ok (.ldc2_w index, 3)) (kk : J G bs lv cells slots (pc + 3) (.double v :: st)) : J G bs lv cells slots (pc) (st) := by
  obtain ⟨K, A, H0, nL', p, l, e, R, s, m, args, below, meth, c, Q⟩ := G
  obtain ⟨rfl, rfl, rfl, rfl, hx, hb, hml, ho, hts, ⟨hK, hN⟩, hA⟩ := C0
  intro H locs ls hP hD hS hl
  exact lv_ldc2d hx hb ho (hts _ hcn) hdg (kk H locs ls hP hD hS hl)
theorem J_lshl (C0 : Cx G K l cc nL own Ts rm) {x v : Int64} {y : Int32} (hdg : decode cc pc = .ok (.lshl, 1)) (hv : x <<< (y.toInt64 &&& 63) = v) (kk : J G bs lv cells slots (pc + 1) (.long v :: st)) : J G bs lv cells slots (pc) (.int y :: .long x :: st) := by
  obtain ⟨K, A, H0, nL', p, l, e, R, s, m, args, below, meth, c, Q⟩ := G
  obtain ⟨rfl, rfl, rfl, rfl, hx, hb, hml, ho, hts, ⟨hK, hN⟩, hA⟩ := C0
  intro H locs ls hP hD hS hl
  exact lv_lshl hx hb hdg hv (kk H locs ls hP hD hS hl)
end JM
def mixL (h v : Int64) : Int64 := 31 * h + v
def mixF (g : Nat → Int32) : Nat → Nat → Int64 → Int64
  | 0, _, h => h
  | q + 1, i, h => mixF g q (i + 1) (mixL h (g i).toInt64)
def mix2 (g : Nat → Nat → Int32) (m : Nat) : Nat → Nat → Int64 → Int64
  | 0, _, h => h
  | q + 1, i, h => mix2 g m q (i + 1) (mixF (g i) m 0 h)
