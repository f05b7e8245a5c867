/-! the law's cases over the relation; its loop -/
def Kont (G : JC) (K : KT) (b nA aA a : Nat → Nat) (d : Nat → Nat → Nat) (o sb i cells slots B : Nat) : Prop := ∀ (k nt : Nat) (e : Nat → Nat → Nat) (F Ga : FF) (D S : Nat → FF) (T : FF) (g P L : Nat → Int32) (M : FF) (lf : Nat → Int64), Rel B k nt F D S T P L M → J G ([modR K a (flat F) g P L M] ++ (outW K o lf :: corkW K b nA aA d e F Ga D S T)) [(0, .ref sb), (1, .ref (b 0)), (2, .ref (a 0)), (3, .ref o), (4, .int (nI i))] cells slots 1424 []
theorem J_widen {K : KT} {l : Launch} {cc : ByteArray} {nL : Nat} {own : String} {Ts : List Cond} {rm : Room} {G : JC} {bs : List va_W} {lv : List (Nat × Value)} {cells slots pc : Nat} {st : List Value} (C0 : Cx G K l cc nL own Ts rm) {c2 s2 : Nat} (h1 : cells ≤ c2) (h2 : slots ≤ s2) (kk : J G bs lv c2 s2 pc st) : J G bs lv cells slots pc st := by
  obtain ⟨K, A, H0, nL', p, l, e, R, s, m, args, below, meth, c, Q⟩ := G
  intro H locs ls hP hD hS hl
  exact W.widen h1 h2 (kk H locs ls hP hD hS hl)
section LP
variable {K : KT} {l : Launch} {G : JC} {tl tg sb Ln : Nat} {xs : Nat → Int32} {i cells slots o : Nat} {b nA aA a : Nat → Nat} {d e : Nat → Nat → Nat} {F Ga : FF} {D S : Nat → FF} {T : FF} {g P L : Nat → Int32} {M : FF} {lf : Nat → Int64} {B k nt : Nat}
theorem slot_ok {T M : FF} {k nt : Nat} (h : RS T M k nt) {i : Nat} (hi : i < 2) : (M 1 i).toInt64 = slotL (M 1 i) := by
  rcases h.2.2.2.2 i hi with q | q <;> rw [q] <;> decide

theorem go_house (C0 : Cx G K l cL_law 9 RL wsL_law room_1) (hX : FnlS G tl tg sb Ln xs) (hL : Ln ≤ 2048) (hst : l.stackTraces = false) (hi : i + 3 < Ln) (hc : cells ≤ 600000) (hs : slots ≤ 7000000) (hB : B < 2 ^ 26) (hR : Rel B k nt F D S T P L M) (hK : Kont G K b nA aA a d o sb i (cells + 1) (slots + 6) (B + 7000)) : J G ([modR K a (flat F) g P L M] ++ (outW K o lf :: corkW K b nA aA d e F Ga D S T)) [(0, .ref sb), (1, .ref (b 0)), (2, .ref (a 0)), (3, .ref o), (4, .int (nI i))] cells slots 156 [] := by
  obtain ⟨k1, v, lf1, e1, F1, Ga1, D1, S1, T1, Φ, hk, hW, hm, hv, hΦ⟩ := pr_house (tl := tl) (tg := tg) (o := o) (b := b) (nA := nA) (aA := aA) (a := a) (d := d) (e := e) (Ga := Ga) (g := g) (lf := lf) (K := K) hst hR hB 
  refine law_house C0 hX hL hi hc hs rfl hk hW hm hv (fun F2 g2 P2 L2 M2 h => ?_)
  obtain ⟨rfl, k', nt', hR'⟩ := hΦ F2 g2 P2 L2 M2 h
  exact hK k' nt' e1 F2 Ga1 D1 S1 T1 g2 P2 L2 M2 lf1 hR'

theorem go_bottles (C0 : Cx G K l cL_law 9 RL wsL_law room_1) (hX : FnlS G tl tg sb Ln xs) (hL : Ln ≤ 2048) (hst : l.stackTraces = false) (hi : i + 3 < Ln) (hc : cells ≤ 600000) (hs : slots ≤ 7000000) (hB : B < 2 ^ 26) (hR : Rel B k nt F D S T P L M) (hK : Kont G K b nA aA a d o sb i (cells + 1) (slots + 6) (B + 7000)) : J G ([modR K a (flat F) g P L M] ++ (outW K o lf :: corkW K b nA aA d e F Ga D S T)) [(0, .ref sb), (1, .ref (b 0)), (2, .ref (a 0)), (3, .ref o), (4, .int (nI i))] cells slots 200 [] := by
  obtain ⟨k1, v, lf1, e1, F1, Ga1, D1, S1, T1, Φ, hk, hW, hm, hv, hΦ⟩ := pr_bottles (tl := tl) (tg := tg) (o := o) (b := b) (nA := nA) (aA := aA) (a := a) (d := d) (e := e) (Ga := Ga) (g := g) (lf := lf) (K := K) hst hR hB (xs (i + 1)) (xs (i + 2))
  refine law_bottles C0 hX hL hi hc hs rfl hk hW hm hv (fun F2 g2 P2 L2 M2 h => ?_)
  obtain ⟨rfl, k', nt', hR'⟩ := hΦ F2 g2 P2 L2 M2 h
  exact hK k' nt' e1 F2 Ga1 D1 S1 T1 g2 P2 L2 M2 lf1 hR'

theorem go_lend (C0 : Cx G K l cL_law 9 RL wsL_law room_1) (hX : FnlS G tl tg sb Ln xs) (hL : Ln ≤ 2048) (hst : l.stackTraces = false) (hi : i + 3 < Ln) (hc : cells ≤ 600000) (hs : slots ≤ 7000000) (hB : B < 2 ^ 26) (hR : Rel B k nt F D S T P L M) (hK : Kont G K b nA aA a d o sb i (cells + 1) (slots + 6) (B + 7000)) : J G ([modR K a (flat F) g P L M] ++ (outW K o lf :: corkW K b nA aA d e F Ga D S T)) [(0, .ref sb), (1, .ref (b 0)), (2, .ref (a 0)), (3, .ref o), (4, .int (nI i))] cells slots 268 [] := by
  obtain ⟨k1, v, lf1, e1, F1, Ga1, D1, S1, T1, Φ, hk, hW, hm, hv, hΦ⟩ := pr_lend (tl := tl) (tg := tg) (o := o) (b := b) (nA := nA) (aA := aA) (a := a) (d := d) (e := e) (Ga := Ga) (g := g) (lf := lf) (K := K) hst hR hB (xs (i + 1)) (xs (i + 2))
  refine law_lend C0 hX hL hi hc hs rfl hk hW hm hv (fun F2 g2 P2 L2 M2 h => ?_)
  obtain ⟨rfl, k', nt', hR'⟩ := hΦ F2 g2 P2 L2 M2 h
  exact hK k' nt' e1 F2 Ga1 D1 S1 T1 g2 P2 L2 M2 lf1 hR'

theorem go_ask (C0 : Cx G K l cL_law 9 RL wsL_law room_1) (hX : FnlS G tl tg sb Ln xs) (hL : Ln ≤ 2048) (hst : l.stackTraces = false) (hi : i + 3 < Ln) (hc : cells ≤ 600000) (hs : slots ≤ 7000000) (hB : B < 2 ^ 26) (hR : Rel B k nt F D S T P L M) (hK : Kont G K b nA aA a d o sb i (cells + 1) (slots + 6) (B + 7000)) : J G ([modR K a (flat F) g P L M] ++ (outW K o lf :: corkW K b nA aA d e F Ga D S T)) [(0, .ref sb), (1, .ref (b 0)), (2, .ref (a 0)), (3, .ref o), (4, .int (nI i))] cells slots 336 [] := by
  obtain ⟨k1, v, lf1, e1, F1, Ga1, D1, S1, T1, Φ, hk, hW, hm, hv, hΦ⟩ := pr_ask (tl := tl) (tg := tg) (o := o) (b := b) (nA := nA) (aA := aA) (a := a) (d := d) (e := e) (Ga := Ga) (g := g) (lf := lf) (K := K) hst hR hB (xs (i + 1)) (xs (i + 2))
  refine law_ask C0 hX hL hi hc hs rfl hk hW hm hv (fun F2 g2 P2 L2 M2 h => ?_)
  obtain ⟨rfl, k', nt', hR'⟩ := hΦ F2 g2 P2 L2 M2 h
  exact hK k' nt' e1 F2 Ga1 D1 S1 T1 g2 P2 L2 M2 lf1 hR'

theorem go_want (C0 : Cx G K l cL_law 9 RL wsL_law room_1) (hX : FnlS G tl tg sb Ln xs) (hL : Ln ≤ 2048) (hst : l.stackTraces = false) (hi : i + 3 < Ln) (hc : cells ≤ 600000) (hs : slots ≤ 7000000) (hB : B < 2 ^ 26) (hR : Rel B k nt F D S T P L M) (hK : Kont G K b nA aA a d o sb i (cells + 1) (slots + 6) (B + 7000)) : J G ([modR K a (flat F) g P L M] ++ (outW K o lf :: corkW K b nA aA d e F Ga D S T)) [(0, .ref sb), (1, .ref (b 0)), (2, .ref (a 0)), (3, .ref o), (4, .int (nI i))] cells slots 404 [] := by
  obtain ⟨k1, v, lf1, e1, F1, Ga1, D1, S1, T1, Φ, hk, hW, hm, hv, hΦ⟩ := pr_want (tl := tl) (tg := tg) (o := o) (b := b) (nA := nA) (aA := aA) (a := a) (d := d) (e := e) (Ga := Ga) (g := g) (lf := lf) (K := K) hst hR hB (xs (i + 1)) (xs (i + 2))
  refine law_want C0 hX hL hi hc hs rfl hk hW hm hv (fun F2 g2 P2 L2 M2 h => ?_)
  obtain ⟨rfl, k', nt', hR'⟩ := hΦ F2 g2 P2 L2 M2 h
  exact hK k' nt' e1 F2 Ga1 D1 S1 T1 g2 P2 L2 M2 lf1 hR'

theorem go_drink (C0 : Cx G K l cL_law 9 RL wsL_law room_1) (hX : FnlS G tl tg sb Ln xs) (hL : Ln ≤ 2048) (hst : l.stackTraces = false) (hi : i + 3 < Ln) (hc : cells ≤ 600000) (hs : slots ≤ 7000000) (hB : B < 2 ^ 26) (hR : Rel B k nt F D S T P L M) (hK : Kont G K b nA aA a d o sb i (cells + 1) (slots + 6) (B + 7000)) : J G ([modR K a (flat F) g P L M] ++ (outW K o lf :: corkW K b nA aA d e F Ga D S T)) [(0, .ref sb), (1, .ref (b 0)), (2, .ref (a 0)), (3, .ref o), (4, .int (nI i))] cells slots 472 [] := by
  obtain ⟨k1, v, lf1, e1, F1, Ga1, D1, S1, T1, Φ, hk, hW, hm, hv, hΦ⟩ := pr_drink (tl := tl) (tg := tg) (o := o) (b := b) (nA := nA) (aA := aA) (a := a) (d := d) (e := e) (Ga := Ga) (g := g) (lf := lf) (K := K) hst hR hB (xs (i + 1))
  refine law_drink C0 hX hL hi hc hs rfl hk hW hm hv (fun F2 g2 P2 L2 M2 h => ?_)
  obtain ⟨rfl, k', nt', hR'⟩ := hΦ F2 g2 P2 L2 M2 h
  exact hK k' nt' e1 F2 Ga1 D1 S1 T1 g2 P2 L2 M2 lf1 hR'

theorem go_pass (C0 : Cx G K l cL_law 9 RL wsL_law room_1) (hX : FnlS G tl tg sb Ln xs) (hL : Ln ≤ 2048) (hst : l.stackTraces = false) (hi : i + 3 < Ln) (hc : cells ≤ 600000) (hs : slots ≤ 7000000) (hB : B < 2 ^ 26) (hR : Rel B k nt F D S T P L M) (hK : Kont G K b nA aA a d o sb i (cells + 1) (slots + 6) (B + 7000)) : J G ([modR K a (flat F) g P L M] ++ (outW K o lf :: corkW K b nA aA d e F Ga D S T)) [(0, .ref sb), (1, .ref (b 0)), (2, .ref (a 0)), (3, .ref o), (4, .int (nI i))] cells slots 528 [] := by
  obtain ⟨k1, v, lf1, e1, F1, Ga1, D1, S1, T1, Φ, hk, hW, hm, hv, hΦ⟩ := pr_pass (tl := tl) (tg := tg) (o := o) (b := b) (nA := nA) (aA := aA) (a := a) (d := d) (e := e) (Ga := Ga) (g := g) (lf := lf) (K := K) hst hR hB (xs (i + 1))
  refine law_pass C0 hX hL hi hc hs rfl hk hW hm hv (fun F2 g2 P2 L2 M2 h => ?_)
  obtain ⟨rfl, k', nt', hR'⟩ := hΦ F2 g2 P2 L2 M2 h
  exact hK k' nt' e1 F2 Ga1 D1 S1 T1 g2 P2 L2 M2 lf1 hR'

theorem go_set (C0 : Cx G K l cL_law 9 RL wsL_law room_1) (hX : FnlS G tl tg sb Ln xs) (hL : Ln ≤ 2048) (hst : l.stackTraces = false) (hi : i + 3 < Ln) (hc : cells ≤ 600000) (hs : slots ≤ 7000000) (hB : B < 2 ^ 26) (hR : Rel B k nt F D S T P L M) (hK : Kont G K b nA aA a d o sb i (cells + 1) (slots + 6) (B + 7000)) : J G ([modR K a (flat F) g P L M] ++ (outW K o lf :: corkW K b nA aA d e F Ga D S T)) [(0, .ref sb), (1, .ref (b 0)), (2, .ref (a 0)), (3, .ref o), (4, .int (nI i))] cells slots 584 [] := by
  obtain ⟨k1, v, lf1, e1, F1, Ga1, D1, S1, T1, Φ, hk, hW, hm, hv, hΦ⟩ := pr_set (tl := tl) (tg := tg) (o := o) (b := b) (nA := nA) (aA := aA) (a := a) (d := d) (e := e) (Ga := Ga) (g := g) (lf := lf) (K := K) hst hR hB (xs (i + 1)) (xs (i + 2))
  refine law_set C0 hX hL hi hc hs rfl hk hW hm hv (fun F2 g2 P2 L2 M2 h => ?_)
  obtain ⟨rfl, k', nt', hR'⟩ := hΦ F2 g2 P2 L2 M2 h
  exact hK k' nt' e1 F2 Ga1 D1 S1 T1 g2 P2 L2 M2 lf1 hR'

theorem go_append (C0 : Cx G K l cL_law 9 RL wsL_law room_1) (hX : FnlS G tl tg sb Ln xs) (hL : Ln ≤ 2048) (hst : l.stackTraces = false) (hi : i + 3 < Ln) (hc : cells ≤ 600000) (hs : slots ≤ 7000000) (hB : B < 2 ^ 26) (hR : Rel B k nt F D S T P L M) (hK : Kont G K b nA aA a d o sb i (cells + 1) (slots + 6) (B + 7000)) : J G ([modR K a (flat F) g P L M] ++ (outW K o lf :: corkW K b nA aA d e F Ga D S T)) [(0, .ref sb), (1, .ref (b 0)), (2, .ref (a 0)), (3, .ref o), (4, .int (nI i))] cells slots 652 [] := by
  obtain ⟨k1, v, lf1, e1, F1, Ga1, D1, S1, T1, Φ, hk, hW, hm, hv, hΦ⟩ := pr_append (tl := tl) (tg := tg) (o := o) (b := b) (nA := nA) (aA := aA) (a := a) (d := d) (e := e) (Ga := Ga) (g := g) (lf := lf) (K := K) hst hR hB (xs (i + 1))
  refine law_append C0 hX hL hi hc hs rfl hk hW hm hv (fun F2 g2 P2 L2 M2 h => ?_)
  obtain ⟨rfl, k', nt', hR'⟩ := hΦ F2 g2 P2 L2 M2 h
  exact hK k' nt' e1 F2 Ga1 D1 S1 T1 g2 P2 L2 M2 lf1 hR'

theorem go_clearBuffer (C0 : Cx G K l cL_law 9 RL wsL_law room_1) (hX : FnlS G tl tg sb Ln xs) (hL : Ln ≤ 2048) (hst : l.stackTraces = false) (hi : i + 3 < Ln) (hc : cells ≤ 600000) (hs : slots ≤ 7000000) (hB : B < 2 ^ 26) (hR : Rel B k nt F D S T P L M) (hK : Kont G K b nA aA a d o sb i (cells + 1) (slots + 6) (B + 7000)) : J G ([modR K a (flat F) g P L M] ++ (outW K o lf :: corkW K b nA aA d e F Ga D S T)) [(0, .ref sb), (1, .ref (b 0)), (2, .ref (a 0)), (3, .ref o), (4, .int (nI i))] cells slots 708 [] := by
  obtain ⟨⟨hn, n, N, hv⟩, hS, hp, hd⟩ := id hR
  have hW := mX4_clearBuffer l K b nA aA d e F Ga D S T
  rw [hS.2.1.2.1] at hW
  have hm := mX5_clearBuffer l K a F g P L M
  rw [hS.2.1.2.2] at hm
  refine law_clearBuffer C0 hX hL hi hc hs rfl (Φ := fun F2 g2 P2 L2 M2 => F2 = F ∧ P2 = P ∧ L2 = L ∧ M2 = u2 (u2 M 0 2 (nI 0)) 0 1 (nI 0)) hW (CtP.mono hm (fun r w h => by
    obtain ⟨rfl, rfl⟩ := h
    exact ⟨_, _, _, _, _, rfl, rfl, rfl, rfl, rfl, rfl⟩)) (fun F2 g2 P2 L2 M2 h => ?_)
  obtain ⟨rfl, rfl, rfl, rfl⟩ := h
  refine J_widen C0 (Nat.le_add_right cells 1) (Nat.le_add_right slots 6) ?_
  exact hK k 0 e F2 Ga D S (u2 T 0 1 (nI 0)) g2 P2 L2 _ lf (Rel.mono (B := B) ⟨hR.1, (hS.ke (Ke.th M (nI 0))).len (by decide), hp, hd.one (by rw [u2_i (by decide), u2_i (by decide)])⟩ (by omega))

theorem go_firstError (C0 : Cx G K l cL_law 9 RL wsL_law room_1) (hX : FnlS G tl tg sb Ln xs) (hL : Ln ≤ 2048) (hst : l.stackTraces = false) (hi : i + 3 < Ln) (hc : cells ≤ 600000) (hs : slots ≤ 7000000) (hB : B < 2 ^ 26) (hR : Rel B k nt F D S T P L M) (hK : Kont G K b nA aA a d o sb i (cells + 1) (slots + 6) (B + 7000)) : J G ([modR K a (flat F) g P L M] ++ (outW K o lf :: corkW K b nA aA d e F Ga D S T)) [(0, .ref sb), (1, .ref (b 0)), (2, .ref (a 0)), (3, .ref o), (4, .int (nI i))] cells slots 721 [] := by
  obtain ⟨⟨hn, n, N, hv⟩, hS, hp, hd⟩ := id hR
  have hW := mX4_firstError l K b nA aA d e F Ga D S T hS.2.1.2.1 hS.2.1.1
  rw [fw_cg hS.2.2.2.1] at hW
  refine law_firstError C0 hX hL hi hc hs rfl (Φ := fun F2 g2 P2 L2 M2 => F2 = F ∧ P2 = P ∧ L2 = L ∧ Kp (u2 M 0 2 (nI 0)) M2) hW (CtP.mono (mX5_firstError l K a F g P L M hS.2.1.2.2 hS.2.1.1) (fun r w h => by
    obtain ⟨M', rfl, rfl, hk⟩ := h
    exact ⟨_, _, _, _, _, rfl, rfl, rfl, rfl, rfl, hk⟩)) (fun F2 g2 P2 L2 M2 h => ?_)
  obtain ⟨rfl, rfl, rfl, hk⟩ := h
  refine J_widen C0 (Nat.le_add_right cells 1) (Nat.le_add_right slots 6) ?_
  exact hK k nt e F2 Ga D S T g2 P2 L2 _ lf (hR.ke ((Ke.th M _).tr (Ke.kp hk)))

theorem go_run (C0 : Cx G K l cL_law 9 RL wsL_law room_1) (hX : FnlS G tl tg sb Ln xs) (hL : Ln ≤ 2048) (hst : l.stackTraces = false) (hi : i + 3 < Ln) (hc : cells ≤ 600000) (hs : slots ≤ 7000000) (hB : B < 2 ^ 26) (hR : Rel B k nt F D S T P L M) (hK : Kont G K b nA aA a d o sb i (cells + 1) (slots + 6) (B + 7000)) : J G ([modR K a (flat F) g P L M] ++ (outW K o lf :: corkW K b nA aA d e F Ga D S T)) [(0, .ref sb), (1, .ref (b 0)), (2, .ref (a 0)), (3, .ref o), (4, .int (nI i))] cells slots 734 [] := by
  obtain ⟨k1, v, lf1, e1, F1, Ga1, D1, S1, T1, Φ, hk, hW, hm, hv, hΦ⟩ := pr_run (tl := tl) (tg := tg) (o := o) (b := b) (nA := nA) (aA := aA) (a := a) (d := d) (e := e) (Ga := Ga) (g := g) (lf := lf) (K := K) hst hR hB 
  refine law_run C0 hX hL hi hc hs rfl hk hW hm hv (fun F2 g2 P2 L2 M2 h => ?_)
  obtain ⟨rfl, k', nt', hR'⟩ := hΦ F2 g2 P2 L2 M2 h
  exact hK k' nt' e1 F2 Ga1 D1 S1 T1 g2 P2 L2 M2 lf1 hR'

theorem go_keep (C0 : Cx G K l cL_law 9 RL wsL_law room_1) (hX : FnlS G tl tg sb Ln xs) (hL : Ln ≤ 2048) (hst : l.stackTraces = false) (hi : i + 3 < Ln) (hc : cells ≤ 600000) (hs : slots ≤ 7000000) (hB : B < 2 ^ 26) (hR : Rel B k nt F D S T P L M) (hK : Kont G K b nA aA a d o sb i (cells + 1) (slots + 6) (B + 7000)) : J G ([modR K a (flat F) g P L M] ++ (outW K o lf :: corkW K b nA aA d e F Ga D S T)) [(0, .ref sb), (1, .ref (b 0)), (2, .ref (a 0)), (3, .ref o), (4, .int (nI i))] cells slots 778 [] := by
  obtain ⟨k1, v, lf1, e1, F1, Ga1, D1, S1, T1, Φ, hk, hW, hm, hv, hΦ⟩ := pr_keep (tl := tl) (tg := tg) (o := o) (b := b) (nA := nA) (aA := aA) (a := a) (d := d) (e := e) (Ga := Ga) (g := g) (lf := lf) (K := K) hst hR hB (xs (i + 1))
  refine law_keep C0 hX hL hi hc hs rfl hk hW hm hv (fun F2 g2 P2 L2 M2 h => ?_)
  obtain ⟨rfl, k', nt', hR'⟩ := hΦ F2 g2 P2 L2 M2 h
  exact hK k' nt' e1 F2 Ga1 D1 S1 T1 g2 P2 L2 M2 lf1 hR'

theorem go_goBack (C0 : Cx G K l cL_law 9 RL wsL_law room_1) (hX : FnlS G tl tg sb Ln xs) (hL : Ln ≤ 2048) (hst : l.stackTraces = false) (hi : i + 3 < Ln) (hc : cells ≤ 600000) (hs : slots ≤ 7000000) (hB : B < 2 ^ 26) (hR : Rel B k nt F D S T P L M) (hK : Kont G K b nA aA a d o sb i (cells + 1) (slots + 6) (B + 7000)) : J G ([modR K a (flat F) g P L M] ++ (outW K o lf :: corkW K b nA aA d e F Ga D S T)) [(0, .ref sb), (1, .ref (b 0)), (2, .ref (a 0)), (3, .ref o), (4, .int (nI i))] cells slots 834 [] := by
  obtain ⟨k1, v, lf1, e1, F1, Ga1, D1, S1, T1, Φ, hk, hW, hm, hv, hΦ⟩ := pr_goBack (tl := tl) (tg := tg) (o := o) (b := b) (nA := nA) (aA := aA) (a := a) (d := d) (e := e) (Ga := Ga) (g := g) (lf := lf) (K := K) hst hR hB (xs (i + 1))
  refine law_goBack C0 hX hL hi hc hs rfl hk hW hm hv (fun F2 g2 P2 L2 M2 h => ?_)
  obtain ⟨rfl, k', nt', hR'⟩ := hΦ F2 g2 P2 L2 M2 h
  exact hK k' nt' e1 F2 Ga1 D1 S1 T1 g2 P2 L2 M2 lf1 hR'

theorem go_undo (C0 : Cx G K l cL_law 9 RL wsL_law room_1) (hX : FnlS G tl tg sb Ln xs) (hL : Ln ≤ 2048) (hst : l.stackTraces = false) (hi : i + 3 < Ln) (hc : cells ≤ 600000) (hs : slots ≤ 7000000) (hB : B < 2 ^ 26) (hR : Rel B k nt F D S T P L M) (hK : Kont G K b nA aA a d o sb i (cells + 1) (slots + 6) (B + 7000)) : J G ([modR K a (flat F) g P L M] ++ (outW K o lf :: corkW K b nA aA d e F Ga D S T)) [(0, .ref sb), (1, .ref (b 0)), (2, .ref (a 0)), (3, .ref o), (4, .int (nI i))] cells slots 890 [] := by
  obtain ⟨k1, v, lf1, e1, F1, Ga1, D1, S1, T1, Φ, hk, hW, hm, hv, hΦ⟩ := pr_undo (tl := tl) (tg := tg) (o := o) (b := b) (nA := nA) (aA := aA) (a := a) (d := d) (e := e) (Ga := Ga) (g := g) (lf := lf) (K := K) hst hR hB 
  refine law_undo C0 hX hL hi hc hs rfl hk hW hm hv (fun F2 g2 P2 L2 M2 h => ?_)
  obtain ⟨rfl, k', nt', hR'⟩ := hΦ F2 g2 P2 L2 M2 h
  exact hK k' nt' e1 F2 Ga1 D1 S1 T1 g2 P2 L2 M2 lf1 hR'

theorem go_kind (C0 : Cx G K l cL_law 9 RL wsL_law room_1) (hX : FnlS G tl tg sb Ln xs) (hL : Ln ≤ 2048) (hst : l.stackTraces = false) (hi : i + 3 < Ln) (hc : cells ≤ 600000) (hs : slots ≤ 7000000) (hB : B < 2 ^ 26) (hR : Rel B k nt F D S T P L M) (hK : Kont G K b nA aA a d o sb i (cells + 1) (slots + 6) (B + 7000)) : J G ([modR K a (flat F) g P L M] ++ (outW K o lf :: corkW K b nA aA d e F Ga D S T)) [(0, .ref sb), (1, .ref (b 0)), (2, .ref (a 0)), (3, .ref o), (4, .int (nI i))] cells slots 934 [] := by
  obtain ⟨k1, v, lf1, e1, F1, Ga1, D1, S1, T1, Φ, hk, hW, hm, hv, hΦ⟩ := pr_kind (tl := tl) (tg := tg) (o := o) (b := b) (nA := nA) (aA := aA) (a := a) (d := d) (e := e) (Ga := Ga) (g := g) (lf := lf) (K := K) hst hR hB (xs (i + 1)) (xs (i + 2))
  refine law_kind C0 hX hL hi hc hs rfl hk hW hm hv (fun F2 g2 P2 L2 M2 h => ?_)
  obtain ⟨rfl, k', nt', hR'⟩ := hΦ F2 g2 P2 L2 M2 h
  exact hK k' nt' e1 F2 Ga1 D1 S1 T1 g2 P2 L2 M2 lf1 hR'

theorem go_houseOf (C0 : Cx G K l cL_law 9 RL wsL_law room_1) (hX : FnlS G tl tg sb Ln xs) (hL : Ln ≤ 2048) (hst : l.stackTraces = false) (hi : i + 3 < Ln) (hc : cells ≤ 600000) (hs : slots ≤ 7000000) (hB : B < 2 ^ 26) (hR : Rel B k nt F D S T P L M) (hK : Kont G K b nA aA a d o sb i (cells + 1) (slots + 6) (B + 7000)) : J G ([modR K a (flat F) g P L M] ++ (outW K o lf :: corkW K b nA aA d e F Ga D S T)) [(0, .ref sb), (1, .ref (b 0)), (2, .ref (a 0)), (3, .ref o), (4, .int (nI i))] cells slots 1002 [] := by
  obtain ⟨k1, v, lf1, e1, F1, Ga1, D1, S1, T1, Φ, hk, hW, hm, hv, hΦ⟩ := pr_houseOf (tl := tl) (tg := tg) (o := o) (b := b) (nA := nA) (aA := aA) (a := a) (d := d) (e := e) (Ga := Ga) (g := g) (lf := lf) (K := K) hst hR hB (xs (i + 1)) (xs (i + 2)) (xs (i + 3))
  refine law_houseOf C0 hX hL hi hc hs rfl hk hW hm hv (fun F2 g2 P2 L2 M2 h => ?_)
  obtain ⟨rfl, k', nt', hR'⟩ := hΦ F2 g2 P2 L2 M2 h
  exact hK k' nt' e1 F2 Ga1 D1 S1 T1 g2 P2 L2 M2 lf1 hR'

theorem go_letter (C0 : Cx G K l cL_law 9 RL wsL_law room_1) (hX : FnlS G tl tg sb Ln xs) (hL : Ln ≤ 2048) (hst : l.stackTraces = false) (hi : i + 3 < Ln) (hc : cells ≤ 600000) (hs : slots ≤ 7000000) (hB : B < 2 ^ 26) (hR : Rel B k nt F D S T P L M) (hK : Kont G K b nA aA a d o sb i (cells + 1) (slots + 6) (B + 7000)) : J G ([modR K a (flat F) g P L M] ++ (outW K o lf :: corkW K b nA aA d e F Ga D S T)) [(0, .ref sb), (1, .ref (b 0)), (2, .ref (a 0)), (3, .ref o), (4, .int (nI i))] cells slots 1082 [] := by
  obtain ⟨k1, v, lf1, e1, F1, Ga1, D1, S1, T1, Φ, hk, hW, hm, hv, hΦ⟩ := pr_letter (tl := tl) (tg := tg) (o := o) (b := b) (nA := nA) (aA := aA) (a := a) (d := d) (e := e) (Ga := Ga) (g := g) (lf := lf) (K := K) hst hR hB (xs (i + 1)) (xs (i + 2))
  refine law_letter C0 hX hL hi hc hs rfl hk hW hm hv (fun F2 g2 P2 L2 M2 h => ?_)
  obtain ⟨rfl, k', nt', hR'⟩ := hΦ F2 g2 P2 L2 M2 h
  exact hK k' nt' e1 F2 Ga1 D1 S1 T1 g2 P2 L2 M2 lf1 hR'

theorem go_count (C0 : Cx G K l cL_law 9 RL wsL_law room_1) (hX : FnlS G tl tg sb Ln xs) (hL : Ln ≤ 2048) (hst : l.stackTraces = false) (hi : i + 3 < Ln) (hc : cells ≤ 600000) (hs : slots ≤ 7000000) (hB : B < 2 ^ 26) (hR : Rel B k nt F D S T P L M) (hK : Kont G K b nA aA a d o sb i (cells + 1) (slots + 6) (B + 7000)) : J G ([modR K a (flat F) g P L M] ++ (outW K o lf :: corkW K b nA aA d e F Ga D S T)) [(0, .ref sb), (1, .ref (b 0)), (2, .ref (a 0)), (3, .ref o), (4, .int (nI i))] cells slots 1150 [] := by
  obtain ⟨k1, v, lf1, e1, F1, Ga1, D1, S1, T1, Φ, hk, hW, hm, hv, hΦ⟩ := pr_count (tl := tl) (tg := tg) (o := o) (b := b) (nA := nA) (aA := aA) (a := a) (d := d) (e := e) (Ga := Ga) (g := g) (lf := lf) (K := K) hst hR hB (xs (i + 1))
  refine law_count C0 hX hL hi hc hs rfl hk hW hm hv (fun F2 g2 P2 L2 M2 h => ?_)
  obtain ⟨rfl, k', nt', hR'⟩ := hΦ F2 g2 P2 L2 M2 h
  exact hK k' nt' e1 F2 Ga1 D1 S1 T1 g2 P2 L2 M2 lf1 hR'

theorem go_setting (C0 : Cx G K l cL_law 9 RL wsL_law room_1) (hX : FnlS G tl tg sb Ln xs) (hL : Ln ≤ 2048) (hst : l.stackTraces = false) (hi : i + 3 < Ln) (hc : cells ≤ 600000) (hs : slots ≤ 7000000) (hB : B < 2 ^ 26) (hR : Rel B k nt F D S T P L M) (hK : Kont G K b nA aA a d o sb i (cells + 1) (slots + 6) (B + 7000)) : J G ([modR K a (flat F) g P L M] ++ (outW K o lf :: corkW K b nA aA d e F Ga D S T)) [(0, .ref sb), (1, .ref (b 0)), (2, .ref (a 0)), (3, .ref o), (4, .int (nI i))] cells slots 1206 [] := by
  obtain ⟨k1, v, lf1, e1, F1, Ga1, D1, S1, T1, Φ, hk, hW, hm, hv, hΦ⟩ := pr_setting (tl := tl) (tg := tg) (o := o) (b := b) (nA := nA) (aA := aA) (a := a) (d := d) (e := e) (Ga := Ga) (g := g) (lf := lf) (K := K) hst hR hB (xs (i + 1))
  refine law_setting C0 hX hL hi hc hs rfl hk hW hm hv (fun F2 g2 P2 L2 M2 h => ?_)
  obtain ⟨rfl, k', nt', hR'⟩ := hΦ F2 g2 P2 L2 M2 h
  exact hK k' nt' e1 F2 Ga1 D1 S1 T1 g2 P2 L2 M2 lf1 hR'

theorem go_ifPassed (C0 : Cx G K l cL_law 9 RL wsL_law room_1) (hX : FnlS G tl tg sb Ln xs) (hL : Ln ≤ 2048) (hst : l.stackTraces = false) (hi : i + 3 < Ln) (hc : cells ≤ 600000) (hs : slots ≤ 7000000) (hB : B < 2 ^ 26) (hR : Rel B k nt F D S T P L M) (hK : Kont G K b nA aA a d o sb i (cells + 1) (slots + 6) (B + 7000)) : J G ([modR K a (flat F) g P L M] ++ (outW K o lf :: corkW K b nA aA d e F Ga D S T)) [(0, .ref sb), (1, .ref (b 0)), (2, .ref (a 0)), (3, .ref o), (4, .int (nI i))] cells slots 1262 [] := by
  obtain ⟨k1, v, lf1, e1, F1, Ga1, D1, S1, T1, Φ, hk, hW, hm, hv, hΦ⟩ := pr_ifPassed (tl := tl) (tg := tg) (o := o) (b := b) (nA := nA) (aA := aA) (a := a) (d := d) (e := e) (Ga := Ga) (g := g) (lf := lf) (K := K) hst hR hB (xs (i + 1)) (xs (i + 2))
  refine law_ifPassed C0 hX hL hi hc hs rfl hk hW hm hv (fun F2 g2 P2 L2 M2 h => ?_)
  obtain ⟨rfl, k', nt', hR'⟩ := hΦ F2 g2 P2 L2 M2 h
  exact hK k' nt' e1 F2 Ga1 D1 S1 T1 g2 P2 L2 M2 lf1 hR'

theorem go_stillIn (C0 : Cx G K l cL_law 9 RL wsL_law room_1) (hX : FnlS G tl tg sb Ln xs) (hL : Ln ≤ 2048) (hst : l.stackTraces = false) (hi : i + 3 < Ln) (hc : cells ≤ 600000) (hs : slots ≤ 7000000) (hB : B < 2 ^ 26) (hR : Rel B k nt F D S T P L M) (hK : Kont G K b nA aA a d o sb i (cells + 1) (slots + 6) (B + 7000)) : J G ([modR K a (flat F) g P L M] ++ (outW K o lf :: corkW K b nA aA d e F Ga D S T)) [(0, .ref sb), (1, .ref (b 0)), (2, .ref (a 0)), (3, .ref o), (4, .int (nI i))] cells slots 1330 [] := by
  obtain ⟨⟨hn, n, N, hv⟩, hS, hp, hd⟩ := id hR
  refine law_stillIn C0 hX hL hi hc hs rfl (Φ := fun F2 g2 P2 L2 M2 => F2 = F ∧ P2 = P ∧ L2 = L ∧ M2 = u2 M 0 2 (nI 0)) (mX4_stillIn l K b nA aA d e F Ga D S T hv.sh) (CtP.mono (mX5_stillIn l K a F g P L M hv (by omega)) (fun r w h => by
    obtain ⟨rfl, rfl⟩ := h
    exact ⟨_, _, _, _, _, rfl, rfl, rfl, rfl, rfl, rfl⟩)) (fun F2 g2 P2 L2 M2 h => ?_)
  obtain ⟨rfl, rfl, rfl, rfl⟩ := h
  refine J_widen C0 (Nat.le_add_right cells 1) (Nat.le_add_right slots 6) ?_
  exact hK k nt e F2 _ D S T g2 P2 L2 _ lf (hR.ke (Ke.th M _))

theorem go_hidden (C0 : Cx G K l cL_law 9 RL wsL_law room_1) (hX : FnlS G tl tg sb Ln xs) (hL : Ln ≤ 2048) (hst : l.stackTraces = false) (hi : i + 3 < Ln) (hc : cells ≤ 600000) (hs : slots ≤ 7000000) (hB : B < 2 ^ 26) (hR : Rel B k nt F D S T P L M) (hK : Kont G K b nA aA a d o sb i (cells + 1) (slots + 6) (B + 7000)) : J G ([modR K a (flat F) g P L M] ++ (outW K o lf :: corkW K b nA aA d e F Ga D S T)) [(0, .ref sb), (1, .ref (b 0)), (2, .ref (a 0)), (3, .ref o), (4, .int (nI i))] cells slots 1343 [] := by
  obtain ⟨⟨hn, n, N, hv⟩, hS, hp, hd⟩ := id hR
  refine law_hidden C0 hX hL hi hc hs rfl (Φ := fun F2 g2 P2 L2 M2 => F2 = F ∧ P2 = P ∧ L2 = L ∧ M2 = u2 M 0 2 (nI 0)) (mX4_hidden l K b nA aA d e F Ga D S T) (CtP.mono (mX5_hidden l K a F g P L M hv) (fun r w h => by
    obtain ⟨rfl, rfl⟩ := h
    exact ⟨_, _, _, _, _, rfl, rfl, rfl, rfl, rfl, rfl⟩)) (fun F2 g2 P2 L2 M2 h => ?_)
  obtain ⟨rfl, rfl, rfl, rfl⟩ := h
  refine J_widen C0 (Nat.le_add_right cells 1) (Nat.le_add_right slots 6) ?_
  exact hK k nt e F2 Ga D S T g2 P2 L2 _ lf (hR.ke (Ke.th M _))

theorem go_neediest (C0 : Cx G K l cL_law 9 RL wsL_law room_1) (hX : FnlS G tl tg sb Ln xs) (hL : Ln ≤ 2048) (hst : l.stackTraces = false) (hi : i + 3 < Ln) (hc : cells ≤ 600000) (hs : slots ≤ 7000000) (hB : B < 2 ^ 26) (hR : Rel B k nt F D S T P L M) (hK : Kont G K b nA aA a d o sb i (cells + 1) (slots + 6) (B + 7000)) : J G ([modR K a (flat F) g P L M] ++ (outW K o lf :: corkW K b nA aA d e F Ga D S T)) [(0, .ref sb), (1, .ref (b 0)), (2, .ref (a 0)), (3, .ref o), (4, .int (nI i))] cells slots 1356 [] := by
  obtain ⟨⟨hn, n, N, hv⟩, hS, hp, hd⟩ := id hR
  refine law_neediest C0 hX hL hi hc hs rfl (Φ := fun F2 g2 P2 L2 M2 => F2 = F ∧ P2 = P ∧ L2 = L ∧ M2 = u2 M 0 2 (nI 0)) (mX4_neediest l K b nA aA d e F Ga D S T hv.1.1 hv.1.2) (CtP.mono (mX5_neediest l K a F g P L M hv) (fun r w h => by
    obtain ⟨rfl, rfl⟩ := h
    exact ⟨_, _, _, _, _, rfl, rfl, rfl, rfl, rfl, rfl⟩)) (fun F2 g2 P2 L2 M2 h => ?_)
  obtain ⟨rfl, rfl, rfl, rfl⟩ := h
  refine J_widen C0 (Nat.le_add_right cells 1) (Nat.le_add_right slots 6) ?_
  exact hK k nt e F2 Ga D S T g2 P2 L2 _ lf (hR.ke (Ke.th M _))

theorem go_arrivedShare (C0 : Cx G K l cL_law 9 RL wsL_law room_1) (hX : FnlS G tl tg sb Ln xs) (hL : Ln ≤ 2048) (hst : l.stackTraces = false) (hi : i + 3 < Ln) (hc : cells ≤ 600000) (hs : slots ≤ 7000000) (hB : B < 2 ^ 26) (hR : Rel B k nt F D S T P L M) (hK : Kont G K b nA aA a d o sb i (cells + 1) (slots + 6) (B + 7000)) : J G ([modR K a (flat F) g P L M] ++ (outW K o lf :: corkW K b nA aA d e F Ga D S T)) [(0, .ref sb), (1, .ref (b 0)), (2, .ref (a 0)), (3, .ref o), (4, .int (nI i))] cells slots 1369 [] := by
  obtain ⟨⟨hn, n, N, hv⟩, hS, hp, hd⟩ := id hR
  obtain ⟨a9, b9, ha, hb, hb2, hab, h31⟩ := share_nat hv hB
  obtain ⟨c9, q9, hV⟩ := v_share hab h31
  refine law_arrivedShare C0 hX hL hi hc hs rfl (cmp_self hV) (Φ := fun F2 g2 P2 L2 M2 => F2 = F ∧ P2 = P ∧ L2 = L ∧ M2 = u2 M 0 2 (nI 0)) (mX4_arrivedShare l K b nA aA d e F Ga D S T ha hb hab h31) (CtP.mono (mX5_arrivedShare l K a F g P L M ha hb2 hab h31) (fun r w h => by
    obtain ⟨rfl, rfl⟩ := h
    exact ⟨_, _, _, _, _, rfl, rfl, rfl, rfl, rfl, rfl⟩)) (fun F2 g2 P2 L2 M2 h => ?_)
  obtain ⟨rfl, rfl, rfl, rfl⟩ := h
  refine J_widen C0 (Nat.le_add_right cells 1) (Nat.le_add_right slots 6) ?_
  exact hK k nt e F2 Ga D S T g2 P2 L2 _ lf (hR.ke (Ke.th M _))

theorem go_digest (C0 : Cx G K l cL_law 9 RL wsL_law room_1) (hX : FnlS G tl tg sb Ln xs) (hL : Ln ≤ 2048) (hst : l.stackTraces = false) (hi : i + 3 < Ln) (hc : cells ≤ 600000) (hs : slots ≤ 7000000) (hB : B < 2 ^ 26) (hR : Rel B k nt F D S T P L M) (hK : Kont G K b nA aA a d o sb i (cells + 1) (slots + 6) (B + 7000)) : J G ([modR K a (flat F) g P L M] ++ (outW K o lf :: corkW K b nA aA d e F Ga D S T)) [(0, .ref sb), (1, .ref (b 0)), (2, .ref (a 0)), (3, .ref o), (4, .int (nI i))] cells slots 1410 [] := by
  obtain ⟨⟨hn, n, N, hv⟩, hS, hp, hd⟩ := id hR
  obtain ⟨a9, b9, ha, hb, hb2, hab, h31⟩ := share_nat hv hB
  have hW := mX4_digest l K b nA aA d e F Ga D S T hv.sh hv.2.1.1 hv.2.1.2 hv.1.1 hv.1.2 hS.2.1.2.1 hS.2.1.1 ha hb hab h31
  have hq := hS.ke (Ke.th M (nI 0))
  rw [digL_cg (M := u2 M 0 2 (nI 0)) (by rw [hq.1.2.1, hq.1.2.2]) hq.2.2.1 hq.2.2.2.1] at hW
  refine law_digest C0 hX hL hi hc hs rfl (Φ := fun F2 g2 P2 L2 M2 => F2 = F ∧ P2 = P ∧ L2 = L ∧ M2 = u2 M 0 2 (nI 0)) hW (CtP.mono (mX5_digest l K a F g P L M hv (by omega) hS.2.1.2.2 hS.2.1.1 (slot_ok hS (by decide)) (slot_ok hS (by decide)) ha hb2 hab h31) (fun r w h => by
    obtain ⟨g2, rfl, rfl⟩ := h
    exact ⟨_, _, _, _, _, rfl, rfl, rfl, rfl, rfl, rfl⟩)) (fun F2 g2 P2 L2 M2 h => ?_)
  obtain ⟨rfl, rfl, rfl, rfl⟩ := h
  refine J_widen C0 (Nat.le_add_right cells 1) (Nat.le_add_right slots 6) ?_
  exact hK k nt e F2 _ D S T g2 P2 L2 _ lf (hR.ke (Ke.th M _))

/-- a turn of the law's loop: it ends, or a case and the loop again -/
theorem law_turn (C0 : Cx G K l cL_law 9 RL wsL_law room_1) (hX : FnlS G tl tg sb Ln xs) (hL : Ln ≤ 2048) (hst : l.stackTraces = false) (hi : i ≤ 4000) (hc : cells ≤ 600000) (hs : slots ≤ 7000000) (hB : B < 2 ^ 26) (hR : Rel B k nt F D S T P L M)
    (hE : J G ([modR K a (flat F) g P L M] ++ (outW K o lf :: corkW K b nA aA d e F Ga D S T)) [(0, .ref sb), (1, .ref (b 0)), (2, .ref (a 0)), (3, .ref o), (4, .int (nI i))] cells slots 1430 []) (hK : i + 4 ≤ Ln → Kont G K b nA aA a d o sb i (cells + 1) (slots + 6) (B + 7000)) : J G ([modR K a (flat F) g P L M] ++ (outW K o lf :: corkW K b nA aA d e F Ga D S T)) [(0, .ref sb), (1, .ref (b 0)), (2, .ref (a 0)), (3, .ref o), (4, .int (nI i))] cells slots 23 [] := by
  refine J_il C0 4 dL_law_23 (kk := ?_)
  refine J_aln C0 0 dL_law_25 (kk := ?_)
  refine J_slen C0 hX dL_law_26 (kk := ?_)
  refine J_ic C0 4 dL_law_27 (kk := ?_)
  refine J_isub C0 dL_law_28 (kk := ?_)
  refine J_icmpgt C0 1430 dL_law_29 (kt := fun _ => hE) (kf := fun z => ?_)
  have hi4 : i + 4 ≤ Ln := by
    have e1 := pk_sub_toInt (a := Ln) (b := 4) (by omega) (by decide)
    have e2 : (nI i).toInt = (i : Int) := by
      have e3 := pk_sub_toInt (a := i) (b := 0) (by omega) (by decide)
      rw [show nI i - nI 0 = nI i by rw [nI_0]; exact Int32.sub_zero _] at e3
      rw [e3]
      omega
    have z2 := Int32.not_lt.mp z
    have z3 := Int32.le_iff_toInt_le.mp z2
    rw [e1, e2] at z3
    omega
  have hK := hK hi4
  have hK0 : J G ([modR K a (flat F) g P L M] ++ (outW K o lf :: corkW K b nA aA d e F Ga D S T)) [(0, .ref sb), (1, .ref (b 0)), (2, .ref (a 0)), (3, .ref o), (4, .int (nI i))] cells slots 1424 [] := J_widen C0 (Nat.le_add_right cells 1) (Nat.le_add_right slots 6) (hK k nt e F Ga D S T g P L M lf (hR.mono (by omega)))
  refine J_aln C0 0 dL_law_32 (kk := ?_)
  refine J_il C0 4 dL_law_33 (kk := ?_)
  refine J_sld C0 hX hL (j := i) (by omega) dL_law_35 (kk := ?_)
  refine J_bi C0 31 dL_law_36 (kk := ?_)
  refine J_iand C0 dL_law_38 (kk := ?_)
  obtain ⟨c, hc32, ec⟩ := pk_andE (xs i) (m := nI 31) 5 (by decide)
  rw [ec]
  have hc32 : c < 32 := hc32
  clear ec
  rcases (show c = 0 ∨ c = 1 ∨ c = 2 ∨ c = 3 ∨ c = 4 ∨ c = 5 ∨ c = 6 ∨ c = 7 ∨ c = 8 ∨ c = 9 ∨ c = 10 ∨ c = 11 ∨ c = 12 ∨ c = 13 ∨ c = 14 ∨ c = 15 ∨ c = 16 ∨ c = 17 ∨ c = 18 ∨ c = 19 ∨ c = 20 ∨ c = 21 ∨ c = 22 ∨ c = 23 ∨ c = 24 ∨ c = 25 ∨ c = 26 ∨ c = 27 ∨ c = 28 ∨ c = 29 ∨ c = 30 ∨ c = 31 by omega) with rfl | rfl | rfl | rfl | rfl | rfl | rfl | rfl | rfl | rfl | rfl | rfl | rfl | rfl | rfl | rfl | rfl | rfl | rfl | rfl | rfl | rfl | rfl | rfl | rfl | rfl | rfl | rfl | rfl | rfl | rfl | rfl
  · exact J_tin C0 156 dL_law_39 (x := 0) (kk := go_house C0 hX hL hst (by omega) hc hs hB hR hK)
  · exact J_tin C0 200 dL_law_39 (x := 1) (kk := go_bottles C0 hX hL hst (by omega) hc hs hB hR hK)
  · exact J_tin C0 268 dL_law_39 (x := 2) (kk := go_lend C0 hX hL hst (by omega) hc hs hB hR hK)
  · exact J_tin C0 336 dL_law_39 (x := 3) (kk := go_ask C0 hX hL hst (by omega) hc hs hB hR hK)
  · exact J_tin C0 404 dL_law_39 (x := 4) (kk := go_want C0 hX hL hst (by omega) hc hs hB hR hK)
  · exact J_tin C0 472 dL_law_39 (x := 5) (kk := go_drink C0 hX hL hst (by omega) hc hs hB hR hK)
  · exact J_tin C0 528 dL_law_39 (x := 6) (kk := go_pass C0 hX hL hst (by omega) hc hs hB hR hK)
  · exact J_tin C0 584 dL_law_39 (x := 7) (kk := go_set C0 hX hL hst (by omega) hc hs hB hR hK)
  · exact J_tin C0 652 dL_law_39 (x := 8) (kk := go_append C0 hX hL hst (by omega) hc hs hB hR hK)
  · exact J_tin C0 708 dL_law_39 (x := 9) (kk := go_clearBuffer C0 hX hL hst (by omega) hc hs hB hR hK)
  · exact J_tin C0 721 dL_law_39 (x := 10) (kk := go_firstError C0 hX hL hst (by omega) hc hs hB hR hK)
  · exact J_tin C0 734 dL_law_39 (x := 11) (kk := go_run C0 hX hL hst (by omega) hc hs hB hR hK)
  · exact J_tin C0 778 dL_law_39 (x := 12) (kk := go_keep C0 hX hL hst (by omega) hc hs hB hR hK)
  · exact J_tin C0 834 dL_law_39 (x := 13) (kk := go_goBack C0 hX hL hst (by omega) hc hs hB hR hK)
  · exact J_tin C0 890 dL_law_39 (x := 14) (kk := go_undo C0 hX hL hst (by omega) hc hs hB hR hK)
  · exact J_tin C0 934 dL_law_39 (x := 15) (kk := go_kind C0 hX hL hst (by omega) hc hs hB hR hK)
  · exact J_tin C0 1002 dL_law_39 (x := 16) (kk := go_houseOf C0 hX hL hst (by omega) hc hs hB hR hK)
  · exact J_tin C0 1082 dL_law_39 (x := 17) (kk := go_letter C0 hX hL hst (by omega) hc hs hB hR hK)
  · exact J_tin C0 1150 dL_law_39 (x := 18) (kk := go_count C0 hX hL hst (by omega) hc hs hB hR hK)
  · exact J_tin C0 1206 dL_law_39 (x := 19) (kk := go_setting C0 hX hL hst (by omega) hc hs hB hR hK)
  · exact J_tin C0 1262 dL_law_39 (x := 20) (kk := go_ifPassed C0 hX hL hst (by omega) hc hs hB hR hK)
  · exact J_tin C0 1330 dL_law_39 (x := 21) (kk := go_stillIn C0 hX hL hst (by omega) hc hs hB hR hK)
  · exact J_tin C0 1343 dL_law_39 (x := 22) (kk := go_hidden C0 hX hL hst (by omega) hc hs hB hR hK)
  · exact J_tin C0 1356 dL_law_39 (x := 23) (kk := go_neediest C0 hX hL hst (by omega) hc hs hB hR hK)
  · exact J_tin C0 1369 dL_law_39 (x := 24) (kk := go_arrivedShare C0 hX hL hst (by omega) hc hs hB hR hK)
  · exact J_tin C0 1410 dL_law_39 (x := 25) (kk := go_digest C0 hX hL hst (by omega) hc hs hB hR hK)
  · exact J_tout C0 1424 dL_law_39 (x := nI 26) (by decide) (kk := hK0)
  · exact J_tout C0 1424 dL_law_39 (x := nI 27) (by decide) (kk := hK0)
  · exact J_tout C0 1424 dL_law_39 (x := nI 28) (by decide) (kk := hK0)
  · exact J_tout C0 1424 dL_law_39 (x := nI 29) (by decide) (kk := hK0)
  · exact J_tout C0 1424 dL_law_39 (x := nI 30) (by decide) (kk := hK0)
  · exact J_tout C0 1424 dL_law_39 (x := nI 31) (by decide) (kk := hK0)

theorem law_loop (C0 : Cx G K l cL_law 9 RL wsL_law room_1) (hX : FnlS G tl tg sb Ln xs) (hL : Ln ≤ 2048) (hst : l.stackTraces = false)
    (hE : ∀ (bs : List va_W) (lv : List (Nat × Value)) (c s : Nat), c ≤ 600000 → s ≤ 7000000 → J G bs lv c s 1430 []) :
    ∀ (q it : Nat), it + q = 513 → ∀ (k nt : Nat) (e : Nat → Nat → Nat) (F Ga : FF) (D S : Nat → FF) (T : FF) (g P L : Nat → Int32) (M : FF) (lf : Nat → Int64) (cells slots : Nat), cells ≤ 1000 + it → slots ≤ 20000 + 6 * it → Rel (7000 * it) k nt F D S T P L M →
      J G ([modR K a (flat F) g P L M] ++ (outW K o lf :: corkW K b nA aA d e F Ga D S T)) [(0, .ref sb), (1, .ref (b 0)), (2, .ref (a 0)), (3, .ref o), (4, .int (nI (4 * it)))] cells slots 23 [] := by
  intro q
  induction q with
  | zero =>
    intro it hq k nt e F Ga D S T g P L M lf cells slots h1 h2 hR
    exact law_turn C0 hX hL hst (by omega) (by omega) (by omega) (by omega) hR (hE _ _ _ _ (by omega) (by omega)) (fun z => by omega)
  | succ q ih =>
    intro it hq k nt e F Ga D S T g P L M lf cells slots h1 h2 hR
    refine law_turn C0 hX hL hst (by omega) (by omega) (by omega) (by omega) hR (hE _ _ _ _ (by omega) (by omega)) (fun z => ?_)
    intro k nt e F Ga D S T g P L M lf hR
    refine J_iincN C0 (n := 4) 4 [(4, .int (nI (4 * it + 4))), (0, .ref sb), (1, .ref (b 0)), (2, .ref (a 0)), (3, .ref o)] dL_law_1424 (kk := ?_)
    refine J_goto C0 23 dL_law_1427 (kk := ?_)
    refine J_lv [1, 2, 3, 4, 0] (lv2 := [(0, .ref sb), (1, .ref (b 0)), (2, .ref (a 0)), (3, .ref o), (4, .int (nI (4 * (it + 1))))]) (kk := ?_)
    exact ih (it + 1) (by omega) k nt e F Ga D S T g P L M lf (cells + 1) (slots + 6) (by omega) (by omega) hR
end LP
