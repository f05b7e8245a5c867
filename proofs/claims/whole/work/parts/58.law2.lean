/-! the law: its own rows, its cases over any contracts -/
def FnlS (G : JC) (tl tg b L : Nat) (xs : Nat → Int32) : Prop := match G with
  | (K, A, H0, nL, p, l, e, R, s, m, args, below, meth, c, Q) => WX tl tg A s ∧ H0 = s.heap ∧ va_X b L xs s s.heap ∧ b < s.heap.size ∧ ¬ A b
section JS
variable {K : KT} {l : Launch} {cc : ByteArray} {nL : Nat} {own : String} {Ts : List Cond} {rm : Room} {G : JC} {bs : List va_W} {lv : List (Nat × Value)} {cells slots pc : Nat} {st : List Value}
theorem J_sld (C0 : Cx G K l cc nL own Ts rm) {tl tg b L : Nat} {xs : Nat → Int32} (hX : FnlS G tl tg b L xs) (hL : L ≤ 2048) {j : Nat} (hj : j < L) (hdg : decode cc pc = .ok (.iaload, 1)) (kk : J G bs lv cells slots (pc + 1) (.int (xs j) :: st)) : J G bs lv cells slots (pc) (.int (nI j) :: .ref b :: st) := by
  obtain ⟨K, A, H0, nL', p, l, e, R, s, m, args, below, meth, c, Q⟩ := G
  obtain ⟨rfl, rfl, rfl, rfl, hx, hb, hml, ho, hts, ⟨hK, hN⟩, hA⟩ := C0
  obtain ⟨hW, rfl, hs, hbl, hbA⟩ := hX
  intro H locs ls hP hD hS hl
  refine va_sld hx hb hs hbl hbA hS (vp_in_nI hj (by omega)) hdg ?_
  rw [nI_clamp (by omega)]
  exact kk H locs ls hP hD hS hl
theorem J_slen (C0 : Cx G K l cc nL own Ts rm) {tl tg b L : Nat} {xs : Nat → Int32} (hX : FnlS G tl tg b L xs) (hdg : decode cc pc = .ok (.arraylength, 1)) (kk : J G bs lv cells slots (pc + 1) (.int (nI L) :: st)) : J G bs lv cells slots (pc) (.ref b :: st) := by
  obtain ⟨K, A, H0, nL', p, l, e, R, s, m, args, below, meth, c, Q⟩ := G
  obtain ⟨rfl, rfl, rfl, rfl, hx, hb, hml, ho, hts, ⟨hK, hN⟩, hA⟩ := C0
  obtain ⟨hW, rfl, hs, hbl, hbA⟩ := hX
  intro H locs ls hP hD hS hl
  exact va_slen hx hb hs hbl hbA hS hdg (kk H locs ls hP hD hS hl)
theorem J_callW (C0 : Cx G K l cc nL own Ts rm) {tl tg b L : Nat} {xs : Nat → Int32} (hX : FnlS G tl tg b L xs) {index : Nat} {y : MethodName} {bytes : ByteArray} {maxL : Nat} {ret : Option FieldType} {hh : List (Nat × Nat × Nat × Nat)} {ws ws' : List Cond} {rmc : Room} {As rest : List Value} {w0 w1 : List va_W} {rv : Option Value} (hM : CtW l K y ws rmc As w0 rv w1 tl tg) (wr : List va_W) (hG : GoodIn Ts (va_wsS own index y ws)) (hdg : decode cc pc = .ok (.invokestatic index, 3)) (na : Nat) (hw : ws = Cond.codeWith y bytes maxL ret hh :: ws' := by rfl) (hd : y.cls ≠ "java/lang/invoke/MethodHandle" ∧ y.cls ≠ "java/lang/invoke/VarHandle" ∧ (parseMethodDescriptor y.desc).map (fun d => d.parameters.length) = some na := by decide +kernel) (hna : As.length = na := by rfl) (hR : rmc.frames + 1 ≤ rm.frames ∧ 8 + (maxL + 11) + rmc.locals ≤ rm.locals := by decide) (hf : cells + rmc.cells ≤ rm.cells ∧ slots + rmc.slots ≤ rm.slots) (hbs : bs = wr ++ w0 := by rfl) (hst : st = As.reverse ++ rest := by rfl) (hrs : (rest.map fun v => v.category).sum ≤ 8 := by exact Nat.le_of_ble_eq_true rfl) (kk : J G (wr ++ w1) lv (cells + rmc.cells) (slots + rmc.slots) (pc + 3) (rv.toList ++ rest)) : J G bs lv cells slots (pc) (st) := by
  obtain ⟨K, A, H0, nL', p, l, e, R, s, m, args, below, meth, c, Q⟩ := G
  obtain ⟨rfl, rfl, rfl, rfl, hx, hb, hml, ho, hts, ⟨hK, hN⟩, hA⟩ := C0
  obtain ⟨hWX, rfl, -⟩ := hX
  intro H locs ls hP hD hS hl
  subst hbs
  subst hst
  have hc0 := fl_callee hP hD
  have hF2 : ∀ q, va_A w0.flatten H.size q → A q := fl_free (K := K) hc0.2 hS hA
  exact J_backR (vx_runSW (As := As) (rest := rest) ⟨hx, hb, hml, ho, hts⟩ (hM H.size) (vx_cwSW na hts hG hw rfl rfl hd hR) ⟨sx_blind, fun U hU hW => ⟨⟨rfl, by rw [hU], by rw [hU]; exact hc0.1, KK.warm hW ⟨hK, hN⟩, hc0.2.weaken (fun _ _ _ _ => trivial)⟩, hWX.to hS hW hU hF2⟩⟩ rfl hna hl.1 rfl (lv_room hrs) hdg hf) hP hD hS hA (fun rv1 w2 hp H1 locs1 hP1 hD1 hS1 => by
    obtain ⟨rfl, rfl⟩ := hp
    exact kk H1 locs1 ls hP1 hD1 hS1 hl)
end JS
theorem lg_same (x : Int64) : lg_cmp x x = 0 := by
  unfold lg_cmp
  simp

theorem law_house {K : KT} {l : Launch} {G : JC} (C0 : Cx G K l cL_law 9 RL wsL_law room_1) {tl tg b L : Nat} {xs : Nat → Int32} (hX : FnlS G tl tg b L xs) (hL : L ≤ 2048) {x o : Nat} {a : Nat → Nat} {i cells slots : Nat} (hi : i + 3 < L) (hc : cells ≤ 600000) (hs : slots ≤ 7000000) {F : FF} {g P L0 : Nat → Int32} {M : FF} {cw cw1 : List va_W} {fs : List Value} (hrec : (cw.flatten)[0]? = some (x, .inr (4, fs))) {lf lf1 : Nat → Int64} {k : Nat} (hk : k < 4) {v : Int32} {Φ : FF → (Nat → Int32) → (Nat → Int32) → (Nat → Int32) → FF → Prop}
    (hW : CtW l K yL_house wsL_house rmL [.ref x, .ref o] (outW K o lf :: cw) (some (.int (nI k))) (outW K o lf1 :: cw1) tl tg)
    (hm : CtP l K yX5_house wsX5_house rmX5_house [.ref (a 0)] [modR K a (flat F) g P L0 M] (fun r w => ∃ F1 g1 P1 L1 M1, r = some (.int v) ∧ w = [modR K a (flat F1) g1 P1 L1 M1] ∧ M1 0 2 = nI k ∧ Φ F1 g1 P1 L1 M1))
    (hv : k = 0 → lf1 0 = v.toInt64)
    (kk : ∀ F1 g1 P1 L1 M1, Φ F1 g1 P1 L1 M1 → J G ([modR K a (flat F1) g1 P1 L1 M1] ++ (outW K o lf1 :: cw1)) [(0, .ref b), (1, .ref x), (2, .ref (a 0)), (3, .ref o), (4, .int (nI i))] (cells + 1) (slots + 6) 1424 []) :
    J G ([modR K a (flat F) g P L0 M] ++ (outW K o lf :: cw)) [(0, .ref b), (1, .ref x), (2, .ref (a 0)), (3, .ref o), (4, .int (nI i))] cells slots 156 [] := by
  refine J_aln C0 1 dL_law_156 (kk := ?_)
  refine J_aln C0 3 dL_law_157 (kk := ?_)
  refine J_callW C0 hX hW [modR K a (flat F) g P L0 M] gL_law_L_house dL_law_158 2 (hf := ⟨by show _ + 1 ≤ 601024; omega, by show _ + 6 ≤ 7293033; omega⟩) (kk := ?_)
  show J G _ _ _ _ _ [.int (nI k)]
  refine J_is C0 [(5, .int (nI k)), (0, .ref b), (1, .ref x), (2, .ref (a 0)), (3, .ref o), (4, .int (nI i))] dL_law_161 (kk := ?_)
  refine J_perm (bs2 := (outW K o lf1 :: cw1) ++ [modR K a (flat F) g P L0 M]) List.perm_append_comm ?_
  refine J_aln C0 3 dL_law_163 (kk := ?_)
  refine J_callV C0 (wr := outW K o lf1 :: cw1) (rest := []) hm rfl gL_law_X5_house dL_law_164 0 0 (hf := ⟨by show _ + 1 + 0 ≤ 601024; omega, by show _ + 6 + 0 ≤ 7293033; omega⟩) (kk := fun rv w1 h1 => ?_)
  obtain ⟨F1, g1, P1, L1, M1, rfl, rfl, eM, hΦ⟩ := h1
  show J G _ _ _ _ _ [.int v]
  refine J_is C0 [(6, .int v), (5, .int (nI k)), (0, .ref b), (1, .ref x), (2, .ref (a 0)), (3, .ref o), (4, .int (nI i))] dL_law_167 (kk := ?_)
  refine J_aln C0 4 dL_law_169 (kk := ?_)
  refine J_callVd C0 (mX5_thrown l K a F1 g1 P1 L1 M1) (outW K o lf1 :: cw1) ((outW K o lf1 :: cw1) ++ [modR K a (flat F1) g1 P1 L1 M1]) gL_law_X5_thrown dL_law_170 0 0 (hf := ⟨by show _ + 1 + 0 + 0 ≤ 601024; omega, by show _ + 6 + 0 + 0 ≤ 7293033; omega⟩) (kk := ?_)
  show J G _ _ _ _ _ [.int (M1 0 2)]
  rw [eM]
  refine J_il C0 1 dL_law_173 (kk := ?_)
  refine J_icmpeqN C0 180 (by omega) (by omega) dL_law_175 (kt := fun _ => ?_) (kf := fun q => absurd rfl q)
  refine J_il C0 1 dL_law_180 (kk := ?_)
  refine J_ifneN C0 197 (by omega) dL_law_182 (kt := fun _ => ?_) (kf := fun k0 => ?_)
  ·
    refine J_goto C0 1424 dL_law_197 (kk := ?_)
    refine J_perm (bs2 := [modR K a (flat F1) g1 P1 L1 M1] ++ (outW K o lf1 :: cw1)) List.perm_append_comm ?_
    exact J_lv [2, 3, 4, 5, 6] (kk := kk F1 g1 P1 L1 M1 hΦ)
  · have hv := hv k0
    refine J_aln C0 5 dL_law_185 (kk := ?_)
    refine J_ic C0 0 dL_law_186 (kk := ?_)
    refine J_lald C0 0 0 1 dL_law_187 (by decide) (hv := hv) (kk := ?_)
    refine J_il C0 0 dL_law_188 (kk := ?_)
    refine J_i2l C0 dL_law_190 (kk := ?_)
    refine J_lcmp C0 dL_law_191 (kk := ?_)
    rw [lg_same]
    refine J_ifeq C0 197 dL_law_192 (kt := fun _ => ?_) (kf := fun q => absurd rfl q)
    refine J_goto C0 1424 dL_law_197 (kk := ?_)
    refine J_perm (bs2 := [modR K a (flat F1) g1 P1 L1 M1] ++ (outW K o lf1 :: cw1)) List.perm_append_comm ?_
    exact J_lv [2, 3, 4, 5, 6] (kk := kk F1 g1 P1 L1 M1 hΦ)

theorem law_bottles {K : KT} {l : Launch} {G : JC} (C0 : Cx G K l cL_law 9 RL wsL_law room_1) {tl tg b L : Nat} {xs : Nat → Int32} (hX : FnlS G tl tg b L xs) (hL : L ≤ 2048) {x o : Nat} {a : Nat → Nat} {i cells slots : Nat} (hi : i + 3 < L) (hc : cells ≤ 600000) (hs : slots ≤ 7000000) {F : FF} {g P L0 : Nat → Int32} {M : FF} {cw cw1 : List va_W} {fs : List Value} (hrec : (cw.flatten)[0]? = some (x, .inr (4, fs))) {lf lf1 : Nat → Int64} {k : Nat} (hk : k < 4) {v : Int32} {Φ : FF → (Nat → Int32) → (Nat → Int32) → (Nat → Int32) → FF → Prop}
    (hW : CtW l K yL_bottles wsL_bottles rmL [.ref x, .int (xs (i + 1)), .int (xs (i + 2)), .ref o] (outW K o lf :: cw) (some (.int (nI k))) (outW K o lf1 :: cw1) tl tg)
    (hm : CtP l K yX5_bottles wsX5_bottles rmX5_bottles [.ref (a 0), .int (xs (i + 1)), .int (xs (i + 2))] [modR K a (flat F) g P L0 M] (fun r w => ∃ F1 g1 P1 L1 M1, r = some (.int v) ∧ w = [modR K a (flat F1) g1 P1 L1 M1] ∧ M1 0 2 = nI k ∧ Φ F1 g1 P1 L1 M1))
    (hv : k = 0 → lf1 0 = v.toInt64)
    (kk : ∀ F1 g1 P1 L1 M1, Φ F1 g1 P1 L1 M1 → J G ([modR K a (flat F1) g1 P1 L1 M1] ++ (outW K o lf1 :: cw1)) [(0, .ref b), (1, .ref x), (2, .ref (a 0)), (3, .ref o), (4, .int (nI i))] (cells + 1) (slots + 6) 1424 []) :
    J G ([modR K a (flat F) g P L0 M] ++ (outW K o lf :: cw)) [(0, .ref b), (1, .ref x), (2, .ref (a 0)), (3, .ref o), (4, .int (nI i))] cells slots 200 [] := by
  refine J_aln C0 1 dL_law_200 (kk := ?_)
  refine J_aln C0 0 dL_law_201 (kk := ?_)
  refine J_il C0 4 dL_law_202 (kk := ?_)
  refine J_ic C0 1 dL_law_204 (kk := ?_)
  refine J_iaddN C0 dL_law_205 (kk := ?_)
  refine J_sld C0 hX hL (j := i + 1) (by omega) dL_law_206 (kk := ?_)
  refine J_aln C0 0 dL_law_207 (kk := ?_)
  refine J_il C0 4 dL_law_208 (kk := ?_)
  refine J_ic C0 2 dL_law_210 (kk := ?_)
  refine J_iaddN C0 dL_law_211 (kk := ?_)
  refine J_sld C0 hX hL (j := i + 2) (by omega) dL_law_212 (kk := ?_)
  refine J_aln C0 3 dL_law_213 (kk := ?_)
  refine J_callW C0 hX hW [modR K a (flat F) g P L0 M] gL_law_L_bottles dL_law_214 4 (hf := ⟨by show _ + 1 ≤ 601024; omega, by show _ + 6 ≤ 7293033; omega⟩) (kk := ?_)
  show J G _ _ _ _ _ [.int (nI k)]
  refine J_is C0 [(5, .int (nI k)), (0, .ref b), (1, .ref x), (2, .ref (a 0)), (3, .ref o), (4, .int (nI i))] dL_law_217 (kk := ?_)
  refine J_perm (bs2 := (outW K o lf1 :: cw1) ++ [modR K a (flat F) g P L0 M]) List.perm_append_comm ?_
  refine J_aln C0 3 dL_law_219 (kk := ?_)
  refine J_aln C0 1 dL_law_220 (kk := ?_)
  refine J_il C0 5 dL_law_221 (kk := ?_)
  refine J_ic C0 1 dL_law_223 (kk := ?_)
  refine J_iaddN C0 dL_law_224 (kk := ?_)
  refine J_sld C0 hX hL (j := i + 1) (by omega) dL_law_225 (kk := ?_)
  refine J_aln C0 1 dL_law_226 (kk := ?_)
  refine J_il C0 5 dL_law_227 (kk := ?_)
  refine J_ic C0 2 dL_law_229 (kk := ?_)
  refine J_iaddN C0 dL_law_230 (kk := ?_)
  refine J_sld C0 hX hL (j := i + 2) (by omega) dL_law_231 (kk := ?_)
  refine J_callV C0 (wr := outW K o lf1 :: cw1) (rest := []) hm rfl gL_law_X5_bottles dL_law_232 2 0 (hf := ⟨by show _ + 1 + 0 ≤ 601024; omega, by show _ + 6 + 0 ≤ 7293033; omega⟩) (kk := fun rv w1 h1 => ?_)
  obtain ⟨F1, g1, P1, L1, M1, rfl, rfl, eM, hΦ⟩ := h1
  show J G _ _ _ _ _ [.int v]
  refine J_is C0 [(6, .int v), (5, .int (nI k)), (0, .ref b), (1, .ref x), (2, .ref (a 0)), (3, .ref o), (4, .int (nI i))] dL_law_235 (kk := ?_)
  refine J_aln C0 4 dL_law_237 (kk := ?_)
  refine J_callVd C0 (mX5_thrown l K a F1 g1 P1 L1 M1) (outW K o lf1 :: cw1) ((outW K o lf1 :: cw1) ++ [modR K a (flat F1) g1 P1 L1 M1]) gL_law_X5_thrown dL_law_238 0 0 (hf := ⟨by show _ + 1 + 0 + 0 ≤ 601024; omega, by show _ + 6 + 0 + 0 ≤ 7293033; omega⟩) (kk := ?_)
  show J G _ _ _ _ _ [.int (M1 0 2)]
  rw [eM]
  refine J_il C0 1 dL_law_241 (kk := ?_)
  refine J_icmpeqN C0 248 (by omega) (by omega) dL_law_243 (kt := fun _ => ?_) (kf := fun q => absurd rfl q)
  refine J_il C0 1 dL_law_248 (kk := ?_)
  refine J_ifneN C0 265 (by omega) dL_law_250 (kt := fun _ => ?_) (kf := fun k0 => ?_)
  ·
    refine J_goto C0 1424 dL_law_265 (kk := ?_)
    refine J_perm (bs2 := [modR K a (flat F1) g1 P1 L1 M1] ++ (outW K o lf1 :: cw1)) List.perm_append_comm ?_
    exact J_lv [2, 3, 4, 5, 6] (kk := kk F1 g1 P1 L1 M1 hΦ)
  · have hv := hv k0
    refine J_aln C0 5 dL_law_253 (kk := ?_)
    refine J_ic C0 0 dL_law_254 (kk := ?_)
    refine J_lald C0 0 0 1 dL_law_255 (by decide) (hv := hv) (kk := ?_)
    refine J_il C0 0 dL_law_256 (kk := ?_)
    refine J_i2l C0 dL_law_258 (kk := ?_)
    refine J_lcmp C0 dL_law_259 (kk := ?_)
    rw [lg_same]
    refine J_ifeq C0 265 dL_law_260 (kt := fun _ => ?_) (kf := fun q => absurd rfl q)
    refine J_goto C0 1424 dL_law_265 (kk := ?_)
    refine J_perm (bs2 := [modR K a (flat F1) g1 P1 L1 M1] ++ (outW K o lf1 :: cw1)) List.perm_append_comm ?_
    exact J_lv [2, 3, 4, 5, 6] (kk := kk F1 g1 P1 L1 M1 hΦ)

theorem law_lend {K : KT} {l : Launch} {G : JC} (C0 : Cx G K l cL_law 9 RL wsL_law room_1) {tl tg b L : Nat} {xs : Nat → Int32} (hX : FnlS G tl tg b L xs) (hL : L ≤ 2048) {x o : Nat} {a : Nat → Nat} {i cells slots : Nat} (hi : i + 3 < L) (hc : cells ≤ 600000) (hs : slots ≤ 7000000) {F : FF} {g P L0 : Nat → Int32} {M : FF} {cw cw1 : List va_W} {fs : List Value} (hrec : (cw.flatten)[0]? = some (x, .inr (4, fs))) {lf lf1 : Nat → Int64} {k : Nat} (hk : k < 4) {v : Int32} {Φ : FF → (Nat → Int32) → (Nat → Int32) → (Nat → Int32) → FF → Prop}
    (hW : CtW l K yL_lend wsL_lend rmL [.ref x, .int (xs (i + 1)), .int (xs (i + 2)), .ref o] (outW K o lf :: cw) (some (.int (nI k))) (outW K o lf1 :: cw1) tl tg)
    (hm : CtP l K yX5_lend wsX5_lend rmX5_lend [.ref (a 0), .int (xs (i + 1)), .int (xs (i + 2))] [modR K a (flat F) g P L0 M] (fun r w => ∃ F1 g1 P1 L1 M1, r = some (.int v) ∧ w = [modR K a (flat F1) g1 P1 L1 M1] ∧ M1 0 2 = nI k ∧ Φ F1 g1 P1 L1 M1))
    (hv : k = 0 → lf1 0 = v.toInt64)
    (kk : ∀ F1 g1 P1 L1 M1, Φ F1 g1 P1 L1 M1 → J G ([modR K a (flat F1) g1 P1 L1 M1] ++ (outW K o lf1 :: cw1)) [(0, .ref b), (1, .ref x), (2, .ref (a 0)), (3, .ref o), (4, .int (nI i))] (cells + 1) (slots + 6) 1424 []) :
    J G ([modR K a (flat F) g P L0 M] ++ (outW K o lf :: cw)) [(0, .ref b), (1, .ref x), (2, .ref (a 0)), (3, .ref o), (4, .int (nI i))] cells slots 268 [] := by
  refine J_aln C0 1 dL_law_268 (kk := ?_)
  refine J_aln C0 0 dL_law_269 (kk := ?_)
  refine J_il C0 4 dL_law_270 (kk := ?_)
  refine J_ic C0 1 dL_law_272 (kk := ?_)
  refine J_iaddN C0 dL_law_273 (kk := ?_)
  refine J_sld C0 hX hL (j := i + 1) (by omega) dL_law_274 (kk := ?_)
  refine J_aln C0 0 dL_law_275 (kk := ?_)
  refine J_il C0 4 dL_law_276 (kk := ?_)
  refine J_ic C0 2 dL_law_278 (kk := ?_)
  refine J_iaddN C0 dL_law_279 (kk := ?_)
  refine J_sld C0 hX hL (j := i + 2) (by omega) dL_law_280 (kk := ?_)
  refine J_aln C0 3 dL_law_281 (kk := ?_)
  refine J_callW C0 hX hW [modR K a (flat F) g P L0 M] gL_law_L_lend dL_law_282 4 (hf := ⟨by show _ + 1 ≤ 601024; omega, by show _ + 6 ≤ 7293033; omega⟩) (kk := ?_)
  show J G _ _ _ _ _ [.int (nI k)]
  refine J_is C0 [(5, .int (nI k)), (0, .ref b), (1, .ref x), (2, .ref (a 0)), (3, .ref o), (4, .int (nI i))] dL_law_285 (kk := ?_)
  refine J_perm (bs2 := (outW K o lf1 :: cw1) ++ [modR K a (flat F) g P L0 M]) List.perm_append_comm ?_
  refine J_aln C0 3 dL_law_287 (kk := ?_)
  refine J_aln C0 1 dL_law_288 (kk := ?_)
  refine J_il C0 5 dL_law_289 (kk := ?_)
  refine J_ic C0 1 dL_law_291 (kk := ?_)
  refine J_iaddN C0 dL_law_292 (kk := ?_)
  refine J_sld C0 hX hL (j := i + 1) (by omega) dL_law_293 (kk := ?_)
  refine J_aln C0 1 dL_law_294 (kk := ?_)
  refine J_il C0 5 dL_law_295 (kk := ?_)
  refine J_ic C0 2 dL_law_297 (kk := ?_)
  refine J_iaddN C0 dL_law_298 (kk := ?_)
  refine J_sld C0 hX hL (j := i + 2) (by omega) dL_law_299 (kk := ?_)
  refine J_callV C0 (wr := outW K o lf1 :: cw1) (rest := []) hm rfl gL_law_X5_lend dL_law_300 2 0 (hf := ⟨by show _ + 1 + 0 ≤ 601024; omega, by show _ + 6 + 0 ≤ 7293033; omega⟩) (kk := fun rv w1 h1 => ?_)
  obtain ⟨F1, g1, P1, L1, M1, rfl, rfl, eM, hΦ⟩ := h1
  show J G _ _ _ _ _ [.int v]
  refine J_is C0 [(6, .int v), (5, .int (nI k)), (0, .ref b), (1, .ref x), (2, .ref (a 0)), (3, .ref o), (4, .int (nI i))] dL_law_303 (kk := ?_)
  refine J_aln C0 4 dL_law_305 (kk := ?_)
  refine J_callVd C0 (mX5_thrown l K a F1 g1 P1 L1 M1) (outW K o lf1 :: cw1) ((outW K o lf1 :: cw1) ++ [modR K a (flat F1) g1 P1 L1 M1]) gL_law_X5_thrown dL_law_306 0 0 (hf := ⟨by show _ + 1 + 0 + 0 ≤ 601024; omega, by show _ + 6 + 0 + 0 ≤ 7293033; omega⟩) (kk := ?_)
  show J G _ _ _ _ _ [.int (M1 0 2)]
  rw [eM]
  refine J_il C0 1 dL_law_309 (kk := ?_)
  refine J_icmpeqN C0 316 (by omega) (by omega) dL_law_311 (kt := fun _ => ?_) (kf := fun q => absurd rfl q)
  refine J_il C0 1 dL_law_316 (kk := ?_)
  refine J_ifneN C0 333 (by omega) dL_law_318 (kt := fun _ => ?_) (kf := fun k0 => ?_)
  ·
    refine J_goto C0 1424 dL_law_333 (kk := ?_)
    refine J_perm (bs2 := [modR K a (flat F1) g1 P1 L1 M1] ++ (outW K o lf1 :: cw1)) List.perm_append_comm ?_
    exact J_lv [2, 3, 4, 5, 6] (kk := kk F1 g1 P1 L1 M1 hΦ)
  · have hv := hv k0
    refine J_aln C0 5 dL_law_321 (kk := ?_)
    refine J_ic C0 0 dL_law_322 (kk := ?_)
    refine J_lald C0 0 0 1 dL_law_323 (by decide) (hv := hv) (kk := ?_)
    refine J_il C0 0 dL_law_324 (kk := ?_)
    refine J_i2l C0 dL_law_326 (kk := ?_)
    refine J_lcmp C0 dL_law_327 (kk := ?_)
    rw [lg_same]
    refine J_ifeq C0 333 dL_law_328 (kt := fun _ => ?_) (kf := fun q => absurd rfl q)
    refine J_goto C0 1424 dL_law_333 (kk := ?_)
    refine J_perm (bs2 := [modR K a (flat F1) g1 P1 L1 M1] ++ (outW K o lf1 :: cw1)) List.perm_append_comm ?_
    exact J_lv [2, 3, 4, 5, 6] (kk := kk F1 g1 P1 L1 M1 hΦ)

theorem law_ask {K : KT} {l : Launch} {G : JC} (C0 : Cx G K l cL_law 9 RL wsL_law room_1) {tl tg b L : Nat} {xs : Nat → Int32} (hX : FnlS G tl tg b L xs) (hL : L ≤ 2048) {x o : Nat} {a : Nat → Nat} {i cells slots : Nat} (hi : i + 3 < L) (hc : cells ≤ 600000) (hs : slots ≤ 7000000) {F : FF} {g P L0 : Nat → Int32} {M : FF} {cw cw1 : List va_W} {fs : List Value} (hrec : (cw.flatten)[0]? = some (x, .inr (4, fs))) {lf lf1 : Nat → Int64} {k : Nat} (hk : k < 4) {v : Int32} {Φ : FF → (Nat → Int32) → (Nat → Int32) → (Nat → Int32) → FF → Prop}
    (hW : CtW l K yL_ask wsL_ask rmL [.ref x, .int (xs (i + 1)), .int (xs (i + 2)), .ref o] (outW K o lf :: cw) (some (.int (nI k))) (outW K o lf1 :: cw1) tl tg)
    (hm : CtP l K yX5_ask wsX5_ask rmX5_ask [.ref (a 0), .int (xs (i + 1)), .int (xs (i + 2))] [modR K a (flat F) g P L0 M] (fun r w => ∃ F1 g1 P1 L1 M1, r = some (.int v) ∧ w = [modR K a (flat F1) g1 P1 L1 M1] ∧ M1 0 2 = nI k ∧ Φ F1 g1 P1 L1 M1))
    (hv : k = 0 → lf1 0 = v.toInt64)
    (kk : ∀ F1 g1 P1 L1 M1, Φ F1 g1 P1 L1 M1 → J G ([modR K a (flat F1) g1 P1 L1 M1] ++ (outW K o lf1 :: cw1)) [(0, .ref b), (1, .ref x), (2, .ref (a 0)), (3, .ref o), (4, .int (nI i))] (cells + 1) (slots + 6) 1424 []) :
    J G ([modR K a (flat F) g P L0 M] ++ (outW K o lf :: cw)) [(0, .ref b), (1, .ref x), (2, .ref (a 0)), (3, .ref o), (4, .int (nI i))] cells slots 336 [] := by
  refine J_aln C0 1 dL_law_336 (kk := ?_)
  refine J_aln C0 0 dL_law_337 (kk := ?_)
  refine J_il C0 4 dL_law_338 (kk := ?_)
  refine J_ic C0 1 dL_law_340 (kk := ?_)
  refine J_iaddN C0 dL_law_341 (kk := ?_)
  refine J_sld C0 hX hL (j := i + 1) (by omega) dL_law_342 (kk := ?_)
  refine J_aln C0 0 dL_law_343 (kk := ?_)
  refine J_il C0 4 dL_law_344 (kk := ?_)
  refine J_ic C0 2 dL_law_346 (kk := ?_)
  refine J_iaddN C0 dL_law_347 (kk := ?_)
  refine J_sld C0 hX hL (j := i + 2) (by omega) dL_law_348 (kk := ?_)
  refine J_aln C0 3 dL_law_349 (kk := ?_)
  refine J_callW C0 hX hW [modR K a (flat F) g P L0 M] gL_law_L_ask dL_law_350 4 (hf := ⟨by show _ + 1 ≤ 601024; omega, by show _ + 6 ≤ 7293033; omega⟩) (kk := ?_)
  show J G _ _ _ _ _ [.int (nI k)]
  refine J_is C0 [(5, .int (nI k)), (0, .ref b), (1, .ref x), (2, .ref (a 0)), (3, .ref o), (4, .int (nI i))] dL_law_353 (kk := ?_)
  refine J_perm (bs2 := (outW K o lf1 :: cw1) ++ [modR K a (flat F) g P L0 M]) List.perm_append_comm ?_
  refine J_aln C0 3 dL_law_355 (kk := ?_)
  refine J_aln C0 1 dL_law_356 (kk := ?_)
  refine J_il C0 5 dL_law_357 (kk := ?_)
  refine J_ic C0 1 dL_law_359 (kk := ?_)
  refine J_iaddN C0 dL_law_360 (kk := ?_)
  refine J_sld C0 hX hL (j := i + 1) (by omega) dL_law_361 (kk := ?_)
  refine J_aln C0 1 dL_law_362 (kk := ?_)
  refine J_il C0 5 dL_law_363 (kk := ?_)
  refine J_ic C0 2 dL_law_365 (kk := ?_)
  refine J_iaddN C0 dL_law_366 (kk := ?_)
  refine J_sld C0 hX hL (j := i + 2) (by omega) dL_law_367 (kk := ?_)
  refine J_callV C0 (wr := outW K o lf1 :: cw1) (rest := []) hm rfl gL_law_X5_ask dL_law_368 2 0 (hf := ⟨by show _ + 1 + 0 ≤ 601024; omega, by show _ + 6 + 0 ≤ 7293033; omega⟩) (kk := fun rv w1 h1 => ?_)
  obtain ⟨F1, g1, P1, L1, M1, rfl, rfl, eM, hΦ⟩ := h1
  show J G _ _ _ _ _ [.int v]
  refine J_is C0 [(6, .int v), (5, .int (nI k)), (0, .ref b), (1, .ref x), (2, .ref (a 0)), (3, .ref o), (4, .int (nI i))] dL_law_371 (kk := ?_)
  refine J_aln C0 4 dL_law_373 (kk := ?_)
  refine J_callVd C0 (mX5_thrown l K a F1 g1 P1 L1 M1) (outW K o lf1 :: cw1) ((outW K o lf1 :: cw1) ++ [modR K a (flat F1) g1 P1 L1 M1]) gL_law_X5_thrown dL_law_374 0 0 (hf := ⟨by show _ + 1 + 0 + 0 ≤ 601024; omega, by show _ + 6 + 0 + 0 ≤ 7293033; omega⟩) (kk := ?_)
  show J G _ _ _ _ _ [.int (M1 0 2)]
  rw [eM]
  refine J_il C0 1 dL_law_377 (kk := ?_)
  refine J_icmpeqN C0 384 (by omega) (by omega) dL_law_379 (kt := fun _ => ?_) (kf := fun q => absurd rfl q)
  refine J_il C0 1 dL_law_384 (kk := ?_)
  refine J_ifneN C0 401 (by omega) dL_law_386 (kt := fun _ => ?_) (kf := fun k0 => ?_)
  ·
    refine J_goto C0 1424 dL_law_401 (kk := ?_)
    refine J_perm (bs2 := [modR K a (flat F1) g1 P1 L1 M1] ++ (outW K o lf1 :: cw1)) List.perm_append_comm ?_
    exact J_lv [2, 3, 4, 5, 6] (kk := kk F1 g1 P1 L1 M1 hΦ)
  · have hv := hv k0
    refine J_aln C0 5 dL_law_389 (kk := ?_)
    refine J_ic C0 0 dL_law_390 (kk := ?_)
    refine J_lald C0 0 0 1 dL_law_391 (by decide) (hv := hv) (kk := ?_)
    refine J_il C0 0 dL_law_392 (kk := ?_)
    refine J_i2l C0 dL_law_394 (kk := ?_)
    refine J_lcmp C0 dL_law_395 (kk := ?_)
    rw [lg_same]
    refine J_ifeq C0 401 dL_law_396 (kt := fun _ => ?_) (kf := fun q => absurd rfl q)
    refine J_goto C0 1424 dL_law_401 (kk := ?_)
    refine J_perm (bs2 := [modR K a (flat F1) g1 P1 L1 M1] ++ (outW K o lf1 :: cw1)) List.perm_append_comm ?_
    exact J_lv [2, 3, 4, 5, 6] (kk := kk F1 g1 P1 L1 M1 hΦ)

theorem law_want {K : KT} {l : Launch} {G : JC} (C0 : Cx G K l cL_law 9 RL wsL_law room_1) {tl tg b L : Nat} {xs : Nat → Int32} (hX : FnlS G tl tg b L xs) (hL : L ≤ 2048) {x o : Nat} {a : Nat → Nat} {i cells slots : Nat} (hi : i + 3 < L) (hc : cells ≤ 600000) (hs : slots ≤ 7000000) {F : FF} {g P L0 : Nat → Int32} {M : FF} {cw cw1 : List va_W} {fs : List Value} (hrec : (cw.flatten)[0]? = some (x, .inr (4, fs))) {lf lf1 : Nat → Int64} {k : Nat} (hk : k < 4) {v : Int32} {Φ : FF → (Nat → Int32) → (Nat → Int32) → (Nat → Int32) → FF → Prop}
    (hW : CtW l K yL_want wsL_want rmL [.ref x, .int (xs (i + 1)), .int (xs (i + 2)), .ref o] (outW K o lf :: cw) (some (.int (nI k))) (outW K o lf1 :: cw1) tl tg)
    (hm : CtP l K yX5_want wsX5_want rmX5_want [.ref (a 0), .int (xs (i + 1)), .int (xs (i + 2))] [modR K a (flat F) g P L0 M] (fun r w => ∃ F1 g1 P1 L1 M1, r = some (.int v) ∧ w = [modR K a (flat F1) g1 P1 L1 M1] ∧ M1 0 2 = nI k ∧ Φ F1 g1 P1 L1 M1))
    (hv : k = 0 → lf1 0 = v.toInt64)
    (kk : ∀ F1 g1 P1 L1 M1, Φ F1 g1 P1 L1 M1 → J G ([modR K a (flat F1) g1 P1 L1 M1] ++ (outW K o lf1 :: cw1)) [(0, .ref b), (1, .ref x), (2, .ref (a 0)), (3, .ref o), (4, .int (nI i))] (cells + 1) (slots + 6) 1424 []) :
    J G ([modR K a (flat F) g P L0 M] ++ (outW K o lf :: cw)) [(0, .ref b), (1, .ref x), (2, .ref (a 0)), (3, .ref o), (4, .int (nI i))] cells slots 404 [] := by
  refine J_aln C0 1 dL_law_404 (kk := ?_)
  refine J_aln C0 0 dL_law_405 (kk := ?_)
  refine J_il C0 4 dL_law_406 (kk := ?_)
  refine J_ic C0 1 dL_law_408 (kk := ?_)
  refine J_iaddN C0 dL_law_409 (kk := ?_)
  refine J_sld C0 hX hL (j := i + 1) (by omega) dL_law_410 (kk := ?_)
  refine J_aln C0 0 dL_law_411 (kk := ?_)
  refine J_il C0 4 dL_law_412 (kk := ?_)
  refine J_ic C0 2 dL_law_414 (kk := ?_)
  refine J_iaddN C0 dL_law_415 (kk := ?_)
  refine J_sld C0 hX hL (j := i + 2) (by omega) dL_law_416 (kk := ?_)
  refine J_aln C0 3 dL_law_417 (kk := ?_)
  refine J_callW C0 hX hW [modR K a (flat F) g P L0 M] gL_law_L_want dL_law_418 4 (hf := ⟨by show _ + 1 ≤ 601024; omega, by show _ + 6 ≤ 7293033; omega⟩) (kk := ?_)
  show J G _ _ _ _ _ [.int (nI k)]
  refine J_is C0 [(5, .int (nI k)), (0, .ref b), (1, .ref x), (2, .ref (a 0)), (3, .ref o), (4, .int (nI i))] dL_law_421 (kk := ?_)
  refine J_perm (bs2 := (outW K o lf1 :: cw1) ++ [modR K a (flat F) g P L0 M]) List.perm_append_comm ?_
  refine J_aln C0 3 dL_law_423 (kk := ?_)
  refine J_aln C0 1 dL_law_424 (kk := ?_)
  refine J_il C0 5 dL_law_425 (kk := ?_)
  refine J_ic C0 1 dL_law_427 (kk := ?_)
  refine J_iaddN C0 dL_law_428 (kk := ?_)
  refine J_sld C0 hX hL (j := i + 1) (by omega) dL_law_429 (kk := ?_)
  refine J_aln C0 1 dL_law_430 (kk := ?_)
  refine J_il C0 5 dL_law_431 (kk := ?_)
  refine J_ic C0 2 dL_law_433 (kk := ?_)
  refine J_iaddN C0 dL_law_434 (kk := ?_)
  refine J_sld C0 hX hL (j := i + 2) (by omega) dL_law_435 (kk := ?_)
  refine J_callV C0 (wr := outW K o lf1 :: cw1) (rest := []) hm rfl gL_law_X5_want dL_law_436 2 0 (hf := ⟨by show _ + 1 + 0 ≤ 601024; omega, by show _ + 6 + 0 ≤ 7293033; omega⟩) (kk := fun rv w1 h1 => ?_)
  obtain ⟨F1, g1, P1, L1, M1, rfl, rfl, eM, hΦ⟩ := h1
  show J G _ _ _ _ _ [.int v]
  refine J_is C0 [(6, .int v), (5, .int (nI k)), (0, .ref b), (1, .ref x), (2, .ref (a 0)), (3, .ref o), (4, .int (nI i))] dL_law_439 (kk := ?_)
  refine J_aln C0 4 dL_law_441 (kk := ?_)
  refine J_callVd C0 (mX5_thrown l K a F1 g1 P1 L1 M1) (outW K o lf1 :: cw1) ((outW K o lf1 :: cw1) ++ [modR K a (flat F1) g1 P1 L1 M1]) gL_law_X5_thrown dL_law_442 0 0 (hf := ⟨by show _ + 1 + 0 + 0 ≤ 601024; omega, by show _ + 6 + 0 + 0 ≤ 7293033; omega⟩) (kk := ?_)
  show J G _ _ _ _ _ [.int (M1 0 2)]
  rw [eM]
  refine J_il C0 1 dL_law_445 (kk := ?_)
  refine J_icmpeqN C0 452 (by omega) (by omega) dL_law_447 (kt := fun _ => ?_) (kf := fun q => absurd rfl q)
  refine J_il C0 1 dL_law_452 (kk := ?_)
  refine J_ifneN C0 469 (by omega) dL_law_454 (kt := fun _ => ?_) (kf := fun k0 => ?_)
  ·
    refine J_goto C0 1424 dL_law_469 (kk := ?_)
    refine J_perm (bs2 := [modR K a (flat F1) g1 P1 L1 M1] ++ (outW K o lf1 :: cw1)) List.perm_append_comm ?_
    exact J_lv [2, 3, 4, 5, 6] (kk := kk F1 g1 P1 L1 M1 hΦ)
  · have hv := hv k0
    refine J_aln C0 5 dL_law_457 (kk := ?_)
    refine J_ic C0 0 dL_law_458 (kk := ?_)
    refine J_lald C0 0 0 1 dL_law_459 (by decide) (hv := hv) (kk := ?_)
    refine J_il C0 0 dL_law_460 (kk := ?_)
    refine J_i2l C0 dL_law_462 (kk := ?_)
    refine J_lcmp C0 dL_law_463 (kk := ?_)
    rw [lg_same]
    refine J_ifeq C0 469 dL_law_464 (kt := fun _ => ?_) (kf := fun q => absurd rfl q)
    refine J_goto C0 1424 dL_law_469 (kk := ?_)
    refine J_perm (bs2 := [modR K a (flat F1) g1 P1 L1 M1] ++ (outW K o lf1 :: cw1)) List.perm_append_comm ?_
    exact J_lv [2, 3, 4, 5, 6] (kk := kk F1 g1 P1 L1 M1 hΦ)

theorem law_drink {K : KT} {l : Launch} {G : JC} (C0 : Cx G K l cL_law 9 RL wsL_law room_1) {tl tg b L : Nat} {xs : Nat → Int32} (hX : FnlS G tl tg b L xs) (hL : L ≤ 2048) {x o : Nat} {a : Nat → Nat} {i cells slots : Nat} (hi : i + 3 < L) (hc : cells ≤ 600000) (hs : slots ≤ 7000000) {F : FF} {g P L0 : Nat → Int32} {M : FF} {cw cw1 : List va_W} {fs : List Value} (hrec : (cw.flatten)[0]? = some (x, .inr (4, fs))) {lf lf1 : Nat → Int64} {k : Nat} (hk : k < 4) {v : Int32} {Φ : FF → (Nat → Int32) → (Nat → Int32) → (Nat → Int32) → FF → Prop}
    (hW : CtW l K yL_drink wsL_drink rmL [.ref x, .int (xs (i + 1)), .ref o] (outW K o lf :: cw) (some (.int (nI k))) (outW K o lf1 :: cw1) tl tg)
    (hm : CtP l K yX5_drink wsX5_drink rmX5_drink [.ref (a 0), .int (xs (i + 1))] [modR K a (flat F) g P L0 M] (fun r w => ∃ F1 g1 P1 L1 M1, r = some (.int v) ∧ w = [modR K a (flat F1) g1 P1 L1 M1] ∧ M1 0 2 = nI k ∧ Φ F1 g1 P1 L1 M1))
    (hv : k = 0 → lf1 0 = v.toInt64)
    (kk : ∀ F1 g1 P1 L1 M1, Φ F1 g1 P1 L1 M1 → J G ([modR K a (flat F1) g1 P1 L1 M1] ++ (outW K o lf1 :: cw1)) [(0, .ref b), (1, .ref x), (2, .ref (a 0)), (3, .ref o), (4, .int (nI i))] (cells + 1) (slots + 6) 1424 []) :
    J G ([modR K a (flat F) g P L0 M] ++ (outW K o lf :: cw)) [(0, .ref b), (1, .ref x), (2, .ref (a 0)), (3, .ref o), (4, .int (nI i))] cells slots 472 [] := by
  refine J_aln C0 1 dL_law_472 (kk := ?_)
  refine J_aln C0 0 dL_law_473 (kk := ?_)
  refine J_il C0 4 dL_law_474 (kk := ?_)
  refine J_ic C0 1 dL_law_476 (kk := ?_)
  refine J_iaddN C0 dL_law_477 (kk := ?_)
  refine J_sld C0 hX hL (j := i + 1) (by omega) dL_law_478 (kk := ?_)
  refine J_aln C0 3 dL_law_479 (kk := ?_)
  refine J_callW C0 hX hW [modR K a (flat F) g P L0 M] gL_law_L_drink dL_law_480 3 (hf := ⟨by show _ + 1 ≤ 601024; omega, by show _ + 6 ≤ 7293033; omega⟩) (kk := ?_)
  show J G _ _ _ _ _ [.int (nI k)]
  refine J_is C0 [(5, .int (nI k)), (0, .ref b), (1, .ref x), (2, .ref (a 0)), (3, .ref o), (4, .int (nI i))] dL_law_483 (kk := ?_)
  refine J_perm (bs2 := (outW K o lf1 :: cw1) ++ [modR K a (flat F) g P L0 M]) List.perm_append_comm ?_
  refine J_aln C0 3 dL_law_485 (kk := ?_)
  refine J_aln C0 1 dL_law_486 (kk := ?_)
  refine J_il C0 5 dL_law_487 (kk := ?_)
  refine J_ic C0 1 dL_law_489 (kk := ?_)
  refine J_iaddN C0 dL_law_490 (kk := ?_)
  refine J_sld C0 hX hL (j := i + 1) (by omega) dL_law_491 (kk := ?_)
  refine J_callV C0 (wr := outW K o lf1 :: cw1) (rest := []) hm rfl gL_law_X5_drink dL_law_492 1 0 (hf := ⟨by show _ + 1 + 0 ≤ 601024; omega, by show _ + 6 + 0 ≤ 7293033; omega⟩) (kk := fun rv w1 h1 => ?_)
  obtain ⟨F1, g1, P1, L1, M1, rfl, rfl, eM, hΦ⟩ := h1
  show J G _ _ _ _ _ [.int v]
  refine J_is C0 [(6, .int v), (5, .int (nI k)), (0, .ref b), (1, .ref x), (2, .ref (a 0)), (3, .ref o), (4, .int (nI i))] dL_law_495 (kk := ?_)
  refine J_aln C0 4 dL_law_497 (kk := ?_)
  refine J_callVd C0 (mX5_thrown l K a F1 g1 P1 L1 M1) (outW K o lf1 :: cw1) ((outW K o lf1 :: cw1) ++ [modR K a (flat F1) g1 P1 L1 M1]) gL_law_X5_thrown dL_law_498 0 0 (hf := ⟨by show _ + 1 + 0 + 0 ≤ 601024; omega, by show _ + 6 + 0 + 0 ≤ 7293033; omega⟩) (kk := ?_)
  show J G _ _ _ _ _ [.int (M1 0 2)]
  rw [eM]
  refine J_il C0 1 dL_law_501 (kk := ?_)
  refine J_icmpeqN C0 508 (by omega) (by omega) dL_law_503 (kt := fun _ => ?_) (kf := fun q => absurd rfl q)
  refine J_il C0 1 dL_law_508 (kk := ?_)
  refine J_ifneN C0 525 (by omega) dL_law_510 (kt := fun _ => ?_) (kf := fun k0 => ?_)
  ·
    refine J_goto C0 1424 dL_law_525 (kk := ?_)
    refine J_perm (bs2 := [modR K a (flat F1) g1 P1 L1 M1] ++ (outW K o lf1 :: cw1)) List.perm_append_comm ?_
    exact J_lv [2, 3, 4, 5, 6] (kk := kk F1 g1 P1 L1 M1 hΦ)
  · have hv := hv k0
    refine J_aln C0 5 dL_law_513 (kk := ?_)
    refine J_ic C0 0 dL_law_514 (kk := ?_)
    refine J_lald C0 0 0 1 dL_law_515 (by decide) (hv := hv) (kk := ?_)
    refine J_il C0 0 dL_law_516 (kk := ?_)
    refine J_i2l C0 dL_law_518 (kk := ?_)
    refine J_lcmp C0 dL_law_519 (kk := ?_)
    rw [lg_same]
    refine J_ifeq C0 525 dL_law_520 (kt := fun _ => ?_) (kf := fun q => absurd rfl q)
    refine J_goto C0 1424 dL_law_525 (kk := ?_)
    refine J_perm (bs2 := [modR K a (flat F1) g1 P1 L1 M1] ++ (outW K o lf1 :: cw1)) List.perm_append_comm ?_
    exact J_lv [2, 3, 4, 5, 6] (kk := kk F1 g1 P1 L1 M1 hΦ)

theorem law_pass {K : KT} {l : Launch} {G : JC} (C0 : Cx G K l cL_law 9 RL wsL_law room_1) {tl tg b L : Nat} {xs : Nat → Int32} (hX : FnlS G tl tg b L xs) (hL : L ≤ 2048) {x o : Nat} {a : Nat → Nat} {i cells slots : Nat} (hi : i + 3 < L) (hc : cells ≤ 600000) (hs : slots ≤ 7000000) {F : FF} {g P L0 : Nat → Int32} {M : FF} {cw cw1 : List va_W} {fs : List Value} (hrec : (cw.flatten)[0]? = some (x, .inr (4, fs))) {lf lf1 : Nat → Int64} {k : Nat} (hk : k < 4) {v : Int32} {Φ : FF → (Nat → Int32) → (Nat → Int32) → (Nat → Int32) → FF → Prop}
    (hW : CtW l K yL_pass wsL_pass rmL [.ref x, .int (xs (i + 1)), .ref o] (outW K o lf :: cw) (some (.int (nI k))) (outW K o lf1 :: cw1) tl tg)
    (hm : CtP l K yX5_pass wsX5_pass rmX5_pass [.ref (a 0), .int (xs (i + 1))] [modR K a (flat F) g P L0 M] (fun r w => ∃ F1 g1 P1 L1 M1, r = some (.int v) ∧ w = [modR K a (flat F1) g1 P1 L1 M1] ∧ M1 0 2 = nI k ∧ Φ F1 g1 P1 L1 M1))
    (hv : k = 0 → lf1 0 = v.toInt64)
    (kk : ∀ F1 g1 P1 L1 M1, Φ F1 g1 P1 L1 M1 → J G ([modR K a (flat F1) g1 P1 L1 M1] ++ (outW K o lf1 :: cw1)) [(0, .ref b), (1, .ref x), (2, .ref (a 0)), (3, .ref o), (4, .int (nI i))] (cells + 1) (slots + 6) 1424 []) :
    J G ([modR K a (flat F) g P L0 M] ++ (outW K o lf :: cw)) [(0, .ref b), (1, .ref x), (2, .ref (a 0)), (3, .ref o), (4, .int (nI i))] cells slots 528 [] := by
  refine J_aln C0 1 dL_law_528 (kk := ?_)
  refine J_aln C0 0 dL_law_529 (kk := ?_)
  refine J_il C0 4 dL_law_530 (kk := ?_)
  refine J_ic C0 1 dL_law_532 (kk := ?_)
  refine J_iaddN C0 dL_law_533 (kk := ?_)
  refine J_sld C0 hX hL (j := i + 1) (by omega) dL_law_534 (kk := ?_)
  refine J_aln C0 3 dL_law_535 (kk := ?_)
  refine J_callW C0 hX hW [modR K a (flat F) g P L0 M] gL_law_L_pass dL_law_536 3 (hf := ⟨by show _ + 1 ≤ 601024; omega, by show _ + 6 ≤ 7293033; omega⟩) (kk := ?_)
  show J G _ _ _ _ _ [.int (nI k)]
  refine J_is C0 [(5, .int (nI k)), (0, .ref b), (1, .ref x), (2, .ref (a 0)), (3, .ref o), (4, .int (nI i))] dL_law_539 (kk := ?_)
  refine J_perm (bs2 := (outW K o lf1 :: cw1) ++ [modR K a (flat F) g P L0 M]) List.perm_append_comm ?_
  refine J_aln C0 3 dL_law_541 (kk := ?_)
  refine J_aln C0 1 dL_law_542 (kk := ?_)
  refine J_il C0 5 dL_law_543 (kk := ?_)
  refine J_ic C0 1 dL_law_545 (kk := ?_)
  refine J_iaddN C0 dL_law_546 (kk := ?_)
  refine J_sld C0 hX hL (j := i + 1) (by omega) dL_law_547 (kk := ?_)
  refine J_callV C0 (wr := outW K o lf1 :: cw1) (rest := []) hm rfl gL_law_X5_pass dL_law_548 1 0 (hf := ⟨by show _ + 1 + 0 ≤ 601024; omega, by show _ + 6 + 0 ≤ 7293033; omega⟩) (kk := fun rv w1 h1 => ?_)
  obtain ⟨F1, g1, P1, L1, M1, rfl, rfl, eM, hΦ⟩ := h1
  show J G _ _ _ _ _ [.int v]
  refine J_is C0 [(6, .int v), (5, .int (nI k)), (0, .ref b), (1, .ref x), (2, .ref (a 0)), (3, .ref o), (4, .int (nI i))] dL_law_551 (kk := ?_)
  refine J_aln C0 4 dL_law_553 (kk := ?_)
  refine J_callVd C0 (mX5_thrown l K a F1 g1 P1 L1 M1) (outW K o lf1 :: cw1) ((outW K o lf1 :: cw1) ++ [modR K a (flat F1) g1 P1 L1 M1]) gL_law_X5_thrown dL_law_554 0 0 (hf := ⟨by show _ + 1 + 0 + 0 ≤ 601024; omega, by show _ + 6 + 0 + 0 ≤ 7293033; omega⟩) (kk := ?_)
  show J G _ _ _ _ _ [.int (M1 0 2)]
  rw [eM]
  refine J_il C0 1 dL_law_557 (kk := ?_)
  refine J_icmpeqN C0 564 (by omega) (by omega) dL_law_559 (kt := fun _ => ?_) (kf := fun q => absurd rfl q)
  refine J_il C0 1 dL_law_564 (kk := ?_)
  refine J_ifneN C0 581 (by omega) dL_law_566 (kt := fun _ => ?_) (kf := fun k0 => ?_)
  ·
    refine J_goto C0 1424 dL_law_581 (kk := ?_)
    refine J_perm (bs2 := [modR K a (flat F1) g1 P1 L1 M1] ++ (outW K o lf1 :: cw1)) List.perm_append_comm ?_
    exact J_lv [2, 3, 4, 5, 6] (kk := kk F1 g1 P1 L1 M1 hΦ)
  · have hv := hv k0
    refine J_aln C0 5 dL_law_569 (kk := ?_)
    refine J_ic C0 0 dL_law_570 (kk := ?_)
    refine J_lald C0 0 0 1 dL_law_571 (by decide) (hv := hv) (kk := ?_)
    refine J_il C0 0 dL_law_572 (kk := ?_)
    refine J_i2l C0 dL_law_574 (kk := ?_)
    refine J_lcmp C0 dL_law_575 (kk := ?_)
    rw [lg_same]
    refine J_ifeq C0 581 dL_law_576 (kt := fun _ => ?_) (kf := fun q => absurd rfl q)
    refine J_goto C0 1424 dL_law_581 (kk := ?_)
    refine J_perm (bs2 := [modR K a (flat F1) g1 P1 L1 M1] ++ (outW K o lf1 :: cw1)) List.perm_append_comm ?_
    exact J_lv [2, 3, 4, 5, 6] (kk := kk F1 g1 P1 L1 M1 hΦ)

theorem law_set {K : KT} {l : Launch} {G : JC} (C0 : Cx G K l cL_law 9 RL wsL_law room_1) {tl tg b L : Nat} {xs : Nat → Int32} (hX : FnlS G tl tg b L xs) (hL : L ≤ 2048) {x o : Nat} {a : Nat → Nat} {i cells slots : Nat} (hi : i + 3 < L) (hc : cells ≤ 600000) (hs : slots ≤ 7000000) {F : FF} {g P L0 : Nat → Int32} {M : FF} {cw cw1 : List va_W} {fs : List Value} (hrec : (cw.flatten)[0]? = some (x, .inr (4, fs))) {lf lf1 : Nat → Int64} {k : Nat} (hk : k < 4) {v : Int32} {Φ : FF → (Nat → Int32) → (Nat → Int32) → (Nat → Int32) → FF → Prop}
    (hW : CtW l K yL_set wsL_set rmL [.ref x, .int (xs (i + 1)), .int (xs (i + 2)), .ref o] (outW K o lf :: cw) (some (.int (nI k))) (outW K o lf1 :: cw1) tl tg)
    (hm : CtP l K yX5_set wsX5_set rmX5_set [.ref (a 0), .int (xs (i + 1)), .int (xs (i + 2))] [modR K a (flat F) g P L0 M] (fun r w => ∃ F1 g1 P1 L1 M1, r = some (.int v) ∧ w = [modR K a (flat F1) g1 P1 L1 M1] ∧ M1 0 2 = nI k ∧ Φ F1 g1 P1 L1 M1))
    (hv : k = 0 → lf1 0 = v.toInt64)
    (kk : ∀ F1 g1 P1 L1 M1, Φ F1 g1 P1 L1 M1 → J G ([modR K a (flat F1) g1 P1 L1 M1] ++ (outW K o lf1 :: cw1)) [(0, .ref b), (1, .ref x), (2, .ref (a 0)), (3, .ref o), (4, .int (nI i))] (cells + 1) (slots + 6) 1424 []) :
    J G ([modR K a (flat F) g P L0 M] ++ (outW K o lf :: cw)) [(0, .ref b), (1, .ref x), (2, .ref (a 0)), (3, .ref o), (4, .int (nI i))] cells slots 584 [] := by
  refine J_aln C0 1 dL_law_584 (kk := ?_)
  refine J_aln C0 0 dL_law_585 (kk := ?_)
  refine J_il C0 4 dL_law_586 (kk := ?_)
  refine J_ic C0 1 dL_law_588 (kk := ?_)
  refine J_iaddN C0 dL_law_589 (kk := ?_)
  refine J_sld C0 hX hL (j := i + 1) (by omega) dL_law_590 (kk := ?_)
  refine J_aln C0 0 dL_law_591 (kk := ?_)
  refine J_il C0 4 dL_law_592 (kk := ?_)
  refine J_ic C0 2 dL_law_594 (kk := ?_)
  refine J_iaddN C0 dL_law_595 (kk := ?_)
  refine J_sld C0 hX hL (j := i + 2) (by omega) dL_law_596 (kk := ?_)
  refine J_aln C0 3 dL_law_597 (kk := ?_)
  refine J_callW C0 hX hW [modR K a (flat F) g P L0 M] gL_law_L_set dL_law_598 4 (hf := ⟨by show _ + 1 ≤ 601024; omega, by show _ + 6 ≤ 7293033; omega⟩) (kk := ?_)
  show J G _ _ _ _ _ [.int (nI k)]
  refine J_is C0 [(5, .int (nI k)), (0, .ref b), (1, .ref x), (2, .ref (a 0)), (3, .ref o), (4, .int (nI i))] dL_law_601 (kk := ?_)
  refine J_perm (bs2 := (outW K o lf1 :: cw1) ++ [modR K a (flat F) g P L0 M]) List.perm_append_comm ?_
  refine J_aln C0 3 dL_law_603 (kk := ?_)
  refine J_aln C0 1 dL_law_604 (kk := ?_)
  refine J_il C0 5 dL_law_605 (kk := ?_)
  refine J_ic C0 1 dL_law_607 (kk := ?_)
  refine J_iaddN C0 dL_law_608 (kk := ?_)
  refine J_sld C0 hX hL (j := i + 1) (by omega) dL_law_609 (kk := ?_)
  refine J_aln C0 1 dL_law_610 (kk := ?_)
  refine J_il C0 5 dL_law_611 (kk := ?_)
  refine J_ic C0 2 dL_law_613 (kk := ?_)
  refine J_iaddN C0 dL_law_614 (kk := ?_)
  refine J_sld C0 hX hL (j := i + 2) (by omega) dL_law_615 (kk := ?_)
  refine J_callV C0 (wr := outW K o lf1 :: cw1) (rest := []) hm rfl gL_law_X5_set dL_law_616 2 0 (hf := ⟨by show _ + 1 + 0 ≤ 601024; omega, by show _ + 6 + 0 ≤ 7293033; omega⟩) (kk := fun rv w1 h1 => ?_)
  obtain ⟨F1, g1, P1, L1, M1, rfl, rfl, eM, hΦ⟩ := h1
  show J G _ _ _ _ _ [.int v]
  refine J_is C0 [(6, .int v), (5, .int (nI k)), (0, .ref b), (1, .ref x), (2, .ref (a 0)), (3, .ref o), (4, .int (nI i))] dL_law_619 (kk := ?_)
  refine J_aln C0 4 dL_law_621 (kk := ?_)
  refine J_callVd C0 (mX5_thrown l K a F1 g1 P1 L1 M1) (outW K o lf1 :: cw1) ((outW K o lf1 :: cw1) ++ [modR K a (flat F1) g1 P1 L1 M1]) gL_law_X5_thrown dL_law_622 0 0 (hf := ⟨by show _ + 1 + 0 + 0 ≤ 601024; omega, by show _ + 6 + 0 + 0 ≤ 7293033; omega⟩) (kk := ?_)
  show J G _ _ _ _ _ [.int (M1 0 2)]
  rw [eM]
  refine J_il C0 1 dL_law_625 (kk := ?_)
  refine J_icmpeqN C0 632 (by omega) (by omega) dL_law_627 (kt := fun _ => ?_) (kf := fun q => absurd rfl q)
  refine J_il C0 1 dL_law_632 (kk := ?_)
  refine J_ifneN C0 649 (by omega) dL_law_634 (kt := fun _ => ?_) (kf := fun k0 => ?_)
  ·
    refine J_goto C0 1424 dL_law_649 (kk := ?_)
    refine J_perm (bs2 := [modR K a (flat F1) g1 P1 L1 M1] ++ (outW K o lf1 :: cw1)) List.perm_append_comm ?_
    exact J_lv [2, 3, 4, 5, 6] (kk := kk F1 g1 P1 L1 M1 hΦ)
  · have hv := hv k0
    refine J_aln C0 5 dL_law_637 (kk := ?_)
    refine J_ic C0 0 dL_law_638 (kk := ?_)
    refine J_lald C0 0 0 1 dL_law_639 (by decide) (hv := hv) (kk := ?_)
    refine J_il C0 0 dL_law_640 (kk := ?_)
    refine J_i2l C0 dL_law_642 (kk := ?_)
    refine J_lcmp C0 dL_law_643 (kk := ?_)
    rw [lg_same]
    refine J_ifeq C0 649 dL_law_644 (kt := fun _ => ?_) (kf := fun q => absurd rfl q)
    refine J_goto C0 1424 dL_law_649 (kk := ?_)
    refine J_perm (bs2 := [modR K a (flat F1) g1 P1 L1 M1] ++ (outW K o lf1 :: cw1)) List.perm_append_comm ?_
    exact J_lv [2, 3, 4, 5, 6] (kk := kk F1 g1 P1 L1 M1 hΦ)

theorem law_append {K : KT} {l : Launch} {G : JC} (C0 : Cx G K l cL_law 9 RL wsL_law room_1) {tl tg b L : Nat} {xs : Nat → Int32} (hX : FnlS G tl tg b L xs) (hL : L ≤ 2048) {x o : Nat} {a : Nat → Nat} {i cells slots : Nat} (hi : i + 3 < L) (hc : cells ≤ 600000) (hs : slots ≤ 7000000) {F : FF} {g P L0 : Nat → Int32} {M : FF} {cw cw1 : List va_W} {fs : List Value} (hrec : (cw.flatten)[0]? = some (x, .inr (4, fs))) {lf lf1 : Nat → Int64} {k : Nat} (hk : k < 4) {v : Int32} {Φ : FF → (Nat → Int32) → (Nat → Int32) → (Nat → Int32) → FF → Prop}
    (hW : CtW l K yL_append wsL_append rmL [.ref x, .int (xs (i + 1)), .ref o] (outW K o lf :: cw) (some (.int (nI k))) (outW K o lf1 :: cw1) tl tg)
    (hm : CtP l K yX5_append wsX5_append rmX5_append [.ref (a 0), .int (xs (i + 1))] [modR K a (flat F) g P L0 M] (fun r w => ∃ F1 g1 P1 L1 M1, r = some (.int v) ∧ w = [modR K a (flat F1) g1 P1 L1 M1] ∧ M1 0 2 = nI k ∧ Φ F1 g1 P1 L1 M1))
    (hv : k = 0 → lf1 0 = v.toInt64)
    (kk : ∀ F1 g1 P1 L1 M1, Φ F1 g1 P1 L1 M1 → J G ([modR K a (flat F1) g1 P1 L1 M1] ++ (outW K o lf1 :: cw1)) [(0, .ref b), (1, .ref x), (2, .ref (a 0)), (3, .ref o), (4, .int (nI i))] (cells + 1) (slots + 6) 1424 []) :
    J G ([modR K a (flat F) g P L0 M] ++ (outW K o lf :: cw)) [(0, .ref b), (1, .ref x), (2, .ref (a 0)), (3, .ref o), (4, .int (nI i))] cells slots 652 [] := by
  refine J_aln C0 1 dL_law_652 (kk := ?_)
  refine J_aln C0 0 dL_law_653 (kk := ?_)
  refine J_il C0 4 dL_law_654 (kk := ?_)
  refine J_ic C0 1 dL_law_656 (kk := ?_)
  refine J_iaddN C0 dL_law_657 (kk := ?_)
  refine J_sld C0 hX hL (j := i + 1) (by omega) dL_law_658 (kk := ?_)
  refine J_aln C0 3 dL_law_659 (kk := ?_)
  refine J_callW C0 hX hW [modR K a (flat F) g P L0 M] gL_law_L_append dL_law_660 3 (hf := ⟨by show _ + 1 ≤ 601024; omega, by show _ + 6 ≤ 7293033; omega⟩) (kk := ?_)
  show J G _ _ _ _ _ [.int (nI k)]
  refine J_is C0 [(5, .int (nI k)), (0, .ref b), (1, .ref x), (2, .ref (a 0)), (3, .ref o), (4, .int (nI i))] dL_law_663 (kk := ?_)
  refine J_perm (bs2 := (outW K o lf1 :: cw1) ++ [modR K a (flat F) g P L0 M]) List.perm_append_comm ?_
  refine J_aln C0 3 dL_law_665 (kk := ?_)
  refine J_aln C0 1 dL_law_666 (kk := ?_)
  refine J_il C0 5 dL_law_667 (kk := ?_)
  refine J_ic C0 1 dL_law_669 (kk := ?_)
  refine J_iaddN C0 dL_law_670 (kk := ?_)
  refine J_sld C0 hX hL (j := i + 1) (by omega) dL_law_671 (kk := ?_)
  refine J_callV C0 (wr := outW K o lf1 :: cw1) (rest := []) hm rfl gL_law_X5_append dL_law_672 1 0 (hf := ⟨by show _ + 1 + 0 ≤ 601024; omega, by show _ + 6 + 0 ≤ 7293033; omega⟩) (kk := fun rv w1 h1 => ?_)
  obtain ⟨F1, g1, P1, L1, M1, rfl, rfl, eM, hΦ⟩ := h1
  show J G _ _ _ _ _ [.int v]
  refine J_is C0 [(6, .int v), (5, .int (nI k)), (0, .ref b), (1, .ref x), (2, .ref (a 0)), (3, .ref o), (4, .int (nI i))] dL_law_675 (kk := ?_)
  refine J_aln C0 4 dL_law_677 (kk := ?_)
  refine J_callVd C0 (mX5_thrown l K a F1 g1 P1 L1 M1) (outW K o lf1 :: cw1) ((outW K o lf1 :: cw1) ++ [modR K a (flat F1) g1 P1 L1 M1]) gL_law_X5_thrown dL_law_678 0 0 (hf := ⟨by show _ + 1 + 0 + 0 ≤ 601024; omega, by show _ + 6 + 0 + 0 ≤ 7293033; omega⟩) (kk := ?_)
  show J G _ _ _ _ _ [.int (M1 0 2)]
  rw [eM]
  refine J_il C0 1 dL_law_681 (kk := ?_)
  refine J_icmpeqN C0 688 (by omega) (by omega) dL_law_683 (kt := fun _ => ?_) (kf := fun q => absurd rfl q)
  refine J_il C0 1 dL_law_688 (kk := ?_)
  refine J_ifneN C0 705 (by omega) dL_law_690 (kt := fun _ => ?_) (kf := fun k0 => ?_)
  ·
    refine J_goto C0 1424 dL_law_705 (kk := ?_)
    refine J_perm (bs2 := [modR K a (flat F1) g1 P1 L1 M1] ++ (outW K o lf1 :: cw1)) List.perm_append_comm ?_
    exact J_lv [2, 3, 4, 5, 6] (kk := kk F1 g1 P1 L1 M1 hΦ)
  · have hv := hv k0
    refine J_aln C0 5 dL_law_693 (kk := ?_)
    refine J_ic C0 0 dL_law_694 (kk := ?_)
    refine J_lald C0 0 0 1 dL_law_695 (by decide) (hv := hv) (kk := ?_)
    refine J_il C0 0 dL_law_696 (kk := ?_)
    refine J_i2l C0 dL_law_698 (kk := ?_)
    refine J_lcmp C0 dL_law_699 (kk := ?_)
    rw [lg_same]
    refine J_ifeq C0 705 dL_law_700 (kt := fun _ => ?_) (kf := fun q => absurd rfl q)
    refine J_goto C0 1424 dL_law_705 (kk := ?_)
    refine J_perm (bs2 := [modR K a (flat F1) g1 P1 L1 M1] ++ (outW K o lf1 :: cw1)) List.perm_append_comm ?_
    exact J_lv [2, 3, 4, 5, 6] (kk := kk F1 g1 P1 L1 M1 hΦ)

theorem law_clearBuffer {K : KT} {l : Launch} {G : JC} (C0 : Cx G K l cL_law 9 RL wsL_law room_1) {tl tg b L : Nat} {xs : Nat → Int32} (hX : FnlS G tl tg b L xs) (hL : L ≤ 2048) {x o : Nat} {a : Nat → Nat} {i cells slots : Nat} (hi : i + 3 < L) (hc : cells ≤ 600000) (hs : slots ≤ 7000000) {F : FF} {g P L0 : Nat → Int32} {M : FF} {cw cw1 : List va_W} {fs : List Value} (hrec : (cw.flatten)[0]? = some (x, .inr (4, fs))) {lf : Nat → Int64} {v : Int32} {Φ : FF → (Nat → Int32) → (Nat → Int32) → (Nat → Int32) → FF → Prop}
    (hW : Ct l K yX4_clearBuffer wsX4_clearBuffer rmX4_clearBuffer [.ref x] cw (some (.int v)) cw1)
    (hm : CtP l K yX5_clearBuffer wsX5_clearBuffer rmX5_clearBuffer [.ref (a 0)] [modR K a (flat F) g P L0 M] (fun r w => ∃ F1 g1 P1 L1 M1, r = some (.int v) ∧ w = [modR K a (flat F1) g1 P1 L1 M1] ∧ Φ F1 g1 P1 L1 M1))
    (kk : ∀ F1 g1 P1 L1 M1, Φ F1 g1 P1 L1 M1 → J G ([modR K a (flat F1) g1 P1 L1 M1] ++ (outW K o lf :: cw1)) [(0, .ref b), (1, .ref x), (2, .ref (a 0)), (3, .ref o), (4, .int (nI i))] cells slots 1424 []) :
    J G ([modR K a (flat F) g P L0 M] ++ (outW K o lf :: cw)) [(0, .ref b), (1, .ref x), (2, .ref (a 0)), (3, .ref o), (4, .int (nI i))] cells slots 708 [] := by
  refine J_aln C0 1 dL_law_708 (kk := ?_)
  refine J_callVd C0 hW [modR K a (flat F) g P L0 M, outW K o lf] ([modR K a (flat F) g P L0 M] ++ (outW K o lf :: cw1)) gL_law_X4_clearBuffer dL_law_709 0 0 hrec (hf := ⟨by show _ + 0 ≤ 601024; omega, by show _ + 0 ≤ 7293033; omega⟩) (kk := ?_)
  show J G _ _ _ _ _ [.int v]
  refine J_aln C0 2 dL_law_712 (kk := ?_)
  refine J_perm (bs2 := (outW K o lf :: cw1) ++ [modR K a (flat F) g P L0 M]) List.perm_append_comm ?_
  refine J_callV C0 (wr := outW K o lf :: cw1) (rest := [.int v]) hm rfl gL_law_X5_clearBuffer dL_law_713 0 0 (hf := ⟨by show _ + 0 + 0 ≤ 601024; omega, by show _ + 0 + 0 ≤ 7293033; omega⟩) (kk := fun rv w1 h1 => ?_)
  obtain ⟨F1, g1, P1, L1, M1, rfl, rfl, hΦ⟩ := h1
  show J G _ _ _ _ _ [.int v, .int v]
  refine J_icmpeq C0 1424 dL_law_716 (kt := fun _ => ?_) (kf := fun q => absurd rfl q)
  refine J_perm (bs2 := [modR K a (flat F1) g1 P1 L1 M1] ++ (outW K o lf :: cw1)) List.perm_append_comm ?_
  exact kk F1 g1 P1 L1 M1 hΦ

theorem law_firstError {K : KT} {l : Launch} {G : JC} (C0 : Cx G K l cL_law 9 RL wsL_law room_1) {tl tg b L : Nat} {xs : Nat → Int32} (hX : FnlS G tl tg b L xs) (hL : L ≤ 2048) {x o : Nat} {a : Nat → Nat} {i cells slots : Nat} (hi : i + 3 < L) (hc : cells ≤ 600000) (hs : slots ≤ 7000000) {F : FF} {g P L0 : Nat → Int32} {M : FF} {cw cw1 : List va_W} {fs : List Value} (hrec : (cw.flatten)[0]? = some (x, .inr (4, fs))) {lf : Nat → Int64} {v : Int32} {Φ : FF → (Nat → Int32) → (Nat → Int32) → (Nat → Int32) → FF → Prop}
    (hW : Ct l K yX4_firstError wsX4_firstError rmX4_firstError [.ref x] cw (some (.int v)) cw1)
    (hm : CtP l K yX5_firstError wsX5_firstError rmX5_firstError [.ref (a 0)] [modR K a (flat F) g P L0 M] (fun r w => ∃ F1 g1 P1 L1 M1, r = some (.int v) ∧ w = [modR K a (flat F1) g1 P1 L1 M1] ∧ Φ F1 g1 P1 L1 M1))
    (kk : ∀ F1 g1 P1 L1 M1, Φ F1 g1 P1 L1 M1 → J G ([modR K a (flat F1) g1 P1 L1 M1] ++ (outW K o lf :: cw1)) [(0, .ref b), (1, .ref x), (2, .ref (a 0)), (3, .ref o), (4, .int (nI i))] cells slots 1424 []) :
    J G ([modR K a (flat F) g P L0 M] ++ (outW K o lf :: cw)) [(0, .ref b), (1, .ref x), (2, .ref (a 0)), (3, .ref o), (4, .int (nI i))] cells slots 721 [] := by
  refine J_aln C0 1 dL_law_721 (kk := ?_)
  refine J_callVd C0 hW [modR K a (flat F) g P L0 M, outW K o lf] ([modR K a (flat F) g P L0 M] ++ (outW K o lf :: cw1)) gL_law_X4_firstError dL_law_722 0 0 hrec (hf := ⟨by show _ + 0 ≤ 601024; omega, by show _ + 0 ≤ 7293033; omega⟩) (kk := ?_)
  show J G _ _ _ _ _ [.int v]
  refine J_aln C0 2 dL_law_725 (kk := ?_)
  refine J_perm (bs2 := (outW K o lf :: cw1) ++ [modR K a (flat F) g P L0 M]) List.perm_append_comm ?_
  refine J_callV C0 (wr := outW K o lf :: cw1) (rest := [.int v]) hm rfl gL_law_X5_firstError dL_law_726 0 0 (hf := ⟨by show _ + 0 + 0 ≤ 601024; omega, by show _ + 0 + 0 ≤ 7293033; omega⟩) (kk := fun rv w1 h1 => ?_)
  obtain ⟨F1, g1, P1, L1, M1, rfl, rfl, hΦ⟩ := h1
  show J G _ _ _ _ _ [.int v, .int v]
  refine J_icmpeq C0 1424 dL_law_729 (kt := fun _ => ?_) (kf := fun q => absurd rfl q)
  refine J_perm (bs2 := [modR K a (flat F1) g1 P1 L1 M1] ++ (outW K o lf :: cw1)) List.perm_append_comm ?_
  exact kk F1 g1 P1 L1 M1 hΦ

theorem law_run {K : KT} {l : Launch} {G : JC} (C0 : Cx G K l cL_law 9 RL wsL_law room_1) {tl tg b L : Nat} {xs : Nat → Int32} (hX : FnlS G tl tg b L xs) (hL : L ≤ 2048) {x o : Nat} {a : Nat → Nat} {i cells slots : Nat} (hi : i + 3 < L) (hc : cells ≤ 600000) (hs : slots ≤ 7000000) {F : FF} {g P L0 : Nat → Int32} {M : FF} {cw cw1 : List va_W} {fs : List Value} (hrec : (cw.flatten)[0]? = some (x, .inr (4, fs))) {lf lf1 : Nat → Int64} {k : Nat} (hk : k < 4) {v : Int32} {Φ : FF → (Nat → Int32) → (Nat → Int32) → (Nat → Int32) → FF → Prop}
    (hW : CtW l K yL_run wsL_run rmL [.ref x, .ref o] (outW K o lf :: cw) (some (.int (nI k))) (outW K o lf1 :: cw1) tl tg)
    (hm : CtP l K yX5_run wsX5_run rmX5_run [.ref (a 0)] [modR K a (flat F) g P L0 M] (fun r w => ∃ F1 g1 P1 L1 M1, r = some (.int v) ∧ w = [modR K a (flat F1) g1 P1 L1 M1] ∧ M1 0 2 = nI k ∧ Φ F1 g1 P1 L1 M1))
    (hv : k = 0 → lf1 0 = v.toInt64)
    (kk : ∀ F1 g1 P1 L1 M1, Φ F1 g1 P1 L1 M1 → J G ([modR K a (flat F1) g1 P1 L1 M1] ++ (outW K o lf1 :: cw1)) [(0, .ref b), (1, .ref x), (2, .ref (a 0)), (3, .ref o), (4, .int (nI i))] (cells + 1) (slots + 6) 1424 []) :
    J G ([modR K a (flat F) g P L0 M] ++ (outW K o lf :: cw)) [(0, .ref b), (1, .ref x), (2, .ref (a 0)), (3, .ref o), (4, .int (nI i))] cells slots 734 [] := by
  refine J_aln C0 1 dL_law_734 (kk := ?_)
  refine J_aln C0 3 dL_law_735 (kk := ?_)
  refine J_callW C0 hX hW [modR K a (flat F) g P L0 M] gL_law_L_run dL_law_736 2 (hf := ⟨by show _ + 1 ≤ 601024; omega, by show _ + 6 ≤ 7293033; omega⟩) (kk := ?_)
  show J G _ _ _ _ _ [.int (nI k)]
  refine J_is C0 [(5, .int (nI k)), (0, .ref b), (1, .ref x), (2, .ref (a 0)), (3, .ref o), (4, .int (nI i))] dL_law_739 (kk := ?_)
  refine J_perm (bs2 := (outW K o lf1 :: cw1) ++ [modR K a (flat F) g P L0 M]) List.perm_append_comm ?_
  refine J_aln C0 3 dL_law_741 (kk := ?_)
  refine J_callV C0 (wr := outW K o lf1 :: cw1) (rest := []) hm rfl gL_law_X5_run dL_law_742 0 0 (hf := ⟨by show _ + 1 + 0 ≤ 601024; omega, by show _ + 6 + 0 ≤ 7293033; omega⟩) (kk := fun rv w1 h1 => ?_)
  obtain ⟨F1, g1, P1, L1, M1, rfl, rfl, eM, hΦ⟩ := h1
  show J G _ _ _ _ _ [.int v]
  refine J_is C0 [(6, .int v), (5, .int (nI k)), (0, .ref b), (1, .ref x), (2, .ref (a 0)), (3, .ref o), (4, .int (nI i))] dL_law_745 (kk := ?_)
  refine J_aln C0 4 dL_law_747 (kk := ?_)
  refine J_callVd C0 (mX5_thrown l K a F1 g1 P1 L1 M1) (outW K o lf1 :: cw1) ((outW K o lf1 :: cw1) ++ [modR K a (flat F1) g1 P1 L1 M1]) gL_law_X5_thrown dL_law_748 0 0 (hf := ⟨by show _ + 1 + 0 + 0 ≤ 601024; omega, by show _ + 6 + 0 + 0 ≤ 7293033; omega⟩) (kk := ?_)
  show J G _ _ _ _ _ [.int (M1 0 2)]
  rw [eM]
  refine J_il C0 1 dL_law_751 (kk := ?_)
  refine J_icmpeqN C0 758 (by omega) (by omega) dL_law_753 (kt := fun _ => ?_) (kf := fun q => absurd rfl q)
  refine J_il C0 1 dL_law_758 (kk := ?_)
  refine J_ifneN C0 775 (by omega) dL_law_760 (kt := fun _ => ?_) (kf := fun k0 => ?_)
  ·
    refine J_goto C0 1424 dL_law_775 (kk := ?_)
    refine J_perm (bs2 := [modR K a (flat F1) g1 P1 L1 M1] ++ (outW K o lf1 :: cw1)) List.perm_append_comm ?_
    exact J_lv [2, 3, 4, 5, 6] (kk := kk F1 g1 P1 L1 M1 hΦ)
  · have hv := hv k0
    refine J_aln C0 5 dL_law_763 (kk := ?_)
    refine J_ic C0 0 dL_law_764 (kk := ?_)
    refine J_lald C0 0 0 1 dL_law_765 (by decide) (hv := hv) (kk := ?_)
    refine J_il C0 0 dL_law_766 (kk := ?_)
    refine J_i2l C0 dL_law_768 (kk := ?_)
    refine J_lcmp C0 dL_law_769 (kk := ?_)
    rw [lg_same]
    refine J_ifeq C0 775 dL_law_770 (kt := fun _ => ?_) (kf := fun q => absurd rfl q)
    refine J_goto C0 1424 dL_law_775 (kk := ?_)
    refine J_perm (bs2 := [modR K a (flat F1) g1 P1 L1 M1] ++ (outW K o lf1 :: cw1)) List.perm_append_comm ?_
    exact J_lv [2, 3, 4, 5, 6] (kk := kk F1 g1 P1 L1 M1 hΦ)

theorem law_keep {K : KT} {l : Launch} {G : JC} (C0 : Cx G K l cL_law 9 RL wsL_law room_1) {tl tg b L : Nat} {xs : Nat → Int32} (hX : FnlS G tl tg b L xs) (hL : L ≤ 2048) {x o : Nat} {a : Nat → Nat} {i cells slots : Nat} (hi : i + 3 < L) (hc : cells ≤ 600000) (hs : slots ≤ 7000000) {F : FF} {g P L0 : Nat → Int32} {M : FF} {cw cw1 : List va_W} {fs : List Value} (hrec : (cw.flatten)[0]? = some (x, .inr (4, fs))) {lf lf1 : Nat → Int64} {k : Nat} (hk : k < 4) {v : Int32} {Φ : FF → (Nat → Int32) → (Nat → Int32) → (Nat → Int32) → FF → Prop}
    (hW : CtW l K yL_keep wsL_keep rmL [.ref x, .int (xs (i + 1)), .ref o] (outW K o lf :: cw) (some (.int (nI k))) (outW K o lf1 :: cw1) tl tg)
    (hm : CtP l K yX5_keep wsX5_keep rmX5_keep [.ref (a 0), .int (xs (i + 1))] [modR K a (flat F) g P L0 M] (fun r w => ∃ F1 g1 P1 L1 M1, r = some (.int v) ∧ w = [modR K a (flat F1) g1 P1 L1 M1] ∧ M1 0 2 = nI k ∧ Φ F1 g1 P1 L1 M1))
    (hv : k = 0 → lf1 0 = v.toInt64)
    (kk : ∀ F1 g1 P1 L1 M1, Φ F1 g1 P1 L1 M1 → J G ([modR K a (flat F1) g1 P1 L1 M1] ++ (outW K o lf1 :: cw1)) [(0, .ref b), (1, .ref x), (2, .ref (a 0)), (3, .ref o), (4, .int (nI i))] (cells + 1) (slots + 6) 1424 []) :
    J G ([modR K a (flat F) g P L0 M] ++ (outW K o lf :: cw)) [(0, .ref b), (1, .ref x), (2, .ref (a 0)), (3, .ref o), (4, .int (nI i))] cells slots 778 [] := by
  refine J_aln C0 1 dL_law_778 (kk := ?_)
  refine J_aln C0 0 dL_law_779 (kk := ?_)
  refine J_il C0 4 dL_law_780 (kk := ?_)
  refine J_ic C0 1 dL_law_782 (kk := ?_)
  refine J_iaddN C0 dL_law_783 (kk := ?_)
  refine J_sld C0 hX hL (j := i + 1) (by omega) dL_law_784 (kk := ?_)
  refine J_aln C0 3 dL_law_785 (kk := ?_)
  refine J_callW C0 hX hW [modR K a (flat F) g P L0 M] gL_law_L_keep dL_law_786 3 (hf := ⟨by show _ + 1 ≤ 601024; omega, by show _ + 6 ≤ 7293033; omega⟩) (kk := ?_)
  show J G _ _ _ _ _ [.int (nI k)]
  refine J_is C0 [(5, .int (nI k)), (0, .ref b), (1, .ref x), (2, .ref (a 0)), (3, .ref o), (4, .int (nI i))] dL_law_789 (kk := ?_)
  refine J_perm (bs2 := (outW K o lf1 :: cw1) ++ [modR K a (flat F) g P L0 M]) List.perm_append_comm ?_
  refine J_aln C0 3 dL_law_791 (kk := ?_)
  refine J_aln C0 1 dL_law_792 (kk := ?_)
  refine J_il C0 5 dL_law_793 (kk := ?_)
  refine J_ic C0 1 dL_law_795 (kk := ?_)
  refine J_iaddN C0 dL_law_796 (kk := ?_)
  refine J_sld C0 hX hL (j := i + 1) (by omega) dL_law_797 (kk := ?_)
  refine J_callV C0 (wr := outW K o lf1 :: cw1) (rest := []) hm rfl gL_law_X5_keep dL_law_798 1 0 (hf := ⟨by show _ + 1 + 0 ≤ 601024; omega, by show _ + 6 + 0 ≤ 7293033; omega⟩) (kk := fun rv w1 h1 => ?_)
  obtain ⟨F1, g1, P1, L1, M1, rfl, rfl, eM, hΦ⟩ := h1
  show J G _ _ _ _ _ [.int v]
  refine J_is C0 [(6, .int v), (5, .int (nI k)), (0, .ref b), (1, .ref x), (2, .ref (a 0)), (3, .ref o), (4, .int (nI i))] dL_law_801 (kk := ?_)
  refine J_aln C0 4 dL_law_803 (kk := ?_)
  refine J_callVd C0 (mX5_thrown l K a F1 g1 P1 L1 M1) (outW K o lf1 :: cw1) ((outW K o lf1 :: cw1) ++ [modR K a (flat F1) g1 P1 L1 M1]) gL_law_X5_thrown dL_law_804 0 0 (hf := ⟨by show _ + 1 + 0 + 0 ≤ 601024; omega, by show _ + 6 + 0 + 0 ≤ 7293033; omega⟩) (kk := ?_)
  show J G _ _ _ _ _ [.int (M1 0 2)]
  rw [eM]
  refine J_il C0 1 dL_law_807 (kk := ?_)
  refine J_icmpeqN C0 814 (by omega) (by omega) dL_law_809 (kt := fun _ => ?_) (kf := fun q => absurd rfl q)
  refine J_il C0 1 dL_law_814 (kk := ?_)
  refine J_ifneN C0 831 (by omega) dL_law_816 (kt := fun _ => ?_) (kf := fun k0 => ?_)
  ·
    refine J_goto C0 1424 dL_law_831 (kk := ?_)
    refine J_perm (bs2 := [modR K a (flat F1) g1 P1 L1 M1] ++ (outW K o lf1 :: cw1)) List.perm_append_comm ?_
    exact J_lv [2, 3, 4, 5, 6] (kk := kk F1 g1 P1 L1 M1 hΦ)
  · have hv := hv k0
    refine J_aln C0 5 dL_law_819 (kk := ?_)
    refine J_ic C0 0 dL_law_820 (kk := ?_)
    refine J_lald C0 0 0 1 dL_law_821 (by decide) (hv := hv) (kk := ?_)
    refine J_il C0 0 dL_law_822 (kk := ?_)
    refine J_i2l C0 dL_law_824 (kk := ?_)
    refine J_lcmp C0 dL_law_825 (kk := ?_)
    rw [lg_same]
    refine J_ifeq C0 831 dL_law_826 (kt := fun _ => ?_) (kf := fun q => absurd rfl q)
    refine J_goto C0 1424 dL_law_831 (kk := ?_)
    refine J_perm (bs2 := [modR K a (flat F1) g1 P1 L1 M1] ++ (outW K o lf1 :: cw1)) List.perm_append_comm ?_
    exact J_lv [2, 3, 4, 5, 6] (kk := kk F1 g1 P1 L1 M1 hΦ)

theorem law_goBack {K : KT} {l : Launch} {G : JC} (C0 : Cx G K l cL_law 9 RL wsL_law room_1) {tl tg b L : Nat} {xs : Nat → Int32} (hX : FnlS G tl tg b L xs) (hL : L ≤ 2048) {x o : Nat} {a : Nat → Nat} {i cells slots : Nat} (hi : i + 3 < L) (hc : cells ≤ 600000) (hs : slots ≤ 7000000) {F : FF} {g P L0 : Nat → Int32} {M : FF} {cw cw1 : List va_W} {fs : List Value} (hrec : (cw.flatten)[0]? = some (x, .inr (4, fs))) {lf lf1 : Nat → Int64} {k : Nat} (hk : k < 4) {v : Int32} {Φ : FF → (Nat → Int32) → (Nat → Int32) → (Nat → Int32) → FF → Prop}
    (hW : CtW l K yL_goBack wsL_goBack rmL [.ref x, .int (xs (i + 1)), .ref o] (outW K o lf :: cw) (some (.int (nI k))) (outW K o lf1 :: cw1) tl tg)
    (hm : CtP l K yX5_goBack wsX5_goBack rmX5_goBack [.ref (a 0), .int (xs (i + 1))] [modR K a (flat F) g P L0 M] (fun r w => ∃ F1 g1 P1 L1 M1, r = some (.int v) ∧ w = [modR K a (flat F1) g1 P1 L1 M1] ∧ M1 0 2 = nI k ∧ Φ F1 g1 P1 L1 M1))
    (hv : k = 0 → lf1 0 = v.toInt64)
    (kk : ∀ F1 g1 P1 L1 M1, Φ F1 g1 P1 L1 M1 → J G ([modR K a (flat F1) g1 P1 L1 M1] ++ (outW K o lf1 :: cw1)) [(0, .ref b), (1, .ref x), (2, .ref (a 0)), (3, .ref o), (4, .int (nI i))] (cells + 1) (slots + 6) 1424 []) :
    J G ([modR K a (flat F) g P L0 M] ++ (outW K o lf :: cw)) [(0, .ref b), (1, .ref x), (2, .ref (a 0)), (3, .ref o), (4, .int (nI i))] cells slots 834 [] := by
  refine J_aln C0 1 dL_law_834 (kk := ?_)
  refine J_aln C0 0 dL_law_835 (kk := ?_)
  refine J_il C0 4 dL_law_836 (kk := ?_)
  refine J_ic C0 1 dL_law_838 (kk := ?_)
  refine J_iaddN C0 dL_law_839 (kk := ?_)
  refine J_sld C0 hX hL (j := i + 1) (by omega) dL_law_840 (kk := ?_)
  refine J_aln C0 3 dL_law_841 (kk := ?_)
  refine J_callW C0 hX hW [modR K a (flat F) g P L0 M] gL_law_L_goBack dL_law_842 3 (hf := ⟨by show _ + 1 ≤ 601024; omega, by show _ + 6 ≤ 7293033; omega⟩) (kk := ?_)
  show J G _ _ _ _ _ [.int (nI k)]
  refine J_is C0 [(5, .int (nI k)), (0, .ref b), (1, .ref x), (2, .ref (a 0)), (3, .ref o), (4, .int (nI i))] dL_law_845 (kk := ?_)
  refine J_perm (bs2 := (outW K o lf1 :: cw1) ++ [modR K a (flat F) g P L0 M]) List.perm_append_comm ?_
  refine J_aln C0 3 dL_law_847 (kk := ?_)
  refine J_aln C0 1 dL_law_848 (kk := ?_)
  refine J_il C0 5 dL_law_849 (kk := ?_)
  refine J_ic C0 1 dL_law_851 (kk := ?_)
  refine J_iaddN C0 dL_law_852 (kk := ?_)
  refine J_sld C0 hX hL (j := i + 1) (by omega) dL_law_853 (kk := ?_)
  refine J_callV C0 (wr := outW K o lf1 :: cw1) (rest := []) hm rfl gL_law_X5_goBack dL_law_854 1 0 (hf := ⟨by show _ + 1 + 0 ≤ 601024; omega, by show _ + 6 + 0 ≤ 7293033; omega⟩) (kk := fun rv w1 h1 => ?_)
  obtain ⟨F1, g1, P1, L1, M1, rfl, rfl, eM, hΦ⟩ := h1
  show J G _ _ _ _ _ [.int v]
  refine J_is C0 [(6, .int v), (5, .int (nI k)), (0, .ref b), (1, .ref x), (2, .ref (a 0)), (3, .ref o), (4, .int (nI i))] dL_law_857 (kk := ?_)
  refine J_aln C0 4 dL_law_859 (kk := ?_)
  refine J_callVd C0 (mX5_thrown l K a F1 g1 P1 L1 M1) (outW K o lf1 :: cw1) ((outW K o lf1 :: cw1) ++ [modR K a (flat F1) g1 P1 L1 M1]) gL_law_X5_thrown dL_law_860 0 0 (hf := ⟨by show _ + 1 + 0 + 0 ≤ 601024; omega, by show _ + 6 + 0 + 0 ≤ 7293033; omega⟩) (kk := ?_)
  show J G _ _ _ _ _ [.int (M1 0 2)]
  rw [eM]
  refine J_il C0 1 dL_law_863 (kk := ?_)
  refine J_icmpeqN C0 870 (by omega) (by omega) dL_law_865 (kt := fun _ => ?_) (kf := fun q => absurd rfl q)
  refine J_il C0 1 dL_law_870 (kk := ?_)
  refine J_ifneN C0 887 (by omega) dL_law_872 (kt := fun _ => ?_) (kf := fun k0 => ?_)
  ·
    refine J_goto C0 1424 dL_law_887 (kk := ?_)
    refine J_perm (bs2 := [modR K a (flat F1) g1 P1 L1 M1] ++ (outW K o lf1 :: cw1)) List.perm_append_comm ?_
    exact J_lv [2, 3, 4, 5, 6] (kk := kk F1 g1 P1 L1 M1 hΦ)
  · have hv := hv k0
    refine J_aln C0 5 dL_law_875 (kk := ?_)
    refine J_ic C0 0 dL_law_876 (kk := ?_)
    refine J_lald C0 0 0 1 dL_law_877 (by decide) (hv := hv) (kk := ?_)
    refine J_il C0 0 dL_law_878 (kk := ?_)
    refine J_i2l C0 dL_law_880 (kk := ?_)
    refine J_lcmp C0 dL_law_881 (kk := ?_)
    rw [lg_same]
    refine J_ifeq C0 887 dL_law_882 (kt := fun _ => ?_) (kf := fun q => absurd rfl q)
    refine J_goto C0 1424 dL_law_887 (kk := ?_)
    refine J_perm (bs2 := [modR K a (flat F1) g1 P1 L1 M1] ++ (outW K o lf1 :: cw1)) List.perm_append_comm ?_
    exact J_lv [2, 3, 4, 5, 6] (kk := kk F1 g1 P1 L1 M1 hΦ)

theorem law_undo {K : KT} {l : Launch} {G : JC} (C0 : Cx G K l cL_law 9 RL wsL_law room_1) {tl tg b L : Nat} {xs : Nat → Int32} (hX : FnlS G tl tg b L xs) (hL : L ≤ 2048) {x o : Nat} {a : Nat → Nat} {i cells slots : Nat} (hi : i + 3 < L) (hc : cells ≤ 600000) (hs : slots ≤ 7000000) {F : FF} {g P L0 : Nat → Int32} {M : FF} {cw cw1 : List va_W} {fs : List Value} (hrec : (cw.flatten)[0]? = some (x, .inr (4, fs))) {lf lf1 : Nat → Int64} {k : Nat} (hk : k < 4) {v : Int32} {Φ : FF → (Nat → Int32) → (Nat → Int32) → (Nat → Int32) → FF → Prop}
    (hW : CtW l K yL_undo wsL_undo rmL [.ref x, .ref o] (outW K o lf :: cw) (some (.int (nI k))) (outW K o lf1 :: cw1) tl tg)
    (hm : CtP l K yX5_undo wsX5_undo rmX5_undo [.ref (a 0)] [modR K a (flat F) g P L0 M] (fun r w => ∃ F1 g1 P1 L1 M1, r = some (.int v) ∧ w = [modR K a (flat F1) g1 P1 L1 M1] ∧ M1 0 2 = nI k ∧ Φ F1 g1 P1 L1 M1))
    (hv : k = 0 → lf1 0 = v.toInt64)
    (kk : ∀ F1 g1 P1 L1 M1, Φ F1 g1 P1 L1 M1 → J G ([modR K a (flat F1) g1 P1 L1 M1] ++ (outW K o lf1 :: cw1)) [(0, .ref b), (1, .ref x), (2, .ref (a 0)), (3, .ref o), (4, .int (nI i))] (cells + 1) (slots + 6) 1424 []) :
    J G ([modR K a (flat F) g P L0 M] ++ (outW K o lf :: cw)) [(0, .ref b), (1, .ref x), (2, .ref (a 0)), (3, .ref o), (4, .int (nI i))] cells slots 890 [] := by
  refine J_aln C0 1 dL_law_890 (kk := ?_)
  refine J_aln C0 3 dL_law_891 (kk := ?_)
  refine J_callW C0 hX hW [modR K a (flat F) g P L0 M] gL_law_L_undo dL_law_892 2 (hf := ⟨by show _ + 1 ≤ 601024; omega, by show _ + 6 ≤ 7293033; omega⟩) (kk := ?_)
  show J G _ _ _ _ _ [.int (nI k)]
  refine J_is C0 [(5, .int (nI k)), (0, .ref b), (1, .ref x), (2, .ref (a 0)), (3, .ref o), (4, .int (nI i))] dL_law_895 (kk := ?_)
  refine J_perm (bs2 := (outW K o lf1 :: cw1) ++ [modR K a (flat F) g P L0 M]) List.perm_append_comm ?_
  refine J_aln C0 3 dL_law_897 (kk := ?_)
  refine J_callV C0 (wr := outW K o lf1 :: cw1) (rest := []) hm rfl gL_law_X5_undo dL_law_898 0 0 (hf := ⟨by show _ + 1 + 0 ≤ 601024; omega, by show _ + 6 + 0 ≤ 7293033; omega⟩) (kk := fun rv w1 h1 => ?_)
  obtain ⟨F1, g1, P1, L1, M1, rfl, rfl, eM, hΦ⟩ := h1
  show J G _ _ _ _ _ [.int v]
  refine J_is C0 [(6, .int v), (5, .int (nI k)), (0, .ref b), (1, .ref x), (2, .ref (a 0)), (3, .ref o), (4, .int (nI i))] dL_law_901 (kk := ?_)
  refine J_aln C0 4 dL_law_903 (kk := ?_)
  refine J_callVd C0 (mX5_thrown l K a F1 g1 P1 L1 M1) (outW K o lf1 :: cw1) ((outW K o lf1 :: cw1) ++ [modR K a (flat F1) g1 P1 L1 M1]) gL_law_X5_thrown dL_law_904 0 0 (hf := ⟨by show _ + 1 + 0 + 0 ≤ 601024; omega, by show _ + 6 + 0 + 0 ≤ 7293033; omega⟩) (kk := ?_)
  show J G _ _ _ _ _ [.int (M1 0 2)]
  rw [eM]
  refine J_il C0 1 dL_law_907 (kk := ?_)
  refine J_icmpeqN C0 914 (by omega) (by omega) dL_law_909 (kt := fun _ => ?_) (kf := fun q => absurd rfl q)
  refine J_il C0 1 dL_law_914 (kk := ?_)
  refine J_ifneN C0 931 (by omega) dL_law_916 (kt := fun _ => ?_) (kf := fun k0 => ?_)
  ·
    refine J_goto C0 1424 dL_law_931 (kk := ?_)
    refine J_perm (bs2 := [modR K a (flat F1) g1 P1 L1 M1] ++ (outW K o lf1 :: cw1)) List.perm_append_comm ?_
    exact J_lv [2, 3, 4, 5, 6] (kk := kk F1 g1 P1 L1 M1 hΦ)
  · have hv := hv k0
    refine J_aln C0 5 dL_law_919 (kk := ?_)
    refine J_ic C0 0 dL_law_920 (kk := ?_)
    refine J_lald C0 0 0 1 dL_law_921 (by decide) (hv := hv) (kk := ?_)
    refine J_il C0 0 dL_law_922 (kk := ?_)
    refine J_i2l C0 dL_law_924 (kk := ?_)
    refine J_lcmp C0 dL_law_925 (kk := ?_)
    rw [lg_same]
    refine J_ifeq C0 931 dL_law_926 (kt := fun _ => ?_) (kf := fun q => absurd rfl q)
    refine J_goto C0 1424 dL_law_931 (kk := ?_)
    refine J_perm (bs2 := [modR K a (flat F1) g1 P1 L1 M1] ++ (outW K o lf1 :: cw1)) List.perm_append_comm ?_
    exact J_lv [2, 3, 4, 5, 6] (kk := kk F1 g1 P1 L1 M1 hΦ)

theorem law_kind {K : KT} {l : Launch} {G : JC} (C0 : Cx G K l cL_law 9 RL wsL_law room_1) {tl tg b L : Nat} {xs : Nat → Int32} (hX : FnlS G tl tg b L xs) (hL : L ≤ 2048) {x o : Nat} {a : Nat → Nat} {i cells slots : Nat} (hi : i + 3 < L) (hc : cells ≤ 600000) (hs : slots ≤ 7000000) {F : FF} {g P L0 : Nat → Int32} {M : FF} {cw cw1 : List va_W} {fs : List Value} (hrec : (cw.flatten)[0]? = some (x, .inr (4, fs))) {lf lf1 : Nat → Int64} {k : Nat} (hk : k < 4) {v : Int32} {Φ : FF → (Nat → Int32) → (Nat → Int32) → (Nat → Int32) → FF → Prop}
    (hW : CtW l K yL_kind wsL_kind rmL [.ref x, .int (xs (i + 1)), .int (xs (i + 2)), .ref o] (outW K o lf :: cw) (some (.int (nI k))) (outW K o lf1 :: cw1) tl tg)
    (hm : CtP l K yX5_kind wsX5_kind rmX5_kind [.ref (a 0), .int (xs (i + 1)), .int (xs (i + 2))] [modR K a (flat F) g P L0 M] (fun r w => ∃ F1 g1 P1 L1 M1, r = some (.int v) ∧ w = [modR K a (flat F1) g1 P1 L1 M1] ∧ M1 0 2 = nI k ∧ Φ F1 g1 P1 L1 M1))
    (hv : k = 0 → lf1 0 = v.toInt64)
    (kk : ∀ F1 g1 P1 L1 M1, Φ F1 g1 P1 L1 M1 → J G ([modR K a (flat F1) g1 P1 L1 M1] ++ (outW K o lf1 :: cw1)) [(0, .ref b), (1, .ref x), (2, .ref (a 0)), (3, .ref o), (4, .int (nI i))] (cells + 1) (slots + 6) 1424 []) :
    J G ([modR K a (flat F) g P L0 M] ++ (outW K o lf :: cw)) [(0, .ref b), (1, .ref x), (2, .ref (a 0)), (3, .ref o), (4, .int (nI i))] cells slots 934 [] := by
  refine J_aln C0 1 dL_law_934 (kk := ?_)
  refine J_aln C0 0 dL_law_935 (kk := ?_)
  refine J_il C0 4 dL_law_936 (kk := ?_)
  refine J_ic C0 1 dL_law_938 (kk := ?_)
  refine J_iaddN C0 dL_law_939 (kk := ?_)
  refine J_sld C0 hX hL (j := i + 1) (by omega) dL_law_940 (kk := ?_)
  refine J_aln C0 0 dL_law_941 (kk := ?_)
  refine J_il C0 4 dL_law_942 (kk := ?_)
  refine J_ic C0 2 dL_law_944 (kk := ?_)
  refine J_iaddN C0 dL_law_945 (kk := ?_)
  refine J_sld C0 hX hL (j := i + 2) (by omega) dL_law_946 (kk := ?_)
  refine J_aln C0 3 dL_law_947 (kk := ?_)
  refine J_callW C0 hX hW [modR K a (flat F) g P L0 M] gL_law_L_kind dL_law_948 4 (hf := ⟨by show _ + 1 ≤ 601024; omega, by show _ + 6 ≤ 7293033; omega⟩) (kk := ?_)
  show J G _ _ _ _ _ [.int (nI k)]
  refine J_is C0 [(5, .int (nI k)), (0, .ref b), (1, .ref x), (2, .ref (a 0)), (3, .ref o), (4, .int (nI i))] dL_law_951 (kk := ?_)
  refine J_perm (bs2 := (outW K o lf1 :: cw1) ++ [modR K a (flat F) g P L0 M]) List.perm_append_comm ?_
  refine J_aln C0 3 dL_law_953 (kk := ?_)
  refine J_aln C0 1 dL_law_954 (kk := ?_)
  refine J_il C0 5 dL_law_955 (kk := ?_)
  refine J_ic C0 1 dL_law_957 (kk := ?_)
  refine J_iaddN C0 dL_law_958 (kk := ?_)
  refine J_sld C0 hX hL (j := i + 1) (by omega) dL_law_959 (kk := ?_)
  refine J_aln C0 1 dL_law_960 (kk := ?_)
  refine J_il C0 5 dL_law_961 (kk := ?_)
  refine J_ic C0 2 dL_law_963 (kk := ?_)
  refine J_iaddN C0 dL_law_964 (kk := ?_)
  refine J_sld C0 hX hL (j := i + 2) (by omega) dL_law_965 (kk := ?_)
  refine J_callV C0 (wr := outW K o lf1 :: cw1) (rest := []) hm rfl gL_law_X5_kind dL_law_966 2 0 (hf := ⟨by show _ + 1 + 0 ≤ 601024; omega, by show _ + 6 + 0 ≤ 7293033; omega⟩) (kk := fun rv w1 h1 => ?_)
  obtain ⟨F1, g1, P1, L1, M1, rfl, rfl, eM, hΦ⟩ := h1
  show J G _ _ _ _ _ [.int v]
  refine J_is C0 [(6, .int v), (5, .int (nI k)), (0, .ref b), (1, .ref x), (2, .ref (a 0)), (3, .ref o), (4, .int (nI i))] dL_law_969 (kk := ?_)
  refine J_aln C0 4 dL_law_971 (kk := ?_)
  refine J_callVd C0 (mX5_thrown l K a F1 g1 P1 L1 M1) (outW K o lf1 :: cw1) ((outW K o lf1 :: cw1) ++ [modR K a (flat F1) g1 P1 L1 M1]) gL_law_X5_thrown dL_law_972 0 0 (hf := ⟨by show _ + 1 + 0 + 0 ≤ 601024; omega, by show _ + 6 + 0 + 0 ≤ 7293033; omega⟩) (kk := ?_)
  show J G _ _ _ _ _ [.int (M1 0 2)]
  rw [eM]
  refine J_il C0 1 dL_law_975 (kk := ?_)
  refine J_icmpeqN C0 982 (by omega) (by omega) dL_law_977 (kt := fun _ => ?_) (kf := fun q => absurd rfl q)
  refine J_il C0 1 dL_law_982 (kk := ?_)
  refine J_ifneN C0 999 (by omega) dL_law_984 (kt := fun _ => ?_) (kf := fun k0 => ?_)
  ·
    refine J_goto C0 1424 dL_law_999 (kk := ?_)
    refine J_perm (bs2 := [modR K a (flat F1) g1 P1 L1 M1] ++ (outW K o lf1 :: cw1)) List.perm_append_comm ?_
    exact J_lv [2, 3, 4, 5, 6] (kk := kk F1 g1 P1 L1 M1 hΦ)
  · have hv := hv k0
    refine J_aln C0 5 dL_law_987 (kk := ?_)
    refine J_ic C0 0 dL_law_988 (kk := ?_)
    refine J_lald C0 0 0 1 dL_law_989 (by decide) (hv := hv) (kk := ?_)
    refine J_il C0 0 dL_law_990 (kk := ?_)
    refine J_i2l C0 dL_law_992 (kk := ?_)
    refine J_lcmp C0 dL_law_993 (kk := ?_)
    rw [lg_same]
    refine J_ifeq C0 999 dL_law_994 (kt := fun _ => ?_) (kf := fun q => absurd rfl q)
    refine J_goto C0 1424 dL_law_999 (kk := ?_)
    refine J_perm (bs2 := [modR K a (flat F1) g1 P1 L1 M1] ++ (outW K o lf1 :: cw1)) List.perm_append_comm ?_
    exact J_lv [2, 3, 4, 5, 6] (kk := kk F1 g1 P1 L1 M1 hΦ)

theorem law_houseOf {K : KT} {l : Launch} {G : JC} (C0 : Cx G K l cL_law 9 RL wsL_law room_1) {tl tg b L : Nat} {xs : Nat → Int32} (hX : FnlS G tl tg b L xs) (hL : L ≤ 2048) {x o : Nat} {a : Nat → Nat} {i cells slots : Nat} (hi : i + 3 < L) (hc : cells ≤ 600000) (hs : slots ≤ 7000000) {F : FF} {g P L0 : Nat → Int32} {M : FF} {cw cw1 : List va_W} {fs : List Value} (hrec : (cw.flatten)[0]? = some (x, .inr (4, fs))) {lf lf1 : Nat → Int64} {k : Nat} (hk : k < 4) {v : Int32} {Φ : FF → (Nat → Int32) → (Nat → Int32) → (Nat → Int32) → FF → Prop}
    (hW : CtW l K yL_houseOf wsL_houseOf rmL [.ref x, .int (xs (i + 1)), .int (xs (i + 2)), .int (xs (i + 3)), .ref o] (outW K o lf :: cw) (some (.int (nI k))) (outW K o lf1 :: cw1) tl tg)
    (hm : CtP l K yX5_houseOf wsX5_houseOf rmX5_houseOf [.ref (a 0), .int (xs (i + 1)), .int (xs (i + 2)), .int (xs (i + 3))] [modR K a (flat F) g P L0 M] (fun r w => ∃ F1 g1 P1 L1 M1, r = some (.int v) ∧ w = [modR K a (flat F1) g1 P1 L1 M1] ∧ M1 0 2 = nI k ∧ Φ F1 g1 P1 L1 M1))
    (hv : k = 0 → lf1 0 = v.toInt64)
    (kk : ∀ F1 g1 P1 L1 M1, Φ F1 g1 P1 L1 M1 → J G ([modR K a (flat F1) g1 P1 L1 M1] ++ (outW K o lf1 :: cw1)) [(0, .ref b), (1, .ref x), (2, .ref (a 0)), (3, .ref o), (4, .int (nI i))] (cells + 1) (slots + 6) 1424 []) :
    J G ([modR K a (flat F) g P L0 M] ++ (outW K o lf :: cw)) [(0, .ref b), (1, .ref x), (2, .ref (a 0)), (3, .ref o), (4, .int (nI i))] cells slots 1002 [] := by
  refine J_aln C0 1 dL_law_1002 (kk := ?_)
  refine J_aln C0 0 dL_law_1003 (kk := ?_)
  refine J_il C0 4 dL_law_1004 (kk := ?_)
  refine J_ic C0 1 dL_law_1006 (kk := ?_)
  refine J_iaddN C0 dL_law_1007 (kk := ?_)
  refine J_sld C0 hX hL (j := i + 1) (by omega) dL_law_1008 (kk := ?_)
  refine J_aln C0 0 dL_law_1009 (kk := ?_)
  refine J_il C0 4 dL_law_1010 (kk := ?_)
  refine J_ic C0 2 dL_law_1012 (kk := ?_)
  refine J_iaddN C0 dL_law_1013 (kk := ?_)
  refine J_sld C0 hX hL (j := i + 2) (by omega) dL_law_1014 (kk := ?_)
  refine J_aln C0 0 dL_law_1015 (kk := ?_)
  refine J_il C0 4 dL_law_1016 (kk := ?_)
  refine J_ic C0 3 dL_law_1018 (kk := ?_)
  refine J_iaddN C0 dL_law_1019 (kk := ?_)
  refine J_sld C0 hX hL (j := i + 3) (by omega) dL_law_1020 (kk := ?_)
  refine J_aln C0 3 dL_law_1021 (kk := ?_)
  refine J_callW C0 hX hW [modR K a (flat F) g P L0 M] gL_law_L_houseOf dL_law_1022 5 (hf := ⟨by show _ + 1 ≤ 601024; omega, by show _ + 6 ≤ 7293033; omega⟩) (kk := ?_)
  show J G _ _ _ _ _ [.int (nI k)]
  refine J_is C0 [(5, .int (nI k)), (0, .ref b), (1, .ref x), (2, .ref (a 0)), (3, .ref o), (4, .int (nI i))] dL_law_1025 (kk := ?_)
  refine J_perm (bs2 := (outW K o lf1 :: cw1) ++ [modR K a (flat F) g P L0 M]) List.perm_append_comm ?_
  refine J_aln C0 3 dL_law_1027 (kk := ?_)
  refine J_aln C0 1 dL_law_1028 (kk := ?_)
  refine J_il C0 5 dL_law_1029 (kk := ?_)
  refine J_ic C0 1 dL_law_1031 (kk := ?_)
  refine J_iaddN C0 dL_law_1032 (kk := ?_)
  refine J_sld C0 hX hL (j := i + 1) (by omega) dL_law_1033 (kk := ?_)
  refine J_aln C0 1 dL_law_1034 (kk := ?_)
  refine J_il C0 5 dL_law_1035 (kk := ?_)
  refine J_ic C0 2 dL_law_1037 (kk := ?_)
  refine J_iaddN C0 dL_law_1038 (kk := ?_)
  refine J_sld C0 hX hL (j := i + 2) (by omega) dL_law_1039 (kk := ?_)
  refine J_aln C0 1 dL_law_1040 (kk := ?_)
  refine J_il C0 5 dL_law_1041 (kk := ?_)
  refine J_ic C0 3 dL_law_1043 (kk := ?_)
  refine J_iaddN C0 dL_law_1044 (kk := ?_)
  refine J_sld C0 hX hL (j := i + 3) (by omega) dL_law_1045 (kk := ?_)
  refine J_callV C0 (wr := outW K o lf1 :: cw1) (rest := []) hm rfl gL_law_X5_houseOf dL_law_1046 3 0 (hf := ⟨by show _ + 1 + 0 ≤ 601024; omega, by show _ + 6 + 0 ≤ 7293033; omega⟩) (kk := fun rv w1 h1 => ?_)
  obtain ⟨F1, g1, P1, L1, M1, rfl, rfl, eM, hΦ⟩ := h1
  show J G _ _ _ _ _ [.int v]
  refine J_is C0 [(6, .int v), (5, .int (nI k)), (0, .ref b), (1, .ref x), (2, .ref (a 0)), (3, .ref o), (4, .int (nI i))] dL_law_1049 (kk := ?_)
  refine J_aln C0 4 dL_law_1051 (kk := ?_)
  refine J_callVd C0 (mX5_thrown l K a F1 g1 P1 L1 M1) (outW K o lf1 :: cw1) ((outW K o lf1 :: cw1) ++ [modR K a (flat F1) g1 P1 L1 M1]) gL_law_X5_thrown dL_law_1052 0 0 (hf := ⟨by show _ + 1 + 0 + 0 ≤ 601024; omega, by show _ + 6 + 0 + 0 ≤ 7293033; omega⟩) (kk := ?_)
  show J G _ _ _ _ _ [.int (M1 0 2)]
  rw [eM]
  refine J_il C0 1 dL_law_1055 (kk := ?_)
  refine J_icmpeqN C0 1062 (by omega) (by omega) dL_law_1057 (kt := fun _ => ?_) (kf := fun q => absurd rfl q)
  refine J_il C0 1 dL_law_1062 (kk := ?_)
  refine J_ifneN C0 1079 (by omega) dL_law_1064 (kt := fun _ => ?_) (kf := fun k0 => ?_)
  ·
    refine J_goto C0 1424 dL_law_1079 (kk := ?_)
    refine J_perm (bs2 := [modR K a (flat F1) g1 P1 L1 M1] ++ (outW K o lf1 :: cw1)) List.perm_append_comm ?_
    exact J_lv [2, 3, 4, 5, 6] (kk := kk F1 g1 P1 L1 M1 hΦ)
  · have hv := hv k0
    refine J_aln C0 5 dL_law_1067 (kk := ?_)
    refine J_ic C0 0 dL_law_1068 (kk := ?_)
    refine J_lald C0 0 0 1 dL_law_1069 (by decide) (hv := hv) (kk := ?_)
    refine J_il C0 0 dL_law_1070 (kk := ?_)
    refine J_i2l C0 dL_law_1072 (kk := ?_)
    refine J_lcmp C0 dL_law_1073 (kk := ?_)
    rw [lg_same]
    refine J_ifeq C0 1079 dL_law_1074 (kt := fun _ => ?_) (kf := fun q => absurd rfl q)
    refine J_goto C0 1424 dL_law_1079 (kk := ?_)
    refine J_perm (bs2 := [modR K a (flat F1) g1 P1 L1 M1] ++ (outW K o lf1 :: cw1)) List.perm_append_comm ?_
    exact J_lv [2, 3, 4, 5, 6] (kk := kk F1 g1 P1 L1 M1 hΦ)

theorem law_letter {K : KT} {l : Launch} {G : JC} (C0 : Cx G K l cL_law 9 RL wsL_law room_1) {tl tg b L : Nat} {xs : Nat → Int32} (hX : FnlS G tl tg b L xs) (hL : L ≤ 2048) {x o : Nat} {a : Nat → Nat} {i cells slots : Nat} (hi : i + 3 < L) (hc : cells ≤ 600000) (hs : slots ≤ 7000000) {F : FF} {g P L0 : Nat → Int32} {M : FF} {cw cw1 : List va_W} {fs : List Value} (hrec : (cw.flatten)[0]? = some (x, .inr (4, fs))) {lf lf1 : Nat → Int64} {k : Nat} (hk : k < 4) {v : Int32} {Φ : FF → (Nat → Int32) → (Nat → Int32) → (Nat → Int32) → FF → Prop}
    (hW : CtW l K yL_letter wsL_letter rmL [.ref x, .int (xs (i + 1)), .int (xs (i + 2)), .ref o] (outW K o lf :: cw) (some (.int (nI k))) (outW K o lf1 :: cw1) tl tg)
    (hm : CtP l K yX5_letter wsX5_letter rmX5_letter [.ref (a 0), .int (xs (i + 1)), .int (xs (i + 2))] [modR K a (flat F) g P L0 M] (fun r w => ∃ F1 g1 P1 L1 M1, r = some (.int v) ∧ w = [modR K a (flat F1) g1 P1 L1 M1] ∧ M1 0 2 = nI k ∧ Φ F1 g1 P1 L1 M1))
    (hv : k = 0 → lf1 0 = v.toInt64)
    (kk : ∀ F1 g1 P1 L1 M1, Φ F1 g1 P1 L1 M1 → J G ([modR K a (flat F1) g1 P1 L1 M1] ++ (outW K o lf1 :: cw1)) [(0, .ref b), (1, .ref x), (2, .ref (a 0)), (3, .ref o), (4, .int (nI i))] (cells + 1) (slots + 6) 1424 []) :
    J G ([modR K a (flat F) g P L0 M] ++ (outW K o lf :: cw)) [(0, .ref b), (1, .ref x), (2, .ref (a 0)), (3, .ref o), (4, .int (nI i))] cells slots 1082 [] := by
  refine J_aln C0 1 dL_law_1082 (kk := ?_)
  refine J_aln C0 0 dL_law_1083 (kk := ?_)
  refine J_il C0 4 dL_law_1084 (kk := ?_)
  refine J_ic C0 1 dL_law_1086 (kk := ?_)
  refine J_iaddN C0 dL_law_1087 (kk := ?_)
  refine J_sld C0 hX hL (j := i + 1) (by omega) dL_law_1088 (kk := ?_)
  refine J_aln C0 0 dL_law_1089 (kk := ?_)
  refine J_il C0 4 dL_law_1090 (kk := ?_)
  refine J_ic C0 2 dL_law_1092 (kk := ?_)
  refine J_iaddN C0 dL_law_1093 (kk := ?_)
  refine J_sld C0 hX hL (j := i + 2) (by omega) dL_law_1094 (kk := ?_)
  refine J_aln C0 3 dL_law_1095 (kk := ?_)
  refine J_callW C0 hX hW [modR K a (flat F) g P L0 M] gL_law_L_letter dL_law_1096 4 (hf := ⟨by show _ + 1 ≤ 601024; omega, by show _ + 6 ≤ 7293033; omega⟩) (kk := ?_)
  show J G _ _ _ _ _ [.int (nI k)]
  refine J_is C0 [(5, .int (nI k)), (0, .ref b), (1, .ref x), (2, .ref (a 0)), (3, .ref o), (4, .int (nI i))] dL_law_1099 (kk := ?_)
  refine J_perm (bs2 := (outW K o lf1 :: cw1) ++ [modR K a (flat F) g P L0 M]) List.perm_append_comm ?_
  refine J_aln C0 3 dL_law_1101 (kk := ?_)
  refine J_aln C0 1 dL_law_1102 (kk := ?_)
  refine J_il C0 5 dL_law_1103 (kk := ?_)
  refine J_ic C0 1 dL_law_1105 (kk := ?_)
  refine J_iaddN C0 dL_law_1106 (kk := ?_)
  refine J_sld C0 hX hL (j := i + 1) (by omega) dL_law_1107 (kk := ?_)
  refine J_aln C0 1 dL_law_1108 (kk := ?_)
  refine J_il C0 5 dL_law_1109 (kk := ?_)
  refine J_ic C0 2 dL_law_1111 (kk := ?_)
  refine J_iaddN C0 dL_law_1112 (kk := ?_)
  refine J_sld C0 hX hL (j := i + 2) (by omega) dL_law_1113 (kk := ?_)
  refine J_callV C0 (wr := outW K o lf1 :: cw1) (rest := []) hm rfl gL_law_X5_letter dL_law_1114 2 0 (hf := ⟨by show _ + 1 + 0 ≤ 601024; omega, by show _ + 6 + 0 ≤ 7293033; omega⟩) (kk := fun rv w1 h1 => ?_)
  obtain ⟨F1, g1, P1, L1, M1, rfl, rfl, eM, hΦ⟩ := h1
  show J G _ _ _ _ _ [.int v]
  refine J_is C0 [(6, .int v), (5, .int (nI k)), (0, .ref b), (1, .ref x), (2, .ref (a 0)), (3, .ref o), (4, .int (nI i))] dL_law_1117 (kk := ?_)
  refine J_aln C0 4 dL_law_1119 (kk := ?_)
  refine J_callVd C0 (mX5_thrown l K a F1 g1 P1 L1 M1) (outW K o lf1 :: cw1) ((outW K o lf1 :: cw1) ++ [modR K a (flat F1) g1 P1 L1 M1]) gL_law_X5_thrown dL_law_1120 0 0 (hf := ⟨by show _ + 1 + 0 + 0 ≤ 601024; omega, by show _ + 6 + 0 + 0 ≤ 7293033; omega⟩) (kk := ?_)
  show J G _ _ _ _ _ [.int (M1 0 2)]
  rw [eM]
  refine J_il C0 1 dL_law_1123 (kk := ?_)
  refine J_icmpeqN C0 1130 (by omega) (by omega) dL_law_1125 (kt := fun _ => ?_) (kf := fun q => absurd rfl q)
  refine J_il C0 1 dL_law_1130 (kk := ?_)
  refine J_ifneN C0 1147 (by omega) dL_law_1132 (kt := fun _ => ?_) (kf := fun k0 => ?_)
  ·
    refine J_goto C0 1424 dL_law_1147 (kk := ?_)
    refine J_perm (bs2 := [modR K a (flat F1) g1 P1 L1 M1] ++ (outW K o lf1 :: cw1)) List.perm_append_comm ?_
    exact J_lv [2, 3, 4, 5, 6] (kk := kk F1 g1 P1 L1 M1 hΦ)
  · have hv := hv k0
    refine J_aln C0 5 dL_law_1135 (kk := ?_)
    refine J_ic C0 0 dL_law_1136 (kk := ?_)
    refine J_lald C0 0 0 1 dL_law_1137 (by decide) (hv := hv) (kk := ?_)
    refine J_il C0 0 dL_law_1138 (kk := ?_)
    refine J_i2l C0 dL_law_1140 (kk := ?_)
    refine J_lcmp C0 dL_law_1141 (kk := ?_)
    rw [lg_same]
    refine J_ifeq C0 1147 dL_law_1142 (kt := fun _ => ?_) (kf := fun q => absurd rfl q)
    refine J_goto C0 1424 dL_law_1147 (kk := ?_)
    refine J_perm (bs2 := [modR K a (flat F1) g1 P1 L1 M1] ++ (outW K o lf1 :: cw1)) List.perm_append_comm ?_
    exact J_lv [2, 3, 4, 5, 6] (kk := kk F1 g1 P1 L1 M1 hΦ)

theorem law_count {K : KT} {l : Launch} {G : JC} (C0 : Cx G K l cL_law 9 RL wsL_law room_1) {tl tg b L : Nat} {xs : Nat → Int32} (hX : FnlS G tl tg b L xs) (hL : L ≤ 2048) {x o : Nat} {a : Nat → Nat} {i cells slots : Nat} (hi : i + 3 < L) (hc : cells ≤ 600000) (hs : slots ≤ 7000000) {F : FF} {g P L0 : Nat → Int32} {M : FF} {cw cw1 : List va_W} {fs : List Value} (hrec : (cw.flatten)[0]? = some (x, .inr (4, fs))) {lf lf1 : Nat → Int64} {k : Nat} (hk : k < 4) {v : Int32} {Φ : FF → (Nat → Int32) → (Nat → Int32) → (Nat → Int32) → FF → Prop}
    (hW : CtW l K yL_count wsL_count rmL [.ref x, .int (xs (i + 1)), .ref o] (outW K o lf :: cw) (some (.int (nI k))) (outW K o lf1 :: cw1) tl tg)
    (hm : CtP l K yX5_count wsX5_count rmX5_count [.ref (a 0), .int (xs (i + 1))] [modR K a (flat F) g P L0 M] (fun r w => ∃ F1 g1 P1 L1 M1, r = some (.int v) ∧ w = [modR K a (flat F1) g1 P1 L1 M1] ∧ M1 0 2 = nI k ∧ Φ F1 g1 P1 L1 M1))
    (hv : k = 0 → lf1 0 = v.toInt64)
    (kk : ∀ F1 g1 P1 L1 M1, Φ F1 g1 P1 L1 M1 → J G ([modR K a (flat F1) g1 P1 L1 M1] ++ (outW K o lf1 :: cw1)) [(0, .ref b), (1, .ref x), (2, .ref (a 0)), (3, .ref o), (4, .int (nI i))] (cells + 1) (slots + 6) 1424 []) :
    J G ([modR K a (flat F) g P L0 M] ++ (outW K o lf :: cw)) [(0, .ref b), (1, .ref x), (2, .ref (a 0)), (3, .ref o), (4, .int (nI i))] cells slots 1150 [] := by
  refine J_aln C0 1 dL_law_1150 (kk := ?_)
  refine J_aln C0 0 dL_law_1151 (kk := ?_)
  refine J_il C0 4 dL_law_1152 (kk := ?_)
  refine J_ic C0 1 dL_law_1154 (kk := ?_)
  refine J_iaddN C0 dL_law_1155 (kk := ?_)
  refine J_sld C0 hX hL (j := i + 1) (by omega) dL_law_1156 (kk := ?_)
  refine J_aln C0 3 dL_law_1157 (kk := ?_)
  refine J_callW C0 hX hW [modR K a (flat F) g P L0 M] gL_law_L_count dL_law_1158 3 (hf := ⟨by show _ + 1 ≤ 601024; omega, by show _ + 6 ≤ 7293033; omega⟩) (kk := ?_)
  show J G _ _ _ _ _ [.int (nI k)]
  refine J_is C0 [(5, .int (nI k)), (0, .ref b), (1, .ref x), (2, .ref (a 0)), (3, .ref o), (4, .int (nI i))] dL_law_1161 (kk := ?_)
  refine J_perm (bs2 := (outW K o lf1 :: cw1) ++ [modR K a (flat F) g P L0 M]) List.perm_append_comm ?_
  refine J_aln C0 3 dL_law_1163 (kk := ?_)
  refine J_aln C0 1 dL_law_1164 (kk := ?_)
  refine J_il C0 5 dL_law_1165 (kk := ?_)
  refine J_ic C0 1 dL_law_1167 (kk := ?_)
  refine J_iaddN C0 dL_law_1168 (kk := ?_)
  refine J_sld C0 hX hL (j := i + 1) (by omega) dL_law_1169 (kk := ?_)
  refine J_callV C0 (wr := outW K o lf1 :: cw1) (rest := []) hm rfl gL_law_X5_count dL_law_1170 1 0 (hf := ⟨by show _ + 1 + 0 ≤ 601024; omega, by show _ + 6 + 0 ≤ 7293033; omega⟩) (kk := fun rv w1 h1 => ?_)
  obtain ⟨F1, g1, P1, L1, M1, rfl, rfl, eM, hΦ⟩ := h1
  show J G _ _ _ _ _ [.int v]
  refine J_is C0 [(6, .int v), (5, .int (nI k)), (0, .ref b), (1, .ref x), (2, .ref (a 0)), (3, .ref o), (4, .int (nI i))] dL_law_1173 (kk := ?_)
  refine J_aln C0 4 dL_law_1175 (kk := ?_)
  refine J_callVd C0 (mX5_thrown l K a F1 g1 P1 L1 M1) (outW K o lf1 :: cw1) ((outW K o lf1 :: cw1) ++ [modR K a (flat F1) g1 P1 L1 M1]) gL_law_X5_thrown dL_law_1176 0 0 (hf := ⟨by show _ + 1 + 0 + 0 ≤ 601024; omega, by show _ + 6 + 0 + 0 ≤ 7293033; omega⟩) (kk := ?_)
  show J G _ _ _ _ _ [.int (M1 0 2)]
  rw [eM]
  refine J_il C0 1 dL_law_1179 (kk := ?_)
  refine J_icmpeqN C0 1186 (by omega) (by omega) dL_law_1181 (kt := fun _ => ?_) (kf := fun q => absurd rfl q)
  refine J_il C0 1 dL_law_1186 (kk := ?_)
  refine J_ifneN C0 1203 (by omega) dL_law_1188 (kt := fun _ => ?_) (kf := fun k0 => ?_)
  ·
    refine J_goto C0 1424 dL_law_1203 (kk := ?_)
    refine J_perm (bs2 := [modR K a (flat F1) g1 P1 L1 M1] ++ (outW K o lf1 :: cw1)) List.perm_append_comm ?_
    exact J_lv [2, 3, 4, 5, 6] (kk := kk F1 g1 P1 L1 M1 hΦ)
  · have hv := hv k0
    refine J_aln C0 5 dL_law_1191 (kk := ?_)
    refine J_ic C0 0 dL_law_1192 (kk := ?_)
    refine J_lald C0 0 0 1 dL_law_1193 (by decide) (hv := hv) (kk := ?_)
    refine J_il C0 0 dL_law_1194 (kk := ?_)
    refine J_i2l C0 dL_law_1196 (kk := ?_)
    refine J_lcmp C0 dL_law_1197 (kk := ?_)
    rw [lg_same]
    refine J_ifeq C0 1203 dL_law_1198 (kt := fun _ => ?_) (kf := fun q => absurd rfl q)
    refine J_goto C0 1424 dL_law_1203 (kk := ?_)
    refine J_perm (bs2 := [modR K a (flat F1) g1 P1 L1 M1] ++ (outW K o lf1 :: cw1)) List.perm_append_comm ?_
    exact J_lv [2, 3, 4, 5, 6] (kk := kk F1 g1 P1 L1 M1 hΦ)

theorem law_setting {K : KT} {l : Launch} {G : JC} (C0 : Cx G K l cL_law 9 RL wsL_law room_1) {tl tg b L : Nat} {xs : Nat → Int32} (hX : FnlS G tl tg b L xs) (hL : L ≤ 2048) {x o : Nat} {a : Nat → Nat} {i cells slots : Nat} (hi : i + 3 < L) (hc : cells ≤ 600000) (hs : slots ≤ 7000000) {F : FF} {g P L0 : Nat → Int32} {M : FF} {cw cw1 : List va_W} {fs : List Value} (hrec : (cw.flatten)[0]? = some (x, .inr (4, fs))) {lf lf1 : Nat → Int64} {k : Nat} (hk : k < 4) {v : Int32} {Φ : FF → (Nat → Int32) → (Nat → Int32) → (Nat → Int32) → FF → Prop}
    (hW : CtW l K yL_setting wsL_setting rmL [.ref x, .int (xs (i + 1)), .ref o] (outW K o lf :: cw) (some (.int (nI k))) (outW K o lf1 :: cw1) tl tg)
    (hm : CtP l K yX5_setting wsX5_setting rmX5_setting [.ref (a 0), .int (xs (i + 1))] [modR K a (flat F) g P L0 M] (fun r w => ∃ F1 g1 P1 L1 M1, r = some (.int v) ∧ w = [modR K a (flat F1) g1 P1 L1 M1] ∧ M1 0 2 = nI k ∧ Φ F1 g1 P1 L1 M1))
    (hv : k = 0 → lf1 0 = v.toInt64)
    (kk : ∀ F1 g1 P1 L1 M1, Φ F1 g1 P1 L1 M1 → J G ([modR K a (flat F1) g1 P1 L1 M1] ++ (outW K o lf1 :: cw1)) [(0, .ref b), (1, .ref x), (2, .ref (a 0)), (3, .ref o), (4, .int (nI i))] (cells + 1) (slots + 6) 1424 []) :
    J G ([modR K a (flat F) g P L0 M] ++ (outW K o lf :: cw)) [(0, .ref b), (1, .ref x), (2, .ref (a 0)), (3, .ref o), (4, .int (nI i))] cells slots 1206 [] := by
  refine J_aln C0 1 dL_law_1206 (kk := ?_)
  refine J_aln C0 0 dL_law_1207 (kk := ?_)
  refine J_il C0 4 dL_law_1208 (kk := ?_)
  refine J_ic C0 1 dL_law_1210 (kk := ?_)
  refine J_iaddN C0 dL_law_1211 (kk := ?_)
  refine J_sld C0 hX hL (j := i + 1) (by omega) dL_law_1212 (kk := ?_)
  refine J_aln C0 3 dL_law_1213 (kk := ?_)
  refine J_callW C0 hX hW [modR K a (flat F) g P L0 M] gL_law_L_setting dL_law_1214 3 (hf := ⟨by show _ + 1 ≤ 601024; omega, by show _ + 6 ≤ 7293033; omega⟩) (kk := ?_)
  show J G _ _ _ _ _ [.int (nI k)]
  refine J_is C0 [(5, .int (nI k)), (0, .ref b), (1, .ref x), (2, .ref (a 0)), (3, .ref o), (4, .int (nI i))] dL_law_1217 (kk := ?_)
  refine J_perm (bs2 := (outW K o lf1 :: cw1) ++ [modR K a (flat F) g P L0 M]) List.perm_append_comm ?_
  refine J_aln C0 3 dL_law_1219 (kk := ?_)
  refine J_aln C0 1 dL_law_1220 (kk := ?_)
  refine J_il C0 5 dL_law_1221 (kk := ?_)
  refine J_ic C0 1 dL_law_1223 (kk := ?_)
  refine J_iaddN C0 dL_law_1224 (kk := ?_)
  refine J_sld C0 hX hL (j := i + 1) (by omega) dL_law_1225 (kk := ?_)
  refine J_callV C0 (wr := outW K o lf1 :: cw1) (rest := []) hm rfl gL_law_X5_setting dL_law_1226 1 0 (hf := ⟨by show _ + 1 + 0 ≤ 601024; omega, by show _ + 6 + 0 ≤ 7293033; omega⟩) (kk := fun rv w1 h1 => ?_)
  obtain ⟨F1, g1, P1, L1, M1, rfl, rfl, eM, hΦ⟩ := h1
  show J G _ _ _ _ _ [.int v]
  refine J_is C0 [(6, .int v), (5, .int (nI k)), (0, .ref b), (1, .ref x), (2, .ref (a 0)), (3, .ref o), (4, .int (nI i))] dL_law_1229 (kk := ?_)
  refine J_aln C0 4 dL_law_1231 (kk := ?_)
  refine J_callVd C0 (mX5_thrown l K a F1 g1 P1 L1 M1) (outW K o lf1 :: cw1) ((outW K o lf1 :: cw1) ++ [modR K a (flat F1) g1 P1 L1 M1]) gL_law_X5_thrown dL_law_1232 0 0 (hf := ⟨by show _ + 1 + 0 + 0 ≤ 601024; omega, by show _ + 6 + 0 + 0 ≤ 7293033; omega⟩) (kk := ?_)
  show J G _ _ _ _ _ [.int (M1 0 2)]
  rw [eM]
  refine J_il C0 1 dL_law_1235 (kk := ?_)
  refine J_icmpeqN C0 1242 (by omega) (by omega) dL_law_1237 (kt := fun _ => ?_) (kf := fun q => absurd rfl q)
  refine J_il C0 1 dL_law_1242 (kk := ?_)
  refine J_ifneN C0 1259 (by omega) dL_law_1244 (kt := fun _ => ?_) (kf := fun k0 => ?_)
  ·
    refine J_goto C0 1424 dL_law_1259 (kk := ?_)
    refine J_perm (bs2 := [modR K a (flat F1) g1 P1 L1 M1] ++ (outW K o lf1 :: cw1)) List.perm_append_comm ?_
    exact J_lv [2, 3, 4, 5, 6] (kk := kk F1 g1 P1 L1 M1 hΦ)
  · have hv := hv k0
    refine J_aln C0 5 dL_law_1247 (kk := ?_)
    refine J_ic C0 0 dL_law_1248 (kk := ?_)
    refine J_lald C0 0 0 1 dL_law_1249 (by decide) (hv := hv) (kk := ?_)
    refine J_il C0 0 dL_law_1250 (kk := ?_)
    refine J_i2l C0 dL_law_1252 (kk := ?_)
    refine J_lcmp C0 dL_law_1253 (kk := ?_)
    rw [lg_same]
    refine J_ifeq C0 1259 dL_law_1254 (kt := fun _ => ?_) (kf := fun q => absurd rfl q)
    refine J_goto C0 1424 dL_law_1259 (kk := ?_)
    refine J_perm (bs2 := [modR K a (flat F1) g1 P1 L1 M1] ++ (outW K o lf1 :: cw1)) List.perm_append_comm ?_
    exact J_lv [2, 3, 4, 5, 6] (kk := kk F1 g1 P1 L1 M1 hΦ)

theorem law_ifPassed {K : KT} {l : Launch} {G : JC} (C0 : Cx G K l cL_law 9 RL wsL_law room_1) {tl tg b L : Nat} {xs : Nat → Int32} (hX : FnlS G tl tg b L xs) (hL : L ≤ 2048) {x o : Nat} {a : Nat → Nat} {i cells slots : Nat} (hi : i + 3 < L) (hc : cells ≤ 600000) (hs : slots ≤ 7000000) {F : FF} {g P L0 : Nat → Int32} {M : FF} {cw cw1 : List va_W} {fs : List Value} (hrec : (cw.flatten)[0]? = some (x, .inr (4, fs))) {lf lf1 : Nat → Int64} {k : Nat} (hk : k < 4) {v : Int32} {Φ : FF → (Nat → Int32) → (Nat → Int32) → (Nat → Int32) → FF → Prop}
    (hW : CtW l K yL_ifPassed wsL_ifPassed rmL [.ref x, .int (xs (i + 1)), .int (xs (i + 2)), .ref o] (outW K o lf :: cw) (some (.int (nI k))) (outW K o lf1 :: cw1) tl tg)
    (hm : CtP l K yX5_ifPassed wsX5_ifPassed rmX5_ifPassed [.ref (a 0), .int (xs (i + 1)), .int (xs (i + 2))] [modR K a (flat F) g P L0 M] (fun r w => ∃ F1 g1 P1 L1 M1, r = some (.int v) ∧ w = [modR K a (flat F1) g1 P1 L1 M1] ∧ M1 0 2 = nI k ∧ Φ F1 g1 P1 L1 M1))
    (hv : k = 0 → lf1 0 = v.toInt64)
    (kk : ∀ F1 g1 P1 L1 M1, Φ F1 g1 P1 L1 M1 → J G ([modR K a (flat F1) g1 P1 L1 M1] ++ (outW K o lf1 :: cw1)) [(0, .ref b), (1, .ref x), (2, .ref (a 0)), (3, .ref o), (4, .int (nI i))] (cells + 1) (slots + 6) 1424 []) :
    J G ([modR K a (flat F) g P L0 M] ++ (outW K o lf :: cw)) [(0, .ref b), (1, .ref x), (2, .ref (a 0)), (3, .ref o), (4, .int (nI i))] cells slots 1262 [] := by
  refine J_aln C0 1 dL_law_1262 (kk := ?_)
  refine J_aln C0 0 dL_law_1263 (kk := ?_)
  refine J_il C0 4 dL_law_1264 (kk := ?_)
  refine J_ic C0 1 dL_law_1266 (kk := ?_)
  refine J_iaddN C0 dL_law_1267 (kk := ?_)
  refine J_sld C0 hX hL (j := i + 1) (by omega) dL_law_1268 (kk := ?_)
  refine J_aln C0 0 dL_law_1269 (kk := ?_)
  refine J_il C0 4 dL_law_1270 (kk := ?_)
  refine J_ic C0 2 dL_law_1272 (kk := ?_)
  refine J_iaddN C0 dL_law_1273 (kk := ?_)
  refine J_sld C0 hX hL (j := i + 2) (by omega) dL_law_1274 (kk := ?_)
  refine J_aln C0 3 dL_law_1275 (kk := ?_)
  refine J_callW C0 hX hW [modR K a (flat F) g P L0 M] gL_law_L_ifPassed dL_law_1276 4 (hf := ⟨by show _ + 1 ≤ 601024; omega, by show _ + 6 ≤ 7293033; omega⟩) (kk := ?_)
  show J G _ _ _ _ _ [.int (nI k)]
  refine J_is C0 [(5, .int (nI k)), (0, .ref b), (1, .ref x), (2, .ref (a 0)), (3, .ref o), (4, .int (nI i))] dL_law_1279 (kk := ?_)
  refine J_perm (bs2 := (outW K o lf1 :: cw1) ++ [modR K a (flat F) g P L0 M]) List.perm_append_comm ?_
  refine J_aln C0 3 dL_law_1281 (kk := ?_)
  refine J_aln C0 1 dL_law_1282 (kk := ?_)
  refine J_il C0 5 dL_law_1283 (kk := ?_)
  refine J_ic C0 1 dL_law_1285 (kk := ?_)
  refine J_iaddN C0 dL_law_1286 (kk := ?_)
  refine J_sld C0 hX hL (j := i + 1) (by omega) dL_law_1287 (kk := ?_)
  refine J_aln C0 1 dL_law_1288 (kk := ?_)
  refine J_il C0 5 dL_law_1289 (kk := ?_)
  refine J_ic C0 2 dL_law_1291 (kk := ?_)
  refine J_iaddN C0 dL_law_1292 (kk := ?_)
  refine J_sld C0 hX hL (j := i + 2) (by omega) dL_law_1293 (kk := ?_)
  refine J_callV C0 (wr := outW K o lf1 :: cw1) (rest := []) hm rfl gL_law_X5_ifPassed dL_law_1294 2 0 (hf := ⟨by show _ + 1 + 0 ≤ 601024; omega, by show _ + 6 + 0 ≤ 7293033; omega⟩) (kk := fun rv w1 h1 => ?_)
  obtain ⟨F1, g1, P1, L1, M1, rfl, rfl, eM, hΦ⟩ := h1
  show J G _ _ _ _ _ [.int v]
  refine J_is C0 [(6, .int v), (5, .int (nI k)), (0, .ref b), (1, .ref x), (2, .ref (a 0)), (3, .ref o), (4, .int (nI i))] dL_law_1297 (kk := ?_)
  refine J_aln C0 4 dL_law_1299 (kk := ?_)
  refine J_callVd C0 (mX5_thrown l K a F1 g1 P1 L1 M1) (outW K o lf1 :: cw1) ((outW K o lf1 :: cw1) ++ [modR K a (flat F1) g1 P1 L1 M1]) gL_law_X5_thrown dL_law_1300 0 0 (hf := ⟨by show _ + 1 + 0 + 0 ≤ 601024; omega, by show _ + 6 + 0 + 0 ≤ 7293033; omega⟩) (kk := ?_)
  show J G _ _ _ _ _ [.int (M1 0 2)]
  rw [eM]
  refine J_il C0 1 dL_law_1303 (kk := ?_)
  refine J_icmpeqN C0 1310 (by omega) (by omega) dL_law_1305 (kt := fun _ => ?_) (kf := fun q => absurd rfl q)
  refine J_il C0 1 dL_law_1310 (kk := ?_)
  refine J_ifneN C0 1327 (by omega) dL_law_1312 (kt := fun _ => ?_) (kf := fun k0 => ?_)
  ·
    refine J_goto C0 1424 dL_law_1327 (kk := ?_)
    refine J_perm (bs2 := [modR K a (flat F1) g1 P1 L1 M1] ++ (outW K o lf1 :: cw1)) List.perm_append_comm ?_
    exact J_lv [2, 3, 4, 5, 6] (kk := kk F1 g1 P1 L1 M1 hΦ)
  · have hv := hv k0
    refine J_aln C0 5 dL_law_1315 (kk := ?_)
    refine J_ic C0 0 dL_law_1316 (kk := ?_)
    refine J_lald C0 0 0 1 dL_law_1317 (by decide) (hv := hv) (kk := ?_)
    refine J_il C0 0 dL_law_1318 (kk := ?_)
    refine J_i2l C0 dL_law_1320 (kk := ?_)
    refine J_lcmp C0 dL_law_1321 (kk := ?_)
    rw [lg_same]
    refine J_ifeq C0 1327 dL_law_1322 (kt := fun _ => ?_) (kf := fun q => absurd rfl q)
    refine J_goto C0 1424 dL_law_1327 (kk := ?_)
    refine J_perm (bs2 := [modR K a (flat F1) g1 P1 L1 M1] ++ (outW K o lf1 :: cw1)) List.perm_append_comm ?_
    exact J_lv [2, 3, 4, 5, 6] (kk := kk F1 g1 P1 L1 M1 hΦ)

theorem law_stillIn {K : KT} {l : Launch} {G : JC} (C0 : Cx G K l cL_law 9 RL wsL_law room_1) {tl tg b L : Nat} {xs : Nat → Int32} (hX : FnlS G tl tg b L xs) (hL : L ≤ 2048) {x o : Nat} {a : Nat → Nat} {i cells slots : Nat} (hi : i + 3 < L) (hc : cells ≤ 600000) (hs : slots ≤ 7000000) {F : FF} {g P L0 : Nat → Int32} {M : FF} {cw cw1 : List va_W} {fs : List Value} (hrec : (cw.flatten)[0]? = some (x, .inr (4, fs))) {lf : Nat → Int64} {v : Int32} {Φ : FF → (Nat → Int32) → (Nat → Int32) → (Nat → Int32) → FF → Prop}
    (hW : Ct l K yX4_stillIn wsX4_stillIn rmX4_stillIn [.ref x] cw (some (.int v)) cw1)
    (hm : CtP l K yX5_stillIn wsX5_stillIn rmX5_stillIn [.ref (a 0)] [modR K a (flat F) g P L0 M] (fun r w => ∃ F1 g1 P1 L1 M1, r = some (.int v) ∧ w = [modR K a (flat F1) g1 P1 L1 M1] ∧ Φ F1 g1 P1 L1 M1))
    (kk : ∀ F1 g1 P1 L1 M1, Φ F1 g1 P1 L1 M1 → J G ([modR K a (flat F1) g1 P1 L1 M1] ++ (outW K o lf :: cw1)) [(0, .ref b), (1, .ref x), (2, .ref (a 0)), (3, .ref o), (4, .int (nI i))] cells slots 1424 []) :
    J G ([modR K a (flat F) g P L0 M] ++ (outW K o lf :: cw)) [(0, .ref b), (1, .ref x), (2, .ref (a 0)), (3, .ref o), (4, .int (nI i))] cells slots 1330 [] := by
  refine J_aln C0 1 dL_law_1330 (kk := ?_)
  refine J_callVd C0 hW [modR K a (flat F) g P L0 M, outW K o lf] ([modR K a (flat F) g P L0 M] ++ (outW K o lf :: cw1)) gL_law_X4_stillIn dL_law_1331 0 0 hrec (hf := ⟨by show _ + 0 ≤ 601024; omega, by show _ + 0 ≤ 7293033; omega⟩) (kk := ?_)
  show J G _ _ _ _ _ [.int v]
  refine J_aln C0 2 dL_law_1334 (kk := ?_)
  refine J_perm (bs2 := (outW K o lf :: cw1) ++ [modR K a (flat F) g P L0 M]) List.perm_append_comm ?_
  refine J_callV C0 (wr := outW K o lf :: cw1) (rest := [.int v]) hm rfl gL_law_X5_stillIn dL_law_1335 0 0 (hf := ⟨by show _ + 0 + 0 ≤ 601024; omega, by show _ + 0 + 0 ≤ 7293033; omega⟩) (kk := fun rv w1 h1 => ?_)
  obtain ⟨F1, g1, P1, L1, M1, rfl, rfl, hΦ⟩ := h1
  show J G _ _ _ _ _ [.int v, .int v]
  refine J_icmpeq C0 1424 dL_law_1338 (kt := fun _ => ?_) (kf := fun q => absurd rfl q)
  refine J_perm (bs2 := [modR K a (flat F1) g1 P1 L1 M1] ++ (outW K o lf :: cw1)) List.perm_append_comm ?_
  exact kk F1 g1 P1 L1 M1 hΦ

theorem law_hidden {K : KT} {l : Launch} {G : JC} (C0 : Cx G K l cL_law 9 RL wsL_law room_1) {tl tg b L : Nat} {xs : Nat → Int32} (hX : FnlS G tl tg b L xs) (hL : L ≤ 2048) {x o : Nat} {a : Nat → Nat} {i cells slots : Nat} (hi : i + 3 < L) (hc : cells ≤ 600000) (hs : slots ≤ 7000000) {F : FF} {g P L0 : Nat → Int32} {M : FF} {cw cw1 : List va_W} {fs : List Value} (hrec : (cw.flatten)[0]? = some (x, .inr (4, fs))) {lf : Nat → Int64} {v : Int32} {Φ : FF → (Nat → Int32) → (Nat → Int32) → (Nat → Int32) → FF → Prop}
    (hW : Ct l K yX4_hidden wsX4_hidden rmX4_hidden [.ref x] cw (some (.int v)) cw1)
    (hm : CtP l K yX5_hidden wsX5_hidden rmX5_hidden [.ref (a 0)] [modR K a (flat F) g P L0 M] (fun r w => ∃ F1 g1 P1 L1 M1, r = some (.int v) ∧ w = [modR K a (flat F1) g1 P1 L1 M1] ∧ Φ F1 g1 P1 L1 M1))
    (kk : ∀ F1 g1 P1 L1 M1, Φ F1 g1 P1 L1 M1 → J G ([modR K a (flat F1) g1 P1 L1 M1] ++ (outW K o lf :: cw1)) [(0, .ref b), (1, .ref x), (2, .ref (a 0)), (3, .ref o), (4, .int (nI i))] cells slots 1424 []) :
    J G ([modR K a (flat F) g P L0 M] ++ (outW K o lf :: cw)) [(0, .ref b), (1, .ref x), (2, .ref (a 0)), (3, .ref o), (4, .int (nI i))] cells slots 1343 [] := by
  refine J_aln C0 1 dL_law_1343 (kk := ?_)
  refine J_callVd C0 hW [modR K a (flat F) g P L0 M, outW K o lf] ([modR K a (flat F) g P L0 M] ++ (outW K o lf :: cw1)) gL_law_X4_hidden dL_law_1344 0 0 hrec (hf := ⟨by show _ + 0 ≤ 601024; omega, by show _ + 0 ≤ 7293033; omega⟩) (kk := ?_)
  show J G _ _ _ _ _ [.int v]
  refine J_aln C0 2 dL_law_1347 (kk := ?_)
  refine J_perm (bs2 := (outW K o lf :: cw1) ++ [modR K a (flat F) g P L0 M]) List.perm_append_comm ?_
  refine J_callV C0 (wr := outW K o lf :: cw1) (rest := [.int v]) hm rfl gL_law_X5_hidden dL_law_1348 0 0 (hf := ⟨by show _ + 0 + 0 ≤ 601024; omega, by show _ + 0 + 0 ≤ 7293033; omega⟩) (kk := fun rv w1 h1 => ?_)
  obtain ⟨F1, g1, P1, L1, M1, rfl, rfl, hΦ⟩ := h1
  show J G _ _ _ _ _ [.int v, .int v]
  refine J_icmpeq C0 1424 dL_law_1351 (kt := fun _ => ?_) (kf := fun q => absurd rfl q)
  refine J_perm (bs2 := [modR K a (flat F1) g1 P1 L1 M1] ++ (outW K o lf :: cw1)) List.perm_append_comm ?_
  exact kk F1 g1 P1 L1 M1 hΦ

theorem law_neediest {K : KT} {l : Launch} {G : JC} (C0 : Cx G K l cL_law 9 RL wsL_law room_1) {tl tg b L : Nat} {xs : Nat → Int32} (hX : FnlS G tl tg b L xs) (hL : L ≤ 2048) {x o : Nat} {a : Nat → Nat} {i cells slots : Nat} (hi : i + 3 < L) (hc : cells ≤ 600000) (hs : slots ≤ 7000000) {F : FF} {g P L0 : Nat → Int32} {M : FF} {cw cw1 : List va_W} {fs : List Value} (hrec : (cw.flatten)[0]? = some (x, .inr (4, fs))) {lf : Nat → Int64} {v : Int32} {Φ : FF → (Nat → Int32) → (Nat → Int32) → (Nat → Int32) → FF → Prop}
    (hW : Ct l K yX4_neediest wsX4_neediest rmX4_neediest [.ref x] cw (some (.int v)) cw1)
    (hm : CtP l K yX5_neediest wsX5_neediest rmX5_neediest [.ref (a 0)] [modR K a (flat F) g P L0 M] (fun r w => ∃ F1 g1 P1 L1 M1, r = some (.int v) ∧ w = [modR K a (flat F1) g1 P1 L1 M1] ∧ Φ F1 g1 P1 L1 M1))
    (kk : ∀ F1 g1 P1 L1 M1, Φ F1 g1 P1 L1 M1 → J G ([modR K a (flat F1) g1 P1 L1 M1] ++ (outW K o lf :: cw1)) [(0, .ref b), (1, .ref x), (2, .ref (a 0)), (3, .ref o), (4, .int (nI i))] cells slots 1424 []) :
    J G ([modR K a (flat F) g P L0 M] ++ (outW K o lf :: cw)) [(0, .ref b), (1, .ref x), (2, .ref (a 0)), (3, .ref o), (4, .int (nI i))] cells slots 1356 [] := by
  refine J_aln C0 1 dL_law_1356 (kk := ?_)
  refine J_callVd C0 hW [modR K a (flat F) g P L0 M, outW K o lf] ([modR K a (flat F) g P L0 M] ++ (outW K o lf :: cw1)) gL_law_X4_neediest dL_law_1357 0 0 hrec (hf := ⟨by show _ + 0 ≤ 601024; omega, by show _ + 0 ≤ 7293033; omega⟩) (kk := ?_)
  show J G _ _ _ _ _ [.int v]
  refine J_aln C0 2 dL_law_1360 (kk := ?_)
  refine J_perm (bs2 := (outW K o lf :: cw1) ++ [modR K a (flat F) g P L0 M]) List.perm_append_comm ?_
  refine J_callV C0 (wr := outW K o lf :: cw1) (rest := [.int v]) hm rfl gL_law_X5_neediest dL_law_1361 0 0 (hf := ⟨by show _ + 0 + 0 ≤ 601024; omega, by show _ + 0 + 0 ≤ 7293033; omega⟩) (kk := fun rv w1 h1 => ?_)
  obtain ⟨F1, g1, P1, L1, M1, rfl, rfl, hΦ⟩ := h1
  show J G _ _ _ _ _ [.int v, .int v]
  refine J_icmpeq C0 1424 dL_law_1364 (kt := fun _ => ?_) (kf := fun q => absurd rfl q)
  refine J_perm (bs2 := [modR K a (flat F1) g1 P1 L1 M1] ++ (outW K o lf :: cw1)) List.perm_append_comm ?_
  exact kk F1 g1 P1 L1 M1 hΦ

theorem law_arrivedShare {K : KT} {l : Launch} {G : JC} (C0 : Cx G K l cL_law 9 RL wsL_law room_1) {tl tg b L : Nat} {xs : Nat → Int32} (hX : FnlS G tl tg b L xs) (hL : L ≤ 2048) {x o : Nat} {a : Nat → Nat} {i cells slots : Nat} (hi : i + 3 < L) (hc : cells ≤ 600000) (hs : slots ≤ 7000000) {F : FF} {g P L0 : Nat → Int32} {M : FF} {cw cw1 : List va_W} {fs : List Value} (hrec : (cw.flatten)[0]? = some (x, .inr (4, fs))) {lf : Nat → Int64} {v : UInt64} (hv : FP.dcmp v v = some .eq) {Φ : FF → (Nat → Int32) → (Nat → Int32) → (Nat → Int32) → FF → Prop}
    (hW : Ct l K yX4_arrivedShare wsX4_arrivedShare rmX4_arrivedShare [.ref x] cw (some (.double v)) cw1)
    (hm : CtP l K yX5_arrivedShare wsX5_arrivedShare rmX5_arrivedShare [.ref (a 0)] [modR K a (flat F) g P L0 M] (fun r w => ∃ F1 g1 P1 L1 M1, r = some (.double v) ∧ w = [modR K a (flat F1) g1 P1 L1 M1] ∧ Φ F1 g1 P1 L1 M1))
    (kk : ∀ F1 g1 P1 L1 M1, Φ F1 g1 P1 L1 M1 → J G ([modR K a (flat F1) g1 P1 L1 M1] ++ (outW K o lf :: cw1)) [(0, .ref b), (1, .ref x), (2, .ref (a 0)), (3, .ref o), (4, .int (nI i))] cells slots 1424 []) :
    J G ([modR K a (flat F) g P L0 M] ++ (outW K o lf :: cw)) [(0, .ref b), (1, .ref x), (2, .ref (a 0)), (3, .ref o), (4, .int (nI i))] cells slots 1369 [] := by
  refine J_aln C0 1 dL_law_1369 (kk := ?_)
  refine J_callVd C0 hW [modR K a (flat F) g P L0 M, outW K o lf] ([modR K a (flat F) g P L0 M] ++ (outW K o lf :: cw1)) gL_law_X4_arrivedShare dL_law_1370 0 0 hrec (hf := ⟨by show _ + 0 ≤ 601024; omega, by show _ + 0 ≤ 7293033; omega⟩) (kk := ?_)
  show J G _ _ _ _ _ [.double v]
  refine J_ds C0 [(5, .double v), (0, .ref b), (1, .ref x), (2, .ref (a 0)), (3, .ref o), (4, .int (nI i))] dL_law_1373 (kk := ?_)
  refine J_aln C0 3 dL_law_1375 (kk := ?_)
  refine J_perm (bs2 := (outW K o lf :: cw1) ++ [modR K a (flat F) g P L0 M]) List.perm_append_comm ?_
  refine J_callV C0 (wr := outW K o lf :: cw1) (rest := []) hm rfl gL_law_X5_arrivedShare dL_law_1376 0 0 (hf := ⟨by show _ + 0 + 0 ≤ 601024; omega, by show _ + 0 + 0 ≤ 7293033; omega⟩) (kk := fun rv w1 h1 => ?_)
  obtain ⟨F1, g1, P1, L1, M1, rfl, rfl, hΦ⟩ := h1
  show J G _ _ _ _ _ [.double v]
  refine J_ds C0 [(7, .double v), (5, .double v), (0, .ref b), (1, .ref x), (2, .ref (a 0)), (3, .ref o), (4, .int (nI i))] dL_law_1379 (kk := ?_)
  refine J_dl C0 1 dL_law_1381 (kk := ?_)
  refine J_dl C0 0 dL_law_1383 (kk := ?_)
  refine J_dcmp C0 dL_law_1385 (kk := ?_)
  rw [hv]
  refine J_ifeq C0 1407 dL_law_1386 (kt := fun _ => ?_) (kf := fun q => absurd rfl q)
  refine J_goto C0 1424 dL_law_1407 (kk := ?_)
  refine J_perm (bs2 := [modR K a (flat F1) g1 P1 L1 M1] ++ (outW K o lf :: cw1)) List.perm_append_comm ?_
  exact J_lv [2, 3, 4, 5, 6] (kk := kk F1 g1 P1 L1 M1 hΦ)

theorem law_digest {K : KT} {l : Launch} {G : JC} (C0 : Cx G K l cL_law 9 RL wsL_law room_1) {tl tg b L : Nat} {xs : Nat → Int32} (hX : FnlS G tl tg b L xs) (hL : L ≤ 2048) {x o : Nat} {a : Nat → Nat} {i cells slots : Nat} (hi : i + 3 < L) (hc : cells ≤ 600000) (hs : slots ≤ 7000000) {F : FF} {g P L0 : Nat → Int32} {M : FF} {cw cw1 : List va_W} {fs : List Value} (hrec : (cw.flatten)[0]? = some (x, .inr (4, fs))) {lf : Nat → Int64} {v : Int64} {Φ : FF → (Nat → Int32) → (Nat → Int32) → (Nat → Int32) → FF → Prop}
    (hW : Ct l K yX4_digest wsX4_digest rmX4_digest [.ref x] cw (some (.long v)) cw1)
    (hm : CtP l K yX5_digest wsX5_digest rmX5_digest [.ref (a 0)] [modR K a (flat F) g P L0 M] (fun r w => ∃ F1 g1 P1 L1 M1, r = some (.long v) ∧ w = [modR K a (flat F1) g1 P1 L1 M1] ∧ Φ F1 g1 P1 L1 M1))
    (kk : ∀ F1 g1 P1 L1 M1, Φ F1 g1 P1 L1 M1 → J G ([modR K a (flat F1) g1 P1 L1 M1] ++ (outW K o lf :: cw1)) [(0, .ref b), (1, .ref x), (2, .ref (a 0)), (3, .ref o), (4, .int (nI i))] cells slots 1424 []) :
    J G ([modR K a (flat F) g P L0 M] ++ (outW K o lf :: cw)) [(0, .ref b), (1, .ref x), (2, .ref (a 0)), (3, .ref o), (4, .int (nI i))] cells slots 1410 [] := by
  refine J_aln C0 1 dL_law_1410 (kk := ?_)
  refine J_callVd C0 hW [modR K a (flat F) g P L0 M, outW K o lf] ([modR K a (flat F) g P L0 M] ++ (outW K o lf :: cw1)) gL_law_X4_digest dL_law_1411 0 0 hrec (hf := ⟨by show _ + 0 ≤ 601024; omega, by show _ + 0 ≤ 7293033; omega⟩) (kk := ?_)
  show J G _ _ _ _ _ [.long v]
  refine J_aln C0 2 dL_law_1414 (kk := ?_)
  refine J_perm (bs2 := (outW K o lf :: cw1) ++ [modR K a (flat F) g P L0 M]) List.perm_append_comm ?_
  refine J_callV C0 (wr := outW K o lf :: cw1) (rest := [.long v]) hm rfl gL_law_X5_digest dL_law_1415 0 0 (hf := ⟨by show _ + 0 + 0 ≤ 601024; omega, by show _ + 0 + 0 ≤ 7293033; omega⟩) (kk := fun rv w1 h1 => ?_)
  obtain ⟨F1, g1, P1, L1, M1, rfl, rfl, hΦ⟩ := h1
  show J G _ _ _ _ _ [.long v, .long v]
  refine J_lcmp C0 dL_law_1418 (kk := ?_)
  rw [lg_same]
  refine J_ifeq C0 1424 dL_law_1419 (kt := fun _ => ?_) (kf := fun q => absurd rfl q)
  refine J_perm (bs2 := [modR K a (flat F1) g1 P1 L1 M1] ++ (outW K o lf :: cw1)) List.perm_append_comm ?_
  exact kk F1 g1 P1 L1 M1 hΦ
