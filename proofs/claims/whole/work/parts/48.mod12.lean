theorem dJxe99ae_isNaN_b9ae7_0 : decode cJxe99ae_isNaN_b9ae7 0 = .ok (.dload_n 0, 1) := by decide +kernel
theorem dJxe99ae_isNaN_b9ae7_1 : decode cJxe99ae_isNaN_b9ae7 1 = .ok (.dload_n 0, 1) := by decide +kernel
theorem dJxe99ae_isNaN_b9ae7_2 : decode cJxe99ae_isNaN_b9ae7 2 = .ok (.dcmp .l, 1) := by decide +kernel
theorem dJxe99ae_isNaN_b9ae7_3 : decode cJxe99ae_isNaN_b9ae7 3 = .ok (.ifCond .eq 7, 3) := by decide +kernel
theorem dJxe99ae_isNaN_b9ae7_6 : decode cJxe99ae_isNaN_b9ae7 6 = .ok (.iconst 1, 1) := by decide +kernel
theorem dJxe99ae_isNaN_b9ae7_7 : decode cJxe99ae_isNaN_b9ae7 7 = .ok (.goto 4, 3) := by decide +kernel
theorem dJxe99ae_isNaN_b9ae7_10 : decode cJxe99ae_isNaN_b9ae7 10 = .ok (.iconst 0, 1) := by decide +kernel
theorem dJxe99ae_isNaN_b9ae7_11 : decode cJxe99ae_isNaN_b9ae7 11 = .ok (.ireturn, 1) := by decide +kernel
set_option maxRecDepth 20000 in
theorem ggJxe99ae_doubleToLongBits_ccdee_Jxe99ae_isNaN_b9ae7 : GoodIn wsJxe99ae_doubleToLongBits_ccdee wsJxe99ae_isNaN_b9ae7 := goodIn_r _ [9] (by decide +kernel) (by decide +kernel)
set_option maxRecDepth 20000 in
theorem gJxe99ae_doubleToLongBits_ccdee_Jxe99ae_isNaN_b9ae7 : GoodIn wsJxe99ae_doubleToLongBits_ccdee (va_wsS RJxe99ae 122 yJxe99ae_isNaN_b9ae7 wsJxe99ae_isNaN_b9ae7) := goodIn_app (goodIn_of _ (by decide +kernel)) ggJxe99ae_doubleToLongBits_ccdee_Jxe99ae_isNaN_b9ae7
theorem dJxe99ae_doubleToLongBits_ccdee_0 : decode cJxe99ae_doubleToLongBits_ccdee 0 = .ok (.dload_n 0, 1) := by decide +kernel
theorem dJxe99ae_doubleToLongBits_ccdee_1 : decode cJxe99ae_doubleToLongBits_ccdee 1 = .ok (.invokestatic 122, 3) := by decide +kernel
theorem dJxe99ae_doubleToLongBits_ccdee_4 : decode cJxe99ae_doubleToLongBits_ccdee 4 = .ok (.ifCond .ne 8, 3) := by decide +kernel
theorem dJxe99ae_doubleToLongBits_ccdee_7 : decode cJxe99ae_doubleToLongBits_ccdee 7 = .ok (.dload_n 0, 1) := by decide +kernel
theorem dJxe99ae_doubleToLongBits_ccdee_8 : decode cJxe99ae_doubleToLongBits_ccdee 8 = .ok (.invokestatic 134, 3) := by decide +kernel
theorem dJxe99ae_doubleToLongBits_ccdee_11 : decode cJxe99ae_doubleToLongBits_ccdee 11 = .ok (.lreturn, 1) := by decide +kernel
theorem dJxe99ae_doubleToLongBits_ccdee_12 : decode cJxe99ae_doubleToLongBits_ccdee 12 = .ok (.ldc2_w 137, 3) := by decide +kernel
theorem dJxe99ae_doubleToLongBits_ccdee_15 : decode cJxe99ae_doubleToLongBits_ccdee 15 = .ok (.lreturn, 1) := by decide +kernel
section JB
variable {K : KT} {l : Launch} {cc : ByteArray} {nL : Nat} {own : String} {Ts : List Cond} {rm : Room} {G : JC} {bs : List va_W} {lv : List (Nat × Value)} {cells slots pc : Nat} {st : List Value}

theorem J_d2bits (C0 : Cx G K l cc nL own Ts rm) {index : Nat} {x : UInt64} (hlk : Cond.methodLink own index ⟨"java/lang/Double", "doubleToRawLongBits", "(D)J"⟩ ∈ Ts) (hnat : Cond.native ⟨"java/lang/Double", "doubleToRawLongBits", "(D)J"⟩ ∈ Ts) (hstat : Cond.static ⟨"java/lang/Double", "doubleToRawLongBits", "(D)J"⟩ ∈ Ts) (hini : Cond.initialized "java/lang/Double" ∈ Ts) (hdg : decode cc pc = .ok (.invokestatic index, 3)) (hfr : 1 ≤ rm.frames := by decide) (hlo : (st.map fun v => v.category).sum + 15 ≤ rm.locals := by exact Nat.le_of_ble_eq_true rfl) (kk : J G bs lv cells slots (pc + 3) (.long x.toInt64 :: st)) : J G bs lv cells slots (pc) (.double x :: st) := by
  obtain ⟨K, A, H0, nL', p, l, e, R, s, m, args, below, meth, c, Q⟩ := G
  obtain ⟨rfl, rfl, rfl, rfl, hx, hb, hml, ho, hts, ⟨hK, hN⟩, hA⟩ := C0
  intro H locs ls hP hD hS hl
  exact vn_d2l hx hb (by rw [hml]; exact hl.1.symm) ho (hts _ hlk) (hts _ hnat) (hts _ hstat) (hts _ hini) hfr hlo hdg (kk H locs ls hP hD hS hl)
end JB
theorem bits_eq (x : UInt64) : x.toInt64 = Int64.ofNat x.toNat := by
  apply Int64.toBitVec_inj.mp
  show x.toBitVec = BitVec.ofNat 64 x.toBitVec.toNat
  rw [BitVec.ofNat_toNat, BitVec.setWidth_eq]
abbrev rmJ_isNaN : Room := { frames := 0, cells := 0, slots := 0, locals := 0 }
abbrev rmJxe99ae_doubleToLongBits : Room := { frames := 1, cells := 0, slots := 0, locals := 40 }
theorem mJ_isNaN (l : Launch) (K : KT) {x : UInt64} {c : Nat} {q : Int} (h : V64 x = .fin false c q) : Ct l K yJxe99ae_isNaN_b9ae7 wsJxe99ae_isNaN_b9ae7 rmJ_isNaN [.double x] [] (some (.int (nI 0))) [] := by
  refine CtP_of (cc := cJxe99ae_isNaN_b9ae7) (nL := 2) (rt := some .boolean) (own := RJxe99ae) (lv0 := [(0, .double x)]) (by decide) rfl (Nat.le_of_ble_eq_true rfl) rfl rfl ?_
  intro G C0 hF _
  refine J_dln C0 0 dJxe99ae_isNaN_b9ae7_0 (kk := ?_)
  refine J_dln C0 0 dJxe99ae_isNaN_b9ae7_1 (kk := ?_)
  refine J_dcmp C0 dJxe99ae_isNaN_b9ae7_2 (kk := ?_)
  rw [cmp_self h]
  refine J_ifeq C0 10 dJxe99ae_isNaN_b9ae7_3 (kt := fun _ => ?_) (kf := fun c => absurd rfl c)
  refine J_ic C0 0 dJxe99ae_isNaN_b9ae7_10 (kk := ?_)
  exact J_zret C0 hF dJxe99ae_isNaN_b9ae7_11 (by decide) ⟨rfl, rfl⟩
theorem mJxe99ae_doubleToLongBits (l : Launch) (K : KT) {x : UInt64} {c : Nat} {q : Int} (h : V64 x = .fin false c q) : Ct l K yJxe99ae_doubleToLongBits_ccdee wsJxe99ae_doubleToLongBits_ccdee rmJxe99ae_doubleToLongBits [.double x] [] (some (.long (Int64.ofNat x.toNat))) [] := by
  refine CtP_of (cc := cJxe99ae_doubleToLongBits_ccdee) (nL := 2) (rt := some .long) (own := RJxe99ae) (lv0 := [(0, .double x)]) (by decide) rfl (Nat.le_of_ble_eq_true rfl) rfl rfl ?_
  intro G C0 hF _
  refine J_dln C0 0 dJxe99ae_doubleToLongBits_ccdee_0 (kk := ?_)
  refine J_callSd C0 (mJ_isNaN l K h) [] [] gJxe99ae_doubleToLongBits_ccdee_Jxe99ae_isNaN_b9ae7 dJxe99ae_doubleToLongBits_ccdee_1 1 (kk := ?_)
  show J G _ _ _ _ _ [.int (nI 0)]
  refine J_ifneN C0 12 (by omega) dJxe99ae_doubleToLongBits_ccdee_4 (kt := fun c => absurd rfl c) (kf := fun _ => ?_)
  refine J_dln C0 0 dJxe99ae_doubleToLongBits_ccdee_7 (kk := ?_)
  refine J_d2bits C0 (by decide +kernel) (by decide +kernel) (by decide +kernel) (by decide +kernel) dJxe99ae_doubleToLongBits_ccdee_8 (kk := ?_)
  exact J_lret C0 hF dJxe99ae_doubleToLongBits_ccdee_11 ⟨by rw [bits_eq], rfl⟩
theorem mixF_add (g : Nat → Int32) : ∀ a b i h, mixF g (a + b) i h = mixF g b (i + a) (mixF g a i h)
  | 0, b, i, h => by rw [Nat.zero_add]; rfl
  | a + 1, b, i, h => by
    rw [show a + 1 + b = (a + b) + 1 by omega]
    show mixF g (a + b) (i + 1) _ = _
    rw [mixF_add g a b (i + 1), show i + 1 + a = i + (a + 1) by omega]
    rfl
theorem mixF_cg {g g' : Nat → Int32} : ∀ q i j h, (∀ t, t < q → g (i + t) = g' (j + t)) → mixF g q i h = mixF g' q j h
  | 0, _, _, _, _ => rfl
  | q + 1, i, j, h, e => by
    show mixF g q (i + 1) (mixL h (g i).toInt64) = mixF g' q (j + 1) (mixL h (g' j).toInt64)
    rw [show g i = g' j from e 0 (by omega)]
    exact mixF_cg q (i + 1) (j + 1) _ (fun t ht => by
      have := e (t + 1) (by omega)
      rwa [show i + (t + 1) = i + 1 + t by omega, show j + (t + 1) = j + 1 + t by omega] at this)
theorem mix_flat (g : Nat → Nat → Int32) {m : Nat} (hm : 0 < m) : ∀ q i h, mixF (fun j => g (j / m) (j % m)) (m * q) (m * i) h = mix2 g m q i h
  | 0, _, _ => rfl
  | q + 1, i, h => by
    rw [show m * (q + 1) = m + m * q by rw [Nat.mul_add]; omega, mixF_add, show m * i + m = m * (i + 1) by rw [Nat.mul_add]; omega, mix_flat g hm q (i + 1)]
    show _ = mix2 g m q (i + 1) (mixF (g i) m 0 h)
    congr 1
    refine mixF_cg m (m * i) 0 h (fun t ht => ?_)
    show g ((m * i + t) / m) ((m * i + t) % m) = g i (0 + t)
    rw [Nat.mul_add_div hm, Nat.div_eq_of_lt ht, Nat.mul_add_mod, Nat.mod_eq_of_lt ht, Nat.zero_add]
    rfl
abbrev rmX5_digest : Room := { frames := 9, cells := 0, slots := 0, locals := 202 }
set_option maxHeartbeats 4000000 in
set_option maxRecDepth 100000 in
theorem mX5_digest (l : Launch) (K : KT) (a : Nat → Nat) (F : FF) (g P L : Nat → Int32) (M : FF) {B hn n : Nat} {N : Nat → Nat → Nat} (hv : InvN B F hn n N) (hB : B + 4000 < 2 ^ 30) {nt : Nat} (ht : M 0 1 = nI nt) (h60 : nt ≤ 60) (hs0 : (M 1 0).toInt64 = slotL (M 1 0)) (hs1 : (M 1 1).toInt64 = slotL (M 1 1)) {a9 b9 : Nat} (ha9 : sumS (F 5) 3 = nI a9) (hb9 : sumS (F 5) 3 + sumS (F 6) 3 = nI b9) (hab : a9 ≤ b9) (h31 : b9 < 2 ^ 31) : CtP l K yX5_digest wsX5_digest rmX5_digest [.ref (a 0)] [modR K a (flat F) g P L M] (fun r w => ∃ g2, r = some (.long (digL F (u2 M 0 2 (nI 0)) n hn nt a9 b9)) ∧ w = [modR K a (flat F) g2 P L (u2 M 0 2 (nI 0))]) := by
  refine CtP_of (cc := cX5_digest) (nL := 4) (rt := some .long) (own := RX5) (lv0 := [(0, .ref (a 0))]) (by decide) rfl (Nat.le_of_ble_eq_true rfl) rfl rfl ?_
  intro G C0 hF _
  have eh := hv.1.1
  have h4 := hv.1.2
  have n40 := hv.2.1.2
  obtain ⟨sc, sq, hvs⟩ := v_share hab h31
  have cl209 : Cond.constantLong RX5 209 31 ∈ wsX5_digest := by decide +kernel
  have f7 : Cond.fieldLink RX5 7 "CorkPermitsModel" "s" "[I" ∈ wsX5_digest := by decide +kernel
  have iX5 : ∀ w ∈ u_ws RX5 TX5 13, w ∈ wsX5_digest := by decide +kernel
  have f134 : Cond.fieldLink RX5 134 "CorkPermitsModel" "length" "I" ∈ wsX5_digest := by decide +kernel
  have f25 : Cond.fieldLink RX5 25 "CorkPermitsModel" "text" "[I" ∈ wsX5_digest := by decide +kernel
  have f28 : Cond.fieldLink RX5 28 "CorkPermitsModel" "thrown" "I" ∈ wsX5_digest := by decide +kernel
  have cl207 : Cond.constantLong RX5 207 3253 ∈ wsX5_digest := by decide +kernel
  have f22 : Cond.fieldLink RX5 22 "CorkPermitsModel" "has" "[I" ∈ wsX5_digest := by decide +kernel
  refine J_aln C0 0 dX5_digest_0 (kk := ?_)
  refine J_ic C0 0 dX5_digest_1 (kk := ?_)
  refine J_put C0 iX5 tyX5_ok nmX5 0 0 8 [modR K a (flat F) g P L (u2 M 0 2 (nI 0))] f28 dX5_digest_2 (hd := rfl) (kk := ?_)
  generalize hM1 : (u2 M 0 2 (nI 0)) = M1 at hF ⊢
  have ht1 : M1 0 1 = nI nt := by rw [← hM1]; exact ht
  have hs0 : (M1 1 0).toInt64 = slotL (M1 1 0) := by rw [← hM1]; exact hs0
  have hs1 : (M1 1 1).toInt64 = slotL (M1 1 1) := by rw [← hM1]; exact hs1
  clear ht
  have ht := ht1
  have l1 : ∀ (q w : Nat) (h : Int64), w + q = 12 → J G [modR K a (flat F) g P L M1] [(3, .int (nI 12)), (1, .long (mixF (countC F M1) q w h)), (0, .ref (a 0))] 0 0 36 [] → J G [modR K a (flat F) g P L M1] [(3, .int (nI w)), (1, .long h), (0, .ref (a 0))] 0 0 11 [] := by
    intro q
    induction q with
    | zero =>
      intro w h hq hk
      have hw : w = 12 := by omega
      subst hw
      refine J_iln C0 0 dX5_digest_11 (kk := ?_)
      refine J_bi C0 12 dX5_digest_12 (kk := ?_)
      refine J_icmpgeN C0 36 (by omega) (by omega) dX5_digest_14 (kt := fun c1 => ?_) (kf := fun c1 => ?_)
      · exact J_lv [0, 1, 2] rfl hk
      · exfalso; omega
    | succ q ih =>
      intro w h hq hk
      refine J_iln C0 0 dX5_digest_11 (kk := ?_)
      refine J_bi C0 12 dX5_digest_12 (kk := ?_)
      refine J_icmpgeN C0 36 (by omega) (by omega) dX5_digest_14 (kt := fun c1 => ?_) (kf := fun c1 => ?_)
      · exfalso; omega
      · refine J_ldl C0 cl209 dX5_digest_17 ?_
        refine J_lln C0 1 dX5_digest_20 (kk := ?_)
        refine J_lmul C0 dX5_digest_21 ?_
        refine J_aln C0 2 dX5_digest_22 (kk := ?_)
        refine J_iln C0 0 dX5_digest_23 (kk := ?_)
        refine J_callVd C0 (mX5_counted l K a F g P L M1 hv (w := w) (by omega)) [] [modR K a (flat F) g P L M1] gX5_digest_X5_counted dX5_digest_24 1 0 (kk := ?_)
        show J G _ _ _ _ _ [.int (countC F M1 w), .long (31 * h)]
        refine J_i2l C0 dX5_digest_27 ?_
        refine J_ladd C0 dX5_digest_28 ?_
        refine J_lsn C0 [(1, .long ((31 * h) + ((countC F M1 w).toInt64))), (3, .int (nI w)), (0, .ref (a 0))] dX5_digest_29 (kk := ?_)
        refine J_iincN C0 1 [(3, .int (nI (w + 1))), (1, .long ((31 * h) + ((countC F M1 w).toInt64))), (0, .ref (a 0))] dX5_digest_30 (kk := ?_)
        refine J_goto C0 11 dX5_digest_33 (kk := ?_)
        exact J_lv [0, 1, 2] rfl (ih (w + 1) ((31 * h) + ((countC F M1 w).toInt64)) (by omega) hk)
  have l2 : ∀ (q w : Nat) (h : Int64), w + q = 3 → J G [modR K a (flat F) g P L M1] [(3, .int (nI 3)), (1, .long (mixF (F 1) q w h)), (0, .ref (a 0))] 0 0 65 [] → J G [modR K a (flat F) g P L M1] [(3, .int (nI w)), (1, .long h), (0, .ref (a 0))] 0 0 38 [] := by
    intro q
    induction q with
    | zero =>
      intro w h hq hk
      have hw : w = 3 := by omega
      subst hw
      refine J_iln C0 0 dX5_digest_38 (kk := ?_)
      refine J_ic C0 3 dX5_digest_39 (kk := ?_)
      refine J_icmpgeN C0 65 (by omega) (by omega) dX5_digest_40 (kt := fun c1 => ?_) (kf := fun c1 => ?_)
      · exact J_lv [0, 1, 2] rfl hk
      · exfalso; omega
    | succ q ih =>
      intro w h hq hk
      refine J_iln C0 0 dX5_digest_38 (kk := ?_)
      refine J_ic C0 3 dX5_digest_39 (kk := ?_)
      refine J_icmpgeN C0 65 (by omega) (by omega) dX5_digest_40 (kt := fun c1 => ?_) (kf := fun c1 => ?_)
      · exfalso; omega
      · refine J_ldl C0 cl209 dX5_digest_43 ?_
        refine J_lln C0 1 dX5_digest_46 (kk := ?_)
        refine J_lmul C0 dX5_digest_47 ?_
        refine J_aln C0 2 dX5_digest_48 (kk := ?_)
        refine J_get C0 iX5 0 0 0 f7 dX5_digest_49 (kk := ?_)
        refine J_ic C0 5 dX5_digest_52 (kk := ?_)
        refine J_iln C0 0 dX5_digest_53 (kk := ?_)
        refine J_iaddN C0 dX5_digest_54 ?_
        refine J_iald C0 0 1 283 dX5_digest_55 (by omega) (v := (F 1 w)) (hv := (flat_1 F (j := 5 + w) (c := w) (by omega) (by omega)).trans rfl) (kk := ?_)
        refine J_i2l C0 dX5_digest_56 ?_
        refine J_ladd C0 dX5_digest_57 ?_
        refine J_lsn C0 [(1, .long ((31 * h) + ((F 1 w).toInt64))), (3, .int (nI w)), (0, .ref (a 0))] dX5_digest_58 (kk := ?_)
        refine J_iincN C0 1 [(3, .int (nI (w + 1))), (1, .long ((31 * h) + ((F 1 w).toInt64))), (0, .ref (a 0))] dX5_digest_59 (kk := ?_)
        refine J_goto C0 38 dX5_digest_62 (kk := ?_)
        exact J_lv [0, 1, 2] rfl (ih (w + 1) ((31 * h) + ((F 1 w).toInt64)) (by omega) hk)
  have l3 : ∀ (q w : Nat) (h : Int64), w + q = 21 → J G [modR K a (flat F) g P L M1] [(3, .int (nI 21)), (1, .long (mixF (fun j => kindC F (j / 7) (j % 7)) q w h)), (0, .ref (a 0))] 0 0 99 [] → J G [modR K a (flat F) g P L M1] [(3, .int (nI w)), (1, .long h), (0, .ref (a 0))] 0 0 67 [] := by
    intro q
    induction q with
    | zero =>
      intro w h hq hk
      have hw : w = 21 := by omega
      subst hw
      refine J_iln C0 0 dX5_digest_67 (kk := ?_)
      refine J_bi C0 21 dX5_digest_68 (kk := ?_)
      refine J_icmpgeN C0 99 (by omega) (by omega) dX5_digest_70 (kt := fun c1 => ?_) (kf := fun c1 => ?_)
      · exact J_lv [0, 1, 2] rfl hk
      · exfalso; omega
    | succ q ih =>
      intro w h hq hk
      obtain ⟨k, c, hc, rfl⟩ : ∃ k c, c < 7 ∧ w = 7 * k + c := ⟨w / 7, w % 7, by omega, by omega⟩
      have hk3 : k < 3 := by omega
      refine J_iln C0 0 dX5_digest_67 (kk := ?_)
      refine J_bi C0 21 dX5_digest_68 (kk := ?_)
      refine J_icmpgeN C0 99 (by omega) (by omega) dX5_digest_70 (kt := fun c1 => ?_) (kf := fun c1 => ?_)
      · exfalso; omega
      · refine J_ldl C0 cl209 dX5_digest_73 ?_
        refine J_lln C0 1 dX5_digest_76 (kk := ?_)
        refine J_lmul C0 dX5_digest_77 ?_
        refine J_aln C0 2 dX5_digest_78 (kk := ?_)
        refine J_iln C0 0 dX5_digest_79 (kk := ?_)
        refine J_bi C0 7 dX5_digest_80 (kk := ?_)
        refine J_idivV C0 (v := k) (by omega) (by omega) (by omega) (by omega) dX5_digest_82 ?_
        refine J_iln C0 0 dX5_digest_83 (kk := ?_)
        refine J_bi C0 7 dX5_digest_84 (kk := ?_)
        refine J_iremV C0 (v := c) (by omega) (by omega) (by omega) (by omega) dX5_digest_86 ?_
        refine J_callVd C0 (mX5_kindTold l K a F g P L M1 hv (k := k) (by omega) (w := c) (by omega)) [] [modR K a (flat F) g P L M1] gX5_digest_X5_kindTold dX5_digest_87 2 0 (kk := ?_)
        show J G _ _ _ _ _ [.int (kindC F k c), .long (31 * h)]
        refine J_i2l C0 dX5_digest_90 ?_
        refine J_ladd C0 dX5_digest_91 ?_
        refine J_lsn C0 [(1, .long ((31 * h) + ((kindC F k c).toInt64))), (3, .int (nI (7 * k + c))), (0, .ref (a 0))] dX5_digest_92 (kk := ?_)
        refine J_iincN C0 1 [(3, .int (nI (7 * k + c + 1))), (1, .long ((31 * h) + ((kindC F k c).toInt64))), (0, .ref (a 0))] dX5_digest_93 (kk := ?_)
        refine J_goto C0 67 dX5_digest_96 (kk := ?_)
        have e : kindC F ((7 * k + c) / 7) ((7 * k + c) % 7) = kindC F k c := by rw [show (7 * k + c) / 7 = k by omega, show (7 * k + c) % 7 = c by omega]
        exact J_lv [0, 1, 2] rfl (ih (7 * k + c + 1) ((31 * h) + ((kindC F k c).toInt64)) (by omega) (by rw [← e]; exact hk))
  have l4 : ∀ (q w : Nat) (h : Int64), w + q = 30 * hn → J G [modR K a (flat F) g P L M1] [(3, .int (nI (30 * hn))), (1, .long (mixF (fun j => placeC F (j / 10) (j % 10)) q w h)), (0, .ref (a 0))] 0 0 146 [] → J G [modR K a (flat F) g P L M1] [(3, .int (nI w)), (1, .long h), (0, .ref (a 0))] 0 0 101 [] := by
    intro q
    induction q with
    | zero =>
      intro w h hq hk
      have hw : w = 30 * hn := by omega
      subst hw
      refine J_iln C0 0 dX5_digest_101 (kk := ?_)
      refine J_bi C0 30 dX5_digest_102 (kk := ?_)
      refine J_aln C0 2 dX5_digest_104 (kk := ?_)
      refine J_get C0 iX5 0 0 0 f7 dX5_digest_105 (kk := ?_)
      refine J_ic C0 1 dX5_digest_108 (kk := ?_)
      refine J_iald C0 0 1 283 dX5_digest_109 (by omega) (v := (nI hn)) (hv := (flat_0 F (j := 1) (by decide)).trans eh) (kk := ?_)
      refine J_imulN C0 dX5_digest_110 ?_
      refine J_icmpgeN C0 146 (by omega) (by omega) dX5_digest_111 (kt := fun c1 => ?_) (kf := fun c1 => ?_)
      · exact J_lv [0, 1, 2] rfl hk
      · exfalso; omega
    | succ q ih =>
      intro w h hq hk
      obtain ⟨hh, k, c, hk3, hc, rfl⟩ : ∃ hh k c, k < 3 ∧ c < 10 ∧ w = 30 * hh + 10 * k + c := ⟨w / 30, w / 10 % 3, w % 10, by omega, by omega, by omega⟩
      have hh4 : hh < 4 := by omega
      refine J_iln C0 0 dX5_digest_101 (kk := ?_)
      refine J_bi C0 30 dX5_digest_102 (kk := ?_)
      refine J_aln C0 2 dX5_digest_104 (kk := ?_)
      refine J_get C0 iX5 0 0 0 f7 dX5_digest_105 (kk := ?_)
      refine J_ic C0 1 dX5_digest_108 (kk := ?_)
      refine J_iald C0 0 1 283 dX5_digest_109 (by omega) (v := (nI hn)) (hv := (flat_0 F (j := 1) (by decide)).trans eh) (kk := ?_)
      refine J_imulN C0 dX5_digest_110 ?_
      refine J_icmpgeN C0 146 (by omega) (by omega) dX5_digest_111 (kt := fun c1 => ?_) (kf := fun c1 => ?_)
      · exfalso; omega
      · refine J_ldl C0 cl209 dX5_digest_114 ?_
        refine J_lln C0 1 dX5_digest_117 (kk := ?_)
        refine J_lmul C0 dX5_digest_118 ?_
        refine J_aln C0 2 dX5_digest_119 (kk := ?_)
        refine J_iln C0 0 dX5_digest_120 (kk := ?_)
        refine J_bi C0 30 dX5_digest_121 (kk := ?_)
        refine J_idivV C0 (v := hh) (by omega) (by omega) (by omega) (by omega) dX5_digest_123 ?_
        refine J_iln C0 0 dX5_digest_124 (kk := ?_)
        refine J_bi C0 10 dX5_digest_125 (kk := ?_)
        refine J_idivV C0 (v := 3 * hh + k) (by omega) (by omega) (by omega) (by omega) dX5_digest_127 ?_
        refine J_ic C0 3 dX5_digest_128 (kk := ?_)
        refine J_iremV C0 (v := k) (by omega) (by omega) (by omega) (by omega) dX5_digest_129 ?_
        refine J_iln C0 0 dX5_digest_130 (kk := ?_)
        refine J_bi C0 10 dX5_digest_131 (kk := ?_)
        refine J_iremV C0 (v := c) (by omega) (by omega) (by omega) (by omega) dX5_digest_133 ?_
        refine J_callVd C0 (mX5_pairTold l K a F g P L M1 hv (by omega) (h := hh) (k := k) (by omega) (by omega) (w := c) (by omega)) [] [modR K a (flat F) g P L M1] gX5_digest_X5_pairTold dX5_digest_134 3 0 (kk := ?_)
        show J G _ _ _ _ _ [.int (placeC F (3 * hh + k) c), .long (31 * h)]
        refine J_i2l C0 dX5_digest_137 ?_
        refine J_ladd C0 dX5_digest_138 ?_
        refine J_lsn C0 [(1, .long ((31 * h) + ((placeC F (3 * hh + k) c).toInt64))), (3, .int (nI (30 * hh + 10 * k + c))), (0, .ref (a 0))] dX5_digest_139 (kk := ?_)
        refine J_iincN C0 1 [(3, .int (nI (30 * hh + 10 * k + c + 1))), (1, .long ((31 * h) + ((placeC F (3 * hh + k) c).toInt64))), (0, .ref (a 0))] dX5_digest_140 (kk := ?_)
        refine J_goto C0 101 dX5_digest_143 (kk := ?_)
        have e : placeC F ((30 * hh + 10 * k + c) / 10) ((30 * hh + 10 * k + c) % 10) = placeC F (3 * hh + k) c := by rw [show (30 * hh + 10 * k + c) / 10 = 3 * hh + k by omega, show (30 * hh + 10 * k + c) % 10 = c by omega]
        exact J_lv [0, 1, 2] rfl (ih (30 * hh + 10 * k + c + 1) ((31 * h) + ((placeC F (3 * hh + k) c).toInt64)) (by omega) (by rw [← e]; exact hk))
  have l5 : ∀ (q w : Nat) (h : Int64), w + q = 50 → J G [modR K a (flat F) g P L M1] [(3, .int (nI 50)), (1, .long (mixF (fun j => letC F n (j / 5) (j % 5)) q w h)), (0, .ref (a 0))] 0 0 178 [] → J G [modR K a (flat F) g P L M1] [(3, .int (nI w)), (1, .long h), (0, .ref (a 0))] 0 0 148 [] := by
    intro q
    induction q with
    | zero =>
      intro w h hq hk
      have hw : w = 50 := by omega
      subst hw
      refine J_iln C0 0 dX5_digest_148 (kk := ?_)
      refine J_bi C0 50 dX5_digest_149 (kk := ?_)
      refine J_icmpgeN C0 178 (by omega) (by omega) dX5_digest_151 (kt := fun c1 => ?_) (kf := fun c1 => ?_)
      · exact J_lv [0, 1, 2] rfl hk
      · exfalso; omega
    | succ q ih =>
      intro w h hq hk
      obtain ⟨r, c, hc, rfl⟩ : ∃ r c, c < 5 ∧ w = 5 * r + c := ⟨w / 5, w % 5, by omega, by omega⟩
      have hr10 : r < 10 := by omega
      refine J_iln C0 0 dX5_digest_148 (kk := ?_)
      refine J_bi C0 50 dX5_digest_149 (kk := ?_)
      refine J_icmpgeN C0 178 (by omega) (by omega) dX5_digest_151 (kt := fun c1 => ?_) (kf := fun c1 => ?_)
      · exfalso; omega
      · refine J_ldl C0 cl209 dX5_digest_154 ?_
        refine J_lln C0 1 dX5_digest_157 (kk := ?_)
        refine J_lmul C0 dX5_digest_158 ?_
        refine J_aln C0 2 dX5_digest_159 (kk := ?_)
        refine J_iln C0 0 dX5_digest_160 (kk := ?_)
        refine J_ic C0 5 dX5_digest_161 (kk := ?_)
        refine J_idivV C0 (v := r) (by omega) (by omega) (by omega) (by omega) dX5_digest_162 ?_
        refine J_iln C0 0 dX5_digest_163 (kk := ?_)
        refine J_ic C0 5 dX5_digest_164 (kk := ?_)
        refine J_iremV C0 (v := c) (by omega) (by omega) (by omega) (by omega) dX5_digest_165 ?_
        refine J_callVd C0 (mX5_letterTold l K a F g P L M1 (n := n) (r := r) hv.2.1.1 hv.2.1.2 (by omega) (w := c) (by omega)) [] [modR K a (flat F) g P L M1] gX5_digest_X5_letterTold dX5_digest_166 2 0 (kk := ?_)
        show J G _ _ _ _ _ [.int (letC F n r c), .long (31 * h)]
        refine J_i2l C0 dX5_digest_169 ?_
        refine J_ladd C0 dX5_digest_170 ?_
        refine J_lsn C0 [(1, .long ((31 * h) + ((letC F n r c).toInt64))), (3, .int (nI (5 * r + c))), (0, .ref (a 0))] dX5_digest_171 (kk := ?_)
        refine J_iincN C0 1 [(3, .int (nI (5 * r + c + 1))), (1, .long ((31 * h) + ((letC F n r c).toInt64))), (0, .ref (a 0))] dX5_digest_172 (kk := ?_)
        refine J_goto C0 148 dX5_digest_175 (kk := ?_)
        have e : letC F n ((5 * r + c) / 5) ((5 * r + c) % 5) = letC F n r c := by rw [show (5 * r + c) / 5 = r by omega, show (5 * r + c) % 5 = c by omega]
        exact J_lv [0, 1, 2] rfl (ih (5 * r + c + 1) ((31 * h) + ((letC F n r c).toInt64)) (by omega) (by rw [← e]; exact hk))
  have l6 : ∀ (q w : Nat) (h : Int64) (g1 : Nat → Int32), w + q = 4 → (∀ g1 : Nat → Int32, J G [modR K a (flat F) g1 P L M1] [(3, .int (nI 4)), (1, .long (mixF (foreC F (ticksC 12 F)) q w h)), (0, .ref (a 0))] 0 0 206 []) → J G [modR K a (flat F) g1 P L M1] [(3, .int (nI w)), (1, .long h), (0, .ref (a 0))] 0 0 180 [] := by
    intro q
    induction q with
    | zero =>
      intro w h g1 hq hk
      have hw : w = 4 := by omega
      subst hw
      refine J_iln C0 0 dX5_digest_180 (kk := ?_)
      refine J_ic C0 4 dX5_digest_181 (kk := ?_)
      refine J_icmpgeN C0 206 (by omega) (by omega) dX5_digest_182 (kt := fun c1 => ?_) (kf := fun c1 => ?_)
      · exact J_lv [0, 1, 2] rfl (hk g1)
      · exfalso; omega
    | succ q ih =>
      intro w h g1 hq hk
      refine J_iln C0 0 dX5_digest_180 (kk := ?_)
      refine J_ic C0 4 dX5_digest_181 (kk := ?_)
      refine J_icmpgeN C0 206 (by omega) (by omega) dX5_digest_182 (kt := fun c1 => ?_) (kf := fun c1 => ?_)
      · exfalso; omega
      · refine J_ldl C0 cl209 dX5_digest_185 ?_
        refine J_lln C0 1 dX5_digest_188 (kk := ?_)
        refine J_lmul C0 dX5_digest_189 ?_
        refine J_aln C0 2 dX5_digest_190 (kk := ?_)
        refine J_bi C0 12 dX5_digest_191 (kk := ?_)
        refine J_iln C0 0 dX5_digest_193 (kk := ?_)
        refine J_callVd C0 (mX5_passed l K a F g1 P L M1 hv (t := 12) (by omega) (by omega) (w := w) (by omega)) [] [modR K a (flat F) (cpR (flat F) g1 0 0) P L M1] gX5_digest_X5_passed dX5_digest_194 2 0 (kk := ?_)
        show J G _ _ _ _ _ [.int (foreC F (ticksC 12 F) w), .long (31 * h)]
        refine J_i2l C0 dX5_digest_197 ?_
        refine J_ladd C0 dX5_digest_198 ?_
        refine J_lsn C0 [(1, .long ((31 * h) + ((foreC F (ticksC 12 F) w).toInt64))), (3, .int (nI w)), (0, .ref (a 0))] dX5_digest_199 (kk := ?_)
        refine J_iincN C0 1 [(3, .int (nI (w + 1))), (1, .long ((31 * h) + ((foreC F (ticksC 12 F) w).toInt64))), (0, .ref (a 0))] dX5_digest_200 (kk := ?_)
        refine J_goto C0 180 dX5_digest_203 (kk := ?_)
        exact J_lv [0, 1, 2] rfl (ih (w + 1) ((31 * h) + ((foreC F (ticksC 12 F) w).toInt64)) (cpR (flat F) g1 0 0) (by omega) hk)
  have l7 : ∀ (g2 : Nat → Int32) (q w : Nat) (h : Int64), w + q = nt → J G [modR K a (flat F) g2 P L M1] [(3, .int (nI nt)), (1, .long (mixF (M1 2) q w h)), (0, .ref (a 0))] 0 0 318 [] → J G [modR K a (flat F) g2 P L M1] [(3, .int (nI w)), (1, .long h), (0, .ref (a 0))] 0 0 290 [] := by
    intro g2 q
    induction q with
    | zero =>
      intro w h hq hk
      have hw : nt = w := by omega
      subst hw
      refine J_iln C0 0 dX5_digest_290 (kk := ?_)
      refine J_aln C0 2 dX5_digest_291 (kk := ?_)
      refine J_get C0 iX5 0 0 7 f134 dX5_digest_292 (v := .int (nI nt)) (hv := congrArg (fun z => some (Value.int z)) ht) (kk := ?_)
      refine J_icmpgeN C0 318 (by omega) (by omega) dX5_digest_295 (kt := fun c1 => ?_) (kf := fun c1 => ?_)
      · exact J_lv [0, 1, 2] rfl hk
      · exfalso; omega
    | succ q ih =>
      intro w h hq hk
      refine J_iln C0 0 dX5_digest_290 (kk := ?_)
      refine J_aln C0 2 dX5_digest_291 (kk := ?_)
      refine J_get C0 iX5 0 0 7 f134 dX5_digest_292 (v := .int (nI nt)) (hv := congrArg (fun z => some (Value.int z)) ht) (kk := ?_)
      refine J_icmpgeN C0 318 (by omega) (by omega) dX5_digest_295 (kt := fun c1 => ?_) (kf := fun c1 => ?_)
      · exfalso; omega
      · refine J_ldl C0 cl209 dX5_digest_298 ?_
        refine J_lln C0 1 dX5_digest_301 (kk := ?_)
        refine J_lmul C0 dX5_digest_302 ?_
        refine J_aln C0 2 dX5_digest_303 (kk := ?_)
        refine J_get C0 iX5 0 0 6 f25 dX5_digest_304 (kk := ?_)
        refine J_iln C0 0 dX5_digest_307 (kk := ?_)
        refine J_iald C0 0 6 60 dX5_digest_308 (by omega) (kk := ?_)
        refine J_i2l C0 dX5_digest_309 ?_
        refine J_ladd C0 dX5_digest_310 ?_
        refine J_lsn C0 [(1, .long ((31 * h) + ((M1 2 w).toInt64))), (3, .int (nI w)), (0, .ref (a 0))] dX5_digest_311 (kk := ?_)
        refine J_iincN C0 1 [(3, .int (nI (w + 1))), (1, .long ((31 * h) + ((M1 2 w).toInt64))), (0, .ref (a 0))] dX5_digest_312 (kk := ?_)
        refine J_goto C0 290 dX5_digest_315 (kk := ?_)
        exact J_lv [0, 1, 2] rfl (ih (w + 1) ((31 * h) + ((M1 2 w).toInt64)) (by omega) hk)
  have hfin : mixF (M1 2) nt 0 ((31 * ((31 * ((31 * ((31 * ((31 * ((31 * ((31 * (mixF (foreC F (ticksC 12 F)) 4 0 (mixF (fun j => letC F n (j / 5) (j % 5)) 50 0 (mixF (fun j => placeC F (j / 10) (j % 10)) (30 * hn) 0 (mixF (fun j => kindC F (j / 7) (j % 7)) 21 0 (mixF (F 1) 3 0 (mixF (countC F M1) 12 0 3253))))))) + (((stillR 201 0 F).1).toInt64))) + ((sumS (F 10) 12 - sumS (F 8) 12).toInt64))) + ((neC F hn 0 (-1) (nI 0)).toInt64))) + (Int64.ofNat (shareN a9 b9).toNat))) + ((M1 1 0).toInt64))) + ((M1 1 1).toInt64))) + ((nI nt).toInt64)) = digL F M1 n hn nt a9 b9 := by
    have k3 : ∀ h, mixF (fun j => kindC F (j / 7) (j % 7)) 21 0 h = mix2 (kindC F) 7 3 0 h := fun h => mix_flat (kindC F) (by decide) 3 0 h
    have k4 : ∀ h, mixF (fun j => placeC F (j / 10) (j % 10)) (30 * hn) 0 h = mix2 (placeC F) 10 (hn * 3) 0 h := fun h => by
      have := mix_flat (placeC F) (m := 10) (by decide) (hn * 3) 0 h
      rwa [show 10 * (hn * 3) = 30 * hn by omega] at this
    have k5 : ∀ h, mixF (fun j => letC F n (j / 5) (j % 5)) 50 0 h = mix2 (letC F n) 5 10 0 h := fun h => mix_flat (letC F n) (by decide) 10 0 h
    rw [k3, k4, k5, hs0, hs1]
    rfl
  refine J_ldl C0 cl207 dX5_digest_5 ?_
  refine J_lsn C0 [(1, .long 3253), (0, .ref (a 0))] dX5_digest_8 (kk := ?_)
  refine J_ic C0 0 dX5_digest_9 (kk := ?_)
  refine J_isn C0 [(3, .int (nI 0)), (1, .long 3253), (0, .ref (a 0))] dX5_digest_10 (kk := ?_)
  refine J_lv [0, 1, 2] rfl (l1 12 0 3253 rfl ?_)
  refine J_ic C0 0 dX5_digest_36 (kk := ?_)
  refine J_isn C0 [(3, .int (nI 0)), (1, .long (mixF (countC F M1) 12 0 3253)), (0, .ref (a 0))] dX5_digest_37 (kk := ?_)
  refine J_lv [0, 1, 2] rfl (l2 3 0 _ (by omega) ?_)
  refine J_ic C0 0 dX5_digest_65 (kk := ?_)
  refine J_isn C0 [(3, .int (nI 0)), (1, .long (mixF (F 1) 3 0 (mixF (countC F M1) 12 0 3253))), (0, .ref (a 0))] dX5_digest_66 (kk := ?_)
  refine J_lv [0, 1, 2] rfl (l3 21 0 _ (by omega) ?_)
  refine J_ic C0 0 dX5_digest_99 (kk := ?_)
  refine J_isn C0 [(3, .int (nI 0)), (1, .long (mixF (fun j => kindC F (j / 7) (j % 7)) 21 0 (mixF (F 1) 3 0 (mixF (countC F M1) 12 0 3253)))), (0, .ref (a 0))] dX5_digest_100 (kk := ?_)
  refine J_lv [0, 1, 2] rfl (l4 (30 * hn) 0 _ (by omega) ?_)
  refine J_ic C0 0 dX5_digest_146 (kk := ?_)
  refine J_isn C0 [(3, .int (nI 0)), (1, .long (mixF (fun j => placeC F (j / 10) (j % 10)) (30 * hn) 0 (mixF (fun j => kindC F (j / 7) (j % 7)) 21 0 (mixF (F 1) 3 0 (mixF (countC F M1) 12 0 3253))))), (0, .ref (a 0))] dX5_digest_147 (kk := ?_)
  refine J_lv [0, 1, 2] rfl (l5 50 0 _ (by omega) ?_)
  refine J_ic C0 0 dX5_digest_178 (kk := ?_)
  refine J_isn C0 [(3, .int (nI 0)), (1, .long (mixF (fun j => letC F n (j / 5) (j % 5)) 50 0 (mixF (fun j => placeC F (j / 10) (j % 10)) (30 * hn) 0 (mixF (fun j => kindC F (j / 7) (j % 7)) 21 0 (mixF (F 1) 3 0 (mixF (countC F M1) 12 0 3253)))))), (0, .ref (a 0))] dX5_digest_179 (kk := ?_)
  refine J_lv [0, 1, 2] rfl (l6 4 0 _ g (by omega) (fun g1 => ?_))
  refine J_ldl C0 cl209 dX5_digest_206 ?_
  refine J_ldl C0 cl209 dX5_digest_209 ?_
  refine J_ldl C0 cl209 dX5_digest_212 ?_
  refine J_lln C0 1 dX5_digest_215 (kk := ?_)
  refine J_lmul C0 dX5_digest_216 ?_
  refine J_aln C0 2 dX5_digest_217 (kk := ?_)
  refine J_callVd C0 (mX5_still l K a F g1 P L M1 hv (by omega)) [] [modR K a (flat F) (cpR (flat F) g1 0 0) P L M1] gX5_digest_X5_still dX5_digest_218 0 0 (kk := ?_)
  show J G _ _ _ _ _ [.int ((stillR 201 0 F).1), .long (31 * (mixF (foreC F (ticksC 12 F)) 4 0 (mixF (fun j => letC F n (j / 5) (j % 5)) 50 0 (mixF (fun j => placeC F (j / 10) (j % 10)) (30 * hn) 0 (mixF (fun j => kindC F (j / 7) (j % 7)) 21 0 (mixF (F 1) 3 0 (mixF (countC F M1) 12 0 3253))))))), .long 31, .long 31]
  refine J_i2l C0 dX5_digest_221 ?_
  refine J_ladd C0 dX5_digest_222 ?_
  refine J_lmul C0 dX5_digest_223 ?_
  refine J_aln C0 2 dX5_digest_224 (kk := ?_)
  refine J_callVd C0 (mX5_unknown l K a F (cpR (flat F) g1 0 0) P L M1 hv) [] [modR K a (flat F) (cpR (flat F) g1 0 0) P L M1] gX5_digest_X5_unknown dX5_digest_225 0 0 (kk := ?_)
  show J G _ _ _ _ _ [.int (sumS (F 10) 12 - sumS (F 8) 12), .long (31 * ((31 * (mixF (foreC F (ticksC 12 F)) 4 0 (mixF (fun j => letC F n (j / 5) (j % 5)) 50 0 (mixF (fun j => placeC F (j / 10) (j % 10)) (30 * hn) 0 (mixF (fun j => kindC F (j / 7) (j % 7)) 21 0 (mixF (F 1) 3 0 (mixF (countC F M1) 12 0 3253))))))) + (((stillR 201 0 F).1).toInt64))), .long 31]
  refine J_i2l C0 dX5_digest_228 ?_
  refine J_ladd C0 dX5_digest_229 ?_
  refine J_lmul C0 dX5_digest_230 ?_
  refine J_aln C0 2 dX5_digest_231 (kk := ?_)
  refine J_callVd C0 (mX5_needy l K a F (cpR (flat F) g1 0 0) P L M1 hv) [] [modR K a (flat F) (cpR (flat F) g1 0 0) P L M1] gX5_digest_X5_needy dX5_digest_232 0 0 (kk := ?_)
  show J G _ _ _ _ _ [.int (neC F hn 0 (-1) (nI 0)), .long (31 * ((31 * ((31 * (mixF (foreC F (ticksC 12 F)) 4 0 (mixF (fun j => letC F n (j / 5) (j % 5)) 50 0 (mixF (fun j => placeC F (j / 10) (j % 10)) (30 * hn) 0 (mixF (fun j => kindC F (j / 7) (j % 7)) 21 0 (mixF (F 1) 3 0 (mixF (countC F M1) 12 0 3253))))))) + (((stillR 201 0 F).1).toInt64))) + ((sumS (F 10) 12 - sumS (F 8) 12).toInt64)))]
  refine J_i2l C0 dX5_digest_235 ?_
  refine J_ladd C0 dX5_digest_236 ?_
  refine J_lsn C0 [(1, .long ((31 * ((31 * ((31 * (mixF (foreC F (ticksC 12 F)) 4 0 (mixF (fun j => letC F n (j / 5) (j % 5)) 50 0 (mixF (fun j => placeC F (j / 10) (j % 10)) (30 * hn) 0 (mixF (fun j => kindC F (j / 7) (j % 7)) 21 0 (mixF (F 1) 3 0 (mixF (countC F M1) 12 0 3253))))))) + (((stillR 201 0 F).1).toInt64))) + ((sumS (F 10) 12 - sumS (F 8) 12).toInt64))) + ((neC F hn 0 (-1) (nI 0)).toInt64))), (3, .int (nI 4)), (0, .ref (a 0))] dX5_digest_237 (kk := ?_)
  refine J_ldl C0 cl209 dX5_digest_238 ?_
  refine J_lln C0 0 dX5_digest_241 (kk := ?_)
  refine J_lmul C0 dX5_digest_242 ?_
  refine J_aln C0 2 dX5_digest_243 (kk := ?_)
  refine J_callVd C0 (mX5_share l K a F (cpR (flat F) g1 0 0) P L M1 ha9 hb9 hab h31) [] [modR K a (flat F) (cpR (flat F) g1 0 0) P L M1] gX5_digest_X5_share dX5_digest_244 0 0 (kk := ?_)
  show J G _ _ _ _ _ [.double (shareN a9 b9), .long (31 * ((31 * ((31 * ((31 * (mixF (foreC F (ticksC 12 F)) 4 0 (mixF (fun j => letC F n (j / 5) (j % 5)) 50 0 (mixF (fun j => placeC F (j / 10) (j % 10)) (30 * hn) 0 (mixF (fun j => kindC F (j / 7) (j % 7)) 21 0 (mixF (F 1) 3 0 (mixF (countC F M1) 12 0 3253))))))) + (((stillR 201 0 F).1).toInt64))) + ((sumS (F 10) 12 - sumS (F 8) 12).toInt64))) + ((neC F hn 0 (-1) (nI 0)).toInt64)))]
  refine J_callSd C0 (mJxe99ae_doubleToLongBits l K hvs) [modR K a (flat F) (cpR (flat F) g1 0 0) P L M1] [modR K a (flat F) (cpR (flat F) g1 0 0) P L M1] gX5_digest_Jxe99ae_doubleToLongBits_ccdee dX5_digest_247 1 (kk := ?_)
  show J G _ _ _ _ _ [.long (Int64.ofNat (shareN a9 b9).toNat), .long (31 * ((31 * ((31 * ((31 * (mixF (foreC F (ticksC 12 F)) 4 0 (mixF (fun j => letC F n (j / 5) (j % 5)) 50 0 (mixF (fun j => placeC F (j / 10) (j % 10)) (30 * hn) 0 (mixF (fun j => kindC F (j / 7) (j % 7)) 21 0 (mixF (F 1) 3 0 (mixF (countC F M1) 12 0 3253))))))) + (((stillR 201 0 F).1).toInt64))) + ((sumS (F 10) 12 - sumS (F 8) 12).toInt64))) + ((neC F hn 0 (-1) (nI 0)).toInt64)))]
  refine J_ladd C0 dX5_digest_250 ?_
  refine J_lsn C0 [(1, .long ((31 * ((31 * ((31 * ((31 * (mixF (foreC F (ticksC 12 F)) 4 0 (mixF (fun j => letC F n (j / 5) (j % 5)) 50 0 (mixF (fun j => placeC F (j / 10) (j % 10)) (30 * hn) 0 (mixF (fun j => kindC F (j / 7) (j % 7)) 21 0 (mixF (F 1) 3 0 (mixF (countC F M1) 12 0 3253))))))) + (((stillR 201 0 F).1).toInt64))) + ((sumS (F 10) 12 - sumS (F 8) 12).toInt64))) + ((neC F hn 0 (-1) (nI 0)).toInt64))) + (Int64.ofNat (shareN a9 b9).toNat))), (3, .int (nI 4)), (0, .ref (a 0))] dX5_digest_251 (kk := ?_)
  refine J_ldl C0 cl209 dX5_digest_252 ?_
  refine J_ldl C0 cl209 dX5_digest_255 ?_
  refine J_ldl C0 cl209 dX5_digest_258 ?_
  refine J_lln C0 0 dX5_digest_261 (kk := ?_)
  refine J_lmul C0 dX5_digest_262 ?_
  refine J_aln C0 2 dX5_digest_263 (kk := ?_)
  refine J_get C0 iX5 0 0 5 f22 dX5_digest_264 (kk := ?_)
  refine J_ic C0 0 dX5_digest_267 (kk := ?_)
  refine J_iald C0 0 5 2 dX5_digest_268 (by omega) (kk := ?_)
  refine J_i2l C0 dX5_digest_269 ?_
  refine J_ladd C0 dX5_digest_270 ?_
  refine J_lmul C0 dX5_digest_271 ?_
  refine J_aln C0 2 dX5_digest_272 (kk := ?_)
  refine J_get C0 iX5 0 0 5 f22 dX5_digest_273 (kk := ?_)
  refine J_ic C0 1 dX5_digest_276 (kk := ?_)
  refine J_iald C0 0 5 2 dX5_digest_277 (by omega) (kk := ?_)
  refine J_i2l C0 dX5_digest_278 ?_
  refine J_ladd C0 dX5_digest_279 ?_
  refine J_lmul C0 dX5_digest_280 ?_
  refine J_aln C0 2 dX5_digest_281 (kk := ?_)
  refine J_get C0 iX5 0 0 7 f134 dX5_digest_282 (v := .int (nI nt)) (hv := congrArg (fun z => some (Value.int z)) ht) (kk := ?_)
  refine J_i2l C0 dX5_digest_285 ?_
  refine J_ladd C0 dX5_digest_286 ?_
  refine J_lsn C0 [(1, .long ((31 * ((31 * ((31 * ((31 * ((31 * ((31 * ((31 * (mixF (foreC F (ticksC 12 F)) 4 0 (mixF (fun j => letC F n (j / 5) (j % 5)) 50 0 (mixF (fun j => placeC F (j / 10) (j % 10)) (30 * hn) 0 (mixF (fun j => kindC F (j / 7) (j % 7)) 21 0 (mixF (F 1) 3 0 (mixF (countC F M1) 12 0 3253))))))) + (((stillR 201 0 F).1).toInt64))) + ((sumS (F 10) 12 - sumS (F 8) 12).toInt64))) + ((neC F hn 0 (-1) (nI 0)).toInt64))) + (Int64.ofNat (shareN a9 b9).toNat))) + ((M1 1 0).toInt64))) + ((M1 1 1).toInt64))) + ((nI nt).toInt64))), (3, .int (nI 4)), (0, .ref (a 0))] dX5_digest_287 (kk := ?_)
  refine J_ic C0 0 dX5_digest_288 (kk := ?_)
  refine J_isn C0 [(3, .int (nI 0)), (1, .long ((31 * ((31 * ((31 * ((31 * ((31 * ((31 * ((31 * (mixF (foreC F (ticksC 12 F)) 4 0 (mixF (fun j => letC F n (j / 5) (j % 5)) 50 0 (mixF (fun j => placeC F (j / 10) (j % 10)) (30 * hn) 0 (mixF (fun j => kindC F (j / 7) (j % 7)) 21 0 (mixF (F 1) 3 0 (mixF (countC F M1) 12 0 3253))))))) + (((stillR 201 0 F).1).toInt64))) + ((sumS (F 10) 12 - sumS (F 8) 12).toInt64))) + ((neC F hn 0 (-1) (nI 0)).toInt64))) + (Int64.ofNat (shareN a9 b9).toNat))) + ((M1 1 0).toInt64))) + ((M1 1 1).toInt64))) + ((nI nt).toInt64))), (0, .ref (a 0))] dX5_digest_289 (kk := ?_)
  refine J_lv [0, 1, 2] rfl (l7 _ nt 0 _ (by omega) ?_)
  refine J_lln C0 1 dX5_digest_318 (kk := ?_)
  exact J_lret C0 hF dX5_digest_319 ⟨_, congrArg (fun z => some (Value.long z)) hfin, rfl⟩

