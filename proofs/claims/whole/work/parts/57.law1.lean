/-! the law's static methods, one by one -/
theorem wL_house {K : KT} (l : Launch) {b o : Nat} {w0 w1 : List va_W} {fs : List Value} (lf : Nat → Int64) {rmc : Room} {tl tg : Nat} (hrec : (w0.flatten)[0]? = some (b, .inr (4, fs))) (hR : rmc.frames + 1 ≤ 9 ∧ 8 + (1 + 11) + rmc.locals ≤ 250 ∧ rmc.cells ≤ 1 ∧ rmc.slots ≤ 6) {r : Int32} (hM : CtL l K yX4_house wsX4_house rmc [.ref b] w0 (some (.int r)) w1 tl tg) : CtW l K yL_house wsL_house rmL [.ref b, .ref o] (outW K o lf :: w0) (some (.int (nI 0))) (outW K o (vp_updL lf 0 r.toInt64) :: w1) tl tg := by
  refine CtW_of (cc := cL_house) (nL := 3) (rt := some .int) (hh := [(0, 8, 11, 13)]) (own := RL) (lv0 := [(0, .ref b), (1, .ref o)]) (by decide) rfl (Nat.le_of_ble_eq_true rfl) rfl rfl ?_
  intro G C0 hF hX
  refine J_aln C0 1 dL_house_0 (kk := ?_)
  refine J_ic C0 0 dL_house_1 (kk := ?_)
  refine J_aln C0 0 dL_house_2 (kk := ?_)
  refine J_callVL C0 hX hM [outW K o lf] gL_house_X4_house dL_house_3 0 0 hrec (hR := ⟨hR.1, hR.2.1⟩) (hf := ⟨by rw [Nat.zero_add]; exact hR.2.2.1, by rw [Nat.zero_add]; exact hR.2.2.2⟩) (kk := ?_)
  show J G (outW K o lf :: w1) _ _ _ _ [.int r, .int (nI 0), .ref o]
  refine J_i2l C0 dL_house_6 (kk := ?_)
  refine J_last C0 0 0 1 (outW K o (vp_updL lf 0 r.toInt64) :: w1) dL_house_7 (by decide) (kk := ?_)
  refine J_goto C0 14 dL_house_8 (kk := ?_)
  refine J_ic C0 0 dL_house_14 (kk := ?_)
  exact J_iret C0 hF dL_house_15 ⟨rfl, rfl⟩ (by rw [Nat.zero_add]; exact hR.2.2.1) (by rw [Nat.zero_add]; exact hR.2.2.2)

theorem wL_house_t1 {K : KT} (l : Launch) {b o : Nat} {w0 : List va_W} {fs : List Value} (lf : Nat → Int64) {rmc : Room} {tl tg : Nat} (hrec : (w0.flatten)[0]? = some (b, .inr (4, fs))) (hR : rmc.frames + 1 ≤ 9 ∧ 8 + (1 + 11) + rmc.locals ≤ 250 ∧ rmc.cells ≤ 1 ∧ rmc.slots ≤ 6) (hM : CtTL l K yX4_house wsX4_house rmc [.ref b] w0 "java/lang/IllegalStateException" tl tg) : CtW l K yL_house wsL_house rmL [.ref b, .ref o] (outW K o lf :: w0) (some (.int (nI 1))) (outW K o lf :: w0) tl tg := by
  refine CtW_of (cc := cL_house) (nL := 3) (rt := some .int) (hh := [(0, 8, 11, 13)]) (own := RL) (lv0 := [(0, .ref b), (1, .ref o)]) (by decide) rfl (Nat.le_of_ble_eq_true rfl) rfl rfl ?_
  intro G C0 hF hX
  have lk13 : Cond.classLink RL 13 "java/lang/IllegalStateException" ∈ wsL_house := by decide +kernel
  refine J_aln C0 1 dL_house_0 (kk := ?_)
  refine J_ic C0 0 dL_house_1 (kk := ?_)
  refine J_aln C0 0 dL_house_2 (kk := ?_)
  refine J_tryV C0 hX hM [outW K o lf] gL_house_X4_house dL_house_3 0 0 hrec [] ⟨0, 8, 11, 13⟩ [] (fun z hz => by
      cases hz) lk13 (hR := ⟨hR.1, hR.2.1⟩) (hf := ⟨by rw [Nat.zero_add]; exact hR.2.2.1, by rw [Nat.zero_add]; exact hR.2.2.2⟩) (kk := fun q => ?_)
  show J G (outW K o lf :: w0) _ _ _ 11 [.ref q]
  refine J_asn C0 ((2, Value.ref q) :: [(0, .ref b), (1, .ref o)]) dL_house_11 (kk := ?_)
  refine J_ic C0 1 dL_house_12 (kk := ?_)
  exact J_iret C0 hF dL_house_13 ⟨rfl, rfl⟩ (by rw [Nat.zero_add]; exact hR.2.2.1) (by rw [Nat.zero_add]; exact hR.2.2.2)

theorem wL_bottles {K : KT} (l : Launch) {b o : Nat} (x0 : Int32) (x1 : Int32) {w0 w1 : List va_W} {fs : List Value} (lf : Nat → Int64) {rmc : Room} {tl tg : Nat} (hrec : (w0.flatten)[0]? = some (b, .inr (4, fs))) (hR : rmc.frames + 1 ≤ 9 ∧ 8 + (4 + 11) + rmc.locals ≤ 250 ∧ rmc.cells ≤ 1 ∧ rmc.slots ≤ 6) {r : Int32} (hM : CtL l K yX4_bottles wsX4_bottles rmc [.ref b, .int x0, .int x1] w0 (some (.int r)) w1 tl tg) : CtW l K yL_bottles wsL_bottles rmL [.ref b, .int x0, .int x1, .ref o] (outW K o lf :: w0) (some (.int (nI 0))) (outW K o (vp_updL lf 0 r.toInt64) :: w1) tl tg := by
  refine CtW_of (cc := cL_bottles) (nL := 5) (rt := some .int) (hh := [(0, 10, 13, 19), (0, 10, 17, 21), (0, 10, 21, 13)]) (own := RL) (lv0 := [(0, .ref b), (1, .int x0), (2, .int x1), (3, .ref o)]) (by decide) rfl (Nat.le_of_ble_eq_true rfl) rfl rfl ?_
  intro G C0 hF hX
  refine J_aln C0 3 dL_bottles_0 (kk := ?_)
  refine J_ic C0 0 dL_bottles_1 (kk := ?_)
  refine J_aln C0 0 dL_bottles_2 (kk := ?_)
  refine J_iln C0 1 dL_bottles_3 (kk := ?_)
  refine J_iln C0 2 dL_bottles_4 (kk := ?_)
  refine J_callVL C0 hX hM [outW K o lf] gL_bottles_X4_bottles dL_bottles_5 2 0 hrec (hR := ⟨hR.1, hR.2.1⟩) (hf := ⟨by rw [Nat.zero_add]; exact hR.2.2.1, by rw [Nat.zero_add]; exact hR.2.2.2⟩) (kk := ?_)
  show J G (outW K o lf :: w1) _ _ _ _ [.int r, .int (nI 0), .ref o]
  refine J_i2l C0 dL_bottles_8 (kk := ?_)
  refine J_last C0 0 0 1 (outW K o (vp_updL lf 0 r.toInt64) :: w1) dL_bottles_9 (by decide) (kk := ?_)
  refine J_goto C0 25 dL_bottles_10 (kk := ?_)
  refine J_ic C0 0 dL_bottles_25 (kk := ?_)
  exact J_iret C0 hF dL_bottles_26 ⟨rfl, rfl⟩ (by rw [Nat.zero_add]; exact hR.2.2.1) (by rw [Nat.zero_add]; exact hR.2.2.2)

theorem wL_bottles_t1 {K : KT} (l : Launch) {b o : Nat} (x0 : Int32) (x1 : Int32) {w0 : List va_W} {fs : List Value} (lf : Nat → Int64) {rmc : Room} {tl tg : Nat} (hrec : (w0.flatten)[0]? = some (b, .inr (4, fs))) (hR : rmc.frames + 1 ≤ 9 ∧ 8 + (4 + 11) + rmc.locals ≤ 250 ∧ rmc.cells ≤ 1 ∧ rmc.slots ≤ 6) (hM : CtTL l K yX4_bottles wsX4_bottles rmc [.ref b, .int x0, .int x1] w0 "java/lang/IndexOutOfBoundsException" tl tg) : CtW l K yL_bottles wsL_bottles rmL [.ref b, .int x0, .int x1, .ref o] (outW K o lf :: w0) (some (.int (nI 1))) (outW K o lf :: w0) tl tg := by
  refine CtW_of (cc := cL_bottles) (nL := 5) (rt := some .int) (hh := [(0, 10, 13, 19), (0, 10, 17, 21), (0, 10, 21, 13)]) (own := RL) (lv0 := [(0, .ref b), (1, .int x0), (2, .int x1), (3, .ref o)]) (by decide) rfl (Nat.le_of_ble_eq_true rfl) rfl rfl ?_
  intro G C0 hF hX
  have lk19 : Cond.classLink RL 19 "java/lang/IndexOutOfBoundsException" ∈ wsL_bottles := by decide +kernel
  refine J_aln C0 3 dL_bottles_0 (kk := ?_)
  refine J_ic C0 0 dL_bottles_1 (kk := ?_)
  refine J_aln C0 0 dL_bottles_2 (kk := ?_)
  refine J_iln C0 1 dL_bottles_3 (kk := ?_)
  refine J_iln C0 2 dL_bottles_4 (kk := ?_)
  refine J_tryV C0 hX hM [outW K o lf] gL_bottles_X4_bottles dL_bottles_5 2 0 hrec [] ⟨0, 10, 13, 19⟩ [⟨0, 10, 17, 21⟩, ⟨0, 10, 21, 13⟩] (fun z hz => by
      cases hz) lk19 (hR := ⟨hR.1, hR.2.1⟩) (hf := ⟨by rw [Nat.zero_add]; exact hR.2.2.1, by rw [Nat.zero_add]; exact hR.2.2.2⟩) (kk := fun q => ?_)
  show J G (outW K o lf :: w0) _ _ _ 13 [.ref q]
  refine J_as C0 ((4, Value.ref q) :: [(0, .ref b), (1, .int x0), (2, .int x1), (3, .ref o)]) dL_bottles_13 (kk := ?_)
  refine J_ic C0 1 dL_bottles_15 (kk := ?_)
  exact J_iret C0 hF dL_bottles_16 ⟨rfl, rfl⟩ (by rw [Nat.zero_add]; exact hR.2.2.1) (by rw [Nat.zero_add]; exact hR.2.2.2)

theorem wL_bottles_t2 {K : KT} (l : Launch) {b o : Nat} (x0 : Int32) (x1 : Int32) {w0 : List va_W} {fs : List Value} (lf : Nat → Int64) {rmc : Room} {tl tg : Nat} (hrec : (w0.flatten)[0]? = some (b, .inr (4, fs))) (hR : rmc.frames + 1 ≤ 9 ∧ 8 + (4 + 11) + rmc.locals ≤ 250 ∧ rmc.cells ≤ 1 ∧ rmc.slots ≤ 6) (hM : CtTL l K yX4_bottles wsX4_bottles rmc [.ref b, .int x0, .int x1] w0 "java/lang/IllegalArgumentException" tl tg) : CtW l K yL_bottles wsL_bottles rmL [.ref b, .int x0, .int x1, .ref o] (outW K o lf :: w0) (some (.int (nI 2))) (outW K o lf :: w0) tl tg := by
  refine CtW_of (cc := cL_bottles) (nL := 5) (rt := some .int) (hh := [(0, 10, 13, 19), (0, 10, 17, 21), (0, 10, 21, 13)]) (own := RL) (lv0 := [(0, .ref b), (1, .int x0), (2, .int x1), (3, .ref o)]) (by decide) rfl (Nat.le_of_ble_eq_true rfl) rfl rfl ?_
  intro G C0 hF hX
  have lk19 : Cond.classLink RL 19 "java/lang/IndexOutOfBoundsException" ∈ wsL_bottles := by decide +kernel
  have lk21 : Cond.classLink RL 21 "java/lang/IllegalArgumentException" ∈ wsL_bottles := by decide +kernel
  refine J_aln C0 3 dL_bottles_0 (kk := ?_)
  refine J_ic C0 0 dL_bottles_1 (kk := ?_)
  refine J_aln C0 0 dL_bottles_2 (kk := ?_)
  refine J_iln C0 1 dL_bottles_3 (kk := ?_)
  refine J_iln C0 2 dL_bottles_4 (kk := ?_)
  refine J_tryV C0 hX hM [outW K o lf] gL_bottles_X4_bottles dL_bottles_5 2 0 hrec [⟨0, 10, 13, 19⟩] ⟨0, 10, 17, 21⟩ [⟨0, 10, 21, 13⟩] (fun z hz => by
      rcases List.mem_cons.mp hz with rfl | hz
      · exact ⟨by decide, _, lk19, by decide⟩
      cases hz) lk21 (hR := ⟨hR.1, hR.2.1⟩) (hf := ⟨by rw [Nat.zero_add]; exact hR.2.2.1, by rw [Nat.zero_add]; exact hR.2.2.2⟩) (kk := fun q => ?_)
  show J G (outW K o lf :: w0) _ _ _ 17 [.ref q]
  refine J_as C0 ((4, Value.ref q) :: [(0, .ref b), (1, .int x0), (2, .int x1), (3, .ref o)]) dL_bottles_17 (kk := ?_)
  refine J_ic C0 2 dL_bottles_19 (kk := ?_)
  exact J_iret C0 hF dL_bottles_20 ⟨rfl, rfl⟩ (by rw [Nat.zero_add]; exact hR.2.2.1) (by rw [Nat.zero_add]; exact hR.2.2.2)

theorem wL_bottles_t3 {K : KT} (l : Launch) {b o : Nat} (x0 : Int32) (x1 : Int32) {w0 : List va_W} {fs : List Value} (lf : Nat → Int64) {rmc : Room} {tl tg : Nat} (hrec : (w0.flatten)[0]? = some (b, .inr (4, fs))) (hR : rmc.frames + 1 ≤ 9 ∧ 8 + (4 + 11) + rmc.locals ≤ 250 ∧ rmc.cells ≤ 1 ∧ rmc.slots ≤ 6) (hM : CtTL l K yX4_bottles wsX4_bottles rmc [.ref b, .int x0, .int x1] w0 "java/lang/IllegalStateException" tl tg) : CtW l K yL_bottles wsL_bottles rmL [.ref b, .int x0, .int x1, .ref o] (outW K o lf :: w0) (some (.int (nI 3))) (outW K o lf :: w0) tl tg := by
  refine CtW_of (cc := cL_bottles) (nL := 5) (rt := some .int) (hh := [(0, 10, 13, 19), (0, 10, 17, 21), (0, 10, 21, 13)]) (own := RL) (lv0 := [(0, .ref b), (1, .int x0), (2, .int x1), (3, .ref o)]) (by decide) rfl (Nat.le_of_ble_eq_true rfl) rfl rfl ?_
  intro G C0 hF hX
  have lk19 : Cond.classLink RL 19 "java/lang/IndexOutOfBoundsException" ∈ wsL_bottles := by decide +kernel
  have lk21 : Cond.classLink RL 21 "java/lang/IllegalArgumentException" ∈ wsL_bottles := by decide +kernel
  have lk13 : Cond.classLink RL 13 "java/lang/IllegalStateException" ∈ wsL_bottles := by decide +kernel
  refine J_aln C0 3 dL_bottles_0 (kk := ?_)
  refine J_ic C0 0 dL_bottles_1 (kk := ?_)
  refine J_aln C0 0 dL_bottles_2 (kk := ?_)
  refine J_iln C0 1 dL_bottles_3 (kk := ?_)
  refine J_iln C0 2 dL_bottles_4 (kk := ?_)
  refine J_tryV C0 hX hM [outW K o lf] gL_bottles_X4_bottles dL_bottles_5 2 0 hrec [⟨0, 10, 13, 19⟩, ⟨0, 10, 17, 21⟩] ⟨0, 10, 21, 13⟩ [] (fun z hz => by
      rcases List.mem_cons.mp hz with rfl | hz
      · exact ⟨by decide, _, lk19, by decide⟩
      rcases List.mem_cons.mp hz with rfl | hz
      · exact ⟨by decide, _, lk21, by decide⟩
      cases hz) lk13 (hR := ⟨hR.1, hR.2.1⟩) (hf := ⟨by rw [Nat.zero_add]; exact hR.2.2.1, by rw [Nat.zero_add]; exact hR.2.2.2⟩) (kk := fun q => ?_)
  show J G (outW K o lf :: w0) _ _ _ 21 [.ref q]
  refine J_as C0 ((4, Value.ref q) :: [(0, .ref b), (1, .int x0), (2, .int x1), (3, .ref o)]) dL_bottles_21 (kk := ?_)
  refine J_ic C0 3 dL_bottles_23 (kk := ?_)
  exact J_iret C0 hF dL_bottles_24 ⟨rfl, rfl⟩ (by rw [Nat.zero_add]; exact hR.2.2.1) (by rw [Nat.zero_add]; exact hR.2.2.2)

theorem wL_lend {K : KT} (l : Launch) {b o : Nat} (x0 : Int32) (x1 : Int32) {w0 w1 : List va_W} {fs : List Value} (lf : Nat → Int64) {rmc : Room} {tl tg : Nat} (hrec : (w0.flatten)[0]? = some (b, .inr (4, fs))) (hR : rmc.frames + 1 ≤ 9 ∧ 8 + (3 + 11) + rmc.locals ≤ 250 ∧ rmc.cells ≤ 1 ∧ rmc.slots ≤ 6) {r : Int32} (hM : CtL l K yX4_lend wsX4_lend rmc [.ref b, .int x0, .int x1] w0 (some (.int r)) w1 tl tg) : CtW l K yL_lend wsL_lend rmL [.ref b, .int x0, .int x1, .ref o] (outW K o lf :: w0) (some (.int (nI 0))) (outW K o (vp_updL lf 0 r.toInt64) :: w1) tl tg := by
  refine CtW_of (cc := cL_lend) (nL := 5) (rt := some .int) (hh := [(0, 10, 13, 19), (0, 10, 17, 13)]) (own := RL) (lv0 := [(0, .ref b), (1, .int x0), (2, .int x1), (3, .ref o)]) (by decide) rfl (Nat.le_of_ble_eq_true rfl) rfl rfl ?_
  intro G C0 hF hX
  refine J_aln C0 3 dL_lend_0 (kk := ?_)
  refine J_ic C0 0 dL_lend_1 (kk := ?_)
  refine J_aln C0 0 dL_lend_2 (kk := ?_)
  refine J_iln C0 1 dL_lend_3 (kk := ?_)
  refine J_iln C0 2 dL_lend_4 (kk := ?_)
  refine J_callVL C0 hX hM [outW K o lf] gL_lend_X4_lend dL_lend_5 2 0 hrec (hR := ⟨hR.1, hR.2.1⟩) (hf := ⟨by rw [Nat.zero_add]; exact hR.2.2.1, by rw [Nat.zero_add]; exact hR.2.2.2⟩) (kk := ?_)
  show J G (outW K o lf :: w1) _ _ _ _ [.int r, .int (nI 0), .ref o]
  refine J_i2l C0 dL_lend_8 (kk := ?_)
  refine J_last C0 0 0 1 (outW K o (vp_updL lf 0 r.toInt64) :: w1) dL_lend_9 (by decide) (kk := ?_)
  refine J_goto C0 21 dL_lend_10 (kk := ?_)
  refine J_ic C0 0 dL_lend_21 (kk := ?_)
  exact J_iret C0 hF dL_lend_22 ⟨rfl, rfl⟩ (by rw [Nat.zero_add]; exact hR.2.2.1) (by rw [Nat.zero_add]; exact hR.2.2.2)

theorem wL_lend_t1 {K : KT} (l : Launch) {b o : Nat} (x0 : Int32) (x1 : Int32) {w0 : List va_W} {fs : List Value} (lf : Nat → Int64) {rmc : Room} {tl tg : Nat} (hrec : (w0.flatten)[0]? = some (b, .inr (4, fs))) (hR : rmc.frames + 1 ≤ 9 ∧ 8 + (3 + 11) + rmc.locals ≤ 250 ∧ rmc.cells ≤ 1 ∧ rmc.slots ≤ 6) (hM : CtTL l K yX4_lend wsX4_lend rmc [.ref b, .int x0, .int x1] w0 "java/lang/IndexOutOfBoundsException" tl tg) : CtW l K yL_lend wsL_lend rmL [.ref b, .int x0, .int x1, .ref o] (outW K o lf :: w0) (some (.int (nI 1))) (outW K o lf :: w0) tl tg := by
  refine CtW_of (cc := cL_lend) (nL := 5) (rt := some .int) (hh := [(0, 10, 13, 19), (0, 10, 17, 13)]) (own := RL) (lv0 := [(0, .ref b), (1, .int x0), (2, .int x1), (3, .ref o)]) (by decide) rfl (Nat.le_of_ble_eq_true rfl) rfl rfl ?_
  intro G C0 hF hX
  have lk19 : Cond.classLink RL 19 "java/lang/IndexOutOfBoundsException" ∈ wsL_lend := by decide +kernel
  refine J_aln C0 3 dL_lend_0 (kk := ?_)
  refine J_ic C0 0 dL_lend_1 (kk := ?_)
  refine J_aln C0 0 dL_lend_2 (kk := ?_)
  refine J_iln C0 1 dL_lend_3 (kk := ?_)
  refine J_iln C0 2 dL_lend_4 (kk := ?_)
  refine J_tryV C0 hX hM [outW K o lf] gL_lend_X4_lend dL_lend_5 2 0 hrec [] ⟨0, 10, 13, 19⟩ [⟨0, 10, 17, 13⟩] (fun z hz => by
      cases hz) lk19 (hR := ⟨hR.1, hR.2.1⟩) (hf := ⟨by rw [Nat.zero_add]; exact hR.2.2.1, by rw [Nat.zero_add]; exact hR.2.2.2⟩) (kk := fun q => ?_)
  show J G (outW K o lf :: w0) _ _ _ 13 [.ref q]
  refine J_as C0 ((4, Value.ref q) :: [(0, .ref b), (1, .int x0), (2, .int x1), (3, .ref o)]) dL_lend_13 (kk := ?_)
  refine J_ic C0 1 dL_lend_15 (kk := ?_)
  exact J_iret C0 hF dL_lend_16 ⟨rfl, rfl⟩ (by rw [Nat.zero_add]; exact hR.2.2.1) (by rw [Nat.zero_add]; exact hR.2.2.2)

theorem wL_lend_t2 {K : KT} (l : Launch) {b o : Nat} (x0 : Int32) (x1 : Int32) {w0 : List va_W} {fs : List Value} (lf : Nat → Int64) {rmc : Room} {tl tg : Nat} (hrec : (w0.flatten)[0]? = some (b, .inr (4, fs))) (hR : rmc.frames + 1 ≤ 9 ∧ 8 + (3 + 11) + rmc.locals ≤ 250 ∧ rmc.cells ≤ 1 ∧ rmc.slots ≤ 6) (hM : CtTL l K yX4_lend wsX4_lend rmc [.ref b, .int x0, .int x1] w0 "java/lang/IllegalStateException" tl tg) : CtW l K yL_lend wsL_lend rmL [.ref b, .int x0, .int x1, .ref o] (outW K o lf :: w0) (some (.int (nI 2))) (outW K o lf :: w0) tl tg := by
  refine CtW_of (cc := cL_lend) (nL := 5) (rt := some .int) (hh := [(0, 10, 13, 19), (0, 10, 17, 13)]) (own := RL) (lv0 := [(0, .ref b), (1, .int x0), (2, .int x1), (3, .ref o)]) (by decide) rfl (Nat.le_of_ble_eq_true rfl) rfl rfl ?_
  intro G C0 hF hX
  have lk19 : Cond.classLink RL 19 "java/lang/IndexOutOfBoundsException" ∈ wsL_lend := by decide +kernel
  have lk13 : Cond.classLink RL 13 "java/lang/IllegalStateException" ∈ wsL_lend := by decide +kernel
  refine J_aln C0 3 dL_lend_0 (kk := ?_)
  refine J_ic C0 0 dL_lend_1 (kk := ?_)
  refine J_aln C0 0 dL_lend_2 (kk := ?_)
  refine J_iln C0 1 dL_lend_3 (kk := ?_)
  refine J_iln C0 2 dL_lend_4 (kk := ?_)
  refine J_tryV C0 hX hM [outW K o lf] gL_lend_X4_lend dL_lend_5 2 0 hrec [⟨0, 10, 13, 19⟩] ⟨0, 10, 17, 13⟩ [] (fun z hz => by
      rcases List.mem_cons.mp hz with rfl | hz
      · exact ⟨by decide, _, lk19, by decide⟩
      cases hz) lk13 (hR := ⟨hR.1, hR.2.1⟩) (hf := ⟨by rw [Nat.zero_add]; exact hR.2.2.1, by rw [Nat.zero_add]; exact hR.2.2.2⟩) (kk := fun q => ?_)
  show J G (outW K o lf :: w0) _ _ _ 17 [.ref q]
  refine J_as C0 ((4, Value.ref q) :: [(0, .ref b), (1, .int x0), (2, .int x1), (3, .ref o)]) dL_lend_17 (kk := ?_)
  refine J_ic C0 2 dL_lend_19 (kk := ?_)
  exact J_iret C0 hF dL_lend_20 ⟨rfl, rfl⟩ (by rw [Nat.zero_add]; exact hR.2.2.1) (by rw [Nat.zero_add]; exact hR.2.2.2)

theorem wL_ask {K : KT} (l : Launch) {b o : Nat} (x0 : Int32) (x1 : Int32) {w0 w1 : List va_W} {fs : List Value} (lf : Nat → Int64) {rmc : Room} {tl tg : Nat} (hrec : (w0.flatten)[0]? = some (b, .inr (4, fs))) (hR : rmc.frames + 1 ≤ 9 ∧ 8 + (3 + 11) + rmc.locals ≤ 250 ∧ rmc.cells ≤ 1 ∧ rmc.slots ≤ 6) {r : Int32} (hM : CtL l K yX4_ask wsX4_ask rmc [.ref b, .int x0, .int x1] w0 (some (.int r)) w1 tl tg) : CtW l K yL_ask wsL_ask rmL [.ref b, .int x0, .int x1, .ref o] (outW K o lf :: w0) (some (.int (nI 0))) (outW K o (vp_updL lf 0 r.toInt64) :: w1) tl tg := by
  refine CtW_of (cc := cL_ask) (nL := 5) (rt := some .int) (hh := [(0, 10, 13, 19), (0, 10, 17, 13)]) (own := RL) (lv0 := [(0, .ref b), (1, .int x0), (2, .int x1), (3, .ref o)]) (by decide) rfl (Nat.le_of_ble_eq_true rfl) rfl rfl ?_
  intro G C0 hF hX
  refine J_aln C0 3 dL_ask_0 (kk := ?_)
  refine J_ic C0 0 dL_ask_1 (kk := ?_)
  refine J_aln C0 0 dL_ask_2 (kk := ?_)
  refine J_iln C0 1 dL_ask_3 (kk := ?_)
  refine J_iln C0 2 dL_ask_4 (kk := ?_)
  refine J_callVL C0 hX hM [outW K o lf] gL_ask_X4_ask dL_ask_5 2 0 hrec (hR := ⟨hR.1, hR.2.1⟩) (hf := ⟨by rw [Nat.zero_add]; exact hR.2.2.1, by rw [Nat.zero_add]; exact hR.2.2.2⟩) (kk := ?_)
  show J G (outW K o lf :: w1) _ _ _ _ [.int r, .int (nI 0), .ref o]
  refine J_i2l C0 dL_ask_8 (kk := ?_)
  refine J_last C0 0 0 1 (outW K o (vp_updL lf 0 r.toInt64) :: w1) dL_ask_9 (by decide) (kk := ?_)
  refine J_goto C0 21 dL_ask_10 (kk := ?_)
  refine J_ic C0 0 dL_ask_21 (kk := ?_)
  exact J_iret C0 hF dL_ask_22 ⟨rfl, rfl⟩ (by rw [Nat.zero_add]; exact hR.2.2.1) (by rw [Nat.zero_add]; exact hR.2.2.2)

theorem wL_ask_t1 {K : KT} (l : Launch) {b o : Nat} (x0 : Int32) (x1 : Int32) {w0 : List va_W} {fs : List Value} (lf : Nat → Int64) {rmc : Room} {tl tg : Nat} (hrec : (w0.flatten)[0]? = some (b, .inr (4, fs))) (hR : rmc.frames + 1 ≤ 9 ∧ 8 + (3 + 11) + rmc.locals ≤ 250 ∧ rmc.cells ≤ 1 ∧ rmc.slots ≤ 6) (hM : CtTL l K yX4_ask wsX4_ask rmc [.ref b, .int x0, .int x1] w0 "java/lang/IndexOutOfBoundsException" tl tg) : CtW l K yL_ask wsL_ask rmL [.ref b, .int x0, .int x1, .ref o] (outW K o lf :: w0) (some (.int (nI 1))) (outW K o lf :: w0) tl tg := by
  refine CtW_of (cc := cL_ask) (nL := 5) (rt := some .int) (hh := [(0, 10, 13, 19), (0, 10, 17, 13)]) (own := RL) (lv0 := [(0, .ref b), (1, .int x0), (2, .int x1), (3, .ref o)]) (by decide) rfl (Nat.le_of_ble_eq_true rfl) rfl rfl ?_
  intro G C0 hF hX
  have lk19 : Cond.classLink RL 19 "java/lang/IndexOutOfBoundsException" ∈ wsL_ask := by decide +kernel
  refine J_aln C0 3 dL_ask_0 (kk := ?_)
  refine J_ic C0 0 dL_ask_1 (kk := ?_)
  refine J_aln C0 0 dL_ask_2 (kk := ?_)
  refine J_iln C0 1 dL_ask_3 (kk := ?_)
  refine J_iln C0 2 dL_ask_4 (kk := ?_)
  refine J_tryV C0 hX hM [outW K o lf] gL_ask_X4_ask dL_ask_5 2 0 hrec [] ⟨0, 10, 13, 19⟩ [⟨0, 10, 17, 13⟩] (fun z hz => by
      cases hz) lk19 (hR := ⟨hR.1, hR.2.1⟩) (hf := ⟨by rw [Nat.zero_add]; exact hR.2.2.1, by rw [Nat.zero_add]; exact hR.2.2.2⟩) (kk := fun q => ?_)
  show J G (outW K o lf :: w0) _ _ _ 13 [.ref q]
  refine J_as C0 ((4, Value.ref q) :: [(0, .ref b), (1, .int x0), (2, .int x1), (3, .ref o)]) dL_ask_13 (kk := ?_)
  refine J_ic C0 1 dL_ask_15 (kk := ?_)
  exact J_iret C0 hF dL_ask_16 ⟨rfl, rfl⟩ (by rw [Nat.zero_add]; exact hR.2.2.1) (by rw [Nat.zero_add]; exact hR.2.2.2)

theorem wL_ask_t2 {K : KT} (l : Launch) {b o : Nat} (x0 : Int32) (x1 : Int32) {w0 : List va_W} {fs : List Value} (lf : Nat → Int64) {rmc : Room} {tl tg : Nat} (hrec : (w0.flatten)[0]? = some (b, .inr (4, fs))) (hR : rmc.frames + 1 ≤ 9 ∧ 8 + (3 + 11) + rmc.locals ≤ 250 ∧ rmc.cells ≤ 1 ∧ rmc.slots ≤ 6) (hM : CtTL l K yX4_ask wsX4_ask rmc [.ref b, .int x0, .int x1] w0 "java/lang/IllegalStateException" tl tg) : CtW l K yL_ask wsL_ask rmL [.ref b, .int x0, .int x1, .ref o] (outW K o lf :: w0) (some (.int (nI 2))) (outW K o lf :: w0) tl tg := by
  refine CtW_of (cc := cL_ask) (nL := 5) (rt := some .int) (hh := [(0, 10, 13, 19), (0, 10, 17, 13)]) (own := RL) (lv0 := [(0, .ref b), (1, .int x0), (2, .int x1), (3, .ref o)]) (by decide) rfl (Nat.le_of_ble_eq_true rfl) rfl rfl ?_
  intro G C0 hF hX
  have lk19 : Cond.classLink RL 19 "java/lang/IndexOutOfBoundsException" ∈ wsL_ask := by decide +kernel
  have lk13 : Cond.classLink RL 13 "java/lang/IllegalStateException" ∈ wsL_ask := by decide +kernel
  refine J_aln C0 3 dL_ask_0 (kk := ?_)
  refine J_ic C0 0 dL_ask_1 (kk := ?_)
  refine J_aln C0 0 dL_ask_2 (kk := ?_)
  refine J_iln C0 1 dL_ask_3 (kk := ?_)
  refine J_iln C0 2 dL_ask_4 (kk := ?_)
  refine J_tryV C0 hX hM [outW K o lf] gL_ask_X4_ask dL_ask_5 2 0 hrec [⟨0, 10, 13, 19⟩] ⟨0, 10, 17, 13⟩ [] (fun z hz => by
      rcases List.mem_cons.mp hz with rfl | hz
      · exact ⟨by decide, _, lk19, by decide⟩
      cases hz) lk13 (hR := ⟨hR.1, hR.2.1⟩) (hf := ⟨by rw [Nat.zero_add]; exact hR.2.2.1, by rw [Nat.zero_add]; exact hR.2.2.2⟩) (kk := fun q => ?_)
  show J G (outW K o lf :: w0) _ _ _ 17 [.ref q]
  refine J_as C0 ((4, Value.ref q) :: [(0, .ref b), (1, .int x0), (2, .int x1), (3, .ref o)]) dL_ask_17 (kk := ?_)
  refine J_ic C0 2 dL_ask_19 (kk := ?_)
  exact J_iret C0 hF dL_ask_20 ⟨rfl, rfl⟩ (by rw [Nat.zero_add]; exact hR.2.2.1) (by rw [Nat.zero_add]; exact hR.2.2.2)

theorem wL_want {K : KT} (l : Launch) {b o : Nat} (x0 : Int32) (x1 : Int32) {w0 w1 : List va_W} {fs : List Value} (lf : Nat → Int64) {rmc : Room} {tl tg : Nat} (hrec : (w0.flatten)[0]? = some (b, .inr (4, fs))) (hR : rmc.frames + 1 ≤ 9 ∧ 8 + (3 + 11) + rmc.locals ≤ 250 ∧ rmc.cells ≤ 1 ∧ rmc.slots ≤ 6) {r : Int32} (hM : CtL l K yX4_want wsX4_want rmc [.ref b, .int x0, .int x1] w0 (some (.int r)) w1 tl tg) : CtW l K yL_want wsL_want rmL [.ref b, .int x0, .int x1, .ref o] (outW K o lf :: w0) (some (.int (nI 0))) (outW K o (vp_updL lf 0 r.toInt64) :: w1) tl tg := by
  refine CtW_of (cc := cL_want) (nL := 5) (rt := some .int) (hh := [(0, 10, 13, 19), (0, 10, 17, 13)]) (own := RL) (lv0 := [(0, .ref b), (1, .int x0), (2, .int x1), (3, .ref o)]) (by decide) rfl (Nat.le_of_ble_eq_true rfl) rfl rfl ?_
  intro G C0 hF hX
  refine J_aln C0 3 dL_want_0 (kk := ?_)
  refine J_ic C0 0 dL_want_1 (kk := ?_)
  refine J_aln C0 0 dL_want_2 (kk := ?_)
  refine J_iln C0 1 dL_want_3 (kk := ?_)
  refine J_iln C0 2 dL_want_4 (kk := ?_)
  refine J_callVL C0 hX hM [outW K o lf] gL_want_X4_want dL_want_5 2 0 hrec (hR := ⟨hR.1, hR.2.1⟩) (hf := ⟨by rw [Nat.zero_add]; exact hR.2.2.1, by rw [Nat.zero_add]; exact hR.2.2.2⟩) (kk := ?_)
  show J G (outW K o lf :: w1) _ _ _ _ [.int r, .int (nI 0), .ref o]
  refine J_i2l C0 dL_want_8 (kk := ?_)
  refine J_last C0 0 0 1 (outW K o (vp_updL lf 0 r.toInt64) :: w1) dL_want_9 (by decide) (kk := ?_)
  refine J_goto C0 21 dL_want_10 (kk := ?_)
  refine J_ic C0 0 dL_want_21 (kk := ?_)
  exact J_iret C0 hF dL_want_22 ⟨rfl, rfl⟩ (by rw [Nat.zero_add]; exact hR.2.2.1) (by rw [Nat.zero_add]; exact hR.2.2.2)

theorem wL_want_t1 {K : KT} (l : Launch) {b o : Nat} (x0 : Int32) (x1 : Int32) {w0 : List va_W} {fs : List Value} (lf : Nat → Int64) {rmc : Room} {tl tg : Nat} (hrec : (w0.flatten)[0]? = some (b, .inr (4, fs))) (hR : rmc.frames + 1 ≤ 9 ∧ 8 + (3 + 11) + rmc.locals ≤ 250 ∧ rmc.cells ≤ 1 ∧ rmc.slots ≤ 6) (hM : CtTL l K yX4_want wsX4_want rmc [.ref b, .int x0, .int x1] w0 "java/lang/IndexOutOfBoundsException" tl tg) : CtW l K yL_want wsL_want rmL [.ref b, .int x0, .int x1, .ref o] (outW K o lf :: w0) (some (.int (nI 1))) (outW K o lf :: w0) tl tg := by
  refine CtW_of (cc := cL_want) (nL := 5) (rt := some .int) (hh := [(0, 10, 13, 19), (0, 10, 17, 13)]) (own := RL) (lv0 := [(0, .ref b), (1, .int x0), (2, .int x1), (3, .ref o)]) (by decide) rfl (Nat.le_of_ble_eq_true rfl) rfl rfl ?_
  intro G C0 hF hX
  have lk19 : Cond.classLink RL 19 "java/lang/IndexOutOfBoundsException" ∈ wsL_want := by decide +kernel
  refine J_aln C0 3 dL_want_0 (kk := ?_)
  refine J_ic C0 0 dL_want_1 (kk := ?_)
  refine J_aln C0 0 dL_want_2 (kk := ?_)
  refine J_iln C0 1 dL_want_3 (kk := ?_)
  refine J_iln C0 2 dL_want_4 (kk := ?_)
  refine J_tryV C0 hX hM [outW K o lf] gL_want_X4_want dL_want_5 2 0 hrec [] ⟨0, 10, 13, 19⟩ [⟨0, 10, 17, 13⟩] (fun z hz => by
      cases hz) lk19 (hR := ⟨hR.1, hR.2.1⟩) (hf := ⟨by rw [Nat.zero_add]; exact hR.2.2.1, by rw [Nat.zero_add]; exact hR.2.2.2⟩) (kk := fun q => ?_)
  show J G (outW K o lf :: w0) _ _ _ 13 [.ref q]
  refine J_as C0 ((4, Value.ref q) :: [(0, .ref b), (1, .int x0), (2, .int x1), (3, .ref o)]) dL_want_13 (kk := ?_)
  refine J_ic C0 1 dL_want_15 (kk := ?_)
  exact J_iret C0 hF dL_want_16 ⟨rfl, rfl⟩ (by rw [Nat.zero_add]; exact hR.2.2.1) (by rw [Nat.zero_add]; exact hR.2.2.2)

theorem wL_want_t2 {K : KT} (l : Launch) {b o : Nat} (x0 : Int32) (x1 : Int32) {w0 : List va_W} {fs : List Value} (lf : Nat → Int64) {rmc : Room} {tl tg : Nat} (hrec : (w0.flatten)[0]? = some (b, .inr (4, fs))) (hR : rmc.frames + 1 ≤ 9 ∧ 8 + (3 + 11) + rmc.locals ≤ 250 ∧ rmc.cells ≤ 1 ∧ rmc.slots ≤ 6) (hM : CtTL l K yX4_want wsX4_want rmc [.ref b, .int x0, .int x1] w0 "java/lang/IllegalStateException" tl tg) : CtW l K yL_want wsL_want rmL [.ref b, .int x0, .int x1, .ref o] (outW K o lf :: w0) (some (.int (nI 2))) (outW K o lf :: w0) tl tg := by
  refine CtW_of (cc := cL_want) (nL := 5) (rt := some .int) (hh := [(0, 10, 13, 19), (0, 10, 17, 13)]) (own := RL) (lv0 := [(0, .ref b), (1, .int x0), (2, .int x1), (3, .ref o)]) (by decide) rfl (Nat.le_of_ble_eq_true rfl) rfl rfl ?_
  intro G C0 hF hX
  have lk19 : Cond.classLink RL 19 "java/lang/IndexOutOfBoundsException" ∈ wsL_want := by decide +kernel
  have lk13 : Cond.classLink RL 13 "java/lang/IllegalStateException" ∈ wsL_want := by decide +kernel
  refine J_aln C0 3 dL_want_0 (kk := ?_)
  refine J_ic C0 0 dL_want_1 (kk := ?_)
  refine J_aln C0 0 dL_want_2 (kk := ?_)
  refine J_iln C0 1 dL_want_3 (kk := ?_)
  refine J_iln C0 2 dL_want_4 (kk := ?_)
  refine J_tryV C0 hX hM [outW K o lf] gL_want_X4_want dL_want_5 2 0 hrec [⟨0, 10, 13, 19⟩] ⟨0, 10, 17, 13⟩ [] (fun z hz => by
      rcases List.mem_cons.mp hz with rfl | hz
      · exact ⟨by decide, _, lk19, by decide⟩
      cases hz) lk13 (hR := ⟨hR.1, hR.2.1⟩) (hf := ⟨by rw [Nat.zero_add]; exact hR.2.2.1, by rw [Nat.zero_add]; exact hR.2.2.2⟩) (kk := fun q => ?_)
  show J G (outW K o lf :: w0) _ _ _ 17 [.ref q]
  refine J_as C0 ((4, Value.ref q) :: [(0, .ref b), (1, .int x0), (2, .int x1), (3, .ref o)]) dL_want_17 (kk := ?_)
  refine J_ic C0 2 dL_want_19 (kk := ?_)
  exact J_iret C0 hF dL_want_20 ⟨rfl, rfl⟩ (by rw [Nat.zero_add]; exact hR.2.2.1) (by rw [Nat.zero_add]; exact hR.2.2.2)

theorem wL_drink {K : KT} (l : Launch) {b o : Nat} (x0 : Int32) {w0 w1 : List va_W} {fs : List Value} (lf : Nat → Int64) {rmc : Room} {tl tg : Nat} (hrec : (w0.flatten)[0]? = some (b, .inr (4, fs))) (hR : rmc.frames + 1 ≤ 9 ∧ 8 + (2 + 11) + rmc.locals ≤ 250 ∧ rmc.cells ≤ 1 ∧ rmc.slots ≤ 6) {r : Int32} (hM : CtL l K yX4_drink wsX4_drink rmc [.ref b, .int x0] w0 (some (.int r)) w1 tl tg) : CtW l K yL_drink wsL_drink rmL [.ref b, .int x0, .ref o] (outW K o lf :: w0) (some (.int (nI 0))) (outW K o (vp_updL lf 0 r.toInt64) :: w1) tl tg := by
  refine CtW_of (cc := cL_drink) (nL := 4) (rt := some .int) (hh := [(0, 9, 12, 19), (0, 9, 15, 13)]) (own := RL) (lv0 := [(0, .ref b), (1, .int x0), (2, .ref o)]) (by decide) rfl (Nat.le_of_ble_eq_true rfl) rfl rfl ?_
  intro G C0 hF hX
  refine J_aln C0 2 dL_drink_0 (kk := ?_)
  refine J_ic C0 0 dL_drink_1 (kk := ?_)
  refine J_aln C0 0 dL_drink_2 (kk := ?_)
  refine J_iln C0 1 dL_drink_3 (kk := ?_)
  refine J_callVL C0 hX hM [outW K o lf] gL_drink_X4_drink dL_drink_4 1 0 hrec (hR := ⟨hR.1, hR.2.1⟩) (hf := ⟨by rw [Nat.zero_add]; exact hR.2.2.1, by rw [Nat.zero_add]; exact hR.2.2.2⟩) (kk := ?_)
  show J G (outW K o lf :: w1) _ _ _ _ [.int r, .int (nI 0), .ref o]
  refine J_i2l C0 dL_drink_7 (kk := ?_)
  refine J_last C0 0 0 1 (outW K o (vp_updL lf 0 r.toInt64) :: w1) dL_drink_8 (by decide) (kk := ?_)
  refine J_goto C0 18 dL_drink_9 (kk := ?_)
  refine J_ic C0 0 dL_drink_18 (kk := ?_)
  exact J_iret C0 hF dL_drink_19 ⟨rfl, rfl⟩ (by rw [Nat.zero_add]; exact hR.2.2.1) (by rw [Nat.zero_add]; exact hR.2.2.2)

theorem wL_drink_t1 {K : KT} (l : Launch) {b o : Nat} (x0 : Int32) {w0 : List va_W} {fs : List Value} (lf : Nat → Int64) {rmc : Room} {tl tg : Nat} (hrec : (w0.flatten)[0]? = some (b, .inr (4, fs))) (hR : rmc.frames + 1 ≤ 9 ∧ 8 + (2 + 11) + rmc.locals ≤ 250 ∧ rmc.cells ≤ 1 ∧ rmc.slots ≤ 6) (hM : CtTL l K yX4_drink wsX4_drink rmc [.ref b, .int x0] w0 "java/lang/IndexOutOfBoundsException" tl tg) : CtW l K yL_drink wsL_drink rmL [.ref b, .int x0, .ref o] (outW K o lf :: w0) (some (.int (nI 1))) (outW K o lf :: w0) tl tg := by
  refine CtW_of (cc := cL_drink) (nL := 4) (rt := some .int) (hh := [(0, 9, 12, 19), (0, 9, 15, 13)]) (own := RL) (lv0 := [(0, .ref b), (1, .int x0), (2, .ref o)]) (by decide) rfl (Nat.le_of_ble_eq_true rfl) rfl rfl ?_
  intro G C0 hF hX
  have lk19 : Cond.classLink RL 19 "java/lang/IndexOutOfBoundsException" ∈ wsL_drink := by decide +kernel
  refine J_aln C0 2 dL_drink_0 (kk := ?_)
  refine J_ic C0 0 dL_drink_1 (kk := ?_)
  refine J_aln C0 0 dL_drink_2 (kk := ?_)
  refine J_iln C0 1 dL_drink_3 (kk := ?_)
  refine J_tryV C0 hX hM [outW K o lf] gL_drink_X4_drink dL_drink_4 1 0 hrec [] ⟨0, 9, 12, 19⟩ [⟨0, 9, 15, 13⟩] (fun z hz => by
      cases hz) lk19 (hR := ⟨hR.1, hR.2.1⟩) (hf := ⟨by rw [Nat.zero_add]; exact hR.2.2.1, by rw [Nat.zero_add]; exact hR.2.2.2⟩) (kk := fun q => ?_)
  show J G (outW K o lf :: w0) _ _ _ 12 [.ref q]
  refine J_asn C0 ((3, Value.ref q) :: [(0, .ref b), (1, .int x0), (2, .ref o)]) dL_drink_12 (kk := ?_)
  refine J_ic C0 1 dL_drink_13 (kk := ?_)
  exact J_iret C0 hF dL_drink_14 ⟨rfl, rfl⟩ (by rw [Nat.zero_add]; exact hR.2.2.1) (by rw [Nat.zero_add]; exact hR.2.2.2)

theorem wL_drink_t2 {K : KT} (l : Launch) {b o : Nat} (x0 : Int32) {w0 : List va_W} {fs : List Value} (lf : Nat → Int64) {rmc : Room} {tl tg : Nat} (hrec : (w0.flatten)[0]? = some (b, .inr (4, fs))) (hR : rmc.frames + 1 ≤ 9 ∧ 8 + (2 + 11) + rmc.locals ≤ 250 ∧ rmc.cells ≤ 1 ∧ rmc.slots ≤ 6) (hM : CtTL l K yX4_drink wsX4_drink rmc [.ref b, .int x0] w0 "java/lang/IllegalStateException" tl tg) : CtW l K yL_drink wsL_drink rmL [.ref b, .int x0, .ref o] (outW K o lf :: w0) (some (.int (nI 2))) (outW K o lf :: w0) tl tg := by
  refine CtW_of (cc := cL_drink) (nL := 4) (rt := some .int) (hh := [(0, 9, 12, 19), (0, 9, 15, 13)]) (own := RL) (lv0 := [(0, .ref b), (1, .int x0), (2, .ref o)]) (by decide) rfl (Nat.le_of_ble_eq_true rfl) rfl rfl ?_
  intro G C0 hF hX
  have lk19 : Cond.classLink RL 19 "java/lang/IndexOutOfBoundsException" ∈ wsL_drink := by decide +kernel
  have lk13 : Cond.classLink RL 13 "java/lang/IllegalStateException" ∈ wsL_drink := by decide +kernel
  refine J_aln C0 2 dL_drink_0 (kk := ?_)
  refine J_ic C0 0 dL_drink_1 (kk := ?_)
  refine J_aln C0 0 dL_drink_2 (kk := ?_)
  refine J_iln C0 1 dL_drink_3 (kk := ?_)
  refine J_tryV C0 hX hM [outW K o lf] gL_drink_X4_drink dL_drink_4 1 0 hrec [⟨0, 9, 12, 19⟩] ⟨0, 9, 15, 13⟩ [] (fun z hz => by
      rcases List.mem_cons.mp hz with rfl | hz
      · exact ⟨by decide, _, lk19, by decide⟩
      cases hz) lk13 (hR := ⟨hR.1, hR.2.1⟩) (hf := ⟨by rw [Nat.zero_add]; exact hR.2.2.1, by rw [Nat.zero_add]; exact hR.2.2.2⟩) (kk := fun q => ?_)
  show J G (outW K o lf :: w0) _ _ _ 15 [.ref q]
  refine J_asn C0 ((3, Value.ref q) :: [(0, .ref b), (1, .int x0), (2, .ref o)]) dL_drink_15 (kk := ?_)
  refine J_ic C0 2 dL_drink_16 (kk := ?_)
  exact J_iret C0 hF dL_drink_17 ⟨rfl, rfl⟩ (by rw [Nat.zero_add]; exact hR.2.2.1) (by rw [Nat.zero_add]; exact hR.2.2.2)

theorem wL_pass {K : KT} (l : Launch) {b o : Nat} (x0 : Int32) {w0 w1 : List va_W} {fs : List Value} (lf : Nat → Int64) {rmc : Room} {tl tg : Nat} (hrec : (w0.flatten)[0]? = some (b, .inr (4, fs))) (hR : rmc.frames + 1 ≤ 9 ∧ 8 + (3 + 11) + rmc.locals ≤ 250 ∧ rmc.cells ≤ 1 ∧ rmc.slots ≤ 6) {r : Int32} (hM : CtL l K yX4_pass wsX4_pass rmc [.ref b, .int x0] w0 (some (.int r)) w1 tl tg) : CtW l K yL_pass wsL_pass rmL [.ref b, .int x0, .ref o] (outW K o lf :: w0) (some (.int (nI 0))) (outW K o (vp_updL lf 0 r.toInt64) :: w1) tl tg := by
  refine CtW_of (cc := cL_pass) (nL := 4) (rt := some .int) (hh := [(0, 9, 12, 21), (0, 9, 15, 13)]) (own := RL) (lv0 := [(0, .ref b), (1, .int x0), (2, .ref o)]) (by decide) rfl (Nat.le_of_ble_eq_true rfl) rfl rfl ?_
  intro G C0 hF hX
  refine J_aln C0 2 dL_pass_0 (kk := ?_)
  refine J_ic C0 0 dL_pass_1 (kk := ?_)
  refine J_aln C0 0 dL_pass_2 (kk := ?_)
  refine J_iln C0 1 dL_pass_3 (kk := ?_)
  refine J_callVL C0 hX hM [outW K o lf] gL_pass_X4_pass dL_pass_4 1 0 hrec (hR := ⟨hR.1, hR.2.1⟩) (hf := ⟨by rw [Nat.zero_add]; exact hR.2.2.1, by rw [Nat.zero_add]; exact hR.2.2.2⟩) (kk := ?_)
  show J G (outW K o lf :: w1) _ _ _ _ [.int r, .int (nI 0), .ref o]
  refine J_i2l C0 dL_pass_7 (kk := ?_)
  refine J_last C0 0 0 1 (outW K o (vp_updL lf 0 r.toInt64) :: w1) dL_pass_8 (by decide) (kk := ?_)
  refine J_goto C0 18 dL_pass_9 (kk := ?_)
  refine J_ic C0 0 dL_pass_18 (kk := ?_)
  exact J_iret C0 hF dL_pass_19 ⟨rfl, rfl⟩ (by rw [Nat.zero_add]; exact hR.2.2.1) (by rw [Nat.zero_add]; exact hR.2.2.2)

theorem wL_pass_t1 {K : KT} (l : Launch) {b o : Nat} (x0 : Int32) {w0 : List va_W} {fs : List Value} (lf : Nat → Int64) {rmc : Room} {tl tg : Nat} (hrec : (w0.flatten)[0]? = some (b, .inr (4, fs))) (hR : rmc.frames + 1 ≤ 9 ∧ 8 + (3 + 11) + rmc.locals ≤ 250 ∧ rmc.cells ≤ 1 ∧ rmc.slots ≤ 6) (hM : CtTL l K yX4_pass wsX4_pass rmc [.ref b, .int x0] w0 "java/lang/IllegalArgumentException" tl tg) : CtW l K yL_pass wsL_pass rmL [.ref b, .int x0, .ref o] (outW K o lf :: w0) (some (.int (nI 1))) (outW K o lf :: w0) tl tg := by
  refine CtW_of (cc := cL_pass) (nL := 4) (rt := some .int) (hh := [(0, 9, 12, 21), (0, 9, 15, 13)]) (own := RL) (lv0 := [(0, .ref b), (1, .int x0), (2, .ref o)]) (by decide) rfl (Nat.le_of_ble_eq_true rfl) rfl rfl ?_
  intro G C0 hF hX
  have lk21 : Cond.classLink RL 21 "java/lang/IllegalArgumentException" ∈ wsL_pass := by decide +kernel
  refine J_aln C0 2 dL_pass_0 (kk := ?_)
  refine J_ic C0 0 dL_pass_1 (kk := ?_)
  refine J_aln C0 0 dL_pass_2 (kk := ?_)
  refine J_iln C0 1 dL_pass_3 (kk := ?_)
  refine J_tryV C0 hX hM [outW K o lf] gL_pass_X4_pass dL_pass_4 1 0 hrec [] ⟨0, 9, 12, 21⟩ [⟨0, 9, 15, 13⟩] (fun z hz => by
      cases hz) lk21 (hR := ⟨hR.1, hR.2.1⟩) (hf := ⟨by rw [Nat.zero_add]; exact hR.2.2.1, by rw [Nat.zero_add]; exact hR.2.2.2⟩) (kk := fun q => ?_)
  show J G (outW K o lf :: w0) _ _ _ 12 [.ref q]
  refine J_asn C0 ((3, Value.ref q) :: [(0, .ref b), (1, .int x0), (2, .ref o)]) dL_pass_12 (kk := ?_)
  refine J_ic C0 1 dL_pass_13 (kk := ?_)
  exact J_iret C0 hF dL_pass_14 ⟨rfl, rfl⟩ (by rw [Nat.zero_add]; exact hR.2.2.1) (by rw [Nat.zero_add]; exact hR.2.2.2)

theorem wL_pass_t2 {K : KT} (l : Launch) {b o : Nat} (x0 : Int32) {w0 : List va_W} {fs : List Value} (lf : Nat → Int64) {rmc : Room} {tl tg : Nat} (hrec : (w0.flatten)[0]? = some (b, .inr (4, fs))) (hR : rmc.frames + 1 ≤ 9 ∧ 8 + (3 + 11) + rmc.locals ≤ 250 ∧ rmc.cells ≤ 1 ∧ rmc.slots ≤ 6) (hM : CtTL l K yX4_pass wsX4_pass rmc [.ref b, .int x0] w0 "java/lang/IllegalStateException" tl tg) : CtW l K yL_pass wsL_pass rmL [.ref b, .int x0, .ref o] (outW K o lf :: w0) (some (.int (nI 2))) (outW K o lf :: w0) tl tg := by
  refine CtW_of (cc := cL_pass) (nL := 4) (rt := some .int) (hh := [(0, 9, 12, 21), (0, 9, 15, 13)]) (own := RL) (lv0 := [(0, .ref b), (1, .int x0), (2, .ref o)]) (by decide) rfl (Nat.le_of_ble_eq_true rfl) rfl rfl ?_
  intro G C0 hF hX
  have lk21 : Cond.classLink RL 21 "java/lang/IllegalArgumentException" ∈ wsL_pass := by decide +kernel
  have lk13 : Cond.classLink RL 13 "java/lang/IllegalStateException" ∈ wsL_pass := by decide +kernel
  refine J_aln C0 2 dL_pass_0 (kk := ?_)
  refine J_ic C0 0 dL_pass_1 (kk := ?_)
  refine J_aln C0 0 dL_pass_2 (kk := ?_)
  refine J_iln C0 1 dL_pass_3 (kk := ?_)
  refine J_tryV C0 hX hM [outW K o lf] gL_pass_X4_pass dL_pass_4 1 0 hrec [⟨0, 9, 12, 21⟩] ⟨0, 9, 15, 13⟩ [] (fun z hz => by
      rcases List.mem_cons.mp hz with rfl | hz
      · exact ⟨by decide, _, lk21, by decide⟩
      cases hz) lk13 (hR := ⟨hR.1, hR.2.1⟩) (hf := ⟨by rw [Nat.zero_add]; exact hR.2.2.1, by rw [Nat.zero_add]; exact hR.2.2.2⟩) (kk := fun q => ?_)
  show J G (outW K o lf :: w0) _ _ _ 15 [.ref q]
  refine J_asn C0 ((3, Value.ref q) :: [(0, .ref b), (1, .int x0), (2, .ref o)]) dL_pass_15 (kk := ?_)
  refine J_ic C0 2 dL_pass_16 (kk := ?_)
  exact J_iret C0 hF dL_pass_17 ⟨rfl, rfl⟩ (by rw [Nat.zero_add]; exact hR.2.2.1) (by rw [Nat.zero_add]; exact hR.2.2.2)

theorem wL_set {K : KT} (l : Launch) {b o : Nat} (x0 : Int32) (x1 : Int32) {w0 w1 : List va_W} {fs : List Value} (lf : Nat → Int64) {rmc : Room} {tl tg : Nat} (hrec : (w0.flatten)[0]? = some (b, .inr (4, fs))) (hR : rmc.frames + 1 ≤ 9 ∧ 8 + (4 + 11) + rmc.locals ≤ 250 ∧ rmc.cells ≤ 1 ∧ rmc.slots ≤ 6) {r : Int32} (hM : CtL l K yX4_set wsX4_set rmc [.ref b, .int x0, .int x1] w0 (some (.int r)) w1 tl tg) : CtW l K yL_set wsL_set rmL [.ref b, .int x0, .int x1, .ref o] (outW K o lf :: w0) (some (.int (nI 0))) (outW K o (vp_updL lf 0 r.toInt64) :: w1) tl tg := by
  refine CtW_of (cc := cL_set) (nL := 5) (rt := some .int) (hh := [(0, 10, 13, 19), (0, 10, 17, 21)]) (own := RL) (lv0 := [(0, .ref b), (1, .int x0), (2, .int x1), (3, .ref o)]) (by decide) rfl (Nat.le_of_ble_eq_true rfl) rfl rfl ?_
  intro G C0 hF hX
  refine J_aln C0 3 dL_set_0 (kk := ?_)
  refine J_ic C0 0 dL_set_1 (kk := ?_)
  refine J_aln C0 0 dL_set_2 (kk := ?_)
  refine J_iln C0 1 dL_set_3 (kk := ?_)
  refine J_iln C0 2 dL_set_4 (kk := ?_)
  refine J_callVL C0 hX hM [outW K o lf] gL_set_X4_set dL_set_5 2 0 hrec (hR := ⟨hR.1, hR.2.1⟩) (hf := ⟨by rw [Nat.zero_add]; exact hR.2.2.1, by rw [Nat.zero_add]; exact hR.2.2.2⟩) (kk := ?_)
  show J G (outW K o lf :: w1) _ _ _ _ [.int r, .int (nI 0), .ref o]
  refine J_i2l C0 dL_set_8 (kk := ?_)
  refine J_last C0 0 0 1 (outW K o (vp_updL lf 0 r.toInt64) :: w1) dL_set_9 (by decide) (kk := ?_)
  refine J_goto C0 21 dL_set_10 (kk := ?_)
  refine J_ic C0 0 dL_set_21 (kk := ?_)
  exact J_iret C0 hF dL_set_22 ⟨rfl, rfl⟩ (by rw [Nat.zero_add]; exact hR.2.2.1) (by rw [Nat.zero_add]; exact hR.2.2.2)

theorem wL_set_t1 {K : KT} (l : Launch) {b o : Nat} (x0 : Int32) (x1 : Int32) {w0 : List va_W} {fs : List Value} (lf : Nat → Int64) {rmc : Room} {tl tg : Nat} (hrec : (w0.flatten)[0]? = some (b, .inr (4, fs))) (hR : rmc.frames + 1 ≤ 9 ∧ 8 + (4 + 11) + rmc.locals ≤ 250 ∧ rmc.cells ≤ 1 ∧ rmc.slots ≤ 6) (hM : CtTL l K yX4_set wsX4_set rmc [.ref b, .int x0, .int x1] w0 "java/lang/IndexOutOfBoundsException" tl tg) : CtW l K yL_set wsL_set rmL [.ref b, .int x0, .int x1, .ref o] (outW K o lf :: w0) (some (.int (nI 1))) (outW K o lf :: w0) tl tg := by
  refine CtW_of (cc := cL_set) (nL := 5) (rt := some .int) (hh := [(0, 10, 13, 19), (0, 10, 17, 21)]) (own := RL) (lv0 := [(0, .ref b), (1, .int x0), (2, .int x1), (3, .ref o)]) (by decide) rfl (Nat.le_of_ble_eq_true rfl) rfl rfl ?_
  intro G C0 hF hX
  have lk19 : Cond.classLink RL 19 "java/lang/IndexOutOfBoundsException" ∈ wsL_set := by decide +kernel
  refine J_aln C0 3 dL_set_0 (kk := ?_)
  refine J_ic C0 0 dL_set_1 (kk := ?_)
  refine J_aln C0 0 dL_set_2 (kk := ?_)
  refine J_iln C0 1 dL_set_3 (kk := ?_)
  refine J_iln C0 2 dL_set_4 (kk := ?_)
  refine J_tryV C0 hX hM [outW K o lf] gL_set_X4_set dL_set_5 2 0 hrec [] ⟨0, 10, 13, 19⟩ [⟨0, 10, 17, 21⟩] (fun z hz => by
      cases hz) lk19 (hR := ⟨hR.1, hR.2.1⟩) (hf := ⟨by rw [Nat.zero_add]; exact hR.2.2.1, by rw [Nat.zero_add]; exact hR.2.2.2⟩) (kk := fun q => ?_)
  show J G (outW K o lf :: w0) _ _ _ 13 [.ref q]
  refine J_as C0 ((4, Value.ref q) :: [(0, .ref b), (1, .int x0), (2, .int x1), (3, .ref o)]) dL_set_13 (kk := ?_)
  refine J_ic C0 1 dL_set_15 (kk := ?_)
  exact J_iret C0 hF dL_set_16 ⟨rfl, rfl⟩ (by rw [Nat.zero_add]; exact hR.2.2.1) (by rw [Nat.zero_add]; exact hR.2.2.2)

theorem wL_set_t2 {K : KT} (l : Launch) {b o : Nat} (x0 : Int32) (x1 : Int32) {w0 : List va_W} {fs : List Value} (lf : Nat → Int64) {rmc : Room} {tl tg : Nat} (hrec : (w0.flatten)[0]? = some (b, .inr (4, fs))) (hR : rmc.frames + 1 ≤ 9 ∧ 8 + (4 + 11) + rmc.locals ≤ 250 ∧ rmc.cells ≤ 1 ∧ rmc.slots ≤ 6) (hM : CtTL l K yX4_set wsX4_set rmc [.ref b, .int x0, .int x1] w0 "java/lang/IllegalArgumentException" tl tg) : CtW l K yL_set wsL_set rmL [.ref b, .int x0, .int x1, .ref o] (outW K o lf :: w0) (some (.int (nI 2))) (outW K o lf :: w0) tl tg := by
  refine CtW_of (cc := cL_set) (nL := 5) (rt := some .int) (hh := [(0, 10, 13, 19), (0, 10, 17, 21)]) (own := RL) (lv0 := [(0, .ref b), (1, .int x0), (2, .int x1), (3, .ref o)]) (by decide) rfl (Nat.le_of_ble_eq_true rfl) rfl rfl ?_
  intro G C0 hF hX
  have lk19 : Cond.classLink RL 19 "java/lang/IndexOutOfBoundsException" ∈ wsL_set := by decide +kernel
  have lk21 : Cond.classLink RL 21 "java/lang/IllegalArgumentException" ∈ wsL_set := by decide +kernel
  refine J_aln C0 3 dL_set_0 (kk := ?_)
  refine J_ic C0 0 dL_set_1 (kk := ?_)
  refine J_aln C0 0 dL_set_2 (kk := ?_)
  refine J_iln C0 1 dL_set_3 (kk := ?_)
  refine J_iln C0 2 dL_set_4 (kk := ?_)
  refine J_tryV C0 hX hM [outW K o lf] gL_set_X4_set dL_set_5 2 0 hrec [⟨0, 10, 13, 19⟩] ⟨0, 10, 17, 21⟩ [] (fun z hz => by
      rcases List.mem_cons.mp hz with rfl | hz
      · exact ⟨by decide, _, lk19, by decide⟩
      cases hz) lk21 (hR := ⟨hR.1, hR.2.1⟩) (hf := ⟨by rw [Nat.zero_add]; exact hR.2.2.1, by rw [Nat.zero_add]; exact hR.2.2.2⟩) (kk := fun q => ?_)
  show J G (outW K o lf :: w0) _ _ _ 17 [.ref q]
  refine J_as C0 ((4, Value.ref q) :: [(0, .ref b), (1, .int x0), (2, .int x1), (3, .ref o)]) dL_set_17 (kk := ?_)
  refine J_ic C0 2 dL_set_19 (kk := ?_)
  exact J_iret C0 hF dL_set_20 ⟨rfl, rfl⟩ (by rw [Nat.zero_add]; exact hR.2.2.1) (by rw [Nat.zero_add]; exact hR.2.2.2)

theorem wL_append {K : KT} (l : Launch) {b o : Nat} (x0 : Int32) {w0 w1 : List va_W} {fs : List Value} (lf : Nat → Int64) {rmc : Room} {tl tg : Nat} (hrec : (w0.flatten)[0]? = some (b, .inr (4, fs))) (hR : rmc.frames + 1 ≤ 9 ∧ 8 + (2 + 11) + rmc.locals ≤ 250 ∧ rmc.cells ≤ 1 ∧ rmc.slots ≤ 6) {r : Int32} (hM : CtL l K yX4_append wsX4_append rmc [.ref b, .int x0] w0 (some (.int r)) w1 tl tg) : CtW l K yL_append wsL_append rmL [.ref b, .int x0, .ref o] (outW K o lf :: w0) (some (.int (nI 0))) (outW K o (vp_updL lf 0 r.toInt64) :: w1) tl tg := by
  refine CtW_of (cc := cL_append) (nL := 4) (rt := some .int) (hh := [(0, 9, 12, 21), (0, 9, 15, 13)]) (own := RL) (lv0 := [(0, .ref b), (1, .int x0), (2, .ref o)]) (by decide) rfl (Nat.le_of_ble_eq_true rfl) rfl rfl ?_
  intro G C0 hF hX
  refine J_aln C0 2 dL_append_0 (kk := ?_)
  refine J_ic C0 0 dL_append_1 (kk := ?_)
  refine J_aln C0 0 dL_append_2 (kk := ?_)
  refine J_iln C0 1 dL_append_3 (kk := ?_)
  refine J_callVL C0 hX hM [outW K o lf] gL_append_X4_append dL_append_4 1 0 hrec (hR := ⟨hR.1, hR.2.1⟩) (hf := ⟨by rw [Nat.zero_add]; exact hR.2.2.1, by rw [Nat.zero_add]; exact hR.2.2.2⟩) (kk := ?_)
  show J G (outW K o lf :: w1) _ _ _ _ [.int r, .int (nI 0), .ref o]
  refine J_i2l C0 dL_append_7 (kk := ?_)
  refine J_last C0 0 0 1 (outW K o (vp_updL lf 0 r.toInt64) :: w1) dL_append_8 (by decide) (kk := ?_)
  refine J_goto C0 18 dL_append_9 (kk := ?_)
  refine J_ic C0 0 dL_append_18 (kk := ?_)
  exact J_iret C0 hF dL_append_19 ⟨rfl, rfl⟩ (by rw [Nat.zero_add]; exact hR.2.2.1) (by rw [Nat.zero_add]; exact hR.2.2.2)

theorem wL_append_t1 {K : KT} (l : Launch) {b o : Nat} (x0 : Int32) {w0 : List va_W} {fs : List Value} (lf : Nat → Int64) {rmc : Room} {tl tg : Nat} (hrec : (w0.flatten)[0]? = some (b, .inr (4, fs))) (hR : rmc.frames + 1 ≤ 9 ∧ 8 + (2 + 11) + rmc.locals ≤ 250 ∧ rmc.cells ≤ 1 ∧ rmc.slots ≤ 6) (hM : CtTL l K yX4_append wsX4_append rmc [.ref b, .int x0] w0 "java/lang/IllegalArgumentException" tl tg) : CtW l K yL_append wsL_append rmL [.ref b, .int x0, .ref o] (outW K o lf :: w0) (some (.int (nI 1))) (outW K o lf :: w0) tl tg := by
  refine CtW_of (cc := cL_append) (nL := 4) (rt := some .int) (hh := [(0, 9, 12, 21), (0, 9, 15, 13)]) (own := RL) (lv0 := [(0, .ref b), (1, .int x0), (2, .ref o)]) (by decide) rfl (Nat.le_of_ble_eq_true rfl) rfl rfl ?_
  intro G C0 hF hX
  have lk21 : Cond.classLink RL 21 "java/lang/IllegalArgumentException" ∈ wsL_append := by decide +kernel
  refine J_aln C0 2 dL_append_0 (kk := ?_)
  refine J_ic C0 0 dL_append_1 (kk := ?_)
  refine J_aln C0 0 dL_append_2 (kk := ?_)
  refine J_iln C0 1 dL_append_3 (kk := ?_)
  refine J_tryV C0 hX hM [outW K o lf] gL_append_X4_append dL_append_4 1 0 hrec [] ⟨0, 9, 12, 21⟩ [⟨0, 9, 15, 13⟩] (fun z hz => by
      cases hz) lk21 (hR := ⟨hR.1, hR.2.1⟩) (hf := ⟨by rw [Nat.zero_add]; exact hR.2.2.1, by rw [Nat.zero_add]; exact hR.2.2.2⟩) (kk := fun q => ?_)
  show J G (outW K o lf :: w0) _ _ _ 12 [.ref q]
  refine J_asn C0 ((3, Value.ref q) :: [(0, .ref b), (1, .int x0), (2, .ref o)]) dL_append_12 (kk := ?_)
  refine J_ic C0 1 dL_append_13 (kk := ?_)
  exact J_iret C0 hF dL_append_14 ⟨rfl, rfl⟩ (by rw [Nat.zero_add]; exact hR.2.2.1) (by rw [Nat.zero_add]; exact hR.2.2.2)

theorem wL_append_t2 {K : KT} (l : Launch) {b o : Nat} (x0 : Int32) {w0 : List va_W} {fs : List Value} (lf : Nat → Int64) {rmc : Room} {tl tg : Nat} (hrec : (w0.flatten)[0]? = some (b, .inr (4, fs))) (hR : rmc.frames + 1 ≤ 9 ∧ 8 + (2 + 11) + rmc.locals ≤ 250 ∧ rmc.cells ≤ 1 ∧ rmc.slots ≤ 6) (hM : CtTL l K yX4_append wsX4_append rmc [.ref b, .int x0] w0 "java/lang/IllegalStateException" tl tg) : CtW l K yL_append wsL_append rmL [.ref b, .int x0, .ref o] (outW K o lf :: w0) (some (.int (nI 2))) (outW K o lf :: w0) tl tg := by
  refine CtW_of (cc := cL_append) (nL := 4) (rt := some .int) (hh := [(0, 9, 12, 21), (0, 9, 15, 13)]) (own := RL) (lv0 := [(0, .ref b), (1, .int x0), (2, .ref o)]) (by decide) rfl (Nat.le_of_ble_eq_true rfl) rfl rfl ?_
  intro G C0 hF hX
  have lk21 : Cond.classLink RL 21 "java/lang/IllegalArgumentException" ∈ wsL_append := by decide +kernel
  have lk13 : Cond.classLink RL 13 "java/lang/IllegalStateException" ∈ wsL_append := by decide +kernel
  refine J_aln C0 2 dL_append_0 (kk := ?_)
  refine J_ic C0 0 dL_append_1 (kk := ?_)
  refine J_aln C0 0 dL_append_2 (kk := ?_)
  refine J_iln C0 1 dL_append_3 (kk := ?_)
  refine J_tryV C0 hX hM [outW K o lf] gL_append_X4_append dL_append_4 1 0 hrec [⟨0, 9, 12, 21⟩] ⟨0, 9, 15, 13⟩ [] (fun z hz => by
      rcases List.mem_cons.mp hz with rfl | hz
      · exact ⟨by decide, _, lk21, by decide⟩
      cases hz) lk13 (hR := ⟨hR.1, hR.2.1⟩) (hf := ⟨by rw [Nat.zero_add]; exact hR.2.2.1, by rw [Nat.zero_add]; exact hR.2.2.2⟩) (kk := fun q => ?_)
  show J G (outW K o lf :: w0) _ _ _ 15 [.ref q]
  refine J_asn C0 ((3, Value.ref q) :: [(0, .ref b), (1, .int x0), (2, .ref o)]) dL_append_15 (kk := ?_)
  refine J_ic C0 2 dL_append_16 (kk := ?_)
  exact J_iret C0 hF dL_append_17 ⟨rfl, rfl⟩ (by rw [Nat.zero_add]; exact hR.2.2.1) (by rw [Nat.zero_add]; exact hR.2.2.2)

theorem wL_run {K : KT} (l : Launch) {b o : Nat} {w0 w1 : List va_W} {fs : List Value} (lf : Nat → Int64) {rmc : Room} {tl tg : Nat} (hrec : (w0.flatten)[0]? = some (b, .inr (4, fs))) (hR : rmc.frames + 1 ≤ 9 ∧ 8 + (3 + 11) + rmc.locals ≤ 250 ∧ rmc.cells ≤ 1 ∧ rmc.slots ≤ 6) {r : Int32} (hM : CtL l K yX4_run wsX4_run rmc [.ref b] w0 (some (.int r)) w1 tl tg) : CtW l K yL_run wsL_run rmL [.ref b, .ref o] (outW K o lf :: w0) (some (.int (nI 0))) (outW K o (vp_updL lf 0 r.toInt64) :: w1) tl tg := by
  refine CtW_of (cc := cL_run) (nL := 3) (rt := some .int) (hh := [(0, 8, 11, 21)]) (own := RL) (lv0 := [(0, .ref b), (1, .ref o)]) (by decide) rfl (Nat.le_of_ble_eq_true rfl) rfl rfl ?_
  intro G C0 hF hX
  refine J_aln C0 1 dL_run_0 (kk := ?_)
  refine J_ic C0 0 dL_run_1 (kk := ?_)
  refine J_aln C0 0 dL_run_2 (kk := ?_)
  refine J_callVL C0 hX hM [outW K o lf] gL_run_X4_run dL_run_3 0 0 hrec (hR := ⟨hR.1, hR.2.1⟩) (hf := ⟨by rw [Nat.zero_add]; exact hR.2.2.1, by rw [Nat.zero_add]; exact hR.2.2.2⟩) (kk := ?_)
  show J G (outW K o lf :: w1) _ _ _ _ [.int r, .int (nI 0), .ref o]
  refine J_i2l C0 dL_run_6 (kk := ?_)
  refine J_last C0 0 0 1 (outW K o (vp_updL lf 0 r.toInt64) :: w1) dL_run_7 (by decide) (kk := ?_)
  refine J_goto C0 14 dL_run_8 (kk := ?_)
  refine J_ic C0 0 dL_run_14 (kk := ?_)
  exact J_iret C0 hF dL_run_15 ⟨rfl, rfl⟩ (by rw [Nat.zero_add]; exact hR.2.2.1) (by rw [Nat.zero_add]; exact hR.2.2.2)

theorem wL_run_t1 {K : KT} (l : Launch) {b o : Nat} {w0 : List va_W} {fs : List Value} (lf : Nat → Int64) {rmc : Room} {tl tg : Nat} (hrec : (w0.flatten)[0]? = some (b, .inr (4, fs))) (hR : rmc.frames + 1 ≤ 9 ∧ 8 + (3 + 11) + rmc.locals ≤ 250 ∧ rmc.cells ≤ 1 ∧ rmc.slots ≤ 6) (hM : CtTL l K yX4_run wsX4_run rmc [.ref b] w0 "java/lang/IllegalArgumentException" tl tg) : CtW l K yL_run wsL_run rmL [.ref b, .ref o] (outW K o lf :: w0) (some (.int (nI 1))) (outW K o lf :: w0) tl tg := by
  refine CtW_of (cc := cL_run) (nL := 3) (rt := some .int) (hh := [(0, 8, 11, 21)]) (own := RL) (lv0 := [(0, .ref b), (1, .ref o)]) (by decide) rfl (Nat.le_of_ble_eq_true rfl) rfl rfl ?_
  intro G C0 hF hX
  have lk21 : Cond.classLink RL 21 "java/lang/IllegalArgumentException" ∈ wsL_run := by decide +kernel
  refine J_aln C0 1 dL_run_0 (kk := ?_)
  refine J_ic C0 0 dL_run_1 (kk := ?_)
  refine J_aln C0 0 dL_run_2 (kk := ?_)
  refine J_tryV C0 hX hM [outW K o lf] gL_run_X4_run dL_run_3 0 0 hrec [] ⟨0, 8, 11, 21⟩ [] (fun z hz => by
      cases hz) lk21 (hR := ⟨hR.1, hR.2.1⟩) (hf := ⟨by rw [Nat.zero_add]; exact hR.2.2.1, by rw [Nat.zero_add]; exact hR.2.2.2⟩) (kk := fun q => ?_)
  show J G (outW K o lf :: w0) _ _ _ 11 [.ref q]
  refine J_asn C0 ((2, Value.ref q) :: [(0, .ref b), (1, .ref o)]) dL_run_11 (kk := ?_)
  refine J_ic C0 1 dL_run_12 (kk := ?_)
  exact J_iret C0 hF dL_run_13 ⟨rfl, rfl⟩ (by rw [Nat.zero_add]; exact hR.2.2.1) (by rw [Nat.zero_add]; exact hR.2.2.2)

theorem wL_keep {K : KT} (l : Launch) {b o : Nat} (x0 : Int32) {w0 w1 : List va_W} {fs : List Value} (lf : Nat → Int64) {rmc : Room} {tl tg : Nat} (hrec : (w0.flatten)[0]? = some (b, .inr (4, fs))) (hR : rmc.frames + 1 ≤ 9 ∧ 8 + (2 + 11) + rmc.locals ≤ 250 ∧ rmc.cells ≤ 1 ∧ rmc.slots ≤ 6) {r : Int32} (hM : CtL l K yX4_keep wsX4_keep rmc [.ref b, .int x0] w0 (some (.int r)) w1 tl tg) : CtW l K yL_keep wsL_keep rmL [.ref b, .int x0, .ref o] (outW K o lf :: w0) (some (.int (nI 0))) (outW K o (vp_updL lf 0 r.toInt64) :: w1) tl tg := by
  refine CtW_of (cc := cL_keep) (nL := 4) (rt := some .int) (hh := [(0, 9, 12, 21)]) (own := RL) (lv0 := [(0, .ref b), (1, .int x0), (2, .ref o)]) (by decide) rfl (Nat.le_of_ble_eq_true rfl) rfl rfl ?_
  intro G C0 hF hX
  refine J_aln C0 2 dL_keep_0 (kk := ?_)
  refine J_ic C0 0 dL_keep_1 (kk := ?_)
  refine J_aln C0 0 dL_keep_2 (kk := ?_)
  refine J_iln C0 1 dL_keep_3 (kk := ?_)
  refine J_callVL C0 hX hM [outW K o lf] gL_keep_X4_keep dL_keep_4 1 0 hrec (hR := ⟨hR.1, hR.2.1⟩) (hf := ⟨by rw [Nat.zero_add]; exact hR.2.2.1, by rw [Nat.zero_add]; exact hR.2.2.2⟩) (kk := ?_)
  show J G (outW K o lf :: w1) _ _ _ _ [.int r, .int (nI 0), .ref o]
  refine J_i2l C0 dL_keep_7 (kk := ?_)
  refine J_last C0 0 0 1 (outW K o (vp_updL lf 0 r.toInt64) :: w1) dL_keep_8 (by decide) (kk := ?_)
  refine J_goto C0 15 dL_keep_9 (kk := ?_)
  refine J_ic C0 0 dL_keep_15 (kk := ?_)
  exact J_iret C0 hF dL_keep_16 ⟨rfl, rfl⟩ (by rw [Nat.zero_add]; exact hR.2.2.1) (by rw [Nat.zero_add]; exact hR.2.2.2)

theorem wL_keep_t1 {K : KT} (l : Launch) {b o : Nat} (x0 : Int32) {w0 : List va_W} {fs : List Value} (lf : Nat → Int64) {rmc : Room} {tl tg : Nat} (hrec : (w0.flatten)[0]? = some (b, .inr (4, fs))) (hR : rmc.frames + 1 ≤ 9 ∧ 8 + (2 + 11) + rmc.locals ≤ 250 ∧ rmc.cells ≤ 1 ∧ rmc.slots ≤ 6) (hM : CtTL l K yX4_keep wsX4_keep rmc [.ref b, .int x0] w0 "java/lang/IllegalArgumentException" tl tg) : CtW l K yL_keep wsL_keep rmL [.ref b, .int x0, .ref o] (outW K o lf :: w0) (some (.int (nI 1))) (outW K o lf :: w0) tl tg := by
  refine CtW_of (cc := cL_keep) (nL := 4) (rt := some .int) (hh := [(0, 9, 12, 21)]) (own := RL) (lv0 := [(0, .ref b), (1, .int x0), (2, .ref o)]) (by decide) rfl (Nat.le_of_ble_eq_true rfl) rfl rfl ?_
  intro G C0 hF hX
  have lk21 : Cond.classLink RL 21 "java/lang/IllegalArgumentException" ∈ wsL_keep := by decide +kernel
  refine J_aln C0 2 dL_keep_0 (kk := ?_)
  refine J_ic C0 0 dL_keep_1 (kk := ?_)
  refine J_aln C0 0 dL_keep_2 (kk := ?_)
  refine J_iln C0 1 dL_keep_3 (kk := ?_)
  refine J_tryV C0 hX hM [outW K o lf] gL_keep_X4_keep dL_keep_4 1 0 hrec [] ⟨0, 9, 12, 21⟩ [] (fun z hz => by
      cases hz) lk21 (hR := ⟨hR.1, hR.2.1⟩) (hf := ⟨by rw [Nat.zero_add]; exact hR.2.2.1, by rw [Nat.zero_add]; exact hR.2.2.2⟩) (kk := fun q => ?_)
  show J G (outW K o lf :: w0) _ _ _ 12 [.ref q]
  refine J_asn C0 ((3, Value.ref q) :: [(0, .ref b), (1, .int x0), (2, .ref o)]) dL_keep_12 (kk := ?_)
  refine J_ic C0 1 dL_keep_13 (kk := ?_)
  exact J_iret C0 hF dL_keep_14 ⟨rfl, rfl⟩ (by rw [Nat.zero_add]; exact hR.2.2.1) (by rw [Nat.zero_add]; exact hR.2.2.2)

theorem wL_goBack {K : KT} (l : Launch) {b o : Nat} (x0 : Int32) {w0 w1 : List va_W} {fs : List Value} (lf : Nat → Int64) {rmc : Room} {tl tg : Nat} (hrec : (w0.flatten)[0]? = some (b, .inr (4, fs))) (hR : rmc.frames + 1 ≤ 9 ∧ 8 + (2 + 11) + rmc.locals ≤ 250 ∧ rmc.cells ≤ 1 ∧ rmc.slots ≤ 6) {r : Int32} (hM : CtL l K yX4_goBack wsX4_goBack rmc [.ref b, .int x0] w0 (some (.int r)) w1 tl tg) : CtW l K yL_goBack wsL_goBack rmL [.ref b, .int x0, .ref o] (outW K o lf :: w0) (some (.int (nI 0))) (outW K o (vp_updL lf 0 r.toInt64) :: w1) tl tg := by
  refine CtW_of (cc := cL_goBack) (nL := 4) (rt := some .int) (hh := [(0, 9, 12, 21), (0, 9, 15, 13)]) (own := RL) (lv0 := [(0, .ref b), (1, .int x0), (2, .ref o)]) (by decide) rfl (Nat.le_of_ble_eq_true rfl) rfl rfl ?_
  intro G C0 hF hX
  refine J_aln C0 2 dL_goBack_0 (kk := ?_)
  refine J_ic C0 0 dL_goBack_1 (kk := ?_)
  refine J_aln C0 0 dL_goBack_2 (kk := ?_)
  refine J_iln C0 1 dL_goBack_3 (kk := ?_)
  refine J_callVL C0 hX hM [outW K o lf] gL_goBack_X4_goBack dL_goBack_4 1 0 hrec (hR := ⟨hR.1, hR.2.1⟩) (hf := ⟨by rw [Nat.zero_add]; exact hR.2.2.1, by rw [Nat.zero_add]; exact hR.2.2.2⟩) (kk := ?_)
  show J G (outW K o lf :: w1) _ _ _ _ [.int r, .int (nI 0), .ref o]
  refine J_i2l C0 dL_goBack_7 (kk := ?_)
  refine J_last C0 0 0 1 (outW K o (vp_updL lf 0 r.toInt64) :: w1) dL_goBack_8 (by decide) (kk := ?_)
  refine J_goto C0 18 dL_goBack_9 (kk := ?_)
  refine J_ic C0 0 dL_goBack_18 (kk := ?_)
  exact J_iret C0 hF dL_goBack_19 ⟨rfl, rfl⟩ (by rw [Nat.zero_add]; exact hR.2.2.1) (by rw [Nat.zero_add]; exact hR.2.2.2)

theorem wL_goBack_t1 {K : KT} (l : Launch) {b o : Nat} (x0 : Int32) {w0 : List va_W} {fs : List Value} (lf : Nat → Int64) {rmc : Room} {tl tg : Nat} (hrec : (w0.flatten)[0]? = some (b, .inr (4, fs))) (hR : rmc.frames + 1 ≤ 9 ∧ 8 + (2 + 11) + rmc.locals ≤ 250 ∧ rmc.cells ≤ 1 ∧ rmc.slots ≤ 6) (hM : CtTL l K yX4_goBack wsX4_goBack rmc [.ref b, .int x0] w0 "java/lang/IllegalArgumentException" tl tg) : CtW l K yL_goBack wsL_goBack rmL [.ref b, .int x0, .ref o] (outW K o lf :: w0) (some (.int (nI 1))) (outW K o lf :: w0) tl tg := by
  refine CtW_of (cc := cL_goBack) (nL := 4) (rt := some .int) (hh := [(0, 9, 12, 21), (0, 9, 15, 13)]) (own := RL) (lv0 := [(0, .ref b), (1, .int x0), (2, .ref o)]) (by decide) rfl (Nat.le_of_ble_eq_true rfl) rfl rfl ?_
  intro G C0 hF hX
  have lk21 : Cond.classLink RL 21 "java/lang/IllegalArgumentException" ∈ wsL_goBack := by decide +kernel
  refine J_aln C0 2 dL_goBack_0 (kk := ?_)
  refine J_ic C0 0 dL_goBack_1 (kk := ?_)
  refine J_aln C0 0 dL_goBack_2 (kk := ?_)
  refine J_iln C0 1 dL_goBack_3 (kk := ?_)
  refine J_tryV C0 hX hM [outW K o lf] gL_goBack_X4_goBack dL_goBack_4 1 0 hrec [] ⟨0, 9, 12, 21⟩ [⟨0, 9, 15, 13⟩] (fun z hz => by
      cases hz) lk21 (hR := ⟨hR.1, hR.2.1⟩) (hf := ⟨by rw [Nat.zero_add]; exact hR.2.2.1, by rw [Nat.zero_add]; exact hR.2.2.2⟩) (kk := fun q => ?_)
  show J G (outW K o lf :: w0) _ _ _ 12 [.ref q]
  refine J_asn C0 ((3, Value.ref q) :: [(0, .ref b), (1, .int x0), (2, .ref o)]) dL_goBack_12 (kk := ?_)
  refine J_ic C0 1 dL_goBack_13 (kk := ?_)
  exact J_iret C0 hF dL_goBack_14 ⟨rfl, rfl⟩ (by rw [Nat.zero_add]; exact hR.2.2.1) (by rw [Nat.zero_add]; exact hR.2.2.2)

theorem wL_goBack_t2 {K : KT} (l : Launch) {b o : Nat} (x0 : Int32) {w0 : List va_W} {fs : List Value} (lf : Nat → Int64) {rmc : Room} {tl tg : Nat} (hrec : (w0.flatten)[0]? = some (b, .inr (4, fs))) (hR : rmc.frames + 1 ≤ 9 ∧ 8 + (2 + 11) + rmc.locals ≤ 250 ∧ rmc.cells ≤ 1 ∧ rmc.slots ≤ 6) (hM : CtTL l K yX4_goBack wsX4_goBack rmc [.ref b, .int x0] w0 "java/lang/IllegalStateException" tl tg) : CtW l K yL_goBack wsL_goBack rmL [.ref b, .int x0, .ref o] (outW K o lf :: w0) (some (.int (nI 2))) (outW K o lf :: w0) tl tg := by
  refine CtW_of (cc := cL_goBack) (nL := 4) (rt := some .int) (hh := [(0, 9, 12, 21), (0, 9, 15, 13)]) (own := RL) (lv0 := [(0, .ref b), (1, .int x0), (2, .ref o)]) (by decide) rfl (Nat.le_of_ble_eq_true rfl) rfl rfl ?_
  intro G C0 hF hX
  have lk21 : Cond.classLink RL 21 "java/lang/IllegalArgumentException" ∈ wsL_goBack := by decide +kernel
  have lk13 : Cond.classLink RL 13 "java/lang/IllegalStateException" ∈ wsL_goBack := by decide +kernel
  refine J_aln C0 2 dL_goBack_0 (kk := ?_)
  refine J_ic C0 0 dL_goBack_1 (kk := ?_)
  refine J_aln C0 0 dL_goBack_2 (kk := ?_)
  refine J_iln C0 1 dL_goBack_3 (kk := ?_)
  refine J_tryV C0 hX hM [outW K o lf] gL_goBack_X4_goBack dL_goBack_4 1 0 hrec [⟨0, 9, 12, 21⟩] ⟨0, 9, 15, 13⟩ [] (fun z hz => by
      rcases List.mem_cons.mp hz with rfl | hz
      · exact ⟨by decide, _, lk21, by decide⟩
      cases hz) lk13 (hR := ⟨hR.1, hR.2.1⟩) (hf := ⟨by rw [Nat.zero_add]; exact hR.2.2.1, by rw [Nat.zero_add]; exact hR.2.2.2⟩) (kk := fun q => ?_)
  show J G (outW K o lf :: w0) _ _ _ 15 [.ref q]
  refine J_asn C0 ((3, Value.ref q) :: [(0, .ref b), (1, .int x0), (2, .ref o)]) dL_goBack_15 (kk := ?_)
  refine J_ic C0 2 dL_goBack_16 (kk := ?_)
  exact J_iret C0 hF dL_goBack_17 ⟨rfl, rfl⟩ (by rw [Nat.zero_add]; exact hR.2.2.1) (by rw [Nat.zero_add]; exact hR.2.2.2)

theorem wL_undo {K : KT} (l : Launch) {b o : Nat} {w0 w1 : List va_W} {fs : List Value} (lf : Nat → Int64) {rmc : Room} {tl tg : Nat} (hrec : (w0.flatten)[0]? = some (b, .inr (4, fs))) (hR : rmc.frames + 1 ≤ 9 ∧ 8 + (1 + 11) + rmc.locals ≤ 250 ∧ rmc.cells ≤ 1 ∧ rmc.slots ≤ 6) {r : Int32} (hM : CtL l K yX4_undo wsX4_undo rmc [.ref b] w0 (some (.int r)) w1 tl tg) : CtW l K yL_undo wsL_undo rmL [.ref b, .ref o] (outW K o lf :: w0) (some (.int (nI 0))) (outW K o (vp_updL lf 0 r.toInt64) :: w1) tl tg := by
  refine CtW_of (cc := cL_undo) (nL := 3) (rt := some .int) (hh := [(0, 8, 11, 13)]) (own := RL) (lv0 := [(0, .ref b), (1, .ref o)]) (by decide) rfl (Nat.le_of_ble_eq_true rfl) rfl rfl ?_
  intro G C0 hF hX
  refine J_aln C0 1 dL_undo_0 (kk := ?_)
  refine J_ic C0 0 dL_undo_1 (kk := ?_)
  refine J_aln C0 0 dL_undo_2 (kk := ?_)
  refine J_callVL C0 hX hM [outW K o lf] gL_undo_X4_undo dL_undo_3 0 0 hrec (hR := ⟨hR.1, hR.2.1⟩) (hf := ⟨by rw [Nat.zero_add]; exact hR.2.2.1, by rw [Nat.zero_add]; exact hR.2.2.2⟩) (kk := ?_)
  show J G (outW K o lf :: w1) _ _ _ _ [.int r, .int (nI 0), .ref o]
  refine J_i2l C0 dL_undo_6 (kk := ?_)
  refine J_last C0 0 0 1 (outW K o (vp_updL lf 0 r.toInt64) :: w1) dL_undo_7 (by decide) (kk := ?_)
  refine J_goto C0 14 dL_undo_8 (kk := ?_)
  refine J_ic C0 0 dL_undo_14 (kk := ?_)
  exact J_iret C0 hF dL_undo_15 ⟨rfl, rfl⟩ (by rw [Nat.zero_add]; exact hR.2.2.1) (by rw [Nat.zero_add]; exact hR.2.2.2)

theorem wL_undo_t1 {K : KT} (l : Launch) {b o : Nat} {w0 : List va_W} {fs : List Value} (lf : Nat → Int64) {rmc : Room} {tl tg : Nat} (hrec : (w0.flatten)[0]? = some (b, .inr (4, fs))) (hR : rmc.frames + 1 ≤ 9 ∧ 8 + (1 + 11) + rmc.locals ≤ 250 ∧ rmc.cells ≤ 1 ∧ rmc.slots ≤ 6) (hM : CtTL l K yX4_undo wsX4_undo rmc [.ref b] w0 "java/lang/IllegalStateException" tl tg) : CtW l K yL_undo wsL_undo rmL [.ref b, .ref o] (outW K o lf :: w0) (some (.int (nI 1))) (outW K o lf :: w0) tl tg := by
  refine CtW_of (cc := cL_undo) (nL := 3) (rt := some .int) (hh := [(0, 8, 11, 13)]) (own := RL) (lv0 := [(0, .ref b), (1, .ref o)]) (by decide) rfl (Nat.le_of_ble_eq_true rfl) rfl rfl ?_
  intro G C0 hF hX
  have lk13 : Cond.classLink RL 13 "java/lang/IllegalStateException" ∈ wsL_undo := by decide +kernel
  refine J_aln C0 1 dL_undo_0 (kk := ?_)
  refine J_ic C0 0 dL_undo_1 (kk := ?_)
  refine J_aln C0 0 dL_undo_2 (kk := ?_)
  refine J_tryV C0 hX hM [outW K o lf] gL_undo_X4_undo dL_undo_3 0 0 hrec [] ⟨0, 8, 11, 13⟩ [] (fun z hz => by
      cases hz) lk13 (hR := ⟨hR.1, hR.2.1⟩) (hf := ⟨by rw [Nat.zero_add]; exact hR.2.2.1, by rw [Nat.zero_add]; exact hR.2.2.2⟩) (kk := fun q => ?_)
  show J G (outW K o lf :: w0) _ _ _ 11 [.ref q]
  refine J_asn C0 ((2, Value.ref q) :: [(0, .ref b), (1, .ref o)]) dL_undo_11 (kk := ?_)
  refine J_ic C0 1 dL_undo_12 (kk := ?_)
  exact J_iret C0 hF dL_undo_13 ⟨rfl, rfl⟩ (by rw [Nat.zero_add]; exact hR.2.2.1) (by rw [Nat.zero_add]; exact hR.2.2.2)

theorem wL_kind {K : KT} (l : Launch) {b o : Nat} (x0 : Int32) (x1 : Int32) {w0 w1 : List va_W} {fs : List Value} (lf : Nat → Int64) {rmc : Room} {tl tg : Nat} (hrec : (w0.flatten)[0]? = some (b, .inr (4, fs))) (hR : rmc.frames + 1 ≤ 9 ∧ 8 + (3 + 11) + rmc.locals ≤ 250 ∧ rmc.cells ≤ 1 ∧ rmc.slots ≤ 6) {r : Int32} (hM : CtL l K yX4_kind wsX4_kind rmc [.ref b, .int x0, .int x1] w0 (some (.int r)) w1 tl tg) : CtW l K yL_kind wsL_kind rmL [.ref b, .int x0, .int x1, .ref o] (outW K o lf :: w0) (some (.int (nI 0))) (outW K o (vp_updL lf 0 r.toInt64) :: w1) tl tg := by
  refine CtW_of (cc := cL_kind) (nL := 5) (rt := some .int) (hh := [(0, 10, 13, 19), (0, 10, 17, 21)]) (own := RL) (lv0 := [(0, .ref b), (1, .int x0), (2, .int x1), (3, .ref o)]) (by decide) rfl (Nat.le_of_ble_eq_true rfl) rfl rfl ?_
  intro G C0 hF hX
  refine J_aln C0 3 dL_kind_0 (kk := ?_)
  refine J_ic C0 0 dL_kind_1 (kk := ?_)
  refine J_aln C0 0 dL_kind_2 (kk := ?_)
  refine J_iln C0 1 dL_kind_3 (kk := ?_)
  refine J_iln C0 2 dL_kind_4 (kk := ?_)
  refine J_callVL C0 hX hM [outW K o lf] gL_kind_X4_kind dL_kind_5 2 0 hrec (hR := ⟨hR.1, hR.2.1⟩) (hf := ⟨by rw [Nat.zero_add]; exact hR.2.2.1, by rw [Nat.zero_add]; exact hR.2.2.2⟩) (kk := ?_)
  show J G (outW K o lf :: w1) _ _ _ _ [.int r, .int (nI 0), .ref o]
  refine J_i2l C0 dL_kind_8 (kk := ?_)
  refine J_last C0 0 0 1 (outW K o (vp_updL lf 0 r.toInt64) :: w1) dL_kind_9 (by decide) (kk := ?_)
  refine J_goto C0 21 dL_kind_10 (kk := ?_)
  refine J_ic C0 0 dL_kind_21 (kk := ?_)
  exact J_iret C0 hF dL_kind_22 ⟨rfl, rfl⟩ (by rw [Nat.zero_add]; exact hR.2.2.1) (by rw [Nat.zero_add]; exact hR.2.2.2)

theorem wL_kind_t1 {K : KT} (l : Launch) {b o : Nat} (x0 : Int32) (x1 : Int32) {w0 : List va_W} {fs : List Value} (lf : Nat → Int64) {rmc : Room} {tl tg : Nat} (hrec : (w0.flatten)[0]? = some (b, .inr (4, fs))) (hR : rmc.frames + 1 ≤ 9 ∧ 8 + (3 + 11) + rmc.locals ≤ 250 ∧ rmc.cells ≤ 1 ∧ rmc.slots ≤ 6) (hM : CtTL l K yX4_kind wsX4_kind rmc [.ref b, .int x0, .int x1] w0 "java/lang/IndexOutOfBoundsException" tl tg) : CtW l K yL_kind wsL_kind rmL [.ref b, .int x0, .int x1, .ref o] (outW K o lf :: w0) (some (.int (nI 1))) (outW K o lf :: w0) tl tg := by
  refine CtW_of (cc := cL_kind) (nL := 5) (rt := some .int) (hh := [(0, 10, 13, 19), (0, 10, 17, 21)]) (own := RL) (lv0 := [(0, .ref b), (1, .int x0), (2, .int x1), (3, .ref o)]) (by decide) rfl (Nat.le_of_ble_eq_true rfl) rfl rfl ?_
  intro G C0 hF hX
  have lk19 : Cond.classLink RL 19 "java/lang/IndexOutOfBoundsException" ∈ wsL_kind := by decide +kernel
  refine J_aln C0 3 dL_kind_0 (kk := ?_)
  refine J_ic C0 0 dL_kind_1 (kk := ?_)
  refine J_aln C0 0 dL_kind_2 (kk := ?_)
  refine J_iln C0 1 dL_kind_3 (kk := ?_)
  refine J_iln C0 2 dL_kind_4 (kk := ?_)
  refine J_tryV C0 hX hM [outW K o lf] gL_kind_X4_kind dL_kind_5 2 0 hrec [] ⟨0, 10, 13, 19⟩ [⟨0, 10, 17, 21⟩] (fun z hz => by
      cases hz) lk19 (hR := ⟨hR.1, hR.2.1⟩) (hf := ⟨by rw [Nat.zero_add]; exact hR.2.2.1, by rw [Nat.zero_add]; exact hR.2.2.2⟩) (kk := fun q => ?_)
  show J G (outW K o lf :: w0) _ _ _ 13 [.ref q]
  refine J_as C0 ((4, Value.ref q) :: [(0, .ref b), (1, .int x0), (2, .int x1), (3, .ref o)]) dL_kind_13 (kk := ?_)
  refine J_ic C0 1 dL_kind_15 (kk := ?_)
  exact J_iret C0 hF dL_kind_16 ⟨rfl, rfl⟩ (by rw [Nat.zero_add]; exact hR.2.2.1) (by rw [Nat.zero_add]; exact hR.2.2.2)

theorem wL_kind_t2 {K : KT} (l : Launch) {b o : Nat} (x0 : Int32) (x1 : Int32) {w0 : List va_W} {fs : List Value} (lf : Nat → Int64) {rmc : Room} {tl tg : Nat} (hrec : (w0.flatten)[0]? = some (b, .inr (4, fs))) (hR : rmc.frames + 1 ≤ 9 ∧ 8 + (3 + 11) + rmc.locals ≤ 250 ∧ rmc.cells ≤ 1 ∧ rmc.slots ≤ 6) (hM : CtTL l K yX4_kind wsX4_kind rmc [.ref b, .int x0, .int x1] w0 "java/lang/IllegalArgumentException" tl tg) : CtW l K yL_kind wsL_kind rmL [.ref b, .int x0, .int x1, .ref o] (outW K o lf :: w0) (some (.int (nI 2))) (outW K o lf :: w0) tl tg := by
  refine CtW_of (cc := cL_kind) (nL := 5) (rt := some .int) (hh := [(0, 10, 13, 19), (0, 10, 17, 21)]) (own := RL) (lv0 := [(0, .ref b), (1, .int x0), (2, .int x1), (3, .ref o)]) (by decide) rfl (Nat.le_of_ble_eq_true rfl) rfl rfl ?_
  intro G C0 hF hX
  have lk19 : Cond.classLink RL 19 "java/lang/IndexOutOfBoundsException" ∈ wsL_kind := by decide +kernel
  have lk21 : Cond.classLink RL 21 "java/lang/IllegalArgumentException" ∈ wsL_kind := by decide +kernel
  refine J_aln C0 3 dL_kind_0 (kk := ?_)
  refine J_ic C0 0 dL_kind_1 (kk := ?_)
  refine J_aln C0 0 dL_kind_2 (kk := ?_)
  refine J_iln C0 1 dL_kind_3 (kk := ?_)
  refine J_iln C0 2 dL_kind_4 (kk := ?_)
  refine J_tryV C0 hX hM [outW K o lf] gL_kind_X4_kind dL_kind_5 2 0 hrec [⟨0, 10, 13, 19⟩] ⟨0, 10, 17, 21⟩ [] (fun z hz => by
      rcases List.mem_cons.mp hz with rfl | hz
      · exact ⟨by decide, _, lk19, by decide⟩
      cases hz) lk21 (hR := ⟨hR.1, hR.2.1⟩) (hf := ⟨by rw [Nat.zero_add]; exact hR.2.2.1, by rw [Nat.zero_add]; exact hR.2.2.2⟩) (kk := fun q => ?_)
  show J G (outW K o lf :: w0) _ _ _ 17 [.ref q]
  refine J_as C0 ((4, Value.ref q) :: [(0, .ref b), (1, .int x0), (2, .int x1), (3, .ref o)]) dL_kind_17 (kk := ?_)
  refine J_ic C0 2 dL_kind_19 (kk := ?_)
  exact J_iret C0 hF dL_kind_20 ⟨rfl, rfl⟩ (by rw [Nat.zero_add]; exact hR.2.2.1) (by rw [Nat.zero_add]; exact hR.2.2.2)

theorem wL_houseOf {K : KT} (l : Launch) {b o : Nat} (x0 : Int32) (x1 : Int32) (x2 : Int32) {w0 w1 : List va_W} {fs : List Value} (lf : Nat → Int64) {rmc : Room} {tl tg : Nat} (hrec : (w0.flatten)[0]? = some (b, .inr (4, fs))) (hR : rmc.frames + 1 ≤ 9 ∧ 8 + (4 + 11) + rmc.locals ≤ 250 ∧ rmc.cells ≤ 1 ∧ rmc.slots ≤ 6) {r : Int32} (hM : CtL l K yX4_houseOf wsX4_houseOf rmc [.ref b, .int x0, .int x1, .int x2] w0 (some (.int r)) w1 tl tg) : CtW l K yL_houseOf wsL_houseOf rmL [.ref b, .int x0, .int x1, .int x2, .ref o] (outW K o lf :: w0) (some (.int (nI 0))) (outW K o (vp_updL lf 0 r.toInt64) :: w1) tl tg := by
  refine CtW_of (cc := cL_houseOf) (nL := 6) (rt := some .int) (hh := [(0, 12, 15, 19), (0, 12, 19, 21)]) (own := RL) (lv0 := [(0, .ref b), (1, .int x0), (2, .int x1), (3, .int x2), (4, .ref o)]) (by decide) rfl (Nat.le_of_ble_eq_true rfl) rfl rfl ?_
  intro G C0 hF hX
  refine J_al C0 4 dL_houseOf_0 (kk := ?_)
  refine J_ic C0 0 dL_houseOf_2 (kk := ?_)
  refine J_aln C0 0 dL_houseOf_3 (kk := ?_)
  refine J_iln C0 1 dL_houseOf_4 (kk := ?_)
  refine J_iln C0 2 dL_houseOf_5 (kk := ?_)
  refine J_iln C0 3 dL_houseOf_6 (kk := ?_)
  refine J_callVL C0 hX hM [outW K o lf] gL_houseOf_X4_houseOf dL_houseOf_7 3 0 hrec (hR := ⟨hR.1, hR.2.1⟩) (hf := ⟨by rw [Nat.zero_add]; exact hR.2.2.1, by rw [Nat.zero_add]; exact hR.2.2.2⟩) (kk := ?_)
  show J G (outW K o lf :: w1) _ _ _ _ [.int r, .int (nI 0), .ref o]
  refine J_i2l C0 dL_houseOf_10 (kk := ?_)
  refine J_last C0 0 0 1 (outW K o (vp_updL lf 0 r.toInt64) :: w1) dL_houseOf_11 (by decide) (kk := ?_)
  refine J_goto C0 23 dL_houseOf_12 (kk := ?_)
  refine J_ic C0 0 dL_houseOf_23 (kk := ?_)
  exact J_iret C0 hF dL_houseOf_24 ⟨rfl, rfl⟩ (by rw [Nat.zero_add]; exact hR.2.2.1) (by rw [Nat.zero_add]; exact hR.2.2.2)

theorem wL_houseOf_t1 {K : KT} (l : Launch) {b o : Nat} (x0 : Int32) (x1 : Int32) (x2 : Int32) {w0 : List va_W} {fs : List Value} (lf : Nat → Int64) {rmc : Room} {tl tg : Nat} (hrec : (w0.flatten)[0]? = some (b, .inr (4, fs))) (hR : rmc.frames + 1 ≤ 9 ∧ 8 + (4 + 11) + rmc.locals ≤ 250 ∧ rmc.cells ≤ 1 ∧ rmc.slots ≤ 6) (hM : CtTL l K yX4_houseOf wsX4_houseOf rmc [.ref b, .int x0, .int x1, .int x2] w0 "java/lang/IndexOutOfBoundsException" tl tg) : CtW l K yL_houseOf wsL_houseOf rmL [.ref b, .int x0, .int x1, .int x2, .ref o] (outW K o lf :: w0) (some (.int (nI 1))) (outW K o lf :: w0) tl tg := by
  refine CtW_of (cc := cL_houseOf) (nL := 6) (rt := some .int) (hh := [(0, 12, 15, 19), (0, 12, 19, 21)]) (own := RL) (lv0 := [(0, .ref b), (1, .int x0), (2, .int x1), (3, .int x2), (4, .ref o)]) (by decide) rfl (Nat.le_of_ble_eq_true rfl) rfl rfl ?_
  intro G C0 hF hX
  have lk19 : Cond.classLink RL 19 "java/lang/IndexOutOfBoundsException" ∈ wsL_houseOf := by decide +kernel
  refine J_al C0 4 dL_houseOf_0 (kk := ?_)
  refine J_ic C0 0 dL_houseOf_2 (kk := ?_)
  refine J_aln C0 0 dL_houseOf_3 (kk := ?_)
  refine J_iln C0 1 dL_houseOf_4 (kk := ?_)
  refine J_iln C0 2 dL_houseOf_5 (kk := ?_)
  refine J_iln C0 3 dL_houseOf_6 (kk := ?_)
  refine J_tryV C0 hX hM [outW K o lf] gL_houseOf_X4_houseOf dL_houseOf_7 3 0 hrec [] ⟨0, 12, 15, 19⟩ [⟨0, 12, 19, 21⟩] (fun z hz => by
      cases hz) lk19 (hR := ⟨hR.1, hR.2.1⟩) (hf := ⟨by rw [Nat.zero_add]; exact hR.2.2.1, by rw [Nat.zero_add]; exact hR.2.2.2⟩) (kk := fun q => ?_)
  show J G (outW K o lf :: w0) _ _ _ 15 [.ref q]
  refine J_as C0 ((5, Value.ref q) :: [(0, .ref b), (1, .int x0), (2, .int x1), (3, .int x2), (4, .ref o)]) dL_houseOf_15 (kk := ?_)
  refine J_ic C0 1 dL_houseOf_17 (kk := ?_)
  exact J_iret C0 hF dL_houseOf_18 ⟨rfl, rfl⟩ (by rw [Nat.zero_add]; exact hR.2.2.1) (by rw [Nat.zero_add]; exact hR.2.2.2)

theorem wL_houseOf_t2 {K : KT} (l : Launch) {b o : Nat} (x0 : Int32) (x1 : Int32) (x2 : Int32) {w0 : List va_W} {fs : List Value} (lf : Nat → Int64) {rmc : Room} {tl tg : Nat} (hrec : (w0.flatten)[0]? = some (b, .inr (4, fs))) (hR : rmc.frames + 1 ≤ 9 ∧ 8 + (4 + 11) + rmc.locals ≤ 250 ∧ rmc.cells ≤ 1 ∧ rmc.slots ≤ 6) (hM : CtTL l K yX4_houseOf wsX4_houseOf rmc [.ref b, .int x0, .int x1, .int x2] w0 "java/lang/IllegalArgumentException" tl tg) : CtW l K yL_houseOf wsL_houseOf rmL [.ref b, .int x0, .int x1, .int x2, .ref o] (outW K o lf :: w0) (some (.int (nI 2))) (outW K o lf :: w0) tl tg := by
  refine CtW_of (cc := cL_houseOf) (nL := 6) (rt := some .int) (hh := [(0, 12, 15, 19), (0, 12, 19, 21)]) (own := RL) (lv0 := [(0, .ref b), (1, .int x0), (2, .int x1), (3, .int x2), (4, .ref o)]) (by decide) rfl (Nat.le_of_ble_eq_true rfl) rfl rfl ?_
  intro G C0 hF hX
  have lk19 : Cond.classLink RL 19 "java/lang/IndexOutOfBoundsException" ∈ wsL_houseOf := by decide +kernel
  have lk21 : Cond.classLink RL 21 "java/lang/IllegalArgumentException" ∈ wsL_houseOf := by decide +kernel
  refine J_al C0 4 dL_houseOf_0 (kk := ?_)
  refine J_ic C0 0 dL_houseOf_2 (kk := ?_)
  refine J_aln C0 0 dL_houseOf_3 (kk := ?_)
  refine J_iln C0 1 dL_houseOf_4 (kk := ?_)
  refine J_iln C0 2 dL_houseOf_5 (kk := ?_)
  refine J_iln C0 3 dL_houseOf_6 (kk := ?_)
  refine J_tryV C0 hX hM [outW K o lf] gL_houseOf_X4_houseOf dL_houseOf_7 3 0 hrec [⟨0, 12, 15, 19⟩] ⟨0, 12, 19, 21⟩ [] (fun z hz => by
      rcases List.mem_cons.mp hz with rfl | hz
      · exact ⟨by decide, _, lk19, by decide⟩
      cases hz) lk21 (hR := ⟨hR.1, hR.2.1⟩) (hf := ⟨by rw [Nat.zero_add]; exact hR.2.2.1, by rw [Nat.zero_add]; exact hR.2.2.2⟩) (kk := fun q => ?_)
  show J G (outW K o lf :: w0) _ _ _ 19 [.ref q]
  refine J_as C0 ((5, Value.ref q) :: [(0, .ref b), (1, .int x0), (2, .int x1), (3, .int x2), (4, .ref o)]) dL_houseOf_19 (kk := ?_)
  refine J_ic C0 2 dL_houseOf_21 (kk := ?_)
  exact J_iret C0 hF dL_houseOf_22 ⟨rfl, rfl⟩ (by rw [Nat.zero_add]; exact hR.2.2.1) (by rw [Nat.zero_add]; exact hR.2.2.2)

theorem wL_letter {K : KT} (l : Launch) {b o : Nat} (x0 : Int32) (x1 : Int32) {w0 w1 : List va_W} {fs : List Value} (lf : Nat → Int64) {rmc : Room} {tl tg : Nat} (hrec : (w0.flatten)[0]? = some (b, .inr (4, fs))) (hR : rmc.frames + 1 ≤ 9 ∧ 8 + (3 + 11) + rmc.locals ≤ 250 ∧ rmc.cells ≤ 1 ∧ rmc.slots ≤ 6) {r : Int32} (hM : CtL l K yX4_letter wsX4_letter rmc [.ref b, .int x0, .int x1] w0 (some (.int r)) w1 tl tg) : CtW l K yL_letter wsL_letter rmL [.ref b, .int x0, .int x1, .ref o] (outW K o lf :: w0) (some (.int (nI 0))) (outW K o (vp_updL lf 0 r.toInt64) :: w1) tl tg := by
  refine CtW_of (cc := cL_letter) (nL := 5) (rt := some .int) (hh := [(0, 10, 13, 21)]) (own := RL) (lv0 := [(0, .ref b), (1, .int x0), (2, .int x1), (3, .ref o)]) (by decide) rfl (Nat.le_of_ble_eq_true rfl) rfl rfl ?_
  intro G C0 hF hX
  refine J_aln C0 3 dL_letter_0 (kk := ?_)
  refine J_ic C0 0 dL_letter_1 (kk := ?_)
  refine J_aln C0 0 dL_letter_2 (kk := ?_)
  refine J_iln C0 1 dL_letter_3 (kk := ?_)
  refine J_iln C0 2 dL_letter_4 (kk := ?_)
  refine J_callVL C0 hX hM [outW K o lf] gL_letter_X4_letter dL_letter_5 2 0 hrec (hR := ⟨hR.1, hR.2.1⟩) (hf := ⟨by rw [Nat.zero_add]; exact hR.2.2.1, by rw [Nat.zero_add]; exact hR.2.2.2⟩) (kk := ?_)
  show J G (outW K o lf :: w1) _ _ _ _ [.int r, .int (nI 0), .ref o]
  refine J_i2l C0 dL_letter_8 (kk := ?_)
  refine J_last C0 0 0 1 (outW K o (vp_updL lf 0 r.toInt64) :: w1) dL_letter_9 (by decide) (kk := ?_)
  refine J_goto C0 17 dL_letter_10 (kk := ?_)
  refine J_ic C0 0 dL_letter_17 (kk := ?_)
  exact J_iret C0 hF dL_letter_18 ⟨rfl, rfl⟩ (by rw [Nat.zero_add]; exact hR.2.2.1) (by rw [Nat.zero_add]; exact hR.2.2.2)

theorem wL_letter_t1 {K : KT} (l : Launch) {b o : Nat} (x0 : Int32) (x1 : Int32) {w0 : List va_W} {fs : List Value} (lf : Nat → Int64) {rmc : Room} {tl tg : Nat} (hrec : (w0.flatten)[0]? = some (b, .inr (4, fs))) (hR : rmc.frames + 1 ≤ 9 ∧ 8 + (3 + 11) + rmc.locals ≤ 250 ∧ rmc.cells ≤ 1 ∧ rmc.slots ≤ 6) (hM : CtTL l K yX4_letter wsX4_letter rmc [.ref b, .int x0, .int x1] w0 "java/lang/IllegalArgumentException" tl tg) : CtW l K yL_letter wsL_letter rmL [.ref b, .int x0, .int x1, .ref o] (outW K o lf :: w0) (some (.int (nI 1))) (outW K o lf :: w0) tl tg := by
  refine CtW_of (cc := cL_letter) (nL := 5) (rt := some .int) (hh := [(0, 10, 13, 21)]) (own := RL) (lv0 := [(0, .ref b), (1, .int x0), (2, .int x1), (3, .ref o)]) (by decide) rfl (Nat.le_of_ble_eq_true rfl) rfl rfl ?_
  intro G C0 hF hX
  have lk21 : Cond.classLink RL 21 "java/lang/IllegalArgumentException" ∈ wsL_letter := by decide +kernel
  refine J_aln C0 3 dL_letter_0 (kk := ?_)
  refine J_ic C0 0 dL_letter_1 (kk := ?_)
  refine J_aln C0 0 dL_letter_2 (kk := ?_)
  refine J_iln C0 1 dL_letter_3 (kk := ?_)
  refine J_iln C0 2 dL_letter_4 (kk := ?_)
  refine J_tryV C0 hX hM [outW K o lf] gL_letter_X4_letter dL_letter_5 2 0 hrec [] ⟨0, 10, 13, 21⟩ [] (fun z hz => by
      cases hz) lk21 (hR := ⟨hR.1, hR.2.1⟩) (hf := ⟨by rw [Nat.zero_add]; exact hR.2.2.1, by rw [Nat.zero_add]; exact hR.2.2.2⟩) (kk := fun q => ?_)
  show J G (outW K o lf :: w0) _ _ _ 13 [.ref q]
  refine J_as C0 ((4, Value.ref q) :: [(0, .ref b), (1, .int x0), (2, .int x1), (3, .ref o)]) dL_letter_13 (kk := ?_)
  refine J_ic C0 1 dL_letter_15 (kk := ?_)
  exact J_iret C0 hF dL_letter_16 ⟨rfl, rfl⟩ (by rw [Nat.zero_add]; exact hR.2.2.1) (by rw [Nat.zero_add]; exact hR.2.2.2)

theorem wL_count {K : KT} (l : Launch) {b o : Nat} (x0 : Int32) {w0 w1 : List va_W} {fs : List Value} (lf : Nat → Int64) {rmc : Room} {tl tg : Nat} (hrec : (w0.flatten)[0]? = some (b, .inr (4, fs))) (hR : rmc.frames + 1 ≤ 9 ∧ 8 + (2 + 11) + rmc.locals ≤ 250 ∧ rmc.cells ≤ 1 ∧ rmc.slots ≤ 6) {r : Int32} (hM : CtL l K yX4_count wsX4_count rmc [.ref b, .int x0] w0 (some (.int r)) w1 tl tg) : CtW l K yL_count wsL_count rmL [.ref b, .int x0, .ref o] (outW K o lf :: w0) (some (.int (nI 0))) (outW K o (vp_updL lf 0 r.toInt64) :: w1) tl tg := by
  refine CtW_of (cc := cL_count) (nL := 4) (rt := some .int) (hh := [(0, 9, 12, 21)]) (own := RL) (lv0 := [(0, .ref b), (1, .int x0), (2, .ref o)]) (by decide) rfl (Nat.le_of_ble_eq_true rfl) rfl rfl ?_
  intro G C0 hF hX
  refine J_aln C0 2 dL_count_0 (kk := ?_)
  refine J_ic C0 0 dL_count_1 (kk := ?_)
  refine J_aln C0 0 dL_count_2 (kk := ?_)
  refine J_iln C0 1 dL_count_3 (kk := ?_)
  refine J_callVL C0 hX hM [outW K o lf] gL_count_X4_count dL_count_4 1 0 hrec (hR := ⟨hR.1, hR.2.1⟩) (hf := ⟨by rw [Nat.zero_add]; exact hR.2.2.1, by rw [Nat.zero_add]; exact hR.2.2.2⟩) (kk := ?_)
  show J G (outW K o lf :: w1) _ _ _ _ [.int r, .int (nI 0), .ref o]
  refine J_i2l C0 dL_count_7 (kk := ?_)
  refine J_last C0 0 0 1 (outW K o (vp_updL lf 0 r.toInt64) :: w1) dL_count_8 (by decide) (kk := ?_)
  refine J_goto C0 15 dL_count_9 (kk := ?_)
  refine J_ic C0 0 dL_count_15 (kk := ?_)
  exact J_iret C0 hF dL_count_16 ⟨rfl, rfl⟩ (by rw [Nat.zero_add]; exact hR.2.2.1) (by rw [Nat.zero_add]; exact hR.2.2.2)

theorem wL_count_t1 {K : KT} (l : Launch) {b o : Nat} (x0 : Int32) {w0 : List va_W} {fs : List Value} (lf : Nat → Int64) {rmc : Room} {tl tg : Nat} (hrec : (w0.flatten)[0]? = some (b, .inr (4, fs))) (hR : rmc.frames + 1 ≤ 9 ∧ 8 + (2 + 11) + rmc.locals ≤ 250 ∧ rmc.cells ≤ 1 ∧ rmc.slots ≤ 6) (hM : CtTL l K yX4_count wsX4_count rmc [.ref b, .int x0] w0 "java/lang/IllegalArgumentException" tl tg) : CtW l K yL_count wsL_count rmL [.ref b, .int x0, .ref o] (outW K o lf :: w0) (some (.int (nI 1))) (outW K o lf :: w0) tl tg := by
  refine CtW_of (cc := cL_count) (nL := 4) (rt := some .int) (hh := [(0, 9, 12, 21)]) (own := RL) (lv0 := [(0, .ref b), (1, .int x0), (2, .ref o)]) (by decide) rfl (Nat.le_of_ble_eq_true rfl) rfl rfl ?_
  intro G C0 hF hX
  have lk21 : Cond.classLink RL 21 "java/lang/IllegalArgumentException" ∈ wsL_count := by decide +kernel
  refine J_aln C0 2 dL_count_0 (kk := ?_)
  refine J_ic C0 0 dL_count_1 (kk := ?_)
  refine J_aln C0 0 dL_count_2 (kk := ?_)
  refine J_iln C0 1 dL_count_3 (kk := ?_)
  refine J_tryV C0 hX hM [outW K o lf] gL_count_X4_count dL_count_4 1 0 hrec [] ⟨0, 9, 12, 21⟩ [] (fun z hz => by
      cases hz) lk21 (hR := ⟨hR.1, hR.2.1⟩) (hf := ⟨by rw [Nat.zero_add]; exact hR.2.2.1, by rw [Nat.zero_add]; exact hR.2.2.2⟩) (kk := fun q => ?_)
  show J G (outW K o lf :: w0) _ _ _ 12 [.ref q]
  refine J_asn C0 ((3, Value.ref q) :: [(0, .ref b), (1, .int x0), (2, .ref o)]) dL_count_12 (kk := ?_)
  refine J_ic C0 1 dL_count_13 (kk := ?_)
  exact J_iret C0 hF dL_count_14 ⟨rfl, rfl⟩ (by rw [Nat.zero_add]; exact hR.2.2.1) (by rw [Nat.zero_add]; exact hR.2.2.2)

theorem wL_setting {K : KT} (l : Launch) {b o : Nat} (x0 : Int32) {w0 w1 : List va_W} {fs : List Value} (lf : Nat → Int64) {rmc : Room} {tl tg : Nat} (hrec : (w0.flatten)[0]? = some (b, .inr (4, fs))) (hR : rmc.frames + 1 ≤ 9 ∧ 8 + (2 + 11) + rmc.locals ≤ 250 ∧ rmc.cells ≤ 1 ∧ rmc.slots ≤ 6) {r : Int32} (hM : CtL l K yX4_setting wsX4_setting rmc [.ref b, .int x0] w0 (some (.int r)) w1 tl tg) : CtW l K yL_setting wsL_setting rmL [.ref b, .int x0, .ref o] (outW K o lf :: w0) (some (.int (nI 0))) (outW K o (vp_updL lf 0 r.toInt64) :: w1) tl tg := by
  refine CtW_of (cc := cL_setting) (nL := 4) (rt := some .int) (hh := [(0, 9, 12, 19)]) (own := RL) (lv0 := [(0, .ref b), (1, .int x0), (2, .ref o)]) (by decide) rfl (Nat.le_of_ble_eq_true rfl) rfl rfl ?_
  intro G C0 hF hX
  refine J_aln C0 2 dL_setting_0 (kk := ?_)
  refine J_ic C0 0 dL_setting_1 (kk := ?_)
  refine J_aln C0 0 dL_setting_2 (kk := ?_)
  refine J_iln C0 1 dL_setting_3 (kk := ?_)
  refine J_callVL C0 hX hM [outW K o lf] gL_setting_X4_setting dL_setting_4 1 0 hrec (hR := ⟨hR.1, hR.2.1⟩) (hf := ⟨by rw [Nat.zero_add]; exact hR.2.2.1, by rw [Nat.zero_add]; exact hR.2.2.2⟩) (kk := ?_)
  show J G (outW K o lf :: w1) _ _ _ _ [.int r, .int (nI 0), .ref o]
  refine J_i2l C0 dL_setting_7 (kk := ?_)
  refine J_last C0 0 0 1 (outW K o (vp_updL lf 0 r.toInt64) :: w1) dL_setting_8 (by decide) (kk := ?_)
  refine J_goto C0 15 dL_setting_9 (kk := ?_)
  refine J_ic C0 0 dL_setting_15 (kk := ?_)
  exact J_iret C0 hF dL_setting_16 ⟨rfl, rfl⟩ (by rw [Nat.zero_add]; exact hR.2.2.1) (by rw [Nat.zero_add]; exact hR.2.2.2)

theorem wL_setting_t1 {K : KT} (l : Launch) {b o : Nat} (x0 : Int32) {w0 : List va_W} {fs : List Value} (lf : Nat → Int64) {rmc : Room} {tl tg : Nat} (hrec : (w0.flatten)[0]? = some (b, .inr (4, fs))) (hR : rmc.frames + 1 ≤ 9 ∧ 8 + (2 + 11) + rmc.locals ≤ 250 ∧ rmc.cells ≤ 1 ∧ rmc.slots ≤ 6) (hM : CtTL l K yX4_setting wsX4_setting rmc [.ref b, .int x0] w0 "java/lang/IndexOutOfBoundsException" tl tg) : CtW l K yL_setting wsL_setting rmL [.ref b, .int x0, .ref o] (outW K o lf :: w0) (some (.int (nI 1))) (outW K o lf :: w0) tl tg := by
  refine CtW_of (cc := cL_setting) (nL := 4) (rt := some .int) (hh := [(0, 9, 12, 19)]) (own := RL) (lv0 := [(0, .ref b), (1, .int x0), (2, .ref o)]) (by decide) rfl (Nat.le_of_ble_eq_true rfl) rfl rfl ?_
  intro G C0 hF hX
  have lk19 : Cond.classLink RL 19 "java/lang/IndexOutOfBoundsException" ∈ wsL_setting := by decide +kernel
  refine J_aln C0 2 dL_setting_0 (kk := ?_)
  refine J_ic C0 0 dL_setting_1 (kk := ?_)
  refine J_aln C0 0 dL_setting_2 (kk := ?_)
  refine J_iln C0 1 dL_setting_3 (kk := ?_)
  refine J_tryV C0 hX hM [outW K o lf] gL_setting_X4_setting dL_setting_4 1 0 hrec [] ⟨0, 9, 12, 19⟩ [] (fun z hz => by
      cases hz) lk19 (hR := ⟨hR.1, hR.2.1⟩) (hf := ⟨by rw [Nat.zero_add]; exact hR.2.2.1, by rw [Nat.zero_add]; exact hR.2.2.2⟩) (kk := fun q => ?_)
  show J G (outW K o lf :: w0) _ _ _ 12 [.ref q]
  refine J_asn C0 ((3, Value.ref q) :: [(0, .ref b), (1, .int x0), (2, .ref o)]) dL_setting_12 (kk := ?_)
  refine J_ic C0 1 dL_setting_13 (kk := ?_)
  exact J_iret C0 hF dL_setting_14 ⟨rfl, rfl⟩ (by rw [Nat.zero_add]; exact hR.2.2.1) (by rw [Nat.zero_add]; exact hR.2.2.2)

theorem wL_ifPassed {K : KT} (l : Launch) {b o : Nat} (x0 : Int32) (x1 : Int32) {w0 w1 : List va_W} {fs : List Value} (lf : Nat → Int64) {rmc : Room} {tl tg : Nat} (hrec : (w0.flatten)[0]? = some (b, .inr (4, fs))) (hR : rmc.frames + 1 ≤ 9 ∧ 8 + (3 + 11) + rmc.locals ≤ 250 ∧ rmc.cells ≤ 1 ∧ rmc.slots ≤ 6) {r : Int32} (hM : CtL l K yX4_ifPassed wsX4_ifPassed rmc [.ref b, .int x0, .int x1] w0 (some (.int r)) w1 tl tg) : CtW l K yL_ifPassed wsL_ifPassed rmL [.ref b, .int x0, .int x1, .ref o] (outW K o lf :: w0) (some (.int (nI 0))) (outW K o (vp_updL lf 0 r.toInt64) :: w1) tl tg := by
  refine CtW_of (cc := cL_ifPassed) (nL := 5) (rt := some .int) (hh := [(0, 10, 13, 21)]) (own := RL) (lv0 := [(0, .ref b), (1, .int x0), (2, .int x1), (3, .ref o)]) (by decide) rfl (Nat.le_of_ble_eq_true rfl) rfl rfl ?_
  intro G C0 hF hX
  refine J_aln C0 3 dL_ifPassed_0 (kk := ?_)
  refine J_ic C0 0 dL_ifPassed_1 (kk := ?_)
  refine J_aln C0 0 dL_ifPassed_2 (kk := ?_)
  refine J_iln C0 1 dL_ifPassed_3 (kk := ?_)
  refine J_iln C0 2 dL_ifPassed_4 (kk := ?_)
  refine J_callVL C0 hX hM [outW K o lf] gL_ifPassed_X4_ifPassed dL_ifPassed_5 2 0 hrec (hR := ⟨hR.1, hR.2.1⟩) (hf := ⟨by rw [Nat.zero_add]; exact hR.2.2.1, by rw [Nat.zero_add]; exact hR.2.2.2⟩) (kk := ?_)
  show J G (outW K o lf :: w1) _ _ _ _ [.int r, .int (nI 0), .ref o]
  refine J_i2l C0 dL_ifPassed_8 (kk := ?_)
  refine J_last C0 0 0 1 (outW K o (vp_updL lf 0 r.toInt64) :: w1) dL_ifPassed_9 (by decide) (kk := ?_)
  refine J_goto C0 17 dL_ifPassed_10 (kk := ?_)
  refine J_ic C0 0 dL_ifPassed_17 (kk := ?_)
  exact J_iret C0 hF dL_ifPassed_18 ⟨rfl, rfl⟩ (by rw [Nat.zero_add]; exact hR.2.2.1) (by rw [Nat.zero_add]; exact hR.2.2.2)

theorem wL_ifPassed_t1 {K : KT} (l : Launch) {b o : Nat} (x0 : Int32) (x1 : Int32) {w0 : List va_W} {fs : List Value} (lf : Nat → Int64) {rmc : Room} {tl tg : Nat} (hrec : (w0.flatten)[0]? = some (b, .inr (4, fs))) (hR : rmc.frames + 1 ≤ 9 ∧ 8 + (3 + 11) + rmc.locals ≤ 250 ∧ rmc.cells ≤ 1 ∧ rmc.slots ≤ 6) (hM : CtTL l K yX4_ifPassed wsX4_ifPassed rmc [.ref b, .int x0, .int x1] w0 "java/lang/IllegalArgumentException" tl tg) : CtW l K yL_ifPassed wsL_ifPassed rmL [.ref b, .int x0, .int x1, .ref o] (outW K o lf :: w0) (some (.int (nI 1))) (outW K o lf :: w0) tl tg := by
  refine CtW_of (cc := cL_ifPassed) (nL := 5) (rt := some .int) (hh := [(0, 10, 13, 21)]) (own := RL) (lv0 := [(0, .ref b), (1, .int x0), (2, .int x1), (3, .ref o)]) (by decide) rfl (Nat.le_of_ble_eq_true rfl) rfl rfl ?_
  intro G C0 hF hX
  have lk21 : Cond.classLink RL 21 "java/lang/IllegalArgumentException" ∈ wsL_ifPassed := by decide +kernel
  refine J_aln C0 3 dL_ifPassed_0 (kk := ?_)
  refine J_ic C0 0 dL_ifPassed_1 (kk := ?_)
  refine J_aln C0 0 dL_ifPassed_2 (kk := ?_)
  refine J_iln C0 1 dL_ifPassed_3 (kk := ?_)
  refine J_iln C0 2 dL_ifPassed_4 (kk := ?_)
  refine J_tryV C0 hX hM [outW K o lf] gL_ifPassed_X4_ifPassed dL_ifPassed_5 2 0 hrec [] ⟨0, 10, 13, 21⟩ [] (fun z hz => by
      cases hz) lk21 (hR := ⟨hR.1, hR.2.1⟩) (hf := ⟨by rw [Nat.zero_add]; exact hR.2.2.1, by rw [Nat.zero_add]; exact hR.2.2.2⟩) (kk := fun q => ?_)
  show J G (outW K o lf :: w0) _ _ _ 13 [.ref q]
  refine J_as C0 ((4, Value.ref q) :: [(0, .ref b), (1, .int x0), (2, .int x1), (3, .ref o)]) dL_ifPassed_13 (kk := ?_)
  refine J_ic C0 1 dL_ifPassed_15 (kk := ?_)
  exact J_iret C0 hF dL_ifPassed_16 ⟨rfl, rfl⟩ (by rw [Nat.zero_add]; exact hR.2.2.1) (by rw [Nat.zero_add]; exact hR.2.2.2)
