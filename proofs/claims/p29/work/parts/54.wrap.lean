/-! the law's methods that call the class in a try: where it answers, where it throws -/
theorem wL_house {K : KT} (l : Launch) {b : Nat} {w0 w1 : List va_W} {fs : List Value} {rmc rm : Room} {tl tg : Nat} (hrec : (w0.flatten)[0]? = some (b, .inr (4, fs))) (hR : rmc.frames + 1 ≤ rm.frames ∧ 8 + (1 + 11) + rmc.locals ≤ rm.locals ∧ rmc.cells ≤ rm.cells ∧ rmc.slots ≤ rm.slots) {r : Int32} (hM : CtL l K yX4_house wsX4_house rmc [.ref b] w0 (some (.int r)) w1 tl tg) : CtW l K yL_house wsL_house rm [.ref b] w0 (some (.int r)) w1 tl tg := by
  refine CtWP_ofH (cc := cL_house) (nL := 2) (rt := some .int) (hh := [(0, 4, 5, 15)]) (own := RL) (lv0 := [(0, .ref b)]) (by decide) rfl (Nat.le_of_ble_eq_true rfl) rfl rfl ?_
  intro G C0 hF hX
  refine J_aln C0 0 dL_house_0 (kk := ?_)
  refine J_callVL C0 hX hM [] gL_house_X4_house dL_house_1 0 0 hrec (hR := ⟨hR.1, hR.2.1⟩) (hf := ⟨by rw [Nat.zero_add]; exact hR.2.2.1, by rw [Nat.zero_add]; exact hR.2.2.2⟩) (kk := ?_)
  show J G w1 _ _ _ _ [.int r]
  exact J_iret C0 hF dL_house_4 ⟨rfl, rfl⟩ (by rw [Nat.zero_add]; exact hR.2.2.1) (by rw [Nat.zero_add]; exact hR.2.2.2)

theorem wL_house_t103 {K : KT} (l : Launch) {b : Nat} {w0 : List va_W} {fs : List Value} {rmc rm : Room} {tl tg : Nat} (hrec : (w0.flatten)[0]? = some (b, .inr (4, fs))) (hR : rmc.frames + 1 ≤ rm.frames ∧ 8 + (1 + 11) + rmc.locals ≤ rm.locals ∧ rmc.cells ≤ rm.cells ∧ rmc.slots ≤ rm.slots) (hM : CtTL l K yX4_house wsX4_house rmc [.ref b] w0 "java/lang/IllegalStateException" tl tg) : CtW l K yL_house wsL_house rm [.ref b] w0 (some (.int (-103))) w0 tl tg := by
  refine CtWP_ofH (cc := cL_house) (nL := 2) (rt := some .int) (hh := [(0, 4, 5, 15)]) (own := RL) (lv0 := [(0, .ref b)]) (by decide) rfl (Nat.le_of_ble_eq_true rfl) rfl rfl ?_
  intro G C0 hF hX
  have lk15 : Cond.classLink RL 15 "java/lang/IllegalStateException" ∈ wsL_house := by decide +kernel
  refine J_aln C0 0 dL_house_0 (kk := ?_)
  refine J_tryV C0 hX hM [] gL_house_X4_house dL_house_1 0 0 hrec [] ⟨0, 4, 5, 15⟩ [] (fun z hz => by
      cases hz) lk15 (hR := ⟨hR.1, hR.2.1⟩) (hf := ⟨by rw [Nat.zero_add]; exact hR.2.2.1, by rw [Nat.zero_add]; exact hR.2.2.2⟩) (kk := fun q => ?_)
  show J G w0 _ _ _ 5 [.ref q]
  refine J_asn C0 ((1, Value.ref q) :: [(0, .ref b)]) dL_house_5 (kk := ?_)
  refine J_biv C0 (-103) dL_house_6 (kk := ?_)
  exact J_iret C0 hF dL_house_8 ⟨rfl, rfl⟩ (by rw [Nat.zero_add]; exact hR.2.2.1) (by rw [Nat.zero_add]; exact hR.2.2.2)

theorem wL_bottles {K : KT} (l : Launch) {b : Nat} (x0 : Int32) (x1 : Int32) {w0 w1 : List va_W} {fs : List Value} {rmc rm : Room} {tl tg : Nat} (hrec : (w0.flatten)[0]? = some (b, .inr (4, fs))) (hR : rmc.frames + 1 ≤ rm.frames ∧ 8 + (4 + 11) + rmc.locals ≤ rm.locals ∧ rmc.cells ≤ rm.cells ∧ rmc.slots ≤ rm.slots) {r : Int32} (hM : CtL l K yX4_bottles wsX4_bottles rmc [.ref b, .int x0, .int x1] w0 (some (.int r)) w1 tl tg) : CtW l K yL_bottles wsL_bottles rm [.ref b, .int x0, .int x1] w0 (some (.int r)) w1 tl tg := by
  refine CtWP_ofH (cc := cL_bottles) (nL := 4) (rt := some .int) (hh := [(0, 6, 7, 21), (0, 6, 11, 23), (0, 6, 15, 15)]) (own := RL) (lv0 := [(0, .ref b), (1, .int x0), (2, .int x1)]) (by decide) rfl (Nat.le_of_ble_eq_true rfl) rfl rfl ?_
  intro G C0 hF hX
  refine J_aln C0 0 dL_bottles_0 (kk := ?_)
  refine J_iln C0 1 dL_bottles_1 (kk := ?_)
  refine J_iln C0 2 dL_bottles_2 (kk := ?_)
  refine J_callVL C0 hX hM [] gL_bottles_X4_bottles dL_bottles_3 2 0 hrec (hR := ⟨hR.1, hR.2.1⟩) (hf := ⟨by rw [Nat.zero_add]; exact hR.2.2.1, by rw [Nat.zero_add]; exact hR.2.2.2⟩) (kk := ?_)
  show J G w1 _ _ _ _ [.int r]
  exact J_iret C0 hF dL_bottles_6 ⟨rfl, rfl⟩ (by rw [Nat.zero_add]; exact hR.2.2.1) (by rw [Nat.zero_add]; exact hR.2.2.2)

theorem wL_bottles_t101 {K : KT} (l : Launch) {b : Nat} (x0 : Int32) (x1 : Int32) {w0 : List va_W} {fs : List Value} {rmc rm : Room} {tl tg : Nat} (hrec : (w0.flatten)[0]? = some (b, .inr (4, fs))) (hR : rmc.frames + 1 ≤ rm.frames ∧ 8 + (4 + 11) + rmc.locals ≤ rm.locals ∧ rmc.cells ≤ rm.cells ∧ rmc.slots ≤ rm.slots) (hM : CtTL l K yX4_bottles wsX4_bottles rmc [.ref b, .int x0, .int x1] w0 "java/lang/IndexOutOfBoundsException" tl tg) : CtW l K yL_bottles wsL_bottles rm [.ref b, .int x0, .int x1] w0 (some (.int (-101))) w0 tl tg := by
  refine CtWP_ofH (cc := cL_bottles) (nL := 4) (rt := some .int) (hh := [(0, 6, 7, 21), (0, 6, 11, 23), (0, 6, 15, 15)]) (own := RL) (lv0 := [(0, .ref b), (1, .int x0), (2, .int x1)]) (by decide) rfl (Nat.le_of_ble_eq_true rfl) rfl rfl ?_
  intro G C0 hF hX
  have lk21 : Cond.classLink RL 21 "java/lang/IndexOutOfBoundsException" ∈ wsL_bottles := by decide +kernel
  refine J_aln C0 0 dL_bottles_0 (kk := ?_)
  refine J_iln C0 1 dL_bottles_1 (kk := ?_)
  refine J_iln C0 2 dL_bottles_2 (kk := ?_)
  refine J_tryV C0 hX hM [] gL_bottles_X4_bottles dL_bottles_3 2 0 hrec [] ⟨0, 6, 7, 21⟩ [⟨0, 6, 11, 23⟩, ⟨0, 6, 15, 15⟩] (fun z hz => by
      cases hz) lk21 (hR := ⟨hR.1, hR.2.1⟩) (hf := ⟨by rw [Nat.zero_add]; exact hR.2.2.1, by rw [Nat.zero_add]; exact hR.2.2.2⟩) (kk := fun q => ?_)
  show J G w0 _ _ _ 7 [.ref q]
  refine J_asn C0 ((3, Value.ref q) :: [(0, .ref b), (1, .int x0), (2, .int x1)]) dL_bottles_7 (kk := ?_)
  refine J_biv C0 (-101) dL_bottles_8 (kk := ?_)
  exact J_iret C0 hF dL_bottles_10 ⟨rfl, rfl⟩ (by rw [Nat.zero_add]; exact hR.2.2.1) (by rw [Nat.zero_add]; exact hR.2.2.2)

theorem wL_bottles_t102 {K : KT} (l : Launch) {b : Nat} (x0 : Int32) (x1 : Int32) {w0 : List va_W} {fs : List Value} {rmc rm : Room} {tl tg : Nat} (hrec : (w0.flatten)[0]? = some (b, .inr (4, fs))) (hR : rmc.frames + 1 ≤ rm.frames ∧ 8 + (4 + 11) + rmc.locals ≤ rm.locals ∧ rmc.cells ≤ rm.cells ∧ rmc.slots ≤ rm.slots) (hM : CtTL l K yX4_bottles wsX4_bottles rmc [.ref b, .int x0, .int x1] w0 "java/lang/IllegalArgumentException" tl tg) : CtW l K yL_bottles wsL_bottles rm [.ref b, .int x0, .int x1] w0 (some (.int (-102))) w0 tl tg := by
  refine CtWP_ofH (cc := cL_bottles) (nL := 4) (rt := some .int) (hh := [(0, 6, 7, 21), (0, 6, 11, 23), (0, 6, 15, 15)]) (own := RL) (lv0 := [(0, .ref b), (1, .int x0), (2, .int x1)]) (by decide) rfl (Nat.le_of_ble_eq_true rfl) rfl rfl ?_
  intro G C0 hF hX
  have lk21 : Cond.classLink RL 21 "java/lang/IndexOutOfBoundsException" ∈ wsL_bottles := by decide +kernel
  have lk23 : Cond.classLink RL 23 "java/lang/IllegalArgumentException" ∈ wsL_bottles := by decide +kernel
  refine J_aln C0 0 dL_bottles_0 (kk := ?_)
  refine J_iln C0 1 dL_bottles_1 (kk := ?_)
  refine J_iln C0 2 dL_bottles_2 (kk := ?_)
  refine J_tryV C0 hX hM [] gL_bottles_X4_bottles dL_bottles_3 2 0 hrec [⟨0, 6, 7, 21⟩] ⟨0, 6, 11, 23⟩ [⟨0, 6, 15, 15⟩] (fun z hz => by
      rcases List.mem_cons.mp hz with rfl | hz
      · exact ⟨by decide, _, lk21, by decide⟩
      cases hz) lk23 (hR := ⟨hR.1, hR.2.1⟩) (hf := ⟨by rw [Nat.zero_add]; exact hR.2.2.1, by rw [Nat.zero_add]; exact hR.2.2.2⟩) (kk := fun q => ?_)
  show J G w0 _ _ _ 11 [.ref q]
  refine J_asn C0 ((3, Value.ref q) :: [(0, .ref b), (1, .int x0), (2, .int x1)]) dL_bottles_11 (kk := ?_)
  refine J_biv C0 (-102) dL_bottles_12 (kk := ?_)
  exact J_iret C0 hF dL_bottles_14 ⟨rfl, rfl⟩ (by rw [Nat.zero_add]; exact hR.2.2.1) (by rw [Nat.zero_add]; exact hR.2.2.2)

theorem wL_bottles_t103 {K : KT} (l : Launch) {b : Nat} (x0 : Int32) (x1 : Int32) {w0 : List va_W} {fs : List Value} {rmc rm : Room} {tl tg : Nat} (hrec : (w0.flatten)[0]? = some (b, .inr (4, fs))) (hR : rmc.frames + 1 ≤ rm.frames ∧ 8 + (4 + 11) + rmc.locals ≤ rm.locals ∧ rmc.cells ≤ rm.cells ∧ rmc.slots ≤ rm.slots) (hM : CtTL l K yX4_bottles wsX4_bottles rmc [.ref b, .int x0, .int x1] w0 "java/lang/IllegalStateException" tl tg) : CtW l K yL_bottles wsL_bottles rm [.ref b, .int x0, .int x1] w0 (some (.int (-103))) w0 tl tg := by
  refine CtWP_ofH (cc := cL_bottles) (nL := 4) (rt := some .int) (hh := [(0, 6, 7, 21), (0, 6, 11, 23), (0, 6, 15, 15)]) (own := RL) (lv0 := [(0, .ref b), (1, .int x0), (2, .int x1)]) (by decide) rfl (Nat.le_of_ble_eq_true rfl) rfl rfl ?_
  intro G C0 hF hX
  have lk21 : Cond.classLink RL 21 "java/lang/IndexOutOfBoundsException" ∈ wsL_bottles := by decide +kernel
  have lk23 : Cond.classLink RL 23 "java/lang/IllegalArgumentException" ∈ wsL_bottles := by decide +kernel
  have lk15 : Cond.classLink RL 15 "java/lang/IllegalStateException" ∈ wsL_bottles := by decide +kernel
  refine J_aln C0 0 dL_bottles_0 (kk := ?_)
  refine J_iln C0 1 dL_bottles_1 (kk := ?_)
  refine J_iln C0 2 dL_bottles_2 (kk := ?_)
  refine J_tryV C0 hX hM [] gL_bottles_X4_bottles dL_bottles_3 2 0 hrec [⟨0, 6, 7, 21⟩, ⟨0, 6, 11, 23⟩] ⟨0, 6, 15, 15⟩ [] (fun z hz => by
      rcases List.mem_cons.mp hz with rfl | hz
      · exact ⟨by decide, _, lk21, by decide⟩
      rcases List.mem_cons.mp hz with rfl | hz
      · exact ⟨by decide, _, lk23, by decide⟩
      cases hz) lk15 (hR := ⟨hR.1, hR.2.1⟩) (hf := ⟨by rw [Nat.zero_add]; exact hR.2.2.1, by rw [Nat.zero_add]; exact hR.2.2.2⟩) (kk := fun q => ?_)
  show J G w0 _ _ _ 15 [.ref q]
  refine J_asn C0 ((3, Value.ref q) :: [(0, .ref b), (1, .int x0), (2, .int x1)]) dL_bottles_15 (kk := ?_)
  refine J_biv C0 (-103) dL_bottles_16 (kk := ?_)
  exact J_iret C0 hF dL_bottles_18 ⟨rfl, rfl⟩ (by rw [Nat.zero_add]; exact hR.2.2.1) (by rw [Nat.zero_add]; exact hR.2.2.2)

theorem wL_lend {K : KT} (l : Launch) {b : Nat} (x0 : Int32) (x1 : Int32) {w0 w1 : List va_W} {fs : List Value} {rmc rm : Room} {tl tg : Nat} (hrec : (w0.flatten)[0]? = some (b, .inr (4, fs))) (hR : rmc.frames + 1 ≤ rm.frames ∧ 8 + (3 + 11) + rmc.locals ≤ rm.locals ∧ rmc.cells ≤ rm.cells ∧ rmc.slots ≤ rm.slots) {r : Int32} (hM : CtL l K yX4_lend wsX4_lend rmc [.ref b, .int x0, .int x1] w0 (some (.int r)) w1 tl tg) : CtW l K yL_lend wsL_lend rm [.ref b, .int x0, .int x1] w0 (some (.int r)) w1 tl tg := by
  refine CtWP_ofH (cc := cL_lend) (nL := 4) (rt := some .int) (hh := [(0, 6, 7, 21), (0, 6, 11, 15)]) (own := RL) (lv0 := [(0, .ref b), (1, .int x0), (2, .int x1)]) (by decide) rfl (Nat.le_of_ble_eq_true rfl) rfl rfl ?_
  intro G C0 hF hX
  refine J_aln C0 0 dL_lend_0 (kk := ?_)
  refine J_iln C0 1 dL_lend_1 (kk := ?_)
  refine J_iln C0 2 dL_lend_2 (kk := ?_)
  refine J_callVL C0 hX hM [] gL_lend_X4_lend dL_lend_3 2 0 hrec (hR := ⟨hR.1, hR.2.1⟩) (hf := ⟨by rw [Nat.zero_add]; exact hR.2.2.1, by rw [Nat.zero_add]; exact hR.2.2.2⟩) (kk := ?_)
  show J G w1 _ _ _ _ [.int r]
  exact J_iret C0 hF dL_lend_6 ⟨rfl, rfl⟩ (by rw [Nat.zero_add]; exact hR.2.2.1) (by rw [Nat.zero_add]; exact hR.2.2.2)

theorem wL_lend_t101 {K : KT} (l : Launch) {b : Nat} (x0 : Int32) (x1 : Int32) {w0 : List va_W} {fs : List Value} {rmc rm : Room} {tl tg : Nat} (hrec : (w0.flatten)[0]? = some (b, .inr (4, fs))) (hR : rmc.frames + 1 ≤ rm.frames ∧ 8 + (3 + 11) + rmc.locals ≤ rm.locals ∧ rmc.cells ≤ rm.cells ∧ rmc.slots ≤ rm.slots) (hM : CtTL l K yX4_lend wsX4_lend rmc [.ref b, .int x0, .int x1] w0 "java/lang/IndexOutOfBoundsException" tl tg) : CtW l K yL_lend wsL_lend rm [.ref b, .int x0, .int x1] w0 (some (.int (-101))) w0 tl tg := by
  refine CtWP_ofH (cc := cL_lend) (nL := 4) (rt := some .int) (hh := [(0, 6, 7, 21), (0, 6, 11, 15)]) (own := RL) (lv0 := [(0, .ref b), (1, .int x0), (2, .int x1)]) (by decide) rfl (Nat.le_of_ble_eq_true rfl) rfl rfl ?_
  intro G C0 hF hX
  have lk21 : Cond.classLink RL 21 "java/lang/IndexOutOfBoundsException" ∈ wsL_lend := by decide +kernel
  refine J_aln C0 0 dL_lend_0 (kk := ?_)
  refine J_iln C0 1 dL_lend_1 (kk := ?_)
  refine J_iln C0 2 dL_lend_2 (kk := ?_)
  refine J_tryV C0 hX hM [] gL_lend_X4_lend dL_lend_3 2 0 hrec [] ⟨0, 6, 7, 21⟩ [⟨0, 6, 11, 15⟩] (fun z hz => by
      cases hz) lk21 (hR := ⟨hR.1, hR.2.1⟩) (hf := ⟨by rw [Nat.zero_add]; exact hR.2.2.1, by rw [Nat.zero_add]; exact hR.2.2.2⟩) (kk := fun q => ?_)
  show J G w0 _ _ _ 7 [.ref q]
  refine J_asn C0 ((3, Value.ref q) :: [(0, .ref b), (1, .int x0), (2, .int x1)]) dL_lend_7 (kk := ?_)
  refine J_biv C0 (-101) dL_lend_8 (kk := ?_)
  exact J_iret C0 hF dL_lend_10 ⟨rfl, rfl⟩ (by rw [Nat.zero_add]; exact hR.2.2.1) (by rw [Nat.zero_add]; exact hR.2.2.2)

theorem wL_lend_t103 {K : KT} (l : Launch) {b : Nat} (x0 : Int32) (x1 : Int32) {w0 : List va_W} {fs : List Value} {rmc rm : Room} {tl tg : Nat} (hrec : (w0.flatten)[0]? = some (b, .inr (4, fs))) (hR : rmc.frames + 1 ≤ rm.frames ∧ 8 + (3 + 11) + rmc.locals ≤ rm.locals ∧ rmc.cells ≤ rm.cells ∧ rmc.slots ≤ rm.slots) (hM : CtTL l K yX4_lend wsX4_lend rmc [.ref b, .int x0, .int x1] w0 "java/lang/IllegalStateException" tl tg) : CtW l K yL_lend wsL_lend rm [.ref b, .int x0, .int x1] w0 (some (.int (-103))) w0 tl tg := by
  refine CtWP_ofH (cc := cL_lend) (nL := 4) (rt := some .int) (hh := [(0, 6, 7, 21), (0, 6, 11, 15)]) (own := RL) (lv0 := [(0, .ref b), (1, .int x0), (2, .int x1)]) (by decide) rfl (Nat.le_of_ble_eq_true rfl) rfl rfl ?_
  intro G C0 hF hX
  have lk21 : Cond.classLink RL 21 "java/lang/IndexOutOfBoundsException" ∈ wsL_lend := by decide +kernel
  have lk15 : Cond.classLink RL 15 "java/lang/IllegalStateException" ∈ wsL_lend := by decide +kernel
  refine J_aln C0 0 dL_lend_0 (kk := ?_)
  refine J_iln C0 1 dL_lend_1 (kk := ?_)
  refine J_iln C0 2 dL_lend_2 (kk := ?_)
  refine J_tryV C0 hX hM [] gL_lend_X4_lend dL_lend_3 2 0 hrec [⟨0, 6, 7, 21⟩] ⟨0, 6, 11, 15⟩ [] (fun z hz => by
      rcases List.mem_cons.mp hz with rfl | hz
      · exact ⟨by decide, _, lk21, by decide⟩
      cases hz) lk15 (hR := ⟨hR.1, hR.2.1⟩) (hf := ⟨by rw [Nat.zero_add]; exact hR.2.2.1, by rw [Nat.zero_add]; exact hR.2.2.2⟩) (kk := fun q => ?_)
  show J G w0 _ _ _ 11 [.ref q]
  refine J_asn C0 ((3, Value.ref q) :: [(0, .ref b), (1, .int x0), (2, .int x1)]) dL_lend_11 (kk := ?_)
  refine J_biv C0 (-103) dL_lend_12 (kk := ?_)
  exact J_iret C0 hF dL_lend_14 ⟨rfl, rfl⟩ (by rw [Nat.zero_add]; exact hR.2.2.1) (by rw [Nat.zero_add]; exact hR.2.2.2)

theorem wL_ask {K : KT} (l : Launch) {b : Nat} (x0 : Int32) (x1 : Int32) {w0 w1 : List va_W} {fs : List Value} {rmc rm : Room} {tl tg : Nat} (hrec : (w0.flatten)[0]? = some (b, .inr (4, fs))) (hR : rmc.frames + 1 ≤ rm.frames ∧ 8 + (3 + 11) + rmc.locals ≤ rm.locals ∧ rmc.cells ≤ rm.cells ∧ rmc.slots ≤ rm.slots) {r : Int32} (hM : CtL l K yX4_ask wsX4_ask rmc [.ref b, .int x0, .int x1] w0 (some (.int r)) w1 tl tg) : CtW l K yL_ask wsL_ask rm [.ref b, .int x0, .int x1] w0 (some (.int r)) w1 tl tg := by
  refine CtWP_ofH (cc := cL_ask) (nL := 4) (rt := some .int) (hh := [(0, 6, 7, 21), (0, 6, 11, 15)]) (own := RL) (lv0 := [(0, .ref b), (1, .int x0), (2, .int x1)]) (by decide) rfl (Nat.le_of_ble_eq_true rfl) rfl rfl ?_
  intro G C0 hF hX
  refine J_aln C0 0 dL_ask_0 (kk := ?_)
  refine J_iln C0 1 dL_ask_1 (kk := ?_)
  refine J_iln C0 2 dL_ask_2 (kk := ?_)
  refine J_callVL C0 hX hM [] gL_ask_X4_ask dL_ask_3 2 0 hrec (hR := ⟨hR.1, hR.2.1⟩) (hf := ⟨by rw [Nat.zero_add]; exact hR.2.2.1, by rw [Nat.zero_add]; exact hR.2.2.2⟩) (kk := ?_)
  show J G w1 _ _ _ _ [.int r]
  exact J_iret C0 hF dL_ask_6 ⟨rfl, rfl⟩ (by rw [Nat.zero_add]; exact hR.2.2.1) (by rw [Nat.zero_add]; exact hR.2.2.2)

theorem wL_ask_t101 {K : KT} (l : Launch) {b : Nat} (x0 : Int32) (x1 : Int32) {w0 : List va_W} {fs : List Value} {rmc rm : Room} {tl tg : Nat} (hrec : (w0.flatten)[0]? = some (b, .inr (4, fs))) (hR : rmc.frames + 1 ≤ rm.frames ∧ 8 + (3 + 11) + rmc.locals ≤ rm.locals ∧ rmc.cells ≤ rm.cells ∧ rmc.slots ≤ rm.slots) (hM : CtTL l K yX4_ask wsX4_ask rmc [.ref b, .int x0, .int x1] w0 "java/lang/IndexOutOfBoundsException" tl tg) : CtW l K yL_ask wsL_ask rm [.ref b, .int x0, .int x1] w0 (some (.int (-101))) w0 tl tg := by
  refine CtWP_ofH (cc := cL_ask) (nL := 4) (rt := some .int) (hh := [(0, 6, 7, 21), (0, 6, 11, 15)]) (own := RL) (lv0 := [(0, .ref b), (1, .int x0), (2, .int x1)]) (by decide) rfl (Nat.le_of_ble_eq_true rfl) rfl rfl ?_
  intro G C0 hF hX
  have lk21 : Cond.classLink RL 21 "java/lang/IndexOutOfBoundsException" ∈ wsL_ask := by decide +kernel
  refine J_aln C0 0 dL_ask_0 (kk := ?_)
  refine J_iln C0 1 dL_ask_1 (kk := ?_)
  refine J_iln C0 2 dL_ask_2 (kk := ?_)
  refine J_tryV C0 hX hM [] gL_ask_X4_ask dL_ask_3 2 0 hrec [] ⟨0, 6, 7, 21⟩ [⟨0, 6, 11, 15⟩] (fun z hz => by
      cases hz) lk21 (hR := ⟨hR.1, hR.2.1⟩) (hf := ⟨by rw [Nat.zero_add]; exact hR.2.2.1, by rw [Nat.zero_add]; exact hR.2.2.2⟩) (kk := fun q => ?_)
  show J G w0 _ _ _ 7 [.ref q]
  refine J_asn C0 ((3, Value.ref q) :: [(0, .ref b), (1, .int x0), (2, .int x1)]) dL_ask_7 (kk := ?_)
  refine J_biv C0 (-101) dL_ask_8 (kk := ?_)
  exact J_iret C0 hF dL_ask_10 ⟨rfl, rfl⟩ (by rw [Nat.zero_add]; exact hR.2.2.1) (by rw [Nat.zero_add]; exact hR.2.2.2)

theorem wL_ask_t103 {K : KT} (l : Launch) {b : Nat} (x0 : Int32) (x1 : Int32) {w0 : List va_W} {fs : List Value} {rmc rm : Room} {tl tg : Nat} (hrec : (w0.flatten)[0]? = some (b, .inr (4, fs))) (hR : rmc.frames + 1 ≤ rm.frames ∧ 8 + (3 + 11) + rmc.locals ≤ rm.locals ∧ rmc.cells ≤ rm.cells ∧ rmc.slots ≤ rm.slots) (hM : CtTL l K yX4_ask wsX4_ask rmc [.ref b, .int x0, .int x1] w0 "java/lang/IllegalStateException" tl tg) : CtW l K yL_ask wsL_ask rm [.ref b, .int x0, .int x1] w0 (some (.int (-103))) w0 tl tg := by
  refine CtWP_ofH (cc := cL_ask) (nL := 4) (rt := some .int) (hh := [(0, 6, 7, 21), (0, 6, 11, 15)]) (own := RL) (lv0 := [(0, .ref b), (1, .int x0), (2, .int x1)]) (by decide) rfl (Nat.le_of_ble_eq_true rfl) rfl rfl ?_
  intro G C0 hF hX
  have lk21 : Cond.classLink RL 21 "java/lang/IndexOutOfBoundsException" ∈ wsL_ask := by decide +kernel
  have lk15 : Cond.classLink RL 15 "java/lang/IllegalStateException" ∈ wsL_ask := by decide +kernel
  refine J_aln C0 0 dL_ask_0 (kk := ?_)
  refine J_iln C0 1 dL_ask_1 (kk := ?_)
  refine J_iln C0 2 dL_ask_2 (kk := ?_)
  refine J_tryV C0 hX hM [] gL_ask_X4_ask dL_ask_3 2 0 hrec [⟨0, 6, 7, 21⟩] ⟨0, 6, 11, 15⟩ [] (fun z hz => by
      rcases List.mem_cons.mp hz with rfl | hz
      · exact ⟨by decide, _, lk21, by decide⟩
      cases hz) lk15 (hR := ⟨hR.1, hR.2.1⟩) (hf := ⟨by rw [Nat.zero_add]; exact hR.2.2.1, by rw [Nat.zero_add]; exact hR.2.2.2⟩) (kk := fun q => ?_)
  show J G w0 _ _ _ 11 [.ref q]
  refine J_asn C0 ((3, Value.ref q) :: [(0, .ref b), (1, .int x0), (2, .int x1)]) dL_ask_11 (kk := ?_)
  refine J_biv C0 (-103) dL_ask_12 (kk := ?_)
  exact J_iret C0 hF dL_ask_14 ⟨rfl, rfl⟩ (by rw [Nat.zero_add]; exact hR.2.2.1) (by rw [Nat.zero_add]; exact hR.2.2.2)

theorem wL_want {K : KT} (l : Launch) {b : Nat} (x0 : Int32) (x1 : Int32) {w0 w1 : List va_W} {fs : List Value} {rmc rm : Room} {tl tg : Nat} (hrec : (w0.flatten)[0]? = some (b, .inr (4, fs))) (hR : rmc.frames + 1 ≤ rm.frames ∧ 8 + (3 + 11) + rmc.locals ≤ rm.locals ∧ rmc.cells ≤ rm.cells ∧ rmc.slots ≤ rm.slots) {r : Int32} (hM : CtL l K yX4_want wsX4_want rmc [.ref b, .int x0, .int x1] w0 (some (.int r)) w1 tl tg) : CtW l K yL_want wsL_want rm [.ref b, .int x0, .int x1] w0 (some (.int r)) w1 tl tg := by
  refine CtWP_ofH (cc := cL_want) (nL := 4) (rt := some .int) (hh := [(0, 6, 7, 21), (0, 6, 11, 15)]) (own := RL) (lv0 := [(0, .ref b), (1, .int x0), (2, .int x1)]) (by decide) rfl (Nat.le_of_ble_eq_true rfl) rfl rfl ?_
  intro G C0 hF hX
  refine J_aln C0 0 dL_want_0 (kk := ?_)
  refine J_iln C0 1 dL_want_1 (kk := ?_)
  refine J_iln C0 2 dL_want_2 (kk := ?_)
  refine J_callVL C0 hX hM [] gL_want_X4_want dL_want_3 2 0 hrec (hR := ⟨hR.1, hR.2.1⟩) (hf := ⟨by rw [Nat.zero_add]; exact hR.2.2.1, by rw [Nat.zero_add]; exact hR.2.2.2⟩) (kk := ?_)
  show J G w1 _ _ _ _ [.int r]
  exact J_iret C0 hF dL_want_6 ⟨rfl, rfl⟩ (by rw [Nat.zero_add]; exact hR.2.2.1) (by rw [Nat.zero_add]; exact hR.2.2.2)

theorem wL_want_t101 {K : KT} (l : Launch) {b : Nat} (x0 : Int32) (x1 : Int32) {w0 : List va_W} {fs : List Value} {rmc rm : Room} {tl tg : Nat} (hrec : (w0.flatten)[0]? = some (b, .inr (4, fs))) (hR : rmc.frames + 1 ≤ rm.frames ∧ 8 + (3 + 11) + rmc.locals ≤ rm.locals ∧ rmc.cells ≤ rm.cells ∧ rmc.slots ≤ rm.slots) (hM : CtTL l K yX4_want wsX4_want rmc [.ref b, .int x0, .int x1] w0 "java/lang/IndexOutOfBoundsException" tl tg) : CtW l K yL_want wsL_want rm [.ref b, .int x0, .int x1] w0 (some (.int (-101))) w0 tl tg := by
  refine CtWP_ofH (cc := cL_want) (nL := 4) (rt := some .int) (hh := [(0, 6, 7, 21), (0, 6, 11, 15)]) (own := RL) (lv0 := [(0, .ref b), (1, .int x0), (2, .int x1)]) (by decide) rfl (Nat.le_of_ble_eq_true rfl) rfl rfl ?_
  intro G C0 hF hX
  have lk21 : Cond.classLink RL 21 "java/lang/IndexOutOfBoundsException" ∈ wsL_want := by decide +kernel
  refine J_aln C0 0 dL_want_0 (kk := ?_)
  refine J_iln C0 1 dL_want_1 (kk := ?_)
  refine J_iln C0 2 dL_want_2 (kk := ?_)
  refine J_tryV C0 hX hM [] gL_want_X4_want dL_want_3 2 0 hrec [] ⟨0, 6, 7, 21⟩ [⟨0, 6, 11, 15⟩] (fun z hz => by
      cases hz) lk21 (hR := ⟨hR.1, hR.2.1⟩) (hf := ⟨by rw [Nat.zero_add]; exact hR.2.2.1, by rw [Nat.zero_add]; exact hR.2.2.2⟩) (kk := fun q => ?_)
  show J G w0 _ _ _ 7 [.ref q]
  refine J_asn C0 ((3, Value.ref q) :: [(0, .ref b), (1, .int x0), (2, .int x1)]) dL_want_7 (kk := ?_)
  refine J_biv C0 (-101) dL_want_8 (kk := ?_)
  exact J_iret C0 hF dL_want_10 ⟨rfl, rfl⟩ (by rw [Nat.zero_add]; exact hR.2.2.1) (by rw [Nat.zero_add]; exact hR.2.2.2)

theorem wL_want_t103 {K : KT} (l : Launch) {b : Nat} (x0 : Int32) (x1 : Int32) {w0 : List va_W} {fs : List Value} {rmc rm : Room} {tl tg : Nat} (hrec : (w0.flatten)[0]? = some (b, .inr (4, fs))) (hR : rmc.frames + 1 ≤ rm.frames ∧ 8 + (3 + 11) + rmc.locals ≤ rm.locals ∧ rmc.cells ≤ rm.cells ∧ rmc.slots ≤ rm.slots) (hM : CtTL l K yX4_want wsX4_want rmc [.ref b, .int x0, .int x1] w0 "java/lang/IllegalStateException" tl tg) : CtW l K yL_want wsL_want rm [.ref b, .int x0, .int x1] w0 (some (.int (-103))) w0 tl tg := by
  refine CtWP_ofH (cc := cL_want) (nL := 4) (rt := some .int) (hh := [(0, 6, 7, 21), (0, 6, 11, 15)]) (own := RL) (lv0 := [(0, .ref b), (1, .int x0), (2, .int x1)]) (by decide) rfl (Nat.le_of_ble_eq_true rfl) rfl rfl ?_
  intro G C0 hF hX
  have lk21 : Cond.classLink RL 21 "java/lang/IndexOutOfBoundsException" ∈ wsL_want := by decide +kernel
  have lk15 : Cond.classLink RL 15 "java/lang/IllegalStateException" ∈ wsL_want := by decide +kernel
  refine J_aln C0 0 dL_want_0 (kk := ?_)
  refine J_iln C0 1 dL_want_1 (kk := ?_)
  refine J_iln C0 2 dL_want_2 (kk := ?_)
  refine J_tryV C0 hX hM [] gL_want_X4_want dL_want_3 2 0 hrec [⟨0, 6, 7, 21⟩] ⟨0, 6, 11, 15⟩ [] (fun z hz => by
      rcases List.mem_cons.mp hz with rfl | hz
      · exact ⟨by decide, _, lk21, by decide⟩
      cases hz) lk15 (hR := ⟨hR.1, hR.2.1⟩) (hf := ⟨by rw [Nat.zero_add]; exact hR.2.2.1, by rw [Nat.zero_add]; exact hR.2.2.2⟩) (kk := fun q => ?_)
  show J G w0 _ _ _ 11 [.ref q]
  refine J_asn C0 ((3, Value.ref q) :: [(0, .ref b), (1, .int x0), (2, .int x1)]) dL_want_11 (kk := ?_)
  refine J_biv C0 (-103) dL_want_12 (kk := ?_)
  exact J_iret C0 hF dL_want_14 ⟨rfl, rfl⟩ (by rw [Nat.zero_add]; exact hR.2.2.1) (by rw [Nat.zero_add]; exact hR.2.2.2)

theorem wL_drink {K : KT} (l : Launch) {b : Nat} (x0 : Int32) {w0 w1 : List va_W} {fs : List Value} {rmc rm : Room} {tl tg : Nat} (hrec : (w0.flatten)[0]? = some (b, .inr (4, fs))) (hR : rmc.frames + 1 ≤ rm.frames ∧ 8 + (2 + 11) + rmc.locals ≤ rm.locals ∧ rmc.cells ≤ rm.cells ∧ rmc.slots ≤ rm.slots) {r : Int32} (hM : CtL l K yX4_drink wsX4_drink rmc [.ref b, .int x0] w0 (some (.int r)) w1 tl tg) : CtW l K yL_drink wsL_drink rm [.ref b, .int x0] w0 (some (.int r)) w1 tl tg := by
  refine CtWP_ofH (cc := cL_drink) (nL := 3) (rt := some .int) (hh := [(0, 5, 6, 21), (0, 5, 10, 15)]) (own := RL) (lv0 := [(0, .ref b), (1, .int x0)]) (by decide) rfl (Nat.le_of_ble_eq_true rfl) rfl rfl ?_
  intro G C0 hF hX
  refine J_aln C0 0 dL_drink_0 (kk := ?_)
  refine J_iln C0 1 dL_drink_1 (kk := ?_)
  refine J_callVL C0 hX hM [] gL_drink_X4_drink dL_drink_2 1 0 hrec (hR := ⟨hR.1, hR.2.1⟩) (hf := ⟨by rw [Nat.zero_add]; exact hR.2.2.1, by rw [Nat.zero_add]; exact hR.2.2.2⟩) (kk := ?_)
  show J G w1 _ _ _ _ [.int r]
  exact J_iret C0 hF dL_drink_5 ⟨rfl, rfl⟩ (by rw [Nat.zero_add]; exact hR.2.2.1) (by rw [Nat.zero_add]; exact hR.2.2.2)

theorem wL_drink_t101 {K : KT} (l : Launch) {b : Nat} (x0 : Int32) {w0 : List va_W} {fs : List Value} {rmc rm : Room} {tl tg : Nat} (hrec : (w0.flatten)[0]? = some (b, .inr (4, fs))) (hR : rmc.frames + 1 ≤ rm.frames ∧ 8 + (2 + 11) + rmc.locals ≤ rm.locals ∧ rmc.cells ≤ rm.cells ∧ rmc.slots ≤ rm.slots) (hM : CtTL l K yX4_drink wsX4_drink rmc [.ref b, .int x0] w0 "java/lang/IndexOutOfBoundsException" tl tg) : CtW l K yL_drink wsL_drink rm [.ref b, .int x0] w0 (some (.int (-101))) w0 tl tg := by
  refine CtWP_ofH (cc := cL_drink) (nL := 3) (rt := some .int) (hh := [(0, 5, 6, 21), (0, 5, 10, 15)]) (own := RL) (lv0 := [(0, .ref b), (1, .int x0)]) (by decide) rfl (Nat.le_of_ble_eq_true rfl) rfl rfl ?_
  intro G C0 hF hX
  have lk21 : Cond.classLink RL 21 "java/lang/IndexOutOfBoundsException" ∈ wsL_drink := by decide +kernel
  refine J_aln C0 0 dL_drink_0 (kk := ?_)
  refine J_iln C0 1 dL_drink_1 (kk := ?_)
  refine J_tryV C0 hX hM [] gL_drink_X4_drink dL_drink_2 1 0 hrec [] ⟨0, 5, 6, 21⟩ [⟨0, 5, 10, 15⟩] (fun z hz => by
      cases hz) lk21 (hR := ⟨hR.1, hR.2.1⟩) (hf := ⟨by rw [Nat.zero_add]; exact hR.2.2.1, by rw [Nat.zero_add]; exact hR.2.2.2⟩) (kk := fun q => ?_)
  show J G w0 _ _ _ 6 [.ref q]
  refine J_asn C0 ((2, Value.ref q) :: [(0, .ref b), (1, .int x0)]) dL_drink_6 (kk := ?_)
  refine J_biv C0 (-101) dL_drink_7 (kk := ?_)
  exact J_iret C0 hF dL_drink_9 ⟨rfl, rfl⟩ (by rw [Nat.zero_add]; exact hR.2.2.1) (by rw [Nat.zero_add]; exact hR.2.2.2)

theorem wL_drink_t103 {K : KT} (l : Launch) {b : Nat} (x0 : Int32) {w0 : List va_W} {fs : List Value} {rmc rm : Room} {tl tg : Nat} (hrec : (w0.flatten)[0]? = some (b, .inr (4, fs))) (hR : rmc.frames + 1 ≤ rm.frames ∧ 8 + (2 + 11) + rmc.locals ≤ rm.locals ∧ rmc.cells ≤ rm.cells ∧ rmc.slots ≤ rm.slots) (hM : CtTL l K yX4_drink wsX4_drink rmc [.ref b, .int x0] w0 "java/lang/IllegalStateException" tl tg) : CtW l K yL_drink wsL_drink rm [.ref b, .int x0] w0 (some (.int (-103))) w0 tl tg := by
  refine CtWP_ofH (cc := cL_drink) (nL := 3) (rt := some .int) (hh := [(0, 5, 6, 21), (0, 5, 10, 15)]) (own := RL) (lv0 := [(0, .ref b), (1, .int x0)]) (by decide) rfl (Nat.le_of_ble_eq_true rfl) rfl rfl ?_
  intro G C0 hF hX
  have lk21 : Cond.classLink RL 21 "java/lang/IndexOutOfBoundsException" ∈ wsL_drink := by decide +kernel
  have lk15 : Cond.classLink RL 15 "java/lang/IllegalStateException" ∈ wsL_drink := by decide +kernel
  refine J_aln C0 0 dL_drink_0 (kk := ?_)
  refine J_iln C0 1 dL_drink_1 (kk := ?_)
  refine J_tryV C0 hX hM [] gL_drink_X4_drink dL_drink_2 1 0 hrec [⟨0, 5, 6, 21⟩] ⟨0, 5, 10, 15⟩ [] (fun z hz => by
      rcases List.mem_cons.mp hz with rfl | hz
      · exact ⟨by decide, _, lk21, by decide⟩
      cases hz) lk15 (hR := ⟨hR.1, hR.2.1⟩) (hf := ⟨by rw [Nat.zero_add]; exact hR.2.2.1, by rw [Nat.zero_add]; exact hR.2.2.2⟩) (kk := fun q => ?_)
  show J G w0 _ _ _ 10 [.ref q]
  refine J_asn C0 ((2, Value.ref q) :: [(0, .ref b), (1, .int x0)]) dL_drink_10 (kk := ?_)
  refine J_biv C0 (-103) dL_drink_11 (kk := ?_)
  exact J_iret C0 hF dL_drink_13 ⟨rfl, rfl⟩ (by rw [Nat.zero_add]; exact hR.2.2.1) (by rw [Nat.zero_add]; exact hR.2.2.2)

theorem wL_pass {K : KT} (l : Launch) {b : Nat} (x0 : Int32) {w0 w1 : List va_W} {fs : List Value} {rmc rm : Room} {tl tg : Nat} (hrec : (w0.flatten)[0]? = some (b, .inr (4, fs))) (hR : rmc.frames + 1 ≤ rm.frames ∧ 8 + (3 + 11) + rmc.locals ≤ rm.locals ∧ rmc.cells ≤ rm.cells ∧ rmc.slots ≤ rm.slots) {r : Int32} (hM : CtL l K yX4_pass wsX4_pass rmc [.ref b, .int x0] w0 (some (.int r)) w1 tl tg) : CtW l K yL_pass wsL_pass rm [.ref b, .int x0] w0 (some (.int r)) w1 tl tg := by
  refine CtWP_ofH (cc := cL_pass) (nL := 3) (rt := some .int) (hh := [(0, 5, 6, 23), (0, 5, 10, 15)]) (own := RL) (lv0 := [(0, .ref b), (1, .int x0)]) (by decide) rfl (Nat.le_of_ble_eq_true rfl) rfl rfl ?_
  intro G C0 hF hX
  refine J_aln C0 0 dL_pass_0 (kk := ?_)
  refine J_iln C0 1 dL_pass_1 (kk := ?_)
  refine J_callVL C0 hX hM [] gL_pass_X4_pass dL_pass_2 1 0 hrec (hR := ⟨hR.1, hR.2.1⟩) (hf := ⟨by rw [Nat.zero_add]; exact hR.2.2.1, by rw [Nat.zero_add]; exact hR.2.2.2⟩) (kk := ?_)
  show J G w1 _ _ _ _ [.int r]
  exact J_iret C0 hF dL_pass_5 ⟨rfl, rfl⟩ (by rw [Nat.zero_add]; exact hR.2.2.1) (by rw [Nat.zero_add]; exact hR.2.2.2)

theorem wL_pass_t102 {K : KT} (l : Launch) {b : Nat} (x0 : Int32) {w0 : List va_W} {fs : List Value} {rmc rm : Room} {tl tg : Nat} (hrec : (w0.flatten)[0]? = some (b, .inr (4, fs))) (hR : rmc.frames + 1 ≤ rm.frames ∧ 8 + (3 + 11) + rmc.locals ≤ rm.locals ∧ rmc.cells ≤ rm.cells ∧ rmc.slots ≤ rm.slots) (hM : CtTL l K yX4_pass wsX4_pass rmc [.ref b, .int x0] w0 "java/lang/IllegalArgumentException" tl tg) : CtW l K yL_pass wsL_pass rm [.ref b, .int x0] w0 (some (.int (-102))) w0 tl tg := by
  refine CtWP_ofH (cc := cL_pass) (nL := 3) (rt := some .int) (hh := [(0, 5, 6, 23), (0, 5, 10, 15)]) (own := RL) (lv0 := [(0, .ref b), (1, .int x0)]) (by decide) rfl (Nat.le_of_ble_eq_true rfl) rfl rfl ?_
  intro G C0 hF hX
  have lk23 : Cond.classLink RL 23 "java/lang/IllegalArgumentException" ∈ wsL_pass := by decide +kernel
  refine J_aln C0 0 dL_pass_0 (kk := ?_)
  refine J_iln C0 1 dL_pass_1 (kk := ?_)
  refine J_tryV C0 hX hM [] gL_pass_X4_pass dL_pass_2 1 0 hrec [] ⟨0, 5, 6, 23⟩ [⟨0, 5, 10, 15⟩] (fun z hz => by
      cases hz) lk23 (hR := ⟨hR.1, hR.2.1⟩) (hf := ⟨by rw [Nat.zero_add]; exact hR.2.2.1, by rw [Nat.zero_add]; exact hR.2.2.2⟩) (kk := fun q => ?_)
  show J G w0 _ _ _ 6 [.ref q]
  refine J_asn C0 ((2, Value.ref q) :: [(0, .ref b), (1, .int x0)]) dL_pass_6 (kk := ?_)
  refine J_biv C0 (-102) dL_pass_7 (kk := ?_)
  exact J_iret C0 hF dL_pass_9 ⟨rfl, rfl⟩ (by rw [Nat.zero_add]; exact hR.2.2.1) (by rw [Nat.zero_add]; exact hR.2.2.2)

theorem wL_pass_t103 {K : KT} (l : Launch) {b : Nat} (x0 : Int32) {w0 : List va_W} {fs : List Value} {rmc rm : Room} {tl tg : Nat} (hrec : (w0.flatten)[0]? = some (b, .inr (4, fs))) (hR : rmc.frames + 1 ≤ rm.frames ∧ 8 + (3 + 11) + rmc.locals ≤ rm.locals ∧ rmc.cells ≤ rm.cells ∧ rmc.slots ≤ rm.slots) (hM : CtTL l K yX4_pass wsX4_pass rmc [.ref b, .int x0] w0 "java/lang/IllegalStateException" tl tg) : CtW l K yL_pass wsL_pass rm [.ref b, .int x0] w0 (some (.int (-103))) w0 tl tg := by
  refine CtWP_ofH (cc := cL_pass) (nL := 3) (rt := some .int) (hh := [(0, 5, 6, 23), (0, 5, 10, 15)]) (own := RL) (lv0 := [(0, .ref b), (1, .int x0)]) (by decide) rfl (Nat.le_of_ble_eq_true rfl) rfl rfl ?_
  intro G C0 hF hX
  have lk23 : Cond.classLink RL 23 "java/lang/IllegalArgumentException" ∈ wsL_pass := by decide +kernel
  have lk15 : Cond.classLink RL 15 "java/lang/IllegalStateException" ∈ wsL_pass := by decide +kernel
  refine J_aln C0 0 dL_pass_0 (kk := ?_)
  refine J_iln C0 1 dL_pass_1 (kk := ?_)
  refine J_tryV C0 hX hM [] gL_pass_X4_pass dL_pass_2 1 0 hrec [⟨0, 5, 6, 23⟩] ⟨0, 5, 10, 15⟩ [] (fun z hz => by
      rcases List.mem_cons.mp hz with rfl | hz
      · exact ⟨by decide, _, lk23, by decide⟩
      cases hz) lk15 (hR := ⟨hR.1, hR.2.1⟩) (hf := ⟨by rw [Nat.zero_add]; exact hR.2.2.1, by rw [Nat.zero_add]; exact hR.2.2.2⟩) (kk := fun q => ?_)
  show J G w0 _ _ _ 10 [.ref q]
  refine J_asn C0 ((2, Value.ref q) :: [(0, .ref b), (1, .int x0)]) dL_pass_10 (kk := ?_)
  refine J_biv C0 (-103) dL_pass_11 (kk := ?_)
  exact J_iret C0 hF dL_pass_13 ⟨rfl, rfl⟩ (by rw [Nat.zero_add]; exact hR.2.2.1) (by rw [Nat.zero_add]; exact hR.2.2.2)

theorem wL_set {K : KT} (l : Launch) {b : Nat} (x0 : Int32) (x1 : Int32) {w0 w1 : List va_W} {fs : List Value} {rmc rm : Room} {tl tg : Nat} (hrec : (w0.flatten)[0]? = some (b, .inr (4, fs))) (hR : rmc.frames + 1 ≤ rm.frames ∧ 8 + (4 + 11) + rmc.locals ≤ rm.locals ∧ rmc.cells ≤ rm.cells ∧ rmc.slots ≤ rm.slots) {r : Int32} (hM : CtL l K yX4_set wsX4_set rmc [.ref b, .int x0, .int x1] w0 (some (.int r)) w1 tl tg) : CtW l K yL_set wsL_set rm [.ref b, .int x0, .int x1] w0 (some (.int r)) w1 tl tg := by
  refine CtWP_ofH (cc := cL_set) (nL := 4) (rt := some .int) (hh := [(0, 6, 7, 21), (0, 6, 11, 23)]) (own := RL) (lv0 := [(0, .ref b), (1, .int x0), (2, .int x1)]) (by decide) rfl (Nat.le_of_ble_eq_true rfl) rfl rfl ?_
  intro G C0 hF hX
  refine J_aln C0 0 dL_set_0 (kk := ?_)
  refine J_iln C0 1 dL_set_1 (kk := ?_)
  refine J_iln C0 2 dL_set_2 (kk := ?_)
  refine J_callVL C0 hX hM [] gL_set_X4_set dL_set_3 2 0 hrec (hR := ⟨hR.1, hR.2.1⟩) (hf := ⟨by rw [Nat.zero_add]; exact hR.2.2.1, by rw [Nat.zero_add]; exact hR.2.2.2⟩) (kk := ?_)
  show J G w1 _ _ _ _ [.int r]
  exact J_iret C0 hF dL_set_6 ⟨rfl, rfl⟩ (by rw [Nat.zero_add]; exact hR.2.2.1) (by rw [Nat.zero_add]; exact hR.2.2.2)

theorem wL_set_t101 {K : KT} (l : Launch) {b : Nat} (x0 : Int32) (x1 : Int32) {w0 : List va_W} {fs : List Value} {rmc rm : Room} {tl tg : Nat} (hrec : (w0.flatten)[0]? = some (b, .inr (4, fs))) (hR : rmc.frames + 1 ≤ rm.frames ∧ 8 + (4 + 11) + rmc.locals ≤ rm.locals ∧ rmc.cells ≤ rm.cells ∧ rmc.slots ≤ rm.slots) (hM : CtTL l K yX4_set wsX4_set rmc [.ref b, .int x0, .int x1] w0 "java/lang/IndexOutOfBoundsException" tl tg) : CtW l K yL_set wsL_set rm [.ref b, .int x0, .int x1] w0 (some (.int (-101))) w0 tl tg := by
  refine CtWP_ofH (cc := cL_set) (nL := 4) (rt := some .int) (hh := [(0, 6, 7, 21), (0, 6, 11, 23)]) (own := RL) (lv0 := [(0, .ref b), (1, .int x0), (2, .int x1)]) (by decide) rfl (Nat.le_of_ble_eq_true rfl) rfl rfl ?_
  intro G C0 hF hX
  have lk21 : Cond.classLink RL 21 "java/lang/IndexOutOfBoundsException" ∈ wsL_set := by decide +kernel
  refine J_aln C0 0 dL_set_0 (kk := ?_)
  refine J_iln C0 1 dL_set_1 (kk := ?_)
  refine J_iln C0 2 dL_set_2 (kk := ?_)
  refine J_tryV C0 hX hM [] gL_set_X4_set dL_set_3 2 0 hrec [] ⟨0, 6, 7, 21⟩ [⟨0, 6, 11, 23⟩] (fun z hz => by
      cases hz) lk21 (hR := ⟨hR.1, hR.2.1⟩) (hf := ⟨by rw [Nat.zero_add]; exact hR.2.2.1, by rw [Nat.zero_add]; exact hR.2.2.2⟩) (kk := fun q => ?_)
  show J G w0 _ _ _ 7 [.ref q]
  refine J_asn C0 ((3, Value.ref q) :: [(0, .ref b), (1, .int x0), (2, .int x1)]) dL_set_7 (kk := ?_)
  refine J_biv C0 (-101) dL_set_8 (kk := ?_)
  exact J_iret C0 hF dL_set_10 ⟨rfl, rfl⟩ (by rw [Nat.zero_add]; exact hR.2.2.1) (by rw [Nat.zero_add]; exact hR.2.2.2)

theorem wL_set_t102 {K : KT} (l : Launch) {b : Nat} (x0 : Int32) (x1 : Int32) {w0 : List va_W} {fs : List Value} {rmc rm : Room} {tl tg : Nat} (hrec : (w0.flatten)[0]? = some (b, .inr (4, fs))) (hR : rmc.frames + 1 ≤ rm.frames ∧ 8 + (4 + 11) + rmc.locals ≤ rm.locals ∧ rmc.cells ≤ rm.cells ∧ rmc.slots ≤ rm.slots) (hM : CtTL l K yX4_set wsX4_set rmc [.ref b, .int x0, .int x1] w0 "java/lang/IllegalArgumentException" tl tg) : CtW l K yL_set wsL_set rm [.ref b, .int x0, .int x1] w0 (some (.int (-102))) w0 tl tg := by
  refine CtWP_ofH (cc := cL_set) (nL := 4) (rt := some .int) (hh := [(0, 6, 7, 21), (0, 6, 11, 23)]) (own := RL) (lv0 := [(0, .ref b), (1, .int x0), (2, .int x1)]) (by decide) rfl (Nat.le_of_ble_eq_true rfl) rfl rfl ?_
  intro G C0 hF hX
  have lk21 : Cond.classLink RL 21 "java/lang/IndexOutOfBoundsException" ∈ wsL_set := by decide +kernel
  have lk23 : Cond.classLink RL 23 "java/lang/IllegalArgumentException" ∈ wsL_set := by decide +kernel
  refine J_aln C0 0 dL_set_0 (kk := ?_)
  refine J_iln C0 1 dL_set_1 (kk := ?_)
  refine J_iln C0 2 dL_set_2 (kk := ?_)
  refine J_tryV C0 hX hM [] gL_set_X4_set dL_set_3 2 0 hrec [⟨0, 6, 7, 21⟩] ⟨0, 6, 11, 23⟩ [] (fun z hz => by
      rcases List.mem_cons.mp hz with rfl | hz
      · exact ⟨by decide, _, lk21, by decide⟩
      cases hz) lk23 (hR := ⟨hR.1, hR.2.1⟩) (hf := ⟨by rw [Nat.zero_add]; exact hR.2.2.1, by rw [Nat.zero_add]; exact hR.2.2.2⟩) (kk := fun q => ?_)
  show J G w0 _ _ _ 11 [.ref q]
  refine J_asn C0 ((3, Value.ref q) :: [(0, .ref b), (1, .int x0), (2, .int x1)]) dL_set_11 (kk := ?_)
  refine J_biv C0 (-102) dL_set_12 (kk := ?_)
  exact J_iret C0 hF dL_set_14 ⟨rfl, rfl⟩ (by rw [Nat.zero_add]; exact hR.2.2.1) (by rw [Nat.zero_add]; exact hR.2.2.2)

theorem wL_append {K : KT} (l : Launch) {b : Nat} (x0 : Int32) {w0 w1 : List va_W} {fs : List Value} {rmc rm : Room} {tl tg : Nat} (hrec : (w0.flatten)[0]? = some (b, .inr (4, fs))) (hR : rmc.frames + 1 ≤ rm.frames ∧ 8 + (2 + 11) + rmc.locals ≤ rm.locals ∧ rmc.cells ≤ rm.cells ∧ rmc.slots ≤ rm.slots) {r : Int32} (hM : CtL l K yX4_append wsX4_append rmc [.ref b, .int x0] w0 (some (.int r)) w1 tl tg) : CtW l K yL_append wsL_append rm [.ref b, .int x0] w0 (some (.int r)) w1 tl tg := by
  refine CtWP_ofH (cc := cL_append) (nL := 3) (rt := some .int) (hh := [(0, 5, 6, 23), (0, 5, 10, 15)]) (own := RL) (lv0 := [(0, .ref b), (1, .int x0)]) (by decide) rfl (Nat.le_of_ble_eq_true rfl) rfl rfl ?_
  intro G C0 hF hX
  refine J_aln C0 0 dL_append_0 (kk := ?_)
  refine J_iln C0 1 dL_append_1 (kk := ?_)
  refine J_callVL C0 hX hM [] gL_append_X4_append dL_append_2 1 0 hrec (hR := ⟨hR.1, hR.2.1⟩) (hf := ⟨by rw [Nat.zero_add]; exact hR.2.2.1, by rw [Nat.zero_add]; exact hR.2.2.2⟩) (kk := ?_)
  show J G w1 _ _ _ _ [.int r]
  exact J_iret C0 hF dL_append_5 ⟨rfl, rfl⟩ (by rw [Nat.zero_add]; exact hR.2.2.1) (by rw [Nat.zero_add]; exact hR.2.2.2)

theorem wL_append_t102 {K : KT} (l : Launch) {b : Nat} (x0 : Int32) {w0 : List va_W} {fs : List Value} {rmc rm : Room} {tl tg : Nat} (hrec : (w0.flatten)[0]? = some (b, .inr (4, fs))) (hR : rmc.frames + 1 ≤ rm.frames ∧ 8 + (2 + 11) + rmc.locals ≤ rm.locals ∧ rmc.cells ≤ rm.cells ∧ rmc.slots ≤ rm.slots) (hM : CtTL l K yX4_append wsX4_append rmc [.ref b, .int x0] w0 "java/lang/IllegalArgumentException" tl tg) : CtW l K yL_append wsL_append rm [.ref b, .int x0] w0 (some (.int (-102))) w0 tl tg := by
  refine CtWP_ofH (cc := cL_append) (nL := 3) (rt := some .int) (hh := [(0, 5, 6, 23), (0, 5, 10, 15)]) (own := RL) (lv0 := [(0, .ref b), (1, .int x0)]) (by decide) rfl (Nat.le_of_ble_eq_true rfl) rfl rfl ?_
  intro G C0 hF hX
  have lk23 : Cond.classLink RL 23 "java/lang/IllegalArgumentException" ∈ wsL_append := by decide +kernel
  refine J_aln C0 0 dL_append_0 (kk := ?_)
  refine J_iln C0 1 dL_append_1 (kk := ?_)
  refine J_tryV C0 hX hM [] gL_append_X4_append dL_append_2 1 0 hrec [] ⟨0, 5, 6, 23⟩ [⟨0, 5, 10, 15⟩] (fun z hz => by
      cases hz) lk23 (hR := ⟨hR.1, hR.2.1⟩) (hf := ⟨by rw [Nat.zero_add]; exact hR.2.2.1, by rw [Nat.zero_add]; exact hR.2.2.2⟩) (kk := fun q => ?_)
  show J G w0 _ _ _ 6 [.ref q]
  refine J_asn C0 ((2, Value.ref q) :: [(0, .ref b), (1, .int x0)]) dL_append_6 (kk := ?_)
  refine J_biv C0 (-102) dL_append_7 (kk := ?_)
  exact J_iret C0 hF dL_append_9 ⟨rfl, rfl⟩ (by rw [Nat.zero_add]; exact hR.2.2.1) (by rw [Nat.zero_add]; exact hR.2.2.2)

theorem wL_append_t103 {K : KT} (l : Launch) {b : Nat} (x0 : Int32) {w0 : List va_W} {fs : List Value} {rmc rm : Room} {tl tg : Nat} (hrec : (w0.flatten)[0]? = some (b, .inr (4, fs))) (hR : rmc.frames + 1 ≤ rm.frames ∧ 8 + (2 + 11) + rmc.locals ≤ rm.locals ∧ rmc.cells ≤ rm.cells ∧ rmc.slots ≤ rm.slots) (hM : CtTL l K yX4_append wsX4_append rmc [.ref b, .int x0] w0 "java/lang/IllegalStateException" tl tg) : CtW l K yL_append wsL_append rm [.ref b, .int x0] w0 (some (.int (-103))) w0 tl tg := by
  refine CtWP_ofH (cc := cL_append) (nL := 3) (rt := some .int) (hh := [(0, 5, 6, 23), (0, 5, 10, 15)]) (own := RL) (lv0 := [(0, .ref b), (1, .int x0)]) (by decide) rfl (Nat.le_of_ble_eq_true rfl) rfl rfl ?_
  intro G C0 hF hX
  have lk23 : Cond.classLink RL 23 "java/lang/IllegalArgumentException" ∈ wsL_append := by decide +kernel
  have lk15 : Cond.classLink RL 15 "java/lang/IllegalStateException" ∈ wsL_append := by decide +kernel
  refine J_aln C0 0 dL_append_0 (kk := ?_)
  refine J_iln C0 1 dL_append_1 (kk := ?_)
  refine J_tryV C0 hX hM [] gL_append_X4_append dL_append_2 1 0 hrec [⟨0, 5, 6, 23⟩] ⟨0, 5, 10, 15⟩ [] (fun z hz => by
      rcases List.mem_cons.mp hz with rfl | hz
      · exact ⟨by decide, _, lk23, by decide⟩
      cases hz) lk15 (hR := ⟨hR.1, hR.2.1⟩) (hf := ⟨by rw [Nat.zero_add]; exact hR.2.2.1, by rw [Nat.zero_add]; exact hR.2.2.2⟩) (kk := fun q => ?_)
  show J G w0 _ _ _ 10 [.ref q]
  refine J_asn C0 ((2, Value.ref q) :: [(0, .ref b), (1, .int x0)]) dL_append_10 (kk := ?_)
  refine J_biv C0 (-103) dL_append_11 (kk := ?_)
  exact J_iret C0 hF dL_append_13 ⟨rfl, rfl⟩ (by rw [Nat.zero_add]; exact hR.2.2.1) (by rw [Nat.zero_add]; exact hR.2.2.2)

theorem wL_run {K : KT} (l : Launch) {b : Nat} {w0 w1 : List va_W} {fs : List Value} {rmc rm : Room} {tl tg : Nat} (hrec : (w0.flatten)[0]? = some (b, .inr (4, fs))) (hR : rmc.frames + 1 ≤ rm.frames ∧ 8 + (3 + 11) + rmc.locals ≤ rm.locals ∧ rmc.cells ≤ rm.cells ∧ rmc.slots ≤ rm.slots) {r : Int32} (hM : CtL l K yX4_run wsX4_run rmc [.ref b] w0 (some (.int r)) w1 tl tg) : CtW l K yL_run wsL_run rm [.ref b] w0 (some (.int r)) w1 tl tg := by
  refine CtWP_ofH (cc := cL_run) (nL := 2) (rt := some .int) (hh := [(0, 4, 5, 23)]) (own := RL) (lv0 := [(0, .ref b)]) (by decide) rfl (Nat.le_of_ble_eq_true rfl) rfl rfl ?_
  intro G C0 hF hX
  refine J_aln C0 0 dL_run_0 (kk := ?_)
  refine J_callVL C0 hX hM [] gL_run_X4_run dL_run_1 0 0 hrec (hR := ⟨hR.1, hR.2.1⟩) (hf := ⟨by rw [Nat.zero_add]; exact hR.2.2.1, by rw [Nat.zero_add]; exact hR.2.2.2⟩) (kk := ?_)
  show J G w1 _ _ _ _ [.int r]
  exact J_iret C0 hF dL_run_4 ⟨rfl, rfl⟩ (by rw [Nat.zero_add]; exact hR.2.2.1) (by rw [Nat.zero_add]; exact hR.2.2.2)

theorem wL_run_t102 {K : KT} (l : Launch) {b : Nat} {w0 : List va_W} {fs : List Value} {rmc rm : Room} {tl tg : Nat} (hrec : (w0.flatten)[0]? = some (b, .inr (4, fs))) (hR : rmc.frames + 1 ≤ rm.frames ∧ 8 + (3 + 11) + rmc.locals ≤ rm.locals ∧ rmc.cells ≤ rm.cells ∧ rmc.slots ≤ rm.slots) (hM : CtTL l K yX4_run wsX4_run rmc [.ref b] w0 "java/lang/IllegalArgumentException" tl tg) : CtW l K yL_run wsL_run rm [.ref b] w0 (some (.int (-102))) w0 tl tg := by
  refine CtWP_ofH (cc := cL_run) (nL := 2) (rt := some .int) (hh := [(0, 4, 5, 23)]) (own := RL) (lv0 := [(0, .ref b)]) (by decide) rfl (Nat.le_of_ble_eq_true rfl) rfl rfl ?_
  intro G C0 hF hX
  have lk23 : Cond.classLink RL 23 "java/lang/IllegalArgumentException" ∈ wsL_run := by decide +kernel
  refine J_aln C0 0 dL_run_0 (kk := ?_)
  refine J_tryV C0 hX hM [] gL_run_X4_run dL_run_1 0 0 hrec [] ⟨0, 4, 5, 23⟩ [] (fun z hz => by
      cases hz) lk23 (hR := ⟨hR.1, hR.2.1⟩) (hf := ⟨by rw [Nat.zero_add]; exact hR.2.2.1, by rw [Nat.zero_add]; exact hR.2.2.2⟩) (kk := fun q => ?_)
  show J G w0 _ _ _ 5 [.ref q]
  refine J_asn C0 ((1, Value.ref q) :: [(0, .ref b)]) dL_run_5 (kk := ?_)
  refine J_biv C0 (-102) dL_run_6 (kk := ?_)
  exact J_iret C0 hF dL_run_8 ⟨rfl, rfl⟩ (by rw [Nat.zero_add]; exact hR.2.2.1) (by rw [Nat.zero_add]; exact hR.2.2.2)

theorem wL_keep {K : KT} (l : Launch) {b : Nat} (x0 : Int32) {w0 w1 : List va_W} {fs : List Value} {rmc rm : Room} {tl tg : Nat} (hrec : (w0.flatten)[0]? = some (b, .inr (4, fs))) (hR : rmc.frames + 1 ≤ rm.frames ∧ 8 + (2 + 11) + rmc.locals ≤ rm.locals ∧ rmc.cells ≤ rm.cells ∧ rmc.slots ≤ rm.slots) {r : Int32} (hM : CtL l K yX4_keep wsX4_keep rmc [.ref b, .int x0] w0 (some (.int r)) w1 tl tg) : CtW l K yL_keep wsL_keep rm [.ref b, .int x0] w0 (some (.int r)) w1 tl tg := by
  refine CtWP_ofH (cc := cL_keep) (nL := 3) (rt := some .int) (hh := [(0, 5, 6, 23)]) (own := RL) (lv0 := [(0, .ref b), (1, .int x0)]) (by decide) rfl (Nat.le_of_ble_eq_true rfl) rfl rfl ?_
  intro G C0 hF hX
  refine J_aln C0 0 dL_keep_0 (kk := ?_)
  refine J_iln C0 1 dL_keep_1 (kk := ?_)
  refine J_callVL C0 hX hM [] gL_keep_X4_keep dL_keep_2 1 0 hrec (hR := ⟨hR.1, hR.2.1⟩) (hf := ⟨by rw [Nat.zero_add]; exact hR.2.2.1, by rw [Nat.zero_add]; exact hR.2.2.2⟩) (kk := ?_)
  show J G w1 _ _ _ _ [.int r]
  exact J_iret C0 hF dL_keep_5 ⟨rfl, rfl⟩ (by rw [Nat.zero_add]; exact hR.2.2.1) (by rw [Nat.zero_add]; exact hR.2.2.2)

theorem wL_keep_t102 {K : KT} (l : Launch) {b : Nat} (x0 : Int32) {w0 : List va_W} {fs : List Value} {rmc rm : Room} {tl tg : Nat} (hrec : (w0.flatten)[0]? = some (b, .inr (4, fs))) (hR : rmc.frames + 1 ≤ rm.frames ∧ 8 + (2 + 11) + rmc.locals ≤ rm.locals ∧ rmc.cells ≤ rm.cells ∧ rmc.slots ≤ rm.slots) (hM : CtTL l K yX4_keep wsX4_keep rmc [.ref b, .int x0] w0 "java/lang/IllegalArgumentException" tl tg) : CtW l K yL_keep wsL_keep rm [.ref b, .int x0] w0 (some (.int (-102))) w0 tl tg := by
  refine CtWP_ofH (cc := cL_keep) (nL := 3) (rt := some .int) (hh := [(0, 5, 6, 23)]) (own := RL) (lv0 := [(0, .ref b), (1, .int x0)]) (by decide) rfl (Nat.le_of_ble_eq_true rfl) rfl rfl ?_
  intro G C0 hF hX
  have lk23 : Cond.classLink RL 23 "java/lang/IllegalArgumentException" ∈ wsL_keep := by decide +kernel
  refine J_aln C0 0 dL_keep_0 (kk := ?_)
  refine J_iln C0 1 dL_keep_1 (kk := ?_)
  refine J_tryV C0 hX hM [] gL_keep_X4_keep dL_keep_2 1 0 hrec [] ⟨0, 5, 6, 23⟩ [] (fun z hz => by
      cases hz) lk23 (hR := ⟨hR.1, hR.2.1⟩) (hf := ⟨by rw [Nat.zero_add]; exact hR.2.2.1, by rw [Nat.zero_add]; exact hR.2.2.2⟩) (kk := fun q => ?_)
  show J G w0 _ _ _ 6 [.ref q]
  refine J_asn C0 ((2, Value.ref q) :: [(0, .ref b), (1, .int x0)]) dL_keep_6 (kk := ?_)
  refine J_biv C0 (-102) dL_keep_7 (kk := ?_)
  exact J_iret C0 hF dL_keep_9 ⟨rfl, rfl⟩ (by rw [Nat.zero_add]; exact hR.2.2.1) (by rw [Nat.zero_add]; exact hR.2.2.2)

theorem wL_goBack {K : KT} (l : Launch) {b : Nat} (x0 : Int32) {w0 w1 : List va_W} {fs : List Value} {rmc rm : Room} {tl tg : Nat} (hrec : (w0.flatten)[0]? = some (b, .inr (4, fs))) (hR : rmc.frames + 1 ≤ rm.frames ∧ 8 + (2 + 11) + rmc.locals ≤ rm.locals ∧ rmc.cells ≤ rm.cells ∧ rmc.slots ≤ rm.slots) {r : Int32} (hM : CtL l K yX4_goBack wsX4_goBack rmc [.ref b, .int x0] w0 (some (.int r)) w1 tl tg) : CtW l K yL_goBack wsL_goBack rm [.ref b, .int x0] w0 (some (.int r)) w1 tl tg := by
  refine CtWP_ofH (cc := cL_goBack) (nL := 3) (rt := some .int) (hh := [(0, 5, 6, 23), (0, 5, 10, 15)]) (own := RL) (lv0 := [(0, .ref b), (1, .int x0)]) (by decide) rfl (Nat.le_of_ble_eq_true rfl) rfl rfl ?_
  intro G C0 hF hX
  refine J_aln C0 0 dL_goBack_0 (kk := ?_)
  refine J_iln C0 1 dL_goBack_1 (kk := ?_)
  refine J_callVL C0 hX hM [] gL_goBack_X4_goBack dL_goBack_2 1 0 hrec (hR := ⟨hR.1, hR.2.1⟩) (hf := ⟨by rw [Nat.zero_add]; exact hR.2.2.1, by rw [Nat.zero_add]; exact hR.2.2.2⟩) (kk := ?_)
  show J G w1 _ _ _ _ [.int r]
  exact J_iret C0 hF dL_goBack_5 ⟨rfl, rfl⟩ (by rw [Nat.zero_add]; exact hR.2.2.1) (by rw [Nat.zero_add]; exact hR.2.2.2)

theorem wL_goBack_t102 {K : KT} (l : Launch) {b : Nat} (x0 : Int32) {w0 : List va_W} {fs : List Value} {rmc rm : Room} {tl tg : Nat} (hrec : (w0.flatten)[0]? = some (b, .inr (4, fs))) (hR : rmc.frames + 1 ≤ rm.frames ∧ 8 + (2 + 11) + rmc.locals ≤ rm.locals ∧ rmc.cells ≤ rm.cells ∧ rmc.slots ≤ rm.slots) (hM : CtTL l K yX4_goBack wsX4_goBack rmc [.ref b, .int x0] w0 "java/lang/IllegalArgumentException" tl tg) : CtW l K yL_goBack wsL_goBack rm [.ref b, .int x0] w0 (some (.int (-102))) w0 tl tg := by
  refine CtWP_ofH (cc := cL_goBack) (nL := 3) (rt := some .int) (hh := [(0, 5, 6, 23), (0, 5, 10, 15)]) (own := RL) (lv0 := [(0, .ref b), (1, .int x0)]) (by decide) rfl (Nat.le_of_ble_eq_true rfl) rfl rfl ?_
  intro G C0 hF hX
  have lk23 : Cond.classLink RL 23 "java/lang/IllegalArgumentException" ∈ wsL_goBack := by decide +kernel
  refine J_aln C0 0 dL_goBack_0 (kk := ?_)
  refine J_iln C0 1 dL_goBack_1 (kk := ?_)
  refine J_tryV C0 hX hM [] gL_goBack_X4_goBack dL_goBack_2 1 0 hrec [] ⟨0, 5, 6, 23⟩ [⟨0, 5, 10, 15⟩] (fun z hz => by
      cases hz) lk23 (hR := ⟨hR.1, hR.2.1⟩) (hf := ⟨by rw [Nat.zero_add]; exact hR.2.2.1, by rw [Nat.zero_add]; exact hR.2.2.2⟩) (kk := fun q => ?_)
  show J G w0 _ _ _ 6 [.ref q]
  refine J_asn C0 ((2, Value.ref q) :: [(0, .ref b), (1, .int x0)]) dL_goBack_6 (kk := ?_)
  refine J_biv C0 (-102) dL_goBack_7 (kk := ?_)
  exact J_iret C0 hF dL_goBack_9 ⟨rfl, rfl⟩ (by rw [Nat.zero_add]; exact hR.2.2.1) (by rw [Nat.zero_add]; exact hR.2.2.2)

theorem wL_goBack_t103 {K : KT} (l : Launch) {b : Nat} (x0 : Int32) {w0 : List va_W} {fs : List Value} {rmc rm : Room} {tl tg : Nat} (hrec : (w0.flatten)[0]? = some (b, .inr (4, fs))) (hR : rmc.frames + 1 ≤ rm.frames ∧ 8 + (2 + 11) + rmc.locals ≤ rm.locals ∧ rmc.cells ≤ rm.cells ∧ rmc.slots ≤ rm.slots) (hM : CtTL l K yX4_goBack wsX4_goBack rmc [.ref b, .int x0] w0 "java/lang/IllegalStateException" tl tg) : CtW l K yL_goBack wsL_goBack rm [.ref b, .int x0] w0 (some (.int (-103))) w0 tl tg := by
  refine CtWP_ofH (cc := cL_goBack) (nL := 3) (rt := some .int) (hh := [(0, 5, 6, 23), (0, 5, 10, 15)]) (own := RL) (lv0 := [(0, .ref b), (1, .int x0)]) (by decide) rfl (Nat.le_of_ble_eq_true rfl) rfl rfl ?_
  intro G C0 hF hX
  have lk23 : Cond.classLink RL 23 "java/lang/IllegalArgumentException" ∈ wsL_goBack := by decide +kernel
  have lk15 : Cond.classLink RL 15 "java/lang/IllegalStateException" ∈ wsL_goBack := by decide +kernel
  refine J_aln C0 0 dL_goBack_0 (kk := ?_)
  refine J_iln C0 1 dL_goBack_1 (kk := ?_)
  refine J_tryV C0 hX hM [] gL_goBack_X4_goBack dL_goBack_2 1 0 hrec [⟨0, 5, 6, 23⟩] ⟨0, 5, 10, 15⟩ [] (fun z hz => by
      rcases List.mem_cons.mp hz with rfl | hz
      · exact ⟨by decide, _, lk23, by decide⟩
      cases hz) lk15 (hR := ⟨hR.1, hR.2.1⟩) (hf := ⟨by rw [Nat.zero_add]; exact hR.2.2.1, by rw [Nat.zero_add]; exact hR.2.2.2⟩) (kk := fun q => ?_)
  show J G w0 _ _ _ 10 [.ref q]
  refine J_asn C0 ((2, Value.ref q) :: [(0, .ref b), (1, .int x0)]) dL_goBack_10 (kk := ?_)
  refine J_biv C0 (-103) dL_goBack_11 (kk := ?_)
  exact J_iret C0 hF dL_goBack_13 ⟨rfl, rfl⟩ (by rw [Nat.zero_add]; exact hR.2.2.1) (by rw [Nat.zero_add]; exact hR.2.2.2)

theorem wL_undo {K : KT} (l : Launch) {b : Nat} {w0 w1 : List va_W} {fs : List Value} {rmc rm : Room} {tl tg : Nat} (hrec : (w0.flatten)[0]? = some (b, .inr (4, fs))) (hR : rmc.frames + 1 ≤ rm.frames ∧ 8 + (1 + 11) + rmc.locals ≤ rm.locals ∧ rmc.cells ≤ rm.cells ∧ rmc.slots ≤ rm.slots) {r : Int32} (hM : CtL l K yX4_undo wsX4_undo rmc [.ref b] w0 (some (.int r)) w1 tl tg) : CtW l K yL_undo wsL_undo rm [.ref b] w0 (some (.int r)) w1 tl tg := by
  refine CtWP_ofH (cc := cL_undo) (nL := 2) (rt := some .int) (hh := [(0, 4, 5, 15)]) (own := RL) (lv0 := [(0, .ref b)]) (by decide) rfl (Nat.le_of_ble_eq_true rfl) rfl rfl ?_
  intro G C0 hF hX
  refine J_aln C0 0 dL_undo_0 (kk := ?_)
  refine J_callVL C0 hX hM [] gL_undo_X4_undo dL_undo_1 0 0 hrec (hR := ⟨hR.1, hR.2.1⟩) (hf := ⟨by rw [Nat.zero_add]; exact hR.2.2.1, by rw [Nat.zero_add]; exact hR.2.2.2⟩) (kk := ?_)
  show J G w1 _ _ _ _ [.int r]
  exact J_iret C0 hF dL_undo_4 ⟨rfl, rfl⟩ (by rw [Nat.zero_add]; exact hR.2.2.1) (by rw [Nat.zero_add]; exact hR.2.2.2)

theorem wL_undo_t103 {K : KT} (l : Launch) {b : Nat} {w0 : List va_W} {fs : List Value} {rmc rm : Room} {tl tg : Nat} (hrec : (w0.flatten)[0]? = some (b, .inr (4, fs))) (hR : rmc.frames + 1 ≤ rm.frames ∧ 8 + (1 + 11) + rmc.locals ≤ rm.locals ∧ rmc.cells ≤ rm.cells ∧ rmc.slots ≤ rm.slots) (hM : CtTL l K yX4_undo wsX4_undo rmc [.ref b] w0 "java/lang/IllegalStateException" tl tg) : CtW l K yL_undo wsL_undo rm [.ref b] w0 (some (.int (-103))) w0 tl tg := by
  refine CtWP_ofH (cc := cL_undo) (nL := 2) (rt := some .int) (hh := [(0, 4, 5, 15)]) (own := RL) (lv0 := [(0, .ref b)]) (by decide) rfl (Nat.le_of_ble_eq_true rfl) rfl rfl ?_
  intro G C0 hF hX
  have lk15 : Cond.classLink RL 15 "java/lang/IllegalStateException" ∈ wsL_undo := by decide +kernel
  refine J_aln C0 0 dL_undo_0 (kk := ?_)
  refine J_tryV C0 hX hM [] gL_undo_X4_undo dL_undo_1 0 0 hrec [] ⟨0, 4, 5, 15⟩ [] (fun z hz => by
      cases hz) lk15 (hR := ⟨hR.1, hR.2.1⟩) (hf := ⟨by rw [Nat.zero_add]; exact hR.2.2.1, by rw [Nat.zero_add]; exact hR.2.2.2⟩) (kk := fun q => ?_)
  show J G w0 _ _ _ 5 [.ref q]
  refine J_asn C0 ((1, Value.ref q) :: [(0, .ref b)]) dL_undo_5 (kk := ?_)
  refine J_biv C0 (-103) dL_undo_6 (kk := ?_)
  exact J_iret C0 hF dL_undo_8 ⟨rfl, rfl⟩ (by rw [Nat.zero_add]; exact hR.2.2.1) (by rw [Nat.zero_add]; exact hR.2.2.2)

theorem wL_kind {K : KT} (l : Launch) {b : Nat} (x0 : Int32) (x1 : Int32) {w0 w1 : List va_W} {fs : List Value} {rmc rm : Room} {tl tg : Nat} (hrec : (w0.flatten)[0]? = some (b, .inr (4, fs))) (hR : rmc.frames + 1 ≤ rm.frames ∧ 8 + (3 + 11) + rmc.locals ≤ rm.locals ∧ rmc.cells ≤ rm.cells ∧ rmc.slots ≤ rm.slots) {r : Int32} (hM : CtL l K yX4_kind wsX4_kind rmc [.ref b, .int x0, .int x1] w0 (some (.int r)) w1 tl tg) : CtW l K yL_kind wsL_kind rm [.ref b, .int x0, .int x1] w0 (some (.int r)) w1 tl tg := by
  refine CtWP_ofH (cc := cL_kind) (nL := 4) (rt := some .int) (hh := [(0, 6, 7, 21), (0, 6, 11, 23)]) (own := RL) (lv0 := [(0, .ref b), (1, .int x0), (2, .int x1)]) (by decide) rfl (Nat.le_of_ble_eq_true rfl) rfl rfl ?_
  intro G C0 hF hX
  refine J_aln C0 0 dL_kind_0 (kk := ?_)
  refine J_iln C0 1 dL_kind_1 (kk := ?_)
  refine J_iln C0 2 dL_kind_2 (kk := ?_)
  refine J_callVL C0 hX hM [] gL_kind_X4_kind dL_kind_3 2 0 hrec (hR := ⟨hR.1, hR.2.1⟩) (hf := ⟨by rw [Nat.zero_add]; exact hR.2.2.1, by rw [Nat.zero_add]; exact hR.2.2.2⟩) (kk := ?_)
  show J G w1 _ _ _ _ [.int r]
  exact J_iret C0 hF dL_kind_6 ⟨rfl, rfl⟩ (by rw [Nat.zero_add]; exact hR.2.2.1) (by rw [Nat.zero_add]; exact hR.2.2.2)

theorem wL_kind_t101 {K : KT} (l : Launch) {b : Nat} (x0 : Int32) (x1 : Int32) {w0 : List va_W} {fs : List Value} {rmc rm : Room} {tl tg : Nat} (hrec : (w0.flatten)[0]? = some (b, .inr (4, fs))) (hR : rmc.frames + 1 ≤ rm.frames ∧ 8 + (3 + 11) + rmc.locals ≤ rm.locals ∧ rmc.cells ≤ rm.cells ∧ rmc.slots ≤ rm.slots) (hM : CtTL l K yX4_kind wsX4_kind rmc [.ref b, .int x0, .int x1] w0 "java/lang/IndexOutOfBoundsException" tl tg) : CtW l K yL_kind wsL_kind rm [.ref b, .int x0, .int x1] w0 (some (.int (-101))) w0 tl tg := by
  refine CtWP_ofH (cc := cL_kind) (nL := 4) (rt := some .int) (hh := [(0, 6, 7, 21), (0, 6, 11, 23)]) (own := RL) (lv0 := [(0, .ref b), (1, .int x0), (2, .int x1)]) (by decide) rfl (Nat.le_of_ble_eq_true rfl) rfl rfl ?_
  intro G C0 hF hX
  have lk21 : Cond.classLink RL 21 "java/lang/IndexOutOfBoundsException" ∈ wsL_kind := by decide +kernel
  refine J_aln C0 0 dL_kind_0 (kk := ?_)
  refine J_iln C0 1 dL_kind_1 (kk := ?_)
  refine J_iln C0 2 dL_kind_2 (kk := ?_)
  refine J_tryV C0 hX hM [] gL_kind_X4_kind dL_kind_3 2 0 hrec [] ⟨0, 6, 7, 21⟩ [⟨0, 6, 11, 23⟩] (fun z hz => by
      cases hz) lk21 (hR := ⟨hR.1, hR.2.1⟩) (hf := ⟨by rw [Nat.zero_add]; exact hR.2.2.1, by rw [Nat.zero_add]; exact hR.2.2.2⟩) (kk := fun q => ?_)
  show J G w0 _ _ _ 7 [.ref q]
  refine J_asn C0 ((3, Value.ref q) :: [(0, .ref b), (1, .int x0), (2, .int x1)]) dL_kind_7 (kk := ?_)
  refine J_biv C0 (-101) dL_kind_8 (kk := ?_)
  exact J_iret C0 hF dL_kind_10 ⟨rfl, rfl⟩ (by rw [Nat.zero_add]; exact hR.2.2.1) (by rw [Nat.zero_add]; exact hR.2.2.2)

theorem wL_kind_t102 {K : KT} (l : Launch) {b : Nat} (x0 : Int32) (x1 : Int32) {w0 : List va_W} {fs : List Value} {rmc rm : Room} {tl tg : Nat} (hrec : (w0.flatten)[0]? = some (b, .inr (4, fs))) (hR : rmc.frames + 1 ≤ rm.frames ∧ 8 + (3 + 11) + rmc.locals ≤ rm.locals ∧ rmc.cells ≤ rm.cells ∧ rmc.slots ≤ rm.slots) (hM : CtTL l K yX4_kind wsX4_kind rmc [.ref b, .int x0, .int x1] w0 "java/lang/IllegalArgumentException" tl tg) : CtW l K yL_kind wsL_kind rm [.ref b, .int x0, .int x1] w0 (some (.int (-102))) w0 tl tg := by
  refine CtWP_ofH (cc := cL_kind) (nL := 4) (rt := some .int) (hh := [(0, 6, 7, 21), (0, 6, 11, 23)]) (own := RL) (lv0 := [(0, .ref b), (1, .int x0), (2, .int x1)]) (by decide) rfl (Nat.le_of_ble_eq_true rfl) rfl rfl ?_
  intro G C0 hF hX
  have lk21 : Cond.classLink RL 21 "java/lang/IndexOutOfBoundsException" ∈ wsL_kind := by decide +kernel
  have lk23 : Cond.classLink RL 23 "java/lang/IllegalArgumentException" ∈ wsL_kind := by decide +kernel
  refine J_aln C0 0 dL_kind_0 (kk := ?_)
  refine J_iln C0 1 dL_kind_1 (kk := ?_)
  refine J_iln C0 2 dL_kind_2 (kk := ?_)
  refine J_tryV C0 hX hM [] gL_kind_X4_kind dL_kind_3 2 0 hrec [⟨0, 6, 7, 21⟩] ⟨0, 6, 11, 23⟩ [] (fun z hz => by
      rcases List.mem_cons.mp hz with rfl | hz
      · exact ⟨by decide, _, lk21, by decide⟩
      cases hz) lk23 (hR := ⟨hR.1, hR.2.1⟩) (hf := ⟨by rw [Nat.zero_add]; exact hR.2.2.1, by rw [Nat.zero_add]; exact hR.2.2.2⟩) (kk := fun q => ?_)
  show J G w0 _ _ _ 11 [.ref q]
  refine J_asn C0 ((3, Value.ref q) :: [(0, .ref b), (1, .int x0), (2, .int x1)]) dL_kind_11 (kk := ?_)
  refine J_biv C0 (-102) dL_kind_12 (kk := ?_)
  exact J_iret C0 hF dL_kind_14 ⟨rfl, rfl⟩ (by rw [Nat.zero_add]; exact hR.2.2.1) (by rw [Nat.zero_add]; exact hR.2.2.2)

theorem wL_houseOf {K : KT} (l : Launch) {b : Nat} (x0 : Int32) (x1 : Int32) (x2 : Int32) {w0 w1 : List va_W} {fs : List Value} {rmc rm : Room} {tl tg : Nat} (hrec : (w0.flatten)[0]? = some (b, .inr (4, fs))) (hR : rmc.frames + 1 ≤ rm.frames ∧ 8 + (4 + 11) + rmc.locals ≤ rm.locals ∧ rmc.cells ≤ rm.cells ∧ rmc.slots ≤ rm.slots) {r : Int32} (hM : CtL l K yX4_houseOf wsX4_houseOf rmc [.ref b, .int x0, .int x1, .int x2] w0 (some (.int r)) w1 tl tg) : CtW l K yL_houseOf wsL_houseOf rm [.ref b, .int x0, .int x1, .int x2] w0 (some (.int r)) w1 tl tg := by
  refine CtWP_ofH (cc := cL_houseOf) (nL := 5) (rt := some .int) (hh := [(0, 7, 8, 21), (0, 7, 13, 23)]) (own := RL) (lv0 := [(0, .ref b), (1, .int x0), (2, .int x1), (3, .int x2)]) (by decide) rfl (Nat.le_of_ble_eq_true rfl) rfl rfl ?_
  intro G C0 hF hX
  refine J_aln C0 0 dL_houseOf_0 (kk := ?_)
  refine J_iln C0 1 dL_houseOf_1 (kk := ?_)
  refine J_iln C0 2 dL_houseOf_2 (kk := ?_)
  refine J_iln C0 3 dL_houseOf_3 (kk := ?_)
  refine J_callVL C0 hX hM [] gL_houseOf_X4_houseOf dL_houseOf_4 3 0 hrec (hR := ⟨hR.1, hR.2.1⟩) (hf := ⟨by rw [Nat.zero_add]; exact hR.2.2.1, by rw [Nat.zero_add]; exact hR.2.2.2⟩) (kk := ?_)
  show J G w1 _ _ _ _ [.int r]
  exact J_iret C0 hF dL_houseOf_7 ⟨rfl, rfl⟩ (by rw [Nat.zero_add]; exact hR.2.2.1) (by rw [Nat.zero_add]; exact hR.2.2.2)

theorem wL_houseOf_t101 {K : KT} (l : Launch) {b : Nat} (x0 : Int32) (x1 : Int32) (x2 : Int32) {w0 : List va_W} {fs : List Value} {rmc rm : Room} {tl tg : Nat} (hrec : (w0.flatten)[0]? = some (b, .inr (4, fs))) (hR : rmc.frames + 1 ≤ rm.frames ∧ 8 + (4 + 11) + rmc.locals ≤ rm.locals ∧ rmc.cells ≤ rm.cells ∧ rmc.slots ≤ rm.slots) (hM : CtTL l K yX4_houseOf wsX4_houseOf rmc [.ref b, .int x0, .int x1, .int x2] w0 "java/lang/IndexOutOfBoundsException" tl tg) : CtW l K yL_houseOf wsL_houseOf rm [.ref b, .int x0, .int x1, .int x2] w0 (some (.int (-101))) w0 tl tg := by
  refine CtWP_ofH (cc := cL_houseOf) (nL := 5) (rt := some .int) (hh := [(0, 7, 8, 21), (0, 7, 13, 23)]) (own := RL) (lv0 := [(0, .ref b), (1, .int x0), (2, .int x1), (3, .int x2)]) (by decide) rfl (Nat.le_of_ble_eq_true rfl) rfl rfl ?_
  intro G C0 hF hX
  have lk21 : Cond.classLink RL 21 "java/lang/IndexOutOfBoundsException" ∈ wsL_houseOf := by decide +kernel
  refine J_aln C0 0 dL_houseOf_0 (kk := ?_)
  refine J_iln C0 1 dL_houseOf_1 (kk := ?_)
  refine J_iln C0 2 dL_houseOf_2 (kk := ?_)
  refine J_iln C0 3 dL_houseOf_3 (kk := ?_)
  refine J_tryV C0 hX hM [] gL_houseOf_X4_houseOf dL_houseOf_4 3 0 hrec [] ⟨0, 7, 8, 21⟩ [⟨0, 7, 13, 23⟩] (fun z hz => by
      cases hz) lk21 (hR := ⟨hR.1, hR.2.1⟩) (hf := ⟨by rw [Nat.zero_add]; exact hR.2.2.1, by rw [Nat.zero_add]; exact hR.2.2.2⟩) (kk := fun q => ?_)
  show J G w0 _ _ _ 8 [.ref q]
  refine J_as C0 ((4, Value.ref q) :: [(0, .ref b), (1, .int x0), (2, .int x1), (3, .int x2)]) dL_houseOf_8 (kk := ?_)
  refine J_biv C0 (-101) dL_houseOf_10 (kk := ?_)
  exact J_iret C0 hF dL_houseOf_12 ⟨rfl, rfl⟩ (by rw [Nat.zero_add]; exact hR.2.2.1) (by rw [Nat.zero_add]; exact hR.2.2.2)

theorem wL_houseOf_t102 {K : KT} (l : Launch) {b : Nat} (x0 : Int32) (x1 : Int32) (x2 : Int32) {w0 : List va_W} {fs : List Value} {rmc rm : Room} {tl tg : Nat} (hrec : (w0.flatten)[0]? = some (b, .inr (4, fs))) (hR : rmc.frames + 1 ≤ rm.frames ∧ 8 + (4 + 11) + rmc.locals ≤ rm.locals ∧ rmc.cells ≤ rm.cells ∧ rmc.slots ≤ rm.slots) (hM : CtTL l K yX4_houseOf wsX4_houseOf rmc [.ref b, .int x0, .int x1, .int x2] w0 "java/lang/IllegalArgumentException" tl tg) : CtW l K yL_houseOf wsL_houseOf rm [.ref b, .int x0, .int x1, .int x2] w0 (some (.int (-102))) w0 tl tg := by
  refine CtWP_ofH (cc := cL_houseOf) (nL := 5) (rt := some .int) (hh := [(0, 7, 8, 21), (0, 7, 13, 23)]) (own := RL) (lv0 := [(0, .ref b), (1, .int x0), (2, .int x1), (3, .int x2)]) (by decide) rfl (Nat.le_of_ble_eq_true rfl) rfl rfl ?_
  intro G C0 hF hX
  have lk21 : Cond.classLink RL 21 "java/lang/IndexOutOfBoundsException" ∈ wsL_houseOf := by decide +kernel
  have lk23 : Cond.classLink RL 23 "java/lang/IllegalArgumentException" ∈ wsL_houseOf := by decide +kernel
  refine J_aln C0 0 dL_houseOf_0 (kk := ?_)
  refine J_iln C0 1 dL_houseOf_1 (kk := ?_)
  refine J_iln C0 2 dL_houseOf_2 (kk := ?_)
  refine J_iln C0 3 dL_houseOf_3 (kk := ?_)
  refine J_tryV C0 hX hM [] gL_houseOf_X4_houseOf dL_houseOf_4 3 0 hrec [⟨0, 7, 8, 21⟩] ⟨0, 7, 13, 23⟩ [] (fun z hz => by
      rcases List.mem_cons.mp hz with rfl | hz
      · exact ⟨by decide, _, lk21, by decide⟩
      cases hz) lk23 (hR := ⟨hR.1, hR.2.1⟩) (hf := ⟨by rw [Nat.zero_add]; exact hR.2.2.1, by rw [Nat.zero_add]; exact hR.2.2.2⟩) (kk := fun q => ?_)
  show J G w0 _ _ _ 13 [.ref q]
  refine J_as C0 ((4, Value.ref q) :: [(0, .ref b), (1, .int x0), (2, .int x1), (3, .int x2)]) dL_houseOf_13 (kk := ?_)
  refine J_biv C0 (-102) dL_houseOf_15 (kk := ?_)
  exact J_iret C0 hF dL_houseOf_17 ⟨rfl, rfl⟩ (by rw [Nat.zero_add]; exact hR.2.2.1) (by rw [Nat.zero_add]; exact hR.2.2.2)

theorem wL_letter {K : KT} (l : Launch) {b : Nat} (x0 : Int32) (x1 : Int32) {w0 w1 : List va_W} {fs : List Value} {rmc rm : Room} {tl tg : Nat} (hrec : (w0.flatten)[0]? = some (b, .inr (4, fs))) (hR : rmc.frames + 1 ≤ rm.frames ∧ 8 + (3 + 11) + rmc.locals ≤ rm.locals ∧ rmc.cells ≤ rm.cells ∧ rmc.slots ≤ rm.slots) {r : Int32} (hM : CtL l K yX4_letter wsX4_letter rmc [.ref b, .int x0, .int x1] w0 (some (.int r)) w1 tl tg) : CtW l K yL_letter wsL_letter rm [.ref b, .int x0, .int x1] w0 (some (.int r)) w1 tl tg := by
  refine CtWP_ofH (cc := cL_letter) (nL := 4) (rt := some .int) (hh := [(0, 6, 7, 23)]) (own := RL) (lv0 := [(0, .ref b), (1, .int x0), (2, .int x1)]) (by decide) rfl (Nat.le_of_ble_eq_true rfl) rfl rfl ?_
  intro G C0 hF hX
  refine J_aln C0 0 dL_letter_0 (kk := ?_)
  refine J_iln C0 1 dL_letter_1 (kk := ?_)
  refine J_iln C0 2 dL_letter_2 (kk := ?_)
  refine J_callVL C0 hX hM [] gL_letter_X4_letter dL_letter_3 2 0 hrec (hR := ⟨hR.1, hR.2.1⟩) (hf := ⟨by rw [Nat.zero_add]; exact hR.2.2.1, by rw [Nat.zero_add]; exact hR.2.2.2⟩) (kk := ?_)
  show J G w1 _ _ _ _ [.int r]
  exact J_iret C0 hF dL_letter_6 ⟨rfl, rfl⟩ (by rw [Nat.zero_add]; exact hR.2.2.1) (by rw [Nat.zero_add]; exact hR.2.2.2)

theorem wL_letter_t102 {K : KT} (l : Launch) {b : Nat} (x0 : Int32) (x1 : Int32) {w0 : List va_W} {fs : List Value} {rmc rm : Room} {tl tg : Nat} (hrec : (w0.flatten)[0]? = some (b, .inr (4, fs))) (hR : rmc.frames + 1 ≤ rm.frames ∧ 8 + (3 + 11) + rmc.locals ≤ rm.locals ∧ rmc.cells ≤ rm.cells ∧ rmc.slots ≤ rm.slots) (hM : CtTL l K yX4_letter wsX4_letter rmc [.ref b, .int x0, .int x1] w0 "java/lang/IllegalArgumentException" tl tg) : CtW l K yL_letter wsL_letter rm [.ref b, .int x0, .int x1] w0 (some (.int (-102))) w0 tl tg := by
  refine CtWP_ofH (cc := cL_letter) (nL := 4) (rt := some .int) (hh := [(0, 6, 7, 23)]) (own := RL) (lv0 := [(0, .ref b), (1, .int x0), (2, .int x1)]) (by decide) rfl (Nat.le_of_ble_eq_true rfl) rfl rfl ?_
  intro G C0 hF hX
  have lk23 : Cond.classLink RL 23 "java/lang/IllegalArgumentException" ∈ wsL_letter := by decide +kernel
  refine J_aln C0 0 dL_letter_0 (kk := ?_)
  refine J_iln C0 1 dL_letter_1 (kk := ?_)
  refine J_iln C0 2 dL_letter_2 (kk := ?_)
  refine J_tryV C0 hX hM [] gL_letter_X4_letter dL_letter_3 2 0 hrec [] ⟨0, 6, 7, 23⟩ [] (fun z hz => by
      cases hz) lk23 (hR := ⟨hR.1, hR.2.1⟩) (hf := ⟨by rw [Nat.zero_add]; exact hR.2.2.1, by rw [Nat.zero_add]; exact hR.2.2.2⟩) (kk := fun q => ?_)
  show J G w0 _ _ _ 7 [.ref q]
  refine J_asn C0 ((3, Value.ref q) :: [(0, .ref b), (1, .int x0), (2, .int x1)]) dL_letter_7 (kk := ?_)
  refine J_biv C0 (-102) dL_letter_8 (kk := ?_)
  exact J_iret C0 hF dL_letter_10 ⟨rfl, rfl⟩ (by rw [Nat.zero_add]; exact hR.2.2.1) (by rw [Nat.zero_add]; exact hR.2.2.2)

theorem wL_ifPassed {K : KT} (l : Launch) {b : Nat} (x0 : Int32) (x1 : Int32) {w0 w1 : List va_W} {fs : List Value} {rmc rm : Room} {tl tg : Nat} (hrec : (w0.flatten)[0]? = some (b, .inr (4, fs))) (hR : rmc.frames + 1 ≤ rm.frames ∧ 8 + (3 + 11) + rmc.locals ≤ rm.locals ∧ rmc.cells ≤ rm.cells ∧ rmc.slots ≤ rm.slots) {r : Int32} (hM : CtL l K yX4_ifPassed wsX4_ifPassed rmc [.ref b, .int x0, .int x1] w0 (some (.int r)) w1 tl tg) : CtW l K yL_ifPassed wsL_ifPassed rm [.ref b, .int x0, .int x1] w0 (some (.int r)) w1 tl tg := by
  refine CtWP_ofH (cc := cL_ifPassed) (nL := 4) (rt := some .int) (hh := [(0, 6, 7, 23)]) (own := RL) (lv0 := [(0, .ref b), (1, .int x0), (2, .int x1)]) (by decide) rfl (Nat.le_of_ble_eq_true rfl) rfl rfl ?_
  intro G C0 hF hX
  refine J_aln C0 0 dL_ifPassed_0 (kk := ?_)
  refine J_iln C0 1 dL_ifPassed_1 (kk := ?_)
  refine J_iln C0 2 dL_ifPassed_2 (kk := ?_)
  refine J_callVL C0 hX hM [] gL_ifPassed_X4_ifPassed dL_ifPassed_3 2 0 hrec (hR := ⟨hR.1, hR.2.1⟩) (hf := ⟨by rw [Nat.zero_add]; exact hR.2.2.1, by rw [Nat.zero_add]; exact hR.2.2.2⟩) (kk := ?_)
  show J G w1 _ _ _ _ [.int r]
  exact J_iret C0 hF dL_ifPassed_6 ⟨rfl, rfl⟩ (by rw [Nat.zero_add]; exact hR.2.2.1) (by rw [Nat.zero_add]; exact hR.2.2.2)

theorem wL_ifPassed_t102 {K : KT} (l : Launch) {b : Nat} (x0 : Int32) (x1 : Int32) {w0 : List va_W} {fs : List Value} {rmc rm : Room} {tl tg : Nat} (hrec : (w0.flatten)[0]? = some (b, .inr (4, fs))) (hR : rmc.frames + 1 ≤ rm.frames ∧ 8 + (3 + 11) + rmc.locals ≤ rm.locals ∧ rmc.cells ≤ rm.cells ∧ rmc.slots ≤ rm.slots) (hM : CtTL l K yX4_ifPassed wsX4_ifPassed rmc [.ref b, .int x0, .int x1] w0 "java/lang/IllegalArgumentException" tl tg) : CtW l K yL_ifPassed wsL_ifPassed rm [.ref b, .int x0, .int x1] w0 (some (.int (-102))) w0 tl tg := by
  refine CtWP_ofH (cc := cL_ifPassed) (nL := 4) (rt := some .int) (hh := [(0, 6, 7, 23)]) (own := RL) (lv0 := [(0, .ref b), (1, .int x0), (2, .int x1)]) (by decide) rfl (Nat.le_of_ble_eq_true rfl) rfl rfl ?_
  intro G C0 hF hX
  have lk23 : Cond.classLink RL 23 "java/lang/IllegalArgumentException" ∈ wsL_ifPassed := by decide +kernel
  refine J_aln C0 0 dL_ifPassed_0 (kk := ?_)
  refine J_iln C0 1 dL_ifPassed_1 (kk := ?_)
  refine J_iln C0 2 dL_ifPassed_2 (kk := ?_)
  refine J_tryV C0 hX hM [] gL_ifPassed_X4_ifPassed dL_ifPassed_3 2 0 hrec [] ⟨0, 6, 7, 23⟩ [] (fun z hz => by
      cases hz) lk23 (hR := ⟨hR.1, hR.2.1⟩) (hf := ⟨by rw [Nat.zero_add]; exact hR.2.2.1, by rw [Nat.zero_add]; exact hR.2.2.2⟩) (kk := fun q => ?_)
  show J G w0 _ _ _ 7 [.ref q]
  refine J_asn C0 ((3, Value.ref q) :: [(0, .ref b), (1, .int x0), (2, .int x1)]) dL_ifPassed_7 (kk := ?_)
  refine J_biv C0 (-102) dL_ifPassed_8 (kk := ?_)
  exact J_iret C0 hF dL_ifPassed_10 ⟨rfl, rfl⟩ (by rw [Nat.zero_add]; exact hR.2.2.1) (by rw [Nat.zero_add]; exact hR.2.2.2)
