/-! the law's methods with a table over the class's world -/
abbrev rmW : Room := { frames := 9, cells := 0, slots := 0, locals := 250 }
abbrev rmV : Room := { frames := 9, cells := 1, slots := 6, locals := 250 }
section IN
variable (l : Launch) (K : KT) (b nA aA : Nat → Nat) (d e : Nat → Nat → Nat) (F Ga : FF) (D S : Nat → FF) (T : FF) (tl tg : Nat)
theorem k_kind {c w : Nat} (hc : c < 3) (hw : w < 7) : CtW l K yL_kind wsL_kind rmW [.ref (b 0), .int (nI c), .int (nI w)] (corkW K b nA aA d e F Ga D S T) (some (.int (kindC F c w))) (corkW K b nA aA d e F Ga D S T) tl tg :=
  wL_kind l _ _ rfl ⟨by decide, by decide, by decide, by decide⟩ (CtL.of tl tg (mX4_kind l K b nA aA d e F Ga D S T hc hw))
theorem k_houseOf {hn : Nat} (eh : F 0 1 = nI hn) (h4 : hn ≤ 4) {h c w : Nat} (hh : h < hn) (hc : c < 3) (hw : w < 10) : CtW l K yL_houseOf wsL_houseOf rmW [.ref (b 0), .int (nI h), .int (nI c), .int (nI w)] (corkW K b nA aA d e F Ga D S T) (some (.int (placeC F (h * 3 + c) w))) (corkW K b nA aA d e F Ga D S T) tl tg :=
  wL_houseOf l _ _ _ rfl ⟨by decide, by decide, by decide, by decide⟩ (CtL.of tl tg (mX4_houseOf l K b nA aA d e F Ga D S T (show h < 4 by omega) hc (isPl_mk eh h4 hh hc) hw))
theorem k_letter {n : Nat} (en : F 0 4 = nI n) (n40 : n ≤ 40) {r w : Nat} (hr : r < n) (hw : w < 5) : CtW l K yL_letter wsL_letter rmW [.ref (b 0), .int (nI r), .int (nI w)] (corkW K b nA aA d e F Ga D S T) (some (.int (letC F n r w))) (corkW K b nA aA d e F Ga D S T) tl tg :=
  wL_letter l _ _ rfl ⟨by decide, by decide, by decide, by decide⟩ (CtL.of tl tg (mX4_letter l K b nA aA d e F Ga D S T en n40 (by omega) hw))
theorem k_ifPassed (hSh : Sh F) {t w : Nat} (h1 : 1 ≤ t) (h60 : t ≤ 60) (hw : w < 4) : CtW l K yL_ifPassed wsL_ifPassed rmV [.ref (b 0), .int (nI t), .int (nI w)] (corkW K b nA aA d e F Ga D S T) (some (.int (foreC F (ticksC t F) w))) (corkW K b nA aA d e F (ticksC t F) D S T) tl tg :=
  wL_ifPassed l _ _ rfl ⟨by decide, by decide, by decide, by decide⟩ (CtL.of tl tg (mX4_ifPassed l K b nA aA d e F Ga D S T hSh h1 h60 hw))
theorem k_ifPassed_t (hst : l.stackTraces = false) {t : Nat} (ht : t < 2 ^ 30) (hb : t = 0 ∨ 60 < t) (x : Int32) : CtW l K yL_ifPassed wsL_ifPassed rmV [.ref (b 0), .int (nI t), .int x] (corkW K b nA aA d e F Ga D S T) (some (.int (-102))) (corkW K b nA aA d e F Ga D S T) tl tg :=
  wL_ifPassed_t102 l _ _ rfl ⟨by decide, by decide, by decide, by decide⟩ (CtTL.of tl tg (tX4_ifPassed_ticks l hst K b nA aA d e F Ga D S T (by
    rcases hb with rfl | q
    · exact Or.inl (by decide)
    · exact Or.inr (nI_lt q (by omega))) x))
theorem k_ifPassed_w (hst : l.stackTraces = false) {t : Nat} (h1 : 1 ≤ t) (h60 : t ≤ 60) : CtW l K yL_ifPassed wsL_ifPassed rmV [.ref (b 0), .int (nI t), .int (nI 4)] (corkW K b nA aA d e F Ga D S T) (some (.int (-102))) (corkW K b nA aA d e F Ga D S T) tl tg :=
  wL_ifPassed_t102 l _ _ rfl ⟨by decide, by decide, by decide, by decide⟩ (CtTL.of tl tg (tX4_ifPassed_what l hst K b nA aA d e F Ga D S T h1 h60 (Or.inr (by decide))))
theorem k_append {x : Int32} (hx1 : ¬ x < nI 33) (hx2 : x ≤ nI 126) {n : Nat} (hl : T 0 1 = nI n) (h60 : n < 60) : CtW l K yL_append wsL_append rmW [.ref (b 0), .int x] (corkW K b nA aA d e F Ga D S T) (some (.int (nI (n + 1)))) (corkW K b nA aA d e F Ga D S (u2 (u2 T 2 n x) 0 1 (nI (n + 1)))) tl tg :=
  wL_append l _ rfl ⟨by decide, by decide, by decide, by decide⟩ (CtL.of tl tg (mX4_append l K b nA aA d e F Ga D S T hx1 hx2 hl h60))
theorem k_run {k : Nat} (h6 : k ≤ 6) (hk : T 0 0 = nI k) (hSh : Sh F) {n : Nat} (hn : T 0 1 = nI n) (h60 : n ≤ 60) (hday : ¬ n = 0 ∧ awAt T n = 0) : CtW l K yL_run wsL_run rmV [.ref (b 0)] (corkW K b nA aA d e F Ga D S T) (some (.int (nI (runR (pushT k T) n (n + 1) 0 0 F).1))) (corkW K b nA aA d (pushE k e) (runR (pushT k T) n (n + 1) 0 0 F).2 Ga D (pushS k S F) (u2 (pushT k T) 0 1 (nI 0))) tl tg :=
  wL_run l rfl ⟨by decide, by decide, by decide, by decide⟩ (CtL.of tl tg (mX4_run l K b nA aA d e F Ga D S T h6 hk hSh hn h60 hday))
theorem k_run_t (hst : l.stackTraces = false) {n : Nat} (hn : T 0 1 = nI n) (h60 : n ≤ 60) (hday : ¬ (¬ n = 0 ∧ awAt T n = 0)) : CtW l K yL_run wsL_run rmV [.ref (b 0)] (corkW K b nA aA d e F Ga D S T) (some (.int (-102))) (corkW K b nA aA d e F Ga D S T) tl tg :=
  wL_run_t102 l rfl ⟨by decide, by decide, by decide, by decide⟩ (CtTL.of tl tg (tX4_run l hst K b nA aA d e F Ga D S T hn h60 hday))
theorem k_house {k : Nat} (h6 : k ≤ 6) (hk : T 0 0 = nI k) {hn : Nat} (eh : F 0 1 = nI hn) (h4 : hn < 4) : CtW l K yL_house wsL_house rmV [.ref (b 0)] (corkW K b nA aA d e F Ga D S T) (some (.int (nI hn))) (corkW K b nA aA d (pushE k e) (u2 F 0 1 (nI (hn + 1))) Ga D (pushS k S F) (pushT k T)) tl tg :=
  wL_house l rfl ⟨by decide, by decide, by decide, by decide⟩ (CtL.of tl tg (mX4_house l K b nA aA d e F Ga D S T h6 hk eh h4))
theorem k_house_t (hst : l.stackTraces = false) (h4 : ¬ F 0 1 < nI 4) : CtW l K yL_house wsL_house rmV [.ref (b 0)] (corkW K b nA aA d e F Ga D S T) (some (.int (-103))) (corkW K b nA aA d e F Ga D S T) tl tg :=
  wL_house_t103 l rfl ⟨by decide, by decide, by decide, by decide⟩ (CtTL.of tl tg (tX4_house l hst K b nA aA d e F Ga D S T h4))
theorem k_set {k : Nat} (h6 : k ≤ 6) (hk : T 0 0 = nI k) {c : Nat} (hc : c < 3) {x : Int32} (h1 : ¬ x < leastV c) (h2 : x ≤ mostV c) : CtW l K yL_set wsL_set rmV [.ref (b 0), .int (nI c), .int x] (corkW K b nA aA d e F Ga D S T) (some (.int (F 1 c))) (corkW K b nA aA d (pushE k e) (u2 F 1 c x) Ga D (pushS k S F) (pushT k T)) tl tg :=
  wL_set l _ _ rfl ⟨by decide, by decide, by decide, by decide⟩ (mX4_set l K b nA aA d e F Ga D S T h6 hk hc h1 h2 tl tg)
theorem k_set_i (hst : l.stackTraces = false) (x : Int32) : CtW l K yL_set wsL_set rmV [.ref (b 0), .int (nI 3), .int x] (corkW K b nA aA d e F Ga D S T) (some (.int (-101))) (corkW K b nA aA d e F Ga D S T) tl tg :=
  wL_set_t101 l _ _ rfl ⟨by decide, by decide, by decide, by decide⟩ (CtTL.of tl tg (tX4_set_setting l hst K b nA aA d e F Ga D S T (Or.inr (by decide)) x))
theorem k_set_v (hst : l.stackTraces = false) {c : Nat} (hc : c < 3) {x : Int32} (hx : x < leastV c ∨ mostV c < x) : CtW l K yL_set wsL_set rmV [.ref (b 0), .int (nI c), .int x] (corkW K b nA aA d e F Ga D S T) (some (.int (-102))) (corkW K b nA aA d e F Ga D S T) tl tg :=
  wL_set_t102 l _ _ rfl ⟨by decide, by decide, by decide, by decide⟩ (tX4_set_value l hst K b nA aA d e F Ga D S T hc hx tl tg)
theorem k_pass {k : Nat} (h6 : k ≤ 6) (hk : T 0 0 = nI k) (hSh : Sh F) {t : Nat} (ht1 : 1 ≤ t) (ht : t ≤ 60) (hc : F 0 0 + nI t ≤ nI 9999) : CtW l K yL_pass wsL_pass rmV [.ref (b 0), .int (nI t)] (corkW K b nA aA d e F Ga D S T) (some (.int (sumS (ticksC t F 10) 12 - sumS (F 10) 12))) (corkW K b nA aA d (pushE k e) (ticksC t F) Ga D (pushS k S F) (pushT k T)) tl tg :=
  wL_pass l _ rfl ⟨by decide, by decide, by decide, by decide⟩ (CtL.of tl tg (mX4_pass l K b nA aA d e F Ga D S T h6 hk hSh ht1 ht hc))
theorem k_pass_t (hst : l.stackTraces = false) {t : Nat} (ht : t < 2 ^ 30) (hb : t = 0 ∨ 60 < t) : CtW l K yL_pass wsL_pass rmV [.ref (b 0), .int (nI t)] (corkW K b nA aA d e F Ga D S T) (some (.int (-102))) (corkW K b nA aA d e F Ga D S T) tl tg :=
  wL_pass_t102 l _ rfl ⟨by decide, by decide, by decide, by decide⟩ (CtTL.of tl tg (tX4_pass_ticks l hst K b nA aA d e F Ga D S T (by
    rcases hb with rfl | q
    · exact Or.inl (by decide)
    · exact Or.inr (nI_lt q (by omega)))))
/-- no such house or kind -/
theorem no_pl {F : FF} {hn h c : Nat} (eh : F 0 1 = nI hn) (h4 : hn ≤ 4) (hh : h ≤ 4) (hc : c ≤ 4) (hno : h = hn ∨ c = 3) : ¬ isPl F (nI h) (nI c) := fun hp => by
  have := isPl_nat eh h4 hp (by omega) (by omega)
  omega
theorem k_lend {k : Nat} (h6 : k ≤ 6) (hk : T 0 0 = nI k) {hn : Nat} (eh : F 0 1 = nI hn) (h4 : hn ≤ 4) {h c : Nat} (hh : h < hn) (hc3 : c < 3) {n : Nat} (en : F 0 4 = nI n) (n40 : n ≤ 40) (hc : canLendS F c) : CtW l K yL_lend wsL_lend rmV [.ref (b 0), .int (nI h), .int (nI c)] (corkW K b nA aA d e F Ga D S T) (some (.int (outS (lendS F n (h * 3 + c)) (h * 3 + c)))) (corkW K b nA aA d (pushE k e) (lendS F n (h * 3 + c)) Ga D (pushS k S F) (pushT k T)) tl tg :=
  wL_lend l _ _ rfl ⟨by decide, by decide, by decide, by decide⟩ (CtL.of tl tg (mX4_lend l K b nA aA d e F Ga D S T h6 hk (show h < 4 by omega) hc3 (isPl_mk eh h4 hh hc3) en n40 hc))
theorem k_lend_i (hst : l.stackTraces = false) {x y : Int32} (hp : ¬ isPl F x y) : CtW l K yL_lend wsL_lend rmV [.ref (b 0), .int x, .int y] (corkW K b nA aA d e F Ga D S T) (some (.int (-101))) (corkW K b nA aA d e F Ga D S T) tl tg :=
  wL_lend_t101 l _ _ rfl ⟨by decide, by decide, by decide, by decide⟩ (CtTL.of tl tg (tX4_lend_pl l hst K b nA aA d e F Ga D S T hp))
theorem k_lend_s (hst : l.stackTraces = false) {hn : Nat} (eh : F 0 1 = nI hn) (h4 : hn ≤ 4) {h c : Nat} (hh : h < hn) (hc3 : c < 3) (hc : ¬ canLendS F c) : CtW l K yL_lend wsL_lend rmV [.ref (b 0), .int (nI h), .int (nI c)] (corkW K b nA aA d e F Ga D S T) (some (.int (-103))) (corkW K b nA aA d e F Ga D S T) tl tg :=
  wL_lend_t103 l _ _ rfl ⟨by decide, by decide, by decide, by decide⟩ (CtTL.of tl tg (tX4_lend_state l hst K b nA aA d e F Ga D S T (show h < 4 by omega) hc3 (isPl_mk eh h4 hh hc3) hc))
theorem k_ask {k : Nat} (h6 : k ≤ 6) (hk : T 0 0 = nI k) {hn : Nat} (eh : F 0 1 = nI hn) (h4 : hn ≤ 4) {h c : Nat} (hh : h < hn) (hc3 : c < 3) {n : Nat} (en : F 0 4 = nI n) (n40 : n ≤ 40) (hc : roomS F) : CtW l K yL_ask wsL_ask rmV [.ref (b 0), .int (nI h), .int (nI c)] (corkW K b nA aA d e F Ga D S T) (some (.int (askS F n (h * 3 + c) 0 4))) (corkW K b nA aA d (pushE k e) (askS F n (h * 3 + c)) Ga D (pushS k S F) (pushT k T)) tl tg :=
  wL_ask l _ _ rfl ⟨by decide, by decide, by decide, by decide⟩ (CtL.of tl tg (mX4_ask l K b nA aA d e F Ga D S T h6 hk (show h < 4 by omega) hc3 (isPl_mk eh h4 hh hc3) en n40 hc))
theorem k_ask_i (hst : l.stackTraces = false) {x y : Int32} (hp : ¬ isPl F x y) : CtW l K yL_ask wsL_ask rmV [.ref (b 0), .int x, .int y] (corkW K b nA aA d e F Ga D S T) (some (.int (-101))) (corkW K b nA aA d e F Ga D S T) tl tg :=
  wL_ask_t101 l _ _ rfl ⟨by decide, by decide, by decide, by decide⟩ (CtTL.of tl tg (tX4_ask_pl l hst K b nA aA d e F Ga D S T hp))
theorem k_ask_s (hst : l.stackTraces = false) {hn : Nat} (eh : F 0 1 = nI hn) (h4 : hn ≤ 4) {h c : Nat} (hh : h < hn) (hc3 : c < 3) (hc : ¬ roomS F) : CtW l K yL_ask wsL_ask rmV [.ref (b 0), .int (nI h), .int (nI c)] (corkW K b nA aA d e F Ga D S T) (some (.int (-103))) (corkW K b nA aA d e F Ga D S T) tl tg :=
  wL_ask_t103 l _ _ rfl ⟨by decide, by decide, by decide, by decide⟩ (CtTL.of tl tg (tX4_ask_state l hst K b nA aA d e F Ga D S T (show h < 4 by omega) hc3 (isPl_mk eh h4 hh hc3) hc))
theorem k_want {k : Nat} (h6 : k ≤ 6) (hk : T 0 0 = nI k) {hn : Nat} (eh : F 0 1 = nI hn) (h4 : hn ≤ 4) {h c : Nat} (hh : h < hn) (hc3 : c < 3) (hc : ¬ nI 9 ≤ F 11 (h * 3 + c)) : CtW l K yL_want wsL_want rmV [.ref (b 0), .int (nI h), .int (nI c)] (corkW K b nA aA d e F Ga D S T) (some (.int (F 11 (h * 3 + c) + nI 1))) (corkW K b nA aA d (pushE k e) (u2 F 11 (h * 3 + c) (F 11 (h * 3 + c) + nI 1)) Ga D (pushS k S F) (pushT k T)) tl tg :=
  wL_want l _ _ rfl ⟨by decide, by decide, by decide, by decide⟩ (CtL.of tl tg (mX4_want l K b nA aA d e F Ga D S T h6 hk (show h < 4 by omega) hc3 (isPl_mk eh h4 hh hc3) hc))
theorem k_want_i (hst : l.stackTraces = false) {x y : Int32} (hp : ¬ isPl F x y) : CtW l K yL_want wsL_want rmV [.ref (b 0), .int x, .int y] (corkW K b nA aA d e F Ga D S T) (some (.int (-101))) (corkW K b nA aA d e F Ga D S T) tl tg :=
  wL_want_t101 l _ _ rfl ⟨by decide, by decide, by decide, by decide⟩ (CtTL.of tl tg (tX4_want_pl l hst K b nA aA d e F Ga D S T hp))
theorem k_want_s (hst : l.stackTraces = false) {hn : Nat} (eh : F 0 1 = nI hn) (h4 : hn ≤ 4) {h c : Nat} (hh : h < hn) (hc3 : c < 3) (hc : nI 9 ≤ F 11 (h * 3 + c)) : CtW l K yL_want wsL_want rmV [.ref (b 0), .int (nI h), .int (nI c)] (corkW K b nA aA d e F Ga D S T) (some (.int (-103))) (corkW K b nA aA d e F Ga D S T) tl tg :=
  wL_want_t103 l _ _ rfl ⟨by decide, by decide, by decide, by decide⟩ (CtTL.of tl tg (tX4_want_state l hst K b nA aA d e F Ga D S T (show h < 4 by omega) hc3 (isPl_mk eh h4 hh hc3) (fun z => z hc)))
theorem k_drink {k : Nat} (h6 : k ≤ 6) (hk : T 0 0 = nI k) {c : Nat} (hc3 : c < 3) (hc : 0 < F 3 c) : CtW l K yL_drink wsL_drink rmV [.ref (b 0), .int (nI c)] (corkW K b nA aA d e F Ga D S T) (some (.int (drinkS F c 3 c))) (corkW K b nA aA d (pushE k e) (drinkS F c) Ga D (pushS k S F) (pushT k T)) tl tg :=
  wL_drink l _ rfl ⟨by decide, by decide, by decide, by decide⟩ (CtL.of tl tg (mX4_drink l K b nA aA d e F Ga D S T h6 hk hc3 hc))
theorem k_drink_i (hst : l.stackTraces = false) : CtW l K yL_drink wsL_drink rmV [.ref (b 0), .int (nI 3)] (corkW K b nA aA d e F Ga D S T) (some (.int (-101))) (corkW K b nA aA d e F Ga D S T) tl tg :=
  wL_drink_t101 l _ rfl ⟨by decide, by decide, by decide, by decide⟩ (CtTL.of tl tg (tX4_drink_kind l hst K b nA aA d e F Ga D S T (Or.inr (by decide))))
theorem k_drink_s (hst : l.stackTraces = false) {c : Nat} (hc3 : c < 3) (hc : ¬ 0 < F 3 c) : CtW l K yL_drink wsL_drink rmV [.ref (b 0), .int (nI c)] (corkW K b nA aA d e F Ga D S T) (some (.int (-103))) (corkW K b nA aA d e F Ga D S T) tl tg :=
  wL_drink_t103 l _ rfl ⟨by decide, by decide, by decide, by decide⟩ (CtTL.of tl tg (tX4_drink_state l hst K b nA aA d e F Ga D S T hc3 hc))
theorem k_bottles {k : Nat} (h6 : k ≤ 6) (hk : T 0 0 = nI k) {c : Nat} (hc3 : c < 3) {m : Nat} (hm : m ≤ 20) (hc : F 3 c + outK F c ≤ nI m) : CtW l K yL_bottles wsL_bottles rmV [.ref (b 0), .int (nI c), .int (nI m)] (corkW K b nA aA d e F Ga D S T) (some (.int (F 2 c))) (corkW K b nA aA d (pushE k e) (u2 F 2 c (nI m)) Ga D (pushS k S F) (pushT k T)) tl tg :=
  wL_bottles l _ _ rfl ⟨by decide, by decide, by decide, by decide⟩ (CtL.of tl tg (mX4_bottles l K b nA aA d e F Ga D S T h6 hk hc3 hm hc))
theorem k_bottles_i (hst : l.stackTraces = false) (x : Int32) : CtW l K yL_bottles wsL_bottles rmV [.ref (b 0), .int (nI 3), .int x] (corkW K b nA aA d e F Ga D S T) (some (.int (-101))) (corkW K b nA aA d e F Ga D S T) tl tg :=
  wL_bottles_t101 l _ _ rfl ⟨by decide, by decide, by decide, by decide⟩ (CtTL.of tl tg (tX4_bottles_kind l hst K b nA aA d e F Ga D S T (Or.inr (by decide)) x))
theorem k_bottles_m (hst : l.stackTraces = false) {c : Nat} (hc3 : c < 3) : CtW l K yL_bottles wsL_bottles rmV [.ref (b 0), .int (nI c), .int (nI 21)] (corkW K b nA aA d e F Ga D S T) (some (.int (-102))) (corkW K b nA aA d e F Ga D S T) tl tg :=
  wL_bottles_t102 l _ _ rfl ⟨by decide, by decide, by decide, by decide⟩ (CtTL.of tl tg (tX4_bottles_many l hst K b nA aA d e F Ga D S T hc3 (Or.inr (by decide))))
theorem k_bottles_s (hst : l.stackTraces = false) {c : Nat} (hc3 : c < 3) {m : Nat} (hm : m ≤ 20) (hc : ¬ F 3 c + outK F c ≤ nI m) : CtW l K yL_bottles wsL_bottles rmV [.ref (b 0), .int (nI c), .int (nI m)] (corkW K b nA aA d e F Ga D S T) (some (.int (-103))) (corkW K b nA aA d e F Ga D S T) tl tg :=
  wL_bottles_t103 l _ _ rfl ⟨by decide, by decide, by decide, by decide⟩ (CtTL.of tl tg (tX4_bottles_state l hst K b nA aA d e F Ga D S T hc3 hm hc))
theorem k_keep : CtW l K yL_keep wsL_keep rmV [.ref (b 0), .int (nI 0)] (corkW K b nA aA d e F Ga D S T) (some (.int (F 0 0))) (corkW K b nA aA d e F Ga (va_up D 0 F) S (u2 T 1 0 (nI 1))) tl tg :=
  wL_keep l _ rfl ⟨by decide, by decide, by decide, by decide⟩ (CtL.of tl tg (mX4_keep_0 l K b nA aA d e F Ga D S T))
theorem k_goBack {k : Nat} (h6 : k ≤ 6) (hk : T 0 0 = nI k) (hc : ¬ T 1 0 = 0) : CtW l K yL_goBack wsL_goBack rmV [.ref (b 0), .int (nI 0)] (corkW K b nA aA d e F Ga D S T) (some (.int (D 0 0 0))) (corkW K b nA aA d (pushE k e) (D 0) Ga D (pushS k S F) (pushT k T)) tl tg :=
  wL_goBack l _ rfl ⟨by decide, by decide, by decide, by decide⟩ (CtL.of tl tg (mX4_goBack_0 l K b nA aA d e F Ga D S T h6 hk hc))
theorem k_goBack_s (hst : l.stackTraces = false) (hc : T 1 1 = 0) : CtW l K yL_goBack wsL_goBack rmV [.ref (b 0), .int (nI 1)] (corkW K b nA aA d e F Ga D S T) (some (.int (-103))) (corkW K b nA aA d e F Ga D S T) tl tg :=
  wL_goBack_t103 l _ rfl ⟨by decide, by decide, by decide, by decide⟩ (CtTL.of tl tg (tX4_goBack_state_1 l hst K b nA aA d e F Ga D S T hc))
theorem k_undo {k : Nat} (h6 : k < 6) (hk : T 0 0 = nI (k + 1)) : CtW l K yL_undo wsL_undo rmV [.ref (b 0)] (corkW K b nA aA d e F Ga D S T) (some (.int (nI k))) (corkW K b nA aA d e (S k) Ga D S (u2 T 0 0 (nI k))) tl tg :=
  wL_undo l rfl ⟨by decide, by decide, by decide, by decide⟩ (CtL.of tl tg (mX4_undo l K b nA aA d e F Ga D S T h6 hk))
theorem k_undo_t (hst : l.stackTraces = false) (hc : ¬ 0 < T 0 0) : CtW l K yL_undo wsL_undo rmV [.ref (b 0)] (corkW K b nA aA d e F Ga D S T) (some (.int (-103))) (corkW K b nA aA d e F Ga D S T) tl tg :=
  wL_undo_t103 l rfl ⟨by decide, by decide, by decide, by decide⟩ (CtTL.of tl tg (tX4_undo l hst K b nA aA d e F Ga D S T hc))
end IN
