/-! what makes does, step by step -/
def kMk (nj nb D : Nat) (C : kK) : Prop := kRg D C ∧ C.1 4 = nI nj ∧ C.1 7 = nI nb ∧ C.1 1 = 0 ∧ C.1 3 = 0 ∧ (∀ m, m < 4 → C.2 14 m = -1) ∧ ∀ i, nb ≤ i → i < nj → ∃ k, 300 ≤ k ∧ k ≤ 900 ∧ C.2 6 i = nI k
theorem kMk.mono {nj nb D D' : Nat} {C : kK} (h : kMk nj nb D C) (hD : D ≤ D') : kMk nj nb D' C := ⟨h.1.mono hD, h.2⟩
theorem mk_done {g : kG} {oF : Nat} {F : Nat → Int32} {C S : kK} {h : List kK} {R : Nat → Int32} {T : kK} {ln : kTx} {a p1 p2 p3 x : Int32} {u : List va_W} (hap : (kAp C R a p1 p2 p3).1 = false) (hp : kChg g oF F C S h R T ln a p1 p2 p3 x u) :
    ∃ (E : kK) (R1 : Nat → Int32), E = kN (kCo C a p1 p2 p3).2 ∧ x = (kCo C a p1 p2 p3).1 ∧ kOb g oF F E S (kPush C h) R1 T ln u := by
  obtain ⟨R1, -, h1 | h1⟩ := hp
  · rw [h1.1] at hap; cases hap
  · obtain ⟨-, D, hD, hx, hO⟩ := h1
    subst hD
    exact ⟨_, R1, rfl, hx, hO⟩
theorem mk_not {g : kG} {oF : Nat} {F : Nat → Int32} {C S : kK} {h : List kK} {R : Nat → Int32} {T : kK} {ln : kTx} {a p1 p2 p3 x : Int32} {u : List va_W} {R2 : Nat → Int32} (hap : kAp C R a p1 p2 p3 = (true, R2)) (hp : kChg g oF F C S h R T ln a p1 p2 p3 x u) : x = -1001 ∧ kOb g oF F C S h R2 T ln u := by
  obtain ⟨R1, hR1, h1 | h1⟩ := hp
  · rw [hap] at hR1
    subst hR1
    exact h1.2
  · rw [hap] at h1; cases h1.1
theorem mk_sp {s : Nat} (hs : s < 5) : X4_isSpice_f (nI s) = true := by
  unfold X4_isSpice_f
  rw [if_neg (nI_pos (by omega)), if_neg (show ¬ (5 : Int32) ≤ nI s from fun z => absurd ((nI_leI (a := 5) (by omega) (by omega)).mp z) (by omega))]
theorem mk_bag {C : kK} {nb b : Nat} (e : C.1 7 = nI nb) (hnb : nb ≤ 6) (hb : b < nb) : X0_hasBag_f C.1 C.2 (nI b) = true := by
  unfold X0_hasBag_f
  rw [if_neg (nI_pos (by omega)), e, if_neg (nI_ge hb (by omega))]
theorem mk_jr {C : kK} {nj b : Nat} (e : C.1 4 = nI nj) (hnj : nj ≤ 6) (hb : b < nj) : X0_hasJar_f C.1 C.2 (nI b) = true := by
  unfold X0_hasJar_f
  rw [if_neg (nI_pos (by omega)), e, if_neg (nI_ge hb (by omega))]
theorem mk_ff (R : Nat → Int32) : ¬ ((false, R) : Bool × (Nat → Int32)).1 = true := by intro h; cases h
section MK
variable {g : kG} {oF : Nat} {F : Nat → Int32} {C S : kK} {h : List kK} {R : Nat → Int32} {T : kK} {ln : kTx} {x : Int32} {u : List va_W}
theorem mk_jar {j s y D : Nat} (hD : D ≤ 9000) (hj : j < 5) (hs : s < 5) (hy : 300 ≤ y ∧ y ≤ 900) (hM : kMk j 0 D C) (hp : kChg g oF F C S h R T ln 74 (nI s) (nI y) 0 x u) : x = nI j ∧ ∃ (E : kK) (h1 : List kK) (R1 : Nat → Int32), kMk (j + 1) 0 (D + 100) E ∧ kOb g oF F E S h1 R1 T ln u := by
  obtain ⟨hR, h4, h7, h1, h3, h14, h6⟩ := hM
  have hap : (kAp C R 74 (nI s) (nI y) 0).1 = false := by
    rw [kap_74]
    unfold X3_ofJar_f
    rw [if_pos (mk_sp hs), if_neg (nI_pos (by omega)), if_pos (show nI y ≤ 900 from (nI_leI (b := 900) (by omega) (by omega)).mpr hy.2), h4, if_pos (show nI j < 6 from (nI_ltI (b := 6) (by omega) (by omega)).mpr (by omega))]
  obtain ⟨E, R1, hE, hx, hO⟩ := mk_done hap hp
  have hSt := (kStep_ok (by omega) (R := R) hR hap).2
  rw [kco_74] at hE hx hSt
  subst hE
  refine ⟨?_, _, _, _, ⟨kRg_N hSt, ?_, h7, h1, h3, h14, fun i hi0 hi => ?_⟩, hO⟩
  · rw [hx]
    show C.1 4 + 1 - 1 = _
    rw [h4, nI_1, nI_pred]
  · show C.1 4 + 1 = _
    rw [h4, nI_1]
  · show ∃ k, 300 ≤ k ∧ k ≤ 900 ∧ upd (C.2 6) (C.1 4).toNatClampNeg (nI y) i = nI k
    rw [h4, nI_clamp (by omega)]
    unfold upd
    by_cases c : i = j
    · rw [if_pos c]; exact ⟨y, hy.1, hy.2, rfl⟩
    · rw [if_neg c]; exact h6 i hi0 (by omega)
theorem mk_bg {b t D : Nat} (hD : D ≤ 9000) (hb : b < 5) (ht : 5 ≤ t ∧ t ≤ 50) (hM : kMk 5 b D C) (hp : kChg g oF F C S h R T ln 66 (nI t) 0 0 x u) : x = nI b ∧ ∃ (E : kK) (h1 : List kK) (R1 : Nat → Int32), (kMk 5 (b + 1) (D + 100) E ∧ E.2 11 b = 0 ∧ ∃ k, 300 ≤ k ∧ k ≤ 900 ∧ E.2 6 b = nI k) ∧ kOb g oF F E S h1 R1 T ln u := by
  obtain ⟨hR, h4, h7, h1, h3, h14, h6⟩ := hM
  have hap : (kAp C R 66 (nI t) 0 0).1 = false := by
    rw [kap_66]
    unfold X3_ofBag_f
    rw [if_neg (show ¬ nI t < 5 from fun z => absurd ((nI_ltI (b := 5) (by omega) (by omega)).mp z) (by omega)), if_pos (show nI t ≤ 50 from (nI_leI (b := 50) (by omega) (by omega)).mpr ht.2), h7, if_pos (show nI b < 6 from (nI_ltI (b := 6) (by omega) (by omega)).mpr (by omega))]
  obtain ⟨E, R1, hE, hx, hO⟩ := mk_done hap hp
  have hSt := (kStep_ok (by omega) (R := R) hR hap).2
  rw [kco_66] at hE hx hSt
  subst hE
  refine ⟨?_, _, _, _, ⟨⟨kRg_N hSt, h4, ?_, h1, h3, h14, fun i hi0 hi => h6 i (by omega) hi⟩, ?_, h6 b (Nat.le_refl _) hb⟩, hO⟩
  · rw [hx]
    show C.1 7 + 1 - 1 = _
    rw [h7, nI_1, nI_pred]
  · show C.1 7 + 1 = _
    rw [h7, nI_1]
  · show upd (C.2 11) (C.1 7).toNatClampNeg 0 b = 0
    rw [h7, nI_clamp (by omega)]
    unfold upd
    rw [if_pos rfl]
theorem mk_fill {b n D : Nat} (hD : D ≤ 9000) (hb : b < 5) (hn : 1 ≤ n ∧ n < 300) (hM : kMk 5 (b + 1) D C ∧ C.2 11 b = 0 ∧ ∃ k, 300 ≤ k ∧ k ≤ 900 ∧ C.2 6 b = nI k) (hp : kChg g oF F C S h R T ln 102 (nI b) (nI b) (nI n) x u) : x = nI n ∧ ∃ (E : kK) (h1 : List kK) (R1 : Nat → Int32), kMk 5 (b + 1) (D + 100) E ∧ kOb g oF F E S h1 R1 T ln u := by
  obtain ⟨⟨hR, h4, h7, h1, h3, h14, h6⟩, h11, k, hk, hk9, e6⟩ := hM
  have hap : (kAp C R 102 (nI b) (nI b) (nI n)).1 = false := by
    rw [kap_102]
    unfold X3_ofFilling_f
    have m1 : ∀ Q : Nat → Int32, X3_ofMissing_f Q kA0 true (nI b) = (false, Q) := fun Q => if_pos rfl
    rw [mk_bag h7 (by omega) (by omega), mk_jr h4 (by omega) (by omega), m1, if_neg (mk_ff _), m1, if_neg (mk_ff _), if_neg (show ¬ nI n < 1 from fun z => absurd ((nI_ltI (b := 1) (by omega) (by omega)).mp z) (by omega)), if_pos (show nI n ≤ 400 from (nI_leI (b := 400) (by omega) (by omega)).mpr (by omega)), nI_clamp (by omega), h11, if_pos (by decide), e6, if_pos (show nI n ≤ nI k from (nI_leI (by omega) (by omega)).mpr (by omega)), if_pos (show nI n ≤ 400 - 0 from (nI_leI (b := 400) (by omega) (by omega)).mpr (by omega))]
  obtain ⟨E, R1, hE, hx, hO⟩ := mk_done hap hp
  have hSt := (kStep_ok (by omega) (R := R) hR hap).2
  rw [kco_102] at hE hx hSt
  subst hE
  refine ⟨?_, _, _, _, ⟨kRg_N hSt, h4, h7, h1, h3, h14, fun i hi0 hi => ?_⟩, hO⟩
  · rw [hx]
    show upd (C.2 11) (nI b).toNatClampNeg (C.2 11 (nI b).toNatClampNeg + nI n) (nI b).toNatClampNeg = _
    rw [nI_clamp (by omega), h11]
    unfold upd
    rw [if_pos rfl]
    exact Int32.zero_add _
  · show ∃ k, 300 ≤ k ∧ k ≤ 900 ∧ upd (C.2 6) (nI b).toNatClampNeg (C.2 6 (nI b).toNatClampNeg - nI n) i = nI k
    rw [nI_clamp (by omega)]
    unfold upd
    rw [if_neg (by omega)]
    exact h6 i (by omega) hi
theorem mk_days {y D : Nat} (hD : D ≤ 9000) (hy : 1 ≤ y ∧ y ≤ 60) (hM : kMk 5 5 D C) (hp : kChg g oF F C S h R T ln 110 (nI y) 0 0 x u) : ¬ x < 0 ∧ ∃ (E : kK) (h1 : List kK) (R1 : Nat → Int32), (kMk 5 5 (D + 100) E ∧ ∃ d, 1 ≤ d ∧ d ≤ D + 60 ∧ E.1 0 = nI d) ∧ kOb g oF F E S h1 R1 T ln u := by
  obtain ⟨hR, h4, h7, h1, h3, h14, h6⟩ := hM
  have hap : (kAp C R 110 (nI y) 0 0).1 = false := by
    rw [kap_110, if_neg (show ¬ nI y < 1 from fun z => absurd ((nI_ltI (b := 1) (by omega) (by omega)).mp z) (by omega)), if_pos (show nI y ≤ 60 from (nI_leI (b := 60) (by omega) (by omega)).mpr hy.2)]
  obtain ⟨E, R1, hE, hx, hO⟩ := mk_done hap hp
  have hSt := (kStep_ok (by omega) (R := R) hR hap)
  rw [kco_110] at hE hx hSt
  obtain ⟨-, r2, -⟩ := kRg_days hy.2 hR
  obtain ⟨d, hd, e0⟩ := hR.1.2.2.2.2
  have q : ∀ k, k ≠ 0 → (X0_letDaysGo_f C.1 C.2 (nI y)).2.1 k = C.1 k := fun k hk => by rw [r2]; exact if_neg hk
  have q0 : (X0_letDaysGo_f C.1 C.2 (nI y)).2.1 0 = nI (d + y) := by
    rw [r2, e0, nI_add]; rfl
  have q14 : (X0_letDaysGo_f C.1 C.2 (nI y)).2.2 14 = C.2 14 := by
    obtain ⟨nb, hnb, e7⟩ := hR.1.1
    exact (ks_days_lp (a0 := C.2) hy.2 hnb e7 7 0 C.2 (Nat.zero_le _) (by omega) (fun b hb => (hR.2.2.1 b hb).2.1) (fun _ _ => rfl)).2.2.2 14 (by decide)
  subst hE
  refine ⟨?_, _, _, _, ⟨⟨kRg_N hSt.2, (q 4 (by decide)).trans h4, (q 7 (by decide)).trans h7, (q 1 (by decide)).trans h1, (q 3 (by decide)).trans h3, fun m hm => ?_, fun i hi0 hi => absurd hi (by omega)⟩, d + y, by omega, by omega, q0⟩, hO⟩
  · rw [hx]
    exact hSt.1.nn (by omega)
  · show (X0_letDaysGo_f C.1 C.2 (nI y)).2.2 14 m = _
    rw [q14]
    exact h14 m hm
theorem ks_dist0 : ∀ n, 1 ≤ n → n < 4 → ∃ k, 1 ≤ k ∧ k < 13 ∧ (if 0 ≤ (k_tab 0 n - k_tab 0 0) then (k_tab 0 n - k_tab 0 0) else 0 - (k_tab 0 n - k_tab 0 0)) = nI k
  | 1, _, _ => ⟨3, by decide, by decide, by decide +kernel⟩
  | 2, _, _ => ⟨7, by decide, by decide, by decide +kernel⟩
  | 3, _, _ => ⟨12, by decide, by decide, by decide +kernel⟩
  | 0, h, _ => absurd h (by omega)
  | n + 4, _, h => absurd h (by omega)
/-- the caravan that makes leaves -/
def kMd5 (D : Nat) (C : kK) : Prop := kRg D C ∧ C.1 4 = nI 5 ∧ C.1 7 = nI 5 ∧ C.1 3 = 0 ∧ (∃ d, 1 ≤ d ∧ d ≤ D + 100 ∧ C.1 0 = nI d) ∧ ∀ m, m < 4 → C.2 14 m = -1
theorem mk_go {z D d : Nat} (hD : D ≤ 9000) (hz : 1 ≤ z ∧ z < 4) (hM : kMk 5 5 D C) (hd : 1 ≤ d ∧ d ≤ D + 60 ∧ C.1 0 = nI d) (hp : kChg g oF F C S h R T ln 103 (nI z) 0 0 x u) : 0 < x ∧ ∃ (E : kK) (h1 : List kK) (R1 : Nat → Int32), kMd5 (D + 100) E ∧ kOb g oF F E S h1 R1 T ln u := by
  obtain ⟨hR, h4, h7, h1, h3, h14, h6⟩ := hM
  have hap : (kAp C R 103 (nI z) 0 0).1 = false := by
    rw [kap_103]
    unfold X3_ofGoing_f
    have m0 : X4_isMarket_f (nI z) = true := by
      unfold X4_isMarket_f
      rw [if_neg (nI_pos (by omega)), if_neg (show ¬ (4 : Int32) ≤ nI z from fun q => absurd ((nI_leI (a := 4) (by omega) (by omega)).mp q) (by omega))]
    have m1 : ∀ Q : Nat → Int32, X3_ofMissing_f Q kA0 true (nI z) = (false, Q) := fun Q => if_pos rfl
    rw [m0, m1, if_neg (mk_ff _), h1, if_neg (show ¬ nI z = 0 from fun q => absurd ((nI_eq (b := 0) (by omega) (by omega)).mp q) (by omega))]
  obtain ⟨E, R1, hE, hx, hO⟩ := mk_done hap hp
  have hSt := (kStep_ok (by omega) (R := R) hR hap)
  rw [kco_103] at hE hx hSt
  obtain ⟨t, ht1, ht, et⟩ := ks_dist0 z hz.1 hz.2
  have ed : X0_distanceTo_f C.1 C.2 (nI z) = nI t := by
    unfold X0_distanceTo_f
    rw [h1, nI_clamp (by omega)]
    exact et
  obtain ⟨-, r2, -⟩ := kRg_days (k := t) (by omega) hR
  have q : ∀ k, k ≠ 0 → (X0_letDaysGo_f C.1 C.2 (nI t)).2.1 k = C.1 k := fun k hk => by rw [r2]; exact if_neg hk
  have q0 : (X0_letDaysGo_f C.1 C.2 (nI t)).2.1 0 = nI (d + t) := by
    rw [r2, hd.2.2, nI_add]; rfl
  have q14 : (X0_letDaysGo_f C.1 C.2 (nI t)).2.2 14 = C.2 14 := by
    obtain ⟨nb, hnb, e7⟩ := hR.1.1
    exact (ks_days_lp (a0 := C.2) (k := t) (by omega) hnb e7 7 0 C.2 (Nat.zero_le _) (by omega) (fun b hb => (hR.2.2.1 b hb).2.1) (fun _ _ => rfl)).2.2.2 14 (by decide)
  have eT : X0_travelTo_f C.1 C.2 (nI z) = ((X0_letDaysGo_f C.1 C.2 (nI t)).2.1 0, upd (X0_letDaysGo_f C.1 C.2 (nI t)).2.1 1 (nI z), (X0_letDaysGo_f C.1 C.2 (nI t)).2.2) := by
    unfold X0_travelTo_f
    rw [ed]
    refine if_neg ?_
    unfold X0_isOathInForce_f
    rw [q14, nI_clamp (by omega), h14 z hz.2, if_pos]
    · decide
    · show (-1 : Int32) < (X0_letDaysGo_f C.1 C.2 (nI t)).2.1 0
      rw [q0]
      exact Int32.lt_of_lt_of_le (by decide) (nI_pos' (by omega))
  rw [eT] at hE hx hSt
  subst hE
  refine ⟨?_, _, _, _, ⟨kRg_N hSt.2, (q 4 (by decide)).trans h4, (q 7 (by decide)).trans h7, (q 3 (by decide)).trans h3, ⟨d + t, by omega, by omega, q0⟩, fun m hm => ?_⟩, hO⟩
  · rw [hx]
    show 0 < (X0_letDaysGo_f C.1 C.2 (nI t)).2.1 0
    rw [q0]
    exact (nI_ltI (a := 0) (by omega) (by omega)).mpr (by omega)
  · show (X0_letDaysGo_f C.1 C.2 (nI t)).2.2 14 m = _
    rw [q14]
    exact h14 m hm
theorem mk_weigh {b D : Nat} (hD : D ≤ 9000) (hb : b < 5) (hM : kMd5 D C) (hp : kChg g oF F C S h R T ln 119 (nI b) 0 0 x u) : ¬ x < 0 ∧ ∃ (E : kK) (h1 : List kK) (R1 : Nat → Int32), kMd5 (D + 100) E ∧ kOb g oF F E S h1 R1 T ln u := by
  obtain ⟨hR, h4, h7, h3, ⟨d, hd1, hd, h0⟩, h14⟩ := hM
  have hap : (kAp C R 119 (nI b) 0 0).1 = false := by
    rw [kap_119, mk_bag h7 (by omega) (by omega)]
    rfl
  obtain ⟨E, R1, hE, hx, hO⟩ := mk_done hap hp
  have hSt := (kStep_ok (by omega) (R := R) hR hap)
  have q14 : (X0_weighBag_f C.1 C.2 (nI b)).2 14 = C.2 14 := (ks_weigh_lp (v := C.1) (a0 := C.2) (p := nI b) (w0 := X0_weightsFor_f C.1 C.2 (X0_loadOf_f C.1 C.2 (nI b))) (D := D) 9 0 C.2 (by omega) (by omega) (fun w hw => ⟨(hR.2.2.2 w hw).mono (by omega), fun _ => hR.2.2.2 w hw⟩) (fun _ _ _ => rfl)).2.2 14 (by decide) (by decide)
  rw [kco_119] at hE hx hSt
  subst hE
  refine ⟨by rw [hx]; exact hSt.1.nn (by omega), _, _, _, ⟨kRg_N hSt.2, h4, h7, h3, ⟨d, hd1, by omega, h0⟩, fun m hm => ?_⟩, hO⟩
  show (X0_weighBag_f C.1 C.2 (nI b)).2 14 m = _
  rw [q14]
  exact h14 m hm
theorem mk_thumb {y D : Nat} (hD : D ≤ 9000) (hy : y ≤ 30) (hM : kMd5 D C) (hp : kChg g oF F C S h R T ln 116 (nI y) 0 0 x u) : x = 0 ∧ ∃ (E : kK) (h1 : List kK) (R1 : Nat → Int32), (kRg (D + 100) E ∧ E.1 4 = nI 5 ∧ E.1 7 = nI 5) ∧ kOb g oF F E S h1 R1 T ln u := by
  obtain ⟨hR, h4, h7, h3, ⟨d, hd1, hd, h0⟩, h14⟩ := hM
  obtain ⟨m, hm, em⟩ := hR.1.2.2.1
  have hap : (kAp C R 116 (nI y) 0 0).1 = false := by
    rw [kap_116]
    unfold X3_ofThumb_f
    have o1 : X0_isOathInForce_f C.1 C.2 (C.1 1) = false := by
      unfold X0_isOathInForce_f
      rw [em, nI_clamp (by omega), h14 m (by omega), h0, if_pos (Int32.lt_of_lt_of_le (by decide) (nI_pos' (by omega)))]
    have o2 : X3_ofOathHere_f C.1 C.2 R kA0 = (false, R) := by
      unfold X3_ofOathHere_f
      rw [o1]
      rfl
    rw [if_neg (nI_pos (by omega)), if_pos (show nI y ≤ 30 from (nI_leI (b := 30) (by omega) (by omega)).mpr hy), o2, if_neg (mk_ff _)]
  obtain ⟨E, R1, hE, hx, hO⟩ := mk_done hap hp
  have hSt := (kStep_ok (by omega) (R := R) hR hap)
  rw [kco_116] at hE hx hSt
  subst hE
  exact ⟨hx.trans h3, _, _, _, ⟨kRg_N hSt.2, h4, h7⟩, hO⟩
theorem kSome_i {v n : Int32} {m : Nat} (e : n = nI m) (h0 : 0 < m) (hm : m < 2 ^ 30) : ∃ j, j < m ∧ kSome v n = nI j := by
  subst e
  exact kSome_in v h0 hm
end MK
