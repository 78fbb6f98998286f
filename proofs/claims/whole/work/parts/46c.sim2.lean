/-! what an order does: the class's, the model's -/
def kOpR (vR' vM vM' : Nat → Int32) : Prop := vM' 14 = vR' 0 ∧ vM' 15 = vR' 1 ∧ vM' 17 = vM 16 ∧ vR' 2 = 0 ∧ ∀ k, k ≠ 14 → k ≠ 15 → k ≠ 17 → k ≠ 18 → k ≠ 19 → k ≠ 20 → vM' k = vM k
def kOp (N : Nat) (vR : Nat → Int32) (r : Bool × (Nat → Int32)) (co : Int32 × (Nat → Int32) × (Nat → Nat → Int32)) (vM : Nat → Int32) (aM : Nat → Nat → Int32) (q : Bool × (Nat → Int32) × (Nat → Nat → Int32)) : Prop :=
  (r.1 = true → q.1 = false ∧ q.2.2 = aM ∧ kOpR r.2 vM q.2.1) ∧ (¬ r.1 = true → q.1 = true ∧ r.2 = vR ∧ q.2.1 18 = co.1 ∧ (∀ k, k ≠ 18 → k ≠ 19 → k ≠ 20 → q.2.1 k = vM k) ∧ (∀ k, k ≠ 0 → q.2.2 k = aM k) ∧ SimC (N + 1) co.2.1 co.2.2 (q.2.2 0))
theorem k_upd_self {f : Nat → Int32} {k : Nat} : upd f k (f k) = f := by
  funext j
  unfold upd
  split
  · rename_i h; rw [h]
  · rfl
theorem k_updc {f : Nat → Int32} {i j : Nat} {x y : Int32} (h : i ≠ j) : upd (upd f i x) j y = upd (upd f j y) i x := by
  funext k
  unfold upd
  (repeat' split) <;> first | rfl | omega
section S2
variable {N : Nat} {vC : Nat → Int32} {aC : Nat → Nat → Int32} {vR : Nat → Int32} {aR : Nat → Nat → Int32} {vM : Nat → Int32} {aM : Nat → Nat → Int32} {p p1 p2 p3 x y : Int32} {co : Int32 × (Nat → Int32) × (Nat → Nat → Int32)} {S : Nat → Int32}
theorem kOp_ref : kOp N vR (true, upd (upd (upd vR 0 x) 1 y) 2 0) co vM aM (false, upd (upd (upd vM 14 x) 15 y) 17 (vM 16), aM) :=
  ⟨fun _ => ⟨rfl, rfl, rfl, rfl, rfl, rfl, fun k h1 h2 h3 _ _ _ => (pk_un h3).trans ((pk_un h2).trans (pk_un h1))⟩, fun z => absurd rfl z⟩
theorem kOp_refS (hS : ∀ k, k ≠ 19 → k ≠ 20 → S k = vM k) : kOp N vR (true, upd (upd (upd vR 0 x) 1 y) 2 0) co vM aM (false, upd (upd (upd S 14 x) 15 y) 17 (S 16), aM) :=
  ⟨fun _ => ⟨rfl, rfl, rfl, rfl, hS 16 (by decide) (by decide), rfl, fun k h1 h2 h3 _ h5 h6 => (pk_un h3).trans ((pk_un h2).trans ((pk_un h1).trans (hS k h5 h6)))⟩, fun z => absurd rfl z⟩
theorem kOp_acc {vM' : Nat → Int32} {aM' : Nat → Nat → Int32} (h18 : vM' 18 = co.1) (hk : ∀ k, k ≠ 18 → k ≠ 19 → k ≠ 20 → vM' k = vM k) (ha : ∀ k, k ≠ 0 → aM' k = aM k) (hs : SimC (N + 1) co.2.1 co.2.2 (aM' 0)) : kOp N vR (false, vR) co vM aM (true, vM', aM') :=
  ⟨fun z => (by cases z), fun _ => ⟨rfl, rfl, h18, hk, ha, hs⟩⟩
theorem ki_f : X3_keepIf_f vR aR false x y = (false, vR) := rfl
theorem ki_t : X3_keepIf_f vR aR true x y = (true, upd (upd (upd vR 0 x) 1 y) 2 0) := rfl
theorem om_t : X3_ofMissing_f vR aR true p = (false, vR) := rfl
theorem om_f : X3_ofMissing_f vR aR false p = (true, upd (upd (upd vR 0 3) 1 p) 2 0) := rfl
theorem sim_bag (h : SimC N vC aC (aM 0)) : X0_hasBag_f vC aC p = X5_isBag_f vM aM p := by
  obtain ⟨nb, nj, mk, th, sa, nt, ⟨⟨a1, a2, a3, a4⟩, s, ⟨c0, c1, c2, c3, c4, c5, c6, c7, c8, c9⟩, d⟩, hA⟩ := h
  show (if p < 0 then false else if vC 7 ≤ p then false else true) = X5_in_f p 0 (aM 0 5 - 1)
  rw [c9, ← c8]
  exact sim_num a1 c8
theorem sim_jar (h : SimC N vC aC (aM 0)) : X0_hasJar_f vC aC p = X5_isJar_f vM aM p := by
  obtain ⟨nb, nj, mk, th, sa, nt, ⟨⟨a1, a2, a3, a4⟩, s, ⟨c0, c1, c2, c3, c4, c5, c6, c7, c8, c9⟩, d⟩, hA⟩ := h
  show (if p < 0 then false else if vC 4 ≤ p then false else true) = X5_in_f p 0 (aM 0 4 - 1)
  rw [c7, ← c6]
  exact sim_num a2 c6
theorem SimC.bagE (h : SimC N vC aC (aM 0)) (hb : X5_isBag_f vM aM p = true) : ∃ b, b < 6 ∧ p = nI b ∧ SimB b aC (aM 0) := by
  obtain ⟨nb, nj, mk, th, sa, nt, ⟨⟨a1, a2, a3, a4⟩, s, ⟨c0, c1, c2, c3, c4, c5, c6, c7, c8, c9⟩, d⟩, h1, h2, h3, h4⟩ := h
  obtain ⟨j, hj, rfl⟩ := sim_in a1 c9 hb
  exact ⟨j, by omega, rfl, h4 j hj⟩
theorem SimC.jarE (h : SimC N vC aC (aM 0)) (hb : X5_isJar_f vM aM p = true) : ∃ b, b < 6 ∧ p = nI b ∧ SimJ b aC (aM 0) := by
  obtain ⟨nb, nj, mk, th, sa, nt, ⟨⟨a1, a2, a3, a4⟩, s, ⟨c0, c1, c2, c3, c4, c5, c6, c7, c8, c9⟩, d⟩, h1, h2, h3, h4⟩ := h
  obtain ⟨j, hj, rfl⟩ := sim_in a2 c7 hb
  exact ⟨j, by omega, rfl, h3 j (by omega)⟩
theorem SimC.marketE (h : SimC N vC aC (aM 0)) : ∃ k, k < 4 ∧ vC 1 = nI k ∧ aM 0 1 = nI k := by
  obtain ⟨nb, nj, mk, th, sa, nt, ⟨⟨a1, a2, a3, a4⟩, s, ⟨c0, c1, c2, c3, c4, c5, c6, c7, c8, c9⟩, d⟩, hA⟩ := h
  exact ⟨mk, a3, c1, c2⟩
theorem SimC.thumbE (h : SimC N vC aC (aM 0)) : ∃ k, k ≤ 30 ∧ vC 3 = nI k ∧ aM 0 3 = nI k := by
  obtain ⟨nb, nj, mk, th, sa, nt, ⟨⟨a1, a2, a3, a4⟩, s, ⟨c0, c1, c2, c3, c4, c5, c6, c7, c8, c9⟩, d⟩, hA⟩ := h
  exact ⟨th, a4, c4, c5⟩
theorem SimC.dayE (h : SimC N vC aC (aM 0)) : aM 0 0 = vC 0 := by
  obtain ⟨nb, nj, mk, th, sa, nt, ⟨a, s, ⟨c0, c⟩, d⟩, hA⟩ := h
  exact c0
theorem SimC.coinsE (h : SimC N vC aC (aM 0)) : aM 0 2 = vC 2 := by
  obtain ⟨nb, nj, mk, th, sa, nt, ⟨a, s, ⟨c0, c1, c2, c3, c4⟩, d⟩, hA⟩ := h
  exact c3
theorem SimC.oathE (h : SimC N vC aC (aM 0)) {i : Nat} (hi : i < 4) : aM 0 (10 + i) = aC 14 i + 1 := by
  obtain ⟨nb, nj, mk, th, sa, nt, hF, h1, h2, h3, h4⟩ := h
  exact h1 i hi
theorem SimC.usesE (h : SimC N vC aC (aM 0)) {i : Nat} (hi : i < 8) : aM 0 (14 + i) = aC 13 i := by
  obtain ⟨nb, nj, mk, th, sa, nt, hF, h1, h2, h3, h4⟩ := h
  exact h2 i hi
/-- an oath is in force -/
theorem sim_sworn (h : SimC N vC aC (aM 0)) {i : Nat} (hi : i < 4) : X0_isOathInForce_f vC aC (nI i) = X5_isSworn_f vM aM (nI i) := by
  unfold X0_isOathInForce_f X5_isSworn_f
  rw [ix_m i hi, h.oathE hi, h.dayE, nI_clamp (by omega), Int32.add_sub_cancel]
/-- a weight's shortness -/
theorem sim_short (h : SimC N vC aC (aM 0)) {i : Nat} (hi : i < 8) : X0_shortnessOf_f vC aC (nI i) = X5_shortBy_f vM aM (nI i) := by
  unfold X0_shortnessOf_f X5_shortBy_f
  rw [ix_w i hi, h.usesE hi, nI_clamp (by omega), (by decide +kernel : ∀ i, i < 8 → X5_weight_f (nI i) / 10 = k_tab 3 i) i hi]
  by_cases h1 : k_tab 3 i ≤ aC 13 i / 8
  · rw [if_pos h1]
    by_cases h2 : k_tab 3 i < aC 13 i / 8
    · rw [if_pos h2]
    · rw [if_neg h2]
      exact Int32.le_antisymm h1 (Int32.not_lt.mp h2)
  · rw [if_neg h1, if_neg (fun z => h1 (Int32.le_of_lt z))]
theorem ap_66 : X3_applies_f vC aC vR aR 66 p1 p2 p3 = X3_ofBag_f vC aC vR aR p1 := if_pos rfl
theorem co_66 : X0_carryOut_f vC aC 66 p1 p2 p3 = ((X0_addBag_f vC aC p1).1, (X0_addBag_f vC aC p1).2.1, (X0_addBag_f vC aC p1).2.2) := if_pos rfl
theorem ap_74 : X3_applies_f vC aC vR aR 74 p1 p2 p3 = X3_ofJar_f vC aC vR aR p1 p2 := (if_neg (by decide)).trans (if_pos rfl)
theorem co_74 : X0_carryOut_f vC aC 74 p1 p2 p3 = ((X0_addJar_f vC aC p1 p2).1, (X0_addJar_f vC aC p1 p2).2.1, (X0_addJar_f vC aC p1 p2).2.2) := (if_neg (by decide)).trans (if_pos rfl)
theorem ap_98 : X3_applies_f vC aC vR aR 98 p1 p2 p3 = X3_ofMissing_f vR aR (X0_hasBag_f vC aC p1) p1 := (if_neg (by decide)).trans ((if_neg (by decide)).trans (if_pos rfl))
theorem co_98 : X0_carryOut_f vC aC 98 p1 p2 p3 = ((X0_beatBag_f vC aC p1).1, vC, (X0_beatBag_f vC aC p1).2) := (if_neg (by decide)).trans ((if_neg (by decide)).trans (if_pos rfl))
theorem ap_101 : X3_applies_f vC aC vR aR 101 p1 p2 p3 = X3_ofEmptying_f vC aC vR aR p1 p2 := (if_neg (by decide)).trans ((if_neg (by decide)).trans ((if_neg (by decide)).trans (if_pos rfl)))
theorem co_101 : X0_carryOut_f vC aC 101 p1 p2 p3 = ((X0_emptyBag_f vC aC p1 p2).1, vC, (X0_emptyBag_f vC aC p1 p2).2) := (if_neg (by decide)).trans ((if_neg (by decide)).trans ((if_neg (by decide)).trans (if_pos rfl)))
theorem ap_102 : X3_applies_f vC aC vR aR 102 p1 p2 p3 = X3_ofFilling_f vC aC vR aR p1 p2 p3 := (if_neg (by decide)).trans ((if_neg (by decide)).trans ((if_neg (by decide)).trans ((if_neg (by decide)).trans (if_pos rfl))))
theorem co_102 : X0_carryOut_f vC aC 102 p1 p2 p3 = ((X0_fillBag_f vC aC p1 p2 p3).1, vC, (X0_fillBag_f vC aC p1 p2 p3).2) := (if_neg (by decide)).trans ((if_neg (by decide)).trans ((if_neg (by decide)).trans ((if_neg (by decide)).trans (if_pos rfl))))
theorem ap_103 : X3_applies_f vC aC vR aR 103 p1 p2 p3 = X3_ofGoing_f vC aC vR aR p1 := (if_neg (by decide)).trans ((if_neg (by decide)).trans ((if_neg (by decide)).trans ((if_neg (by decide)).trans ((if_neg (by decide)).trans (if_pos rfl)))))
theorem co_103 : X0_carryOut_f vC aC 103 p1 p2 p3 = ((X0_travelTo_f vC aC p1).1, (X0_travelTo_f vC aC p1).2.1, (X0_travelTo_f vC aC p1).2.2) := (if_neg (by decide)).trans ((if_neg (by decide)).trans ((if_neg (by decide)).trans ((if_neg (by decide)).trans ((if_neg (by decide)).trans (if_pos rfl)))))
theorem ap_110 : X3_applies_f vC aC vR aR 110 p1 p2 p3 = (if p1 < 1 then (true, upd (upd (upd vR 0 1) 1 0) 2 0) else if p1 ≤ 60 then (false, vR) else (true, upd (upd (upd vR 0 1) 1 0) 2 0)) := (if_neg (by decide)).trans ((if_neg (by decide)).trans ((if_neg (by decide)).trans ((if_neg (by decide)).trans ((if_neg (by decide)).trans ((if_neg (by decide)).trans (if_pos rfl))))))
theorem co_110 : X0_carryOut_f vC aC 110 p1 p2 p3 = ((X0_letDaysGo_f vC aC p1).1, (X0_letDaysGo_f vC aC p1).2.1, (X0_letDaysGo_f vC aC p1).2.2) := (if_neg (by decide)).trans ((if_neg (by decide)).trans ((if_neg (by decide)).trans ((if_neg (by decide)).trans ((if_neg (by decide)).trans ((if_neg (by decide)).trans (if_pos rfl))))))
theorem ap_111 : X3_applies_f vC aC vR aR 111 p1 p2 p3 = X3_ofOath_f vC aC vR aR := (if_neg (by decide)).trans ((if_neg (by decide)).trans ((if_neg (by decide)).trans ((if_neg (by decide)).trans ((if_neg (by decide)).trans ((if_neg (by decide)).trans ((if_neg (by decide)).trans (if_pos rfl)))))))
theorem co_111 : X0_carryOut_f vC aC 111 p1 p2 p3 = ((X0_swearOath_f vC aC).1, vC, (X0_swearOath_f vC aC).2) := (if_neg (by decide)).trans ((if_neg (by decide)).trans ((if_neg (by decide)).trans ((if_neg (by decide)).trans ((if_neg (by decide)).trans ((if_neg (by decide)).trans ((if_neg (by decide)).trans (if_pos rfl)))))))
theorem ap_115 : X3_applies_f vC aC vR aR 115 p1 p2 p3 = X3_ofSelling_f vC aC vR aR p1 := (if_neg (by decide)).trans ((if_neg (by decide)).trans ((if_neg (by decide)).trans ((if_neg (by decide)).trans ((if_neg (by decide)).trans ((if_neg (by decide)).trans ((if_neg (by decide)).trans ((if_neg (by decide)).trans (if_pos rfl))))))))
theorem co_115 : X0_carryOut_f vC aC 115 p1 p2 p3 = ((X0_sellBag_f vC aC p1).1, (X0_sellBag_f vC aC p1).2.1, (X0_sellBag_f vC aC p1).2.2) := (if_neg (by decide)).trans ((if_neg (by decide)).trans ((if_neg (by decide)).trans ((if_neg (by decide)).trans ((if_neg (by decide)).trans ((if_neg (by decide)).trans ((if_neg (by decide)).trans ((if_neg (by decide)).trans (if_pos rfl))))))))
theorem ap_116 : X3_applies_f vC aC vR aR 116 p1 p2 p3 = X3_ofThumb_f vC aC vR aR p1 := (if_neg (by decide)).trans ((if_neg (by decide)).trans ((if_neg (by decide)).trans ((if_neg (by decide)).trans ((if_neg (by decide)).trans ((if_neg (by decide)).trans ((if_neg (by decide)).trans ((if_neg (by decide)).trans ((if_neg (by decide)).trans (if_pos rfl)))))))))
theorem co_116 : X0_carryOut_f vC aC 116 p1 p2 p3 = ((X0_setThumb_f vC aC p1).1, (X0_setThumb_f vC aC p1).2, aC) := (if_neg (by decide)).trans ((if_neg (by decide)).trans ((if_neg (by decide)).trans ((if_neg (by decide)).trans ((if_neg (by decide)).trans ((if_neg (by decide)).trans ((if_neg (by decide)).trans ((if_neg (by decide)).trans ((if_neg (by decide)).trans (if_pos rfl)))))))))
theorem ap_119 : X3_applies_f vC aC vR aR 119 p1 p2 p3 = X3_ofMissing_f vR aR (X0_hasBag_f vC aC p1) p1 := (if_neg (by decide)).trans ((if_neg (by decide)).trans ((if_neg (by decide)).trans ((if_neg (by decide)).trans ((if_neg (by decide)).trans ((if_neg (by decide)).trans ((if_neg (by decide)).trans ((if_neg (by decide)).trans ((if_neg (by decide)).trans ((if_neg (by decide)).trans (if_pos rfl))))))))))
theorem co_119 : X0_carryOut_f vC aC 119 p1 p2 p3 = ((X0_weighBag_f vC aC p1).1, vC, (X0_weighBag_f vC aC p1).2) := (if_neg (by decide)).trans ((if_neg (by decide)).trans ((if_neg (by decide)).trans ((if_neg (by decide)).trans ((if_neg (by decide)).trans ((if_neg (by decide)).trans ((if_neg (by decide)).trans ((if_neg (by decide)).trans ((if_neg (by decide)).trans ((if_neg (by decide)).trans (if_pos rfl))))))))))
theorem ap_120 : X3_applies_f vC aC vR aR 120 p1 p2 p3 = X3_ofSealing_f vC aC vR aR p1 := (if_neg (by decide)).trans ((if_neg (by decide)).trans ((if_neg (by decide)).trans ((if_neg (by decide)).trans ((if_neg (by decide)).trans ((if_neg (by decide)).trans ((if_neg (by decide)).trans ((if_neg (by decide)).trans ((if_neg (by decide)).trans ((if_neg (by decide)).trans ((if_neg (by decide)).trans (if_pos rfl)))))))))))
theorem co_120 : X0_carryOut_f vC aC 120 p1 p2 p3 = ((X0_sealWeight_f vC aC p1).1, (X0_sealWeight_f vC aC p1).2.1, (X0_sealWeight_f vC aC p1).2.2) := (if_neg (by decide)).trans ((if_neg (by decide)).trans ((if_neg (by decide)).trans ((if_neg (by decide)).trans ((if_neg (by decide)).trans ((if_neg (by decide)).trans ((if_neg (by decide)).trans ((if_neg (by decide)).trans ((if_neg (by decide)).trans ((if_neg (by decide)).trans ((if_neg (by decide)).trans (if_pos rfl)))))))))))

/-- beating a bag -/
theorem op_beat (h : SimC N vC aC (aM 0)) : kOp N vR (X3_applies_f vC aC vR aR 98 p1 p2 p3) (X0_carryOut_f vC aC 98 p1 p2 p3) vM aM (X5_beats_f vM aM p1) := by
  rw [ap_98, co_98, sim_bag (vM := vM) h]
  unfold X5_beats_f
  by_cases c : X5_isBag_f vM aM p1 = true
  · obtain ⟨b, hb, rfl, t, gr, g1, g2, g3, g4, g5, g6, g7, g8, g9, g10⟩ := h.bagE c
    rw [if_pos c, c, om_t, of_1 hb, sets_1 hb]
    unfold X0_beatBag_f
    rw [nI_clamp (by omega)]
    exact kOp_acc (pk_us.trans g6) (fun k h1 _ _ => pk_un h1) (fun k h0 => va_un h0) ((h.dust hb).mono (Nat.le_succ N))
  · rw [if_neg c, Bool.eq_false_iff.mpr c, om_f]
    exact kOp_ref
/-- the thumb -/
theorem op_thumb (h : SimC N vC aC (aM 0)) : kOp N vR (X3_applies_f vC aC vR aR 116 p1 p2 p3) (X0_carryOut_f vC aC 116 p1 p2 p3) vM aM (X5_presses_f vM aM p1) := by
  rw [ap_116, co_116]
  unfold X5_presses_f X3_ofThumb_f X3_ofOathHere_f
  obtain ⟨k, hk, e1, e2⟩ := h.marketE
  rw [e1, e2, sim_sworn (vM := vM) h hk]
  by_cases c : X5_in_f p1 0 30 = true
  · obtain ⟨c1, c2⟩ := sim_rng.mp c
    rw [if_pos c, if_neg (Int32.not_lt.mpr c1), if_pos c2]
    by_cases d : X5_isSworn_f vM aM (nI k) = true
    · rw [if_pos d, d, ix_m k hk, h.oathE hk, h.dayE]
      unfold X0_oathDaysLeft_f
      rw [e1, nI_clamp (by omega), show aC 14 k + 1 - vC 0 = aC 14 k - vC 0 + 1 from by rw [Int32.sub_eq_add_neg, Int32.sub_eq_add_neg, Int32.add_assoc, Int32.add_assoc, Int32.add_comm 1]]
      exact kOp_ref
    · rw [if_neg d, Bool.eq_false_iff.mpr d]
      obtain ⟨t, ht, rfl⟩ := nI_of (Int32.not_lt.mpr c1)
      have h30 := (nI_leI (b := 30) ht (by omega)).mp c2
      obtain ⟨t0, -, f1, f2⟩ := h.thumbE
      exact kOp_acc (pk_us.trans (f2.trans f1.symm)) (fun k h1 _ _ => pk_un h1) (fun k h0 => va_un h0) ((h.thumb h30).mono (Nat.le_succ N))
  · rw [if_neg c]
    by_cases c1 : p1 < 0
    · rw [if_pos c1]
      exact kOp_ref
    · rw [if_neg c1, if_neg (fun z => c (sim_rng.mpr ⟨Int32.not_lt.mp c1, z⟩))]
      exact kOp_ref
/-- an oath -/
theorem op_oath (h : SimC N vC aC (aM 0)) : kOp N vR (X3_applies_f vC aC vR aR 111 p1 p2 p3) (X0_carryOut_f vC aC 111 p1 p2 p3) vM aM (X5_swears__f vM aM) := by
  rw [ap_111, co_111]
  unfold X5_swears__f X3_ofOath_f X3_ofOathHere_f
  obtain ⟨k, hk, e1, e2⟩ := h.marketE
  obtain ⟨t0, ht0, f1, f2⟩ := h.thumbE
  rw [e1, e2, sim_sworn (vM := vM) h hk]
  by_cases d : X5_isSworn_f vM aM (nI k) = true
  · rw [if_pos d, d, ix_m k hk, h.oathE hk, h.dayE]
    unfold X0_oathDaysLeft_f
    rw [e1, nI_clamp (by omega), show aC 14 k + 1 - vC 0 = aC 14 k - vC 0 + 1 from by rw [Int32.sub_eq_add_neg, Int32.sub_eq_add_neg, Int32.add_assoc, Int32.add_assoc, Int32.add_comm 1]]
    exact kOp_ref
  · rw [if_neg d, Bool.eq_false_iff.mpr d, f1, f2]
    simp only [ki_f, Bool.false_eq_true, if_false]
    by_cases c : nI t0 ≤ 0
    · rw [if_pos c, if_pos c, ix_m k hk]
      unfold X0_swearOath_f
      rw [e1, nI_clamp (by omega), h.dayE]
      have e20 : vC 0 + 20 - 1 = vC 0 + 19 := by rw [Int32.sub_eq_add_neg, Int32.add_assoc]; rfl
      have hs := (h.oath hk (x := vC 0 + 20 - 1) (y := vC 0 + 20) (Int32.sub_add_cancel _ _).symm).mono (Nat.le_succ N)
      refine kOp_acc ?_ (fun k h1 _ _ => pk_un h1) (fun k h0 => va_un h0) hs
      show upd vM 18 (upd (aM 0) (10 + k) (vC 0 + 20) 0 + 19) 18 = upd (aC 14) k (vC 0 + 20 - 1) k
      rw [pk_us, pk_us, pk_un (by omega), h.dayE, e20]
    · rw [if_neg c, if_neg c]
      exact kOp_ref
/-- sealing a weight -/
theorem op_seal (h : SimC N vC aC (aM 0)) : kOp N vR (X3_applies_f vC aC vR aR 120 p1 p2 p3) (X0_carryOut_f vC aC 120 p1 p2 p3) vM aM (X5_seals_f vM aM p1) := by
  rw [ap_120, co_120]
  unfold X5_seals_f X3_ofSealing_f
  rw [sim_isWeight]
  by_cases c : X5_isWeight_f p1 = true
  · obtain ⟨k, hk, rfl⟩ := sim_in7 c
    rw [if_pos c, c, om_t, h.coinsE]
    by_cases d : 2 ≤ vC 2
    · rw [if_pos d, if_pos d, ix_w k hk]
      unfold X0_sealWeight_f
      rw [nI_clamp (by omega), sim_short (vM := vM) h hk]
      have hs := ((h.coins (x := vC 2 - 2)).uses (x := 0) hk).mono (Nat.le_succ N)
      exact kOp_acc pk_us (fun k h1 _ _ => pk_un h1) (fun k h0 => (va_un h0).trans (va_un h0)) hs
    · rw [if_neg d, if_neg d]
      exact kOp_ref
  · rw [if_neg c, Bool.eq_false_iff.mpr c, om_f]
    exact kOp_ref
end S2
