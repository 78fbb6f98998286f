/-! days: resting and going -/
theorem k_where (i : Nat) (h : i < 4) : X5_where_f (nI i) = k_tab 0 i := (by decide +kernel : ∀ i, i < 4 → X5_where_f (nI i) = k_tab 0 i) i h
theorem k_most {vM : Nat → Int32} {aM : Nat → Nat → Int32} (i : Nat) (h : i < 4) : X5_most_f vM aM (nI i) = k_tab 1 i := (by decide +kernel : ∀ i, i < 4 → (if nI i = 0 then 4 else if nI i = 1 then 9 else if nI i = 2 then 14 else 20 : Int32) = k_tab 1 i) i h
theorem nI_add1 {b : Nat} : nI b + 1 = nI (b + 1) := nI_add b 1
section S4
variable {N : Nat} {vC : Nat → Int32} {aC : Nat → Nat → Int32} {vR : Nat → Int32} {aR : Nat → Nat → Int32} {vM : Nat → Int32} {aM : Nat → Nat → Int32} {p p1 p2 p3 x y : Int32}
theorem SimC.numE (h : SimC N vC aC (aM 0)) : ∃ nb, nb ≤ 6 ∧ vC 7 = nI nb ∧ aM 0 5 = nI nb := by
  obtain ⟨nb, nj, mk, th, sa, nt, ⟨⟨a1, a2, a3, a4⟩, s, ⟨c0, c1, c2, c3, c4, c5, c6, c7, c8, c9⟩, d⟩, hA⟩ := h
  exact ⟨nb, a1, c8, c9⟩
theorem SimC.nthE {b nb : Nat} (h : SimC N vC aC (aM 0)) (hn : nb ≤ 6) (e : vC 7 = nI nb) (hb : b < nb) : SimB b aC (aM 0) := by
  obtain ⟨nb', nj, mk, th, sa, nt, ⟨⟨a1, a2, a3, a4⟩, s, ⟨c0, c1, c2, c3, c4, c5, c6, c7, c8, c9⟩, d⟩, h1, h2, h3, h4⟩ := h
  obtain rfl : nb' = nb := (nI_eq (by omega) (by omega)).mp (c8.symm.trans e)
  exact h4 b hb
theorem passes_lp (d : Int32) : ∀ (n b : Nat) (aC1 : Nat → Nat → Int32) (aM1 : Nat → Nat → Int32) (nb : Nat), nb ≤ 6 → vC 7 = nI nb → b ≤ nb → nb - b < n → (∀ k, k ≠ 0 → aM1 k = aM k) → SimC N (upd vC 0 (vC 0 + d)) aC1 (aM1 0) → (X0_letDaysGo_lp12 vC aC d n (nI b) aC1).2.1 = upd vC 0 (vC 0 + d) ∧ (X0_letDaysGo_lp12 vC aC d n (nI b) aC1).1 = X0_dustTogether_f (upd vC 0 (vC 0 + d)) (X0_letDaysGo_lp12 vC aC d n (nI b) aC1).2.2 ∧ (∀ k, k ≠ 0 → X5_passes_lp12 vM aM d n (nI b) aM1 k = aM k) ∧ SimC N (upd vC 0 (vC 0 + d)) (X0_letDaysGo_lp12 vC aC d n (nI b) aC1).2.2 ((X5_passes_lp12 vM aM d n (nI b) aM1) 0) := by
  intro n
  induction n with
  | zero => intro b aC1 aM1 nb h1 h2 h3 h4; omega
  | succ n ih =>
    intro b aC1 aM1 nb h1 h2 h3 h4 hk hs
    obtain ⟨nb', h1', e1, e2⟩ := hs.numE
    have e1' : vC 7 = nI nb' := e1
    obtain rfl : nb = nb' := (nI_eq (by omega) (by omega)).mp (h2.symm.trans e1')
    show (X0_letDaysGo_lp12b vC aC d (X0_letDaysGo_lp12 vC aC d n) (nI b) aC1).2.1 = _ ∧ (X0_letDaysGo_lp12b vC aC d (X0_letDaysGo_lp12 vC aC d n) (nI b) aC1).1 = X0_dustTogether_f _ (X0_letDaysGo_lp12b vC aC d (X0_letDaysGo_lp12 vC aC d n) (nI b) aC1).2.2 ∧ (∀ k, k ≠ 0 → X5_passes_lp12b vM aM d (X5_passes_lp12 vM aM d n) (nI b) aM1 k = aM k) ∧ SimC N _ (X0_letDaysGo_lp12b vC aC d (X0_letDaysGo_lp12 vC aC d n) (nI b) aC1).2.2 ((X5_passes_lp12b vM aM d (X5_passes_lp12 vM aM d n) (nI b) aM1) 0)
    unfold X0_letDaysGo_lp12b X5_passes_lp12b
    rw [e2, h2]
    by_cases c : nI nb ≤ nI b
    · rw [if_pos c, if_pos c]
      exact ⟨rfl, rfl, hk, hs⟩
    · rw [if_neg c, if_neg c]
      have hb : b < nb := by
        rcases Nat.lt_or_ge b nb with h | h
        · exact h
        · exact absurd ((nI_leI (by omega) (by omega)).mpr h) c
      obtain ⟨t, gr, g1, g2, g3, g4, g5, g6, g7, g8, g9, g10⟩ := hs.nthE h1 e1 hb
      have hb6 : b < 6 := by omega
      rw [of_1 hb6, sets_1 hb6, g6, nI_clamp (n := b) (by omega), nI_add1]
      exact ih (b + 1) _ _ nb h1 h2 hb (by omega) (fun k hk0 => (va_un hk0).trans (hk k hk0)) (hs.dust hb6)
theorem passes_ok (h : SimC N vC aC (aM 0)) (d : Int32) : (X0_letDaysGo_f vC aC d).2.1 = upd vC 0 (vC 0 + d) ∧ (X0_letDaysGo_f vC aC d).1 = X0_dustTogether_f (upd vC 0 (vC 0 + d)) (X0_letDaysGo_f vC aC d).2.2 ∧ (∀ k, k ≠ 0 → X5_passes_f vM aM d k = aM k) ∧ SimC N (upd vC 0 (vC 0 + d)) (X0_letDaysGo_f vC aC d).2.2 ((X5_passes_f vM aM d) 0) := by
  obtain ⟨nb, h1, e1, e2⟩ := h.numE
  unfold X0_letDaysGo_f X5_passes_f
  refine passes_lp (N := N) (vM := vM) (aM := aM) d 7 0 aC _ nb h1 e1 (Nat.zero_le _) (by omega) (fun k hk => va_un hk) ?_
  rw [h.dayE]
  exact h.day
/-- sums of six -/
theorem dust_lp {f : Nat → Int32} {nb : Nat} (hn : nb ≤ 6) (hm : aM 0 5 = nI nb) (hf : ∀ b, b < nb → aM 0 (35 + 5 * b) = f b) : ∀ (n b : Nat) (s : Int32), b ≤ nb → nb - b < n → X5_dust_lp4 vM aM n s (nI b) = X4_sumOf_lp4 6 f (nI nb) n s (nI b) := by
  intro n
  induction n with
  | zero => intro b s h3 h4; omega
  | succ n ih =>
    intro b s h3 h4
    show X5_dust_lp4b vM aM (X5_dust_lp4 vM aM n) s (nI b) = X4_sumOf_lp4b 6 f (nI nb) (X4_sumOf_lp4 6 f (nI nb) n) s (nI b)
    unfold X5_dust_lp4b X4_sumOf_lp4b
    rw [hm]
    by_cases c : nI nb ≤ nI b
    · rw [if_pos c, if_pos c]
    · rw [if_neg c, if_neg c]
      have hb : b < nb := by
        rcases Nat.lt_or_ge b nb with h | h
        · exact h
        · exact absurd ((nI_leI (by omega) (by omega)).mpr h) c
      rw [if_neg (show ¬ Int32.ofNat 6 ≤ nI b from fun z => by have := (nI_leI (a := 6) (b := b) (by omega) (by omega)).mp z; omega), of_1 (by omega), hf b hb, nI_clamp (n := b) (by omega), nI_add1]
      exact ih (b + 1) _ hb (by omega)
theorem dust_ok (h : SimC N vC aC (aM 0)) : X5_dust_f vM aM = X0_dustTogether_f vC aC := by
  obtain ⟨nb, h1, e1, e2⟩ := h.numE
  unfold X5_dust_f X0_dustTogether_f X4_sumOf_f
  rw [e1]
  refine dust_lp h1 e2 (fun b hb => ?_) 7 0 0 (Nat.zero_le _) (by omega)
  obtain ⟨t, gr, g1, g2, g3, g4, g5, g6, -⟩ := h.nthE h1 e1 hb
  exact g6
/-- resting -/
theorem op_days (h : SimC N vC aC (aM 0)) : kOp N vR (X3_applies_f vC aC vR aR 110 p1 p2 p3) (X0_carryOut_f vC aC 110 p1 p2 p3) vM aM (X5_rests_f vM aM p1) := by
  rw [ap_110, co_110]
  unfold X5_rests_f
  by_cases c : X5_in_f p1 1 60 = true
  · obtain ⟨c1, c2⟩ := sim_rng.mp c
    rw [if_pos c, if_neg (Int32.not_lt.mpr c1), if_pos c2]
    obtain ⟨q1, q2, q3, q4⟩ := passes_ok (vM := vM) h p1
    refine kOp_acc ?_ (fun k h1 _ _ => pk_un h1) q3 ?_
    · show upd vM 18 _ 18 = _
      rw [pk_us, dust_ok q4, q2]
    · show SimC (N + 1) (X0_letDaysGo_f vC aC p1).2.1 _ _
      rw [q1]
      exact q4.mono (Nat.le_succ N)
  · rw [if_neg c]
    by_cases c1 : p1 < 1
    · rw [if_pos c1]
      exact kOp_ref
    · rw [if_neg c1, if_neg (fun z => c (sim_rng.mpr ⟨Int32.not_lt.mp c1, z⟩))]
      exact kOp_ref
/-- going -/
theorem op_go (h : SimC N vC aC (aM 0)) : kOp N vR (X3_applies_f vC aC vR aR 103 p1 p2 p3) (X0_carryOut_f vC aC 103 p1 p2 p3) vM aM (X5_goes_f vM aM p1) := by
  rw [ap_103, co_103]
  unfold X5_goes_f X3_ofGoing_f
  rw [sim_isMarket]
  by_cases c : X5_isMarket_f p1 = true
  · obtain ⟨i, hi, rfl⟩ := sim_in3 c
    obtain ⟨k, hk, e1, e2⟩ := h.marketE
    rw [if_pos c, c, om_t, e1, e2, k_where i hi, k_where k hk]
    unfold X0_travelTo_f X0_distanceTo_f
    rw [e1, nI_clamp (n := i) (by omega), nI_clamp (n := k) (by omega)]
    by_cases e : nI i = nI k
    · rw [if_pos e]
      simp only [if_pos e, Bool.false_eq_true, if_false]
      exact kOp_ref
    · rw [if_neg e]
      simp only [if_neg e, Bool.false_eq_true, if_false]
      generalize (if 0 ≤ k_tab 0 i - k_tab 0 k then k_tab 0 i - k_tab 0 k else 0 - (k_tab 0 i - k_tab 0 k)) = d
      obtain ⟨q1, q2, q3, q4⟩ := passes_ok (vM := vM) h d
      rw [q1]
      have q5 := q4.market hi
      rw [show X5_isSworn_f vM (va_up (X5_passes_f vM aM d) 0 (upd (X5_passes_f vM aM d 0) 1 (nI i))) (nI i) = X0_isOathInForce_f (upd (upd vC 0 (vC 0 + d)) 1 (nI i)) (X0_letDaysGo_f vC aC d).2.2 (nI i) from (sim_sworn (vM := vM) (aM := va_up (X5_passes_f vM aM d) 0 (upd (X5_passes_f vM aM d 0) 1 (nI i))) q5 hi).symm]
      by_cases f : X0_isOathInForce_f (upd (upd vC 0 (vC 0 + d)) 1 (nI i)) (X0_letDaysGo_f vC aC d).2.2 (nI i) = true
      · rw [if_pos f, if_pos f]
        refine kOp_acc ?_ (fun k h1 _ _ => pk_un h1) (fun k h0 => (va_un h0).trans ((va_un h0).trans (q3 k h0))) ((q5.thumb (t := 0) (by omega)).mono (Nat.le_succ N))
        rw [pk_us]
        exact q4.dayE (aM := X5_passes_f vM aM d)
      · rw [if_neg f, if_neg f]
        refine kOp_acc ?_ (fun k h1 _ _ => pk_un h1) (fun k h0 => (va_un h0).trans (q3 k h0)) (q5.mono (Nat.le_succ N))
        rw [pk_us]
        exact q4.dayE (aM := X5_passes_f vM aM d)
  · rw [if_neg c, Bool.eq_false_iff.mpr c]
    simp only [om_f, if_true]
    exact kOp_ref
end S4
