/-! questions -/
section S10
variable {N N' : Nat} {vF vF' vC vC' : Nat → Int32} {aC aC' : Nat → Nat → Int32} {vS vS' : Nat → Int32} {aS aS' : Nat → Nat → Int32} {vH vH' : Nat → Int32} {aH aH' : Nat → (Nat → Int32) × (Nat → Nat → Int32)} {vR vR' vT : Nat → Int32} {aR aT : Nat → Nat → Int32} {t : Nat → Nat} {k : Nat} {vM vM' : Nat → Int32} {aM aM' : Nat → Nat → Int32} {p p0 p1 p2 p3 x y : Int32} {S : Nat → Int32}
theorem ro_1 (hR : kRel N vF vC aC vS aS vH aH vR vT aT t k vM aM) (h21 : S 21 = 0) (hv : ∀ i, i < 18 → i ≠ 16 → S i = vM i) : S 21 = kLk1 0 ∧ (0 = 0 → x = x) ∧ kRel (N + 60) vF vC aC vS aS vH aH vR vT aT t k S aM := ⟨h21, fun _ => rfl, kRel_ro hR hv⟩
theorem ro_2 {c1 : Nat} (hR : kRel N vF vC aC vS aS vH aH vR vT aT t k vM aM) (h21 : S 21 = 0) (hv : ∀ i, i < 18 → i ≠ 16 → S i = vM i) : S 21 = kLk2 c1 0 ∧ (0 = 0 → x = x) ∧ kRel (N + 60) vF vC aC vS aS vH aH vR vT aT t k S aM := ⟨h21, fun _ => rfl, kRel_ro hR hv⟩
theorem ro_u1 (hR : kRel N vF vC aC vS aS vH aH vR vT aT t k vM aM) : upd vM 21 0 21 = kLk1 0 ∧ (0 = 0 → x = x) ∧ kRel (N + 60) vF vC aC vS aS vH aH vR vT aT t k (upd vM 21 0) aM := ro_1 hR rfl (fun i h _ => pk_un (by omega))
theorem ro_u2 {c1 : Nat} (hR : kRel N vF vC aC vS aS vH aH vR vT aT t k vM aM) : upd vM 21 0 21 = kLk2 c1 0 ∧ (0 = 0 → x = x) ∧ kRel (N + 60) vF vC aC vS aS vH aH vR vT aT t k (upd vM 21 0) aM := ro_2 hR rfl (fun i h _ => pk_un (by omega))
theorem ro_b1 {c : Nat} (hc : c ≠ 0) (hR : kRel N vF vC aC vS aS vH aH vR vT aT t k vM aM) : upd (upd vM 21 0) 21 1 21 = kLk1 c ∧ (c = 0 → x = y) ∧ kRel (N + 60) vF vC aC vS aS vH aH vR vT aT t k (upd (upd vM 21 0) 21 1) aM := ⟨(if_neg hc).symm, fun z => absurd z hc, kRel_ro hR (fun i h _ => (pk_un (by omega)).trans (pk_un (by omega)))⟩
theorem ro_b2 {c c1 : Nat} {e : Int32} (hc : c ≠ 0) (he : kLk2 c1 c = e) (hR : kRel N vF vC aC vS aS vH aH vR vT aT t k vM aM) : upd (upd vM 21 0) 21 e 21 = kLk2 c1 c ∧ (c = 0 → x = y) ∧ kRel (N + 60) vF vC aC vS aS vH aH vR vT aT t k (upd (upd vM 21 0) 21 e) aM := ⟨pk_us.trans he.symm, fun z => absurd z hc, kRel_ro hR (fun i h _ => (pk_un (by omega)).trans (pk_un (by omega)))⟩
theorem cb_t (h : SimC N vC aC (aM 0)) (c : X5_isBag_f vM aM p = true) : X4_checkBag_f vF vC aC p = 0 := if_pos ((sim_bag (vM := vM) h).trans c)
theorem cb_f (h : SimC N vC aC (aM 0)) (c : ¬ X5_isBag_f vM aM p = true) : X4_checkBag_f vF vC aC p = 2 := if_neg (fun z => c ((sim_bag (vM := vM) h).symm.trans z))
theorem cm_t (c : X5_isMarket_f p = true) : X4_checkMarket_f p = 0 := if_pos ((sim_isMarket p).trans c)
theorem cm_f (c : ¬ X5_isMarket_f p = true) : X4_checkMarket_f p = 2 := if_neg (fun z => c ((sim_isMarket p).symm.trans z))
theorem s_jarOf {p1 : Bool} (hR : kRel N vF vC aC vS aS vH aH vR vT aT t k vM aM) : ((X5_jarOf_f vM aM p0 p1).2) 21 = kLk1 ((X4_jarOf_f vF vC aC p0 p1).1) ∧ ((X4_jarOf_f vF vC aC p0 p1).1 = 0 → (X5_jarOf_f vM aM p0 p1).1 = (X4_jarOf_f vF vC aC p0 p1).2) ∧ kRel (N + 60) vF vC aC vS aS vH aH vR vT aT t k ((X5_jarOf_f vM aM p0 p1).2) aM := by
  by_cases c : X5_isJar_f (upd vM 21 0) aM p0 = true
  · rw [show X4_jarOf_f vF vC aC p0 p1 = _ from if_pos ((sim_jar (vM := upd vM 21 0) hR.1).trans c), show X5_jarOf_f vM aM p0 p1 = _ from if_pos c]
    obtain ⟨j, hj, rfl, e1, q, hq, e2, e3⟩ := hR.1.jarE c
    by_cases d : p1 = true
    · rw [if_pos d, if_pos d, ix_j0 j hj, nI_clamp (n := j) (by omega), e1]
      exact ro_u1 hR
    · rw [if_neg d, if_neg d, ix_jG j hj, nI_clamp (n := j) (by omega), e2, e3]
      exact ro_u1 hR
  · rw [show X4_jarOf_f vF vC aC p0 p1 = _ from if_neg (fun z => c ((sim_jar (vM := upd vM 21 0) hR.1).symm.trans z)), show X5_jarOf_f vM aM p0 p1 = _ from if_neg c]
    exact ro_b1 (show (2 : Nat) ≠ 0 by decide) hR
theorem s_bagOf (hR : kRel N vF vC aC vS aS vH aH vR vT aT t k vM aM) : ((X5_bagOf_f vM aM p0 p1).2) 21 = kLk2 2 ((X4_bagOf_f vF vC aC p0 p1).1) ∧ ((X4_bagOf_f vF vC aC p0 p1).1 = 0 → (X5_bagOf_f vM aM p0 p1).1 = (X4_bagOf_f vF vC aC p0 p1).2) ∧ kRel (N + 60) vF vC aC vS aS vH aH vR vT aT t k ((X5_bagOf_f vM aM p0 p1).2) aM := by
  unfold X4_bagOf_f X5_bagOf_f
  by_cases c : X5_isBag_f (upd vM 21 0) aM p0 = true
  · rw [cb_t hR.1 c, if_pos rfl, if_pos c]
    obtain ⟨b, hb, rfl, hB⟩ := hR.1.bagE c
    have hB' := hB
    obtain ⟨t, gr, g1, g2, g3, g4, g5, g6, g7, g8, g9, g10⟩ := hB'
    rw [nI_clamp (n := b) (by omega)]
    by_cases d0 : p1 = 0
    · rw [if_pos d0, if_pos d0, d0, of_0 hb, g4, g5]
      exact ro_u2 hR
    · rw [if_neg d0, if_neg d0]
      by_cases d1 : p1 = 1
      · rw [if_pos d1, if_pos d1, d1, of_1 hb, g6]
        exact ro_u2 hR
      · rw [if_neg d1, if_neg d1]
        by_cases d2 : p1 = 2
        · rw [if_pos d2, if_pos d2, of_2 hb, g7, Int32.add_sub_cancel]
          exact ro_u2 hR
        · rw [if_neg d2, if_neg d2]
          by_cases d3 : p1 = 3
          · rw [if_pos d3, if_pos d3, d3, of_3 hb, g8, g9]
            exact ro_u2 hR
          · rw [if_neg d3, if_neg d3]
            by_cases d4 : p1 = 4
            · rw [if_pos d4, if_pos d4, sim_load (vM := upd vM 21 0) hR.1 hb hB]
              exact ro_u2 hR
            · rw [if_neg d4, if_neg d4]
              by_cases d5 : p1 = 5
              · rw [if_pos d5, if_pos d5, of_4 hb, g10]
                exact ro_u2 hR
              · rw [if_neg d5, if_neg d5]
                exact ro_b2 (show (3 : Nat) ≠ 0 by decide) rfl hR
  · rw [cb_f hR.1 c, if_neg (show ¬ (2 : Nat) = 0 by decide), if_neg c]
    exact ro_b2 (show (2 : Nat) ≠ 0 by decide) rfl hR
theorem s_weightOf (hR : kRel N vF vC aC vS aS vH aH vR vT aT t k vM aM) : ((X5_weightOf_f vM aM p0 p1).2) 21 = kLk2 2 ((X4_weightOf_f vF vC aC p0 p1).1) ∧ ((X4_weightOf_f vF vC aC p0 p1).1 = 0 → (X5_weightOf_f vM aM p0 p1).1 = (X4_weightOf_f vF vC aC p0 p1).2) ∧ kRel (N + 60) vF vC aC vS aS vH aH vR vT aT t k ((X5_weightOf_f vM aM p0 p1).2) aM := by
  unfold X4_weightOf_f X5_weightOf_f
  rw [sim_isWeight]
  by_cases c : X5_isWeight_f p0 = true
  · rw [if_pos c, if_pos c]
    obtain ⟨i, hi, rfl⟩ := sim_in7 c
    rw [ix_w i hi, hR.1.usesE hi, ← sim_short (vM := upd vM 21 0) hR.1 hi, k_weight i hi, nI_clamp (n := i) (by omega)]
    by_cases d0 : p1 = 0
    · rw [if_pos d0, if_pos d0]
      exact ro_u2 hR
    · rw [if_neg d0, if_neg d0]
      by_cases d1 : p1 = 1
      · rw [if_pos d1, if_pos d1]
        exact ro_u2 hR
      · rw [if_neg d1, if_neg d1]
        by_cases d2 : p1 = 2
        · rw [if_pos d2, if_pos d2]
          exact ro_u2 hR
        · rw [if_neg d2, if_neg d2]
          by_cases d3 : p1 = 3
          · rw [if_pos d3, if_pos d3]
            unfold X0_usesToBeShorter_f X0_shortnessOf_f
            rw [nI_clamp (n := i) (by omega), show k_tab 2 i / 10 = k_tab 3 i from (by decide +kernel : ∀ i, i < 8 → k_tab 2 i / 10 = k_tab 3 i) i hi]
            by_cases e : k_tab 3 i ≤ aC 13 i / 8
            · rw [if_pos e, if_pos e, if_neg Int32.lt_irrefl]
              exact ro_u2 hR
            · rw [if_neg e, if_neg e, if_pos (k_nlt.mp e)]
              exact ro_u2 hR
          · rw [if_neg d3, if_neg d3]
            exact ro_b2 (show (3 : Nat) ≠ 0 by decide) rfl hR
  · rw [if_neg c, if_neg c]
    exact ro_b2 (show (2 : Nat) ≠ 0 by decide) rfl hR
theorem S_n {load : Int32} {B : Nat} (h5 : ∀ k, k ≠ 19 → k ≠ 20 → S k = upd vM 21 0 k) : S 21 = 0 ∧ ∀ i, i < 18 → i ≠ 16 → S i = vM i := ⟨(h5 21 (by decide) (by decide)).trans pk_us, fun i h _ => (h5 i (by omega) (by omega)).trans (pk_un (by omega))⟩
theorem s_told (hR : kRel N vF vC aC vS aS vH aH vR vT aT t k vM aM) : ((X5_told_f vM aM p0).2) 21 = kLk1 ((X4_told_f vF vC aC p0).1) ∧ ((X4_told_f vF vC aC p0).1 = 0 → (X5_told_f vM aM p0).1 = (X4_told_f vF vC aC p0).2) ∧ kRel (N + 60) vF vC aC vS aS vH aH vR vT aT t k ((X5_told_f vM aM p0).2) aM := by
  unfold X4_told_f X5_told_f
  by_cases c : X5_isBag_f (upd vM 21 0) aM p0 = true
  · rw [cb_t hR.1 c, if_pos rfl, if_pos c]
    obtain ⟨b, hb, rfl, hB⟩ := hR.1.bagE c
    obtain ⟨B, hBB, s1, s2, s3, s4, s5⟩ := scales_ok (vM := upd vM 21 0) hR.1 (X5_load_f (upd vM 21 0) aM (nI b))
    rw [← sim_load (vM := upd vM 21 0) hR.1 hb hB, s1, ← s2]
    obtain ⟨w1, w2⟩ := S_n (load := 0) (B := 0) s5
    exact ro_1 hR w1 w2
  · rw [cb_f hR.1 c, if_neg (show ¬ (2 : Nat) = 0 by decide), if_neg c]
    exact ro_b1 (show (2 : Nat) ≠ 0 by decide) hR
theorem s_toldAgain (hR : kRel N vF vC aC vS aS vH aH vR vT aT t k vM aM) : ((X5_toldAgain_f vM aM p0).2) 21 = kLk1 ((X4_toldAgain_f vF vC aC p0).1) ∧ ((X4_toldAgain_f vF vC aC p0).1 = 0 → (X5_toldAgain_f vM aM p0).1 = (X4_toldAgain_f vF vC aC p0).2) ∧ kRel (N + 60) vF vC aC vS aS vH aH vR vT aT t k ((X5_toldAgain_f vM aM p0).2) aM := by
  have e : X4_toldAgain_f vF vC aC p0 = X4_told_f vF vC aC p0 := by
    unfold X4_toldAgain_f X4_told_f X0_restOf_f
    have q : ∀ l a b : Int32, l - (l - (a - b)) + b = a := by
      intro l a b
      rw [Int32.sub_eq_add_neg l, Int32.neg_sub, show l + (a - b - l) = a - b from by rw [Int32.add_comm, Int32.sub_add_cancel], Int32.sub_add_cancel]
    rw [q]
  rw [e]
  exact s_told hR
theorem s_onPan (hR : kRel N vF vC aC vS aS vH aH vR vT aT t k vM aM) : ((X5_onPan_f vM aM p0).2) 21 = kLk1 ((X4_onPan_f vF vC aC p0).1) ∧ ((X4_onPan_f vF vC aC p0).1 = 0 → (X5_onPan_f vM aM p0).1 = (X4_onPan_f vF vC aC p0).2) ∧ kRel (N + 60) vF vC aC vS aS vH aH vR vT aT t k ((X5_onPan_f vM aM p0).2) aM := by
  unfold X4_onPan_f X5_onPan_f
  by_cases c : X5_isBag_f (upd vM 21 0) aM p0 = true
  · rw [cb_t hR.1 c, if_pos rfl, if_pos c]
    obtain ⟨b, hb, rfl, hB⟩ := hR.1.bagE c
    obtain ⟨B, hBB, s1, s2, s3, s4, s5⟩ := scales_ok (vM := upd vM 21 0) hR.1 (X5_load_f (upd vM 21 0) aM (nI b))
    rw [← sim_load (vM := upd vM 21 0) hR.1 hb hB, s1, s3]
    obtain ⟨w1, w2⟩ := S_n (load := 0) (B := 0) s5
    exact ro_1 hR w1 w2
  · rw [cb_f hR.1 c, if_neg (show ¬ (2 : Nat) = 0 by decide), if_neg c]
    exact ro_b1 (show (2 : Nat) ≠ 0 by decide) hR
theorem s_rest (hR : kRel N vF vC aC vS aS vH aH vR vT aT t k vM aM) : ((X5_rest_f vM aM p0).2) 21 = kLk1 ((X4_rest_f vF vC aC p0).1) ∧ ((X4_rest_f vF vC aC p0).1 = 0 → (X5_rest_f vM aM p0).1 = (X4_rest_f vF vC aC p0).2) ∧ kRel (N + 60) vF vC aC vS aS vH aH vR vT aT t k ((X5_rest_f vM aM p0).2) aM := by
  unfold X4_rest_f X5_rest_f X0_restOf_f
  by_cases c : X5_isBag_f (upd vM 21 0) aM p0 = true
  · rw [cb_t hR.1 c, if_pos rfl, if_pos c]
    obtain ⟨b, hb, rfl, hB⟩ := hR.1.bagE c
    obtain ⟨B, hBB, s1, s2, s3, s4, s5⟩ := scales_ok (vM := upd vM 21 0) hR.1 (X5_load_f (upd vM 21 0) aM (nI b))
    rw [show X5_load_f ((X5_scales_f (upd vM 21 0) aM (X5_load_f (upd vM 21 0) aM (nI b))).2) aM (nI b) = X5_load_f (upd vM 21 0) aM (nI b) from rfl, ← sim_load (vM := upd vM 21 0) hR.1 hb hB, s1, s4]
    obtain ⟨w1, w2⟩ := S_n (load := 0) (B := 0) s5
    exact ro_1 hR w1 w2
  · rw [cb_f hR.1 c, if_neg (show ¬ (2 : Nat) = 0 by decide), if_neg c]
    exact ro_b1 (show (2 : Nat) ≠ 0 by decide) hR
theorem s_honest (hR : kRel N vF vC aC vS aS vH aH vR vT aT t k vM aM) : ((X5_honest_f vM aM p0).2) 21 = kLk1 ((X4_honest_f vF vC aC p0).1) ∧ ((X4_honest_f vF vC aC p0).1 = 0 → (X5_honest_f vM aM p0).1 = (X4_honest_f vF vC aC p0).2) ∧ kRel (N + 60) vF vC aC vS aS vH aH vR vT aT t k ((X5_honest_f vM aM p0).2) aM := by
  unfold X4_honest_f X5_honest_f
  by_cases c : X5_isBag_f (upd vM 21 0) aM p0 = true
  · rw [cb_t hR.1 c, if_pos rfl, if_pos c]
    obtain ⟨b, hb, rfl, t, gr, g1, g2, g3, g4, g5, g6, g7, g8, g9, g10⟩ := hR.1.bagE c
    rw [of_0 hb, of_3 hb, nI_clamp (n := b) (by omega), g4, g5, g8, g9]
    obtain ⟨B, hBB, s1, s2, s3, s4, s5⟩ := scales_ok (vM := upd vM 21 0) hR.1 (nI t + nI gr)
    rw [s1, ← s2]
    obtain ⟨w1, w2⟩ := S_n (load := 0) (B := 0) s5
    exact ro_1 hR w1 w2
  · rw [cb_f hR.1 c, if_neg (show ¬ (2 : Nat) = 0 by decide), if_neg c]
    exact ro_b1 (show (2 : Nat) ≠ 0 by decide) hR
theorem s_pays (hR : kRel N vF vC aC vS aS vH aH vR vT aT t k vM aM) : ((X5_pays_f vM aM p0 p1).2) 21 = kLk2 2 ((X4_pays_f vF vC aC p0 p1).1) ∧ ((X4_pays_f vF vC aC p0 p1).1 = 0 → (X5_pays_f vM aM p0 p1).1 = (X4_pays_f vF vC aC p0 p1).2) ∧ kRel (N + 60) vF vC aC vS aS vH aH vR vT aT t k ((X5_pays_f vM aM p0 p1).2) aM := by
  unfold X4_pays_f X5_pays_f
  by_cases c : X5_isMarket_f p0 = true
  · rw [cm_t c, if_pos rfl, if_pos c, sim_isSpice]
    by_cases d : X5_in_f p1 0 4 = true
    · rw [if_pos d, if_pos d]
      exact ro_u2 hR
    · rw [if_neg d, if_neg d]
      exact ro_b2 (show (3 : Nat) ≠ 0 by decide) rfl hR
  · rw [cm_f c, if_neg (show ¬ (2 : Nat) = 0 by decide), if_neg c]
    exact ro_b2 (show (2 : Nat) ≠ 0 by decide) rfl hR
theorem gets_ok {b i : Nat} (h : SimC N vC aC (aM 0)) (hb : b < 6) (hi : i < 4) (hB : SimB b aC (aM 0)) : (X5_gets_f S aM (nI b) (nI i)).1 = X0_coinsFor_f vC aC (nI b) (nI i) (X0_netOf_f vC aC (nI b)) ∧ ∀ k, k ≠ 19 → k ≠ 20 → (X5_gets_f S aM (nI b) (nI i)).2 k = S k := by
  obtain ⟨B, hBB, s1, s2, s3, s4, s5⟩ := scales_ok (vM := S) h (X5_load_f S aM (nI b))
  have hl := sim_load (vM := S) h hb hB
  obtain ⟨t, gr, g1, g2, g3, g4, g5, g6, g7, g8, g9, g10⟩ := hB
  refine ⟨?_, s5⟩
  have hn : X0_netOf_f vC aC (nI b) = (X5_scales_f S aM (X5_load_f S aM (nI b))).1 - X5_of_f ((X5_scales_f S aM (X5_load_f S aM (nI b))).2) aM (nI b) 0 := by
    unfold X0_netOf_f
    rw [← hl, s1, s2, of_0 hb, nI_clamp (n := b) (by omega), g4, g5]
  rw [hn]
  exact coins_ok (vM := (X5_scales_f S aM (X5_load_f S aM (nI b))).2) h hb hi g7
theorem s_wouldGet (hR : kRel N vF vC aC vS aS vH aH vR vT aT t k vM aM) : ((X5_wouldGet_f vM aM p0 p1).2) 21 = kLk2 2 ((X4_wouldGet_f vF vC aC p0 p1).1) ∧ ((X4_wouldGet_f vF vC aC p0 p1).1 = 0 → (X5_wouldGet_f vM aM p0 p1).1 = (X4_wouldGet_f vF vC aC p0 p1).2) ∧ kRel (N + 60) vF vC aC vS aS vH aH vR vT aT t k ((X5_wouldGet_f vM aM p0 p1).2) aM := by
  unfold X4_wouldGet_f X5_wouldGet_f
  by_cases c : X5_isBag_f (upd vM 21 0) aM p0 = true
  · rw [cb_t hR.1 c, if_pos rfl, if_pos c]
    obtain ⟨b, hb, rfl, hB⟩ := hR.1.bagE c
    have hB' := hB
    obtain ⟨t, gr, g1, g2, g3, g4, g5, g6, g7, g8, g9, g10⟩ := hB'
    by_cases d : X5_isMarket_f p1 = true
    · rw [cm_t d, if_pos rfl, if_pos d]
      obtain ⟨i, hi, rfl⟩ := sim_in3 d
      unfold X4_checkFilled_f
      rw [nI_clamp (n := b) (by omega), of_3 hb, g8, g9]
      by_cases e : nI gr = 0
      · rw [if_pos e, if_pos e, if_neg (show ¬ (4 : Nat) = 0 by decide)]
        exact ro_b2 (show (4 : Nat) ≠ 0 by decide) rfl hR
      · rw [if_neg e, if_neg e, if_pos rfl]
        obtain ⟨q1, q2⟩ := gets_ok (S := upd vM 21 0) hR.1 hb hi hB
        rw [q1]
        obtain ⟨w1, w2⟩ := S_n (load := 0) (B := 0) q2
        exact ro_2 hR w1 w2
    · rw [cm_f d, if_neg (show ¬ (2 : Nat) = 0 by decide), if_neg d]
      exact ro_b2 (show (2 : Nat) ≠ 0 by decide) rfl hR
  · rw [cb_f hR.1 c, if_neg (show ¬ (2 : Nat) = 0 by decide), if_neg c]
    exact ro_b2 (show (2 : Nat) ≠ 0 by decide) rfl hR
abbrev kDi (m i : Nat) : Int32 := if 0 ≤ k_tab 0 i - k_tab 0 m then k_tab 0 i - k_tab 0 m else 0 - (k_tab 0 i - k_tab 0 m)
theorem kDi_le (m i j : Nat) (hm : m < 4) (hi : i < 4) (hj : j < 4) : kDi m i - kDi m j ≤ 0 ↔ kDi m i ≤ kDi m j := (by decide +kernel : ∀ m, m < 4 → ∀ i, i < 4 → ∀ j, j < 4 → (kDi m i - kDi m j ≤ 0 ↔ kDi m i ≤ kDi m j)) m hm i hi j hj
theorem best_lp {b m : Nat} (h : SimC N vC aC (aM 0)) (hb : b < 6) (hB : SimB b aC (aM 0)) (hm : m < 4) (e1 : vC 1 = nI m) (e2 : aM 0 1 = nI m) : ∀ (n i j : Nat) (S : Nat → Int32), i < 4 → 1 ≤ j → j ≤ 4 → 4 - j < n → (X5_bestMarket_lp38 vM aM (nI b) n (nI i) (nI j) S).1 = X0_marketThatGivesMost_lp11 vC aC (nI b) n (X0_netOf_f vC aC (nI b)) (nI i) (nI j) ∧ ∀ k, k ≠ 19 → k ≠ 20 → (X5_bestMarket_lp38 vM aM (nI b) n (nI i) (nI j) S).2 k = S k := by
  intro n
  induction n with
  | zero => intro i j S h1 h2 h3 h4; omega
  | succ n ih =>
    intro i j S hi h2 h3 h4
    show (X5_bestMarket_lp38b vM aM (nI b) (X5_bestMarket_lp38 vM aM (nI b) n) (nI i) (nI j) S).1 = X0_marketThatGivesMost_lp11b vC aC (nI b) (X0_marketThatGivesMost_lp11 vC aC (nI b) n) (X0_netOf_f vC aC (nI b)) (nI i) (nI j) ∧ ∀ k, k ≠ 19 → k ≠ 20 → (X5_bestMarket_lp38b vM aM (nI b) (X5_bestMarket_lp38 vM aM (nI b) n) (nI i) (nI j) S).2 k = S k
    unfold X5_bestMarket_lp38b X0_marketThatGivesMost_lp11b
    by_cases c : (4 : Int32) ≤ nI j
    · rw [if_pos c, if_pos c]
      exact ⟨rfl, fun _ _ _ => rfl⟩
    · rw [if_neg c, if_neg c]
      have hj : j < 4 := by
        rcases Nat.lt_or_ge j 4 with h | h
        · exact h
        · exact absurd ((nI_leI (a := 4) (by omega) (by omega)).mpr h) c
      obtain ⟨q1, q2⟩ := gets_ok (S := S) h hb hj hB
      obtain ⟨q3, q4⟩ := gets_ok (S := (X5_gets_f S aM (nI b) (nI j)).2) h hb hi hB
      rw [q1, q3, nI_add1]
      unfold X0_distanceTo_f
      rw [k_where i hi, k_where j hj, e2, e1, k_where m hm, nI_clamp (n := i) (by omega), nI_clamp (n := j) (by omega), nI_clamp (n := m) (by omega)]
      have q5 : ∀ k, k ≠ 19 → k ≠ 20 → (X5_gets_f (X5_gets_f S aM (nI b) (nI j)).2 aM (nI b) (nI i)).2 k = S k := fun k h1 h2 => (q4 k h1 h2).trans (q2 k h1 h2)
      have fin : ∀ i', i' < 4 → (X5_bestMarket_lp38 vM aM (nI b) n (nI i') (nI (j + 1)) (X5_gets_f (X5_gets_f S aM (nI b) (nI j)).2 aM (nI b) (nI i)).2).1 = X0_marketThatGivesMost_lp11 vC aC (nI b) n (X0_netOf_f vC aC (nI b)) (nI i') (nI (j + 1)) ∧ ∀ k, k ≠ 19 → k ≠ 20 → (X5_bestMarket_lp38 vM aM (nI b) n (nI i') (nI (j + 1)) (X5_gets_f (X5_gets_f S aM (nI b) (nI j)).2 aM (nI b) (nI i)).2).2 k = S k := by
        intro i' hi'
        obtain ⟨z1, z2⟩ := ih i' (j + 1) (X5_gets_f (X5_gets_f S aM (nI b) (nI j)).2 aM (nI b) (nI i)).2 hi' (by omega) hj (by omega)
        exact ⟨z1, fun k h1 h2 => (z2 k h1 h2).trans (q5 k h1 h2)⟩
      by_cases d1 : 0 < X0_coinsFor_f vC aC (nI b) (nI j) (X0_netOf_f vC aC (nI b)) - X0_coinsFor_f vC aC (nI b) (nI i) (X0_netOf_f vC aC (nI b))
      · rw [if_pos d1, if_pos d1]
        exact fin j hj
      · rw [if_neg d1, if_neg d1]
        by_cases d2 : X0_coinsFor_f vC aC (nI b) (nI j) (X0_netOf_f vC aC (nI b)) - X0_coinsFor_f vC aC (nI b) (nI i) (X0_netOf_f vC aC (nI b)) = 0
        · rw [if_pos d2, if_pos d2]
          by_cases d3 : kDi m i ≤ kDi m j
          · have d4 := (kDi_le m i j hm hi hj).mpr d3
            rw [if_pos d3, if_pos d4]
            exact fin i hi
          · have d4 := fun z => d3 ((kDi_le m i j hm hi hj).mp z)
            rw [if_neg d3, if_neg d4]
            exact fin j hj
        · rw [if_neg d2, if_neg d2]
          exact fin i hi
theorem s_bestMarket (hR : kRel N vF vC aC vS aS vH aH vR vT aT t k vM aM) : ((X5_bestMarket_f vM aM p0).2) 21 = kLk2 2 ((X4_bestMarket_f vF vC aC p0).1) ∧ ((X4_bestMarket_f vF vC aC p0).1 = 0 → (X5_bestMarket_f vM aM p0).1 = (X4_bestMarket_f vF vC aC p0).2) ∧ kRel (N + 60) vF vC aC vS aS vH aH vR vT aT t k ((X5_bestMarket_f vM aM p0).2) aM := by
  unfold X4_bestMarket_f X5_bestMarket_f
  by_cases c : X5_isBag_f (upd vM 21 0) aM p0 = true
  · rw [cb_t hR.1 c, if_pos rfl, if_pos c]
    obtain ⟨b, hb, rfl, hB⟩ := hR.1.bagE c
    have hB' := hB
    obtain ⟨t, gr, g1, g2, g3, g4, g5, g6, g7, g8, g9, g10⟩ := hB'
    unfold X4_checkFilled_f
    rw [nI_clamp (n := b) (by omega), of_3 hb, g8, g9]
    by_cases e : nI gr = 0
    · rw [if_pos e, if_pos e, if_neg (show ¬ (4 : Nat) = 0 by decide)]
      exact ro_b2 (show (4 : Nat) ≠ 0 by decide) rfl hR
    · rw [if_neg e, if_neg e, if_pos rfl]
      obtain ⟨m, hm, e1, e2⟩ := hR.1.marketE
      obtain ⟨q1, q2⟩ := best_lp (vM := vM) hR.1 hb hB hm e1 e2 4 0 1 (upd vM 21 0) (by omega) (by omega) (by omega) (by omega)
      obtain ⟨w1, w2⟩ := S_n (load := 0) (B := 0) q2
      exact ⟨w1, fun _ => q1, kRel_ro hR w2⟩
  · rw [cb_f hR.1 c, if_neg (show ¬ (2 : Nat) = 0 by decide), if_neg c]
    exact ro_b2 (show (2 : Nat) ≠ 0 by decide) rfl hR
theorem s_oathUntil (hR : kRel N vF vC aC vS aS vH aH vR vT aT t k vM aM) : ((X5_oathUntil_f vM aM p0).2) 21 = kLk2 2 ((X4_oathUntil_f vF vC aC p0).1) ∧ ((X4_oathUntil_f vF vC aC p0).1 = 0 → (X5_oathUntil_f vM aM p0).1 = (X4_oathUntil_f vF vC aC p0).2) ∧ kRel (N + 60) vF vC aC vS aS vH aH vR vT aT t k ((X5_oathUntil_f vM aM p0).2) aM := by
  unfold X4_oathUntil_f X5_oathUntil_f
  by_cases c : X5_isMarket_f p0 = true
  · rw [cm_t c, if_pos rfl, if_pos c]
    obtain ⟨i, hi, rfl⟩ := sim_in3 c
    rw [sim_sworn (vM := upd vM 21 0) hR.1 hi, ix_m i hi, hR.1.oathE hi, Int32.add_sub_cancel, nI_clamp (n := i) (by omega)]
    by_cases d : X5_isSworn_f (upd vM 21 0) aM (nI i) = true
    · rw [if_pos d, if_pos d]
      exact ro_u2 hR
    · rw [if_neg d, if_neg d]
      exact ro_b2 (show (4 : Nat) ≠ 0 by decide) rfl hR
  · rw [cm_f c, if_neg (show ¬ (2 : Nat) = 0 by decide), if_neg c]
    exact ro_b2 (show (2 : Nat) ≠ 0 by decide) rfl hR
theorem s_isNoticed (hR : kRel N vF vC aC vS aS vH aH vR vT aT t k vM aM) : ((X5_isNoticed_f vM aM p0).2) 21 = kLk1 ((X4_isNoticed_f vF vC aC p0).1) ∧ ((X4_isNoticed_f vF vC aC p0).1 = 0 → b2i (X5_isNoticed_f vM aM p0).1 = b2i (X4_isNoticed_f vF vC aC p0).2) ∧ kRel (N + 60) vF vC aC vS aS vH aH vR vT aT t k ((X5_isNoticed_f vM aM p0).2) aM := by
  unfold X4_isNoticed_f X5_isNoticed_f
  by_cases c : X5_isMarket_f p0 = true
  · rw [cm_t c, if_pos rfl, if_pos c]
    obtain ⟨i, hi, rfl⟩ := sim_in3 c
    obtain ⟨th, -, f1, f2⟩ := hR.1.thumbE
    rw [k_most i hi, nI_clamp (n := i) (by omega), f1, f2]
    by_cases d : nI th ≤ k_tab 1 i
    · rw [if_pos d, if_pos d]
      exact ro_u1 hR
    · rw [if_neg d, if_neg d]
      exact ro_u1 hR
  · rw [cm_f c, if_neg (show ¬ (2 : Nat) = 0 by decide), if_neg c]
    exact ⟨rfl, fun z => absurd (show (2 : Nat) = 0 from z) (by decide), kRel_ro hR (fun i h _ => pk_un (by omega))⟩
theorem s_reason (hR : kRel N vF vC aC vS aS vH aH vR vT aT t k vM aM) : ((X5_reason_f vM aM p0).2) 21 = kLk2 3 ((X4_reason_f vF vR aR p0).1) ∧ ((X4_reason_f vF vR aR p0).1 = 0 → (X5_reason_f vM aM p0).1 = (X4_reason_f vF vR aR p0).2) ∧ kRel (N + 60) vF vC aC vS aS vH aH vR vT aT t k ((X5_reason_f vM aM p0).2) aM := by
  obtain ⟨e1, e2, e3⟩ := hR.2.2.2.1
  unfold X4_reason_f X5_reason_f
  rw [e1, e2, e3]
  by_cases c : X5_in_f p0 0 2 = true
  · obtain ⟨c1, c2⟩ := sim_rng.mp c
    rw [if_pos c, if_neg (Int32.not_lt.mpr c1), if_pos c2]
    by_cases d : vR 0 = 0
    · rw [if_pos d, if_pos d]
      exact ro_b2 (show (4 : Nat) ≠ 0 by decide) rfl hR
    · rw [if_neg d, if_neg d]
      by_cases d0 : p0 = 0
      · rw [if_pos d0, if_pos d0]
        exact ro_u2 hR
      · rw [if_neg d0, if_neg d0]
        by_cases d1 : p0 = 1
        · rw [if_pos d1, if_pos d1]
          exact ro_u2 hR
        · rw [if_neg d1, if_neg d1]
          exact ro_u2 hR
  · rw [if_neg c]
    by_cases d : p0 < 0
    · rw [if_pos d]
      exact ro_b2 (show (3 : Nat) ≠ 0 by decide) rfl hR
    · rw [if_neg d, if_neg (fun z => c (sim_rng.mpr ⟨Int32.not_lt.mp d, z⟩))]
      exact ro_b2 (show (3 : Nat) ≠ 0 by decide) rfl hR
end S10
