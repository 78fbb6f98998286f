/-! what refused asks: reasons, answers -/
def kR3 (R : Nat → Int32) (a b : Int32) : Nat → Int32 := upd (upd (upd R 0 a) 1 b) 2 0
theorem mk_not2 {g : kG} {oF : Nat} {F : Nat → Int32} {C S : kK} {h : List kK} {R : Nat → Int32} {T : kK} {ln : kTx} {a p1 p2 p3 x w d : Int32} {u : List va_W} (hap : kAp C R a p1 p2 p3 = (true, kR3 R w d)) (hp : kChg g oF F C S h R T ln a p1 p2 p3 x u) : x = -1001 ∧ ∃ R2 : Nat → Int32, (R2 0 = w ∧ R2 1 = d ∧ R2 2 = 0) ∧ kOb g oF F C S h R2 T ln u := by
  obtain ⟨h1, h2⟩ := mk_not hap hp
  exact ⟨h1, _, ⟨rfl, rfl, rfl⟩, h2⟩
section REF
variable {C : kK} {R : Nat → Int32}
theorem rf_j1 : kAp C R 74 5 0 0 = (true, kR3 R 1 0) := rfl
theorem rf_j2 : kAp C R 74 0 901 0 = (true, kR3 R 1 0) := rfl
theorem rf_j3 : kAp C R 74 0 (-1) 0 = (true, kR3 R 1 0) := rfl
theorem rf_b1 : kAp C R 66 4 0 0 = (true, kR3 R 1 0) := rfl
theorem rf_b2 : kAp C R 66 51 0 0 = (true, kR3 R 1 0) := rfl
theorem rf_t1 : kAp C R 116 31 0 0 = (true, kR3 R 1 0) := rfl
theorem rf_t2 : kAp C R 116 (-1) 0 0 = (true, kR3 R 1 0) := rfl
theorem rf_d1 : kAp C R 110 0 0 0 = (true, kR3 R 1 0) := rfl
theorem rf_d2 : kAp C R 110 61 0 0 = (true, kR3 R 1 0) := rfl
theorem rf_g1 : kAp C R 103 4 0 0 = (true, kR3 R 3 4) := rfl
theorem rf_x1 : kAp C R 120 8 0 0 = (true, kR3 R 3 8) := rfl
theorem rf_x2 : kAp C R 120 (-1) 0 0 = (true, kR3 R 3 (-1)) := rfl
theorem nb5 (h7 : C.1 7 = 5) : X0_hasBag_f C.1 C.2 5 = false := by unfold X0_hasBag_f; rw [h7]; rfl
theorem nbm : X0_hasBag_f C.1 C.2 (-1) = false := rfl
theorem nb0 (h7 : C.1 7 = 5) : X0_hasBag_f C.1 C.2 0 = true := by unfold X0_hasBag_f; rw [h7]; rfl
theorem nj5 (h4 : C.1 4 = 5) : X0_hasJar_f C.1 C.2 5 = false := by unfold X0_hasJar_f; rw [h4]; rfl
theorem njm : X0_hasJar_f C.1 C.2 (-1) = false := rfl
theorem njm2 : X0_hasJar_f C.1 C.2 (-2) = false := rfl
theorem nj0 (h4 : C.1 4 = 5) : X0_hasJar_f C.1 C.2 0 = true := by unfold X0_hasJar_f; rw [h4]; rfl
theorem rf_f1 (h7 : C.1 7 = 5) : kAp C R 102 5 5 0 = (true, kR3 R 3 5) := by rw [kap_102]; unfold X3_ofFilling_f; rw [nb5 h7]; rfl
theorem rf_f2 (h7 : C.1 7 = 5) (h4 : C.1 4 = 5) : kAp C R 102 0 5 0 = (true, kR3 R 3 5) := by rw [kap_102]; unfold X3_ofFilling_f; rw [nb0 h7, nj5 h4]; rfl
theorem rf_f3 (h7 : C.1 7 = 5) (h4 : C.1 4 = 5) : kAp C R 102 0 0 0 = (true, kR3 R 1 0) := by rw [kap_102]; unfold X3_ofFilling_f; rw [nb0 h7, nj0 h4]; rfl
theorem rf_f4 (h7 : C.1 7 = 5) (h4 : C.1 4 = 5) : kAp C R 102 0 0 401 = (true, kR3 R 1 0) := by rw [kap_102]; unfold X3_ofFilling_f; rw [nb0 h7, nj0 h4]; rfl
theorem rf_e1 : kAp C R 101 (-1) 0 0 = (true, kR3 R 3 (-1)) := by rw [kap_101]; rfl
theorem rf_e2 (h7 : C.1 7 = 5) : kAp C R 101 0 (-2) 0 = (true, kR3 R 3 (-2)) := by rw [kap_101]; unfold X3_ofEmptying_f; rw [nb0 h7]; rfl
theorem rf_be (h7 : C.1 7 = 5) : kAp C R 98 5 0 0 = (true, kR3 R 3 5) := by rw [kap_98, nb5 h7]; rfl
theorem rf_we (h7 : C.1 7 = 5) : kAp C R 119 5 0 0 = (true, kR3 R 3 5) := by rw [kap_119, nb5 h7]; rfl
theorem rf_se (h7 : C.1 7 = 5) : kAp C R 115 5 0 0 = (true, kR3 R 3 5) := by rw [kap_115]; unfold X3_ofSelling_f; rw [nb5 h7]; rfl
theorem rf_g2 {m : Nat} (hm : m < 4) (em : C.1 1 = nI m) : kAp C R 103 (C.1 1) 0 0 = (true, kR3 R 13 (C.1 1)) := by
  rw [kap_103]
  unfold X3_ofGoing_f
  have m0 : X4_isMarket_f (C.1 1) = true := by
    rw [em]
    exact (by decide : ∀ m, m < 4 → X4_isMarket_f (nI m) = true) m hm
  have m1 : ∀ Q : Nat → Int32, X3_ofMissing_f Q kA0 true (C.1 1) = (false, Q) := fun Q => if_pos rfl
  rw [m0, m1, if_neg (mk_ff _), if_pos rfl]
  rfl
/-! answers -/
theorem ra_jarOf1 (h4 : C.1 4 = 5) : kA1 (X4_jarOf_f kF0 C.1 C.2 5 true) = -1001 := by unfold X4_jarOf_f; rw [nj5 h4]; rfl
theorem ra_jarOf2 : kA1 (X4_jarOf_f kF0 C.1 C.2 (-1) false) = -1001 := rfl
theorem ck5 (h7 : C.1 7 = 5) : X4_checkBag_f kF0 C.1 C.2 5 = 2 := by unfold X4_checkBag_f; rw [nb5 h7]; rfl
theorem ck0 (h7 : C.1 7 = 5) : X4_checkBag_f kF0 C.1 C.2 0 = 0 := by unfold X4_checkBag_f; rw [nb0 h7]; rfl
theorem ra_bagOf1 (h7 : C.1 7 = 5) : kA2 2 (X4_bagOf_f kF0 C.1 C.2 5 9) = -1001 := by unfold X4_bagOf_f; rw [ck5 h7]; rfl
theorem ra_bagOf2 (h7 : C.1 7 = 5) : kA2 2 (X4_bagOf_f kF0 C.1 C.2 0 6) = -1002 := by unfold X4_bagOf_f; rw [ck0 h7]; rfl
theorem ra_bagOf3 (h7 : C.1 7 = 5) : kA2 2 (X4_bagOf_f kF0 C.1 C.2 0 (-1)) = -1002 := by unfold X4_bagOf_f; rw [ck0 h7]; rfl
theorem ra_w1 : kA2 2 (X4_weightOf_f kF0 C.1 C.2 8 9) = -1001 := rfl
theorem ra_w2 : kA2 2 (X4_weightOf_f kF0 C.1 C.2 0 4) = -1002 := rfl
theorem ra_w3 : kA2 2 (X4_weightOf_f kF0 C.1 C.2 (-1) 0) = -1001 := rfl
theorem ra_told (h7 : C.1 7 = 5) : kA1 (X4_told_f kF0 C.1 C.2 5) = -1001 := by unfold X4_told_f; rw [ck5 h7]; rfl
theorem ra_again : kA1 (X4_toldAgain_f kF0 C.1 C.2 (-1)) = -1001 := rfl
theorem ra_onPan (h7 : C.1 7 = 5) : kA1 (X4_onPan_f kF0 C.1 C.2 5) = -1001 := by unfold X4_onPan_f; rw [ck5 h7]; rfl
theorem ra_rest (h7 : C.1 7 = 5) : kA1 (X4_rest_f kF0 C.1 C.2 5) = -1001 := by unfold X4_rest_f; rw [ck5 h7]; rfl
theorem ra_honest (h7 : C.1 7 = 5) : kA1 (X4_honest_f kF0 C.1 C.2 5) = -1001 := by unfold X4_honest_f; rw [ck5 h7]; rfl
theorem ra_p1 : kA2 2 (X4_pays_f kF0 C.1 C.2 4 9) = -1001 := rfl
theorem ra_p2 : kA2 2 (X4_pays_f kF0 C.1 C.2 0 (-1)) = -1002 := rfl
theorem ra_wg1 (h7 : C.1 7 = 5) : kA2 2 (X4_wouldGet_f kF0 C.1 C.2 5 0) = -1001 := by unfold X4_wouldGet_f; rw [ck5 h7]; rfl
theorem ra_wg2 (h7 : C.1 7 = 5) : kA2 2 (X4_wouldGet_f kF0 C.1 C.2 0 4) = -1001 := by unfold X4_wouldGet_f; rw [ck0 h7]; rfl
theorem ra_best (h7 : C.1 7 = 5) : kA2 2 (X4_bestMarket_f kF0 C.1 C.2 5) = -1001 := by unfold X4_bestMarket_f; rw [ck5 h7]; rfl
theorem ra_oath : kA2 2 (X4_oathUntil_f kF0 C.1 C.2 (-1)) = -1001 := rfl
theorem ra_not : kA1 ((X4_isNoticed_f kF0 C.1 C.2 (-1)).1, b2i (X4_isNoticed_f kF0 C.1 C.2 (-1)).2) = -1001 := rfl
theorem ra_ch1 {ln : kTx} : kA1 (X4_character_f ln (-1)) = -1001 := rfl
theorem ra_ch2 {ln : kTx} (h : ln.2 ≤ 34) : kA1 (X4_character_f ln 40) = -1001 := by
  unfold X4_character_f
  rw [if_neg (by decide), if_neg (show ¬ (40 : Int32) < nI ln.2 from nI_nlt (a := 40) (b := ln.2) (by omega) (by omega))]
  rfl
theorem kOb_ln {g : kG} {oF : Nat} {F : Nat → Int32} {C S : kK} {h : List kK} {R : Nat → Int32} {T : kK} {ln : kTx} {u : List va_W} (hO : kOb g oF F C S h R T ln u) : ln.2 ≤ 34 := by
  obtain ⟨oC, oS, oH, oR, oT, oB, rC, rS, rH, rR, rT, oQ, rQ, vH, aH, q, n, ml, f, -, ⟨hn, h1, -⟩, -⟩ := hO
  omega
theorem ra_ac1 {h : List kK} {T : kK} : kAcc C h T 16 = -1001 := rfl
theorem ra_ac2 {h : List kK} {T : kK} : kAcc C h T (-1) = -1001 := rfl
theorem ra_re1 : kA2 3 (X4_reason_f kF0 R kA0 3) = -1001 := rfl
theorem ra_re2 : kA2 3 (X4_reason_f kF0 R kA0 (-1)) = -1001 := rfl
theorem rk_self {b : Nat} : X0_isBefore_f C.1 C.2 (nI b) (nI b) = false := by
  unfold X0_isBefore_f
  rw [if_pos rfl, if_pos rfl, if_pos (Int32.le_refl _)]
theorem rk_lp (h7 : C.1 7 = 5) {b : Nat} (hb : b < 5) : ∀ (n j c : Nat), j + n = 7 → j ≤ 5 → c ≤ (if b < j then j - 1 else j) → ∃ c', c' ≤ 4 ∧ (X0_bagOfRank_lp15 C.1 C.2 5 n (nI b) (nI c) (nI j)).1 = nI c'
  | 0, j, c, hn, hj, _ => absurd hn (by omega)
  | n + 1, j, c, hn, hj, hc => by
    by_cases c1 : C.1 7 ≤ nI j
    · have e : X0_bagOfRank_lp15 C.1 C.2 5 (n + 1) (nI b) (nI c) (nI j) = (nI c, nI j) := if_pos c1
      rw [e]
      rw [h7] at c1
      have := (nI_leI (a := 5) (by omega) (by omega)).mp c1
      refine ⟨c, ?_, rfl⟩
      split at hc <;> omega
    have hj5 : j < 5 := by
      rcases Nat.lt_or_ge j 5 with h | h
      · exact h
      · rw [h7] at c1
        exact absurd ((nI_leI (a := 5) (by omega) (by omega)).mpr h) c1
    by_cases c2 : X0_isBefore_f C.1 C.2 (nI j) (nI b) = true
    · have e : X0_bagOfRank_lp15 C.1 C.2 5 (n + 1) (nI b) (nI c) (nI j) = X0_bagOfRank_lp15 C.1 C.2 5 n (nI b) (nI c + 1) (nI j + 1) := (if_neg c1).trans (if_pos c2)
      rw [e, nI_1, nI_1]
      have hne : j ≠ b := fun z => by rw [z, rk_self] at c2; cases c2
      refine rk_lp h7 hb n (j + 1) (c + 1) (by omega) (by omega) ?_
      split at hc <;> split <;> omega
    · have e : X0_bagOfRank_lp15 C.1 C.2 5 (n + 1) (nI b) (nI c) (nI j) = X0_bagOfRank_lp15 C.1 C.2 5 n (nI b) (nI c) (nI j + 1) := (if_neg c1).trans (if_neg c2)
      rw [e, nI_1]
      refine rk_lp h7 hb n (j + 1) c (by omega) (by omega) ?_
      split at hc <;> split <;> omega
theorem rk_lp2 (h7 : C.1 7 = 5) : ∀ (n j : Nat), j + n = 7 → j ≤ 5 → X0_bagOfRank_lp2 C.1 C.2 5 n (nI j) = -1
  | 0, j, hn, hj => absurd hn (by omega)
  | n + 1, j, hn, hj => by
    by_cases c1 : C.1 7 ≤ nI j
    · exact if_pos c1
    have hj5 : j < 5 := by
      rcases Nat.lt_or_ge j 5 with h | h
      · exact h
      · rw [h7] at c1
        exact absurd ((nI_leI (a := 5) (by omega) (by omega)).mpr h) c1
    obtain ⟨c', hc', e'⟩ := rk_lp h7 hj5 7 0 0 (by omega) (by omega) (by split <;> omega)
    have c2 : ¬ (X0_bagOfRank_lp15 C.1 C.2 5 7 (nI j) 0 0).1 = 5 := by
      rw [show (X0_bagOfRank_lp15 C.1 C.2 5 7 (nI j) 0 0).1 = nI c' from e']
      exact fun z => absurd ((nI_eq (b := 5) (by omega) (by omega)).mp z) (by omega)
    have e : X0_bagOfRank_lp2 C.1 C.2 5 (n + 1) (nI j) = X0_bagOfRank_lp2 C.1 C.2 5 n (nI j + 1) := (if_neg c1).trans (if_neg c2)
    rw [e, nI_1]
    exact rk_lp2 h7 n (j + 1) (by omega) (by omega)
theorem ra_rank (h7 : C.1 7 = 5) : kA1 (X4_ranked_f kF0 C.1 C.2 5) = -1001 := by
  unfold X4_ranked_f
  rw [show X0_bagOfRank_f C.1 C.2 5 = -1 from rk_lp2 h7 7 0 (by omega) (by omega), if_neg (by decide)]
  rfl
/-! the two texts -/
def kTq (T : kK) : kK := (upd T.1 1 1, va_up T.2 0 (upd (T.2 0) 0 113))
theorem kTq_app {T : kK} (h : T.1 1 = 0) : kApp T [113] 1 = kTq T := by
  show (X4_append_f kF0 T.1 T.2 (kChr 113)).2.2 = _
  have e : X4_append_f kF0 T.1 T.2 (kChr 113) = (0, T.1 1 + 1, upd T.1 1 (T.1 1 + 1), va_up T.2 0 (upd (T.2 0) (T.1 1).toNatClampNeg (vp_nar .char (kChr 113)))) := if_pos (by rw [h]; decide)
  rw [e, h]
  rfl
theorem kTq_1 (T : kK) : (kCt (kTq T)).1 = -1 := rfl
theorem kTq_2 (T : kK) : (kCt (kTq T)).2.1 2 = 0 := rfl
theorem kT_z {T : kK} (h : T.1 1 = 0) : T = (upd T.1 1 0, T.2) := by
  refine Prod.ext (funext fun j => ?_) rfl
  show T.1 j = upd T.1 1 0 j
  unfold upd
  split
  · rename_i e; rw [e, h]
  · rfl
end REF
