/-! jars and bags more -/
theorem k_updB {f : Nat → Int32} {b : Nat} {x y : Int32} : upd (upd (upd (upd (upd (upd (upd f 5 x) (34 + 5 * b) 0) (35 + 5 * b) 0) (36 + 5 * b) 0) (37 + 5 * b) 0) (38 + 5 * b) 0) (34 + 5 * b) y = upd (upd (upd (upd (upd (upd f (34 + 5 * b) y) (35 + 5 * b) 0) (36 + 5 * b) 0) (37 + 5 * b) 0) (38 + 5 * b) 0) 5 x := by
  funext k
  unfold upd
  (repeat' split) <;> first | rfl | omega
section S8
variable {N N' : Nat} {vF vF' vC vC' : Nat → Int32} {aC aC' : Nat → Nat → Int32} {vS vS' : Nat → Int32} {aS aS' : Nat → Nat → Int32} {vH vH' : Nat → Int32} {aH aH' : Nat → (Nat → Int32) × (Nat → Nat → Int32)} {vR vR' vT : Nat → Int32} {aR aT : Nat → Nat → Int32} {t : Nat → Nat} {k : Nat} {vM vM' : Nat → Int32} {aM aM' : Nat → Nat → Int32} {p p1 p2 p3 x y : Int32}
theorem SimC.jarN (h : SimC N vC aC (aM 0)) : ∃ nj, nj ≤ 6 ∧ vC 4 = nI nj ∧ aM 0 4 = nI nj := by
  obtain ⟨nb, nj, mk, th, sa, nt, ⟨⟨a1, a2, a3, a4⟩, s, ⟨c0, c1, c2, c3, c4, c5, c6, c7, c8, c9⟩, d⟩, hA⟩ := h
  exact ⟨nj, a2, c6, c7⟩
theorem kOpR_of : kOpR (upd (upd (upd vR 0 x) 1 y) 2 0) (kTv vM) (upd (upd (upd (kTv vM) 14 x) 15 y) 17 0) :=
  ⟨rfl, rfl, rfl, rfl, fun k h1 h2 h3 _ _ _ => (pk_un h3).trans ((pk_un h2).trans (pk_un h1))⟩
/-- a jar more -/
theorem jar_ok (hR : kRel N vF vC aC vS aS vH aH vR vT aT t k vM aM) : (X5_jar_f vM aM p1 p2).2.1 21 = kLk1 (X4_change_f vF vC aC vH aH vR aR 74 p1 p2 0).1 ∧ ((X4_change_f vF vC aC vH aH vR aR 74 p1 p2 0).1 = 0 → (X5_jar_f vM aM p1 p2).1 = (X4_change_f vF vC aC vH aH vR aR 74 p1 p2 0).2.1) ∧ kRel (N + 60) vF (X4_change_f vF vC aC vH aH vR aR 74 p1 p2 0).2.2.1 (X4_change_f vF vC aC vH aH vR aR 74 p1 p2 0).2.2.2.1 vS aS (X4_change_f vF vC aC vH aH vR aR 74 p1 p2 0).2.2.2.2.1 (X4_change_f vF vC aC vH aH vR aR 74 p1 p2 0).2.2.2.2.2.1 (X4_change_f vF vC aC vH aH vR aR 74 p1 p2 0).2.2.2.2.2.2 vT aT t k (X5_jar_f vM aM p1 p2).2.1 (X5_jar_f vM aM p1 p2).2.2 := by
  have ea : X3_applies_f vC aC vR aR 74 p1 p2 0 = _ := ap_74
  unfold X3_ofJar_f at ea
  rw [sim_isSpice] at ea
  by_cases c1 : X5_in_f p1 0 4 = true
  · rw [if_pos c1] at ea
    by_cases c2 : X5_in_f p2 0 900 = true
    · obtain ⟨d1, d2⟩ := sim_rng.mp c2
      rw [if_neg (Int32.not_lt.mpr d1), if_pos d2] at ea
      obtain ⟨nj, n1, n2, n3⟩ := hR.1.jarN
      by_cases c3 : aM 0 4 = 6
      · rw [show X5_jar_f vM aM p1 p2 = (0, upd (upd (upd (upd (upd (upd vM 21 0) 16 0) 14 2) 15 6) 17 0) 21 1, va_up aM 1 (k_cpy 0 64 (aM 0) (aM 1))) from (if_pos c1).trans ((if_pos c2).trans (if_pos c3))]
        have e6 : nj = 6 := (nI_eq (b := 6) (by omega) (by omega)).mp (n3.symm.trans c3)
        rw [if_neg (by rw [n2, e6]; decide)] at ea
        exact chg_ref hR (by rw [ea]) (by rw [ea]; exact kOpR_of)
      · have e6 : nj < 6 := by
          rcases Nat.lt_or_ge nj 6 with h | h
          · exact h
          · obtain rfl : nj = 6 := by omega
            exact absurd n3 c3
        rw [if_pos (by rw [n2]; exact (by decide +kernel : ∀ n, n < 6 → nI n < 6) nj e6)] at ea
        rw [show X5_jar_f vM aM p1 p2 = X5_keeps_f (kTv vM) (va_up (va_up (va_up (kTa aM) 0 (upd (aM 0) 4 (((aM 0) 4) + 1))) 0 (upd (upd (aM 0) 4 (((aM 0) 4) + 1)) ((22 + (2 * ((aM 0) 4))).toNatClampNeg) p1)) 0 (upd (upd (upd (aM 0) 4 (((aM 0) 4) + 1)) ((22 + (2 * ((aM 0) 4))).toNatClampNeg) p1) (((22 + (2 * ((aM 0) 4))) + 1).toNatClampNeg) p2)) ((aM 0) 4) from (if_pos c1).trans ((if_pos c2).trans (if_neg c3))]
        refine chg_acc hR (by rw [ea]; exact Bool.false_ne_true) (by rw [ea]) ?_ (fun _ _ _ _ => rfl) (fun i hi => (va_un hi).trans ((va_un hi).trans (va_un hi))) ?_
        · rw [co_74]
          show aM 0 4 = vC 4 + 1 - 1
          rw [Int32.add_sub_cancel, n2, n3]
        · rw [co_74]
          obtain ⟨q, hq, rfl⟩ := nI_of (Int32.not_lt.mpr d1)
          have hq9 := (nI_leI (b := 900) hq (by omega)).mp d2
          have hs := (((hR.1.jars e6 n2).jarS (x := p1) e6).jarG (q := q) e6 hq9).mono (Nat.le_succ N)
          show SimC (N + 1) (upd vC 4 (vC 4 + 1)) (va_up (va_up aC 5 (upd (aC 5) (vC 4).toNatClampNeg p1)) 6 (upd (aC 6) (vC 4).toNatClampNeg (nI q))) (upd (upd (upd (aM 0) 4 (((aM 0) 4) + 1)) ((22 + (2 * ((aM 0) 4))).toNatClampNeg) p1) (((22 + (2 * ((aM 0) 4))) + 1).toNatClampNeg) (nI q))
          rw [n2, n3, nI_clamp (n := nj) (by omega), ix_jS nj e6, ix_jG nj e6, nI_add1]
          exact hs
    · rw [show X5_jar_f vM aM p1 p2 = (0, upd (upd (upd (upd (upd (upd vM 21 0) 16 0) 14 1) 15 0) 17 0) 21 1, va_up aM 1 (k_cpy 0 64 (aM 0) (aM 1))) from (if_pos c1).trans (if_neg c2)]
      have ea2 : X3_applies_f vC aC vR aR 74 p1 p2 0 = (true, upd (upd (upd vR 0 1) 1 0) 2 0) := by
        rw [ea]
        by_cases d : p2 < 0
        · rw [if_pos d]
        · rw [if_neg d, if_neg (fun z => c2 (sim_rng.mpr ⟨Int32.not_lt.mp d, z⟩))]
      exact chg_ref hR (by rw [ea2]) (by rw [ea2]; exact kOpR_of)
  · rw [if_neg c1] at ea
    rw [show X5_jar_f vM aM p1 p2 = (0, upd (upd (upd (upd (upd (upd vM 21 0) 16 0) 14 1) 15 0) 17 0) 21 1, va_up aM 1 (k_cpy 0 64 (aM 0) (aM 1))) from if_neg c1]
    exact chg_ref hR (by rw [ea]) (by rw [ea]; exact kOpR_of)
theorem bag_lp {b : Int32} {a : Nat → Nat → Int32} : X5_bag_lp62 vM aM p 6 b 0 a = X5_keeps_f (kTv vM) (X5_sets_f (kTv vM) (X5_sets_f (kTv vM) (X5_sets_f (kTv vM) (X5_sets_f (kTv vM) (X5_sets_f (kTv vM) (X5_sets_f (kTv vM) a b 0 0) b 1 0) b 2 0) b 3 0) b 4 0) b 0 p) b := by
  show X5_bag_lp62b vM aM p (X5_bag_lp62 vM aM p 5) b 0 a = _
  refine (if_neg (by decide)).trans ?_
  show X5_bag_lp62b vM aM p (X5_bag_lp62 vM aM p 4) b 1 _ = _
  refine (if_neg (by decide)).trans ?_
  show X5_bag_lp62b vM aM p (X5_bag_lp62 vM aM p 3) b 2 _ = _
  refine (if_neg (by decide)).trans ?_
  show X5_bag_lp62b vM aM p (X5_bag_lp62 vM aM p 2) b 3 _ = _
  refine (if_neg (by decide)).trans ?_
  show X5_bag_lp62b vM aM p (X5_bag_lp62 vM aM p 1) b 4 _ = _
  refine (if_neg (by decide)).trans ?_
  show X5_bag_lp62b vM aM p (X5_bag_lp62 vM aM p 0) b 5 _ = _
  exact if_pos (by decide)
theorem bag_ok (hR : kRel N vF vC aC vS aS vH aH vR vT aT t k vM aM) : (X5_bag_f vM aM p1).2.1 21 = kLk1 (X4_change_f vF vC aC vH aH vR aR 66 p1 0 0).1 ∧ ((X4_change_f vF vC aC vH aH vR aR 66 p1 0 0).1 = 0 → (X5_bag_f vM aM p1).1 = (X4_change_f vF vC aC vH aH vR aR 66 p1 0 0).2.1) ∧ kRel (N + 60) vF (X4_change_f vF vC aC vH aH vR aR 66 p1 0 0).2.2.1 (X4_change_f vF vC aC vH aH vR aR 66 p1 0 0).2.2.2.1 vS aS (X4_change_f vF vC aC vH aH vR aR 66 p1 0 0).2.2.2.2.1 (X4_change_f vF vC aC vH aH vR aR 66 p1 0 0).2.2.2.2.2.1 (X4_change_f vF vC aC vH aH vR aR 66 p1 0 0).2.2.2.2.2.2 vT aT t k (X5_bag_f vM aM p1).2.1 (X5_bag_f vM aM p1).2.2 := by
  have ea : X3_applies_f vC aC vR aR 66 p1 0 0 = _ := ap_66
  unfold X3_ofBag_f at ea
  by_cases c1 : X5_in_f p1 5 50 = true
  · obtain ⟨d1, d2⟩ := sim_rng.mp c1
    rw [if_neg (Int32.not_lt.mpr d1), if_pos d2] at ea
    obtain ⟨nb, n1, n2, n3⟩ := hR.1.numE
    by_cases c3 : aM 0 5 = 6
    · rw [show X5_bag_f vM aM p1 = (0, upd (upd (upd (upd (upd (upd vM 21 0) 16 0) 14 2) 15 6) 17 0) 21 1, va_up aM 1 (k_cpy 0 64 (aM 0) (aM 1))) from (if_pos c1).trans (if_pos c3)]
      have e6 : nb = 6 := (nI_eq (b := 6) (by omega) (by omega)).mp (n3.symm.trans c3)
      rw [if_neg (by rw [n2, e6]; decide)] at ea
      exact chg_ref hR (by rw [ea]) (by rw [ea]; exact kOpR_of)
    · have e6 : nb < 6 := by
        rcases Nat.lt_or_ge nb 6 with h | h
        · exact h
        · obtain rfl : nb = 6 := by omega
          exact absurd n3 c3
      rw [if_pos (by rw [n2]; exact (by decide +kernel : ∀ n, n < 6 → nI n < 6) nb e6)] at ea
      rw [show X5_bag_f vM aM p1 = _ from (if_pos c1).trans ((if_neg c3).trans bag_lp)]
      rw [n3]
      obtain ⟨q, hq, rfl⟩ := nI_of (Int32.not_lt.mpr (Int32.le_trans (by decide : (0 : Int32) ≤ 5) d1))
      have hq5 := (nI_leI (a := 5) (by omega) hq).mp d1
      have hq9 := (nI_leI (b := 50) hq (by omega)).mp d2
      rw [sets_0 e6, sets_1 e6, sets_2 e6, sets_3 e6, sets_4 e6, sets_0 e6]
      refine chg_acc hR (by rw [ea]; exact Bool.false_ne_true) (by rw [ea]) ?_ (fun _ _ _ _ => rfl) (fun i hi => (va_un hi).trans ((va_un hi).trans ((va_un hi).trans ((va_un hi).trans ((va_un hi).trans ((va_un hi).trans (va_un hi))))))) ?_
      · rw [co_66]
        show nI nb = vC 7 + 1 - 1
        rw [Int32.add_sub_cancel, n2]
      · rw [co_66]
        have h1 := ((((hR.1.tare (t1 := q) e6 ⟨hq5, hq9⟩).dust (x := 0) e6).spice (x := -1) (y := 0) e6 (by decide)).grains (gr1 := 0) e6 (by omega)).weighings (x := 0) e6
        have hs := (h1.bags e6 n2 ?_).mono (Nat.le_succ N)
        · show SimC (N + 1) (upd vC 7 (vC 7 + 1)) (va_up (va_up (va_up (va_up (va_up aC 8 (upd (aC 8) ((vC 7).toNatClampNeg) (nI q))) 9 (upd (aC 9) ((vC 7).toNatClampNeg) 0)) 10 (upd (aC 10) ((vC 7).toNatClampNeg) (-1))) 11 (upd (aC 11) ((vC 7).toNatClampNeg) 0)) 12 (upd (aC 12) ((vC 7).toNatClampNeg) 0)) (upd (upd (upd (upd (upd (upd (upd (aM 0) 5 (nI nb + 1)) (34 + 5 * nb) 0) (35 + 5 * nb) 0) (36 + 5 * nb) 0) (37 + 5 * nb) 0) (38 + 5 * nb) 0) (34 + 5 * nb) (nI q))
          rw [n2, nI_clamp (n := nb) (by omega), nI_add1, k_updB]
          exact hs
        · refine ⟨q, 0, hq5, hq9, by omega, ?_, ?_, ?_, ?_, ?_, ?_, ?_⟩
          · show upd (aC 8) nb (nI q) nb = _
            exact pk_us
          · rw [pk_un (by omega), pk_un (by omega), pk_un (by omega), pk_un (by omega), pk_us]
          · rw [pk_un (by omega), pk_un (by omega), pk_un (by omega), pk_us]
            show (0 : Int32) = upd (aC 9) nb 0 nb
            exact pk_us.symm
          · rw [pk_un (by omega), pk_un (by omega), pk_us]
            show (0 : Int32) = upd (aC 10) nb (-1) nb + 1
            rw [pk_us]
            exact (by decide : (0 : Int32) = -1 + 1)
          · show upd (aC 11) nb 0 nb = _
            exact pk_us
          · rw [pk_un (by omega), pk_us]
          · rw [pk_us]
            show (0 : Int32) = upd (aC 12) nb 0 nb
            exact pk_us.symm
  · rw [show X5_bag_f vM aM p1 = (0, upd (upd (upd (upd (upd (upd vM 21 0) 16 0) 14 1) 15 0) 17 0) 21 1, va_up aM 1 (k_cpy 0 64 (aM 0) (aM 1))) from if_neg c1]
    have ea2 : X3_applies_f vC aC vR aR 66 p1 0 0 = (true, upd (upd (upd vR 0 1) 1 0) 2 0) := by
      rw [ea]
      by_cases d : p1 < 5
      · rw [if_pos d]
      · rw [if_neg d, if_neg (fun z => c1 (sim_rng.mpr ⟨Int32.not_lt.mp d, z⟩))]
    exact chg_ref hR (by rw [ea2]) (by rw [ea2]; exact kOpR_of)
end S8
