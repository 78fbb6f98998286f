/-! filling and emptying, jars and bags -/
section S3
variable {N : Nat} {vC : Nat → Int32} {aC : Nat → Nat → Int32} {vR : Nat → Int32} {aR : Nat → Nat → Int32} {vM : Nat → Int32} {aM : Nat → Nat → Int32} {p p1 p2 p3 x y : Int32}
/-- emptying a bag into a jar -/
theorem op_empty (h : SimC N vC aC (aM 0)) : kOp N vR (X3_applies_f vC aC vR aR 101 p1 p2 p3) (X0_carryOut_f vC aC 101 p1 p2 p3) vM aM (X5_empties_f vM aM p1 p2) := by
  rw [ap_101, co_101]
  unfold X5_empties_f X3_ofEmptying_f X3_ofOtherSpice_f
  rw [sim_bag (vM := vM) h, sim_jar (vM := vM) h]
  by_cases c : X5_isBag_f vM aM p1 = true
  · obtain ⟨b, hb, rfl, t, gr, g1, g2, g3, g4, g5, g6, g7, g8, g9, g10⟩ := h.bagE c
    rw [if_pos c, c]
    by_cases d : X5_isJar_f vM aM p2 = true
    · obtain ⟨j, hj, rfl, hS, q, hq, e1, e2⟩ := h.jarE d
      rw [if_pos d, d]
      simp only [om_t, Bool.false_eq_true, if_false]
      rw [nI_clamp (n := b) (by omega), nI_clamp (n := j) (by omega), of_3 hb, of_2 hb, ix_jS j hj, ix_jG j hj, g8, g9, g7, hS, e1, e2, Int32.add_sub_cancel]
      by_cases e : nI gr = 0
      · rw [if_pos e, if_pos e]
        exact kOp_ref
      · rw [if_neg e, if_neg e]
        by_cases f : aC 10 b = aC 5 j
        · simp only [if_pos f, Bool.false_eq_true, if_false]
          rw [show (900 : Int32) - nI q = nI (900 - q) from pk_sub (a := 900) hq, nI_add]
          by_cases k : q + gr ≤ 900
          · rw [if_pos ((nI_leI (b := 900 - q) (by omega) (by omega)).mpr (by omega)), if_pos (show nI (q + gr) ≤ 900 from (nI_leI (b := 900) (by omega) (by omega)).mpr k)]
            have hs := (((h.jarG hj k).grains (gr1 := 0) hb (by omega)).spice (x := -1) (y := 0) hb (by decide)).mono (Nat.le_succ N)
            have ec : (X0_emptyBag_f vC aC (nI b) (nI j)).2 = va_up (va_up (va_up aC 6 (upd (aC 6) j (nI (q + gr)))) 11 (upd (aC 11) b 0)) 10 (upd (aC 10) b (-1)) := by
              unfold X0_emptyBag_f X0_clearBag_f
              rw [nI_clamp (n := b) (by omega), nI_clamp (n := j) (by omega), g8, e2, nI_add]
              rfl
            have ev : (X0_emptyBag_f vC aC (nI b) (nI j)).1 = nI (q + gr) := by
              show ((X0_emptyBag_f vC aC (nI b) (nI j)).2 6) (nI j).toNatClampNeg = _
              rw [ec, nI_clamp (n := j) (by omega)]
              exact pk_us
            have em : X5_clears_f vM (va_up aM 0 (upd (aM 0) (23 + 2 * j) (nI (q + gr)))) (nI b) = va_up (va_up (va_up aM 0 (upd (aM 0) (23 + 2 * j) (nI (q + gr)))) 0 (upd (upd (aM 0) (23 + 2 * j) (nI (q + gr))) (36 + 5 * b) 0)) 0 (upd (upd (upd (aM 0) (23 + 2 * j) (nI (q + gr))) (36 + 5 * b) 0) (37 + 5 * b) 0) := by
              unfold X5_clears_f
              rw [sets_2 hb, sets_3 hb]
              rfl
            rw [em, ec, ev]
            refine kOp_acc ?_ (fun k h1 _ _ => pk_un h1) (fun k h0 => (va_un h0).trans ((va_un h0).trans (va_un h0))) ?_
            · show upd vM 18 (upd (upd (upd (aM 0) (23 + 2 * j) (nI (q + gr))) (36 + 5 * b) 0) (37 + 5 * b) 0 (23 + 2 * j)) 18 = _
              rw [pk_us, pk_un (by omega), pk_un (by omega), pk_us]
            · show SimC (N + 1) vC _ (upd (upd (upd (aM 0) (23 + 2 * j) (nI (q + gr))) (36 + 5 * b) 0) (37 + 5 * b) 0)
              rw [k_updc (by omega)]
              exact hs
          · rw [if_neg (fun z => k (by have := (nI_leI (b := 900 - q) (by omega) (by omega)).mp z; omega)), if_neg (show ¬ nI (q + gr) ≤ 900 from fun z => k ((nI_leI (b := 900) (by omega) (by omega)).mp z))]
            exact kOp_ref
        · simp only [if_neg f, if_true]
          exact kOp_ref
    · rw [if_neg d, Bool.eq_false_iff.mpr d]
      simp only [om_t, om_f, Bool.false_eq_true, if_false, if_true]
      exact kOp_ref
  · rw [if_neg c, Bool.eq_false_iff.mpr c]
    simp only [om_f, if_true]
    exact kOp_ref
abbrev kFl1 (aM : Nat → Nat → Int32) (p1 p2 : Int32) : Nat → Nat → Int32 := va_up aM 0 (upd (aM 0) (((22 + (2 * p1)) + 1).toNatClampNeg) (((aM 0) ((22 + (2 * p1)) + 1).toNatClampNeg) - p2))
abbrev kFl2 (vM : Nat → Int32) (aM : Nat → Nat → Int32) (p0 p1 p2 : Int32) : Nat → Nat → Int32 := X5_sets_f vM (X5_sets_f vM (kFl1 aM p1 p2) p0 2 ((kFl1 aM p1 p2 0 (22 + (2 * p1)).toNatClampNeg) + 1)) p0 3 ((X5_of_f vM (X5_sets_f vM (kFl1 aM p1 p2) p0 2 ((kFl1 aM p1 p2 0 (22 + (2 * p1)).toNatClampNeg) + 1)) p0 3) + p2)
theorem fill_acc (h : SimC N vC aC (aM 0)) {b j gr q g : Nat} (hb : b < 6) (hj : j < 6) (hS : aM 0 (22 + 2 * j) = aC 5 j) (e1 : aM 0 (23 + 2 * j) = nI q) (e2 : aC 6 j = nI q) (hq : q ≤ 900) (g8 : aC 11 b = nI gr) (g9 : aM 0 (37 + 5 * b) = nI gr) (hg : g ≤ q) (hgr : gr + g ≤ 400) : kOp N vR (false, vR) ((X0_fillBag_f vC aC (nI b) (nI j) (nI g)).1, vC, (X0_fillBag_f vC aC (nI b) (nI j) (nI g)).2) vM aM (true, upd vM 18 (X5_of_f vM (kFl2 vM aM (nI b) (nI j) (nI g)) (nI b) 3), kFl2 vM aM (nI b) (nI j) (nI g)) := by
  have hs := (((h.jarG (q := q - g) hj (by omega)).spice (x := aC 5 j) (y := aC 5 j + 1) hb rfl).grains (gr1 := gr + g) hb hgr).mono (Nat.le_succ N)
  have ej : kFl1 aM (nI j) (nI g) = va_up aM 0 (upd (aM 0) (23 + 2 * j) (nI (q - g))) := by
    show va_up aM 0 (upd (aM 0) (((22 + (2 * nI j)) + 1).toNatClampNeg) (((aM 0) ((22 + (2 * nI j)) + 1).toNatClampNeg) - nI g)) = _
    rw [ix_jG j hj, e1, pk_sub hg]
  have em : kFl2 vM aM (nI b) (nI j) (nI g) = va_up (va_up (va_up aM 0 (upd (aM 0) (23 + 2 * j) (nI (q - g)))) 0 (upd (upd (aM 0) (23 + 2 * j) (nI (q - g))) (36 + 5 * b) (aC 5 j + 1))) 0 (upd (upd (upd (aM 0) (23 + 2 * j) (nI (q - g))) (36 + 5 * b) (aC 5 j + 1)) (37 + 5 * b) (nI (gr + g))) := by
    unfold kFl2
    rw [ej, ix_jS j hj, sets_2 hb, sets_3 hb, of_3 hb]
    simp only [va_us]
    rw [pk_un (f := aM 0) (by omega), hS, pk_un (by omega), pk_un (by omega), g9, nI_add]
  have ec : X0_fillBag_f vC aC (nI b) (nI j) (nI g) = (nI (gr + g), va_up (va_up (va_up aC 6 (upd (aC 6) j (nI (q - g)))) 10 (upd (aC 10) b (aC 5 j))) 11 (upd (aC 11) b (nI (gr + g)))) := by
    unfold X0_fillBag_f
    rw [nI_clamp (n := b) (by omega), nI_clamp (n := j) (by omega), g8, e2, pk_sub hg, nI_add, pk_us]
  rw [em, ec]
  refine kOp_acc ?_ (fun k h1 _ _ => pk_un h1) (fun k h0 => (va_un h0).trans ((va_un h0).trans (va_un h0))) hs
  rw [pk_us, of_3 hb, va_us, pk_us]
/-- filling a bag out of a jar -/
theorem op_fill (h : SimC N vC aC (aM 0)) : kOp N vR (X3_applies_f vC aC vR aR 102 p1 p2 p3) (X0_carryOut_f vC aC 102 p1 p2 p3) vM aM (X5_fills_f vM aM p1 p2 p3) := by
  rw [ap_102, co_102]
  unfold X5_fills_f X3_ofFilling_f X3_ofOtherSpice_f
  rw [sim_bag (vM := vM) h, sim_jar (vM := vM) h]
  by_cases c : X5_isBag_f vM aM p1 = true
  · obtain ⟨b, hb, rfl, t, gr, g1, g2, g3, g4, g5, g6, g7, g8, g9, g10⟩ := h.bagE c
    rw [if_pos c, c]
    by_cases d : X5_isJar_f vM aM p2 = true
    · obtain ⟨j, hj, rfl, hS, q, hq, e1, e2⟩ := h.jarE d
      rw [if_pos d, d]
      simp only [om_t, Bool.false_eq_true, if_false]
      by_cases e : X5_in_f p3 1 400 = true
      · obtain ⟨e3, e4⟩ := sim_rng.mp e
        rw [if_pos e, if_neg (Int32.not_lt.mpr e3), if_pos e4]
        obtain ⟨g, hg, rfl⟩ := nI_of (Int32.not_lt.mpr (Int32.le_trans (by decide : (0 : Int32) ≤ 1) e3))
        have hg4 := (nI_leI (b := 400) hg (by omega)).mp e4
        have hA := fun a1 a2 => fill_acc (vR := vR) (vM := vM) h hb hj hS e1 e2 hq g8 g9 (g := g) a1 a2
        unfold kFl2 kFl1 at hA
        rw [nI_clamp (n := b) (by omega), nI_clamp (n := j) (by omega), g8, e2]
        have k3 : X5_of_f vM aM (nI b) 3 = nI gr := (of_3 hb).trans g9
        have k2 : X5_of_f vM aM (nI b) 2 - 1 = aC 10 b := (congrArg (· - 1) ((of_2 hb).trans g7)).trans (Int32.add_sub_cancel _ _)
        have kj : (aM 0) ((22 + (2 * nI j)) + 1).toNatClampNeg = nI q := (congrArg (aM 0) (ix_jG j hj)).trans e1
        have kS : (aM 0) (22 + (2 * nI j)).toNatClampNeg = aC 5 j := (congrArg (aM 0) (ix_jS j hj)).trans hS
        have c4 : (400 : Int32) - nI gr = nI (400 - gr) := pk_sub (a := 400) g3
        have fin : kOp N vR (if nI g ≤ nI q then (if nI g ≤ 400 - nI gr then (false, vR) else (true, upd (upd (upd vR 0 7) 1 (400 - nI gr)) 2 0)) else (true, upd (upd (upd vR 0 5) 1 (nI q)) 2 0)) ((X0_fillBag_f vC aC (nI b) (nI j) (nI g)).1, vC, (X0_fillBag_f vC aC (nI b) (nI j) (nI g)).2) vM aM (if nI g ≤ nI q then (if nI gr + nI g ≤ 400 then (true, upd vM 18 (X5_of_f vM (kFl2 vM aM (nI b) (nI j) (nI g)) (nI b) 3), kFl2 vM aM (nI b) (nI j) (nI g)) else (false, upd (upd (upd vM 14 7) 15 (400 - nI gr)) 17 (vM 16), aM)) else (false, upd (upd (upd vM 14 5) 15 (nI q)) 17 (vM 16), aM)) := by
          by_cases k1 : nI g ≤ nI q
          · rw [if_pos k1, if_pos k1, c4, nI_add]
            have k1' := (nI_leI (by omega) (by omega)).mp k1
            by_cases k2 : gr + g ≤ 400
            · rw [if_pos ((nI_leI (by omega) (by omega)).mpr (by omega)), if_pos (show nI (gr + g) ≤ 400 from (nI_leI (b := 400) (by omega) (by omega)).mpr k2)]
              exact hA k1' k2
            · rw [if_neg (fun z => k2 (by have := (nI_leI (a := g) (b := 400 - gr) (by omega) (by omega)).mp z; omega)), if_neg (show ¬ nI (gr + g) ≤ 400 from fun z => k2 ((nI_leI (b := 400) (by omega) (by omega)).mp z))]
              exact kOp_ref
          · rw [if_neg k1, if_neg k1]
            exact kOp_ref
        rw [k3, k2, kS]
        simp only [kj]
        by_cases f : nI gr ≤ 0
        · rw [if_pos f, if_pos f]
          refine Eq.mp ?_ fin
          unfold kFl2 kFl1
          simp only [kj]
          rfl
        · rw [if_neg f, if_neg f]
          by_cases f2 : aC 10 b = aC 5 j
          · simp only [if_pos f2, Bool.false_eq_true, if_false]
            refine Eq.mp ?_ fin
            unfold kFl2 kFl1
            simp only [kj]
            rfl
          · simp only [if_neg f2, if_true]
            exact kOp_ref
      · rw [if_neg e]
        by_cases c1 : p3 < 1
        · rw [if_pos c1]
          exact kOp_ref
        · rw [if_neg c1, if_neg (fun z => e (sim_rng.mpr ⟨Int32.not_lt.mp c1, z⟩))]
          exact kOp_ref
    · rw [if_neg d, Bool.eq_false_iff.mpr d]
      simp only [om_t, om_f, Bool.false_eq_true, if_false, if_true]
      exact kOp_ref
  · rw [if_neg c, Bool.eq_false_iff.mpr c]
    simp only [om_f, if_true]
    exact kOp_ref
end S3
