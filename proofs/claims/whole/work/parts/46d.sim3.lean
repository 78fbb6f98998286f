/-! filling and emptying, jars and bags -/
section S3
variable {N : Nat} {vC : Nat → Int32} {aC : Nat → Nat → Int32} {vR : Nat → Int32} {aR : Nat → Nat → Int32} {vM : Nat → Int32} {aM : Nat → Nat → Int32} {p p1 p2 p3 x y : Int32}
/-- emptying a bag into a jar -/
theorem op_empty (h : SimC N vC aC (aM 0)) : kOp N vR (X3_applies_f vC aC vR aR 101 p1 p2 p3) (X0_carryOut_f vC aC 101 p1 p2 p3) vM aM (X5_empties_f vM aM p1 p2) := by
  rw [ap_101, co_101]
  unfold X5_empties_f X3_ofEmptying_f X3_ofOtherSpice_f
  rw [sim_bag (vM := vM) h, sim_jar (vM := vM) h]
  by_cases c : X5_isBag_f vM aM p1 = true
  · obtain ⟨b, hb, rfl, t, gr, g1, g2, g3, g4, g5, g6, g7, g8, g9, g10⟩ := h.bagE c
    rw [if_pos c, c]
    by_cases d : X5_isJar_f vM aM p2 = true
    · obtain ⟨j, hj, rfl, hS, q, hq, e1, e2⟩ := h.jarE d
      rw [if_pos d, d]
      simp only [om_t, Bool.false_eq_true, if_false]
      rw [nI_clamp (n := b) (by omega), nI_clamp (n := j) (by omega), of_3 hb, of_2 hb, ix_jS j hj, ix_jG j hj, g8, g9, g7, hS, e1, e2, Int32.add_sub_cancel]
      by_cases e : nI gr = 0
      · rw [if_pos e, if_pos e]
        exact kOp_ref
      · rw [if_neg e, if_neg e]
        by_cases f : aC 10 b = aC 5 j
        · simp only [if_pos f, Bool.false_eq_true, if_false]
          rw [show (900 : Int32) - nI q = nI (900 - q) from pk_sub (a := 900) hq, nI_add]
          by_cases k : q + gr ≤ 900
          · rw [if_pos ((nI_leI (b := 900 - q) (by omega) (by omega)).mpr (by omega)), if_pos ((nI_leI (b := 900) (by omega) (by omega)).mpr k)]
            have hs := (((h.jarG hj k).grains (gr1 := 0) hb (by omega)).spice (x := -1) (y := 0) hb (by decide)).mono (Nat.le_succ N)
            have ec : (X0_emptyBag_f vC aC (nI b) (nI j)).2 = va_up (va_up (va_up aC 6 (upd (aC 6) j (nI (q + gr)))) 11 (upd (aC 11) b 0)) 10 (upd (aC 10) b (-1)) := by
              unfold X0_emptyBag_f X0_clearBag_f
              rw [nI_clamp (n := b) (by omega), nI_clamp (n := j) (by omega), g8, e2, nI_add]
              rfl
            have ev : (X0_emptyBag_f vC aC (nI b) (nI j)).1 = nI (q + gr) := by
              show ((X0_emptyBag_f vC aC (nI b) (nI j)).2 6) (nI j).toNatClampNeg = _
              rw [ec, nI_clamp (n := j) (by omega)]
              exact pk_us
            have em : X5_clears_f vM (va_up aM 0 (upd (aM 0) (23 + 2 * j) (nI (q + gr)))) (nI b) = va_up (va_up (va_up aM 0 (upd (aM 0) (23 + 2 * j) (nI (q + gr)))) 0 (upd (upd (aM 0) (23 + 2 * j) (nI (q + gr))) (36 + 5 * b) 0)) 0 (upd (upd (upd (aM 0) (23 + 2 * j) (nI (q + gr))) (36 + 5 * b) 0) (37 + 5 * b) 0) := by
              unfold X5_clears_f
              rw [sets_2 hb, sets_3 hb]
              rfl
            rw [em, ec, ev]
            refine kOp_acc ?_ (fun k h1 _ _ => pk_un h1) (fun k h0 => (va_un h0).trans ((va_un h0).trans (va_un h0))) ?_
            · show upd vM 18 (upd (upd (upd (aM 0) (23 + 2 * j) (nI (q + gr))) (36 + 5 * b) 0) (37 + 5 * b) 0 (23 + 2 * j)) 18 = _
              rw [pk_us, pk_un (by omega), pk_un (by omega), pk_us]
            · show SimC (N + 1) vC _ (upd (upd (upd (aM 0) (23 + 2 * j) (nI (q + gr))) (36 + 5 * b) 0) (37 + 5 * b) 0)
              rw [k_updc (by omega)]
              exact hs
          · rw [if_neg (fun z => k (by have := (nI_leI (b := 900 - q) (by omega) (by omega)).mp z; omega)), if_neg (fun z => k ((nI_leI (b := 900) (by omega) (by omega)).mp z))]
            exact kOp_ref
        · simp only [if_neg f, if_true]
          exact kOp_ref
    · rw [if_neg d, Bool.eq_false_iff.mpr d]
      simp only [om_t, om_f, Bool.false_eq_true, if_false, if_true]
      exact kOp_ref
  · rw [if_neg c, Bool.eq_false_iff.mpr c]
    simp only [om_f, if_true]
    exact kOp_ref
end S3
