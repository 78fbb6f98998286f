/-! a Caravan in its ranges: what every change that is not refused keeps, and what it answers -/
def kIn (x : Int32) (n : Nat) : Prop := ∃ k, k ≤ n ∧ x = nI k
theorem kIn.mono {x : Int32} {n n' : Nat} (h : kIn x n) (hn : n ≤ n') : kIn x n' := ⟨h.choose, Nat.le_trans h.choose_spec.1 hn, h.choose_spec.2⟩
theorem kIn.nn {x : Int32} {n : Nat} (h : kIn x n) (hn : n < 2 ^ 31) : ¬ x < 0 := by
  obtain ⟨k, h1, rfl⟩ := h
  exact nI_pos (by omega)
theorem kIn_rng {x : Int32} {lo hi : Nat} (h1 : ¬ x < nI lo) (h2 : x ≤ nI hi) (hb : hi < 2 ^ 31) (hl : lo < 2 ^ 31) : ∃ k, lo ≤ k ∧ k ≤ hi ∧ x = nI k := by
  have h0 : ¬ x < 0 := fun z => h1 (Int32.lt_of_lt_of_le z (nI_pos' hl))
  obtain ⟨k, hk, rfl⟩ := nI_of h0
  refine ⟨k, ?_, (nI_leI hk hb).mp h2, rfl⟩
  rcases Nat.lt_or_ge k lo with h | h
  · exact absurd ((nI_ltI hk hl).mpr h) h1
  · exact h
theorem kIn_upd {f : Nat → Int32} {k j : Nat} {x : Int32} {P : Int32 → Prop} (h1 : P x) (h2 : P (f j)) : P (upd f k x j) := by
  unfold upd
  split
  · exact h1
  · exact h2
def kRg (D : Nat) (C : kK) : Prop := (kIn (C.1 7) 6 ∧ kIn (C.1 4) 6 ∧ kIn (C.1 1) 3 ∧ kIn (C.1 3) 30 ∧ kIn (C.1 0) D) ∧ (∀ j, j < 6 → kIn (C.2 6 j) 900 ∧ kIn (C.2 5 j) 4) ∧ (∀ b, b < 6 → kIn (C.2 8 b) 50 ∧ kIn (C.2 9 b) 20 ∧ kIn (C.2 11 b) 400 ∧ (C.2 11 b ≠ 0 → kIn (C.2 10 b) 4)) ∧ ∀ w, w < 8 → kIn (C.2 13 w) D
theorem kRg.mono {D D' : Nat} {C : kK} (h : kRg D C) (hD : D ≤ D') : kRg D' C := ⟨⟨h.1.1, h.1.2.1, h.1.2.2.1, h.1.2.2.2.1, h.1.2.2.2.2.mono hD⟩, h.2.1, h.2.2.1, fun w hw => (h.2.2.2 w hw).mono hD⟩
theorem kRg_N {D : Nat} {C : kK} (h : kRg D C) : kRg D (kN C) := h
theorem kRg.ic {D : Nat} {C : kK} (h : kRg D C) : kIC C.1 := by
  obtain ⟨⟨⟨nb, h1, h2⟩, ⟨nj, h3, h4⟩, ⟨mk, h5, h6⟩, -⟩, -⟩ := h
  exact ⟨⟨nb, h1, h2⟩, ⟨nj, h3, h4⟩, by rw [h6]; exact vp_in_nI (by omega) (by omega)⟩
theorem ks_eta {α β : Type} (x : α × β) : (x.1, x.2) = x := rfl
section KAP
variable {C : kK} {R : Nat → Int32} {p1 p2 p3 : Int32}
theorem kap_66 : kAp C R 66 p1 p2 p3 = X3_ofBag_f C.1 C.2 R kA0 p1 := rfl
theorem kap_74 : kAp C R 74 p1 p2 p3 = X3_ofJar_f C.1 C.2 R kA0 p1 p2 := rfl
theorem kap_98 : kAp C R 98 p1 p2 p3 = X3_ofMissing_f R kA0 (X0_hasBag_f C.1 C.2 p1) p1 := rfl
theorem kap_101 : kAp C R 101 p1 p2 p3 = X3_ofEmptying_f C.1 C.2 R kA0 p1 p2 := by
  have e : X3_applies_f C.1 C.2 R kA0 101 p1 p2 p3 = ((X3_ofEmptying_f C.1 C.2 R kA0 p1 p2).1, (X3_ofEmptying_f C.1 C.2 R kA0 p1 p2).2) := ((if_neg (by decide)).trans ((if_neg (by decide)).trans ((if_neg (by decide)).trans (if_pos rfl))))
  exact e.trans (ks_eta _)
theorem kap_102 : kAp C R 102 p1 p2 p3 = X3_ofFilling_f C.1 C.2 R kA0 p1 p2 p3 := by
  have e : X3_applies_f C.1 C.2 R kA0 102 p1 p2 p3 = ((X3_ofFilling_f C.1 C.2 R kA0 p1 p2 p3).1, (X3_ofFilling_f C.1 C.2 R kA0 p1 p2 p3).2) := ((if_neg (by decide)).trans ((if_neg (by decide)).trans ((if_neg (by decide)).trans ((if_neg (by decide)).trans (if_pos rfl)))))
  exact e.trans (ks_eta _)
theorem kap_103 : kAp C R 103 p1 p2 p3 = X3_ofGoing_f C.1 C.2 R kA0 p1 := rfl
theorem kap_110 : kAp C R 110 p1 p2 p3 = (if p1 < 1 then (true, upd (upd (upd R 0 1) 1 0) 2 0) else if p1 ≤ 60 then (false, R) else (true, upd (upd (upd R 0 1) 1 0) 2 0)) := rfl
theorem kap_111 : kAp C R 111 p1 p2 p3 = X3_ofOath_f C.1 C.2 R kA0 := rfl
theorem kap_115 : kAp C R 115 p1 p2 p3 = X3_ofSelling_f C.1 C.2 R kA0 p1 := rfl
theorem kap_116 : kAp C R 116 p1 p2 p3 = X3_ofThumb_f C.1 C.2 R kA0 p1 := rfl
theorem kap_119 : kAp C R 119 p1 p2 p3 = X3_ofMissing_f R kA0 (X0_hasBag_f C.1 C.2 p1) p1 := rfl
theorem kap_120 : kAp C R 120 p1 p2 p3 = X3_ofSealing_f C.1 C.2 R kA0 p1 := rfl
theorem kco_66 : kCo C 66 p1 p2 p3 = X0_addBag_f C.1 C.2 p1 := rfl
theorem kco_74 : kCo C 74 p1 p2 p3 = X0_addJar_f C.1 C.2 p1 p2 := rfl
theorem kco_98 : kCo C 98 p1 p2 p3 = ((X0_beatBag_f C.1 C.2 p1).1, C.1, (X0_beatBag_f C.1 C.2 p1).2) := rfl
theorem kco_101 : kCo C 101 p1 p2 p3 = ((X0_emptyBag_f C.1 C.2 p1 p2).1, C.1, (X0_emptyBag_f C.1 C.2 p1 p2).2) := rfl
theorem kco_102 : kCo C 102 p1 p2 p3 = ((X0_fillBag_f C.1 C.2 p1 p2 p3).1, C.1, (X0_fillBag_f C.1 C.2 p1 p2 p3).2) := rfl
theorem kco_103 : kCo C 103 p1 p2 p3 = X0_travelTo_f C.1 C.2 p1 := rfl
theorem kco_110 : kCo C 110 p1 p2 p3 = X0_letDaysGo_f C.1 C.2 p1 := rfl
theorem kco_111 : kCo C 111 p1 p2 p3 = ((X0_swearOath_f C.1 C.2).1, C.1, (X0_swearOath_f C.1 C.2).2) := rfl
theorem kco_115 : kCo C 115 p1 p2 p3 = X0_sellBag_f C.1 C.2 p1 := rfl
theorem kco_116 : kCo C 116 p1 p2 p3 = ((X0_setThumb_f C.1 C.2 p1).1, (X0_setThumb_f C.1 C.2 p1).2, C.2) := rfl
theorem kco_119 : kCo C 119 p1 p2 p3 = ((X0_weighBag_f C.1 C.2 p1).1, C.1, (X0_weighBag_f C.1 C.2 p1).2) := rfl
theorem kco_120 : kCo C 120 p1 p2 p3 = X0_sealWeight_f C.1 C.2 p1 := rfl
end KAP
/-- what a step answers and keeps -/
def kStep (D : Nat) (r : Int32 × kK) : Prop := kIn r.1 1000000 ∧ kRg (D + 100) r.2
theorem ks_tf {x : Nat → Int32} {P : Prop} (h : ((true, x) : Bool × (Nat → Int32)).1 = false) : P := absurd (show true = false from h) (by decide)
theorem ks_fill {v : Nat → Int32} {a : Nat → Nat → Int32} {R : Nat → Int32} {p1 p2 p3 : Int32} (h : (X3_ofFilling_f v a R kA0 p1 p2 p3).1 = false) : ¬ p3 < 1 ∧ p3 ≤ 400 ∧ p3 ≤ a 6 p2.toNatClampNeg ∧ p3 ≤ 400 - a 11 p1.toNatClampNeg := by
  unfold X3_ofFilling_f at h
  by_cases c1 : (X3_ofMissing_f R kA0 (X0_hasBag_f v a p1) p1).1 = true
  · rw [if_pos c1] at h; exact ks_tf h
  rw [if_neg c1] at h
  by_cases c2 : (X3_ofMissing_f ((X3_ofMissing_f R kA0 (X0_hasBag_f v a p1) p1).2) kA0 (X0_hasJar_f v a p2) p2).1 = true
  · rw [if_pos c2] at h; exact ks_tf h
  rw [if_neg c2] at h
  by_cases c3 : p3 < 1
  · rw [if_pos c3] at h; exact ks_tf h
  rw [if_neg c3] at h
  by_cases c4 : p3 ≤ 400
  · rw [if_pos c4] at h
    by_cases c5 : a 11 p1.toNatClampNeg ≤ 0
    · rw [if_pos c5] at h
      by_cases c6 : p3 ≤ a 6 p2.toNatClampNeg
      · rw [if_pos c6] at h
        by_cases c7 : p3 ≤ 400 - a 11 p1.toNatClampNeg
        · exact ⟨c3, c4, c6, c7⟩
        · rw [if_neg c7] at h; exact ks_tf h
      · rw [if_neg c6] at h; exact ks_tf h
    · rw [if_neg c5] at h
      by_cases c8 : (X3_ofOtherSpice_f v a ((X3_ofMissing_f ((X3_ofMissing_f R kA0 (X0_hasBag_f v a p1) p1).2) kA0 (X0_hasJar_f v a p2) p2).2) kA0 p1 p2).1 = true
      · rw [if_pos c8] at h; exact ks_tf h
      · rw [if_neg c8] at h
        by_cases c6 : p3 ≤ a 6 p2.toNatClampNeg
        · rw [if_pos c6] at h
          by_cases c7 : p3 ≤ 400 - a 11 p1.toNatClampNeg
          · exact ⟨c3, c4, c6, c7⟩
          · rw [if_neg c7] at h; exact ks_tf h
        · rw [if_neg c6] at h; exact ks_tf h
  · rw [if_neg c4] at h; exact ks_tf h
theorem ks_empty {v : Nat → Int32} {a : Nat → Nat → Int32} {R : Nat → Int32} {p1 p2 : Int32} (h : (X3_ofEmptying_f v a R kA0 p1 p2).1 = false) : a 11 p1.toNatClampNeg ≤ 900 - a 6 p2.toNatClampNeg := by
  unfold X3_ofEmptying_f at h
  by_cases c1 : (X3_ofMissing_f R kA0 (X0_hasBag_f v a p1) p1).1 = true
  · rw [if_pos c1] at h; exact ks_tf h
  rw [if_neg c1] at h
  by_cases c2 : (X3_ofMissing_f ((X3_ofMissing_f R kA0 (X0_hasBag_f v a p1) p1).2) kA0 (X0_hasJar_f v a p2) p2).1 = true
  · rw [if_pos c2] at h; exact ks_tf h
  rw [if_neg c2] at h
  by_cases c3 : a 11 p1.toNatClampNeg = 0
  · rw [if_pos c3] at h; exact ks_tf h
  rw [if_neg c3] at h
  by_cases c8 : (X3_ofOtherSpice_f v a ((X3_ofMissing_f ((X3_ofMissing_f R kA0 (X0_hasBag_f v a p1) p1).2) kA0 (X0_hasJar_f v a p2) p2).2) kA0 p1 p2).1 = true
  · rw [if_pos c8] at h; exact ks_tf h
  rw [if_neg c8] at h
  by_cases c9 : a 11 p1.toNatClampNeg ≤ 900 - a 6 p2.toNatClampNeg
  · exact c9
  · rw [if_neg c9] at h; exact ks_tf h
theorem ks_sell {v : Nat → Int32} {a : Nat → Nat → Int32} {R : Nat → Int32} {p1 : Int32} (h : (X3_ofSelling_f v a R kA0 p1).1 = false) : a 11 p1.toNatClampNeg ≠ 0 := by
  unfold X3_ofSelling_f at h
  by_cases c1 : (X3_ofMissing_f R kA0 (X0_hasBag_f v a p1) p1).1 = true
  · rw [if_pos c1] at h; exact ks_tf h
  rw [if_neg c1] at h
  by_cases c3 : a 11 p1.toNatClampNeg = 0
  · rw [if_pos c3] at h; exact ks_tf h
  · exact c3
theorem ks_thumb {v : Nat → Int32} {a : Nat → Nat → Int32} {R : Nat → Int32} {p1 : Int32} (h : (X3_ofThumb_f v a R kA0 p1).1 = false) : ¬ p1 < 0 ∧ p1 ≤ 30 := by
  unfold X3_ofThumb_f at h
  by_cases c1 : p1 < 0
  · rw [if_pos c1] at h; exact ks_tf h
  rw [if_neg c1] at h
  by_cases c2 : p1 ≤ 30
  · exact ⟨c1, c2⟩
  · rw [if_neg c2] at h; exact ks_tf h
theorem ks_jar {v : Nat → Int32} {a : Nat → Nat → Int32} {R : Nat → Int32} {p1 p2 : Int32} (h : (X3_ofJar_f v a R kA0 p1 p2).1 = false) : X4_isSpice_f p1 = true ∧ ¬ p2 < 0 ∧ p2 ≤ 900 := by
  unfold X3_ofJar_f at h
  by_cases c1 : X4_isSpice_f p1 = true
  · rw [if_pos c1] at h
    by_cases c2 : p2 < 0
    · rw [if_pos c2] at h; exact ks_tf h
    rw [if_neg c2] at h
    by_cases c3 : p2 ≤ 900
    · exact ⟨c1, c2, c3⟩
    · rw [if_neg c3] at h; exact ks_tf h
  · rw [if_neg c1] at h; exact ks_tf h
theorem ks_bag {v : Nat → Int32} {a : Nat → Nat → Int32} {R : Nat → Int32} {p1 : Int32} (h : (X3_ofBag_f v a R kA0 p1).1 = false) : ¬ p1 < 5 ∧ p1 ≤ 50 := by
  unfold X3_ofBag_f at h
  by_cases c1 : p1 < 5
  · rw [if_pos c1] at h; exact ks_tf h
  rw [if_neg c1] at h
  by_cases c2 : p1 ≤ 50
  · exact ⟨c1, c2⟩
  · rw [if_neg c2] at h; exact ks_tf h
theorem ks_days {R : Nat → Int32} {p1 : Int32} {x : Bool × (Nat → Int32)} (e : x = (if p1 < 1 then (true, upd (upd (upd R 0 1) 1 0) 2 0) else if p1 ≤ 60 then (false, R) else (true, upd (upd (upd R 0 1) 1 0) 2 0))) (h : x.1 = false) : ¬ p1 < 1 ∧ p1 ≤ 60 := by
  subst e
  by_cases c1 : p1 < 1
  · rw [if_pos c1] at h; exact ks_tf h
  rw [if_neg c1] at h
  by_cases c2 : p1 ≤ 60
  · exact ⟨c1, c2⟩
  · rw [if_neg c2] at h; exact ks_tf h
theorem ks_spice {p : Int32} (h : X4_isSpice_f p = true) : kIn p 4 := by
  unfold X4_isSpice_f at h
  by_cases c1 : p < 0
  · rw [if_pos c1] at h; cases h
  rw [if_neg c1] at h
  by_cases c2 : 5 ≤ p
  · rw [if_pos c2] at h; cases h
  obtain ⟨k, hk, rfl⟩ := nI_of c1
  refine ⟨k, ?_, rfl⟩
  rcases Nat.lt_or_ge k 5 with h5 | h5
  · omega
  · exact absurd ((nI_leI (a := 5) (by omega) hk).mpr h5) c2
/-! sums, dust, days -/
theorem ks_sum_lp {f : Nat → Int32} {M : Nat} (hM : M ≤ 900) (hf : ∀ b, b < 6 → kIn (f b) M) {p1 : Int32} : ∀ (n j : Nat) (x : Int32), j ≤ 6 → kIn x (M * j) → kIn (X4_sumOf_lp4 6 f p1 n x (nI j)) (M * 6)
  | 0, _, _, _, _ => ⟨0, Nat.zero_le _, rfl⟩
  | n + 1, j, x, hj, hx => by
    show kIn (X4_sumOf_lp4b 6 f p1 (X4_sumOf_lp4 6 f p1 n) x (nI j)) (M * 6)
    unfold X4_sumOf_lp4b
    have hM6 : M * j ≤ M * 6 := Nat.mul_le_mul_left M hj
    by_cases c1 : p1 ≤ nI j
    · rw [if_pos c1]; exact hx.mono hM6
    rw [if_neg c1]
    by_cases c2 : Int32.ofNat 6 ≤ nI j
    · rw [if_pos c2]; exact hx.mono hM6
    rw [if_neg c2]
    have hj6 : j < 6 := by
      rcases Nat.lt_or_ge j 6 with h | h
      · exact h
      · exact absurd ((nI_leI (a := 6) (by omega) (by omega)).mpr h) c2
    obtain ⟨k, hk, rfl⟩ := hx
    obtain ⟨y, hy, he⟩ := hf j hj6
    rw [nI_clamp (by omega), he, nI_add, nI_1]
    exact ks_sum_lp hM hf n (j + 1) _ (by omega) ⟨k + y, by rw [Nat.mul_succ]; omega, rfl⟩
theorem ks_sum {f : Nat → Int32} {M : Nat} (hM : M ≤ 900) (hf : ∀ b, b < 6 → kIn (f b) M) {p1 : Int32} : kIn (X4_sumOf_f 6 f p1) (M * 6) := ks_sum_lp hM hf 7 0 0 (by omega) ⟨0, Nat.zero_le _, rfl⟩
theorem ks_days_lp {v : Nat → Int32} {a0 : Nat → Nat → Int32} {k nb : Nat} (hk : k ≤ 60) (hnb : nb ≤ 6) (e7 : v 7 = nI nb) : ∀ (n j : Nat) (a : Nat → Nat → Int32), j ≤ nb → j + n = 7 → (∀ b, b < 6 → kIn (a 9 b) 20) → (∀ s, s ≠ 9 → a s = a0 s) →
    kIn (X0_letDaysGo_lp12 v a0 (nI k) n (nI j) a).1 120 ∧ (X0_letDaysGo_lp12 v a0 (nI k) n (nI j) a).2.1 = upd v 0 (v 0 + nI k) ∧ (∀ b, b < 6 → kIn ((X0_letDaysGo_lp12 v a0 (nI k) n (nI j) a).2.2 9 b) 20) ∧ ∀ s, s ≠ 9 → (X0_letDaysGo_lp12 v a0 (nI k) n (nI j) a).2.2 s = a0 s
  | 0, j, a, hj, hn, h1, h2 => absurd hn (by omega)
  | n + 1, j, a, hj, hn, h1, h2 => by
    by_cases c1 : v 7 ≤ nI j
    · have e : X0_letDaysGo_lp12 v a0 (nI k) (n + 1) (nI j) a = (X0_dustTogether_f (upd v 0 (v 0 + nI k)) a, upd v 0 (v 0 + nI k), a) := if_pos c1
      rw [e]
      exact ⟨ks_sum (M := 20) (by omega) h1, rfl, h1, h2⟩
    · have e : X0_letDaysGo_lp12 v a0 (nI k) (n + 1) (nI j) a = X0_letDaysGo_lp12 v a0 (nI k) n (nI j + 1) (va_up a 9 (upd (a 9) (nI j).toNatClampNeg (if (a 9) (nI j).toNatClampNeg + nI k < 20 then (a 9) (nI j).toNatClampNeg + nI k else 20))) := if_neg c1
      have hj2 : j < nb := by
        rcases Nat.lt_or_ge j nb with h | h
        · exact h
        · rw [e7] at c1
          exact absurd ((nI_leI (by omega) (by omega)).mpr h) c1
      rw [e, nI_1]
      refine ks_days_lp hk hnb e7 n (j + 1) _ (by omega) (by omega) (fun b hb => ?_) (fun s hs => (va_up_ne _ _ hs).trans (h2 s hs))
      rw [va_up_self]
      refine kIn_upd (P := fun x => kIn x 20) ?_ (h1 b hb)
      obtain ⟨d, hd, e9⟩ := h1 j (by omega)
      rw [nI_clamp (by omega), e9, nI_add]
      by_cases c2 : nI (d + k) < 20
      · rw [if_pos c2]
        exact ⟨d + k, Nat.le_of_lt ((nI_ltI (b := 20) (by omega) (by omega)).mp c2), rfl⟩
      · rw [if_neg c2]
        exact ⟨20, Nat.le_refl _, rfl⟩
theorem nI_sub {a b : Nat} (h : b ≤ a) : nI a - nI b = nI (a - b) := by
  rw [show nI a = nI (a - b) + nI b by rw [nI_add, Nat.sub_add_cancel h]]
  exact Int32.add_sub_cancel _ _
theorem kIn.add {x y : Int32} {n m : Nat} (h1 : kIn x n) (h2 : kIn y m) : kIn (x + y) (n + m) := by
  obtain ⟨a, ha, rfl⟩ := h1
  obtain ⟨b, hb, rfl⟩ := h2
  exact ⟨a + b, by omega, nI_add a b⟩
theorem kIn.div8 {x : Int32} {n : Nat} (h1 : kIn x n) (hn : n < 2 ^ 31) : kIn (x / 8) n := by
  obtain ⟨a, ha, rfl⟩ := h1
  refine ⟨a / 8, by omega, ?_⟩
  apply Int32.toInt_inj.mp
  rw [Int32.toInt_div, nI_toInt (by omega), nI_toInt (by omega), show (8 : Int32).toInt = 8 from rfl]
  have : (a : Int).tdiv 8 = ((a / 8 : Nat) : Int) := by rw [Int.tdiv_eq_ediv_of_nonneg (by omega)]; rfl
  rw [this]
  exact Int.bmod_eq_of_le (by omega) (by omega)
theorem kRg_days {D : Nat} {C : kK} {k : Nat} (hk : k ≤ 60) (hC : kRg D C) : kIn (X0_letDaysGo_f C.1 C.2 (nI k)).1 120 ∧ (X0_letDaysGo_f C.1 C.2 (nI k)).2.1 = upd C.1 0 (C.1 0 + nI k) ∧ kRg (D + 60) (X0_letDaysGo_f C.1 C.2 (nI k)).2 := by
  obtain ⟨⟨⟨nb, hnb, e7⟩, h4, h1, h3, h0⟩, hJ, hB, hW⟩ := hC
  obtain ⟨r1, r2, r3, r4⟩ := ks_days_lp (a0 := C.2) hk hnb e7 7 0 C.2 (Nat.zero_le _) (by omega) (fun b hb => (hB b hb).2.1) (fun _ _ => rfl)
  have r1 : kIn (X0_letDaysGo_f C.1 C.2 (nI k)).1 120 := r1
  have r2 : (X0_letDaysGo_f C.1 C.2 (nI k)).2.1 = upd C.1 0 (C.1 0 + nI k) := r2
  have r3 : ∀ b, b < 6 → kIn ((X0_letDaysGo_f C.1 C.2 (nI k)).2.2 9 b) 20 := r3
  have r4 : ∀ s, s ≠ 9 → (X0_letDaysGo_f C.1 C.2 (nI k)).2.2 s = C.2 s := r4
  refine ⟨r1, r2, ⟨?_, fun j hj => ?_, fun b hb => ?_, fun w hw => ?_⟩⟩
  · rw [r2]
    exact ⟨⟨nb, hnb, e7⟩, h4, h1, h3, h0.add ⟨k, hk, rfl⟩⟩
  · rw [r4 6 (by decide), r4 5 (by decide)]
    exact hJ j hj
  · rw [r4 8 (by decide), r4 11 (by decide), r4 10 (by decide)]
    exact ⟨(hB b hb).1, r3 b hb, (hB b hb).2.2⟩
  · rw [r4 13 (by decide)]
    exact (hW w hw).mono (by omega)
theorem ks_weigh_lp {v : Nat → Int32} {a0 : Nat → Nat → Int32} {p w0 : Int32} {D : Nat} : ∀ (n j : Nat) (a : Nat → Nat → Int32), j ≤ 8 → j + n = 9 → (∀ w, w < 8 → kIn (a 13 w) (D + 1) ∧ (j ≤ w → kIn (a 13 w) D)) → (∀ s, s ≠ 12 → s ≠ 13 → a s = a0 s) →
    (X0_weighBag_lp12 v a0 p n w0 (nI j) a).1 = nI (kTold w0) ∧ (∀ w, w < 8 → kIn ((X0_weighBag_lp12 v a0 p n w0 (nI j) a).2 13 w) (D + 1)) ∧ ∀ s, s ≠ 12 → s ≠ 13 → (X0_weighBag_lp12 v a0 p n w0 (nI j) a).2 s = a0 s
  | 0, j, a, hj, hn, h1, h2 => absurd hn (by omega)
  | n + 1, j, a, hj, hn, h1, h2 => by
    by_cases c1 : (8 : Int32) ≤ nI j
    · have e : X0_weighBag_lp12 v a0 p (n + 1) w0 (nI j) a = (X4_toldBy_f w0, va_up a 12 (upd (a 12) p.toNatClampNeg ((a 12) p.toNatClampNeg + 1))) := if_pos c1
      rw [e]
      refine ⟨kTold_eq w0, fun w hw => ?_, fun s hs h13 => (va_up_ne _ _ hs).trans (h2 s hs h13)⟩
      show kIn ((va_up a 12 (upd (a 12) p.toNatClampNeg (a 12 p.toNatClampNeg + 1))) 13 w) (D + 1)
      rw [va_up_ne (j := 13) _ _ (by decide)]
      exact (h1 w hw).1
    have hj2 : j < 8 := by
      rcases Nat.lt_or_ge j 8 with h | h
      · exact h
      · exact absurd ((nI_leI (a := 8) (by omega) (by omega)).mpr h) c1
    by_cases c2 : X4_isAmong_f (nI j) w0 = true
    · have e : X0_weighBag_lp12 v a0 p (n + 1) w0 (nI j) a = X0_weighBag_lp12 v a0 p n w0 (nI j + 1) (va_up a 13 (upd (a 13) (nI j).toNatClampNeg ((a 13) (nI j).toNatClampNeg + 1))) := (if_neg c1).trans (if_pos c2)
      rw [e, nI_1, nI_clamp (by omega)]
      refine ks_weigh_lp n (j + 1) _ (by omega) (by omega) (fun w hw => ?_) (fun s hs h13 => (va_up_ne _ _ h13).trans (h2 s hs h13))
      rw [va_up_self]
      unfold upd
      by_cases c3 : w = j
      · rw [if_pos c3]
        subst c3
        exact ⟨((h1 w hw).2 (Nat.le_refl _)).add ⟨1, Nat.le_refl _, rfl⟩, fun hh => absurd hh (by omega)⟩
      · rw [if_neg c3]
        exact ⟨(h1 w hw).1, fun hh => (h1 w hw).2 (by omega)⟩
    · have e : X0_weighBag_lp12 v a0 p (n + 1) w0 (nI j) a = X0_weighBag_lp12 v a0 p n w0 (nI j + 1) a := (if_neg c1).trans (if_neg c2)
      rw [e, nI_1]
      exact ks_weigh_lp n (j + 1) _ (by omega) (by omega) (fun w hw => ⟨(h1 w hw).1, fun hh => (h1 w hw).2 (by omega)⟩) h2
theorem kRg_weigh {D : Nat} {C : kK} {p : Int32} (hC : kRg D C) : ∃ t, t ≤ 388 ∧ (X0_weighBag_f C.1 C.2 p).1 = nI t ∧ kRg (D + 1) (C.1, (X0_weighBag_f C.1 C.2 p).2) := by
  obtain ⟨⟨h7, h4, h1, h3, h0⟩, hJ, hB, hW⟩ := hC
  obtain ⟨r1, r2, r4⟩ := ks_weigh_lp (v := C.1) (a0 := C.2) (p := p) (w0 := X0_weightsFor_f C.1 C.2 (X0_loadOf_f C.1 C.2 p)) (D := D) 9 0 C.2 (by omega) (by omega) (fun w hw => ⟨(hW w hw).mono (by omega), fun _ => hW w hw⟩) (fun _ _ _ => rfl)
  have r1 : (X0_weighBag_f C.1 C.2 p).1 = _ := r1
  have r2 : ∀ w, w < 8 → kIn ((X0_weighBag_f C.1 C.2 p).2 13 w) (D + 1) := r2
  have r4 : ∀ s, s ≠ 12 → s ≠ 13 → (X0_weighBag_f C.1 C.2 p).2 s = C.2 s := r4
  refine ⟨_, kTold_le _, r1, ⟨⟨h7, h4, h1, h3, h0.mono (by omega)⟩, fun j hj => ?_, fun b hb => ?_, r2⟩⟩
  · show kIn ((X0_weighBag_f C.1 C.2 p).2 6 j) 900 ∧ kIn ((X0_weighBag_f C.1 C.2 p).2 5 j) 4
    rw [r4 6 (by decide) (by decide), r4 5 (by decide) (by decide)]
    exact hJ j hj
  · show kIn ((X0_weighBag_f C.1 C.2 p).2 8 b) 50 ∧ kIn ((X0_weighBag_f C.1 C.2 p).2 9 b) 20 ∧ kIn ((X0_weighBag_f C.1 C.2 p).2 11 b) 400 ∧ ((X0_weighBag_f C.1 C.2 p).2 11 b ≠ 0 → kIn ((X0_weighBag_f C.1 C.2 p).2 10 b) 4)
    rw [r4 8 (by decide) (by decide), r4 9 (by decide) (by decide), r4 11 (by decide) (by decide), r4 10 (by decide) (by decide)]
    exact hB b hb
theorem ks_price : ∀ m, m < 4 → ∀ s, s < 5 → ∃ k, k < 9 ∧ X4_priceOf_f (nI m) (nI s) = nI k := by decide +kernel
theorem ks_coin : ∀ p, p < 9 → ∀ k, k < 389 → (0 ≤ (nI p * nI k) / 10 ∧ (nI p * nI k) / 10 ≤ 400) ∧ 0 ≤ (nI p * nI k) / 10 + (nI p * nI k) / 10 / 10 ∧ (nI p * nI k) / 10 + (nI p * nI k) / 10 / 10 ≤ 400 := by decide +kernel
theorem kIn_of {x : Int32} {n : Nat} (h0 : 0 ≤ x) (h1 : x ≤ nI n) (hn : n < 2 ^ 31) : kIn x n := by
  obtain ⟨k, -, h2, h3⟩ := kIn_rng (lo := 0) (hi := n) (fun z => Int32.not_le.mpr z h0) h1 hn (by omega)
  exact ⟨k, h2, h3⟩
theorem ks_coins {v : Nat → Int32} {a : Nat → Nat → Int32} {p : Int32} {m s t b : Nat} (hm : m < 4) (hs : s < 5) (ht : t ≤ 388) (hb : b ≤ 50) (e : a 10 p.toNatClampNeg = nI s) : kIn (X0_coinsFor_f v a p (nI m) (nI t - nI b)) 400 := by
  unfold X0_coinsFor_f
  by_cases c : 0 < nI t - nI b
  · rw [if_pos c, e]
    have hbt : b ≤ t := by
      rcases Nat.lt_or_ge t b with h | h
      · refine absurd c ?_
        rw [Int32.lt_iff_toInt_lt, Int32.toInt_sub, nI_toInt (by omega), nI_toInt (by omega), Int32.toInt_zero, Int.bmod_eq_of_le (by omega) (by omega)]
        omega
      · exact h
    rw [nI_sub hbt]
    obtain ⟨k, hk, ek⟩ := ks_price m hm s hs
    rw [ek]
    obtain ⟨⟨h1, h2⟩, h3, h4⟩ := ks_coin k hk (t - b) (by omega)
    split
    · exact kIn_of h3 h4 (by omega)
    · exact kIn_of h1 h2 (by omega)
  · rw [if_neg c]
    exact ⟨0, Nat.zero_le _, rfl⟩
theorem ks_dist : ∀ m, m < 4 → ∀ n, n < 4 → ∃ k, k < 13 ∧ (if 0 ≤ (k_tab 0 n - k_tab 0 m) then (k_tab 0 n - k_tab 0 m) else 0 - (k_tab 0 n - k_tab 0 m)) = nI k := by decide +kernel
theorem ks_short {a : Nat → Nat → Int32} {v : Nat → Int32} {w D : Nat} (hw : w < 8) (hD : D < 2 ^ 31) (h : kIn (a 13 w) D) : kIn (X0_shortnessOf_f v a (nI w)) (D + 20) := by
  unfold X0_shortnessOf_f
  rw [nI_clamp (by omega)]
  split
  · have : ∀ w, w < 8 → ∃ k, k < 21 ∧ k_tab 3 w = nI k := by decide +kernel
    obtain ⟨k, hk, e⟩ := this w hw
    exact ⟨k, by omega, e⟩
  · exact (h.div8 hD).mono (by omega)
/-! the twelve -/
theorem kSt_66 {D : Nat} {C : kK} {R : Nat → Int32} {p1 p2 p3 : Int32} (hC : kRg D C) (hk : vp_in (C.1 7) 6) (h : (kAp C R 66 p1 p2 p3).1 = false) : kStep D (kCo C 66 p1 p2 p3) := by
  rw [kap_66] at h
  rw [kco_66]
  obtain ⟨c1, c2⟩ := ks_bag h
  obtain ⟨j, hj, ej⟩ := vp_in_of hk (by omega)
  obtain ⟨t, -, ht, rfl⟩ := kIn_rng (lo := 5) (hi := 50) c1 c2 (by omega) (by omega)
  obtain ⟨⟨h7, h4, h1, h3, h0⟩, hJ, hB, hW⟩ := hC
  refine ⟨?_, ⟨⟨?_, h4, h1, h3, h0.mono (by omega)⟩, hJ, fun b hb => ?_, fun w hw => (hW w hw).mono (by omega)⟩⟩
  · show kIn (C.1 7 + 1 - 1) _
    rw [ej, nI_1, nI_pred]
    exact ⟨j, by omega, rfl⟩
  · show kIn (C.1 7 + 1) 6
    rw [ej, nI_1]
    exact ⟨j + 1, by omega, rfl⟩
  · show kIn (upd (C.2 8) (C.1 7).toNatClampNeg (nI t) b) 50 ∧ kIn (upd (C.2 9) (C.1 7).toNatClampNeg 0 b) 20 ∧ kIn (upd (C.2 11) (C.1 7).toNatClampNeg 0 b) 400 ∧ (upd (C.2 11) (C.1 7).toNatClampNeg 0 b ≠ 0 → kIn (upd (C.2 10) (C.1 7).toNatClampNeg (-1) b) 4)
    unfold upd
    by_cases c : b = (C.1 7).toNatClampNeg
    · rw [if_pos c, if_pos c, if_pos c, if_pos c]
      exact ⟨⟨t, ht, rfl⟩, ⟨0, by omega, rfl⟩, ⟨0, by omega, rfl⟩, fun z => absurd rfl z⟩
    · rw [if_neg c, if_neg c, if_neg c, if_neg c]
      exact hB b hb
theorem kSt_74 {D : Nat} {C : kK} {R : Nat → Int32} {p1 p2 p3 : Int32} (hC : kRg D C) (hk : vp_in (C.1 4) 6) (h : (kAp C R 74 p1 p2 p3).1 = false) : kStep D (kCo C 74 p1 p2 p3) := by
  rw [kap_74] at h
  rw [kco_74]
  obtain ⟨c0, c1, c2⟩ := ks_jar h
  obtain ⟨j, hj, ej⟩ := vp_in_of hk (by omega)
  obtain ⟨t, -, ht, rfl⟩ := kIn_rng (lo := 0) (hi := 900) c1 c2 (by omega) (by omega)
  obtain ⟨⟨h7, h4, h1, h3, h0⟩, hJ, hB, hW⟩ := hC
  refine ⟨?_, ⟨⟨h7, ?_, h1, h3, h0.mono (by omega)⟩, fun b hb => ?_, hB, fun w hw => (hW w hw).mono (by omega)⟩⟩
  · show kIn (C.1 4 + 1 - 1) _
    rw [ej, nI_1, nI_pred]
    exact ⟨j, by omega, rfl⟩
  · show kIn (C.1 4 + 1) 6
    rw [ej, nI_1]
    exact ⟨j + 1, by omega, rfl⟩
  · show kIn (upd (C.2 6) (C.1 4).toNatClampNeg (nI t) b) 900 ∧ kIn (upd (C.2 5) (C.1 4).toNatClampNeg p1 b) 4
    exact ⟨kIn_upd (P := fun x => kIn x 900) ⟨t, ht, rfl⟩ (hJ b hb).1, kIn_upd (P := fun x => kIn x 4) (ks_spice c0) (hJ b hb).2⟩
theorem kSt_98 {D : Nat} {C : kK} {p1 p2 p3 : Int32} (hC : kRg D C) (hk : vp_in p1 6) : kStep D (kCo C 98 p1 p2 p3) := by
  rw [kco_98]
  obtain ⟨j, hj, rfl⟩ := vp_in_of hk (by omega)
  obtain ⟨⟨h7, h4, h1, h3, h0⟩, hJ, hB, hW⟩ := hC
  refine ⟨?_, ⟨⟨h7, h4, h1, h3, h0.mono (by omega)⟩, hJ, fun b hb => ?_, fun w hw => (hW w hw).mono (by omega)⟩⟩
  · show kIn (C.2 9 (nI j).toNatClampNeg) _
    rw [nI_clamp (by omega)]
    exact (hB j hj).2.1.mono (by omega)
  · exact ⟨(hB b hb).1, kIn_upd (P := fun x => kIn x 20) ⟨0, by omega, rfl⟩ (hB b hb).2.1, (hB b hb).2.2⟩
theorem kSt_101 {D : Nat} {C : kK} {R : Nat → Int32} {p1 p2 p3 : Int32} (hC : kRg D C) (hk : vp_in p1 6 ∧ vp_in p2 6) (h : (kAp C R 101 p1 p2 p3).1 = false) : kStep D (kCo C 101 p1 p2 p3) := by
  rw [kap_101] at h
  rw [kco_101]
  have hc := ks_empty h
  obtain ⟨i, hi, rfl⟩ := vp_in_of hk.1 (by omega)
  obtain ⟨j, hj, rfl⟩ := vp_in_of hk.2 (by omega)
  obtain ⟨⟨h7, h4, h1, h3, h0⟩, hJ, hB, hW⟩ := hC
  rw [nI_clamp (by omega), nI_clamp (by omega)] at hc
  obtain ⟨x, hx, ex⟩ := (hJ j hj).1
  obtain ⟨y, hy, ey⟩ := (hB i hi).2.2.1
  rw [ex, ey, show (900 : Int32) = nI 900 from rfl, nI_sub hx] at hc
  have hxy : y ≤ 900 - x := (nI_leI (by omega) (by omega)).mp hc
  refine ⟨?_, ⟨⟨h7, h4, h1, h3, h0.mono (by omega)⟩, fun b hb => ?_, fun b hb => ?_, fun w hw => (hW w hw).mono (by omega)⟩⟩
  · show kIn (upd (C.2 6) (nI j).toNatClampNeg (C.2 6 (nI j).toNatClampNeg + C.2 11 (nI i).toNatClampNeg) (nI j).toNatClampNeg) _
    rw [nI_clamp (by omega), nI_clamp (by omega), ex, ey, nI_add]
    exact kIn_upd (P := fun x => kIn x 1000000) ⟨x + y, by omega, rfl⟩ ((hJ j hj).1.mono (by omega))
  · show kIn (upd (C.2 6) (nI j).toNatClampNeg (C.2 6 (nI j).toNatClampNeg + C.2 11 (nI i).toNatClampNeg) b) 900 ∧ kIn (C.2 5 b) 4
    rw [nI_clamp (by omega), nI_clamp (by omega), ex, ey, nI_add]
    exact ⟨kIn_upd (P := fun x => kIn x 900) ⟨x + y, by omega, rfl⟩ (hJ b hb).1, (hJ b hb).2⟩
  · show kIn (C.2 8 b) 50 ∧ kIn (C.2 9 b) 20 ∧ kIn (upd (C.2 11) (nI i).toNatClampNeg 0 b) 400 ∧ (upd (C.2 11) (nI i).toNatClampNeg 0 b ≠ 0 → kIn (upd (C.2 10) (nI i).toNatClampNeg (-1) b) 4)
    refine ⟨(hB b hb).1, (hB b hb).2.1, ?_⟩
    unfold upd
    by_cases c : b = (nI i).toNatClampNeg
    · rw [if_pos c, if_pos c]
      exact ⟨⟨0, by omega, rfl⟩, fun z => absurd rfl z⟩
    · rw [if_neg c, if_neg c]
      exact (hB b hb).2.2
theorem kSt_102 {D : Nat} {C : kK} {R : Nat → Int32} {p1 p2 p3 : Int32} (hC : kRg D C) (hk : vp_in p1 6 ∧ vp_in p2 6) (h : (kAp C R 102 p1 p2 p3).1 = false) : kStep D (kCo C 102 p1 p2 p3) := by
  rw [kap_102] at h
  rw [kco_102]
  obtain ⟨c1, c2, c3, c4⟩ := ks_fill h
  obtain ⟨t, -, ht, rfl⟩ := kIn_rng (lo := 1) (hi := 400) c1 c2 (by omega) (by omega)
  obtain ⟨i, hi, rfl⟩ := vp_in_of hk.1 (by omega)
  obtain ⟨j, hj, rfl⟩ := vp_in_of hk.2 (by omega)
  obtain ⟨⟨h7, h4, h1, h3, h0⟩, hJ, hB, hW⟩ := hC
  rw [nI_clamp (by omega)] at c3 c4
  obtain ⟨x, hx, ex⟩ := (hJ j hj).1
  obtain ⟨y, hy, ey⟩ := (hB i hi).2.2.1
  rw [ex] at c3
  rw [ey, show (400 : Int32) = nI 400 from rfl, nI_sub hy] at c4
  have h3' : t ≤ x := (nI_leI (by omega) (by omega)).mp c3
  have h4' : t ≤ 400 - y := (nI_leI (by omega) (by omega)).mp c4
  refine ⟨?_, ⟨⟨h7, h4, h1, h3, h0.mono (by omega)⟩, fun b hb => ?_, fun b hb => ?_, fun w hw => (hW w hw).mono (by omega)⟩⟩
  · show kIn (upd (C.2 11) (nI i).toNatClampNeg (C.2 11 (nI i).toNatClampNeg + nI t) (nI i).toNatClampNeg) _
    rw [nI_clamp (by omega), ey, nI_add]
    exact kIn_upd (P := fun x => kIn x 1000000) ⟨y + t, by omega, rfl⟩ ((hB i hi).2.2.1.mono (by omega))
  · show kIn (upd (C.2 6) (nI j).toNatClampNeg (C.2 6 (nI j).toNatClampNeg - nI t) b) 900 ∧ kIn (C.2 5 b) 4
    rw [nI_clamp (by omega), ex, nI_sub h3']
    exact ⟨kIn_upd (P := fun x => kIn x 900) ⟨x - t, by omega, rfl⟩ (hJ b hb).1, (hJ b hb).2⟩
  · show kIn (C.2 8 b) 50 ∧ kIn (C.2 9 b) 20 ∧ kIn (upd (C.2 11) (nI i).toNatClampNeg (C.2 11 (nI i).toNatClampNeg + nI t) b) 400 ∧ (upd (C.2 11) (nI i).toNatClampNeg (C.2 11 (nI i).toNatClampNeg + nI t) b ≠ 0 → kIn (upd (C.2 10) (nI i).toNatClampNeg (C.2 5 (nI j).toNatClampNeg) b) 4)
    rw [nI_clamp (by omega), nI_clamp (by omega), ey, nI_add]
    refine ⟨(hB b hb).1, (hB b hb).2.1, ?_⟩
    unfold upd
    by_cases c : b = i
    · rw [if_pos c, if_pos c]
      exact ⟨⟨y + t, by omega, rfl⟩, fun _ => (hJ j hj).2⟩
    · rw [if_neg c, if_neg c]
      exact (hB b hb).2.2
theorem kSt_110 {D : Nat} {C : kK} {R : Nat → Int32} {p1 p2 p3 : Int32} (hC : kRg D C) (h : (kAp C R 110 p1 p2 p3).1 = false) : kStep D (kCo C 110 p1 p2 p3) := by
  rw [kco_110]
  obtain ⟨c1, c2⟩ := ks_days (kap_110 (C := C) (R := R) (p1 := p1) (p2 := p2) (p3 := p3)) h
  obtain ⟨t, -, ht, rfl⟩ := kIn_rng (lo := 1) (hi := 60) c1 c2 (by omega) (by omega)
  obtain ⟨r1, -, r3⟩ := kRg_days ht hC
  exact ⟨r1.mono (by omega), r3.mono (by omega)⟩
theorem kSt_103 {D : Nat} (hD : D ≤ 900000) {C : kK} {p1 p2 p3 : Int32} (hC : kRg D C) (hk : vp_in p1 4) : kStep D (kCo C 103 p1 p2 p3) := by
  rw [kco_103]
  obtain ⟨i, hi, rfl⟩ := vp_in_of hk (by omega)
  obtain ⟨m, hm, em⟩ := hC.1.2.2.1
  obtain ⟨t, ht, et⟩ := ks_dist m (by omega) i hi
  have ed : X0_distanceTo_f C.1 C.2 (nI i) = nI t := by
    unfold X0_distanceTo_f
    rw [em, nI_clamp (by omega), nI_clamp (by omega)]
    exact et
  obtain ⟨-, r2, r3⟩ := kRg_days (k := t) (by omega) hC
  obtain ⟨⟨h7, h4, h1, h3, h0⟩, hJ, hB, hW⟩ := r3
  have hx : kIn ((X0_letDaysGo_f C.1 C.2 (nI t)).2.1 0) (D + 60) := h0
  unfold X0_travelTo_f
  rw [ed]
  split
  · exact ⟨hx.mono (by omega), ⟨⟨h7, h4, ⟨i, by omega, rfl⟩, ⟨0, by omega, rfl⟩, hx.mono (by omega)⟩, hJ, hB, fun w hw => (hW w hw).mono (by omega)⟩⟩
  · exact ⟨hx.mono (by omega), ⟨⟨h7, h4, ⟨i, by omega, rfl⟩, h3, hx.mono (by omega)⟩, hJ, hB, fun w hw => (hW w hw).mono (by omega)⟩⟩
theorem kSt_111 {D : Nat} (hD : D ≤ 900000) {C : kK} {p1 p2 p3 : Int32} (hC : kRg D C) : kStep D (kCo C 111 p1 p2 p3) := by
  rw [kco_111]
  obtain ⟨⟨h7, h4, h1, h3, h0⟩, hJ, hB, hW⟩ := hC
  obtain ⟨d, hd, e0⟩ := h0
  refine ⟨?_, ⟨⟨h7, h4, h1, h3, ⟨d, by omega, e0⟩⟩, hJ, hB, fun w hw => (hW w hw).mono (by omega)⟩⟩
  show kIn (upd (C.2 14) (C.1 1).toNatClampNeg (C.1 0 + 20 - 1) (C.1 1).toNatClampNeg) _
  rw [upd, if_pos rfl, e0, show (20 : Int32) = nI 20 from rfl, nI_add, show d + 20 = (d + 19) + 1 from rfl, nI_pred]
  exact ⟨d + 19, by omega, rfl⟩
theorem kSt_115 {D : Nat} {C : kK} {R : Nat → Int32} {p1 p2 p3 : Int32} (hC : kRg D C) (hk : vp_in p1 6) (h : (kAp C R 115 p1 p2 p3).1 = false) : kStep D (kCo C 115 p1 p2 p3) := by
  rw [kap_115] at h
  rw [kco_115]
  have hne := ks_sell h
  obtain ⟨i, hi, rfl⟩ := vp_in_of hk (by omega)
  rw [nI_clamp (by omega)] at hne
  obtain ⟨s, hs, es⟩ := (hC.2.2.1 i hi).2.2.2 hne
  obtain ⟨t, ht, e1, r⟩ := kRg_weigh (p := nI i) hC
  have hs2 : (X0_weighBag_f C.1 C.2 (nI i)).2 10 = C.2 10 := (ks_weigh_lp (v := C.1) (a0 := C.2) (p := nI i) (w0 := X0_weightsFor_f C.1 C.2 (X0_loadOf_f C.1 C.2 (nI i))) (D := D) 9 0 C.2 (by omega) (by omega) (fun w hw => ⟨(hC.2.2.2 w hw).mono (by omega), fun _ => hC.2.2.2 w hw⟩) (fun _ _ _ => rfl)).2.2 10 (by decide) (by decide)
  obtain ⟨⟨h7, h4, h1, h3, h0⟩, hJ, hB, hW⟩ := r
  obtain ⟨m, hm, em⟩ := hC.1.2.2.1
  have hJ : ∀ j, j < 6 → kIn ((X0_weighBag_f C.1 C.2 (nI i)).2 6 j) 900 ∧ kIn ((X0_weighBag_f C.1 C.2 (nI i)).2 5 j) 4 := hJ
  have hB : ∀ b, b < 6 → kIn ((X0_weighBag_f C.1 C.2 (nI i)).2 8 b) 50 ∧ kIn ((X0_weighBag_f C.1 C.2 (nI i)).2 9 b) 20 ∧ kIn ((X0_weighBag_f C.1 C.2 (nI i)).2 11 b) 400 ∧ ((X0_weighBag_f C.1 C.2 (nI i)).2 11 b ≠ 0 → kIn ((X0_weighBag_f C.1 C.2 (nI i)).2 10 b) 4) := hB
  have hW : ∀ w, w < 8 → kIn ((X0_weighBag_f C.1 C.2 (nI i)).2 13 w) (D + 1) := hW
  obtain ⟨b0, hb0, eb0⟩ := (hB i hi).1
  refine ⟨?_, ⟨⟨h7, h4, h1, h3, h0.mono (by omega)⟩, hJ, fun b hb => ?_, fun w hw => (hW w hw).mono (by omega)⟩⟩
  · show kIn (X0_coinsFor_f C.1 (X0_weighBag_f C.1 C.2 (nI i)).2 (nI i) (C.1 1) ((X0_weighBag_f C.1 C.2 (nI i)).1 - (X0_weighBag_f C.1 C.2 (nI i)).2 8 (nI i).toNatClampNeg)) _
    have := ks_coins (v := C.1) (a := (X0_weighBag_f C.1 C.2 (nI i)).2) (p := nI i) (m := m) (s := s) (t := t) (b := b0) (by omega) (by omega) ht hb0 (by rw [nI_clamp (by omega), hs2, es])
    rw [e1, em, nI_clamp (by omega), eb0]
    exact this.mono (by omega)
  · show kIn ((X0_weighBag_f C.1 C.2 (nI i)).2 8 b) 50 ∧ kIn ((X0_weighBag_f C.1 C.2 (nI i)).2 9 b) 20 ∧ kIn (upd ((X0_weighBag_f C.1 C.2 (nI i)).2 11) (nI i).toNatClampNeg 0 b) 400 ∧ (upd ((X0_weighBag_f C.1 C.2 (nI i)).2 11) (nI i).toNatClampNeg 0 b ≠ 0 → kIn (upd ((X0_weighBag_f C.1 C.2 (nI i)).2 10) (nI i).toNatClampNeg (-1) b) 4)
    refine ⟨(hB b hb).1, (hB b hb).2.1, ?_⟩
    unfold upd
    by_cases c : b = (nI i).toNatClampNeg
    · rw [if_pos c, if_pos c]
      exact ⟨⟨0, by omega, rfl⟩, fun z => absurd rfl z⟩
    · rw [if_neg c, if_neg c]
      exact (hB b hb).2.2
theorem kSt_116 {D : Nat} {C : kK} {R : Nat → Int32} {p1 p2 p3 : Int32} (hC : kRg D C) (h : (kAp C R 116 p1 p2 p3).1 = false) : kStep D (kCo C 116 p1 p2 p3) := by
  rw [kap_116] at h
  rw [kco_116]
  obtain ⟨c1, c2⟩ := ks_thumb h
  obtain ⟨t, -, ht, rfl⟩ := kIn_rng (lo := 0) (hi := 30) c1 c2 (by omega) (by omega)
  obtain ⟨⟨h7, h4, h1, h3, h0⟩, hJ, hB, hW⟩ := hC
  exact ⟨h3.mono (by omega), ⟨⟨h7, h4, h1, ⟨t, ht, rfl⟩, h0.mono (by omega)⟩, hJ, hB, fun w hw => (hW w hw).mono (by omega)⟩⟩
theorem kSt_119 {D : Nat} {C : kK} {p1 p2 p3 : Int32} (hC : kRg D C) : kStep D (kCo C 119 p1 p2 p3) := by
  rw [kco_119]
  obtain ⟨t, ht, e, r⟩ := kRg_weigh (p := p1) hC
  exact ⟨⟨t, by omega, e⟩, r.mono (by omega)⟩
theorem kSt_120 {D : Nat} (hD : D ≤ 900000) {C : kK} {p1 p2 p3 : Int32} (hC : kRg D C) (hk : vp_in p1 8) : kStep D (kCo C 120 p1 p2 p3) := by
  rw [kco_120]
  obtain ⟨i, hi, rfl⟩ := vp_in_of hk (by omega)
  obtain ⟨⟨h7, h4, h1, h3, h0⟩, hJ, hB, hW⟩ := hC
  refine ⟨(ks_short (v := C.1) hi (by omega) (hW i hi)).mono (by omega), ⟨⟨h7, h4, h1, h3, h0.mono (by omega)⟩, hJ, hB, fun w hw => ?_⟩⟩
  show kIn (upd (C.2 13) (nI i).toNatClampNeg 0 w) (D + 100)
  exact kIn_upd (P := fun x => kIn x (D + 100)) ⟨0, by omega, rfl⟩ ((hW w hw).mono (by omega))
theorem kStep_ok {D : Nat} (hD : D ≤ 900000) {C : kK} {R : Nat → Int32} {act p1 p2 p3 : Int32} (hC : kRg D C) (h : (kAp C R act p1 p2 p3).1 = false) : kStep D (kCo C act p1 p2 p3) := by
  have hco : kCO C.1 act p1 p2 := by
    obtain ⟨nb, hnb, e7⟩ := hC.1.1
    obtain ⟨nj, hnj, e4⟩ := hC.1.2.1
    exact X3_applies_ok hnb e7 hnj e4 (by rw [show (X3_applies_f C.1 C.2 R kA0 act p1 p2 p3).1 = false from h]; decide)
  obtain ⟨k74, k66, k102, k101, k98, k103, k120⟩ := hco
  by_cases c66 : act = 66
  · subst c66; exact kSt_66 hC (k66 rfl) h
  by_cases c74 : act = 74
  · subst c74; exact kSt_74 hC (k74 rfl) h
  by_cases c98 : act = 98
  · subst c98; exact kSt_98 hC (k98 (Or.inl rfl))
  by_cases c101 : act = 101
  · subst c101; exact kSt_101 hC (k101 rfl) h
  by_cases c102 : act = 102
  · subst c102; exact kSt_102 hC (k102 rfl) h
  by_cases c103 : act = 103
  · subst c103; exact kSt_103 hD hC (k103 rfl)
  by_cases c110 : act = 110
  · subst c110; exact kSt_110 hC h
  by_cases c111 : act = 111
  · subst c111; exact kSt_111 hD hC
  by_cases c115 : act = 115
  · subst c115; exact kSt_115 hC (k98 (Or.inr (Or.inr rfl))) h
  by_cases c116 : act = 116
  · subst c116; exact kSt_116 hC h
  by_cases c119 : act = 119
  · subst c119; exact kSt_119 hC
  by_cases c120 : act = 120
  · subst c120; exact kSt_120 hD hC (k120 rfl)
  have e : kCo C act p1 p2 p3 = (0, C.1, C.2) := by
    show X0_carryOut_f C.1 C.2 act p1 p2 p3 = _
    unfold X0_carryOut_f
    rw [if_neg c66, if_neg c74, if_neg c98, if_neg c101, if_neg c102, if_neg c103, if_neg c110, if_neg c111, if_neg c115, if_neg c116, if_neg c119, if_neg c120]
  rw [e]
  exact ⟨⟨0, Nat.zero_le _, rfl⟩, hC.mono (by omega)⟩
theorem kRun_rg {cnt : Int32} : ∀ (n D : Nat) (i : Int32) (R : Nat → Int32) (T C : kK), D + 100 * n ≤ 900000 → kRg D C → kRg (D + 100 * n) (kRun cnt n i R T C).2.2
  | 0, D, i, R, T, C, hD, hC => hC
  | n + 1, D, i, R, T, C, hD, hC => by
    unfold kRun
    by_cases c1 : cnt ≤ i
    · rw [if_pos c1]; exact hC.mono (by omega)
    rw [if_neg c1]
    split
    · exact hC.mono (by omega)
    · rename_i c2
      have hs := (kStep_ok (by omega) (R := R) hC (Bool.eq_false_iff.mpr c2)).2
      have := kRun_rg (cnt := cnt) n (D + 100) (i + 1) (X3_applies_f C.1 C.2 R kA0 ((X1_readCommand_f T.1 T.2).2.1 3) ((X1_readCommand_f T.1 T.2).2.2 4 0) ((X1_readCommand_f T.1 T.2).2.2 4 1) ((X1_readCommand_f T.1 T.2).2.2 4 2)).2 (X1_readCommand_f T.1 T.2).2 _ (by omega) hs
      exact this.mono (by omega)
theorem kRunC_rg {D : Nat} {C : kK} {R : Nat → Int32} {T : kK} (hD : D ≤ 800000) (hC : kRg D C) : kRg (D + 6100) (kRunC C R T).2.2 := kRun_rg 61 D 0 R _ C (by omega) hC
