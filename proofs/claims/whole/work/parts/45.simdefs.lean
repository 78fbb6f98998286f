/-! the relation between the class's state and the model's -/
/-- a bag of the class, a bag of the model -/
def SimB (b : Nat) (a : Nat → Nat → Int32) (m : Nat → Int32) : Prop := ∃ t gr : Nat, 5 ≤ t ∧ t ≤ 50 ∧ gr ≤ 400 ∧ a 8 b = nI t ∧ m (34 + 5 * b) = nI t ∧ m (35 + 5 * b) = a 9 b ∧ m (36 + 5 * b) = a 10 b + 1 ∧ a 11 b = nI gr ∧ m (37 + 5 * b) = nI gr ∧ m (38 + 5 * b) = a 12 b
def SimF (N nb nj mk th sa nt : Nat) (v m : Nat → Int32) : Prop := (nb ≤ 6 ∧ nj ≤ 6 ∧ mk < 4 ∧ th ≤ 30) ∧ (sa ≤ N ∧ sa ≤ nt ∧ nt ≤ 400 * sa) ∧ (m 0 = v 0 ∧ v 1 = nI mk ∧ m 1 = nI mk ∧ m 2 = v 2 ∧ v 3 = nI th ∧ m 3 = nI th ∧ v 4 = nI nj ∧ m 4 = nI nj ∧ v 7 = nI nb ∧ m 5 = nI nb) ∧ (m 6 = v 16 ∧ v 17 = nI nt ∧ m 7 = nI nt ∧ v 15 = nI sa ∧ m 8 = nI sa ∧ m 9 = v 18)
def SimJ (j : Nat) (a : Nat → Nat → Int32) (m : Nat → Int32) : Prop := m (22 + 2 * j) = a 5 j ∧ ∃ q : Nat, q ≤ 900 ∧ m (23 + 2 * j) = nI q ∧ a 6 j = nI q
def SimA (nb : Nat) (a : Nat → Nat → Int32) (m : Nat → Int32) : Prop := (∀ i, i < 4 → m (10 + i) = a 14 i + 1) ∧ (∀ k, k < 8 → m (14 + k) = a 13 k) ∧ (∀ j, j < 6 → SimJ j a m) ∧ (∀ b, b < nb → SimB b a m)
/-- a Caravan of the class, the model's array of it; N: more than was sold -/
def SimC (N : Nat) (v : Nat → Int32) (a : Nat → Nat → Int32) (m : Nat → Int32) : Prop := ∃ nb nj mk th sa nt : Nat, SimF N nb nj mk th sa nt v m ∧ SimA nb a m
def kSnap (N : Nat) (vF vS : Nat → Int32) (aS : Nat → Nat → Int32) (vM : Nat → Int32) (aM : Nat → Nat → Int32) : Prop := (vF 2 = 0 ∧ vM 5 = 0) ∨ (vF 2 = 1 ∧ vM 5 = 1 ∧ SimC N vS aS (aM 4))
def kHist (N : Nat) (vH : Nat → Int32) (aH : Nat → (Nat → Int32) × (Nat → Nat → Int32)) (vM : Nat → Int32) (aM : Nat → Nat → Int32) : Prop := ∃ u h : Nat, u ≤ 8 ∧ h < 9 ∧ vH 1 = nI h ∧ vH 2 = nI u ∧ vM 3 = nI u ∧ ∀ j, j < u → SimC N (aH ((h + 9 - u + j) % 9)).1 (aH ((h + 9 - u + j) % 9)).2 (fun i => aM 2 (64 * j + i))
def kText (vT : Nat → Int32) (aT : Nat → Nat → Int32) (vM : Nat → Int32) (aM : Nat → Nat → Int32) : Prop := (∃ ln : Nat, ln ≤ 60 ∧ vT 1 = nI ln ∧ vM 9 = nI ln ∧ ∀ i, i < ln → aM 8 i = aT 0 i) ∧ kCh5 aM
def kLin (t : Nat → Nat) (k : Nat) (vM : Nat → Int32) (aM : Nat → Nat → Int32) : Prop := k ≤ 40 ∧ vM 7 = nI k ∧ ∀ j, j < k → aM 6 j = nI (t j) ∧ t j < 256
def kRel (N : Nat) (vF vC : Nat → Int32) (aC : Nat → Nat → Int32) (vS : Nat → Int32) (aS : Nat → Nat → Int32) (vH : Nat → Int32) (aH : Nat → (Nat → Int32) × (Nat → Nat → Int32)) (vR vT : Nat → Int32) (aT : Nat → Nat → Int32) (t : Nat → Nat) (k : Nat) (vM : Nat → Int32) (aM : Nat → Nat → Int32) : Prop :=
  SimC N vC aC (aM 0) ∧ kSnap N vF vS aS vM aM ∧ kHist N vH aH vM aM ∧ (vM 14 = vR 0 ∧ vM 15 = vR 1 ∧ vM 17 = vR 2) ∧ vM 13 = vF 6 ∧ kText vT aT vM aM ∧ kLin t k vM aM
/-- what the contracts want of a state -/
def kHyp (vC vH vT vM : Nat → Int32) (aM : Nat → Nat → Int32) : Prop := (∃ nb nj : Nat, nb ≤ 6 ∧ vC 7 = nI nb ∧ nj ≤ 6 ∧ vC 4 = nI nj ∧ aM 0 5 = nI nb ∧ aM 0 4 = nI nj) ∧ vp_in (vC 1) 4 ∧ vp_in (aM 0 1) 4 ∧ vp_in (vH 1) 9 ∧ (∃ u : Nat, u ≤ 8 ∧ vM 3 = nI u) ∧ (∃ n : Nat, n ≤ 60 ∧ vT 1 = nI n) ∧ (∃ n : Nat, n ≤ 60 ∧ vM 9 = nI n) ∧ kCh5 aM ∧ (∃ n : Nat, n ≤ 40 ∧ vM 7 = nI n) ∧ (¬ aM 0 8 = 0 → aM 0 7 ≠ 0) ∧ kIC vC
theorem kRel_hyp {N : Nat} {vF vC : Nat → Int32} {aC : Nat → Nat → Int32} {vS : Nat → Int32} {aS : Nat → Nat → Int32} {vH : Nat → Int32} {aH : Nat → (Nat → Int32) × (Nat → Nat → Int32)} {vR vT : Nat → Int32} {aT : Nat → Nat → Int32} {t : Nat → Nat} {k : Nat} {vM : Nat → Int32} {aM : Nat → Nat → Int32} (hN : N < 100000) (h : kRel N vF vC aC vS aS vH aH vR vT aT t k vM aM) : kHyp vC vH vT vM aM := by
  obtain ⟨⟨nb, nj, mk, th, sa, nt, ⟨⟨a1, a2, a3, a4⟩, ⟨s1, s2, s3⟩, ⟨c0, c1, c2, c3, c4, c5, c6, c7, c8, c9⟩, ⟨d0, d1, d2, d3, d4, d5⟩⟩, -⟩, -, ⟨u, h0, b1, b2, b3, b4, b5, -⟩, -, -, ⟨⟨ln, e1, e2, e3, -⟩, hch⟩, ⟨f1, f2, -⟩⟩ := h
  refine ⟨⟨nb, nj, a1, c8, a2, c6, c9, c7⟩, ?_, ?_, ?_, ⟨u, b1, b5⟩, ⟨ln, e1, e2⟩, ⟨ln, e1, e3⟩, hch, ⟨k, f1, f2⟩, ?_, ⟨nb, a1, c8⟩, ⟨nj, a2, c6⟩, ?_⟩
  · rw [c1]; exact vp_in_nI a3 (by decide)
  · rw [c2]; exact vp_in_nI a3 (by decide)
  · rw [b3]; exact vp_in_nI b2 (by decide)
  · rw [d4, d2]
    intro h1 h2
    have h3 := (nI_eq (b := 0) (by omega) (by omega)).mp h2
    obtain rfl : sa = 0 := by omega
    exact h1 rfl
  · rw [c1]; exact vp_in_nI a3 (by decide)
/-- more may have been sold -/
theorem SimC.mono {N N' : Nat} (hN : N ≤ N') {v : Nat → Int32} {a : Nat → Nat → Int32} {m : Nat → Int32} (h : SimC N v a m) : SimC N' v a m := by
  obtain ⟨nb, nj, mk, th, sa, nt, ⟨a1, ⟨s1, s2⟩, a3⟩, a4⟩ := h
  exact ⟨nb, nj, mk, th, sa, nt, ⟨a1, ⟨Nat.le_trans s1 hN, s2⟩, a3⟩, a4⟩
/-- the relation speaks of the model's first 64 cells, of the class's 19 fields -/
theorem SimC.cong {N : Nat} {v v' : Nat → Int32} {a a' : Nat → Nat → Int32} {m m' : Nat → Int32} (hv : ∀ k, k < 19 → v' k = v k) (ha : ∀ k, k < 15 → a' k = a k) (hm : ∀ i, i < 64 → m' i = m i) (h : SimC N v a m) : SimC N v' a' m' := by
  obtain ⟨nb, nj, mk, th, sa, nt, ⟨a1, a2, ⟨c0, c1, c2, c3, c4, c5, c6, c7, c8, c9⟩, ⟨d0, d1, d2, d3, d4, d5⟩⟩, h1, h2, h3, h4⟩ := h
  refine ⟨nb, nj, mk, th, sa, nt, ⟨a1, a2, ?_, ?_⟩, ?_, ?_, ?_, ?_⟩
  · simp only [hv 0 (by decide), hv 1 (by decide), hv 2 (by decide), hv 3 (by decide), hv 4 (by decide), hv 7 (by decide), hm 0 (by decide), hm 1 (by decide), hm 2 (by decide), hm 3 (by decide), hm 4 (by decide), hm 5 (by decide)]
    exact ⟨c0, c1, c2, c3, c4, c5, c6, c7, c8, c9⟩
  · simp only [hv 15 (by decide), hv 16 (by decide), hv 17 (by decide), hv 18 (by decide), hm 6 (by decide), hm 7 (by decide), hm 8 (by decide), hm 9 (by decide)]
    exact ⟨d0, d1, d2, d3, d4, d5⟩
  · intro i hi
    rw [hm _ (by omega), ha 14 (by decide)]
    exact h1 i hi
  · intro i hi
    rw [hm _ (by omega), ha 13 (by decide)]
    exact h2 i hi
  · intro j hj
    obtain ⟨j1, q, j2, j3, j4⟩ := h3 j hj
    refine ⟨?_, q, j2, ?_, ?_⟩
    · rw [hm _ (by omega), ha 5 (by decide)]; exact j1
    · rw [hm _ (by omega)]; exact j3
    · rw [ha 6 (by decide)]; exact j4
  · intro b hb
    have hb6 : b < 6 := by omega
    obtain ⟨t, gr, g1, g2, g3, g4, g5, g6, g7, g8, g9, g10⟩ := h4 b hb
    refine ⟨t, gr, g1, g2, g3, ?_, ?_, ?_, ?_, ?_, ?_, ?_⟩
    · rw [ha 8 (by decide)]; exact g4
    · rw [hm _ (by omega)]; exact g5
    · rw [hm _ (by omega), ha 9 (by decide)]; exact g6
    · rw [hm _ (by omega), ha 10 (by decide)]; exact g7
    · rw [ha 11 (by decide)]; exact g8
    · rw [hm _ (by omega)]; exact g9
    · rw [hm _ (by omega), ha 12 (by decide)]; exact g10
