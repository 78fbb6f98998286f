/-! the history, orders -/
theorem k_64 (u j : Nat) (h : u < 9) (hj : j < 64) : ((64 * nI u) + nI j).toNatClampNeg = 64 * u + j := (by decide +kernel : ∀ u, u < 9 → ∀ j, j < 64 → ((64 * nI u) + nI j : Int32).toNatClampNeg = 64 * u + j) u h j hj
section S7
variable {N N' : Nat} {vF vF' vC vC' : Nat → Int32} {aC aC' : Nat → Nat → Int32} {vS vS' : Nat → Int32} {aS aS' : Nat → Nat → Int32} {vH vH' : Nat → Int32} {aH aH' : Nat → (Nat → Int32) × (Nat → Nat → Int32)} {vR vR' vT : Nat → Int32} {aR aT : Nat → Nat → Int32} {t : Nat → Nat} {k : Nat} {vM vM' : Nat → Int32} {aM aM' : Nat → Nat → Int32} {p p1 p2 p3 x y : Int32}
theorem kHist.cong (hN : N ≤ N') (h3 : vM' 3 = vM 3) (a2 : aM' 2 = aM 2) (h : kHist N vH aH vM aM) : kHist N' vH aH vM' aM' := by
  obtain ⟨u, h0, b1, b2, b3, b4, b5, b6⟩ := h
  exact ⟨u, h0, b1, b2, b3, b4, h3.trans b5, fun j hj => by rw [a2]; exact (b6 j hj).mono hN⟩
theorem kSnap.cong (hN : N ≤ N') (h5 : vM' 5 = vM 5) (a4 : aM' 4 = aM 4) (h2 : vF' 2 = vF 2) (h : kSnap N vF vS aS vM aM) : kSnap N' vF' vS aS vM' aM' := by
  unfold kSnap
  rw [h5, a4, h2]
  rcases h with h | ⟨h, h', h''⟩
  · exact .inl h
  · exact .inr ⟨h, h', h''.mono hN⟩
/-- the relation goes on -/
theorem kRel_mk (hR : kRel N vF vC aC vS aS vH aH vR vT aT t k vM aM) (hN : N ≤ N') (hs : SimC N' vC' aC' (aM' 0)) (hh : kHist N' vH' aH' vM' aM') (hr : vM' 14 = vR' 0 ∧ vM' 15 = vR' 1 ∧ vM' 17 = vR' 2) (h5 : vM' 5 = vM 5) (h7 : vM' 7 = vM 7) (h9 : vM' 9 = vM 9) (h13 : vM' 13 = vM 13) (ha : ∀ k, 3 ≤ k → aM' k = aM k) : kRel N' vF vC' aC' vS aS vH' aH' vR' vT aT t k vM' aM' := by
  obtain ⟨r1, r2, r3, r4, r5, ⟨⟨ln, t1, t2, t3, t4⟩, t5⟩, l1, l2, l3⟩ := hR
  refine ⟨hs, r2.cong hN h5 (ha 4 (by decide)) rfl, hh, hr, h13.trans r5, ⟨⟨ln, t1, t2, h9.trans t3, ?_⟩, ?_⟩, l1, h7.trans l2, ?_⟩
  · rw [ha 8 (by decide)]; exact t4
  · unfold kCh5; rw [ha 8 (by decide)]; exact t5
  · rw [ha 6 (by decide)]; exact l3
/-- nothing but answers -/
theorem kRel_ro (hR : kRel N vF vC aC vS aS vH aH vR vT aT t k vM aM) (hv : ∀ k, k < 18 → k ≠ 16 → vM' k = vM k) : kRel (N + 60) vF vC aC vS aS vH aH vR vT aT t k vM' aM := by
  have hR' := hR
  obtain ⟨r1, r2, r3, ⟨e1, e2, e3⟩, r5, r6, r7⟩ := hR
  exact kRel_mk hR' (Nat.le_add_right N 60) (r1.mono (Nat.le_add_right N 60)) (r3.cong (Nat.le_add_right N 60) (hv 3 (by decide) (by decide)) rfl) ⟨(hv 14 (by decide) (by decide)).trans e1, (hv 15 (by decide) (by decide)).trans e2, (hv 17 (by decide) (by decide)).trans e3⟩ (hv 5 (by decide) (by decide)) (hv 7 (by decide) (by decide)) (hv 9 (by decide) (by decide)) (hv 13 (by decide) (by decide)) (fun _ _ => rfl)
theorem kRel.mono (hN : N ≤ N') (hR : kRel N vF vC aC vS aS vH aH vR vT aT t k vM aM) : kRel N' vF vC aC vS aS vH aH vR vT aT t k vM aM :=
  kRel_mk hR hN (hR.1.mono hN) (hR.2.2.1.cong hN rfl rfl) hR.2.2.2.1 rfl rfl rfl rfl (fun _ _ => rfl)
theorem keeps_51 {u : Nat} (hu : u < 8) : ∀ (n j : Nat) (v : Nat → Int32) (a : Nat → Nat → Int32), j ≤ 64 → 64 - j < n → v 3 = nI u → (X5_keeps_lp51 vM aM p n (nI j) v a).1 = p ∧ (X5_keeps_lp51 vM aM p n (nI j) v a).2.1 = upd v 3 (nI (u + 1)) ∧ (∀ k, k ≠ 2 → (X5_keeps_lp51 vM aM p n (nI j) v a).2.2 k = a k) ∧ ∀ i, (X5_keeps_lp51 vM aM p n (nI j) v a).2.2 2 i = if 64 * u + j ≤ i ∧ i < 64 * u + 64 then a 1 (i - 64 * u) else a 2 i := by
  intro n
  induction n with
  | zero => intro j v a h3 h4; omega
  | succ n ih =>
    intro j v a h3 h4 e3
    show (X5_keeps_lp51b vM aM p (X5_keeps_lp51 vM aM p n) (nI j) v a).1 = p ∧ (X5_keeps_lp51b vM aM p (X5_keeps_lp51 vM aM p n) (nI j) v a).2.1 = upd v 3 (nI (u + 1)) ∧ (∀ k, k ≠ 2 → (X5_keeps_lp51b vM aM p (X5_keeps_lp51 vM aM p n) (nI j) v a).2.2 k = a k) ∧ ∀ i, (X5_keeps_lp51b vM aM p (X5_keeps_lp51 vM aM p n) (nI j) v a).2.2 2 i = if 64 * u + j ≤ i ∧ i < 64 * u + 64 then a 1 (i - 64 * u) else a 2 i
    unfold X5_keeps_lp51b
    by_cases c : (64 : Int32) ≤ nI j
    · rw [if_pos c, e3, nI_add1]
      have : 64 ≤ j := (nI_leI (a := 64) (by omega) (by omega)).mp c
      refine ⟨rfl, rfl, fun _ _ => rfl, fun i => ?_⟩
      rw [if_neg (by omega)]
    · rw [if_neg c]
      have hj : j < 64 := by
        rcases Nat.lt_or_ge j 64 with h | h
        · exact h
        · exact absurd ((nI_leI (a := 64) (by omega) (by omega)).mpr h) c
      rw [e3, k_64 u j (by omega) hj, nI_clamp (n := j) (by omega), nI_add1]
      obtain ⟨i1, i2, i3, i4⟩ := ih (j + 1) v (va_up a 2 (upd (a 2) (64 * u + j) (a 1 j))) hj (by omega) e3
      refine ⟨i1, i2, fun k hk => (i3 k hk).trans (va_un hk), fun i => ?_⟩
      rw [i4 i, va_us, va_un (by decide)]
      by_cases e : i = 64 * u + j
      · subst e
        rw [pk_us, if_neg (by omega), if_pos (by omega)]
        congr 1
        omega
      · rw [pk_un e]
        by_cases f : 64 * u + (j + 1) ≤ i ∧ i < 64 * u + 64
        · rw [if_pos f, if_pos (by omega)]
        · rw [if_neg f, if_neg (by omega)]
theorem keeps_11 : ∀ (n j : Nat) (a : Nat → Nat → Int32), j ≤ 448 → 448 - j < n → (∀ k, k ≠ 2 → (X5_keeps_lp11 vM aM p n (nI j) a).2 k = a k) ∧ ∀ i, (X5_keeps_lp11 vM aM p n (nI j) a).2 2 i = if j ≤ i ∧ i < 448 then a 2 (i + 64) else a 2 i := by
  intro n
  induction n with
  | zero => intro j a h3 h4; omega
  | succ n ih =>
    intro j a h3 h4
    show (∀ k, k ≠ 2 → (X5_keeps_lp11b vM aM p (X5_keeps_lp11 vM aM p n) (nI j) a).2 k = a k) ∧ ∀ i, (X5_keeps_lp11b vM aM p (X5_keeps_lp11 vM aM p n) (nI j) a).2 2 i = if j ≤ i ∧ i < 448 then a 2 (i + 64) else a 2 i
    unfold X5_keeps_lp11b
    by_cases c : (448 : Int32) ≤ nI j
    · rw [if_pos c]
      have : 448 ≤ j := (nI_leI (a := 448) (by omega) (by omega)).mp c
      refine ⟨fun _ _ => rfl, fun i => ?_⟩
      rw [if_neg (by omega)]
    · rw [if_neg c]
      have hj : j < 448 := by
        rcases Nat.lt_or_ge j 448 with h | h
        · exact h
        · exact absurd ((nI_leI (a := 448) (by omega) (by omega)).mpr h) c
      have e64 : (64 + nI j : Int32).toNatClampNeg = 64 + j := (congrArg Int32.toNatClampNeg (nI_add 64 j)).trans (nI_clamp (by omega))
      rw [e64, nI_clamp (n := j) (by omega), nI_add1]
      obtain ⟨i3, i4⟩ := ih (j + 1) (va_up a 2 (upd (a 2) j (a 2 (64 + j)))) hj (by omega)
      refine ⟨fun k hk => (i3 k hk).trans (va_un hk), fun i => ?_⟩
      rw [i4 i, va_us]
      by_cases e : i = j
      · subst e
        rw [pk_us, if_neg (by omega), if_pos (by omega), Nat.add_comm]
      · rw [pk_un e]
        by_cases f : j + 1 ≤ i ∧ i < 448
        · rw [if_pos f, if_pos (by omega), pk_un (by omega)]
        · rw [if_neg f, if_neg (by omega)]
/-- the model keeps what was -/
theorem keeps_ok {u : Nat} (hu : u ≤ 8) (e3 : vM 3 = nI u) : (X5_keeps_f vM aM p).1 = p ∧ (∀ k, k ≠ 3 → (X5_keeps_f vM aM p).2.1 k = vM k) ∧ (∀ k, k ≠ 2 → (X5_keeps_f vM aM p).2.2 k = aM k) ∧
    ((u < 8 ∧ (X5_keeps_f vM aM p).2.1 3 = nI (u + 1) ∧ ∀ j i, i < 64 → (X5_keeps_f vM aM p).2.2 2 (64 * j + i) = if j = u then aM 1 i else aM 2 (64 * j + i)) ∨
     (u = 8 ∧ (X5_keeps_f vM aM p).2.1 3 = nI 8 ∧ ∀ j i, j < 8 → i < 64 → (X5_keeps_f vM aM p).2.2 2 (64 * j + i) = if j = 7 then aM 1 i else aM 2 (64 * (j + 1) + i))) := by
  unfold X5_keeps_f
  by_cases c : vM 3 = 8
  · have e8 : u = 8 := (nI_eq (b := 8) (by omega) (by omega)).mp (e3.symm.trans c)
    subst e8
    rw [if_pos c]
    obtain ⟨s1, s2⟩ := keeps_11 (vM := vM) (aM := aM) (p := p) 449 0 aM (by omega) (by omega)
    rw [nI_0] at s1 s2
    generalize (X5_keeps_lp11 vM aM p 449 0 aM).2 = a1 at s1 s2 ⊢
    obtain ⟨w1, w2, w3, w4⟩ := keeps_51 (vM := vM) (aM := aM) (p := p) (u := 7) (by omega) 65 0 (upd vM 3 (vM 3 - 1)) a1 (by omega) (by omega) (by rw [pk_us, c]; rfl)
    rw [nI_0] at w1 w2 w3 w4
    generalize X5_keeps_lp51 vM aM p 65 0 (upd vM 3 (vM 3 - 1)) a1 = R at w1 w2 w3 w4 ⊢
    refine ⟨w1, fun k hk => ?_, fun k hk => (w3 k hk).trans (s1 k hk), .inr ⟨rfl, ?_, fun j i hj hi => ?_⟩⟩
    · exact (congrFun w2 k).trans ((pk_un hk).trans (pk_un hk))
    · exact (congrFun w2 3).trans pk_us
    · refine (w4 (64 * j + i)).trans ?_
      by_cases e : j = 7
      · subst e
        rw [if_pos (by omega), if_pos rfl, s1 1 (by decide)]
        exact congrArg (aM 1) (by omega)
      · rw [if_neg (by omega), if_neg e]
        refine (s2 (64 * j + i)).trans ?_
        rw [if_pos (by omega)]
        exact congrArg (aM 2) (by omega)
  · rw [if_neg c]
    have hu8 : u < 8 := by
      rcases Nat.lt_or_ge u 8 with h | h
      · exact h
      · obtain rfl : u = 8 := by omega
        exact absurd e3 c
    obtain ⟨w1, w2, w3, w4⟩ := keeps_51 (vM := vM) (aM := aM) (p := p) hu8 65 0 vM aM (by omega) (by omega) e3
    rw [nI_0] at w1 w2 w3 w4
    generalize X5_keeps_lp51 vM aM p 65 0 vM aM = R at w1 w2 w3 w4 ⊢
    refine ⟨w1, fun k hk => ?_, w3, .inl ⟨hu8, ?_, fun j i hi => ?_⟩⟩
    · exact (congrFun w2 k).trans (pk_un hk)
    · exact (congrFun w2 3).trans pk_us
    · refine (w4 (64 * j + i)).trans ?_
      by_cases e : j = u
      · subst e
        rw [if_pos (by omega), if_pos rfl]
        exact congrArg (aM 1) (by omega)
      · rw [if_neg (by omega), if_neg e]
/-- a copy -/
theorem cp_v : ∀ k, k < 19 → k ≠ 5 → k ≠ 6 → k ≠ 8 → k ≠ 9 → k ≠ 10 → k ≠ 11 → k ≠ 12 → k ≠ 13 → k ≠ 14 → (X0_copyFrom_f vC aC vS aS).1 k = vC k := by
  intro k h1 h2 h3 h4 h5 h6 h7 h8 h9 h10
  unfold X0_copyFrom_f
  have hk : k = 0 ∨ k = 1 ∨ k = 2 ∨ k = 3 ∨ k = 4 ∨ k = 7 ∨ k = 15 ∨ k = 16 ∨ k = 17 ∨ k = 18 := by omega
  rcases hk with rfl | rfl | rfl | rfl | rfl | rfl | rfl | rfl | rfl | rfl <;> rfl
theorem cp_a : ∀ k, 5 ≤ k → k < 15 → k ≠ 7 → (X0_copyFrom_f vC aC vS aS).2 k = aC k := by
  intro k h1 h2 h3
  unfold X0_copyFrom_f
  have hk : k = 5 ∨ k = 6 ∨ k = 8 ∨ k = 9 ∨ k = 10 ∨ k = 11 ∨ k = 12 ∨ k = 13 ∨ k = 14 := by omega
  rcases hk with rfl | rfl | rfl | rfl | rfl | rfl | rfl | rfl | rfl <;> rfl
/-- the relation speaks of fewer fields -/
theorem SimC.cong2 {v v' : Nat → Int32} {a a' : Nat → Nat → Int32} {m m' : Nat → Int32} (hv : ∀ k, k < 19 → k ≠ 5 → k ≠ 6 → k ≠ 8 → k ≠ 9 → k ≠ 10 → k ≠ 11 → k ≠ 12 → k ≠ 13 → k ≠ 14 → v' k = v k) (ha : ∀ k, 5 ≤ k → k < 15 → k ≠ 7 → a' k = a k) (hm : ∀ i, i < 64 → m' i = m i) (h : SimC N v a m) : SimC N v' a' m' := by
  have h1 : SimC N (fun k => if k < 19 then (if k = 5 ∨ k = 6 ∨ k = 8 ∨ k = 9 ∨ k = 10 ∨ k = 11 ∨ k = 12 ∨ k = 13 ∨ k = 14 then v' k else v k) else v' k) (fun k => if 5 ≤ k ∧ k < 15 ∧ k ≠ 7 then a k else a' k) m := by
    obtain ⟨nb, nj, mk, th, sa, nt, ⟨a1, a2, ⟨c0, c1, c2, c3, c4, c5, c6, c7, c8, c9⟩, ⟨d0, d1, d2, d3, d4, d5⟩⟩, h1, h2, h3, h4⟩ := h
    exact ⟨nb, nj, mk, th, sa, nt, ⟨a1, a2, ⟨c0, c1, c2, c3, c4, c5, c6, c7, c8, c9⟩, ⟨d0, d1, d2, d3, d4, d5⟩⟩, h1, h2, h3, h4⟩
  refine h1.cong (fun k hk => ?_) (fun k hk => ?_) hm
  · show v' k = if k < 19 then (if k = 5 ∨ k = 6 ∨ k = 8 ∨ k = 9 ∨ k = 10 ∨ k = 11 ∨ k = 12 ∨ k = 13 ∨ k = 14 then v' k else v k) else v' k
    rw [if_pos hk]
    by_cases e : k = 5 ∨ k = 6 ∨ k = 8 ∨ k = 9 ∨ k = 10 ∨ k = 11 ∨ k = 12 ∨ k = 13 ∨ k = 14
    · rw [if_pos e]
    · rw [if_neg e]
      exact hv k hk (by omega) (by omega) (by omega) (by omega) (by omega) (by omega) (by omega) (by omega) (by omega)
  · show a' k = if 5 ≤ k ∧ k < 15 ∧ k ≠ 7 then a k else a' k
    by_cases e : 5 ≤ k ∧ k < 15 ∧ k ≠ 7
    · rw [if_pos e]
      exact ha k e.1 e.2.1 e.2.2
    · rw [if_neg e]
theorem SimC.copy {m m' : Nat → Int32} (hm : ∀ i, i < 64 → m' i = m i) (h : SimC N vC aC m) : SimC N (X0_copyFrom_f vC aC vS aS).1 (X0_copyFrom_f vC aC vS aS).2 m' := h.cong2 cp_v cp_a hm
theorem k_ring (h : Nat) (hh : h < 9) : (nI h + 1) - (nI h + 1) / 9 * 9 = nI ((h + 1) % 9) := (by decide +kernel : ∀ h, h < 9 → (nI h + 1 : Int32) - (nI h + 1) / 9 * 9 = nI ((h + 1) % 9)) h hh
theorem k_ring8 (u : Nat) (hu : u < 9) : (if (8 : Int32) < (nI u + 1) then 8 else (nI u + 1) : Int32) = nI (if u = 8 then 8 else u + 1) := (by decide +kernel : ∀ u, u < 9 → (if (8 : Int32) < (nI u + 1) then 8 else (nI u + 1) : Int32) = nI (if u = 8 then 8 else u + 1)) u hu
/-- the history goes on -/
theorem hist_ok {vK : Nat → Int32} {aK : Nat → Nat → Int32} (hs : SimC N vC aC (aM 0)) (h : kHist N vH aH vM aM) (k3 : vK 3 = vM 3) (a1 : ∀ i, i < 64 → aK 1 i = aM 0 i) (a2 : aK 2 = aM 2) : kHist N (X2_keepHeld_f vH (X2_hold_f vH aH vC aC)) (X2_hold_f vH aH vC aC) (X5_keeps_f vK aK p).2.1 (X5_keeps_f vK aK p).2.2 := by
  obtain ⟨u, h0, b1, b2, b3, b4, b5, b6⟩ := h
  obtain ⟨w1, w2, w3, w4⟩ := keeps_ok (vM := vK) (aM := aK) (p := p) b1 (k3.trans b5)
  have eh : X2_hold_f vH aH vC aC = va_up aH h0 (X0_copyFrom_f vC aC (aH h0).1 (aH h0).2) := by
    unfold X2_hold_f
    rw [b3, nI_clamp (n := h0) (by omega)]
  have ek : X2_keepHeld_f vH (X2_hold_f vH aH vC aC) = upd (upd vH 1 (nI ((h0 + 1) % 9))) 2 (nI (if u = 8 then 8 else u + 1)) := by
    unfold X2_keepHeld_f
    rw [b3, b4, k_ring h0 b2, k_ring8 u (by omega)]
  rw [ek, eh]
  rcases w4 with ⟨c1, c2, c3⟩ | ⟨c1, c2, c3⟩
  · refine ⟨u + 1, (h0 + 1) % 9, by omega, by omega, ?_, ?_, c2, fun j hj => ?_⟩
    · rw [pk_un (by decide), pk_us]
    · rw [pk_us, if_neg (by omega)]
    · have es : ((h0 + 1) % 9 + 9 - (u + 1) + j) % 9 = (h0 + 9 - u + j) % 9 := by omega
      rw [es]
      by_cases e : j = u
      · rw [show (h0 + 9 - u + j) % 9 = h0 by omega, va_us]
        refine SimC.copy (fun i hi => ?_) hs
        rw [c3 j i hi, if_pos e]
        exact a1 i hi
      · rw [va_un (by omega)]
        refine (b6 j (by omega)).cong (fun _ _ => rfl) (fun _ _ => rfl) (fun i hi => ?_)
        rw [c3 j i hi, if_neg e, a2]
  · subst c1
    refine ⟨8, (h0 + 1) % 9, by omega, by omega, ?_, ?_, c2, fun j hj => ?_⟩
    · rw [pk_un (by decide), pk_us]
    · rw [pk_us, if_pos rfl]
    · by_cases e : j = 7
      · rw [show ((h0 + 1) % 9 + 9 - 8 + j) % 9 = h0 by omega, va_us]
        refine SimC.copy (fun i hi => ?_) hs
        rw [c3 j i (by omega) hi, if_pos e]
        exact a1 i hi
      · rw [va_un (by omega), show ((h0 + 1) % 9 + 9 - 8 + j) % 9 = (h0 + 9 - 8 + (j + 1)) % 9 by omega]
        refine (b6 (j + 1) (by omega)).cong (fun _ _ => rfl) (fun _ _ => rfl) (fun i hi => ?_)
        rw [c3 j i (by omega) hi, if_neg e, a2]
abbrev kTv (vM : Nat → Int32) : Nat → Int32 := upd (upd vM 21 0) 16 0
abbrev kTa (aM : Nat → Nat → Int32) : Nat → Nat → Int32 := va_up aM 1 (k_cpy 0 64 (aM 0) (aM 1))
theorem kTv_n {i : Nat} (h1 : i ≠ 16) (h2 : i ≠ 21) : kTv vM i = vM i := (pk_un h1).trans (pk_un h2)
theorem kTa_1 : ∀ i, i < 64 → kTa aM 1 i = aM 0 i := fun i hi => if_pos ⟨Nat.zero_le i, hi⟩
theorem chg_eta {C : Nat × Int32 × (Nat → Int32) × (Nat → Nat → Int32) × (Nat → Int32) × (Nat → (Nat → Int32) × (Nat → Nat → Int32)) × (Nat → Int32)} {op : Int32} (hC : C = X4_change_f vF vC aC vH aH vR aR op p1 p2 p3) : (if C.1 = 0 then (0, C.2.1, C.2.2.1, C.2.2.2.1, C.2.2.2.2.1, C.2.2.2.2.2.1, C.2.2.2.2.2.2) else (C.1, 0, C.2.2.1, C.2.2.2.1, C.2.2.2.2.1, C.2.2.2.2.2.1, C.2.2.2.2.2.2)) = X4_change_f vF vC aC vH aH vR aR op p1 p2 p3 := by
  subst hC
  by_cases c : (X3_applies_f vC aC vR aR op p1 p2 p3).1 = true
  · rw [show X4_change_f vF vC aC vH aH vR aR op p1 p2 p3 = _ from if_pos c]
    rfl
  · rw [show X4_change_f vF vC aC vH aH vR aR op p1 p2 p3 = _ from if_neg c]
    rfl
theorem chg_acc {op : Int32} {vK : Nat → Int32} {aK : Nat → Nat → Int32} (hR : kRel N vF vC aC vS aS vH aH vR vT aT t k vM aM) (hr : ¬ (X3_applies_f vC aC vR aR op p1 p2 p3).1 = true) (hv : (X3_applies_f vC aC vR aR op p1 p2 p3).2 = vR) (hp : p = (X0_carryOut_f vC aC op p1 p2 p3).1) (hk : ∀ i, i ≠ 18 → i ≠ 19 → i ≠ 20 → vK i = kTv vM i) (ha : ∀ i, i ≠ 0 → aK i = kTa aM i) (hs : SimC (N + 1) (X0_carryOut_f vC aC op p1 p2 p3).2.1 (X0_carryOut_f vC aC op p1 p2 p3).2.2 (aK 0)) :
    (X5_keeps_f vK aK p).2.1 21 = kLk1 (X4_change_f vF vC aC vH aH vR aR op p1 p2 p3).1 ∧ ((X4_change_f vF vC aC vH aH vR aR op p1 p2 p3).1 = 0 → (X5_keeps_f vK aK p).1 = (X4_change_f vF vC aC vH aH vR aR op p1 p2 p3).2.1) ∧ kRel (N + 60) vF (X4_change_f vF vC aC vH aH vR aR op p1 p2 p3).2.2.1 (X4_change_f vF vC aC vH aH vR aR op p1 p2 p3).2.2.2.1 vS aS (X4_change_f vF vC aC vH aH vR aR op p1 p2 p3).2.2.2.2.1 (X4_change_f vF vC aC vH aH vR aR op p1 p2 p3).2.2.2.2.2.1 (X4_change_f vF vC aC vH aH vR aR op p1 p2 p3).2.2.2.2.2.2 vT aT t k (X5_keeps_f vK aK p).2.1 (X5_keeps_f vK aK p).2.2 := by
  rw [show X4_change_f vF vC aC vH aH vR aR op p1 p2 p3 = _ from if_neg hr, hv]
  have hR' := hR
  obtain ⟨r1, r2, ⟨u, h0, b1, b2, b3, b4, b5, b6⟩, ⟨e1, e2, e3⟩, r5, r6, r7⟩ := hR
  have hK := fun i h1 h2 h3 h4 h5 => (hk i h1 h2 h3).trans (kTv_n (vM := vM) (i := i) h4 h5)
  obtain ⟨w1, w2, w3, -⟩ := keeps_ok (vM := vK) (aM := aK) (p := p) b1 ((hK 3 (by decide) (by decide) (by decide) (by decide) (by decide)).trans b5)
  have hW := fun i h1 h2 h3 h4 h5 h6 => (w2 i h6).trans (hK i h1 h2 h3 h4 h5)
  refine ⟨(w2 21 (by decide)).trans ((hk 21 (by decide) (by decide) (by decide)).trans rfl), fun _ => w1.trans hp, ?_⟩
  refine kRel_mk hR' (Nat.le_add_right N 60) ?_ ((hist_ok r1 ⟨u, h0, b1, b2, b3, b4, b5, b6⟩ (hK 3 (by decide) (by decide) (by decide) (by decide) (by decide)) (fun i hi => ?_) ?_).cong (Nat.le_add_right N 60) rfl rfl) ⟨(hW 14 (by decide) (by decide) (by decide) (by decide) (by decide) (by decide)).trans e1, (hW 15 (by decide) (by decide) (by decide) (by decide) (by decide) (by decide)).trans e2, (hW 17 (by decide) (by decide) (by decide) (by decide) (by decide) (by decide)).trans e3⟩ (hW 5 (by decide) (by decide) (by decide) (by decide) (by decide) (by decide)) (hW 7 (by decide) (by decide) (by decide) (by decide) (by decide) (by decide)) (hW 9 (by decide) (by decide) (by decide) (by decide) (by decide) (by decide)) (hW 13 (by decide) (by decide) (by decide) (by decide) (by decide) (by decide)) (fun i hi => ?_)
  · rw [w3 0 (by decide)]
    exact hs.mono (by omega)
  · rw [ha 1 (by decide)]
    exact kTa_1 i hi
  · exact (ha 2 (by decide)).trans (va_un (by decide))
  · exact (w3 i (by omega)).trans ((ha i (by omega)).trans (va_un (by omega)))
theorem chg_ref {op : Int32} {vK : Nat → Int32} (hR : kRel N vF vC aC vS aS vH aH vR vT aT t k vM aM) (hr : (X3_applies_f vC aC vR aR op p1 p2 p3).1 = true) (ho : kOpR (X3_applies_f vC aC vR aR op p1 p2 p3).2 (kTv vM) vK) :
    upd vK 21 1 21 = kLk1 (X4_change_f vF vC aC vH aH vR aR op p1 p2 p3).1 ∧ ((X4_change_f vF vC aC vH aH vR aR op p1 p2 p3).1 = 0 → (0 : Int32) = (X4_change_f vF vC aC vH aH vR aR op p1 p2 p3).2.1) ∧ kRel (N + 60) vF (X4_change_f vF vC aC vH aH vR aR op p1 p2 p3).2.2.1 (X4_change_f vF vC aC vH aH vR aR op p1 p2 p3).2.2.2.1 vS aS (X4_change_f vF vC aC vH aH vR aR op p1 p2 p3).2.2.2.2.1 (X4_change_f vF vC aC vH aH vR aR op p1 p2 p3).2.2.2.2.2.1 (X4_change_f vF vC aC vH aH vR aR op p1 p2 p3).2.2.2.2.2.2 vT aT t k (upd vK 21 1) (kTa aM) := by
  rw [show X4_change_f vF vC aC vH aH vR aR op p1 p2 p3 = _ from if_pos hr]
  have hR' := hR
  obtain ⟨r1, r2, r3, ⟨e1, e2, e3⟩, r5, r6, r7⟩ := hR
  obtain ⟨o1, o2, o3, o4, o5⟩ := ho
  have hK := fun i h1 h2 h3 h4 h5 h6 h7 h8 => (show upd vK 21 1 i = vK i from pk_un h7).trans ((o5 i h1 h2 h3 h4 h5 h6).trans (kTv_n (vM := vM) (i := i) h8 h7))
  refine ⟨rfl, fun _ => rfl, kRel_mk hR' (Nat.le_add_right N 60) (r1.mono (Nat.le_add_right N 60)) (r3.cong (Nat.le_add_right N 60) (hK 3 (by decide) (by decide) (by decide) (by decide) (by decide) (by decide) (by decide) (by decide)) (va_un (by decide))) ⟨(pk_un (by decide)).trans o1, (pk_un (by decide)).trans o2, (pk_un (by decide)).trans (o3.trans o4.symm)⟩ (hK 5 (by decide) (by decide) (by decide) (by decide) (by decide) (by decide) (by decide) (by decide)) (hK 7 (by decide) (by decide) (by decide) (by decide) (by decide) (by decide) (by decide) (by decide)) (hK 9 (by decide) (by decide) (by decide) (by decide) (by decide) (by decide) (by decide) (by decide)) (hK 13 (by decide) (by decide) (by decide) (by decide) (by decide) (by decide) (by decide) (by decide)) (fun i hi => va_un (by omega))⟩
/-- an order by itself -/
theorem chg_ok {op : Int32} {q : Bool × (Nat → Int32) × (Nat → Nat → Int32)} (hR : kRel N vF vC aC vS aS vH aH vR vT aT t k vM aM) (hq : kOp N vR (X3_applies_f vC aC vR aR op p1 p2 p3) (X0_carryOut_f vC aC op p1 p2 p3) (kTv vM) (kTa aM) q) :
    (X5_ends_f q.2.1 q.2.2 q.1).2.1 21 = kLk1 (X4_change_f vF vC aC vH aH vR aR op p1 p2 p3).1 ∧ ((X4_change_f vF vC aC vH aH vR aR op p1 p2 p3).1 = 0 → (X5_ends_f q.2.1 q.2.2 q.1).1 = (X4_change_f vF vC aC vH aH vR aR op p1 p2 p3).2.1) ∧ kRel (N + 60) vF (X4_change_f vF vC aC vH aH vR aR op p1 p2 p3).2.2.1 (X4_change_f vF vC aC vH aH vR aR op p1 p2 p3).2.2.2.1 vS aS (X4_change_f vF vC aC vH aH vR aR op p1 p2 p3).2.2.2.2.1 (X4_change_f vF vC aC vH aH vR aR op p1 p2 p3).2.2.2.2.2.1 (X4_change_f vF vC aC vH aH vR aR op p1 p2 p3).2.2.2.2.2.2 vT aT t k (X5_ends_f q.2.1 q.2.2 q.1).2.1 (X5_ends_f q.2.1 q.2.2 q.1).2.2 := by
  obtain ⟨h1, h2⟩ := hq
  by_cases c : (X3_applies_f vC aC vR aR op p1 p2 p3).1 = true
  · obtain ⟨q1, q2, q3⟩ := h1 c
    rw [show X5_ends_f q.2.1 q.2.2 q.1 = (0, upd q.2.1 21 1, q.2.2) from if_neg (by rw [q1]; decide), q2]
    exact chg_ref hR c q3
  · obtain ⟨q1, q2, q3, q4, q5, q6⟩ := h2 c
    rw [show X5_ends_f q.2.1 q.2.2 q.1 = X5_keeps_f q.2.1 q.2.2 (q.2.1 18) from if_pos q1]
    exact chg_acc hR c q2 q3 q4 q5 q6
end S7
