/-! undo, save, restore -/
section S9
variable {N N' : Nat} {vF vF' vC vC' : Nat → Int32} {aC aC' : Nat → Nat → Int32} {vS vS' : Nat → Int32} {aS aS' : Nat → Nat → Int32} {vH vH' : Nat → Int32} {aH aH' : Nat → (Nat → Int32) × (Nat → Nat → Int32)} {vR vR' vT : Nat → Int32} {aR aT : Nat → Nat → Int32} {t : Nat → Nat} {k : Nat} {vM vM' : Nat → Int32} {aM aM' : Nat → Nat → Int32} {p p1 p2 p3 x y : Int32}
theorem k_lt64 {j : Nat} (h3 : j ≤ 64) (c : ¬ (64 : Int32) ≤ nI j) : j < 64 := by
  rcases Nat.lt_or_ge j 64 with h | h
  · exact h
  · exact absurd ((nI_leI (a := 64) (by omega) (by omega)).mpr h) c
theorem k_ge64 {j : Nat} (h3 : j ≤ 64) (c : (64 : Int32) ≤ nI j) : j = 64 := by
  have : 64 ≤ j := (nI_leI (a := 64) (by omega) (by omega)).mp c
  omega
theorem undo_lp {u : Nat} (hu : u < 8) (e3 : vM 3 - 1 = nI u) : ∀ (n j : Nat) (a : Nat → Nat → Int32), j ≤ 64 → 64 - j < n → a 2 = aM 2 → (X5_undo_lp30 vM aM n (nI j) a).1 = nI u ∧ (X5_undo_lp30 vM aM n (nI j) a).2.1 = upd (upd vM 21 0) 3 (nI u) ∧ (∀ k, k ≠ 0 → (X5_undo_lp30 vM aM n (nI j) a).2.2 k = a k) ∧ ∀ i, (X5_undo_lp30 vM aM n (nI j) a).2.2 0 i = if j ≤ i ∧ i < 64 then aM 2 (64 * u + i) else a 0 i := by
  intro n
  induction n with
  | zero => intro j a h3 h4; omega
  | succ n ih =>
    intro j a h3 h4 ha
    show (X5_undo_lp30b vM aM (X5_undo_lp30 vM aM n) (nI j) a).1 = nI u ∧ (X5_undo_lp30b vM aM (X5_undo_lp30 vM aM n) (nI j) a).2.1 = upd (upd vM 21 0) 3 (nI u) ∧ (∀ k, k ≠ 0 → (X5_undo_lp30b vM aM (X5_undo_lp30 vM aM n) (nI j) a).2.2 k = a k) ∧ ∀ i, (X5_undo_lp30b vM aM (X5_undo_lp30 vM aM n) (nI j) a).2.2 0 i = if j ≤ i ∧ i < 64 then aM 2 (64 * u + i) else a 0 i
    unfold X5_undo_lp30b
    rw [e3]
    by_cases c : (64 : Int32) ≤ nI j
    · rw [if_pos c]
      have := k_ge64 h3 c
      exact ⟨rfl, rfl, fun _ _ => rfl, fun i => by rw [if_neg (by omega)]⟩
    · rw [if_neg c]
      have hj := k_lt64 h3 c
      rw [k_64 u j (by omega) hj, nI_clamp (n := j) (by omega), nI_add1, ha]
      obtain ⟨i1, i2, i3, i4⟩ := ih (j + 1) (va_up a 0 (upd (a 0) j (aM 2 (64 * u + j)))) hj (by omega) ((va_un (by decide)).trans ha)
      refine ⟨i1, i2, fun k hk => (i3 k hk).trans (va_un hk), fun i => ?_⟩
      rw [i4 i, va_us]
      by_cases e : i = j
      · subst e
        rw [pk_us, if_neg (by omega), if_pos (by omega)]
      · rw [pk_un e]
        by_cases f : j + 1 ≤ i ∧ i < 64
        · rw [if_pos f, if_pos (by omega)]
        · rw [if_neg f, if_neg (by omega)]
theorem save_lp : ∀ (n j : Nat) (a : Nat → Nat → Int32), j ≤ 64 → 64 - j < n → a 0 = aM 0 → (X5_save_lp12 vM aM n (nI j) a).1 = aM 0 0 ∧ (X5_save_lp12 vM aM n (nI j) a).2.1 = upd (upd vM 21 0) 5 1 ∧ (∀ k, k ≠ 4 → (X5_save_lp12 vM aM n (nI j) a).2.2 k = a k) ∧ ∀ i, (X5_save_lp12 vM aM n (nI j) a).2.2 4 i = if j ≤ i ∧ i < 64 then aM 0 i else a 4 i := by
  intro n
  induction n with
  | zero => intro j a h3 h4; omega
  | succ n ih =>
    intro j a h3 h4 ha
    show (X5_save_lp12b vM aM (X5_save_lp12 vM aM n) (nI j) a).1 = aM 0 0 ∧ (X5_save_lp12b vM aM (X5_save_lp12 vM aM n) (nI j) a).2.1 = upd (upd vM 21 0) 5 1 ∧ (∀ k, k ≠ 4 → (X5_save_lp12b vM aM (X5_save_lp12 vM aM n) (nI j) a).2.2 k = a k) ∧ ∀ i, (X5_save_lp12b vM aM (X5_save_lp12 vM aM n) (nI j) a).2.2 4 i = if j ≤ i ∧ i < 64 then aM 0 i else a 4 i
    unfold X5_save_lp12b
    rw [ha]
    by_cases c : (64 : Int32) ≤ nI j
    · rw [if_pos c]
      have := k_ge64 h3 c
      exact ⟨rfl, rfl, fun _ _ => rfl, fun i => by rw [if_neg (by omega)]⟩
    · rw [if_neg c]
      have hj := k_lt64 h3 c
      rw [nI_clamp (n := j) (by omega), nI_add1]
      obtain ⟨i1, i2, i3, i4⟩ := ih (j + 1) (va_up a 4 (upd (a 4) j (aM 0 j))) hj (by omega) ((va_un (by decide)).trans ha)
      refine ⟨i1, i2, fun k hk => (i3 k hk).trans (va_un hk), fun i => ?_⟩
      rw [i4 i, va_us]
      by_cases e : i = j
      · subst e
        rw [pk_us, if_neg (by omega), if_pos (by omega)]
      · rw [pk_un e]
        by_cases f : j + 1 ≤ i ∧ i < 64
        · rw [if_pos f, if_pos (by omega)]
        · rw [if_neg f, if_neg (by omega)]
theorem rest_lp : ∀ (n j : Nat) (a : Nat → Nat → Int32), j ≤ 64 → 64 - j < n → a 4 = aM 4 → (X5_restore_lp20 vM aM n (nI j) a).1 = (X5_restore_lp20 vM aM n (nI j) a).2.2 0 0 ∧ (X5_restore_lp20 vM aM n (nI j) a).2.1 = upd (upd vM 21 0) 3 0 ∧ (∀ k, k ≠ 0 → (X5_restore_lp20 vM aM n (nI j) a).2.2 k = a k) ∧ ∀ i, (X5_restore_lp20 vM aM n (nI j) a).2.2 0 i = if j ≤ i ∧ i < 64 then aM 4 i else a 0 i := by
  intro n
  induction n with
  | zero => intro j a h3 h4; omega
  | succ n ih =>
    intro j a h3 h4 ha
    show (X5_restore_lp20b vM aM (X5_restore_lp20 vM aM n) (nI j) a).1 = (X5_restore_lp20b vM aM (X5_restore_lp20 vM aM n) (nI j) a).2.2 0 0 ∧ (X5_restore_lp20b vM aM (X5_restore_lp20 vM aM n) (nI j) a).2.1 = upd (upd vM 21 0) 3 0 ∧ (∀ k, k ≠ 0 → (X5_restore_lp20b vM aM (X5_restore_lp20 vM aM n) (nI j) a).2.2 k = a k) ∧ ∀ i, (X5_restore_lp20b vM aM (X5_restore_lp20 vM aM n) (nI j) a).2.2 0 i = if j ≤ i ∧ i < 64 then aM 4 i else a 0 i
    unfold X5_restore_lp20b
    rw [ha]
    by_cases c : (64 : Int32) ≤ nI j
    · rw [if_pos c]
      have := k_ge64 h3 c
      exact ⟨rfl, rfl, fun _ _ => rfl, fun i => by rw [if_neg (by omega)]⟩
    · rw [if_neg c]
      have hj := k_lt64 h3 c
      rw [nI_clamp (n := j) (by omega), nI_add1]
      obtain ⟨i1, i2, i3, i4⟩ := ih (j + 1) (va_up a 0 (upd (a 0) j (aM 4 j))) hj (by omega) ((va_un (by decide)).trans ha)
      refine ⟨i1, i2, fun k hk => (i3 k hk).trans (va_un hk), fun i => ?_⟩
      rw [i4 i, va_us]
      by_cases e : i = j
      · subst e
        rw [pk_us, if_neg (by omega), if_pos (by omega)]
      · rw [pk_un e]
        by_cases f : j + 1 ≤ i ∧ i < 64
        · rw [if_pos f, if_pos (by omega)]
        · rw [if_neg f, if_neg (by omega)]
theorem k_back (h : Nat) (hh : h < 9) : (nI h + 9 - 1 - (nI h + 9 - 1) / 9 * 9) = nI ((h + 8) % 9) := (by decide +kernel : ∀ h, h < 9 → (nI h + 9 - 1 - (nI h + 9 - 1) / 9 * 9 : Int32) = nI ((h + 8) % 9)) h hh
theorem undo_ok (hR : kRel N vF vC aC vS aS vH aH vR vT aT t k vM aM) : ((X5_undo_f vM aM).2.1) 21 = kLk1 ((X4_undo_f vF vC aC vH aH).1) ∧ ((X4_undo_f vF vC aC vH aH).1 = 0 → (X5_undo_f vM aM).1 = (X4_undo_f vF vC aC vH aH).2.1) ∧ kRel (N + 60) vF ((X4_undo_f vF vC aC vH aH).2.2.1) ((X4_undo_f vF vC aC vH aH).2.2.2.1) vS aS ((X4_undo_f vF vC aC vH aH).2.2.2.2) aH vR vT aT t k ((X5_undo_f vM aM).2.1) ((X5_undo_f vM aM).2.2) := by
  have hR' := hR
  obtain ⟨r1, r2, ⟨u, h0, b1, b2, b3, b4, b5, b6⟩, ⟨e1, e2, e3⟩, r5, r6, r7⟩ := hR
  cases u with
  | zero =>
    rw [show X4_undo_f vF vC aC vH aH = _ from if_pos b4, show X5_undo_f vM aM = _ from if_pos b5]
    refine ⟨rfl, fun z => (by cases z), kRel_ro hR' fun i h1 h2 => ?_⟩
    exact (pk_un (by omega)).trans (pk_un (by omega))
  | succ u =>
    have hu : u < 8 := by omega
    have ne : ¬ nI (u + 1) = 0 := fun z => by have := (nI_eq (b := 0) (by omega) (by omega)).mp z; omega
    have e31 : vM 3 - 1 = nI u := by rw [b5]; exact pk_sub (a := u + 1) (b := 1) (by omega)
    have e21 : vH 2 - 1 = nI u := by rw [b4]; exact pk_sub (a := u + 1) (b := 1) (by omega)
    rw [show X4_undo_f vF vC aC vH aH = _ from if_neg (by rw [b4]; exact ne), show X5_undo_f vM aM = _ from if_neg (by rw [b5]; exact ne)]
    obtain ⟨w1, w2, w3, w4⟩ := undo_lp hu e31 65 0 aM (by omega) (by omega) rfl
    rw [nI_0] at w1 w2 w3 w4
    generalize X5_undo_lp30 vM aM 65 0 aM = R at w1 w2 w3 w4 ⊢
    have et : X2_takeBack_f vH aH vC aC = (upd (upd vH 1 (nI ((h0 + 8) % 9))) 2 (nI u), X0_copyFrom_f (aH ((h0 + 8) % 9)).1 (aH ((h0 + 8) % 9)).2 vC aC) := by
      unfold X2_takeBack_f
      rw [b3, k_back h0 b2, nI_clamp (n := (h0 + 8) % 9) (by omega), e21]
    rw [et]
    dsimp only
    have hW : ∀ i, i ≠ 3 → i ≠ 21 → R.2.1 i = vM i := fun i h1 h2 => (congrFun w2 i).trans ((pk_un h1).trans (pk_un h2))
    refine ⟨(congrFun w2 21).trans ((pk_un (by decide)).trans pk_us), fun _ => w1.trans pk_us.symm, ?_⟩
    have hb := b6 u (by omega)
    rw [show (h0 + 9 - (u + 1) + u) % 9 = (h0 + 8) % 9 by omega] at hb
    refine kRel_mk hR' (Nat.le_add_right N 60) ?_ ⟨u, (h0 + 8) % 9, by omega, by omega, ?_, pk_us, (congrFun w2 3).trans pk_us, fun j hj => ?_⟩ ⟨(hW 14 (by decide) (by decide)).trans e1, (hW 15 (by decide) (by decide)).trans e2, (hW 17 (by decide) (by decide)).trans e3⟩ (hW 5 (by decide) (by decide)) (hW 7 (by decide) (by decide)) (hW 9 (by decide) (by decide)) (hW 13 (by decide) (by decide)) (fun i hi => w3 i (by omega))
    · exact SimC.mono (Nat.le_add_right N 60) (SimC.copy (fun i hi => (w4 i).trans (if_pos ⟨Nat.zero_le i, hi⟩)) hb)
    · exact (pk_un (by decide)).trans pk_us
    · rw [show ((h0 + 8) % 9 + 9 - u + j) % 9 = (h0 + 9 - (u + 1) + j) % 9 by omega, show R.2.2 2 = aM 2 from w3 2 (by decide)]
      exact (b6 j (by omega)).mono (Nat.le_add_right N 60)
theorem restore_ok (hR : kRel N vF vC aC vS aS vH aH vR vT aT t k vM aM) : ((X5_restore_f vM aM).2.1) 21 = kLk1 ((X4_restore_f vF vC aC vS aS vH aH).1) ∧ ((X4_restore_f vF vC aC vS aS vH aH).1 = 0 → (X5_restore_f vM aM).1 = (X4_restore_f vF vC aC vS aS vH aH).2.1) ∧ kRel (N + 60) vF ((X4_restore_f vF vC aC vS aS vH aH).2.2.1) ((X4_restore_f vF vC aC vS aS vH aH).2.2.2.1) vS aS ((X4_restore_f vF vC aC vS aS vH aH).2.2.2.2) aH vR vT aT t k ((X5_restore_f vM aM).2.1) ((X5_restore_f vM aM).2.2) := by
  have hR' := hR
  obtain ⟨r1, r2, ⟨u, h0, b1, b2, b3, b4, b5, b6⟩, ⟨e1, e2, e3⟩, r5, r6, r7⟩ := hR
  rcases r2 with ⟨s1, s2⟩ | ⟨s1, s2, s3⟩
  · rw [show X4_restore_f vF vC aC vS aS vH aH = _ from if_pos s1, show X5_restore_f vM aM = _ from if_pos s2]
    refine ⟨rfl, fun z => (by cases z), kRel_ro hR' fun i h1 h2 => ?_⟩
    exact (pk_un (by omega)).trans (pk_un (by omega))
  · rw [show X4_restore_f vF vC aC vS aS vH aH = _ from if_neg (by rw [s1]; decide), show X5_restore_f vM aM = _ from if_neg (by rw [s2]; decide)]
    dsimp only
    obtain ⟨w1, w2, w3, w4⟩ := rest_lp (vM := vM) (aM := aM) 65 0 aM (by omega) (by omega) rfl
    rw [nI_0] at w1 w2 w3 w4
    generalize X5_restore_lp20 vM aM 65 0 aM = R at w1 w2 w3 w4 ⊢
    have hW : ∀ i, i ≠ 3 → i ≠ 21 → R.2.1 i = vM i := fun i h1 h2 => (congrFun w2 i).trans ((pk_un h1).trans (pk_un h2))
    have hs : SimC N (X0_copyFrom_f vS aS vC aC).1 (X0_copyFrom_f vS aS vC aC).2 (R.2.2 0) := SimC.copy (fun i hi => (w4 i).trans (if_pos ⟨Nat.zero_le i, hi⟩)) s3
    refine ⟨(congrFun w2 21).trans ((pk_un (by decide)).trans pk_us), fun _ => w1.trans hs.dayE, ?_⟩
    refine kRel_mk hR' (Nat.le_add_right N 60) (hs.mono (Nat.le_add_right N 60)) ⟨0, h0, by omega, b2, (pk_un (by decide)).trans b3, pk_us, (congrFun w2 3).trans pk_us, fun j hj => by omega⟩ ⟨(hW 14 (by decide) (by decide)).trans e1, (hW 15 (by decide) (by decide)).trans e2, (hW 17 (by decide) (by decide)).trans e3⟩ (hW 5 (by decide) (by decide)) (hW 7 (by decide) (by decide)) (hW 9 (by decide) (by decide)) (hW 13 (by decide) (by decide)) (fun i hi => w3 i (by omega))
theorem save_ok (hR : kRel N vF vC aC vS aS vH aH vR vT aT t k vM aM) : (X5_save_f vM aM).1 = (X4_save_f vF vC aC vS aS).1 ∧ kRel (N + 60) ((X4_save_f vF vC aC vS aS).2.1) vC aC ((X4_save_f vF vC aC vS aS).2.2.1) ((X4_save_f vF vC aC vS aS).2.2.2) vH aH vR vT aT t k ((X5_save_f vM aM).2.1) ((X5_save_f vM aM).2.2) := by
  obtain ⟨r1, r2, r3, ⟨e1, e2, e3⟩, r5, ⟨⟨ln, t1, t2, t3, t4⟩, t5⟩, l1, l2, l3⟩ := hR
  obtain ⟨w1, w2, w3, w4⟩ := save_lp (vM := vM) (aM := aM) 65 0 aM (by omega) (by omega) rfl
  rw [nI_0] at w1 w2 w3 w4
  unfold X5_save_f X4_save_f
  dsimp only
  generalize X5_save_lp12 vM aM 65 0 aM = R at w1 w2 w3 w4 ⊢
  have hW : ∀ i, i ≠ 5 → i ≠ 21 → R.2.1 i = vM i := fun i h1 h2 => (congrFun w2 i).trans ((pk_un h1).trans (pk_un h2))
  have w3' : ∀ k, k ≠ 4 → R.2.2 k = aM k := w3
  have w4' : ∀ i, i < 64 → R.2.2 4 i = aM 0 i := fun i hi => (w4 i).trans (if_pos ⟨Nat.zero_le i, hi⟩)
  refine ⟨w1.trans r1.dayE, ?_, .inr ⟨pk_us, (congrFun w2 5).trans pk_us, SimC.mono (Nat.le_add_right N 60) (SimC.copy w4' r1)⟩, r3.cong (Nat.le_add_right N 60) (hW 3 (by decide) (by decide)) (w3' 2 (by decide)), ⟨(hW 14 (by decide) (by decide)).trans e1, (hW 15 (by decide) (by decide)).trans e2, (hW 17 (by decide) (by decide)).trans e3⟩, (hW 13 (by decide) (by decide)).trans (r5.trans (pk_un (by decide)).symm), ⟨⟨ln, t1, t2, (hW 9 (by decide) (by decide)).trans t3, ?_⟩, ?_⟩, l1, (hW 7 (by decide) (by decide)).trans l2, ?_⟩
  · rw [w3' 0 (by decide)]
    exact r1.mono (Nat.le_add_right N 60)
  · rw [w3' 8 (by decide)]; exact t4
  · unfold kCh5; rw [w3' 8 (by decide)]; exact t5
  · rw [w3' 6 (by decide)]; exact l3
end S9
