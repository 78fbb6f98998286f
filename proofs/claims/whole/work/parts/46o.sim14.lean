/-! commands -/
section S14
variable {N N' : Nat} {vF vF' vC vC' : Nat → Int32} {aC aC' : Nat → Nat → Int32} {vS vS' : Nat → Int32} {aS aS' : Nat → Nat → Int32} {vH vH' : Nat → Int32} {aH aH' : Nat → (Nat → Int32) × (Nat → Nat → Int32)} {vR vR' vT vT' : Nat → Int32} {aR aT aT' : Nat → Nat → Int32} {t : Nat → Nat} {k : Nat} {vM vM' : Nat → Int32} {aM aM' : Nat → Nat → Int32} {p p0 p1 p2 p3 x y : Int32} {S : Nat → Int32}
theorem kRel_cm (hR : kRel N vF vC aC vS aS vH aH vR vT aT t k vM aM) (hN : N ≤ N') (hs : SimC N' vC' aC' (aM' 0)) (hh : kHist N' vH' aH' vM' aM') (hr : vM' 14 = vR' 0 ∧ vM' 15 = vR' 1 ∧ vM' 17 = vR' 2) (hf : vF' 2 = vF 2) (h13 : vM' 13 = vF' 6) (h1 : vT' 1 = 0) (h9 : vM' 9 = 0) (h5 : vM' 5 = vM 5) (h7 : vM' 7 = vM 7) (ha : ∀ k, 3 ≤ k → k ≠ 12 → aM' k = aM k) : kRel N' vF' vC' aC' vS aS vH' aH' vR' vT' aT' t k vM' aM' := by
  obtain ⟨r1, r2, r3, r4, r5, ⟨⟨ln, t1, t2, t3, t4⟩, t5⟩, l1, l2, l3⟩ := hR
  refine ⟨hs, r2.cong hN h5 (ha 4 (by decide) (by decide)) hf, hh, hr, h13, ⟨⟨0, by omega, h1, h9, fun i hi => by omega⟩, ?_⟩, l1, h7.trans l2, ?_⟩
  · unfold kCh5; rw [ha 8 (by decide) (by decide)]; exact t5
  · rw [ha 6 (by decide) (by decide)]; exact l3
theorem back_lp : ∀ (n j : Nat) (a : Nat → Nat → Int32), j ≤ 64 → 64 - j < n → a 1 = aM 1 → (∀ k, k ≠ 0 → X5_comesBack_lp2 vM aM n (nI j) a k = a k) ∧ ∀ i, X5_comesBack_lp2 vM aM n (nI j) a 0 i = if j ≤ i ∧ i < 64 then aM 1 i else a 0 i := by
  intro n
  induction n with
  | zero => intro j a h3 h4; omega
  | succ n ih =>
    intro j a h3 h4 ha
    show (∀ k, k ≠ 0 → X5_comesBack_lp2b vM aM (X5_comesBack_lp2 vM aM n) (nI j) a k = a k) ∧ ∀ i, X5_comesBack_lp2b vM aM (X5_comesBack_lp2 vM aM n) (nI j) a 0 i = if j ≤ i ∧ i < 64 then aM 1 i else a 0 i
    unfold X5_comesBack_lp2b
    rw [ha]
    by_cases c : (64 : Int32) ≤ nI j
    · rw [if_pos c]
      have := k_ge64 h3 c
      exact ⟨fun _ _ => rfl, fun i => by rw [if_neg (by omega)]⟩
    · rw [if_neg c]
      have hj := k_lt64 h3 c
      rw [nI_clamp (n := j) (by omega), nI_add1]
      obtain ⟨i3, i4⟩ := ih (j + 1) (va_up a 0 (upd (a 0) j (aM 1 j))) hj (by omega) ((va_un (by decide)).trans ha)
      refine ⟨fun k hk => (i3 k hk).trans (va_un hk), fun i => ?_⟩
      rw [i4 i, va_us]
      by_cases e : i = j
      · subst e
        rw [pk_us, if_neg (by omega), if_pos (by omega)]
      · rw [pk_un e]
        by_cases f : j + 1 ≤ i ∧ i < 64
        · rw [if_pos f, if_pos (by omega)]
        · rw [if_neg f, if_neg (by omega)]
theorem back_ok : (∀ k, k ≠ 0 → X5_comesBack_f vM aM k = aM k) ∧ ∀ i, i < 64 → X5_comesBack_f vM aM 0 i = aM 1 i := by
  obtain ⟨w1, w2⟩ := back_lp (vM := vM) (aM := aM) 65 0 aM (by omega) (by omega) rfl
  rw [nI_0] at w1 w2
  unfold X5_comesBack_f
  generalize X5_comesBack_lp2 vM aM 65 0 aM = R at *
  exact ⟨w1, fun i hi => (w2 i).trans (if_pos ⟨Nat.zero_le i, hi⟩)⟩
/-- what was held is taken out again -/
theorem hold_ok (hs : SimC N vC aC (aM 0)) (h : kHist N vH aH vM aM) (h3 : vM' 3 = vM 3) (a2 : aM' 2 = aM 2) : kHist N vH (X2_hold_f vH aH vC aC) vM' aM' ∧ ∀ m, (∀ i, i < 64 → m i = aM 0 i) → SimC N (X2_bringBackHeld_f vH (X2_hold_f vH aH vC aC) vC' aC').1 (X2_bringBackHeld_f vH (X2_hold_f vH aH vC aC) vC' aC').2 m := by
  obtain ⟨u, h0, b1, b2, b3, b4, b5, b6⟩ := h
  have eh : X2_hold_f vH aH vC aC = va_up aH h0 (X0_copyFrom_f vC aC (aH h0).1 (aH h0).2) := by
    unfold X2_hold_f
    rw [b3, nI_clamp (n := h0) (by omega)]
  rw [eh]
  refine ⟨⟨u, h0, b1, b2, b3, b4, h3.trans b5, fun j hj => ?_⟩, fun m hm => ?_⟩
  · rw [va_un (by omega), a2]
    exact b6 j hj
  · unfold X2_bringBackHeld_f
    rw [b3, nI_clamp (n := h0) (by omega), va_us]
    exact SimC.copy (m := m) (fun _ _ => rfl) (SimC.copy hm hs)
theorem s_commands (hN : N < 90000) (hR : kRel N vF vC aC vS aS vH aH vR vT aT t k vM aM) : ((X5_commands_f vM aM).2.1) 21 = kLk2 3 ((X4_commands_f vF vC aC vH aH vR aR vT aT).1) ∧ ((X4_commands_f vF vC aC vH aH vR aR vT aT).1 = 0 → (X5_commands_f vM aM).1 = (X4_commands_f vF vC aC vH aH vR aR vT aT).2.1) ∧ kRel (N + 60) ((X4_commands_f vF vC aC vH aH vR aR vT aT).2.2.1) ((X4_commands_f vF vC aC vH aH vR aR vT aT).2.2.2.1) ((X4_commands_f vF vC aC vH aH vR aR vT aT).2.2.2.2.1) vS aS ((X4_commands_f vF vC aC vH aH vR aR vT aT).2.2.2.2.2.1) ((X4_commands_f vF vC aC vH aH vR aR vT aT).2.2.2.2.2.2.1) ((X4_commands_f vF vC aC vH aH vR aR vT aT).2.2.2.2.2.2.2.1) ((X4_commands_f vF vC aC vH aH vR aR vT aT).2.2.2.2.2.2.2.2.1) ((X4_commands_f vF vC aC vH aH vR aR vT aT).2.2.2.2.2.2.2.2.2) t k ((X5_commands_f vM aM).2.1) ((X5_commands_f vM aM).2.2) := by
  have hR' := hR
  obtain ⟨r1, r2, r3, ⟨e1, e2, e3⟩, r5, ⟨⟨ln, t1, t2, t3, t4⟩, t5⟩, l1, l2, l3⟩ := hR
  have hk := rd_first (ln := ln) (vT := upd vT 2 0) (aT := aT) (vM := upd (kTv vM) 10 0) (aM := kTa aM) t1 ((pk_un (by decide)).trans t2) ((pk_un (by decide)).trans ((kTv_n (by decide) (by decide)).trans t3)) pk_us pk_us (fun i hi => (show kTa aM 8 i = aM 8 i from congrFun (va_un (by decide)) i).trans (t4 i hi))
  have hcl : X1_countCommands_f vT aT = X1_countCommands_lp7 vT aT 61 (nI 1) (upd vT 2 0) aT := rfl
  have hcm : X5_commands_f vM aM = X5_commands_lp14 vM aM 62 (b2i (X5_isCommand_f (upd (kTv vM) 10 0) (kTa aM)).1) (X5_isCommand_f (upd (kTv vM) 10 0) (kTa aM)).2.1 (X5_isCommand_f (upd (kTv vM) 10 0) (kTa aM)).2.2 := rfl
  rcases cnt_lp (v0 := vT) (w0 := vM) (b1 := aT) (b0 := aM) (tx := aT 0) t1 61 1 0 62 (upd vT 2 0) aT _ _ _ hk ((pk_un (by decide)).trans t2) pk_us (fun _ _ => rfl) (by omega) (by omega) (by omega) (by omega) (by omega) with ⟨vT', aT', vM', aM', a', y1, y2, y3, y4, y5, y6⟩ | ⟨r, vT', aT', vM', aM', y1, y2, y3, y4, y5⟩
  · rw [← hcl] at y2
    rw [← hcm] at y3
    have hW : ∀ i, i ≠ 10 → i ≠ 11 → i ≠ 16 → i ≠ 21 → vM' i = vM i := fun i h1 h2 h3 h4 => (y6.2.2.1 i h1 h2).trans ((pk_un h1).trans (kTv_n h3 h4))
    have hA : ∀ i, i ≠ 1 → i ≠ 12 → aM' i = aM i := fun i h1 h2 => (y6.2.2.2 i h2).trans (va_un h1)
    have hc : X4_commands_f vF vC aC vH aH vR aR vT aT = (3, 0, upd vF 6 (vT' 2), vC, aC, vH, aH, vR, upd vT' 1 0, aT') := by
      unfold X4_commands_f
      rw [y2, if_neg (show ¬ (0 : Int32) ≤ -1 by decide)]
      unfold X4_commands_j27
      rw [if_pos (show (-1 : Int32) ≤ 0 by decide)]
      unfold X4_commands_j45
      rw [if_neg (show ¬ upd vF 6 (vT' 2) 6 < 0 by rw [pk_us, y4]; exact nI_pos (by omega))]
    have hm : X5_commands_f vM aM = (0, upd (upd (upd vM' 13 (vM' 10)) 9 0) 21 1, aM') := by
      rw [y3]
      unfold X5_commands_j54
      rw [if_pos rfl, if_pos rfl]
    rw [hc, hm]
    dsimp only
    refine ⟨rfl, fun z => absurd (show (3 : Nat) = 0 from z) (by decide), ?_⟩
    have hV : ∀ i, i ≠ 9 → i ≠ 10 → i ≠ 11 → i ≠ 13 → i ≠ 16 → i ≠ 21 → upd (upd (upd vM' 13 (vM' 10)) 9 0) 21 1 i = vM i := fun i h1 h2 h3 h4 h5 h6 => (pk_un h6).trans ((pk_un h1).trans ((pk_un h4).trans (hW i h2 h3 h5 h6)))
    refine kRel_cm hR' (Nat.le_add_right N 60) ?_ (r3.cong (Nat.le_add_right N 60) (hV 3 (by decide) (by decide) (by decide) (by decide) (by decide) (by decide)) (hA 2 (by decide) (by decide))) ⟨(hV 14 (by decide) (by decide) (by decide) (by decide) (by decide) (by decide)).trans e1, (hV 15 (by decide) (by decide) (by decide) (by decide) (by decide) (by decide)).trans e2, (hV 17 (by decide) (by decide) (by decide) (by decide) (by decide) (by decide)).trans e3⟩ (pk_un (by decide)) ?_ pk_us ((pk_un (by decide)).trans pk_us) (hV 5 (by decide) (by decide) (by decide) (by decide) (by decide) (by decide)) (hV 7 (by decide) (by decide) (by decide) (by decide) (by decide) (by decide)) (fun i h1 h2 => hA i (by omega) h2)
    · show SimC (N + 60) vC aC (aM' 0)
      rw [hA 0 (by decide) (by decide)]
      exact r1.mono (Nat.le_add_right N 60)
    · show upd (upd (upd vM' 13 (vM' 10)) 9 0) 21 1 13 = upd vF 6 (vT' 2) 6
      rw [pk_un (by decide), pk_un (by decide), pk_us, pk_us, y4, y5]
  · rw [← hcl] at y2
    rw [← hcm] at y3
    have hW : ∀ i, i ≠ 10 → i ≠ 11 → i ≠ 16 → i ≠ 21 → vM' i = vM i := fun i h1 h2 h3 h4 => (y4.2.2.1 i h1 h2).trans ((pk_un h1).trans (kTv_n h3 h4))
    have hA : ∀ i, i ≠ 1 → i ≠ 12 → aM' i = aM i := fun i h1 h2 => (y4.2.2.2 i h2).trans (va_un h1)
    have hA1 : ∀ i, i < 64 → aM' 1 i = aM 0 i := fun i hi => (congrFun (y4.2.2.2 1 (by decide)) i).trans (kTa_1 i hi)
    have hT1 : vT' 1 = nI ln := (y4.1 1 (by decide) (by decide)).trans ((pk_un (by decide)).trans t2)
    have htx : ∀ i, i < ln → aT' 0 i = aT 0 i := fun i hi => congrFun (y4.2.1 0 (by decide)) i
    have hm : X5_commands_f vM aM = X5_commands_lp94 vM aM 62 1 (nI 0) 1 (upd (upd vM' 13 (-1)) 10 0) aM' := by
      rw [y3]
      unfold X5_commands_j54
      rw [if_neg (show ¬ (1 : Int32) = 0 by decide), if_neg (show ¬ (1 : Int32) = 0 by decide)]
      rfl
    have hpos : ¬ nI (1 + r) ≤ 0 := k6_nle (a := 0) (b := 1 + r) y1 (by omega)
    have hc : X4_commands_f vF vC aC vH aH vR aR vT aT = if (X4_carryOutCommands_f (upd vF 6 (-1)) vC aC vH aH vR aR vT' aT' (nI (1 + r))).1 = true then X4_commands_j45 vF vC aC vH aH vR aR vT aT (nI (1 + r)) 1 (upd vF 6 (-1)) ((X4_carryOutCommands_f (upd vF 6 (-1)) vC aC vH aH vR aR vT' aT' (nI (1 + r))).2.1) ((X4_carryOutCommands_f (upd vF 6 (-1)) vC aC vH aH vR aR vT' aT' (nI (1 + r))).2.2.1) ((X4_carryOutCommands_f (upd vF 6 (-1)) vC aC vH aH vR aR vT' aT' (nI (1 + r))).2.2.2.1) ((X4_carryOutCommands_f (upd vF 6 (-1)) vC aC vH aH vR aR vT' aT' (nI (1 + r))).2.2.2.2.1) ((X4_carryOutCommands_f (upd vF 6 (-1)) vC aC vH aH vR aR vT' aT' (nI (1 + r))).2.2.2.2.2.1) ((X4_carryOutCommands_f (upd vF 6 (-1)) vC aC vH aH vR aR vT' aT' (nI (1 + r))).2.2.2.2.2.2.1) ((X4_carryOutCommands_f (upd vF 6 (-1)) vC aC vH aH vR aR vT' aT' (nI (1 + r))).2.2.2.2.2.2.2)
        else X4_commands_j45 vF vC aC vH aH vR aR vT aT (nI (1 + r)) 0 (upd vF 6 (-1)) ((X4_carryOutCommands_f (upd vF 6 (-1)) vC aC vH aH vR aR vT' aT' (nI (1 + r))).2.1) ((X4_carryOutCommands_f (upd vF 6 (-1)) vC aC vH aH vR aR vT' aT' (nI (1 + r))).2.2.1) ((X4_carryOutCommands_f (upd vF 6 (-1)) vC aC vH aH vR aR vT' aT' (nI (1 + r))).2.2.2.1) ((X4_carryOutCommands_f (upd vF 6 (-1)) vC aC vH aH vR aR vT' aT' (nI (1 + r))).2.2.2.2.1) ((X4_carryOutCommands_f (upd vF 6 (-1)) vC aC vH aH vR aR vT' aT' (nI (1 + r))).2.2.2.2.2.1) ((X4_carryOutCommands_f (upd vF 6 (-1)) vC aC vH aH vR aR vT' aT' (nI (1 + r))).2.2.2.2.2.2.1) ((X4_carryOutCommands_f (upd vF 6 (-1)) vC aC vH aH vR aR vT' aT' (nI (1 + r))).2.2.2.2.2.2.2) := by
      unfold X4_commands_f
      rw [y2, if_pos (show (0 : Int32) ≤ nI (1 + r) from Int32.not_lt.mp (nI_pos (by omega)))]
      exact if_neg hpos
    have hX9 : upd (upd vM' 13 (-1)) 10 0 9 = nI ln := (pk_un (by decide)).trans ((pk_un (by decide)).trans ((hW 9 (by decide) (by decide) (by decide) (by decide)).trans t3))
    have hall : kAll ln (aT 0) 0 (upd (upd vM' 13 (-1)) 10 0) aM' (X5_isCommand_f (upd (upd vM' 13 (-1)) 10 0) aM') := fun vT aT' h1 h2 h3 => rd_first t1 h1 hX9 h2 pk_us (fun i hi => by rw [hA 8 (by decide) (by decide), h3 i hi]; exact t4 i hi)
    have hL := car_lp (aR := aR) (vF := upd vF 6 (-1)) (vC0 := vC) (vH := vH) (vR0 := vR) (vT0 := vT') (w0 := vM) (aC0 := aC) (aT0 := aT') (b0 := aM) (aH := aH) (p0 := nI (1 + r)) t1 r 0 0 61 62 N 1 vR (upd vT' 2 0) aT' vC aC (upd (upd vM' 13 (-1)) 10 0) aM' (upd (upd vM' 13 (-1)) 10 0) y5 hall ((pk_un (by decide)).trans hT1) pk_us htx (by rw [show 1 + r = 0 + r + 1 by omega]) (by omega) (by rw [hA 0 (by decide) (by decide)]; exact r1) (by omega) (by omega) (by omega)
    have hcar : X4_carryOutCommands_f (upd vF 6 (-1)) vC aC vH aH vR aR vT' aT' (nI (1 + r)) = X4_carryOutCommands_lp29 (upd vF 6 (-1)) vC aC vH aH vR aR vT' aT' (nI (1 + r)) 61 (nI 0) vR (upd vT' 2 0) aT' vC aC := rfl
    rw [← hcar, ← hm] at hL
    rcases hL with ⟨vC', aC', vT2, aT2, vK, aK, z1, z2, z3, z4, z5, z6, z7⟩ | ⟨vC', aC', vR2, vT2, aT2, vK, aK, xx, z1, z2, z3, z4, z5, z6, z7⟩
    · rw [z1, if_pos rfl] at hc
      unfold X4_commands_j45 at hc
      rw [if_pos (show upd vF 6 (-1) 6 < 0 by rw [pk_us]; decide), if_neg (show ¬ (1 : Int32) = 0 by decide)] at hc
      rw [show X5_commands_j142 vM aM 1 (nI (1 + r)) 0 vK aK = X5_keeps_f (upd vK 9 0) aK (nI (1 + r)) from if_neg (by decide)] at z2
      rw [hc, z2]
      dsimp only
      have hV : ∀ i, i ≠ 9 → i ≠ 10 → i ≠ 11 → i ≠ 13 → i ≠ 16 → i ≠ 18 → i ≠ 19 → i ≠ 20 → i ≠ 21 → upd vK 9 0 i = vM i := fun i h1 h2 h3 h4 h5 h6 h7 h8 h9 => (pk_un h1).trans ((z4 i h2 h3 h5 h6 h7 h8).trans ((pk_un h2).trans ((pk_un h4).trans (hW i h2 h3 h5 h9))))
      have v21 : upd vK 9 0 21 = 0 := (pk_un (by decide)).trans ((z4 21 (by decide) (by decide) (by decide) (by decide) (by decide) (by decide)).trans ((pk_un (by decide)).trans ((pk_un (by decide)).trans ((y4.2.2.1 21 (by decide) (by decide)).trans rfl))))
      have v13 : upd vK 9 0 13 = -1 := (pk_un (by decide)).trans ((z4 13 (by decide) (by decide) (by decide) (by decide) (by decide) (by decide)).trans ((pk_un (by decide)).trans pk_us))
      have hv3 := hV 3 (by decide) (by decide) (by decide) (by decide) (by decide) (by decide) (by decide) (by decide) (by decide)
      obtain ⟨u, h0, b1, b2, b3, b4, b5, b6⟩ := r3
      obtain ⟨w1, w2, w3, -⟩ := keeps_ok (vM := upd vK 9 0) (aM := aK) (p := nI (1 + r)) b1 (hv3.trans b5)
      have hist := hist_ok (p := nI (1 + r)) (vK := upd vK 9 0) (aK := aK) r1 ⟨u, h0, b1, b2, b3, b4, b5, b6⟩ hv3 (fun i hi => by rw [z5 1 (by decide) (by decide)]; exact hA1 i hi) ((z5 2 (by decide) (by decide)).trans (hA 2 (by decide) (by decide)))
      refine ⟨(w2 21 (by decide)).trans v21, fun _ => w1, ?_⟩
      refine kRel_cm hR' (Nat.le_add_right N 60) ?_ (hist.cong (Nat.le_add_right N 60) rfl rfl) ⟨(w2 14 (by decide)).trans ((hV 14 (by decide) (by decide) (by decide) (by decide) (by decide) (by decide) (by decide) (by decide) (by decide)).trans e1), (w2 15 (by decide)).trans ((hV 15 (by decide) (by decide) (by decide) (by decide) (by decide) (by decide) (by decide) (by decide) (by decide)).trans e2), (w2 17 (by decide)).trans ((hV 17 (by decide) (by decide) (by decide) (by decide) (by decide) (by decide) (by decide) (by decide) (by decide)).trans e3)⟩ (pk_un (by decide)) ((w2 13 (by decide)).trans (v13.trans pk_us.symm)) pk_us ((w2 9 (by decide)).trans pk_us) ((w2 5 (by decide)).trans (hV 5 (by decide) (by decide) (by decide) (by decide) (by decide) (by decide) (by decide) (by decide) (by decide))) ((w2 7 (by decide)).trans (hV 7 (by decide) (by decide) (by decide) (by decide) (by decide) (by decide) (by decide) (by decide) (by decide))) (fun i h1 h2 => (w3 i (by omega)).trans ((z5 i (by omega) h2).trans (hA i (by omega) h2)))
      rw [w3 0 (by decide)]
      exact z3.mono (by omega)
    · rw [z1, if_neg Bool.false_ne_true] at hc
      unfold X4_commands_j45 at hc
      rw [if_pos (show upd vF 6 (-1) 6 < 0 by rw [pk_us]; decide), if_pos rfl] at hc
      rw [show X5_commands_j142 vM aM 0 xx 0 vK aK = (0, upd (upd vK 9 0) 21 2, X5_comesBack_f (upd vK 9 0) aK) from if_pos rfl] at z2
      rw [hc, z2]
      dsimp only
      have hV : ∀ i, i ≠ 9 → i ≠ 10 → i ≠ 11 → i ≠ 13 → i ≠ 14 → i ≠ 15 → i ≠ 16 → i ≠ 17 → i ≠ 18 → i ≠ 19 → i ≠ 20 → i ≠ 21 → upd (upd vK 9 0) 21 2 i = vM i := fun i h1 h2 h3 h4 h5 h6 h7 h8 h9 h10 h11 h12 => (pk_un h12).trans ((pk_un h1).trans ((z4 i h2 h3 h5 h6 h7 h8 h9 h10 h11).trans ((pk_un h2).trans ((pk_un h4).trans (hW i h2 h3 h7 h12)))))
      have v13 : upd (upd vK 9 0) 21 2 13 = -1 := (pk_un (by decide)).trans ((pk_un (by decide)).trans ((z4 13 (by decide) (by decide) (by decide) (by decide) (by decide) (by decide) (by decide) (by decide) (by decide)).trans ((pk_un (by decide)).trans pk_us)))
      obtain ⟨w1, w2⟩ := back_ok (vM := upd vK 9 0) (aM := aK)
      obtain ⟨q1, q2⟩ := hold_ok (vM' := upd (upd vK 9 0) 21 2) (aM' := X5_comesBack_f (upd vK 9 0) aK) (vC' := vC') (aC' := aC') r1 r3 (hV 3 (by decide) (by decide) (by decide) (by decide) (by decide) (by decide) (by decide) (by decide) (by decide) (by decide) (by decide) (by decide)) ((w1 2 (by decide)).trans ((z5 2 (by decide) (by decide)).trans (hA 2 (by decide) (by decide))))
      refine ⟨rfl, fun z => absurd (show (1 : Nat) = 0 from z) (by decide), ?_⟩
      refine kRel_cm hR' (Nat.le_add_right N 60) ?_ (q1.cong (Nat.le_add_right N 60) rfl rfl) ⟨(pk_un (by decide)).trans ((pk_un (by decide)).trans z3.1), (pk_un (by decide)).trans ((pk_un (by decide)).trans z3.2.1), (pk_un (by decide)).trans ((pk_un (by decide)).trans z3.2.2)⟩ (pk_un (by decide)) (v13.trans pk_us.symm) pk_us ((pk_un (by decide)).trans pk_us) (hV 5 (by decide) (by decide) (by decide) (by decide) (by decide) (by decide) (by decide) (by decide) (by decide) (by decide) (by decide) (by decide)) (hV 7 (by decide) (by decide) (by decide) (by decide) (by decide) (by decide) (by decide) (by decide) (by decide) (by decide) (by decide) (by decide)) (fun i h1 h2 => (w1 i (by omega)).trans ((z5 i (by omega) h2).trans (hA i (by omega) h2)))
      exact SimC.mono (Nat.le_add_right N 60) (q2 _ (fun i hi => (w2 i hi).trans ((congrFun (z5 1 (by decide) (by decide)) i).trans (hA1 i hi))))
end S14
