/-! accounts, texts, commands over the object -/
def kAcc (C : kK) (h : List kK) (T : kK) (p : Int32) : Int32 := if p = 14 then nI h.length else kA1 (X4_account_f kF0 C.1 C.2 kF0 (fun _ => (kF0, kA0)) T.1 T.2 p)
theorem kAcc_eq (F : Nat → Int32) (C : kK) {vH : Nat → Int32} {aH : Nat → kK} {h : List kK} (hHi : kHi vH aH h) (T : kK) (p : Int32) : kA1 (X4_account_f F C.1 C.2 vH aH T.1 T.2 p) = kAcc C h T p := by
  unfold kAcc
  by_cases hp : p = 14
  · rw [if_pos hp]
    subst hp
    show vH 2 = _
    exact hHi.kept
  · rw [if_neg hp]
    congr 1
    unfold X4_account_f
    simp only [if_neg hp]
theorem kap_len {F : Nat → Int32} {T : kK} (p : Int32) (h : ∃ n : Nat, n ≤ 60 ∧ T.1 1 = nI n) : ∃ n : Nat, n ≤ 60 ∧ ((X4_append_f F T.1 T.2 p).2.2).1 1 = nI n := by
  obtain ⟨n, hn, h1⟩ := h
  by_cases hc : T.1 1 < 60
  · have e : X4_append_f F T.1 T.2 p = (0, T.1 1 + 1, upd T.1 1 (T.1 1 + 1), va_up T.2 0 (upd (T.2 0) (T.1 1).toNatClampNeg (vp_nar .char p))) := if_pos hc
    rw [h1] at hc
    have : n < 60 := (nI_ltI (b := 60) (by omega) (by omega)).mp hc
    refine ⟨n + 1, by omega, ?_⟩
    rw [e]
    show T.1 1 + 1 = _
    rw [h1]
    exact nI_1 n
  · have e : X4_append_f F T.1 T.2 p = (5, 0, T.1, T.2) := if_neg hc
    exact ⟨n, hn, by rw [e]; exact h1⟩
theorem kct_r {vT0 : Nat → Int32} {aT0 : Nat → Nat → Int32} : ∀ (n j : Nat) (vT : Nat → Int32) (aT : Nat → Nat → Int32), 1 ≤ j → j + n = 62 → 1 ≤ n → (X1_countCommands_lp7 vT0 aT0 n (nI j) vT aT).1 = -1 ∨ ∃ c : Nat, 1 ≤ c ∧ c ≤ 60 ∧ (X1_countCommands_lp7 vT0 aT0 n (nI j) vT aT).1 = nI c
  | 0, _, _, _, _, _, h => absurd h (by omega)
  | n + 1, j, vT, aT, h1, h2, _ => by
    rw [X1_countCommands_lp7_s]
    unfold X1_countCommands_lp7b
    by_cases c1 : 60 < nI j
    · rw [if_pos c1]; exact Or.inl rfl
    rw [if_neg c1]
    have hj : j ≤ 60 := by
      rcases Nat.lt_or_ge 60 j with h | h
      · exact absurd ((nI_ltI (a := 60) (by omega) (by omega)).mpr h) c1
      · exact h
    by_cases c2 : (X1_readCommand_f vT aT).1 = true
    · rw [if_pos c2]
      by_cases c3 : (X1_readCommand_f vT aT).2.1 2 < (X1_readCommand_f vT aT).2.1 1
      · rw [if_pos c3, nI_1]
        exact kct_r n (j + 1) _ _ (by omega) (by omega) (by omega)
      · rw [if_neg c3]; exact Or.inr ⟨j, h1, hj, rfl⟩
    · rw [if_neg c2]; exact Or.inl rfl
/-- the commands one by one: are all carried out; the reason; the Caravan behind them -/
def kRun (cnt : Int32) : Nat → Int32 → (Nat → Int32) → kK → kK → Bool × (Nat → Int32) × kK
  | 0 => fun _ R _ C => (false, R, C)
  | n + 1 => fun i R T C =>
    if cnt ≤ i then (true, R, C)
    else if (X3_applies_f C.1 C.2 R kA0 ((X1_readCommand_f T.1 T.2).2.1 3) ((X1_readCommand_f T.1 T.2).2.2 4 0) ((X1_readCommand_f T.1 T.2).2.2 4 1) ((X1_readCommand_f T.1 T.2).2.2 4 2)).1 = true then (false, upd (X3_applies_f C.1 C.2 R kA0 ((X1_readCommand_f T.1 T.2).2.1 3) ((X1_readCommand_f T.1 T.2).2.2 4 0) ((X1_readCommand_f T.1 T.2).2.2 4 1) ((X1_readCommand_f T.1 T.2).2.2 4 2)).2 2 i, C)
    else kRun cnt n (i + 1) (X3_applies_f C.1 C.2 R kA0 ((X1_readCommand_f T.1 T.2).2.1 3) ((X1_readCommand_f T.1 T.2).2.2 4 0) ((X1_readCommand_f T.1 T.2).2.2 4 1) ((X1_readCommand_f T.1 T.2).2.2 4 2)).2 (X1_readCommand_f T.1 T.2).2 (X0_carryOut_f C.1 C.2 ((X1_readCommand_f T.1 T.2).2.1 3) ((X1_readCommand_f T.1 T.2).2.2 4 0) ((X1_readCommand_f T.1 T.2).2.2 4 1) ((X1_readCommand_f T.1 T.2).2.2 4 2)).2
theorem kRun_lp (F : Nat → Int32) (C : kK) (vH : Nat → Int32) (aH : Nat → kK) (R0 : Nat → Int32) (T0 : kK) {c : Nat} (hc : c ≤ 60) : ∀ (n j : Nat) (R : Nat → Int32) (T D : kK), j + n = 61 → 1 ≤ n → kIC D.1 →
    ∃ T' E : kK, ((kRun (nI c) n (nI j) R T D).1 = true ∧ X4_carryOutCommands_lp29 F C.1 C.2 vH aH R0 kA0 T0.1 T0.2 (nI c) n (nI j) R T.1 T.2 D.1 D.2 = (true, (kRun (nI c) n (nI j) R T D).2.2.1, (kRun (nI c) n (nI j) R T D).2.2.2, X2_keepHeld_f vH (X2_hold_f vH aH C.1 C.2), X2_hold_f vH aH C.1 C.2, (kRun (nI c) n (nI j) R T D).2.1, T'.1, T'.2) ∧ kIC (kRun (nI c) n (nI j) R T D).2.2.1) ∨
      ((kRun (nI c) n (nI j) R T D).1 = false ∧ X4_carryOutCommands_lp29 F C.1 C.2 vH aH R0 kA0 T0.1 T0.2 (nI c) n (nI j) R T.1 T.2 D.1 D.2 = (false, (X2_bringBackHeld_f vH (X2_hold_f vH aH C.1 C.2) E.1 E.2).1, (X2_bringBackHeld_f vH (X2_hold_f vH aH C.1 C.2) E.1 E.2).2, vH, X2_hold_f vH aH C.1 C.2, (kRun (nI c) n (nI j) R T D).2.1, T'.1, T'.2))
  | 0, _, _, _, _, _, h, _ => absurd h (by omega)
  | n + 1, j, R, T, D, h2, _, hD => by
    by_cases c1 : nI c ≤ nI j
    · have e1 : kRun (nI c) (n + 1) (nI j) R T D = (true, R, D) := if_pos c1
      rw [e1]
      exact ⟨T, D, Or.inl ⟨rfl, (X4_carryOutCommands_lp29_s ..).trans (if_pos c1), hD⟩⟩
    have hj : j < c := by
      rcases Nat.lt_or_ge j c with h | h
      · exact h
      · exact absurd ((nI_leI (by omega) (by omega)).mpr h) c1
    by_cases c2 : (X3_applies_f D.1 D.2 R kA0 ((X1_readCommand_f T.1 T.2).2.1 3) ((X1_readCommand_f T.1 T.2).2.2 4 0) ((X1_readCommand_f T.1 T.2).2.2 4 1) ((X1_readCommand_f T.1 T.2).2.2 4 2)).1 = true
    · have e1 : kRun (nI c) (n + 1) (nI j) R T D = (false, upd (X3_applies_f D.1 D.2 R kA0 ((X1_readCommand_f T.1 T.2).2.1 3) ((X1_readCommand_f T.1 T.2).2.2 4 0) ((X1_readCommand_f T.1 T.2).2.2 4 1) ((X1_readCommand_f T.1 T.2).2.2 4 2)).2 2 (nI j), D) := (if_neg c1).trans (if_pos c2)
      rw [e1]
      exact ⟨(X1_readCommand_f T.1 T.2).2, D, Or.inr ⟨rfl, (X4_carryOutCommands_lp29_s ..).trans ((if_neg c1).trans (if_pos c2))⟩⟩
    · have e1 : kRun (nI c) (n + 1) (nI j) R T D = kRun (nI c) n (nI j + 1) (X3_applies_f D.1 D.2 R kA0 ((X1_readCommand_f T.1 T.2).2.1 3) ((X1_readCommand_f T.1 T.2).2.2 4 0) ((X1_readCommand_f T.1 T.2).2.2 4 1) ((X1_readCommand_f T.1 T.2).2.2 4 2)).2 (X1_readCommand_f T.1 T.2).2 (X0_carryOut_f D.1 D.2 ((X1_readCommand_f T.1 T.2).2.1 3) ((X1_readCommand_f T.1 T.2).2.2 4 0) ((X1_readCommand_f T.1 T.2).2.2 4 1) ((X1_readCommand_f T.1 T.2).2.2 4 2)).2 := (if_neg c1).trans (if_neg c2)
      rw [nI_1] at e1
      have e2 := (X4_carryOutCommands_lp29_s F C.1 C.2 vH aH R0 kA0 T0.1 T0.2 (nI c) n (nI j) R T.1 T.2 D.1 D.2).trans ((if_neg c1).trans (if_neg c2))
      rw [nI_1] at e2
      rw [e1, e2]
      exact kRun_lp F C vH aH R0 T0 hc n (j + 1) _ _ _ (by omega) (by omega) (kco_ic (R := R) hD (Bool.eq_false_iff.mpr c2))
abbrev kCt (T : kK) : Int32 × kK := X1_countCommands_f T.1 T.2
def kRunC (C : kK) (R : Nat → Int32) (T : kK) : Bool × (Nat → Int32) × kK := kRun (kCt T).1 61 0 R (upd (kCt T).2.1 2 0, (kCt T).2.2) C
def kCmd (g : kG) (oF : Nat) (F : Nat → Int32) (C S : kK) (h : List kK) (R : Nat → Int32) (T : kK) (ln : kTx) (x : Int32) (u : List va_W) : Prop := ∃ T' : kK, T'.1 1 = 0 ∧
  (((kCt T).1 = -1 ∧ x = -1001 ∧ kOb g oF (upd F 6 ((kCt T).2.1 2)) C S h R T' ln u) ∨
   ((kCt T).1 ≠ -1 ∧ (kRunC C R T).1 = false ∧ x = -1002 ∧ kOb g oF (upd F 6 (-1)) C S h (kRunC C R T).2.1 T' ln u) ∨
   (∃ c : Nat, 1 ≤ c ∧ c ≤ 60 ∧ (kCt T).1 = nI c ∧ (kRunC C R T).1 = true ∧ x = nI c ∧ kIC (kRunC C R T).2.2.1 ∧ kOb g oF (upd F 6 (-1)) (kN (kRunC C R T).2.2) S (kPush C h) (kRunC C R T).2.1 T' ln u))
set_option maxHeartbeats 4000000 in
theorem kcmd_ok {g : kG} {oF : Nat} {F : Nat → Int32} {C S : kK} {h : List kK} {R : Nat → Int32} {T : kK} {ln : kTx} {oC oS oH oR oT oB : Nat} {rC rS rH rR rT : Nat → Nat} {oQ : Nat → Nat} {rQ : Nat → Nat → Nat} {vH : Nat → Int32} {aH : Nat → kK} {q n : Nat} {ml : Int32} {f : Nat → Int32} {x : Int32}
    (hx : x = kA2 3 ((X4_commands_f F C.1 C.2 vH aH R kA0 T.1 T.2).1, (X4_commands_f F C.1 C.2 vH aH R kA0 T.1 T.2).2.1)) (hHi : kHi vH aH h) (hIv : kIv C S h T) (hT4 : (n = 16 ∨ n = 34) ∧ ln.2 ≤ n ∧ sb_Fit f ∧ sb_Lat ln.1 ln.2 f) :
    kCmd g oF F C S h R T ln x [X4W g oF (kFr oC oS oH oR oT oB) (X4_commands_f F C.1 C.2 vH aH R kA0 T.1 T.2).2.2.1, X0W g oC rC (X4_commands_f F C.1 C.2 vH aH R kA0 T.1 T.2).2.2.2.1 (X4_commands_f F C.1 C.2 vH aH R kA0 T.1 T.2).2.2.2.2.1, X0W g oS rS S.1 S.2, X2W g oH rH (X4_commands_f F C.1 C.2 vH aH R kA0 T.1 T.2).2.2.2.2.2.1 oQ rQ (X4_commands_f F C.1 C.2 vH aH R kA0 T.1 T.2).2.2.2.2.2.2.1, X3W g oR rR (X4_commands_f F C.1 C.2 vH aH R kA0 T.1 T.2).2.2.2.2.2.2.2.1 kA0, X1W g oT rT (X4_commands_f F C.1 C.2 vH aH R kA0 T.1 T.2).2.2.2.2.2.2.2.2.1 (X4_commands_f F C.1 C.2 vH aH R kA0 T.1 T.2).2.2.2.2.2.2.2.2.2, JOW oB q ml (nI ln.2), JAW g q n f] := by
  have hok : kOK1 (kCt T).2.1 := (X1_countCommands_q hIv.2.2.2.1).2
  obtain ⟨ln0, ps, hps, hln, hv1, hv2⟩ := hok
  have hT' : ∀ T2 : kK, ∃ n : Nat, n ≤ 60 ∧ (upd T2.1 1 0, T2.2).1 1 = nI n := fun T2 => ⟨0, by omega, rfl⟩
  rcases kct_r (vT0 := T.1) (aT0 := T.2) 61 1 (upd T.1 2 0) T.2 (by omega) (by omega) (by omega) with hm | ⟨c, h1, h60, hc⟩
  · have hm : (kCt T).1 = -1 := hm
    have hG : X4_commands_f F C.1 C.2 vH aH R kA0 T.1 T.2 = (3, 0, upd F 6 ((kCt T).2.1 2), C.1, C.2, vH, aH, R, upd (kCt T).2.1 1 0, (kCt T).2.2) := by
      unfold X4_commands_f
      rw [show (X1_countCommands_f T.1 T.2).1 = -1 from hm, if_neg (by decide)]
      unfold X4_commands_j27
      rw [if_pos (by decide)]
      unfold X4_commands_j45
      rw [if_neg (show ¬ (upd F 6 ((X1_countCommands_f T.1 T.2).2.1 2)) 6 < 0 from by
        show ¬ (kCt T).2.1 2 < 0
        rw [hv2]
        exact nI_pos (by omega))]
    rw [hG] at hx ⊢
    exact ⟨(upd (kCt T).2.1 1 0, (kCt T).2.2), rfl, Or.inl ⟨hm, hx, ⟨oC, oS, oH, oR, oT, oB, rC, rS, rH, rR, rT, oQ, rQ, vH, aH, q, n, ml, f, rfl, hT4, hHi, hIv.txt (hT' _)⟩⟩⟩
  · have hc : (kCt T).1 = nI c := hc
    have hne : nI c ≠ -1 := (by decide +kernel : ∀ k, k < 61 → nI k ≠ -1) c (by omega)
    obtain ⟨T', E, hr⟩ := kRun_lp (upd F 6 (-1)) C vH aH R (kCt T).2 h60 61 0 R (upd (kCt T).2.1 2 0, (kCt T).2.2) C (by omega) (by omega) hIv.1
    have eR : kRun (nI c) 61 (nI 0) R (upd (kCt T).2.1 2 0, (kCt T).2.2) C = kRunC C R T := by
      unfold kRunC
      rw [hc]
      rfl
    rw [eR] at hr
    have hG0 : X4_commands_f F C.1 C.2 vH aH R kA0 T.1 T.2 = X4_commands_j27 F C.1 C.2 vH aH R kA0 T.1 T.2 (nI c) (upd F 6 (-1)) (kCt T).2.1 (kCt T).2.2 := by
      unfold X4_commands_f
      rw [show (X1_countCommands_f T.1 T.2).1 = nI c from hc, if_pos (nI_pos' (by omega))]
    have h0 : ¬ nI c ≤ 0 := nI_nle (by omega) (by omega)
    rcases hr with ⟨hb, hlp, hic⟩ | ⟨hb, hlp⟩
    · have hCar : X4_carryOutCommands_f (upd F 6 (-1)) C.1 C.2 vH aH R kA0 (kCt T).2.1 (kCt T).2.2 (nI c) = (true, (kRunC C R T).2.2.1, (kRunC C R T).2.2.2, X2_keepHeld_f vH (X2_hold_f vH aH C.1 C.2), X2_hold_f vH aH C.1 C.2, (kRunC C R T).2.1, T'.1, T'.2) := hlp
      have hG : X4_commands_f F C.1 C.2 vH aH R kA0 T.1 T.2 = (0, nI c, upd F 6 (-1), (kRunC C R T).2.2.1, (kRunC C R T).2.2.2, X2_keepHeld_f vH (X2_hold_f vH aH C.1 C.2), X2_hold_f vH aH C.1 C.2, (kRunC C R T).2.1, upd T'.1 1 0, T'.2) := by
        rw [hG0]
        unfold X4_commands_j27
        rw [if_neg h0, hCar]
        rfl
      rw [hG] at hx ⊢
      exact ⟨(upd T'.1 1 0, T'.2), rfl, Or.inr (Or.inr ⟨c, h1, h60, hc, hb, hx, hic, ⟨oC, oS, oH, oR, oT, oB, rC, rS, rH, rR, rT, oQ, rQ, _, _, q, n, ml, f, by rw [kN_W], hT4, hHi.push C, (hIv.chg hic).txt (hT' _)⟩⟩)⟩
    · have hCar : X4_carryOutCommands_f (upd F 6 (-1)) C.1 C.2 vH aH R kA0 (kCt T).2.1 (kCt T).2.2 (nI c) = (false, (X2_bringBackHeld_f vH (X2_hold_f vH aH C.1 C.2) E.1 E.2).1, (X2_bringBackHeld_f vH (X2_hold_f vH aH C.1 C.2) E.1 E.2).2, vH, X2_hold_f vH aH C.1 C.2, (kRunC C R T).2.1, T'.1, T'.2) := hlp
      have hG : X4_commands_f F C.1 C.2 vH aH R kA0 T.1 T.2 = (1, 0, upd F 6 (-1), (X2_bringBackHeld_f vH (X2_hold_f vH aH C.1 C.2) E.1 E.2).1, (X2_bringBackHeld_f vH (X2_hold_f vH aH C.1 C.2) E.1 E.2).2, vH, X2_hold_f vH aH C.1 C.2, (kRunC C R T).2.1, upd T'.1 1 0, T'.2) := by
        rw [hG0]
        unfold X4_commands_j27
        rw [if_neg h0, hCar]
        rfl
      have eB : kN (X2_bringBackHeld_f vH (X2_hold_f vH aH C.1 C.2) E.1 E.2) = C := by
        have e1 : kN (X2_bringBackHeld_f vH (X2_hold_f vH aH C.1 C.2) E.1 E.2) = kN (X2_hold_f vH aH C.1 C.2 (vH 1).toNatClampNeg) := kN_cp _ _
        rw [e1]
        unfold X2_hold_f va_up
        rw [if_pos rfl]
        exact (kN_cp C _).trans hIv.2.2.2.2
      rw [hG] at hx ⊢
      refine ⟨(upd T'.1 1 0, T'.2), rfl, Or.inr (Or.inl ⟨by rw [hc]; exact hne, hb, hx, ⟨oC, oS, oH, oR, oT, oB, rC, rS, rH, rR, rT, oQ, rQ, vH, _, q, n, ml, f, ?_, hT4, hHi.hold C, hIv.txt (hT' _)⟩⟩)⟩
      rw [← kN_W (g := g) (o := oC) (r := rC) (X2_bringBackHeld_f vH (X2_hold_f vH aH C.1 C.2) E.1 E.2), eB]
