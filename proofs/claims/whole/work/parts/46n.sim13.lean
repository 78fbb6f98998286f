/-! carrying commands out -/
theorem k_form {o : Int32} (h : X1_form o < 5) : o = 98 ∨ o = 101 ∨ o = 102 ∨ o = 103 ∨ o = 110 ∨ o = 111 ∨ o = 115 ∨ o = 116 ∨ o = 119 ∨ o = 120 := by
  unfold X1_form at h
  by_cases c98 : o = 98
  · exact .inl c98
  rw [if_neg c98] at h
  by_cases c101 : o = 101
  · exact .inr (.inl c101)
  rw [if_neg c101] at h
  by_cases c102 : o = 102
  · exact .inr (.inr (.inl c102))
  rw [if_neg c102] at h
  by_cases c103 : o = 103
  · exact .inr (.inr (.inr (.inl c103)))
  rw [if_neg c103] at h
  by_cases c110 : o = 110
  · exact .inr (.inr (.inr (.inr (.inl c110))))
  rw [if_neg c110] at h
  by_cases c111 : o = 111
  · exact .inr (.inr (.inr (.inr (.inr (.inl c111)))))
  rw [if_neg c111] at h
  by_cases c115 : o = 115
  · exact .inr (.inr (.inr (.inr (.inr (.inr (.inl c115))))))
  rw [if_neg c115] at h
  by_cases c116 : o = 116
  · exact .inr (.inr (.inr (.inr (.inr (.inr (.inr (.inl c116)))))))
  rw [if_neg c116] at h
  by_cases c119 : o = 119
  · exact .inr (.inr (.inr (.inr (.inr (.inr (.inr (.inr (.inl c119))))))))
  rw [if_neg c119] at h
  by_cases c120 : o = 120
  · exact .inr (.inr (.inr (.inr (.inr (.inr (.inr (.inr (.inr c120))))))))
  rw [if_neg c120] at h
  omega
def kOk (ln : Nat) (tx : Nat → Int32) : Nat → Nat → Prop
  | 0, a => a = ln
  | c + 1, a => ∃ (a' : Nat) (vT : Nat → Int32) (aT : Nat → Nat → Int32), a < a' ∧ a' ≤ ln ∧ vT 1 = nI ln ∧ vT 2 = nI a ∧ (∀ i, i < ln → aT 0 i = tx i) ∧ (X1_readCommand_f vT aT).1 = true ∧ (X1_readCommand_f vT aT).2.1 2 = nI a' ∧ kOk ln tx c a'
def kAll (ln : Nat) (tx : Nat → Int32) (a : Nat) (vM : Nat → Int32) (aM : Nat → Nat → Int32) (X : Bool × (Nat → Int32) × (Nat → Nat → Int32)) : Prop := ∀ (vT : Nat → Int32) (aT : Nat → Nat → Int32), vT 1 = nI ln → vT 2 = nI a → (∀ i, i < ln → aT 0 i = tx i) → kCm ln a vT aT vM aM (X1_readCommand_f vT aT) X
section S13
variable {N ln : Nat} {tx : Nat → Int32} {vC : Nat → Int32} {aC : Nat → Nat → Int32} {vR : Nat → Int32} {aR : Nat → Nat → Int32} {vM : Nat → Int32} {aM : Nat → Nat → Int32} {p p1 p2 p3 x y o : Int32}
theorem car_ok (hN : N < 100000) (h : SimC N vC aC (aM 0)) (ho : X1_form o < 5) (e : vM 11 = o) {G : Nat → Int32} (hG : ∀ i, i < kCnt (X1_form o) → G i = aM 12 i) : kOp N vR (X3_applies_f vC aC vR aR o (G 0) (G 1) (G 2)) (X0_carryOut_f vC aC o (G 0) (G 1) (G 2)) vM aM (X5_carries_f vM aM) := by
  rcases k_form ho with rfl | rfl | rfl | rfl | rfl | rfl | rfl | rfl | rfl | rfl
  · rw [show X5_carries_f vM aM = X5_beats_f vM aM ((aM 12) 0) from if_pos e, ← hG 0 (by decide)]
    exact op_beat h
  · rw [show X5_carries_f vM aM = X5_empties_f vM aM ((aM 12) 0) ((aM 12) 1) from (if_neg (by rw [e]; decide)).trans (if_pos e), ← hG 0 (by decide), ← hG 1 (by decide)]
    exact op_empty h
  · rw [show X5_carries_f vM aM = X5_fills_f vM aM ((aM 12) 0) ((aM 12) 1) ((aM 12) 2) from (if_neg (by rw [e]; decide)).trans ((if_neg (by rw [e]; decide)).trans (if_pos e)), ← hG 0 (by decide), ← hG 1 (by decide), ← hG 2 (by decide)]
    exact op_fill h
  · rw [show X5_carries_f vM aM = X5_goes_f vM aM ((aM 12) 0) from (if_neg (by rw [e]; decide)).trans ((if_neg (by rw [e]; decide)).trans ((if_neg (by rw [e]; decide)).trans (if_pos e))), ← hG 0 (by decide)]
    exact op_go h
  · rw [show X5_carries_f vM aM = X5_rests_f vM aM ((aM 12) 0) from (if_neg (by rw [e]; decide)).trans ((if_neg (by rw [e]; decide)).trans ((if_neg (by rw [e]; decide)).trans ((if_neg (by rw [e]; decide)).trans (if_pos e)))), ← hG 0 (by decide)]
    exact op_days h
  · rw [show X5_carries_f vM aM = X5_swears__f vM aM from (if_neg (by rw [e]; decide)).trans ((if_neg (by rw [e]; decide)).trans ((if_neg (by rw [e]; decide)).trans ((if_neg (by rw [e]; decide)).trans ((if_neg (by rw [e]; decide)).trans ((if_neg (by rw [e]; decide)).trans ((if_neg (by rw [e]; decide)).trans ((if_neg (by rw [e]; decide)).trans (if_neg (by rw [e]; decide)))))))))]
    exact op_oath h
  · rw [show X5_carries_f vM aM = X5_sells_f vM aM ((aM 12) 0) from (if_neg (by rw [e]; decide)).trans ((if_neg (by rw [e]; decide)).trans ((if_neg (by rw [e]; decide)).trans ((if_neg (by rw [e]; decide)).trans ((if_neg (by rw [e]; decide)).trans (if_pos e))))), ← hG 0 (by decide)]
    exact op_sell hN h
  · rw [show X5_carries_f vM aM = X5_presses_f vM aM ((aM 12) 0) from (if_neg (by rw [e]; decide)).trans ((if_neg (by rw [e]; decide)).trans ((if_neg (by rw [e]; decide)).trans ((if_neg (by rw [e]; decide)).trans ((if_neg (by rw [e]; decide)).trans ((if_neg (by rw [e]; decide)).trans (if_pos e)))))), ← hG 0 (by decide)]
    exact op_thumb h
  · rw [show X5_carries_f vM aM = X5_weighsBag_f vM aM ((aM 12) 0) from (if_neg (by rw [e]; decide)).trans ((if_neg (by rw [e]; decide)).trans ((if_neg (by rw [e]; decide)).trans ((if_neg (by rw [e]; decide)).trans ((if_neg (by rw [e]; decide)).trans ((if_neg (by rw [e]; decide)).trans ((if_neg (by rw [e]; decide)).trans (if_pos e))))))), ← hG 0 (by decide)]
    exact op_weigh h
  · rw [show X5_carries_f vM aM = X5_seals_f vM aM ((aM 12) 0) from (if_neg (by rw [e]; decide)).trans ((if_neg (by rw [e]; decide)).trans ((if_neg (by rw [e]; decide)).trans ((if_neg (by rw [e]; decide)).trans ((if_neg (by rw [e]; decide)).trans ((if_neg (by rw [e]; decide)).trans ((if_neg (by rw [e]; decide)).trans ((if_neg (by rw [e]; decide)).trans (if_pos e)))))))), ← hG 0 (by decide)]
    exact op_seal h
theorem kCm.pos {a : Nat} {vT : Nat → Int32} {aT : Nat → Nat → Int32} {C M : Bool × (Nat → Int32) × (Nat → Nat → Int32)} (hl : ln ≤ 60) (h : kCm ln a vT aT vM aM C M) : ∃ a', a ≤ a' ∧ a' ≤ ln ∧ C.1 = M.1 ∧ C.2.1 2 = nI a' ∧ M.2.1 10 = nI a' ∧ (C.1 = true → a < a') ∧ kFx vT aT C.2.1 C.2.2 vM aM M.2.1 M.2.2 ∧ C.2.1 1 = nI ln ∧ M.2.1 9 = nI ln ∧ ∀ i, i < ln → M.2.2 8 i = C.2.2 0 i := by
  obtain ⟨o, o', ⟨q1, ⟨a', z1, z2, z3, z4, z5, z6, z7, z8, z9, z10⟩, q3, q4⟩, q5⟩ := h
  refine ⟨a', z1, z2, q1, z5, z6, fun z => ?_, q3, z3, z4, z7⟩
  obtain ⟨d, a'', x1, x2, x3, x4, x5, x6, x7, x8, x9, x10⟩ := q5 z
  have := (nI_eq (a := a'') (b := a') (by omega) (by omega)).mp (x5.symm.trans z5)
  omega
theorem lp14_nx {w0 : Nat → Int32} {b0 : Nat → Nat → Int32} {n : Nat} (h : ¬ vM 9 ≤ vM 10) : X5_commands_lp14 w0 b0 (n + 1) 1 vM aM = X5_commands_lp14 w0 b0 n (b2i (kNx vM aM).1) (kNx vM aM).2.1 (kNx vM aM).2.2 := by
  show X5_commands_lp14b w0 b0 (X5_commands_lp14 w0 b0 n) 1 vM aM = _
  unfold X5_commands_lp14b kNx
  rw [if_neg (by decide), if_neg h]
  by_cases c : (X5_isNext_f vM aM 59).1 = true
  · rw [if_pos c, if_pos c]
    by_cases d : (X5_isCommand_f (X5_isNext_f vM aM 59).2 aM).1 = true
    · rw [if_pos d, d]; rfl
    · rw [if_neg d, Bool.eq_false_iff.mpr d]; rfl
  · rw [if_neg c, if_neg c]; rfl
theorem cnt_lp (hl : ln ≤ 60) {v0 w0 : Nat → Int32} {b1 b0 : Nat → Nat → Int32} : ∀ (n c a n' : Nat) (vT : Nat → Int32) (aT : Nat → Nat → Int32) (vM : Nat → Int32) (aM : Nat → Nat → Int32) (M : Bool × (Nat → Int32) × (Nat → Nat → Int32)), kCm ln a vT aT vM aM (X1_readCommand_f vT aT) M → vT 1 = nI ln → vT 2 = nI a → (∀ i, i < ln → aT 0 i = tx i) → c ≤ a + 1 → c ≤ 60 → a ≤ ln → ln - a < n → ln - a < n' →
    (∃ (vT' : Nat → Int32) (aT' : Nat → Nat → Int32) (vM' : Nat → Int32) (aM' : Nat → Nat → Int32) (a' : Nat), a' ≤ ln ∧ X1_countCommands_lp7 v0 b1 n (nI c) vT aT = (-1, vT', aT') ∧ X5_commands_lp14 w0 b0 n' (b2i M.1) M.2.1 M.2.2 = X5_commands_j54 w0 b0 0 vM' aM' ∧ vT' 2 = nI a' ∧ vM' 10 = nI a' ∧ kFx vT aT vT' aT' vM aM vM' aM') ∨
    (∃ (r : Nat) (vT' : Nat → Int32) (aT' : Nat → Nat → Int32) (vM' : Nat → Int32) (aM' : Nat → Nat → Int32), c + r ≤ 60 ∧ X1_countCommands_lp7 v0 b1 n (nI c) vT aT = (nI (c + r), vT', aT') ∧ X5_commands_lp14 w0 b0 n' (b2i M.1) M.2.1 M.2.2 = X5_commands_j54 w0 b0 1 vM' aM' ∧ kFx vT aT vT' aT' vM aM vM' aM' ∧ kOk ln tx (r + 1) a) := by
  intro n
  induction n with
  | zero => intro c a n' vT aT vM aM M hk h1 h2 h3 h4 h5 h6 h7; omega
  | succ n ih =>
    intro c a n' vT aT vM aM M hk h1 h2 h3 h4 h5 h6 h7 h8
    obtain ⟨n'', rfl⟩ : ∃ k, n' = k + 1 := ⟨n' - 1, by omega⟩
    obtain ⟨a', z1, z2, z3, z4, z5, z6, z7, z8, z9, z10⟩ := kCm.pos hl hk
    have e7 : X1_countCommands_lp7 v0 b1 (n + 1) (nI c) vT aT = if (X1_readCommand_f vT aT).1 = true then (if (((X1_readCommand_f vT aT).2.1) 2) < (((X1_readCommand_f vT aT).2.1) 1) then X1_countCommands_lp7 v0 b1 n (nI c + 1) ((X1_readCommand_f vT aT).2.1) ((X1_readCommand_f vT aT).2.2) else (nI c, (X1_readCommand_f vT aT).2.1, (X1_readCommand_f vT aT).2.2)) else ((-1), (X1_readCommand_f vT aT).2.1, (X1_readCommand_f vT aT).2.2) := if_neg (Int32.not_lt.mpr ((nI_leI (a := c) (b := 60) (by omega) (by omega)).mpr h5))
    rw [e7]
    by_cases d : (X1_readCommand_f vT aT).1 = true
    · rw [if_pos d, ← z3, d]
      have zz := z6 d
      rw [z4, z8]
      rcases Nat.lt_or_ge a' ln with g | g
      · rw [if_pos (k6_lt hl g), nI_add1]
        have hn : ¬ M.2.1 9 ≤ M.2.1 10 := by rw [z9, z5]; exact k6_nle hl g
        rw [show b2i true = 1 from rfl, lp14_nx hn]
        have hk2 := rd_next hl z8 z9 z4 z5 z10 (by omega) z2
        have ht2 : ∀ i, i < ln → (X1_readCommand_f vT aT).2.2 0 i = tx i := fun i hi => by rw [z7.2.1 0 (by decide)]; exact h3 i hi
        rcases ih (c + 1) a' n'' _ _ _ _ _ hk2 z8 z4 ht2 (by omega) (by omega) z2 (by omega) (by omega) with ⟨vT', aT', vM', aM', a3, y1, y2, y3, y4, y5, y6⟩ | ⟨r, vT', aT', vM', aM', y1, y2, y3, y4, y5⟩
        · exact .inl ⟨vT', aT', vM', aM', a3, y1, y2, y3, y4, y5, z7.tr y6⟩
        · exact .inr ⟨r + 1, vT', aT', vM', aM', by omega, by rw [y2, show c + (r + 1) = c + 1 + r by omega], y3, z7.tr y4, a', vT, aT, zz, z2, h1, h2, h3, d, z4, y5⟩
      · have e : a' = ln := by omega
        rw [if_neg (show ¬ nI a' < nI ln by rw [e]; exact Int32.lt_irrefl)]
        refine .inr ⟨0, _, _, M.2.1, M.2.2, h5, rfl, ?_, z7, a', vT, aT, zz, z2, h1, h2, h3, d, z4, e⟩
        show X5_commands_lp14b w0 b0 (X5_commands_lp14 w0 b0 n'') 1 M.2.1 M.2.2 = _
        unfold X5_commands_lp14b
        rw [if_neg (by decide), if_pos (show M.2.1 9 ≤ M.2.1 10 by rw [z9, z5, e]; exact Int32.le_refl _)]
    · rw [if_neg d, ← z3, Bool.eq_false_iff.mpr d]
      refine .inl ⟨_, _, M.2.1, M.2.2, a', z2, rfl, ?_, z4, z5, z7⟩
      show X5_commands_lp14b w0 b0 (X5_commands_lp14 w0 b0 n'') 0 M.2.1 M.2.2 = _
      exact if_pos rfl
theorem kOk.lt {c a : Nat} (h : kOk ln tx (c + 1) a) : a < ln := by
  obtain ⟨a', vT, aT, h1, h2, -⟩ := h
  omega
theorem car_st (hl : ln ≤ 60) {r a : Nat} {i : Int32} {vT vX : Nat → Int32} {aT : Nat → Nat → Int32} (hk : kOk ln tx (r + 1) a) (hA : kAll ln tx a vM aM (X5_isCommand_f vX aM)) (e1 : vT 1 = nI ln) (e2 : vT 2 = nI a) (e3 : ∀ j, j < ln → aT 0 j = tx j) (hs : SimC N vC aC (aM 0)) (hN : N < 100000) :
    ∃ a', kOk ln tx r a' ∧ a < a' ∧ a' ≤ ln ∧ (X1_readCommand_f vT aT).2.1 1 = nI ln ∧ (X1_readCommand_f vT aT).2.1 2 = nI a' ∧ (∀ j, j < ln → (X1_readCommand_f vT aT).2.2 0 j = tx j) ∧ kFx vT aT (X1_readCommand_f vT aT).2.1 (X1_readCommand_f vT aT).2.2 vM aM (X5_isCommand_f vX aM).2.1 (X5_isCommand_f vX aM).2.2 ∧ (X5_isCommand_f vX aM).2.1 9 = nI ln ∧ (X5_isCommand_f vX aM).2.1 10 = nI a' ∧ (∀ j, j < ln → (X5_isCommand_f vX aM).2.2 8 j = tx j) ∧ kOp N vR (X3_applies_f vC aC vR aR ((X1_readCommand_f vT aT).2.1 3) ((X1_readCommand_f vT aT).2.2 4 0) ((X1_readCommand_f vT aT).2.2 4 1) ((X1_readCommand_f vT aT).2.2 4 2)) (X0_carryOut_f vC aC ((X1_readCommand_f vT aT).2.1 3) ((X1_readCommand_f vT aT).2.2 4 0) ((X1_readCommand_f vT aT).2.2 4 1) ((X1_readCommand_f vT aT).2.2 4 2)) (upd (X5_isCommand_f vX aM).2.1 16 i) (X5_isCommand_f vX aM).2.2 (X5_carries_f (upd (X5_isCommand_f vX aM).2.1 16 i) (X5_isCommand_f vX aM).2.2) := by
  obtain ⟨a', vTw, aTw, k1, k2, k3, k4, k5, k6, k7, k8⟩ := hk
  obtain ⟨aw, y1, y2, y3, y4, y5, -⟩ := kCm.pos hl (hA vTw aTw k3 k4 k5)
  have hr := hA vT aT e1 e2 e3
  obtain ⟨a1, z1, z2, z3, z4, z5, z6, z7, z8, z9, z10⟩ := kCm.pos hl hr
  obtain rfl : aw = a' := (nI_eq (by omega) (by omega)).mp (y4.symm.trans k7)
  obtain rfl : a1 = aw := (nI_eq (by omega) (by omega)).mp (z5.symm.trans y5)
  obtain ⟨o, o', -, q5⟩ := hr
  obtain ⟨d, a'', x1, x2, x3, x4, x5, x6, x7, x8, x9, x10⟩ := q5 (z3.trans (y3.symm.trans k6))
  have ht : ∀ j, j < ln → (X1_readCommand_f vT aT).2.2 0 j = tx j := fun j hj => by rw [z7.2.1 0 (by decide)]; exact e3 j hj
  refine ⟨a1, k8, k1, z2, z8, z4, ht, z7, z9, z5, fun j hj => (z10 j hj).trans (ht j hj), ?_⟩
  rw [x8]
  exact car_ok hN (by rw [z7.2.2.2 0 (by decide)]; exact hs) d ((pk_un (by decide)).trans x9) x10
theorem car_29 {n : Nat} {vF vC0 vH vR0 vT0 vR vT vC : Nat → Int32} {aC0 aT0 aR aT aC : Nat → Nat → Int32} {aH : Nat → (Nat → Int32) × (Nat → Nat → Int32)} {p0 x : Int32} (h : ¬ p0 ≤ x) : X4_carryOutCommands_lp29 vF vC0 aC0 vH aH vR0 aR vT0 aT0 p0 (n + 1) x vR vT aT vC aC = if (X3_applies_f vC aC vR aR ((X1_readCommand_f vT aT).2.1 3) ((X1_readCommand_f vT aT).2.2 4 0) ((X1_readCommand_f vT aT).2.2 4 1) ((X1_readCommand_f vT aT).2.2 4 2)).1 = true then (false, (X2_bringBackHeld_f vH (X2_hold_f vH aH vC0 aC0) vC aC).1, (X2_bringBackHeld_f vH (X2_hold_f vH aH vC0 aC0) vC aC).2, vH, X2_hold_f vH aH vC0 aC0, upd (X3_applies_f vC aC vR aR ((X1_readCommand_f vT aT).2.1 3) ((X1_readCommand_f vT aT).2.2 4 0) ((X1_readCommand_f vT aT).2.2 4 1) ((X1_readCommand_f vT aT).2.2 4 2)).2 2 x, (X1_readCommand_f vT aT).2.1, (X1_readCommand_f vT aT).2.2) else X4_carryOutCommands_lp29 vF vC0 aC0 vH aH vR0 aR vT0 aT0 p0 n (x + 1) (X3_applies_f vC aC vR aR ((X1_readCommand_f vT aT).2.1 3) ((X1_readCommand_f vT aT).2.2 4 0) ((X1_readCommand_f vT aT).2.2 4 1) ((X1_readCommand_f vT aT).2.2 4 2)).2 (X1_readCommand_f vT aT).2.1 (X1_readCommand_f vT aT).2.2 (X0_carryOut_f vC aC ((X1_readCommand_f vT aT).2.1 3) ((X1_readCommand_f vT aT).2.2 4 0) ((X1_readCommand_f vT aT).2.2 4 1) ((X1_readCommand_f vT aT).2.2 4 2)).2.1 (X0_carryOut_f vC aC ((X1_readCommand_f vT aT).2.1 3) ((X1_readCommand_f vT aT).2.2 4 0) ((X1_readCommand_f vT aT).2.2 4 1) ((X1_readCommand_f vT aT).2.2 4 2)).2.2 := if_neg h
theorem car_94 {n : Nat} {w0 vX : Nat → Int32} {b0 : Nat → Nat → Int32} {x1 x : Int32} : X5_commands_lp94 w0 b0 (n + 1) x1 x 1 vX aM = if (X5_carries_f (upd (X5_isCommand_f vX aM).2.1 16 x) (X5_isCommand_f vX aM).2.2).1 = true then (if (X5_carries_f (upd (X5_isCommand_f vX aM).2.1 16 x) (X5_isCommand_f vX aM).2.2).1 = true then (if (X5_isNext_f (X5_carries_f (upd (X5_isCommand_f vX aM).2.1 16 x) (X5_isCommand_f vX aM).2.2).2.1 (X5_carries_f (upd (X5_isCommand_f vX aM).2.1 16 x) (X5_isCommand_f vX aM).2.2).2.2 59).1 = true then X5_commands_lp94 w0 b0 n (b2i (X5_carries_f (upd (X5_isCommand_f vX aM).2.1 16 x) (X5_isCommand_f vX aM).2.2).1) (x + 1) 1 (X5_isNext_f (X5_carries_f (upd (X5_isCommand_f vX aM).2.1 16 x) (X5_isCommand_f vX aM).2.2).2.1 (X5_carries_f (upd (X5_isCommand_f vX aM).2.1 16 x) (X5_isCommand_f vX aM).2.2).2.2 59).2 (X5_carries_f (upd (X5_isCommand_f vX aM).2.1 16 x) (X5_isCommand_f vX aM).2.2).2.2
      else X5_commands_lp94 w0 b0 n (b2i (X5_carries_f (upd (X5_isCommand_f vX aM).2.1 16 x) (X5_isCommand_f vX aM).2.2).1) (x + 1) 0 (X5_isNext_f (X5_carries_f (upd (X5_isCommand_f vX aM).2.1 16 x) (X5_isCommand_f vX aM).2.2).2.1 (X5_carries_f (upd (X5_isCommand_f vX aM).2.1 16 x) (X5_isCommand_f vX aM).2.2).2.2 59).2 (X5_carries_f (upd (X5_isCommand_f vX aM).2.1 16 x) (X5_isCommand_f vX aM).2.2).2.2)
    else X5_commands_lp94 w0 b0 n (b2i (X5_carries_f (upd (X5_isCommand_f vX aM).2.1 16 x) (X5_isCommand_f vX aM).2.2).1) (x + 1) 0 (X5_carries_f (upd (X5_isCommand_f vX aM).2.1 16 x) (X5_isCommand_f vX aM).2.2).2.1 (X5_carries_f (upd (X5_isCommand_f vX aM).2.1 16 x) (X5_isCommand_f vX aM).2.2).2.2)
  else if (X5_carries_f (upd (X5_isCommand_f vX aM).2.1 16 x) (X5_isCommand_f vX aM).2.2).1 = true then (if (X5_isNext_f (X5_carries_f (upd (X5_isCommand_f vX aM).2.1 16 x) (X5_isCommand_f vX aM).2.2).2.1 (X5_carries_f (upd (X5_isCommand_f vX aM).2.1 16 x) (X5_isCommand_f vX aM).2.2).2.2 59).1 = true then X5_commands_lp94 w0 b0 n (b2i (X5_carries_f (upd (X5_isCommand_f vX aM).2.1 16 x) (X5_isCommand_f vX aM).2.2).1) x 1 (X5_isNext_f (X5_carries_f (upd (X5_isCommand_f vX aM).2.1 16 x) (X5_isCommand_f vX aM).2.2).2.1 (X5_carries_f (upd (X5_isCommand_f vX aM).2.1 16 x) (X5_isCommand_f vX aM).2.2).2.2 59).2 (X5_carries_f (upd (X5_isCommand_f vX aM).2.1 16 x) (X5_isCommand_f vX aM).2.2).2.2
    else X5_commands_lp94 w0 b0 n (b2i (X5_carries_f (upd (X5_isCommand_f vX aM).2.1 16 x) (X5_isCommand_f vX aM).2.2).1) x 0 (X5_isNext_f (X5_carries_f (upd (X5_isCommand_f vX aM).2.1 16 x) (X5_isCommand_f vX aM).2.2).2.1 (X5_carries_f (upd (X5_isCommand_f vX aM).2.1 16 x) (X5_isCommand_f vX aM).2.2).2.2 59).2 (X5_carries_f (upd (X5_isCommand_f vX aM).2.1 16 x) (X5_isCommand_f vX aM).2.2).2.2)
  else X5_commands_lp94 w0 b0 n (b2i (X5_carries_f (upd (X5_isCommand_f vX aM).2.1 16 x) (X5_isCommand_f vX aM).2.2).1) x 0 (X5_carries_f (upd (X5_isCommand_f vX aM).2.1 16 x) (X5_isCommand_f vX aM).2.2).2.1 (X5_carries_f (upd (X5_isCommand_f vX aM).2.1 16 x) (X5_isCommand_f vX aM).2.2).2.2 := by
  show X5_commands_lp94b w0 b0 (X5_commands_lp94 w0 b0 n) x1 x 1 vX aM = _
  unfold X5_commands_lp94b
  rw [if_neg (show ¬ (1 : Int32) = 0 by decide)]
theorem car_lp (hl : ln ≤ 60) {vF vC0 vH vR0 vT0 w0 : Nat → Int32} {aC0 aT0 b0 : Nat → Nat → Int32} {aH : Nat → (Nat → Int32) × (Nat → Nat → Int32)} {p0 : Int32} : ∀ (r a i n n' N : Nat) (x1 : Int32) (vR vT : Nat → Int32) (aT : Nat → Nat → Int32) (vC : Nat → Int32) (aC : Nat → Nat → Int32) (vM : Nat → Int32) (aM : Nat → Nat → Int32) (vX : Nat → Int32), kOk ln tx (r + 1) a → kAll ln tx a vM aM (X5_isCommand_f vX aM) → vT 1 = nI ln → vT 2 = nI a → (∀ j, j < ln → aT 0 j = tx j) → p0 = nI (i + r + 1) → i + r + 1 ≤ 60 → SimC N vC aC (aM 0) → N + r + 1 < 100000 → r + 1 < n → r + 1 < n' →
    (∃ (vC' : Nat → Int32) (aC' : Nat → Nat → Int32) (vT' : Nat → Int32) (aT' : Nat → Nat → Int32) (vK : Nat → Int32) (aK : Nat → Nat → Int32), X4_carryOutCommands_lp29 vF vC0 aC0 vH aH vR0 aR vT0 aT0 p0 n (nI i) vR vT aT vC aC = (true, vC', aC', X2_keepHeld_f vH (X2_hold_f vH aH vC0 aC0), X2_hold_f vH aH vC0 aC0, vR, vT', aT') ∧ X5_commands_lp94 w0 b0 n' x1 (nI i) 1 vX aM = X5_commands_j142 w0 b0 1 p0 0 vK aK ∧ SimC (N + r + 1) vC' aC' (aK 0) ∧ (∀ k, k ≠ 10 → k ≠ 11 → k ≠ 16 → k ≠ 18 → k ≠ 19 → k ≠ 20 → vK k = vM k) ∧ (∀ k, k ≠ 0 → k ≠ 12 → aK k = aM k) ∧ (∀ k, k ≠ 2 → k ≠ 3 → vT' k = vT k) ∧ ∀ k, k ≠ 4 → aT' k = aT k) ∨
    (∃ (vC' : Nat → Int32) (aC' : Nat → Nat → Int32) (vR' : Nat → Int32) (vT' : Nat → Int32) (aT' : Nat → Nat → Int32) (vK : Nat → Int32) (aK : Nat → Nat → Int32) (x : Int32), X4_carryOutCommands_lp29 vF vC0 aC0 vH aH vR0 aR vT0 aT0 p0 n (nI i) vR vT aT vC aC = (false, (X2_bringBackHeld_f vH (X2_hold_f vH aH vC0 aC0) vC' aC').1, (X2_bringBackHeld_f vH (X2_hold_f vH aH vC0 aC0) vC' aC').2, vH, X2_hold_f vH aH vC0 aC0, vR', vT', aT') ∧ X5_commands_lp94 w0 b0 n' x1 (nI i) 1 vX aM = X5_commands_j142 w0 b0 0 x 0 vK aK ∧ (vK 14 = vR' 0 ∧ vK 15 = vR' 1 ∧ vK 17 = vR' 2) ∧ (∀ k, k ≠ 10 → k ≠ 11 → k ≠ 14 → k ≠ 15 → k ≠ 16 → k ≠ 17 → k ≠ 18 → k ≠ 19 → k ≠ 20 → vK k = vM k) ∧ (∀ k, k ≠ 0 → k ≠ 12 → aK k = aM k) ∧ (∀ k, k ≠ 2 → k ≠ 3 → vT' k = vT k) ∧ ∀ k, k ≠ 4 → aT' k = aT k) := by
  intro r
  induction r with
  | zero =>
    intro a i n n' N x1 vR vT aT vC aC vM aM vX hk hA e1 e2 e3 ep hi hs hN hn hn'
    obtain ⟨n, rfl⟩ : ∃ k, n = k + 2 := ⟨n - 2, by omega⟩
    obtain ⟨n', rfl⟩ : ∃ k, n' = k + 2 := ⟨n' - 2, by omega⟩
    obtain ⟨a', s1, s2, s3, s4, s5, s6, s7, s8, s9, s10, s11⟩ := car_st (aR := aR) (vR := vR) (i := nI i) hl hk hA e1 e2 e3 hs (by omega)
    have e29 := car_29 (n := n + 1) (vF := vF) (vC0 := vC0) (vH := vH) (vR0 := vR0) (vT0 := vT0) (aC0 := aC0) (aT0 := aT0) (aH := aH) (aR := aR) (vR := vR) (vT := vT) (aT := aT) (vC := vC) (aC := aC) (p0 := p0) (x := nI i) (by rw [ep]; exact k6_nle (a := i) (b := i + 0 + 1) hi (by omega))
    have e94 := car_94 (n := n' + 1) (w0 := w0) (b0 := b0) (x1 := x1) (x := nI i) (vX := vX) (aM := aM)
    rw [e29, e94]
    clear e29 e94 hA
    generalize X1_readCommand_f vT aT = RC at *
    generalize X5_isCommand_f vX aM = IC at *
    generalize X5_carries_f (upd IC.2.1 16 (nI i)) IC.2.2 = CA at *
    generalize X3_applies_f vC aC vR aR (RC.2.1 3) (RC.2.2 4 0) (RC.2.2 4 1) (RC.2.2 4 2) = AP at *
    generalize X0_carryOut_f vC aC (RC.2.1 3) (RC.2.2 4 0) (RC.2.2 4 1) (RC.2.2 4 2) = co at *
    by_cases c : AP.1 = true
    · obtain ⟨o1, o2, o3, o4, o5, o6, o7⟩ := s11.1 c
      rw [if_pos c, if_neg (show ¬ CA.1 = true by rw [o1]; exact Bool.false_ne_true), if_neg (show ¬ CA.1 = true by rw [o1]; exact Bool.false_ne_true), o1]
      refine .inr ⟨vC, aC, _, _, _, CA.2.1, CA.2.2, nI i, rfl, (show X5_commands_lp94b w0 b0 (X5_commands_lp94 w0 b0 n') 0 (nI i) 0 CA.2.1 CA.2.2 = _ from if_pos rfl), ⟨(o3.trans (pk_un (by decide)).symm), (o4.trans (pk_un (by decide)).symm), (o5.trans pk_us).trans pk_us.symm⟩, fun k h1 h2 h3 h4 h5 h6 h7 h8 h9 => ?_, fun k h1 h2 => ?_, s7.1, s7.2.1⟩
      · exact (o7 k h3 h4 h6 h7 h8 h9).trans ((pk_un h5).trans (s7.2.2.1 k h1 h2))
      · exact (congrFun o2 k).trans (s7.2.2.2 k h2)
    · obtain ⟨o1, o2, o3, o4, o5, o6⟩ := s11.2 c
      have ea : a' = ln := s1
      have n1 : CA.2.1 10 = CA.2.1 9 := by
        rw [o4 10 (by decide) (by decide) (by decide), o4 9 (by decide) (by decide) (by decide), pk_un (by decide), pk_un (by decide), s8, s9, ea]
      rw [if_neg c, if_pos o1, if_pos o1, show X5_isNext_f CA.2.1 CA.2.2 59 = (false, CA.2.1) from if_pos n1, if_neg Bool.false_ne_true, o1, o2, nI_add1]
      refine .inl ⟨co.2.1, co.2.2, RC.2.1, RC.2.2, CA.2.1, CA.2.2, if_pos (by rw [ep]; exact Int32.le_refl _), ?_, o6, fun k h1 h2 h3 h4 h5 h6 => ?_, fun k h1 h2 => ?_, s7.1, s7.2.1⟩
      · exact (show X5_commands_lp94b w0 b0 (X5_commands_lp94 w0 b0 n') 1 (nI (i + 1)) 0 CA.2.1 CA.2.2 = _ from if_pos rfl).trans (by rw [ep])
      · exact (o4 k h4 h5 h6).trans ((pk_un h3).trans (s7.2.2.1 k h1 h2))
      · exact (o5 k h1).trans (s7.2.2.2 k h2)
  | succ r ih =>
    intro a i n n' N x1 vR vT aT vC aC vM aM vX hk hA e1 e2 e3 ep hi hs hN hn hn'
    obtain ⟨n, rfl⟩ : ∃ k, n = k + 1 := ⟨n - 1, by omega⟩
    obtain ⟨n', rfl⟩ : ∃ k, n' = k + 2 := ⟨n' - 2, by omega⟩
    obtain ⟨a', s1, s2, s3, s4, s5, s6, s7, s8, s9, s10, s11⟩ := car_st (aR := aR) (vR := vR) (i := nI i) hl hk hA e1 e2 e3 hs (by omega)
    have e29 := car_29 (n := n) (vF := vF) (vC0 := vC0) (vH := vH) (vR0 := vR0) (vT0 := vT0) (aC0 := aC0) (aT0 := aT0) (aH := aH) (aR := aR) (vR := vR) (vT := vT) (aT := aT) (vC := vC) (aC := aC) (p0 := p0) (x := nI i) (by rw [ep]; exact k6_nle (a := i) (b := i + (r + 1) + 1) hi (by omega))
    have e94 := car_94 (n := n' + 1) (w0 := w0) (b0 := b0) (x1 := x1) (x := nI i) (vX := vX) (aM := aM)
    rw [e29, e94]
    clear e29 e94 hA
    generalize X1_readCommand_f vT aT = RC at *
    generalize X5_isCommand_f vX aM = IC at *
    generalize X5_carries_f (upd IC.2.1 16 (nI i)) IC.2.2 = CA at *
    generalize X3_applies_f vC aC vR aR (RC.2.1 3) (RC.2.2 4 0) (RC.2.2 4 1) (RC.2.2 4 2) = AP at *
    generalize X0_carryOut_f vC aC (RC.2.1 3) (RC.2.2 4 0) (RC.2.2 4 1) (RC.2.2 4 2) = co at *
    by_cases c : AP.1 = true
    · obtain ⟨o1, o2, o3, o4, o5, o6, o7⟩ := s11.1 c
      rw [if_pos c, if_neg (show ¬ CA.1 = true by rw [o1]; exact Bool.false_ne_true), if_neg (show ¬ CA.1 = true by rw [o1]; exact Bool.false_ne_true), o1]
      refine .inr ⟨vC, aC, _, _, _, CA.2.1, CA.2.2, nI i, rfl, (show X5_commands_lp94b w0 b0 (X5_commands_lp94 w0 b0 n') 0 (nI i) 0 CA.2.1 CA.2.2 = _ from if_pos rfl), ⟨(o3.trans (pk_un (by decide)).symm), (o4.trans (pk_un (by decide)).symm), (o5.trans pk_us).trans pk_us.symm⟩, fun k h1 h2 h3 h4 h5 h6 h7 h8 h9 => ?_, fun k h1 h2 => ?_, s7.1, s7.2.1⟩
      · exact (o7 k h3 h4 h6 h7 h8 h9).trans ((pk_un h5).trans (s7.2.2.1 k h1 h2))
      · exact (congrFun o2 k).trans (s7.2.2.2 k h2)
    · obtain ⟨o1, o2, o3, o4, o5, o6⟩ := s11.2 c
      have m9 : CA.2.1 9 = nI ln := by rw [o4 9 (by decide) (by decide) (by decide), pk_un (by decide), s8]
      have m10 : CA.2.1 10 = nI a' := by rw [o4 10 (by decide) (by decide) (by decide), pk_un (by decide), s9]
      have mtx : ∀ j, j < ln → CA.2.2 8 j = tx j := fun j hj => by rw [o5 8 (by decide)]; exact s10 j hj
      obtain ⟨a2, vTw, aTw, k1, k2, k3, k4, k5, k6, k7, k8⟩ := s1
      have hall : ∀ (vT : Nat → Int32) (aT : Nat → Nat → Int32), vT 1 = nI ln → vT 2 = nI a' → (∀ i, i < ln → aT 0 i = tx i) → kCm ln a' vT aT CA.2.1 CA.2.2 (X1_readCommand_f vT aT) (kNx CA.2.1 CA.2.2) := fun vT aT h1 h2 h3 => rd_next hl h1 m9 h2 m10 (fun j hj => (mtx j hj).trans (h3 j hj).symm) (by omega) s3
      have hw := (kCm.pos hl (hall vTw aTw k3 k4 k5))
      obtain ⟨_, _, _, w3, -⟩ := hw
      have hx : (X5_isNext_f CA.2.1 CA.2.2 59).1 = true := by
        rcases Bool.eq_false_or_eq_true (X5_isNext_f CA.2.1 CA.2.2 59).1 with h | h
        · exact h
        · exfalso
          rw [k6, show kNx CA.2.1 CA.2.2 = _ from if_neg (by rw [h]; exact Bool.false_ne_true)] at w3
          exact absurd w3.symm Bool.false_ne_true
      rw [show kNx CA.2.1 CA.2.2 = _ from if_pos hx] at hall
      rw [if_neg c, if_pos o1, if_pos o1, if_pos hx, o2, nI_add1]
      rcases ih a' (i + 1) n (n' + 1) (N + 1) (b2i CA.1) vR RC.2.1 RC.2.2 co.2.1 co.2.2 CA.2.1 CA.2.2 (X5_isNext_f CA.2.1 CA.2.2 59).2 ⟨a2, vTw, aTw, k1, k2, k3, k4, k5, k6, k7, k8⟩ hall s4 s5 s6 (by rw [ep, show i + 1 + r + 1 = i + (r + 1) + 1 by omega]) (by omega) o6 (by omega) (by omega) (by omega) with ⟨vC', aC', vT', aT', vK, aK, y1, y2, y3, y4, y5, y6, y7⟩ | ⟨vC', aC', vR', vT', aT', vK, aK, x, y1, y2, y3, y4, y5, y6, y7⟩
      · refine .inl ⟨vC', aC', vT', aT', vK, aK, y1, y2, by rw [show N + (r + 1) + 1 = N + 1 + r + 1 by omega]; exact y3, fun k h1 h2 h3 h4 h5 h6 => ?_, fun k h1 h2 => ?_, fun k h1 h2 => (y6 k h1 h2).trans (s7.1 k h1 h2), fun k h1 => (y7 k h1).trans (s7.2.1 k h1)⟩
        · exact (y4 k h1 h2 h3 h4 h5 h6).trans ((o4 k h4 h5 h6).trans ((pk_un h3).trans (s7.2.2.1 k h1 h2)))
        · exact (y5 k h1 h2).trans ((o5 k h1).trans (s7.2.2.2 k h2))
      · refine .inr ⟨vC', aC', vR', vT', aT', vK, aK, x, y1, y2, y3, fun k h1 h2 h3 h4 h5 h6 h7 h8 h9 => ?_, fun k h1 h2 => ?_, fun k h1 h2 => (y6 k h1 h2).trans (s7.1 k h1 h2), fun k h1 => (y7 k h1).trans (s7.2.1 k h1)⟩
        · exact (y4 k h1 h2 h3 h4 h5 h6 h7 h8 h9).trans ((o4 k h7 h8 h9).trans ((pk_un h5).trans (s7.2.2.1 k h1 h2)))
        · exact (y5 k h1 h2).trans ((o5 k h1).trans (s7.2.2.2 k h2))
end S13
