/-! the text of three commands, read whatever stood in the buffer before -/
theorem ks_eta3 {α β γ : Type} (x : α × β × γ) : (x.1, x.2.1, x.2.2) = x := rfl
section TN
variable {v w : Nat → Int32} {a : Nat → Nat → Int32}
theorem tn_num {p : Nat} (hp : p < 8) (h1 : w 1 = 8) (h2 : w 2 = nI p) (hd : X1_isDigit_f (a 0 p) = true) (hn : p + 1 = 8 ∨ X1_isDigit_f (a 0 (p + 1)) = false) : X1_readNumber_f w a 0 2 = (true, upd w 2 (nI (p + 1)), va_up a 4 (upd (a 4) 0 (10 * 0 + (a 0 p - 48)))) := by
  have e1 : X1_readNumber_f w a 0 2 = X1_readNumber_lp5 w a 0 2 60 (10 * 0 + (a 0 p - 48)) 1 (upd w 2 (nI (p + 1))) := by
    show X1_readNumber_lp5b w a 0 2 (X1_readNumber_lp5 w a 0 2 60) 0 0 w = _
    unfold X1_readNumber_lp5b
    rw [if_neg (by decide), h1, h2, if_neg (show ¬ (8 : Int32) ≤ nI p from nI_ge (b := 8) hp (by omega)), nI_clamp (by omega), if_pos hd, nI_1]
    rfl
  rw [e1]
  show X1_readNumber_lp5b w a 0 2 (X1_readNumber_lp5 w a 0 2 59) (10 * 0 + (a 0 p - 48)) 1 (upd w 2 (nI (p + 1))) = _
  unfold X1_readNumber_lp5b
  rw [if_neg (by decide)]
  have q1 : (upd w 2 (nI (p + 1))) 1 = 8 := h1
  have q2 : (upd w 2 (nI (p + 1))) 2 = nI (p + 1) := rfl
  have cl : (0 : Int32).toNatClampNeg = 0 := rfl
  rw [q1, q2, cl]
  rcases hn with hn | hn
  · rw [if_pos (show (8 : Int32) ≤ nI (p + 1) from (nI_leI (a := 8) (by omega) (by omega)).mpr (by omega)), if_neg (by decide)]
  · rw [nI_clamp (by omega), hn]
    by_cases c : (8 : Int32) ≤ nI (p + 1)
    · rw [if_pos c, if_neg (by decide)]
    · rw [if_neg c, if_neg (by decide), if_neg (by decide)]
theorem tn_form {p : Nat} (hp : p < 8) (h1 : w 1 = 8) (h2 : w 2 = nI p) (hd : X1_isDigit_f (a 0 p) = true) (hn : p + 1 = 8 ∨ X1_isDigit_f (a 0 (p + 1)) = false) : X1_readForm_f w a (X1_form 110) = (true, upd w 2 (nI (p + 1)), va_up a 4 (upd (a 4) 0 (10 * 0 + (a 0 p - 48)))) := by
  have e : X1_readForm_f w a (X1_form 110) = X1_readForm_lp4 w a (X1_form 110) 5 1 1 (upd w 2 (nI (p + 1))) (va_up a 4 (upd (a 4) 0 (10 * 0 + (a 0 p - 48)))) := by
    show X1_readForm_lp4b w a (X1_form 110) (X1_readForm_lp4 w a (X1_form 110) 5) 0 0 w a = _
    unfold X1_readForm_lp4b
    have k1 : k_ch (X1_form 110) 0 - 48 = 2 := by decide +kernel
    rw [if_neg (by decide +kernel), if_pos (by decide +kernel), if_neg (by decide), k1, tn_num hp h1 h2 hd hn, if_pos rfl]
    rfl
  rw [e]
  show X1_readForm_lp4b w a (X1_form 110) (X1_readForm_lp4 w a (X1_form 110) 4) 1 1 (upd w 2 (nI (p + 1))) (va_up a 4 (upd (a 4) 0 (10 * 0 + (a 0 p - 48)))) = _
  unfold X1_readForm_lp4b
  rw [if_pos (show nI (k_fl.getD (X1_form 110) 0) ≤ 1 from by decide +kernel)]
theorem tn_rd0 (h1 : v 1 = 8) (h2 : v 2 = 0) (c0 : a 0 0 = 110) (hd : X1_isDigit_f (a 0 1) = true) (hn : X1_isDigit_f (a 0 2) = false) : X1_readCommand_f v a = (true, upd (upd (upd v 3 110) 2 1) 2 2, va_up a 4 (upd (a 4) 0 (10 * 0 + (a 0 1 - 48)))) := by
  unfold X1_readCommand_f
  have cl : (0 : Int32).toNatClampNeg = 0 := rfl
  rw [if_pos (by rw [h2]; decide), if_pos (by rw [h1, h2]; decide), h2, cl, c0, if_pos (by decide +kernel), show (0 : Int32) + 1 = 1 from rfl,
    tn_form (p := 1) (by omega) (show (upd (upd v 3 110) 2 1) 1 = 8 from h1) rfl hd (Or.inr hn)]
  rfl
theorem tn_rdk {k : Nat} (hk : 0 < k ∧ k + 3 ≤ 8) (h1 : v 1 = 8) (h2 : v 2 = nI k) (cs : a 0 k = 59) (c0 : a 0 (k + 1) = 110) (hd : X1_isDigit_f (a 0 (k + 2)) = true) (hn : k + 3 = 8 ∨ X1_isDigit_f (a 0 (k + 3)) = false) : X1_readCommand_f v a = (true, upd (upd (upd (upd v 2 (nI (k + 1))) 3 110) 2 (nI (k + 2))) 2 (nI (k + 3)), va_up a 4 (upd (a 4) 0 (10 * 0 + (a 0 (k + 2) - 48)))) := by
  have e : X1_readCharacter_f v a 59 = (true, upd v 2 (nI (k + 1))) := by
    unfold X1_readCharacter_f
    rw [h1, h2, if_neg (show ¬ (8 : Int32) ≤ nI k from nI_ge (b := 8) (by omega) (by omega)), nI_clamp (by omega), if_pos cs, nI_1]
  have F : X1_readForm_f (upd (upd (upd v 2 (nI (k + 1))) 3 (a 0 (nI (k + 1)).toNatClampNeg)) 2 (nI (k + 1) + 1)) a (X1_form (a 0 (nI (k + 1)).toNatClampNeg)) = (true, upd (upd (upd (upd v 2 (nI (k + 1))) 3 110) 2 (nI (k + 2))) 2 (nI (k + 3)), va_up a 4 (upd (a 4) 0 (10 * 0 + (a 0 (k + 2) - 48)))) := by
    rw [nI_clamp (by omega), c0, nI_1]
    exact tn_form (p := k + 2) (by omega) (show (upd (upd (upd v 2 (nI (k + 1))) 3 110) 2 (nI (k + 2))) 1 = 8 from h1) rfl hd hn
  unfold X1_readCommand_f
  rw [if_neg (by rw [h2]; exact nI_nle (by omega) (by omega)), e]
  refine (if_pos rfl).trans ?_
  refine (if_pos (show nI (k + 1) < v 1 from by rw [h1]; exact (nI_ltI (b := 8) (by omega) (by omega)).mpr (by omega))).trans ?_
  refine (if_pos (show X1_form (a 0 (nI (k + 1)).toNatClampNeg) < 5 from by rw [nI_clamp (by omega), c0]; decide +kernel)).trans ?_
  exact (ks_eta3 _).trans F
/-- what the text holds -/
def tnC (c : Nat → Int32) : Prop := c 0 = 110 ∧ c 1 = 49 ∧ c 2 = 59 ∧ c 3 = 110 ∧ c 4 = 49 ∧ c 5 = 59 ∧ c 6 = 110 ∧ c 7 = 48
theorem tn_1 (h : tnC (a 0)) (h1 : v 1 = 8) (h2 : v 2 = 0) : ∃ w b, X1_readCommand_f v a = (true, w, b) ∧ w 1 = 8 ∧ w 2 = 2 ∧ w 3 = 110 ∧ b 0 = a 0 ∧ b 4 0 = 1 :=
  ⟨_, _, tn_rd0 h1 h2 h.1 (by rw [h.2.1]; rfl) (by rw [h.2.2.1]; rfl), h1, rfl, rfl, rfl, by
    show 10 * 0 + (a 0 1 - 48) = 1
    rw [h.2.1]; rfl⟩
theorem tn_2 (h : tnC (a 0)) (h1 : v 1 = 8) (h2 : v 2 = 2) : ∃ w b, X1_readCommand_f v a = (true, w, b) ∧ w 1 = 8 ∧ w 2 = 5 ∧ w 3 = 110 ∧ b 0 = a 0 ∧ b 4 0 = 1 :=
  ⟨_, _, tn_rdk (k := 2) (by omega) h1 h2 h.2.2.1 h.2.2.2.1 (by rw [h.2.2.2.2.1]; rfl) (Or.inr (by rw [h.2.2.2.2.2.1]; rfl)), h1, rfl, rfl, rfl, by
    show 10 * 0 + (a 0 4 - 48) = 1
    rw [h.2.2.2.2.1]; rfl⟩
theorem tn_3 (h : tnC (a 0)) (h1 : v 1 = 8) (h2 : v 2 = 5) : ∃ w b, X1_readCommand_f v a = (true, w, b) ∧ w 1 = 8 ∧ w 2 = 8 ∧ w 3 = 110 ∧ b 0 = a 0 ∧ b 4 0 = 0 :=
  ⟨_, _, tn_rdk (k := 5) (by omega) h1 h2 h.2.2.2.2.2.1 h.2.2.2.2.2.2.1 (by rw [h.2.2.2.2.2.2.2]; rfl) (Or.inl rfl), h1, rfl, rfl, rfl, by
    show 10 * 0 + (a 0 7 - 48) = 0
    rw [h.2.2.2.2.2.2.2]; rfl⟩
theorem tn_ct {T : kK} (h : tnC (T.2 0)) (h1 : T.1 1 = 8) : (kCt T).1 = 3 ∧ (kCt T).2.1 1 = 8 ∧ (kCt T).2.2 0 = T.2 0 := by
  obtain ⟨w1, b1, e1, p1, q1, r1, s1, t1⟩ := tn_1 (v := upd T.1 2 0) h h1 rfl
  obtain ⟨w2, b2, e2, p2, q2, r2, s2, t2⟩ := tn_2 (v := w1) (a := b1) (by rw [s1]; exact h) p1 q1
  obtain ⟨w3, b3, e3, p3, q3, r3, s3, t3⟩ := tn_3 (v := w2) (a := b2) (by rw [s2, s1]; exact h) p2 q2
  have f1 : X1_countCommands_f T.1 T.2 = X1_countCommands_lp7 T.1 T.2 60 2 w1 b1 := by
    show X1_countCommands_lp7b T.1 T.2 (X1_countCommands_lp7 T.1 T.2 60) 1 (upd T.1 2 0) T.2 = _
    unfold X1_countCommands_lp7b
    rw [if_neg (by decide), e1, if_pos rfl, if_pos (show w1 2 < w1 1 from by rw [p1, q1]; decide)]
    rfl
  have f2 : X1_countCommands_lp7 T.1 T.2 60 2 w1 b1 = X1_countCommands_lp7 T.1 T.2 59 3 w2 b2 := by
    show X1_countCommands_lp7b T.1 T.2 (X1_countCommands_lp7 T.1 T.2 59) 2 w1 b1 = _
    unfold X1_countCommands_lp7b
    rw [if_neg (by decide), e2, if_pos rfl, if_pos (show w2 2 < w2 1 from by rw [p2, q2]; decide)]
    rfl
  have f3 : X1_countCommands_lp7 T.1 T.2 59 3 w2 b2 = (3, w3, b3) := by
    show X1_countCommands_lp7b T.1 T.2 (X1_countCommands_lp7 T.1 T.2 58) 3 w2 b2 = _
    unfold X1_countCommands_lp7b
    rw [if_neg (by decide), e3, if_pos rfl, if_neg (show ¬ w3 2 < w3 1 from by rw [p3, q3]; decide)]
  have f : kCt T = (3, w3, b3) := f1.trans (f2.trans f3)
  rw [f]
  exact ⟨rfl, p3, by show b3 0 = _; rw [s3, s2, s1]⟩
theorem kRun_go {cnt i : Int32} {n : Nat} {R R1 : Nat → Int32} {T C : kK} {w : Nat → Int32} {b : Nat → Nat → Int32} (hi : ¬ cnt ≤ i) (e : X1_readCommand_f T.1 T.2 = (true, w, b)) (hap : X3_applies_f C.1 C.2 R kA0 (w 3) (b 4 0) (b 4 1) (b 4 2) = (false, R1)) : kRun cnt (n + 1) i R T C = kRun cnt n (i + 1) R1 (w, b) (X0_carryOut_f C.1 C.2 (w 3) (b 4 0) (b 4 1) (b 4 2)).2 := by
  refine (if_neg hi).trans ?_
  rw [e]
  exact (if_neg (show ¬ (X3_applies_f C.1 C.2 R kA0 (w 3) (b 4 0) (b 4 1) (b 4 2)).1 = true from by rw [hap]; exact mk_ff _)).trans (congrArg (fun z => kRun cnt n (i + 1) z (w, b) (X0_carryOut_f C.1 C.2 (w 3) (b 4 0) (b 4 1) (b 4 2)).2) (congrArg Prod.snd hap))
theorem kRun_no {cnt i : Int32} {n : Nat} {R R1 : Nat → Int32} {T C : kK} {w : Nat → Int32} {b : Nat → Nat → Int32} (hi : ¬ cnt ≤ i) (e : X1_readCommand_f T.1 T.2 = (true, w, b)) (hap : X3_applies_f C.1 C.2 R kA0 (w 3) (b 4 0) (b 4 1) (b 4 2) = (true, R1)) : kRun cnt (n + 1) i R T C = (false, upd R1 2 i, C) := by
  refine (if_neg hi).trans ?_
  rw [e]
  exact (if_pos (show (X3_applies_f C.1 C.2 R kA0 (w 3) (b 4 0) (b 4 1) (b 4 2)).1 = true from by rw [hap])).trans (congrArg (fun z => (false, upd z 2 i, C)) (congrArg Prod.snd hap))
theorem tn_run {C : kK} {R : Nat → Int32} {T : kK} (h : tnC (T.2 0)) (h1 : T.1 1 = 8) : (kRunC C R T).1 = false ∧ (kRunC C R T).2.1 0 = 1 ∧ (kRunC C R T).2.1 1 = 0 ∧ (kRunC C R T).2.1 2 = 2 := by
  obtain ⟨g1, g2, g3⟩ := tn_ct h h1
  unfold kRunC
  rw [g1]
  obtain ⟨w1, b1, e1, p1, q1, r1, s1, t1⟩ := tn_1 (v := upd (kCt T).2.1 2 0) (a := (kCt T).2.2) (by rw [g3]; exact h) g2 rfl
  obtain ⟨w2, b2, e2, p2, q2, r2, s2, t2⟩ := tn_2 (v := w1) (a := b1) (by rw [s1, g3]; exact h) p1 q1
  obtain ⟨w3, b3, e3, p3, q3, r3, s3, t3⟩ := tn_3 (v := w2) (a := b2) (by rw [s2, s1, g3]; exact h) p2 q2
  have ap1 : ∀ (D : kK) (x y : Int32), X3_applies_f D.1 D.2 R kA0 110 1 x y = (false, R) := fun _ _ _ => rfl
  have ap0 : ∀ (D : kK) (x y : Int32), X3_applies_f D.1 D.2 R kA0 110 0 x y = (true, kR3 R 1 0) := fun _ _ _ => rfl
  rw [kRun_go (n := 60) (by decide) e1 (by rw [r1, t1]; exact ap1 C _ _), kRun_go (n := 59) (T := (w1, b1)) (by decide) e2 (by rw [r2, t2]; exact ap1 _ _ _), kRun_no (n := 58) (T := (w2, b2)) (by decide) e3 (by rw [r3, t3]; exact ap0 _ _ _)]
  exact ⟨rfl, rfl, rfl, rfl⟩
theorem kApp_ch {T : kK} {bs : List Int32} (h0 : T.1 1 = 0) : ∀ i : Nat, i ≤ 60 → ∀ j, j < i → (kApp T bs i).2 0 j = vp_nar .char (kChr (bs.getD j 0))
  | 0, _, j, hj => absurd hj (by omega)
  | i + 1, hi, j, hj => by
    have h1 := kApp_len (bs := bs) h0 i (by omega)
    have hc : (kApp T bs i).1 1 < 60 := by rw [h1]; exact (nI_ltI (b := 60) (by omega) (by omega)).mpr (by omega)
    have e : kApp T bs (i + 1) = (upd (kApp T bs i).1 1 ((kApp T bs i).1 1 + 1), va_up (kApp T bs i).2 0 (upd ((kApp T bs i).2 0) ((kApp T bs i).1 1).toNatClampNeg (vp_nar .char (kChr (bs.getD i 0))))) := congrArg (fun z : Nat × Int32 × kK => z.2.2) (if_pos hc)
    rw [e, h1, nI_clamp (by omega)]
    show upd ((kApp T bs i).2 0) i (vp_nar .char (kChr (bs.getD i 0))) j = _
    unfold upd
    by_cases c : j = i
    · rw [if_pos c, c]
    · rw [if_neg c]
      exact kApp_ch h0 i (by omega) j (by omega)
def kTn (T : kK) : kK := kApp T [110, 49, 59, 110, 49, 59, 110, 48] 8
theorem kTn_ok {T : kK} (h : T.1 1 = 0) : tnC ((kTn T).2 0) ∧ (kTn T).1 1 = 8 := by
  have q := kApp_ch (bs := [110, 49, 59, 110, 49, 59, 110, 48]) h 8 (by omega)
  have l := kApp_len (bs := [110, 49, 59, 110, 49, 59, 110, 48]) h 8 (by omega)
  unfold kTn tnC
  generalize kApp T [110, 49, 59, 110, 49, 59, 110, 48] 8 = T8 at q l ⊢
  refine ⟨⟨?_, ?_, ?_, ?_, ?_, ?_, ?_, ?_⟩, l⟩
  · rw [q 0 (by omega)]; decide +kernel
  · rw [q 1 (by omega)]; decide +kernel
  · rw [q 2 (by omega)]; decide +kernel
  · rw [q 3 (by omega)]; decide +kernel
  · rw [q 4 (by omega)]; decide +kernel
  · rw [q 5 (by omega)]; decide +kernel
  · rw [q 6 (by omega)]; decide +kernel
  · rw [q 7 (by omega)]; decide +kernel
end TN
