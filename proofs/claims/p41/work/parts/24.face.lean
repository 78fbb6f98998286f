def X4F (r : Nat → Nat) (v : Nat → Int32) : List Value := [.ref (r 0), .ref (r 1), .int (v 2), .ref (r 3), .ref (r 4), .ref (r 5), .int (v 6), .ref (r 7)]
def X4W (g : kG) (o : Nat) (r : Nat → Nat) (v : Nat → Int32) : va_W := [(o, .inr (8, X4F r v))]
/-- the objects of the face: now, snapshot, history, refusal, text, line -/
def kFr (c s h r t b : Nat) : Nat → Nat := fun i => match i with
  | 0 => c
  | 1 => s
  | 3 => h
  | 4 => r
  | 5 => t
  | _ => b
theorem kFX4 : kFl RX4 TX4 8 8 tyX4 := ⟨rfl, tyX4_ok, nmX4, ku_X4⟩
theorem X4s_2 {g : kG} {o : Nat} {r : Nat → Nat} {v : Nat → Int32} {x : Int32} : (X4W g o r v).set 0 (o, .inr (8, (X4F r v).set 2 (.int x))) = X4W g o r (upd v 2 x) := rfl
theorem X4s_6 {g : kG} {o : Nat} {r : Nat → Nat} {v : Nat → Int32} {x : Int32} : (X4W g o r v).set 0 (o, .inr (8, (X4F r v).set 6 (.int x))) = X4W g o r (upd v 6 x) := rfl
/-- a Caravan's counts and market in range -/
def kIC (v : Nat → Int32) : Prop := (∃ n : Nat, n ≤ 6 ∧ v 7 = nI n) ∧ (∃ n : Nat, n ≤ 6 ∧ v 4 = nI n) ∧ vp_in (v 1) 4
theorem k_lt6 {x : Int32} (h : ∃ n : Nat, n ≤ 6 ∧ x = nI n) (c : x < 6) : vp_in x 6 := by
  obtain ⟨n, h1, rfl⟩ := h
  exact vp_in_nI ((nI_ltI (b := 6) (by omega) (by omega)).mp c) (by omega)
theorem k_in6 {x : Int32} (h : vp_in x 6) : ∃ n : Nat, n ≤ 6 ∧ x + 1 = nI n := by
  obtain ⟨j, hj, rfl⟩ := vp_in_of h (by omega)
  exact ⟨j + 1, by omega, nI_1 j⟩
theorem X3_ofFilling_ok {vC : Nat → Int32} {aC : Nat → Nat → Int32} {vR : Nat → Int32} {aR : Nat → Nat → Int32} {p1 p2 p3 : Int32} (h : ¬ (X3_ofFilling_f vC aC vR aR p1 p2 p3).1 = true) : X0_hasBag_f vC aC p1 = true ∧ X0_hasJar_f vC aC p2 = true := by
  unfold X3_ofFilling_f at h
  by_cases c1 : (X3_ofMissing_f vR aR (X0_hasBag_f vC aC p1) p1).1 = true
  · rw [if_pos c1] at h; exact absurd rfl h
  rw [if_neg c1] at h
  by_cases c2 : (X3_ofMissing_f ((X3_ofMissing_f vR aR (X0_hasBag_f vC aC p1) p1).2) aR (X0_hasJar_f vC aC p2) p2).1 = true
  · rw [if_pos c2] at h; exact absurd rfl h
  exact ⟨X3_miss c1, X3_miss c2⟩
theorem X3_ofEmptying_ok {vC : Nat → Int32} {aC : Nat → Nat → Int32} {vR : Nat → Int32} {aR : Nat → Nat → Int32} {p1 p2 : Int32} (h : ¬ (X3_ofEmptying_f vC aC vR aR p1 p2).1 = true) : X0_hasBag_f vC aC p1 = true ∧ X0_hasJar_f vC aC p2 = true := by
  unfold X3_ofEmptying_f at h
  by_cases c1 : (X3_ofMissing_f vR aR (X0_hasBag_f vC aC p1) p1).1 = true
  · rw [if_pos c1] at h; exact absurd rfl h
  rw [if_neg c1] at h
  by_cases c2 : (X3_ofMissing_f ((X3_ofMissing_f vR aR (X0_hasBag_f vC aC p1) p1).2) aR (X0_hasJar_f vC aC p2) p2).1 = true
  · rw [if_pos c2] at h; exact absurd rfl h
  exact ⟨X3_miss c1, X3_miss c2⟩
theorem X3_ofSelling_ok {vC : Nat → Int32} {aC : Nat → Nat → Int32} {vR : Nat → Int32} {aR : Nat → Nat → Int32} {p1 : Int32} (h : ¬ (X3_ofSelling_f vC aC vR aR p1).1 = true) : X0_hasBag_f vC aC p1 = true := by
  unfold X3_ofSelling_f at h
  by_cases c1 : (X3_ofMissing_f vR aR (X0_hasBag_f vC aC p1) p1).1 = true
  · rw [if_pos c1] at h; exact absurd rfl h
  exact X3_miss c1
theorem X3_ofGoing_ok {vC : Nat → Int32} {aC : Nat → Nat → Int32} {vR : Nat → Int32} {aR : Nat → Nat → Int32} {p1 : Int32} (h : ¬ (X3_ofGoing_f vC aC vR aR p1).1 = true) : X4_isMarket_f p1 = true := by
  unfold X3_ofGoing_f at h
  by_cases c1 : (X3_ofMissing_f vR aR (X4_isMarket_f p1) p1).1 = true
  · rw [if_pos c1] at h; exact absurd rfl h
  exact X3_miss c1
theorem X3_ofSealing_ok {vC : Nat → Int32} {aC : Nat → Nat → Int32} {vR : Nat → Int32} {aR : Nat → Nat → Int32} {p1 : Int32} (h : ¬ (X3_ofSealing_f vC aC vR aR p1).1 = true) : X4_isWeight_f p1 = true := by
  unfold X3_ofSealing_f at h
  by_cases c1 : (X3_ofMissing_f vR aR (X4_isWeight_f p1) p1).1 = true
  · rw [if_pos c1] at h; exact absurd rfl h
  exact X3_miss c1
theorem X3_ofJar_ok {vC : Nat → Int32} {aC : Nat → Nat → Int32} {vR : Nat → Int32} {aR : Nat → Nat → Int32} {p1 p2 : Int32} (h : ¬ (X3_ofJar_f vC aC vR aR p1 p2).1 = true) : vC 4 < 6 := by
  unfold X3_ofJar_f at h
  (repeat' split at h) <;> first | exact absurd rfl h | assumption
theorem X3_ofBag_ok {vC : Nat → Int32} {aC : Nat → Nat → Int32} {vR : Nat → Int32} {aR : Nat → Nat → Int32} {p1 : Int32} (h : ¬ (X3_ofBag_f vC aC vR aR p1).1 = true) : vC 7 < 6 := by
  unfold X3_ofBag_f at h
  (repeat' split at h) <;> first | exact absurd rfl h | assumption
/-- what is carried out if nothing is refused -/
def kCO (v : Nat → Int32) (p1 p2 p3 : Int32) : Prop := (p1 = 74 → vp_in (v 4) 6) ∧ (p1 = 66 → vp_in (v 7) 6) ∧ (p1 = 102 → vp_in p2 6 ∧ vp_in p3 6) ∧ (p1 = 101 → vp_in p2 6 ∧ vp_in p3 6) ∧ (p1 = 98 ∨ p1 = 119 ∨ p1 = 115 → vp_in p2 6) ∧ (p1 = 103 → vp_in p2 4) ∧ (p1 = 120 → vp_in p2 8)
theorem X3_applies_ok {vC : Nat → Int32} {aC : Nat → Nat → Int32} {vR : Nat → Int32} {aR : Nat → Nat → Int32} {p1 p2 p3 p4 : Int32} {nb nj : Nat} (hnb : nb ≤ 6) (hv7 : vC 7 = nI nb) (hnj : nj ≤ 6) (hv4 : vC 4 = nI nj) (h : ¬ (X3_applies_f vC aC vR aR p1 p2 p3 p4).1 = true) : kCO vC p1 p2 p3 := by
  refine ⟨?_, ?_, ?_, ?_, ?_, ?_, ?_⟩
  · rintro rfl
    have e : X3_applies_f vC aC vR aR 74 p2 p3 p4 = ((X3_ofJar_f vC aC vR aR p2 p3).1, (X3_ofJar_f vC aC vR aR p2 p3).2) := (if_neg (by decide)).trans (if_pos rfl)
    rw [e] at h
    exact k_lt6 ⟨nj, hnj, hv4⟩ (X3_ofJar_ok (vR := vR) (aR := aR) (aC := aC) h)
  · rintro rfl
    have e : X3_applies_f vC aC vR aR 66 p2 p3 p4 = ((X3_ofBag_f vC aC vR aR p2).1, (X3_ofBag_f vC aC vR aR p2).2) := if_pos rfl
    rw [e] at h
    exact k_lt6 ⟨nb, hnb, hv7⟩ (X3_ofBag_ok (vR := vR) (aR := aR) (aC := aC) h)
  · rintro rfl
    have e : X3_applies_f vC aC vR aR 102 p2 p3 p4 = ((X3_ofFilling_f vC aC vR aR p2 p3 p4).1, (X3_ofFilling_f vC aC vR aR p2 p3 p4).2) := (if_neg (by decide)).trans ((if_neg (by decide)).trans ((if_neg (by decide)).trans ((if_neg (by decide)).trans (if_pos rfl))))
    rw [e] at h
    have := X3_ofFilling_ok (vC := vC) (aC := aC) (vR := vR) (aR := aR) (p1 := p2) (p2 := p3) (p3 := p4) h
    exact ⟨k_hasBag this.1 hv7 hnb, k_hasJar this.2 hv4 hnj⟩
  · rintro rfl
    have e : X3_applies_f vC aC vR aR 101 p2 p3 p4 = ((X3_ofEmptying_f vC aC vR aR p2 p3).1, (X3_ofEmptying_f vC aC vR aR p2 p3).2) := (if_neg (by decide)).trans ((if_neg (by decide)).trans ((if_neg (by decide)).trans (if_pos rfl)))
    rw [e] at h
    have := X3_ofEmptying_ok (vC := vC) (aC := aC) (vR := vR) (aR := aR) (p1 := p2) (p2 := p3) h
    exact ⟨k_hasBag this.1 hv7 hnb, k_hasJar this.2 hv4 hnj⟩
  · rintro (rfl | rfl | rfl)
    · have e : X3_applies_f vC aC vR aR 98 p2 p3 p4 = ((X3_ofMissing_f vR aR (X0_hasBag_f vC aC p2) p2).1, (X3_ofMissing_f vR aR (X0_hasBag_f vC aC p2) p2).2) := (if_neg (by decide)).trans ((if_neg (by decide)).trans (if_pos rfl))
      rw [e] at h
      exact k_hasBag (X3_miss (vR := vR) (aR := aR) (n := p2) h) hv7 hnb
    · have e : X3_applies_f vC aC vR aR 119 p2 p3 p4 = ((X3_ofMissing_f vR aR (X0_hasBag_f vC aC p2) p2).1, (X3_ofMissing_f vR aR (X0_hasBag_f vC aC p2) p2).2) := (if_neg (by decide)).trans ((if_neg (by decide)).trans ((if_neg (by decide)).trans ((if_neg (by decide)).trans ((if_neg (by decide)).trans ((if_neg (by decide)).trans ((if_neg (by decide)).trans ((if_neg (by decide)).trans ((if_neg (by decide)).trans ((if_neg (by decide)).trans (if_pos rfl))))))))))
      rw [e] at h
      exact k_hasBag (X3_miss (vR := vR) (aR := aR) (n := p2) h) hv7 hnb
    · have e : X3_applies_f vC aC vR aR 115 p2 p3 p4 = ((X3_ofSelling_f vC aC vR aR p2).1, (X3_ofSelling_f vC aC vR aR p2).2) := (if_neg (by decide)).trans ((if_neg (by decide)).trans ((if_neg (by decide)).trans ((if_neg (by decide)).trans ((if_neg (by decide)).trans ((if_neg (by decide)).trans ((if_neg (by decide)).trans ((if_neg (by decide)).trans (if_pos rfl))))))))
      rw [e] at h
      exact k_hasBag (X3_ofSelling_ok (vC := vC) (aC := aC) (vR := vR) (aR := aR) (p1 := p2) h) hv7 hnb
  · rintro rfl
    have e : X3_applies_f vC aC vR aR 103 p2 p3 p4 = ((X3_ofGoing_f vC aC vR aR p2).1, (X3_ofGoing_f vC aC vR aR p2).2) := (if_neg (by decide)).trans ((if_neg (by decide)).trans ((if_neg (by decide)).trans ((if_neg (by decide)).trans ((if_neg (by decide)).trans (if_pos rfl)))))
    rw [e] at h
    exact k_isMarket (X3_ofGoing_ok (vC := vC) (aC := aC) (vR := vR) (aR := aR) (p1 := p2) h)
  · rintro rfl
    have e : X3_applies_f vC aC vR aR 120 p2 p3 p4 = ((X3_ofSealing_f vC aC vR aR p2).1, (X3_ofSealing_f vC aC vR aR p2).2) := (if_neg (by decide)).trans ((if_neg (by decide)).trans ((if_neg (by decide)).trans ((if_neg (by decide)).trans ((if_neg (by decide)).trans ((if_neg (by decide)).trans ((if_neg (by decide)).trans ((if_neg (by decide)).trans ((if_neg (by decide)).trans ((if_neg (by decide)).trans ((if_neg (by decide)).trans (if_pos rfl)))))))))))
    rw [e] at h
    exact k_isWeight (X3_ofSealing_ok (vC := vC) (aC := aC) (vR := vR) (aR := aR) (p1 := p2) h)
theorem X0_letDaysGo_lv {vC : Nat → Int32} {aC0 : Nat → Nat → Int32} {p0 : Int32} : ∀ (n : Nat) (x : Int32) (aC : Nat → Nat → Int32), ∀ k, k ≠ 0 → (X0_letDaysGo_lp12 vC aC0 p0 n x aC).2.1 k = vC k := by
  intro n
  induction n with
  | zero => intro x aC k hk; rfl
  | succ n ih =>
    intro x aC k hk
    rw [X0_letDaysGo_lp12_s]
    unfold X0_letDaysGo_lp12b
    by_cases c : vC 7 ≤ x
    · exact (congrFun (congrArg (fun r : Int32 × (Nat → Int32) × (Nat → Nat → Int32) => r.2.1) (if_pos c)) k).trans (pk_un hk)
    · exact (congrFun (congrArg (fun r : Int32 × (Nat → Int32) × (Nat → Nat → Int32) => r.2.1) (if_neg c)) k).trans (ih _ _ k hk)
def kICP (r : Int32 × (Nat → Int32) × (Nat → Nat → Int32)) : Prop := kIC r.2.1
theorem X0_carryOut_ic {vC : Nat → Int32} {aC : Nat → Nat → Int32} {p0 p1 p2 p3 : Int32} (hI : kIC vC) (h : kCO vC p0 p1 p2) : kIC (X0_carryOut_f vC aC p0 p1 p2 p3).2.1 := by
  have ld : ∀ (a : Nat → Nat → Int32) (d : Int32), kIC (X0_letDaysGo_f vC a d).2.1 := fun a d => by
    unfold kIC
    rw [show (X0_letDaysGo_f vC a d).2.1 7 = vC 7 from X0_letDaysGo_lv _ _ _ 7 (by omega), show (X0_letDaysGo_f vC a d).2.1 4 = vC 4 from X0_letDaysGo_lv _ _ _ 4 (by omega), show (X0_letDaysGo_f vC a d).2.1 1 = vC 1 from X0_letDaysGo_lv _ _ _ 1 (by omega)]
    exact hI
  have tv : p0 = 103 → kICP (X0_travelTo_f vC aC p1) := fun e => by
    have h1 := h.2.2.2.2.2.1 e
    have h2 := ld aC (X0_distanceTo_f vC aC p1)
    exact k_if (P := kICP) (fun _ => ⟨h2.1, h2.2.1, h1⟩) (fun _ => ⟨h2.1, h2.2.1, h1⟩)
  have key : kICP (X0_carryOut_f vC aC p0 p1 p2 p3) :=
    k_if (P := kICP) (fun e => ⟨k_in6 (h.2.1 e), hI.2.1, hI.2.2⟩) (fun _ => k_if (P := kICP) (fun e => ⟨hI.1, k_in6 (h.1 e), hI.2.2⟩) (fun _ => k_if (P := kICP) (fun _ => hI) (fun _ => k_if (P := kICP) (fun _ => hI) (fun _ => k_if (P := kICP) (fun _ => hI) (fun _ => k_if (P := kICP) (fun e => tv e) (fun _ => k_if (P := kICP) (fun _ => ld _ _) (fun _ => k_if (P := kICP) (fun _ => hI) (fun _ => k_if (P := kICP) (fun _ => hI) (fun _ => k_if (P := kICP) (fun _ => hI) (fun _ => k_if (P := kICP) (fun _ => hI) (fun _ => k_if (P := kICP) (fun _ => hI) (fun _ => hI))))))))))))
  exact key
theorem X1_countCommands_lq {vT0 : Nat → Int32} {aT0 : Nat → Nat → Int32} : ∀ (n j : Nat) (vT : Nat → Int32) (aT : Nat → Nat → Int32), j ≤ 61 → kOK1 vT → ((X1_countCommands_lp7 vT0 aT0 n (nI j) vT aT).1 ≤ 0 ∨ ∃ c : Nat, c ≤ 60 ∧ (X1_countCommands_lp7 vT0 aT0 n (nI j) vT aT).1 = nI c) ∧ kOK1 (X1_countCommands_lp7 vT0 aT0 n (nI j) vT aT).2.1 := by
  intro n
  induction n with
  | zero => intro j vT aT hj h; exact ⟨Or.inl (show (0 : Int32) ≤ 0 by decide), h⟩
  | succ n ih =>
    intro j vT aT hj h
    rw [X1_countCommands_lp7_s]
    unfold X1_countCommands_lp7b
    have h2 := X1_readCommand_ok (aT := aT) h
    split
    · exact ⟨Or.inl (show (-1 : Int32) ≤ 0 by decide), h⟩
    · rename_i c
      have hle := k_le60 rfl hj c
      split
      · split
        · rw [nI_1]; exact ih (j + 1) _ _ (by omega) h2
        · exact ⟨Or.inr ⟨j, hle, rfl⟩, h2⟩
      · exact ⟨Or.inl (show (-1 : Int32) ≤ 0 by decide), h2⟩
theorem X1_countCommands_q {vT : Nat → Int32} {aT : Nat → Nat → Int32} (h : ∃ n : Nat, n ≤ 60 ∧ vT 1 = nI n) : ((X1_countCommands_f vT aT).1 ≤ 0 ∨ ∃ c : Nat, c ≤ 60 ∧ (X1_countCommands_f vT aT).1 = nI c) ∧ kOK1 (X1_countCommands_f vT aT).2.1 := X1_countCommands_lq 61 1 _ _ (by omega) (k_ok0L h)
theorem k_ok1L {v : Nat → Int32} (h : kOK1 v) : ∃ n : Nat, n ≤ 60 ∧ v 1 = nI n := by
  obtain ⟨ln, p, h1, h2, h3, h4⟩ := h
  exact ⟨ln, h2, h3⟩
theorem k_ap60 {x : Int32} (h : ∃ n : Nat, n ≤ 60 ∧ x = nI n) (c : x < 60) : vp_in x 60 := by
  obtain ⟨n, h1, rfl⟩ := h
  exact vp_in_nI ((nI_ltI (b := 60) (by omega) (by omega)).mp c) (by omega)

theorem kw81 : Cond.initialized "java/lang/IllegalStateException" ∈ kW := k_w 2 13 rfl rfl
theorem kw85 : Cond.initialized "java/lang/IllegalArgumentException" ∈ kW := k_w 2 17 rfl rfl
theorem kw88 : Cond.initialized "java/util/NoSuchElementException" ∈ kW := k_w 2 20 rfl rfl
theorem kw89 : Cond.initialized "java/lang/IndexOutOfBoundsException" ∈ kW := k_w 2 21 rfl rfl
theorem kw301 : Cond.fieldLink RX4 10 "SpiceScale" "now" "LSpiceScale$Caravan;" ∈ kW := k_w 2 233 rfl rfl
theorem kw302 : Cond.fieldLink RX4 16 "SpiceScale" "snapshot" "LSpiceScale$Caravan;" ∈ kW := k_w 2 234 rfl rfl
theorem kw303 : Cond.fieldLink RX4 19 "SpiceScale" "hasSnapshot" "Z" ∈ kW := k_w 2 235 rfl rfl
theorem kw304 : Cond.fieldLink RX4 26 "SpiceScale" "history" "LSpiceScale$History;" ∈ kW := k_w 2 236 rfl rfl
theorem kw305 : Cond.fieldLink RX4 33 "SpiceScale" "refusal" "LSpiceScale$Refusal;" ∈ kW := k_w 2 237 rfl rfl
theorem kw306 : Cond.fieldLink RX4 40 "SpiceScale" "text" "LSpiceScale$CommandText;" ∈ kW := k_w 2 238 rfl rfl
theorem kw307 : Cond.fieldLink RX4 44 "SpiceScale" "fault" "I" ∈ kW := k_w 2 239 rfl rfl
theorem kw550 : Cond.methodLink RX2 29 Lib.Math.min.name ∈ kW := k_w 4 2 rfl rfl
theorem kw737 : Cond.methodLink RX4 105 yX4_isWeight ∈ kW := k_w 4 189 rfl rfl
theorem kw738 : Cond.classLink RX4 63 "java/lang/IndexOutOfBoundsException" ∈ kW := k_w 4 190 rfl rfl
theorem kw756 : Cond.classLink RX4 100 "java/lang/IllegalArgumentException" ∈ kW := k_w 4 208 rfl rfl
theorem kw779 : Cond.methodLink RX4 77 yX4_checkBag ∈ kW := k_w 4 231 rfl rfl
theorem kw787 : Cond.methodLink RX4 127 yX4_toldBy ∈ kW := k_w 4 239 rfl rfl
theorem kw825 : Cond.methodLink RX4 136 yX4_checkMarket ∈ kW := k_w 5 37 rfl rfl
theorem kw828 : Cond.methodLink RX4 301 yX4_isMarket ∈ kW := k_w 5 40 rfl rfl
theorem kw830 : Cond.methodLink RX4 139 yX4_isSpice ∈ kW := k_w 5 42 rfl rfl
theorem kw832 : Cond.methodLink RX4 144 yX4_priceOf ∈ kW := k_w 5 44 rfl rfl
theorem kw840 : Cond.fieldLink RX4 175 "SpiceScale" "GREATEST_UNNOTICED" "[I" ∈ kW := k_w 5 52 rfl rfl
theorem kw849 : Cond.classLink RX4 186 "java/lang/IllegalStateException" ∈ kW := k_w 5 61 rfl rfl
theorem kw968 : Cond.methodLink RX4 267 yX4_sumOf ∈ kW := k_w 5 180 rfl rfl
theorem kw1006 : Cond.classLink RX4 164 "java/util/NoSuchElementException" ∈ kW := k_w 5 218 rfl rfl
theorem kw1395 : Cond.methodLink RX4 148 yX4_checkFilled ∈ kW := k_w 7 127 rfl rfl
abbrev wX2_keepHeld : List Cond := Cond.code yX2_keepHeld cX2_keepHeld 1 none :: kW
def X2_keepHeld_f (vH : Nat → Int32) (aH : Nat → (Nat → Int32) × (Nat → Nat → Int32)) : (Nat → Int32) :=
  upd (upd vH 1 (((vH 1) + 1) - ((vH 1) + 1) / 9 * 9)) 2 (if 8 < ((vH 2) + 1) then 8 else ((vH 2) + 1))
set_option maxHeartbeats 4000000 in
set_option maxRecDepth 100000 in
theorem X2_keepHeld_c (l : Launch) (g : kG) (oH : Nat) (rH : Nat → Nat) (vH : Nat → Int32) (oQ : Nat → Nat) (rQ : Nat → Nat → Nat) (aH : Nat → (Nat → Int32) × (Nat → Nat → Int32)) : kV l yX2_keepHeld wX2_keepHeld 1 21 0 0 g [.ref oH] [X2W g oH rH vH oQ rQ aH] (fun u => u = [X2W g oH rH (X2_keepHeld_f vH aH) oQ rQ aH]) := by
  refine kV_of (cc := cX2_keepHeld) (nL := 1) (ret := none) (lv := [(0, .ref oH)]) (by decide) rfl (Nat.le_of_ble_eq_true rfl) rfl ?_
  intro p e s m args below meth c ls A hnm C hP hD hE hA hS hl
  have C : kC p c cX2_keepHeld s m args meth RX2 g 1 none := C
  have hx := C.1.1
  have hb := C.1.2.1
  have hts := C.1.2.2.2.2
  refine lv_aload_n hx hb dX2_keepHeld_0 rfl (lv_at hl 0 rfl) ?_
  refine lv_aload_n hx hb dX2_keepHeld_1 rfl (lv_at hl 0 rfl) ?_
  refine kg_get C kFX2 (k := 1) kw211 hP (i := 0) (q := 0) rfl rfl (by decide) rfl dX2_keepHeld_2 ?_
  refine lv_iconst (v := 1) hx hb dX2_keepHeld_5 (by decide) ?_
  refine lv_iadd hx hb dX2_keepHeld_6 ?_
  refine lv_bipush (v := 9) hx hb dX2_keepHeld_7 (by decide) ?_
  refine lv_irem hx hb dX2_keepHeld_9 (by decide) ?_
  refine kg_put C kFX2 (k := 1) kw211 hP hD hS (i := 0) (q := 0) rfl rfl (by decide) rfl rfl rfl (Nat.le_of_ble_eq_true rfl) X2s_1 rfl dX2_keepHeld_10 (fun H locs hP hD hS => ?_)
  have hP : kp g [X2W g oH rH (upd vH 1 (((vH 1) + 1) - ((vH 1) + 1) / 9 * 9)) oQ rQ aH] H := hP
  have hD : kd A [X2W g oH rH (upd vH 1 (((vH 1) + 1) - ((vH 1) + 1) / 9 * 9)) oQ rQ aH] := hD
  refine lv_aload_n hx hb dX2_keepHeld_13 rfl (lv_at hl 0 rfl) ?_
  refine lv_aload_n hx hb dX2_keepHeld_14 rfl (lv_at hl 0 rfl) ?_
  refine kg_get C kFX2 (k := 2) kw212 hP (i := 0) (q := 0) rfl rfl (by decide) rfl dX2_keepHeld_15 ?_
  refine lv_iconst (v := 1) hx hb dX2_keepHeld_18 (by decide) ?_
  refine lv_iadd hx hb dX2_keepHeld_19 ?_
  refine lv_bipush (v := 8) hx hb dX2_keepHeld_20 (by decide) ?_
  refine va_mmin hx hb (by rw [C.1.2.2.1, hl.1]) C.1.2.2.2.1 (hts _ (kw550)) (hts _ kw551) (hts _ kw84) (hts _ kw552) (Nat.le_of_ble_eq_true rfl) (Nat.le_of_ble_eq_true rfl) (Nat.le_of_ble_eq_true rfl) (Nat.le_of_ble_eq_true rfl) dX2_keepHeld_22 ?_
  refine kg_put C kFX2 (k := 2) kw212 hP hD hS (i := 0) (q := 0) rfl rfl (by decide) rfl rfl rfl (Nat.le_of_ble_eq_true rfl) X2s_2 rfl dX2_keepHeld_25 (fun H locs hP hD hS => ?_)
  have hP : kp g [X2W g oH rH (upd (upd vH 1 (((vH 1) + 1) - ((vH 1) + 1) / 9 * 9)) 2 (if 8 < ((vH 2) + 1) then 8 else ((vH 2) + 1))) oQ rQ aH] H := hP
  have hD : kd A [X2W g oH rH (upd (upd vH 1 (((vH 1) + 1) - ((vH 1) + 1) / 9 * 9)) 2 (if 8 < ((vH 2) + 1) then 8 else ((vH 2) + 1))) oQ rQ aH] := hD
  have hF := (show X2_keepHeld_f vH aH = upd (upd vH 1 (((vH 1) + 1) - ((vH 1) + 1) / 9 * 9)) 2 (if 8 < ((vH 2) + 1) then 8 else ((vH 2) + 1)) from rfl)
  exact kV_ret C hP hD hS (by rw [hF]) dX2_keepHeld_28

abbrev wX4_checkBag : List Cond := Cond.code yX4_checkBag cX4_checkBag 2 none :: kW
def X4_checkBag_f (vF : Nat → Int32) (vC : Nat → Int32) (aC : Nat → Nat → Int32) (p0 : Int32) : Nat :=
  if (X0_hasBag_f vC aC p0) = true then 0
  else 2
set_option maxHeartbeats 4000000 in
set_option maxRecDepth 100000 in
theorem X4_checkBag_c (l : Launch) (g : kG) (oF : Nat) (vF : Nat → Int32) (oS oH oR oT oB : Nat) (oC : Nat) (rC : Nat → Nat) (vC : Nat → Int32) (aC : Nat → Nat → Int32) (p0 : Int32) (hfl : l.stackTraces = false) : kXV l yX4_checkBag wX4_checkBag 6 82 1 6 g [.ref oF, .int p0] [X4W g oF (kFr oC oS oH oR oT oB) vF, X0W g oC rC vC aC] (fun u => (X4_checkBag_f vF vC aC p0) = 0 ∧ u = [X4W g oF (kFr oC oS oH oR oT oB) vF, X0W g oC rC vC aC]) (fun E u => (X4_checkBag_f vF vC aC p0) ≠ 0 ∧ E = kEx (X4_checkBag_f vF vC aC p0) ∧ u = [X4W g oF (kFr oC oS oH oR oT oB) vF, X0W g oC rC vC aC]) := by
  refine kXV_of (cc := cX4_checkBag) (nL := 2) (ret := none) (lv := [(0, .ref oF), (1, .int p0)]) (by decide) rfl (Nat.le_of_ble_eq_true rfl) rfl ?_
  intro p e s m args below meth c ls A htb C hP hD hE hA hS hl
  have C : kC p c cX4_checkBag s m args meth RX4 g 2 none := C
  have hx := C.1.1
  have hb := C.1.2.1
  have hts := C.1.2.2.2.2
  refine lv_aload_n hx hb dX4_checkBag_0 rfl (lv_at hl 0 rfl) ?_
  refine kg_get (v := .ref oC) C kFX4 (k := 0) kw301 hP (i := 0) (q := 0) rfl rfl (by decide) rfl dX4_checkBag_1 ?_
  refine lv_iload_n hx hb dX4_checkBag_4 rfl (lv_at hl 1 rfl) ?_
  refine kR_VN (As := [.int p0]) (rest := []) C (X0_hasBag_c l g oC rC vC aC p0) ⟨va_cnB (host := "SpiceScale") 1 hts (k_gI ca_X0_hasBag.2.2.2) rfl rfl rfl (C.2.1.2 _ (List.mem_of_getElem? (i := 67) rfl)) (hts _ ca_X0_hasBag.2.2.1) pnX0_hasBag ⟨Nat.le_of_ble_eq_true rfl, Nat.le_of_ble_eq_true rfl⟩, hts _ ca_X0_hasBag.1, hts _ ca_X0_hasBag.2.1⟩ hE hS (hP.pick [1] rfl) (k_recv C kFX0 hP (i := 1) (q := 0) rfl rfl) rfl hl.1 rfl rfl dX4_checkBag_5 ⟨Nat.le_of_ble_eq_true rfl, Nat.le_of_ble_eq_true rfl⟩ ?_
  refine lv_if_ne (tgt := 22) hx hb dX4_checkBag_8 (by decide) (fun c1 => ?_) (fun c1 => ?_)
  · have c1 := b2i_ne0 c1
    have hF := (show X4_checkBag_f vF vC aC p0 = 0 from (if_pos c1).trans (rfl))
    exact kXV_ret C hP hD hS ⟨by rw [hF], rfl⟩ ⟨Nat.le_of_ble_eq_true rfl, Nat.le_of_ble_eq_true rfl⟩ dX4_checkBag_22
  have c1 := b2i_eq0 c1
  have hF := (show X4_checkBag_f vF vC aC p0 = 2 from (if_neg c1).trans (rfl))
  exact kX_throw (names := ["java/lang/RuntimeException", "java/lang/Exception"]) C hfl htb (by decide) (by decide) kw738 kw89 (List.mem_of_getElem? (i := 3) rfl) kx_at_IndexOutOfBoundsException hE hS hl.1 hP hD ⟨by rw [hF]; exact (by decide : (2 : Nat) ≠ 0), by rw [hF]; rfl, rfl⟩ dX4_checkBag_11 dX4_checkBag_14 dX4_checkBag_15 dX4_checkBag_18 dX4_checkBag_21 (by decide) (Nat.le_of_ble_eq_true rfl) ⟨Nat.le_of_ble_eq_true rfl, Nat.le_of_ble_eq_true rfl⟩ ⟨Nat.le_of_ble_eq_true rfl, Nat.le_of_ble_eq_true rfl⟩
theorem X4_cb {vF vC : Nat → Int32} {aC : Nat → Nat → Int32} {p : Int32} {n : Nat} (h : X4_checkBag_f vF vC aC p = 0) (hy : vC 7 = nI n) (hn : n ≤ 6) : vp_in p 6 := by
  unfold X4_checkBag_f at h
  split at h
  · exact k_hasBag (by assumption) hy hn
  · cases h

abbrev wX4_checkMarket : List Cond := Cond.code yX4_checkMarket cX4_checkMarket 1 none :: kW
def X4_checkMarket_f (p0 : Int32) : Nat :=
  if (X4_isMarket_f p0) = true then 0
  else 2
set_option maxHeartbeats 4000000 in
set_option maxRecDepth 100000 in
theorem X4_checkMarket_c (l : Launch) (g : kG) (p0 : Int32) (hfl : l.stackTraces = false) : kXV l yX4_checkMarket wX4_checkMarket 6 82 1 6 g [.int p0] [] (fun u => (X4_checkMarket_f p0) = 0 ∧ u = []) (fun E u => (X4_checkMarket_f p0) ≠ 0 ∧ E = kEx (X4_checkMarket_f p0) ∧ u = []) := by
  refine kXV_of (cc := cX4_checkMarket) (nL := 1) (ret := none) (lv := [(0, .int p0)]) (by decide) rfl (Nat.le_of_ble_eq_true rfl) rfl ?_
  intro p e s m args below meth c ls A htb C hP hD hE hA hS hl
  have C : kC p c cX4_checkMarket s m args meth RX4 g 1 none := C
  have hx := C.1.1
  have hb := C.1.2.1
  have hts := C.1.2.2.2.2
  refine lv_iload_n hx hb dX4_checkMarket_0 rfl (lv_at hl 0 rfl) ?_
  refine kR_S (As := [.int p0]) (rest := []) C (X4_isMarket_c l g p0) (va_cwS 1 hts (k_gS kw828 cs_X4_isMarket) rfl rfl rfl pnX4_isMarket ⟨Nat.le_of_ble_eq_true rfl, Nat.le_of_ble_eq_true rfl⟩) hE hS (hP.pick [] rfl) rfl hl.1 rfl rfl dX4_checkMarket_1 ⟨Nat.le_of_ble_eq_true rfl, Nat.le_of_ble_eq_true rfl⟩ ?_
  refine lv_if_ne (tgt := 18) hx hb dX4_checkMarket_4 (by decide) (fun c1 => ?_) (fun c1 => ?_)
  · have c1 := b2i_ne0 c1
    have hF := (show X4_checkMarket_f p0 = 0 from (if_pos c1).trans (rfl))
    exact kXV_ret C hP hD hS ⟨by rw [hF], rfl⟩ ⟨Nat.le_of_ble_eq_true rfl, Nat.le_of_ble_eq_true rfl⟩ dX4_checkMarket_18
  have c1 := b2i_eq0 c1
  have hF := (show X4_checkMarket_f p0 = 2 from (if_neg c1).trans (rfl))
  exact kX_throw (names := ["java/lang/RuntimeException", "java/lang/Exception"]) C hfl htb (by decide) (by decide) kw738 kw89 (List.mem_of_getElem? (i := 4) rfl) kx_at_IndexOutOfBoundsException hE hS hl.1 hP hD ⟨by rw [hF]; exact (by decide : (2 : Nat) ≠ 0), by rw [hF]; rfl, rfl⟩ dX4_checkMarket_7 dX4_checkMarket_10 dX4_checkMarket_11 dX4_checkMarket_14 dX4_checkMarket_17 (by decide) (Nat.le_of_ble_eq_true rfl) ⟨Nat.le_of_ble_eq_true rfl, Nat.le_of_ble_eq_true rfl⟩ ⟨Nat.le_of_ble_eq_true rfl, Nat.le_of_ble_eq_true rfl⟩
theorem X4_cm {p : Int32} (h : X4_checkMarket_f p = 0) : vp_in p 4 := by
  unfold X4_checkMarket_f at h
  split at h
  · exact k_isMarket (by assumption)
  · cases h

abbrev wX4_checkFilled : List Cond := Cond.code yX4_checkFilled cX4_checkFilled 2 none :: kW
def X4_checkFilled_f (vF : Nat → Int32) (vC : Nat → Int32) (aC : Nat → Nat → Int32) (p0 : Int32) : Nat :=
  if ((aC 11) p0.toNatClampNeg) = 0 then 4
  else 0
set_option maxHeartbeats 4000000 in
set_option maxRecDepth 100000 in
theorem X4_checkFilled_c (l : Launch) (g : kG) (oF : Nat) (vF : Nat → Int32) (oS oH oR oT oB : Nat) (oC : Nat) (rC : Nat → Nat) (vC : Nat → Int32) (aC : Nat → Nat → Int32) (p0 : Int32) (hb : vp_in p0 6) (hfl : l.stackTraces = false) : kXV l yX4_checkFilled wX4_checkFilled 6 82 1 6 g [.ref oF, .int p0] [X4W g oF (kFr oC oS oH oR oT oB) vF, X0W g oC rC vC aC] (fun u => (X4_checkFilled_f vF vC aC p0) = 0 ∧ u = [X4W g oF (kFr oC oS oH oR oT oB) vF, X0W g oC rC vC aC]) (fun E u => (X4_checkFilled_f vF vC aC p0) ≠ 0 ∧ E = kEx (X4_checkFilled_f vF vC aC p0) ∧ u = [X4W g oF (kFr oC oS oH oR oT oB) vF, X0W g oC rC vC aC]) := by
  refine kXV_of (cc := cX4_checkFilled) (nL := 2) (ret := none) (lv := [(0, .ref oF), (1, .int p0)]) (by decide) rfl (Nat.le_of_ble_eq_true rfl) rfl ?_
  intro p e s m args below meth c ls A htb C hP hD hE hA hS hl
  have C : kC p c cX4_checkFilled s m args meth RX4 g 2 none := C
  have hx := C.1.1
  have hb := C.1.2.1
  have hts := C.1.2.2.2.2
  refine lv_aload_n hx hb dX4_checkFilled_0 rfl (lv_at hl 0 rfl) ?_
  refine kg_get (v := .ref oC) C kFX4 (k := 0) kw301 hP (i := 0) (q := 0) rfl rfl (by decide) rfl dX4_checkFilled_1 ?_
  refine kg_getN C kFX0 (k := 11) (List.mem_of_getElem? (i := 22) rfl) hP (i := 1) (q := 0) rfl rfl (by decide) rfl dX4_checkFilled_4 ?_
  refine lv_iload_n hx hb dX4_checkFilled_7 rfl (lv_at hl 1 rfl) ?_
  refine kg_iald C hP (i := 1) (q := 6) rfl rfl (by first | assumption) dX4_checkFilled_8 ?_
  refine lv_if_ne (tgt := 23) hx hb dX4_checkFilled_9 (by decide) (fun c1 => ?_) (fun c1 => ?_)
  · have hF := (show X4_checkFilled_f vF vC aC p0 = 0 from (if_neg c1).trans (rfl))
    exact kXV_ret C hP hD hS ⟨by rw [hF], rfl⟩ ⟨Nat.le_of_ble_eq_true rfl, Nat.le_of_ble_eq_true rfl⟩ dX4_checkFilled_23
  have hF := (show X4_checkFilled_f vF vC aC p0 = 4 from (if_pos c1).trans (rfl))
  exact kX_throwN (Y1 := "java/lang/RuntimeException") (names := ["java/lang/Exception"]) (b := 13) C hfl htb (by decide) (by decide) (by decide) (by decide +kernel) (by decide +kernel) (by decide +kernel) (by decide +kernel) kw1006 kw88 (List.mem_of_getElem? (i := 24) rfl) kx_at_NoSuchElementException hE hS hl.1 hP hD ⟨by rw [hF]; exact (by decide : (4 : Nat) ≠ 0), by rw [hF]; rfl, rfl⟩ dX4_checkFilled_12 dX4_checkFilled_15 dX4_checkFilled_16 dX4_checkFilled_19 dX4_checkFilled_22 (by decide) (Nat.le_of_ble_eq_true rfl) ⟨Nat.le_of_ble_eq_true rfl, Nat.le_of_ble_eq_true rfl⟩ ⟨Nat.le_of_ble_eq_true rfl, Nat.le_of_ble_eq_true rfl⟩

abbrev wX4_jarOf : List Cond := Cond.code yX4_jarOf cX4_jarOf 3 (some .int) :: kW
def X4_jarOf_f (vF : Nat → Int32) (vC : Nat → Int32) (aC : Nat → Nat → Int32) (p0 : Int32) (p1 : Bool) : Nat × Int32 :=
  if (X0_hasJar_f vC aC p0) = true then (if p1 = true then (0, ((aC 5) p0.toNatClampNeg))
    else (0, ((aC 6) p0.toNatClampNeg)))
  else (2, 0)
set_option maxHeartbeats 4000000 in
set_option maxRecDepth 100000 in
theorem X4_jarOf_c (l : Launch) (g : kG) (oF : Nat) (vF : Nat → Int32) (oS oH oR oT oB : Nat) (oC : Nat) (rC : Nat → Nat) (vC : Nat → Int32) (aC : Nat → Nat → Int32) (p0 : Int32) (p1 : Bool) (nj : Nat) (hnj : nj ≤ 6) (hv4 : vC 4 = nI nj) (hfl : l.stackTraces = false) : kX l yX4_jarOf wX4_jarOf 6 82 1 6 g [.ref oF, .int p0, .int (b2i p1)] [X4W g oF (kFr oC oS oH oR oT oB) vF, X0W g oC rC vC aC] (fun x u => (X4_jarOf_f vF vC aC p0 p1).1 = 0 ∧ x = (X4_jarOf_f vF vC aC p0 p1).2 ∧ u = [X4W g oF (kFr oC oS oH oR oT oB) vF, X0W g oC rC vC aC]) (fun E u => (X4_jarOf_f vF vC aC p0 p1).1 ≠ 0 ∧ E = kEx (X4_jarOf_f vF vC aC p0 p1).1 ∧ u = [X4W g oF (kFr oC oS oH oR oT oB) vF, X0W g oC rC vC aC]) := by
  refine kX_of (cc := cX4_jarOf) (nL := 3) (ret := (some .int)) (lv := [(0, .ref oF), (1, .int p0), (2, .int (b2i p1))]) (by decide) rfl (Nat.le_of_ble_eq_true rfl) rfl ?_
  intro p e s m args below meth c ls A htb C hP hD hE hA hS hl
  have C : kC p c cX4_jarOf s m args meth RX4 g 3 (some .int) := C
  have hx := C.1.1
  have hb := C.1.2.1
  have hts := C.1.2.2.2.2
  refine lv_aload_n hx hb dX4_jarOf_0 rfl (lv_at hl 0 rfl) ?_
  refine kg_get (v := .ref oC) C kFX4 (k := 0) kw301 hP (i := 0) (q := 0) rfl rfl (by decide) rfl dX4_jarOf_1 ?_
  refine lv_iload_n hx hb dX4_jarOf_4 rfl (lv_at hl 1 rfl) ?_
  refine kR_VN (As := [.int p0]) (rest := []) C (X0_hasJar_c l g oC rC vC aC p0) ⟨va_cnB (host := "SpiceScale") 1 hts (k_gI ca_X0_hasJar.2.2.2) rfl rfl rfl (C.2.1.2 _ (List.mem_of_getElem? (i := 78) rfl)) (hts _ ca_X0_hasJar.2.2.1) pnX0_hasJar ⟨Nat.le_of_ble_eq_true rfl, Nat.le_of_ble_eq_true rfl⟩, hts _ ca_X0_hasJar.1, hts _ ca_X0_hasJar.2.1⟩ hE hS (hP.pick [1] rfl) (k_recv C kFX0 hP (i := 1) (q := 0) rfl rfl) rfl hl.1 rfl rfl dX4_jarOf_5 ⟨Nat.le_of_ble_eq_true rfl, Nat.le_of_ble_eq_true rfl⟩ ?_
  refine lv_if_ne (tgt := 21) hx hb dX4_jarOf_8 (by decide) (fun c1 => ?_) (fun c1 => ?_)
  · have c1 := b2i_ne0 c1
    have z1 := k_hasJar c1 hv4 hnj
    refine lv_iload_n hx hb dX4_jarOf_21 rfl (lv_at hl 2 rfl) ?_
    refine lv_if_eq (tgt := 37) hx hb dX4_jarOf_22 (by decide) (fun c2 => ?_) (fun c2 => ?_)
    · have c2 := b2i_eq0 c2
      refine lv_aload_n hx hb dX4_jarOf_37 rfl (lv_at hl 0 rfl) ?_
      refine kg_get (v := .ref oC) C kFX4 (k := 0) kw301 hP (i := 0) (q := 0) rfl rfl (by decide) rfl dX4_jarOf_38 ?_
      refine kg_getN C kFX0 (k := 6) (List.mem_of_getElem? (i := 13) rfl) hP (i := 1) (q := 0) rfl rfl (by decide) rfl dX4_jarOf_41 ?_
      refine lv_iload_n hx hb dX4_jarOf_44 rfl (lv_at hl 1 rfl) ?_
      refine kg_iald C hP (i := 1) (q := 2) rfl rfl (by first | assumption) dX4_jarOf_45 ?_
      have hF := (show X4_jarOf_f vF vC aC p0 p1 = (0, ((aC 6) p0.toNatClampNeg)) from (if_pos c1).trans ((if_neg c2).trans (rfl)))
      exact kX_ret (x := ((aC 6) p0.toNatClampNeg)) C hP hD hS ⟨by rw [hF], by rw [hF], rfl⟩ ⟨Nat.le_of_ble_eq_true rfl, Nat.le_of_ble_eq_true rfl⟩ dX4_jarOf_46
    have c2 := b2i_ne0 c2
    refine lv_aload_n hx hb dX4_jarOf_25 rfl (lv_at hl 0 rfl) ?_
    refine kg_get (v := .ref oC) C kFX4 (k := 0) kw301 hP (i := 0) (q := 0) rfl rfl (by decide) rfl dX4_jarOf_26 ?_
    refine kg_getN C kFX0 (k := 5) (List.mem_of_getElem? (i := 11) rfl) hP (i := 1) (q := 0) rfl rfl (by decide) rfl dX4_jarOf_29 ?_
    refine lv_iload_n hx hb dX4_jarOf_32 rfl (lv_at hl 1 rfl) ?_
    refine kg_iald C hP (i := 1) (q := 1) rfl rfl (by first | assumption) dX4_jarOf_33 ?_
    refine lv_goto (tgt := 46) hx hb dX4_jarOf_34 (by decide) ?_
    have hF := (show X4_jarOf_f vF vC aC p0 p1 = (0, ((aC 5) p0.toNatClampNeg)) from (if_pos c1).trans ((if_pos c2).trans (rfl)))
    exact kX_ret (x := ((aC 5) p0.toNatClampNeg)) C hP hD hS ⟨by rw [hF], by rw [hF], rfl⟩ ⟨Nat.le_of_ble_eq_true rfl, Nat.le_of_ble_eq_true rfl⟩ dX4_jarOf_46
  have c1 := b2i_eq0 c1
  have hF := (show X4_jarOf_f vF vC aC p0 p1 = (2, 0) from (if_neg c1).trans (rfl))
  exact kX_throwS (names := ["java/lang/RuntimeException", "java/lang/Exception"]) C hfl htb (by decide) (by decide) kw738 kw89 (List.mem_of_getElem? (i := 22) rfl) kx_at_IndexOutOfBoundsException hE hS hl.1 hP hD ⟨by rw [hF]; exact (by decide : (2 : Nat) ≠ 0), by rw [hF]; rfl, rfl⟩ dX4_jarOf_11 dX4_jarOf_14 dX4_jarOf_15 dX4_jarOf_17 dX4_jarOf_20 (by decide) (Nat.le_of_ble_eq_true rfl) ⟨Nat.le_of_ble_eq_true rfl, Nat.le_of_ble_eq_true rfl⟩ ⟨Nat.le_of_ble_eq_true rfl, Nat.le_of_ble_eq_true rfl⟩

theorem pnX4_checkBag : yX4_checkBag.cls ≠ "java/lang/invoke/MethodHandle" ∧ yX4_checkBag.cls ≠ "java/lang/invoke/VarHandle" ∧ (parseMethodDescriptor yX4_checkBag.desc).map (fun d => d.parameters.length) = some 1 := by decide +kernel
theorem ca_X4_checkBag : kCal yX4_checkBag (Cond.code yX4_checkBag cX4_checkBag 2 none) := ⟨k_w 4 233 rfl rfl, k_w 1 45 rfl rfl, k_w 2 1 rfl rfl, k_w 4 234 rfl rfl⟩

abbrev wX4_bagOf : List Cond := Cond.code yX4_bagOf cX4_bagOf 3 (some .int) :: kW
def X4_bagOf_f (vF : Nat → Int32) (vC : Nat → Int32) (aC : Nat → Nat → Int32) (p0 : Int32) (p1 : Int32) : Nat × Int32 :=
  if (X4_checkBag_f vF vC aC p0) = 0 then (if p1 = 0 then (0, ((aC 8) p0.toNatClampNeg))
    else if p1 = 1 then (0, ((aC 9) p0.toNatClampNeg))
    else if p1 = 2 then (0, ((aC 10) p0.toNatClampNeg))
    else if p1 = 3 then (0, ((aC 11) p0.toNatClampNeg))
    else if p1 = 4 then (0, (X0_loadOf_f vC aC p0))
    else if p1 = 5 then (0, ((aC 12) p0.toNatClampNeg))
    else (3, 0))
  else ((X4_checkBag_f vF vC aC p0), 0)
set_option maxHeartbeats 4000000 in
set_option maxRecDepth 100000 in
theorem X4_bagOf_c (l : Launch) (g : kG) (oF : Nat) (vF : Nat → Int32) (oS oH oR oT oB : Nat) (oC : Nat) (rC : Nat → Nat) (vC : Nat → Int32) (aC : Nat → Nat → Int32) (p0 : Int32) (p1 : Int32) (nb : Nat) (hnb : nb ≤ 6) (hv7 : vC 7 = nI nb) (hfl : l.stackTraces = false) : kX l yX4_bagOf wX4_bagOf 7 103 2 12 g [.ref oF, .int p0, .int p1] [X4W g oF (kFr oC oS oH oR oT oB) vF, X0W g oC rC vC aC] (fun x u => (X4_bagOf_f vF vC aC p0 p1).1 = 0 ∧ x = (X4_bagOf_f vF vC aC p0 p1).2 ∧ u = [X4W g oF (kFr oC oS oH oR oT oB) vF, X0W g oC rC vC aC]) (fun E u => (X4_bagOf_f vF vC aC p0 p1).1 ≠ 0 ∧ E = kEx (X4_bagOf_f vF vC aC p0 p1).1 ∧ u = [X4W g oF (kFr oC oS oH oR oT oB) vF, X0W g oC rC vC aC]) := by
  refine kX_of (cc := cX4_bagOf) (nL := 3) (ret := (some .int)) (lv := [(0, .ref oF), (1, .int p0), (2, .int p1)]) (by decide) rfl (Nat.le_of_ble_eq_true rfl) rfl ?_
  intro p e s m args below meth c ls A htb C hP hD hE hA hS hl
  have C : kC p c cX4_bagOf s m args meth RX4 g 3 (some .int) := C
  have hx := C.1.1
  have hb := C.1.2.1
  have hts := C.1.2.2.2.2
  refine lv_aload_n hx hb dX4_bagOf_0 rfl (lv_at hl 0 rfl) ?_
  refine lv_iload_n hx hb dX4_bagOf_1 rfl (lv_at hl 1 rfl) ?_
  refine kXV_V (As := [.int p0]) (rest := []) (wr := []) C (X4_checkBag_c l g oF vF oS oH oR oT oB oC rC vC aC p0 hfl) (cwV 1 hts (k_gV kw779 ca_X4_checkBag) rfl rfl rfl ⟨rfl, pnX4_checkBag⟩ ⟨Nat.le_of_ble_eq_true rfl, Nat.le_of_ble_eq_true rfl⟩) hE hS hA hP hD [0, 1] [] rfl rfl ⟨rfl, rfl, by decide⟩ (k_recv C kFX4 hP (i := 0) (q := 0) rfl rfl) rfl hl.1 rfl rfl dX4_bagOf_2 ⟨Nat.le_of_ble_eq_true rfl, Nat.le_of_ble_eq_true rfl⟩ (fun E1 u1 H locs q1 ce1 hp1 hP hD hS hce1 hcv1 hcl1 => ?_) (fun u1 H locs hp1 hP hD hS => ?_)
  · obtain ⟨c1, hE1, hu1⟩ := hp1
    subst hu1
    subst hE1
    have hP : kp g [X4W g oF (kFr oC oS oH oR oT oB) vF, X0W g oC rC vC aC] H := hP
    have hD : kd A [X4W g oF (kFr oC oS oH oR oT oB) vF, X0W g oC rC vC aC] := hD
    have hF := (show X4_bagOf_f vF vC aC p0 p1 = ((X4_checkBag_f vF vC aC p0), 0) from (if_neg c1).trans (rfl))
    exact kX_out C htb hce1 hcv1 hcl1 hP hD hS ⟨by rw [hF]; exact c1, by rw [hF], rfl⟩ ⟨Nat.le_of_ble_eq_true rfl, Nat.le_of_ble_eq_true rfl⟩
  obtain ⟨c1, hu1⟩ := hp1
  subst hu1
  have hP : kp g [X4W g oF (kFr oC oS oH oR oT oB) vF, X0W g oC rC vC aC] H := hP
  have hD : kd A [X4W g oF (kFr oC oS oH oR oT oB) vF, X0W g oC rC vC aC] := hD
  have z1 := X4_cb c1 hv7 hnb
  refine lv_iload_n hx hb dX4_bagOf_5 rfl (lv_at hl 2 rfl) ?_
  by_cases c2 : p1 = 0
  · refine lv_tableIn (off := 38) (tgt := 44) hx hb dX4_bagOf_6 (by show ¬ (p1).toInt < 0; rw [c2]; decide) (by show ¬ 5 < (p1).toInt; rw [c2]; decide) (by rw [c2]; rfl) (by decide) ?_
    refine lv_aload_n hx hb dX4_bagOf_44 rfl (lv_at hl 0 rfl) ?_
    refine kg_get (v := .ref oC) C kFX4 (k := 0) kw301 hP (i := 0) (q := 0) rfl rfl (by decide) rfl dX4_bagOf_45 ?_
    refine kg_getN C kFX0 (k := 8) (List.mem_of_getElem? (i := 17) rfl) hP (i := 1) (q := 0) rfl rfl (by decide) rfl dX4_bagOf_48 ?_
    refine lv_iload_n hx hb dX4_bagOf_51 rfl (lv_at hl 1 rfl) ?_
    refine kg_iald C hP (i := 1) (q := 3) rfl rfl (by first | assumption) dX4_bagOf_52 ?_
    have hF := (show X4_bagOf_f vF vC aC p0 p1 = (0, ((aC 8) p0.toNatClampNeg)) from (if_pos c1).trans ((if_pos c2).trans (rfl)))
    exact kX_ret (x := ((aC 8) p0.toNatClampNeg)) C hP hD hS ⟨by rw [hF], by rw [hF], rfl⟩ ⟨Nat.le_of_ble_eq_true rfl, Nat.le_of_ble_eq_true rfl⟩ dX4_bagOf_53
  by_cases c3 : p1 = 1
  · refine lv_tableIn (off := 48) (tgt := 54) hx hb dX4_bagOf_6 (by show ¬ (p1).toInt < 0; rw [c3]; decide) (by show ¬ 5 < (p1).toInt; rw [c3]; decide) (by rw [c3]; rfl) (by decide) ?_
    refine lv_aload_n hx hb dX4_bagOf_54 rfl (lv_at hl 0 rfl) ?_
    refine kg_get (v := .ref oC) C kFX4 (k := 0) kw301 hP (i := 0) (q := 0) rfl rfl (by decide) rfl dX4_bagOf_55 ?_
    refine kg_getN C kFX0 (k := 9) (List.mem_of_getElem? (i := 18) rfl) hP (i := 1) (q := 0) rfl rfl (by decide) rfl dX4_bagOf_58 ?_
    refine lv_iload_n hx hb dX4_bagOf_61 rfl (lv_at hl 1 rfl) ?_
    refine kg_iald C hP (i := 1) (q := 4) rfl rfl (by first | assumption) dX4_bagOf_62 ?_
    have hF := (show X4_bagOf_f vF vC aC p0 p1 = (0, ((aC 9) p0.toNatClampNeg)) from (if_pos c1).trans ((if_neg c2).trans ((if_pos c3).trans (rfl))))
    exact kX_ret (x := ((aC 9) p0.toNatClampNeg)) C hP hD hS ⟨by rw [hF], by rw [hF], rfl⟩ ⟨Nat.le_of_ble_eq_true rfl, Nat.le_of_ble_eq_true rfl⟩ dX4_bagOf_63
  by_cases c4 : p1 = 2
  · refine lv_tableIn (off := 58) (tgt := 64) hx hb dX4_bagOf_6 (by show ¬ (p1).toInt < 0; rw [c4]; decide) (by show ¬ 5 < (p1).toInt; rw [c4]; decide) (by rw [c4]; rfl) (by decide) ?_
    refine lv_aload_n hx hb dX4_bagOf_64 rfl (lv_at hl 0 rfl) ?_
    refine kg_get (v := .ref oC) C kFX4 (k := 0) kw301 hP (i := 0) (q := 0) rfl rfl (by decide) rfl dX4_bagOf_65 ?_
    refine kg_getN C kFX0 (k := 10) (List.mem_of_getElem? (i := 20) rfl) hP (i := 1) (q := 0) rfl rfl (by decide) rfl dX4_bagOf_68 ?_
    refine lv_iload_n hx hb dX4_bagOf_71 rfl (lv_at hl 1 rfl) ?_
    refine kg_iald C hP (i := 1) (q := 5) rfl rfl (by first | assumption) dX4_bagOf_72 ?_
    have hF := (show X4_bagOf_f vF vC aC p0 p1 = (0, ((aC 10) p0.toNatClampNeg)) from (if_pos c1).trans ((if_neg c2).trans ((if_neg c3).trans ((if_pos c4).trans (rfl)))))
    exact kX_ret (x := ((aC 10) p0.toNatClampNeg)) C hP hD hS ⟨by rw [hF], by rw [hF], rfl⟩ ⟨Nat.le_of_ble_eq_true rfl, Nat.le_of_ble_eq_true rfl⟩ dX4_bagOf_73
  by_cases c5 : p1 = 3
  · refine lv_tableIn (off := 68) (tgt := 74) hx hb dX4_bagOf_6 (by show ¬ (p1).toInt < 0; rw [c5]; decide) (by show ¬ 5 < (p1).toInt; rw [c5]; decide) (by rw [c5]; rfl) (by decide) ?_
    refine lv_aload_n hx hb dX4_bagOf_74 rfl (lv_at hl 0 rfl) ?_
    refine kg_get (v := .ref oC) C kFX4 (k := 0) kw301 hP (i := 0) (q := 0) rfl rfl (by decide) rfl dX4_bagOf_75 ?_
    refine kg_getN C kFX0 (k := 11) (List.mem_of_getElem? (i := 22) rfl) hP (i := 1) (q := 0) rfl rfl (by decide) rfl dX4_bagOf_78 ?_
    refine lv_iload_n hx hb dX4_bagOf_81 rfl (lv_at hl 1 rfl) ?_
    refine kg_iald C hP (i := 1) (q := 6) rfl rfl (by first | assumption) dX4_bagOf_82 ?_
    have hF := (show X4_bagOf_f vF vC aC p0 p1 = (0, ((aC 11) p0.toNatClampNeg)) from (if_pos c1).trans ((if_neg c2).trans ((if_neg c3).trans ((if_neg c4).trans ((if_pos c5).trans (rfl))))))
    exact kX_ret (x := ((aC 11) p0.toNatClampNeg)) C hP hD hS ⟨by rw [hF], by rw [hF], rfl⟩ ⟨Nat.le_of_ble_eq_true rfl, Nat.le_of_ble_eq_true rfl⟩ dX4_bagOf_83
  by_cases c6 : p1 = 4
  · refine lv_tableIn (off := 78) (tgt := 84) hx hb dX4_bagOf_6 (by show ¬ (p1).toInt < 0; rw [c6]; decide) (by show ¬ 5 < (p1).toInt; rw [c6]; decide) (by rw [c6]; rfl) (by decide) ?_
    refine lv_aload_n hx hb dX4_bagOf_84 rfl (lv_at hl 0 rfl) ?_
    refine kg_get (v := .ref oC) C kFX4 (k := 0) kw301 hP (i := 0) (q := 0) rfl rfl (by decide) rfl dX4_bagOf_85 ?_
    refine lv_iload_n hx hb dX4_bagOf_88 rfl (lv_at hl 1 rfl) ?_
    refine kR_VN (As := [.int p0]) (rest := []) C (X0_loadOf_c l g oC rC vC aC p0 (by first | assumption)) ⟨va_cnB (host := "SpiceScale") 1 hts (k_gI ca_X0_loadOf.2.2.2) rfl rfl rfl (C.2.1.2 _ (List.mem_of_getElem? (i := 68) rfl)) (hts _ ca_X0_loadOf.2.2.1) pnX0_loadOf ⟨Nat.le_of_ble_eq_true rfl, Nat.le_of_ble_eq_true rfl⟩, hts _ ca_X0_loadOf.1, hts _ ca_X0_loadOf.2.1⟩ hE hS (hP.pick [1] rfl) (k_recv C kFX0 hP (i := 1) (q := 0) rfl rfl) rfl hl.1 rfl rfl dX4_bagOf_89 ⟨Nat.le_of_ble_eq_true rfl, Nat.le_of_ble_eq_true rfl⟩ ?_
    have hF := (show X4_bagOf_f vF vC aC p0 p1 = (0, (X0_loadOf_f vC aC p0)) from (if_pos c1).trans ((if_neg c2).trans ((if_neg c3).trans ((if_neg c4).trans ((if_neg c5).trans ((if_pos c6).trans (rfl)))))))
    exact kX_ret (x := (X0_loadOf_f vC aC p0)) C hP hD hS ⟨by rw [hF], by rw [hF], rfl⟩ ⟨Nat.le_of_ble_eq_true rfl, Nat.le_of_ble_eq_true rfl⟩ dX4_bagOf_92
  by_cases c7 : p1 = 5
  · refine lv_tableIn (off := 87) (tgt := 93) hx hb dX4_bagOf_6 (by show ¬ (p1).toInt < 0; rw [c7]; decide) (by show ¬ 5 < (p1).toInt; rw [c7]; decide) (by rw [c7]; rfl) (by decide) ?_
    refine lv_aload_n hx hb dX4_bagOf_93 rfl (lv_at hl 0 rfl) ?_
    refine kg_get (v := .ref oC) C kFX4 (k := 0) kw301 hP (i := 0) (q := 0) rfl rfl (by decide) rfl dX4_bagOf_94 ?_
    refine kg_getN C kFX0 (k := 12) (List.mem_of_getElem? (i := 23) rfl) hP (i := 1) (q := 0) rfl rfl (by decide) rfl dX4_bagOf_97 ?_
    refine lv_iload_n hx hb dX4_bagOf_100 rfl (lv_at hl 1 rfl) ?_
    refine kg_iald C hP (i := 1) (q := 7) rfl rfl (by first | assumption) dX4_bagOf_101 ?_
    have hF := (show X4_bagOf_f vF vC aC p0 p1 = (0, ((aC 12) p0.toNatClampNeg)) from (if_pos c1).trans ((if_neg c2).trans ((if_neg c3).trans ((if_neg c4).trans ((if_neg c5).trans ((if_neg c6).trans ((if_pos c7).trans (rfl))))))))
    exact kX_ret (x := ((aC 12) p0.toNatClampNeg)) C hP hD hS ⟨by rw [hF], by rw [hF], rfl⟩ ⟨Nat.le_of_ble_eq_true rfl, Nat.le_of_ble_eq_true rfl⟩ dX4_bagOf_102
  refine lv_tableOut (tgt := 103) hx hb dX4_bagOf_6 (by have n0 := lv_neT (a := 0) c2 (by decide); have n1 := lv_neT (a := 1) c3 (by decide); have n2 := lv_neT (a := 2) c4 (by decide); have n3 := lv_neT (a := 3) c5 (by decide); have n4 := lv_neT (a := 4) c6 (by decide); have n5 := lv_neT (a := 5) c7 (by decide); omega) (by decide) ?_
  have hF := (show X4_bagOf_f vF vC aC p0 p1 = (3, 0) from (if_pos c1).trans ((if_neg c2).trans ((if_neg c3).trans ((if_neg c4).trans ((if_neg c5).trans ((if_neg c6).trans ((if_neg c7).trans (rfl))))))))
  exact kX_throwS (names := ["java/lang/RuntimeException", "java/lang/Exception"]) C hfl htb (by decide) (by decide) kw756 kw85 (List.mem_of_getElem? (i := 23) rfl) kx_at_IllegalArgumentException hE hS hl.1 hP hD ⟨by rw [hF]; exact (by decide : (3 : Nat) ≠ 0), by rw [hF]; rfl, rfl⟩ dX4_bagOf_103 dX4_bagOf_106 dX4_bagOf_107 dX4_bagOf_109 dX4_bagOf_112 (by decide) (Nat.le_of_ble_eq_true rfl) ⟨Nat.le_of_ble_eq_true rfl, Nat.le_of_ble_eq_true rfl⟩ ⟨Nat.le_of_ble_eq_true rfl, Nat.le_of_ble_eq_true rfl⟩

theorem pnX0_usesToBeShorter : yX0_usesToBeShorter.cls ≠ "java/lang/invoke/MethodHandle" ∧ yX0_usesToBeShorter.cls ≠ "java/lang/invoke/VarHandle" ∧ (parseMethodDescriptor yX0_usesToBeShorter.desc).map (fun d => d.parameters.length) = some 1 := by decide +kernel
theorem ca_X0_usesToBeShorter : kCal yX0_usesToBeShorter (Cond.code yX0_usesToBeShorter cX0_usesToBeShorter 2 (some .int)) := ⟨k_w 4 206 rfl rfl, k_w 1 44 rfl rfl, k_w 2 2 rfl rfl, k_w 4 207 rfl rfl⟩

abbrev wX4_weightOf : List Cond := Cond.code yX4_weightOf cX4_weightOf 3 (some .int) :: kW
def X4_weightOf_f (vF : Nat → Int32) (vC : Nat → Int32) (aC : Nat → Nat → Int32) (p0 : Int32) (p1 : Int32) : Nat × Int32 :=
  if (X4_isWeight_f p0) = true then (if p1 = 0 then (0, (k_tab 2 p0.toNatClampNeg))
    else if p1 = 1 then (0, (X0_shortnessOf_f vC aC p0))
    else if p1 = 2 then (0, ((aC 13) p0.toNatClampNeg))
    else if p1 = 3 then (0, (X0_usesToBeShorter_f vC aC p0))
    else (3, 0))
  else (2, 0)
set_option maxHeartbeats 4000000 in
set_option maxRecDepth 100000 in
theorem X4_weightOf_c (l : Launch) (g : kG) (oF : Nat) (vF : Nat → Int32) (oS oH oR oT oB : Nat) (oC : Nat) (rC : Nat → Nat) (vC : Nat → Int32) (aC : Nat → Nat → Int32) (p0 : Int32) (p1 : Int32) (hfl : l.stackTraces = false) : kX l yX4_weightOf wX4_weightOf 6 82 1 6 g [.ref oF, .int p0, .int p1] [X4W g oF (kFr oC oS oH oR oT oB) vF, X0W g oC rC vC aC] (fun x u => (X4_weightOf_f vF vC aC p0 p1).1 = 0 ∧ x = (X4_weightOf_f vF vC aC p0 p1).2 ∧ u = [X4W g oF (kFr oC oS oH oR oT oB) vF, X0W g oC rC vC aC]) (fun E u => (X4_weightOf_f vF vC aC p0 p1).1 ≠ 0 ∧ E = kEx (X4_weightOf_f vF vC aC p0 p1).1 ∧ u = [X4W g oF (kFr oC oS oH oR oT oB) vF, X0W g oC rC vC aC]) := by
  refine kX_of (cc := cX4_weightOf) (nL := 3) (ret := (some .int)) (lv := [(0, .ref oF), (1, .int p0), (2, .int p1)]) (by decide) rfl (Nat.le_of_ble_eq_true rfl) rfl ?_
  intro p e s m args below meth c ls A htb C hP hD hE hA hS hl
  have C : kC p c cX4_weightOf s m args meth RX4 g 3 (some .int) := C
  have hx := C.1.1
  have hb := C.1.2.1
  have hts := C.1.2.2.2.2
  refine lv_iload_n hx hb dX4_weightOf_0 rfl (lv_at hl 1 rfl) ?_
  refine kR_S (As := [.int p0]) (rest := []) C (X4_isWeight_c l g p0) (va_cwS 1 hts (k_gS kw737 cs_X4_isWeight) rfl rfl rfl pnX4_isWeight ⟨Nat.le_of_ble_eq_true rfl, Nat.le_of_ble_eq_true rfl⟩) hE hS (hP.pick [] rfl) rfl hl.1 rfl rfl dX4_weightOf_1 ⟨Nat.le_of_ble_eq_true rfl, Nat.le_of_ble_eq_true rfl⟩ ?_
  refine lv_if_ne (tgt := 17) hx hb dX4_weightOf_4 (by decide) (fun c1 => ?_) (fun c1 => ?_)
  · have c1 := b2i_ne0 c1
    have z1 := k_isWeight c1
    refine lv_iload_n hx hb dX4_weightOf_17 rfl (lv_at hl 2 rfl) ?_
    by_cases c2 : p1 = 0
    · refine lv_tableIn (off := 30) (tgt := 48) hx hb dX4_weightOf_18 (by show ¬ (p1).toInt < 0; rw [c2]; decide) (by show ¬ 3 < (p1).toInt; rw [c2]; decide) (by rw [c2]; rfl) (by decide) ?_
      refine kg_tab C 2 (by decide) hE hS kw450 dX4_weightOf_48 ?_
      refine lv_iload_n hx hb dX4_weightOf_51 rfl (lv_at hl 1 rfl) ?_
      refine kg_tald C 2 (by decide) hE hS (by first | assumption) dX4_weightOf_52 ?_
      have hF := (show X4_weightOf_f vF vC aC p0 p1 = (0, (k_tab 2 p0.toNatClampNeg)) from (if_pos c1).trans ((if_pos c2).trans (rfl)))
      exact kX_ret (x := (k_tab 2 p0.toNatClampNeg)) C hP hD hS ⟨by rw [hF], by rw [hF], rfl⟩ ⟨Nat.le_of_ble_eq_true rfl, Nat.le_of_ble_eq_true rfl⟩ dX4_weightOf_53
    by_cases c3 : p1 = 1
    · refine lv_tableIn (off := 36) (tgt := 54) hx hb dX4_weightOf_18 (by show ¬ (p1).toInt < 0; rw [c3]; decide) (by show ¬ 3 < (p1).toInt; rw [c3]; decide) (by rw [c3]; rfl) (by decide) ?_
      refine lv_aload_n hx hb dX4_weightOf_54 rfl (lv_at hl 0 rfl) ?_
      refine kg_get (v := .ref oC) C kFX4 (k := 0) kw301 hP (i := 0) (q := 0) rfl rfl (by decide) rfl dX4_weightOf_55 ?_
      refine lv_iload_n hx hb dX4_weightOf_58 rfl (lv_at hl 1 rfl) ?_
      refine kR_VN (As := [.int p0]) (rest := []) C (X0_shortnessOf_c l g oC rC vC aC p0 (by first | assumption)) ⟨va_cnB (host := "SpiceScale") 1 hts (k_gI ca_X0_shortnessOf.2.2.2) rfl rfl rfl (C.2.1.2 _ (List.mem_of_getElem? (i := 65) rfl)) (hts _ ca_X0_shortnessOf.2.2.1) pnX0_shortnessOf ⟨Nat.le_of_ble_eq_true rfl, Nat.le_of_ble_eq_true rfl⟩, hts _ ca_X0_shortnessOf.1, hts _ ca_X0_shortnessOf.2.1⟩ hE hS (hP.pick [1] rfl) (k_recv C kFX0 hP (i := 1) (q := 0) rfl rfl) rfl hl.1 rfl rfl dX4_weightOf_59 ⟨Nat.le_of_ble_eq_true rfl, Nat.le_of_ble_eq_true rfl⟩ ?_
      have hF := (show X4_weightOf_f vF vC aC p0 p1 = (0, (X0_shortnessOf_f vC aC p0)) from (if_pos c1).trans ((if_neg c2).trans ((if_pos c3).trans (rfl))))
      exact kX_ret (x := (X0_shortnessOf_f vC aC p0)) C hP hD hS ⟨by rw [hF], by rw [hF], rfl⟩ ⟨Nat.le_of_ble_eq_true rfl, Nat.le_of_ble_eq_true rfl⟩ dX4_weightOf_62
    by_cases c4 : p1 = 2
    · refine lv_tableIn (off := 45) (tgt := 63) hx hb dX4_weightOf_18 (by show ¬ (p1).toInt < 0; rw [c4]; decide) (by show ¬ 3 < (p1).toInt; rw [c4]; decide) (by rw [c4]; rfl) (by decide) ?_
      refine lv_aload_n hx hb dX4_weightOf_63 rfl (lv_at hl 0 rfl) ?_
      refine kg_get (v := .ref oC) C kFX4 (k := 0) kw301 hP (i := 0) (q := 0) rfl rfl (by decide) rfl dX4_weightOf_64 ?_
      refine kg_getN C kFX0 (k := 13) (List.mem_of_getElem? (i := 24) rfl) hP (i := 1) (q := 0) rfl rfl (by decide) rfl dX4_weightOf_67 ?_
      refine lv_iload_n hx hb dX4_weightOf_70 rfl (lv_at hl 1 rfl) ?_
      refine kg_iald C hP (i := 1) (q := 8) rfl rfl (by first | assumption) dX4_weightOf_71 ?_
      have hF := (show X4_weightOf_f vF vC aC p0 p1 = (0, ((aC 13) p0.toNatClampNeg)) from (if_pos c1).trans ((if_neg c2).trans ((if_neg c3).trans ((if_pos c4).trans (rfl)))))
      exact kX_ret (x := ((aC 13) p0.toNatClampNeg)) C hP hD hS ⟨by rw [hF], by rw [hF], rfl⟩ ⟨Nat.le_of_ble_eq_true rfl, Nat.le_of_ble_eq_true rfl⟩ dX4_weightOf_72
    by_cases c5 : p1 = 3
    · refine lv_tableIn (off := 55) (tgt := 73) hx hb dX4_weightOf_18 (by show ¬ (p1).toInt < 0; rw [c5]; decide) (by show ¬ 3 < (p1).toInt; rw [c5]; decide) (by rw [c5]; rfl) (by decide) ?_
      refine lv_aload_n hx hb dX4_weightOf_73 rfl (lv_at hl 0 rfl) ?_
      refine kg_get (v := .ref oC) C kFX4 (k := 0) kw301 hP (i := 0) (q := 0) rfl rfl (by decide) rfl dX4_weightOf_74 ?_
      refine lv_iload_n hx hb dX4_weightOf_77 rfl (lv_at hl 1 rfl) ?_
      refine kR_VN (As := [.int p0]) (rest := []) C (X0_usesToBeShorter_c l g oC rC vC aC p0 (by first | assumption)) ⟨va_cnB (host := "SpiceScale") 1 hts (k_gI ca_X0_usesToBeShorter.2.2.2) rfl rfl rfl (C.2.1.2 _ (List.mem_of_getElem? (i := 66) rfl)) (hts _ ca_X0_usesToBeShorter.2.2.1) pnX0_usesToBeShorter ⟨Nat.le_of_ble_eq_true rfl, Nat.le_of_ble_eq_true rfl⟩, hts _ ca_X0_usesToBeShorter.1, hts _ ca_X0_usesToBeShorter.2.1⟩ hE hS (hP.pick [1] rfl) (k_recv C kFX0 hP (i := 1) (q := 0) rfl rfl) rfl hl.1 rfl rfl dX4_weightOf_78 ⟨Nat.le_of_ble_eq_true rfl, Nat.le_of_ble_eq_true rfl⟩ ?_
      have hF := (show X4_weightOf_f vF vC aC p0 p1 = (0, (X0_usesToBeShorter_f vC aC p0)) from (if_pos c1).trans ((if_neg c2).trans ((if_neg c3).trans ((if_neg c4).trans ((if_pos c5).trans (rfl))))))
      exact kX_ret (x := (X0_usesToBeShorter_f vC aC p0)) C hP hD hS ⟨by rw [hF], by rw [hF], rfl⟩ ⟨Nat.le_of_ble_eq_true rfl, Nat.le_of_ble_eq_true rfl⟩ dX4_weightOf_81
    refine lv_tableOut (tgt := 82) hx hb dX4_weightOf_18 (by have n0 := lv_neT (a := 0) c2 (by decide); have n1 := lv_neT (a := 1) c3 (by decide); have n2 := lv_neT (a := 2) c4 (by decide); have n3 := lv_neT (a := 3) c5 (by decide); omega) (by decide) ?_
    have hF := (show X4_weightOf_f vF vC aC p0 p1 = (3, 0) from (if_pos c1).trans ((if_neg c2).trans ((if_neg c3).trans ((if_neg c4).trans ((if_neg c5).trans (rfl))))))
    exact kX_throwS (names := ["java/lang/RuntimeException", "java/lang/Exception"]) C hfl htb (by decide) (by decide) kw756 kw85 (List.mem_of_getElem? (i := 2) rfl) kx_at_IllegalArgumentException hE hS hl.1 hP hD ⟨by rw [hF]; exact (by decide : (3 : Nat) ≠ 0), by rw [hF]; rfl, rfl⟩ dX4_weightOf_82 dX4_weightOf_85 dX4_weightOf_86 dX4_weightOf_88 dX4_weightOf_91 (by decide) (Nat.le_of_ble_eq_true rfl) ⟨Nat.le_of_ble_eq_true rfl, Nat.le_of_ble_eq_true rfl⟩ ⟨Nat.le_of_ble_eq_true rfl, Nat.le_of_ble_eq_true rfl⟩
  have c1 := b2i_eq0 c1
  have hF := (show X4_weightOf_f vF vC aC p0 p1 = (2, 0) from (if_neg c1).trans (rfl))
  exact kX_throwS (names := ["java/lang/RuntimeException", "java/lang/Exception"]) C hfl htb (by decide) (by decide) kw738 kw89 (List.mem_of_getElem? (i := 1) rfl) kx_at_IndexOutOfBoundsException hE hS hl.1 hP hD ⟨by rw [hF]; exact (by decide : (2 : Nat) ≠ 0), by rw [hF]; rfl, rfl⟩ dX4_weightOf_7 dX4_weightOf_10 dX4_weightOf_11 dX4_weightOf_13 dX4_weightOf_16 (by decide) (Nat.le_of_ble_eq_true rfl) ⟨Nat.le_of_ble_eq_true rfl, Nat.le_of_ble_eq_true rfl⟩ ⟨Nat.le_of_ble_eq_true rfl, Nat.le_of_ble_eq_true rfl⟩

abbrev wX4_told : List Cond := Cond.code yX4_told cX4_told 2 (some .int) :: kW
def X4_told_f (vF : Nat → Int32) (vC : Nat → Int32) (aC : Nat → Nat → Int32) (p0 : Int32) : Nat × Int32 :=
  if (X4_checkBag_f vF vC aC p0) = 0 then (0, (X4_toldBy_f (X0_weightsFor_f vC aC (X0_loadOf_f vC aC p0))))
  else ((X4_checkBag_f vF vC aC p0), 0)
set_option maxHeartbeats 4000000 in
set_option maxRecDepth 100000 in
theorem X4_told_c (l : Launch) (g : kG) (oF : Nat) (vF : Nat → Int32) (oS oH oR oT oB : Nat) (oC : Nat) (rC : Nat → Nat) (vC : Nat → Int32) (aC : Nat → Nat → Int32) (p0 : Int32) (nb : Nat) (hnb : nb ≤ 6) (hv7 : vC 7 = nI nb) (hfl : l.stackTraces = false) : kX l yX4_told wX4_told 7 103 1 6 g [.ref oF, .int p0] [X4W g oF (kFr oC oS oH oR oT oB) vF, X0W g oC rC vC aC] (fun x u => (X4_told_f vF vC aC p0).1 = 0 ∧ x = (X4_told_f vF vC aC p0).2 ∧ u = [X4W g oF (kFr oC oS oH oR oT oB) vF, X0W g oC rC vC aC]) (fun E u => (X4_told_f vF vC aC p0).1 ≠ 0 ∧ E = kEx (X4_told_f vF vC aC p0).1 ∧ u = [X4W g oF (kFr oC oS oH oR oT oB) vF, X0W g oC rC vC aC]) := by
  refine kX_of (cc := cX4_told) (nL := 2) (ret := (some .int)) (lv := [(0, .ref oF), (1, .int p0)]) (by decide) rfl (Nat.le_of_ble_eq_true rfl) rfl ?_
  intro p e s m args below meth c ls A htb C hP hD hE hA hS hl
  have C : kC p c cX4_told s m args meth RX4 g 2 (some .int) := C
  have hx := C.1.1
  have hb := C.1.2.1
  have hts := C.1.2.2.2.2
  refine lv_aload_n hx hb dX4_told_0 rfl (lv_at hl 0 rfl) ?_
  refine lv_iload_n hx hb dX4_told_1 rfl (lv_at hl 1 rfl) ?_
  refine kXV_V (As := [.int p0]) (rest := []) (wr := []) C (X4_checkBag_c l g oF vF oS oH oR oT oB oC rC vC aC p0 hfl) (cwV 1 hts (k_gV kw779 ca_X4_checkBag) rfl rfl rfl ⟨rfl, pnX4_checkBag⟩ ⟨Nat.le_of_ble_eq_true rfl, Nat.le_of_ble_eq_true rfl⟩) hE hS hA hP hD [0, 1] [] rfl rfl ⟨rfl, rfl, by decide⟩ (k_recv C kFX4 hP (i := 0) (q := 0) rfl rfl) rfl hl.1 rfl rfl dX4_told_2 ⟨Nat.le_of_ble_eq_true rfl, Nat.le_of_ble_eq_true rfl⟩ (fun E1 u1 H locs q1 ce1 hp1 hP hD hS hce1 hcv1 hcl1 => ?_) (fun u1 H locs hp1 hP hD hS => ?_)
  · obtain ⟨c1, hE1, hu1⟩ := hp1
    subst hu1
    subst hE1
    have hP : kp g [X4W g oF (kFr oC oS oH oR oT oB) vF, X0W g oC rC vC aC] H := hP
    have hD : kd A [X4W g oF (kFr oC oS oH oR oT oB) vF, X0W g oC rC vC aC] := hD
    have hF := (show X4_told_f vF vC aC p0 = ((X4_checkBag_f vF vC aC p0), 0) from (if_neg c1).trans (rfl))
    exact kX_out C htb hce1 hcv1 hcl1 hP hD hS ⟨by rw [hF]; exact c1, by rw [hF], rfl⟩ ⟨Nat.le_of_ble_eq_true rfl, Nat.le_of_ble_eq_true rfl⟩
  obtain ⟨c1, hu1⟩ := hp1
  subst hu1
  have hP : kp g [X4W g oF (kFr oC oS oH oR oT oB) vF, X0W g oC rC vC aC] H := hP
  have hD : kd A [X4W g oF (kFr oC oS oH oR oT oB) vF, X0W g oC rC vC aC] := hD
  have z1 := X4_cb c1 hv7 hnb
  refine lv_aload_n hx hb dX4_told_5 rfl (lv_at hl 0 rfl) ?_
  refine kg_get (v := .ref oC) C kFX4 (k := 0) kw301 hP (i := 0) (q := 0) rfl rfl (by decide) rfl dX4_told_6 ?_
  refine lv_aload_n hx hb dX4_told_9 rfl (lv_at hl 0 rfl) ?_
  refine kg_get (v := .ref oC) C kFX4 (k := 0) kw301 hP (i := 0) (q := 0) rfl rfl (by decide) rfl dX4_told_10 ?_
  refine lv_iload_n hx hb dX4_told_13 rfl (lv_at hl 1 rfl) ?_
  refine kR_VN (As := [.int p0]) (rest := [.ref oC]) C (X0_loadOf_c l g oC rC vC aC p0 (by first | assumption)) ⟨va_cnB (host := "SpiceScale") 1 hts (k_gI ca_X0_loadOf.2.2.2) rfl rfl rfl (C.2.1.2 _ (List.mem_of_getElem? (i := 68) rfl)) (hts _ ca_X0_loadOf.2.2.1) pnX0_loadOf ⟨Nat.le_of_ble_eq_true rfl, Nat.le_of_ble_eq_true rfl⟩, hts _ ca_X0_loadOf.1, hts _ ca_X0_loadOf.2.1⟩ hE hS (hP.pick [1] rfl) (k_recv C kFX0 hP (i := 1) (q := 0) rfl rfl) rfl hl.1 rfl rfl dX4_told_14 ⟨Nat.le_of_ble_eq_true rfl, Nat.le_of_ble_eq_true rfl⟩ ?_
  refine kR_VN (As := [.int (X0_loadOf_f vC aC p0)]) (rest := []) C (X0_weightsFor_c l g oC rC vC aC (X0_loadOf_f vC aC p0)) ⟨va_cnB (host := "SpiceScale") 1 hts (k_gI ca_X0_weightsFor.2.2.2) rfl rfl rfl (C.2.1.2 _ (List.mem_of_getElem? (i := 69) rfl)) (hts _ ca_X0_weightsFor.2.2.1) pnX0_weightsFor ⟨Nat.le_of_ble_eq_true rfl, Nat.le_of_ble_eq_true rfl⟩, hts _ ca_X0_weightsFor.1, hts _ ca_X0_weightsFor.2.1⟩ hE hS (hP.pick [1] rfl) (k_recv C kFX0 hP (i := 1) (q := 0) rfl rfl) rfl hl.1 rfl rfl dX4_told_17 ⟨Nat.le_of_ble_eq_true rfl, Nat.le_of_ble_eq_true rfl⟩ ?_
  refine kR_S (As := [.int (X0_weightsFor_f vC aC (X0_loadOf_f vC aC p0))]) (rest := []) C (X4_toldBy_c l g (X0_weightsFor_f vC aC (X0_loadOf_f vC aC p0))) (va_cwS 1 hts (k_gS kw787 cs_X4_toldBy) rfl rfl rfl pnX4_toldBy ⟨Nat.le_of_ble_eq_true rfl, Nat.le_of_ble_eq_true rfl⟩) hE hS (hP.pick [] rfl) rfl hl.1 rfl rfl dX4_told_20 ⟨Nat.le_of_ble_eq_true rfl, Nat.le_of_ble_eq_true rfl⟩ ?_
  have hF := (show X4_told_f vF vC aC p0 = (0, (X4_toldBy_f (X0_weightsFor_f vC aC (X0_loadOf_f vC aC p0)))) from (if_pos c1).trans (rfl))
  exact kX_ret (x := (X4_toldBy_f (X0_weightsFor_f vC aC (X0_loadOf_f vC aC p0)))) C hP hD hS ⟨by rw [hF], by rw [hF], rfl⟩ ⟨Nat.le_of_ble_eq_true rfl, Nat.le_of_ble_eq_true rfl⟩ dX4_told_23

theorem pnX0_restOf : yX0_restOf.cls ≠ "java/lang/invoke/MethodHandle" ∧ yX0_restOf.cls ≠ "java/lang/invoke/VarHandle" ∧ (parseMethodDescriptor yX0_restOf.desc).map (fun d => d.parameters.length) = some 1 := by decide +kernel
theorem ca_X0_restOf : kCal yX0_restOf (Cond.code yX0_restOf cX0_restOf 3 (some .int)) := ⟨k_w 5 9 rfl rfl, k_w 1 46 rfl rfl, k_w 2 2 rfl rfl, k_w 5 10 rfl rfl⟩

abbrev wX4_toldAgain : List Cond := Cond.code yX4_toldAgain cX4_toldAgain 3 (some .int) :: kW
def X4_toldAgain_f (vF : Nat → Int32) (vC : Nat → Int32) (aC : Nat → Nat → Int32) (p0 : Int32) : Nat × Int32 :=
  if (X4_checkBag_f vF vC aC p0) = 0 then (0, (((X0_loadOf_f vC aC p0) - (X0_restOf_f vC aC (X0_loadOf_f vC aC p0))) + (X0_shortnessTogether_f vC aC (X0_weightsFor_f vC aC (X0_loadOf_f vC aC p0)))))
  else ((X4_checkBag_f vF vC aC p0), 0)
set_option maxHeartbeats 4000000 in
set_option maxRecDepth 100000 in
theorem X4_toldAgain_c (l : Launch) (g : kG) (oF : Nat) (vF : Nat → Int32) (oS oH oR oT oB : Nat) (oC : Nat) (rC : Nat → Nat) (vC : Nat → Int32) (aC : Nat → Nat → Int32) (p0 : Int32) (nb : Nat) (hnb : nb ≤ 6) (hv7 : vC 7 = nI nb) (hfl : l.stackTraces = false) : kX l yX4_toldAgain wX4_toldAgain 7 103 1 6 g [.ref oF, .int p0] [X4W g oF (kFr oC oS oH oR oT oB) vF, X0W g oC rC vC aC] (fun x u => (X4_toldAgain_f vF vC aC p0).1 = 0 ∧ x = (X4_toldAgain_f vF vC aC p0).2 ∧ u = [X4W g oF (kFr oC oS oH oR oT oB) vF, X0W g oC rC vC aC]) (fun E u => (X4_toldAgain_f vF vC aC p0).1 ≠ 0 ∧ E = kEx (X4_toldAgain_f vF vC aC p0).1 ∧ u = [X4W g oF (kFr oC oS oH oR oT oB) vF, X0W g oC rC vC aC]) := by
  refine kX_of (cc := cX4_toldAgain) (nL := 3) (ret := (some .int)) (lv := [(0, .ref oF), (1, .int p0)]) (by decide) rfl (Nat.le_of_ble_eq_true rfl) rfl ?_
  intro p e s m args below meth c ls A htb C hP hD hE hA hS hl
  have C : kC p c cX4_toldAgain s m args meth RX4 g 3 (some .int) := C
  have hx := C.1.1
  have hb := C.1.2.1
  have hts := C.1.2.2.2.2
  refine lv_aload_n hx hb dX4_toldAgain_0 rfl (lv_at hl 0 rfl) ?_
  refine lv_iload_n hx hb dX4_toldAgain_1 rfl (lv_at hl 1 rfl) ?_
  refine kXV_V (As := [.int p0]) (rest := []) (wr := []) C (X4_checkBag_c l g oF vF oS oH oR oT oB oC rC vC aC p0 hfl) (cwV 1 hts (k_gV kw779 ca_X4_checkBag) rfl rfl rfl ⟨rfl, pnX4_checkBag⟩ ⟨Nat.le_of_ble_eq_true rfl, Nat.le_of_ble_eq_true rfl⟩) hE hS hA hP hD [0, 1] [] rfl rfl ⟨rfl, rfl, by decide⟩ (k_recv C kFX4 hP (i := 0) (q := 0) rfl rfl) rfl hl.1 rfl rfl dX4_toldAgain_2 ⟨Nat.le_of_ble_eq_true rfl, Nat.le_of_ble_eq_true rfl⟩ (fun E1 u1 H locs q1 ce1 hp1 hP hD hS hce1 hcv1 hcl1 => ?_) (fun u1 H locs hp1 hP hD hS => ?_)
  · obtain ⟨c1, hE1, hu1⟩ := hp1
    subst hu1
    subst hE1
    have hP : kp g [X4W g oF (kFr oC oS oH oR oT oB) vF, X0W g oC rC vC aC] H := hP
    have hD : kd A [X4W g oF (kFr oC oS oH oR oT oB) vF, X0W g oC rC vC aC] := hD
    have hF := (show X4_toldAgain_f vF vC aC p0 = ((X4_checkBag_f vF vC aC p0), 0) from (if_neg c1).trans (rfl))
    exact kX_out C htb hce1 hcv1 hcl1 hP hD hS ⟨by rw [hF]; exact c1, by rw [hF], rfl⟩ ⟨Nat.le_of_ble_eq_true rfl, Nat.le_of_ble_eq_true rfl⟩
  obtain ⟨c1, hu1⟩ := hp1
  subst hu1
  have hP : kp g [X4W g oF (kFr oC oS oH oR oT oB) vF, X0W g oC rC vC aC] H := hP
  have hD : kd A [X4W g oF (kFr oC oS oH oR oT oB) vF, X0W g oC rC vC aC] := hD
  have z1 := X4_cb c1 hv7 hnb
  refine lv_aload_n hx hb dX4_toldAgain_5 rfl (lv_at hl 0 rfl) ?_
  refine kg_get (v := .ref oC) C kFX4 (k := 0) kw301 hP (i := 0) (q := 0) rfl rfl (by decide) rfl dX4_toldAgain_6 ?_
  refine lv_iload_n hx hb dX4_toldAgain_9 rfl (lv_at hl 1 rfl) ?_
  refine kR_VN (As := [.int p0]) (rest := []) C (X0_loadOf_c l g oC rC vC aC p0 (by first | assumption)) ⟨va_cnB (host := "SpiceScale") 1 hts (k_gI ca_X0_loadOf.2.2.2) rfl rfl rfl (C.2.1.2 _ (List.mem_of_getElem? (i := 68) rfl)) (hts _ ca_X0_loadOf.2.2.1) pnX0_loadOf ⟨Nat.le_of_ble_eq_true rfl, Nat.le_of_ble_eq_true rfl⟩, hts _ ca_X0_loadOf.1, hts _ ca_X0_loadOf.2.1⟩ hE hS (hP.pick [1] rfl) (k_recv C kFX0 hP (i := 1) (q := 0) rfl rfl) rfl hl.1 rfl rfl dX4_toldAgain_10 ⟨Nat.le_of_ble_eq_true rfl, Nat.le_of_ble_eq_true rfl⟩ ?_
  refine lv_istore_n (lv' := [(2, .int (X0_loadOf_f vC aC p0)), (0, .ref oF), (1, .int p0)]) hx hb dX4_toldAgain_13 rfl hl (by decide) rfl (fun ls hl => ?_)
  refine lv_iload_n hx hb dX4_toldAgain_14 rfl (lv_at hl 0 rfl) ?_
  refine lv_aload_n hx hb dX4_toldAgain_15 rfl (lv_at hl 1 rfl) ?_
  refine kg_get (v := .ref oC) C kFX4 (k := 0) kw301 hP (i := 0) (q := 0) rfl rfl (by decide) rfl dX4_toldAgain_16 ?_
  refine lv_iload_n hx hb dX4_toldAgain_19 rfl (lv_at hl 0 rfl) ?_
  refine kR_VN (As := [.int (X0_loadOf_f vC aC p0)]) (rest := [.int (X0_loadOf_f vC aC p0)]) C (X0_restOf_c l g oC rC vC aC (X0_loadOf_f vC aC p0)) ⟨va_cnB (host := "SpiceScale") 1 hts (k_gI ca_X0_restOf.2.2.2) rfl rfl rfl (C.2.1.2 _ (List.mem_of_getElem? (i := 70) rfl)) (hts _ ca_X0_restOf.2.2.1) pnX0_restOf ⟨Nat.le_of_ble_eq_true rfl, Nat.le_of_ble_eq_true rfl⟩, hts _ ca_X0_restOf.1, hts _ ca_X0_restOf.2.1⟩ hE hS (hP.pick [1] rfl) (k_recv C kFX0 hP (i := 1) (q := 0) rfl rfl) rfl hl.1 rfl rfl dX4_toldAgain_20 ⟨Nat.le_of_ble_eq_true rfl, Nat.le_of_ble_eq_true rfl⟩ ?_
  refine lv_isub hx hb dX4_toldAgain_23 ?_
  refine lv_aload_n hx hb dX4_toldAgain_24 rfl (lv_at hl 1 rfl) ?_
  refine kg_get (v := .ref oC) C kFX4 (k := 0) kw301 hP (i := 0) (q := 0) rfl rfl (by decide) rfl dX4_toldAgain_25 ?_
  refine lv_aload_n hx hb dX4_toldAgain_28 rfl (lv_at hl 1 rfl) ?_
  refine kg_get (v := .ref oC) C kFX4 (k := 0) kw301 hP (i := 0) (q := 0) rfl rfl (by decide) rfl dX4_toldAgain_29 ?_
  refine lv_iload_n hx hb dX4_toldAgain_32 rfl (lv_at hl 0 rfl) ?_
  refine kR_VN (As := [.int (X0_loadOf_f vC aC p0)]) (rest := [.ref oC, .int ((X0_loadOf_f vC aC p0) - (X0_restOf_f vC aC (X0_loadOf_f vC aC p0)))]) C (X0_weightsFor_c l g oC rC vC aC (X0_loadOf_f vC aC p0)) ⟨va_cnB (host := "SpiceScale") 1 hts (k_gI ca_X0_weightsFor.2.2.2) rfl rfl rfl (C.2.1.2 _ (List.mem_of_getElem? (i := 69) rfl)) (hts _ ca_X0_weightsFor.2.2.1) pnX0_weightsFor ⟨Nat.le_of_ble_eq_true rfl, Nat.le_of_ble_eq_true rfl⟩, hts _ ca_X0_weightsFor.1, hts _ ca_X0_weightsFor.2.1⟩ hE hS (hP.pick [1] rfl) (k_recv C kFX0 hP (i := 1) (q := 0) rfl rfl) rfl hl.1 rfl rfl dX4_toldAgain_33 ⟨Nat.le_of_ble_eq_true rfl, Nat.le_of_ble_eq_true rfl⟩ ?_
  refine kR_VN (As := [.int (X0_weightsFor_f vC aC (X0_loadOf_f vC aC p0))]) (rest := [.int ((X0_loadOf_f vC aC p0) - (X0_restOf_f vC aC (X0_loadOf_f vC aC p0)))]) C (X0_shortnessTogether_c l g oC rC vC aC (X0_weightsFor_f vC aC (X0_loadOf_f vC aC p0))) ⟨va_cnB (host := "SpiceScale") 1 hts (k_gI ca_X0_shortnessTogether.2.2.2) rfl rfl rfl (C.2.1.2 _ (List.mem_of_getElem? (i := 71) rfl)) (hts _ ca_X0_shortnessTogether.2.2.1) pnX0_shortnessTogether ⟨Nat.le_of_ble_eq_true rfl, Nat.le_of_ble_eq_true rfl⟩, hts _ ca_X0_shortnessTogether.1, hts _ ca_X0_shortnessTogether.2.1⟩ hE hS (hP.pick [1] rfl) (k_recv C kFX0 hP (i := 1) (q := 0) rfl rfl) rfl hl.1 rfl rfl dX4_toldAgain_36 ⟨Nat.le_of_ble_eq_true rfl, Nat.le_of_ble_eq_true rfl⟩ ?_
  refine lv_iadd hx hb dX4_toldAgain_39 ?_
  have hF := (show X4_toldAgain_f vF vC aC p0 = (0, (((X0_loadOf_f vC aC p0) - (X0_restOf_f vC aC (X0_loadOf_f vC aC p0))) + (X0_shortnessTogether_f vC aC (X0_weightsFor_f vC aC (X0_loadOf_f vC aC p0))))) from (if_pos c1).trans (rfl))
  exact kX_ret (x := (((X0_loadOf_f vC aC p0) - (X0_restOf_f vC aC (X0_loadOf_f vC aC p0))) + (X0_shortnessTogether_f vC aC (X0_weightsFor_f vC aC (X0_loadOf_f vC aC p0))))) C hP hD hS ⟨by rw [hF], by rw [hF], rfl⟩ ⟨Nat.le_of_ble_eq_true rfl, Nat.le_of_ble_eq_true rfl⟩ dX4_toldAgain_40

abbrev wX4_onPan : List Cond := Cond.code yX4_onPan cX4_onPan 2 (some .int) :: kW
def X4_onPan_f (vF : Nat → Int32) (vC : Nat → Int32) (aC : Nat → Nat → Int32) (p0 : Int32) : Nat × Int32 :=
  if (X4_checkBag_f vF vC aC p0) = 0 then (0, (X0_weightsFor_f vC aC (X0_loadOf_f vC aC p0)))
  else ((X4_checkBag_f vF vC aC p0), 0)
set_option maxHeartbeats 4000000 in
set_option maxRecDepth 100000 in
theorem X4_onPan_c (l : Launch) (g : kG) (oF : Nat) (vF : Nat → Int32) (oS oH oR oT oB : Nat) (oC : Nat) (rC : Nat → Nat) (vC : Nat → Int32) (aC : Nat → Nat → Int32) (p0 : Int32) (nb : Nat) (hnb : nb ≤ 6) (hv7 : vC 7 = nI nb) (hfl : l.stackTraces = false) : kX l yX4_onPan wX4_onPan 7 103 1 6 g [.ref oF, .int p0] [X4W g oF (kFr oC oS oH oR oT oB) vF, X0W g oC rC vC aC] (fun x u => (X4_onPan_f vF vC aC p0).1 = 0 ∧ x = (X4_onPan_f vF vC aC p0).2 ∧ u = [X4W g oF (kFr oC oS oH oR oT oB) vF, X0W g oC rC vC aC]) (fun E u => (X4_onPan_f vF vC aC p0).1 ≠ 0 ∧ E = kEx (X4_onPan_f vF vC aC p0).1 ∧ u = [X4W g oF (kFr oC oS oH oR oT oB) vF, X0W g oC rC vC aC]) := by
  refine kX_of (cc := cX4_onPan) (nL := 2) (ret := (some .int)) (lv := [(0, .ref oF), (1, .int p0)]) (by decide) rfl (Nat.le_of_ble_eq_true rfl) rfl ?_
  intro p e s m args below meth c ls A htb C hP hD hE hA hS hl
  have C : kC p c cX4_onPan s m args meth RX4 g 2 (some .int) := C
  have hx := C.1.1
  have hb := C.1.2.1
  have hts := C.1.2.2.2.2
  refine lv_aload_n hx hb dX4_onPan_0 rfl (lv_at hl 0 rfl) ?_
  refine lv_iload_n hx hb dX4_onPan_1 rfl (lv_at hl 1 rfl) ?_
  refine kXV_V (As := [.int p0]) (rest := []) (wr := []) C (X4_checkBag_c l g oF vF oS oH oR oT oB oC rC vC aC p0 hfl) (cwV 1 hts (k_gV kw779 ca_X4_checkBag) rfl rfl rfl ⟨rfl, pnX4_checkBag⟩ ⟨Nat.le_of_ble_eq_true rfl, Nat.le_of_ble_eq_true rfl⟩) hE hS hA hP hD [0, 1] [] rfl rfl ⟨rfl, rfl, by decide⟩ (k_recv C kFX4 hP (i := 0) (q := 0) rfl rfl) rfl hl.1 rfl rfl dX4_onPan_2 ⟨Nat.le_of_ble_eq_true rfl, Nat.le_of_ble_eq_true rfl⟩ (fun E1 u1 H locs q1 ce1 hp1 hP hD hS hce1 hcv1 hcl1 => ?_) (fun u1 H locs hp1 hP hD hS => ?_)
  · obtain ⟨c1, hE1, hu1⟩ := hp1
    subst hu1
    subst hE1
    have hP : kp g [X4W g oF (kFr oC oS oH oR oT oB) vF, X0W g oC rC vC aC] H := hP
    have hD : kd A [X4W g oF (kFr oC oS oH oR oT oB) vF, X0W g oC rC vC aC] := hD
    have hF := (show X4_onPan_f vF vC aC p0 = ((X4_checkBag_f vF vC aC p0), 0) from (if_neg c1).trans (rfl))
    exact kX_out C htb hce1 hcv1 hcl1 hP hD hS ⟨by rw [hF]; exact c1, by rw [hF], rfl⟩ ⟨Nat.le_of_ble_eq_true rfl, Nat.le_of_ble_eq_true rfl⟩
  obtain ⟨c1, hu1⟩ := hp1
  subst hu1
  have hP : kp g [X4W g oF (kFr oC oS oH oR oT oB) vF, X0W g oC rC vC aC] H := hP
  have hD : kd A [X4W g oF (kFr oC oS oH oR oT oB) vF, X0W g oC rC vC aC] := hD
  have z1 := X4_cb c1 hv7 hnb
  refine lv_aload_n hx hb dX4_onPan_5 rfl (lv_at hl 0 rfl) ?_
  refine kg_get (v := .ref oC) C kFX4 (k := 0) kw301 hP (i := 0) (q := 0) rfl rfl (by decide) rfl dX4_onPan_6 ?_
  refine lv_aload_n hx hb dX4_onPan_9 rfl (lv_at hl 0 rfl) ?_
  refine kg_get (v := .ref oC) C kFX4 (k := 0) kw301 hP (i := 0) (q := 0) rfl rfl (by decide) rfl dX4_onPan_10 ?_
  refine lv_iload_n hx hb dX4_onPan_13 rfl (lv_at hl 1 rfl) ?_
  refine kR_VN (As := [.int p0]) (rest := [.ref oC]) C (X0_loadOf_c l g oC rC vC aC p0 (by first | assumption)) ⟨va_cnB (host := "SpiceScale") 1 hts (k_gI ca_X0_loadOf.2.2.2) rfl rfl rfl (C.2.1.2 _ (List.mem_of_getElem? (i := 68) rfl)) (hts _ ca_X0_loadOf.2.2.1) pnX0_loadOf ⟨Nat.le_of_ble_eq_true rfl, Nat.le_of_ble_eq_true rfl⟩, hts _ ca_X0_loadOf.1, hts _ ca_X0_loadOf.2.1⟩ hE hS (hP.pick [1] rfl) (k_recv C kFX0 hP (i := 1) (q := 0) rfl rfl) rfl hl.1 rfl rfl dX4_onPan_14 ⟨Nat.le_of_ble_eq_true rfl, Nat.le_of_ble_eq_true rfl⟩ ?_
  refine kR_VN (As := [.int (X0_loadOf_f vC aC p0)]) (rest := []) C (X0_weightsFor_c l g oC rC vC aC (X0_loadOf_f vC aC p0)) ⟨va_cnB (host := "SpiceScale") 1 hts (k_gI ca_X0_weightsFor.2.2.2) rfl rfl rfl (C.2.1.2 _ (List.mem_of_getElem? (i := 69) rfl)) (hts _ ca_X0_weightsFor.2.2.1) pnX0_weightsFor ⟨Nat.le_of_ble_eq_true rfl, Nat.le_of_ble_eq_true rfl⟩, hts _ ca_X0_weightsFor.1, hts _ ca_X0_weightsFor.2.1⟩ hE hS (hP.pick [1] rfl) (k_recv C kFX0 hP (i := 1) (q := 0) rfl rfl) rfl hl.1 rfl rfl dX4_onPan_17 ⟨Nat.le_of_ble_eq_true rfl, Nat.le_of_ble_eq_true rfl⟩ ?_
  have hF := (show X4_onPan_f vF vC aC p0 = (0, (X0_weightsFor_f vC aC (X0_loadOf_f vC aC p0))) from (if_pos c1).trans (rfl))
  exact kX_ret (x := (X0_weightsFor_f vC aC (X0_loadOf_f vC aC p0))) C hP hD hS ⟨by rw [hF], by rw [hF], rfl⟩ ⟨Nat.le_of_ble_eq_true rfl, Nat.le_of_ble_eq_true rfl⟩ dX4_onPan_20

abbrev wX4_rest : List Cond := Cond.code yX4_rest cX4_rest 2 (some .int) :: kW
def X4_rest_f (vF : Nat → Int32) (vC : Nat → Int32) (aC : Nat → Nat → Int32) (p0 : Int32) : Nat × Int32 :=
  if (X4_checkBag_f vF vC aC p0) = 0 then (0, (X0_restOf_f vC aC (X0_loadOf_f vC aC p0)))
  else ((X4_checkBag_f vF vC aC p0), 0)
set_option maxHeartbeats 4000000 in
set_option maxRecDepth 100000 in
theorem X4_rest_c (l : Launch) (g : kG) (oF : Nat) (vF : Nat → Int32) (oS oH oR oT oB : Nat) (oC : Nat) (rC : Nat → Nat) (vC : Nat → Int32) (aC : Nat → Nat → Int32) (p0 : Int32) (nb : Nat) (hnb : nb ≤ 6) (hv7 : vC 7 = nI nb) (hfl : l.stackTraces = false) : kX l yX4_rest wX4_rest 7 103 1 6 g [.ref oF, .int p0] [X4W g oF (kFr oC oS oH oR oT oB) vF, X0W g oC rC vC aC] (fun x u => (X4_rest_f vF vC aC p0).1 = 0 ∧ x = (X4_rest_f vF vC aC p0).2 ∧ u = [X4W g oF (kFr oC oS oH oR oT oB) vF, X0W g oC rC vC aC]) (fun E u => (X4_rest_f vF vC aC p0).1 ≠ 0 ∧ E = kEx (X4_rest_f vF vC aC p0).1 ∧ u = [X4W g oF (kFr oC oS oH oR oT oB) vF, X0W g oC rC vC aC]) := by
  refine kX_of (cc := cX4_rest) (nL := 2) (ret := (some .int)) (lv := [(0, .ref oF), (1, .int p0)]) (by decide) rfl (Nat.le_of_ble_eq_true rfl) rfl ?_
  intro p e s m args below meth c ls A htb C hP hD hE hA hS hl
  have C : kC p c cX4_rest s m args meth RX4 g 2 (some .int) := C
  have hx := C.1.1
  have hb := C.1.2.1
  have hts := C.1.2.2.2.2
  refine lv_aload_n hx hb dX4_rest_0 rfl (lv_at hl 0 rfl) ?_
  refine lv_iload_n hx hb dX4_rest_1 rfl (lv_at hl 1 rfl) ?_
  refine kXV_V (As := [.int p0]) (rest := []) (wr := []) C (X4_checkBag_c l g oF vF oS oH oR oT oB oC rC vC aC p0 hfl) (cwV 1 hts (k_gV kw779 ca_X4_checkBag) rfl rfl rfl ⟨rfl, pnX4_checkBag⟩ ⟨Nat.le_of_ble_eq_true rfl, Nat.le_of_ble_eq_true rfl⟩) hE hS hA hP hD [0, 1] [] rfl rfl ⟨rfl, rfl, by decide⟩ (k_recv C kFX4 hP (i := 0) (q := 0) rfl rfl) rfl hl.1 rfl rfl dX4_rest_2 ⟨Nat.le_of_ble_eq_true rfl, Nat.le_of_ble_eq_true rfl⟩ (fun E1 u1 H locs q1 ce1 hp1 hP hD hS hce1 hcv1 hcl1 => ?_) (fun u1 H locs hp1 hP hD hS => ?_)
  · obtain ⟨c1, hE1, hu1⟩ := hp1
    subst hu1
    subst hE1
    have hP : kp g [X4W g oF (kFr oC oS oH oR oT oB) vF, X0W g oC rC vC aC] H := hP
    have hD : kd A [X4W g oF (kFr oC oS oH oR oT oB) vF, X0W g oC rC vC aC] := hD
    have hF := (show X4_rest_f vF vC aC p0 = ((X4_checkBag_f vF vC aC p0), 0) from (if_neg c1).trans (rfl))
    exact kX_out C htb hce1 hcv1 hcl1 hP hD hS ⟨by rw [hF]; exact c1, by rw [hF], rfl⟩ ⟨Nat.le_of_ble_eq_true rfl, Nat.le_of_ble_eq_true rfl⟩
  obtain ⟨c1, hu1⟩ := hp1
  subst hu1
  have hP : kp g [X4W g oF (kFr oC oS oH oR oT oB) vF, X0W g oC rC vC aC] H := hP
  have hD : kd A [X4W g oF (kFr oC oS oH oR oT oB) vF, X0W g oC rC vC aC] := hD
  have z1 := X4_cb c1 hv7 hnb
  refine lv_aload_n hx hb dX4_rest_5 rfl (lv_at hl 0 rfl) ?_
  refine kg_get (v := .ref oC) C kFX4 (k := 0) kw301 hP (i := 0) (q := 0) rfl rfl (by decide) rfl dX4_rest_6 ?_
  refine lv_aload_n hx hb dX4_rest_9 rfl (lv_at hl 0 rfl) ?_
  refine kg_get (v := .ref oC) C kFX4 (k := 0) kw301 hP (i := 0) (q := 0) rfl rfl (by decide) rfl dX4_rest_10 ?_
  refine lv_iload_n hx hb dX4_rest_13 rfl (lv_at hl 1 rfl) ?_
  refine kR_VN (As := [.int p0]) (rest := [.ref oC]) C (X0_loadOf_c l g oC rC vC aC p0 (by first | assumption)) ⟨va_cnB (host := "SpiceScale") 1 hts (k_gI ca_X0_loadOf.2.2.2) rfl rfl rfl (C.2.1.2 _ (List.mem_of_getElem? (i := 68) rfl)) (hts _ ca_X0_loadOf.2.2.1) pnX0_loadOf ⟨Nat.le_of_ble_eq_true rfl, Nat.le_of_ble_eq_true rfl⟩, hts _ ca_X0_loadOf.1, hts _ ca_X0_loadOf.2.1⟩ hE hS (hP.pick [1] rfl) (k_recv C kFX0 hP (i := 1) (q := 0) rfl rfl) rfl hl.1 rfl rfl dX4_rest_14 ⟨Nat.le_of_ble_eq_true rfl, Nat.le_of_ble_eq_true rfl⟩ ?_
  refine kR_VN (As := [.int (X0_loadOf_f vC aC p0)]) (rest := []) C (X0_restOf_c l g oC rC vC aC (X0_loadOf_f vC aC p0)) ⟨va_cnB (host := "SpiceScale") 1 hts (k_gI ca_X0_restOf.2.2.2) rfl rfl rfl (C.2.1.2 _ (List.mem_of_getElem? (i := 70) rfl)) (hts _ ca_X0_restOf.2.2.1) pnX0_restOf ⟨Nat.le_of_ble_eq_true rfl, Nat.le_of_ble_eq_true rfl⟩, hts _ ca_X0_restOf.1, hts _ ca_X0_restOf.2.1⟩ hE hS (hP.pick [1] rfl) (k_recv C kFX0 hP (i := 1) (q := 0) rfl rfl) rfl hl.1 rfl rfl dX4_rest_17 ⟨Nat.le_of_ble_eq_true rfl, Nat.le_of_ble_eq_true rfl⟩ ?_
  have hF := (show X4_rest_f vF vC aC p0 = (0, (X0_restOf_f vC aC (X0_loadOf_f vC aC p0))) from (if_pos c1).trans (rfl))
  exact kX_ret (x := (X0_restOf_f vC aC (X0_loadOf_f vC aC p0))) C hP hD hS ⟨by rw [hF], by rw [hF], rfl⟩ ⟨Nat.le_of_ble_eq_true rfl, Nat.le_of_ble_eq_true rfl⟩ dX4_rest_20

abbrev wX4_honest : List Cond := Cond.code yX4_honest cX4_honest 2 (some .int) :: kW
def X4_honest_f (vF : Nat → Int32) (vC : Nat → Int32) (aC : Nat → Nat → Int32) (p0 : Int32) : Nat × Int32 :=
  if (X4_checkBag_f vF vC aC p0) = 0 then (0, (X4_toldBy_f (X0_weightsFor_f vC aC (((aC 8) p0.toNatClampNeg) + ((aC 11) p0.toNatClampNeg)))))
  else ((X4_checkBag_f vF vC aC p0), 0)
set_option maxHeartbeats 4000000 in
set_option maxRecDepth 100000 in
theorem X4_honest_c (l : Launch) (g : kG) (oF : Nat) (vF : Nat → Int32) (oS oH oR oT oB : Nat) (oC : Nat) (rC : Nat → Nat) (vC : Nat → Int32) (aC : Nat → Nat → Int32) (p0 : Int32) (nb : Nat) (hnb : nb ≤ 6) (hv7 : vC 7 = nI nb) (hfl : l.stackTraces = false) : kX l yX4_honest wX4_honest 7 103 1 6 g [.ref oF, .int p0] [X4W g oF (kFr oC oS oH oR oT oB) vF, X0W g oC rC vC aC] (fun x u => (X4_honest_f vF vC aC p0).1 = 0 ∧ x = (X4_honest_f vF vC aC p0).2 ∧ u = [X4W g oF (kFr oC oS oH oR oT oB) vF, X0W g oC rC vC aC]) (fun E u => (X4_honest_f vF vC aC p0).1 ≠ 0 ∧ E = kEx (X4_honest_f vF vC aC p0).1 ∧ u = [X4W g oF (kFr oC oS oH oR oT oB) vF, X0W g oC rC vC aC]) := by
  refine kX_of (cc := cX4_honest) (nL := 2) (ret := (some .int)) (lv := [(0, .ref oF), (1, .int p0)]) (by decide) rfl (Nat.le_of_ble_eq_true rfl) rfl ?_
  intro p e s m args below meth c ls A htb C hP hD hE hA hS hl
  have C : kC p c cX4_honest s m args meth RX4 g 2 (some .int) := C
  have hx := C.1.1
  have hb := C.1.2.1
  have hts := C.1.2.2.2.2
  refine lv_aload_n hx hb dX4_honest_0 rfl (lv_at hl 0 rfl) ?_
  refine lv_iload_n hx hb dX4_honest_1 rfl (lv_at hl 1 rfl) ?_
  refine kXV_V (As := [.int p0]) (rest := []) (wr := []) C (X4_checkBag_c l g oF vF oS oH oR oT oB oC rC vC aC p0 hfl) (cwV 1 hts (k_gV kw779 ca_X4_checkBag) rfl rfl rfl ⟨rfl, pnX4_checkBag⟩ ⟨Nat.le_of_ble_eq_true rfl, Nat.le_of_ble_eq_true rfl⟩) hE hS hA hP hD [0, 1] [] rfl rfl ⟨rfl, rfl, by decide⟩ (k_recv C kFX4 hP (i := 0) (q := 0) rfl rfl) rfl hl.1 rfl rfl dX4_honest_2 ⟨Nat.le_of_ble_eq_true rfl, Nat.le_of_ble_eq_true rfl⟩ (fun E1 u1 H locs q1 ce1 hp1 hP hD hS hce1 hcv1 hcl1 => ?_) (fun u1 H locs hp1 hP hD hS => ?_)
  · obtain ⟨c1, hE1, hu1⟩ := hp1
    subst hu1
    subst hE1
    have hP : kp g [X4W g oF (kFr oC oS oH oR oT oB) vF, X0W g oC rC vC aC] H := hP
    have hD : kd A [X4W g oF (kFr oC oS oH oR oT oB) vF, X0W g oC rC vC aC] := hD
    have hF := (show X4_honest_f vF vC aC p0 = ((X4_checkBag_f vF vC aC p0), 0) from (if_neg c1).trans (rfl))
    exact kX_out C htb hce1 hcv1 hcl1 hP hD hS ⟨by rw [hF]; exact c1, by rw [hF], rfl⟩ ⟨Nat.le_of_ble_eq_true rfl, Nat.le_of_ble_eq_true rfl⟩
  obtain ⟨c1, hu1⟩ := hp1
  subst hu1
  have hP : kp g [X4W g oF (kFr oC oS oH oR oT oB) vF, X0W g oC rC vC aC] H := hP
  have hD : kd A [X4W g oF (kFr oC oS oH oR oT oB) vF, X0W g oC rC vC aC] := hD
  have z1 := X4_cb c1 hv7 hnb
  refine lv_aload_n hx hb dX4_honest_5 rfl (lv_at hl 0 rfl) ?_
  refine kg_get (v := .ref oC) C kFX4 (k := 0) kw301 hP (i := 0) (q := 0) rfl rfl (by decide) rfl dX4_honest_6 ?_
  refine lv_aload_n hx hb dX4_honest_9 rfl (lv_at hl 0 rfl) ?_
  refine kg_get (v := .ref oC) C kFX4 (k := 0) kw301 hP (i := 0) (q := 0) rfl rfl (by decide) rfl dX4_honest_10 ?_
  refine kg_getN C kFX0 (k := 8) (List.mem_of_getElem? (i := 17) rfl) hP (i := 1) (q := 0) rfl rfl (by decide) rfl dX4_honest_13 ?_
  refine lv_iload_n hx hb dX4_honest_16 rfl (lv_at hl 1 rfl) ?_
  refine kg_iald C hP (i := 1) (q := 3) rfl rfl (by first | assumption) dX4_honest_17 ?_
  refine lv_aload_n hx hb dX4_honest_18 rfl (lv_at hl 0 rfl) ?_
  refine kg_get (v := .ref oC) C kFX4 (k := 0) kw301 hP (i := 0) (q := 0) rfl rfl (by decide) rfl dX4_honest_19 ?_
  refine kg_getN C kFX0 (k := 11) (List.mem_of_getElem? (i := 22) rfl) hP (i := 1) (q := 0) rfl rfl (by decide) rfl dX4_honest_22 ?_
  refine lv_iload_n hx hb dX4_honest_25 rfl (lv_at hl 1 rfl) ?_
  refine kg_iald C hP (i := 1) (q := 6) rfl rfl (by first | assumption) dX4_honest_26 ?_
  refine lv_iadd hx hb dX4_honest_27 ?_
  refine kR_VN (As := [.int (((aC 8) p0.toNatClampNeg) + ((aC 11) p0.toNatClampNeg))]) (rest := []) C (X0_weightsFor_c l g oC rC vC aC (((aC 8) p0.toNatClampNeg) + ((aC 11) p0.toNatClampNeg))) ⟨va_cnB (host := "SpiceScale") 1 hts (k_gI ca_X0_weightsFor.2.2.2) rfl rfl rfl (C.2.1.2 _ (List.mem_of_getElem? (i := 69) rfl)) (hts _ ca_X0_weightsFor.2.2.1) pnX0_weightsFor ⟨Nat.le_of_ble_eq_true rfl, Nat.le_of_ble_eq_true rfl⟩, hts _ ca_X0_weightsFor.1, hts _ ca_X0_weightsFor.2.1⟩ hE hS (hP.pick [1] rfl) (k_recv C kFX0 hP (i := 1) (q := 0) rfl rfl) rfl hl.1 rfl rfl dX4_honest_28 ⟨Nat.le_of_ble_eq_true rfl, Nat.le_of_ble_eq_true rfl⟩ ?_
  refine kR_S (As := [.int (X0_weightsFor_f vC aC (((aC 8) p0.toNatClampNeg) + ((aC 11) p0.toNatClampNeg)))]) (rest := []) C (X4_toldBy_c l g (X0_weightsFor_f vC aC (((aC 8) p0.toNatClampNeg) + ((aC 11) p0.toNatClampNeg)))) (va_cwS 1 hts (k_gS kw787 cs_X4_toldBy) rfl rfl rfl pnX4_toldBy ⟨Nat.le_of_ble_eq_true rfl, Nat.le_of_ble_eq_true rfl⟩) hE hS (hP.pick [] rfl) rfl hl.1 rfl rfl dX4_honest_31 ⟨Nat.le_of_ble_eq_true rfl, Nat.le_of_ble_eq_true rfl⟩ ?_
  have hF := (show X4_honest_f vF vC aC p0 = (0, (X4_toldBy_f (X0_weightsFor_f vC aC (((aC 8) p0.toNatClampNeg) + ((aC 11) p0.toNatClampNeg))))) from (if_pos c1).trans (rfl))
  exact kX_ret (x := (X4_toldBy_f (X0_weightsFor_f vC aC (((aC 8) p0.toNatClampNeg) + ((aC 11) p0.toNatClampNeg))))) C hP hD hS ⟨by rw [hF], by rw [hF], rfl⟩ ⟨Nat.le_of_ble_eq_true rfl, Nat.le_of_ble_eq_true rfl⟩ dX4_honest_34

theorem pnX4_checkMarket : yX4_checkMarket.cls ≠ "java/lang/invoke/MethodHandle" ∧ yX4_checkMarket.cls ≠ "java/lang/invoke/VarHandle" ∧ (parseMethodDescriptor yX4_checkMarket.desc).map (fun d => d.parameters.length) = some 1 := by decide +kernel
theorem cs_X4_checkMarket : kCst yX4_checkMarket (Cond.code yX4_checkMarket cX4_checkMarket 1 none) := ⟨k_w 5 38 rfl rfl, k_w 2 1 rfl rfl, k_w 5 39 rfl rfl⟩

abbrev wX4_pays : List Cond := Cond.code yX4_pays cX4_pays 3 (some .int) :: kW
def X4_pays_f (vF : Nat → Int32) (vC : Nat → Int32) (aC : Nat → Nat → Int32) (p0 : Int32) (p1 : Int32) : Nat × Int32 :=
  if (X4_checkMarket_f p0) = 0 then (if (X4_isSpice_f p1) = true then (0, (X4_priceOf_f p0 p1))
    else (3, 0))
  else ((X4_checkMarket_f p0), 0)
set_option maxHeartbeats 4000000 in
set_option maxRecDepth 100000 in
theorem X4_pays_c (l : Launch) (g : kG) (oF : Nat) (vF : Nat → Int32) (oS oH oR oT oB : Nat) (oC : Nat) (rC : Nat → Nat) (vC : Nat → Int32) (aC : Nat → Nat → Int32) (p0 : Int32) (p1 : Int32) (hfl : l.stackTraces = false) : kX l yX4_pays wX4_pays 7 102 2 12 g [.ref oF, .int p0, .int p1] [X4W g oF (kFr oC oS oH oR oT oB) vF, X0W g oC rC vC aC] (fun x u => (X4_pays_f vF vC aC p0 p1).1 = 0 ∧ x = (X4_pays_f vF vC aC p0 p1).2 ∧ u = [X4W g oF (kFr oC oS oH oR oT oB) vF, X0W g oC rC vC aC]) (fun E u => (X4_pays_f vF vC aC p0 p1).1 ≠ 0 ∧ E = kEx (X4_pays_f vF vC aC p0 p1).1 ∧ u = [X4W g oF (kFr oC oS oH oR oT oB) vF, X0W g oC rC vC aC]) := by
  refine kX_of (cc := cX4_pays) (nL := 3) (ret := (some .int)) (lv := [(0, .ref oF), (1, .int p0), (2, .int p1)]) (by decide) rfl (Nat.le_of_ble_eq_true rfl) rfl ?_
  intro p e s m args below meth c ls A htb C hP hD hE hA hS hl
  have C : kC p c cX4_pays s m args meth RX4 g 3 (some .int) := C
  have hx := C.1.1
  have hb := C.1.2.1
  have hts := C.1.2.2.2.2
  refine lv_iload_n hx hb dX4_pays_0 rfl (lv_at hl 1 rfl) ?_
  refine kXV_S (As := [.int p0]) (rest := []) (wr := [X4W g oF (kFr oC oS oH oR oT oB) vF, X0W g oC rC vC aC]) C (X4_checkMarket_c l g p0 hfl) (va_cwS 1 hts (k_gS kw825 cs_X4_checkMarket) rfl rfl rfl pnX4_checkMarket ⟨Nat.le_of_ble_eq_true rfl, Nat.le_of_ble_eq_true rfl⟩) hE hS hA hP hD [] [0, 1] rfl rfl ⟨rfl, rfl, by decide⟩ rfl hl.1 rfl rfl dX4_pays_1 ⟨Nat.le_of_ble_eq_true rfl, Nat.le_of_ble_eq_true rfl⟩ (fun E1 u1 H locs q1 ce1 hp1 hP hD hS hce1 hcv1 hcl1 => ?_) (fun u1 H locs hp1 hP hD hS => ?_)
  · obtain ⟨c1, hE1, hu1⟩ := hp1
    subst hu1
    subst hE1
    have hP : kp g [X4W g oF (kFr oC oS oH oR oT oB) vF, X0W g oC rC vC aC] H := hP
    have hD : kd A [X4W g oF (kFr oC oS oH oR oT oB) vF, X0W g oC rC vC aC] := hD
    have hF := (show X4_pays_f vF vC aC p0 p1 = ((X4_checkMarket_f p0), 0) from (if_neg c1).trans (rfl))
    exact kX_out C htb hce1 hcv1 hcl1 hP hD hS ⟨by rw [hF]; exact c1, by rw [hF], rfl⟩ ⟨Nat.le_of_ble_eq_true rfl, Nat.le_of_ble_eq_true rfl⟩
  obtain ⟨c1, hu1⟩ := hp1
  subst hu1
  have hP : kp g [X4W g oF (kFr oC oS oH oR oT oB) vF, X0W g oC rC vC aC] H := hP
  have hD : kd A [X4W g oF (kFr oC oS oH oR oT oB) vF, X0W g oC rC vC aC] := hD
  refine lv_iload_n hx hb dX4_pays_4 rfl (lv_at hl 2 rfl) ?_
  refine kR_S (As := [.int p1]) (rest := []) C (X4_isSpice_c l g p1) (va_cwS 1 hts (k_gS kw830 cs_X4_isSpice) rfl rfl rfl pnX4_isSpice ⟨Nat.le_of_ble_eq_true rfl, Nat.le_of_ble_eq_true rfl⟩) hE hS (hP.pick [] rfl) rfl hl.1 rfl rfl dX4_pays_5 ⟨Nat.le_of_ble_eq_true rfl, Nat.le_of_ble_eq_true rfl⟩ ?_
  refine lv_if_ne (tgt := 21) hx hb dX4_pays_8 (by decide) (fun c2 => ?_) (fun c2 => ?_)
  · have c2 := b2i_ne0 c2
    refine lv_iload_n hx hb dX4_pays_21 rfl (lv_at hl 1 rfl) ?_
    refine lv_iload_n hx hb dX4_pays_22 rfl (lv_at hl 2 rfl) ?_
    refine kR_S (As := [.int p0, .int p1]) (rest := []) C (X4_priceOf_c l g p0 p1) (va_cwS 2 hts (k_gS kw832 cs_X4_priceOf) rfl rfl rfl pnX4_priceOf ⟨Nat.le_of_ble_eq_true rfl, Nat.le_of_ble_eq_true rfl⟩) hE hS (hP.pick [] rfl) rfl hl.1 rfl rfl dX4_pays_23 ⟨Nat.le_of_ble_eq_true rfl, Nat.le_of_ble_eq_true rfl⟩ ?_
    have hF := (show X4_pays_f vF vC aC p0 p1 = (0, (X4_priceOf_f p0 p1)) from (if_pos c1).trans ((if_pos c2).trans (rfl)))
    exact kX_ret (x := (X4_priceOf_f p0 p1)) C hP hD hS ⟨by rw [hF], by rw [hF], rfl⟩ ⟨Nat.le_of_ble_eq_true rfl, Nat.le_of_ble_eq_true rfl⟩ dX4_pays_26
  have c2 := b2i_eq0 c2
  have hF := (show X4_pays_f vF vC aC p0 p1 = (3, 0) from (if_pos c1).trans ((if_neg c2).trans (rfl)))
  exact kX_throwS (names := ["java/lang/RuntimeException", "java/lang/Exception"]) C hfl htb (by decide) (by decide) kw756 kw85 (List.mem_of_getElem? (i := 5) rfl) kx_at_IllegalArgumentException hE hS hl.1 hP hD ⟨by rw [hF]; exact (by decide : (3 : Nat) ≠ 0), by rw [hF]; rfl, rfl⟩ dX4_pays_11 dX4_pays_14 dX4_pays_15 dX4_pays_17 dX4_pays_20 (by decide) (Nat.le_of_ble_eq_true rfl) ⟨Nat.le_of_ble_eq_true rfl, Nat.le_of_ble_eq_true rfl⟩ ⟨Nat.le_of_ble_eq_true rfl, Nat.le_of_ble_eq_true rfl⟩

theorem pnX4_checkFilled : yX4_checkFilled.cls ≠ "java/lang/invoke/MethodHandle" ∧ yX4_checkFilled.cls ≠ "java/lang/invoke/VarHandle" ∧ (parseMethodDescriptor yX4_checkFilled.desc).map (fun d => d.parameters.length) = some 1 := by decide +kernel
theorem ca_X4_checkFilled : kCal yX4_checkFilled (Cond.code yX4_checkFilled cX4_checkFilled 2 none) := ⟨k_w 7 129 rfl rfl, k_w 1 58 rfl rfl, k_w 2 1 rfl rfl, k_w 7 130 rfl rfl⟩

abbrev wX4_wouldGet : List Cond := Cond.code yX4_wouldGet cX4_wouldGet 3 (some .int) :: kW
def X4_wouldGet_f (vF : Nat → Int32) (vC : Nat → Int32) (aC : Nat → Nat → Int32) (p0 : Int32) (p1 : Int32) : Nat × Int32 :=
  if (X4_checkBag_f vF vC aC p0) = 0 then (if (X4_checkMarket_f p1) = 0 then (if (X4_checkFilled_f vF vC aC p0) = 0 then (0, (X0_coinsFor_f vC aC p0 p1 (X0_netOf_f vC aC p0)))
      else ((X4_checkFilled_f vF vC aC p0), 0))
    else ((X4_checkMarket_f p1), 0))
  else ((X4_checkBag_f vF vC aC p0), 0)
set_option maxHeartbeats 4000000 in
set_option maxRecDepth 100000 in
theorem X4_wouldGet_c (l : Launch) (g : kG) (oF : Nat) (vF : Nat → Int32) (oS oH oR oT oB : Nat) (oC : Nat) (rC : Nat → Nat) (vC : Nat → Int32) (aC : Nat → Nat → Int32) (p0 : Int32) (p1 : Int32) (nb : Nat) (hnb : nb ≤ 6) (hv7 : vC 7 = nI nb) (hfl : l.stackTraces = false) : kX l yX4_wouldGet wX4_wouldGet 7 103 3 18 g [.ref oF, .int p0, .int p1] [X4W g oF (kFr oC oS oH oR oT oB) vF, X0W g oC rC vC aC] (fun x u => (X4_wouldGet_f vF vC aC p0 p1).1 = 0 ∧ x = (X4_wouldGet_f vF vC aC p0 p1).2 ∧ u = [X4W g oF (kFr oC oS oH oR oT oB) vF, X0W g oC rC vC aC]) (fun E u => (X4_wouldGet_f vF vC aC p0 p1).1 ≠ 0 ∧ E = kEx (X4_wouldGet_f vF vC aC p0 p1).1 ∧ u = [X4W g oF (kFr oC oS oH oR oT oB) vF, X0W g oC rC vC aC]) := by
  refine kX_of (cc := cX4_wouldGet) (nL := 3) (ret := (some .int)) (lv := [(0, .ref oF), (1, .int p0), (2, .int p1)]) (by decide) rfl (Nat.le_of_ble_eq_true rfl) rfl ?_
  intro p e s m args below meth c ls A htb C hP hD hE hA hS hl
  have C : kC p c cX4_wouldGet s m args meth RX4 g 3 (some .int) := C
  have hx := C.1.1
  have hb := C.1.2.1
  have hts := C.1.2.2.2.2
  refine lv_aload_n hx hb dX4_wouldGet_0 rfl (lv_at hl 0 rfl) ?_
  refine lv_iload_n hx hb dX4_wouldGet_1 rfl (lv_at hl 1 rfl) ?_
  refine kXV_V (As := [.int p0]) (rest := []) (wr := []) C (X4_checkBag_c l g oF vF oS oH oR oT oB oC rC vC aC p0 hfl) (cwV 1 hts (k_gV kw779 ca_X4_checkBag) rfl rfl rfl ⟨rfl, pnX4_checkBag⟩ ⟨Nat.le_of_ble_eq_true rfl, Nat.le_of_ble_eq_true rfl⟩) hE hS hA hP hD [0, 1] [] rfl rfl ⟨rfl, rfl, by decide⟩ (k_recv C kFX4 hP (i := 0) (q := 0) rfl rfl) rfl hl.1 rfl rfl dX4_wouldGet_2 ⟨Nat.le_of_ble_eq_true rfl, Nat.le_of_ble_eq_true rfl⟩ (fun E1 u1 H locs q1 ce1 hp1 hP hD hS hce1 hcv1 hcl1 => ?_) (fun u1 H locs hp1 hP hD hS => ?_)
  · obtain ⟨c1, hE1, hu1⟩ := hp1
    subst hu1
    subst hE1
    have hP : kp g [X4W g oF (kFr oC oS oH oR oT oB) vF, X0W g oC rC vC aC] H := hP
    have hD : kd A [X4W g oF (kFr oC oS oH oR oT oB) vF, X0W g oC rC vC aC] := hD
    have hF := (show X4_wouldGet_f vF vC aC p0 p1 = ((X4_checkBag_f vF vC aC p0), 0) from (if_neg c1).trans (rfl))
    exact kX_out C htb hce1 hcv1 hcl1 hP hD hS ⟨by rw [hF]; exact c1, by rw [hF], rfl⟩ ⟨Nat.le_of_ble_eq_true rfl, Nat.le_of_ble_eq_true rfl⟩
  obtain ⟨c1, hu1⟩ := hp1
  subst hu1
  have hP : kp g [X4W g oF (kFr oC oS oH oR oT oB) vF, X0W g oC rC vC aC] H := hP
  have hD : kd A [X4W g oF (kFr oC oS oH oR oT oB) vF, X0W g oC rC vC aC] := hD
  have z1 := X4_cb c1 hv7 hnb
  refine lv_iload_n hx hb dX4_wouldGet_5 rfl (lv_at hl 2 rfl) ?_
  refine kXV_S (As := [.int p1]) (rest := []) (wr := [X4W g oF (kFr oC oS oH oR oT oB) vF, X0W g oC rC vC aC]) C (X4_checkMarket_c l g p1 hfl) (va_cwS 1 hts (k_gS kw825 cs_X4_checkMarket) rfl rfl rfl pnX4_checkMarket ⟨Nat.le_of_ble_eq_true rfl, Nat.le_of_ble_eq_true rfl⟩) hE hS hA hP hD [] [0, 1] rfl rfl ⟨rfl, rfl, by decide⟩ rfl hl.1 rfl rfl dX4_wouldGet_6 ⟨Nat.le_of_ble_eq_true rfl, Nat.le_of_ble_eq_true rfl⟩ (fun E2 u2 H locs q2 ce2 hp2 hP hD hS hce2 hcv2 hcl2 => ?_) (fun u2 H locs hp2 hP hD hS => ?_)
  · obtain ⟨c2, hE2, hu2⟩ := hp2
    subst hu2
    subst hE2
    have hP : kp g [X4W g oF (kFr oC oS oH oR oT oB) vF, X0W g oC rC vC aC] H := hP
    have hD : kd A [X4W g oF (kFr oC oS oH oR oT oB) vF, X0W g oC rC vC aC] := hD
    have hF := (show X4_wouldGet_f vF vC aC p0 p1 = ((X4_checkMarket_f p1), 0) from (if_pos c1).trans ((if_neg c2).trans (rfl)))
    exact kX_out C htb hce2 hcv2 hcl2 hP hD hS ⟨by rw [hF]; exact c2, by rw [hF], rfl⟩ ⟨Nat.le_of_ble_eq_true rfl, Nat.le_of_ble_eq_true rfl⟩
  obtain ⟨c2, hu2⟩ := hp2
  subst hu2
  have hP : kp g [X4W g oF (kFr oC oS oH oR oT oB) vF, X0W g oC rC vC aC] H := hP
  have hD : kd A [X4W g oF (kFr oC oS oH oR oT oB) vF, X0W g oC rC vC aC] := hD
  have z3 := X4_cm c2
  refine lv_aload_n hx hb dX4_wouldGet_9 rfl (lv_at hl 0 rfl) ?_
  refine lv_iload_n hx hb dX4_wouldGet_10 rfl (lv_at hl 1 rfl) ?_
  refine kXV_V (As := [.int p0]) (rest := []) (wr := []) C (X4_checkFilled_c l g oF vF oS oH oR oT oB oC rC vC aC p0 (by first | assumption) hfl) (cwV 1 hts (k_gV kw1395 ca_X4_checkFilled) rfl rfl rfl ⟨rfl, pnX4_checkFilled⟩ ⟨Nat.le_of_ble_eq_true rfl, Nat.le_of_ble_eq_true rfl⟩) hE hS hA hP hD [0, 1] [] rfl rfl ⟨rfl, rfl, by decide⟩ (k_recv C kFX4 hP (i := 0) (q := 0) rfl rfl) rfl hl.1 rfl rfl dX4_wouldGet_11 ⟨Nat.le_of_ble_eq_true rfl, Nat.le_of_ble_eq_true rfl⟩ (fun E3 u3 H locs q3 ce3 hp3 hP hD hS hce3 hcv3 hcl3 => ?_) (fun u3 H locs hp3 hP hD hS => ?_)
  · obtain ⟨c3, hE3, hu3⟩ := hp3
    subst hu3
    subst hE3
    have hP : kp g [X4W g oF (kFr oC oS oH oR oT oB) vF, X0W g oC rC vC aC] H := hP
    have hD : kd A [X4W g oF (kFr oC oS oH oR oT oB) vF, X0W g oC rC vC aC] := hD
    have hF := (show X4_wouldGet_f vF vC aC p0 p1 = ((X4_checkFilled_f vF vC aC p0), 0) from (if_pos c1).trans ((if_pos c2).trans ((if_neg c3).trans (rfl))))
    exact kX_out C htb hce3 hcv3 hcl3 hP hD hS ⟨by rw [hF]; exact c3, by rw [hF], rfl⟩ ⟨Nat.le_of_ble_eq_true rfl, Nat.le_of_ble_eq_true rfl⟩
  obtain ⟨c3, hu3⟩ := hp3
  subst hu3
  have hP : kp g [X4W g oF (kFr oC oS oH oR oT oB) vF, X0W g oC rC vC aC] H := hP
  have hD : kd A [X4W g oF (kFr oC oS oH oR oT oB) vF, X0W g oC rC vC aC] := hD
  refine lv_aload_n hx hb dX4_wouldGet_14 rfl (lv_at hl 0 rfl) ?_
  refine kg_get (v := .ref oC) C kFX4 (k := 0) kw301 hP (i := 0) (q := 0) rfl rfl (by decide) rfl dX4_wouldGet_15 ?_
  refine lv_iload_n hx hb dX4_wouldGet_18 rfl (lv_at hl 1 rfl) ?_
  refine lv_iload_n hx hb dX4_wouldGet_19 rfl (lv_at hl 2 rfl) ?_
  refine lv_aload_n hx hb dX4_wouldGet_20 rfl (lv_at hl 0 rfl) ?_
  refine kg_get (v := .ref oC) C kFX4 (k := 0) kw301 hP (i := 0) (q := 0) rfl rfl (by decide) rfl dX4_wouldGet_21 ?_
  refine lv_iload_n hx hb dX4_wouldGet_24 rfl (lv_at hl 1 rfl) ?_
  refine kR_VN (As := [.int p0]) (rest := [.int p1, .int p0, .ref oC]) C (X0_netOf_c l g oC rC vC aC p0 (by first | assumption)) ⟨va_cnB (host := "SpiceScale") 1 hts (k_gI ca_X0_netOf.2.2.2) rfl rfl rfl (C.2.1.2 _ (List.mem_of_getElem? (i := 79) rfl)) (hts _ ca_X0_netOf.2.2.1) pnX0_netOf ⟨Nat.le_of_ble_eq_true rfl, Nat.le_of_ble_eq_true rfl⟩, hts _ ca_X0_netOf.1, hts _ ca_X0_netOf.2.1⟩ hE hS (hP.pick [1] rfl) (k_recv C kFX0 hP (i := 1) (q := 0) rfl rfl) rfl hl.1 rfl rfl dX4_wouldGet_25 ⟨Nat.le_of_ble_eq_true rfl, Nat.le_of_ble_eq_true rfl⟩ ?_
  refine kR_VN (As := [.int p0, .int p1, .int (X0_netOf_f vC aC p0)]) (rest := []) C (X0_coinsFor_c l g oC rC vC aC p0 p1 (X0_netOf_f vC aC p0) (by first | assumption) (by first | assumption)) ⟨va_cnB (host := "SpiceScale") 3 hts (k_gI ca_X0_coinsFor.2.2.2) rfl rfl rfl (C.2.1.2 _ (List.mem_of_getElem? (i := 80) rfl)) (hts _ ca_X0_coinsFor.2.2.1) pnX0_coinsFor ⟨Nat.le_of_ble_eq_true rfl, Nat.le_of_ble_eq_true rfl⟩, hts _ ca_X0_coinsFor.1, hts _ ca_X0_coinsFor.2.1⟩ hE hS (hP.pick [1] rfl) (k_recv C kFX0 hP (i := 1) (q := 0) rfl rfl) rfl hl.1 rfl rfl dX4_wouldGet_28 ⟨Nat.le_of_ble_eq_true rfl, Nat.le_of_ble_eq_true rfl⟩ ?_
  have hF := (show X4_wouldGet_f vF vC aC p0 p1 = (0, (X0_coinsFor_f vC aC p0 p1 (X0_netOf_f vC aC p0))) from (if_pos c1).trans ((if_pos c2).trans ((if_pos c3).trans (rfl))))
  exact kX_ret (x := (X0_coinsFor_f vC aC p0 p1 (X0_netOf_f vC aC p0))) C hP hD hS ⟨by rw [hF], by rw [hF], rfl⟩ ⟨Nat.le_of_ble_eq_true rfl, Nat.le_of_ble_eq_true rfl⟩ dX4_wouldGet_31

theorem pnX0_marketThatGivesMost : yX0_marketThatGivesMost.cls ≠ "java/lang/invoke/MethodHandle" ∧ yX0_marketThatGivesMost.cls ≠ "java/lang/invoke/VarHandle" ∧ (parseMethodDescriptor yX0_marketThatGivesMost.desc).map (fun d => d.parameters.length) = some 1 := by decide +kernel
theorem ca_X0_marketThatGivesMost : kCal yX0_marketThatGivesMost (Cond.code yX0_marketThatGivesMost cX0_marketThatGivesMost 6 (some .int)) := ⟨k_w 7 143 rfl rfl, k_w 1 59 rfl rfl, k_w 2 2 rfl rfl, k_w 7 144 rfl rfl⟩

abbrev wX4_bestMarket : List Cond := Cond.code yX4_bestMarket cX4_bestMarket 2 (some .int) :: kW
def X4_bestMarket_f (vF : Nat → Int32) (vC : Nat → Int32) (aC : Nat → Nat → Int32) (p0 : Int32) : Nat × Int32 :=
  if (X4_checkBag_f vF vC aC p0) = 0 then (if (X4_checkFilled_f vF vC aC p0) = 0 then (0, (X0_marketThatGivesMost_f vC aC p0))
    else ((X4_checkFilled_f vF vC aC p0), 0))
  else ((X4_checkBag_f vF vC aC p0), 0)
set_option maxHeartbeats 4000000 in
set_option maxRecDepth 100000 in
theorem X4_bestMarket_c (l : Launch) (g : kG) (oF : Nat) (vF : Nat → Int32) (oS oH oR oT oB : Nat) (oC : Nat) (rC : Nat → Nat) (vC : Nat → Int32) (aC : Nat → Nat → Int32) (p0 : Int32) (nb : Nat) (hnb : nb ≤ 6) (hv7 : vC 7 = nI nb) (hM : vp_in (vC 1) 4) (hfl : l.stackTraces = false) : kX l yX4_bestMarket wX4_bestMarket 7 103 2 12 g [.ref oF, .int p0] [X4W g oF (kFr oC oS oH oR oT oB) vF, X0W g oC rC vC aC] (fun x u => (X4_bestMarket_f vF vC aC p0).1 = 0 ∧ x = (X4_bestMarket_f vF vC aC p0).2 ∧ u = [X4W g oF (kFr oC oS oH oR oT oB) vF, X0W g oC rC vC aC]) (fun E u => (X4_bestMarket_f vF vC aC p0).1 ≠ 0 ∧ E = kEx (X4_bestMarket_f vF vC aC p0).1 ∧ u = [X4W g oF (kFr oC oS oH oR oT oB) vF, X0W g oC rC vC aC]) := by
  refine kX_of (cc := cX4_bestMarket) (nL := 2) (ret := (some .int)) (lv := [(0, .ref oF), (1, .int p0)]) (by decide) rfl (Nat.le_of_ble_eq_true rfl) rfl ?_
  intro p e s m args below meth c ls A htb C hP hD hE hA hS hl
  have C : kC p c cX4_bestMarket s m args meth RX4 g 2 (some .int) := C
  have hx := C.1.1
  have hb := C.1.2.1
  have hts := C.1.2.2.2.2
  refine lv_aload_n hx hb dX4_bestMarket_0 rfl (lv_at hl 0 rfl) ?_
  refine lv_iload_n hx hb dX4_bestMarket_1 rfl (lv_at hl 1 rfl) ?_
  refine kXV_V (As := [.int p0]) (rest := []) (wr := []) C (X4_checkBag_c l g oF vF oS oH oR oT oB oC rC vC aC p0 hfl) (cwV 1 hts (k_gV kw779 ca_X4_checkBag) rfl rfl rfl ⟨rfl, pnX4_checkBag⟩ ⟨Nat.le_of_ble_eq_true rfl, Nat.le_of_ble_eq_true rfl⟩) hE hS hA hP hD [0, 1] [] rfl rfl ⟨rfl, rfl, by decide⟩ (k_recv C kFX4 hP (i := 0) (q := 0) rfl rfl) rfl hl.1 rfl rfl dX4_bestMarket_2 ⟨Nat.le_of_ble_eq_true rfl, Nat.le_of_ble_eq_true rfl⟩ (fun E1 u1 H locs q1 ce1 hp1 hP hD hS hce1 hcv1 hcl1 => ?_) (fun u1 H locs hp1 hP hD hS => ?_)
  · obtain ⟨c1, hE1, hu1⟩ := hp1
    subst hu1
    subst hE1
    have hP : kp g [X4W g oF (kFr oC oS oH oR oT oB) vF, X0W g oC rC vC aC] H := hP
    have hD : kd A [X4W g oF (kFr oC oS oH oR oT oB) vF, X0W g oC rC vC aC] := hD
    have hF := (show X4_bestMarket_f vF vC aC p0 = ((X4_checkBag_f vF vC aC p0), 0) from (if_neg c1).trans (rfl))
    exact kX_out C htb hce1 hcv1 hcl1 hP hD hS ⟨by rw [hF]; exact c1, by rw [hF], rfl⟩ ⟨Nat.le_of_ble_eq_true rfl, Nat.le_of_ble_eq_true rfl⟩
  obtain ⟨c1, hu1⟩ := hp1
  subst hu1
  have hP : kp g [X4W g oF (kFr oC oS oH oR oT oB) vF, X0W g oC rC vC aC] H := hP
  have hD : kd A [X4W g oF (kFr oC oS oH oR oT oB) vF, X0W g oC rC vC aC] := hD
  have z1 := X4_cb c1 hv7 hnb
  refine lv_aload_n hx hb dX4_bestMarket_5 rfl (lv_at hl 0 rfl) ?_
  refine lv_iload_n hx hb dX4_bestMarket_6 rfl (lv_at hl 1 rfl) ?_
  refine kXV_V (As := [.int p0]) (rest := []) (wr := []) C (X4_checkFilled_c l g oF vF oS oH oR oT oB oC rC vC aC p0 (by first | assumption) hfl) (cwV 1 hts (k_gV kw1395 ca_X4_checkFilled) rfl rfl rfl ⟨rfl, pnX4_checkFilled⟩ ⟨Nat.le_of_ble_eq_true rfl, Nat.le_of_ble_eq_true rfl⟩) hE hS hA hP hD [0, 1] [] rfl rfl ⟨rfl, rfl, by decide⟩ (k_recv C kFX4 hP (i := 0) (q := 0) rfl rfl) rfl hl.1 rfl rfl dX4_bestMarket_7 ⟨Nat.le_of_ble_eq_true rfl, Nat.le_of_ble_eq_true rfl⟩ (fun E2 u2 H locs q2 ce2 hp2 hP hD hS hce2 hcv2 hcl2 => ?_) (fun u2 H locs hp2 hP hD hS => ?_)
  · obtain ⟨c2, hE2, hu2⟩ := hp2
    subst hu2
    subst hE2
    have hP : kp g [X4W g oF (kFr oC oS oH oR oT oB) vF, X0W g oC rC vC aC] H := hP
    have hD : kd A [X4W g oF (kFr oC oS oH oR oT oB) vF, X0W g oC rC vC aC] := hD
    have hF := (show X4_bestMarket_f vF vC aC p0 = ((X4_checkFilled_f vF vC aC p0), 0) from (if_pos c1).trans ((if_neg c2).trans (rfl)))
    exact kX_out C htb hce2 hcv2 hcl2 hP hD hS ⟨by rw [hF]; exact c2, by rw [hF], rfl⟩ ⟨Nat.le_of_ble_eq_true rfl, Nat.le_of_ble_eq_true rfl⟩
  obtain ⟨c2, hu2⟩ := hp2
  subst hu2
  have hP : kp g [X4W g oF (kFr oC oS oH oR oT oB) vF, X0W g oC rC vC aC] H := hP
  have hD : kd A [X4W g oF (kFr oC oS oH oR oT oB) vF, X0W g oC rC vC aC] := hD
  refine lv_aload_n hx hb dX4_bestMarket_10 rfl (lv_at hl 0 rfl) ?_
  refine kg_get (v := .ref oC) C kFX4 (k := 0) kw301 hP (i := 0) (q := 0) rfl rfl (by decide) rfl dX4_bestMarket_11 ?_
  refine lv_iload_n hx hb dX4_bestMarket_14 rfl (lv_at hl 1 rfl) ?_
  refine kR_VN (As := [.int p0]) (rest := []) C (X0_marketThatGivesMost_c l g oC rC vC aC p0 (by first | assumption) (by first | assumption)) ⟨va_cnB (host := "SpiceScale") 1 hts (k_gI ca_X0_marketThatGivesMost.2.2.2) rfl rfl rfl (C.2.1.2 _ (List.mem_of_getElem? (i := 81) rfl)) (hts _ ca_X0_marketThatGivesMost.2.2.1) pnX0_marketThatGivesMost ⟨Nat.le_of_ble_eq_true rfl, Nat.le_of_ble_eq_true rfl⟩, hts _ ca_X0_marketThatGivesMost.1, hts _ ca_X0_marketThatGivesMost.2.1⟩ hE hS (hP.pick [1] rfl) (k_recv C kFX0 hP (i := 1) (q := 0) rfl rfl) rfl hl.1 rfl rfl dX4_bestMarket_15 ⟨Nat.le_of_ble_eq_true rfl, Nat.le_of_ble_eq_true rfl⟩ ?_
  have hF := (show X4_bestMarket_f vF vC aC p0 = (0, (X0_marketThatGivesMost_f vC aC p0)) from (if_pos c1).trans ((if_pos c2).trans (rfl)))
  exact kX_ret (x := (X0_marketThatGivesMost_f vC aC p0)) C hP hD hS ⟨by rw [hF], by rw [hF], rfl⟩ ⟨Nat.le_of_ble_eq_true rfl, Nat.le_of_ble_eq_true rfl⟩ dX4_bestMarket_18

abbrev wX4_oathUntil : List Cond := Cond.code yX4_oathUntil cX4_oathUntil 2 (some .int) :: kW
def X4_oathUntil_f (vF : Nat → Int32) (vC : Nat → Int32) (aC : Nat → Nat → Int32) (p0 : Int32) : Nat × Int32 :=
  if (X4_checkMarket_f p0) = 0 then (if (X0_isOathInForce_f vC aC p0) = true then (0, ((aC 14) p0.toNatClampNeg))
    else (4, 0))
  else ((X4_checkMarket_f p0), 0)
set_option maxHeartbeats 4000000 in
set_option maxRecDepth 100000 in
theorem X4_oathUntil_c (l : Launch) (g : kG) (oF : Nat) (vF : Nat → Int32) (oS oH oR oT oB : Nat) (oC : Nat) (rC : Nat → Nat) (vC : Nat → Int32) (aC : Nat → Nat → Int32) (p0 : Int32) (hfl : l.stackTraces = false) : kX l yX4_oathUntil wX4_oathUntil 7 102 2 12 g [.ref oF, .int p0] [X4W g oF (kFr oC oS oH oR oT oB) vF, X0W g oC rC vC aC] (fun x u => (X4_oathUntil_f vF vC aC p0).1 = 0 ∧ x = (X4_oathUntil_f vF vC aC p0).2 ∧ u = [X4W g oF (kFr oC oS oH oR oT oB) vF, X0W g oC rC vC aC]) (fun E u => (X4_oathUntil_f vF vC aC p0).1 ≠ 0 ∧ E = kEx (X4_oathUntil_f vF vC aC p0).1 ∧ u = [X4W g oF (kFr oC oS oH oR oT oB) vF, X0W g oC rC vC aC]) := by
  refine kX_of (cc := cX4_oathUntil) (nL := 2) (ret := (some .int)) (lv := [(0, .ref oF), (1, .int p0)]) (by decide) rfl (Nat.le_of_ble_eq_true rfl) rfl ?_
  intro p e s m args below meth c ls A htb C hP hD hE hA hS hl
  have C : kC p c cX4_oathUntil s m args meth RX4 g 2 (some .int) := C
  have hx := C.1.1
  have hb := C.1.2.1
  have hts := C.1.2.2.2.2
  refine lv_iload_n hx hb dX4_oathUntil_0 rfl (lv_at hl 1 rfl) ?_
  refine kXV_S (As := [.int p0]) (rest := []) (wr := [X4W g oF (kFr oC oS oH oR oT oB) vF, X0W g oC rC vC aC]) C (X4_checkMarket_c l g p0 hfl) (va_cwS 1 hts (k_gS kw825 cs_X4_checkMarket) rfl rfl rfl pnX4_checkMarket ⟨Nat.le_of_ble_eq_true rfl, Nat.le_of_ble_eq_true rfl⟩) hE hS hA hP hD [] [0, 1] rfl rfl ⟨rfl, rfl, by decide⟩ rfl hl.1 rfl rfl dX4_oathUntil_1 ⟨Nat.le_of_ble_eq_true rfl, Nat.le_of_ble_eq_true rfl⟩ (fun E1 u1 H locs q1 ce1 hp1 hP hD hS hce1 hcv1 hcl1 => ?_) (fun u1 H locs hp1 hP hD hS => ?_)
  · obtain ⟨c1, hE1, hu1⟩ := hp1
    subst hu1
    subst hE1
    have hP : kp g [X4W g oF (kFr oC oS oH oR oT oB) vF, X0W g oC rC vC aC] H := hP
    have hD : kd A [X4W g oF (kFr oC oS oH oR oT oB) vF, X0W g oC rC vC aC] := hD
    have hF := (show X4_oathUntil_f vF vC aC p0 = ((X4_checkMarket_f p0), 0) from (if_neg c1).trans (rfl))
    exact kX_out C htb hce1 hcv1 hcl1 hP hD hS ⟨by rw [hF]; exact c1, by rw [hF], rfl⟩ ⟨Nat.le_of_ble_eq_true rfl, Nat.le_of_ble_eq_true rfl⟩
  obtain ⟨c1, hu1⟩ := hp1
  subst hu1
  have hP : kp g [X4W g oF (kFr oC oS oH oR oT oB) vF, X0W g oC rC vC aC] H := hP
  have hD : kd A [X4W g oF (kFr oC oS oH oR oT oB) vF, X0W g oC rC vC aC] := hD
  have z3 := X4_cm c1
  refine lv_aload_n hx hb dX4_oathUntil_4 rfl (lv_at hl 0 rfl) ?_
  refine kg_get (v := .ref oC) C kFX4 (k := 0) kw301 hP (i := 0) (q := 0) rfl rfl (by decide) rfl dX4_oathUntil_5 ?_
  refine lv_iload_n hx hb dX4_oathUntil_8 rfl (lv_at hl 1 rfl) ?_
  refine kR_VN (As := [.int p0]) (rest := []) C (X0_isOathInForce_c l g oC rC vC aC p0 (by first | assumption)) ⟨va_cnB (host := "SpiceScale") 1 hts (k_gI ca_X0_isOathInForce.2.2.2) rfl rfl rfl (C.2.1.2 _ (List.mem_of_getElem? (i := 83) rfl)) (hts _ ca_X0_isOathInForce.2.2.1) pnX0_isOathInForce ⟨Nat.le_of_ble_eq_true rfl, Nat.le_of_ble_eq_true rfl⟩, hts _ ca_X0_isOathInForce.1, hts _ ca_X0_isOathInForce.2.1⟩ hE hS (hP.pick [1] rfl) (k_recv C kFX0 hP (i := 1) (q := 0) rfl rfl) rfl hl.1 rfl rfl dX4_oathUntil_9 ⟨Nat.le_of_ble_eq_true rfl, Nat.le_of_ble_eq_true rfl⟩ ?_
  refine lv_if_ne (tgt := 25) hx hb dX4_oathUntil_12 (by decide) (fun c2 => ?_) (fun c2 => ?_)
  · have c2 := b2i_ne0 c2
    refine lv_aload_n hx hb dX4_oathUntil_25 rfl (lv_at hl 0 rfl) ?_
    refine kg_get (v := .ref oC) C kFX4 (k := 0) kw301 hP (i := 0) (q := 0) rfl rfl (by decide) rfl dX4_oathUntil_26 ?_
    refine kg_getN C kFX0 (k := 14) (List.mem_of_getElem? (i := 25) rfl) hP (i := 1) (q := 0) rfl rfl (by decide) rfl dX4_oathUntil_29 ?_
    refine lv_iload_n hx hb dX4_oathUntil_32 rfl (lv_at hl 1 rfl) ?_
    refine kg_iald C hP (i := 1) (q := 9) rfl rfl (by first | assumption) dX4_oathUntil_33 ?_
    have hF := (show X4_oathUntil_f vF vC aC p0 = (0, ((aC 14) p0.toNatClampNeg)) from (if_pos c1).trans ((if_pos c2).trans (rfl)))
    exact kX_ret (x := ((aC 14) p0.toNatClampNeg)) C hP hD hS ⟨by rw [hF], by rw [hF], rfl⟩ ⟨Nat.le_of_ble_eq_true rfl, Nat.le_of_ble_eq_true rfl⟩ dX4_oathUntil_34
  have c2 := b2i_eq0 c2
  have hF := (show X4_oathUntil_f vF vC aC p0 = (4, 0) from (if_pos c1).trans ((if_neg c2).trans (rfl)))
  exact kX_throwSN (Y1 := "java/lang/RuntimeException") (names := ["java/lang/Exception"]) (b := 13) C hfl htb (by decide) (by decide) (by decide) (by decide +kernel) (by decide +kernel) (by decide +kernel) (by decide +kernel) kw1006 kw88 (List.mem_of_getElem? (i := 26) rfl) kx_at_NoSuchElementException hE hS hl.1 hP hD ⟨by rw [hF]; exact (by decide : (4 : Nat) ≠ 0), by rw [hF]; rfl, rfl⟩ dX4_oathUntil_15 dX4_oathUntil_18 dX4_oathUntil_19 dX4_oathUntil_21 dX4_oathUntil_24 (by decide) (Nat.le_of_ble_eq_true rfl) ⟨Nat.le_of_ble_eq_true rfl, Nat.le_of_ble_eq_true rfl⟩ ⟨Nat.le_of_ble_eq_true rfl, Nat.le_of_ble_eq_true rfl⟩

abbrev wX4_isNoticed : List Cond := Cond.code yX4_isNoticed cX4_isNoticed 2 (some .boolean) :: kW
def X4_isNoticed_f (vF : Nat → Int32) (vC : Nat → Int32) (aC : Nat → Nat → Int32) (p0 : Int32) : Nat × Bool :=
  if (X4_checkMarket_f p0) = 0 then (if (vC 3) ≤ (k_tab 1 p0.toNatClampNeg) then (0, false)
    else (0, true))
  else ((X4_checkMarket_f p0), false)
set_option maxHeartbeats 4000000 in
set_option maxRecDepth 100000 in
theorem X4_isNoticed_c (l : Launch) (g : kG) (oF : Nat) (vF : Nat → Int32) (oS oH oR oT oB : Nat) (oC : Nat) (rC : Nat → Nat) (vC : Nat → Int32) (aC : Nat → Nat → Int32) (p0 : Int32) (hfl : l.stackTraces = false) : kX l yX4_isNoticed wX4_isNoticed 7 102 1 6 g [.ref oF, .int p0] [X4W g oF (kFr oC oS oH oR oT oB) vF, X0W g oC rC vC aC] (fun x u => (X4_isNoticed_f vF vC aC p0).1 = 0 ∧ x = b2i (X4_isNoticed_f vF vC aC p0).2 ∧ u = [X4W g oF (kFr oC oS oH oR oT oB) vF, X0W g oC rC vC aC]) (fun E u => (X4_isNoticed_f vF vC aC p0).1 ≠ 0 ∧ E = kEx (X4_isNoticed_f vF vC aC p0).1 ∧ u = [X4W g oF (kFr oC oS oH oR oT oB) vF, X0W g oC rC vC aC]) := by
  refine kX_of (cc := cX4_isNoticed) (nL := 2) (ret := (some .boolean)) (lv := [(0, .ref oF), (1, .int p0)]) (by decide) rfl (Nat.le_of_ble_eq_true rfl) rfl ?_
  intro p e s m args below meth c ls A htb C hP hD hE hA hS hl
  have C : kC p c cX4_isNoticed s m args meth RX4 g 2 (some .boolean) := C
  have hx := C.1.1
  have hb := C.1.2.1
  have hts := C.1.2.2.2.2
  refine lv_iload_n hx hb dX4_isNoticed_0 rfl (lv_at hl 1 rfl) ?_
  refine kXV_S (As := [.int p0]) (rest := []) (wr := [X4W g oF (kFr oC oS oH oR oT oB) vF, X0W g oC rC vC aC]) C (X4_checkMarket_c l g p0 hfl) (va_cwS 1 hts (k_gS kw825 cs_X4_checkMarket) rfl rfl rfl pnX4_checkMarket ⟨Nat.le_of_ble_eq_true rfl, Nat.le_of_ble_eq_true rfl⟩) hE hS hA hP hD [] [0, 1] rfl rfl ⟨rfl, rfl, by decide⟩ rfl hl.1 rfl rfl dX4_isNoticed_1 ⟨Nat.le_of_ble_eq_true rfl, Nat.le_of_ble_eq_true rfl⟩ (fun E1 u1 H locs q1 ce1 hp1 hP hD hS hce1 hcv1 hcl1 => ?_) (fun u1 H locs hp1 hP hD hS => ?_)
  · obtain ⟨c1, hE1, hu1⟩ := hp1
    subst hu1
    subst hE1
    have hP : kp g [X4W g oF (kFr oC oS oH oR oT oB) vF, X0W g oC rC vC aC] H := hP
    have hD : kd A [X4W g oF (kFr oC oS oH oR oT oB) vF, X0W g oC rC vC aC] := hD
    have hF := (show X4_isNoticed_f vF vC aC p0 = ((X4_checkMarket_f p0), false) from (if_neg c1).trans (rfl))
    exact kX_out C htb hce1 hcv1 hcl1 hP hD hS ⟨by rw [hF]; exact c1, by rw [hF], rfl⟩ ⟨Nat.le_of_ble_eq_true rfl, Nat.le_of_ble_eq_true rfl⟩
  obtain ⟨c1, hu1⟩ := hp1
  subst hu1
  have hP : kp g [X4W g oF (kFr oC oS oH oR oT oB) vF, X0W g oC rC vC aC] H := hP
  have hD : kd A [X4W g oF (kFr oC oS oH oR oT oB) vF, X0W g oC rC vC aC] := hD
  have z3 := X4_cm c1
  refine lv_aload_n hx hb dX4_isNoticed_4 rfl (lv_at hl 0 rfl) ?_
  refine kg_get (v := .ref oC) C kFX4 (k := 0) kw301 hP (i := 0) (q := 0) rfl rfl (by decide) rfl dX4_isNoticed_5 ?_
  refine kg_getN C kFX0 (k := 3) (List.mem_of_getElem? (i := 7) rfl) hP (i := 1) (q := 0) rfl rfl (by decide) rfl dX4_isNoticed_8 ?_
  refine kg_tab C 1 (by decide) hE hS kw840 dX4_isNoticed_11 ?_
  refine lv_iload_n hx hb dX4_isNoticed_14 rfl (lv_at hl 1 rfl) ?_
  refine kg_tald C 1 (by decide) hE hS (by first | assumption) dX4_isNoticed_15 ?_
  refine lv_icmp_le (tgt := 23) hx hb dX4_isNoticed_16 (by decide) (fun c2 => ?_) (fun c2 => ?_)
  · refine lv_iconst (v := 0) hx hb dX4_isNoticed_23 (by decide) ?_
    have hF := (show X4_isNoticed_f vF vC aC p0 = (0, false) from (if_pos c1).trans ((if_pos c2).trans (rfl)))
    exact kX_zret (x := b2i false) C (b2i_nar _) hP hD hS ⟨by rw [hF], by rw [hF], rfl⟩ ⟨Nat.le_of_ble_eq_true rfl, Nat.le_of_ble_eq_true rfl⟩ dX4_isNoticed_24
  refine lv_iconst (v := 1) hx hb dX4_isNoticed_19 (by decide) ?_
  refine lv_goto (tgt := 24) hx hb dX4_isNoticed_20 (by decide) ?_
  have hF := (show X4_isNoticed_f vF vC aC p0 = (0, true) from (if_pos c1).trans ((if_neg c2).trans (rfl)))
  exact kX_zret (x := b2i true) C (b2i_nar _) hP hD hS ⟨by rw [hF], by rw [hF], rfl⟩ ⟨Nat.le_of_ble_eq_true rfl, Nat.le_of_ble_eq_true rfl⟩ dX4_isNoticed_24

theorem pnX0_bagOfRank : yX0_bagOfRank.cls ≠ "java/lang/invoke/MethodHandle" ∧ yX0_bagOfRank.cls ≠ "java/lang/invoke/VarHandle" ∧ (parseMethodDescriptor yX0_bagOfRank.desc).map (fun d => d.parameters.length) = some 1 := by decide +kernel
theorem ca_X0_bagOfRank : kCal yX0_bagOfRank (Cond.code yX0_bagOfRank cX0_bagOfRank 5 (some .int)) := ⟨k_w 7 155 rfl rfl, k_w 1 60 rfl rfl, k_w 2 2 rfl rfl, k_w 7 156 rfl rfl⟩

abbrev wX4_ranked : List Cond := Cond.code yX4_ranked cX4_ranked 3 (some .int) :: kW
def X4_ranked_f (vF : Nat → Int32) (vC : Nat → Int32) (aC : Nat → Nat → Int32) (p0 : Int32) : Nat × Int32 :=
  if 0 ≤ (X0_bagOfRank_f vC aC p0) then (0, (X0_bagOfRank_f vC aC p0))
  else (4, 0)
set_option maxHeartbeats 4000000 in
set_option maxRecDepth 100000 in
theorem X4_ranked_c (l : Launch) (g : kG) (oF : Nat) (vF : Nat → Int32) (oS oH oR oT oB : Nat) (oC : Nat) (rC : Nat → Nat) (vC : Nat → Int32) (aC : Nat → Nat → Int32) (p0 : Int32) (nb : Nat) (hnb : nb ≤ 6) (hv7 : vC 7 = nI nb) (hfl : l.stackTraces = false) : kX l yX4_ranked wX4_ranked 6 82 1 6 g [.ref oF, .int p0] [X4W g oF (kFr oC oS oH oR oT oB) vF, X0W g oC rC vC aC] (fun x u => (X4_ranked_f vF vC aC p0).1 = 0 ∧ x = (X4_ranked_f vF vC aC p0).2 ∧ u = [X4W g oF (kFr oC oS oH oR oT oB) vF, X0W g oC rC vC aC]) (fun E u => (X4_ranked_f vF vC aC p0).1 ≠ 0 ∧ E = kEx (X4_ranked_f vF vC aC p0).1 ∧ u = [X4W g oF (kFr oC oS oH oR oT oB) vF, X0W g oC rC vC aC]) := by
  refine kX_of (cc := cX4_ranked) (nL := 3) (ret := (some .int)) (lv := [(0, .ref oF), (1, .int p0)]) (by decide) rfl (Nat.le_of_ble_eq_true rfl) rfl ?_
  intro p e s m args below meth c ls A htb C hP hD hE hA hS hl
  have C : kC p c cX4_ranked s m args meth RX4 g 3 (some .int) := C
  have hx := C.1.1
  have hb := C.1.2.1
  have hts := C.1.2.2.2.2
  refine lv_aload_n hx hb dX4_ranked_0 rfl (lv_at hl 0 rfl) ?_
  refine kg_get (v := .ref oC) C kFX4 (k := 0) kw301 hP (i := 0) (q := 0) rfl rfl (by decide) rfl dX4_ranked_1 ?_
  refine lv_iload_n hx hb dX4_ranked_4 rfl (lv_at hl 1 rfl) ?_
  refine kR_VN (As := [.int p0]) (rest := []) C (X0_bagOfRank_c l g oC rC vC aC p0 nb (by first | assumption) (by first | assumption)) ⟨va_cnB (host := "SpiceScale") 1 hts (k_gI ca_X0_bagOfRank.2.2.2) rfl rfl rfl (C.2.1.2 _ (List.mem_of_getElem? (i := 82) rfl)) (hts _ ca_X0_bagOfRank.2.2.1) pnX0_bagOfRank ⟨Nat.le_of_ble_eq_true rfl, Nat.le_of_ble_eq_true rfl⟩, hts _ ca_X0_bagOfRank.1, hts _ ca_X0_bagOfRank.2.1⟩ hE hS (hP.pick [1] rfl) (k_recv C kFX0 hP (i := 1) (q := 0) rfl rfl) rfl hl.1 rfl rfl dX4_ranked_5 ⟨Nat.le_of_ble_eq_true rfl, Nat.le_of_ble_eq_true rfl⟩ ?_
  refine lv_istore_n (lv' := [(2, .int (X0_bagOfRank_f vC aC p0)), (0, .ref oF), (1, .int p0)]) hx hb dX4_ranked_8 rfl hl (by decide) rfl (fun ls hl => ?_)
  refine lv_iload_n hx hb dX4_ranked_9 rfl (lv_at hl 0 rfl) ?_
  refine lv_if_ge (tgt := 23) hx hb dX4_ranked_10 (by decide) (fun c1 => ?_) (fun c1 => ?_)
  · refine lv_iload_n hx hb dX4_ranked_23 rfl (lv_at hl 0 rfl) ?_
    have hF := (show X4_ranked_f vF vC aC p0 = (0, (X0_bagOfRank_f vC aC p0)) from (if_pos c1).trans (rfl))
    exact kX_ret (x := (X0_bagOfRank_f vC aC p0)) C hP hD hS ⟨by rw [hF], by rw [hF], rfl⟩ ⟨Nat.le_of_ble_eq_true rfl, Nat.le_of_ble_eq_true rfl⟩ dX4_ranked_24
  have hF := (show X4_ranked_f vF vC aC p0 = (4, 0) from (if_neg c1).trans (rfl))
  exact kX_throwSN (Y1 := "java/lang/RuntimeException") (names := ["java/lang/Exception"]) (b := 13) C hfl htb (by decide) (by decide) (by decide) (by decide +kernel) (by decide +kernel) (by decide +kernel) (by decide +kernel) kw1006 kw88 (List.mem_of_getElem? (i := 25) rfl) kx_at_NoSuchElementException hE hS hl.1 hP hD ⟨by rw [hF]; exact (by decide : (4 : Nat) ≠ 0), by rw [hF]; rfl, rfl⟩ dX4_ranked_13 dX4_ranked_16 dX4_ranked_17 dX4_ranked_19 dX4_ranked_22 (by decide) (Nat.le_of_ble_eq_true rfl) ⟨Nat.le_of_ble_eq_true rfl, Nat.le_of_ble_eq_true rfl⟩ ⟨Nat.le_of_ble_eq_true rfl, Nat.le_of_ble_eq_true rfl⟩

abbrev wX4_reason : List Cond := Cond.code yX4_reason cX4_reason 2 (some .int) :: kW
def X4_reason_f (vF : Nat → Int32) (vR : Nat → Int32) (aR : Nat → Nat → Int32) (p0 : Int32) : Nat × Int32 :=
  if p0 < 0 then (3, 0)
  else if p0 ≤ 2 then (if (vR 0) = 0 then (4, 0)
    else if p0 = 0 then (0, (vR 0))
    else if p0 = 1 then (0, (vR 1))
    else (0, (vR 2)))
  else (3, 0)
set_option maxHeartbeats 4000000 in
set_option maxRecDepth 100000 in
theorem X4_reason_c (l : Launch) (g : kG) (oF : Nat) (vF : Nat → Int32) (oC oS oH oT oB : Nat) (oR : Nat) (rR : Nat → Nat) (vR : Nat → Int32) (aR : Nat → Nat → Int32) (p0 : Int32) (hfl : l.stackTraces = false) : kX l yX4_reason wX4_reason 6 82 1 6 g [.ref oF, .int p0] [X4W g oF (kFr oC oS oH oR oT oB) vF, X3W g oR rR vR aR] (fun x u => (X4_reason_f vF vR aR p0).1 = 0 ∧ x = (X4_reason_f vF vR aR p0).2 ∧ u = [X4W g oF (kFr oC oS oH oR oT oB) vF, X3W g oR rR vR aR]) (fun E u => (X4_reason_f vF vR aR p0).1 ≠ 0 ∧ E = kEx (X4_reason_f vF vR aR p0).1 ∧ u = [X4W g oF (kFr oC oS oH oR oT oB) vF, X3W g oR rR vR aR]) := by
  refine kX_of (cc := cX4_reason) (nL := 2) (ret := (some .int)) (lv := [(0, .ref oF), (1, .int p0)]) (by decide) rfl (Nat.le_of_ble_eq_true rfl) rfl ?_
  intro p e s m args below meth c ls A htb C hP hD hE hA hS hl
  have C : kC p c cX4_reason s m args meth RX4 g 2 (some .int) := C
  have hx := C.1.1
  have hb := C.1.2.1
  have hts := C.1.2.2.2.2
  refine lv_iload_n hx hb dX4_reason_0 rfl (lv_at hl 1 rfl) ?_
  refine lv_if_lt (tgt := 9) hx hb dX4_reason_1 (by decide) (fun c1 => ?_) (fun c1 => ?_)
  · have hF := (show X4_reason_f vF vR aR p0 = (3, 0) from (if_pos c1).trans (rfl))
    exact kX_throwS (names := ["java/lang/RuntimeException", "java/lang/Exception"]) C hfl htb (by decide) (by decide) kw756 kw85 (List.mem_of_getElem? (i := 17) rfl) kx_at_IllegalArgumentException hE hS hl.1 hP hD ⟨by rw [hF]; exact (by decide : (3 : Nat) ≠ 0), by rw [hF]; rfl, rfl⟩ dX4_reason_9 dX4_reason_12 dX4_reason_13 dX4_reason_15 dX4_reason_18 (by decide) (Nat.le_of_ble_eq_true rfl) ⟨Nat.le_of_ble_eq_true rfl, Nat.le_of_ble_eq_true rfl⟩ ⟨Nat.le_of_ble_eq_true rfl, Nat.le_of_ble_eq_true rfl⟩
  refine lv_iload_n hx hb dX4_reason_4 rfl (lv_at hl 1 rfl) ?_
  refine lv_iconst (v := 2) hx hb dX4_reason_5 (by decide) ?_
  refine lv_icmp_le (tgt := 19) hx hb dX4_reason_6 (by decide) (fun c2 => ?_) (fun c2 => ?_)
  · refine lv_aload_n hx hb dX4_reason_19 rfl (lv_at hl 0 rfl) ?_
    refine kg_get (v := .ref oR) C kFX4 (k := 4) kw305 hP (i := 0) (q := 0) rfl rfl (by decide) rfl dX4_reason_20 ?_
    refine kg_getN C kFX3 (k := 0) (List.mem_of_getElem? (i := 34) rfl) hP (i := 1) (q := 0) rfl rfl (by decide) rfl dX4_reason_23 ?_
    refine lv_if_ne (tgt := 39) hx hb dX4_reason_26 (by decide) (fun c3 => ?_) (fun c3 => ?_)
    · refine lv_iload_n hx hb dX4_reason_39 rfl (lv_at hl 1 rfl) ?_
      refine lv_if_ne (tgt := 51) hx hb dX4_reason_40 (by decide) (fun c4 => ?_) (fun c4 => ?_)
      · refine lv_iload_n hx hb dX4_reason_51 rfl (lv_at hl 1 rfl) ?_
        refine lv_iconst (v := 1) hx hb dX4_reason_52 (by decide) ?_
        refine lv_icmp_ne (tgt := 66) hx hb dX4_reason_53 (by decide) (fun c5 => ?_) (fun c5 => ?_)
        · refine lv_aload_n hx hb dX4_reason_66 rfl (lv_at hl 0 rfl) ?_
          refine kg_get (v := .ref oR) C kFX4 (k := 4) kw305 hP (i := 0) (q := 0) rfl rfl (by decide) rfl dX4_reason_67 ?_
          refine kg_getN C kFX3 (k := 2) (List.mem_of_getElem? (i := 36) rfl) hP (i := 1) (q := 0) rfl rfl (by decide) rfl dX4_reason_70 ?_
          have hF := (show X4_reason_f vF vR aR p0 = (0, (vR 2)) from (if_neg c1).trans ((if_pos c2).trans ((if_neg c3).trans ((if_neg c4).trans ((if_neg c5).trans (rfl))))))
          exact kX_ret (x := (vR 2)) C hP hD hS ⟨by rw [hF], by rw [hF], rfl⟩ ⟨Nat.le_of_ble_eq_true rfl, Nat.le_of_ble_eq_true rfl⟩ dX4_reason_73
        refine lv_aload_n hx hb dX4_reason_56 rfl (lv_at hl 0 rfl) ?_
        refine kg_get (v := .ref oR) C kFX4 (k := 4) kw305 hP (i := 0) (q := 0) rfl rfl (by decide) rfl dX4_reason_57 ?_
        refine kg_getN C kFX3 (k := 1) (List.mem_of_getElem? (i := 35) rfl) hP (i := 1) (q := 0) rfl rfl (by decide) rfl dX4_reason_60 ?_
        refine lv_goto (tgt := 73) hx hb dX4_reason_63 (by decide) ?_
        have hF := (show X4_reason_f vF vR aR p0 = (0, (vR 1)) from (if_neg c1).trans ((if_pos c2).trans ((if_neg c3).trans ((if_neg c4).trans ((if_pos c5).trans (rfl))))))
        exact kX_ret (x := (vR 1)) C hP hD hS ⟨by rw [hF], by rw [hF], rfl⟩ ⟨Nat.le_of_ble_eq_true rfl, Nat.le_of_ble_eq_true rfl⟩ dX4_reason_73
      refine lv_aload_n hx hb dX4_reason_43 rfl (lv_at hl 0 rfl) ?_
      refine kg_get (v := .ref oR) C kFX4 (k := 4) kw305 hP (i := 0) (q := 0) rfl rfl (by decide) rfl dX4_reason_44 ?_
      refine kg_getN C kFX3 (k := 0) (List.mem_of_getElem? (i := 34) rfl) hP (i := 1) (q := 0) rfl rfl (by decide) rfl dX4_reason_47 ?_
      have hF := (show X4_reason_f vF vR aR p0 = (0, (vR 0)) from (if_neg c1).trans ((if_pos c2).trans ((if_neg c3).trans ((if_pos c4).trans (rfl)))))
      exact kX_ret (x := (vR 0)) C hP hD hS ⟨by rw [hF], by rw [hF], rfl⟩ ⟨Nat.le_of_ble_eq_true rfl, Nat.le_of_ble_eq_true rfl⟩ dX4_reason_50
    have hF := (show X4_reason_f vF vR aR p0 = (4, 0) from (if_neg c1).trans ((if_pos c2).trans ((if_pos c3).trans (rfl))))
    exact kX_throwSN (Y1 := "java/lang/RuntimeException") (names := ["java/lang/Exception"]) (b := 13) C hfl htb (by decide) (by decide) (by decide) (by decide +kernel) (by decide +kernel) (by decide +kernel) (by decide +kernel) kw1006 kw88 (List.mem_of_getElem? (i := 18) rfl) kx_at_NoSuchElementException hE hS hl.1 hP hD ⟨by rw [hF]; exact (by decide : (4 : Nat) ≠ 0), by rw [hF]; rfl, rfl⟩ dX4_reason_29 dX4_reason_32 dX4_reason_33 dX4_reason_35 dX4_reason_38 (by decide) (Nat.le_of_ble_eq_true rfl) ⟨Nat.le_of_ble_eq_true rfl, Nat.le_of_ble_eq_true rfl⟩ ⟨Nat.le_of_ble_eq_true rfl, Nat.le_of_ble_eq_true rfl⟩
  have hF := (show X4_reason_f vF vR aR p0 = (3, 0) from (if_neg c1).trans ((if_neg c2).trans (rfl)))
  exact kX_throwS (names := ["java/lang/RuntimeException", "java/lang/Exception"]) C hfl htb (by decide) (by decide) kw756 kw85 (List.mem_of_getElem? (i := 17) rfl) kx_at_IllegalArgumentException hE hS hl.1 hP hD ⟨by rw [hF]; exact (by decide : (3 : Nat) ≠ 0), by rw [hF]; rfl, rfl⟩ dX4_reason_9 dX4_reason_12 dX4_reason_13 dX4_reason_15 dX4_reason_18 (by decide) (Nat.le_of_ble_eq_true rfl) ⟨Nat.le_of_ble_eq_true rfl, Nat.le_of_ble_eq_true rfl⟩ ⟨Nat.le_of_ble_eq_true rfl, Nat.le_of_ble_eq_true rfl⟩

abbrev wX4_faultPosition : List Cond := Cond.code yX4_faultPosition cX4_faultPosition 1 (some .int) :: kW
def X4_faultPosition_f (vF : Nat → Int32) : Int32 :=
  (vF 6)
set_option maxHeartbeats 4000000 in
set_option maxRecDepth 100000 in
theorem X4_faultPosition_c (l : Launch) (g : kG) (oF : Nat) (vF : Nat → Int32) (oC oS oH oR oT oB : Nat) : kR l yX4_faultPosition wX4_faultPosition 0 0 g [.ref oF] [X4W g oF (kFr oC oS oH oR oT oB) vF] ((X4_faultPosition_f vF)) := by
  refine kR_of (cc := cX4_faultPosition) (nL := 1) (ret := (some .int)) (lv := [(0, .ref oF)]) (by decide) rfl (Nat.le_of_ble_eq_true rfl) rfl ?_
  intro p e s m args below meth c ls C hP hE hl
  have hS : va_S (fun _ => False) s.heap s.heap [] := va_S.rf
  have C : kC p c cX4_faultPosition s m args meth RX4 g 1 (some .int) := C
  have hx := C.1.1
  have hb := C.1.2.1
  have hts := C.1.2.2.2.2
  refine lv_aload_n hx hb dX4_faultPosition_0 rfl (lv_at hl 0 rfl) ?_
  refine kg_get C kFX4 (k := 6) kw307 hP (i := 0) (q := 0) rfl rfl (by decide) rfl dX4_faultPosition_1 ?_
  exact kR_ret C ((show X4_faultPosition_f vF = (vF 6) from rfl)).symm dX4_faultPosition_4

abbrev wX4_append : List Cond := Cond.code yX4_append cX4_append 2 (some .int) :: kW
def X4_append_f (vF : Nat → Int32) (vT : Nat → Int32) (aT : Nat → Nat → Int32) (p0 : Int32) : Nat × Int32 × (Nat → Int32) × (Nat → Nat → Int32) :=
  if (vT 1) < 60 then (0, ((vT 1) + 1), upd vT 1 ((vT 1) + 1), va_up aT 0 (upd (aT 0) ((vT 1).toNatClampNeg) (vp_nar .char p0)))
  else (5, 0, vT, aT)
set_option maxHeartbeats 4000000 in
set_option maxRecDepth 100000 in
theorem X4_append_c (l : Launch) (g : kG) (oF : Nat) (vF : Nat → Int32) (oC oS oH oR oB : Nat) (oT : Nat) (rT : Nat → Nat) (vT : Nat → Int32) (aT : Nat → Nat → Int32) (p0 : Int32) (hL1 : (∃ n : Nat, n ≤ 60 ∧ vT 1 = nI n)) (hfl : l.stackTraces = false) : kX l yX4_append wX4_append 6 82 1 6 g [.ref oF, .int p0] [X4W g oF (kFr oC oS oH oR oT oB) vF, X1W g oT rT vT aT] (fun x u => (X4_append_f vF vT aT p0).1 = 0 ∧ x = (X4_append_f vF vT aT p0).2.1 ∧ u = [X4W g oF (kFr oC oS oH oR oT oB) vF, X1W g oT rT ((X4_append_f vF vT aT p0).2.2.1) ((X4_append_f vF vT aT p0).2.2.2)]) (fun E u => (X4_append_f vF vT aT p0).1 ≠ 0 ∧ E = kEx (X4_append_f vF vT aT p0).1 ∧ u = [X4W g oF (kFr oC oS oH oR oT oB) vF, X1W g oT rT ((X4_append_f vF vT aT p0).2.2.1) ((X4_append_f vF vT aT p0).2.2.2)]) := by
  refine kX_of (cc := cX4_append) (nL := 2) (ret := (some .int)) (lv := [(0, .ref oF), (1, .int p0)]) (by decide) rfl (Nat.le_of_ble_eq_true rfl) rfl ?_
  intro p e s m args below meth c ls A htb C hP hD hE hA hS hl
  have C : kC p c cX4_append s m args meth RX4 g 2 (some .int) := C
  have hx := C.1.1
  have hb := C.1.2.1
  have hts := C.1.2.2.2.2
  refine lv_aload_n hx hb dX4_append_0 rfl (lv_at hl 0 rfl) ?_
  refine kg_get (v := .ref oT) C kFX4 (k := 5) kw306 hP (i := 0) (q := 0) rfl rfl (by decide) rfl dX4_append_1 ?_
  refine kg_getN C kFX1 (k := 1) (List.mem_of_getElem? (i := 39) rfl) hP (i := 1) (q := 0) rfl rfl (by decide) rfl dX4_append_4 ?_
  refine lv_bipush (v := 60) hx hb dX4_append_7 (by decide) ?_
  refine lv_icmp_lt (tgt := 22) hx hb dX4_append_9 (by decide) (fun c1 => ?_) (fun c1 => ?_)
  · have z1 := k_ap60 hL1 c1
    refine lv_aload_n hx hb dX4_append_22 rfl (lv_at hl 0 rfl) ?_
    refine kg_get (v := .ref oT) C kFX4 (k := 5) kw306 hP (i := 0) (q := 0) rfl rfl (by decide) rfl dX4_append_23 ?_
    refine kg_getN C kFX1 (k := 0) (List.mem_of_getElem? (i := 38) rfl) hP (i := 1) (q := 0) rfl rfl (by decide) rfl dX4_append_26 ?_
    refine lv_aload_n hx hb dX4_append_29 rfl (lv_at hl 0 rfl) ?_
    refine kg_get (v := .ref oT) C kFX4 (k := 5) kw306 hP (i := 0) (q := 0) rfl rfl (by decide) rfl dX4_append_30 ?_
    refine kg_getN C kFX1 (k := 1) (List.mem_of_getElem? (i := 39) rfl) hP (i := 1) (q := 0) rfl rfl (by decide) rfl dX4_append_33 ?_
    refine lv_iload_n hx hb dX4_append_36 rfl (lv_at hl 1 rfl) ?_
    refine kg_cast C hP hD hS (i := 1) (q := 1) rfl rfl (by first | assumption) X1t_0 rfl dX4_append_37 (fun H locs hP hD hS => ?_)
    have hP : kp g [X4W g oF (kFr oC oS oH oR oT oB) vF, X1W g oT rT vT (va_up aT 0 (upd (aT 0) ((vT 1).toNatClampNeg) (vp_nar .char p0)))] H := hP
    have hD : kd A [X4W g oF (kFr oC oS oH oR oT oB) vF, X1W g oT rT vT (va_up aT 0 (upd (aT 0) ((vT 1).toNatClampNeg) (vp_nar .char p0)))] := hD
    refine lv_aload_n hx hb dX4_append_38 rfl (lv_at hl 0 rfl) ?_
    refine kg_get (v := .ref oT) C kFX4 (k := 5) kw306 hP (i := 0) (q := 0) rfl rfl (by decide) rfl dX4_append_39 ?_
    refine lv_dup hx hb dX4_append_42 rfl ?_
    refine kg_getN C kFX1 (k := 1) (List.mem_of_getElem? (i := 39) rfl) hP (i := 1) (q := 0) rfl rfl (by decide) rfl dX4_append_43 ?_
    refine lv_iconst (v := 1) hx hb dX4_append_46 (by decide) ?_
    refine lv_iadd hx hb dX4_append_47 ?_
    refine kg_putN C kFX1 (k := 1) (List.mem_of_getElem? (i := 39) rfl) hP hD hS (i := 1) (q := 0) rfl rfl (by decide) rfl rfl rfl (Nat.le_of_ble_eq_true rfl) X1s_1 rfl dX4_append_48 (fun H locs hP hD hS => ?_)
    have hP : kp g [X4W g oF (kFr oC oS oH oR oT oB) vF, X1W g oT rT (upd vT 1 ((vT 1) + 1)) (va_up aT 0 (upd (aT 0) ((vT 1).toNatClampNeg) (vp_nar .char p0)))] H := hP
    have hD : kd A [X4W g oF (kFr oC oS oH oR oT oB) vF, X1W g oT rT (upd vT 1 ((vT 1) + 1)) (va_up aT 0 (upd (aT 0) ((vT 1).toNatClampNeg) (vp_nar .char p0)))] := hD
    refine lv_aload_n hx hb dX4_append_51 rfl (lv_at hl 0 rfl) ?_
    refine kg_get (v := .ref oT) C kFX4 (k := 5) kw306 hP (i := 0) (q := 0) rfl rfl (by decide) rfl dX4_append_52 ?_
    refine kg_getN C kFX1 (k := 1) (List.mem_of_getElem? (i := 39) rfl) hP (i := 1) (q := 0) rfl rfl (by decide) rfl dX4_append_55 ?_
    have hF := (show X4_append_f vF vT aT p0 = (0, ((vT 1) + 1), upd vT 1 ((vT 1) + 1), va_up aT 0 (upd (aT 0) ((vT 1).toNatClampNeg) (vp_nar .char p0))) from (if_pos c1).trans (rfl))
    exact kX_ret (x := ((vT 1) + 1)) C hP hD hS ⟨by rw [hF], by rw [hF], by rw [hF]⟩ ⟨Nat.le_of_ble_eq_true rfl, Nat.le_of_ble_eq_true rfl⟩ dX4_append_58
  have hF := (show X4_append_f vF vT aT p0 = (5, 0, vT, aT) from (if_neg c1).trans (rfl))
  exact kX_throwS (names := ["java/lang/RuntimeException", "java/lang/Exception"]) C hfl htb (by decide) (by decide) kw849 kw81 (List.mem_of_getElem? (i := 6) rfl) kx_at_IllegalStateException hE hS hl.1 hP hD ⟨by rw [hF]; exact (by decide : (5 : Nat) ≠ 0), by rw [hF]; rfl, by rw [hF]⟩ dX4_append_12 dX4_append_15 dX4_append_16 dX4_append_18 dX4_append_21 (by decide) (Nat.le_of_ble_eq_true rfl) ⟨Nat.le_of_ble_eq_true rfl, Nat.le_of_ble_eq_true rfl⟩ ⟨Nat.le_of_ble_eq_true rfl, Nat.le_of_ble_eq_true rfl⟩

theorem pnX0_oathsInForce : yX0_oathsInForce.cls ≠ "java/lang/invoke/MethodHandle" ∧ yX0_oathsInForce.cls ≠ "java/lang/invoke/VarHandle" ∧ (parseMethodDescriptor yX0_oathsInForce.desc).map (fun d => d.parameters.length) = some 0 := by decide +kernel
theorem ca_X0_oathsInForce : kCal yX0_oathsInForce (Cond.code yX0_oathsInForce cX0_oathsInForce 3 (some .int)) := ⟨k_w 5 183 rfl rfl, k_w 1 55 rfl rfl, k_w 2 2 rfl rfl, k_w 5 184 rfl rfl⟩

abbrev wX4_account : List Cond := Cond.code yX4_account cX4_account 2 (some .int) :: kW
def X4_account_f (vF : Nat → Int32) (vC : Nat → Int32) (aC : Nat → Nat → Int32) (vH : Nat → Int32) (aH : Nat → (Nat → Int32) × (Nat → Nat → Int32)) (vT : Nat → Int32) (aT : Nat → Nat → Int32) (p0 : Int32) : Nat × Int32 :=
  if p0 = 0 then (0, (vC 0))
  else if p0 = 1 then (0, (vC 1))
  else if p0 = 2 then (0, (vC 2))
  else if p0 = 3 then (0, (vC 3))
  else if p0 = 4 then (0, (vC 4))
  else if p0 = 5 then (0, (vC 7))
  else if p0 = 6 then (0, (X4_sumOf_f 6 (aC 6) (vC 4)))
  else if p0 = 7 then (0, (X4_sumOf_f 6 (aC 11) (vC 7)))
  else if p0 = 8 then (0, (vC 16))
  else if p0 = 9 then (0, (vC 17))
  else if p0 = 10 then (0, (vC 15))
  else if p0 = 11 then (0, (vC 18))
  else if p0 = 12 then (0, (X0_oathsInForce_f vC aC))
  else if p0 = 13 then (0, (X0_shortnessTogether_f vC aC 255))
  else if p0 = 14 then (0, (vH 2))
  else if p0 = 15 then (0, (vT 1))
  else (3, 0)
set_option maxHeartbeats 4000000 in
set_option maxRecDepth 100000 in
theorem X4_account_c (l : Launch) (g : kG) (oF : Nat) (vF : Nat → Int32) (oS oR oB : Nat) (oC : Nat) (rC : Nat → Nat) (vC : Nat → Int32) (aC : Nat → Nat → Int32) (oH : Nat) (rH : Nat → Nat) (vH : Nat → Int32) (oQ : Nat → Nat) (rQ : Nat → Nat → Nat) (aH : Nat → (Nat → Int32) × (Nat → Nat → Int32)) (oT : Nat) (rT : Nat → Nat) (vT : Nat → Int32) (aT : Nat → Nat → Int32) (p0 : Int32) (nb : Nat) (nj : Nat) (hnb : nb ≤ 6) (hv7 : vC 7 = nI nb) (hnj : nj ≤ 6) (hv4 : vC 4 = nI nj) (hfl : l.stackTraces = false) : kX l yX4_account wX4_account 6 82 1 6 g [.ref oF, .int p0] [X4W g oF (kFr oC oS oH oR oT oB) vF, X0W g oC rC vC aC, X2W g oH rH vH oQ rQ aH, X1W g oT rT vT aT] (fun x u => (X4_account_f vF vC aC vH aH vT aT p0).1 = 0 ∧ x = (X4_account_f vF vC aC vH aH vT aT p0).2 ∧ u = [X4W g oF (kFr oC oS oH oR oT oB) vF, X0W g oC rC vC aC, X2W g oH rH vH oQ rQ aH, X1W g oT rT vT aT]) (fun E u => (X4_account_f vF vC aC vH aH vT aT p0).1 ≠ 0 ∧ E = kEx (X4_account_f vF vC aC vH aH vT aT p0).1 ∧ u = [X4W g oF (kFr oC oS oH oR oT oB) vF, X0W g oC rC vC aC, X2W g oH rH vH oQ rQ aH, X1W g oT rT vT aT]) := by
  refine kX_of (cc := cX4_account) (nL := 2) (ret := (some .int)) (lv := [(0, .ref oF), (1, .int p0)]) (by decide) rfl (Nat.le_of_ble_eq_true rfl) rfl ?_
  intro p e s m args below meth c ls A htb C hP hD hE hA hS hl
  have C : kC p c cX4_account s m args meth RX4 g 2 (some .int) := C
  have hx := C.1.1
  have hb := C.1.2.1
  have hts := C.1.2.2.2.2
  refine lv_iload_n hx hb dX4_account_0 rfl (lv_at hl 1 rfl) ?_
  by_cases c1 : p0 = 0
  · refine lv_tableIn (off := 79) (tgt := 80) hx hb dX4_account_1 (by show ¬ (p0).toInt < 0; rw [c1]; decide) (by show ¬ 15 < (p0).toInt; rw [c1]; decide) (by rw [c1]; rfl) (by decide) ?_
    refine lv_aload_n hx hb dX4_account_80 rfl (lv_at hl 0 rfl) ?_
    refine kg_get (v := .ref oC) C kFX4 (k := 0) kw301 hP (i := 0) (q := 0) rfl rfl (by decide) rfl dX4_account_81 ?_
    refine kg_getN C kFX0 (k := 0) (List.mem_of_getElem? (i := 1) rfl) hP (i := 1) (q := 0) rfl rfl (by decide) rfl dX4_account_84 ?_
    have hF := (show X4_account_f vF vC aC vH aH vT aT p0 = (0, (vC 0)) from (if_pos c1).trans (rfl))
    exact kX_ret (x := (vC 0)) C hP hD hS ⟨by rw [hF], by rw [hF], rfl⟩ ⟨Nat.le_of_ble_eq_true rfl, Nat.le_of_ble_eq_true rfl⟩ dX4_account_87
  by_cases c2 : p0 = 1
  · refine lv_tableIn (off := 87) (tgt := 88) hx hb dX4_account_1 (by show ¬ (p0).toInt < 0; rw [c2]; decide) (by show ¬ 15 < (p0).toInt; rw [c2]; decide) (by rw [c2]; rfl) (by decide) ?_
    refine lv_aload_n hx hb dX4_account_88 rfl (lv_at hl 0 rfl) ?_
    refine kg_get (v := .ref oC) C kFX4 (k := 0) kw301 hP (i := 0) (q := 0) rfl rfl (by decide) rfl dX4_account_89 ?_
    refine kg_getN C kFX0 (k := 1) (List.mem_of_getElem? (i := 3) rfl) hP (i := 1) (q := 0) rfl rfl (by decide) rfl dX4_account_92 ?_
    have hF := (show X4_account_f vF vC aC vH aH vT aT p0 = (0, (vC 1)) from (if_neg c1).trans ((if_pos c2).trans (rfl)))
    exact kX_ret (x := (vC 1)) C hP hD hS ⟨by rw [hF], by rw [hF], rfl⟩ ⟨Nat.le_of_ble_eq_true rfl, Nat.le_of_ble_eq_true rfl⟩ dX4_account_95
  by_cases c3 : p0 = 2
  · refine lv_tableIn (off := 95) (tgt := 96) hx hb dX4_account_1 (by show ¬ (p0).toInt < 0; rw [c3]; decide) (by show ¬ 15 < (p0).toInt; rw [c3]; decide) (by rw [c3]; rfl) (by decide) ?_
    refine lv_aload_n hx hb dX4_account_96 rfl (lv_at hl 0 rfl) ?_
    refine kg_get (v := .ref oC) C kFX4 (k := 0) kw301 hP (i := 0) (q := 0) rfl rfl (by decide) rfl dX4_account_97 ?_
    refine kg_getN C kFX0 (k := 2) (List.mem_of_getElem? (i := 5) rfl) hP (i := 1) (q := 0) rfl rfl (by decide) rfl dX4_account_100 ?_
    have hF := (show X4_account_f vF vC aC vH aH vT aT p0 = (0, (vC 2)) from (if_neg c1).trans ((if_neg c2).trans ((if_pos c3).trans (rfl))))
    exact kX_ret (x := (vC 2)) C hP hD hS ⟨by rw [hF], by rw [hF], rfl⟩ ⟨Nat.le_of_ble_eq_true rfl, Nat.le_of_ble_eq_true rfl⟩ dX4_account_103
  by_cases c4 : p0 = 3
  · refine lv_tableIn (off := 103) (tgt := 104) hx hb dX4_account_1 (by show ¬ (p0).toInt < 0; rw [c4]; decide) (by show ¬ 15 < (p0).toInt; rw [c4]; decide) (by rw [c4]; rfl) (by decide) ?_
    refine lv_aload_n hx hb dX4_account_104 rfl (lv_at hl 0 rfl) ?_
    refine kg_get (v := .ref oC) C kFX4 (k := 0) kw301 hP (i := 0) (q := 0) rfl rfl (by decide) rfl dX4_account_105 ?_
    refine kg_getN C kFX0 (k := 3) (List.mem_of_getElem? (i := 7) rfl) hP (i := 1) (q := 0) rfl rfl (by decide) rfl dX4_account_108 ?_
    have hF := (show X4_account_f vF vC aC vH aH vT aT p0 = (0, (vC 3)) from (if_neg c1).trans ((if_neg c2).trans ((if_neg c3).trans ((if_pos c4).trans (rfl)))))
    exact kX_ret (x := (vC 3)) C hP hD hS ⟨by rw [hF], by rw [hF], rfl⟩ ⟨Nat.le_of_ble_eq_true rfl, Nat.le_of_ble_eq_true rfl⟩ dX4_account_111
  by_cases c5 : p0 = 4
  · refine lv_tableIn (off := 111) (tgt := 112) hx hb dX4_account_1 (by show ¬ (p0).toInt < 0; rw [c5]; decide) (by show ¬ 15 < (p0).toInt; rw [c5]; decide) (by rw [c5]; rfl) (by decide) ?_
    refine lv_aload_n hx hb dX4_account_112 rfl (lv_at hl 0 rfl) ?_
    refine kg_get (v := .ref oC) C kFX4 (k := 0) kw301 hP (i := 0) (q := 0) rfl rfl (by decide) rfl dX4_account_113 ?_
    refine kg_getN C kFX0 (k := 4) (List.mem_of_getElem? (i := 9) rfl) hP (i := 1) (q := 0) rfl rfl (by decide) rfl dX4_account_116 ?_
    have hF := (show X4_account_f vF vC aC vH aH vT aT p0 = (0, (vC 4)) from (if_neg c1).trans ((if_neg c2).trans ((if_neg c3).trans ((if_neg c4).trans ((if_pos c5).trans (rfl))))))
    exact kX_ret (x := (vC 4)) C hP hD hS ⟨by rw [hF], by rw [hF], rfl⟩ ⟨Nat.le_of_ble_eq_true rfl, Nat.le_of_ble_eq_true rfl⟩ dX4_account_119
  by_cases c6 : p0 = 5
  · refine lv_tableIn (off := 119) (tgt := 120) hx hb dX4_account_1 (by show ¬ (p0).toInt < 0; rw [c6]; decide) (by show ¬ 15 < (p0).toInt; rw [c6]; decide) (by rw [c6]; rfl) (by decide) ?_
    refine lv_aload_n hx hb dX4_account_120 rfl (lv_at hl 0 rfl) ?_
    refine kg_get (v := .ref oC) C kFX4 (k := 0) kw301 hP (i := 0) (q := 0) rfl rfl (by decide) rfl dX4_account_121 ?_
    refine kg_getN C kFX0 (k := 7) (List.mem_of_getElem? (i := 15) rfl) hP (i := 1) (q := 0) rfl rfl (by decide) rfl dX4_account_124 ?_
    have hF := (show X4_account_f vF vC aC vH aH vT aT p0 = (0, (vC 7)) from (if_neg c1).trans ((if_neg c2).trans ((if_neg c3).trans ((if_neg c4).trans ((if_neg c5).trans ((if_pos c6).trans (rfl)))))))
    exact kX_ret (x := (vC 7)) C hP hD hS ⟨by rw [hF], by rw [hF], rfl⟩ ⟨Nat.le_of_ble_eq_true rfl, Nat.le_of_ble_eq_true rfl⟩ dX4_account_127
  by_cases c7 : p0 = 6
  · refine lv_tableIn (off := 127) (tgt := 128) hx hb dX4_account_1 (by show ¬ (p0).toInt < 0; rw [c7]; decide) (by show ¬ 15 < (p0).toInt; rw [c7]; decide) (by rw [c7]; rfl) (by decide) ?_
    refine lv_aload_n hx hb dX4_account_128 rfl (lv_at hl 0 rfl) ?_
    refine kg_get (v := .ref oC) C kFX4 (k := 0) kw301 hP (i := 0) (q := 0) rfl rfl (by decide) rfl dX4_account_129 ?_
    refine kg_getN C kFX0 (k := 6) (List.mem_of_getElem? (i := 13) rfl) hP (i := 1) (q := 0) rfl rfl (by decide) rfl dX4_account_132 ?_
    refine lv_aload_n hx hb dX4_account_135 rfl (lv_at hl 0 rfl) ?_
    refine kg_get (v := .ref oC) C kFX4 (k := 0) kw301 hP (i := 0) (q := 0) rfl rfl (by decide) rfl dX4_account_136 ?_
    refine kg_getN C kFX0 (k := 4) (List.mem_of_getElem? (i := 9) rfl) hP (i := 1) (q := 0) rfl rfl (by decide) rfl dX4_account_139 ?_
    refine kR_S (As := [.ref (rC 6), .int (vC 4)]) (rest := []) C (X4_sumOf_c l g (rC 6) 6 (aC 6) (vC 4) nj hnj hv4 (by decide)) (va_cwS 2 hts (k_gS kw968 cs_X4_sumOf) rfl rfl rfl pnX4_sumOf ⟨Nat.le_of_ble_eq_true rfl, Nat.le_of_ble_eq_true rfl⟩) hE hS (hP.cell (i := 1) (q := 2) rfl rfl) rfl hl.1 rfl rfl dX4_account_142 ⟨Nat.le_of_ble_eq_true rfl, Nat.le_of_ble_eq_true rfl⟩ ?_
    have hF := (show X4_account_f vF vC aC vH aH vT aT p0 = (0, (X4_sumOf_f 6 (aC 6) (vC 4))) from (if_neg c1).trans ((if_neg c2).trans ((if_neg c3).trans ((if_neg c4).trans ((if_neg c5).trans ((if_neg c6).trans ((if_pos c7).trans (rfl))))))))
    exact kX_ret (x := (X4_sumOf_f 6 (aC 6) (vC 4))) C hP hD hS ⟨by rw [hF], by rw [hF], rfl⟩ ⟨Nat.le_of_ble_eq_true rfl, Nat.le_of_ble_eq_true rfl⟩ dX4_account_145
  by_cases c8 : p0 = 7
  · refine lv_tableIn (off := 145) (tgt := 146) hx hb dX4_account_1 (by show ¬ (p0).toInt < 0; rw [c8]; decide) (by show ¬ 15 < (p0).toInt; rw [c8]; decide) (by rw [c8]; rfl) (by decide) ?_
    refine lv_aload_n hx hb dX4_account_146 rfl (lv_at hl 0 rfl) ?_
    refine kg_get (v := .ref oC) C kFX4 (k := 0) kw301 hP (i := 0) (q := 0) rfl rfl (by decide) rfl dX4_account_147 ?_
    refine kg_getN C kFX0 (k := 11) (List.mem_of_getElem? (i := 22) rfl) hP (i := 1) (q := 0) rfl rfl (by decide) rfl dX4_account_150 ?_
    refine lv_aload_n hx hb dX4_account_153 rfl (lv_at hl 0 rfl) ?_
    refine kg_get (v := .ref oC) C kFX4 (k := 0) kw301 hP (i := 0) (q := 0) rfl rfl (by decide) rfl dX4_account_154 ?_
    refine kg_getN C kFX0 (k := 7) (List.mem_of_getElem? (i := 15) rfl) hP (i := 1) (q := 0) rfl rfl (by decide) rfl dX4_account_157 ?_
    refine kR_S (As := [.ref (rC 11), .int (vC 7)]) (rest := []) C (X4_sumOf_c l g (rC 11) 6 (aC 11) (vC 7) nb hnb hv7 (by decide)) (va_cwS 2 hts (k_gS kw968 cs_X4_sumOf) rfl rfl rfl pnX4_sumOf ⟨Nat.le_of_ble_eq_true rfl, Nat.le_of_ble_eq_true rfl⟩) hE hS (hP.cell (i := 1) (q := 6) rfl rfl) rfl hl.1 rfl rfl dX4_account_160 ⟨Nat.le_of_ble_eq_true rfl, Nat.le_of_ble_eq_true rfl⟩ ?_
    have hF := (show X4_account_f vF vC aC vH aH vT aT p0 = (0, (X4_sumOf_f 6 (aC 11) (vC 7))) from (if_neg c1).trans ((if_neg c2).trans ((if_neg c3).trans ((if_neg c4).trans ((if_neg c5).trans ((if_neg c6).trans ((if_neg c7).trans ((if_pos c8).trans (rfl)))))))))
    exact kX_ret (x := (X4_sumOf_f 6 (aC 11) (vC 7))) C hP hD hS ⟨by rw [hF], by rw [hF], rfl⟩ ⟨Nat.le_of_ble_eq_true rfl, Nat.le_of_ble_eq_true rfl⟩ dX4_account_163
  by_cases c9 : p0 = 8
  · refine lv_tableIn (off := 163) (tgt := 164) hx hb dX4_account_1 (by show ¬ (p0).toInt < 0; rw [c9]; decide) (by show ¬ 15 < (p0).toInt; rw [c9]; decide) (by rw [c9]; rfl) (by decide) ?_
    refine lv_aload_n hx hb dX4_account_164 rfl (lv_at hl 0 rfl) ?_
    refine kg_get (v := .ref oC) C kFX4 (k := 0) kw301 hP (i := 0) (q := 0) rfl rfl (by decide) rfl dX4_account_165 ?_
    refine kg_getN C kFX0 (k := 16) (List.mem_of_getElem? (i := 27) rfl) hP (i := 1) (q := 0) rfl rfl (by decide) rfl dX4_account_168 ?_
    have hF := (show X4_account_f vF vC aC vH aH vT aT p0 = (0, (vC 16)) from (if_neg c1).trans ((if_neg c2).trans ((if_neg c3).trans ((if_neg c4).trans ((if_neg c5).trans ((if_neg c6).trans ((if_neg c7).trans ((if_neg c8).trans ((if_pos c9).trans (rfl))))))))))
    exact kX_ret (x := (vC 16)) C hP hD hS ⟨by rw [hF], by rw [hF], rfl⟩ ⟨Nat.le_of_ble_eq_true rfl, Nat.le_of_ble_eq_true rfl⟩ dX4_account_171
  by_cases c10 : p0 = 9
  · refine lv_tableIn (off := 171) (tgt := 172) hx hb dX4_account_1 (by show ¬ (p0).toInt < 0; rw [c10]; decide) (by show ¬ 15 < (p0).toInt; rw [c10]; decide) (by rw [c10]; rfl) (by decide) ?_
    refine lv_aload_n hx hb dX4_account_172 rfl (lv_at hl 0 rfl) ?_
    refine kg_get (v := .ref oC) C kFX4 (k := 0) kw301 hP (i := 0) (q := 0) rfl rfl (by decide) rfl dX4_account_173 ?_
    refine kg_getN C kFX0 (k := 17) (List.mem_of_getElem? (i := 28) rfl) hP (i := 1) (q := 0) rfl rfl (by decide) rfl dX4_account_176 ?_
    have hF := (show X4_account_f vF vC aC vH aH vT aT p0 = (0, (vC 17)) from (if_neg c1).trans ((if_neg c2).trans ((if_neg c3).trans ((if_neg c4).trans ((if_neg c5).trans ((if_neg c6).trans ((if_neg c7).trans ((if_neg c8).trans ((if_neg c9).trans ((if_pos c10).trans (rfl)))))))))))
    exact kX_ret (x := (vC 17)) C hP hD hS ⟨by rw [hF], by rw [hF], rfl⟩ ⟨Nat.le_of_ble_eq_true rfl, Nat.le_of_ble_eq_true rfl⟩ dX4_account_179
  by_cases c11 : p0 = 10
  · refine lv_tableIn (off := 179) (tgt := 180) hx hb dX4_account_1 (by show ¬ (p0).toInt < 0; rw [c11]; decide) (by show ¬ 15 < (p0).toInt; rw [c11]; decide) (by rw [c11]; rfl) (by decide) ?_
    refine lv_aload_n hx hb dX4_account_180 rfl (lv_at hl 0 rfl) ?_
    refine kg_get (v := .ref oC) C kFX4 (k := 0) kw301 hP (i := 0) (q := 0) rfl rfl (by decide) rfl dX4_account_181 ?_
    refine kg_getN C kFX0 (k := 15) (List.mem_of_getElem? (i := 26) rfl) hP (i := 1) (q := 0) rfl rfl (by decide) rfl dX4_account_184 ?_
    have hF := (show X4_account_f vF vC aC vH aH vT aT p0 = (0, (vC 15)) from (if_neg c1).trans ((if_neg c2).trans ((if_neg c3).trans ((if_neg c4).trans ((if_neg c5).trans ((if_neg c6).trans ((if_neg c7).trans ((if_neg c8).trans ((if_neg c9).trans ((if_neg c10).trans ((if_pos c11).trans (rfl))))))))))))
    exact kX_ret (x := (vC 15)) C hP hD hS ⟨by rw [hF], by rw [hF], rfl⟩ ⟨Nat.le_of_ble_eq_true rfl, Nat.le_of_ble_eq_true rfl⟩ dX4_account_187
  by_cases c12 : p0 = 11
  · refine lv_tableIn (off := 187) (tgt := 188) hx hb dX4_account_1 (by show ¬ (p0).toInt < 0; rw [c12]; decide) (by show ¬ 15 < (p0).toInt; rw [c12]; decide) (by rw [c12]; rfl) (by decide) ?_
    refine lv_aload_n hx hb dX4_account_188 rfl (lv_at hl 0 rfl) ?_
    refine kg_get (v := .ref oC) C kFX4 (k := 0) kw301 hP (i := 0) (q := 0) rfl rfl (by decide) rfl dX4_account_189 ?_
    refine kg_getN C kFX0 (k := 18) (List.mem_of_getElem? (i := 29) rfl) hP (i := 1) (q := 0) rfl rfl (by decide) rfl dX4_account_192 ?_
    have hF := (show X4_account_f vF vC aC vH aH vT aT p0 = (0, (vC 18)) from (if_neg c1).trans ((if_neg c2).trans ((if_neg c3).trans ((if_neg c4).trans ((if_neg c5).trans ((if_neg c6).trans ((if_neg c7).trans ((if_neg c8).trans ((if_neg c9).trans ((if_neg c10).trans ((if_neg c11).trans ((if_pos c12).trans (rfl)))))))))))))
    exact kX_ret (x := (vC 18)) C hP hD hS ⟨by rw [hF], by rw [hF], rfl⟩ ⟨Nat.le_of_ble_eq_true rfl, Nat.le_of_ble_eq_true rfl⟩ dX4_account_195
  by_cases c13 : p0 = 12
  · refine lv_tableIn (off := 195) (tgt := 196) hx hb dX4_account_1 (by show ¬ (p0).toInt < 0; rw [c13]; decide) (by show ¬ 15 < (p0).toInt; rw [c13]; decide) (by rw [c13]; rfl) (by decide) ?_
    refine lv_aload_n hx hb dX4_account_196 rfl (lv_at hl 0 rfl) ?_
    refine kg_get (v := .ref oC) C kFX4 (k := 0) kw301 hP (i := 0) (q := 0) rfl rfl (by decide) rfl dX4_account_197 ?_
    refine kR_VN (As := []) (rest := []) C (X0_oathsInForce_c l g oC rC vC aC) ⟨va_cnB (host := "SpiceScale") 0 hts (k_gI ca_X0_oathsInForce.2.2.2) rfl rfl rfl (C.2.1.2 _ (List.mem_of_getElem? (i := 75) rfl)) (hts _ ca_X0_oathsInForce.2.2.1) pnX0_oathsInForce ⟨Nat.le_of_ble_eq_true rfl, Nat.le_of_ble_eq_true rfl⟩, hts _ ca_X0_oathsInForce.1, hts _ ca_X0_oathsInForce.2.1⟩ hE hS (hP.pick [1] rfl) (k_recv C kFX0 hP (i := 1) (q := 0) rfl rfl) rfl hl.1 rfl rfl dX4_account_200 ⟨Nat.le_of_ble_eq_true rfl, Nat.le_of_ble_eq_true rfl⟩ ?_
    have hF := (show X4_account_f vF vC aC vH aH vT aT p0 = (0, (X0_oathsInForce_f vC aC)) from (if_neg c1).trans ((if_neg c2).trans ((if_neg c3).trans ((if_neg c4).trans ((if_neg c5).trans ((if_neg c6).trans ((if_neg c7).trans ((if_neg c8).trans ((if_neg c9).trans ((if_neg c10).trans ((if_neg c11).trans ((if_neg c12).trans ((if_pos c13).trans (rfl))))))))))))))
    exact kX_ret (x := (X0_oathsInForce_f vC aC)) C hP hD hS ⟨by rw [hF], by rw [hF], rfl⟩ ⟨Nat.le_of_ble_eq_true rfl, Nat.le_of_ble_eq_true rfl⟩ dX4_account_203
  by_cases c14 : p0 = 13
  · refine lv_tableIn (off := 203) (tgt := 204) hx hb dX4_account_1 (by show ¬ (p0).toInt < 0; rw [c14]; decide) (by show ¬ 15 < (p0).toInt; rw [c14]; decide) (by rw [c14]; rfl) (by decide) ?_
    refine lv_aload_n hx hb dX4_account_204 rfl (lv_at hl 0 rfl) ?_
    refine kg_get (v := .ref oC) C kFX4 (k := 0) kw301 hP (i := 0) (q := 0) rfl rfl (by decide) rfl dX4_account_205 ?_
    refine lv_sipush (v := 255) hx hb dX4_account_208 (by decide) ?_
    refine kR_VN (As := [.int 255]) (rest := []) C (X0_shortnessTogether_c l g oC rC vC aC 255) ⟨va_cnB (host := "SpiceScale") 1 hts (k_gI ca_X0_shortnessTogether.2.2.2) rfl rfl rfl (C.2.1.2 _ (List.mem_of_getElem? (i := 71) rfl)) (hts _ ca_X0_shortnessTogether.2.2.1) pnX0_shortnessTogether ⟨Nat.le_of_ble_eq_true rfl, Nat.le_of_ble_eq_true rfl⟩, hts _ ca_X0_shortnessTogether.1, hts _ ca_X0_shortnessTogether.2.1⟩ hE hS (hP.pick [1] rfl) (k_recv C kFX0 hP (i := 1) (q := 0) rfl rfl) rfl hl.1 rfl rfl dX4_account_211 ⟨Nat.le_of_ble_eq_true rfl, Nat.le_of_ble_eq_true rfl⟩ ?_
    have hF := (show X4_account_f vF vC aC vH aH vT aT p0 = (0, (X0_shortnessTogether_f vC aC 255)) from (if_neg c1).trans ((if_neg c2).trans ((if_neg c3).trans ((if_neg c4).trans ((if_neg c5).trans ((if_neg c6).trans ((if_neg c7).trans ((if_neg c8).trans ((if_neg c9).trans ((if_neg c10).trans ((if_neg c11).trans ((if_neg c12).trans ((if_neg c13).trans ((if_pos c14).trans (rfl)))))))))))))))
    exact kX_ret (x := (X0_shortnessTogether_f vC aC 255)) C hP hD hS ⟨by rw [hF], by rw [hF], rfl⟩ ⟨Nat.le_of_ble_eq_true rfl, Nat.le_of_ble_eq_true rfl⟩ dX4_account_214
  by_cases c15 : p0 = 14
  · refine lv_tableIn (off := 214) (tgt := 215) hx hb dX4_account_1 (by show ¬ (p0).toInt < 0; rw [c15]; decide) (by show ¬ 15 < (p0).toInt; rw [c15]; decide) (by rw [c15]; rfl) (by decide) ?_
    refine lv_aload_n hx hb dX4_account_215 rfl (lv_at hl 0 rfl) ?_
    refine kg_get (v := .ref oH) C kFX4 (k := 3) kw304 hP (i := 0) (q := 0) rfl rfl (by decide) rfl dX4_account_216 ?_
    refine kg_getN C kFX2 (k := 2) (List.mem_of_getElem? (i := 32) rfl) hP (i := 2) (q := 0) rfl rfl (by decide) rfl dX4_account_219 ?_
    have hF := (show X4_account_f vF vC aC vH aH vT aT p0 = (0, (vH 2)) from (if_neg c1).trans ((if_neg c2).trans ((if_neg c3).trans ((if_neg c4).trans ((if_neg c5).trans ((if_neg c6).trans ((if_neg c7).trans ((if_neg c8).trans ((if_neg c9).trans ((if_neg c10).trans ((if_neg c11).trans ((if_neg c12).trans ((if_neg c13).trans ((if_neg c14).trans ((if_pos c15).trans (rfl))))))))))))))))
    exact kX_ret (x := (vH 2)) C hP hD hS ⟨by rw [hF], by rw [hF], rfl⟩ ⟨Nat.le_of_ble_eq_true rfl, Nat.le_of_ble_eq_true rfl⟩ dX4_account_222
  by_cases c16 : p0 = 15
  · refine lv_tableIn (off := 222) (tgt := 223) hx hb dX4_account_1 (by show ¬ (p0).toInt < 0; rw [c16]; decide) (by show ¬ 15 < (p0).toInt; rw [c16]; decide) (by rw [c16]; rfl) (by decide) ?_
    refine lv_aload_n hx hb dX4_account_223 rfl (lv_at hl 0 rfl) ?_
    refine kg_get (v := .ref oT) C kFX4 (k := 5) kw306 hP (i := 0) (q := 0) rfl rfl (by decide) rfl dX4_account_224 ?_
    refine kg_getN C kFX1 (k := 1) (List.mem_of_getElem? (i := 39) rfl) hP (i := 3) (q := 0) rfl rfl (by decide) rfl dX4_account_227 ?_
    have hF := (show X4_account_f vF vC aC vH aH vT aT p0 = (0, (vT 1)) from (if_neg c1).trans ((if_neg c2).trans ((if_neg c3).trans ((if_neg c4).trans ((if_neg c5).trans ((if_neg c6).trans ((if_neg c7).trans ((if_neg c8).trans ((if_neg c9).trans ((if_neg c10).trans ((if_neg c11).trans ((if_neg c12).trans ((if_neg c13).trans ((if_neg c14).trans ((if_neg c15).trans ((if_pos c16).trans (rfl)))))))))))))))))
    exact kX_ret (x := (vT 1)) C hP hD hS ⟨by rw [hF], by rw [hF], rfl⟩ ⟨Nat.le_of_ble_eq_true rfl, Nat.le_of_ble_eq_true rfl⟩ dX4_account_230
  refine lv_tableOut (tgt := 231) hx hb dX4_account_1 (by have n0 := lv_neT (a := 0) c1 (by decide); have n1 := lv_neT (a := 1) c2 (by decide); have n2 := lv_neT (a := 2) c3 (by decide); have n3 := lv_neT (a := 3) c4 (by decide); have n4 := lv_neT (a := 4) c5 (by decide); have n5 := lv_neT (a := 5) c6 (by decide); have n6 := lv_neT (a := 6) c7 (by decide); have n7 := lv_neT (a := 7) c8 (by decide); have n8 := lv_neT (a := 8) c9 (by decide); have n9 := lv_neT (a := 9) c10 (by decide); have n10 := lv_neT (a := 10) c11 (by decide); have n11 := lv_neT (a := 11) c12 (by decide); have n12 := lv_neT (a := 12) c13 (by decide); have n13 := lv_neT (a := 13) c14 (by decide); have n14 := lv_neT (a := 14) c15 (by decide); have n15 := lv_neT (a := 15) c16 (by decide); omega) (by decide) ?_
  have hF := (show X4_account_f vF vC aC vH aH vT aT p0 = (3, 0) from (if_neg c1).trans ((if_neg c2).trans ((if_neg c3).trans ((if_neg c4).trans ((if_neg c5).trans ((if_neg c6).trans ((if_neg c7).trans ((if_neg c8).trans ((if_neg c9).trans ((if_neg c10).trans ((if_neg c11).trans ((if_neg c12).trans ((if_neg c13).trans ((if_neg c14).trans ((if_neg c15).trans ((if_neg c16).trans (rfl)))))))))))))))))
  exact kX_throw (names := ["java/lang/RuntimeException", "java/lang/Exception"]) C hfl htb (by decide) (by decide) kw756 kw85 (List.mem_of_getElem? (i := 14) rfl) kx_at_IllegalArgumentException hE hS hl.1 hP hD ⟨by rw [hF]; exact (by decide : (3 : Nat) ≠ 0), by rw [hF]; rfl, rfl⟩ dX4_account_231 dX4_account_234 dX4_account_235 dX4_account_238 dX4_account_241 (by decide) (Nat.le_of_ble_eq_true rfl) ⟨Nat.le_of_ble_eq_true rfl, Nat.le_of_ble_eq_true rfl⟩ ⟨Nat.le_of_ble_eq_true rfl, Nat.le_of_ble_eq_true rfl⟩

theorem pnX2_takeBack : yX2_takeBack.cls ≠ "java/lang/invoke/MethodHandle" ∧ yX2_takeBack.cls ≠ "java/lang/invoke/VarHandle" ∧ (parseMethodDescriptor yX2_takeBack.desc).map (fun d => d.parameters.length) = some 1 := by decide +kernel
theorem ca_X2_takeBack : kCal yX2_takeBack (Cond.code yX2_takeBack cX2_takeBack 2 none) := ⟨k_w 5 196 rfl rfl, k_w 1 56 rfl rfl, k_w 2 3 rfl rfl, k_w 5 197 rfl rfl⟩

abbrev wX4_undo : List Cond := Cond.code yX4_undo cX4_undo 1 (some .int) :: kW
def X4_undo_f (vF : Nat → Int32) (vC : Nat → Int32) (aC : Nat → Nat → Int32) (vH : Nat → Int32) (aH : Nat → (Nat → Int32) × (Nat → Nat → Int32)) : Nat × Int32 × (Nat → Int32) × (Nat → Nat → Int32) × (Nat → Int32) :=
  if (vH 2) = 0 then (5, 0, vC, aC, vH)
  else (0, (((X2_takeBack_f vH aH vC aC).1) 2), (X2_takeBack_f vH aH vC aC).2.1, (X2_takeBack_f vH aH vC aC).2.2, (X2_takeBack_f vH aH vC aC).1)
set_option maxHeartbeats 4000000 in
set_option maxRecDepth 100000 in
theorem X4_undo_c (l : Launch) (g : kG) (oF : Nat) (vF : Nat → Int32) (oS oR oT oB : Nat) (oC : Nat) (rC : Nat → Nat) (vC : Nat → Int32) (aC : Nat → Nat → Int32) (oH : Nat) (rH : Nat → Nat) (vH : Nat → Int32) (oQ : Nat → Nat) (rQ : Nat → Nat → Nat) (aH : Nat → (Nat → Int32) × (Nat → Nat → Int32)) (hh : vp_in (vH 1) 9) (hfl : l.stackTraces = false) : kX l yX4_undo wX4_undo 6 102 1 6 g [.ref oF] [X4W g oF (kFr oC oS oH oR oT oB) vF, X0W g oC rC vC aC, X2W g oH rH vH oQ rQ aH] (fun x u => (X4_undo_f vF vC aC vH aH).1 = 0 ∧ x = (X4_undo_f vF vC aC vH aH).2.1 ∧ u = [X4W g oF (kFr oC oS oH oR oT oB) vF, X0W g oC rC ((X4_undo_f vF vC aC vH aH).2.2.1) ((X4_undo_f vF vC aC vH aH).2.2.2.1), X2W g oH rH ((X4_undo_f vF vC aC vH aH).2.2.2.2) oQ rQ aH]) (fun E u => (X4_undo_f vF vC aC vH aH).1 ≠ 0 ∧ E = kEx (X4_undo_f vF vC aC vH aH).1 ∧ u = [X4W g oF (kFr oC oS oH oR oT oB) vF, X0W g oC rC ((X4_undo_f vF vC aC vH aH).2.2.1) ((X4_undo_f vF vC aC vH aH).2.2.2.1), X2W g oH rH ((X4_undo_f vF vC aC vH aH).2.2.2.2) oQ rQ aH]) := by
  refine kX_of (cc := cX4_undo) (nL := 1) (ret := (some .int)) (lv := [(0, .ref oF)]) (by decide) rfl (Nat.le_of_ble_eq_true rfl) rfl ?_
  intro p e s m args below meth c ls A htb C hP hD hE hA hS hl
  have C : kC p c cX4_undo s m args meth RX4 g 1 (some .int) := C
  have hx := C.1.1
  have hb := C.1.2.1
  have hts := C.1.2.2.2.2
  refine lv_aload_n hx hb dX4_undo_0 rfl (lv_at hl 0 rfl) ?_
  refine kg_get (v := .ref oH) C kFX4 (k := 3) kw304 hP (i := 0) (q := 0) rfl rfl (by decide) rfl dX4_undo_1 ?_
  refine kg_getN C kFX2 (k := 2) (List.mem_of_getElem? (i := 32) rfl) hP (i := 2) (q := 0) rfl rfl (by decide) rfl dX4_undo_4 ?_
  refine lv_if_ne (tgt := 21) hx hb dX4_undo_7 (by decide) (fun c1 => ?_) (fun c1 => ?_)
  · refine lv_aload_n hx hb dX4_undo_21 rfl (lv_at hl 0 rfl) ?_
    refine kg_get (v := .ref oH) C kFX4 (k := 3) kw304 hP (i := 0) (q := 0) rfl rfl (by decide) rfl dX4_undo_22 ?_
    refine lv_aload_n hx hb dX4_undo_25 rfl (lv_at hl 0 rfl) ?_
    refine kg_get (v := .ref oC) C kFX4 (k := 0) kw301 hP (i := 0) (q := 0) rfl rfl (by decide) rfl dX4_undo_26 ?_
    refine kV_VN (As := [.ref oC]) (rest := []) (wr := [X4W g oF (kFr oC oS oH oR oT oB) vF]) C (X2_takeBack_c l g oH rH vH oQ rQ aH oC rC vC aC (by first | assumption)) ⟨va_cnB (host := "SpiceScale") 1 hts (k_gI ca_X2_takeBack.2.2.2) rfl rfl rfl (C.2.1.2 _ (List.mem_of_getElem? (i := 76) rfl)) (hts _ ca_X2_takeBack.2.2.1) pnX2_takeBack ⟨Nat.le_of_ble_eq_true rfl, Nat.le_of_ble_eq_true rfl⟩, hts _ ca_X2_takeBack.1, hts _ ca_X2_takeBack.2.1⟩ hE hS hA hP hD [2, 1] [0] rfl rfl ⟨rfl, rfl, by decide⟩ (k_recv C kFX2 hP (i := 2) (q := 0) rfl rfl) rfl hl.1 rfl rfl dX4_undo_29 ⟨Nat.le_of_ble_eq_true rfl, Nat.le_of_ble_eq_true rfl⟩ (fun u2 H locs hp2 hP hD hS => ?_)
    subst hp2
    have hP : kp g [X4W g oF (kFr oC oS oH oR oT oB) vF, X2W g oH rH ((X2_takeBack_f vH aH vC aC).1) oQ rQ aH, X0W g oC rC ((X2_takeBack_f vH aH vC aC).2.1) ((X2_takeBack_f vH aH vC aC).2.2)] H := hP
    have hD : kd A [X4W g oF (kFr oC oS oH oR oT oB) vF, X2W g oH rH ((X2_takeBack_f vH aH vC aC).1) oQ rQ aH, X0W g oC rC ((X2_takeBack_f vH aH vC aC).2.1) ((X2_takeBack_f vH aH vC aC).2.2)] := hD
    refine lv_aload_n hx hb dX4_undo_32 rfl (lv_at hl 0 rfl) ?_
    refine kg_get (v := .ref oH) C kFX4 (k := 3) kw304 hP (i := 0) (q := 0) rfl rfl (by decide) rfl dX4_undo_33 ?_
    refine kg_getN C kFX2 (k := 2) (List.mem_of_getElem? (i := 32) rfl) hP (i := 1) (q := 0) rfl rfl (by decide) rfl dX4_undo_36 ?_
    have hP : kp g [X4W g oF (kFr oC oS oH oR oT oB) vF, X0W g oC rC ((X2_takeBack_f vH aH vC aC).2.1) ((X2_takeBack_f vH aH vC aC).2.2), X2W g oH rH ((X2_takeBack_f vH aH vC aC).1) oQ rQ aH] _ := hP.pick [0, 2, 1] rfl
    have hD : kd A [X4W g oF (kFr oC oS oH oR oT oB) vF, X0W g oC rC ((X2_takeBack_f vH aH vC aC).2.1) ((X2_takeBack_f vH aH vC aC).2.2), X2W g oH rH ((X2_takeBack_f vH aH vC aC).1) oQ rQ aH] := hD.pick [0, 2, 1] rfl rfl
    have hF := (show X4_undo_f vF vC aC vH aH = (0, (((X2_takeBack_f vH aH vC aC).1) 2), (X2_takeBack_f vH aH vC aC).2.1, (X2_takeBack_f vH aH vC aC).2.2, (X2_takeBack_f vH aH vC aC).1) from (if_neg c1).trans (rfl))
    exact kX_ret (x := (((X2_takeBack_f vH aH vC aC).1) 2)) C hP hD hS ⟨by rw [hF], by rw [hF], by rw [hF]⟩ ⟨Nat.le_of_ble_eq_true rfl, Nat.le_of_ble_eq_true rfl⟩ dX4_undo_39
  have hF := (show X4_undo_f vF vC aC vH aH = (5, 0, vC, aC, vH) from (if_pos c1).trans (rfl))
  exact kX_throw (names := ["java/lang/RuntimeException", "java/lang/Exception"]) C hfl htb (by decide) (by decide) kw849 kw81 (List.mem_of_getElem? (i := 15) rfl) kx_at_IllegalStateException hE hS hl.1 hP hD ⟨by rw [hF]; exact (by decide : (5 : Nat) ≠ 0), by rw [hF]; rfl, by rw [hF]⟩ dX4_undo_10 dX4_undo_13 dX4_undo_14 dX4_undo_17 dX4_undo_20 (by decide) (Nat.le_of_ble_eq_true rfl) ⟨Nat.le_of_ble_eq_true rfl, Nat.le_of_ble_eq_true rfl⟩ ⟨Nat.le_of_ble_eq_true rfl, Nat.le_of_ble_eq_true rfl⟩

abbrev wX4_save : List Cond := Cond.code yX4_save cX4_save 1 (some .int) :: kW
def X4_save_f (vF : Nat → Int32) (vC : Nat → Int32) (aC : Nat → Nat → Int32) (vS : Nat → Int32) (aS : Nat → Nat → Int32) : Int32 × (Nat → Int32) × (Nat → Int32) × (Nat → Nat → Int32) :=
  ((vC 0), upd vF 2 1, (X0_copyFrom_f vC aC vS aS).1, (X0_copyFrom_f vC aC vS aS).2)
set_option maxHeartbeats 4000000 in
set_option maxRecDepth 100000 in
theorem X4_save_c (l : Launch) (g : kG) (oF : Nat) (vF : Nat → Int32) (oH oR oT oB : Nat) (oC : Nat) (rC : Nat → Nat) (vC : Nat → Int32) (aC : Nat → Nat → Int32) (oS : Nat) (rS : Nat → Nat) (vS : Nat → Int32) (aS : Nat → Nat → Int32) : kM l yX4_save wX4_save 2 81 0 0 g [.ref oF] [X4W g oF (kFr oC oS oH oR oT oB) vF, X0W g oC rC vC aC, X0W g oS rS vS aS] (fun x u => x = (X4_save_f vF vC aC vS aS).1 ∧ u = [X4W g oF (kFr oC oS oH oR oT oB) ((X4_save_f vF vC aC vS aS).2.1), X0W g oC rC vC aC, X0W g oS rS ((X4_save_f vF vC aC vS aS).2.2.1) ((X4_save_f vF vC aC vS aS).2.2.2)]) := by
  refine kM_of (cc := cX4_save) (nL := 1) (ret := (some .int)) (lv := [(0, .ref oF)]) (by decide) rfl (Nat.le_of_ble_eq_true rfl) rfl ?_
  intro p e s m args below meth c ls A C hP hD hE hA hS hl
  have C : kC p c cX4_save s m args meth RX4 g 1 (some .int) := C
  have hx := C.1.1
  have hb := C.1.2.1
  have hts := C.1.2.2.2.2
  refine lv_aload_n hx hb dX4_save_0 rfl (lv_at hl 0 rfl) ?_
  refine kg_get (v := .ref oS) C kFX4 (k := 1) kw302 hP (i := 0) (q := 0) rfl rfl (by decide) rfl dX4_save_1 ?_
  refine lv_aload_n hx hb dX4_save_4 rfl (lv_at hl 0 rfl) ?_
  refine kg_get (v := .ref oC) C kFX4 (k := 0) kw301 hP (i := 0) (q := 0) rfl rfl (by decide) rfl dX4_save_5 ?_
  refine kV_VN (As := [.ref oC]) (rest := []) (wr := [X4W g oF (kFr oC oS oH oR oT oB) vF]) C (X0_copyFrom_c l g oC rC vC aC oS rS vS aS) ⟨va_cnB (host := "SpiceScale") 1 hts (k_gI ca_X0_copyFrom.2.2.2) rfl rfl rfl (C.2.1.2 _ (List.mem_of_getElem? (i := 43) rfl)) (hts _ ca_X0_copyFrom.2.2.1) pnX0_copyFrom ⟨Nat.le_of_ble_eq_true rfl, Nat.le_of_ble_eq_true rfl⟩, hts _ ca_X0_copyFrom.1, hts _ ca_X0_copyFrom.2.1⟩ hE hS hA hP hD [1, 2] [0] rfl rfl ⟨rfl, rfl, by decide⟩ (k_recv C kFX0 hP (i := 2) (q := 0) rfl rfl) rfl hl.1 rfl rfl dX4_save_8 ⟨Nat.le_of_ble_eq_true rfl, Nat.le_of_ble_eq_true rfl⟩ (fun u1 H locs hp1 hP hD hS => ?_)
  subst hp1
  have hP : kp g [X4W g oF (kFr oC oS oH oR oT oB) vF, X0W g oC rC vC aC, X0W g oS rS ((X0_copyFrom_f vC aC vS aS).1) ((X0_copyFrom_f vC aC vS aS).2)] H := hP
  have hD : kd A [X4W g oF (kFr oC oS oH oR oT oB) vF, X0W g oC rC vC aC, X0W g oS rS ((X0_copyFrom_f vC aC vS aS).1) ((X0_copyFrom_f vC aC vS aS).2)] := hD
  refine lv_aload_n hx hb dX4_save_11 rfl (lv_at hl 0 rfl) ?_
  refine lv_iconst (v := 1) hx hb dX4_save_12 (by decide) ?_
  refine kg_put C kFX4 (k := 2) kw303 hP hD hS (i := 0) (q := 0) rfl rfl (by decide) rfl rfl rfl (Nat.le_of_ble_eq_true rfl) X4s_2 rfl dX4_save_13 (fun H locs hP hD hS => ?_)
  have hP : kp g [X4W g oF (kFr oC oS oH oR oT oB) (upd vF 2 1), X0W g oC rC vC aC, X0W g oS rS ((X0_copyFrom_f vC aC vS aS).1) ((X0_copyFrom_f vC aC vS aS).2)] H := hP
  have hD : kd A [X4W g oF (kFr oC oS oH oR oT oB) (upd vF 2 1), X0W g oC rC vC aC, X0W g oS rS ((X0_copyFrom_f vC aC vS aS).1) ((X0_copyFrom_f vC aC vS aS).2)] := hD
  refine lv_aload_n hx hb dX4_save_16 rfl (lv_at hl 0 rfl) ?_
  refine kg_get (v := .ref oC) C kFX4 (k := 0) kw301 hP (i := 0) (q := 0) rfl rfl (by decide) rfl dX4_save_17 ?_
  refine kg_getN C kFX0 (k := 0) (List.mem_of_getElem? (i := 1) rfl) hP (i := 1) (q := 0) rfl rfl (by decide) rfl dX4_save_20 ?_
  have hF := (show X4_save_f vF vC aC vS aS = ((vC 0), upd vF 2 1, (X0_copyFrom_f vC aC vS aS).1, (X0_copyFrom_f vC aC vS aS).2) from rfl)
  exact kM_ret (x := (vC 0)) C hP hD hS ⟨by rw [hF], by rw [hF]⟩ dX4_save_23

abbrev wX4_restore : List Cond := Cond.code yX4_restore cX4_restore 1 (some .int) :: kW
def X4_restore_f (vF : Nat → Int32) (vC : Nat → Int32) (aC : Nat → Nat → Int32) (vS : Nat → Int32) (aS : Nat → Nat → Int32) (vH : Nat → Int32) (aH : Nat → (Nat → Int32) × (Nat → Nat → Int32)) : Nat × Int32 × (Nat → Int32) × (Nat → Nat → Int32) × (Nat → Int32) :=
  if (vF 2) = 0 then (5, 0, vC, aC, vH)
  else (0, (((X0_copyFrom_f vS aS vC aC).1) 0), (X0_copyFrom_f vS aS vC aC).1, (X0_copyFrom_f vS aS vC aC).2, upd vH 2 0)
set_option maxHeartbeats 4000000 in
set_option maxRecDepth 100000 in
theorem X4_restore_c (l : Launch) (g : kG) (oF : Nat) (vF : Nat → Int32) (oR oT oB : Nat) (oC : Nat) (rC : Nat → Nat) (vC : Nat → Int32) (aC : Nat → Nat → Int32) (oS : Nat) (rS : Nat → Nat) (vS : Nat → Int32) (aS : Nat → Nat → Int32) (oH : Nat) (rH : Nat → Nat) (vH : Nat → Int32) (oQ : Nat → Nat) (rQ : Nat → Nat → Nat) (aH : Nat → (Nat → Int32) × (Nat → Nat → Int32)) (hfl : l.stackTraces = false) : kX l yX4_restore wX4_restore 6 82 1 6 g [.ref oF] [X4W g oF (kFr oC oS oH oR oT oB) vF, X0W g oC rC vC aC, X0W g oS rS vS aS, X2W g oH rH vH oQ rQ aH] (fun x u => (X4_restore_f vF vC aC vS aS vH aH).1 = 0 ∧ x = (X4_restore_f vF vC aC vS aS vH aH).2.1 ∧ u = [X4W g oF (kFr oC oS oH oR oT oB) vF, X0W g oC rC ((X4_restore_f vF vC aC vS aS vH aH).2.2.1) ((X4_restore_f vF vC aC vS aS vH aH).2.2.2.1), X0W g oS rS vS aS, X2W g oH rH ((X4_restore_f vF vC aC vS aS vH aH).2.2.2.2) oQ rQ aH]) (fun E u => (X4_restore_f vF vC aC vS aS vH aH).1 ≠ 0 ∧ E = kEx (X4_restore_f vF vC aC vS aS vH aH).1 ∧ u = [X4W g oF (kFr oC oS oH oR oT oB) vF, X0W g oC rC ((X4_restore_f vF vC aC vS aS vH aH).2.2.1) ((X4_restore_f vF vC aC vS aS vH aH).2.2.2.1), X0W g oS rS vS aS, X2W g oH rH ((X4_restore_f vF vC aC vS aS vH aH).2.2.2.2) oQ rQ aH]) := by
  refine kX_of (cc := cX4_restore) (nL := 1) (ret := (some .int)) (lv := [(0, .ref oF)]) (by decide) rfl (Nat.le_of_ble_eq_true rfl) rfl ?_
  intro p e s m args below meth c ls A htb C hP hD hE hA hS hl
  have C : kC p c cX4_restore s m args meth RX4 g 1 (some .int) := C
  have hx := C.1.1
  have hb := C.1.2.1
  have hts := C.1.2.2.2.2
  refine lv_aload_n hx hb dX4_restore_0 rfl (lv_at hl 0 rfl) ?_
  refine kg_get C kFX4 (k := 2) kw303 hP (i := 0) (q := 0) rfl rfl (by decide) rfl dX4_restore_1 ?_
  refine lv_if_ne (tgt := 18) hx hb dX4_restore_4 (by decide) (fun c1 => ?_) (fun c1 => ?_)
  · refine lv_aload_n hx hb dX4_restore_18 rfl (lv_at hl 0 rfl) ?_
    refine kg_get (v := .ref oC) C kFX4 (k := 0) kw301 hP (i := 0) (q := 0) rfl rfl (by decide) rfl dX4_restore_19 ?_
    refine lv_aload_n hx hb dX4_restore_22 rfl (lv_at hl 0 rfl) ?_
    refine kg_get (v := .ref oS) C kFX4 (k := 1) kw302 hP (i := 0) (q := 0) rfl rfl (by decide) rfl dX4_restore_23 ?_
    refine kV_VN (As := [.ref oS]) (rest := []) (wr := [X4W g oF (kFr oC oS oH oR oT oB) vF, X2W g oH rH vH oQ rQ aH]) C (X0_copyFrom_c l g oS rS vS aS oC rC vC aC) ⟨va_cnB (host := "SpiceScale") 1 hts (k_gI ca_X0_copyFrom.2.2.2) rfl rfl rfl (C.2.1.2 _ (List.mem_of_getElem? (i := 43) rfl)) (hts _ ca_X0_copyFrom.2.2.1) pnX0_copyFrom ⟨Nat.le_of_ble_eq_true rfl, Nat.le_of_ble_eq_true rfl⟩, hts _ ca_X0_copyFrom.1, hts _ ca_X0_copyFrom.2.1⟩ hE hS hA hP hD [2, 1] [0, 3] rfl rfl ⟨rfl, rfl, by decide⟩ (k_recv C kFX0 hP (i := 1) (q := 0) rfl rfl) rfl hl.1 rfl rfl dX4_restore_26 ⟨Nat.le_of_ble_eq_true rfl, Nat.le_of_ble_eq_true rfl⟩ (fun u2 H locs hp2 hP hD hS => ?_)
    subst hp2
    have hP : kp g [X4W g oF (kFr oC oS oH oR oT oB) vF, X2W g oH rH vH oQ rQ aH, X0W g oS rS vS aS, X0W g oC rC ((X0_copyFrom_f vS aS vC aC).1) ((X0_copyFrom_f vS aS vC aC).2)] H := hP
    have hD : kd A [X4W g oF (kFr oC oS oH oR oT oB) vF, X2W g oH rH vH oQ rQ aH, X0W g oS rS vS aS, X0W g oC rC ((X0_copyFrom_f vS aS vC aC).1) ((X0_copyFrom_f vS aS vC aC).2)] := hD
    refine lv_aload_n hx hb dX4_restore_29 rfl (lv_at hl 0 rfl) ?_
    refine kg_get (v := .ref oH) C kFX4 (k := 3) kw304 hP (i := 0) (q := 0) rfl rfl (by decide) rfl dX4_restore_30 ?_
    refine lv_iconst (v := 0) hx hb dX4_restore_33 (by decide) ?_
    refine kg_putN C kFX2 (k := 2) (List.mem_of_getElem? (i := 32) rfl) hP hD hS (i := 1) (q := 0) rfl rfl (by decide) rfl rfl rfl (Nat.le_of_ble_eq_true rfl) X2s_2 rfl dX4_restore_34 (fun H locs hP hD hS => ?_)
    have hP : kp g [X4W g oF (kFr oC oS oH oR oT oB) vF, X2W g oH rH (upd vH 2 0) oQ rQ aH, X0W g oS rS vS aS, X0W g oC rC ((X0_copyFrom_f vS aS vC aC).1) ((X0_copyFrom_f vS aS vC aC).2)] H := hP
    have hD : kd A [X4W g oF (kFr oC oS oH oR oT oB) vF, X2W g oH rH (upd vH 2 0) oQ rQ aH, X0W g oS rS vS aS, X0W g oC rC ((X0_copyFrom_f vS aS vC aC).1) ((X0_copyFrom_f vS aS vC aC).2)] := hD
    refine lv_aload_n hx hb dX4_restore_37 rfl (lv_at hl 0 rfl) ?_
    refine kg_get (v := .ref oC) C kFX4 (k := 0) kw301 hP (i := 0) (q := 0) rfl rfl (by decide) rfl dX4_restore_38 ?_
    refine kg_getN C kFX0 (k := 0) (List.mem_of_getElem? (i := 1) rfl) hP (i := 3) (q := 0) rfl rfl (by decide) rfl dX4_restore_41 ?_
    have hP : kp g [X4W g oF (kFr oC oS oH oR oT oB) vF, X0W g oC rC ((X0_copyFrom_f vS aS vC aC).1) ((X0_copyFrom_f vS aS vC aC).2), X0W g oS rS vS aS, X2W g oH rH (upd vH 2 0) oQ rQ aH] _ := hP.pick [0, 3, 2, 1] rfl
    have hD : kd A [X4W g oF (kFr oC oS oH oR oT oB) vF, X0W g oC rC ((X0_copyFrom_f vS aS vC aC).1) ((X0_copyFrom_f vS aS vC aC).2), X0W g oS rS vS aS, X2W g oH rH (upd vH 2 0) oQ rQ aH] := hD.pick [0, 3, 2, 1] rfl rfl
    have hF := (show X4_restore_f vF vC aC vS aS vH aH = (0, (((X0_copyFrom_f vS aS vC aC).1) 0), (X0_copyFrom_f vS aS vC aC).1, (X0_copyFrom_f vS aS vC aC).2, upd vH 2 0) from (if_neg c1).trans (rfl))
    exact kX_ret (x := (((X0_copyFrom_f vS aS vC aC).1) 0)) C hP hD hS ⟨by rw [hF], by rw [hF], by rw [hF]⟩ ⟨Nat.le_of_ble_eq_true rfl, Nat.le_of_ble_eq_true rfl⟩ dX4_restore_44
  have hF := (show X4_restore_f vF vC aC vS aS vH aH = (5, 0, vC, aC, vH) from (if_pos c1).trans (rfl))
  exact kX_throw (names := ["java/lang/RuntimeException", "java/lang/Exception"]) C hfl htb (by decide) (by decide) kw849 kw81 (List.mem_of_getElem? (i := 16) rfl) kx_at_IllegalStateException hE hS hl.1 hP hD ⟨by rw [hF]; exact (by decide : (5 : Nat) ≠ 0), by rw [hF]; rfl, by rw [hF]⟩ dX4_restore_7 dX4_restore_10 dX4_restore_11 dX4_restore_14 dX4_restore_17 (by decide) (Nat.le_of_ble_eq_true rfl) ⟨Nat.le_of_ble_eq_true rfl, Nat.le_of_ble_eq_true rfl⟩ ⟨Nat.le_of_ble_eq_true rfl, Nat.le_of_ble_eq_true rfl⟩
