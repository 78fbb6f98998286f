/-! the object in the law's world: its Caravan, its snapshot, what was kept as a list, the reason, the text, the line -/
abbrev kK : Type := (Nat → Int32) × (Nat → Nat → Int32)
def kF0 : Nat → Int32 := fun _ => 0
def kA0 : Nat → Nat → Int32 := fun _ _ => 0
def kN (c : kK) : kK := X0_copyFrom_f c.1 c.2 kF0 kA0
theorem kN_W {g : kG} {o : Nat} {r : Nat → Nat} (c : kK) : X0W g o r (kN c).1 (kN c).2 = X0W g o r c.1 c.2 := rfl
theorem kN_N (c : kK) : kN (kN c) = kN c := rfl
theorem kN_cp (c d : kK) : kN (X0_copyFrom_f c.1 c.2 d.1 d.2) = kN c := rfl
theorem kN_ic {c : kK} (h : kIC c.1) : kIC (kN c).1 := h
def kHi (vH : Nat → Int32) (aH : Nat → kK) (h : List kK) : Prop := ∃ hd, hd < 9 ∧ vH 1 = nI hd ∧ h.length ≤ 8 ∧ vH 2 = nI h.length ∧ ∀ i c, h[i]? = some c → kN (aH ((hd + 8 - i) % 9)) = c
def kPush (C : kK) (h : List kK) : List kK := (kN C :: h).take 8
theorem kHi.in9 {vH : Nat → Int32} {aH : Nat → kK} {h : List kK} (H : kHi vH aH h) : vp_in (vH 1) 9 := by
  obtain ⟨hd, h1, h2, -⟩ := H
  rw [h2]
  exact vp_in_nI h1 (by omega)
theorem kHi.len {vH : Nat → Int32} {aH : Nat → kK} {h : List kK} (H : kHi vH aH h) : h.length ≤ 8 := H.choose_spec.2.2.1
theorem kHi.kept {vH : Nat → Int32} {aH : Nat → kK} {h : List kK} (H : kHi vH aH h) : vH 2 = nI h.length := H.choose_spec.2.2.2.1
theorem kHi.hold {vH : Nat → Int32} {aH : Nat → kK} {h : List kK} (C : kK) (H : kHi vH aH h) : kHi vH (X2_hold_f vH aH C.1 C.2) h := by
  obtain ⟨hd, h1, h2, h3, h4, h5⟩ := H
  refine ⟨hd, h1, h2, h3, h4, fun i c hc => ?_⟩
  have hi : i < 8 := by have := (List.getElem?_eq_some_iff.mp hc).1; omega
  have e : X2_hold_f vH aH C.1 C.2 ((hd + 8 - i) % 9) = aH ((hd + 8 - i) % 9) := by
    unfold X2_hold_f va_up
    rw [h2, nI_clamp (by omega)]
    exact if_neg (by omega)
  rw [e]
  exact h5 i c hc
theorem kHi.push {vH : Nat → Int32} {aH : Nat → kK} {h : List kK} (C : kK) (H : kHi vH aH h) : kHi (X2_keepHeld_f vH (X2_hold_f vH aH C.1 C.2)) (X2_hold_f vH aH C.1 C.2) (kPush C h) := by
  obtain ⟨hd, h1, h2, h3, h4, h5⟩ := H
  have eA : ∀ j, j < 9 → j ≠ hd → X2_hold_f vH aH C.1 C.2 j = aH j := by
    intro j hj hne
    unfold X2_hold_f va_up
    rw [h2, nI_clamp (by omega)]
    exact if_neg hne
  have eN : kN (X2_hold_f vH aH C.1 C.2 hd) = kN C := by
    unfold X2_hold_f va_up
    rw [h2, nI_clamp (by omega), if_pos rfl]
    exact kN_cp C _
  have e1 : (X2_keepHeld_f vH (X2_hold_f vH aH C.1 C.2)) 1 = nI ((hd + 1) % 9) := by
    show (vH 1 + 1) - (vH 1 + 1) / 9 * 9 = _
    rw [h2]
    exact (by decide : ∀ k, k < 9 → (nI k + 1) - (nI k + 1) / 9 * 9 = nI ((k + 1) % 9)) hd h1
  have e2 : (X2_keepHeld_f vH (X2_hold_f vH aH C.1 C.2)) 2 = nI (kPush C h).length := by
    show (if 8 < (vH 2 + 1) then 8 else vH 2 + 1) = _
    rw [h4]
    unfold kPush
    rw [List.length_take, List.length_cons]
    exact (by decide : ∀ k, k < 9 → (if 8 < (nI k + 1) then 8 else nI k + 1) = nI (min 8 (k + 1))) h.length (by omega)
  refine ⟨(hd + 1) % 9, Nat.mod_lt _ (by omega), e1, ?_, e2, fun i c hc => ?_⟩
  · unfold kPush
    rw [List.length_take]
    omega
  · unfold kPush at hc
    rw [List.getElem?_take] at hc
    by_cases hi : i < 8
    · rw [if_pos hi] at hc
      cases i with
      | zero =>
        have : c = kN C := by simpa using hc.symm
        rw [this, show ((hd + 1) % 9 + 8 - 0) % 9 = hd by omega]
        exact eN
      | succ i =>
        have hc2 : h[i]? = some c := by simpa using hc
        have hl : i < h.length := (List.getElem?_eq_some_iff.mp hc2).1
        rw [show ((hd + 1) % 9 + 8 - (i + 1)) % 9 = (hd + 8 - i) % 9 by omega, eA _ (Nat.mod_lt _ (by omega)) (by omega)]
        exact h5 i c hc2
    · rw [if_neg hi] at hc
      cases hc
theorem kHi.undo {vH : Nat → Int32} {aH : Nat → kK} {c : kK} {t : List kK} (D : kK) (H : kHi vH aH (c :: t)) : kHi (X2_takeBack_f vH aH D.1 D.2).1 aH t ∧ kN (X2_takeBack_f vH aH D.1 D.2).2 = c ∧ (X2_takeBack_f vH aH D.1 D.2).1 2 = nI t.length := by
  obtain ⟨hd, h1, h2, h3, h4, h5⟩ := H
  have e0 : vH 1 + 9 - 1 - (vH 1 + 9 - 1) / 9 * 9 = nI ((hd + 8) % 9) := by
    rw [h2]
    exact (by decide : ∀ k, k < 9 → nI k + 9 - 1 - (nI k + 9 - 1) / 9 * 9 = nI ((k + 8) % 9)) hd h1
  have e1 : (X2_takeBack_f vH aH D.1 D.2).1 1 = nI ((hd + 8) % 9) := e0
  have e2 : (X2_takeBack_f vH aH D.1 D.2).1 2 = nI t.length := by
    show vH 2 - 1 = _
    rw [h4, List.length_cons]
    exact nI_pred _
  refine ⟨⟨(hd + 8) % 9, Nat.mod_lt _ (by omega), e1, ?_, e2, fun i x hx => ?_⟩, ?_, e2⟩
  · simp only [List.length_cons] at h3
    omega
  · have hi : i < t.length := (List.getElem?_eq_some_iff.mp hx).1
    have hl : t.length + 1 ≤ 8 := by simpa using h3
    have := h5 (i + 1) x (by simpa using hx)
    rw [show ((hd + 8) % 9 + 8 - i) % 9 = (hd + 8 - (i + 1)) % 9 by omega]
    exact this
  · have e3 : (X2_takeBack_f vH aH D.1 D.2).2 = X0_copyFrom_f (aH ((hd + 8) % 9)).1 (aH ((hd + 8) % 9)).2 D.1 D.2 := by
      unfold X2_takeBack_f
      rw [e0, nI_clamp (by omega)]
    rw [e3, kN_cp]
    have := h5 0 c rfl
    rw [Nat.sub_zero] at this
    exact this
theorem kHi.none {vH : Nat → Int32} {aH : Nat → kK} {h : List kK} (H : kHi vH aH h) : kHi (upd vH 2 0) aH [] := by
  obtain ⟨hd, h1, h2, -⟩ := H
  exact ⟨hd, h1, h2, by simp, rfl, fun i c hc => by simp at hc⟩
theorem kHi.nil {vH : Nat → Int32} {aH : Nat → kK} {h : List kK} (H : kHi vH aH h) (e : vH 2 = 0) : h = [] := by
  have := H.kept.symm.trans e
  have hl := H.len
  cases h with
  | nil => rfl
  | cons c t => exact absurd this (nI_ne0 (by simp) (by omega))
/-- what holds of the object's parts -/
def kIv (C S : kK) (h : List kK) (T : kK) : Prop := kIC C.1 ∧ kIC S.1 ∧ (∀ c ∈ h, kIC c.1) ∧ (∃ n : Nat, n ≤ 60 ∧ T.1 1 = nI n) ∧ kN C = C
theorem kIv.chg {C S D : kK} {h : List kK} {T : kK} (H : kIv C S h T) (hD : kIC D.1) : kIv (kN D) S (kPush C h) T :=
  ⟨kN_ic hD, H.2.1, fun c hc => by
    rcases List.mem_cons.mp (List.mem_of_mem_take hc) with rfl | hc
    · exact kN_ic H.1
    · exact H.2.2.1 c hc, H.2.2.2.1, kN_N D⟩
theorem kIv.txt {C S : kK} {h : List kK} {T T' : kK} (H : kIv C S h T) (hT : ∃ n : Nat, n ≤ 60 ∧ T'.1 1 = nI n) : kIv C S h T' := ⟨H.1, H.2.1, H.2.2.1, hT, H.2.2.2.2⟩
theorem kIv.undo {C S c : kK} {t : List kK} {T : kK} (H : kIv C S (c :: t) T) (hc : kN c = c) : kIv c S t T := ⟨H.2.2.1 c List.mem_cons_self, H.2.1, fun d hd => H.2.2.1 d (List.mem_cons_of_mem _ hd), H.2.2.2.1, hc⟩
theorem kIv.save {C S : kK} {h : List kK} {T : kK} (H : kIv C S h T) : kIv C C h T := ⟨H.1, H.1, H.2.2⟩
theorem kIv.rest {C S : kK} {h : List kK} {T : kK} (H : kIv C S h T) : kIv (kN S) S [] T := ⟨kN_ic H.2.1, H.2.1, fun c hc => absurd hc List.not_mem_nil, H.2.2.2.1, kN_N S⟩
def kOb (g : kG) (oF : Nat) (F : Nat → Int32) (C S : kK) (h : List kK) (R : Nat → Int32) (T : kK) (ln : kTx) (u : List va_W) : Prop :=
  ∃ (oC oS oH oR oT oB : Nat) (rC rS rH rR rT : Nat → Nat) (oQ : Nat → Nat) (rQ : Nat → Nat → Nat) (vH : Nat → Int32) (aH : Nat → kK) (q n : Nat) (ml : Int32) (f : Nat → Int32),
    u = [X4W g oF (kFr oC oS oH oR oT oB) F, X0W g oC rC C.1 C.2, X0W g oS rS S.1 S.2, X2W g oH rH vH oQ rQ aH, X3W g oR rR R kA0, X1W g oT rT T.1 T.2, JOW oB q ml (nI ln.2), JAW g q n f] ∧ ((n = 16 ∨ n = 34) ∧ ln.2 ≤ n ∧ sb_Fit f ∧ sb_Lat ln.1 ln.2 f) ∧ kHi vH aH h ∧ kIv C S h T
/-- a change: refused, or carried out -/
def kAp (C : kK) (R : Nat → Int32) (a p1 p2 p3 : Int32) : Bool × (Nat → Int32) := X3_applies_f C.1 C.2 R kA0 a p1 p2 p3
def kCo (C : kK) (a p1 p2 p3 : Int32) : Int32 × kK := X0_carryOut_f C.1 C.2 a p1 p2 p3
def kChg (g : kG) (oF : Nat) (F : Nat → Int32) (C S : kK) (h : List kK) (R : Nat → Int32) (T : kK) (ln : kTx) (a p1 p2 p3 : Int32) (x : Int32) (u : List va_W) : Prop :=
  ∃ R1 : Nat → Int32, R1 = (kAp C R a p1 p2 p3).2 ∧
  (((kAp C R a p1 p2 p3).1 = true ∧ x = -1001 ∧ kOb g oF F C S h R1 T ln u) ∨
   ((kAp C R a p1 p2 p3).1 = false ∧ ∃ D : kK, D = (kCo C a p1 p2 p3).2 ∧ x = (kCo C a p1 p2 p3).1 ∧ kOb g oF F (kN D) S (kPush C h) R1 T ln u))
theorem kc_ch (F : Nat → Int32) (C : kK) (vH : Nat → Int32) (aH : Nat → kK) (R : Nat → Int32) (a p1 p2 p3 : Int32) : ∃ R1 : Nat → Int32, R1 = (kAp C R a p1 p2 p3).2 ∧
    (((kAp C R a p1 p2 p3).1 = true ∧ X4_change_f F C.1 C.2 vH aH R kA0 a p1 p2 p3 = (1, 0, C.1, C.2, vH, aH, R1)) ∨
     ((kAp C R a p1 p2 p3).1 = false ∧ ∃ (x1 : Int32) (D : kK), D = (kCo C a p1 p2 p3).2 ∧ x1 = (kCo C a p1 p2 p3).1 ∧ X4_change_f F C.1 C.2 vH aH R kA0 a p1 p2 p3 = (0, x1, D.1, D.2, X2_keepHeld_f vH (X2_hold_f vH aH C.1 C.2), X2_hold_f vH aH C.1 C.2, R1))) := by
  refine ⟨_, rfl, ?_⟩
  cases hap : (kAp C R a p1 p2 p3).1 with
  | true => exact Or.inl ⟨rfl, if_pos hap⟩
  | false => exact Or.inr ⟨rfl, _, _, rfl, rfl, if_neg (by rw [show (X3_applies_f C.1 C.2 R kA0 a p1 p2 p3).1 = false from hap]; decide)⟩
theorem kco_ic {C : kK} {R : Nat → Int32} {a p1 p2 p3 : Int32} (hI : kIC C.1) (h : (kAp C R a p1 p2 p3).1 = false) : kIC (kCo C a p1 p2 p3).2.1 := by
  obtain ⟨⟨nb, hnb, h7⟩, ⟨nj, hnj, h4⟩, hM⟩ := id hI
  exact X0_carryOut_ic hI (X3_applies_ok hnb h7 hnj h4 (by rw [show (X3_applies_f C.1 C.2 R kA0 a p1 p2 p3).1 = false from h]; decide))
def kA1 (r : Nat × Int32) : Int32 := if r.1 = 0 then r.2 else -1001
def kA2 (c : Nat) (r : Nat × Int32) : Int32 := if r.1 = 0 then r.2 else if r.1 = c then -1001 else -1002
