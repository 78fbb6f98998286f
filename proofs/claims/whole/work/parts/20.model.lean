/-- what a command leaves alone: the first fields; the other rows; the counts and the market in range -/
def kI5 (a : Nat → Nat → Int32) : Prop := (∃ n : Nat, n ≤ 6 ∧ a 0 5 = nI n) ∧ (∃ n : Nat, n ≤ 6 ∧ a 0 4 = nI n) ∧ vp_in (a 0 1) 4
def k5v (v v' : Nat → Int32) : Prop := ∀ k, k < 14 → v' k = v k
theorem k5v.rf {v : Nat → Int32} : k5v v v := fun _ _ => rfl
theorem k5v.up {v v' : Nat → Int32} (h : k5v v v') {i : Nat} {x : Int32} (hi : 14 ≤ i) : k5v v (upd v' i x) := fun k hk => (pk_un (by omega)).trans (h k hk)
theorem k5v.tr {v v' v'' : Nat → Int32} (h : k5v v v') (h' : k5v v' v'') : k5v v v'' := fun k hk => (h' k hk).trans (h k hk)
def k5p (a a' : Nat → Nat → Int32) : Prop := (∀ k, k ≠ 0 → a' k = a k) ∧ a' 0 1 = a 0 1 ∧ a' 0 4 = a 0 4 ∧ a' 0 5 = a 0 5
def k5q (a a' : Nat → Nat → Int32) : Prop := (∀ k, k ≠ 0 → a' k = a k) ∧ (kI5 a → kI5 a')
theorem k5p.rf {a : Nat → Nat → Int32} : k5p a a := ⟨fun _ _ => rfl, rfl, rfl, rfl⟩
theorem k5p.tr {a a' a'' : Nat → Nat → Int32} (h : k5p a a') (h' : k5p a' a'') : k5p a a'' := ⟨fun k hk => (h'.1 k hk).trans (h.1 k hk), h'.2.1.trans h.2.1, h'.2.2.1.trans h.2.2.1, h'.2.2.2.trans h.2.2.2⟩
theorem k5p.q {a a' : Nat → Nat → Int32} (h : k5p a a') : k5q a a' := ⟨h.1, fun hI => ⟨by rw [h.2.2.2]; exact hI.1, by rw [h.2.2.1]; exact hI.2.1, by rw [h.2.1]; exact hI.2.2⟩⟩
theorem k5q.rf {a : Nat → Nat → Int32} : k5q a a := k5p.rf.q
theorem k5p.up {a a' : Nat → Nat → Int32} (h : k5p a a') {i : Nat} {x : Int32} (hi : i ≠ 1 ∧ i ≠ 4 ∧ i ≠ 5) : k5p a (va_up a' 0 (upd (a' 0) i x)) :=
  ⟨fun k hk => (if_neg hk).trans (h.1 k hk), (pk_un (f := a' 0) (fun e => hi.1 e.symm)).trans h.2.1, (pk_un (f := a' 0) (fun e => hi.2.1 e.symm)).trans h.2.2.1, (pk_un (f := a' 0) (fun e => hi.2.2 e.symm)).trans h.2.2.2⟩
theorem k5_off {x d : Int32} {c n : Nat} (hd : d = nI c) (h : vp_in x n) (hb : c + n < 2 ^ 31) (h6 : 6 ≤ c) : (d + x).toNatClampNeg ≠ 1 ∧ (d + x).toNatClampNeg ≠ 4 ∧ (d + x).toNatClampNeg ≠ 5 := by
  rw [k_offn hd h hb]
  omega
theorem k5_jar {x : Int32} (h : vp_in x 6) : (22 + 2 * x + 1).toNatClampNeg ≠ 1 ∧ (22 + 2 * x + 1).toNatClampNeg ≠ 4 ∧ (22 + 2 * x + 1).toNatClampNeg ≠ 5 := by
  obtain ⟨j, hj, rfl⟩ := vp_in_of h (by omega)
  rw [show (22 : Int32) = nI 22 from rfl, show (2 : Int32) = nI 2 from rfl, pk_mul, nI_add, nI_1, nI_clamp (by omega)]
  omega
theorem k5p.sets {v : Nat → Int32} {a a' : Nat → Nat → Int32} {p w x : Int32} (h : k5p a a') (hb : vp_in p 6) (hw : ∃ c : Nat, c < 5 ∧ w = nI c) : k5p a (X5_sets_f v a' p w x) := by
  obtain ⟨c, hc, e⟩ := hw
  refine h.up ?_
  rw [k_ofn hb e hc]
  omega
theorem k5p.clears {v : Nat → Int32} {a a' : Nat → Nat → Int32} {p : Int32} (h : k5p a a') (hb : vp_in p 6) : k5p a (X5_clears_f v a' p) := (h.sets (v := v) hb ⟨2, by omega, rfl⟩).sets (v := v) hb ⟨3, by omega, rfl⟩
theorem X5_scales_lv {vM0 : Nat → Int32} {aM : Nat → Nat → Int32} {p0 : Int32} : ∀ (n : Nat) (x y : Int32) (vM : Nat → Int32), k5v vM (X5_scales_lp15 vM0 aM p0 n x y vM).2 := by
  intro n
  induction n with
  | zero => intro x y vM; exact k5v.rf
  | succ n ih =>
    intro x y vM
    rw [X5_scales_lp15_s]
    unfold X5_scales_lp15b
    (repeat' split) <;> first | exact k5v.rf | exact ih _ _ _ | exact ((k5v.rf.up (by omega)).up (by omega)).tr (ih _ _ _)
theorem X5_scales_v {vM : Nat → Int32} {aM : Nat → Nat → Int32} {p0 : Int32} : k5v vM (X5_scales_f vM aM p0).2 := ((k5v.rf.up (by omega)).up (by omega)).tr (X5_scales_lv _ _ _ _)
theorem X5_weighs_lw {vM : Nat → Int32} {aM0 : Nat → Nat → Int32} {p0 : Int32} (hb : vp_in p0 6) : ∀ (n j : Nat) (x : Int32) (aM : Nat → Nat → Int32), j ≤ 8 → k5v vM (X5_weighs_lp12 vM aM0 p0 n x (nI j) aM).2.1 ∧ k5p aM (X5_weighs_lp12 vM aM0 p0 n x (nI j) aM).2.2 := by
  intro n
  induction n with
  | zero => intro j x aM h; exact ⟨k5v.rf, k5p.rf⟩
  | succ n ih =>
    intro j x aM h
    rw [X5_weighs_lp12_s]
    unfold X5_weighs_lp12b
    split
    · exact ⟨X5_scales_v, k5p.rf.sets (v := vM) hb ⟨4, by omega, rfl⟩⟩
    · rename_i c
      have hj : j < 8 := k_asc rfl (y := 8) (N := 8) rfl h (by omega) c
      rw [nI_1]
      obtain ⟨h1, h2⟩ := ih (j + 1) x _ hj
      exact ⟨h1, (k5p.rf.up (k5_off (c := 14) rfl (vp_in_nI hj (by omega)) (by omega) (by omega))).tr h2⟩
theorem X5_weighs_w {vM : Nat → Int32} {aM : Nat → Nat → Int32} {p0 : Int32} (hb : vp_in p0 6) : k5v vM (X5_weighs_f vM aM p0).2.1 ∧ k5p aM (X5_weighs_f vM aM p0).2.2 := X5_weighs_lw hb _ 0 _ _ (by omega)
theorem X5_passes_lw {vM : Nat → Int32} {aM0 : Nat → Nat → Int32} {p0 : Int32} {nb : Nat} (hnb : nb ≤ 6) : ∀ (n j : Nat) (aM : Nat → Nat → Int32), aM 0 5 = nI nb → j ≤ nb → k5p aM (X5_passes_lp12 vM aM0 p0 n (nI j) aM) := by
  intro n
  induction n with
  | zero => intro j aM h hj; exact k5p.rf
  | succ n ih =>
    intro j aM h hj
    rw [X5_passes_lp12_s]
    unfold X5_passes_lp12b
    split
    · exact k5p.rf
    · rename_i c
      have hj : j < nb := k_asc rfl h hj (by omega) c
      rw [nI_1]
      have e : k5p aM (X5_sets_f vM aM (nI j) 1 (if X5_of_f vM aM (nI j) 1 + p0 < 20 then X5_of_f vM aM (nI j) 1 + p0 else 20)) := k5p.rf.sets (v := vM) (vp_in_nI (by omega) (by omega)) ⟨1, by omega, rfl⟩
      exact e.tr (ih _ _ (e.2.2.2.trans h) hj)
theorem X5_passes_w {vM : Nat → Int32} {aM : Nat → Nat → Int32} {p0 : Int32} (h : ∃ n : Nat, n ≤ 6 ∧ aM 0 5 = nI n) : k5p aM (X5_passes_f vM aM p0) := by
  obtain ⟨nb, hnb, e⟩ := h
  exact (k5p.rf.up (by omega)).tr (X5_passes_lw (vM := vM) (aM0 := aM) (p0 := p0) hnb 7 0 _ e (by omega))
theorem k5_ref {v : Nat → Int32} {x y z : Int32} : k5v v (upd (upd (upd v 14 x) 15 y) 17 z) := ((k5v.rf.up (by omega)).up (by omega)).up (by omega)
theorem k5_does {v : Nat → Int32} {x : Int32} : k5v v (upd v 18 x) := k5v.rf.up (by omega)
theorem X5_fills_w {vM : Nat → Int32} {aM : Nat → Nat → Int32} {p0 p1 p2 : Int32} (hI : kI5 aM) : k5v vM (X5_fills_f vM aM p0 p1 p2).2.1 ∧ k5q aM (X5_fills_f vM aM p0 p1 p2).2.2 := by
  unfold X5_fills_f
  by_cases c1 : X5_isBag_f vM aM p0 = true
  · rw [if_pos c1]
    have hb := k_isBag c1 hI.1
    by_cases c2 : X5_isJar_f vM aM p1 = true
    · rw [if_pos c2]
      have hj := k_isJar c2 hI.2.1
      (repeat' split) <;> first | exact ⟨k5_ref, k5q.rf⟩ | exact ⟨k5_does, (((k5p.rf.up (k5_jar hj)).sets (v := vM) hb ⟨2, by omega, rfl⟩).sets (v := vM) hb ⟨3, by omega, rfl⟩).q⟩
    · rw [if_neg c2]; exact ⟨k5_ref, k5q.rf⟩
  · rw [if_neg c1]; exact ⟨k5_ref, k5q.rf⟩
theorem X5_empties_w {vM : Nat → Int32} {aM : Nat → Nat → Int32} {p0 p1 : Int32} (hI : kI5 aM) : k5v vM (X5_empties_f vM aM p0 p1).2.1 ∧ k5q aM (X5_empties_f vM aM p0 p1).2.2 := by
  unfold X5_empties_f
  by_cases c1 : X5_isBag_f vM aM p0 = true
  · rw [if_pos c1]
    have hb := k_isBag c1 hI.1
    by_cases c2 : X5_isJar_f vM aM p1 = true
    · rw [if_pos c2]
      have hj := k_isJar c2 hI.2.1
      (repeat' split) <;> first | exact ⟨k5_ref, k5q.rf⟩ | exact ⟨k5_does, ((k5p.rf.up (k5_jar hj)).clears (v := vM) hb).q⟩
    · rw [if_neg c2]; exact ⟨k5_ref, k5q.rf⟩
  · rw [if_neg c1]; exact ⟨k5_ref, k5q.rf⟩
theorem X5_beats_w {vM : Nat → Int32} {aM : Nat → Nat → Int32} {p0 : Int32} (hI : kI5 aM) : k5v vM (X5_beats_f vM aM p0).2.1 ∧ k5q aM (X5_beats_f vM aM p0).2.2 := by
  unfold X5_beats_f
  by_cases c1 : X5_isBag_f vM aM p0 = true
  · rw [if_pos c1]
    exact ⟨k5_does, (k5p.rf.sets (v := vM) (k_isBag c1 hI.1) ⟨1, by omega, rfl⟩).q⟩
  · rw [if_neg c1]; exact ⟨k5_ref, k5q.rf⟩
theorem X5_presses_w {vM : Nat → Int32} {aM : Nat → Nat → Int32} {p0 : Int32} : k5v vM (X5_presses_f vM aM p0).2.1 ∧ k5q aM (X5_presses_f vM aM p0).2.2 := by
  unfold X5_presses_f
  (repeat' split) <;> first | exact ⟨k5_ref, k5q.rf⟩ | exact ⟨k5_does, (k5p.rf.up (by omega)).q⟩
theorem X5_weighsBag_w {vM : Nat → Int32} {aM : Nat → Nat → Int32} {p0 : Int32} (hI : kI5 aM) : k5v vM (X5_weighsBag_f vM aM p0).2.1 ∧ k5q aM (X5_weighsBag_f vM aM p0).2.2 := by
  unfold X5_weighsBag_f
  by_cases c1 : X5_isBag_f vM aM p0 = true
  · rw [if_pos c1]
    obtain ⟨h1, h2⟩ := X5_weighs_w (vM := vM) (aM := aM) (k_isBag c1 hI.1)
    exact ⟨h1.up (by omega), h2.q⟩
  · rw [if_neg c1]; exact ⟨k5_ref, k5q.rf⟩
theorem X5_sells_w {vM : Nat → Int32} {aM : Nat → Nat → Int32} {p0 : Int32} (hI : kI5 aM) : k5v vM (X5_sells_f vM aM p0).2.1 ∧ k5q aM (X5_sells_f vM aM p0).2.2 := by
  unfold X5_sells_f
  by_cases c1 : X5_isBag_f vM aM p0 = true
  · rw [if_pos c1]
    have hb := k_isBag c1 hI.1
    obtain ⟨h1, h2⟩ := X5_weighs_w (vM := (X5_scales_f vM aM (X5_load_f vM aM p0)).2) (aM := aM) hb
    split
    · exact ⟨k5_ref, k5q.rf⟩
    split
    · split
      · exact ⟨(X5_scales_v.tr h1).up (by omega), ((((((h2.up (i := 2) (by omega)).up (i := 9) (by omega)).up (i := 6) (by omega)).up (i := 7) (by omega)).up (i := 8) (by omega)).clears (v := vM) hb).q⟩
      · exact ⟨X5_scales_v.tr k5_ref, k5q.rf⟩
    · exact ⟨k5_ref, k5q.rf⟩
  · rw [if_neg c1]; exact ⟨k5_ref, k5q.rf⟩
theorem X5_swears__w {vM : Nat → Int32} {aM : Nat → Nat → Int32} (hI : kI5 aM) : k5v vM (X5_swears__f vM aM).2.1 ∧ k5q aM (X5_swears__f vM aM).2.2 := by
  unfold X5_swears__f
  (repeat' split) <;> first | exact ⟨k5_ref, k5q.rf⟩ | exact ⟨k5_does, (k5p.rf.up (k5_off (c := 10) rfl hI.2.2 (by omega) (by omega))).q⟩
theorem X5_seals_w {vM : Nat → Int32} {aM : Nat → Nat → Int32} {p0 : Int32} : k5v vM (X5_seals_f vM aM p0).2.1 ∧ k5q aM (X5_seals_f vM aM p0).2.2 := by
  unfold X5_seals_f
  by_cases c1 : X5_isWeight_f p0 = true
  · rw [if_pos c1]
    split
    · exact ⟨k5_does, ((k5p.rf.up (i := 2) (by omega)).up (k5_off (c := 14) rfl (k_isWeight5 c1) (by omega) (by omega))).q⟩
    · exact ⟨k5_ref, k5q.rf⟩
  · rw [if_neg c1]; exact ⟨k5_ref, k5q.rf⟩
theorem X5_rests_w {vM : Nat → Int32} {aM : Nat → Nat → Int32} {p0 : Int32} (hI : kI5 aM) : k5v vM (X5_rests_f vM aM p0).2.1 ∧ k5q aM (X5_rests_f vM aM p0).2.2 := by
  unfold X5_rests_f
  split
  · exact ⟨k5_does, (X5_passes_w hI.1).q⟩
  · exact ⟨k5_ref, k5q.rf⟩
theorem k5q.mkt {a a' : Nat → Nat → Int32} {x : Int32} (h : k5p a a') (hx : vp_in x 4) : k5q a (va_up a' 0 (upd (a' 0) 1 x)) :=
  ⟨fun k hk => (if_neg hk).trans (h.1 k hk), fun hI => ⟨by show ∃ n : Nat, n ≤ 6 ∧ a' 0 5 = nI n; rw [h.2.2.2]; exact hI.1, by show ∃ n : Nat, n ≤ 6 ∧ a' 0 4 = nI n; rw [h.2.2.1]; exact hI.2.1, hx⟩⟩
theorem k5q.th {a a' : Nat → Nat → Int32} {x : Int32} (h : k5q a a') : k5q a (va_up a' 0 (upd (a' 0) 3 x)) :=
  ⟨fun k hk => (if_neg hk).trans (h.1 k hk), h.2⟩
def k5wP (v : Nat → Int32) (a : Nat → Nat → Int32) (r : Bool × (Nat → Int32) × (Nat → Nat → Int32)) : Prop := k5v v r.2.1 ∧ k5q a r.2.2
theorem X5_goes_w {vM : Nat → Int32} {aM : Nat → Nat → Int32} {p0 : Int32} (hI : kI5 aM) : k5v vM (X5_goes_f vM aM p0).2.1 ∧ k5q aM (X5_goes_f vM aM p0).2.2 := by
  have key : k5wP vM aM (X5_goes_f vM aM p0) := k_if (P := k5wP vM aM) (fun c1 => k_if (P := k5wP vM aM) (fun _ => ⟨k5_ref, k5q.rf⟩) (fun _ => k_if (P := k5wP vM aM) (fun _ => ⟨k5_does, (k5q.mkt (X5_passes_w hI.1) (k_isMarket5 c1)).th⟩) (fun _ => ⟨k5_does, k5q.mkt (X5_passes_w hI.1) (k_isMarket5 c1)⟩))) (fun _ => ⟨k5_ref, k5q.rf⟩)
  exact key

theorem kw1459 : Cond.fieldLink RX5 32 "SpiceScaleModel" "fault" "I" ∈ kW := k_w 7 153 rfl rfl
theorem kw1778 : Cond.methodLink RX5 215 yX5_isCommand ∈ kW := k_w 8 232 rfl rfl
theorem kw1790 : Cond.methodLink RX5 218 yX5_carries ∈ kW := k_w 9 4 rfl rfl
theorem kw1794 : Cond.methodLink RX5 221 yX5_comesBack ∈ kW := k_w 9 8 rfl rfl
abbrev wX5_carries : List Cond := Cond.code yX5_carries cX5_carries 1 (some .boolean) :: kW
def X5_carries_f (vM : Nat → Int32) (aM : Nat → Nat → Int32) : Bool × (Nat → Int32) × (Nat → Nat → Int32) :=
  if (vM 11) = 98 then ((X5_beats_f vM aM ((aM 12) 0)).1, (X5_beats_f vM aM ((aM 12) 0)).2.1, (X5_beats_f vM aM ((aM 12) 0)).2.2)
  else if (vM 11) = 101 then ((X5_empties_f vM aM ((aM 12) 0) ((aM 12) 1)).1, (X5_empties_f vM aM ((aM 12) 0) ((aM 12) 1)).2.1, (X5_empties_f vM aM ((aM 12) 0) ((aM 12) 1)).2.2)
  else if (vM 11) = 102 then ((X5_fills_f vM aM ((aM 12) 0) ((aM 12) 1) ((aM 12) 2)).1, (X5_fills_f vM aM ((aM 12) 0) ((aM 12) 1) ((aM 12) 2)).2.1, (X5_fills_f vM aM ((aM 12) 0) ((aM 12) 1) ((aM 12) 2)).2.2)
  else if (vM 11) = 103 then ((X5_goes_f vM aM ((aM 12) 0)).1, (X5_goes_f vM aM ((aM 12) 0)).2.1, (X5_goes_f vM aM ((aM 12) 0)).2.2)
  else if (vM 11) = 110 then ((X5_rests_f vM aM ((aM 12) 0)).1, (X5_rests_f vM aM ((aM 12) 0)).2.1, (X5_rests_f vM aM ((aM 12) 0)).2.2)
  else if (vM 11) = 115 then ((X5_sells_f vM aM ((aM 12) 0)).1, (X5_sells_f vM aM ((aM 12) 0)).2.1, (X5_sells_f vM aM ((aM 12) 0)).2.2)
  else if (vM 11) = 116 then ((X5_presses_f vM aM ((aM 12) 0)).1, (X5_presses_f vM aM ((aM 12) 0)).2.1, (X5_presses_f vM aM ((aM 12) 0)).2.2)
  else if (vM 11) = 119 then ((X5_weighsBag_f vM aM ((aM 12) 0)).1, (X5_weighsBag_f vM aM ((aM 12) 0)).2.1, (X5_weighsBag_f vM aM ((aM 12) 0)).2.2)
  else if (vM 11) = 120 then ((X5_seals_f vM aM ((aM 12) 0)).1, (X5_seals_f vM aM ((aM 12) 0)).2.1, (X5_seals_f vM aM ((aM 12) 0)).2.2)
  else ((X5_swears__f vM aM).1, (X5_swears__f vM aM).2.1, (X5_swears__f vM aM).2.2)
set_option maxHeartbeats 4000000 in
set_option maxRecDepth 100000 in
theorem X5_carries_c (l : Launch) (g : kG) (oM : Nat) (rM : Nat → Nat) (vM : Nat → Int32) (aM : Nat → Nat → Int32) (hB5 : (∃ n : Nat, n ≤ 6 ∧ aM 0 5 = nI n)) (hJ5 : (∃ n : Nat, n ≤ 6 ∧ aM 0 4 = nI n)) (hM5 : vp_in (aM 0 1) 4) : kM l yX5_carries wX5_carries 5 114 0 0 g [.ref oM] [X5W g oM rM vM aM] (fun x u => x = b2i (X5_carries_f vM aM).1 ∧ u = [X5W g oM rM ((X5_carries_f vM aM).2.1) ((X5_carries_f vM aM).2.2)]) := by
  refine kM_of (cc := cX5_carries) (nL := 1) (ret := (some .boolean)) (lv := [(0, .ref oM)]) (by decide) rfl (Nat.le_of_ble_eq_true rfl) rfl ?_
  intro p e s m args below meth c ls A C hP hD hE hA hS hl
  have C : kC p c cX5_carries s m args meth RX5 g 1 (some .boolean) := C
  have hx := C.1.1
  have hb := C.1.2.1
  have hts := C.1.2.2.2.2
  refine lv_aload_n hx hb dX5_carries_0 rfl (lv_at hl 0 rfl) ?_
  refine kg_get C kFX5 (k := 11) kw1457 hP (i := 0) (q := 0) rfl rfl (by decide) rfl dX5_carries_1 ?_
  by_cases c1 : (vM 11) = 98
  · refine lv_tableIn (off := 148) (tgt := 152) hx hb dX5_carries_4 (by show ¬ ((vM 11)).toInt < 98; rw [c1]; decide) (by show ¬ 120 < ((vM 11)).toInt; rw [c1]; decide) (by rw [c1]; rfl) (by decide) ?_
    refine lv_aload_n hx hb dX5_carries_152 rfl (lv_at hl 0 rfl) ?_
    refine lv_aload_n hx hb dX5_carries_153 rfl (lv_at hl 0 rfl) ?_
    refine kg_get C kFX5 (k := 12) kw1458 hP (i := 0) (q := 0) rfl rfl (by decide) rfl dX5_carries_154 ?_
    refine lv_iconst (v := 0) hx hb dX5_carries_157 (by decide) ?_
    refine kg_ialdK C hP (i := 0) (q := 7) rfl rfl (j := 0) rfl (k_vin (j := 0) rfl (by decide) (by decide)) dX5_carries_158 ?_
    refine kM_V (As := [.int ((aM 12) 0)]) (rest := []) (wr := []) C (X5_beats_c l g oM rM vM aM ((aM 12) 0) (by first | assumption | exact hB5 | exact hJ5 | exact hM5 | exact ⟨0, by omega, rfl⟩ | exact ⟨1, by omega, rfl⟩ | exact ⟨2, by omega, rfl⟩ | exact ⟨3, by omega, rfl⟩ | exact ⟨4, by omega, rfl⟩ | exact k_vin (j := 0) rfl (by decide) (by decide) | exact k_vin (j := 1) rfl (by decide) (by decide) | exact k_vin (j := 2) rfl (by decide) (by decide))) (cwV 1 hts (k_gV kw1592 ca_X5_beats) rfl rfl rfl ⟨rfl, pnX5_beats⟩ ⟨Nat.le_of_ble_eq_true rfl, Nat.le_of_ble_eq_true rfl⟩) hE hS hA hP hD [0] [] rfl rfl ⟨rfl, rfl, by decide⟩ (k_recv C kFX5 hP (i := 0) (q := 0) rfl rfl) rfl hl.1 rfl rfl dX5_carries_159 ⟨Nat.le_of_ble_eq_true rfl, Nat.le_of_ble_eq_true rfl⟩ (fun r2 u2 H locs hp2 hP hD hS => ?_)
    obtain ⟨rfl, rfl⟩ := hp2
    have hP : kp g [X5W g oM rM ((X5_beats_f vM aM ((aM 12) 0)).2.1) ((X5_beats_f vM aM ((aM 12) 0)).2.2)] H := hP
    have hD : kd A [X5W g oM rM ((X5_beats_f vM aM ((aM 12) 0)).2.1) ((X5_beats_f vM aM ((aM 12) 0)).2.2)] := hD
    have hF := (show X5_carries_f vM aM = ((X5_beats_f vM aM ((aM 12) 0)).1, (X5_beats_f vM aM ((aM 12) 0)).2.1, (X5_beats_f vM aM ((aM 12) 0)).2.2) from (if_pos c1).trans (rfl))
    exact kM_zret (x := b2i ((X5_beats_f vM aM ((aM 12) 0)).1)) C (b2i_nar _) hP hD hS ⟨by rw [hF], by rw [hF]⟩ dX5_carries_162
  by_cases c3 : (vM 11) = 101
  · refine lv_tableIn (off := 131) (tgt := 135) hx hb dX5_carries_4 (by show ¬ ((vM 11)).toInt < 98; rw [c3]; decide) (by show ¬ 120 < ((vM 11)).toInt; rw [c3]; decide) (by rw [c3]; rfl) (by decide) ?_
    refine lv_aload_n hx hb dX5_carries_135 rfl (lv_at hl 0 rfl) ?_
    refine lv_aload_n hx hb dX5_carries_136 rfl (lv_at hl 0 rfl) ?_
    refine kg_get C kFX5 (k := 12) kw1458 hP (i := 0) (q := 0) rfl rfl (by decide) rfl dX5_carries_137 ?_
    refine lv_iconst (v := 0) hx hb dX5_carries_140 (by decide) ?_
    refine kg_ialdK C hP (i := 0) (q := 7) rfl rfl (j := 0) rfl (k_vin (j := 0) rfl (by decide) (by decide)) dX5_carries_141 ?_
    refine lv_aload_n hx hb dX5_carries_142 rfl (lv_at hl 0 rfl) ?_
    refine kg_get C kFX5 (k := 12) kw1458 hP (i := 0) (q := 0) rfl rfl (by decide) rfl dX5_carries_143 ?_
    refine lv_iconst (v := 1) hx hb dX5_carries_146 (by decide) ?_
    refine kg_ialdK C hP (i := 0) (q := 7) rfl rfl (j := 1) rfl (k_vin (j := 1) rfl (by decide) (by decide)) dX5_carries_147 ?_
    refine kM_V (As := [.int ((aM 12) 0), .int ((aM 12) 1)]) (rest := []) (wr := []) C (X5_empties_c l g oM rM vM aM ((aM 12) 0) ((aM 12) 1) (by first | assumption | exact hB5 | exact hJ5 | exact hM5 | exact ⟨0, by omega, rfl⟩ | exact ⟨1, by omega, rfl⟩ | exact ⟨2, by omega, rfl⟩ | exact ⟨3, by omega, rfl⟩ | exact ⟨4, by omega, rfl⟩ | exact k_vin (j := 0) rfl (by decide) (by decide) | exact k_vin (j := 1) rfl (by decide) (by decide) | exact k_vin (j := 2) rfl (by decide) (by decide)) (by first | assumption | exact hB5 | exact hJ5 | exact hM5 | exact ⟨0, by omega, rfl⟩ | exact ⟨1, by omega, rfl⟩ | exact ⟨2, by omega, rfl⟩ | exact ⟨3, by omega, rfl⟩ | exact ⟨4, by omega, rfl⟩ | exact k_vin (j := 0) rfl (by decide) (by decide) | exact k_vin (j := 1) rfl (by decide) (by decide) | exact k_vin (j := 2) rfl (by decide) (by decide))) (cwV 2 hts (k_gV kw1580 ca_X5_empties) rfl rfl rfl ⟨rfl, pnX5_empties⟩ ⟨Nat.le_of_ble_eq_true rfl, Nat.le_of_ble_eq_true rfl⟩) hE hS hA hP hD [0] [] rfl rfl ⟨rfl, rfl, by decide⟩ (k_recv C kFX5 hP (i := 0) (q := 0) rfl rfl) rfl hl.1 rfl rfl dX5_carries_148 ⟨Nat.le_of_ble_eq_true rfl, Nat.le_of_ble_eq_true rfl⟩ (fun r4 u4 H locs hp4 hP hD hS => ?_)
    obtain ⟨rfl, rfl⟩ := hp4
    have hP : kp g [X5W g oM rM ((X5_empties_f vM aM ((aM 12) 0) ((aM 12) 1)).2.1) ((X5_empties_f vM aM ((aM 12) 0) ((aM 12) 1)).2.2)] H := hP
    have hD : kd A [X5W g oM rM ((X5_empties_f vM aM ((aM 12) 0) ((aM 12) 1)).2.1) ((X5_empties_f vM aM ((aM 12) 0) ((aM 12) 1)).2.2)] := hD
    have hF := (show X5_carries_f vM aM = ((X5_empties_f vM aM ((aM 12) 0) ((aM 12) 1)).1, (X5_empties_f vM aM ((aM 12) 0) ((aM 12) 1)).2.1, (X5_empties_f vM aM ((aM 12) 0) ((aM 12) 1)).2.2) from (if_neg c1).trans ((if_pos c3).trans (rfl)))
    exact kM_zret (x := b2i ((X5_empties_f vM aM ((aM 12) 0) ((aM 12) 1)).1)) C (b2i_nar _) hP hD hS ⟨by rw [hF], by rw [hF]⟩ dX5_carries_151
  by_cases c5 : (vM 11) = 102
  · refine lv_tableIn (off := 108) (tgt := 112) hx hb dX5_carries_4 (by show ¬ ((vM 11)).toInt < 98; rw [c5]; decide) (by show ¬ 120 < ((vM 11)).toInt; rw [c5]; decide) (by rw [c5]; rfl) (by decide) ?_
    refine lv_aload_n hx hb dX5_carries_112 rfl (lv_at hl 0 rfl) ?_
    refine lv_aload_n hx hb dX5_carries_113 rfl (lv_at hl 0 rfl) ?_
    refine kg_get C kFX5 (k := 12) kw1458 hP (i := 0) (q := 0) rfl rfl (by decide) rfl dX5_carries_114 ?_
    refine lv_iconst (v := 0) hx hb dX5_carries_117 (by decide) ?_
    refine kg_ialdK C hP (i := 0) (q := 7) rfl rfl (j := 0) rfl (k_vin (j := 0) rfl (by decide) (by decide)) dX5_carries_118 ?_
    refine lv_aload_n hx hb dX5_carries_119 rfl (lv_at hl 0 rfl) ?_
    refine kg_get C kFX5 (k := 12) kw1458 hP (i := 0) (q := 0) rfl rfl (by decide) rfl dX5_carries_120 ?_
    refine lv_iconst (v := 1) hx hb dX5_carries_123 (by decide) ?_
    refine kg_ialdK C hP (i := 0) (q := 7) rfl rfl (j := 1) rfl (k_vin (j := 1) rfl (by decide) (by decide)) dX5_carries_124 ?_
    refine lv_aload_n hx hb dX5_carries_125 rfl (lv_at hl 0 rfl) ?_
    refine kg_get C kFX5 (k := 12) kw1458 hP (i := 0) (q := 0) rfl rfl (by decide) rfl dX5_carries_126 ?_
    refine lv_iconst (v := 2) hx hb dX5_carries_129 (by decide) ?_
    refine kg_ialdK C hP (i := 0) (q := 7) rfl rfl (j := 2) rfl (k_vin (j := 2) rfl (by decide) (by decide)) dX5_carries_130 ?_
    refine kM_V (As := [.int ((aM 12) 0), .int ((aM 12) 1), .int ((aM 12) 2)]) (rest := []) (wr := []) C (X5_fills_c l g oM rM vM aM ((aM 12) 0) ((aM 12) 1) ((aM 12) 2) (by first | assumption | exact hB5 | exact hJ5 | exact hM5 | exact ⟨0, by omega, rfl⟩ | exact ⟨1, by omega, rfl⟩ | exact ⟨2, by omega, rfl⟩ | exact ⟨3, by omega, rfl⟩ | exact ⟨4, by omega, rfl⟩ | exact k_vin (j := 0) rfl (by decide) (by decide) | exact k_vin (j := 1) rfl (by decide) (by decide) | exact k_vin (j := 2) rfl (by decide) (by decide)) (by first | assumption | exact hB5 | exact hJ5 | exact hM5 | exact ⟨0, by omega, rfl⟩ | exact ⟨1, by omega, rfl⟩ | exact ⟨2, by omega, rfl⟩ | exact ⟨3, by omega, rfl⟩ | exact ⟨4, by omega, rfl⟩ | exact k_vin (j := 0) rfl (by decide) (by decide) | exact k_vin (j := 1) rfl (by decide) (by decide) | exact k_vin (j := 2) rfl (by decide) (by decide))) (cwV 3 hts (k_gV kw1556 ca_X5_fills) rfl rfl rfl ⟨rfl, pnX5_fills⟩ ⟨Nat.le_of_ble_eq_true rfl, Nat.le_of_ble_eq_true rfl⟩) hE hS hA hP hD [0] [] rfl rfl ⟨rfl, rfl, by decide⟩ (k_recv C kFX5 hP (i := 0) (q := 0) rfl rfl) rfl hl.1 rfl rfl dX5_carries_131 ⟨Nat.le_of_ble_eq_true rfl, Nat.le_of_ble_eq_true rfl⟩ (fun r6 u6 H locs hp6 hP hD hS => ?_)
    obtain ⟨rfl, rfl⟩ := hp6
    have hP : kp g [X5W g oM rM ((X5_fills_f vM aM ((aM 12) 0) ((aM 12) 1) ((aM 12) 2)).2.1) ((X5_fills_f vM aM ((aM 12) 0) ((aM 12) 1) ((aM 12) 2)).2.2)] H := hP
    have hD : kd A [X5W g oM rM ((X5_fills_f vM aM ((aM 12) 0) ((aM 12) 1) ((aM 12) 2)).2.1) ((X5_fills_f vM aM ((aM 12) 0) ((aM 12) 1) ((aM 12) 2)).2.2)] := hD
    have hF := (show X5_carries_f vM aM = ((X5_fills_f vM aM ((aM 12) 0) ((aM 12) 1) ((aM 12) 2)).1, (X5_fills_f vM aM ((aM 12) 0) ((aM 12) 1) ((aM 12) 2)).2.1, (X5_fills_f vM aM ((aM 12) 0) ((aM 12) 1) ((aM 12) 2)).2.2) from (if_neg c1).trans ((if_neg c3).trans ((if_pos c5).trans (rfl))))
    exact kM_zret (x := b2i ((X5_fills_f vM aM ((aM 12) 0) ((aM 12) 1) ((aM 12) 2)).1)) C (b2i_nar _) hP hD hS ⟨by rw [hF], by rw [hF]⟩ dX5_carries_134
  by_cases c7 : (vM 11) = 103
  · refine lv_tableIn (off := 181) (tgt := 185) hx hb dX5_carries_4 (by show ¬ ((vM 11)).toInt < 98; rw [c7]; decide) (by show ¬ 120 < ((vM 11)).toInt; rw [c7]; decide) (by rw [c7]; rfl) (by decide) ?_
    refine lv_aload_n hx hb dX5_carries_185 rfl (lv_at hl 0 rfl) ?_
    refine lv_aload_n hx hb dX5_carries_186 rfl (lv_at hl 0 rfl) ?_
    refine kg_get C kFX5 (k := 12) kw1458 hP (i := 0) (q := 0) rfl rfl (by decide) rfl dX5_carries_187 ?_
    refine lv_iconst (v := 0) hx hb dX5_carries_190 (by decide) ?_
    refine kg_ialdK C hP (i := 0) (q := 7) rfl rfl (j := 0) rfl (k_vin (j := 0) rfl (by decide) (by decide)) dX5_carries_191 ?_
    refine kM_V (As := [.int ((aM 12) 0)]) (rest := []) (wr := []) C (X5_goes_c l g oM rM vM aM ((aM 12) 0) (by first | assumption | exact hB5 | exact hJ5 | exact hM5 | exact ⟨0, by omega, rfl⟩ | exact ⟨1, by omega, rfl⟩ | exact ⟨2, by omega, rfl⟩ | exact ⟨3, by omega, rfl⟩ | exact ⟨4, by omega, rfl⟩ | exact k_vin (j := 0) rfl (by decide) (by decide) | exact k_vin (j := 1) rfl (by decide) (by decide) | exact k_vin (j := 2) rfl (by decide) (by decide)) (by first | assumption | exact hB5 | exact hJ5 | exact hM5 | exact ⟨0, by omega, rfl⟩ | exact ⟨1, by omega, rfl⟩ | exact ⟨2, by omega, rfl⟩ | exact ⟨3, by omega, rfl⟩ | exact ⟨4, by omega, rfl⟩ | exact k_vin (j := 0) rfl (by decide) (by decide) | exact k_vin (j := 1) rfl (by decide) (by decide) | exact k_vin (j := 2) rfl (by decide) (by decide))) (cwV 1 hts (k_gV kw1671 ca_X5_goes) rfl rfl rfl ⟨rfl, pnX5_goes⟩ ⟨Nat.le_of_ble_eq_true rfl, Nat.le_of_ble_eq_true rfl⟩) hE hS hA hP hD [0] [] rfl rfl ⟨rfl, rfl, by decide⟩ (k_recv C kFX5 hP (i := 0) (q := 0) rfl rfl) rfl hl.1 rfl rfl dX5_carries_192 ⟨Nat.le_of_ble_eq_true rfl, Nat.le_of_ble_eq_true rfl⟩ (fun r8 u8 H locs hp8 hP hD hS => ?_)
    obtain ⟨rfl, rfl⟩ := hp8
    have hP : kp g [X5W g oM rM ((X5_goes_f vM aM ((aM 12) 0)).2.1) ((X5_goes_f vM aM ((aM 12) 0)).2.2)] H := hP
    have hD : kd A [X5W g oM rM ((X5_goes_f vM aM ((aM 12) 0)).2.1) ((X5_goes_f vM aM ((aM 12) 0)).2.2)] := hD
    have hF := (show X5_carries_f vM aM = ((X5_goes_f vM aM ((aM 12) 0)).1, (X5_goes_f vM aM ((aM 12) 0)).2.1, (X5_goes_f vM aM ((aM 12) 0)).2.2) from (if_neg c1).trans ((if_neg c3).trans ((if_neg c5).trans ((if_pos c7).trans (rfl)))))
    exact kM_zret (x := b2i ((X5_goes_f vM aM ((aM 12) 0)).1)) C (b2i_nar _) hP hD hS ⟨by rw [hF], by rw [hF]⟩ dX5_carries_195
  by_cases c9 : (vM 11) = 110
  · refine lv_tableIn (off := 214) (tgt := 218) hx hb dX5_carries_4 (by show ¬ ((vM 11)).toInt < 98; rw [c9]; decide) (by show ¬ 120 < ((vM 11)).toInt; rw [c9]; decide) (by rw [c9]; rfl) (by decide) ?_
    refine lv_aload_n hx hb dX5_carries_218 rfl (lv_at hl 0 rfl) ?_
    refine lv_aload_n hx hb dX5_carries_219 rfl (lv_at hl 0 rfl) ?_
    refine kg_get C kFX5 (k := 12) kw1458 hP (i := 0) (q := 0) rfl rfl (by decide) rfl dX5_carries_220 ?_
    refine lv_iconst (v := 0) hx hb dX5_carries_223 (by decide) ?_
    refine kg_ialdK C hP (i := 0) (q := 7) rfl rfl (j := 0) rfl (k_vin (j := 0) rfl (by decide) (by decide)) dX5_carries_224 ?_
    refine kM_V (As := [.int ((aM 12) 0)]) (rest := []) (wr := []) C (X5_rests_c l g oM rM vM aM ((aM 12) 0) (by first | assumption | exact hB5 | exact hJ5 | exact hM5 | exact ⟨0, by omega, rfl⟩ | exact ⟨1, by omega, rfl⟩ | exact ⟨2, by omega, rfl⟩ | exact ⟨3, by omega, rfl⟩ | exact ⟨4, by omega, rfl⟩ | exact k_vin (j := 0) rfl (by decide) (by decide) | exact k_vin (j := 1) rfl (by decide) (by decide) | exact k_vin (j := 2) rfl (by decide) (by decide))) (cwV 1 hts (k_gV kw1701 ca_X5_rests) rfl rfl rfl ⟨rfl, pnX5_rests⟩ ⟨Nat.le_of_ble_eq_true rfl, Nat.le_of_ble_eq_true rfl⟩) hE hS hA hP hD [0] [] rfl rfl ⟨rfl, rfl, by decide⟩ (k_recv C kFX5 hP (i := 0) (q := 0) rfl rfl) rfl hl.1 rfl rfl dX5_carries_225 ⟨Nat.le_of_ble_eq_true rfl, Nat.le_of_ble_eq_true rfl⟩ (fun r10 u10 H locs hp10 hP hD hS => ?_)
    obtain ⟨rfl, rfl⟩ := hp10
    have hP : kp g [X5W g oM rM ((X5_rests_f vM aM ((aM 12) 0)).2.1) ((X5_rests_f vM aM ((aM 12) 0)).2.2)] H := hP
    have hD : kd A [X5W g oM rM ((X5_rests_f vM aM ((aM 12) 0)).2.1) ((X5_rests_f vM aM ((aM 12) 0)).2.2)] := hD
    have hF := (show X5_carries_f vM aM = ((X5_rests_f vM aM ((aM 12) 0)).1, (X5_rests_f vM aM ((aM 12) 0)).2.1, (X5_rests_f vM aM ((aM 12) 0)).2.2) from (if_neg c1).trans ((if_neg c3).trans ((if_neg c5).trans ((if_neg c7).trans ((if_pos c9).trans (rfl))))))
    exact kM_zret (x := b2i ((X5_rests_f vM aM ((aM 12) 0)).1)) C (b2i_nar _) hP hD hS ⟨by rw [hF], by rw [hF]⟩ dX5_carries_228
  by_cases c11 : (vM 11) = 115
  · refine lv_tableIn (off := 170) (tgt := 174) hx hb dX5_carries_4 (by show ¬ ((vM 11)).toInt < 98; rw [c11]; decide) (by show ¬ 120 < ((vM 11)).toInt; rw [c11]; decide) (by rw [c11]; rfl) (by decide) ?_
    refine lv_aload_n hx hb dX5_carries_174 rfl (lv_at hl 0 rfl) ?_
    refine lv_aload_n hx hb dX5_carries_175 rfl (lv_at hl 0 rfl) ?_
    refine kg_get C kFX5 (k := 12) kw1458 hP (i := 0) (q := 0) rfl rfl (by decide) rfl dX5_carries_176 ?_
    refine lv_iconst (v := 0) hx hb dX5_carries_179 (by decide) ?_
    refine kg_ialdK C hP (i := 0) (q := 7) rfl rfl (j := 0) rfl (k_vin (j := 0) rfl (by decide) (by decide)) dX5_carries_180 ?_
    refine kM_V (As := [.int ((aM 12) 0)]) (rest := []) (wr := []) C (X5_sells_c l g oM rM vM aM ((aM 12) 0) (by first | assumption | exact hB5 | exact hJ5 | exact hM5 | exact ⟨0, by omega, rfl⟩ | exact ⟨1, by omega, rfl⟩ | exact ⟨2, by omega, rfl⟩ | exact ⟨3, by omega, rfl⟩ | exact ⟨4, by omega, rfl⟩ | exact k_vin (j := 0) rfl (by decide) (by decide) | exact k_vin (j := 1) rfl (by decide) (by decide) | exact k_vin (j := 2) rfl (by decide) (by decide)) (by first | assumption | exact hB5 | exact hJ5 | exact hM5 | exact ⟨0, by omega, rfl⟩ | exact ⟨1, by omega, rfl⟩ | exact ⟨2, by omega, rfl⟩ | exact ⟨3, by omega, rfl⟩ | exact ⟨4, by omega, rfl⟩ | exact k_vin (j := 0) rfl (by decide) (by decide) | exact k_vin (j := 1) rfl (by decide) (by decide) | exact k_vin (j := 2) rfl (by decide) (by decide))) (cwV 1 hts (k_gV kw1644 ca_X5_sells) rfl rfl rfl ⟨rfl, pnX5_sells⟩ ⟨Nat.le_of_ble_eq_true rfl, Nat.le_of_ble_eq_true rfl⟩) hE hS hA hP hD [0] [] rfl rfl ⟨rfl, rfl, by decide⟩ (k_recv C kFX5 hP (i := 0) (q := 0) rfl rfl) rfl hl.1 rfl rfl dX5_carries_181 ⟨Nat.le_of_ble_eq_true rfl, Nat.le_of_ble_eq_true rfl⟩ (fun r12 u12 H locs hp12 hP hD hS => ?_)
    obtain ⟨rfl, rfl⟩ := hp12
    have hP : kp g [X5W g oM rM ((X5_sells_f vM aM ((aM 12) 0)).2.1) ((X5_sells_f vM aM ((aM 12) 0)).2.2)] H := hP
    have hD : kd A [X5W g oM rM ((X5_sells_f vM aM ((aM 12) 0)).2.1) ((X5_sells_f vM aM ((aM 12) 0)).2.2)] := hD
    have hF := (show X5_carries_f vM aM = ((X5_sells_f vM aM ((aM 12) 0)).1, (X5_sells_f vM aM ((aM 12) 0)).2.1, (X5_sells_f vM aM ((aM 12) 0)).2.2) from (if_neg c1).trans ((if_neg c3).trans ((if_neg c5).trans ((if_neg c7).trans ((if_neg c9).trans ((if_pos c11).trans (rfl)))))))
    exact kM_zret (x := b2i ((X5_sells_f vM aM ((aM 12) 0)).1)) C (b2i_nar _) hP hD hS ⟨by rw [hF], by rw [hF]⟩ dX5_carries_184
  by_cases c13 : (vM 11) = 116
  · refine lv_tableIn (off := 203) (tgt := 207) hx hb dX5_carries_4 (by show ¬ ((vM 11)).toInt < 98; rw [c13]; decide) (by show ¬ 120 < ((vM 11)).toInt; rw [c13]; decide) (by rw [c13]; rfl) (by decide) ?_
    refine lv_aload_n hx hb dX5_carries_207 rfl (lv_at hl 0 rfl) ?_
    refine lv_aload_n hx hb dX5_carries_208 rfl (lv_at hl 0 rfl) ?_
    refine kg_get C kFX5 (k := 12) kw1458 hP (i := 0) (q := 0) rfl rfl (by decide) rfl dX5_carries_209 ?_
    refine lv_iconst (v := 0) hx hb dX5_carries_212 (by decide) ?_
    refine kg_ialdK C hP (i := 0) (q := 7) rfl rfl (j := 0) rfl (k_vin (j := 0) rfl (by decide) (by decide)) dX5_carries_213 ?_
    refine kM_V (As := [.int ((aM 12) 0)]) (rest := []) (wr := []) C (X5_presses_c l g oM rM vM aM ((aM 12) 0) (by first | assumption | exact hB5 | exact hJ5 | exact hM5 | exact ⟨0, by omega, rfl⟩ | exact ⟨1, by omega, rfl⟩ | exact ⟨2, by omega, rfl⟩ | exact ⟨3, by omega, rfl⟩ | exact ⟨4, by omega, rfl⟩ | exact k_vin (j := 0) rfl (by decide) (by decide) | exact k_vin (j := 1) rfl (by decide) (by decide) | exact k_vin (j := 2) rfl (by decide) (by decide))) (cwV 1 hts (k_gV kw1600 ca_X5_presses) rfl rfl rfl ⟨rfl, pnX5_presses⟩ ⟨Nat.le_of_ble_eq_true rfl, Nat.le_of_ble_eq_true rfl⟩) hE hS hA hP hD [0] [] rfl rfl ⟨rfl, rfl, by decide⟩ (k_recv C kFX5 hP (i := 0) (q := 0) rfl rfl) rfl hl.1 rfl rfl dX5_carries_214 ⟨Nat.le_of_ble_eq_true rfl, Nat.le_of_ble_eq_true rfl⟩ (fun r14 u14 H locs hp14 hP hD hS => ?_)
    obtain ⟨rfl, rfl⟩ := hp14
    have hP : kp g [X5W g oM rM ((X5_presses_f vM aM ((aM 12) 0)).2.1) ((X5_presses_f vM aM ((aM 12) 0)).2.2)] H := hP
    have hD : kd A [X5W g oM rM ((X5_presses_f vM aM ((aM 12) 0)).2.1) ((X5_presses_f vM aM ((aM 12) 0)).2.2)] := hD
    have hF := (show X5_carries_f vM aM = ((X5_presses_f vM aM ((aM 12) 0)).1, (X5_presses_f vM aM ((aM 12) 0)).2.1, (X5_presses_f vM aM ((aM 12) 0)).2.2) from (if_neg c1).trans ((if_neg c3).trans ((if_neg c5).trans ((if_neg c7).trans ((if_neg c9).trans ((if_neg c11).trans ((if_pos c13).trans (rfl))))))))
    exact kM_zret (x := b2i ((X5_presses_f vM aM ((aM 12) 0)).1)) C (b2i_nar _) hP hD hS ⟨by rw [hF], by rw [hF]⟩ dX5_carries_217
  by_cases c15 : (vM 11) = 119
  · refine lv_tableIn (off := 159) (tgt := 163) hx hb dX5_carries_4 (by show ¬ ((vM 11)).toInt < 98; rw [c15]; decide) (by show ¬ 120 < ((vM 11)).toInt; rw [c15]; decide) (by rw [c15]; rfl) (by decide) ?_
    refine lv_aload_n hx hb dX5_carries_163 rfl (lv_at hl 0 rfl) ?_
    refine lv_aload_n hx hb dX5_carries_164 rfl (lv_at hl 0 rfl) ?_
    refine kg_get C kFX5 (k := 12) kw1458 hP (i := 0) (q := 0) rfl rfl (by decide) rfl dX5_carries_165 ?_
    refine lv_iconst (v := 0) hx hb dX5_carries_168 (by decide) ?_
    refine kg_ialdK C hP (i := 0) (q := 7) rfl rfl (j := 0) rfl (k_vin (j := 0) rfl (by decide) (by decide)) dX5_carries_169 ?_
    refine kM_V (As := [.int ((aM 12) 0)]) (rest := []) (wr := []) C (X5_weighsBag_c l g oM rM vM aM ((aM 12) 0) (by first | assumption | exact hB5 | exact hJ5 | exact hM5 | exact ⟨0, by omega, rfl⟩ | exact ⟨1, by omega, rfl⟩ | exact ⟨2, by omega, rfl⟩ | exact ⟨3, by omega, rfl⟩ | exact ⟨4, by omega, rfl⟩ | exact k_vin (j := 0) rfl (by decide) (by decide) | exact k_vin (j := 1) rfl (by decide) (by decide) | exact k_vin (j := 2) rfl (by decide) (by decide))) (cwV 1 hts (k_gV kw1616 ca_X5_weighsBag) rfl rfl rfl ⟨rfl, pnX5_weighsBag⟩ ⟨Nat.le_of_ble_eq_true rfl, Nat.le_of_ble_eq_true rfl⟩) hE hS hA hP hD [0] [] rfl rfl ⟨rfl, rfl, by decide⟩ (k_recv C kFX5 hP (i := 0) (q := 0) rfl rfl) rfl hl.1 rfl rfl dX5_carries_170 ⟨Nat.le_of_ble_eq_true rfl, Nat.le_of_ble_eq_true rfl⟩ (fun r16 u16 H locs hp16 hP hD hS => ?_)
    obtain ⟨rfl, rfl⟩ := hp16
    have hP : kp g [X5W g oM rM ((X5_weighsBag_f vM aM ((aM 12) 0)).2.1) ((X5_weighsBag_f vM aM ((aM 12) 0)).2.2)] H := hP
    have hD : kd A [X5W g oM rM ((X5_weighsBag_f vM aM ((aM 12) 0)).2.1) ((X5_weighsBag_f vM aM ((aM 12) 0)).2.2)] := hD
    have hF := (show X5_carries_f vM aM = ((X5_weighsBag_f vM aM ((aM 12) 0)).1, (X5_weighsBag_f vM aM ((aM 12) 0)).2.1, (X5_weighsBag_f vM aM ((aM 12) 0)).2.2) from (if_neg c1).trans ((if_neg c3).trans ((if_neg c5).trans ((if_neg c7).trans ((if_neg c9).trans ((if_neg c11).trans ((if_neg c13).trans ((if_pos c15).trans (rfl)))))))))
    exact kM_zret (x := b2i ((X5_weighsBag_f vM aM ((aM 12) 0)).1)) C (b2i_nar _) hP hD hS ⟨by rw [hF], by rw [hF]⟩ dX5_carries_173
  by_cases c17 : (vM 11) = 120
  · refine lv_tableIn (off := 192) (tgt := 196) hx hb dX5_carries_4 (by show ¬ ((vM 11)).toInt < 98; rw [c17]; decide) (by show ¬ 120 < ((vM 11)).toInt; rw [c17]; decide) (by rw [c17]; rfl) (by decide) ?_
    refine lv_aload_n hx hb dX5_carries_196 rfl (lv_at hl 0 rfl) ?_
    refine lv_aload_n hx hb dX5_carries_197 rfl (lv_at hl 0 rfl) ?_
    refine kg_get C kFX5 (k := 12) kw1458 hP (i := 0) (q := 0) rfl rfl (by decide) rfl dX5_carries_198 ?_
    refine lv_iconst (v := 0) hx hb dX5_carries_201 (by decide) ?_
    refine kg_ialdK C hP (i := 0) (q := 7) rfl rfl (j := 0) rfl (k_vin (j := 0) rfl (by decide) (by decide)) dX5_carries_202 ?_
    refine kM_V (As := [.int ((aM 12) 0)]) (rest := []) (wr := []) C (X5_seals_c l g oM rM vM aM ((aM 12) 0)) (cwV 1 hts (k_gV kw1690 ca_X5_seals) rfl rfl rfl ⟨rfl, pnX5_seals⟩ ⟨Nat.le_of_ble_eq_true rfl, Nat.le_of_ble_eq_true rfl⟩) hE hS hA hP hD [0] [] rfl rfl ⟨rfl, rfl, by decide⟩ (k_recv C kFX5 hP (i := 0) (q := 0) rfl rfl) rfl hl.1 rfl rfl dX5_carries_203 ⟨Nat.le_of_ble_eq_true rfl, Nat.le_of_ble_eq_true rfl⟩ (fun r18 u18 H locs hp18 hP hD hS => ?_)
    obtain ⟨rfl, rfl⟩ := hp18
    have hP : kp g [X5W g oM rM ((X5_seals_f vM aM ((aM 12) 0)).2.1) ((X5_seals_f vM aM ((aM 12) 0)).2.2)] H := hP
    have hD : kd A [X5W g oM rM ((X5_seals_f vM aM ((aM 12) 0)).2.1) ((X5_seals_f vM aM ((aM 12) 0)).2.2)] := hD
    have hF := (show X5_carries_f vM aM = ((X5_seals_f vM aM ((aM 12) 0)).1, (X5_seals_f vM aM ((aM 12) 0)).2.1, (X5_seals_f vM aM ((aM 12) 0)).2.2) from (if_neg c1).trans ((if_neg c3).trans ((if_neg c5).trans ((if_neg c7).trans ((if_neg c9).trans ((if_neg c11).trans ((if_neg c13).trans ((if_neg c15).trans ((if_pos c17).trans (rfl))))))))))
    exact kM_zret (x := b2i ((X5_seals_f vM aM ((aM 12) 0)).1)) C (b2i_nar _) hP hD hS ⟨by rw [hF], by rw [hF]⟩ dX5_carries_206
  by_cases c19 : (vM 11).toInt < 98 ∨ 120 < (vM 11).toInt
  · refine lv_tableOut (tgt := 229) hx hb dX5_carries_4 c19 (by decide) ?_
    refine lv_aload_n hx hb dX5_carries_229 rfl (lv_at hl 0 rfl) ?_
    refine kM_V (As := []) (rest := []) (wr := []) C (X5_swears__c l g oM rM vM aM (by first | assumption | exact hB5 | exact hJ5 | exact hM5 | exact ⟨0, by omega, rfl⟩ | exact ⟨1, by omega, rfl⟩ | exact ⟨2, by omega, rfl⟩ | exact ⟨3, by omega, rfl⟩ | exact ⟨4, by omega, rfl⟩ | exact k_vin (j := 0) rfl (by decide) (by decide) | exact k_vin (j := 1) rfl (by decide) (by decide) | exact k_vin (j := 2) rfl (by decide) (by decide))) (cwV 0 hts (k_gV kw1663 ca_X5_swears_) rfl rfl rfl ⟨rfl, pnX5_swears_⟩ ⟨Nat.le_of_ble_eq_true rfl, Nat.le_of_ble_eq_true rfl⟩) hE hS hA hP hD [0] [] rfl rfl ⟨rfl, rfl, by decide⟩ (k_recv C kFX5 hP (i := 0) (q := 0) rfl rfl) rfl hl.1 rfl rfl dX5_carries_230 ⟨Nat.le_of_ble_eq_true rfl, Nat.le_of_ble_eq_true rfl⟩ (fun r20 u20 H locs hp20 hP hD hS => ?_)
    obtain ⟨rfl, rfl⟩ := hp20
    have hP : kp g [X5W g oM rM ((X5_swears__f vM aM).2.1) ((X5_swears__f vM aM).2.2)] H := hP
    have hD : kd A [X5W g oM rM ((X5_swears__f vM aM).2.1) ((X5_swears__f vM aM).2.2)] := hD
    have hF := (show X5_carries_f vM aM = ((X5_swears__f vM aM).1, (X5_swears__f vM aM).2.1, (X5_swears__f vM aM).2.2) from (if_neg c1).trans ((if_neg c3).trans ((if_neg c5).trans ((if_neg c7).trans ((if_neg c9).trans ((if_neg c11).trans ((if_neg c13).trans ((if_neg c15).trans ((if_neg c17).trans (rfl))))))))))
    exact kM_zret (x := b2i ((X5_swears__f vM aM).1)) C (b2i_nar _) hP hD hS ⟨by rw [hF], by rw [hF]⟩ dX5_carries_233
  refine lv_tableIn (off := 225) (tgt := 229) hx hb dX5_carries_4 (fun h => c19 (Or.inl h)) (fun h => c19 (Or.inr h)) (by have n0 := lv_neT (a := 98) c1 (by decide); have n1 := lv_neT (a := 101) c3 (by decide); have n2 := lv_neT (a := 102) c5 (by decide); have n3 := lv_neT (a := 103) c7 (by decide); have n4 := lv_neT (a := 110) c9 (by decide); have n5 := lv_neT (a := 115) c11 (by decide); have n6 := lv_neT (a := 116) c13 (by decide); have n7 := lv_neT (a := 119) c15 (by decide); have n8 := lv_neT (a := 120) c17 (by decide); have hh : (vM 11).toInt = 99 ∨ (vM 11).toInt = 100 ∨ (vM 11).toInt = 104 ∨ (vM 11).toInt = 105 ∨ (vM 11).toInt = 106 ∨ (vM 11).toInt = 107 ∨ (vM 11).toInt = 108 ∨ (vM 11).toInt = 109 ∨ (vM 11).toInt = 111 ∨ (vM 11).toInt = 112 ∨ (vM 11).toInt = 113 ∨ (vM 11).toInt = 114 ∨ (vM 11).toInt = 117 ∨ (vM 11).toInt = 118 := (by omega); rcases hh with h | h | h | h | h | h | h | h | h | h | h | h | h | h <;> (rw [h]; rfl)) (by decide) ?_
  refine lv_aload_n hx hb dX5_carries_229 rfl (lv_at hl 0 rfl) ?_
  refine kM_V (As := []) (rest := []) (wr := []) C (X5_swears__c l g oM rM vM aM (by first | assumption | exact hB5 | exact hJ5 | exact hM5 | exact ⟨0, by omega, rfl⟩ | exact ⟨1, by omega, rfl⟩ | exact ⟨2, by omega, rfl⟩ | exact ⟨3, by omega, rfl⟩ | exact ⟨4, by omega, rfl⟩ | exact k_vin (j := 0) rfl (by decide) (by decide) | exact k_vin (j := 1) rfl (by decide) (by decide) | exact k_vin (j := 2) rfl (by decide) (by decide))) (cwV 0 hts (k_gV kw1663 ca_X5_swears_) rfl rfl rfl ⟨rfl, pnX5_swears_⟩ ⟨Nat.le_of_ble_eq_true rfl, Nat.le_of_ble_eq_true rfl⟩) hE hS hA hP hD [0] [] rfl rfl ⟨rfl, rfl, by decide⟩ (k_recv C kFX5 hP (i := 0) (q := 0) rfl rfl) rfl hl.1 rfl rfl dX5_carries_230 ⟨Nat.le_of_ble_eq_true rfl, Nat.le_of_ble_eq_true rfl⟩ (fun r21 u21 H locs hp21 hP hD hS => ?_)
  obtain ⟨rfl, rfl⟩ := hp21
  have hP : kp g [X5W g oM rM ((X5_swears__f vM aM).2.1) ((X5_swears__f vM aM).2.2)] H := hP
  have hD : kd A [X5W g oM rM ((X5_swears__f vM aM).2.1) ((X5_swears__f vM aM).2.2)] := hD
  have hF := (show X5_carries_f vM aM = ((X5_swears__f vM aM).1, (X5_swears__f vM aM).2.1, (X5_swears__f vM aM).2.2) from (if_neg c1).trans ((if_neg c3).trans ((if_neg c5).trans ((if_neg c7).trans ((if_neg c9).trans ((if_neg c11).trans ((if_neg c13).trans ((if_neg c15).trans ((if_neg c17).trans (rfl))))))))))
  exact kM_zret (x := b2i ((X5_swears__f vM aM).1)) C (b2i_nar _) hP hD hS ⟨by rw [hF], by rw [hF]⟩ dX5_carries_233
theorem X5_carries_w {vM : Nat → Int32} {aM : Nat → Nat → Int32} (hI : kI5 aM) : k5v vM (X5_carries_f vM aM).2.1 ∧ k5q aM (X5_carries_f vM aM).2.2 := by
  have key : k5wP vM aM (X5_carries_f vM aM) := k_if (P := k5wP vM aM) (fun _ => X5_beats_w hI) (fun _ => k_if (P := k5wP vM aM) (fun _ => X5_empties_w hI) (fun _ => k_if (P := k5wP vM aM) (fun _ => X5_fills_w hI) (fun _ => k_if (P := k5wP vM aM) (fun _ => X5_goes_w hI) (fun _ => k_if (P := k5wP vM aM) (fun _ => X5_rests_w hI) (fun _ => k_if (P := k5wP vM aM) (fun _ => X5_sells_w hI) (fun _ => k_if (P := k5wP vM aM) (fun _ => X5_presses_w) (fun _ => k_if (P := k5wP vM aM) (fun _ => X5_weighsBag_w hI) (fun _ => k_if (P := k5wP vM aM) (fun _ => X5_seals_w) (fun _ => X5_swears__w hI)))))))))
  exact key
theorem k5_lt3 {a b c n : Nat} (h1 : a < b) (h2 : b ≤ c) (h3 : c < n) : a + 1 < n := by omega
theorem k5v.ok {v v' : Nat → Int32} (h : k5v v v') (hk : kOK5 v) : kOK5 v' := by
  obtain ⟨ln, p, h1, h2, h3, h4⟩ := hk
  exact ⟨ln, p, h1, h2, (h 9 (by omega)).trans h3, (h 10 (by omega)).trans h4⟩
theorem k5v.me {v v' : Nat → Int32} (h : k5v v v') : kMe5 v' = kMe5 v := by
  unfold kMe5
  rw [h 9 (by omega), h 10 (by omega)]
theorem k5q.ch {a a' : Nat → Nat → Int32} (h : k5q a a') (hc : kCh5 a) : kCh5 a' := fun i => by rw [h.1 8 (by omega)]; exact hc i
theorem k5tx.I {v v' : Nat → Int32} {a a' : Nat → Nat → Int32} (h : k5tx v a v' a') (hI : kI5 a) : kI5 a' := by
  unfold kI5 at hI ⊢
  rw [h.2.2 0 (by omega)]
  exact hI
/-- one command read and carried out -/
def X5_stp (v : Nat → Int32) (a : Nat → Nat → Int32) (x : Int32) : (Nat → Int32) × (Nat → Nat → Int32) := (X5_carries_f (upd (X5_isCommand_f v a).2.1 16 x) (X5_isCommand_f v a).2.2).2
theorem X5_stp_ok {v : Nat → Int32} {a : Nat → Nat → Int32} {x : Int32} (hk : kOK5 v) (hc : kCh5 a) (hI : kI5 a) : kOK5 (X5_stp v a x).1 ∧ kCh5 (X5_stp v a x).2 ∧ kI5 (X5_stp v a x).2 ∧ (X5_stp v a x).1 3 = v 3 ∧ kMe5 (X5_stp v a x).1 ≤ kMe5 v := by
  have h := X5_isCommand_x (aM := a) hk
  have hI2 := h.I hI
  obtain ⟨c1, c2⟩ := X5_carries_w (vM := upd (X5_isCommand_f v a).2.1 16 x) hI2
  have h2 : k5v (X5_isCommand_f v a).2.1 (X5_stp v a x).1 := (k5v.rf.up (by omega)).tr c1
  exact ⟨h2.ok h.ok, c2.ch (h.ch hc), c2.2 hI2, (h2 3 (by omega)).trans (h.2.1 3 (by omega) (by omega)), by rw [h2.me]; exact k5_me h.1⟩

theorem pnX5_carries : yX5_carries.cls ≠ "java/lang/invoke/MethodHandle" ∧ yX5_carries.cls ≠ "java/lang/invoke/VarHandle" ∧ (parseMethodDescriptor yX5_carries.desc).map (fun d => d.parameters.length) = some 0 := by decide +kernel
theorem ca_X5_carries : kCal yX5_carries (Cond.code yX5_carries cX5_carries 1 (some .boolean)) := ⟨k_w 9 6 rfl rfl, k_w 1 97 rfl rfl, k_w 2 10 rfl rfl, k_w 9 7 rfl rfl⟩

theorem pnX5_comesBack : yX5_comesBack.cls ≠ "java/lang/invoke/MethodHandle" ∧ yX5_comesBack.cls ≠ "java/lang/invoke/VarHandle" ∧ (parseMethodDescriptor yX5_comesBack.desc).map (fun d => d.parameters.length) = some 0 := by decide +kernel
theorem ca_X5_comesBack : kCal yX5_comesBack (Cond.code yX5_comesBack cX5_comesBack 2 none) := ⟨k_w 9 10 rfl rfl, k_w 1 98 rfl rfl, k_w 2 10 rfl rfl, k_w 9 11 rfl rfl⟩

theorem pnX5_isCommand : yX5_isCommand.cls ≠ "java/lang/invoke/MethodHandle" ∧ yX5_isCommand.cls ≠ "java/lang/invoke/VarHandle" ∧ (parseMethodDescriptor yX5_isCommand.desc).map (fun d => d.parameters.length) = some 0 := by decide +kernel
theorem ca_X5_isCommand : kCal yX5_isCommand (Cond.code yX5_isCommand cX5_isCommand 1 (some .boolean)) := ⟨k_w 8 234 rfl rfl, k_w 1 94 rfl rfl, k_w 2 10 rfl rfl, k_w 8 235 rfl rfl⟩

abbrev wX5_commands : List Cond := Cond.code yX5_commands cX5_commands 4 (some .int) :: kW
def X5_commands_j142 (vM : Nat → Int32) (aM : Nat → Nat → Int32) (x1_142 : Int32) (x2_142 : Int32) (x3_142 : Int32) (vM142 : Nat → Int32) (aM142 : Nat → Nat → Int32) : Int32 × (Nat → Int32) × (Nat → Nat → Int32) :=
  if x1_142 = 0 then (0, upd (upd vM142 9 0) 21 2, (X5_comesBack_f (upd vM142 9 0) aM142))
  else ((X5_keeps_f (upd vM142 9 0) aM142 x2_142).1, (X5_keeps_f (upd vM142 9 0) aM142 x2_142).2.1, (X5_keeps_f (upd vM142 9 0) aM142 x2_142).2.2)
def X5_commands_lp94b (vM : Nat → Int32) (aM : Nat → Nat → Int32) (rec : Int32 → Int32 → Int32 → (Nat → Int32) → (Nat → Nat → Int32) → (Int32 × (Nat → Int32) × (Nat → Nat → Int32))) (x1_94 x2_94 x3_94 : Int32) (vM94 : Nat → Int32) (aM94 : Nat → Nat → Int32) : Int32 × (Nat → Int32) × (Nat → Nat → Int32) :=
  if x3_94 = 0 then X5_commands_j142 vM aM x1_94 x2_94 x3_94 vM94 aM94
  else if (X5_carries_f (upd ((X5_isCommand_f vM94 aM94).2.1) 16 x2_94) ((X5_isCommand_f vM94 aM94).2.2)).1 = true then (if (X5_carries_f (upd ((X5_isCommand_f vM94 aM94).2.1) 16 x2_94) ((X5_isCommand_f vM94 aM94).2.2)).1 = true then (if (X5_isNext_f ((X5_carries_f (upd ((X5_isCommand_f vM94 aM94).2.1) 16 x2_94) ((X5_isCommand_f vM94 aM94).2.2)).2.1) ((X5_carries_f (upd ((X5_isCommand_f vM94 aM94).2.1) 16 x2_94) ((X5_isCommand_f vM94 aM94).2.2)).2.2) 59).1 = true then rec (b2i ((X5_carries_f (upd ((X5_isCommand_f vM94 aM94).2.1) 16 x2_94) ((X5_isCommand_f vM94 aM94).2.2)).1)) (x2_94 + 1) 1 ((X5_isNext_f ((X5_carries_f (upd ((X5_isCommand_f vM94 aM94).2.1) 16 x2_94) ((X5_isCommand_f vM94 aM94).2.2)).2.1) ((X5_carries_f (upd ((X5_isCommand_f vM94 aM94).2.1) 16 x2_94) ((X5_isCommand_f vM94 aM94).2.2)).2.2) 59).2) ((X5_carries_f (upd ((X5_isCommand_f vM94 aM94).2.1) 16 x2_94) ((X5_isCommand_f vM94 aM94).2.2)).2.2)
      else rec (b2i ((X5_carries_f (upd ((X5_isCommand_f vM94 aM94).2.1) 16 x2_94) ((X5_isCommand_f vM94 aM94).2.2)).1)) (x2_94 + 1) 0 ((X5_isNext_f ((X5_carries_f (upd ((X5_isCommand_f vM94 aM94).2.1) 16 x2_94) ((X5_isCommand_f vM94 aM94).2.2)).2.1) ((X5_carries_f (upd ((X5_isCommand_f vM94 aM94).2.1) 16 x2_94) ((X5_isCommand_f vM94 aM94).2.2)).2.2) 59).2) ((X5_carries_f (upd ((X5_isCommand_f vM94 aM94).2.1) 16 x2_94) ((X5_isCommand_f vM94 aM94).2.2)).2.2))
    else rec (b2i ((X5_carries_f (upd ((X5_isCommand_f vM94 aM94).2.1) 16 x2_94) ((X5_isCommand_f vM94 aM94).2.2)).1)) (x2_94 + 1) 0 ((X5_carries_f (upd ((X5_isCommand_f vM94 aM94).2.1) 16 x2_94) ((X5_isCommand_f vM94 aM94).2.2)).2.1) ((X5_carries_f (upd ((X5_isCommand_f vM94 aM94).2.1) 16 x2_94) ((X5_isCommand_f vM94 aM94).2.2)).2.2))
  else if (X5_carries_f (upd ((X5_isCommand_f vM94 aM94).2.1) 16 x2_94) ((X5_isCommand_f vM94 aM94).2.2)).1 = true then (if (X5_isNext_f ((X5_carries_f (upd ((X5_isCommand_f vM94 aM94).2.1) 16 x2_94) ((X5_isCommand_f vM94 aM94).2.2)).2.1) ((X5_carries_f (upd ((X5_isCommand_f vM94 aM94).2.1) 16 x2_94) ((X5_isCommand_f vM94 aM94).2.2)).2.2) 59).1 = true then rec (b2i ((X5_carries_f (upd ((X5_isCommand_f vM94 aM94).2.1) 16 x2_94) ((X5_isCommand_f vM94 aM94).2.2)).1)) x2_94 1 ((X5_isNext_f ((X5_carries_f (upd ((X5_isCommand_f vM94 aM94).2.1) 16 x2_94) ((X5_isCommand_f vM94 aM94).2.2)).2.1) ((X5_carries_f (upd ((X5_isCommand_f vM94 aM94).2.1) 16 x2_94) ((X5_isCommand_f vM94 aM94).2.2)).2.2) 59).2) ((X5_carries_f (upd ((X5_isCommand_f vM94 aM94).2.1) 16 x2_94) ((X5_isCommand_f vM94 aM94).2.2)).2.2)
    else rec (b2i ((X5_carries_f (upd ((X5_isCommand_f vM94 aM94).2.1) 16 x2_94) ((X5_isCommand_f vM94 aM94).2.2)).1)) x2_94 0 ((X5_isNext_f ((X5_carries_f (upd ((X5_isCommand_f vM94 aM94).2.1) 16 x2_94) ((X5_isCommand_f vM94 aM94).2.2)).2.1) ((X5_carries_f (upd ((X5_isCommand_f vM94 aM94).2.1) 16 x2_94) ((X5_isCommand_f vM94 aM94).2.2)).2.2) 59).2) ((X5_carries_f (upd ((X5_isCommand_f vM94 aM94).2.1) 16 x2_94) ((X5_isCommand_f vM94 aM94).2.2)).2.2))
  else rec (b2i ((X5_carries_f (upd ((X5_isCommand_f vM94 aM94).2.1) 16 x2_94) ((X5_isCommand_f vM94 aM94).2.2)).1)) x2_94 0 ((X5_carries_f (upd ((X5_isCommand_f vM94 aM94).2.1) 16 x2_94) ((X5_isCommand_f vM94 aM94).2.2)).2.1) ((X5_carries_f (upd ((X5_isCommand_f vM94 aM94).2.1) 16 x2_94) ((X5_isCommand_f vM94 aM94).2.2)).2.2)
def X5_commands_lp94 (vM : Nat → Int32) (aM : Nat → Nat → Int32) : Nat → Int32 → Int32 → Int32 → (Nat → Int32) → (Nat → Nat → Int32) → (Int32 × (Nat → Int32) × (Nat → Nat → Int32))
  | 0 => fun x1_94 x2_94 x3_94 vM94 aM94 => (0, vM94, aM94)
  | n + 1 => X5_commands_lp94b vM aM (X5_commands_lp94 vM aM n)
theorem X5_commands_lp94_s (vM : Nat → Int32) (aM : Nat → Nat → Int32) (n : Nat) (x1_94 x2_94 x3_94 : Int32) (vM94 : Nat → Int32) (aM94 : Nat → Nat → Int32) : X5_commands_lp94 vM aM (n + 1) x1_94 x2_94 x3_94 vM94 aM94 = X5_commands_lp94b vM aM (X5_commands_lp94 vM aM n) x1_94 x2_94 x3_94 vM94 aM94 := rfl
def X5_commands_j54 (vM : Nat → Int32) (aM : Nat → Nat → Int32) (x1_54 : Int32) (vM54 : Nat → Int32) (aM54 : Nat → Nat → Int32) : Int32 × (Nat → Int32) × (Nat → Nat → Int32) :=
  if x1_54 = 0 then (if x1_54 = 0 then (0, upd (upd (upd vM54 13 (vM54 10)) 9 0) 21 1, aM54)
    else X5_commands_lp94 vM aM 62 x1_54 0 1 (upd (upd vM54 13 (vM54 10)) 10 0) aM54)
  else if x1_54 = 0 then (0, upd (upd (upd vM54 13 (-1)) 9 0) 21 1, aM54)
  else X5_commands_lp94 vM aM 62 x1_54 0 1 (upd (upd vM54 13 (-1)) 10 0) aM54
def X5_commands_lp14b (vM : Nat → Int32) (aM : Nat → Nat → Int32) (rec : Int32 → (Nat → Int32) → (Nat → Nat → Int32) → (Int32 × (Nat → Int32) × (Nat → Nat → Int32))) (x1_14 : Int32) (vM14 : Nat → Int32) (aM14 : Nat → Nat → Int32) : Int32 × (Nat → Int32) × (Nat → Nat → Int32) :=
  if x1_14 = 0 then X5_commands_j54 vM aM x1_14 vM14 aM14
  else if (vM14 9) ≤ (vM14 10) then X5_commands_j54 vM aM x1_14 vM14 aM14
  else if (X5_isNext_f vM14 aM14 59).1 = true then (if (X5_isCommand_f ((X5_isNext_f vM14 aM14 59).2) aM14).1 = true then rec 1 ((X5_isCommand_f ((X5_isNext_f vM14 aM14 59).2) aM14).2.1) ((X5_isCommand_f ((X5_isNext_f vM14 aM14 59).2) aM14).2.2)
    else rec 0 ((X5_isCommand_f ((X5_isNext_f vM14 aM14 59).2) aM14).2.1) ((X5_isCommand_f ((X5_isNext_f vM14 aM14 59).2) aM14).2.2))
  else rec 0 ((X5_isNext_f vM14 aM14 59).2) aM14
def X5_commands_lp14 (vM : Nat → Int32) (aM : Nat → Nat → Int32) : Nat → Int32 → (Nat → Int32) → (Nat → Nat → Int32) → (Int32 × (Nat → Int32) × (Nat → Nat → Int32))
  | 0 => fun x1_14 vM14 aM14 => (0, vM14, aM14)
  | n + 1 => X5_commands_lp14b vM aM (X5_commands_lp14 vM aM n)
theorem X5_commands_lp14_s (vM : Nat → Int32) (aM : Nat → Nat → Int32) (n : Nat) (x1_14 : Int32) (vM14 : Nat → Int32) (aM14 : Nat → Nat → Int32) : X5_commands_lp14 vM aM (n + 1) x1_14 vM14 aM14 = X5_commands_lp14b vM aM (X5_commands_lp14 vM aM n) x1_14 vM14 aM14 := rfl
def X5_commands_f (vM : Nat → Int32) (aM : Nat → Nat → Int32) : Int32 × (Nat → Int32) × (Nat → Nat → Int32) :=
  X5_commands_lp14 vM aM 62 (b2i ((X5_isCommand_f (upd (upd (upd vM 21 0) 16 0) 10 0) (va_up aM 1 (k_cpy 0 64 (aM 0) (aM 1)))).1)) ((X5_isCommand_f (upd (upd (upd vM 21 0) 16 0) 10 0) (va_up aM 1 (k_cpy 0 64 (aM 0) (aM 1)))).2.1) ((X5_isCommand_f (upd (upd (upd vM 21 0) 16 0) 10 0) (va_up aM 1 (k_cpy 0 64 (aM 0) (aM 1)))).2.2)
set_option maxHeartbeats 4000000 in
set_option maxRecDepth 100000 in
theorem X5_commands_c (l : Launch) (g : kG) (oM : Nat) (rM : Nat → Nat) (vM : Nat → Int32) (aM : Nat → Nat → Int32) (hu : (∃ u : Nat, u ≤ 8 ∧ vM 3 = nI u)) (hL9 : (∃ n : Nat, n ≤ 60 ∧ vM 9 = nI n)) (hch : kCh5 aM) (hB5 : (∃ n : Nat, n ≤ 6 ∧ aM 0 5 = nI n)) (hJ5 : (∃ n : Nat, n ≤ 6 ∧ aM 0 4 = nI n)) (hM5 : vp_in (aM 0 1) 4) : kM l yX5_commands wX5_commands 6 134 0 0 g [.ref oM] [X5W g oM rM vM aM] (fun x u => x = (X5_commands_f vM aM).1 ∧ u = [X5W g oM rM ((X5_commands_f vM aM).2.1) ((X5_commands_f vM aM).2.2)]) := by
  refine kM_of (cc := cX5_commands) (nL := 4) (ret := (some .int)) (lv := [(0, .ref oM)]) (by decide) rfl (Nat.le_of_ble_eq_true rfl) rfl ?_
  intro p e s m args below meth c ls A C hP hD hE hA hS hl
  have C : kC p c cX5_commands s m args meth RX5 g 4 (some .int) := C
  have hx := C.1.1
  have hb := C.1.2.1
  have hts := C.1.2.2.2.2
  have hI : kI5 aM := ⟨hB5, hJ5, hM5⟩
  have jn142 : ∀ (x1_142 : Int32) (x2_142 : Int32) (x3_142 : Int32) (vM142 : Nat → Int32) (aM142 : Nat → Nat → Int32) (H : Heap) (locs : List Loc) (ls : Array Slot), (∃ u : Nat, u ≤ 8 ∧ vM142 3 = nI u) → X5_commands_f vM aM = X5_commands_j142 vM aM x1_142 x2_142 x3_142 vM142 aM142 → kp g [X5W g oM rM vM142 aM142] H → kd A [X5W g oM rM vM142 aM142] → va_S A s.heap H locs → lv_has ls 4 [(3, .int x3_142), (2, .int x2_142), (1, .int x1_142), (0, .ref oM)] → W p l e (kRm 6 0 0 134) s m args below meth c H locs 0 0 (MQ below (kQi g (fun x u => x = (X5_commands_f vM aM).1 ∧ u = [X5W g oM rM ((X5_commands_f vM aM).2.1) ((X5_commands_f vM aM).2.2)]) A) args s 0 0 A) (F0 m 142 ls []) := by
    intro x1_142 x2_142 x3_142 vM142 aM142 H locs ls hu142 hF142 hP hD hS hl
    refine lv_aload_n hx hb dX5_commands_142 rfl (lv_at hl 3 rfl) ?_
    refine lv_iconst (v := 0) hx hb dX5_commands_143 (by decide) ?_
    refine kg_put C kFX5 (k := 9) kw1455 hP hD hS (i := 0) (q := 0) rfl rfl (by decide) rfl rfl rfl (Nat.le_of_ble_eq_true rfl) X5s_9 rfl dX5_commands_144 (fun H locs hP hD hS => ?_)
    have hP : kp g [X5W g oM rM (upd vM142 9 0) aM142] H := hP
    have hD : kd A [X5W g oM rM (upd vM142 9 0) aM142] := hD
    refine lv_iload_n hx hb dX5_commands_147 rfl (lv_at hl 2 rfl) ?_
    refine lv_if_eq (tgt := 157) hx hb dX5_commands_148 (by decide) (fun c7 => ?_) (fun c7 => ?_)
    · refine lv_aload_n hx hb dX5_commands_157 rfl (lv_at hl 3 rfl) ?_
      refine kV_V (As := []) (rest := []) (wr := []) C (X5_comesBack_c l g oM rM (upd vM142 9 0) aM142) (cwV 0 hts (k_gV kw1794 ca_X5_comesBack) rfl rfl rfl ⟨rfl, pnX5_comesBack⟩ ⟨Nat.le_of_ble_eq_true rfl, Nat.le_of_ble_eq_true rfl⟩) hE hS hA hP hD [0] [] rfl rfl ⟨rfl, rfl, by decide⟩ (k_recv C kFX5 hP (i := 0) (q := 0) rfl rfl) rfl hl.1 rfl rfl dX5_commands_158 ⟨Nat.le_of_ble_eq_true rfl, Nat.le_of_ble_eq_true rfl⟩ (fun u8 H locs hp8 hP hD hS => ?_)
      subst hp8
      have hP : kp g [X5W g oM rM (upd vM142 9 0) (X5_comesBack_f (upd vM142 9 0) aM142)] H := hP
      have hD : kd A [X5W g oM rM (upd vM142 9 0) (X5_comesBack_f (upd vM142 9 0) aM142)] := hD
      refine lv_aload_n hx hb dX5_commands_161 rfl (lv_at hl 3 rfl) ?_
      refine lv_iconst (v := 2) hx hb dX5_commands_162 (by decide) ?_
      refine kM_V (As := [.int 2]) (rest := []) (wr := []) C (X5_raises_c l g oM rM (upd vM142 9 0) (X5_comesBack_f (upd vM142 9 0) aM142) 2) (cwV 1 hts (k_gV kw1540 ca_X5_raises) rfl rfl rfl ⟨rfl, pnX5_raises⟩ ⟨Nat.le_of_ble_eq_true rfl, Nat.le_of_ble_eq_true rfl⟩) hE hS hA hP hD [0] [] rfl rfl ⟨rfl, rfl, by decide⟩ (k_recv C kFX5 hP (i := 0) (q := 0) rfl rfl) rfl hl.1 rfl rfl dX5_commands_163 ⟨Nat.le_of_ble_eq_true rfl, Nat.le_of_ble_eq_true rfl⟩ (fun r9 u9 H locs hp9 hP hD hS => ?_)
      obtain ⟨er9, eu9⟩ := hp9
      have er9 : r9 = 0 := er9
      have eu9 : u9 = [X5W g oM rM (upd (upd vM142 9 0) 21 2) (X5_comesBack_f (upd vM142 9 0) aM142)] := eu9
      subst er9 eu9
      have hP : kp g [X5W g oM rM (upd (upd vM142 9 0) 21 2) (X5_comesBack_f (upd vM142 9 0) aM142)] H := hP
      have hD : kd A [X5W g oM rM (upd (upd vM142 9 0) 21 2) (X5_comesBack_f (upd vM142 9 0) aM142)] := hD
      have hF := (show X5_commands_f vM aM = (0, upd (upd vM142 9 0) 21 2, (X5_comesBack_f (upd vM142 9 0) aM142)) from hF142.trans (show X5_commands_j142 vM aM x1_142 x2_142 x3_142 vM142 aM142 = (0, upd (upd vM142 9 0) 21 2, (X5_comesBack_f (upd vM142 9 0) aM142)) from (if_pos c7).trans (rfl)))
      exact kM_ret (x := 0) C hP hD hS ⟨by rw [hF], by rw [hF]⟩ dX5_commands_166
    refine lv_aload_n hx hb dX5_commands_151 rfl (lv_at hl 3 rfl) ?_
    refine lv_iload_n hx hb dX5_commands_152 rfl (lv_at hl 1 rfl) ?_
    refine kM_V (As := [.int x2_142]) (rest := []) (wr := []) C (X5_keeps_c l g oM rM (upd vM142 9 0) aM142 x2_142 hu142) (cwV 1 hts (k_gV kw1536 ca_X5_keeps) rfl rfl rfl ⟨rfl, pnX5_keeps⟩ ⟨Nat.le_of_ble_eq_true rfl, Nat.le_of_ble_eq_true rfl⟩) hE hS hA hP hD [0] [] rfl rfl ⟨rfl, rfl, by decide⟩ (k_recv C kFX5 hP (i := 0) (q := 0) rfl rfl) rfl hl.1 rfl rfl dX5_commands_153 ⟨Nat.le_of_ble_eq_true rfl, Nat.le_of_ble_eq_true rfl⟩ (fun r10 u10 H locs hp10 hP hD hS => ?_)
    obtain ⟨rfl, rfl⟩ := hp10
    have hP : kp g [X5W g oM rM ((X5_keeps_f (upd vM142 9 0) aM142 x2_142).2.1) ((X5_keeps_f (upd vM142 9 0) aM142 x2_142).2.2)] H := hP
    have hD : kd A [X5W g oM rM ((X5_keeps_f (upd vM142 9 0) aM142 x2_142).2.1) ((X5_keeps_f (upd vM142 9 0) aM142 x2_142).2.2)] := hD
    have hF := (show X5_commands_f vM aM = ((X5_keeps_f (upd vM142 9 0) aM142 x2_142).1, (X5_keeps_f (upd vM142 9 0) aM142 x2_142).2.1, (X5_keeps_f (upd vM142 9 0) aM142 x2_142).2.2) from hF142.trans (show X5_commands_j142 vM aM x1_142 x2_142 x3_142 vM142 aM142 = ((X5_keeps_f (upd vM142 9 0) aM142 x2_142).1, (X5_keeps_f (upd vM142 9 0) aM142 x2_142).2.1, (X5_keeps_f (upd vM142 9 0) aM142 x2_142).2.2) from (if_neg c7).trans (rfl)))
    exact kM_ret (x := (X5_keeps_f (upd vM142 9 0) aM142 x2_142).1) C hP hD hS ⟨by rw [hF], by rw [hF]⟩ dX5_commands_156
  have loop94 : ∀ (n : Nat) (x1_94 x2_94 x3_94 : Int32) (vM94 : Nat → Int32) (aM94 : Nat → Nat → Int32) (H : Heap) (locs : List Loc) (ls : Array Slot), kOK5 vM94 → kCh5 aM94 → kI5 aM94 → (∃ u : Nat, u ≤ 8 ∧ vM94 3 = nI u) → (kMe5 vM94 + 1 < n ∨ (x3_94 = 0 ∧ 0 < n)) → X5_commands_f vM aM = X5_commands_lp94 vM aM n x1_94 x2_94 x3_94 vM94 aM94 → kp g [X5W g oM rM vM94 aM94] H → kd A [X5W g oM rM vM94 aM94] → va_S A s.heap H locs → lv_has ls 4 [(3, .int x3_94), (2, .int x2_94), (1, .int x1_94), (0, .ref oM)] → W p l e (kRm 6 0 0 134) s m args below meth c H locs 0 0 (MQ below (kQi g (fun x u => x = (X5_commands_f vM aM).1 ∧ u = [X5W g oM rM ((X5_commands_f vM aM).2.1) ((X5_commands_f vM aM).2.2)]) A) args s 0 0 A) (F0 m 94 ls []) := by
    intro n
    induction n with
    | zero =>
      intro x1_94 x2_94 x3_94 vM94 aM94 H locs ls hok94 hch94 hI94 hu94 hm94 hF94 hP hD hS hl
      exact absurd hm94 (by omega)
    | succ n ih94 =>
      intro x1_94 x2_94 x3_94 vM94 aM94 H locs ls hok94 hch94 hI94 hu94 hm94 hF94 hP hD hS hl
      refine lv_iload_n hx hb dX5_commands_94 rfl (lv_at hl 0 rfl) ?_
      refine lv_if_eq (tgt := 142) hx hb dX5_commands_95 (by decide) (fun c6 => ?_) (fun c6 => ?_)
      · exact jn142 x1_94 x2_94 x3_94 vM94 aM94 _ _ ls hu94 (show X5_commands_f vM aM = X5_commands_j142 vM aM x1_94 x2_94 x3_94 vM94 aM94 from hF94.trans ((X5_commands_lp94_s vM aM n x1_94 x2_94 x3_94 vM94 aM94).trans ((if_pos c6).trans (rfl)))) hP hD hS (lv_sub hl [0, 1, 2, 3] rfl)
      have hm94 : kMe5 vM94 < n := by
        rcases hm94 with h | h
        · omega
        · exact absurd h.1 c6
      have hp94 : 0 < n := by omega
      have hs94 := X5_stp_ok (x := x2_94) hok94 hch94 hI94
      have hc94 := X5_isCommand_x (aM := aM94) hok94
      have hB9 := (hc94.I hI94).1
      have hJ9 := (hc94.I hI94).2.1
      have hM9 := (hc94.I hI94).2.2
      have hq94 := (X5_isNext_x (vM := (X5_stp vM94 aM94 x2_94).1) (aM := (X5_stp vM94 aM94 x2_94).2) (p0 := 59) hs94.1)
      refine lv_aload_n hx hb dX5_commands_98 rfl (lv_at hl 3 rfl) ?_
      refine kM_V (As := []) (rest := []) (wr := []) C (X5_isCommand_c l g oM rM vM94 aM94 hok94 hch94) (cwV 0 hts (k_gV kw1778 ca_X5_isCommand) rfl rfl rfl ⟨rfl, pnX5_isCommand⟩ ⟨Nat.le_of_ble_eq_true rfl, Nat.le_of_ble_eq_true rfl⟩) hE hS hA hP hD [0] [] rfl rfl ⟨rfl, rfl, by decide⟩ (k_recv C kFX5 hP (i := 0) (q := 0) rfl rfl) rfl hl.1 rfl rfl dX5_commands_99 ⟨Nat.le_of_ble_eq_true rfl, Nat.le_of_ble_eq_true rfl⟩ (fun r11 u11 H locs hp11 hP hD hS => ?_)
      obtain ⟨rfl, rfl⟩ := hp11
      have hP : kp g [X5W g oM rM ((X5_isCommand_f vM94 aM94).2.1) ((X5_isCommand_f vM94 aM94).2.2)] H := hP
      have hD : kd A [X5W g oM rM ((X5_isCommand_f vM94 aM94).2.1) ((X5_isCommand_f vM94 aM94).2.2)] := hD
      refine lv_istore_n (lv' := [(1, .int (b2i ((X5_isCommand_f vM94 aM94).1))), (3, .int x3_94), (2, .int x2_94), (0, .ref oM)]) hx hb dX5_commands_102 rfl hl (by decide) rfl (fun ls hl => ?_)
      refine lv_aload_n hx hb dX5_commands_103 rfl (lv_at hl 3 rfl) ?_
      refine lv_iload_n hx hb dX5_commands_104 rfl (lv_at hl 2 rfl) ?_
      refine kg_put C kFX5 (k := 16) kw1462 hP hD hS (i := 0) (q := 0) rfl rfl (by decide) rfl rfl rfl (Nat.le_of_ble_eq_true rfl) X5s_16 rfl dX5_commands_105 (fun H locs hP hD hS => ?_)
      have hP : kp g [X5W g oM rM (upd ((X5_isCommand_f vM94 aM94).2.1) 16 x2_94) ((X5_isCommand_f vM94 aM94).2.2)] H := hP
      have hD : kd A [X5W g oM rM (upd ((X5_isCommand_f vM94 aM94).2.1) 16 x2_94) ((X5_isCommand_f vM94 aM94).2.2)] := hD
      refine lv_aload_n hx hb dX5_commands_108 rfl (lv_at hl 3 rfl) ?_
      refine kM_V (As := []) (rest := []) (wr := []) C (X5_carries_c l g oM rM (upd ((X5_isCommand_f vM94 aM94).2.1) 16 x2_94) ((X5_isCommand_f vM94 aM94).2.2) hB9 hJ9 hM9) (cwV 0 hts (k_gV kw1790 ca_X5_carries) rfl rfl rfl ⟨rfl, pnX5_carries⟩ ⟨Nat.le_of_ble_eq_true rfl, Nat.le_of_ble_eq_true rfl⟩) hE hS hA hP hD [0] [] rfl rfl ⟨rfl, rfl, by decide⟩ (k_recv C kFX5 hP (i := 0) (q := 0) rfl rfl) rfl hl.1 rfl rfl dX5_commands_109 ⟨Nat.le_of_ble_eq_true rfl, Nat.le_of_ble_eq_true rfl⟩ (fun r12 u12 H locs hp12 hP hD hS => ?_)
      obtain ⟨rfl, rfl⟩ := hp12
      have hP : kp g [X5W g oM rM ((X5_carries_f (upd ((X5_isCommand_f vM94 aM94).2.1) 16 x2_94) ((X5_isCommand_f vM94 aM94).2.2)).2.1) ((X5_carries_f (upd ((X5_isCommand_f vM94 aM94).2.1) 16 x2_94) ((X5_isCommand_f vM94 aM94).2.2)).2.2)] H := hP
      have hD : kd A [X5W g oM rM ((X5_carries_f (upd ((X5_isCommand_f vM94 aM94).2.1) 16 x2_94) ((X5_isCommand_f vM94 aM94).2.2)).2.1) ((X5_carries_f (upd ((X5_isCommand_f vM94 aM94).2.1) 16 x2_94) ((X5_isCommand_f vM94 aM94).2.2)).2.2)] := hD
      refine lv_istore_n (lv' := [(1, .int (b2i ((X5_carries_f (upd ((X5_isCommand_f vM94 aM94).2.1) 16 x2_94) ((X5_isCommand_f vM94 aM94).2.2)).1))), (3, .int x3_94), (2, .int x2_94), (0, .ref oM)]) hx hb dX5_commands_112 rfl hl (by decide) rfl (fun ls hl => ?_)
      refine lv_iload_n hx hb dX5_commands_113 rfl (lv_at hl 0 rfl) ?_
      refine lv_if_eq (tgt := 120) hx hb dX5_commands_114 (by decide) (fun c13 => ?_) (fun c13 => ?_)
      · have c13 := b2i_eq0 c13
        refine lv_iload_n hx hb dX5_commands_120 rfl (lv_at hl 0 rfl) ?_
        refine lv_if_eq (tgt := 137) hx hb dX5_commands_121 (by decide) (fun c14 => ?_) (fun c14 => ?_)
        · have c14 := b2i_eq0 c14
          refine lv_iconst (v := 0) hx hb dX5_commands_137 (by decide) ?_
          refine lv_istore_n (lv' := [(3, .int 0), (1, .int (b2i ((X5_carries_f (upd ((X5_isCommand_f vM94 aM94).2.1) 16 x2_94) ((X5_isCommand_f vM94 aM94).2.2)).1))), (2, .int x2_94), (0, .ref oM)]) hx hb dX5_commands_138 rfl hl (by decide) rfl (fun ls hl => ?_)
          refine lv_goto (tgt := 94) hx hb dX5_commands_139 (by decide) ?_
          exact ih94 (b2i ((X5_carries_f (upd ((X5_isCommand_f vM94 aM94).2.1) 16 x2_94) ((X5_isCommand_f vM94 aM94).2.2)).1)) x2_94 0 ((X5_carries_f (upd ((X5_isCommand_f vM94 aM94).2.1) 16 x2_94) ((X5_isCommand_f vM94 aM94).2.2)).2.1) ((X5_carries_f (upd ((X5_isCommand_f vM94 aM94).2.1) 16 x2_94) ((X5_isCommand_f vM94 aM94).2.2)).2.2) _ _ ls (by first | exact hq94.ok | exact hs94.1) hs94.2.1 hs94.2.2.1 (by first | exact k_u ((hq94.2.1 3 (by omega) (by omega)).trans hs94.2.2.2.1) hu94 | exact k_u hs94.2.2.2.1 hu94) (by first | exact Or.inr ⟨rfl, hp94⟩ | exact Or.inl (k5_lt3 (X5_isNext_t hs94.1 ht94) hs94.2.2.2.2 hm94)) (show X5_commands_f vM aM = X5_commands_lp94 vM aM n (b2i ((X5_carries_f (upd ((X5_isCommand_f vM94 aM94).2.1) 16 x2_94) ((X5_isCommand_f vM94 aM94).2.2)).1)) x2_94 0 ((X5_carries_f (upd ((X5_isCommand_f vM94 aM94).2.1) 16 x2_94) ((X5_isCommand_f vM94 aM94).2.2)).2.1) ((X5_carries_f (upd ((X5_isCommand_f vM94 aM94).2.1) 16 x2_94) ((X5_isCommand_f vM94 aM94).2.2)).2.2) from hF94.trans ((X5_commands_lp94_s vM aM n x1_94 x2_94 x3_94 vM94 aM94).trans ((if_neg c6).trans ((if_neg c13).trans ((if_neg c14).trans (rfl)))))) hP hD hS (lv_sub hl [0, 2, 1, 3] rfl)
        have c14 := b2i_ne0 c14
        refine lv_aload_n hx hb dX5_commands_124 rfl (lv_at hl 3 rfl) ?_
        refine lv_bipush (v := 59) hx hb dX5_commands_125 (by decide) ?_
        refine kM_V (As := [.int 59]) (rest := []) (wr := []) C (X5_isNext_c l g oM rM ((X5_carries_f (upd ((X5_isCommand_f vM94 aM94).2.1) 16 x2_94) ((X5_isCommand_f vM94 aM94).2.2)).2.1) ((X5_carries_f (upd ((X5_isCommand_f vM94 aM94).2.1) 16 x2_94) ((X5_isCommand_f vM94 aM94).2.2)).2.2) 59 hs94.1) (cwV 1 hts (k_gV kw1786 ca_X5_isNext) rfl rfl rfl ⟨rfl, pnX5_isNext⟩ ⟨Nat.le_of_ble_eq_true rfl, Nat.le_of_ble_eq_true rfl⟩) hE hS hA hP hD [0] [] rfl rfl ⟨rfl, rfl, by decide⟩ (k_recv C kFX5 hP (i := 0) (q := 0) rfl rfl) rfl hl.1 rfl rfl dX5_commands_127 ⟨Nat.le_of_ble_eq_true rfl, Nat.le_of_ble_eq_true rfl⟩ (fun r15 u15 H locs hp15 hP hD hS => ?_)
        obtain ⟨rfl, rfl⟩ := hp15
        have hP : kp g [X5W g oM rM ((X5_isNext_f ((X5_carries_f (upd ((X5_isCommand_f vM94 aM94).2.1) 16 x2_94) ((X5_isCommand_f vM94 aM94).2.2)).2.1) ((X5_carries_f (upd ((X5_isCommand_f vM94 aM94).2.1) 16 x2_94) ((X5_isCommand_f vM94 aM94).2.2)).2.2) 59).2) ((X5_carries_f (upd ((X5_isCommand_f vM94 aM94).2.1) 16 x2_94) ((X5_isCommand_f vM94 aM94).2.2)).2.2)] H := hP
        have hD : kd A [X5W g oM rM ((X5_isNext_f ((X5_carries_f (upd ((X5_isCommand_f vM94 aM94).2.1) 16 x2_94) ((X5_isCommand_f vM94 aM94).2.2)).2.1) ((X5_carries_f (upd ((X5_isCommand_f vM94 aM94).2.1) 16 x2_94) ((X5_isCommand_f vM94 aM94).2.2)).2.2) 59).2) ((X5_carries_f (upd ((X5_isCommand_f vM94 aM94).2.1) 16 x2_94) ((X5_isCommand_f vM94 aM94).2.2)).2.2)] := hD
        refine lv_if_eq (tgt := 137) hx hb dX5_commands_130 (by decide) (fun c16 => ?_) (fun c16 => ?_)
        · have c16 := b2i_eq0 c16
          refine lv_iconst (v := 0) hx hb dX5_commands_137 (by decide) ?_
          refine lv_istore_n (lv' := [(3, .int 0), (1, .int (b2i ((X5_carries_f (upd ((X5_isCommand_f vM94 aM94).2.1) 16 x2_94) ((X5_isCommand_f vM94 aM94).2.2)).1))), (2, .int x2_94), (0, .ref oM)]) hx hb dX5_commands_138 rfl hl (by decide) rfl (fun ls hl => ?_)
          refine lv_goto (tgt := 94) hx hb dX5_commands_139 (by decide) ?_
          exact ih94 (b2i ((X5_carries_f (upd ((X5_isCommand_f vM94 aM94).2.1) 16 x2_94) ((X5_isCommand_f vM94 aM94).2.2)).1)) x2_94 0 ((X5_isNext_f ((X5_carries_f (upd ((X5_isCommand_f vM94 aM94).2.1) 16 x2_94) ((X5_isCommand_f vM94 aM94).2.2)).2.1) ((X5_carries_f (upd ((X5_isCommand_f vM94 aM94).2.1) 16 x2_94) ((X5_isCommand_f vM94 aM94).2.2)).2.2) 59).2) ((X5_carries_f (upd ((X5_isCommand_f vM94 aM94).2.1) 16 x2_94) ((X5_isCommand_f vM94 aM94).2.2)).2.2) _ _ ls (by first | exact hq94.ok | exact hs94.1) hs94.2.1 hs94.2.2.1 (by first | exact k_u ((hq94.2.1 3 (by omega) (by omega)).trans hs94.2.2.2.1) hu94 | exact k_u hs94.2.2.2.1 hu94) (by first | exact Or.inr ⟨rfl, hp94⟩ | exact Or.inl (k5_lt3 (X5_isNext_t hs94.1 ht94) hs94.2.2.2.2 hm94)) (show X5_commands_f vM aM = X5_commands_lp94 vM aM n (b2i ((X5_carries_f (upd ((X5_isCommand_f vM94 aM94).2.1) 16 x2_94) ((X5_isCommand_f vM94 aM94).2.2)).1)) x2_94 0 ((X5_isNext_f ((X5_carries_f (upd ((X5_isCommand_f vM94 aM94).2.1) 16 x2_94) ((X5_isCommand_f vM94 aM94).2.2)).2.1) ((X5_carries_f (upd ((X5_isCommand_f vM94 aM94).2.1) 16 x2_94) ((X5_isCommand_f vM94 aM94).2.2)).2.2) 59).2) ((X5_carries_f (upd ((X5_isCommand_f vM94 aM94).2.1) 16 x2_94) ((X5_isCommand_f vM94 aM94).2.2)).2.2) from hF94.trans ((X5_commands_lp94_s vM aM n x1_94 x2_94 x3_94 vM94 aM94).trans ((if_neg c6).trans ((if_neg c13).trans ((if_pos c14).trans ((if_neg c16).trans (rfl))))))) hP hD hS (lv_sub hl [0, 2, 1, 3] rfl)
        have c16 := b2i_ne0 c16
        have ht94 := c16
        refine lv_iconst (v := 1) hx hb dX5_commands_133 (by decide) ?_
        refine lv_goto (tgt := 138) hx hb dX5_commands_134 (by decide) ?_
        refine lv_istore_n (lv' := [(3, .int 1), (1, .int (b2i ((X5_carries_f (upd ((X5_isCommand_f vM94 aM94).2.1) 16 x2_94) ((X5_isCommand_f vM94 aM94).2.2)).1))), (2, .int x2_94), (0, .ref oM)]) hx hb dX5_commands_138 rfl hl (by decide) rfl (fun ls hl => ?_)
        refine lv_goto (tgt := 94) hx hb dX5_commands_139 (by decide) ?_
        exact ih94 (b2i ((X5_carries_f (upd ((X5_isCommand_f vM94 aM94).2.1) 16 x2_94) ((X5_isCommand_f vM94 aM94).2.2)).1)) x2_94 1 ((X5_isNext_f ((X5_carries_f (upd ((X5_isCommand_f vM94 aM94).2.1) 16 x2_94) ((X5_isCommand_f vM94 aM94).2.2)).2.1) ((X5_carries_f (upd ((X5_isCommand_f vM94 aM94).2.1) 16 x2_94) ((X5_isCommand_f vM94 aM94).2.2)).2.2) 59).2) ((X5_carries_f (upd ((X5_isCommand_f vM94 aM94).2.1) 16 x2_94) ((X5_isCommand_f vM94 aM94).2.2)).2.2) _ _ ls (by first | exact hq94.ok | exact hs94.1) hs94.2.1 hs94.2.2.1 (by first | exact k_u ((hq94.2.1 3 (by omega) (by omega)).trans hs94.2.2.2.1) hu94 | exact k_u hs94.2.2.2.1 hu94) (by first | exact Or.inr ⟨rfl, hp94⟩ | exact Or.inl (k5_lt3 (X5_isNext_t hs94.1 ht94) hs94.2.2.2.2 hm94)) (show X5_commands_f vM aM = X5_commands_lp94 vM aM n (b2i ((X5_carries_f (upd ((X5_isCommand_f vM94 aM94).2.1) 16 x2_94) ((X5_isCommand_f vM94 aM94).2.2)).1)) x2_94 1 ((X5_isNext_f ((X5_carries_f (upd ((X5_isCommand_f vM94 aM94).2.1) 16 x2_94) ((X5_isCommand_f vM94 aM94).2.2)).2.1) ((X5_carries_f (upd ((X5_isCommand_f vM94 aM94).2.1) 16 x2_94) ((X5_isCommand_f vM94 aM94).2.2)).2.2) 59).2) ((X5_carries_f (upd ((X5_isCommand_f vM94 aM94).2.1) 16 x2_94) ((X5_isCommand_f vM94 aM94).2.2)).2.2) from hF94.trans ((X5_commands_lp94_s vM aM n x1_94 x2_94 x3_94 vM94 aM94).trans ((if_neg c6).trans ((if_neg c13).trans ((if_pos c14).trans ((if_pos c16).trans (rfl))))))) hP hD hS (lv_sub hl [0, 2, 1, 3] rfl)
      have c13 := b2i_ne0 c13
      refine lv_iinc (v := (x2_94 + 1)) (lv' := [(2, .int (x2_94 + 1)), (1, .int (b2i ((X5_carries_f (upd ((X5_isCommand_f vM94 aM94).2.1) 16 x2_94) ((X5_isCommand_f vM94 aM94).2.2)).1))), (3, .int x3_94), (0, .ref oM)]) hx hb dX5_commands_117 hl (k := 2) rfl rfl (by decide) rfl (fun ls hl => ?_)
      refine lv_iload_n hx hb dX5_commands_120 rfl (lv_at hl 1 rfl) ?_
      refine lv_if_eq (tgt := 137) hx hb dX5_commands_121 (by decide) (fun c17 => ?_) (fun c17 => ?_)
      · have c17 := b2i_eq0 c17
        refine lv_iconst (v := 0) hx hb dX5_commands_137 (by decide) ?_
        refine lv_istore_n (lv' := [(3, .int 0), (2, .int (x2_94 + 1)), (1, .int (b2i ((X5_carries_f (upd ((X5_isCommand_f vM94 aM94).2.1) 16 x2_94) ((X5_isCommand_f vM94 aM94).2.2)).1))), (0, .ref oM)]) hx hb dX5_commands_138 rfl hl (by decide) rfl (fun ls hl => ?_)
        refine lv_goto (tgt := 94) hx hb dX5_commands_139 (by decide) ?_
        exact ih94 (b2i ((X5_carries_f (upd ((X5_isCommand_f vM94 aM94).2.1) 16 x2_94) ((X5_isCommand_f vM94 aM94).2.2)).1)) (x2_94 + 1) 0 ((X5_carries_f (upd ((X5_isCommand_f vM94 aM94).2.1) 16 x2_94) ((X5_isCommand_f vM94 aM94).2.2)).2.1) ((X5_carries_f (upd ((X5_isCommand_f vM94 aM94).2.1) 16 x2_94) ((X5_isCommand_f vM94 aM94).2.2)).2.2) _ _ ls (by first | exact hq94.ok | exact hs94.1) hs94.2.1 hs94.2.2.1 (by first | exact k_u ((hq94.2.1 3 (by omega) (by omega)).trans hs94.2.2.2.1) hu94 | exact k_u hs94.2.2.2.1 hu94) (by first | exact Or.inr ⟨rfl, hp94⟩ | exact Or.inl (k5_lt3 (X5_isNext_t hs94.1 ht94) hs94.2.2.2.2 hm94)) (show X5_commands_f vM aM = X5_commands_lp94 vM aM n (b2i ((X5_carries_f (upd ((X5_isCommand_f vM94 aM94).2.1) 16 x2_94) ((X5_isCommand_f vM94 aM94).2.2)).1)) (x2_94 + 1) 0 ((X5_carries_f (upd ((X5_isCommand_f vM94 aM94).2.1) 16 x2_94) ((X5_isCommand_f vM94 aM94).2.2)).2.1) ((X5_carries_f (upd ((X5_isCommand_f vM94 aM94).2.1) 16 x2_94) ((X5_isCommand_f vM94 aM94).2.2)).2.2) from hF94.trans ((X5_commands_lp94_s vM aM n x1_94 x2_94 x3_94 vM94 aM94).trans ((if_neg c6).trans ((if_pos c13).trans ((if_neg c17).trans (rfl)))))) hP hD hS (lv_sub hl [0, 1, 2, 3] rfl)
      have c17 := b2i_ne0 c17
      refine lv_aload_n hx hb dX5_commands_124 rfl (lv_at hl 3 rfl) ?_
      refine lv_bipush (v := 59) hx hb dX5_commands_125 (by decide) ?_
      refine kM_V (As := [.int 59]) (rest := []) (wr := []) C (X5_isNext_c l g oM rM ((X5_carries_f (upd ((X5_isCommand_f vM94 aM94).2.1) 16 x2_94) ((X5_isCommand_f vM94 aM94).2.2)).2.1) ((X5_carries_f (upd ((X5_isCommand_f vM94 aM94).2.1) 16 x2_94) ((X5_isCommand_f vM94 aM94).2.2)).2.2) 59 hs94.1) (cwV 1 hts (k_gV kw1786 ca_X5_isNext) rfl rfl rfl ⟨rfl, pnX5_isNext⟩ ⟨Nat.le_of_ble_eq_true rfl, Nat.le_of_ble_eq_true rfl⟩) hE hS hA hP hD [0] [] rfl rfl ⟨rfl, rfl, by decide⟩ (k_recv C kFX5 hP (i := 0) (q := 0) rfl rfl) rfl hl.1 rfl rfl dX5_commands_127 ⟨Nat.le_of_ble_eq_true rfl, Nat.le_of_ble_eq_true rfl⟩ (fun r18 u18 H locs hp18 hP hD hS => ?_)
      obtain ⟨rfl, rfl⟩ := hp18
      have hP : kp g [X5W g oM rM ((X5_isNext_f ((X5_carries_f (upd ((X5_isCommand_f vM94 aM94).2.1) 16 x2_94) ((X5_isCommand_f vM94 aM94).2.2)).2.1) ((X5_carries_f (upd ((X5_isCommand_f vM94 aM94).2.1) 16 x2_94) ((X5_isCommand_f vM94 aM94).2.2)).2.2) 59).2) ((X5_carries_f (upd ((X5_isCommand_f vM94 aM94).2.1) 16 x2_94) ((X5_isCommand_f vM94 aM94).2.2)).2.2)] H := hP
      have hD : kd A [X5W g oM rM ((X5_isNext_f ((X5_carries_f (upd ((X5_isCommand_f vM94 aM94).2.1) 16 x2_94) ((X5_isCommand_f vM94 aM94).2.2)).2.1) ((X5_carries_f (upd ((X5_isCommand_f vM94 aM94).2.1) 16 x2_94) ((X5_isCommand_f vM94 aM94).2.2)).2.2) 59).2) ((X5_carries_f (upd ((X5_isCommand_f vM94 aM94).2.1) 16 x2_94) ((X5_isCommand_f vM94 aM94).2.2)).2.2)] := hD
      refine lv_if_eq (tgt := 137) hx hb dX5_commands_130 (by decide) (fun c19 => ?_) (fun c19 => ?_)
      · have c19 := b2i_eq0 c19
        refine lv_iconst (v := 0) hx hb dX5_commands_137 (by decide) ?_
        refine lv_istore_n (lv' := [(3, .int 0), (2, .int (x2_94 + 1)), (1, .int (b2i ((X5_carries_f (upd ((X5_isCommand_f vM94 aM94).2.1) 16 x2_94) ((X5_isCommand_f vM94 aM94).2.2)).1))), (0, .ref oM)]) hx hb dX5_commands_138 rfl hl (by decide) rfl (fun ls hl => ?_)
        refine lv_goto (tgt := 94) hx hb dX5_commands_139 (by decide) ?_
        exact ih94 (b2i ((X5_carries_f (upd ((X5_isCommand_f vM94 aM94).2.1) 16 x2_94) ((X5_isCommand_f vM94 aM94).2.2)).1)) (x2_94 + 1) 0 ((X5_isNext_f ((X5_carries_f (upd ((X5_isCommand_f vM94 aM94).2.1) 16 x2_94) ((X5_isCommand_f vM94 aM94).2.2)).2.1) ((X5_carries_f (upd ((X5_isCommand_f vM94 aM94).2.1) 16 x2_94) ((X5_isCommand_f vM94 aM94).2.2)).2.2) 59).2) ((X5_carries_f (upd ((X5_isCommand_f vM94 aM94).2.1) 16 x2_94) ((X5_isCommand_f vM94 aM94).2.2)).2.2) _ _ ls (by first | exact hq94.ok | exact hs94.1) hs94.2.1 hs94.2.2.1 (by first | exact k_u ((hq94.2.1 3 (by omega) (by omega)).trans hs94.2.2.2.1) hu94 | exact k_u hs94.2.2.2.1 hu94) (by first | exact Or.inr ⟨rfl, hp94⟩ | exact Or.inl (k5_lt3 (X5_isNext_t hs94.1 ht94) hs94.2.2.2.2 hm94)) (show X5_commands_f vM aM = X5_commands_lp94 vM aM n (b2i ((X5_carries_f (upd ((X5_isCommand_f vM94 aM94).2.1) 16 x2_94) ((X5_isCommand_f vM94 aM94).2.2)).1)) (x2_94 + 1) 0 ((X5_isNext_f ((X5_carries_f (upd ((X5_isCommand_f vM94 aM94).2.1) 16 x2_94) ((X5_isCommand_f vM94 aM94).2.2)).2.1) ((X5_carries_f (upd ((X5_isCommand_f vM94 aM94).2.1) 16 x2_94) ((X5_isCommand_f vM94 aM94).2.2)).2.2) 59).2) ((X5_carries_f (upd ((X5_isCommand_f vM94 aM94).2.1) 16 x2_94) ((X5_isCommand_f vM94 aM94).2.2)).2.2) from hF94.trans ((X5_commands_lp94_s vM aM n x1_94 x2_94 x3_94 vM94 aM94).trans ((if_neg c6).trans ((if_pos c13).trans ((if_pos c17).trans ((if_neg c19).trans (rfl))))))) hP hD hS (lv_sub hl [0, 1, 2, 3] rfl)
      have c19 := b2i_ne0 c19
      have ht94 := c19
      refine lv_iconst (v := 1) hx hb dX5_commands_133 (by decide) ?_
      refine lv_goto (tgt := 138) hx hb dX5_commands_134 (by decide) ?_
      refine lv_istore_n (lv' := [(3, .int 1), (2, .int (x2_94 + 1)), (1, .int (b2i ((X5_carries_f (upd ((X5_isCommand_f vM94 aM94).2.1) 16 x2_94) ((X5_isCommand_f vM94 aM94).2.2)).1))), (0, .ref oM)]) hx hb dX5_commands_138 rfl hl (by decide) rfl (fun ls hl => ?_)
      refine lv_goto (tgt := 94) hx hb dX5_commands_139 (by decide) ?_
      exact ih94 (b2i ((X5_carries_f (upd ((X5_isCommand_f vM94 aM94).2.1) 16 x2_94) ((X5_isCommand_f vM94 aM94).2.2)).1)) (x2_94 + 1) 1 ((X5_isNext_f ((X5_carries_f (upd ((X5_isCommand_f vM94 aM94).2.1) 16 x2_94) ((X5_isCommand_f vM94 aM94).2.2)).2.1) ((X5_carries_f (upd ((X5_isCommand_f vM94 aM94).2.1) 16 x2_94) ((X5_isCommand_f vM94 aM94).2.2)).2.2) 59).2) ((X5_carries_f (upd ((X5_isCommand_f vM94 aM94).2.1) 16 x2_94) ((X5_isCommand_f vM94 aM94).2.2)).2.2) _ _ ls (by first | exact hq94.ok | exact hs94.1) hs94.2.1 hs94.2.2.1 (by first | exact k_u ((hq94.2.1 3 (by omega) (by omega)).trans hs94.2.2.2.1) hu94 | exact k_u hs94.2.2.2.1 hu94) (by first | exact Or.inr ⟨rfl, hp94⟩ | exact Or.inl (k5_lt3 (X5_isNext_t hs94.1 ht94) hs94.2.2.2.2 hm94)) (show X5_commands_f vM aM = X5_commands_lp94 vM aM n (b2i ((X5_carries_f (upd ((X5_isCommand_f vM94 aM94).2.1) 16 x2_94) ((X5_isCommand_f vM94 aM94).2.2)).1)) (x2_94 + 1) 1 ((X5_isNext_f ((X5_carries_f (upd ((X5_isCommand_f vM94 aM94).2.1) 16 x2_94) ((X5_isCommand_f vM94 aM94).2.2)).2.1) ((X5_carries_f (upd ((X5_isCommand_f vM94 aM94).2.1) 16 x2_94) ((X5_isCommand_f vM94 aM94).2.2)).2.2) 59).2) ((X5_carries_f (upd ((X5_isCommand_f vM94 aM94).2.1) 16 x2_94) ((X5_isCommand_f vM94 aM94).2.2)).2.2) from hF94.trans ((X5_commands_lp94_s vM aM n x1_94 x2_94 x3_94 vM94 aM94).trans ((if_neg c6).trans ((if_pos c13).trans ((if_pos c17).trans ((if_pos c19).trans (rfl))))))) hP hD hS (lv_sub hl [0, 1, 2, 3] rfl)
  have jn54 : ∀ (x1_54 : Int32) (vM54 : Nat → Int32) (aM54 : Nat → Nat → Int32) (H : Heap) (locs : List Loc) (ls : Array Slot), kOK5 vM54 → kCh5 aM54 → kI5 aM54 → (∃ u : Nat, u ≤ 8 ∧ vM54 3 = nI u) → X5_commands_f vM aM = X5_commands_j54 vM aM x1_54 vM54 aM54 → kp g [X5W g oM rM vM54 aM54] H → kd A [X5W g oM rM vM54 aM54] → va_S A s.heap H locs → lv_has ls 4 [(1, .int x1_54), (0, .ref oM)] → W p l e (kRm 6 0 0 134) s m args below meth c H locs 0 0 (MQ below (kQi g (fun x u => x = (X5_commands_f vM aM).1 ∧ u = [X5W g oM rM ((X5_commands_f vM aM).2.1) ((X5_commands_f vM aM).2.2)]) A) args s 0 0 A) (F0 m 54 ls []) := by
    intro x1_54 vM54 aM54 H locs ls hok54 hch54 hI54 hu54 hF54 hP hD hS hl
    refine lv_aload_n hx hb dX5_commands_54 rfl (lv_at hl 1 rfl) ?_
    refine lv_iload_n hx hb dX5_commands_55 rfl (lv_at hl 0 rfl) ?_
    refine lv_if_eq (tgt := 63) hx hb dX5_commands_56 (by decide) (fun c4 => ?_) (fun c4 => ?_)
    · refine lv_aload_n hx hb dX5_commands_63 rfl (lv_at hl 1 rfl) ?_
      refine kg_get C kFX5 (k := 10) kw1456 hP (i := 0) (q := 0) rfl rfl (by decide) rfl dX5_commands_64 ?_
      refine kg_put C kFX5 (k := 13) kw1459 hP hD hS (i := 0) (q := 0) rfl rfl (by decide) rfl rfl rfl (Nat.le_of_ble_eq_true rfl) X5s_13 rfl dX5_commands_67 (fun H locs hP hD hS => ?_)
      have hP : kp g [X5W g oM rM (upd vM54 13 (vM54 10)) aM54] H := hP
      have hD : kd A [X5W g oM rM (upd vM54 13 (vM54 10)) aM54] := hD
      refine lv_iload_n hx hb dX5_commands_70 rfl (lv_at hl 0 rfl) ?_
      refine lv_if_ne (tgt := 85) hx hb dX5_commands_71 (by decide) (fun c5 => ?_) (fun c5 => ?_)
      · refine lv_aload_n hx hb dX5_commands_85 rfl (lv_at hl 1 rfl) ?_
        refine lv_iconst (v := 0) hx hb dX5_commands_86 (by decide) ?_
        refine kg_put C kFX5 (k := 10) kw1456 hP hD hS (i := 0) (q := 0) rfl rfl (by decide) rfl rfl rfl (Nat.le_of_ble_eq_true rfl) X5s_10 rfl dX5_commands_87 (fun H locs hP hD hS => ?_)
        have hP : kp g [X5W g oM rM (upd (upd vM54 13 (vM54 10)) 10 0) aM54] H := hP
        have hD : kd A [X5W g oM rM (upd (upd vM54 13 (vM54 10)) 10 0) aM54] := hD
        refine lv_iconst (v := 0) hx hb dX5_commands_90 (by decide) ?_
        refine lv_istore_n (lv' := [(2, .int 0), (1, .int x1_54), (0, .ref oM)]) hx hb dX5_commands_91 rfl hl (by decide) rfl (fun ls hl => ?_)
        refine lv_iconst (v := 1) hx hb dX5_commands_92 (by decide) ?_
        refine lv_istore_n (lv' := [(3, .int 1), (2, .int 0), (1, .int x1_54), (0, .ref oM)]) hx hb dX5_commands_93 rfl hl (by decide) rfl (fun ls hl => ?_)
        exact loop94 62 x1_54 0 1 (upd (upd vM54 13 (vM54 10)) 10 0) aM54 _ _ ls (k5_0 (k5_len hok54)) hch54 hI54 hu54 (Or.inl (Nat.succ_lt_succ (k5_me61 (k5_0 (k5_len hok54))))) (show X5_commands_f vM aM = X5_commands_lp94 vM aM 62 x1_54 0 1 (upd (upd vM54 13 (vM54 10)) 10 0) aM54 from hF54.trans (show X5_commands_j54 vM aM x1_54 vM54 aM54 = X5_commands_lp94 vM aM 62 x1_54 0 1 (upd (upd vM54 13 (vM54 10)) 10 0) aM54 from (if_pos c4).trans ((if_neg c5).trans (rfl)))) hP hD hS (lv_sub hl [0, 1, 2, 3] rfl)
      refine lv_aload_n hx hb dX5_commands_74 rfl (lv_at hl 1 rfl) ?_
      refine lv_iconst (v := 0) hx hb dX5_commands_75 (by decide) ?_
      refine kg_put C kFX5 (k := 9) kw1455 hP hD hS (i := 0) (q := 0) rfl rfl (by decide) rfl rfl rfl (Nat.le_of_ble_eq_true rfl) X5s_9 rfl dX5_commands_76 (fun H locs hP hD hS => ?_)
      have hP : kp g [X5W g oM rM (upd (upd vM54 13 (vM54 10)) 9 0) aM54] H := hP
      have hD : kd A [X5W g oM rM (upd (upd vM54 13 (vM54 10)) 9 0) aM54] := hD
      refine lv_aload_n hx hb dX5_commands_79 rfl (lv_at hl 1 rfl) ?_
      refine lv_iconst (v := 1) hx hb dX5_commands_80 (by decide) ?_
      refine kM_V (As := [.int 1]) (rest := []) (wr := []) C (X5_raises_c l g oM rM (upd (upd vM54 13 (vM54 10)) 9 0) aM54 1) (cwV 1 hts (k_gV kw1540 ca_X5_raises) rfl rfl rfl ⟨rfl, pnX5_raises⟩ ⟨Nat.le_of_ble_eq_true rfl, Nat.le_of_ble_eq_true rfl⟩) hE hS hA hP hD [0] [] rfl rfl ⟨rfl, rfl, by decide⟩ (k_recv C kFX5 hP (i := 0) (q := 0) rfl rfl) rfl hl.1 rfl rfl dX5_commands_81 ⟨Nat.le_of_ble_eq_true rfl, Nat.le_of_ble_eq_true rfl⟩ (fun r20 u20 H locs hp20 hP hD hS => ?_)
      obtain ⟨er20, eu20⟩ := hp20
      have er20 : r20 = 0 := er20
      have eu20 : u20 = [X5W g oM rM (upd (upd (upd vM54 13 (vM54 10)) 9 0) 21 1) aM54] := eu20
      subst er20 eu20
      have hP : kp g [X5W g oM rM (upd (upd (upd vM54 13 (vM54 10)) 9 0) 21 1) aM54] H := hP
      have hD : kd A [X5W g oM rM (upd (upd (upd vM54 13 (vM54 10)) 9 0) 21 1) aM54] := hD
      have hF := (show X5_commands_f vM aM = (0, upd (upd (upd vM54 13 (vM54 10)) 9 0) 21 1, aM54) from hF54.trans (show X5_commands_j54 vM aM x1_54 vM54 aM54 = (0, upd (upd (upd vM54 13 (vM54 10)) 9 0) 21 1, aM54) from (if_pos c4).trans ((if_pos c5).trans (rfl))))
      exact kM_ret (x := 0) C hP hD hS ⟨by rw [hF], by rw [hF]⟩ dX5_commands_84
    refine lv_iconst (v := (-1)) hx hb dX5_commands_59 (by decide) ?_
    refine lv_goto (tgt := 67) hx hb dX5_commands_60 (by decide) ?_
    refine kg_put C kFX5 (k := 13) kw1459 hP hD hS (i := 0) (q := 0) rfl rfl (by decide) rfl rfl rfl (Nat.le_of_ble_eq_true rfl) X5s_13 rfl dX5_commands_67 (fun H locs hP hD hS => ?_)
    have hP : kp g [X5W g oM rM (upd vM54 13 (-1)) aM54] H := hP
    have hD : kd A [X5W g oM rM (upd vM54 13 (-1)) aM54] := hD
    refine lv_iload_n hx hb dX5_commands_70 rfl (lv_at hl 0 rfl) ?_
    refine lv_if_ne (tgt := 85) hx hb dX5_commands_71 (by decide) (fun c21 => ?_) (fun c21 => ?_)
    · refine lv_aload_n hx hb dX5_commands_85 rfl (lv_at hl 1 rfl) ?_
      refine lv_iconst (v := 0) hx hb dX5_commands_86 (by decide) ?_
      refine kg_put C kFX5 (k := 10) kw1456 hP hD hS (i := 0) (q := 0) rfl rfl (by decide) rfl rfl rfl (Nat.le_of_ble_eq_true rfl) X5s_10 rfl dX5_commands_87 (fun H locs hP hD hS => ?_)
      have hP : kp g [X5W g oM rM (upd (upd vM54 13 (-1)) 10 0) aM54] H := hP
      have hD : kd A [X5W g oM rM (upd (upd vM54 13 (-1)) 10 0) aM54] := hD
      refine lv_iconst (v := 0) hx hb dX5_commands_90 (by decide) ?_
      refine lv_istore_n (lv' := [(2, .int 0), (1, .int x1_54), (0, .ref oM)]) hx hb dX5_commands_91 rfl hl (by decide) rfl (fun ls hl => ?_)
      refine lv_iconst (v := 1) hx hb dX5_commands_92 (by decide) ?_
      refine lv_istore_n (lv' := [(3, .int 1), (2, .int 0), (1, .int x1_54), (0, .ref oM)]) hx hb dX5_commands_93 rfl hl (by decide) rfl (fun ls hl => ?_)
      exact loop94 62 x1_54 0 1 (upd (upd vM54 13 (-1)) 10 0) aM54 _ _ ls (k5_0 (k5_len hok54)) hch54 hI54 hu54 (Or.inl (Nat.succ_lt_succ (k5_me61 (k5_0 (k5_len hok54))))) (show X5_commands_f vM aM = X5_commands_lp94 vM aM 62 x1_54 0 1 (upd (upd vM54 13 (-1)) 10 0) aM54 from hF54.trans (show X5_commands_j54 vM aM x1_54 vM54 aM54 = X5_commands_lp94 vM aM 62 x1_54 0 1 (upd (upd vM54 13 (-1)) 10 0) aM54 from (if_neg c4).trans ((if_neg c21).trans (rfl)))) hP hD hS (lv_sub hl [0, 1, 2, 3] rfl)
    refine lv_aload_n hx hb dX5_commands_74 rfl (lv_at hl 1 rfl) ?_
    refine lv_iconst (v := 0) hx hb dX5_commands_75 (by decide) ?_
    refine kg_put C kFX5 (k := 9) kw1455 hP hD hS (i := 0) (q := 0) rfl rfl (by decide) rfl rfl rfl (Nat.le_of_ble_eq_true rfl) X5s_9 rfl dX5_commands_76 (fun H locs hP hD hS => ?_)
    have hP : kp g [X5W g oM rM (upd (upd vM54 13 (-1)) 9 0) aM54] H := hP
    have hD : kd A [X5W g oM rM (upd (upd vM54 13 (-1)) 9 0) aM54] := hD
    refine lv_aload_n hx hb dX5_commands_79 rfl (lv_at hl 1 rfl) ?_
    refine lv_iconst (v := 1) hx hb dX5_commands_80 (by decide) ?_
    refine kM_V (As := [.int 1]) (rest := []) (wr := []) C (X5_raises_c l g oM rM (upd (upd vM54 13 (-1)) 9 0) aM54 1) (cwV 1 hts (k_gV kw1540 ca_X5_raises) rfl rfl rfl ⟨rfl, pnX5_raises⟩ ⟨Nat.le_of_ble_eq_true rfl, Nat.le_of_ble_eq_true rfl⟩) hE hS hA hP hD [0] [] rfl rfl ⟨rfl, rfl, by decide⟩ (k_recv C kFX5 hP (i := 0) (q := 0) rfl rfl) rfl hl.1 rfl rfl dX5_commands_81 ⟨Nat.le_of_ble_eq_true rfl, Nat.le_of_ble_eq_true rfl⟩ (fun r22 u22 H locs hp22 hP hD hS => ?_)
    obtain ⟨er22, eu22⟩ := hp22
    have er22 : r22 = 0 := er22
    have eu22 : u22 = [X5W g oM rM (upd (upd (upd vM54 13 (-1)) 9 0) 21 1) aM54] := eu22
    subst er22 eu22
    have hP : kp g [X5W g oM rM (upd (upd (upd vM54 13 (-1)) 9 0) 21 1) aM54] H := hP
    have hD : kd A [X5W g oM rM (upd (upd (upd vM54 13 (-1)) 9 0) 21 1) aM54] := hD
    have hF := (show X5_commands_f vM aM = (0, upd (upd (upd vM54 13 (-1)) 9 0) 21 1, aM54) from hF54.trans (show X5_commands_j54 vM aM x1_54 vM54 aM54 = (0, upd (upd (upd vM54 13 (-1)) 9 0) 21 1, aM54) from (if_neg c4).trans ((if_pos c21).trans (rfl))))
    exact kM_ret (x := 0) C hP hD hS ⟨by rw [hF], by rw [hF]⟩ dX5_commands_84
  have loop14 : ∀ (n : Nat) (x1_14 : Int32) (vM14 : Nat → Int32) (aM14 : Nat → Nat → Int32) (H : Heap) (locs : List Loc) (ls : Array Slot), kOK5 vM14 → kCh5 aM14 → kI5 aM14 → (∃ u : Nat, u ≤ 8 ∧ vM14 3 = nI u) → (kMe5 vM14 + 1 < n ∨ (x1_14 = 0 ∧ 0 < n)) → X5_commands_f vM aM = X5_commands_lp14 vM aM n x1_14 vM14 aM14 → kp g [X5W g oM rM vM14 aM14] H → kd A [X5W g oM rM vM14 aM14] → va_S A s.heap H locs → lv_has ls 4 [(1, .int x1_14), (0, .ref oM)] → W p l e (kRm 6 0 0 134) s m args below meth c H locs 0 0 (MQ below (kQi g (fun x u => x = (X5_commands_f vM aM).1 ∧ u = [X5W g oM rM ((X5_commands_f vM aM).2.1) ((X5_commands_f vM aM).2.2)]) A) args s 0 0 A) (F0 m 14 ls []) := by
    intro n
    induction n with
    | zero =>
      intro x1_14 vM14 aM14 H locs ls hok14 hch14 hI14 hu14 hm14 hF14 hP hD hS hl
      exact absurd hm14 (by omega)
    | succ n ih14 =>
      intro x1_14 vM14 aM14 H locs ls hok14 hch14 hI14 hu14 hm14 hF14 hP hD hS hl
      refine lv_iload_n hx hb dX5_commands_14 rfl (lv_at hl 0 rfl) ?_
      refine lv_if_eq (tgt := 54) hx hb dX5_commands_15 (by decide) (fun c3 => ?_) (fun c3 => ?_)
      · exact jn54 x1_14 vM14 aM14 _ _ ls hok14 hch14 hI14 hu14 (show X5_commands_f vM aM = X5_commands_j54 vM aM x1_14 vM14 aM14 from hF14.trans ((X5_commands_lp14_s vM aM n x1_14 vM14 aM14).trans ((if_pos c3).trans (rfl)))) hP hD hS (lv_sub hl [0, 1] rfl)
      have hm14 : kMe5 vM14 < n := by
        rcases hm14 with h | h
        · omega
        · exact absurd h.1 c3
      have hp14 : 0 < n := by omega
      refine lv_aload_n hx hb dX5_commands_18 rfl (lv_at hl 1 rfl) ?_
      refine kg_get C kFX5 (k := 10) kw1456 hP (i := 0) (q := 0) rfl rfl (by decide) rfl dX5_commands_19 ?_
      refine lv_aload_n hx hb dX5_commands_22 rfl (lv_at hl 1 rfl) ?_
      refine kg_get C kFX5 (k := 9) kw1455 hP (i := 0) (q := 0) rfl rfl (by decide) rfl dX5_commands_23 ?_
      refine lv_icmp_ge (tgt := 54) hx hb dX5_commands_26 (by decide) (fun c23 => ?_) (fun c23 => ?_)
      · exact jn54 x1_14 vM14 aM14 _ _ ls hok14 hch14 hI14 hu14 (show X5_commands_f vM aM = X5_commands_j54 vM aM x1_14 vM14 aM14 from hF14.trans ((X5_commands_lp14_s vM aM n x1_14 vM14 aM14).trans ((if_neg c3).trans ((if_pos c23).trans (rfl))))) hP hD hS (lv_sub hl [0, 1] rfl)
      refine lv_aload_n hx hb dX5_commands_29 rfl (lv_at hl 1 rfl) ?_
      refine lv_bipush (v := 59) hx hb dX5_commands_30 (by decide) ?_
      refine kM_V (As := [.int 59]) (rest := []) (wr := []) C (X5_isNext_c l g oM rM vM14 aM14 59 hok14) (cwV 1 hts (k_gV kw1786 ca_X5_isNext) rfl rfl rfl ⟨rfl, pnX5_isNext⟩ ⟨Nat.le_of_ble_eq_true rfl, Nat.le_of_ble_eq_true rfl⟩) hE hS hA hP hD [0] [] rfl rfl ⟨rfl, rfl, by decide⟩ (k_recv C kFX5 hP (i := 0) (q := 0) rfl rfl) rfl hl.1 rfl rfl dX5_commands_32 ⟨Nat.le_of_ble_eq_true rfl, Nat.le_of_ble_eq_true rfl⟩ (fun r24 u24 H locs hp24 hP hD hS => ?_)
      obtain ⟨rfl, rfl⟩ := hp24
      have hP : kp g [X5W g oM rM ((X5_isNext_f vM14 aM14 59).2) aM14] H := hP
      have hD : kd A [X5W g oM rM ((X5_isNext_f vM14 aM14 59).2) aM14] := hD
      refine lv_if_eq (tgt := 49) hx hb dX5_commands_35 (by decide) (fun c25 => ?_) (fun c25 => ?_)
      · have c25 := b2i_eq0 c25
        have hq14 := (X5_isNext_x (vM := vM14) (aM := aM14) (p0 := 59) hok14)
        refine lv_iconst (v := 0) hx hb dX5_commands_49 (by decide) ?_
        refine lv_istore_n (lv' := [(1, .int 0), (0, .ref oM)]) hx hb dX5_commands_50 rfl hl (by decide) rfl (fun ls hl => ?_)
        refine lv_goto (tgt := 14) hx hb dX5_commands_51 (by decide) ?_
        exact ih14 0 ((X5_isNext_f vM14 aM14 59).2) aM14 _ _ ls hq14.ok (hq14.ch hch14) (hq14.I hI14) (k_u (hq14.2.1 3 (by omega) (by omega)) hu14) (by first | exact Or.inr ⟨rfl, hp14⟩ | exact Or.inl (by have h1 := k5_me hy14.1; have h2 := X5_isNext_t hok14 ht14; omega)) (show X5_commands_f vM aM = X5_commands_lp14 vM aM n 0 ((X5_isNext_f vM14 aM14 59).2) aM14 from hF14.trans ((X5_commands_lp14_s vM aM n x1_14 vM14 aM14).trans ((if_neg c3).trans ((if_neg c23).trans ((if_neg c25).trans (rfl)))))) hP hD hS (lv_sub hl [0, 1] rfl)
      have c25 := b2i_ne0 c25
      have ht14 := c25
      have hn14 := (X5_isNext_x (vM := vM14) (aM := aM14) (p0 := 59) hok14).ok
      have hy14 := X5_isCommand_x (aM := aM14) hn14
      have hq14 := (X5_isNext_x (vM := vM14) (aM := aM14) (p0 := 59) hok14).tr hy14
      refine lv_aload_n hx hb dX5_commands_38 rfl (lv_at hl 1 rfl) ?_
      refine kM_V (As := []) (rest := []) (wr := []) C (X5_isCommand_c l g oM rM ((X5_isNext_f vM14 aM14 59).2) aM14 hn14 hch14) (cwV 0 hts (k_gV kw1778 ca_X5_isCommand) rfl rfl rfl ⟨rfl, pnX5_isCommand⟩ ⟨Nat.le_of_ble_eq_true rfl, Nat.le_of_ble_eq_true rfl⟩) hE hS hA hP hD [0] [] rfl rfl ⟨rfl, rfl, by decide⟩ (k_recv C kFX5 hP (i := 0) (q := 0) rfl rfl) rfl hl.1 rfl rfl dX5_commands_39 ⟨Nat.le_of_ble_eq_true rfl, Nat.le_of_ble_eq_true rfl⟩ (fun r26 u26 H locs hp26 hP hD hS => ?_)
      obtain ⟨rfl, rfl⟩ := hp26
      have hP : kp g [X5W g oM rM ((X5_isCommand_f ((X5_isNext_f vM14 aM14 59).2) aM14).2.1) ((X5_isCommand_f ((X5_isNext_f vM14 aM14 59).2) aM14).2.2)] H := hP
      have hD : kd A [X5W g oM rM ((X5_isCommand_f ((X5_isNext_f vM14 aM14 59).2) aM14).2.1) ((X5_isCommand_f ((X5_isNext_f vM14 aM14 59).2) aM14).2.2)] := hD
      refine lv_if_eq (tgt := 49) hx hb dX5_commands_42 (by decide) (fun c27 => ?_) (fun c27 => ?_)
      · have c27 := b2i_eq0 c27
        refine lv_iconst (v := 0) hx hb dX5_commands_49 (by decide) ?_
        refine lv_istore_n (lv' := [(1, .int 0), (0, .ref oM)]) hx hb dX5_commands_50 rfl hl (by decide) rfl (fun ls hl => ?_)
        refine lv_goto (tgt := 14) hx hb dX5_commands_51 (by decide) ?_
        exact ih14 0 ((X5_isCommand_f ((X5_isNext_f vM14 aM14 59).2) aM14).2.1) ((X5_isCommand_f ((X5_isNext_f vM14 aM14 59).2) aM14).2.2) _ _ ls hq14.ok (hq14.ch hch14) (hq14.I hI14) (k_u (hq14.2.1 3 (by omega) (by omega)) hu14) (by first | exact Or.inr ⟨rfl, hp14⟩ | exact Or.inl (by have h1 := k5_me hy14.1; have h2 := X5_isNext_t hok14 ht14; omega)) (show X5_commands_f vM aM = X5_commands_lp14 vM aM n 0 ((X5_isCommand_f ((X5_isNext_f vM14 aM14 59).2) aM14).2.1) ((X5_isCommand_f ((X5_isNext_f vM14 aM14 59).2) aM14).2.2) from hF14.trans ((X5_commands_lp14_s vM aM n x1_14 vM14 aM14).trans ((if_neg c3).trans ((if_neg c23).trans ((if_pos c25).trans ((if_neg c27).trans (rfl))))))) hP hD hS (lv_sub hl [0, 1] rfl)
      have c27 := b2i_ne0 c27
      refine lv_iconst (v := 1) hx hb dX5_commands_45 (by decide) ?_
      refine lv_goto (tgt := 50) hx hb dX5_commands_46 (by decide) ?_
      refine lv_istore_n (lv' := [(1, .int 1), (0, .ref oM)]) hx hb dX5_commands_50 rfl hl (by decide) rfl (fun ls hl => ?_)
      refine lv_goto (tgt := 14) hx hb dX5_commands_51 (by decide) ?_
      exact ih14 1 ((X5_isCommand_f ((X5_isNext_f vM14 aM14 59).2) aM14).2.1) ((X5_isCommand_f ((X5_isNext_f vM14 aM14 59).2) aM14).2.2) _ _ ls hq14.ok (hq14.ch hch14) (hq14.I hI14) (k_u (hq14.2.1 3 (by omega) (by omega)) hu14) (by first | exact Or.inr ⟨rfl, hp14⟩ | exact Or.inl (by have h1 := k5_me hy14.1; have h2 := X5_isNext_t hok14 ht14; omega)) (show X5_commands_f vM aM = X5_commands_lp14 vM aM n 1 ((X5_isCommand_f ((X5_isNext_f vM14 aM14 59).2) aM14).2.1) ((X5_isCommand_f ((X5_isNext_f vM14 aM14 59).2) aM14).2.2) from hF14.trans ((X5_commands_lp14_s vM aM n x1_14 vM14 aM14).trans ((if_neg c3).trans ((if_neg c23).trans ((if_pos c25).trans ((if_pos c27).trans (rfl))))))) hP hD hS (lv_sub hl [0, 1] rfl)
  refine lv_aload_n hx hb dX5_commands_0 rfl (lv_at hl 0 rfl) ?_
  refine kV_V (As := []) (rest := []) (wr := []) C (X5_tries_c l g oM rM vM aM) (cwV 0 hts (k_gV kw1521 ca_X5_tries) rfl rfl rfl ⟨rfl, pnX5_tries⟩ ⟨Nat.le_of_ble_eq_true rfl, Nat.le_of_ble_eq_true rfl⟩) hE hS hA hP hD [0] [] rfl rfl ⟨rfl, rfl, by decide⟩ (k_recv C kFX5 hP (i := 0) (q := 0) rfl rfl) rfl hl.1 rfl rfl dX5_commands_1 ⟨Nat.le_of_ble_eq_true rfl, Nat.le_of_ble_eq_true rfl⟩ (fun u1 H locs eu1 hP hD hS => ?_)
  have eu1 : u1 = [X5W g oM rM (upd (upd vM 21 0) 16 0) (va_up aM 1 (k_cpy 0 64 (aM 0) (aM 1)))] := eu1.trans (by rw [X5_tries_eq])
  subst eu1
  have hP : kp g [X5W g oM rM (upd (upd vM 21 0) 16 0) (va_up aM 1 (k_cpy 0 64 (aM 0) (aM 1)))] H := hP
  have hD : kd A [X5W g oM rM (upd (upd vM 21 0) 16 0) (va_up aM 1 (k_cpy 0 64 (aM 0) (aM 1)))] := hD
  refine lv_aload_n hx hb dX5_commands_4 rfl (lv_at hl 0 rfl) ?_
  refine lv_iconst (v := 0) hx hb dX5_commands_5 (by decide) ?_
  refine kg_put C kFX5 (k := 10) kw1456 hP hD hS (i := 0) (q := 0) rfl rfl (by decide) rfl rfl rfl (Nat.le_of_ble_eq_true rfl) X5s_10 rfl dX5_commands_6 (fun H locs hP hD hS => ?_)
  have hP : kp g [X5W g oM rM (upd (upd (upd vM 21 0) 16 0) 10 0) (va_up aM 1 (k_cpy 0 64 (aM 0) (aM 1)))] H := hP
  have hD : kd A [X5W g oM rM (upd (upd (upd vM 21 0) 16 0) 10 0) (va_up aM 1 (k_cpy 0 64 (aM 0) (aM 1)))] := hD
  refine lv_aload_n hx hb dX5_commands_9 rfl (lv_at hl 0 rfl) ?_
  refine kM_V (As := []) (rest := []) (wr := []) C (X5_isCommand_c l g oM rM (upd (upd (upd vM 21 0) 16 0) 10 0) (va_up aM 1 (k_cpy 0 64 (aM 0) (aM 1))) (k5_0 hL9) hch) (cwV 0 hts (k_gV kw1778 ca_X5_isCommand) rfl rfl rfl ⟨rfl, pnX5_isCommand⟩ ⟨Nat.le_of_ble_eq_true rfl, Nat.le_of_ble_eq_true rfl⟩) hE hS hA hP hD [0] [] rfl rfl ⟨rfl, rfl, by decide⟩ (k_recv C kFX5 hP (i := 0) (q := 0) rfl rfl) rfl hl.1 rfl rfl dX5_commands_10 ⟨Nat.le_of_ble_eq_true rfl, Nat.le_of_ble_eq_true rfl⟩ (fun r2 u2 H locs hp2 hP hD hS => ?_)
  obtain ⟨rfl, rfl⟩ := hp2
  have hP : kp g [X5W g oM rM ((X5_isCommand_f (upd (upd (upd vM 21 0) 16 0) 10 0) (va_up aM 1 (k_cpy 0 64 (aM 0) (aM 1)))).2.1) ((X5_isCommand_f (upd (upd (upd vM 21 0) 16 0) 10 0) (va_up aM 1 (k_cpy 0 64 (aM 0) (aM 1)))).2.2)] H := hP
  have hD : kd A [X5W g oM rM ((X5_isCommand_f (upd (upd (upd vM 21 0) 16 0) 10 0) (va_up aM 1 (k_cpy 0 64 (aM 0) (aM 1)))).2.1) ((X5_isCommand_f (upd (upd (upd vM 21 0) 16 0) 10 0) (va_up aM 1 (k_cpy 0 64 (aM 0) (aM 1)))).2.2)] := hD
  refine lv_istore_n (lv' := [(1, .int (b2i ((X5_isCommand_f (upd (upd (upd vM 21 0) 16 0) 10 0) (va_up aM 1 (k_cpy 0 64 (aM 0) (aM 1)))).1))), (0, .ref oM)]) hx hb dX5_commands_13 rfl hl (by decide) rfl (fun ls hl => ?_)
  exact loop14 62 (b2i ((X5_isCommand_f (upd (upd (upd vM 21 0) 16 0) 10 0) (va_up aM 1 (k_cpy 0 64 (aM 0) (aM 1)))).1)) ((X5_isCommand_f (upd (upd (upd vM 21 0) 16 0) 10 0) (va_up aM 1 (k_cpy 0 64 (aM 0) (aM 1)))).2.1) ((X5_isCommand_f (upd (upd (upd vM 21 0) 16 0) 10 0) (va_up aM 1 (k_cpy 0 64 (aM 0) (aM 1)))).2.2) _ _ ls (X5_isCommand_x (vM := upd (upd (upd vM 21 0) 16 0) 10 0) (aM := (va_up aM 1 (k_cpy 0 64 (aM 0) (aM 1)))) (k5_0 hL9)).ok ((X5_isCommand_x (vM := upd (upd (upd vM 21 0) 16 0) 10 0) (aM := (va_up aM 1 (k_cpy 0 64 (aM 0) (aM 1)))) (k5_0 hL9)).ch hch) ((X5_isCommand_x (vM := upd (upd (upd vM 21 0) 16 0) 10 0) (aM := (va_up aM 1 (k_cpy 0 64 (aM 0) (aM 1)))) (k5_0 hL9)).I hI) (k_u ((X5_isCommand_x (vM := upd (upd (upd vM 21 0) 16 0) 10 0) (aM := (va_up aM 1 (k_cpy 0 64 (aM 0) (aM 1)))) (k5_0 hL9)).2.1 3 (by omega) (by omega)) hu) (Or.inl (by have := k5_me61 (X5_isCommand_x (vM := upd (upd (upd vM 21 0) 16 0) 10 0) (aM := (va_up aM 1 (k_cpy 0 64 (aM 0) (aM 1)))) (k5_0 hL9)).ok; omega)) (show X5_commands_f vM aM = X5_commands_lp14 vM aM 62 (b2i ((X5_isCommand_f (upd (upd (upd vM 21 0) 16 0) 10 0) (va_up aM 1 (k_cpy 0 64 (aM 0) (aM 1)))).1)) ((X5_isCommand_f (upd (upd (upd vM 21 0) 16 0) 10 0) (va_up aM 1 (k_cpy 0 64 (aM 0) (aM 1)))).2.1) ((X5_isCommand_f (upd (upd (upd vM 21 0) 16 0) 10 0) (va_up aM 1 (k_cpy 0 64 (aM 0) (aM 1)))).2.2) from rfl) hP hD hS (lv_sub hl [0, 1] rfl)
