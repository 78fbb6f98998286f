/-! the law: its loop, its start -/
theorem kl_sub {L i : Nat} (hL : L ≤ 2048) (hi : i ≤ 4096) : nI L - 4 < nI i ↔ L < i + 4 := by
  have h : (nI L - nI 4).toInt = (L : Int) - (4 : Nat) := by
    rw [Int32.toInt_sub, nI_toInt (by omega), nI_toInt (by omega)]
    exact Int.bmod_eq_of_le (by omega) (by omega)
  rw [Int32.lt_iff_toInt_lt, nI_toInt (n := i) (by omega), show (nI L - 4 : Int32).toInt = (L : Int) - (4 : Nat) from h]
  omega
theorem kl_case {x : Int32} (h1 : ¬ x.toInt < 0) (h2 : ¬ 37 < x.toInt) : ∃ j, j < 38 ∧ x = nI j := by
  obtain ⟨j, hj, rfl⟩ := nI_of (x := x) (fun z => h1 (by rw [Int32.lt_iff_toInt_lt, Int32.toInt_zero] at z; exact z))
  refine ⟨j, ?_, rfl⟩
  rw [nI_toInt hj] at h2
  omega
theorem kl_ret {p : Program} {l : Launch} {e : Env} {s : State} {m : MethodId} {below : List Frame} {meth : Method} {c : Code} {b : Nat} {g : kG} {H : Heap} {locs : List Loc} {cells slots : Nat} {ls : Array Slot} (C : kC p c code s m #[Value.ref b] meth RL g 9 ret) (hS : va_S (kAh s) s.heap H locs) (hc : cells ≤ 605484) (hs : slots ≤ 7191588) : W p l e room_1 s m #[Value.ref b] below meth c H locs cells slots (lw_Z below #[Value.ref b] s) (F0 m 2364 ls []) := by
  refine lv_iconst (v := 1) C.1.1 C.1.2.1 dL_law_2364 (by decide) ?_
  refine va_forget (fun q hq => hS.2.2 q hq) ?_
  refine W.widen (k := 605484) (n := 7191588) hc hs ?_
  refine W.base ?_
  exact lw_ret (Drawn.sameBut.refl s.drawn lw_cs) C.1.1 C.1.2.1 C.2.2.1 C.2.2.2 dL_law_2365
set_option maxRecDepth 100000 in
set_option maxHeartbeats 4000000 in
theorem kl_loop (l : Launch) (hfl : l.stackTraces = false) {p : Program} {e : Env} {s : State} {m : MethodId} {below : List Frame} {meth : Method} {c : Code} {b L : Nat} {xs : Nat → Int32} {g : kG} (oF oC oS oH oR oT oB oM oL oD : Nat) (rC rS rH rR rT rM : Nat → Nat) (oQ : Nat → Nat) (rQ : Nat → Nat → Nat) (aR : Nat → Nat → Int32) (C : kC p c code s m #[Value.ref b] meth RL g 9 ret) (hE : kE g (kAh s) s s.heap) (hNc : kNc s) (hX : va_X b L xs s s.heap) (hbl : b < s.heap.size) (hL : L ≤ 2048) :
    ∀ (r i N cells slots : Nat), L < i + 4 * r → i ≤ L → N + 60 * r ≤ 80000 → cells + 40 * r ≤ 605484 → slots + 2000 * r ≤ 7191588 → ∀ (vF : Nat → Int32) (vC : Nat → Int32) (aC : Nat → Nat → Int32) (vS : Nat → Int32) (aS : Nat → Nat → Int32) (vH : Nat → Int32) (aH : Nat → (Nat → Int32) × (Nat → Nat → Int32)) (vR : Nat → Int32) (vT : Nat → Int32) (aT : Nat → Nat → Int32) (q n : Nat) (ml : Int32) (f : Nat → Int32) (t : Nat → Nat) (k : Nat) (vM : Nat → Int32) (aM : Nat → Nat → Int32) (fL : Nat → Int64) (fD : Nat → UInt64) (H : Heap) (locs : List Loc) (ls : Array Slot), kRel N vF vC aC vS aS vH aH vR vT aT t k vM aM → ((n = 16 ∨ n = 34) ∧ k ≤ n ∧ sb_Fit f ∧ sb_Lat t k f) → kp g [X4W g oF (kFr oC oS oH oR oT oB) vF, X0W g oC rC vC aC, X0W g oS rS vS aS, X2W g oH rH vH oQ rQ aH, X3W g oR rR vR aR, X1W g oT rT vT aT, JOW oB q ml (nI k), JAW g q n f, X5W g oM rM vM aM, OLW g oL fL, ODW g oD fD] H → kd (kAh s) [X4W g oF (kFr oC oS oH oR oT oB) vF, X0W g oC rC vC aC, X0W g oS rS vS aS, X2W g oH rH vH oQ rQ aH, X3W g oR rR vR aR, X1W g oT rT vT aT, JOW oB q ml (nI k), JAW g q n f, X5W g oM rM vM aM, OLW g oL fL, ODW g oD fD] → va_S (kAh s) s.heap H locs → lv_has ls 9 (kLb i b oF oM oL oD) →
    W p l e room_1 s m #[Value.ref b] below meth c H locs cells slots (lw_Z below #[Value.ref b] s) (F0 m 28 ls []) := by
  intro r
  induction r with
  | zero => intro i N cells slots h1 h2; omega
  | succ r IH =>
    intro i N cells slots h1 h2 h3 h4 h5 vF vC aC vS aS vH aH vR vT aT q n ml f t k vM aM fL fD H locs ls hR hT hP hD hS hl
    have hx := C.1.1
    have hb := C.1.2.1
    have hbA : ¬ kAh s b := Nat.not_le.mpr hbl
    refine lv_iload hx hb dL_law_28 (lv_at hl 0 rfl) ?_
    refine lv_aload_n hx hb dL_law_30 rfl (lv_at hl 1 rfl) ?_
    refine va_slen hx hb hX hbl hbA hS dL_law_31 ?_
    refine lv_iconst (v := 4) hx hb dL_law_32 (by decide) ?_
    refine lv_isub hx hb dL_law_33 ?_
    refine lv_icmp_gt (tgt := 2364) hx hb dL_law_34 (by decide) (fun _ => ?_) (fun cg => ?_)
    · exact kl_ret C hS (by omega) (by omega)
    have hi4 : i + 4 ≤ L := by
      rcases Nat.lt_or_ge L (i + 4) with h | h
      · exact absurd ((kl_sub hL (by omega)).mpr h) cg
      · exact h
    have ih : kNext l p e s m below meth c b g oF oC oS oH oR oT oB oM oL oD rC rS rH rR rT rM oQ rQ aR i N cells slots := by
      intro vF vC aC vS aS vH aH vR vT aT q n ml f t k vM aM fL fD H locs ls cells' slots' hR hT hP hD hS hl hc' hs'
      refine lv_iinc (v := nI (i + 4)) (lv' := kLb (i + 4) b oF oM oL oD) hx hb dL_law_2358 hl (k := 0) rfl (nI_add i 4) (by decide) rfl (fun ls hl => ?_)
      refine lv_goto (tgt := 28) hx hb dL_law_2361 (by decide) ?_
      exact IH (i + 4) (N + 60) cells' slots' (by omega) (by omega) (by omega) (by omega) (by omega) vF vC aC vS aS vH aH vR vT aT q n ml f t k vM aM fL fD H locs ls hR hT hP hD hS hl
    refine lv_aload_n hx hb dL_law_37 rfl (lv_at hl 1 rfl) ?_
    refine lv_iload hx hb dL_law_38 (lv_at hl 0 rfl) ?_
    refine va_sld hx hb hX hbl hbA hS (vp_in_nI (show i < L by omega) (by omega)) dL_law_40 ?_
    refine lv_bipush (v := 63) hx hb dL_law_41 (by decide) ?_
    refine lv_iand hx hb dL_law_43 ?_
    generalize xs (nI i).toNatClampNeg &&& 63 = x
    have hN : N < 90000 := by omega
    have hcb : cells + 40 ≤ 605484 := by omega
    have hsb : slots + 2000 ≤ 7191588 := by omega
    by_cases c1 : x.toInt < 0
    · refine lv_tableOut (tgt := 2358) hx hb dL_law_44 (Or.inl c1) (by decide) ?_
      exact ih vF vC aC vS aS vH aH vR vT aT q n ml f t k vM aM fL fD H locs ls cells slots (hR.mono (by omega)) hT hP hD hS hl (by omega) (by omega)
    by_cases c2 : 37 < x.toInt
    · refine lv_tableOut (tgt := 2358) hx hb dL_law_44 (Or.inr c2) (by decide) ?_
      exact ih vF vC aC vS aS vH aH vR vT aT q n ml f t k vM aM fL fD H locs ls cells slots (hR.mono (by omega)) hT hP hD hS hl (by omega) (by omega)
    obtain ⟨j, hj, rfl⟩ := kl_case c1 c2
    match j, hj with
    | 0, _ => exact lv_tableIn (off := 168) (tgt := 212) hx hb dL_law_44 (by decide) (by decide) rfl (by decide) (LC_jar l hfl oF oC oS oH oR oT oB oM oL oD rC rS rH rR rT rM oQ rQ aR C hE hNc hX hbl hL hi4 hN hcb hsb ih vF vC aC vS aS vH aH vR vT aT q n ml f t k vM aM fL fD H locs ls hR hT hP hD hS hl)
    | 1, _ => exact lv_tableIn (off := 236) (tgt := 280) hx hb dL_law_44 (by decide) (by decide) rfl (by decide) (LC_bag l hfl oF oC oS oH oR oT oB oM oL oD rC rS rH rR rT rM oQ rQ aR C hE hNc hX hbl hL hi4 hN hcb hsb ih vF vC aC vS aS vH aH vR vT aT q n ml f t k vM aM fL fD H locs ls hR hT hP hD hS hl)
    | 2, _ => exact lv_tableIn (off := 292) (tgt := 336) hx hb dL_law_44 (by decide) (by decide) rfl (by decide) (LC_fill l hfl oF oC oS oH oR oT oB oM oL oD rC rS rH rR rT rM oQ rQ aR C hE hNc hX hbl hL hi4 hN hcb hsb ih vF vC aC vS aS vH aH vR vT aT q n ml f t k vM aM fL fD H locs ls hR hT hP hD hS hl)
    | 3, _ => exact lv_tableIn (off := 372) (tgt := 416) hx hb dL_law_44 (by decide) (by decide) rfl (by decide) (LC_empty l hfl oF oC oS oH oR oT oB oM oL oD rC rS rH rR rT rM oQ rQ aR C hE hNc hX hbl hL hi4 hN hcb hsb ih vF vC aC vS aS vH aH vR vT aT q n ml f t k vM aM fL fD H locs ls hR hT hP hD hS hl)
    | 4, _ => exact lv_tableIn (off := 440) (tgt := 484) hx hb dL_law_44 (by decide) (by decide) rfl (by decide) (LC_beat l hfl oF oC oS oH oR oT oB oM oL oD rC rS rH rR rT rM oQ rQ aR C hE hNc hX hbl hL hi4 hN hcb hsb ih vF vC aC vS aS vH aH vR vT aT q n ml f t k vM aM fL fD H locs ls hR hT hP hD hS hl)
    | 5, _ => exact lv_tableIn (off := 496) (tgt := 540) hx hb dL_law_44 (by decide) (by decide) rfl (by decide) (LC_thumb l hfl oF oC oS oH oR oT oB oM oL oD rC rS rH rR rT rM oQ rQ aR C hE hNc hX hbl hL hi4 hN hcb hsb ih vF vC aC vS aS vH aH vR vT aT q n ml f t k vM aM fL fD H locs ls hR hT hP hD hS hl)
    | 6, _ => exact lv_tableIn (off := 552) (tgt := 596) hx hb dL_law_44 (by decide) (by decide) rfl (by decide) (LC_weigh l hfl oF oC oS oH oR oT oB oM oL oD rC rS rH rR rT rM oQ rQ aR C hE hNc hX hbl hL hi4 hN hcb hsb ih vF vC aC vS aS vH aH vR vT aT q n ml f t k vM aM fL fD H locs ls hR hT hP hD hS hl)
    | 7, _ => exact lv_tableIn (off := 608) (tgt := 652) hx hb dL_law_44 (by decide) (by decide) rfl (by decide) (LC_sell l hfl oF oC oS oH oR oT oB oM oL oD rC rS rH rR rT rM oQ rQ aR C hE hNc hX hbl hL hi4 hN hcb hsb ih vF vC aC vS aS vH aH vR vT aT q n ml f t k vM aM fL fD H locs ls hR hT hP hD hS hl)
    | 8, _ => exact lv_tableIn (off := 664) (tgt := 708) hx hb dL_law_44 (by decide) (by decide) rfl (by decide) (LC_oath l hfl oF oC oS oH oR oT oB oM oL oD rC rS rH rR rT rM oQ rQ aR C hE hNc hX hbl hL hi4 hN hcb hsb ih vF vC aC vS aS vH aH vR vT aT q n ml f t k vM aM fL fD H locs ls hR hT hP hD hS hl)
    | 9, _ => exact lv_tableIn (off := 708) (tgt := 752) hx hb dL_law_44 (by decide) (by decide) rfl (by decide) (LC_go l hfl oF oC oS oH oR oT oB oM oL oD rC rS rH rR rT rM oQ rQ aR C hE hNc hX hbl hL hi4 hN hcb hsb ih vF vC aC vS aS vH aH vR vT aT q n ml f t k vM aM fL fD H locs ls hR hT hP hD hS hl)
    | 10, _ => exact lv_tableIn (off := 764) (tgt := 808) hx hb dL_law_44 (by decide) (by decide) rfl (by decide) (LC_seal l hfl oF oC oS oH oR oT oB oM oL oD rC rS rH rR rT rM oQ rQ aR C hE hNc hX hbl hL hi4 hN hcb hsb ih vF vC aC vS aS vH aH vR vT aT q n ml f t k vM aM fL fD H locs ls hR hT hP hD hS hl)
    | 11, _ => exact lv_tableIn (off := 820) (tgt := 864) hx hb dL_law_44 (by decide) (by decide) rfl (by decide) (LC_days l hfl oF oC oS oH oR oT oB oM oL oD rC rS rH rR rT rM oQ rQ aR C hE hNc hX hbl hL hi4 hN hcb hsb ih vF vC aC vS aS vH aH vR vT aT q n ml f t k vM aM fL fD H locs ls hR hT hP hD hS hl)
    | 12, _ => exact lv_tableIn (off := 876) (tgt := 920) hx hb dL_law_44 (by decide) (by decide) rfl (by decide) (LC_jarOf l hfl oF oC oS oH oR oT oB oM oL oD rC rS rH rR rT rM oQ rQ aR C hE hNc hX hbl hL hi4 hN hcb hsb ih vF vC aC vS aS vH aH vR vT aT q n ml f t k vM aM fL fD H locs ls hR hT hP hD hS hl)
    | 13, _ => exact lv_tableIn (off := 960) (tgt := 1004) hx hb dL_law_44 (by decide) (by decide) rfl (by decide) (LC_bagOf l hfl oF oC oS oH oR oT oB oM oL oD rC rS rH rR rT rM oQ rQ aR C hE hNc hX hbl hL hi4 hN hcb hsb ih vF vC aC vS aS vH aH vR vT aT q n ml f t k vM aM fL fD H locs ls hR hT hP hD hS hl)
    | 14, _ => exact lv_tableIn (off := 1028) (tgt := 1072) hx hb dL_law_44 (by decide) (by decide) rfl (by decide) (LC_weightOf l hfl oF oC oS oH oR oT oB oM oL oD rC rS rH rR rT rM oQ rQ aR C hE hNc hX hbl hL hi4 hN hcb hsb ih vF vC aC vS aS vH aH vR vT aT q n ml f t k vM aM fL fD H locs ls hR hT hP hD hS hl)
    | 15, _ => exact lv_tableIn (off := 1096) (tgt := 1140) hx hb dL_law_44 (by decide) (by decide) rfl (by decide) (LC_told l hfl oF oC oS oH oR oT oB oM oL oD rC rS rH rR rT rM oQ rQ aR C hE hNc hX hbl hL hi4 hN hcb hsb ih vF vC aC vS aS vH aH vR vT aT q n ml f t k vM aM fL fD H locs ls hR hT hP hD hS hl)
    | 16, _ => exact lv_tableIn (off := 1152) (tgt := 1196) hx hb dL_law_44 (by decide) (by decide) rfl (by decide) (LC_toldAgain l hfl oF oC oS oH oR oT oB oM oL oD rC rS rH rR rT rM oQ rQ aR C hE hNc hX hbl hL hi4 hN hcb hsb ih vF vC aC vS aS vH aH vR vT aT q n ml f t k vM aM fL fD H locs ls hR hT hP hD hS hl)
    | 17, _ => exact lv_tableIn (off := 1208) (tgt := 1252) hx hb dL_law_44 (by decide) (by decide) rfl (by decide) (LC_onPan l hfl oF oC oS oH oR oT oB oM oL oD rC rS rH rR rT rM oQ rQ aR C hE hNc hX hbl hL hi4 hN hcb hsb ih vF vC aC vS aS vH aH vR vT aT q n ml f t k vM aM fL fD H locs ls hR hT hP hD hS hl)
    | 18, _ => exact lv_tableIn (off := 1264) (tgt := 1308) hx hb dL_law_44 (by decide) (by decide) rfl (by decide) (LC_rest l hfl oF oC oS oH oR oT oB oM oL oD rC rS rH rR rT rM oQ rQ aR C hE hNc hX hbl hL hi4 hN hcb hsb ih vF vC aC vS aS vH aH vR vT aT q n ml f t k vM aM fL fD H locs ls hR hT hP hD hS hl)
    | 19, _ => exact lv_tableIn (off := 1320) (tgt := 1364) hx hb dL_law_44 (by decide) (by decide) rfl (by decide) (LC_honest l hfl oF oC oS oH oR oT oB oM oL oD rC rS rH rR rT rM oQ rQ aR C hE hNc hX hbl hL hi4 hN hcb hsb ih vF vC aC vS aS vH aH vR vT aT q n ml f t k vM aM fL fD H locs ls hR hT hP hD hS hl)
    | 20, _ => exact lv_tableIn (off := 1376) (tgt := 1420) hx hb dL_law_44 (by decide) (by decide) rfl (by decide) (LC_pays l hfl oF oC oS oH oR oT oB oM oL oD rC rS rH rR rT rM oQ rQ aR C hE hNc hX hbl hL hi4 hN hcb hsb ih vF vC aC vS aS vH aH vR vT aT q n ml f t k vM aM fL fD H locs ls hR hT hP hD hS hl)
    | 21, _ => exact lv_tableIn (off := 1444) (tgt := 1488) hx hb dL_law_44 (by decide) (by decide) rfl (by decide) (LC_wouldGet l hfl oF oC oS oH oR oT oB oM oL oD rC rS rH rR rT rM oQ rQ aR C hE hNc hX hbl hL hi4 hN hcb hsb ih vF vC aC vS aS vH aH vR vT aT q n ml f t k vM aM fL fD H locs ls hR hT hP hD hS hl)
    | 22, _ => exact lv_tableIn (off := 1512) (tgt := 1556) hx hb dL_law_44 (by decide) (by decide) rfl (by decide) (LC_bestMarket l hfl oF oC oS oH oR oT oB oM oL oD rC rS rH rR rT rM oQ rQ aR C hE hNc hX hbl hL hi4 hN hcb hsb ih vF vC aC vS aS vH aH vR vT aT q n ml f t k vM aM fL fD H locs ls hR hT hP hD hS hl)
    | 23, _ => exact lv_tableIn (off := 1568) (tgt := 1612) hx hb dL_law_44 (by decide) (by decide) rfl (by decide) (LC_oathUntil l hfl oF oC oS oH oR oT oB oM oL oD rC rS rH rR rT rM oQ rQ aR C hE hNc hX hbl hL hi4 hN hcb hsb ih vF vC aC vS aS vH aH vR vT aT q n ml f t k vM aM fL fD H locs ls hR hT hP hD hS hl)
    | 24, _ => exact lv_tableIn (off := 1624) (tgt := 1668) hx hb dL_law_44 (by decide) (by decide) rfl (by decide) (LC_isNoticed l hfl oF oC oS oH oR oT oB oM oL oD rC rS rH rR rT rM oQ rQ aR C hE hNc hX hbl hL hi4 hN hcb hsb ih vF vC aC vS aS vH aH vR vT aT q n ml f t k vM aM fL fD H locs ls hR hT hP hD hS hl)
    | 25, _ => exact lv_tableIn (off := 1687) (tgt := 1731) hx hb dL_law_44 (by decide) (by decide) rfl (by decide) (LC_ranked l hfl oF oC oS oH oR oT oB oM oL oD rC rS rH rR rT rM oQ rQ aR C hE hNc hX hbl hL hi4 hN hcb hsb ih vF vC aC vS aS vH aH vR vT aT q n ml f t k vM aM fL fD H locs ls hR hT hP hD hS hl)
    | 26, _ => exact lv_tableIn (off := 1743) (tgt := 1787) hx hb dL_law_44 (by decide) (by decide) rfl (by decide) (LC_append l hfl oF oC oS oH oR oT oB oM oL oD rC rS rH rR rT rM oQ rQ aR C hE hNc hX hbl hL hi4 hN hcb hsb ih vF vC aC vS aS vH aH vR vT aT q n ml f t k vM aM fL fD H locs ls hR hT hP hD hS hl)
    | 27, _ => exact lv_tableIn (off := 1801) (tgt := 1845) hx hb dL_law_44 (by decide) (by decide) rfl (by decide) (LC_commands l hfl oF oC oS oH oR oT oB oM oL oD rC rS rH rR rT rM oQ rQ aR C hE hNc hX hbl hL hi4 hN hcb hsb ih vF vC aC vS aS vH aH vR vT aT q n ml f t k vM aM fL fD H locs ls hR hT hP hD hS hl)
    | 28, _ => exact lv_tableIn (off := 1845) (tgt := 1889) hx hb dL_law_44 (by decide) (by decide) rfl (by decide) (LC_faultPosition l hfl oF oC oS oH oR oT oB oM oL oD rC rS rH rR rT rM oQ rQ aR C hE hNc hX hbl hL hi4 hN hcb hsb ih vF vC aC vS aS vH aH vR vT aT q n ml f t k vM aM fL fD H locs ls hR hT hP hD hS hl)
    | 29, _ => exact lv_tableIn (off := 1858) (tgt := 1902) hx hb dL_law_44 (by decide) (by decide) rfl (by decide) (LC_reason l hfl oF oC oS oH oR oT oB oM oL oD rC rS rH rR rT rM oQ rQ aR C hE hNc hX hbl hL hi4 hN hcb hsb ih vF vC aC vS aS vH aH vR vT aT q n ml f t k vM aM fL fD H locs ls hR hT hP hD hS hl)
    | 30, _ => exact lv_tableIn (off := 1914) (tgt := 1958) hx hb dL_law_44 (by decide) (by decide) rfl (by decide) (LC_line l hfl oF oC oS oH oR oT oB oM oL oD rC rS rH rR rT rM oQ rQ aR C hE hNc hX hbl hL hi4 hN hcb hsb ih vF vC aC vS aS vH aH vR vT aT q n ml f t k vM aM fL fD H locs ls hR hT hP hD hS hl)
    | 31, _ => exact lv_tableIn (off := 1970) (tgt := 2014) hx hb dL_law_44 (by decide) (by decide) rfl (by decide) (LC_character l hfl oF oC oS oH oR oT oB oM oL oD rC rS rH rR rT rM oQ rQ aR C hE hNc hX hbl hL hi4 hN hcb hsb ih vF vC aC vS aS vH aH vR vT aT q n ml f t k vM aM fL fD H locs ls hR hT hP hD hS hl)
    | 32, _ => exact lv_tableIn (off := 2026) (tgt := 2070) hx hb dL_law_44 (by decide) (by decide) rfl (by decide) (LC_meanDust l hfl oF oC oS oH oR oT oB oM oL oD rC rS rH rR rT rM oQ rQ aR C hE hNc hX hbl hL hi4 hN hcb hsb ih vF vC aC vS aS vH aH vR vT aT q n ml f t k vM aM fL fD H locs ls hR hT hP hD hS hl)
    | 33, _ => exact lv_tableIn (off := 2092) (tgt := 2136) hx hb dL_law_44 (by decide) (by decide) rfl (by decide) (LC_honestShare l hfl oF oC oS oH oR oT oB oM oL oD rC rS rH rR rT rM oQ rQ aR C hE hNc hX hbl hL hi4 hN hcb hsb ih vF vC aC vS aS vH aH vR vT aT q n ml f t k vM aM fL fD H locs ls hR hT hP hD hS hl)
    | 34, _ => exact lv_tableIn (off := 2157) (tgt := 2201) hx hb dL_law_44 (by decide) (by decide) rfl (by decide) (LC_account l hfl oF oC oS oH oR oT oB oM oL oD rC rS rH rR rT rM oQ rQ aR C hE hNc hX hbl hL hi4 hN hcb hsb ih vF vC aC vS aS vH aH vR vT aT q n ml f t k vM aM fL fD H locs ls hR hT hP hD hS hl)
    | 35, _ => exact lv_tableIn (off := 2213) (tgt := 2257) hx hb dL_law_44 (by decide) (by decide) rfl (by decide) (LC_undo l hfl oF oC oS oH oR oT oB oM oL oD rC rS rH rR rT rM oQ rQ aR C hE hNc hX hbl hL hi4 hN hcb hsb ih vF vC aC vS aS vH aH vR vT aT q n ml f t k vM aM fL fD H locs ls hR hT hP hD hS hl)
    | 36, _ => exact lv_tableIn (off := 2257) (tgt := 2301) hx hb dL_law_44 (by decide) (by decide) rfl (by decide) (LC_save l hfl oF oC oS oH oR oT oB oM oL oD rC rS rH rR rT rM oQ rQ aR C hE hNc hX hbl hL hi4 hN hcb hsb ih vF vC aC vS aS vH aH vR vT aT q n ml f t k vM aM fL fD H locs ls hR hT hP hD hS hl)
    | 37, _ => exact lv_tableIn (off := 2270) (tgt := 2314) hx hb dL_law_44 (by decide) (by decide) rfl (by decide) (LC_restore l hfl oF oC oS oH oR oT oB oM oL oD rC rS rH rR rT rM oQ rQ aR C hE hNc hX hbl hL hi4 hN hcb hsb ih vF vC aC vS aS vH aH vR vT aT q n ml f t k vM aM fL fD H locs ls hR hT hP hD hS hl)
    | n + 38, h => exact absurd h (by omega)
theorem kl_rel : kRel 0 X4i_v X0i_v X0i_a X0i_v X0i_a (fun _ => 0) (fun _ => (X0i_v, X0i_a)) (fun _ => 0) (fun _ => 0) (fun _ _ => 0) (fun _ => 0) 0 X5i_v X5i_a := by
  refine ⟨⟨0, 0, 0, 0, 0, 0, ⟨⟨by omega, by omega, by omega, by omega⟩, ⟨by omega, by omega, by omega⟩, ⟨rfl, rfl, rfl, rfl, rfl, rfl, rfl, rfl, rfl, rfl⟩, ⟨rfl, rfl, rfl, rfl, rfl, rfl⟩⟩, ?_, ?_, ?_, fun b hb => absurd hb (Nat.not_lt_zero b)⟩, .inl ⟨rfl, rfl⟩, ⟨0, 0, by omega, by omega, rfl, rfl, rfl, fun j hj => absurd hj (Nat.not_lt_zero j)⟩, ⟨rfl, rfl, rfl⟩, rfl, ⟨⟨0, by omega, rfl, rfl, fun i hi => absurd hi (Nat.not_lt_zero i)⟩, fun i => ⟨0, by omega, rfl⟩⟩, by omega, rfl, fun j hj => absurd hj (Nat.not_lt_zero j)⟩
  · intro i hi
    have hi' : i = 0 ∨ i = 1 ∨ i = 2 ∨ i = 3 := by omega
    rcases hi' with rfl | rfl | rfl | rfl <;> decide
  · intro k hk
    show upd (fun _ => 0) 2 20 (14 + k) = (0 : Int32)
    exact pk_un (by omega)
  · intro j hj
    refine ⟨?_, 0, by omega, ?_, rfl⟩
    · show upd (fun _ => 0) 2 20 (22 + 2 * j) = (0 : Int32)
      exact pk_un (by omega)
    · show upd (fun _ => 0) 2 20 (23 + 2 * j) = (0 : Int32)
      exact pk_un (by omega)
set_option maxRecDepth 100000 in
set_option maxHeartbeats 4000000 in
theorem kl_start (l : Launch) (hfl : l.stackTraces = false) {p : Program} {e : Env} {s : State} {m : MethodId} {below : List Frame} {meth : Method} {c : Code} {b L : Nat} {xs : Nat → Int32} {g : kG} (C : kC p c code s m #[Value.ref b] meth RL g 9 ret) (hE : kE g (kAh s) s s.heap) (hNc : kNc s) (hO : va_AO "SpiceScale$Caravan" s) (hX : va_X b L xs s s.heap) (hbl : b < s.heap.size) (hL : L ≤ 2048) {ls : Array Slot} (hl : lv_has ls 9 [(0, .ref b)]) : W p l e room_1 s m #[Value.ref b] below meth c s.heap [] 0 0 (lw_Z below #[Value.ref b] s) (F0 m 0 ls []) := by
  have hx := C.1.1
  have hb := C.1.2.1
  have hts := C.1.2.2.2.2
  have hA : ∀ q, s.heap.size ≤ q → kAh s q := fun q h => h
  have hS : va_S (kAh s) s.heap s.heap [] := va_S.rf
  have hP : kp g [] s.heap := kp_iff.mpr (fun ch hch => absurd hch List.not_mem_nil)
  have hD : kd (kAh s) [] := kd_w.mpr ⟨List.Pairwise.nil, fun q hq => absurd hq List.not_mem_nil⟩
  refine kg_new C kFX4 (fs := [.null, .null, .int 0, .null, .null, .null, .int 0, .null]) (k_w 2 30 rfl rfl) (k_w 2 31 rfl rfl) (k_w 2 1 rfl rfl) hP hD hS hA (fun j hj => by match j, hj with | 0, _ => rfl | 1, _ => rfl | 2, _ => rfl | 3, _ => rfl | 4, _ => rfl | 5, _ => rfl | 6, _ => rfl | 7, _ => rfl | n + 8, h => exact absurd h (by omega)) (Nat.le_of_ble_eq_true rfl) (Nat.le_of_ble_eq_true rfl) dL_law_0 (fun oF H hP hD hS => ?_)
  have hP : kp g [[(oF, .inr (8, [.null, .null, .int 0, .null, .null, .null, .int 0, .null]))]] H := hP
  have hD : kd (kAh s) [[(oF, .inr (8, [.null, .null, .int 0, .null, .null, .null, .int 0, .null]))]] := hD
  refine lv_dup hx hb dL_law_3 rfl ?_
  refine kVO_I (As := []) (rest := [.ref oF]) (wr := []) C (X4_init_c l g oF) hO ⟨callB_of 0 hts (k_gI (k_w 2 34 rfl rfl)) rfl rfl rfl (hts _ (k_w 2 1 rfl rfl)) (hts _ (k_w 2 32 rfl rfl)) pnX4_init ⟨Nat.le_of_ble_eq_true rfl, Nat.le_of_ble_eq_true rfl⟩, rfl, hts _ (k_w 2 33 rfl rfl)⟩ hE hS hA hP hD [0] [] rfl rfl ⟨rfl, rfl, by decide⟩ rfl hl.1 rfl rfl dL_law_4 ⟨Nat.le_of_ble_eq_true rfl, Nat.le_of_ble_eq_true rfl⟩ (fun u H locs hp hP hD hS => ?_)
  obtain ⟨oC, oS, oH, oR, oT, oB, rC, rS, rH, oQ, rQ, rT, qB, rfl⟩ := hp
  refine lv_astore_n (lv' := [(1, .ref oF), (0, .ref b)]) hx hb dL_law_7 rfl hl (by decide) rfl (fun ls hl => ?_)
  have hP : kp g [X4W g oF (kFr oC oS oH oR oT oB) X4i_v, X0W g oC rC X0i_v X0i_a, X0W g oS rS X0i_v X0i_a, X2W g oH rH (fun _ => 0) oQ rQ (fun _ => (X0i_v, X0i_a)), X3W g oR (fun _ => 0) (fun _ => 0) (fun _ _ => 0), X1W g oT rT (fun _ => 0) (fun _ _ => 0), JOW oB qB 0 0, JAW g qB 16 (fun _ => 0)] H := hP
  have hD : kd (kAh s) [X4W g oF (kFr oC oS oH oR oT oB) X4i_v, X0W g oC rC X0i_v X0i_a, X0W g oS rS X0i_v X0i_a, X2W g oH rH (fun _ => 0) oQ rQ (fun _ => (X0i_v, X0i_a)), X3W g oR (fun _ => 0) (fun _ => 0) (fun _ _ => 0), X1W g oT rT (fun _ => 0) (fun _ _ => 0), JOW oB qB 0 0, JAW g qB 16 (fun _ => 0)] := hD
  refine kg_new C kFX5 (fs := [.null, .null, .null, .int 0, .null, .int 0, .null, .int 0, .null, .int 0, .int 0, .int 0, .null, .int 0, .int 0, .int 0, .int 0, .int 0, .int 0, .int 0, .int 0, .int 0]) (k_w 7 134 rfl rfl) (k_w 7 135 rfl rfl) (k_w 2 10 rfl rfl) hP hD hS hA (fun j hj => by match j, hj with | 0, _ => rfl | 1, _ => rfl | 2, _ => rfl | 3, _ => rfl | 4, _ => rfl | 5, _ => rfl | 6, _ => rfl | 7, _ => rfl | 8, _ => rfl | 9, _ => rfl | 10, _ => rfl | 11, _ => rfl | 12, _ => rfl | 13, _ => rfl | 14, _ => rfl | 15, _ => rfl | 16, _ => rfl | 17, _ => rfl | 18, _ => rfl | 19, _ => rfl | 20, _ => rfl | 21, _ => rfl | n + 22, h => exact absurd h (by omega)) (Nat.le_of_ble_eq_true rfl) (Nat.le_of_ble_eq_true rfl) dL_law_8 (fun oM H hP hD hS => ?_)
  refine lv_dup hx hb dL_law_11 rfl ?_
  refine kV_I (As := []) (rest := [.ref oM]) (wr := [X4W g oF (kFr oC oS oH oR oT oB) X4i_v, X0W g oC rC X0i_v X0i_a, X0W g oS rS X0i_v X0i_a, X2W g oH rH (fun _ => 0) oQ rQ (fun _ => (X0i_v, X0i_a)), X3W g oR (fun _ => 0) (fun _ => 0) (fun _ _ => 0), X1W g oT rT (fun _ => 0) (fun _ _ => 0), JOW oB qB 0 0, JAW g qB 16 (fun _ => 0)]) C (X5_init_c l g oM) ⟨callB_of 0 hts (k_gI (k_w 7 138 rfl rfl)) rfl rfl rfl (hts _ (k_w 2 10 rfl rfl)) (hts _ (k_w 7 136 rfl rfl)) pnX5_init ⟨Nat.le_of_ble_eq_true rfl, Nat.le_of_ble_eq_true rfl⟩, rfl, hts _ (k_w 7 137 rfl rfl)⟩ hE hS hA hP hD [8] [0, 1, 2, 3, 4, 5, 6, 7] rfl rfl ⟨rfl, rfl, by decide⟩ rfl hl.1 rfl rfl dL_law_12 ⟨Nat.le_of_ble_eq_true rfl, Nat.le_of_ble_eq_true rfl⟩ (fun u H locs hp hP hD hS => ?_)
  obtain ⟨rM, rfl⟩ := hp
  refine lv_astore_n (lv' := [(2, .ref oM), (1, .ref oF), (0, .ref b)]) hx hb dL_law_15 rfl hl (by decide) rfl (fun ls hl => ?_)
  refine lv_iconst (v := 1) hx hb dL_law_16 (by decide) ?_
  refine kg_newA C (at' := .long) (ty := .long) (t := 3) (N' := 1) (a0 := (1, .inr (.inl (fun _ => 0)))) (k_w 9 56 rfl rfl) rfl (fun C h => by cases h) rfl hP hD hS hA (fun cA => rfl) (by decide) rfl (by decide) (Nat.le_of_ble_eq_true rfl) (Nat.le_of_ble_eq_true rfl) dL_law_17 (fun oL H hP hD hS => ?_)
  refine lv_astore_n (lv' := [(3, .ref oL), (2, .ref oM), (1, .ref oF), (0, .ref b)]) hx hb dL_law_19 rfl hl (by decide) rfl (fun ls hl => ?_)
  refine lv_iconst (v := 1) hx hb dL_law_20 (by decide) ?_
  refine kg_newA C (at' := .double) (ty := .double) (t := 4) (N' := 1) (a0 := (1, .inr (.inr (.inr (.inl (fun _ => 0)))))) (k_w 9 57 rfl rfl) rfl (fun C h => by cases h) rfl hP hD hS hA (fun cA => rfl) (by decide) rfl (by decide) (Nat.le_of_ble_eq_true rfl) (Nat.le_of_ble_eq_true rfl) dL_law_21 (fun oD H hP hD hS => ?_)
  refine lv_astore (lv' := [(4, .ref oD), (3, .ref oL), (2, .ref oM), (1, .ref oF), (0, .ref b)]) hx hb dL_law_23 hl (by decide) rfl (fun ls hl => ?_)
  refine lv_iconst (v := 0) hx hb dL_law_25 (by decide) ?_
  refine lv_istore (lv' := [(5, .int 0), (4, .ref oD), (3, .ref oL), (2, .ref oM), (1, .ref oF), (0, .ref b)]) hx hb dL_law_26 hl (by decide) rfl (fun ls hl => ?_)
  exact kl_loop l hfl oF oC oS oH oR oT oB oM oL oD rC rS rH (fun _ => 0) rT rM oQ rQ (fun _ _ => 0) C hE hNc hX hbl hL 513 0 0 _ _ (by omega) (Nat.zero_le L) (by omega) (by omega) (by omega) X4i_v X0i_v X0i_a X0i_v X0i_a (fun _ => 0) (fun _ => (X0i_v, X0i_a)) (fun _ => 0) (fun _ => 0) (fun _ _ => 0) qB 16 0 (fun _ => 0) (fun _ => 0) 0 X5i_v X5i_a (fun _ => 0) (fun _ => 0) H _ ls kl_rel ⟨.inl rfl, by omega, sb_fit0, fun j hj => absurd hj (Nat.not_lt_zero j)⟩ hP hD hS (lv_sub hl [0, 5, 4, 3, 2, 1] rfl)
/-- from the entry the law comes to its end with true -/
theorem whole_start {p : Program} {e : Env} {s : State} {m : MethodId} {below : List Frame} {meth : Method} {c : Code} (l : Launch) (hflags : l.flags = flags0) {b L : Nat} {xs : Nat → Int32} (hL : L ≤ 2048) (C0 : lw_At p s m meth c b L xs) : W p l e room_1 s m #[Value.ref b] below meth c s.heap [] 0 0 (lw_Z below #[Value.ref b] s) (entryFrame m ([Value.ref b] : List Value).toArray 9) := by
  obtain ⟨hx, hb, hr, hml, hown, hts0, hX, hbl, hlocks, hgv⟩ := id C0
  obtain ⟨g, hE, hNc, hO⟩ := ke_all hts0 hgv
  have hfl : l.stackTraces = false := by
    show (!l.flags.contains Jvm.noTraceFlag) = false
    rw [hflags]
    decide +kernel
  have C : kC p c code s m #[Value.ref b] meth RL g 9 ret := ⟨⟨hx, hb, hml, hown, fun w h => hts0 w (k_w_tbl h)⟩, ⟨hE.1, hE.2.1⟩, hr, hlocks⟩
  have hl := lv_entry ([.ref b]) (n := 9) (Nat.le_of_ble_eq_true rfl)
  rw [lg_entry_eq]
  exact kl_start l hfl C hE hNc hO hX hbl hL hl
