theorem kw1420 : Cond.methodLink RL 261 yL_undo ∈ kW := k_w 7 114 rfl rfl
theorem kw1830 : Cond.methodLink RL 263 yX5_undo ∈ kW := k_w 9 44 rfl rfl
set_option maxHeartbeats 4000000 in
theorem LC_undo (l : Launch) (hfl : l.stackTraces = false) {p : Program} {e : Env} {s : State} {m : MethodId} {below : List Frame} {meth : Method} {c : Code} {b L : Nat} {xs : Nat → Int32} {g : kG} (oF oC oS oH oR oT oB oM oL oD : Nat) (rC rS rH rR rT rM : Nat → Nat) (oQ : Nat → Nat) (rQ : Nat → Nat → Nat) (aR : Nat → Nat → Int32) {N i cells slots : Nat} (C : kC p c code s m #[Value.ref b] meth RL g 9 ret) (hE : kE g (kAh s) s s.heap) (hNc : kNc s) (hX : va_X b L xs s s.heap) (hbl : b < s.heap.size) (hL : L ≤ 2048) (hi : i + 4 ≤ L) (hN : N < 90000) (hcb : cells + 40 ≤ 605484) (hsb : slots + 2000 ≤ 7191588)
    (ih : kNext l p e s m below meth c b g oF oC oS oH oR oT oB oM oL oD rC rS rH rR rT rM oQ rQ aR i N cells slots) (vF : Nat → Int32) (vC : Nat → Int32) (aC : Nat → Nat → Int32) (vS : Nat → Int32) (aS : Nat → Nat → Int32) (vH : Nat → Int32) (aH : Nat → (Nat → Int32) × (Nat → Nat → Int32)) (vR : Nat → Int32) (vT : Nat → Int32) (aT : Nat → Nat → Int32) (q n : Nat) (ml : Int32) (f : Nat → Int32) (t : Nat → Nat) (k : Nat) (vM : Nat → Int32) (aM : Nat → Nat → Int32) (fL : Nat → Int64) (fD : Nat → UInt64) (H : Heap) (locs : List Loc) (ls : Array Slot) (hR : kRel N vF vC aC vS aS vH aH vR vT aT t k vM aM) (hT : ((n = 16 ∨ n = 34) ∧ k ≤ n ∧ sb_Fit f ∧ sb_Lat t k f)) (hP : kp g [X4W g oF (kFr oC oS oH oR oT oB) vF, X0W g oC rC vC aC, X0W g oS rS vS aS, X2W g oH rH vH oQ rQ aH, X3W g oR rR vR aR, X1W g oT rT vT aT, JOW oB q ml (nI k), JAW g q n f, X5W g oM rM vM aM, OLW g oL fL, ODW g oD fD] H) (hD : kd (kAh s) [X4W g oF (kFr oC oS oH oR oT oB) vF, X0W g oC rC vC aC, X0W g oS rS vS aS, X2W g oH rH vH oQ rQ aH, X3W g oR rR vR aR, X1W g oT rT vT aT, JOW oB q ml (nI k), JAW g q n f, X5W g oM rM vM aM, OLW g oL fL, ODW g oD fD]) (hS : va_S (kAh s) s.heap H locs) (hl : lv_has ls 9 (kLb i b oF oM oL oD)) :
    W p l e room_1 s m #[Value.ref b] below meth c H locs cells slots (lw_Z below #[Value.ref b] s) (F0 m 2257 ls []) := by
  have hA : ∀ q, s.heap.size ≤ q → kAh s q := fun q h => h
  have hx := C.1.1
  have hb := C.1.2.1
  have hts := C.1.2.2.2.2
  obtain ⟨⟨nb, nj, hnb, hv7, hnj, hv4, hb5, hj5⟩, hM, hM5, hh, hu, hL1, hL9, hch, hl40, h87, hI⟩ := kRel_hyp (by omega) hR
  refine lv_aload_n hx hb dL_law_2257 rfl (lv_at hl 2 rfl) ?_
  refine lv_aload_n hx hb dL_law_2258 rfl (lv_at hl 4 rfl) ?_
  have hs := kS_undo (aR := aR) (by omega) hR 
  refine kL_S (As := [.ref oF, .ref oL]) (rest := []) (wr := [X0W g oS rS vS aS, X3W g oR rR vR aR, X1W g oT rT vT aT, JOW oB q ml (nI k), JAW g q n f, X5W g oM rM vM aM, ODW g oD fD]) C (L_undo_c l g oF vF oS oR oT oB oC rC vC aC oH rH vH oQ rQ aH hh hfl oL fL kK_undo) hNc (vx_cwSW 2 hts (k_gS kw1420 cs_L_undo) rfl rfl rfl pnL_undo ⟨Nat.le_of_ble_eq_true rfl, Nat.le_of_ble_eq_true rfl⟩) hE hS hA hP hD [0, 1, 3, 9] [2, 4, 5, 6, 7, 8, 10] rfl rfl ⟨rfl, rfl, by decide⟩ rfl hl.1 rfl rfl dL_law_2259 ⟨by show _ ≤ 605484; omega, by show _ ≤ 7191588; omega⟩ (fun r u H locs hp hP hD hS => ?_)
  obtain ⟨hr, h1, hv1, hu1⟩ := hp
  subst hu1
  subst hr
  have hP : kp g [X4W g oF (kFr oC oS oH oR oT oB) vF, X0W g oC rC ((X4_undo_f vF vC aC vH aH).2.2.1) ((X4_undo_f vF vC aC vH aH).2.2.2.1), X0W g oS rS vS aS, X2W g oH rH ((X4_undo_f vF vC aC vH aH).2.2.2.2) oQ rQ aH, X3W g oR rR vR aR, X1W g oT rT vT aT, JOW oB q ml (nI k), JAW g q n f, X5W g oM rM vM aM, OLW g oL h1, ODW g oD fD] H := hP.pick [7, 8, 0, 9, 1, 2, 3, 4, 5, 10, 6] rfl
  have hD : kd (kAh s) [X4W g oF (kFr oC oS oH oR oT oB) vF, X0W g oC rC ((X4_undo_f vF vC aC vH aH).2.2.1) ((X4_undo_f vF vC aC vH aH).2.2.2.1), X0W g oS rS vS aS, X2W g oH rH ((X4_undo_f vF vC aC vH aH).2.2.2.2) oQ rQ aH, X3W g oR rR vR aR, X1W g oT rT vT aT, JOW oB q ml (nI k), JAW g q n f, X5W g oM rM vM aM, OLW g oL h1, ODW g oD fD] := hD.pick [7, 8, 0, 9, 1, 2, 3, 4, 5, 10, 6] rfl rfl
  refine lv_istore (lv' := [(6, .int (kLk1 ((X4_undo_f vF vC aC vH aH).1))), (5, .int (nI i)), (0, .ref b), (1, .ref oF), (2, .ref oM), (3, .ref oL), (4, .ref oD)]) hx hb dL_law_2262 hl (by decide) rfl (fun ls hl => ?_)
  refine lv_aload_n hx hb dL_law_2264 rfl (lv_at hl 4 rfl) ?_
  refine kM_V (As := []) (rest := []) (wr := [X4W g oF (kFr oC oS oH oR oT oB) vF, X0W g oC rC ((X4_undo_f vF vC aC vH aH).2.2.1) ((X4_undo_f vF vC aC vH aH).2.2.2.1), X0W g oS rS vS aS, X2W g oH rH ((X4_undo_f vF vC aC vH aH).2.2.2.2) oQ rQ aH, X3W g oR rR vR aR, X1W g oT rT vT aT, JOW oB q ml (nI k), JAW g q n f, OLW g oL h1, ODW g oD fD]) C (X5_undo_c l g oM rM vM aM hu) (cwV 0 hts (k_gV kw1830 ca_X5_undo) rfl rfl rfl ⟨rfl, pnX5_undo⟩ ⟨Nat.le_of_ble_eq_true rfl, Nat.le_of_ble_eq_true rfl⟩) hE hS hA hP hD [8] [0, 1, 2, 3, 4, 5, 6, 7, 9, 10] rfl rfl ⟨rfl, rfl, by decide⟩ (k_recv C kFX5 hP (i := 8) (q := 0) rfl rfl) rfl hl.1 rfl rfl dL_law_2265 ⟨by show _ ≤ 605484; omega, by show _ ≤ 7191588; omega⟩ (fun r u H locs hp hP hD hS => ?_)
  obtain ⟨hr, hu⟩ := hp
  subst hu
  subst hr
  have hP : kp g [X4W g oF (kFr oC oS oH oR oT oB) vF, X0W g oC rC ((X4_undo_f vF vC aC vH aH).2.2.1) ((X4_undo_f vF vC aC vH aH).2.2.2.1), X0W g oS rS vS aS, X2W g oH rH ((X4_undo_f vF vC aC vH aH).2.2.2.2) oQ rQ aH, X3W g oR rR vR aR, X1W g oT rT vT aT, JOW oB q ml (nI k), JAW g q n f, X5W g oM rM ((X5_undo_f vM aM).2.1) ((X5_undo_f vM aM).2.2), OLW g oL h1, ODW g oD fD] H := hP.pick [0, 1, 2, 3, 4, 5, 6, 7, 10, 8, 9] rfl
  have hD : kd (kAh s) [X4W g oF (kFr oC oS oH oR oT oB) vF, X0W g oC rC ((X4_undo_f vF vC aC vH aH).2.2.1) ((X4_undo_f vF vC aC vH aH).2.2.2.1), X0W g oS rS vS aS, X2W g oH rH ((X4_undo_f vF vC aC vH aH).2.2.2.2) oQ rQ aH, X3W g oR rR vR aR, X1W g oT rT vT aT, JOW oB q ml (nI k), JAW g q n f, X5W g oM rM ((X5_undo_f vM aM).2.1) ((X5_undo_f vM aM).2.2), OLW g oL h1, ODW g oD fD] := hD.pick [0, 1, 2, 3, 4, 5, 6, 7, 10, 8, 9] rfl rfl
  refine lv_istore (lv' := [(7, .int ((X5_undo_f vM aM).1)), (6, .int (kLk1 ((X4_undo_f vF vC aC vH aH).1))), (5, .int (nI i)), (0, .ref b), (1, .ref oF), (2, .ref oM), (3, .ref oL), (4, .ref oD)]) hx hb dL_law_2268 hl (by decide) rfl (fun ls hl => ?_)
  refine lv_aload_n hx hb dL_law_2270 rfl (lv_at hl 5 rfl) ?_
  refine kR_V (As := []) (rest := []) C (X5_thrown_c l g oM rM ((X5_undo_f vM aM).2.1) ((X5_undo_f vM aM).2.2)) (cwV 0 hts (k_gV kw1513 ca_X5_thrown) rfl rfl rfl ⟨rfl, pnX5_thrown⟩ ⟨Nat.le_of_ble_eq_true rfl, Nat.le_of_ble_eq_true rfl⟩) hE hS (hP.pick [8] rfl) (k_recv C kFX5 hP (i := 8) (q := 0) rfl rfl) rfl hl.1 rfl rfl dL_law_2271 ⟨by show _ ≤ 605484; omega, by show _ ≤ 7191588; omega⟩ ?_
  refine lv_iload hx hb dL_law_2274 (lv_at hl 1 rfl) ?_
  refine lv_icmp_eq (tgt := 2281) hx hb dL_law_2276 (by decide) (fun z => ?_) (fun z => absurd hs.1 z)
  have fin : W p l e room_1 s m #[Value.ref b] below meth c H locs (cells + 1 + 0) (slots + 6 + 0) (lw_Z below #[Value.ref b] s) (F0 m 2298 ls []) := by
    refine lv_goto (tgt := 2358) hx hb dL_law_2298 (by decide) ?_
    exact ih _ _ _ _ _ _ _ _ _ _ _ _ _ _ _ _ _ _ _ _ H locs ls _ _ hs.2.2 hT hP hD hS (lv_sub hl [2, 3, 4, 5, 6, 7] rfl) (by omega) (by omega)
  refine lv_iload hx hb dL_law_2281 (lv_at hl 1 rfl) ?_
  by_cases hc0 : kLk1 ((X4_undo_f vF vC aC vH aH).1) = 0
  rotate_left
  · refine lv_if_ne (tgt := 2298) hx hb dL_law_2283 (by decide) (fun z => fin) (fun z => absurd z hc0)
  refine lv_if_ne (tgt := 2298) hx hb dL_law_2283 (by decide) (fun z => absurd hc0 z) (fun z => ?_)
  have hc1 := kLk1_0 hc0
  refine lv_aload_n hx hb dL_law_2286 rfl (lv_at hl 6 rfl) ?_
  refine lv_iconst (v := 0) hx hb dL_law_2287 (by decide) ?_
  refine kg_lald C hP (i := 9) rfl dL_law_2288 ?_
  refine lv_iload hx hb dL_law_2289 (lv_at hl 0 rfl) ?_
  refine lv_i2l hx hb dL_law_2291 rfl ?_
  refine W.lcmp hx hb dL_law_2292 ?_
  rw [k_lcmp0 ((hv1 hc1).trans (congrArg Int32.toInt64 (hs.2.1 hc1).symm))]
  refine lv_if_eq (tgt := 2298) hx hb dL_law_2293 (by decide) (fun z => fin) (fun z => absurd rfl z)
