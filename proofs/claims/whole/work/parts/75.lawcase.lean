theorem kw367 : Cond.methodLink RL 264 yX4_save ∈ kW := k_w 3 21 rfl rfl
theorem kw1374 : Cond.methodLink RL 251 yL_meanDust ∈ kW := k_w 7 68 rfl rfl
theorem kw1399 : Cond.methodLink RL 255 yL_honestShare ∈ kW := k_w 7 93 rfl rfl
theorem kw1407 : Cond.methodLink RL 258 yL_account ∈ kW := k_w 7 101 rfl rfl
theorem kw1420 : Cond.methodLink RL 261 yL_undo ∈ kW := k_w 7 114 rfl rfl
theorem kw1432 : Cond.methodLink RL 268 yL_restore ∈ kW := k_w 7 126 rfl rfl
theorem kw1818 : Cond.methodLink RL 254 yX5_meanDust ∈ kW := k_w 9 32 rfl rfl
theorem kw1822 : Cond.methodLink RL 257 yX5_honestShare ∈ kW := k_w 9 36 rfl rfl
theorem kw1826 : Cond.methodLink RL 260 yX5_account ∈ kW := k_w 9 40 rfl rfl
theorem kw1830 : Cond.methodLink RL 263 yX5_undo ∈ kW := k_w 9 44 rfl rfl
theorem kw1834 : Cond.methodLink RL 267 yX5_save ∈ kW := k_w 9 48 rfl rfl
theorem kw1838 : Cond.methodLink RL 270 yX5_restore ∈ kW := k_w 9 52 rfl rfl
set_option maxHeartbeats 4000000 in
theorem LC_meanDust (l : Launch) (hfl : l.stackTraces = false) {p : Program} {e : Env} {s : State} {m : MethodId} {below : List Frame} {meth : Method} {c : Code} {b L : Nat} {xs : Nat → Int32} {g : kG} (oF oC oS oH oR oT oB oM oL oD : Nat) (rC rS rH rR rT rM : Nat → Nat) (oQ : Nat → Nat) (rQ : Nat → Nat → Nat) (aR : Nat → Nat → Int32) {N i cells slots : Nat} (C : kC p c code s m #[Value.ref b] meth RL g 9 ret) (hE : kE g (kAh s) s s.heap) (hNc : kNc s) (hX : va_X b L xs s s.heap) (hbl : b < s.heap.size) (hL : L ≤ 2048) (hi : i + 4 ≤ L) (hN : N < 90000) (hcb : cells + 40 ≤ 605484) (hsb : slots + 2000 ≤ 7191588)
    (ih : kNext l p e s m below meth c b g oF oC oS oH oR oT oB oM oL oD rC rS rH rR rT rM oQ rQ aR i N cells slots) (vF : Nat → Int32) (vC : Nat → Int32) (aC : Nat → Nat → Int32) (vS : Nat → Int32) (aS : Nat → Nat → Int32) (vH : Nat → Int32) (aH : Nat → (Nat → Int32) × (Nat → Nat → Int32)) (vR : Nat → Int32) (vT : Nat → Int32) (aT : Nat → Nat → Int32) (q n : Nat) (ml : Int32) (f : Nat → Int32) (t : Nat → Nat) (k : Nat) (vM : Nat → Int32) (aM : Nat → Nat → Int32) (fL : Nat → Int64) (fD : Nat → UInt64) (H : Heap) (locs : List Loc) (ls : Array Slot) (hR : kRel N vF vC aC vS aS vH aH vR vT aT t k vM aM) (hT : ((n = 16 ∨ n = 34) ∧ k ≤ n ∧ sb_Fit f ∧ sb_Lat t k f)) (hP : kp g [X4W g oF (kFr oC oS oH oR oT oB) vF, X0W g oC rC vC aC, X0W g oS rS vS aS, X2W g oH rH vH oQ rQ aH, X3W g oR rR vR aR, X1W g oT rT vT aT, JOW oB q ml (nI k), JAW g q n f, X5W g oM rM vM aM, OLW g oL fL, ODW g oD fD] H) (hD : kd (kAh s) [X4W g oF (kFr oC oS oH oR oT oB) vF, X0W g oC rC vC aC, X0W g oS rS vS aS, X2W g oH rH vH oQ rQ aH, X3W g oR rR vR aR, X1W g oT rT vT aT, JOW oB q ml (nI k), JAW g q n f, X5W g oM rM vM aM, OLW g oL fL, ODW g oD fD]) (hS : va_S (kAh s) s.heap H locs) (hl : lv_has ls 9 (kLb i b oF oM oL oD)) :
    W p l e room_1 s m #[Value.ref b] below meth c H locs cells slots (lw_Z below #[Value.ref b] s) (F0 m 2070 ls []) := by
  have hA : ∀ q, s.heap.size ≤ q → kAh s q := fun q h => h
  have hx := C.1.1
  have hb := C.1.2.1
  have hts := C.1.2.2.2.2
  obtain ⟨⟨nb, nj, hnb, hv7, hnj, hv4, hb5, hj5⟩, hM, hM5, hh, hu, hL1, hL9, hch, hl40, h87, hI⟩ := kRel_hyp (by omega) hR
  refine lv_aload_n hx hb dL_law_2070 rfl (lv_at hl 2 rfl) ?_
  refine lv_aload hx hb dL_law_2071 (lv_at hl 5 rfl) ?_
  have hs := kS_meanDust (aR := aR) (by omega) hR 
  refine kL_S (As := [.ref oF, .ref oD]) (rest := []) (wr := [X0W g oS rS vS aS, X2W g oH rH vH oQ rQ aH, X3W g oR rR vR aR, X1W g oT rT vT aT, JOW oB q ml (nI k), JAW g q n f, X5W g oM rM vM aM, OLW g oL fL]) C (L_meanDust_c l g oF vF oS oH oR oT oB oC rC vC aC nb hnb hv7 hfl oD fD kK_meanDust) hNc (vx_cwSW 2 hts (k_gS kw1374 cs_L_meanDust) rfl rfl rfl pnL_meanDust ⟨Nat.le_of_ble_eq_true rfl, Nat.le_of_ble_eq_true rfl⟩) hE hS hA hP hD [0, 1, 10] [2, 3, 4, 5, 6, 7, 8, 9] rfl rfl ⟨rfl, rfl, by decide⟩ rfl hl.1 rfl rfl dL_law_2073 ⟨by show _ ≤ 605484; omega, by show _ ≤ 7191588; omega⟩ (fun r u H locs hp hP hD hS => ?_)
  obtain ⟨hr, h1, hv1, hu1⟩ := hp
  subst hu1
  subst hr
  have hP : kp g [X4W g oF (kFr oC oS oH oR oT oB) vF, X0W g oC rC vC aC, X0W g oS rS vS aS, X2W g oH rH vH oQ rQ aH, X3W g oR rR vR aR, X1W g oT rT vT aT, JOW oB q ml (nI k), JAW g q n f, X5W g oM rM vM aM, OLW g oL fL, ODW g oD h1] H := hP.pick [8, 9, 0, 1, 2, 3, 4, 5, 6, 7, 10] rfl
  have hD : kd (kAh s) [X4W g oF (kFr oC oS oH oR oT oB) vF, X0W g oC rC vC aC, X0W g oS rS vS aS, X2W g oH rH vH oQ rQ aH, X3W g oR rR vR aR, X1W g oT rT vT aT, JOW oB q ml (nI k), JAW g q n f, X5W g oM rM vM aM, OLW g oL fL, ODW g oD h1] := hD.pick [8, 9, 0, 1, 2, 3, 4, 5, 6, 7, 10] rfl rfl
  refine lv_istore (lv' := [(6, .int (kLk1 ((X4_meanDust_f vC aC).1))), (5, .int (nI i)), (0, .ref b), (1, .ref oF), (2, .ref oM), (3, .ref oL), (4, .ref oD)]) hx hb dL_law_2076 hl (by decide) rfl (fun ls hl => ?_)
  refine lv_aload_n hx hb dL_law_2078 rfl (lv_at hl 4 rfl) ?_
  refine kMF_V (As := []) (rest := []) (wr := [X4W g oF (kFr oC oS oH oR oT oB) vF, X0W g oC rC vC aC, X0W g oS rS vS aS, X2W g oH rH vH oQ rQ aH, X3W g oR rR vR aR, X1W g oT rT vT aT, JOW oB q ml (nI k), JAW g q n f, OLW g oL fL, ODW g oD h1]) C (X5_meanDust_c l g oM rM vM aM ⟨nb, hnb, hb5⟩) (cwV 0 hts (k_gV kw1818 ca_X5_meanDust) rfl rfl rfl ⟨rfl, pnX5_meanDust⟩ ⟨Nat.le_of_ble_eq_true rfl, Nat.le_of_ble_eq_true rfl⟩) hE hS hA hP hD [8] [0, 1, 2, 3, 4, 5, 6, 7, 9, 10] rfl rfl ⟨rfl, rfl, by decide⟩ (k_recv C kFX5 hP (i := 8) (q := 0) rfl rfl) rfl hl.1 rfl rfl dL_law_2079 ⟨by show _ ≤ 605484; omega, by show _ ≤ 7191588; omega⟩ (fun r u H locs hp hP hD hS => ?_)
  obtain ⟨hr, hu⟩ := hp
  subst hu
  subst hr
  have hP : kp g [X4W g oF (kFr oC oS oH oR oT oB) vF, X0W g oC rC vC aC, X0W g oS rS vS aS, X2W g oH rH vH oQ rQ aH, X3W g oR rR vR aR, X1W g oT rT vT aT, JOW oB q ml (nI k), JAW g q n f, X5W g oM rM ((X5_meanDust_f vM aM).2) aM, OLW g oL fL, ODW g oD h1] H := hP.pick [0, 1, 2, 3, 4, 5, 6, 7, 10, 8, 9] rfl
  have hD : kd (kAh s) [X4W g oF (kFr oC oS oH oR oT oB) vF, X0W g oC rC vC aC, X0W g oS rS vS aS, X2W g oH rH vH oQ rQ aH, X3W g oR rR vR aR, X1W g oT rT vT aT, JOW oB q ml (nI k), JAW g q n f, X5W g oM rM ((X5_meanDust_f vM aM).2) aM, OLW g oL fL, ODW g oD h1] := hD.pick [0, 1, 2, 3, 4, 5, 6, 7, 10, 8, 9] rfl rfl
  refine lv_fstore (lv' := [(7, .float ((X5_meanDust_f vM aM).1)), (6, .int (kLk1 ((X4_meanDust_f vC aC).1))), (5, .int (nI i)), (0, .ref b), (1, .ref oF), (2, .ref oM), (3, .ref oL), (4, .ref oD)]) hx hb dL_law_2082 hl (by decide) rfl (fun ls hl => ?_)
  refine lv_aload_n hx hb dL_law_2084 rfl (lv_at hl 5 rfl) ?_
  refine kR_V (As := []) (rest := []) C (X5_thrown_c l g oM rM ((X5_meanDust_f vM aM).2) aM) (cwV 0 hts (k_gV kw1513 ca_X5_thrown) rfl rfl rfl ⟨rfl, pnX5_thrown⟩ ⟨Nat.le_of_ble_eq_true rfl, Nat.le_of_ble_eq_true rfl⟩) hE hS (hP.pick [8] rfl) (k_recv C kFX5 hP (i := 8) (q := 0) rfl rfl) rfl hl.1 rfl rfl dL_law_2085 ⟨by show _ ≤ 605484; omega, by show _ ≤ 7191588; omega⟩ ?_
  refine lv_iload hx hb dL_law_2088 (lv_at hl 1 rfl) ?_
  refine lv_icmp_eq (tgt := 2095) hx hb dL_law_2090 (by decide) (fun z => ?_) (fun z => absurd hs.1 z)
  have fin : W p l e room_1 s m #[Value.ref b] below meth c H locs (cells + 1 + 0) (slots + 6 + 0) (lw_Z below #[Value.ref b] s) (F0 m 2133 ls []) := by
    refine lv_goto (tgt := 2358) hx hb dL_law_2133 (by decide) ?_
    exact ih _ _ _ _ _ _ _ _ _ _ _ _ _ _ _ _ _ _ _ _ H locs ls _ _ hs.2.2.1 hT hP hD hS (lv_sub hl [2, 3, 4, 5, 6, 7] rfl) (by omega) (by omega)
  refine lv_iload hx hb dL_law_2095 (lv_at hl 1 rfl) ?_
  by_cases hc0 : kLk1 ((X4_meanDust_f vC aC).1) = 0
  rotate_left
  · refine lv_if_ne (tgt := 2133) hx hb dL_law_2097 (by decide) (fun z => fin) (fun z => absurd z hc0)
  refine lv_if_ne (tgt := 2133) hx hb dL_law_2097 (by decide) (fun z => absurd hc0 z) (fun z => ?_)
  have hc1 := kLk1_0 hc0
  refine lv_aload hx hb dL_law_2100 (lv_at hl 7 rfl) ?_
  refine lv_iconst (v := 0) hx hb dL_law_2102 (by decide) ?_
  refine kg_dald C hP (i := 10) rfl dL_law_2103 ?_
  refine lv_fload hx hb dL_law_2104 (lv_at hl 0 rfl) ?_
  refine lv_f2d hx hb dL_law_2106 (hs.2.2.2 hc1) ?_
  refine lv_dcmp hx hb dL_law_2107 ?_
  rw [show h1 0 = FP.f2d ((X5_meanDust_f vM aM).1) from (hv1 hc1).trans (congrArg FP.f2d (hs.2.1 hc1).symm), kf_self _ (hs.2.2.2 hc1)]
  refine lv_if_eq (tgt := 2133) hx hb dL_law_2108 (by decide) (fun z => fin) (fun z => absurd rfl z)
set_option maxHeartbeats 4000000 in
theorem LC_honestShare (l : Launch) (hfl : l.stackTraces = false) {p : Program} {e : Env} {s : State} {m : MethodId} {below : List Frame} {meth : Method} {c : Code} {b L : Nat} {xs : Nat → Int32} {g : kG} (oF oC oS oH oR oT oB oM oL oD : Nat) (rC rS rH rR rT rM : Nat → Nat) (oQ : Nat → Nat) (rQ : Nat → Nat → Nat) (aR : Nat → Nat → Int32) {N i cells slots : Nat} (C : kC p c code s m #[Value.ref b] meth RL g 9 ret) (hE : kE g (kAh s) s s.heap) (hNc : kNc s) (hX : va_X b L xs s s.heap) (hbl : b < s.heap.size) (hL : L ≤ 2048) (hi : i + 4 ≤ L) (hN : N < 90000) (hcb : cells + 40 ≤ 605484) (hsb : slots + 2000 ≤ 7191588)
    (ih : kNext l p e s m below meth c b g oF oC oS oH oR oT oB oM oL oD rC rS rH rR rT rM oQ rQ aR i N cells slots) (vF : Nat → Int32) (vC : Nat → Int32) (aC : Nat → Nat → Int32) (vS : Nat → Int32) (aS : Nat → Nat → Int32) (vH : Nat → Int32) (aH : Nat → (Nat → Int32) × (Nat → Nat → Int32)) (vR : Nat → Int32) (vT : Nat → Int32) (aT : Nat → Nat → Int32) (q n : Nat) (ml : Int32) (f : Nat → Int32) (t : Nat → Nat) (k : Nat) (vM : Nat → Int32) (aM : Nat → Nat → Int32) (fL : Nat → Int64) (fD : Nat → UInt64) (H : Heap) (locs : List Loc) (ls : Array Slot) (hR : kRel N vF vC aC vS aS vH aH vR vT aT t k vM aM) (hT : ((n = 16 ∨ n = 34) ∧ k ≤ n ∧ sb_Fit f ∧ sb_Lat t k f)) (hP : kp g [X4W g oF (kFr oC oS oH oR oT oB) vF, X0W g oC rC vC aC, X0W g oS rS vS aS, X2W g oH rH vH oQ rQ aH, X3W g oR rR vR aR, X1W g oT rT vT aT, JOW oB q ml (nI k), JAW g q n f, X5W g oM rM vM aM, OLW g oL fL, ODW g oD fD] H) (hD : kd (kAh s) [X4W g oF (kFr oC oS oH oR oT oB) vF, X0W g oC rC vC aC, X0W g oS rS vS aS, X2W g oH rH vH oQ rQ aH, X3W g oR rR vR aR, X1W g oT rT vT aT, JOW oB q ml (nI k), JAW g q n f, X5W g oM rM vM aM, OLW g oL fL, ODW g oD fD]) (hS : va_S (kAh s) s.heap H locs) (hl : lv_has ls 9 (kLb i b oF oM oL oD)) :
    W p l e room_1 s m #[Value.ref b] below meth c H locs cells slots (lw_Z below #[Value.ref b] s) (F0 m 2136 ls []) := by
  have hA : ∀ q, s.heap.size ≤ q → kAh s q := fun q h => h
  have hx := C.1.1
  have hb := C.1.2.1
  have hts := C.1.2.2.2.2
  obtain ⟨⟨nb, nj, hnb, hv7, hnj, hv4, hb5, hj5⟩, hM, hM5, hh, hu, hL1, hL9, hch, hl40, h87, hI⟩ := kRel_hyp (by omega) hR
  refine lv_aload_n hx hb dL_law_2136 rfl (lv_at hl 2 rfl) ?_
  refine lv_aload hx hb dL_law_2137 (lv_at hl 5 rfl) ?_
  have hs := kS_honestShare (aR := aR) (by omega) hR 
  refine kL_S (As := [.ref oF, .ref oD]) (rest := []) (wr := [X0W g oS rS vS aS, X2W g oH rH vH oQ rQ aH, X3W g oR rR vR aR, X1W g oT rT vT aT, JOW oB q ml (nI k), JAW g q n f, X5W g oM rM vM aM, OLW g oL fL]) C (L_honestShare_c l g oF vF oS oH oR oT oB oC rC vC aC hfl oD fD kK_honestShare) hNc (vx_cwSW 2 hts (k_gS kw1399 cs_L_honestShare) rfl rfl rfl pnL_honestShare ⟨Nat.le_of_ble_eq_true rfl, Nat.le_of_ble_eq_true rfl⟩) hE hS hA hP hD [0, 1, 10] [2, 3, 4, 5, 6, 7, 8, 9] rfl rfl ⟨rfl, rfl, by decide⟩ rfl hl.1 rfl rfl dL_law_2139 ⟨by show _ ≤ 605484; omega, by show _ ≤ 7191588; omega⟩ (fun r u H locs hp hP hD hS => ?_)
  obtain ⟨hr, h1, hv1, hu1⟩ := hp
  subst hu1
  subst hr
  have hP : kp g [X4W g oF (kFr oC oS oH oR oT oB) vF, X0W g oC rC vC aC, X0W g oS rS vS aS, X2W g oH rH vH oQ rQ aH, X3W g oR rR vR aR, X1W g oT rT vT aT, JOW oB q ml (nI k), JAW g q n f, X5W g oM rM vM aM, OLW g oL fL, ODW g oD h1] H := hP.pick [8, 9, 0, 1, 2, 3, 4, 5, 6, 7, 10] rfl
  have hD : kd (kAh s) [X4W g oF (kFr oC oS oH oR oT oB) vF, X0W g oC rC vC aC, X0W g oS rS vS aS, X2W g oH rH vH oQ rQ aH, X3W g oR rR vR aR, X1W g oT rT vT aT, JOW oB q ml (nI k), JAW g q n f, X5W g oM rM vM aM, OLW g oL fL, ODW g oD h1] := hD.pick [8, 9, 0, 1, 2, 3, 4, 5, 6, 7, 10] rfl rfl
  refine lv_istore (lv' := [(6, .int (kLk1 ((X4_honestShare_f vC aC).1))), (5, .int (nI i)), (0, .ref b), (1, .ref oF), (2, .ref oM), (3, .ref oL), (4, .ref oD)]) hx hb dL_law_2142 hl (by decide) rfl (fun ls hl => ?_)
  refine lv_aload_n hx hb dL_law_2144 rfl (lv_at hl 4 rfl) ?_
  refine kMD_V (As := []) (rest := []) (wr := [X4W g oF (kFr oC oS oH oR oT oB) vF, X0W g oC rC vC aC, X0W g oS rS vS aS, X2W g oH rH vH oQ rQ aH, X3W g oR rR vR aR, X1W g oT rT vT aT, JOW oB q ml (nI k), JAW g q n f, OLW g oL fL, ODW g oD h1]) C (X5_honestShare_c l g oM rM vM aM h87) (cwV 0 hts (k_gV kw1822 ca_X5_honestShare) rfl rfl rfl ⟨rfl, pnX5_honestShare⟩ ⟨Nat.le_of_ble_eq_true rfl, Nat.le_of_ble_eq_true rfl⟩) hE hS hA hP hD [8] [0, 1, 2, 3, 4, 5, 6, 7, 9, 10] rfl rfl ⟨rfl, rfl, by decide⟩ (k_recv C kFX5 hP (i := 8) (q := 0) rfl rfl) rfl hl.1 rfl rfl dL_law_2145 ⟨by show _ ≤ 605484; omega, by show _ ≤ 7191588; omega⟩ (fun r u H locs hp hP hD hS => ?_)
  obtain ⟨hr, hu⟩ := hp
  subst hu
  subst hr
  have hP : kp g [X4W g oF (kFr oC oS oH oR oT oB) vF, X0W g oC rC vC aC, X0W g oS rS vS aS, X2W g oH rH vH oQ rQ aH, X3W g oR rR vR aR, X1W g oT rT vT aT, JOW oB q ml (nI k), JAW g q n f, X5W g oM rM ((X5_honestShare_f vM aM).2) aM, OLW g oL fL, ODW g oD h1] H := hP.pick [0, 1, 2, 3, 4, 5, 6, 7, 10, 8, 9] rfl
  have hD : kd (kAh s) [X4W g oF (kFr oC oS oH oR oT oB) vF, X0W g oC rC vC aC, X0W g oS rS vS aS, X2W g oH rH vH oQ rQ aH, X3W g oR rR vR aR, X1W g oT rT vT aT, JOW oB q ml (nI k), JAW g q n f, X5W g oM rM ((X5_honestShare_f vM aM).2) aM, OLW g oL fL, ODW g oD h1] := hD.pick [0, 1, 2, 3, 4, 5, 6, 7, 10, 8, 9] rfl rfl
  refine lv_dstore (lv' := [(7, .double ((X5_honestShare_f vM aM).1)), (6, .int (kLk1 ((X4_honestShare_f vC aC).1))), (5, .int (nI i)), (0, .ref b), (1, .ref oF), (2, .ref oM), (3, .ref oL), (4, .ref oD)]) hx hb dL_law_2148 hl (by decide) rfl (fun ls hl => ?_)
  refine lv_aload_n hx hb dL_law_2150 rfl (lv_at hl 5 rfl) ?_
  refine kR_V (As := []) (rest := []) C (X5_thrown_c l g oM rM ((X5_honestShare_f vM aM).2) aM) (cwV 0 hts (k_gV kw1513 ca_X5_thrown) rfl rfl rfl ⟨rfl, pnX5_thrown⟩ ⟨Nat.le_of_ble_eq_true rfl, Nat.le_of_ble_eq_true rfl⟩) hE hS (hP.pick [8] rfl) (k_recv C kFX5 hP (i := 8) (q := 0) rfl rfl) rfl hl.1 rfl rfl dL_law_2151 ⟨by show _ ≤ 605484; omega, by show _ ≤ 7191588; omega⟩ ?_
  refine lv_iload hx hb dL_law_2154 (lv_at hl 1 rfl) ?_
  refine lv_icmp_eq (tgt := 2161) hx hb dL_law_2156 (by decide) (fun z => ?_) (fun z => absurd hs.1 z)
  have fin : W p l e room_1 s m #[Value.ref b] below meth c H locs (cells + 1 + 0) (slots + 6 + 0) (lw_Z below #[Value.ref b] s) (F0 m 2198 ls []) := by
    refine lv_goto (tgt := 2358) hx hb dL_law_2198 (by decide) ?_
    exact ih _ _ _ _ _ _ _ _ _ _ _ _ _ _ _ _ _ _ _ _ H locs ls _ _ hs.2.2.1 hT hP hD hS (lv_sub hl [2, 3, 4, 5, 6, 7] rfl) (by omega) (by omega)
  refine lv_iload hx hb dL_law_2161 (lv_at hl 1 rfl) ?_
  by_cases hc0 : kLk1 ((X4_honestShare_f vC aC).1) = 0
  rotate_left
  · refine lv_if_ne (tgt := 2198) hx hb dL_law_2163 (by decide) (fun z => fin) (fun z => absurd z hc0)
  refine lv_if_ne (tgt := 2198) hx hb dL_law_2163 (by decide) (fun z => absurd hc0 z) (fun z => ?_)
  have hc1 := kLk1_0 hc0
  refine lv_aload hx hb dL_law_2166 (lv_at hl 7 rfl) ?_
  refine lv_iconst (v := 0) hx hb dL_law_2168 (by decide) ?_
  refine kg_dald C hP (i := 10) rfl dL_law_2169 ?_
  refine lv_dload hx hb dL_law_2170 (lv_at hl 0 rfl) ?_
  refine lv_dcmp hx hb dL_law_2172 ?_
  rw [show h1 0 = (X5_honestShare_f vM aM).1 from (hv1 hc1).trans ((hs.2.1 hc1).symm), kf_self _ (hs.2.2.2 hc1)]
  refine lv_if_eq (tgt := 2198) hx hb dL_law_2173 (by decide) (fun z => fin) (fun z => absurd rfl z)
set_option maxHeartbeats 4000000 in
theorem LC_account (l : Launch) (hfl : l.stackTraces = false) {p : Program} {e : Env} {s : State} {m : MethodId} {below : List Frame} {meth : Method} {c : Code} {b L : Nat} {xs : Nat → Int32} {g : kG} (oF oC oS oH oR oT oB oM oL oD : Nat) (rC rS rH rR rT rM : Nat → Nat) (oQ : Nat → Nat) (rQ : Nat → Nat → Nat) (aR : Nat → Nat → Int32) {N i cells slots : Nat} (C : kC p c code s m #[Value.ref b] meth RL g 9 ret) (hE : kE g (kAh s) s s.heap) (hNc : kNc s) (hX : va_X b L xs s s.heap) (hbl : b < s.heap.size) (hL : L ≤ 2048) (hi : i + 4 ≤ L) (hN : N < 90000) (hcb : cells + 40 ≤ 605484) (hsb : slots + 2000 ≤ 7191588)
    (ih : kNext l p e s m below meth c b g oF oC oS oH oR oT oB oM oL oD rC rS rH rR rT rM oQ rQ aR i N cells slots) (vF : Nat → Int32) (vC : Nat → Int32) (aC : Nat → Nat → Int32) (vS : Nat → Int32) (aS : Nat → Nat → Int32) (vH : Nat → Int32) (aH : Nat → (Nat → Int32) × (Nat → Nat → Int32)) (vR : Nat → Int32) (vT : Nat → Int32) (aT : Nat → Nat → Int32) (q n : Nat) (ml : Int32) (f : Nat → Int32) (t : Nat → Nat) (k : Nat) (vM : Nat → Int32) (aM : Nat → Nat → Int32) (fL : Nat → Int64) (fD : Nat → UInt64) (H : Heap) (locs : List Loc) (ls : Array Slot) (hR : kRel N vF vC aC vS aS vH aH vR vT aT t k vM aM) (hT : ((n = 16 ∨ n = 34) ∧ k ≤ n ∧ sb_Fit f ∧ sb_Lat t k f)) (hP : kp g [X4W g oF (kFr oC oS oH oR oT oB) vF, X0W g oC rC vC aC, X0W g oS rS vS aS, X2W g oH rH vH oQ rQ aH, X3W g oR rR vR aR, X1W g oT rT vT aT, JOW oB q ml (nI k), JAW g q n f, X5W g oM rM vM aM, OLW g oL fL, ODW g oD fD] H) (hD : kd (kAh s) [X4W g oF (kFr oC oS oH oR oT oB) vF, X0W g oC rC vC aC, X0W g oS rS vS aS, X2W g oH rH vH oQ rQ aH, X3W g oR rR vR aR, X1W g oT rT vT aT, JOW oB q ml (nI k), JAW g q n f, X5W g oM rM vM aM, OLW g oL fL, ODW g oD fD]) (hS : va_S (kAh s) s.heap H locs) (hl : lv_has ls 9 (kLb i b oF oM oL oD)) :
    W p l e room_1 s m #[Value.ref b] below meth c H locs cells slots (lw_Z below #[Value.ref b] s) (F0 m 2201 ls []) := by
  have hA : ∀ q, s.heap.size ≤ q → kAh s q := fun q h => h
  have hx := C.1.1
  have hb := C.1.2.1
  have hts := C.1.2.2.2.2
  obtain ⟨⟨nb, nj, hnb, hv7, hnj, hv4, hb5, hj5⟩, hM, hM5, hh, hu, hL1, hL9, hch, hl40, h87, hI⟩ := kRel_hyp (by omega) hR
  refine lv_aload_n hx hb dL_law_2201 rfl (lv_at hl 2 rfl) ?_
  refine lv_aload_n hx hb dL_law_2202 rfl (lv_at hl 1 rfl) ?_
  refine lv_iload hx hb dL_law_2203 (lv_at hl 0 rfl) ?_
  refine lv_iconst (v := 1) hx hb dL_law_2205 (by decide) ?_
  refine lv_iadd hx hb dL_law_2206 ?_
  refine kg_script (j := 1) C hX hbl hS (by omega) hL dL_law_2207 ?_
  refine lv_aload_n hx hb dL_law_2208 rfl (lv_at hl 4 rfl) ?_
  have hs := kS_account (aR := aR) (by omega) hR (xs (i + 1))
  refine kL_S (As := [.ref oF, .int (xs (i + 1)), .ref oL]) (rest := []) (wr := [X0W g oS rS vS aS, X3W g oR rR vR aR, JOW oB q ml (nI k), JAW g q n f, X5W g oM rM vM aM, ODW g oD fD]) C (L_account_c l g oF vF oS oR oB oC rC vC aC oH rH vH oQ rQ aH oT rT vT aT (xs (i + 1)) nb nj hnb hv7 hnj hv4 hfl oL fL kK_account) hNc (vx_cwSW 3 hts (k_gS kw1407 cs_L_account) rfl rfl rfl pnL_account ⟨Nat.le_of_ble_eq_true rfl, Nat.le_of_ble_eq_true rfl⟩) hE hS hA hP hD [0, 1, 3, 5, 9] [2, 4, 6, 7, 8, 10] rfl rfl ⟨rfl, rfl, by decide⟩ rfl hl.1 rfl rfl dL_law_2209 ⟨by show _ ≤ 605484; omega, by show _ ≤ 7191588; omega⟩ (fun r u H locs hp hP hD hS => ?_)
  obtain ⟨hr, h1, hv1, hu1⟩ := hp
  subst hu1
  subst hr
  have hP : kp g [X4W g oF (kFr oC oS oH oR oT oB) vF, X0W g oC rC vC aC, X0W g oS rS vS aS, X2W g oH rH vH oQ rQ aH, X3W g oR rR vR aR, X1W g oT rT vT aT, JOW oB q ml (nI k), JAW g q n f, X5W g oM rM vM aM, OLW g oL h1, ODW g oD fD] H := hP.pick [6, 7, 0, 8, 1, 9, 2, 3, 4, 10, 5] rfl
  have hD : kd (kAh s) [X4W g oF (kFr oC oS oH oR oT oB) vF, X0W g oC rC vC aC, X0W g oS rS vS aS, X2W g oH rH vH oQ rQ aH, X3W g oR rR vR aR, X1W g oT rT vT aT, JOW oB q ml (nI k), JAW g q n f, X5W g oM rM vM aM, OLW g oL h1, ODW g oD fD] := hD.pick [6, 7, 0, 8, 1, 9, 2, 3, 4, 10, 5] rfl rfl
  refine lv_istore (lv' := [(6, .int (kLk1 ((X4_account_f vF vC aC vH aH vT aT (xs (i + 1))).1))), (5, .int (nI i)), (0, .ref b), (1, .ref oF), (2, .ref oM), (3, .ref oL), (4, .ref oD)]) hx hb dL_law_2212 hl (by decide) rfl (fun ls hl => ?_)
  refine lv_aload_n hx hb dL_law_2214 rfl (lv_at hl 4 rfl) ?_
  refine lv_aload_n hx hb dL_law_2215 rfl (lv_at hl 2 rfl) ?_
  refine lv_iload hx hb dL_law_2216 (lv_at hl 1 rfl) ?_
  refine lv_iconst (v := 1) hx hb dL_law_2218 (by decide) ?_
  refine lv_iadd hx hb dL_law_2219 ?_
  refine kg_script (j := 1) C hX hbl hS (by omega) hL dL_law_2220 ?_
  refine kM_V (As := [.int (xs (i + 1))]) (rest := []) (wr := [X4W g oF (kFr oC oS oH oR oT oB) vF, X0W g oC rC vC aC, X0W g oS rS vS aS, X2W g oH rH vH oQ rQ aH, X3W g oR rR vR aR, X1W g oT rT vT aT, JOW oB q ml (nI k), JAW g q n f, OLW g oL h1, ODW g oD fD]) C (X5_account_c l g oM rM vM aM (xs (i + 1)) ⟨nb, hnb, hb5⟩ ⟨nj, hnj, hj5⟩) (cwV 1 hts (k_gV kw1826 ca_X5_account) rfl rfl rfl ⟨rfl, pnX5_account⟩ ⟨Nat.le_of_ble_eq_true rfl, Nat.le_of_ble_eq_true rfl⟩) hE hS hA hP hD [8] [0, 1, 2, 3, 4, 5, 6, 7, 9, 10] rfl rfl ⟨rfl, rfl, by decide⟩ (k_recv C kFX5 hP (i := 8) (q := 0) rfl rfl) rfl hl.1 rfl rfl dL_law_2221 ⟨by show _ ≤ 605484; omega, by show _ ≤ 7191588; omega⟩ (fun r u H locs hp hP hD hS => ?_)
  obtain ⟨hr, hu⟩ := hp
  subst hu
  subst hr
  have hP : kp g [X4W g oF (kFr oC oS oH oR oT oB) vF, X0W g oC rC vC aC, X0W g oS rS vS aS, X2W g oH rH vH oQ rQ aH, X3W g oR rR vR aR, X1W g oT rT vT aT, JOW oB q ml (nI k), JAW g q n f, X5W g oM rM ((X5_account_f vM aM (xs (i + 1))).2) aM, OLW g oL h1, ODW g oD fD] H := hP.pick [0, 1, 2, 3, 4, 5, 6, 7, 10, 8, 9] rfl
  have hD : kd (kAh s) [X4W g oF (kFr oC oS oH oR oT oB) vF, X0W g oC rC vC aC, X0W g oS rS vS aS, X2W g oH rH vH oQ rQ aH, X3W g oR rR vR aR, X1W g oT rT vT aT, JOW oB q ml (nI k), JAW g q n f, X5W g oM rM ((X5_account_f vM aM (xs (i + 1))).2) aM, OLW g oL h1, ODW g oD fD] := hD.pick [0, 1, 2, 3, 4, 5, 6, 7, 10, 8, 9] rfl rfl
  refine lv_istore (lv' := [(7, .int ((X5_account_f vM aM (xs (i + 1))).1)), (6, .int (kLk1 ((X4_account_f vF vC aC vH aH vT aT (xs (i + 1))).1))), (5, .int (nI i)), (0, .ref b), (1, .ref oF), (2, .ref oM), (3, .ref oL), (4, .ref oD)]) hx hb dL_law_2224 hl (by decide) rfl (fun ls hl => ?_)
  refine lv_aload_n hx hb dL_law_2226 rfl (lv_at hl 5 rfl) ?_
  refine kR_V (As := []) (rest := []) C (X5_thrown_c l g oM rM ((X5_account_f vM aM (xs (i + 1))).2) aM) (cwV 0 hts (k_gV kw1513 ca_X5_thrown) rfl rfl rfl ⟨rfl, pnX5_thrown⟩ ⟨Nat.le_of_ble_eq_true rfl, Nat.le_of_ble_eq_true rfl⟩) hE hS (hP.pick [8] rfl) (k_recv C kFX5 hP (i := 8) (q := 0) rfl rfl) rfl hl.1 rfl rfl dL_law_2227 ⟨by show _ ≤ 605484; omega, by show _ ≤ 7191588; omega⟩ ?_
  refine lv_iload hx hb dL_law_2230 (lv_at hl 1 rfl) ?_
  refine lv_icmp_eq (tgt := 2237) hx hb dL_law_2232 (by decide) (fun z => ?_) (fun z => absurd hs.1 z)
  have fin : W p l e room_1 s m #[Value.ref b] below meth c H locs (cells + 1 + 0) (slots + 6 + 0) (lw_Z below #[Value.ref b] s) (F0 m 2254 ls []) := by
    refine lv_goto (tgt := 2358) hx hb dL_law_2254 (by decide) ?_
    exact ih _ _ _ _ _ _ _ _ _ _ _ _ _ _ _ _ _ _ _ _ H locs ls _ _ hs.2.2 hT hP hD hS (lv_sub hl [2, 3, 4, 5, 6, 7] rfl) (by omega) (by omega)
  refine lv_iload hx hb dL_law_2237 (lv_at hl 1 rfl) ?_
  by_cases hc0 : kLk1 ((X4_account_f vF vC aC vH aH vT aT (xs (i + 1))).1) = 0
  rotate_left
  · refine lv_if_ne (tgt := 2254) hx hb dL_law_2239 (by decide) (fun z => fin) (fun z => absurd z hc0)
  refine lv_if_ne (tgt := 2254) hx hb dL_law_2239 (by decide) (fun z => absurd hc0 z) (fun z => ?_)
  have hc1 := kLk1_0 hc0
  refine lv_aload_n hx hb dL_law_2242 rfl (lv_at hl 6 rfl) ?_
  refine lv_iconst (v := 0) hx hb dL_law_2243 (by decide) ?_
  refine kg_lald C hP (i := 9) rfl dL_law_2244 ?_
  refine lv_iload hx hb dL_law_2245 (lv_at hl 0 rfl) ?_
  refine lv_i2l hx hb dL_law_2247 rfl ?_
  refine W.lcmp hx hb dL_law_2248 ?_
  rw [k_lcmp0 ((hv1 hc1).trans (congrArg Int32.toInt64 (hs.2.1 hc1).symm))]
  refine lv_if_eq (tgt := 2254) hx hb dL_law_2249 (by decide) (fun z => fin) (fun z => absurd rfl z)
set_option maxHeartbeats 4000000 in
theorem LC_undo (l : Launch) (hfl : l.stackTraces = false) {p : Program} {e : Env} {s : State} {m : MethodId} {below : List Frame} {meth : Method} {c : Code} {b L : Nat} {xs : Nat → Int32} {g : kG} (oF oC oS oH oR oT oB oM oL oD : Nat) (rC rS rH rR rT rM : Nat → Nat) (oQ : Nat → Nat) (rQ : Nat → Nat → Nat) (aR : Nat → Nat → Int32) {N i cells slots : Nat} (C : kC p c code s m #[Value.ref b] meth RL g 9 ret) (hE : kE g (kAh s) s s.heap) (hNc : kNc s) (hX : va_X b L xs s s.heap) (hbl : b < s.heap.size) (hL : L ≤ 2048) (hi : i + 4 ≤ L) (hN : N < 90000) (hcb : cells + 40 ≤ 605484) (hsb : slots + 2000 ≤ 7191588)
    (ih : kNext l p e s m below meth c b g oF oC oS oH oR oT oB oM oL oD rC rS rH rR rT rM oQ rQ aR i N cells slots) (vF : Nat → Int32) (vC : Nat → Int32) (aC : Nat → Nat → Int32) (vS : Nat → Int32) (aS : Nat → Nat → Int32) (vH : Nat → Int32) (aH : Nat → (Nat → Int32) × (Nat → Nat → Int32)) (vR : Nat → Int32) (vT : Nat → Int32) (aT : Nat → Nat → Int32) (q n : Nat) (ml : Int32) (f : Nat → Int32) (t : Nat → Nat) (k : Nat) (vM : Nat → Int32) (aM : Nat → Nat → Int32) (fL : Nat → Int64) (fD : Nat → UInt64) (H : Heap) (locs : List Loc) (ls : Array Slot) (hR : kRel N vF vC aC vS aS vH aH vR vT aT t k vM aM) (hT : ((n = 16 ∨ n = 34) ∧ k ≤ n ∧ sb_Fit f ∧ sb_Lat t k f)) (hP : kp g [X4W g oF (kFr oC oS oH oR oT oB) vF, X0W g oC rC vC aC, X0W g oS rS vS aS, X2W g oH rH vH oQ rQ aH, X3W g oR rR vR aR, X1W g oT rT vT aT, JOW oB q ml (nI k), JAW g q n f, X5W g oM rM vM aM, OLW g oL fL, ODW g oD fD] H) (hD : kd (kAh s) [X4W g oF (kFr oC oS oH oR oT oB) vF, X0W g oC rC vC aC, X0W g oS rS vS aS, X2W g oH rH vH oQ rQ aH, X3W g oR rR vR aR, X1W g oT rT vT aT, JOW oB q ml (nI k), JAW g q n f, X5W g oM rM vM aM, OLW g oL fL, ODW g oD fD]) (hS : va_S (kAh s) s.heap H locs) (hl : lv_has ls 9 (kLb i b oF oM oL oD)) :
    W p l e room_1 s m #[Value.ref b] below meth c H locs cells slots (lw_Z below #[Value.ref b] s) (F0 m 2257 ls []) := by
  have hA : ∀ q, s.heap.size ≤ q → kAh s q := fun q h => h
  have hx := C.1.1
  have hb := C.1.2.1
  have hts := C.1.2.2.2.2
  obtain ⟨⟨nb, nj, hnb, hv7, hnj, hv4, hb5, hj5⟩, hM, hM5, hh, hu, hL1, hL9, hch, hl40, h87, hI⟩ := kRel_hyp (by omega) hR
  refine lv_aload_n hx hb dL_law_2257 rfl (lv_at hl 2 rfl) ?_
  refine lv_aload_n hx hb dL_law_2258 rfl (lv_at hl 4 rfl) ?_
  have hs := kS_undo (aR := aR) (by omega) hR 
  refine kL_S (As := [.ref oF, .ref oL]) (rest := []) (wr := [X0W g oS rS vS aS, X3W g oR rR vR aR, X1W g oT rT vT aT, JOW oB q ml (nI k), JAW g q n f, X5W g oM rM vM aM, ODW g oD fD]) C (L_undo_c l g oF vF oS oR oT oB oC rC vC aC oH rH vH oQ rQ aH hh hfl oL fL kK_undo) hNc (vx_cwSW 2 hts (k_gS kw1420 cs_L_undo) rfl rfl rfl pnL_undo ⟨Nat.le_of_ble_eq_true rfl, Nat.le_of_ble_eq_true rfl⟩) hE hS hA hP hD [0, 1, 3, 9] [2, 4, 5, 6, 7, 8, 10] rfl rfl ⟨rfl, rfl, by decide⟩ rfl hl.1 rfl rfl dL_law_2259 ⟨by show _ ≤ 605484; omega, by show _ ≤ 7191588; omega⟩ (fun r u H locs hp hP hD hS => ?_)
  obtain ⟨hr, h1, hv1, hu1⟩ := hp
  subst hu1
  subst hr
  have hP : kp g [X4W g oF (kFr oC oS oH oR oT oB) vF, X0W g oC rC ((X4_undo_f vF vC aC vH aH).2.2.1) ((X4_undo_f vF vC aC vH aH).2.2.2.1), X0W g oS rS vS aS, X2W g oH rH ((X4_undo_f vF vC aC vH aH).2.2.2.2) oQ rQ aH, X3W g oR rR vR aR, X1W g oT rT vT aT, JOW oB q ml (nI k), JAW g q n f, X5W g oM rM vM aM, OLW g oL h1, ODW g oD fD] H := hP.pick [7, 8, 0, 9, 1, 2, 3, 4, 5, 10, 6] rfl
  have hD : kd (kAh s) [X4W g oF (kFr oC oS oH oR oT oB) vF, X0W g oC rC ((X4_undo_f vF vC aC vH aH).2.2.1) ((X4_undo_f vF vC aC vH aH).2.2.2.1), X0W g oS rS vS aS, X2W g oH rH ((X4_undo_f vF vC aC vH aH).2.2.2.2) oQ rQ aH, X3W g oR rR vR aR, X1W g oT rT vT aT, JOW oB q ml (nI k), JAW g q n f, X5W g oM rM vM aM, OLW g oL h1, ODW g oD fD] := hD.pick [7, 8, 0, 9, 1, 2, 3, 4, 5, 10, 6] rfl rfl
  refine lv_istore (lv' := [(6, .int (kLk1 ((X4_undo_f vF vC aC vH aH).1))), (5, .int (nI i)), (0, .ref b), (1, .ref oF), (2, .ref oM), (3, .ref oL), (4, .ref oD)]) hx hb dL_law_2262 hl (by decide) rfl (fun ls hl => ?_)
  refine lv_aload_n hx hb dL_law_2264 rfl (lv_at hl 4 rfl) ?_
  refine kM_V (As := []) (rest := []) (wr := [X4W g oF (kFr oC oS oH oR oT oB) vF, X0W g oC rC ((X4_undo_f vF vC aC vH aH).2.2.1) ((X4_undo_f vF vC aC vH aH).2.2.2.1), X0W g oS rS vS aS, X2W g oH rH ((X4_undo_f vF vC aC vH aH).2.2.2.2) oQ rQ aH, X3W g oR rR vR aR, X1W g oT rT vT aT, JOW oB q ml (nI k), JAW g q n f, OLW g oL h1, ODW g oD fD]) C (X5_undo_c l g oM rM vM aM hu) (cwV 0 hts (k_gV kw1830 ca_X5_undo) rfl rfl rfl ⟨rfl, pnX5_undo⟩ ⟨Nat.le_of_ble_eq_true rfl, Nat.le_of_ble_eq_true rfl⟩) hE hS hA hP hD [8] [0, 1, 2, 3, 4, 5, 6, 7, 9, 10] rfl rfl ⟨rfl, rfl, by decide⟩ (k_recv C kFX5 hP (i := 8) (q := 0) rfl rfl) rfl hl.1 rfl rfl dL_law_2265 ⟨by show _ ≤ 605484; omega, by show _ ≤ 7191588; omega⟩ (fun r u H locs hp hP hD hS => ?_)
  obtain ⟨hr, hu⟩ := hp
  subst hu
  subst hr
  have hP : kp g [X4W g oF (kFr oC oS oH oR oT oB) vF, X0W g oC rC ((X4_undo_f vF vC aC vH aH).2.2.1) ((X4_undo_f vF vC aC vH aH).2.2.2.1), X0W g oS rS vS aS, X2W g oH rH ((X4_undo_f vF vC aC vH aH).2.2.2.2) oQ rQ aH, X3W g oR rR vR aR, X1W g oT rT vT aT, JOW oB q ml (nI k), JAW g q n f, X5W g oM rM ((X5_undo_f vM aM).2.1) ((X5_undo_f vM aM).2.2), OLW g oL h1, ODW g oD fD] H := hP.pick [0, 1, 2, 3, 4, 5, 6, 7, 10, 8, 9] rfl
  have hD : kd (kAh s) [X4W g oF (kFr oC oS oH oR oT oB) vF, X0W g oC rC ((X4_undo_f vF vC aC vH aH).2.2.1) ((X4_undo_f vF vC aC vH aH).2.2.2.1), X0W g oS rS vS aS, X2W g oH rH ((X4_undo_f vF vC aC vH aH).2.2.2.2) oQ rQ aH, X3W g oR rR vR aR, X1W g oT rT vT aT, JOW oB q ml (nI k), JAW g q n f, X5W g oM rM ((X5_undo_f vM aM).2.1) ((X5_undo_f vM aM).2.2), OLW g oL h1, ODW g oD fD] := hD.pick [0, 1, 2, 3, 4, 5, 6, 7, 10, 8, 9] rfl rfl
  refine lv_istore (lv' := [(7, .int ((X5_undo_f vM aM).1)), (6, .int (kLk1 ((X4_undo_f vF vC aC vH aH).1))), (5, .int (nI i)), (0, .ref b), (1, .ref oF), (2, .ref oM), (3, .ref oL), (4, .ref oD)]) hx hb dL_law_2268 hl (by decide) rfl (fun ls hl => ?_)
  refine lv_aload_n hx hb dL_law_2270 rfl (lv_at hl 5 rfl) ?_
  refine kR_V (As := []) (rest := []) C (X5_thrown_c l g oM rM ((X5_undo_f vM aM).2.1) ((X5_undo_f vM aM).2.2)) (cwV 0 hts (k_gV kw1513 ca_X5_thrown) rfl rfl rfl ⟨rfl, pnX5_thrown⟩ ⟨Nat.le_of_ble_eq_true rfl, Nat.le_of_ble_eq_true rfl⟩) hE hS (hP.pick [8] rfl) (k_recv C kFX5 hP (i := 8) (q := 0) rfl rfl) rfl hl.1 rfl rfl dL_law_2271 ⟨by show _ ≤ 605484; omega, by show _ ≤ 7191588; omega⟩ ?_
  refine lv_iload hx hb dL_law_2274 (lv_at hl 1 rfl) ?_
  refine lv_icmp_eq (tgt := 2281) hx hb dL_law_2276 (by decide) (fun z => ?_) (fun z => absurd hs.1 z)
  have fin : W p l e room_1 s m #[Value.ref b] below meth c H locs (cells + 1 + 0) (slots + 6 + 0) (lw_Z below #[Value.ref b] s) (F0 m 2298 ls []) := by
    refine lv_goto (tgt := 2358) hx hb dL_law_2298 (by decide) ?_
    exact ih _ _ _ _ _ _ _ _ _ _ _ _ _ _ _ _ _ _ _ _ H locs ls _ _ hs.2.2 hT hP hD hS (lv_sub hl [2, 3, 4, 5, 6, 7] rfl) (by omega) (by omega)
  refine lv_iload hx hb dL_law_2281 (lv_at hl 1 rfl) ?_
  by_cases hc0 : kLk1 ((X4_undo_f vF vC aC vH aH).1) = 0
  rotate_left
  · refine lv_if_ne (tgt := 2298) hx hb dL_law_2283 (by decide) (fun z => fin) (fun z => absurd z hc0)
  refine lv_if_ne (tgt := 2298) hx hb dL_law_2283 (by decide) (fun z => absurd hc0 z) (fun z => ?_)
  have hc1 := kLk1_0 hc0
  refine lv_aload_n hx hb dL_law_2286 rfl (lv_at hl 6 rfl) ?_
  refine lv_iconst (v := 0) hx hb dL_law_2287 (by decide) ?_
  refine kg_lald C hP (i := 9) rfl dL_law_2288 ?_
  refine lv_iload hx hb dL_law_2289 (lv_at hl 0 rfl) ?_
  refine lv_i2l hx hb dL_law_2291 rfl ?_
  refine W.lcmp hx hb dL_law_2292 ?_
  rw [k_lcmp0 ((hv1 hc1).trans (congrArg Int32.toInt64 (hs.2.1 hc1).symm))]
  refine lv_if_eq (tgt := 2298) hx hb dL_law_2293 (by decide) (fun z => fin) (fun z => absurd rfl z)
set_option maxHeartbeats 4000000 in
theorem LC_save (l : Launch) (hfl : l.stackTraces = false) {p : Program} {e : Env} {s : State} {m : MethodId} {below : List Frame} {meth : Method} {c : Code} {b L : Nat} {xs : Nat → Int32} {g : kG} (oF oC oS oH oR oT oB oM oL oD : Nat) (rC rS rH rR rT rM : Nat → Nat) (oQ : Nat → Nat) (rQ : Nat → Nat → Nat) (aR : Nat → Nat → Int32) {N i cells slots : Nat} (C : kC p c code s m #[Value.ref b] meth RL g 9 ret) (hE : kE g (kAh s) s s.heap) (hNc : kNc s) (hX : va_X b L xs s s.heap) (hbl : b < s.heap.size) (hL : L ≤ 2048) (hi : i + 4 ≤ L) (hN : N < 90000) (hcb : cells + 40 ≤ 605484) (hsb : slots + 2000 ≤ 7191588)
    (ih : kNext l p e s m below meth c b g oF oC oS oH oR oT oB oM oL oD rC rS rH rR rT rM oQ rQ aR i N cells slots) (vF : Nat → Int32) (vC : Nat → Int32) (aC : Nat → Nat → Int32) (vS : Nat → Int32) (aS : Nat → Nat → Int32) (vH : Nat → Int32) (aH : Nat → (Nat → Int32) × (Nat → Nat → Int32)) (vR : Nat → Int32) (vT : Nat → Int32) (aT : Nat → Nat → Int32) (q n : Nat) (ml : Int32) (f : Nat → Int32) (t : Nat → Nat) (k : Nat) (vM : Nat → Int32) (aM : Nat → Nat → Int32) (fL : Nat → Int64) (fD : Nat → UInt64) (H : Heap) (locs : List Loc) (ls : Array Slot) (hR : kRel N vF vC aC vS aS vH aH vR vT aT t k vM aM) (hT : ((n = 16 ∨ n = 34) ∧ k ≤ n ∧ sb_Fit f ∧ sb_Lat t k f)) (hP : kp g [X4W g oF (kFr oC oS oH oR oT oB) vF, X0W g oC rC vC aC, X0W g oS rS vS aS, X2W g oH rH vH oQ rQ aH, X3W g oR rR vR aR, X1W g oT rT vT aT, JOW oB q ml (nI k), JAW g q n f, X5W g oM rM vM aM, OLW g oL fL, ODW g oD fD] H) (hD : kd (kAh s) [X4W g oF (kFr oC oS oH oR oT oB) vF, X0W g oC rC vC aC, X0W g oS rS vS aS, X2W g oH rH vH oQ rQ aH, X3W g oR rR vR aR, X1W g oT rT vT aT, JOW oB q ml (nI k), JAW g q n f, X5W g oM rM vM aM, OLW g oL fL, ODW g oD fD]) (hS : va_S (kAh s) s.heap H locs) (hl : lv_has ls 9 (kLb i b oF oM oL oD)) :
    W p l e room_1 s m #[Value.ref b] below meth c H locs cells slots (lw_Z below #[Value.ref b] s) (F0 m 2301 ls []) := by
  have hA : ∀ q, s.heap.size ≤ q → kAh s q := fun q h => h
  have hx := C.1.1
  have hb := C.1.2.1
  have hts := C.1.2.2.2.2
  obtain ⟨⟨nb, nj, hnb, hv7, hnj, hv4, hb5, hj5⟩, hM, hM5, hh, hu, hL1, hL9, hch, hl40, h87, hI⟩ := kRel_hyp (by omega) hR
  have hs := kS_save (aR := aR) (by omega) hR
  refine lv_aload_n hx hb dL_law_2301 rfl (lv_at hl 2 rfl) ?_
  refine kM_V (As := []) (rest := []) (wr := [X2W g oH rH vH oQ rQ aH, X3W g oR rR vR aR, X1W g oT rT vT aT, JOW oB q ml (nI k), JAW g q n f, X5W g oM rM vM aM, OLW g oL fL, ODW g oD fD]) C (X4_save_c l g oF vF oH oR oT oB oC rC vC aC oS rS vS aS) (cwV 0 hts (k_gV kw367 ca_X4_save) rfl rfl rfl ⟨rfl, pnX4_save⟩ ⟨Nat.le_of_ble_eq_true rfl, Nat.le_of_ble_eq_true rfl⟩) hE hS hA hP hD [0, 1, 2] [3, 4, 5, 6, 7, 8, 9, 10] rfl rfl ⟨rfl, rfl, by decide⟩ (k_recv C kFX4 hP (i := 0) (q := 0) rfl rfl) rfl hl.1 rfl rfl dL_law_2302 ⟨by show _ ≤ 605484; omega, by show _ ≤ 7191588; omega⟩ (fun r u H locs hp hP hD hS => ?_)
  obtain ⟨hr, hu⟩ := hp
  subst hu
  subst hr
  have hP : kp g [X4W g oF (kFr oC oS oH oR oT oB) ((X4_save_f vF vC aC vS aS).2.1), X0W g oC rC vC aC, X0W g oS rS ((X4_save_f vF vC aC vS aS).2.2.1) ((X4_save_f vF vC aC vS aS).2.2.2), X2W g oH rH vH oQ rQ aH, X3W g oR rR vR aR, X1W g oT rT vT aT, JOW oB q ml (nI k), JAW g q n f, X5W g oM rM vM aM, OLW g oL fL, ODW g oD fD] H := hP.pick [8, 9, 10, 0, 1, 2, 3, 4, 5, 6, 7] rfl
  have hD : kd (kAh s) [X4W g oF (kFr oC oS oH oR oT oB) ((X4_save_f vF vC aC vS aS).2.1), X0W g oC rC vC aC, X0W g oS rS ((X4_save_f vF vC aC vS aS).2.2.1) ((X4_save_f vF vC aC vS aS).2.2.2), X2W g oH rH vH oQ rQ aH, X3W g oR rR vR aR, X1W g oT rT vT aT, JOW oB q ml (nI k), JAW g q n f, X5W g oM rM vM aM, OLW g oL fL, ODW g oD fD] := hD.pick [8, 9, 10, 0, 1, 2, 3, 4, 5, 6, 7] rfl rfl
  refine lv_aload_n hx hb dL_law_2305 rfl (lv_at hl 3 rfl) ?_
  refine kM_V (As := []) (rest := [.int ((X4_save_f vF vC aC vS aS).1)]) (wr := [X4W g oF (kFr oC oS oH oR oT oB) ((X4_save_f vF vC aC vS aS).2.1), X0W g oC rC vC aC, X0W g oS rS ((X4_save_f vF vC aC vS aS).2.2.1) ((X4_save_f vF vC aC vS aS).2.2.2), X2W g oH rH vH oQ rQ aH, X3W g oR rR vR aR, X1W g oT rT vT aT, JOW oB q ml (nI k), JAW g q n f, OLW g oL fL, ODW g oD fD]) C (X5_save_c l g oM rM vM aM) (cwV 0 hts (k_gV kw1834 ca_X5_save) rfl rfl rfl ⟨rfl, pnX5_save⟩ ⟨Nat.le_of_ble_eq_true rfl, Nat.le_of_ble_eq_true rfl⟩) hE hS hA hP hD [8] [0, 1, 2, 3, 4, 5, 6, 7, 9, 10] rfl rfl ⟨rfl, rfl, by decide⟩ (k_recv C kFX5 hP (i := 8) (q := 0) rfl rfl) rfl hl.1 rfl rfl dL_law_2306 ⟨by show _ ≤ 605484; omega, by show _ ≤ 7191588; omega⟩ (fun r u H locs hp hP hD hS => ?_)
  obtain ⟨hr, hu⟩ := hp
  subst hu
  subst hr
  have hP : kp g [X4W g oF (kFr oC oS oH oR oT oB) ((X4_save_f vF vC aC vS aS).2.1), X0W g oC rC vC aC, X0W g oS rS ((X4_save_f vF vC aC vS aS).2.2.1) ((X4_save_f vF vC aC vS aS).2.2.2), X2W g oH rH vH oQ rQ aH, X3W g oR rR vR aR, X1W g oT rT vT aT, JOW oB q ml (nI k), JAW g q n f, X5W g oM rM ((X5_save_f vM aM).2.1) ((X5_save_f vM aM).2.2), OLW g oL fL, ODW g oD fD] H := hP.pick [0, 1, 2, 3, 4, 5, 6, 7, 10, 8, 9] rfl
  have hD : kd (kAh s) [X4W g oF (kFr oC oS oH oR oT oB) ((X4_save_f vF vC aC vS aS).2.1), X0W g oC rC vC aC, X0W g oS rS ((X4_save_f vF vC aC vS aS).2.2.1) ((X4_save_f vF vC aC vS aS).2.2.2), X2W g oH rH vH oQ rQ aH, X3W g oR rR vR aR, X1W g oT rT vT aT, JOW oB q ml (nI k), JAW g q n f, X5W g oM rM ((X5_save_f vM aM).2.1) ((X5_save_f vM aM).2.2), OLW g oL fL, ODW g oD fD] := hD.pick [0, 1, 2, 3, 4, 5, 6, 7, 10, 8, 9] rfl rfl
  refine lv_icmp_eq (tgt := 2358) hx hb dL_law_2309 (by decide) (fun z => ih _ _ _ _ _ _ _ _ _ _ _ _ _ _ _ _ _ _ _ _ H locs ls _ _ hs.2 hT hP hD hS hl (by omega) (by omega)) (fun z => absurd hs.1.symm z)
set_option maxHeartbeats 4000000 in
theorem LC_restore (l : Launch) (hfl : l.stackTraces = false) {p : Program} {e : Env} {s : State} {m : MethodId} {below : List Frame} {meth : Method} {c : Code} {b L : Nat} {xs : Nat → Int32} {g : kG} (oF oC oS oH oR oT oB oM oL oD : Nat) (rC rS rH rR rT rM : Nat → Nat) (oQ : Nat → Nat) (rQ : Nat → Nat → Nat) (aR : Nat → Nat → Int32) {N i cells slots : Nat} (C : kC p c code s m #[Value.ref b] meth RL g 9 ret) (hE : kE g (kAh s) s s.heap) (hNc : kNc s) (hX : va_X b L xs s s.heap) (hbl : b < s.heap.size) (hL : L ≤ 2048) (hi : i + 4 ≤ L) (hN : N < 90000) (hcb : cells + 40 ≤ 605484) (hsb : slots + 2000 ≤ 7191588)
    (ih : kNext l p e s m below meth c b g oF oC oS oH oR oT oB oM oL oD rC rS rH rR rT rM oQ rQ aR i N cells slots) (vF : Nat → Int32) (vC : Nat → Int32) (aC : Nat → Nat → Int32) (vS : Nat → Int32) (aS : Nat → Nat → Int32) (vH : Nat → Int32) (aH : Nat → (Nat → Int32) × (Nat → Nat → Int32)) (vR : Nat → Int32) (vT : Nat → Int32) (aT : Nat → Nat → Int32) (q n : Nat) (ml : Int32) (f : Nat → Int32) (t : Nat → Nat) (k : Nat) (vM : Nat → Int32) (aM : Nat → Nat → Int32) (fL : Nat → Int64) (fD : Nat → UInt64) (H : Heap) (locs : List Loc) (ls : Array Slot) (hR : kRel N vF vC aC vS aS vH aH vR vT aT t k vM aM) (hT : ((n = 16 ∨ n = 34) ∧ k ≤ n ∧ sb_Fit f ∧ sb_Lat t k f)) (hP : kp g [X4W g oF (kFr oC oS oH oR oT oB) vF, X0W g oC rC vC aC, X0W g oS rS vS aS, X2W g oH rH vH oQ rQ aH, X3W g oR rR vR aR, X1W g oT rT vT aT, JOW oB q ml (nI k), JAW g q n f, X5W g oM rM vM aM, OLW g oL fL, ODW g oD fD] H) (hD : kd (kAh s) [X4W g oF (kFr oC oS oH oR oT oB) vF, X0W g oC rC vC aC, X0W g oS rS vS aS, X2W g oH rH vH oQ rQ aH, X3W g oR rR vR aR, X1W g oT rT vT aT, JOW oB q ml (nI k), JAW g q n f, X5W g oM rM vM aM, OLW g oL fL, ODW g oD fD]) (hS : va_S (kAh s) s.heap H locs) (hl : lv_has ls 9 (kLb i b oF oM oL oD)) :
    W p l e room_1 s m #[Value.ref b] below meth c H locs cells slots (lw_Z below #[Value.ref b] s) (F0 m 2314 ls []) := by
  have hA : ∀ q, s.heap.size ≤ q → kAh s q := fun q h => h
  have hx := C.1.1
  have hb := C.1.2.1
  have hts := C.1.2.2.2.2
  obtain ⟨⟨nb, nj, hnb, hv7, hnj, hv4, hb5, hj5⟩, hM, hM5, hh, hu, hL1, hL9, hch, hl40, h87, hI⟩ := kRel_hyp (by omega) hR
  refine lv_aload_n hx hb dL_law_2314 rfl (lv_at hl 2 rfl) ?_
  refine lv_aload_n hx hb dL_law_2315 rfl (lv_at hl 4 rfl) ?_
  have hs := kS_restore (aR := aR) (by omega) hR 
  refine kL_S (As := [.ref oF, .ref oL]) (rest := []) (wr := [X3W g oR rR vR aR, X1W g oT rT vT aT, JOW oB q ml (nI k), JAW g q n f, X5W g oM rM vM aM, ODW g oD fD]) C (L_restore_c l g oF vF oR oT oB oC rC vC aC oS rS vS aS oH rH vH oQ rQ aH hfl oL fL kK_restore) hNc (vx_cwSW 2 hts (k_gS kw1432 cs_L_restore) rfl rfl rfl pnL_restore ⟨Nat.le_of_ble_eq_true rfl, Nat.le_of_ble_eq_true rfl⟩) hE hS hA hP hD [0, 1, 2, 3, 9] [4, 5, 6, 7, 8, 10] rfl rfl ⟨rfl, rfl, by decide⟩ rfl hl.1 rfl rfl dL_law_2316 ⟨by show _ ≤ 605484; omega, by show _ ≤ 7191588; omega⟩ (fun r u H locs hp hP hD hS => ?_)
  obtain ⟨hr, h1, hv1, hu1⟩ := hp
  subst hu1
  subst hr
  have hP : kp g [X4W g oF (kFr oC oS oH oR oT oB) vF, X0W g oC rC ((X4_restore_f vF vC aC vS aS vH aH).2.2.1) ((X4_restore_f vF vC aC vS aS vH aH).2.2.2.1), X0W g oS rS vS aS, X2W g oH rH ((X4_restore_f vF vC aC vS aS vH aH).2.2.2.2) oQ rQ aH, X3W g oR rR vR aR, X1W g oT rT vT aT, JOW oB q ml (nI k), JAW g q n f, X5W g oM rM vM aM, OLW g oL h1, ODW g oD fD] H := hP.pick [6, 7, 8, 9, 0, 1, 2, 3, 4, 10, 5] rfl
  have hD : kd (kAh s) [X4W g oF (kFr oC oS oH oR oT oB) vF, X0W g oC rC ((X4_restore_f vF vC aC vS aS vH aH).2.2.1) ((X4_restore_f vF vC aC vS aS vH aH).2.2.2.1), X0W g oS rS vS aS, X2W g oH rH ((X4_restore_f vF vC aC vS aS vH aH).2.2.2.2) oQ rQ aH, X3W g oR rR vR aR, X1W g oT rT vT aT, JOW oB q ml (nI k), JAW g q n f, X5W g oM rM vM aM, OLW g oL h1, ODW g oD fD] := hD.pick [6, 7, 8, 9, 0, 1, 2, 3, 4, 10, 5] rfl rfl
  refine lv_istore (lv' := [(6, .int (kLk1 ((X4_restore_f vF vC aC vS aS vH aH).1))), (5, .int (nI i)), (0, .ref b), (1, .ref oF), (2, .ref oM), (3, .ref oL), (4, .ref oD)]) hx hb dL_law_2319 hl (by decide) rfl (fun ls hl => ?_)
  refine lv_aload_n hx hb dL_law_2321 rfl (lv_at hl 4 rfl) ?_
  refine kM_V (As := []) (rest := []) (wr := [X4W g oF (kFr oC oS oH oR oT oB) vF, X0W g oC rC ((X4_restore_f vF vC aC vS aS vH aH).2.2.1) ((X4_restore_f vF vC aC vS aS vH aH).2.2.2.1), X0W g oS rS vS aS, X2W g oH rH ((X4_restore_f vF vC aC vS aS vH aH).2.2.2.2) oQ rQ aH, X3W g oR rR vR aR, X1W g oT rT vT aT, JOW oB q ml (nI k), JAW g q n f, OLW g oL h1, ODW g oD fD]) C (X5_restore_c l g oM rM vM aM) (cwV 0 hts (k_gV kw1838 ca_X5_restore) rfl rfl rfl ⟨rfl, pnX5_restore⟩ ⟨Nat.le_of_ble_eq_true rfl, Nat.le_of_ble_eq_true rfl⟩) hE hS hA hP hD [8] [0, 1, 2, 3, 4, 5, 6, 7, 9, 10] rfl rfl ⟨rfl, rfl, by decide⟩ (k_recv C kFX5 hP (i := 8) (q := 0) rfl rfl) rfl hl.1 rfl rfl dL_law_2322 ⟨by show _ ≤ 605484; omega, by show _ ≤ 7191588; omega⟩ (fun r u H locs hp hP hD hS => ?_)
  obtain ⟨hr, hu⟩ := hp
  subst hu
  subst hr
  have hP : kp g [X4W g oF (kFr oC oS oH oR oT oB) vF, X0W g oC rC ((X4_restore_f vF vC aC vS aS vH aH).2.2.1) ((X4_restore_f vF vC aC vS aS vH aH).2.2.2.1), X0W g oS rS vS aS, X2W g oH rH ((X4_restore_f vF vC aC vS aS vH aH).2.2.2.2) oQ rQ aH, X3W g oR rR vR aR, X1W g oT rT vT aT, JOW oB q ml (nI k), JAW g q n f, X5W g oM rM ((X5_restore_f vM aM).2.1) ((X5_restore_f vM aM).2.2), OLW g oL h1, ODW g oD fD] H := hP.pick [0, 1, 2, 3, 4, 5, 6, 7, 10, 8, 9] rfl
  have hD : kd (kAh s) [X4W g oF (kFr oC oS oH oR oT oB) vF, X0W g oC rC ((X4_restore_f vF vC aC vS aS vH aH).2.2.1) ((X4_restore_f vF vC aC vS aS vH aH).2.2.2.1), X0W g oS rS vS aS, X2W g oH rH ((X4_restore_f vF vC aC vS aS vH aH).2.2.2.2) oQ rQ aH, X3W g oR rR vR aR, X1W g oT rT vT aT, JOW oB q ml (nI k), JAW g q n f, X5W g oM rM ((X5_restore_f vM aM).2.1) ((X5_restore_f vM aM).2.2), OLW g oL h1, ODW g oD fD] := hD.pick [0, 1, 2, 3, 4, 5, 6, 7, 10, 8, 9] rfl rfl
  refine lv_istore (lv' := [(7, .int ((X5_restore_f vM aM).1)), (6, .int (kLk1 ((X4_restore_f vF vC aC vS aS vH aH).1))), (5, .int (nI i)), (0, .ref b), (1, .ref oF), (2, .ref oM), (3, .ref oL), (4, .ref oD)]) hx hb dL_law_2325 hl (by decide) rfl (fun ls hl => ?_)
  refine lv_aload_n hx hb dL_law_2327 rfl (lv_at hl 5 rfl) ?_
  refine kR_V (As := []) (rest := []) C (X5_thrown_c l g oM rM ((X5_restore_f vM aM).2.1) ((X5_restore_f vM aM).2.2)) (cwV 0 hts (k_gV kw1513 ca_X5_thrown) rfl rfl rfl ⟨rfl, pnX5_thrown⟩ ⟨Nat.le_of_ble_eq_true rfl, Nat.le_of_ble_eq_true rfl⟩) hE hS (hP.pick [8] rfl) (k_recv C kFX5 hP (i := 8) (q := 0) rfl rfl) rfl hl.1 rfl rfl dL_law_2328 ⟨by show _ ≤ 605484; omega, by show _ ≤ 7191588; omega⟩ ?_
  refine lv_iload hx hb dL_law_2331 (lv_at hl 1 rfl) ?_
  refine lv_icmp_eq (tgt := 2338) hx hb dL_law_2333 (by decide) (fun z => ?_) (fun z => absurd hs.1 z)
  have fin : W p l e room_1 s m #[Value.ref b] below meth c H locs (cells + 1 + 0) (slots + 6 + 0) (lw_Z below #[Value.ref b] s) (F0 m 2355 ls []) := by
    refine lv_goto (tgt := 2358) hx hb dL_law_2355 (by decide) ?_
    exact ih _ _ _ _ _ _ _ _ _ _ _ _ _ _ _ _ _ _ _ _ H locs ls _ _ hs.2.2 hT hP hD hS (lv_sub hl [2, 3, 4, 5, 6, 7] rfl) (by omega) (by omega)
  refine lv_iload hx hb dL_law_2338 (lv_at hl 1 rfl) ?_
  by_cases hc0 : kLk1 ((X4_restore_f vF vC aC vS aS vH aH).1) = 0
  rotate_left
  · refine lv_if_ne (tgt := 2355) hx hb dL_law_2340 (by decide) (fun z => fin) (fun z => absurd z hc0)
  refine lv_if_ne (tgt := 2355) hx hb dL_law_2340 (by decide) (fun z => absurd hc0 z) (fun z => ?_)
  have hc1 := kLk1_0 hc0
  refine lv_aload_n hx hb dL_law_2343 rfl (lv_at hl 6 rfl) ?_
  refine lv_iconst (v := 0) hx hb dL_law_2344 (by decide) ?_
  refine kg_lald C hP (i := 9) rfl dL_law_2345 ?_
  refine lv_iload hx hb dL_law_2346 (lv_at hl 0 rfl) ?_
  refine lv_i2l hx hb dL_law_2348 rfl ?_
  refine W.lcmp hx hb dL_law_2349 ?_
  rw [k_lcmp0 ((hv1 hc1).trans (congrArg Int32.toInt64 (hs.2.1 hc1).symm))]
  refine lv_if_eq (tgt := 2355) hx hb dL_law_2350 (by decide) (fun z => fin) (fun z => absurd rfl z)
