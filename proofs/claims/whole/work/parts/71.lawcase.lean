theorem kw378 : Cond.methodLink RL 143 yL_jar ∈ kW := k_w 3 32 rfl rfl
theorem kw666 : Cond.methodLink RL 152 yL_bag ∈ kW := k_w 4 80 rfl rfl
theorem kw673 : Cond.methodLink RL 156 yL_fill ∈ kW := k_w 4 87 rfl rfl
theorem kw680 : Cond.methodLink RL 160 yL_empty ∈ kW := k_w 4 94 rfl rfl
theorem kw687 : Cond.methodLink RL 163 yL_beat ∈ kW := k_w 4 101 rfl rfl
theorem kw694 : Cond.methodLink RL 166 yL_thumb ∈ kW := k_w 4 108 rfl rfl
theorem kw701 : Cond.methodLink RL 169 yL_weigh ∈ kW := k_w 4 115 rfl rfl
theorem kw708 : Cond.methodLink RL 172 yL_sell ∈ kW := k_w 4 122 rfl rfl
theorem kw1513 : Cond.methodLink RL 149 yX5_thrown ∈ kW := k_w 7 207 rfl rfl
theorem kw1517 : Cond.methodLink RL 148 yX5_jar ∈ kW := k_w 7 211 rfl rfl
theorem kw1544 : Cond.methodLink RL 155 yX5_bag ∈ kW := k_w 7 238 rfl rfl
theorem kw1552 : Cond.methodLink RL 159 yX5_fill ∈ kW := k_w 8 6 rfl rfl
theorem kw1576 : Cond.methodLink RL 162 yX5_empty ∈ kW := k_w 8 30 rfl rfl
theorem kw1588 : Cond.methodLink RL 165 yX5_beat ∈ kW := k_w 8 42 rfl rfl
theorem kw1596 : Cond.methodLink RL 168 yX5_thumb ∈ kW := k_w 8 50 rfl rfl
theorem kw1612 : Cond.methodLink RL 171 yX5_weigh ∈ kW := k_w 8 66 rfl rfl
theorem kw1640 : Cond.methodLink RL 174 yX5_sell ∈ kW := k_w 8 94 rfl rfl
set_option maxHeartbeats 4000000 in
theorem LC_jar (l : Launch) (hfl : l.stackTraces = false) {p : Program} {e : Env} {s : State} {m : MethodId} {below : List Frame} {meth : Method} {c : Code} {b L : Nat} {xs : Nat → Int32} {g : kG} (oF oC oS oH oR oT oB oM oL oD : Nat) (rC rS rH rR rT rM : Nat → Nat) (oQ : Nat → Nat) (rQ : Nat → Nat → Nat) (aR : Nat → Nat → Int32) {N i cells slots : Nat} (C : kC p c code s m #[Value.ref b] meth RL g 9 ret) (hE : kE g (kAh s) s s.heap) (hNc : kNc s) (hX : va_X b L xs s s.heap) (hbl : b < s.heap.size) (hL : L ≤ 2048) (hi : i + 4 ≤ L) (hN : N < 90000) (hcb : cells + 40 ≤ 605484) (hsb : slots + 2000 ≤ 7191588)
    (ih : kNext l p e s m below meth c b g oF oC oS oH oR oT oB oM oL oD rC rS rH rR rT rM oQ rQ aR i N cells slots) (vF : Nat → Int32) (vC : Nat → Int32) (aC : Nat → Nat → Int32) (vS : Nat → Int32) (aS : Nat → Nat → Int32) (vH : Nat → Int32) (aH : Nat → (Nat → Int32) × (Nat → Nat → Int32)) (vR : Nat → Int32) (vT : Nat → Int32) (aT : Nat → Nat → Int32) (q n : Nat) (ml : Int32) (f : Nat → Int32) (t : Nat → Nat) (k : Nat) (vM : Nat → Int32) (aM : Nat → Nat → Int32) (fL : Nat → Int64) (fD : Nat → UInt64) (H : Heap) (locs : List Loc) (ls : Array Slot) (hR : kRel N vF vC aC vS aS vH aH vR vT aT t k vM aM) (hT : ((n = 16 ∨ n = 34) ∧ k ≤ n ∧ sb_Fit f ∧ sb_Lat t k f)) (hP : kp g [X4W g oF (kFr oC oS oH oR oT oB) vF, X0W g oC rC vC aC, X0W g oS rS vS aS, X2W g oH rH vH oQ rQ aH, X3W g oR rR vR aR, X1W g oT rT vT aT, JOW oB q ml (nI k), JAW g q n f, X5W g oM rM vM aM, OLW g oL fL, ODW g oD fD] H) (hD : kd (kAh s) [X4W g oF (kFr oC oS oH oR oT oB) vF, X0W g oC rC vC aC, X0W g oS rS vS aS, X2W g oH rH vH oQ rQ aH, X3W g oR rR vR aR, X1W g oT rT vT aT, JOW oB q ml (nI k), JAW g q n f, X5W g oM rM vM aM, OLW g oL fL, ODW g oD fD]) (hS : va_S (kAh s) s.heap H locs) (hl : lv_has ls 9 (kLb i b oF oM oL oD)) :
    W p l e room_1 s m #[Value.ref b] below meth c H locs cells slots (lw_Z below #[Value.ref b] s) (F0 m 212 ls []) := by
  have hA : ∀ q, s.heap.size ≤ q → kAh s q := fun q h => h
  have hx := C.1.1
  have hb := C.1.2.1
  have hts := C.1.2.2.2.2
  obtain ⟨⟨nb, nj, hnb, hv7, hnj, hv4, hb5, hj5⟩, hM, hM5, hh, hu, hL1, hL9, hch, hl40, h87, hI⟩ := kRel_hyp (by omega) hR
  refine lv_aload_n hx hb dL_law_212 rfl (lv_at hl 2 rfl) ?_
  refine lv_aload_n hx hb dL_law_213 rfl (lv_at hl 1 rfl) ?_
  refine lv_iload hx hb dL_law_214 (lv_at hl 0 rfl) ?_
  refine lv_iconst (v := 1) hx hb dL_law_216 (by decide) ?_
  refine lv_iadd hx hb dL_law_217 ?_
  refine kg_script (j := 1) C hX hbl hS (by omega) hL dL_law_218 ?_
  refine lv_aload_n hx hb dL_law_219 rfl (lv_at hl 1 rfl) ?_
  refine lv_iload hx hb dL_law_220 (lv_at hl 0 rfl) ?_
  refine lv_iconst (v := 2) hx hb dL_law_222 (by decide) ?_
  refine lv_iadd hx hb dL_law_223 ?_
  refine kg_script (j := 2) C hX hbl hS (by omega) hL dL_law_224 ?_
  refine lv_aload_n hx hb dL_law_225 rfl (lv_at hl 4 rfl) ?_
  have hs := kS_jar (aR := aR) (by omega) hR (xs (i + 1)) (xs (i + 2))
  refine kL_S (As := [.ref oF, .int (xs (i + 1)), .int (xs (i + 2)), .ref oL]) (rest := []) (wr := [X0W g oS rS vS aS, X1W g oT rT vT aT, JOW oB q ml (nI k), JAW g q n f, X5W g oM rM vM aM, ODW g oD fD]) C (L_jar_c l g oF vF oS oT oB oC rC vC aC oH rH vH oQ rQ aH oR rR vR aR (xs (i + 1)) (xs (i + 2)) nb nj hnb hv7 hnj hv4 hM hh hfl oL fL kK_jar) hNc (vx_cwSW 4 hts (k_gS kw378 cs_L_jar) rfl rfl rfl pnL_jar ⟨Nat.le_of_ble_eq_true rfl, Nat.le_of_ble_eq_true rfl⟩) hE hS hA hP hD [0, 1, 3, 4, 9] [2, 5, 6, 7, 8, 10] rfl rfl ⟨rfl, rfl, by decide⟩ rfl hl.1 rfl rfl dL_law_226 ⟨by show _ ≤ 605484; omega, by show _ ≤ 7191588; omega⟩ (fun r u H locs hp hP hD hS => ?_)
  obtain ⟨hr, h1, hv1, hu1⟩ := hp
  subst hu1
  subst hr
  have hP : kp g [X4W g oF (kFr oC oS oH oR oT oB) vF, X0W g oC rC ((X4_jar_f vF vC aC vH aH vR aR (xs (i + 1)) (xs (i + 2))).2.2.1) ((X4_jar_f vF vC aC vH aH vR aR (xs (i + 1)) (xs (i + 2))).2.2.2.1), X0W g oS rS vS aS, X2W g oH rH ((X4_jar_f vF vC aC vH aH vR aR (xs (i + 1)) (xs (i + 2))).2.2.2.2.1) oQ rQ ((X4_jar_f vF vC aC vH aH vR aR (xs (i + 1)) (xs (i + 2))).2.2.2.2.2.1), X3W g oR rR ((X4_jar_f vF vC aC vH aH vR aR (xs (i + 1)) (xs (i + 2))).2.2.2.2.2.2) aR, X1W g oT rT vT aT, JOW oB q ml (nI k), JAW g q n f, X5W g oM rM vM aM, OLW g oL h1, ODW g oD fD] H := hP.pick [6, 7, 0, 8, 9, 1, 2, 3, 4, 10, 5] rfl
  have hD : kd (kAh s) [X4W g oF (kFr oC oS oH oR oT oB) vF, X0W g oC rC ((X4_jar_f vF vC aC vH aH vR aR (xs (i + 1)) (xs (i + 2))).2.2.1) ((X4_jar_f vF vC aC vH aH vR aR (xs (i + 1)) (xs (i + 2))).2.2.2.1), X0W g oS rS vS aS, X2W g oH rH ((X4_jar_f vF vC aC vH aH vR aR (xs (i + 1)) (xs (i + 2))).2.2.2.2.1) oQ rQ ((X4_jar_f vF vC aC vH aH vR aR (xs (i + 1)) (xs (i + 2))).2.2.2.2.2.1), X3W g oR rR ((X4_jar_f vF vC aC vH aH vR aR (xs (i + 1)) (xs (i + 2))).2.2.2.2.2.2) aR, X1W g oT rT vT aT, JOW oB q ml (nI k), JAW g q n f, X5W g oM rM vM aM, OLW g oL h1, ODW g oD fD] := hD.pick [6, 7, 0, 8, 9, 1, 2, 3, 4, 10, 5] rfl rfl
  refine lv_istore (lv' := [(6, .int (kLk1 ((X4_jar_f vF vC aC vH aH vR aR (xs (i + 1)) (xs (i + 2))).1))), (5, .int (nI i)), (0, .ref b), (1, .ref oF), (2, .ref oM), (3, .ref oL), (4, .ref oD)]) hx hb dL_law_229 hl (by decide) rfl (fun ls hl => ?_)
  refine lv_aload_n hx hb dL_law_231 rfl (lv_at hl 4 rfl) ?_
  refine lv_aload_n hx hb dL_law_232 rfl (lv_at hl 2 rfl) ?_
  refine lv_iload hx hb dL_law_233 (lv_at hl 1 rfl) ?_
  refine lv_iconst (v := 1) hx hb dL_law_235 (by decide) ?_
  refine lv_iadd hx hb dL_law_236 ?_
  refine kg_script (j := 1) C hX hbl hS (by omega) hL dL_law_237 ?_
  refine lv_aload_n hx hb dL_law_238 rfl (lv_at hl 2 rfl) ?_
  refine lv_iload hx hb dL_law_239 (lv_at hl 1 rfl) ?_
  refine lv_iconst (v := 2) hx hb dL_law_241 (by decide) ?_
  refine lv_iadd hx hb dL_law_242 ?_
  refine kg_script (j := 2) C hX hbl hS (by omega) hL dL_law_243 ?_
  refine kM_V (As := [.int (xs (i + 1)), .int (xs (i + 2))]) (rest := []) (wr := [X4W g oF (kFr oC oS oH oR oT oB) vF, X0W g oC rC ((X4_jar_f vF vC aC vH aH vR aR (xs (i + 1)) (xs (i + 2))).2.2.1) ((X4_jar_f vF vC aC vH aH vR aR (xs (i + 1)) (xs (i + 2))).2.2.2.1), X0W g oS rS vS aS, X2W g oH rH ((X4_jar_f vF vC aC vH aH vR aR (xs (i + 1)) (xs (i + 2))).2.2.2.2.1) oQ rQ ((X4_jar_f vF vC aC vH aH vR aR (xs (i + 1)) (xs (i + 2))).2.2.2.2.2.1), X3W g oR rR ((X4_jar_f vF vC aC vH aH vR aR (xs (i + 1)) (xs (i + 2))).2.2.2.2.2.2) aR, X1W g oT rT vT aT, JOW oB q ml (nI k), JAW g q n f, OLW g oL h1, ODW g oD fD]) C (X5_jar_c l g oM rM vM aM (xs (i + 1)) (xs (i + 2)) hu ⟨nj, hnj, hj5⟩) (cwV 2 hts (k_gV kw1517 ca_X5_jar) rfl rfl rfl ⟨rfl, pnX5_jar⟩ ⟨Nat.le_of_ble_eq_true rfl, Nat.le_of_ble_eq_true rfl⟩) hE hS hA hP hD [8] [0, 1, 2, 3, 4, 5, 6, 7, 9, 10] rfl rfl ⟨rfl, rfl, by decide⟩ (k_recv C kFX5 hP (i := 8) (q := 0) rfl rfl) rfl hl.1 rfl rfl dL_law_244 ⟨by show _ ≤ 605484; omega, by show _ ≤ 7191588; omega⟩ (fun r u H locs hp hP hD hS => ?_)
  obtain ⟨hr, hu⟩ := hp
  subst hu
  subst hr
  have hP : kp g [X4W g oF (kFr oC oS oH oR oT oB) vF, X0W g oC rC ((X4_jar_f vF vC aC vH aH vR aR (xs (i + 1)) (xs (i + 2))).2.2.1) ((X4_jar_f vF vC aC vH aH vR aR (xs (i + 1)) (xs (i + 2))).2.2.2.1), X0W g oS rS vS aS, X2W g oH rH ((X4_jar_f vF vC aC vH aH vR aR (xs (i + 1)) (xs (i + 2))).2.2.2.2.1) oQ rQ ((X4_jar_f vF vC aC vH aH vR aR (xs (i + 1)) (xs (i + 2))).2.2.2.2.2.1), X3W g oR rR ((X4_jar_f vF vC aC vH aH vR aR (xs (i + 1)) (xs (i + 2))).2.2.2.2.2.2) aR, X1W g oT rT vT aT, JOW oB q ml (nI k), JAW g q n f, X5W g oM rM ((X5_jar_f vM aM (xs (i + 1)) (xs (i + 2))).2.1) ((X5_jar_f vM aM (xs (i + 1)) (xs (i + 2))).2.2), OLW g oL h1, ODW g oD fD] H := hP.pick [0, 1, 2, 3, 4, 5, 6, 7, 10, 8, 9] rfl
  have hD : kd (kAh s) [X4W g oF (kFr oC oS oH oR oT oB) vF, X0W g oC rC ((X4_jar_f vF vC aC vH aH vR aR (xs (i + 1)) (xs (i + 2))).2.2.1) ((X4_jar_f vF vC aC vH aH vR aR (xs (i + 1)) (xs (i + 2))).2.2.2.1), X0W g oS rS vS aS, X2W g oH rH ((X4_jar_f vF vC aC vH aH vR aR (xs (i + 1)) (xs (i + 2))).2.2.2.2.1) oQ rQ ((X4_jar_f vF vC aC vH aH vR aR (xs (i + 1)) (xs (i + 2))).2.2.2.2.2.1), X3W g oR rR ((X4_jar_f vF vC aC vH aH vR aR (xs (i + 1)) (xs (i + 2))).2.2.2.2.2.2) aR, X1W g oT rT vT aT, JOW oB q ml (nI k), JAW g q n f, X5W g oM rM ((X5_jar_f vM aM (xs (i + 1)) (xs (i + 2))).2.1) ((X5_jar_f vM aM (xs (i + 1)) (xs (i + 2))).2.2), OLW g oL h1, ODW g oD fD] := hD.pick [0, 1, 2, 3, 4, 5, 6, 7, 10, 8, 9] rfl rfl
  refine lv_istore (lv' := [(7, .int ((X5_jar_f vM aM (xs (i + 1)) (xs (i + 2))).1)), (6, .int (kLk1 ((X4_jar_f vF vC aC vH aH vR aR (xs (i + 1)) (xs (i + 2))).1))), (5, .int (nI i)), (0, .ref b), (1, .ref oF), (2, .ref oM), (3, .ref oL), (4, .ref oD)]) hx hb dL_law_247 hl (by decide) rfl (fun ls hl => ?_)
  refine lv_aload_n hx hb dL_law_249 rfl (lv_at hl 5 rfl) ?_
  refine kR_V (As := []) (rest := []) C (X5_thrown_c l g oM rM ((X5_jar_f vM aM (xs (i + 1)) (xs (i + 2))).2.1) ((X5_jar_f vM aM (xs (i + 1)) (xs (i + 2))).2.2)) (cwV 0 hts (k_gV kw1513 ca_X5_thrown) rfl rfl rfl ⟨rfl, pnX5_thrown⟩ ⟨Nat.le_of_ble_eq_true rfl, Nat.le_of_ble_eq_true rfl⟩) hE hS (hP.pick [8] rfl) (k_recv C kFX5 hP (i := 8) (q := 0) rfl rfl) rfl hl.1 rfl rfl dL_law_250 ⟨by show _ ≤ 605484; omega, by show _ ≤ 7191588; omega⟩ ?_
  refine lv_iload hx hb dL_law_253 (lv_at hl 1 rfl) ?_
  refine lv_icmp_eq (tgt := 260) hx hb dL_law_255 (by decide) (fun z => ?_) (fun z => absurd hs.1 z)
  have fin : W p l e room_1 s m #[Value.ref b] below meth c H locs (cells + 1 + 0) (slots + 6 + 0) (lw_Z below #[Value.ref b] s) (F0 m 277 ls []) := by
    refine lv_goto (tgt := 2358) hx hb dL_law_277 (by decide) ?_
    exact ih _ _ _ _ _ _ _ _ _ _ _ _ _ _ _ _ _ _ _ _ H locs ls _ _ hs.2.2 hT hP hD hS (lv_sub hl [2, 3, 4, 5, 6, 7] rfl) (by omega) (by omega)
  refine lv_iload hx hb dL_law_260 (lv_at hl 1 rfl) ?_
  by_cases hc0 : kLk1 ((X4_jar_f vF vC aC vH aH vR aR (xs (i + 1)) (xs (i + 2))).1) = 0
  rotate_left
  · refine lv_if_ne (tgt := 277) hx hb dL_law_262 (by decide) (fun z => fin) (fun z => absurd z hc0)
  refine lv_if_ne (tgt := 277) hx hb dL_law_262 (by decide) (fun z => absurd hc0 z) (fun z => ?_)
  have hc1 := kLk1_0 hc0
  refine lv_aload_n hx hb dL_law_265 rfl (lv_at hl 6 rfl) ?_
  refine lv_iconst (v := 0) hx hb dL_law_266 (by decide) ?_
  refine kg_lald C hP (i := 9) rfl dL_law_267 ?_
  refine lv_iload hx hb dL_law_268 (lv_at hl 0 rfl) ?_
  refine lv_i2l hx hb dL_law_270 rfl ?_
  refine W.lcmp hx hb dL_law_271 ?_
  rw [k_lcmp0 ((hv1 hc1).trans (congrArg Int32.toInt64 (hs.2.1 hc1).symm))]
  refine lv_if_eq (tgt := 277) hx hb dL_law_272 (by decide) (fun z => fin) (fun z => absurd rfl z)
set_option maxHeartbeats 4000000 in
theorem LC_bag (l : Launch) (hfl : l.stackTraces = false) {p : Program} {e : Env} {s : State} {m : MethodId} {below : List Frame} {meth : Method} {c : Code} {b L : Nat} {xs : Nat → Int32} {g : kG} (oF oC oS oH oR oT oB oM oL oD : Nat) (rC rS rH rR rT rM : Nat → Nat) (oQ : Nat → Nat) (rQ : Nat → Nat → Nat) (aR : Nat → Nat → Int32) {N i cells slots : Nat} (C : kC p c code s m #[Value.ref b] meth RL g 9 ret) (hE : kE g (kAh s) s s.heap) (hNc : kNc s) (hX : va_X b L xs s s.heap) (hbl : b < s.heap.size) (hL : L ≤ 2048) (hi : i + 4 ≤ L) (hN : N < 90000) (hcb : cells + 40 ≤ 605484) (hsb : slots + 2000 ≤ 7191588)
    (ih : kNext l p e s m below meth c b g oF oC oS oH oR oT oB oM oL oD rC rS rH rR rT rM oQ rQ aR i N cells slots) (vF : Nat → Int32) (vC : Nat → Int32) (aC : Nat → Nat → Int32) (vS : Nat → Int32) (aS : Nat → Nat → Int32) (vH : Nat → Int32) (aH : Nat → (Nat → Int32) × (Nat → Nat → Int32)) (vR : Nat → Int32) (vT : Nat → Int32) (aT : Nat → Nat → Int32) (q n : Nat) (ml : Int32) (f : Nat → Int32) (t : Nat → Nat) (k : Nat) (vM : Nat → Int32) (aM : Nat → Nat → Int32) (fL : Nat → Int64) (fD : Nat → UInt64) (H : Heap) (locs : List Loc) (ls : Array Slot) (hR : kRel N vF vC aC vS aS vH aH vR vT aT t k vM aM) (hT : ((n = 16 ∨ n = 34) ∧ k ≤ n ∧ sb_Fit f ∧ sb_Lat t k f)) (hP : kp g [X4W g oF (kFr oC oS oH oR oT oB) vF, X0W g oC rC vC aC, X0W g oS rS vS aS, X2W g oH rH vH oQ rQ aH, X3W g oR rR vR aR, X1W g oT rT vT aT, JOW oB q ml (nI k), JAW g q n f, X5W g oM rM vM aM, OLW g oL fL, ODW g oD fD] H) (hD : kd (kAh s) [X4W g oF (kFr oC oS oH oR oT oB) vF, X0W g oC rC vC aC, X0W g oS rS vS aS, X2W g oH rH vH oQ rQ aH, X3W g oR rR vR aR, X1W g oT rT vT aT, JOW oB q ml (nI k), JAW g q n f, X5W g oM rM vM aM, OLW g oL fL, ODW g oD fD]) (hS : va_S (kAh s) s.heap H locs) (hl : lv_has ls 9 (kLb i b oF oM oL oD)) :
    W p l e room_1 s m #[Value.ref b] below meth c H locs cells slots (lw_Z below #[Value.ref b] s) (F0 m 280 ls []) := by
  have hA : ∀ q, s.heap.size ≤ q → kAh s q := fun q h => h
  have hx := C.1.1
  have hb := C.1.2.1
  have hts := C.1.2.2.2.2
  obtain ⟨⟨nb, nj, hnb, hv7, hnj, hv4, hb5, hj5⟩, hM, hM5, hh, hu, hL1, hL9, hch, hl40, h87, hI⟩ := kRel_hyp (by omega) hR
  refine lv_aload_n hx hb dL_law_280 rfl (lv_at hl 2 rfl) ?_
  refine lv_aload_n hx hb dL_law_281 rfl (lv_at hl 1 rfl) ?_
  refine lv_iload hx hb dL_law_282 (lv_at hl 0 rfl) ?_
  refine lv_iconst (v := 1) hx hb dL_law_284 (by decide) ?_
  refine lv_iadd hx hb dL_law_285 ?_
  refine kg_script (j := 1) C hX hbl hS (by omega) hL dL_law_286 ?_
  refine lv_aload_n hx hb dL_law_287 rfl (lv_at hl 4 rfl) ?_
  have hs := kS_bag (aR := aR) (by omega) hR (xs (i + 1))
  refine kL_S (As := [.ref oF, .int (xs (i + 1)), .ref oL]) (rest := []) (wr := [X0W g oS rS vS aS, X1W g oT rT vT aT, JOW oB q ml (nI k), JAW g q n f, X5W g oM rM vM aM, ODW g oD fD]) C (L_bag_c l g oF vF oS oT oB oC rC vC aC oH rH vH oQ rQ aH oR rR vR aR (xs (i + 1)) nb nj hnb hv7 hnj hv4 hM hh hfl oL fL kK_bag) hNc (vx_cwSW 3 hts (k_gS kw666 cs_L_bag) rfl rfl rfl pnL_bag ⟨Nat.le_of_ble_eq_true rfl, Nat.le_of_ble_eq_true rfl⟩) hE hS hA hP hD [0, 1, 3, 4, 9] [2, 5, 6, 7, 8, 10] rfl rfl ⟨rfl, rfl, by decide⟩ rfl hl.1 rfl rfl dL_law_288 ⟨by show _ ≤ 605484; omega, by show _ ≤ 7191588; omega⟩ (fun r u H locs hp hP hD hS => ?_)
  obtain ⟨hr, h1, hv1, hu1⟩ := hp
  subst hu1
  subst hr
  have hP : kp g [X4W g oF (kFr oC oS oH oR oT oB) vF, X0W g oC rC ((X4_bag_f vF vC aC vH aH vR aR (xs (i + 1))).2.2.1) ((X4_bag_f vF vC aC vH aH vR aR (xs (i + 1))).2.2.2.1), X0W g oS rS vS aS, X2W g oH rH ((X4_bag_f vF vC aC vH aH vR aR (xs (i + 1))).2.2.2.2.1) oQ rQ ((X4_bag_f vF vC aC vH aH vR aR (xs (i + 1))).2.2.2.2.2.1), X3W g oR rR ((X4_bag_f vF vC aC vH aH vR aR (xs (i + 1))).2.2.2.2.2.2) aR, X1W g oT rT vT aT, JOW oB q ml (nI k), JAW g q n f, X5W g oM rM vM aM, OLW g oL h1, ODW g oD fD] H := hP.pick [6, 7, 0, 8, 9, 1, 2, 3, 4, 10, 5] rfl
  have hD : kd (kAh s) [X4W g oF (kFr oC oS oH oR oT oB) vF, X0W g oC rC ((X4_bag_f vF vC aC vH aH vR aR (xs (i + 1))).2.2.1) ((X4_bag_f vF vC aC vH aH vR aR (xs (i + 1))).2.2.2.1), X0W g oS rS vS aS, X2W g oH rH ((X4_bag_f vF vC aC vH aH vR aR (xs (i + 1))).2.2.2.2.1) oQ rQ ((X4_bag_f vF vC aC vH aH vR aR (xs (i + 1))).2.2.2.2.2.1), X3W g oR rR ((X4_bag_f vF vC aC vH aH vR aR (xs (i + 1))).2.2.2.2.2.2) aR, X1W g oT rT vT aT, JOW oB q ml (nI k), JAW g q n f, X5W g oM rM vM aM, OLW g oL h1, ODW g oD fD] := hD.pick [6, 7, 0, 8, 9, 1, 2, 3, 4, 10, 5] rfl rfl
  refine lv_istore (lv' := [(6, .int (kLk1 ((X4_bag_f vF vC aC vH aH vR aR (xs (i + 1))).1))), (5, .int (nI i)), (0, .ref b), (1, .ref oF), (2, .ref oM), (3, .ref oL), (4, .ref oD)]) hx hb dL_law_291 hl (by decide) rfl (fun ls hl => ?_)
  refine lv_aload_n hx hb dL_law_293 rfl (lv_at hl 4 rfl) ?_
  refine lv_aload_n hx hb dL_law_294 rfl (lv_at hl 2 rfl) ?_
  refine lv_iload hx hb dL_law_295 (lv_at hl 1 rfl) ?_
  refine lv_iconst (v := 1) hx hb dL_law_297 (by decide) ?_
  refine lv_iadd hx hb dL_law_298 ?_
  refine kg_script (j := 1) C hX hbl hS (by omega) hL dL_law_299 ?_
  refine kM_V (As := [.int (xs (i + 1))]) (rest := []) (wr := [X4W g oF (kFr oC oS oH oR oT oB) vF, X0W g oC rC ((X4_bag_f vF vC aC vH aH vR aR (xs (i + 1))).2.2.1) ((X4_bag_f vF vC aC vH aH vR aR (xs (i + 1))).2.2.2.1), X0W g oS rS vS aS, X2W g oH rH ((X4_bag_f vF vC aC vH aH vR aR (xs (i + 1))).2.2.2.2.1) oQ rQ ((X4_bag_f vF vC aC vH aH vR aR (xs (i + 1))).2.2.2.2.2.1), X3W g oR rR ((X4_bag_f vF vC aC vH aH vR aR (xs (i + 1))).2.2.2.2.2.2) aR, X1W g oT rT vT aT, JOW oB q ml (nI k), JAW g q n f, OLW g oL h1, ODW g oD fD]) C (X5_bag_c l g oM rM vM aM (xs (i + 1)) hu ⟨nb, hnb, hb5⟩) (cwV 1 hts (k_gV kw1544 ca_X5_bag) rfl rfl rfl ⟨rfl, pnX5_bag⟩ ⟨Nat.le_of_ble_eq_true rfl, Nat.le_of_ble_eq_true rfl⟩) hE hS hA hP hD [8] [0, 1, 2, 3, 4, 5, 6, 7, 9, 10] rfl rfl ⟨rfl, rfl, by decide⟩ (k_recv C kFX5 hP (i := 8) (q := 0) rfl rfl) rfl hl.1 rfl rfl dL_law_300 ⟨by show _ ≤ 605484; omega, by show _ ≤ 7191588; omega⟩ (fun r u H locs hp hP hD hS => ?_)
  obtain ⟨hr, hu⟩ := hp
  subst hu
  subst hr
  have hP : kp g [X4W g oF (kFr oC oS oH oR oT oB) vF, X0W g oC rC ((X4_bag_f vF vC aC vH aH vR aR (xs (i + 1))).2.2.1) ((X4_bag_f vF vC aC vH aH vR aR (xs (i + 1))).2.2.2.1), X0W g oS rS vS aS, X2W g oH rH ((X4_bag_f vF vC aC vH aH vR aR (xs (i + 1))).2.2.2.2.1) oQ rQ ((X4_bag_f vF vC aC vH aH vR aR (xs (i + 1))).2.2.2.2.2.1), X3W g oR rR ((X4_bag_f vF vC aC vH aH vR aR (xs (i + 1))).2.2.2.2.2.2) aR, X1W g oT rT vT aT, JOW oB q ml (nI k), JAW g q n f, X5W g oM rM ((X5_bag_f vM aM (xs (i + 1))).2.1) ((X5_bag_f vM aM (xs (i + 1))).2.2), OLW g oL h1, ODW g oD fD] H := hP.pick [0, 1, 2, 3, 4, 5, 6, 7, 10, 8, 9] rfl
  have hD : kd (kAh s) [X4W g oF (kFr oC oS oH oR oT oB) vF, X0W g oC rC ((X4_bag_f vF vC aC vH aH vR aR (xs (i + 1))).2.2.1) ((X4_bag_f vF vC aC vH aH vR aR (xs (i + 1))).2.2.2.1), X0W g oS rS vS aS, X2W g oH rH ((X4_bag_f vF vC aC vH aH vR aR (xs (i + 1))).2.2.2.2.1) oQ rQ ((X4_bag_f vF vC aC vH aH vR aR (xs (i + 1))).2.2.2.2.2.1), X3W g oR rR ((X4_bag_f vF vC aC vH aH vR aR (xs (i + 1))).2.2.2.2.2.2) aR, X1W g oT rT vT aT, JOW oB q ml (nI k), JAW g q n f, X5W g oM rM ((X5_bag_f vM aM (xs (i + 1))).2.1) ((X5_bag_f vM aM (xs (i + 1))).2.2), OLW g oL h1, ODW g oD fD] := hD.pick [0, 1, 2, 3, 4, 5, 6, 7, 10, 8, 9] rfl rfl
  refine lv_istore (lv' := [(7, .int ((X5_bag_f vM aM (xs (i + 1))).1)), (6, .int (kLk1 ((X4_bag_f vF vC aC vH aH vR aR (xs (i + 1))).1))), (5, .int (nI i)), (0, .ref b), (1, .ref oF), (2, .ref oM), (3, .ref oL), (4, .ref oD)]) hx hb dL_law_303 hl (by decide) rfl (fun ls hl => ?_)
  refine lv_aload_n hx hb dL_law_305 rfl (lv_at hl 5 rfl) ?_
  refine kR_V (As := []) (rest := []) C (X5_thrown_c l g oM rM ((X5_bag_f vM aM (xs (i + 1))).2.1) ((X5_bag_f vM aM (xs (i + 1))).2.2)) (cwV 0 hts (k_gV kw1513 ca_X5_thrown) rfl rfl rfl ⟨rfl, pnX5_thrown⟩ ⟨Nat.le_of_ble_eq_true rfl, Nat.le_of_ble_eq_true rfl⟩) hE hS (hP.pick [8] rfl) (k_recv C kFX5 hP (i := 8) (q := 0) rfl rfl) rfl hl.1 rfl rfl dL_law_306 ⟨by show _ ≤ 605484; omega, by show _ ≤ 7191588; omega⟩ ?_
  refine lv_iload hx hb dL_law_309 (lv_at hl 1 rfl) ?_
  refine lv_icmp_eq (tgt := 316) hx hb dL_law_311 (by decide) (fun z => ?_) (fun z => absurd hs.1 z)
  have fin : W p l e room_1 s m #[Value.ref b] below meth c H locs (cells + 1 + 0) (slots + 6 + 0) (lw_Z below #[Value.ref b] s) (F0 m 333 ls []) := by
    refine lv_goto (tgt := 2358) hx hb dL_law_333 (by decide) ?_
    exact ih _ _ _ _ _ _ _ _ _ _ _ _ _ _ _ _ _ _ _ _ H locs ls _ _ hs.2.2 hT hP hD hS (lv_sub hl [2, 3, 4, 5, 6, 7] rfl) (by omega) (by omega)
  refine lv_iload hx hb dL_law_316 (lv_at hl 1 rfl) ?_
  by_cases hc0 : kLk1 ((X4_bag_f vF vC aC vH aH vR aR (xs (i + 1))).1) = 0
  rotate_left
  · refine lv_if_ne (tgt := 333) hx hb dL_law_318 (by decide) (fun z => fin) (fun z => absurd z hc0)
  refine lv_if_ne (tgt := 333) hx hb dL_law_318 (by decide) (fun z => absurd hc0 z) (fun z => ?_)
  have hc1 := kLk1_0 hc0
  refine lv_aload_n hx hb dL_law_321 rfl (lv_at hl 6 rfl) ?_
  refine lv_iconst (v := 0) hx hb dL_law_322 (by decide) ?_
  refine kg_lald C hP (i := 9) rfl dL_law_323 ?_
  refine lv_iload hx hb dL_law_324 (lv_at hl 0 rfl) ?_
  refine lv_i2l hx hb dL_law_326 rfl ?_
  refine W.lcmp hx hb dL_law_327 ?_
  rw [k_lcmp0 ((hv1 hc1).trans (congrArg Int32.toInt64 (hs.2.1 hc1).symm))]
  refine lv_if_eq (tgt := 333) hx hb dL_law_328 (by decide) (fun z => fin) (fun z => absurd rfl z)
set_option maxHeartbeats 4000000 in
theorem LC_fill (l : Launch) (hfl : l.stackTraces = false) {p : Program} {e : Env} {s : State} {m : MethodId} {below : List Frame} {meth : Method} {c : Code} {b L : Nat} {xs : Nat → Int32} {g : kG} (oF oC oS oH oR oT oB oM oL oD : Nat) (rC rS rH rR rT rM : Nat → Nat) (oQ : Nat → Nat) (rQ : Nat → Nat → Nat) (aR : Nat → Nat → Int32) {N i cells slots : Nat} (C : kC p c code s m #[Value.ref b] meth RL g 9 ret) (hE : kE g (kAh s) s s.heap) (hNc : kNc s) (hX : va_X b L xs s s.heap) (hbl : b < s.heap.size) (hL : L ≤ 2048) (hi : i + 4 ≤ L) (hN : N < 90000) (hcb : cells + 40 ≤ 605484) (hsb : slots + 2000 ≤ 7191588)
    (ih : kNext l p e s m below meth c b g oF oC oS oH oR oT oB oM oL oD rC rS rH rR rT rM oQ rQ aR i N cells slots) (vF : Nat → Int32) (vC : Nat → Int32) (aC : Nat → Nat → Int32) (vS : Nat → Int32) (aS : Nat → Nat → Int32) (vH : Nat → Int32) (aH : Nat → (Nat → Int32) × (Nat → Nat → Int32)) (vR : Nat → Int32) (vT : Nat → Int32) (aT : Nat → Nat → Int32) (q n : Nat) (ml : Int32) (f : Nat → Int32) (t : Nat → Nat) (k : Nat) (vM : Nat → Int32) (aM : Nat → Nat → Int32) (fL : Nat → Int64) (fD : Nat → UInt64) (H : Heap) (locs : List Loc) (ls : Array Slot) (hR : kRel N vF vC aC vS aS vH aH vR vT aT t k vM aM) (hT : ((n = 16 ∨ n = 34) ∧ k ≤ n ∧ sb_Fit f ∧ sb_Lat t k f)) (hP : kp g [X4W g oF (kFr oC oS oH oR oT oB) vF, X0W g oC rC vC aC, X0W g oS rS vS aS, X2W g oH rH vH oQ rQ aH, X3W g oR rR vR aR, X1W g oT rT vT aT, JOW oB q ml (nI k), JAW g q n f, X5W g oM rM vM aM, OLW g oL fL, ODW g oD fD] H) (hD : kd (kAh s) [X4W g oF (kFr oC oS oH oR oT oB) vF, X0W g oC rC vC aC, X0W g oS rS vS aS, X2W g oH rH vH oQ rQ aH, X3W g oR rR vR aR, X1W g oT rT vT aT, JOW oB q ml (nI k), JAW g q n f, X5W g oM rM vM aM, OLW g oL fL, ODW g oD fD]) (hS : va_S (kAh s) s.heap H locs) (hl : lv_has ls 9 (kLb i b oF oM oL oD)) :
    W p l e room_1 s m #[Value.ref b] below meth c H locs cells slots (lw_Z below #[Value.ref b] s) (F0 m 336 ls []) := by
  have hA : ∀ q, s.heap.size ≤ q → kAh s q := fun q h => h
  have hx := C.1.1
  have hb := C.1.2.1
  have hts := C.1.2.2.2.2
  obtain ⟨⟨nb, nj, hnb, hv7, hnj, hv4, hb5, hj5⟩, hM, hM5, hh, hu, hL1, hL9, hch, hl40, h87, hI⟩ := kRel_hyp (by omega) hR
  refine lv_aload_n hx hb dL_law_336 rfl (lv_at hl 2 rfl) ?_
  refine lv_aload_n hx hb dL_law_337 rfl (lv_at hl 1 rfl) ?_
  refine lv_iload hx hb dL_law_338 (lv_at hl 0 rfl) ?_
  refine lv_iconst (v := 1) hx hb dL_law_340 (by decide) ?_
  refine lv_iadd hx hb dL_law_341 ?_
  refine kg_script (j := 1) C hX hbl hS (by omega) hL dL_law_342 ?_
  refine lv_aload_n hx hb dL_law_343 rfl (lv_at hl 1 rfl) ?_
  refine lv_iload hx hb dL_law_344 (lv_at hl 0 rfl) ?_
  refine lv_iconst (v := 2) hx hb dL_law_346 (by decide) ?_
  refine lv_iadd hx hb dL_law_347 ?_
  refine kg_script (j := 2) C hX hbl hS (by omega) hL dL_law_348 ?_
  refine lv_aload_n hx hb dL_law_349 rfl (lv_at hl 1 rfl) ?_
  refine lv_iload hx hb dL_law_350 (lv_at hl 0 rfl) ?_
  refine lv_iconst (v := 3) hx hb dL_law_352 (by decide) ?_
  refine lv_iadd hx hb dL_law_353 ?_
  refine kg_script (j := 3) C hX hbl hS (by omega) hL dL_law_354 ?_
  refine lv_aload_n hx hb dL_law_355 rfl (lv_at hl 4 rfl) ?_
  have hs := kS_fill (aR := aR) (by omega) hR (xs (i + 1)) (xs (i + 2)) (xs (i + 3))
  refine kL_S (As := [.ref oF, .int (xs (i + 1)), .int (xs (i + 2)), .int (xs (i + 3)), .ref oL]) (rest := []) (wr := [X0W g oS rS vS aS, X1W g oT rT vT aT, JOW oB q ml (nI k), JAW g q n f, X5W g oM rM vM aM, ODW g oD fD]) C (L_fill_c l g oF vF oS oT oB oC rC vC aC oH rH vH oQ rQ aH oR rR vR aR (xs (i + 1)) (xs (i + 2)) (xs (i + 3)) nb nj hnb hv7 hnj hv4 hM hh hfl oL fL kK_fill) hNc (vx_cwSW 5 hts (k_gS kw673 cs_L_fill) rfl rfl rfl pnL_fill ⟨Nat.le_of_ble_eq_true rfl, Nat.le_of_ble_eq_true rfl⟩) hE hS hA hP hD [0, 1, 3, 4, 9] [2, 5, 6, 7, 8, 10] rfl rfl ⟨rfl, rfl, by decide⟩ rfl hl.1 rfl rfl dL_law_356 ⟨by show _ ≤ 605484; omega, by show _ ≤ 7191588; omega⟩ (fun r u H locs hp hP hD hS => ?_)
  obtain ⟨hr, h1, hv1, hu1⟩ := hp
  subst hu1
  subst hr
  have hP : kp g [X4W g oF (kFr oC oS oH oR oT oB) vF, X0W g oC rC ((X4_fill_f vF vC aC vH aH vR aR (xs (i + 1)) (xs (i + 2)) (xs (i + 3))).2.2.1) ((X4_fill_f vF vC aC vH aH vR aR (xs (i + 1)) (xs (i + 2)) (xs (i + 3))).2.2.2.1), X0W g oS rS vS aS, X2W g oH rH ((X4_fill_f vF vC aC vH aH vR aR (xs (i + 1)) (xs (i + 2)) (xs (i + 3))).2.2.2.2.1) oQ rQ ((X4_fill_f vF vC aC vH aH vR aR (xs (i + 1)) (xs (i + 2)) (xs (i + 3))).2.2.2.2.2.1), X3W g oR rR ((X4_fill_f vF vC aC vH aH vR aR (xs (i + 1)) (xs (i + 2)) (xs (i + 3))).2.2.2.2.2.2) aR, X1W g oT rT vT aT, JOW oB q ml (nI k), JAW g q n f, X5W g oM rM vM aM, OLW g oL h1, ODW g oD fD] H := hP.pick [6, 7, 0, 8, 9, 1, 2, 3, 4, 10, 5] rfl
  have hD : kd (kAh s) [X4W g oF (kFr oC oS oH oR oT oB) vF, X0W g oC rC ((X4_fill_f vF vC aC vH aH vR aR (xs (i + 1)) (xs (i + 2)) (xs (i + 3))).2.2.1) ((X4_fill_f vF vC aC vH aH vR aR (xs (i + 1)) (xs (i + 2)) (xs (i + 3))).2.2.2.1), X0W g oS rS vS aS, X2W g oH rH ((X4_fill_f vF vC aC vH aH vR aR (xs (i + 1)) (xs (i + 2)) (xs (i + 3))).2.2.2.2.1) oQ rQ ((X4_fill_f vF vC aC vH aH vR aR (xs (i + 1)) (xs (i + 2)) (xs (i + 3))).2.2.2.2.2.1), X3W g oR rR ((X4_fill_f vF vC aC vH aH vR aR (xs (i + 1)) (xs (i + 2)) (xs (i + 3))).2.2.2.2.2.2) aR, X1W g oT rT vT aT, JOW oB q ml (nI k), JAW g q n f, X5W g oM rM vM aM, OLW g oL h1, ODW g oD fD] := hD.pick [6, 7, 0, 8, 9, 1, 2, 3, 4, 10, 5] rfl rfl
  refine lv_istore (lv' := [(6, .int (kLk1 ((X4_fill_f vF vC aC vH aH vR aR (xs (i + 1)) (xs (i + 2)) (xs (i + 3))).1))), (5, .int (nI i)), (0, .ref b), (1, .ref oF), (2, .ref oM), (3, .ref oL), (4, .ref oD)]) hx hb dL_law_359 hl (by decide) rfl (fun ls hl => ?_)
  refine lv_aload_n hx hb dL_law_361 rfl (lv_at hl 4 rfl) ?_
  refine lv_aload_n hx hb dL_law_362 rfl (lv_at hl 2 rfl) ?_
  refine lv_iload hx hb dL_law_363 (lv_at hl 1 rfl) ?_
  refine lv_iconst (v := 1) hx hb dL_law_365 (by decide) ?_
  refine lv_iadd hx hb dL_law_366 ?_
  refine kg_script (j := 1) C hX hbl hS (by omega) hL dL_law_367 ?_
  refine lv_aload_n hx hb dL_law_368 rfl (lv_at hl 2 rfl) ?_
  refine lv_iload hx hb dL_law_369 (lv_at hl 1 rfl) ?_
  refine lv_iconst (v := 2) hx hb dL_law_371 (by decide) ?_
  refine lv_iadd hx hb dL_law_372 ?_
  refine kg_script (j := 2) C hX hbl hS (by omega) hL dL_law_373 ?_
  refine lv_aload_n hx hb dL_law_374 rfl (lv_at hl 2 rfl) ?_
  refine lv_iload hx hb dL_law_375 (lv_at hl 1 rfl) ?_
  refine lv_iconst (v := 3) hx hb dL_law_377 (by decide) ?_
  refine lv_iadd hx hb dL_law_378 ?_
  refine kg_script (j := 3) C hX hbl hS (by omega) hL dL_law_379 ?_
  refine kM_V (As := [.int (xs (i + 1)), .int (xs (i + 2)), .int (xs (i + 3))]) (rest := []) (wr := [X4W g oF (kFr oC oS oH oR oT oB) vF, X0W g oC rC ((X4_fill_f vF vC aC vH aH vR aR (xs (i + 1)) (xs (i + 2)) (xs (i + 3))).2.2.1) ((X4_fill_f vF vC aC vH aH vR aR (xs (i + 1)) (xs (i + 2)) (xs (i + 3))).2.2.2.1), X0W g oS rS vS aS, X2W g oH rH ((X4_fill_f vF vC aC vH aH vR aR (xs (i + 1)) (xs (i + 2)) (xs (i + 3))).2.2.2.2.1) oQ rQ ((X4_fill_f vF vC aC vH aH vR aR (xs (i + 1)) (xs (i + 2)) (xs (i + 3))).2.2.2.2.2.1), X3W g oR rR ((X4_fill_f vF vC aC vH aH vR aR (xs (i + 1)) (xs (i + 2)) (xs (i + 3))).2.2.2.2.2.2) aR, X1W g oT rT vT aT, JOW oB q ml (nI k), JAW g q n f, OLW g oL h1, ODW g oD fD]) C (X5_fill_c l g oM rM vM aM (xs (i + 1)) (xs (i + 2)) (xs (i + 3)) hu ⟨nb, hnb, hb5⟩ ⟨nj, hnj, hj5⟩) (cwV 3 hts (k_gV kw1552 ca_X5_fill) rfl rfl rfl ⟨rfl, pnX5_fill⟩ ⟨Nat.le_of_ble_eq_true rfl, Nat.le_of_ble_eq_true rfl⟩) hE hS hA hP hD [8] [0, 1, 2, 3, 4, 5, 6, 7, 9, 10] rfl rfl ⟨rfl, rfl, by decide⟩ (k_recv C kFX5 hP (i := 8) (q := 0) rfl rfl) rfl hl.1 rfl rfl dL_law_380 ⟨by show _ ≤ 605484; omega, by show _ ≤ 7191588; omega⟩ (fun r u H locs hp hP hD hS => ?_)
  obtain ⟨hr, hu⟩ := hp
  subst hu
  subst hr
  have hP : kp g [X4W g oF (kFr oC oS oH oR oT oB) vF, X0W g oC rC ((X4_fill_f vF vC aC vH aH vR aR (xs (i + 1)) (xs (i + 2)) (xs (i + 3))).2.2.1) ((X4_fill_f vF vC aC vH aH vR aR (xs (i + 1)) (xs (i + 2)) (xs (i + 3))).2.2.2.1), X0W g oS rS vS aS, X2W g oH rH ((X4_fill_f vF vC aC vH aH vR aR (xs (i + 1)) (xs (i + 2)) (xs (i + 3))).2.2.2.2.1) oQ rQ ((X4_fill_f vF vC aC vH aH vR aR (xs (i + 1)) (xs (i + 2)) (xs (i + 3))).2.2.2.2.2.1), X3W g oR rR ((X4_fill_f vF vC aC vH aH vR aR (xs (i + 1)) (xs (i + 2)) (xs (i + 3))).2.2.2.2.2.2) aR, X1W g oT rT vT aT, JOW oB q ml (nI k), JAW g q n f, X5W g oM rM ((X5_fill_f vM aM (xs (i + 1)) (xs (i + 2)) (xs (i + 3))).2.1) ((X5_fill_f vM aM (xs (i + 1)) (xs (i + 2)) (xs (i + 3))).2.2), OLW g oL h1, ODW g oD fD] H := hP.pick [0, 1, 2, 3, 4, 5, 6, 7, 10, 8, 9] rfl
  have hD : kd (kAh s) [X4W g oF (kFr oC oS oH oR oT oB) vF, X0W g oC rC ((X4_fill_f vF vC aC vH aH vR aR (xs (i + 1)) (xs (i + 2)) (xs (i + 3))).2.2.1) ((X4_fill_f vF vC aC vH aH vR aR (xs (i + 1)) (xs (i + 2)) (xs (i + 3))).2.2.2.1), X0W g oS rS vS aS, X2W g oH rH ((X4_fill_f vF vC aC vH aH vR aR (xs (i + 1)) (xs (i + 2)) (xs (i + 3))).2.2.2.2.1) oQ rQ ((X4_fill_f vF vC aC vH aH vR aR (xs (i + 1)) (xs (i + 2)) (xs (i + 3))).2.2.2.2.2.1), X3W g oR rR ((X4_fill_f vF vC aC vH aH vR aR (xs (i + 1)) (xs (i + 2)) (xs (i + 3))).2.2.2.2.2.2) aR, X1W g oT rT vT aT, JOW oB q ml (nI k), JAW g q n f, X5W g oM rM ((X5_fill_f vM aM (xs (i + 1)) (xs (i + 2)) (xs (i + 3))).2.1) ((X5_fill_f vM aM (xs (i + 1)) (xs (i + 2)) (xs (i + 3))).2.2), OLW g oL h1, ODW g oD fD] := hD.pick [0, 1, 2, 3, 4, 5, 6, 7, 10, 8, 9] rfl rfl
  refine lv_istore (lv' := [(7, .int ((X5_fill_f vM aM (xs (i + 1)) (xs (i + 2)) (xs (i + 3))).1)), (6, .int (kLk1 ((X4_fill_f vF vC aC vH aH vR aR (xs (i + 1)) (xs (i + 2)) (xs (i + 3))).1))), (5, .int (nI i)), (0, .ref b), (1, .ref oF), (2, .ref oM), (3, .ref oL), (4, .ref oD)]) hx hb dL_law_383 hl (by decide) rfl (fun ls hl => ?_)
  refine lv_aload_n hx hb dL_law_385 rfl (lv_at hl 5 rfl) ?_
  refine kR_V (As := []) (rest := []) C (X5_thrown_c l g oM rM ((X5_fill_f vM aM (xs (i + 1)) (xs (i + 2)) (xs (i + 3))).2.1) ((X5_fill_f vM aM (xs (i + 1)) (xs (i + 2)) (xs (i + 3))).2.2)) (cwV 0 hts (k_gV kw1513 ca_X5_thrown) rfl rfl rfl ⟨rfl, pnX5_thrown⟩ ⟨Nat.le_of_ble_eq_true rfl, Nat.le_of_ble_eq_true rfl⟩) hE hS (hP.pick [8] rfl) (k_recv C kFX5 hP (i := 8) (q := 0) rfl rfl) rfl hl.1 rfl rfl dL_law_386 ⟨by show _ ≤ 605484; omega, by show _ ≤ 7191588; omega⟩ ?_
  refine lv_iload hx hb dL_law_389 (lv_at hl 1 rfl) ?_
  refine lv_icmp_eq (tgt := 396) hx hb dL_law_391 (by decide) (fun z => ?_) (fun z => absurd hs.1 z)
  have fin : W p l e room_1 s m #[Value.ref b] below meth c H locs (cells + 1 + 0) (slots + 6 + 0) (lw_Z below #[Value.ref b] s) (F0 m 413 ls []) := by
    refine lv_goto (tgt := 2358) hx hb dL_law_413 (by decide) ?_
    exact ih _ _ _ _ _ _ _ _ _ _ _ _ _ _ _ _ _ _ _ _ H locs ls _ _ hs.2.2 hT hP hD hS (lv_sub hl [2, 3, 4, 5, 6, 7] rfl) (by omega) (by omega)
  refine lv_iload hx hb dL_law_396 (lv_at hl 1 rfl) ?_
  by_cases hc0 : kLk1 ((X4_fill_f vF vC aC vH aH vR aR (xs (i + 1)) (xs (i + 2)) (xs (i + 3))).1) = 0
  rotate_left
  · refine lv_if_ne (tgt := 413) hx hb dL_law_398 (by decide) (fun z => fin) (fun z => absurd z hc0)
  refine lv_if_ne (tgt := 413) hx hb dL_law_398 (by decide) (fun z => absurd hc0 z) (fun z => ?_)
  have hc1 := kLk1_0 hc0
  refine lv_aload_n hx hb dL_law_401 rfl (lv_at hl 6 rfl) ?_
  refine lv_iconst (v := 0) hx hb dL_law_402 (by decide) ?_
  refine kg_lald C hP (i := 9) rfl dL_law_403 ?_
  refine lv_iload hx hb dL_law_404 (lv_at hl 0 rfl) ?_
  refine lv_i2l hx hb dL_law_406 rfl ?_
  refine W.lcmp hx hb dL_law_407 ?_
  rw [k_lcmp0 ((hv1 hc1).trans (congrArg Int32.toInt64 (hs.2.1 hc1).symm))]
  refine lv_if_eq (tgt := 413) hx hb dL_law_408 (by decide) (fun z => fin) (fun z => absurd rfl z)
set_option maxHeartbeats 4000000 in
theorem LC_empty (l : Launch) (hfl : l.stackTraces = false) {p : Program} {e : Env} {s : State} {m : MethodId} {below : List Frame} {meth : Method} {c : Code} {b L : Nat} {xs : Nat → Int32} {g : kG} (oF oC oS oH oR oT oB oM oL oD : Nat) (rC rS rH rR rT rM : Nat → Nat) (oQ : Nat → Nat) (rQ : Nat → Nat → Nat) (aR : Nat → Nat → Int32) {N i cells slots : Nat} (C : kC p c code s m #[Value.ref b] meth RL g 9 ret) (hE : kE g (kAh s) s s.heap) (hNc : kNc s) (hX : va_X b L xs s s.heap) (hbl : b < s.heap.size) (hL : L ≤ 2048) (hi : i + 4 ≤ L) (hN : N < 90000) (hcb : cells + 40 ≤ 605484) (hsb : slots + 2000 ≤ 7191588)
    (ih : kNext l p e s m below meth c b g oF oC oS oH oR oT oB oM oL oD rC rS rH rR rT rM oQ rQ aR i N cells slots) (vF : Nat → Int32) (vC : Nat → Int32) (aC : Nat → Nat → Int32) (vS : Nat → Int32) (aS : Nat → Nat → Int32) (vH : Nat → Int32) (aH : Nat → (Nat → Int32) × (Nat → Nat → Int32)) (vR : Nat → Int32) (vT : Nat → Int32) (aT : Nat → Nat → Int32) (q n : Nat) (ml : Int32) (f : Nat → Int32) (t : Nat → Nat) (k : Nat) (vM : Nat → Int32) (aM : Nat → Nat → Int32) (fL : Nat → Int64) (fD : Nat → UInt64) (H : Heap) (locs : List Loc) (ls : Array Slot) (hR : kRel N vF vC aC vS aS vH aH vR vT aT t k vM aM) (hT : ((n = 16 ∨ n = 34) ∧ k ≤ n ∧ sb_Fit f ∧ sb_Lat t k f)) (hP : kp g [X4W g oF (kFr oC oS oH oR oT oB) vF, X0W g oC rC vC aC, X0W g oS rS vS aS, X2W g oH rH vH oQ rQ aH, X3W g oR rR vR aR, X1W g oT rT vT aT, JOW oB q ml (nI k), JAW g q n f, X5W g oM rM vM aM, OLW g oL fL, ODW g oD fD] H) (hD : kd (kAh s) [X4W g oF (kFr oC oS oH oR oT oB) vF, X0W g oC rC vC aC, X0W g oS rS vS aS, X2W g oH rH vH oQ rQ aH, X3W g oR rR vR aR, X1W g oT rT vT aT, JOW oB q ml (nI k), JAW g q n f, X5W g oM rM vM aM, OLW g oL fL, ODW g oD fD]) (hS : va_S (kAh s) s.heap H locs) (hl : lv_has ls 9 (kLb i b oF oM oL oD)) :
    W p l e room_1 s m #[Value.ref b] below meth c H locs cells slots (lw_Z below #[Value.ref b] s) (F0 m 416 ls []) := by
  have hA : ∀ q, s.heap.size ≤ q → kAh s q := fun q h => h
  have hx := C.1.1
  have hb := C.1.2.1
  have hts := C.1.2.2.2.2
  obtain ⟨⟨nb, nj, hnb, hv7, hnj, hv4, hb5, hj5⟩, hM, hM5, hh, hu, hL1, hL9, hch, hl40, h87, hI⟩ := kRel_hyp (by omega) hR
  refine lv_aload_n hx hb dL_law_416 rfl (lv_at hl 2 rfl) ?_
  refine lv_aload_n hx hb dL_law_417 rfl (lv_at hl 1 rfl) ?_
  refine lv_iload hx hb dL_law_418 (lv_at hl 0 rfl) ?_
  refine lv_iconst (v := 1) hx hb dL_law_420 (by decide) ?_
  refine lv_iadd hx hb dL_law_421 ?_
  refine kg_script (j := 1) C hX hbl hS (by omega) hL dL_law_422 ?_
  refine lv_aload_n hx hb dL_law_423 rfl (lv_at hl 1 rfl) ?_
  refine lv_iload hx hb dL_law_424 (lv_at hl 0 rfl) ?_
  refine lv_iconst (v := 2) hx hb dL_law_426 (by decide) ?_
  refine lv_iadd hx hb dL_law_427 ?_
  refine kg_script (j := 2) C hX hbl hS (by omega) hL dL_law_428 ?_
  refine lv_aload_n hx hb dL_law_429 rfl (lv_at hl 4 rfl) ?_
  have hs := kS_empty (aR := aR) (by omega) hR (xs (i + 1)) (xs (i + 2))
  refine kL_S (As := [.ref oF, .int (xs (i + 1)), .int (xs (i + 2)), .ref oL]) (rest := []) (wr := [X0W g oS rS vS aS, X1W g oT rT vT aT, JOW oB q ml (nI k), JAW g q n f, X5W g oM rM vM aM, ODW g oD fD]) C (L_empty_c l g oF vF oS oT oB oC rC vC aC oH rH vH oQ rQ aH oR rR vR aR (xs (i + 1)) (xs (i + 2)) nb nj hnb hv7 hnj hv4 hM hh hfl oL fL kK_empty) hNc (vx_cwSW 4 hts (k_gS kw680 cs_L_empty) rfl rfl rfl pnL_empty ⟨Nat.le_of_ble_eq_true rfl, Nat.le_of_ble_eq_true rfl⟩) hE hS hA hP hD [0, 1, 3, 4, 9] [2, 5, 6, 7, 8, 10] rfl rfl ⟨rfl, rfl, by decide⟩ rfl hl.1 rfl rfl dL_law_430 ⟨by show _ ≤ 605484; omega, by show _ ≤ 7191588; omega⟩ (fun r u H locs hp hP hD hS => ?_)
  obtain ⟨hr, h1, hv1, hu1⟩ := hp
  subst hu1
  subst hr
  have hP : kp g [X4W g oF (kFr oC oS oH oR oT oB) vF, X0W g oC rC ((X4_empty_f vF vC aC vH aH vR aR (xs (i + 1)) (xs (i + 2))).2.2.1) ((X4_empty_f vF vC aC vH aH vR aR (xs (i + 1)) (xs (i + 2))).2.2.2.1), X0W g oS rS vS aS, X2W g oH rH ((X4_empty_f vF vC aC vH aH vR aR (xs (i + 1)) (xs (i + 2))).2.2.2.2.1) oQ rQ ((X4_empty_f vF vC aC vH aH vR aR (xs (i + 1)) (xs (i + 2))).2.2.2.2.2.1), X3W g oR rR ((X4_empty_f vF vC aC vH aH vR aR (xs (i + 1)) (xs (i + 2))).2.2.2.2.2.2) aR, X1W g oT rT vT aT, JOW oB q ml (nI k), JAW g q n f, X5W g oM rM vM aM, OLW g oL h1, ODW g oD fD] H := hP.pick [6, 7, 0, 8, 9, 1, 2, 3, 4, 10, 5] rfl
  have hD : kd (kAh s) [X4W g oF (kFr oC oS oH oR oT oB) vF, X0W g oC rC ((X4_empty_f vF vC aC vH aH vR aR (xs (i + 1)) (xs (i + 2))).2.2.1) ((X4_empty_f vF vC aC vH aH vR aR (xs (i + 1)) (xs (i + 2))).2.2.2.1), X0W g oS rS vS aS, X2W g oH rH ((X4_empty_f vF vC aC vH aH vR aR (xs (i + 1)) (xs (i + 2))).2.2.2.2.1) oQ rQ ((X4_empty_f vF vC aC vH aH vR aR (xs (i + 1)) (xs (i + 2))).2.2.2.2.2.1), X3W g oR rR ((X4_empty_f vF vC aC vH aH vR aR (xs (i + 1)) (xs (i + 2))).2.2.2.2.2.2) aR, X1W g oT rT vT aT, JOW oB q ml (nI k), JAW g q n f, X5W g oM rM vM aM, OLW g oL h1, ODW g oD fD] := hD.pick [6, 7, 0, 8, 9, 1, 2, 3, 4, 10, 5] rfl rfl
  refine lv_istore (lv' := [(6, .int (kLk1 ((X4_empty_f vF vC aC vH aH vR aR (xs (i + 1)) (xs (i + 2))).1))), (5, .int (nI i)), (0, .ref b), (1, .ref oF), (2, .ref oM), (3, .ref oL), (4, .ref oD)]) hx hb dL_law_433 hl (by decide) rfl (fun ls hl => ?_)
  refine lv_aload_n hx hb dL_law_435 rfl (lv_at hl 4 rfl) ?_
  refine lv_aload_n hx hb dL_law_436 rfl (lv_at hl 2 rfl) ?_
  refine lv_iload hx hb dL_law_437 (lv_at hl 1 rfl) ?_
  refine lv_iconst (v := 1) hx hb dL_law_439 (by decide) ?_
  refine lv_iadd hx hb dL_law_440 ?_
  refine kg_script (j := 1) C hX hbl hS (by omega) hL dL_law_441 ?_
  refine lv_aload_n hx hb dL_law_442 rfl (lv_at hl 2 rfl) ?_
  refine lv_iload hx hb dL_law_443 (lv_at hl 1 rfl) ?_
  refine lv_iconst (v := 2) hx hb dL_law_445 (by decide) ?_
  refine lv_iadd hx hb dL_law_446 ?_
  refine kg_script (j := 2) C hX hbl hS (by omega) hL dL_law_447 ?_
  refine kM_V (As := [.int (xs (i + 1)), .int (xs (i + 2))]) (rest := []) (wr := [X4W g oF (kFr oC oS oH oR oT oB) vF, X0W g oC rC ((X4_empty_f vF vC aC vH aH vR aR (xs (i + 1)) (xs (i + 2))).2.2.1) ((X4_empty_f vF vC aC vH aH vR aR (xs (i + 1)) (xs (i + 2))).2.2.2.1), X0W g oS rS vS aS, X2W g oH rH ((X4_empty_f vF vC aC vH aH vR aR (xs (i + 1)) (xs (i + 2))).2.2.2.2.1) oQ rQ ((X4_empty_f vF vC aC vH aH vR aR (xs (i + 1)) (xs (i + 2))).2.2.2.2.2.1), X3W g oR rR ((X4_empty_f vF vC aC vH aH vR aR (xs (i + 1)) (xs (i + 2))).2.2.2.2.2.2) aR, X1W g oT rT vT aT, JOW oB q ml (nI k), JAW g q n f, OLW g oL h1, ODW g oD fD]) C (X5_empty_c l g oM rM vM aM (xs (i + 1)) (xs (i + 2)) hu ⟨nb, hnb, hb5⟩ ⟨nj, hnj, hj5⟩) (cwV 2 hts (k_gV kw1576 ca_X5_empty) rfl rfl rfl ⟨rfl, pnX5_empty⟩ ⟨Nat.le_of_ble_eq_true rfl, Nat.le_of_ble_eq_true rfl⟩) hE hS hA hP hD [8] [0, 1, 2, 3, 4, 5, 6, 7, 9, 10] rfl rfl ⟨rfl, rfl, by decide⟩ (k_recv C kFX5 hP (i := 8) (q := 0) rfl rfl) rfl hl.1 rfl rfl dL_law_448 ⟨by show _ ≤ 605484; omega, by show _ ≤ 7191588; omega⟩ (fun r u H locs hp hP hD hS => ?_)
  obtain ⟨hr, hu⟩ := hp
  subst hu
  subst hr
  have hP : kp g [X4W g oF (kFr oC oS oH oR oT oB) vF, X0W g oC rC ((X4_empty_f vF vC aC vH aH vR aR (xs (i + 1)) (xs (i + 2))).2.2.1) ((X4_empty_f vF vC aC vH aH vR aR (xs (i + 1)) (xs (i + 2))).2.2.2.1), X0W g oS rS vS aS, X2W g oH rH ((X4_empty_f vF vC aC vH aH vR aR (xs (i + 1)) (xs (i + 2))).2.2.2.2.1) oQ rQ ((X4_empty_f vF vC aC vH aH vR aR (xs (i + 1)) (xs (i + 2))).2.2.2.2.2.1), X3W g oR rR ((X4_empty_f vF vC aC vH aH vR aR (xs (i + 1)) (xs (i + 2))).2.2.2.2.2.2) aR, X1W g oT rT vT aT, JOW oB q ml (nI k), JAW g q n f, X5W g oM rM ((X5_empty_f vM aM (xs (i + 1)) (xs (i + 2))).2.1) ((X5_empty_f vM aM (xs (i + 1)) (xs (i + 2))).2.2), OLW g oL h1, ODW g oD fD] H := hP.pick [0, 1, 2, 3, 4, 5, 6, 7, 10, 8, 9] rfl
  have hD : kd (kAh s) [X4W g oF (kFr oC oS oH oR oT oB) vF, X0W g oC rC ((X4_empty_f vF vC aC vH aH vR aR (xs (i + 1)) (xs (i + 2))).2.2.1) ((X4_empty_f vF vC aC vH aH vR aR (xs (i + 1)) (xs (i + 2))).2.2.2.1), X0W g oS rS vS aS, X2W g oH rH ((X4_empty_f vF vC aC vH aH vR aR (xs (i + 1)) (xs (i + 2))).2.2.2.2.1) oQ rQ ((X4_empty_f vF vC aC vH aH vR aR (xs (i + 1)) (xs (i + 2))).2.2.2.2.2.1), X3W g oR rR ((X4_empty_f vF vC aC vH aH vR aR (xs (i + 1)) (xs (i + 2))).2.2.2.2.2.2) aR, X1W g oT rT vT aT, JOW oB q ml (nI k), JAW g q n f, X5W g oM rM ((X5_empty_f vM aM (xs (i + 1)) (xs (i + 2))).2.1) ((X5_empty_f vM aM (xs (i + 1)) (xs (i + 2))).2.2), OLW g oL h1, ODW g oD fD] := hD.pick [0, 1, 2, 3, 4, 5, 6, 7, 10, 8, 9] rfl rfl
  refine lv_istore (lv' := [(7, .int ((X5_empty_f vM aM (xs (i + 1)) (xs (i + 2))).1)), (6, .int (kLk1 ((X4_empty_f vF vC aC vH aH vR aR (xs (i + 1)) (xs (i + 2))).1))), (5, .int (nI i)), (0, .ref b), (1, .ref oF), (2, .ref oM), (3, .ref oL), (4, .ref oD)]) hx hb dL_law_451 hl (by decide) rfl (fun ls hl => ?_)
  refine lv_aload_n hx hb dL_law_453 rfl (lv_at hl 5 rfl) ?_
  refine kR_V (As := []) (rest := []) C (X5_thrown_c l g oM rM ((X5_empty_f vM aM (xs (i + 1)) (xs (i + 2))).2.1) ((X5_empty_f vM aM (xs (i + 1)) (xs (i + 2))).2.2)) (cwV 0 hts (k_gV kw1513 ca_X5_thrown) rfl rfl rfl ⟨rfl, pnX5_thrown⟩ ⟨Nat.le_of_ble_eq_true rfl, Nat.le_of_ble_eq_true rfl⟩) hE hS (hP.pick [8] rfl) (k_recv C kFX5 hP (i := 8) (q := 0) rfl rfl) rfl hl.1 rfl rfl dL_law_454 ⟨by show _ ≤ 605484; omega, by show _ ≤ 7191588; omega⟩ ?_
  refine lv_iload hx hb dL_law_457 (lv_at hl 1 rfl) ?_
  refine lv_icmp_eq (tgt := 464) hx hb dL_law_459 (by decide) (fun z => ?_) (fun z => absurd hs.1 z)
  have fin : W p l e room_1 s m #[Value.ref b] below meth c H locs (cells + 1 + 0) (slots + 6 + 0) (lw_Z below #[Value.ref b] s) (F0 m 481 ls []) := by
    refine lv_goto (tgt := 2358) hx hb dL_law_481 (by decide) ?_
    exact ih _ _ _ _ _ _ _ _ _ _ _ _ _ _ _ _ _ _ _ _ H locs ls _ _ hs.2.2 hT hP hD hS (lv_sub hl [2, 3, 4, 5, 6, 7] rfl) (by omega) (by omega)
  refine lv_iload hx hb dL_law_464 (lv_at hl 1 rfl) ?_
  by_cases hc0 : kLk1 ((X4_empty_f vF vC aC vH aH vR aR (xs (i + 1)) (xs (i + 2))).1) = 0
  rotate_left
  · refine lv_if_ne (tgt := 481) hx hb dL_law_466 (by decide) (fun z => fin) (fun z => absurd z hc0)
  refine lv_if_ne (tgt := 481) hx hb dL_law_466 (by decide) (fun z => absurd hc0 z) (fun z => ?_)
  have hc1 := kLk1_0 hc0
  refine lv_aload_n hx hb dL_law_469 rfl (lv_at hl 6 rfl) ?_
  refine lv_iconst (v := 0) hx hb dL_law_470 (by decide) ?_
  refine kg_lald C hP (i := 9) rfl dL_law_471 ?_
  refine lv_iload hx hb dL_law_472 (lv_at hl 0 rfl) ?_
  refine lv_i2l hx hb dL_law_474 rfl ?_
  refine W.lcmp hx hb dL_law_475 ?_
  rw [k_lcmp0 ((hv1 hc1).trans (congrArg Int32.toInt64 (hs.2.1 hc1).symm))]
  refine lv_if_eq (tgt := 481) hx hb dL_law_476 (by decide) (fun z => fin) (fun z => absurd rfl z)
set_option maxHeartbeats 4000000 in
theorem LC_beat (l : Launch) (hfl : l.stackTraces = false) {p : Program} {e : Env} {s : State} {m : MethodId} {below : List Frame} {meth : Method} {c : Code} {b L : Nat} {xs : Nat → Int32} {g : kG} (oF oC oS oH oR oT oB oM oL oD : Nat) (rC rS rH rR rT rM : Nat → Nat) (oQ : Nat → Nat) (rQ : Nat → Nat → Nat) (aR : Nat → Nat → Int32) {N i cells slots : Nat} (C : kC p c code s m #[Value.ref b] meth RL g 9 ret) (hE : kE g (kAh s) s s.heap) (hNc : kNc s) (hX : va_X b L xs s s.heap) (hbl : b < s.heap.size) (hL : L ≤ 2048) (hi : i + 4 ≤ L) (hN : N < 90000) (hcb : cells + 40 ≤ 605484) (hsb : slots + 2000 ≤ 7191588)
    (ih : kNext l p e s m below meth c b g oF oC oS oH oR oT oB oM oL oD rC rS rH rR rT rM oQ rQ aR i N cells slots) (vF : Nat → Int32) (vC : Nat → Int32) (aC : Nat → Nat → Int32) (vS : Nat → Int32) (aS : Nat → Nat → Int32) (vH : Nat → Int32) (aH : Nat → (Nat → Int32) × (Nat → Nat → Int32)) (vR : Nat → Int32) (vT : Nat → Int32) (aT : Nat → Nat → Int32) (q n : Nat) (ml : Int32) (f : Nat → Int32) (t : Nat → Nat) (k : Nat) (vM : Nat → Int32) (aM : Nat → Nat → Int32) (fL : Nat → Int64) (fD : Nat → UInt64) (H : Heap) (locs : List Loc) (ls : Array Slot) (hR : kRel N vF vC aC vS aS vH aH vR vT aT t k vM aM) (hT : ((n = 16 ∨ n = 34) ∧ k ≤ n ∧ sb_Fit f ∧ sb_Lat t k f)) (hP : kp g [X4W g oF (kFr oC oS oH oR oT oB) vF, X0W g oC rC vC aC, X0W g oS rS vS aS, X2W g oH rH vH oQ rQ aH, X3W g oR rR vR aR, X1W g oT rT vT aT, JOW oB q ml (nI k), JAW g q n f, X5W g oM rM vM aM, OLW g oL fL, ODW g oD fD] H) (hD : kd (kAh s) [X4W g oF (kFr oC oS oH oR oT oB) vF, X0W g oC rC vC aC, X0W g oS rS vS aS, X2W g oH rH vH oQ rQ aH, X3W g oR rR vR aR, X1W g oT rT vT aT, JOW oB q ml (nI k), JAW g q n f, X5W g oM rM vM aM, OLW g oL fL, ODW g oD fD]) (hS : va_S (kAh s) s.heap H locs) (hl : lv_has ls 9 (kLb i b oF oM oL oD)) :
    W p l e room_1 s m #[Value.ref b] below meth c H locs cells slots (lw_Z below #[Value.ref b] s) (F0 m 484 ls []) := by
  have hA : ∀ q, s.heap.size ≤ q → kAh s q := fun q h => h
  have hx := C.1.1
  have hb := C.1.2.1
  have hts := C.1.2.2.2.2
  obtain ⟨⟨nb, nj, hnb, hv7, hnj, hv4, hb5, hj5⟩, hM, hM5, hh, hu, hL1, hL9, hch, hl40, h87, hI⟩ := kRel_hyp (by omega) hR
  refine lv_aload_n hx hb dL_law_484 rfl (lv_at hl 2 rfl) ?_
  refine lv_aload_n hx hb dL_law_485 rfl (lv_at hl 1 rfl) ?_
  refine lv_iload hx hb dL_law_486 (lv_at hl 0 rfl) ?_
  refine lv_iconst (v := 1) hx hb dL_law_488 (by decide) ?_
  refine lv_iadd hx hb dL_law_489 ?_
  refine kg_script (j := 1) C hX hbl hS (by omega) hL dL_law_490 ?_
  refine lv_aload_n hx hb dL_law_491 rfl (lv_at hl 4 rfl) ?_
  have hs := kS_beat (aR := aR) (by omega) hR (xs (i + 1))
  refine kL_S (As := [.ref oF, .int (xs (i + 1)), .ref oL]) (rest := []) (wr := [X0W g oS rS vS aS, X1W g oT rT vT aT, JOW oB q ml (nI k), JAW g q n f, X5W g oM rM vM aM, ODW g oD fD]) C (L_beat_c l g oF vF oS oT oB oC rC vC aC oH rH vH oQ rQ aH oR rR vR aR (xs (i + 1)) nb nj hnb hv7 hnj hv4 hM hh hfl oL fL kK_beat) hNc (vx_cwSW 3 hts (k_gS kw687 cs_L_beat) rfl rfl rfl pnL_beat ⟨Nat.le_of_ble_eq_true rfl, Nat.le_of_ble_eq_true rfl⟩) hE hS hA hP hD [0, 1, 3, 4, 9] [2, 5, 6, 7, 8, 10] rfl rfl ⟨rfl, rfl, by decide⟩ rfl hl.1 rfl rfl dL_law_492 ⟨by show _ ≤ 605484; omega, by show _ ≤ 7191588; omega⟩ (fun r u H locs hp hP hD hS => ?_)
  obtain ⟨hr, h1, hv1, hu1⟩ := hp
  subst hu1
  subst hr
  have hP : kp g [X4W g oF (kFr oC oS oH oR oT oB) vF, X0W g oC rC ((X4_beat_f vF vC aC vH aH vR aR (xs (i + 1))).2.2.1) ((X4_beat_f vF vC aC vH aH vR aR (xs (i + 1))).2.2.2.1), X0W g oS rS vS aS, X2W g oH rH ((X4_beat_f vF vC aC vH aH vR aR (xs (i + 1))).2.2.2.2.1) oQ rQ ((X4_beat_f vF vC aC vH aH vR aR (xs (i + 1))).2.2.2.2.2.1), X3W g oR rR ((X4_beat_f vF vC aC vH aH vR aR (xs (i + 1))).2.2.2.2.2.2) aR, X1W g oT rT vT aT, JOW oB q ml (nI k), JAW g q n f, X5W g oM rM vM aM, OLW g oL h1, ODW g oD fD] H := hP.pick [6, 7, 0, 8, 9, 1, 2, 3, 4, 10, 5] rfl
  have hD : kd (kAh s) [X4W g oF (kFr oC oS oH oR oT oB) vF, X0W g oC rC ((X4_beat_f vF vC aC vH aH vR aR (xs (i + 1))).2.2.1) ((X4_beat_f vF vC aC vH aH vR aR (xs (i + 1))).2.2.2.1), X0W g oS rS vS aS, X2W g oH rH ((X4_beat_f vF vC aC vH aH vR aR (xs (i + 1))).2.2.2.2.1) oQ rQ ((X4_beat_f vF vC aC vH aH vR aR (xs (i + 1))).2.2.2.2.2.1), X3W g oR rR ((X4_beat_f vF vC aC vH aH vR aR (xs (i + 1))).2.2.2.2.2.2) aR, X1W g oT rT vT aT, JOW oB q ml (nI k), JAW g q n f, X5W g oM rM vM aM, OLW g oL h1, ODW g oD fD] := hD.pick [6, 7, 0, 8, 9, 1, 2, 3, 4, 10, 5] rfl rfl
  refine lv_istore (lv' := [(6, .int (kLk1 ((X4_beat_f vF vC aC vH aH vR aR (xs (i + 1))).1))), (5, .int (nI i)), (0, .ref b), (1, .ref oF), (2, .ref oM), (3, .ref oL), (4, .ref oD)]) hx hb dL_law_495 hl (by decide) rfl (fun ls hl => ?_)
  refine lv_aload_n hx hb dL_law_497 rfl (lv_at hl 4 rfl) ?_
  refine lv_aload_n hx hb dL_law_498 rfl (lv_at hl 2 rfl) ?_
  refine lv_iload hx hb dL_law_499 (lv_at hl 1 rfl) ?_
  refine lv_iconst (v := 1) hx hb dL_law_501 (by decide) ?_
  refine lv_iadd hx hb dL_law_502 ?_
  refine kg_script (j := 1) C hX hbl hS (by omega) hL dL_law_503 ?_
  refine kM_V (As := [.int (xs (i + 1))]) (rest := []) (wr := [X4W g oF (kFr oC oS oH oR oT oB) vF, X0W g oC rC ((X4_beat_f vF vC aC vH aH vR aR (xs (i + 1))).2.2.1) ((X4_beat_f vF vC aC vH aH vR aR (xs (i + 1))).2.2.2.1), X0W g oS rS vS aS, X2W g oH rH ((X4_beat_f vF vC aC vH aH vR aR (xs (i + 1))).2.2.2.2.1) oQ rQ ((X4_beat_f vF vC aC vH aH vR aR (xs (i + 1))).2.2.2.2.2.1), X3W g oR rR ((X4_beat_f vF vC aC vH aH vR aR (xs (i + 1))).2.2.2.2.2.2) aR, X1W g oT rT vT aT, JOW oB q ml (nI k), JAW g q n f, OLW g oL h1, ODW g oD fD]) C (X5_beat_c l g oM rM vM aM (xs (i + 1)) hu ⟨nb, hnb, hb5⟩) (cwV 1 hts (k_gV kw1588 ca_X5_beat) rfl rfl rfl ⟨rfl, pnX5_beat⟩ ⟨Nat.le_of_ble_eq_true rfl, Nat.le_of_ble_eq_true rfl⟩) hE hS hA hP hD [8] [0, 1, 2, 3, 4, 5, 6, 7, 9, 10] rfl rfl ⟨rfl, rfl, by decide⟩ (k_recv C kFX5 hP (i := 8) (q := 0) rfl rfl) rfl hl.1 rfl rfl dL_law_504 ⟨by show _ ≤ 605484; omega, by show _ ≤ 7191588; omega⟩ (fun r u H locs hp hP hD hS => ?_)
  obtain ⟨hr, hu⟩ := hp
  subst hu
  subst hr
  have hP : kp g [X4W g oF (kFr oC oS oH oR oT oB) vF, X0W g oC rC ((X4_beat_f vF vC aC vH aH vR aR (xs (i + 1))).2.2.1) ((X4_beat_f vF vC aC vH aH vR aR (xs (i + 1))).2.2.2.1), X0W g oS rS vS aS, X2W g oH rH ((X4_beat_f vF vC aC vH aH vR aR (xs (i + 1))).2.2.2.2.1) oQ rQ ((X4_beat_f vF vC aC vH aH vR aR (xs (i + 1))).2.2.2.2.2.1), X3W g oR rR ((X4_beat_f vF vC aC vH aH vR aR (xs (i + 1))).2.2.2.2.2.2) aR, X1W g oT rT vT aT, JOW oB q ml (nI k), JAW g q n f, X5W g oM rM ((X5_beat_f vM aM (xs (i + 1))).2.1) ((X5_beat_f vM aM (xs (i + 1))).2.2), OLW g oL h1, ODW g oD fD] H := hP.pick [0, 1, 2, 3, 4, 5, 6, 7, 10, 8, 9] rfl
  have hD : kd (kAh s) [X4W g oF (kFr oC oS oH oR oT oB) vF, X0W g oC rC ((X4_beat_f vF vC aC vH aH vR aR (xs (i + 1))).2.2.1) ((X4_beat_f vF vC aC vH aH vR aR (xs (i + 1))).2.2.2.1), X0W g oS rS vS aS, X2W g oH rH ((X4_beat_f vF vC aC vH aH vR aR (xs (i + 1))).2.2.2.2.1) oQ rQ ((X4_beat_f vF vC aC vH aH vR aR (xs (i + 1))).2.2.2.2.2.1), X3W g oR rR ((X4_beat_f vF vC aC vH aH vR aR (xs (i + 1))).2.2.2.2.2.2) aR, X1W g oT rT vT aT, JOW oB q ml (nI k), JAW g q n f, X5W g oM rM ((X5_beat_f vM aM (xs (i + 1))).2.1) ((X5_beat_f vM aM (xs (i + 1))).2.2), OLW g oL h1, ODW g oD fD] := hD.pick [0, 1, 2, 3, 4, 5, 6, 7, 10, 8, 9] rfl rfl
  refine lv_istore (lv' := [(7, .int ((X5_beat_f vM aM (xs (i + 1))).1)), (6, .int (kLk1 ((X4_beat_f vF vC aC vH aH vR aR (xs (i + 1))).1))), (5, .int (nI i)), (0, .ref b), (1, .ref oF), (2, .ref oM), (3, .ref oL), (4, .ref oD)]) hx hb dL_law_507 hl (by decide) rfl (fun ls hl => ?_)
  refine lv_aload_n hx hb dL_law_509 rfl (lv_at hl 5 rfl) ?_
  refine kR_V (As := []) (rest := []) C (X5_thrown_c l g oM rM ((X5_beat_f vM aM (xs (i + 1))).2.1) ((X5_beat_f vM aM (xs (i + 1))).2.2)) (cwV 0 hts (k_gV kw1513 ca_X5_thrown) rfl rfl rfl ⟨rfl, pnX5_thrown⟩ ⟨Nat.le_of_ble_eq_true rfl, Nat.le_of_ble_eq_true rfl⟩) hE hS (hP.pick [8] rfl) (k_recv C kFX5 hP (i := 8) (q := 0) rfl rfl) rfl hl.1 rfl rfl dL_law_510 ⟨by show _ ≤ 605484; omega, by show _ ≤ 7191588; omega⟩ ?_
  refine lv_iload hx hb dL_law_513 (lv_at hl 1 rfl) ?_
  refine lv_icmp_eq (tgt := 520) hx hb dL_law_515 (by decide) (fun z => ?_) (fun z => absurd hs.1 z)
  have fin : W p l e room_1 s m #[Value.ref b] below meth c H locs (cells + 1 + 0) (slots + 6 + 0) (lw_Z below #[Value.ref b] s) (F0 m 537 ls []) := by
    refine lv_goto (tgt := 2358) hx hb dL_law_537 (by decide) ?_
    exact ih _ _ _ _ _ _ _ _ _ _ _ _ _ _ _ _ _ _ _ _ H locs ls _ _ hs.2.2 hT hP hD hS (lv_sub hl [2, 3, 4, 5, 6, 7] rfl) (by omega) (by omega)
  refine lv_iload hx hb dL_law_520 (lv_at hl 1 rfl) ?_
  by_cases hc0 : kLk1 ((X4_beat_f vF vC aC vH aH vR aR (xs (i + 1))).1) = 0
  rotate_left
  · refine lv_if_ne (tgt := 537) hx hb dL_law_522 (by decide) (fun z => fin) (fun z => absurd z hc0)
  refine lv_if_ne (tgt := 537) hx hb dL_law_522 (by decide) (fun z => absurd hc0 z) (fun z => ?_)
  have hc1 := kLk1_0 hc0
  refine lv_aload_n hx hb dL_law_525 rfl (lv_at hl 6 rfl) ?_
  refine lv_iconst (v := 0) hx hb dL_law_526 (by decide) ?_
  refine kg_lald C hP (i := 9) rfl dL_law_527 ?_
  refine lv_iload hx hb dL_law_528 (lv_at hl 0 rfl) ?_
  refine lv_i2l hx hb dL_law_530 rfl ?_
  refine W.lcmp hx hb dL_law_531 ?_
  rw [k_lcmp0 ((hv1 hc1).trans (congrArg Int32.toInt64 (hs.2.1 hc1).symm))]
  refine lv_if_eq (tgt := 537) hx hb dL_law_532 (by decide) (fun z => fin) (fun z => absurd rfl z)
set_option maxHeartbeats 4000000 in
theorem LC_thumb (l : Launch) (hfl : l.stackTraces = false) {p : Program} {e : Env} {s : State} {m : MethodId} {below : List Frame} {meth : Method} {c : Code} {b L : Nat} {xs : Nat → Int32} {g : kG} (oF oC oS oH oR oT oB oM oL oD : Nat) (rC rS rH rR rT rM : Nat → Nat) (oQ : Nat → Nat) (rQ : Nat → Nat → Nat) (aR : Nat → Nat → Int32) {N i cells slots : Nat} (C : kC p c code s m #[Value.ref b] meth RL g 9 ret) (hE : kE g (kAh s) s s.heap) (hNc : kNc s) (hX : va_X b L xs s s.heap) (hbl : b < s.heap.size) (hL : L ≤ 2048) (hi : i + 4 ≤ L) (hN : N < 90000) (hcb : cells + 40 ≤ 605484) (hsb : slots + 2000 ≤ 7191588)
    (ih : kNext l p e s m below meth c b g oF oC oS oH oR oT oB oM oL oD rC rS rH rR rT rM oQ rQ aR i N cells slots) (vF : Nat → Int32) (vC : Nat → Int32) (aC : Nat → Nat → Int32) (vS : Nat → Int32) (aS : Nat → Nat → Int32) (vH : Nat → Int32) (aH : Nat → (Nat → Int32) × (Nat → Nat → Int32)) (vR : Nat → Int32) (vT : Nat → Int32) (aT : Nat → Nat → Int32) (q n : Nat) (ml : Int32) (f : Nat → Int32) (t : Nat → Nat) (k : Nat) (vM : Nat → Int32) (aM : Nat → Nat → Int32) (fL : Nat → Int64) (fD : Nat → UInt64) (H : Heap) (locs : List Loc) (ls : Array Slot) (hR : kRel N vF vC aC vS aS vH aH vR vT aT t k vM aM) (hT : ((n = 16 ∨ n = 34) ∧ k ≤ n ∧ sb_Fit f ∧ sb_Lat t k f)) (hP : kp g [X4W g oF (kFr oC oS oH oR oT oB) vF, X0W g oC rC vC aC, X0W g oS rS vS aS, X2W g oH rH vH oQ rQ aH, X3W g oR rR vR aR, X1W g oT rT vT aT, JOW oB q ml (nI k), JAW g q n f, X5W g oM rM vM aM, OLW g oL fL, ODW g oD fD] H) (hD : kd (kAh s) [X4W g oF (kFr oC oS oH oR oT oB) vF, X0W g oC rC vC aC, X0W g oS rS vS aS, X2W g oH rH vH oQ rQ aH, X3W g oR rR vR aR, X1W g oT rT vT aT, JOW oB q ml (nI k), JAW g q n f, X5W g oM rM vM aM, OLW g oL fL, ODW g oD fD]) (hS : va_S (kAh s) s.heap H locs) (hl : lv_has ls 9 (kLb i b oF oM oL oD)) :
    W p l e room_1 s m #[Value.ref b] below meth c H locs cells slots (lw_Z below #[Value.ref b] s) (F0 m 540 ls []) := by
  have hA : ∀ q, s.heap.size ≤ q → kAh s q := fun q h => h
  have hx := C.1.1
  have hb := C.1.2.1
  have hts := C.1.2.2.2.2
  obtain ⟨⟨nb, nj, hnb, hv7, hnj, hv4, hb5, hj5⟩, hM, hM5, hh, hu, hL1, hL9, hch, hl40, h87, hI⟩ := kRel_hyp (by omega) hR
  refine lv_aload_n hx hb dL_law_540 rfl (lv_at hl 2 rfl) ?_
  refine lv_aload_n hx hb dL_law_541 rfl (lv_at hl 1 rfl) ?_
  refine lv_iload hx hb dL_law_542 (lv_at hl 0 rfl) ?_
  refine lv_iconst (v := 1) hx hb dL_law_544 (by decide) ?_
  refine lv_iadd hx hb dL_law_545 ?_
  refine kg_script (j := 1) C hX hbl hS (by omega) hL dL_law_546 ?_
  refine lv_aload_n hx hb dL_law_547 rfl (lv_at hl 4 rfl) ?_
  have hs := kS_thumb (aR := aR) (by omega) hR (xs (i + 1))
  refine kL_S (As := [.ref oF, .int (xs (i + 1)), .ref oL]) (rest := []) (wr := [X0W g oS rS vS aS, X1W g oT rT vT aT, JOW oB q ml (nI k), JAW g q n f, X5W g oM rM vM aM, ODW g oD fD]) C (L_thumb_c l g oF vF oS oT oB oC rC vC aC oH rH vH oQ rQ aH oR rR vR aR (xs (i + 1)) nb nj hnb hv7 hnj hv4 hM hh hfl oL fL kK_thumb) hNc (vx_cwSW 3 hts (k_gS kw694 cs_L_thumb) rfl rfl rfl pnL_thumb ⟨Nat.le_of_ble_eq_true rfl, Nat.le_of_ble_eq_true rfl⟩) hE hS hA hP hD [0, 1, 3, 4, 9] [2, 5, 6, 7, 8, 10] rfl rfl ⟨rfl, rfl, by decide⟩ rfl hl.1 rfl rfl dL_law_548 ⟨by show _ ≤ 605484; omega, by show _ ≤ 7191588; omega⟩ (fun r u H locs hp hP hD hS => ?_)
  obtain ⟨hr, h1, hv1, hu1⟩ := hp
  subst hu1
  subst hr
  have hP : kp g [X4W g oF (kFr oC oS oH oR oT oB) vF, X0W g oC rC ((X4_thumb_f vF vC aC vH aH vR aR (xs (i + 1))).2.2.1) ((X4_thumb_f vF vC aC vH aH vR aR (xs (i + 1))).2.2.2.1), X0W g oS rS vS aS, X2W g oH rH ((X4_thumb_f vF vC aC vH aH vR aR (xs (i + 1))).2.2.2.2.1) oQ rQ ((X4_thumb_f vF vC aC vH aH vR aR (xs (i + 1))).2.2.2.2.2.1), X3W g oR rR ((X4_thumb_f vF vC aC vH aH vR aR (xs (i + 1))).2.2.2.2.2.2) aR, X1W g oT rT vT aT, JOW oB q ml (nI k), JAW g q n f, X5W g oM rM vM aM, OLW g oL h1, ODW g oD fD] H := hP.pick [6, 7, 0, 8, 9, 1, 2, 3, 4, 10, 5] rfl
  have hD : kd (kAh s) [X4W g oF (kFr oC oS oH oR oT oB) vF, X0W g oC rC ((X4_thumb_f vF vC aC vH aH vR aR (xs (i + 1))).2.2.1) ((X4_thumb_f vF vC aC vH aH vR aR (xs (i + 1))).2.2.2.1), X0W g oS rS vS aS, X2W g oH rH ((X4_thumb_f vF vC aC vH aH vR aR (xs (i + 1))).2.2.2.2.1) oQ rQ ((X4_thumb_f vF vC aC vH aH vR aR (xs (i + 1))).2.2.2.2.2.1), X3W g oR rR ((X4_thumb_f vF vC aC vH aH vR aR (xs (i + 1))).2.2.2.2.2.2) aR, X1W g oT rT vT aT, JOW oB q ml (nI k), JAW g q n f, X5W g oM rM vM aM, OLW g oL h1, ODW g oD fD] := hD.pick [6, 7, 0, 8, 9, 1, 2, 3, 4, 10, 5] rfl rfl
  refine lv_istore (lv' := [(6, .int (kLk1 ((X4_thumb_f vF vC aC vH aH vR aR (xs (i + 1))).1))), (5, .int (nI i)), (0, .ref b), (1, .ref oF), (2, .ref oM), (3, .ref oL), (4, .ref oD)]) hx hb dL_law_551 hl (by decide) rfl (fun ls hl => ?_)
  refine lv_aload_n hx hb dL_law_553 rfl (lv_at hl 4 rfl) ?_
  refine lv_aload_n hx hb dL_law_554 rfl (lv_at hl 2 rfl) ?_
  refine lv_iload hx hb dL_law_555 (lv_at hl 1 rfl) ?_
  refine lv_iconst (v := 1) hx hb dL_law_557 (by decide) ?_
  refine lv_iadd hx hb dL_law_558 ?_
  refine kg_script (j := 1) C hX hbl hS (by omega) hL dL_law_559 ?_
  refine kM_V (As := [.int (xs (i + 1))]) (rest := []) (wr := [X4W g oF (kFr oC oS oH oR oT oB) vF, X0W g oC rC ((X4_thumb_f vF vC aC vH aH vR aR (xs (i + 1))).2.2.1) ((X4_thumb_f vF vC aC vH aH vR aR (xs (i + 1))).2.2.2.1), X0W g oS rS vS aS, X2W g oH rH ((X4_thumb_f vF vC aC vH aH vR aR (xs (i + 1))).2.2.2.2.1) oQ rQ ((X4_thumb_f vF vC aC vH aH vR aR (xs (i + 1))).2.2.2.2.2.1), X3W g oR rR ((X4_thumb_f vF vC aC vH aH vR aR (xs (i + 1))).2.2.2.2.2.2) aR, X1W g oT rT vT aT, JOW oB q ml (nI k), JAW g q n f, OLW g oL h1, ODW g oD fD]) C (X5_thumb_c l g oM rM vM aM (xs (i + 1)) hu hM5) (cwV 1 hts (k_gV kw1596 ca_X5_thumb) rfl rfl rfl ⟨rfl, pnX5_thumb⟩ ⟨Nat.le_of_ble_eq_true rfl, Nat.le_of_ble_eq_true rfl⟩) hE hS hA hP hD [8] [0, 1, 2, 3, 4, 5, 6, 7, 9, 10] rfl rfl ⟨rfl, rfl, by decide⟩ (k_recv C kFX5 hP (i := 8) (q := 0) rfl rfl) rfl hl.1 rfl rfl dL_law_560 ⟨by show _ ≤ 605484; omega, by show _ ≤ 7191588; omega⟩ (fun r u H locs hp hP hD hS => ?_)
  obtain ⟨hr, hu⟩ := hp
  subst hu
  subst hr
  have hP : kp g [X4W g oF (kFr oC oS oH oR oT oB) vF, X0W g oC rC ((X4_thumb_f vF vC aC vH aH vR aR (xs (i + 1))).2.2.1) ((X4_thumb_f vF vC aC vH aH vR aR (xs (i + 1))).2.2.2.1), X0W g oS rS vS aS, X2W g oH rH ((X4_thumb_f vF vC aC vH aH vR aR (xs (i + 1))).2.2.2.2.1) oQ rQ ((X4_thumb_f vF vC aC vH aH vR aR (xs (i + 1))).2.2.2.2.2.1), X3W g oR rR ((X4_thumb_f vF vC aC vH aH vR aR (xs (i + 1))).2.2.2.2.2.2) aR, X1W g oT rT vT aT, JOW oB q ml (nI k), JAW g q n f, X5W g oM rM ((X5_thumb_f vM aM (xs (i + 1))).2.1) ((X5_thumb_f vM aM (xs (i + 1))).2.2), OLW g oL h1, ODW g oD fD] H := hP.pick [0, 1, 2, 3, 4, 5, 6, 7, 10, 8, 9] rfl
  have hD : kd (kAh s) [X4W g oF (kFr oC oS oH oR oT oB) vF, X0W g oC rC ((X4_thumb_f vF vC aC vH aH vR aR (xs (i + 1))).2.2.1) ((X4_thumb_f vF vC aC vH aH vR aR (xs (i + 1))).2.2.2.1), X0W g oS rS vS aS, X2W g oH rH ((X4_thumb_f vF vC aC vH aH vR aR (xs (i + 1))).2.2.2.2.1) oQ rQ ((X4_thumb_f vF vC aC vH aH vR aR (xs (i + 1))).2.2.2.2.2.1), X3W g oR rR ((X4_thumb_f vF vC aC vH aH vR aR (xs (i + 1))).2.2.2.2.2.2) aR, X1W g oT rT vT aT, JOW oB q ml (nI k), JAW g q n f, X5W g oM rM ((X5_thumb_f vM aM (xs (i + 1))).2.1) ((X5_thumb_f vM aM (xs (i + 1))).2.2), OLW g oL h1, ODW g oD fD] := hD.pick [0, 1, 2, 3, 4, 5, 6, 7, 10, 8, 9] rfl rfl
  refine lv_istore (lv' := [(7, .int ((X5_thumb_f vM aM (xs (i + 1))).1)), (6, .int (kLk1 ((X4_thumb_f vF vC aC vH aH vR aR (xs (i + 1))).1))), (5, .int (nI i)), (0, .ref b), (1, .ref oF), (2, .ref oM), (3, .ref oL), (4, .ref oD)]) hx hb dL_law_563 hl (by decide) rfl (fun ls hl => ?_)
  refine lv_aload_n hx hb dL_law_565 rfl (lv_at hl 5 rfl) ?_
  refine kR_V (As := []) (rest := []) C (X5_thrown_c l g oM rM ((X5_thumb_f vM aM (xs (i + 1))).2.1) ((X5_thumb_f vM aM (xs (i + 1))).2.2)) (cwV 0 hts (k_gV kw1513 ca_X5_thrown) rfl rfl rfl ⟨rfl, pnX5_thrown⟩ ⟨Nat.le_of_ble_eq_true rfl, Nat.le_of_ble_eq_true rfl⟩) hE hS (hP.pick [8] rfl) (k_recv C kFX5 hP (i := 8) (q := 0) rfl rfl) rfl hl.1 rfl rfl dL_law_566 ⟨by show _ ≤ 605484; omega, by show _ ≤ 7191588; omega⟩ ?_
  refine lv_iload hx hb dL_law_569 (lv_at hl 1 rfl) ?_
  refine lv_icmp_eq (tgt := 576) hx hb dL_law_571 (by decide) (fun z => ?_) (fun z => absurd hs.1 z)
  have fin : W p l e room_1 s m #[Value.ref b] below meth c H locs (cells + 1 + 0) (slots + 6 + 0) (lw_Z below #[Value.ref b] s) (F0 m 593 ls []) := by
    refine lv_goto (tgt := 2358) hx hb dL_law_593 (by decide) ?_
    exact ih _ _ _ _ _ _ _ _ _ _ _ _ _ _ _ _ _ _ _ _ H locs ls _ _ hs.2.2 hT hP hD hS (lv_sub hl [2, 3, 4, 5, 6, 7] rfl) (by omega) (by omega)
  refine lv_iload hx hb dL_law_576 (lv_at hl 1 rfl) ?_
  by_cases hc0 : kLk1 ((X4_thumb_f vF vC aC vH aH vR aR (xs (i + 1))).1) = 0
  rotate_left
  · refine lv_if_ne (tgt := 593) hx hb dL_law_578 (by decide) (fun z => fin) (fun z => absurd z hc0)
  refine lv_if_ne (tgt := 593) hx hb dL_law_578 (by decide) (fun z => absurd hc0 z) (fun z => ?_)
  have hc1 := kLk1_0 hc0
  refine lv_aload_n hx hb dL_law_581 rfl (lv_at hl 6 rfl) ?_
  refine lv_iconst (v := 0) hx hb dL_law_582 (by decide) ?_
  refine kg_lald C hP (i := 9) rfl dL_law_583 ?_
  refine lv_iload hx hb dL_law_584 (lv_at hl 0 rfl) ?_
  refine lv_i2l hx hb dL_law_586 rfl ?_
  refine W.lcmp hx hb dL_law_587 ?_
  rw [k_lcmp0 ((hv1 hc1).trans (congrArg Int32.toInt64 (hs.2.1 hc1).symm))]
  refine lv_if_eq (tgt := 593) hx hb dL_law_588 (by decide) (fun z => fin) (fun z => absurd rfl z)
set_option maxHeartbeats 4000000 in
theorem LC_weigh (l : Launch) (hfl : l.stackTraces = false) {p : Program} {e : Env} {s : State} {m : MethodId} {below : List Frame} {meth : Method} {c : Code} {b L : Nat} {xs : Nat → Int32} {g : kG} (oF oC oS oH oR oT oB oM oL oD : Nat) (rC rS rH rR rT rM : Nat → Nat) (oQ : Nat → Nat) (rQ : Nat → Nat → Nat) (aR : Nat → Nat → Int32) {N i cells slots : Nat} (C : kC p c code s m #[Value.ref b] meth RL g 9 ret) (hE : kE g (kAh s) s s.heap) (hNc : kNc s) (hX : va_X b L xs s s.heap) (hbl : b < s.heap.size) (hL : L ≤ 2048) (hi : i + 4 ≤ L) (hN : N < 90000) (hcb : cells + 40 ≤ 605484) (hsb : slots + 2000 ≤ 7191588)
    (ih : kNext l p e s m below meth c b g oF oC oS oH oR oT oB oM oL oD rC rS rH rR rT rM oQ rQ aR i N cells slots) (vF : Nat → Int32) (vC : Nat → Int32) (aC : Nat → Nat → Int32) (vS : Nat → Int32) (aS : Nat → Nat → Int32) (vH : Nat → Int32) (aH : Nat → (Nat → Int32) × (Nat → Nat → Int32)) (vR : Nat → Int32) (vT : Nat → Int32) (aT : Nat → Nat → Int32) (q n : Nat) (ml : Int32) (f : Nat → Int32) (t : Nat → Nat) (k : Nat) (vM : Nat → Int32) (aM : Nat → Nat → Int32) (fL : Nat → Int64) (fD : Nat → UInt64) (H : Heap) (locs : List Loc) (ls : Array Slot) (hR : kRel N vF vC aC vS aS vH aH vR vT aT t k vM aM) (hT : ((n = 16 ∨ n = 34) ∧ k ≤ n ∧ sb_Fit f ∧ sb_Lat t k f)) (hP : kp g [X4W g oF (kFr oC oS oH oR oT oB) vF, X0W g oC rC vC aC, X0W g oS rS vS aS, X2W g oH rH vH oQ rQ aH, X3W g oR rR vR aR, X1W g oT rT vT aT, JOW oB q ml (nI k), JAW g q n f, X5W g oM rM vM aM, OLW g oL fL, ODW g oD fD] H) (hD : kd (kAh s) [X4W g oF (kFr oC oS oH oR oT oB) vF, X0W g oC rC vC aC, X0W g oS rS vS aS, X2W g oH rH vH oQ rQ aH, X3W g oR rR vR aR, X1W g oT rT vT aT, JOW oB q ml (nI k), JAW g q n f, X5W g oM rM vM aM, OLW g oL fL, ODW g oD fD]) (hS : va_S (kAh s) s.heap H locs) (hl : lv_has ls 9 (kLb i b oF oM oL oD)) :
    W p l e room_1 s m #[Value.ref b] below meth c H locs cells slots (lw_Z below #[Value.ref b] s) (F0 m 596 ls []) := by
  have hA : ∀ q, s.heap.size ≤ q → kAh s q := fun q h => h
  have hx := C.1.1
  have hb := C.1.2.1
  have hts := C.1.2.2.2.2
  obtain ⟨⟨nb, nj, hnb, hv7, hnj, hv4, hb5, hj5⟩, hM, hM5, hh, hu, hL1, hL9, hch, hl40, h87, hI⟩ := kRel_hyp (by omega) hR
  refine lv_aload_n hx hb dL_law_596 rfl (lv_at hl 2 rfl) ?_
  refine lv_aload_n hx hb dL_law_597 rfl (lv_at hl 1 rfl) ?_
  refine lv_iload hx hb dL_law_598 (lv_at hl 0 rfl) ?_
  refine lv_iconst (v := 1) hx hb dL_law_600 (by decide) ?_
  refine lv_iadd hx hb dL_law_601 ?_
  refine kg_script (j := 1) C hX hbl hS (by omega) hL dL_law_602 ?_
  refine lv_aload_n hx hb dL_law_603 rfl (lv_at hl 4 rfl) ?_
  have hs := kS_weigh (aR := aR) (by omega) hR (xs (i + 1))
  refine kL_S (As := [.ref oF, .int (xs (i + 1)), .ref oL]) (rest := []) (wr := [X0W g oS rS vS aS, X1W g oT rT vT aT, JOW oB q ml (nI k), JAW g q n f, X5W g oM rM vM aM, ODW g oD fD]) C (L_weigh_c l g oF vF oS oT oB oC rC vC aC oH rH vH oQ rQ aH oR rR vR aR (xs (i + 1)) nb nj hnb hv7 hnj hv4 hM hh hfl oL fL kK_weigh) hNc (vx_cwSW 3 hts (k_gS kw701 cs_L_weigh) rfl rfl rfl pnL_weigh ⟨Nat.le_of_ble_eq_true rfl, Nat.le_of_ble_eq_true rfl⟩) hE hS hA hP hD [0, 1, 3, 4, 9] [2, 5, 6, 7, 8, 10] rfl rfl ⟨rfl, rfl, by decide⟩ rfl hl.1 rfl rfl dL_law_604 ⟨by show _ ≤ 605484; omega, by show _ ≤ 7191588; omega⟩ (fun r u H locs hp hP hD hS => ?_)
  obtain ⟨hr, h1, hv1, hu1⟩ := hp
  subst hu1
  subst hr
  have hP : kp g [X4W g oF (kFr oC oS oH oR oT oB) vF, X0W g oC rC ((X4_weigh_f vF vC aC vH aH vR aR (xs (i + 1))).2.2.1) ((X4_weigh_f vF vC aC vH aH vR aR (xs (i + 1))).2.2.2.1), X0W g oS rS vS aS, X2W g oH rH ((X4_weigh_f vF vC aC vH aH vR aR (xs (i + 1))).2.2.2.2.1) oQ rQ ((X4_weigh_f vF vC aC vH aH vR aR (xs (i + 1))).2.2.2.2.2.1), X3W g oR rR ((X4_weigh_f vF vC aC vH aH vR aR (xs (i + 1))).2.2.2.2.2.2) aR, X1W g oT rT vT aT, JOW oB q ml (nI k), JAW g q n f, X5W g oM rM vM aM, OLW g oL h1, ODW g oD fD] H := hP.pick [6, 7, 0, 8, 9, 1, 2, 3, 4, 10, 5] rfl
  have hD : kd (kAh s) [X4W g oF (kFr oC oS oH oR oT oB) vF, X0W g oC rC ((X4_weigh_f vF vC aC vH aH vR aR (xs (i + 1))).2.2.1) ((X4_weigh_f vF vC aC vH aH vR aR (xs (i + 1))).2.2.2.1), X0W g oS rS vS aS, X2W g oH rH ((X4_weigh_f vF vC aC vH aH vR aR (xs (i + 1))).2.2.2.2.1) oQ rQ ((X4_weigh_f vF vC aC vH aH vR aR (xs (i + 1))).2.2.2.2.2.1), X3W g oR rR ((X4_weigh_f vF vC aC vH aH vR aR (xs (i + 1))).2.2.2.2.2.2) aR, X1W g oT rT vT aT, JOW oB q ml (nI k), JAW g q n f, X5W g oM rM vM aM, OLW g oL h1, ODW g oD fD] := hD.pick [6, 7, 0, 8, 9, 1, 2, 3, 4, 10, 5] rfl rfl
  refine lv_istore (lv' := [(6, .int (kLk1 ((X4_weigh_f vF vC aC vH aH vR aR (xs (i + 1))).1))), (5, .int (nI i)), (0, .ref b), (1, .ref oF), (2, .ref oM), (3, .ref oL), (4, .ref oD)]) hx hb dL_law_607 hl (by decide) rfl (fun ls hl => ?_)
  refine lv_aload_n hx hb dL_law_609 rfl (lv_at hl 4 rfl) ?_
  refine lv_aload_n hx hb dL_law_610 rfl (lv_at hl 2 rfl) ?_
  refine lv_iload hx hb dL_law_611 (lv_at hl 1 rfl) ?_
  refine lv_iconst (v := 1) hx hb dL_law_613 (by decide) ?_
  refine lv_iadd hx hb dL_law_614 ?_
  refine kg_script (j := 1) C hX hbl hS (by omega) hL dL_law_615 ?_
  refine kM_V (As := [.int (xs (i + 1))]) (rest := []) (wr := [X4W g oF (kFr oC oS oH oR oT oB) vF, X0W g oC rC ((X4_weigh_f vF vC aC vH aH vR aR (xs (i + 1))).2.2.1) ((X4_weigh_f vF vC aC vH aH vR aR (xs (i + 1))).2.2.2.1), X0W g oS rS vS aS, X2W g oH rH ((X4_weigh_f vF vC aC vH aH vR aR (xs (i + 1))).2.2.2.2.1) oQ rQ ((X4_weigh_f vF vC aC vH aH vR aR (xs (i + 1))).2.2.2.2.2.1), X3W g oR rR ((X4_weigh_f vF vC aC vH aH vR aR (xs (i + 1))).2.2.2.2.2.2) aR, X1W g oT rT vT aT, JOW oB q ml (nI k), JAW g q n f, OLW g oL h1, ODW g oD fD]) C (X5_weigh_c l g oM rM vM aM (xs (i + 1)) hu ⟨nb, hnb, hb5⟩) (cwV 1 hts (k_gV kw1612 ca_X5_weigh) rfl rfl rfl ⟨rfl, pnX5_weigh⟩ ⟨Nat.le_of_ble_eq_true rfl, Nat.le_of_ble_eq_true rfl⟩) hE hS hA hP hD [8] [0, 1, 2, 3, 4, 5, 6, 7, 9, 10] rfl rfl ⟨rfl, rfl, by decide⟩ (k_recv C kFX5 hP (i := 8) (q := 0) rfl rfl) rfl hl.1 rfl rfl dL_law_616 ⟨by show _ ≤ 605484; omega, by show _ ≤ 7191588; omega⟩ (fun r u H locs hp hP hD hS => ?_)
  obtain ⟨hr, hu⟩ := hp
  subst hu
  subst hr
  have hP : kp g [X4W g oF (kFr oC oS oH oR oT oB) vF, X0W g oC rC ((X4_weigh_f vF vC aC vH aH vR aR (xs (i + 1))).2.2.1) ((X4_weigh_f vF vC aC vH aH vR aR (xs (i + 1))).2.2.2.1), X0W g oS rS vS aS, X2W g oH rH ((X4_weigh_f vF vC aC vH aH vR aR (xs (i + 1))).2.2.2.2.1) oQ rQ ((X4_weigh_f vF vC aC vH aH vR aR (xs (i + 1))).2.2.2.2.2.1), X3W g oR rR ((X4_weigh_f vF vC aC vH aH vR aR (xs (i + 1))).2.2.2.2.2.2) aR, X1W g oT rT vT aT, JOW oB q ml (nI k), JAW g q n f, X5W g oM rM ((X5_weigh_f vM aM (xs (i + 1))).2.1) ((X5_weigh_f vM aM (xs (i + 1))).2.2), OLW g oL h1, ODW g oD fD] H := hP.pick [0, 1, 2, 3, 4, 5, 6, 7, 10, 8, 9] rfl
  have hD : kd (kAh s) [X4W g oF (kFr oC oS oH oR oT oB) vF, X0W g oC rC ((X4_weigh_f vF vC aC vH aH vR aR (xs (i + 1))).2.2.1) ((X4_weigh_f vF vC aC vH aH vR aR (xs (i + 1))).2.2.2.1), X0W g oS rS vS aS, X2W g oH rH ((X4_weigh_f vF vC aC vH aH vR aR (xs (i + 1))).2.2.2.2.1) oQ rQ ((X4_weigh_f vF vC aC vH aH vR aR (xs (i + 1))).2.2.2.2.2.1), X3W g oR rR ((X4_weigh_f vF vC aC vH aH vR aR (xs (i + 1))).2.2.2.2.2.2) aR, X1W g oT rT vT aT, JOW oB q ml (nI k), JAW g q n f, X5W g oM rM ((X5_weigh_f vM aM (xs (i + 1))).2.1) ((X5_weigh_f vM aM (xs (i + 1))).2.2), OLW g oL h1, ODW g oD fD] := hD.pick [0, 1, 2, 3, 4, 5, 6, 7, 10, 8, 9] rfl rfl
  refine lv_istore (lv' := [(7, .int ((X5_weigh_f vM aM (xs (i + 1))).1)), (6, .int (kLk1 ((X4_weigh_f vF vC aC vH aH vR aR (xs (i + 1))).1))), (5, .int (nI i)), (0, .ref b), (1, .ref oF), (2, .ref oM), (3, .ref oL), (4, .ref oD)]) hx hb dL_law_619 hl (by decide) rfl (fun ls hl => ?_)
  refine lv_aload_n hx hb dL_law_621 rfl (lv_at hl 5 rfl) ?_
  refine kR_V (As := []) (rest := []) C (X5_thrown_c l g oM rM ((X5_weigh_f vM aM (xs (i + 1))).2.1) ((X5_weigh_f vM aM (xs (i + 1))).2.2)) (cwV 0 hts (k_gV kw1513 ca_X5_thrown) rfl rfl rfl ⟨rfl, pnX5_thrown⟩ ⟨Nat.le_of_ble_eq_true rfl, Nat.le_of_ble_eq_true rfl⟩) hE hS (hP.pick [8] rfl) (k_recv C kFX5 hP (i := 8) (q := 0) rfl rfl) rfl hl.1 rfl rfl dL_law_622 ⟨by show _ ≤ 605484; omega, by show _ ≤ 7191588; omega⟩ ?_
  refine lv_iload hx hb dL_law_625 (lv_at hl 1 rfl) ?_
  refine lv_icmp_eq (tgt := 632) hx hb dL_law_627 (by decide) (fun z => ?_) (fun z => absurd hs.1 z)
  have fin : W p l e room_1 s m #[Value.ref b] below meth c H locs (cells + 1 + 0) (slots + 6 + 0) (lw_Z below #[Value.ref b] s) (F0 m 649 ls []) := by
    refine lv_goto (tgt := 2358) hx hb dL_law_649 (by decide) ?_
    exact ih _ _ _ _ _ _ _ _ _ _ _ _ _ _ _ _ _ _ _ _ H locs ls _ _ hs.2.2 hT hP hD hS (lv_sub hl [2, 3, 4, 5, 6, 7] rfl) (by omega) (by omega)
  refine lv_iload hx hb dL_law_632 (lv_at hl 1 rfl) ?_
  by_cases hc0 : kLk1 ((X4_weigh_f vF vC aC vH aH vR aR (xs (i + 1))).1) = 0
  rotate_left
  · refine lv_if_ne (tgt := 649) hx hb dL_law_634 (by decide) (fun z => fin) (fun z => absurd z hc0)
  refine lv_if_ne (tgt := 649) hx hb dL_law_634 (by decide) (fun z => absurd hc0 z) (fun z => ?_)
  have hc1 := kLk1_0 hc0
  refine lv_aload_n hx hb dL_law_637 rfl (lv_at hl 6 rfl) ?_
  refine lv_iconst (v := 0) hx hb dL_law_638 (by decide) ?_
  refine kg_lald C hP (i := 9) rfl dL_law_639 ?_
  refine lv_iload hx hb dL_law_640 (lv_at hl 0 rfl) ?_
  refine lv_i2l hx hb dL_law_642 rfl ?_
  refine W.lcmp hx hb dL_law_643 ?_
  rw [k_lcmp0 ((hv1 hc1).trans (congrArg Int32.toInt64 (hs.2.1 hc1).symm))]
  refine lv_if_eq (tgt := 649) hx hb dL_law_644 (by decide) (fun z => fin) (fun z => absurd rfl z)
set_option maxHeartbeats 4000000 in
theorem LC_sell (l : Launch) (hfl : l.stackTraces = false) {p : Program} {e : Env} {s : State} {m : MethodId} {below : List Frame} {meth : Method} {c : Code} {b L : Nat} {xs : Nat → Int32} {g : kG} (oF oC oS oH oR oT oB oM oL oD : Nat) (rC rS rH rR rT rM : Nat → Nat) (oQ : Nat → Nat) (rQ : Nat → Nat → Nat) (aR : Nat → Nat → Int32) {N i cells slots : Nat} (C : kC p c code s m #[Value.ref b] meth RL g 9 ret) (hE : kE g (kAh s) s s.heap) (hNc : kNc s) (hX : va_X b L xs s s.heap) (hbl : b < s.heap.size) (hL : L ≤ 2048) (hi : i + 4 ≤ L) (hN : N < 90000) (hcb : cells + 40 ≤ 605484) (hsb : slots + 2000 ≤ 7191588)
    (ih : kNext l p e s m below meth c b g oF oC oS oH oR oT oB oM oL oD rC rS rH rR rT rM oQ rQ aR i N cells slots) (vF : Nat → Int32) (vC : Nat → Int32) (aC : Nat → Nat → Int32) (vS : Nat → Int32) (aS : Nat → Nat → Int32) (vH : Nat → Int32) (aH : Nat → (Nat → Int32) × (Nat → Nat → Int32)) (vR : Nat → Int32) (vT : Nat → Int32) (aT : Nat → Nat → Int32) (q n : Nat) (ml : Int32) (f : Nat → Int32) (t : Nat → Nat) (k : Nat) (vM : Nat → Int32) (aM : Nat → Nat → Int32) (fL : Nat → Int64) (fD : Nat → UInt64) (H : Heap) (locs : List Loc) (ls : Array Slot) (hR : kRel N vF vC aC vS aS vH aH vR vT aT t k vM aM) (hT : ((n = 16 ∨ n = 34) ∧ k ≤ n ∧ sb_Fit f ∧ sb_Lat t k f)) (hP : kp g [X4W g oF (kFr oC oS oH oR oT oB) vF, X0W g oC rC vC aC, X0W g oS rS vS aS, X2W g oH rH vH oQ rQ aH, X3W g oR rR vR aR, X1W g oT rT vT aT, JOW oB q ml (nI k), JAW g q n f, X5W g oM rM vM aM, OLW g oL fL, ODW g oD fD] H) (hD : kd (kAh s) [X4W g oF (kFr oC oS oH oR oT oB) vF, X0W g oC rC vC aC, X0W g oS rS vS aS, X2W g oH rH vH oQ rQ aH, X3W g oR rR vR aR, X1W g oT rT vT aT, JOW oB q ml (nI k), JAW g q n f, X5W g oM rM vM aM, OLW g oL fL, ODW g oD fD]) (hS : va_S (kAh s) s.heap H locs) (hl : lv_has ls 9 (kLb i b oF oM oL oD)) :
    W p l e room_1 s m #[Value.ref b] below meth c H locs cells slots (lw_Z below #[Value.ref b] s) (F0 m 652 ls []) := by
  have hA : ∀ q, s.heap.size ≤ q → kAh s q := fun q h => h
  have hx := C.1.1
  have hb := C.1.2.1
  have hts := C.1.2.2.2.2
  obtain ⟨⟨nb, nj, hnb, hv7, hnj, hv4, hb5, hj5⟩, hM, hM5, hh, hu, hL1, hL9, hch, hl40, h87, hI⟩ := kRel_hyp (by omega) hR
  refine lv_aload_n hx hb dL_law_652 rfl (lv_at hl 2 rfl) ?_
  refine lv_aload_n hx hb dL_law_653 rfl (lv_at hl 1 rfl) ?_
  refine lv_iload hx hb dL_law_654 (lv_at hl 0 rfl) ?_
  refine lv_iconst (v := 1) hx hb dL_law_656 (by decide) ?_
  refine lv_iadd hx hb dL_law_657 ?_
  refine kg_script (j := 1) C hX hbl hS (by omega) hL dL_law_658 ?_
  refine lv_aload_n hx hb dL_law_659 rfl (lv_at hl 4 rfl) ?_
  have hs := kS_sell (aR := aR) (by omega) hR (xs (i + 1))
  refine kL_S (As := [.ref oF, .int (xs (i + 1)), .ref oL]) (rest := []) (wr := [X0W g oS rS vS aS, X1W g oT rT vT aT, JOW oB q ml (nI k), JAW g q n f, X5W g oM rM vM aM, ODW g oD fD]) C (L_sell_c l g oF vF oS oT oB oC rC vC aC oH rH vH oQ rQ aH oR rR vR aR (xs (i + 1)) nb nj hnb hv7 hnj hv4 hM hh hfl oL fL kK_sell) hNc (vx_cwSW 3 hts (k_gS kw708 cs_L_sell) rfl rfl rfl pnL_sell ⟨Nat.le_of_ble_eq_true rfl, Nat.le_of_ble_eq_true rfl⟩) hE hS hA hP hD [0, 1, 3, 4, 9] [2, 5, 6, 7, 8, 10] rfl rfl ⟨rfl, rfl, by decide⟩ rfl hl.1 rfl rfl dL_law_660 ⟨by show _ ≤ 605484; omega, by show _ ≤ 7191588; omega⟩ (fun r u H locs hp hP hD hS => ?_)
  obtain ⟨hr, h1, hv1, hu1⟩ := hp
  subst hu1
  subst hr
  have hP : kp g [X4W g oF (kFr oC oS oH oR oT oB) vF, X0W g oC rC ((X4_sell_f vF vC aC vH aH vR aR (xs (i + 1))).2.2.1) ((X4_sell_f vF vC aC vH aH vR aR (xs (i + 1))).2.2.2.1), X0W g oS rS vS aS, X2W g oH rH ((X4_sell_f vF vC aC vH aH vR aR (xs (i + 1))).2.2.2.2.1) oQ rQ ((X4_sell_f vF vC aC vH aH vR aR (xs (i + 1))).2.2.2.2.2.1), X3W g oR rR ((X4_sell_f vF vC aC vH aH vR aR (xs (i + 1))).2.2.2.2.2.2) aR, X1W g oT rT vT aT, JOW oB q ml (nI k), JAW g q n f, X5W g oM rM vM aM, OLW g oL h1, ODW g oD fD] H := hP.pick [6, 7, 0, 8, 9, 1, 2, 3, 4, 10, 5] rfl
  have hD : kd (kAh s) [X4W g oF (kFr oC oS oH oR oT oB) vF, X0W g oC rC ((X4_sell_f vF vC aC vH aH vR aR (xs (i + 1))).2.2.1) ((X4_sell_f vF vC aC vH aH vR aR (xs (i + 1))).2.2.2.1), X0W g oS rS vS aS, X2W g oH rH ((X4_sell_f vF vC aC vH aH vR aR (xs (i + 1))).2.2.2.2.1) oQ rQ ((X4_sell_f vF vC aC vH aH vR aR (xs (i + 1))).2.2.2.2.2.1), X3W g oR rR ((X4_sell_f vF vC aC vH aH vR aR (xs (i + 1))).2.2.2.2.2.2) aR, X1W g oT rT vT aT, JOW oB q ml (nI k), JAW g q n f, X5W g oM rM vM aM, OLW g oL h1, ODW g oD fD] := hD.pick [6, 7, 0, 8, 9, 1, 2, 3, 4, 10, 5] rfl rfl
  refine lv_istore (lv' := [(6, .int (kLk1 ((X4_sell_f vF vC aC vH aH vR aR (xs (i + 1))).1))), (5, .int (nI i)), (0, .ref b), (1, .ref oF), (2, .ref oM), (3, .ref oL), (4, .ref oD)]) hx hb dL_law_663 hl (by decide) rfl (fun ls hl => ?_)
  refine lv_aload_n hx hb dL_law_665 rfl (lv_at hl 4 rfl) ?_
  refine lv_aload_n hx hb dL_law_666 rfl (lv_at hl 2 rfl) ?_
  refine lv_iload hx hb dL_law_667 (lv_at hl 1 rfl) ?_
  refine lv_iconst (v := 1) hx hb dL_law_669 (by decide) ?_
  refine lv_iadd hx hb dL_law_670 ?_
  refine kg_script (j := 1) C hX hbl hS (by omega) hL dL_law_671 ?_
  refine kM_V (As := [.int (xs (i + 1))]) (rest := []) (wr := [X4W g oF (kFr oC oS oH oR oT oB) vF, X0W g oC rC ((X4_sell_f vF vC aC vH aH vR aR (xs (i + 1))).2.2.1) ((X4_sell_f vF vC aC vH aH vR aR (xs (i + 1))).2.2.2.1), X0W g oS rS vS aS, X2W g oH rH ((X4_sell_f vF vC aC vH aH vR aR (xs (i + 1))).2.2.2.2.1) oQ rQ ((X4_sell_f vF vC aC vH aH vR aR (xs (i + 1))).2.2.2.2.2.1), X3W g oR rR ((X4_sell_f vF vC aC vH aH vR aR (xs (i + 1))).2.2.2.2.2.2) aR, X1W g oT rT vT aT, JOW oB q ml (nI k), JAW g q n f, OLW g oL h1, ODW g oD fD]) C (X5_sell_c l g oM rM vM aM (xs (i + 1)) hu ⟨nb, hnb, hb5⟩ hM5) (cwV 1 hts (k_gV kw1640 ca_X5_sell) rfl rfl rfl ⟨rfl, pnX5_sell⟩ ⟨Nat.le_of_ble_eq_true rfl, Nat.le_of_ble_eq_true rfl⟩) hE hS hA hP hD [8] [0, 1, 2, 3, 4, 5, 6, 7, 9, 10] rfl rfl ⟨rfl, rfl, by decide⟩ (k_recv C kFX5 hP (i := 8) (q := 0) rfl rfl) rfl hl.1 rfl rfl dL_law_672 ⟨by show _ ≤ 605484; omega, by show _ ≤ 7191588; omega⟩ (fun r u H locs hp hP hD hS => ?_)
  obtain ⟨hr, hu⟩ := hp
  subst hu
  subst hr
  have hP : kp g [X4W g oF (kFr oC oS oH oR oT oB) vF, X0W g oC rC ((X4_sell_f vF vC aC vH aH vR aR (xs (i + 1))).2.2.1) ((X4_sell_f vF vC aC vH aH vR aR (xs (i + 1))).2.2.2.1), X0W g oS rS vS aS, X2W g oH rH ((X4_sell_f vF vC aC vH aH vR aR (xs (i + 1))).2.2.2.2.1) oQ rQ ((X4_sell_f vF vC aC vH aH vR aR (xs (i + 1))).2.2.2.2.2.1), X3W g oR rR ((X4_sell_f vF vC aC vH aH vR aR (xs (i + 1))).2.2.2.2.2.2) aR, X1W g oT rT vT aT, JOW oB q ml (nI k), JAW g q n f, X5W g oM rM ((X5_sell_f vM aM (xs (i + 1))).2.1) ((X5_sell_f vM aM (xs (i + 1))).2.2), OLW g oL h1, ODW g oD fD] H := hP.pick [0, 1, 2, 3, 4, 5, 6, 7, 10, 8, 9] rfl
  have hD : kd (kAh s) [X4W g oF (kFr oC oS oH oR oT oB) vF, X0W g oC rC ((X4_sell_f vF vC aC vH aH vR aR (xs (i + 1))).2.2.1) ((X4_sell_f vF vC aC vH aH vR aR (xs (i + 1))).2.2.2.1), X0W g oS rS vS aS, X2W g oH rH ((X4_sell_f vF vC aC vH aH vR aR (xs (i + 1))).2.2.2.2.1) oQ rQ ((X4_sell_f vF vC aC vH aH vR aR (xs (i + 1))).2.2.2.2.2.1), X3W g oR rR ((X4_sell_f vF vC aC vH aH vR aR (xs (i + 1))).2.2.2.2.2.2) aR, X1W g oT rT vT aT, JOW oB q ml (nI k), JAW g q n f, X5W g oM rM ((X5_sell_f vM aM (xs (i + 1))).2.1) ((X5_sell_f vM aM (xs (i + 1))).2.2), OLW g oL h1, ODW g oD fD] := hD.pick [0, 1, 2, 3, 4, 5, 6, 7, 10, 8, 9] rfl rfl
  refine lv_istore (lv' := [(7, .int ((X5_sell_f vM aM (xs (i + 1))).1)), (6, .int (kLk1 ((X4_sell_f vF vC aC vH aH vR aR (xs (i + 1))).1))), (5, .int (nI i)), (0, .ref b), (1, .ref oF), (2, .ref oM), (3, .ref oL), (4, .ref oD)]) hx hb dL_law_675 hl (by decide) rfl (fun ls hl => ?_)
  refine lv_aload_n hx hb dL_law_677 rfl (lv_at hl 5 rfl) ?_
  refine kR_V (As := []) (rest := []) C (X5_thrown_c l g oM rM ((X5_sell_f vM aM (xs (i + 1))).2.1) ((X5_sell_f vM aM (xs (i + 1))).2.2)) (cwV 0 hts (k_gV kw1513 ca_X5_thrown) rfl rfl rfl ⟨rfl, pnX5_thrown⟩ ⟨Nat.le_of_ble_eq_true rfl, Nat.le_of_ble_eq_true rfl⟩) hE hS (hP.pick [8] rfl) (k_recv C kFX5 hP (i := 8) (q := 0) rfl rfl) rfl hl.1 rfl rfl dL_law_678 ⟨by show _ ≤ 605484; omega, by show _ ≤ 7191588; omega⟩ ?_
  refine lv_iload hx hb dL_law_681 (lv_at hl 1 rfl) ?_
  refine lv_icmp_eq (tgt := 688) hx hb dL_law_683 (by decide) (fun z => ?_) (fun z => absurd hs.1 z)
  have fin : W p l e room_1 s m #[Value.ref b] below meth c H locs (cells + 1 + 0) (slots + 6 + 0) (lw_Z below #[Value.ref b] s) (F0 m 705 ls []) := by
    refine lv_goto (tgt := 2358) hx hb dL_law_705 (by decide) ?_
    exact ih _ _ _ _ _ _ _ _ _ _ _ _ _ _ _ _ _ _ _ _ H locs ls _ _ hs.2.2 hT hP hD hS (lv_sub hl [2, 3, 4, 5, 6, 7] rfl) (by omega) (by omega)
  refine lv_iload hx hb dL_law_688 (lv_at hl 1 rfl) ?_
  by_cases hc0 : kLk1 ((X4_sell_f vF vC aC vH aH vR aR (xs (i + 1))).1) = 0
  rotate_left
  · refine lv_if_ne (tgt := 705) hx hb dL_law_690 (by decide) (fun z => fin) (fun z => absurd z hc0)
  refine lv_if_ne (tgt := 705) hx hb dL_law_690 (by decide) (fun z => absurd hc0 z) (fun z => ?_)
  have hc1 := kLk1_0 hc0
  refine lv_aload_n hx hb dL_law_693 rfl (lv_at hl 6 rfl) ?_
  refine lv_iconst (v := 0) hx hb dL_law_694 (by decide) ?_
  refine kg_lald C hP (i := 9) rfl dL_law_695 ?_
  refine lv_iload hx hb dL_law_696 (lv_at hl 0 rfl) ?_
  refine lv_i2l hx hb dL_law_698 rfl ?_
  refine W.lcmp hx hb dL_law_699 ?_
  rw [k_lcmp0 ((hv1 hc1).trans (congrArg Int32.toInt64 (hs.2.1 hc1).symm))]
  refine lv_if_eq (tgt := 705) hx hb dL_law_700 (by decide) (fun z => fin) (fun z => absurd rfl z)
