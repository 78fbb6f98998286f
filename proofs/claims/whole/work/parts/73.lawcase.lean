theorem kw843 : Cond.methodLink RL 201 yL_toldAgain ∈ kW := k_w 5 17 rfl rfl
theorem kw859 : Cond.methodLink RL 204 yL_onPan ∈ kW := k_w 5 33 rfl rfl
theorem kw866 : Cond.methodLink RL 207 yL_rest ∈ kW := k_w 5 40 rfl rfl
theorem kw873 : Cond.methodLink RL 210 yL_honest ∈ kW := k_w 5 47 rfl rfl
theorem kw880 : Cond.methodLink RL 213 yL_pays ∈ kW := k_w 5 54 rfl rfl
theorem kw895 : Cond.methodLink RL 216 yL_wouldGet ∈ kW := k_w 5 69 rfl rfl
theorem kw925 : Cond.methodLink RL 219 yL_bestMarket ∈ kW := k_w 5 99 rfl rfl
theorem kw937 : Cond.methodLink RL 222 yL_oathUntil ∈ kW := k_w 5 111 rfl rfl
theorem kw1725 : Cond.methodLink RL 203 yX5_toldAgain ∈ kW := k_w 8 179 rfl rfl
theorem kw1730 : Cond.methodLink RL 206 yX5_onPan ∈ kW := k_w 8 184 rfl rfl
theorem kw1734 : Cond.methodLink RL 209 yX5_rest ∈ kW := k_w 8 188 rfl rfl
theorem kw1738 : Cond.methodLink RL 212 yX5_honest ∈ kW := k_w 8 192 rfl rfl
theorem kw1742 : Cond.methodLink RL 215 yX5_pays ∈ kW := k_w 8 196 rfl rfl
theorem kw1746 : Cond.methodLink RL 218 yX5_wouldGet ∈ kW := k_w 8 200 rfl rfl
theorem kw1754 : Cond.methodLink RL 221 yX5_bestMarket ∈ kW := k_w 8 208 rfl rfl
theorem kw1758 : Cond.methodLink RL 224 yX5_oathUntil ∈ kW := k_w 8 212 rfl rfl
set_option maxHeartbeats 4000000 in
theorem LC_toldAgain (l : Launch) (hfl : l.stackTraces = false) {p : Program} {e : Env} {s : State} {m : MethodId} {below : List Frame} {meth : Method} {c : Code} {b L : Nat} {xs : Nat → Int32} {g : kG} (oF oC oS oH oR oT oB oM oL oD : Nat) (rC rS rH rR rT rM : Nat → Nat) (oQ : Nat → Nat) (rQ : Nat → Nat → Nat) (aR : Nat → Nat → Int32) {N i cells slots : Nat} (C : kC p c code s m #[Value.ref b] meth RL g 9 ret) (hE : kE g (kAh s) s s.heap) (hNc : kNc s) (hX : va_X b L xs s s.heap) (hbl : b < s.heap.size) (hL : L ≤ 2048) (hi : i + 4 ≤ L) (hN : N < 90000) (hcb : cells + 40 ≤ 605484) (hsb : slots + 2000 ≤ 7191588)
    (ih : kNext l p e s m below meth c b g oF oC oS oH oR oT oB oM oL oD rC rS rH rR rT rM oQ rQ aR i N cells slots) (vF : Nat → Int32) (vC : Nat → Int32) (aC : Nat → Nat → Int32) (vS : Nat → Int32) (aS : Nat → Nat → Int32) (vH : Nat → Int32) (aH : Nat → (Nat → Int32) × (Nat → Nat → Int32)) (vR : Nat → Int32) (vT : Nat → Int32) (aT : Nat → Nat → Int32) (q n : Nat) (ml : Int32) (f : Nat → Int32) (t : Nat → Nat) (k : Nat) (vM : Nat → Int32) (aM : Nat → Nat → Int32) (fL : Nat → Int64) (fD : Nat → UInt64) (H : Heap) (locs : List Loc) (ls : Array Slot) (hR : kRel N vF vC aC vS aS vH aH vR vT aT t k vM aM) (hT : ((n = 16 ∨ n = 34) ∧ k ≤ n ∧ sb_Fit f ∧ sb_Lat t k f)) (hP : kp g [X4W g oF (kFr oC oS oH oR oT oB) vF, X0W g oC rC vC aC, X0W g oS rS vS aS, X2W g oH rH vH oQ rQ aH, X3W g oR rR vR aR, X1W g oT rT vT aT, JOW oB q ml (nI k), JAW g q n f, X5W g oM rM vM aM, OLW g oL fL, ODW g oD fD] H) (hD : kd (kAh s) [X4W g oF (kFr oC oS oH oR oT oB) vF, X0W g oC rC vC aC, X0W g oS rS vS aS, X2W g oH rH vH oQ rQ aH, X3W g oR rR vR aR, X1W g oT rT vT aT, JOW oB q ml (nI k), JAW g q n f, X5W g oM rM vM aM, OLW g oL fL, ODW g oD fD]) (hS : va_S (kAh s) s.heap H locs) (hl : lv_has ls 9 (kLb i b oF oM oL oD)) :
    W p l e room_1 s m #[Value.ref b] below meth c H locs cells slots (lw_Z below #[Value.ref b] s) (F0 m 1196 ls []) := by
  have hA : ∀ q, s.heap.size ≤ q → kAh s q := fun q h => h
  have hx := C.1.1
  have hb := C.1.2.1
  have hts := C.1.2.2.2.2
  obtain ⟨⟨nb, nj, hnb, hv7, hnj, hv4, hb5, hj5⟩, hM, hM5, hh, hu, hL1, hL9, hch, hl40, h87, hI⟩ := kRel_hyp (by omega) hR
  refine lv_aload_n hx hb dL_law_1196 rfl (lv_at hl 2 rfl) ?_
  refine lv_aload_n hx hb dL_law_1197 rfl (lv_at hl 1 rfl) ?_
  refine lv_iload hx hb dL_law_1198 (lv_at hl 0 rfl) ?_
  refine lv_iconst (v := 1) hx hb dL_law_1200 (by decide) ?_
  refine lv_iadd hx hb dL_law_1201 ?_
  refine kg_script (j := 1) C hX hbl hS (by omega) hL dL_law_1202 ?_
  refine lv_aload_n hx hb dL_law_1203 rfl (lv_at hl 4 rfl) ?_
  have hs := kS_toldAgain (aR := aR) (by omega) hR (xs (i + 1))
  refine kL_S (As := [.ref oF, .int (xs (i + 1)), .ref oL]) (rest := []) (wr := [X0W g oS rS vS aS, X2W g oH rH vH oQ rQ aH, X3W g oR rR vR aR, X1W g oT rT vT aT, JOW oB q ml (nI k), JAW g q n f, X5W g oM rM vM aM, ODW g oD fD]) C (L_toldAgain_c l g oF vF oS oH oR oT oB oC rC vC aC (xs (i + 1)) nb hnb hv7 hfl oL fL kK_toldAgain) hNc (vx_cwSW 3 hts (k_gS kw843 cs_L_toldAgain) rfl rfl rfl pnL_toldAgain ⟨Nat.le_of_ble_eq_true rfl, Nat.le_of_ble_eq_true rfl⟩) hE hS hA hP hD [0, 1, 9] [2, 3, 4, 5, 6, 7, 8, 10] rfl rfl ⟨rfl, rfl, by decide⟩ rfl hl.1 rfl rfl dL_law_1204 ⟨by show _ ≤ 605484; omega, by show _ ≤ 7191588; omega⟩ (fun r u H locs hp hP hD hS => ?_)
  obtain ⟨hr, h1, hv1, hu1⟩ := hp
  subst hu1
  subst hr
  have hP : kp g [X4W g oF (kFr oC oS oH oR oT oB) vF, X0W g oC rC vC aC, X0W g oS rS vS aS, X2W g oH rH vH oQ rQ aH, X3W g oR rR vR aR, X1W g oT rT vT aT, JOW oB q ml (nI k), JAW g q n f, X5W g oM rM vM aM, OLW g oL h1, ODW g oD fD] H := hP.pick [8, 9, 0, 1, 2, 3, 4, 5, 6, 10, 7] rfl
  have hD : kd (kAh s) [X4W g oF (kFr oC oS oH oR oT oB) vF, X0W g oC rC vC aC, X0W g oS rS vS aS, X2W g oH rH vH oQ rQ aH, X3W g oR rR vR aR, X1W g oT rT vT aT, JOW oB q ml (nI k), JAW g q n f, X5W g oM rM vM aM, OLW g oL h1, ODW g oD fD] := hD.pick [8, 9, 0, 1, 2, 3, 4, 5, 6, 10, 7] rfl rfl
  refine lv_istore (lv' := [(6, .int (kLk1 ((X4_toldAgain_f vF vC aC (xs (i + 1))).1))), (5, .int (nI i)), (0, .ref b), (1, .ref oF), (2, .ref oM), (3, .ref oL), (4, .ref oD)]) hx hb dL_law_1207 hl (by decide) rfl (fun ls hl => ?_)
  refine lv_aload_n hx hb dL_law_1209 rfl (lv_at hl 4 rfl) ?_
  refine lv_aload_n hx hb dL_law_1210 rfl (lv_at hl 2 rfl) ?_
  refine lv_iload hx hb dL_law_1211 (lv_at hl 1 rfl) ?_
  refine lv_iconst (v := 1) hx hb dL_law_1213 (by decide) ?_
  refine lv_iadd hx hb dL_law_1214 ?_
  refine kg_script (j := 1) C hX hbl hS (by omega) hL dL_law_1215 ?_
  refine kM_V (As := [.int (xs (i + 1))]) (rest := []) (wr := [X4W g oF (kFr oC oS oH oR oT oB) vF, X0W g oC rC vC aC, X0W g oS rS vS aS, X2W g oH rH vH oQ rQ aH, X3W g oR rR vR aR, X1W g oT rT vT aT, JOW oB q ml (nI k), JAW g q n f, OLW g oL h1, ODW g oD fD]) C (X5_toldAgain_c l g oM rM vM aM (xs (i + 1)) ⟨nb, hnb, hb5⟩) (cwV 1 hts (k_gV kw1725 ca_X5_toldAgain) rfl rfl rfl ⟨rfl, pnX5_toldAgain⟩ ⟨Nat.le_of_ble_eq_true rfl, Nat.le_of_ble_eq_true rfl⟩) hE hS hA hP hD [8] [0, 1, 2, 3, 4, 5, 6, 7, 9, 10] rfl rfl ⟨rfl, rfl, by decide⟩ (k_recv C kFX5 hP (i := 8) (q := 0) rfl rfl) rfl hl.1 rfl rfl dL_law_1216 ⟨by show _ ≤ 605484; omega, by show _ ≤ 7191588; omega⟩ (fun r u H locs hp hP hD hS => ?_)
  obtain ⟨hr, hu⟩ := hp
  subst hu
  subst hr
  have hP : kp g [X4W g oF (kFr oC oS oH oR oT oB) vF, X0W g oC rC vC aC, X0W g oS rS vS aS, X2W g oH rH vH oQ rQ aH, X3W g oR rR vR aR, X1W g oT rT vT aT, JOW oB q ml (nI k), JAW g q n f, X5W g oM rM ((X5_toldAgain_f vM aM (xs (i + 1))).2) aM, OLW g oL h1, ODW g oD fD] H := hP.pick [0, 1, 2, 3, 4, 5, 6, 7, 10, 8, 9] rfl
  have hD : kd (kAh s) [X4W g oF (kFr oC oS oH oR oT oB) vF, X0W g oC rC vC aC, X0W g oS rS vS aS, X2W g oH rH vH oQ rQ aH, X3W g oR rR vR aR, X1W g oT rT vT aT, JOW oB q ml (nI k), JAW g q n f, X5W g oM rM ((X5_toldAgain_f vM aM (xs (i + 1))).2) aM, OLW g oL h1, ODW g oD fD] := hD.pick [0, 1, 2, 3, 4, 5, 6, 7, 10, 8, 9] rfl rfl
  refine lv_istore (lv' := [(7, .int ((X5_toldAgain_f vM aM (xs (i + 1))).1)), (6, .int (kLk1 ((X4_toldAgain_f vF vC aC (xs (i + 1))).1))), (5, .int (nI i)), (0, .ref b), (1, .ref oF), (2, .ref oM), (3, .ref oL), (4, .ref oD)]) hx hb dL_law_1219 hl (by decide) rfl (fun ls hl => ?_)
  refine lv_aload_n hx hb dL_law_1221 rfl (lv_at hl 5 rfl) ?_
  refine kR_V (As := []) (rest := []) C (X5_thrown_c l g oM rM ((X5_toldAgain_f vM aM (xs (i + 1))).2) aM) (cwV 0 hts (k_gV kw1513 ca_X5_thrown) rfl rfl rfl ⟨rfl, pnX5_thrown⟩ ⟨Nat.le_of_ble_eq_true rfl, Nat.le_of_ble_eq_true rfl⟩) hE hS (hP.pick [8] rfl) (k_recv C kFX5 hP (i := 8) (q := 0) rfl rfl) rfl hl.1 rfl rfl dL_law_1222 ⟨by show _ ≤ 605484; omega, by show _ ≤ 7191588; omega⟩ ?_
  refine lv_iload hx hb dL_law_1225 (lv_at hl 1 rfl) ?_
  refine lv_icmp_eq (tgt := 1232) hx hb dL_law_1227 (by decide) (fun z => ?_) (fun z => absurd hs.1 z)
  have fin : W p l e room_1 s m #[Value.ref b] below meth c H locs (cells + 1 + 0) (slots + 6 + 0) (lw_Z below #[Value.ref b] s) (F0 m 1249 ls []) := by
    refine lv_goto (tgt := 2358) hx hb dL_law_1249 (by decide) ?_
    exact ih _ _ _ _ _ _ _ _ _ _ _ _ _ _ _ _ _ _ _ _ H locs ls _ _ hs.2.2 hT hP hD hS (lv_sub hl [2, 3, 4, 5, 6, 7] rfl) (by omega) (by omega)
  refine lv_iload hx hb dL_law_1232 (lv_at hl 1 rfl) ?_
  by_cases hc0 : kLk1 ((X4_toldAgain_f vF vC aC (xs (i + 1))).1) = 0
  rotate_left
  · refine lv_if_ne (tgt := 1249) hx hb dL_law_1234 (by decide) (fun z => fin) (fun z => absurd z hc0)
  refine lv_if_ne (tgt := 1249) hx hb dL_law_1234 (by decide) (fun z => absurd hc0 z) (fun z => ?_)
  have hc1 := kLk1_0 hc0
  refine lv_aload_n hx hb dL_law_1237 rfl (lv_at hl 6 rfl) ?_
  refine lv_iconst (v := 0) hx hb dL_law_1238 (by decide) ?_
  refine kg_lald C hP (i := 9) rfl dL_law_1239 ?_
  refine lv_iload hx hb dL_law_1240 (lv_at hl 0 rfl) ?_
  refine lv_i2l hx hb dL_law_1242 rfl ?_
  refine W.lcmp hx hb dL_law_1243 ?_
  rw [k_lcmp0 ((hv1 hc1).trans (congrArg Int32.toInt64 (hs.2.1 hc1).symm))]
  refine lv_if_eq (tgt := 1249) hx hb dL_law_1244 (by decide) (fun z => fin) (fun z => absurd rfl z)
set_option maxHeartbeats 4000000 in
theorem LC_onPan (l : Launch) (hfl : l.stackTraces = false) {p : Program} {e : Env} {s : State} {m : MethodId} {below : List Frame} {meth : Method} {c : Code} {b L : Nat} {xs : Nat → Int32} {g : kG} (oF oC oS oH oR oT oB oM oL oD : Nat) (rC rS rH rR rT rM : Nat → Nat) (oQ : Nat → Nat) (rQ : Nat → Nat → Nat) (aR : Nat → Nat → Int32) {N i cells slots : Nat} (C : kC p c code s m #[Value.ref b] meth RL g 9 ret) (hE : kE g (kAh s) s s.heap) (hNc : kNc s) (hX : va_X b L xs s s.heap) (hbl : b < s.heap.size) (hL : L ≤ 2048) (hi : i + 4 ≤ L) (hN : N < 90000) (hcb : cells + 40 ≤ 605484) (hsb : slots + 2000 ≤ 7191588)
    (ih : kNext l p e s m below meth c b g oF oC oS oH oR oT oB oM oL oD rC rS rH rR rT rM oQ rQ aR i N cells slots) (vF : Nat → Int32) (vC : Nat → Int32) (aC : Nat → Nat → Int32) (vS : Nat → Int32) (aS : Nat → Nat → Int32) (vH : Nat → Int32) (aH : Nat → (Nat → Int32) × (Nat → Nat → Int32)) (vR : Nat → Int32) (vT : Nat → Int32) (aT : Nat → Nat → Int32) (q n : Nat) (ml : Int32) (f : Nat → Int32) (t : Nat → Nat) (k : Nat) (vM : Nat → Int32) (aM : Nat → Nat → Int32) (fL : Nat → Int64) (fD : Nat → UInt64) (H : Heap) (locs : List Loc) (ls : Array Slot) (hR : kRel N vF vC aC vS aS vH aH vR vT aT t k vM aM) (hT : ((n = 16 ∨ n = 34) ∧ k ≤ n ∧ sb_Fit f ∧ sb_Lat t k f)) (hP : kp g [X4W g oF (kFr oC oS oH oR oT oB) vF, X0W g oC rC vC aC, X0W g oS rS vS aS, X2W g oH rH vH oQ rQ aH, X3W g oR rR vR aR, X1W g oT rT vT aT, JOW oB q ml (nI k), JAW g q n f, X5W g oM rM vM aM, OLW g oL fL, ODW g oD fD] H) (hD : kd (kAh s) [X4W g oF (kFr oC oS oH oR oT oB) vF, X0W g oC rC vC aC, X0W g oS rS vS aS, X2W g oH rH vH oQ rQ aH, X3W g oR rR vR aR, X1W g oT rT vT aT, JOW oB q ml (nI k), JAW g q n f, X5W g oM rM vM aM, OLW g oL fL, ODW g oD fD]) (hS : va_S (kAh s) s.heap H locs) (hl : lv_has ls 9 (kLb i b oF oM oL oD)) :
    W p l e room_1 s m #[Value.ref b] below meth c H locs cells slots (lw_Z below #[Value.ref b] s) (F0 m 1252 ls []) := by
  have hA : ∀ q, s.heap.size ≤ q → kAh s q := fun q h => h
  have hx := C.1.1
  have hb := C.1.2.1
  have hts := C.1.2.2.2.2
  obtain ⟨⟨nb, nj, hnb, hv7, hnj, hv4, hb5, hj5⟩, hM, hM5, hh, hu, hL1, hL9, hch, hl40, h87, hI⟩ := kRel_hyp (by omega) hR
  refine lv_aload_n hx hb dL_law_1252 rfl (lv_at hl 2 rfl) ?_
  refine lv_aload_n hx hb dL_law_1253 rfl (lv_at hl 1 rfl) ?_
  refine lv_iload hx hb dL_law_1254 (lv_at hl 0 rfl) ?_
  refine lv_iconst (v := 1) hx hb dL_law_1256 (by decide) ?_
  refine lv_iadd hx hb dL_law_1257 ?_
  refine kg_script (j := 1) C hX hbl hS (by omega) hL dL_law_1258 ?_
  refine lv_aload_n hx hb dL_law_1259 rfl (lv_at hl 4 rfl) ?_
  have hs := kS_onPan (aR := aR) (by omega) hR (xs (i + 1))
  refine kL_S (As := [.ref oF, .int (xs (i + 1)), .ref oL]) (rest := []) (wr := [X0W g oS rS vS aS, X2W g oH rH vH oQ rQ aH, X3W g oR rR vR aR, X1W g oT rT vT aT, JOW oB q ml (nI k), JAW g q n f, X5W g oM rM vM aM, ODW g oD fD]) C (L_onPan_c l g oF vF oS oH oR oT oB oC rC vC aC (xs (i + 1)) nb hnb hv7 hfl oL fL kK_onPan) hNc (vx_cwSW 3 hts (k_gS kw859 cs_L_onPan) rfl rfl rfl pnL_onPan ⟨Nat.le_of_ble_eq_true rfl, Nat.le_of_ble_eq_true rfl⟩) hE hS hA hP hD [0, 1, 9] [2, 3, 4, 5, 6, 7, 8, 10] rfl rfl ⟨rfl, rfl, by decide⟩ rfl hl.1 rfl rfl dL_law_1260 ⟨by show _ ≤ 605484; omega, by show _ ≤ 7191588; omega⟩ (fun r u H locs hp hP hD hS => ?_)
  obtain ⟨hr, h1, hv1, hu1⟩ := hp
  subst hu1
  subst hr
  have hP : kp g [X4W g oF (kFr oC oS oH oR oT oB) vF, X0W g oC rC vC aC, X0W g oS rS vS aS, X2W g oH rH vH oQ rQ aH, X3W g oR rR vR aR, X1W g oT rT vT aT, JOW oB q ml (nI k), JAW g q n f, X5W g oM rM vM aM, OLW g oL h1, ODW g oD fD] H := hP.pick [8, 9, 0, 1, 2, 3, 4, 5, 6, 10, 7] rfl
  have hD : kd (kAh s) [X4W g oF (kFr oC oS oH oR oT oB) vF, X0W g oC rC vC aC, X0W g oS rS vS aS, X2W g oH rH vH oQ rQ aH, X3W g oR rR vR aR, X1W g oT rT vT aT, JOW oB q ml (nI k), JAW g q n f, X5W g oM rM vM aM, OLW g oL h1, ODW g oD fD] := hD.pick [8, 9, 0, 1, 2, 3, 4, 5, 6, 10, 7] rfl rfl
  refine lv_istore (lv' := [(6, .int (kLk1 ((X4_onPan_f vF vC aC (xs (i + 1))).1))), (5, .int (nI i)), (0, .ref b), (1, .ref oF), (2, .ref oM), (3, .ref oL), (4, .ref oD)]) hx hb dL_law_1263 hl (by decide) rfl (fun ls hl => ?_)
  refine lv_aload_n hx hb dL_law_1265 rfl (lv_at hl 4 rfl) ?_
  refine lv_aload_n hx hb dL_law_1266 rfl (lv_at hl 2 rfl) ?_
  refine lv_iload hx hb dL_law_1267 (lv_at hl 1 rfl) ?_
  refine lv_iconst (v := 1) hx hb dL_law_1269 (by decide) ?_
  refine lv_iadd hx hb dL_law_1270 ?_
  refine kg_script (j := 1) C hX hbl hS (by omega) hL dL_law_1271 ?_
  refine kM_V (As := [.int (xs (i + 1))]) (rest := []) (wr := [X4W g oF (kFr oC oS oH oR oT oB) vF, X0W g oC rC vC aC, X0W g oS rS vS aS, X2W g oH rH vH oQ rQ aH, X3W g oR rR vR aR, X1W g oT rT vT aT, JOW oB q ml (nI k), JAW g q n f, OLW g oL h1, ODW g oD fD]) C (X5_onPan_c l g oM rM vM aM (xs (i + 1)) ⟨nb, hnb, hb5⟩) (cwV 1 hts (k_gV kw1730 ca_X5_onPan) rfl rfl rfl ⟨rfl, pnX5_onPan⟩ ⟨Nat.le_of_ble_eq_true rfl, Nat.le_of_ble_eq_true rfl⟩) hE hS hA hP hD [8] [0, 1, 2, 3, 4, 5, 6, 7, 9, 10] rfl rfl ⟨rfl, rfl, by decide⟩ (k_recv C kFX5 hP (i := 8) (q := 0) rfl rfl) rfl hl.1 rfl rfl dL_law_1272 ⟨by show _ ≤ 605484; omega, by show _ ≤ 7191588; omega⟩ (fun r u H locs hp hP hD hS => ?_)
  obtain ⟨hr, hu⟩ := hp
  subst hu
  subst hr
  have hP : kp g [X4W g oF (kFr oC oS oH oR oT oB) vF, X0W g oC rC vC aC, X0W g oS rS vS aS, X2W g oH rH vH oQ rQ aH, X3W g oR rR vR aR, X1W g oT rT vT aT, JOW oB q ml (nI k), JAW g q n f, X5W g oM rM ((X5_onPan_f vM aM (xs (i + 1))).2) aM, OLW g oL h1, ODW g oD fD] H := hP.pick [0, 1, 2, 3, 4, 5, 6, 7, 10, 8, 9] rfl
  have hD : kd (kAh s) [X4W g oF (kFr oC oS oH oR oT oB) vF, X0W g oC rC vC aC, X0W g oS rS vS aS, X2W g oH rH vH oQ rQ aH, X3W g oR rR vR aR, X1W g oT rT vT aT, JOW oB q ml (nI k), JAW g q n f, X5W g oM rM ((X5_onPan_f vM aM (xs (i + 1))).2) aM, OLW g oL h1, ODW g oD fD] := hD.pick [0, 1, 2, 3, 4, 5, 6, 7, 10, 8, 9] rfl rfl
  refine lv_istore (lv' := [(7, .int ((X5_onPan_f vM aM (xs (i + 1))).1)), (6, .int (kLk1 ((X4_onPan_f vF vC aC (xs (i + 1))).1))), (5, .int (nI i)), (0, .ref b), (1, .ref oF), (2, .ref oM), (3, .ref oL), (4, .ref oD)]) hx hb dL_law_1275 hl (by decide) rfl (fun ls hl => ?_)
  refine lv_aload_n hx hb dL_law_1277 rfl (lv_at hl 5 rfl) ?_
  refine kR_V (As := []) (rest := []) C (X5_thrown_c l g oM rM ((X5_onPan_f vM aM (xs (i + 1))).2) aM) (cwV 0 hts (k_gV kw1513 ca_X5_thrown) rfl rfl rfl ⟨rfl, pnX5_thrown⟩ ⟨Nat.le_of_ble_eq_true rfl, Nat.le_of_ble_eq_true rfl⟩) hE hS (hP.pick [8] rfl) (k_recv C kFX5 hP (i := 8) (q := 0) rfl rfl) rfl hl.1 rfl rfl dL_law_1278 ⟨by show _ ≤ 605484; omega, by show _ ≤ 7191588; omega⟩ ?_
  refine lv_iload hx hb dL_law_1281 (lv_at hl 1 rfl) ?_
  refine lv_icmp_eq (tgt := 1288) hx hb dL_law_1283 (by decide) (fun z => ?_) (fun z => absurd hs.1 z)
  have fin : W p l e room_1 s m #[Value.ref b] below meth c H locs (cells + 1 + 0) (slots + 6 + 0) (lw_Z below #[Value.ref b] s) (F0 m 1305 ls []) := by
    refine lv_goto (tgt := 2358) hx hb dL_law_1305 (by decide) ?_
    exact ih _ _ _ _ _ _ _ _ _ _ _ _ _ _ _ _ _ _ _ _ H locs ls _ _ hs.2.2 hT hP hD hS (lv_sub hl [2, 3, 4, 5, 6, 7] rfl) (by omega) (by omega)
  refine lv_iload hx hb dL_law_1288 (lv_at hl 1 rfl) ?_
  by_cases hc0 : kLk1 ((X4_onPan_f vF vC aC (xs (i + 1))).1) = 0
  rotate_left
  · refine lv_if_ne (tgt := 1305) hx hb dL_law_1290 (by decide) (fun z => fin) (fun z => absurd z hc0)
  refine lv_if_ne (tgt := 1305) hx hb dL_law_1290 (by decide) (fun z => absurd hc0 z) (fun z => ?_)
  have hc1 := kLk1_0 hc0
  refine lv_aload_n hx hb dL_law_1293 rfl (lv_at hl 6 rfl) ?_
  refine lv_iconst (v := 0) hx hb dL_law_1294 (by decide) ?_
  refine kg_lald C hP (i := 9) rfl dL_law_1295 ?_
  refine lv_iload hx hb dL_law_1296 (lv_at hl 0 rfl) ?_
  refine lv_i2l hx hb dL_law_1298 rfl ?_
  refine W.lcmp hx hb dL_law_1299 ?_
  rw [k_lcmp0 ((hv1 hc1).trans (congrArg Int32.toInt64 (hs.2.1 hc1).symm))]
  refine lv_if_eq (tgt := 1305) hx hb dL_law_1300 (by decide) (fun z => fin) (fun z => absurd rfl z)
set_option maxHeartbeats 4000000 in
theorem LC_rest (l : Launch) (hfl : l.stackTraces = false) {p : Program} {e : Env} {s : State} {m : MethodId} {below : List Frame} {meth : Method} {c : Code} {b L : Nat} {xs : Nat → Int32} {g : kG} (oF oC oS oH oR oT oB oM oL oD : Nat) (rC rS rH rR rT rM : Nat → Nat) (oQ : Nat → Nat) (rQ : Nat → Nat → Nat) (aR : Nat → Nat → Int32) {N i cells slots : Nat} (C : kC p c code s m #[Value.ref b] meth RL g 9 ret) (hE : kE g (kAh s) s s.heap) (hNc : kNc s) (hX : va_X b L xs s s.heap) (hbl : b < s.heap.size) (hL : L ≤ 2048) (hi : i + 4 ≤ L) (hN : N < 90000) (hcb : cells + 40 ≤ 605484) (hsb : slots + 2000 ≤ 7191588)
    (ih : kNext l p e s m below meth c b g oF oC oS oH oR oT oB oM oL oD rC rS rH rR rT rM oQ rQ aR i N cells slots) (vF : Nat → Int32) (vC : Nat → Int32) (aC : Nat → Nat → Int32) (vS : Nat → Int32) (aS : Nat → Nat → Int32) (vH : Nat → Int32) (aH : Nat → (Nat → Int32) × (Nat → Nat → Int32)) (vR : Nat → Int32) (vT : Nat → Int32) (aT : Nat → Nat → Int32) (q n : Nat) (ml : Int32) (f : Nat → Int32) (t : Nat → Nat) (k : Nat) (vM : Nat → Int32) (aM : Nat → Nat → Int32) (fL : Nat → Int64) (fD : Nat → UInt64) (H : Heap) (locs : List Loc) (ls : Array Slot) (hR : kRel N vF vC aC vS aS vH aH vR vT aT t k vM aM) (hT : ((n = 16 ∨ n = 34) ∧ k ≤ n ∧ sb_Fit f ∧ sb_Lat t k f)) (hP : kp g [X4W g oF (kFr oC oS oH oR oT oB) vF, X0W g oC rC vC aC, X0W g oS rS vS aS, X2W g oH rH vH oQ rQ aH, X3W g oR rR vR aR, X1W g oT rT vT aT, JOW oB q ml (nI k), JAW g q n f, X5W g oM rM vM aM, OLW g oL fL, ODW g oD fD] H) (hD : kd (kAh s) [X4W g oF (kFr oC oS oH oR oT oB) vF, X0W g oC rC vC aC, X0W g oS rS vS aS, X2W g oH rH vH oQ rQ aH, X3W g oR rR vR aR, X1W g oT rT vT aT, JOW oB q ml (nI k), JAW g q n f, X5W g oM rM vM aM, OLW g oL fL, ODW g oD fD]) (hS : va_S (kAh s) s.heap H locs) (hl : lv_has ls 9 (kLb i b oF oM oL oD)) :
    W p l e room_1 s m #[Value.ref b] below meth c H locs cells slots (lw_Z below #[Value.ref b] s) (F0 m 1308 ls []) := by
  have hA : ∀ q, s.heap.size ≤ q → kAh s q := fun q h => h
  have hx := C.1.1
  have hb := C.1.2.1
  have hts := C.1.2.2.2.2
  obtain ⟨⟨nb, nj, hnb, hv7, hnj, hv4, hb5, hj5⟩, hM, hM5, hh, hu, hL1, hL9, hch, hl40, h87, hI⟩ := kRel_hyp (by omega) hR
  refine lv_aload_n hx hb dL_law_1308 rfl (lv_at hl 2 rfl) ?_
  refine lv_aload_n hx hb dL_law_1309 rfl (lv_at hl 1 rfl) ?_
  refine lv_iload hx hb dL_law_1310 (lv_at hl 0 rfl) ?_
  refine lv_iconst (v := 1) hx hb dL_law_1312 (by decide) ?_
  refine lv_iadd hx hb dL_law_1313 ?_
  refine kg_script (j := 1) C hX hbl hS (by omega) hL dL_law_1314 ?_
  refine lv_aload_n hx hb dL_law_1315 rfl (lv_at hl 4 rfl) ?_
  have hs := kS_rest (aR := aR) (by omega) hR (xs (i + 1))
  refine kL_S (As := [.ref oF, .int (xs (i + 1)), .ref oL]) (rest := []) (wr := [X0W g oS rS vS aS, X2W g oH rH vH oQ rQ aH, X3W g oR rR vR aR, X1W g oT rT vT aT, JOW oB q ml (nI k), JAW g q n f, X5W g oM rM vM aM, ODW g oD fD]) C (L_rest_c l g oF vF oS oH oR oT oB oC rC vC aC (xs (i + 1)) nb hnb hv7 hfl oL fL kK_rest) hNc (vx_cwSW 3 hts (k_gS kw866 cs_L_rest) rfl rfl rfl pnL_rest ⟨Nat.le_of_ble_eq_true rfl, Nat.le_of_ble_eq_true rfl⟩) hE hS hA hP hD [0, 1, 9] [2, 3, 4, 5, 6, 7, 8, 10] rfl rfl ⟨rfl, rfl, by decide⟩ rfl hl.1 rfl rfl dL_law_1316 ⟨by show _ ≤ 605484; omega, by show _ ≤ 7191588; omega⟩ (fun r u H locs hp hP hD hS => ?_)
  obtain ⟨hr, h1, hv1, hu1⟩ := hp
  subst hu1
  subst hr
  have hP : kp g [X4W g oF (kFr oC oS oH oR oT oB) vF, X0W g oC rC vC aC, X0W g oS rS vS aS, X2W g oH rH vH oQ rQ aH, X3W g oR rR vR aR, X1W g oT rT vT aT, JOW oB q ml (nI k), JAW g q n f, X5W g oM rM vM aM, OLW g oL h1, ODW g oD fD] H := hP.pick [8, 9, 0, 1, 2, 3, 4, 5, 6, 10, 7] rfl
  have hD : kd (kAh s) [X4W g oF (kFr oC oS oH oR oT oB) vF, X0W g oC rC vC aC, X0W g oS rS vS aS, X2W g oH rH vH oQ rQ aH, X3W g oR rR vR aR, X1W g oT rT vT aT, JOW oB q ml (nI k), JAW g q n f, X5W g oM rM vM aM, OLW g oL h1, ODW g oD fD] := hD.pick [8, 9, 0, 1, 2, 3, 4, 5, 6, 10, 7] rfl rfl
  refine lv_istore (lv' := [(6, .int (kLk1 ((X4_rest_f vF vC aC (xs (i + 1))).1))), (5, .int (nI i)), (0, .ref b), (1, .ref oF), (2, .ref oM), (3, .ref oL), (4, .ref oD)]) hx hb dL_law_1319 hl (by decide) rfl (fun ls hl => ?_)
  refine lv_aload_n hx hb dL_law_1321 rfl (lv_at hl 4 rfl) ?_
  refine lv_aload_n hx hb dL_law_1322 rfl (lv_at hl 2 rfl) ?_
  refine lv_iload hx hb dL_law_1323 (lv_at hl 1 rfl) ?_
  refine lv_iconst (v := 1) hx hb dL_law_1325 (by decide) ?_
  refine lv_iadd hx hb dL_law_1326 ?_
  refine kg_script (j := 1) C hX hbl hS (by omega) hL dL_law_1327 ?_
  refine kM_V (As := [.int (xs (i + 1))]) (rest := []) (wr := [X4W g oF (kFr oC oS oH oR oT oB) vF, X0W g oC rC vC aC, X0W g oS rS vS aS, X2W g oH rH vH oQ rQ aH, X3W g oR rR vR aR, X1W g oT rT vT aT, JOW oB q ml (nI k), JAW g q n f, OLW g oL h1, ODW g oD fD]) C (X5_rest_c l g oM rM vM aM (xs (i + 1)) ⟨nb, hnb, hb5⟩) (cwV 1 hts (k_gV kw1734 ca_X5_rest) rfl rfl rfl ⟨rfl, pnX5_rest⟩ ⟨Nat.le_of_ble_eq_true rfl, Nat.le_of_ble_eq_true rfl⟩) hE hS hA hP hD [8] [0, 1, 2, 3, 4, 5, 6, 7, 9, 10] rfl rfl ⟨rfl, rfl, by decide⟩ (k_recv C kFX5 hP (i := 8) (q := 0) rfl rfl) rfl hl.1 rfl rfl dL_law_1328 ⟨by show _ ≤ 605484; omega, by show _ ≤ 7191588; omega⟩ (fun r u H locs hp hP hD hS => ?_)
  obtain ⟨hr, hu⟩ := hp
  subst hu
  subst hr
  have hP : kp g [X4W g oF (kFr oC oS oH oR oT oB) vF, X0W g oC rC vC aC, X0W g oS rS vS aS, X2W g oH rH vH oQ rQ aH, X3W g oR rR vR aR, X1W g oT rT vT aT, JOW oB q ml (nI k), JAW g q n f, X5W g oM rM ((X5_rest_f vM aM (xs (i + 1))).2) aM, OLW g oL h1, ODW g oD fD] H := hP.pick [0, 1, 2, 3, 4, 5, 6, 7, 10, 8, 9] rfl
  have hD : kd (kAh s) [X4W g oF (kFr oC oS oH oR oT oB) vF, X0W g oC rC vC aC, X0W g oS rS vS aS, X2W g oH rH vH oQ rQ aH, X3W g oR rR vR aR, X1W g oT rT vT aT, JOW oB q ml (nI k), JAW g q n f, X5W g oM rM ((X5_rest_f vM aM (xs (i + 1))).2) aM, OLW g oL h1, ODW g oD fD] := hD.pick [0, 1, 2, 3, 4, 5, 6, 7, 10, 8, 9] rfl rfl
  refine lv_istore (lv' := [(7, .int ((X5_rest_f vM aM (xs (i + 1))).1)), (6, .int (kLk1 ((X4_rest_f vF vC aC (xs (i + 1))).1))), (5, .int (nI i)), (0, .ref b), (1, .ref oF), (2, .ref oM), (3, .ref oL), (4, .ref oD)]) hx hb dL_law_1331 hl (by decide) rfl (fun ls hl => ?_)
  refine lv_aload_n hx hb dL_law_1333 rfl (lv_at hl 5 rfl) ?_
  refine kR_V (As := []) (rest := []) C (X5_thrown_c l g oM rM ((X5_rest_f vM aM (xs (i + 1))).2) aM) (cwV 0 hts (k_gV kw1513 ca_X5_thrown) rfl rfl rfl ⟨rfl, pnX5_thrown⟩ ⟨Nat.le_of_ble_eq_true rfl, Nat.le_of_ble_eq_true rfl⟩) hE hS (hP.pick [8] rfl) (k_recv C kFX5 hP (i := 8) (q := 0) rfl rfl) rfl hl.1 rfl rfl dL_law_1334 ⟨by show _ ≤ 605484; omega, by show _ ≤ 7191588; omega⟩ ?_
  refine lv_iload hx hb dL_law_1337 (lv_at hl 1 rfl) ?_
  refine lv_icmp_eq (tgt := 1344) hx hb dL_law_1339 (by decide) (fun z => ?_) (fun z => absurd hs.1 z)
  have fin : W p l e room_1 s m #[Value.ref b] below meth c H locs (cells + 1 + 0) (slots + 6 + 0) (lw_Z below #[Value.ref b] s) (F0 m 1361 ls []) := by
    refine lv_goto (tgt := 2358) hx hb dL_law_1361 (by decide) ?_
    exact ih _ _ _ _ _ _ _ _ _ _ _ _ _ _ _ _ _ _ _ _ H locs ls _ _ hs.2.2 hT hP hD hS (lv_sub hl [2, 3, 4, 5, 6, 7] rfl) (by omega) (by omega)
  refine lv_iload hx hb dL_law_1344 (lv_at hl 1 rfl) ?_
  by_cases hc0 : kLk1 ((X4_rest_f vF vC aC (xs (i + 1))).1) = 0
  rotate_left
  · refine lv_if_ne (tgt := 1361) hx hb dL_law_1346 (by decide) (fun z => fin) (fun z => absurd z hc0)
  refine lv_if_ne (tgt := 1361) hx hb dL_law_1346 (by decide) (fun z => absurd hc0 z) (fun z => ?_)
  have hc1 := kLk1_0 hc0
  refine lv_aload_n hx hb dL_law_1349 rfl (lv_at hl 6 rfl) ?_
  refine lv_iconst (v := 0) hx hb dL_law_1350 (by decide) ?_
  refine kg_lald C hP (i := 9) rfl dL_law_1351 ?_
  refine lv_iload hx hb dL_law_1352 (lv_at hl 0 rfl) ?_
  refine lv_i2l hx hb dL_law_1354 rfl ?_
  refine W.lcmp hx hb dL_law_1355 ?_
  rw [k_lcmp0 ((hv1 hc1).trans (congrArg Int32.toInt64 (hs.2.1 hc1).symm))]
  refine lv_if_eq (tgt := 1361) hx hb dL_law_1356 (by decide) (fun z => fin) (fun z => absurd rfl z)
set_option maxHeartbeats 4000000 in
theorem LC_honest (l : Launch) (hfl : l.stackTraces = false) {p : Program} {e : Env} {s : State} {m : MethodId} {below : List Frame} {meth : Method} {c : Code} {b L : Nat} {xs : Nat → Int32} {g : kG} (oF oC oS oH oR oT oB oM oL oD : Nat) (rC rS rH rR rT rM : Nat → Nat) (oQ : Nat → Nat) (rQ : Nat → Nat → Nat) (aR : Nat → Nat → Int32) {N i cells slots : Nat} (C : kC p c code s m #[Value.ref b] meth RL g 9 ret) (hE : kE g (kAh s) s s.heap) (hNc : kNc s) (hX : va_X b L xs s s.heap) (hbl : b < s.heap.size) (hL : L ≤ 2048) (hi : i + 4 ≤ L) (hN : N < 90000) (hcb : cells + 40 ≤ 605484) (hsb : slots + 2000 ≤ 7191588)
    (ih : kNext l p e s m below meth c b g oF oC oS oH oR oT oB oM oL oD rC rS rH rR rT rM oQ rQ aR i N cells slots) (vF : Nat → Int32) (vC : Nat → Int32) (aC : Nat → Nat → Int32) (vS : Nat → Int32) (aS : Nat → Nat → Int32) (vH : Nat → Int32) (aH : Nat → (Nat → Int32) × (Nat → Nat → Int32)) (vR : Nat → Int32) (vT : Nat → Int32) (aT : Nat → Nat → Int32) (q n : Nat) (ml : Int32) (f : Nat → Int32) (t : Nat → Nat) (k : Nat) (vM : Nat → Int32) (aM : Nat → Nat → Int32) (fL : Nat → Int64) (fD : Nat → UInt64) (H : Heap) (locs : List Loc) (ls : Array Slot) (hR : kRel N vF vC aC vS aS vH aH vR vT aT t k vM aM) (hT : ((n = 16 ∨ n = 34) ∧ k ≤ n ∧ sb_Fit f ∧ sb_Lat t k f)) (hP : kp g [X4W g oF (kFr oC oS oH oR oT oB) vF, X0W g oC rC vC aC, X0W g oS rS vS aS, X2W g oH rH vH oQ rQ aH, X3W g oR rR vR aR, X1W g oT rT vT aT, JOW oB q ml (nI k), JAW g q n f, X5W g oM rM vM aM, OLW g oL fL, ODW g oD fD] H) (hD : kd (kAh s) [X4W g oF (kFr oC oS oH oR oT oB) vF, X0W g oC rC vC aC, X0W g oS rS vS aS, X2W g oH rH vH oQ rQ aH, X3W g oR rR vR aR, X1W g oT rT vT aT, JOW oB q ml (nI k), JAW g q n f, X5W g oM rM vM aM, OLW g oL fL, ODW g oD fD]) (hS : va_S (kAh s) s.heap H locs) (hl : lv_has ls 9 (kLb i b oF oM oL oD)) :
    W p l e room_1 s m #[Value.ref b] below meth c H locs cells slots (lw_Z below #[Value.ref b] s) (F0 m 1364 ls []) := by
  have hA : ∀ q, s.heap.size ≤ q → kAh s q := fun q h => h
  have hx := C.1.1
  have hb := C.1.2.1
  have hts := C.1.2.2.2.2
  obtain ⟨⟨nb, nj, hnb, hv7, hnj, hv4, hb5, hj5⟩, hM, hM5, hh, hu, hL1, hL9, hch, hl40, h87, hI⟩ := kRel_hyp (by omega) hR
  refine lv_aload_n hx hb dL_law_1364 rfl (lv_at hl 2 rfl) ?_
  refine lv_aload_n hx hb dL_law_1365 rfl (lv_at hl 1 rfl) ?_
  refine lv_iload hx hb dL_law_1366 (lv_at hl 0 rfl) ?_
  refine lv_iconst (v := 1) hx hb dL_law_1368 (by decide) ?_
  refine lv_iadd hx hb dL_law_1369 ?_
  refine kg_script (j := 1) C hX hbl hS (by omega) hL dL_law_1370 ?_
  refine lv_aload_n hx hb dL_law_1371 rfl (lv_at hl 4 rfl) ?_
  have hs := kS_honest (aR := aR) (by omega) hR (xs (i + 1))
  refine kL_S (As := [.ref oF, .int (xs (i + 1)), .ref oL]) (rest := []) (wr := [X0W g oS rS vS aS, X2W g oH rH vH oQ rQ aH, X3W g oR rR vR aR, X1W g oT rT vT aT, JOW oB q ml (nI k), JAW g q n f, X5W g oM rM vM aM, ODW g oD fD]) C (L_honest_c l g oF vF oS oH oR oT oB oC rC vC aC (xs (i + 1)) nb hnb hv7 hfl oL fL kK_honest) hNc (vx_cwSW 3 hts (k_gS kw873 cs_L_honest) rfl rfl rfl pnL_honest ⟨Nat.le_of_ble_eq_true rfl, Nat.le_of_ble_eq_true rfl⟩) hE hS hA hP hD [0, 1, 9] [2, 3, 4, 5, 6, 7, 8, 10] rfl rfl ⟨rfl, rfl, by decide⟩ rfl hl.1 rfl rfl dL_law_1372 ⟨by show _ ≤ 605484; omega, by show _ ≤ 7191588; omega⟩ (fun r u H locs hp hP hD hS => ?_)
  obtain ⟨hr, h1, hv1, hu1⟩ := hp
  subst hu1
  subst hr
  have hP : kp g [X4W g oF (kFr oC oS oH oR oT oB) vF, X0W g oC rC vC aC, X0W g oS rS vS aS, X2W g oH rH vH oQ rQ aH, X3W g oR rR vR aR, X1W g oT rT vT aT, JOW oB q ml (nI k), JAW g q n f, X5W g oM rM vM aM, OLW g oL h1, ODW g oD fD] H := hP.pick [8, 9, 0, 1, 2, 3, 4, 5, 6, 10, 7] rfl
  have hD : kd (kAh s) [X4W g oF (kFr oC oS oH oR oT oB) vF, X0W g oC rC vC aC, X0W g oS rS vS aS, X2W g oH rH vH oQ rQ aH, X3W g oR rR vR aR, X1W g oT rT vT aT, JOW oB q ml (nI k), JAW g q n f, X5W g oM rM vM aM, OLW g oL h1, ODW g oD fD] := hD.pick [8, 9, 0, 1, 2, 3, 4, 5, 6, 10, 7] rfl rfl
  refine lv_istore (lv' := [(6, .int (kLk1 ((X4_honest_f vF vC aC (xs (i + 1))).1))), (5, .int (nI i)), (0, .ref b), (1, .ref oF), (2, .ref oM), (3, .ref oL), (4, .ref oD)]) hx hb dL_law_1375 hl (by decide) rfl (fun ls hl => ?_)
  refine lv_aload_n hx hb dL_law_1377 rfl (lv_at hl 4 rfl) ?_
  refine lv_aload_n hx hb dL_law_1378 rfl (lv_at hl 2 rfl) ?_
  refine lv_iload hx hb dL_law_1379 (lv_at hl 1 rfl) ?_
  refine lv_iconst (v := 1) hx hb dL_law_1381 (by decide) ?_
  refine lv_iadd hx hb dL_law_1382 ?_
  refine kg_script (j := 1) C hX hbl hS (by omega) hL dL_law_1383 ?_
  refine kM_V (As := [.int (xs (i + 1))]) (rest := []) (wr := [X4W g oF (kFr oC oS oH oR oT oB) vF, X0W g oC rC vC aC, X0W g oS rS vS aS, X2W g oH rH vH oQ rQ aH, X3W g oR rR vR aR, X1W g oT rT vT aT, JOW oB q ml (nI k), JAW g q n f, OLW g oL h1, ODW g oD fD]) C (X5_honest_c l g oM rM vM aM (xs (i + 1)) ⟨nb, hnb, hb5⟩) (cwV 1 hts (k_gV kw1738 ca_X5_honest) rfl rfl rfl ⟨rfl, pnX5_honest⟩ ⟨Nat.le_of_ble_eq_true rfl, Nat.le_of_ble_eq_true rfl⟩) hE hS hA hP hD [8] [0, 1, 2, 3, 4, 5, 6, 7, 9, 10] rfl rfl ⟨rfl, rfl, by decide⟩ (k_recv C kFX5 hP (i := 8) (q := 0) rfl rfl) rfl hl.1 rfl rfl dL_law_1384 ⟨by show _ ≤ 605484; omega, by show _ ≤ 7191588; omega⟩ (fun r u H locs hp hP hD hS => ?_)
  obtain ⟨hr, hu⟩ := hp
  subst hu
  subst hr
  have hP : kp g [X4W g oF (kFr oC oS oH oR oT oB) vF, X0W g oC rC vC aC, X0W g oS rS vS aS, X2W g oH rH vH oQ rQ aH, X3W g oR rR vR aR, X1W g oT rT vT aT, JOW oB q ml (nI k), JAW g q n f, X5W g oM rM ((X5_honest_f vM aM (xs (i + 1))).2) aM, OLW g oL h1, ODW g oD fD] H := hP.pick [0, 1, 2, 3, 4, 5, 6, 7, 10, 8, 9] rfl
  have hD : kd (kAh s) [X4W g oF (kFr oC oS oH oR oT oB) vF, X0W g oC rC vC aC, X0W g oS rS vS aS, X2W g oH rH vH oQ rQ aH, X3W g oR rR vR aR, X1W g oT rT vT aT, JOW oB q ml (nI k), JAW g q n f, X5W g oM rM ((X5_honest_f vM aM (xs (i + 1))).2) aM, OLW g oL h1, ODW g oD fD] := hD.pick [0, 1, 2, 3, 4, 5, 6, 7, 10, 8, 9] rfl rfl
  refine lv_istore (lv' := [(7, .int ((X5_honest_f vM aM (xs (i + 1))).1)), (6, .int (kLk1 ((X4_honest_f vF vC aC (xs (i + 1))).1))), (5, .int (nI i)), (0, .ref b), (1, .ref oF), (2, .ref oM), (3, .ref oL), (4, .ref oD)]) hx hb dL_law_1387 hl (by decide) rfl (fun ls hl => ?_)
  refine lv_aload_n hx hb dL_law_1389 rfl (lv_at hl 5 rfl) ?_
  refine kR_V (As := []) (rest := []) C (X5_thrown_c l g oM rM ((X5_honest_f vM aM (xs (i + 1))).2) aM) (cwV 0 hts (k_gV kw1513 ca_X5_thrown) rfl rfl rfl ⟨rfl, pnX5_thrown⟩ ⟨Nat.le_of_ble_eq_true rfl, Nat.le_of_ble_eq_true rfl⟩) hE hS (hP.pick [8] rfl) (k_recv C kFX5 hP (i := 8) (q := 0) rfl rfl) rfl hl.1 rfl rfl dL_law_1390 ⟨by show _ ≤ 605484; omega, by show _ ≤ 7191588; omega⟩ ?_
  refine lv_iload hx hb dL_law_1393 (lv_at hl 1 rfl) ?_
  refine lv_icmp_eq (tgt := 1400) hx hb dL_law_1395 (by decide) (fun z => ?_) (fun z => absurd hs.1 z)
  have fin : W p l e room_1 s m #[Value.ref b] below meth c H locs (cells + 1 + 0) (slots + 6 + 0) (lw_Z below #[Value.ref b] s) (F0 m 1417 ls []) := by
    refine lv_goto (tgt := 2358) hx hb dL_law_1417 (by decide) ?_
    exact ih _ _ _ _ _ _ _ _ _ _ _ _ _ _ _ _ _ _ _ _ H locs ls _ _ hs.2.2 hT hP hD hS (lv_sub hl [2, 3, 4, 5, 6, 7] rfl) (by omega) (by omega)
  refine lv_iload hx hb dL_law_1400 (lv_at hl 1 rfl) ?_
  by_cases hc0 : kLk1 ((X4_honest_f vF vC aC (xs (i + 1))).1) = 0
  rotate_left
  · refine lv_if_ne (tgt := 1417) hx hb dL_law_1402 (by decide) (fun z => fin) (fun z => absurd z hc0)
  refine lv_if_ne (tgt := 1417) hx hb dL_law_1402 (by decide) (fun z => absurd hc0 z) (fun z => ?_)
  have hc1 := kLk1_0 hc0
  refine lv_aload_n hx hb dL_law_1405 rfl (lv_at hl 6 rfl) ?_
  refine lv_iconst (v := 0) hx hb dL_law_1406 (by decide) ?_
  refine kg_lald C hP (i := 9) rfl dL_law_1407 ?_
  refine lv_iload hx hb dL_law_1408 (lv_at hl 0 rfl) ?_
  refine lv_i2l hx hb dL_law_1410 rfl ?_
  refine W.lcmp hx hb dL_law_1411 ?_
  rw [k_lcmp0 ((hv1 hc1).trans (congrArg Int32.toInt64 (hs.2.1 hc1).symm))]
  refine lv_if_eq (tgt := 1417) hx hb dL_law_1412 (by decide) (fun z => fin) (fun z => absurd rfl z)
set_option maxHeartbeats 4000000 in
theorem LC_pays (l : Launch) (hfl : l.stackTraces = false) {p : Program} {e : Env} {s : State} {m : MethodId} {below : List Frame} {meth : Method} {c : Code} {b L : Nat} {xs : Nat → Int32} {g : kG} (oF oC oS oH oR oT oB oM oL oD : Nat) (rC rS rH rR rT rM : Nat → Nat) (oQ : Nat → Nat) (rQ : Nat → Nat → Nat) (aR : Nat → Nat → Int32) {N i cells slots : Nat} (C : kC p c code s m #[Value.ref b] meth RL g 9 ret) (hE : kE g (kAh s) s s.heap) (hNc : kNc s) (hX : va_X b L xs s s.heap) (hbl : b < s.heap.size) (hL : L ≤ 2048) (hi : i + 4 ≤ L) (hN : N < 90000) (hcb : cells + 40 ≤ 605484) (hsb : slots + 2000 ≤ 7191588)
    (ih : kNext l p e s m below meth c b g oF oC oS oH oR oT oB oM oL oD rC rS rH rR rT rM oQ rQ aR i N cells slots) (vF : Nat → Int32) (vC : Nat → Int32) (aC : Nat → Nat → Int32) (vS : Nat → Int32) (aS : Nat → Nat → Int32) (vH : Nat → Int32) (aH : Nat → (Nat → Int32) × (Nat → Nat → Int32)) (vR : Nat → Int32) (vT : Nat → Int32) (aT : Nat → Nat → Int32) (q n : Nat) (ml : Int32) (f : Nat → Int32) (t : Nat → Nat) (k : Nat) (vM : Nat → Int32) (aM : Nat → Nat → Int32) (fL : Nat → Int64) (fD : Nat → UInt64) (H : Heap) (locs : List Loc) (ls : Array Slot) (hR : kRel N vF vC aC vS aS vH aH vR vT aT t k vM aM) (hT : ((n = 16 ∨ n = 34) ∧ k ≤ n ∧ sb_Fit f ∧ sb_Lat t k f)) (hP : kp g [X4W g oF (kFr oC oS oH oR oT oB) vF, X0W g oC rC vC aC, X0W g oS rS vS aS, X2W g oH rH vH oQ rQ aH, X3W g oR rR vR aR, X1W g oT rT vT aT, JOW oB q ml (nI k), JAW g q n f, X5W g oM rM vM aM, OLW g oL fL, ODW g oD fD] H) (hD : kd (kAh s) [X4W g oF (kFr oC oS oH oR oT oB) vF, X0W g oC rC vC aC, X0W g oS rS vS aS, X2W g oH rH vH oQ rQ aH, X3W g oR rR vR aR, X1W g oT rT vT aT, JOW oB q ml (nI k), JAW g q n f, X5W g oM rM vM aM, OLW g oL fL, ODW g oD fD]) (hS : va_S (kAh s) s.heap H locs) (hl : lv_has ls 9 (kLb i b oF oM oL oD)) :
    W p l e room_1 s m #[Value.ref b] below meth c H locs cells slots (lw_Z below #[Value.ref b] s) (F0 m 1420 ls []) := by
  have hA : ∀ q, s.heap.size ≤ q → kAh s q := fun q h => h
  have hx := C.1.1
  have hb := C.1.2.1
  have hts := C.1.2.2.2.2
  obtain ⟨⟨nb, nj, hnb, hv7, hnj, hv4, hb5, hj5⟩, hM, hM5, hh, hu, hL1, hL9, hch, hl40, h87, hI⟩ := kRel_hyp (by omega) hR
  refine lv_aload_n hx hb dL_law_1420 rfl (lv_at hl 2 rfl) ?_
  refine lv_aload_n hx hb dL_law_1421 rfl (lv_at hl 1 rfl) ?_
  refine lv_iload hx hb dL_law_1422 (lv_at hl 0 rfl) ?_
  refine lv_iconst (v := 1) hx hb dL_law_1424 (by decide) ?_
  refine lv_iadd hx hb dL_law_1425 ?_
  refine kg_script (j := 1) C hX hbl hS (by omega) hL dL_law_1426 ?_
  refine lv_aload_n hx hb dL_law_1427 rfl (lv_at hl 1 rfl) ?_
  refine lv_iload hx hb dL_law_1428 (lv_at hl 0 rfl) ?_
  refine lv_iconst (v := 2) hx hb dL_law_1430 (by decide) ?_
  refine lv_iadd hx hb dL_law_1431 ?_
  refine kg_script (j := 2) C hX hbl hS (by omega) hL dL_law_1432 ?_
  refine lv_aload_n hx hb dL_law_1433 rfl (lv_at hl 4 rfl) ?_
  have hs := kS_pays (aR := aR) (by omega) hR (xs (i + 1)) (xs (i + 2))
  refine kL_S (As := [.ref oF, .int (xs (i + 1)), .int (xs (i + 2)), .ref oL]) (rest := []) (wr := [X0W g oS rS vS aS, X2W g oH rH vH oQ rQ aH, X3W g oR rR vR aR, X1W g oT rT vT aT, JOW oB q ml (nI k), JAW g q n f, X5W g oM rM vM aM, ODW g oD fD]) C (L_pays_c l g oF vF oS oH oR oT oB oC rC vC aC (xs (i + 1)) (xs (i + 2)) hfl oL fL kK_pays) hNc (vx_cwSW 4 hts (k_gS kw880 cs_L_pays) rfl rfl rfl pnL_pays ⟨Nat.le_of_ble_eq_true rfl, Nat.le_of_ble_eq_true rfl⟩) hE hS hA hP hD [0, 1, 9] [2, 3, 4, 5, 6, 7, 8, 10] rfl rfl ⟨rfl, rfl, by decide⟩ rfl hl.1 rfl rfl dL_law_1434 ⟨by show _ ≤ 605484; omega, by show _ ≤ 7191588; omega⟩ (fun r u H locs hp hP hD hS => ?_)
  obtain ⟨hr, h1, hv1, hu1⟩ := hp
  subst hu1
  subst hr
  have hP : kp g [X4W g oF (kFr oC oS oH oR oT oB) vF, X0W g oC rC vC aC, X0W g oS rS vS aS, X2W g oH rH vH oQ rQ aH, X3W g oR rR vR aR, X1W g oT rT vT aT, JOW oB q ml (nI k), JAW g q n f, X5W g oM rM vM aM, OLW g oL h1, ODW g oD fD] H := hP.pick [8, 9, 0, 1, 2, 3, 4, 5, 6, 10, 7] rfl
  have hD : kd (kAh s) [X4W g oF (kFr oC oS oH oR oT oB) vF, X0W g oC rC vC aC, X0W g oS rS vS aS, X2W g oH rH vH oQ rQ aH, X3W g oR rR vR aR, X1W g oT rT vT aT, JOW oB q ml (nI k), JAW g q n f, X5W g oM rM vM aM, OLW g oL h1, ODW g oD fD] := hD.pick [8, 9, 0, 1, 2, 3, 4, 5, 6, 10, 7] rfl rfl
  refine lv_istore (lv' := [(6, .int (kLk2 2 ((X4_pays_f vF vC aC (xs (i + 1)) (xs (i + 2))).1))), (5, .int (nI i)), (0, .ref b), (1, .ref oF), (2, .ref oM), (3, .ref oL), (4, .ref oD)]) hx hb dL_law_1437 hl (by decide) rfl (fun ls hl => ?_)
  refine lv_aload_n hx hb dL_law_1439 rfl (lv_at hl 4 rfl) ?_
  refine lv_aload_n hx hb dL_law_1440 rfl (lv_at hl 2 rfl) ?_
  refine lv_iload hx hb dL_law_1441 (lv_at hl 1 rfl) ?_
  refine lv_iconst (v := 1) hx hb dL_law_1443 (by decide) ?_
  refine lv_iadd hx hb dL_law_1444 ?_
  refine kg_script (j := 1) C hX hbl hS (by omega) hL dL_law_1445 ?_
  refine lv_aload_n hx hb dL_law_1446 rfl (lv_at hl 2 rfl) ?_
  refine lv_iload hx hb dL_law_1447 (lv_at hl 1 rfl) ?_
  refine lv_iconst (v := 2) hx hb dL_law_1449 (by decide) ?_
  refine lv_iadd hx hb dL_law_1450 ?_
  refine kg_script (j := 2) C hX hbl hS (by omega) hL dL_law_1451 ?_
  refine kM_V (As := [.int (xs (i + 1)), .int (xs (i + 2))]) (rest := []) (wr := [X4W g oF (kFr oC oS oH oR oT oB) vF, X0W g oC rC vC aC, X0W g oS rS vS aS, X2W g oH rH vH oQ rQ aH, X3W g oR rR vR aR, X1W g oT rT vT aT, JOW oB q ml (nI k), JAW g q n f, OLW g oL h1, ODW g oD fD]) C (X5_pays_c l g oM rM vM aM (xs (i + 1)) (xs (i + 2))) (cwV 2 hts (k_gV kw1742 ca_X5_pays) rfl rfl rfl ⟨rfl, pnX5_pays⟩ ⟨Nat.le_of_ble_eq_true rfl, Nat.le_of_ble_eq_true rfl⟩) hE hS hA hP hD [8] [0, 1, 2, 3, 4, 5, 6, 7, 9, 10] rfl rfl ⟨rfl, rfl, by decide⟩ (k_recv C kFX5 hP (i := 8) (q := 0) rfl rfl) rfl hl.1 rfl rfl dL_law_1452 ⟨by show _ ≤ 605484; omega, by show _ ≤ 7191588; omega⟩ (fun r u H locs hp hP hD hS => ?_)
  obtain ⟨hr, hu⟩ := hp
  subst hu
  subst hr
  have hP : kp g [X4W g oF (kFr oC oS oH oR oT oB) vF, X0W g oC rC vC aC, X0W g oS rS vS aS, X2W g oH rH vH oQ rQ aH, X3W g oR rR vR aR, X1W g oT rT vT aT, JOW oB q ml (nI k), JAW g q n f, X5W g oM rM ((X5_pays_f vM aM (xs (i + 1)) (xs (i + 2))).2) aM, OLW g oL h1, ODW g oD fD] H := hP.pick [0, 1, 2, 3, 4, 5, 6, 7, 10, 8, 9] rfl
  have hD : kd (kAh s) [X4W g oF (kFr oC oS oH oR oT oB) vF, X0W g oC rC vC aC, X0W g oS rS vS aS, X2W g oH rH vH oQ rQ aH, X3W g oR rR vR aR, X1W g oT rT vT aT, JOW oB q ml (nI k), JAW g q n f, X5W g oM rM ((X5_pays_f vM aM (xs (i + 1)) (xs (i + 2))).2) aM, OLW g oL h1, ODW g oD fD] := hD.pick [0, 1, 2, 3, 4, 5, 6, 7, 10, 8, 9] rfl rfl
  refine lv_istore (lv' := [(7, .int ((X5_pays_f vM aM (xs (i + 1)) (xs (i + 2))).1)), (6, .int (kLk2 2 ((X4_pays_f vF vC aC (xs (i + 1)) (xs (i + 2))).1))), (5, .int (nI i)), (0, .ref b), (1, .ref oF), (2, .ref oM), (3, .ref oL), (4, .ref oD)]) hx hb dL_law_1455 hl (by decide) rfl (fun ls hl => ?_)
  refine lv_aload_n hx hb dL_law_1457 rfl (lv_at hl 5 rfl) ?_
  refine kR_V (As := []) (rest := []) C (X5_thrown_c l g oM rM ((X5_pays_f vM aM (xs (i + 1)) (xs (i + 2))).2) aM) (cwV 0 hts (k_gV kw1513 ca_X5_thrown) rfl rfl rfl ⟨rfl, pnX5_thrown⟩ ⟨Nat.le_of_ble_eq_true rfl, Nat.le_of_ble_eq_true rfl⟩) hE hS (hP.pick [8] rfl) (k_recv C kFX5 hP (i := 8) (q := 0) rfl rfl) rfl hl.1 rfl rfl dL_law_1458 ⟨by show _ ≤ 605484; omega, by show _ ≤ 7191588; omega⟩ ?_
  refine lv_iload hx hb dL_law_1461 (lv_at hl 1 rfl) ?_
  refine lv_icmp_eq (tgt := 1468) hx hb dL_law_1463 (by decide) (fun z => ?_) (fun z => absurd hs.1 z)
  have fin : W p l e room_1 s m #[Value.ref b] below meth c H locs (cells + 2 + 0) (slots + 12 + 0) (lw_Z below #[Value.ref b] s) (F0 m 1485 ls []) := by
    refine lv_goto (tgt := 2358) hx hb dL_law_1485 (by decide) ?_
    exact ih _ _ _ _ _ _ _ _ _ _ _ _ _ _ _ _ _ _ _ _ H locs ls _ _ hs.2.2 hT hP hD hS (lv_sub hl [2, 3, 4, 5, 6, 7] rfl) (by omega) (by omega)
  refine lv_iload hx hb dL_law_1468 (lv_at hl 1 rfl) ?_
  by_cases hc0 : kLk2 2 ((X4_pays_f vF vC aC (xs (i + 1)) (xs (i + 2))).1) = 0
  rotate_left
  · refine lv_if_ne (tgt := 1485) hx hb dL_law_1470 (by decide) (fun z => fin) (fun z => absurd z hc0)
  refine lv_if_ne (tgt := 1485) hx hb dL_law_1470 (by decide) (fun z => absurd hc0 z) (fun z => ?_)
  have hc1 := kLk2_0 hc0
  refine lv_aload_n hx hb dL_law_1473 rfl (lv_at hl 6 rfl) ?_
  refine lv_iconst (v := 0) hx hb dL_law_1474 (by decide) ?_
  refine kg_lald C hP (i := 9) rfl dL_law_1475 ?_
  refine lv_iload hx hb dL_law_1476 (lv_at hl 0 rfl) ?_
  refine lv_i2l hx hb dL_law_1478 rfl ?_
  refine W.lcmp hx hb dL_law_1479 ?_
  rw [k_lcmp0 ((hv1 hc1).trans (congrArg Int32.toInt64 (hs.2.1 hc1).symm))]
  refine lv_if_eq (tgt := 1485) hx hb dL_law_1480 (by decide) (fun z => fin) (fun z => absurd rfl z)
set_option maxHeartbeats 4000000 in
theorem LC_wouldGet (l : Launch) (hfl : l.stackTraces = false) {p : Program} {e : Env} {s : State} {m : MethodId} {below : List Frame} {meth : Method} {c : Code} {b L : Nat} {xs : Nat → Int32} {g : kG} (oF oC oS oH oR oT oB oM oL oD : Nat) (rC rS rH rR rT rM : Nat → Nat) (oQ : Nat → Nat) (rQ : Nat → Nat → Nat) (aR : Nat → Nat → Int32) {N i cells slots : Nat} (C : kC p c code s m #[Value.ref b] meth RL g 9 ret) (hE : kE g (kAh s) s s.heap) (hNc : kNc s) (hX : va_X b L xs s s.heap) (hbl : b < s.heap.size) (hL : L ≤ 2048) (hi : i + 4 ≤ L) (hN : N < 90000) (hcb : cells + 40 ≤ 605484) (hsb : slots + 2000 ≤ 7191588)
    (ih : kNext l p e s m below meth c b g oF oC oS oH oR oT oB oM oL oD rC rS rH rR rT rM oQ rQ aR i N cells slots) (vF : Nat → Int32) (vC : Nat → Int32) (aC : Nat → Nat → Int32) (vS : Nat → Int32) (aS : Nat → Nat → Int32) (vH : Nat → Int32) (aH : Nat → (Nat → Int32) × (Nat → Nat → Int32)) (vR : Nat → Int32) (vT : Nat → Int32) (aT : Nat → Nat → Int32) (q n : Nat) (ml : Int32) (f : Nat → Int32) (t : Nat → Nat) (k : Nat) (vM : Nat → Int32) (aM : Nat → Nat → Int32) (fL : Nat → Int64) (fD : Nat → UInt64) (H : Heap) (locs : List Loc) (ls : Array Slot) (hR : kRel N vF vC aC vS aS vH aH vR vT aT t k vM aM) (hT : ((n = 16 ∨ n = 34) ∧ k ≤ n ∧ sb_Fit f ∧ sb_Lat t k f)) (hP : kp g [X4W g oF (kFr oC oS oH oR oT oB) vF, X0W g oC rC vC aC, X0W g oS rS vS aS, X2W g oH rH vH oQ rQ aH, X3W g oR rR vR aR, X1W g oT rT vT aT, JOW oB q ml (nI k), JAW g q n f, X5W g oM rM vM aM, OLW g oL fL, ODW g oD fD] H) (hD : kd (kAh s) [X4W g oF (kFr oC oS oH oR oT oB) vF, X0W g oC rC vC aC, X0W g oS rS vS aS, X2W g oH rH vH oQ rQ aH, X3W g oR rR vR aR, X1W g oT rT vT aT, JOW oB q ml (nI k), JAW g q n f, X5W g oM rM vM aM, OLW g oL fL, ODW g oD fD]) (hS : va_S (kAh s) s.heap H locs) (hl : lv_has ls 9 (kLb i b oF oM oL oD)) :
    W p l e room_1 s m #[Value.ref b] below meth c H locs cells slots (lw_Z below #[Value.ref b] s) (F0 m 1488 ls []) := by
  have hA : ∀ q, s.heap.size ≤ q → kAh s q := fun q h => h
  have hx := C.1.1
  have hb := C.1.2.1
  have hts := C.1.2.2.2.2
  obtain ⟨⟨nb, nj, hnb, hv7, hnj, hv4, hb5, hj5⟩, hM, hM5, hh, hu, hL1, hL9, hch, hl40, h87, hI⟩ := kRel_hyp (by omega) hR
  refine lv_aload_n hx hb dL_law_1488 rfl (lv_at hl 2 rfl) ?_
  refine lv_aload_n hx hb dL_law_1489 rfl (lv_at hl 1 rfl) ?_
  refine lv_iload hx hb dL_law_1490 (lv_at hl 0 rfl) ?_
  refine lv_iconst (v := 1) hx hb dL_law_1492 (by decide) ?_
  refine lv_iadd hx hb dL_law_1493 ?_
  refine kg_script (j := 1) C hX hbl hS (by omega) hL dL_law_1494 ?_
  refine lv_aload_n hx hb dL_law_1495 rfl (lv_at hl 1 rfl) ?_
  refine lv_iload hx hb dL_law_1496 (lv_at hl 0 rfl) ?_
  refine lv_iconst (v := 2) hx hb dL_law_1498 (by decide) ?_
  refine lv_iadd hx hb dL_law_1499 ?_
  refine kg_script (j := 2) C hX hbl hS (by omega) hL dL_law_1500 ?_
  refine lv_aload_n hx hb dL_law_1501 rfl (lv_at hl 4 rfl) ?_
  have hs := kS_wouldGet (aR := aR) (by omega) hR (xs (i + 1)) (xs (i + 2))
  refine kL_S (As := [.ref oF, .int (xs (i + 1)), .int (xs (i + 2)), .ref oL]) (rest := []) (wr := [X0W g oS rS vS aS, X2W g oH rH vH oQ rQ aH, X3W g oR rR vR aR, X1W g oT rT vT aT, JOW oB q ml (nI k), JAW g q n f, X5W g oM rM vM aM, ODW g oD fD]) C (L_wouldGet_c l g oF vF oS oH oR oT oB oC rC vC aC (xs (i + 1)) (xs (i + 2)) nb hnb hv7 hfl oL fL kK_wouldGet) hNc (vx_cwSW 4 hts (k_gS kw895 cs_L_wouldGet) rfl rfl rfl pnL_wouldGet ⟨Nat.le_of_ble_eq_true rfl, Nat.le_of_ble_eq_true rfl⟩) hE hS hA hP hD [0, 1, 9] [2, 3, 4, 5, 6, 7, 8, 10] rfl rfl ⟨rfl, rfl, by decide⟩ rfl hl.1 rfl rfl dL_law_1502 ⟨by show _ ≤ 605484; omega, by show _ ≤ 7191588; omega⟩ (fun r u H locs hp hP hD hS => ?_)
  obtain ⟨hr, h1, hv1, hu1⟩ := hp
  subst hu1
  subst hr
  have hP : kp g [X4W g oF (kFr oC oS oH oR oT oB) vF, X0W g oC rC vC aC, X0W g oS rS vS aS, X2W g oH rH vH oQ rQ aH, X3W g oR rR vR aR, X1W g oT rT vT aT, JOW oB q ml (nI k), JAW g q n f, X5W g oM rM vM aM, OLW g oL h1, ODW g oD fD] H := hP.pick [8, 9, 0, 1, 2, 3, 4, 5, 6, 10, 7] rfl
  have hD : kd (kAh s) [X4W g oF (kFr oC oS oH oR oT oB) vF, X0W g oC rC vC aC, X0W g oS rS vS aS, X2W g oH rH vH oQ rQ aH, X3W g oR rR vR aR, X1W g oT rT vT aT, JOW oB q ml (nI k), JAW g q n f, X5W g oM rM vM aM, OLW g oL h1, ODW g oD fD] := hD.pick [8, 9, 0, 1, 2, 3, 4, 5, 6, 10, 7] rfl rfl
  refine lv_istore (lv' := [(6, .int (kLk2 2 ((X4_wouldGet_f vF vC aC (xs (i + 1)) (xs (i + 2))).1))), (5, .int (nI i)), (0, .ref b), (1, .ref oF), (2, .ref oM), (3, .ref oL), (4, .ref oD)]) hx hb dL_law_1505 hl (by decide) rfl (fun ls hl => ?_)
  refine lv_aload_n hx hb dL_law_1507 rfl (lv_at hl 4 rfl) ?_
  refine lv_aload_n hx hb dL_law_1508 rfl (lv_at hl 2 rfl) ?_
  refine lv_iload hx hb dL_law_1509 (lv_at hl 1 rfl) ?_
  refine lv_iconst (v := 1) hx hb dL_law_1511 (by decide) ?_
  refine lv_iadd hx hb dL_law_1512 ?_
  refine kg_script (j := 1) C hX hbl hS (by omega) hL dL_law_1513 ?_
  refine lv_aload_n hx hb dL_law_1514 rfl (lv_at hl 2 rfl) ?_
  refine lv_iload hx hb dL_law_1515 (lv_at hl 1 rfl) ?_
  refine lv_iconst (v := 2) hx hb dL_law_1517 (by decide) ?_
  refine lv_iadd hx hb dL_law_1518 ?_
  refine kg_script (j := 2) C hX hbl hS (by omega) hL dL_law_1519 ?_
  refine kM_V (As := [.int (xs (i + 1)), .int (xs (i + 2))]) (rest := []) (wr := [X4W g oF (kFr oC oS oH oR oT oB) vF, X0W g oC rC vC aC, X0W g oS rS vS aS, X2W g oH rH vH oQ rQ aH, X3W g oR rR vR aR, X1W g oT rT vT aT, JOW oB q ml (nI k), JAW g q n f, OLW g oL h1, ODW g oD fD]) C (X5_wouldGet_c l g oM rM vM aM (xs (i + 1)) (xs (i + 2)) ⟨nb, hnb, hb5⟩) (cwV 2 hts (k_gV kw1746 ca_X5_wouldGet) rfl rfl rfl ⟨rfl, pnX5_wouldGet⟩ ⟨Nat.le_of_ble_eq_true rfl, Nat.le_of_ble_eq_true rfl⟩) hE hS hA hP hD [8] [0, 1, 2, 3, 4, 5, 6, 7, 9, 10] rfl rfl ⟨rfl, rfl, by decide⟩ (k_recv C kFX5 hP (i := 8) (q := 0) rfl rfl) rfl hl.1 rfl rfl dL_law_1520 ⟨by show _ ≤ 605484; omega, by show _ ≤ 7191588; omega⟩ (fun r u H locs hp hP hD hS => ?_)
  obtain ⟨hr, hu⟩ := hp
  subst hu
  subst hr
  have hP : kp g [X4W g oF (kFr oC oS oH oR oT oB) vF, X0W g oC rC vC aC, X0W g oS rS vS aS, X2W g oH rH vH oQ rQ aH, X3W g oR rR vR aR, X1W g oT rT vT aT, JOW oB q ml (nI k), JAW g q n f, X5W g oM rM ((X5_wouldGet_f vM aM (xs (i + 1)) (xs (i + 2))).2) aM, OLW g oL h1, ODW g oD fD] H := hP.pick [0, 1, 2, 3, 4, 5, 6, 7, 10, 8, 9] rfl
  have hD : kd (kAh s) [X4W g oF (kFr oC oS oH oR oT oB) vF, X0W g oC rC vC aC, X0W g oS rS vS aS, X2W g oH rH vH oQ rQ aH, X3W g oR rR vR aR, X1W g oT rT vT aT, JOW oB q ml (nI k), JAW g q n f, X5W g oM rM ((X5_wouldGet_f vM aM (xs (i + 1)) (xs (i + 2))).2) aM, OLW g oL h1, ODW g oD fD] := hD.pick [0, 1, 2, 3, 4, 5, 6, 7, 10, 8, 9] rfl rfl
  refine lv_istore (lv' := [(7, .int ((X5_wouldGet_f vM aM (xs (i + 1)) (xs (i + 2))).1)), (6, .int (kLk2 2 ((X4_wouldGet_f vF vC aC (xs (i + 1)) (xs (i + 2))).1))), (5, .int (nI i)), (0, .ref b), (1, .ref oF), (2, .ref oM), (3, .ref oL), (4, .ref oD)]) hx hb dL_law_1523 hl (by decide) rfl (fun ls hl => ?_)
  refine lv_aload_n hx hb dL_law_1525 rfl (lv_at hl 5 rfl) ?_
  refine kR_V (As := []) (rest := []) C (X5_thrown_c l g oM rM ((X5_wouldGet_f vM aM (xs (i + 1)) (xs (i + 2))).2) aM) (cwV 0 hts (k_gV kw1513 ca_X5_thrown) rfl rfl rfl ⟨rfl, pnX5_thrown⟩ ⟨Nat.le_of_ble_eq_true rfl, Nat.le_of_ble_eq_true rfl⟩) hE hS (hP.pick [8] rfl) (k_recv C kFX5 hP (i := 8) (q := 0) rfl rfl) rfl hl.1 rfl rfl dL_law_1526 ⟨by show _ ≤ 605484; omega, by show _ ≤ 7191588; omega⟩ ?_
  refine lv_iload hx hb dL_law_1529 (lv_at hl 1 rfl) ?_
  refine lv_icmp_eq (tgt := 1536) hx hb dL_law_1531 (by decide) (fun z => ?_) (fun z => absurd hs.1 z)
  have fin : W p l e room_1 s m #[Value.ref b] below meth c H locs (cells + 3 + 0) (slots + 18 + 0) (lw_Z below #[Value.ref b] s) (F0 m 1553 ls []) := by
    refine lv_goto (tgt := 2358) hx hb dL_law_1553 (by decide) ?_
    exact ih _ _ _ _ _ _ _ _ _ _ _ _ _ _ _ _ _ _ _ _ H locs ls _ _ hs.2.2 hT hP hD hS (lv_sub hl [2, 3, 4, 5, 6, 7] rfl) (by omega) (by omega)
  refine lv_iload hx hb dL_law_1536 (lv_at hl 1 rfl) ?_
  by_cases hc0 : kLk2 2 ((X4_wouldGet_f vF vC aC (xs (i + 1)) (xs (i + 2))).1) = 0
  rotate_left
  · refine lv_if_ne (tgt := 1553) hx hb dL_law_1538 (by decide) (fun z => fin) (fun z => absurd z hc0)
  refine lv_if_ne (tgt := 1553) hx hb dL_law_1538 (by decide) (fun z => absurd hc0 z) (fun z => ?_)
  have hc1 := kLk2_0 hc0
  refine lv_aload_n hx hb dL_law_1541 rfl (lv_at hl 6 rfl) ?_
  refine lv_iconst (v := 0) hx hb dL_law_1542 (by decide) ?_
  refine kg_lald C hP (i := 9) rfl dL_law_1543 ?_
  refine lv_iload hx hb dL_law_1544 (lv_at hl 0 rfl) ?_
  refine lv_i2l hx hb dL_law_1546 rfl ?_
  refine W.lcmp hx hb dL_law_1547 ?_
  rw [k_lcmp0 ((hv1 hc1).trans (congrArg Int32.toInt64 (hs.2.1 hc1).symm))]
  refine lv_if_eq (tgt := 1553) hx hb dL_law_1548 (by decide) (fun z => fin) (fun z => absurd rfl z)
set_option maxHeartbeats 4000000 in
theorem LC_bestMarket (l : Launch) (hfl : l.stackTraces = false) {p : Program} {e : Env} {s : State} {m : MethodId} {below : List Frame} {meth : Method} {c : Code} {b L : Nat} {xs : Nat → Int32} {g : kG} (oF oC oS oH oR oT oB oM oL oD : Nat) (rC rS rH rR rT rM : Nat → Nat) (oQ : Nat → Nat) (rQ : Nat → Nat → Nat) (aR : Nat → Nat → Int32) {N i cells slots : Nat} (C : kC p c code s m #[Value.ref b] meth RL g 9 ret) (hE : kE g (kAh s) s s.heap) (hNc : kNc s) (hX : va_X b L xs s s.heap) (hbl : b < s.heap.size) (hL : L ≤ 2048) (hi : i + 4 ≤ L) (hN : N < 90000) (hcb : cells + 40 ≤ 605484) (hsb : slots + 2000 ≤ 7191588)
    (ih : kNext l p e s m below meth c b g oF oC oS oH oR oT oB oM oL oD rC rS rH rR rT rM oQ rQ aR i N cells slots) (vF : Nat → Int32) (vC : Nat → Int32) (aC : Nat → Nat → Int32) (vS : Nat → Int32) (aS : Nat → Nat → Int32) (vH : Nat → Int32) (aH : Nat → (Nat → Int32) × (Nat → Nat → Int32)) (vR : Nat → Int32) (vT : Nat → Int32) (aT : Nat → Nat → Int32) (q n : Nat) (ml : Int32) (f : Nat → Int32) (t : Nat → Nat) (k : Nat) (vM : Nat → Int32) (aM : Nat → Nat → Int32) (fL : Nat → Int64) (fD : Nat → UInt64) (H : Heap) (locs : List Loc) (ls : Array Slot) (hR : kRel N vF vC aC vS aS vH aH vR vT aT t k vM aM) (hT : ((n = 16 ∨ n = 34) ∧ k ≤ n ∧ sb_Fit f ∧ sb_Lat t k f)) (hP : kp g [X4W g oF (kFr oC oS oH oR oT oB) vF, X0W g oC rC vC aC, X0W g oS rS vS aS, X2W g oH rH vH oQ rQ aH, X3W g oR rR vR aR, X1W g oT rT vT aT, JOW oB q ml (nI k), JAW g q n f, X5W g oM rM vM aM, OLW g oL fL, ODW g oD fD] H) (hD : kd (kAh s) [X4W g oF (kFr oC oS oH oR oT oB) vF, X0W g oC rC vC aC, X0W g oS rS vS aS, X2W g oH rH vH oQ rQ aH, X3W g oR rR vR aR, X1W g oT rT vT aT, JOW oB q ml (nI k), JAW g q n f, X5W g oM rM vM aM, OLW g oL fL, ODW g oD fD]) (hS : va_S (kAh s) s.heap H locs) (hl : lv_has ls 9 (kLb i b oF oM oL oD)) :
    W p l e room_1 s m #[Value.ref b] below meth c H locs cells slots (lw_Z below #[Value.ref b] s) (F0 m 1556 ls []) := by
  have hA : ∀ q, s.heap.size ≤ q → kAh s q := fun q h => h
  have hx := C.1.1
  have hb := C.1.2.1
  have hts := C.1.2.2.2.2
  obtain ⟨⟨nb, nj, hnb, hv7, hnj, hv4, hb5, hj5⟩, hM, hM5, hh, hu, hL1, hL9, hch, hl40, h87, hI⟩ := kRel_hyp (by omega) hR
  refine lv_aload_n hx hb dL_law_1556 rfl (lv_at hl 2 rfl) ?_
  refine lv_aload_n hx hb dL_law_1557 rfl (lv_at hl 1 rfl) ?_
  refine lv_iload hx hb dL_law_1558 (lv_at hl 0 rfl) ?_
  refine lv_iconst (v := 1) hx hb dL_law_1560 (by decide) ?_
  refine lv_iadd hx hb dL_law_1561 ?_
  refine kg_script (j := 1) C hX hbl hS (by omega) hL dL_law_1562 ?_
  refine lv_aload_n hx hb dL_law_1563 rfl (lv_at hl 4 rfl) ?_
  have hs := kS_bestMarket (aR := aR) (by omega) hR (xs (i + 1))
  refine kL_S (As := [.ref oF, .int (xs (i + 1)), .ref oL]) (rest := []) (wr := [X0W g oS rS vS aS, X2W g oH rH vH oQ rQ aH, X3W g oR rR vR aR, X1W g oT rT vT aT, JOW oB q ml (nI k), JAW g q n f, X5W g oM rM vM aM, ODW g oD fD]) C (L_bestMarket_c l g oF vF oS oH oR oT oB oC rC vC aC (xs (i + 1)) nb hnb hv7 hM hfl oL fL kK_bestMarket) hNc (vx_cwSW 3 hts (k_gS kw925 cs_L_bestMarket) rfl rfl rfl pnL_bestMarket ⟨Nat.le_of_ble_eq_true rfl, Nat.le_of_ble_eq_true rfl⟩) hE hS hA hP hD [0, 1, 9] [2, 3, 4, 5, 6, 7, 8, 10] rfl rfl ⟨rfl, rfl, by decide⟩ rfl hl.1 rfl rfl dL_law_1564 ⟨by show _ ≤ 605484; omega, by show _ ≤ 7191588; omega⟩ (fun r u H locs hp hP hD hS => ?_)
  obtain ⟨hr, h1, hv1, hu1⟩ := hp
  subst hu1
  subst hr
  have hP : kp g [X4W g oF (kFr oC oS oH oR oT oB) vF, X0W g oC rC vC aC, X0W g oS rS vS aS, X2W g oH rH vH oQ rQ aH, X3W g oR rR vR aR, X1W g oT rT vT aT, JOW oB q ml (nI k), JAW g q n f, X5W g oM rM vM aM, OLW g oL h1, ODW g oD fD] H := hP.pick [8, 9, 0, 1, 2, 3, 4, 5, 6, 10, 7] rfl
  have hD : kd (kAh s) [X4W g oF (kFr oC oS oH oR oT oB) vF, X0W g oC rC vC aC, X0W g oS rS vS aS, X2W g oH rH vH oQ rQ aH, X3W g oR rR vR aR, X1W g oT rT vT aT, JOW oB q ml (nI k), JAW g q n f, X5W g oM rM vM aM, OLW g oL h1, ODW g oD fD] := hD.pick [8, 9, 0, 1, 2, 3, 4, 5, 6, 10, 7] rfl rfl
  refine lv_istore (lv' := [(6, .int (kLk2 2 ((X4_bestMarket_f vF vC aC (xs (i + 1))).1))), (5, .int (nI i)), (0, .ref b), (1, .ref oF), (2, .ref oM), (3, .ref oL), (4, .ref oD)]) hx hb dL_law_1567 hl (by decide) rfl (fun ls hl => ?_)
  refine lv_aload_n hx hb dL_law_1569 rfl (lv_at hl 4 rfl) ?_
  refine lv_aload_n hx hb dL_law_1570 rfl (lv_at hl 2 rfl) ?_
  refine lv_iload hx hb dL_law_1571 (lv_at hl 1 rfl) ?_
  refine lv_iconst (v := 1) hx hb dL_law_1573 (by decide) ?_
  refine lv_iadd hx hb dL_law_1574 ?_
  refine kg_script (j := 1) C hX hbl hS (by omega) hL dL_law_1575 ?_
  refine kM_V (As := [.int (xs (i + 1))]) (rest := []) (wr := [X4W g oF (kFr oC oS oH oR oT oB) vF, X0W g oC rC vC aC, X0W g oS rS vS aS, X2W g oH rH vH oQ rQ aH, X3W g oR rR vR aR, X1W g oT rT vT aT, JOW oB q ml (nI k), JAW g q n f, OLW g oL h1, ODW g oD fD]) C (X5_bestMarket_c l g oM rM vM aM (xs (i + 1)) ⟨nb, hnb, hb5⟩) (cwV 1 hts (k_gV kw1754 ca_X5_bestMarket) rfl rfl rfl ⟨rfl, pnX5_bestMarket⟩ ⟨Nat.le_of_ble_eq_true rfl, Nat.le_of_ble_eq_true rfl⟩) hE hS hA hP hD [8] [0, 1, 2, 3, 4, 5, 6, 7, 9, 10] rfl rfl ⟨rfl, rfl, by decide⟩ (k_recv C kFX5 hP (i := 8) (q := 0) rfl rfl) rfl hl.1 rfl rfl dL_law_1576 ⟨by show _ ≤ 605484; omega, by show _ ≤ 7191588; omega⟩ (fun r u H locs hp hP hD hS => ?_)
  obtain ⟨hr, hu⟩ := hp
  subst hu
  subst hr
  have hP : kp g [X4W g oF (kFr oC oS oH oR oT oB) vF, X0W g oC rC vC aC, X0W g oS rS vS aS, X2W g oH rH vH oQ rQ aH, X3W g oR rR vR aR, X1W g oT rT vT aT, JOW oB q ml (nI k), JAW g q n f, X5W g oM rM ((X5_bestMarket_f vM aM (xs (i + 1))).2) aM, OLW g oL h1, ODW g oD fD] H := hP.pick [0, 1, 2, 3, 4, 5, 6, 7, 10, 8, 9] rfl
  have hD : kd (kAh s) [X4W g oF (kFr oC oS oH oR oT oB) vF, X0W g oC rC vC aC, X0W g oS rS vS aS, X2W g oH rH vH oQ rQ aH, X3W g oR rR vR aR, X1W g oT rT vT aT, JOW oB q ml (nI k), JAW g q n f, X5W g oM rM ((X5_bestMarket_f vM aM (xs (i + 1))).2) aM, OLW g oL h1, ODW g oD fD] := hD.pick [0, 1, 2, 3, 4, 5, 6, 7, 10, 8, 9] rfl rfl
  refine lv_istore (lv' := [(7, .int ((X5_bestMarket_f vM aM (xs (i + 1))).1)), (6, .int (kLk2 2 ((X4_bestMarket_f vF vC aC (xs (i + 1))).1))), (5, .int (nI i)), (0, .ref b), (1, .ref oF), (2, .ref oM), (3, .ref oL), (4, .ref oD)]) hx hb dL_law_1579 hl (by decide) rfl (fun ls hl => ?_)
  refine lv_aload_n hx hb dL_law_1581 rfl (lv_at hl 5 rfl) ?_
  refine kR_V (As := []) (rest := []) C (X5_thrown_c l g oM rM ((X5_bestMarket_f vM aM (xs (i + 1))).2) aM) (cwV 0 hts (k_gV kw1513 ca_X5_thrown) rfl rfl rfl ⟨rfl, pnX5_thrown⟩ ⟨Nat.le_of_ble_eq_true rfl, Nat.le_of_ble_eq_true rfl⟩) hE hS (hP.pick [8] rfl) (k_recv C kFX5 hP (i := 8) (q := 0) rfl rfl) rfl hl.1 rfl rfl dL_law_1582 ⟨by show _ ≤ 605484; omega, by show _ ≤ 7191588; omega⟩ ?_
  refine lv_iload hx hb dL_law_1585 (lv_at hl 1 rfl) ?_
  refine lv_icmp_eq (tgt := 1592) hx hb dL_law_1587 (by decide) (fun z => ?_) (fun z => absurd hs.1 z)
  have fin : W p l e room_1 s m #[Value.ref b] below meth c H locs (cells + 2 + 0) (slots + 12 + 0) (lw_Z below #[Value.ref b] s) (F0 m 1609 ls []) := by
    refine lv_goto (tgt := 2358) hx hb dL_law_1609 (by decide) ?_
    exact ih _ _ _ _ _ _ _ _ _ _ _ _ _ _ _ _ _ _ _ _ H locs ls _ _ hs.2.2 hT hP hD hS (lv_sub hl [2, 3, 4, 5, 6, 7] rfl) (by omega) (by omega)
  refine lv_iload hx hb dL_law_1592 (lv_at hl 1 rfl) ?_
  by_cases hc0 : kLk2 2 ((X4_bestMarket_f vF vC aC (xs (i + 1))).1) = 0
  rotate_left
  · refine lv_if_ne (tgt := 1609) hx hb dL_law_1594 (by decide) (fun z => fin) (fun z => absurd z hc0)
  refine lv_if_ne (tgt := 1609) hx hb dL_law_1594 (by decide) (fun z => absurd hc0 z) (fun z => ?_)
  have hc1 := kLk2_0 hc0
  refine lv_aload_n hx hb dL_law_1597 rfl (lv_at hl 6 rfl) ?_
  refine lv_iconst (v := 0) hx hb dL_law_1598 (by decide) ?_
  refine kg_lald C hP (i := 9) rfl dL_law_1599 ?_
  refine lv_iload hx hb dL_law_1600 (lv_at hl 0 rfl) ?_
  refine lv_i2l hx hb dL_law_1602 rfl ?_
  refine W.lcmp hx hb dL_law_1603 ?_
  rw [k_lcmp0 ((hv1 hc1).trans (congrArg Int32.toInt64 (hs.2.1 hc1).symm))]
  refine lv_if_eq (tgt := 1609) hx hb dL_law_1604 (by decide) (fun z => fin) (fun z => absurd rfl z)
set_option maxHeartbeats 4000000 in
theorem LC_oathUntil (l : Launch) (hfl : l.stackTraces = false) {p : Program} {e : Env} {s : State} {m : MethodId} {below : List Frame} {meth : Method} {c : Code} {b L : Nat} {xs : Nat → Int32} {g : kG} (oF oC oS oH oR oT oB oM oL oD : Nat) (rC rS rH rR rT rM : Nat → Nat) (oQ : Nat → Nat) (rQ : Nat → Nat → Nat) (aR : Nat → Nat → Int32) {N i cells slots : Nat} (C : kC p c code s m #[Value.ref b] meth RL g 9 ret) (hE : kE g (kAh s) s s.heap) (hNc : kNc s) (hX : va_X b L xs s s.heap) (hbl : b < s.heap.size) (hL : L ≤ 2048) (hi : i + 4 ≤ L) (hN : N < 90000) (hcb : cells + 40 ≤ 605484) (hsb : slots + 2000 ≤ 7191588)
    (ih : kNext l p e s m below meth c b g oF oC oS oH oR oT oB oM oL oD rC rS rH rR rT rM oQ rQ aR i N cells slots) (vF : Nat → Int32) (vC : Nat → Int32) (aC : Nat → Nat → Int32) (vS : Nat → Int32) (aS : Nat → Nat → Int32) (vH : Nat → Int32) (aH : Nat → (Nat → Int32) × (Nat → Nat → Int32)) (vR : Nat → Int32) (vT : Nat → Int32) (aT : Nat → Nat → Int32) (q n : Nat) (ml : Int32) (f : Nat → Int32) (t : Nat → Nat) (k : Nat) (vM : Nat → Int32) (aM : Nat → Nat → Int32) (fL : Nat → Int64) (fD : Nat → UInt64) (H : Heap) (locs : List Loc) (ls : Array Slot) (hR : kRel N vF vC aC vS aS vH aH vR vT aT t k vM aM) (hT : ((n = 16 ∨ n = 34) ∧ k ≤ n ∧ sb_Fit f ∧ sb_Lat t k f)) (hP : kp g [X4W g oF (kFr oC oS oH oR oT oB) vF, X0W g oC rC vC aC, X0W g oS rS vS aS, X2W g oH rH vH oQ rQ aH, X3W g oR rR vR aR, X1W g oT rT vT aT, JOW oB q ml (nI k), JAW g q n f, X5W g oM rM vM aM, OLW g oL fL, ODW g oD fD] H) (hD : kd (kAh s) [X4W g oF (kFr oC oS oH oR oT oB) vF, X0W g oC rC vC aC, X0W g oS rS vS aS, X2W g oH rH vH oQ rQ aH, X3W g oR rR vR aR, X1W g oT rT vT aT, JOW oB q ml (nI k), JAW g q n f, X5W g oM rM vM aM, OLW g oL fL, ODW g oD fD]) (hS : va_S (kAh s) s.heap H locs) (hl : lv_has ls 9 (kLb i b oF oM oL oD)) :
    W p l e room_1 s m #[Value.ref b] below meth c H locs cells slots (lw_Z below #[Value.ref b] s) (F0 m 1612 ls []) := by
  have hA : ∀ q, s.heap.size ≤ q → kAh s q := fun q h => h
  have hx := C.1.1
  have hb := C.1.2.1
  have hts := C.1.2.2.2.2
  obtain ⟨⟨nb, nj, hnb, hv7, hnj, hv4, hb5, hj5⟩, hM, hM5, hh, hu, hL1, hL9, hch, hl40, h87, hI⟩ := kRel_hyp (by omega) hR
  refine lv_aload_n hx hb dL_law_1612 rfl (lv_at hl 2 rfl) ?_
  refine lv_aload_n hx hb dL_law_1613 rfl (lv_at hl 1 rfl) ?_
  refine lv_iload hx hb dL_law_1614 (lv_at hl 0 rfl) ?_
  refine lv_iconst (v := 1) hx hb dL_law_1616 (by decide) ?_
  refine lv_iadd hx hb dL_law_1617 ?_
  refine kg_script (j := 1) C hX hbl hS (by omega) hL dL_law_1618 ?_
  refine lv_aload_n hx hb dL_law_1619 rfl (lv_at hl 4 rfl) ?_
  have hs := kS_oathUntil (aR := aR) (by omega) hR (xs (i + 1))
  refine kL_S (As := [.ref oF, .int (xs (i + 1)), .ref oL]) (rest := []) (wr := [X0W g oS rS vS aS, X2W g oH rH vH oQ rQ aH, X3W g oR rR vR aR, X1W g oT rT vT aT, JOW oB q ml (nI k), JAW g q n f, X5W g oM rM vM aM, ODW g oD fD]) C (L_oathUntil_c l g oF vF oS oH oR oT oB oC rC vC aC (xs (i + 1)) hfl oL fL kK_oathUntil) hNc (vx_cwSW 3 hts (k_gS kw937 cs_L_oathUntil) rfl rfl rfl pnL_oathUntil ⟨Nat.le_of_ble_eq_true rfl, Nat.le_of_ble_eq_true rfl⟩) hE hS hA hP hD [0, 1, 9] [2, 3, 4, 5, 6, 7, 8, 10] rfl rfl ⟨rfl, rfl, by decide⟩ rfl hl.1 rfl rfl dL_law_1620 ⟨by show _ ≤ 605484; omega, by show _ ≤ 7191588; omega⟩ (fun r u H locs hp hP hD hS => ?_)
  obtain ⟨hr, h1, hv1, hu1⟩ := hp
  subst hu1
  subst hr
  have hP : kp g [X4W g oF (kFr oC oS oH oR oT oB) vF, X0W g oC rC vC aC, X0W g oS rS vS aS, X2W g oH rH vH oQ rQ aH, X3W g oR rR vR aR, X1W g oT rT vT aT, JOW oB q ml (nI k), JAW g q n f, X5W g oM rM vM aM, OLW g oL h1, ODW g oD fD] H := hP.pick [8, 9, 0, 1, 2, 3, 4, 5, 6, 10, 7] rfl
  have hD : kd (kAh s) [X4W g oF (kFr oC oS oH oR oT oB) vF, X0W g oC rC vC aC, X0W g oS rS vS aS, X2W g oH rH vH oQ rQ aH, X3W g oR rR vR aR, X1W g oT rT vT aT, JOW oB q ml (nI k), JAW g q n f, X5W g oM rM vM aM, OLW g oL h1, ODW g oD fD] := hD.pick [8, 9, 0, 1, 2, 3, 4, 5, 6, 10, 7] rfl rfl
  refine lv_istore (lv' := [(6, .int (kLk2 2 ((X4_oathUntil_f vF vC aC (xs (i + 1))).1))), (5, .int (nI i)), (0, .ref b), (1, .ref oF), (2, .ref oM), (3, .ref oL), (4, .ref oD)]) hx hb dL_law_1623 hl (by decide) rfl (fun ls hl => ?_)
  refine lv_aload_n hx hb dL_law_1625 rfl (lv_at hl 4 rfl) ?_
  refine lv_aload_n hx hb dL_law_1626 rfl (lv_at hl 2 rfl) ?_
  refine lv_iload hx hb dL_law_1627 (lv_at hl 1 rfl) ?_
  refine lv_iconst (v := 1) hx hb dL_law_1629 (by decide) ?_
  refine lv_iadd hx hb dL_law_1630 ?_
  refine kg_script (j := 1) C hX hbl hS (by omega) hL dL_law_1631 ?_
  refine kM_V (As := [.int (xs (i + 1))]) (rest := []) (wr := [X4W g oF (kFr oC oS oH oR oT oB) vF, X0W g oC rC vC aC, X0W g oS rS vS aS, X2W g oH rH vH oQ rQ aH, X3W g oR rR vR aR, X1W g oT rT vT aT, JOW oB q ml (nI k), JAW g q n f, OLW g oL h1, ODW g oD fD]) C (X5_oathUntil_c l g oM rM vM aM (xs (i + 1))) (cwV 1 hts (k_gV kw1758 ca_X5_oathUntil) rfl rfl rfl ⟨rfl, pnX5_oathUntil⟩ ⟨Nat.le_of_ble_eq_true rfl, Nat.le_of_ble_eq_true rfl⟩) hE hS hA hP hD [8] [0, 1, 2, 3, 4, 5, 6, 7, 9, 10] rfl rfl ⟨rfl, rfl, by decide⟩ (k_recv C kFX5 hP (i := 8) (q := 0) rfl rfl) rfl hl.1 rfl rfl dL_law_1632 ⟨by show _ ≤ 605484; omega, by show _ ≤ 7191588; omega⟩ (fun r u H locs hp hP hD hS => ?_)
  obtain ⟨hr, hu⟩ := hp
  subst hu
  subst hr
  have hP : kp g [X4W g oF (kFr oC oS oH oR oT oB) vF, X0W g oC rC vC aC, X0W g oS rS vS aS, X2W g oH rH vH oQ rQ aH, X3W g oR rR vR aR, X1W g oT rT vT aT, JOW oB q ml (nI k), JAW g q n f, X5W g oM rM ((X5_oathUntil_f vM aM (xs (i + 1))).2) aM, OLW g oL h1, ODW g oD fD] H := hP.pick [0, 1, 2, 3, 4, 5, 6, 7, 10, 8, 9] rfl
  have hD : kd (kAh s) [X4W g oF (kFr oC oS oH oR oT oB) vF, X0W g oC rC vC aC, X0W g oS rS vS aS, X2W g oH rH vH oQ rQ aH, X3W g oR rR vR aR, X1W g oT rT vT aT, JOW oB q ml (nI k), JAW g q n f, X5W g oM rM ((X5_oathUntil_f vM aM (xs (i + 1))).2) aM, OLW g oL h1, ODW g oD fD] := hD.pick [0, 1, 2, 3, 4, 5, 6, 7, 10, 8, 9] rfl rfl
  refine lv_istore (lv' := [(7, .int ((X5_oathUntil_f vM aM (xs (i + 1))).1)), (6, .int (kLk2 2 ((X4_oathUntil_f vF vC aC (xs (i + 1))).1))), (5, .int (nI i)), (0, .ref b), (1, .ref oF), (2, .ref oM), (3, .ref oL), (4, .ref oD)]) hx hb dL_law_1635 hl (by decide) rfl (fun ls hl => ?_)
  refine lv_aload_n hx hb dL_law_1637 rfl (lv_at hl 5 rfl) ?_
  refine kR_V (As := []) (rest := []) C (X5_thrown_c l g oM rM ((X5_oathUntil_f vM aM (xs (i + 1))).2) aM) (cwV 0 hts (k_gV kw1513 ca_X5_thrown) rfl rfl rfl ⟨rfl, pnX5_thrown⟩ ⟨Nat.le_of_ble_eq_true rfl, Nat.le_of_ble_eq_true rfl⟩) hE hS (hP.pick [8] rfl) (k_recv C kFX5 hP (i := 8) (q := 0) rfl rfl) rfl hl.1 rfl rfl dL_law_1638 ⟨by show _ ≤ 605484; omega, by show _ ≤ 7191588; omega⟩ ?_
  refine lv_iload hx hb dL_law_1641 (lv_at hl 1 rfl) ?_
  refine lv_icmp_eq (tgt := 1648) hx hb dL_law_1643 (by decide) (fun z => ?_) (fun z => absurd hs.1 z)
  have fin : W p l e room_1 s m #[Value.ref b] below meth c H locs (cells + 2 + 0) (slots + 12 + 0) (lw_Z below #[Value.ref b] s) (F0 m 1665 ls []) := by
    refine lv_goto (tgt := 2358) hx hb dL_law_1665 (by decide) ?_
    exact ih _ _ _ _ _ _ _ _ _ _ _ _ _ _ _ _ _ _ _ _ H locs ls _ _ hs.2.2 hT hP hD hS (lv_sub hl [2, 3, 4, 5, 6, 7] rfl) (by omega) (by omega)
  refine lv_iload hx hb dL_law_1648 (lv_at hl 1 rfl) ?_
  by_cases hc0 : kLk2 2 ((X4_oathUntil_f vF vC aC (xs (i + 1))).1) = 0
  rotate_left
  · refine lv_if_ne (tgt := 1665) hx hb dL_law_1650 (by decide) (fun z => fin) (fun z => absurd z hc0)
  refine lv_if_ne (tgt := 1665) hx hb dL_law_1650 (by decide) (fun z => absurd hc0 z) (fun z => ?_)
  have hc1 := kLk2_0 hc0
  refine lv_aload_n hx hb dL_law_1653 rfl (lv_at hl 6 rfl) ?_
  refine lv_iconst (v := 0) hx hb dL_law_1654 (by decide) ?_
  refine kg_lald C hP (i := 9) rfl dL_law_1655 ?_
  refine lv_iload hx hb dL_law_1656 (lv_at hl 0 rfl) ?_
  refine lv_i2l hx hb dL_law_1658 rfl ?_
  refine W.lcmp hx hb dL_law_1659 ?_
  rw [k_lcmp0 ((hv1 hc1).trans (congrArg Int32.toInt64 (hs.2.1 hc1).symm))]
  refine lv_if_eq (tgt := 1665) hx hb dL_law_1660 (by decide) (fun z => fin) (fun z => absurd rfl z)
