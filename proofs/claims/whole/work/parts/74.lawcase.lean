theorem kw363 : Cond.methodLink RL 238 yX4_faultPosition ∈ kW := k_w 3 17 rfl rfl
theorem kw946 : Cond.methodLink RL 225 yL_isNoticed ∈ kW := k_w 5 120 rfl rfl
theorem kw954 : Cond.methodLink RL 228 yL_ranked ∈ kW := k_w 5 128 rfl rfl
theorem kw970 : Cond.methodLink RL 231 yL_append ∈ kW := k_w 5 144 rfl rfl
theorem kw994 : Cond.methodLink RL 235 yL_commands ∈ kW := k_w 5 168 rfl rfl
theorem kw1090 : Cond.methodLink RL 242 yL_reason ∈ kW := k_w 6 24 rfl rfl
theorem kw1099 : Cond.methodLink RL 245 yL_line ∈ kW := k_w 6 33 rfl rfl
theorem kw1356 : Cond.methodLink RL 248 yL_character ∈ kW := k_w 7 50 rfl rfl
theorem kw1762 : Cond.methodLink RL 227 yX5_isNoticed ∈ kW := k_w 8 216 rfl rfl
theorem kw1766 : Cond.methodLink RL 230 yX5_ranked ∈ kW := k_w 8 220 rfl rfl
theorem kw1770 : Cond.methodLink RL 234 yX5_append ∈ kW := k_w 8 224 rfl rfl
theorem kw1774 : Cond.methodLink RL 237 yX5_commands ∈ kW := k_w 8 228 rfl rfl
theorem kw1798 : Cond.methodLink RL 241 yX5_faultPosition ∈ kW := k_w 9 12 rfl rfl
theorem kw1802 : Cond.methodLink RL 244 yX5_reason ∈ kW := k_w 9 16 rfl rfl
theorem kw1806 : Cond.methodLink RL 247 yX5_line ∈ kW := k_w 9 20 rfl rfl
theorem kw1814 : Cond.methodLink RL 250 yX5_character ∈ kW := k_w 9 28 rfl rfl
set_option maxHeartbeats 4000000 in
theorem LC_isNoticed (l : Launch) (hfl : l.stackTraces = false) {p : Program} {e : Env} {s : State} {m : MethodId} {below : List Frame} {meth : Method} {c : Code} {b L : Nat} {xs : Nat → Int32} {g : kG} (oF oC oS oH oR oT oB oM oL oD : Nat) (rC rS rH rR rT rM : Nat → Nat) (oQ : Nat → Nat) (rQ : Nat → Nat → Nat) (aR : Nat → Nat → Int32) {N i cells slots : Nat} (C : kC p c code s m #[Value.ref b] meth RL g 9 ret) (hE : kE g (kAh s) s s.heap) (hNc : kNc s) (hX : va_X b L xs s s.heap) (hbl : b < s.heap.size) (hL : L ≤ 2048) (hi : i + 4 ≤ L) (hN : N < 90000) (hcb : cells + 40 ≤ 605484) (hsb : slots + 2000 ≤ 7191588)
    (ih : kNext l p e s m below meth c b g oF oC oS oH oR oT oB oM oL oD rC rS rH rR rT rM oQ rQ aR i N cells slots) (vF : Nat → Int32) (vC : Nat → Int32) (aC : Nat → Nat → Int32) (vS : Nat → Int32) (aS : Nat → Nat → Int32) (vH : Nat → Int32) (aH : Nat → (Nat → Int32) × (Nat → Nat → Int32)) (vR : Nat → Int32) (vT : Nat → Int32) (aT : Nat → Nat → Int32) (q n : Nat) (ml : Int32) (f : Nat → Int32) (t : Nat → Nat) (k : Nat) (vM : Nat → Int32) (aM : Nat → Nat → Int32) (fL : Nat → Int64) (fD : Nat → UInt64) (H : Heap) (locs : List Loc) (ls : Array Slot) (hR : kRel N vF vC aC vS aS vH aH vR vT aT t k vM aM) (hT : ((n = 16 ∨ n = 34) ∧ k ≤ n ∧ sb_Fit f ∧ sb_Lat t k f)) (hP : kp g [X4W g oF (kFr oC oS oH oR oT oB) vF, X0W g oC rC vC aC, X0W g oS rS vS aS, X2W g oH rH vH oQ rQ aH, X3W g oR rR vR aR, X1W g oT rT vT aT, JOW oB q ml (nI k), JAW g q n f, X5W g oM rM vM aM, OLW g oL fL, ODW g oD fD] H) (hD : kd (kAh s) [X4W g oF (kFr oC oS oH oR oT oB) vF, X0W g oC rC vC aC, X0W g oS rS vS aS, X2W g oH rH vH oQ rQ aH, X3W g oR rR vR aR, X1W g oT rT vT aT, JOW oB q ml (nI k), JAW g q n f, X5W g oM rM vM aM, OLW g oL fL, ODW g oD fD]) (hS : va_S (kAh s) s.heap H locs) (hl : lv_has ls 9 (kLb i b oF oM oL oD)) :
    W p l e room_1 s m #[Value.ref b] below meth c H locs cells slots (lw_Z below #[Value.ref b] s) (F0 m 1668 ls []) := by
  have hA : ∀ q, s.heap.size ≤ q → kAh s q := fun q h => h
  have hx := C.1.1
  have hb := C.1.2.1
  have hts := C.1.2.2.2.2
  obtain ⟨⟨nb, nj, hnb, hv7, hnj, hv4, hb5, hj5⟩, hM, hM5, hh, hu, hL1, hL9, hch, hl40, h87, hI⟩ := kRel_hyp (by omega) hR
  refine lv_aload_n hx hb dL_law_1668 rfl (lv_at hl 2 rfl) ?_
  refine lv_aload_n hx hb dL_law_1669 rfl (lv_at hl 1 rfl) ?_
  refine lv_iload hx hb dL_law_1670 (lv_at hl 0 rfl) ?_
  refine lv_iconst (v := 1) hx hb dL_law_1672 (by decide) ?_
  refine lv_iadd hx hb dL_law_1673 ?_
  refine kg_script (j := 1) C hX hbl hS (by omega) hL dL_law_1674 ?_
  refine lv_aload_n hx hb dL_law_1675 rfl (lv_at hl 4 rfl) ?_
  have hs := kS_isNoticed (aR := aR) (by omega) hR (xs (i + 1))
  refine kL_S (As := [.ref oF, .int (xs (i + 1)), .ref oL]) (rest := []) (wr := [X0W g oS rS vS aS, X2W g oH rH vH oQ rQ aH, X3W g oR rR vR aR, X1W g oT rT vT aT, JOW oB q ml (nI k), JAW g q n f, X5W g oM rM vM aM, ODW g oD fD]) C (L_isNoticed_c l g oF vF oS oH oR oT oB oC rC vC aC (xs (i + 1)) hfl oL fL kK_isNoticed) hNc (vx_cwSW 3 hts (k_gS kw946 cs_L_isNoticed) rfl rfl rfl pnL_isNoticed ⟨Nat.le_of_ble_eq_true rfl, Nat.le_of_ble_eq_true rfl⟩) hE hS hA hP hD [0, 1, 9] [2, 3, 4, 5, 6, 7, 8, 10] rfl rfl ⟨rfl, rfl, by decide⟩ rfl hl.1 rfl rfl dL_law_1676 ⟨by show _ ≤ 605484; omega, by show _ ≤ 7191588; omega⟩ (fun r u H locs hp hP hD hS => ?_)
  obtain ⟨hr, h1, hv1, hu1⟩ := hp
  subst hu1
  subst hr
  have hP : kp g [X4W g oF (kFr oC oS oH oR oT oB) vF, X0W g oC rC vC aC, X0W g oS rS vS aS, X2W g oH rH vH oQ rQ aH, X3W g oR rR vR aR, X1W g oT rT vT aT, JOW oB q ml (nI k), JAW g q n f, X5W g oM rM vM aM, OLW g oL h1, ODW g oD fD] H := hP.pick [8, 9, 0, 1, 2, 3, 4, 5, 6, 10, 7] rfl
  have hD : kd (kAh s) [X4W g oF (kFr oC oS oH oR oT oB) vF, X0W g oC rC vC aC, X0W g oS rS vS aS, X2W g oH rH vH oQ rQ aH, X3W g oR rR vR aR, X1W g oT rT vT aT, JOW oB q ml (nI k), JAW g q n f, X5W g oM rM vM aM, OLW g oL h1, ODW g oD fD] := hD.pick [8, 9, 0, 1, 2, 3, 4, 5, 6, 10, 7] rfl rfl
  refine lv_istore (lv' := [(6, .int (kLk1 ((X4_isNoticed_f vF vC aC (xs (i + 1))).1))), (5, .int (nI i)), (0, .ref b), (1, .ref oF), (2, .ref oM), (3, .ref oL), (4, .ref oD)]) hx hb dL_law_1679 hl (by decide) rfl (fun ls hl => ?_)
  refine lv_aload_n hx hb dL_law_1681 rfl (lv_at hl 4 rfl) ?_
  refine lv_aload_n hx hb dL_law_1682 rfl (lv_at hl 2 rfl) ?_
  refine lv_iload hx hb dL_law_1683 (lv_at hl 1 rfl) ?_
  refine lv_iconst (v := 1) hx hb dL_law_1685 (by decide) ?_
  refine lv_iadd hx hb dL_law_1686 ?_
  refine kg_script (j := 1) C hX hbl hS (by omega) hL dL_law_1687 ?_
  refine kM_V (As := [.int (xs (i + 1))]) (rest := []) (wr := [X4W g oF (kFr oC oS oH oR oT oB) vF, X0W g oC rC vC aC, X0W g oS rS vS aS, X2W g oH rH vH oQ rQ aH, X3W g oR rR vR aR, X1W g oT rT vT aT, JOW oB q ml (nI k), JAW g q n f, OLW g oL h1, ODW g oD fD]) C (X5_isNoticed_c l g oM rM vM aM (xs (i + 1))) (cwV 1 hts (k_gV kw1762 ca_X5_isNoticed) rfl rfl rfl ⟨rfl, pnX5_isNoticed⟩ ⟨Nat.le_of_ble_eq_true rfl, Nat.le_of_ble_eq_true rfl⟩) hE hS hA hP hD [8] [0, 1, 2, 3, 4, 5, 6, 7, 9, 10] rfl rfl ⟨rfl, rfl, by decide⟩ (k_recv C kFX5 hP (i := 8) (q := 0) rfl rfl) rfl hl.1 rfl rfl dL_law_1688 ⟨by show _ ≤ 605484; omega, by show _ ≤ 7191588; omega⟩ (fun r u H locs hp hP hD hS => ?_)
  obtain ⟨hr, hu⟩ := hp
  subst hu
  subst hr
  have hP : kp g [X4W g oF (kFr oC oS oH oR oT oB) vF, X0W g oC rC vC aC, X0W g oS rS vS aS, X2W g oH rH vH oQ rQ aH, X3W g oR rR vR aR, X1W g oT rT vT aT, JOW oB q ml (nI k), JAW g q n f, X5W g oM rM ((X5_isNoticed_f vM aM (xs (i + 1))).2) aM, OLW g oL h1, ODW g oD fD] H := hP.pick [0, 1, 2, 3, 4, 5, 6, 7, 10, 8, 9] rfl
  have hD : kd (kAh s) [X4W g oF (kFr oC oS oH oR oT oB) vF, X0W g oC rC vC aC, X0W g oS rS vS aS, X2W g oH rH vH oQ rQ aH, X3W g oR rR vR aR, X1W g oT rT vT aT, JOW oB q ml (nI k), JAW g q n f, X5W g oM rM ((X5_isNoticed_f vM aM (xs (i + 1))).2) aM, OLW g oL h1, ODW g oD fD] := hD.pick [0, 1, 2, 3, 4, 5, 6, 7, 10, 8, 9] rfl rfl
  refine lv_istore (lv' := [(7, .int (b2i (X5_isNoticed_f vM aM (xs (i + 1))).1)), (6, .int (kLk1 ((X4_isNoticed_f vF vC aC (xs (i + 1))).1))), (5, .int (nI i)), (0, .ref b), (1, .ref oF), (2, .ref oM), (3, .ref oL), (4, .ref oD)]) hx hb dL_law_1691 hl (by decide) rfl (fun ls hl => ?_)
  refine lv_aload_n hx hb dL_law_1693 rfl (lv_at hl 5 rfl) ?_
  refine kR_V (As := []) (rest := []) C (X5_thrown_c l g oM rM ((X5_isNoticed_f vM aM (xs (i + 1))).2) aM) (cwV 0 hts (k_gV kw1513 ca_X5_thrown) rfl rfl rfl ⟨rfl, pnX5_thrown⟩ ⟨Nat.le_of_ble_eq_true rfl, Nat.le_of_ble_eq_true rfl⟩) hE hS (hP.pick [8] rfl) (k_recv C kFX5 hP (i := 8) (q := 0) rfl rfl) rfl hl.1 rfl rfl dL_law_1694 ⟨by show _ ≤ 605484; omega, by show _ ≤ 7191588; omega⟩ ?_
  refine lv_iload hx hb dL_law_1697 (lv_at hl 1 rfl) ?_
  refine lv_icmp_eq (tgt := 1704) hx hb dL_law_1699 (by decide) (fun z => ?_) (fun z => absurd hs.1 z)
  have fin : W p l e room_1 s m #[Value.ref b] below meth c H locs (cells + 1 + 0) (slots + 6 + 0) (lw_Z below #[Value.ref b] s) (F0 m 1728 ls []) := by
    refine lv_goto (tgt := 2358) hx hb dL_law_1728 (by decide) ?_
    exact ih _ _ _ _ _ _ _ _ _ _ _ _ _ _ _ _ _ _ _ _ H locs ls _ _ hs.2.2 hT hP hD hS (lv_sub hl [2, 3, 4, 5, 6, 7] rfl) (by omega) (by omega)
  refine lv_iload hx hb dL_law_1704 (lv_at hl 1 rfl) ?_
  by_cases hc0 : kLk1 ((X4_isNoticed_f vF vC aC (xs (i + 1))).1) = 0
  rotate_left
  · refine lv_if_ne (tgt := 1728) hx hb dL_law_1706 (by decide) (fun z => fin) (fun z => absurd z hc0)
  refine lv_if_ne (tgt := 1728) hx hb dL_law_1706 (by decide) (fun z => absurd hc0 z) (fun z => ?_)
  have hc1 := kLk1_0 hc0
  refine lv_aload_n hx hb dL_law_1709 rfl (lv_at hl 6 rfl) ?_
  refine lv_iconst (v := 0) hx hb dL_law_1710 (by decide) ?_
  refine kg_lald C hP (i := 9) rfl dL_law_1711 ?_
  refine lv_iload hx hb dL_law_1712 (lv_at hl 0 rfl) ?_
  have e5 := hs.2.1 hc1
  have e6 := hv1 hc1
  by_cases hz : b2i (X5_isNoticed_f vM aM (xs (i + 1))).1 = 1
  · rw [if_pos (e5.symm.trans hz)] at e6
    refine lv_if_eq (tgt := 1721) hx hb dL_law_1714 (by decide) (fun z => absurd (hz.symm.trans z) (by decide)) (fun z => ?_)
    refine lv_lconst (v := 1) hx hb dL_law_1717 rfl ?_
    refine lv_goto (tgt := 1722) hx hb dL_law_1718 (by decide) ?_
    refine W.lcmp hx hb dL_law_1722 ?_
    rw [k_lcmp0 e6]
    refine lv_if_eq (tgt := 1728) hx hb dL_law_1723 (by decide) (fun z => fin) (fun z => absurd rfl z)
  · rw [if_neg (fun h => hz (e5.trans h))] at e6
    refine lv_if_eq (tgt := 1721) hx hb dL_law_1714 (by decide) (fun z => ?_) (fun z => absurd (k_b01 hz) z)
    refine lv_lconst (v := 0) hx hb dL_law_1721 rfl ?_
    refine W.lcmp hx hb dL_law_1722 ?_
    rw [k_lcmp0 e6]
    refine lv_if_eq (tgt := 1728) hx hb dL_law_1723 (by decide) (fun z => fin) (fun z => absurd rfl z)
set_option maxHeartbeats 4000000 in
theorem LC_ranked (l : Launch) (hfl : l.stackTraces = false) {p : Program} {e : Env} {s : State} {m : MethodId} {below : List Frame} {meth : Method} {c : Code} {b L : Nat} {xs : Nat → Int32} {g : kG} (oF oC oS oH oR oT oB oM oL oD : Nat) (rC rS rH rR rT rM : Nat → Nat) (oQ : Nat → Nat) (rQ : Nat → Nat → Nat) (aR : Nat → Nat → Int32) {N i cells slots : Nat} (C : kC p c code s m #[Value.ref b] meth RL g 9 ret) (hE : kE g (kAh s) s s.heap) (hNc : kNc s) (hX : va_X b L xs s s.heap) (hbl : b < s.heap.size) (hL : L ≤ 2048) (hi : i + 4 ≤ L) (hN : N < 90000) (hcb : cells + 40 ≤ 605484) (hsb : slots + 2000 ≤ 7191588)
    (ih : kNext l p e s m below meth c b g oF oC oS oH oR oT oB oM oL oD rC rS rH rR rT rM oQ rQ aR i N cells slots) (vF : Nat → Int32) (vC : Nat → Int32) (aC : Nat → Nat → Int32) (vS : Nat → Int32) (aS : Nat → Nat → Int32) (vH : Nat → Int32) (aH : Nat → (Nat → Int32) × (Nat → Nat → Int32)) (vR : Nat → Int32) (vT : Nat → Int32) (aT : Nat → Nat → Int32) (q n : Nat) (ml : Int32) (f : Nat → Int32) (t : Nat → Nat) (k : Nat) (vM : Nat → Int32) (aM : Nat → Nat → Int32) (fL : Nat → Int64) (fD : Nat → UInt64) (H : Heap) (locs : List Loc) (ls : Array Slot) (hR : kRel N vF vC aC vS aS vH aH vR vT aT t k vM aM) (hT : ((n = 16 ∨ n = 34) ∧ k ≤ n ∧ sb_Fit f ∧ sb_Lat t k f)) (hP : kp g [X4W g oF (kFr oC oS oH oR oT oB) vF, X0W g oC rC vC aC, X0W g oS rS vS aS, X2W g oH rH vH oQ rQ aH, X3W g oR rR vR aR, X1W g oT rT vT aT, JOW oB q ml (nI k), JAW g q n f, X5W g oM rM vM aM, OLW g oL fL, ODW g oD fD] H) (hD : kd (kAh s) [X4W g oF (kFr oC oS oH oR oT oB) vF, X0W g oC rC vC aC, X0W g oS rS vS aS, X2W g oH rH vH oQ rQ aH, X3W g oR rR vR aR, X1W g oT rT vT aT, JOW oB q ml (nI k), JAW g q n f, X5W g oM rM vM aM, OLW g oL fL, ODW g oD fD]) (hS : va_S (kAh s) s.heap H locs) (hl : lv_has ls 9 (kLb i b oF oM oL oD)) :
    W p l e room_1 s m #[Value.ref b] below meth c H locs cells slots (lw_Z below #[Value.ref b] s) (F0 m 1731 ls []) := by
  have hA : ∀ q, s.heap.size ≤ q → kAh s q := fun q h => h
  have hx := C.1.1
  have hb := C.1.2.1
  have hts := C.1.2.2.2.2
  obtain ⟨⟨nb, nj, hnb, hv7, hnj, hv4, hb5, hj5⟩, hM, hM5, hh, hu, hL1, hL9, hch, hl40, h87, hI⟩ := kRel_hyp (by omega) hR
  refine lv_aload_n hx hb dL_law_1731 rfl (lv_at hl 2 rfl) ?_
  refine lv_aload_n hx hb dL_law_1732 rfl (lv_at hl 1 rfl) ?_
  refine lv_iload hx hb dL_law_1733 (lv_at hl 0 rfl) ?_
  refine lv_iconst (v := 1) hx hb dL_law_1735 (by decide) ?_
  refine lv_iadd hx hb dL_law_1736 ?_
  refine kg_script (j := 1) C hX hbl hS (by omega) hL dL_law_1737 ?_
  refine lv_aload_n hx hb dL_law_1738 rfl (lv_at hl 4 rfl) ?_
  have hs := kS_ranked (aR := aR) (by omega) hR (xs (i + 1))
  refine kL_S (As := [.ref oF, .int (xs (i + 1)), .ref oL]) (rest := []) (wr := [X0W g oS rS vS aS, X2W g oH rH vH oQ rQ aH, X3W g oR rR vR aR, X1W g oT rT vT aT, JOW oB q ml (nI k), JAW g q n f, X5W g oM rM vM aM, ODW g oD fD]) C (L_ranked_c l g oF vF oS oH oR oT oB oC rC vC aC (xs (i + 1)) nb hnb hv7 hfl oL fL kK_ranked) hNc (vx_cwSW 3 hts (k_gS kw954 cs_L_ranked) rfl rfl rfl pnL_ranked ⟨Nat.le_of_ble_eq_true rfl, Nat.le_of_ble_eq_true rfl⟩) hE hS hA hP hD [0, 1, 9] [2, 3, 4, 5, 6, 7, 8, 10] rfl rfl ⟨rfl, rfl, by decide⟩ rfl hl.1 rfl rfl dL_law_1739 ⟨by show _ ≤ 605484; omega, by show _ ≤ 7191588; omega⟩ (fun r u H locs hp hP hD hS => ?_)
  obtain ⟨hr, h1, hv1, hu1⟩ := hp
  subst hu1
  subst hr
  have hP : kp g [X4W g oF (kFr oC oS oH oR oT oB) vF, X0W g oC rC vC aC, X0W g oS rS vS aS, X2W g oH rH vH oQ rQ aH, X3W g oR rR vR aR, X1W g oT rT vT aT, JOW oB q ml (nI k), JAW g q n f, X5W g oM rM vM aM, OLW g oL h1, ODW g oD fD] H := hP.pick [8, 9, 0, 1, 2, 3, 4, 5, 6, 10, 7] rfl
  have hD : kd (kAh s) [X4W g oF (kFr oC oS oH oR oT oB) vF, X0W g oC rC vC aC, X0W g oS rS vS aS, X2W g oH rH vH oQ rQ aH, X3W g oR rR vR aR, X1W g oT rT vT aT, JOW oB q ml (nI k), JAW g q n f, X5W g oM rM vM aM, OLW g oL h1, ODW g oD fD] := hD.pick [8, 9, 0, 1, 2, 3, 4, 5, 6, 10, 7] rfl rfl
  refine lv_istore (lv' := [(6, .int (kLk1 ((X4_ranked_f vF vC aC (xs (i + 1))).1))), (5, .int (nI i)), (0, .ref b), (1, .ref oF), (2, .ref oM), (3, .ref oL), (4, .ref oD)]) hx hb dL_law_1742 hl (by decide) rfl (fun ls hl => ?_)
  refine lv_aload_n hx hb dL_law_1744 rfl (lv_at hl 4 rfl) ?_
  refine lv_aload_n hx hb dL_law_1745 rfl (lv_at hl 2 rfl) ?_
  refine lv_iload hx hb dL_law_1746 (lv_at hl 1 rfl) ?_
  refine lv_iconst (v := 1) hx hb dL_law_1748 (by decide) ?_
  refine lv_iadd hx hb dL_law_1749 ?_
  refine kg_script (j := 1) C hX hbl hS (by omega) hL dL_law_1750 ?_
  refine kM_V (As := [.int (xs (i + 1))]) (rest := []) (wr := [X4W g oF (kFr oC oS oH oR oT oB) vF, X0W g oC rC vC aC, X0W g oS rS vS aS, X2W g oH rH vH oQ rQ aH, X3W g oR rR vR aR, X1W g oT rT vT aT, JOW oB q ml (nI k), JAW g q n f, OLW g oL h1, ODW g oD fD]) C (X5_ranked_c l g oM rM vM aM (xs (i + 1)) ⟨nb, hnb, hb5⟩) (cwV 1 hts (k_gV kw1766 ca_X5_ranked) rfl rfl rfl ⟨rfl, pnX5_ranked⟩ ⟨Nat.le_of_ble_eq_true rfl, Nat.le_of_ble_eq_true rfl⟩) hE hS hA hP hD [8] [0, 1, 2, 3, 4, 5, 6, 7, 9, 10] rfl rfl ⟨rfl, rfl, by decide⟩ (k_recv C kFX5 hP (i := 8) (q := 0) rfl rfl) rfl hl.1 rfl rfl dL_law_1751 ⟨by show _ ≤ 605484; omega, by show _ ≤ 7191588; omega⟩ (fun r u H locs hp hP hD hS => ?_)
  obtain ⟨hr, hu⟩ := hp
  subst hu
  subst hr
  have hP : kp g [X4W g oF (kFr oC oS oH oR oT oB) vF, X0W g oC rC vC aC, X0W g oS rS vS aS, X2W g oH rH vH oQ rQ aH, X3W g oR rR vR aR, X1W g oT rT vT aT, JOW oB q ml (nI k), JAW g q n f, X5W g oM rM ((X5_ranked_f vM aM (xs (i + 1))).2) aM, OLW g oL h1, ODW g oD fD] H := hP.pick [0, 1, 2, 3, 4, 5, 6, 7, 10, 8, 9] rfl
  have hD : kd (kAh s) [X4W g oF (kFr oC oS oH oR oT oB) vF, X0W g oC rC vC aC, X0W g oS rS vS aS, X2W g oH rH vH oQ rQ aH, X3W g oR rR vR aR, X1W g oT rT vT aT, JOW oB q ml (nI k), JAW g q n f, X5W g oM rM ((X5_ranked_f vM aM (xs (i + 1))).2) aM, OLW g oL h1, ODW g oD fD] := hD.pick [0, 1, 2, 3, 4, 5, 6, 7, 10, 8, 9] rfl rfl
  refine lv_istore (lv' := [(7, .int ((X5_ranked_f vM aM (xs (i + 1))).1)), (6, .int (kLk1 ((X4_ranked_f vF vC aC (xs (i + 1))).1))), (5, .int (nI i)), (0, .ref b), (1, .ref oF), (2, .ref oM), (3, .ref oL), (4, .ref oD)]) hx hb dL_law_1754 hl (by decide) rfl (fun ls hl => ?_)
  refine lv_aload_n hx hb dL_law_1756 rfl (lv_at hl 5 rfl) ?_
  refine kR_V (As := []) (rest := []) C (X5_thrown_c l g oM rM ((X5_ranked_f vM aM (xs (i + 1))).2) aM) (cwV 0 hts (k_gV kw1513 ca_X5_thrown) rfl rfl rfl ⟨rfl, pnX5_thrown⟩ ⟨Nat.le_of_ble_eq_true rfl, Nat.le_of_ble_eq_true rfl⟩) hE hS (hP.pick [8] rfl) (k_recv C kFX5 hP (i := 8) (q := 0) rfl rfl) rfl hl.1 rfl rfl dL_law_1757 ⟨by show _ ≤ 605484; omega, by show _ ≤ 7191588; omega⟩ ?_
  refine lv_iload hx hb dL_law_1760 (lv_at hl 1 rfl) ?_
  refine lv_icmp_eq (tgt := 1767) hx hb dL_law_1762 (by decide) (fun z => ?_) (fun z => absurd hs.1 z)
  have fin : W p l e room_1 s m #[Value.ref b] below meth c H locs (cells + 1 + 0) (slots + 6 + 0) (lw_Z below #[Value.ref b] s) (F0 m 1784 ls []) := by
    refine lv_goto (tgt := 2358) hx hb dL_law_1784 (by decide) ?_
    exact ih _ _ _ _ _ _ _ _ _ _ _ _ _ _ _ _ _ _ _ _ H locs ls _ _ hs.2.2 hT hP hD hS (lv_sub hl [2, 3, 4, 5, 6, 7] rfl) (by omega) (by omega)
  refine lv_iload hx hb dL_law_1767 (lv_at hl 1 rfl) ?_
  by_cases hc0 : kLk1 ((X4_ranked_f vF vC aC (xs (i + 1))).1) = 0
  rotate_left
  · refine lv_if_ne (tgt := 1784) hx hb dL_law_1769 (by decide) (fun z => fin) (fun z => absurd z hc0)
  refine lv_if_ne (tgt := 1784) hx hb dL_law_1769 (by decide) (fun z => absurd hc0 z) (fun z => ?_)
  have hc1 := kLk1_0 hc0
  refine lv_aload_n hx hb dL_law_1772 rfl (lv_at hl 6 rfl) ?_
  refine lv_iconst (v := 0) hx hb dL_law_1773 (by decide) ?_
  refine kg_lald C hP (i := 9) rfl dL_law_1774 ?_
  refine lv_iload hx hb dL_law_1775 (lv_at hl 0 rfl) ?_
  refine lv_i2l hx hb dL_law_1777 rfl ?_
  refine W.lcmp hx hb dL_law_1778 ?_
  rw [k_lcmp0 ((hv1 hc1).trans (congrArg Int32.toInt64 (hs.2.1 hc1).symm))]
  refine lv_if_eq (tgt := 1784) hx hb dL_law_1779 (by decide) (fun z => fin) (fun z => absurd rfl z)
set_option maxHeartbeats 4000000 in
theorem LC_append (l : Launch) (hfl : l.stackTraces = false) {p : Program} {e : Env} {s : State} {m : MethodId} {below : List Frame} {meth : Method} {c : Code} {b L : Nat} {xs : Nat → Int32} {g : kG} (oF oC oS oH oR oT oB oM oL oD : Nat) (rC rS rH rR rT rM : Nat → Nat) (oQ : Nat → Nat) (rQ : Nat → Nat → Nat) (aR : Nat → Nat → Int32) {N i cells slots : Nat} (C : kC p c code s m #[Value.ref b] meth RL g 9 ret) (hE : kE g (kAh s) s s.heap) (hNc : kNc s) (hX : va_X b L xs s s.heap) (hbl : b < s.heap.size) (hL : L ≤ 2048) (hi : i + 4 ≤ L) (hN : N < 90000) (hcb : cells + 40 ≤ 605484) (hsb : slots + 2000 ≤ 7191588)
    (ih : kNext l p e s m below meth c b g oF oC oS oH oR oT oB oM oL oD rC rS rH rR rT rM oQ rQ aR i N cells slots) (vF : Nat → Int32) (vC : Nat → Int32) (aC : Nat → Nat → Int32) (vS : Nat → Int32) (aS : Nat → Nat → Int32) (vH : Nat → Int32) (aH : Nat → (Nat → Int32) × (Nat → Nat → Int32)) (vR : Nat → Int32) (vT : Nat → Int32) (aT : Nat → Nat → Int32) (q n : Nat) (ml : Int32) (f : Nat → Int32) (t : Nat → Nat) (k : Nat) (vM : Nat → Int32) (aM : Nat → Nat → Int32) (fL : Nat → Int64) (fD : Nat → UInt64) (H : Heap) (locs : List Loc) (ls : Array Slot) (hR : kRel N vF vC aC vS aS vH aH vR vT aT t k vM aM) (hT : ((n = 16 ∨ n = 34) ∧ k ≤ n ∧ sb_Fit f ∧ sb_Lat t k f)) (hP : kp g [X4W g oF (kFr oC oS oH oR oT oB) vF, X0W g oC rC vC aC, X0W g oS rS vS aS, X2W g oH rH vH oQ rQ aH, X3W g oR rR vR aR, X1W g oT rT vT aT, JOW oB q ml (nI k), JAW g q n f, X5W g oM rM vM aM, OLW g oL fL, ODW g oD fD] H) (hD : kd (kAh s) [X4W g oF (kFr oC oS oH oR oT oB) vF, X0W g oC rC vC aC, X0W g oS rS vS aS, X2W g oH rH vH oQ rQ aH, X3W g oR rR vR aR, X1W g oT rT vT aT, JOW oB q ml (nI k), JAW g q n f, X5W g oM rM vM aM, OLW g oL fL, ODW g oD fD]) (hS : va_S (kAh s) s.heap H locs) (hl : lv_has ls 9 (kLb i b oF oM oL oD)) :
    W p l e room_1 s m #[Value.ref b] below meth c H locs cells slots (lw_Z below #[Value.ref b] s) (F0 m 1787 ls []) := by
  have hA : ∀ q, s.heap.size ≤ q → kAh s q := fun q h => h
  have hx := C.1.1
  have hb := C.1.2.1
  have hts := C.1.2.2.2.2
  obtain ⟨⟨nb, nj, hnb, hv7, hnj, hv4, hb5, hj5⟩, hM, hM5, hh, hu, hL1, hL9, hch, hl40, h87, hI⟩ := kRel_hyp (by omega) hR
  refine lv_aload_n hx hb dL_law_1787 rfl (lv_at hl 2 rfl) ?_
  refine lv_aload_n hx hb dL_law_1788 rfl (lv_at hl 1 rfl) ?_
  refine lv_iload hx hb dL_law_1789 (lv_at hl 0 rfl) ?_
  refine lv_iconst (v := 1) hx hb dL_law_1791 (by decide) ?_
  refine lv_iadd hx hb dL_law_1792 ?_
  refine kg_script (j := 1) C hX hbl hS (by omega) hL dL_law_1793 ?_
  refine lv_i2c hx hb dL_law_1794 rfl ?_
  refine lv_aload_n hx hb dL_law_1795 rfl (lv_at hl 4 rfl) ?_
  have hs := kS_append (aR := aR) (by omega) hR (((xs (i + 1)).toUInt32 % 65536).toInt32)
  refine kL_S (As := [.ref oF, .int (((xs (i + 1)).toUInt32 % 65536).toInt32), .ref oL]) (rest := []) (wr := [X0W g oC rC vC aC, X0W g oS rS vS aS, X2W g oH rH vH oQ rQ aH, X3W g oR rR vR aR, JOW oB q ml (nI k), JAW g q n f, X5W g oM rM vM aM, ODW g oD fD]) C (L_append_c l g oF vF oC oS oH oR oB oT rT vT aT (((xs (i + 1)).toUInt32 % 65536).toInt32) hL1 hfl oL fL kK_append) hNc (vx_cwSW 3 hts (k_gS kw970 cs_L_append) rfl rfl rfl pnL_append ⟨Nat.le_of_ble_eq_true rfl, Nat.le_of_ble_eq_true rfl⟩) hE hS hA hP hD [0, 5, 9] [1, 2, 3, 4, 6, 7, 8, 10] rfl rfl ⟨rfl, rfl, by decide⟩ rfl hl.1 rfl rfl dL_law_1796 ⟨by show _ ≤ 605484; omega, by show _ ≤ 7191588; omega⟩ (fun r u H locs hp hP hD hS => ?_)
  obtain ⟨hr, h1, hv1, hu1⟩ := hp
  subst hu1
  subst hr
  have hP : kp g [X4W g oF (kFr oC oS oH oR oT oB) vF, X0W g oC rC vC aC, X0W g oS rS vS aS, X2W g oH rH vH oQ rQ aH, X3W g oR rR vR aR, X1W g oT rT ((X4_append_f vF vT aT (((xs (i + 1)).toUInt32 % 65536).toInt32)).2.2.1) ((X4_append_f vF vT aT (((xs (i + 1)).toUInt32 % 65536).toInt32)).2.2.2), JOW oB q ml (nI k), JAW g q n f, X5W g oM rM vM aM, OLW g oL h1, ODW g oD fD] H := hP.pick [8, 0, 1, 2, 3, 9, 4, 5, 6, 10, 7] rfl
  have hD : kd (kAh s) [X4W g oF (kFr oC oS oH oR oT oB) vF, X0W g oC rC vC aC, X0W g oS rS vS aS, X2W g oH rH vH oQ rQ aH, X3W g oR rR vR aR, X1W g oT rT ((X4_append_f vF vT aT (((xs (i + 1)).toUInt32 % 65536).toInt32)).2.2.1) ((X4_append_f vF vT aT (((xs (i + 1)).toUInt32 % 65536).toInt32)).2.2.2), JOW oB q ml (nI k), JAW g q n f, X5W g oM rM vM aM, OLW g oL h1, ODW g oD fD] := hD.pick [8, 0, 1, 2, 3, 9, 4, 5, 6, 10, 7] rfl rfl
  refine lv_istore (lv' := [(6, .int (kLk1 ((X4_append_f vF vT aT (((xs (i + 1)).toUInt32 % 65536).toInt32)).1))), (5, .int (nI i)), (0, .ref b), (1, .ref oF), (2, .ref oM), (3, .ref oL), (4, .ref oD)]) hx hb dL_law_1799 hl (by decide) rfl (fun ls hl => ?_)
  refine lv_aload_n hx hb dL_law_1801 rfl (lv_at hl 4 rfl) ?_
  refine lv_aload_n hx hb dL_law_1802 rfl (lv_at hl 2 rfl) ?_
  refine lv_iload hx hb dL_law_1803 (lv_at hl 1 rfl) ?_
  refine lv_iconst (v := 1) hx hb dL_law_1805 (by decide) ?_
  refine lv_iadd hx hb dL_law_1806 ?_
  refine kg_script (j := 1) C hX hbl hS (by omega) hL dL_law_1807 ?_
  refine lv_i2c hx hb dL_law_1808 rfl ?_
  refine kM_V (As := [.int (((xs (i + 1)).toUInt32 % 65536).toInt32)]) (rest := []) (wr := [X4W g oF (kFr oC oS oH oR oT oB) vF, X0W g oC rC vC aC, X0W g oS rS vS aS, X2W g oH rH vH oQ rQ aH, X3W g oR rR vR aR, X1W g oT rT ((X4_append_f vF vT aT (((xs (i + 1)).toUInt32 % 65536).toInt32)).2.2.1) ((X4_append_f vF vT aT (((xs (i + 1)).toUInt32 % 65536).toInt32)).2.2.2), JOW oB q ml (nI k), JAW g q n f, OLW g oL h1, ODW g oD fD]) C (X5_append_c l g oM rM vM aM (((xs (i + 1)).toUInt32 % 65536).toInt32) hL9) (cwV 1 hts (k_gV kw1770 ca_X5_append) rfl rfl rfl ⟨rfl, pnX5_append⟩ ⟨Nat.le_of_ble_eq_true rfl, Nat.le_of_ble_eq_true rfl⟩) hE hS hA hP hD [8] [0, 1, 2, 3, 4, 5, 6, 7, 9, 10] rfl rfl ⟨rfl, rfl, by decide⟩ (k_recv C kFX5 hP (i := 8) (q := 0) rfl rfl) rfl hl.1 rfl rfl dL_law_1809 ⟨by show _ ≤ 605484; omega, by show _ ≤ 7191588; omega⟩ (fun r u H locs hp hP hD hS => ?_)
  obtain ⟨hr, hu⟩ := hp
  subst hu
  subst hr
  have hP : kp g [X4W g oF (kFr oC oS oH oR oT oB) vF, X0W g oC rC vC aC, X0W g oS rS vS aS, X2W g oH rH vH oQ rQ aH, X3W g oR rR vR aR, X1W g oT rT ((X4_append_f vF vT aT (((xs (i + 1)).toUInt32 % 65536).toInt32)).2.2.1) ((X4_append_f vF vT aT (((xs (i + 1)).toUInt32 % 65536).toInt32)).2.2.2), JOW oB q ml (nI k), JAW g q n f, X5W g oM rM ((X5_append_f vM aM (((xs (i + 1)).toUInt32 % 65536).toInt32)).2.1) ((X5_append_f vM aM (((xs (i + 1)).toUInt32 % 65536).toInt32)).2.2), OLW g oL h1, ODW g oD fD] H := hP.pick [0, 1, 2, 3, 4, 5, 6, 7, 10, 8, 9] rfl
  have hD : kd (kAh s) [X4W g oF (kFr oC oS oH oR oT oB) vF, X0W g oC rC vC aC, X0W g oS rS vS aS, X2W g oH rH vH oQ rQ aH, X3W g oR rR vR aR, X1W g oT rT ((X4_append_f vF vT aT (((xs (i + 1)).toUInt32 % 65536).toInt32)).2.2.1) ((X4_append_f vF vT aT (((xs (i + 1)).toUInt32 % 65536).toInt32)).2.2.2), JOW oB q ml (nI k), JAW g q n f, X5W g oM rM ((X5_append_f vM aM (((xs (i + 1)).toUInt32 % 65536).toInt32)).2.1) ((X5_append_f vM aM (((xs (i + 1)).toUInt32 % 65536).toInt32)).2.2), OLW g oL h1, ODW g oD fD] := hD.pick [0, 1, 2, 3, 4, 5, 6, 7, 10, 8, 9] rfl rfl
  refine lv_istore (lv' := [(7, .int ((X5_append_f vM aM (((xs (i + 1)).toUInt32 % 65536).toInt32)).1)), (6, .int (kLk1 ((X4_append_f vF vT aT (((xs (i + 1)).toUInt32 % 65536).toInt32)).1))), (5, .int (nI i)), (0, .ref b), (1, .ref oF), (2, .ref oM), (3, .ref oL), (4, .ref oD)]) hx hb dL_law_1812 hl (by decide) rfl (fun ls hl => ?_)
  refine lv_aload_n hx hb dL_law_1814 rfl (lv_at hl 5 rfl) ?_
  refine kR_V (As := []) (rest := []) C (X5_thrown_c l g oM rM ((X5_append_f vM aM (((xs (i + 1)).toUInt32 % 65536).toInt32)).2.1) ((X5_append_f vM aM (((xs (i + 1)).toUInt32 % 65536).toInt32)).2.2)) (cwV 0 hts (k_gV kw1513 ca_X5_thrown) rfl rfl rfl ⟨rfl, pnX5_thrown⟩ ⟨Nat.le_of_ble_eq_true rfl, Nat.le_of_ble_eq_true rfl⟩) hE hS (hP.pick [8] rfl) (k_recv C kFX5 hP (i := 8) (q := 0) rfl rfl) rfl hl.1 rfl rfl dL_law_1815 ⟨by show _ ≤ 605484; omega, by show _ ≤ 7191588; omega⟩ ?_
  refine lv_iload hx hb dL_law_1818 (lv_at hl 1 rfl) ?_
  refine lv_icmp_eq (tgt := 1825) hx hb dL_law_1820 (by decide) (fun z => ?_) (fun z => absurd hs.1 z)
  have fin : W p l e room_1 s m #[Value.ref b] below meth c H locs (cells + 1 + 0) (slots + 6 + 0) (lw_Z below #[Value.ref b] s) (F0 m 1842 ls []) := by
    refine lv_goto (tgt := 2358) hx hb dL_law_1842 (by decide) ?_
    exact ih _ _ _ _ _ _ _ _ _ _ _ _ _ _ _ _ _ _ _ _ H locs ls _ _ hs.2.2 hT hP hD hS (lv_sub hl [2, 3, 4, 5, 6, 7] rfl) (by omega) (by omega)
  refine lv_iload hx hb dL_law_1825 (lv_at hl 1 rfl) ?_
  by_cases hc0 : kLk1 ((X4_append_f vF vT aT (((xs (i + 1)).toUInt32 % 65536).toInt32)).1) = 0
  rotate_left
  · refine lv_if_ne (tgt := 1842) hx hb dL_law_1827 (by decide) (fun z => fin) (fun z => absurd z hc0)
  refine lv_if_ne (tgt := 1842) hx hb dL_law_1827 (by decide) (fun z => absurd hc0 z) (fun z => ?_)
  have hc1 := kLk1_0 hc0
  refine lv_aload_n hx hb dL_law_1830 rfl (lv_at hl 6 rfl) ?_
  refine lv_iconst (v := 0) hx hb dL_law_1831 (by decide) ?_
  refine kg_lald C hP (i := 9) rfl dL_law_1832 ?_
  refine lv_iload hx hb dL_law_1833 (lv_at hl 0 rfl) ?_
  refine lv_i2l hx hb dL_law_1835 rfl ?_
  refine W.lcmp hx hb dL_law_1836 ?_
  rw [k_lcmp0 ((hv1 hc1).trans (congrArg Int32.toInt64 (hs.2.1 hc1).symm))]
  refine lv_if_eq (tgt := 1842) hx hb dL_law_1837 (by decide) (fun z => fin) (fun z => absurd rfl z)
set_option maxHeartbeats 4000000 in
theorem LC_commands (l : Launch) (hfl : l.stackTraces = false) {p : Program} {e : Env} {s : State} {m : MethodId} {below : List Frame} {meth : Method} {c : Code} {b L : Nat} {xs : Nat → Int32} {g : kG} (oF oC oS oH oR oT oB oM oL oD : Nat) (rC rS rH rR rT rM : Nat → Nat) (oQ : Nat → Nat) (rQ : Nat → Nat → Nat) (aR : Nat → Nat → Int32) {N i cells slots : Nat} (C : kC p c code s m #[Value.ref b] meth RL g 9 ret) (hE : kE g (kAh s) s s.heap) (hNc : kNc s) (hX : va_X b L xs s s.heap) (hbl : b < s.heap.size) (hL : L ≤ 2048) (hi : i + 4 ≤ L) (hN : N < 90000) (hcb : cells + 40 ≤ 605484) (hsb : slots + 2000 ≤ 7191588)
    (ih : kNext l p e s m below meth c b g oF oC oS oH oR oT oB oM oL oD rC rS rH rR rT rM oQ rQ aR i N cells slots) (vF : Nat → Int32) (vC : Nat → Int32) (aC : Nat → Nat → Int32) (vS : Nat → Int32) (aS : Nat → Nat → Int32) (vH : Nat → Int32) (aH : Nat → (Nat → Int32) × (Nat → Nat → Int32)) (vR : Nat → Int32) (vT : Nat → Int32) (aT : Nat → Nat → Int32) (q n : Nat) (ml : Int32) (f : Nat → Int32) (t : Nat → Nat) (k : Nat) (vM : Nat → Int32) (aM : Nat → Nat → Int32) (fL : Nat → Int64) (fD : Nat → UInt64) (H : Heap) (locs : List Loc) (ls : Array Slot) (hR : kRel N vF vC aC vS aS vH aH vR vT aT t k vM aM) (hT : ((n = 16 ∨ n = 34) ∧ k ≤ n ∧ sb_Fit f ∧ sb_Lat t k f)) (hP : kp g [X4W g oF (kFr oC oS oH oR oT oB) vF, X0W g oC rC vC aC, X0W g oS rS vS aS, X2W g oH rH vH oQ rQ aH, X3W g oR rR vR aR, X1W g oT rT vT aT, JOW oB q ml (nI k), JAW g q n f, X5W g oM rM vM aM, OLW g oL fL, ODW g oD fD] H) (hD : kd (kAh s) [X4W g oF (kFr oC oS oH oR oT oB) vF, X0W g oC rC vC aC, X0W g oS rS vS aS, X2W g oH rH vH oQ rQ aH, X3W g oR rR vR aR, X1W g oT rT vT aT, JOW oB q ml (nI k), JAW g q n f, X5W g oM rM vM aM, OLW g oL fL, ODW g oD fD]) (hS : va_S (kAh s) s.heap H locs) (hl : lv_has ls 9 (kLb i b oF oM oL oD)) :
    W p l e room_1 s m #[Value.ref b] below meth c H locs cells slots (lw_Z below #[Value.ref b] s) (F0 m 1845 ls []) := by
  have hA : ∀ q, s.heap.size ≤ q → kAh s q := fun q h => h
  have hx := C.1.1
  have hb := C.1.2.1
  have hts := C.1.2.2.2.2
  obtain ⟨⟨nb, nj, hnb, hv7, hnj, hv4, hb5, hj5⟩, hM, hM5, hh, hu, hL1, hL9, hch, hl40, h87, hI⟩ := kRel_hyp (by omega) hR
  refine lv_aload_n hx hb dL_law_1845 rfl (lv_at hl 2 rfl) ?_
  refine lv_aload_n hx hb dL_law_1846 rfl (lv_at hl 4 rfl) ?_
  have hs := kS_commands (aR := aR) (by omega) hR 
  refine kL_S (As := [.ref oF, .ref oL]) (rest := []) (wr := [X0W g oS rS vS aS, JOW oB q ml (nI k), JAW g q n f, X5W g oM rM vM aM, ODW g oD fD]) C (L_commands_c l g oF vF oS oB oC rC vC aC oH rH vH oQ rQ aH oR rR vR aR oT rT vT aT hI hh hL1 hfl oL fL kK_commands) hNc (vx_cwSW 2 hts (k_gS kw994 cs_L_commands) rfl rfl rfl pnL_commands ⟨Nat.le_of_ble_eq_true rfl, Nat.le_of_ble_eq_true rfl⟩) hE hS hA hP hD [0, 1, 3, 4, 5, 9] [2, 6, 7, 8, 10] rfl rfl ⟨rfl, rfl, by decide⟩ rfl hl.1 rfl rfl dL_law_1847 ⟨by show _ ≤ 605484; omega, by show _ ≤ 7191588; omega⟩ (fun r u H locs hp hP hD hS => ?_)
  obtain ⟨hr, h1, hv1, hu1⟩ := hp
  subst hu1
  subst hr
  have hP : kp g [X4W g oF (kFr oC oS oH oR oT oB) ((X4_commands_f vF vC aC vH aH vR aR vT aT).2.2.1), X0W g oC rC ((X4_commands_f vF vC aC vH aH vR aR vT aT).2.2.2.1) ((X4_commands_f vF vC aC vH aH vR aR vT aT).2.2.2.2.1), X0W g oS rS vS aS, X2W g oH rH ((X4_commands_f vF vC aC vH aH vR aR vT aT).2.2.2.2.2.1) oQ rQ ((X4_commands_f vF vC aC vH aH vR aR vT aT).2.2.2.2.2.2.1), X3W g oR rR ((X4_commands_f vF vC aC vH aH vR aR vT aT).2.2.2.2.2.2.2.1) aR, X1W g oT rT ((X4_commands_f vF vC aC vH aH vR aR vT aT).2.2.2.2.2.2.2.2.1) ((X4_commands_f vF vC aC vH aH vR aR vT aT).2.2.2.2.2.2.2.2.2), JOW oB q ml (nI k), JAW g q n f, X5W g oM rM vM aM, OLW g oL h1, ODW g oD fD] H := hP.pick [5, 6, 0, 7, 8, 9, 1, 2, 3, 10, 4] rfl
  have hD : kd (kAh s) [X4W g oF (kFr oC oS oH oR oT oB) ((X4_commands_f vF vC aC vH aH vR aR vT aT).2.2.1), X0W g oC rC ((X4_commands_f vF vC aC vH aH vR aR vT aT).2.2.2.1) ((X4_commands_f vF vC aC vH aH vR aR vT aT).2.2.2.2.1), X0W g oS rS vS aS, X2W g oH rH ((X4_commands_f vF vC aC vH aH vR aR vT aT).2.2.2.2.2.1) oQ rQ ((X4_commands_f vF vC aC vH aH vR aR vT aT).2.2.2.2.2.2.1), X3W g oR rR ((X4_commands_f vF vC aC vH aH vR aR vT aT).2.2.2.2.2.2.2.1) aR, X1W g oT rT ((X4_commands_f vF vC aC vH aH vR aR vT aT).2.2.2.2.2.2.2.2.1) ((X4_commands_f vF vC aC vH aH vR aR vT aT).2.2.2.2.2.2.2.2.2), JOW oB q ml (nI k), JAW g q n f, X5W g oM rM vM aM, OLW g oL h1, ODW g oD fD] := hD.pick [5, 6, 0, 7, 8, 9, 1, 2, 3, 10, 4] rfl rfl
  refine lv_istore (lv' := [(6, .int (kLk2 3 ((X4_commands_f vF vC aC vH aH vR aR vT aT).1))), (5, .int (nI i)), (0, .ref b), (1, .ref oF), (2, .ref oM), (3, .ref oL), (4, .ref oD)]) hx hb dL_law_1850 hl (by decide) rfl (fun ls hl => ?_)
  refine lv_aload_n hx hb dL_law_1852 rfl (lv_at hl 4 rfl) ?_
  refine kM_V (As := []) (rest := []) (wr := [X4W g oF (kFr oC oS oH oR oT oB) ((X4_commands_f vF vC aC vH aH vR aR vT aT).2.2.1), X0W g oC rC ((X4_commands_f vF vC aC vH aH vR aR vT aT).2.2.2.1) ((X4_commands_f vF vC aC vH aH vR aR vT aT).2.2.2.2.1), X0W g oS rS vS aS, X2W g oH rH ((X4_commands_f vF vC aC vH aH vR aR vT aT).2.2.2.2.2.1) oQ rQ ((X4_commands_f vF vC aC vH aH vR aR vT aT).2.2.2.2.2.2.1), X3W g oR rR ((X4_commands_f vF vC aC vH aH vR aR vT aT).2.2.2.2.2.2.2.1) aR, X1W g oT rT ((X4_commands_f vF vC aC vH aH vR aR vT aT).2.2.2.2.2.2.2.2.1) ((X4_commands_f vF vC aC vH aH vR aR vT aT).2.2.2.2.2.2.2.2.2), JOW oB q ml (nI k), JAW g q n f, OLW g oL h1, ODW g oD fD]) C (X5_commands_c l g oM rM vM aM hu hL9 hch ⟨nb, hnb, hb5⟩ ⟨nj, hnj, hj5⟩ hM5) (cwV 0 hts (k_gV kw1774 ca_X5_commands) rfl rfl rfl ⟨rfl, pnX5_commands⟩ ⟨Nat.le_of_ble_eq_true rfl, Nat.le_of_ble_eq_true rfl⟩) hE hS hA hP hD [8] [0, 1, 2, 3, 4, 5, 6, 7, 9, 10] rfl rfl ⟨rfl, rfl, by decide⟩ (k_recv C kFX5 hP (i := 8) (q := 0) rfl rfl) rfl hl.1 rfl rfl dL_law_1853 ⟨by show _ ≤ 605484; omega, by show _ ≤ 7191588; omega⟩ (fun r u H locs hp hP hD hS => ?_)
  obtain ⟨hr, hu⟩ := hp
  subst hu
  subst hr
  have hP : kp g [X4W g oF (kFr oC oS oH oR oT oB) ((X4_commands_f vF vC aC vH aH vR aR vT aT).2.2.1), X0W g oC rC ((X4_commands_f vF vC aC vH aH vR aR vT aT).2.2.2.1) ((X4_commands_f vF vC aC vH aH vR aR vT aT).2.2.2.2.1), X0W g oS rS vS aS, X2W g oH rH ((X4_commands_f vF vC aC vH aH vR aR vT aT).2.2.2.2.2.1) oQ rQ ((X4_commands_f vF vC aC vH aH vR aR vT aT).2.2.2.2.2.2.1), X3W g oR rR ((X4_commands_f vF vC aC vH aH vR aR vT aT).2.2.2.2.2.2.2.1) aR, X1W g oT rT ((X4_commands_f vF vC aC vH aH vR aR vT aT).2.2.2.2.2.2.2.2.1) ((X4_commands_f vF vC aC vH aH vR aR vT aT).2.2.2.2.2.2.2.2.2), JOW oB q ml (nI k), JAW g q n f, X5W g oM rM ((X5_commands_f vM aM).2.1) ((X5_commands_f vM aM).2.2), OLW g oL h1, ODW g oD fD] H := hP.pick [0, 1, 2, 3, 4, 5, 6, 7, 10, 8, 9] rfl
  have hD : kd (kAh s) [X4W g oF (kFr oC oS oH oR oT oB) ((X4_commands_f vF vC aC vH aH vR aR vT aT).2.2.1), X0W g oC rC ((X4_commands_f vF vC aC vH aH vR aR vT aT).2.2.2.1) ((X4_commands_f vF vC aC vH aH vR aR vT aT).2.2.2.2.1), X0W g oS rS vS aS, X2W g oH rH ((X4_commands_f vF vC aC vH aH vR aR vT aT).2.2.2.2.2.1) oQ rQ ((X4_commands_f vF vC aC vH aH vR aR vT aT).2.2.2.2.2.2.1), X3W g oR rR ((X4_commands_f vF vC aC vH aH vR aR vT aT).2.2.2.2.2.2.2.1) aR, X1W g oT rT ((X4_commands_f vF vC aC vH aH vR aR vT aT).2.2.2.2.2.2.2.2.1) ((X4_commands_f vF vC aC vH aH vR aR vT aT).2.2.2.2.2.2.2.2.2), JOW oB q ml (nI k), JAW g q n f, X5W g oM rM ((X5_commands_f vM aM).2.1) ((X5_commands_f vM aM).2.2), OLW g oL h1, ODW g oD fD] := hD.pick [0, 1, 2, 3, 4, 5, 6, 7, 10, 8, 9] rfl rfl
  refine lv_istore (lv' := [(7, .int ((X5_commands_f vM aM).1)), (6, .int (kLk2 3 ((X4_commands_f vF vC aC vH aH vR aR vT aT).1))), (5, .int (nI i)), (0, .ref b), (1, .ref oF), (2, .ref oM), (3, .ref oL), (4, .ref oD)]) hx hb dL_law_1856 hl (by decide) rfl (fun ls hl => ?_)
  refine lv_aload_n hx hb dL_law_1858 rfl (lv_at hl 5 rfl) ?_
  refine kR_V (As := []) (rest := []) C (X5_thrown_c l g oM rM ((X5_commands_f vM aM).2.1) ((X5_commands_f vM aM).2.2)) (cwV 0 hts (k_gV kw1513 ca_X5_thrown) rfl rfl rfl ⟨rfl, pnX5_thrown⟩ ⟨Nat.le_of_ble_eq_true rfl, Nat.le_of_ble_eq_true rfl⟩) hE hS (hP.pick [8] rfl) (k_recv C kFX5 hP (i := 8) (q := 0) rfl rfl) rfl hl.1 rfl rfl dL_law_1859 ⟨by show _ ≤ 605484; omega, by show _ ≤ 7191588; omega⟩ ?_
  refine lv_iload hx hb dL_law_1862 (lv_at hl 1 rfl) ?_
  refine lv_icmp_eq (tgt := 1869) hx hb dL_law_1864 (by decide) (fun z => ?_) (fun z => absurd hs.1 z)
  have fin : W p l e room_1 s m #[Value.ref b] below meth c H locs (cells + 1 + 0) (slots + 6 + 0) (lw_Z below #[Value.ref b] s) (F0 m 1886 ls []) := by
    refine lv_goto (tgt := 2358) hx hb dL_law_1886 (by decide) ?_
    exact ih _ _ _ _ _ _ _ _ _ _ _ _ _ _ _ _ _ _ _ _ H locs ls _ _ hs.2.2 hT hP hD hS (lv_sub hl [2, 3, 4, 5, 6, 7] rfl) (by omega) (by omega)
  refine lv_iload hx hb dL_law_1869 (lv_at hl 1 rfl) ?_
  by_cases hc0 : kLk2 3 ((X4_commands_f vF vC aC vH aH vR aR vT aT).1) = 0
  rotate_left
  · refine lv_if_ne (tgt := 1886) hx hb dL_law_1871 (by decide) (fun z => fin) (fun z => absurd z hc0)
  refine lv_if_ne (tgt := 1886) hx hb dL_law_1871 (by decide) (fun z => absurd hc0 z) (fun z => ?_)
  have hc1 := kLk2_0 hc0
  refine lv_aload_n hx hb dL_law_1874 rfl (lv_at hl 6 rfl) ?_
  refine lv_iconst (v := 0) hx hb dL_law_1875 (by decide) ?_
  refine kg_lald C hP (i := 9) rfl dL_law_1876 ?_
  refine lv_iload hx hb dL_law_1877 (lv_at hl 0 rfl) ?_
  refine lv_i2l hx hb dL_law_1879 rfl ?_
  refine W.lcmp hx hb dL_law_1880 ?_
  rw [k_lcmp0 ((hv1 hc1).trans (congrArg Int32.toInt64 (hs.2.1 hc1).symm))]
  refine lv_if_eq (tgt := 1886) hx hb dL_law_1881 (by decide) (fun z => fin) (fun z => absurd rfl z)
set_option maxHeartbeats 4000000 in
theorem LC_faultPosition (l : Launch) (hfl : l.stackTraces = false) {p : Program} {e : Env} {s : State} {m : MethodId} {below : List Frame} {meth : Method} {c : Code} {b L : Nat} {xs : Nat → Int32} {g : kG} (oF oC oS oH oR oT oB oM oL oD : Nat) (rC rS rH rR rT rM : Nat → Nat) (oQ : Nat → Nat) (rQ : Nat → Nat → Nat) (aR : Nat → Nat → Int32) {N i cells slots : Nat} (C : kC p c code s m #[Value.ref b] meth RL g 9 ret) (hE : kE g (kAh s) s s.heap) (hNc : kNc s) (hX : va_X b L xs s s.heap) (hbl : b < s.heap.size) (hL : L ≤ 2048) (hi : i + 4 ≤ L) (hN : N < 90000) (hcb : cells + 40 ≤ 605484) (hsb : slots + 2000 ≤ 7191588)
    (ih : kNext l p e s m below meth c b g oF oC oS oH oR oT oB oM oL oD rC rS rH rR rT rM oQ rQ aR i N cells slots) (vF : Nat → Int32) (vC : Nat → Int32) (aC : Nat → Nat → Int32) (vS : Nat → Int32) (aS : Nat → Nat → Int32) (vH : Nat → Int32) (aH : Nat → (Nat → Int32) × (Nat → Nat → Int32)) (vR : Nat → Int32) (vT : Nat → Int32) (aT : Nat → Nat → Int32) (q n : Nat) (ml : Int32) (f : Nat → Int32) (t : Nat → Nat) (k : Nat) (vM : Nat → Int32) (aM : Nat → Nat → Int32) (fL : Nat → Int64) (fD : Nat → UInt64) (H : Heap) (locs : List Loc) (ls : Array Slot) (hR : kRel N vF vC aC vS aS vH aH vR vT aT t k vM aM) (hT : ((n = 16 ∨ n = 34) ∧ k ≤ n ∧ sb_Fit f ∧ sb_Lat t k f)) (hP : kp g [X4W g oF (kFr oC oS oH oR oT oB) vF, X0W g oC rC vC aC, X0W g oS rS vS aS, X2W g oH rH vH oQ rQ aH, X3W g oR rR vR aR, X1W g oT rT vT aT, JOW oB q ml (nI k), JAW g q n f, X5W g oM rM vM aM, OLW g oL fL, ODW g oD fD] H) (hD : kd (kAh s) [X4W g oF (kFr oC oS oH oR oT oB) vF, X0W g oC rC vC aC, X0W g oS rS vS aS, X2W g oH rH vH oQ rQ aH, X3W g oR rR vR aR, X1W g oT rT vT aT, JOW oB q ml (nI k), JAW g q n f, X5W g oM rM vM aM, OLW g oL fL, ODW g oD fD]) (hS : va_S (kAh s) s.heap H locs) (hl : lv_has ls 9 (kLb i b oF oM oL oD)) :
    W p l e room_1 s m #[Value.ref b] below meth c H locs cells slots (lw_Z below #[Value.ref b] s) (F0 m 1889 ls []) := by
  have hA : ∀ q, s.heap.size ≤ q → kAh s q := fun q h => h
  have hx := C.1.1
  have hb := C.1.2.1
  have hts := C.1.2.2.2.2
  obtain ⟨⟨nb, nj, hnb, hv7, hnj, hv4, hb5, hj5⟩, hM, hM5, hh, hu, hL1, hL9, hch, hl40, h87, hI⟩ := kRel_hyp (by omega) hR
  have hs := kS_faultPosition (aR := aR) (by omega) hR
  refine lv_aload_n hx hb dL_law_1889 rfl (lv_at hl 2 rfl) ?_
  refine kR_V (As := []) (rest := []) C (X4_faultPosition_c l g oF vF oC oS oH oR oT oB) (cwV 0 hts (k_gV kw363 ca_X4_faultPosition) rfl rfl rfl ⟨rfl, pnX4_faultPosition⟩ ⟨Nat.le_of_ble_eq_true rfl, Nat.le_of_ble_eq_true rfl⟩) hE hS (hP.pick [0] rfl) (k_recv C kFX4 hP (i := 0) (q := 0) rfl rfl) rfl hl.1 rfl rfl dL_law_1890 ⟨by show _ ≤ 605484; omega, by show _ ≤ 7191588; omega⟩ ?_
  refine lv_aload_n hx hb dL_law_1893 rfl (lv_at hl 3 rfl) ?_
  refine kM_V (As := []) (rest := [.int (X4_faultPosition_f vF)]) (wr := [X4W g oF (kFr oC oS oH oR oT oB) vF, X0W g oC rC vC aC, X0W g oS rS vS aS, X2W g oH rH vH oQ rQ aH, X3W g oR rR vR aR, X1W g oT rT vT aT, JOW oB q ml (nI k), JAW g q n f, OLW g oL fL, ODW g oD fD]) C (X5_faultPosition_c l g oM rM vM aM) (cwV 0 hts (k_gV kw1798 ca_X5_faultPosition) rfl rfl rfl ⟨rfl, pnX5_faultPosition⟩ ⟨Nat.le_of_ble_eq_true rfl, Nat.le_of_ble_eq_true rfl⟩) hE hS hA hP hD [8] [0, 1, 2, 3, 4, 5, 6, 7, 9, 10] rfl rfl ⟨rfl, rfl, by decide⟩ (k_recv C kFX5 hP (i := 8) (q := 0) rfl rfl) rfl hl.1 rfl rfl dL_law_1894 ⟨by show _ ≤ 605484; omega, by show _ ≤ 7191588; omega⟩ (fun r u H locs hp hP hD hS => ?_)
  obtain ⟨hr, hu⟩ := hp
  subst hu
  rw [hr]
  have hP : kp g [X4W g oF (kFr oC oS oH oR oT oB) vF, X0W g oC rC vC aC, X0W g oS rS vS aS, X2W g oH rH vH oQ rQ aH, X3W g oR rR vR aR, X1W g oT rT vT aT, JOW oB q ml (nI k), JAW g q n f, X5W g oM rM ((X5_faultPosition_f vM aM).2) aM, OLW g oL fL, ODW g oD fD] H := hP.pick [0, 1, 2, 3, 4, 5, 6, 7, 10, 8, 9] rfl
  have hD : kd (kAh s) [X4W g oF (kFr oC oS oH oR oT oB) vF, X0W g oC rC vC aC, X0W g oS rS vS aS, X2W g oH rH vH oQ rQ aH, X3W g oR rR vR aR, X1W g oT rT vT aT, JOW oB q ml (nI k), JAW g q n f, X5W g oM rM ((X5_faultPosition_f vM aM).2) aM, OLW g oL fL, ODW g oD fD] := hD.pick [0, 1, 2, 3, 4, 5, 6, 7, 10, 8, 9] rfl rfl
  refine lv_icmp_eq (tgt := 2358) hx hb dL_law_1897 (by decide) (fun z => ih _ _ _ _ _ _ _ _ _ _ _ _ _ _ _ _ _ _ _ _ H locs ls _ _ hs.2 hT hP hD hS hl (by omega) (by omega)) (fun z => absurd hs.1.symm z)
set_option maxHeartbeats 4000000 in
theorem LC_reason (l : Launch) (hfl : l.stackTraces = false) {p : Program} {e : Env} {s : State} {m : MethodId} {below : List Frame} {meth : Method} {c : Code} {b L : Nat} {xs : Nat → Int32} {g : kG} (oF oC oS oH oR oT oB oM oL oD : Nat) (rC rS rH rR rT rM : Nat → Nat) (oQ : Nat → Nat) (rQ : Nat → Nat → Nat) (aR : Nat → Nat → Int32) {N i cells slots : Nat} (C : kC p c code s m #[Value.ref b] meth RL g 9 ret) (hE : kE g (kAh s) s s.heap) (hNc : kNc s) (hX : va_X b L xs s s.heap) (hbl : b < s.heap.size) (hL : L ≤ 2048) (hi : i + 4 ≤ L) (hN : N < 90000) (hcb : cells + 40 ≤ 605484) (hsb : slots + 2000 ≤ 7191588)
    (ih : kNext l p e s m below meth c b g oF oC oS oH oR oT oB oM oL oD rC rS rH rR rT rM oQ rQ aR i N cells slots) (vF : Nat → Int32) (vC : Nat → Int32) (aC : Nat → Nat → Int32) (vS : Nat → Int32) (aS : Nat → Nat → Int32) (vH : Nat → Int32) (aH : Nat → (Nat → Int32) × (Nat → Nat → Int32)) (vR : Nat → Int32) (vT : Nat → Int32) (aT : Nat → Nat → Int32) (q n : Nat) (ml : Int32) (f : Nat → Int32) (t : Nat → Nat) (k : Nat) (vM : Nat → Int32) (aM : Nat → Nat → Int32) (fL : Nat → Int64) (fD : Nat → UInt64) (H : Heap) (locs : List Loc) (ls : Array Slot) (hR : kRel N vF vC aC vS aS vH aH vR vT aT t k vM aM) (hT : ((n = 16 ∨ n = 34) ∧ k ≤ n ∧ sb_Fit f ∧ sb_Lat t k f)) (hP : kp g [X4W g oF (kFr oC oS oH oR oT oB) vF, X0W g oC rC vC aC, X0W g oS rS vS aS, X2W g oH rH vH oQ rQ aH, X3W g oR rR vR aR, X1W g oT rT vT aT, JOW oB q ml (nI k), JAW g q n f, X5W g oM rM vM aM, OLW g oL fL, ODW g oD fD] H) (hD : kd (kAh s) [X4W g oF (kFr oC oS oH oR oT oB) vF, X0W g oC rC vC aC, X0W g oS rS vS aS, X2W g oH rH vH oQ rQ aH, X3W g oR rR vR aR, X1W g oT rT vT aT, JOW oB q ml (nI k), JAW g q n f, X5W g oM rM vM aM, OLW g oL fL, ODW g oD fD]) (hS : va_S (kAh s) s.heap H locs) (hl : lv_has ls 9 (kLb i b oF oM oL oD)) :
    W p l e room_1 s m #[Value.ref b] below meth c H locs cells slots (lw_Z below #[Value.ref b] s) (F0 m 1902 ls []) := by
  have hA : ∀ q, s.heap.size ≤ q → kAh s q := fun q h => h
  have hx := C.1.1
  have hb := C.1.2.1
  have hts := C.1.2.2.2.2
  obtain ⟨⟨nb, nj, hnb, hv7, hnj, hv4, hb5, hj5⟩, hM, hM5, hh, hu, hL1, hL9, hch, hl40, h87, hI⟩ := kRel_hyp (by omega) hR
  refine lv_aload_n hx hb dL_law_1902 rfl (lv_at hl 2 rfl) ?_
  refine lv_aload_n hx hb dL_law_1903 rfl (lv_at hl 1 rfl) ?_
  refine lv_iload hx hb dL_law_1904 (lv_at hl 0 rfl) ?_
  refine lv_iconst (v := 1) hx hb dL_law_1906 (by decide) ?_
  refine lv_iadd hx hb dL_law_1907 ?_
  refine kg_script (j := 1) C hX hbl hS (by omega) hL dL_law_1908 ?_
  refine lv_aload_n hx hb dL_law_1909 rfl (lv_at hl 4 rfl) ?_
  have hs := kS_reason (aR := aR) (by omega) hR (xs (i + 1))
  refine kL_S (As := [.ref oF, .int (xs (i + 1)), .ref oL]) (rest := []) (wr := [X0W g oC rC vC aC, X0W g oS rS vS aS, X2W g oH rH vH oQ rQ aH, X1W g oT rT vT aT, JOW oB q ml (nI k), JAW g q n f, X5W g oM rM vM aM, ODW g oD fD]) C (L_reason_c l g oF vF oC oS oH oT oB oR rR vR aR (xs (i + 1)) hfl oL fL kK_reason) hNc (vx_cwSW 3 hts (k_gS kw1090 cs_L_reason) rfl rfl rfl pnL_reason ⟨Nat.le_of_ble_eq_true rfl, Nat.le_of_ble_eq_true rfl⟩) hE hS hA hP hD [0, 4, 9] [1, 2, 3, 5, 6, 7, 8, 10] rfl rfl ⟨rfl, rfl, by decide⟩ rfl hl.1 rfl rfl dL_law_1910 ⟨by show _ ≤ 605484; omega, by show _ ≤ 7191588; omega⟩ (fun r u H locs hp hP hD hS => ?_)
  obtain ⟨hr, h1, hv1, hu1⟩ := hp
  subst hu1
  subst hr
  have hP : kp g [X4W g oF (kFr oC oS oH oR oT oB) vF, X0W g oC rC vC aC, X0W g oS rS vS aS, X2W g oH rH vH oQ rQ aH, X3W g oR rR vR aR, X1W g oT rT vT aT, JOW oB q ml (nI k), JAW g q n f, X5W g oM rM vM aM, OLW g oL h1, ODW g oD fD] H := hP.pick [8, 0, 1, 2, 9, 3, 4, 5, 6, 10, 7] rfl
  have hD : kd (kAh s) [X4W g oF (kFr oC oS oH oR oT oB) vF, X0W g oC rC vC aC, X0W g oS rS vS aS, X2W g oH rH vH oQ rQ aH, X3W g oR rR vR aR, X1W g oT rT vT aT, JOW oB q ml (nI k), JAW g q n f, X5W g oM rM vM aM, OLW g oL h1, ODW g oD fD] := hD.pick [8, 0, 1, 2, 9, 3, 4, 5, 6, 10, 7] rfl rfl
  refine lv_istore (lv' := [(6, .int (kLk2 3 ((X4_reason_f vF vR aR (xs (i + 1))).1))), (5, .int (nI i)), (0, .ref b), (1, .ref oF), (2, .ref oM), (3, .ref oL), (4, .ref oD)]) hx hb dL_law_1913 hl (by decide) rfl (fun ls hl => ?_)
  refine lv_aload_n hx hb dL_law_1915 rfl (lv_at hl 4 rfl) ?_
  refine lv_aload_n hx hb dL_law_1916 rfl (lv_at hl 2 rfl) ?_
  refine lv_iload hx hb dL_law_1917 (lv_at hl 1 rfl) ?_
  refine lv_iconst (v := 1) hx hb dL_law_1919 (by decide) ?_
  refine lv_iadd hx hb dL_law_1920 ?_
  refine kg_script (j := 1) C hX hbl hS (by omega) hL dL_law_1921 ?_
  refine kM_V (As := [.int (xs (i + 1))]) (rest := []) (wr := [X4W g oF (kFr oC oS oH oR oT oB) vF, X0W g oC rC vC aC, X0W g oS rS vS aS, X2W g oH rH vH oQ rQ aH, X3W g oR rR vR aR, X1W g oT rT vT aT, JOW oB q ml (nI k), JAW g q n f, OLW g oL h1, ODW g oD fD]) C (X5_reason_c l g oM rM vM aM (xs (i + 1))) (cwV 1 hts (k_gV kw1802 ca_X5_reason) rfl rfl rfl ⟨rfl, pnX5_reason⟩ ⟨Nat.le_of_ble_eq_true rfl, Nat.le_of_ble_eq_true rfl⟩) hE hS hA hP hD [8] [0, 1, 2, 3, 4, 5, 6, 7, 9, 10] rfl rfl ⟨rfl, rfl, by decide⟩ (k_recv C kFX5 hP (i := 8) (q := 0) rfl rfl) rfl hl.1 rfl rfl dL_law_1922 ⟨by show _ ≤ 605484; omega, by show _ ≤ 7191588; omega⟩ (fun r u H locs hp hP hD hS => ?_)
  obtain ⟨hr, hu⟩ := hp
  subst hu
  subst hr
  have hP : kp g [X4W g oF (kFr oC oS oH oR oT oB) vF, X0W g oC rC vC aC, X0W g oS rS vS aS, X2W g oH rH vH oQ rQ aH, X3W g oR rR vR aR, X1W g oT rT vT aT, JOW oB q ml (nI k), JAW g q n f, X5W g oM rM ((X5_reason_f vM aM (xs (i + 1))).2) aM, OLW g oL h1, ODW g oD fD] H := hP.pick [0, 1, 2, 3, 4, 5, 6, 7, 10, 8, 9] rfl
  have hD : kd (kAh s) [X4W g oF (kFr oC oS oH oR oT oB) vF, X0W g oC rC vC aC, X0W g oS rS vS aS, X2W g oH rH vH oQ rQ aH, X3W g oR rR vR aR, X1W g oT rT vT aT, JOW oB q ml (nI k), JAW g q n f, X5W g oM rM ((X5_reason_f vM aM (xs (i + 1))).2) aM, OLW g oL h1, ODW g oD fD] := hD.pick [0, 1, 2, 3, 4, 5, 6, 7, 10, 8, 9] rfl rfl
  refine lv_istore (lv' := [(7, .int ((X5_reason_f vM aM (xs (i + 1))).1)), (6, .int (kLk2 3 ((X4_reason_f vF vR aR (xs (i + 1))).1))), (5, .int (nI i)), (0, .ref b), (1, .ref oF), (2, .ref oM), (3, .ref oL), (4, .ref oD)]) hx hb dL_law_1925 hl (by decide) rfl (fun ls hl => ?_)
  refine lv_aload_n hx hb dL_law_1927 rfl (lv_at hl 5 rfl) ?_
  refine kR_V (As := []) (rest := []) C (X5_thrown_c l g oM rM ((X5_reason_f vM aM (xs (i + 1))).2) aM) (cwV 0 hts (k_gV kw1513 ca_X5_thrown) rfl rfl rfl ⟨rfl, pnX5_thrown⟩ ⟨Nat.le_of_ble_eq_true rfl, Nat.le_of_ble_eq_true rfl⟩) hE hS (hP.pick [8] rfl) (k_recv C kFX5 hP (i := 8) (q := 0) rfl rfl) rfl hl.1 rfl rfl dL_law_1928 ⟨by show _ ≤ 605484; omega, by show _ ≤ 7191588; omega⟩ ?_
  refine lv_iload hx hb dL_law_1931 (lv_at hl 1 rfl) ?_
  refine lv_icmp_eq (tgt := 1938) hx hb dL_law_1933 (by decide) (fun z => ?_) (fun z => absurd hs.1 z)
  have fin : W p l e room_1 s m #[Value.ref b] below meth c H locs (cells + 1 + 0) (slots + 6 + 0) (lw_Z below #[Value.ref b] s) (F0 m 1955 ls []) := by
    refine lv_goto (tgt := 2358) hx hb dL_law_1955 (by decide) ?_
    exact ih _ _ _ _ _ _ _ _ _ _ _ _ _ _ _ _ _ _ _ _ H locs ls _ _ hs.2.2 hT hP hD hS (lv_sub hl [2, 3, 4, 5, 6, 7] rfl) (by omega) (by omega)
  refine lv_iload hx hb dL_law_1938 (lv_at hl 1 rfl) ?_
  by_cases hc0 : kLk2 3 ((X4_reason_f vF vR aR (xs (i + 1))).1) = 0
  rotate_left
  · refine lv_if_ne (tgt := 1955) hx hb dL_law_1940 (by decide) (fun z => fin) (fun z => absurd z hc0)
  refine lv_if_ne (tgt := 1955) hx hb dL_law_1940 (by decide) (fun z => absurd hc0 z) (fun z => ?_)
  have hc1 := kLk2_0 hc0
  refine lv_aload_n hx hb dL_law_1943 rfl (lv_at hl 6 rfl) ?_
  refine lv_iconst (v := 0) hx hb dL_law_1944 (by decide) ?_
  refine kg_lald C hP (i := 9) rfl dL_law_1945 ?_
  refine lv_iload hx hb dL_law_1946 (lv_at hl 0 rfl) ?_
  refine lv_i2l hx hb dL_law_1948 rfl ?_
  refine W.lcmp hx hb dL_law_1949 ?_
  rw [k_lcmp0 ((hv1 hc1).trans (congrArg Int32.toInt64 (hs.2.1 hc1).symm))]
  refine lv_if_eq (tgt := 1955) hx hb dL_law_1950 (by decide) (fun z => fin) (fun z => absurd rfl z)
set_option maxHeartbeats 4000000 in
theorem LC_line (l : Launch) (hfl : l.stackTraces = false) {p : Program} {e : Env} {s : State} {m : MethodId} {below : List Frame} {meth : Method} {c : Code} {b L : Nat} {xs : Nat → Int32} {g : kG} (oF oC oS oH oR oT oB oM oL oD : Nat) (rC rS rH rR rT rM : Nat → Nat) (oQ : Nat → Nat) (rQ : Nat → Nat → Nat) (aR : Nat → Nat → Int32) {N i cells slots : Nat} (C : kC p c code s m #[Value.ref b] meth RL g 9 ret) (hE : kE g (kAh s) s s.heap) (hNc : kNc s) (hX : va_X b L xs s s.heap) (hbl : b < s.heap.size) (hL : L ≤ 2048) (hi : i + 4 ≤ L) (hN : N < 90000) (hcb : cells + 40 ≤ 605484) (hsb : slots + 2000 ≤ 7191588)
    (ih : kNext l p e s m below meth c b g oF oC oS oH oR oT oB oM oL oD rC rS rH rR rT rM oQ rQ aR i N cells slots) (vF : Nat → Int32) (vC : Nat → Int32) (aC : Nat → Nat → Int32) (vS : Nat → Int32) (aS : Nat → Nat → Int32) (vH : Nat → Int32) (aH : Nat → (Nat → Int32) × (Nat → Nat → Int32)) (vR : Nat → Int32) (vT : Nat → Int32) (aT : Nat → Nat → Int32) (q n : Nat) (ml : Int32) (f : Nat → Int32) (t : Nat → Nat) (k : Nat) (vM : Nat → Int32) (aM : Nat → Nat → Int32) (fL : Nat → Int64) (fD : Nat → UInt64) (H : Heap) (locs : List Loc) (ls : Array Slot) (hR : kRel N vF vC aC vS aS vH aH vR vT aT t k vM aM) (hT : ((n = 16 ∨ n = 34) ∧ k ≤ n ∧ sb_Fit f ∧ sb_Lat t k f)) (hP : kp g [X4W g oF (kFr oC oS oH oR oT oB) vF, X0W g oC rC vC aC, X0W g oS rS vS aS, X2W g oH rH vH oQ rQ aH, X3W g oR rR vR aR, X1W g oT rT vT aT, JOW oB q ml (nI k), JAW g q n f, X5W g oM rM vM aM, OLW g oL fL, ODW g oD fD] H) (hD : kd (kAh s) [X4W g oF (kFr oC oS oH oR oT oB) vF, X0W g oC rC vC aC, X0W g oS rS vS aS, X2W g oH rH vH oQ rQ aH, X3W g oR rR vR aR, X1W g oT rT vT aT, JOW oB q ml (nI k), JAW g q n f, X5W g oM rM vM aM, OLW g oL fL, ODW g oD fD]) (hS : va_S (kAh s) s.heap H locs) (hl : lv_has ls 9 (kLb i b oF oM oL oD)) :
    W p l e room_1 s m #[Value.ref b] below meth c H locs cells slots (lw_Z below #[Value.ref b] s) (F0 m 1958 ls []) := by
  have hA : ∀ q, s.heap.size ≤ q → kAh s q := fun q h => h
  have hx := C.1.1
  have hb := C.1.2.1
  have hts := C.1.2.2.2.2
  obtain ⟨⟨nb, nj, hnb, hv7, hnj, hv4, hb5, hj5⟩, hM, hM5, hh, hu, hL1, hL9, hch, hl40, h87, hI⟩ := kRel_hyp (by omega) hR
  refine lv_aload_n hx hb dL_law_1958 rfl (lv_at hl 2 rfl) ?_
  refine lv_aload_n hx hb dL_law_1959 rfl (lv_at hl 1 rfl) ?_
  refine lv_iload hx hb dL_law_1960 (lv_at hl 0 rfl) ?_
  refine lv_iconst (v := 1) hx hb dL_law_1962 (by decide) ?_
  refine lv_iadd hx hb dL_law_1963 ?_
  refine kg_script (j := 1) C hX hbl hS (by omega) hL dL_law_1964 ?_
  refine lv_aload_n hx hb dL_law_1965 rfl (lv_at hl 4 rfl) ?_
  have hs := kS_line (aR := aR) (by omega) hR (xs (i + 1))
  refine kL_S (As := [.ref oF, .int (xs (i + 1)), .ref oL]) (rest := []) (wr := [X0W g oS rS vS aS, X2W g oH rH vH oQ rQ aH, X3W g oR rR vR aR, X1W g oT rT vT aT, X5W g oM rM vM aM, ODW g oD fD]) C (L_line_c l g oF vF oS oH oR oT oB oC rC vC aC q n ml f k hT.1 hT.2.1 hT.2.2.1 (xs (i + 1)) nb hnb hv7 hfl oL fL kK_line) hNc (vx_cwSW 3 hts (k_gS kw1099 cs_L_line) rfl rfl rfl pnL_line ⟨Nat.le_of_ble_eq_true rfl, Nat.le_of_ble_eq_true rfl⟩) hE hS hA hP hD [0, 1, 6, 7, 9] [2, 3, 4, 5, 8, 10] rfl rfl ⟨rfl, rfl, by decide⟩ rfl hl.1 rfl rfl dL_law_1966 ⟨by show _ ≤ 605484; omega, by show _ ≤ 7191588; omega⟩ (fun r u H locs hp hP hD hS => ?_)
  obtain ⟨hr, h1, v1, hv1, hu1, hq1, hq2⟩ := hp
  subst hu1
  subst hr
  obtain ⟨q1, n1, ml1, f1, t1, k1, rfl, hT1, hR1⟩ : ∃ (q1 n1 : Nat) (ml1 : Int32) (f1 : Nat → Int32) (t1 : Nat → Nat) (k1 : Nat), v1 = [JOW oB q1 ml1 (nI k1), JAW g q1 n1 f1] ∧ ((n1 = 16 ∨ n1 = 34) ∧ k1 ≤ n1 ∧ sb_Fit f1 ∧ sb_Lat t1 k1 f1) ∧ kRel (N + 60) vF vC aC vS aS vH aH vR vT aT t1 k1 ((X5_line_f vM aM (xs (i + 1))).2.1) ((X5_line_f vM aM (xs (i + 1))).2.2) := by
    by_cases hc0 : X4_checkBag_f vF vC aC (xs (i + 1)) = 0
    · obtain ⟨q1, n1, ml1, f1, h2, h3, h4, h5, h6⟩ := hq1 hc0
      exact ⟨q1, n1, ml1, f1, _, _, h2, ⟨h3, h4, h5, h6⟩, hs.2.2.1 hc0⟩
    · exact ⟨q, n, ml, f, t, k, hq2 hc0, hT, hs.2.2.2 hc0⟩
  have hP : kp g [X4W g oF (kFr oC oS oH oR oT oB) vF, X0W g oC rC vC aC, X0W g oS rS vS aS, X2W g oH rH vH oQ rQ aH, X3W g oR rR vR aR, X1W g oT rT vT aT, JOW oB q1 ml1 (nI k1), JAW g q1 n1 f1, X5W g oM rM vM aM, OLW g oL h1, ODW g oD fD] H := hP.pick [6, 7, 0, 1, 2, 3, 8, 9, 4, 10, 5] rfl
  have hD : kd (kAh s) [X4W g oF (kFr oC oS oH oR oT oB) vF, X0W g oC rC vC aC, X0W g oS rS vS aS, X2W g oH rH vH oQ rQ aH, X3W g oR rR vR aR, X1W g oT rT vT aT, JOW oB q1 ml1 (nI k1), JAW g q1 n1 f1, X5W g oM rM vM aM, OLW g oL h1, ODW g oD fD] := hD.pick [6, 7, 0, 1, 2, 3, 8, 9, 4, 10, 5] rfl rfl
  refine lv_istore (lv' := [(6, .int (kLk1 (X4_checkBag_f vF vC aC (xs (i + 1))))), (5, .int (nI i)), (0, .ref b), (1, .ref oF), (2, .ref oM), (3, .ref oL), (4, .ref oD)]) hx hb dL_law_1969 hl (by decide) rfl (fun ls hl => ?_)
  refine lv_aload_n hx hb dL_law_1971 rfl (lv_at hl 4 rfl) ?_
  refine lv_aload_n hx hb dL_law_1972 rfl (lv_at hl 2 rfl) ?_
  refine lv_iload hx hb dL_law_1973 (lv_at hl 1 rfl) ?_
  refine lv_iconst (v := 1) hx hb dL_law_1975 (by decide) ?_
  refine lv_iadd hx hb dL_law_1976 ?_
  refine kg_script (j := 1) C hX hbl hS (by omega) hL dL_law_1977 ?_
  refine kM_V (As := [.int (xs (i + 1))]) (rest := []) (wr := [X4W g oF (kFr oC oS oH oR oT oB) vF, X0W g oC rC vC aC, X0W g oS rS vS aS, X2W g oH rH vH oQ rQ aH, X3W g oR rR vR aR, X1W g oT rT vT aT, JOW oB q1 ml1 (nI k1), JAW g q1 n1 f1, OLW g oL h1, ODW g oD fD]) C (X5_line_c l g oM rM vM aM (xs (i + 1)) ⟨nb, hnb, hb5⟩) (cwV 1 hts (k_gV kw1806 ca_X5_line) rfl rfl rfl ⟨rfl, pnX5_line⟩ ⟨Nat.le_of_ble_eq_true rfl, Nat.le_of_ble_eq_true rfl⟩) hE hS hA hP hD [8] [0, 1, 2, 3, 4, 5, 6, 7, 9, 10] rfl rfl ⟨rfl, rfl, by decide⟩ (k_recv C kFX5 hP (i := 8) (q := 0) rfl rfl) rfl hl.1 rfl rfl dL_law_1978 ⟨by show _ ≤ 605484; omega, by show _ ≤ 7191588; omega⟩ (fun r u H locs hp hP hD hS => ?_)
  obtain ⟨hr, hu⟩ := hp
  subst hu
  subst hr
  have hP : kp g [X4W g oF (kFr oC oS oH oR oT oB) vF, X0W g oC rC vC aC, X0W g oS rS vS aS, X2W g oH rH vH oQ rQ aH, X3W g oR rR vR aR, X1W g oT rT vT aT, JOW oB q1 ml1 (nI k1), JAW g q1 n1 f1, X5W g oM rM ((X5_line_f vM aM (xs (i + 1))).2.1) ((X5_line_f vM aM (xs (i + 1))).2.2), OLW g oL h1, ODW g oD fD] H := hP.pick [0, 1, 2, 3, 4, 5, 6, 7, 10, 8, 9] rfl
  have hD : kd (kAh s) [X4W g oF (kFr oC oS oH oR oT oB) vF, X0W g oC rC vC aC, X0W g oS rS vS aS, X2W g oH rH vH oQ rQ aH, X3W g oR rR vR aR, X1W g oT rT vT aT, JOW oB q1 ml1 (nI k1), JAW g q1 n1 f1, X5W g oM rM ((X5_line_f vM aM (xs (i + 1))).2.1) ((X5_line_f vM aM (xs (i + 1))).2.2), OLW g oL h1, ODW g oD fD] := hD.pick [0, 1, 2, 3, 4, 5, 6, 7, 10, 8, 9] rfl rfl
  refine lv_istore (lv' := [(7, .int ((X5_line_f vM aM (xs (i + 1))).1)), (6, .int (kLk1 (X4_checkBag_f vF vC aC (xs (i + 1))))), (5, .int (nI i)), (0, .ref b), (1, .ref oF), (2, .ref oM), (3, .ref oL), (4, .ref oD)]) hx hb dL_law_1981 hl (by decide) rfl (fun ls hl => ?_)
  refine lv_aload_n hx hb dL_law_1983 rfl (lv_at hl 5 rfl) ?_
  refine kR_V (As := []) (rest := []) C (X5_thrown_c l g oM rM ((X5_line_f vM aM (xs (i + 1))).2.1) ((X5_line_f vM aM (xs (i + 1))).2.2)) (cwV 0 hts (k_gV kw1513 ca_X5_thrown) rfl rfl rfl ⟨rfl, pnX5_thrown⟩ ⟨Nat.le_of_ble_eq_true rfl, Nat.le_of_ble_eq_true rfl⟩) hE hS (hP.pick [8] rfl) (k_recv C kFX5 hP (i := 8) (q := 0) rfl rfl) rfl hl.1 rfl rfl dL_law_1984 ⟨by show _ ≤ 605484; omega, by show _ ≤ 7191588; omega⟩ ?_
  refine lv_iload hx hb dL_law_1987 (lv_at hl 1 rfl) ?_
  refine lv_icmp_eq (tgt := 1994) hx hb dL_law_1989 (by decide) (fun z => ?_) (fun z => absurd hs.1 z)
  have fin : W p l e room_1 s m #[Value.ref b] below meth c H locs (cells + 21 + 0) (slots + 690 + 0) (lw_Z below #[Value.ref b] s) (F0 m 2011 ls []) := by
    refine lv_goto (tgt := 2358) hx hb dL_law_2011 (by decide) ?_
    exact ih _ _ _ _ _ _ _ _ _ _ _ _ _ _ _ _ _ _ _ _ H locs ls _ _ hR1 hT1 hP hD hS (lv_sub hl [2, 3, 4, 5, 6, 7] rfl) (by omega) (by omega)
  refine lv_iload hx hb dL_law_1994 (lv_at hl 1 rfl) ?_
  by_cases hc0 : kLk1 (X4_checkBag_f vF vC aC (xs (i + 1))) = 0
  rotate_left
  · refine lv_if_ne (tgt := 2011) hx hb dL_law_1996 (by decide) (fun z => fin) (fun z => absurd z hc0)
  refine lv_if_ne (tgt := 2011) hx hb dL_law_1996 (by decide) (fun z => absurd hc0 z) (fun z => ?_)
  have hc1 := kLk1_0 hc0
  refine lv_aload_n hx hb dL_law_1999 rfl (lv_at hl 6 rfl) ?_
  refine lv_iconst (v := 0) hx hb dL_law_2000 (by decide) ?_
  refine kg_lald C hP (i := 9) rfl dL_law_2001 ?_
  refine lv_iload hx hb dL_law_2002 (lv_at hl 0 rfl) ?_
  refine lv_i2l hx hb dL_law_2004 rfl ?_
  refine W.lcmp hx hb dL_law_2005 ?_
  rw [k_lcmp0 ((hv1 hc1).trans (congrArg Int32.toInt64 (hs.2.1 hc1).symm))]
  refine lv_if_eq (tgt := 2011) hx hb dL_law_2006 (by decide) (fun z => fin) (fun z => absurd rfl z)
set_option maxHeartbeats 4000000 in
theorem LC_character (l : Launch) (hfl : l.stackTraces = false) {p : Program} {e : Env} {s : State} {m : MethodId} {below : List Frame} {meth : Method} {c : Code} {b L : Nat} {xs : Nat → Int32} {g : kG} (oF oC oS oH oR oT oB oM oL oD : Nat) (rC rS rH rR rT rM : Nat → Nat) (oQ : Nat → Nat) (rQ : Nat → Nat → Nat) (aR : Nat → Nat → Int32) {N i cells slots : Nat} (C : kC p c code s m #[Value.ref b] meth RL g 9 ret) (hE : kE g (kAh s) s s.heap) (hNc : kNc s) (hX : va_X b L xs s s.heap) (hbl : b < s.heap.size) (hL : L ≤ 2048) (hi : i + 4 ≤ L) (hN : N < 90000) (hcb : cells + 40 ≤ 605484) (hsb : slots + 2000 ≤ 7191588)
    (ih : kNext l p e s m below meth c b g oF oC oS oH oR oT oB oM oL oD rC rS rH rR rT rM oQ rQ aR i N cells slots) (vF : Nat → Int32) (vC : Nat → Int32) (aC : Nat → Nat → Int32) (vS : Nat → Int32) (aS : Nat → Nat → Int32) (vH : Nat → Int32) (aH : Nat → (Nat → Int32) × (Nat → Nat → Int32)) (vR : Nat → Int32) (vT : Nat → Int32) (aT : Nat → Nat → Int32) (q n : Nat) (ml : Int32) (f : Nat → Int32) (t : Nat → Nat) (k : Nat) (vM : Nat → Int32) (aM : Nat → Nat → Int32) (fL : Nat → Int64) (fD : Nat → UInt64) (H : Heap) (locs : List Loc) (ls : Array Slot) (hR : kRel N vF vC aC vS aS vH aH vR vT aT t k vM aM) (hT : ((n = 16 ∨ n = 34) ∧ k ≤ n ∧ sb_Fit f ∧ sb_Lat t k f)) (hP : kp g [X4W g oF (kFr oC oS oH oR oT oB) vF, X0W g oC rC vC aC, X0W g oS rS vS aS, X2W g oH rH vH oQ rQ aH, X3W g oR rR vR aR, X1W g oT rT vT aT, JOW oB q ml (nI k), JAW g q n f, X5W g oM rM vM aM, OLW g oL fL, ODW g oD fD] H) (hD : kd (kAh s) [X4W g oF (kFr oC oS oH oR oT oB) vF, X0W g oC rC vC aC, X0W g oS rS vS aS, X2W g oH rH vH oQ rQ aH, X3W g oR rR vR aR, X1W g oT rT vT aT, JOW oB q ml (nI k), JAW g q n f, X5W g oM rM vM aM, OLW g oL fL, ODW g oD fD]) (hS : va_S (kAh s) s.heap H locs) (hl : lv_has ls 9 (kLb i b oF oM oL oD)) :
    W p l e room_1 s m #[Value.ref b] below meth c H locs cells slots (lw_Z below #[Value.ref b] s) (F0 m 2014 ls []) := by
  have hA : ∀ q, s.heap.size ≤ q → kAh s q := fun q h => h
  have hx := C.1.1
  have hb := C.1.2.1
  have hts := C.1.2.2.2.2
  obtain ⟨⟨nb, nj, hnb, hv7, hnj, hv4, hb5, hj5⟩, hM, hM5, hh, hu, hL1, hL9, hch, hl40, h87, hI⟩ := kRel_hyp (by omega) hR
  refine lv_aload_n hx hb dL_law_2014 rfl (lv_at hl 2 rfl) ?_
  refine lv_aload_n hx hb dL_law_2015 rfl (lv_at hl 1 rfl) ?_
  refine lv_iload hx hb dL_law_2016 (lv_at hl 0 rfl) ?_
  refine lv_iconst (v := 1) hx hb dL_law_2018 (by decide) ?_
  refine lv_iadd hx hb dL_law_2019 ?_
  refine kg_script (j := 1) C hX hbl hS (by omega) hL dL_law_2020 ?_
  refine lv_aload_n hx hb dL_law_2021 rfl (lv_at hl 4 rfl) ?_
  have hs := kS_character (aR := aR) (by omega) hR (xs (i + 1))
  refine kL_S (As := [.ref oF, .int (xs (i + 1)), .ref oL]) (rest := []) (wr := [X0W g oC rC vC aC, X0W g oS rS vS aS, X2W g oH rH vH oQ rQ aH, X3W g oR rR vR aR, X1W g oT rT vT aT, X5W g oM rM vM aM, ODW g oD fD]) C (L_character_c l g oF vF oC oS oH oR oT oB q n ml f t k hT.1 hT.2.1 hT.2.2.1 hT.2.2.2 (xs (i + 1)) hfl oL fL kK_character) hNc (vx_cwSW 3 hts (k_gS kw1356 cs_L_character) rfl rfl rfl pnL_character ⟨Nat.le_of_ble_eq_true rfl, Nat.le_of_ble_eq_true rfl⟩) hE hS hA hP hD [0, 6, 7, 9] [1, 2, 3, 4, 5, 8, 10] rfl rfl ⟨rfl, rfl, by decide⟩ rfl hl.1 rfl rfl dL_law_2022 ⟨by show _ ≤ 605484; omega, by show _ ≤ 7191588; omega⟩ (fun r u H locs hp hP hD hS => ?_)
  obtain ⟨hr, h1, hv1, hu1⟩ := hp
  subst hu1
  subst hr
  have hP : kp g [X4W g oF (kFr oC oS oH oR oT oB) vF, X0W g oC rC vC aC, X0W g oS rS vS aS, X2W g oH rH vH oQ rQ aH, X3W g oR rR vR aR, X1W g oT rT vT aT, JOW oB q ml (nI k), JAW g q n f, X5W g oM rM vM aM, OLW g oL h1, ODW g oD fD] H := hP.pick [7, 0, 1, 2, 3, 4, 8, 9, 5, 10, 6] rfl
  have hD : kd (kAh s) [X4W g oF (kFr oC oS oH oR oT oB) vF, X0W g oC rC vC aC, X0W g oS rS vS aS, X2W g oH rH vH oQ rQ aH, X3W g oR rR vR aR, X1W g oT rT vT aT, JOW oB q ml (nI k), JAW g q n f, X5W g oM rM vM aM, OLW g oL h1, ODW g oD fD] := hD.pick [7, 0, 1, 2, 3, 4, 8, 9, 5, 10, 6] rfl rfl
  refine lv_istore (lv' := [(6, .int (kLk1 ((X4_character_f (t, k) (xs (i + 1))).1))), (5, .int (nI i)), (0, .ref b), (1, .ref oF), (2, .ref oM), (3, .ref oL), (4, .ref oD)]) hx hb dL_law_2025 hl (by decide) rfl (fun ls hl => ?_)
  refine lv_aload_n hx hb dL_law_2027 rfl (lv_at hl 4 rfl) ?_
  refine lv_aload_n hx hb dL_law_2028 rfl (lv_at hl 2 rfl) ?_
  refine lv_iload hx hb dL_law_2029 (lv_at hl 1 rfl) ?_
  refine lv_iconst (v := 1) hx hb dL_law_2031 (by decide) ?_
  refine lv_iadd hx hb dL_law_2032 ?_
  refine kg_script (j := 1) C hX hbl hS (by omega) hL dL_law_2033 ?_
  refine kM_V (As := [.int (xs (i + 1))]) (rest := []) (wr := [X4W g oF (kFr oC oS oH oR oT oB) vF, X0W g oC rC vC aC, X0W g oS rS vS aS, X2W g oH rH vH oQ rQ aH, X3W g oR rR vR aR, X1W g oT rT vT aT, JOW oB q ml (nI k), JAW g q n f, OLW g oL h1, ODW g oD fD]) C (X5_character_c l g oM rM vM aM (xs (i + 1)) hl40) (cwV 1 hts (k_gV kw1814 ca_X5_character) rfl rfl rfl ⟨rfl, pnX5_character⟩ ⟨Nat.le_of_ble_eq_true rfl, Nat.le_of_ble_eq_true rfl⟩) hE hS hA hP hD [8] [0, 1, 2, 3, 4, 5, 6, 7, 9, 10] rfl rfl ⟨rfl, rfl, by decide⟩ (k_recv C kFX5 hP (i := 8) (q := 0) rfl rfl) rfl hl.1 rfl rfl dL_law_2034 ⟨by show _ ≤ 605484; omega, by show _ ≤ 7191588; omega⟩ (fun r u H locs hp hP hD hS => ?_)
  obtain ⟨hr, hu⟩ := hp
  subst hu
  subst hr
  have hP : kp g [X4W g oF (kFr oC oS oH oR oT oB) vF, X0W g oC rC vC aC, X0W g oS rS vS aS, X2W g oH rH vH oQ rQ aH, X3W g oR rR vR aR, X1W g oT rT vT aT, JOW oB q ml (nI k), JAW g q n f, X5W g oM rM ((X5_character_f vM aM (xs (i + 1))).2) aM, OLW g oL h1, ODW g oD fD] H := hP.pick [0, 1, 2, 3, 4, 5, 6, 7, 10, 8, 9] rfl
  have hD : kd (kAh s) [X4W g oF (kFr oC oS oH oR oT oB) vF, X0W g oC rC vC aC, X0W g oS rS vS aS, X2W g oH rH vH oQ rQ aH, X3W g oR rR vR aR, X1W g oT rT vT aT, JOW oB q ml (nI k), JAW g q n f, X5W g oM rM ((X5_character_f vM aM (xs (i + 1))).2) aM, OLW g oL h1, ODW g oD fD] := hD.pick [0, 1, 2, 3, 4, 5, 6, 7, 10, 8, 9] rfl rfl
  refine lv_istore (lv' := [(7, .int ((X5_character_f vM aM (xs (i + 1))).1)), (6, .int (kLk1 ((X4_character_f (t, k) (xs (i + 1))).1))), (5, .int (nI i)), (0, .ref b), (1, .ref oF), (2, .ref oM), (3, .ref oL), (4, .ref oD)]) hx hb dL_law_2037 hl (by decide) rfl (fun ls hl => ?_)
  refine lv_aload_n hx hb dL_law_2039 rfl (lv_at hl 5 rfl) ?_
  refine kR_V (As := []) (rest := []) C (X5_thrown_c l g oM rM ((X5_character_f vM aM (xs (i + 1))).2) aM) (cwV 0 hts (k_gV kw1513 ca_X5_thrown) rfl rfl rfl ⟨rfl, pnX5_thrown⟩ ⟨Nat.le_of_ble_eq_true rfl, Nat.le_of_ble_eq_true rfl⟩) hE hS (hP.pick [8] rfl) (k_recv C kFX5 hP (i := 8) (q := 0) rfl rfl) rfl hl.1 rfl rfl dL_law_2040 ⟨by show _ ≤ 605484; omega, by show _ ≤ 7191588; omega⟩ ?_
  refine lv_iload hx hb dL_law_2043 (lv_at hl 1 rfl) ?_
  refine lv_icmp_eq (tgt := 2050) hx hb dL_law_2045 (by decide) (fun z => ?_) (fun z => absurd hs.1 z)
  have fin : W p l e room_1 s m #[Value.ref b] below meth c H locs (cells + 1 + 0) (slots + 6 + 0) (lw_Z below #[Value.ref b] s) (F0 m 2067 ls []) := by
    refine lv_goto (tgt := 2358) hx hb dL_law_2067 (by decide) ?_
    exact ih _ _ _ _ _ _ _ _ _ _ _ _ _ _ _ _ _ _ _ _ H locs ls _ _ hs.2.2 hT hP hD hS (lv_sub hl [2, 3, 4, 5, 6, 7] rfl) (by omega) (by omega)
  refine lv_iload hx hb dL_law_2050 (lv_at hl 1 rfl) ?_
  by_cases hc0 : kLk1 ((X4_character_f (t, k) (xs (i + 1))).1) = 0
  rotate_left
  · refine lv_if_ne (tgt := 2067) hx hb dL_law_2052 (by decide) (fun z => fin) (fun z => absurd z hc0)
  refine lv_if_ne (tgt := 2067) hx hb dL_law_2052 (by decide) (fun z => absurd hc0 z) (fun z => ?_)
  have hc1 := kLk1_0 hc0
  refine lv_aload_n hx hb dL_law_2055 rfl (lv_at hl 6 rfl) ?_
  refine lv_iconst (v := 0) hx hb dL_law_2056 (by decide) ?_
  refine kg_lald C hP (i := 9) rfl dL_law_2057 ?_
  refine lv_iload hx hb dL_law_2058 (lv_at hl 0 rfl) ?_
  refine lv_i2l hx hb dL_law_2060 rfl ?_
  refine W.lcmp hx hb dL_law_2061 ?_
  rw [k_lcmp0 ((hv1 hc1).trans (congrArg Int32.toInt64 (hs.2.1 hc1).symm))]
  refine lv_if_eq (tgt := 2067) hx hb dL_law_2062 (by decide) (fun z => fin) (fun z => absurd rfl z)
