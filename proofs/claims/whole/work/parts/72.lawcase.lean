theorem kw715 : Cond.methodLink RL 175 yL_oath ∈ kW := k_w 4 129 rfl rfl
theorem kw722 : Cond.methodLink RL 179 yL_go ∈ kW := k_w 4 136 rfl rfl
theorem kw729 : Cond.methodLink RL 182 yL_seal ∈ kW := k_w 4 143 rfl rfl
theorem kw736 : Cond.methodLink RL 185 yL_days ∈ kW := k_w 4 150 rfl rfl
theorem kw743 : Cond.methodLink RL 188 yL_jarOf ∈ kW := k_w 4 157 rfl rfl
theorem kw788 : Cond.methodLink RL 192 yL_bagOf ∈ kW := k_w 4 202 rfl rfl
theorem kw819 : Cond.methodLink RL 195 yL_weightOf ∈ kW := k_w 4 233 rfl rfl
theorem kw834 : Cond.methodLink RL 198 yL_told ∈ kW := k_w 5 8 rfl rfl
theorem kw1659 : Cond.methodLink RL 178 yX5_oath ∈ kW := k_w 8 113 rfl rfl
theorem kw1667 : Cond.methodLink RL 181 yX5_go ∈ kW := k_w 8 121 rfl rfl
theorem kw1686 : Cond.methodLink RL 184 yX5_seal ∈ kW := k_w 8 140 rfl rfl
theorem kw1697 : Cond.methodLink RL 187 yX5_days ∈ kW := k_w 8 151 rfl rfl
theorem kw1709 : Cond.methodLink RL 191 yX5_jarOf ∈ kW := k_w 8 163 rfl rfl
theorem kw1713 : Cond.methodLink RL 194 yX5_bagOf ∈ kW := k_w 8 167 rfl rfl
theorem kw1717 : Cond.methodLink RL 197 yX5_weightOf ∈ kW := k_w 8 171 rfl rfl
theorem kw1721 : Cond.methodLink RL 200 yX5_told ∈ kW := k_w 8 175 rfl rfl
set_option maxHeartbeats 4000000 in
theorem LC_oath (l : Launch) (hfl : l.stackTraces = false) {p : Program} {e : Env} {s : State} {m : MethodId} {below : List Frame} {meth : Method} {c : Code} {b L : Nat} {xs : Nat → Int32} {g : kG} (oF oC oS oH oR oT oB oM oL oD : Nat) (rC rS rH rR rT rM : Nat → Nat) (oQ : Nat → Nat) (rQ : Nat → Nat → Nat) (aR : Nat → Nat → Int32) {N i cells slots : Nat} (C : kC p c code s m #[Value.ref b] meth RL g 9 ret) (hE : kE g (kAh s) s s.heap) (hNc : kNc s) (hX : va_X b L xs s s.heap) (hbl : b < s.heap.size) (hL : L ≤ 2048) (hi : i + 4 ≤ L) (hN : N < 90000) (hcb : cells + 40 ≤ 605484) (hsb : slots + 2000 ≤ 7191588)
    (ih : kNext l p e s m below meth c b g oF oC oS oH oR oT oB oM oL oD rC rS rH rR rT rM oQ rQ aR i N cells slots) (vF : Nat → Int32) (vC : Nat → Int32) (aC : Nat → Nat → Int32) (vS : Nat → Int32) (aS : Nat → Nat → Int32) (vH : Nat → Int32) (aH : Nat → (Nat → Int32) × (Nat → Nat → Int32)) (vR : Nat → Int32) (vT : Nat → Int32) (aT : Nat → Nat → Int32) (q n : Nat) (ml : Int32) (f : Nat → Int32) (t : Nat → Nat) (k : Nat) (vM : Nat → Int32) (aM : Nat → Nat → Int32) (fL : Nat → Int64) (fD : Nat → UInt64) (H : Heap) (locs : List Loc) (ls : Array Slot) (hR : kRel N vF vC aC vS aS vH aH vR vT aT t k vM aM) (hT : ((n = 16 ∨ n = 34) ∧ k ≤ n ∧ sb_Fit f ∧ sb_Lat t k f)) (hP : kp g [X4W g oF (kFr oC oS oH oR oT oB) vF, X0W g oC rC vC aC, X0W g oS rS vS aS, X2W g oH rH vH oQ rQ aH, X3W g oR rR vR aR, X1W g oT rT vT aT, JOW oB q ml (nI k), JAW g q n f, X5W g oM rM vM aM, OLW g oL fL, ODW g oD fD] H) (hD : kd (kAh s) [X4W g oF (kFr oC oS oH oR oT oB) vF, X0W g oC rC vC aC, X0W g oS rS vS aS, X2W g oH rH vH oQ rQ aH, X3W g oR rR vR aR, X1W g oT rT vT aT, JOW oB q ml (nI k), JAW g q n f, X5W g oM rM vM aM, OLW g oL fL, ODW g oD fD]) (hS : va_S (kAh s) s.heap H locs) (hl : lv_has ls 9 (kLb i b oF oM oL oD)) :
    W p l e room_1 s m #[Value.ref b] below meth c H locs cells slots (lw_Z below #[Value.ref b] s) (F0 m 708 ls []) := by
  have hA : ∀ q, s.heap.size ≤ q → kAh s q := fun q h => h
  have hx := C.1.1
  have hb := C.1.2.1
  have hts := C.1.2.2.2.2
  obtain ⟨⟨nb, nj, hnb, hv7, hnj, hv4, hb5, hj5⟩, hM, hM5, hh, hu, hL1, hL9, hch, hl40, h87, hI⟩ := kRel_hyp (by omega) hR
  refine lv_aload_n hx hb dL_law_708 rfl (lv_at hl 2 rfl) ?_
  refine lv_aload_n hx hb dL_law_709 rfl (lv_at hl 4 rfl) ?_
  have hs := kS_oath (aR := aR) (by omega) hR 
  refine kL_S (As := [.ref oF, .ref oL]) (rest := []) (wr := [X0W g oS rS vS aS, X1W g oT rT vT aT, JOW oB q ml (nI k), JAW g q n f, X5W g oM rM vM aM, ODW g oD fD]) C (L_oath_c l g oF vF oS oT oB oC rC vC aC oH rH vH oQ rQ aH oR rR vR aR nb nj hnb hv7 hnj hv4 hM hh hfl oL fL kK_oath) hNc (vx_cwSW 2 hts (k_gS kw715 cs_L_oath) rfl rfl rfl pnL_oath ⟨Nat.le_of_ble_eq_true rfl, Nat.le_of_ble_eq_true rfl⟩) hE hS hA hP hD [0, 1, 3, 4, 9] [2, 5, 6, 7, 8, 10] rfl rfl ⟨rfl, rfl, by decide⟩ rfl hl.1 rfl rfl dL_law_710 ⟨by show _ ≤ 605484; omega, by show _ ≤ 7191588; omega⟩ (fun r u H locs hp hP hD hS => ?_)
  obtain ⟨hr, h1, hv1, hu1⟩ := hp
  subst hu1
  subst hr
  have hP : kp g [X4W g oF (kFr oC oS oH oR oT oB) vF, X0W g oC rC ((X4_oath_f vF vC aC vH aH vR aR).2.2.1) ((X4_oath_f vF vC aC vH aH vR aR).2.2.2.1), X0W g oS rS vS aS, X2W g oH rH ((X4_oath_f vF vC aC vH aH vR aR).2.2.2.2.1) oQ rQ ((X4_oath_f vF vC aC vH aH vR aR).2.2.2.2.2.1), X3W g oR rR ((X4_oath_f vF vC aC vH aH vR aR).2.2.2.2.2.2) aR, X1W g oT rT vT aT, JOW oB q ml (nI k), JAW g q n f, X5W g oM rM vM aM, OLW g oL h1, ODW g oD fD] H := hP.pick [6, 7, 0, 8, 9, 1, 2, 3, 4, 10, 5] rfl
  have hD : kd (kAh s) [X4W g oF (kFr oC oS oH oR oT oB) vF, X0W g oC rC ((X4_oath_f vF vC aC vH aH vR aR).2.2.1) ((X4_oath_f vF vC aC vH aH vR aR).2.2.2.1), X0W g oS rS vS aS, X2W g oH rH ((X4_oath_f vF vC aC vH aH vR aR).2.2.2.2.1) oQ rQ ((X4_oath_f vF vC aC vH aH vR aR).2.2.2.2.2.1), X3W g oR rR ((X4_oath_f vF vC aC vH aH vR aR).2.2.2.2.2.2) aR, X1W g oT rT vT aT, JOW oB q ml (nI k), JAW g q n f, X5W g oM rM vM aM, OLW g oL h1, ODW g oD fD] := hD.pick [6, 7, 0, 8, 9, 1, 2, 3, 4, 10, 5] rfl rfl
  refine lv_istore (lv' := [(6, .int (kLk1 ((X4_oath_f vF vC aC vH aH vR aR).1))), (5, .int (nI i)), (0, .ref b), (1, .ref oF), (2, .ref oM), (3, .ref oL), (4, .ref oD)]) hx hb dL_law_713 hl (by decide) rfl (fun ls hl => ?_)
  refine lv_aload_n hx hb dL_law_715 rfl (lv_at hl 4 rfl) ?_
  refine kM_V (As := []) (rest := []) (wr := [X4W g oF (kFr oC oS oH oR oT oB) vF, X0W g oC rC ((X4_oath_f vF vC aC vH aH vR aR).2.2.1) ((X4_oath_f vF vC aC vH aH vR aR).2.2.2.1), X0W g oS rS vS aS, X2W g oH rH ((X4_oath_f vF vC aC vH aH vR aR).2.2.2.2.1) oQ rQ ((X4_oath_f vF vC aC vH aH vR aR).2.2.2.2.2.1), X3W g oR rR ((X4_oath_f vF vC aC vH aH vR aR).2.2.2.2.2.2) aR, X1W g oT rT vT aT, JOW oB q ml (nI k), JAW g q n f, OLW g oL h1, ODW g oD fD]) C (X5_oath_c l g oM rM vM aM hu hM5) (cwV 0 hts (k_gV kw1659 ca_X5_oath) rfl rfl rfl ⟨rfl, pnX5_oath⟩ ⟨Nat.le_of_ble_eq_true rfl, Nat.le_of_ble_eq_true rfl⟩) hE hS hA hP hD [8] [0, 1, 2, 3, 4, 5, 6, 7, 9, 10] rfl rfl ⟨rfl, rfl, by decide⟩ (k_recv C kFX5 hP (i := 8) (q := 0) rfl rfl) rfl hl.1 rfl rfl dL_law_716 ⟨by show _ ≤ 605484; omega, by show _ ≤ 7191588; omega⟩ (fun r u H locs hp hP hD hS => ?_)
  obtain ⟨hr, hu⟩ := hp
  subst hu
  subst hr
  have hP : kp g [X4W g oF (kFr oC oS oH oR oT oB) vF, X0W g oC rC ((X4_oath_f vF vC aC vH aH vR aR).2.2.1) ((X4_oath_f vF vC aC vH aH vR aR).2.2.2.1), X0W g oS rS vS aS, X2W g oH rH ((X4_oath_f vF vC aC vH aH vR aR).2.2.2.2.1) oQ rQ ((X4_oath_f vF vC aC vH aH vR aR).2.2.2.2.2.1), X3W g oR rR ((X4_oath_f vF vC aC vH aH vR aR).2.2.2.2.2.2) aR, X1W g oT rT vT aT, JOW oB q ml (nI k), JAW g q n f, X5W g oM rM ((X5_oath_f vM aM).2.1) ((X5_oath_f vM aM).2.2), OLW g oL h1, ODW g oD fD] H := hP.pick [0, 1, 2, 3, 4, 5, 6, 7, 10, 8, 9] rfl
  have hD : kd (kAh s) [X4W g oF (kFr oC oS oH oR oT oB) vF, X0W g oC rC ((X4_oath_f vF vC aC vH aH vR aR).2.2.1) ((X4_oath_f vF vC aC vH aH vR aR).2.2.2.1), X0W g oS rS vS aS, X2W g oH rH ((X4_oath_f vF vC aC vH aH vR aR).2.2.2.2.1) oQ rQ ((X4_oath_f vF vC aC vH aH vR aR).2.2.2.2.2.1), X3W g oR rR ((X4_oath_f vF vC aC vH aH vR aR).2.2.2.2.2.2) aR, X1W g oT rT vT aT, JOW oB q ml (nI k), JAW g q n f, X5W g oM rM ((X5_oath_f vM aM).2.1) ((X5_oath_f vM aM).2.2), OLW g oL h1, ODW g oD fD] := hD.pick [0, 1, 2, 3, 4, 5, 6, 7, 10, 8, 9] rfl rfl
  refine lv_istore (lv' := [(7, .int ((X5_oath_f vM aM).1)), (6, .int (kLk1 ((X4_oath_f vF vC aC vH aH vR aR).1))), (5, .int (nI i)), (0, .ref b), (1, .ref oF), (2, .ref oM), (3, .ref oL), (4, .ref oD)]) hx hb dL_law_719 hl (by decide) rfl (fun ls hl => ?_)
  refine lv_aload_n hx hb dL_law_721 rfl (lv_at hl 5 rfl) ?_
  refine kR_V (As := []) (rest := []) C (X5_thrown_c l g oM rM ((X5_oath_f vM aM).2.1) ((X5_oath_f vM aM).2.2)) (cwV 0 hts (k_gV kw1513 ca_X5_thrown) rfl rfl rfl ⟨rfl, pnX5_thrown⟩ ⟨Nat.le_of_ble_eq_true rfl, Nat.le_of_ble_eq_true rfl⟩) hE hS (hP.pick [8] rfl) (k_recv C kFX5 hP (i := 8) (q := 0) rfl rfl) rfl hl.1 rfl rfl dL_law_722 ⟨by show _ ≤ 605484; omega, by show _ ≤ 7191588; omega⟩ ?_
  refine lv_iload hx hb dL_law_725 (lv_at hl 1 rfl) ?_
  refine lv_icmp_eq (tgt := 732) hx hb dL_law_727 (by decide) (fun z => ?_) (fun z => absurd hs.1 z)
  have fin : W p l e room_1 s m #[Value.ref b] below meth c H locs (cells + 1 + 0) (slots + 6 + 0) (lw_Z below #[Value.ref b] s) (F0 m 749 ls []) := by
    refine lv_goto (tgt := 2358) hx hb dL_law_749 (by decide) ?_
    exact ih _ _ _ _ _ _ _ _ _ _ _ _ _ _ _ _ _ _ _ _ H locs ls _ _ hs.2.2 hT hP hD hS (lv_sub hl [2, 3, 4, 5, 6, 7] rfl) (by omega) (by omega)
  refine lv_iload hx hb dL_law_732 (lv_at hl 1 rfl) ?_
  by_cases hc0 : kLk1 ((X4_oath_f vF vC aC vH aH vR aR).1) = 0
  rotate_left
  · refine lv_if_ne (tgt := 749) hx hb dL_law_734 (by decide) (fun z => fin) (fun z => absurd z hc0)
  refine lv_if_ne (tgt := 749) hx hb dL_law_734 (by decide) (fun z => absurd hc0 z) (fun z => ?_)
  have hc1 := kLk1_0 hc0
  refine lv_aload_n hx hb dL_law_737 rfl (lv_at hl 6 rfl) ?_
  refine lv_iconst (v := 0) hx hb dL_law_738 (by decide) ?_
  refine kg_lald C hP (i := 9) rfl dL_law_739 ?_
  refine lv_iload hx hb dL_law_740 (lv_at hl 0 rfl) ?_
  refine lv_i2l hx hb dL_law_742 rfl ?_
  refine W.lcmp hx hb dL_law_743 ?_
  rw [k_lcmp0 ((hv1 hc1).trans (congrArg Int32.toInt64 (hs.2.1 hc1).symm))]
  refine lv_if_eq (tgt := 749) hx hb dL_law_744 (by decide) (fun z => fin) (fun z => absurd rfl z)
set_option maxHeartbeats 4000000 in
theorem LC_go (l : Launch) (hfl : l.stackTraces = false) {p : Program} {e : Env} {s : State} {m : MethodId} {below : List Frame} {meth : Method} {c : Code} {b L : Nat} {xs : Nat → Int32} {g : kG} (oF oC oS oH oR oT oB oM oL oD : Nat) (rC rS rH rR rT rM : Nat → Nat) (oQ : Nat → Nat) (rQ : Nat → Nat → Nat) (aR : Nat → Nat → Int32) {N i cells slots : Nat} (C : kC p c code s m #[Value.ref b] meth RL g 9 ret) (hE : kE g (kAh s) s s.heap) (hNc : kNc s) (hX : va_X b L xs s s.heap) (hbl : b < s.heap.size) (hL : L ≤ 2048) (hi : i + 4 ≤ L) (hN : N < 90000) (hcb : cells + 40 ≤ 605484) (hsb : slots + 2000 ≤ 7191588)
    (ih : kNext l p e s m below meth c b g oF oC oS oH oR oT oB oM oL oD rC rS rH rR rT rM oQ rQ aR i N cells slots) (vF : Nat → Int32) (vC : Nat → Int32) (aC : Nat → Nat → Int32) (vS : Nat → Int32) (aS : Nat → Nat → Int32) (vH : Nat → Int32) (aH : Nat → (Nat → Int32) × (Nat → Nat → Int32)) (vR : Nat → Int32) (vT : Nat → Int32) (aT : Nat → Nat → Int32) (q n : Nat) (ml : Int32) (f : Nat → Int32) (t : Nat → Nat) (k : Nat) (vM : Nat → Int32) (aM : Nat → Nat → Int32) (fL : Nat → Int64) (fD : Nat → UInt64) (H : Heap) (locs : List Loc) (ls : Array Slot) (hR : kRel N vF vC aC vS aS vH aH vR vT aT t k vM aM) (hT : ((n = 16 ∨ n = 34) ∧ k ≤ n ∧ sb_Fit f ∧ sb_Lat t k f)) (hP : kp g [X4W g oF (kFr oC oS oH oR oT oB) vF, X0W g oC rC vC aC, X0W g oS rS vS aS, X2W g oH rH vH oQ rQ aH, X3W g oR rR vR aR, X1W g oT rT vT aT, JOW oB q ml (nI k), JAW g q n f, X5W g oM rM vM aM, OLW g oL fL, ODW g oD fD] H) (hD : kd (kAh s) [X4W g oF (kFr oC oS oH oR oT oB) vF, X0W g oC rC vC aC, X0W g oS rS vS aS, X2W g oH rH vH oQ rQ aH, X3W g oR rR vR aR, X1W g oT rT vT aT, JOW oB q ml (nI k), JAW g q n f, X5W g oM rM vM aM, OLW g oL fL, ODW g oD fD]) (hS : va_S (kAh s) s.heap H locs) (hl : lv_has ls 9 (kLb i b oF oM oL oD)) :
    W p l e room_1 s m #[Value.ref b] below meth c H locs cells slots (lw_Z below #[Value.ref b] s) (F0 m 752 ls []) := by
  have hA : ∀ q, s.heap.size ≤ q → kAh s q := fun q h => h
  have hx := C.1.1
  have hb := C.1.2.1
  have hts := C.1.2.2.2.2
  obtain ⟨⟨nb, nj, hnb, hv7, hnj, hv4, hb5, hj5⟩, hM, hM5, hh, hu, hL1, hL9, hch, hl40, h87, hI⟩ := kRel_hyp (by omega) hR
  refine lv_aload_n hx hb dL_law_752 rfl (lv_at hl 2 rfl) ?_
  refine lv_aload_n hx hb dL_law_753 rfl (lv_at hl 1 rfl) ?_
  refine lv_iload hx hb dL_law_754 (lv_at hl 0 rfl) ?_
  refine lv_iconst (v := 1) hx hb dL_law_756 (by decide) ?_
  refine lv_iadd hx hb dL_law_757 ?_
  refine kg_script (j := 1) C hX hbl hS (by omega) hL dL_law_758 ?_
  refine lv_aload_n hx hb dL_law_759 rfl (lv_at hl 4 rfl) ?_
  have hs := kS_go (aR := aR) (by omega) hR (xs (i + 1))
  refine kL_S (As := [.ref oF, .int (xs (i + 1)), .ref oL]) (rest := []) (wr := [X0W g oS rS vS aS, X1W g oT rT vT aT, JOW oB q ml (nI k), JAW g q n f, X5W g oM rM vM aM, ODW g oD fD]) C (L_go_c l g oF vF oS oT oB oC rC vC aC oH rH vH oQ rQ aH oR rR vR aR (xs (i + 1)) nb nj hnb hv7 hnj hv4 hM hh hfl oL fL kK_go) hNc (vx_cwSW 3 hts (k_gS kw722 cs_L_go) rfl rfl rfl pnL_go ⟨Nat.le_of_ble_eq_true rfl, Nat.le_of_ble_eq_true rfl⟩) hE hS hA hP hD [0, 1, 3, 4, 9] [2, 5, 6, 7, 8, 10] rfl rfl ⟨rfl, rfl, by decide⟩ rfl hl.1 rfl rfl dL_law_760 ⟨by show _ ≤ 605484; omega, by show _ ≤ 7191588; omega⟩ (fun r u H locs hp hP hD hS => ?_)
  obtain ⟨hr, h1, hv1, hu1⟩ := hp
  subst hu1
  subst hr
  have hP : kp g [X4W g oF (kFr oC oS oH oR oT oB) vF, X0W g oC rC ((X4_go_f vF vC aC vH aH vR aR (xs (i + 1))).2.2.1) ((X4_go_f vF vC aC vH aH vR aR (xs (i + 1))).2.2.2.1), X0W g oS rS vS aS, X2W g oH rH ((X4_go_f vF vC aC vH aH vR aR (xs (i + 1))).2.2.2.2.1) oQ rQ ((X4_go_f vF vC aC vH aH vR aR (xs (i + 1))).2.2.2.2.2.1), X3W g oR rR ((X4_go_f vF vC aC vH aH vR aR (xs (i + 1))).2.2.2.2.2.2) aR, X1W g oT rT vT aT, JOW oB q ml (nI k), JAW g q n f, X5W g oM rM vM aM, OLW g oL h1, ODW g oD fD] H := hP.pick [6, 7, 0, 8, 9, 1, 2, 3, 4, 10, 5] rfl
  have hD : kd (kAh s) [X4W g oF (kFr oC oS oH oR oT oB) vF, X0W g oC rC ((X4_go_f vF vC aC vH aH vR aR (xs (i + 1))).2.2.1) ((X4_go_f vF vC aC vH aH vR aR (xs (i + 1))).2.2.2.1), X0W g oS rS vS aS, X2W g oH rH ((X4_go_f vF vC aC vH aH vR aR (xs (i + 1))).2.2.2.2.1) oQ rQ ((X4_go_f vF vC aC vH aH vR aR (xs (i + 1))).2.2.2.2.2.1), X3W g oR rR ((X4_go_f vF vC aC vH aH vR aR (xs (i + 1))).2.2.2.2.2.2) aR, X1W g oT rT vT aT, JOW oB q ml (nI k), JAW g q n f, X5W g oM rM vM aM, OLW g oL h1, ODW g oD fD] := hD.pick [6, 7, 0, 8, 9, 1, 2, 3, 4, 10, 5] rfl rfl
  refine lv_istore (lv' := [(6, .int (kLk1 ((X4_go_f vF vC aC vH aH vR aR (xs (i + 1))).1))), (5, .int (nI i)), (0, .ref b), (1, .ref oF), (2, .ref oM), (3, .ref oL), (4, .ref oD)]) hx hb dL_law_763 hl (by decide) rfl (fun ls hl => ?_)
  refine lv_aload_n hx hb dL_law_765 rfl (lv_at hl 4 rfl) ?_
  refine lv_aload_n hx hb dL_law_766 rfl (lv_at hl 2 rfl) ?_
  refine lv_iload hx hb dL_law_767 (lv_at hl 1 rfl) ?_
  refine lv_iconst (v := 1) hx hb dL_law_769 (by decide) ?_
  refine lv_iadd hx hb dL_law_770 ?_
  refine kg_script (j := 1) C hX hbl hS (by omega) hL dL_law_771 ?_
  refine kM_V (As := [.int (xs (i + 1))]) (rest := []) (wr := [X4W g oF (kFr oC oS oH oR oT oB) vF, X0W g oC rC ((X4_go_f vF vC aC vH aH vR aR (xs (i + 1))).2.2.1) ((X4_go_f vF vC aC vH aH vR aR (xs (i + 1))).2.2.2.1), X0W g oS rS vS aS, X2W g oH rH ((X4_go_f vF vC aC vH aH vR aR (xs (i + 1))).2.2.2.2.1) oQ rQ ((X4_go_f vF vC aC vH aH vR aR (xs (i + 1))).2.2.2.2.2.1), X3W g oR rR ((X4_go_f vF vC aC vH aH vR aR (xs (i + 1))).2.2.2.2.2.2) aR, X1W g oT rT vT aT, JOW oB q ml (nI k), JAW g q n f, OLW g oL h1, ODW g oD fD]) C (X5_go_c l g oM rM vM aM (xs (i + 1)) hu ⟨nb, hnb, hb5⟩ hM5) (cwV 1 hts (k_gV kw1667 ca_X5_go) rfl rfl rfl ⟨rfl, pnX5_go⟩ ⟨Nat.le_of_ble_eq_true rfl, Nat.le_of_ble_eq_true rfl⟩) hE hS hA hP hD [8] [0, 1, 2, 3, 4, 5, 6, 7, 9, 10] rfl rfl ⟨rfl, rfl, by decide⟩ (k_recv C kFX5 hP (i := 8) (q := 0) rfl rfl) rfl hl.1 rfl rfl dL_law_772 ⟨by show _ ≤ 605484; omega, by show _ ≤ 7191588; omega⟩ (fun r u H locs hp hP hD hS => ?_)
  obtain ⟨hr, hu⟩ := hp
  subst hu
  subst hr
  have hP : kp g [X4W g oF (kFr oC oS oH oR oT oB) vF, X0W g oC rC ((X4_go_f vF vC aC vH aH vR aR (xs (i + 1))).2.2.1) ((X4_go_f vF vC aC vH aH vR aR (xs (i + 1))).2.2.2.1), X0W g oS rS vS aS, X2W g oH rH ((X4_go_f vF vC aC vH aH vR aR (xs (i + 1))).2.2.2.2.1) oQ rQ ((X4_go_f vF vC aC vH aH vR aR (xs (i + 1))).2.2.2.2.2.1), X3W g oR rR ((X4_go_f vF vC aC vH aH vR aR (xs (i + 1))).2.2.2.2.2.2) aR, X1W g oT rT vT aT, JOW oB q ml (nI k), JAW g q n f, X5W g oM rM ((X5_go_f vM aM (xs (i + 1))).2.1) ((X5_go_f vM aM (xs (i + 1))).2.2), OLW g oL h1, ODW g oD fD] H := hP.pick [0, 1, 2, 3, 4, 5, 6, 7, 10, 8, 9] rfl
  have hD : kd (kAh s) [X4W g oF (kFr oC oS oH oR oT oB) vF, X0W g oC rC ((X4_go_f vF vC aC vH aH vR aR (xs (i + 1))).2.2.1) ((X4_go_f vF vC aC vH aH vR aR (xs (i + 1))).2.2.2.1), X0W g oS rS vS aS, X2W g oH rH ((X4_go_f vF vC aC vH aH vR aR (xs (i + 1))).2.2.2.2.1) oQ rQ ((X4_go_f vF vC aC vH aH vR aR (xs (i + 1))).2.2.2.2.2.1), X3W g oR rR ((X4_go_f vF vC aC vH aH vR aR (xs (i + 1))).2.2.2.2.2.2) aR, X1W g oT rT vT aT, JOW oB q ml (nI k), JAW g q n f, X5W g oM rM ((X5_go_f vM aM (xs (i + 1))).2.1) ((X5_go_f vM aM (xs (i + 1))).2.2), OLW g oL h1, ODW g oD fD] := hD.pick [0, 1, 2, 3, 4, 5, 6, 7, 10, 8, 9] rfl rfl
  refine lv_istore (lv' := [(7, .int ((X5_go_f vM aM (xs (i + 1))).1)), (6, .int (kLk1 ((X4_go_f vF vC aC vH aH vR aR (xs (i + 1))).1))), (5, .int (nI i)), (0, .ref b), (1, .ref oF), (2, .ref oM), (3, .ref oL), (4, .ref oD)]) hx hb dL_law_775 hl (by decide) rfl (fun ls hl => ?_)
  refine lv_aload_n hx hb dL_law_777 rfl (lv_at hl 5 rfl) ?_
  refine kR_V (As := []) (rest := []) C (X5_thrown_c l g oM rM ((X5_go_f vM aM (xs (i + 1))).2.1) ((X5_go_f vM aM (xs (i + 1))).2.2)) (cwV 0 hts (k_gV kw1513 ca_X5_thrown) rfl rfl rfl ⟨rfl, pnX5_thrown⟩ ⟨Nat.le_of_ble_eq_true rfl, Nat.le_of_ble_eq_true rfl⟩) hE hS (hP.pick [8] rfl) (k_recv C kFX5 hP (i := 8) (q := 0) rfl rfl) rfl hl.1 rfl rfl dL_law_778 ⟨by show _ ≤ 605484; omega, by show _ ≤ 7191588; omega⟩ ?_
  refine lv_iload hx hb dL_law_781 (lv_at hl 1 rfl) ?_
  refine lv_icmp_eq (tgt := 788) hx hb dL_law_783 (by decide) (fun z => ?_) (fun z => absurd hs.1 z)
  have fin : W p l e room_1 s m #[Value.ref b] below meth c H locs (cells + 1 + 0) (slots + 6 + 0) (lw_Z below #[Value.ref b] s) (F0 m 805 ls []) := by
    refine lv_goto (tgt := 2358) hx hb dL_law_805 (by decide) ?_
    exact ih _ _ _ _ _ _ _ _ _ _ _ _ _ _ _ _ _ _ _ _ H locs ls _ _ hs.2.2 hT hP hD hS (lv_sub hl [2, 3, 4, 5, 6, 7] rfl) (by omega) (by omega)
  refine lv_iload hx hb dL_law_788 (lv_at hl 1 rfl) ?_
  by_cases hc0 : kLk1 ((X4_go_f vF vC aC vH aH vR aR (xs (i + 1))).1) = 0
  rotate_left
  · refine lv_if_ne (tgt := 805) hx hb dL_law_790 (by decide) (fun z => fin) (fun z => absurd z hc0)
  refine lv_if_ne (tgt := 805) hx hb dL_law_790 (by decide) (fun z => absurd hc0 z) (fun z => ?_)
  have hc1 := kLk1_0 hc0
  refine lv_aload_n hx hb dL_law_793 rfl (lv_at hl 6 rfl) ?_
  refine lv_iconst (v := 0) hx hb dL_law_794 (by decide) ?_
  refine kg_lald C hP (i := 9) rfl dL_law_795 ?_
  refine lv_iload hx hb dL_law_796 (lv_at hl 0 rfl) ?_
  refine lv_i2l hx hb dL_law_798 rfl ?_
  refine W.lcmp hx hb dL_law_799 ?_
  rw [k_lcmp0 ((hv1 hc1).trans (congrArg Int32.toInt64 (hs.2.1 hc1).symm))]
  refine lv_if_eq (tgt := 805) hx hb dL_law_800 (by decide) (fun z => fin) (fun z => absurd rfl z)
set_option maxHeartbeats 4000000 in
theorem LC_seal (l : Launch) (hfl : l.stackTraces = false) {p : Program} {e : Env} {s : State} {m : MethodId} {below : List Frame} {meth : Method} {c : Code} {b L : Nat} {xs : Nat → Int32} {g : kG} (oF oC oS oH oR oT oB oM oL oD : Nat) (rC rS rH rR rT rM : Nat → Nat) (oQ : Nat → Nat) (rQ : Nat → Nat → Nat) (aR : Nat → Nat → Int32) {N i cells slots : Nat} (C : kC p c code s m #[Value.ref b] meth RL g 9 ret) (hE : kE g (kAh s) s s.heap) (hNc : kNc s) (hX : va_X b L xs s s.heap) (hbl : b < s.heap.size) (hL : L ≤ 2048) (hi : i + 4 ≤ L) (hN : N < 90000) (hcb : cells + 40 ≤ 605484) (hsb : slots + 2000 ≤ 7191588)
    (ih : kNext l p e s m below meth c b g oF oC oS oH oR oT oB oM oL oD rC rS rH rR rT rM oQ rQ aR i N cells slots) (vF : Nat → Int32) (vC : Nat → Int32) (aC : Nat → Nat → Int32) (vS : Nat → Int32) (aS : Nat → Nat → Int32) (vH : Nat → Int32) (aH : Nat → (Nat → Int32) × (Nat → Nat → Int32)) (vR : Nat → Int32) (vT : Nat → Int32) (aT : Nat → Nat → Int32) (q n : Nat) (ml : Int32) (f : Nat → Int32) (t : Nat → Nat) (k : Nat) (vM : Nat → Int32) (aM : Nat → Nat → Int32) (fL : Nat → Int64) (fD : Nat → UInt64) (H : Heap) (locs : List Loc) (ls : Array Slot) (hR : kRel N vF vC aC vS aS vH aH vR vT aT t k vM aM) (hT : ((n = 16 ∨ n = 34) ∧ k ≤ n ∧ sb_Fit f ∧ sb_Lat t k f)) (hP : kp g [X4W g oF (kFr oC oS oH oR oT oB) vF, X0W g oC rC vC aC, X0W g oS rS vS aS, X2W g oH rH vH oQ rQ aH, X3W g oR rR vR aR, X1W g oT rT vT aT, JOW oB q ml (nI k), JAW g q n f, X5W g oM rM vM aM, OLW g oL fL, ODW g oD fD] H) (hD : kd (kAh s) [X4W g oF (kFr oC oS oH oR oT oB) vF, X0W g oC rC vC aC, X0W g oS rS vS aS, X2W g oH rH vH oQ rQ aH, X3W g oR rR vR aR, X1W g oT rT vT aT, JOW oB q ml (nI k), JAW g q n f, X5W g oM rM vM aM, OLW g oL fL, ODW g oD fD]) (hS : va_S (kAh s) s.heap H locs) (hl : lv_has ls 9 (kLb i b oF oM oL oD)) :
    W p l e room_1 s m #[Value.ref b] below meth c H locs cells slots (lw_Z below #[Value.ref b] s) (F0 m 808 ls []) := by
  have hA : ∀ q, s.heap.size ≤ q → kAh s q := fun q h => h
  have hx := C.1.1
  have hb := C.1.2.1
  have hts := C.1.2.2.2.2
  obtain ⟨⟨nb, nj, hnb, hv7, hnj, hv4, hb5, hj5⟩, hM, hM5, hh, hu, hL1, hL9, hch, hl40, h87, hI⟩ := kRel_hyp (by omega) hR
  refine lv_aload_n hx hb dL_law_808 rfl (lv_at hl 2 rfl) ?_
  refine lv_aload_n hx hb dL_law_809 rfl (lv_at hl 1 rfl) ?_
  refine lv_iload hx hb dL_law_810 (lv_at hl 0 rfl) ?_
  refine lv_iconst (v := 1) hx hb dL_law_812 (by decide) ?_
  refine lv_iadd hx hb dL_law_813 ?_
  refine kg_script (j := 1) C hX hbl hS (by omega) hL dL_law_814 ?_
  refine lv_aload_n hx hb dL_law_815 rfl (lv_at hl 4 rfl) ?_
  have hs := kS_seal (aR := aR) (by omega) hR (xs (i + 1))
  refine kL_S (As := [.ref oF, .int (xs (i + 1)), .ref oL]) (rest := []) (wr := [X0W g oS rS vS aS, X1W g oT rT vT aT, JOW oB q ml (nI k), JAW g q n f, X5W g oM rM vM aM, ODW g oD fD]) C (L_seal_c l g oF vF oS oT oB oC rC vC aC oH rH vH oQ rQ aH oR rR vR aR (xs (i + 1)) nb nj hnb hv7 hnj hv4 hM hh hfl oL fL kK_seal) hNc (vx_cwSW 3 hts (k_gS kw729 cs_L_seal) rfl rfl rfl pnL_seal ⟨Nat.le_of_ble_eq_true rfl, Nat.le_of_ble_eq_true rfl⟩) hE hS hA hP hD [0, 1, 3, 4, 9] [2, 5, 6, 7, 8, 10] rfl rfl ⟨rfl, rfl, by decide⟩ rfl hl.1 rfl rfl dL_law_816 ⟨by show _ ≤ 605484; omega, by show _ ≤ 7191588; omega⟩ (fun r u H locs hp hP hD hS => ?_)
  obtain ⟨hr, h1, hv1, hu1⟩ := hp
  subst hu1
  subst hr
  have hP : kp g [X4W g oF (kFr oC oS oH oR oT oB) vF, X0W g oC rC ((X4_seal_f vF vC aC vH aH vR aR (xs (i + 1))).2.2.1) ((X4_seal_f vF vC aC vH aH vR aR (xs (i + 1))).2.2.2.1), X0W g oS rS vS aS, X2W g oH rH ((X4_seal_f vF vC aC vH aH vR aR (xs (i + 1))).2.2.2.2.1) oQ rQ ((X4_seal_f vF vC aC vH aH vR aR (xs (i + 1))).2.2.2.2.2.1), X3W g oR rR ((X4_seal_f vF vC aC vH aH vR aR (xs (i + 1))).2.2.2.2.2.2) aR, X1W g oT rT vT aT, JOW oB q ml (nI k), JAW g q n f, X5W g oM rM vM aM, OLW g oL h1, ODW g oD fD] H := hP.pick [6, 7, 0, 8, 9, 1, 2, 3, 4, 10, 5] rfl
  have hD : kd (kAh s) [X4W g oF (kFr oC oS oH oR oT oB) vF, X0W g oC rC ((X4_seal_f vF vC aC vH aH vR aR (xs (i + 1))).2.2.1) ((X4_seal_f vF vC aC vH aH vR aR (xs (i + 1))).2.2.2.1), X0W g oS rS vS aS, X2W g oH rH ((X4_seal_f vF vC aC vH aH vR aR (xs (i + 1))).2.2.2.2.1) oQ rQ ((X4_seal_f vF vC aC vH aH vR aR (xs (i + 1))).2.2.2.2.2.1), X3W g oR rR ((X4_seal_f vF vC aC vH aH vR aR (xs (i + 1))).2.2.2.2.2.2) aR, X1W g oT rT vT aT, JOW oB q ml (nI k), JAW g q n f, X5W g oM rM vM aM, OLW g oL h1, ODW g oD fD] := hD.pick [6, 7, 0, 8, 9, 1, 2, 3, 4, 10, 5] rfl rfl
  refine lv_istore (lv' := [(6, .int (kLk1 ((X4_seal_f vF vC aC vH aH vR aR (xs (i + 1))).1))), (5, .int (nI i)), (0, .ref b), (1, .ref oF), (2, .ref oM), (3, .ref oL), (4, .ref oD)]) hx hb dL_law_819 hl (by decide) rfl (fun ls hl => ?_)
  refine lv_aload_n hx hb dL_law_821 rfl (lv_at hl 4 rfl) ?_
  refine lv_aload_n hx hb dL_law_822 rfl (lv_at hl 2 rfl) ?_
  refine lv_iload hx hb dL_law_823 (lv_at hl 1 rfl) ?_
  refine lv_iconst (v := 1) hx hb dL_law_825 (by decide) ?_
  refine lv_iadd hx hb dL_law_826 ?_
  refine kg_script (j := 1) C hX hbl hS (by omega) hL dL_law_827 ?_
  refine kM_V (As := [.int (xs (i + 1))]) (rest := []) (wr := [X4W g oF (kFr oC oS oH oR oT oB) vF, X0W g oC rC ((X4_seal_f vF vC aC vH aH vR aR (xs (i + 1))).2.2.1) ((X4_seal_f vF vC aC vH aH vR aR (xs (i + 1))).2.2.2.1), X0W g oS rS vS aS, X2W g oH rH ((X4_seal_f vF vC aC vH aH vR aR (xs (i + 1))).2.2.2.2.1) oQ rQ ((X4_seal_f vF vC aC vH aH vR aR (xs (i + 1))).2.2.2.2.2.1), X3W g oR rR ((X4_seal_f vF vC aC vH aH vR aR (xs (i + 1))).2.2.2.2.2.2) aR, X1W g oT rT vT aT, JOW oB q ml (nI k), JAW g q n f, OLW g oL h1, ODW g oD fD]) C (X5_seal_c l g oM rM vM aM (xs (i + 1)) hu) (cwV 1 hts (k_gV kw1686 ca_X5_seal) rfl rfl rfl ⟨rfl, pnX5_seal⟩ ⟨Nat.le_of_ble_eq_true rfl, Nat.le_of_ble_eq_true rfl⟩) hE hS hA hP hD [8] [0, 1, 2, 3, 4, 5, 6, 7, 9, 10] rfl rfl ⟨rfl, rfl, by decide⟩ (k_recv C kFX5 hP (i := 8) (q := 0) rfl rfl) rfl hl.1 rfl rfl dL_law_828 ⟨by show _ ≤ 605484; omega, by show _ ≤ 7191588; omega⟩ (fun r u H locs hp hP hD hS => ?_)
  obtain ⟨hr, hu⟩ := hp
  subst hu
  subst hr
  have hP : kp g [X4W g oF (kFr oC oS oH oR oT oB) vF, X0W g oC rC ((X4_seal_f vF vC aC vH aH vR aR (xs (i + 1))).2.2.1) ((X4_seal_f vF vC aC vH aH vR aR (xs (i + 1))).2.2.2.1), X0W g oS rS vS aS, X2W g oH rH ((X4_seal_f vF vC aC vH aH vR aR (xs (i + 1))).2.2.2.2.1) oQ rQ ((X4_seal_f vF vC aC vH aH vR aR (xs (i + 1))).2.2.2.2.2.1), X3W g oR rR ((X4_seal_f vF vC aC vH aH vR aR (xs (i + 1))).2.2.2.2.2.2) aR, X1W g oT rT vT aT, JOW oB q ml (nI k), JAW g q n f, X5W g oM rM ((X5_seal_f vM aM (xs (i + 1))).2.1) ((X5_seal_f vM aM (xs (i + 1))).2.2), OLW g oL h1, ODW g oD fD] H := hP.pick [0, 1, 2, 3, 4, 5, 6, 7, 10, 8, 9] rfl
  have hD : kd (kAh s) [X4W g oF (kFr oC oS oH oR oT oB) vF, X0W g oC rC ((X4_seal_f vF vC aC vH aH vR aR (xs (i + 1))).2.2.1) ((X4_seal_f vF vC aC vH aH vR aR (xs (i + 1))).2.2.2.1), X0W g oS rS vS aS, X2W g oH rH ((X4_seal_f vF vC aC vH aH vR aR (xs (i + 1))).2.2.2.2.1) oQ rQ ((X4_seal_f vF vC aC vH aH vR aR (xs (i + 1))).2.2.2.2.2.1), X3W g oR rR ((X4_seal_f vF vC aC vH aH vR aR (xs (i + 1))).2.2.2.2.2.2) aR, X1W g oT rT vT aT, JOW oB q ml (nI k), JAW g q n f, X5W g oM rM ((X5_seal_f vM aM (xs (i + 1))).2.1) ((X5_seal_f vM aM (xs (i + 1))).2.2), OLW g oL h1, ODW g oD fD] := hD.pick [0, 1, 2, 3, 4, 5, 6, 7, 10, 8, 9] rfl rfl
  refine lv_istore (lv' := [(7, .int ((X5_seal_f vM aM (xs (i + 1))).1)), (6, .int (kLk1 ((X4_seal_f vF vC aC vH aH vR aR (xs (i + 1))).1))), (5, .int (nI i)), (0, .ref b), (1, .ref oF), (2, .ref oM), (3, .ref oL), (4, .ref oD)]) hx hb dL_law_831 hl (by decide) rfl (fun ls hl => ?_)
  refine lv_aload_n hx hb dL_law_833 rfl (lv_at hl 5 rfl) ?_
  refine kR_V (As := []) (rest := []) C (X5_thrown_c l g oM rM ((X5_seal_f vM aM (xs (i + 1))).2.1) ((X5_seal_f vM aM (xs (i + 1))).2.2)) (cwV 0 hts (k_gV kw1513 ca_X5_thrown) rfl rfl rfl ⟨rfl, pnX5_thrown⟩ ⟨Nat.le_of_ble_eq_true rfl, Nat.le_of_ble_eq_true rfl⟩) hE hS (hP.pick [8] rfl) (k_recv C kFX5 hP (i := 8) (q := 0) rfl rfl) rfl hl.1 rfl rfl dL_law_834 ⟨by show _ ≤ 605484; omega, by show _ ≤ 7191588; omega⟩ ?_
  refine lv_iload hx hb dL_law_837 (lv_at hl 1 rfl) ?_
  refine lv_icmp_eq (tgt := 844) hx hb dL_law_839 (by decide) (fun z => ?_) (fun z => absurd hs.1 z)
  have fin : W p l e room_1 s m #[Value.ref b] below meth c H locs (cells + 1 + 0) (slots + 6 + 0) (lw_Z below #[Value.ref b] s) (F0 m 861 ls []) := by
    refine lv_goto (tgt := 2358) hx hb dL_law_861 (by decide) ?_
    exact ih _ _ _ _ _ _ _ _ _ _ _ _ _ _ _ _ _ _ _ _ H locs ls _ _ hs.2.2 hT hP hD hS (lv_sub hl [2, 3, 4, 5, 6, 7] rfl) (by omega) (by omega)
  refine lv_iload hx hb dL_law_844 (lv_at hl 1 rfl) ?_
  by_cases hc0 : kLk1 ((X4_seal_f vF vC aC vH aH vR aR (xs (i + 1))).1) = 0
  rotate_left
  · refine lv_if_ne (tgt := 861) hx hb dL_law_846 (by decide) (fun z => fin) (fun z => absurd z hc0)
  refine lv_if_ne (tgt := 861) hx hb dL_law_846 (by decide) (fun z => absurd hc0 z) (fun z => ?_)
  have hc1 := kLk1_0 hc0
  refine lv_aload_n hx hb dL_law_849 rfl (lv_at hl 6 rfl) ?_
  refine lv_iconst (v := 0) hx hb dL_law_850 (by decide) ?_
  refine kg_lald C hP (i := 9) rfl dL_law_851 ?_
  refine lv_iload hx hb dL_law_852 (lv_at hl 0 rfl) ?_
  refine lv_i2l hx hb dL_law_854 rfl ?_
  refine W.lcmp hx hb dL_law_855 ?_
  rw [k_lcmp0 ((hv1 hc1).trans (congrArg Int32.toInt64 (hs.2.1 hc1).symm))]
  refine lv_if_eq (tgt := 861) hx hb dL_law_856 (by decide) (fun z => fin) (fun z => absurd rfl z)
set_option maxHeartbeats 4000000 in
theorem LC_days (l : Launch) (hfl : l.stackTraces = false) {p : Program} {e : Env} {s : State} {m : MethodId} {below : List Frame} {meth : Method} {c : Code} {b L : Nat} {xs : Nat → Int32} {g : kG} (oF oC oS oH oR oT oB oM oL oD : Nat) (rC rS rH rR rT rM : Nat → Nat) (oQ : Nat → Nat) (rQ : Nat → Nat → Nat) (aR : Nat → Nat → Int32) {N i cells slots : Nat} (C : kC p c code s m #[Value.ref b] meth RL g 9 ret) (hE : kE g (kAh s) s s.heap) (hNc : kNc s) (hX : va_X b L xs s s.heap) (hbl : b < s.heap.size) (hL : L ≤ 2048) (hi : i + 4 ≤ L) (hN : N < 90000) (hcb : cells + 40 ≤ 605484) (hsb : slots + 2000 ≤ 7191588)
    (ih : kNext l p e s m below meth c b g oF oC oS oH oR oT oB oM oL oD rC rS rH rR rT rM oQ rQ aR i N cells slots) (vF : Nat → Int32) (vC : Nat → Int32) (aC : Nat → Nat → Int32) (vS : Nat → Int32) (aS : Nat → Nat → Int32) (vH : Nat → Int32) (aH : Nat → (Nat → Int32) × (Nat → Nat → Int32)) (vR : Nat → Int32) (vT : Nat → Int32) (aT : Nat → Nat → Int32) (q n : Nat) (ml : Int32) (f : Nat → Int32) (t : Nat → Nat) (k : Nat) (vM : Nat → Int32) (aM : Nat → Nat → Int32) (fL : Nat → Int64) (fD : Nat → UInt64) (H : Heap) (locs : List Loc) (ls : Array Slot) (hR : kRel N vF vC aC vS aS vH aH vR vT aT t k vM aM) (hT : ((n = 16 ∨ n = 34) ∧ k ≤ n ∧ sb_Fit f ∧ sb_Lat t k f)) (hP : kp g [X4W g oF (kFr oC oS oH oR oT oB) vF, X0W g oC rC vC aC, X0W g oS rS vS aS, X2W g oH rH vH oQ rQ aH, X3W g oR rR vR aR, X1W g oT rT vT aT, JOW oB q ml (nI k), JAW g q n f, X5W g oM rM vM aM, OLW g oL fL, ODW g oD fD] H) (hD : kd (kAh s) [X4W g oF (kFr oC oS oH oR oT oB) vF, X0W g oC rC vC aC, X0W g oS rS vS aS, X2W g oH rH vH oQ rQ aH, X3W g oR rR vR aR, X1W g oT rT vT aT, JOW oB q ml (nI k), JAW g q n f, X5W g oM rM vM aM, OLW g oL fL, ODW g oD fD]) (hS : va_S (kAh s) s.heap H locs) (hl : lv_has ls 9 (kLb i b oF oM oL oD)) :
    W p l e room_1 s m #[Value.ref b] below meth c H locs cells slots (lw_Z below #[Value.ref b] s) (F0 m 864 ls []) := by
  have hA : ∀ q, s.heap.size ≤ q → kAh s q := fun q h => h
  have hx := C.1.1
  have hb := C.1.2.1
  have hts := C.1.2.2.2.2
  obtain ⟨⟨nb, nj, hnb, hv7, hnj, hv4, hb5, hj5⟩, hM, hM5, hh, hu, hL1, hL9, hch, hl40, h87, hI⟩ := kRel_hyp (by omega) hR
  refine lv_aload_n hx hb dL_law_864 rfl (lv_at hl 2 rfl) ?_
  refine lv_aload_n hx hb dL_law_865 rfl (lv_at hl 1 rfl) ?_
  refine lv_iload hx hb dL_law_866 (lv_at hl 0 rfl) ?_
  refine lv_iconst (v := 1) hx hb dL_law_868 (by decide) ?_
  refine lv_iadd hx hb dL_law_869 ?_
  refine kg_script (j := 1) C hX hbl hS (by omega) hL dL_law_870 ?_
  refine lv_aload_n hx hb dL_law_871 rfl (lv_at hl 4 rfl) ?_
  have hs := kS_days (aR := aR) (by omega) hR (xs (i + 1))
  refine kL_S (As := [.ref oF, .int (xs (i + 1)), .ref oL]) (rest := []) (wr := [X0W g oS rS vS aS, X1W g oT rT vT aT, JOW oB q ml (nI k), JAW g q n f, X5W g oM rM vM aM, ODW g oD fD]) C (L_days_c l g oF vF oS oT oB oC rC vC aC oH rH vH oQ rQ aH oR rR vR aR (xs (i + 1)) nb nj hnb hv7 hnj hv4 hM hh hfl oL fL kK_days) hNc (vx_cwSW 3 hts (k_gS kw736 cs_L_days) rfl rfl rfl pnL_days ⟨Nat.le_of_ble_eq_true rfl, Nat.le_of_ble_eq_true rfl⟩) hE hS hA hP hD [0, 1, 3, 4, 9] [2, 5, 6, 7, 8, 10] rfl rfl ⟨rfl, rfl, by decide⟩ rfl hl.1 rfl rfl dL_law_872 ⟨by show _ ≤ 605484; omega, by show _ ≤ 7191588; omega⟩ (fun r u H locs hp hP hD hS => ?_)
  obtain ⟨hr, h1, hv1, hu1⟩ := hp
  subst hu1
  subst hr
  have hP : kp g [X4W g oF (kFr oC oS oH oR oT oB) vF, X0W g oC rC ((X4_days_f vF vC aC vH aH vR aR (xs (i + 1))).2.2.1) ((X4_days_f vF vC aC vH aH vR aR (xs (i + 1))).2.2.2.1), X0W g oS rS vS aS, X2W g oH rH ((X4_days_f vF vC aC vH aH vR aR (xs (i + 1))).2.2.2.2.1) oQ rQ ((X4_days_f vF vC aC vH aH vR aR (xs (i + 1))).2.2.2.2.2.1), X3W g oR rR ((X4_days_f vF vC aC vH aH vR aR (xs (i + 1))).2.2.2.2.2.2) aR, X1W g oT rT vT aT, JOW oB q ml (nI k), JAW g q n f, X5W g oM rM vM aM, OLW g oL h1, ODW g oD fD] H := hP.pick [6, 7, 0, 8, 9, 1, 2, 3, 4, 10, 5] rfl
  have hD : kd (kAh s) [X4W g oF (kFr oC oS oH oR oT oB) vF, X0W g oC rC ((X4_days_f vF vC aC vH aH vR aR (xs (i + 1))).2.2.1) ((X4_days_f vF vC aC vH aH vR aR (xs (i + 1))).2.2.2.1), X0W g oS rS vS aS, X2W g oH rH ((X4_days_f vF vC aC vH aH vR aR (xs (i + 1))).2.2.2.2.1) oQ rQ ((X4_days_f vF vC aC vH aH vR aR (xs (i + 1))).2.2.2.2.2.1), X3W g oR rR ((X4_days_f vF vC aC vH aH vR aR (xs (i + 1))).2.2.2.2.2.2) aR, X1W g oT rT vT aT, JOW oB q ml (nI k), JAW g q n f, X5W g oM rM vM aM, OLW g oL h1, ODW g oD fD] := hD.pick [6, 7, 0, 8, 9, 1, 2, 3, 4, 10, 5] rfl rfl
  refine lv_istore (lv' := [(6, .int (kLk1 ((X4_days_f vF vC aC vH aH vR aR (xs (i + 1))).1))), (5, .int (nI i)), (0, .ref b), (1, .ref oF), (2, .ref oM), (3, .ref oL), (4, .ref oD)]) hx hb dL_law_875 hl (by decide) rfl (fun ls hl => ?_)
  refine lv_aload_n hx hb dL_law_877 rfl (lv_at hl 4 rfl) ?_
  refine lv_aload_n hx hb dL_law_878 rfl (lv_at hl 2 rfl) ?_
  refine lv_iload hx hb dL_law_879 (lv_at hl 1 rfl) ?_
  refine lv_iconst (v := 1) hx hb dL_law_881 (by decide) ?_
  refine lv_iadd hx hb dL_law_882 ?_
  refine kg_script (j := 1) C hX hbl hS (by omega) hL dL_law_883 ?_
  refine kM_V (As := [.int (xs (i + 1))]) (rest := []) (wr := [X4W g oF (kFr oC oS oH oR oT oB) vF, X0W g oC rC ((X4_days_f vF vC aC vH aH vR aR (xs (i + 1))).2.2.1) ((X4_days_f vF vC aC vH aH vR aR (xs (i + 1))).2.2.2.1), X0W g oS rS vS aS, X2W g oH rH ((X4_days_f vF vC aC vH aH vR aR (xs (i + 1))).2.2.2.2.1) oQ rQ ((X4_days_f vF vC aC vH aH vR aR (xs (i + 1))).2.2.2.2.2.1), X3W g oR rR ((X4_days_f vF vC aC vH aH vR aR (xs (i + 1))).2.2.2.2.2.2) aR, X1W g oT rT vT aT, JOW oB q ml (nI k), JAW g q n f, OLW g oL h1, ODW g oD fD]) C (X5_days_c l g oM rM vM aM (xs (i + 1)) hu ⟨nb, hnb, hb5⟩) (cwV 1 hts (k_gV kw1697 ca_X5_days) rfl rfl rfl ⟨rfl, pnX5_days⟩ ⟨Nat.le_of_ble_eq_true rfl, Nat.le_of_ble_eq_true rfl⟩) hE hS hA hP hD [8] [0, 1, 2, 3, 4, 5, 6, 7, 9, 10] rfl rfl ⟨rfl, rfl, by decide⟩ (k_recv C kFX5 hP (i := 8) (q := 0) rfl rfl) rfl hl.1 rfl rfl dL_law_884 ⟨by show _ ≤ 605484; omega, by show _ ≤ 7191588; omega⟩ (fun r u H locs hp hP hD hS => ?_)
  obtain ⟨hr, hu⟩ := hp
  subst hu
  subst hr
  have hP : kp g [X4W g oF (kFr oC oS oH oR oT oB) vF, X0W g oC rC ((X4_days_f vF vC aC vH aH vR aR (xs (i + 1))).2.2.1) ((X4_days_f vF vC aC vH aH vR aR (xs (i + 1))).2.2.2.1), X0W g oS rS vS aS, X2W g oH rH ((X4_days_f vF vC aC vH aH vR aR (xs (i + 1))).2.2.2.2.1) oQ rQ ((X4_days_f vF vC aC vH aH vR aR (xs (i + 1))).2.2.2.2.2.1), X3W g oR rR ((X4_days_f vF vC aC vH aH vR aR (xs (i + 1))).2.2.2.2.2.2) aR, X1W g oT rT vT aT, JOW oB q ml (nI k), JAW g q n f, X5W g oM rM ((X5_days_f vM aM (xs (i + 1))).2.1) ((X5_days_f vM aM (xs (i + 1))).2.2), OLW g oL h1, ODW g oD fD] H := hP.pick [0, 1, 2, 3, 4, 5, 6, 7, 10, 8, 9] rfl
  have hD : kd (kAh s) [X4W g oF (kFr oC oS oH oR oT oB) vF, X0W g oC rC ((X4_days_f vF vC aC vH aH vR aR (xs (i + 1))).2.2.1) ((X4_days_f vF vC aC vH aH vR aR (xs (i + 1))).2.2.2.1), X0W g oS rS vS aS, X2W g oH rH ((X4_days_f vF vC aC vH aH vR aR (xs (i + 1))).2.2.2.2.1) oQ rQ ((X4_days_f vF vC aC vH aH vR aR (xs (i + 1))).2.2.2.2.2.1), X3W g oR rR ((X4_days_f vF vC aC vH aH vR aR (xs (i + 1))).2.2.2.2.2.2) aR, X1W g oT rT vT aT, JOW oB q ml (nI k), JAW g q n f, X5W g oM rM ((X5_days_f vM aM (xs (i + 1))).2.1) ((X5_days_f vM aM (xs (i + 1))).2.2), OLW g oL h1, ODW g oD fD] := hD.pick [0, 1, 2, 3, 4, 5, 6, 7, 10, 8, 9] rfl rfl
  refine lv_istore (lv' := [(7, .int ((X5_days_f vM aM (xs (i + 1))).1)), (6, .int (kLk1 ((X4_days_f vF vC aC vH aH vR aR (xs (i + 1))).1))), (5, .int (nI i)), (0, .ref b), (1, .ref oF), (2, .ref oM), (3, .ref oL), (4, .ref oD)]) hx hb dL_law_887 hl (by decide) rfl (fun ls hl => ?_)
  refine lv_aload_n hx hb dL_law_889 rfl (lv_at hl 5 rfl) ?_
  refine kR_V (As := []) (rest := []) C (X5_thrown_c l g oM rM ((X5_days_f vM aM (xs (i + 1))).2.1) ((X5_days_f vM aM (xs (i + 1))).2.2)) (cwV 0 hts (k_gV kw1513 ca_X5_thrown) rfl rfl rfl ⟨rfl, pnX5_thrown⟩ ⟨Nat.le_of_ble_eq_true rfl, Nat.le_of_ble_eq_true rfl⟩) hE hS (hP.pick [8] rfl) (k_recv C kFX5 hP (i := 8) (q := 0) rfl rfl) rfl hl.1 rfl rfl dL_law_890 ⟨by show _ ≤ 605484; omega, by show _ ≤ 7191588; omega⟩ ?_
  refine lv_iload hx hb dL_law_893 (lv_at hl 1 rfl) ?_
  refine lv_icmp_eq (tgt := 900) hx hb dL_law_895 (by decide) (fun z => ?_) (fun z => absurd hs.1 z)
  have fin : W p l e room_1 s m #[Value.ref b] below meth c H locs (cells + 1 + 0) (slots + 6 + 0) (lw_Z below #[Value.ref b] s) (F0 m 917 ls []) := by
    refine lv_goto (tgt := 2358) hx hb dL_law_917 (by decide) ?_
    exact ih _ _ _ _ _ _ _ _ _ _ _ _ _ _ _ _ _ _ _ _ H locs ls _ _ hs.2.2 hT hP hD hS (lv_sub hl [2, 3, 4, 5, 6, 7] rfl) (by omega) (by omega)
  refine lv_iload hx hb dL_law_900 (lv_at hl 1 rfl) ?_
  by_cases hc0 : kLk1 ((X4_days_f vF vC aC vH aH vR aR (xs (i + 1))).1) = 0
  rotate_left
  · refine lv_if_ne (tgt := 917) hx hb dL_law_902 (by decide) (fun z => fin) (fun z => absurd z hc0)
  refine lv_if_ne (tgt := 917) hx hb dL_law_902 (by decide) (fun z => absurd hc0 z) (fun z => ?_)
  have hc1 := kLk1_0 hc0
  refine lv_aload_n hx hb dL_law_905 rfl (lv_at hl 6 rfl) ?_
  refine lv_iconst (v := 0) hx hb dL_law_906 (by decide) ?_
  refine kg_lald C hP (i := 9) rfl dL_law_907 ?_
  refine lv_iload hx hb dL_law_908 (lv_at hl 0 rfl) ?_
  refine lv_i2l hx hb dL_law_910 rfl ?_
  refine W.lcmp hx hb dL_law_911 ?_
  rw [k_lcmp0 ((hv1 hc1).trans (congrArg Int32.toInt64 (hs.2.1 hc1).symm))]
  refine lv_if_eq (tgt := 917) hx hb dL_law_912 (by decide) (fun z => fin) (fun z => absurd rfl z)
set_option maxHeartbeats 4000000 in
theorem LC_jarOf (l : Launch) (hfl : l.stackTraces = false) {p : Program} {e : Env} {s : State} {m : MethodId} {below : List Frame} {meth : Method} {c : Code} {b L : Nat} {xs : Nat → Int32} {g : kG} (oF oC oS oH oR oT oB oM oL oD : Nat) (rC rS rH rR rT rM : Nat → Nat) (oQ : Nat → Nat) (rQ : Nat → Nat → Nat) (aR : Nat → Nat → Int32) {N i cells slots : Nat} (C : kC p c code s m #[Value.ref b] meth RL g 9 ret) (hE : kE g (kAh s) s s.heap) (hNc : kNc s) (hX : va_X b L xs s s.heap) (hbl : b < s.heap.size) (hL : L ≤ 2048) (hi : i + 4 ≤ L) (hN : N < 90000) (hcb : cells + 40 ≤ 605484) (hsb : slots + 2000 ≤ 7191588)
    (ih : kNext l p e s m below meth c b g oF oC oS oH oR oT oB oM oL oD rC rS rH rR rT rM oQ rQ aR i N cells slots) (vF : Nat → Int32) (vC : Nat → Int32) (aC : Nat → Nat → Int32) (vS : Nat → Int32) (aS : Nat → Nat → Int32) (vH : Nat → Int32) (aH : Nat → (Nat → Int32) × (Nat → Nat → Int32)) (vR : Nat → Int32) (vT : Nat → Int32) (aT : Nat → Nat → Int32) (q n : Nat) (ml : Int32) (f : Nat → Int32) (t : Nat → Nat) (k : Nat) (vM : Nat → Int32) (aM : Nat → Nat → Int32) (fL : Nat → Int64) (fD : Nat → UInt64) (H : Heap) (locs : List Loc) (ls : Array Slot) (hR : kRel N vF vC aC vS aS vH aH vR vT aT t k vM aM) (hT : ((n = 16 ∨ n = 34) ∧ k ≤ n ∧ sb_Fit f ∧ sb_Lat t k f)) (hP : kp g [X4W g oF (kFr oC oS oH oR oT oB) vF, X0W g oC rC vC aC, X0W g oS rS vS aS, X2W g oH rH vH oQ rQ aH, X3W g oR rR vR aR, X1W g oT rT vT aT, JOW oB q ml (nI k), JAW g q n f, X5W g oM rM vM aM, OLW g oL fL, ODW g oD fD] H) (hD : kd (kAh s) [X4W g oF (kFr oC oS oH oR oT oB) vF, X0W g oC rC vC aC, X0W g oS rS vS aS, X2W g oH rH vH oQ rQ aH, X3W g oR rR vR aR, X1W g oT rT vT aT, JOW oB q ml (nI k), JAW g q n f, X5W g oM rM vM aM, OLW g oL fL, ODW g oD fD]) (hS : va_S (kAh s) s.heap H locs) (hl : lv_has ls 9 (kLb i b oF oM oL oD)) :
    W p l e room_1 s m #[Value.ref b] below meth c H locs cells slots (lw_Z below #[Value.ref b] s) (F0 m 920 ls []) := by
  have hA : ∀ q, s.heap.size ≤ q → kAh s q := fun q h => h
  have hx := C.1.1
  have hb := C.1.2.1
  have hts := C.1.2.2.2.2
  obtain ⟨⟨nb, nj, hnb, hv7, hnj, hv4, hb5, hj5⟩, hM, hM5, hh, hu, hL1, hL9, hch, hl40, h87, hI⟩ := kRel_hyp (by omega) hR
  refine lv_aload_n hx hb dL_law_920 rfl (lv_at hl 2 rfl) ?_
  refine lv_aload_n hx hb dL_law_921 rfl (lv_at hl 1 rfl) ?_
  refine lv_iload hx hb dL_law_922 (lv_at hl 0 rfl) ?_
  refine lv_iconst (v := 1) hx hb dL_law_924 (by decide) ?_
  refine lv_iadd hx hb dL_law_925 ?_
  refine kg_script (j := 1) C hX hbl hS (by omega) hL dL_law_926 ?_
  refine lv_aload_n hx hb dL_law_927 rfl (lv_at hl 1 rfl) ?_
  refine lv_iload hx hb dL_law_928 (lv_at hl 0 rfl) ?_
  refine lv_iconst (v := 2) hx hb dL_law_930 (by decide) ?_
  refine lv_iadd hx hb dL_law_931 ?_
  refine kg_script (j := 2) C hX hbl hS (by omega) hL dL_law_932 ?_
  refine kg_ne0 (t0 := 940) (J := 941) hx hb dL_law_933 (by decide) dL_law_936 dL_law_937 (by decide) dL_law_940 rfl ?_
  refine lv_aload_n hx hb dL_law_941 rfl (lv_at hl 4 rfl) ?_
  have hs := kS_jarOf (aR := aR) (by omega) hR (xs (i + 1)) (decide ((xs (i + 2)) ≠ 0))
  refine kL_S (As := [.ref oF, .int (xs (i + 1)), .int (b2i (decide ((xs (i + 2)) ≠ 0))), .ref oL]) (rest := []) (wr := [X0W g oS rS vS aS, X2W g oH rH vH oQ rQ aH, X3W g oR rR vR aR, X1W g oT rT vT aT, JOW oB q ml (nI k), JAW g q n f, X5W g oM rM vM aM, ODW g oD fD]) C (L_jarOf_c l g oF vF oS oH oR oT oB oC rC vC aC (xs (i + 1)) (decide ((xs (i + 2)) ≠ 0)) nj hnj hv4 hfl oL fL kK_jarOf) hNc (vx_cwSW 4 hts (k_gS kw743 cs_L_jarOf) rfl rfl rfl pnL_jarOf ⟨Nat.le_of_ble_eq_true rfl, Nat.le_of_ble_eq_true rfl⟩) hE hS hA hP hD [0, 1, 9] [2, 3, 4, 5, 6, 7, 8, 10] rfl rfl ⟨rfl, rfl, by decide⟩ rfl hl.1 rfl rfl dL_law_942 ⟨by show _ ≤ 605484; omega, by show _ ≤ 7191588; omega⟩ (fun r u H locs hp hP hD hS => ?_)
  obtain ⟨hr, h1, hv1, hu1⟩ := hp
  subst hu1
  subst hr
  have hP : kp g [X4W g oF (kFr oC oS oH oR oT oB) vF, X0W g oC rC vC aC, X0W g oS rS vS aS, X2W g oH rH vH oQ rQ aH, X3W g oR rR vR aR, X1W g oT rT vT aT, JOW oB q ml (nI k), JAW g q n f, X5W g oM rM vM aM, OLW g oL h1, ODW g oD fD] H := hP.pick [8, 9, 0, 1, 2, 3, 4, 5, 6, 10, 7] rfl
  have hD : kd (kAh s) [X4W g oF (kFr oC oS oH oR oT oB) vF, X0W g oC rC vC aC, X0W g oS rS vS aS, X2W g oH rH vH oQ rQ aH, X3W g oR rR vR aR, X1W g oT rT vT aT, JOW oB q ml (nI k), JAW g q n f, X5W g oM rM vM aM, OLW g oL h1, ODW g oD fD] := hD.pick [8, 9, 0, 1, 2, 3, 4, 5, 6, 10, 7] rfl rfl
  refine lv_istore (lv' := [(6, .int (kLk1 ((X4_jarOf_f vF vC aC (xs (i + 1)) (decide ((xs (i + 2)) ≠ 0))).1))), (5, .int (nI i)), (0, .ref b), (1, .ref oF), (2, .ref oM), (3, .ref oL), (4, .ref oD)]) hx hb dL_law_945 hl (by decide) rfl (fun ls hl => ?_)
  refine lv_aload_n hx hb dL_law_947 rfl (lv_at hl 4 rfl) ?_
  refine lv_aload_n hx hb dL_law_948 rfl (lv_at hl 2 rfl) ?_
  refine lv_iload hx hb dL_law_949 (lv_at hl 1 rfl) ?_
  refine lv_iconst (v := 1) hx hb dL_law_951 (by decide) ?_
  refine lv_iadd hx hb dL_law_952 ?_
  refine kg_script (j := 1) C hX hbl hS (by omega) hL dL_law_953 ?_
  refine lv_aload_n hx hb dL_law_954 rfl (lv_at hl 2 rfl) ?_
  refine lv_iload hx hb dL_law_955 (lv_at hl 1 rfl) ?_
  refine lv_iconst (v := 2) hx hb dL_law_957 (by decide) ?_
  refine lv_iadd hx hb dL_law_958 ?_
  refine kg_script (j := 2) C hX hbl hS (by omega) hL dL_law_959 ?_
  refine kg_ne0 (t0 := 967) (J := 968) hx hb dL_law_960 (by decide) dL_law_963 dL_law_964 (by decide) dL_law_967 rfl ?_
  refine kM_V (As := [.int (xs (i + 1)), .int (b2i (decide ((xs (i + 2)) ≠ 0)))]) (rest := []) (wr := [X4W g oF (kFr oC oS oH oR oT oB) vF, X0W g oC rC vC aC, X0W g oS rS vS aS, X2W g oH rH vH oQ rQ aH, X3W g oR rR vR aR, X1W g oT rT vT aT, JOW oB q ml (nI k), JAW g q n f, OLW g oL h1, ODW g oD fD]) C (X5_jarOf_c l g oM rM vM aM (xs (i + 1)) (decide ((xs (i + 2)) ≠ 0)) ⟨nj, hnj, hj5⟩) (cwV 2 hts (k_gV kw1709 ca_X5_jarOf) rfl rfl rfl ⟨rfl, pnX5_jarOf⟩ ⟨Nat.le_of_ble_eq_true rfl, Nat.le_of_ble_eq_true rfl⟩) hE hS hA hP hD [8] [0, 1, 2, 3, 4, 5, 6, 7, 9, 10] rfl rfl ⟨rfl, rfl, by decide⟩ (k_recv C kFX5 hP (i := 8) (q := 0) rfl rfl) rfl hl.1 rfl rfl dL_law_968 ⟨by show _ ≤ 605484; omega, by show _ ≤ 7191588; omega⟩ (fun r u H locs hp hP hD hS => ?_)
  obtain ⟨hr, hu⟩ := hp
  subst hu
  subst hr
  have hP : kp g [X4W g oF (kFr oC oS oH oR oT oB) vF, X0W g oC rC vC aC, X0W g oS rS vS aS, X2W g oH rH vH oQ rQ aH, X3W g oR rR vR aR, X1W g oT rT vT aT, JOW oB q ml (nI k), JAW g q n f, X5W g oM rM ((X5_jarOf_f vM aM (xs (i + 1)) (decide ((xs (i + 2)) ≠ 0))).2) aM, OLW g oL h1, ODW g oD fD] H := hP.pick [0, 1, 2, 3, 4, 5, 6, 7, 10, 8, 9] rfl
  have hD : kd (kAh s) [X4W g oF (kFr oC oS oH oR oT oB) vF, X0W g oC rC vC aC, X0W g oS rS vS aS, X2W g oH rH vH oQ rQ aH, X3W g oR rR vR aR, X1W g oT rT vT aT, JOW oB q ml (nI k), JAW g q n f, X5W g oM rM ((X5_jarOf_f vM aM (xs (i + 1)) (decide ((xs (i + 2)) ≠ 0))).2) aM, OLW g oL h1, ODW g oD fD] := hD.pick [0, 1, 2, 3, 4, 5, 6, 7, 10, 8, 9] rfl rfl
  refine lv_istore (lv' := [(7, .int ((X5_jarOf_f vM aM (xs (i + 1)) (decide ((xs (i + 2)) ≠ 0))).1)), (6, .int (kLk1 ((X4_jarOf_f vF vC aC (xs (i + 1)) (decide ((xs (i + 2)) ≠ 0))).1))), (5, .int (nI i)), (0, .ref b), (1, .ref oF), (2, .ref oM), (3, .ref oL), (4, .ref oD)]) hx hb dL_law_971 hl (by decide) rfl (fun ls hl => ?_)
  refine lv_aload_n hx hb dL_law_973 rfl (lv_at hl 5 rfl) ?_
  refine kR_V (As := []) (rest := []) C (X5_thrown_c l g oM rM ((X5_jarOf_f vM aM (xs (i + 1)) (decide ((xs (i + 2)) ≠ 0))).2) aM) (cwV 0 hts (k_gV kw1513 ca_X5_thrown) rfl rfl rfl ⟨rfl, pnX5_thrown⟩ ⟨Nat.le_of_ble_eq_true rfl, Nat.le_of_ble_eq_true rfl⟩) hE hS (hP.pick [8] rfl) (k_recv C kFX5 hP (i := 8) (q := 0) rfl rfl) rfl hl.1 rfl rfl dL_law_974 ⟨by show _ ≤ 605484; omega, by show _ ≤ 7191588; omega⟩ ?_
  refine lv_iload hx hb dL_law_977 (lv_at hl 1 rfl) ?_
  refine lv_icmp_eq (tgt := 984) hx hb dL_law_979 (by decide) (fun z => ?_) (fun z => absurd hs.1 z)
  have fin : W p l e room_1 s m #[Value.ref b] below meth c H locs (cells + 1 + 0) (slots + 6 + 0) (lw_Z below #[Value.ref b] s) (F0 m 1001 ls []) := by
    refine lv_goto (tgt := 2358) hx hb dL_law_1001 (by decide) ?_
    exact ih _ _ _ _ _ _ _ _ _ _ _ _ _ _ _ _ _ _ _ _ H locs ls _ _ hs.2.2 hT hP hD hS (lv_sub hl [2, 3, 4, 5, 6, 7] rfl) (by omega) (by omega)
  refine lv_iload hx hb dL_law_984 (lv_at hl 1 rfl) ?_
  by_cases hc0 : kLk1 ((X4_jarOf_f vF vC aC (xs (i + 1)) (decide ((xs (i + 2)) ≠ 0))).1) = 0
  rotate_left
  · refine lv_if_ne (tgt := 1001) hx hb dL_law_986 (by decide) (fun z => fin) (fun z => absurd z hc0)
  refine lv_if_ne (tgt := 1001) hx hb dL_law_986 (by decide) (fun z => absurd hc0 z) (fun z => ?_)
  have hc1 := kLk1_0 hc0
  refine lv_aload_n hx hb dL_law_989 rfl (lv_at hl 6 rfl) ?_
  refine lv_iconst (v := 0) hx hb dL_law_990 (by decide) ?_
  refine kg_lald C hP (i := 9) rfl dL_law_991 ?_
  refine lv_iload hx hb dL_law_992 (lv_at hl 0 rfl) ?_
  refine lv_i2l hx hb dL_law_994 rfl ?_
  refine W.lcmp hx hb dL_law_995 ?_
  rw [k_lcmp0 ((hv1 hc1).trans (congrArg Int32.toInt64 (hs.2.1 hc1).symm))]
  refine lv_if_eq (tgt := 1001) hx hb dL_law_996 (by decide) (fun z => fin) (fun z => absurd rfl z)
set_option maxHeartbeats 4000000 in
theorem LC_bagOf (l : Launch) (hfl : l.stackTraces = false) {p : Program} {e : Env} {s : State} {m : MethodId} {below : List Frame} {meth : Method} {c : Code} {b L : Nat} {xs : Nat → Int32} {g : kG} (oF oC oS oH oR oT oB oM oL oD : Nat) (rC rS rH rR rT rM : Nat → Nat) (oQ : Nat → Nat) (rQ : Nat → Nat → Nat) (aR : Nat → Nat → Int32) {N i cells slots : Nat} (C : kC p c code s m #[Value.ref b] meth RL g 9 ret) (hE : kE g (kAh s) s s.heap) (hNc : kNc s) (hX : va_X b L xs s s.heap) (hbl : b < s.heap.size) (hL : L ≤ 2048) (hi : i + 4 ≤ L) (hN : N < 90000) (hcb : cells + 40 ≤ 605484) (hsb : slots + 2000 ≤ 7191588)
    (ih : kNext l p e s m below meth c b g oF oC oS oH oR oT oB oM oL oD rC rS rH rR rT rM oQ rQ aR i N cells slots) (vF : Nat → Int32) (vC : Nat → Int32) (aC : Nat → Nat → Int32) (vS : Nat → Int32) (aS : Nat → Nat → Int32) (vH : Nat → Int32) (aH : Nat → (Nat → Int32) × (Nat → Nat → Int32)) (vR : Nat → Int32) (vT : Nat → Int32) (aT : Nat → Nat → Int32) (q n : Nat) (ml : Int32) (f : Nat → Int32) (t : Nat → Nat) (k : Nat) (vM : Nat → Int32) (aM : Nat → Nat → Int32) (fL : Nat → Int64) (fD : Nat → UInt64) (H : Heap) (locs : List Loc) (ls : Array Slot) (hR : kRel N vF vC aC vS aS vH aH vR vT aT t k vM aM) (hT : ((n = 16 ∨ n = 34) ∧ k ≤ n ∧ sb_Fit f ∧ sb_Lat t k f)) (hP : kp g [X4W g oF (kFr oC oS oH oR oT oB) vF, X0W g oC rC vC aC, X0W g oS rS vS aS, X2W g oH rH vH oQ rQ aH, X3W g oR rR vR aR, X1W g oT rT vT aT, JOW oB q ml (nI k), JAW g q n f, X5W g oM rM vM aM, OLW g oL fL, ODW g oD fD] H) (hD : kd (kAh s) [X4W g oF (kFr oC oS oH oR oT oB) vF, X0W g oC rC vC aC, X0W g oS rS vS aS, X2W g oH rH vH oQ rQ aH, X3W g oR rR vR aR, X1W g oT rT vT aT, JOW oB q ml (nI k), JAW g q n f, X5W g oM rM vM aM, OLW g oL fL, ODW g oD fD]) (hS : va_S (kAh s) s.heap H locs) (hl : lv_has ls 9 (kLb i b oF oM oL oD)) :
    W p l e room_1 s m #[Value.ref b] below meth c H locs cells slots (lw_Z below #[Value.ref b] s) (F0 m 1004 ls []) := by
  have hA : ∀ q, s.heap.size ≤ q → kAh s q := fun q h => h
  have hx := C.1.1
  have hb := C.1.2.1
  have hts := C.1.2.2.2.2
  obtain ⟨⟨nb, nj, hnb, hv7, hnj, hv4, hb5, hj5⟩, hM, hM5, hh, hu, hL1, hL9, hch, hl40, h87, hI⟩ := kRel_hyp (by omega) hR
  refine lv_aload_n hx hb dL_law_1004 rfl (lv_at hl 2 rfl) ?_
  refine lv_aload_n hx hb dL_law_1005 rfl (lv_at hl 1 rfl) ?_
  refine lv_iload hx hb dL_law_1006 (lv_at hl 0 rfl) ?_
  refine lv_iconst (v := 1) hx hb dL_law_1008 (by decide) ?_
  refine lv_iadd hx hb dL_law_1009 ?_
  refine kg_script (j := 1) C hX hbl hS (by omega) hL dL_law_1010 ?_
  refine lv_aload_n hx hb dL_law_1011 rfl (lv_at hl 1 rfl) ?_
  refine lv_iload hx hb dL_law_1012 (lv_at hl 0 rfl) ?_
  refine lv_iconst (v := 2) hx hb dL_law_1014 (by decide) ?_
  refine lv_iadd hx hb dL_law_1015 ?_
  refine kg_script (j := 2) C hX hbl hS (by omega) hL dL_law_1016 ?_
  refine lv_aload_n hx hb dL_law_1017 rfl (lv_at hl 4 rfl) ?_
  have hs := kS_bagOf (aR := aR) (by omega) hR (xs (i + 1)) (xs (i + 2))
  refine kL_S (As := [.ref oF, .int (xs (i + 1)), .int (xs (i + 2)), .ref oL]) (rest := []) (wr := [X0W g oS rS vS aS, X2W g oH rH vH oQ rQ aH, X3W g oR rR vR aR, X1W g oT rT vT aT, JOW oB q ml (nI k), JAW g q n f, X5W g oM rM vM aM, ODW g oD fD]) C (L_bagOf_c l g oF vF oS oH oR oT oB oC rC vC aC (xs (i + 1)) (xs (i + 2)) nb hnb hv7 hfl oL fL kK_bagOf) hNc (vx_cwSW 4 hts (k_gS kw788 cs_L_bagOf) rfl rfl rfl pnL_bagOf ⟨Nat.le_of_ble_eq_true rfl, Nat.le_of_ble_eq_true rfl⟩) hE hS hA hP hD [0, 1, 9] [2, 3, 4, 5, 6, 7, 8, 10] rfl rfl ⟨rfl, rfl, by decide⟩ rfl hl.1 rfl rfl dL_law_1018 ⟨by show _ ≤ 605484; omega, by show _ ≤ 7191588; omega⟩ (fun r u H locs hp hP hD hS => ?_)
  obtain ⟨hr, h1, hv1, hu1⟩ := hp
  subst hu1
  subst hr
  have hP : kp g [X4W g oF (kFr oC oS oH oR oT oB) vF, X0W g oC rC vC aC, X0W g oS rS vS aS, X2W g oH rH vH oQ rQ aH, X3W g oR rR vR aR, X1W g oT rT vT aT, JOW oB q ml (nI k), JAW g q n f, X5W g oM rM vM aM, OLW g oL h1, ODW g oD fD] H := hP.pick [8, 9, 0, 1, 2, 3, 4, 5, 6, 10, 7] rfl
  have hD : kd (kAh s) [X4W g oF (kFr oC oS oH oR oT oB) vF, X0W g oC rC vC aC, X0W g oS rS vS aS, X2W g oH rH vH oQ rQ aH, X3W g oR rR vR aR, X1W g oT rT vT aT, JOW oB q ml (nI k), JAW g q n f, X5W g oM rM vM aM, OLW g oL h1, ODW g oD fD] := hD.pick [8, 9, 0, 1, 2, 3, 4, 5, 6, 10, 7] rfl rfl
  refine lv_istore (lv' := [(6, .int (kLk2 2 ((X4_bagOf_f vF vC aC (xs (i + 1)) (xs (i + 2))).1))), (5, .int (nI i)), (0, .ref b), (1, .ref oF), (2, .ref oM), (3, .ref oL), (4, .ref oD)]) hx hb dL_law_1021 hl (by decide) rfl (fun ls hl => ?_)
  refine lv_aload_n hx hb dL_law_1023 rfl (lv_at hl 4 rfl) ?_
  refine lv_aload_n hx hb dL_law_1024 rfl (lv_at hl 2 rfl) ?_
  refine lv_iload hx hb dL_law_1025 (lv_at hl 1 rfl) ?_
  refine lv_iconst (v := 1) hx hb dL_law_1027 (by decide) ?_
  refine lv_iadd hx hb dL_law_1028 ?_
  refine kg_script (j := 1) C hX hbl hS (by omega) hL dL_law_1029 ?_
  refine lv_aload_n hx hb dL_law_1030 rfl (lv_at hl 2 rfl) ?_
  refine lv_iload hx hb dL_law_1031 (lv_at hl 1 rfl) ?_
  refine lv_iconst (v := 2) hx hb dL_law_1033 (by decide) ?_
  refine lv_iadd hx hb dL_law_1034 ?_
  refine kg_script (j := 2) C hX hbl hS (by omega) hL dL_law_1035 ?_
  refine kM_V (As := [.int (xs (i + 1)), .int (xs (i + 2))]) (rest := []) (wr := [X4W g oF (kFr oC oS oH oR oT oB) vF, X0W g oC rC vC aC, X0W g oS rS vS aS, X2W g oH rH vH oQ rQ aH, X3W g oR rR vR aR, X1W g oT rT vT aT, JOW oB q ml (nI k), JAW g q n f, OLW g oL h1, ODW g oD fD]) C (X5_bagOf_c l g oM rM vM aM (xs (i + 1)) (xs (i + 2)) ⟨nb, hnb, hb5⟩) (cwV 2 hts (k_gV kw1713 ca_X5_bagOf) rfl rfl rfl ⟨rfl, pnX5_bagOf⟩ ⟨Nat.le_of_ble_eq_true rfl, Nat.le_of_ble_eq_true rfl⟩) hE hS hA hP hD [8] [0, 1, 2, 3, 4, 5, 6, 7, 9, 10] rfl rfl ⟨rfl, rfl, by decide⟩ (k_recv C kFX5 hP (i := 8) (q := 0) rfl rfl) rfl hl.1 rfl rfl dL_law_1036 ⟨by show _ ≤ 605484; omega, by show _ ≤ 7191588; omega⟩ (fun r u H locs hp hP hD hS => ?_)
  obtain ⟨hr, hu⟩ := hp
  subst hu
  subst hr
  have hP : kp g [X4W g oF (kFr oC oS oH oR oT oB) vF, X0W g oC rC vC aC, X0W g oS rS vS aS, X2W g oH rH vH oQ rQ aH, X3W g oR rR vR aR, X1W g oT rT vT aT, JOW oB q ml (nI k), JAW g q n f, X5W g oM rM ((X5_bagOf_f vM aM (xs (i + 1)) (xs (i + 2))).2) aM, OLW g oL h1, ODW g oD fD] H := hP.pick [0, 1, 2, 3, 4, 5, 6, 7, 10, 8, 9] rfl
  have hD : kd (kAh s) [X4W g oF (kFr oC oS oH oR oT oB) vF, X0W g oC rC vC aC, X0W g oS rS vS aS, X2W g oH rH vH oQ rQ aH, X3W g oR rR vR aR, X1W g oT rT vT aT, JOW oB q ml (nI k), JAW g q n f, X5W g oM rM ((X5_bagOf_f vM aM (xs (i + 1)) (xs (i + 2))).2) aM, OLW g oL h1, ODW g oD fD] := hD.pick [0, 1, 2, 3, 4, 5, 6, 7, 10, 8, 9] rfl rfl
  refine lv_istore (lv' := [(7, .int ((X5_bagOf_f vM aM (xs (i + 1)) (xs (i + 2))).1)), (6, .int (kLk2 2 ((X4_bagOf_f vF vC aC (xs (i + 1)) (xs (i + 2))).1))), (5, .int (nI i)), (0, .ref b), (1, .ref oF), (2, .ref oM), (3, .ref oL), (4, .ref oD)]) hx hb dL_law_1039 hl (by decide) rfl (fun ls hl => ?_)
  refine lv_aload_n hx hb dL_law_1041 rfl (lv_at hl 5 rfl) ?_
  refine kR_V (As := []) (rest := []) C (X5_thrown_c l g oM rM ((X5_bagOf_f vM aM (xs (i + 1)) (xs (i + 2))).2) aM) (cwV 0 hts (k_gV kw1513 ca_X5_thrown) rfl rfl rfl ⟨rfl, pnX5_thrown⟩ ⟨Nat.le_of_ble_eq_true rfl, Nat.le_of_ble_eq_true rfl⟩) hE hS (hP.pick [8] rfl) (k_recv C kFX5 hP (i := 8) (q := 0) rfl rfl) rfl hl.1 rfl rfl dL_law_1042 ⟨by show _ ≤ 605484; omega, by show _ ≤ 7191588; omega⟩ ?_
  refine lv_iload hx hb dL_law_1045 (lv_at hl 1 rfl) ?_
  refine lv_icmp_eq (tgt := 1052) hx hb dL_law_1047 (by decide) (fun z => ?_) (fun z => absurd hs.1 z)
  have fin : W p l e room_1 s m #[Value.ref b] below meth c H locs (cells + 2 + 0) (slots + 12 + 0) (lw_Z below #[Value.ref b] s) (F0 m 1069 ls []) := by
    refine lv_goto (tgt := 2358) hx hb dL_law_1069 (by decide) ?_
    exact ih _ _ _ _ _ _ _ _ _ _ _ _ _ _ _ _ _ _ _ _ H locs ls _ _ hs.2.2 hT hP hD hS (lv_sub hl [2, 3, 4, 5, 6, 7] rfl) (by omega) (by omega)
  refine lv_iload hx hb dL_law_1052 (lv_at hl 1 rfl) ?_
  by_cases hc0 : kLk2 2 ((X4_bagOf_f vF vC aC (xs (i + 1)) (xs (i + 2))).1) = 0
  rotate_left
  · refine lv_if_ne (tgt := 1069) hx hb dL_law_1054 (by decide) (fun z => fin) (fun z => absurd z hc0)
  refine lv_if_ne (tgt := 1069) hx hb dL_law_1054 (by decide) (fun z => absurd hc0 z) (fun z => ?_)
  have hc1 := kLk2_0 hc0
  refine lv_aload_n hx hb dL_law_1057 rfl (lv_at hl 6 rfl) ?_
  refine lv_iconst (v := 0) hx hb dL_law_1058 (by decide) ?_
  refine kg_lald C hP (i := 9) rfl dL_law_1059 ?_
  refine lv_iload hx hb dL_law_1060 (lv_at hl 0 rfl) ?_
  refine lv_i2l hx hb dL_law_1062 rfl ?_
  refine W.lcmp hx hb dL_law_1063 ?_
  rw [k_lcmp0 ((hv1 hc1).trans (congrArg Int32.toInt64 (hs.2.1 hc1).symm))]
  refine lv_if_eq (tgt := 1069) hx hb dL_law_1064 (by decide) (fun z => fin) (fun z => absurd rfl z)
set_option maxHeartbeats 4000000 in
theorem LC_weightOf (l : Launch) (hfl : l.stackTraces = false) {p : Program} {e : Env} {s : State} {m : MethodId} {below : List Frame} {meth : Method} {c : Code} {b L : Nat} {xs : Nat → Int32} {g : kG} (oF oC oS oH oR oT oB oM oL oD : Nat) (rC rS rH rR rT rM : Nat → Nat) (oQ : Nat → Nat) (rQ : Nat → Nat → Nat) (aR : Nat → Nat → Int32) {N i cells slots : Nat} (C : kC p c code s m #[Value.ref b] meth RL g 9 ret) (hE : kE g (kAh s) s s.heap) (hNc : kNc s) (hX : va_X b L xs s s.heap) (hbl : b < s.heap.size) (hL : L ≤ 2048) (hi : i + 4 ≤ L) (hN : N < 90000) (hcb : cells + 40 ≤ 605484) (hsb : slots + 2000 ≤ 7191588)
    (ih : kNext l p e s m below meth c b g oF oC oS oH oR oT oB oM oL oD rC rS rH rR rT rM oQ rQ aR i N cells slots) (vF : Nat → Int32) (vC : Nat → Int32) (aC : Nat → Nat → Int32) (vS : Nat → Int32) (aS : Nat → Nat → Int32) (vH : Nat → Int32) (aH : Nat → (Nat → Int32) × (Nat → Nat → Int32)) (vR : Nat → Int32) (vT : Nat → Int32) (aT : Nat → Nat → Int32) (q n : Nat) (ml : Int32) (f : Nat → Int32) (t : Nat → Nat) (k : Nat) (vM : Nat → Int32) (aM : Nat → Nat → Int32) (fL : Nat → Int64) (fD : Nat → UInt64) (H : Heap) (locs : List Loc) (ls : Array Slot) (hR : kRel N vF vC aC vS aS vH aH vR vT aT t k vM aM) (hT : ((n = 16 ∨ n = 34) ∧ k ≤ n ∧ sb_Fit f ∧ sb_Lat t k f)) (hP : kp g [X4W g oF (kFr oC oS oH oR oT oB) vF, X0W g oC rC vC aC, X0W g oS rS vS aS, X2W g oH rH vH oQ rQ aH, X3W g oR rR vR aR, X1W g oT rT vT aT, JOW oB q ml (nI k), JAW g q n f, X5W g oM rM vM aM, OLW g oL fL, ODW g oD fD] H) (hD : kd (kAh s) [X4W g oF (kFr oC oS oH oR oT oB) vF, X0W g oC rC vC aC, X0W g oS rS vS aS, X2W g oH rH vH oQ rQ aH, X3W g oR rR vR aR, X1W g oT rT vT aT, JOW oB q ml (nI k), JAW g q n f, X5W g oM rM vM aM, OLW g oL fL, ODW g oD fD]) (hS : va_S (kAh s) s.heap H locs) (hl : lv_has ls 9 (kLb i b oF oM oL oD)) :
    W p l e room_1 s m #[Value.ref b] below meth c H locs cells slots (lw_Z below #[Value.ref b] s) (F0 m 1072 ls []) := by
  have hA : ∀ q, s.heap.size ≤ q → kAh s q := fun q h => h
  have hx := C.1.1
  have hb := C.1.2.1
  have hts := C.1.2.2.2.2
  obtain ⟨⟨nb, nj, hnb, hv7, hnj, hv4, hb5, hj5⟩, hM, hM5, hh, hu, hL1, hL9, hch, hl40, h87, hI⟩ := kRel_hyp (by omega) hR
  refine lv_aload_n hx hb dL_law_1072 rfl (lv_at hl 2 rfl) ?_
  refine lv_aload_n hx hb dL_law_1073 rfl (lv_at hl 1 rfl) ?_
  refine lv_iload hx hb dL_law_1074 (lv_at hl 0 rfl) ?_
  refine lv_iconst (v := 1) hx hb dL_law_1076 (by decide) ?_
  refine lv_iadd hx hb dL_law_1077 ?_
  refine kg_script (j := 1) C hX hbl hS (by omega) hL dL_law_1078 ?_
  refine lv_aload_n hx hb dL_law_1079 rfl (lv_at hl 1 rfl) ?_
  refine lv_iload hx hb dL_law_1080 (lv_at hl 0 rfl) ?_
  refine lv_iconst (v := 2) hx hb dL_law_1082 (by decide) ?_
  refine lv_iadd hx hb dL_law_1083 ?_
  refine kg_script (j := 2) C hX hbl hS (by omega) hL dL_law_1084 ?_
  refine lv_aload_n hx hb dL_law_1085 rfl (lv_at hl 4 rfl) ?_
  have hs := kS_weightOf (aR := aR) (by omega) hR (xs (i + 1)) (xs (i + 2))
  refine kL_S (As := [.ref oF, .int (xs (i + 1)), .int (xs (i + 2)), .ref oL]) (rest := []) (wr := [X0W g oS rS vS aS, X2W g oH rH vH oQ rQ aH, X3W g oR rR vR aR, X1W g oT rT vT aT, JOW oB q ml (nI k), JAW g q n f, X5W g oM rM vM aM, ODW g oD fD]) C (L_weightOf_c l g oF vF oS oH oR oT oB oC rC vC aC (xs (i + 1)) (xs (i + 2)) hfl oL fL kK_weightOf) hNc (vx_cwSW 4 hts (k_gS kw819 cs_L_weightOf) rfl rfl rfl pnL_weightOf ⟨Nat.le_of_ble_eq_true rfl, Nat.le_of_ble_eq_true rfl⟩) hE hS hA hP hD [0, 1, 9] [2, 3, 4, 5, 6, 7, 8, 10] rfl rfl ⟨rfl, rfl, by decide⟩ rfl hl.1 rfl rfl dL_law_1086 ⟨by show _ ≤ 605484; omega, by show _ ≤ 7191588; omega⟩ (fun r u H locs hp hP hD hS => ?_)
  obtain ⟨hr, h1, hv1, hu1⟩ := hp
  subst hu1
  subst hr
  have hP : kp g [X4W g oF (kFr oC oS oH oR oT oB) vF, X0W g oC rC vC aC, X0W g oS rS vS aS, X2W g oH rH vH oQ rQ aH, X3W g oR rR vR aR, X1W g oT rT vT aT, JOW oB q ml (nI k), JAW g q n f, X5W g oM rM vM aM, OLW g oL h1, ODW g oD fD] H := hP.pick [8, 9, 0, 1, 2, 3, 4, 5, 6, 10, 7] rfl
  have hD : kd (kAh s) [X4W g oF (kFr oC oS oH oR oT oB) vF, X0W g oC rC vC aC, X0W g oS rS vS aS, X2W g oH rH vH oQ rQ aH, X3W g oR rR vR aR, X1W g oT rT vT aT, JOW oB q ml (nI k), JAW g q n f, X5W g oM rM vM aM, OLW g oL h1, ODW g oD fD] := hD.pick [8, 9, 0, 1, 2, 3, 4, 5, 6, 10, 7] rfl rfl
  refine lv_istore (lv' := [(6, .int (kLk2 2 ((X4_weightOf_f vF vC aC (xs (i + 1)) (xs (i + 2))).1))), (5, .int (nI i)), (0, .ref b), (1, .ref oF), (2, .ref oM), (3, .ref oL), (4, .ref oD)]) hx hb dL_law_1089 hl (by decide) rfl (fun ls hl => ?_)
  refine lv_aload_n hx hb dL_law_1091 rfl (lv_at hl 4 rfl) ?_
  refine lv_aload_n hx hb dL_law_1092 rfl (lv_at hl 2 rfl) ?_
  refine lv_iload hx hb dL_law_1093 (lv_at hl 1 rfl) ?_
  refine lv_iconst (v := 1) hx hb dL_law_1095 (by decide) ?_
  refine lv_iadd hx hb dL_law_1096 ?_
  refine kg_script (j := 1) C hX hbl hS (by omega) hL dL_law_1097 ?_
  refine lv_aload_n hx hb dL_law_1098 rfl (lv_at hl 2 rfl) ?_
  refine lv_iload hx hb dL_law_1099 (lv_at hl 1 rfl) ?_
  refine lv_iconst (v := 2) hx hb dL_law_1101 (by decide) ?_
  refine lv_iadd hx hb dL_law_1102 ?_
  refine kg_script (j := 2) C hX hbl hS (by omega) hL dL_law_1103 ?_
  refine kM_V (As := [.int (xs (i + 1)), .int (xs (i + 2))]) (rest := []) (wr := [X4W g oF (kFr oC oS oH oR oT oB) vF, X0W g oC rC vC aC, X0W g oS rS vS aS, X2W g oH rH vH oQ rQ aH, X3W g oR rR vR aR, X1W g oT rT vT aT, JOW oB q ml (nI k), JAW g q n f, OLW g oL h1, ODW g oD fD]) C (X5_weightOf_c l g oM rM vM aM (xs (i + 1)) (xs (i + 2))) (cwV 2 hts (k_gV kw1717 ca_X5_weightOf) rfl rfl rfl ⟨rfl, pnX5_weightOf⟩ ⟨Nat.le_of_ble_eq_true rfl, Nat.le_of_ble_eq_true rfl⟩) hE hS hA hP hD [8] [0, 1, 2, 3, 4, 5, 6, 7, 9, 10] rfl rfl ⟨rfl, rfl, by decide⟩ (k_recv C kFX5 hP (i := 8) (q := 0) rfl rfl) rfl hl.1 rfl rfl dL_law_1104 ⟨by show _ ≤ 605484; omega, by show _ ≤ 7191588; omega⟩ (fun r u H locs hp hP hD hS => ?_)
  obtain ⟨hr, hu⟩ := hp
  subst hu
  subst hr
  have hP : kp g [X4W g oF (kFr oC oS oH oR oT oB) vF, X0W g oC rC vC aC, X0W g oS rS vS aS, X2W g oH rH vH oQ rQ aH, X3W g oR rR vR aR, X1W g oT rT vT aT, JOW oB q ml (nI k), JAW g q n f, X5W g oM rM ((X5_weightOf_f vM aM (xs (i + 1)) (xs (i + 2))).2) aM, OLW g oL h1, ODW g oD fD] H := hP.pick [0, 1, 2, 3, 4, 5, 6, 7, 10, 8, 9] rfl
  have hD : kd (kAh s) [X4W g oF (kFr oC oS oH oR oT oB) vF, X0W g oC rC vC aC, X0W g oS rS vS aS, X2W g oH rH vH oQ rQ aH, X3W g oR rR vR aR, X1W g oT rT vT aT, JOW oB q ml (nI k), JAW g q n f, X5W g oM rM ((X5_weightOf_f vM aM (xs (i + 1)) (xs (i + 2))).2) aM, OLW g oL h1, ODW g oD fD] := hD.pick [0, 1, 2, 3, 4, 5, 6, 7, 10, 8, 9] rfl rfl
  refine lv_istore (lv' := [(7, .int ((X5_weightOf_f vM aM (xs (i + 1)) (xs (i + 2))).1)), (6, .int (kLk2 2 ((X4_weightOf_f vF vC aC (xs (i + 1)) (xs (i + 2))).1))), (5, .int (nI i)), (0, .ref b), (1, .ref oF), (2, .ref oM), (3, .ref oL), (4, .ref oD)]) hx hb dL_law_1107 hl (by decide) rfl (fun ls hl => ?_)
  refine lv_aload_n hx hb dL_law_1109 rfl (lv_at hl 5 rfl) ?_
  refine kR_V (As := []) (rest := []) C (X5_thrown_c l g oM rM ((X5_weightOf_f vM aM (xs (i + 1)) (xs (i + 2))).2) aM) (cwV 0 hts (k_gV kw1513 ca_X5_thrown) rfl rfl rfl ⟨rfl, pnX5_thrown⟩ ⟨Nat.le_of_ble_eq_true rfl, Nat.le_of_ble_eq_true rfl⟩) hE hS (hP.pick [8] rfl) (k_recv C kFX5 hP (i := 8) (q := 0) rfl rfl) rfl hl.1 rfl rfl dL_law_1110 ⟨by show _ ≤ 605484; omega, by show _ ≤ 7191588; omega⟩ ?_
  refine lv_iload hx hb dL_law_1113 (lv_at hl 1 rfl) ?_
  refine lv_icmp_eq (tgt := 1120) hx hb dL_law_1115 (by decide) (fun z => ?_) (fun z => absurd hs.1 z)
  have fin : W p l e room_1 s m #[Value.ref b] below meth c H locs (cells + 1 + 0) (slots + 6 + 0) (lw_Z below #[Value.ref b] s) (F0 m 1137 ls []) := by
    refine lv_goto (tgt := 2358) hx hb dL_law_1137 (by decide) ?_
    exact ih _ _ _ _ _ _ _ _ _ _ _ _ _ _ _ _ _ _ _ _ H locs ls _ _ hs.2.2 hT hP hD hS (lv_sub hl [2, 3, 4, 5, 6, 7] rfl) (by omega) (by omega)
  refine lv_iload hx hb dL_law_1120 (lv_at hl 1 rfl) ?_
  by_cases hc0 : kLk2 2 ((X4_weightOf_f vF vC aC (xs (i + 1)) (xs (i + 2))).1) = 0
  rotate_left
  · refine lv_if_ne (tgt := 1137) hx hb dL_law_1122 (by decide) (fun z => fin) (fun z => absurd z hc0)
  refine lv_if_ne (tgt := 1137) hx hb dL_law_1122 (by decide) (fun z => absurd hc0 z) (fun z => ?_)
  have hc1 := kLk2_0 hc0
  refine lv_aload_n hx hb dL_law_1125 rfl (lv_at hl 6 rfl) ?_
  refine lv_iconst (v := 0) hx hb dL_law_1126 (by decide) ?_
  refine kg_lald C hP (i := 9) rfl dL_law_1127 ?_
  refine lv_iload hx hb dL_law_1128 (lv_at hl 0 rfl) ?_
  refine lv_i2l hx hb dL_law_1130 rfl ?_
  refine W.lcmp hx hb dL_law_1131 ?_
  rw [k_lcmp0 ((hv1 hc1).trans (congrArg Int32.toInt64 (hs.2.1 hc1).symm))]
  refine lv_if_eq (tgt := 1137) hx hb dL_law_1132 (by decide) (fun z => fin) (fun z => absurd rfl z)
set_option maxHeartbeats 4000000 in
theorem LC_told (l : Launch) (hfl : l.stackTraces = false) {p : Program} {e : Env} {s : State} {m : MethodId} {below : List Frame} {meth : Method} {c : Code} {b L : Nat} {xs : Nat → Int32} {g : kG} (oF oC oS oH oR oT oB oM oL oD : Nat) (rC rS rH rR rT rM : Nat → Nat) (oQ : Nat → Nat) (rQ : Nat → Nat → Nat) (aR : Nat → Nat → Int32) {N i cells slots : Nat} (C : kC p c code s m #[Value.ref b] meth RL g 9 ret) (hE : kE g (kAh s) s s.heap) (hNc : kNc s) (hX : va_X b L xs s s.heap) (hbl : b < s.heap.size) (hL : L ≤ 2048) (hi : i + 4 ≤ L) (hN : N < 90000) (hcb : cells + 40 ≤ 605484) (hsb : slots + 2000 ≤ 7191588)
    (ih : kNext l p e s m below meth c b g oF oC oS oH oR oT oB oM oL oD rC rS rH rR rT rM oQ rQ aR i N cells slots) (vF : Nat → Int32) (vC : Nat → Int32) (aC : Nat → Nat → Int32) (vS : Nat → Int32) (aS : Nat → Nat → Int32) (vH : Nat → Int32) (aH : Nat → (Nat → Int32) × (Nat → Nat → Int32)) (vR : Nat → Int32) (vT : Nat → Int32) (aT : Nat → Nat → Int32) (q n : Nat) (ml : Int32) (f : Nat → Int32) (t : Nat → Nat) (k : Nat) (vM : Nat → Int32) (aM : Nat → Nat → Int32) (fL : Nat → Int64) (fD : Nat → UInt64) (H : Heap) (locs : List Loc) (ls : Array Slot) (hR : kRel N vF vC aC vS aS vH aH vR vT aT t k vM aM) (hT : ((n = 16 ∨ n = 34) ∧ k ≤ n ∧ sb_Fit f ∧ sb_Lat t k f)) (hP : kp g [X4W g oF (kFr oC oS oH oR oT oB) vF, X0W g oC rC vC aC, X0W g oS rS vS aS, X2W g oH rH vH oQ rQ aH, X3W g oR rR vR aR, X1W g oT rT vT aT, JOW oB q ml (nI k), JAW g q n f, X5W g oM rM vM aM, OLW g oL fL, ODW g oD fD] H) (hD : kd (kAh s) [X4W g oF (kFr oC oS oH oR oT oB) vF, X0W g oC rC vC aC, X0W g oS rS vS aS, X2W g oH rH vH oQ rQ aH, X3W g oR rR vR aR, X1W g oT rT vT aT, JOW oB q ml (nI k), JAW g q n f, X5W g oM rM vM aM, OLW g oL fL, ODW g oD fD]) (hS : va_S (kAh s) s.heap H locs) (hl : lv_has ls 9 (kLb i b oF oM oL oD)) :
    W p l e room_1 s m #[Value.ref b] below meth c H locs cells slots (lw_Z below #[Value.ref b] s) (F0 m 1140 ls []) := by
  have hA : ∀ q, s.heap.size ≤ q → kAh s q := fun q h => h
  have hx := C.1.1
  have hb := C.1.2.1
  have hts := C.1.2.2.2.2
  obtain ⟨⟨nb, nj, hnb, hv7, hnj, hv4, hb5, hj5⟩, hM, hM5, hh, hu, hL1, hL9, hch, hl40, h87, hI⟩ := kRel_hyp (by omega) hR
  refine lv_aload_n hx hb dL_law_1140 rfl (lv_at hl 2 rfl) ?_
  refine lv_aload_n hx hb dL_law_1141 rfl (lv_at hl 1 rfl) ?_
  refine lv_iload hx hb dL_law_1142 (lv_at hl 0 rfl) ?_
  refine lv_iconst (v := 1) hx hb dL_law_1144 (by decide) ?_
  refine lv_iadd hx hb dL_law_1145 ?_
  refine kg_script (j := 1) C hX hbl hS (by omega) hL dL_law_1146 ?_
  refine lv_aload_n hx hb dL_law_1147 rfl (lv_at hl 4 rfl) ?_
  have hs := kS_told (aR := aR) (by omega) hR (xs (i + 1))
  refine kL_S (As := [.ref oF, .int (xs (i + 1)), .ref oL]) (rest := []) (wr := [X0W g oS rS vS aS, X2W g oH rH vH oQ rQ aH, X3W g oR rR vR aR, X1W g oT rT vT aT, JOW oB q ml (nI k), JAW g q n f, X5W g oM rM vM aM, ODW g oD fD]) C (L_told_c l g oF vF oS oH oR oT oB oC rC vC aC (xs (i + 1)) nb hnb hv7 hfl oL fL kK_told) hNc (vx_cwSW 3 hts (k_gS kw834 cs_L_told) rfl rfl rfl pnL_told ⟨Nat.le_of_ble_eq_true rfl, Nat.le_of_ble_eq_true rfl⟩) hE hS hA hP hD [0, 1, 9] [2, 3, 4, 5, 6, 7, 8, 10] rfl rfl ⟨rfl, rfl, by decide⟩ rfl hl.1 rfl rfl dL_law_1148 ⟨by show _ ≤ 605484; omega, by show _ ≤ 7191588; omega⟩ (fun r u H locs hp hP hD hS => ?_)
  obtain ⟨hr, h1, hv1, hu1⟩ := hp
  subst hu1
  subst hr
  have hP : kp g [X4W g oF (kFr oC oS oH oR oT oB) vF, X0W g oC rC vC aC, X0W g oS rS vS aS, X2W g oH rH vH oQ rQ aH, X3W g oR rR vR aR, X1W g oT rT vT aT, JOW oB q ml (nI k), JAW g q n f, X5W g oM rM vM aM, OLW g oL h1, ODW g oD fD] H := hP.pick [8, 9, 0, 1, 2, 3, 4, 5, 6, 10, 7] rfl
  have hD : kd (kAh s) [X4W g oF (kFr oC oS oH oR oT oB) vF, X0W g oC rC vC aC, X0W g oS rS vS aS, X2W g oH rH vH oQ rQ aH, X3W g oR rR vR aR, X1W g oT rT vT aT, JOW oB q ml (nI k), JAW g q n f, X5W g oM rM vM aM, OLW g oL h1, ODW g oD fD] := hD.pick [8, 9, 0, 1, 2, 3, 4, 5, 6, 10, 7] rfl rfl
  refine lv_istore (lv' := [(6, .int (kLk1 ((X4_told_f vF vC aC (xs (i + 1))).1))), (5, .int (nI i)), (0, .ref b), (1, .ref oF), (2, .ref oM), (3, .ref oL), (4, .ref oD)]) hx hb dL_law_1151 hl (by decide) rfl (fun ls hl => ?_)
  refine lv_aload_n hx hb dL_law_1153 rfl (lv_at hl 4 rfl) ?_
  refine lv_aload_n hx hb dL_law_1154 rfl (lv_at hl 2 rfl) ?_
  refine lv_iload hx hb dL_law_1155 (lv_at hl 1 rfl) ?_
  refine lv_iconst (v := 1) hx hb dL_law_1157 (by decide) ?_
  refine lv_iadd hx hb dL_law_1158 ?_
  refine kg_script (j := 1) C hX hbl hS (by omega) hL dL_law_1159 ?_
  refine kM_V (As := [.int (xs (i + 1))]) (rest := []) (wr := [X4W g oF (kFr oC oS oH oR oT oB) vF, X0W g oC rC vC aC, X0W g oS rS vS aS, X2W g oH rH vH oQ rQ aH, X3W g oR rR vR aR, X1W g oT rT vT aT, JOW oB q ml (nI k), JAW g q n f, OLW g oL h1, ODW g oD fD]) C (X5_told_c l g oM rM vM aM (xs (i + 1)) ⟨nb, hnb, hb5⟩) (cwV 1 hts (k_gV kw1721 ca_X5_told) rfl rfl rfl ⟨rfl, pnX5_told⟩ ⟨Nat.le_of_ble_eq_true rfl, Nat.le_of_ble_eq_true rfl⟩) hE hS hA hP hD [8] [0, 1, 2, 3, 4, 5, 6, 7, 9, 10] rfl rfl ⟨rfl, rfl, by decide⟩ (k_recv C kFX5 hP (i := 8) (q := 0) rfl rfl) rfl hl.1 rfl rfl dL_law_1160 ⟨by show _ ≤ 605484; omega, by show _ ≤ 7191588; omega⟩ (fun r u H locs hp hP hD hS => ?_)
  obtain ⟨hr, hu⟩ := hp
  subst hu
  subst hr
  have hP : kp g [X4W g oF (kFr oC oS oH oR oT oB) vF, X0W g oC rC vC aC, X0W g oS rS vS aS, X2W g oH rH vH oQ rQ aH, X3W g oR rR vR aR, X1W g oT rT vT aT, JOW oB q ml (nI k), JAW g q n f, X5W g oM rM ((X5_told_f vM aM (xs (i + 1))).2) aM, OLW g oL h1, ODW g oD fD] H := hP.pick [0, 1, 2, 3, 4, 5, 6, 7, 10, 8, 9] rfl
  have hD : kd (kAh s) [X4W g oF (kFr oC oS oH oR oT oB) vF, X0W g oC rC vC aC, X0W g oS rS vS aS, X2W g oH rH vH oQ rQ aH, X3W g oR rR vR aR, X1W g oT rT vT aT, JOW oB q ml (nI k), JAW g q n f, X5W g oM rM ((X5_told_f vM aM (xs (i + 1))).2) aM, OLW g oL h1, ODW g oD fD] := hD.pick [0, 1, 2, 3, 4, 5, 6, 7, 10, 8, 9] rfl rfl
  refine lv_istore (lv' := [(7, .int ((X5_told_f vM aM (xs (i + 1))).1)), (6, .int (kLk1 ((X4_told_f vF vC aC (xs (i + 1))).1))), (5, .int (nI i)), (0, .ref b), (1, .ref oF), (2, .ref oM), (3, .ref oL), (4, .ref oD)]) hx hb dL_law_1163 hl (by decide) rfl (fun ls hl => ?_)
  refine lv_aload_n hx hb dL_law_1165 rfl (lv_at hl 5 rfl) ?_
  refine kR_V (As := []) (rest := []) C (X5_thrown_c l g oM rM ((X5_told_f vM aM (xs (i + 1))).2) aM) (cwV 0 hts (k_gV kw1513 ca_X5_thrown) rfl rfl rfl ⟨rfl, pnX5_thrown⟩ ⟨Nat.le_of_ble_eq_true rfl, Nat.le_of_ble_eq_true rfl⟩) hE hS (hP.pick [8] rfl) (k_recv C kFX5 hP (i := 8) (q := 0) rfl rfl) rfl hl.1 rfl rfl dL_law_1166 ⟨by show _ ≤ 605484; omega, by show _ ≤ 7191588; omega⟩ ?_
  refine lv_iload hx hb dL_law_1169 (lv_at hl 1 rfl) ?_
  refine lv_icmp_eq (tgt := 1176) hx hb dL_law_1171 (by decide) (fun z => ?_) (fun z => absurd hs.1 z)
  have fin : W p l e room_1 s m #[Value.ref b] below meth c H locs (cells + 1 + 0) (slots + 6 + 0) (lw_Z below #[Value.ref b] s) (F0 m 1193 ls []) := by
    refine lv_goto (tgt := 2358) hx hb dL_law_1193 (by decide) ?_
    exact ih _ _ _ _ _ _ _ _ _ _ _ _ _ _ _ _ _ _ _ _ H locs ls _ _ hs.2.2 hT hP hD hS (lv_sub hl [2, 3, 4, 5, 6, 7] rfl) (by omega) (by omega)
  refine lv_iload hx hb dL_law_1176 (lv_at hl 1 rfl) ?_
  by_cases hc0 : kLk1 ((X4_told_f vF vC aC (xs (i + 1))).1) = 0
  rotate_left
  · refine lv_if_ne (tgt := 1193) hx hb dL_law_1178 (by decide) (fun z => fin) (fun z => absurd z hc0)
  refine lv_if_ne (tgt := 1193) hx hb dL_law_1178 (by decide) (fun z => absurd hc0 z) (fun z => ?_)
  have hc1 := kLk1_0 hc0
  refine lv_aload_n hx hb dL_law_1181 rfl (lv_at hl 6 rfl) ?_
  refine lv_iconst (v := 0) hx hb dL_law_1182 (by decide) ?_
  refine kg_lald C hP (i := 9) rfl dL_law_1183 ?_
  refine lv_iload hx hb dL_law_1184 (lv_at hl 0 rfl) ?_
  refine lv_i2l hx hb dL_law_1186 rfl ?_
  refine W.lcmp hx hb dL_law_1187 ?_
  rw [k_lcmp0 ((hv1 hc1).trans (congrArg Int32.toInt64 (hs.2.1 hc1).symm))]
  refine lv_if_eq (tgt := 1193) hx hb dL_law_1188 (by decide) (fun z => fin) (fun z => absurd rfl z)
