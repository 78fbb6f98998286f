theorem kw949 : Cond.methodLink RL 94 yX4_isNoticed ∈ kW := k_w 5 123 rfl rfl
theorem kw957 : Cond.methodLink RL 98 yX4_ranked ∈ kW := k_w 5 131 rfl rfl
theorem kw973 : Cond.classLink RL 105 "java/lang/IllegalStateException" ∈ kW := k_w 5 147 rfl rfl
theorem kw974 : Cond.methodLink RL 101 yX4_append ∈ kW := k_w 5 148 rfl rfl
theorem kw997 : Cond.methodLink RL 107 yX4_commands ∈ kW := k_w 5 171 rfl rfl
theorem kw1093 : Cond.methodLink RL 110 yX4_reason ∈ kW := k_w 6 27 rfl rfl
theorem kw1102 : Cond.methodLink RL 113 yX4_line ∈ kW := k_w 6 36 rfl rfl
theorem kw1359 : Cond.methodLink RL 116 yX4_character ∈ kW := k_w 7 53 rfl rfl
theorem kw1377 : Cond.classLink RL 124 "java/lang/ArithmeticException" ∈ kW := k_w 7 71 rfl rfl
theorem kw1391 : Cond.methodLink RL 120 yX4_meanDust ∈ kW := k_w 7 85 rfl rfl
theorem kw1402 : Cond.methodLink RL 126 yX4_honestShare ∈ kW := k_w 7 96 rfl rfl
theorem kw1410 : Cond.methodLink RL 130 yX4_account ∈ kW := k_w 7 104 rfl rfl
theorem kw1423 : Cond.methodLink RL 133 yX4_undo ∈ kW := k_w 7 117 rfl rfl
theorem kw1435 : Cond.methodLink RL 136 yX4_restore ∈ kW := k_w 7 129 rfl rfl
abbrev wL_isNoticed : List Cond := Cond.codeWith yL_isNoticed cL_isNoticed 4 (some .int) [(0, 16, 19, 55)] :: kW
set_option maxHeartbeats 4000000 in
theorem L_isNoticed_c (l : Launch) (g : kG) (oF : Nat) (vF : Nat → Int32) (oS oH oR oT oB : Nat) (oC : Nat) (rC : Nat → Nat) (vC : Nat → Int32) (aC : Nat → Nat → Int32) (p0 : Int32) (hfl : l.stackTraces = false) (oL : Nat) (fL : Nat → Int64) (hcd : (X4_isNoticed_f vF vC aC p0).1 = 0 ∨ (X4_isNoticed_f vF vC aC p0).1 = 2) : kL l yL_isNoticed wL_isNoticed 8 123 1 6 g [.ref oF, .int p0, .ref oL] [X4W g oF (kFr oC oS oH oR oT oB) vF, X0W g oC rC vC aC, OLW g oL fL] (fun x u => x = kLk1 ((X4_isNoticed_f vF vC aC p0).1) ∧ ∃ h : Nat → Int64, ((X4_isNoticed_f vF vC aC p0).1 = 0 → h 0 = (if (b2i (X4_isNoticed_f vF vC aC p0).2) = 1 then (1 : Int64) else 0)) ∧ u = [X4W g oF (kFr oC oS oH oR oT oB) vF, X0W g oC rC vC aC, OLW g oL h]) := by
  refine kL_of (cc := cL_isNoticed) (nL := 4) (ret := some .int) (lv := [(0, .ref oF), (1, .int p0), (2, .ref oL)]) (by decide) rfl (Nat.le_of_ble_eq_true rfl) rfl ?_
  intro p e s m args below meth c ls A htab hN C hP hD hE hA hS hl
  have C : kC p c cL_isNoticed s m args meth RL g 4 (some .int) := C
  have hx := C.1.1
  have hb := C.1.2.1
  have hts := C.1.2.2.2.2
  refine lv_aload_n hx hb dL_isNoticed_0 rfl (lv_at hl 2 rfl) ?_
  refine lv_iconst (v := 0) hx hb dL_isNoticed_1 (by decide) ?_
  refine lv_aload_n hx hb dL_isNoticed_2 rfl (lv_at hl 0 rfl) ?_
  refine lv_iload_n hx hb dL_isNoticed_3 rfl (lv_at hl 1 rfl) ?_
  refine kX_V (As := [.int p0]) (rest := [.int 0, .ref oL]) (wr := [OLW g oL fL]) C (X4_isNoticed_c l g oF vF oS oH oR oT oB oC rC vC aC p0 hfl) (cwV 1 hts (k_gV kw949 ca_X4_isNoticed) rfl rfl rfl ⟨rfl, pnX4_isNoticed⟩ ⟨Nat.le_of_ble_eq_true rfl, Nat.le_of_ble_eq_true rfl⟩) hE hS hA hP hD [0, 1] [2] rfl rfl ⟨rfl, rfl, by decide⟩ (k_recv C kFX4 hP (i := 0) (q := 0) rfl rfl) rfl hl.1 rfl rfl dL_isNoticed_4 ⟨Nat.le_of_ble_eq_true rfl, Nat.le_of_ble_eq_true rfl⟩ (fun E u H locs qE ce hp hP hD hS hce hcv hcl => ?_) (fun r u H locs hp hP hD hS => ?_)
  · obtain ⟨hc, hE2, hu⟩ := hp
    subst hu
    have hP : kp g [X4W g oF (kFr oC oS oH oR oT oB) vF, X0W g oC rC vC aC, OLW g oL fL] H := hP.pick [1, 2, 0] rfl
    have hD : kd A [X4W g oF (kFr oC oS oH oR oT oB) vF, X0W g oC rC vC aC, OLW g oL fL] := hD.pick [1, 2, 0] rfl rfl
    rcases hcd with h0 | h2
    · exact absurd h0 hc
    · rw [h2] at hE2
      subst hE2
      refine kx_catch1 (E := "java/lang/IndexOutOfBoundsException") C htab rfl (by decide) kw746 (List.mem_of_getElem? (i := 85) rfl) hce hcv hcl ?_
      refine lv_astore_n (lv' := [(3, .ref qE), (0, .ref oF), (1, .int p0), (2, .ref oL)]) hx hb dL_isNoticed_19 rfl hl (by decide) rfl (fun ls hl => ?_)
      refine lv_iconst (v := 1) hx hb dL_isNoticed_20 (by decide) ?_
      exact kL_ret C hP hD hS ⟨by rw [h2]; rfl, _, fun z => absurd z hc, rfl⟩ ⟨Nat.le_of_ble_eq_true rfl, Nat.le_of_ble_eq_true rfl⟩ dL_isNoticed_21
  obtain ⟨hc, hr, hu⟩ := hp
  subst hu
  have hP : kp g [X4W g oF (kFr oC oS oH oR oT oB) vF, X0W g oC rC vC aC, OLW g oL fL] H := hP.pick [1, 2, 0] rfl
  have hD : kd A [X4W g oF (kFr oC oS oH oR oT oB) vF, X0W g oC rC vC aC, OLW g oL fL] := hD.pick [1, 2, 0] rfl rfl
  subst hr
  by_cases hz : b2i (X4_isNoticed_f vF vC aC p0).2 = 1
  · rw [if_pos hz]
    rw [hz]
    refine lv_if_eq (tgt := 14) hx hb dL_isNoticed_7 (by decide) (fun z => absurd z (by decide)) (fun z => ?_)
    refine lv_lconst (v := 1) hx hb dL_isNoticed_10 rfl ?_
    refine lv_goto (tgt := 15) hx hb dL_isNoticed_11 (by decide) ?_
    refine kg_last C hP hD hS (i := 2) rfl rfl dL_isNoticed_15 (fun H locs hP hD hS => ?_)
    have hP : kp g [X4W g oF (kFr oC oS oH oR oT oB) vF, X0W g oC rC vC aC, OLW g oL (vp_updL fL 0 (1 : Int64))] H := hP
    have hD : kd A [X4W g oF (kFr oC oS oH oR oT oB) vF, X0W g oC rC vC aC, OLW g oL (vp_updL fL 0 (1 : Int64))] := hD
    refine lv_goto (tgt := 22) hx hb dL_isNoticed_16 (by decide) ?_
    refine lv_iconst (v := 0) hx hb dL_isNoticed_22 (by decide) ?_
    exact kL_ret C hP hD hS ⟨by rw [hc]; rfl, _, fun _ => k_updL0 _ _, rfl⟩ ⟨Nat.le_of_ble_eq_true rfl, Nat.le_of_ble_eq_true rfl⟩ dL_isNoticed_23
  rw [if_neg hz]
  refine lv_if_eq (tgt := 14) hx hb dL_isNoticed_7 (by decide) (fun z => ?_) (fun z => absurd (k_b01 hz) z)
  refine lv_lconst (v := 0) hx hb dL_isNoticed_14 rfl ?_
  refine kg_last C hP hD hS (i := 2) rfl rfl dL_isNoticed_15 (fun H locs hP hD hS => ?_)
  have hP : kp g [X4W g oF (kFr oC oS oH oR oT oB) vF, X0W g oC rC vC aC, OLW g oL (vp_updL fL 0 (0 : Int64))] H := hP
  have hD : kd A [X4W g oF (kFr oC oS oH oR oT oB) vF, X0W g oC rC vC aC, OLW g oL (vp_updL fL 0 (0 : Int64))] := hD
  refine lv_goto (tgt := 22) hx hb dL_isNoticed_16 (by decide) ?_
  refine lv_iconst (v := 0) hx hb dL_isNoticed_22 (by decide) ?_
  exact kL_ret C hP hD hS ⟨by rw [hc]; rfl, _, fun _ => k_updL0 _ _, rfl⟩ ⟨Nat.le_of_ble_eq_true rfl, Nat.le_of_ble_eq_true rfl⟩ dL_isNoticed_23
abbrev wL_ranked : List Cond := Cond.codeWith yL_ranked cL_ranked 4 (some .int) [(0, 9, 12, 86)] :: kW
set_option maxHeartbeats 4000000 in
theorem L_ranked_c (l : Launch) (g : kG) (oF : Nat) (vF : Nat → Int32) (oS oH oR oT oB : Nat) (oC : Nat) (rC : Nat → Nat) (vC : Nat → Int32) (aC : Nat → Nat → Int32) (p0 : Int32) (nb : Nat) (hnb : nb ≤ 6) (hv7 : vC 7 = nI nb) (hfl : l.stackTraces = false) (oL : Nat) (fL : Nat → Int64) (hcd : (X4_ranked_f vF vC aC p0).1 = 0 ∨ (X4_ranked_f vF vC aC p0).1 = 4) : kL l yL_ranked wL_ranked 7 104 1 6 g [.ref oF, .int p0, .ref oL] [X4W g oF (kFr oC oS oH oR oT oB) vF, X0W g oC rC vC aC, OLW g oL fL] (fun x u => x = kLk1 ((X4_ranked_f vF vC aC p0).1) ∧ ∃ h : Nat → Int64, ((X4_ranked_f vF vC aC p0).1 = 0 → h 0 = ((X4_ranked_f vF vC aC p0).2).toInt64) ∧ u = [X4W g oF (kFr oC oS oH oR oT oB) vF, X0W g oC rC vC aC, OLW g oL h]) := by
  refine kL_of (cc := cL_ranked) (nL := 4) (ret := some .int) (lv := [(0, .ref oF), (1, .int p0), (2, .ref oL)]) (by decide) rfl (Nat.le_of_ble_eq_true rfl) rfl ?_
  intro p e s m args below meth c ls A htab hN C hP hD hE hA hS hl
  have C : kC p c cL_ranked s m args meth RL g 4 (some .int) := C
  have hx := C.1.1
  have hb := C.1.2.1
  have hts := C.1.2.2.2.2
  refine lv_aload_n hx hb dL_ranked_0 rfl (lv_at hl 2 rfl) ?_
  refine lv_iconst (v := 0) hx hb dL_ranked_1 (by decide) ?_
  refine lv_aload_n hx hb dL_ranked_2 rfl (lv_at hl 0 rfl) ?_
  refine lv_iload_n hx hb dL_ranked_3 rfl (lv_at hl 1 rfl) ?_
  refine kX_V (As := [.int p0]) (rest := [.int 0, .ref oL]) (wr := [OLW g oL fL]) C (X4_ranked_c l g oF vF oS oH oR oT oB oC rC vC aC p0 nb hnb hv7 hfl) (cwV 1 hts (k_gV kw957 ca_X4_ranked) rfl rfl rfl ⟨rfl, pnX4_ranked⟩ ⟨Nat.le_of_ble_eq_true rfl, Nat.le_of_ble_eq_true rfl⟩) hE hS hA hP hD [0, 1] [2] rfl rfl ⟨rfl, rfl, by decide⟩ (k_recv C kFX4 hP (i := 0) (q := 0) rfl rfl) rfl hl.1 rfl rfl dL_ranked_4 ⟨Nat.le_of_ble_eq_true rfl, Nat.le_of_ble_eq_true rfl⟩ (fun E u H locs qE ce hp hP hD hS hce hcv hcl => ?_) (fun r u H locs hp hP hD hS => ?_)
  · obtain ⟨hc, hE2, hu⟩ := hp
    subst hu
    have hP : kp g [X4W g oF (kFr oC oS oH oR oT oB) vF, X0W g oC rC vC aC, OLW g oL fL] H := hP.pick [1, 2, 0] rfl
    have hD : kd A [X4W g oF (kFr oC oS oH oR oT oB) vF, X0W g oC rC vC aC, OLW g oL fL] := hD.pick [1, 2, 0] rfl rfl
    rcases hcd with h0 | h4
    · exact absurd h0 hc
    · rw [h4] at hE2
      subst hE2
      refine kx_catch1 (E := "java/util/NoSuchElementException") C htab rfl (by decide) kw898 (List.mem_of_getElem? (i := 87) rfl) hce hcv hcl ?_
      refine lv_astore_n (lv' := [(3, .ref qE), (0, .ref oF), (1, .int p0), (2, .ref oL)]) hx hb dL_ranked_12 rfl hl (by decide) rfl (fun ls hl => ?_)
      refine lv_iconst (v := 1) hx hb dL_ranked_13 (by decide) ?_
      exact kL_ret C hP hD hS ⟨by rw [h4]; rfl, _, fun z => absurd z hc, rfl⟩ ⟨Nat.le_of_ble_eq_true rfl, Nat.le_of_ble_eq_true rfl⟩ dL_ranked_14
  obtain ⟨hc, hr, hu⟩ := hp
  subst hu
  have hP : kp g [X4W g oF (kFr oC oS oH oR oT oB) vF, X0W g oC rC vC aC, OLW g oL fL] H := hP.pick [1, 2, 0] rfl
  have hD : kd A [X4W g oF (kFr oC oS oH oR oT oB) vF, X0W g oC rC vC aC, OLW g oL fL] := hD.pick [1, 2, 0] rfl rfl
  subst hr
  refine lv_i2l hx hb dL_ranked_7 rfl ?_
  refine kg_last C hP hD hS (i := 2) rfl rfl dL_ranked_8 (fun H locs hP hD hS => ?_)
  have hP : kp g [X4W g oF (kFr oC oS oH oR oT oB) vF, X0W g oC rC vC aC, OLW g oL (vp_updL fL 0 (((X4_ranked_f vF vC aC p0).2).toInt64))] H := hP
  have hD : kd A [X4W g oF (kFr oC oS oH oR oT oB) vF, X0W g oC rC vC aC, OLW g oL (vp_updL fL 0 (((X4_ranked_f vF vC aC p0).2).toInt64))] := hD
  refine lv_goto (tgt := 15) hx hb dL_ranked_9 (by decide) ?_
  refine lv_iconst (v := 0) hx hb dL_ranked_15 (by decide) ?_
  exact kL_ret C hP hD hS ⟨by rw [hc]; rfl, _, fun _ => k_updL0 _ _, rfl⟩ ⟨Nat.le_of_ble_eq_true rfl, Nat.le_of_ble_eq_true rfl⟩ dL_ranked_16
abbrev wL_append : List Cond := Cond.codeWith yL_append cL_append 4 (some .int) [(0, 9, 12, 105)] :: kW
set_option maxHeartbeats 4000000 in
theorem L_append_c (l : Launch) (g : kG) (oF : Nat) (vF : Nat → Int32) (oC oS oH oR oB : Nat) (oT : Nat) (rT : Nat → Nat) (vT : Nat → Int32) (aT : Nat → Nat → Int32) (p0 : Int32) (hL1 : (∃ n : Nat, n ≤ 60 ∧ vT 1 = nI n)) (hfl : l.stackTraces = false) (oL : Nat) (fL : Nat → Int64) (hcd : (X4_append_f vF vT aT p0).1 = 0 ∨ (X4_append_f vF vT aT p0).1 = 5) : kL l yL_append wL_append 7 103 1 6 g [.ref oF, .int p0, .ref oL] [X4W g oF (kFr oC oS oH oR oT oB) vF, X1W g oT rT vT aT, OLW g oL fL] (fun x u => x = kLk1 ((X4_append_f vF vT aT p0).1) ∧ ∃ h : Nat → Int64, ((X4_append_f vF vT aT p0).1 = 0 → h 0 = ((X4_append_f vF vT aT p0).2.1).toInt64) ∧ u = [X4W g oF (kFr oC oS oH oR oT oB) vF, X1W g oT rT ((X4_append_f vF vT aT p0).2.2.1) ((X4_append_f vF vT aT p0).2.2.2), OLW g oL h]) := by
  refine kL_of (cc := cL_append) (nL := 4) (ret := some .int) (lv := [(0, .ref oF), (1, .int p0), (2, .ref oL)]) (by decide) rfl (Nat.le_of_ble_eq_true rfl) rfl ?_
  intro p e s m args below meth c ls A htab hN C hP hD hE hA hS hl
  have C : kC p c cL_append s m args meth RL g 4 (some .int) := C
  have hx := C.1.1
  have hb := C.1.2.1
  have hts := C.1.2.2.2.2
  refine lv_aload_n hx hb dL_append_0 rfl (lv_at hl 2 rfl) ?_
  refine lv_iconst (v := 0) hx hb dL_append_1 (by decide) ?_
  refine lv_aload_n hx hb dL_append_2 rfl (lv_at hl 0 rfl) ?_
  refine lv_iload_n hx hb dL_append_3 rfl (lv_at hl 1 rfl) ?_
  refine kX_V (As := [.int p0]) (rest := [.int 0, .ref oL]) (wr := [OLW g oL fL]) C (X4_append_c l g oF vF oC oS oH oR oB oT rT vT aT p0 hL1 hfl) (cwV 1 hts (k_gV kw974 ca_X4_append) rfl rfl rfl ⟨rfl, pnX4_append⟩ ⟨Nat.le_of_ble_eq_true rfl, Nat.le_of_ble_eq_true rfl⟩) hE hS hA hP hD [0, 1] [2] rfl rfl ⟨rfl, rfl, by decide⟩ (k_recv C kFX4 hP (i := 0) (q := 0) rfl rfl) rfl hl.1 rfl rfl dL_append_4 ⟨Nat.le_of_ble_eq_true rfl, Nat.le_of_ble_eq_true rfl⟩ (fun E u H locs qE ce hp hP hD hS hce hcv hcl => ?_) (fun r u H locs hp hP hD hS => ?_)
  · obtain ⟨hc, hE2, hu⟩ := hp
    subst hu
    have hP : kp g [X4W g oF (kFr oC oS oH oR oT oB) vF, X1W g oT rT ((X4_append_f vF vT aT p0).2.2.1) ((X4_append_f vF vT aT p0).2.2.2), OLW g oL fL] H := hP.pick [1, 2, 0] rfl
    have hD : kd A [X4W g oF (kFr oC oS oH oR oT oB) vF, X1W g oT rT ((X4_append_f vF vT aT p0).2.2.1) ((X4_append_f vF vT aT p0).2.2.2), OLW g oL fL] := hD.pick [1, 2, 0] rfl rfl
    rcases hcd with h0 | h5
    · exact absurd h0 hc
    · rw [h5] at hE2
      subst hE2
      refine kx_catch1 (E := "java/lang/IllegalStateException") C htab rfl (by decide) kw973 (List.mem_of_getElem? (i := 88) rfl) hce hcv hcl ?_
      refine lv_astore_n (lv' := [(3, .ref qE), (0, .ref oF), (1, .int p0), (2, .ref oL)]) hx hb dL_append_12 rfl hl (by decide) rfl (fun ls hl => ?_)
      refine lv_iconst (v := 1) hx hb dL_append_13 (by decide) ?_
      exact kL_ret C hP hD hS ⟨by rw [h5]; rfl, _, fun z => absurd z hc, rfl⟩ ⟨Nat.le_of_ble_eq_true rfl, Nat.le_of_ble_eq_true rfl⟩ dL_append_14
  obtain ⟨hc, hr, hu⟩ := hp
  subst hu
  have hP : kp g [X4W g oF (kFr oC oS oH oR oT oB) vF, X1W g oT rT ((X4_append_f vF vT aT p0).2.2.1) ((X4_append_f vF vT aT p0).2.2.2), OLW g oL fL] H := hP.pick [1, 2, 0] rfl
  have hD : kd A [X4W g oF (kFr oC oS oH oR oT oB) vF, X1W g oT rT ((X4_append_f vF vT aT p0).2.2.1) ((X4_append_f vF vT aT p0).2.2.2), OLW g oL fL] := hD.pick [1, 2, 0] rfl rfl
  subst hr
  refine lv_i2l hx hb dL_append_7 rfl ?_
  refine kg_last C hP hD hS (i := 2) rfl rfl dL_append_8 (fun H locs hP hD hS => ?_)
  have hP : kp g [X4W g oF (kFr oC oS oH oR oT oB) vF, X1W g oT rT ((X4_append_f vF vT aT p0).2.2.1) ((X4_append_f vF vT aT p0).2.2.2), OLW g oL (vp_updL fL 0 (((X4_append_f vF vT aT p0).2.1).toInt64))] H := hP
  have hD : kd A [X4W g oF (kFr oC oS oH oR oT oB) vF, X1W g oT rT ((X4_append_f vF vT aT p0).2.2.1) ((X4_append_f vF vT aT p0).2.2.2), OLW g oL (vp_updL fL 0 (((X4_append_f vF vT aT p0).2.1).toInt64))] := hD
  refine lv_goto (tgt := 15) hx hb dL_append_9 (by decide) ?_
  refine lv_iconst (v := 0) hx hb dL_append_15 (by decide) ?_
  exact kL_ret C hP hD hS ⟨by rw [hc]; rfl, _, fun _ => k_updL0 _ _, rfl⟩ ⟨Nat.le_of_ble_eq_true rfl, Nat.le_of_ble_eq_true rfl⟩ dL_append_16
abbrev wL_commands : List Cond := Cond.codeWith yL_commands cL_commands 3 (some .int) [(0, 8, 11, 60), (0, 8, 14, 13)] :: kW
set_option maxHeartbeats 4000000 in
theorem L_commands_c (l : Launch) (g : kG) (oF : Nat) (vF : Nat → Int32) (oS oB : Nat) (oC : Nat) (rC : Nat → Nat) (vC : Nat → Int32) (aC : Nat → Nat → Int32) (oH : Nat) (rH : Nat → Nat) (vH : Nat → Int32) (oQ : Nat → Nat) (rQ : Nat → Nat → Nat) (aH : Nat → (Nat → Int32) × (Nat → Nat → Int32)) (oR : Nat) (rR : Nat → Nat) (vR : Nat → Int32) (aR : Nat → Nat → Int32) (oT : Nat) (rT : Nat → Nat) (vT : Nat → Int32) (aT : Nat → Nat → Int32) (hI : kIC vC) (hh : vp_in (vH 1) 9) (hL1 : (∃ n : Nat, n ≤ 60 ∧ vT 1 = nI n)) (hfl : l.stackTraces = false) (oL : Nat) (fL : Nat → Int64) (hcd : (X4_commands_f vF vC aC vH aH vR aR vT aT).1 = 0 ∨ (X4_commands_f vF vC aC vH aH vR aR vT aT).1 = 3 ∨ (X4_commands_f vF vC aC vH aH vR aR vT aT).1 = 1) : kL l yL_commands wL_commands 8 175 1 6 g [.ref oF, .ref oL] [X4W g oF (kFr oC oS oH oR oT oB) vF, X0W g oC rC vC aC, X2W g oH rH vH oQ rQ aH, X3W g oR rR vR aR, X1W g oT rT vT aT, OLW g oL fL] (fun x u => x = kLk2 3 ((X4_commands_f vF vC aC vH aH vR aR vT aT).1) ∧ ∃ h : Nat → Int64, ((X4_commands_f vF vC aC vH aH vR aR vT aT).1 = 0 → h 0 = ((X4_commands_f vF vC aC vH aH vR aR vT aT).2.1).toInt64) ∧ u = [X4W g oF (kFr oC oS oH oR oT oB) ((X4_commands_f vF vC aC vH aH vR aR vT aT).2.2.1), X0W g oC rC ((X4_commands_f vF vC aC vH aH vR aR vT aT).2.2.2.1) ((X4_commands_f vF vC aC vH aH vR aR vT aT).2.2.2.2.1), X2W g oH rH ((X4_commands_f vF vC aC vH aH vR aR vT aT).2.2.2.2.2.1) oQ rQ ((X4_commands_f vF vC aC vH aH vR aR vT aT).2.2.2.2.2.2.1), X3W g oR rR ((X4_commands_f vF vC aC vH aH vR aR vT aT).2.2.2.2.2.2.2.1) aR, X1W g oT rT ((X4_commands_f vF vC aC vH aH vR aR vT aT).2.2.2.2.2.2.2.2.1) ((X4_commands_f vF vC aC vH aH vR aR vT aT).2.2.2.2.2.2.2.2.2), OLW g oL h]) := by
  refine kL_of (cc := cL_commands) (nL := 3) (ret := some .int) (lv := [(0, .ref oF), (1, .ref oL)]) (by decide) rfl (Nat.le_of_ble_eq_true rfl) rfl ?_
  intro p e s m args below meth c ls A htab hN C hP hD hE hA hS hl
  have C : kC p c cL_commands s m args meth RL g 3 (some .int) := C
  have hx := C.1.1
  have hb := C.1.2.1
  have hts := C.1.2.2.2.2
  refine lv_aload_n hx hb dL_commands_0 rfl (lv_at hl 1 rfl) ?_
  refine lv_iconst (v := 0) hx hb dL_commands_1 (by decide) ?_
  refine lv_aload_n hx hb dL_commands_2 rfl (lv_at hl 0 rfl) ?_
  refine kX_V (As := []) (rest := [.int 0, .ref oL]) (wr := [OLW g oL fL]) C (X4_commands_c l g oF vF oS oB oC rC vC aC oH rH vH oQ rQ aH oR rR vR aR oT rT vT aT hI hh hL1 hfl) (cwV 0 hts (k_gV kw997 ca_X4_commands) rfl rfl rfl ⟨rfl, pnX4_commands⟩ ⟨Nat.le_of_ble_eq_true rfl, Nat.le_of_ble_eq_true rfl⟩) hE hS hA hP hD [0, 1, 2, 3, 4] [5] rfl rfl ⟨rfl, rfl, by decide⟩ (k_recv C kFX4 hP (i := 0) (q := 0) rfl rfl) rfl hl.1 rfl rfl dL_commands_3 ⟨Nat.le_of_ble_eq_true rfl, Nat.le_of_ble_eq_true rfl⟩ (fun E u H locs qE ce hp hP hD hS hce hcv hcl => ?_) (fun r u H locs hp hP hD hS => ?_)
  · obtain ⟨hc, hE2, hu⟩ := hp
    subst hu
    have hP : kp g [X4W g oF (kFr oC oS oH oR oT oB) ((X4_commands_f vF vC aC vH aH vR aR vT aT).2.2.1), X0W g oC rC ((X4_commands_f vF vC aC vH aH vR aR vT aT).2.2.2.1) ((X4_commands_f vF vC aC vH aH vR aR vT aT).2.2.2.2.1), X2W g oH rH ((X4_commands_f vF vC aC vH aH vR aR vT aT).2.2.2.2.2.1) oQ rQ ((X4_commands_f vF vC aC vH aH vR aR vT aT).2.2.2.2.2.2.1), X3W g oR rR ((X4_commands_f vF vC aC vH aH vR aR vT aT).2.2.2.2.2.2.2.1) aR, X1W g oT rT ((X4_commands_f vF vC aC vH aH vR aR vT aT).2.2.2.2.2.2.2.2.1) ((X4_commands_f vF vC aC vH aH vR aR vT aT).2.2.2.2.2.2.2.2.2), OLW g oL fL] H := hP.pick [1, 2, 3, 4, 5, 0] rfl
    have hD : kd A [X4W g oF (kFr oC oS oH oR oT oB) ((X4_commands_f vF vC aC vH aH vR aR vT aT).2.2.1), X0W g oC rC ((X4_commands_f vF vC aC vH aH vR aR vT aT).2.2.2.1) ((X4_commands_f vF vC aC vH aH vR aR vT aT).2.2.2.2.1), X2W g oH rH ((X4_commands_f vF vC aC vH aH vR aR vT aT).2.2.2.2.2.1) oQ rQ ((X4_commands_f vF vC aC vH aH vR aR vT aT).2.2.2.2.2.2.1), X3W g oR rR ((X4_commands_f vF vC aC vH aH vR aR vT aT).2.2.2.2.2.2.2.1) aR, X1W g oT rT ((X4_commands_f vF vC aC vH aH vR aR vT aT).2.2.2.2.2.2.2.2.1) ((X4_commands_f vF vC aC vH aH vR aR vT aT).2.2.2.2.2.2.2.2.2), OLW g oL fL] := hD.pick [1, 2, 3, 4, 5, 0] rfl rfl
    rcases hcd with h0 | h3 | h1
    · exact absurd h0 hc
    · rw [h3] at hE2
      subst hE2
      refine kx_catch1 (E := "java/lang/IllegalArgumentException") C htab rfl (by decide) kw791 (List.mem_of_getElem? (i := 86) rfl) hce hcv hcl ?_
      refine lv_astore_n (lv' := [(2, .ref qE), (0, .ref oF), (1, .ref oL)]) hx hb dL_commands_11 rfl hl (by decide) rfl (fun ls hl => ?_)
      refine lv_iconst (v := 1) hx hb dL_commands_12 (by decide) ?_
      exact kL_ret C hP hD hS ⟨by rw [h3]; rfl, _, fun z => absurd z hc, rfl⟩ ⟨Nat.le_of_ble_eq_true rfl, Nat.le_of_ble_eq_true rfl⟩ dL_commands_13
    · rw [h1] at hE2
      subst hE2
      refine kx_catch2 (E := "java/lang/UnsupportedOperationException") (F := "java/lang/IllegalArgumentException") C htab (by decide) kw791 hN.2.2.1 rfl (by decide) kw381 (List.mem_of_getElem? (i := 84) rfl) hce hcv hcl ?_
      refine lv_astore_n (lv' := [(2, .ref qE), (0, .ref oF), (1, .ref oL)]) hx hb dL_commands_14 rfl hl (by decide) rfl (fun ls hl => ?_)
      refine lv_iconst (v := 2) hx hb dL_commands_15 (by decide) ?_
      exact kL_ret C hP hD hS ⟨by rw [h1]; rfl, _, fun z => absurd z hc, rfl⟩ ⟨Nat.le_of_ble_eq_true rfl, Nat.le_of_ble_eq_true rfl⟩ dL_commands_16
  obtain ⟨hc, hr, hu⟩ := hp
  subst hu
  have hP : kp g [X4W g oF (kFr oC oS oH oR oT oB) ((X4_commands_f vF vC aC vH aH vR aR vT aT).2.2.1), X0W g oC rC ((X4_commands_f vF vC aC vH aH vR aR vT aT).2.2.2.1) ((X4_commands_f vF vC aC vH aH vR aR vT aT).2.2.2.2.1), X2W g oH rH ((X4_commands_f vF vC aC vH aH vR aR vT aT).2.2.2.2.2.1) oQ rQ ((X4_commands_f vF vC aC vH aH vR aR vT aT).2.2.2.2.2.2.1), X3W g oR rR ((X4_commands_f vF vC aC vH aH vR aR vT aT).2.2.2.2.2.2.2.1) aR, X1W g oT rT ((X4_commands_f vF vC aC vH aH vR aR vT aT).2.2.2.2.2.2.2.2.1) ((X4_commands_f vF vC aC vH aH vR aR vT aT).2.2.2.2.2.2.2.2.2), OLW g oL fL] H := hP.pick [1, 2, 3, 4, 5, 0] rfl
  have hD : kd A [X4W g oF (kFr oC oS oH oR oT oB) ((X4_commands_f vF vC aC vH aH vR aR vT aT).2.2.1), X0W g oC rC ((X4_commands_f vF vC aC vH aH vR aR vT aT).2.2.2.1) ((X4_commands_f vF vC aC vH aH vR aR vT aT).2.2.2.2.1), X2W g oH rH ((X4_commands_f vF vC aC vH aH vR aR vT aT).2.2.2.2.2.1) oQ rQ ((X4_commands_f vF vC aC vH aH vR aR vT aT).2.2.2.2.2.2.1), X3W g oR rR ((X4_commands_f vF vC aC vH aH vR aR vT aT).2.2.2.2.2.2.2.1) aR, X1W g oT rT ((X4_commands_f vF vC aC vH aH vR aR vT aT).2.2.2.2.2.2.2.2.1) ((X4_commands_f vF vC aC vH aH vR aR vT aT).2.2.2.2.2.2.2.2.2), OLW g oL fL] := hD.pick [1, 2, 3, 4, 5, 0] rfl rfl
  subst hr
  refine lv_i2l hx hb dL_commands_6 rfl ?_
  refine kg_last C hP hD hS (i := 5) rfl rfl dL_commands_7 (fun H locs hP hD hS => ?_)
  have hP : kp g [X4W g oF (kFr oC oS oH oR oT oB) ((X4_commands_f vF vC aC vH aH vR aR vT aT).2.2.1), X0W g oC rC ((X4_commands_f vF vC aC vH aH vR aR vT aT).2.2.2.1) ((X4_commands_f vF vC aC vH aH vR aR vT aT).2.2.2.2.1), X2W g oH rH ((X4_commands_f vF vC aC vH aH vR aR vT aT).2.2.2.2.2.1) oQ rQ ((X4_commands_f vF vC aC vH aH vR aR vT aT).2.2.2.2.2.2.1), X3W g oR rR ((X4_commands_f vF vC aC vH aH vR aR vT aT).2.2.2.2.2.2.2.1) aR, X1W g oT rT ((X4_commands_f vF vC aC vH aH vR aR vT aT).2.2.2.2.2.2.2.2.1) ((X4_commands_f vF vC aC vH aH vR aR vT aT).2.2.2.2.2.2.2.2.2), OLW g oL (vp_updL fL 0 (((X4_commands_f vF vC aC vH aH vR aR vT aT).2.1).toInt64))] H := hP
  have hD : kd A [X4W g oF (kFr oC oS oH oR oT oB) ((X4_commands_f vF vC aC vH aH vR aR vT aT).2.2.1), X0W g oC rC ((X4_commands_f vF vC aC vH aH vR aR vT aT).2.2.2.1) ((X4_commands_f vF vC aC vH aH vR aR vT aT).2.2.2.2.1), X2W g oH rH ((X4_commands_f vF vC aC vH aH vR aR vT aT).2.2.2.2.2.1) oQ rQ ((X4_commands_f vF vC aC vH aH vR aR vT aT).2.2.2.2.2.2.1), X3W g oR rR ((X4_commands_f vF vC aC vH aH vR aR vT aT).2.2.2.2.2.2.2.1) aR, X1W g oT rT ((X4_commands_f vF vC aC vH aH vR aR vT aT).2.2.2.2.2.2.2.2.1) ((X4_commands_f vF vC aC vH aH vR aR vT aT).2.2.2.2.2.2.2.2.2), OLW g oL (vp_updL fL 0 (((X4_commands_f vF vC aC vH aH vR aR vT aT).2.1).toInt64))] := hD
  refine lv_goto (tgt := 17) hx hb dL_commands_8 (by decide) ?_
  refine lv_iconst (v := 0) hx hb dL_commands_17 (by decide) ?_
  exact kL_ret C hP hD hS ⟨by rw [hc]; rfl, _, fun _ => k_updL0 _ _, rfl⟩ ⟨Nat.le_of_ble_eq_true rfl, Nat.le_of_ble_eq_true rfl⟩ dL_commands_18
abbrev wL_reason : List Cond := Cond.codeWith yL_reason cL_reason 4 (some .int) [(0, 9, 12, 60), (0, 9, 15, 86)] :: kW
set_option maxHeartbeats 4000000 in
theorem L_reason_c (l : Launch) (g : kG) (oF : Nat) (vF : Nat → Int32) (oC oS oH oT oB : Nat) (oR : Nat) (rR : Nat → Nat) (vR : Nat → Int32) (aR : Nat → Nat → Int32) (p0 : Int32) (hfl : l.stackTraces = false) (oL : Nat) (fL : Nat → Int64) (hcd : (X4_reason_f vF vR aR p0).1 = 0 ∨ (X4_reason_f vF vR aR p0).1 = 3 ∨ (X4_reason_f vF vR aR p0).1 = 4) : kL l yL_reason wL_reason 7 103 1 6 g [.ref oF, .int p0, .ref oL] [X4W g oF (kFr oC oS oH oR oT oB) vF, X3W g oR rR vR aR, OLW g oL fL] (fun x u => x = kLk2 3 ((X4_reason_f vF vR aR p0).1) ∧ ∃ h : Nat → Int64, ((X4_reason_f vF vR aR p0).1 = 0 → h 0 = ((X4_reason_f vF vR aR p0).2).toInt64) ∧ u = [X4W g oF (kFr oC oS oH oR oT oB) vF, X3W g oR rR vR aR, OLW g oL h]) := by
  refine kL_of (cc := cL_reason) (nL := 4) (ret := some .int) (lv := [(0, .ref oF), (1, .int p0), (2, .ref oL)]) (by decide) rfl (Nat.le_of_ble_eq_true rfl) rfl ?_
  intro p e s m args below meth c ls A htab hN C hP hD hE hA hS hl
  have C : kC p c cL_reason s m args meth RL g 4 (some .int) := C
  have hx := C.1.1
  have hb := C.1.2.1
  have hts := C.1.2.2.2.2
  refine lv_aload_n hx hb dL_reason_0 rfl (lv_at hl 2 rfl) ?_
  refine lv_iconst (v := 0) hx hb dL_reason_1 (by decide) ?_
  refine lv_aload_n hx hb dL_reason_2 rfl (lv_at hl 0 rfl) ?_
  refine lv_iload_n hx hb dL_reason_3 rfl (lv_at hl 1 rfl) ?_
  refine kX_V (As := [.int p0]) (rest := [.int 0, .ref oL]) (wr := [OLW g oL fL]) C (X4_reason_c l g oF vF oC oS oH oT oB oR rR vR aR p0 hfl) (cwV 1 hts (k_gV kw1093 ca_X4_reason) rfl rfl rfl ⟨rfl, pnX4_reason⟩ ⟨Nat.le_of_ble_eq_true rfl, Nat.le_of_ble_eq_true rfl⟩) hE hS hA hP hD [0, 1] [2] rfl rfl ⟨rfl, rfl, by decide⟩ (k_recv C kFX4 hP (i := 0) (q := 0) rfl rfl) rfl hl.1 rfl rfl dL_reason_4 ⟨Nat.le_of_ble_eq_true rfl, Nat.le_of_ble_eq_true rfl⟩ (fun E u H locs qE ce hp hP hD hS hce hcv hcl => ?_) (fun r u H locs hp hP hD hS => ?_)
  · obtain ⟨hc, hE2, hu⟩ := hp
    subst hu
    have hP : kp g [X4W g oF (kFr oC oS oH oR oT oB) vF, X3W g oR rR vR aR, OLW g oL fL] H := hP.pick [1, 2, 0] rfl
    have hD : kd A [X4W g oF (kFr oC oS oH oR oT oB) vF, X3W g oR rR vR aR, OLW g oL fL] := hD.pick [1, 2, 0] rfl rfl
    rcases hcd with h0 | h3 | h4
    · exact absurd h0 hc
    · rw [h3] at hE2
      subst hE2
      refine kx_catch1 (E := "java/lang/IllegalArgumentException") C htab rfl (by decide) kw791 (List.mem_of_getElem? (i := 86) rfl) hce hcv hcl ?_
      refine lv_astore_n (lv' := [(3, .ref qE), (0, .ref oF), (1, .int p0), (2, .ref oL)]) hx hb dL_reason_12 rfl hl (by decide) rfl (fun ls hl => ?_)
      refine lv_iconst (v := 1) hx hb dL_reason_13 (by decide) ?_
      exact kL_ret C hP hD hS ⟨by rw [h3]; rfl, _, fun z => absurd z hc, rfl⟩ ⟨Nat.le_of_ble_eq_true rfl, Nat.le_of_ble_eq_true rfl⟩ dL_reason_14
    · rw [h4] at hE2
      subst hE2
      refine kx_catch2 (E := "java/util/NoSuchElementException") (F := "java/lang/IllegalArgumentException") C htab (by decide) kw791 hN.2.2.2 rfl (by decide) kw898 (List.mem_of_getElem? (i := 87) rfl) hce hcv hcl ?_
      refine lv_astore_n (lv' := [(3, .ref qE), (0, .ref oF), (1, .int p0), (2, .ref oL)]) hx hb dL_reason_15 rfl hl (by decide) rfl (fun ls hl => ?_)
      refine lv_iconst (v := 2) hx hb dL_reason_16 (by decide) ?_
      exact kL_ret C hP hD hS ⟨by rw [h4]; rfl, _, fun z => absurd z hc, rfl⟩ ⟨Nat.le_of_ble_eq_true rfl, Nat.le_of_ble_eq_true rfl⟩ dL_reason_17
  obtain ⟨hc, hr, hu⟩ := hp
  subst hu
  have hP : kp g [X4W g oF (kFr oC oS oH oR oT oB) vF, X3W g oR rR vR aR, OLW g oL fL] H := hP.pick [1, 2, 0] rfl
  have hD : kd A [X4W g oF (kFr oC oS oH oR oT oB) vF, X3W g oR rR vR aR, OLW g oL fL] := hD.pick [1, 2, 0] rfl rfl
  subst hr
  refine lv_i2l hx hb dL_reason_7 rfl ?_
  refine kg_last C hP hD hS (i := 2) rfl rfl dL_reason_8 (fun H locs hP hD hS => ?_)
  have hP : kp g [X4W g oF (kFr oC oS oH oR oT oB) vF, X3W g oR rR vR aR, OLW g oL (vp_updL fL 0 (((X4_reason_f vF vR aR p0).2).toInt64))] H := hP
  have hD : kd A [X4W g oF (kFr oC oS oH oR oT oB) vF, X3W g oR rR vR aR, OLW g oL (vp_updL fL 0 (((X4_reason_f vF vR aR p0).2).toInt64))] := hD
  refine lv_goto (tgt := 18) hx hb dL_reason_9 (by decide) ?_
  refine lv_iconst (v := 0) hx hb dL_reason_18 (by decide) ?_
  exact kL_ret C hP hD hS ⟨by rw [hc]; rfl, _, fun _ => k_updL0 _ _, rfl⟩ ⟨Nat.le_of_ble_eq_true rfl, Nat.le_of_ble_eq_true rfl⟩ dL_reason_19
abbrev wL_line : List Cond := Cond.codeWith yL_line cL_line 4 (some .int) [(0, 9, 12, 55)] :: kW
set_option maxHeartbeats 4000000 in
theorem L_line_c (l : Launch) (g : kG) (oF : Nat) (vF : Nat → Int32) (oS oH oR oT oB : Nat) (oC : Nat) (rC : Nat → Nat) (vC : Nat → Int32) (aC : Nat → Nat → Int32) (q n : Nat) (ml : Int32) (f : Nat → Int32) (k : Nat) (hn : n = 16 ∨ n = 34) (hk : k ≤ n) (hf : sb_Fit f) (p0 : Int32) (nb : Nat) (hnb : nb ≤ 6) (hv7 : vC 7 = nI nb) (hfl : l.stackTraces = false) (oL : Nat) (fL : Nat → Int64) (hcd : X4_checkBag_f vF vC aC p0 = 0 ∨ X4_checkBag_f vF vC aC p0 = 2) : kL l yL_line wL_line 9 521 21 690 g [.ref oF, .int p0, .ref oL] [X4W g oF (kFr oC oS oH oR oT oB) vF, X0W g oC rC vC aC, JOW oB q ml (nI k), JAW g q n f, OLW g oL fL] (fun x u => x = kLk1 (X4_checkBag_f vF vC aC p0) ∧ ∃ (h : Nat → Int64) (v : List va_W), (X4_checkBag_f vF vC aC p0 = 0 → h 0 = (nI (kLine (X4_line_w vC aC p0)).2).toInt64) ∧ u = X4W g oF (kFr oC oS oH oR oT oB) vF :: X0W g oC rC vC aC :: (v ++ [OLW g oL h]) ∧ (X4_checkBag_f vF vC aC p0 = 0 → kSBt g oB (kLine (X4_line_w vC aC p0)) v) ∧ (X4_checkBag_f vF vC aC p0 ≠ 0 → v = [JOW oB q ml (nI k), JAW g q n f])) := by
  refine kL_of (cc := cL_line) (nL := 4) (ret := some .int) (lv := [(0, .ref oF), (1, .int p0), (2, .ref oL)]) (by decide) rfl (Nat.le_of_ble_eq_true rfl) rfl ?_
  intro p e s m args below meth c ls A htab hN C hP hD hE hA hS hl
  have C : kC p c cL_line s m args meth RL g 4 (some .int) := C
  have hx := C.1.1
  have hb := C.1.2.1
  have hts := C.1.2.2.2.2
  refine lv_aload_n hx hb dL_line_0 rfl (lv_at hl 2 rfl) ?_
  refine lv_iconst (v := 0) hx hb dL_line_1 (by decide) ?_
  refine lv_aload_n hx hb dL_line_2 rfl (lv_at hl 0 rfl) ?_
  refine lv_iload_n hx hb dL_line_3 rfl (lv_at hl 1 rfl) ?_
  refine kX_V (As := [.int p0]) (rest := [.int 0, .ref oL]) (wr := [OLW g oL fL]) C (X4_line_c l g oF vF oS oH oR oT oB oC rC vC aC q n ml f k hn hk hf p0 nb hnb hv7 hfl) (cwV 1 hts (k_gV kw1102 ca_X4_line) rfl rfl rfl ⟨rfl, pnX4_line⟩ ⟨Nat.le_of_ble_eq_true rfl, Nat.le_of_ble_eq_true rfl⟩) hE hS hA hP hD [0, 1, 2, 3] [4] rfl rfl ⟨rfl, rfl, by decide⟩ (k_recv C kFX4 hP (i := 0) (q := 0) rfl rfl) rfl hl.1 rfl rfl dL_line_4 ⟨Nat.le_of_ble_eq_true rfl, Nat.le_of_ble_eq_true rfl⟩ (fun E u H locs qE ce hp hP hD hS hce hcv hcl => ?_) (fun r u H locs hp hP hD hS => ?_)
  · obtain ⟨hc, hE2, hu⟩ := hp
    subst hu
    have hP : kp g [X4W g oF (kFr oC oS oH oR oT oB) vF, X0W g oC rC vC aC, JOW oB q ml (nI k), JAW g q n f, OLW g oL fL] H := hP.pick [1, 2, 3, 4, 0] rfl
    have hD : kd A [X4W g oF (kFr oC oS oH oR oT oB) vF, X0W g oC rC vC aC, JOW oB q ml (nI k), JAW g q n f, OLW g oL fL] := hD.pick [1, 2, 3, 4, 0] rfl rfl
    rcases hcd with h0 | h2
    · exact absurd h0 hc
    · rw [h2] at hE2
      subst hE2
      refine kx_catch1 (E := "java/lang/IndexOutOfBoundsException") C htab rfl (by decide) kw746 (List.mem_of_getElem? (i := 85) rfl) hce hcv hcl ?_
      refine lv_astore_n (lv' := [(3, .ref qE), (0, .ref oF), (1, .int p0), (2, .ref oL)]) hx hb dL_line_12 rfl hl (by decide) rfl (fun ls hl => ?_)
      refine lv_iconst (v := 1) hx hb dL_line_13 (by decide) ?_
      exact kL_ret C hP hD hS ⟨by rw [h2]; rfl, fL, _, fun z => absurd z hc, rfl, fun z => absurd z hc, fun _ => rfl⟩ ⟨Nat.le_of_ble_eq_true rfl, Nat.le_of_ble_eq_true rfl⟩ dL_line_14
  obtain ⟨hc, hr, v2, hu, q2, n2, ml2, f2, rfl, hn2, hk2, hf2, hl2⟩ := hp
  subst hu
  subst hr
  have hP : kp g [X4W g oF (kFr oC oS oH oR oT oB) vF, X0W g oC rC vC aC, JOW oB q2 ml2 (nI (kLine (X4_line_w vC aC p0)).2), JAW g q2 n2 f2, OLW g oL fL] H := hP.pick [1, 2, 3, 4, 0] rfl
  have hD : kd A [X4W g oF (kFr oC oS oH oR oT oB) vF, X0W g oC rC vC aC, JOW oB q2 ml2 (nI (kLine (X4_line_w vC aC p0)).2), JAW g q2 n2 f2, OLW g oL fL] := hD.pick [1, 2, 3, 4, 0] rfl rfl
  refine lv_i2l hx hb dL_line_7 rfl ?_
  refine kg_last C hP hD hS (i := 4) rfl rfl dL_line_8 (fun H locs hP hD hS => ?_)
  have hP : kp g [X4W g oF (kFr oC oS oH oR oT oB) vF, X0W g oC rC vC aC, JOW oB q2 ml2 (nI (kLine (X4_line_w vC aC p0)).2), JAW g q2 n2 f2, OLW g oL (vp_updL fL 0 ((nI (kLine (X4_line_w vC aC p0)).2).toInt64))] H := hP
  have hD : kd A [X4W g oF (kFr oC oS oH oR oT oB) vF, X0W g oC rC vC aC, JOW oB q2 ml2 (nI (kLine (X4_line_w vC aC p0)).2), JAW g q2 n2 f2, OLW g oL (vp_updL fL 0 ((nI (kLine (X4_line_w vC aC p0)).2).toInt64))] := hD
  refine lv_goto (tgt := 15) hx hb dL_line_9 (by decide) ?_
  refine lv_iconst (v := 0) hx hb dL_line_15 (by decide) ?_
  exact kL_ret C hP hD hS ⟨by rw [hc]; rfl, _, _, fun _ => k_updL0 _ _, rfl, fun _ => ⟨q2, n2, ml2, f2, rfl, hn2, hk2, hf2, hl2⟩, fun z => absurd hc z⟩ ⟨Nat.le_of_ble_eq_true rfl, Nat.le_of_ble_eq_true rfl⟩ dL_line_16
abbrev wL_character : List Cond := Cond.codeWith yL_character cL_character 4 (some .int) [(0, 9, 12, 55)] :: kW
set_option maxHeartbeats 4000000 in
theorem L_character_c (l : Launch) (g : kG) (oF : Nat) (vF : Nat → Int32) (oC oS oH oR oT oB : Nat) (q n : Nat) (ml : Int32) (f : Nat → Int32) (t : Nat → Nat) (k : Nat) (hn : n = 16 ∨ n = 34) (hk : k ≤ n) (hf : sb_Fit f) (hL : sb_Lat t k f) (p0 : Int32) (hfl : l.stackTraces = false) (oL : Nat) (fL : Nat → Int64) (hcd : (X4_character_f (t, k) p0).1 = 0 ∨ (X4_character_f (t, k) p0).1 = 2) : kL l yL_character wL_character 8 421 1 6 g [.ref oF, .int p0, .ref oL] [X4W g oF (kFr oC oS oH oR oT oB) vF, JOW oB q ml (nI k), JAW g q n f, OLW g oL fL] (fun x u => x = kLk1 ((X4_character_f (t, k) p0).1) ∧ ∃ h : Nat → Int64, ((X4_character_f (t, k) p0).1 = 0 → h 0 = ((X4_character_f (t, k) p0).2).toInt64) ∧ u = [X4W g oF (kFr oC oS oH oR oT oB) vF, JOW oB q ml (nI k), JAW g q n f, OLW g oL h]) := by
  refine kL_of (cc := cL_character) (nL := 4) (ret := some .int) (lv := [(0, .ref oF), (1, .int p0), (2, .ref oL)]) (by decide) rfl (Nat.le_of_ble_eq_true rfl) rfl ?_
  intro p e s m args below meth c ls A htab hN C hP hD hE hA hS hl
  have C : kC p c cL_character s m args meth RL g 4 (some .int) := C
  have hx := C.1.1
  have hb := C.1.2.1
  have hts := C.1.2.2.2.2
  refine lv_aload_n hx hb dL_character_0 rfl (lv_at hl 2 rfl) ?_
  refine lv_iconst (v := 0) hx hb dL_character_1 (by decide) ?_
  refine lv_aload_n hx hb dL_character_2 rfl (lv_at hl 0 rfl) ?_
  refine lv_iload_n hx hb dL_character_3 rfl (lv_at hl 1 rfl) ?_
  refine kX_V (As := [.int p0]) (rest := [.int 0, .ref oL]) (wr := [OLW g oL fL]) C (X4_character_c l g oF vF oC oS oH oR oT oB q n ml f t k hn hk hf hL p0 hfl) (cwV 1 hts (k_gV kw1359 ca_X4_character) rfl rfl rfl ⟨rfl, pnX4_character⟩ ⟨Nat.le_of_ble_eq_true rfl, Nat.le_of_ble_eq_true rfl⟩) hE hS hA hP hD [0, 1, 2] [3] rfl rfl ⟨rfl, rfl, by decide⟩ (k_recv C kFX4 hP (i := 0) (q := 0) rfl rfl) rfl hl.1 rfl rfl dL_character_4 ⟨Nat.le_of_ble_eq_true rfl, Nat.le_of_ble_eq_true rfl⟩ (fun E u H locs qE ce hp hP hD hS hce hcv hcl => ?_) (fun r u H locs hp hP hD hS => ?_)
  · obtain ⟨hc, hE2, hu⟩ := hp
    subst hu
    have hP : kp g [X4W g oF (kFr oC oS oH oR oT oB) vF, JOW oB q ml (nI k), JAW g q n f, OLW g oL fL] H := hP.pick [1, 2, 3, 0] rfl
    have hD : kd A [X4W g oF (kFr oC oS oH oR oT oB) vF, JOW oB q ml (nI k), JAW g q n f, OLW g oL fL] := hD.pick [1, 2, 3, 0] rfl rfl
    rcases hcd with h0 | h2
    · exact absurd h0 hc
    · rw [h2] at hE2
      subst hE2
      refine kx_catch1 (E := "java/lang/IndexOutOfBoundsException") C htab rfl (by decide) kw746 (List.mem_of_getElem? (i := 85) rfl) hce hcv hcl ?_
      refine lv_astore_n (lv' := [(3, .ref qE), (0, .ref oF), (1, .int p0), (2, .ref oL)]) hx hb dL_character_12 rfl hl (by decide) rfl (fun ls hl => ?_)
      refine lv_iconst (v := 1) hx hb dL_character_13 (by decide) ?_
      exact kL_ret C hP hD hS ⟨by rw [h2]; rfl, _, fun z => absurd z hc, rfl⟩ ⟨Nat.le_of_ble_eq_true rfl, Nat.le_of_ble_eq_true rfl⟩ dL_character_14
  obtain ⟨hc, hr, hu⟩ := hp
  subst hu
  have hP : kp g [X4W g oF (kFr oC oS oH oR oT oB) vF, JOW oB q ml (nI k), JAW g q n f, OLW g oL fL] H := hP.pick [1, 2, 3, 0] rfl
  have hD : kd A [X4W g oF (kFr oC oS oH oR oT oB) vF, JOW oB q ml (nI k), JAW g q n f, OLW g oL fL] := hD.pick [1, 2, 3, 0] rfl rfl
  subst hr
  refine lv_i2l hx hb dL_character_7 rfl ?_
  refine kg_last C hP hD hS (i := 3) rfl rfl dL_character_8 (fun H locs hP hD hS => ?_)
  have hP : kp g [X4W g oF (kFr oC oS oH oR oT oB) vF, JOW oB q ml (nI k), JAW g q n f, OLW g oL (vp_updL fL 0 (((X4_character_f (t, k) p0).2).toInt64))] H := hP
  have hD : kd A [X4W g oF (kFr oC oS oH oR oT oB) vF, JOW oB q ml (nI k), JAW g q n f, OLW g oL (vp_updL fL 0 (((X4_character_f (t, k) p0).2).toInt64))] := hD
  refine lv_goto (tgt := 15) hx hb dL_character_9 (by decide) ?_
  refine lv_iconst (v := 0) hx hb dL_character_15 (by decide) ?_
  exact kL_ret C hP hD hS ⟨by rw [hc]; rfl, _, fun _ => k_updL0 _ _, rfl⟩ ⟨Nat.le_of_ble_eq_true rfl, Nat.le_of_ble_eq_true rfl⟩ dL_character_16
abbrev wL_meanDust : List Cond := Cond.codeWith yL_meanDust cL_meanDust 3 (some .int) [(0, 8, 11, 124)] :: kW
set_option maxHeartbeats 4000000 in
theorem L_meanDust_c (l : Launch) (g : kG) (oF : Nat) (vF : Nat → Int32) (oS oH oR oT oB : Nat) (oC : Nat) (rC : Nat → Nat) (vC : Nat → Int32) (aC : Nat → Nat → Int32) (nb : Nat) (hnb : nb ≤ 6) (hv7 : vC 7 = nI nb) (hfl : l.stackTraces = false) (oD : Nat) (fD : Nat → UInt64) (hcd : (X4_meanDust_f vC aC).1 = 0 ∨ (X4_meanDust_f vC aC).1 = 6) : kL l yL_meanDust wL_meanDust 8 220 1 6 g [.ref oF, .ref oD] [X4W g oF (kFr oC oS oH oR oT oB) vF, X0W g oC rC vC aC, ODW g oD fD] (fun x u => x = kLk1 ((X4_meanDust_f vC aC).1) ∧ ∃ h : Nat → UInt64, ((X4_meanDust_f vC aC).1 = 0 → h 0 = FP.f2d ((X4_meanDust_f vC aC).2)) ∧ u = [X4W g oF (kFr oC oS oH oR oT oB) vF, X0W g oC rC vC aC, ODW g oD h]) := by
  refine kL_of (cc := cL_meanDust) (nL := 3) (ret := some .int) (lv := [(0, .ref oF), (1, .ref oD)]) (by decide) rfl (Nat.le_of_ble_eq_true rfl) rfl ?_
  intro p e s m args below meth c ls A htab hN C hP hD hE hA hS hl
  have C : kC p c cL_meanDust s m args meth RL g 3 (some .int) := C
  have hx := C.1.1
  have hb := C.1.2.1
  have hts := C.1.2.2.2.2
  refine lv_aload_n hx hb dL_meanDust_0 rfl (lv_at hl 1 rfl) ?_
  refine lv_iconst (v := 0) hx hb dL_meanDust_1 (by decide) ?_
  refine lv_aload_n hx hb dL_meanDust_2 rfl (lv_at hl 0 rfl) ?_
  refine kXF_V (As := []) (rest := [.int 0, .ref oD]) (wr := [ODW g oD fD]) C (X4_meanDust_c l g oF vF oS oH oR oT oB oC rC vC aC nb hnb hv7 hfl) (cwV 0 hts (k_gV kw1391 ca_X4_meanDust) rfl rfl rfl ⟨rfl, pnX4_meanDust⟩ ⟨Nat.le_of_ble_eq_true rfl, Nat.le_of_ble_eq_true rfl⟩) hE hS hA hP hD [0, 1] [2] rfl rfl ⟨rfl, rfl, by decide⟩ (k_recv C kFX4 hP (i := 0) (q := 0) rfl rfl) rfl hl.1 rfl rfl dL_meanDust_3 ⟨Nat.le_of_ble_eq_true rfl, Nat.le_of_ble_eq_true rfl⟩ (fun E u H locs qE ce hp hP hD hS hce hcv hcl => ?_) (fun r u H locs hp hP hD hS => ?_)
  · obtain ⟨hc, hE2, hu⟩ := hp
    subst hu
    have hP : kp g [X4W g oF (kFr oC oS oH oR oT oB) vF, X0W g oC rC vC aC, ODW g oD fD] H := hP.pick [1, 2, 0] rfl
    have hD : kd A [X4W g oF (kFr oC oS oH oR oT oB) vF, X0W g oC rC vC aC, ODW g oD fD] := hD.pick [1, 2, 0] rfl rfl
    rcases hcd with h0 | h6
    · exact absurd h0 hc
    · rw [h6] at hE2
      subst hE2
      refine kx_catch1 (E := "java/lang/ArithmeticException") C htab rfl (by decide) kw1377 (List.mem_of_getElem? (i := 89) rfl) hce hcv hcl ?_
      refine lv_astore_n (lv' := [(2, .ref qE), (0, .ref oF), (1, .ref oD)]) hx hb dL_meanDust_11 rfl hl (by decide) rfl (fun ls hl => ?_)
      refine lv_iconst (v := 1) hx hb dL_meanDust_12 (by decide) ?_
      exact kL_ret C hP hD hS ⟨by rw [h6]; rfl, _, fun z => absurd z hc, rfl⟩ ⟨Nat.le_of_ble_eq_true rfl, Nat.le_of_ble_eq_true rfl⟩ dL_meanDust_13
  obtain ⟨hc, hr, hu⟩ := hp
  subst hu
  have hP : kp g [X4W g oF (kFr oC oS oH oR oT oB) vF, X0W g oC rC vC aC, ODW g oD fD] H := hP.pick [1, 2, 0] rfl
  have hD : kd A [X4W g oF (kFr oC oS oH oR oT oB) vF, X0W g oC rC vC aC, ODW g oD fD] := hD.pick [1, 2, 0] rfl rfl
  subst hr
  by_cases hz : vC 7 = 0
  · exact absurd (hc.symm.trans (congrArg Prod.fst (if_pos hz))) (by decide)
  refine lv_f2d hx hb dL_meanDust_6 (by rw [show (X4_meanDust_f vC aC).2 = FP.fdiv (FP.i2f (X0_dustTogether_f vC aC)) (FP.i2f (vC 7)) from congrArg Prod.snd (if_neg hz)]; exact kf_f2d_ok _ _ hz) ?_
  refine kg_dast C hP hD hS (i := 2) rfl rfl dL_meanDust_7 (fun H locs hP hD hS => ?_)
  have hP : kp g [X4W g oF (kFr oC oS oH oR oT oB) vF, X0W g oC rC vC aC, ODW g oD (vf_upd fD 0 (FP.f2d ((X4_meanDust_f vC aC).2)))] H := hP
  have hD : kd A [X4W g oF (kFr oC oS oH oR oT oB) vF, X0W g oC rC vC aC, ODW g oD (vf_upd fD 0 (FP.f2d ((X4_meanDust_f vC aC).2)))] := hD
  refine lv_goto (tgt := 14) hx hb dL_meanDust_8 (by decide) ?_
  refine lv_iconst (v := 0) hx hb dL_meanDust_14 (by decide) ?_
  exact kL_ret C hP hD hS ⟨by rw [hc]; rfl, _, fun _ => k_updD0 _ _, rfl⟩ ⟨Nat.le_of_ble_eq_true rfl, Nat.le_of_ble_eq_true rfl⟩ dL_meanDust_15
abbrev wL_honestShare : List Cond := Cond.codeWith yL_honestShare cL_honestShare 3 (some .int) [(0, 7, 10, 124)] :: kW
set_option maxHeartbeats 4000000 in
theorem L_honestShare_c (l : Launch) (g : kG) (oF : Nat) (vF : Nat → Int32) (oS oH oR oT oB : Nat) (oC : Nat) (rC : Nat → Nat) (vC : Nat → Int32) (aC : Nat → Nat → Int32) (hfl : l.stackTraces = false) (oD : Nat) (fD : Nat → UInt64) (hcd : (X4_honestShare_f vC aC).1 = 0 ∨ (X4_honestShare_f vC aC).1 = 6) : kL l yL_honestShare wL_honestShare 8 220 1 6 g [.ref oF, .ref oD] [X4W g oF (kFr oC oS oH oR oT oB) vF, X0W g oC rC vC aC, ODW g oD fD] (fun x u => x = kLk1 ((X4_honestShare_f vC aC).1) ∧ ∃ h : Nat → UInt64, ((X4_honestShare_f vC aC).1 = 0 → h 0 = ((X4_honestShare_f vC aC).2)) ∧ u = [X4W g oF (kFr oC oS oH oR oT oB) vF, X0W g oC rC vC aC, ODW g oD h]) := by
  refine kL_of (cc := cL_honestShare) (nL := 3) (ret := some .int) (lv := [(0, .ref oF), (1, .ref oD)]) (by decide) rfl (Nat.le_of_ble_eq_true rfl) rfl ?_
  intro p e s m args below meth c ls A htab hN C hP hD hE hA hS hl
  have C : kC p c cL_honestShare s m args meth RL g 3 (some .int) := C
  have hx := C.1.1
  have hb := C.1.2.1
  have hts := C.1.2.2.2.2
  refine lv_aload_n hx hb dL_honestShare_0 rfl (lv_at hl 1 rfl) ?_
  refine lv_iconst (v := 0) hx hb dL_honestShare_1 (by decide) ?_
  refine lv_aload_n hx hb dL_honestShare_2 rfl (lv_at hl 0 rfl) ?_
  refine kXD_V (As := []) (rest := [.int 0, .ref oD]) (wr := [ODW g oD fD]) C (X4_honestShare_c l g oF vF oS oH oR oT oB oC rC vC aC hfl) (cwV 0 hts (k_gV kw1402 ca_X4_honestShare) rfl rfl rfl ⟨rfl, pnX4_honestShare⟩ ⟨Nat.le_of_ble_eq_true rfl, Nat.le_of_ble_eq_true rfl⟩) hE hS hA hP hD [0, 1] [2] rfl rfl ⟨rfl, rfl, by decide⟩ (k_recv C kFX4 hP (i := 0) (q := 0) rfl rfl) rfl hl.1 rfl rfl dL_honestShare_3 ⟨Nat.le_of_ble_eq_true rfl, Nat.le_of_ble_eq_true rfl⟩ (fun E u H locs qE ce hp hP hD hS hce hcv hcl => ?_) (fun r u H locs hp hP hD hS => ?_)
  · obtain ⟨hc, hE2, hu⟩ := hp
    subst hu
    have hP : kp g [X4W g oF (kFr oC oS oH oR oT oB) vF, X0W g oC rC vC aC, ODW g oD fD] H := hP.pick [1, 2, 0] rfl
    have hD : kd A [X4W g oF (kFr oC oS oH oR oT oB) vF, X0W g oC rC vC aC, ODW g oD fD] := hD.pick [1, 2, 0] rfl rfl
    rcases hcd with h0 | h6
    · exact absurd h0 hc
    · rw [h6] at hE2
      subst hE2
      refine kx_catch1 (E := "java/lang/ArithmeticException") C htab rfl (by decide) kw1377 (List.mem_of_getElem? (i := 89) rfl) hce hcv hcl ?_
      refine lv_astore_n (lv' := [(2, .ref qE), (0, .ref oF), (1, .ref oD)]) hx hb dL_honestShare_10 rfl hl (by decide) rfl (fun ls hl => ?_)
      refine lv_iconst (v := 1) hx hb dL_honestShare_11 (by decide) ?_
      exact kL_ret C hP hD hS ⟨by rw [h6]; rfl, _, fun z => absurd z hc, rfl⟩ ⟨Nat.le_of_ble_eq_true rfl, Nat.le_of_ble_eq_true rfl⟩ dL_honestShare_12
  obtain ⟨hc, hr, hu⟩ := hp
  subst hu
  have hP : kp g [X4W g oF (kFr oC oS oH oR oT oB) vF, X0W g oC rC vC aC, ODW g oD fD] H := hP.pick [1, 2, 0] rfl
  have hD : kd A [X4W g oF (kFr oC oS oH oR oT oB) vF, X0W g oC rC vC aC, ODW g oD fD] := hD.pick [1, 2, 0] rfl rfl
  subst hr
  refine kg_dast C hP hD hS (i := 2) rfl rfl dL_honestShare_6 (fun H locs hP hD hS => ?_)
  have hP : kp g [X4W g oF (kFr oC oS oH oR oT oB) vF, X0W g oC rC vC aC, ODW g oD (vf_upd fD 0 ((X4_honestShare_f vC aC).2))] H := hP
  have hD : kd A [X4W g oF (kFr oC oS oH oR oT oB) vF, X0W g oC rC vC aC, ODW g oD (vf_upd fD 0 ((X4_honestShare_f vC aC).2))] := hD
  refine lv_goto (tgt := 13) hx hb dL_honestShare_7 (by decide) ?_
  refine lv_iconst (v := 0) hx hb dL_honestShare_13 (by decide) ?_
  exact kL_ret C hP hD hS ⟨by rw [hc]; rfl, _, fun _ => k_updD0 _ _, rfl⟩ ⟨Nat.le_of_ble_eq_true rfl, Nat.le_of_ble_eq_true rfl⟩ dL_honestShare_14
abbrev wL_account : List Cond := Cond.codeWith yL_account cL_account 4 (some .int) [(0, 9, 12, 60)] :: kW
set_option maxHeartbeats 4000000 in
theorem L_account_c (l : Launch) (g : kG) (oF : Nat) (vF : Nat → Int32) (oS oR oB : Nat) (oC : Nat) (rC : Nat → Nat) (vC : Nat → Int32) (aC : Nat → Nat → Int32) (oH : Nat) (rH : Nat → Nat) (vH : Nat → Int32) (oQ : Nat → Nat) (rQ : Nat → Nat → Nat) (aH : Nat → (Nat → Int32) × (Nat → Nat → Int32)) (oT : Nat) (rT : Nat → Nat) (vT : Nat → Int32) (aT : Nat → Nat → Int32) (p0 : Int32) (nb : Nat) (nj : Nat) (hnb : nb ≤ 6) (hv7 : vC 7 = nI nb) (hnj : nj ≤ 6) (hv4 : vC 4 = nI nj) (hfl : l.stackTraces = false) (oL : Nat) (fL : Nat → Int64) (hcd : (X4_account_f vF vC aC vH aH vT aT p0).1 = 0 ∨ (X4_account_f vF vC aC vH aH vT aT p0).1 = 3) : kL l yL_account wL_account 7 103 1 6 g [.ref oF, .int p0, .ref oL] [X4W g oF (kFr oC oS oH oR oT oB) vF, X0W g oC rC vC aC, X2W g oH rH vH oQ rQ aH, X1W g oT rT vT aT, OLW g oL fL] (fun x u => x = kLk1 ((X4_account_f vF vC aC vH aH vT aT p0).1) ∧ ∃ h : Nat → Int64, ((X4_account_f vF vC aC vH aH vT aT p0).1 = 0 → h 0 = ((X4_account_f vF vC aC vH aH vT aT p0).2).toInt64) ∧ u = [X4W g oF (kFr oC oS oH oR oT oB) vF, X0W g oC rC vC aC, X2W g oH rH vH oQ rQ aH, X1W g oT rT vT aT, OLW g oL h]) := by
  refine kL_of (cc := cL_account) (nL := 4) (ret := some .int) (lv := [(0, .ref oF), (1, .int p0), (2, .ref oL)]) (by decide) rfl (Nat.le_of_ble_eq_true rfl) rfl ?_
  intro p e s m args below meth c ls A htab hN C hP hD hE hA hS hl
  have C : kC p c cL_account s m args meth RL g 4 (some .int) := C
  have hx := C.1.1
  have hb := C.1.2.1
  have hts := C.1.2.2.2.2
  refine lv_aload_n hx hb dL_account_0 rfl (lv_at hl 2 rfl) ?_
  refine lv_iconst (v := 0) hx hb dL_account_1 (by decide) ?_
  refine lv_aload_n hx hb dL_account_2 rfl (lv_at hl 0 rfl) ?_
  refine lv_iload_n hx hb dL_account_3 rfl (lv_at hl 1 rfl) ?_
  refine kX_V (As := [.int p0]) (rest := [.int 0, .ref oL]) (wr := [OLW g oL fL]) C (X4_account_c l g oF vF oS oR oB oC rC vC aC oH rH vH oQ rQ aH oT rT vT aT p0 nb nj hnb hv7 hnj hv4 hfl) (cwV 1 hts (k_gV kw1410 ca_X4_account) rfl rfl rfl ⟨rfl, pnX4_account⟩ ⟨Nat.le_of_ble_eq_true rfl, Nat.le_of_ble_eq_true rfl⟩) hE hS hA hP hD [0, 1, 2, 3] [4] rfl rfl ⟨rfl, rfl, by decide⟩ (k_recv C kFX4 hP (i := 0) (q := 0) rfl rfl) rfl hl.1 rfl rfl dL_account_4 ⟨Nat.le_of_ble_eq_true rfl, Nat.le_of_ble_eq_true rfl⟩ (fun E u H locs qE ce hp hP hD hS hce hcv hcl => ?_) (fun r u H locs hp hP hD hS => ?_)
  · obtain ⟨hc, hE2, hu⟩ := hp
    subst hu
    have hP : kp g [X4W g oF (kFr oC oS oH oR oT oB) vF, X0W g oC rC vC aC, X2W g oH rH vH oQ rQ aH, X1W g oT rT vT aT, OLW g oL fL] H := hP.pick [1, 2, 3, 4, 0] rfl
    have hD : kd A [X4W g oF (kFr oC oS oH oR oT oB) vF, X0W g oC rC vC aC, X2W g oH rH vH oQ rQ aH, X1W g oT rT vT aT, OLW g oL fL] := hD.pick [1, 2, 3, 4, 0] rfl rfl
    rcases hcd with h0 | h3
    · exact absurd h0 hc
    · rw [h3] at hE2
      subst hE2
      refine kx_catch1 (E := "java/lang/IllegalArgumentException") C htab rfl (by decide) kw791 (List.mem_of_getElem? (i := 86) rfl) hce hcv hcl ?_
      refine lv_astore_n (lv' := [(3, .ref qE), (0, .ref oF), (1, .int p0), (2, .ref oL)]) hx hb dL_account_12 rfl hl (by decide) rfl (fun ls hl => ?_)
      refine lv_iconst (v := 1) hx hb dL_account_13 (by decide) ?_
      exact kL_ret C hP hD hS ⟨by rw [h3]; rfl, _, fun z => absurd z hc, rfl⟩ ⟨Nat.le_of_ble_eq_true rfl, Nat.le_of_ble_eq_true rfl⟩ dL_account_14
  obtain ⟨hc, hr, hu⟩ := hp
  subst hu
  have hP : kp g [X4W g oF (kFr oC oS oH oR oT oB) vF, X0W g oC rC vC aC, X2W g oH rH vH oQ rQ aH, X1W g oT rT vT aT, OLW g oL fL] H := hP.pick [1, 2, 3, 4, 0] rfl
  have hD : kd A [X4W g oF (kFr oC oS oH oR oT oB) vF, X0W g oC rC vC aC, X2W g oH rH vH oQ rQ aH, X1W g oT rT vT aT, OLW g oL fL] := hD.pick [1, 2, 3, 4, 0] rfl rfl
  subst hr
  refine lv_i2l hx hb dL_account_7 rfl ?_
  refine kg_last C hP hD hS (i := 4) rfl rfl dL_account_8 (fun H locs hP hD hS => ?_)
  have hP : kp g [X4W g oF (kFr oC oS oH oR oT oB) vF, X0W g oC rC vC aC, X2W g oH rH vH oQ rQ aH, X1W g oT rT vT aT, OLW g oL (vp_updL fL 0 (((X4_account_f vF vC aC vH aH vT aT p0).2).toInt64))] H := hP
  have hD : kd A [X4W g oF (kFr oC oS oH oR oT oB) vF, X0W g oC rC vC aC, X2W g oH rH vH oQ rQ aH, X1W g oT rT vT aT, OLW g oL (vp_updL fL 0 (((X4_account_f vF vC aC vH aH vT aT p0).2).toInt64))] := hD
  refine lv_goto (tgt := 15) hx hb dL_account_9 (by decide) ?_
  refine lv_iconst (v := 0) hx hb dL_account_15 (by decide) ?_
  exact kL_ret C hP hD hS ⟨by rw [hc]; rfl, _, fun _ => k_updL0 _ _, rfl⟩ ⟨Nat.le_of_ble_eq_true rfl, Nat.le_of_ble_eq_true rfl⟩ dL_account_16
abbrev wL_undo : List Cond := Cond.codeWith yL_undo cL_undo 3 (some .int) [(0, 8, 11, 105)] :: kW
set_option maxHeartbeats 4000000 in
theorem L_undo_c (l : Launch) (g : kG) (oF : Nat) (vF : Nat → Int32) (oS oR oT oB : Nat) (oC : Nat) (rC : Nat → Nat) (vC : Nat → Int32) (aC : Nat → Nat → Int32) (oH : Nat) (rH : Nat → Nat) (vH : Nat → Int32) (oQ : Nat → Nat) (rQ : Nat → Nat → Nat) (aH : Nat → (Nat → Int32) × (Nat → Nat → Int32)) (hh : vp_in (vH 1) 9) (hfl : l.stackTraces = false) (oL : Nat) (fL : Nat → Int64) (hcd : (X4_undo_f vF vC aC vH aH).1 = 0 ∨ (X4_undo_f vF vC aC vH aH).1 = 5) : kL l yL_undo wL_undo 7 122 1 6 g [.ref oF, .ref oL] [X4W g oF (kFr oC oS oH oR oT oB) vF, X0W g oC rC vC aC, X2W g oH rH vH oQ rQ aH, OLW g oL fL] (fun x u => x = kLk1 ((X4_undo_f vF vC aC vH aH).1) ∧ ∃ h : Nat → Int64, ((X4_undo_f vF vC aC vH aH).1 = 0 → h 0 = ((X4_undo_f vF vC aC vH aH).2.1).toInt64) ∧ u = [X4W g oF (kFr oC oS oH oR oT oB) vF, X0W g oC rC ((X4_undo_f vF vC aC vH aH).2.2.1) ((X4_undo_f vF vC aC vH aH).2.2.2.1), X2W g oH rH ((X4_undo_f vF vC aC vH aH).2.2.2.2) oQ rQ aH, OLW g oL h]) := by
  refine kL_of (cc := cL_undo) (nL := 3) (ret := some .int) (lv := [(0, .ref oF), (1, .ref oL)]) (by decide) rfl (Nat.le_of_ble_eq_true rfl) rfl ?_
  intro p e s m args below meth c ls A htab hN C hP hD hE hA hS hl
  have C : kC p c cL_undo s m args meth RL g 3 (some .int) := C
  have hx := C.1.1
  have hb := C.1.2.1
  have hts := C.1.2.2.2.2
  refine lv_aload_n hx hb dL_undo_0 rfl (lv_at hl 1 rfl) ?_
  refine lv_iconst (v := 0) hx hb dL_undo_1 (by decide) ?_
  refine lv_aload_n hx hb dL_undo_2 rfl (lv_at hl 0 rfl) ?_
  refine kX_V (As := []) (rest := [.int 0, .ref oL]) (wr := [OLW g oL fL]) C (X4_undo_c l g oF vF oS oR oT oB oC rC vC aC oH rH vH oQ rQ aH hh hfl) (cwV 0 hts (k_gV kw1423 ca_X4_undo) rfl rfl rfl ⟨rfl, pnX4_undo⟩ ⟨Nat.le_of_ble_eq_true rfl, Nat.le_of_ble_eq_true rfl⟩) hE hS hA hP hD [0, 1, 2] [3] rfl rfl ⟨rfl, rfl, by decide⟩ (k_recv C kFX4 hP (i := 0) (q := 0) rfl rfl) rfl hl.1 rfl rfl dL_undo_3 ⟨Nat.le_of_ble_eq_true rfl, Nat.le_of_ble_eq_true rfl⟩ (fun E u H locs qE ce hp hP hD hS hce hcv hcl => ?_) (fun r u H locs hp hP hD hS => ?_)
  · obtain ⟨hc, hE2, hu⟩ := hp
    subst hu
    have hP : kp g [X4W g oF (kFr oC oS oH oR oT oB) vF, X0W g oC rC ((X4_undo_f vF vC aC vH aH).2.2.1) ((X4_undo_f vF vC aC vH aH).2.2.2.1), X2W g oH rH ((X4_undo_f vF vC aC vH aH).2.2.2.2) oQ rQ aH, OLW g oL fL] H := hP.pick [1, 2, 3, 0] rfl
    have hD : kd A [X4W g oF (kFr oC oS oH oR oT oB) vF, X0W g oC rC ((X4_undo_f vF vC aC vH aH).2.2.1) ((X4_undo_f vF vC aC vH aH).2.2.2.1), X2W g oH rH ((X4_undo_f vF vC aC vH aH).2.2.2.2) oQ rQ aH, OLW g oL fL] := hD.pick [1, 2, 3, 0] rfl rfl
    rcases hcd with h0 | h5
    · exact absurd h0 hc
    · rw [h5] at hE2
      subst hE2
      refine kx_catch1 (E := "java/lang/IllegalStateException") C htab rfl (by decide) kw973 (List.mem_of_getElem? (i := 88) rfl) hce hcv hcl ?_
      refine lv_astore_n (lv' := [(2, .ref qE), (0, .ref oF), (1, .ref oL)]) hx hb dL_undo_11 rfl hl (by decide) rfl (fun ls hl => ?_)
      refine lv_iconst (v := 1) hx hb dL_undo_12 (by decide) ?_
      exact kL_ret C hP hD hS ⟨by rw [h5]; rfl, _, fun z => absurd z hc, rfl⟩ ⟨Nat.le_of_ble_eq_true rfl, Nat.le_of_ble_eq_true rfl⟩ dL_undo_13
  obtain ⟨hc, hr, hu⟩ := hp
  subst hu
  have hP : kp g [X4W g oF (kFr oC oS oH oR oT oB) vF, X0W g oC rC ((X4_undo_f vF vC aC vH aH).2.2.1) ((X4_undo_f vF vC aC vH aH).2.2.2.1), X2W g oH rH ((X4_undo_f vF vC aC vH aH).2.2.2.2) oQ rQ aH, OLW g oL fL] H := hP.pick [1, 2, 3, 0] rfl
  have hD : kd A [X4W g oF (kFr oC oS oH oR oT oB) vF, X0W g oC rC ((X4_undo_f vF vC aC vH aH).2.2.1) ((X4_undo_f vF vC aC vH aH).2.2.2.1), X2W g oH rH ((X4_undo_f vF vC aC vH aH).2.2.2.2) oQ rQ aH, OLW g oL fL] := hD.pick [1, 2, 3, 0] rfl rfl
  subst hr
  refine lv_i2l hx hb dL_undo_6 rfl ?_
  refine kg_last C hP hD hS (i := 3) rfl rfl dL_undo_7 (fun H locs hP hD hS => ?_)
  have hP : kp g [X4W g oF (kFr oC oS oH oR oT oB) vF, X0W g oC rC ((X4_undo_f vF vC aC vH aH).2.2.1) ((X4_undo_f vF vC aC vH aH).2.2.2.1), X2W g oH rH ((X4_undo_f vF vC aC vH aH).2.2.2.2) oQ rQ aH, OLW g oL (vp_updL fL 0 (((X4_undo_f vF vC aC vH aH).2.1).toInt64))] H := hP
  have hD : kd A [X4W g oF (kFr oC oS oH oR oT oB) vF, X0W g oC rC ((X4_undo_f vF vC aC vH aH).2.2.1) ((X4_undo_f vF vC aC vH aH).2.2.2.1), X2W g oH rH ((X4_undo_f vF vC aC vH aH).2.2.2.2) oQ rQ aH, OLW g oL (vp_updL fL 0 (((X4_undo_f vF vC aC vH aH).2.1).toInt64))] := hD
  refine lv_goto (tgt := 14) hx hb dL_undo_8 (by decide) ?_
  refine lv_iconst (v := 0) hx hb dL_undo_14 (by decide) ?_
  exact kL_ret C hP hD hS ⟨by rw [hc]; rfl, _, fun _ => k_updL0 _ _, rfl⟩ ⟨Nat.le_of_ble_eq_true rfl, Nat.le_of_ble_eq_true rfl⟩ dL_undo_15
abbrev wL_restore : List Cond := Cond.codeWith yL_restore cL_restore 3 (some .int) [(0, 8, 11, 105)] :: kW
set_option maxHeartbeats 4000000 in
theorem L_restore_c (l : Launch) (g : kG) (oF : Nat) (vF : Nat → Int32) (oR oT oB : Nat) (oC : Nat) (rC : Nat → Nat) (vC : Nat → Int32) (aC : Nat → Nat → Int32) (oS : Nat) (rS : Nat → Nat) (vS : Nat → Int32) (aS : Nat → Nat → Int32) (oH : Nat) (rH : Nat → Nat) (vH : Nat → Int32) (oQ : Nat → Nat) (rQ : Nat → Nat → Nat) (aH : Nat → (Nat → Int32) × (Nat → Nat → Int32)) (hfl : l.stackTraces = false) (oL : Nat) (fL : Nat → Int64) (hcd : (X4_restore_f vF vC aC vS aS vH aH).1 = 0 ∨ (X4_restore_f vF vC aC vS aS vH aH).1 = 5) : kL l yL_restore wL_restore 7 102 1 6 g [.ref oF, .ref oL] [X4W g oF (kFr oC oS oH oR oT oB) vF, X0W g oC rC vC aC, X0W g oS rS vS aS, X2W g oH rH vH oQ rQ aH, OLW g oL fL] (fun x u => x = kLk1 ((X4_restore_f vF vC aC vS aS vH aH).1) ∧ ∃ h : Nat → Int64, ((X4_restore_f vF vC aC vS aS vH aH).1 = 0 → h 0 = ((X4_restore_f vF vC aC vS aS vH aH).2.1).toInt64) ∧ u = [X4W g oF (kFr oC oS oH oR oT oB) vF, X0W g oC rC ((X4_restore_f vF vC aC vS aS vH aH).2.2.1) ((X4_restore_f vF vC aC vS aS vH aH).2.2.2.1), X0W g oS rS vS aS, X2W g oH rH ((X4_restore_f vF vC aC vS aS vH aH).2.2.2.2) oQ rQ aH, OLW g oL h]) := by
  refine kL_of (cc := cL_restore) (nL := 3) (ret := some .int) (lv := [(0, .ref oF), (1, .ref oL)]) (by decide) rfl (Nat.le_of_ble_eq_true rfl) rfl ?_
  intro p e s m args below meth c ls A htab hN C hP hD hE hA hS hl
  have C : kC p c cL_restore s m args meth RL g 3 (some .int) := C
  have hx := C.1.1
  have hb := C.1.2.1
  have hts := C.1.2.2.2.2
  refine lv_aload_n hx hb dL_restore_0 rfl (lv_at hl 1 rfl) ?_
  refine lv_iconst (v := 0) hx hb dL_restore_1 (by decide) ?_
  refine lv_aload_n hx hb dL_restore_2 rfl (lv_at hl 0 rfl) ?_
  refine kX_V (As := []) (rest := [.int 0, .ref oL]) (wr := [OLW g oL fL]) C (X4_restore_c l g oF vF oR oT oB oC rC vC aC oS rS vS aS oH rH vH oQ rQ aH hfl) (cwV 0 hts (k_gV kw1435 ca_X4_restore) rfl rfl rfl ⟨rfl, pnX4_restore⟩ ⟨Nat.le_of_ble_eq_true rfl, Nat.le_of_ble_eq_true rfl⟩) hE hS hA hP hD [0, 1, 2, 3] [4] rfl rfl ⟨rfl, rfl, by decide⟩ (k_recv C kFX4 hP (i := 0) (q := 0) rfl rfl) rfl hl.1 rfl rfl dL_restore_3 ⟨Nat.le_of_ble_eq_true rfl, Nat.le_of_ble_eq_true rfl⟩ (fun E u H locs qE ce hp hP hD hS hce hcv hcl => ?_) (fun r u H locs hp hP hD hS => ?_)
  · obtain ⟨hc, hE2, hu⟩ := hp
    subst hu
    have hP : kp g [X4W g oF (kFr oC oS oH oR oT oB) vF, X0W g oC rC ((X4_restore_f vF vC aC vS aS vH aH).2.2.1) ((X4_restore_f vF vC aC vS aS vH aH).2.2.2.1), X0W g oS rS vS aS, X2W g oH rH ((X4_restore_f vF vC aC vS aS vH aH).2.2.2.2) oQ rQ aH, OLW g oL fL] H := hP.pick [1, 2, 3, 4, 0] rfl
    have hD : kd A [X4W g oF (kFr oC oS oH oR oT oB) vF, X0W g oC rC ((X4_restore_f vF vC aC vS aS vH aH).2.2.1) ((X4_restore_f vF vC aC vS aS vH aH).2.2.2.1), X0W g oS rS vS aS, X2W g oH rH ((X4_restore_f vF vC aC vS aS vH aH).2.2.2.2) oQ rQ aH, OLW g oL fL] := hD.pick [1, 2, 3, 4, 0] rfl rfl
    rcases hcd with h0 | h5
    · exact absurd h0 hc
    · rw [h5] at hE2
      subst hE2
      refine kx_catch1 (E := "java/lang/IllegalStateException") C htab rfl (by decide) kw973 (List.mem_of_getElem? (i := 88) rfl) hce hcv hcl ?_
      refine lv_astore_n (lv' := [(2, .ref qE), (0, .ref oF), (1, .ref oL)]) hx hb dL_restore_11 rfl hl (by decide) rfl (fun ls hl => ?_)
      refine lv_iconst (v := 1) hx hb dL_restore_12 (by decide) ?_
      exact kL_ret C hP hD hS ⟨by rw [h5]; rfl, _, fun z => absurd z hc, rfl⟩ ⟨Nat.le_of_ble_eq_true rfl, Nat.le_of_ble_eq_true rfl⟩ dL_restore_13
  obtain ⟨hc, hr, hu⟩ := hp
  subst hu
  have hP : kp g [X4W g oF (kFr oC oS oH oR oT oB) vF, X0W g oC rC ((X4_restore_f vF vC aC vS aS vH aH).2.2.1) ((X4_restore_f vF vC aC vS aS vH aH).2.2.2.1), X0W g oS rS vS aS, X2W g oH rH ((X4_restore_f vF vC aC vS aS vH aH).2.2.2.2) oQ rQ aH, OLW g oL fL] H := hP.pick [1, 2, 3, 4, 0] rfl
  have hD : kd A [X4W g oF (kFr oC oS oH oR oT oB) vF, X0W g oC rC ((X4_restore_f vF vC aC vS aS vH aH).2.2.1) ((X4_restore_f vF vC aC vS aS vH aH).2.2.2.1), X0W g oS rS vS aS, X2W g oH rH ((X4_restore_f vF vC aC vS aS vH aH).2.2.2.2) oQ rQ aH, OLW g oL fL] := hD.pick [1, 2, 3, 4, 0] rfl rfl
  subst hr
  refine lv_i2l hx hb dL_restore_6 rfl ?_
  refine kg_last C hP hD hS (i := 4) rfl rfl dL_restore_7 (fun H locs hP hD hS => ?_)
  have hP : kp g [X4W g oF (kFr oC oS oH oR oT oB) vF, X0W g oC rC ((X4_restore_f vF vC aC vS aS vH aH).2.2.1) ((X4_restore_f vF vC aC vS aS vH aH).2.2.2.1), X0W g oS rS vS aS, X2W g oH rH ((X4_restore_f vF vC aC vS aS vH aH).2.2.2.2) oQ rQ aH, OLW g oL (vp_updL fL 0 (((X4_restore_f vF vC aC vS aS vH aH).2.1).toInt64))] H := hP
  have hD : kd A [X4W g oF (kFr oC oS oH oR oT oB) vF, X0W g oC rC ((X4_restore_f vF vC aC vS aS vH aH).2.2.1) ((X4_restore_f vF vC aC vS aS vH aH).2.2.2.1), X0W g oS rS vS aS, X2W g oH rH ((X4_restore_f vF vC aC vS aS vH aH).2.2.2.2) oQ rQ aH, OLW g oL (vp_updL fL 0 (((X4_restore_f vF vC aC vS aS vH aH).2.1).toInt64))] := hD
  refine lv_goto (tgt := 14) hx hb dL_restore_8 (by decide) ?_
  refine lv_iconst (v := 0) hx hb dL_restore_14 (by decide) ?_
  exact kL_ret C hP hD hS ⟨by rw [hc]; rfl, _, fun _ => k_updL0 _ _, rfl⟩ ⟨Nat.le_of_ble_eq_true rfl, Nat.le_of_ble_eq_true rfl⟩ dL_restore_15
