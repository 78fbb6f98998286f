theorem kw836 : Cond.methodLink RL 94 yX4_isNoticed ∈ kW := k_w 5 48 rfl rfl
theorem kw844 : Cond.classLink RL 105 "java/lang/IllegalStateException" ∈ kW := k_w 5 56 rfl rfl
theorem kw845 : Cond.methodLink RL 101 yX4_append ∈ kW := k_w 5 57 rfl rfl
theorem kw868 : Cond.methodLink RL 107 yX4_commands ∈ kW := k_w 5 80 rfl rfl
theorem kw964 : Cond.methodLink RL 133 yX4_account ∈ kW := k_w 5 176 rfl rfl
theorem kw977 : Cond.methodLink RL 136 yX4_undo ∈ kW := k_w 5 189 rfl rfl
theorem kw989 : Cond.methodLink RL 139 yX4_restore ∈ kW := k_w 5 201 rfl rfl
theorem kw1001 : Cond.methodLink RL 110 yX4_reason ∈ kW := k_w 5 213 rfl rfl
theorem kw1028 : Cond.methodLink RL 113 yX4_line ∈ kW := k_w 6 0 rfl rfl
theorem kw1286 : Cond.methodLink RL 116 yX4_character ∈ kW := k_w 7 18 rfl rfl
theorem kw1312 : Cond.classLink RL 124 "java/lang/ArithmeticException" ∈ kW := k_w 7 44 rfl rfl
theorem kw1326 : Cond.methodLink RL 127 yX4_honestShare ∈ kW := k_w 7 58 rfl rfl
theorem kw1333 : Cond.constantDouble RL 131 (13875388141788987392 : UInt64) ∈ kW := k_w 7 65 rfl rfl
theorem kw1347 : Cond.methodLink RL 120 yX4_meanDust ∈ kW := k_w 7 79 rfl rfl
theorem kw1353 : Cond.constantFloat RL 126 (3296346112 : UInt32) ∈ kW := k_w 7 85 rfl rfl
theorem kw1417 : Cond.methodLink RL 98 yX4_ranked ∈ kW := k_w 7 149 rfl rfl
abbrev wL_isNoticed : List Cond := Cond.codeWith yL_isNoticed cL_isNoticed 3 (some .int) [(0, 13, 14, 55)] :: kW
set_option maxHeartbeats 4000000 in
set_option maxRecDepth 100000 in
theorem L_isNoticed_c (l : Launch) (hfl : l.stackTraces = false) (g : kG) (oF : Nat) (F : Nat → Int32) (C S : kK) (h : List kK) (R : Nat → Int32) (T : kK) (ln : kTx) (cs : List va_W) (hO : kOb g oF F C S h R T ln cs) (p0 : Int32) : kL kX0 l yL_isNoticed wL_isNoticed 8 123 1 6 g [.ref oF, .int p0] cs (fun x u => x = kA1 ((X4_isNoticed_f kF0 C.1 C.2 p0).1, b2i (X4_isNoticed_f kF0 C.1 C.2 p0).2) ∧ kOb g oF F C S h R T ln u) := by
  obtain ⟨oC, oS, oH, oR, oT, oB, rC, rS, rH, rR, rT, oQ, rQ, vH, aH, q, n, ml, f, rfl, hT4, hHi, hIv⟩ := hO
  have hI := hIv.1
  have hTx := hIv.2.2.2.1
  obtain ⟨⟨nb, hnb, hv7⟩, ⟨nj, hnj, hv4⟩, hM⟩ := id hI
  refine kLg_of (cc := cL_isNoticed) (nL := 3) (ret := some .int) (lv := [(0, .ref oF), (1, .int p0)]) (by decide) rfl (Nat.le_of_ble_eq_true rfl) rfl ?_
  intro p e s m args below meth c ls A htab hN hX K hP hD hE hA hS hl
  have K : kC p c cL_isNoticed s m args meth RL g 3 (some .int) := K
  have hx := K.1.1
  have hb := K.1.2.1
  have hts := K.1.2.2.2.2
  refine lv_aload_n hx hb dL_isNoticed_0 rfl (lv_at hl 0 rfl) ?_
  refine lv_iload_n hx hb dL_isNoticed_1 rfl (lv_at hl 1 rfl) ?_
  refine kX_V (As := [.int p0]) (rest := []) (wr := [X0W g oS rS S.1 S.2, X2W g oH rH vH oQ rQ aH, X3W g oR rR R kA0, X1W g oT rT T.1 T.2, JOW oB q ml (nI ln.2), JAW g q n f]) K (X4_isNoticed_c l g oF F oS oH oR oT oB oC rC C.1 C.2 p0 hfl) (cwV 1 hts (k_gV kw836 ca_X4_isNoticed) rfl rfl rfl ⟨rfl, pnX4_isNoticed⟩ ⟨Nat.le_of_ble_eq_true rfl, Nat.le_of_ble_eq_true rfl⟩) hE hS hA hP hD [0, 1] [2, 3, 4, 5, 6, 7] rfl rfl ⟨rfl, rfl, by decide⟩ (k_recv K kFX4 hP (i := 0) (q := 0) rfl rfl) rfl hl.1 rfl rfl dL_isNoticed_2 ⟨Nat.le_of_ble_eq_true rfl, Nat.le_of_ble_eq_true rfl⟩ (fun E u H locs qE ce hp hP hD hS hce hcv hcl => ?_) (fun r u H locs hp hP hD hS => ?_)
  · obtain ⟨hc, hE2, hu⟩ := hp
    subst hu
    have hP : kp g [X4W g oF (kFr oC oS oH oR oT oB) F, X0W g oC rC C.1 C.2, X0W g oS rS S.1 S.2, X2W g oH rH vH oQ rQ aH, X3W g oR rR R kA0, X1W g oT rT T.1 T.2, JOW oB q ml (nI ln.2), JAW g q n f] H := hP.pick [6, 7, 0, 1, 2, 3, 4, 5] rfl
    have hD : kd A [X4W g oF (kFr oC oS oH oR oT oB) F, X0W g oC rC C.1 C.2, X0W g oS rS S.1 S.2, X2W g oH rH vH oQ rQ aH, X3W g oR rR R kA0, X1W g oT rT T.1 T.2, JOW oB q ml (nI ln.2), JAW g q n f] := hD.pick [6, 7, 0, 1, 2, 3, 4, 5] rfl rfl
    rcases (kK_isNoticed : (X4_isNoticed_f kF0 C.1 C.2 p0).1 = 0 ∨ (X4_isNoticed_f kF0 C.1 C.2 p0).1 = 2) with h0 | h2
    · exact absurd h0 hc
    · have hE3 : E = "java/lang/IndexOutOfBoundsException" := hE2.trans (congrArg kEx h2)
      subst hE3
      refine kx_catch1 (E := "java/lang/IndexOutOfBoundsException") K htab rfl (by decide) kw708 (List.mem_of_getElem? (i := 85) rfl) hce hcv hcl ?_
      refine lv_astore_n (lv' := [(2, .ref qE), (0, .ref oF), (1, .int p0)]) hx hb dL_isNoticed_14 rfl hl (by decide) rfl (fun ls hl => ?_)
      refine lv_sipush (v := (-1001)) hx hb dL_isNoticed_15 (by decide) ?_
      exact kL_ret K hP hD hS ⟨by unfold kA1; rw [if_neg (by rw [h2]; decide)], ⟨oC, oS, oH, oR, oT, oB, rC, rS, rH, rR, rT, oQ, rQ, vH, aH, q, n, ml, f, rfl, hT4, hHi, hIv⟩⟩ ⟨Nat.le_of_ble_eq_true rfl, Nat.le_of_ble_eq_true rfl⟩ dL_isNoticed_18
  obtain ⟨hc, hr, hu⟩ := hp
  subst hu
  subst hr
  have hP : kp g [X4W g oF (kFr oC oS oH oR oT oB) F, X0W g oC rC C.1 C.2, X0W g oS rS S.1 S.2, X2W g oH rH vH oQ rQ aH, X3W g oR rR R kA0, X1W g oT rT T.1 T.2, JOW oB q ml (nI ln.2), JAW g q n f] H := hP.pick [6, 7, 0, 1, 2, 3, 4, 5] rfl
  have hD : kd A [X4W g oF (kFr oC oS oH oR oT oB) F, X0W g oC rC C.1 C.2, X0W g oS rS S.1 S.2, X2W g oH rH vH oQ rQ aH, X3W g oR rR R kA0, X1W g oT rT T.1 T.2, JOW oB q ml (nI ln.2), JAW g q n f] := hD.pick [6, 7, 0, 1, 2, 3, 4, 5] rfl rfl
  cases hz : (X4_isNoticed_f kF0 C.1 C.2 p0).2 with
  | true =>
    rw [show (X4_isNoticed_f F C.1 C.2 p0).2 = true from hz]
    refine lv_if_eq (tgt := 12) hx hb dL_isNoticed_5 (by decide) (fun z => absurd z (by decide)) (fun z => ?_)
    refine lv_iconst (v := 1) hx hb dL_isNoticed_8 (by decide) ?_
    refine lv_goto (tgt := 13) hx hb dL_isNoticed_9 (by decide) ?_
    exact kL_ret K hP hD hS ⟨(if_pos hc).symm, ⟨oC, oS, oH, oR, oT, oB, rC, rS, rH, rR, rT, oQ, rQ, vH, aH, q, n, ml, f, rfl, hT4, hHi, hIv⟩⟩ ⟨Nat.le_of_ble_eq_true rfl, Nat.le_of_ble_eq_true rfl⟩ dL_isNoticed_13
  | false =>
    rw [show (X4_isNoticed_f F C.1 C.2 p0).2 = false from hz]
    refine lv_if_eq (tgt := 12) hx hb dL_isNoticed_5 (by decide) (fun z => ?_) (fun z => absurd rfl z)
    refine lv_iconst (v := 0) hx hb dL_isNoticed_12 (by decide) ?_
    exact kL_ret K hP hD hS ⟨(if_pos hc).symm, ⟨oC, oS, oH, oR, oT, oB, rC, rS, rH, rR, rT, oQ, rQ, vH, aH, q, n, ml, f, rfl, hT4, hHi, hIv⟩⟩ ⟨Nat.le_of_ble_eq_true rfl, Nat.le_of_ble_eq_true rfl⟩ dL_isNoticed_13
abbrev wL_ranked : List Cond := Cond.codeWith yL_ranked cL_ranked 3 (some .int) [(0, 5, 6, 86)] :: kW
set_option maxHeartbeats 4000000 in
set_option maxRecDepth 100000 in
theorem L_ranked_c (l : Launch) (hfl : l.stackTraces = false) (g : kG) (oF : Nat) (F : Nat → Int32) (C S : kK) (h : List kK) (R : Nat → Int32) (T : kK) (ln : kTx) (cs : List va_W) (hO : kOb g oF F C S h R T ln cs) (p0 : Int32) : kL kX0 l yL_ranked wL_ranked 7 104 1 6 g [.ref oF, .int p0] cs (fun x u => x = kA1 (X4_ranked_f kF0 C.1 C.2 p0) ∧ kOb g oF F C S h R T ln u) := by
  obtain ⟨oC, oS, oH, oR, oT, oB, rC, rS, rH, rR, rT, oQ, rQ, vH, aH, q, n, ml, f, rfl, hT4, hHi, hIv⟩ := hO
  have hI := hIv.1
  have hTx := hIv.2.2.2.1
  obtain ⟨⟨nb, hnb, hv7⟩, ⟨nj, hnj, hv4⟩, hM⟩ := id hI
  refine kLg_of (cc := cL_ranked) (nL := 3) (ret := some .int) (lv := [(0, .ref oF), (1, .int p0)]) (by decide) rfl (Nat.le_of_ble_eq_true rfl) rfl ?_
  intro p e s m args below meth c ls A htab hN hX K hP hD hE hA hS hl
  have K : kC p c cL_ranked s m args meth RL g 3 (some .int) := K
  have hx := K.1.1
  have hb := K.1.2.1
  have hts := K.1.2.2.2.2
  refine lv_aload_n hx hb dL_ranked_0 rfl (lv_at hl 0 rfl) ?_
  refine lv_iload_n hx hb dL_ranked_1 rfl (lv_at hl 1 rfl) ?_
  refine kX_V (As := [.int p0]) (rest := []) (wr := [X0W g oS rS S.1 S.2, X2W g oH rH vH oQ rQ aH, X3W g oR rR R kA0, X1W g oT rT T.1 T.2, JOW oB q ml (nI ln.2), JAW g q n f]) K (X4_ranked_c l g oF F oS oH oR oT oB oC rC C.1 C.2 p0 nb hnb hv7 hfl) (cwV 1 hts (k_gV kw1417 ca_X4_ranked) rfl rfl rfl ⟨rfl, pnX4_ranked⟩ ⟨Nat.le_of_ble_eq_true rfl, Nat.le_of_ble_eq_true rfl⟩) hE hS hA hP hD [0, 1] [2, 3, 4, 5, 6, 7] rfl rfl ⟨rfl, rfl, by decide⟩ (k_recv K kFX4 hP (i := 0) (q := 0) rfl rfl) rfl hl.1 rfl rfl dL_ranked_2 ⟨Nat.le_of_ble_eq_true rfl, Nat.le_of_ble_eq_true rfl⟩ (fun E u H locs qE ce hp hP hD hS hce hcv hcl => ?_) (fun r u H locs hp hP hD hS => ?_)
  · obtain ⟨hc, hE2, hu⟩ := hp
    subst hu
    have hP : kp g [X4W g oF (kFr oC oS oH oR oT oB) F, X0W g oC rC C.1 C.2, X0W g oS rS S.1 S.2, X2W g oH rH vH oQ rQ aH, X3W g oR rR R kA0, X1W g oT rT T.1 T.2, JOW oB q ml (nI ln.2), JAW g q n f] H := hP.pick [6, 7, 0, 1, 2, 3, 4, 5] rfl
    have hD : kd A [X4W g oF (kFr oC oS oH oR oT oB) F, X0W g oC rC C.1 C.2, X0W g oS rS S.1 S.2, X2W g oH rH vH oQ rQ aH, X3W g oR rR R kA0, X1W g oT rT T.1 T.2, JOW oB q ml (nI ln.2), JAW g q n f] := hD.pick [6, 7, 0, 1, 2, 3, 4, 5] rfl rfl
    rcases (kK_ranked : (X4_ranked_f kF0 C.1 C.2 p0).1 = 0 ∨ (X4_ranked_f kF0 C.1 C.2 p0).1 = 4) with h0 | h4
    · exact absurd h0 hc
    · have hE3 : E = "java/util/NoSuchElementException" := hE2.trans (congrArg kEx h4)
      subst hE3
      refine kx_catch1 (E := "java/util/NoSuchElementException") K htab rfl (by decide) kw1000 (List.mem_of_getElem? (i := 87) rfl) hce hcv hcl ?_
      refine lv_astore_n (lv' := [(2, .ref qE), (0, .ref oF), (1, .int p0)]) hx hb dL_ranked_6 rfl hl (by decide) rfl (fun ls hl => ?_)
      refine lv_sipush (v := (-1001)) hx hb dL_ranked_7 (by decide) ?_
      exact kL_ret K hP hD hS ⟨by unfold kA1; rw [if_neg (by rw [h4]; decide)], ⟨oC, oS, oH, oR, oT, oB, rC, rS, rH, rR, rT, oQ, rQ, vH, aH, q, n, ml, f, rfl, hT4, hHi, hIv⟩⟩ ⟨Nat.le_of_ble_eq_true rfl, Nat.le_of_ble_eq_true rfl⟩ dL_ranked_10
  obtain ⟨hc, hr, hu⟩ := hp
  subst hu
  subst hr
  have hP : kp g [X4W g oF (kFr oC oS oH oR oT oB) F, X0W g oC rC C.1 C.2, X0W g oS rS S.1 S.2, X2W g oH rH vH oQ rQ aH, X3W g oR rR R kA0, X1W g oT rT T.1 T.2, JOW oB q ml (nI ln.2), JAW g q n f] H := hP.pick [6, 7, 0, 1, 2, 3, 4, 5] rfl
  have hD : kd A [X4W g oF (kFr oC oS oH oR oT oB) F, X0W g oC rC C.1 C.2, X0W g oS rS S.1 S.2, X2W g oH rH vH oQ rQ aH, X3W g oR rR R kA0, X1W g oT rT T.1 T.2, JOW oB q ml (nI ln.2), JAW g q n f] := hD.pick [6, 7, 0, 1, 2, 3, 4, 5] rfl rfl
  exact kL_ret K hP hD hS ⟨(if_pos hc).symm, ⟨oC, oS, oH, oR, oT, oB, rC, rS, rH, rR, rT, oQ, rQ, vH, aH, q, n, ml, f, rfl, hT4, hHi, hIv⟩⟩ ⟨Nat.le_of_ble_eq_true rfl, Nat.le_of_ble_eq_true rfl⟩ dL_ranked_5
abbrev wL_append : List Cond := Cond.codeWith yL_append cL_append 3 (some .int) [(0, 5, 6, 105)] :: kW
set_option maxHeartbeats 4000000 in
set_option maxRecDepth 100000 in
theorem L_append_c (l : Launch) (hfl : l.stackTraces = false) (g : kG) (oF : Nat) (F : Nat → Int32) (C S : kK) (h : List kK) (R : Nat → Int32) (T : kK) (ln : kTx) (cs : List va_W) (hO : kOb g oF F C S h R T ln cs) (p0 : Int32) : kL kX0 l yL_append wL_append 7 103 1 6 g [.ref oF, .int p0] cs (fun x u => x = kA1 ((X4_append_f kF0 T.1 T.2 p0).1, (X4_append_f kF0 T.1 T.2 p0).2.1) ∧ kOb g oF F C S h R (X4_append_f kF0 T.1 T.2 p0).2.2 ln u) := by
  obtain ⟨oC, oS, oH, oR, oT, oB, rC, rS, rH, rR, rT, oQ, rQ, vH, aH, q, n, ml, f, rfl, hT4, hHi, hIv⟩ := hO
  have hI := hIv.1
  have hTx := hIv.2.2.2.1
  obtain ⟨⟨nb, hnb, hv7⟩, ⟨nj, hnj, hv4⟩, hM⟩ := id hI
  refine kLg_of (cc := cL_append) (nL := 3) (ret := some .int) (lv := [(0, .ref oF), (1, .int p0)]) (by decide) rfl (Nat.le_of_ble_eq_true rfl) rfl ?_
  intro p e s m args below meth c ls A htab hN hX K hP hD hE hA hS hl
  have K : kC p c cL_append s m args meth RL g 3 (some .int) := K
  have hx := K.1.1
  have hb := K.1.2.1
  have hts := K.1.2.2.2.2
  refine lv_aload_n hx hb dL_append_0 rfl (lv_at hl 0 rfl) ?_
  refine lv_iload_n hx hb dL_append_1 rfl (lv_at hl 1 rfl) ?_
  refine kX_V (As := [.int p0]) (rest := []) (wr := [X0W g oC rC C.1 C.2, X0W g oS rS S.1 S.2, X2W g oH rH vH oQ rQ aH, X3W g oR rR R kA0, JOW oB q ml (nI ln.2), JAW g q n f]) K (X4_append_c l g oF F oC oS oH oR oB oT rT T.1 T.2 p0 hTx hfl) (cwV 1 hts (k_gV kw845 ca_X4_append) rfl rfl rfl ⟨rfl, pnX4_append⟩ ⟨Nat.le_of_ble_eq_true rfl, Nat.le_of_ble_eq_true rfl⟩) hE hS hA hP hD [0, 5] [1, 2, 3, 4, 6, 7] rfl rfl ⟨rfl, rfl, by decide⟩ (k_recv K kFX4 hP (i := 0) (q := 0) rfl rfl) rfl hl.1 rfl rfl dL_append_2 ⟨Nat.le_of_ble_eq_true rfl, Nat.le_of_ble_eq_true rfl⟩ (fun E u H locs qE ce hp hP hD hS hce hcv hcl => ?_) (fun r u H locs hp hP hD hS => ?_)
  · obtain ⟨hc, hE2, hu⟩ := hp
    subst hu
    have hP : kp g [X4W g oF (kFr oC oS oH oR oT oB) F, X0W g oC rC C.1 C.2, X0W g oS rS S.1 S.2, X2W g oH rH vH oQ rQ aH, X3W g oR rR R kA0, X1W g oT rT (X4_append_f kF0 T.1 T.2 p0).2.2.1 (X4_append_f kF0 T.1 T.2 p0).2.2.2, JOW oB q ml (nI ln.2), JAW g q n f] H := hP.pick [6, 0, 1, 2, 3, 7, 4, 5] rfl
    have hD : kd A [X4W g oF (kFr oC oS oH oR oT oB) F, X0W g oC rC C.1 C.2, X0W g oS rS S.1 S.2, X2W g oH rH vH oQ rQ aH, X3W g oR rR R kA0, X1W g oT rT (X4_append_f kF0 T.1 T.2 p0).2.2.1 (X4_append_f kF0 T.1 T.2 p0).2.2.2, JOW oB q ml (nI ln.2), JAW g q n f] := hD.pick [6, 0, 1, 2, 3, 7, 4, 5] rfl rfl
    rcases (kK_append : (X4_append_f kF0 T.1 T.2 p0).1 = 0 ∨ (X4_append_f kF0 T.1 T.2 p0).1 = 5) with h0 | h5
    · exact absurd h0 hc
    · have hE3 : E = "java/lang/IllegalStateException" := hE2.trans (congrArg kEx h5)
      subst hE3
      refine kx_catch1 (E := "java/lang/IllegalStateException") K htab rfl (by decide) kw844 (List.mem_of_getElem? (i := 88) rfl) hce hcv hcl ?_
      refine lv_astore_n (lv' := [(2, .ref qE), (0, .ref oF), (1, .int p0)]) hx hb dL_append_6 rfl hl (by decide) rfl (fun ls hl => ?_)
      refine lv_sipush (v := (-1001)) hx hb dL_append_7 (by decide) ?_
      exact kL_ret K hP hD hS ⟨by unfold kA1; rw [if_neg (by rw [h5]; decide)], ⟨oC, oS, oH, oR, oT, oB, rC, rS, rH, rR, rT, oQ, rQ, vH, aH, q, n, ml, f, rfl, hT4, hHi, hIv.txt (kap_len (F := kF0) p0 hTx)⟩⟩ ⟨Nat.le_of_ble_eq_true rfl, Nat.le_of_ble_eq_true rfl⟩ dL_append_10
  obtain ⟨hc, hr, hu⟩ := hp
  subst hu
  subst hr
  have hP : kp g [X4W g oF (kFr oC oS oH oR oT oB) F, X0W g oC rC C.1 C.2, X0W g oS rS S.1 S.2, X2W g oH rH vH oQ rQ aH, X3W g oR rR R kA0, X1W g oT rT (X4_append_f kF0 T.1 T.2 p0).2.2.1 (X4_append_f kF0 T.1 T.2 p0).2.2.2, JOW oB q ml (nI ln.2), JAW g q n f] H := hP.pick [6, 0, 1, 2, 3, 7, 4, 5] rfl
  have hD : kd A [X4W g oF (kFr oC oS oH oR oT oB) F, X0W g oC rC C.1 C.2, X0W g oS rS S.1 S.2, X2W g oH rH vH oQ rQ aH, X3W g oR rR R kA0, X1W g oT rT (X4_append_f kF0 T.1 T.2 p0).2.2.1 (X4_append_f kF0 T.1 T.2 p0).2.2.2, JOW oB q ml (nI ln.2), JAW g q n f] := hD.pick [6, 0, 1, 2, 3, 7, 4, 5] rfl rfl
  exact kL_ret K hP hD hS ⟨(if_pos hc).symm, ⟨oC, oS, oH, oR, oT, oB, rC, rS, rH, rR, rT, oQ, rQ, vH, aH, q, n, ml, f, rfl, hT4, hHi, hIv.txt (kap_len (F := kF0) p0 hTx)⟩⟩ ⟨Nat.le_of_ble_eq_true rfl, Nat.le_of_ble_eq_true rfl⟩ dL_append_5
abbrev wL_commands : List Cond := Cond.codeWith yL_commands cL_commands 2 (some .int) [(0, 4, 5, 60), (0, 4, 10, 13)] :: kW
set_option maxHeartbeats 4000000 in
set_option maxRecDepth 100000 in
theorem L_commands_c (l : Launch) (hfl : l.stackTraces = false) (g : kG) (oF : Nat) (F : Nat → Int32) (C S : kK) (h : List kK) (R : Nat → Int32) (T : kK) (ln : kTx) (cs : List va_W) (hO : kOb g oF F C S h R T ln cs)  : kL kX0 l yL_commands wL_commands 8 175 1 6 g [.ref oF] cs (fun x u => kCmd g oF F C S h R T ln x u) := by
  obtain ⟨oC, oS, oH, oR, oT, oB, rC, rS, rH, rR, rT, oQ, rQ, vH, aH, q, n, ml, f, rfl, hT4, hHi, hIv⟩ := hO
  have hI := hIv.1
  have hTx := hIv.2.2.2.1
  obtain ⟨⟨nb, hnb, hv7⟩, ⟨nj, hnj, hv4⟩, hM⟩ := id hI
  refine kLg_of (cc := cL_commands) (nL := 2) (ret := some .int) (lv := [(0, .ref oF)]) (by decide) rfl (Nat.le_of_ble_eq_true rfl) rfl ?_
  intro p e s m args below meth c ls A htab hN hX K hP hD hE hA hS hl
  have K : kC p c cL_commands s m args meth RL g 2 (some .int) := K
  have hx := K.1.1
  have hb := K.1.2.1
  have hts := K.1.2.2.2.2
  refine lv_aload_n hx hb dL_commands_0 rfl (lv_at hl 0 rfl) ?_
  refine kX_V (As := []) (rest := []) (wr := [X0W g oS rS S.1 S.2, JOW oB q ml (nI ln.2), JAW g q n f]) K (X4_commands_c l g oF F oS oB oC rC C.1 C.2 oH rH vH oQ rQ aH oR rR R kA0 oT rT T.1 T.2 hI hHi.in9 hTx hfl) (cwV 0 hts (k_gV kw868 ca_X4_commands) rfl rfl rfl ⟨rfl, pnX4_commands⟩ ⟨Nat.le_of_ble_eq_true rfl, Nat.le_of_ble_eq_true rfl⟩) hE hS hA hP hD [0, 1, 3, 4, 5] [2, 6, 7] rfl rfl ⟨rfl, rfl, by decide⟩ (k_recv K kFX4 hP (i := 0) (q := 0) rfl rfl) rfl hl.1 rfl rfl dL_commands_1 ⟨Nat.le_of_ble_eq_true rfl, Nat.le_of_ble_eq_true rfl⟩ (fun E u H locs qE ce hp hP hD hS hce hcv hcl => ?_) (fun r u H locs hp hP hD hS => ?_)
  · obtain ⟨hc, hE2, hu⟩ := hp
    subst hu
    have hP : kp g [X4W g oF (kFr oC oS oH oR oT oB) ((X4_commands_f F C.1 C.2 vH aH R kA0 T.1 T.2).2.2.1), X0W g oC rC ((X4_commands_f F C.1 C.2 vH aH R kA0 T.1 T.2).2.2.2.1) ((X4_commands_f F C.1 C.2 vH aH R kA0 T.1 T.2).2.2.2.2.1), X0W g oS rS S.1 S.2, X2W g oH rH ((X4_commands_f F C.1 C.2 vH aH R kA0 T.1 T.2).2.2.2.2.2.1) oQ rQ ((X4_commands_f F C.1 C.2 vH aH R kA0 T.1 T.2).2.2.2.2.2.2.1), X3W g oR rR ((X4_commands_f F C.1 C.2 vH aH R kA0 T.1 T.2).2.2.2.2.2.2.2.1) kA0, X1W g oT rT ((X4_commands_f F C.1 C.2 vH aH R kA0 T.1 T.2).2.2.2.2.2.2.2.2.1) ((X4_commands_f F C.1 C.2 vH aH R kA0 T.1 T.2).2.2.2.2.2.2.2.2.2), JOW oB q ml (nI ln.2), JAW g q n f] H := hP.pick [3, 4, 0, 5, 6, 7, 1, 2] rfl
    have hD : kd A [X4W g oF (kFr oC oS oH oR oT oB) ((X4_commands_f F C.1 C.2 vH aH R kA0 T.1 T.2).2.2.1), X0W g oC rC ((X4_commands_f F C.1 C.2 vH aH R kA0 T.1 T.2).2.2.2.1) ((X4_commands_f F C.1 C.2 vH aH R kA0 T.1 T.2).2.2.2.2.1), X0W g oS rS S.1 S.2, X2W g oH rH ((X4_commands_f F C.1 C.2 vH aH R kA0 T.1 T.2).2.2.2.2.2.1) oQ rQ ((X4_commands_f F C.1 C.2 vH aH R kA0 T.1 T.2).2.2.2.2.2.2.1), X3W g oR rR ((X4_commands_f F C.1 C.2 vH aH R kA0 T.1 T.2).2.2.2.2.2.2.2.1) kA0, X1W g oT rT ((X4_commands_f F C.1 C.2 vH aH R kA0 T.1 T.2).2.2.2.2.2.2.2.2.1) ((X4_commands_f F C.1 C.2 vH aH R kA0 T.1 T.2).2.2.2.2.2.2.2.2.2), JOW oB q ml (nI ln.2), JAW g q n f] := hD.pick [3, 4, 0, 5, 6, 7, 1, 2] rfl rfl
    rcases (kK_commands : (X4_commands_f F C.1 C.2 vH aH R kA0 T.1 T.2).1 = 0 ∨ (X4_commands_f F C.1 C.2 vH aH R kA0 T.1 T.2).1 = 3 ∨ (X4_commands_f F C.1 C.2 vH aH R kA0 T.1 T.2).1 = 1) with h0 | h3 | h1
    · exact absurd h0 hc
    · have hE3 : E = "java/lang/IllegalArgumentException" := hE2.trans (congrArg kEx h3)
      subst hE3
      refine kx_catch1 (E := "java/lang/IllegalArgumentException") K htab rfl (by decide) kw732 (List.mem_of_getElem? (i := 86) rfl) hce hcv hcl ?_
      refine lv_astore_n (lv' := [(1, .ref qE), (0, .ref oF)]) hx hb dL_commands_5 rfl hl (by decide) rfl (fun ls hl => ?_)
      refine lv_sipush (v := (-1001)) hx hb dL_commands_6 (by decide) ?_
      exact kL_ret K hP hD hS (kcmd_ok (g := g) (x := (-1001)) (by unfold kA2; rw [if_neg (by rw [h3]; decide), if_pos h3]) hHi hIv hT4 (oF := oF) (oC := oC) (oS := oS) (oH := oH) (oR := oR) (oT := oT) (oB := oB) (rC := rC) (rS := rS) (rH := rH) (rR := rR) (rT := rT) (oQ := oQ) (rQ := rQ)) ⟨Nat.le_of_ble_eq_true rfl, Nat.le_of_ble_eq_true rfl⟩ dL_commands_9
    · have hE3 : E = "java/lang/UnsupportedOperationException" := hE2.trans (congrArg kEx h1)
      subst hE3
      refine kx_catch2 (E := "java/lang/UnsupportedOperationException") (F := "java/lang/IllegalArgumentException") K htab (by decide) kw732 hN.2.2.1 rfl (by decide) kw350 (List.mem_of_getElem? (i := 84) rfl) hce hcv hcl ?_
      refine lv_astore_n (lv' := [(1, .ref qE), (0, .ref oF)]) hx hb dL_commands_10 rfl hl (by decide) rfl (fun ls hl => ?_)
      refine lv_sipush (v := (-1002)) hx hb dL_commands_11 (by decide) ?_
      exact kL_ret K hP hD hS (kcmd_ok (g := g) (x := (-1002)) (by unfold kA2; rw [if_neg (by rw [h1]; decide), if_neg (by rw [h1]; decide)]) hHi hIv hT4 (oF := oF) (oC := oC) (oS := oS) (oH := oH) (oR := oR) (oT := oT) (oB := oB) (rC := rC) (rS := rS) (rH := rH) (rR := rR) (rT := rT) (oQ := oQ) (rQ := rQ)) ⟨Nat.le_of_ble_eq_true rfl, Nat.le_of_ble_eq_true rfl⟩ dL_commands_14
  obtain ⟨hc, hr, hu⟩ := hp
  subst hu
  have hP : kp g [X4W g oF (kFr oC oS oH oR oT oB) ((X4_commands_f F C.1 C.2 vH aH R kA0 T.1 T.2).2.2.1), X0W g oC rC ((X4_commands_f F C.1 C.2 vH aH R kA0 T.1 T.2).2.2.2.1) ((X4_commands_f F C.1 C.2 vH aH R kA0 T.1 T.2).2.2.2.2.1), X0W g oS rS S.1 S.2, X2W g oH rH ((X4_commands_f F C.1 C.2 vH aH R kA0 T.1 T.2).2.2.2.2.2.1) oQ rQ ((X4_commands_f F C.1 C.2 vH aH R kA0 T.1 T.2).2.2.2.2.2.2.1), X3W g oR rR ((X4_commands_f F C.1 C.2 vH aH R kA0 T.1 T.2).2.2.2.2.2.2.2.1) kA0, X1W g oT rT ((X4_commands_f F C.1 C.2 vH aH R kA0 T.1 T.2).2.2.2.2.2.2.2.2.1) ((X4_commands_f F C.1 C.2 vH aH R kA0 T.1 T.2).2.2.2.2.2.2.2.2.2), JOW oB q ml (nI ln.2), JAW g q n f] H := hP.pick [3, 4, 0, 5, 6, 7, 1, 2] rfl
  have hD : kd A [X4W g oF (kFr oC oS oH oR oT oB) ((X4_commands_f F C.1 C.2 vH aH R kA0 T.1 T.2).2.2.1), X0W g oC rC ((X4_commands_f F C.1 C.2 vH aH R kA0 T.1 T.2).2.2.2.1) ((X4_commands_f F C.1 C.2 vH aH R kA0 T.1 T.2).2.2.2.2.1), X0W g oS rS S.1 S.2, X2W g oH rH ((X4_commands_f F C.1 C.2 vH aH R kA0 T.1 T.2).2.2.2.2.2.1) oQ rQ ((X4_commands_f F C.1 C.2 vH aH R kA0 T.1 T.2).2.2.2.2.2.2.1), X3W g oR rR ((X4_commands_f F C.1 C.2 vH aH R kA0 T.1 T.2).2.2.2.2.2.2.2.1) kA0, X1W g oT rT ((X4_commands_f F C.1 C.2 vH aH R kA0 T.1 T.2).2.2.2.2.2.2.2.2.1) ((X4_commands_f F C.1 C.2 vH aH R kA0 T.1 T.2).2.2.2.2.2.2.2.2.2), JOW oB q ml (nI ln.2), JAW g q n f] := hD.pick [3, 4, 0, 5, 6, 7, 1, 2] rfl rfl
  subst hr
  exact kL_ret K hP hD hS (kcmd_ok (g := g) (x := (X4_commands_f F C.1 C.2 vH aH R kA0 T.1 T.2).2.1) (by unfold kA2; rw [if_pos hc]) hHi hIv hT4 (oF := oF) (oC := oC) (oS := oS) (oH := oH) (oR := oR) (oT := oT) (oB := oB) (rC := rC) (rS := rS) (rH := rH) (rR := rR) (rT := rT) (oQ := oQ) (rQ := rQ)) ⟨Nat.le_of_ble_eq_true rfl, Nat.le_of_ble_eq_true rfl⟩ dL_commands_4
abbrev wL_reason : List Cond := Cond.codeWith yL_reason cL_reason 3 (some .int) [(0, 5, 6, 60), (0, 5, 11, 86)] :: kW
set_option maxHeartbeats 4000000 in
set_option maxRecDepth 100000 in
theorem L_reason_c (l : Launch) (hfl : l.stackTraces = false) (g : kG) (oF : Nat) (F : Nat → Int32) (C S : kK) (h : List kK) (R : Nat → Int32) (T : kK) (ln : kTx) (cs : List va_W) (hO : kOb g oF F C S h R T ln cs) (p0 : Int32) : kL kX0 l yL_reason wL_reason 7 103 1 6 g [.ref oF, .int p0] cs (fun x u => x = kA2 3 (X4_reason_f kF0 R kA0 p0) ∧ kOb g oF F C S h R T ln u) := by
  obtain ⟨oC, oS, oH, oR, oT, oB, rC, rS, rH, rR, rT, oQ, rQ, vH, aH, q, n, ml, f, rfl, hT4, hHi, hIv⟩ := hO
  have hI := hIv.1
  have hTx := hIv.2.2.2.1
  obtain ⟨⟨nb, hnb, hv7⟩, ⟨nj, hnj, hv4⟩, hM⟩ := id hI
  refine kLg_of (cc := cL_reason) (nL := 3) (ret := some .int) (lv := [(0, .ref oF), (1, .int p0)]) (by decide) rfl (Nat.le_of_ble_eq_true rfl) rfl ?_
  intro p e s m args below meth c ls A htab hN hX K hP hD hE hA hS hl
  have K : kC p c cL_reason s m args meth RL g 3 (some .int) := K
  have hx := K.1.1
  have hb := K.1.2.1
  have hts := K.1.2.2.2.2
  refine lv_aload_n hx hb dL_reason_0 rfl (lv_at hl 0 rfl) ?_
  refine lv_iload_n hx hb dL_reason_1 rfl (lv_at hl 1 rfl) ?_
  refine kX_V (As := [.int p0]) (rest := []) (wr := [X0W g oC rC C.1 C.2, X0W g oS rS S.1 S.2, X2W g oH rH vH oQ rQ aH, X1W g oT rT T.1 T.2, JOW oB q ml (nI ln.2), JAW g q n f]) K (X4_reason_c l g oF F oC oS oH oT oB oR rR R kA0 p0 hfl) (cwV 1 hts (k_gV kw1001 ca_X4_reason) rfl rfl rfl ⟨rfl, pnX4_reason⟩ ⟨Nat.le_of_ble_eq_true rfl, Nat.le_of_ble_eq_true rfl⟩) hE hS hA hP hD [0, 4] [1, 2, 3, 5, 6, 7] rfl rfl ⟨rfl, rfl, by decide⟩ (k_recv K kFX4 hP (i := 0) (q := 0) rfl rfl) rfl hl.1 rfl rfl dL_reason_2 ⟨Nat.le_of_ble_eq_true rfl, Nat.le_of_ble_eq_true rfl⟩ (fun E u H locs qE ce hp hP hD hS hce hcv hcl => ?_) (fun r u H locs hp hP hD hS => ?_)
  · obtain ⟨hc, hE2, hu⟩ := hp
    subst hu
    have hP : kp g [X4W g oF (kFr oC oS oH oR oT oB) F, X0W g oC rC C.1 C.2, X0W g oS rS S.1 S.2, X2W g oH rH vH oQ rQ aH, X3W g oR rR R kA0, X1W g oT rT T.1 T.2, JOW oB q ml (nI ln.2), JAW g q n f] H := hP.pick [6, 0, 1, 2, 7, 3, 4, 5] rfl
    have hD : kd A [X4W g oF (kFr oC oS oH oR oT oB) F, X0W g oC rC C.1 C.2, X0W g oS rS S.1 S.2, X2W g oH rH vH oQ rQ aH, X3W g oR rR R kA0, X1W g oT rT T.1 T.2, JOW oB q ml (nI ln.2), JAW g q n f] := hD.pick [6, 0, 1, 2, 7, 3, 4, 5] rfl rfl
    rcases (kK_reason : (X4_reason_f kF0 R kA0 p0).1 = 0 ∨ (X4_reason_f kF0 R kA0 p0).1 = 3 ∨ (X4_reason_f kF0 R kA0 p0).1 = 4) with h0 | h3 | h4
    · exact absurd h0 hc
    · have hE3 : E = "java/lang/IllegalArgumentException" := hE2.trans (congrArg kEx h3)
      subst hE3
      refine kx_catch1 (E := "java/lang/IllegalArgumentException") K htab rfl (by decide) kw732 (List.mem_of_getElem? (i := 86) rfl) hce hcv hcl ?_
      refine lv_astore_n (lv' := [(2, .ref qE), (0, .ref oF), (1, .int p0)]) hx hb dL_reason_6 rfl hl (by decide) rfl (fun ls hl => ?_)
      refine lv_sipush (v := (-1001)) hx hb dL_reason_7 (by decide) ?_
      exact kL_ret K hP hD hS ⟨by unfold kA2; rw [if_neg (by rw [h3]; decide), if_pos h3], ⟨oC, oS, oH, oR, oT, oB, rC, rS, rH, rR, rT, oQ, rQ, vH, aH, q, n, ml, f, rfl, hT4, hHi, hIv⟩⟩ ⟨Nat.le_of_ble_eq_true rfl, Nat.le_of_ble_eq_true rfl⟩ dL_reason_10
    · have hE3 : E = "java/util/NoSuchElementException" := hE2.trans (congrArg kEx h4)
      subst hE3
      refine kx_catch2 (E := "java/util/NoSuchElementException") (F := "java/lang/IllegalArgumentException") K htab (by decide) kw732 hN.2.2.2 rfl (by decide) kw1000 (List.mem_of_getElem? (i := 87) rfl) hce hcv hcl ?_
      refine lv_astore_n (lv' := [(2, .ref qE), (0, .ref oF), (1, .int p0)]) hx hb dL_reason_11 rfl hl (by decide) rfl (fun ls hl => ?_)
      refine lv_sipush (v := (-1002)) hx hb dL_reason_12 (by decide) ?_
      exact kL_ret K hP hD hS ⟨by unfold kA2; rw [if_neg (by rw [h4]; decide), if_neg (by rw [h4]; decide)], ⟨oC, oS, oH, oR, oT, oB, rC, rS, rH, rR, rT, oQ, rQ, vH, aH, q, n, ml, f, rfl, hT4, hHi, hIv⟩⟩ ⟨Nat.le_of_ble_eq_true rfl, Nat.le_of_ble_eq_true rfl⟩ dL_reason_15
  obtain ⟨hc, hr, hu⟩ := hp
  subst hu
  subst hr
  have hP : kp g [X4W g oF (kFr oC oS oH oR oT oB) F, X0W g oC rC C.1 C.2, X0W g oS rS S.1 S.2, X2W g oH rH vH oQ rQ aH, X3W g oR rR R kA0, X1W g oT rT T.1 T.2, JOW oB q ml (nI ln.2), JAW g q n f] H := hP.pick [6, 0, 1, 2, 7, 3, 4, 5] rfl
  have hD : kd A [X4W g oF (kFr oC oS oH oR oT oB) F, X0W g oC rC C.1 C.2, X0W g oS rS S.1 S.2, X2W g oH rH vH oQ rQ aH, X3W g oR rR R kA0, X1W g oT rT T.1 T.2, JOW oB q ml (nI ln.2), JAW g q n f] := hD.pick [6, 0, 1, 2, 7, 3, 4, 5] rfl rfl
  exact kL_ret K hP hD hS ⟨(if_pos hc).symm, ⟨oC, oS, oH, oR, oT, oB, rC, rS, rH, rR, rT, oQ, rQ, vH, aH, q, n, ml, f, rfl, hT4, hHi, hIv⟩⟩ ⟨Nat.le_of_ble_eq_true rfl, Nat.le_of_ble_eq_true rfl⟩ dL_reason_5
abbrev wL_line : List Cond := Cond.codeWith yL_line cL_line 3 (some .int) [(0, 5, 6, 55)] :: kW
set_option maxHeartbeats 4000000 in
set_option maxRecDepth 100000 in
theorem L_line_c (l : Launch) (hfl : l.stackTraces = false) (g : kG) (oF : Nat) (F : Nat → Int32) (C S : kK) (h : List kK) (R : Nat → Int32) (T : kK) (ln : kTx) (cs : List va_W) (hO : kOb g oF F C S h R T ln cs) (p0 : Int32) : kL kX0 l yL_line wL_line 9 521 21 690 g [.ref oF, .int p0] cs (fun x u => (X4_checkBag_f kF0 C.1 C.2 p0 = 0 ∧ x = nI (kLine (X4_line_w C.1 C.2 p0)).2 ∧ kOb g oF F C S h R T (kLine (X4_line_w C.1 C.2 p0)) u) ∨ (X4_checkBag_f kF0 C.1 C.2 p0 ≠ 0 ∧ x = -1001 ∧ kOb g oF F C S h R T ln u)) := by
  obtain ⟨oC, oS, oH, oR, oT, oB, rC, rS, rH, rR, rT, oQ, rQ, vH, aH, q, n, ml, f, rfl, hT4, hHi, hIv⟩ := hO
  have hI := hIv.1
  have hTx := hIv.2.2.2.1
  obtain ⟨⟨nb, hnb, hv7⟩, ⟨nj, hnj, hv4⟩, hM⟩ := id hI
  refine kLg_of (cc := cL_line) (nL := 3) (ret := some .int) (lv := [(0, .ref oF), (1, .int p0)]) (by decide) rfl (Nat.le_of_ble_eq_true rfl) rfl ?_
  intro p e s m args below meth c ls A htab hN hX K hP hD hE hA hS hl
  have K : kC p c cL_line s m args meth RL g 3 (some .int) := K
  have hx := K.1.1
  have hb := K.1.2.1
  have hts := K.1.2.2.2.2
  refine lv_aload_n hx hb dL_line_0 rfl (lv_at hl 0 rfl) ?_
  refine lv_iload_n hx hb dL_line_1 rfl (lv_at hl 1 rfl) ?_
  refine kX_V (As := [.int p0]) (rest := []) (wr := [X0W g oS rS S.1 S.2, X2W g oH rH vH oQ rQ aH, X3W g oR rR R kA0, X1W g oT rT T.1 T.2]) K (X4_line_c l g oF F oS oH oR oT oB oC rC C.1 C.2 q n ml f ln.2 hT4.1 hT4.2.1 hT4.2.2.1 p0 nb hnb hv7 hfl) (cwV 1 hts (k_gV kw1028 ca_X4_line) rfl rfl rfl ⟨rfl, pnX4_line⟩ ⟨Nat.le_of_ble_eq_true rfl, Nat.le_of_ble_eq_true rfl⟩) hE hS hA hP hD [0, 1, 6, 7] [2, 3, 4, 5] rfl rfl ⟨rfl, rfl, by decide⟩ (k_recv K kFX4 hP (i := 0) (q := 0) rfl rfl) rfl hl.1 rfl rfl dL_line_2 ⟨Nat.le_of_ble_eq_true rfl, Nat.le_of_ble_eq_true rfl⟩ (fun E u H locs qE ce hp hP hD hS hce hcv hcl => ?_) (fun r u H locs hp hP hD hS => ?_)
  · obtain ⟨hc, hE2, hu⟩ := hp
    subst hu
    have hP : kp g [X4W g oF (kFr oC oS oH oR oT oB) F, X0W g oC rC C.1 C.2, X0W g oS rS S.1 S.2, X2W g oH rH vH oQ rQ aH, X3W g oR rR R kA0, X1W g oT rT T.1 T.2, JOW oB q ml (nI ln.2), JAW g q n f] H := hP.pick [4, 5, 0, 1, 2, 3, 6, 7] rfl
    have hD : kd A [X4W g oF (kFr oC oS oH oR oT oB) F, X0W g oC rC C.1 C.2, X0W g oS rS S.1 S.2, X2W g oH rH vH oQ rQ aH, X3W g oR rR R kA0, X1W g oT rT T.1 T.2, JOW oB q ml (nI ln.2), JAW g q n f] := hD.pick [4, 5, 0, 1, 2, 3, 6, 7] rfl rfl
    rcases (kK_line : X4_checkBag_f kF0 C.1 C.2 p0 = 0 ∨ X4_checkBag_f kF0 C.1 C.2 p0 = 2) with h0 | h2
    · exact absurd h0 hc
    · have hE3 : E = "java/lang/IndexOutOfBoundsException" := hE2.trans (congrArg kEx h2)
      subst hE3
      refine kx_catch1 (E := "java/lang/IndexOutOfBoundsException") K htab rfl (by decide) kw708 (List.mem_of_getElem? (i := 85) rfl) hce hcv hcl ?_
      refine lv_astore_n (lv' := [(2, .ref qE), (0, .ref oF), (1, .int p0)]) hx hb dL_line_6 rfl hl (by decide) rfl (fun ls hl => ?_)
      refine lv_sipush (v := (-1001)) hx hb dL_line_7 (by decide) ?_
      exact kL_ret K hP hD hS (Or.inr ⟨hc, rfl, ⟨oC, oS, oH, oR, oT, oB, rC, rS, rH, rR, rT, oQ, rQ, vH, aH, q, n, ml, f, rfl, hT4, hHi, hIv⟩⟩) ⟨Nat.le_of_ble_eq_true rfl, Nat.le_of_ble_eq_true rfl⟩ dL_line_10
  obtain ⟨hc, hr, v2, hu, q2, n2, ml2, f2, rfl, hT5⟩ := hp
  subst hu
  subst hr
  have hP : kp g [X4W g oF (kFr oC oS oH oR oT oB) F, X0W g oC rC C.1 C.2, X0W g oS rS S.1 S.2, X2W g oH rH vH oQ rQ aH, X3W g oR rR R kA0, X1W g oT rT T.1 T.2, JOW oB q2 ml2 (nI (kLine (X4_line_w C.1 C.2 p0)).2), JAW g q2 n2 f2] H := hP.pick [4, 5, 0, 1, 2, 3, 6, 7] rfl
  have hD : kd A [X4W g oF (kFr oC oS oH oR oT oB) F, X0W g oC rC C.1 C.2, X0W g oS rS S.1 S.2, X2W g oH rH vH oQ rQ aH, X3W g oR rR R kA0, X1W g oT rT T.1 T.2, JOW oB q2 ml2 (nI (kLine (X4_line_w C.1 C.2 p0)).2), JAW g q2 n2 f2] := hD.pick [4, 5, 0, 1, 2, 3, 6, 7] rfl rfl
  exact kL_ret K hP hD hS (Or.inl ⟨hc, rfl, ⟨oC, oS, oH, oR, oT, oB, rC, rS, rH, rR, rT, oQ, rQ, vH, aH, q2, n2, ml2, f2, rfl, hT5, hHi, hIv⟩⟩) ⟨Nat.le_of_ble_eq_true rfl, Nat.le_of_ble_eq_true rfl⟩ dL_line_5
abbrev wL_character : List Cond := Cond.codeWith yL_character cL_character 3 (some .int) [(0, 5, 6, 55)] :: kW
set_option maxHeartbeats 4000000 in
set_option maxRecDepth 100000 in
theorem L_character_c (l : Launch) (hfl : l.stackTraces = false) (g : kG) (oF : Nat) (F : Nat → Int32) (C S : kK) (h : List kK) (R : Nat → Int32) (T : kK) (ln : kTx) (cs : List va_W) (hO : kOb g oF F C S h R T ln cs) (p0 : Int32) : kL kX0 l yL_character wL_character 8 421 1 6 g [.ref oF, .int p0] cs (fun x u => x = kA1 (X4_character_f ln p0) ∧ kOb g oF F C S h R T ln u) := by
  obtain ⟨oC, oS, oH, oR, oT, oB, rC, rS, rH, rR, rT, oQ, rQ, vH, aH, q, n, ml, f, rfl, hT4, hHi, hIv⟩ := hO
  have hI := hIv.1
  have hTx := hIv.2.2.2.1
  obtain ⟨⟨nb, hnb, hv7⟩, ⟨nj, hnj, hv4⟩, hM⟩ := id hI
  refine kLg_of (cc := cL_character) (nL := 3) (ret := some .int) (lv := [(0, .ref oF), (1, .int p0)]) (by decide) rfl (Nat.le_of_ble_eq_true rfl) rfl ?_
  intro p e s m args below meth c ls A htab hN hX K hP hD hE hA hS hl
  have K : kC p c cL_character s m args meth RL g 3 (some .int) := K
  have hx := K.1.1
  have hb := K.1.2.1
  have hts := K.1.2.2.2.2
  refine lv_aload_n hx hb dL_character_0 rfl (lv_at hl 0 rfl) ?_
  refine lv_iload_n hx hb dL_character_1 rfl (lv_at hl 1 rfl) ?_
  refine kX_V (As := [.int p0]) (rest := []) (wr := [X0W g oC rC C.1 C.2, X0W g oS rS S.1 S.2, X2W g oH rH vH oQ rQ aH, X3W g oR rR R kA0, X1W g oT rT T.1 T.2]) K (X4_character_c l g oF F oC oS oH oR oT oB q n ml f ln.1 ln.2 hT4.1 hT4.2.1 hT4.2.2.1 hT4.2.2.2 p0 hfl) (cwV 1 hts (k_gV kw1286 ca_X4_character) rfl rfl rfl ⟨rfl, pnX4_character⟩ ⟨Nat.le_of_ble_eq_true rfl, Nat.le_of_ble_eq_true rfl⟩) hE hS hA hP hD [0, 6, 7] [1, 2, 3, 4, 5] rfl rfl ⟨rfl, rfl, by decide⟩ (k_recv K kFX4 hP (i := 0) (q := 0) rfl rfl) rfl hl.1 rfl rfl dL_character_2 ⟨Nat.le_of_ble_eq_true rfl, Nat.le_of_ble_eq_true rfl⟩ (fun E u H locs qE ce hp hP hD hS hce hcv hcl => ?_) (fun r u H locs hp hP hD hS => ?_)
  · obtain ⟨hc, hE2, hu⟩ := hp
    subst hu
    have hP : kp g [X4W g oF (kFr oC oS oH oR oT oB) F, X0W g oC rC C.1 C.2, X0W g oS rS S.1 S.2, X2W g oH rH vH oQ rQ aH, X3W g oR rR R kA0, X1W g oT rT T.1 T.2, JOW oB q ml (nI ln.2), JAW g q n f] H := hP.pick [5, 0, 1, 2, 3, 4, 6, 7] rfl
    have hD : kd A [X4W g oF (kFr oC oS oH oR oT oB) F, X0W g oC rC C.1 C.2, X0W g oS rS S.1 S.2, X2W g oH rH vH oQ rQ aH, X3W g oR rR R kA0, X1W g oT rT T.1 T.2, JOW oB q ml (nI ln.2), JAW g q n f] := hD.pick [5, 0, 1, 2, 3, 4, 6, 7] rfl rfl
    rcases (kK_character : (X4_character_f ln p0).1 = 0 ∨ (X4_character_f ln p0).1 = 2) with h0 | h2
    · exact absurd h0 hc
    · have hE3 : E = "java/lang/IndexOutOfBoundsException" := hE2.trans (congrArg kEx h2)
      subst hE3
      refine kx_catch1 (E := "java/lang/IndexOutOfBoundsException") K htab rfl (by decide) kw708 (List.mem_of_getElem? (i := 85) rfl) hce hcv hcl ?_
      refine lv_astore_n (lv' := [(2, .ref qE), (0, .ref oF), (1, .int p0)]) hx hb dL_character_6 rfl hl (by decide) rfl (fun ls hl => ?_)
      refine lv_sipush (v := (-1001)) hx hb dL_character_7 (by decide) ?_
      exact kL_ret K hP hD hS ⟨by unfold kA1; rw [if_neg (by rw [h2]; decide)], ⟨oC, oS, oH, oR, oT, oB, rC, rS, rH, rR, rT, oQ, rQ, vH, aH, q, n, ml, f, rfl, hT4, hHi, hIv⟩⟩ ⟨Nat.le_of_ble_eq_true rfl, Nat.le_of_ble_eq_true rfl⟩ dL_character_10
  obtain ⟨hc, hr, hu⟩ := hp
  subst hu
  subst hr
  have hP : kp g [X4W g oF (kFr oC oS oH oR oT oB) F, X0W g oC rC C.1 C.2, X0W g oS rS S.1 S.2, X2W g oH rH vH oQ rQ aH, X3W g oR rR R kA0, X1W g oT rT T.1 T.2, JOW oB q ml (nI ln.2), JAW g q n f] H := hP.pick [5, 0, 1, 2, 3, 4, 6, 7] rfl
  have hD : kd A [X4W g oF (kFr oC oS oH oR oT oB) F, X0W g oC rC C.1 C.2, X0W g oS rS S.1 S.2, X2W g oH rH vH oQ rQ aH, X3W g oR rR R kA0, X1W g oT rT T.1 T.2, JOW oB q ml (nI ln.2), JAW g q n f] := hD.pick [5, 0, 1, 2, 3, 4, 6, 7] rfl rfl
  exact kL_ret K hP hD hS ⟨(if_pos hc).symm, ⟨oC, oS, oH, oR, oT, oB, rC, rS, rH, rR, rT, oQ, rQ, vH, aH, q, n, ml, f, rfl, hT4, hHi, hIv⟩⟩ ⟨Nat.le_of_ble_eq_true rfl, Nat.le_of_ble_eq_true rfl⟩ dL_character_5
abbrev wL_meanDust : List Cond := Cond.codeWith yL_meanDust cL_meanDust 2 (some .float) [(0, 4, 5, 124)] :: kW
set_option maxHeartbeats 4000000 in
set_option maxRecDepth 100000 in
theorem L_meanDust_c (l : Launch) (hfl : l.stackTraces = false) (g : kG) (oF : Nat) (F : Nat → Int32) (C S : kK) (h : List kK) (R : Nat → Int32) (T : kK) (ln : kTx) (cs : List va_W) (hO : kOb g oF F C S h R T ln cs)  : kLf kX0 l yL_meanDust wL_meanDust 8 220 1 6 g [.ref oF] cs (fun x u => x = (if (X4_meanDust_f C.1 C.2).1 = 0 then (X4_meanDust_f C.1 C.2).2 else 3296346112) ∧ kOb g oF F C S h R T ln u) := by
  obtain ⟨oC, oS, oH, oR, oT, oB, rC, rS, rH, rR, rT, oQ, rQ, vH, aH, q, n, ml, f, rfl, hT4, hHi, hIv⟩ := hO
  have hI := hIv.1
  have hTx := hIv.2.2.2.1
  obtain ⟨⟨nb, hnb, hv7⟩, ⟨nj, hnj, hv4⟩, hM⟩ := id hI
  refine kLg_of (cc := cL_meanDust) (nL := 2) (ret := some .float) (lv := [(0, .ref oF)]) (by decide) rfl (Nat.le_of_ble_eq_true rfl) rfl ?_
  intro p e s m args below meth c ls A htab hN hX K hP hD hE hA hS hl
  have K : kC p c cL_meanDust s m args meth RL g 2 (some .float) := K
  have hx := K.1.1
  have hb := K.1.2.1
  have hts := K.1.2.2.2.2
  refine lv_aload_n hx hb dL_meanDust_0 rfl (lv_at hl 0 rfl) ?_
  refine kXF_V (As := []) (rest := []) (wr := [X0W g oS rS S.1 S.2, X2W g oH rH vH oQ rQ aH, X3W g oR rR R kA0, X1W g oT rT T.1 T.2, JOW oB q ml (nI ln.2), JAW g q n f]) K (X4_meanDust_c l g oF F oS oH oR oT oB oC rC C.1 C.2 nb hnb hv7 hfl) (cwV 0 hts (k_gV kw1347 ca_X4_meanDust) rfl rfl rfl ⟨rfl, pnX4_meanDust⟩ ⟨Nat.le_of_ble_eq_true rfl, Nat.le_of_ble_eq_true rfl⟩) hE hS hA hP hD [0, 1] [2, 3, 4, 5, 6, 7] rfl rfl ⟨rfl, rfl, by decide⟩ (k_recv K kFX4 hP (i := 0) (q := 0) rfl rfl) rfl hl.1 rfl rfl dL_meanDust_1 ⟨Nat.le_of_ble_eq_true rfl, Nat.le_of_ble_eq_true rfl⟩ (fun E u H locs qE ce hp hP hD hS hce hcv hcl => ?_) (fun r u H locs hp hP hD hS => ?_)
  · obtain ⟨hc, hE2, hu⟩ := hp
    subst hu
    have hP : kp g [X4W g oF (kFr oC oS oH oR oT oB) F, X0W g oC rC C.1 C.2, X0W g oS rS S.1 S.2, X2W g oH rH vH oQ rQ aH, X3W g oR rR R kA0, X1W g oT rT T.1 T.2, JOW oB q ml (nI ln.2), JAW g q n f] H := hP.pick [6, 7, 0, 1, 2, 3, 4, 5] rfl
    have hD : kd A [X4W g oF (kFr oC oS oH oR oT oB) F, X0W g oC rC C.1 C.2, X0W g oS rS S.1 S.2, X2W g oH rH vH oQ rQ aH, X3W g oR rR R kA0, X1W g oT rT T.1 T.2, JOW oB q ml (nI ln.2), JAW g q n f] := hD.pick [6, 7, 0, 1, 2, 3, 4, 5] rfl rfl
    rcases (kK_meanDust : (X4_meanDust_f C.1 C.2).1 = 0 ∨ (X4_meanDust_f C.1 C.2).1 = 6) with h0 | h6
    · exact absurd h0 hc
    · have hE3 : E = "java/lang/ArithmeticException" := hE2.trans (congrArg kEx h6)
      subst hE3
      refine kx_catch1 (E := "java/lang/ArithmeticException") K htab rfl (by decide) kw1312 (List.mem_of_getElem? (i := 89) rfl) hce hcv hcl ?_
      refine lv_astore_n (lv' := [(1, .ref qE), (0, .ref oF)]) hx hb dL_meanDust_5 rfl hl (by decide) rfl (fun ls hl => ?_)
      refine lv_ldcf hx hb K.1.2.2.2.1 (hts _ kw1353) dL_meanDust_6 ?_
      exact kLf_ret K hP hD hS ⟨(if_neg hc).symm, ⟨oC, oS, oH, oR, oT, oB, rC, rS, rH, rR, rT, oQ, rQ, vH, aH, q, n, ml, f, rfl, hT4, hHi, hIv⟩⟩ ⟨Nat.le_of_ble_eq_true rfl, Nat.le_of_ble_eq_true rfl⟩ dL_meanDust_8
  obtain ⟨hc, hr, hu⟩ := hp
  subst hu
  subst hr
  have hP : kp g [X4W g oF (kFr oC oS oH oR oT oB) F, X0W g oC rC C.1 C.2, X0W g oS rS S.1 S.2, X2W g oH rH vH oQ rQ aH, X3W g oR rR R kA0, X1W g oT rT T.1 T.2, JOW oB q ml (nI ln.2), JAW g q n f] H := hP.pick [6, 7, 0, 1, 2, 3, 4, 5] rfl
  have hD : kd A [X4W g oF (kFr oC oS oH oR oT oB) F, X0W g oC rC C.1 C.2, X0W g oS rS S.1 S.2, X2W g oH rH vH oQ rQ aH, X3W g oR rR R kA0, X1W g oT rT T.1 T.2, JOW oB q ml (nI ln.2), JAW g q n f] := hD.pick [6, 7, 0, 1, 2, 3, 4, 5] rfl rfl
  exact kLf_ret K hP hD hS ⟨(if_pos hc).symm, ⟨oC, oS, oH, oR, oT, oB, rC, rS, rH, rR, rT, oQ, rQ, vH, aH, q, n, ml, f, rfl, hT4, hHi, hIv⟩⟩ ⟨Nat.le_of_ble_eq_true rfl, Nat.le_of_ble_eq_true rfl⟩ dL_meanDust_4
abbrev wL_honestShare : List Cond := Cond.codeWith yL_honestShare cL_honestShare 2 (some .double) [(0, 4, 5, 124)] :: kW
set_option maxHeartbeats 4000000 in
set_option maxRecDepth 100000 in
theorem L_honestShare_c (l : Launch) (hfl : l.stackTraces = false) (g : kG) (oF : Nat) (F : Nat → Int32) (C S : kK) (h : List kK) (R : Nat → Int32) (T : kK) (ln : kTx) (cs : List va_W) (hO : kOb g oF F C S h R T ln cs)  : kLd kX0 l yL_honestShare wL_honestShare 8 220 1 6 g [.ref oF] cs (fun x u => x = (if (X4_honestShare_f C.1 C.2).1 = 0 then (X4_honestShare_f C.1 C.2).2 else 13875388141788987392) ∧ kOb g oF F C S h R T ln u) := by
  obtain ⟨oC, oS, oH, oR, oT, oB, rC, rS, rH, rR, rT, oQ, rQ, vH, aH, q, n, ml, f, rfl, hT4, hHi, hIv⟩ := hO
  have hI := hIv.1
  have hTx := hIv.2.2.2.1
  obtain ⟨⟨nb, hnb, hv7⟩, ⟨nj, hnj, hv4⟩, hM⟩ := id hI
  refine kLg_of (cc := cL_honestShare) (nL := 2) (ret := some .double) (lv := [(0, .ref oF)]) (by decide) rfl (Nat.le_of_ble_eq_true rfl) rfl ?_
  intro p e s m args below meth c ls A htab hN hX K hP hD hE hA hS hl
  have K : kC p c cL_honestShare s m args meth RL g 2 (some .double) := K
  have hx := K.1.1
  have hb := K.1.2.1
  have hts := K.1.2.2.2.2
  refine lv_aload_n hx hb dL_honestShare_0 rfl (lv_at hl 0 rfl) ?_
  refine kXD_V (As := []) (rest := []) (wr := [X0W g oS rS S.1 S.2, X2W g oH rH vH oQ rQ aH, X3W g oR rR R kA0, X1W g oT rT T.1 T.2, JOW oB q ml (nI ln.2), JAW g q n f]) K (X4_honestShare_c l g oF F oS oH oR oT oB oC rC C.1 C.2 hfl) (cwV 0 hts (k_gV kw1326 ca_X4_honestShare) rfl rfl rfl ⟨rfl, pnX4_honestShare⟩ ⟨Nat.le_of_ble_eq_true rfl, Nat.le_of_ble_eq_true rfl⟩) hE hS hA hP hD [0, 1] [2, 3, 4, 5, 6, 7] rfl rfl ⟨rfl, rfl, by decide⟩ (k_recv K kFX4 hP (i := 0) (q := 0) rfl rfl) rfl hl.1 rfl rfl dL_honestShare_1 ⟨Nat.le_of_ble_eq_true rfl, Nat.le_of_ble_eq_true rfl⟩ (fun E u H locs qE ce hp hP hD hS hce hcv hcl => ?_) (fun r u H locs hp hP hD hS => ?_)
  · obtain ⟨hc, hE2, hu⟩ := hp
    subst hu
    have hP : kp g [X4W g oF (kFr oC oS oH oR oT oB) F, X0W g oC rC C.1 C.2, X0W g oS rS S.1 S.2, X2W g oH rH vH oQ rQ aH, X3W g oR rR R kA0, X1W g oT rT T.1 T.2, JOW oB q ml (nI ln.2), JAW g q n f] H := hP.pick [6, 7, 0, 1, 2, 3, 4, 5] rfl
    have hD : kd A [X4W g oF (kFr oC oS oH oR oT oB) F, X0W g oC rC C.1 C.2, X0W g oS rS S.1 S.2, X2W g oH rH vH oQ rQ aH, X3W g oR rR R kA0, X1W g oT rT T.1 T.2, JOW oB q ml (nI ln.2), JAW g q n f] := hD.pick [6, 7, 0, 1, 2, 3, 4, 5] rfl rfl
    rcases (kK_honestShare : (X4_honestShare_f C.1 C.2).1 = 0 ∨ (X4_honestShare_f C.1 C.2).1 = 6) with h0 | h6
    · exact absurd h0 hc
    · have hE3 : E = "java/lang/ArithmeticException" := hE2.trans (congrArg kEx h6)
      subst hE3
      refine kx_catch1 (E := "java/lang/ArithmeticException") K htab rfl (by decide) kw1312 (List.mem_of_getElem? (i := 89) rfl) hce hcv hcl ?_
      refine lv_astore_n (lv' := [(1, .ref qE), (0, .ref oF)]) hx hb dL_honestShare_5 rfl hl (by decide) rfl (fun ls hl => ?_)
      refine lv_ldc2d hx hb K.1.2.2.2.1 (hts _ kw1333) dL_honestShare_6 ?_
      exact kLd_ret K hP hD hS ⟨(if_neg hc).symm, ⟨oC, oS, oH, oR, oT, oB, rC, rS, rH, rR, rT, oQ, rQ, vH, aH, q, n, ml, f, rfl, hT4, hHi, hIv⟩⟩ ⟨Nat.le_of_ble_eq_true rfl, Nat.le_of_ble_eq_true rfl⟩ dL_honestShare_9
  obtain ⟨hc, hr, hu⟩ := hp
  subst hu
  subst hr
  have hP : kp g [X4W g oF (kFr oC oS oH oR oT oB) F, X0W g oC rC C.1 C.2, X0W g oS rS S.1 S.2, X2W g oH rH vH oQ rQ aH, X3W g oR rR R kA0, X1W g oT rT T.1 T.2, JOW oB q ml (nI ln.2), JAW g q n f] H := hP.pick [6, 7, 0, 1, 2, 3, 4, 5] rfl
  have hD : kd A [X4W g oF (kFr oC oS oH oR oT oB) F, X0W g oC rC C.1 C.2, X0W g oS rS S.1 S.2, X2W g oH rH vH oQ rQ aH, X3W g oR rR R kA0, X1W g oT rT T.1 T.2, JOW oB q ml (nI ln.2), JAW g q n f] := hD.pick [6, 7, 0, 1, 2, 3, 4, 5] rfl rfl
  exact kLd_ret K hP hD hS ⟨(if_pos hc).symm, ⟨oC, oS, oH, oR, oT, oB, rC, rS, rH, rR, rT, oQ, rQ, vH, aH, q, n, ml, f, rfl, hT4, hHi, hIv⟩⟩ ⟨Nat.le_of_ble_eq_true rfl, Nat.le_of_ble_eq_true rfl⟩ dL_honestShare_4
abbrev wL_account : List Cond := Cond.codeWith yL_account cL_account 3 (some .int) [(0, 5, 6, 60)] :: kW
set_option maxHeartbeats 4000000 in
set_option maxRecDepth 100000 in
theorem L_account_c (l : Launch) (hfl : l.stackTraces = false) (g : kG) (oF : Nat) (F : Nat → Int32) (C S : kK) (h : List kK) (R : Nat → Int32) (T : kK) (ln : kTx) (cs : List va_W) (hO : kOb g oF F C S h R T ln cs) (p0 : Int32) : kL kX0 l yL_account wL_account 7 103 1 6 g [.ref oF, .int p0] cs (fun x u => x = kAcc C h T p0 ∧ kOb g oF F C S h R T ln u) := by
  obtain ⟨oC, oS, oH, oR, oT, oB, rC, rS, rH, rR, rT, oQ, rQ, vH, aH, q, n, ml, f, rfl, hT4, hHi, hIv⟩ := hO
  have hI := hIv.1
  have hTx := hIv.2.2.2.1
  obtain ⟨⟨nb, hnb, hv7⟩, ⟨nj, hnj, hv4⟩, hM⟩ := id hI
  refine kLg_of (cc := cL_account) (nL := 3) (ret := some .int) (lv := [(0, .ref oF), (1, .int p0)]) (by decide) rfl (Nat.le_of_ble_eq_true rfl) rfl ?_
  intro p e s m args below meth c ls A htab hN hX K hP hD hE hA hS hl
  have K : kC p c cL_account s m args meth RL g 3 (some .int) := K
  have hx := K.1.1
  have hb := K.1.2.1
  have hts := K.1.2.2.2.2
  refine lv_aload_n hx hb dL_account_0 rfl (lv_at hl 0 rfl) ?_
  refine lv_iload_n hx hb dL_account_1 rfl (lv_at hl 1 rfl) ?_
  refine kX_V (As := [.int p0]) (rest := []) (wr := [X0W g oS rS S.1 S.2, X3W g oR rR R kA0, JOW oB q ml (nI ln.2), JAW g q n f]) K (X4_account_c l g oF F oS oR oB oC rC C.1 C.2 oH rH vH oQ rQ aH oT rT T.1 T.2 p0 nb nj hnb hv7 hnj hv4 hfl) (cwV 1 hts (k_gV kw964 ca_X4_account) rfl rfl rfl ⟨rfl, pnX4_account⟩ ⟨Nat.le_of_ble_eq_true rfl, Nat.le_of_ble_eq_true rfl⟩) hE hS hA hP hD [0, 1, 3, 5] [2, 4, 6, 7] rfl rfl ⟨rfl, rfl, by decide⟩ (k_recv K kFX4 hP (i := 0) (q := 0) rfl rfl) rfl hl.1 rfl rfl dL_account_2 ⟨Nat.le_of_ble_eq_true rfl, Nat.le_of_ble_eq_true rfl⟩ (fun E u H locs qE ce hp hP hD hS hce hcv hcl => ?_) (fun r u H locs hp hP hD hS => ?_)
  · obtain ⟨hc, hE2, hu⟩ := hp
    subst hu
    have hP : kp g [X4W g oF (kFr oC oS oH oR oT oB) F, X0W g oC rC C.1 C.2, X0W g oS rS S.1 S.2, X2W g oH rH vH oQ rQ aH, X3W g oR rR R kA0, X1W g oT rT T.1 T.2, JOW oB q ml (nI ln.2), JAW g q n f] H := hP.pick [4, 5, 0, 6, 1, 7, 2, 3] rfl
    have hD : kd A [X4W g oF (kFr oC oS oH oR oT oB) F, X0W g oC rC C.1 C.2, X0W g oS rS S.1 S.2, X2W g oH rH vH oQ rQ aH, X3W g oR rR R kA0, X1W g oT rT T.1 T.2, JOW oB q ml (nI ln.2), JAW g q n f] := hD.pick [4, 5, 0, 6, 1, 7, 2, 3] rfl rfl
    rcases (kK_account : (X4_account_f F C.1 C.2 vH aH T.1 T.2 p0).1 = 0 ∨ (X4_account_f F C.1 C.2 vH aH T.1 T.2 p0).1 = 3) with h0 | h3
    · exact absurd h0 hc
    · have hE3 : E = "java/lang/IllegalArgumentException" := hE2.trans (congrArg kEx h3)
      subst hE3
      refine kx_catch1 (E := "java/lang/IllegalArgumentException") K htab rfl (by decide) kw732 (List.mem_of_getElem? (i := 86) rfl) hce hcv hcl ?_
      refine lv_astore_n (lv' := [(2, .ref qE), (0, .ref oF), (1, .int p0)]) hx hb dL_account_6 rfl hl (by decide) rfl (fun ls hl => ?_)
      refine lv_sipush (v := (-1001)) hx hb dL_account_7 (by decide) ?_
      exact kL_ret K hP hD hS ⟨by rw [← kAcc_eq F C hHi T p0]; unfold kA1; rw [if_neg hc], ⟨oC, oS, oH, oR, oT, oB, rC, rS, rH, rR, rT, oQ, rQ, vH, aH, q, n, ml, f, rfl, hT4, hHi, hIv⟩⟩ ⟨Nat.le_of_ble_eq_true rfl, Nat.le_of_ble_eq_true rfl⟩ dL_account_10
  obtain ⟨hc, hr, hu⟩ := hp
  subst hu
  subst hr
  have hP : kp g [X4W g oF (kFr oC oS oH oR oT oB) F, X0W g oC rC C.1 C.2, X0W g oS rS S.1 S.2, X2W g oH rH vH oQ rQ aH, X3W g oR rR R kA0, X1W g oT rT T.1 T.2, JOW oB q ml (nI ln.2), JAW g q n f] H := hP.pick [4, 5, 0, 6, 1, 7, 2, 3] rfl
  have hD : kd A [X4W g oF (kFr oC oS oH oR oT oB) F, X0W g oC rC C.1 C.2, X0W g oS rS S.1 S.2, X2W g oH rH vH oQ rQ aH, X3W g oR rR R kA0, X1W g oT rT T.1 T.2, JOW oB q ml (nI ln.2), JAW g q n f] := hD.pick [4, 5, 0, 6, 1, 7, 2, 3] rfl rfl
  exact kL_ret K hP hD hS ⟨by rw [← kAcc_eq F C hHi T p0]; exact (if_pos hc).symm, ⟨oC, oS, oH, oR, oT, oB, rC, rS, rH, rR, rT, oQ, rQ, vH, aH, q, n, ml, f, rfl, hT4, hHi, hIv⟩⟩ ⟨Nat.le_of_ble_eq_true rfl, Nat.le_of_ble_eq_true rfl⟩ dL_account_5
abbrev wL_undo : List Cond := Cond.codeWith yL_undo cL_undo 2 (some .int) [(0, 4, 5, 105)] :: kW
set_option maxHeartbeats 4000000 in
set_option maxRecDepth 100000 in
theorem L_undo_c (l : Launch) (hfl : l.stackTraces = false) (g : kG) (oF : Nat) (F : Nat → Int32) (C S : kK) (h : List kK) (R : Nat → Int32) (T : kK) (ln : kTx) (cs : List va_W) (hO : kOb g oF F C S h R T ln cs)  : kL kX0 l yL_undo wL_undo 7 122 1 6 g [.ref oF] cs (fun x u => (h = [] ∧ x = -1001 ∧ kOb g oF F C S h R T ln u) ∨ ∃ (c : kK) (t : List kK), h = c :: t ∧ x = nI t.length ∧ kOb g oF F c S t R T ln u) := by
  obtain ⟨oC, oS, oH, oR, oT, oB, rC, rS, rH, rR, rT, oQ, rQ, vH, aH, q, n, ml, f, rfl, hT4, hHi, hIv⟩ := hO
  have hI := hIv.1
  have hTx := hIv.2.2.2.1
  obtain ⟨⟨nb, hnb, hv7⟩, ⟨nj, hnj, hv4⟩, hM⟩ := id hI
  refine kLg_of (cc := cL_undo) (nL := 2) (ret := some .int) (lv := [(0, .ref oF)]) (by decide) rfl (Nat.le_of_ble_eq_true rfl) rfl ?_
  intro p e s m args below meth c ls A htab hN hX K hP hD hE hA hS hl
  have K : kC p c cL_undo s m args meth RL g 2 (some .int) := K
  have hx := K.1.1
  have hb := K.1.2.1
  have hts := K.1.2.2.2.2
  refine lv_aload_n hx hb dL_undo_0 rfl (lv_at hl 0 rfl) ?_
  refine kX_V (As := []) (rest := []) (wr := [X0W g oS rS S.1 S.2, X3W g oR rR R kA0, X1W g oT rT T.1 T.2, JOW oB q ml (nI ln.2), JAW g q n f]) K (X4_undo_c l g oF F oS oR oT oB oC rC C.1 C.2 oH rH vH oQ rQ aH hHi.in9 hfl) (cwV 0 hts (k_gV kw977 ca_X4_undo) rfl rfl rfl ⟨rfl, pnX4_undo⟩ ⟨Nat.le_of_ble_eq_true rfl, Nat.le_of_ble_eq_true rfl⟩) hE hS hA hP hD [0, 1, 3] [2, 4, 5, 6, 7] rfl rfl ⟨rfl, rfl, by decide⟩ (k_recv K kFX4 hP (i := 0) (q := 0) rfl rfl) rfl hl.1 rfl rfl dL_undo_1 ⟨Nat.le_of_ble_eq_true rfl, Nat.le_of_ble_eq_true rfl⟩ (fun E u H locs qE ce hp hP hD hS hce hcv hcl => ?_) (fun r u H locs hp hP hD hS => ?_)
  · obtain ⟨hc, hE2, hu⟩ := hp
    by_cases hz : vH 2 = 0
    · have hF : X4_undo_f F C.1 C.2 vH aH = (5, 0, C.1, C.2, vH) := if_pos hz
      rw [hF] at hE2 hu
      have hE3 : E = "java/lang/IllegalStateException" := hE2
      subst hE3
      have hu : u = [X4W g oF (kFr oC oS oH oR oT oB) F, X0W g oC rC C.1 C.2, X2W g oH rH vH oQ rQ aH] := hu
      subst hu
      have hP : kp g [X4W g oF (kFr oC oS oH oR oT oB) F, X0W g oC rC C.1 C.2, X0W g oS rS S.1 S.2, X2W g oH rH vH oQ rQ aH, X3W g oR rR R kA0, X1W g oT rT T.1 T.2, JOW oB q ml (nI ln.2), JAW g q n f] H := hP.pick [5, 6, 0, 7, 1, 2, 3, 4] rfl
      have hD : kd A [X4W g oF (kFr oC oS oH oR oT oB) F, X0W g oC rC C.1 C.2, X0W g oS rS S.1 S.2, X2W g oH rH vH oQ rQ aH, X3W g oR rR R kA0, X1W g oT rT T.1 T.2, JOW oB q ml (nI ln.2), JAW g q n f] := hD.pick [5, 6, 0, 7, 1, 2, 3, 4] rfl rfl
      refine kx_catch1 (E := "java/lang/IllegalStateException") K htab rfl (by decide) kw844 (List.mem_of_getElem? (i := 88) rfl) hce hcv hcl ?_
      refine lv_astore_n (lv' := [(1, .ref qE), (0, .ref oF)]) hx hb dL_undo_5 rfl hl (by decide) rfl (fun ls hl => ?_)
      refine lv_sipush (v := (-1001)) hx hb dL_undo_6 (by decide) ?_
      exact kL_ret K hP hD hS (Or.inl ⟨hHi.nil hz, rfl, ⟨oC, oS, oH, oR, oT, oB, rC, rS, rH, rR, rT, oQ, rQ, vH, aH, q, n, ml, f, rfl, hT4, hHi, hIv⟩⟩) ⟨Nat.le_of_ble_eq_true rfl, Nat.le_of_ble_eq_true rfl⟩ dL_undo_9
    exact absurd (congrArg Prod.fst (if_neg hz)) hc
  obtain ⟨hc, hr, hu⟩ := hp
  by_cases hz : vH 2 = 0
  · exact absurd (show (0 : Nat) = 5 from hc.symm.trans (congrArg Prod.fst (if_pos hz))) (by decide)
  have hF : X4_undo_f F C.1 C.2 vH aH = (0, (X2_takeBack_f vH aH C.1 C.2).1 2, (X2_takeBack_f vH aH C.1 C.2).2.1, (X2_takeBack_f vH aH C.1 C.2).2.2, (X2_takeBack_f vH aH C.1 C.2).1) := if_neg hz
  rw [hF] at hr hu
  have hu : u = [X4W g oF (kFr oC oS oH oR oT oB) F, X0W g oC rC (X2_takeBack_f vH aH C.1 C.2).2.1 (X2_takeBack_f vH aH C.1 C.2).2.2, X2W g oH rH (X2_takeBack_f vH aH C.1 C.2).1 oQ rQ aH] := hu
  subst hu
  have hP : kp g [X4W g oF (kFr oC oS oH oR oT oB) F, X0W g oC rC (X2_takeBack_f vH aH C.1 C.2).2.1 (X2_takeBack_f vH aH C.1 C.2).2.2, X0W g oS rS S.1 S.2, X2W g oH rH (X2_takeBack_f vH aH C.1 C.2).1 oQ rQ aH, X3W g oR rR R kA0, X1W g oT rT T.1 T.2, JOW oB q ml (nI ln.2), JAW g q n f] H := hP.pick [5, 6, 0, 7, 1, 2, 3, 4] rfl
  have hD : kd A [X4W g oF (kFr oC oS oH oR oT oB) F, X0W g oC rC (X2_takeBack_f vH aH C.1 C.2).2.1 (X2_takeBack_f vH aH C.1 C.2).2.2, X0W g oS rS S.1 S.2, X2W g oH rH (X2_takeBack_f vH aH C.1 C.2).1 oQ rQ aH, X3W g oR rR R kA0, X1W g oT rT T.1 T.2, JOW oB q ml (nI ln.2), JAW g q n f] := hD.pick [5, 6, 0, 7, 1, 2, 3, 4] rfl rfl
  cases h with
  | nil => exact absurd hHi.kept hz
  | cons c t =>
    obtain ⟨g1, g2, g3⟩ := hHi.undo C
    exact kL_ret K hP hD hS (Or.inr ⟨c, t, rfl, hr.trans g3, ⟨oC, oS, oH, oR, oT, oB, rC, rS, rH, rR, rT, oQ, rQ, _, _, q, n, ml, f, by rw [← g2, kN_W], hT4, g1, hIv.undo (by rw [← g2, kN_N])⟩⟩) ⟨Nat.le_of_ble_eq_true rfl, Nat.le_of_ble_eq_true rfl⟩ dL_undo_4
abbrev wL_restore : List Cond := Cond.codeWith yL_restore cL_restore 2 (some .int) [(0, 4, 5, 105)] :: kW
set_option maxHeartbeats 4000000 in
set_option maxRecDepth 100000 in
theorem L_restore_c (l : Launch) (hfl : l.stackTraces = false) (g : kG) (oF : Nat) (F : Nat → Int32) (C S : kK) (h : List kK) (R : Nat → Int32) (T : kK) (ln : kTx) (cs : List va_W) (hO : kOb g oF F C S h R T ln cs)  : kL kX0 l yL_restore wL_restore 7 102 1 6 g [.ref oF] cs (fun x u => (F 2 = 0 ∧ x = -1001 ∧ kOb g oF F C S h R T ln u) ∨ (F 2 ≠ 0 ∧ x = S.1 0 ∧ kOb g oF F (kN S) S [] R T ln u)) := by
  obtain ⟨oC, oS, oH, oR, oT, oB, rC, rS, rH, rR, rT, oQ, rQ, vH, aH, q, n, ml, f, rfl, hT4, hHi, hIv⟩ := hO
  have hI := hIv.1
  have hTx := hIv.2.2.2.1
  obtain ⟨⟨nb, hnb, hv7⟩, ⟨nj, hnj, hv4⟩, hM⟩ := id hI
  refine kLg_of (cc := cL_restore) (nL := 2) (ret := some .int) (lv := [(0, .ref oF)]) (by decide) rfl (Nat.le_of_ble_eq_true rfl) rfl ?_
  intro p e s m args below meth c ls A htab hN hX K hP hD hE hA hS hl
  have K : kC p c cL_restore s m args meth RL g 2 (some .int) := K
  have hx := K.1.1
  have hb := K.1.2.1
  have hts := K.1.2.2.2.2
  refine lv_aload_n hx hb dL_restore_0 rfl (lv_at hl 0 rfl) ?_
  refine kX_V (As := []) (rest := []) (wr := [X3W g oR rR R kA0, X1W g oT rT T.1 T.2, JOW oB q ml (nI ln.2), JAW g q n f]) K (X4_restore_c l g oF F oR oT oB oC rC C.1 C.2 oS rS S.1 S.2 oH rH vH oQ rQ aH hfl) (cwV 0 hts (k_gV kw989 ca_X4_restore) rfl rfl rfl ⟨rfl, pnX4_restore⟩ ⟨Nat.le_of_ble_eq_true rfl, Nat.le_of_ble_eq_true rfl⟩) hE hS hA hP hD [0, 1, 2, 3] [4, 5, 6, 7] rfl rfl ⟨rfl, rfl, by decide⟩ (k_recv K kFX4 hP (i := 0) (q := 0) rfl rfl) rfl hl.1 rfl rfl dL_restore_1 ⟨Nat.le_of_ble_eq_true rfl, Nat.le_of_ble_eq_true rfl⟩ (fun E u H locs qE ce hp hP hD hS hce hcv hcl => ?_) (fun r u H locs hp hP hD hS => ?_)
  · obtain ⟨hc, hE2, hu⟩ := hp
    by_cases hz : F 2 = 0
    · have hF : X4_restore_f F C.1 C.2 S.1 S.2 vH aH = (5, 0, C.1, C.2, vH) := if_pos hz
      rw [hF] at hE2 hu
      have hE3 : E = "java/lang/IllegalStateException" := hE2
      subst hE3
      have hu : u = [X4W g oF (kFr oC oS oH oR oT oB) F, X0W g oC rC C.1 C.2, X0W g oS rS S.1 S.2, X2W g oH rH vH oQ rQ aH] := hu
      subst hu
      have hP : kp g [X4W g oF (kFr oC oS oH oR oT oB) F, X0W g oC rC C.1 C.2, X0W g oS rS S.1 S.2, X2W g oH rH vH oQ rQ aH, X3W g oR rR R kA0, X1W g oT rT T.1 T.2, JOW oB q ml (nI ln.2), JAW g q n f] H := hP.pick [4, 5, 6, 7, 0, 1, 2, 3] rfl
      have hD : kd A [X4W g oF (kFr oC oS oH oR oT oB) F, X0W g oC rC C.1 C.2, X0W g oS rS S.1 S.2, X2W g oH rH vH oQ rQ aH, X3W g oR rR R kA0, X1W g oT rT T.1 T.2, JOW oB q ml (nI ln.2), JAW g q n f] := hD.pick [4, 5, 6, 7, 0, 1, 2, 3] rfl rfl
      refine kx_catch1 (E := "java/lang/IllegalStateException") K htab rfl (by decide) kw844 (List.mem_of_getElem? (i := 88) rfl) hce hcv hcl ?_
      refine lv_astore_n (lv' := [(1, .ref qE), (0, .ref oF)]) hx hb dL_restore_5 rfl hl (by decide) rfl (fun ls hl => ?_)
      refine lv_sipush (v := (-1001)) hx hb dL_restore_6 (by decide) ?_
      exact kL_ret K hP hD hS (Or.inl ⟨hz, rfl, ⟨oC, oS, oH, oR, oT, oB, rC, rS, rH, rR, rT, oQ, rQ, vH, aH, q, n, ml, f, rfl, hT4, hHi, hIv⟩⟩) ⟨Nat.le_of_ble_eq_true rfl, Nat.le_of_ble_eq_true rfl⟩ dL_restore_9
    exact absurd (congrArg Prod.fst (if_neg hz)) hc
  obtain ⟨hc, hr, hu⟩ := hp
  by_cases hz : F 2 = 0
  · exact absurd (show (0 : Nat) = 5 from hc.symm.trans (congrArg Prod.fst (if_pos hz))) (by decide)
  have hF : X4_restore_f F C.1 C.2 S.1 S.2 vH aH = (0, (X0_copyFrom_f S.1 S.2 C.1 C.2).1 0, (X0_copyFrom_f S.1 S.2 C.1 C.2).1, (X0_copyFrom_f S.1 S.2 C.1 C.2).2, upd vH 2 0) := if_neg hz
  rw [hF] at hr hu
  have hu : u = [X4W g oF (kFr oC oS oH oR oT oB) F, X0W g oC rC (X0_copyFrom_f S.1 S.2 C.1 C.2).1 (X0_copyFrom_f S.1 S.2 C.1 C.2).2, X0W g oS rS S.1 S.2, X2W g oH rH (upd vH 2 0) oQ rQ aH] := hu
  subst hu
  have hP : kp g [X4W g oF (kFr oC oS oH oR oT oB) F, X0W g oC rC (X0_copyFrom_f S.1 S.2 C.1 C.2).1 (X0_copyFrom_f S.1 S.2 C.1 C.2).2, X0W g oS rS S.1 S.2, X2W g oH rH (upd vH 2 0) oQ rQ aH, X3W g oR rR R kA0, X1W g oT rT T.1 T.2, JOW oB q ml (nI ln.2), JAW g q n f] H := hP.pick [4, 5, 6, 7, 0, 1, 2, 3] rfl
  have hD : kd A [X4W g oF (kFr oC oS oH oR oT oB) F, X0W g oC rC (X0_copyFrom_f S.1 S.2 C.1 C.2).1 (X0_copyFrom_f S.1 S.2 C.1 C.2).2, X0W g oS rS S.1 S.2, X2W g oH rH (upd vH 2 0) oQ rQ aH, X3W g oR rR R kA0, X1W g oT rT T.1 T.2, JOW oB q ml (nI ln.2), JAW g q n f] := hD.pick [4, 5, 6, 7, 0, 1, 2, 3] rfl rfl
  exact kL_ret K hP hD hS (Or.inr ⟨hz, hr, ⟨oC, oS, oH, oR, oT, oB, rC, rS, rH, rR, rT, oQ, rQ, _, _, q, n, ml, f, by rw [← kN_cp S C, kN_W], hT4, hHi.none, hIv.rest⟩⟩) ⟨Nat.le_of_ble_eq_true rfl, Nat.le_of_ble_eq_true rfl⟩ dL_restore_4
