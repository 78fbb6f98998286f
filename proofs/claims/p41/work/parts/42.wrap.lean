theorem kw708 : Cond.classLink RL 55 "java/lang/IndexOutOfBoundsException" ∈ kW := k_w 4 160 rfl rfl
theorem kw732 : Cond.classLink RL 60 "java/lang/IllegalArgumentException" ∈ kW := k_w 4 184 rfl rfl
theorem kw733 : Cond.methodLink RL 62 yX4_weightOf ∈ kW := k_w 4 185 rfl rfl
theorem kw775 : Cond.methodLink RL 65 yX4_told ∈ kW := k_w 4 227 rfl rfl
theorem kw791 : Cond.methodLink RL 68 yX4_toldAgain ∈ kW := k_w 5 3 rfl rfl
theorem kw807 : Cond.methodLink RL 71 yX4_onPan ∈ kW := k_w 5 19 rfl rfl
theorem kw814 : Cond.methodLink RL 74 yX4_rest ∈ kW := k_w 5 26 rfl rfl
theorem kw821 : Cond.methodLink RL 80 yX4_pays ∈ kW := k_w 5 33 rfl rfl
theorem kw1000 : Cond.classLink RL 86 "java/util/NoSuchElementException" ∈ kW := k_w 5 212 rfl rfl
theorem kw1367 : Cond.methodLink RL 51 yX4_jarOf ∈ kW := k_w 7 99 rfl rfl
theorem kw1376 : Cond.methodLink RL 57 yX4_bagOf ∈ kW := k_w 7 108 rfl rfl
theorem kw1384 : Cond.methodLink RL 77 yX4_honest ∈ kW := k_w 7 116 rfl rfl
theorem kw1391 : Cond.methodLink RL 83 yX4_wouldGet ∈ kW := k_w 7 123 rfl rfl
theorem kw1405 : Cond.methodLink RL 88 yX4_bestMarket ∈ kW := k_w 7 137 rfl rfl
theorem kw1433 : Cond.methodLink RL 91 yX4_oathUntil ∈ kW := k_w 7 165 rfl rfl
abbrev wL_jarOf : List Cond := Cond.codeWith yL_jarOf cL_jarOf 4 (some .int) [(0, 6, 7, 55)] :: kW
set_option maxHeartbeats 4000000 in
set_option maxRecDepth 100000 in
theorem L_jarOf_c (l : Launch) (hfl : l.stackTraces = false) (g : kG) (oF : Nat) (F : Nat → Int32) (C S : kK) (h : List kK) (R : Nat → Int32) (T : kK) (ln : kTx) (cs : List va_W) (hO : kOb g oF F C S h R T ln cs) (p0 : Int32) (p1 : Bool) : kL kX0 l yL_jarOf wL_jarOf 7 104 1 6 g [.ref oF, .int p0, .int (b2i p1)] cs (fun x u => x = kA1 (X4_jarOf_f kF0 C.1 C.2 p0 p1) ∧ kOb g oF F C S h R T ln u) := by
  obtain ⟨oC, oS, oH, oR, oT, oB, rC, rS, rH, rR, rT, oQ, rQ, vH, aH, q, n, ml, f, rfl, hT4, hHi, hIv⟩ := hO
  have hI := hIv.1
  have hTx := hIv.2.2.2.1
  obtain ⟨⟨nb, hnb, hv7⟩, ⟨nj, hnj, hv4⟩, hM⟩ := id hI
  refine kLg_of (cc := cL_jarOf) (nL := 4) (ret := some .int) (lv := [(0, .ref oF), (1, .int p0), (2, .int (b2i p1))]) (by decide) rfl (Nat.le_of_ble_eq_true rfl) rfl ?_
  intro p e s m args below meth c ls A htab hN hX K hP hD hE hA hS hl
  have K : kC p c cL_jarOf s m args meth RL g 4 (some .int) := K
  have hx := K.1.1
  have hb := K.1.2.1
  have hts := K.1.2.2.2.2
  refine lv_aload_n hx hb dL_jarOf_0 rfl (lv_at hl 0 rfl) ?_
  refine lv_iload_n hx hb dL_jarOf_1 rfl (lv_at hl 1 rfl) ?_
  refine lv_iload_n hx hb dL_jarOf_2 rfl (lv_at hl 2 rfl) ?_
  refine kX_V (As := [.int p0, .int (b2i p1)]) (rest := []) (wr := [X0W g oS rS S.1 S.2, X2W g oH rH vH oQ rQ aH, X3W g oR rR R kA0, X1W g oT rT T.1 T.2, JOW oB q ml (nI ln.2), JAW g q n f]) K (X4_jarOf_c l g oF F oS oH oR oT oB oC rC C.1 C.2 p0 p1 nj hnj hv4 hfl) (cwV 2 hts (k_gV kw1367 ca_X4_jarOf) rfl rfl rfl ⟨rfl, pnX4_jarOf⟩ ⟨Nat.le_of_ble_eq_true rfl, Nat.le_of_ble_eq_true rfl⟩) hE hS hA hP hD [0, 1] [2, 3, 4, 5, 6, 7] rfl rfl ⟨rfl, rfl, by decide⟩ (k_recv K kFX4 hP (i := 0) (q := 0) rfl rfl) rfl hl.1 rfl rfl dL_jarOf_3 ⟨Nat.le_of_ble_eq_true rfl, Nat.le_of_ble_eq_true rfl⟩ (fun E u H locs qE ce hp hP hD hS hce hcv hcl => ?_) (fun r u H locs hp hP hD hS => ?_)
  · obtain ⟨hc, hE2, hu⟩ := hp
    subst hu
    have hP : kp g [X4W g oF (kFr oC oS oH oR oT oB) F, X0W g oC rC C.1 C.2, X0W g oS rS S.1 S.2, X2W g oH rH vH oQ rQ aH, X3W g oR rR R kA0, X1W g oT rT T.1 T.2, JOW oB q ml (nI ln.2), JAW g q n f] H := hP.pick [6, 7, 0, 1, 2, 3, 4, 5] rfl
    have hD : kd A [X4W g oF (kFr oC oS oH oR oT oB) F, X0W g oC rC C.1 C.2, X0W g oS rS S.1 S.2, X2W g oH rH vH oQ rQ aH, X3W g oR rR R kA0, X1W g oT rT T.1 T.2, JOW oB q ml (nI ln.2), JAW g q n f] := hD.pick [6, 7, 0, 1, 2, 3, 4, 5] rfl rfl
    rcases (kK_jarOf : (X4_jarOf_f kF0 C.1 C.2 p0 p1).1 = 0 ∨ (X4_jarOf_f kF0 C.1 C.2 p0 p1).1 = 2) with h0 | h2
    · exact absurd h0 hc
    · have hE3 : E = "java/lang/IndexOutOfBoundsException" := hE2.trans (congrArg kEx h2)
      subst hE3
      refine kx_catch1 (E := "java/lang/IndexOutOfBoundsException") K htab rfl (by decide) kw708 (List.mem_of_getElem? (i := 85) rfl) hce hcv hcl ?_
      refine lv_astore_n (lv' := [(3, .ref qE), (0, .ref oF), (1, .int p0), (2, .int (b2i p1))]) hx hb dL_jarOf_7 rfl hl (by decide) rfl (fun ls hl => ?_)
      refine lv_sipush (v := (-1001)) hx hb dL_jarOf_8 (by decide) ?_
      exact kL_ret K hP hD hS ⟨by unfold kA1; rw [if_neg (by rw [h2]; decide)], ⟨oC, oS, oH, oR, oT, oB, rC, rS, rH, rR, rT, oQ, rQ, vH, aH, q, n, ml, f, rfl, hT4, hHi, hIv⟩⟩ ⟨Nat.le_of_ble_eq_true rfl, Nat.le_of_ble_eq_true rfl⟩ dL_jarOf_11
  obtain ⟨hc, hr, hu⟩ := hp
  subst hu
  subst hr
  have hP : kp g [X4W g oF (kFr oC oS oH oR oT oB) F, X0W g oC rC C.1 C.2, X0W g oS rS S.1 S.2, X2W g oH rH vH oQ rQ aH, X3W g oR rR R kA0, X1W g oT rT T.1 T.2, JOW oB q ml (nI ln.2), JAW g q n f] H := hP.pick [6, 7, 0, 1, 2, 3, 4, 5] rfl
  have hD : kd A [X4W g oF (kFr oC oS oH oR oT oB) F, X0W g oC rC C.1 C.2, X0W g oS rS S.1 S.2, X2W g oH rH vH oQ rQ aH, X3W g oR rR R kA0, X1W g oT rT T.1 T.2, JOW oB q ml (nI ln.2), JAW g q n f] := hD.pick [6, 7, 0, 1, 2, 3, 4, 5] rfl rfl
  exact kL_ret K hP hD hS ⟨(if_pos hc).symm, ⟨oC, oS, oH, oR, oT, oB, rC, rS, rH, rR, rT, oQ, rQ, vH, aH, q, n, ml, f, rfl, hT4, hHi, hIv⟩⟩ ⟨Nat.le_of_ble_eq_true rfl, Nat.le_of_ble_eq_true rfl⟩ dL_jarOf_6
abbrev wL_bagOf : List Cond := Cond.codeWith yL_bagOf cL_bagOf 4 (some .int) [(0, 6, 7, 55), (0, 6, 12, 60)] :: kW
set_option maxHeartbeats 4000000 in
set_option maxRecDepth 100000 in
theorem L_bagOf_c (l : Launch) (hfl : l.stackTraces = false) (g : kG) (oF : Nat) (F : Nat → Int32) (C S : kK) (h : List kK) (R : Nat → Int32) (T : kK) (ln : kTx) (cs : List va_W) (hO : kOb g oF F C S h R T ln cs) (p0 : Int32) (p1 : Int32) : kL kX0 l yL_bagOf wL_bagOf 8 125 2 12 g [.ref oF, .int p0, .int p1] cs (fun x u => x = kA2 2 (X4_bagOf_f kF0 C.1 C.2 p0 p1) ∧ kOb g oF F C S h R T ln u) := by
  obtain ⟨oC, oS, oH, oR, oT, oB, rC, rS, rH, rR, rT, oQ, rQ, vH, aH, q, n, ml, f, rfl, hT4, hHi, hIv⟩ := hO
  have hI := hIv.1
  have hTx := hIv.2.2.2.1
  obtain ⟨⟨nb, hnb, hv7⟩, ⟨nj, hnj, hv4⟩, hM⟩ := id hI
  refine kLg_of (cc := cL_bagOf) (nL := 4) (ret := some .int) (lv := [(0, .ref oF), (1, .int p0), (2, .int p1)]) (by decide) rfl (Nat.le_of_ble_eq_true rfl) rfl ?_
  intro p e s m args below meth c ls A htab hN hX K hP hD hE hA hS hl
  have K : kC p c cL_bagOf s m args meth RL g 4 (some .int) := K
  have hx := K.1.1
  have hb := K.1.2.1
  have hts := K.1.2.2.2.2
  refine lv_aload_n hx hb dL_bagOf_0 rfl (lv_at hl 0 rfl) ?_
  refine lv_iload_n hx hb dL_bagOf_1 rfl (lv_at hl 1 rfl) ?_
  refine lv_iload_n hx hb dL_bagOf_2 rfl (lv_at hl 2 rfl) ?_
  refine kX_V (As := [.int p0, .int p1]) (rest := []) (wr := [X0W g oS rS S.1 S.2, X2W g oH rH vH oQ rQ aH, X3W g oR rR R kA0, X1W g oT rT T.1 T.2, JOW oB q ml (nI ln.2), JAW g q n f]) K (X4_bagOf_c l g oF F oS oH oR oT oB oC rC C.1 C.2 p0 p1 nb hnb hv7 hfl) (cwV 2 hts (k_gV kw1376 ca_X4_bagOf) rfl rfl rfl ⟨rfl, pnX4_bagOf⟩ ⟨Nat.le_of_ble_eq_true rfl, Nat.le_of_ble_eq_true rfl⟩) hE hS hA hP hD [0, 1] [2, 3, 4, 5, 6, 7] rfl rfl ⟨rfl, rfl, by decide⟩ (k_recv K kFX4 hP (i := 0) (q := 0) rfl rfl) rfl hl.1 rfl rfl dL_bagOf_3 ⟨Nat.le_of_ble_eq_true rfl, Nat.le_of_ble_eq_true rfl⟩ (fun E u H locs qE ce hp hP hD hS hce hcv hcl => ?_) (fun r u H locs hp hP hD hS => ?_)
  · obtain ⟨hc, hE2, hu⟩ := hp
    subst hu
    have hP : kp g [X4W g oF (kFr oC oS oH oR oT oB) F, X0W g oC rC C.1 C.2, X0W g oS rS S.1 S.2, X2W g oH rH vH oQ rQ aH, X3W g oR rR R kA0, X1W g oT rT T.1 T.2, JOW oB q ml (nI ln.2), JAW g q n f] H := hP.pick [6, 7, 0, 1, 2, 3, 4, 5] rfl
    have hD : kd A [X4W g oF (kFr oC oS oH oR oT oB) F, X0W g oC rC C.1 C.2, X0W g oS rS S.1 S.2, X2W g oH rH vH oQ rQ aH, X3W g oR rR R kA0, X1W g oT rT T.1 T.2, JOW oB q ml (nI ln.2), JAW g q n f] := hD.pick [6, 7, 0, 1, 2, 3, 4, 5] rfl rfl
    rcases (kK_bagOf : (X4_bagOf_f kF0 C.1 C.2 p0 p1).1 = 0 ∨ (X4_bagOf_f kF0 C.1 C.2 p0 p1).1 = 2 ∨ (X4_bagOf_f kF0 C.1 C.2 p0 p1).1 = 3) with h0 | h2 | h3
    · exact absurd h0 hc
    · have hE3 : E = "java/lang/IndexOutOfBoundsException" := hE2.trans (congrArg kEx h2)
      subst hE3
      refine kx_catch1 (E := "java/lang/IndexOutOfBoundsException") K htab rfl (by decide) kw708 (List.mem_of_getElem? (i := 85) rfl) hce hcv hcl ?_
      refine lv_astore_n (lv' := [(3, .ref qE), (0, .ref oF), (1, .int p0), (2, .int p1)]) hx hb dL_bagOf_7 rfl hl (by decide) rfl (fun ls hl => ?_)
      refine lv_sipush (v := (-1001)) hx hb dL_bagOf_8 (by decide) ?_
      exact kL_ret K hP hD hS ⟨by unfold kA2; rw [if_neg (by rw [h2]; decide), if_pos h2], ⟨oC, oS, oH, oR, oT, oB, rC, rS, rH, rR, rT, oQ, rQ, vH, aH, q, n, ml, f, rfl, hT4, hHi, hIv⟩⟩ ⟨Nat.le_of_ble_eq_true rfl, Nat.le_of_ble_eq_true rfl⟩ dL_bagOf_11
    · have hE3 : E = "java/lang/IllegalArgumentException" := hE2.trans (congrArg kEx h3)
      subst hE3
      refine kx_catch2 (E := "java/lang/IllegalArgumentException") (F := "java/lang/IndexOutOfBoundsException") K htab (by decide) kw708 hN.1 rfl (by decide) kw732 (List.mem_of_getElem? (i := 86) rfl) hce hcv hcl ?_
      refine lv_astore_n (lv' := [(3, .ref qE), (0, .ref oF), (1, .int p0), (2, .int p1)]) hx hb dL_bagOf_12 rfl hl (by decide) rfl (fun ls hl => ?_)
      refine lv_sipush (v := (-1002)) hx hb dL_bagOf_13 (by decide) ?_
      exact kL_ret K hP hD hS ⟨by unfold kA2; rw [if_neg (by rw [h3]; decide), if_neg (by rw [h3]; decide)], ⟨oC, oS, oH, oR, oT, oB, rC, rS, rH, rR, rT, oQ, rQ, vH, aH, q, n, ml, f, rfl, hT4, hHi, hIv⟩⟩ ⟨Nat.le_of_ble_eq_true rfl, Nat.le_of_ble_eq_true rfl⟩ dL_bagOf_16
  obtain ⟨hc, hr, hu⟩ := hp
  subst hu
  subst hr
  have hP : kp g [X4W g oF (kFr oC oS oH oR oT oB) F, X0W g oC rC C.1 C.2, X0W g oS rS S.1 S.2, X2W g oH rH vH oQ rQ aH, X3W g oR rR R kA0, X1W g oT rT T.1 T.2, JOW oB q ml (nI ln.2), JAW g q n f] H := hP.pick [6, 7, 0, 1, 2, 3, 4, 5] rfl
  have hD : kd A [X4W g oF (kFr oC oS oH oR oT oB) F, X0W g oC rC C.1 C.2, X0W g oS rS S.1 S.2, X2W g oH rH vH oQ rQ aH, X3W g oR rR R kA0, X1W g oT rT T.1 T.2, JOW oB q ml (nI ln.2), JAW g q n f] := hD.pick [6, 7, 0, 1, 2, 3, 4, 5] rfl rfl
  exact kL_ret K hP hD hS ⟨(if_pos hc).symm, ⟨oC, oS, oH, oR, oT, oB, rC, rS, rH, rR, rT, oQ, rQ, vH, aH, q, n, ml, f, rfl, hT4, hHi, hIv⟩⟩ ⟨Nat.le_of_ble_eq_true rfl, Nat.le_of_ble_eq_true rfl⟩ dL_bagOf_6
abbrev wL_weightOf : List Cond := Cond.codeWith yL_weightOf cL_weightOf 4 (some .int) [(0, 6, 7, 55), (0, 6, 12, 60)] :: kW
set_option maxHeartbeats 4000000 in
set_option maxRecDepth 100000 in
theorem L_weightOf_c (l : Launch) (hfl : l.stackTraces = false) (g : kG) (oF : Nat) (F : Nat → Int32) (C S : kK) (h : List kK) (R : Nat → Int32) (T : kK) (ln : kTx) (cs : List va_W) (hO : kOb g oF F C S h R T ln cs) (p0 : Int32) (p1 : Int32) : kL kX0 l yL_weightOf wL_weightOf 7 104 1 6 g [.ref oF, .int p0, .int p1] cs (fun x u => x = kA2 2 (X4_weightOf_f kF0 C.1 C.2 p0 p1) ∧ kOb g oF F C S h R T ln u) := by
  obtain ⟨oC, oS, oH, oR, oT, oB, rC, rS, rH, rR, rT, oQ, rQ, vH, aH, q, n, ml, f, rfl, hT4, hHi, hIv⟩ := hO
  have hI := hIv.1
  have hTx := hIv.2.2.2.1
  obtain ⟨⟨nb, hnb, hv7⟩, ⟨nj, hnj, hv4⟩, hM⟩ := id hI
  refine kLg_of (cc := cL_weightOf) (nL := 4) (ret := some .int) (lv := [(0, .ref oF), (1, .int p0), (2, .int p1)]) (by decide) rfl (Nat.le_of_ble_eq_true rfl) rfl ?_
  intro p e s m args below meth c ls A htab hN hX K hP hD hE hA hS hl
  have K : kC p c cL_weightOf s m args meth RL g 4 (some .int) := K
  have hx := K.1.1
  have hb := K.1.2.1
  have hts := K.1.2.2.2.2
  refine lv_aload_n hx hb dL_weightOf_0 rfl (lv_at hl 0 rfl) ?_
  refine lv_iload_n hx hb dL_weightOf_1 rfl (lv_at hl 1 rfl) ?_
  refine lv_iload_n hx hb dL_weightOf_2 rfl (lv_at hl 2 rfl) ?_
  refine kX_V (As := [.int p0, .int p1]) (rest := []) (wr := [X0W g oS rS S.1 S.2, X2W g oH rH vH oQ rQ aH, X3W g oR rR R kA0, X1W g oT rT T.1 T.2, JOW oB q ml (nI ln.2), JAW g q n f]) K (X4_weightOf_c l g oF F oS oH oR oT oB oC rC C.1 C.2 p0 p1 hfl) (cwV 2 hts (k_gV kw733 ca_X4_weightOf) rfl rfl rfl ⟨rfl, pnX4_weightOf⟩ ⟨Nat.le_of_ble_eq_true rfl, Nat.le_of_ble_eq_true rfl⟩) hE hS hA hP hD [0, 1] [2, 3, 4, 5, 6, 7] rfl rfl ⟨rfl, rfl, by decide⟩ (k_recv K kFX4 hP (i := 0) (q := 0) rfl rfl) rfl hl.1 rfl rfl dL_weightOf_3 ⟨Nat.le_of_ble_eq_true rfl, Nat.le_of_ble_eq_true rfl⟩ (fun E u H locs qE ce hp hP hD hS hce hcv hcl => ?_) (fun r u H locs hp hP hD hS => ?_)
  · obtain ⟨hc, hE2, hu⟩ := hp
    subst hu
    have hP : kp g [X4W g oF (kFr oC oS oH oR oT oB) F, X0W g oC rC C.1 C.2, X0W g oS rS S.1 S.2, X2W g oH rH vH oQ rQ aH, X3W g oR rR R kA0, X1W g oT rT T.1 T.2, JOW oB q ml (nI ln.2), JAW g q n f] H := hP.pick [6, 7, 0, 1, 2, 3, 4, 5] rfl
    have hD : kd A [X4W g oF (kFr oC oS oH oR oT oB) F, X0W g oC rC C.1 C.2, X0W g oS rS S.1 S.2, X2W g oH rH vH oQ rQ aH, X3W g oR rR R kA0, X1W g oT rT T.1 T.2, JOW oB q ml (nI ln.2), JAW g q n f] := hD.pick [6, 7, 0, 1, 2, 3, 4, 5] rfl rfl
    rcases (kK_weightOf : (X4_weightOf_f kF0 C.1 C.2 p0 p1).1 = 0 ∨ (X4_weightOf_f kF0 C.1 C.2 p0 p1).1 = 2 ∨ (X4_weightOf_f kF0 C.1 C.2 p0 p1).1 = 3) with h0 | h2 | h3
    · exact absurd h0 hc
    · have hE3 : E = "java/lang/IndexOutOfBoundsException" := hE2.trans (congrArg kEx h2)
      subst hE3
      refine kx_catch1 (E := "java/lang/IndexOutOfBoundsException") K htab rfl (by decide) kw708 (List.mem_of_getElem? (i := 85) rfl) hce hcv hcl ?_
      refine lv_astore_n (lv' := [(3, .ref qE), (0, .ref oF), (1, .int p0), (2, .int p1)]) hx hb dL_weightOf_7 rfl hl (by decide) rfl (fun ls hl => ?_)
      refine lv_sipush (v := (-1001)) hx hb dL_weightOf_8 (by decide) ?_
      exact kL_ret K hP hD hS ⟨by unfold kA2; rw [if_neg (by rw [h2]; decide), if_pos h2], ⟨oC, oS, oH, oR, oT, oB, rC, rS, rH, rR, rT, oQ, rQ, vH, aH, q, n, ml, f, rfl, hT4, hHi, hIv⟩⟩ ⟨Nat.le_of_ble_eq_true rfl, Nat.le_of_ble_eq_true rfl⟩ dL_weightOf_11
    · have hE3 : E = "java/lang/IllegalArgumentException" := hE2.trans (congrArg kEx h3)
      subst hE3
      refine kx_catch2 (E := "java/lang/IllegalArgumentException") (F := "java/lang/IndexOutOfBoundsException") K htab (by decide) kw708 hN.1 rfl (by decide) kw732 (List.mem_of_getElem? (i := 86) rfl) hce hcv hcl ?_
      refine lv_astore_n (lv' := [(3, .ref qE), (0, .ref oF), (1, .int p0), (2, .int p1)]) hx hb dL_weightOf_12 rfl hl (by decide) rfl (fun ls hl => ?_)
      refine lv_sipush (v := (-1002)) hx hb dL_weightOf_13 (by decide) ?_
      exact kL_ret K hP hD hS ⟨by unfold kA2; rw [if_neg (by rw [h3]; decide), if_neg (by rw [h3]; decide)], ⟨oC, oS, oH, oR, oT, oB, rC, rS, rH, rR, rT, oQ, rQ, vH, aH, q, n, ml, f, rfl, hT4, hHi, hIv⟩⟩ ⟨Nat.le_of_ble_eq_true rfl, Nat.le_of_ble_eq_true rfl⟩ dL_weightOf_16
  obtain ⟨hc, hr, hu⟩ := hp
  subst hu
  subst hr
  have hP : kp g [X4W g oF (kFr oC oS oH oR oT oB) F, X0W g oC rC C.1 C.2, X0W g oS rS S.1 S.2, X2W g oH rH vH oQ rQ aH, X3W g oR rR R kA0, X1W g oT rT T.1 T.2, JOW oB q ml (nI ln.2), JAW g q n f] H := hP.pick [6, 7, 0, 1, 2, 3, 4, 5] rfl
  have hD : kd A [X4W g oF (kFr oC oS oH oR oT oB) F, X0W g oC rC C.1 C.2, X0W g oS rS S.1 S.2, X2W g oH rH vH oQ rQ aH, X3W g oR rR R kA0, X1W g oT rT T.1 T.2, JOW oB q ml (nI ln.2), JAW g q n f] := hD.pick [6, 7, 0, 1, 2, 3, 4, 5] rfl rfl
  exact kL_ret K hP hD hS ⟨(if_pos hc).symm, ⟨oC, oS, oH, oR, oT, oB, rC, rS, rH, rR, rT, oQ, rQ, vH, aH, q, n, ml, f, rfl, hT4, hHi, hIv⟩⟩ ⟨Nat.le_of_ble_eq_true rfl, Nat.le_of_ble_eq_true rfl⟩ dL_weightOf_6
abbrev wL_told : List Cond := Cond.codeWith yL_told cL_told 3 (some .int) [(0, 5, 6, 55)] :: kW
set_option maxHeartbeats 4000000 in
set_option maxRecDepth 100000 in
theorem L_told_c (l : Launch) (hfl : l.stackTraces = false) (g : kG) (oF : Nat) (F : Nat → Int32) (C S : kK) (h : List kK) (R : Nat → Int32) (T : kK) (ln : kTx) (cs : List va_W) (hO : kOb g oF F C S h R T ln cs) (p0 : Int32) : kL kX0 l yL_told wL_told 8 124 1 6 g [.ref oF, .int p0] cs (fun x u => x = kA1 (X4_told_f kF0 C.1 C.2 p0) ∧ kOb g oF F C S h R T ln u) := by
  obtain ⟨oC, oS, oH, oR, oT, oB, rC, rS, rH, rR, rT, oQ, rQ, vH, aH, q, n, ml, f, rfl, hT4, hHi, hIv⟩ := hO
  have hI := hIv.1
  have hTx := hIv.2.2.2.1
  obtain ⟨⟨nb, hnb, hv7⟩, ⟨nj, hnj, hv4⟩, hM⟩ := id hI
  refine kLg_of (cc := cL_told) (nL := 3) (ret := some .int) (lv := [(0, .ref oF), (1, .int p0)]) (by decide) rfl (Nat.le_of_ble_eq_true rfl) rfl ?_
  intro p e s m args below meth c ls A htab hN hX K hP hD hE hA hS hl
  have K : kC p c cL_told s m args meth RL g 3 (some .int) := K
  have hx := K.1.1
  have hb := K.1.2.1
  have hts := K.1.2.2.2.2
  refine lv_aload_n hx hb dL_told_0 rfl (lv_at hl 0 rfl) ?_
  refine lv_iload_n hx hb dL_told_1 rfl (lv_at hl 1 rfl) ?_
  refine kX_V (As := [.int p0]) (rest := []) (wr := [X0W g oS rS S.1 S.2, X2W g oH rH vH oQ rQ aH, X3W g oR rR R kA0, X1W g oT rT T.1 T.2, JOW oB q ml (nI ln.2), JAW g q n f]) K (X4_told_c l g oF F oS oH oR oT oB oC rC C.1 C.2 p0 nb hnb hv7 hfl) (cwV 1 hts (k_gV kw775 ca_X4_told) rfl rfl rfl ⟨rfl, pnX4_told⟩ ⟨Nat.le_of_ble_eq_true rfl, Nat.le_of_ble_eq_true rfl⟩) hE hS hA hP hD [0, 1] [2, 3, 4, 5, 6, 7] rfl rfl ⟨rfl, rfl, by decide⟩ (k_recv K kFX4 hP (i := 0) (q := 0) rfl rfl) rfl hl.1 rfl rfl dL_told_2 ⟨Nat.le_of_ble_eq_true rfl, Nat.le_of_ble_eq_true rfl⟩ (fun E u H locs qE ce hp hP hD hS hce hcv hcl => ?_) (fun r u H locs hp hP hD hS => ?_)
  · obtain ⟨hc, hE2, hu⟩ := hp
    subst hu
    have hP : kp g [X4W g oF (kFr oC oS oH oR oT oB) F, X0W g oC rC C.1 C.2, X0W g oS rS S.1 S.2, X2W g oH rH vH oQ rQ aH, X3W g oR rR R kA0, X1W g oT rT T.1 T.2, JOW oB q ml (nI ln.2), JAW g q n f] H := hP.pick [6, 7, 0, 1, 2, 3, 4, 5] rfl
    have hD : kd A [X4W g oF (kFr oC oS oH oR oT oB) F, X0W g oC rC C.1 C.2, X0W g oS rS S.1 S.2, X2W g oH rH vH oQ rQ aH, X3W g oR rR R kA0, X1W g oT rT T.1 T.2, JOW oB q ml (nI ln.2), JAW g q n f] := hD.pick [6, 7, 0, 1, 2, 3, 4, 5] rfl rfl
    rcases (kK_told : (X4_told_f kF0 C.1 C.2 p0).1 = 0 ∨ (X4_told_f kF0 C.1 C.2 p0).1 = 2) with h0 | h2
    · exact absurd h0 hc
    · have hE3 : E = "java/lang/IndexOutOfBoundsException" := hE2.trans (congrArg kEx h2)
      subst hE3
      refine kx_catch1 (E := "java/lang/IndexOutOfBoundsException") K htab rfl (by decide) kw708 (List.mem_of_getElem? (i := 85) rfl) hce hcv hcl ?_
      refine lv_astore_n (lv' := [(2, .ref qE), (0, .ref oF), (1, .int p0)]) hx hb dL_told_6 rfl hl (by decide) rfl (fun ls hl => ?_)
      refine lv_sipush (v := (-1001)) hx hb dL_told_7 (by decide) ?_
      exact kL_ret K hP hD hS ⟨by unfold kA1; rw [if_neg (by rw [h2]; decide)], ⟨oC, oS, oH, oR, oT, oB, rC, rS, rH, rR, rT, oQ, rQ, vH, aH, q, n, ml, f, rfl, hT4, hHi, hIv⟩⟩ ⟨Nat.le_of_ble_eq_true rfl, Nat.le_of_ble_eq_true rfl⟩ dL_told_10
  obtain ⟨hc, hr, hu⟩ := hp
  subst hu
  subst hr
  have hP : kp g [X4W g oF (kFr oC oS oH oR oT oB) F, X0W g oC rC C.1 C.2, X0W g oS rS S.1 S.2, X2W g oH rH vH oQ rQ aH, X3W g oR rR R kA0, X1W g oT rT T.1 T.2, JOW oB q ml (nI ln.2), JAW g q n f] H := hP.pick [6, 7, 0, 1, 2, 3, 4, 5] rfl
  have hD : kd A [X4W g oF (kFr oC oS oH oR oT oB) F, X0W g oC rC C.1 C.2, X0W g oS rS S.1 S.2, X2W g oH rH vH oQ rQ aH, X3W g oR rR R kA0, X1W g oT rT T.1 T.2, JOW oB q ml (nI ln.2), JAW g q n f] := hD.pick [6, 7, 0, 1, 2, 3, 4, 5] rfl rfl
  exact kL_ret K hP hD hS ⟨(if_pos hc).symm, ⟨oC, oS, oH, oR, oT, oB, rC, rS, rH, rR, rT, oQ, rQ, vH, aH, q, n, ml, f, rfl, hT4, hHi, hIv⟩⟩ ⟨Nat.le_of_ble_eq_true rfl, Nat.le_of_ble_eq_true rfl⟩ dL_told_5
abbrev wL_toldAgain : List Cond := Cond.codeWith yL_toldAgain cL_toldAgain 3 (some .int) [(0, 5, 6, 55)] :: kW
set_option maxHeartbeats 4000000 in
set_option maxRecDepth 100000 in
theorem L_toldAgain_c (l : Launch) (hfl : l.stackTraces = false) (g : kG) (oF : Nat) (F : Nat → Int32) (C S : kK) (h : List kK) (R : Nat → Int32) (T : kK) (ln : kTx) (cs : List va_W) (hO : kOb g oF F C S h R T ln cs) (p0 : Int32) : kL kX0 l yL_toldAgain wL_toldAgain 8 125 1 6 g [.ref oF, .int p0] cs (fun x u => x = kA1 (X4_toldAgain_f kF0 C.1 C.2 p0) ∧ kOb g oF F C S h R T ln u) := by
  obtain ⟨oC, oS, oH, oR, oT, oB, rC, rS, rH, rR, rT, oQ, rQ, vH, aH, q, n, ml, f, rfl, hT4, hHi, hIv⟩ := hO
  have hI := hIv.1
  have hTx := hIv.2.2.2.1
  obtain ⟨⟨nb, hnb, hv7⟩, ⟨nj, hnj, hv4⟩, hM⟩ := id hI
  refine kLg_of (cc := cL_toldAgain) (nL := 3) (ret := some .int) (lv := [(0, .ref oF), (1, .int p0)]) (by decide) rfl (Nat.le_of_ble_eq_true rfl) rfl ?_
  intro p e s m args below meth c ls A htab hN hX K hP hD hE hA hS hl
  have K : kC p c cL_toldAgain s m args meth RL g 3 (some .int) := K
  have hx := K.1.1
  have hb := K.1.2.1
  have hts := K.1.2.2.2.2
  refine lv_aload_n hx hb dL_toldAgain_0 rfl (lv_at hl 0 rfl) ?_
  refine lv_iload_n hx hb dL_toldAgain_1 rfl (lv_at hl 1 rfl) ?_
  refine kX_V (As := [.int p0]) (rest := []) (wr := [X0W g oS rS S.1 S.2, X2W g oH rH vH oQ rQ aH, X3W g oR rR R kA0, X1W g oT rT T.1 T.2, JOW oB q ml (nI ln.2), JAW g q n f]) K (X4_toldAgain_c l g oF F oS oH oR oT oB oC rC C.1 C.2 p0 nb hnb hv7 hfl) (cwV 1 hts (k_gV kw791 ca_X4_toldAgain) rfl rfl rfl ⟨rfl, pnX4_toldAgain⟩ ⟨Nat.le_of_ble_eq_true rfl, Nat.le_of_ble_eq_true rfl⟩) hE hS hA hP hD [0, 1] [2, 3, 4, 5, 6, 7] rfl rfl ⟨rfl, rfl, by decide⟩ (k_recv K kFX4 hP (i := 0) (q := 0) rfl rfl) rfl hl.1 rfl rfl dL_toldAgain_2 ⟨Nat.le_of_ble_eq_true rfl, Nat.le_of_ble_eq_true rfl⟩ (fun E u H locs qE ce hp hP hD hS hce hcv hcl => ?_) (fun r u H locs hp hP hD hS => ?_)
  · obtain ⟨hc, hE2, hu⟩ := hp
    subst hu
    have hP : kp g [X4W g oF (kFr oC oS oH oR oT oB) F, X0W g oC rC C.1 C.2, X0W g oS rS S.1 S.2, X2W g oH rH vH oQ rQ aH, X3W g oR rR R kA0, X1W g oT rT T.1 T.2, JOW oB q ml (nI ln.2), JAW g q n f] H := hP.pick [6, 7, 0, 1, 2, 3, 4, 5] rfl
    have hD : kd A [X4W g oF (kFr oC oS oH oR oT oB) F, X0W g oC rC C.1 C.2, X0W g oS rS S.1 S.2, X2W g oH rH vH oQ rQ aH, X3W g oR rR R kA0, X1W g oT rT T.1 T.2, JOW oB q ml (nI ln.2), JAW g q n f] := hD.pick [6, 7, 0, 1, 2, 3, 4, 5] rfl rfl
    rcases (kK_toldAgain : (X4_toldAgain_f kF0 C.1 C.2 p0).1 = 0 ∨ (X4_toldAgain_f kF0 C.1 C.2 p0).1 = 2) with h0 | h2
    · exact absurd h0 hc
    · have hE3 : E = "java/lang/IndexOutOfBoundsException" := hE2.trans (congrArg kEx h2)
      subst hE3
      refine kx_catch1 (E := "java/lang/IndexOutOfBoundsException") K htab rfl (by decide) kw708 (List.mem_of_getElem? (i := 85) rfl) hce hcv hcl ?_
      refine lv_astore_n (lv' := [(2, .ref qE), (0, .ref oF), (1, .int p0)]) hx hb dL_toldAgain_6 rfl hl (by decide) rfl (fun ls hl => ?_)
      refine lv_sipush (v := (-1001)) hx hb dL_toldAgain_7 (by decide) ?_
      exact kL_ret K hP hD hS ⟨by unfold kA1; rw [if_neg (by rw [h2]; decide)], ⟨oC, oS, oH, oR, oT, oB, rC, rS, rH, rR, rT, oQ, rQ, vH, aH, q, n, ml, f, rfl, hT4, hHi, hIv⟩⟩ ⟨Nat.le_of_ble_eq_true rfl, Nat.le_of_ble_eq_true rfl⟩ dL_toldAgain_10
  obtain ⟨hc, hr, hu⟩ := hp
  subst hu
  subst hr
  have hP : kp g [X4W g oF (kFr oC oS oH oR oT oB) F, X0W g oC rC C.1 C.2, X0W g oS rS S.1 S.2, X2W g oH rH vH oQ rQ aH, X3W g oR rR R kA0, X1W g oT rT T.1 T.2, JOW oB q ml (nI ln.2), JAW g q n f] H := hP.pick [6, 7, 0, 1, 2, 3, 4, 5] rfl
  have hD : kd A [X4W g oF (kFr oC oS oH oR oT oB) F, X0W g oC rC C.1 C.2, X0W g oS rS S.1 S.2, X2W g oH rH vH oQ rQ aH, X3W g oR rR R kA0, X1W g oT rT T.1 T.2, JOW oB q ml (nI ln.2), JAW g q n f] := hD.pick [6, 7, 0, 1, 2, 3, 4, 5] rfl rfl
  exact kL_ret K hP hD hS ⟨(if_pos hc).symm, ⟨oC, oS, oH, oR, oT, oB, rC, rS, rH, rR, rT, oQ, rQ, vH, aH, q, n, ml, f, rfl, hT4, hHi, hIv⟩⟩ ⟨Nat.le_of_ble_eq_true rfl, Nat.le_of_ble_eq_true rfl⟩ dL_toldAgain_5
abbrev wL_onPan : List Cond := Cond.codeWith yL_onPan cL_onPan 3 (some .int) [(0, 5, 6, 55)] :: kW
set_option maxHeartbeats 4000000 in
set_option maxRecDepth 100000 in
theorem L_onPan_c (l : Launch) (hfl : l.stackTraces = false) (g : kG) (oF : Nat) (F : Nat → Int32) (C S : kK) (h : List kK) (R : Nat → Int32) (T : kK) (ln : kTx) (cs : List va_W) (hO : kOb g oF F C S h R T ln cs) (p0 : Int32) : kL kX0 l yL_onPan wL_onPan 8 124 1 6 g [.ref oF, .int p0] cs (fun x u => x = kA1 (X4_onPan_f kF0 C.1 C.2 p0) ∧ kOb g oF F C S h R T ln u) := by
  obtain ⟨oC, oS, oH, oR, oT, oB, rC, rS, rH, rR, rT, oQ, rQ, vH, aH, q, n, ml, f, rfl, hT4, hHi, hIv⟩ := hO
  have hI := hIv.1
  have hTx := hIv.2.2.2.1
  obtain ⟨⟨nb, hnb, hv7⟩, ⟨nj, hnj, hv4⟩, hM⟩ := id hI
  refine kLg_of (cc := cL_onPan) (nL := 3) (ret := some .int) (lv := [(0, .ref oF), (1, .int p0)]) (by decide) rfl (Nat.le_of_ble_eq_true rfl) rfl ?_
  intro p e s m args below meth c ls A htab hN hX K hP hD hE hA hS hl
  have K : kC p c cL_onPan s m args meth RL g 3 (some .int) := K
  have hx := K.1.1
  have hb := K.1.2.1
  have hts := K.1.2.2.2.2
  refine lv_aload_n hx hb dL_onPan_0 rfl (lv_at hl 0 rfl) ?_
  refine lv_iload_n hx hb dL_onPan_1 rfl (lv_at hl 1 rfl) ?_
  refine kX_V (As := [.int p0]) (rest := []) (wr := [X0W g oS rS S.1 S.2, X2W g oH rH vH oQ rQ aH, X3W g oR rR R kA0, X1W g oT rT T.1 T.2, JOW oB q ml (nI ln.2), JAW g q n f]) K (X4_onPan_c l g oF F oS oH oR oT oB oC rC C.1 C.2 p0 nb hnb hv7 hfl) (cwV 1 hts (k_gV kw807 ca_X4_onPan) rfl rfl rfl ⟨rfl, pnX4_onPan⟩ ⟨Nat.le_of_ble_eq_true rfl, Nat.le_of_ble_eq_true rfl⟩) hE hS hA hP hD [0, 1] [2, 3, 4, 5, 6, 7] rfl rfl ⟨rfl, rfl, by decide⟩ (k_recv K kFX4 hP (i := 0) (q := 0) rfl rfl) rfl hl.1 rfl rfl dL_onPan_2 ⟨Nat.le_of_ble_eq_true rfl, Nat.le_of_ble_eq_true rfl⟩ (fun E u H locs qE ce hp hP hD hS hce hcv hcl => ?_) (fun r u H locs hp hP hD hS => ?_)
  · obtain ⟨hc, hE2, hu⟩ := hp
    subst hu
    have hP : kp g [X4W g oF (kFr oC oS oH oR oT oB) F, X0W g oC rC C.1 C.2, X0W g oS rS S.1 S.2, X2W g oH rH vH oQ rQ aH, X3W g oR rR R kA0, X1W g oT rT T.1 T.2, JOW oB q ml (nI ln.2), JAW g q n f] H := hP.pick [6, 7, 0, 1, 2, 3, 4, 5] rfl
    have hD : kd A [X4W g oF (kFr oC oS oH oR oT oB) F, X0W g oC rC C.1 C.2, X0W g oS rS S.1 S.2, X2W g oH rH vH oQ rQ aH, X3W g oR rR R kA0, X1W g oT rT T.1 T.2, JOW oB q ml (nI ln.2), JAW g q n f] := hD.pick [6, 7, 0, 1, 2, 3, 4, 5] rfl rfl
    rcases (kK_onPan : (X4_onPan_f kF0 C.1 C.2 p0).1 = 0 ∨ (X4_onPan_f kF0 C.1 C.2 p0).1 = 2) with h0 | h2
    · exact absurd h0 hc
    · have hE3 : E = "java/lang/IndexOutOfBoundsException" := hE2.trans (congrArg kEx h2)
      subst hE3
      refine kx_catch1 (E := "java/lang/IndexOutOfBoundsException") K htab rfl (by decide) kw708 (List.mem_of_getElem? (i := 85) rfl) hce hcv hcl ?_
      refine lv_astore_n (lv' := [(2, .ref qE), (0, .ref oF), (1, .int p0)]) hx hb dL_onPan_6 rfl hl (by decide) rfl (fun ls hl => ?_)
      refine lv_sipush (v := (-1001)) hx hb dL_onPan_7 (by decide) ?_
      exact kL_ret K hP hD hS ⟨by unfold kA1; rw [if_neg (by rw [h2]; decide)], ⟨oC, oS, oH, oR, oT, oB, rC, rS, rH, rR, rT, oQ, rQ, vH, aH, q, n, ml, f, rfl, hT4, hHi, hIv⟩⟩ ⟨Nat.le_of_ble_eq_true rfl, Nat.le_of_ble_eq_true rfl⟩ dL_onPan_10
  obtain ⟨hc, hr, hu⟩ := hp
  subst hu
  subst hr
  have hP : kp g [X4W g oF (kFr oC oS oH oR oT oB) F, X0W g oC rC C.1 C.2, X0W g oS rS S.1 S.2, X2W g oH rH vH oQ rQ aH, X3W g oR rR R kA0, X1W g oT rT T.1 T.2, JOW oB q ml (nI ln.2), JAW g q n f] H := hP.pick [6, 7, 0, 1, 2, 3, 4, 5] rfl
  have hD : kd A [X4W g oF (kFr oC oS oH oR oT oB) F, X0W g oC rC C.1 C.2, X0W g oS rS S.1 S.2, X2W g oH rH vH oQ rQ aH, X3W g oR rR R kA0, X1W g oT rT T.1 T.2, JOW oB q ml (nI ln.2), JAW g q n f] := hD.pick [6, 7, 0, 1, 2, 3, 4, 5] rfl rfl
  exact kL_ret K hP hD hS ⟨(if_pos hc).symm, ⟨oC, oS, oH, oR, oT, oB, rC, rS, rH, rR, rT, oQ, rQ, vH, aH, q, n, ml, f, rfl, hT4, hHi, hIv⟩⟩ ⟨Nat.le_of_ble_eq_true rfl, Nat.le_of_ble_eq_true rfl⟩ dL_onPan_5
abbrev wL_rest : List Cond := Cond.codeWith yL_rest cL_rest 3 (some .int) [(0, 5, 6, 55)] :: kW
set_option maxHeartbeats 4000000 in
set_option maxRecDepth 100000 in
theorem L_rest_c (l : Launch) (hfl : l.stackTraces = false) (g : kG) (oF : Nat) (F : Nat → Int32) (C S : kK) (h : List kK) (R : Nat → Int32) (T : kK) (ln : kTx) (cs : List va_W) (hO : kOb g oF F C S h R T ln cs) (p0 : Int32) : kL kX0 l yL_rest wL_rest 8 124 1 6 g [.ref oF, .int p0] cs (fun x u => x = kA1 (X4_rest_f kF0 C.1 C.2 p0) ∧ kOb g oF F C S h R T ln u) := by
  obtain ⟨oC, oS, oH, oR, oT, oB, rC, rS, rH, rR, rT, oQ, rQ, vH, aH, q, n, ml, f, rfl, hT4, hHi, hIv⟩ := hO
  have hI := hIv.1
  have hTx := hIv.2.2.2.1
  obtain ⟨⟨nb, hnb, hv7⟩, ⟨nj, hnj, hv4⟩, hM⟩ := id hI
  refine kLg_of (cc := cL_rest) (nL := 3) (ret := some .int) (lv := [(0, .ref oF), (1, .int p0)]) (by decide) rfl (Nat.le_of_ble_eq_true rfl) rfl ?_
  intro p e s m args below meth c ls A htab hN hX K hP hD hE hA hS hl
  have K : kC p c cL_rest s m args meth RL g 3 (some .int) := K
  have hx := K.1.1
  have hb := K.1.2.1
  have hts := K.1.2.2.2.2
  refine lv_aload_n hx hb dL_rest_0 rfl (lv_at hl 0 rfl) ?_
  refine lv_iload_n hx hb dL_rest_1 rfl (lv_at hl 1 rfl) ?_
  refine kX_V (As := [.int p0]) (rest := []) (wr := [X0W g oS rS S.1 S.2, X2W g oH rH vH oQ rQ aH, X3W g oR rR R kA0, X1W g oT rT T.1 T.2, JOW oB q ml (nI ln.2), JAW g q n f]) K (X4_rest_c l g oF F oS oH oR oT oB oC rC C.1 C.2 p0 nb hnb hv7 hfl) (cwV 1 hts (k_gV kw814 ca_X4_rest) rfl rfl rfl ⟨rfl, pnX4_rest⟩ ⟨Nat.le_of_ble_eq_true rfl, Nat.le_of_ble_eq_true rfl⟩) hE hS hA hP hD [0, 1] [2, 3, 4, 5, 6, 7] rfl rfl ⟨rfl, rfl, by decide⟩ (k_recv K kFX4 hP (i := 0) (q := 0) rfl rfl) rfl hl.1 rfl rfl dL_rest_2 ⟨Nat.le_of_ble_eq_true rfl, Nat.le_of_ble_eq_true rfl⟩ (fun E u H locs qE ce hp hP hD hS hce hcv hcl => ?_) (fun r u H locs hp hP hD hS => ?_)
  · obtain ⟨hc, hE2, hu⟩ := hp
    subst hu
    have hP : kp g [X4W g oF (kFr oC oS oH oR oT oB) F, X0W g oC rC C.1 C.2, X0W g oS rS S.1 S.2, X2W g oH rH vH oQ rQ aH, X3W g oR rR R kA0, X1W g oT rT T.1 T.2, JOW oB q ml (nI ln.2), JAW g q n f] H := hP.pick [6, 7, 0, 1, 2, 3, 4, 5] rfl
    have hD : kd A [X4W g oF (kFr oC oS oH oR oT oB) F, X0W g oC rC C.1 C.2, X0W g oS rS S.1 S.2, X2W g oH rH vH oQ rQ aH, X3W g oR rR R kA0, X1W g oT rT T.1 T.2, JOW oB q ml (nI ln.2), JAW g q n f] := hD.pick [6, 7, 0, 1, 2, 3, 4, 5] rfl rfl
    rcases (kK_rest : (X4_rest_f kF0 C.1 C.2 p0).1 = 0 ∨ (X4_rest_f kF0 C.1 C.2 p0).1 = 2) with h0 | h2
    · exact absurd h0 hc
    · have hE3 : E = "java/lang/IndexOutOfBoundsException" := hE2.trans (congrArg kEx h2)
      subst hE3
      refine kx_catch1 (E := "java/lang/IndexOutOfBoundsException") K htab rfl (by decide) kw708 (List.mem_of_getElem? (i := 85) rfl) hce hcv hcl ?_
      refine lv_astore_n (lv' := [(2, .ref qE), (0, .ref oF), (1, .int p0)]) hx hb dL_rest_6 rfl hl (by decide) rfl (fun ls hl => ?_)
      refine lv_sipush (v := (-1001)) hx hb dL_rest_7 (by decide) ?_
      exact kL_ret K hP hD hS ⟨by unfold kA1; rw [if_neg (by rw [h2]; decide)], ⟨oC, oS, oH, oR, oT, oB, rC, rS, rH, rR, rT, oQ, rQ, vH, aH, q, n, ml, f, rfl, hT4, hHi, hIv⟩⟩ ⟨Nat.le_of_ble_eq_true rfl, Nat.le_of_ble_eq_true rfl⟩ dL_rest_10
  obtain ⟨hc, hr, hu⟩ := hp
  subst hu
  subst hr
  have hP : kp g [X4W g oF (kFr oC oS oH oR oT oB) F, X0W g oC rC C.1 C.2, X0W g oS rS S.1 S.2, X2W g oH rH vH oQ rQ aH, X3W g oR rR R kA0, X1W g oT rT T.1 T.2, JOW oB q ml (nI ln.2), JAW g q n f] H := hP.pick [6, 7, 0, 1, 2, 3, 4, 5] rfl
  have hD : kd A [X4W g oF (kFr oC oS oH oR oT oB) F, X0W g oC rC C.1 C.2, X0W g oS rS S.1 S.2, X2W g oH rH vH oQ rQ aH, X3W g oR rR R kA0, X1W g oT rT T.1 T.2, JOW oB q ml (nI ln.2), JAW g q n f] := hD.pick [6, 7, 0, 1, 2, 3, 4, 5] rfl rfl
  exact kL_ret K hP hD hS ⟨(if_pos hc).symm, ⟨oC, oS, oH, oR, oT, oB, rC, rS, rH, rR, rT, oQ, rQ, vH, aH, q, n, ml, f, rfl, hT4, hHi, hIv⟩⟩ ⟨Nat.le_of_ble_eq_true rfl, Nat.le_of_ble_eq_true rfl⟩ dL_rest_5
abbrev wL_honest : List Cond := Cond.codeWith yL_honest cL_honest 3 (some .int) [(0, 5, 6, 55)] :: kW
set_option maxHeartbeats 4000000 in
set_option maxRecDepth 100000 in
theorem L_honest_c (l : Launch) (hfl : l.stackTraces = false) (g : kG) (oF : Nat) (F : Nat → Int32) (C S : kK) (h : List kK) (R : Nat → Int32) (T : kK) (ln : kTx) (cs : List va_W) (hO : kOb g oF F C S h R T ln cs) (p0 : Int32) : kL kX0 l yL_honest wL_honest 8 124 1 6 g [.ref oF, .int p0] cs (fun x u => x = kA1 (X4_honest_f kF0 C.1 C.2 p0) ∧ kOb g oF F C S h R T ln u) := by
  obtain ⟨oC, oS, oH, oR, oT, oB, rC, rS, rH, rR, rT, oQ, rQ, vH, aH, q, n, ml, f, rfl, hT4, hHi, hIv⟩ := hO
  have hI := hIv.1
  have hTx := hIv.2.2.2.1
  obtain ⟨⟨nb, hnb, hv7⟩, ⟨nj, hnj, hv4⟩, hM⟩ := id hI
  refine kLg_of (cc := cL_honest) (nL := 3) (ret := some .int) (lv := [(0, .ref oF), (1, .int p0)]) (by decide) rfl (Nat.le_of_ble_eq_true rfl) rfl ?_
  intro p e s m args below meth c ls A htab hN hX K hP hD hE hA hS hl
  have K : kC p c cL_honest s m args meth RL g 3 (some .int) := K
  have hx := K.1.1
  have hb := K.1.2.1
  have hts := K.1.2.2.2.2
  refine lv_aload_n hx hb dL_honest_0 rfl (lv_at hl 0 rfl) ?_
  refine lv_iload_n hx hb dL_honest_1 rfl (lv_at hl 1 rfl) ?_
  refine kX_V (As := [.int p0]) (rest := []) (wr := [X0W g oS rS S.1 S.2, X2W g oH rH vH oQ rQ aH, X3W g oR rR R kA0, X1W g oT rT T.1 T.2, JOW oB q ml (nI ln.2), JAW g q n f]) K (X4_honest_c l g oF F oS oH oR oT oB oC rC C.1 C.2 p0 nb hnb hv7 hfl) (cwV 1 hts (k_gV kw1384 ca_X4_honest) rfl rfl rfl ⟨rfl, pnX4_honest⟩ ⟨Nat.le_of_ble_eq_true rfl, Nat.le_of_ble_eq_true rfl⟩) hE hS hA hP hD [0, 1] [2, 3, 4, 5, 6, 7] rfl rfl ⟨rfl, rfl, by decide⟩ (k_recv K kFX4 hP (i := 0) (q := 0) rfl rfl) rfl hl.1 rfl rfl dL_honest_2 ⟨Nat.le_of_ble_eq_true rfl, Nat.le_of_ble_eq_true rfl⟩ (fun E u H locs qE ce hp hP hD hS hce hcv hcl => ?_) (fun r u H locs hp hP hD hS => ?_)
  · obtain ⟨hc, hE2, hu⟩ := hp
    subst hu
    have hP : kp g [X4W g oF (kFr oC oS oH oR oT oB) F, X0W g oC rC C.1 C.2, X0W g oS rS S.1 S.2, X2W g oH rH vH oQ rQ aH, X3W g oR rR R kA0, X1W g oT rT T.1 T.2, JOW oB q ml (nI ln.2), JAW g q n f] H := hP.pick [6, 7, 0, 1, 2, 3, 4, 5] rfl
    have hD : kd A [X4W g oF (kFr oC oS oH oR oT oB) F, X0W g oC rC C.1 C.2, X0W g oS rS S.1 S.2, X2W g oH rH vH oQ rQ aH, X3W g oR rR R kA0, X1W g oT rT T.1 T.2, JOW oB q ml (nI ln.2), JAW g q n f] := hD.pick [6, 7, 0, 1, 2, 3, 4, 5] rfl rfl
    rcases (kK_honest : (X4_honest_f kF0 C.1 C.2 p0).1 = 0 ∨ (X4_honest_f kF0 C.1 C.2 p0).1 = 2) with h0 | h2
    · exact absurd h0 hc
    · have hE3 : E = "java/lang/IndexOutOfBoundsException" := hE2.trans (congrArg kEx h2)
      subst hE3
      refine kx_catch1 (E := "java/lang/IndexOutOfBoundsException") K htab rfl (by decide) kw708 (List.mem_of_getElem? (i := 85) rfl) hce hcv hcl ?_
      refine lv_astore_n (lv' := [(2, .ref qE), (0, .ref oF), (1, .int p0)]) hx hb dL_honest_6 rfl hl (by decide) rfl (fun ls hl => ?_)
      refine lv_sipush (v := (-1001)) hx hb dL_honest_7 (by decide) ?_
      exact kL_ret K hP hD hS ⟨by unfold kA1; rw [if_neg (by rw [h2]; decide)], ⟨oC, oS, oH, oR, oT, oB, rC, rS, rH, rR, rT, oQ, rQ, vH, aH, q, n, ml, f, rfl, hT4, hHi, hIv⟩⟩ ⟨Nat.le_of_ble_eq_true rfl, Nat.le_of_ble_eq_true rfl⟩ dL_honest_10
  obtain ⟨hc, hr, hu⟩ := hp
  subst hu
  subst hr
  have hP : kp g [X4W g oF (kFr oC oS oH oR oT oB) F, X0W g oC rC C.1 C.2, X0W g oS rS S.1 S.2, X2W g oH rH vH oQ rQ aH, X3W g oR rR R kA0, X1W g oT rT T.1 T.2, JOW oB q ml (nI ln.2), JAW g q n f] H := hP.pick [6, 7, 0, 1, 2, 3, 4, 5] rfl
  have hD : kd A [X4W g oF (kFr oC oS oH oR oT oB) F, X0W g oC rC C.1 C.2, X0W g oS rS S.1 S.2, X2W g oH rH vH oQ rQ aH, X3W g oR rR R kA0, X1W g oT rT T.1 T.2, JOW oB q ml (nI ln.2), JAW g q n f] := hD.pick [6, 7, 0, 1, 2, 3, 4, 5] rfl rfl
  exact kL_ret K hP hD hS ⟨(if_pos hc).symm, ⟨oC, oS, oH, oR, oT, oB, rC, rS, rH, rR, rT, oQ, rQ, vH, aH, q, n, ml, f, rfl, hT4, hHi, hIv⟩⟩ ⟨Nat.le_of_ble_eq_true rfl, Nat.le_of_ble_eq_true rfl⟩ dL_honest_5
abbrev wL_pays : List Cond := Cond.codeWith yL_pays cL_pays 4 (some .int) [(0, 6, 7, 55), (0, 6, 12, 60)] :: kW
set_option maxHeartbeats 4000000 in
set_option maxRecDepth 100000 in
theorem L_pays_c (l : Launch) (hfl : l.stackTraces = false) (g : kG) (oF : Nat) (F : Nat → Int32) (C S : kK) (h : List kK) (R : Nat → Int32) (T : kK) (ln : kTx) (cs : List va_W) (hO : kOb g oF F C S h R T ln cs) (p0 : Int32) (p1 : Int32) : kL kX0 l yL_pays wL_pays 8 124 2 12 g [.ref oF, .int p0, .int p1] cs (fun x u => x = kA2 2 (X4_pays_f kF0 C.1 C.2 p0 p1) ∧ kOb g oF F C S h R T ln u) := by
  obtain ⟨oC, oS, oH, oR, oT, oB, rC, rS, rH, rR, rT, oQ, rQ, vH, aH, q, n, ml, f, rfl, hT4, hHi, hIv⟩ := hO
  have hI := hIv.1
  have hTx := hIv.2.2.2.1
  obtain ⟨⟨nb, hnb, hv7⟩, ⟨nj, hnj, hv4⟩, hM⟩ := id hI
  refine kLg_of (cc := cL_pays) (nL := 4) (ret := some .int) (lv := [(0, .ref oF), (1, .int p0), (2, .int p1)]) (by decide) rfl (Nat.le_of_ble_eq_true rfl) rfl ?_
  intro p e s m args below meth c ls A htab hN hX K hP hD hE hA hS hl
  have K : kC p c cL_pays s m args meth RL g 4 (some .int) := K
  have hx := K.1.1
  have hb := K.1.2.1
  have hts := K.1.2.2.2.2
  refine lv_aload_n hx hb dL_pays_0 rfl (lv_at hl 0 rfl) ?_
  refine lv_iload_n hx hb dL_pays_1 rfl (lv_at hl 1 rfl) ?_
  refine lv_iload_n hx hb dL_pays_2 rfl (lv_at hl 2 rfl) ?_
  refine kX_V (As := [.int p0, .int p1]) (rest := []) (wr := [X0W g oS rS S.1 S.2, X2W g oH rH vH oQ rQ aH, X3W g oR rR R kA0, X1W g oT rT T.1 T.2, JOW oB q ml (nI ln.2), JAW g q n f]) K (X4_pays_c l g oF F oS oH oR oT oB oC rC C.1 C.2 p0 p1 hfl) (cwV 2 hts (k_gV kw821 ca_X4_pays) rfl rfl rfl ⟨rfl, pnX4_pays⟩ ⟨Nat.le_of_ble_eq_true rfl, Nat.le_of_ble_eq_true rfl⟩) hE hS hA hP hD [0, 1] [2, 3, 4, 5, 6, 7] rfl rfl ⟨rfl, rfl, by decide⟩ (k_recv K kFX4 hP (i := 0) (q := 0) rfl rfl) rfl hl.1 rfl rfl dL_pays_3 ⟨Nat.le_of_ble_eq_true rfl, Nat.le_of_ble_eq_true rfl⟩ (fun E u H locs qE ce hp hP hD hS hce hcv hcl => ?_) (fun r u H locs hp hP hD hS => ?_)
  · obtain ⟨hc, hE2, hu⟩ := hp
    subst hu
    have hP : kp g [X4W g oF (kFr oC oS oH oR oT oB) F, X0W g oC rC C.1 C.2, X0W g oS rS S.1 S.2, X2W g oH rH vH oQ rQ aH, X3W g oR rR R kA0, X1W g oT rT T.1 T.2, JOW oB q ml (nI ln.2), JAW g q n f] H := hP.pick [6, 7, 0, 1, 2, 3, 4, 5] rfl
    have hD : kd A [X4W g oF (kFr oC oS oH oR oT oB) F, X0W g oC rC C.1 C.2, X0W g oS rS S.1 S.2, X2W g oH rH vH oQ rQ aH, X3W g oR rR R kA0, X1W g oT rT T.1 T.2, JOW oB q ml (nI ln.2), JAW g q n f] := hD.pick [6, 7, 0, 1, 2, 3, 4, 5] rfl rfl
    rcases (kK_pays : (X4_pays_f kF0 C.1 C.2 p0 p1).1 = 0 ∨ (X4_pays_f kF0 C.1 C.2 p0 p1).1 = 2 ∨ (X4_pays_f kF0 C.1 C.2 p0 p1).1 = 3) with h0 | h2 | h3
    · exact absurd h0 hc
    · have hE3 : E = "java/lang/IndexOutOfBoundsException" := hE2.trans (congrArg kEx h2)
      subst hE3
      refine kx_catch1 (E := "java/lang/IndexOutOfBoundsException") K htab rfl (by decide) kw708 (List.mem_of_getElem? (i := 85) rfl) hce hcv hcl ?_
      refine lv_astore_n (lv' := [(3, .ref qE), (0, .ref oF), (1, .int p0), (2, .int p1)]) hx hb dL_pays_7 rfl hl (by decide) rfl (fun ls hl => ?_)
      refine lv_sipush (v := (-1001)) hx hb dL_pays_8 (by decide) ?_
      exact kL_ret K hP hD hS ⟨by unfold kA2; rw [if_neg (by rw [h2]; decide), if_pos h2], ⟨oC, oS, oH, oR, oT, oB, rC, rS, rH, rR, rT, oQ, rQ, vH, aH, q, n, ml, f, rfl, hT4, hHi, hIv⟩⟩ ⟨Nat.le_of_ble_eq_true rfl, Nat.le_of_ble_eq_true rfl⟩ dL_pays_11
    · have hE3 : E = "java/lang/IllegalArgumentException" := hE2.trans (congrArg kEx h3)
      subst hE3
      refine kx_catch2 (E := "java/lang/IllegalArgumentException") (F := "java/lang/IndexOutOfBoundsException") K htab (by decide) kw708 hN.1 rfl (by decide) kw732 (List.mem_of_getElem? (i := 86) rfl) hce hcv hcl ?_
      refine lv_astore_n (lv' := [(3, .ref qE), (0, .ref oF), (1, .int p0), (2, .int p1)]) hx hb dL_pays_12 rfl hl (by decide) rfl (fun ls hl => ?_)
      refine lv_sipush (v := (-1002)) hx hb dL_pays_13 (by decide) ?_
      exact kL_ret K hP hD hS ⟨by unfold kA2; rw [if_neg (by rw [h3]; decide), if_neg (by rw [h3]; decide)], ⟨oC, oS, oH, oR, oT, oB, rC, rS, rH, rR, rT, oQ, rQ, vH, aH, q, n, ml, f, rfl, hT4, hHi, hIv⟩⟩ ⟨Nat.le_of_ble_eq_true rfl, Nat.le_of_ble_eq_true rfl⟩ dL_pays_16
  obtain ⟨hc, hr, hu⟩ := hp
  subst hu
  subst hr
  have hP : kp g [X4W g oF (kFr oC oS oH oR oT oB) F, X0W g oC rC C.1 C.2, X0W g oS rS S.1 S.2, X2W g oH rH vH oQ rQ aH, X3W g oR rR R kA0, X1W g oT rT T.1 T.2, JOW oB q ml (nI ln.2), JAW g q n f] H := hP.pick [6, 7, 0, 1, 2, 3, 4, 5] rfl
  have hD : kd A [X4W g oF (kFr oC oS oH oR oT oB) F, X0W g oC rC C.1 C.2, X0W g oS rS S.1 S.2, X2W g oH rH vH oQ rQ aH, X3W g oR rR R kA0, X1W g oT rT T.1 T.2, JOW oB q ml (nI ln.2), JAW g q n f] := hD.pick [6, 7, 0, 1, 2, 3, 4, 5] rfl rfl
  exact kL_ret K hP hD hS ⟨(if_pos hc).symm, ⟨oC, oS, oH, oR, oT, oB, rC, rS, rH, rR, rT, oQ, rQ, vH, aH, q, n, ml, f, rfl, hT4, hHi, hIv⟩⟩ ⟨Nat.le_of_ble_eq_true rfl, Nat.le_of_ble_eq_true rfl⟩ dL_pays_6
abbrev wL_wouldGet : List Cond := Cond.codeWith yL_wouldGet cL_wouldGet 4 (some .int) [(0, 6, 7, 55), (0, 6, 12, 86)] :: kW
set_option maxHeartbeats 4000000 in
set_option maxRecDepth 100000 in
theorem L_wouldGet_c (l : Launch) (hfl : l.stackTraces = false) (g : kG) (oF : Nat) (F : Nat → Int32) (C S : kK) (h : List kK) (R : Nat → Int32) (T : kK) (ln : kTx) (cs : List va_W) (hO : kOb g oF F C S h R T ln cs) (p0 : Int32) (p1 : Int32) : kL kX0 l yL_wouldGet wL_wouldGet 8 125 3 18 g [.ref oF, .int p0, .int p1] cs (fun x u => x = kA2 2 (X4_wouldGet_f kF0 C.1 C.2 p0 p1) ∧ kOb g oF F C S h R T ln u) := by
  obtain ⟨oC, oS, oH, oR, oT, oB, rC, rS, rH, rR, rT, oQ, rQ, vH, aH, q, n, ml, f, rfl, hT4, hHi, hIv⟩ := hO
  have hI := hIv.1
  have hTx := hIv.2.2.2.1
  obtain ⟨⟨nb, hnb, hv7⟩, ⟨nj, hnj, hv4⟩, hM⟩ := id hI
  refine kLg_of (cc := cL_wouldGet) (nL := 4) (ret := some .int) (lv := [(0, .ref oF), (1, .int p0), (2, .int p1)]) (by decide) rfl (Nat.le_of_ble_eq_true rfl) rfl ?_
  intro p e s m args below meth c ls A htab hN hX K hP hD hE hA hS hl
  have K : kC p c cL_wouldGet s m args meth RL g 4 (some .int) := K
  have hx := K.1.1
  have hb := K.1.2.1
  have hts := K.1.2.2.2.2
  refine lv_aload_n hx hb dL_wouldGet_0 rfl (lv_at hl 0 rfl) ?_
  refine lv_iload_n hx hb dL_wouldGet_1 rfl (lv_at hl 1 rfl) ?_
  refine lv_iload_n hx hb dL_wouldGet_2 rfl (lv_at hl 2 rfl) ?_
  refine kX_V (As := [.int p0, .int p1]) (rest := []) (wr := [X0W g oS rS S.1 S.2, X2W g oH rH vH oQ rQ aH, X3W g oR rR R kA0, X1W g oT rT T.1 T.2, JOW oB q ml (nI ln.2), JAW g q n f]) K (X4_wouldGet_c l g oF F oS oH oR oT oB oC rC C.1 C.2 p0 p1 nb hnb hv7 hfl) (cwV 2 hts (k_gV kw1391 ca_X4_wouldGet) rfl rfl rfl ⟨rfl, pnX4_wouldGet⟩ ⟨Nat.le_of_ble_eq_true rfl, Nat.le_of_ble_eq_true rfl⟩) hE hS hA hP hD [0, 1] [2, 3, 4, 5, 6, 7] rfl rfl ⟨rfl, rfl, by decide⟩ (k_recv K kFX4 hP (i := 0) (q := 0) rfl rfl) rfl hl.1 rfl rfl dL_wouldGet_3 ⟨Nat.le_of_ble_eq_true rfl, Nat.le_of_ble_eq_true rfl⟩ (fun E u H locs qE ce hp hP hD hS hce hcv hcl => ?_) (fun r u H locs hp hP hD hS => ?_)
  · obtain ⟨hc, hE2, hu⟩ := hp
    subst hu
    have hP : kp g [X4W g oF (kFr oC oS oH oR oT oB) F, X0W g oC rC C.1 C.2, X0W g oS rS S.1 S.2, X2W g oH rH vH oQ rQ aH, X3W g oR rR R kA0, X1W g oT rT T.1 T.2, JOW oB q ml (nI ln.2), JAW g q n f] H := hP.pick [6, 7, 0, 1, 2, 3, 4, 5] rfl
    have hD : kd A [X4W g oF (kFr oC oS oH oR oT oB) F, X0W g oC rC C.1 C.2, X0W g oS rS S.1 S.2, X2W g oH rH vH oQ rQ aH, X3W g oR rR R kA0, X1W g oT rT T.1 T.2, JOW oB q ml (nI ln.2), JAW g q n f] := hD.pick [6, 7, 0, 1, 2, 3, 4, 5] rfl rfl
    rcases (kK_wouldGet : (X4_wouldGet_f kF0 C.1 C.2 p0 p1).1 = 0 ∨ (X4_wouldGet_f kF0 C.1 C.2 p0 p1).1 = 2 ∨ (X4_wouldGet_f kF0 C.1 C.2 p0 p1).1 = 4) with h0 | h2 | h4
    · exact absurd h0 hc
    · have hE3 : E = "java/lang/IndexOutOfBoundsException" := hE2.trans (congrArg kEx h2)
      subst hE3
      refine kx_catch1 (E := "java/lang/IndexOutOfBoundsException") K htab rfl (by decide) kw708 (List.mem_of_getElem? (i := 85) rfl) hce hcv hcl ?_
      refine lv_astore_n (lv' := [(3, .ref qE), (0, .ref oF), (1, .int p0), (2, .int p1)]) hx hb dL_wouldGet_7 rfl hl (by decide) rfl (fun ls hl => ?_)
      refine lv_sipush (v := (-1001)) hx hb dL_wouldGet_8 (by decide) ?_
      exact kL_ret K hP hD hS ⟨by unfold kA2; rw [if_neg (by rw [h2]; decide), if_pos h2], ⟨oC, oS, oH, oR, oT, oB, rC, rS, rH, rR, rT, oQ, rQ, vH, aH, q, n, ml, f, rfl, hT4, hHi, hIv⟩⟩ ⟨Nat.le_of_ble_eq_true rfl, Nat.le_of_ble_eq_true rfl⟩ dL_wouldGet_11
    · have hE3 : E = "java/util/NoSuchElementException" := hE2.trans (congrArg kEx h4)
      subst hE3
      refine kx_catch2 (E := "java/util/NoSuchElementException") (F := "java/lang/IndexOutOfBoundsException") K htab (by decide) kw708 hN.2.1 rfl (by decide) kw1000 (List.mem_of_getElem? (i := 87) rfl) hce hcv hcl ?_
      refine lv_astore_n (lv' := [(3, .ref qE), (0, .ref oF), (1, .int p0), (2, .int p1)]) hx hb dL_wouldGet_12 rfl hl (by decide) rfl (fun ls hl => ?_)
      refine lv_sipush (v := (-1002)) hx hb dL_wouldGet_13 (by decide) ?_
      exact kL_ret K hP hD hS ⟨by unfold kA2; rw [if_neg (by rw [h4]; decide), if_neg (by rw [h4]; decide)], ⟨oC, oS, oH, oR, oT, oB, rC, rS, rH, rR, rT, oQ, rQ, vH, aH, q, n, ml, f, rfl, hT4, hHi, hIv⟩⟩ ⟨Nat.le_of_ble_eq_true rfl, Nat.le_of_ble_eq_true rfl⟩ dL_wouldGet_16
  obtain ⟨hc, hr, hu⟩ := hp
  subst hu
  subst hr
  have hP : kp g [X4W g oF (kFr oC oS oH oR oT oB) F, X0W g oC rC C.1 C.2, X0W g oS rS S.1 S.2, X2W g oH rH vH oQ rQ aH, X3W g oR rR R kA0, X1W g oT rT T.1 T.2, JOW oB q ml (nI ln.2), JAW g q n f] H := hP.pick [6, 7, 0, 1, 2, 3, 4, 5] rfl
  have hD : kd A [X4W g oF (kFr oC oS oH oR oT oB) F, X0W g oC rC C.1 C.2, X0W g oS rS S.1 S.2, X2W g oH rH vH oQ rQ aH, X3W g oR rR R kA0, X1W g oT rT T.1 T.2, JOW oB q ml (nI ln.2), JAW g q n f] := hD.pick [6, 7, 0, 1, 2, 3, 4, 5] rfl rfl
  exact kL_ret K hP hD hS ⟨(if_pos hc).symm, ⟨oC, oS, oH, oR, oT, oB, rC, rS, rH, rR, rT, oQ, rQ, vH, aH, q, n, ml, f, rfl, hT4, hHi, hIv⟩⟩ ⟨Nat.le_of_ble_eq_true rfl, Nat.le_of_ble_eq_true rfl⟩ dL_wouldGet_6
abbrev wL_bestMarket : List Cond := Cond.codeWith yL_bestMarket cL_bestMarket 3 (some .int) [(0, 5, 6, 55), (0, 5, 11, 86)] :: kW
set_option maxHeartbeats 4000000 in
set_option maxRecDepth 100000 in
theorem L_bestMarket_c (l : Launch) (hfl : l.stackTraces = false) (g : kG) (oF : Nat) (F : Nat → Int32) (C S : kK) (h : List kK) (R : Nat → Int32) (T : kK) (ln : kTx) (cs : List va_W) (hO : kOb g oF F C S h R T ln cs) (p0 : Int32) : kL kX0 l yL_bestMarket wL_bestMarket 8 124 2 12 g [.ref oF, .int p0] cs (fun x u => x = kA2 2 (X4_bestMarket_f kF0 C.1 C.2 p0) ∧ kOb g oF F C S h R T ln u) := by
  obtain ⟨oC, oS, oH, oR, oT, oB, rC, rS, rH, rR, rT, oQ, rQ, vH, aH, q, n, ml, f, rfl, hT4, hHi, hIv⟩ := hO
  have hI := hIv.1
  have hTx := hIv.2.2.2.1
  obtain ⟨⟨nb, hnb, hv7⟩, ⟨nj, hnj, hv4⟩, hM⟩ := id hI
  refine kLg_of (cc := cL_bestMarket) (nL := 3) (ret := some .int) (lv := [(0, .ref oF), (1, .int p0)]) (by decide) rfl (Nat.le_of_ble_eq_true rfl) rfl ?_
  intro p e s m args below meth c ls A htab hN hX K hP hD hE hA hS hl
  have K : kC p c cL_bestMarket s m args meth RL g 3 (some .int) := K
  have hx := K.1.1
  have hb := K.1.2.1
  have hts := K.1.2.2.2.2
  refine lv_aload_n hx hb dL_bestMarket_0 rfl (lv_at hl 0 rfl) ?_
  refine lv_iload_n hx hb dL_bestMarket_1 rfl (lv_at hl 1 rfl) ?_
  refine kX_V (As := [.int p0]) (rest := []) (wr := [X0W g oS rS S.1 S.2, X2W g oH rH vH oQ rQ aH, X3W g oR rR R kA0, X1W g oT rT T.1 T.2, JOW oB q ml (nI ln.2), JAW g q n f]) K (X4_bestMarket_c l g oF F oS oH oR oT oB oC rC C.1 C.2 p0 nb hnb hv7 hM hfl) (cwV 1 hts (k_gV kw1405 ca_X4_bestMarket) rfl rfl rfl ⟨rfl, pnX4_bestMarket⟩ ⟨Nat.le_of_ble_eq_true rfl, Nat.le_of_ble_eq_true rfl⟩) hE hS hA hP hD [0, 1] [2, 3, 4, 5, 6, 7] rfl rfl ⟨rfl, rfl, by decide⟩ (k_recv K kFX4 hP (i := 0) (q := 0) rfl rfl) rfl hl.1 rfl rfl dL_bestMarket_2 ⟨Nat.le_of_ble_eq_true rfl, Nat.le_of_ble_eq_true rfl⟩ (fun E u H locs qE ce hp hP hD hS hce hcv hcl => ?_) (fun r u H locs hp hP hD hS => ?_)
  · obtain ⟨hc, hE2, hu⟩ := hp
    subst hu
    have hP : kp g [X4W g oF (kFr oC oS oH oR oT oB) F, X0W g oC rC C.1 C.2, X0W g oS rS S.1 S.2, X2W g oH rH vH oQ rQ aH, X3W g oR rR R kA0, X1W g oT rT T.1 T.2, JOW oB q ml (nI ln.2), JAW g q n f] H := hP.pick [6, 7, 0, 1, 2, 3, 4, 5] rfl
    have hD : kd A [X4W g oF (kFr oC oS oH oR oT oB) F, X0W g oC rC C.1 C.2, X0W g oS rS S.1 S.2, X2W g oH rH vH oQ rQ aH, X3W g oR rR R kA0, X1W g oT rT T.1 T.2, JOW oB q ml (nI ln.2), JAW g q n f] := hD.pick [6, 7, 0, 1, 2, 3, 4, 5] rfl rfl
    rcases (kK_bestMarket : (X4_bestMarket_f kF0 C.1 C.2 p0).1 = 0 ∨ (X4_bestMarket_f kF0 C.1 C.2 p0).1 = 2 ∨ (X4_bestMarket_f kF0 C.1 C.2 p0).1 = 4) with h0 | h2 | h4
    · exact absurd h0 hc
    · have hE3 : E = "java/lang/IndexOutOfBoundsException" := hE2.trans (congrArg kEx h2)
      subst hE3
      refine kx_catch1 (E := "java/lang/IndexOutOfBoundsException") K htab rfl (by decide) kw708 (List.mem_of_getElem? (i := 85) rfl) hce hcv hcl ?_
      refine lv_astore_n (lv' := [(2, .ref qE), (0, .ref oF), (1, .int p0)]) hx hb dL_bestMarket_6 rfl hl (by decide) rfl (fun ls hl => ?_)
      refine lv_sipush (v := (-1001)) hx hb dL_bestMarket_7 (by decide) ?_
      exact kL_ret K hP hD hS ⟨by unfold kA2; rw [if_neg (by rw [h2]; decide), if_pos h2], ⟨oC, oS, oH, oR, oT, oB, rC, rS, rH, rR, rT, oQ, rQ, vH, aH, q, n, ml, f, rfl, hT4, hHi, hIv⟩⟩ ⟨Nat.le_of_ble_eq_true rfl, Nat.le_of_ble_eq_true rfl⟩ dL_bestMarket_10
    · have hE3 : E = "java/util/NoSuchElementException" := hE2.trans (congrArg kEx h4)
      subst hE3
      refine kx_catch2 (E := "java/util/NoSuchElementException") (F := "java/lang/IndexOutOfBoundsException") K htab (by decide) kw708 hN.2.1 rfl (by decide) kw1000 (List.mem_of_getElem? (i := 87) rfl) hce hcv hcl ?_
      refine lv_astore_n (lv' := [(2, .ref qE), (0, .ref oF), (1, .int p0)]) hx hb dL_bestMarket_11 rfl hl (by decide) rfl (fun ls hl => ?_)
      refine lv_sipush (v := (-1002)) hx hb dL_bestMarket_12 (by decide) ?_
      exact kL_ret K hP hD hS ⟨by unfold kA2; rw [if_neg (by rw [h4]; decide), if_neg (by rw [h4]; decide)], ⟨oC, oS, oH, oR, oT, oB, rC, rS, rH, rR, rT, oQ, rQ, vH, aH, q, n, ml, f, rfl, hT4, hHi, hIv⟩⟩ ⟨Nat.le_of_ble_eq_true rfl, Nat.le_of_ble_eq_true rfl⟩ dL_bestMarket_15
  obtain ⟨hc, hr, hu⟩ := hp
  subst hu
  subst hr
  have hP : kp g [X4W g oF (kFr oC oS oH oR oT oB) F, X0W g oC rC C.1 C.2, X0W g oS rS S.1 S.2, X2W g oH rH vH oQ rQ aH, X3W g oR rR R kA0, X1W g oT rT T.1 T.2, JOW oB q ml (nI ln.2), JAW g q n f] H := hP.pick [6, 7, 0, 1, 2, 3, 4, 5] rfl
  have hD : kd A [X4W g oF (kFr oC oS oH oR oT oB) F, X0W g oC rC C.1 C.2, X0W g oS rS S.1 S.2, X2W g oH rH vH oQ rQ aH, X3W g oR rR R kA0, X1W g oT rT T.1 T.2, JOW oB q ml (nI ln.2), JAW g q n f] := hD.pick [6, 7, 0, 1, 2, 3, 4, 5] rfl rfl
  exact kL_ret K hP hD hS ⟨(if_pos hc).symm, ⟨oC, oS, oH, oR, oT, oB, rC, rS, rH, rR, rT, oQ, rQ, vH, aH, q, n, ml, f, rfl, hT4, hHi, hIv⟩⟩ ⟨Nat.le_of_ble_eq_true rfl, Nat.le_of_ble_eq_true rfl⟩ dL_bestMarket_5
abbrev wL_oathUntil : List Cond := Cond.codeWith yL_oathUntil cL_oathUntil 3 (some .int) [(0, 5, 6, 55), (0, 5, 11, 86)] :: kW
set_option maxHeartbeats 4000000 in
set_option maxRecDepth 100000 in
theorem L_oathUntil_c (l : Launch) (hfl : l.stackTraces = false) (g : kG) (oF : Nat) (F : Nat → Int32) (C S : kK) (h : List kK) (R : Nat → Int32) (T : kK) (ln : kTx) (cs : List va_W) (hO : kOb g oF F C S h R T ln cs) (p0 : Int32) : kL kX0 l yL_oathUntil wL_oathUntil 8 123 2 12 g [.ref oF, .int p0] cs (fun x u => x = kA2 2 (X4_oathUntil_f kF0 C.1 C.2 p0) ∧ kOb g oF F C S h R T ln u) := by
  obtain ⟨oC, oS, oH, oR, oT, oB, rC, rS, rH, rR, rT, oQ, rQ, vH, aH, q, n, ml, f, rfl, hT4, hHi, hIv⟩ := hO
  have hI := hIv.1
  have hTx := hIv.2.2.2.1
  obtain ⟨⟨nb, hnb, hv7⟩, ⟨nj, hnj, hv4⟩, hM⟩ := id hI
  refine kLg_of (cc := cL_oathUntil) (nL := 3) (ret := some .int) (lv := [(0, .ref oF), (1, .int p0)]) (by decide) rfl (Nat.le_of_ble_eq_true rfl) rfl ?_
  intro p e s m args below meth c ls A htab hN hX K hP hD hE hA hS hl
  have K : kC p c cL_oathUntil s m args meth RL g 3 (some .int) := K
  have hx := K.1.1
  have hb := K.1.2.1
  have hts := K.1.2.2.2.2
  refine lv_aload_n hx hb dL_oathUntil_0 rfl (lv_at hl 0 rfl) ?_
  refine lv_iload_n hx hb dL_oathUntil_1 rfl (lv_at hl 1 rfl) ?_
  refine kX_V (As := [.int p0]) (rest := []) (wr := [X0W g oS rS S.1 S.2, X2W g oH rH vH oQ rQ aH, X3W g oR rR R kA0, X1W g oT rT T.1 T.2, JOW oB q ml (nI ln.2), JAW g q n f]) K (X4_oathUntil_c l g oF F oS oH oR oT oB oC rC C.1 C.2 p0 hfl) (cwV 1 hts (k_gV kw1433 ca_X4_oathUntil) rfl rfl rfl ⟨rfl, pnX4_oathUntil⟩ ⟨Nat.le_of_ble_eq_true rfl, Nat.le_of_ble_eq_true rfl⟩) hE hS hA hP hD [0, 1] [2, 3, 4, 5, 6, 7] rfl rfl ⟨rfl, rfl, by decide⟩ (k_recv K kFX4 hP (i := 0) (q := 0) rfl rfl) rfl hl.1 rfl rfl dL_oathUntil_2 ⟨Nat.le_of_ble_eq_true rfl, Nat.le_of_ble_eq_true rfl⟩ (fun E u H locs qE ce hp hP hD hS hce hcv hcl => ?_) (fun r u H locs hp hP hD hS => ?_)
  · obtain ⟨hc, hE2, hu⟩ := hp
    subst hu
    have hP : kp g [X4W g oF (kFr oC oS oH oR oT oB) F, X0W g oC rC C.1 C.2, X0W g oS rS S.1 S.2, X2W g oH rH vH oQ rQ aH, X3W g oR rR R kA0, X1W g oT rT T.1 T.2, JOW oB q ml (nI ln.2), JAW g q n f] H := hP.pick [6, 7, 0, 1, 2, 3, 4, 5] rfl
    have hD : kd A [X4W g oF (kFr oC oS oH oR oT oB) F, X0W g oC rC C.1 C.2, X0W g oS rS S.1 S.2, X2W g oH rH vH oQ rQ aH, X3W g oR rR R kA0, X1W g oT rT T.1 T.2, JOW oB q ml (nI ln.2), JAW g q n f] := hD.pick [6, 7, 0, 1, 2, 3, 4, 5] rfl rfl
    rcases (kK_oathUntil : (X4_oathUntil_f kF0 C.1 C.2 p0).1 = 0 ∨ (X4_oathUntil_f kF0 C.1 C.2 p0).1 = 2 ∨ (X4_oathUntil_f kF0 C.1 C.2 p0).1 = 4) with h0 | h2 | h4
    · exact absurd h0 hc
    · have hE3 : E = "java/lang/IndexOutOfBoundsException" := hE2.trans (congrArg kEx h2)
      subst hE3
      refine kx_catch1 (E := "java/lang/IndexOutOfBoundsException") K htab rfl (by decide) kw708 (List.mem_of_getElem? (i := 85) rfl) hce hcv hcl ?_
      refine lv_astore_n (lv' := [(2, .ref qE), (0, .ref oF), (1, .int p0)]) hx hb dL_oathUntil_6 rfl hl (by decide) rfl (fun ls hl => ?_)
      refine lv_sipush (v := (-1001)) hx hb dL_oathUntil_7 (by decide) ?_
      exact kL_ret K hP hD hS ⟨by unfold kA2; rw [if_neg (by rw [h2]; decide), if_pos h2], ⟨oC, oS, oH, oR, oT, oB, rC, rS, rH, rR, rT, oQ, rQ, vH, aH, q, n, ml, f, rfl, hT4, hHi, hIv⟩⟩ ⟨Nat.le_of_ble_eq_true rfl, Nat.le_of_ble_eq_true rfl⟩ dL_oathUntil_10
    · have hE3 : E = "java/util/NoSuchElementException" := hE2.trans (congrArg kEx h4)
      subst hE3
      refine kx_catch2 (E := "java/util/NoSuchElementException") (F := "java/lang/IndexOutOfBoundsException") K htab (by decide) kw708 hN.2.1 rfl (by decide) kw1000 (List.mem_of_getElem? (i := 87) rfl) hce hcv hcl ?_
      refine lv_astore_n (lv' := [(2, .ref qE), (0, .ref oF), (1, .int p0)]) hx hb dL_oathUntil_11 rfl hl (by decide) rfl (fun ls hl => ?_)
      refine lv_sipush (v := (-1002)) hx hb dL_oathUntil_12 (by decide) ?_
      exact kL_ret K hP hD hS ⟨by unfold kA2; rw [if_neg (by rw [h4]; decide), if_neg (by rw [h4]; decide)], ⟨oC, oS, oH, oR, oT, oB, rC, rS, rH, rR, rT, oQ, rQ, vH, aH, q, n, ml, f, rfl, hT4, hHi, hIv⟩⟩ ⟨Nat.le_of_ble_eq_true rfl, Nat.le_of_ble_eq_true rfl⟩ dL_oathUntil_15
  obtain ⟨hc, hr, hu⟩ := hp
  subst hu
  subst hr
  have hP : kp g [X4W g oF (kFr oC oS oH oR oT oB) F, X0W g oC rC C.1 C.2, X0W g oS rS S.1 S.2, X2W g oH rH vH oQ rQ aH, X3W g oR rR R kA0, X1W g oT rT T.1 T.2, JOW oB q ml (nI ln.2), JAW g q n f] H := hP.pick [6, 7, 0, 1, 2, 3, 4, 5] rfl
  have hD : kd A [X4W g oF (kFr oC oS oH oR oT oB) F, X0W g oC rC C.1 C.2, X0W g oS rS S.1 S.2, X2W g oH rH vH oQ rQ aH, X3W g oR rR R kA0, X1W g oT rT T.1 T.2, JOW oB q ml (nI ln.2), JAW g q n f] := hD.pick [6, 7, 0, 1, 2, 3, 4, 5] rfl rfl
  exact kL_ret K hP hD hS ⟨(if_pos hc).symm, ⟨oC, oS, oH, oR, oT, oB, rC, rS, rH, rR, rT, oQ, rQ, vH, aH, q, n, ml, f, rfl, hT4, hHi, hIv⟩⟩ ⟨Nat.le_of_ble_eq_true rfl, Nat.le_of_ble_eq_true rfl⟩ dL_oathUntil_5
